abbrev xo_e (qc qm ql : Nat) (nc nm rf : Int32) : va_E := .inr (ciX, [.ref qc, .int nc, .ref qm, .int nm, .int rf, .ref ql])
abbrev xn_e (h : Nat) (k n t : Int32) (st fn : Bool) (r num : Int32) (e : Value) : va_E := .inr (ciN, [.ref h, .int k, .int n, .int t, .int (mb_i st), .int (mb_i fn), .int r, .int num, e])
def px_ (G : mw_G) (x qc qm ql : Nat) (v0 : Option Value) (σ : sg_T) (rf : Int32) (M : mw_M) : Option Value → mw_M → Prop := fun v M' => v = v0 ∧ (∃ (ca ma : Nat → Nat) (lp : Nat → Int32), xw_ G M' x qc qm ql ca ma σ rf lp) ∧ kx_ M M'
section XS
variable {G : mw_G} {M : mw_M} {x qc qm ql : Nat} {ca ma : Nat → Nat} {σ : sg_T} {rf : Int32} {lp : Nat → Int32}
theorem fo_ad {f : Nat → Nat} {n c i : Nat} (k : Nat) (hk : k ≤ n) : fo_g (fun m => decide (va_up f n c m = i)) k = fo_g (fun m => decide (f m = i)) k := fo_cg fun m hm => by rw [up_lt (by omega)]
theorem map_ad {ma : Nat → Nat} {n xa : Nat} {o : Option Nat} (h : ∀ i, o = some i → i < n) : o.map (va_up ma n xa) = o.map ma := by
  cases o with
  | none => rfl
  | some i => show some (va_up ma n xa i) = some (ma i); rw [up_lt (h i rfl)]
theorem xw_add (hw : xw_ G M x qc qm ql ca ma σ rf lp) {c xa : Nat} {e0 : va_E} {k n t r : Int32} {st fn : Bool} (hc : c < sg_nc σ) (hxa : M xa = some ((5, sg_nm σ), e0)) (hW : sg_W (sg_ad σ c k n t st fn r)) :
    xw_ G (mw_up (mw_up (mw_up (mw_up (mw_up M x ((0, 0), xo_e qc qm ql (nI (sg_nc σ)) (nI (sg_nm σ)) 0)) xa ((5, sg_nm σ), xn_e (ca c) k n t st fn r (nI (sg_nm σ)) (va_rf ((fo_g (fun m => decide (sg_mc σ m = c)) (sg_nm σ)).map ma)))) (ca c) ((4, c), .inr (ciC, [.int (nI c), va_rf ((sg_pr σ c).map ca), .int (sg_pk σ c), .ref xa]))) qm ((2, 0), aN_ G 200 (va_up (fun j => if j < sg_nm σ then some (ma j) else none) (sg_nm σ) (some xa)))) x ((0, 0), xo_e qc qm ql (nI (sg_nc σ)) (nI (sg_nm σ + 1)) 0))
      x qc qm ql ca (va_up ma (sg_nm σ) xa) (sg_ad σ c k n t st fn r) 0 lp := by
  have hcc := xw_c hw hc
  have n1 : qc ≠ x := ml_ne (xw_qc hw) (xw_x hw) (by simp)
  have n2 : qm ≠ x := ml_ne (xw_qm hw) (xw_x hw) (by simp)
  have n3 : ql ≠ x := ml_ne (xw_ql hw) (xw_x hw) (by simp)
  have n4 : xa ≠ x := ml_ne hxa (xw_x hw) (by simp)
  have n5 : ∀ i, i < sg_nc σ → ca i ≠ x := fun i hi => ml_ne (xw_c hw hi) (xw_x hw) (by simp)
  have n6 : ∀ j, j < sg_nm σ → ma j ≠ x := fun j hj => ml_ne (xw_m hw hj) (xw_x hw) (by simp)
  have m1 : qc ≠ qm := ml_ne (xw_qc hw) (xw_qm hw) (by simp)
  have m3 : ql ≠ qm := ml_ne (xw_ql hw) (xw_qm hw) (by simp)
  have m4 : xa ≠ qm := ml_ne hxa (xw_qm hw) (by simp)
  have m5 : ∀ i, i < sg_nc σ → ca i ≠ qm := fun i hi => ml_ne (xw_c hw hi) (xw_qm hw) (by simp)
  have m6 : ∀ j, j < sg_nm σ → ma j ≠ qm := fun j hj => ml_ne (xw_m hw hj) (xw_qm hw) (by simp)
  have c1 : qc ≠ ca c := ml_ne (xw_qc hw) hcc (by simp)
  have c3 : ql ≠ ca c := ml_ne (xw_ql hw) hcc (by simp)
  have c4 : xa ≠ ca c := ml_ne hxa hcc (by simp)
  have c5 : ∀ i, i < sg_nc σ → i ≠ c → ca i ≠ ca c := fun i hi hic => ml_ne (xw_c hw hi) hcc (by simp [hic])
  have c6 : ∀ j, j < sg_nm σ → ma j ≠ ca c := fun j hj => ml_ne (xw_m hw hj) hcc (by simp)
  have a1 : qc ≠ xa := ml_ne (xw_qc hw) hxa (by simp)
  have a2 : qm ≠ xa := ml_ne (xw_qm hw) hxa (by simp)
  have a3 : ql ≠ xa := ml_ne (xw_ql hw) hxa (by simp)
  have a5 : ∀ i, i < sg_nc σ → ca i ≠ xa := fun i hi => ml_ne (xw_c hw hi) hxa (by simp)
  have a6 : ∀ j, j < sg_nm σ → ma j ≠ xa := fun j hj => ml_ne (xw_m hw hj) hxa (by simp; omega)
  refine ⟨hW, ?_, ?_, ?_, ?_, fun i hi => ?_, fun j hj => ?_⟩
  · rw [mw_at]; rfl
  · rw [mw_ne n1, mw_ne m1, mw_ne c1, mw_ne a1, mw_ne n1]; have h9 := xw_qc hw; exact h9
  · rw [mw_ne n2, mw_at]
    congr 5
    funext j
    show va_up _ _ _ j = if j < sg_nm σ + 1 then some (va_up ma (sg_nm σ) xa j) else none
    by_cases hj : j = sg_nm σ
    · rw [hj, va_up_self, va_up_self, if_pos (by omega)]
    · rw [va_up_ne _ _ hj, va_up_ne _ _ hj]
      by_cases h2 : j < sg_nm σ
      · rw [if_pos h2, if_pos (by omega)]
      · rw [if_neg h2, if_neg (by omega)]
  · rw [mw_ne n3, mw_ne m3, mw_ne c3, mw_ne a3, mw_ne n3]; exact xw_ql hw
  · have hi : i < sg_nc σ := hi
    rw [mw_ne (n5 i hi), mw_ne (m5 i hi)]
    by_cases hic : i = c
    · subst hic
      rw [mw_at]
      show some ((4, i), (.inr (ciC, [.int (nI i), va_rf ((sg_pr σ i).map ca), .int (sg_pk σ i), .ref xa]) : va_E)) = some ((4, i), .inr (ciC, [.int (nI i), va_rf ((sg_pr σ i).map ca), .int (sg_pk σ i), va_rf ((fo_g (fun m => decide (va_up (sg_mc σ) (sg_nm σ) i m = i)) (sg_nm σ + 1)).map (va_up ma (sg_nm σ) xa))]))
      rw [fo_s, va_up_self, if_pos (by simp)]
      show _ = some ((4, i), (.inr (ciC, [.int (nI i), va_rf ((sg_pr σ i).map ca), .int (sg_pk σ i), va_rf (some (va_up ma (sg_nm σ) xa (sg_nm σ)))]) : va_E))
      rw [va_up_self]
      rfl
    · rw [mw_ne (c5 i hi hic), mw_ne (a5 i hi), mw_ne (n5 i hi), xw_c hw hi]
      show some ((4, i), xc_e ca ma σ i) = some ((4, i), (.inr (ciC, [.int (nI i), va_rf ((sg_pr σ i).map ca), .int (sg_pk σ i), va_rf ((fo_g (fun m => decide (va_up (sg_mc σ) (sg_nm σ) c m = i)) (sg_nm σ + 1)).map (va_up ma (sg_nm σ) xa))]) : va_E))
      rw [fo_s, va_up_self, if_neg (by simp; exact fun q => hic q.symm), fo_ad _ (Nat.le_refl _), map_ad (fun q hq => (fo_some hq).1)]
  · have hj : j < sg_nm σ + 1 := hj
    by_cases hjn : j = sg_nm σ
    · subst hjn
      rw [va_up_self, mw_ne n4, mw_ne m4, mw_ne c4, mw_at]
      show _ = some ((5, sg_nm σ), (.inr (ciN, [.ref (ca (va_up (sg_mc σ) (sg_nm σ) c (sg_nm σ))), .int (va_up (sg_kd σ) (sg_nm σ) k (sg_nm σ)), .int (va_up (sg_mn σ) (sg_nm σ) n (sg_nm σ)), .int (va_up (sg_ty σ) (sg_nm σ) t (sg_nm σ)), .int (mb_i (va_up (sg_fx σ) (sg_nm σ) st (sg_nm σ))), .int (mb_i (va_up (sg_fn σ) (sg_nm σ) fn (sg_nm σ))), .int (va_up (sg_rg σ) (sg_nm σ) r (sg_nm σ)), .int (nI (sg_nm σ)), va_rf ((fo_g (fun m => decide (va_up (sg_mc σ) (sg_nm σ) c m = va_up (sg_mc σ) (sg_nm σ) c (sg_nm σ))) (sg_nm σ)).map (va_up ma (sg_nm σ) xa))]) : va_E))
      rw [va_up_self, va_up_self, va_up_self, va_up_self, va_up_self, va_up_self, va_up_self, fo_ad _ (Nat.le_refl _), map_ad (fun q hq => (fo_some hq).1)]
    · have hj2 : j < sg_nm σ := by omega
      rw [up_lt hj2, mw_ne (n6 j hj2), mw_ne (m6 j hj2), mw_ne (c6 j hj2), mw_ne (a6 j hj2), mw_ne (n6 j hj2), xw_m hw hj2]
      show _ = some ((5, j), (.inr (ciN, [.ref (ca (va_up (sg_mc σ) (sg_nm σ) c j)), .int (va_up (sg_kd σ) (sg_nm σ) k j), .int (va_up (sg_mn σ) (sg_nm σ) n j), .int (va_up (sg_ty σ) (sg_nm σ) t j), .int (mb_i (va_up (sg_fx σ) (sg_nm σ) st j)), .int (mb_i (va_up (sg_fn σ) (sg_nm σ) fn j)), .int (va_up (sg_rg σ) (sg_nm σ) r j), .int (nI j), va_rf ((fo_g (fun m => decide (va_up (sg_mc σ) (sg_nm σ) c m = va_up (sg_mc σ) (sg_nm σ) c j)) j).map (va_up ma (sg_nm σ) xa))]) : va_E))
      rw [up_lt hj2, up_lt hj2, up_lt hj2, up_lt hj2, up_lt hj2, up_lt hj2, up_lt hj2, fo_ad _ (by omega), map_ad (fun q hq => by have := (fo_some hq).1; omega)]
theorem xw_new (hw : xw_ G M x qc qm ql ca ma σ rf lp) {q : Nat} {e0 : va_E} {o : Option Nat} {k : Int32} (hq : M q = some ((4, sg_nc σ), e0)) (ho : ∀ p, o = some p → p < sg_nc σ) (hW : sg_W (sg_nw σ o k)) :
    xw_ G (mw_up (mw_up (mw_up M q ((4, sg_nc σ), .inr (ciC, [.int (nI (sg_nc σ)), va_rf (o.map ca), .int k, .null]))) qc ((1, 0), aC_ G 40 (va_up (fun i => if i < sg_nc σ then some (ca i) else none) (sg_nc σ) (some q)))) x ((0, 0), xo_e qc qm ql (nI (sg_nc σ + 1)) (nI (sg_nm σ)) rf))
      x qc qm ql (va_up ca (sg_nc σ) q) ma (sg_nw σ o k) rf lp := by
  have hmc : ∀ m, m < sg_nm σ → sg_mc σ m < sg_nc σ := fun m hm => xw_mc hw hm
  have n1 : qc ≠ x := ml_ne (xw_qc hw) (xw_x hw) (by simp)
  have n2 : qm ≠ x := ml_ne (xw_qm hw) (xw_x hw) (by simp)
  have n3 : ql ≠ x := ml_ne (xw_ql hw) (xw_x hw) (by simp)
  have n4 : q ≠ x := ml_ne hq (xw_x hw) (by simp)
  have n5 : ∀ i, i < sg_nc σ → ca i ≠ x := fun i hi => ml_ne (xw_c hw hi) (xw_x hw) (by simp)
  have n6 : ∀ j, j < sg_nm σ → ma j ≠ x := fun j hj => ml_ne (xw_m hw hj) (xw_x hw) (by simp)
  have m2 : qm ≠ qc := ml_ne (xw_qm hw) (xw_qc hw) (by simp)
  have m3 : ql ≠ qc := ml_ne (xw_ql hw) (xw_qc hw) (by simp)
  have m4 : q ≠ qc := ml_ne hq (xw_qc hw) (by simp)
  have m5 : ∀ i, i < sg_nc σ → ca i ≠ qc := fun i hi => ml_ne (xw_c hw hi) (xw_qc hw) (by simp)
  have m6 : ∀ j, j < sg_nm σ → ma j ≠ qc := fun j hj => ml_ne (xw_m hw hj) (xw_qc hw) (by simp)
  have a2 : qm ≠ q := ml_ne (xw_qm hw) hq (by simp)
  have a3 : ql ≠ q := ml_ne (xw_ql hw) hq (by simp)
  have a5 : ∀ i, i < sg_nc σ → ca i ≠ q := fun i hi => ml_ne (xw_c hw hi) hq (by simp; omega)
  have a6 : ∀ j, j < sg_nm σ → ma j ≠ q := fun j hj => ml_ne (xw_m hw hj) hq (by simp)
  refine ⟨hW, ?_, ?_, ?_, ?_, fun i hi => ?_, fun j hj => ?_⟩
  · rw [mw_at]; rfl
  · rw [mw_ne n1, mw_at]
    congr 5
    funext j
    show va_up _ _ _ j = if j < sg_nc σ + 1 then some (va_up ca (sg_nc σ) q j) else none
    by_cases hj : j = sg_nc σ
    · rw [hj, va_up_self, va_up_self, if_pos (by omega)]
    · rw [va_up_ne _ _ hj, va_up_ne _ _ hj]
      by_cases h2 : j < sg_nc σ
      · rw [if_pos h2, if_pos (by omega)]
      · rw [if_neg h2, if_neg (by omega)]
  · rw [mw_ne n2, mw_ne m2, mw_ne a2]; have h9 := xw_qm hw; exact h9
  · rw [mw_ne n3, mw_ne m3, mw_ne a3]; exact xw_ql hw
  · have hi : i < sg_nc σ + 1 := hi
    by_cases hin : i = sg_nc σ
    · subst hin
      rw [va_up_self, mw_ne n4, mw_ne m4, mw_at]
      show _ = some ((4, sg_nc σ), (.inr (ciC, [.int (nI (sg_nc σ)), va_rf ((va_up (sg_pr σ) (sg_nc σ) o (sg_nc σ)).map (va_up ca (sg_nc σ) q)), .int (va_up (sg_pk σ) (sg_nc σ) k (sg_nc σ)), va_rf ((fo_g (fun m => decide (sg_mc σ m = sg_nc σ)) (sg_nm σ)).map ma)]) : va_E))
      rw [va_up_self, va_up_self, map_ad ho, fo_no (fun m hm => by have := hmc m hm; simp; omega)]
      rfl
    · have hi2 : i < sg_nc σ := by omega
      rw [up_lt hi2, mw_ne (n5 i hi2), mw_ne (m5 i hi2), mw_ne (a5 i hi2), xw_c hw hi2]
      show _ = some ((4, i), (.inr (ciC, [.int (nI i), va_rf ((va_up (sg_pr σ) (sg_nc σ) o i).map (va_up ca (sg_nc σ) q)), .int (va_up (sg_pk σ) (sg_nc σ) k i), va_rf ((fo_g (fun m => decide (sg_mc σ m = i)) (sg_nm σ)).map ma)]) : va_E))
      rw [up_lt hi2, up_lt hi2, map_ad (fun p hp => by have := xw_pr hw hi2 hp; omega)]
  · have hj : j < sg_nm σ := hj
    rw [mw_ne (n6 j hj), mw_ne (m6 j hj), mw_ne (a6 j hj), xw_m hw hj]
    show _ = some ((5, j), (.inr (ciN, [.ref (va_up ca (sg_nc σ) q (sg_mc σ j)), .int (sg_kd σ j), .int (sg_mn σ j), .int (sg_ty σ j), .int (mb_i (sg_fx σ j)), .int (mb_i (sg_fn σ j)), .int (sg_rg σ j), .int (nI j), va_rf ((fo_g (fun m => decide (sg_mc σ m = sg_mc σ j)) j).map ma)]) : va_E))
    rw [up_lt (hmc j hj)]
theorem xw_old (hw : xw_ G M x qc qm ql ca ma σ rf lp) {q : Nat} {z : (Nat × Nat) × va_E} (hq : M q = none) : xw_ G (mw_up M q z) x qc qm ql ca ma σ rf lp :=
  ⟨hw.1, mw_old hq (xw_x hw), mw_old hq (xw_qc hw), mw_old hq (xw_qm hw), mw_old hq (xw_ql hw), fun i hi => mw_old hq (xw_c hw hi), fun j hj => mw_old hq (xw_m hw hj)⟩
theorem xw_set5 (hw : xw_ G M x qc qm ql ca ma σ rf lp) {q : Nat} {e0 e1 : va_E} (hq : M q = some ((5, sg_nm σ), e0)) : xw_ G (mw_up M q ((5, sg_nm σ), e1)) x qc qm ql ca ma σ rf lp :=
  ⟨hw.1, mw_oth hq (xw_x hw) (by simp), mw_oth hq (xw_qc hw) (by simp), mw_oth hq (xw_qm hw) (by simp), mw_oth hq (xw_ql hw) (by simp), fun i hi => mw_oth hq (xw_c hw hi) (by simp), fun j hj => mw_oth hq (xw_m hw hj) (by simp; omega)⟩
theorem xw_set4 (hw : xw_ G M x qc qm ql ca ma σ rf lp) {q : Nat} {e0 e1 : va_E} (hq : M q = some ((4, sg_nc σ), e0)) : xw_ G (mw_up M q ((4, sg_nc σ), e1)) x qc qm ql ca ma σ rf lp :=
  ⟨hw.1, mw_oth hq (xw_x hw) (by simp), mw_oth hq (xw_qc hw) (by simp), mw_oth hq (xw_qm hw) (by simp), mw_oth hq (xw_ql hw) (by simp), fun i hi => mw_oth hq (xw_c hw hi) (by simp; omega), fun j hj => mw_oth hq (xw_m hw hj) (by simp)⟩
end XS
