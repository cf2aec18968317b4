abbrev xc_e (ca ma : Nat → Nat) (σ : sg_T) (i : Nat) : va_E := .inr (ciC, [.int (nI i), va_rf ((sg_pr σ i).map ca), .int (sg_pk σ i), va_rf ((fo_g (fun m => decide (sg_mc σ m = i)) (sg_nm σ)).map ma)])
abbrev xm_e (ca ma : Nat → Nat) (σ : sg_T) (j : Nat) : va_E := .inr (ciN, [.ref (ca (sg_mc σ j)), .int (sg_kd σ j), .int (sg_mn σ j), .int (sg_ty σ j), .int (mb_i (sg_fx σ j)), .int (mb_i (sg_fn σ j)), .int (sg_rg σ j), .int (nI j), va_rf ((fo_g (fun m => decide (sg_mc σ m = sg_mc σ j)) j).map ma)])
def xw_ (G : mw_G) (M : mw_M) (x qc qm ql : Nat) (ca ma : Nat → Nat) (σ : sg_T) (rf : Int32) (lp : Nat → Int32) : Prop :=
  sg_W σ ∧
  M x = some ((0, 0), .inr (ciX, [.ref qc, .int (nI (sg_nc σ)), .ref qm, .int (nI (sg_nm σ)), .int rf, .ref ql])) ∧
  M qc = some ((1, 0), aC_ G 40 (fun i => if i < sg_nc σ then some (ca i) else none)) ∧
  M qm = some ((2, 0), aN_ G 200 (fun j => if j < sg_nm σ then some (ma j) else none)) ∧
  M ql = some ((3, 0), aI_ G 40 lp) ∧
  (∀ i, i < sg_nc σ → M (ca i) = some ((4, i), xc_e ca ma σ i)) ∧
  ∀ j, j < sg_nm σ → M (ma j) = some ((5, j), xm_e ca ma σ j)
section XW
variable {G : mw_G} {M : mw_M} {x qc qm ql : Nat} {ca ma : Nat → Nat} {σ : sg_T} {rf : Int32} {lp : Nat → Int32}
theorem xw_w (h : xw_ G M x qc qm ql ca ma σ rf lp) : sg_W σ := h.1
theorem xw_nc (h : xw_ G M x qc qm ql ca ma σ rf lp) : sg_nc σ ≤ 40 := h.1.1
theorem xw_nm (h : xw_ G M x qc qm ql ca ma σ rf lp) : sg_nm σ ≤ 200 := h.1.2.1
theorem xw_pr (h : xw_ G M x qc qm ql ca ma σ rf lp) {c p : Nat} (hc : c < sg_nc σ) (hp : sg_pr σ c = some p) : p < c := h.1.2.2.1 c p hc hp
theorem xw_mc (h : xw_ G M x qc qm ql ca ma σ rf lp) {m : Nat} (hm : m < sg_nm σ) : sg_mc σ m < sg_nc σ := h.1.2.2.2.1 m hm
theorem xw_x (h : xw_ G M x qc qm ql ca ma σ rf lp) : M x = some ((0, 0), .inr (ciX, [.ref qc, .int (nI (sg_nc σ)), .ref qm, .int (nI (sg_nm σ)), .int rf, .ref ql])) := h.2.1
theorem xw_qc (h : xw_ G M x qc qm ql ca ma σ rf lp) : M qc = some ((1, 0), aC_ G 40 (fun i => if i < sg_nc σ then some (ca i) else none)) := h.2.2.1
theorem xw_qm (h : xw_ G M x qc qm ql ca ma σ rf lp) : M qm = some ((2, 0), aN_ G 200 (fun j => if j < sg_nm σ then some (ma j) else none)) := h.2.2.2.1
theorem xw_ql (h : xw_ G M x qc qm ql ca ma σ rf lp) : M ql = some ((3, 0), aI_ G 40 lp) := h.2.2.2.2.1
theorem xw_c (h : xw_ G M x qc qm ql ca ma σ rf lp) {i : Nat} (hi : i < sg_nc σ) : M (ca i) = some ((4, i), xc_e ca ma σ i) := h.2.2.2.2.2.1 i hi
theorem xw_m (h : xw_ G M x qc qm ql ca ma σ rf lp) {j : Nat} (hj : j < sg_nm σ) : M (ma j) = some ((5, j), xm_e ca ma σ j) := h.2.2.2.2.2.2 j hj
theorem xw_ci (h : xw_ G M x qc qm ql ca ma σ rf lp) {i j : Nat} (hi : i < sg_nc σ) (hj : j < sg_nc σ) (he : ca i = ca j) : i = j := by
  have h1 := xw_c h hi
  rw [he, xw_c h hj] at h1
  have h2 := congrArg Prod.fst (Option.some.inj h1)
  exact (congrArg Prod.snd h2).symm
theorem xw_mi (h : xw_ G M x qc qm ql ca ma σ rf lp) {i j : Nat} (hi : i < sg_nm σ) (hj : j < sg_nm σ) (he : ma i = ma j) : i = j := by
  have h1 := xw_m h hi
  rw [he, xw_m h hj] at h1
  have h2 := congrArg Prod.fst (Option.some.inj h1)
  exact (congrArg Prod.snd h2).symm
theorem xw_cq (h : xw_ G M x qc qm ql ca ma σ rf lp) {i j : Nat} (hi : i < sg_nc σ) (hj : j < sg_nc σ) : some (ca i) = some (ca j) ↔ i = j := ⟨fun q => xw_ci h hi hj (Option.some.inj q), fun q => by rw [q]⟩
theorem xw_mq (h : xw_ G M x qc qm ql ca ma σ rf lp) {i j : Nat} (hi : i < sg_nm σ) (hj : j < sg_nm σ) : some (ma i) = some (ma j) ↔ i = j := ⟨fun q => xw_mi h hi hj (Option.some.inj q), fun q => by rw [q]⟩
theorem xw_lp (h : xw_ G M x qc qm ql ca ma σ rf lp) (lp' : Nat → Int32) : xw_ G (mw_up M ql ((3, 0), aI_ G 40 lp')) x qc qm ql ca ma σ rf lp' :=
  ⟨h.1, mw_oth (xw_ql h) (xw_x h) (by decide), mw_oth (xw_ql h) (xw_qc h) (by decide), mw_oth (xw_ql h) (xw_qm h) (by decide), mw_at, fun i hi => mw_oth (xw_ql h) (xw_c h hi) (by simp), fun j hj => mw_oth (xw_ql h) (xw_m h hj) (by simp)⟩
theorem xw_rf (h : xw_ G M x qc qm ql ca ma σ rf lp) (rf' : Int32) : xw_ G (mw_up M x ((0, 0), .inr (ciX, [.ref qc, .int (nI (sg_nc σ)), .ref qm, .int (nI (sg_nm σ)), .int rf', .ref ql]))) x qc qm ql ca ma σ rf' lp :=
  ⟨h.1, mw_at, mw_oth (xw_x h) (xw_qc h) (by decide), mw_oth (xw_x h) (xw_qm h) (by decide), mw_oth (xw_x h) (xw_ql h) (by decide), fun i hi => mw_oth (xw_x h) (xw_c h hi) (by simp), fun j hj => mw_oth (xw_x h) (xw_m h hj) (by simp)⟩
end XW
def kx_ (M M' : mw_M) : Prop := ∀ (a : Nat) (r : Nat × Nat) (e : va_E), M a = some (r, e) → 10 ≤ r.1 → M' a = some (r, e)
def ky_ (M M' : mw_M) : Prop := ∀ (a : Nat) (r : Nat × Nat) (e : va_E), M a = some (r, e) → r.1 < 10 → M' a = some (r, e)
theorem kx_rf {M : mw_M} : kx_ M M := fun _ _ _ h _ => h
theorem ky_rf {M : mw_M} : ky_ M M := fun _ _ _ h _ => h
theorem kx_tr {M1 M2 M3 : mw_M} (h : kx_ M1 M2) (g : kx_ M2 M3) : kx_ M1 M3 := fun a r e q hr => g a r e (h a r e q hr) hr
theorem ky_tr {M1 M2 M3 : mw_M} (h : ky_ M1 M2) (g : ky_ M2 M3) : ky_ M1 M3 := fun a r e q hr => g a r e (h a r e q hr) hr
theorem kx_up {M : mw_M} {a : Nat} {r : Nat × Nat} {e0 e : va_E} (h : M a = some (r, e0)) (hr : r.1 < 10) : kx_ M (mw_up M a (r, e)) := fun b t f q ht => by
  rw [mw_ne (ml_ne q h (fun z => by subst z; omega)), q]
theorem ky_up {M : mw_M} {a : Nat} {r : Nat × Nat} {e0 e : va_E} (h : M a = some (r, e0)) (hr : 10 ≤ r.1) : ky_ M (mw_up M a (r, e)) := fun b t f q ht => by
  rw [mw_ne (ml_ne q h (fun z => by subst z; omega)), q]
theorem kx_nw {M : mw_M} {a : Nat} {x : (Nat × Nat) × va_E} (h : M a = none) : kx_ M (mw_up M a x) := fun _ _ _ q _ => mw_old h q
theorem ky_nw {M : mw_M} {a : Nat} {x : (Nat × Nat) × va_E} (h : M a = none) : ky_ M (mw_up M a x) := fun _ _ _ q _ => mw_old h q
theorem xw_ky {G : mw_G} {M M' : mw_M} {x qc qm ql : Nat} {ca ma : Nat → Nat} {σ : sg_T} {rf : Int32} {lp : Nat → Int32} (h : xw_ G M x qc qm ql ca ma σ rf lp) (k : ky_ M M') : xw_ G M' x qc qm ql ca ma σ rf lp :=
  ⟨h.1, k _ _ _ (xw_x h) (by decide), k _ _ _ (xw_qc h) (by decide), k _ _ _ (xw_qm h) (by decide), k _ _ _ (xw_ql h) (by decide), fun i hi => k _ _ _ (xw_c h hi) (Nat.le_of_ble_eq_true rfl), fun j hj => k _ _ _ (xw_m h hj) (Nat.le_of_ble_eq_true rfl)⟩
