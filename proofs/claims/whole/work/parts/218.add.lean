section GC
variable {l : Launch} {G : mw_G} {M : mw_M} {x qc qm ql : Nat} {ca ma : Nat → Nat} {σ : sg_T} {rf : Int32} {lp : Nat → Int32}
set_option maxHeartbeats 4000000 in
set_option maxRecDepth 100000 in
theorem c_X_add (hw : xw_ G M x qc qm ql ca ma σ rf lp) {c xa : Nat} {k n t r : Int32} {st fn : Bool} (hc : c < sg_nc σ) (hk : (k = 0 ∧ t = 0) ∨ k = 1 ∨ (k = 2 ∧ n = 0)) (hxa : M xa = some ((5, sg_nm σ), xn_e (ca c) k n t st fn r (-1) .null)) : mw_C l G yX_add bX_add 3 (some .int) { frames := 5, cells := 0, slots := 0, locals := 200 } M [.ref x, .ref (ca c), .ref xa] (px_ G x qc qm ql (some (.int (if sg_nr σ c k n t st r = 0 then nI (sg_nm σ) else -1))) (if sg_nr σ c k n t st r = 0 then sg_ad σ c k n t st fn r else σ) (sg_nr σ c k n t st r) M) := by
  refine mw_of (by decide) (Nat.le_of_ble_eq_true rfl) ?_
  intro pg en s mi below meth cd F hr _ hM ls hl
  obtain ⟨hx, hb, -⟩ := id F
  have hl : lv_has ls 3 [(0, .ref x), (1, .ref (ca c)), (2, .ref xa)] := hl
  have hnm := xw_nm hw
  refine lv_aload_n hx hb dX_add_0 rfl (lv_at hl 0 rfl) ?_
  refine lv_aload_n hx hb dX_add_1 rfl (lv_at hl 0 rfl) ?_
  refine lv_aload_n hx hb dX_add_2 rfl (lv_at hl 1 rfl) ?_
  refine lv_aload_n hx hb dX_add_3 rfl (lv_at hl 2 rfl) ?_
  refine mw_Vl (As := [.ref (ca c), .ref xa]) (rest := [.ref x]) F (c_X_refusalOfNew hw hc hxa (by simp)) kb_X_refusalOfNew ki_X_refusalOfNew ks_X_refusalOfNew kl_X_125 hM (xw_x hw) rfl rfl hl.1 rfl (Nat.le_of_ble_eq_true rfl) dX_add_4 ⟨⟨Nat.le_of_ble_eq_true rfl, Nat.le_of_ble_eq_true rfl⟩, Nat.le_of_ble_eq_true rfl, Nat.le_of_ble_eq_true rfl⟩ ⟨rfl, rfl⟩ (fun lp1 H locs hM => ?_)
  have hw1 := xw_lp hw lp1
  have hxa1 := mw_oth (g := aI_ G 40 lp1) (xw_ql hw) hxa (by simp)
  have k1 : kx_ M (mw_up M ql ((3, 0), aI_ G 40 lp1)) := kx_up (xw_ql hw) (by decide)
  generalize mw_up M ql ((3, 0), aI_ G 40 lp1) = M1 at hM hw1 hxa1 k1
  refine pf_X_32 F hM (xw_x hw1) (Nat.le_of_ble_eq_true rfl) dX_add_7 (fun H locs hM => ?_)
  have hM : mw_S G (mw_up M1 x ((0, 0), .inr (ciX, [.ref qc, .int (nI (sg_nc σ)), .ref qm, .int (nI (sg_nm σ)), .int (sg_nr σ c k n t st r), .ref ql]))) s.heap H locs := hM
  refine lv_aload_n hx hb dX_add_10 rfl (lv_at hl 0 rfl) ?_
  refine gf_X_32 F hM mw_at rfl dX_add_11 ?_
  refine lv_if_eq (tgt := 19) hx hb dX_add_14 (by decide) (fun h1 => ?_) (fun h1 => ?_)
  · rw [h1] at hM
    have hM : mw_S G (mw_up M1 x ((0, 0), .inr (ciX, [.ref qc, .int (nI (sg_nc σ)), .ref qm, .int (nI (sg_nm σ)), .int 0, .ref ql]))) s.heap H locs := hM
    refine lv_aload_n hx hb dX_add_19 rfl (lv_at hl 2 rfl) ?_
    refine lv_aload_n hx hb dX_add_20 rfl (lv_at hl 0 rfl) ?_
    refine gf_X_29 F hM mw_at rfl dX_add_21 ?_
    refine pf_X_76 F hM (mw_oth (xw_x hw1) hxa1 (by simp)) (Nat.le_of_ble_eq_true rfl) dX_add_24 (fun H locs hM => ?_)
    have hM : mw_S G (mw_up (mw_up M1 x ((0, 0), .inr (ciX, [.ref qc, .int (nI (sg_nc σ)), .ref qm, .int (nI (sg_nm σ)), .int 0, .ref ql]))) xa ((5, sg_nm σ), .inr (ciN, [.ref (ca c), .int k, .int n, .int t, .int (mb_i st), .int (mb_i fn), .int r, .int (nI (sg_nm σ)), .null]))) s.heap H locs := hM
    refine lv_aload_n hx hb dX_add_27 rfl (lv_at hl 2 rfl) ?_
    refine lv_aload_n hx hb dX_add_28 rfl (lv_at hl 1 rfl) ?_
    refine gf_X_111 F hM (mw_oth (mw_oth (xw_x hw1) hxa1 (by simp)) (mw_oth (xw_x hw1) (xw_c hw1 hc) (by simp)) (by simp)) rfl dX_add_29 ?_
    refine pf_X_119 F (o := ((fo_g (fun m => decide (sg_mc σ m = c)) (sg_nm σ)).map ma)) hM mw_at (Nat.le_of_ble_eq_true rfl) dX_add_32 (fun H locs hM => ?_)
    rw [mw_uu] at hM
    have hM : mw_S G (mw_up (mw_up M1 x ((0, 0), .inr (ciX, [.ref qc, .int (nI (sg_nc σ)), .ref qm, .int (nI (sg_nm σ)), .int 0, .ref ql]))) xa ((5, sg_nm σ), .inr (ciN, [.ref (ca c), .int k, .int n, .int t, .int (mb_i st), .int (mb_i fn), .int r, .int (nI (sg_nm σ)), va_rf ((fo_g (fun m => decide (sg_mc σ m = c)) (sg_nm σ)).map ma)]))) s.heap H locs := hM
    refine lv_aload_n hx hb dX_add_35 rfl (lv_at hl 1 rfl) ?_
    refine lv_aload_n hx hb dX_add_36 rfl (lv_at hl 2 rfl) ?_
    refine pf_X_111 F (o := some xa) hM (mw_oth (mw_oth (xw_x hw1) hxa1 (by simp)) (mw_oth (xw_x hw1) (xw_c hw1 hc) (by simp)) (by simp)) (Nat.le_of_ble_eq_true rfl) dX_add_37 (fun H locs hM => ?_)
    have hM : mw_S G (mw_up (mw_up (mw_up M1 x ((0, 0), .inr (ciX, [.ref qc, .int (nI (sg_nc σ)), .ref qm, .int (nI (sg_nm σ)), .int 0, .ref ql]))) xa ((5, sg_nm σ), .inr (ciN, [.ref (ca c), .int k, .int n, .int t, .int (mb_i st), .int (mb_i fn), .int r, .int (nI (sg_nm σ)), va_rf ((fo_g (fun m => decide (sg_mc σ m = c)) (sg_nm σ)).map ma)]))) (ca c) ((4, c), .inr (ciC, [.int (nI c), va_rf ((sg_pr σ c).map ca), .int (sg_pk σ c), .ref xa]))) s.heap H locs := hM
    refine lv_aload_n hx hb dX_add_40 rfl (lv_at hl 0 rfl) ?_
    refine gf_X_17 F hM (mw_oth (mw_oth (mw_oth (xw_x hw1) hxa1 (by simp)) (mw_oth (xw_x hw1) (xw_c hw1 hc) (by simp)) (by simp)) (mw_oth (mw_oth (xw_x hw1) hxa1 (by simp)) mw_at (by simp)) (by simp)) rfl dX_add_41 ?_
    refine lv_aload_n hx hb dX_add_44 rfl (lv_at hl 0 rfl) ?_
    refine gf_X_29 F hM (mw_oth (mw_oth (mw_oth (xw_x hw1) hxa1 (by simp)) (mw_oth (xw_x hw1) (xw_c hw1 hc) (by simp)) (by simp)) (mw_oth (mw_oth (xw_x hw1) hxa1 (by simp)) mw_at (by simp)) (by simp)) rfl dX_add_45 ?_
    refine lv_aload_n hx hb dX_add_48 rfl (lv_at hl 2 rfl) ?_
    have hlt : sg_nm σ < 200 := by
      have := (nr_0 h1).2.2
      omega
    refine mw_ast F 3 ciN hM (mw_oth (mw_oth (mw_oth (xw_x hw1) hxa1 (by simp)) (mw_oth (xw_x hw1) (xw_c hw1 hc) (by simp)) (by simp)) (mw_oth (mw_oth (xw_x hw1) hxa1 (by simp)) (mw_oth (xw_x hw1) (xw_qm hw1) (by simp)) (by simp)) (by simp)) rfl (mw_oth (mw_oth (mw_oth (xw_x hw1) hxa1 (by simp)) (mw_oth (xw_x hw1) (xw_c hw1 hc) (by simp)) (by simp)) mw_at (by simp)) rfl (vp_in_nI (by omega) (by omega)) dX_add_49 (fun H locs hM => ?_)
    rw [nI_clamp (show sg_nm σ < 2 ^ 31 by omega)] at hM
    have hM : mw_S G (mw_up (mw_up (mw_up (mw_up M1 x ((0, 0), .inr (ciX, [.ref qc, .int (nI (sg_nc σ)), .ref qm, .int (nI (sg_nm σ)), .int 0, .ref ql]))) xa ((5, sg_nm σ), .inr (ciN, [.ref (ca c), .int k, .int n, .int t, .int (mb_i st), .int (mb_i fn), .int r, .int (nI (sg_nm σ)), va_rf ((fo_g (fun m => decide (sg_mc σ m = c)) (sg_nm σ)).map ma)]))) (ca c) ((4, c), .inr (ciC, [.int (nI c), va_rf ((sg_pr σ c).map ca), .int (sg_pk σ c), .ref xa]))) qm ((2, 0), aN_ G 200 (va_up (fun j => if j < sg_nm σ then some (ma j) else none) (sg_nm σ) (some xa)))) s.heap H locs := hM
    refine lv_aload_n hx hb dX_add_50 rfl (lv_at hl 0 rfl) ?_
    refine lv_dup hx hb dX_add_51 rfl ?_
    refine gf_X_29 F hM (mw_oth (mw_oth (mw_oth (mw_oth (xw_x hw1) hxa1 (by simp)) (mw_oth (xw_x hw1) (xw_c hw1 hc) (by simp)) (by simp)) (mw_oth (mw_oth (xw_x hw1) hxa1 (by simp)) (mw_oth (xw_x hw1) (xw_qm hw1) (by simp)) (by simp)) (by simp)) (mw_oth (mw_oth (mw_oth (xw_x hw1) hxa1 (by simp)) (mw_oth (xw_x hw1) (xw_c hw1 hc) (by simp)) (by simp)) (mw_oth (mw_oth (xw_x hw1) hxa1 (by simp)) mw_at (by simp)) (by simp)) (by simp)) rfl dX_add_52 ?_
    refine lv_iconst (v := 1) hx hb dX_add_55 (by decide) ?_
    refine lv_iadd hx hb dX_add_56 ?_
    refine mv_i (y := nI (sg_nm σ + 1)) (nI_1 (sg_nm σ)) ?_
    refine pf_X_29 F hM (mw_oth (mw_oth (mw_oth (mw_oth (xw_x hw1) hxa1 (by simp)) (mw_oth (xw_x hw1) (xw_c hw1 hc) (by simp)) (by simp)) (mw_oth (mw_oth (xw_x hw1) hxa1 (by simp)) (mw_oth (xw_x hw1) (xw_qm hw1) (by simp)) (by simp)) (by simp)) (mw_oth (mw_oth (mw_oth (xw_x hw1) hxa1 (by simp)) (mw_oth (xw_x hw1) (xw_c hw1 hc) (by simp)) (by simp)) (mw_oth (mw_oth (xw_x hw1) hxa1 (by simp)) mw_at (by simp)) (by simp)) (by simp)) (Nat.le_of_ble_eq_true rfl) dX_add_57 (fun H locs hM => ?_)
    have hM : mw_S G (mw_up (mw_up (mw_up (mw_up (mw_up M1 x ((0, 0), .inr (ciX, [.ref qc, .int (nI (sg_nc σ)), .ref qm, .int (nI (sg_nm σ)), .int 0, .ref ql]))) xa ((5, sg_nm σ), .inr (ciN, [.ref (ca c), .int k, .int n, .int t, .int (mb_i st), .int (mb_i fn), .int r, .int (nI (sg_nm σ)), va_rf ((fo_g (fun m => decide (sg_mc σ m = c)) (sg_nm σ)).map ma)]))) (ca c) ((4, c), .inr (ciC, [.int (nI c), va_rf ((sg_pr σ c).map ca), .int (sg_pk σ c), .ref xa]))) qm ((2, 0), aN_ G 200 (va_up (fun j => if j < sg_nm σ then some (ma j) else none) (sg_nm σ) (some xa)))) x ((0, 0), .inr (ciX, [.ref qc, .int (nI (sg_nc σ)), .ref qm, .int (nI (sg_nm σ + 1)), .int 0, .ref ql]))) s.heap H locs := hM
    refine lv_aload_n hx hb dX_add_60 rfl (lv_at hl 2 rfl) ?_
    refine gf_X_76 F hM (mw_oth (mw_oth (mw_oth (mw_oth (mw_oth (xw_x hw1) hxa1 (by simp)) (mw_oth (xw_x hw1) (xw_c hw1 hc) (by simp)) (by simp)) (mw_oth (mw_oth (xw_x hw1) hxa1 (by simp)) (mw_oth (xw_x hw1) (xw_qm hw1) (by simp)) (by simp)) (by simp)) (mw_oth (mw_oth (mw_oth (xw_x hw1) hxa1 (by simp)) (mw_oth (xw_x hw1) (xw_c hw1 hc) (by simp)) (by simp)) (mw_oth (mw_oth (xw_x hw1) hxa1 (by simp)) mw_at (by simp)) (by simp)) (by simp)) (mw_oth (mw_oth (mw_oth (mw_oth (xw_x hw1) hxa1 (by simp)) (mw_oth (xw_x hw1) (xw_c hw1 hc) (by simp)) (by simp)) (mw_oth (mw_oth (xw_x hw1) hxa1 (by simp)) (mw_oth (xw_x hw1) (xw_qm hw1) (by simp)) (by simp)) (by simp)) (mw_oth (mw_oth (mw_oth (xw_x hw1) hxa1 (by simp)) (mw_oth (xw_x hw1) (xw_c hw1 hc) (by simp)) (by simp)) mw_at (by simp)) (by simp)) (by simp)) rfl dX_add_61 ?_
    have hW := sg_Wad (st := st) (fn := fn) hw.1 hc h1 hk
    have hwf := xw_add hw1 hc hxa1 hW
    have kf : kx_ M1 (mw_up (mw_up (mw_up (mw_up (mw_up M1 x ((0, 0), .inr (ciX, [.ref qc, .int (nI (sg_nc σ)), .ref qm, .int (nI (sg_nm σ)), .int 0, .ref ql]))) xa ((5, sg_nm σ), .inr (ciN, [.ref (ca c), .int k, .int n, .int t, .int (mb_i st), .int (mb_i fn), .int r, .int (nI (sg_nm σ)), va_rf ((fo_g (fun m => decide (sg_mc σ m = c)) (sg_nm σ)).map ma)]))) (ca c) ((4, c), .inr (ciC, [.int (nI c), va_rf ((sg_pr σ c).map ca), .int (sg_pk σ c), .ref xa]))) qm ((2, 0), aN_ G 200 (va_up (fun j => if j < sg_nm σ then some (ma j) else none) (sg_nm σ) (some xa)))) x ((0, 0), .inr (ciX, [.ref qc, .int (nI (sg_nc σ)), .ref qm, .int (nI (sg_nm σ + 1)), .int 0, .ref ql]))) := kx_tr (kx_tr (kx_tr (kx_tr (kx_up (xw_x hw1) (by decide)) (kx_up (mw_oth (xw_x hw1) hxa1 (by simp)) (by simp))) (kx_up (mw_oth (mw_oth (xw_x hw1) hxa1 (by simp)) (mw_oth (xw_x hw1) (xw_c hw1 hc) (by simp)) (by simp)) (by simp))) (kx_up (mw_oth (mw_oth (mw_oth (xw_x hw1) hxa1 (by simp)) (mw_oth (xw_x hw1) (xw_c hw1 hc) (by simp)) (by simp)) (mw_oth (mw_oth (xw_x hw1) hxa1 (by simp)) (mw_oth (xw_x hw1) (xw_qm hw1) (by simp)) (by simp)) (by simp)) (by simp))) (kx_up (mw_oth (mw_oth (mw_oth (mw_oth (xw_x hw1) hxa1 (by simp)) (mw_oth (xw_x hw1) (xw_c hw1 hc) (by simp)) (by simp)) (mw_oth (mw_oth (xw_x hw1) hxa1 (by simp)) (mw_oth (xw_x hw1) (xw_qm hw1) (by simp)) (by simp)) (by simp)) (mw_oth (mw_oth (mw_oth (xw_x hw1) hxa1 (by simp)) (mw_oth (xw_x hw1) (xw_c hw1 hc) (by simp)) (by simp)) (mw_oth (mw_oth (xw_x hw1) hxa1 (by simp)) mw_at (by simp)) (by simp)) (by simp)) (by simp))
    exact mr_i F hr hM (⟨by rw [if_pos h1], ⟨ca, _, lp1, by rw [if_pos h1, h1]; exact hwf⟩, kx_tr k1 kf⟩) dX_add_64 ⟨Nat.le_of_ble_eq_true rfl, Nat.le_of_ble_eq_true rfl⟩
  · have k2 : kx_ M1 (mw_up M1 x ((0, 0), .inr (ciX, [.ref qc, .int (nI (sg_nc σ)), .ref qm, .int (nI (sg_nm σ)), .int (sg_nr σ c k n t st r), .ref ql]))) := kx_up (xw_x hw1) (by decide)
    refine lv_iconst (v := (-1)) hx hb dX_add_17 (by decide) ?_
    exact mr_i F hr hM (⟨by rw [if_neg h1], ⟨ca, ma, lp1, by rw [if_neg h1]; exact xw_rf hw1 _⟩, kx_tr k1 k2⟩) dX_add_18 ⟨Nat.le_of_ble_eq_true rfl, Nat.le_of_ble_eq_true rfl⟩
end GC
