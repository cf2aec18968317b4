section GC
variable {l : Launch} {G : mw_G} {M : mw_M} {x qc qm ql : Nat} {ca ma : Nat → Nat} {σ : sg_T} {rf : Int32} {lp : Nat → Int32}
set_option maxHeartbeats 4000000 in
set_option maxRecDepth 100000 in
theorem law_c1 {p : Program} {l : Launch} {e : Env} {s : State} {m : MethodId} {below : List Frame} {meth : Method} {c : Code} {b L : Nat} {xs : Nat → Int32} {G : mw_G} {x qc qm ql y : Nat} {q : Nat → Nat} (C0 : lw_At p s m meth c b L xs) (F : mw_F p m meth c bL_law 4 s #[Value.ref b] RL G) (hbA : ¬ mw_A G b) {k : Nat} (hL : L ≤ 3584) (hk : 7 * k + 7 ≤ L) {M : mw_M} {σ : sg_T} {rf : Int32} {H : Heap} {locs : List Loc} {ls : Array Slot} (hI : lw_I G M x qc qm ql y q σ rf) (hM : mw_S G M s.heap H locs) (hl : lv_has ls 4 [(0, .ref b), (1, .ref x), (2, .ref y), (3, .int (nI (7 * k)))]) (hnext : ∀ (M : mw_M) (σ : sg_T) (rf : Int32) (H : Heap) (locs : List Loc) (ls : Array Slot), lw_I G M x qc qm ql y q σ rf → mw_S G M s.heap H locs → lv_has ls 4 [(0, .ref b), (1, .ref x), (2, .ref y), (3, .int (nI (7 * k)))] → W p l e room_1 s m #[Value.ref b] below meth c H locs (20 + k + 1) (4000 + 9 * k + 9) (lw_Z below #[Value.ref b] s) (F0 m 648 ls [])) : W p l e room_1 s m #[Value.ref b] below meth c H locs (20 + k) (4000 + 9 * k) (lw_Z below #[Value.ref b] s) (F0 m 129 ls []) := by
  obtain ⟨hx, hb, hr, hml, hown, hts, hX, hbl, hlocks, hgv⟩ := C0
  obtain ⟨⟨ca, ma, lp, hwx⟩, f, ch, lk, ov, hwy⟩ := hI
  refine lv_aload_n hx hb dL_law_129 rfl (lv_at hl 1 rfl) ?_
  refine lv_aload_n hx hb dL_law_130 rfl (lv_at hl 0 rfl) ?_
  refine lv_iload_n hx hb dL_law_131 rfl (lv_at hl 3 rfl) ?_
  refine lv_iconst (v := 1) hx hb dL_law_132 (by decide) ?_
  refine lv_iadd hx hb dL_law_133 ?_
  refine mv_i (y := nI (7 * k + 1)) (nI_add (7 * k) 1) ?_
  refine va_sld hx hb hX hbl hbA hM.2.2 (vp_in_nI (by omega) (by omega)) dL_law_134 ?_
  refine mv_i (y := xs (7 * k + 1)) (by rw [nI_clamp (by omega)]) ?_
  refine lv_aload_n hx hb dL_law_135 rfl (lv_at hl 0 rfl) ?_
  refine lv_iload_n hx hb dL_law_136 rfl (lv_at hl 3 rfl) ?_
  refine lv_iconst (v := 2) hx hb dL_law_137 (by decide) ?_
  refine lv_iadd hx hb dL_law_138 ?_
  refine mv_i (y := nI (7 * k + 2)) (nI_add (7 * k) 2) ?_
  refine va_sld hx hb hX hbl hbA hM.2.2 (vp_in_nI (by omega) (by omega)) dL_law_139 ?_
  refine mv_i (y := xs (7 * k + 2)) (by rw [nI_clamp (by omega)]) ?_
  refine mw_Vg (As := [.int (xs (7 * k + 1)), .int (xs (7 * k + 2))]) (rest := []) F (c_X_below hwx (xs (7 * k + 1)) (xs (7 * k + 2))) kb_X_below ki_X_below ks_X_below kl_L_18 hM (xw_x hwx) rfl rfl hl.1 rfl (Nat.le_of_ble_eq_true rfl) dL_law_140 ⟨⟨Nat.le_of_ble_eq_true rfl, Nat.le_of_ble_eq_true rfl⟩, (show 20 + k + 0 ≤ 600000 by omega), (show 4000 + 9 * k + 0 ≤ 7302250 by omega)⟩ (fun M1 H locs hp hM => ?_)
  rw [hp] at hM
  have hX1 : ∃ (ca ma : Nat → Nat) (lp : Nat → Int32), xw_ G M x qc qm ql ca ma (σ) rf lp := ⟨ca, ma, lp, hwx⟩
  have hk1 : kx_ M M := kx_rf
  have hwy1 := yw_kx hwy hk1
  refine lv_aload_n hx hb dL_law_143 rfl (lv_at hl 2 rfl) ?_
  refine lv_aload_n hx hb dL_law_144 rfl (lv_at hl 0 rfl) ?_
  refine lv_iload_n hx hb dL_law_145 rfl (lv_at hl 3 rfl) ?_
  refine lv_iconst (v := 1) hx hb dL_law_146 (by decide) ?_
  refine lv_iadd hx hb dL_law_147 ?_
  refine mv_i (y := nI (7 * k + 1)) (nI_add (7 * k) 1) ?_
  refine va_sld hx hb hX hbl hbA hM.2.2 (vp_in_nI (by omega) (by omega)) dL_law_148 ?_
  refine mv_i (y := xs (7 * k + 1)) (by rw [nI_clamp (by omega)]) ?_
  refine lv_aload_n hx hb dL_law_149 rfl (lv_at hl 0 rfl) ?_
  refine lv_iload_n hx hb dL_law_150 rfl (lv_at hl 3 rfl) ?_
  refine lv_iconst (v := 2) hx hb dL_law_151 (by decide) ?_
  refine lv_iadd hx hb dL_law_152 ?_
  refine mv_i (y := nI (7 * k + 2)) (nI_add (7 * k) 2) ?_
  refine va_sld hx hb hX hbl hbA hM.2.2 (vp_in_nI (by omega) (by omega)) dL_law_153 ?_
  refine mv_i (y := xs (7 * k + 2)) (by rw [nI_clamp (by omega)]) ?_
  refine mw_Vg (As := [.int (xs (7 * k + 1)), .int (xs (7 * k + 2))]) (rest := [.int (mb_i (sp_be σ (xs (7 * k + 1)) (xs (7 * k + 2))))]) F (c_Y_below hwy1 (xs (7 * k + 1)) (xs (7 * k + 2))) kb_Y_below ki_Y_below ks_Y_below kl_L_22 hM (yw_y hwy1) rfl rfl hl.1 rfl (Nat.le_of_ble_eq_true rfl) dL_law_154 ⟨⟨Nat.le_of_ble_eq_true rfl, Nat.le_of_ble_eq_true rfl⟩, (show 20 + k + 0 + 0 ≤ 600000 by omega), (show 4000 + 9 * k + 0 + 0 ≤ 7302250 by omega)⟩ (fun M2 H locs hp hM => ?_)
  rw [hp] at hM
  have hI2 : lw_I G M x qc qm ql y q (σ) rf := ⟨hX1, f, ch, lk, ov, hwy1⟩
  refine lv_icmp_eq (tgt := 648) hx hb dL_law_157 (by decide) (fun h9 => ?_) (fun h9 => absurd rfl h9)
  refine W.widen (k := 20 + k + 1) (n := 4000 + 9 * k + 9) (show 20 + k + 0 + 0 ≤ 20 + k + 1 by omega) (show 4000 + 9 * k + 0 + 0 ≤ 4000 + 9 * k + 9 by omega) ?_
  exact hnext M (σ) rf H locs ls hI2 hM hl
end GC
