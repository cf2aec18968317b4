section GC
variable {l : Launch} {G : mw_G} {M : mw_M} {x qc qm ql : Nat} {ca ma : Nat → Nat} {σ : sg_T} {rf : Int32} {lp : Nat → Int32}
set_option maxHeartbeats 4000000 in
set_option maxRecDepth 100000 in
theorem law_c0 {p : Program} {l : Launch} {e : Env} {s : State} {m : MethodId} {below : List Frame} {meth : Method} {c : Code} {b L : Nat} {xs : Nat → Int32} {G : mw_G} {x qc qm ql y : Nat} {q : Nat → Nat} (C0 : lw_At p s m meth c b L xs) (F : mw_F p m meth c bL_law 4 s #[Value.ref b] RL G) (hbA : ¬ mw_A G b) {k : Nat} (hL : L ≤ 3584) (hk : 7 * k + 7 ≤ L) {M : mw_M} {σ : sg_T} {rf : Int32} {H : Heap} {locs : List Loc} {ls : Array Slot} (hI : lw_I G M x qc qm ql y q σ rf) (hM : mw_S G M s.heap H locs) (hl : lv_has ls 4 [(0, .ref b), (1, .ref x), (2, .ref y), (3, .int (nI (7 * k)))]) (hnext : ∀ (M : mw_M) (σ : sg_T) (rf : Int32) (H : Heap) (locs : List Loc) (ls : Array Slot), lw_I G M x qc qm ql y q σ rf → mw_S G M s.heap H locs → lv_has ls 4 [(0, .ref b), (1, .ref x), (2, .ref y), (3, .int (nI (7 * k)))] → W p l e room_1 s m #[Value.ref b] below meth c H locs (20 + k + 1) (4000 + 9 * k + 9) (lw_Z below #[Value.ref b] s) (F0 m 648 ls [])) : W p l e room_1 s m #[Value.ref b] below meth c H locs (20 + k) (4000 + 9 * k) (lw_Z below #[Value.ref b] s) (F0 m 96 ls []) := by
  obtain ⟨hx, hb, hr, hml, hown, hts, hX, hbl, hlocks, hgv⟩ := C0
  obtain ⟨⟨ca, ma, lp, hwx⟩, f, ch, lk, ov, hwy⟩ := hI
  refine lv_aload_n hx hb dL_law_96 rfl (lv_at hl 1 rfl) ?_
  refine lv_aload_n hx hb dL_law_97 rfl (lv_at hl 0 rfl) ?_
  refine lv_iload_n hx hb dL_law_98 rfl (lv_at hl 3 rfl) ?_
  refine lv_iconst (v := 1) hx hb dL_law_99 (by decide) ?_
  refine lv_iadd hx hb dL_law_100 ?_
  refine mv_i (y := nI (7 * k + 1)) (nI_add (7 * k) 1) ?_
  refine va_sld hx hb hX hbl hbA hM.2.2 (vp_in_nI (by omega) (by omega)) dL_law_101 ?_
  refine mv_i (y := xs (7 * k + 1)) (by rw [nI_clamp (by omega)]) ?_
  refine lv_aload_n hx hb dL_law_102 rfl (lv_at hl 0 rfl) ?_
  refine lv_iload_n hx hb dL_law_103 rfl (lv_at hl 3 rfl) ?_
  refine lv_iconst (v := 2) hx hb dL_law_104 (by decide) ?_
  refine lv_iadd hx hb dL_law_105 ?_
  refine mv_i (y := nI (7 * k + 2)) (nI_add (7 * k) 2) ?_
  refine va_sld hx hb hX hbl hbA hM.2.2 (vp_in_nI (by omega) (by omega)) dL_law_106 ?_
  refine mv_i (y := xs (7 * k + 2)) (by rw [nI_clamp (by omega)]) ?_
  refine mw_Vg (As := [.int (xs (7 * k + 1)), .int (xs (7 * k + 2))]) (rest := []) F (c_X_newClass hwx (xs (7 * k + 1)) (xs (7 * k + 2))) kb_X_newClass ki_X_newClass ks_X_newClass kl_L_13 hM (xw_x hwx) rfl rfl hl.1 rfl (Nat.le_of_ble_eq_true rfl) dL_law_107 ⟨⟨Nat.le_of_ble_eq_true rfl, Nat.le_of_ble_eq_true rfl⟩, (show 20 + k + 1 ≤ 600000 by omega), (show 4000 + 9 * k + 4 ≤ 7302250 by omega)⟩ (fun M1 H locs hp hM => ?_)
  obtain ⟨hX1, hk1⟩ := hp
  have hwy1 := yw_kx hwy hk1
  refine lv_aload_n hx hb dL_law_110 rfl (lv_at hl 2 rfl) ?_
  refine lv_aload_n hx hb dL_law_111 rfl (lv_at hl 0 rfl) ?_
  refine lv_iload_n hx hb dL_law_112 rfl (lv_at hl 3 rfl) ?_
  refine lv_iconst (v := 1) hx hb dL_law_113 (by decide) ?_
  refine lv_iadd hx hb dL_law_114 ?_
  refine mv_i (y := nI (7 * k + 1)) (nI_add (7 * k) 1) ?_
  refine va_sld hx hb hX hbl hbA hM.2.2 (vp_in_nI (by omega) (by omega)) dL_law_115 ?_
  refine mv_i (y := xs (7 * k + 1)) (by rw [nI_clamp (by omega)]) ?_
  refine lv_aload_n hx hb dL_law_116 rfl (lv_at hl 0 rfl) ?_
  refine lv_iload_n hx hb dL_law_117 rfl (lv_at hl 3 rfl) ?_
  refine lv_iconst (v := 2) hx hb dL_law_118 (by decide) ?_
  refine lv_iadd hx hb dL_law_119 ?_
  refine mv_i (y := nI (7 * k + 2)) (nI_add (7 * k) 2) ?_
  refine va_sld hx hb hX hbl hbA hM.2.2 (vp_in_nI (by omega) (by omega)) dL_law_120 ?_
  refine mv_i (y := xs (7 * k + 2)) (by rw [nI_clamp (by omega)]) ?_
  refine mw_Vg (As := [.int (xs (7 * k + 1)), .int (xs (7 * k + 2))]) (rest := [.int (sp_nc σ (xs (7 * k + 1)) (xs (7 * k + 2))).1]) F (c_Y_newClass hwy1 (xs (7 * k + 1)) (xs (7 * k + 2))) kb_Y_newClass ki_Y_newClass ks_Y_newClass kl_L_17 hM (yw_y hwy1) rfl rfl hl.1 rfl (Nat.le_of_ble_eq_true rfl) dL_law_121 ⟨⟨Nat.le_of_ble_eq_true rfl, Nat.le_of_ble_eq_true rfl⟩, (show 20 + k + 1 + 0 ≤ 600000 by omega), (show 4000 + 9 * k + 4 + 0 ≤ 7302250 by omega)⟩ (fun M2 H locs hp hM => ?_)
  obtain ⟨hy2, hk2⟩ := hp
  have hI2 : lw_I G M2 x qc qm ql y q ((sp_nc σ (xs (7 * k + 1)) (xs (7 * k + 2))).2) rf := by
    obtain ⟨ca1, ma1, lp1, hx1⟩ := hX1
    exact ⟨⟨ca1, ma1, lp1, xw_ky hx1 hk2⟩, hy2⟩
  refine lv_icmp_eq (tgt := 648) hx hb dL_law_124 (by decide) (fun h9 => ?_) (fun h9 => absurd rfl h9)
  refine W.widen (k := 20 + k + 1) (n := 4000 + 9 * k + 9) (show 20 + k + 1 + 0 ≤ 20 + k + 1 by omega) (show 4000 + 9 * k + 4 + 0 ≤ 4000 + 9 * k + 9 by omega) ?_
  exact hnext M2 ((sp_nc σ (xs (7 * k + 1)) (xs (7 * k + 2))).2) rf H locs ls hI2 hM hl
end GC
