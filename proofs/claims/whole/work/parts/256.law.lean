section GC
variable {l : Launch} {G : mw_G} {M : mw_M} {x qc qm ql : Nat} {ca ma : Nat → Nat} {σ : sg_T} {rf : Int32} {lp : Nat → Int32}
set_option maxHeartbeats 4000000 in
set_option maxRecDepth 100000 in
theorem law_c5 {p : Program} {l : Launch} {e : Env} {s : State} {m : MethodId} {below : List Frame} {meth : Method} {c : Code} {b L : Nat} {xs : Nat → Int32} {G : mw_G} {x qc qm ql y : Nat} {q : Nat → Nat} (C0 : lw_At p s m meth c b L xs) (F : mw_F p m meth c bL_law 4 s #[Value.ref b] RL G) (hbA : ¬ mw_A G b) {k : Nat} (hL : L ≤ 3584) (hk : 7 * k + 7 ≤ L) {M : mw_M} {σ : sg_T} {rf : Int32} {H : Heap} {locs : List Loc} {ls : Array Slot} (hI : lw_I G M x qc qm ql y q σ rf) (hM : mw_S G M s.heap H locs) (hl : lv_has ls 4 [(0, .ref b), (1, .ref x), (2, .ref y), (3, .int (nI (7 * k)))]) (hnext : ∀ (M : mw_M) (σ : sg_T) (rf : Int32) (H : Heap) (locs : List Loc) (ls : Array Slot), lw_I G M x qc qm ql y q σ rf → mw_S G M s.heap H locs → lv_has ls 4 [(0, .ref b), (1, .ref x), (2, .ref y), (3, .int (nI (7 * k)))] → W p l e room_1 s m #[Value.ref b] below meth c H locs (20 + k + 1) (4000 + 9 * k + 9) (lw_Z below #[Value.ref b] s) (F0 m 648 ls [])) : W p l e room_1 s m #[Value.ref b] below meth c H locs (20 + k) (4000 + 9 * k) (lw_Z below #[Value.ref b] s) (F0 m 407 ls []) := by
  obtain ⟨hx, hb, hr, hml, hown, hts, hX, hbl, hlocks, hgv⟩ := C0
  obtain ⟨⟨ca, ma, lp, hwx⟩, f, ch, lk, ov, hwy⟩ := hI
  refine lv_aload_n hx hb dL_law_407 rfl (lv_at hl 1 rfl) ?_
  refine lv_aload_n hx hb dL_law_408 rfl (lv_at hl 0 rfl) ?_
  refine lv_iload_n hx hb dL_law_409 rfl (lv_at hl 3 rfl) ?_
  refine lv_iconst (v := 1) hx hb dL_law_410 (by decide) ?_
  refine lv_iadd hx hb dL_law_411 ?_
  refine mv_i (y := nI (7 * k + 1)) (nI_add (7 * k) 1) ?_
  refine va_sld hx hb hX hbl hbA hM.2.2 (vp_in_nI (by omega) (by omega)) dL_law_412 ?_
  refine mv_i (y := xs (7 * k + 1)) (by rw [nI_clamp (by omega)]) ?_
  refine lv_aload_n hx hb dL_law_413 rfl (lv_at hl 0 rfl) ?_
  refine lv_iload_n hx hb dL_law_414 rfl (lv_at hl 3 rfl) ?_
  refine lv_iconst (v := 2) hx hb dL_law_415 (by decide) ?_
  refine lv_iadd hx hb dL_law_416 ?_
  refine mv_i (y := nI (7 * k + 2)) (nI_add (7 * k) 2) ?_
  refine va_sld hx hb hX hbl hbA hM.2.2 (vp_in_nI (by omega) (by omega)) dL_law_417 ?_
  refine mv_i (y := xs (7 * k + 2)) (by rw [nI_clamp (by omega)]) ?_
  refine lv_aload_n hx hb dL_law_418 rfl (lv_at hl 0 rfl) ?_
  refine lv_iload_n hx hb dL_law_419 rfl (lv_at hl 3 rfl) ?_
  refine lv_iconst (v := 3) hx hb dL_law_420 (by decide) ?_
  refine lv_iadd hx hb dL_law_421 ?_
  refine mv_i (y := nI (7 * k + 3)) (nI_add (7 * k) 3) ?_
  refine va_sld hx hb hX hbl hbA hM.2.2 (vp_in_nI (by omega) (by omega)) dL_law_422 ?_
  refine mv_i (y := xs (7 * k + 3)) (by rw [nI_clamp (by omega)]) ?_
  refine lv_aload_n hx hb dL_law_423 rfl (lv_at hl 0 rfl) ?_
  refine lv_iload_n hx hb dL_law_424 rfl (lv_at hl 3 rfl) ?_
  refine lv_iconst (v := 4) hx hb dL_law_425 (by decide) ?_
  refine lv_iadd hx hb dL_law_426 ?_
  refine mv_i (y := nI (7 * k + 4)) (nI_add (7 * k) 4) ?_
  refine va_sld hx hb hX hbl hbA hM.2.2 (vp_in_nI (by omega) (by omega)) dL_law_427 ?_
  refine mv_i (y := xs (7 * k + 4)) (by rw [nI_clamp (by omega)]) ?_
  refine lv_aload_n hx hb dL_law_428 rfl (lv_at hl 0 rfl) ?_
  refine lv_iload_n hx hb dL_law_429 rfl (lv_at hl 3 rfl) ?_
  refine lv_iconst (v := 5) hx hb dL_law_430 (by decide) ?_
  refine lv_iadd hx hb dL_law_431 ?_
  refine mv_i (y := nI (7 * k + 5)) (nI_add (7 * k) 5) ?_
  refine va_sld hx hb hX hbl hbA hM.2.2 (vp_in_nI (by omega) (by omega)) dL_law_432 ?_
  refine mv_i (y := xs (7 * k + 5)) (by rw [nI_clamp (by omega)]) ?_
  refine mw_Vg (As := [.int (xs (7 * k + 1)), .int (xs (7 * k + 2)), .int (xs (7 * k + 3)), .int (xs (7 * k + 4)), .int (xs (7 * k + 5))]) (rest := []) F (c_X_find hwx (xs (7 * k + 1)) (xs (7 * k + 2)) (xs (7 * k + 3)) (xs (7 * k + 4)) (xs (7 * k + 5))) kb_X_find ki_X_find ks_X_find kl_L_38 hM (xw_x hwx) rfl rfl hl.1 rfl (Nat.le_of_ble_eq_true rfl) dL_law_433 ⟨⟨Nat.le_of_ble_eq_true rfl, Nat.le_of_ble_eq_true rfl⟩, (show 20 + k + 0 ≤ 600000 by omega), (show 4000 + 9 * k + 0 ≤ 7302250 by omega)⟩ (fun M1 H locs hp hM => ?_)
  have hX1 : ∃ (ca ma : Nat → Nat) (lp : Nat → Int32), xw_ G M1 x qc qm ql ca ma σ ((sp_fi σ (xs (7 * k + 1)) (xs (7 * k + 2)) (xs (7 * k + 3)) (xs (7 * k + 4)) (xs (7 * k + 5))).2) lp := ⟨ca, ma, lp, by rw [hp]; exact xw_rf hwx _⟩
  have hk1 : kx_ M M1 := by
    rw [hp]; exact kx_up (xw_x hwx) (by decide)
  have hwy1 := yw_kx hwy hk1
  refine lv_aload_n hx hb dL_law_436 rfl (lv_at hl 2 rfl) ?_
  refine lv_aload_n hx hb dL_law_437 rfl (lv_at hl 0 rfl) ?_
  refine lv_iload_n hx hb dL_law_438 rfl (lv_at hl 3 rfl) ?_
  refine lv_iconst (v := 1) hx hb dL_law_439 (by decide) ?_
  refine lv_iadd hx hb dL_law_440 ?_
  refine mv_i (y := nI (7 * k + 1)) (nI_add (7 * k) 1) ?_
  refine va_sld hx hb hX hbl hbA hM.2.2 (vp_in_nI (by omega) (by omega)) dL_law_441 ?_
  refine mv_i (y := xs (7 * k + 1)) (by rw [nI_clamp (by omega)]) ?_
  refine lv_aload_n hx hb dL_law_442 rfl (lv_at hl 0 rfl) ?_
  refine lv_iload_n hx hb dL_law_443 rfl (lv_at hl 3 rfl) ?_
  refine lv_iconst (v := 2) hx hb dL_law_444 (by decide) ?_
  refine lv_iadd hx hb dL_law_445 ?_
  refine mv_i (y := nI (7 * k + 2)) (nI_add (7 * k) 2) ?_
  refine va_sld hx hb hX hbl hbA hM.2.2 (vp_in_nI (by omega) (by omega)) dL_law_446 ?_
  refine mv_i (y := xs (7 * k + 2)) (by rw [nI_clamp (by omega)]) ?_
  refine lv_aload_n hx hb dL_law_447 rfl (lv_at hl 0 rfl) ?_
  refine lv_iload_n hx hb dL_law_448 rfl (lv_at hl 3 rfl) ?_
  refine lv_iconst (v := 3) hx hb dL_law_449 (by decide) ?_
  refine lv_iadd hx hb dL_law_450 ?_
  refine mv_i (y := nI (7 * k + 3)) (nI_add (7 * k) 3) ?_
  refine va_sld hx hb hX hbl hbA hM.2.2 (vp_in_nI (by omega) (by omega)) dL_law_451 ?_
  refine mv_i (y := xs (7 * k + 3)) (by rw [nI_clamp (by omega)]) ?_
  refine lv_aload_n hx hb dL_law_452 rfl (lv_at hl 0 rfl) ?_
  refine lv_iload_n hx hb dL_law_453 rfl (lv_at hl 3 rfl) ?_
  refine lv_iconst (v := 4) hx hb dL_law_454 (by decide) ?_
  refine lv_iadd hx hb dL_law_455 ?_
  refine mv_i (y := nI (7 * k + 4)) (nI_add (7 * k) 4) ?_
  refine va_sld hx hb hX hbl hbA hM.2.2 (vp_in_nI (by omega) (by omega)) dL_law_456 ?_
  refine mv_i (y := xs (7 * k + 4)) (by rw [nI_clamp (by omega)]) ?_
  refine lv_aload_n hx hb dL_law_457 rfl (lv_at hl 0 rfl) ?_
  refine lv_iload_n hx hb dL_law_458 rfl (lv_at hl 3 rfl) ?_
  refine lv_iconst (v := 5) hx hb dL_law_459 (by decide) ?_
  refine lv_iadd hx hb dL_law_460 ?_
  refine mv_i (y := nI (7 * k + 5)) (nI_add (7 * k) 5) ?_
  refine va_sld hx hb hX hbl hbA hM.2.2 (vp_in_nI (by omega) (by omega)) dL_law_461 ?_
  refine mv_i (y := xs (7 * k + 5)) (by rw [nI_clamp (by omega)]) ?_
  refine mw_Vg (As := [.int (xs (7 * k + 1)), .int (xs (7 * k + 2)), .int (xs (7 * k + 3)), .int (xs (7 * k + 4)), .int (xs (7 * k + 5))]) (rest := [.int (sp_fi σ (xs (7 * k + 1)) (xs (7 * k + 2)) (xs (7 * k + 3)) (xs (7 * k + 4)) (xs (7 * k + 5))).1]) F (c_Y_find hwy1 (xs (7 * k + 1)) (xs (7 * k + 2)) (xs (7 * k + 3)) (xs (7 * k + 4)) (xs (7 * k + 5))) kb_Y_find ki_Y_find ks_Y_find kl_L_42 hM (yw_y hwy1) rfl rfl hl.1 rfl (Nat.le_of_ble_eq_true rfl) dL_law_462 ⟨⟨Nat.le_of_ble_eq_true rfl, Nat.le_of_ble_eq_true rfl⟩, (show 20 + k + 0 + 0 ≤ 600000 by omega), (show 4000 + 9 * k + 0 + 0 ≤ 7302250 by omega)⟩ (fun M2 H locs hp hM => ?_)
  have hk2 : ky_ M1 M2 := by
    rw [hp]; exact ky_up (yw_y hwy1) (by decide)
  have hI2 : lw_I G M2 x qc qm ql y q (σ) ((sp_fi σ (xs (7 * k + 1)) (xs (7 * k + 2)) (xs (7 * k + 3)) (xs (7 * k + 4)) (xs (7 * k + 5))).2) := by
    obtain ⟨ca1, ma1, lp1, hx1⟩ := hX1
    exact ⟨⟨ca1, ma1, lp1, xw_ky hx1 hk2⟩, f, ch, lk, ov, by rw [hp]; exact yw_rf hwy1 _ lk⟩
  refine lv_icmp_eq (tgt := 648) hx hb dL_law_465 (by decide) (fun h9 => ?_) (fun h9 => absurd rfl h9)
  refine W.widen (k := 20 + k + 1) (n := 4000 + 9 * k + 9) (show 20 + k + 0 + 0 ≤ 20 + k + 1 by omega) (show 4000 + 9 * k + 0 + 0 ≤ 4000 + 9 * k + 9 by omega) ?_
  exact hnext M2 (σ) ((sp_fi σ (xs (7 * k + 1)) (xs (7 * k + 2)) (xs (7 * k + 3)) (xs (7 * k + 4)) (xs (7 * k + 5))).2) H locs ls hI2 hM hl
end GC
