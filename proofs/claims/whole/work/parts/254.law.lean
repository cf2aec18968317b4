section GC
variable {l : Launch} {G : mw_G} {M : mw_M} {x qc qm ql : Nat} {ca ma : Nat → Nat} {σ : sg_T} {rf : Int32} {lp : Nat → Int32}
set_option maxHeartbeats 4000000 in
set_option maxRecDepth 100000 in
theorem law_c3 {p : Program} {l : Launch} {e : Env} {s : State} {m : MethodId} {below : List Frame} {meth : Method} {c : Code} {b L : Nat} {xs : Nat → Int32} {G : mw_G} {x qc qm ql y : Nat} {q : Nat → Nat} (C0 : lw_At p s m meth c b L xs) (F : mw_F p m meth c bL_law 4 s #[Value.ref b] RL G) (hbA : ¬ mw_A G b) {k : Nat} (hL : L ≤ 3584) (hk : 7 * k + 7 ≤ L) {M : mw_M} {σ : sg_T} {rf : Int32} {H : Heap} {locs : List Loc} {ls : Array Slot} (hI : lw_I G M x qc qm ql y q σ rf) (hM : mw_S G M s.heap H locs) (hl : lv_has ls 4 [(0, .ref b), (1, .ref x), (2, .ref y), (3, .int (nI (7 * k)))]) (hnext : ∀ (M : mw_M) (σ : sg_T) (rf : Int32) (H : Heap) (locs : List Loc) (ls : Array Slot), lw_I G M x qc qm ql y q σ rf → mw_S G M s.heap H locs → lv_has ls 4 [(0, .ref b), (1, .ref x), (2, .ref y), (3, .int (nI (7 * k)))] → W p l e room_1 s m #[Value.ref b] below meth c H locs (20 + k + 1) (4000 + 9 * k + 9) (lw_Z below #[Value.ref b] s) (F0 m 648 ls [])) : W p l e room_1 s m #[Value.ref b] below meth c H locs (20 + k) (4000 + 9 * k) (lw_Z below #[Value.ref b] s) (F0 m 257 ls []) := by
  obtain ⟨hx, hb, hr, hml, hown, hts, hX, hbl, hlocks, hgv⟩ := C0
  obtain ⟨⟨ca, ma, lp, hwx⟩, f, ch, lk, ov, hwy⟩ := hI
  refine lv_aload_n hx hb dL_law_257 rfl (lv_at hl 1 rfl) ?_
  refine lv_aload_n hx hb dL_law_258 rfl (lv_at hl 0 rfl) ?_
  refine lv_iload_n hx hb dL_law_259 rfl (lv_at hl 3 rfl) ?_
  refine lv_iconst (v := 1) hx hb dL_law_260 (by decide) ?_
  refine lv_iadd hx hb dL_law_261 ?_
  refine mv_i (y := nI (7 * k + 1)) (nI_add (7 * k) 1) ?_
  refine va_sld hx hb hX hbl hbA hM.2.2 (vp_in_nI (by omega) (by omega)) dL_law_262 ?_
  refine mv_i (y := xs (7 * k + 1)) (by rw [nI_clamp (by omega)]) ?_
  refine lv_aload_n hx hb dL_law_263 rfl (lv_at hl 0 rfl) ?_
  refine lv_iload_n hx hb dL_law_264 rfl (lv_at hl 3 rfl) ?_
  refine lv_iconst (v := 2) hx hb dL_law_265 (by decide) ?_
  refine lv_iadd hx hb dL_law_266 ?_
  refine mv_i (y := nI (7 * k + 2)) (nI_add (7 * k) 2) ?_
  refine va_sld hx hb hX hbl hbA hM.2.2 (vp_in_nI (by omega) (by omega)) dL_law_267 ?_
  refine mv_i (y := xs (7 * k + 2)) (by rw [nI_clamp (by omega)]) ?_
  refine lv_aload_n hx hb dL_law_268 rfl (lv_at hl 0 rfl) ?_
  refine lv_iload_n hx hb dL_law_269 rfl (lv_at hl 3 rfl) ?_
  refine lv_iconst (v := 3) hx hb dL_law_270 (by decide) ?_
  refine lv_iadd hx hb dL_law_271 ?_
  refine mv_i (y := nI (7 * k + 3)) (nI_add (7 * k) 3) ?_
  refine va_sld hx hb hX hbl hbA hM.2.2 (vp_in_nI (by omega) (by omega)) dL_law_272 ?_
  refine mv_i (y := xs (7 * k + 3)) (by rw [nI_clamp (by omega)]) ?_
  refine lv_aload_n hx hb dL_law_273 rfl (lv_at hl 0 rfl) ?_
  refine lv_iload_n hx hb dL_law_274 rfl (lv_at hl 3 rfl) ?_
  refine lv_iconst (v := 4) hx hb dL_law_275 (by decide) ?_
  refine lv_iadd hx hb dL_law_276 ?_
  refine mv_i (y := nI (7 * k + 4)) (nI_add (7 * k) 4) ?_
  refine va_sld hx hb hX hbl hbA hM.2.2 (vp_in_nI (by omega) (by omega)) dL_law_277 ?_
  refine mv_i (y := xs (7 * k + 4)) (by rw [nI_clamp (by omega)]) ?_
  refine mv_nz (t1 := 285) (t2 := 286) hx hb dL_law_278 (by decide) dL_law_281 dL_law_282 (by decide) dL_law_285 rfl ?_
  refine lv_aload_n hx hb dL_law_286 rfl (lv_at hl 0 rfl) ?_
  refine lv_iload_n hx hb dL_law_287 rfl (lv_at hl 3 rfl) ?_
  refine lv_iconst (v := 5) hx hb dL_law_288 (by decide) ?_
  refine lv_iadd hx hb dL_law_289 ?_
  refine mv_i (y := nI (7 * k + 5)) (nI_add (7 * k) 5) ?_
  refine va_sld hx hb hX hbl hbA hM.2.2 (vp_in_nI (by omega) (by omega)) dL_law_290 ?_
  refine mv_i (y := xs (7 * k + 5)) (by rw [nI_clamp (by omega)]) ?_
  refine mv_nz (t1 := 298) (t2 := 299) hx hb dL_law_291 (by decide) dL_law_294 dL_law_295 (by decide) dL_law_298 rfl ?_
  refine lv_aload_n hx hb dL_law_299 rfl (lv_at hl 0 rfl) ?_
  refine lv_iload_n hx hb dL_law_300 rfl (lv_at hl 3 rfl) ?_
  refine lv_bipush (v := 6) hx hb dL_law_301 (by decide) ?_
  refine lv_iadd hx hb dL_law_303 ?_
  refine mv_i (y := nI (7 * k + 6)) (nI_add (7 * k) 6) ?_
  refine va_sld hx hb hX hbl hbA hM.2.2 (vp_in_nI (by omega) (by omega)) dL_law_304 ?_
  refine mv_i (y := xs (7 * k + 6)) (by rw [nI_clamp (by omega)]) ?_
  refine mw_Vg (As := [.int (xs (7 * k + 1)), .int (xs (7 * k + 2)), .int (xs (7 * k + 3)), .int (mb_i (decide (¬ xs (7 * k + 4) = 0))), .int (mb_i (decide (¬ xs (7 * k + 5) = 0))), .int (xs (7 * k + 6))]) (rest := []) F (c_X_method hwx (xs (7 * k + 1)) (xs (7 * k + 2)) (xs (7 * k + 3)) (xs (7 * k + 6)) (decide (¬ xs (7 * k + 4) = 0)) (decide (¬ xs (7 * k + 5) = 0))) kb_X_method ki_X_method ks_X_method kl_L_28 hM (xw_x hwx) rfl rfl hl.1 rfl (Nat.le_of_ble_eq_true rfl) dL_law_305 ⟨⟨Nat.le_of_ble_eq_true rfl, Nat.le_of_ble_eq_true rfl⟩, (show 20 + k + 1 ≤ 600000 by omega), (show 4000 + 9 * k + 9 ≤ 7302250 by omega)⟩ (fun M1 H locs hp hM => ?_)
  obtain ⟨hX1, hk1⟩ := hp
  have hwy1 := yw_kx hwy hk1
  refine lv_aload_n hx hb dL_law_308 rfl (lv_at hl 2 rfl) ?_
  refine lv_aload_n hx hb dL_law_309 rfl (lv_at hl 0 rfl) ?_
  refine lv_iload_n hx hb dL_law_310 rfl (lv_at hl 3 rfl) ?_
  refine lv_iconst (v := 1) hx hb dL_law_311 (by decide) ?_
  refine lv_iadd hx hb dL_law_312 ?_
  refine mv_i (y := nI (7 * k + 1)) (nI_add (7 * k) 1) ?_
  refine va_sld hx hb hX hbl hbA hM.2.2 (vp_in_nI (by omega) (by omega)) dL_law_313 ?_
  refine mv_i (y := xs (7 * k + 1)) (by rw [nI_clamp (by omega)]) ?_
  refine lv_aload_n hx hb dL_law_314 rfl (lv_at hl 0 rfl) ?_
  refine lv_iload_n hx hb dL_law_315 rfl (lv_at hl 3 rfl) ?_
  refine lv_iconst (v := 2) hx hb dL_law_316 (by decide) ?_
  refine lv_iadd hx hb dL_law_317 ?_
  refine mv_i (y := nI (7 * k + 2)) (nI_add (7 * k) 2) ?_
  refine va_sld hx hb hX hbl hbA hM.2.2 (vp_in_nI (by omega) (by omega)) dL_law_318 ?_
  refine mv_i (y := xs (7 * k + 2)) (by rw [nI_clamp (by omega)]) ?_
  refine lv_aload_n hx hb dL_law_319 rfl (lv_at hl 0 rfl) ?_
  refine lv_iload_n hx hb dL_law_320 rfl (lv_at hl 3 rfl) ?_
  refine lv_iconst (v := 3) hx hb dL_law_321 (by decide) ?_
  refine lv_iadd hx hb dL_law_322 ?_
  refine mv_i (y := nI (7 * k + 3)) (nI_add (7 * k) 3) ?_
  refine va_sld hx hb hX hbl hbA hM.2.2 (vp_in_nI (by omega) (by omega)) dL_law_323 ?_
  refine mv_i (y := xs (7 * k + 3)) (by rw [nI_clamp (by omega)]) ?_
  refine lv_aload_n hx hb dL_law_324 rfl (lv_at hl 0 rfl) ?_
  refine lv_iload_n hx hb dL_law_325 rfl (lv_at hl 3 rfl) ?_
  refine lv_iconst (v := 4) hx hb dL_law_326 (by decide) ?_
  refine lv_iadd hx hb dL_law_327 ?_
  refine mv_i (y := nI (7 * k + 4)) (nI_add (7 * k) 4) ?_
  refine va_sld hx hb hX hbl hbA hM.2.2 (vp_in_nI (by omega) (by omega)) dL_law_328 ?_
  refine mv_i (y := xs (7 * k + 4)) (by rw [nI_clamp (by omega)]) ?_
  refine mv_nz (t1 := 336) (t2 := 337) hx hb dL_law_329 (by decide) dL_law_332 dL_law_333 (by decide) dL_law_336 rfl ?_
  refine lv_aload_n hx hb dL_law_337 rfl (lv_at hl 0 rfl) ?_
  refine lv_iload_n hx hb dL_law_338 rfl (lv_at hl 3 rfl) ?_
  refine lv_iconst (v := 5) hx hb dL_law_339 (by decide) ?_
  refine lv_iadd hx hb dL_law_340 ?_
  refine mv_i (y := nI (7 * k + 5)) (nI_add (7 * k) 5) ?_
  refine va_sld hx hb hX hbl hbA hM.2.2 (vp_in_nI (by omega) (by omega)) dL_law_341 ?_
  refine mv_i (y := xs (7 * k + 5)) (by rw [nI_clamp (by omega)]) ?_
  refine mv_nz (t1 := 349) (t2 := 350) hx hb dL_law_342 (by decide) dL_law_345 dL_law_346 (by decide) dL_law_349 rfl ?_
  refine lv_aload_n hx hb dL_law_350 rfl (lv_at hl 0 rfl) ?_
  refine lv_iload_n hx hb dL_law_351 rfl (lv_at hl 3 rfl) ?_
  refine lv_bipush (v := 6) hx hb dL_law_352 (by decide) ?_
  refine lv_iadd hx hb dL_law_354 ?_
  refine mv_i (y := nI (7 * k + 6)) (nI_add (7 * k) 6) ?_
  refine va_sld hx hb hX hbl hbA hM.2.2 (vp_in_nI (by omega) (by omega)) dL_law_355 ?_
  refine mv_i (y := xs (7 * k + 6)) (by rw [nI_clamp (by omega)]) ?_
  refine mw_Vg (As := [.int (xs (7 * k + 1)), .int (xs (7 * k + 2)), .int (xs (7 * k + 3)), .int (mb_i (decide (¬ xs (7 * k + 4) = 0))), .int (mb_i (decide (¬ xs (7 * k + 5) = 0))), .int (xs (7 * k + 6))]) (rest := [.int (sp_ad σ (xs (7 * k + 1)) 1 (xs (7 * k + 2)) (xs (7 * k + 3)) (decide (¬ xs (7 * k + 4) = 0)) (decide (¬ xs (7 * k + 5) = 0)) (xs (7 * k + 6))).1]) F (c_Y_method hwy1 (xs (7 * k + 1)) (xs (7 * k + 2)) (xs (7 * k + 3)) (xs (7 * k + 6)) (decide (¬ xs (7 * k + 4) = 0)) (decide (¬ xs (7 * k + 5) = 0))) kb_Y_method ki_Y_method ks_Y_method kl_L_32 hM (yw_y hwy1) rfl rfl hl.1 rfl (Nat.le_of_ble_eq_true rfl) dL_law_356 ⟨⟨Nat.le_of_ble_eq_true rfl, Nat.le_of_ble_eq_true rfl⟩, (show 20 + k + 1 + 0 ≤ 600000 by omega), (show 4000 + 9 * k + 9 + 0 ≤ 7302250 by omega)⟩ (fun M2 H locs hp hM => ?_)
  obtain ⟨hy2, hk2⟩ := hp
  have hI2 : lw_I G M2 x qc qm ql y q ((sp_ad σ (xs (7 * k + 1)) 1 (xs (7 * k + 2)) (xs (7 * k + 3)) (decide (¬ xs (7 * k + 4) = 0)) (decide (¬ xs (7 * k + 5) = 0)) (xs (7 * k + 6))).2.2) ((sp_ad σ (xs (7 * k + 1)) 1 (xs (7 * k + 2)) (xs (7 * k + 3)) (decide (¬ xs (7 * k + 4) = 0)) (decide (¬ xs (7 * k + 5) = 0)) (xs (7 * k + 6))).2.1) := by
    obtain ⟨ca1, ma1, lp1, hx1⟩ := hX1
    exact ⟨⟨ca1, ma1, lp1, xw_ky hx1 hk2⟩, hy2⟩
  refine lv_icmp_eq (tgt := 648) hx hb dL_law_359 (by decide) (fun h9 => ?_) (fun h9 => absurd rfl h9)
  refine W.widen (k := 20 + k + 1) (n := 4000 + 9 * k + 9) (show 20 + k + 1 + 0 ≤ 20 + k + 1 by omega) (show 4000 + 9 * k + 9 + 0 ≤ 4000 + 9 * k + 9 by omega) ?_
  exact hnext M2 ((sp_ad σ (xs (7 * k + 1)) 1 (xs (7 * k + 2)) (xs (7 * k + 3)) (decide (¬ xs (7 * k + 4) = 0)) (decide (¬ xs (7 * k + 5) = 0)) (xs (7 * k + 6))).2.2) ((sp_ad σ (xs (7 * k + 1)) 1 (xs (7 * k + 2)) (xs (7 * k + 3)) (decide (¬ xs (7 * k + 4) = 0)) (decide (¬ xs (7 * k + 5) = 0)) (xs (7 * k + 6))).2.1) H locs ls hI2 hM hl
end GC
