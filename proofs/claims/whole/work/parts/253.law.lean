section GC
variable {l : Launch} {G : mw_G} {M : mw_M} {x qc qm ql : Nat} {ca ma : Nat → Nat} {σ : sg_T} {rf : Int32} {lp : Nat → Int32}
set_option maxHeartbeats 4000000 in
set_option maxRecDepth 100000 in
theorem law_c2 {p : Program} {l : Launch} {e : Env} {s : State} {m : MethodId} {below : List Frame} {meth : Method} {c : Code} {b L : Nat} {xs : Nat → Int32} {G : mw_G} {x qc qm ql y : Nat} {q : Nat → Nat} (C0 : lw_At p s m meth c b L xs) (F : mw_F p m meth c bL_law 4 s #[Value.ref b] RL G) (hbA : ¬ mw_A G b) {k : Nat} (hL : L ≤ 3584) (hk : 7 * k + 7 ≤ L) {M : mw_M} {σ : sg_T} {rf : Int32} {H : Heap} {locs : List Loc} {ls : Array Slot} (hI : lw_I G M x qc qm ql y q σ rf) (hM : mw_S G M s.heap H locs) (hl : lv_has ls 4 [(0, .ref b), (1, .ref x), (2, .ref y), (3, .int (nI (7 * k)))]) (hnext : ∀ (M : mw_M) (σ : sg_T) (rf : Int32) (H : Heap) (locs : List Loc) (ls : Array Slot), lw_I G M x qc qm ql y q σ rf → mw_S G M s.heap H locs → lv_has ls 4 [(0, .ref b), (1, .ref x), (2, .ref y), (3, .int (nI (7 * k)))] → W p l e room_1 s m #[Value.ref b] below meth c H locs (20 + k + 1) (4000 + 9 * k + 9) (lw_Z below #[Value.ref b] s) (F0 m 648 ls [])) : W p l e room_1 s m #[Value.ref b] below meth c H locs (20 + k) (4000 + 9 * k) (lw_Z below #[Value.ref b] s) (F0 m 162 ls []) := by
  obtain ⟨hx, hb, hr, hml, hown, hts, hX, hbl, hlocks, hgv⟩ := C0
  obtain ⟨⟨ca, ma, lp, hwx⟩, f, ch, lk, ov, hwy⟩ := hI
  refine lv_aload_n hx hb dL_law_162 rfl (lv_at hl 1 rfl) ?_
  refine lv_aload_n hx hb dL_law_163 rfl (lv_at hl 0 rfl) ?_
  refine lv_iload_n hx hb dL_law_164 rfl (lv_at hl 3 rfl) ?_
  refine lv_iconst (v := 1) hx hb dL_law_165 (by decide) ?_
  refine lv_iadd hx hb dL_law_166 ?_
  refine mv_i (y := nI (7 * k + 1)) (nI_add (7 * k) 1) ?_
  refine va_sld hx hb hX hbl hbA hM.2.2 (vp_in_nI (by omega) (by omega)) dL_law_167 ?_
  refine mv_i (y := xs (7 * k + 1)) (by rw [nI_clamp (by omega)]) ?_
  refine lv_aload_n hx hb dL_law_168 rfl (lv_at hl 0 rfl) ?_
  refine lv_iload_n hx hb dL_law_169 rfl (lv_at hl 3 rfl) ?_
  refine lv_iconst (v := 2) hx hb dL_law_170 (by decide) ?_
  refine lv_iadd hx hb dL_law_171 ?_
  refine mv_i (y := nI (7 * k + 2)) (nI_add (7 * k) 2) ?_
  refine va_sld hx hb hX hbl hbA hM.2.2 (vp_in_nI (by omega) (by omega)) dL_law_172 ?_
  refine mv_i (y := xs (7 * k + 2)) (by rw [nI_clamp (by omega)]) ?_
  refine lv_aload_n hx hb dL_law_173 rfl (lv_at hl 0 rfl) ?_
  refine lv_iload_n hx hb dL_law_174 rfl (lv_at hl 3 rfl) ?_
  refine lv_iconst (v := 3) hx hb dL_law_175 (by decide) ?_
  refine lv_iadd hx hb dL_law_176 ?_
  refine mv_i (y := nI (7 * k + 3)) (nI_add (7 * k) 3) ?_
  refine va_sld hx hb hX hbl hbA hM.2.2 (vp_in_nI (by omega) (by omega)) dL_law_177 ?_
  refine mv_i (y := xs (7 * k + 3)) (by rw [nI_clamp (by omega)]) ?_
  refine mv_nz (t1 := 185) (t2 := 186) hx hb dL_law_178 (by decide) dL_law_181 dL_law_182 (by decide) dL_law_185 rfl ?_
  refine lv_aload_n hx hb dL_law_186 rfl (lv_at hl 0 rfl) ?_
  refine lv_iload_n hx hb dL_law_187 rfl (lv_at hl 3 rfl) ?_
  refine lv_iconst (v := 4) hx hb dL_law_188 (by decide) ?_
  refine lv_iadd hx hb dL_law_189 ?_
  refine mv_i (y := nI (7 * k + 4)) (nI_add (7 * k) 4) ?_
  refine va_sld hx hb hX hbl hbA hM.2.2 (vp_in_nI (by omega) (by omega)) dL_law_190 ?_
  refine mv_i (y := xs (7 * k + 4)) (by rw [nI_clamp (by omega)]) ?_
  refine mv_nz (t1 := 198) (t2 := 199) hx hb dL_law_191 (by decide) dL_law_194 dL_law_195 (by decide) dL_law_198 rfl ?_
  refine lv_aload_n hx hb dL_law_199 rfl (lv_at hl 0 rfl) ?_
  refine lv_iload_n hx hb dL_law_200 rfl (lv_at hl 3 rfl) ?_
  refine lv_iconst (v := 5) hx hb dL_law_201 (by decide) ?_
  refine lv_iadd hx hb dL_law_202 ?_
  refine mv_i (y := nI (7 * k + 5)) (nI_add (7 * k) 5) ?_
  refine va_sld hx hb hX hbl hbA hM.2.2 (vp_in_nI (by omega) (by omega)) dL_law_203 ?_
  refine mv_i (y := xs (7 * k + 5)) (by rw [nI_clamp (by omega)]) ?_
  refine mw_Vg (As := [.int (xs (7 * k + 1)), .int (xs (7 * k + 2)), .int (mb_i (decide (¬ xs (7 * k + 3) = 0))), .int (mb_i (decide (¬ xs (7 * k + 4) = 0))), .int (xs (7 * k + 5))]) (rest := []) F (c_X_field hwx (xs (7 * k + 1)) (xs (7 * k + 2)) (xs (7 * k + 5)) (decide (¬ xs (7 * k + 3) = 0)) (decide (¬ xs (7 * k + 4) = 0))) kb_X_field ki_X_field ks_X_field kl_L_23 hM (xw_x hwx) rfl rfl hl.1 rfl (Nat.le_of_ble_eq_true rfl) dL_law_204 ⟨⟨Nat.le_of_ble_eq_true rfl, Nat.le_of_ble_eq_true rfl⟩, (show 20 + k + 1 ≤ 600000 by omega), (show 4000 + 9 * k + 9 ≤ 7302250 by omega)⟩ (fun M1 H locs hp hM => ?_)
  obtain ⟨hX1, hk1⟩ := hp
  have hwy1 := yw_kx hwy hk1
  refine lv_aload_n hx hb dL_law_207 rfl (lv_at hl 2 rfl) ?_
  refine lv_aload_n hx hb dL_law_208 rfl (lv_at hl 0 rfl) ?_
  refine lv_iload_n hx hb dL_law_209 rfl (lv_at hl 3 rfl) ?_
  refine lv_iconst (v := 1) hx hb dL_law_210 (by decide) ?_
  refine lv_iadd hx hb dL_law_211 ?_
  refine mv_i (y := nI (7 * k + 1)) (nI_add (7 * k) 1) ?_
  refine va_sld hx hb hX hbl hbA hM.2.2 (vp_in_nI (by omega) (by omega)) dL_law_212 ?_
  refine mv_i (y := xs (7 * k + 1)) (by rw [nI_clamp (by omega)]) ?_
  refine lv_aload_n hx hb dL_law_213 rfl (lv_at hl 0 rfl) ?_
  refine lv_iload_n hx hb dL_law_214 rfl (lv_at hl 3 rfl) ?_
  refine lv_iconst (v := 2) hx hb dL_law_215 (by decide) ?_
  refine lv_iadd hx hb dL_law_216 ?_
  refine mv_i (y := nI (7 * k + 2)) (nI_add (7 * k) 2) ?_
  refine va_sld hx hb hX hbl hbA hM.2.2 (vp_in_nI (by omega) (by omega)) dL_law_217 ?_
  refine mv_i (y := xs (7 * k + 2)) (by rw [nI_clamp (by omega)]) ?_
  refine lv_aload_n hx hb dL_law_218 rfl (lv_at hl 0 rfl) ?_
  refine lv_iload_n hx hb dL_law_219 rfl (lv_at hl 3 rfl) ?_
  refine lv_iconst (v := 3) hx hb dL_law_220 (by decide) ?_
  refine lv_iadd hx hb dL_law_221 ?_
  refine mv_i (y := nI (7 * k + 3)) (nI_add (7 * k) 3) ?_
  refine va_sld hx hb hX hbl hbA hM.2.2 (vp_in_nI (by omega) (by omega)) dL_law_222 ?_
  refine mv_i (y := xs (7 * k + 3)) (by rw [nI_clamp (by omega)]) ?_
  refine mv_nz (t1 := 230) (t2 := 231) hx hb dL_law_223 (by decide) dL_law_226 dL_law_227 (by decide) dL_law_230 rfl ?_
  refine lv_aload_n hx hb dL_law_231 rfl (lv_at hl 0 rfl) ?_
  refine lv_iload_n hx hb dL_law_232 rfl (lv_at hl 3 rfl) ?_
  refine lv_iconst (v := 4) hx hb dL_law_233 (by decide) ?_
  refine lv_iadd hx hb dL_law_234 ?_
  refine mv_i (y := nI (7 * k + 4)) (nI_add (7 * k) 4) ?_
  refine va_sld hx hb hX hbl hbA hM.2.2 (vp_in_nI (by omega) (by omega)) dL_law_235 ?_
  refine mv_i (y := xs (7 * k + 4)) (by rw [nI_clamp (by omega)]) ?_
  refine mv_nz (t1 := 243) (t2 := 244) hx hb dL_law_236 (by decide) dL_law_239 dL_law_240 (by decide) dL_law_243 rfl ?_
  refine lv_aload_n hx hb dL_law_244 rfl (lv_at hl 0 rfl) ?_
  refine lv_iload_n hx hb dL_law_245 rfl (lv_at hl 3 rfl) ?_
  refine lv_iconst (v := 5) hx hb dL_law_246 (by decide) ?_
  refine lv_iadd hx hb dL_law_247 ?_
  refine mv_i (y := nI (7 * k + 5)) (nI_add (7 * k) 5) ?_
  refine va_sld hx hb hX hbl hbA hM.2.2 (vp_in_nI (by omega) (by omega)) dL_law_248 ?_
  refine mv_i (y := xs (7 * k + 5)) (by rw [nI_clamp (by omega)]) ?_
  refine mw_Vg (As := [.int (xs (7 * k + 1)), .int (xs (7 * k + 2)), .int (mb_i (decide (¬ xs (7 * k + 3) = 0))), .int (mb_i (decide (¬ xs (7 * k + 4) = 0))), .int (xs (7 * k + 5))]) (rest := [.int (sp_ad σ (xs (7 * k + 1)) 0 (xs (7 * k + 2)) 0 (decide (¬ xs (7 * k + 3) = 0)) (decide (¬ xs (7 * k + 4) = 0)) (xs (7 * k + 5))).1]) F (c_Y_field hwy1 (xs (7 * k + 1)) (xs (7 * k + 2)) (xs (7 * k + 5)) (decide (¬ xs (7 * k + 3) = 0)) (decide (¬ xs (7 * k + 4) = 0))) kb_Y_field ki_Y_field ks_Y_field kl_L_27 hM (yw_y hwy1) rfl rfl hl.1 rfl (Nat.le_of_ble_eq_true rfl) dL_law_249 ⟨⟨Nat.le_of_ble_eq_true rfl, Nat.le_of_ble_eq_true rfl⟩, (show 20 + k + 1 + 0 ≤ 600000 by omega), (show 4000 + 9 * k + 9 + 0 ≤ 7302250 by omega)⟩ (fun M2 H locs hp hM => ?_)
  obtain ⟨hy2, hk2⟩ := hp
  have hI2 : lw_I G M2 x qc qm ql y q ((sp_ad σ (xs (7 * k + 1)) 0 (xs (7 * k + 2)) 0 (decide (¬ xs (7 * k + 3) = 0)) (decide (¬ xs (7 * k + 4) = 0)) (xs (7 * k + 5))).2.2) ((sp_ad σ (xs (7 * k + 1)) 0 (xs (7 * k + 2)) 0 (decide (¬ xs (7 * k + 3) = 0)) (decide (¬ xs (7 * k + 4) = 0)) (xs (7 * k + 5))).2.1) := by
    obtain ⟨ca1, ma1, lp1, hx1⟩ := hX1
    exact ⟨⟨ca1, ma1, lp1, xw_ky hx1 hk2⟩, hy2⟩
  refine lv_icmp_eq (tgt := 648) hx hb dL_law_252 (by decide) (fun h9 => ?_) (fun h9 => absurd rfl h9)
  refine W.widen (k := 20 + k + 1) (n := 4000 + 9 * k + 9) (show 20 + k + 1 + 0 ≤ 20 + k + 1 by omega) (show 4000 + 9 * k + 9 + 0 ≤ 4000 + 9 * k + 9 by omega) ?_
  exact hnext M2 ((sp_ad σ (xs (7 * k + 1)) 0 (xs (7 * k + 2)) 0 (decide (¬ xs (7 * k + 3) = 0)) (decide (¬ xs (7 * k + 4) = 0)) (xs (7 * k + 5))).2.2) ((sp_ad σ (xs (7 * k + 1)) 0 (xs (7 * k + 2)) 0 (decide (¬ xs (7 * k + 3) = 0)) (decide (¬ xs (7 * k + 4) = 0)) (xs (7 * k + 5))).2.1) H locs ls hI2 hM hl
end GC
