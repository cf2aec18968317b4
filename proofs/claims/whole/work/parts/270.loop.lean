section GC
variable {l : Launch} {G : mw_G} {M : mw_M} {x qc qm ql : Nat} {ca ma : Nat → Nat} {σ : sg_T} {rf : Int32} {lp : Nat → Int32}
set_option maxHeartbeats 4000000 in
set_option maxRecDepth 100000 in
theorem law_loop {p : Program} {l : Launch} {e : Env} {s : State} {m : MethodId} {below : List Frame} {meth : Method} {c : Code} {b L : Nat} {xs : Nat → Int32} {G : mw_G} {x qc qm ql y : Nat} {q : Nat → Nat} (C0 : lw_At p s m meth c b L xs) (F : mw_F p m meth c bL_law 4 s #[Value.ref b] RL G) (hG : G.2.1 = s.heap.size) (hL : L ≤ 3584) : ∀ (v k : Nat) (M : mw_M) (σ : sg_T) (rf : Int32) (H : Heap) (locs : List Loc) (ls : Array Slot), L < 7 * k + v → 7 * k ≤ L → lw_I G M x qc qm ql y q σ rf → mw_S G M s.heap H locs → lv_has ls 4 [(0, .ref b), (1, .ref x), (2, .ref y), (3, .int (nI (7 * k)))] → W p l e room_1 s m #[Value.ref b] below meth c H locs (20 + k) (4000 + 9 * k) (lw_Z below #[Value.ref b] s) (F0 m 18 ls []) := by
  have hbA : ¬ mw_A G b := fun z => by
    have z : G.2.1 ≤ b := z
    rw [hG] at z
    exact Nat.not_le.mpr C0.2.2.2.2.2.2.2.1 z
  obtain ⟨hx, hb, hr, hml, hown, hts, hX, hbl, hlocks, hgv⟩ := id C0
  intro v
  induction v with
  | zero => intro k M σ rf H locs ls h1 h2; omega
  | succ v ih =>
    intro k M σ rf H locs ls hv hkL hI hM hl
    refine lv_iload_n hx hb dL_law_18 rfl (lv_at hl 3 rfl) ?_
    refine lv_aload_n hx hb dL_law_19 rfl (lv_at hl 0 rfl) ?_
    refine va_slen hx hb hX hbl hbA hM.2.2 dL_law_20 ?_
    refine lv_bipush (v := 7) hx hb dL_law_21 (by decide) ?_
    refine lv_isub hx hb dL_law_23 ?_
    refine lv_icmp_gt (tgt := 654) hx hb dL_law_24 (by decide) (fun h1 => ?_) (fun h1 => ?_)
    · refine lv_iconst (v := 1) hx hb dL_law_654 (by decide) ?_
      refine va_forget (fun q hq => by
        have z := hM.2.2.2.2 q hq
        rw [← hG]; exact z) ?_
      refine W.widen (k := 600000) (n := 7302250) (by omega) (by omega) ?_
      exact lw_ret hx hb hr hlocks dL_law_655
    · have hk7 : 7 * k + 7 ≤ L := by
        rw [Int32.lt_iff_toInt_lt, nI_toInt (by omega)] at h1
        have h2 : (Int32.ofNat L - 7).toInt = (L : Int) - 7 := pk_sub_toInt (a := L) (b := 7) (by omega) (by omega)
        rw [h2] at h1
        omega
      have hnext : ∀ (M : mw_M) (σ : sg_T) (rf : Int32) (H : Heap) (locs : List Loc) (ls : Array Slot), lw_I G M x qc qm ql y q σ rf → mw_S G M s.heap H locs → lv_has ls 4 [(0, .ref b), (1, .ref x), (2, .ref y), (3, .int (nI (7 * k)))] → W p l e room_1 s m #[Value.ref b] below meth c H locs (20 + k + 1) (4000 + 9 * k + 9) (lw_Z below #[Value.ref b] s) (F0 m 648 ls []) := by
        intro M σ rf H locs ls hI hM hl
        refine lv_iinc (v := nI (7 * (k + 1))) (lv' := [(3, .int (nI (7 * (k + 1)))), (0, .ref b), (1, .ref x), (2, .ref y)]) hx hb dL_law_648 hl (k := 3) rfl (nI_add (7 * k) 7) (by decide) rfl (fun ls hl => ?_)
        refine lv_goto (tgt := 18) hx hb dL_law_651 (by decide) ?_
        exact ih (k + 1) M σ rf H locs ls (by omega) (by omega) hI hM (lv_sub hl [1, 2, 3, 0] rfl)
      refine lv_aload_n hx hb dL_law_27 rfl (lv_at hl 0 rfl) ?_
      refine lv_iload_n hx hb dL_law_28 rfl (lv_at hl 3 rfl) ?_
      refine va_sld hx hb hX hbl hbA hM.2.2 (vp_in_nI (by omega) (by omega)) dL_law_29 ?_
      refine mv_i (y := xs (7 * k)) (by rw [nI_clamp (by omega)]) ?_
      refine lv_bipush (v := 15) hx hb dL_law_30 (by decide) ?_
      refine lv_iand hx hb dL_law_32 ?_
      obtain ⟨j, hj, ej⟩ := pk_andE (xs (7 * k)) (m := 15) 4 (by decide)
      refine mv_i (y := nI j) (ej) ?_
      have hj2 : j = 0 ∨ j = 1 ∨ j = 2 ∨ j = 3 ∨ j = 4 ∨ j = 5 ∨ j = 6 ∨ j = 7 ∨ j = 8 ∨ j = 9 ∨ j = 10 ∨ j = 11 ∨ 12 ≤ j := by omega
      rcases hj2 with rfl | rfl | rfl | rfl | rfl | rfl | rfl | rfl | rfl | rfl | rfl | rfl | hj2
      · refine lv_tableIn (tgt := 96) hx hb dL_law_33 (by decide) (by decide) rfl (by decide) ?_
        exact law_c0 C0 F hbA hL hk7 hI hM hl hnext
      · refine lv_tableIn (tgt := 129) hx hb dL_law_33 (by decide) (by decide) rfl (by decide) ?_
        exact law_c1 C0 F hbA hL hk7 hI hM hl hnext
      · refine lv_tableIn (tgt := 162) hx hb dL_law_33 (by decide) (by decide) rfl (by decide) ?_
        exact law_c2 C0 F hbA hL hk7 hI hM hl hnext
      · refine lv_tableIn (tgt := 257) hx hb dL_law_33 (by decide) (by decide) rfl (by decide) ?_
        exact law_c3 C0 F hbA hL hk7 hI hM hl hnext
      · refine lv_tableIn (tgt := 364) hx hb dL_law_33 (by decide) (by decide) rfl (by decide) ?_
        exact law_c4 C0 F hbA hL hk7 hI hM hl hnext
      · refine lv_tableIn (tgt := 407) hx hb dL_law_33 (by decide) (by decide) rfl (by decide) ?_
        exact law_c5 C0 F hbA hL hk7 hI hM hl hnext
      · refine lv_tableIn (tgt := 470) hx hb dL_law_33 (by decide) (by decide) rfl (by decide) ?_
        exact law_c6 C0 F hbA hL hk7 hI hM hl hnext
      · refine lv_tableIn (tgt := 483) hx hb dL_law_33 (by decide) (by decide) rfl (by decide) ?_
        exact law_c7 C0 F hbA hL hk7 hI hM hl hnext
      · refine lv_tableIn (tgt := 516) hx hb dL_law_33 (by decide) (by decide) rfl (by decide) ?_
        exact law_c8 C0 F hbA hL hk7 hI hM hl hnext
      · refine lv_tableIn (tgt := 549) hx hb dL_law_33 (by decide) (by decide) rfl (by decide) ?_
        exact law_c9 C0 F hbA hL hk7 hI hM hl hnext
      · refine lv_tableIn (tgt := 582) hx hb dL_law_33 (by decide) (by decide) rfl (by decide) ?_
        exact law_c10 C0 F hbA hL hk7 hI hM hl hnext
      · refine lv_tableIn (tgt := 615) hx hb dL_law_33 (by decide) (by decide) rfl (by decide) ?_
        exact law_c11 C0 F hbA hL hk7 hI hM hl hnext
      · refine lv_tableOut (tgt := 648) hx hb dL_law_33 (Or.inr (by rw [nI_toInt (by omega)]; omega)) (by decide) ?_
        refine W.widen (k := 20 + k + 1) (n := 4000 + 9 * k + 9) (by omega) (by omega) ?_
        exact hnext M σ rf H locs ls hI hM hl
end GC
