section GC
variable {l : Launch} {G : mw_G} {M : mw_M} {x qc qm ql : Nat} {ca ma : Nat → Nat} {σ : sg_T} {rf : Int32} {lp : Nat → Int32}
set_option maxHeartbeats 4000000 in
set_option maxRecDepth 100000 in
theorem c_X_isName (v : Int32) : mw_C l G yX_isName bX_isName 1 (some .boolean) { frames := 0, cells := 0, slots := 0, locals := 0 } M [.int v] (mp_ (some (.int (mb_i (decide (¬ (v < 0 ∨ 99 < v)))))) M) := by
  refine mw_of (by decide) (Nat.le_of_ble_eq_true rfl) ?_
  intro pg en s mi below meth cd F hr _ hM ls hl
  obtain ⟨hx, hb, -⟩ := id F
  have hl : lv_has ls 1 [(0, .int v)] := hl
  refine lv_iload_n hx hb dX_isName_0 rfl (lv_at hl 0 rfl) ?_
  refine lv_if_lt (tgt := 14) hx hb dX_isName_1 (by decide) (fun h1 => ?_) (fun h1 => ?_)
  · refine lv_iconst (v := 0) hx hb dX_isName_14 (by decide) ?_
    exact mr_z (v := false) F hr hM (⟨by simp [h1], rfl⟩) dX_isName_15 ⟨Nat.le_of_ble_eq_true rfl, Nat.le_of_ble_eq_true rfl⟩
  · refine lv_iload_n hx hb dX_isName_4 rfl (lv_at hl 0 rfl) ?_
    refine lv_bipush (v := 99) hx hb dX_isName_5 (by decide) ?_
    refine lv_icmp_gt (tgt := 14) hx hb dX_isName_7 (by decide) (fun h2 => ?_) (fun h2 => ?_)
    · refine lv_iconst (v := 0) hx hb dX_isName_14 (by decide) ?_
      exact mr_z (v := false) F hr hM (⟨by simp [h2], rfl⟩) dX_isName_15 ⟨Nat.le_of_ble_eq_true rfl, Nat.le_of_ble_eq_true rfl⟩
    · refine lv_iconst (v := 1) hx hb dX_isName_10 (by decide) ?_
      refine lv_goto (tgt := 15) hx hb dX_isName_11 (by decide) ?_
      exact mr_z (v := true) F hr hM (⟨by simp [h1, h2], rfl⟩) dX_isName_15 ⟨Nat.le_of_ble_eq_true rfl, Nat.le_of_ble_eq_true rfl⟩
set_option maxHeartbeats 4000000 in
set_option maxRecDepth 100000 in
theorem c_X_isRights (v : Int32) : mw_C l G yX_isRights bX_isRights 1 (some .boolean) { frames := 0, cells := 0, slots := 0, locals := 0 } M [.int v] (mp_ (some (.int (mb_i (decide (¬ (v < 0 ∨ 3 < v)))))) M) := by
  refine mw_of (by decide) (Nat.le_of_ble_eq_true rfl) ?_
  intro pg en s mi below meth cd F hr _ hM ls hl
  obtain ⟨hx, hb, -⟩ := id F
  have hl : lv_has ls 1 [(0, .int v)] := hl
  refine lv_iload_n hx hb dX_isRights_0 rfl (lv_at hl 0 rfl) ?_
  refine lv_if_lt (tgt := 13) hx hb dX_isRights_1 (by decide) (fun h1 => ?_) (fun h1 => ?_)
  · refine lv_iconst (v := 0) hx hb dX_isRights_13 (by decide) ?_
    exact mr_z (v := false) F hr hM (⟨by simp [h1], rfl⟩) dX_isRights_14 ⟨Nat.le_of_ble_eq_true rfl, Nat.le_of_ble_eq_true rfl⟩
  · refine lv_iload_n hx hb dX_isRights_4 rfl (lv_at hl 0 rfl) ?_
    refine lv_iconst (v := 3) hx hb dX_isRights_5 (by decide) ?_
    refine lv_icmp_gt (tgt := 13) hx hb dX_isRights_6 (by decide) (fun h2 => ?_) (fun h2 => ?_)
    · refine lv_iconst (v := 0) hx hb dX_isRights_13 (by decide) ?_
      exact mr_z (v := false) F hr hM (⟨by simp [h2], rfl⟩) dX_isRights_14 ⟨Nat.le_of_ble_eq_true rfl, Nat.le_of_ble_eq_true rfl⟩
    · refine lv_iconst (v := 1) hx hb dX_isRights_9 (by decide) ?_
      refine lv_goto (tgt := 14) hx hb dX_isRights_10 (by decide) ?_
      exact mr_z (v := true) F hr hM (⟨by simp [h1, h2], rfl⟩) dX_isRights_14 ⟨Nat.le_of_ble_eq_true rfl, Nat.le_of_ble_eq_true rfl⟩
set_option maxHeartbeats 4000000 in
set_option maxRecDepth 100000 in
theorem c_X_classAt (hw : xw_ G M x qc qm ql ca ma σ rf lp) (v : Int32) : mw_C l G yX_classAt bX_classAt 2 (some (.object RC)) { frames := 0, cells := 0, slots := 0, locals := 0 } M [.ref x, .int v] (mp_ (some (va_rf ((ix_o v (sg_nc σ)).map ca))) M) := by
  refine mw_of (by decide) (Nat.le_of_ble_eq_true rfl) ?_
  intro pg en s mi below meth cd F hr _ hM ls hl
  obtain ⟨hx, hb, -⟩ := id F
  have hl : lv_has ls 2 [(0, .ref x), (1, .int v)] := hl
  have hle := xw_nc hw
  refine lv_iload_n hx hb dX_classAt_0 rfl (lv_at hl 1 rfl) ?_
  refine lv_if_lt (tgt := 21) hx hb dX_classAt_1 (by decide) (fun h1 => ?_) (fun h1 => ?_)
  · refine lv_null hx hb dX_classAt_21 ?_
    exact mr_a (o := none) F hr hM (⟨by rw [ix_neg h1]; rfl, rfl⟩) dX_classAt_22 ⟨Nat.le_of_ble_eq_true rfl, Nat.le_of_ble_eq_true rfl⟩
  · refine lv_iload_n hx hb dX_classAt_4 rfl (lv_at hl 1 rfl) ?_
    refine lv_aload_n hx hb dX_classAt_5 rfl (lv_at hl 0 rfl) ?_
    refine gf_X_25 F hM (xw_x hw) rfl dX_classAt_6 ?_
    refine lv_icmp_ge (tgt := 21) hx hb dX_classAt_9 (by decide) (fun h2 => ?_) (fun h2 => ?_)
    · refine lv_null hx hb dX_classAt_21 ?_
      exact mr_a (o := none) F hr hM (⟨by rw [ix_ge (by omega) h2]; rfl, rfl⟩) dX_classAt_22 ⟨Nat.le_of_ble_eq_true rfl, Nat.le_of_ble_eq_true rfl⟩
    · obtain ⟨i, hi, hv, hix⟩ := ix_in (by omega) h1 h2
      refine lv_aload_n hx hb dX_classAt_12 rfl (lv_at hl 0 rfl) ?_
      refine gf_X_11 F hM (xw_x hw) rfl dX_classAt_13 ?_
      refine lv_iload_n hx hb dX_classAt_16 rfl (lv_at hl 1 rfl) ?_
      refine mw_cld F hM (xw_qc hw) (by rw [hv]; exact vp_in_nI (by omega) (by omega)) dX_classAt_17 ?_
      refine mv_v (y := va_rf (some (ca i))) (by rw [hv, nI_clamp (show i < 2 ^ 31 by omega), if_pos hi]) ?_
      refine lv_goto (tgt := 22) hx hb dX_classAt_18 (by decide) ?_
      exact mr_a (o := some (ca i)) F hr hM (⟨by rw [hix]; rfl, rfl⟩) dX_classAt_22 ⟨Nat.le_of_ble_eq_true rfl, Nat.le_of_ble_eq_true rfl⟩
set_option maxHeartbeats 4000000 in
set_option maxRecDepth 100000 in
theorem c_X_memberAt (hw : xw_ G M x qc qm ql ca ma σ rf lp) (v : Int32) : mw_C l G yX_memberAt bX_memberAt 2 (some (.object RN)) { frames := 0, cells := 0, slots := 0, locals := 0 } M [.ref x, .int v] (mp_ (some (va_rf ((ix_o v (sg_nm σ)).map ma))) M) := by
  refine mw_of (by decide) (Nat.le_of_ble_eq_true rfl) ?_
  intro pg en s mi below meth cd F hr _ hM ls hl
  obtain ⟨hx, hb, -⟩ := id F
  have hl : lv_has ls 2 [(0, .ref x), (1, .int v)] := hl
  have hle := xw_nm hw
  refine lv_iload_n hx hb dX_memberAt_0 rfl (lv_at hl 1 rfl) ?_
  refine lv_if_lt (tgt := 21) hx hb dX_memberAt_1 (by decide) (fun h1 => ?_) (fun h1 => ?_)
  · refine lv_null hx hb dX_memberAt_21 ?_
    exact mr_a (o := none) F hr hM (⟨by rw [ix_neg h1]; rfl, rfl⟩) dX_memberAt_22 ⟨Nat.le_of_ble_eq_true rfl, Nat.le_of_ble_eq_true rfl⟩
  · refine lv_iload_n hx hb dX_memberAt_4 rfl (lv_at hl 1 rfl) ?_
    refine lv_aload_n hx hb dX_memberAt_5 rfl (lv_at hl 0 rfl) ?_
    refine gf_X_29 F hM (xw_x hw) rfl dX_memberAt_6 ?_
    refine lv_icmp_ge (tgt := 21) hx hb dX_memberAt_9 (by decide) (fun h2 => ?_) (fun h2 => ?_)
    · refine lv_null hx hb dX_memberAt_21 ?_
      exact mr_a (o := none) F hr hM (⟨by rw [ix_ge (by omega) h2]; rfl, rfl⟩) dX_memberAt_22 ⟨Nat.le_of_ble_eq_true rfl, Nat.le_of_ble_eq_true rfl⟩
    · obtain ⟨i, hi, hv, hix⟩ := ix_in (by omega) h1 h2
      refine lv_aload_n hx hb dX_memberAt_12 rfl (lv_at hl 0 rfl) ?_
      refine gf_X_17 F hM (xw_x hw) rfl dX_memberAt_13 ?_
      refine lv_iload_n hx hb dX_memberAt_16 rfl (lv_at hl 1 rfl) ?_
      refine mw_nld F hM (xw_qm hw) (by rw [hv]; exact vp_in_nI (by omega) (by omega)) dX_memberAt_17 ?_
      refine mv_v (y := va_rf (some (ma i))) (by rw [hv, nI_clamp (show i < 2 ^ 31 by omega), if_pos hi]) ?_
      refine lv_goto (tgt := 22) hx hb dX_memberAt_18 (by decide) ?_
      exact mr_a (o := some (ma i)) F hr hM (⟨by rw [hix]; rfl, rfl⟩) dX_memberAt_22 ⟨Nat.le_of_ble_eq_true rfl, Nat.le_of_ble_eq_true rfl⟩
set_option maxHeartbeats 4000000 in
set_option maxRecDepth 100000 in
theorem c_N_isObjectMethod (hw : xw_ G M x qc qm ql ca ma σ rf lp) {j : Nat} (hj : j < sg_nm σ) : mw_C l G yN_isObjectMethod bN_isObjectMethod 1 (some .boolean) { frames := 0, cells := 0, slots := 0, locals := 0 } M [.ref (ma j)] (mp_ (some (.int (mb_i (sg_ob σ j)))) M) := by
  refine mw_of (by decide) (Nat.le_of_ble_eq_true rfl) ?_
  intro pg en s mi below meth cd F hr _ hM ls hl
  obtain ⟨hx, hb, -⟩ := id F
  have hl : lv_has ls 1 [(0, .ref (ma j))] := hl
  refine lv_aload_n hx hb dN_isObjectMethod_0 rfl (lv_at hl 0 rfl) ?_
  refine gf_N_15 F hM (xw_m hw hj) rfl dN_isObjectMethod_1 ?_
  refine lv_iconst (v := 1) hx hb dN_isObjectMethod_4 (by decide) ?_
  refine lv_icmp_ne (tgt := 19) hx hb dN_isObjectMethod_5 (by decide) (fun h1 => ?_) (fun h1 => ?_)
  · refine lv_iconst (v := 0) hx hb dN_isObjectMethod_19 (by decide) ?_
    exact mr_z (v := false) F hr hM (⟨by simp [sg_ob, h1], rfl⟩) dN_isObjectMethod_20 ⟨Nat.le_of_ble_eq_true rfl, Nat.le_of_ble_eq_true rfl⟩
  · refine lv_aload_n hx hb dN_isObjectMethod_8 rfl (lv_at hl 0 rfl) ?_
    refine gf_N_25 F hM (xw_m hw hj) rfl dN_isObjectMethod_9 ?_
    refine lv_if_ne (tgt := 19) hx hb dN_isObjectMethod_12 (by decide) (fun h2 => ?_) (fun h2 => ?_)
    · refine lv_iconst (v := 0) hx hb dN_isObjectMethod_19 (by decide) ?_
      exact mr_z (v := false) F hr hM (⟨by simp [sg_ob, mb_n h2], rfl⟩) dN_isObjectMethod_20 ⟨Nat.le_of_ble_eq_true rfl, Nat.le_of_ble_eq_true rfl⟩
    · refine lv_iconst (v := 1) hx hb dN_isObjectMethod_15 (by decide) ?_
      refine lv_goto (tgt := 20) hx hb dN_isObjectMethod_16 (by decide) ?_
      exact mr_z (v := true) F hr hM (⟨by simp [sg_ob, h1, mb_z h2], rfl⟩) dN_isObjectMethod_20 ⟨Nat.le_of_ble_eq_true rfl, Nat.le_of_ble_eq_true rfl⟩
set_option maxHeartbeats 4000000 in
set_option maxRecDepth 100000 in
theorem c_C_isBelow (hw : xw_ G M x qc qm ql ca ma σ rf lp) {i j : Nat} (hi : i < sg_nc σ) (hj : j < sg_nc σ) : mw_C l G yC_isBelow bC_isBelow 3 (some .boolean) { frames := 0, cells := 0, slots := 0, locals := 0 } M [.ref (ca i), .ref (ca j)] (mp_ (some (.int (mb_i (decide (j ∈ sg_ln (sg_pr σ) i))))) M) := by
  refine mw_of (by decide) (Nat.le_of_ble_eq_true rfl) ?_
  intro pg en s mi below meth cd F hr _ hM ls hl
  obtain ⟨hx, hb, -⟩ := id F
  have hl : lv_has ls 3 [(0, .ref (ca i)), (1, .ref (ca j))] := hl
  have loop : ∀ (n : Nat) (o : Option Nat) (H : Heap) (locs : List Loc) (ls : Array Slot), (∀ d, o = some d → d < n ∧ d < sg_nc σ) → decide (j ∈ sg_ln (sg_pr σ) i) = decide (j ∈ ln_o (sg_pr σ) o) → mw_S G M s.heap H locs → lv_has ls 3 [(2, va_rf (o.map ca)), (0, .ref (ca i)), (1, .ref (ca j))] → W pg l en { frames := 0, cells := 0, slots := 0, locals := 0 } s mi [.ref (ca i), .ref (ca j)].toArray below meth cd H locs 0 0 (MQ below (mw_Q G (mp_ (some (.int (mb_i (decide (j ∈ sg_ln (sg_pr σ) i))))) M)) [.ref (ca i), .ref (ca j)].toArray s 0 0 (mw_A G)) (F0 mi 2 ls []) := by
    intro n
    induction n using Nat.strongRecOn with
    | ind n ih =>
      intro o H locs ls hd hq hM hl
      rcases o with _ | d
      · have hl : lv_has ls 3 [(2, .null), (0, .ref (ca i)), (1, .ref (ca j))] := hl
        refine lv_aload_nN hx hb dC_isBelow_2 rfl (lv_at hl 0 rfl) ?_
        refine lv_ifnullN (tgt := 21) hx hb dC_isBelow_3 (by decide) ?_
        refine lv_iconst (v := 0) hx hb dC_isBelow_21 (by decide) ?_
        exact mr_z (v := false) F hr hM (⟨by rw [hq]; rfl, rfl⟩) dC_isBelow_22 ⟨Nat.le_of_ble_eq_true rfl, Nat.le_of_ble_eq_true rfl⟩
      · have hl : lv_has ls 3 [(2, .ref (ca d)), (0, .ref (ca i)), (1, .ref (ca j))] := hl
        obtain ⟨hd1, hd2⟩ := hd d rfl
        refine lv_aload_n hx hb dC_isBelow_2 rfl (lv_at hl 0 rfl) ?_
        refine lv_ifnull hx hb dC_isBelow_3 ?_
        refine lv_aload_n hx hb dC_isBelow_6 rfl (lv_at hl 0 rfl) ?_
        refine lv_aload_n hx hb dC_isBelow_7 rfl (lv_at hl 2 rfl) ?_
        refine lv_acmp_ne (rx := some (ca d)) (ry := some (ca j)) (tgt := 13) hx hb dC_isBelow_8 (by decide) (fun h1 => ?_) (fun h1 => ?_)
        · have hne : ¬ d = j := fun q => h1 (by rw [q])
          refine lv_aload_n hx hb dC_isBelow_13 rfl (lv_at hl 0 rfl) ?_
          refine gf_C_15 F hM (xw_c hw hd2) rfl dC_isBelow_14 ?_
          refine mv_ast_n (lv' := [(2, va_rf ((sg_pr σ d).map ca)), (0, .ref (ca i)), (1, .ref (ca j))]) hx hb dC_isBelow_17 rfl hl (by decide) rfl (fun ls hl => ?_)
          refine lv_goto (tgt := 2) hx hb dC_isBelow_18 (by decide) ?_
          exact ih d hd1 (sg_pr σ d) H locs ls (fun q hq2 => ⟨xw_pr hw hd2 hq2, Nat.lt_trans (xw_pr hw hd2 hq2) hd2⟩) (by rw [hq]; show decide (j ∈ sg_ln (sg_pr σ) d) = _; rw [ln_e (fun q hq2 => xw_pr hw hd2 hq2)]; simp [Ne.symm hne]) hM (lv_sub hl [0, 1, 2] rfl)
        · have hdj : d = j := (xw_cq hw hd2 hj).mp h1
          subst hdj
          refine lv_iconst (v := 1) hx hb dC_isBelow_11 (by decide) ?_
          exact mr_z (v := true) F hr hM (⟨by rw [hq]; show _ = some (Value.int (mb_i (decide (d ∈ sg_ln (sg_pr σ) d)))); rw [decide_eq_true (ln_self)], rfl⟩) dC_isBelow_12 ⟨Nat.le_of_ble_eq_true rfl, Nat.le_of_ble_eq_true rfl⟩
  refine lv_aload_n hx hb dC_isBelow_0 rfl (lv_at hl 0 rfl) ?_
  refine lv_astore_n (lv' := [(2, .ref (ca i)), (0, .ref (ca i)), (1, .ref (ca j))]) hx hb dC_isBelow_1 rfl hl (by decide) rfl (fun ls hl => ?_)
  exact loop (i + 1) (some i) _ _ ls (fun d hd => by cases hd; exact ⟨Nat.lt_succ_self _, hi⟩) rfl hM (lv_sub hl [0, 1, 2] rfl)
end GC
