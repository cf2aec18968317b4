section GC
variable {l : Launch} {G : mw_G} {M : mw_M} {x qc qm ql : Nat} {ca ma : Nat → Nat} {σ : sg_T} {rf : Int32} {lp : Nat → Int32}
set_option maxHeartbeats 4000000 in
set_option maxRecDepth 100000 in
theorem c_X_below (hw : xw_ G M x qc qm ql ca ma σ rf lp) (a b : Int32) : mw_C l G yX_below bX_below 5 (some .boolean) { frames := 1, cells := 0, slots := 0, locals := 40 } M [.ref x, .int a, .int b] (mp_ (some (.int (mb_i (sp_be σ a b)))) M) := by
  refine mw_of (by decide) (Nat.le_of_ble_eq_true rfl) ?_
  intro pg en s mi below meth cd F hr _ hM ls hl
  obtain ⟨hx, hb, -⟩ := id F
  have hl : lv_has ls 5 [(0, .ref x), (1, .int a), (2, .int b)] := hl
  refine lv_aload_n hx hb dX_below_0 rfl (lv_at hl 0 rfl) ?_
  refine lv_iload_n hx hb dX_below_1 rfl (lv_at hl 1 rfl) ?_
  refine mw_Vp (As := [.int a]) (rest := []) F (c_X_classAt hw a) kb_X_classAt ki_X_classAt ks_X_classAt kl_X_35 hM (xw_x hw) rfl rfl hl.1 rfl (Nat.le_of_ble_eq_true rfl) dX_below_2 ⟨⟨Nat.le_of_ble_eq_true rfl, Nat.le_of_ble_eq_true rfl⟩, Nat.le_of_ble_eq_true rfl, Nat.le_of_ble_eq_true rfl⟩ ⟨rfl, rfl⟩ (fun H locs hM => ?_)
  rcases h1 : ix_o a (sg_nc σ) with _ | i
  · refine lv_astore_nN (lv' := [(3, .null), (0, .ref x), (1, .int a), (2, .int b)]) hx hb dX_below_5 rfl hl (by decide) rfl (fun ls hl => ?_)
    refine lv_aload_n hx hb dX_below_6 rfl (lv_at hl 1 rfl) ?_
    refine lv_iload_n hx hb dX_below_7 rfl (lv_at hl 3 rfl) ?_
    refine mw_Vp (As := [.int b]) (rest := []) F (c_X_classAt hw b) kb_X_classAt ki_X_classAt ks_X_classAt kl_X_35 hM (xw_x hw) rfl rfl hl.1 rfl (Nat.le_of_ble_eq_true rfl) dX_below_8 ⟨⟨Nat.le_of_ble_eq_true rfl, Nat.le_of_ble_eq_true rfl⟩, Nat.le_of_ble_eq_true rfl, Nat.le_of_ble_eq_true rfl⟩ ⟨rfl, rfl⟩ (fun H locs hM => ?_)
    refine mv_ast (lv' := [(4, va_rf ((ix_o b (sg_nc σ)).map ca)), (3, .null), (0, .ref x), (1, .int a), (2, .int b)]) hx hb dX_below_11 hl (by decide) rfl (fun ls hl => ?_)
    refine lv_aload_nN hx hb dX_below_13 rfl (lv_at hl 1 rfl) ?_
    refine lv_ifnullN (tgt := 35) hx hb dX_below_14 (by decide) ?_
    refine lv_iconst (v := 0) hx hb dX_below_35 (by decide) ?_
    exact mr_z (v := false) F hr hM (⟨by unfold sp_be; rw [h1], rfl⟩) dX_below_36 ⟨Nat.le_of_ble_eq_true rfl, Nat.le_of_ble_eq_true rfl⟩
  · have lh1 := (ix_some (by have := xw_nc hw; omega) h1).1
    refine lv_astore_n (lv' := [(3, .ref (ca i)), (0, .ref x), (1, .int a), (2, .int b)]) hx hb dX_below_5 rfl hl (by decide) rfl (fun ls hl => ?_)
    refine lv_aload_n hx hb dX_below_6 rfl (lv_at hl 1 rfl) ?_
    refine lv_iload_n hx hb dX_below_7 rfl (lv_at hl 3 rfl) ?_
    refine mw_Vp (As := [.int b]) (rest := []) F (c_X_classAt hw b) kb_X_classAt ki_X_classAt ks_X_classAt kl_X_35 hM (xw_x hw) rfl rfl hl.1 rfl (Nat.le_of_ble_eq_true rfl) dX_below_8 ⟨⟨Nat.le_of_ble_eq_true rfl, Nat.le_of_ble_eq_true rfl⟩, Nat.le_of_ble_eq_true rfl, Nat.le_of_ble_eq_true rfl⟩ ⟨rfl, rfl⟩ (fun H locs hM => ?_)
    rcases h2 : ix_o b (sg_nc σ) with _ | j
    · refine lv_astoreN (lv' := [(4, .null), (3, .ref (ca i)), (0, .ref x), (1, .int a), (2, .int b)]) hx hb dX_below_11 hl (by decide) rfl (fun ls hl => ?_)
      refine lv_aload_n hx hb dX_below_13 rfl (lv_at hl 1 rfl) ?_
      refine lv_ifnull hx hb dX_below_14 ?_
      refine lv_aloadN hx hb dX_below_17 (lv_at hl 0 rfl) ?_
      refine lv_ifnullN (tgt := 35) hx hb dX_below_19 (by decide) ?_
      refine lv_iconst (v := 0) hx hb dX_below_35 (by decide) ?_
      exact mr_z (v := false) F hr hM (⟨by unfold sp_be; rw [h1, h2], rfl⟩) dX_below_36 ⟨Nat.le_of_ble_eq_true rfl, Nat.le_of_ble_eq_true rfl⟩
    · have lh2 := (ix_some (by have := xw_nc hw; omega) h2).1
      refine lv_astore (lv' := [(4, .ref (ca j)), (3, .ref (ca i)), (0, .ref x), (1, .int a), (2, .int b)]) hx hb dX_below_11 hl (by decide) rfl (fun ls hl => ?_)
      refine lv_aload_n hx hb dX_below_13 rfl (lv_at hl 1 rfl) ?_
      refine lv_ifnull hx hb dX_below_14 ?_
      refine lv_aload hx hb dX_below_17 (lv_at hl 0 rfl) ?_
      refine lv_ifnull hx hb dX_below_19 ?_
      refine lv_aload_n hx hb dX_below_22 rfl (lv_at hl 1 rfl) ?_
      refine lv_aload hx hb dX_below_23 (lv_at hl 0 rfl) ?_
      refine mw_Vp (As := [.ref (ca j)]) (rest := []) F (c_C_isBelow hw lh1 lh2) kb_C_isBelow ki_C_isBelow ks_C_isBelow kl_X_42 hM (xw_c hw lh1) rfl rfl hl.1 rfl (Nat.le_of_ble_eq_true rfl) dX_below_25 ⟨⟨Nat.le_of_ble_eq_true rfl, Nat.le_of_ble_eq_true rfl⟩, Nat.le_of_ble_eq_true rfl, Nat.le_of_ble_eq_true rfl⟩ ⟨rfl, rfl⟩ (fun H locs hM => ?_)
      refine lv_if_eq (tgt := 35) hx hb dX_below_28 (by decide) (fun h3 => ?_) (fun h3 => ?_)
      · refine lv_iconst (v := 0) hx hb dX_below_35 (by decide) ?_
        exact mr_z (v := false) F hr hM (⟨by unfold sp_be; rw [h1, h2]; show _ = some (Value.int (mb_i (decide (j ∈ sg_ln (sg_pr σ) i)))); rw [mb_z h3], rfl⟩) dX_below_36 ⟨Nat.le_of_ble_eq_true rfl, Nat.le_of_ble_eq_true rfl⟩
      · refine lv_iconst (v := 1) hx hb dX_below_31 (by decide) ?_
        refine lv_goto (tgt := 36) hx hb dX_below_32 (by decide) ?_
        exact mr_z (v := true) F hr hM (⟨by unfold sp_be; rw [h1, h2]; show _ = some (Value.int (mb_i (decide (j ∈ sg_ln (sg_pr σ) i)))); rw [mb_n h3], rfl⟩) dX_below_36 ⟨Nat.le_of_ble_eq_true rfl, Nat.le_of_ble_eq_true rfl⟩
set_option maxHeartbeats 4000000 in
set_option maxRecDepth 100000 in
theorem c_X_reaches (hw : xw_ G M x qc qm ql ca ma σ rf lp) (a b : Int32) : mw_C l G yX_reaches bX_reaches 5 (some .boolean) { frames := 2, cells := 0, slots := 0, locals := 80 } M [.ref x, .int a, .int b] (mp_ (some (.int (mb_i (sp_re σ a b)))) M) := by
  refine mw_of (by decide) (Nat.le_of_ble_eq_true rfl) ?_
  intro pg en s mi below meth cd F hr _ hM ls hl
  obtain ⟨hx, hb, -⟩ := id F
  have hl : lv_has ls 5 [(0, .ref x), (1, .int a), (2, .int b)] := hl
  refine lv_aload_n hx hb dX_reaches_0 rfl (lv_at hl 0 rfl) ?_
  refine lv_iload_n hx hb dX_reaches_1 rfl (lv_at hl 1 rfl) ?_
  refine mw_Vp (As := [.int a]) (rest := []) F (c_X_classAt hw a) kb_X_classAt ki_X_classAt ks_X_classAt kl_X_35 hM (xw_x hw) rfl rfl hl.1 rfl (Nat.le_of_ble_eq_true rfl) dX_reaches_2 ⟨⟨Nat.le_of_ble_eq_true rfl, Nat.le_of_ble_eq_true rfl⟩, Nat.le_of_ble_eq_true rfl, Nat.le_of_ble_eq_true rfl⟩ ⟨rfl, rfl⟩ (fun H locs hM => ?_)
  rcases h1 : ix_o a (sg_nc σ) with _ | i
  · refine lv_astore_nN (lv' := [(3, .null), (0, .ref x), (1, .int a), (2, .int b)]) hx hb dX_reaches_5 rfl hl (by decide) rfl (fun ls hl => ?_)
    refine lv_aload_n hx hb dX_reaches_6 rfl (lv_at hl 1 rfl) ?_
    refine lv_iload_n hx hb dX_reaches_7 rfl (lv_at hl 3 rfl) ?_
    refine mw_Vp (As := [.int b]) (rest := []) F (c_X_memberAt hw b) kb_X_memberAt ki_X_memberAt ks_X_memberAt kl_X_79 hM (xw_x hw) rfl rfl hl.1 rfl (Nat.le_of_ble_eq_true rfl) dX_reaches_8 ⟨⟨Nat.le_of_ble_eq_true rfl, Nat.le_of_ble_eq_true rfl⟩, Nat.le_of_ble_eq_true rfl, Nat.le_of_ble_eq_true rfl⟩ ⟨rfl, rfl⟩ (fun H locs hM => ?_)
    refine mv_ast (lv' := [(4, va_rf ((ix_o b (sg_nm σ)).map ma)), (3, .null), (0, .ref x), (1, .int a), (2, .int b)]) hx hb dX_reaches_11 hl (by decide) rfl (fun ls hl => ?_)
    refine lv_aload_nN hx hb dX_reaches_13 rfl (lv_at hl 1 rfl) ?_
    refine lv_ifnullN (tgt := 35) hx hb dX_reaches_14 (by decide) ?_
    refine lv_iconst (v := 0) hx hb dX_reaches_35 (by decide) ?_
    exact mr_z (v := false) F hr hM (⟨by unfold sp_re; rw [h1], rfl⟩) dX_reaches_36 ⟨Nat.le_of_ble_eq_true rfl, Nat.le_of_ble_eq_true rfl⟩
  · have lh1 := (ix_some (by have := xw_nc hw; omega) h1).1
    refine lv_astore_n (lv' := [(3, .ref (ca i)), (0, .ref x), (1, .int a), (2, .int b)]) hx hb dX_reaches_5 rfl hl (by decide) rfl (fun ls hl => ?_)
    refine lv_aload_n hx hb dX_reaches_6 rfl (lv_at hl 1 rfl) ?_
    refine lv_iload_n hx hb dX_reaches_7 rfl (lv_at hl 3 rfl) ?_
    refine mw_Vp (As := [.int b]) (rest := []) F (c_X_memberAt hw b) kb_X_memberAt ki_X_memberAt ks_X_memberAt kl_X_79 hM (xw_x hw) rfl rfl hl.1 rfl (Nat.le_of_ble_eq_true rfl) dX_reaches_8 ⟨⟨Nat.le_of_ble_eq_true rfl, Nat.le_of_ble_eq_true rfl⟩, Nat.le_of_ble_eq_true rfl, Nat.le_of_ble_eq_true rfl⟩ ⟨rfl, rfl⟩ (fun H locs hM => ?_)
    rcases h2 : ix_o b (sg_nm σ) with _ | j
    · refine lv_astoreN (lv' := [(4, .null), (3, .ref (ca i)), (0, .ref x), (1, .int a), (2, .int b)]) hx hb dX_reaches_11 hl (by decide) rfl (fun ls hl => ?_)
      refine lv_aload_n hx hb dX_reaches_13 rfl (lv_at hl 1 rfl) ?_
      refine lv_ifnull hx hb dX_reaches_14 ?_
      refine lv_aloadN hx hb dX_reaches_17 (lv_at hl 0 rfl) ?_
      refine lv_ifnullN (tgt := 35) hx hb dX_reaches_19 (by decide) ?_
      refine lv_iconst (v := 0) hx hb dX_reaches_35 (by decide) ?_
      exact mr_z (v := false) F hr hM (⟨by unfold sp_re; rw [h1, h2], rfl⟩) dX_reaches_36 ⟨Nat.le_of_ble_eq_true rfl, Nat.le_of_ble_eq_true rfl⟩
    · have lh2 := (ix_some (by have := xw_nm hw; omega) h2).1
      refine lv_astore (lv' := [(4, .ref (ma j)), (3, .ref (ca i)), (0, .ref x), (1, .int a), (2, .int b)]) hx hb dX_reaches_11 hl (by decide) rfl (fun ls hl => ?_)
      refine lv_aload_n hx hb dX_reaches_13 rfl (lv_at hl 1 rfl) ?_
      refine lv_ifnull hx hb dX_reaches_14 ?_
      refine lv_aload hx hb dX_reaches_17 (lv_at hl 0 rfl) ?_
      refine lv_ifnull hx hb dX_reaches_19 ?_
      refine lv_aload hx hb dX_reaches_22 (lv_at hl 0 rfl) ?_
      refine lv_aload_n hx hb dX_reaches_24 rfl (lv_at hl 1 rfl) ?_
      refine mw_Vp (As := [.ref (ca i)]) (rest := []) F (c_N_isReachedBy hw lh1 lh2) kb_N_isReachedBy ki_N_isReachedBy ks_N_isReachedBy kl_X_65 hM (xw_m hw lh2) rfl rfl hl.1 rfl (Nat.le_of_ble_eq_true rfl) dX_reaches_25 ⟨⟨Nat.le_of_ble_eq_true rfl, Nat.le_of_ble_eq_true rfl⟩, Nat.le_of_ble_eq_true rfl, Nat.le_of_ble_eq_true rfl⟩ ⟨rfl, rfl⟩ (fun H locs hM => ?_)
      refine lv_if_eq (tgt := 35) hx hb dX_reaches_28 (by decide) (fun h3 => ?_) (fun h3 => ?_)
      · refine lv_iconst (v := 0) hx hb dX_reaches_35 (by decide) ?_
        exact mr_z (v := false) F hr hM (⟨by unfold sp_re; rw [h1, h2]; show _ = some (Value.int (mb_i (sg_rc σ i j))); rw [mb_z h3], rfl⟩) dX_reaches_36 ⟨Nat.le_of_ble_eq_true rfl, Nat.le_of_ble_eq_true rfl⟩
      · refine lv_iconst (v := 1) hx hb dX_reaches_31 (by decide) ?_
        refine lv_goto (tgt := 36) hx hb dX_reaches_32 (by decide) ?_
        exact mr_z (v := true) F hr hM (⟨by unfold sp_re; rw [h1, h2]; show _ = some (Value.int (mb_i (sg_rc σ i j))); rw [mb_n h3], rfl⟩) dX_reaches_36 ⟨Nat.le_of_ble_eq_true rfl, Nat.le_of_ble_eq_true rfl⟩
set_option maxHeartbeats 4000000 in
set_option maxRecDepth 100000 in
theorem c_X_refused (hw : xw_ G M x qc qm ql ca ma σ rf lp) : mw_C l G yX_refused bX_refused 1 (some .int) { frames := 0, cells := 0, slots := 0, locals := 0 } M [.ref x] (mp_ (some (.int rf)) M) := by
  refine mw_of (by decide) (Nat.le_of_ble_eq_true rfl) ?_
  intro pg en s mi below meth cd F hr _ hM ls hl
  obtain ⟨hx, hb, -⟩ := id F
  have hl : lv_has ls 1 [(0, .ref x)] := hl
  refine lv_aload_n hx hb dX_refused_0 rfl (lv_at hl 0 rfl) ?_
  refine gf_X_32 F hM (xw_x hw) rfl dX_refused_1 ?_
  exact mr_i F hr hM (⟨rfl, rfl⟩) dX_refused_4 ⟨Nat.le_of_ble_eq_true rfl, Nat.le_of_ble_eq_true rfl⟩
set_option maxHeartbeats 4000000 in
set_option maxRecDepth 100000 in
theorem c_X_member (hw : xw_ G M x qc qm ql ca ma σ rf lp) (a b : Int32) : mw_C l G yX_member bX_member 4 (some .int) { frames := 1, cells := 0, slots := 0, locals := 40 } M [.ref x, .int a, .int b] (mp_ (some (.int (sp_me σ a b))) M) := by
  refine mw_of (by decide) (Nat.le_of_ble_eq_true rfl) ?_
  intro pg en s mi below meth cd F hr _ hM ls hl
  obtain ⟨hx, hb, -⟩ := id F
  have hl : lv_has ls 4 [(0, .ref x), (1, .int a), (2, .int b)] := hl
  refine lv_aload_n hx hb dX_member_0 rfl (lv_at hl 0 rfl) ?_
  refine lv_iload_n hx hb dX_member_1 rfl (lv_at hl 1 rfl) ?_
  refine mw_Vp (As := [.int a]) (rest := []) F (c_X_memberAt hw a) kb_X_memberAt ki_X_memberAt ks_X_memberAt kl_X_79 hM (xw_x hw) rfl rfl hl.1 rfl (Nat.le_of_ble_eq_true rfl) dX_member_2 ⟨⟨Nat.le_of_ble_eq_true rfl, Nat.le_of_ble_eq_true rfl⟩, Nat.le_of_ble_eq_true rfl, Nat.le_of_ble_eq_true rfl⟩ ⟨rfl, rfl⟩ (fun H locs hM => ?_)
  rcases h1 : ix_o a (sg_nm σ) with _ | j
  · refine lv_astore_nN (lv' := [(3, .null), (0, .ref x), (1, .int a), (2, .int b)]) hx hb dX_member_5 rfl hl (by decide) rfl (fun ls hl => ?_)
    refine lv_aload_nN hx hb dX_member_6 rfl (lv_at hl 0 rfl) ?_
    refine lv_ifnonnullN hx hb dX_member_7 ?_
    refine lv_iconst (v := (-1)) hx hb dX_member_10 (by decide) ?_
    exact mr_i F hr hM (⟨by unfold sp_me; rw [h1], rfl⟩) dX_member_11 ⟨Nat.le_of_ble_eq_true rfl, Nat.le_of_ble_eq_true rfl⟩
  · have lh1 := (ix_some (by have := xw_nm hw; omega) h1).1
    refine lv_astore_n (lv' := [(3, .ref (ma j)), (0, .ref x), (1, .int a), (2, .int b)]) hx hb dX_member_5 rfl hl (by decide) rfl (fun ls hl => ?_)
    refine lv_aload_n hx hb dX_member_6 rfl (lv_at hl 0 rfl) ?_
    refine lv_ifnonnull (tgt := 12) hx hb dX_member_7 (by decide) ?_
    refine lv_iload_n hx hb dX_member_12 rfl (lv_at hl 3 rfl) ?_
    have hmc := xw_mc hw lh1
    have hsp : sp_me σ a b = if b = 0 then nI (sg_mc σ j) else if b = 1 then sg_mn σ j else if b = 2 then sg_rg σ j else if b = 3 then mb_i (sg_fx σ j) else if b = 4 then mb_i (sg_fn σ j) else if b = 5 then sg_kd σ j else if b = 6 then sg_ty σ j else -1 := by unfold sp_me; rw [h1]
    by_cases g0 : b = 0
    · refine mv_i (y := 0) g0 ?_
      refine lv_tableIn (tgt := 56) hx hb dX_member_13 (by decide) (by decide) rfl (by decide) ?_
      refine lv_aload_n hx hb dX_member_56 rfl (lv_at hl 0 rfl) ?_
      refine gf_X_72 F hM (xw_m hw lh1) rfl dX_member_57 ?_
      refine gf_X_101 F hM (xw_c hw hmc) rfl dX_member_60 ?_
      exact mr_i F hr hM (⟨by rw [hsp, if_pos g0], rfl⟩) dX_member_63 ⟨Nat.le_of_ble_eq_true rfl, Nat.le_of_ble_eq_true rfl⟩
    · by_cases g1 : b = 1
      · refine mv_i (y := 1) g1 ?_
        refine lv_tableIn (tgt := 64) hx hb dX_member_13 (by decide) (by decide) rfl (by decide) ?_
        refine lv_aload_n hx hb dX_member_64 rfl (lv_at hl 0 rfl) ?_
        refine gf_X_91 F hM (xw_m hw lh1) rfl dX_member_65 ?_
        exact mr_i F hr hM (⟨by rw [hsp, if_neg g0, if_pos g1], rfl⟩) dX_member_68 ⟨Nat.le_of_ble_eq_true rfl, Nat.le_of_ble_eq_true rfl⟩
      · by_cases g2 : b = 2
        · refine mv_i (y := 2) g2 ?_
          refine lv_tableIn (tgt := 69) hx hb dX_member_13 (by decide) (by decide) rfl (by decide) ?_
          refine lv_aload_n hx hb dX_member_69 rfl (lv_at hl 0 rfl) ?_
          refine gf_X_102 F hM (xw_m hw lh1) rfl dX_member_70 ?_
          exact mr_i F hr hM (⟨by rw [hsp, if_neg g0, if_neg g1, if_pos g2], rfl⟩) dX_member_73 ⟨Nat.le_of_ble_eq_true rfl, Nat.le_of_ble_eq_true rfl⟩
        · by_cases g3 : b = 3
          · refine mv_i (y := 3) g3 ?_
            refine lv_tableIn (tgt := 74) hx hb dX_member_13 (by decide) (by decide) rfl (by decide) ?_
            refine lv_aload_n hx hb dX_member_74 rfl (lv_at hl 0 rfl) ?_
            refine gf_X_105 F hM (xw_m hw lh1) rfl dX_member_75 ?_
            refine lv_if_eq (tgt := 85) hx hb dX_member_78 (by decide) (fun h5 => ?_) (fun h5 => ?_)
            · refine lv_iconst (v := 0) hx hb dX_member_85 (by decide) ?_
              exact mr_i F hr hM (⟨by rw [hsp, if_neg g0, if_neg g1, if_neg g2, if_pos g3, mb_z h5]; rfl, rfl⟩) dX_member_86 ⟨Nat.le_of_ble_eq_true rfl, Nat.le_of_ble_eq_true rfl⟩
            · refine lv_iconst (v := 1) hx hb dX_member_81 (by decide) ?_
              refine lv_goto (tgt := 86) hx hb dX_member_82 (by decide) ?_
              exact mr_i F hr hM (⟨by rw [hsp, if_neg g0, if_neg g1, if_neg g2, if_pos g3, mb_n h5]; rfl, rfl⟩) dX_member_86 ⟨Nat.le_of_ble_eq_true rfl, Nat.le_of_ble_eq_true rfl⟩
          · by_cases g4 : b = 4
            · refine mv_i (y := 4) g4 ?_
              refine lv_tableIn (tgt := 87) hx hb dX_member_13 (by decide) (by decide) rfl (by decide) ?_
              refine lv_aload_n hx hb dX_member_87 rfl (lv_at hl 0 rfl) ?_
              refine gf_X_68 F hM (xw_m hw lh1) rfl dX_member_88 ?_
              refine lv_if_eq (tgt := 98) hx hb dX_member_91 (by decide) (fun h5 => ?_) (fun h5 => ?_)
              · refine lv_iconst (v := 0) hx hb dX_member_98 (by decide) ?_
                exact mr_i F hr hM (⟨by rw [hsp, if_neg g0, if_neg g1, if_neg g2, if_neg g3, if_pos g4, mb_z h5]; rfl, rfl⟩) dX_member_99 ⟨Nat.le_of_ble_eq_true rfl, Nat.le_of_ble_eq_true rfl⟩
              · refine lv_iconst (v := 1) hx hb dX_member_94 (by decide) ?_
                refine lv_goto (tgt := 99) hx hb dX_member_95 (by decide) ?_
                exact mr_i F hr hM (⟨by rw [hsp, if_neg g0, if_neg g1, if_neg g2, if_neg g3, if_pos g4, mb_n h5]; rfl, rfl⟩) dX_member_99 ⟨Nat.le_of_ble_eq_true rfl, Nat.le_of_ble_eq_true rfl⟩
            · by_cases g5 : b = 5
              · refine mv_i (y := 5) g5 ?_
                refine lv_tableIn (tgt := 100) hx hb dX_member_13 (by decide) (by decide) rfl (by decide) ?_
                refine lv_aload_n hx hb dX_member_100 rfl (lv_at hl 0 rfl) ?_
                refine gf_X_108 F hM (xw_m hw lh1) rfl dX_member_101 ?_
                exact mr_i F hr hM (⟨by rw [hsp, if_neg g0, if_neg g1, if_neg g2, if_neg g3, if_neg g4, if_pos g5], rfl⟩) dX_member_104 ⟨Nat.le_of_ble_eq_true rfl, Nat.le_of_ble_eq_true rfl⟩
              · by_cases g6 : b = 6
                · refine mv_i (y := 6) g6 ?_
                  refine lv_tableIn (tgt := 105) hx hb dX_member_13 (by decide) (by decide) rfl (by decide) ?_
                  refine lv_aload_n hx hb dX_member_105 rfl (lv_at hl 0 rfl) ?_
                  refine gf_X_94 F hM (xw_m hw lh1) rfl dX_member_106 ?_
                  exact mr_i F hr hM (⟨by rw [hsp, if_neg g0, if_neg g1, if_neg g2, if_neg g3, if_neg g4, if_neg g5, if_pos g6], rfl⟩) dX_member_109 ⟨Nat.le_of_ble_eq_true rfl, Nat.le_of_ble_eq_true rfl⟩
                · have hout : b.toInt < 0 ∨ 6 < b.toInt := by
                    rcases Int.lt_or_le b.toInt 0 with q | q
                    · exact Or.inl q
                    · refine Or.inr (Int.not_le.mp fun z => ?_)
                      have h7 : b.toInt = 0 ∨ b.toInt = 1 ∨ b.toInt = 2 ∨ b.toInt = 3 ∨ b.toInt = 4 ∨ b.toInt = 5 ∨ b.toInt = 6 := by omega
                      rcases h7 with h7 | h7 | h7 | h7 | h7 | h7 | h7
                      · exact g0 (Int32.toInt_inj.mp (by rw [h7]; rfl))
                      · exact g1 (Int32.toInt_inj.mp (by rw [h7]; rfl))
                      · exact g2 (Int32.toInt_inj.mp (by rw [h7]; rfl))
                      · exact g3 (Int32.toInt_inj.mp (by rw [h7]; rfl))
                      · exact g4 (Int32.toInt_inj.mp (by rw [h7]; rfl))
                      · exact g5 (Int32.toInt_inj.mp (by rw [h7]; rfl))
                      · exact g6 (Int32.toInt_inj.mp (by rw [h7]; rfl))
                  refine lv_tableOut (tgt := 110) hx hb dX_member_13 hout (by decide) ?_
                  refine lv_iconst (v := (-1)) hx hb dX_member_110 (by decide) ?_
                  exact mr_i F hr hM (⟨by rw [hsp, if_neg g0, if_neg g1, if_neg g2, if_neg g3, if_neg g4, if_neg g5, if_neg g6], rfl⟩) dX_member_111 ⟨Nat.le_of_ble_eq_true rfl, Nat.le_of_ble_eq_true rfl⟩
set_option maxHeartbeats 4000000 in
set_option maxRecDepth 100000 in
theorem c_X_called (hw : xw_ G M x qc qm ql ca ma σ rf lp) (a b : Int32) : mw_C l G yX_called bX_called 5 (some .int) { frames := 4, cells := 0, slots := 0, locals := 160 } M [.ref x, .int a, .int b] (pl_ G ql (some (.int (sp_ca σ a b))) M) := by
  refine mw_of (by decide) (Nat.le_of_ble_eq_true rfl) ?_
  intro pg en s mi below meth cd F hr _ hM ls hl
  obtain ⟨hx, hb, -⟩ := id F
  have hl : lv_has ls 5 [(0, .ref x), (1, .int a), (2, .int b)] := hl
  refine lv_aload_n hx hb dX_called_0 rfl (lv_at hl 0 rfl) ?_
  refine lv_iload_n hx hb dX_called_1 rfl (lv_at hl 1 rfl) ?_
  refine mw_Vp (As := [.int a]) (rest := []) F (c_X_memberAt hw a) kb_X_memberAt ki_X_memberAt ks_X_memberAt kl_X_79 hM (xw_x hw) rfl rfl hl.1 rfl (Nat.le_of_ble_eq_true rfl) dX_called_2 ⟨⟨Nat.le_of_ble_eq_true rfl, Nat.le_of_ble_eq_true rfl⟩, Nat.le_of_ble_eq_true rfl, Nat.le_of_ble_eq_true rfl⟩ ⟨rfl, rfl⟩ (fun H locs hM => ?_)
  rcases h1 : ix_o a (sg_nm σ) with _ | j
  · refine lv_astore_nN (lv' := [(3, .null), (0, .ref x), (1, .int a), (2, .int b)]) hx hb dX_called_5 rfl hl (by decide) rfl (fun ls hl => ?_)
    refine lv_aload_n hx hb dX_called_6 rfl (lv_at hl 1 rfl) ?_
    refine lv_iload_n hx hb dX_called_7 rfl (lv_at hl 3 rfl) ?_
    refine mw_Vp (As := [.int b]) (rest := []) F (c_X_classAt hw b) kb_X_classAt ki_X_classAt ks_X_classAt kl_X_35 hM (xw_x hw) rfl rfl hl.1 rfl (Nat.le_of_ble_eq_true rfl) dX_called_8 ⟨⟨Nat.le_of_ble_eq_true rfl, Nat.le_of_ble_eq_true rfl⟩, Nat.le_of_ble_eq_true rfl, Nat.le_of_ble_eq_true rfl⟩ ⟨rfl, rfl⟩ (fun H locs hM => ?_)
    refine mv_ast (lv' := [(4, va_rf ((ix_o b (sg_nc σ)).map ca)), (3, .null), (0, .ref x), (1, .int a), (2, .int b)]) hx hb dX_called_11 hl (by decide) rfl (fun ls hl => ?_)
    refine lv_aload_nN hx hb dX_called_13 rfl (lv_at hl 1 rfl) ?_
    refine lv_ifnullN (tgt := 41) hx hb dX_called_14 (by decide) ?_
    refine lv_iconst (v := (-1)) hx hb dX_called_41 (by decide) ?_
    exact mr_i F hr hM (⟨by unfold sp_ca; rw [h1], lp, (mw_id (xw_ql hw)).symm⟩) dX_called_42 ⟨Nat.le_of_ble_eq_true rfl, Nat.le_of_ble_eq_true rfl⟩
  · have lh1 := (ix_some (by have := xw_nm hw; omega) h1).1
    refine lv_astore_n (lv' := [(3, .ref (ma j)), (0, .ref x), (1, .int a), (2, .int b)]) hx hb dX_called_5 rfl hl (by decide) rfl (fun ls hl => ?_)
    refine lv_aload_n hx hb dX_called_6 rfl (lv_at hl 1 rfl) ?_
    refine lv_iload_n hx hb dX_called_7 rfl (lv_at hl 3 rfl) ?_
    refine mw_Vp (As := [.int b]) (rest := []) F (c_X_classAt hw b) kb_X_classAt ki_X_classAt ks_X_classAt kl_X_35 hM (xw_x hw) rfl rfl hl.1 rfl (Nat.le_of_ble_eq_true rfl) dX_called_8 ⟨⟨Nat.le_of_ble_eq_true rfl, Nat.le_of_ble_eq_true rfl⟩, Nat.le_of_ble_eq_true rfl, Nat.le_of_ble_eq_true rfl⟩ ⟨rfl, rfl⟩ (fun H locs hM => ?_)
    rcases h2 : ix_o b (sg_nc σ) with _ | i
    · refine lv_astoreN (lv' := [(4, .null), (3, .ref (ma j)), (0, .ref x), (1, .int a), (2, .int b)]) hx hb dX_called_11 hl (by decide) rfl (fun ls hl => ?_)
      refine lv_aload_n hx hb dX_called_13 rfl (lv_at hl 1 rfl) ?_
      refine lv_ifnull hx hb dX_called_14 ?_
      refine lv_aloadN hx hb dX_called_17 (lv_at hl 0 rfl) ?_
      refine lv_ifnullN (tgt := 41) hx hb dX_called_19 (by decide) ?_
      refine lv_iconst (v := (-1)) hx hb dX_called_41 (by decide) ?_
      exact mr_i F hr hM (⟨by unfold sp_ca; rw [h1, h2], lp, (mw_id (xw_ql hw)).symm⟩) dX_called_42 ⟨Nat.le_of_ble_eq_true rfl, Nat.le_of_ble_eq_true rfl⟩
    · have lh2 := (ix_some (by have := xw_nc hw; omega) h2).1
      have hmc := xw_mc hw lh1
      have hsp : sp_ca σ a b = if sg_ob σ j = true ∧ sg_mc σ j ∈ sg_ln (sg_pr σ) i then nI (sg_cl σ j i) else -1 := by unfold sp_ca; rw [h1, h2]
      refine lv_astore (lv' := [(4, .ref (ca i)), (3, .ref (ma j)), (0, .ref x), (1, .int a), (2, .int b)]) hx hb dX_called_11 hl (by decide) rfl (fun ls hl => ?_)
      refine lv_aload_n hx hb dX_called_13 rfl (lv_at hl 1 rfl) ?_
      refine lv_ifnull hx hb dX_called_14 ?_
      refine lv_aload hx hb dX_called_17 (lv_at hl 0 rfl) ?_
      refine lv_ifnull hx hb dX_called_19 ?_
      refine lv_aload_n hx hb dX_called_22 rfl (lv_at hl 1 rfl) ?_
      refine mw_Vp (As := []) (rest := []) F (c_N_isObjectMethod hw lh1) kb_N_isObjectMethod ki_N_isObjectMethod ks_N_isObjectMethod kl_X_83 hM (xw_m hw lh1) rfl rfl hl.1 rfl (Nat.le_of_ble_eq_true rfl) dX_called_23 ⟨⟨Nat.le_of_ble_eq_true rfl, Nat.le_of_ble_eq_true rfl⟩, Nat.le_of_ble_eq_true rfl, Nat.le_of_ble_eq_true rfl⟩ ⟨rfl, rfl⟩ (fun H locs hM => ?_)
      refine lv_if_eq (tgt := 41) hx hb dX_called_26 (by decide) (fun h3 => ?_) (fun h3 => ?_)
      · refine lv_iconst (v := (-1)) hx hb dX_called_41 (by decide) ?_
        exact mr_i F hr hM (⟨by rw [hsp, if_neg (fun z => by rw [mb_z h3] at z; exact absurd z.1 (by decide))], lp, (mw_id (xw_ql hw)).symm⟩) dX_called_42 ⟨Nat.le_of_ble_eq_true rfl, Nat.le_of_ble_eq_true rfl⟩
      · refine lv_aload hx hb dX_called_29 (lv_at hl 0 rfl) ?_
        refine lv_aload_n hx hb dX_called_31 rfl (lv_at hl 1 rfl) ?_
        refine gf_X_72 F hM (xw_m hw lh1) rfl dX_called_32 ?_
        refine mw_Vp (As := [.ref (ca (sg_mc σ j))]) (rest := []) F (c_C_isBelow hw lh2 hmc) kb_C_isBelow ki_C_isBelow ks_C_isBelow kl_X_42 hM (xw_c hw lh2) rfl rfl hl.1 rfl (Nat.le_of_ble_eq_true rfl) dX_called_35 ⟨⟨Nat.le_of_ble_eq_true rfl, Nat.le_of_ble_eq_true rfl⟩, Nat.le_of_ble_eq_true rfl, Nat.le_of_ble_eq_true rfl⟩ ⟨rfl, rfl⟩ (fun H locs hM => ?_)
        refine lv_if_ne (tgt := 43) hx hb dX_called_38 (by decide) (fun h4 => ?_) (fun h4 => ?_)
        · refine lv_aload_n hx hb dX_called_43 rfl (lv_at hl 2 rfl) ?_
          refine lv_aload_n hx hb dX_called_44 rfl (lv_at hl 1 rfl) ?_
          refine lv_aload hx hb dX_called_45 (lv_at hl 0 rfl) ?_
          refine mw_Vl (As := [.ref (ma j), .ref (ca i)]) (rest := []) F (c_X_calledMethod hw lh1 lh2) kb_X_calledMethod ki_X_calledMethod ks_X_calledMethod kl_X_87 hM (xw_x hw) rfl rfl hl.1 rfl (Nat.le_of_ble_eq_true rfl) dX_called_47 ⟨⟨Nat.le_of_ble_eq_true rfl, Nat.le_of_ble_eq_true rfl⟩, Nat.le_of_ble_eq_true rfl, Nat.le_of_ble_eq_true rfl⟩ ⟨rfl, rfl⟩ (fun lp1 H locs hM => ?_)
          have hw1 := xw_lp hw lp1
          refine gf_X_76 F hM (xw_m hw1 (cl_lt2 lh1)) rfl dX_called_50 ?_
          exact mr_i F hr hM (⟨by rw [hsp, if_pos ⟨mb_n h3, of_decide_eq_true (mb_n h4)⟩], lp1, rfl⟩) dX_called_53 ⟨Nat.le_of_ble_eq_true rfl, Nat.le_of_ble_eq_true rfl⟩
        · refine lv_iconst (v := (-1)) hx hb dX_called_41 (by decide) ?_
          exact mr_i F hr hM (⟨by rw [hsp, if_neg (fun z => of_decide_eq_false (mb_z h4) z.2)], lp, (mw_id (xw_ql hw)).symm⟩) dX_called_42 ⟨Nat.le_of_ble_eq_true rfl, Nat.le_of_ble_eq_true rfl⟩
set_option maxHeartbeats 4000000 in
set_option maxRecDepth 100000 in
theorem c_X_overrides (hw : xw_ G M x qc qm ql ca ma σ rf lp) (a b : Int32) : mw_C l G yX_overrides bX_overrides 5 (some .boolean) { frames := 3, cells := 0, slots := 0, locals := 120 } M [.ref x, .int a, .int b] (pl_ G ql (some (.int (mb_i (sp_ov σ a b)))) M) := by
  refine mw_of (by decide) (Nat.le_of_ble_eq_true rfl) ?_
  intro pg en s mi below meth cd F hr _ hM ls hl
  obtain ⟨hx, hb, -⟩ := id F
  have hl : lv_has ls 5 [(0, .ref x), (1, .int a), (2, .int b)] := hl
  refine lv_aload_n hx hb dX_overrides_0 rfl (lv_at hl 0 rfl) ?_
  refine lv_iload_n hx hb dX_overrides_1 rfl (lv_at hl 1 rfl) ?_
  refine mw_Vp (As := [.int a]) (rest := []) F (c_X_memberAt hw a) kb_X_memberAt ki_X_memberAt ks_X_memberAt kl_X_79 hM (xw_x hw) rfl rfl hl.1 rfl (Nat.le_of_ble_eq_true rfl) dX_overrides_2 ⟨⟨Nat.le_of_ble_eq_true rfl, Nat.le_of_ble_eq_true rfl⟩, Nat.le_of_ble_eq_true rfl, Nat.le_of_ble_eq_true rfl⟩ ⟨rfl, rfl⟩ (fun H locs hM => ?_)
  rcases h1 : ix_o a (sg_nm σ) with _ | i
  · refine lv_astore_nN (lv' := [(3, .null), (0, .ref x), (1, .int a), (2, .int b)]) hx hb dX_overrides_5 rfl hl (by decide) rfl (fun ls hl => ?_)
    refine lv_aload_n hx hb dX_overrides_6 rfl (lv_at hl 1 rfl) ?_
    refine lv_iload_n hx hb dX_overrides_7 rfl (lv_at hl 3 rfl) ?_
    refine mw_Vp (As := [.int b]) (rest := []) F (c_X_memberAt hw b) kb_X_memberAt ki_X_memberAt ks_X_memberAt kl_X_79 hM (xw_x hw) rfl rfl hl.1 rfl (Nat.le_of_ble_eq_true rfl) dX_overrides_8 ⟨⟨Nat.le_of_ble_eq_true rfl, Nat.le_of_ble_eq_true rfl⟩, Nat.le_of_ble_eq_true rfl, Nat.le_of_ble_eq_true rfl⟩ ⟨rfl, rfl⟩ (fun H locs hM => ?_)
    refine mv_ast (lv' := [(4, va_rf ((ix_o b (sg_nm σ)).map ma)), (3, .null), (0, .ref x), (1, .int a), (2, .int b)]) hx hb dX_overrides_11 hl (by decide) rfl (fun ls hl => ?_)
    refine lv_aload_nN hx hb dX_overrides_13 rfl (lv_at hl 1 rfl) ?_
    refine lv_ifnullN (tgt := 37) hx hb dX_overrides_14 (by decide) ?_
    refine lv_iconst (v := 0) hx hb dX_overrides_37 (by decide) ?_
    exact mr_z (v := false) F hr hM (⟨by unfold sp_ov; rw [h1], lp, (mw_id (xw_ql hw)).symm⟩) dX_overrides_38 ⟨Nat.le_of_ble_eq_true rfl, Nat.le_of_ble_eq_true rfl⟩
  · have lh1 := (ix_some (by have := xw_nm hw; omega) h1).1
    refine lv_astore_n (lv' := [(3, .ref (ma i)), (0, .ref x), (1, .int a), (2, .int b)]) hx hb dX_overrides_5 rfl hl (by decide) rfl (fun ls hl => ?_)
    refine lv_aload_n hx hb dX_overrides_6 rfl (lv_at hl 1 rfl) ?_
    refine lv_iload_n hx hb dX_overrides_7 rfl (lv_at hl 3 rfl) ?_
    refine mw_Vp (As := [.int b]) (rest := []) F (c_X_memberAt hw b) kb_X_memberAt ki_X_memberAt ks_X_memberAt kl_X_79 hM (xw_x hw) rfl rfl hl.1 rfl (Nat.le_of_ble_eq_true rfl) dX_overrides_8 ⟨⟨Nat.le_of_ble_eq_true rfl, Nat.le_of_ble_eq_true rfl⟩, Nat.le_of_ble_eq_true rfl, Nat.le_of_ble_eq_true rfl⟩ ⟨rfl, rfl⟩ (fun H locs hM => ?_)
    rcases h2 : ix_o b (sg_nm σ) with _ | j
    · refine lv_astoreN (lv' := [(4, .null), (3, .ref (ma i)), (0, .ref x), (1, .int a), (2, .int b)]) hx hb dX_overrides_11 hl (by decide) rfl (fun ls hl => ?_)
      refine lv_aload_n hx hb dX_overrides_13 rfl (lv_at hl 1 rfl) ?_
      refine lv_ifnull hx hb dX_overrides_14 ?_
      refine lv_aloadN hx hb dX_overrides_17 (lv_at hl 0 rfl) ?_
      refine lv_ifnullN (tgt := 37) hx hb dX_overrides_19 (by decide) ?_
      refine lv_iconst (v := 0) hx hb dX_overrides_37 (by decide) ?_
      exact mr_z (v := false) F hr hM (⟨by unfold sp_ov; rw [h1, h2], lp, (mw_id (xw_ql hw)).symm⟩) dX_overrides_38 ⟨Nat.le_of_ble_eq_true rfl, Nat.le_of_ble_eq_true rfl⟩
    · have lh2 := (ix_some (by have := xw_nm hw; omega) h2).1
      have hsp : sp_ov σ a b = (sg_ob σ i && (sg_ob σ j && (decide (sg_mn σ i = sg_mn σ j) && (decide (sg_ty σ i = sg_ty σ j) && ov_r σ (sg_mc σ i) (sg_mn σ i) (sg_ty σ i) (sg_rg σ i) j)))) := by unfold sp_ov; rw [h1, h2]
      refine lv_astore (lv' := [(4, .ref (ma j)), (3, .ref (ma i)), (0, .ref x), (1, .int a), (2, .int b)]) hx hb dX_overrides_11 hl (by decide) rfl (fun ls hl => ?_)
      refine lv_aload_n hx hb dX_overrides_13 rfl (lv_at hl 1 rfl) ?_
      refine lv_ifnull hx hb dX_overrides_14 ?_
      refine lv_aload hx hb dX_overrides_17 (lv_at hl 0 rfl) ?_
      refine lv_ifnull hx hb dX_overrides_19 ?_
      refine lv_aload_n hx hb dX_overrides_22 rfl (lv_at hl 1 rfl) ?_
      refine mw_Vp (As := []) (rest := []) F (c_N_isObjectMethod hw lh1) kb_N_isObjectMethod ki_N_isObjectMethod ks_N_isObjectMethod kl_X_83 hM (xw_m hw lh1) rfl rfl hl.1 rfl (Nat.le_of_ble_eq_true rfl) dX_overrides_23 ⟨⟨Nat.le_of_ble_eq_true rfl, Nat.le_of_ble_eq_true rfl⟩, Nat.le_of_ble_eq_true rfl, Nat.le_of_ble_eq_true rfl⟩ ⟨rfl, rfl⟩ (fun H locs hM => ?_)
      refine lv_if_eq (tgt := 37) hx hb dX_overrides_26 (by decide) (fun h3 => ?_) (fun h3 => ?_)
      · refine lv_iconst (v := 0) hx hb dX_overrides_37 (by decide) ?_
        exact mr_z (v := false) F hr hM (⟨by rw [hsp, mb_z h3]; rfl, lp, (mw_id (xw_ql hw)).symm⟩) dX_overrides_38 ⟨Nat.le_of_ble_eq_true rfl, Nat.le_of_ble_eq_true rfl⟩
      · refine lv_aload hx hb dX_overrides_29 (lv_at hl 0 rfl) ?_
        refine mw_Vp (As := []) (rest := []) F (c_N_isObjectMethod hw lh2) kb_N_isObjectMethod ki_N_isObjectMethod ks_N_isObjectMethod kl_X_83 hM (xw_m hw lh2) rfl rfl hl.1 rfl (Nat.le_of_ble_eq_true rfl) dX_overrides_31 ⟨⟨Nat.le_of_ble_eq_true rfl, Nat.le_of_ble_eq_true rfl⟩, Nat.le_of_ble_eq_true rfl, Nat.le_of_ble_eq_true rfl⟩ ⟨rfl, rfl⟩ (fun H locs hM => ?_)
        refine lv_if_ne (tgt := 39) hx hb dX_overrides_34 (by decide) (fun h4 => ?_) (fun h4 => ?_)
        · refine lv_aload_n hx hb dX_overrides_39 rfl (lv_at hl 1 rfl) ?_
          refine gf_X_91 F hM (xw_m hw lh1) rfl dX_overrides_40 ?_
          refine lv_aload hx hb dX_overrides_43 (lv_at hl 0 rfl) ?_
          refine gf_X_91 F hM (xw_m hw lh2) rfl dX_overrides_45 ?_
          refine lv_icmp_ne (tgt := 77) hx hb dX_overrides_48 (by decide) (fun h5 => ?_) (fun h5 => ?_)
          · refine lv_iconst (v := 0) hx hb dX_overrides_77 (by decide) ?_
            exact mr_z (v := false) F hr hM (⟨by rw [hsp, decide_eq_false h5]; simp, lp, (mw_id (xw_ql hw)).symm⟩) dX_overrides_78 ⟨Nat.le_of_ble_eq_true rfl, Nat.le_of_ble_eq_true rfl⟩
          · refine lv_aload_n hx hb dX_overrides_51 rfl (lv_at hl 1 rfl) ?_
            refine gf_X_94 F hM (xw_m hw lh1) rfl dX_overrides_52 ?_
            refine lv_aload hx hb dX_overrides_55 (lv_at hl 0 rfl) ?_
            refine gf_X_94 F hM (xw_m hw lh2) rfl dX_overrides_57 ?_
            refine lv_icmp_ne (tgt := 77) hx hb dX_overrides_60 (by decide) (fun h6 => ?_) (fun h6 => ?_)
            · refine lv_iconst (v := 0) hx hb dX_overrides_77 (by decide) ?_
              exact mr_z (v := false) F hr hM (⟨by rw [hsp, decide_eq_false h6]; simp, lp, (mw_id (xw_ql hw)).symm⟩) dX_overrides_78 ⟨Nat.le_of_ble_eq_true rfl, Nat.le_of_ble_eq_true rfl⟩
            · refine lv_aload_n hx hb dX_overrides_63 rfl (lv_at hl 2 rfl) ?_
              refine lv_aload_n hx hb dX_overrides_64 rfl (lv_at hl 1 rfl) ?_
              refine lv_aload hx hb dX_overrides_65 (lv_at hl 0 rfl) ?_
              refine mw_Vl (As := [.ref (ma i), .ref (ma j)]) (rest := []) F (c_X_overridesMethod hw (xw_mc hw lh1) lh2 (xw_m hw lh1) (by simp)) kb_X_overridesMethod ki_X_overridesMethod ks_X_overridesMethod kl_X_97 hM (xw_x hw) rfl rfl hl.1 rfl (Nat.le_of_ble_eq_true rfl) dX_overrides_67 ⟨⟨Nat.le_of_ble_eq_true rfl, Nat.le_of_ble_eq_true rfl⟩, Nat.le_of_ble_eq_true rfl, Nat.le_of_ble_eq_true rfl⟩ ⟨rfl, rfl⟩ (fun lp1 H locs hM => ?_)
              rw [mb_n h3, mb_n h4, decide_eq_true h5, decide_eq_true h6] at hsp
              refine lv_if_eq (tgt := 77) hx hb dX_overrides_70 (by decide) (fun h7 => ?_) (fun h7 => ?_)
              · refine lv_iconst (v := 0) hx hb dX_overrides_77 (by decide) ?_
                exact mr_z (v := false) F hr hM (⟨by rw [hsp, mb_z h7]; rfl, lp1, rfl⟩) dX_overrides_78 ⟨Nat.le_of_ble_eq_true rfl, Nat.le_of_ble_eq_true rfl⟩
              · refine lv_iconst (v := 1) hx hb dX_overrides_73 (by decide) ?_
                refine lv_goto (tgt := 78) hx hb dX_overrides_74 (by decide) ?_
                exact mr_z (v := true) F hr hM (⟨by rw [hsp, mb_n h7]; rfl, lp1, rfl⟩) dX_overrides_78 ⟨Nat.le_of_ble_eq_true rfl, Nat.le_of_ble_eq_true rfl⟩
        · refine lv_iconst (v := 0) hx hb dX_overrides_37 (by decide) ?_
          exact mr_z (v := false) F hr hM (⟨by rw [hsp, mb_z h4]; simp, lp, (mw_id (xw_ql hw)).symm⟩) dX_overrides_38 ⟨Nat.le_of_ble_eq_true rfl, Nat.le_of_ble_eq_true rfl⟩
end GC
