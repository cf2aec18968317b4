section GC
variable {l : Launch} {G : mw_G} {M : mw_M} {y : Nat} {q : Nat → Nat} {σ : sg_T} {rf : Int32} {f : Nat → Nat → Int32} {ch : Nat → Int32} {lk : Int32} {ov : Nat → Int32}
set_option maxHeartbeats 4000000 in
set_option maxRecDepth 100000 in
theorem c_Y_below (hw : yw_ G M y q σ rf f ch lk ov) (a b : Int32) : mw_C l G yY_below bY_below 3 (some .boolean) { frames := 1, cells := 0, slots := 0, locals := 40 } M [.ref y, .int a, .int b] (mp_ (some (.int (mb_i (sp_be σ a b)))) M) := by
  refine mw_of (by decide) (Nat.le_of_ble_eq_true rfl) ?_
  intro pg en s mi below meth cd F hr _ hM ls hl
  obtain ⟨hx, hb, -⟩ := id F
  have hl : lv_has ls 3 [(0, .ref y), (1, .int a), (2, .int b)] := hl
  have hnc := yw_nc hw
  have hnm := yw_nm hw
  refine lv_aload_n hx hb dY_below_0 rfl (lv_at hl 0 rfl) ?_
  refine lv_iload_n hx hb dY_below_1 rfl (lv_at hl 1 rfl) ?_
  refine mw_Vp (As := [.int a]) (rest := []) F (c_Y_isClass hw a) kb_Y_isClass ki_Y_isClass ks_Y_isClass kl_Y_54 hM (yw_y hw) rfl rfl hl.1 rfl (Nat.le_of_ble_eq_true rfl) dY_below_2 ⟨⟨Nat.le_of_ble_eq_true rfl, Nat.le_of_ble_eq_true rfl⟩, Nat.le_of_ble_eq_true rfl, Nat.le_of_ble_eq_true rfl⟩ ⟨rfl, rfl⟩ (fun H locs hM => ?_)
  refine lv_if_eq (tgt := 29) hx hb dY_below_5 (by decide) (fun h1 => ?_) (fun h1 => ?_)
  · have h1 : ix_o a (sg_nc σ) = none := by
      cases e : ix_o a (sg_nc σ) with
      | none => rfl
      | some i => rw [e] at h1; exact absurd (mb_z h1) (by simp)
    refine lv_iconst (v := 0) hx hb dY_below_29 (by decide) ?_
    exact mr_z (v := false) F hr hM (⟨by unfold sp_be; rw [h1], rfl⟩) dY_below_30 ⟨Nat.le_of_ble_eq_true rfl, Nat.le_of_ble_eq_true rfl⟩
  · obtain ⟨i, h1⟩ : ∃ i, ix_o a (sg_nc σ) = some i := by
      cases e : ix_o a (sg_nc σ) with
      | none => rw [e] at h1; exact absurd (mb_n h1) (by decide)
      | some i => exact ⟨i, rfl⟩
    obtain ⟨lh1, vh1⟩ := ix_some (by omega) h1
    refine lv_aload_n hx hb dY_below_8 rfl (lv_at hl 0 rfl) ?_
    refine lv_iload_n hx hb dY_below_9 rfl (lv_at hl 2 rfl) ?_
    refine mw_Vp (As := [.int b]) (rest := []) F (c_Y_isClass hw b) kb_Y_isClass ki_Y_isClass ks_Y_isClass kl_Y_54 hM (yw_y hw) rfl rfl hl.1 rfl (Nat.le_of_ble_eq_true rfl) dY_below_10 ⟨⟨Nat.le_of_ble_eq_true rfl, Nat.le_of_ble_eq_true rfl⟩, Nat.le_of_ble_eq_true rfl, Nat.le_of_ble_eq_true rfl⟩ ⟨rfl, rfl⟩ (fun H locs hM => ?_)
    refine lv_if_eq (tgt := 29) hx hb dY_below_13 (by decide) (fun h2 => ?_) (fun h2 => ?_)
    · have h2 : ix_o b (sg_nc σ) = none := by
        cases e : ix_o b (sg_nc σ) with
        | none => rfl
        | some i => rw [e] at h2; exact absurd (mb_z h2) (by simp)
      refine lv_iconst (v := 0) hx hb dY_below_29 (by decide) ?_
      exact mr_z (v := false) F hr hM (⟨by unfold sp_be; rw [h1, h2], rfl⟩) dY_below_30 ⟨Nat.le_of_ble_eq_true rfl, Nat.le_of_ble_eq_true rfl⟩
    · obtain ⟨j, h2⟩ : ∃ i, ix_o b (sg_nc σ) = some i := by
        cases e : ix_o b (sg_nc σ) with
        | none => rw [e] at h2; exact absurd (mb_n h2) (by decide)
        | some i => exact ⟨i, rfl⟩
      obtain ⟨lh2, vh2⟩ := ix_some (by omega) h2
      have hsp : sp_be σ a b = decide (j ∈ sg_ln (sg_pr σ) i) := by unfold sp_be; rw [h1, h2]
      rw [hsp]
      clear hsp
      subst vh1
      subst vh2
      refine lv_aload_n hx hb dY_below_16 rfl (lv_at hl 0 rfl) ?_
      refine lv_iload_n hx hb dY_below_17 rfl (lv_at hl 1 rfl) ?_
      refine lv_iload_n hx hb dY_below_18 rfl (lv_at hl 2 rfl) ?_
      refine mw_Vp (As := [.int (nI i), .int (nI j)]) (rest := []) F (c_Y_isBelow hw lh1 lh2) kb_Y_isBelow ki_Y_isBelow ks_Y_isBelow kl_Y_58 hM (yw_y hw) rfl rfl hl.1 rfl (Nat.le_of_ble_eq_true rfl) dY_below_19 ⟨⟨Nat.le_of_ble_eq_true rfl, Nat.le_of_ble_eq_true rfl⟩, Nat.le_of_ble_eq_true rfl, Nat.le_of_ble_eq_true rfl⟩ ⟨rfl, rfl⟩ (fun H locs hM => ?_)
      refine lv_if_eq (tgt := 29) hx hb dY_below_22 (by decide) (fun h3 => ?_) (fun h3 => ?_)
      · refine lv_iconst (v := 0) hx hb dY_below_29 (by decide) ?_
        exact mr_z (v := false) F hr hM (⟨by rw [mb_z h3], rfl⟩) dY_below_30 ⟨Nat.le_of_ble_eq_true rfl, Nat.le_of_ble_eq_true rfl⟩
      · refine lv_iconst (v := 1) hx hb dY_below_25 (by decide) ?_
        refine lv_goto (tgt := 30) hx hb dY_below_26 (by decide) ?_
        exact mr_z (v := true) F hr hM (⟨by rw [mb_n h3], rfl⟩) dY_below_30 ⟨Nat.le_of_ble_eq_true rfl, Nat.le_of_ble_eq_true rfl⟩
set_option maxHeartbeats 4000000 in
set_option maxRecDepth 100000 in
theorem c_Y_reaches (hw : yw_ G M y q σ rf f ch lk ov) (a b : Int32) : mw_C l G yY_reaches bY_reaches 3 (some .boolean) { frames := 2, cells := 0, slots := 0, locals := 80 } M [.ref y, .int a, .int b] (mp_ (some (.int (mb_i (sp_re σ a b)))) M) := by
  refine mw_of (by decide) (Nat.le_of_ble_eq_true rfl) ?_
  intro pg en s mi below meth cd F hr _ hM ls hl
  obtain ⟨hx, hb, -⟩ := id F
  have hl : lv_has ls 3 [(0, .ref y), (1, .int a), (2, .int b)] := hl
  have hnc := yw_nc hw
  have hnm := yw_nm hw
  refine lv_aload_n hx hb dY_reaches_0 rfl (lv_at hl 0 rfl) ?_
  refine lv_iload_n hx hb dY_reaches_1 rfl (lv_at hl 1 rfl) ?_
  refine mw_Vp (As := [.int a]) (rest := []) F (c_Y_isClass hw a) kb_Y_isClass ki_Y_isClass ks_Y_isClass kl_Y_54 hM (yw_y hw) rfl rfl hl.1 rfl (Nat.le_of_ble_eq_true rfl) dY_reaches_2 ⟨⟨Nat.le_of_ble_eq_true rfl, Nat.le_of_ble_eq_true rfl⟩, Nat.le_of_ble_eq_true rfl, Nat.le_of_ble_eq_true rfl⟩ ⟨rfl, rfl⟩ (fun H locs hM => ?_)
  refine lv_if_eq (tgt := 29) hx hb dY_reaches_5 (by decide) (fun h1 => ?_) (fun h1 => ?_)
  · have h1 : ix_o a (sg_nc σ) = none := by
      cases e : ix_o a (sg_nc σ) with
      | none => rfl
      | some i => rw [e] at h1; exact absurd (mb_z h1) (by simp)
    refine lv_iconst (v := 0) hx hb dY_reaches_29 (by decide) ?_
    exact mr_z (v := false) F hr hM (⟨by unfold sp_re; rw [h1], rfl⟩) dY_reaches_30 ⟨Nat.le_of_ble_eq_true rfl, Nat.le_of_ble_eq_true rfl⟩
  · obtain ⟨i, h1⟩ : ∃ i, ix_o a (sg_nc σ) = some i := by
      cases e : ix_o a (sg_nc σ) with
      | none => rw [e] at h1; exact absurd (mb_n h1) (by decide)
      | some i => exact ⟨i, rfl⟩
    obtain ⟨lh1, vh1⟩ := ix_some (by omega) h1
    refine lv_aload_n hx hb dY_reaches_8 rfl (lv_at hl 0 rfl) ?_
    refine lv_iload_n hx hb dY_reaches_9 rfl (lv_at hl 2 rfl) ?_
    refine mw_Vp (As := [.int b]) (rest := []) F (c_Y_isMember hw b) kb_Y_isMember ki_Y_isMember ks_Y_isMember kl_Y_109 hM (yw_y hw) rfl rfl hl.1 rfl (Nat.le_of_ble_eq_true rfl) dY_reaches_10 ⟨⟨Nat.le_of_ble_eq_true rfl, Nat.le_of_ble_eq_true rfl⟩, Nat.le_of_ble_eq_true rfl, Nat.le_of_ble_eq_true rfl⟩ ⟨rfl, rfl⟩ (fun H locs hM => ?_)
    refine lv_if_eq (tgt := 29) hx hb dY_reaches_13 (by decide) (fun h2 => ?_) (fun h2 => ?_)
    · have h2 : ix_o b (sg_nm σ) = none := by
        cases e : ix_o b (sg_nm σ) with
        | none => rfl
        | some i => rw [e] at h2; exact absurd (mb_z h2) (by simp)
      refine lv_iconst (v := 0) hx hb dY_reaches_29 (by decide) ?_
      exact mr_z (v := false) F hr hM (⟨by unfold sp_re; rw [h1, h2], rfl⟩) dY_reaches_30 ⟨Nat.le_of_ble_eq_true rfl, Nat.le_of_ble_eq_true rfl⟩
    · obtain ⟨j, h2⟩ : ∃ i, ix_o b (sg_nm σ) = some i := by
        cases e : ix_o b (sg_nm σ) with
        | none => rw [e] at h2; exact absurd (mb_n h2) (by decide)
        | some i => exact ⟨i, rfl⟩
      obtain ⟨lh2, vh2⟩ := ix_some (by omega) h2
      have hsp : sp_re σ a b = sg_rc σ i j := by unfold sp_re; rw [h1, h2]
      rw [hsp]
      clear hsp
      subst vh1
      subst vh2
      refine lv_aload_n hx hb dY_reaches_16 rfl (lv_at hl 0 rfl) ?_
      refine lv_iload_n hx hb dY_reaches_17 rfl (lv_at hl 1 rfl) ?_
      refine lv_iload_n hx hb dY_reaches_18 rfl (lv_at hl 2 rfl) ?_
      refine mw_Vp (As := [.int (nI i), .int (nI j)]) (rest := []) F (c_Y_doesReach hw lh1 lh2) kb_Y_doesReach ki_Y_doesReach ks_Y_doesReach kl_Y_84 hM (yw_y hw) rfl rfl hl.1 rfl (Nat.le_of_ble_eq_true rfl) dY_reaches_19 ⟨⟨Nat.le_of_ble_eq_true rfl, Nat.le_of_ble_eq_true rfl⟩, Nat.le_of_ble_eq_true rfl, Nat.le_of_ble_eq_true rfl⟩ ⟨rfl, rfl⟩ (fun H locs hM => ?_)
      refine lv_if_eq (tgt := 29) hx hb dY_reaches_22 (by decide) (fun h3 => ?_) (fun h3 => ?_)
      · refine lv_iconst (v := 0) hx hb dY_reaches_29 (by decide) ?_
        exact mr_z (v := false) F hr hM (⟨by rw [mb_z h3], rfl⟩) dY_reaches_30 ⟨Nat.le_of_ble_eq_true rfl, Nat.le_of_ble_eq_true rfl⟩
      · refine lv_iconst (v := 1) hx hb dY_reaches_25 (by decide) ?_
        refine lv_goto (tgt := 30) hx hb dY_reaches_26 (by decide) ?_
        exact mr_z (v := true) F hr hM (⟨by rw [mb_n h3], rfl⟩) dY_reaches_30 ⟨Nat.le_of_ble_eq_true rfl, Nat.le_of_ble_eq_true rfl⟩
set_option maxHeartbeats 4000000 in
set_option maxRecDepth 100000 in
theorem c_Y_member (hw : yw_ G M y q σ rf f ch lk ov) (a b : Int32) : mw_C l G yY_member bY_member 3 (some .int) { frames := 1, cells := 0, slots := 0, locals := 40 } M [.ref y, .int a, .int b] (mp_ (some (.int (sp_me σ a b))) M) := by
  refine mw_of (by decide) (Nat.le_of_ble_eq_true rfl) ?_
  intro pg en s mi below meth cd F hr _ hM ls hl
  obtain ⟨hx, hb, -⟩ := id F
  have hl : lv_has ls 3 [(0, .ref y), (1, .int a), (2, .int b)] := hl
  have hnc := yw_nc hw
  have hnm := yw_nm hw
  refine lv_aload_n hx hb dY_member_0 rfl (lv_at hl 0 rfl) ?_
  refine lv_iload_n hx hb dY_member_1 rfl (lv_at hl 1 rfl) ?_
  refine mw_Vp (As := [.int a]) (rest := []) F (c_Y_isMember hw a) kb_Y_isMember ki_Y_isMember ks_Y_isMember kl_Y_109 hM (yw_y hw) rfl rfl hl.1 rfl (Nat.le_of_ble_eq_true rfl) dY_member_2 ⟨⟨Nat.le_of_ble_eq_true rfl, Nat.le_of_ble_eq_true rfl⟩, Nat.le_of_ble_eq_true rfl, Nat.le_of_ble_eq_true rfl⟩ ⟨rfl, rfl⟩ (fun H locs hM => ?_)
  refine lv_if_ne (tgt := 10) hx hb dY_member_5 (by decide) (fun h1 => ?_) (fun h1 => ?_)
  · obtain ⟨j, h1⟩ : ∃ i, ix_o a (sg_nm σ) = some i := by
      cases e : ix_o a (sg_nm σ) with
      | none => rw [e] at h1; exact absurd (mb_n h1) (by decide)
      | some i => exact ⟨i, rfl⟩
    obtain ⟨lh1, vh1⟩ := ix_some (by omega) h1
    have hsp : sp_me σ a b = if b = 0 then nI (sg_mc σ j) else if b = 1 then sg_mn σ j else if b = 2 then sg_rg σ j else if b = 3 then mb_i (sg_fx σ j) else if b = 4 then mb_i (sg_fn σ j) else if b = 5 then sg_kd σ j else if b = 6 then sg_ty σ j else -1 := by unfold sp_me; rw [h1]
    rw [hsp]
    clear hsp
    subst vh1
    refine lv_iload_n hx hb dY_member_10 rfl (lv_at hl 2 rfl) ?_
    by_cases g0 : b = 0
    · refine mv_i (y := 0) g0 ?_
      refine lv_tableIn (tgt := 52) hx hb dY_member_11 (by decide) (by decide) rfl (by decide) ?_
      refine lv_aload_n hx hb dY_member_52 rfl (lv_at hl 0 rfl) ?_
      refine gf_Y_16 F hM (yw_y hw) rfl dY_member_53 ?_
      refine lv_iload_n hx hb dY_member_56 rfl (lv_at hl 1 rfl) ?_
      refine mw_ild F hM (yw_2 hw) (vp_in_nI (by omega) (by omega)) dY_member_57 ?_
      refine mv_i (y := (nI (sg_mc σ j))) (by rw [nI_clamp (by omega)]; exact yv_2 hw lh1) ?_
      exact mr_i F hr hM (⟨by rw [if_pos g0], rfl⟩) dY_member_58 ⟨Nat.le_of_ble_eq_true rfl, Nat.le_of_ble_eq_true rfl⟩
    · by_cases g1 : b = 1
      · refine mv_i (y := 1) g1 ?_
        refine lv_tableIn (tgt := 59) hx hb dY_member_11 (by decide) (by decide) rfl (by decide) ?_
        refine lv_aload_n hx hb dY_member_59 rfl (lv_at hl 0 rfl) ?_
        refine gf_Y_19 F hM (yw_y hw) rfl dY_member_60 ?_
        refine lv_iload_n hx hb dY_member_63 rfl (lv_at hl 1 rfl) ?_
        refine mw_ild F hM (yw_3 hw) (vp_in_nI (by omega) (by omega)) dY_member_64 ?_
        refine mv_i (y := (sg_mn σ j)) (by rw [nI_clamp (by omega)]; exact yv_3 hw lh1) ?_
        exact mr_i F hr hM (⟨by rw [if_neg g0, if_pos g1], rfl⟩) dY_member_65 ⟨Nat.le_of_ble_eq_true rfl, Nat.le_of_ble_eq_true rfl⟩
      · by_cases g2 : b = 2
        · refine mv_i (y := 2) g2 ?_
          refine lv_tableIn (tgt := 66) hx hb dY_member_11 (by decide) (by decide) rfl (by decide) ?_
          refine lv_aload_n hx hb dY_member_66 rfl (lv_at hl 0 rfl) ?_
          refine gf_Y_22 F hM (yw_y hw) rfl dY_member_67 ?_
          refine lv_iload_n hx hb dY_member_70 rfl (lv_at hl 1 rfl) ?_
          refine mw_ild F hM (yw_4 hw) (vp_in_nI (by omega) (by omega)) dY_member_71 ?_
          refine mv_i (y := (sg_rg σ j)) (by rw [nI_clamp (by omega)]; exact yv_4 hw lh1) ?_
          exact mr_i F hr hM (⟨by rw [if_neg g0, if_neg g1, if_pos g2], rfl⟩) dY_member_72 ⟨Nat.le_of_ble_eq_true rfl, Nat.le_of_ble_eq_true rfl⟩
        · by_cases g3 : b = 3
          · refine mv_i (y := 3) g3 ?_
            refine lv_tableIn (tgt := 73) hx hb dY_member_11 (by decide) (by decide) rfl (by decide) ?_
            refine lv_aload_n hx hb dY_member_73 rfl (lv_at hl 0 rfl) ?_
            refine gf_Y_31 F hM (yw_y hw) rfl dY_member_74 ?_
            refine lv_iload_n hx hb dY_member_77 rfl (lv_at hl 1 rfl) ?_
            refine mw_zld F hM (yw_7 hw) (vp_in_nI (by omega) (by omega)) dY_member_78 ?_
            refine mv_i (y := (mb_i (sg_fx σ j))) (by rw [nI_clamp (by omega)]; exact yv_7 hw lh1) ?_
            refine lv_if_eq (tgt := 86) hx hb dY_member_79 (by decide) (fun h5 => ?_) (fun h5 => ?_)
            · refine lv_iconst (v := 0) hx hb dY_member_86 (by decide) ?_
              exact mr_i F hr hM (⟨by rw [if_neg g0, if_neg g1, if_neg g2, if_pos g3, mb_z h5]; rfl, rfl⟩) dY_member_87 ⟨Nat.le_of_ble_eq_true rfl, Nat.le_of_ble_eq_true rfl⟩
            · refine lv_iconst (v := 1) hx hb dY_member_82 (by decide) ?_
              refine lv_goto (tgt := 87) hx hb dY_member_83 (by decide) ?_
              exact mr_i F hr hM (⟨by rw [if_neg g0, if_neg g1, if_neg g2, if_pos g3, mb_n h5]; rfl, rfl⟩) dY_member_87 ⟨Nat.le_of_ble_eq_true rfl, Nat.le_of_ble_eq_true rfl⟩
          · by_cases g4 : b = 4
            · refine mv_i (y := 4) g4 ?_
              refine lv_tableIn (tgt := 88) hx hb dY_member_11 (by decide) (by decide) rfl (by decide) ?_
              refine lv_aload_n hx hb dY_member_88 rfl (lv_at hl 0 rfl) ?_
              refine gf_Y_35 F hM (yw_y hw) rfl dY_member_89 ?_
              refine lv_iload_n hx hb dY_member_92 rfl (lv_at hl 1 rfl) ?_
              refine mw_zld F hM (yw_8 hw) (vp_in_nI (by omega) (by omega)) dY_member_93 ?_
              refine mv_i (y := (mb_i (sg_fn σ j))) (by rw [nI_clamp (by omega)]; exact yv_8 hw lh1) ?_
              refine lv_if_eq (tgt := 101) hx hb dY_member_94 (by decide) (fun h5 => ?_) (fun h5 => ?_)
              · refine lv_iconst (v := 0) hx hb dY_member_101 (by decide) ?_
                exact mr_i F hr hM (⟨by rw [if_neg g0, if_neg g1, if_neg g2, if_neg g3, if_pos g4, mb_z h5]; rfl, rfl⟩) dY_member_102 ⟨Nat.le_of_ble_eq_true rfl, Nat.le_of_ble_eq_true rfl⟩
              · refine lv_iconst (v := 1) hx hb dY_member_97 (by decide) ?_
                refine lv_goto (tgt := 102) hx hb dY_member_98 (by decide) ?_
                exact mr_i F hr hM (⟨by rw [if_neg g0, if_neg g1, if_neg g2, if_neg g3, if_pos g4, mb_n h5]; rfl, rfl⟩) dY_member_102 ⟨Nat.le_of_ble_eq_true rfl, Nat.le_of_ble_eq_true rfl⟩
            · by_cases g5 : b = 5
              · refine mv_i (y := 5) g5 ?_
                refine lv_tableIn (tgt := 103) hx hb dY_member_11 (by decide) (by decide) rfl (by decide) ?_
                refine lv_aload_n hx hb dY_member_103 rfl (lv_at hl 0 rfl) ?_
                refine gf_Y_25 F hM (yw_y hw) rfl dY_member_104 ?_
                refine lv_iload_n hx hb dY_member_107 rfl (lv_at hl 1 rfl) ?_
                refine mw_ild F hM (yw_5 hw) (vp_in_nI (by omega) (by omega)) dY_member_108 ?_
                refine mv_i (y := (sg_kd σ j)) (by rw [nI_clamp (by omega)]; exact yv_5 hw lh1) ?_
                exact mr_i F hr hM (⟨by rw [if_neg g0, if_neg g1, if_neg g2, if_neg g3, if_neg g4, if_pos g5], rfl⟩) dY_member_109 ⟨Nat.le_of_ble_eq_true rfl, Nat.le_of_ble_eq_true rfl⟩
              · by_cases g6 : b = 6
                · refine mv_i (y := 6) g6 ?_
                  refine lv_tableIn (tgt := 110) hx hb dY_member_11 (by decide) (by decide) rfl (by decide) ?_
                  refine lv_aload_n hx hb dY_member_110 rfl (lv_at hl 0 rfl) ?_
                  refine gf_Y_28 F hM (yw_y hw) rfl dY_member_111 ?_
                  refine lv_iload_n hx hb dY_member_114 rfl (lv_at hl 1 rfl) ?_
                  refine mw_ild F hM (yw_6 hw) (vp_in_nI (by omega) (by omega)) dY_member_115 ?_
                  refine mv_i (y := (sg_ty σ j)) (by rw [nI_clamp (by omega)]; exact yv_6 hw lh1) ?_
                  exact mr_i F hr hM (⟨by rw [if_neg g0, if_neg g1, if_neg g2, if_neg g3, if_neg g4, if_neg g5, if_pos g6], rfl⟩) dY_member_116 ⟨Nat.le_of_ble_eq_true rfl, Nat.le_of_ble_eq_true rfl⟩
                · have hout : b.toInt < 0 ∨ 6 < b.toInt := by
                    rcases Int.lt_or_le b.toInt 0 with z | z
                    · exact Or.inl z
                    · refine Or.inr (Int.not_le.mp fun z2 => ?_)
                      have h7 : b.toInt = 0 ∨ b.toInt = 1 ∨ b.toInt = 2 ∨ b.toInt = 3 ∨ b.toInt = 4 ∨ b.toInt = 5 ∨ b.toInt = 6 := by omega
                      rcases h7 with h7 | h7 | h7 | h7 | h7 | h7 | h7
                      · exact g0 (Int32.toInt_inj.mp (by rw [h7]; rfl))
                      · exact g1 (Int32.toInt_inj.mp (by rw [h7]; rfl))
                      · exact g2 (Int32.toInt_inj.mp (by rw [h7]; rfl))
                      · exact g3 (Int32.toInt_inj.mp (by rw [h7]; rfl))
                      · exact g4 (Int32.toInt_inj.mp (by rw [h7]; rfl))
                      · exact g5 (Int32.toInt_inj.mp (by rw [h7]; rfl))
                      · exact g6 (Int32.toInt_inj.mp (by rw [h7]; rfl))
                  refine lv_tableOut (tgt := 117) hx hb dY_member_11 hout (by decide) ?_
                  refine lv_iconst (v := (-1)) hx hb dY_member_117 (by decide) ?_
                  exact mr_i F hr hM (⟨by rw [if_neg g0, if_neg g1, if_neg g2, if_neg g3, if_neg g4, if_neg g5, if_neg g6], rfl⟩) dY_member_118 ⟨Nat.le_of_ble_eq_true rfl, Nat.le_of_ble_eq_true rfl⟩
  · have h1 : ix_o a (sg_nm σ) = none := by
      cases e : ix_o a (sg_nm σ) with
      | none => rfl
      | some i => rw [e] at h1; exact absurd (mb_z h1) (by simp)
    refine lv_iconst (v := (-1)) hx hb dY_member_8 (by decide) ?_
    exact mr_i F hr hM (⟨by unfold sp_me; rw [h1], rfl⟩) dY_member_9 ⟨Nat.le_of_ble_eq_true rfl, Nat.le_of_ble_eq_true rfl⟩
end GC
