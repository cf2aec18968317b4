section GC
variable {l : Launch} {G : mw_G} {M : mw_M} {x qc qm ql : Nat} {ca ma : Nat → Nat} {σ : sg_T} {rf : Int32} {lp : Nat → Int32}
set_option maxHeartbeats 4000000 in
set_option maxRecDepth 100000 in
theorem c_X_newClass (hw : xw_ G M x qc qm ql ca ma σ rf lp) (v k : Int32) : mw_C l G yX_newClass bX_newClass 5 (some .int) { frames := 2, cells := 1, slots := 4, locals := 80 } M [.ref x, .int v, .int k] (px_ G x qc qm ql (some (.int (sp_nc σ v k).1)) (sp_nc σ v k).2 rf M) := by
  refine mw_of (by decide) (Nat.le_of_ble_eq_true rfl) ?_
  intro pg en s mi below meth cd F hr _ hM ls hl
  obtain ⟨hx, hb, -⟩ := id F
  have hl : lv_has ls 5 [(0, .ref x), (1, .int v), (2, .int k)] := hl
  have hnc := xw_nc hw
  refine lv_aload_n hx hb dX_newClass_0 rfl (lv_at hl 0 rfl) ?_
  refine lv_iload_n hx hb dX_newClass_1 rfl (lv_at hl 1 rfl) ?_
  refine mw_Vp (As := [.int v]) (rest := []) F (c_X_classAt hw v) kb_X_classAt ki_X_classAt ks_X_classAt kl_X_35 hM (xw_x hw) rfl rfl hl.1 rfl (Nat.le_of_ble_eq_true rfl) dX_newClass_2 ⟨⟨Nat.le_of_ble_eq_true rfl, Nat.le_of_ble_eq_true rfl⟩, Nat.le_of_ble_eq_true rfl, Nat.le_of_ble_eq_true rfl⟩ ⟨rfl, rfl⟩ (fun H locs hM => ?_)
  rcases h1 : ix_o v (sg_nc σ) with _ | d
  · refine lv_astore_nN (lv' := [(3, .null), (0, .ref x), (1, .int v), (2, .int k)]) hx hb dX_newClass_5 rfl hl (by decide) rfl (fun ls hl => ?_)
    refine lv_aload_n hx hb dX_newClass_6 rfl (lv_at hl 1 rfl) ?_
    refine gf_X_25 F hM (xw_x hw) rfl dX_newClass_7 ?_
    refine lv_bipush (v := 40) hx hb dX_newClass_10 (by decide) ?_
    refine lv_icmp_ge (tgt := 24) hx hb dX_newClass_12 (by decide) (fun h2 => ?_) (fun h2 => ?_)
    · have hsp : sp_nc σ v k = (-1, σ) := by unfold sp_nc; rw [if_pos ((nI_leI (a := 40) (by omega) (by omega)).mp h2)]
      refine lv_iconst (v := (-1)) hx hb dX_newClass_24 (by decide) ?_
      exact mr_i F hr hM (⟨by rw [hsp], ⟨ca, ma, lp, by rw [hsp]; exact hw⟩, kx_rf⟩) dX_newClass_25 ⟨Nat.le_of_ble_eq_true rfl, Nat.le_of_ble_eq_true rfl⟩
    · have hlt : sg_nc σ < 40 := Nat.not_le.mp (fun z => h2 ((nI_leI (a := 40) (by omega) (by omega)).mpr z))
      refine lv_aload_nN hx hb dX_newClass_15 rfl (lv_at hl 0 rfl) ?_
      refine lv_ifnonnullN hx hb dX_newClass_16 ?_
      refine lv_iload_n hx hb dX_newClass_19 rfl (lv_at hl 2 rfl) ?_
      refine lv_iconst (v := (-1)) hx hb dX_newClass_20 (by decide) ?_
      refine lv_icmp_eq (tgt := 26) hx hb dX_newClass_21 (by decide) (fun h3 => ?_) (fun h3 => ?_)
      · have hsp : sp_nc σ v k = (nI (sg_nc σ), sg_nw σ none k) := by unfold sp_nc; rw [if_neg (Nat.not_le.mpr hlt), if_pos h3]
        refine lv_aload_n hx hb dX_newClass_26 rfl (lv_at hl 1 rfl) ?_
        refine gf_X_25 F hM (xw_x hw) rfl dX_newClass_27 ?_
        refine lv_istore (lv' := [(4, .int (nI (sg_nc σ))), (3, .null), (0, .ref x), (1, .int v), (2, .int k)]) hx hb dX_newClass_30 hl (by decide) rfl (fun ls hl => ?_)
        refine lv_aload_n hx hb dX_newClass_32 rfl (lv_at hl 2 rfl) ?_
        refine gf_X_11 F hM (xw_x hw) rfl dX_newClass_33 ?_
        refine lv_iload hx hb dX_newClass_36 (lv_at hl 0 rfl) ?_
        refine mw_new (ci := ciC) F (4, sg_nc σ) iC tC tC_ok rfl (fs := [.int 0, .null, .int 0, .null]) kc_X_9 kj_C kn_C (fun j hj => by rcases (show j = 0 ∨ j = 1 ∨ j = 2 ∨ j = 3 by omega) with rfl | rfl | rfl | rfl <;> rfl) hM ⟨Nat.le_of_ble_eq_true rfl, Nat.le_of_ble_eq_true rfl⟩ dX_newClass_38 (fun q H hq0 hM => ?_)
        have hw1 := xw_old (z := ((4, sg_nc σ), .inr (ciC, [.int 0, .null, .int 0, .null]))) hw hq0
        have hq1 : mw_up M q ((4, sg_nc σ), .inr (ciC, [.int 0, .null, .int 0, .null])) q = some ((4, sg_nc σ), .inr (ciC, [.int 0, .null, .int 0, .null])) := mw_at
        have k1 : kx_ M (mw_up M q ((4, sg_nc σ), .inr (ciC, [.int 0, .null, .int 0, .null]))) := kx_nw hq0
        generalize mw_up M q ((4, sg_nc σ), .inr (ciC, [.int 0, .null, .int 0, .null])) = M1 at hM hw1 hq1 k1
        refine lv_dup hx hb dX_newClass_41 rfl ?_
        refine lv_iload hx hb dX_newClass_42 (lv_at hl 0 rfl) ?_
        refine lv_aload_nN hx hb dX_newClass_44 rfl (lv_at hl 1 rfl) ?_
        refine lv_iload_n hx hb dX_newClass_45 rfl (lv_at hl 4 rfl) ?_
        refine mw_Ip (As := [.int (nI (sg_nc σ)), .null, .int k]) (rest := [.ref q, .int (nI (sg_nc σ)), .ref qc]) F (c_C_init_n hq1 (nI (sg_nc σ)) k) kb_C_init rfl ki_C_init kl_X_39 hM rfl hl.1 rfl (Nat.le_of_ble_eq_true rfl) dX_newClass_46 ⟨⟨Nat.le_of_ble_eq_true rfl, Nat.le_of_ble_eq_true rfl⟩, Nat.le_of_ble_eq_true rfl, Nat.le_of_ble_eq_true rfl⟩ ⟨rfl, rfl⟩ (fun H locs hM => ?_)
        have hM : mw_S G (mw_up M1 q ((4, sg_nc σ), .inr (ciC, [.int (nI (sg_nc σ)), .null, .int k, .null]))) s.heap H locs := hM
        refine mw_ast F 2 ciC hM (mw_oth hq1 (xw_qc hw1) (by simp)) rfl mw_at rfl (vp_in_nI (by omega) (by omega)) dX_newClass_49 (fun H locs hM => ?_)
        rw [nI_clamp (show sg_nc σ < 2 ^ 31 by omega)] at hM
        have hM : mw_S G (mw_up (mw_up M1 q ((4, sg_nc σ), .inr (ciC, [.int (nI (sg_nc σ)), .null, .int k, .null]))) qc ((1, 0), aC_ G 40 (va_up (fun i => if i < sg_nc σ then some (ca i) else none) (sg_nc σ) (some q)))) s.heap H locs := hM
        refine lv_aload_n hx hb dX_newClass_50 rfl (lv_at hl 2 rfl) ?_
        refine lv_dup hx hb dX_newClass_51 rfl ?_
        refine gf_X_25 F hM (mw_oth (mw_oth hq1 (xw_qc hw1) (by simp)) (mw_oth hq1 (xw_x hw1) (by simp)) (by simp)) rfl dX_newClass_52 ?_
        refine lv_iconst (v := 1) hx hb dX_newClass_55 (by decide) ?_
        refine lv_iadd hx hb dX_newClass_56 ?_
        refine mv_i (y := nI (sg_nc σ + 1)) (nI_1 (sg_nc σ)) ?_
        refine pf_X_25 F hM (mw_oth (mw_oth hq1 (xw_qc hw1) (by simp)) (mw_oth hq1 (xw_x hw1) (by simp)) (by simp)) (Nat.le_of_ble_eq_true rfl) dX_newClass_57 (fun H locs hM => ?_)
        have hM : mw_S G (mw_up (mw_up (mw_up M1 q ((4, sg_nc σ), .inr (ciC, [.int (nI (sg_nc σ)), .null, .int k, .null]))) qc ((1, 0), aC_ G 40 (va_up (fun i => if i < sg_nc σ then some (ca i) else none) (sg_nc σ) (some q)))) x ((0, 0), .inr (ciX, [.ref qc, .int (nI (sg_nc σ + 1)), .ref qm, .int (nI (sg_nm σ)), .int rf, .ref ql]))) s.heap H locs := hM
        refine lv_iload hx hb dX_newClass_60 (lv_at hl 0 rfl) ?_
        have hwf := xw_new (o := none) (k := k) hw1 hq1 (fun p hp => by cases hp) (sg_Wnw hw.1 hlt (fun p hp => by cases hp) k)
        have kf : kx_ M1 (mw_up (mw_up (mw_up M1 q ((4, sg_nc σ), .inr (ciC, [.int (nI (sg_nc σ)), .null, .int k, .null]))) qc ((1, 0), aC_ G 40 (va_up (fun i => if i < sg_nc σ then some (ca i) else none) (sg_nc σ) (some q)))) x ((0, 0), .inr (ciX, [.ref qc, .int (nI (sg_nc σ + 1)), .ref qm, .int (nI (sg_nm σ)), .int rf, .ref ql]))) := kx_tr (kx_tr (kx_up hq1 (by simp)) (kx_up (mw_oth hq1 (xw_qc hw1) (by simp)) (by simp))) (kx_up (mw_oth (mw_oth hq1 (xw_qc hw1) (by simp)) (mw_oth hq1 (xw_x hw1) (by simp)) (by simp)) (by simp))
        exact mr_i F hr hM (⟨by rw [hsp], ⟨_, ma, lp, by rw [hsp]; exact hwf⟩, kx_tr k1 kf⟩) dX_newClass_62 ⟨Nat.le_of_ble_eq_true rfl, Nat.le_of_ble_eq_true rfl⟩
      · have hsp : sp_nc σ v k = (-1, σ) := by unfold sp_nc; rw [if_neg (Nat.not_le.mpr hlt), if_neg h3, h1]
        refine lv_iconst (v := (-1)) hx hb dX_newClass_24 (by decide) ?_
        exact mr_i F hr hM (⟨by rw [hsp], ⟨ca, ma, lp, by rw [hsp]; exact hw⟩, kx_rf⟩) dX_newClass_25 ⟨Nat.le_of_ble_eq_true rfl, Nat.le_of_ble_eq_true rfl⟩
  · have lh1 := (ix_some (by have := xw_nc hw; omega) h1).1
    refine lv_astore_n (lv' := [(3, .ref (ca d)), (0, .ref x), (1, .int v), (2, .int k)]) hx hb dX_newClass_5 rfl hl (by decide) rfl (fun ls hl => ?_)
    refine lv_aload_n hx hb dX_newClass_6 rfl (lv_at hl 1 rfl) ?_
    refine gf_X_25 F hM (xw_x hw) rfl dX_newClass_7 ?_
    refine lv_bipush (v := 40) hx hb dX_newClass_10 (by decide) ?_
    refine lv_icmp_ge (tgt := 24) hx hb dX_newClass_12 (by decide) (fun h2 => ?_) (fun h2 => ?_)
    · have hsp : sp_nc σ v k = (-1, σ) := by unfold sp_nc; rw [if_pos ((nI_leI (a := 40) (by omega) (by omega)).mp h2)]
      refine lv_iconst (v := (-1)) hx hb dX_newClass_24 (by decide) ?_
      exact mr_i F hr hM (⟨by rw [hsp], ⟨ca, ma, lp, by rw [hsp]; exact hw⟩, kx_rf⟩) dX_newClass_25 ⟨Nat.le_of_ble_eq_true rfl, Nat.le_of_ble_eq_true rfl⟩
    · have hlt : sg_nc σ < 40 := Nat.not_le.mp (fun z => h2 ((nI_leI (a := 40) (by omega) (by omega)).mpr z))
      have hv1 : ¬ v = -1 := by
        rw [(ix_some (by omega) h1).2]
        exact nI_m1 (by omega)
      refine lv_aload_n hx hb dX_newClass_15 rfl (lv_at hl 0 rfl) ?_
      refine lv_ifnonnull (tgt := 26) hx hb dX_newClass_16 (by decide) ?_
      have hsp : sp_nc σ v k = (nI (sg_nc σ), sg_nw σ (some d) k) := by unfold sp_nc; rw [if_neg (Nat.not_le.mpr hlt), if_neg hv1, h1]
      refine lv_aload_n hx hb dX_newClass_26 rfl (lv_at hl 1 rfl) ?_
      refine gf_X_25 F hM (xw_x hw) rfl dX_newClass_27 ?_
      refine lv_istore (lv' := [(4, .int (nI (sg_nc σ))), (3, .ref (ca d)), (0, .ref x), (1, .int v), (2, .int k)]) hx hb dX_newClass_30 hl (by decide) rfl (fun ls hl => ?_)
      refine lv_aload_n hx hb dX_newClass_32 rfl (lv_at hl 2 rfl) ?_
      refine gf_X_11 F hM (xw_x hw) rfl dX_newClass_33 ?_
      refine lv_iload hx hb dX_newClass_36 (lv_at hl 0 rfl) ?_
      refine mw_new (ci := ciC) F (4, sg_nc σ) iC tC tC_ok rfl (fs := [.int 0, .null, .int 0, .null]) kc_X_9 kj_C kn_C (fun j hj => by rcases (show j = 0 ∨ j = 1 ∨ j = 2 ∨ j = 3 by omega) with rfl | rfl | rfl | rfl <;> rfl) hM ⟨Nat.le_of_ble_eq_true rfl, Nat.le_of_ble_eq_true rfl⟩ dX_newClass_38 (fun q H hq0 hM => ?_)
      have hw1 := xw_old (z := ((4, sg_nc σ), .inr (ciC, [.int 0, .null, .int 0, .null]))) hw hq0
      have hq1 : mw_up M q ((4, sg_nc σ), .inr (ciC, [.int 0, .null, .int 0, .null])) q = some ((4, sg_nc σ), .inr (ciC, [.int 0, .null, .int 0, .null])) := mw_at
      have k1 : kx_ M (mw_up M q ((4, sg_nc σ), .inr (ciC, [.int 0, .null, .int 0, .null]))) := kx_nw hq0
      generalize mw_up M q ((4, sg_nc σ), .inr (ciC, [.int 0, .null, .int 0, .null])) = M1 at hM hw1 hq1 k1
      refine lv_dup hx hb dX_newClass_41 rfl ?_
      refine lv_iload hx hb dX_newClass_42 (lv_at hl 0 rfl) ?_
      refine lv_aload_n hx hb dX_newClass_44 rfl (lv_at hl 1 rfl) ?_
      refine lv_iload_n hx hb dX_newClass_45 rfl (lv_at hl 4 rfl) ?_
      refine mw_Ip (As := [.int (nI (sg_nc σ)), .ref (ca d), .int k]) (rest := [.ref q, .int (nI (sg_nc σ)), .ref qc]) F (c_C_init_s hq1 (nI (sg_nc σ)) k) kb_C_init rfl ki_C_init kl_X_39 hM rfl hl.1 rfl (Nat.le_of_ble_eq_true rfl) dX_newClass_46 ⟨⟨Nat.le_of_ble_eq_true rfl, Nat.le_of_ble_eq_true rfl⟩, Nat.le_of_ble_eq_true rfl, Nat.le_of_ble_eq_true rfl⟩ ⟨rfl, rfl⟩ (fun H locs hM => ?_)
      have hM : mw_S G (mw_up M1 q ((4, sg_nc σ), .inr (ciC, [.int (nI (sg_nc σ)), .ref (ca d), .int k, .null]))) s.heap H locs := hM
      refine mw_ast F 2 ciC hM (mw_oth hq1 (xw_qc hw1) (by simp)) rfl mw_at rfl (vp_in_nI (by omega) (by omega)) dX_newClass_49 (fun H locs hM => ?_)
      rw [nI_clamp (show sg_nc σ < 2 ^ 31 by omega)] at hM
      have hM : mw_S G (mw_up (mw_up M1 q ((4, sg_nc σ), .inr (ciC, [.int (nI (sg_nc σ)), .ref (ca d), .int k, .null]))) qc ((1, 0), aC_ G 40 (va_up (fun i => if i < sg_nc σ then some (ca i) else none) (sg_nc σ) (some q)))) s.heap H locs := hM
      refine lv_aload_n hx hb dX_newClass_50 rfl (lv_at hl 2 rfl) ?_
      refine lv_dup hx hb dX_newClass_51 rfl ?_
      refine gf_X_25 F hM (mw_oth (mw_oth hq1 (xw_qc hw1) (by simp)) (mw_oth hq1 (xw_x hw1) (by simp)) (by simp)) rfl dX_newClass_52 ?_
      refine lv_iconst (v := 1) hx hb dX_newClass_55 (by decide) ?_
      refine lv_iadd hx hb dX_newClass_56 ?_
      refine mv_i (y := nI (sg_nc σ + 1)) (nI_1 (sg_nc σ)) ?_
      refine pf_X_25 F hM (mw_oth (mw_oth hq1 (xw_qc hw1) (by simp)) (mw_oth hq1 (xw_x hw1) (by simp)) (by simp)) (Nat.le_of_ble_eq_true rfl) dX_newClass_57 (fun H locs hM => ?_)
      have hM : mw_S G (mw_up (mw_up (mw_up M1 q ((4, sg_nc σ), .inr (ciC, [.int (nI (sg_nc σ)), .ref (ca d), .int k, .null]))) qc ((1, 0), aC_ G 40 (va_up (fun i => if i < sg_nc σ then some (ca i) else none) (sg_nc σ) (some q)))) x ((0, 0), .inr (ciX, [.ref qc, .int (nI (sg_nc σ + 1)), .ref qm, .int (nI (sg_nm σ)), .int rf, .ref ql]))) s.heap H locs := hM
      refine lv_iload hx hb dX_newClass_60 (lv_at hl 0 rfl) ?_
      have hwf := xw_new (o := (some d)) (k := k) hw1 hq1 (fun p hp => by cases hp; exact lh1) (sg_Wnw hw.1 hlt (fun p hp => by cases hp; exact lh1) k)
      have kf : kx_ M1 (mw_up (mw_up (mw_up M1 q ((4, sg_nc σ), .inr (ciC, [.int (nI (sg_nc σ)), .ref (ca d), .int k, .null]))) qc ((1, 0), aC_ G 40 (va_up (fun i => if i < sg_nc σ then some (ca i) else none) (sg_nc σ) (some q)))) x ((0, 0), .inr (ciX, [.ref qc, .int (nI (sg_nc σ + 1)), .ref qm, .int (nI (sg_nm σ)), .int rf, .ref ql]))) := kx_tr (kx_tr (kx_up hq1 (by simp)) (kx_up (mw_oth hq1 (xw_qc hw1) (by simp)) (by simp))) (kx_up (mw_oth (mw_oth hq1 (xw_qc hw1) (by simp)) (mw_oth hq1 (xw_x hw1) (by simp)) (by simp)) (by simp))
      exact mr_i F hr hM (⟨by rw [hsp], ⟨_, ma, lp, by rw [hsp]; exact hwf⟩, kx_tr k1 kf⟩) dX_newClass_62 ⟨Nat.le_of_ble_eq_true rfl, Nat.le_of_ble_eq_true rfl⟩
set_option maxHeartbeats 4000000 in
set_option maxRecDepth 100000 in
theorem c_X_field (hw : xw_ G M x qc qm ql ca ma σ rf lp) (o n r : Int32) (st fn : Bool) : mw_C l G yX_field bX_field 7 (some .int) { frames := 6, cells := 1, slots := 9, locals := 240 } M [.ref x, .int o, .int n, .int (mb_i st), .int (mb_i fn), .int r] (px_ G x qc qm ql (some (.int (sp_ad σ o 0 n 0 st fn r).1)) (sp_ad σ o 0 n 0 st fn r).2.2 (sp_ad σ o 0 n 0 st fn r).2.1 M) := by
  refine mw_of (by decide) (Nat.le_of_ble_eq_true rfl) ?_
  intro pg en s mi below meth cd F hr _ hM ls hl
  obtain ⟨hx, hb, -⟩ := id F
  have hl : lv_has ls 7 [(0, .ref x), (1, .int o), (2, .int n), (3, .int (mb_i st)), (4, .int (mb_i fn)), (5, .int r)] := hl
  refine lv_aload_n hx hb dX_field_0 rfl (lv_at hl 0 rfl) ?_
  refine lv_iload_n hx hb dX_field_1 rfl (lv_at hl 1 rfl) ?_
  refine mw_Vp (As := [.int o]) (rest := []) F (c_X_classAt hw o) kb_X_classAt ki_X_classAt ks_X_classAt kl_X_35 hM (xw_x hw) rfl rfl hl.1 rfl (Nat.le_of_ble_eq_true rfl) dX_field_2 ⟨⟨Nat.le_of_ble_eq_true rfl, Nat.le_of_ble_eq_true rfl⟩, Nat.le_of_ble_eq_true rfl, Nat.le_of_ble_eq_true rfl⟩ ⟨rfl, rfl⟩ (fun H locs hM => ?_)
  rcases h1 : ix_o o (sg_nc σ) with _ | c
  · refine lv_astoreN (lv' := [(6, .null), (0, .ref x), (1, .int o), (2, .int n), (3, .int (mb_i st)), (4, .int (mb_i fn)), (5, .int r)]) hx hb dX_field_5 hl (by decide) rfl (fun ls hl => ?_)
    refine lv_aloadN hx hb dX_field_7 (lv_at hl 0 rfl) ?_
    refine lv_ifnonnullN hx hb dX_field_9 ?_
    refine lv_aload_n hx hb dX_field_12 rfl (lv_at hl 1 rfl) ?_
    refine lv_iconst (v := 1) hx hb dX_field_13 (by decide) ?_
    refine mw_Vp (As := [.int 1]) (rest := []) F (c_X_refuse hw 1) kb_X_refuse ki_X_refuse ks_X_refuse kl_X_46 hM (xw_x hw) rfl rfl hl.1 rfl (Nat.le_of_ble_eq_true rfl) dX_field_14 ⟨⟨Nat.le_of_ble_eq_true rfl, Nat.le_of_ble_eq_true rfl⟩, Nat.le_of_ble_eq_true rfl, Nat.le_of_ble_eq_true rfl⟩ ⟨rfl, rfl⟩ (fun H locs hM => ?_)
    have hsp : sp_ad σ o 0 n 0 st fn r = (-1, 1, σ) := by unfold sp_ad; rw [h1]
    exact mr_i F hr hM (⟨by rw [hsp], ⟨ca, ma, lp, by rw [hsp]; exact xw_rf hw 1⟩, kx_up (xw_x hw) (by decide)⟩) dX_field_17 ⟨Nat.le_of_ble_eq_true rfl, Nat.le_of_ble_eq_true rfl⟩
  · have lh1 := (ix_some (by have := xw_nc hw; omega) h1).1
    refine lv_astore (lv' := [(6, .ref (ca c)), (0, .ref x), (1, .int o), (2, .int n), (3, .int (mb_i st)), (4, .int (mb_i fn)), (5, .int r)]) hx hb dX_field_5 hl (by decide) rfl (fun ls hl => ?_)
    refine lv_aload hx hb dX_field_7 (lv_at hl 0 rfl) ?_
    refine lv_ifnonnull (tgt := 18) hx hb dX_field_9 (by decide) ?_
    refine lv_aload_n hx hb dX_field_18 rfl (lv_at hl 1 rfl) ?_
    refine lv_aload hx hb dX_field_19 (lv_at hl 0 rfl) ?_
    have hsp : sp_ad σ o 0 n 0 st fn r = if sg_nr σ c 0 n 0 st r = 0 then (nI (sg_nm σ), 0, sg_ad σ c 0 n 0 st fn r) else (-1, sg_nr σ c 0 n 0 st r, σ) := by unfold sp_ad; rw [h1]
    refine mw_new (ci := ciN) F (5, sg_nm σ) iN tN tN_ok rfl (fs := [.null, .int 0, .int 0, .int 0, .int 0, .int 0, .int 0, .int 0, .null]) kc_X_15 kj_N kn_N (fun j hj => by rcases (show j = 0 ∨ j = 1 ∨ j = 2 ∨ j = 3 ∨ j = 4 ∨ j = 5 ∨ j = 6 ∨ j = 7 ∨ j = 8 by omega) with rfl | rfl | rfl | rfl | rfl | rfl | rfl | rfl | rfl <;> rfl) hM ⟨Nat.le_of_ble_eq_true rfl, Nat.le_of_ble_eq_true rfl⟩ dX_field_21 (fun q H hq0 hM => ?_)
    have hq1 : mw_up M q ((5, sg_nm σ), .inr (ciN, [.null, .int 0, .int 0, .int 0, .int 0, .int 0, .int 0, .int 0, .null])) q = some ((5, sg_nm σ), .inr (ciN, [.null, .int 0, .int 0, .int 0, .int 0, .int 0, .int 0, .int 0, .null])) := mw_at
    have hw1 := xw_set5 (e1 := xn_e (ca c) 0 n 0 st fn r (-1) .null) (xw_old (z := ((5, sg_nm σ), .inr (ciN, [.null, .int 0, .int 0, .int 0, .int 0, .int 0, .int 0, .int 0, .null]))) hw hq0) hq1
    have k1 : kx_ M (mw_up (mw_up M q ((5, sg_nm σ), .inr (ciN, [.null, .int 0, .int 0, .int 0, .int 0, .int 0, .int 0, .int 0, .null]))) q ((5, sg_nm σ), xn_e (ca c) 0 n 0 st fn r (-1) .null)) := kx_tr (kx_nw hq0) (kx_up hq1 (by simp))
    refine lv_dup hx hb dX_field_24 rfl ?_
    refine lv_aload hx hb dX_field_25 (lv_at hl 0 rfl) ?_
    refine lv_iconst (v := 0) hx hb dX_field_27 (by decide) ?_
    refine lv_iload_n hx hb dX_field_28 rfl (lv_at hl 3 rfl) ?_
    refine lv_iconst (v := 0) hx hb dX_field_29 (by decide) ?_
    refine lv_iload_n hx hb dX_field_30 rfl (lv_at hl 4 rfl) ?_
    refine lv_iload hx hb dX_field_31 (lv_at hl 5 rfl) ?_
    refine lv_iload hx hb dX_field_33 (lv_at hl 6 rfl) ?_
    refine mw_Ip (As := [.ref (ca c), .int 0, .int n, .int 0, .int (mb_i st), .int (mb_i fn), .int r]) (rest := [.ref q, .ref (ca c), .ref x]) F (c_N_init hq1 0 n 0 st fn r) kb_N_init rfl ki_N_init kl_X_50 hM rfl hl.1 rfl (Nat.le_of_ble_eq_true rfl) dX_field_35 ⟨⟨Nat.le_of_ble_eq_true rfl, Nat.le_of_ble_eq_true rfl⟩, Nat.le_of_ble_eq_true rfl, Nat.le_of_ble_eq_true rfl⟩ ⟨rfl, rfl⟩ (fun H locs hM => ?_)
    have hxa : mw_up (mw_up M q ((5, sg_nm σ), .inr (ciN, [.null, .int 0, .int 0, .int 0, .int 0, .int 0, .int 0, .int 0, .null]))) q ((5, sg_nm σ), xn_e (ca c) 0 n 0 st fn r (-1) .null) q = some ((5, sg_nm σ), xn_e (ca c) 0 n 0 st fn r (-1) .null) := mw_at
    generalize mw_up (mw_up M q ((5, sg_nm σ), .inr (ciN, [.null, .int 0, .int 0, .int 0, .int 0, .int 0, .int 0, .int 0, .null]))) q ((5, sg_nm σ), xn_e (ca c) 0 n 0 st fn r (-1) .null) = M1 at hM hw1 k1 hxa
    refine mw_Vg (As := [.ref (ca c), .ref q]) (rest := []) F (c_X_add hw1 lh1 (Or.inl ⟨rfl, rfl⟩) hxa) kb_X_add ki_X_add ks_X_add kl_X_53 hM (xw_x hw1) rfl rfl hl.1 rfl (Nat.le_of_ble_eq_true rfl) dX_field_38 ⟨⟨Nat.le_of_ble_eq_true rfl, Nat.le_of_ble_eq_true rfl⟩, Nat.le_of_ble_eq_true rfl, Nat.le_of_ble_eq_true rfl⟩ (fun M2 H locs hp hM => ?_)
    obtain ⟨⟨ca2, ma2, lp2, hw2⟩, k2⟩ := hp
    by_cases h9 : sg_nr σ c 0 n 0 st r = 0
    · rw [if_pos h9] at hsp hw2
      rw [h9] at hw2
      exact mr_i F hr hM (⟨by rw [hsp, if_pos h9], ⟨ca2, ma2, lp2, by rw [hsp]; exact hw2⟩, kx_tr k1 k2⟩) dX_field_41 ⟨Nat.le_of_ble_eq_true rfl, Nat.le_of_ble_eq_true rfl⟩
    · rw [if_neg h9] at hsp hw2
      exact mr_i F hr hM (⟨by rw [hsp, if_neg h9], ⟨ca2, ma2, lp2, by rw [hsp]; exact hw2⟩, kx_tr k1 k2⟩) dX_field_41 ⟨Nat.le_of_ble_eq_true rfl, Nat.le_of_ble_eq_true rfl⟩
set_option maxHeartbeats 4000000 in
set_option maxRecDepth 100000 in
theorem c_X_method (hw : xw_ G M x qc qm ql ca ma σ rf lp) (o n t r : Int32) (st fn : Bool) : mw_C l G yX_method bX_method 8 (some .int) { frames := 6, cells := 1, slots := 9, locals := 240 } M [.ref x, .int o, .int n, .int t, .int (mb_i st), .int (mb_i fn), .int r] (px_ G x qc qm ql (some (.int (sp_ad σ o 1 n t st fn r).1)) (sp_ad σ o 1 n t st fn r).2.2 (sp_ad σ o 1 n t st fn r).2.1 M) := by
  refine mw_of (by decide) (Nat.le_of_ble_eq_true rfl) ?_
  intro pg en s mi below meth cd F hr _ hM ls hl
  obtain ⟨hx, hb, -⟩ := id F
  have hl : lv_has ls 8 [(0, .ref x), (1, .int o), (2, .int n), (3, .int t), (4, .int (mb_i st)), (5, .int (mb_i fn)), (6, .int r)] := hl
  refine lv_aload_n hx hb dX_method_0 rfl (lv_at hl 0 rfl) ?_
  refine lv_iload_n hx hb dX_method_1 rfl (lv_at hl 1 rfl) ?_
  refine mw_Vp (As := [.int o]) (rest := []) F (c_X_classAt hw o) kb_X_classAt ki_X_classAt ks_X_classAt kl_X_35 hM (xw_x hw) rfl rfl hl.1 rfl (Nat.le_of_ble_eq_true rfl) dX_method_2 ⟨⟨Nat.le_of_ble_eq_true rfl, Nat.le_of_ble_eq_true rfl⟩, Nat.le_of_ble_eq_true rfl, Nat.le_of_ble_eq_true rfl⟩ ⟨rfl, rfl⟩ (fun H locs hM => ?_)
  rcases h1 : ix_o o (sg_nc σ) with _ | c
  · refine lv_astoreN (lv' := [(7, .null), (0, .ref x), (1, .int o), (2, .int n), (3, .int t), (4, .int (mb_i st)), (5, .int (mb_i fn)), (6, .int r)]) hx hb dX_method_5 hl (by decide) rfl (fun ls hl => ?_)
    refine lv_aloadN hx hb dX_method_7 (lv_at hl 0 rfl) ?_
    refine lv_ifnonnullN hx hb dX_method_9 ?_
    refine lv_aload_n hx hb dX_method_12 rfl (lv_at hl 1 rfl) ?_
    refine lv_iconst (v := 1) hx hb dX_method_13 (by decide) ?_
    refine mw_Vp (As := [.int 1]) (rest := []) F (c_X_refuse hw 1) kb_X_refuse ki_X_refuse ks_X_refuse kl_X_46 hM (xw_x hw) rfl rfl hl.1 rfl (Nat.le_of_ble_eq_true rfl) dX_method_14 ⟨⟨Nat.le_of_ble_eq_true rfl, Nat.le_of_ble_eq_true rfl⟩, Nat.le_of_ble_eq_true rfl, Nat.le_of_ble_eq_true rfl⟩ ⟨rfl, rfl⟩ (fun H locs hM => ?_)
    have hsp : sp_ad σ o 1 n t st fn r = (-1, 1, σ) := by unfold sp_ad; rw [h1]
    exact mr_i F hr hM (⟨by rw [hsp], ⟨ca, ma, lp, by rw [hsp]; exact xw_rf hw 1⟩, kx_up (xw_x hw) (by decide)⟩) dX_method_17 ⟨Nat.le_of_ble_eq_true rfl, Nat.le_of_ble_eq_true rfl⟩
  · have lh1 := (ix_some (by have := xw_nc hw; omega) h1).1
    refine lv_astore (lv' := [(7, .ref (ca c)), (0, .ref x), (1, .int o), (2, .int n), (3, .int t), (4, .int (mb_i st)), (5, .int (mb_i fn)), (6, .int r)]) hx hb dX_method_5 hl (by decide) rfl (fun ls hl => ?_)
    refine lv_aload hx hb dX_method_7 (lv_at hl 0 rfl) ?_
    refine lv_ifnonnull (tgt := 18) hx hb dX_method_9 (by decide) ?_
    refine lv_aload_n hx hb dX_method_18 rfl (lv_at hl 1 rfl) ?_
    refine lv_aload hx hb dX_method_19 (lv_at hl 0 rfl) ?_
    have hsp : sp_ad σ o 1 n t st fn r = if sg_nr σ c 1 n t st r = 0 then (nI (sg_nm σ), 0, sg_ad σ c 1 n t st fn r) else (-1, sg_nr σ c 1 n t st r, σ) := by unfold sp_ad; rw [h1]
    refine mw_new (ci := ciN) F (5, sg_nm σ) iN tN tN_ok rfl (fs := [.null, .int 0, .int 0, .int 0, .int 0, .int 0, .int 0, .int 0, .null]) kc_X_15 kj_N kn_N (fun j hj => by rcases (show j = 0 ∨ j = 1 ∨ j = 2 ∨ j = 3 ∨ j = 4 ∨ j = 5 ∨ j = 6 ∨ j = 7 ∨ j = 8 by omega) with rfl | rfl | rfl | rfl | rfl | rfl | rfl | rfl | rfl <;> rfl) hM ⟨Nat.le_of_ble_eq_true rfl, Nat.le_of_ble_eq_true rfl⟩ dX_method_21 (fun q H hq0 hM => ?_)
    have hq1 : mw_up M q ((5, sg_nm σ), .inr (ciN, [.null, .int 0, .int 0, .int 0, .int 0, .int 0, .int 0, .int 0, .null])) q = some ((5, sg_nm σ), .inr (ciN, [.null, .int 0, .int 0, .int 0, .int 0, .int 0, .int 0, .int 0, .null])) := mw_at
    have hw1 := xw_set5 (e1 := xn_e (ca c) 1 n t st fn r (-1) .null) (xw_old (z := ((5, sg_nm σ), .inr (ciN, [.null, .int 0, .int 0, .int 0, .int 0, .int 0, .int 0, .int 0, .null]))) hw hq0) hq1
    have k1 : kx_ M (mw_up (mw_up M q ((5, sg_nm σ), .inr (ciN, [.null, .int 0, .int 0, .int 0, .int 0, .int 0, .int 0, .int 0, .null]))) q ((5, sg_nm σ), xn_e (ca c) 1 n t st fn r (-1) .null)) := kx_tr (kx_nw hq0) (kx_up hq1 (by simp))
    refine lv_dup hx hb dX_method_24 rfl ?_
    refine lv_aload hx hb dX_method_25 (lv_at hl 0 rfl) ?_
    refine lv_iconst (v := 1) hx hb dX_method_27 (by decide) ?_
    refine lv_iload_n hx hb dX_method_28 rfl (lv_at hl 3 rfl) ?_
    refine lv_iload_n hx hb dX_method_29 rfl (lv_at hl 4 rfl) ?_
    refine lv_iload hx hb dX_method_30 (lv_at hl 5 rfl) ?_
    refine lv_iload hx hb dX_method_32 (lv_at hl 6 rfl) ?_
    refine lv_iload hx hb dX_method_34 (lv_at hl 7 rfl) ?_
    refine mw_Ip (As := [.ref (ca c), .int 1, .int n, .int t, .int (mb_i st), .int (mb_i fn), .int r]) (rest := [.ref q, .ref (ca c), .ref x]) F (c_N_init hq1 1 n t st fn r) kb_N_init rfl ki_N_init kl_X_50 hM rfl hl.1 rfl (Nat.le_of_ble_eq_true rfl) dX_method_36 ⟨⟨Nat.le_of_ble_eq_true rfl, Nat.le_of_ble_eq_true rfl⟩, Nat.le_of_ble_eq_true rfl, Nat.le_of_ble_eq_true rfl⟩ ⟨rfl, rfl⟩ (fun H locs hM => ?_)
    have hxa : mw_up (mw_up M q ((5, sg_nm σ), .inr (ciN, [.null, .int 0, .int 0, .int 0, .int 0, .int 0, .int 0, .int 0, .null]))) q ((5, sg_nm σ), xn_e (ca c) 1 n t st fn r (-1) .null) q = some ((5, sg_nm σ), xn_e (ca c) 1 n t st fn r (-1) .null) := mw_at
    generalize mw_up (mw_up M q ((5, sg_nm σ), .inr (ciN, [.null, .int 0, .int 0, .int 0, .int 0, .int 0, .int 0, .int 0, .null]))) q ((5, sg_nm σ), xn_e (ca c) 1 n t st fn r (-1) .null) = M1 at hM hw1 k1 hxa
    refine mw_Vg (As := [.ref (ca c), .ref q]) (rest := []) F (c_X_add hw1 lh1 (Or.inr (Or.inl rfl)) hxa) kb_X_add ki_X_add ks_X_add kl_X_53 hM (xw_x hw1) rfl rfl hl.1 rfl (Nat.le_of_ble_eq_true rfl) dX_method_39 ⟨⟨Nat.le_of_ble_eq_true rfl, Nat.le_of_ble_eq_true rfl⟩, Nat.le_of_ble_eq_true rfl, Nat.le_of_ble_eq_true rfl⟩ (fun M2 H locs hp hM => ?_)
    obtain ⟨⟨ca2, ma2, lp2, hw2⟩, k2⟩ := hp
    by_cases h9 : sg_nr σ c 1 n t st r = 0
    · rw [if_pos h9] at hsp hw2
      rw [h9] at hw2
      exact mr_i F hr hM (⟨by rw [hsp, if_pos h9], ⟨ca2, ma2, lp2, by rw [hsp]; exact hw2⟩, kx_tr k1 k2⟩) dX_method_42 ⟨Nat.le_of_ble_eq_true rfl, Nat.le_of_ble_eq_true rfl⟩
    · rw [if_neg h9] at hsp hw2
      exact mr_i F hr hM (⟨by rw [hsp, if_neg h9], ⟨ca2, ma2, lp2, by rw [hsp]; exact hw2⟩, kx_tr k1 k2⟩) dX_method_42 ⟨Nat.le_of_ble_eq_true rfl, Nat.le_of_ble_eq_true rfl⟩
set_option maxHeartbeats 4000000 in
set_option maxRecDepth 100000 in
theorem c_X_maker (hw : xw_ G M x qc qm ql ca ma σ rf lp) (o t r : Int32) : mw_C l G yX_maker bX_maker 5 (some .int) { frames := 6, cells := 1, slots := 9, locals := 240 } M [.ref x, .int o, .int t, .int r] (px_ G x qc qm ql (some (.int (sp_ad σ o 2 0 t false false r).1)) (sp_ad σ o 2 0 t false false r).2.2 (sp_ad σ o 2 0 t false false r).2.1 M) := by
  refine mw_of (by decide) (Nat.le_of_ble_eq_true rfl) ?_
  intro pg en s mi below meth cd F hr _ hM ls hl
  obtain ⟨hx, hb, -⟩ := id F
  have hl : lv_has ls 5 [(0, .ref x), (1, .int o), (2, .int t), (3, .int r)] := hl
  refine lv_aload_n hx hb dX_maker_0 rfl (lv_at hl 0 rfl) ?_
  refine lv_iload_n hx hb dX_maker_1 rfl (lv_at hl 1 rfl) ?_
  refine mw_Vp (As := [.int o]) (rest := []) F (c_X_classAt hw o) kb_X_classAt ki_X_classAt ks_X_classAt kl_X_35 hM (xw_x hw) rfl rfl hl.1 rfl (Nat.le_of_ble_eq_true rfl) dX_maker_2 ⟨⟨Nat.le_of_ble_eq_true rfl, Nat.le_of_ble_eq_true rfl⟩, Nat.le_of_ble_eq_true rfl, Nat.le_of_ble_eq_true rfl⟩ ⟨rfl, rfl⟩ (fun H locs hM => ?_)
  rcases h1 : ix_o o (sg_nc σ) with _ | c
  · refine lv_astoreN (lv' := [(4, .null), (0, .ref x), (1, .int o), (2, .int t), (3, .int r)]) hx hb dX_maker_5 hl (by decide) rfl (fun ls hl => ?_)
    refine lv_aloadN hx hb dX_maker_7 (lv_at hl 0 rfl) ?_
    refine lv_ifnonnullN hx hb dX_maker_9 ?_
    refine lv_aload_n hx hb dX_maker_12 rfl (lv_at hl 1 rfl) ?_
    refine lv_iconst (v := 1) hx hb dX_maker_13 (by decide) ?_
    refine mw_Vp (As := [.int 1]) (rest := []) F (c_X_refuse hw 1) kb_X_refuse ki_X_refuse ks_X_refuse kl_X_46 hM (xw_x hw) rfl rfl hl.1 rfl (Nat.le_of_ble_eq_true rfl) dX_maker_14 ⟨⟨Nat.le_of_ble_eq_true rfl, Nat.le_of_ble_eq_true rfl⟩, Nat.le_of_ble_eq_true rfl, Nat.le_of_ble_eq_true rfl⟩ ⟨rfl, rfl⟩ (fun H locs hM => ?_)
    have hsp : sp_ad σ o 2 0 t false false r = (-1, 1, σ) := by unfold sp_ad; rw [h1]
    exact mr_i F hr hM (⟨by rw [hsp], ⟨ca, ma, lp, by rw [hsp]; exact xw_rf hw 1⟩, kx_up (xw_x hw) (by decide)⟩) dX_maker_17 ⟨Nat.le_of_ble_eq_true rfl, Nat.le_of_ble_eq_true rfl⟩
  · have lh1 := (ix_some (by have := xw_nc hw; omega) h1).1
    refine lv_astore (lv' := [(4, .ref (ca c)), (0, .ref x), (1, .int o), (2, .int t), (3, .int r)]) hx hb dX_maker_5 hl (by decide) rfl (fun ls hl => ?_)
    refine lv_aload hx hb dX_maker_7 (lv_at hl 0 rfl) ?_
    refine lv_ifnonnull (tgt := 18) hx hb dX_maker_9 (by decide) ?_
    refine lv_aload_n hx hb dX_maker_18 rfl (lv_at hl 1 rfl) ?_
    refine lv_aload hx hb dX_maker_19 (lv_at hl 0 rfl) ?_
    have hsp : sp_ad σ o 2 0 t false false r = if sg_nr σ c 2 0 t false r = 0 then (nI (sg_nm σ), 0, sg_ad σ c 2 0 t false false r) else (-1, sg_nr σ c 2 0 t false r, σ) := by unfold sp_ad; rw [h1]
    refine mw_new (ci := ciN) F (5, sg_nm σ) iN tN tN_ok rfl (fs := [.null, .int 0, .int 0, .int 0, .int 0, .int 0, .int 0, .int 0, .null]) kc_X_15 kj_N kn_N (fun j hj => by rcases (show j = 0 ∨ j = 1 ∨ j = 2 ∨ j = 3 ∨ j = 4 ∨ j = 5 ∨ j = 6 ∨ j = 7 ∨ j = 8 by omega) with rfl | rfl | rfl | rfl | rfl | rfl | rfl | rfl | rfl <;> rfl) hM ⟨Nat.le_of_ble_eq_true rfl, Nat.le_of_ble_eq_true rfl⟩ dX_maker_21 (fun q H hq0 hM => ?_)
    have hq1 : mw_up M q ((5, sg_nm σ), .inr (ciN, [.null, .int 0, .int 0, .int 0, .int 0, .int 0, .int 0, .int 0, .null])) q = some ((5, sg_nm σ), .inr (ciN, [.null, .int 0, .int 0, .int 0, .int 0, .int 0, .int 0, .int 0, .null])) := mw_at
    have hw1 := xw_set5 (e1 := xn_e (ca c) 2 0 t false false r (-1) .null) (xw_old (z := ((5, sg_nm σ), .inr (ciN, [.null, .int 0, .int 0, .int 0, .int 0, .int 0, .int 0, .int 0, .null]))) hw hq0) hq1
    have k1 : kx_ M (mw_up (mw_up M q ((5, sg_nm σ), .inr (ciN, [.null, .int 0, .int 0, .int 0, .int 0, .int 0, .int 0, .int 0, .null]))) q ((5, sg_nm σ), xn_e (ca c) 2 0 t false false r (-1) .null)) := kx_tr (kx_nw hq0) (kx_up hq1 (by simp))
    refine lv_dup hx hb dX_maker_24 rfl ?_
    refine lv_aload hx hb dX_maker_25 (lv_at hl 0 rfl) ?_
    refine lv_iconst (v := 2) hx hb dX_maker_27 (by decide) ?_
    refine lv_iconst (v := 0) hx hb dX_maker_28 (by decide) ?_
    refine lv_iload_n hx hb dX_maker_29 rfl (lv_at hl 3 rfl) ?_
    refine lv_iconst (v := 0) hx hb dX_maker_30 (by decide) ?_
    refine lv_iconst (v := 0) hx hb dX_maker_31 (by decide) ?_
    refine lv_iload_n hx hb dX_maker_32 rfl (lv_at hl 4 rfl) ?_
    refine mw_Ip (As := [.ref (ca c), .int 2, .int 0, .int t, .int 0, .int 0, .int r]) (rest := [.ref q, .ref (ca c), .ref x]) F (c_N_init hq1 2 0 t false false r) kb_N_init rfl ki_N_init kl_X_50 hM rfl hl.1 rfl (Nat.le_of_ble_eq_true rfl) dX_maker_33 ⟨⟨Nat.le_of_ble_eq_true rfl, Nat.le_of_ble_eq_true rfl⟩, Nat.le_of_ble_eq_true rfl, Nat.le_of_ble_eq_true rfl⟩ ⟨rfl, rfl⟩ (fun H locs hM => ?_)
    have hxa : mw_up (mw_up M q ((5, sg_nm σ), .inr (ciN, [.null, .int 0, .int 0, .int 0, .int 0, .int 0, .int 0, .int 0, .null]))) q ((5, sg_nm σ), xn_e (ca c) 2 0 t false false r (-1) .null) q = some ((5, sg_nm σ), xn_e (ca c) 2 0 t false false r (-1) .null) := mw_at
    generalize mw_up (mw_up M q ((5, sg_nm σ), .inr (ciN, [.null, .int 0, .int 0, .int 0, .int 0, .int 0, .int 0, .int 0, .null]))) q ((5, sg_nm σ), xn_e (ca c) 2 0 t false false r (-1) .null) = M1 at hM hw1 k1 hxa
    refine mw_Vg (As := [.ref (ca c), .ref q]) (rest := []) F (c_X_add hw1 lh1 (Or.inr (Or.inr ⟨rfl, rfl⟩)) hxa) kb_X_add ki_X_add ks_X_add kl_X_53 hM (xw_x hw1) rfl rfl hl.1 rfl (Nat.le_of_ble_eq_true rfl) dX_maker_36 ⟨⟨Nat.le_of_ble_eq_true rfl, Nat.le_of_ble_eq_true rfl⟩, Nat.le_of_ble_eq_true rfl, Nat.le_of_ble_eq_true rfl⟩ (fun M2 H locs hp hM => ?_)
    obtain ⟨⟨ca2, ma2, lp2, hw2⟩, k2⟩ := hp
    by_cases h9 : sg_nr σ c 2 0 t false r = 0
    · rw [if_pos h9] at hsp hw2
      rw [h9] at hw2
      exact mr_i F hr hM (⟨by rw [hsp, if_pos h9], ⟨ca2, ma2, lp2, by rw [hsp]; exact hw2⟩, kx_tr k1 k2⟩) dX_maker_39 ⟨Nat.le_of_ble_eq_true rfl, Nat.le_of_ble_eq_true rfl⟩
    · rw [if_neg h9] at hsp hw2
      exact mr_i F hr hM (⟨by rw [hsp, if_neg h9], ⟨ca2, ma2, lp2, by rw [hsp]; exact hw2⟩, kx_tr k1 k2⟩) dX_maker_39 ⟨Nat.le_of_ble_eq_true rfl, Nat.le_of_ble_eq_true rfl⟩
end GC
