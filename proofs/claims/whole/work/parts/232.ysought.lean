section GC
variable {l : Launch} {G : mw_G} {M : mw_M} {y : Nat} {q : Nat → Nat} {σ : sg_T} {rf : Int32} {f : Nat → Nat → Int32} {ch : Nat → Int32} {lk : Int32} {ov : Nat → Int32}
set_option maxHeartbeats 4000000 in
set_option maxRecDepth 100000 in
theorem c_Y_isSought (hw : yw_ G M y q σ rf f ch lk ov) {j : Nat} (hj : j < sg_nm σ) (n t w : Int32) : mw_C l G yY_isSought bY_isSought 5 (some .boolean) { frames := 0, cells := 0, slots := 0, locals := 0 } M [.ref y, .int (nI j), .int n, .int t, .int w] (mp_ (some (.int (mb_i (is_s σ n t w j)))) M) := by
  refine mw_of (by decide) (Nat.le_of_ble_eq_true rfl) ?_
  intro pg en s mi below meth cd F hr _ hM ls hl
  obtain ⟨hx, hb, -⟩ := id F
  have hl : lv_has ls 5 [(0, .ref y), (1, .int (nI j)), (2, .int n), (3, .int t), (4, .int w)] := hl
  have hnc := yw_nc hw
  have hnm := yw_nm hw
  refine lv_iload hx hb dY_isSought_0 (lv_at hl 4 rfl) ?_
  refine lv_iconst (v := 3) hx hb dY_isSought_2 (by decide) ?_
  refine lv_icmp_ne (tgt := 32) hx hb dY_isSought_3 (by decide) (fun h1 => ?_) (fun h1 => ?_)
  · have hs : is_s σ n t w j = (decide (sg_mn σ j = n) && (if w ≤ 3 then decide (sg_kd σ j = 1) && (decide (sg_ty σ j = t) && decide (sg_fx σ j = decide (w = 0))) else decide (sg_kd σ j = 0))) := by unfold is_s; rw [if_neg h1]
    refine lv_aload_n hx hb dY_isSought_32 rfl (lv_at hl 0 rfl) ?_
    refine gf_Y_19 F hM (yw_y hw) rfl dY_isSought_33 ?_
    refine lv_iload_n hx hb dY_isSought_36 rfl (lv_at hl 1 rfl) ?_
    refine mw_ild F hM (yw_3 hw) (vp_in_nI (by omega) (by omega)) dY_isSought_37 ?_
    refine mv_i (y := (sg_mn σ j)) (by rw [nI_clamp (by omega)]; exact yv_3 hw hj) ?_
    refine lv_iload_n hx hb dY_isSought_38 rfl (lv_at hl 2 rfl) ?_
    refine lv_icmp_eq (tgt := 44) hx hb dY_isSought_39 (by decide) (fun h2 => ?_) (fun h2 => ?_)
    · rw [decide_eq_true h2, Bool.true_and] at hs
      refine lv_iload hx hb dY_isSought_44 (lv_at hl 4 rfl) ?_
      refine lv_iconst (v := 3) hx hb dY_isSought_46 (by decide) ?_
      refine lv_icmp_le (tgt := 65) hx hb dY_isSought_47 (by decide) (fun h3 => ?_) (fun h3 => ?_)
      · rw [if_pos h3] at hs
        refine lv_aload_n hx hb dY_isSought_65 rfl (lv_at hl 0 rfl) ?_
        refine gf_Y_25 F hM (yw_y hw) rfl dY_isSought_66 ?_
        refine lv_iload_n hx hb dY_isSought_69 rfl (lv_at hl 1 rfl) ?_
        refine mw_ild F hM (yw_5 hw) (vp_in_nI (by omega) (by omega)) dY_isSought_70 ?_
        refine mv_i (y := (sg_kd σ j)) (by rw [nI_clamp (by omega)]; exact yv_5 hw hj) ?_
        refine lv_iconst (v := 1) hx hb dY_isSought_71 (by decide) ?_
        refine lv_icmp_ne (tgt := 108) hx hb dY_isSought_72 (by decide) (fun h4 => ?_) (fun h4 => ?_)
        · refine lv_iconst (v := 0) hx hb dY_isSought_108 (by decide) ?_
          exact mr_z (v := false) F hr hM (⟨by rw [hs, decide_eq_false h4]; rfl, rfl⟩) dY_isSought_109 ⟨Nat.le_of_ble_eq_true rfl, Nat.le_of_ble_eq_true rfl⟩
        · refine lv_aload_n hx hb dY_isSought_75 rfl (lv_at hl 0 rfl) ?_
          refine gf_Y_28 F hM (yw_y hw) rfl dY_isSought_76 ?_
          refine lv_iload_n hx hb dY_isSought_79 rfl (lv_at hl 1 rfl) ?_
          refine mw_ild F hM (yw_6 hw) (vp_in_nI (by omega) (by omega)) dY_isSought_80 ?_
          refine mv_i (y := (sg_ty σ j)) (by rw [nI_clamp (by omega)]; exact yv_6 hw hj) ?_
          refine lv_iload_n hx hb dY_isSought_81 rfl (lv_at hl 3 rfl) ?_
          refine lv_icmp_ne (tgt := 108) hx hb dY_isSought_82 (by decide) (fun h5 => ?_) (fun h5 => ?_)
          · refine lv_iconst (v := 0) hx hb dY_isSought_108 (by decide) ?_
            exact mr_z (v := false) F hr hM (⟨by rw [hs, decide_eq_false h5]; simp, rfl⟩) dY_isSought_109 ⟨Nat.le_of_ble_eq_true rfl, Nat.le_of_ble_eq_true rfl⟩
          · rw [decide_eq_true h4, decide_eq_true h5, Bool.true_and, Bool.true_and] at hs
            refine lv_aload_n hx hb dY_isSought_85 rfl (lv_at hl 0 rfl) ?_
            refine gf_Y_31 F hM (yw_y hw) rfl dY_isSought_86 ?_
            refine lv_iload_n hx hb dY_isSought_89 rfl (lv_at hl 1 rfl) ?_
            refine mw_zld F hM (yw_7 hw) (vp_in_nI (by omega) (by omega)) dY_isSought_90 ?_
            refine mv_i (y := (mb_i (sg_fx σ j))) (by rw [nI_clamp (by omega)]; exact yv_7 hw hj) ?_
            refine lv_iload hx hb dY_isSought_91 (lv_at hl 4 rfl) ?_
            refine lv_if_ne (tgt := 100) hx hb dY_isSought_93 (by decide) (fun h6 => ?_) (fun h6 => ?_)
            · refine lv_iconst (v := 0) hx hb dY_isSought_100 (by decide) ?_
              refine lv_icmp_ne (tgt := 108) hx hb dY_isSought_101 (by decide) (fun h7 => ?_) (fun h7 => ?_)
              · refine lv_iconst (v := 0) hx hb dY_isSought_108 (by decide) ?_
                exact mr_z (v := false) F hr hM (⟨by rw [hs, mb_n h7]; simp [h6], rfl⟩) dY_isSought_109 ⟨Nat.le_of_ble_eq_true rfl, Nat.le_of_ble_eq_true rfl⟩
              · refine lv_iconst (v := 1) hx hb dY_isSought_104 (by decide) ?_
                refine lv_goto (tgt := 109) hx hb dY_isSought_105 (by decide) ?_
                exact mr_z (v := true) F hr hM (⟨by rw [hs, mb_z h7]; simp [h6], rfl⟩) dY_isSought_109 ⟨Nat.le_of_ble_eq_true rfl, Nat.le_of_ble_eq_true rfl⟩
            · refine lv_iconst (v := 1) hx hb dY_isSought_96 (by decide) ?_
              refine lv_goto (tgt := 101) hx hb dY_isSought_97 (by decide) ?_
              refine lv_icmp_ne (tgt := 108) hx hb dY_isSought_101 (by decide) (fun h7 => ?_) (fun h7 => ?_)
              · refine lv_iconst (v := 0) hx hb dY_isSought_108 (by decide) ?_
                exact mr_z (v := false) F hr hM (⟨by rw [hs, decide_eq_false (fun z => h7 (by rw [z, h6]; rfl))], rfl⟩) dY_isSought_109 ⟨Nat.le_of_ble_eq_true rfl, Nat.le_of_ble_eq_true rfl⟩
              · refine lv_iconst (v := 1) hx hb dY_isSought_104 (by decide) ?_
                refine lv_goto (tgt := 109) hx hb dY_isSought_105 (by decide) ?_
                exact mr_z (v := true) F hr hM (⟨by rw [hs, decide_eq_true (by rw [h6]; exact mb_inj.mp h7)], rfl⟩) dY_isSought_109 ⟨Nat.le_of_ble_eq_true rfl, Nat.le_of_ble_eq_true rfl⟩
      · rw [if_neg h3] at hs
        refine lv_aload_n hx hb dY_isSought_50 rfl (lv_at hl 0 rfl) ?_
        refine gf_Y_25 F hM (yw_y hw) rfl dY_isSought_51 ?_
        refine lv_iload_n hx hb dY_isSought_54 rfl (lv_at hl 1 rfl) ?_
        refine mw_ild F hM (yw_5 hw) (vp_in_nI (by omega) (by omega)) dY_isSought_55 ?_
        refine mv_i (y := (sg_kd σ j)) (by rw [nI_clamp (by omega)]; exact yv_5 hw hj) ?_
        refine lv_if_ne (tgt := 63) hx hb dY_isSought_56 (by decide) (fun h4 => ?_) (fun h4 => ?_)
        · refine lv_iconst (v := 0) hx hb dY_isSought_63 (by decide) ?_
          exact mr_z (v := false) F hr hM (⟨by rw [hs, decide_eq_false h4], rfl⟩) dY_isSought_64 ⟨Nat.le_of_ble_eq_true rfl, Nat.le_of_ble_eq_true rfl⟩
        · refine lv_iconst (v := 1) hx hb dY_isSought_59 (by decide) ?_
          refine lv_goto (tgt := 64) hx hb dY_isSought_60 (by decide) ?_
          exact mr_z (v := true) F hr hM (⟨by rw [hs, decide_eq_true h4], rfl⟩) dY_isSought_64 ⟨Nat.le_of_ble_eq_true rfl, Nat.le_of_ble_eq_true rfl⟩
    · refine lv_iconst (v := 0) hx hb dY_isSought_42 (by decide) ?_
      exact mr_z (v := false) F hr hM (⟨by rw [hs, decide_eq_false h2]; rfl, rfl⟩) dY_isSought_43 ⟨Nat.le_of_ble_eq_true rfl, Nat.le_of_ble_eq_true rfl⟩
  · have hs : is_s σ n t w j = (decide (sg_kd σ j = 2) && decide (sg_ty σ j = t)) := by unfold is_s; rw [if_pos h1]
    refine lv_aload_n hx hb dY_isSought_6 rfl (lv_at hl 0 rfl) ?_
    refine gf_Y_25 F hM (yw_y hw) rfl dY_isSought_7 ?_
    refine lv_iload_n hx hb dY_isSought_10 rfl (lv_at hl 1 rfl) ?_
    refine mw_ild F hM (yw_5 hw) (vp_in_nI (by omega) (by omega)) dY_isSought_11 ?_
    refine mv_i (y := (sg_kd σ j)) (by rw [nI_clamp (by omega)]; exact yv_5 hw hj) ?_
    refine lv_iconst (v := 2) hx hb dY_isSought_12 (by decide) ?_
    refine lv_icmp_ne (tgt := 30) hx hb dY_isSought_13 (by decide) (fun h2 => ?_) (fun h2 => ?_)
    · refine lv_iconst (v := 0) hx hb dY_isSought_30 (by decide) ?_
      exact mr_z (v := false) F hr hM (⟨by rw [hs, decide_eq_false h2]; rfl, rfl⟩) dY_isSought_31 ⟨Nat.le_of_ble_eq_true rfl, Nat.le_of_ble_eq_true rfl⟩
    · refine lv_aload_n hx hb dY_isSought_16 rfl (lv_at hl 0 rfl) ?_
      refine gf_Y_28 F hM (yw_y hw) rfl dY_isSought_17 ?_
      refine lv_iload_n hx hb dY_isSought_20 rfl (lv_at hl 1 rfl) ?_
      refine mw_ild F hM (yw_6 hw) (vp_in_nI (by omega) (by omega)) dY_isSought_21 ?_
      refine mv_i (y := (sg_ty σ j)) (by rw [nI_clamp (by omega)]; exact yv_6 hw hj) ?_
      refine lv_iload_n hx hb dY_isSought_22 rfl (lv_at hl 3 rfl) ?_
      refine lv_icmp_ne (tgt := 30) hx hb dY_isSought_23 (by decide) (fun h3 => ?_) (fun h3 => ?_)
      · refine lv_iconst (v := 0) hx hb dY_isSought_30 (by decide) ?_
        exact mr_z (v := false) F hr hM (⟨by rw [hs, decide_eq_false h3]; simp, rfl⟩) dY_isSought_31 ⟨Nat.le_of_ble_eq_true rfl, Nat.le_of_ble_eq_true rfl⟩
      · refine lv_iconst (v := 1) hx hb dY_isSought_26 (by decide) ?_
        refine lv_goto (tgt := 31) hx hb dY_isSought_27 (by decide) ?_
        exact mr_z (v := true) F hr hM (⟨by rw [hs, decide_eq_true h2, decide_eq_true h3]; rfl, rfl⟩) dY_isSought_31 ⟨Nat.le_of_ble_eq_true rfl, Nat.le_of_ble_eq_true rfl⟩
set_option maxHeartbeats 4000000 in
set_option maxRecDepth 100000 in
theorem c_Y_sought (hw : yw_ G M y q σ rf f ch lk ov) {c : Nat} (hc : c < sg_nc σ) (n t w : Int32) : mw_C l G yY_sought bY_sought 7 (some .int) { frames := 1, cells := 0, slots := 0, locals := 40 } M [.ref y, .int (nI c), .int n, .int t, .int w] (mp_ (some (.int (eo_i (sg_fi σ c n t w)))) M) := by
  refine mw_of (by decide) (Nat.le_of_ble_eq_true rfl) ?_
  intro pg en s mi below meth cd F hr _ hM ls hl
  obtain ⟨hx, hb, -⟩ := id F
  have hl : lv_has ls 7 [(0, .ref y), (1, .int (nI c)), (2, .int n), (3, .int t), (4, .int w)] := hl
  have hnc := yw_nc hw
  have hnm := yw_nm hw
  have loop : ∀ (z : Nat) (o : Option Nat) (H : Heap) (locs : List Loc) (ls : Array Slot), (∀ d, o = some d → d < z ∧ d < sg_nc σ) → (∀ d, o = some d → w = 3 → d = c) → sg_fi σ c n t w = (if w = 3 then (match o with | none => none | some d => sg_ow σ d 2 0 t) else fi_l σ n t w (ln_o (sg_pr σ) o)) → mw_S G M s.heap H locs → lv_has ls 7 [(5, .int (eo_i o)), (0, .ref y), (1, .int (nI c)), (2, .int n), (3, .int t), (4, .int w)] → W pg l en { frames := 1, cells := 0, slots := 0, locals := 40 } s mi [.ref y, .int (nI c), .int n, .int t, .int w].toArray below meth cd H locs 0 0 (MQ below (mw_Q G (mp_ (some (.int (eo_i (sg_fi σ c n t w)))) M)) [.ref y, .int (nI c), .int n, .int t, .int w].toArray s 0 0 (mw_A G)) (F0 mi 3 ls []) := by
    intro z
    induction z using Nat.strongRecOn with
    | ind z ihz =>
      intro o H locs ls hd hd3 hq hM hl
      rcases o with _ | d
      · have hl : lv_has ls 7 [(5, .int (-1)), (0, .ref y), (1, .int (nI c)), (2, .int n), (3, .int t), (4, .int w)] := hl
        refine lv_iload hx hb dY_sought_3 (lv_at hl 0 rfl) ?_
        refine lv_iconst (v := (-1)) hx hb dY_sought_5 (by decide) ?_
        refine lv_icmp_eq (tgt := 77) hx hb dY_sought_6 (by decide) (fun h1 => ?_) (fun h1 => absurd rfl h1)
        have hq2 : sg_fi σ c n t w = none := by
          rw [hq]
          by_cases h3 : w = 3
          · rw [if_pos h3]
          · rw [if_neg h3]; rfl
        refine lv_iconst (v := (-1)) hx hb dY_sought_77 (by decide) ?_
        exact mr_i F hr hM (⟨by rw [hq2]; rfl, rfl⟩) dY_sought_78 ⟨Nat.le_of_ble_eq_true rfl, Nat.le_of_ble_eq_true rfl⟩
      · have hl : lv_has ls 7 [(5, .int (nI d)), (0, .ref y), (1, .int (nI c)), (2, .int n), (3, .int t), (4, .int w)] := hl
        obtain ⟨hd1, hd2⟩ := hd d rfl
        have hln : ln_o (sg_pr σ) (some d) = d :: ln_o (sg_pr σ) (sg_pr σ d) := ln_e (fun z hz => yw_pr hw hd2 hz)
        have here : ∀ m, m < sg_nm σ → sg_mc σ m = d → is_s σ n t w m = true → sg_fi σ c n t w = some m := by
          intro m hm hmc hs
          rw [hq]
          by_cases h3 : w = 3
          · rw [if_pos h3]; exact is_3 hw.1 hm hmc h3 hs
          · rw [if_neg h3, hln]
            show (match fi_c σ n t w d with | some m => some m | none => fi_l σ n t w _) = _
            rw [is_fi hw.1 hm hmc h3 hs]
        refine lv_iload hx hb dY_sought_3 (lv_at hl 0 rfl) ?_
        refine lv_iconst (v := (-1)) hx hb dY_sought_5 (by decide) ?_
        refine lv_icmp_eq (tgt := 77) hx hb dY_sought_6 (by decide) (fun h1 => absurd h1 (nI_m1 (by omega))) (fun h1 => ?_)
        have inner : ∀ (u i : Nat) (H : Heap) (locs : List Loc) (ls : Array Slot), sg_nm σ < i + u → i ≤ sg_nm σ → (∀ m, m < i → ¬ (sg_mc σ m = d ∧ is_s σ n t w m = true)) → mw_S G M s.heap H locs → lv_has ls 7 [(6, .int (nI i)), (5, .int (nI d)), (0, .ref y), (1, .int (nI c)), (2, .int n), (3, .int t), (4, .int w)] → W pg l en { frames := 1, cells := 0, slots := 0, locals := 40 } s mi [.ref y, .int (nI c), .int n, .int t, .int w].toArray below meth cd H locs 0 0 (MQ below (mw_Q G (mp_ (some (.int (eo_i (sg_fi σ c n t w)))) M)) [.ref y, .int (nI c), .int n, .int t, .int w].toArray s 0 0 (mw_A G)) (F0 mi 12 ls []) := by
          intro u
          induction u with
          | zero => intro i H locs ls h2 h3; omega
          | succ u ih =>
            intro i H locs ls hu hi hno hM hl
            refine lv_iload hx hb dY_sought_12 (lv_at hl 0 rfl) ?_
            refine lv_aload_n hx hb dY_sought_14 rfl (lv_at hl 2 rfl) ?_
            refine gf_Y_48 F hM (yw_y hw) rfl dY_sought_15 ?_
            refine lv_icmp_ge (tgt := 55) hx hb dY_sought_18 (by decide) (fun h4 => ?_) (fun h4 => ?_)
            · have hik : i = sg_nm σ := by
                have := (nI_leI (by omega) (by omega)).mp h4
                omega
              subst hik
              refine lv_iload hx hb dY_sought_55 (lv_at hl 6 rfl) ?_
              refine lv_iconst (v := 3) hx hb dY_sought_57 (by decide) ?_
              refine lv_icmp_ne (tgt := 65) hx hb dY_sought_58 (by decide) (fun h5 => ?_) (fun h5 => ?_)
              · refine lv_aload_n hx hb dY_sought_65 rfl (lv_at hl 2 rfl) ?_
                refine gf_Y_7 F hM (yw_y hw) rfl dY_sought_66 ?_
                refine lv_iload hx hb dY_sought_69 (lv_at hl 1 rfl) ?_
                refine mw_ild F hM (yw_0 hw) (vp_in_nI (by omega) (by omega)) dY_sought_71 ?_
                refine mv_i (y := (eo_i (sg_pr σ d))) (by rw [nI_clamp (by omega)]; exact yv_0 hw hd2) ?_
                refine lv_istore (lv' := [(5, .int (eo_i (sg_pr σ d))), (6, .int (nI (sg_nm σ))), (0, .ref y), (1, .int (nI c)), (2, .int n), (3, .int t), (4, .int w)]) hx hb dY_sought_72 hl (by decide) rfl (fun ls hl => ?_)
                refine lv_goto (tgt := 3) hx hb dY_sought_74 (by decide) ?_
                exact ihz d hd1 (sg_pr σ d) H locs ls (fun z hz => ⟨yw_pr hw hd2 hz, Nat.lt_trans (yw_pr hw hd2 hz) hd2⟩) (fun _ _ z => absurd z h5) (by
                  rw [hq, if_neg h5, if_neg h5, hln]
                  show (match fi_c σ n t w d with | some m => some m | none => fi_l σ n t w _) = _
                  rw [is_no h5 hno]) hM (lv_sub hl [0, 2, 3, 4, 5, 6] rfl)
              · refine lv_iconst (v := (-1)) hx hb dY_sought_61 (by decide) ?_
                refine lv_goto (tgt := 72) hx hb dY_sought_62 (by decide) ?_
                refine lv_istore (lv' := [(5, .int (-1)), (6, .int (nI (sg_nm σ))), (0, .ref y), (1, .int (nI c)), (2, .int n), (3, .int t), (4, .int w)]) hx hb dY_sought_72 hl (by decide) rfl (fun ls hl => ?_)
                refine lv_goto (tgt := 3) hx hb dY_sought_74 (by decide) ?_
                exact ihz d hd1 none H locs ls (fun z hz => by cases hz) (fun z hz => by cases hz) (by
                  rw [hq, if_pos h5, if_pos h5]
                  exact is_3n h5 hno) hM (lv_sub hl [0, 2, 3, 4, 5, 6] rfl)
            · have hik : i < sg_nm σ := by
                rcases Nat.lt_or_ge i (sg_nm σ) with z | z
                · exact z
                · exact absurd (nI_le z (by omega)) h4
              have hmi := yw_mc hw hik
              have next : ∀ (H : Heap) (locs : List Loc) (ls : Array Slot), ¬ (sg_mc σ i = d ∧ is_s σ n t w i = true) → mw_S G M s.heap H locs → lv_has ls 7 [(6, .int (nI i)), (5, .int (nI d)), (0, .ref y), (1, .int (nI c)), (2, .int n), (3, .int t), (4, .int w)] → W pg l en { frames := 1, cells := 0, slots := 0, locals := 40 } s mi [.ref y, .int (nI c), .int n, .int t, .int w].toArray below meth cd H locs 0 0 (MQ below (mw_Q G (mp_ (some (.int (eo_i (sg_fi σ c n t w)))) M)) [.ref y, .int (nI c), .int n, .int t, .int w].toArray s 0 0 (mw_A G)) (F0 mi 49 ls []) := by
                intro H locs ls hk hM hl
                refine lv_iinc (v := nI (i + 1)) (lv' := [(6, .int (nI (i + 1))), (5, .int (nI d)), (0, .ref y), (1, .int (nI c)), (2, .int n), (3, .int t), (4, .int w)]) hx hb dY_sought_49 hl (k := 0) rfl (ii_1 i) (by decide) rfl (fun ls hl => ?_)
                refine lv_goto (tgt := 12) hx hb dY_sought_52 (by decide) ?_
                exact ih (i + 1) H locs ls (by omega) (by omega) (fun m hm => by
                  by_cases hmi2 : m = i
                  · rw [hmi2]; exact hk
                  · exact hno m (by omega)) hM (lv_sub hl [0, 1, 2, 3, 4, 5, 6] rfl)
              refine lv_aload_n hx hb dY_sought_21 rfl (lv_at hl 2 rfl) ?_
              refine gf_Y_16 F hM (yw_y hw) rfl dY_sought_22 ?_
              refine lv_iload hx hb dY_sought_25 (lv_at hl 0 rfl) ?_
              refine mw_ild F hM (yw_2 hw) (vp_in_nI (by omega) (by omega)) dY_sought_27 ?_
              refine mv_i (y := (nI (sg_mc σ i))) (by rw [nI_clamp (by omega)]; exact yv_2 hw hik) ?_
              refine lv_iload hx hb dY_sought_28 (lv_at hl 1 rfl) ?_
              refine lv_icmp_ne (tgt := 49) hx hb dY_sought_30 (by decide) (fun h5 => ?_) (fun h5 => ?_)
              · exact next H locs ls (fun z => h5 (by rw [z.1])) hM (lv_sub hl [0, 1, 2, 3, 4, 5, 6] rfl)
              · have h5 : sg_mc σ i = d := (nI_eq (by omega) (by omega)).mp h5
                refine lv_aload_n hx hb dY_sought_33 rfl (lv_at hl 2 rfl) ?_
                refine lv_iload hx hb dY_sought_34 (lv_at hl 0 rfl) ?_
                refine lv_iload_n hx hb dY_sought_36 rfl (lv_at hl 4 rfl) ?_
                refine lv_iload_n hx hb dY_sought_37 rfl (lv_at hl 5 rfl) ?_
                refine lv_iload hx hb dY_sought_38 (lv_at hl 6 rfl) ?_
                refine mw_Vp (As := [.int (nI i), .int n, .int t, .int w]) (rest := []) F (c_Y_isSought hw hik n t w) kb_Y_isSought ki_Y_isSought ks_Y_isSought kl_Y_102 hM (yw_y hw) rfl rfl hl.1 rfl (Nat.le_of_ble_eq_true rfl) dY_sought_40 ⟨⟨Nat.le_of_ble_eq_true rfl, Nat.le_of_ble_eq_true rfl⟩, Nat.le_of_ble_eq_true rfl, Nat.le_of_ble_eq_true rfl⟩ ⟨rfl, rfl⟩ (fun H locs hM => ?_)
                refine lv_if_eq (tgt := 49) hx hb dY_sought_43 (by decide) (fun h6 => ?_) (fun h6 => ?_)
                · exact next H locs ls (fun z => by rw [mb_z h6] at z; exact absurd z.2 (by decide)) hM (lv_sub hl [0, 1, 2, 3, 4, 5, 6] rfl)
                · refine lv_iload hx hb dY_sought_46 (lv_at hl 0 rfl) ?_
                  exact mr_i F hr hM (⟨by rw [here i hik h5 (mb_n h6)]; rfl, rfl⟩) dY_sought_48 ⟨Nat.le_of_ble_eq_true rfl, Nat.le_of_ble_eq_true rfl⟩
        refine lv_iconst (v := 0) hx hb dY_sought_9 (by decide) ?_
        refine lv_istore (lv' := [(6, .int 0), (5, .int (nI d)), (0, .ref y), (1, .int (nI c)), (2, .int n), (3, .int t), (4, .int w)]) hx hb dY_sought_10 hl (by decide) rfl (fun ls hl => ?_)
        exact inner (sg_nm σ + 1) 0 _ _ ls (by omega) (Nat.zero_le _) (fun m hm => absurd hm (Nat.not_lt_zero m)) hM (lv_sub hl [0, 1, 2, 3, 4, 5, 6] rfl)
  refine lv_iload_n hx hb dY_sought_0 rfl (lv_at hl 1 rfl) ?_
  refine lv_istore (lv' := [(5, .int (nI c)), (0, .ref y), (1, .int (nI c)), (2, .int n), (3, .int t), (4, .int w)]) hx hb dY_sought_1 hl (by decide) rfl (fun ls hl => ?_)
  exact loop (c + 1) (some c) _ _ ls (fun d hd => by cases hd; exact ⟨Nat.lt_succ_self _, hc⟩) (fun d hd _ => by cases hd; rfl) rfl hM (lv_sub hl [0, 1, 2, 3, 4, 5] rfl)
end GC
