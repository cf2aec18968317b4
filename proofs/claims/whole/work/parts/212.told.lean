section GC
variable {l : Launch} {G : mw_G} {M : mw_M} {x qc qm ql : Nat} {ca ma : Nat → Nat} {σ : sg_T} {rf : Int32} {lp : Nat → Int32}
set_option maxHeartbeats 4000000 in
set_option maxRecDepth 100000 in
theorem c_X_firstAsTold (hw : xw_ G M x qc qm ql ca ma σ rf lp) {j : Nat} (hj : j < sg_nc σ) (n t w : Int32) : mw_C l G yX_firstAsTold bX_firstAsTold 6 (some (.object RN)) { frames := 1, cells := 0, slots := 0, locals := 40 } M [.ref (ca j), .int n, .int t, .int w] (mp_ (some (va_rf ((sg_fi σ j n t w).map ma))) M) := by
  refine mw_of (by decide) (Nat.le_of_ble_eq_true rfl) ?_
  intro pg en s mi below meth cd F hr _ hM ls hl
  obtain ⟨hx, hb, -⟩ := id F
  have hl : lv_has ls 6 [(0, .ref (ca j)), (1, .int n), (2, .int t), (3, .int w)] := hl
  refine lv_iload_n hx hb dX_firstAsTold_0 rfl (lv_at hl 3 rfl) ?_
  refine lv_iconst (v := 3) hx hb dX_firstAsTold_1 (by decide) ?_
  refine lv_icmp_ne (tgt := 13) hx hb dX_firstAsTold_2 (by decide) (fun h3 => ?_) (fun h3 => ?_)
  · have loop : ∀ (u : Nat) (o : Option Nat) (H : Heap) (locs : List Loc) (ls : Array Slot), (∀ d, o = some d → d < u ∧ d < sg_nc σ) → sg_fi σ j n t w = fi_l σ n t w (ln_o (sg_pr σ) o) → mw_S G M s.heap H locs → lv_has ls 6 [(4, va_rf (o.map ca)), (0, .ref (ca j)), (1, .int n), (2, .int t), (3, .int w)] → W pg l en { frames := 1, cells := 0, slots := 0, locals := 40 } s mi [.ref (ca j), .int n, .int t, .int w].toArray below meth cd H locs 0 0 (MQ below (mw_Q G (mp_ (some (va_rf ((sg_fi σ j n t w).map ma))) M)) [.ref (ca j), .int n, .int t, .int w].toArray s 0 0 (mw_A G)) (F0 mi 16 ls []) := by
      intro u
      induction u using Nat.strongRecOn with
      | ind u ih =>
        intro o H locs ls hd hq hM hl
        rcases o with _ | d
        · have hl : lv_has ls 6 [(4, .null), (0, .ref (ca j)), (1, .int n), (2, .int t), (3, .int w)] := hl
          refine lv_aloadN hx hb dX_firstAsTold_16 (lv_at hl 0 rfl) ?_
          refine lv_ifnullN (tgt := 90) hx hb dX_firstAsTold_18 (by decide) ?_
          refine lv_null hx hb dX_firstAsTold_90 ?_
          exact mr_a (o := none) F hr hM (⟨by rw [hq]; rfl, rfl⟩) dX_firstAsTold_91 ⟨Nat.le_of_ble_eq_true rfl, Nat.le_of_ble_eq_true rfl⟩
        · have hl : lv_has ls 6 [(4, .ref (ca d)), (0, .ref (ca j)), (1, .int n), (2, .int t), (3, .int w)] := hl
          obtain ⟨hd1, hd2⟩ := hd d rfl
          have hln : ln_o (sg_pr σ) (some d) = d :: ln_o (sg_pr σ) (sg_pr σ d) := ln_e (fun q hq2 => xw_pr hw hd2 hq2)
          rw [hln] at hq
          have next : ∀ (H : Heap) (locs : List Loc) (ls : Array Slot), fi_c σ n t w d = none → mw_S G M s.heap H locs → lv_has ls 6 [(4, .ref (ca d)), (0, .ref (ca j)), (1, .int n), (2, .int t), (3, .int w)] → W pg l en { frames := 1, cells := 0, slots := 0, locals := 40 } s mi [.ref (ca j), .int n, .int t, .int w].toArray below meth cd H locs 0 0 (MQ below (mw_Q G (mp_ (some (va_rf ((sg_fi σ j n t w).map ma))) M)) [.ref (ca j), .int n, .int t, .int w].toArray s 0 0 (mw_A G)) (F0 mi 80 ls []) := by
            intro H locs ls hk hM hl
            refine lv_aload hx hb dX_firstAsTold_80 (lv_at hl 0 rfl) ?_
            refine gf_X_122 F hM (xw_c hw hd2) rfl dX_firstAsTold_82 ?_
            refine mv_ast (lv' := [(4, va_rf ((sg_pr σ d).map ca)), (0, .ref (ca j)), (1, .int n), (2, .int t), (3, .int w)]) hx hb dX_firstAsTold_85 hl (by decide) rfl (fun ls hl => ?_)
            refine lv_goto (tgt := 16) hx hb dX_firstAsTold_87 (by decide) ?_
            exact ih d hd1 (sg_pr σ d) H locs ls (fun q hq2 => ⟨xw_pr hw hd2 hq2, Nat.lt_trans (xw_pr hw hd2 hq2) hd2⟩) (by rw [hq]; show (match fi_c σ n t w d with | some m => some m | none => fi_l σ n t w _) = _; rw [hk]) hM (lv_sub hl [0, 1, 2, 3, 4] rfl)
          have here : ∀ f : Nat, fi_c σ n t w d = some f → sg_fi σ j n t w = some f := fun f hf => by rw [hq]; show (match fi_c σ n t w d with | some m => some m | none => fi_l σ n t w _) = _; rw [hf]
          refine lv_aload hx hb dX_firstAsTold_16 (lv_at hl 0 rfl) ?_
          refine lv_ifnull hx hb dX_firstAsTold_18 ?_
          refine lv_iload_n hx hb dX_firstAsTold_21 rfl (lv_at hl 4 rfl) ?_
          refine lv_iconst (v := 4) hx hb dX_firstAsTold_22 (by decide) ?_
          refine lv_icmp_lt (tgt := 37) hx hb dX_firstAsTold_23 (by decide) (fun h4 => ?_) (fun h4 => ?_)
          · refine lv_aload hx hb dX_firstAsTold_37 (lv_at hl 0 rfl) ?_
            refine lv_iconst (v := 1) hx hb dX_firstAsTold_39 (by decide) ?_
            refine lv_iload_n hx hb dX_firstAsTold_40 rfl (lv_at hl 2 rfl) ?_
            refine lv_iload_n hx hb dX_firstAsTold_41 rfl (lv_at hl 3 rfl) ?_
            refine mw_Vp (As := [.int 1, .int n, .int t]) (rest := []) F (c_C_own hw hd2 1 n t) kb_C_own ki_C_own ks_C_own kl_X_131 hM (xw_c hw hd2) rfl rfl hl.1 rfl (Nat.le_of_ble_eq_true rfl) dX_firstAsTold_42 ⟨⟨Nat.le_of_ble_eq_true rfl, Nat.le_of_ble_eq_true rfl⟩, Nat.le_of_ble_eq_true rfl, Nat.le_of_ble_eq_true rfl⟩ ⟨rfl, rfl⟩ (fun H locs hM => ?_)
            have hfc : fi_c σ n t w d = match sg_ow σ d 1 n t with | none => none | some m => if sg_fx σ m = decide (w = 0) then some m else none := by unfold fi_c; rw [if_neg (i3_nle h4)]; rfl
            rcases ho : sg_ow σ d 1 n t with _ | f
            · refine lv_astoreN (lv' := [(5, .null), (4, .ref (ca d)), (0, .ref (ca j)), (1, .int n), (2, .int t), (3, .int w)]) hx hb dX_firstAsTold_45 hl (by decide) rfl (fun ls hl => ?_)
              refine lv_aloadN hx hb dX_firstAsTold_47 (lv_at hl 0 rfl) ?_
              refine lv_ifnullN (tgt := 80) hx hb dX_firstAsTold_49 (by decide) ?_
              exact next H locs ls (by rw [hfc, ho]) hM (lv_sub hl [1, 2, 3, 4, 5] rfl)
            · obtain ⟨hf1, -, hf3, -⟩ := ow_some ho
              rw [ho] at hfc
              dsimp only at hfc
              refine lv_astore (lv' := [(5, .ref (ma f)), (4, .ref (ca d)), (0, .ref (ca j)), (1, .int n), (2, .int t), (3, .int w)]) hx hb dX_firstAsTold_45 hl (by decide) rfl (fun ls hl => ?_)
              refine lv_aload hx hb dX_firstAsTold_47 (lv_at hl 0 rfl) ?_
              refine lv_ifnull hx hb dX_firstAsTold_49 ?_
              refine lv_aload hx hb dX_firstAsTold_52 (lv_at hl 0 rfl) ?_
              refine gf_X_108 F hM (xw_m hw hf1) rfl dX_firstAsTold_54 ?_
              refine lv_if_eq (tgt := 77) hx hb dX_firstAsTold_57 (by decide) (fun h5 => absurd (hf3.symm.trans h5) (by decide)) (fun h5 => ?_)
              refine lv_aload hx hb dX_firstAsTold_60 (lv_at hl 0 rfl) ?_
              refine gf_X_105 F hM (xw_m hw hf1) rfl dX_firstAsTold_62 ?_
              refine lv_iload_n hx hb dX_firstAsTold_65 rfl (lv_at hl 5 rfl) ?_
              refine lv_if_ne (tgt := 73) hx hb dX_firstAsTold_66 (by decide) (fun h6 => ?_) (fun h6 => ?_)
              · refine lv_iconst (v := 0) hx hb dX_firstAsTold_73 (by decide) ?_
                refine lv_icmp_ne (tgt := 80) hx hb dX_firstAsTold_74 (by decide) (fun h7 => ?_) (fun h7 => ?_)
                · exact next H locs ls (by rw [hfc, if_neg (by rw [mb_n h7]; simp [h6])]) hM (lv_sub hl [1, 2, 3, 4, 5] rfl)
                · refine lv_aload hx hb dX_firstAsTold_77 (lv_at hl 0 rfl) ?_
                  exact mr_a (o := some (ma f)) F hr hM (⟨by rw [here f (by rw [hfc, if_pos (by rw [mb_z h7]; simp [h6])])]; rfl, rfl⟩) dX_firstAsTold_79 ⟨Nat.le_of_ble_eq_true rfl, Nat.le_of_ble_eq_true rfl⟩
              · refine lv_iconst (v := 1) hx hb dX_firstAsTold_69 (by decide) ?_
                refine lv_goto (tgt := 74) hx hb dX_firstAsTold_70 (by decide) ?_
                refine lv_icmp_ne (tgt := 80) hx hb dX_firstAsTold_74 (by decide) (fun h7 => ?_) (fun h7 => ?_)
                · exact next H locs ls (by rw [hfc, if_neg (fun q => h7 (by rw [q, h6]; rfl))]) hM (lv_sub hl [1, 2, 3, 4, 5] rfl)
                · refine lv_aload hx hb dX_firstAsTold_77 (lv_at hl 0 rfl) ?_
                  exact mr_a (o := some (ma f)) F hr hM (⟨by rw [here f (by rw [hfc, if_pos (by rw [h6]; exact mb_inj.mp h7)])]; rfl, rfl⟩) dX_firstAsTold_79 ⟨Nat.le_of_ble_eq_true rfl, Nat.le_of_ble_eq_true rfl⟩
          · refine lv_aload hx hb dX_firstAsTold_26 (lv_at hl 0 rfl) ?_
            refine lv_iconst (v := 0) hx hb dX_firstAsTold_28 (by decide) ?_
            refine lv_iload_n hx hb dX_firstAsTold_29 rfl (lv_at hl 2 rfl) ?_
            refine lv_iconst (v := 0) hx hb dX_firstAsTold_30 (by decide) ?_
            refine mw_Vp (As := [.int 0, .int n, .int 0]) (rest := []) F (c_C_own hw hd2 0 n 0) kb_C_own ki_C_own ks_C_own kl_X_131 hM (xw_c hw hd2) rfl rfl hl.1 rfl (Nat.le_of_ble_eq_true rfl) dX_firstAsTold_31 ⟨⟨Nat.le_of_ble_eq_true rfl, Nat.le_of_ble_eq_true rfl⟩, Nat.le_of_ble_eq_true rfl, Nat.le_of_ble_eq_true rfl⟩ ⟨rfl, rfl⟩ (fun H locs hM => ?_)
            have hfc : fi_c σ n t w d = sg_ow σ d 0 n 0 := by unfold fi_c; rw [if_pos (i3_le h4)]
            rcases ho : sg_ow σ d 0 n 0 with _ | f
            · refine lv_goto (tgt := 45) hx hb dX_firstAsTold_34 (by decide) ?_
              refine lv_astoreN (lv' := [(5, .null), (4, .ref (ca d)), (0, .ref (ca j)), (1, .int n), (2, .int t), (3, .int w)]) hx hb dX_firstAsTold_45 hl (by decide) rfl (fun ls hl => ?_)
              refine lv_aloadN hx hb dX_firstAsTold_47 (lv_at hl 0 rfl) ?_
              refine lv_ifnullN (tgt := 80) hx hb dX_firstAsTold_49 (by decide) ?_
              exact next H locs ls (by rw [hfc, ho]) hM (lv_sub hl [1, 2, 3, 4, 5] rfl)
            · obtain ⟨hf1, -, hf3, -⟩ := ow_some ho
              rw [ho] at hfc
              refine lv_goto (tgt := 45) hx hb dX_firstAsTold_34 (by decide) ?_
              refine lv_astore (lv' := [(5, .ref (ma f)), (4, .ref (ca d)), (0, .ref (ca j)), (1, .int n), (2, .int t), (3, .int w)]) hx hb dX_firstAsTold_45 hl (by decide) rfl (fun ls hl => ?_)
              refine lv_aload hx hb dX_firstAsTold_47 (lv_at hl 0 rfl) ?_
              refine lv_ifnull hx hb dX_firstAsTold_49 ?_
              refine lv_aload hx hb dX_firstAsTold_52 (lv_at hl 0 rfl) ?_
              refine gf_X_108 F hM (xw_m hw hf1) rfl dX_firstAsTold_54 ?_
              refine lv_if_eq (tgt := 77) hx hb dX_firstAsTold_57 (by decide) (fun h5 => ?_) (fun h5 => absurd hf3 h5)
              refine lv_aload hx hb dX_firstAsTold_77 (lv_at hl 0 rfl) ?_
              exact mr_a (o := some (ma f)) F hr hM (⟨by rw [here f hfc]; rfl, rfl⟩) dX_firstAsTold_79 ⟨Nat.le_of_ble_eq_true rfl, Nat.le_of_ble_eq_true rfl⟩
    refine lv_aload_n hx hb dX_firstAsTold_13 rfl (lv_at hl 0 rfl) ?_
    refine lv_astore (lv' := [(4, .ref (ca j)), (0, .ref (ca j)), (1, .int n), (2, .int t), (3, .int w)]) hx hb dX_firstAsTold_14 hl (by decide) rfl (fun ls hl => ?_)
    exact loop (j + 1) (some j) _ _ ls (fun d hd => by cases hd; exact ⟨Nat.lt_succ_self _, hj⟩) (by unfold sg_fi; rw [if_neg h3]; rfl) hM (lv_sub hl [0, 1, 2, 3, 4] rfl)
  · refine lv_aload_n hx hb dX_firstAsTold_5 rfl (lv_at hl 0 rfl) ?_
    refine lv_iconst (v := 2) hx hb dX_firstAsTold_6 (by decide) ?_
    refine lv_iconst (v := 0) hx hb dX_firstAsTold_7 (by decide) ?_
    refine lv_iload_n hx hb dX_firstAsTold_8 rfl (lv_at hl 2 rfl) ?_
    refine mw_Vp (As := [.int 2, .int 0, .int t]) (rest := []) F (c_C_own hw hj 2 0 t) kb_C_own ki_C_own ks_C_own kl_X_131 hM (xw_c hw hj) rfl rfl hl.1 rfl (Nat.le_of_ble_eq_true rfl) dX_firstAsTold_9 ⟨⟨Nat.le_of_ble_eq_true rfl, Nat.le_of_ble_eq_true rfl⟩, Nat.le_of_ble_eq_true rfl, Nat.le_of_ble_eq_true rfl⟩ ⟨rfl, rfl⟩ (fun H locs hM => ?_)
    exact mr_a F hr hM (⟨by unfold sg_fi; rw [if_pos h3], rfl⟩) dX_firstAsTold_12 ⟨Nat.le_of_ble_eq_true rfl, Nat.le_of_ble_eq_true rfl⟩
set_option maxHeartbeats 4000000 in
set_option maxRecDepth 100000 in
theorem c_X_isOverriddenByLine (hw : xw_ G M x qc qm ql ca ma σ rf lp) {y k : Nat} (hy : y < sg_nm σ) (hk : k ≤ 40) : mw_C l G yX_isOverriddenByLine bX_isOverriddenByLine 4 (some .boolean) { frames := 0, cells := 0, slots := 0, locals := 0 } M [.ref x, .ref (ma y), .int (nI k)] (mp_ (some (.int (mb_i (ov_y σ ((List.range k).map lp) y)))) M) := by
  refine mw_of (by decide) (Nat.le_of_ble_eq_true rfl) ?_
  intro pg en s mi below meth cd F hr _ hM ls hl
  obtain ⟨hx, hb, -⟩ := id F
  have hl : lv_has ls 4 [(0, .ref x), (1, .ref (ma y)), (2, .int (nI k))] := hl
  have hmc := xw_mc hw hy
  refine lv_aload_n hx hb dX_isOverriddenByLine_0 rfl (lv_at hl 1 rfl) ?_
  refine gf_X_102 F hM (xw_m hw hy) rfl dX_isOverriddenByLine_1 ?_
  refine lv_iconst (v := 1) hx hb dX_isOverriddenByLine_4 (by decide) ?_
  refine lv_icmp_eq (tgt := 21) hx hb dX_isOverriddenByLine_5 (by decide) (fun h1 => ?_) (fun h1 => ?_)
  · have hov : ov_y σ ((List.range k).map lp) y = ((List.range k).map lp).contains (sg_pk σ (sg_mc σ y)) := by unfold ov_y; rw [if_pos h1]
    have loop : ∀ (u i : Nat) (H : Heap) (locs : List Loc) (ls : Array Slot), k < i + u → i ≤ k → (∀ q, q < i → ¬ lp q = sg_pk σ (sg_mc σ y)) → mw_S G M s.heap H locs → lv_has ls 4 [(3, .int (nI i)), (0, .ref x), (1, .ref (ma y)), (2, .int (nI k))] → W pg l en { frames := 0, cells := 0, slots := 0, locals := 0 } s mi [.ref x, .ref (ma y), .int (nI k)].toArray below meth cd H locs 0 0 (MQ below (mw_Q G (mp_ (some (.int (mb_i (ov_y σ ((List.range k).map lp) y)))) M)) [.ref x, .ref (ma y), .int (nI k)].toArray s 0 0 (mw_A G)) (F0 mi 23 ls []) := by
      intro u
      induction u with
      | zero => intro i H locs ls h2 h3; omega
      | succ u ih =>
        intro i H locs ls hu hi hno hM hl
        refine lv_iload_n hx hb dX_isOverriddenByLine_23 rfl (lv_at hl 0 rfl) ?_
        refine lv_iload_n hx hb dX_isOverriddenByLine_24 rfl (lv_at hl 3 rfl) ?_
        refine lv_icmp_ge (tgt := 52) hx hb dX_isOverriddenByLine_25 (by decide) (fun h4 => ?_) (fun h4 => ?_)
        · have hik : k ≤ i := (nI_leI (by omega) (by omega)).mp h4
          refine lv_iconst (v := 0) hx hb dX_isOverriddenByLine_52 (by decide) ?_
          exact mr_z (v := false) F hr hM (⟨by rw [hov, lc_f (fun q hq => hno q (by omega))], rfl⟩) dX_isOverriddenByLine_53 ⟨Nat.le_of_ble_eq_true rfl, Nat.le_of_ble_eq_true rfl⟩
        · have hik : i < k := by
            rcases Nat.lt_or_ge i k with q | q
            · exact q
            · exact absurd (nI_le q (by omega)) h4
          refine lv_aload_n hx hb dX_isOverriddenByLine_28 rfl (lv_at hl 1 rfl) ?_
          refine gf_X_21 F hM (xw_x hw) rfl dX_isOverriddenByLine_29 ?_
          refine lv_iload_n hx hb dX_isOverriddenByLine_32 rfl (lv_at hl 0 rfl) ?_
          refine mw_ild F hM (xw_ql hw) (vp_in_nI (by omega) (by omega)) dX_isOverriddenByLine_33 ?_
          refine mv_i (y := lp i) (by rw [nI_clamp (by omega)]) ?_
          refine lv_aload_n hx hb dX_isOverriddenByLine_34 rfl (lv_at hl 2 rfl) ?_
          refine gf_X_72 F hM (xw_m hw hy) rfl dX_isOverriddenByLine_35 ?_
          refine gf_X_143 F hM (xw_c hw hmc) rfl dX_isOverriddenByLine_38 ?_
          refine lv_icmp_ne (tgt := 46) hx hb dX_isOverriddenByLine_41 (by decide) (fun h5 => ?_) (fun h5 => ?_)
          · refine lv_iinc (v := nI (i + 1)) (lv' := [(3, .int (nI (i + 1))), (0, .ref x), (1, .ref (ma y)), (2, .int (nI k))]) hx hb dX_isOverriddenByLine_46 hl (k := 0) rfl (ii_1 i) (by decide) rfl (fun ls hl => ?_)
            refine lv_goto (tgt := 23) hx hb dX_isOverriddenByLine_49 (by decide) ?_
            exact ih (i + 1) H locs ls (by omega) (by omega) (fun q hq => by
              by_cases hqi : q = i
              · rw [hqi]; exact h5
              · exact hno q (by omega)) hM (lv_sub hl [0, 1, 2, 3] rfl)
          · refine lv_iconst (v := 1) hx hb dX_isOverriddenByLine_44 (by decide) ?_
            exact mr_z (v := true) F hr hM (⟨by rw [hov, lc_t hik h5], rfl⟩) dX_isOverriddenByLine_45 ⟨Nat.le_of_ble_eq_true rfl, Nat.le_of_ble_eq_true rfl⟩
    refine lv_iconst (v := 0) hx hb dX_isOverriddenByLine_21 (by decide) ?_
    refine lv_istore_n (lv' := [(3, .int 0), (0, .ref x), (1, .ref (ma y)), (2, .int (nI k))]) hx hb dX_isOverriddenByLine_22 rfl hl (by decide) rfl (fun ls hl => ?_)
    exact loop (k + 1) 0 _ _ ls (by omega) (Nat.zero_le _) (fun q hq => absurd hq (Nat.not_lt_zero q)) hM (lv_sub hl [0, 1, 2, 3] rfl)
  · refine lv_aload_n hx hb dX_isOverriddenByLine_8 rfl (lv_at hl 1 rfl) ?_
    refine gf_X_102 F hM (xw_m hw hy) rfl dX_isOverriddenByLine_9 ?_
    refine lv_if_eq (tgt := 19) hx hb dX_isOverriddenByLine_12 (by decide) (fun h2 => ?_) (fun h2 => ?_)
    · refine lv_iconst (v := 0) hx hb dX_isOverriddenByLine_19 (by decide) ?_
      exact mr_z (v := false) F hr hM (⟨by unfold ov_y; rw [if_neg h1]; simp [h2], rfl⟩) dX_isOverriddenByLine_20 ⟨Nat.le_of_ble_eq_true rfl, Nat.le_of_ble_eq_true rfl⟩
    · refine lv_iconst (v := 1) hx hb dX_isOverriddenByLine_15 (by decide) ?_
      refine lv_goto (tgt := 20) hx hb dX_isOverriddenByLine_16 (by decide) ?_
      exact mr_z (v := true) F hr hM (⟨by unfold ov_y; rw [if_neg h1]; simp [h2], rfl⟩) dX_isOverriddenByLine_20 ⟨Nat.le_of_ble_eq_true rfl, Nat.le_of_ble_eq_true rfl⟩
end GC
