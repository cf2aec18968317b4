section GC
variable {l : Launch} {G : mw_G} {M : mw_M} {x qc qm ql : Nat} {ca ma : Nat → Nat} {σ : sg_T} {rf : Int32} {lp : Nat → Int32}
set_option maxHeartbeats 4000000 in
set_option maxRecDepth 100000 in
theorem c_X_overridesMethod (hw : xw_ G M x qc qm ql ca ma σ rf lp) {c j xa : Nat} {rx : Nat × Nat} {k n t r : Int32} {f4 f5 f7 f8 : Value} (hc : c < sg_nc σ) (hj : j < sg_nm σ) (hxa : M xa = some (rx, .inr (ciN, [.ref (ca c), .int k, .int n, .int t, f4, f5, .int r, f7, f8]))) (hrx : rx ≠ (3, 0)) : mw_C l G yX_overridesMethod bX_overridesMethod 7 (some .boolean) { frames := 2, cells := 0, slots := 0, locals := 80 } M [.ref x, .ref xa, .ref (ma j)] (pl_ G ql (some (.int (mb_i (ov_r σ c n t r j)))) M) := by
  refine mw_of (by decide) (Nat.le_of_ble_eq_true rfl) ?_
  intro pg en s mi below meth cd F hr _ hM ls hl
  obtain ⟨hx, hb, -⟩ := id F
  have hl : lv_has ls 7 [(0, .ref x), (1, .ref xa), (2, .ref (ma j))] := hl
  have hnc := xw_nc hw
  have hmj := xw_mc hw hj
  refine lv_aload_n hx hb dX_overridesMethod_0 rfl (lv_at hl 1 rfl) ?_
  refine gf_X_102 F hM hxa rfl dX_overridesMethod_1 ?_
  refine lv_if_eq (tgt := 14) hx hb dX_overridesMethod_4 (by decide) (fun h1 => ?_) (fun h1 => ?_)
  · refine lv_iconst (v := 0) hx hb dX_overridesMethod_14 (by decide) ?_
    exact mr_z (v := false) F hr hM (⟨by unfold ov_r; simp [h1], lp, (mw_id (xw_ql hw)).symm⟩) dX_overridesMethod_15 ⟨Nat.le_of_ble_eq_true rfl, Nat.le_of_ble_eq_true rfl⟩
  · refine lv_aload_n hx hb dX_overridesMethod_7 rfl (lv_at hl 2 rfl) ?_
    refine gf_X_102 F hM (xw_m hw hj) rfl dX_overridesMethod_8 ?_
    refine lv_if_ne (tgt := 16) hx hb dX_overridesMethod_11 (by decide) (fun h2 => ?_) (fun h2 => ?_)
    · have hov : ov_r σ c n t r j = ov_l σ n t (sg_mc σ j) [sg_pk σ c] (ln_o (sg_pr σ) (sg_pr σ c)) := by unfold ov_r; simp [h1, h2]
      have loop : ∀ (u q : Nat) (o : Option Nat) (lp1 : Nat → Int32) (H : Heap) (locs : List Loc) (ls : Array Slot), q ≤ 40 → (∀ d, o = some d → d < u ∧ d < sg_nc σ ∧ q + d ≤ 39) → ov_r σ c n t r j = ov_l σ n t (sg_mc σ j) ((List.range q).map lp1) (ln_o (sg_pr σ) o) → mw_S G (mw_up M ql ((3, 0), aI_ G 40 lp1)) s.heap H locs → lv_has ls 7 [(4, va_rf (o.map ca)), (3, .int (nI q)), (0, .ref x), (1, .ref xa), (2, .ref (ma j))] → W pg l en { frames := 2, cells := 0, slots := 0, locals := 80 } s mi [.ref x, .ref xa, .ref (ma j)].toArray below meth cd H locs 0 0 (MQ below (mw_Q G (pl_ G ql (some (.int (mb_i (ov_r σ c n t r j)))) M)) [.ref x, .ref xa, .ref (ma j)].toArray s 0 0 (mw_A G)) (F0 mi 40 ls []) := by
        intro u
        induction u using Nat.strongRecOn with
        | ind u ih =>
          intro q o lp1 H locs ls hq40 hd hq hM hl
          have hw1 := xw_lp hw lp1
          have hxa1 := mw_oth (g := aI_ G 40 lp1) (xw_ql hw) hxa hrx
          rcases o with _ | d
          · have hl : lv_has ls 7 [(4, .null), (3, .int (nI q)), (0, .ref x), (1, .ref xa), (2, .ref (ma j))] := hl
            refine lv_aloadN hx hb dX_overridesMethod_40 (lv_at hl 0 rfl) ?_
            refine lv_ifnullN (tgt := 132) hx hb dX_overridesMethod_42 (by decide) ?_
            refine lv_iconst (v := 0) hx hb dX_overridesMethod_132 (by decide) ?_
            exact mr_z (v := false) F hr hM (⟨by rw [hq]; rfl, lp1, rfl⟩) dX_overridesMethod_133 ⟨Nat.le_of_ble_eq_true rfl, Nat.le_of_ble_eq_true rfl⟩
          · have hl : lv_has ls 7 [(4, .ref (ca d)), (3, .int (nI q)), (0, .ref x), (1, .ref xa), (2, .ref (ma j))] := hl
            obtain ⟨hd1, hd2, hd3⟩ := hd d rfl
            have hln : ln_o (sg_pr σ) (some d) = d :: ln_o (sg_pr σ) (sg_pr σ d) := ln_e (fun z hz => xw_pr hw hd2 hz)
            rw [hln] at hq
            have hst : ov_l σ n t (sg_mc σ j) ((List.range q).map lp1) (d :: ln_o (sg_pr σ) (sg_pr σ d)) = if d = sg_mc σ j then ov_c σ n t ((List.range q).map lp1) d else ov_l σ n t (sg_mc σ j) (if ov_c σ n t ((List.range q).map lp1) d then ((List.range q).map lp1) ++ [sg_pk σ d] else ((List.range q).map lp1)) (ln_o (sg_pr σ) (sg_pr σ d)) := rfl
            rw [hst] at hq
            have onw : ∀ (b : Bool) (H : Heap) (locs : List Loc) (ls : Array Slot), ov_c σ n t ((List.range q).map lp1) d = b → mw_S G (mw_up M ql ((3, 0), aI_ G 40 lp1)) s.heap H locs → lv_has ls 7 [(6, .int (mb_i b)), (4, .ref (ca d)), (3, .int (nI q)), (0, .ref x), (1, .ref xa), (2, .ref (ma j))] → W pg l en { frames := 2, cells := 0, slots := 0, locals := 80 } s mi [.ref x, .ref xa, .ref (ma j)].toArray below meth cd H locs 0 0 (MQ below (mw_Q G (pl_ G ql (some (.int (mb_i (ov_r σ c n t r j)))) M)) [.ref x, .ref xa, .ref (ma j)].toArray s 0 0 (mw_A G)) (F0 mi 82 ls []) := by
              intro b H locs ls hb2 hM hl
              rw [hb2] at hq
              refine lv_aload hx hb dX_overridesMethod_82 (lv_at hl 1 rfl) ?_
              refine lv_aload_n hx hb dX_overridesMethod_84 rfl (lv_at hl 5 rfl) ?_
              refine gf_X_72 F hM (xw_m hw1 hj) rfl dX_overridesMethod_85 ?_
              refine lv_acmp_ne (rx := some (ca d)) (ry := some (ca (sg_mc σ j))) (tgt := 94) hx hb dX_overridesMethod_88 (by decide) (fun h3 => ?_) (fun h3 => ?_)
              · have hdj : ¬ d = sg_mc σ j := fun z => h3 (by rw [z])
                rw [if_neg hdj] at hq
                refine lv_iload hx hb dX_overridesMethod_94 (lv_at hl 0 rfl) ?_
                refine lv_if_eq (tgt := 122) hx hb dX_overridesMethod_96 (by decide) (fun h4 => ?_) (fun h4 => ?_)
                · rw [mb_z h4] at hq
                  refine lv_aload hx hb dX_overridesMethod_122 (lv_at hl 1 rfl) ?_
                  refine gf_X_122 F hM (xw_c hw1 hd2) rfl dX_overridesMethod_124 ?_
                  refine mv_ast (lv' := [(4, va_rf ((sg_pr σ d).map ca)), (6, .int (mb_i b)), (3, .int (nI q)), (0, .ref x), (1, .ref xa), (2, .ref (ma j))]) hx hb dX_overridesMethod_127 hl (by decide) rfl (fun ls hl => ?_)
                  refine lv_goto (tgt := 40) hx hb dX_overridesMethod_129 (by decide) ?_
                  exact ih d hd1 q (sg_pr σ d) lp1 H locs ls hq40 (fun z hz => by have h9 := xw_pr hw hd2 hz; exact ⟨h9, by omega, by omega⟩) hq hM (lv_sub hl [0, 2, 3, 4, 5] rfl)
                · rw [mb_n h4] at hq
                  refine lv_iload_n hx hb dX_overridesMethod_99 rfl (lv_at hl 2 rfl) ?_
                  refine lv_aload_n hx hb dX_overridesMethod_100 rfl (lv_at hl 3 rfl) ?_
                  refine gf_X_21 F hM (xw_x hw1) rfl dX_overridesMethod_101 ?_
                  refine mw_len F 0 hM (xw_ql hw1) rfl (v := nI 40) rfl dX_overridesMethod_104 ?_
                  refine lv_icmp_ge (tgt := 122) hx hb dX_overridesMethod_105 (by decide) (fun h5 => absurd ((nI_leI (by omega) (by omega)).mp h5) (by omega)) (fun h5 => ?_)
                  refine lv_aload_n hx hb dX_overridesMethod_108 rfl (lv_at hl 3 rfl) ?_
                  refine gf_X_21 F hM (xw_x hw1) rfl dX_overridesMethod_109 ?_
                  refine lv_iload_n hx hb dX_overridesMethod_112 rfl (lv_at hl 2 rfl) ?_
                  refine lv_aload hx hb dX_overridesMethod_113 (lv_at hl 1 rfl) ?_
                  refine gf_X_143 F hM (xw_c hw1 hd2) rfl dX_overridesMethod_115 ?_
                  refine mw_ist F hM (xw_ql hw1) (vp_in_nI (by omega) (by omega)) dX_overridesMethod_118 (fun H locs hM => ?_)
                  rw [mw_uu, nI_clamp (by omega)] at hM
                  have hw2 := xw_lp hw (upd lp1 q (sg_pk σ d))
                  refine lv_iinc (v := nI (q + 1)) (lv' := [(3, .int (nI (q + 1))), (6, .int (mb_i b)), (4, .ref (ca d)), (0, .ref x), (1, .ref xa), (2, .ref (ma j))]) hx hb dX_overridesMethod_119 hl (k := 2) rfl (ii_1 q) (by decide) rfl (fun ls hl => ?_)
                  refine lv_aload hx hb dX_overridesMethod_122 (lv_at hl 2 rfl) ?_
                  refine gf_X_122 F hM (xw_c hw2 hd2) rfl dX_overridesMethod_124 ?_
                  refine mv_ast (lv' := [(4, va_rf ((sg_pr σ d).map ca)), (3, .int (nI (q + 1))), (6, .int (mb_i b)), (0, .ref x), (1, .ref xa), (2, .ref (ma j))]) hx hb dX_overridesMethod_127 hl (by decide) rfl (fun ls hl => ?_)
                  refine lv_goto (tgt := 40) hx hb dX_overridesMethod_129 (by decide) ?_
                  exact ih d hd1 (q + 1) (sg_pr σ d) (upd lp1 q (sg_pk σ d)) H locs ls (by omega) (fun z hz => by have h9 := xw_pr hw hd2 hz; exact ⟨h9, by omega, by omega⟩) (by rw [hq, lc_s]; rfl) hM (lv_sub hl [0, 1, 3, 4, 5] rfl)
              · have hdj : d = sg_mc σ j := (xw_cq hw hd2 hmj).mp h3
                refine lv_iload hx hb dX_overridesMethod_91 (lv_at hl 0 rfl) ?_
                exact mr_z (v := b) F hr hM (⟨by rw [hq, if_pos hdj], lp1, rfl⟩) dX_overridesMethod_93 ⟨Nat.le_of_ble_eq_true rfl, Nat.le_of_ble_eq_true rfl⟩
            refine lv_aload hx hb dX_overridesMethod_40 (lv_at hl 0 rfl) ?_
            refine lv_ifnull hx hb dX_overridesMethod_42 ?_
            refine lv_aload hx hb dX_overridesMethod_45 (lv_at hl 0 rfl) ?_
            refine lv_aload_n hx hb dX_overridesMethod_47 rfl (lv_at hl 3 rfl) ?_
            refine gf_X_91 F hM hxa1 rfl dX_overridesMethod_48 ?_
            refine lv_aload_n hx hb dX_overridesMethod_51 rfl (lv_at hl 3 rfl) ?_
            refine gf_X_94 F hM hxa1 rfl dX_overridesMethod_52 ?_
            refine mw_Vp (As := [.int n, .int t]) (rest := []) F (c_C_ownObjectMethod hw1 hd2 n t) kb_C_ownObjectMethod ki_C_ownObjectMethod ks_C_ownObjectMethod kl_X_139 hM (xw_c hw1 hd2) rfl rfl hl.1 rfl (Nat.le_of_ble_eq_true rfl) dX_overridesMethod_55 ⟨⟨Nat.le_of_ble_eq_true rfl, Nat.le_of_ble_eq_true rfl⟩, Nat.le_of_ble_eq_true rfl, Nat.le_of_ble_eq_true rfl⟩ ⟨rfl, rfl⟩ (fun H locs hM => ?_)
            rcases ho : sg_oo σ d n t with _ | y
            · refine lv_astoreN (lv' := [(5, .null), (4, .ref (ca d)), (3, .int (nI q)), (0, .ref x), (1, .ref xa), (2, .ref (ma j))]) hx hb dX_overridesMethod_58 hl (by decide) rfl (fun ls hl => ?_)
              refine lv_aloadN hx hb dX_overridesMethod_60 (lv_at hl 0 rfl) ?_
              refine lv_ifnullN (tgt := 79) hx hb dX_overridesMethod_62 (by decide) ?_
              refine lv_iconst (v := 0) hx hb dX_overridesMethod_79 (by decide) ?_
              refine lv_istore (lv' := [(6, .int 0), (5, .null), (4, .ref (ca d)), (3, .int (nI q)), (0, .ref x), (1, .ref xa), (2, .ref (ma j))]) hx hb dX_overridesMethod_80 hl (by decide) rfl (fun ls hl => ?_)
              exact onw false H locs ls (by unfold ov_c; rw [ho]) hM (lv_sub hl [0, 2, 3, 4, 5, 6] rfl)
            · have hy := (oo_some ho).1
              refine lv_astore (lv' := [(5, .ref (ma y)), (4, .ref (ca d)), (3, .int (nI q)), (0, .ref x), (1, .ref xa), (2, .ref (ma j))]) hx hb dX_overridesMethod_58 hl (by decide) rfl (fun ls hl => ?_)
              refine lv_aload hx hb dX_overridesMethod_60 (lv_at hl 0 rfl) ?_
              refine lv_ifnull hx hb dX_overridesMethod_62 ?_
              refine lv_aload_n hx hb dX_overridesMethod_65 rfl (lv_at hl 3 rfl) ?_
              refine lv_aload hx hb dX_overridesMethod_66 (lv_at hl 0 rfl) ?_
              refine lv_iload_n hx hb dX_overridesMethod_68 rfl (lv_at hl 2 rfl) ?_
              refine mw_Vp (As := [.ref (ma y), .int (nI q)]) (rest := []) F (c_X_isOverriddenByLine hw1 hy hq40) kb_X_isOverriddenByLine ki_X_isOverriddenByLine ks_X_isOverriddenByLine kl_X_146 hM (xw_x hw1) rfl rfl hl.1 rfl (Nat.le_of_ble_eq_true rfl) dX_overridesMethod_69 ⟨⟨Nat.le_of_ble_eq_true rfl, Nat.le_of_ble_eq_true rfl⟩, Nat.le_of_ble_eq_true rfl, Nat.le_of_ble_eq_true rfl⟩ ⟨rfl, rfl⟩ (fun H locs hM => ?_)
              refine lv_if_eq (tgt := 79) hx hb dX_overridesMethod_72 (by decide) (fun h6 => ?_) (fun h6 => ?_)
              · refine lv_iconst (v := 0) hx hb dX_overridesMethod_79 (by decide) ?_
                refine lv_istore (lv' := [(6, .int 0), (5, .ref (ma y)), (4, .ref (ca d)), (3, .int (nI q)), (0, .ref x), (1, .ref xa), (2, .ref (ma j))]) hx hb dX_overridesMethod_80 hl (by decide) rfl (fun ls hl => ?_)
                exact onw false H locs ls (by unfold ov_c; rw [ho]; exact mb_z h6) hM (lv_sub hl [0, 2, 3, 4, 5, 6] rfl)
              · refine lv_iconst (v := 1) hx hb dX_overridesMethod_75 (by decide) ?_
                refine lv_goto (tgt := 80) hx hb dX_overridesMethod_76 (by decide) ?_
                refine lv_istore (lv' := [(6, .int 1), (5, .ref (ma y)), (4, .ref (ca d)), (3, .int (nI q)), (0, .ref x), (1, .ref xa), (2, .ref (ma j))]) hx hb dX_overridesMethod_80 hl (by decide) rfl (fun ls hl => ?_)
                exact onw true H locs ls (by unfold ov_c; rw [ho]; exact mb_n h6) hM (lv_sub hl [0, 2, 3, 4, 5, 6] rfl)
      refine lv_aload_n hx hb dX_overridesMethod_16 rfl (lv_at hl 0 rfl) ?_
      refine gf_X_21 F hM (xw_x hw) rfl dX_overridesMethod_17 ?_
      refine lv_iconst (v := 0) hx hb dX_overridesMethod_20 (by decide) ?_
      refine lv_aload_n hx hb dX_overridesMethod_21 rfl (lv_at hl 1 rfl) ?_
      refine gf_X_72 F hM hxa rfl dX_overridesMethod_22 ?_
      refine gf_X_143 F hM (xw_c hw hc) rfl dX_overridesMethod_25 ?_
      refine mw_ist F hM (xw_ql hw) (vp_in_nI (n := 0) (by omega) (by omega)) dX_overridesMethod_28 (fun H locs hM => ?_)
      have hw1 := xw_lp hw (upd lp 0 (sg_pk σ c))
      have hxa1 := mw_oth (g := aI_ G 40 (upd lp 0 (sg_pk σ c))) (xw_ql hw) hxa hrx
      refine lv_iconst (v := 1) hx hb dX_overridesMethod_29 (by decide) ?_
      refine lv_istore_n (lv' := [(3, .int 1), (0, .ref x), (1, .ref xa), (2, .ref (ma j))]) hx hb dX_overridesMethod_30 rfl hl (by decide) rfl (fun ls hl => ?_)
      refine lv_aload_n hx hb dX_overridesMethod_31 rfl (lv_at hl 2 rfl) ?_
      refine gf_X_72 F hM hxa1 rfl dX_overridesMethod_32 ?_
      refine gf_X_122 F hM (xw_c hw1 hc) rfl dX_overridesMethod_35 ?_
      refine mv_ast (lv' := [(4, va_rf ((sg_pr σ c).map ca)), (3, .int 1), (0, .ref x), (1, .ref xa), (2, .ref (ma j))]) hx hb dX_overridesMethod_38 hl (by decide) rfl (fun ls hl => ?_)
      exact loop c 1 (sg_pr σ c) (upd lp 0 (sg_pk σ c)) H locs ls (by omega) (fun z hz => by have h9 := xw_pr hw hc hz; exact ⟨h9, by omega, by omega⟩) (by rw [hov]; rfl) hM (lv_sub hl [0, 1, 2, 3, 4] rfl)
    · refine lv_iconst (v := 0) hx hb dX_overridesMethod_14 (by decide) ?_
      exact mr_z (v := false) F hr hM (⟨by unfold ov_r; simp [h2], lp, (mw_id (xw_ql hw)).symm⟩) dX_overridesMethod_15 ⟨Nat.le_of_ble_eq_true rfl, Nat.le_of_ble_eq_true rfl⟩
set_option maxHeartbeats 4000000 in
set_option maxRecDepth 100000 in
theorem c_X_calledMethod (hw : xw_ G M x qc qm ql ca ma σ rf lp) {j c : Nat} (hj : j < sg_nm σ) (hc : c < sg_nc σ) : mw_C l G yX_calledMethod bX_calledMethod 5 (some (.object RN)) { frames := 3, cells := 0, slots := 0, locals := 120 } M [.ref x, .ref (ma j), .ref (ca c)] (pl_ G ql (some (.ref (ma (sg_cl σ j c)))) M) := by
  refine mw_of (by decide) (Nat.le_of_ble_eq_true rfl) ?_
  intro pg en s mi below meth cd F hr _ hM ls hl
  obtain ⟨hx, hb, -⟩ := id F
  have hl : lv_has ls 5 [(0, .ref x), (1, .ref (ma j)), (2, .ref (ca c))] := hl
  have hmj := xw_mc hw hj
  refine lv_aload_n hx hb dX_calledMethod_0 rfl (lv_at hl 1 rfl) ?_
  refine gf_X_102 F hM (xw_m hw hj) rfl dX_calledMethod_1 ?_
  refine lv_if_ne (tgt := 9) hx hb dX_calledMethod_4 (by decide) (fun h1 => ?_) (fun h1 => ?_)
  · have hcl : sg_cl σ j c = cl_l σ j (sg_ln (sg_pr σ) c) := by unfold sg_cl; rw [if_neg h1]
    have loop : ∀ (u : Nat) (o : Option Nat) (lp1 : Nat → Int32) (H : Heap) (locs : List Loc) (ls : Array Slot), (∀ d, o = some d → d < u ∧ d < sg_nc σ) → sg_cl σ j c = cl_l σ j (ln_o (sg_pr σ) o) → mw_S G (mw_up M ql ((3, 0), aI_ G 40 lp1)) s.heap H locs → lv_has ls 5 [(3, va_rf (o.map ca)), (0, .ref x), (1, .ref (ma j)), (2, .ref (ca c))] → W pg l en { frames := 3, cells := 0, slots := 0, locals := 120 } s mi [.ref x, .ref (ma j), .ref (ca c)].toArray below meth cd H locs 0 0 (MQ below (mw_Q G (pl_ G ql (some (.ref (ma (sg_cl σ j c)))) M)) [.ref x, .ref (ma j), .ref (ca c)].toArray s 0 0 (mw_A G)) (F0 mi 11 ls []) := by
      intro u
      induction u using Nat.strongRecOn with
      | ind u ih =>
        intro o lp1 H locs ls hd hq hM hl
        have hw1 := xw_lp hw lp1
        rcases o with _ | d
        · have hl : lv_has ls 5 [(3, .null), (0, .ref x), (1, .ref (ma j)), (2, .ref (ca c))] := hl
          refine lv_aload_nN hx hb dX_calledMethod_11 rfl (lv_at hl 0 rfl) ?_
          refine lv_ifnullN (tgt := 63) hx hb dX_calledMethod_12 (by decide) ?_
          refine lv_aload_n hx hb dX_calledMethod_63 rfl (lv_at hl 2 rfl) ?_
          exact mr_a (o := some (ma j)) F hr hM (⟨by rw [hq]; rfl, lp1, rfl⟩) dX_calledMethod_64 ⟨Nat.le_of_ble_eq_true rfl, Nat.le_of_ble_eq_true rfl⟩
        · have hl : lv_has ls 5 [(3, .ref (ca d)), (0, .ref x), (1, .ref (ma j)), (2, .ref (ca c))] := hl
          obtain ⟨hd1, hd2⟩ := hd d rfl
          have hln : ln_o (sg_pr σ) (some d) = d :: ln_o (sg_pr σ) (sg_pr σ d) := ln_e (fun z hz => xw_pr hw hd2 hz)
          rw [hln] at hq
          have hst : cl_l σ j (d :: ln_o (sg_pr σ) (sg_pr σ d)) = if d = sg_mc σ j then j else match sg_oo σ d (sg_mn σ j) (sg_ty σ j) with | none => cl_l σ j (ln_o (sg_pr σ) (sg_pr σ d)) | some x => if ov_r σ d (sg_mn σ j) (sg_ty σ j) (sg_rg σ x) j then x else cl_l σ j (ln_o (sg_pr σ) (sg_pr σ d)) := rfl
          rw [hst] at hq
          have next : ∀ (lp2 : Nat → Int32) (H : Heap) (locs : List Loc) (ls : Array Slot), sg_cl σ j c = cl_l σ j (ln_o (sg_pr σ) (sg_pr σ d)) → mw_S G (mw_up M ql ((3, 0), aI_ G 40 lp2)) s.heap H locs → lv_has ls 5 [(3, .ref (ca d)), (0, .ref x), (1, .ref (ma j)), (2, .ref (ca c))] → W pg l en { frames := 3, cells := 0, slots := 0, locals := 120 } s mi [.ref x, .ref (ma j), .ref (ca c)].toArray below meth cd H locs 0 0 (MQ below (mw_Q G (pl_ G ql (some (.ref (ma (sg_cl σ j c)))) M)) [.ref x, .ref (ma j), .ref (ca c)].toArray s 0 0 (mw_A G)) (F0 mi 55 ls []) := by
            intro lp2 H locs ls hk hM hl
            have hw2 := xw_lp hw lp2
            refine lv_aload_n hx hb dX_calledMethod_55 rfl (lv_at hl 0 rfl) ?_
            refine gf_X_122 F hM (xw_c hw2 hd2) rfl dX_calledMethod_56 ?_
            refine mv_ast_n (lv' := [(3, va_rf ((sg_pr σ d).map ca)), (0, .ref x), (1, .ref (ma j)), (2, .ref (ca c))]) hx hb dX_calledMethod_59 rfl hl (by decide) rfl (fun ls hl => ?_)
            refine lv_goto (tgt := 11) hx hb dX_calledMethod_60 (by decide) ?_
            exact ih d hd1 (sg_pr σ d) lp2 H locs ls (fun z hz => ⟨xw_pr hw hd2 hz, Nat.lt_trans (xw_pr hw hd2 hz) hd2⟩) hk hM (lv_sub hl [0, 1, 2, 3] rfl)
          refine lv_aload_n hx hb dX_calledMethod_11 rfl (lv_at hl 0 rfl) ?_
          refine lv_ifnull hx hb dX_calledMethod_12 ?_
          refine lv_aload_n hx hb dX_calledMethod_15 rfl (lv_at hl 0 rfl) ?_
          refine lv_aload_n hx hb dX_calledMethod_16 rfl (lv_at hl 2 rfl) ?_
          refine gf_X_72 F hM (xw_m hw1 hj) rfl dX_calledMethod_17 ?_
          refine lv_acmp_eq (rx := some (ca d)) (ry := some (ca (sg_mc σ j))) (tgt := 63) hx hb dX_calledMethod_20 (by decide) (fun h2 => ?_) (fun h2 => ?_)
          · have hdj : d = sg_mc σ j := (xw_cq hw hd2 hmj).mp h2
            refine lv_aload_n hx hb dX_calledMethod_63 rfl (lv_at hl 2 rfl) ?_
            exact mr_a (o := some (ma j)) F hr hM (⟨by rw [hq, if_pos hdj]; rfl, lp1, rfl⟩) dX_calledMethod_64 ⟨Nat.le_of_ble_eq_true rfl, Nat.le_of_ble_eq_true rfl⟩
          · have hdj : ¬ d = sg_mc σ j := fun z => h2 (by rw [z])
            rw [if_neg hdj] at hq
            refine lv_aload_n hx hb dX_calledMethod_23 rfl (lv_at hl 0 rfl) ?_
            refine lv_aload_n hx hb dX_calledMethod_24 rfl (lv_at hl 2 rfl) ?_
            refine gf_X_91 F hM (xw_m hw1 hj) rfl dX_calledMethod_25 ?_
            refine lv_aload_n hx hb dX_calledMethod_28 rfl (lv_at hl 2 rfl) ?_
            refine gf_X_94 F hM (xw_m hw1 hj) rfl dX_calledMethod_29 ?_
            refine mw_Vp (As := [.int (sg_mn σ j), .int (sg_ty σ j)]) (rest := []) F (c_C_ownObjectMethod hw1 hd2 (sg_mn σ j) (sg_ty σ j)) kb_C_ownObjectMethod ki_C_ownObjectMethod ks_C_ownObjectMethod kl_X_139 hM (xw_c hw1 hd2) rfl rfl hl.1 rfl (Nat.le_of_ble_eq_true rfl) dX_calledMethod_32 ⟨⟨Nat.le_of_ble_eq_true rfl, Nat.le_of_ble_eq_true rfl⟩, Nat.le_of_ble_eq_true rfl, Nat.le_of_ble_eq_true rfl⟩ ⟨rfl, rfl⟩ (fun H locs hM => ?_)
            rcases ho : sg_oo σ d (sg_mn σ j) (sg_ty σ j) with _ | y
            · refine lv_astoreN (lv' := [(4, .null), (3, .ref (ca d)), (0, .ref x), (1, .ref (ma j)), (2, .ref (ca c))]) hx hb dX_calledMethod_35 hl (by decide) rfl (fun ls hl => ?_)
              refine lv_aloadN hx hb dX_calledMethod_37 (lv_at hl 0 rfl) ?_
              refine lv_ifnullN (tgt := 55) hx hb dX_calledMethod_39 (by decide) ?_
              exact next lp1 H locs ls (by rw [hq, ho]) hM (lv_sub hl [1, 2, 3, 4] rfl)
            · obtain ⟨hy, hy2, -, -, hy5, hy6⟩ := oo_some ho
              rw [ho] at hq
              dsimp only at hq
              refine lv_astore (lv' := [(4, .ref (ma y)), (3, .ref (ca d)), (0, .ref x), (1, .ref (ma j)), (2, .ref (ca c))]) hx hb dX_calledMethod_35 hl (by decide) rfl (fun ls hl => ?_)
              refine lv_aload hx hb dX_calledMethod_37 (lv_at hl 0 rfl) ?_
              refine lv_ifnull hx hb dX_calledMethod_39 ?_
              refine lv_aload_n hx hb dX_calledMethod_42 rfl (lv_at hl 2 rfl) ?_
              refine lv_aload hx hb dX_calledMethod_43 (lv_at hl 0 rfl) ?_
              refine lv_aload_n hx hb dX_calledMethod_45 rfl (lv_at hl 3 rfl) ?_
              refine mw_Vl (As := [.ref (ma y), .ref (ma j)]) (rest := []) F (c_X_overridesMethod hw1 (xw_mc hw hy) hj (xw_m hw1 hy) (by simp)) kb_X_overridesMethod ki_X_overridesMethod ks_X_overridesMethod kl_X_97 hM (xw_x hw1) rfl rfl hl.1 rfl (Nat.le_of_ble_eq_true rfl) dX_calledMethod_46 ⟨⟨Nat.le_of_ble_eq_true rfl, Nat.le_of_ble_eq_true rfl⟩, Nat.le_of_ble_eq_true rfl, Nat.le_of_ble_eq_true rfl⟩ ⟨rfl, rfl⟩ (fun lp2 H locs hM => ?_)
              rw [mw_uu] at hM
              rw [hy2, hy5, hy6]
              refine lv_if_eq (tgt := 55) hx hb dX_calledMethod_49 (by decide) (fun h3 => ?_) (fun h3 => ?_)
              · exact next lp2 H locs ls (by rw [hq, mb_z h3]; rfl) hM (lv_sub hl [1, 2, 3, 4] rfl)
              · refine lv_aload hx hb dX_calledMethod_52 (lv_at hl 0 rfl) ?_
                exact mr_a (o := some (ma y)) F hr hM (⟨by rw [hq, mb_n h3]; rfl, lp2, rfl⟩) dX_calledMethod_54 ⟨Nat.le_of_ble_eq_true rfl, Nat.le_of_ble_eq_true rfl⟩
    refine lv_aload_n hx hb dX_calledMethod_9 rfl (lv_at hl 2 rfl) ?_
    refine lv_astore_n (lv' := [(3, .ref (ca c)), (0, .ref x), (1, .ref (ma j)), (2, .ref (ca c))]) hx hb dX_calledMethod_10 rfl hl (by decide) rfl (fun ls hl => ?_)
    exact loop (c + 1) (some c) lp _ _ ls (fun d hd => by cases hd; exact ⟨Nat.lt_succ_self _, hc⟩) hcl (by rw [mw_id (xw_ql hw)]; exact hM) (lv_sub hl [0, 1, 2, 3] rfl)
  · refine lv_aload_n hx hb dX_calledMethod_7 rfl (lv_at hl 1 rfl) ?_
    exact mr_a (o := some (ma j)) F hr hM (⟨by unfold sg_cl; rw [if_pos h1]; rfl, lp, (mw_id (xw_ql hw)).symm⟩) dX_calledMethod_8 ⟨Nat.le_of_ble_eq_true rfl, Nat.le_of_ble_eq_true rfl⟩
end GC
