section GC
variable {l : Launch} {G : mw_G} {M : mw_M} {x qc qm ql : Nat} {ca ma : Nat → Nat} {σ : sg_T} {rf : Int32} {lp : Nat → Int32}
set_option maxHeartbeats 4000000 in
set_option maxRecDepth 100000 in
theorem c_X_seen (hw : xw_ G M x qc qm ql ca ma σ rf lp) (a b : Int32) : mw_C l G yX_seen bX_seen 8 (some .int) { frames := 5, cells := 0, slots := 0, locals := 200 } M [.ref x, .int a, .int b] (pl_ G ql (some (.int (sp_se σ a b))) M) := by
  refine mw_of (by decide) (Nat.le_of_ble_eq_true rfl) ?_
  intro pg en s mi below meth cd F hr _ hM ls hl
  obtain ⟨hx, hb, -⟩ := id F
  have hl : lv_has ls 8 [(0, .ref x), (1, .int a), (2, .int b)] := hl
  refine lv_aload_n hx hb dX_seen_0 rfl (lv_at hl 0 rfl) ?_
  refine lv_iload_n hx hb dX_seen_1 rfl (lv_at hl 1 rfl) ?_
  refine mw_Vp (As := [.int a]) (rest := []) F (c_X_classAt hw a) kb_X_classAt ki_X_classAt ks_X_classAt kl_X_35 hM (xw_x hw) rfl rfl hl.1 rfl (Nat.le_of_ble_eq_true rfl) dX_seen_2 ⟨⟨Nat.le_of_ble_eq_true rfl, Nat.le_of_ble_eq_true rfl⟩, Nat.le_of_ble_eq_true rfl, Nat.le_of_ble_eq_true rfl⟩ ⟨rfl, rfl⟩ (fun H locs hM => ?_)
  rcases h1 : ix_o a (sg_nc σ) with _ | i
  · refine lv_astore_nN (lv' := [(3, .null), (0, .ref x), (1, .int a), (2, .int b)]) hx hb dX_seen_5 rfl hl (by decide) rfl (fun ls hl => ?_)
    refine lv_aload_n hx hb dX_seen_6 rfl (lv_at hl 1 rfl) ?_
    refine lv_iload_n hx hb dX_seen_7 rfl (lv_at hl 3 rfl) ?_
    refine mw_Vp (As := [.int b]) (rest := []) F (c_X_classAt hw b) kb_X_classAt ki_X_classAt ks_X_classAt kl_X_35 hM (xw_x hw) rfl rfl hl.1 rfl (Nat.le_of_ble_eq_true rfl) dX_seen_8 ⟨⟨Nat.le_of_ble_eq_true rfl, Nat.le_of_ble_eq_true rfl⟩, Nat.le_of_ble_eq_true rfl, Nat.le_of_ble_eq_true rfl⟩ ⟨rfl, rfl⟩ (fun H locs hM => ?_)
    refine mv_ast (lv' := [(4, va_rf ((ix_o b (sg_nc σ)).map ca)), (3, .null), (0, .ref x), (1, .int a), (2, .int b)]) hx hb dX_seen_11 hl (by decide) rfl (fun ls hl => ?_)
    refine lv_aload_nN hx hb dX_seen_13 rfl (lv_at hl 1 rfl) ?_
    refine lv_ifnullN (tgt := 22) hx hb dX_seen_14 (by decide) ?_
    refine lv_iconst (v := (-1)) hx hb dX_seen_22 (by decide) ?_
    exact mr_i F hr hM (⟨by unfold sp_se; rw [h1], lp, (mw_id (xw_ql hw)).symm⟩) dX_seen_23 ⟨Nat.le_of_ble_eq_true rfl, Nat.le_of_ble_eq_true rfl⟩
  · have lh1 := (ix_some (by have := xw_nc hw; omega) h1).1
    refine lv_astore_n (lv' := [(3, .ref (ca i)), (0, .ref x), (1, .int a), (2, .int b)]) hx hb dX_seen_5 rfl hl (by decide) rfl (fun ls hl => ?_)
    refine lv_aload_n hx hb dX_seen_6 rfl (lv_at hl 1 rfl) ?_
    refine lv_iload_n hx hb dX_seen_7 rfl (lv_at hl 3 rfl) ?_
    refine mw_Vp (As := [.int b]) (rest := []) F (c_X_classAt hw b) kb_X_classAt ki_X_classAt ks_X_classAt kl_X_35 hM (xw_x hw) rfl rfl hl.1 rfl (Nat.le_of_ble_eq_true rfl) dX_seen_8 ⟨⟨Nat.le_of_ble_eq_true rfl, Nat.le_of_ble_eq_true rfl⟩, Nat.le_of_ble_eq_true rfl, Nat.le_of_ble_eq_true rfl⟩ ⟨rfl, rfl⟩ (fun H locs hM => ?_)
    rcases h2 : ix_o b (sg_nc σ) with _ | j
    · refine lv_astoreN (lv' := [(4, .null), (3, .ref (ca i)), (0, .ref x), (1, .int a), (2, .int b)]) hx hb dX_seen_11 hl (by decide) rfl (fun ls hl => ?_)
      refine lv_aload_n hx hb dX_seen_13 rfl (lv_at hl 1 rfl) ?_
      refine lv_ifnull hx hb dX_seen_14 ?_
      refine lv_aloadN hx hb dX_seen_17 (lv_at hl 0 rfl) ?_
      refine lv_ifnonnullN hx hb dX_seen_19 ?_
      refine lv_iconst (v := (-1)) hx hb dX_seen_22 (by decide) ?_
      exact mr_i F hr hM (⟨by unfold sp_se; rw [h1, h2], lp, (mw_id (xw_ql hw)).symm⟩) dX_seen_23 ⟨Nat.le_of_ble_eq_true rfl, Nat.le_of_ble_eq_true rfl⟩
    · have lh2 := (ix_some (by have := xw_nc hw; omega) h2).1
      have hsp : sp_se σ a b = nI (sg_cn (fun m => decide (sg_mc σ m ∈ ln_o (sg_pr σ) (some j)) && (sg_rc σ i m && !sg_hd σ m j)) (sg_nm σ)) := by unfold sp_se; rw [h1, h2]; rfl
      have loop : ∀ (z n : Nat) (o : Option Nat) (lp1 : Nat → Int32) (H : Heap) (locs : List Loc) (ls : Array Slot), (∀ d, o = some d → d < z ∧ d < sg_nc σ) → sp_se σ a b = nI (n + sg_cn (fun m => decide (sg_mc σ m ∈ ln_o (sg_pr σ) o) && (sg_rc σ i m && !sg_hd σ m j)) (sg_nm σ)) → mw_S G (mw_up M ql ((3, 0), aI_ G 40 lp1)) s.heap H locs → lv_has ls 8 [(6, va_rf (o.map ca)), (5, .int (nI n)), (4, .ref (ca j)), (3, .ref (ca i)), (0, .ref x), (1, .int a), (2, .int b)] → W pg l en { frames := 5, cells := 0, slots := 0, locals := 200 } s mi [.ref x, .int a, .int b].toArray below meth cd H locs 0 0 (MQ below (mw_Q G (pl_ G ql (some (.int (sp_se σ a b))) M)) [.ref x, .int a, .int b].toArray s 0 0 (mw_A G)) (F0 mi 31 ls []) := by
        intro z
        induction z using Nat.strongRecOn with
        | ind z ih =>
          intro n o lp1 H locs ls hd hq hM hl
          rcases o with _ | d
          · have hl : lv_has ls 8 [(6, .null), (5, .int (nI n)), (4, .ref (ca j)), (3, .ref (ca i)), (0, .ref x), (1, .int a), (2, .int b)] := hl
            refine lv_aloadN hx hb dX_seen_31 (lv_at hl 0 rfl) ?_
            refine lv_ifnullN (tgt := 91) hx hb dX_seen_33 (by decide) ?_
            refine lv_iload hx hb dX_seen_91 (lv_at hl 1 rfl) ?_
            exact mr_i F hr hM (⟨by rw [hq, cn_no (fun q _ => by simp [ln_o])]; rfl, lp1, rfl⟩) dX_seen_93 ⟨Nat.le_of_ble_eq_true rfl, Nat.le_of_ble_eq_true rfl⟩
          · have hl : lv_has ls 8 [(6, .ref (ca d)), (5, .int (nI n)), (4, .ref (ca j)), (3, .ref (ca i)), (0, .ref x), (1, .int a), (2, .int b)] := hl
            obtain ⟨hd1, hd2⟩ := hd d rfl
            have hpr : ∀ q, sg_pr σ d = some q → q < d := fun q hq2 => xw_pr hw hd2 hq2
            have hln : ln_o (sg_pr σ) (some d) = d :: ln_o (sg_pr σ) (sg_pr σ d) := ln_e hpr
            rw [hln, cn_ln (ln_lt hpr)] at hq
            have inner : ∀ (y n : Nat) (lp1 : Nat → Int32) (H : Heap) (locs : List Loc) (ls : Array Slot), y ≤ sg_nm σ → sp_se σ a b = nI (n + (sg_cn (fun m => decide (sg_mc σ m = d) && (sg_rc σ i m && !sg_hd σ m j)) y + sg_cn (fun m => decide (sg_mc σ m ∈ ln_o (sg_pr σ) (sg_pr σ d)) && (sg_rc σ i m && !sg_hd σ m j)) (sg_nm σ))) → mw_S G (mw_up M ql ((3, 0), aI_ G 40 lp1)) s.heap H locs → lv_has ls 8 [(7, va_rf ((fo_g (fun m => decide (sg_mc σ m = d)) y).map ma)), (6, .ref (ca d)), (5, .int (nI n)), (4, .ref (ca j)), (3, .ref (ca i)), (0, .ref x), (1, .int a), (2, .int b)] → W pg l en { frames := 5, cells := 0, slots := 0, locals := 200 } s mi [.ref x, .int a, .int b].toArray below meth cd H locs 0 0 (MQ below (mw_Q G (pl_ G ql (some (.int (sp_se σ a b))) M)) [.ref x, .int a, .int b].toArray s 0 0 (mw_A G)) (F0 mi 43 ls []) := by
              intro y
              induction y using Nat.strongRecOn with
              | ind y ihy =>
                intro n lp1 H locs ls hy hq hM hl
                have hw1 := xw_lp hw lp1
                have hnx := cn_nx (P := fun m => decide (sg_mc σ m = d)) (Q := fun m => (sg_rc σ i m && !sg_hd σ m j)) (n := y)
                generalize ho : fo_g (fun m => decide (sg_mc σ m = d)) y = o at hl hnx
                rcases o with _ | f
                · have hl : lv_has ls 8 [(7, .null), (6, .ref (ca d)), (5, .int (nI n)), (4, .ref (ca j)), (3, .ref (ca i)), (0, .ref x), (1, .int a), (2, .int b)] := hl
                  refine lv_aloadN hx hb dX_seen_43 (lv_at hl 0 rfl) ?_
                  refine lv_ifnullN (tgt := 81) hx hb dX_seen_45 (by decide) ?_
                  refine lv_aload hx hb dX_seen_81 (lv_at hl 1 rfl) ?_
                  refine gf_X_122 F hM (xw_c hw1 hd2) rfl dX_seen_83 ?_
                  refine mv_ast (lv' := [(6, va_rf ((sg_pr σ d).map ca)), (7, .null), (5, .int (nI n)), (4, .ref (ca j)), (3, .ref (ca i)), (0, .ref x), (1, .int a), (2, .int b)]) hx hb dX_seen_86 hl (by decide) rfl (fun ls hl => ?_)
                  refine lv_goto (tgt := 31) hx hb dX_seen_88 (by decide) ?_
                  exact ih d hd1 n (sg_pr σ d) lp1 H locs ls (fun q hq2 => ⟨hpr q hq2, Nat.lt_trans (hpr q hq2) hd2⟩) (by rw [hq, hnx.1 rfl, Nat.zero_add]) hM (lv_sub hl [0, 2, 3, 4, 5, 6, 7] rfl)
                · have hl : lv_has ls 8 [(7, .ref (ma f)), (6, .ref (ca d)), (5, .int (nI n)), (4, .ref (ca j)), (3, .ref (ca i)), (0, .ref x), (1, .int a), (2, .int b)] := hl
                  obtain ⟨hf1, hf2⟩ := fo_some ho
                  have hf3 : f < sg_nm σ := by omega
                  have hf4 : sg_mc σ f = d := by simpa using hf2
                  have hcn := hnx.2 f rfl
                  rw [hcn] at hq
                  have next : ∀ (n1 : Nat) (lp2 : Nat → Int32) (H : Heap) (locs : List Loc) (ls : Array Slot), n1 = n + (if (sg_rc σ i f && !sg_hd σ f j) then 1 else 0) → mw_S G (mw_up M ql ((3, 0), aI_ G 40 lp2)) s.heap H locs → lv_has ls 8 [(7, .ref (ma f)), (6, .ref (ca d)), (5, .int (nI n1)), (4, .ref (ca j)), (3, .ref (ca i)), (0, .ref x), (1, .int a), (2, .int b)] → W pg l en { frames := 5, cells := 0, slots := 0, locals := 200 } s mi [.ref x, .int a, .int b].toArray below meth cd H locs 0 0 (MQ below (mw_Q G (pl_ G ql (some (.int (sp_se σ a b))) M)) [.ref x, .int a, .int b].toArray s 0 0 (mw_A G)) (F0 mi 71 ls []) := by
                    intro n1 lp2 H locs ls hn1 hM hl
                    have hw2 := xw_lp hw lp2
                    refine lv_aload hx hb dX_seen_71 (lv_at hl 0 rfl) ?_
                    refine gf_X_119 F hM (xw_m hw2 hf3) rfl dX_seen_73 ?_
                    refine mv_v (y := va_rf ((fo_g (fun m => decide (sg_mc σ m = d)) f).map ma)) (by rw [hf4]) ?_
                    refine mv_ast (lv' := [(7, va_rf ((fo_g (fun m => decide (sg_mc σ m = d)) f).map ma)), (6, .ref (ca d)), (5, .int (nI n1)), (4, .ref (ca j)), (3, .ref (ca i)), (0, .ref x), (1, .int a), (2, .int b)]) hx hb dX_seen_76 hl (by decide) rfl (fun ls hl => ?_)
                    refine lv_goto (tgt := 43) hx hb dX_seen_78 (by decide) ?_
                    exact ihy f hf1 n1 lp2 H locs ls (by omega) (by rw [hq, hn1]; congr 1; omega) hM (lv_sub hl [0, 1, 2, 3, 4, 5, 6, 7] rfl)
                  refine lv_aload hx hb dX_seen_43 (lv_at hl 0 rfl) ?_
                  refine lv_ifnull hx hb dX_seen_45 ?_
                  refine lv_aload hx hb dX_seen_48 (lv_at hl 0 rfl) ?_
                  refine lv_aload_n hx hb dX_seen_50 rfl (lv_at hl 4 rfl) ?_
                  refine mw_Vp (As := [.ref (ca i)]) (rest := []) F (c_N_isReachedBy hw1 lh1 hf3) kb_N_isReachedBy ki_N_isReachedBy ks_N_isReachedBy kl_X_65 hM (xw_m hw1 hf3) rfl rfl hl.1 rfl (Nat.le_of_ble_eq_true rfl) dX_seen_51 ⟨⟨Nat.le_of_ble_eq_true rfl, Nat.le_of_ble_eq_true rfl⟩, Nat.le_of_ble_eq_true rfl, Nat.le_of_ble_eq_true rfl⟩ ⟨rfl, rfl⟩ (fun H locs hM => ?_)
                  refine lv_if_eq (tgt := 71) hx hb dX_seen_54 (by decide) (fun h3 => ?_) (fun h3 => ?_)
                  · exact next n lp1 H locs ls (by rw [mb_z h3]; simp) hM (lv_sub hl [0, 1, 2, 3, 4, 5, 6, 7] rfl)
                  · refine lv_aload_n hx hb dX_seen_57 rfl (lv_at hl 5 rfl) ?_
                    refine lv_aload hx hb dX_seen_58 (lv_at hl 0 rfl) ?_
                    refine lv_aload hx hb dX_seen_60 (lv_at hl 3 rfl) ?_
                    refine mw_Vl (As := [.ref (ma f), .ref (ca j)]) (rest := []) F (c_X_isHidden hw1 hf3 lh2) kb_X_isHidden ki_X_isHidden ks_X_isHidden kl_X_115 hM (xw_x hw1) rfl rfl hl.1 rfl (Nat.le_of_ble_eq_true rfl) dX_seen_62 ⟨⟨Nat.le_of_ble_eq_true rfl, Nat.le_of_ble_eq_true rfl⟩, Nat.le_of_ble_eq_true rfl, Nat.le_of_ble_eq_true rfl⟩ ⟨rfl, rfl⟩ (fun lp2 H locs hM => ?_)
                    rw [mw_uu] at hM
                    refine lv_if_ne (tgt := 71) hx hb dX_seen_65 (by decide) (fun h4 => ?_) (fun h4 => ?_)
                    · exact next n lp2 H locs ls (by rw [mb_n h4]; simp) hM (lv_sub hl [0, 1, 2, 3, 4, 5, 6, 7] rfl)
                    · refine lv_iinc (v := nI (n + 1)) (lv' := [(5, .int (nI (n + 1))), (7, .ref (ma f)), (6, .ref (ca d)), (4, .ref (ca j)), (3, .ref (ca i)), (0, .ref x), (1, .int a), (2, .int b)]) hx hb dX_seen_68 hl (k := 2) rfl (ii_1 n) (by decide) rfl (fun ls hl => ?_)
                      exact next (n + 1) lp2 H locs ls (by rw [mb_n h3, mb_z h4]; rfl) hM (lv_sub hl [1, 2, 0, 3, 4, 5, 6, 7] rfl)
            have hw1 := xw_lp hw lp1
            refine lv_aload hx hb dX_seen_31 (lv_at hl 0 rfl) ?_
            refine lv_ifnull hx hb dX_seen_33 ?_
            refine lv_aload hx hb dX_seen_36 (lv_at hl 0 rfl) ?_
            refine gf_X_111 F hM (xw_c hw1 hd2) rfl dX_seen_38 ?_
            refine mv_ast (lv' := [(7, va_rf ((fo_g (fun m => decide (sg_mc σ m = d)) (sg_nm σ)).map ma)), (6, .ref (ca d)), (5, .int (nI n)), (4, .ref (ca j)), (3, .ref (ca i)), (0, .ref x), (1, .int a), (2, .int b)]) hx hb dX_seen_41 hl (by decide) rfl (fun ls hl => ?_)
            exact inner (sg_nm σ) n lp1 H locs ls (Nat.le_refl _) hq hM (lv_sub hl [0, 1, 2, 3, 4, 5, 6, 7] rfl)
      refine lv_astore (lv' := [(4, .ref (ca j)), (3, .ref (ca i)), (0, .ref x), (1, .int a), (2, .int b)]) hx hb dX_seen_11 hl (by decide) rfl (fun ls hl => ?_)
      refine lv_aload_n hx hb dX_seen_13 rfl (lv_at hl 1 rfl) ?_
      refine lv_ifnull hx hb dX_seen_14 ?_
      refine lv_aload hx hb dX_seen_17 (lv_at hl 0 rfl) ?_
      refine lv_ifnonnull (tgt := 24) hx hb dX_seen_19 (by decide) ?_
      refine lv_iconst (v := 0) hx hb dX_seen_24 (by decide) ?_
      refine lv_istore (lv' := [(5, .int 0), (4, .ref (ca j)), (3, .ref (ca i)), (0, .ref x), (1, .int a), (2, .int b)]) hx hb dX_seen_25 hl (by decide) rfl (fun ls hl => ?_)
      refine lv_aload hx hb dX_seen_27 (lv_at hl 1 rfl) ?_
      refine lv_astore (lv' := [(6, .ref (ca j)), (5, .int 0), (4, .ref (ca j)), (3, .ref (ca i)), (0, .ref x), (1, .int a), (2, .int b)]) hx hb dX_seen_29 hl (by decide) rfl (fun ls hl => ?_)
      exact loop (j + 1) 0 (some j) lp _ _ ls (fun d hd => by cases hd; exact ⟨Nat.lt_succ_self _, lh2⟩) (by rw [hsp, Nat.zero_add]) (by rw [mw_id (xw_ql hw)]; exact hM) (lv_sub hl [0, 1, 2, 3, 4, 5, 6] rfl)
end GC
