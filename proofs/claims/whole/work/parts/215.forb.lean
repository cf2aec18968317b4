section GC
variable {l : Launch} {G : mw_G} {M : mw_M} {x qc qm ql : Nat} {ca ma : Nat → Nat} {σ : sg_T} {rf : Int32} {lp : Nat → Int32}
set_option maxHeartbeats 4000000 in
set_option maxRecDepth 100000 in
theorem c_X_isForbiddenFromAbove (hw : xw_ G M x qc qm ql ca ma σ rf lp) {c xa : Nat} {rx : Nat × Nat} {k n t r : Int32} {st fn : Bool} {f7 f8 : Value} (hc : c < sg_nc σ) (hxa : M xa = some (rx, .inr (ciN, [.ref (ca c), .int k, .int n, .int t, .int (mb_i st), .int (mb_i fn), .int r, f7, f8]))) (hrx : rx ≠ (3, 0)) : mw_C l G yX_isForbiddenFromAbove bX_isForbiddenFromAbove 6 (some .boolean) { frames := 3, cells := 0, slots := 0, locals := 120 } M [.ref x, .ref (ca c), .ref xa] (pl_ G ql (some (.int (mb_i (sg_fb σ c n t st r)))) M) := by
  refine mw_of (by decide) (Nat.le_of_ble_eq_true rfl) ?_
  intro pg en s mi below meth cd F hr _ hM ls hl
  obtain ⟨hx, hb, -⟩ := id F
  have hl : lv_has ls 6 [(0, .ref x), (1, .ref (ca c)), (2, .ref xa)] := hl
  have loop : ∀ (u : Nat) (o : Option Nat) (lp1 : Nat → Int32) (H : Heap) (locs : List Loc) (ls : Array Slot), (∀ d, o = some d → d < u ∧ d < sg_nc σ) → sg_fb σ c n t st r = fb_l σ c n t st r (ln_o (sg_pr σ) o) → mw_S G (mw_up M ql ((3, 0), aI_ G 40 lp1)) s.heap H locs → lv_has ls 6 [(3, va_rf (o.map ca)), (0, .ref x), (1, .ref (ca c)), (2, .ref xa)] → W pg l en { frames := 3, cells := 0, slots := 0, locals := 120 } s mi [.ref x, .ref (ca c), .ref xa].toArray below meth cd H locs 0 0 (MQ below (mw_Q G (pl_ G ql (some (.int (mb_i (sg_fb σ c n t st r)))) M)) [.ref x, .ref (ca c), .ref xa].toArray s 0 0 (mw_A G)) (F0 mi 5 ls []) := by
    intro u
    induction u using Nat.strongRecOn with
    | ind u ih =>
      intro o lp1 H locs ls hd hq hM hl
      have hw1 := xw_lp hw lp1
      have hxa1 := mw_oth (g := aI_ G 40 lp1) (xw_ql hw) hxa hrx
      rcases o with _ | d
      · have hl : lv_has ls 6 [(3, .null), (0, .ref x), (1, .ref (ca c)), (2, .ref xa)] := hl
        refine lv_aload_nN hx hb dX_isForbiddenFromAbove_5 rfl (lv_at hl 0 rfl) ?_
        refine lv_ifnullN (tgt := 107) hx hb dX_isForbiddenFromAbove_6 (by decide) ?_
        refine lv_iconst (v := 0) hx hb dX_isForbiddenFromAbove_107 (by decide) ?_
        exact mr_z (v := false) F hr hM (⟨by rw [hq]; rfl, lp1, rfl⟩) dX_isForbiddenFromAbove_108 ⟨Nat.le_of_ble_eq_true rfl, Nat.le_of_ble_eq_true rfl⟩
      · have hl : lv_has ls 6 [(3, .ref (ca d)), (0, .ref x), (1, .ref (ca c)), (2, .ref xa)] := hl
        obtain ⟨hd1, hd2⟩ := hd d rfl
        have hln : ln_o (sg_pr σ) (some d) = d :: ln_o (sg_pr σ) (sg_pr σ d) := ln_e (fun z hz => xw_pr hw hd2 hz)
        rw [hln] at hq
        have hst : fb_l σ c n t st r (d :: ln_o (sg_pr σ) (sg_pr σ d)) = (fb_c σ c n t st r d || fb_l σ c n t st r (ln_o (sg_pr σ) (sg_pr σ d))) := rfl
        rw [hst] at hq
        have next : ∀ (lp2 : Nat → Int32) (H : Heap) (locs : List Loc) (ls : Array Slot), fb_c σ c n t st r d = false → mw_S G (mw_up M ql ((3, 0), aI_ G 40 lp2)) s.heap H locs → lv_has ls 6 [(3, .ref (ca d)), (0, .ref x), (1, .ref (ca c)), (2, .ref xa)] → W pg l en { frames := 3, cells := 0, slots := 0, locals := 120 } s mi [.ref x, .ref (ca c), .ref xa].toArray below meth cd H locs 0 0 (MQ below (mw_Q G (pl_ G ql (some (.int (mb_i (sg_fb σ c n t st r)))) M)) [.ref x, .ref (ca c), .ref xa].toArray s 0 0 (mw_A G)) (F0 mi 99 ls []) := by
          intro lp2 H locs ls hk hM hl
          have hw2 := xw_lp hw lp2
          refine lv_aload_n hx hb dX_isForbiddenFromAbove_99 rfl (lv_at hl 0 rfl) ?_
          refine gf_X_122 F hM (xw_c hw2 hd2) rfl dX_isForbiddenFromAbove_100 ?_
          refine mv_ast_n (lv' := [(3, va_rf ((sg_pr σ d).map ca)), (0, .ref x), (1, .ref (ca c)), (2, .ref xa)]) hx hb dX_isForbiddenFromAbove_103 rfl hl (by decide) rfl (fun ls hl => ?_)
          refine lv_goto (tgt := 5) hx hb dX_isForbiddenFromAbove_104 (by decide) ?_
          exact ih d hd1 (sg_pr σ d) lp2 H locs ls (fun z hz => ⟨xw_pr hw hd2 hz, Nat.lt_trans (xw_pr hw hd2 hz) hd2⟩) (by rw [hq, hk]; rfl) hM (lv_sub hl [0, 1, 2, 3] rfl)
        have fin : ∀ (b : Bool) (lp2 : Nat → Int32) (H : Heap) (locs : List Loc) (ls : Array Slot), fb_c σ c n t st r d = b → mw_S G (mw_up M ql ((3, 0), aI_ G 40 lp2)) s.heap H locs → lv_has ls 6 [(3, .ref (ca d)), (0, .ref x), (1, .ref (ca c)), (2, .ref xa)] → W pg l en { frames := 3, cells := 0, slots := 0, locals := 120 } s mi [.ref x, .ref (ca c), .ref xa].toArray below meth cd H locs 0 0 (MQ below (mw_Q G (pl_ G ql (some (.int (mb_i (sg_fb σ c n t st r)))) M)) [.ref x, .ref (ca c), .ref xa].toArray s 0 0 (mw_A G)) (F0 mi 90 ls [.int (mb_i b)]) := by
          intro b lp2 H locs ls hk hM hl
          refine lv_istore (lv' := [(5, .int (mb_i b)), (3, .ref (ca d)), (0, .ref x), (1, .ref (ca c)), (2, .ref xa)]) hx hb dX_isForbiddenFromAbove_90 hl (by decide) rfl (fun ls hl => ?_)
          refine lv_iload hx hb dX_isForbiddenFromAbove_92 (lv_at hl 0 rfl) ?_
          refine lv_if_eq (tgt := 99) hx hb dX_isForbiddenFromAbove_94 (by decide) (fun h9 => ?_) (fun h9 => ?_)
          · exact next lp2 H locs ls (by rw [hk]; exact mb_z h9) hM (lv_sub hl [1, 2, 3, 4] rfl)
          · refine lv_iconst (v := 1) hx hb dX_isForbiddenFromAbove_97 (by decide) ?_
            exact mr_z (v := true) F hr hM (⟨by rw [hq, hk, mb_n h9]; rfl, lp2, rfl⟩) dX_isForbiddenFromAbove_98 ⟨Nat.le_of_ble_eq_true rfl, Nat.le_of_ble_eq_true rfl⟩
        refine lv_aload_n hx hb dX_isForbiddenFromAbove_5 rfl (lv_at hl 0 rfl) ?_
        refine lv_ifnull hx hb dX_isForbiddenFromAbove_6 ?_
        refine lv_aload_n hx hb dX_isForbiddenFromAbove_9 rfl (lv_at hl 0 rfl) ?_
        refine lv_aload_n hx hb dX_isForbiddenFromAbove_10 rfl (lv_at hl 3 rfl) ?_
        refine gf_X_91 F hM hxa1 rfl dX_isForbiddenFromAbove_11 ?_
        refine lv_aload_n hx hb dX_isForbiddenFromAbove_14 rfl (lv_at hl 3 rfl) ?_
        refine gf_X_94 F hM hxa1 rfl dX_isForbiddenFromAbove_15 ?_
        refine mw_Vp (As := [.int n, .int t]) (rest := []) F (c_C_ownObjectMethod hw1 hd2 n t) kb_C_ownObjectMethod ki_C_ownObjectMethod ks_C_ownObjectMethod kl_X_139 hM (xw_c hw1 hd2) rfl rfl hl.1 rfl (Nat.le_of_ble_eq_true rfl) dX_isForbiddenFromAbove_18 ⟨⟨Nat.le_of_ble_eq_true rfl, Nat.le_of_ble_eq_true rfl⟩, Nat.le_of_ble_eq_true rfl, Nat.le_of_ble_eq_true rfl⟩ ⟨rfl, rfl⟩ (fun H locs hM => ?_)
        have hfc : fb_c σ c n t st r d = match sg_oo σ d n t with | none => false | some m => decide (¬ sg_rg σ m = 0) && (if st then sg_rc σ c m else (sg_fn σ m || decide (r < sg_rg σ m)) && ov_r σ c n t r m) := rfl
        rcases ho : sg_oo σ d n t with _ | y
        · refine lv_astoreN (lv' := [(4, .null), (3, .ref (ca d)), (0, .ref x), (1, .ref (ca c)), (2, .ref xa)]) hx hb dX_isForbiddenFromAbove_21 hl (by decide) rfl (fun ls hl => ?_)
          refine lv_aloadN hx hb dX_isForbiddenFromAbove_23 (lv_at hl 0 rfl) ?_
          refine lv_ifnullN (tgt := 99) hx hb dX_isForbiddenFromAbove_25 (by decide) ?_
          exact next lp1 H locs ls (by rw [hfc, ho]) hM (lv_sub hl [1, 2, 3, 4] rfl)
        · have hy := (oo_some ho).1
          rw [ho] at hfc
          dsimp only at hfc
          refine lv_astore (lv' := [(4, .ref (ma y)), (3, .ref (ca d)), (0, .ref x), (1, .ref (ca c)), (2, .ref xa)]) hx hb dX_isForbiddenFromAbove_21 hl (by decide) rfl (fun ls hl => ?_)
          refine lv_aload hx hb dX_isForbiddenFromAbove_23 (lv_at hl 0 rfl) ?_
          refine lv_ifnull hx hb dX_isForbiddenFromAbove_25 ?_
          refine lv_aload hx hb dX_isForbiddenFromAbove_28 (lv_at hl 0 rfl) ?_
          refine gf_X_102 F hM (xw_m hw1 hy) rfl dX_isForbiddenFromAbove_30 ?_
          refine lv_if_ne (tgt := 39) hx hb dX_isForbiddenFromAbove_33 (by decide) (fun h3 => ?_) (fun h3 => ?_)
          · refine lv_aload_n hx hb dX_isForbiddenFromAbove_39 rfl (lv_at hl 4 rfl) ?_
            refine gf_X_105 F hM hxa1 rfl dX_isForbiddenFromAbove_40 ?_
            refine lv_if_eq (tgt := 55) hx hb dX_isForbiddenFromAbove_43 (by decide) (fun h4 => ?_) (fun h4 => ?_)
            · have hst2 : st = false := mb_z h4
              have ovr : ∀ (H : Heap) (locs : List Loc) (ls : Array Slot), (sg_fn σ y || decide (r < sg_rg σ y)) = true → mw_S G (mw_up M ql ((3, 0), aI_ G 40 lp1)) s.heap H locs → lv_has ls 6 [(4, .ref (ma y)), (3, .ref (ca d)), (0, .ref x), (1, .ref (ca c)), (2, .ref xa)] → W pg l en { frames := 3, cells := 0, slots := 0, locals := 120 } s mi [.ref x, .ref (ca c), .ref xa].toArray below meth cd H locs 0 0 (MQ below (mw_Q G (pl_ G ql (some (.int (mb_i (sg_fb σ c n t st r)))) M)) [.ref x, .ref (ca c), .ref xa].toArray s 0 0 (mw_A G)) (F0 mi 75 ls []) := by
                intro H locs ls hk hM hl
                refine lv_aload_n hx hb dX_isForbiddenFromAbove_75 rfl (lv_at hl 2 rfl) ?_
                refine lv_aload_n hx hb dX_isForbiddenFromAbove_76 rfl (lv_at hl 4 rfl) ?_
                refine lv_aload hx hb dX_isForbiddenFromAbove_77 (lv_at hl 0 rfl) ?_
                refine mw_Vl (As := [.ref xa, .ref (ma y)]) (rest := []) F (c_X_overridesMethod hw1 hc hy hxa1 hrx) kb_X_overridesMethod ki_X_overridesMethod ks_X_overridesMethod kl_X_97 hM (xw_x hw1) rfl rfl hl.1 rfl (Nat.le_of_ble_eq_true rfl) dX_isForbiddenFromAbove_79 ⟨⟨Nat.le_of_ble_eq_true rfl, Nat.le_of_ble_eq_true rfl⟩, Nat.le_of_ble_eq_true rfl, Nat.le_of_ble_eq_true rfl⟩ ⟨rfl, rfl⟩ (fun lp2 H locs hM => ?_)
                rw [mw_uu] at hM
                refine lv_if_eq (tgt := 89) hx hb dX_isForbiddenFromAbove_82 (by decide) (fun h7 => ?_) (fun h7 => ?_)
                · refine lv_iconst (v := 0) hx hb dX_isForbiddenFromAbove_89 (by decide) ?_
                  exact fin false lp2 H locs ls (by rw [hfc, hst2, hk, mb_z h7]; simp) hM (lv_sub hl [1, 2, 3, 4] rfl)
                · refine lv_iconst (v := 1) hx hb dX_isForbiddenFromAbove_85 (by decide) ?_
                  refine lv_goto (tgt := 90) hx hb dX_isForbiddenFromAbove_86 (by decide) ?_
                  exact fin true lp2 H locs ls (by rw [hfc, hst2, hk, mb_n h7]; simp [h3]) hM (lv_sub hl [1, 2, 3, 4] rfl)
              refine lv_aload hx hb dX_isForbiddenFromAbove_55 (lv_at hl 0 rfl) ?_
              refine gf_X_68 F hM (xw_m hw1 hy) rfl dX_isForbiddenFromAbove_57 ?_
              refine lv_if_ne (tgt := 75) hx hb dX_isForbiddenFromAbove_60 (by decide) (fun h5 => ?_) (fun h5 => ?_)
              · exact ovr H locs ls (by rw [mb_n h5]; rfl) hM (lv_sub hl [0, 1, 2, 3, 4] rfl)
              · refine lv_aload hx hb dX_isForbiddenFromAbove_63 (lv_at hl 0 rfl) ?_
                refine gf_X_102 F hM (xw_m hw1 hy) rfl dX_isForbiddenFromAbove_65 ?_
                refine lv_aload_n hx hb dX_isForbiddenFromAbove_68 rfl (lv_at hl 4 rfl) ?_
                refine gf_X_102 F hM hxa1 rfl dX_isForbiddenFromAbove_69 ?_
                refine lv_icmp_le (tgt := 89) hx hb dX_isForbiddenFromAbove_72 (by decide) (fun h6 => ?_) (fun h6 => ?_)
                · refine lv_iconst (v := 0) hx hb dX_isForbiddenFromAbove_89 (by decide) ?_
                  exact fin false lp1 H locs ls (by rw [hfc, hst2, mb_z h5, decide_eq_false (i3_nlt h6)]; simp) hM (lv_sub hl [1, 2, 3, 4] rfl)
                · exact ovr H locs ls (by rw [decide_eq_true (i3_lt h6)]; simp) hM (lv_sub hl [0, 1, 2, 3, 4] rfl)
            · have hst2 : st = true := mb_n h4
              refine lv_aload hx hb dX_isForbiddenFromAbove_46 (lv_at hl 0 rfl) ?_
              refine lv_aload_n hx hb dX_isForbiddenFromAbove_48 rfl (lv_at hl 3 rfl) ?_
              refine mw_Vp (As := [.ref (ca c)]) (rest := []) F (c_N_isReachedBy hw1 hc hy) kb_N_isReachedBy ki_N_isReachedBy ks_N_isReachedBy kl_X_65 hM (xw_m hw1 hy) rfl rfl hl.1 rfl (Nat.le_of_ble_eq_true rfl) dX_isForbiddenFromAbove_49 ⟨⟨Nat.le_of_ble_eq_true rfl, Nat.le_of_ble_eq_true rfl⟩, Nat.le_of_ble_eq_true rfl, Nat.le_of_ble_eq_true rfl⟩ ⟨rfl, rfl⟩ (fun H locs hM => ?_)
              refine lv_goto (tgt := 90) hx hb dX_isForbiddenFromAbove_52 (by decide) ?_
              exact fin (sg_rc σ c y) lp1 H locs ls (by rw [hfc, hst2]; simp [h3]) hM (lv_sub hl [1, 2, 3, 4] rfl)
          · refine lv_goto (tgt := 99) hx hb dX_isForbiddenFromAbove_36 (by decide) ?_
            exact next lp1 H locs ls (by rw [hfc]; simp [h3]) hM (lv_sub hl [1, 2, 3, 4] rfl)
  refine lv_aload_n hx hb dX_isForbiddenFromAbove_0 rfl (lv_at hl 1 rfl) ?_
  refine gf_X_122 F hM (xw_c hw hc) rfl dX_isForbiddenFromAbove_1 ?_
  refine mv_ast_n (lv' := [(3, va_rf ((sg_pr σ c).map ca)), (0, .ref x), (1, .ref (ca c)), (2, .ref xa)]) hx hb dX_isForbiddenFromAbove_4 rfl hl (by decide) rfl (fun ls hl => ?_)
  exact loop c (sg_pr σ c) lp _ _ ls (fun z hz => ⟨xw_pr hw hc hz, Nat.lt_trans (xw_pr hw hc hz) hc⟩) rfl (by rw [mw_id (xw_ql hw)]; exact hM) (lv_sub hl [0, 1, 2, 3] rfl)
set_option maxHeartbeats 4000000 in
set_option maxRecDepth 100000 in
theorem c_X_refusalOfNew (hw : xw_ G M x qc qm ql ca ma σ rf lp) {c xa : Nat} {rx : Nat × Nat} {k n t r : Int32} {st fn : Bool} {f7 f8 : Value} (hc : c < sg_nc σ) (hxa : M xa = some (rx, .inr (ciN, [.ref (ca c), .int k, .int n, .int t, .int (mb_i st), .int (mb_i fn), .int r, f7, f8]))) (hrx : rx ≠ (3, 0)) : mw_C l G yX_refusalOfNew bX_refusalOfNew 3 (some .int) { frames := 4, cells := 0, slots := 0, locals := 160 } M [.ref x, .ref (ca c), .ref xa] (pl_ G ql (some (.int (sg_nr σ c k n t st r))) M) := by
  refine mw_of (by decide) (Nat.le_of_ble_eq_true rfl) ?_
  intro pg en s mi below meth cd F hr _ hM ls hl
  obtain ⟨hx, hb, -⟩ := id F
  have hl : lv_has ls 3 [(0, .ref x), (1, .ref (ca c)), (2, .ref xa)] := hl
  have hnm := xw_nm hw
  refine lv_aload_n hx hb dX_refusalOfNew_0 rfl (lv_at hl 2 rfl) ?_
  refine gf_X_91 F hM hxa rfl dX_refusalOfNew_1 ?_
  refine mw_Zp (As := [.int n]) (rest := []) F (c_X_isName n) kb_X_isName ki_X_isName kl_X_57 hM rfl hl.1 rfl (Nat.le_of_ble_eq_true rfl) dX_refusalOfNew_4 ⟨⟨Nat.le_of_ble_eq_true rfl, Nat.le_of_ble_eq_true rfl⟩, Nat.le_of_ble_eq_true rfl, Nat.le_of_ble_eq_true rfl⟩ ⟨rfl, rfl⟩ (fun H locs hM => ?_)
  refine lv_if_eq (tgt := 20) hx hb dX_refusalOfNew_7 (by decide) (fun h1 => ?_) (fun h1 => ?_)
  · have h1 := of_decide_eq_false (mb_z h1)
    refine lv_iconst (v := 2) hx hb dX_refusalOfNew_20 (by decide) ?_
    exact mr_i F hr hM (⟨by unfold sg_nr; rw [if_pos (by rcases Decidable.not_not.mp h1 with q | q; exact Or.inl q; exact Or.inr (Or.inl q))], lp, (mw_id (xw_ql hw)).symm⟩) dX_refusalOfNew_21 ⟨Nat.le_of_ble_eq_true rfl, Nat.le_of_ble_eq_true rfl⟩
  · have h1 := of_decide_eq_true (mb_n h1)
    refine lv_aload_n hx hb dX_refusalOfNew_10 rfl (lv_at hl 2 rfl) ?_
    refine gf_X_102 F hM hxa rfl dX_refusalOfNew_11 ?_
    refine mw_Zp (As := [.int r]) (rest := []) F (c_X_isRights r) kb_X_isRights ki_X_isRights kl_X_128 hM rfl hl.1 rfl (Nat.le_of_ble_eq_true rfl) dX_refusalOfNew_14 ⟨⟨Nat.le_of_ble_eq_true rfl, Nat.le_of_ble_eq_true rfl⟩, Nat.le_of_ble_eq_true rfl, Nat.le_of_ble_eq_true rfl⟩ ⟨rfl, rfl⟩ (fun H locs hM => ?_)
    refine lv_if_ne (tgt := 22) hx hb dX_refusalOfNew_17 (by decide) (fun h2 => ?_) (fun h2 => ?_)
    · have h2 := of_decide_eq_true (mb_n h2)
      have h0 : ¬ (n < 0 ∨ 99 < n ∨ r < 0 ∨ 3 < r) := fun z => by
        rcases z with z | z | z
        · exact h1 (Or.inl z)
        · exact h1 (Or.inr z)
        · exact h2 z
      refine lv_aload_n hx hb dX_refusalOfNew_22 rfl (lv_at hl 1 rfl) ?_
      refine lv_aload_n hx hb dX_refusalOfNew_23 rfl (lv_at hl 2 rfl) ?_
      refine gf_X_108 F hM hxa rfl dX_refusalOfNew_24 ?_
      refine lv_aload_n hx hb dX_refusalOfNew_27 rfl (lv_at hl 2 rfl) ?_
      refine gf_X_91 F hM hxa rfl dX_refusalOfNew_28 ?_
      refine lv_aload_n hx hb dX_refusalOfNew_31 rfl (lv_at hl 2 rfl) ?_
      refine gf_X_94 F hM hxa rfl dX_refusalOfNew_32 ?_
      refine mw_Vp (As := [.int k, .int n, .int t]) (rest := []) F (c_C_own hw hc k n t) kb_C_own ki_C_own ks_C_own kl_X_131 hM (xw_c hw hc) rfl rfl hl.1 rfl (Nat.le_of_ble_eq_true rfl) dX_refusalOfNew_35 ⟨⟨Nat.le_of_ble_eq_true rfl, Nat.le_of_ble_eq_true rfl⟩, Nat.le_of_ble_eq_true rfl, Nat.le_of_ble_eq_true rfl⟩ ⟨rfl, rfl⟩ (fun H locs hM => ?_)
      rcases ho : sg_ow σ c k n t with _ | y
      · refine lv_ifnullN (tgt := 43) hx hb dX_refusalOfNew_38 (by decide) ?_
        have last : ∀ (lp1 : Nat → Int32) (H : Heap) (locs : List Loc) (ls : Array Slot), ¬ (k = 1 ∧ sg_fb σ c n t st r = true) → mw_S G (mw_up M ql ((3, 0), aI_ G 40 lp1)) s.heap H locs → lv_has ls 3 [(0, .ref x), (1, .ref (ca c)), (2, .ref xa)] → W pg l en { frames := 4, cells := 0, slots := 0, locals := 160 } s mi [.ref x, .ref (ca c), .ref xa].toArray below meth cd H locs 0 0 (MQ below (mw_Q G (pl_ G ql (some (.int (sg_nr σ c k n t st r))) M)) [.ref x, .ref (ca c), .ref xa].toArray s 0 0 (mw_A G)) (F0 mi 63 ls []) := by
          intro lp1 H locs ls hk hM hl
          have hw1 := xw_lp hw lp1
          have hnr : sg_nr σ c k n t st r = if 200 ≤ sg_nm σ then 5 else 0 := by unfold sg_nr; rw [if_neg h0, ho, if_neg (by decide), if_neg hk]
          refine lv_aload_n hx hb dX_refusalOfNew_63 rfl (lv_at hl 0 rfl) ?_
          refine gf_X_29 F hM (xw_x hw1) rfl dX_refusalOfNew_64 ?_
          refine lv_sipush (v := 200) hx hb dX_refusalOfNew_67 (by decide) ?_
          refine lv_icmp_lt (tgt := 77) hx hb dX_refusalOfNew_70 (by decide) (fun h6 => ?_) (fun h6 => ?_)
          · refine lv_iconst (v := 0) hx hb dX_refusalOfNew_77 (by decide) ?_
            exact mr_i F hr hM (⟨by rw [hnr, if_neg (fun z => absurd ((nI_ltI (b := 200) (by omega) (by omega)).mp h6) (by omega))], lp1, rfl⟩) dX_refusalOfNew_78 ⟨Nat.le_of_ble_eq_true rfl, Nat.le_of_ble_eq_true rfl⟩
          · refine lv_iconst (v := 5) hx hb dX_refusalOfNew_73 (by decide) ?_
            refine lv_goto (tgt := 78) hx hb dX_refusalOfNew_74 (by decide) ?_
            exact mr_i F hr hM (⟨by rw [hnr, if_pos (Nat.not_lt.mp (fun z => h6 ((nI_ltI (b := 200) (by omega) (by omega)).mpr z)))], lp1, rfl⟩) dX_refusalOfNew_78 ⟨Nat.le_of_ble_eq_true rfl, Nat.le_of_ble_eq_true rfl⟩
        refine lv_aload_n hx hb dX_refusalOfNew_43 rfl (lv_at hl 2 rfl) ?_
        refine gf_X_108 F hM hxa rfl dX_refusalOfNew_44 ?_
        refine lv_iconst (v := 1) hx hb dX_refusalOfNew_47 (by decide) ?_
        refine lv_icmp_ne (tgt := 63) hx hb dX_refusalOfNew_48 (by decide) (fun h4 => ?_) (fun h4 => ?_)
        · exact last lp H locs ls (fun z => h4 z.1) (by rw [mw_id (xw_ql hw)]; exact hM) (lv_sub hl [0, 1, 2] rfl)
        · refine lv_aload_n hx hb dX_refusalOfNew_51 rfl (lv_at hl 0 rfl) ?_
          refine lv_aload_n hx hb dX_refusalOfNew_52 rfl (lv_at hl 1 rfl) ?_
          refine lv_aload_n hx hb dX_refusalOfNew_53 rfl (lv_at hl 2 rfl) ?_
          refine mw_Vl (As := [.ref (ca c), .ref xa]) (rest := []) F (c_X_isForbiddenFromAbove hw hc hxa hrx) kb_X_isForbiddenFromAbove ki_X_isForbiddenFromAbove ks_X_isForbiddenFromAbove kl_X_135 hM (xw_x hw) rfl rfl hl.1 rfl (Nat.le_of_ble_eq_true rfl) dX_refusalOfNew_54 ⟨⟨Nat.le_of_ble_eq_true rfl, Nat.le_of_ble_eq_true rfl⟩, Nat.le_of_ble_eq_true rfl, Nat.le_of_ble_eq_true rfl⟩ ⟨rfl, rfl⟩ (fun lp1 H locs hM => ?_)
          refine lv_if_eq (tgt := 63) hx hb dX_refusalOfNew_57 (by decide) (fun h5 => ?_) (fun h5 => ?_)
          · exact last lp1 H locs ls (fun z => by rw [mb_z h5] at z; exact absurd z.2 (by decide)) hM (lv_sub hl [0, 1, 2] rfl)
          · refine lv_bipush (v := 8) hx hb dX_refusalOfNew_60 (by decide) ?_
            exact mr_i F hr hM (⟨by unfold sg_nr; rw [if_neg h0, ho, if_neg (by decide), if_pos ⟨h4, mb_n h5⟩], lp1, rfl⟩) dX_refusalOfNew_62 ⟨Nat.le_of_ble_eq_true rfl, Nat.le_of_ble_eq_true rfl⟩
      · refine lv_ifnull hx hb dX_refusalOfNew_38 ?_
        refine lv_iconst (v := 4) hx hb dX_refusalOfNew_41 (by decide) ?_
        exact mr_i F hr hM (⟨by unfold sg_nr; rw [if_neg h0, ho]; rfl, lp, (mw_id (xw_ql hw)).symm⟩) dX_refusalOfNew_42 ⟨Nat.le_of_ble_eq_true rfl, Nat.le_of_ble_eq_true rfl⟩
    · have h2 := of_decide_eq_false (mb_z h2)
      refine lv_iconst (v := 2) hx hb dX_refusalOfNew_20 (by decide) ?_
      exact mr_i F hr hM (⟨by unfold sg_nr; rw [if_pos (Or.inr (Or.inr (Decidable.not_not.mp h2)))], lp, (mw_id (xw_ql hw)).symm⟩) dX_refusalOfNew_21 ⟨Nat.le_of_ble_eq_true rfl, Nat.le_of_ble_eq_true rfl⟩
set_option maxHeartbeats 4000000 in
set_option maxRecDepth 100000 in
theorem c_X_isHidden (hw : xw_ G M x qc qm ql ca ma σ rf lp) {j c : Nat} (hj : j < sg_nm σ) (hc : c < sg_nc σ) : mw_C l G yX_isHidden bX_isHidden 3 (some .boolean) { frames := 4, cells := 0, slots := 0, locals := 160 } M [.ref x, .ref (ma j), .ref (ca c)] (pl_ G ql (some (.int (mb_i (sg_hd σ j c)))) M) := by
  refine mw_of (by decide) (Nat.le_of_ble_eq_true rfl) ?_
  intro pg en s mi below meth cd F hr _ hM ls hl
  obtain ⟨hx, hb, -⟩ := id F
  have hl : lv_has ls 3 [(0, .ref x), (1, .ref (ma j)), (2, .ref (ca c))] := hl
  refine lv_aload_n hx hb dX_isHidden_0 rfl (lv_at hl 1 rfl) ?_
  refine gf_X_108 F hM (xw_m hw hj) rfl dX_isHidden_1 ?_
  refine lv_if_ne (tgt := 27) hx hb dX_isHidden_4 (by decide) (fun h1 => ?_) (fun h1 => ?_)
  · have hhd : sg_hd σ j c = (sg_ob σ j && decide (¬ sg_cl σ j c = j)) := by unfold sg_hd; rw [if_neg h1]
    refine lv_aload_n hx hb dX_isHidden_27 rfl (lv_at hl 1 rfl) ?_
    refine mw_Vp (As := []) (rest := []) F (c_N_isObjectMethod hw hj) kb_N_isObjectMethod ki_N_isObjectMethod ks_N_isObjectMethod kl_X_83 hM (xw_m hw hj) rfl rfl hl.1 rfl (Nat.le_of_ble_eq_true rfl) dX_isHidden_28 ⟨⟨Nat.le_of_ble_eq_true rfl, Nat.le_of_ble_eq_true rfl⟩, Nat.le_of_ble_eq_true rfl, Nat.le_of_ble_eq_true rfl⟩ ⟨rfl, rfl⟩ (fun H locs hM => ?_)
    refine lv_if_eq (tgt := 48) hx hb dX_isHidden_31 (by decide) (fun h2 => ?_) (fun h2 => ?_)
    · refine lv_iconst (v := 0) hx hb dX_isHidden_48 (by decide) ?_
      exact mr_z (v := false) F hr hM (⟨by rw [hhd, mb_z h2]; rfl, lp, (mw_id (xw_ql hw)).symm⟩) dX_isHidden_49 ⟨Nat.le_of_ble_eq_true rfl, Nat.le_of_ble_eq_true rfl⟩
    · refine lv_aload_n hx hb dX_isHidden_34 rfl (lv_at hl 0 rfl) ?_
      refine lv_aload_n hx hb dX_isHidden_35 rfl (lv_at hl 1 rfl) ?_
      refine lv_aload_n hx hb dX_isHidden_36 rfl (lv_at hl 2 rfl) ?_
      refine mw_Vl (As := [.ref (ma j), .ref (ca c)]) (rest := []) F (c_X_calledMethod hw hj hc) kb_X_calledMethod ki_X_calledMethod ks_X_calledMethod kl_X_87 hM (xw_x hw) rfl rfl hl.1 rfl (Nat.le_of_ble_eq_true rfl) dX_isHidden_37 ⟨⟨Nat.le_of_ble_eq_true rfl, Nat.le_of_ble_eq_true rfl⟩, Nat.le_of_ble_eq_true rfl, Nat.le_of_ble_eq_true rfl⟩ ⟨rfl, rfl⟩ (fun lp1 H locs hM => ?_)
      refine lv_aload_n hx hb dX_isHidden_40 rfl (lv_at hl 1 rfl) ?_
      refine lv_acmp_eq (rx := some (ma (sg_cl σ j c))) (ry := some (ma j)) (tgt := 48) hx hb dX_isHidden_41 (by decide) (fun h3 => ?_) (fun h3 => ?_)
      · refine lv_iconst (v := 0) hx hb dX_isHidden_48 (by decide) ?_
        exact mr_z (v := false) F hr hM (⟨by rw [hhd, mb_n h2, decide_eq_false (fun z => z ((xw_mq hw (cl_lt2 hj) hj).mp h3))]; rfl, lp1, rfl⟩) dX_isHidden_49 ⟨Nat.le_of_ble_eq_true rfl, Nat.le_of_ble_eq_true rfl⟩
      · refine lv_iconst (v := 1) hx hb dX_isHidden_44 (by decide) ?_
        refine lv_goto (tgt := 49) hx hb dX_isHidden_45 (by decide) ?_
        exact mr_z (v := true) F hr hM (⟨by rw [hhd, mb_n h2, decide_eq_true (show ¬ sg_cl σ j c = j from fun z => h3 ((xw_mq hw (cl_lt2 hj) hj).mpr z))]; rfl, lp1, rfl⟩) dX_isHidden_49 ⟨Nat.le_of_ble_eq_true rfl, Nat.le_of_ble_eq_true rfl⟩
  · refine lv_aload_n hx hb dX_isHidden_7 rfl (lv_at hl 2 rfl) ?_
    refine lv_aload_n hx hb dX_isHidden_8 rfl (lv_at hl 1 rfl) ?_
    refine gf_X_91 F hM (xw_m hw hj) rfl dX_isHidden_9 ?_
    refine lv_iconst (v := 0) hx hb dX_isHidden_12 (by decide) ?_
    refine lv_iconst (v := 4) hx hb dX_isHidden_13 (by decide) ?_
    refine mw_Zp (As := [.ref (ca c), .int (sg_mn σ j), .int 0, .int 4]) (rest := []) F (c_X_firstAsTold hw hc (sg_mn σ j) 0 4) kb_X_firstAsTold ki_X_firstAsTold kl_X_61 hM rfl hl.1 rfl (Nat.le_of_ble_eq_true rfl) dX_isHidden_14 ⟨⟨Nat.le_of_ble_eq_true rfl, Nat.le_of_ble_eq_true rfl⟩, Nat.le_of_ble_eq_true rfl, Nat.le_of_ble_eq_true rfl⟩ ⟨rfl, rfl⟩ (fun H locs hM => ?_)
    have hhd : sg_hd σ j c = decide (¬ sg_fi σ c (sg_mn σ j) 0 4 = some j) := by unfold sg_hd; rw [if_pos h1]
    have hiff : (sg_fi σ c (sg_mn σ j) 0 4).map ma = some (ma j) ↔ sg_fi σ c (sg_mn σ j) 0 4 = some j := by
      cases e : sg_fi σ c (sg_mn σ j) 0 4 with
      | none => simp
      | some f => exact (xw_mq hw (fi_lt2 e) hj).trans ⟨fun q => by rw [q], fun q => Option.some.inj q⟩
    refine lv_aload_n hx hb dX_isHidden_17 rfl (lv_at hl 1 rfl) ?_
    refine lv_acmp_eq (rx := ((sg_fi σ c (sg_mn σ j) 0 4).map ma)) (ry := some (ma j)) (tgt := 25) hx hb dX_isHidden_18 (by decide) (fun h2 => ?_) (fun h2 => ?_)
    · refine lv_iconst (v := 0) hx hb dX_isHidden_25 (by decide) ?_
      exact mr_z (v := false) F hr hM (⟨by rw [hhd, decide_eq_false (fun z => z (hiff.mp h2))], lp, (mw_id (xw_ql hw)).symm⟩) dX_isHidden_26 ⟨Nat.le_of_ble_eq_true rfl, Nat.le_of_ble_eq_true rfl⟩
    · refine lv_iconst (v := 1) hx hb dX_isHidden_21 (by decide) ?_
      refine lv_goto (tgt := 26) hx hb dX_isHidden_22 (by decide) ?_
      exact mr_z (v := true) F hr hM (⟨by rw [hhd, decide_eq_true (show ¬ sg_fi σ c (sg_mn σ j) 0 4 = some j from fun z => h2 (hiff.mpr z))], lp, (mw_id (xw_ql hw)).symm⟩) dX_isHidden_26 ⟨Nat.le_of_ble_eq_true rfl, Nat.le_of_ble_eq_true rfl⟩
end GC
