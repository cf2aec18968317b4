section GC
variable {l : Launch} {G : mw_G} {M : mw_M} {y : Nat} {q : Nat → Nat} {σ : sg_T} {rf : Int32} {f : Nat → Nat → Int32} {ch : Nat → Int32} {lk : Int32} {ov : Nat → Int32}
set_option maxHeartbeats 4000000 in
set_option maxRecDepth 100000 in
theorem c_Y_gather (hw : yw_ G M y q σ rf f ch lk ov) (o : Option Nat) (hd0 : ∀ d, o = some d → d < sg_nc σ) (n t : Int32) : mw_C l G yY_gather bY_gather 6 none { frames := 2, cells := 0, slots := 0, locals := 80 } M [.ref y, .int (eo_i o), .int n, .int t] (pz_ G y q none σ rf f M (fun ch' lk' ov' => ov' = ov ∧ ∃ (g : Nat → Nat) (N : Nat), lk' = nI N ∧ N ≤ 40 ∧ (ln_o (sg_pr σ) o).filterMap (fun c => sg_oo σ c n t) = dn_l g N ∧ ∀ k, k < N → ch' k = nI (g k))) := by
  refine mw_of (by decide) (Nat.le_of_ble_eq_true rfl) ?_
  intro pg en s mi below meth cd F hr _ hM ls hl
  obtain ⟨hx, hb, -⟩ := id F
  have hl : lv_has ls 6 [(0, .ref y), (1, .int (eo_i o)), (2, .int n), (3, .int t)] := hl
  have hnc := yw_nc hw
  have hnm := yw_nm hw
  have rev : ∀ (A : List Nat) (v k : Nat) (M1 : mw_M) (ch1 : Nat → Int32) (H : Heap) (locs : List Loc) (ls : Array Slot), A.length ≤ 40 → (ln_o (sg_pr σ) o).filterMap (fun c => sg_oo σ c n t) = A → A.length < k + v → 2 * k ≤ A.length → (∀ p, p < A.length → ch1 p = nI (if p < k ∨ A.length - 1 - k < p then la_ A (A.length - 1 - p) else la_ A p)) → yw_ G M1 y q σ rf f ch1 (nI A.length) ov → ky_ M M1 → mw_S G M1 s.heap H locs → lv_has ls 6 [(4, .int (nI k)), (0, .ref y), (1, .int (eo_i o)), (2, .int n), (3, .int t)] → W pg l en { frames := 2, cells := 0, slots := 0, locals := 80 } s mi [.ref y, .int (eo_i o), .int n, .int t].toArray below meth cd H locs 0 0 (MQ below (mw_Q G (pz_ G y q none σ rf f M (fun ch' lk' ov' => ov' = ov ∧ ∃ (g : Nat → Nat) (N : Nat), lk' = nI N ∧ N ≤ 40 ∧ (ln_o (sg_pr σ) o).filterMap (fun c => sg_oo σ c n t) = dn_l g N ∧ ∀ k, k < N → ch' k = nI (g k)))) [.ref y, .int (eo_i o), .int n, .int t].toArray s 0 0 (mw_A G)) (F0 mi 69 ls []) := by
    intro A v
    induction v with
    | zero => intro k M1 ch1 H locs ls h1 h2 h3 h4; omega
    | succ v ih =>
      intro k M1 ch1 H locs ls hA40 hLA hv hk hch hw1 k1 hM hl
      refine lv_iload hx hb dY_gather_69 (lv_at hl 0 rfl) ?_
      refine lv_aload_n hx hb dY_gather_71 rfl (lv_at hl 1 rfl) ?_
      refine gf_Y_91 F hM (yw_y hw1) rfl dY_gather_72 ?_
      refine lv_iconst (v := 2) hx hb dY_gather_75 (by decide) ?_
      refine lv_idiv hx hb dY_gather_76 (by decide) ?_
      refine mv_i (y := nI (A.length / 2)) (pk_div (d := 2) (by omega) (by omega) (by omega)) ?_
      refine lv_icmp_ge (tgt := 132) hx hb dY_gather_77 (by decide) (fun h5 => ?_) (fun h5 => ?_)
      · have hk2 : A.length / 2 ≤ k := (nI_leI (by omega) (by omega)).mp h5
        exact mr_v F hr hM (⟨rfl, ch1, nI A.length, ov, hw1, k1, rfl, fun k => la_ A (A.length - 1 - k), A.length, rfl, hA40, by rw [hLA]; exact (dn_la A).symm, fun p hp => by
        rw [hch p hp]
        by_cases hc : p < k ∨ A.length - 1 - k < p
        · rw [if_pos hc]
        · rw [if_neg hc]
          show nI (la_ A p) = nI (la_ A (A.length - 1 - p))
          rw [show A.length - 1 - p = p by omega]⟩) dY_gather_132 ⟨Nat.le_of_ble_eq_true rfl, Nat.le_of_ble_eq_true rfl⟩
      · have hk2 : k < A.length / 2 := Nat.not_le.mp (fun z => h5 (nI_le z (by omega)))
        have hk3 : k < A.length - 1 - k := by omega
        refine lv_aload_n hx hb dY_gather_80 rfl (lv_at hl 1 rfl) ?_
        refine gf_Y_38 F hM (yw_y hw1) rfl dY_gather_81 ?_
        refine lv_iload hx hb dY_gather_84 (lv_at hl 0 rfl) ?_
        refine mw_ild F hM (yw_9 hw1) (vp_in_nI (by omega) (by omega)) dY_gather_86 ?_
        refine mv_i (y := ch1 k) (by rw [nI_clamp (by omega)]) ?_
        refine lv_istore (lv' := [(5, .int (ch1 k)), (4, .int (nI k)), (0, .ref y), (1, .int (eo_i o)), (2, .int n), (3, .int t)]) hx hb dY_gather_87 hl (by decide) rfl (fun ls hl => ?_)
        refine lv_aload_n hx hb dY_gather_89 rfl (lv_at hl 2 rfl) ?_
        refine gf_Y_38 F hM (yw_y hw1) rfl dY_gather_90 ?_
        refine lv_iload hx hb dY_gather_93 (lv_at hl 1 rfl) ?_
        refine lv_aload_n hx hb dY_gather_95 rfl (lv_at hl 2 rfl) ?_
        refine gf_Y_38 F hM (yw_y hw1) rfl dY_gather_96 ?_
        refine lv_aload_n hx hb dY_gather_99 rfl (lv_at hl 2 rfl) ?_
        refine gf_Y_91 F hM (yw_y hw1) rfl dY_gather_100 ?_
        refine lv_iconst (v := 1) hx hb dY_gather_103 (by decide) ?_
        refine lv_isub hx hb dY_gather_104 ?_
        refine mv_i (y := nI (A.length - 1)) (pk_sub (b := 1) (by omega)) ?_
        refine lv_iload hx hb dY_gather_105 (lv_at hl 1 rfl) ?_
        refine lv_isub hx hb dY_gather_107 ?_
        refine mv_i (y := nI (A.length - 1 - k)) (pk_sub (by omega)) ?_
        refine mw_ild F hM (yw_9 hw1) (vp_in_nI (by omega) (by omega)) dY_gather_108 ?_
        refine mv_i (y := ch1 (A.length - 1 - k)) (by rw [nI_clamp (by omega)]) ?_
        refine mw_ist F hM (yw_9 hw1) (vp_in_nI (by omega) (by omega)) dY_gather_109 (fun H locs hM => ?_)
        rw [nI_clamp (show k < 2 ^ 31 by omega)] at hM
        have hw2 := yw_ch hw1 (upd ch1 k (ch1 (A.length - 1 - k)))
        have k2 : ky_ M1 (mw_up M1 (q 9) ((20, 0), aI_ G 41 (upd ch1 k (ch1 (A.length - 1 - k))))) := ky_up (yw_9 hw1) (by decide)
        generalize mw_up M1 (q 9) ((20, 0), aI_ G 41 (upd ch1 k (ch1 (A.length - 1 - k)))) = M2 at hM hw2 k2
        refine lv_aload_n hx hb dY_gather_110 rfl (lv_at hl 2 rfl) ?_
        refine gf_Y_38 F hM (yw_y hw2) rfl dY_gather_111 ?_
        refine lv_aload_n hx hb dY_gather_114 rfl (lv_at hl 2 rfl) ?_
        refine gf_Y_91 F hM (yw_y hw2) rfl dY_gather_115 ?_
        refine lv_iconst (v := 1) hx hb dY_gather_118 (by decide) ?_
        refine lv_isub hx hb dY_gather_119 ?_
        refine mv_i (y := nI (A.length - 1)) (pk_sub (b := 1) (by omega)) ?_
        refine lv_iload hx hb dY_gather_120 (lv_at hl 1 rfl) ?_
        refine lv_isub hx hb dY_gather_122 ?_
        refine mv_i (y := nI (A.length - 1 - k)) (pk_sub (by omega)) ?_
        refine lv_iload hx hb dY_gather_123 (lv_at hl 0 rfl) ?_
        refine mw_ist F hM (yw_9 hw2) (vp_in_nI (by omega) (by omega)) dY_gather_125 (fun H locs hM => ?_)
        rw [nI_clamp (show A.length - 1 - k < 2 ^ 31 by omega)] at hM
        have hw3 := yw_ch hw2 (upd (upd ch1 k (ch1 (A.length - 1 - k))) (A.length - 1 - k) (ch1 k))
        have k3 : ky_ M2 (mw_up M2 (q 9) ((20, 0), aI_ G 41 (upd (upd ch1 k (ch1 (A.length - 1 - k))) (A.length - 1 - k) (ch1 k)))) := ky_up (yw_9 hw2) (by decide)
        generalize mw_up M2 (q 9) ((20, 0), aI_ G 41 (upd (upd ch1 k (ch1 (A.length - 1 - k))) (A.length - 1 - k) (ch1 k))) = M3 at hM hw3 k3
        refine lv_iinc (v := nI (k + 1)) (lv' := [(4, .int (nI (k + 1))), (5, .int (ch1 k)), (0, .ref y), (1, .int (eo_i o)), (2, .int n), (3, .int t)]) hx hb dY_gather_126 hl (k := 1) rfl (ii_1 k) (by decide) rfl (fun ls hl => ?_)
        refine lv_goto (tgt := 69) hx hb dY_gather_129 (by decide) ?_
        exact ih (k + 1) M3 (upd (upd ch1 k (ch1 (A.length - 1 - k))) (A.length - 1 - k) (ch1 k)) H locs ls hA40 hLA (by omega) (by omega) (fun p hp => by
          have h1 := hch k (by omega)
          have h2 := hch (A.length - 1 - k) (by omega)
          have h3 := hch p hp
          rw [if_neg (by omega)] at h1 h2
          by_cases e1 : p = A.length - 1 - k
          · rw [e1, up_at, h1, if_pos (by omega), show A.length - 1 - (A.length - 1 - k) = k by omega]
          · rw [upd, if_neg e1]
            by_cases e2 : p = k
            · rw [e2, up_at, h2, if_pos (by omega)]
            · rw [upd, if_neg e2, h3]
              by_cases e3 : p < k ∨ A.length - 1 - k < p
              · rw [if_pos e3, if_pos (by omega)]
              · rw [if_neg e3, if_neg (by omega)]) hw3 (ky_tr (ky_tr k1 k2) k3) hM (lv_sub hl [0, 2, 3, 4, 5] rfl)
  have loop : ∀ (z : Nat) (o1 : Option Nat) (A : List Nat) (M1 : mw_M) (ch1 : Nat → Int32) (H : Heap) (locs : List Loc) (ls : Array Slot), (∀ d, o1 = some d → d < z ∧ d < sg_nc σ ∧ A.length + d + 1 ≤ 40) → A.length ≤ 40 → (ln_o (sg_pr σ) o).filterMap (fun c => sg_oo σ c n t) = A ++ (ln_o (sg_pr σ) o1).filterMap (fun c => sg_oo σ c n t) → (∀ p, p < A.length → ch1 p = nI (la_ A p)) → yw_ G M1 y q σ rf f ch1 (nI A.length) ov → ky_ M M1 → mw_S G M1 s.heap H locs → lv_has ls 6 [(4, .int (eo_i o1)), (0, .ref y), (1, .int (eo_i o)), (2, .int n), (3, .int t)] → W pg l en { frames := 2, cells := 0, slots := 0, locals := 80 } s mi [.ref y, .int (eo_i o), .int n, .int t].toArray below meth cd H locs 0 0 (MQ below (mw_Q G (pz_ G y q none σ rf f M (fun ch' lk' ov' => ov' = ov ∧ ∃ (g : Nat → Nat) (N : Nat), lk' = nI N ∧ N ≤ 40 ∧ (ln_o (sg_pr σ) o).filterMap (fun c => sg_oo σ c n t) = dn_l g N ∧ ∀ k, k < N → ch' k = nI (g k)))) [.ref y, .int (eo_i o), .int n, .int t].toArray s 0 0 (mw_A G)) (F0 mi 8 ls []) := by
    intro z
    induction z using Nat.strongRecOn with
    | ind z ihz =>
      intro o1 A M1 ch1 H locs ls hd hA40 hq hch hw1 k1 hM hl
      rcases o1 with _ | d
      · have hl : lv_has ls 6 [(4, .int (-1)), (0, .ref y), (1, .int (eo_i o)), (2, .int n), (3, .int t)] := hl
        refine lv_iload hx hb dY_gather_8 (lv_at hl 0 rfl) ?_
        refine lv_iconst (v := (-1)) hx hb dY_gather_10 (by decide) ?_
        refine lv_icmp_eq (tgt := 66) hx hb dY_gather_11 (by decide) (fun h6 => ?_) (fun h6 => absurd rfl h6)
        refine lv_iconst (v := 0) hx hb dY_gather_66 (by decide) ?_
        refine lv_istore (lv' := [(4, .int 0), (0, .ref y), (1, .int (eo_i o)), (2, .int n), (3, .int t)]) hx hb dY_gather_67 hl (by decide) rfl (fun ls hl => ?_)
        exact rev A (A.length + 1) 0 M1 ch1 H locs ls hA40 (by rw [hq]; exact List.append_nil A) (by omega) (by omega) (fun p hp => by rw [if_neg (by omega)]; exact hch p hp) hw1 k1 hM (lv_sub hl [0, 1, 2, 3, 4] rfl)
      · have hl : lv_has ls 6 [(4, .int (nI d)), (0, .ref y), (1, .int (eo_i o)), (2, .int n), (3, .int t)] := hl
        obtain ⟨hd1, hd2, hd3⟩ := hd d rfl
        have hpr : ∀ q, sg_pr σ d = some q → q < d := fun q hq2 => yw_pr hw hd2 hq2
        have hln : ln_o (sg_pr σ) (some d) = d :: ln_o (sg_pr σ) (sg_pr σ d) := ln_e hpr
        rw [hln] at hq
        refine lv_iload hx hb dY_gather_8 (lv_at hl 0 rfl) ?_
        refine lv_iconst (v := (-1)) hx hb dY_gather_10 (by decide) ?_
        refine lv_icmp_eq (tgt := 66) hx hb dY_gather_11 (by decide) (fun h6 => absurd h6 (nI_m1 (by omega))) (fun h6 => ?_)
        have next : ∀ (A2 : List Nat) (M1 : mw_M) (ch1 : Nat → Int32) (H : Heap) (locs : List Loc) (ls : Array Slot), A2.length ≤ A.length + 1 → (ln_o (sg_pr σ) o).filterMap (fun c => sg_oo σ c n t) = A2 ++ (ln_o (sg_pr σ) (sg_pr σ d)).filterMap (fun c => sg_oo σ c n t) → (∀ p, p < A2.length → ch1 p = nI (la_ A2 p)) → yw_ G M1 y q σ rf f ch1 (nI A2.length) ov → ky_ M M1 → mw_S G M1 s.heap H locs → lv_has ls 6 [(4, .int (nI d)), (0, .ref y), (1, .int (eo_i o)), (2, .int n), (3, .int t)] → W pg l en { frames := 2, cells := 0, slots := 0, locals := 80 } s mi [.ref y, .int (eo_i o), .int n, .int t].toArray below meth cd H locs 0 0 (MQ below (mw_Q G (pz_ G y q none σ rf f M (fun ch' lk' ov' => ov' = ov ∧ ∃ (g : Nat → Nat) (N : Nat), lk' = nI N ∧ N ≤ 40 ∧ (ln_o (sg_pr σ) o).filterMap (fun c => sg_oo σ c n t) = dn_l g N ∧ ∀ k, k < N → ch' k = nI (g k)))) [.ref y, .int (eo_i o), .int n, .int t].toArray s 0 0 (mw_A G)) (F0 mi 54 ls []) := by
          intro A2 M1 ch1 H locs ls hA2 hq2 hch2 hw1 k1 hM hl
          refine lv_aload_n hx hb dY_gather_54 rfl (lv_at hl 1 rfl) ?_
          refine gf_Y_7 F hM (yw_y hw1) rfl dY_gather_55 ?_
          refine lv_iload hx hb dY_gather_58 (lv_at hl 0 rfl) ?_
          refine mw_ild F hM (yw_0 hw1) (vp_in_nI (by omega) (by omega)) dY_gather_60 ?_
          refine mv_i (y := (eo_i (sg_pr σ d))) (by rw [nI_clamp (by omega)]; exact yv_0 hw1 hd2) ?_
          refine lv_istore (lv' := [(4, .int (eo_i (sg_pr σ d))), (0, .ref y), (1, .int (eo_i o)), (2, .int n), (3, .int t)]) hx hb dY_gather_61 hl (by decide) rfl (fun ls hl => ?_)
          refine lv_goto (tgt := 8) hx hb dY_gather_63 (by decide) ?_
          exact ihz d hd1 (sg_pr σ d) A2 M1 ch1 H locs ls (fun z hz => by have := hpr z hz; exact ⟨this, by omega, by omega⟩) (by omega) hq2 hch2 hw1 k1 hM (lv_sub hl [0, 1, 2, 3, 4] rfl)
        refine lv_aload_n hx hb dY_gather_14 rfl (lv_at hl 1 rfl) ?_
        refine lv_iload hx hb dY_gather_15 (lv_at hl 0 rfl) ?_
        refine lv_iload_n hx hb dY_gather_17 rfl (lv_at hl 3 rfl) ?_
        refine lv_iload_n hx hb dY_gather_18 rfl (lv_at hl 4 rfl) ?_
        refine mw_Vp (As := [.int (nI d), .int n, .int t]) (rest := []) F (c_Y_ownIn hw1 hd2 n t) kb_Y_ownIn ki_Y_ownIn ks_Y_ownIn kl_Y_80 hM (yw_y hw1) rfl rfl hl.1 rfl (Nat.le_of_ble_eq_true rfl) dY_gather_19 ⟨⟨Nat.le_of_ble_eq_true rfl, Nat.le_of_ble_eq_true rfl⟩, Nat.le_of_ble_eq_true rfl, Nat.le_of_ble_eq_true rfl⟩ ⟨rfl, rfl⟩ (fun H locs hM => ?_)
        rcases ho : sg_oo σ d n t with _ | m1
        · refine lv_istore (lv' := [(5, .int (-1)), (4, .int (nI d)), (0, .ref y), (1, .int (eo_i o)), (2, .int n), (3, .int t)]) hx hb dY_gather_22 hl (by decide) rfl (fun ls hl => ?_)
          refine lv_iload hx hb dY_gather_24 (lv_at hl 0 rfl) ?_
          refine lv_iconst (v := (-1)) hx hb dY_gather_26 (by decide) ?_
          refine lv_icmp_ne (tgt := 33) hx hb dY_gather_27 (by decide) (fun h7 => absurd rfl h7) (fun h7 => ?_)
          refine lv_goto (tgt := 54) hx hb dY_gather_30 (by decide) ?_
          exact next A M1 ch1 H locs ls (by omega) (by rw [hq, fm_n ho]) hch hw1 k1 hM (lv_sub hl [1, 2, 3, 4, 5] rfl)
        · have hm1 := (oo_some ho).1
          refine lv_istore (lv' := [(5, .int (nI m1)), (4, .int (nI d)), (0, .ref y), (1, .int (eo_i o)), (2, .int n), (3, .int t)]) hx hb dY_gather_22 hl (by decide) rfl (fun ls hl => ?_)
          refine lv_iload hx hb dY_gather_24 (lv_at hl 0 rfl) ?_
          refine lv_iconst (v := (-1)) hx hb dY_gather_26 (by decide) ?_
          refine lv_icmp_ne (tgt := 33) hx hb dY_gather_27 (by decide) (fun h7 => ?_) (fun h7 => absurd h7 (nI_m1 (by omega)))
          refine lv_aload_n hx hb dY_gather_33 rfl (lv_at hl 2 rfl) ?_
          refine gf_Y_38 F hM (yw_y hw1) rfl dY_gather_34 ?_
          refine lv_aload_n hx hb dY_gather_37 rfl (lv_at hl 2 rfl) ?_
          refine gf_Y_91 F hM (yw_y hw1) rfl dY_gather_38 ?_
          refine lv_iload hx hb dY_gather_41 (lv_at hl 0 rfl) ?_
          refine mw_ist F hM (yw_9 hw1) (vp_in_nI (by omega) (by omega)) dY_gather_43 (fun H locs hM => ?_)
          rw [nI_clamp (show A.length < 2 ^ 31 by omega)] at hM
          have hw2 := yw_ch hw1 (upd ch1 A.length (nI m1))
          have k2 : ky_ M1 (mw_up M1 (q 9) ((20, 0), aI_ G 41 (upd ch1 A.length (nI m1)))) := ky_up (yw_9 hw1) (by decide)
          generalize mw_up M1 (q 9) ((20, 0), aI_ G 41 (upd ch1 A.length (nI m1))) = M2 at hM hw2 k2
          refine lv_aload_n hx hb dY_gather_44 rfl (lv_at hl 2 rfl) ?_
          refine lv_dup hx hb dY_gather_45 rfl ?_
          refine gf_Y_91 F hM (yw_y hw2) rfl dY_gather_46 ?_
          refine lv_iconst (v := 1) hx hb dY_gather_49 (by decide) ?_
          refine lv_iadd hx hb dY_gather_50 ?_
          refine mv_i (y := nI (A.length + 1)) (nI_1 A.length) ?_
          refine pf_Y_91 F hM (yw_y hw2) (Nat.le_of_ble_eq_true rfl) dY_gather_51 (fun H locs hM => ?_)
          have hM : mw_S G (mw_up M2 y ((10, 0), .inr (ciY, [.ref (q 0), .ref (q 1), .int (nI (sg_nc σ)), .ref (q 2), .ref (q 3), .ref (q 4), .ref (q 5), .ref (q 6), .ref (q 7), .ref (q 8), .int (nI (sg_nm σ)), .int rf, .ref (q 9), .int (nI (A.length + 1)), .ref (q 10)]))) s.heap H locs := hM
          exact next (A ++ [m1]) _ (upd ch1 A.length (nI m1)) H locs ls (by simp) (by rw [hq, fm_s ho]; simp) (fun p hp => by
            have hp : p < A.length + 1 := by simpa using hp
            by_cases e1 : p = A.length
            · rw [e1, up_at, la_at]
            · rw [up_ol (by omega), la_lt (by omega)]; exact hch p (by omega)) (by
            have := yw_rf hw2 rf (nI (A.length + 1))
            rw [show (A ++ [m1]).length = A.length + 1 by simp]; exact this) (ky_tr (ky_tr k1 k2) (ky_up (yw_y hw2) (by decide))) hM (lv_sub hl [1, 2, 3, 4, 5] rfl)
  refine lv_aload_n hx hb dY_gather_0 rfl (lv_at hl 0 rfl) ?_
  refine lv_iconst (v := 0) hx hb dY_gather_1 (by decide) ?_
  refine pf_Y_91 F hM (yw_y hw) (Nat.le_of_ble_eq_true rfl) dY_gather_2 (fun H locs hM => ?_)
  have hM : mw_S G (mw_up M y ((10, 0), .inr (ciY, [.ref (q 0), .ref (q 1), .int (nI (sg_nc σ)), .ref (q 2), .ref (q 3), .ref (q 4), .ref (q 5), .ref (q 6), .ref (q 7), .ref (q 8), .int (nI (sg_nm σ)), .int rf, .ref (q 9), .int 0, .ref (q 10)]))) s.heap H locs := hM
  refine lv_iload_n hx hb dY_gather_5 rfl (lv_at hl 1 rfl) ?_
  refine lv_istore (lv' := [(4, .int (eo_i o)), (0, .ref y), (1, .int (eo_i o)), (2, .int n), (3, .int t)]) hx hb dY_gather_6 hl (by decide) rfl (fun ls hl => ?_)
  exact loop (sg_nc σ) o [] _ ch _ _ ls (fun d hd => ⟨hd0 d hd, hd0 d hd, by have := hd0 d hd; simp; omega⟩) (by simp) rfl (fun p hp => absurd hp (by simp)) (yw_rf hw rf 0) (ky_up (yw_y hw) (by decide)) hM (lv_sub hl [0, 1, 2, 3, 4] rfl)
set_option maxHeartbeats 4000000 in
set_option maxRecDepth 100000 in
theorem c_Y_linkOf (hw : yw_ G M y q σ rf f ch lk ov) {N j : Nat} {g : Nat → Nat} (hN : N ≤ 41) (hlk : lk = nI N) (hch : ∀ k, k < N → ch k = nI (g k)) (hgl : ∀ k, k < N → g k < sg_nm σ) (hinj : ∀ a b, a < N → b < N → g a = g b → a = b) (hj : j < N) : mw_C l G yY_linkOf bY_linkOf 3 (some .int) { frames := 0, cells := 0, slots := 0, locals := 0 } M [.ref y, .int (nI (g j))] (mp_ (some (.int (nI j))) M) := by
  refine mw_of (by decide) (Nat.le_of_ble_eq_true rfl) ?_
  intro pg en s mi below meth cd F hr _ hM ls hl
  obtain ⟨hx, hb, -⟩ := id F
  have hl : lv_has ls 3 [(0, .ref y), (1, .int (nI (g j)))] := hl
  have hnc := yw_nc hw
  have hnm := yw_nm hw
  subst hlk
  have loop : ∀ (v k : Nat) (H : Heap) (locs : List Loc) (ls : Array Slot), j < k + v → k ≤ j → mw_S G M s.heap H locs → lv_has ls 3 [(2, .int (nI k)), (0, .ref y), (1, .int (nI (g j)))] → W pg l en { frames := 0, cells := 0, slots := 0, locals := 0 } s mi [.ref y, .int (nI (g j))].toArray below meth cd H locs 0 0 (MQ below (mw_Q G (mp_ (some (.int (nI j))) M)) [.ref y, .int (nI (g j))].toArray s 0 0 (mw_A G)) (F0 mi 2 ls []) := by
    intro v
    induction v with
    | zero => intro k H locs ls h1 h2; omega
    | succ v ih =>
      intro k H locs ls hv hk hM hl
      refine lv_iload_n hx hb dY_linkOf_2 rfl (lv_at hl 0 rfl) ?_
      refine lv_aload_n hx hb dY_linkOf_3 rfl (lv_at hl 1 rfl) ?_
      refine gf_Y_91 F hM (yw_y hw) rfl dY_linkOf_4 ?_
      refine lv_icmp_ge (tgt := 28) hx hb dY_linkOf_7 (by decide) (fun h5 => absurd ((nI_leI (by omega) (by omega)).mp h5) (by omega)) (fun h5 => ?_)
      refine lv_aload_n hx hb dY_linkOf_10 rfl (lv_at hl 1 rfl) ?_
      refine gf_Y_38 F hM (yw_y hw) rfl dY_linkOf_11 ?_
      refine lv_iload_n hx hb dY_linkOf_14 rfl (lv_at hl 0 rfl) ?_
      refine mw_ild F hM (yw_9 hw) (vp_in_nI (by omega) (by omega)) dY_linkOf_15 ?_
      refine mv_i (y := nI (g k)) (by rw [nI_clamp (by omega)]; exact hch k (by omega)) ?_
      have l1 := hgl k (by omega)
      have l2 := hgl j hj
      refine lv_iload_n hx hb dY_linkOf_16 rfl (lv_at hl 2 rfl) ?_
      refine lv_icmp_ne (tgt := 22) hx hb dY_linkOf_17 (by decide) (fun h6 => ?_) (fun h6 => ?_)
      · have hkj : ¬ k = j := fun z => h6 (by rw [z])
        refine lv_iinc (v := nI (k + 1)) (lv' := [(2, .int (nI (k + 1))), (0, .ref y), (1, .int (nI (g j)))]) hx hb dY_linkOf_22 hl (k := 0) rfl (ii_1 k) (by decide) rfl (fun ls hl => ?_)
        refine lv_goto (tgt := 2) hx hb dY_linkOf_25 (by decide) ?_
        exact ih (k + 1) H locs ls (by omega) (by omega) hM (lv_sub hl [0, 1, 2] rfl)
      · have hkj : k = j := hinj k j (by omega) hj ((nI_eq (by omega) (by omega)).mp h6)
        refine lv_iload_n hx hb dY_linkOf_20 rfl (lv_at hl 0 rfl) ?_
        exact mr_i F hr hM (⟨by rw [hkj], rfl⟩) dY_linkOf_21 ⟨Nat.le_of_ble_eq_true rfl, Nat.le_of_ble_eq_true rfl⟩
  refine lv_iconst (v := 0) hx hb dY_linkOf_0 (by decide) ?_
  refine lv_istore_n (lv' := [(2, .int 0), (0, .ref y), (1, .int (nI (g j)))]) hx hb dY_linkOf_1 rfl hl (by decide) rfl (fun ls hl => ?_)
  exact loop (j + 1) 0 _ _ ls (by omega) (Nat.zero_le _) hM (lv_sub hl [0, 1, 2] rfl)
set_option maxHeartbeats 4000000 in
set_option maxRecDepth 100000 in
theorem c_Y_goesAgainst (hw : yw_ G M y q σ rf f ch lk ov) {c : Nat} (hc : c < sg_nc σ) (n t r : Int32) : mw_C l G yY_goesAgainst bY_goesAgainst 7 (some .boolean) { frames := 3, cells := 0, slots := 0, locals := 120 } M [.ref y, .int (nI c), .int n, .int t, .int r] (pz_ G y q (some (.int (mb_i (sg_fb σ c n t false r)))) σ rf f M (fun _ _ _ => True)) := by
  refine mw_of (by decide) (Nat.le_of_ble_eq_true rfl) ?_
  intro pg en s mi below meth cd F hr _ hM ls hl
  obtain ⟨hx, hb, -⟩ := id F
  have hl : lv_has ls 7 [(0, .ref y), (1, .int (nI c)), (2, .int n), (3, .int t), (4, .int r)] := hl
  have hnc := yw_nc hw
  have hnm := yw_nm hw
  have hpr : ∀ d, sg_pr σ c = some d → d < sg_nc σ := fun d hd => Nat.lt_trans (yw_pr hw hc hd) hc
  have on21 : ∀ (H : Heap) (locs : List Loc) (ls : Array Slot), mw_S G M s.heap H locs → lv_has ls 7 [(0, .ref y), (1, .int (nI c)), (2, .int n), (3, .int t), (4, .int r)] → W pg l en { frames := 3, cells := 0, slots := 0, locals := 120 } s mi [.ref y, .int (nI c), .int n, .int t, .int r].toArray below meth cd H locs 0 0 (MQ below (mw_Q G (pz_ G y q (some (.int (mb_i (sg_fb σ c n t false r)))) σ rf f M (fun _ _ _ => True))) [.ref y, .int (nI c), .int n, .int t, .int r].toArray s 0 0 (mw_A G)) (F0 mi 21 ls [.int (eo_i (sg_pr σ c)), .ref y]) := by
    intro H locs ls hM hl
    refine lv_iload_n hx hb dY_goesAgainst_21 rfl (lv_at hl 2 rfl) ?_
    refine lv_iload_n hx hb dY_goesAgainst_22 rfl (lv_at hl 3 rfl) ?_
    refine mw_Wg (As := [.int (eo_i (sg_pr σ c)), .int n, .int t]) (rest := []) F (c_Y_gather hw (sg_pr σ c) hpr n t) kb_Y_gather ki_Y_gather ks_Y_gather kl_Y_94 hM (yw_y hw) rfl rfl hl.1 rfl (Nat.le_of_ble_eq_true rfl) dY_goesAgainst_23 ⟨⟨Nat.le_of_ble_eq_true rfl, Nat.le_of_ble_eq_true rfl⟩, Nat.le_of_ble_eq_true rfl, Nat.le_of_ble_eq_true rfl⟩ (fun M1 H locs hp hM => ?_)
    obtain ⟨ch1, lk1, ov1, hw1, k1, -, g, N, rfl, hN, hf, hch⟩ := hp
    refine lv_aload_n hx hb dY_goesAgainst_26 rfl (lv_at hl 0 rfl) ?_
    refine gf_Y_38 F hM (yw_y hw1) rfl dY_goesAgainst_27 ?_
    refine lv_aload_n hx hb dY_goesAgainst_30 rfl (lv_at hl 0 rfl) ?_
    refine gf_Y_91 F hM (yw_y hw1) rfl dY_goesAgainst_31 ?_
    refine lv_iconst (v := (-1)) hx hb dY_goesAgainst_34 (by decide) ?_
    refine mw_ist F hM (yw_9 hw1) (vp_in_nI (by omega) (by omega)) dY_goesAgainst_35 (fun H locs hM => ?_)
    rw [nI_clamp (show N < 2 ^ 31 by omega)] at hM
    have hw2 := yw_ch hw1 (upd ch1 N (-1))
    have k2 : ky_ M1 (mw_up M1 (q 9) ((20, 0), aI_ G 41 (upd ch1 N (-1)))) := ky_up (yw_9 hw1) (by decide)
    generalize mw_up M1 (q 9) ((20, 0), aI_ G 41 (upd ch1 N (-1))) = M2 at hM hw2 k2
    refine lv_aload_n hx hb dY_goesAgainst_36 rfl (lv_at hl 0 rfl) ?_
    refine lv_dup hx hb dY_goesAgainst_37 rfl ?_
    refine gf_Y_91 F hM (yw_y hw2) rfl dY_goesAgainst_38 ?_
    refine lv_iconst (v := 1) hx hb dY_goesAgainst_41 (by decide) ?_
    refine lv_iadd hx hb dY_goesAgainst_42 ?_
    refine mv_i (y := nI (N + 1)) (nI_1 N) ?_
    refine pf_Y_91 F hM (yw_y hw2) (Nat.le_of_ble_eq_true rfl) dY_goesAgainst_43 (fun H locs hM => ?_)
    have hM : mw_S G (mw_up M2 y ((10, 0), .inr (ciY, [.ref (q 0), .ref (q 1), .int (nI (sg_nc σ)), .ref (q 2), .ref (q 3), .ref (q 4), .ref (q 5), .ref (q 6), .ref (q 7), .ref (q 8), .int (nI (sg_nm σ)), .int rf, .ref (q 9), .int (nI (N + 1)), .ref (q 10)]))) s.heap H locs := hM
    have hw3 := yw_rf hw2 rf (nI (N + 1))
    have k3 : ky_ M2 (mw_up M2 y ((10, 0), .inr (ciY, [.ref (q 0), .ref (q 1), .int (nI (sg_nc σ)), .ref (q 2), .ref (q 3), .ref (q 4), .ref (q 5), .ref (q 6), .ref (q 7), .ref (q 8), .int (nI (sg_nm σ)), .int rf, .ref (q 9), .int (nI (N + 1)), .ref (q 10)]))) := ky_up (yw_y hw2) (by decide)
    generalize hM3 : mw_up M2 y ((10, 0), .inr (ciY, [.ref (q 0), .ref (q 1), .int (nI (sg_nc σ)), .ref (q 2), .ref (q 3), .ref (q 4), .ref (q 5), .ref (q 6), .ref (q 7), .ref (q 8), .int (nI (sg_nm σ)), .int rf, .ref (q 9), .int (nI (N + 1)), .ref (q 10)])) = M3 at hM k3
    have hw3 : yw_ G M3 y q σ rf f (upd ch1 N (-1)) (nI (N + 1)) ov1 := by
      rw [← hM3]; exact hw3
    have hgl : ∀ k, k < N → g k < sg_nm σ := fun k hk => (oo_some (dn_lt hw.1 hpr hf hk).1).1
    refine lv_aload_n hx hb dY_goesAgainst_46 rfl (lv_at hl 0 rfl) ?_
    refine lv_iload_n hx hb dY_goesAgainst_47 rfl (lv_at hl 1 rfl) ?_
    refine lv_iload hx hb dY_goesAgainst_48 (lv_at hl 4 rfl) ?_
    refine mw_Wg (As := [.int (nI c), .int r]) (rest := []) F (c_Y_relate (N := N + 1) (R := (fun k => if k = N then r else sg_rg σ (g k))) (K := (fun k => if k = N then sg_pk σ c else sg_pk σ (sg_mc σ (g k)))) (g := g) hw3 (nI c) r (by omega) (fun k hk => by
        by_cases hkN : k = N
        · exact Or.inr ⟨by omega, by rw [hkN, up_at], if_pos hkN, c, hc, rfl, if_pos hkN⟩
        · exact Or.inl ⟨hgl k (by omega), by rw [up_ol (by omega)]; exact hch k (by omega), if_neg hkN, if_neg hkN⟩)) kb_Y_relate ki_Y_relate ks_Y_relate kl_Y_98 hM (yw_y hw3) rfl rfl hl.1 rfl (Nat.le_of_ble_eq_true rfl) dY_goesAgainst_50 ⟨⟨Nat.le_of_ble_eq_true rfl, Nat.le_of_ble_eq_true rfl⟩, Nat.le_of_ble_eq_true rfl, Nat.le_of_ble_eq_true rfl⟩ (fun M4 H locs hp hM => ?_)
    obtain ⟨ch4, lk4, ov4, hw4, k4, rfl, rfl, O, hO, hov⟩ := hp
    have kf : ky_ M M4 := ky_tr (ky_tr (ky_tr k1 k2) k3) k4
    have htab : ∀ j, j < N → O N j = ov_r σ c n t r (g j) := fun j hj => ov_eq hO (Nat.lt_succ_self N) (if_pos rfl) (if_pos rfl) (fun k hk => if_neg (by omega)) (fun k hk => if_neg (by omega)) (fun k hk => (dn_lt hw.1 hpr hf hk).1) (dn_inj hw.1 hpr hf) hf hj
    refine lv_aload_n hx hb dY_goesAgainst_53 rfl (lv_at hl 0 rfl) ?_
    refine gf_Y_91 F hM (yw_y hw4) rfl dY_goesAgainst_54 ?_
    refine lv_iconst (v := 1) hx hb dY_goesAgainst_57 (by decide) ?_
    refine lv_isub hx hb dY_goesAgainst_58 ?_
    refine mv_i (y := nI N) (nI_pred N) ?_
    refine lv_istore (lv' := [(5, .int (nI N)), (0, .ref y), (1, .int (nI c)), (2, .int n), (3, .int t), (4, .int r)]) hx hb dY_goesAgainst_59 hl (by decide) rfl (fun ls hl => ?_)
    have loop : ∀ (v j : Nat) (H : Heap) (locs : List Loc) (ls : Array Slot), N < j + v → j ≤ N → (∀ i, i < j → ¬ (ov_r σ c n t r (g i) = true ∧ (sg_fn σ (g i) = true ∨ r < sg_rg σ (g i)))) → mw_S G M4 s.heap H locs → lv_has ls 7 [(6, .int (nI j)), (5, .int (nI N)), (0, .ref y), (1, .int (nI c)), (2, .int n), (3, .int t), (4, .int r)] → W pg l en { frames := 3, cells := 0, slots := 0, locals := 120 } s mi [.ref y, .int (nI c), .int n, .int t, .int r].toArray below meth cd H locs 0 0 (MQ below (mw_Q G (pz_ G y q (some (.int (mb_i (sg_fb σ c n t false r)))) σ rf f M (fun _ _ _ => True))) [.ref y, .int (nI c), .int n, .int t, .int r].toArray s 0 0 (mw_A G)) (F0 mi 64 ls []) := by
      intro v
      induction v with
      | zero => intro j H locs ls h1 h2; omega
      | succ v ih =>
        intro j H locs ls hv hj hno hM hl
        refine lv_iload hx hb dY_goesAgainst_64 (lv_at hl 0 rfl) ?_
        refine lv_iload hx hb dY_goesAgainst_66 (lv_at hl 1 rfl) ?_
        refine lv_icmp_ge (tgt := 127) hx hb dY_goesAgainst_68 (by decide) (fun h5 => ?_) (fun h5 => ?_)
        · have hjN : N ≤ j := (nI_leI (by omega) (by omega)).mp h5
          refine lv_iconst (v := 0) hx hb dY_goesAgainst_127 (by decide) ?_
          exact mr_z (v := false) F hr hM (⟨by rw [fb_f hf (fun i hi => hno i (by omega))], _, _, _, hw4, kf, trivial⟩) dY_goesAgainst_128 ⟨Nat.le_of_ble_eq_true rfl, Nat.le_of_ble_eq_true rfl⟩
        · have hjN : j < N := Nat.not_le.mp (fun z => h5 (nI_le z (by omega)))
          have hgj := hgl j hjN
          have next : ∀ (H : Heap) (locs : List Loc) (ls : Array Slot), ¬ (ov_r σ c n t r (g j) = true ∧ (sg_fn σ (g j) = true ∨ r < sg_rg σ (g j))) → mw_S G M4 s.heap H locs → lv_has ls 7 [(6, .int (nI j)), (5, .int (nI N)), (0, .ref y), (1, .int (nI c)), (2, .int n), (3, .int t), (4, .int r)] → W pg l en { frames := 3, cells := 0, slots := 0, locals := 120 } s mi [.ref y, .int (nI c), .int n, .int t, .int r].toArray below meth cd H locs 0 0 (MQ below (mw_Q G (pz_ G y q (some (.int (mb_i (sg_fb σ c n t false r)))) σ rf f M (fun _ _ _ => True))) [.ref y, .int (nI c), .int n, .int t, .int r].toArray s 0 0 (mw_A G)) (F0 mi 121 ls []) := by
            intro H locs ls hk hM hl
            refine lv_iinc (v := nI (j + 1)) (lv' := [(6, .int (nI (j + 1))), (5, .int (nI N)), (0, .ref y), (1, .int (nI c)), (2, .int n), (3, .int t), (4, .int r)]) hx hb dY_goesAgainst_121 hl (k := 0) rfl (ii_1 j) (by decide) rfl (fun ls hl => ?_)
            refine lv_goto (tgt := 64) hx hb dY_goesAgainst_124 (by decide) ?_
            exact ih (j + 1) H locs ls (by omega) (by omega) (fun i hi => by
              by_cases hij : i = j
              · rw [hij]; exact hk
              · exact hno i (by omega)) hM (lv_sub hl [0, 1, 2, 3, 4, 5, 6] rfl)
          refine lv_aload_n hx hb dY_goesAgainst_71 rfl (lv_at hl 2 rfl) ?_
          refine gf_Y_41 F hM (yw_y hw4) rfl dY_goesAgainst_72 ?_
          refine lv_bipush (v := 41) hx hb dY_goesAgainst_75 (by decide) ?_
          refine lv_iload hx hb dY_goesAgainst_77 (lv_at hl 1 rfl) ?_
          refine lv_imul hx hb dY_goesAgainst_79 ?_
          refine mv_i (y := nI (41 * N)) (pk_mul 41 N) ?_
          refine lv_iload hx hb dY_goesAgainst_80 (lv_at hl 0 rfl) ?_
          refine lv_iadd hx hb dY_goesAgainst_82 ?_
          refine mv_i (y := nI (41 * N + j)) (nI_add (41 * N) j) ?_
          refine mw_zld F hM (yw_10 hw4) (vp_in_nI (by omega) (by omega)) dY_goesAgainst_83 ?_
          refine mv_i (y := mb_i (ov_r σ c n t r (g j))) (by rw [nI_clamp (by omega), hov N j hjN (Nat.lt_succ_self N), htab j hjN]) ?_
          refine lv_if_eq (tgt := 121) hx hb dY_goesAgainst_84 (by decide) (fun h6 => ?_) (fun h6 => ?_)
          · exact next H locs ls (fun z => by rw [mb_z h6] at z; exact absurd z.1 (by decide)) hM (lv_sub hl [0, 1, 2, 3, 4, 5, 6] rfl)
          · refine lv_aload_n hx hb dY_goesAgainst_87 rfl (lv_at hl 2 rfl) ?_
            refine gf_Y_35 F hM (yw_y hw4) rfl dY_goesAgainst_88 ?_
            refine lv_aload_n hx hb dY_goesAgainst_91 rfl (lv_at hl 2 rfl) ?_
            refine gf_Y_38 F hM (yw_y hw4) rfl dY_goesAgainst_92 ?_
            refine lv_iload hx hb dY_goesAgainst_95 (lv_at hl 0 rfl) ?_
            refine mw_ild F hM (yw_9 hw4) (vp_in_nI (by omega) (by omega)) dY_goesAgainst_97 ?_
            refine mv_i (y := nI (g j)) (by rw [nI_clamp (by omega), up_ol hjN]; exact hch j hjN) ?_
            refine mw_zld F hM (yw_8 hw4) (vp_in_nI (by omega) (by omega)) dY_goesAgainst_98 ?_
            refine mv_i (y := (mb_i (sg_fn σ (g j)))) (by rw [nI_clamp (by omega)]; exact yv_8 hw4 hgj) ?_
            refine lv_if_ne (tgt := 119) hx hb dY_goesAgainst_99 (by decide) (fun h7 => ?_) (fun h7 => ?_)
            · refine lv_iconst (v := 1) hx hb dY_goesAgainst_119 (by decide) ?_
              exact mr_z (v := true) F hr hM (⟨by rw [fb_t hf hjN (mb_n h6) (Or.inl (mb_n h7))], _, _, _, hw4, kf, trivial⟩) dY_goesAgainst_120 ⟨Nat.le_of_ble_eq_true rfl, Nat.le_of_ble_eq_true rfl⟩
            · refine lv_aload_n hx hb dY_goesAgainst_102 rfl (lv_at hl 2 rfl) ?_
              refine gf_Y_22 F hM (yw_y hw4) rfl dY_goesAgainst_103 ?_
              refine lv_aload_n hx hb dY_goesAgainst_106 rfl (lv_at hl 2 rfl) ?_
              refine gf_Y_38 F hM (yw_y hw4) rfl dY_goesAgainst_107 ?_
              refine lv_iload hx hb dY_goesAgainst_110 (lv_at hl 0 rfl) ?_
              refine mw_ild F hM (yw_9 hw4) (vp_in_nI (by omega) (by omega)) dY_goesAgainst_112 ?_
              refine mv_i (y := nI (g j)) (by rw [nI_clamp (by omega), up_ol hjN]; exact hch j hjN) ?_
              refine mw_ild F hM (yw_4 hw4) (vp_in_nI (by omega) (by omega)) dY_goesAgainst_113 ?_
              refine mv_i (y := (sg_rg σ (g j))) (by rw [nI_clamp (by omega)]; exact yv_4 hw4 hgj) ?_
              refine lv_iload hx hb dY_goesAgainst_114 (lv_at hl 6 rfl) ?_
              refine lv_icmp_le (tgt := 121) hx hb dY_goesAgainst_116 (by decide) (fun h8 => ?_) (fun h8 => ?_)
              · exact next H locs ls (fun z => by
                  rcases z.2 with q | q
                  · rw [mb_z h7] at q; cases q
                  · exact i3_nlt h8 q) hM (lv_sub hl [0, 1, 2, 3, 4, 5, 6] rfl)
              · refine lv_iconst (v := 1) hx hb dY_goesAgainst_119 (by decide) ?_
                exact mr_z (v := true) F hr hM (⟨by rw [fb_t hf hjN (mb_n h6) (Or.inr (i3_lt h8))], _, _, _, hw4, kf, trivial⟩) dY_goesAgainst_120 ⟨Nat.le_of_ble_eq_true rfl, Nat.le_of_ble_eq_true rfl⟩
    refine lv_iconst (v := 0) hx hb dY_goesAgainst_61 (by decide) ?_
    refine lv_istore (lv' := [(6, .int 0), (5, .int (nI N)), (0, .ref y), (1, .int (nI c)), (2, .int n), (3, .int t), (4, .int r)]) hx hb dY_goesAgainst_62 hl (by decide) rfl (fun ls hl => ?_)
    exact loop (N + 1) 0 _ _ ls (by omega) (Nat.zero_le _) (fun i hi => absurd hi (Nat.not_lt_zero i)) hM (lv_sub hl [0, 1, 2, 3, 4, 5, 6] rfl)
  refine lv_aload_n hx hb dY_goesAgainst_0 rfl (lv_at hl 0 rfl) ?_
  refine lv_aload_n hx hb dY_goesAgainst_1 rfl (lv_at hl 0 rfl) ?_
  refine gf_Y_7 F hM (yw_y hw) rfl dY_goesAgainst_2 ?_
  refine lv_iload_n hx hb dY_goesAgainst_5 rfl (lv_at hl 1 rfl) ?_
  refine mw_ild F hM (yw_0 hw) (vp_in_nI (by omega) (by omega)) dY_goesAgainst_6 ?_
  refine mv_i (y := (eo_i (sg_pr σ c))) (by rw [nI_clamp (by omega)]; exact yv_0 hw hc) ?_
  refine lv_iconst (v := (-1)) hx hb dY_goesAgainst_7 (by decide) ?_
  refine lv_icmp_ne (tgt := 15) hx hb dY_goesAgainst_8 (by decide) (fun h4 => ?_) (fun h4 => ?_)
  · refine lv_aload_n hx hb dY_goesAgainst_15 rfl (lv_at hl 0 rfl) ?_
    refine gf_Y_7 F hM (yw_y hw) rfl dY_goesAgainst_16 ?_
    refine lv_iload_n hx hb dY_goesAgainst_19 rfl (lv_at hl 1 rfl) ?_
    refine mw_ild F hM (yw_0 hw) (vp_in_nI (by omega) (by omega)) dY_goesAgainst_20 ?_
    refine mv_i (y := (eo_i (sg_pr σ c))) (by rw [nI_clamp (by omega)]; exact yv_0 hw hc) ?_
    exact on21 _ _ ls hM (lv_sub hl [0, 1, 2, 3, 4] rfl)
  · refine lv_iconst (v := (-1)) hx hb dY_goesAgainst_11 (by decide) ?_
    refine lv_goto (tgt := 21) hx hb dY_goesAgainst_12 (by decide) ?_
    refine mv_i (y := eo_i (sg_pr σ c)) (h4.symm) ?_
    exact on21 _ _ ls hM (lv_sub hl [0, 1, 2, 3, 4] rfl)
end GC
