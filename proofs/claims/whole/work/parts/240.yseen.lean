section GC
variable {l : Launch} {G : mw_G} {M : mw_M} {y : Nat} {q : Nat → Nat} {σ : sg_T} {rf : Int32} {f : Nat → Nat → Int32} {ch : Nat → Int32} {lk : Int32} {ov : Nat → Int32}
set_option maxHeartbeats 4000000 in
set_option maxRecDepth 100000 in
theorem c_Y_isHidden (hw : yw_ G M y q σ rf f ch lk ov) {j c : Nat} (hj : j < sg_nm σ) (hc : c < sg_nc σ) (hbel : sg_mc σ j ∈ sg_ln (sg_pr σ) c) : mw_C l G yY_isHidden bY_isHidden 5 (some .boolean) { frames := 3, cells := 0, slots := 0, locals := 120 } M [.ref y, .int (nI j), .int (nI c)] (pz_ G y q (some (.int (mb_i (sg_hd σ j c)))) σ rf f M (fun _ _ _ => True)) := by
  refine mw_of (by decide) (Nat.le_of_ble_eq_true rfl) ?_
  intro pg en s mi below meth cd F hr _ hM ls hl
  obtain ⟨hx, hb, -⟩ := id F
  have hl : lv_has ls 5 [(0, .ref y), (1, .int (nI j)), (2, .int (nI c))] := hl
  have hnc := yw_nc hw
  have hnm := yw_nm hw
  have hmj := yw_mc hw hj
  refine lv_aload_n hx hb dY_isHidden_0 rfl (lv_at hl 0 rfl) ?_
  refine gf_Y_25 F hM (yw_y hw) rfl dY_isHidden_1 ?_
  refine lv_iload_n hx hb dY_isHidden_4 rfl (lv_at hl 1 rfl) ?_
  refine mw_ild F hM (yw_5 hw) (vp_in_nI (by omega) (by omega)) dY_isHidden_5 ?_
  refine mv_i (y := (sg_kd σ j)) (by rw [nI_clamp (by omega)]; exact yv_5 hw hj) ?_
  refine lv_if_ne (tgt := 90) hx hb dY_isHidden_6 (by decide) (fun h1 => ?_) (fun h1 => ?_)
  · have hhd : sg_hd σ j c = (sg_ob σ j && decide (¬ sg_cl σ j c = j)) := by unfold sg_hd; rw [if_neg h1]
    refine lv_aload_n hx hb dY_isHidden_90 rfl (lv_at hl 0 rfl) ?_
    refine lv_iload_n hx hb dY_isHidden_91 rfl (lv_at hl 1 rfl) ?_
    refine mw_Vp (As := [.int (nI j)]) (rest := []) F (c_Y_isOwn hw hj) kb_Y_isOwn ki_Y_isOwn ks_Y_isOwn kl_Y_77 hM (yw_y hw) rfl rfl hl.1 rfl (Nat.le_of_ble_eq_true rfl) dY_isHidden_92 ⟨⟨Nat.le_of_ble_eq_true rfl, Nat.le_of_ble_eq_true rfl⟩, Nat.le_of_ble_eq_true rfl, Nat.le_of_ble_eq_true rfl⟩ ⟨rfl, rfl⟩ (fun H locs hM => ?_)
    refine lv_if_ne (tgt := 100) hx hb dY_isHidden_95 (by decide) (fun h2 => ?_) (fun h2 => ?_)
    · have hob := mb_n h2
      rw [hob, Bool.true_and] at hhd
      refine lv_aload_n hx hb dY_isHidden_100 rfl (lv_at hl 0 rfl) ?_
      refine lv_iload_n hx hb dY_isHidden_101 rfl (lv_at hl 2 rfl) ?_
      refine lv_aload_n hx hb dY_isHidden_102 rfl (lv_at hl 0 rfl) ?_
      refine gf_Y_19 F hM (yw_y hw) rfl dY_isHidden_103 ?_
      refine lv_iload_n hx hb dY_isHidden_106 rfl (lv_at hl 1 rfl) ?_
      refine mw_ild F hM (yw_3 hw) (vp_in_nI (by omega) (by omega)) dY_isHidden_107 ?_
      refine mv_i (y := (sg_mn σ j)) (by rw [nI_clamp (by omega)]; exact yv_3 hw hj) ?_
      refine lv_aload_n hx hb dY_isHidden_108 rfl (lv_at hl 0 rfl) ?_
      refine gf_Y_28 F hM (yw_y hw) rfl dY_isHidden_109 ?_
      refine lv_iload_n hx hb dY_isHidden_112 rfl (lv_at hl 1 rfl) ?_
      refine mw_ild F hM (yw_6 hw) (vp_in_nI (by omega) (by omega)) dY_isHidden_113 ?_
      refine mv_i (y := (sg_ty σ j)) (by rw [nI_clamp (by omega)]; exact yv_6 hw hj) ?_
      refine mw_Wg (As := [.int (nI c), .int (sg_mn σ j), .int (sg_ty σ j)]) (rest := []) F (c_Y_gather hw (some c) (fun d hd => by cases hd; exact hc) (sg_mn σ j) (sg_ty σ j)) kb_Y_gather ki_Y_gather ks_Y_gather kl_Y_94 hM (yw_y hw) rfl rfl hl.1 rfl (Nat.le_of_ble_eq_true rfl) dY_isHidden_114 ⟨⟨Nat.le_of_ble_eq_true rfl, Nat.le_of_ble_eq_true rfl⟩, Nat.le_of_ble_eq_true rfl, Nat.le_of_ble_eq_true rfl⟩ (fun M1 H locs hp hM => ?_)
      obtain ⟨ch1, lk1, ov1, hw1, k1, -, g, N, rfl, hN, hf, hch⟩ := hp
      have hdd : ∀ d, some c = some d → d < sg_nc σ := fun d hd => by cases hd; exact hc
      have hgl : ∀ k, k < N → g k < sg_nm σ := fun k hk => (oo_some (dn_lt hw.1 hdd hf hk).1).1
      have hinj := dn_inj hw.1 hdd hf
      refine lv_aload_n hx hb dY_isHidden_117 rfl (lv_at hl 0 rfl) ?_
      refine lv_iconst (v := (-1)) hx hb dY_isHidden_118 (by decide) ?_
      refine lv_iconst (v := 0) hx hb dY_isHidden_119 (by decide) ?_
      refine mw_Wg (As := [.int (-1), .int 0]) (rest := []) F (c_Y_relate (N := N) (R := fun k => sg_rg σ (g k)) (K := fun k => sg_pk σ (sg_mc σ (g k))) (g := g) hw1 (-1) 0 (by omega) (fun k hk => Or.inl ⟨hgl k hk, hch k hk, rfl, rfl⟩)) kb_Y_relate ki_Y_relate ks_Y_relate kl_Y_98 hM (yw_y hw1) rfl rfl hl.1 rfl (Nat.le_of_ble_eq_true rfl) dY_isHidden_120 ⟨⟨Nat.le_of_ble_eq_true rfl, Nat.le_of_ble_eq_true rfl⟩, Nat.le_of_ble_eq_true rfl, Nat.le_of_ble_eq_true rfl⟩ (fun M2 H locs hp hM => ?_)
      obtain ⟨ch2, lk2, ov2, hw2, k2, rfl, rfl, O, hO, hov⟩ := hp
      have kf : ky_ M M2 := ky_tr k1 k2
      have htab : ∀ i9 j9, j9 < i9 → i9 < N → O i9 j9 = ov_r σ (sg_mc σ (g i9)) (sg_mn σ j) (sg_ty σ j) (sg_rg σ (g i9)) (g j9) := fun i9 j9 h1 h2 => dn_tab hw.1 hdd hf hO (fun _ _ => rfl) (fun _ _ => rfl) h1 h2
      obtain ⟨p0, hp0, hjp⟩ := dn_has hw.1 hf hj hob rfl rfl hbel
      have hyes : ∀ i, p0 < i → i < N → O i p0 = true → ¬ sg_cl σ j c = j := by
        intro i h3 h4 h5
        have h6 := ov_rg (by rw [← htab i p0 h3 h4]; exact h5)
        unfold sg_cl
        rw [if_neg (by rw [hjp]; exact h6)]
        have h7 : cl_l σ j (sg_ln (sg_pr σ) c) = sr_g g (fun i => O i p0) p0 N := by
          rw [hjp]
          exact cl_dn (n := sg_mn σ j) (t := sg_ty σ j) (by rw [← hjp]) (by rw [← hjp]) _ N hf hp0 hinj (dn_lt hw.1 hdd hf hp0).1 (fun i h1 h2 => htab i p0 h1 h2)
        rw [h7]
        intro z
        exact sr_ex hinj h3 h4 h5 (by rw [← hjp]; exact z)
      have hnot : (∀ i, p0 < i → i < N → O i p0 = false) → sg_cl σ j c = j := by
        intro h3
        unfold sg_cl
        by_cases h4 : sg_rg σ j = 0
        · rw [if_pos h4]
        · rw [if_neg h4]
          have h7 : cl_l σ j (sg_ln (sg_pr σ) c) = sr_g g (fun i => O i p0) p0 N := by
            rw [hjp]
            exact cl_dn (n := sg_mn σ j) (t := sg_ty σ j) (by rw [← hjp]) (by rw [← hjp]) _ N hf hp0 hinj (dn_lt hw.1 hdd hf hp0).1 (fun i h1 h2 => htab i p0 h1 h2)
          rw [h7, sr_no h3, ← hjp]
      refine lv_aload_n hx hb dY_isHidden_123 rfl (lv_at hl 0 rfl) ?_
      refine lv_iload_n hx hb dY_isHidden_124 rfl (lv_at hl 1 rfl) ?_
      refine mv_i (y := nI (g p0)) (by rw [← hjp]) ?_
      refine mw_Vp (As := [.int (nI (g p0))]) (rest := []) F (c_Y_linkOf (g := g) hw2 (by omega) rfl hch hgl hinj hp0) kb_Y_linkOf ki_Y_linkOf ks_Y_linkOf kl_Y_112 hM (yw_y hw2) rfl rfl hl.1 rfl (Nat.le_of_ble_eq_true rfl) dY_isHidden_125 ⟨⟨Nat.le_of_ble_eq_true rfl, Nat.le_of_ble_eq_true rfl⟩, Nat.le_of_ble_eq_true rfl, Nat.le_of_ble_eq_true rfl⟩ ⟨rfl, rfl⟩ (fun H locs hM => ?_)
      refine lv_istore_n (lv' := [(3, .int (nI p0)), (0, .ref y), (1, .int (nI j)), (2, .int (nI c))]) hx hb dY_isHidden_128 rfl hl (by decide) rfl (fun ls hl => ?_)
      refine lv_iload_n hx hb dY_isHidden_129 rfl (lv_at hl 0 rfl) ?_
      refine lv_iconst (v := 1) hx hb dY_isHidden_130 (by decide) ?_
      refine lv_iadd hx hb dY_isHidden_131 ?_
      refine mv_i (y := nI (p0 + 1)) (nI_1 p0) ?_
      refine lv_istore (lv' := [(4, .int (nI (p0 + 1))), (3, .int (nI p0)), (0, .ref y), (1, .int (nI j)), (2, .int (nI c))]) hx hb dY_isHidden_132 hl (by decide) rfl (fun ls hl => ?_)
      have loop : ∀ (v i : Nat) (H : Heap) (locs : List Loc) (ls : Array Slot), N < i + v → p0 < i → i ≤ N → (∀ i2, p0 < i2 → i2 < i → O i2 p0 = false) → mw_S G M2 s.heap H locs → lv_has ls 5 [(4, .int (nI i)), (3, .int (nI p0)), (0, .ref y), (1, .int (nI j)), (2, .int (nI c))] → W pg l en { frames := 3, cells := 0, slots := 0, locals := 120 } s mi [.ref y, .int (nI j), .int (nI c)].toArray below meth cd H locs 0 0 (MQ below (mw_Q G (pz_ G y q (some (.int (mb_i (sg_hd σ j c)))) σ rf f M (fun _ _ _ => True))) [.ref y, .int (nI j), .int (nI c)].toArray s 0 0 (mw_A G)) (F0 mi 134 ls []) := by
        intro v
        induction v with
        | zero => intro i H locs ls h3 h4 h5; omega
        | succ v ih =>
          intro i H locs ls hv hpi hiN hno hM hl
          refine lv_iload hx hb dY_isHidden_134 (lv_at hl 0 rfl) ?_
          refine lv_aload_n hx hb dY_isHidden_136 rfl (lv_at hl 2 rfl) ?_
          refine gf_Y_91 F hM (yw_y hw2) rfl dY_isHidden_137 ?_
          refine lv_icmp_ge (tgt := 166) hx hb dY_isHidden_140 (by decide) (fun h3 => ?_) (fun h3 => ?_)
          · have hNi : N ≤ i := (nI_leI (by omega) (by omega)).mp h3
            refine lv_iconst (v := 0) hx hb dY_isHidden_166 (by decide) ?_
            exact mr_z (v := false) F hr hM (⟨by rw [hhd, decide_eq_false (fun z => z (hnot (fun i2 z1 z2 => hno i2 z1 (by omega))))], _, _, _, hw2, kf, trivial⟩) dY_isHidden_167 ⟨Nat.le_of_ble_eq_true rfl, Nat.le_of_ble_eq_true rfl⟩
          · have hNi : i < N := Nat.not_le.mp (fun z => h3 (nI_le z (by omega)))
            refine lv_aload_n hx hb dY_isHidden_143 rfl (lv_at hl 2 rfl) ?_
            refine gf_Y_41 F hM (yw_y hw2) rfl dY_isHidden_144 ?_
            refine lv_bipush (v := 41) hx hb dY_isHidden_147 (by decide) ?_
            refine lv_iload hx hb dY_isHidden_149 (lv_at hl 0 rfl) ?_
            refine lv_imul hx hb dY_isHidden_151 ?_
            refine mv_i (y := nI (41 * i)) (pk_mul 41 i) ?_
            refine lv_iload_n hx hb dY_isHidden_152 rfl (lv_at hl 1 rfl) ?_
            refine lv_iadd hx hb dY_isHidden_153 ?_
            refine mv_i (y := nI (41 * i + p0)) (nI_add (41 * i) p0) ?_
            refine mw_zld F hM (yw_10 hw2) (vp_in_nI (by omega) (by omega)) dY_isHidden_154 ?_
            refine mv_i (y := mb_i (O i p0)) (by rw [nI_clamp (by omega)]; exact hov i p0 hpi hNi) ?_
            refine lv_if_eq (tgt := 160) hx hb dY_isHidden_155 (by decide) (fun h4 => ?_) (fun h4 => ?_)
            · refine lv_iinc (v := nI (i + 1)) (lv' := [(4, .int (nI (i + 1))), (3, .int (nI p0)), (0, .ref y), (1, .int (nI j)), (2, .int (nI c))]) hx hb dY_isHidden_160 hl (k := 0) rfl (ii_1 i) (by decide) rfl (fun ls hl => ?_)
              refine lv_goto (tgt := 134) hx hb dY_isHidden_163 (by decide) ?_
              exact ih (i + 1) H locs ls (by omega) (by omega) (by omega) (fun i2 z1 z2 => by
                by_cases z3 : i2 = i
                · rw [z3]; exact mb_z h4
                · exact hno i2 z1 (by omega)) hM (lv_sub hl [0, 1, 2, 3, 4] rfl)
            · refine lv_iconst (v := 1) hx hb dY_isHidden_158 (by decide) ?_
              exact mr_z (v := true) F hr hM (⟨by rw [hhd, decide_eq_true (hyes i hpi hNi (mb_n h4))], _, _, _, hw2, kf, trivial⟩) dY_isHidden_159 ⟨Nat.le_of_ble_eq_true rfl, Nat.le_of_ble_eq_true rfl⟩
      exact loop N (p0 + 1) _ _ ls (by omega) (by omega) (by omega) (fun i2 z1 z2 => by omega) hM (lv_sub hl [0, 1, 2, 3, 4] rfl)
    · refine lv_iconst (v := 0) hx hb dY_isHidden_98 (by decide) ?_
      exact mr_z (v := false) F hr hM (⟨by rw [hhd, mb_z h2]; rfl, ch, lk, ov, hw, ky_rf, trivial⟩) dY_isHidden_99 ⟨Nat.le_of_ble_eq_true rfl, Nat.le_of_ble_eq_true rfl⟩
  · have hhd : sg_hd σ j c = decide (¬ fi_l σ (sg_mn σ j) 0 4 (sg_ln (sg_pr σ) c) = some j) := by
      unfold sg_hd sg_fi
      rw [if_pos h1, if_neg (by decide)]
    have loop : ∀ (z d : Nat) (H : Heap) (locs : List Loc) (ls : Array Slot), d < z → d < sg_nc σ → sg_mc σ j ∈ sg_ln (sg_pr σ) d → fi_l σ (sg_mn σ j) 0 4 (sg_ln (sg_pr σ) c) = fi_l σ (sg_mn σ j) 0 4 (sg_ln (sg_pr σ) d) → mw_S G M s.heap H locs → lv_has ls 5 [(3, .int (nI d)), (0, .ref y), (1, .int (nI j)), (2, .int (nI c))] → W pg l en { frames := 3, cells := 0, slots := 0, locals := 120 } s mi [.ref y, .int (nI j), .int (nI c)].toArray below meth cd H locs 0 0 (MQ below (mw_Q G (pz_ G y q (some (.int (mb_i (sg_hd σ j c)))) σ rf f M (fun _ _ _ => True))) [.ref y, .int (nI j), .int (nI c)].toArray s 0 0 (mw_A G)) (F0 mi 11 ls []) := by
      intro z
      induction z with
      | zero => intro d H locs ls h2; omega
      | succ z ihz =>
        intro d H locs ls hz hd hin hq hM hl
        have hpr : ∀ p, sg_pr σ d = some p → p < d := fun p hp => yw_pr hw hd hp
        have hln : sg_ln (sg_pr σ) d = d :: ln_o (sg_pr σ) (sg_pr σ d) := ln_e hpr
        have hst : fi_l σ (sg_mn σ j) 0 4 (d :: ln_o (sg_pr σ) (sg_pr σ d)) = match fi_c σ (sg_mn σ j) 0 4 d with | some m => some m | none => fi_l σ (sg_mn σ j) 0 4 (ln_o (sg_pr σ) (sg_pr σ d)) := rfl
        rw [hln, hst] at hq
        rw [hln] at hin
        refine lv_iload_n hx hb dY_isHidden_11 rfl (lv_at hl 0 rfl) ?_
        refine lv_aload_n hx hb dY_isHidden_12 rfl (lv_at hl 1 rfl) ?_
        refine gf_Y_16 F hM (yw_y hw) rfl dY_isHidden_13 ?_
        refine lv_iload_n hx hb dY_isHidden_16 rfl (lv_at hl 2 rfl) ?_
        refine mw_ild F hM (yw_2 hw) (vp_in_nI (by omega) (by omega)) dY_isHidden_17 ?_
        refine mv_i (y := (nI (sg_mc σ j))) (by rw [nI_clamp (by omega)]; exact yv_2 hw hj) ?_
        refine lv_icmp_eq (tgt := 88) hx hb dY_isHidden_18 (by decide) (fun h2 => ?_) (fun h2 => ?_)
        · have hdj : d = sg_mc σ j := (nI_eq (by omega) (by omega)).mp h2
          rw [hdj, fh_at hw.1 hj h1] at hq
          refine lv_iconst (v := 0) hx hb dY_isHidden_88 (by decide) ?_
          exact mr_z (v := false) F hr hM (⟨by rw [hhd, hq]; simp, ch, lk, ov, hw, ky_rf, trivial⟩) dY_isHidden_89 ⟨Nat.le_of_ble_eq_true rfl, Nat.le_of_ble_eq_true rfl⟩
        · have hdj : ¬ d = sg_mc σ j := fun z => h2 (by rw [z])
          have hin2 : sg_mc σ j ∈ ln_o (sg_pr σ) (sg_pr σ d) := by
            rcases List.mem_cons.mp hin with z | z
            · exact absurd z.symm hdj
            · exact z
          have inner : ∀ (u i : Nat) (H : Heap) (locs : List Loc) (ls : Array Slot), sg_nm σ < i + u → i ≤ sg_nm σ → (∀ m, m < i → ¬ (sg_mc σ m = d ∧ sg_kd σ m = 0 ∧ sg_mn σ m = sg_mn σ j)) → mw_S G M s.heap H locs → lv_has ls 5 [(4, .int (nI i)), (3, .int (nI d)), (0, .ref y), (1, .int (nI j)), (2, .int (nI c))] → W pg l en { frames := 3, cells := 0, slots := 0, locals := 120 } s mi [.ref y, .int (nI j), .int (nI c)].toArray below meth cd H locs 0 0 (MQ below (mw_Q G (pz_ G y q (some (.int (mb_i (sg_hd σ j c)))) σ rf f M (fun _ _ _ => True))) [.ref y, .int (nI j), .int (nI c)].toArray s 0 0 (mw_A G)) (F0 mi 24 ls []) := by
            intro u
            induction u with
            | zero => intro i H locs ls h2 h3; omega
            | succ u ih =>
              intro i H locs ls hu hi hno hM hl
              refine lv_iload hx hb dY_isHidden_24 (lv_at hl 0 rfl) ?_
              refine lv_aload_n hx hb dY_isHidden_26 rfl (lv_at hl 2 rfl) ?_
              refine gf_Y_48 F hM (yw_y hw) rfl dY_isHidden_27 ?_
              refine lv_icmp_ge (tgt := 78) hx hb dY_isHidden_30 (by decide) (fun h4 => ?_) (fun h4 => ?_)
              · have hik : i = sg_nm σ := by
                  have := (nI_leI (by omega) (by omega)).mp h4
                  omega
                subst hik
                have hfc : fi_c σ (sg_mn σ j) 0 4 d = none := by
                  rw [fh_c]
                  exact ow_none (fun m hm z => hno m hm ⟨z.1, z.2.1, z.2.2.1⟩)
                rw [hfc] at hq
                dsimp only at hq
                refine lv_aload_n hx hb dY_isHidden_78 rfl (lv_at hl 2 rfl) ?_
                refine gf_Y_7 F hM (yw_y hw) rfl dY_isHidden_79 ?_
                refine lv_iload_n hx hb dY_isHidden_82 rfl (lv_at hl 1 rfl) ?_
                refine mw_ild F hM (yw_0 hw) (vp_in_nI (by omega) (by omega)) dY_isHidden_83 ?_
                refine mv_i (y := (eo_i (sg_pr σ d))) (by rw [nI_clamp (by omega)]; exact yv_0 hw hd) ?_
                cases hp : sg_pr σ d with
                | none => rw [hp] at hin2; cases hin2
                | some p =>
                  rw [hp] at hin2 hq
                  refine mv_i (y := nI p) rfl ?_
                  refine lv_istore_n (lv' := [(3, .int (nI p)), (4, .int (nI (sg_nm σ))), (0, .ref y), (1, .int (nI j)), (2, .int (nI c))]) hx hb dY_isHidden_84 rfl hl (by decide) rfl (fun ls hl => ?_)
                  refine lv_goto (tgt := 11) hx hb dY_isHidden_85 (by decide) ?_
                  have hpd := hpr p hp
                  exact ihz p H locs ls (by omega) (by omega) hin2 hq hM (lv_sub hl [0, 2, 3, 4] rfl)
              · have hik : i < sg_nm σ := by
                  rcases Nat.lt_or_ge i (sg_nm σ) with z | z
                  · exact z
                  · exact absurd (nI_le z (by omega)) h4
                have hmi := yw_mc hw hik
                have next : ∀ (H : Heap) (locs : List Loc) (ls : Array Slot), ¬ (sg_mc σ i = d ∧ sg_kd σ i = 0 ∧ sg_mn σ i = sg_mn σ j) → mw_S G M s.heap H locs → lv_has ls 5 [(4, .int (nI i)), (3, .int (nI d)), (0, .ref y), (1, .int (nI j)), (2, .int (nI c))] → W pg l en { frames := 3, cells := 0, slots := 0, locals := 120 } s mi [.ref y, .int (nI j), .int (nI c)].toArray below meth cd H locs 0 0 (MQ below (mw_Q G (pz_ G y q (some (.int (mb_i (sg_hd σ j c)))) σ rf f M (fun _ _ _ => True))) [.ref y, .int (nI j), .int (nI c)].toArray s 0 0 (mw_A G)) (F0 mi 72 ls []) := by
                  intro H locs ls hk hM hl
                  refine lv_iinc (v := nI (i + 1)) (lv' := [(4, .int (nI (i + 1))), (3, .int (nI d)), (0, .ref y), (1, .int (nI j)), (2, .int (nI c))]) hx hb dY_isHidden_72 hl (k := 0) rfl (ii_1 i) (by decide) rfl (fun ls hl => ?_)
                  refine lv_goto (tgt := 24) hx hb dY_isHidden_75 (by decide) ?_
                  exact ih (i + 1) H locs ls (by omega) (by omega) (fun m hm => by
                    by_cases hmi2 : m = i
                    · rw [hmi2]; exact hk
                    · exact hno m (by omega)) hM (lv_sub hl [0, 1, 2, 3, 4] rfl)
                refine lv_aload_n hx hb dY_isHidden_33 rfl (lv_at hl 2 rfl) ?_
                refine gf_Y_16 F hM (yw_y hw) rfl dY_isHidden_34 ?_
                refine lv_iload hx hb dY_isHidden_37 (lv_at hl 0 rfl) ?_
                refine mw_ild F hM (yw_2 hw) (vp_in_nI (by omega) (by omega)) dY_isHidden_39 ?_
                refine mv_i (y := (nI (sg_mc σ i))) (by rw [nI_clamp (by omega)]; exact yv_2 hw hik) ?_
                refine lv_iload_n hx hb dY_isHidden_40 rfl (lv_at hl 1 rfl) ?_
                refine lv_icmp_ne (tgt := 72) hx hb dY_isHidden_41 (by decide) (fun h3 => ?_) (fun h3 => ?_)
                · exact next H locs ls (fun z => h3 (by rw [z.1])) hM (lv_sub hl [0, 1, 2, 3, 4] rfl)
                · have h3 : sg_mc σ i = d := (nI_eq (by omega) (by omega)).mp h3
                  refine lv_aload_n hx hb dY_isHidden_44 rfl (lv_at hl 2 rfl) ?_
                  refine gf_Y_25 F hM (yw_y hw) rfl dY_isHidden_45 ?_
                  refine lv_iload hx hb dY_isHidden_48 (lv_at hl 0 rfl) ?_
                  refine mw_ild F hM (yw_5 hw) (vp_in_nI (by omega) (by omega)) dY_isHidden_50 ?_
                  refine mv_i (y := (sg_kd σ i)) (by rw [nI_clamp (by omega)]; exact yv_5 hw hik) ?_
                  refine lv_if_ne (tgt := 72) hx hb dY_isHidden_51 (by decide) (fun h4 => ?_) (fun h4 => ?_)
                  · exact next H locs ls (fun z => h4 z.2.1) hM (lv_sub hl [0, 1, 2, 3, 4] rfl)
                  · refine lv_aload_n hx hb dY_isHidden_54 rfl (lv_at hl 2 rfl) ?_
                    refine gf_Y_19 F hM (yw_y hw) rfl dY_isHidden_55 ?_
                    refine lv_iload hx hb dY_isHidden_58 (lv_at hl 0 rfl) ?_
                    refine mw_ild F hM (yw_3 hw) (vp_in_nI (by omega) (by omega)) dY_isHidden_60 ?_
                    refine mv_i (y := (sg_mn σ i)) (by rw [nI_clamp (by omega)]; exact yv_3 hw hik) ?_
                    refine lv_aload_n hx hb dY_isHidden_61 rfl (lv_at hl 2 rfl) ?_
                    refine gf_Y_19 F hM (yw_y hw) rfl dY_isHidden_62 ?_
                    refine lv_iload_n hx hb dY_isHidden_65 rfl (lv_at hl 3 rfl) ?_
                    refine mw_ild F hM (yw_3 hw) (vp_in_nI (by omega) (by omega)) dY_isHidden_66 ?_
                    refine mv_i (y := (sg_mn σ j)) (by rw [nI_clamp (by omega)]; exact yv_3 hw hj) ?_
                    refine lv_icmp_ne (tgt := 72) hx hb dY_isHidden_67 (by decide) (fun h5 => ?_) (fun h5 => ?_)
                    · exact next H locs ls (fun z => h5 z.2.2) hM (lv_sub hl [0, 1, 2, 3, 4] rfl)
                    · have hfi : fi_c σ (sg_mn σ j) 0 4 d = some i := by
                        rw [← h5, ← h3]; exact fh_at hw.1 hik h4
                      rw [hfi] at hq
                      dsimp only at hq
                      refine lv_iconst (v := 1) hx hb dY_isHidden_70 (by decide) ?_
                      exact mr_z (v := true) F hr hM (⟨by rw [hhd, hq, decide_eq_true (show ¬ some i = some j from fun z => hdj (by rw [← h3, Option.some.inj z]))], ch, lk, ov, hw, ky_rf, trivial⟩) dY_isHidden_71 ⟨Nat.le_of_ble_eq_true rfl, Nat.le_of_ble_eq_true rfl⟩
          refine lv_iconst (v := 0) hx hb dY_isHidden_21 (by decide) ?_
          refine lv_istore (lv' := [(4, .int 0), (3, .int (nI d)), (0, .ref y), (1, .int (nI j)), (2, .int (nI c))]) hx hb dY_isHidden_22 hl (by decide) rfl (fun ls hl => ?_)
          exact inner (sg_nm σ + 1) 0 _ _ ls (by omega) (Nat.zero_le _) (fun m hm => absurd hm (Nat.not_lt_zero m)) hM (lv_sub hl [0, 1, 2, 3, 4] rfl)
    refine lv_iload_n hx hb dY_isHidden_9 rfl (lv_at hl 2 rfl) ?_
    refine lv_istore_n (lv' := [(3, .int (nI c)), (0, .ref y), (1, .int (nI j)), (2, .int (nI c))]) hx hb dY_isHidden_10 rfl hl (by decide) rfl (fun ls hl => ?_)
    exact loop (c + 1) c _ _ ls (by omega) hc hbel rfl hM (lv_sub hl [0, 1, 2, 3] rfl)
set_option maxHeartbeats 4000000 in
set_option maxRecDepth 100000 in
theorem c_Y_seen (hw : yw_ G M y q σ rf f ch lk ov) (a b : Int32) : mw_C l G yY_seen bY_seen 5 (some .int) { frames := 4, cells := 0, slots := 0, locals := 160 } M [.ref y, .int a, .int b] (pz_ G y q (some (.int (sp_se σ a b))) σ rf f M (fun _ _ _ => True)) := by
  refine mw_of (by decide) (Nat.le_of_ble_eq_true rfl) ?_
  intro pg en s mi below meth cd F hr _ hM ls hl
  obtain ⟨hx, hb, -⟩ := id F
  have hl : lv_has ls 5 [(0, .ref y), (1, .int a), (2, .int b)] := hl
  have hnc := yw_nc hw
  have hnm := yw_nm hw
  refine lv_aload_n hx hb dY_seen_0 rfl (lv_at hl 0 rfl) ?_
  refine lv_iload_n hx hb dY_seen_1 rfl (lv_at hl 1 rfl) ?_
  refine mw_Vp (As := [.int a]) (rest := []) F (c_Y_isClass hw a) kb_Y_isClass ki_Y_isClass ks_Y_isClass kl_Y_54 hM (yw_y hw) rfl rfl hl.1 rfl (Nat.le_of_ble_eq_true rfl) dY_seen_2 ⟨⟨Nat.le_of_ble_eq_true rfl, Nat.le_of_ble_eq_true rfl⟩, Nat.le_of_ble_eq_true rfl, Nat.le_of_ble_eq_true rfl⟩ ⟨rfl, rfl⟩ (fun H locs hM => ?_)
  refine lv_if_eq (tgt := 16) hx hb dY_seen_5 (by decide) (fun h1 => ?_) (fun h1 => ?_)
  · have h1 : ix_o a (sg_nc σ) = none := by
      cases e : ix_o a (sg_nc σ) with
      | none => rfl
      | some i => rw [e] at h1; exact absurd (mb_z h1) (by simp)
    refine lv_iconst (v := (-1)) hx hb dY_seen_16 (by decide) ?_
    exact mr_i F hr hM (⟨by unfold sp_se; rw [h1], ch, lk, ov, hw, ky_rf, trivial⟩) dY_seen_17 ⟨Nat.le_of_ble_eq_true rfl, Nat.le_of_ble_eq_true rfl⟩
  · obtain ⟨i1, h1⟩ : ∃ i, ix_o a (sg_nc σ) = some i := by
      cases e : ix_o a (sg_nc σ) with
      | none => rw [e] at h1; exact absurd (mb_n h1) (by decide)
      | some i => exact ⟨i, rfl⟩
    obtain ⟨lh1, vh1⟩ := ix_some (by omega) h1
    refine lv_aload_n hx hb dY_seen_8 rfl (lv_at hl 0 rfl) ?_
    refine lv_iload_n hx hb dY_seen_9 rfl (lv_at hl 2 rfl) ?_
    refine mw_Vp (As := [.int b]) (rest := []) F (c_Y_isClass hw b) kb_Y_isClass ki_Y_isClass ks_Y_isClass kl_Y_54 hM (yw_y hw) rfl rfl hl.1 rfl (Nat.le_of_ble_eq_true rfl) dY_seen_10 ⟨⟨Nat.le_of_ble_eq_true rfl, Nat.le_of_ble_eq_true rfl⟩, Nat.le_of_ble_eq_true rfl, Nat.le_of_ble_eq_true rfl⟩ ⟨rfl, rfl⟩ (fun H locs hM => ?_)
    refine lv_if_ne (tgt := 18) hx hb dY_seen_13 (by decide) (fun h2 => ?_) (fun h2 => ?_)
    · obtain ⟨j1, h2⟩ : ∃ i, ix_o b (sg_nc σ) = some i := by
        cases e : ix_o b (sg_nc σ) with
        | none => rw [e] at h2; exact absurd (mb_n h2) (by decide)
        | some i => exact ⟨i, rfl⟩
      obtain ⟨lh2, vh2⟩ := ix_some (by omega) h2
      have hsp : sp_se σ a b = nI (sg_cn (fun m => decide (sg_mc σ m ∈ sg_ln (sg_pr σ) j1) && (sg_rc σ i1 m && !sg_hd σ m j1)) (sg_nm σ)) := by unfold sp_se; rw [h1, h2]
      rw [hsp]
      clear hsp
      subst vh1
      subst vh2
      have loop : ∀ (v i : Nat) (M1 : mw_M) (ch1 : Nat → Int32) (lk1 : Int32) (ov1 : Nat → Int32) (H : Heap) (locs : List Loc) (ls : Array Slot), sg_nm σ < i + v → i ≤ sg_nm σ → yw_ G M1 y q σ rf f ch1 lk1 ov1 → ky_ M M1 → mw_S G M1 s.heap H locs → lv_has ls 5 [(4, .int (nI i)), (3, .int (nI (sg_cn (fun m => decide (sg_mc σ m ∈ sg_ln (sg_pr σ) j1) && (sg_rc σ i1 m && !sg_hd σ m j1)) i))), (0, .ref y), (1, .int (nI i1)), (2, .int (nI j1))] → W pg l en { frames := 4, cells := 0, slots := 0, locals := 160 } s mi [.ref y, .int (nI i1), .int (nI j1)].toArray below meth cd H locs 0 0 (MQ below (mw_Q G (pz_ G y q (some (.int (nI (sg_cn (fun m => decide (sg_mc σ m ∈ sg_ln (sg_pr σ) j1) && (sg_rc σ i1 m && !sg_hd σ m j1)) (sg_nm σ))))) σ rf f M (fun _ _ _ => True))) [.ref y, .int (nI i1), .int (nI j1)].toArray s 0 0 (mw_A G)) (F0 mi 23 ls []) := by
        intro v
        induction v with
        | zero => intro i M1 ch1 lk1 ov1 H locs ls h3 h4; omega
        | succ v ih =>
          intro i M1 ch1 lk1 ov1 H locs ls hv hi hw1 k1 hM hl
          refine lv_iload hx hb dY_seen_23 (lv_at hl 0 rfl) ?_
          refine lv_aload_n hx hb dY_seen_25 rfl (lv_at hl 2 rfl) ?_
          refine gf_Y_48 F hM (yw_y hw1) rfl dY_seen_26 ?_
          refine lv_icmp_ge (tgt := 76) hx hb dY_seen_29 (by decide) (fun h3 => ?_) (fun h3 => ?_)
          · have hin : i = sg_nm σ := by
              have := (nI_leI (by omega) (by omega)).mp h3
              omega
            subst hin
            refine lv_iload_n hx hb dY_seen_76 rfl (lv_at hl 1 rfl) ?_
            exact mr_i F hr hM (⟨rfl, _, _, _, hw1, k1, trivial⟩) dY_seen_77 ⟨Nat.le_of_ble_eq_true rfl, Nat.le_of_ble_eq_true rfl⟩
          · have hin : i < sg_nm σ := Nat.not_le.mp (fun z => h3 (nI_le z (by omega)))
            have hmi := yw_mc hw hin
            have next : ∀ (M1 : mw_M) (ch1 : Nat → Int32) (lk1 : Int32) (ov1 : Nat → Int32) (H : Heap) (locs : List Loc) (ls : Array Slot), yw_ G M1 y q σ rf f ch1 lk1 ov1 → ky_ M M1 → mw_S G M1 s.heap H locs → lv_has ls 5 [(4, .int (nI i)), (3, .int (nI (sg_cn (fun m => decide (sg_mc σ m ∈ sg_ln (sg_pr σ) j1) && (sg_rc σ i1 m && !sg_hd σ m j1)) (i + 1)))), (0, .ref y), (1, .int (nI i1)), (2, .int (nI j1))] → W pg l en { frames := 4, cells := 0, slots := 0, locals := 160 } s mi [.ref y, .int (nI i1), .int (nI j1)].toArray below meth cd H locs 0 0 (MQ below (mw_Q G (pz_ G y q (some (.int (nI (sg_cn (fun m => decide (sg_mc σ m ∈ sg_ln (sg_pr σ) j1) && (sg_rc σ i1 m && !sg_hd σ m j1)) (sg_nm σ))))) σ rf f M (fun _ _ _ => True))) [.ref y, .int (nI i1), .int (nI j1)].toArray s 0 0 (mw_A G)) (F0 mi 70 ls []) := by
              intro M1 ch1 lk1 ov1 H locs ls hw1 k1 hM hl
              refine lv_iinc (v := nI (i + 1)) (lv' := [(4, .int (nI (i + 1))), (3, .int (nI (sg_cn (fun m => decide (sg_mc σ m ∈ sg_ln (sg_pr σ) j1) && (sg_rc σ i1 m && !sg_hd σ m j1)) (i + 1)))), (0, .ref y), (1, .int (nI i1)), (2, .int (nI j1))]) hx hb dY_seen_70 hl (k := 0) rfl (ii_1 i) (by decide) rfl (fun ls hl => ?_)
              refine lv_goto (tgt := 23) hx hb dY_seen_73 (by decide) ?_
              exact ih (i + 1) M1 ch1 lk1 ov1 H locs ls (by omega) (by omega) hw1 k1 hM (lv_sub hl [0, 1, 2, 3, 4] rfl)
            have hcn := cn_s (fun m => decide (sg_mc σ m ∈ sg_ln (sg_pr σ) j1) && (sg_rc σ i1 m && !sg_hd σ m j1)) i
            refine lv_aload_n hx hb dY_seen_32 rfl (lv_at hl 2 rfl) ?_
            refine lv_iload_n hx hb dY_seen_33 rfl (lv_at hl 4 rfl) ?_
            refine lv_aload_n hx hb dY_seen_34 rfl (lv_at hl 2 rfl) ?_
            refine gf_Y_16 F hM (yw_y hw1) rfl dY_seen_35 ?_
            refine lv_iload hx hb dY_seen_38 (lv_at hl 0 rfl) ?_
            refine mw_ild F hM (yw_2 hw1) (vp_in_nI (by omega) (by omega)) dY_seen_40 ?_
            refine mv_i (y := (nI (sg_mc σ i))) (by rw [nI_clamp (by omega)]; exact yv_2 hw1 hin) ?_
            refine mw_Vp (As := [.int (nI j1), .int (nI (sg_mc σ i))]) (rest := []) F (c_Y_isBelow hw1 lh2 hmi) kb_Y_isBelow ki_Y_isBelow ks_Y_isBelow kl_Y_58 hM (yw_y hw1) rfl rfl hl.1 rfl (Nat.le_of_ble_eq_true rfl) dY_seen_41 ⟨⟨Nat.le_of_ble_eq_true rfl, Nat.le_of_ble_eq_true rfl⟩, Nat.le_of_ble_eq_true rfl, Nat.le_of_ble_eq_true rfl⟩ ⟨rfl, rfl⟩ (fun H locs hM => ?_)
            refine lv_if_eq (tgt := 70) hx hb dY_seen_44 (by decide) (fun h4 => ?_) (fun h4 => ?_)
            · have hcz : sg_cn (fun m => decide (sg_mc σ m ∈ sg_ln (sg_pr σ) j1) && (sg_rc σ i1 m && !sg_hd σ m j1)) (i + 1) = sg_cn (fun m => decide (sg_mc σ m ∈ sg_ln (sg_pr σ) j1) && (sg_rc σ i1 m && !sg_hd σ m j1)) i := by
                rw [hcn, mb_z h4]; simp
              exact next M1 ch1 lk1 ov1 H locs ls hw1 k1 hM (by rw [hcz]; exact (lv_sub hl [0, 1, 2, 3, 4] rfl))
            · have hbel := mb_n h4
              refine lv_aload_n hx hb dY_seen_47 rfl (lv_at hl 2 rfl) ?_
              refine lv_iload_n hx hb dY_seen_48 rfl (lv_at hl 3 rfl) ?_
              refine lv_iload hx hb dY_seen_49 (lv_at hl 0 rfl) ?_
              refine mw_Vp (As := [.int (nI i1), .int (nI i)]) (rest := []) F (c_Y_doesReach hw1 lh1 hin) kb_Y_doesReach ki_Y_doesReach ks_Y_doesReach kl_Y_84 hM (yw_y hw1) rfl rfl hl.1 rfl (Nat.le_of_ble_eq_true rfl) dY_seen_51 ⟨⟨Nat.le_of_ble_eq_true rfl, Nat.le_of_ble_eq_true rfl⟩, Nat.le_of_ble_eq_true rfl, Nat.le_of_ble_eq_true rfl⟩ ⟨rfl, rfl⟩ (fun H locs hM => ?_)
              refine lv_if_eq (tgt := 70) hx hb dY_seen_54 (by decide) (fun h5 => ?_) (fun h5 => ?_)
              · have hcz : sg_cn (fun m => decide (sg_mc σ m ∈ sg_ln (sg_pr σ) j1) && (sg_rc σ i1 m && !sg_hd σ m j1)) (i + 1) = sg_cn (fun m => decide (sg_mc σ m ∈ sg_ln (sg_pr σ) j1) && (sg_rc σ i1 m && !sg_hd σ m j1)) i := by
                  rw [hcn, mb_z h5]; simp
                exact next M1 ch1 lk1 ov1 H locs ls hw1 k1 hM (by rw [hcz]; exact (lv_sub hl [0, 1, 2, 3, 4] rfl))
              · refine lv_aload_n hx hb dY_seen_57 rfl (lv_at hl 2 rfl) ?_
                refine lv_iload hx hb dY_seen_58 (lv_at hl 0 rfl) ?_
                refine lv_iload_n hx hb dY_seen_60 rfl (lv_at hl 4 rfl) ?_
                refine mw_Vg (As := [.int (nI i), .int (nI j1)]) (rest := []) F (c_Y_isHidden hw1 hin lh2 (of_decide_eq_true hbel)) kb_Y_isHidden ki_Y_isHidden ks_Y_isHidden kl_Y_115 hM (yw_y hw1) rfl rfl hl.1 rfl (Nat.le_of_ble_eq_true rfl) dY_seen_61 ⟨⟨Nat.le_of_ble_eq_true rfl, Nat.le_of_ble_eq_true rfl⟩, Nat.le_of_ble_eq_true rfl, Nat.le_of_ble_eq_true rfl⟩ (fun M2 H locs hp hM => ?_)
                obtain ⟨ch2, lk2, ov2, hw2, k2, -⟩ := hp
                refine lv_if_ne (tgt := 70) hx hb dY_seen_64 (by decide) (fun h6 => ?_) (fun h6 => ?_)
                · have hcz : sg_cn (fun m => decide (sg_mc σ m ∈ sg_ln (sg_pr σ) j1) && (sg_rc σ i1 m && !sg_hd σ m j1)) (i + 1) = sg_cn (fun m => decide (sg_mc σ m ∈ sg_ln (sg_pr σ) j1) && (sg_rc σ i1 m && !sg_hd σ m j1)) i := by
                    rw [hcn, mb_n h6]; simp
                  exact next M2 ch2 lk2 ov2 H locs ls hw2 (ky_tr k1 k2) hM (by rw [hcz]; exact (lv_sub hl [0, 1, 2, 3, 4] rfl))
                · have hcz : sg_cn (fun m => decide (sg_mc σ m ∈ sg_ln (sg_pr σ) j1) && (sg_rc σ i1 m && !sg_hd σ m j1)) (i + 1) = sg_cn (fun m => decide (sg_mc σ m ∈ sg_ln (sg_pr σ) j1) && (sg_rc σ i1 m && !sg_hd σ m j1)) i + 1 := by
                    rw [hcn, hbel, mb_n h5, mb_z h6]; rfl
                  refine lv_iinc (v := nI (sg_cn (fun m => decide (sg_mc σ m ∈ sg_ln (sg_pr σ) j1) && (sg_rc σ i1 m && !sg_hd σ m j1)) i + 1)) (lv' := [(3, .int (nI (sg_cn (fun m => decide (sg_mc σ m ∈ sg_ln (sg_pr σ) j1) && (sg_rc σ i1 m && !sg_hd σ m j1)) i + 1))), (4, .int (nI i)), (0, .ref y), (1, .int (nI i1)), (2, .int (nI j1))]) hx hb dY_seen_67 hl (k := 1) rfl (ii_1 _) (by decide) rfl (fun ls hl => ?_)
                  exact next M2 ch2 lk2 ov2 H locs ls hw2 (ky_tr k1 k2) hM (by rw [hcz]; exact (lv_sub hl [1, 0, 2, 3, 4] rfl))
      refine lv_iconst (v := 0) hx hb dY_seen_18 (by decide) ?_
      refine lv_istore_n (lv' := [(3, .int 0), (0, .ref y), (1, .int (nI i1)), (2, .int (nI j1))]) hx hb dY_seen_19 rfl hl (by decide) rfl (fun ls hl => ?_)
      refine lv_iconst (v := 0) hx hb dY_seen_20 (by decide) ?_
      refine lv_istore (lv' := [(4, .int 0), (3, .int 0), (0, .ref y), (1, .int (nI i1)), (2, .int (nI j1))]) hx hb dY_seen_21 hl (by decide) rfl (fun ls hl => ?_)
      exact loop (sg_nm σ + 1) 0 M ch lk ov _ _ ls (by omega) (Nat.zero_le _) hw ky_rf hM (lv_sub hl [0, 1, 2, 3, 4] rfl)
    · have h2 : ix_o b (sg_nc σ) = none := by
        cases e : ix_o b (sg_nc σ) with
        | none => rfl
        | some i => rw [e] at h2; exact absurd (mb_z h2) (by simp)
      refine lv_iconst (v := (-1)) hx hb dY_seen_16 (by decide) ?_
      exact mr_i F hr hM (⟨by unfold sp_se; rw [h1, h2], ch, lk, ov, hw, ky_rf, trivial⟩) dY_seen_17 ⟨Nat.le_of_ble_eq_true rfl, Nat.le_of_ble_eq_true rfl⟩
end GC
