section GC
variable {l : Launch} {G : mw_G} {M : mw_M} {y : Nat} {q : Nat → Nat} {σ : sg_T} {rf : Int32} {f : Nat → Nat → Int32} {ch : Nat → Int32} {lk : Int32} {ov : Nat → Int32}
set_option maxHeartbeats 4000000 in
set_option maxRecDepth 100000 in
theorem c_Y_called (hw : yw_ G M y q σ rf f ch lk ov) (a b : Int32) : mw_C l G yY_called bY_called 5 (some .int) { frames := 3, cells := 0, slots := 0, locals := 120 } M [.ref y, .int a, .int b] (pz_ G y q (some (.int (sp_ca σ a b))) σ rf f M (fun _ _ _ => True)) := by
  refine mw_of (by decide) (Nat.le_of_ble_eq_true rfl) ?_
  intro pg en s mi below meth cd F hr _ hM ls hl
  obtain ⟨hx, hb, -⟩ := id F
  have hl : lv_has ls 5 [(0, .ref y), (1, .int a), (2, .int b)] := hl
  have hnc := yw_nc hw
  have hnm := yw_nm hw
  refine lv_aload_n hx hb dY_called_0 rfl (lv_at hl 0 rfl) ?_
  refine lv_iload_n hx hb dY_called_1 rfl (lv_at hl 1 rfl) ?_
  refine mw_Vp (As := [.int a]) (rest := []) F (c_Y_isMember hw a) kb_Y_isMember ki_Y_isMember ks_Y_isMember kl_Y_109 hM (yw_y hw) rfl rfl hl.1 rfl (Nat.le_of_ble_eq_true rfl) dY_called_2 ⟨⟨Nat.le_of_ble_eq_true rfl, Nat.le_of_ble_eq_true rfl⟩, Nat.le_of_ble_eq_true rfl, Nat.le_of_ble_eq_true rfl⟩ ⟨rfl, rfl⟩ (fun H locs hM => ?_)
  refine lv_if_eq (tgt := 38) hx hb dY_called_5 (by decide) (fun h1 => ?_) (fun h1 => ?_)
  · have h1 : ix_o a (sg_nm σ) = none := by
      cases e : ix_o a (sg_nm σ) with
      | none => rfl
      | some i => rw [e] at h1; exact absurd (mb_z h1) (by simp)
    refine lv_iconst (v := (-1)) hx hb dY_called_38 (by decide) ?_
    exact mr_i F hr hM (⟨by unfold sp_ca; rw [h1], ch, lk, ov, hw, ky_rf, trivial⟩) dY_called_39 ⟨Nat.le_of_ble_eq_true rfl, Nat.le_of_ble_eq_true rfl⟩
  · obtain ⟨m1, h1⟩ : ∃ i, ix_o a (sg_nm σ) = some i := by
      cases e : ix_o a (sg_nm σ) with
      | none => rw [e] at h1; exact absurd (mb_n h1) (by decide)
      | some i => exact ⟨i, rfl⟩
    obtain ⟨lh1, vh1⟩ := ix_some (by omega) h1
    refine lv_aload_n hx hb dY_called_8 rfl (lv_at hl 0 rfl) ?_
    refine lv_iload_n hx hb dY_called_9 rfl (lv_at hl 2 rfl) ?_
    refine mw_Vp (As := [.int b]) (rest := []) F (c_Y_isClass hw b) kb_Y_isClass ki_Y_isClass ks_Y_isClass kl_Y_54 hM (yw_y hw) rfl rfl hl.1 rfl (Nat.le_of_ble_eq_true rfl) dY_called_10 ⟨⟨Nat.le_of_ble_eq_true rfl, Nat.le_of_ble_eq_true rfl⟩, Nat.le_of_ble_eq_true rfl, Nat.le_of_ble_eq_true rfl⟩ ⟨rfl, rfl⟩ (fun H locs hM => ?_)
    refine lv_if_eq (tgt := 38) hx hb dY_called_13 (by decide) (fun h2 => ?_) (fun h2 => ?_)
    · have h2 : ix_o b (sg_nc σ) = none := by
        cases e : ix_o b (sg_nc σ) with
        | none => rfl
        | some i => rw [e] at h2; exact absurd (mb_z h2) (by simp)
      refine lv_iconst (v := (-1)) hx hb dY_called_38 (by decide) ?_
      exact mr_i F hr hM (⟨by unfold sp_ca; rw [h1, h2], ch, lk, ov, hw, ky_rf, trivial⟩) dY_called_39 ⟨Nat.le_of_ble_eq_true rfl, Nat.le_of_ble_eq_true rfl⟩
    · obtain ⟨c1, h2⟩ : ∃ i, ix_o b (sg_nc σ) = some i := by
        cases e : ix_o b (sg_nc σ) with
        | none => rw [e] at h2; exact absurd (mb_n h2) (by decide)
        | some i => exact ⟨i, rfl⟩
      obtain ⟨lh2, vh2⟩ := ix_some (by omega) h2
      have hsp : sp_ca σ a b = if sg_ob σ m1 = true ∧ sg_mc σ m1 ∈ sg_ln (sg_pr σ) c1 then nI (sg_cl σ m1 c1) else -1 := by unfold sp_ca; rw [h1, h2]
      rw [hsp]
      clear hsp
      have hmc := yw_mc hw lh1
      subst vh1
      subst vh2
      refine lv_aload_n hx hb dY_called_16 rfl (lv_at hl 0 rfl) ?_
      refine lv_iload_n hx hb dY_called_17 rfl (lv_at hl 1 rfl) ?_
      refine mw_Vp (As := [.int (nI m1)]) (rest := []) F (c_Y_isOwn hw lh1) kb_Y_isOwn ki_Y_isOwn ks_Y_isOwn kl_Y_77 hM (yw_y hw) rfl rfl hl.1 rfl (Nat.le_of_ble_eq_true rfl) dY_called_18 ⟨⟨Nat.le_of_ble_eq_true rfl, Nat.le_of_ble_eq_true rfl⟩, Nat.le_of_ble_eq_true rfl, Nat.le_of_ble_eq_true rfl⟩ ⟨rfl, rfl⟩ (fun H locs hM => ?_)
      refine lv_if_eq (tgt := 38) hx hb dY_called_21 (by decide) (fun h3 => ?_) (fun h3 => ?_)
      · refine lv_iconst (v := (-1)) hx hb dY_called_38 (by decide) ?_
        exact mr_i F hr hM (⟨by rw [if_neg (fun z => by rw [mb_z h3] at z; exact absurd z.1 (by decide))], ch, lk, ov, hw, ky_rf, trivial⟩) dY_called_39 ⟨Nat.le_of_ble_eq_true rfl, Nat.le_of_ble_eq_true rfl⟩
      · refine lv_aload_n hx hb dY_called_24 rfl (lv_at hl 0 rfl) ?_
        refine lv_iload_n hx hb dY_called_25 rfl (lv_at hl 2 rfl) ?_
        refine lv_aload_n hx hb dY_called_26 rfl (lv_at hl 0 rfl) ?_
        refine gf_Y_16 F hM (yw_y hw) rfl dY_called_27 ?_
        refine lv_iload_n hx hb dY_called_30 rfl (lv_at hl 1 rfl) ?_
        refine mw_ild F hM (yw_2 hw) (vp_in_nI (by omega) (by omega)) dY_called_31 ?_
        refine mv_i (y := (nI (sg_mc σ m1))) (by rw [nI_clamp (by omega)]; exact yv_2 hw lh1) ?_
        refine mw_Vp (As := [.int (nI c1), .int (nI (sg_mc σ m1))]) (rest := []) F (c_Y_isBelow hw lh2 hmc) kb_Y_isBelow ki_Y_isBelow ks_Y_isBelow kl_Y_58 hM (yw_y hw) rfl rfl hl.1 rfl (Nat.le_of_ble_eq_true rfl) dY_called_32 ⟨⟨Nat.le_of_ble_eq_true rfl, Nat.le_of_ble_eq_true rfl⟩, Nat.le_of_ble_eq_true rfl, Nat.le_of_ble_eq_true rfl⟩ ⟨rfl, rfl⟩ (fun H locs hM => ?_)
        refine lv_if_ne (tgt := 40) hx hb dY_called_35 (by decide) (fun h4 => ?_) (fun h4 => ?_)
        · have hbel := of_decide_eq_true (mb_n h4)
          have hob := mb_n h3
          rw [if_pos ⟨hob, hbel⟩]
          refine lv_aload_n hx hb dY_called_40 rfl (lv_at hl 0 rfl) ?_
          refine gf_Y_22 F hM (yw_y hw) rfl dY_called_41 ?_
          refine lv_iload_n hx hb dY_called_44 rfl (lv_at hl 1 rfl) ?_
          refine mw_ild F hM (yw_4 hw) (vp_in_nI (by omega) (by omega)) dY_called_45 ?_
          refine mv_i (y := (sg_rg σ m1)) (by rw [nI_clamp (by omega)]; exact yv_4 hw lh1) ?_
          refine lv_if_ne (tgt := 51) hx hb dY_called_46 (by decide) (fun h5 => ?_) (fun h5 => ?_)
          · refine lv_aload_n hx hb dY_called_51 rfl (lv_at hl 0 rfl) ?_
            refine lv_iload_n hx hb dY_called_52 rfl (lv_at hl 2 rfl) ?_
            refine lv_aload_n hx hb dY_called_53 rfl (lv_at hl 0 rfl) ?_
            refine gf_Y_19 F hM (yw_y hw) rfl dY_called_54 ?_
            refine lv_iload_n hx hb dY_called_57 rfl (lv_at hl 1 rfl) ?_
            refine mw_ild F hM (yw_3 hw) (vp_in_nI (by omega) (by omega)) dY_called_58 ?_
            refine mv_i (y := (sg_mn σ m1)) (by rw [nI_clamp (by omega)]; exact yv_3 hw lh1) ?_
            refine lv_aload_n hx hb dY_called_59 rfl (lv_at hl 0 rfl) ?_
            refine gf_Y_28 F hM (yw_y hw) rfl dY_called_60 ?_
            refine lv_iload_n hx hb dY_called_63 rfl (lv_at hl 1 rfl) ?_
            refine mw_ild F hM (yw_6 hw) (vp_in_nI (by omega) (by omega)) dY_called_64 ?_
            refine mv_i (y := (sg_ty σ m1)) (by rw [nI_clamp (by omega)]; exact yv_6 hw lh1) ?_
            refine mw_Wg (As := [.int (nI c1), .int (sg_mn σ m1), .int (sg_ty σ m1)]) (rest := []) F (c_Y_gather hw (some c1) (fun d hd => by cases hd; exact lh2) (sg_mn σ m1) (sg_ty σ m1)) kb_Y_gather ki_Y_gather ks_Y_gather kl_Y_94 hM (yw_y hw) rfl rfl hl.1 rfl (Nat.le_of_ble_eq_true rfl) dY_called_65 ⟨⟨Nat.le_of_ble_eq_true rfl, Nat.le_of_ble_eq_true rfl⟩, Nat.le_of_ble_eq_true rfl, Nat.le_of_ble_eq_true rfl⟩ (fun M1 H locs hp hM => ?_)
            obtain ⟨ch1, lk1, ov1, hw1, k1, -, g, N, rfl, hN, hf, hch⟩ := hp
            have hdd : ∀ d, some c1 = some d → d < sg_nc σ := fun d hd => by cases hd; exact lh2
            have hgl : ∀ k, k < N → g k < sg_nm σ := fun k hk => (oo_some (dn_lt hw.1 hdd hf hk).1).1
            have hinj := dn_inj hw.1 hdd hf
            refine lv_aload_n hx hb dY_called_68 rfl (lv_at hl 0 rfl) ?_
            refine lv_iconst (v := (-1)) hx hb dY_called_69 (by decide) ?_
            refine lv_iconst (v := 0) hx hb dY_called_70 (by decide) ?_
            refine mw_Wg (As := [.int (-1), .int 0]) (rest := []) F (c_Y_relate (N := N) (R := fun k => sg_rg σ (g k)) (K := fun k => sg_pk σ (sg_mc σ (g k))) (g := g) hw1 (-1) 0 (by omega) (fun k hk => Or.inl ⟨hgl k hk, hch k hk, rfl, rfl⟩)) kb_Y_relate ki_Y_relate ks_Y_relate kl_Y_98 hM (yw_y hw1) rfl rfl hl.1 rfl (Nat.le_of_ble_eq_true rfl) dY_called_71 ⟨⟨Nat.le_of_ble_eq_true rfl, Nat.le_of_ble_eq_true rfl⟩, Nat.le_of_ble_eq_true rfl, Nat.le_of_ble_eq_true rfl⟩ (fun M2 H locs hp hM => ?_)
            obtain ⟨ch2, lk2, ov2, hw2, k2, rfl, rfl, O, hO, hov⟩ := hp
            have kf : ky_ M M2 := ky_tr k1 k2
            have htab : ∀ i9 j9, j9 < i9 → i9 < N → O i9 j9 = ov_r σ (sg_mc σ (g i9)) (sg_mn σ m1) (sg_ty σ m1) (sg_rg σ (g i9)) (g j9) := fun i9 j9 h1 h2 => dn_tab hw.1 hdd hf hO (fun _ _ => rfl) (fun _ _ => rfl) h1 h2
            obtain ⟨j, hj, hmj⟩ := dn_has hw.1 hf lh1 hob rfl rfl hbel
            have hcl : sg_cl σ m1 c1 = sr_g g (fun i => O i j) j N := by
              unfold sg_cl
              rw [if_neg h5, hmj]
              refine cl_dn (n := sg_mn σ m1) (t := sg_ty σ m1) (by rw [← hmj]) (by rw [← hmj]) _ N hf hj hinj (dn_lt hw.1 hdd hf hj).1 (fun i h1 h2 => htab i j h1 h2)
            refine lv_aload_n hx hb dY_called_74 rfl (lv_at hl 0 rfl) ?_
            refine lv_iload_n hx hb dY_called_75 rfl (lv_at hl 1 rfl) ?_
            refine mv_i (y := nI (g j)) (by rw [hmj]) ?_
            refine mw_Vp (As := [.int (nI (g j))]) (rest := []) F (c_Y_linkOf (g := g) hw2 (by omega) rfl hch hgl hinj hj) kb_Y_linkOf ki_Y_linkOf ks_Y_linkOf kl_Y_112 hM (yw_y hw2) rfl rfl hl.1 rfl (Nat.le_of_ble_eq_true rfl) dY_called_76 ⟨⟨Nat.le_of_ble_eq_true rfl, Nat.le_of_ble_eq_true rfl⟩, Nat.le_of_ble_eq_true rfl, Nat.le_of_ble_eq_true rfl⟩ ⟨rfl, rfl⟩ (fun H locs hM => ?_)
            refine lv_istore_n (lv' := [(3, .int (nI j)), (0, .ref y), (1, .int (nI m1)), (2, .int (nI c1))]) hx hb dY_called_79 rfl hl (by decide) rfl (fun ls hl => ?_)
            refine lv_aload_n hx hb dY_called_80 rfl (lv_at hl 1 rfl) ?_
            refine gf_Y_91 F hM (yw_y hw2) rfl dY_called_81 ?_
            refine lv_iconst (v := 1) hx hb dY_called_84 (by decide) ?_
            refine lv_isub hx hb dY_called_85 ?_
            refine mv_i (y := nI (N - 1)) (pk_sub (b := 1) (by omega)) ?_
            refine lv_istore (lv' := [(4, .int (nI (N - 1))), (3, .int (nI j)), (0, .ref y), (1, .int (nI m1)), (2, .int (nI c1))]) hx hb dY_called_86 hl (by decide) rfl (fun ls hl => ?_)
            have loop : ∀ (v i : Nat) (H : Heap) (locs : List Loc) (ls : Array Slot), i < v → j ≤ i → i < N → sg_cl σ m1 c1 = sr_g g (fun i => O i j) j (i + 1) → mw_S G M2 s.heap H locs → lv_has ls 5 [(4, .int (nI i)), (3, .int (nI j)), (0, .ref y), (1, .int (nI m1)), (2, .int (nI c1))] → W pg l en { frames := 3, cells := 0, slots := 0, locals := 120 } s mi [.ref y, .int (nI m1), .int (nI c1)].toArray below meth cd H locs 0 0 (MQ below (mw_Q G (pz_ G y q (some (.int (nI (sg_cl σ m1 c1)))) σ rf f M (fun _ _ _ => True))) [.ref y, .int (nI m1), .int (nI c1)].toArray s 0 0 (mw_A G)) (F0 mi 88 ls []) := by
              intro v
              induction v with
              | zero => intro i H locs ls h1; omega
              | succ v ih =>
                intro i H locs ls hv hji hiN hq hM hl
                refine lv_iload hx hb dY_called_88 (lv_at hl 0 rfl) ?_
                refine lv_iload_n hx hb dY_called_90 rfl (lv_at hl 1 rfl) ?_
                refine lv_icmp_le (tgt := 123) hx hb dY_called_91 (by decide) (fun h6 => ?_) (fun h6 => ?_)
                · have hij : i ≤ j := (nI_leI (by omega) (by omega)).mp h6
                  refine lv_iload_n hx hb dY_called_123 rfl (lv_at hl 3 rfl) ?_
                  exact mr_i F hr hM (⟨by rw [hq, sr_le (by omega), ← hmj], _, _, _, hw2, kf, trivial⟩) dY_called_124 ⟨Nat.le_of_ble_eq_true rfl, Nat.le_of_ble_eq_true rfl⟩
                · have hij : j < i := Nat.not_le.mp (fun z => h6 (nI_le z (by omega)))
                  rw [sr_s, if_neg (by omega)] at hq
                  refine lv_aload_n hx hb dY_called_94 rfl (lv_at hl 2 rfl) ?_
                  refine gf_Y_41 F hM (yw_y hw2) rfl dY_called_95 ?_
                  refine lv_bipush (v := 41) hx hb dY_called_98 (by decide) ?_
                  refine lv_iload hx hb dY_called_100 (lv_at hl 0 rfl) ?_
                  refine lv_imul hx hb dY_called_102 ?_
                  refine mv_i (y := nI (41 * i)) (pk_mul 41 i) ?_
                  refine lv_iload_n hx hb dY_called_103 rfl (lv_at hl 1 rfl) ?_
                  refine lv_iadd hx hb dY_called_104 ?_
                  refine mv_i (y := nI (41 * i + j)) (nI_add (41 * i) j) ?_
                  refine mw_zld F hM (yw_10 hw2) (vp_in_nI (by omega) (by omega)) dY_called_105 ?_
                  refine mv_i (y := mb_i (O i j)) (by rw [nI_clamp (by omega)]; exact hov i j hij hiN) ?_
                  refine lv_if_eq (tgt := 117) hx hb dY_called_106 (by decide) (fun h7 => ?_) (fun h7 => ?_)
                  · rw [mb_z h7] at hq
                    refine lv_iinc (v := nI (i - 1)) (lv' := [(4, .int (nI (i - 1))), (3, .int (nI j)), (0, .ref y), (1, .int (nI m1)), (2, .int (nI c1))]) hx hb dY_called_117 hl (k := 0) rfl (ii_m (by omega)) (by decide) rfl (fun ls hl => ?_)
                    refine lv_goto (tgt := 88) hx hb dY_called_120 (by decide) ?_
                    exact ih (i - 1) H locs ls (by omega) (by omega) (by omega) (by rw [show i - 1 + 1 = i by omega]; exact hq) hM (lv_sub hl [0, 1, 2, 3, 4] rfl)
                  · rw [mb_n h7] at hq
                    refine lv_aload_n hx hb dY_called_109 rfl (lv_at hl 2 rfl) ?_
                    refine gf_Y_38 F hM (yw_y hw2) rfl dY_called_110 ?_
                    refine lv_iload hx hb dY_called_113 (lv_at hl 0 rfl) ?_
                    refine mw_ild F hM (yw_9 hw2) (vp_in_nI (by omega) (by omega)) dY_called_115 ?_
                    refine mv_i (y := nI (g i)) (by rw [nI_clamp (by omega)]; exact hch i hiN) ?_
                    exact mr_i F hr hM (⟨by rw [hq]; rfl, _, _, _, hw2, kf, trivial⟩) dY_called_116 ⟨Nat.le_of_ble_eq_true rfl, Nat.le_of_ble_eq_true rfl⟩
            exact loop N (N - 1) _ _ ls (by omega) (by omega) (by omega) (by rw [show N - 1 + 1 = N by omega]; exact hcl) hM (lv_sub hl [0, 1, 2, 3, 4] rfl)
          · refine lv_iload_n hx hb dY_called_49 rfl (lv_at hl 1 rfl) ?_
            exact mr_i F hr hM (⟨by unfold sg_cl; rw [if_pos h5], ch, lk, ov, hw, ky_rf, trivial⟩) dY_called_50 ⟨Nat.le_of_ble_eq_true rfl, Nat.le_of_ble_eq_true rfl⟩
        · refine lv_iconst (v := (-1)) hx hb dY_called_38 (by decide) ?_
          exact mr_i F hr hM (⟨by rw [if_neg (fun z => of_decide_eq_false (mb_z h4) z.2)], ch, lk, ov, hw, ky_rf, trivial⟩) dY_called_39 ⟨Nat.le_of_ble_eq_true rfl, Nat.le_of_ble_eq_true rfl⟩
set_option maxHeartbeats 4000000 in
set_option maxRecDepth 100000 in
theorem c_Y_overrides (hw : yw_ G M y q σ rf f ch lk ov) (a b : Int32) : mw_C l G yY_overrides bY_overrides 3 (some .boolean) { frames := 3, cells := 0, slots := 0, locals := 120 } M [.ref y, .int a, .int b] (pz_ G y q (some (.int (mb_i (sp_ov σ a b)))) σ rf f M (fun _ _ _ => True)) := by
  refine mw_of (by decide) (Nat.le_of_ble_eq_true rfl) ?_
  intro pg en s mi below meth cd F hr _ hM ls hl
  obtain ⟨hx, hb, -⟩ := id F
  have hl : lv_has ls 3 [(0, .ref y), (1, .int a), (2, .int b)] := hl
  have hnc := yw_nc hw
  have hnm := yw_nm hw
  refine lv_aload_n hx hb dY_overrides_0 rfl (lv_at hl 0 rfl) ?_
  refine lv_iload_n hx hb dY_overrides_1 rfl (lv_at hl 1 rfl) ?_
  refine mw_Vp (As := [.int a]) (rest := []) F (c_Y_isMember hw a) kb_Y_isMember ki_Y_isMember ks_Y_isMember kl_Y_109 hM (yw_y hw) rfl rfl hl.1 rfl (Nat.le_of_ble_eq_true rfl) dY_overrides_2 ⟨⟨Nat.le_of_ble_eq_true rfl, Nat.le_of_ble_eq_true rfl⟩, Nat.le_of_ble_eq_true rfl, Nat.le_of_ble_eq_true rfl⟩ ⟨rfl, rfl⟩ (fun H locs hM => ?_)
  refine lv_if_eq (tgt := 62) hx hb dY_overrides_5 (by decide) (fun h1 => ?_) (fun h1 => ?_)
  · have h1 : ix_o a (sg_nm σ) = none := by
      cases e : ix_o a (sg_nm σ) with
      | none => rfl
      | some i => rw [e] at h1; exact absurd (mb_z h1) (by simp)
    refine lv_iconst (v := 0) hx hb dY_overrides_62 (by decide) ?_
    exact mr_z (v := false) F hr hM (⟨by unfold sp_ov; rw [h1], ch, lk, ov, hw, ky_rf, trivial⟩) dY_overrides_63 ⟨Nat.le_of_ble_eq_true rfl, Nat.le_of_ble_eq_true rfl⟩
  · obtain ⟨x1, h1⟩ : ∃ i, ix_o a (sg_nm σ) = some i := by
      cases e : ix_o a (sg_nm σ) with
      | none => rw [e] at h1; exact absurd (mb_n h1) (by decide)
      | some i => exact ⟨i, rfl⟩
    obtain ⟨lh1, vh1⟩ := ix_some (by omega) h1
    refine lv_aload_n hx hb dY_overrides_8 rfl (lv_at hl 0 rfl) ?_
    refine lv_iload_n hx hb dY_overrides_9 rfl (lv_at hl 2 rfl) ?_
    refine mw_Vp (As := [.int b]) (rest := []) F (c_Y_isMember hw b) kb_Y_isMember ki_Y_isMember ks_Y_isMember kl_Y_109 hM (yw_y hw) rfl rfl hl.1 rfl (Nat.le_of_ble_eq_true rfl) dY_overrides_10 ⟨⟨Nat.le_of_ble_eq_true rfl, Nat.le_of_ble_eq_true rfl⟩, Nat.le_of_ble_eq_true rfl, Nat.le_of_ble_eq_true rfl⟩ ⟨rfl, rfl⟩ (fun H locs hM => ?_)
    refine lv_if_eq (tgt := 62) hx hb dY_overrides_13 (by decide) (fun h2 => ?_) (fun h2 => ?_)
    · have h2 : ix_o b (sg_nm σ) = none := by
        cases e : ix_o b (sg_nm σ) with
        | none => rfl
        | some i => rw [e] at h2; exact absurd (mb_z h2) (by simp)
      refine lv_iconst (v := 0) hx hb dY_overrides_62 (by decide) ?_
      exact mr_z (v := false) F hr hM (⟨by unfold sp_ov; rw [h1, h2], ch, lk, ov, hw, ky_rf, trivial⟩) dY_overrides_63 ⟨Nat.le_of_ble_eq_true rfl, Nat.le_of_ble_eq_true rfl⟩
    · obtain ⟨m1, h2⟩ : ∃ i, ix_o b (sg_nm σ) = some i := by
        cases e : ix_o b (sg_nm σ) with
        | none => rw [e] at h2; exact absurd (mb_n h2) (by decide)
        | some i => exact ⟨i, rfl⟩
      obtain ⟨lh2, vh2⟩ := ix_some (by omega) h2
      have hsp : sp_ov σ a b = (sg_ob σ x1 && (sg_ob σ m1 && (decide (sg_mn σ x1 = sg_mn σ m1) && (decide (sg_ty σ x1 = sg_ty σ m1) && ov_r σ (sg_mc σ x1) (sg_mn σ x1) (sg_ty σ x1) (sg_rg σ x1) m1)))) := by unfold sp_ov; rw [h1, h2]
      rw [hsp]
      clear hsp
      have hmx := yw_mc hw lh1
      have hmm := yw_mc hw lh2
      subst vh1
      subst vh2
      refine lv_aload_n hx hb dY_overrides_16 rfl (lv_at hl 0 rfl) ?_
      refine lv_iload_n hx hb dY_overrides_17 rfl (lv_at hl 1 rfl) ?_
      refine mw_Vp (As := [.int (nI x1)]) (rest := []) F (c_Y_isOwn hw lh1) kb_Y_isOwn ki_Y_isOwn ks_Y_isOwn kl_Y_77 hM (yw_y hw) rfl rfl hl.1 rfl (Nat.le_of_ble_eq_true rfl) dY_overrides_18 ⟨⟨Nat.le_of_ble_eq_true rfl, Nat.le_of_ble_eq_true rfl⟩, Nat.le_of_ble_eq_true rfl, Nat.le_of_ble_eq_true rfl⟩ ⟨rfl, rfl⟩ (fun H locs hM => ?_)
      refine lv_if_eq (tgt := 62) hx hb dY_overrides_21 (by decide) (fun h3 => ?_) (fun h3 => ?_)
      · refine lv_iconst (v := 0) hx hb dY_overrides_62 (by decide) ?_
        exact mr_z (v := false) F hr hM (⟨by rw [mb_z h3]; rfl, ch, lk, ov, hw, ky_rf, trivial⟩) dY_overrides_63 ⟨Nat.le_of_ble_eq_true rfl, Nat.le_of_ble_eq_true rfl⟩
      · refine lv_aload_n hx hb dY_overrides_24 rfl (lv_at hl 0 rfl) ?_
        refine lv_iload_n hx hb dY_overrides_25 rfl (lv_at hl 2 rfl) ?_
        refine mw_Vp (As := [.int (nI m1)]) (rest := []) F (c_Y_isOwn hw lh2) kb_Y_isOwn ki_Y_isOwn ks_Y_isOwn kl_Y_77 hM (yw_y hw) rfl rfl hl.1 rfl (Nat.le_of_ble_eq_true rfl) dY_overrides_26 ⟨⟨Nat.le_of_ble_eq_true rfl, Nat.le_of_ble_eq_true rfl⟩, Nat.le_of_ble_eq_true rfl, Nat.le_of_ble_eq_true rfl⟩ ⟨rfl, rfl⟩ (fun H locs hM => ?_)
        refine lv_if_eq (tgt := 62) hx hb dY_overrides_29 (by decide) (fun h4 => ?_) (fun h4 => ?_)
        · refine lv_iconst (v := 0) hx hb dY_overrides_62 (by decide) ?_
          exact mr_z (v := false) F hr hM (⟨by rw [mb_z h4]; simp, ch, lk, ov, hw, ky_rf, trivial⟩) dY_overrides_63 ⟨Nat.le_of_ble_eq_true rfl, Nat.le_of_ble_eq_true rfl⟩
        · refine lv_aload_n hx hb dY_overrides_32 rfl (lv_at hl 0 rfl) ?_
          refine gf_Y_19 F hM (yw_y hw) rfl dY_overrides_33 ?_
          refine lv_iload_n hx hb dY_overrides_36 rfl (lv_at hl 1 rfl) ?_
          refine mw_ild F hM (yw_3 hw) (vp_in_nI (by omega) (by omega)) dY_overrides_37 ?_
          refine mv_i (y := (sg_mn σ x1)) (by rw [nI_clamp (by omega)]; exact yv_3 hw lh1) ?_
          refine lv_aload_n hx hb dY_overrides_38 rfl (lv_at hl 0 rfl) ?_
          refine gf_Y_19 F hM (yw_y hw) rfl dY_overrides_39 ?_
          refine lv_iload_n hx hb dY_overrides_42 rfl (lv_at hl 2 rfl) ?_
          refine mw_ild F hM (yw_3 hw) (vp_in_nI (by omega) (by omega)) dY_overrides_43 ?_
          refine mv_i (y := (sg_mn σ m1)) (by rw [nI_clamp (by omega)]; exact yv_3 hw lh2) ?_
          refine lv_icmp_ne (tgt := 62) hx hb dY_overrides_44 (by decide) (fun h5 => ?_) (fun h5 => ?_)
          · refine lv_iconst (v := 0) hx hb dY_overrides_62 (by decide) ?_
            exact mr_z (v := false) F hr hM (⟨by rw [decide_eq_false h5]; simp, ch, lk, ov, hw, ky_rf, trivial⟩) dY_overrides_63 ⟨Nat.le_of_ble_eq_true rfl, Nat.le_of_ble_eq_true rfl⟩
          · refine lv_aload_n hx hb dY_overrides_47 rfl (lv_at hl 0 rfl) ?_
            refine gf_Y_28 F hM (yw_y hw) rfl dY_overrides_48 ?_
            refine lv_iload_n hx hb dY_overrides_51 rfl (lv_at hl 1 rfl) ?_
            refine mw_ild F hM (yw_6 hw) (vp_in_nI (by omega) (by omega)) dY_overrides_52 ?_
            refine mv_i (y := (sg_ty σ x1)) (by rw [nI_clamp (by omega)]; exact yv_6 hw lh1) ?_
            refine lv_aload_n hx hb dY_overrides_53 rfl (lv_at hl 0 rfl) ?_
            refine gf_Y_28 F hM (yw_y hw) rfl dY_overrides_54 ?_
            refine lv_iload_n hx hb dY_overrides_57 rfl (lv_at hl 2 rfl) ?_
            refine mw_ild F hM (yw_6 hw) (vp_in_nI (by omega) (by omega)) dY_overrides_58 ?_
            refine mv_i (y := (sg_ty σ m1)) (by rw [nI_clamp (by omega)]; exact yv_6 hw lh2) ?_
            refine lv_icmp_eq (tgt := 64) hx hb dY_overrides_59 (by decide) (fun h6 => ?_) (fun h6 => ?_)
            · rw [mb_n h3, mb_n h4, decide_eq_true h5, decide_eq_true h6, Bool.true_and, Bool.true_and, Bool.true_and, Bool.true_and]
              have hpx : ∀ d, sg_pr σ (sg_mc σ x1) = some d → d < sg_mc σ x1 := fun d hd => yw_pr hw hmx hd
              refine lv_iload_n hx hb dY_overrides_64 rfl (lv_at hl 1 rfl) ?_
              refine lv_iload_n hx hb dY_overrides_65 rfl (lv_at hl 2 rfl) ?_
              refine lv_icmp_eq (tgt := 88) hx hb dY_overrides_66 (by decide) (fun h7 => ?_) (fun h7 => ?_)
              · have hxm : x1 = m1 := (nI_eq (by omega) (by omega)).mp h7
                subst hxm
                refine lv_iconst (v := 0) hx hb dY_overrides_88 (by decide) ?_
                exact mr_z (v := false) F hr hM (⟨by rw [ov_no2 (ln_lt hpx)], ch, lk, ov, hw, ky_rf, trivial⟩) dY_overrides_89 ⟨Nat.le_of_ble_eq_true rfl, Nat.le_of_ble_eq_true rfl⟩
              · have hxm : ¬ x1 = m1 := fun z => h7 (by rw [z])
                refine lv_aload_n hx hb dY_overrides_69 rfl (lv_at hl 0 rfl) ?_
                refine lv_aload_n hx hb dY_overrides_70 rfl (lv_at hl 0 rfl) ?_
                refine gf_Y_16 F hM (yw_y hw) rfl dY_overrides_71 ?_
                refine lv_iload_n hx hb dY_overrides_74 rfl (lv_at hl 1 rfl) ?_
                refine mw_ild F hM (yw_2 hw) (vp_in_nI (by omega) (by omega)) dY_overrides_75 ?_
                refine mv_i (y := (nI (sg_mc σ x1))) (by rw [nI_clamp (by omega)]; exact yv_2 hw lh1) ?_
                refine lv_aload_n hx hb dY_overrides_76 rfl (lv_at hl 0 rfl) ?_
                refine gf_Y_16 F hM (yw_y hw) rfl dY_overrides_77 ?_
                refine lv_iload_n hx hb dY_overrides_80 rfl (lv_at hl 2 rfl) ?_
                refine mw_ild F hM (yw_2 hw) (vp_in_nI (by omega) (by omega)) dY_overrides_81 ?_
                refine mv_i (y := (nI (sg_mc σ m1))) (by rw [nI_clamp (by omega)]; exact yv_2 hw lh2) ?_
                refine mw_Vp (As := [.int (nI (sg_mc σ x1)), .int (nI (sg_mc σ m1))]) (rest := []) F (c_Y_isBelow hw hmx hmm) kb_Y_isBelow ki_Y_isBelow ks_Y_isBelow kl_Y_58 hM (yw_y hw) rfl rfl hl.1 rfl (Nat.le_of_ble_eq_true rfl) dY_overrides_82 ⟨⟨Nat.le_of_ble_eq_true rfl, Nat.le_of_ble_eq_true rfl⟩, Nat.le_of_ble_eq_true rfl, Nat.le_of_ble_eq_true rfl⟩ ⟨rfl, rfl⟩ (fun H locs hM => ?_)
                refine lv_if_ne (tgt := 90) hx hb dY_overrides_85 (by decide) (fun h8 => ?_) (fun h8 => ?_)
                · have hbel := of_decide_eq_true (mb_n h8)
                  refine lv_aload_n hx hb dY_overrides_90 rfl (lv_at hl 0 rfl) ?_
                  refine lv_aload_n hx hb dY_overrides_91 rfl (lv_at hl 0 rfl) ?_
                  refine gf_Y_16 F hM (yw_y hw) rfl dY_overrides_92 ?_
                  refine lv_iload_n hx hb dY_overrides_95 rfl (lv_at hl 1 rfl) ?_
                  refine mw_ild F hM (yw_2 hw) (vp_in_nI (by omega) (by omega)) dY_overrides_96 ?_
                  refine mv_i (y := (nI (sg_mc σ x1))) (by rw [nI_clamp (by omega)]; exact yv_2 hw lh1) ?_
                  refine lv_aload_n hx hb dY_overrides_97 rfl (lv_at hl 0 rfl) ?_
                  refine gf_Y_19 F hM (yw_y hw) rfl dY_overrides_98 ?_
                  refine lv_iload_n hx hb dY_overrides_101 rfl (lv_at hl 1 rfl) ?_
                  refine mw_ild F hM (yw_3 hw) (vp_in_nI (by omega) (by omega)) dY_overrides_102 ?_
                  refine mv_i (y := (sg_mn σ x1)) (by rw [nI_clamp (by omega)]; exact yv_3 hw lh1) ?_
                  refine lv_aload_n hx hb dY_overrides_103 rfl (lv_at hl 0 rfl) ?_
                  refine gf_Y_28 F hM (yw_y hw) rfl dY_overrides_104 ?_
                  refine lv_iload_n hx hb dY_overrides_107 rfl (lv_at hl 1 rfl) ?_
                  refine mw_ild F hM (yw_6 hw) (vp_in_nI (by omega) (by omega)) dY_overrides_108 ?_
                  refine mv_i (y := (sg_ty σ x1)) (by rw [nI_clamp (by omega)]; exact yv_6 hw lh1) ?_
                  refine mw_Wg (As := [.int (nI (sg_mc σ x1)), .int (sg_mn σ x1), .int (sg_ty σ x1)]) (rest := []) F (c_Y_gather hw (some (sg_mc σ x1)) (fun d hd => by cases hd; exact hmx) (sg_mn σ x1) (sg_ty σ x1)) kb_Y_gather ki_Y_gather ks_Y_gather kl_Y_94 hM (yw_y hw) rfl rfl hl.1 rfl (Nat.le_of_ble_eq_true rfl) dY_overrides_109 ⟨⟨Nat.le_of_ble_eq_true rfl, Nat.le_of_ble_eq_true rfl⟩, Nat.le_of_ble_eq_true rfl, Nat.le_of_ble_eq_true rfl⟩ (fun M1 H locs hp hM => ?_)
                  obtain ⟨ch1, lk1, ov1, hw1, k1, -, g, N, rfl, hN, hf, hch⟩ := hp
                  have hdd : ∀ d, some (sg_mc σ x1) = some d → d < sg_nc σ := fun d hd => by cases hd; exact hmx
                  have hgl : ∀ k, k < N → g k < sg_nm σ := fun k hk => (oo_some (dn_lt hw.1 hdd hf hk).1).1
                  have hinj := dn_inj hw.1 hdd hf
                  refine lv_aload_n hx hb dY_overrides_112 rfl (lv_at hl 0 rfl) ?_
                  refine lv_iconst (v := (-1)) hx hb dY_overrides_113 (by decide) ?_
                  refine lv_iconst (v := 0) hx hb dY_overrides_114 (by decide) ?_
                  refine mw_Wg (As := [.int (-1), .int 0]) (rest := []) F (c_Y_relate (N := N) (R := fun k => sg_rg σ (g k)) (K := fun k => sg_pk σ (sg_mc σ (g k))) (g := g) hw1 (-1) 0 (by omega) (fun k hk => Or.inl ⟨hgl k hk, hch k hk, rfl, rfl⟩)) kb_Y_relate ki_Y_relate ks_Y_relate kl_Y_98 hM (yw_y hw1) rfl rfl hl.1 rfl (Nat.le_of_ble_eq_true rfl) dY_overrides_115 ⟨⟨Nat.le_of_ble_eq_true rfl, Nat.le_of_ble_eq_true rfl⟩, Nat.le_of_ble_eq_true rfl, Nat.le_of_ble_eq_true rfl⟩ (fun M2 H locs hp hM => ?_)
                  obtain ⟨ch2, lk2, ov2, hw2, k2, rfl, rfl, O, hO, hov⟩ := hp
                  have kf : ky_ M M2 := ky_tr k1 k2
                  have htab : ∀ i9 j9, j9 < i9 → i9 < N → O i9 j9 = ov_r σ (sg_mc σ (g i9)) (sg_mn σ x1) (sg_ty σ x1) (sg_rg σ (g i9)) (g j9) := fun i9 j9 h1 h2 => dn_tab hw.1 hdd hf hO (fun _ _ => rfl) (fun _ _ => rfl) h1 h2
                  obtain ⟨j, hj, hmj⟩ := dn_has hw.1 hf lh2 (mb_n h4) h5.symm h6.symm hbel
                  obtain ⟨i, hi, hxi⟩ := dn_has hw.1 hf lh1 (mb_n h3) rfl rfl ln_self
                  have hij : j < i := by
                    rcases Nat.lt_trichotomy j i with z | z | z
                    · exact z
                    · rw [z, ← hxi] at hmj; exact absurd hmj.symm hxm
                    · have z2 := dn_dec hw.1 hdd hf z hj
                      rw [← hxi, ← hmj] at z2
                      exact absurd (ln_le _ _ hbel) (by omega)
                  refine lv_aload_n hx hb dY_overrides_118 rfl (lv_at hl 0 rfl) ?_
                  refine gf_Y_41 F hM (yw_y hw2) rfl dY_overrides_119 ?_
                  refine lv_bipush (v := 41) hx hb dY_overrides_122 (by decide) ?_
                  refine lv_aload_n hx hb dY_overrides_124 rfl (lv_at hl 0 rfl) ?_
                  refine lv_iload_n hx hb dY_overrides_125 rfl (lv_at hl 1 rfl) ?_
                  refine mv_i (y := nI (g i)) (by rw [← hxi]) ?_
                  refine mw_Vp (As := [.int (nI (g i))]) (rest := [.int 41, .ref (q 10)]) F (c_Y_linkOf (g := g) hw2 (by omega) rfl hch hgl hinj hi) kb_Y_linkOf ki_Y_linkOf ks_Y_linkOf kl_Y_112 hM (yw_y hw2) rfl rfl hl.1 rfl (Nat.le_of_ble_eq_true rfl) dY_overrides_126 ⟨⟨Nat.le_of_ble_eq_true rfl, Nat.le_of_ble_eq_true rfl⟩, Nat.le_of_ble_eq_true rfl, Nat.le_of_ble_eq_true rfl⟩ ⟨rfl, rfl⟩ (fun H locs hM => ?_)
                  refine lv_imul hx hb dY_overrides_129 ?_
                  refine mv_i (y := nI (41 * i)) (pk_mul 41 i) ?_
                  refine lv_aload_n hx hb dY_overrides_130 rfl (lv_at hl 0 rfl) ?_
                  refine lv_iload_n hx hb dY_overrides_131 rfl (lv_at hl 2 rfl) ?_
                  refine mv_i (y := nI (g j)) (by rw [← hmj]) ?_
                  refine mw_Vp (As := [.int (nI (g j))]) (rest := [.int (nI (41 * i)), .ref (q 10)]) F (c_Y_linkOf (g := g) hw2 (by omega) rfl hch hgl hinj hj) kb_Y_linkOf ki_Y_linkOf ks_Y_linkOf kl_Y_112 hM (yw_y hw2) rfl rfl hl.1 rfl (Nat.le_of_ble_eq_true rfl) dY_overrides_132 ⟨⟨Nat.le_of_ble_eq_true rfl, Nat.le_of_ble_eq_true rfl⟩, Nat.le_of_ble_eq_true rfl, Nat.le_of_ble_eq_true rfl⟩ ⟨rfl, rfl⟩ (fun H locs hM => ?_)
                  refine lv_iadd hx hb dY_overrides_135 ?_
                  refine mv_i (y := nI (41 * i + j)) (nI_add (41 * i) j) ?_
                  refine mw_zld F hM (yw_10 hw2) (vp_in_nI (by omega) (by omega)) dY_overrides_136 ?_
                  refine mv_i (y := mb_i (O i j)) (by rw [nI_clamp (by omega)]; exact hov i j hij hi) ?_
                  exact mr_z (v := O i j) F hr hM (⟨by rw [htab i j hij hi, ← hxi, ← hmj], _, _, _, hw2, kf, trivial⟩) dY_overrides_137 ⟨Nat.le_of_ble_eq_true rfl, Nat.le_of_ble_eq_true rfl⟩
                · have hnb := of_decide_eq_false (mb_z h8)
                  refine lv_iconst (v := 0) hx hb dY_overrides_88 (by decide) ?_
                  exact mr_z (v := false) F hr hM (⟨by rw [ov_no2 (fun z => hnb (by rw [ln_e hpx]; exact List.mem_cons_of_mem _ z))], ch, lk, ov, hw, ky_rf, trivial⟩) dY_overrides_89 ⟨Nat.le_of_ble_eq_true rfl, Nat.le_of_ble_eq_true rfl⟩
            · refine lv_iconst (v := 0) hx hb dY_overrides_62 (by decide) ?_
              exact mr_z (v := false) F hr hM (⟨by rw [decide_eq_false h6]; simp, ch, lk, ov, hw, ky_rf, trivial⟩) dY_overrides_63 ⟨Nat.le_of_ble_eq_true rfl, Nat.le_of_ble_eq_true rfl⟩
end GC
