section GC
variable {l : Launch} {G : mw_G} {M : mw_M} {y : Nat} {q : Nat → Nat} {σ : sg_T} {rf : Int32} {f : Nat → Nat → Int32} {ch : Nat → Int32} {lk : Int32} {ov : Nat → Int32}
set_option maxHeartbeats 4000000 in
set_option maxRecDepth 100000 in
theorem c_Y_find (hw : yw_ G M y q σ rf f ch lk ov) (a o n t w : Int32) : mw_C l G yY_find bY_find 7 (some .int) { frames := 2, cells := 0, slots := 0, locals := 80 } M [.ref y, .int a, .int o, .int n, .int t, .int w] (mp_ (some (.int (sp_fi σ a o n t w).1)) (mw_up M y ((10, 0), yo_e q (nI (sg_nc σ)) (nI (sg_nm σ)) (sp_fi σ a o n t w).2 lk))) := by
  refine mw_of (by decide) (Nat.le_of_ble_eq_true rfl) ?_
  intro pg en s mi below meth cd F hr _ hM ls hl
  obtain ⟨hx, hb, -⟩ := id F
  have hl : lv_has ls 7 [(0, .ref y), (1, .int a), (2, .int o), (3, .int n), (4, .int t), (5, .int w)] := hl
  have hnc := yw_nc hw
  have hnm := yw_nm hw
  refine lv_aload_n hx hb dY_find_0 rfl (lv_at hl 0 rfl) ?_
  refine lv_iconst (v := 0) hx hb dY_find_1 (by decide) ?_
  refine pf_Y_51 F hM (yw_y hw) (Nat.le_of_ble_eq_true rfl) dY_find_2 (fun H locs hM => ?_)
  have hM : mw_S G (mw_up M y ((10, 0), .inr (ciY, [.ref (q 0), .ref (q 1), .int (nI (sg_nc σ)), .ref (q 2), .ref (q 3), .ref (q 4), .ref (q 5), .ref (q 6), .ref (q 7), .ref (q 8), .int (nI (sg_nm σ)), .int 0, .ref (q 9), .int lk, .ref (q 10)]))) s.heap H locs := hM
  have hw1 := yw_rf hw 0 lk
  refine lv_aload_n hx hb dY_find_5 rfl (lv_at hl 0 rfl) ?_
  refine lv_iload_n hx hb dY_find_6 rfl (lv_at hl 1 rfl) ?_
  refine mw_Vp (As := [.int a]) (rest := []) F (c_Y_isClass hw1 a) kb_Y_isClass ki_Y_isClass ks_Y_isClass kl_Y_54 hM (yw_y hw1) rfl rfl hl.1 rfl (Nat.le_of_ble_eq_true rfl) dY_find_7 ⟨⟨Nat.le_of_ble_eq_true rfl, Nat.le_of_ble_eq_true rfl⟩, Nat.le_of_ble_eq_true rfl, Nat.le_of_ble_eq_true rfl⟩ ⟨rfl, rfl⟩ (fun H locs hM => ?_)
  refine lv_if_eq (tgt := 30) hx hb dY_find_10 (by decide) (fun h1 => ?_) (fun h1 => ?_)
  · have h1 : ix_o a (sg_nc σ) = none := by
      cases e : ix_o a (sg_nc σ) with
      | none => rfl
      | some i => rw [e] at h1; exact absurd (mb_z h1) (by simp)
    refine lv_aload_n hx hb dY_find_30 rfl (lv_at hl 0 rfl) ?_
    refine lv_iconst (v := 1) hx hb dY_find_31 (by decide) ?_
    refine mw_Vp (As := [.int 1]) (rest := []) F (c_Y_refuse hw1 1) kb_Y_refuse ki_Y_refuse ks_Y_refuse kl_Y_62 hM (yw_y hw1) rfl rfl hl.1 rfl (Nat.le_of_ble_eq_true rfl) dY_find_32 ⟨⟨Nat.le_of_ble_eq_true rfl, Nat.le_of_ble_eq_true rfl⟩, Nat.le_of_ble_eq_true rfl, Nat.le_of_ble_eq_true rfl⟩ ⟨rfl, rfl⟩ (fun H locs hM => ?_)
    rw [mw_uu] at hM
    have hsp : sp_fi σ a o n t w = (-1, 1) := by unfold sp_fi; rw [h1]
    exact mr_i F hr hM (⟨by rw [hsp], by rw [hsp]⟩) dY_find_35 ⟨Nat.le_of_ble_eq_true rfl, Nat.le_of_ble_eq_true rfl⟩
  · obtain ⟨i, h1⟩ : ∃ i, ix_o a (sg_nc σ) = some i := by
      cases e : ix_o a (sg_nc σ) with
      | none => rw [e] at h1; exact absurd (mb_n h1) (by decide)
      | some i => exact ⟨i, rfl⟩
    obtain ⟨lh1, vh1⟩ := ix_some (by omega) h1
    refine lv_aload_n hx hb dY_find_13 rfl (lv_at hl 0 rfl) ?_
    refine lv_iload_n hx hb dY_find_14 rfl (lv_at hl 2 rfl) ?_
    refine mw_Vp (As := [.int o]) (rest := []) F (c_Y_isClass hw1 o) kb_Y_isClass ki_Y_isClass ks_Y_isClass kl_Y_54 hM (yw_y hw1) rfl rfl hl.1 rfl (Nat.le_of_ble_eq_true rfl) dY_find_15 ⟨⟨Nat.le_of_ble_eq_true rfl, Nat.le_of_ble_eq_true rfl⟩, Nat.le_of_ble_eq_true rfl, Nat.le_of_ble_eq_true rfl⟩ ⟨rfl, rfl⟩ (fun H locs hM => ?_)
    refine lv_if_eq (tgt := 30) hx hb dY_find_18 (by decide) (fun h2 => ?_) (fun h2 => ?_)
    · have h2 : ix_o o (sg_nc σ) = none := by
        cases e : ix_o o (sg_nc σ) with
        | none => rfl
        | some i => rw [e] at h2; exact absurd (mb_z h2) (by simp)
      refine lv_aload_n hx hb dY_find_30 rfl (lv_at hl 0 rfl) ?_
      refine lv_iconst (v := 1) hx hb dY_find_31 (by decide) ?_
      refine mw_Vp (As := [.int 1]) (rest := []) F (c_Y_refuse hw1 1) kb_Y_refuse ki_Y_refuse ks_Y_refuse kl_Y_62 hM (yw_y hw1) rfl rfl hl.1 rfl (Nat.le_of_ble_eq_true rfl) dY_find_32 ⟨⟨Nat.le_of_ble_eq_true rfl, Nat.le_of_ble_eq_true rfl⟩, Nat.le_of_ble_eq_true rfl, Nat.le_of_ble_eq_true rfl⟩ ⟨rfl, rfl⟩ (fun H locs hM => ?_)
      rw [mw_uu] at hM
      have hsp : sp_fi σ a o n t w = (-1, 1) := by unfold sp_fi; rw [h1, h2]
      exact mr_i F hr hM (⟨by rw [hsp], by rw [hsp]⟩) dY_find_35 ⟨Nat.le_of_ble_eq_true rfl, Nat.le_of_ble_eq_true rfl⟩
    · obtain ⟨j, h2⟩ : ∃ i, ix_o o (sg_nc σ) = some i := by
        cases e : ix_o o (sg_nc σ) with
        | none => rw [e] at h2; exact absurd (mb_n h2) (by decide)
        | some i => exact ⟨i, rfl⟩
      obtain ⟨lh2, vh2⟩ := ix_some (by omega) h2
      have hsp0 : sp_fi σ a o n t w = (if w < 0 ∨ 5 < w then (-1, 1) else if ¬ w = 3 ∧ (n < 0 ∨ 99 < n) then (-1, 2) else match sg_fi σ j n t w with | none => (-1, 6) | some f => if sg_rc σ i f = false ∨ (w = 2 ∧ ¬ j ∈ sg_ln (sg_pr σ) i) then (-1, 7) else if w = 5 ∧ sg_fn σ f = true ∧ ¬ i = sg_mc σ f then (-1, 3) else (nI f, 0) : Int32 × Int32) := by unfold sp_fi; rw [h1, h2]; rfl
      refine lv_iload hx hb dY_find_21 (lv_at hl 5 rfl) ?_
      refine lv_iconst (v := 5) hx hb dY_find_23 (by decide) ?_
      refine mw_Zp (As := [.int w, .int 5]) (rest := []) F (c_Y_outside w 5) kb_Y_outside ki_Y_outside kl_Y_66 hM rfl hl.1 rfl (Nat.le_of_ble_eq_true rfl) dY_find_24 ⟨⟨Nat.le_of_ble_eq_true rfl, Nat.le_of_ble_eq_true rfl⟩, Nat.le_of_ble_eq_true rfl, Nat.le_of_ble_eq_true rfl⟩ ⟨rfl, rfl⟩ (fun H locs hM => ?_)
      refine lv_if_eq (tgt := 36) hx hb dY_find_27 (by decide) (fun h3 => ?_) (fun h3 => ?_)
      · rw [if_neg (of_decide_eq_false (mb_z h3))] at hsp0
        have on57 : ∀ (H : Heap) (locs : List Loc) (ls : Array Slot), ¬ (¬ w = 3 ∧ (n < 0 ∨ 99 < n)) → mw_S G (mw_up M y ((10, 0), yo_e q (nI (sg_nc σ)) (nI (sg_nm σ)) 0 lk)) s.heap H locs → lv_has ls 7 [(0, .ref y), (1, .int a), (2, .int o), (3, .int n), (4, .int t), (5, .int w)] → W pg l en { frames := 2, cells := 0, slots := 0, locals := 80 } s mi [.ref y, .int a, .int o, .int n, .int t, .int w].toArray below meth cd H locs 0 0 (MQ below (mw_Q G (mp_ (some (.int (sp_fi σ a o n t w).1)) (mw_up M y ((10, 0), yo_e q (nI (sg_nc σ)) (nI (sg_nm σ)) (sp_fi σ a o n t w).2 lk)))) [.ref y, .int a, .int o, .int n, .int t, .int w].toArray s 0 0 (mw_A G)) (F0 mi 57 ls []) := by
          intro H locs ls hk hM hl
          rw [if_neg hk] at hsp0
          have hlo : lv_has ls 7 [(0, .ref y), (1, .int (nI i)), (2, .int (nI j)), (3, .int n), (4, .int t), (5, .int w)] := by
            rw [← vh1, ← vh2]; exact hl
          have hl := hlo
          refine lv_aload_n hx hb dY_find_57 rfl (lv_at hl 0 rfl) ?_
          refine lv_iload_n hx hb dY_find_58 rfl (lv_at hl 2 rfl) ?_
          refine lv_iload_n hx hb dY_find_59 rfl (lv_at hl 3 rfl) ?_
          refine lv_iload hx hb dY_find_60 (lv_at hl 4 rfl) ?_
          refine lv_iload hx hb dY_find_62 (lv_at hl 5 rfl) ?_
          refine mw_Vp (As := [.int (nI j), .int n, .int t, .int w]) (rest := []) F (c_Y_sought hw1 lh2 n t w) kb_Y_sought ki_Y_sought ks_Y_sought kl_Y_105 hM (yw_y hw1) rfl rfl hl.1 rfl (Nat.le_of_ble_eq_true rfl) dY_find_64 ⟨⟨Nat.le_of_ble_eq_true rfl, Nat.le_of_ble_eq_true rfl⟩, Nat.le_of_ble_eq_true rfl, Nat.le_of_ble_eq_true rfl⟩ ⟨rfl, rfl⟩ (fun H locs hM => ?_)
          rcases hf : sg_fi σ j n t w with _ | f0
          · refine lv_istore (lv' := [(6, .int (-1)), (0, .ref y), (1, .int (nI i)), (2, .int (nI j)), (3, .int n), (4, .int t), (5, .int w)]) hx hb dY_find_67 hl (by decide) rfl (fun ls hl => ?_)
            refine lv_iload hx hb dY_find_69 (lv_at hl 0 rfl) ?_
            refine lv_iconst (v := (-1)) hx hb dY_find_71 (by decide) ?_
            refine lv_icmp_ne (tgt := 82) hx hb dY_find_72 (by decide) (fun h4 => absurd rfl h4) (fun h4 => ?_)
            refine lv_aload_n hx hb dY_find_75 rfl (lv_at hl 1 rfl) ?_
            refine lv_bipush (v := 6) hx hb dY_find_76 (by decide) ?_
            refine mw_Vp (As := [.int 6]) (rest := []) F (c_Y_refuse hw1 6) kb_Y_refuse ki_Y_refuse ks_Y_refuse kl_Y_62 hM (yw_y hw1) rfl rfl hl.1 rfl (Nat.le_of_ble_eq_true rfl) dY_find_78 ⟨⟨Nat.le_of_ble_eq_true rfl, Nat.le_of_ble_eq_true rfl⟩, Nat.le_of_ble_eq_true rfl, Nat.le_of_ble_eq_true rfl⟩ ⟨rfl, rfl⟩ (fun H locs hM => ?_)
            rw [mw_uu] at hM
            have hsp : sp_fi σ a o n t w = (-1, 6) := by rw [hsp0, hf]
            exact mr_i F hr hM (⟨by rw [hsp], by rw [hsp]⟩) dY_find_81 ⟨Nat.le_of_ble_eq_true rfl, Nat.le_of_ble_eq_true rfl⟩
          · have hfl := fi_lt2 hf
            have hmf := yw_mc hw hfl
            rw [hf] at hsp0
            dsimp only at hsp0
            refine lv_istore (lv' := [(6, .int (nI f0)), (0, .ref y), (1, .int (nI i)), (2, .int (nI j)), (3, .int n), (4, .int t), (5, .int w)]) hx hb dY_find_67 hl (by decide) rfl (fun ls hl => ?_)
            refine lv_iload hx hb dY_find_69 (lv_at hl 0 rfl) ?_
            refine lv_iconst (v := (-1)) hx hb dY_find_71 (by decide) ?_
            refine lv_icmp_ne (tgt := 82) hx hb dY_find_72 (by decide) (fun h4 => ?_) (fun h4 => absurd h4 (nI_m1 (by omega)))
            have on149 : ∀ (H : Heap) (locs : List Loc) (ls : Array Slot), ¬ (sg_rc σ i f0 = false ∨ (w = 2 ∧ ¬ j ∈ sg_ln (sg_pr σ) i)) → ¬ (w = 5 ∧ sg_fn σ f0 = true ∧ ¬ i = sg_mc σ f0) → mw_S G (mw_up M y ((10, 0), yo_e q (nI (sg_nc σ)) (nI (sg_nm σ)) 0 lk)) s.heap H locs → lv_has ls 7 [(6, .int (nI f0)), (0, .ref y), (1, .int (nI i)), (2, .int (nI j)), (3, .int n), (4, .int t), (5, .int w)] → W pg l en { frames := 2, cells := 0, slots := 0, locals := 80 } s mi [.ref y, .int a, .int o, .int n, .int t, .int w].toArray below meth cd H locs 0 0 (MQ below (mw_Q G (mp_ (some (.int (sp_fi σ a o n t w).1)) (mw_up M y ((10, 0), yo_e q (nI (sg_nc σ)) (nI (sg_nm σ)) (sp_fi σ a o n t w).2 lk)))) [.ref y, .int a, .int o, .int n, .int t, .int w].toArray s 0 0 (mw_A G)) (F0 mi 149 ls []) := by
              intro H locs ls hk hk2 hM hl
              rw [if_neg hk, if_neg hk2] at hsp0
              refine lv_iload hx hb dY_find_149 (lv_at hl 0 rfl) ?_
              exact mr_i F hr hM (⟨by rw [hsp0], by rw [hsp0]⟩) dY_find_151 ⟨Nat.le_of_ble_eq_true rfl, Nat.le_of_ble_eq_true rfl⟩
            have on114 : ∀ (H : Heap) (locs : List Loc) (ls : Array Slot), ¬ (sg_rc σ i f0 = false ∨ (w = 2 ∧ ¬ j ∈ sg_ln (sg_pr σ) i)) → mw_S G (mw_up M y ((10, 0), yo_e q (nI (sg_nc σ)) (nI (sg_nm σ)) 0 lk)) s.heap H locs → lv_has ls 7 [(6, .int (nI f0)), (0, .ref y), (1, .int (nI i)), (2, .int (nI j)), (3, .int n), (4, .int t), (5, .int w)] → W pg l en { frames := 2, cells := 0, slots := 0, locals := 80 } s mi [.ref y, .int a, .int o, .int n, .int t, .int w].toArray below meth cd H locs 0 0 (MQ below (mw_Q G (mp_ (some (.int (sp_fi σ a o n t w).1)) (mw_up M y ((10, 0), yo_e q (nI (sg_nc σ)) (nI (sg_nm σ)) (sp_fi σ a o n t w).2 lk)))) [.ref y, .int a, .int o, .int n, .int t, .int w].toArray s 0 0 (mw_A G)) (F0 mi 114 ls []) := by
              intro H locs ls hk hM hl
              refine lv_iload hx hb dY_find_114 (lv_at hl 6 rfl) ?_
              refine lv_iconst (v := 5) hx hb dY_find_116 (by decide) ?_
              refine lv_icmp_ne (tgt := 149) hx hb dY_find_117 (by decide) (fun h7 => ?_) (fun h7 => ?_)
              · exact on149 H locs ls hk (fun z => h7 z.1) hM hl
              · refine lv_aload_n hx hb dY_find_120 rfl (lv_at hl 1 rfl) ?_
                refine gf_Y_35 F hM (yw_y hw1) rfl dY_find_121 ?_
                refine lv_iload hx hb dY_find_124 (lv_at hl 0 rfl) ?_
                refine mw_zld F hM (yw_8 hw1) (vp_in_nI (by omega) (by omega)) dY_find_126 ?_
                refine mv_i (y := (mb_i (sg_fn σ f0))) (by rw [nI_clamp (by omega)]; exact yv_8 hw1 hfl) ?_
                refine lv_if_eq (tgt := 149) hx hb dY_find_127 (by decide) (fun h8 => ?_) (fun h8 => ?_)
                · exact on149 H locs ls hk (fun z => by rw [mb_z h8] at z; exact absurd z.2.1 (by decide)) hM hl
                · refine lv_iload_n hx hb dY_find_130 rfl (lv_at hl 2 rfl) ?_
                  refine lv_aload_n hx hb dY_find_131 rfl (lv_at hl 1 rfl) ?_
                  refine gf_Y_16 F hM (yw_y hw1) rfl dY_find_132 ?_
                  refine lv_iload hx hb dY_find_135 (lv_at hl 0 rfl) ?_
                  refine mw_ild F hM (yw_2 hw1) (vp_in_nI (by omega) (by omega)) dY_find_137 ?_
                  refine mv_i (y := (nI (sg_mc σ f0))) (by rw [nI_clamp (by omega)]; exact yv_2 hw1 hfl) ?_
                  refine lv_icmp_eq (tgt := 149) hx hb dY_find_138 (by decide) (fun h9 => ?_) (fun h9 => ?_)
                  · exact on149 H locs ls hk (fun z => z.2.2 ((nI_eq (by omega) (by omega)).mp h9)) hM hl
                  · refine lv_aload_n hx hb dY_find_141 rfl (lv_at hl 1 rfl) ?_
                    refine lv_iconst (v := 3) hx hb dY_find_142 (by decide) ?_
                    refine mw_Vp (As := [.int 3]) (rest := []) F (c_Y_refuse hw1 3) kb_Y_refuse ki_Y_refuse ks_Y_refuse kl_Y_62 hM (yw_y hw1) rfl rfl hl.1 rfl (Nat.le_of_ble_eq_true rfl) dY_find_143 ⟨⟨Nat.le_of_ble_eq_true rfl, Nat.le_of_ble_eq_true rfl⟩, Nat.le_of_ble_eq_true rfl, Nat.le_of_ble_eq_true rfl⟩ ⟨rfl, rfl⟩ (fun H locs hM => ?_)
                    rw [mw_uu] at hM
                    have hsp : sp_fi σ a o n t w = (-1, 3) := by rw [hsp0, if_neg hk, if_pos ⟨h7, mb_n h8, fun z => h9 (by rw [z])⟩]
                    refine lv_goto (tgt := 151) hx hb dY_find_146 (by decide) ?_
                    exact mr_i F hr hM (⟨by rw [hsp], by rw [hsp]⟩) dY_find_151 ⟨Nat.le_of_ble_eq_true rfl, Nat.le_of_ble_eq_true rfl⟩
            refine lv_aload_n hx hb dY_find_82 rfl (lv_at hl 1 rfl) ?_
            refine lv_iload_n hx hb dY_find_83 rfl (lv_at hl 2 rfl) ?_
            refine lv_iload hx hb dY_find_84 (lv_at hl 0 rfl) ?_
            refine mw_Vp (As := [.int (nI i), .int (nI f0)]) (rest := []) F (c_Y_doesReach hw1 lh1 hfl) kb_Y_doesReach ki_Y_doesReach ks_Y_doesReach kl_Y_84 hM (yw_y hw1) rfl rfl hl.1 rfl (Nat.le_of_ble_eq_true rfl) dY_find_86 ⟨⟨Nat.le_of_ble_eq_true rfl, Nat.le_of_ble_eq_true rfl⟩, Nat.le_of_ble_eq_true rfl, Nat.le_of_ble_eq_true rfl⟩ ⟨rfl, rfl⟩ (fun H locs hM => ?_)
            refine lv_if_eq (tgt := 107) hx hb dY_find_89 (by decide) (fun h5 => ?_) (fun h5 => ?_)
            · refine lv_aload_n hx hb dY_find_107 rfl (lv_at hl 1 rfl) ?_
              refine lv_bipush (v := 7) hx hb dY_find_108 (by decide) ?_
              refine mw_Vp (As := [.int 7]) (rest := []) F (c_Y_refuse hw1 7) kb_Y_refuse ki_Y_refuse ks_Y_refuse kl_Y_62 hM (yw_y hw1) rfl rfl hl.1 rfl (Nat.le_of_ble_eq_true rfl) dY_find_110 ⟨⟨Nat.le_of_ble_eq_true rfl, Nat.le_of_ble_eq_true rfl⟩, Nat.le_of_ble_eq_true rfl, Nat.le_of_ble_eq_true rfl⟩ ⟨rfl, rfl⟩ (fun H locs hM => ?_)
              rw [mw_uu] at hM
              have hsp : sp_fi σ a o n t w = (-1, 7) := by rw [hsp0, if_pos (Or.inl (mb_z h5))]
              exact mr_i F hr hM (⟨by rw [hsp], by rw [hsp]⟩) dY_find_113 ⟨Nat.le_of_ble_eq_true rfl, Nat.le_of_ble_eq_true rfl⟩
            · refine lv_iload hx hb dY_find_92 (lv_at hl 6 rfl) ?_
              refine lv_iconst (v := 2) hx hb dY_find_94 (by decide) ?_
              refine lv_icmp_ne (tgt := 114) hx hb dY_find_95 (by decide) (fun h6 => ?_) (fun h6 => ?_)
              · exact on114 H locs ls (fun z => by rcases z with z | z; rw [mb_n h5] at z; cases z; exact h6 z.1) hM (lv_sub hl [0, 1, 2, 3, 4, 5, 6] rfl)
              · refine lv_aload_n hx hb dY_find_98 rfl (lv_at hl 1 rfl) ?_
                refine lv_iload_n hx hb dY_find_99 rfl (lv_at hl 2 rfl) ?_
                refine lv_iload_n hx hb dY_find_100 rfl (lv_at hl 3 rfl) ?_
                refine mw_Vp (As := [.int (nI i), .int (nI j)]) (rest := []) F (c_Y_isBelow hw1 lh1 lh2) kb_Y_isBelow ki_Y_isBelow ks_Y_isBelow kl_Y_58 hM (yw_y hw1) rfl rfl hl.1 rfl (Nat.le_of_ble_eq_true rfl) dY_find_101 ⟨⟨Nat.le_of_ble_eq_true rfl, Nat.le_of_ble_eq_true rfl⟩, Nat.le_of_ble_eq_true rfl, Nat.le_of_ble_eq_true rfl⟩ ⟨rfl, rfl⟩ (fun H locs hM => ?_)
                refine lv_if_ne (tgt := 114) hx hb dY_find_104 (by decide) (fun h7 => ?_) (fun h7 => ?_)
                · exact on114 H locs ls (fun z => by rcases z with z | z; rw [mb_n h5] at z; cases z; exact z.2 (of_decide_eq_true (mb_n h7))) hM (lv_sub hl [0, 1, 2, 3, 4, 5, 6] rfl)
                · refine lv_aload_n hx hb dY_find_107 rfl (lv_at hl 1 rfl) ?_
                  refine lv_bipush (v := 7) hx hb dY_find_108 (by decide) ?_
                  refine mw_Vp (As := [.int 7]) (rest := []) F (c_Y_refuse hw1 7) kb_Y_refuse ki_Y_refuse ks_Y_refuse kl_Y_62 hM (yw_y hw1) rfl rfl hl.1 rfl (Nat.le_of_ble_eq_true rfl) dY_find_110 ⟨⟨Nat.le_of_ble_eq_true rfl, Nat.le_of_ble_eq_true rfl⟩, Nat.le_of_ble_eq_true rfl, Nat.le_of_ble_eq_true rfl⟩ ⟨rfl, rfl⟩ (fun H locs hM => ?_)
                  rw [mw_uu] at hM
                  have hsp : sp_fi σ a o n t w = (-1, 7) := by rw [hsp0, if_pos (Or.inr ⟨h6, of_decide_eq_false (mb_z h7)⟩)]
                  exact mr_i F hr hM (⟨by rw [hsp], by rw [hsp]⟩) dY_find_113 ⟨Nat.le_of_ble_eq_true rfl, Nat.le_of_ble_eq_true rfl⟩
        refine lv_iload hx hb dY_find_36 (lv_at hl 5 rfl) ?_
        refine lv_iconst (v := 3) hx hb dY_find_38 (by decide) ?_
        refine lv_icmp_eq (tgt := 57) hx hb dY_find_39 (by decide) (fun h5 => ?_) (fun h5 => ?_)
        · exact on57 H locs ls (fun z => z.1 h5) hM (lv_sub hl [0, 1, 2, 3, 4, 5] rfl)
        · refine lv_iload_n hx hb dY_find_42 rfl (lv_at hl 3 rfl) ?_
          refine lv_bipush (v := 99) hx hb dY_find_43 (by decide) ?_
          refine mw_Zp (As := [.int n, .int 99]) (rest := []) F (c_Y_outside n 99) kb_Y_outside ki_Y_outside kl_Y_66 hM rfl hl.1 rfl (Nat.le_of_ble_eq_true rfl) dY_find_45 ⟨⟨Nat.le_of_ble_eq_true rfl, Nat.le_of_ble_eq_true rfl⟩, Nat.le_of_ble_eq_true rfl, Nat.le_of_ble_eq_true rfl⟩ ⟨rfl, rfl⟩ (fun H locs hM => ?_)
          refine lv_if_eq (tgt := 57) hx hb dY_find_48 (by decide) (fun h6 => ?_) (fun h6 => ?_)
          · exact on57 H locs ls (fun z => of_decide_eq_false (mb_z h6) z.2) hM (lv_sub hl [0, 1, 2, 3, 4, 5] rfl)
          · refine lv_aload_n hx hb dY_find_51 rfl (lv_at hl 0 rfl) ?_
            refine lv_iconst (v := 2) hx hb dY_find_52 (by decide) ?_
            refine mw_Vp (As := [.int 2]) (rest := []) F (c_Y_refuse hw1 2) kb_Y_refuse ki_Y_refuse ks_Y_refuse kl_Y_62 hM (yw_y hw1) rfl rfl hl.1 rfl (Nat.le_of_ble_eq_true rfl) dY_find_53 ⟨⟨Nat.le_of_ble_eq_true rfl, Nat.le_of_ble_eq_true rfl⟩, Nat.le_of_ble_eq_true rfl, Nat.le_of_ble_eq_true rfl⟩ ⟨rfl, rfl⟩ (fun H locs hM => ?_)
            rw [mw_uu] at hM
            have hsp : sp_fi σ a o n t w = (-1, 2) := by rw [hsp0, if_pos ⟨h5, of_decide_eq_true (mb_n h6)⟩]
            exact mr_i F hr hM (⟨by rw [hsp], by rw [hsp]⟩) dY_find_56 ⟨Nat.le_of_ble_eq_true rfl, Nat.le_of_ble_eq_true rfl⟩
      · refine lv_aload_n hx hb dY_find_30 rfl (lv_at hl 0 rfl) ?_
        refine lv_iconst (v := 1) hx hb dY_find_31 (by decide) ?_
        refine mw_Vp (As := [.int 1]) (rest := []) F (c_Y_refuse hw1 1) kb_Y_refuse ki_Y_refuse ks_Y_refuse kl_Y_62 hM (yw_y hw1) rfl rfl hl.1 rfl (Nat.le_of_ble_eq_true rfl) dY_find_32 ⟨⟨Nat.le_of_ble_eq_true rfl, Nat.le_of_ble_eq_true rfl⟩, Nat.le_of_ble_eq_true rfl, Nat.le_of_ble_eq_true rfl⟩ ⟨rfl, rfl⟩ (fun H locs hM => ?_)
        rw [mw_uu] at hM
        have hsp : sp_fi σ a o n t w = (-1, 1) := by rw [hsp0, if_pos (of_decide_eq_true (mb_n h3))]
        exact mr_i F hr hM (⟨by rw [hsp], by rw [hsp]⟩) dY_find_35 ⟨Nat.le_of_ble_eq_true rfl, Nat.le_of_ble_eq_true rfl⟩
end GC
