section GC
variable {l : Launch} {G : mw_G} {M : mw_M} {x qc qm ql : Nat} {ca ma : Nat → Nat} {σ : sg_T} {rf : Int32} {lp : Nat → Int32}
set_option maxHeartbeats 4000000 in
set_option maxRecDepth 100000 in
theorem c_X_find (hw : xw_ G M x qc qm ql ca ma σ rf lp) (a o n t w : Int32) : mw_C l G yX_find bX_find 9 (some .int) { frames := 2, cells := 0, slots := 0, locals := 80 } M [.ref x, .int a, .int o, .int n, .int t, .int w] (mp_ (some (.int (sp_fi σ a o n t w).1)) (mw_up M x ((0, 0), xo_e qc qm ql (nI (sg_nc σ)) (nI (sg_nm σ)) (sp_fi σ a o n t w).2))) := by
  refine mw_of (by decide) (Nat.le_of_ble_eq_true rfl) ?_
  intro pg en s mi below meth cd F hr _ hM ls hl
  obtain ⟨hx, hb, -⟩ := id F
  have hl : lv_has ls 9 [(0, .ref x), (1, .int a), (2, .int o), (3, .int n), (4, .int t), (5, .int w)] := hl
  refine lv_aload_n hx hb dX_find_0 rfl (lv_at hl 0 rfl) ?_
  refine lv_iload_n hx hb dX_find_1 rfl (lv_at hl 1 rfl) ?_
  refine mw_Vp (As := [.int a]) (rest := []) F (c_X_classAt hw a) kb_X_classAt ki_X_classAt ks_X_classAt kl_X_35 hM (xw_x hw) rfl rfl hl.1 rfl (Nat.le_of_ble_eq_true rfl) dX_find_2 ⟨⟨Nat.le_of_ble_eq_true rfl, Nat.le_of_ble_eq_true rfl⟩, Nat.le_of_ble_eq_true rfl, Nat.le_of_ble_eq_true rfl⟩ ⟨rfl, rfl⟩ (fun H locs hM => ?_)
  rcases h1 : ix_o a (sg_nc σ) with _ | i
  · refine lv_astoreN (lv' := [(6, .null), (0, .ref x), (1, .int a), (2, .int o), (3, .int n), (4, .int t), (5, .int w)]) hx hb dX_find_5 hl (by decide) rfl (fun ls hl => ?_)
    refine lv_aload_n hx hb dX_find_7 rfl (lv_at hl 1 rfl) ?_
    refine lv_iload_n hx hb dX_find_8 rfl (lv_at hl 3 rfl) ?_
    refine mw_Vp (As := [.int o]) (rest := []) F (c_X_classAt hw o) kb_X_classAt ki_X_classAt ks_X_classAt kl_X_35 hM (xw_x hw) rfl rfl hl.1 rfl (Nat.le_of_ble_eq_true rfl) dX_find_9 ⟨⟨Nat.le_of_ble_eq_true rfl, Nat.le_of_ble_eq_true rfl⟩, Nat.le_of_ble_eq_true rfl, Nat.le_of_ble_eq_true rfl⟩ ⟨rfl, rfl⟩ (fun H locs hM => ?_)
    refine mv_ast (lv' := [(7, va_rf ((ix_o o (sg_nc σ)).map ca)), (6, .null), (0, .ref x), (1, .int a), (2, .int o), (3, .int n), (4, .int t), (5, .int w)]) hx hb dX_find_12 hl (by decide) rfl (fun ls hl => ?_)
    refine lv_aloadN hx hb dX_find_14 (lv_at hl 1 rfl) ?_
    refine lv_ifnullN (tgt := 35) hx hb dX_find_16 (by decide) ?_
    refine lv_aload_n hx hb dX_find_35 rfl (lv_at hl 2 rfl) ?_
    refine lv_iconst (v := 1) hx hb dX_find_36 (by decide) ?_
    refine mw_Vp (As := [.int 1]) (rest := []) F (c_X_refuse hw 1) kb_X_refuse ki_X_refuse ks_X_refuse kl_X_46 hM (xw_x hw) rfl rfl hl.1 rfl (Nat.le_of_ble_eq_true rfl) dX_find_37 ⟨⟨Nat.le_of_ble_eq_true rfl, Nat.le_of_ble_eq_true rfl⟩, Nat.le_of_ble_eq_true rfl, Nat.le_of_ble_eq_true rfl⟩ ⟨rfl, rfl⟩ (fun H locs hM => ?_)
    have hsp : sp_fi σ a o n t w = (-1, 1) := by unfold sp_fi; rw [h1]
    exact mr_i F hr hM (⟨by rw [hsp], by rw [hsp]⟩) dX_find_40 ⟨Nat.le_of_ble_eq_true rfl, Nat.le_of_ble_eq_true rfl⟩
  · have lh1 := (ix_some (by have := xw_nc hw; omega) h1).1
    refine lv_astore (lv' := [(6, .ref (ca i)), (0, .ref x), (1, .int a), (2, .int o), (3, .int n), (4, .int t), (5, .int w)]) hx hb dX_find_5 hl (by decide) rfl (fun ls hl => ?_)
    refine lv_aload_n hx hb dX_find_7 rfl (lv_at hl 1 rfl) ?_
    refine lv_iload_n hx hb dX_find_8 rfl (lv_at hl 3 rfl) ?_
    refine mw_Vp (As := [.int o]) (rest := []) F (c_X_classAt hw o) kb_X_classAt ki_X_classAt ks_X_classAt kl_X_35 hM (xw_x hw) rfl rfl hl.1 rfl (Nat.le_of_ble_eq_true rfl) dX_find_9 ⟨⟨Nat.le_of_ble_eq_true rfl, Nat.le_of_ble_eq_true rfl⟩, Nat.le_of_ble_eq_true rfl, Nat.le_of_ble_eq_true rfl⟩ ⟨rfl, rfl⟩ (fun H locs hM => ?_)
    rcases h2 : ix_o o (sg_nc σ) with _ | j
    · refine lv_astoreN (lv' := [(7, .null), (6, .ref (ca i)), (0, .ref x), (1, .int a), (2, .int o), (3, .int n), (4, .int t), (5, .int w)]) hx hb dX_find_12 hl (by decide) rfl (fun ls hl => ?_)
      refine lv_aload hx hb dX_find_14 (lv_at hl 1 rfl) ?_
      refine lv_ifnull hx hb dX_find_16 ?_
      refine lv_aloadN hx hb dX_find_19 (lv_at hl 0 rfl) ?_
      refine lv_ifnullN (tgt := 35) hx hb dX_find_21 (by decide) ?_
      refine lv_aload_n hx hb dX_find_35 rfl (lv_at hl 2 rfl) ?_
      refine lv_iconst (v := 1) hx hb dX_find_36 (by decide) ?_
      refine mw_Vp (As := [.int 1]) (rest := []) F (c_X_refuse hw 1) kb_X_refuse ki_X_refuse ks_X_refuse kl_X_46 hM (xw_x hw) rfl rfl hl.1 rfl (Nat.le_of_ble_eq_true rfl) dX_find_37 ⟨⟨Nat.le_of_ble_eq_true rfl, Nat.le_of_ble_eq_true rfl⟩, Nat.le_of_ble_eq_true rfl, Nat.le_of_ble_eq_true rfl⟩ ⟨rfl, rfl⟩ (fun H locs hM => ?_)
      have hsp : sp_fi σ a o n t w = (-1, 1) := by unfold sp_fi; rw [h1, h2]
      exact mr_i F hr hM (⟨by rw [hsp], by rw [hsp]⟩) dX_find_40 ⟨Nat.le_of_ble_eq_true rfl, Nat.le_of_ble_eq_true rfl⟩
    · have lh2 := (ix_some (by have := xw_nc hw; omega) h2).1
      have hsp0 : sp_fi σ a o n t w = (if w < 0 ∨ 5 < w then (-1, 1) else if ¬ w = 3 ∧ (n < 0 ∨ 99 < n) then (-1, 2) else match sg_fi σ j n t w with | none => (-1, 6) | some f => if sg_rc σ i f = false ∨ (w = 2 ∧ ¬ j ∈ sg_ln (sg_pr σ) i) then (-1, 7) else if w = 5 ∧ sg_fn σ f = true ∧ ¬ i = sg_mc σ f then (-1, 3) else (nI f, 0) : Int32 × Int32) := by unfold sp_fi; rw [h1, h2]; rfl
      refine lv_astore (lv' := [(7, .ref (ca j)), (6, .ref (ca i)), (0, .ref x), (1, .int a), (2, .int o), (3, .int n), (4, .int t), (5, .int w)]) hx hb dX_find_12 hl (by decide) rfl (fun ls hl => ?_)
      refine lv_aload hx hb dX_find_14 (lv_at hl 1 rfl) ?_
      refine lv_ifnull hx hb dX_find_16 ?_
      refine lv_aload hx hb dX_find_19 (lv_at hl 0 rfl) ?_
      refine lv_ifnull hx hb dX_find_21 ?_
      refine lv_iload hx hb dX_find_24 (lv_at hl 7 rfl) ?_
      refine lv_if_lt (tgt := 35) hx hb dX_find_26 (by decide) (fun h3 => ?_) (fun h3 => ?_)
      · refine lv_aload_n hx hb dX_find_35 rfl (lv_at hl 2 rfl) ?_
        refine lv_iconst (v := 1) hx hb dX_find_36 (by decide) ?_
        refine mw_Vp (As := [.int 1]) (rest := []) F (c_X_refuse hw 1) kb_X_refuse ki_X_refuse ks_X_refuse kl_X_46 hM (xw_x hw) rfl rfl hl.1 rfl (Nat.le_of_ble_eq_true rfl) dX_find_37 ⟨⟨Nat.le_of_ble_eq_true rfl, Nat.le_of_ble_eq_true rfl⟩, Nat.le_of_ble_eq_true rfl, Nat.le_of_ble_eq_true rfl⟩ ⟨rfl, rfl⟩ (fun H locs hM => ?_)
        have hsp : sp_fi σ a o n t w = (-1, 1) := by rw [hsp0, if_pos (Or.inl h3)]
        exact mr_i F hr hM (⟨by rw [hsp], by rw [hsp]⟩) dX_find_40 ⟨Nat.le_of_ble_eq_true rfl, Nat.le_of_ble_eq_true rfl⟩
      · refine lv_iload hx hb dX_find_29 (lv_at hl 7 rfl) ?_
        refine lv_iconst (v := 5) hx hb dX_find_31 (by decide) ?_
        refine lv_icmp_le (tgt := 41) hx hb dX_find_32 (by decide) (fun h4 => ?_) (fun h4 => ?_)
        · rw [if_neg (show ¬ (w < 0 ∨ 5 < w) from fun z => by rcases z with z | z; exact h3 z; exact i3_nlt h4 z)] at hsp0
          have on60 : ∀ (H : Heap) (locs : List Loc) (ls : Array Slot), ¬ (¬ w = 3 ∧ (n < 0 ∨ 99 < n)) → mw_S G M s.heap H locs → lv_has ls 9 [(7, .ref (ca j)), (6, .ref (ca i)), (0, .ref x), (1, .int a), (2, .int o), (3, .int n), (4, .int t), (5, .int w)] → W pg l en { frames := 2, cells := 0, slots := 0, locals := 80 } s mi [.ref x, .int a, .int o, .int n, .int t, .int w].toArray below meth cd H locs 0 0 (MQ below (mw_Q G (mp_ (some (.int (sp_fi σ a o n t w).1)) (mw_up M x ((0, 0), xo_e qc qm ql (nI (sg_nc σ)) (nI (sg_nm σ)) (sp_fi σ a o n t w).2)))) [.ref x, .int a, .int o, .int n, .int t, .int w].toArray s 0 0 (mw_A G)) (F0 mi 60 ls []) := by
            intro H locs ls hk hM hl
            rw [if_neg hk] at hsp0
            refine lv_aload hx hb dX_find_60 (lv_at hl 0 rfl) ?_
            refine lv_iload_n hx hb dX_find_62 rfl (lv_at hl 5 rfl) ?_
            refine lv_iload hx hb dX_find_63 (lv_at hl 6 rfl) ?_
            refine lv_iload hx hb dX_find_65 (lv_at hl 7 rfl) ?_
            refine mw_Zp (As := [.ref (ca j), .int n, .int t, .int w]) (rest := []) F (c_X_firstAsTold hw lh2 n t w) kb_X_firstAsTold ki_X_firstAsTold kl_X_61 hM rfl hl.1 rfl (Nat.le_of_ble_eq_true rfl) dX_find_67 ⟨⟨Nat.le_of_ble_eq_true rfl, Nat.le_of_ble_eq_true rfl⟩, Nat.le_of_ble_eq_true rfl, Nat.le_of_ble_eq_true rfl⟩ ⟨rfl, rfl⟩ (fun H locs hM => ?_)
            rcases hf : sg_fi σ j n t w with _ | f
            · refine lv_astoreN (lv' := [(8, .null), (7, .ref (ca j)), (6, .ref (ca i)), (0, .ref x), (1, .int a), (2, .int o), (3, .int n), (4, .int t), (5, .int w)]) hx hb dX_find_70 hl (by decide) rfl (fun ls hl => ?_)
              refine lv_aloadN hx hb dX_find_72 (lv_at hl 0 rfl) ?_
              refine lv_ifnonnullN hx hb dX_find_74 ?_
              refine lv_aload_n hx hb dX_find_77 rfl (lv_at hl 3 rfl) ?_
              refine lv_bipush (v := 6) hx hb dX_find_78 (by decide) ?_
              refine mw_Vp (As := [.int 6]) (rest := []) F (c_X_refuse hw 6) kb_X_refuse ki_X_refuse ks_X_refuse kl_X_46 hM (xw_x hw) rfl rfl hl.1 rfl (Nat.le_of_ble_eq_true rfl) dX_find_80 ⟨⟨Nat.le_of_ble_eq_true rfl, Nat.le_of_ble_eq_true rfl⟩, Nat.le_of_ble_eq_true rfl, Nat.le_of_ble_eq_true rfl⟩ ⟨rfl, rfl⟩ (fun H locs hM => ?_)
              have hsp : sp_fi σ a o n t w = (-1, 6) := by rw [hsp0, hf]
              exact mr_i F hr hM (⟨by rw [hsp], by rw [hsp]⟩) dX_find_83 ⟨Nat.le_of_ble_eq_true rfl, Nat.le_of_ble_eq_true rfl⟩
            · have hfl := fi_lt2 hf
              have hmf := xw_mc hw hfl
              rw [hf] at hsp0
              dsimp only at hsp0
              refine lv_astore (lv' := [(8, .ref (ma f)), (7, .ref (ca j)), (6, .ref (ca i)), (0, .ref x), (1, .int a), (2, .int o), (3, .int n), (4, .int t), (5, .int w)]) hx hb dX_find_70 hl (by decide) rfl (fun ls hl => ?_)
              refine lv_aload hx hb dX_find_72 (lv_at hl 0 rfl) ?_
              refine lv_ifnonnull (tgt := 84) hx hb dX_find_74 (by decide) ?_
              refine lv_aload hx hb dX_find_84 (lv_at hl 0 rfl) ?_
              refine lv_aload hx hb dX_find_86 (lv_at hl 2 rfl) ?_
              have on117 : ∀ (H : Heap) (locs : List Loc) (ls : Array Slot), ¬ (sg_rc σ i f = false ∨ (w = 2 ∧ ¬ j ∈ sg_ln (sg_pr σ) i)) → mw_S G M s.heap H locs → lv_has ls 9 [(8, .ref (ma f)), (7, .ref (ca j)), (6, .ref (ca i)), (0, .ref x), (1, .int a), (2, .int o), (3, .int n), (4, .int t), (5, .int w)] → W pg l en { frames := 2, cells := 0, slots := 0, locals := 80 } s mi [.ref x, .int a, .int o, .int n, .int t, .int w].toArray below meth cd H locs 0 0 (MQ below (mw_Q G (mp_ (some (.int (sp_fi σ a o n t w).1)) (mw_up M x ((0, 0), xo_e qc qm ql (nI (sg_nc σ)) (nI (sg_nm σ)) (sp_fi σ a o n t w).2)))) [.ref x, .int a, .int o, .int n, .int t, .int w].toArray s 0 0 (mw_A G)) (F0 mi 117 ls []) := by
                intro H locs ls hk hM hl
                rw [if_neg hk] at hsp0
                have on147 : ∀ (H : Heap) (locs : List Loc) (ls : Array Slot), ¬ (w = 5 ∧ sg_fn σ f = true ∧ ¬ i = sg_mc σ f) → mw_S G M s.heap H locs → lv_has ls 9 [(8, .ref (ma f)), (7, .ref (ca j)), (6, .ref (ca i)), (0, .ref x), (1, .int a), (2, .int o), (3, .int n), (4, .int t), (5, .int w)] → W pg l en { frames := 2, cells := 0, slots := 0, locals := 80 } s mi [.ref x, .int a, .int o, .int n, .int t, .int w].toArray below meth cd H locs 0 0 (MQ below (mw_Q G (mp_ (some (.int (sp_fi σ a o n t w).1)) (mw_up M x ((0, 0), xo_e qc qm ql (nI (sg_nc σ)) (nI (sg_nm σ)) (sp_fi σ a o n t w).2)))) [.ref x, .int a, .int o, .int n, .int t, .int w].toArray s 0 0 (mw_A G)) (F0 mi 147 ls []) := by
                  intro H locs ls hk2 hM hl
                  rw [if_neg hk2] at hsp0
                  have hw1 := xw_rf hw 0
                  refine lv_aload_n hx hb dX_find_147 rfl (lv_at hl 3 rfl) ?_
                  refine lv_iconst (v := 0) hx hb dX_find_148 (by decide) ?_
                  refine pf_X_32 F hM (xw_x hw) (Nat.le_of_ble_eq_true rfl) dX_find_149 (fun H locs hM => ?_)
                  have hM : mw_S G (mw_up M x ((0, 0), .inr (ciX, [.ref qc, .int (nI (sg_nc σ)), .ref qm, .int (nI (sg_nm σ)), .int 0, .ref ql]))) s.heap H locs := hM
                  refine lv_aload hx hb dX_find_152 (lv_at hl 0 rfl) ?_
                  refine gf_X_76 F hM (xw_m hw1 hfl) rfl dX_find_154 ?_
                  exact mr_i F hr hM (⟨by rw [hsp0], by rw [hsp0]⟩) dX_find_157 ⟨Nat.le_of_ble_eq_true rfl, Nat.le_of_ble_eq_true rfl⟩
                refine lv_iload hx hb dX_find_117 (lv_at hl 8 rfl) ?_
                refine lv_iconst (v := 5) hx hb dX_find_119 (by decide) ?_
                refine lv_icmp_ne (tgt := 147) hx hb dX_find_120 (by decide) (fun h7 => ?_) (fun h7 => ?_)
                · exact on147 H locs ls (fun z => h7 z.1) hM hl
                · refine lv_aload hx hb dX_find_123 (lv_at hl 0 rfl) ?_
                  refine gf_X_68 F hM (xw_m hw hfl) rfl dX_find_125 ?_
                  refine lv_if_eq (tgt := 147) hx hb dX_find_128 (by decide) (fun h8 => ?_) (fun h8 => ?_)
                  · exact on147 H locs ls (fun z => by rw [mb_z h8] at z; exact absurd z.2.1 (by decide)) hM hl
                  · refine lv_aload hx hb dX_find_131 (lv_at hl 2 rfl) ?_
                    refine lv_aload hx hb dX_find_133 (lv_at hl 0 rfl) ?_
                    refine gf_X_72 F hM (xw_m hw hfl) rfl dX_find_135 ?_
                    refine lv_acmp_eq (rx := some (ca i)) (ry := some (ca (sg_mc σ f))) (tgt := 147) hx hb dX_find_138 (by decide) (fun h9 => ?_) (fun h9 => ?_)
                    · exact on147 H locs ls (fun z => z.2.2 ((xw_cq hw lh1 hmf).mp h9)) hM hl
                    · refine lv_aload_n hx hb dX_find_141 rfl (lv_at hl 3 rfl) ?_
                      refine lv_iconst (v := 3) hx hb dX_find_142 (by decide) ?_
                      refine mw_Vp (As := [.int 3]) (rest := []) F (c_X_refuse hw 3) kb_X_refuse ki_X_refuse ks_X_refuse kl_X_46 hM (xw_x hw) rfl rfl hl.1 rfl (Nat.le_of_ble_eq_true rfl) dX_find_143 ⟨⟨Nat.le_of_ble_eq_true rfl, Nat.le_of_ble_eq_true rfl⟩, Nat.le_of_ble_eq_true rfl, Nat.le_of_ble_eq_true rfl⟩ ⟨rfl, rfl⟩ (fun H locs hM => ?_)
                      have hsp : sp_fi σ a o n t w = (-1, 3) := by rw [hsp0, if_pos ⟨h7, mb_n h8, fun z => h9 (by rw [z])⟩]
                      exact mr_i F hr hM (⟨by rw [hsp], by rw [hsp]⟩) dX_find_146 ⟨Nat.le_of_ble_eq_true rfl, Nat.le_of_ble_eq_true rfl⟩
              refine mw_Vp (As := [.ref (ca i)]) (rest := []) F (c_N_isReachedBy hw lh1 hfl) kb_N_isReachedBy ki_N_isReachedBy ks_N_isReachedBy kl_X_65 hM (xw_m hw hfl) rfl rfl hl.1 rfl (Nat.le_of_ble_eq_true rfl) dX_find_88 ⟨⟨Nat.le_of_ble_eq_true rfl, Nat.le_of_ble_eq_true rfl⟩, Nat.le_of_ble_eq_true rfl, Nat.le_of_ble_eq_true rfl⟩ ⟨rfl, rfl⟩ (fun H locs hM => ?_)
              refine lv_if_eq (tgt := 110) hx hb dX_find_91 (by decide) (fun h5 => ?_) (fun h5 => ?_)
              · refine lv_aload_n hx hb dX_find_110 rfl (lv_at hl 3 rfl) ?_
                refine lv_bipush (v := 7) hx hb dX_find_111 (by decide) ?_
                refine mw_Vp (As := [.int 7]) (rest := []) F (c_X_refuse hw 7) kb_X_refuse ki_X_refuse ks_X_refuse kl_X_46 hM (xw_x hw) rfl rfl hl.1 rfl (Nat.le_of_ble_eq_true rfl) dX_find_113 ⟨⟨Nat.le_of_ble_eq_true rfl, Nat.le_of_ble_eq_true rfl⟩, Nat.le_of_ble_eq_true rfl, Nat.le_of_ble_eq_true rfl⟩ ⟨rfl, rfl⟩ (fun H locs hM => ?_)
                have hsp : sp_fi σ a o n t w = (-1, 7) := by rw [hsp0, if_pos (Or.inl (mb_z h5))]
                exact mr_i F hr hM (⟨by rw [hsp], by rw [hsp]⟩) dX_find_116 ⟨Nat.le_of_ble_eq_true rfl, Nat.le_of_ble_eq_true rfl⟩
              · refine lv_iload hx hb dX_find_94 (lv_at hl 8 rfl) ?_
                refine lv_iconst (v := 2) hx hb dX_find_96 (by decide) ?_
                refine lv_icmp_ne (tgt := 117) hx hb dX_find_97 (by decide) (fun h6 => ?_) (fun h6 => ?_)
                · exact on117 H locs ls (fun z => by rcases z with z | z; rw [mb_n h5] at z; cases z; exact h6 z.1) hM (lv_sub hl [0, 1, 2, 3, 4, 5, 6, 7, 8] rfl)
                · refine lv_aload hx hb dX_find_100 (lv_at hl 2 rfl) ?_
                  refine lv_aload hx hb dX_find_102 (lv_at hl 1 rfl) ?_
                  refine mw_Vp (As := [.ref (ca j)]) (rest := []) F (c_C_isBelow hw lh1 lh2) kb_C_isBelow ki_C_isBelow ks_C_isBelow kl_X_42 hM (xw_c hw lh1) rfl rfl hl.1 rfl (Nat.le_of_ble_eq_true rfl) dX_find_104 ⟨⟨Nat.le_of_ble_eq_true rfl, Nat.le_of_ble_eq_true rfl⟩, Nat.le_of_ble_eq_true rfl, Nat.le_of_ble_eq_true rfl⟩ ⟨rfl, rfl⟩ (fun H locs hM => ?_)
                  refine lv_if_ne (tgt := 117) hx hb dX_find_107 (by decide) (fun h7 => ?_) (fun h7 => ?_)
                  · exact on117 H locs ls (fun z => by rcases z with z | z; rw [mb_n h5] at z; cases z; exact z.2 (of_decide_eq_true (mb_n h7))) hM (lv_sub hl [0, 1, 2, 3, 4, 5, 6, 7, 8] rfl)
                  · refine lv_aload_n hx hb dX_find_110 rfl (lv_at hl 3 rfl) ?_
                    refine lv_bipush (v := 7) hx hb dX_find_111 (by decide) ?_
                    refine mw_Vp (As := [.int 7]) (rest := []) F (c_X_refuse hw 7) kb_X_refuse ki_X_refuse ks_X_refuse kl_X_46 hM (xw_x hw) rfl rfl hl.1 rfl (Nat.le_of_ble_eq_true rfl) dX_find_113 ⟨⟨Nat.le_of_ble_eq_true rfl, Nat.le_of_ble_eq_true rfl⟩, Nat.le_of_ble_eq_true rfl, Nat.le_of_ble_eq_true rfl⟩ ⟨rfl, rfl⟩ (fun H locs hM => ?_)
                    have hsp : sp_fi σ a o n t w = (-1, 7) := by rw [hsp0, if_pos (Or.inr ⟨h6, of_decide_eq_false (mb_z h7)⟩)]
                    exact mr_i F hr hM (⟨by rw [hsp], by rw [hsp]⟩) dX_find_116 ⟨Nat.le_of_ble_eq_true rfl, Nat.le_of_ble_eq_true rfl⟩
          refine lv_iload hx hb dX_find_41 (lv_at hl 7 rfl) ?_
          refine lv_iconst (v := 3) hx hb dX_find_43 (by decide) ?_
          refine lv_icmp_eq (tgt := 60) hx hb dX_find_44 (by decide) (fun h5 => ?_) (fun h5 => ?_)
          · exact on60 H locs ls (fun z => z.1 h5) hM (lv_sub hl [0, 1, 2, 3, 4, 5, 6, 7] rfl)
          · refine lv_iload_n hx hb dX_find_47 rfl (lv_at hl 5 rfl) ?_
            refine mw_Zp (As := [.int n]) (rest := []) F (c_X_isName n) kb_X_isName ki_X_isName kl_X_57 hM rfl hl.1 rfl (Nat.le_of_ble_eq_true rfl) dX_find_48 ⟨⟨Nat.le_of_ble_eq_true rfl, Nat.le_of_ble_eq_true rfl⟩, Nat.le_of_ble_eq_true rfl, Nat.le_of_ble_eq_true rfl⟩ ⟨rfl, rfl⟩ (fun H locs hM => ?_)
            refine lv_if_ne (tgt := 60) hx hb dX_find_51 (by decide) (fun h6 => ?_) (fun h6 => ?_)
            · exact on60 H locs ls (fun z => of_decide_eq_true (mb_n h6) z.2) hM (lv_sub hl [0, 1, 2, 3, 4, 5, 6, 7] rfl)
            · refine lv_aload_n hx hb dX_find_54 rfl (lv_at hl 2 rfl) ?_
              refine lv_iconst (v := 2) hx hb dX_find_55 (by decide) ?_
              refine mw_Vp (As := [.int 2]) (rest := []) F (c_X_refuse hw 2) kb_X_refuse ki_X_refuse ks_X_refuse kl_X_46 hM (xw_x hw) rfl rfl hl.1 rfl (Nat.le_of_ble_eq_true rfl) dX_find_56 ⟨⟨Nat.le_of_ble_eq_true rfl, Nat.le_of_ble_eq_true rfl⟩, Nat.le_of_ble_eq_true rfl, Nat.le_of_ble_eq_true rfl⟩ ⟨rfl, rfl⟩ (fun H locs hM => ?_)
              have hsp : sp_fi σ a o n t w = (-1, 2) := by rw [hsp0, if_pos ⟨h5, Decidable.not_not.mp (of_decide_eq_false (mb_z h6))⟩]
              exact mr_i F hr hM (⟨by rw [hsp], by rw [hsp]⟩) dX_find_59 ⟨Nat.le_of_ble_eq_true rfl, Nat.le_of_ble_eq_true rfl⟩
        · refine lv_aload_n hx hb dX_find_35 rfl (lv_at hl 2 rfl) ?_
          refine lv_iconst (v := 1) hx hb dX_find_36 (by decide) ?_
          refine mw_Vp (As := [.int 1]) (rest := []) F (c_X_refuse hw 1) kb_X_refuse ki_X_refuse ks_X_refuse kl_X_46 hM (xw_x hw) rfl rfl hl.1 rfl (Nat.le_of_ble_eq_true rfl) dX_find_37 ⟨⟨Nat.le_of_ble_eq_true rfl, Nat.le_of_ble_eq_true rfl⟩, Nat.le_of_ble_eq_true rfl, Nat.le_of_ble_eq_true rfl⟩ ⟨rfl, rfl⟩ (fun H locs hM => ?_)
          have hsp : sp_fi σ a o n t w = (-1, 1) := by rw [hsp0, if_pos (Or.inr (i3_lt h4))]
          exact mr_i F hr hM (⟨by rw [hsp], by rw [hsp]⟩) dX_find_40 ⟨Nat.le_of_ble_eq_true rfl, Nat.le_of_ble_eq_true rfl⟩
end GC
