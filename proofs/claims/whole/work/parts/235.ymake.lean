section GC
variable {l : Launch} {G : mw_G} {M : mw_M} {y : Nat} {q : Nat → Nat} {σ : sg_T} {rf : Int32} {f : Nat → Nat → Int32} {ch : Nat → Int32} {lk : Int32} {ov : Nat → Int32}
set_option maxHeartbeats 4000000 in
set_option maxRecDepth 100000 in
theorem c_Y_field (hw : yw_ G M y q σ rf f ch lk ov) (o n r : Int32) (st fn : Bool) : mw_C l G yY_field bY_field 7 (some .int) { frames := 2, cells := 0, slots := 0, locals := 80 } M [.ref y, .int o, .int n, .int (mb_i st), .int (mb_i fn), .int r] (py_ G y q (some (.int (sp_ad σ o 0 n 0 st fn r).1)) (sp_ad σ o 0 n 0 st fn r).2.2 (sp_ad σ o 0 n 0 st fn r).2.1 M) := by
  refine mw_of (by decide) (Nat.le_of_ble_eq_true rfl) ?_
  intro pg en s mi below meth cd F hr _ hM ls hl
  obtain ⟨hx, hb, -⟩ := id F
  have hl : lv_has ls 7 [(0, .ref y), (1, .int o), (2, .int n), (3, .int (mb_i st)), (4, .int (mb_i fn)), (5, .int r)] := hl
  have hnc := yw_nc hw
  have hnm := yw_nm hw
  refine lv_aload_n hx hb dY_field_0 rfl (lv_at hl 0 rfl) ?_
  refine lv_iconst (v := 0) hx hb dY_field_1 (by decide) ?_
  refine pf_Y_51 F hM (yw_y hw) (Nat.le_of_ble_eq_true rfl) dY_field_2 (fun H locs hM => ?_)
  have hM : mw_S G (mw_up M y ((10, 0), .inr (ciY, [.ref (q 0), .ref (q 1), .int (nI (sg_nc σ)), .ref (q 2), .ref (q 3), .ref (q 4), .ref (q 5), .ref (q 6), .ref (q 7), .ref (q 8), .int (nI (sg_nm σ)), .int 0, .ref (q 9), .int lk, .ref (q 10)]))) s.heap H locs := hM
  have hw1 := yw_rf hw 0 lk
  have k1 : ky_ M (mw_up M y ((10, 0), .inr (ciY, [.ref (q 0), .ref (q 1), .int (nI (sg_nc σ)), .ref (q 2), .ref (q 3), .ref (q 4), .ref (q 5), .ref (q 6), .ref (q 7), .ref (q 8), .int (nI (sg_nm σ)), .int 0, .ref (q 9), .int lk, .ref (q 10)]))) := ky_up (yw_y hw) (by decide)
  generalize hM1 : mw_up M y ((10, 0), .inr (ciY, [.ref (q 0), .ref (q 1), .int (nI (sg_nc σ)), .ref (q 2), .ref (q 3), .ref (q 4), .ref (q 5), .ref (q 6), .ref (q 7), .ref (q 8), .int (nI (sg_nm σ)), .int 0, .ref (q 9), .int lk, .ref (q 10)])) = M1 at hM k1
  have hw1 : yw_ G M1 y q σ 0 f ch lk ov := by
    rw [← hM1]; exact hw1
  refine lv_aload_n hx hb dY_field_5 rfl (lv_at hl 0 rfl) ?_
  refine lv_iload_n hx hb dY_field_6 rfl (lv_at hl 1 rfl) ?_
  refine mw_Vp (As := [.int o]) (rest := []) F (c_Y_isClass hw1 o) kb_Y_isClass ki_Y_isClass ks_Y_isClass kl_Y_54 hM (yw_y hw1) rfl rfl hl.1 rfl (Nat.le_of_ble_eq_true rfl) dY_field_7 ⟨⟨Nat.le_of_ble_eq_true rfl, Nat.le_of_ble_eq_true rfl⟩, Nat.le_of_ble_eq_true rfl, Nat.le_of_ble_eq_true rfl⟩ ⟨rfl, rfl⟩ (fun H locs hM => ?_)
  refine lv_if_ne (tgt := 19) hx hb dY_field_10 (by decide) (fun h1 => ?_) (fun h1 => ?_)
  · obtain ⟨c, h1⟩ : ∃ i, ix_o o (sg_nc σ) = some i := by
      cases e : ix_o o (sg_nc σ) with
      | none => rw [e] at h1; exact absurd (mb_n h1) (by decide)
      | some i => exact ⟨i, rfl⟩
    obtain ⟨lh1, vh1⟩ := ix_some (by omega) h1
    have hspc : sp_ad σ o 0 n 0 st fn r = if sg_nr σ c 0 n 0 st r = 0 then (nI (sg_nm σ), 0, sg_ad σ c 0 n 0 st fn r) else (-1, sg_nr σ c 0 n 0 st r, σ) := by unfold sp_ad; rw [h1]
    refine lv_iload_n hx hb dY_field_19 rfl (lv_at hl 2 rfl) ?_
    refine lv_bipush (v := 99) hx hb dY_field_20 (by decide) ?_
    refine mw_Zp (As := [.int n, .int 99]) (rest := []) F (c_Y_outside n 99) kb_Y_outside ki_Y_outside kl_Y_66 hM rfl hl.1 rfl (Nat.le_of_ble_eq_true rfl) dY_field_22 ⟨⟨Nat.le_of_ble_eq_true rfl, Nat.le_of_ble_eq_true rfl⟩, Nat.le_of_ble_eq_true rfl, Nat.le_of_ble_eq_true rfl⟩ ⟨rfl, rfl⟩ (fun H locs hM => ?_)
    refine lv_if_ne (tgt := 37) hx hb dY_field_25 (by decide) (fun h2 => ?_) (fun h2 => ?_)
    · refine lv_aload_n hx hb dY_field_37 rfl (lv_at hl 0 rfl) ?_
      refine lv_iconst (v := 2) hx hb dY_field_38 (by decide) ?_
      refine mw_Vp (As := [.int 2]) (rest := []) F (c_Y_refuse hw1 2) kb_Y_refuse ki_Y_refuse ks_Y_refuse kl_Y_62 hM (yw_y hw1) rfl rfl hl.1 rfl (Nat.le_of_ble_eq_true rfl) dY_field_39 ⟨⟨Nat.le_of_ble_eq_true rfl, Nat.le_of_ble_eq_true rfl⟩, Nat.le_of_ble_eq_true rfl, Nat.le_of_ble_eq_true rfl⟩ ⟨rfl, rfl⟩ (fun H locs hM => ?_)
      have hsp : sp_ad σ o 0 n 0 st fn r = (-1, 2, σ) := by rw [hspc, show sg_nr σ c 0 n 0 st r = 2 by unfold sg_nr; rw [if_pos (by rcases of_decide_eq_true (mb_n h2) with z | z; exact Or.inl z; exact Or.inr (Or.inl z))]]; exact if_neg (by decide)
      exact mr_i F hr hM (⟨by rw [hsp], ⟨f, ch, lk, ov, by rw [hsp]; exact yw_rf hw1 2 lk⟩, ky_tr k1 (ky_up (yw_y hw1) (by decide))⟩) dY_field_42 ⟨Nat.le_of_ble_eq_true rfl, Nat.le_of_ble_eq_true rfl⟩
    · refine lv_iload hx hb dY_field_28 (lv_at hl 5 rfl) ?_
      refine lv_iconst (v := 3) hx hb dY_field_30 (by decide) ?_
      refine mw_Zp (As := [.int r, .int 3]) (rest := []) F (c_Y_outside r 3) kb_Y_outside ki_Y_outside kl_Y_66 hM rfl hl.1 rfl (Nat.le_of_ble_eq_true rfl) dY_field_31 ⟨⟨Nat.le_of_ble_eq_true rfl, Nat.le_of_ble_eq_true rfl⟩, Nat.le_of_ble_eq_true rfl, Nat.le_of_ble_eq_true rfl⟩ ⟨rfl, rfl⟩ (fun H locs hM => ?_)
      refine lv_if_eq (tgt := 43) hx hb dY_field_34 (by decide) (fun h3 => ?_) (fun h3 => ?_)
      · have h0 : ¬ (n < 0 ∨ 99 < n ∨ r < 0 ∨ 3 < r) := fun z => by
          rcases z with z | z | z
          · exact of_decide_eq_false (mb_z h2) (Or.inl z)
          · exact of_decide_eq_false (mb_z h2) (Or.inr z)
          · exact of_decide_eq_false (mb_z h3) z
        have hl : lv_has ls 7 [(0, .ref y), (1, .int (nI c)), (2, .int n), (3, .int (mb_i st)), (4, .int (mb_i fn)), (5, .int r)] := by
          rw [← vh1]; exact (lv_sub hl [0, 1, 2, 3, 4, 5] rfl)
        have tail : ∀ (M2 : mw_M) (ch2 : Nat → Int32) (lk2 : Int32) (ov2 : Nat → Int32) (H : Heap) (locs : List Loc) (ls : Array Slot), yw_ G M2 y q σ 0 f ch2 lk2 ov2 → ky_ M M2 → sg_ow σ c 0 n 0 = none → ¬ ((0 : Int32) = 1 ∧ sg_fb σ c n 0 st r = true) → mw_S G M2 s.heap H locs → lv_has ls 7 [(0, .ref y), (1, .int (nI c)), (2, .int n), (3, .int (mb_i st)), (4, .int (mb_i fn)), (5, .int r)] → W pg l en { frames := 2, cells := 0, slots := 0, locals := 80 } s mi [.ref y, .int o, .int n, .int (mb_i st), .int (mb_i fn), .int r].toArray below meth cd H locs 0 0 (MQ below (mw_Q G (py_ G y q (some (.int (sp_ad σ o 0 n 0 st fn r).1)) (sp_ad σ o 0 n 0 st fn r).2.2 (sp_ad σ o 0 n 0 st fn r).2.1 M)) [.ref y, .int o, .int n, .int (mb_i st), .int (mb_i fn), .int r].toArray s 0 0 (mw_A G)) (F0 mi 99 ls []) := by
          intro M2 ch2 lk2 ov2 H locs ls hw2 k2 how hfb hM hl
          have hnr : sg_nr σ c 0 n 0 st r = if 200 ≤ sg_nm σ then 5 else 0 := by unfold sg_nr; rw [if_neg h0, how, if_neg (by decide), if_neg hfb]
          refine lv_aload_n hx hb dY_field_99 rfl (lv_at hl 0 rfl) ?_
          refine gf_Y_48 F hM (yw_y hw2) rfl dY_field_100 ?_
          refine lv_sipush (v := 200) hx hb dY_field_103 (by decide) ?_
          refine lv_icmp_ge (tgt := 122) hx hb dY_field_106 (by decide) (fun h9 => ?_) (fun h9 => ?_)
          · have h200 : sg_nm σ = 200 := by
              have := (nI_leI (a := 200) (by omega) (by omega)).mp h9
              omega
            rw [if_pos (by omega)] at hnr
            refine lv_aload_n hx hb dY_field_122 rfl (lv_at hl 0 rfl) ?_
            refine mw_Vp (As := []) (rest := []) F (c_Y_told_f hw2 h200) kb_Y_told ki_Y_told ks_Y_told kl_Y_73 hM (yw_y hw2) rfl rfl hl.1 rfl (Nat.le_of_ble_eq_true rfl) dY_field_123 ⟨⟨Nat.le_of_ble_eq_true rfl, Nat.le_of_ble_eq_true rfl⟩, Nat.le_of_ble_eq_true rfl, Nat.le_of_ble_eq_true rfl⟩ ⟨rfl, rfl⟩ (fun H locs hM => ?_)
            have hsp : sp_ad σ o 0 n 0 st fn r = (-1, 5, σ) := by rw [hspc, hnr]; exact if_neg (by decide)
            exact mr_i F hr hM (⟨by rw [hsp], ⟨f, ch2, lk2, ov2, by rw [hsp]; exact yw_rf hw2 5 lk2⟩, ky_tr k2 (ky_up (yw_y hw2) (by decide))⟩) dY_field_126 ⟨Nat.le_of_ble_eq_true rfl, Nat.le_of_ble_eq_true rfl⟩
          · have hlt : sg_nm σ < 200 := Nat.not_le.mp (fun z => h9 ((nI_leI (a := 200) (by omega) (by omega)).mpr z))
            rw [if_neg (by omega)] at hnr
            refine lv_aload_n hx hb dY_field_109 rfl (lv_at hl 0 rfl) ?_
            refine lv_iload_n hx hb dY_field_110 rfl (lv_at hl 1 rfl) ?_
            refine lv_iload_n hx hb dY_field_111 rfl (lv_at hl 2 rfl) ?_
            refine lv_iconst (v := 0) hx hb dY_field_112 (by decide) ?_
            refine lv_iconst (v := 0) hx hb dY_field_113 (by decide) ?_
            refine lv_iload_n hx hb dY_field_114 rfl (lv_at hl 3 rfl) ?_
            refine lv_iload hx hb dY_field_115 (lv_at hl 4 rfl) ?_
            refine lv_iload hx hb dY_field_117 (lv_at hl 5 rfl) ?_
            refine mw_Wg (As := [.int (nI c), .int n, .int 0, .int 0, .int (mb_i st), .int (mb_i fn), .int r]) (rest := []) F (c_Y_tell hw2 hlt c 0 n 0 st fn r) kb_Y_tell ki_Y_tell ks_Y_tell kl_Y_69 hM (yw_y hw2) rfl rfl hl.1 rfl (Nat.le_of_ble_eq_true rfl) dY_field_119 ⟨⟨Nat.le_of_ble_eq_true rfl, Nat.le_of_ble_eq_true rfl⟩, Nat.le_of_ble_eq_true rfl, Nat.le_of_ble_eq_true rfl⟩ (fun M3 H locs hp hM => ?_)
            obtain ⟨hr3, k3⟩ := hp
            have hw3 : yw_ G M3 y q σ 0 (yt_f σ f c 0 n 0 st fn r) ch2 lk2 ov2 := ⟨hw.1, yc_tl hw.2.1 c 0 n 0 st fn r, hr3⟩
            refine lv_aload_n hx hb dY_field_122 rfl (lv_at hl 0 rfl) ?_
            refine mw_Vp (As := []) (rest := []) F (c_Y_told hw3 hlt) kb_Y_told ki_Y_told ks_Y_told kl_Y_73 hM (yw_y hw3) rfl rfl hl.1 rfl (Nat.le_of_ble_eq_true rfl) dY_field_123 ⟨⟨Nat.le_of_ble_eq_true rfl, Nat.le_of_ble_eq_true rfl⟩, Nat.le_of_ble_eq_true rfl, Nat.le_of_ble_eq_true rfl⟩ ⟨rfl, rfl⟩ (fun H locs hM => ?_)
            have hsp : sp_ad σ o 0 n 0 st fn r = (nI (sg_nm σ), 0, sg_ad σ c 0 n 0 st fn r) := by rw [hspc, if_pos hnr]
            exact mr_i F hr hM (⟨by rw [hsp], ⟨_, ch2, lk2, ov2, by rw [hsp]; exact ⟨sg_Wad hw.1 lh1 hnr (Or.inl ⟨rfl, rfl⟩), yc_ad hw.2.1 c 0 n 0 st fn r, yr_sy hr3 _ _ _ _⟩⟩, ky_tr (ky_tr k2 k3) (ky_up (yw_y hw3) (by decide))⟩) dY_field_126 ⟨Nat.le_of_ble_eq_true rfl, Nat.le_of_ble_eq_true rfl⟩
        have loop : ∀ (u i : Nat) (H : Heap) (locs : List Loc) (ls : Array Slot), sg_nm σ < i + u → i ≤ sg_nm σ → (∀ m, m < i → ¬ (sg_mc σ m = c ∧ sg_kd σ m = 0 ∧ sg_mn σ m = n)) → mw_S G M1 s.heap H locs → lv_has ls 7 [(6, .int (nI i)), (0, .ref y), (1, .int (nI c)), (2, .int n), (3, .int (mb_i st)), (4, .int (mb_i fn)), (5, .int r)] → W pg l en { frames := 2, cells := 0, slots := 0, locals := 80 } s mi [.ref y, .int o, .int n, .int (mb_i st), .int (mb_i fn), .int r].toArray below meth cd H locs 0 0 (MQ below (mw_Q G (py_ G y q (some (.int (sp_ad σ o 0 n 0 st fn r).1)) (sp_ad σ o 0 n 0 st fn r).2.2 (sp_ad σ o 0 n 0 st fn r).2.1 M)) [.ref y, .int o, .int n, .int (mb_i st), .int (mb_i fn), .int r].toArray s 0 0 (mw_A G)) (F0 mi 46 ls []) := by
          intro u
          induction u with
          | zero => intro i H locs ls h2 h3; omega
          | succ u ih =>
            intro i H locs ls hu hi hno hM hl
            refine lv_iload hx hb dY_field_46 (lv_at hl 0 rfl) ?_
            refine lv_aload_n hx hb dY_field_48 rfl (lv_at hl 1 rfl) ?_
            refine gf_Y_48 F hM (yw_y hw1) rfl dY_field_49 ?_
            refine lv_icmp_ge (tgt := 99) hx hb dY_field_52 (by decide) (fun h4 => ?_) (fun h4 => ?_)
            · have hik : i = sg_nm σ := by
                have := (nI_leI (by omega) (by omega)).mp h4
                omega
              subst hik
              have how : sg_ow σ c 0 n 0 = none := ow_none (fun m hm z => hno m hm ⟨z.1, z.2.1, z.2.2.1⟩)
              exact tail M1 ch lk ov H locs ls hw1 k1 how (fun z => absurd z.1 (by decide)) hM (lv_sub hl [1, 2, 3, 4, 5, 6] rfl)
            · have hik : i < sg_nm σ := by
                rcases Nat.lt_or_ge i (sg_nm σ) with z | z
                · exact z
                · exact absurd (nI_le z (by omega)) h4
              have hmi := yw_mc hw hik
              have next : ∀ (H : Heap) (locs : List Loc) (ls : Array Slot), ¬ (sg_mc σ i = c ∧ sg_kd σ i = 0 ∧ sg_mn σ i = n) → mw_S G M1 s.heap H locs → lv_has ls 7 [(6, .int (nI i)), (0, .ref y), (1, .int (nI c)), (2, .int n), (3, .int (mb_i st)), (4, .int (mb_i fn)), (5, .int r)] → W pg l en { frames := 2, cells := 0, slots := 0, locals := 80 } s mi [.ref y, .int o, .int n, .int (mb_i st), .int (mb_i fn), .int r].toArray below meth cd H locs 0 0 (MQ below (mw_Q G (py_ G y q (some (.int (sp_ad σ o 0 n 0 st fn r).1)) (sp_ad σ o 0 n 0 st fn r).2.2 (sp_ad σ o 0 n 0 st fn r).2.1 M)) [.ref y, .int o, .int n, .int (mb_i st), .int (mb_i fn), .int r].toArray s 0 0 (mw_A G)) (F0 mi 93 ls []) := by
                intro H locs ls hk hM hl
                refine lv_iinc (v := nI (i + 1)) (lv' := [(6, .int (nI (i + 1))), (0, .ref y), (1, .int (nI c)), (2, .int n), (3, .int (mb_i st)), (4, .int (mb_i fn)), (5, .int r)]) hx hb dY_field_93 hl (k := 0) rfl (ii_1 i) (by decide) rfl (fun ls hl => ?_)
                refine lv_goto (tgt := 46) hx hb dY_field_96 (by decide) ?_
                exact ih (i + 1) H locs ls (by omega) (by omega) (fun m hm => by
                  by_cases hmi2 : m = i
                  · rw [hmi2]; exact hk
                  · exact hno m (by omega)) hM (lv_sub hl [0, 1, 2, 3, 4, 5, 6] rfl)
              refine lv_aload_n hx hb dY_field_55 rfl (lv_at hl 1 rfl) ?_
              refine gf_Y_16 F hM (yw_y hw1) rfl dY_field_56 ?_
              refine lv_iload hx hb dY_field_59 (lv_at hl 0 rfl) ?_
              refine mw_ild F hM (yw_2 hw1) (vp_in_nI (by omega) (by omega)) dY_field_61 ?_
              refine mv_i (y := (nI (sg_mc σ i))) (by rw [nI_clamp (by omega)]; exact yv_2 hw1 hik) ?_
              refine lv_iload_n hx hb dY_field_62 rfl (lv_at hl 2 rfl) ?_
              refine lv_icmp_ne (tgt := 93) hx hb dY_field_63 (by decide) (fun g0 => ?_) (fun g0 => ?_)
              · exact next H locs ls (fun z => g0 (by rw [z.1])) hM (lv_sub hl [0, 1, 2, 3, 4, 5, 6] rfl)
              · have g0 : sg_mc σ i = c := (nI_eq (by omega) (by omega)).mp g0
                refine lv_aload_n hx hb dY_field_66 rfl (lv_at hl 1 rfl) ?_
                refine gf_Y_25 F hM (yw_y hw1) rfl dY_field_67 ?_
                refine lv_iload hx hb dY_field_70 (lv_at hl 0 rfl) ?_
                refine mw_ild F hM (yw_5 hw1) (vp_in_nI (by omega) (by omega)) dY_field_72 ?_
                refine mv_i (y := (sg_kd σ i)) (by rw [nI_clamp (by omega)]; exact yv_5 hw1 hik) ?_
                refine lv_if_ne (tgt := 93) hx hb dY_field_73 (by decide) (fun g1 => ?_) (fun g1 => ?_)
                · exact next H locs ls (fun z => g1 z.2.1) hM (lv_sub hl [0, 1, 2, 3, 4, 5, 6] rfl)
                · refine lv_aload_n hx hb dY_field_76 rfl (lv_at hl 1 rfl) ?_
                  refine gf_Y_19 F hM (yw_y hw1) rfl dY_field_77 ?_
                  refine lv_iload hx hb dY_field_80 (lv_at hl 0 rfl) ?_
                  refine mw_ild F hM (yw_3 hw1) (vp_in_nI (by omega) (by omega)) dY_field_82 ?_
                  refine mv_i (y := (sg_mn σ i)) (by rw [nI_clamp (by omega)]; exact yv_3 hw1 hik) ?_
                  refine lv_iload_n hx hb dY_field_83 rfl (lv_at hl 3 rfl) ?_
                  refine lv_icmp_ne (tgt := 93) hx hb dY_field_84 (by decide) (fun g2 => ?_) (fun g2 => ?_)
                  · exact next H locs ls (fun z => g2 z.2.2) hM (lv_sub hl [0, 1, 2, 3, 4, 5, 6] rfl)
                  · have hty : sg_ty σ i = 0 := by
                      rcases hw.1.2.2.2.2.2.1 i hik with z | z | z
                      · exact z.2
                      · rw [g1] at z; exact absurd z (by decide)
                      · rw [g1] at z; exact absurd z.1 (by decide)
                    have how := ow_is hw.1 hik g0 g1 g2 hty
                    refine lv_aload_n hx hb dY_field_87 rfl (lv_at hl 1 rfl) ?_
                    refine lv_iconst (v := 4) hx hb dY_field_88 (by decide) ?_
                    refine mw_Vp (As := [.int 4]) (rest := []) F (c_Y_refuse hw1 4) kb_Y_refuse ki_Y_refuse ks_Y_refuse kl_Y_62 hM (yw_y hw1) rfl rfl hl.1 rfl (Nat.le_of_ble_eq_true rfl) dY_field_89 ⟨⟨Nat.le_of_ble_eq_true rfl, Nat.le_of_ble_eq_true rfl⟩, Nat.le_of_ble_eq_true rfl, Nat.le_of_ble_eq_true rfl⟩ ⟨rfl, rfl⟩ (fun H locs hM => ?_)
                    have hsp : sp_ad σ o 0 n 0 st fn r = (-1, 4, σ) := by rw [hspc, show sg_nr σ c 0 n 0 st r = 4 by unfold sg_nr; rw [if_neg h0, how]; rfl]; exact if_neg (by decide)
                    exact mr_i F hr hM (⟨by rw [hsp], ⟨f, ch, lk, ov, by rw [hsp]; exact yw_rf hw1 4 lk⟩, ky_tr k1 (ky_up (yw_y hw1) (by decide))⟩) dY_field_92 ⟨Nat.le_of_ble_eq_true rfl, Nat.le_of_ble_eq_true rfl⟩
        refine lv_iconst (v := 0) hx hb dY_field_43 (by decide) ?_
        refine lv_istore (lv' := [(6, .int 0), (0, .ref y), (1, .int (nI c)), (2, .int n), (3, .int (mb_i st)), (4, .int (mb_i fn)), (5, .int r)]) hx hb dY_field_44 hl (by decide) rfl (fun ls hl => ?_)
        exact loop (sg_nm σ + 1) 0 _ _ ls (by omega) (Nat.zero_le _) (fun m hm => absurd hm (Nat.not_lt_zero m)) hM (lv_sub hl [0, 1, 2, 3, 4, 5, 6] rfl)
      · refine lv_aload_n hx hb dY_field_37 rfl (lv_at hl 0 rfl) ?_
        refine lv_iconst (v := 2) hx hb dY_field_38 (by decide) ?_
        refine mw_Vp (As := [.int 2]) (rest := []) F (c_Y_refuse hw1 2) kb_Y_refuse ki_Y_refuse ks_Y_refuse kl_Y_62 hM (yw_y hw1) rfl rfl hl.1 rfl (Nat.le_of_ble_eq_true rfl) dY_field_39 ⟨⟨Nat.le_of_ble_eq_true rfl, Nat.le_of_ble_eq_true rfl⟩, Nat.le_of_ble_eq_true rfl, Nat.le_of_ble_eq_true rfl⟩ ⟨rfl, rfl⟩ (fun H locs hM => ?_)
        have hsp : sp_ad σ o 0 n 0 st fn r = (-1, 2, σ) := by rw [hspc, show sg_nr σ c 0 n 0 st r = 2 by unfold sg_nr; rw [if_pos (Or.inr (Or.inr (of_decide_eq_true (mb_n h3))))]]; exact if_neg (by decide)
        exact mr_i F hr hM (⟨by rw [hsp], ⟨f, ch, lk, ov, by rw [hsp]; exact yw_rf hw1 2 lk⟩, ky_tr k1 (ky_up (yw_y hw1) (by decide))⟩) dY_field_42 ⟨Nat.le_of_ble_eq_true rfl, Nat.le_of_ble_eq_true rfl⟩
  · have h1 : ix_o o (sg_nc σ) = none := by
      cases e : ix_o o (sg_nc σ) with
      | none => rfl
      | some i => rw [e] at h1; exact absurd (mb_z h1) (by simp)
    refine lv_aload_n hx hb dY_field_13 rfl (lv_at hl 0 rfl) ?_
    refine lv_iconst (v := 1) hx hb dY_field_14 (by decide) ?_
    refine mw_Vp (As := [.int 1]) (rest := []) F (c_Y_refuse hw1 1) kb_Y_refuse ki_Y_refuse ks_Y_refuse kl_Y_62 hM (yw_y hw1) rfl rfl hl.1 rfl (Nat.le_of_ble_eq_true rfl) dY_field_15 ⟨⟨Nat.le_of_ble_eq_true rfl, Nat.le_of_ble_eq_true rfl⟩, Nat.le_of_ble_eq_true rfl, Nat.le_of_ble_eq_true rfl⟩ ⟨rfl, rfl⟩ (fun H locs hM => ?_)
    have hsp : sp_ad σ o 0 n 0 st fn r = (-1, 1, σ) := by unfold sp_ad; rw [h1]
    exact mr_i F hr hM (⟨by rw [hsp], ⟨f, ch, lk, ov, by rw [hsp]; exact yw_rf hw1 1 lk⟩, ky_tr k1 (ky_up (yw_y hw1) (by decide))⟩) dY_field_18 ⟨Nat.le_of_ble_eq_true rfl, Nat.le_of_ble_eq_true rfl⟩
set_option maxHeartbeats 4000000 in
set_option maxRecDepth 100000 in
theorem c_Y_maker (hw : yw_ G M y q σ rf f ch lk ov) (o t r : Int32) : mw_C l G yY_maker bY_maker 5 (some .int) { frames := 2, cells := 0, slots := 0, locals := 80 } M [.ref y, .int o, .int t, .int r] (py_ G y q (some (.int (sp_ad σ o 2 0 t false false r).1)) (sp_ad σ o 2 0 t false false r).2.2 (sp_ad σ o 2 0 t false false r).2.1 M) := by
  refine mw_of (by decide) (Nat.le_of_ble_eq_true rfl) ?_
  intro pg en s mi below meth cd F hr _ hM ls hl
  obtain ⟨hx, hb, -⟩ := id F
  have hl : lv_has ls 5 [(0, .ref y), (1, .int o), (2, .int t), (3, .int r)] := hl
  have hnc := yw_nc hw
  have hnm := yw_nm hw
  refine lv_aload_n hx hb dY_maker_0 rfl (lv_at hl 0 rfl) ?_
  refine lv_iconst (v := 0) hx hb dY_maker_1 (by decide) ?_
  refine pf_Y_51 F hM (yw_y hw) (Nat.le_of_ble_eq_true rfl) dY_maker_2 (fun H locs hM => ?_)
  have hM : mw_S G (mw_up M y ((10, 0), .inr (ciY, [.ref (q 0), .ref (q 1), .int (nI (sg_nc σ)), .ref (q 2), .ref (q 3), .ref (q 4), .ref (q 5), .ref (q 6), .ref (q 7), .ref (q 8), .int (nI (sg_nm σ)), .int 0, .ref (q 9), .int lk, .ref (q 10)]))) s.heap H locs := hM
  have hw1 := yw_rf hw 0 lk
  have k1 : ky_ M (mw_up M y ((10, 0), .inr (ciY, [.ref (q 0), .ref (q 1), .int (nI (sg_nc σ)), .ref (q 2), .ref (q 3), .ref (q 4), .ref (q 5), .ref (q 6), .ref (q 7), .ref (q 8), .int (nI (sg_nm σ)), .int 0, .ref (q 9), .int lk, .ref (q 10)]))) := ky_up (yw_y hw) (by decide)
  generalize hM1 : mw_up M y ((10, 0), .inr (ciY, [.ref (q 0), .ref (q 1), .int (nI (sg_nc σ)), .ref (q 2), .ref (q 3), .ref (q 4), .ref (q 5), .ref (q 6), .ref (q 7), .ref (q 8), .int (nI (sg_nm σ)), .int 0, .ref (q 9), .int lk, .ref (q 10)])) = M1 at hM k1
  have hw1 : yw_ G M1 y q σ 0 f ch lk ov := by
    rw [← hM1]; exact hw1
  refine lv_aload_n hx hb dY_maker_5 rfl (lv_at hl 0 rfl) ?_
  refine lv_iload_n hx hb dY_maker_6 rfl (lv_at hl 1 rfl) ?_
  refine mw_Vp (As := [.int o]) (rest := []) F (c_Y_isClass hw1 o) kb_Y_isClass ki_Y_isClass ks_Y_isClass kl_Y_54 hM (yw_y hw1) rfl rfl hl.1 rfl (Nat.le_of_ble_eq_true rfl) dY_maker_7 ⟨⟨Nat.le_of_ble_eq_true rfl, Nat.le_of_ble_eq_true rfl⟩, Nat.le_of_ble_eq_true rfl, Nat.le_of_ble_eq_true rfl⟩ ⟨rfl, rfl⟩ (fun H locs hM => ?_)
  refine lv_if_ne (tgt := 19) hx hb dY_maker_10 (by decide) (fun h1 => ?_) (fun h1 => ?_)
  · obtain ⟨c, h1⟩ : ∃ i, ix_o o (sg_nc σ) = some i := by
      cases e : ix_o o (sg_nc σ) with
      | none => rw [e] at h1; exact absurd (mb_n h1) (by decide)
      | some i => exact ⟨i, rfl⟩
    obtain ⟨lh1, vh1⟩ := ix_some (by omega) h1
    have hspc : sp_ad σ o 2 0 t false false r = if sg_nr σ c 2 0 t false r = 0 then (nI (sg_nm σ), 0, sg_ad σ c 2 0 t false false r) else (-1, sg_nr σ c 2 0 t false r, σ) := by unfold sp_ad; rw [h1]
    refine lv_iload_n hx hb dY_maker_19 rfl (lv_at hl 3 rfl) ?_
    refine lv_iconst (v := 3) hx hb dY_maker_20 (by decide) ?_
    refine mw_Zp (As := [.int r, .int 3]) (rest := []) F (c_Y_outside r 3) kb_Y_outside ki_Y_outside kl_Y_66 hM rfl hl.1 rfl (Nat.le_of_ble_eq_true rfl) dY_maker_21 ⟨⟨Nat.le_of_ble_eq_true rfl, Nat.le_of_ble_eq_true rfl⟩, Nat.le_of_ble_eq_true rfl, Nat.le_of_ble_eq_true rfl⟩ ⟨rfl, rfl⟩ (fun H locs hM => ?_)
    refine lv_if_eq (tgt := 33) hx hb dY_maker_24 (by decide) (fun h2 => ?_) (fun h2 => ?_)
    · have h0 : ¬ ((0 : Int32) < 0 ∨ 99 < (0 : Int32) ∨ r < 0 ∨ 3 < r) := fun z => by
        rcases z with z | z | z
        · exact absurd z (by decide)
        · exact absurd z (by decide)
        · exact of_decide_eq_false (mb_z h2) z
      have hl : lv_has ls 5 [(0, .ref y), (1, .int (nI c)), (2, .int t), (3, .int r)] := by
        rw [← vh1]; exact (lv_sub hl [0, 1, 2, 3] rfl)
      have tail : ∀ (M2 : mw_M) (ch2 : Nat → Int32) (lk2 : Int32) (ov2 : Nat → Int32) (H : Heap) (locs : List Loc) (ls : Array Slot), yw_ G M2 y q σ 0 f ch2 lk2 ov2 → ky_ M M2 → sg_ow σ c 2 0 t = none → ¬ ((2 : Int32) = 1 ∧ sg_fb σ c 0 t false r = true) → mw_S G M2 s.heap H locs → lv_has ls 5 [(0, .ref y), (1, .int (nI c)), (2, .int t), (3, .int r)] → W pg l en { frames := 2, cells := 0, slots := 0, locals := 80 } s mi [.ref y, .int o, .int t, .int r].toArray below meth cd H locs 0 0 (MQ below (mw_Q G (py_ G y q (some (.int (sp_ad σ o 2 0 t false false r).1)) (sp_ad σ o 2 0 t false false r).2.2 (sp_ad σ o 2 0 t false false r).2.1 M)) [.ref y, .int o, .int t, .int r].toArray s 0 0 (mw_A G)) (F0 mi 90 ls []) := by
        intro M2 ch2 lk2 ov2 H locs ls hw2 k2 how hfb hM hl
        have hnr : sg_nr σ c 2 0 t false r = if 200 ≤ sg_nm σ then 5 else 0 := by unfold sg_nr; rw [if_neg h0, how, if_neg (by decide), if_neg hfb]
        refine lv_aload_n hx hb dY_maker_90 rfl (lv_at hl 0 rfl) ?_
        refine gf_Y_48 F hM (yw_y hw2) rfl dY_maker_91 ?_
        refine lv_sipush (v := 200) hx hb dY_maker_94 (by decide) ?_
        refine lv_icmp_ge (tgt := 111) hx hb dY_maker_97 (by decide) (fun h9 => ?_) (fun h9 => ?_)
        · have h200 : sg_nm σ = 200 := by
            have := (nI_leI (a := 200) (by omega) (by omega)).mp h9
            omega
          rw [if_pos (by omega)] at hnr
          refine lv_aload_n hx hb dY_maker_111 rfl (lv_at hl 0 rfl) ?_
          refine mw_Vp (As := []) (rest := []) F (c_Y_told_f hw2 h200) kb_Y_told ki_Y_told ks_Y_told kl_Y_73 hM (yw_y hw2) rfl rfl hl.1 rfl (Nat.le_of_ble_eq_true rfl) dY_maker_112 ⟨⟨Nat.le_of_ble_eq_true rfl, Nat.le_of_ble_eq_true rfl⟩, Nat.le_of_ble_eq_true rfl, Nat.le_of_ble_eq_true rfl⟩ ⟨rfl, rfl⟩ (fun H locs hM => ?_)
          have hsp : sp_ad σ o 2 0 t false false r = (-1, 5, σ) := by rw [hspc, hnr]; exact if_neg (by decide)
          exact mr_i F hr hM (⟨by rw [hsp], ⟨f, ch2, lk2, ov2, by rw [hsp]; exact yw_rf hw2 5 lk2⟩, ky_tr k2 (ky_up (yw_y hw2) (by decide))⟩) dY_maker_115 ⟨Nat.le_of_ble_eq_true rfl, Nat.le_of_ble_eq_true rfl⟩
        · have hlt : sg_nm σ < 200 := Nat.not_le.mp (fun z => h9 ((nI_leI (a := 200) (by omega) (by omega)).mpr z))
          rw [if_neg (by omega)] at hnr
          refine lv_aload_n hx hb dY_maker_100 rfl (lv_at hl 0 rfl) ?_
          refine lv_iload_n hx hb dY_maker_101 rfl (lv_at hl 1 rfl) ?_
          refine lv_iconst (v := 0) hx hb dY_maker_102 (by decide) ?_
          refine lv_iconst (v := 2) hx hb dY_maker_103 (by decide) ?_
          refine lv_iload_n hx hb dY_maker_104 rfl (lv_at hl 2 rfl) ?_
          refine lv_iconst (v := 0) hx hb dY_maker_105 (by decide) ?_
          refine lv_iconst (v := 0) hx hb dY_maker_106 (by decide) ?_
          refine lv_iload_n hx hb dY_maker_107 rfl (lv_at hl 3 rfl) ?_
          refine mw_Wg (As := [.int (nI c), .int 0, .int 2, .int t, .int 0, .int 0, .int r]) (rest := []) F (c_Y_tell hw2 hlt c 2 0 t false false r) kb_Y_tell ki_Y_tell ks_Y_tell kl_Y_69 hM (yw_y hw2) rfl rfl hl.1 rfl (Nat.le_of_ble_eq_true rfl) dY_maker_108 ⟨⟨Nat.le_of_ble_eq_true rfl, Nat.le_of_ble_eq_true rfl⟩, Nat.le_of_ble_eq_true rfl, Nat.le_of_ble_eq_true rfl⟩ (fun M3 H locs hp hM => ?_)
          obtain ⟨hr3, k3⟩ := hp
          have hw3 : yw_ G M3 y q σ 0 (yt_f σ f c 2 0 t false false r) ch2 lk2 ov2 := ⟨hw.1, yc_tl hw.2.1 c 2 0 t false false r, hr3⟩
          refine lv_aload_n hx hb dY_maker_111 rfl (lv_at hl 0 rfl) ?_
          refine mw_Vp (As := []) (rest := []) F (c_Y_told hw3 hlt) kb_Y_told ki_Y_told ks_Y_told kl_Y_73 hM (yw_y hw3) rfl rfl hl.1 rfl (Nat.le_of_ble_eq_true rfl) dY_maker_112 ⟨⟨Nat.le_of_ble_eq_true rfl, Nat.le_of_ble_eq_true rfl⟩, Nat.le_of_ble_eq_true rfl, Nat.le_of_ble_eq_true rfl⟩ ⟨rfl, rfl⟩ (fun H locs hM => ?_)
          have hsp : sp_ad σ o 2 0 t false false r = (nI (sg_nm σ), 0, sg_ad σ c 2 0 t false false r) := by rw [hspc, if_pos hnr]
          exact mr_i F hr hM (⟨by rw [hsp], ⟨_, ch2, lk2, ov2, by rw [hsp]; exact ⟨sg_Wad hw.1 lh1 hnr (Or.inr (Or.inr ⟨rfl, rfl⟩)), yc_ad hw.2.1 c 2 0 t false false r, yr_sy hr3 _ _ _ _⟩⟩, ky_tr (ky_tr k2 k3) (ky_up (yw_y hw3) (by decide))⟩) dY_maker_115 ⟨Nat.le_of_ble_eq_true rfl, Nat.le_of_ble_eq_true rfl⟩
      have loop : ∀ (u i : Nat) (H : Heap) (locs : List Loc) (ls : Array Slot), sg_nm σ < i + u → i ≤ sg_nm σ → (∀ m, m < i → ¬ (sg_mc σ m = c ∧ sg_kd σ m = 2 ∧ sg_ty σ m = t)) → mw_S G M1 s.heap H locs → lv_has ls 5 [(4, .int (nI i)), (0, .ref y), (1, .int (nI c)), (2, .int t), (3, .int r)] → W pg l en { frames := 2, cells := 0, slots := 0, locals := 80 } s mi [.ref y, .int o, .int t, .int r].toArray below meth cd H locs 0 0 (MQ below (mw_Q G (py_ G y q (some (.int (sp_ad σ o 2 0 t false false r).1)) (sp_ad σ o 2 0 t false false r).2.2 (sp_ad σ o 2 0 t false false r).2.1 M)) [.ref y, .int o, .int t, .int r].toArray s 0 0 (mw_A G)) (F0 mi 36 ls []) := by
        intro u
        induction u with
        | zero => intro i H locs ls h2 h3; omega
        | succ u ih =>
          intro i H locs ls hu hi hno hM hl
          refine lv_iload hx hb dY_maker_36 (lv_at hl 0 rfl) ?_
          refine lv_aload_n hx hb dY_maker_38 rfl (lv_at hl 1 rfl) ?_
          refine gf_Y_48 F hM (yw_y hw1) rfl dY_maker_39 ?_
          refine lv_icmp_ge (tgt := 90) hx hb dY_maker_42 (by decide) (fun h4 => ?_) (fun h4 => ?_)
          · have hik : i = sg_nm σ := by
              have := (nI_leI (by omega) (by omega)).mp h4
              omega
            subst hik
            have how : sg_ow σ c 2 0 t = none := ow_none (fun m hm z => hno m hm ⟨z.1, z.2.1, z.2.2.2⟩)
            exact tail M1 ch lk ov H locs ls hw1 k1 how (fun z => absurd z.1 (by decide)) hM (lv_sub hl [1, 2, 3, 4] rfl)
          · have hik : i < sg_nm σ := by
              rcases Nat.lt_or_ge i (sg_nm σ) with z | z
              · exact z
              · exact absurd (nI_le z (by omega)) h4
            have hmi := yw_mc hw hik
            have next : ∀ (H : Heap) (locs : List Loc) (ls : Array Slot), ¬ (sg_mc σ i = c ∧ sg_kd σ i = 2 ∧ sg_ty σ i = t) → mw_S G M1 s.heap H locs → lv_has ls 5 [(4, .int (nI i)), (0, .ref y), (1, .int (nI c)), (2, .int t), (3, .int r)] → W pg l en { frames := 2, cells := 0, slots := 0, locals := 80 } s mi [.ref y, .int o, .int t, .int r].toArray below meth cd H locs 0 0 (MQ below (mw_Q G (py_ G y q (some (.int (sp_ad σ o 2 0 t false false r).1)) (sp_ad σ o 2 0 t false false r).2.2 (sp_ad σ o 2 0 t false false r).2.1 M)) [.ref y, .int o, .int t, .int r].toArray s 0 0 (mw_A G)) (F0 mi 84 ls []) := by
              intro H locs ls hk hM hl
              refine lv_iinc (v := nI (i + 1)) (lv' := [(4, .int (nI (i + 1))), (0, .ref y), (1, .int (nI c)), (2, .int t), (3, .int r)]) hx hb dY_maker_84 hl (k := 0) rfl (ii_1 i) (by decide) rfl (fun ls hl => ?_)
              refine lv_goto (tgt := 36) hx hb dY_maker_87 (by decide) ?_
              exact ih (i + 1) H locs ls (by omega) (by omega) (fun m hm => by
                by_cases hmi2 : m = i
                · rw [hmi2]; exact hk
                · exact hno m (by omega)) hM (lv_sub hl [0, 1, 2, 3, 4] rfl)
            refine lv_aload_n hx hb dY_maker_45 rfl (lv_at hl 1 rfl) ?_
            refine gf_Y_16 F hM (yw_y hw1) rfl dY_maker_46 ?_
            refine lv_iload hx hb dY_maker_49 (lv_at hl 0 rfl) ?_
            refine mw_ild F hM (yw_2 hw1) (vp_in_nI (by omega) (by omega)) dY_maker_51 ?_
            refine mv_i (y := (nI (sg_mc σ i))) (by rw [nI_clamp (by omega)]; exact yv_2 hw1 hik) ?_
            refine lv_iload_n hx hb dY_maker_52 rfl (lv_at hl 2 rfl) ?_
            refine lv_icmp_ne (tgt := 84) hx hb dY_maker_53 (by decide) (fun g0 => ?_) (fun g0 => ?_)
            · exact next H locs ls (fun z => g0 (by rw [z.1])) hM (lv_sub hl [0, 1, 2, 3, 4] rfl)
            · have g0 : sg_mc σ i = c := (nI_eq (by omega) (by omega)).mp g0
              refine lv_aload_n hx hb dY_maker_56 rfl (lv_at hl 1 rfl) ?_
              refine gf_Y_25 F hM (yw_y hw1) rfl dY_maker_57 ?_
              refine lv_iload hx hb dY_maker_60 (lv_at hl 0 rfl) ?_
              refine mw_ild F hM (yw_5 hw1) (vp_in_nI (by omega) (by omega)) dY_maker_62 ?_
              refine mv_i (y := (sg_kd σ i)) (by rw [nI_clamp (by omega)]; exact yv_5 hw1 hik) ?_
              refine lv_iconst (v := 2) hx hb dY_maker_63 (by decide) ?_
              refine lv_icmp_ne (tgt := 84) hx hb dY_maker_64 (by decide) (fun g1 => ?_) (fun g1 => ?_)
              · exact next H locs ls (fun z => g1 z.2.1) hM (lv_sub hl [0, 1, 2, 3, 4] rfl)
              · refine lv_aload_n hx hb dY_maker_67 rfl (lv_at hl 1 rfl) ?_
                refine gf_Y_28 F hM (yw_y hw1) rfl dY_maker_68 ?_
                refine lv_iload hx hb dY_maker_71 (lv_at hl 0 rfl) ?_
                refine mw_ild F hM (yw_6 hw1) (vp_in_nI (by omega) (by omega)) dY_maker_73 ?_
                refine mv_i (y := (sg_ty σ i)) (by rw [nI_clamp (by omega)]; exact yv_6 hw1 hik) ?_
                refine lv_iload_n hx hb dY_maker_74 rfl (lv_at hl 3 rfl) ?_
                refine lv_icmp_ne (tgt := 84) hx hb dY_maker_75 (by decide) (fun g2 => ?_) (fun g2 => ?_)
                · exact next H locs ls (fun z => g2 z.2.2) hM (lv_sub hl [0, 1, 2, 3, 4] rfl)
                · have hmn : sg_mn σ i = 0 := by
                    rcases hw.1.2.2.2.2.2.1 i hik with z | z | z
                    · rw [g1] at z; exact absurd z.1 (by decide)
                    · rw [g1] at z; exact absurd z (by decide)
                    · exact z.2
                  have how := ow_is hw.1 hik g0 g1 hmn g2
                  refine lv_aload_n hx hb dY_maker_78 rfl (lv_at hl 1 rfl) ?_
                  refine lv_iconst (v := 4) hx hb dY_maker_79 (by decide) ?_
                  refine mw_Vp (As := [.int 4]) (rest := []) F (c_Y_refuse hw1 4) kb_Y_refuse ki_Y_refuse ks_Y_refuse kl_Y_62 hM (yw_y hw1) rfl rfl hl.1 rfl (Nat.le_of_ble_eq_true rfl) dY_maker_80 ⟨⟨Nat.le_of_ble_eq_true rfl, Nat.le_of_ble_eq_true rfl⟩, Nat.le_of_ble_eq_true rfl, Nat.le_of_ble_eq_true rfl⟩ ⟨rfl, rfl⟩ (fun H locs hM => ?_)
                  have hsp : sp_ad σ o 2 0 t false false r = (-1, 4, σ) := by rw [hspc, show sg_nr σ c 2 0 t false r = 4 by unfold sg_nr; rw [if_neg h0, how]; rfl]; exact if_neg (by decide)
                  exact mr_i F hr hM (⟨by rw [hsp], ⟨f, ch, lk, ov, by rw [hsp]; exact yw_rf hw1 4 lk⟩, ky_tr k1 (ky_up (yw_y hw1) (by decide))⟩) dY_maker_83 ⟨Nat.le_of_ble_eq_true rfl, Nat.le_of_ble_eq_true rfl⟩
      refine lv_iconst (v := 0) hx hb dY_maker_33 (by decide) ?_
      refine lv_istore (lv' := [(4, .int 0), (0, .ref y), (1, .int (nI c)), (2, .int t), (3, .int r)]) hx hb dY_maker_34 hl (by decide) rfl (fun ls hl => ?_)
      exact loop (sg_nm σ + 1) 0 _ _ ls (by omega) (Nat.zero_le _) (fun m hm => absurd hm (Nat.not_lt_zero m)) hM (lv_sub hl [0, 1, 2, 3, 4] rfl)
    · refine lv_aload_n hx hb dY_maker_27 rfl (lv_at hl 0 rfl) ?_
      refine lv_iconst (v := 2) hx hb dY_maker_28 (by decide) ?_
      refine mw_Vp (As := [.int 2]) (rest := []) F (c_Y_refuse hw1 2) kb_Y_refuse ki_Y_refuse ks_Y_refuse kl_Y_62 hM (yw_y hw1) rfl rfl hl.1 rfl (Nat.le_of_ble_eq_true rfl) dY_maker_29 ⟨⟨Nat.le_of_ble_eq_true rfl, Nat.le_of_ble_eq_true rfl⟩, Nat.le_of_ble_eq_true rfl, Nat.le_of_ble_eq_true rfl⟩ ⟨rfl, rfl⟩ (fun H locs hM => ?_)
      have hsp : sp_ad σ o 2 0 t false false r = (-1, 2, σ) := by rw [hspc, show sg_nr σ c 2 0 t false r = 2 by unfold sg_nr; rw [if_pos (Or.inr (Or.inr (of_decide_eq_true (mb_n h2))))]]; exact if_neg (by decide)
      exact mr_i F hr hM (⟨by rw [hsp], ⟨f, ch, lk, ov, by rw [hsp]; exact yw_rf hw1 2 lk⟩, ky_tr k1 (ky_up (yw_y hw1) (by decide))⟩) dY_maker_32 ⟨Nat.le_of_ble_eq_true rfl, Nat.le_of_ble_eq_true rfl⟩
  · have h1 : ix_o o (sg_nc σ) = none := by
      cases e : ix_o o (sg_nc σ) with
      | none => rfl
      | some i => rw [e] at h1; exact absurd (mb_z h1) (by simp)
    refine lv_aload_n hx hb dY_maker_13 rfl (lv_at hl 0 rfl) ?_
    refine lv_iconst (v := 1) hx hb dY_maker_14 (by decide) ?_
    refine mw_Vp (As := [.int 1]) (rest := []) F (c_Y_refuse hw1 1) kb_Y_refuse ki_Y_refuse ks_Y_refuse kl_Y_62 hM (yw_y hw1) rfl rfl hl.1 rfl (Nat.le_of_ble_eq_true rfl) dY_maker_15 ⟨⟨Nat.le_of_ble_eq_true rfl, Nat.le_of_ble_eq_true rfl⟩, Nat.le_of_ble_eq_true rfl, Nat.le_of_ble_eq_true rfl⟩ ⟨rfl, rfl⟩ (fun H locs hM => ?_)
    have hsp : sp_ad σ o 2 0 t false false r = (-1, 1, σ) := by unfold sp_ad; rw [h1]
    exact mr_i F hr hM (⟨by rw [hsp], ⟨f, ch, lk, ov, by rw [hsp]; exact yw_rf hw1 1 lk⟩, ky_tr k1 (ky_up (yw_y hw1) (by decide))⟩) dY_maker_18 ⟨Nat.le_of_ble_eq_true rfl, Nat.le_of_ble_eq_true rfl⟩
end GC
