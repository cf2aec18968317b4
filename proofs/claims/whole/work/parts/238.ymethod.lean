section GC
variable {l : Launch} {G : mw_G} {M : mw_M} {y : Nat} {q : Nat → Nat} {σ : sg_T} {rf : Int32} {f : Nat → Nat → Int32} {ch : Nat → Int32} {lk : Int32} {ov : Nat → Int32}
set_option maxHeartbeats 4000000 in
set_option maxRecDepth 100000 in
theorem c_Y_method (hw : yw_ G M y q σ rf f ch lk ov) (o n t r : Int32) (st fn : Bool) : mw_C l G yY_method bY_method 9 (some .int) { frames := 4, cells := 0, slots := 0, locals := 160 } M [.ref y, .int o, .int n, .int t, .int (mb_i st), .int (mb_i fn), .int r] (py_ G y q (some (.int (sp_ad σ o 1 n t st fn r).1)) (sp_ad σ o 1 n t st fn r).2.2 (sp_ad σ o 1 n t st fn r).2.1 M) := by
  refine mw_of (by decide) (Nat.le_of_ble_eq_true rfl) ?_
  intro pg en s mi below meth cd F hr _ hM ls hl
  obtain ⟨hx, hb, -⟩ := id F
  have hl : lv_has ls 9 [(0, .ref y), (1, .int o), (2, .int n), (3, .int t), (4, .int (mb_i st)), (5, .int (mb_i fn)), (6, .int r)] := hl
  have hnc := yw_nc hw
  have hnm := yw_nm hw
  refine lv_aload_n hx hb dY_method_0 rfl (lv_at hl 0 rfl) ?_
  refine lv_iconst (v := 0) hx hb dY_method_1 (by decide) ?_
  refine pf_Y_51 F hM (yw_y hw) (Nat.le_of_ble_eq_true rfl) dY_method_2 (fun H locs hM => ?_)
  have hM : mw_S G (mw_up M y ((10, 0), .inr (ciY, [.ref (q 0), .ref (q 1), .int (nI (sg_nc σ)), .ref (q 2), .ref (q 3), .ref (q 4), .ref (q 5), .ref (q 6), .ref (q 7), .ref (q 8), .int (nI (sg_nm σ)), .int 0, .ref (q 9), .int lk, .ref (q 10)]))) s.heap H locs := hM
  have hw1 := yw_rf hw 0 lk
  have k1 : ky_ M (mw_up M y ((10, 0), .inr (ciY, [.ref (q 0), .ref (q 1), .int (nI (sg_nc σ)), .ref (q 2), .ref (q 3), .ref (q 4), .ref (q 5), .ref (q 6), .ref (q 7), .ref (q 8), .int (nI (sg_nm σ)), .int 0, .ref (q 9), .int lk, .ref (q 10)]))) := ky_up (yw_y hw) (by decide)
  generalize hM1 : mw_up M y ((10, 0), .inr (ciY, [.ref (q 0), .ref (q 1), .int (nI (sg_nc σ)), .ref (q 2), .ref (q 3), .ref (q 4), .ref (q 5), .ref (q 6), .ref (q 7), .ref (q 8), .int (nI (sg_nm σ)), .int 0, .ref (q 9), .int lk, .ref (q 10)])) = M1 at hM k1
  have hw1 : yw_ G M1 y q σ 0 f ch lk ov := by
    rw [← hM1]; exact hw1
  refine lv_aload_n hx hb dY_method_5 rfl (lv_at hl 0 rfl) ?_
  refine lv_iload_n hx hb dY_method_6 rfl (lv_at hl 1 rfl) ?_
  refine mw_Vp (As := [.int o]) (rest := []) F (c_Y_isClass hw1 o) kb_Y_isClass ki_Y_isClass ks_Y_isClass kl_Y_54 hM (yw_y hw1) rfl rfl hl.1 rfl (Nat.le_of_ble_eq_true rfl) dY_method_7 ⟨⟨Nat.le_of_ble_eq_true rfl, Nat.le_of_ble_eq_true rfl⟩, Nat.le_of_ble_eq_true rfl, Nat.le_of_ble_eq_true rfl⟩ ⟨rfl, rfl⟩ (fun H locs hM => ?_)
  refine lv_if_ne (tgt := 19) hx hb dY_method_10 (by decide) (fun h1 => ?_) (fun h1 => ?_)
  · obtain ⟨c, h1⟩ : ∃ i, ix_o o (sg_nc σ) = some i := by
      cases e : ix_o o (sg_nc σ) with
      | none => rw [e] at h1; exact absurd (mb_n h1) (by decide)
      | some i => exact ⟨i, rfl⟩
    obtain ⟨lh1, vh1⟩ := ix_some (by omega) h1
    have hspc : sp_ad σ o 1 n t st fn r = if sg_nr σ c 1 n t st r = 0 then (nI (sg_nm σ), 0, sg_ad σ c 1 n t st fn r) else (-1, sg_nr σ c 1 n t st r, σ) := by unfold sp_ad; rw [h1]
    refine lv_iload_n hx hb dY_method_19 rfl (lv_at hl 2 rfl) ?_
    refine lv_bipush (v := 99) hx hb dY_method_20 (by decide) ?_
    refine mw_Zp (As := [.int n, .int 99]) (rest := []) F (c_Y_outside n 99) kb_Y_outside ki_Y_outside kl_Y_66 hM rfl hl.1 rfl (Nat.le_of_ble_eq_true rfl) dY_method_22 ⟨⟨Nat.le_of_ble_eq_true rfl, Nat.le_of_ble_eq_true rfl⟩, Nat.le_of_ble_eq_true rfl, Nat.le_of_ble_eq_true rfl⟩ ⟨rfl, rfl⟩ (fun H locs hM => ?_)
    refine lv_if_ne (tgt := 37) hx hb dY_method_25 (by decide) (fun h2 => ?_) (fun h2 => ?_)
    · refine lv_aload_n hx hb dY_method_37 rfl (lv_at hl 0 rfl) ?_
      refine lv_iconst (v := 2) hx hb dY_method_38 (by decide) ?_
      refine mw_Vp (As := [.int 2]) (rest := []) F (c_Y_refuse hw1 2) kb_Y_refuse ki_Y_refuse ks_Y_refuse kl_Y_62 hM (yw_y hw1) rfl rfl hl.1 rfl (Nat.le_of_ble_eq_true rfl) dY_method_39 ⟨⟨Nat.le_of_ble_eq_true rfl, Nat.le_of_ble_eq_true rfl⟩, Nat.le_of_ble_eq_true rfl, Nat.le_of_ble_eq_true rfl⟩ ⟨rfl, rfl⟩ (fun H locs hM => ?_)
      have hsp : sp_ad σ o 1 n t st fn r = (-1, 2, σ) := by rw [hspc, show sg_nr σ c 1 n t st r = 2 by unfold sg_nr; rw [if_pos (by rcases of_decide_eq_true (mb_n h2) with z | z; exact Or.inl z; exact Or.inr (Or.inl z))]]; exact if_neg (by decide)
      exact mr_i F hr hM (⟨by rw [hsp], ⟨f, ch, lk, ov, by rw [hsp]; exact yw_rf hw1 2 lk⟩, ky_tr k1 (ky_up (yw_y hw1) (by decide))⟩) dY_method_42 ⟨Nat.le_of_ble_eq_true rfl, Nat.le_of_ble_eq_true rfl⟩
    · refine lv_iload hx hb dY_method_28 (lv_at hl 6 rfl) ?_
      refine lv_iconst (v := 3) hx hb dY_method_30 (by decide) ?_
      refine mw_Zp (As := [.int r, .int 3]) (rest := []) F (c_Y_outside r 3) kb_Y_outside ki_Y_outside kl_Y_66 hM rfl hl.1 rfl (Nat.le_of_ble_eq_true rfl) dY_method_31 ⟨⟨Nat.le_of_ble_eq_true rfl, Nat.le_of_ble_eq_true rfl⟩, Nat.le_of_ble_eq_true rfl, Nat.le_of_ble_eq_true rfl⟩ ⟨rfl, rfl⟩ (fun H locs hM => ?_)
      refine lv_if_eq (tgt := 43) hx hb dY_method_34 (by decide) (fun h3 => ?_) (fun h3 => ?_)
      · have h0 : ¬ (n < 0 ∨ 99 < n ∨ r < 0 ∨ 3 < r) := fun z => by
          rcases z with z | z | z
          · exact of_decide_eq_false (mb_z h2) (Or.inl z)
          · exact of_decide_eq_false (mb_z h2) (Or.inr z)
          · exact of_decide_eq_false (mb_z h3) z
        have hl : lv_has ls 9 [(0, .ref y), (1, .int (nI c)), (2, .int n), (3, .int t), (4, .int (mb_i st)), (5, .int (mb_i fn)), (6, .int r)] := by
          rw [← vh1]; exact (lv_sub hl [0, 1, 2, 3, 4, 5, 6] rfl)
        have tail : ∀ (M2 : mw_M) (ch2 : Nat → Int32) (lk2 : Int32) (ov2 : Nat → Int32) (H : Heap) (locs : List Loc) (ls : Array Slot), yw_ G M2 y q σ 0 f ch2 lk2 ov2 → ky_ M M2 → sg_ow σ c 1 n t = none → ¬ ((1 : Int32) = 1 ∧ sg_fb σ c n t st r = true) → mw_S G M2 s.heap H locs → lv_has ls 9 [(0, .ref y), (1, .int (nI c)), (2, .int n), (3, .int t), (4, .int (mb_i st)), (5, .int (mb_i fn)), (6, .int r)] → W pg l en { frames := 4, cells := 0, slots := 0, locals := 160 } s mi [.ref y, .int o, .int n, .int t, .int (mb_i st), .int (mb_i fn), .int r].toArray below meth cd H locs 0 0 (MQ below (mw_Q G (py_ G y q (some (.int (sp_ad σ o 1 n t st fn r).1)) (sp_ad σ o 1 n t st fn r).2.2 (sp_ad σ o 1 n t st fn r).2.1 M)) [.ref y, .int o, .int n, .int t, .int (mb_i st), .int (mb_i fn), .int r].toArray s 0 0 (mw_A G)) (F0 mi 207 ls []) := by
          intro M2 ch2 lk2 ov2 H locs ls hw2 k2 how hfb hM hl
          have hnr : sg_nr σ c 1 n t st r = if 200 ≤ sg_nm σ then 5 else 0 := by unfold sg_nr; rw [if_neg h0, how, if_neg (by decide), if_neg hfb]
          refine lv_aload_n hx hb dY_method_207 rfl (lv_at hl 0 rfl) ?_
          refine gf_Y_48 F hM (yw_y hw2) rfl dY_method_208 ?_
          refine lv_sipush (v := 200) hx hb dY_method_211 (by decide) ?_
          refine lv_icmp_ge (tgt := 231) hx hb dY_method_214 (by decide) (fun h9 => ?_) (fun h9 => ?_)
          · have h200 : sg_nm σ = 200 := by
              have := (nI_leI (a := 200) (by omega) (by omega)).mp h9
              omega
            rw [if_pos (by omega)] at hnr
            refine lv_aload_n hx hb dY_method_231 rfl (lv_at hl 0 rfl) ?_
            refine mw_Vp (As := []) (rest := []) F (c_Y_told_f hw2 h200) kb_Y_told ki_Y_told ks_Y_told kl_Y_73 hM (yw_y hw2) rfl rfl hl.1 rfl (Nat.le_of_ble_eq_true rfl) dY_method_232 ⟨⟨Nat.le_of_ble_eq_true rfl, Nat.le_of_ble_eq_true rfl⟩, Nat.le_of_ble_eq_true rfl, Nat.le_of_ble_eq_true rfl⟩ ⟨rfl, rfl⟩ (fun H locs hM => ?_)
            have hsp : sp_ad σ o 1 n t st fn r = (-1, 5, σ) := by rw [hspc, hnr]; exact if_neg (by decide)
            exact mr_i F hr hM (⟨by rw [hsp], ⟨f, ch2, lk2, ov2, by rw [hsp]; exact yw_rf hw2 5 lk2⟩, ky_tr k2 (ky_up (yw_y hw2) (by decide))⟩) dY_method_235 ⟨Nat.le_of_ble_eq_true rfl, Nat.le_of_ble_eq_true rfl⟩
          · have hlt : sg_nm σ < 200 := Nat.not_le.mp (fun z => h9 ((nI_leI (a := 200) (by omega) (by omega)).mpr z))
            rw [if_neg (by omega)] at hnr
            refine lv_aload_n hx hb dY_method_217 rfl (lv_at hl 0 rfl) ?_
            refine lv_iload_n hx hb dY_method_218 rfl (lv_at hl 1 rfl) ?_
            refine lv_iload_n hx hb dY_method_219 rfl (lv_at hl 2 rfl) ?_
            refine lv_iconst (v := 1) hx hb dY_method_220 (by decide) ?_
            refine lv_iload_n hx hb dY_method_221 rfl (lv_at hl 3 rfl) ?_
            refine lv_iload hx hb dY_method_222 (lv_at hl 4 rfl) ?_
            refine lv_iload hx hb dY_method_224 (lv_at hl 5 rfl) ?_
            refine lv_iload hx hb dY_method_226 (lv_at hl 6 rfl) ?_
            refine mw_Wg (As := [.int (nI c), .int n, .int 1, .int t, .int (mb_i st), .int (mb_i fn), .int r]) (rest := []) F (c_Y_tell hw2 hlt c 1 n t st fn r) kb_Y_tell ki_Y_tell ks_Y_tell kl_Y_69 hM (yw_y hw2) rfl rfl hl.1 rfl (Nat.le_of_ble_eq_true rfl) dY_method_228 ⟨⟨Nat.le_of_ble_eq_true rfl, Nat.le_of_ble_eq_true rfl⟩, Nat.le_of_ble_eq_true rfl, Nat.le_of_ble_eq_true rfl⟩ (fun M3 H locs hp hM => ?_)
            obtain ⟨hr3, k3⟩ := hp
            have hw3 : yw_ G M3 y q σ 0 (yt_f σ f c 1 n t st fn r) ch2 lk2 ov2 := ⟨hw.1, yc_tl hw.2.1 c 1 n t st fn r, hr3⟩
            refine lv_aload_n hx hb dY_method_231 rfl (lv_at hl 0 rfl) ?_
            refine mw_Vp (As := []) (rest := []) F (c_Y_told hw3 hlt) kb_Y_told ki_Y_told ks_Y_told kl_Y_73 hM (yw_y hw3) rfl rfl hl.1 rfl (Nat.le_of_ble_eq_true rfl) dY_method_232 ⟨⟨Nat.le_of_ble_eq_true rfl, Nat.le_of_ble_eq_true rfl⟩, Nat.le_of_ble_eq_true rfl, Nat.le_of_ble_eq_true rfl⟩ ⟨rfl, rfl⟩ (fun H locs hM => ?_)
            have hsp : sp_ad σ o 1 n t st fn r = (nI (sg_nm σ), 0, sg_ad σ c 1 n t st fn r) := by rw [hspc, if_pos hnr]
            exact mr_i F hr hM (⟨by rw [hsp], ⟨_, ch2, lk2, ov2, by rw [hsp]; exact ⟨sg_Wad hw.1 lh1 hnr (Or.inr (Or.inl rfl)), yc_ad hw.2.1 c 1 n t st fn r, yr_sy hr3 _ _ _ _⟩⟩, ky_tr (ky_tr k2 k3) (ky_up (yw_y hw3) (by decide))⟩) dY_method_235 ⟨Nat.le_of_ble_eq_true rfl, Nat.le_of_ble_eq_true rfl⟩
        have loop : ∀ (u i : Nat) (H : Heap) (locs : List Loc) (ls : Array Slot), sg_nm σ < i + u → i ≤ sg_nm σ → (∀ m, m < i → ¬ (sg_mc σ m = c ∧ sg_kd σ m = 1 ∧ sg_mn σ m = n ∧ sg_ty σ m = t)) → mw_S G M1 s.heap H locs → lv_has ls 9 [(7, .int (nI i)), (0, .ref y), (1, .int (nI c)), (2, .int n), (3, .int t), (4, .int (mb_i st)), (5, .int (mb_i fn)), (6, .int r)] → W pg l en { frames := 4, cells := 0, slots := 0, locals := 160 } s mi [.ref y, .int o, .int n, .int t, .int (mb_i st), .int (mb_i fn), .int r].toArray below meth cd H locs 0 0 (MQ below (mw_Q G (py_ G y q (some (.int (sp_ad σ o 1 n t st fn r).1)) (sp_ad σ o 1 n t st fn r).2.2 (sp_ad σ o 1 n t st fn r).2.1 M)) [.ref y, .int o, .int n, .int t, .int (mb_i st), .int (mb_i fn), .int r].toArray s 0 0 (mw_A G)) (F0 mi 46 ls []) := by
          intro u
          induction u with
          | zero => intro i H locs ls h2 h3; omega
          | succ u ih =>
            intro i H locs ls hu hi hno hM hl
            refine lv_iload hx hb dY_method_46 (lv_at hl 0 rfl) ?_
            refine lv_aload_n hx hb dY_method_48 rfl (lv_at hl 1 rfl) ?_
            refine gf_Y_48 F hM (yw_y hw1) rfl dY_method_49 ?_
            refine lv_icmp_ge (tgt := 111) hx hb dY_method_52 (by decide) (fun h4 => ?_) (fun h4 => ?_)
            · have hik : i = sg_nm σ := by
                have := (nI_leI (by omega) (by omega)).mp h4
                omega
              subst hik
              have how : sg_ow σ c 1 n t = none := ow_none (fun m hm z => hno m hm ⟨z.1, z.2.1, z.2.2.1, z.2.2.2⟩)
              refine lv_iload hx hb dY_method_111 (lv_at hl 5 rfl) ?_
              refine lv_if_eq (tgt := 188) hx hb dY_method_113 (by decide) (fun h5 => ?_) (fun h5 => ?_)
              · have hst : st = false := mb_z h5
                refine lv_aload_n hx hb dY_method_188 rfl (lv_at hl 1 rfl) ?_
                refine lv_iload_n hx hb dY_method_189 rfl (lv_at hl 2 rfl) ?_
                refine lv_iload_n hx hb dY_method_190 rfl (lv_at hl 3 rfl) ?_
                refine lv_iload_n hx hb dY_method_191 rfl (lv_at hl 4 rfl) ?_
                refine lv_iload hx hb dY_method_192 (lv_at hl 7 rfl) ?_
                refine mw_Vg (As := [.int (nI c), .int n, .int t, .int r]) (rest := []) F (c_Y_goesAgainst hw1 lh1 n t r) kb_Y_goesAgainst ki_Y_goesAgainst ks_Y_goesAgainst kl_Y_87 hM (yw_y hw1) rfl rfl hl.1 rfl (Nat.le_of_ble_eq_true rfl) dY_method_194 ⟨⟨Nat.le_of_ble_eq_true rfl, Nat.le_of_ble_eq_true rfl⟩, Nat.le_of_ble_eq_true rfl, Nat.le_of_ble_eq_true rfl⟩ (fun M2 H locs hp hM => ?_)
                obtain ⟨ch2, lk2, ov2, hw2, kz, -⟩ := hp
                have k2 := ky_tr k1 kz
                refine lv_if_eq (tgt := 207) hx hb dY_method_197 (by decide) (fun h6 => ?_) (fun h6 => ?_)
                · exact tail M2 ch2 lk2 ov2 H locs ls hw2 k2 how (fun z => by rw [hst, mb_z h6] at z; exact absurd z.2 (by decide)) hM (lv_sub hl [1, 2, 3, 4, 5, 6, 7] rfl)
                · refine lv_aload_n hx hb dY_method_200 rfl (lv_at hl 1 rfl) ?_
                  refine lv_bipush (v := 8) hx hb dY_method_201 (by decide) ?_
                  refine mw_Vp (As := [.int 8]) (rest := []) F (c_Y_refuse hw2 8) kb_Y_refuse ki_Y_refuse ks_Y_refuse kl_Y_62 hM (yw_y hw2) rfl rfl hl.1 rfl (Nat.le_of_ble_eq_true rfl) dY_method_203 ⟨⟨Nat.le_of_ble_eq_true rfl, Nat.le_of_ble_eq_true rfl⟩, Nat.le_of_ble_eq_true rfl, Nat.le_of_ble_eq_true rfl⟩ ⟨rfl, rfl⟩ (fun H locs hM => ?_)
                  have hsp : sp_ad σ o 1 n t st fn r = (-1, 8, σ) := by rw [hspc, show sg_nr σ c 1 n t st r = 8 by unfold sg_nr; rw [if_neg h0, how, if_neg (by decide), if_pos ⟨rfl, by rw [hst]; exact mb_n h6⟩]]; exact if_neg (by decide)
                  exact mr_i F hr hM (⟨by rw [hsp], ⟨f, ch2, lk2, ov2, by rw [hsp]; exact yw_rf hw2 8 lk2⟩, ky_tr k2 (ky_up (yw_y hw2) (by decide))⟩) dY_method_206 ⟨Nat.le_of_ble_eq_true rfl, Nat.le_of_ble_eq_true rfl⟩
              · have hst : st = true := mb_n h5
                have up : ∀ (z : Nat) (o2 : Option Nat) (H : Heap) (locs : List Loc) (ls : Array Slot), (∀ d, o2 = some d → d < z ∧ d < sg_nc σ) → sg_fb σ c n t st r = fb_l σ c n t st r (ln_o (sg_pr σ) o2) → mw_S G M1 s.heap H locs → lv_has ls 9 [(7, .int (eo_i o2)), (0, .ref y), (1, .int (nI c)), (2, .int n), (3, .int t), (4, .int (mb_i st)), (5, .int (mb_i fn)), (6, .int r)] → W pg l en { frames := 4, cells := 0, slots := 0, locals := 160 } s mi [.ref y, .int o, .int n, .int t, .int (mb_i st), .int (mb_i fn), .int r].toArray below meth cd H locs 0 0 (MQ below (mw_Q G (py_ G y q (some (.int (sp_ad σ o 1 n t st fn r).1)) (sp_ad σ o 1 n t st fn r).2.2 (sp_ad σ o 1 n t st fn r).2.1 M)) [.ref y, .int o, .int n, .int t, .int (mb_i st), .int (mb_i fn), .int r].toArray s 0 0 (mw_A G)) (F0 mi 124 ls []) := by
                  intro z
                  induction z using Nat.strongRecOn with
                  | ind z ihz =>
                    intro o2 H locs ls hd hq hM hl
                    rcases o2 with _ | d
                    · have hl : lv_has ls 9 [(7, .int (-1)), (0, .ref y), (1, .int (nI c)), (2, .int n), (3, .int t), (4, .int (mb_i st)), (5, .int (mb_i fn)), (6, .int r)] := hl
                      refine lv_iload hx hb dY_method_124 (lv_at hl 0 rfl) ?_
                      refine lv_iconst (v := (-1)) hx hb dY_method_126 (by decide) ?_
                      refine lv_icmp_eq (tgt := 185) hx hb dY_method_127 (by decide) (fun h6 => ?_) (fun h6 => absurd rfl h6)
                      refine lv_goto (tgt := 207) hx hb dY_method_185 (by decide) ?_
                      exact tail M1 ch lk ov H locs ls hw1 k1 how (fun z => by rw [hq] at z; exact absurd (show (false : Bool) = true from z.2) (by decide)) hM (lv_sub hl [1, 2, 3, 4, 5, 6, 7] rfl)
                    · have hl : lv_has ls 9 [(7, .int (nI d)), (0, .ref y), (1, .int (nI c)), (2, .int n), (3, .int t), (4, .int (mb_i st)), (5, .int (mb_i fn)), (6, .int r)] := hl
                      obtain ⟨hd1, hd2⟩ := hd d rfl
                      have hln : ln_o (sg_pr σ) (some d) = d :: ln_o (sg_pr σ) (sg_pr σ d) := ln_e (fun z hz => yw_pr hw hd2 hz)
                      rw [hln] at hq
                      have hst2 : fb_l σ c n t st r (d :: ln_o (sg_pr σ) (sg_pr σ d)) = (fb_c σ c n t st r d || fb_l σ c n t st r (ln_o (sg_pr σ) (sg_pr σ d))) := rfl
                      rw [hst2] at hq
                      refine lv_iload hx hb dY_method_124 (lv_at hl 0 rfl) ?_
                      refine lv_iconst (v := (-1)) hx hb dY_method_126 (by decide) ?_
                      refine lv_icmp_eq (tgt := 185) hx hb dY_method_127 (by decide) (fun h6 => absurd h6 (nI_m1 (by omega))) (fun h6 => ?_)
                      have next : ∀ (H : Heap) (locs : List Loc) (ls : Array Slot), fb_c σ c n t st r d = false → mw_S G M1 s.heap H locs → lv_has ls 9 [(7, .int (nI d)), (0, .ref y), (1, .int (nI c)), (2, .int n), (3, .int t), (4, .int (mb_i st)), (5, .int (mb_i fn)), (6, .int r)] → W pg l en { frames := 4, cells := 0, slots := 0, locals := 160 } s mi [.ref y, .int o, .int n, .int t, .int (mb_i st), .int (mb_i fn), .int r].toArray below meth cd H locs 0 0 (MQ below (mw_Q G (py_ G y q (some (.int (sp_ad σ o 1 n t st fn r).1)) (sp_ad σ o 1 n t st fn r).2.2 (sp_ad σ o 1 n t st fn r).2.1 M)) [.ref y, .int o, .int n, .int t, .int (mb_i st), .int (mb_i fn), .int r].toArray s 0 0 (mw_A G)) (F0 mi 173 ls []) := by
                        intro H locs ls hk hM hl
                        refine lv_aload_n hx hb dY_method_173 rfl (lv_at hl 1 rfl) ?_
                        refine gf_Y_7 F hM (yw_y hw1) rfl dY_method_174 ?_
                        refine lv_iload hx hb dY_method_177 (lv_at hl 0 rfl) ?_
                        refine mw_ild F hM (yw_0 hw1) (vp_in_nI (by omega) (by omega)) dY_method_179 ?_
                        refine mv_i (y := (eo_i (sg_pr σ d))) (by rw [nI_clamp (by omega)]; exact yv_0 hw1 hd2) ?_
                        refine lv_istore (lv' := [(7, .int (eo_i (sg_pr σ d))), (0, .ref y), (1, .int (nI c)), (2, .int n), (3, .int t), (4, .int (mb_i st)), (5, .int (mb_i fn)), (6, .int r)]) hx hb dY_method_180 hl (by decide) rfl (fun ls hl => ?_)
                        refine lv_goto (tgt := 124) hx hb dY_method_182 (by decide) ?_
                        exact ihz d hd1 (sg_pr σ d) H locs ls (fun z hz => ⟨yw_pr hw hd2 hz, Nat.lt_trans (yw_pr hw hd2 hz) hd2⟩) (by rw [hq, hk]; rfl) hM (lv_sub hl [0, 1, 2, 3, 4, 5, 6, 7] rfl)
                      have hfc : fb_c σ c n t st r d = match sg_oo σ d n t with | none => false | some m => decide (¬ sg_rg σ m = 0) && (if st then sg_rc σ c m else (sg_fn σ m || decide (r < sg_rg σ m)) && ov_r σ c n t r m) := rfl
                      refine lv_aload_n hx hb dY_method_130 rfl (lv_at hl 1 rfl) ?_
                      refine lv_iload hx hb dY_method_131 (lv_at hl 0 rfl) ?_
                      refine lv_iload_n hx hb dY_method_133 rfl (lv_at hl 3 rfl) ?_
                      refine lv_iload_n hx hb dY_method_134 rfl (lv_at hl 4 rfl) ?_
                      refine mw_Vp (As := [.int (nI d), .int n, .int t]) (rest := []) F (c_Y_ownIn hw1 hd2 n t) kb_Y_ownIn ki_Y_ownIn ks_Y_ownIn kl_Y_80 hM (yw_y hw1) rfl rfl hl.1 rfl (Nat.le_of_ble_eq_true rfl) dY_method_135 ⟨⟨Nat.le_of_ble_eq_true rfl, Nat.le_of_ble_eq_true rfl⟩, Nat.le_of_ble_eq_true rfl, Nat.le_of_ble_eq_true rfl⟩ ⟨rfl, rfl⟩ (fun H locs hM => ?_)
                      rcases ho : sg_oo σ d n t with _ | x
                      · refine lv_istore (lv' := [(8, .int (-1)), (7, .int (nI d)), (0, .ref y), (1, .int (nI c)), (2, .int n), (3, .int t), (4, .int (mb_i st)), (5, .int (mb_i fn)), (6, .int r)]) hx hb dY_method_138 hl (by decide) rfl (fun ls hl => ?_)
                        refine lv_iload hx hb dY_method_140 (lv_at hl 0 rfl) ?_
                        refine lv_iconst (v := (-1)) hx hb dY_method_142 (by decide) ?_
                        refine lv_icmp_eq (tgt := 173) hx hb dY_method_143 (by decide) (fun h7 => ?_) (fun h7 => absurd rfl h7)
                        exact next H locs ls (by rw [hfc, ho]) hM (lv_sub hl [1, 2, 3, 4, 5, 6, 7, 8] rfl)
                      · have hx2 := (oo_some ho).1
                        rw [ho] at hfc
                        dsimp only at hfc
                        refine lv_istore (lv' := [(8, .int (nI x)), (7, .int (nI d)), (0, .ref y), (1, .int (nI c)), (2, .int n), (3, .int t), (4, .int (mb_i st)), (5, .int (mb_i fn)), (6, .int r)]) hx hb dY_method_138 hl (by decide) rfl (fun ls hl => ?_)
                        refine lv_iload hx hb dY_method_140 (lv_at hl 0 rfl) ?_
                        refine lv_iconst (v := (-1)) hx hb dY_method_142 (by decide) ?_
                        refine lv_icmp_eq (tgt := 173) hx hb dY_method_143 (by decide) (fun h7 => absurd h7 (nI_m1 (by omega))) (fun h7 => ?_)
                        refine lv_aload_n hx hb dY_method_146 rfl (lv_at hl 2 rfl) ?_
                        refine gf_Y_22 F hM (yw_y hw1) rfl dY_method_147 ?_
                        refine lv_iload hx hb dY_method_150 (lv_at hl 0 rfl) ?_
                        refine mw_ild F hM (yw_4 hw1) (vp_in_nI (by omega) (by omega)) dY_method_152 ?_
                        refine mv_i (y := (sg_rg σ x)) (by rw [nI_clamp (by omega)]; exact yv_4 hw1 hx2) ?_
                        refine lv_if_eq (tgt := 173) hx hb dY_method_153 (by decide) (fun h8 => ?_) (fun h8 => ?_)
                        · exact next H locs ls (by rw [hfc]; simp [h8]) hM (lv_sub hl [1, 2, 3, 4, 5, 6, 7, 8] rfl)
                        · refine lv_aload_n hx hb dY_method_156 rfl (lv_at hl 2 rfl) ?_
                          refine lv_iload_n hx hb dY_method_157 rfl (lv_at hl 3 rfl) ?_
                          refine lv_iload hx hb dY_method_158 (lv_at hl 0 rfl) ?_
                          refine mw_Vp (As := [.int (nI c), .int (nI x)]) (rest := []) F (c_Y_doesReach hw1 lh1 hx2) kb_Y_doesReach ki_Y_doesReach ks_Y_doesReach kl_Y_84 hM (yw_y hw1) rfl rfl hl.1 rfl (Nat.le_of_ble_eq_true rfl) dY_method_160 ⟨⟨Nat.le_of_ble_eq_true rfl, Nat.le_of_ble_eq_true rfl⟩, Nat.le_of_ble_eq_true rfl, Nat.le_of_ble_eq_true rfl⟩ ⟨rfl, rfl⟩ (fun H locs hM => ?_)
                          refine lv_if_eq (tgt := 173) hx hb dY_method_163 (by decide) (fun h9 => ?_) (fun h9 => ?_)
                          · exact next H locs ls (by rw [hfc, hst, mb_z h9]; simp) hM (lv_sub hl [1, 2, 3, 4, 5, 6, 7, 8] rfl)
                          · refine lv_aload_n hx hb dY_method_166 rfl (lv_at hl 2 rfl) ?_
                            refine lv_bipush (v := 8) hx hb dY_method_167 (by decide) ?_
                            refine mw_Vp (As := [.int 8]) (rest := []) F (c_Y_refuse hw1 8) kb_Y_refuse ki_Y_refuse ks_Y_refuse kl_Y_62 hM (yw_y hw1) rfl rfl hl.1 rfl (Nat.le_of_ble_eq_true rfl) dY_method_169 ⟨⟨Nat.le_of_ble_eq_true rfl, Nat.le_of_ble_eq_true rfl⟩, Nat.le_of_ble_eq_true rfl, Nat.le_of_ble_eq_true rfl⟩ ⟨rfl, rfl⟩ (fun H locs hM => ?_)
                            have hsp : sp_ad σ o 1 n t st fn r = (-1, 8, σ) := by rw [hspc, show sg_nr σ c 1 n t st r = 8 by unfold sg_nr; rw [if_neg h0, how, if_neg (by decide), if_pos ⟨rfl, by rw [hq, hfc, hst, mb_n h9]; simp [h8]⟩]]; exact if_neg (by decide)
                            exact mr_i F hr hM (⟨by rw [hsp], ⟨f, ch, lk, ov, by rw [hsp]; exact yw_rf hw1 8 lk⟩, ky_tr k1 (ky_up (yw_y hw1) (by decide))⟩) dY_method_172 ⟨Nat.le_of_ble_eq_true rfl, Nat.le_of_ble_eq_true rfl⟩
                refine lv_aload_n hx hb dY_method_116 rfl (lv_at hl 1 rfl) ?_
                refine gf_Y_7 F hM (yw_y hw1) rfl dY_method_117 ?_
                refine lv_iload_n hx hb dY_method_120 rfl (lv_at hl 2 rfl) ?_
                refine mw_ild F hM (yw_0 hw1) (vp_in_nI (by omega) (by omega)) dY_method_121 ?_
                refine mv_i (y := (eo_i (sg_pr σ c))) (by rw [nI_clamp (by omega)]; exact yv_0 hw1 lh1) ?_
                refine lv_istore (lv' := [(7, .int (eo_i (sg_pr σ c))), (0, .ref y), (1, .int (nI c)), (2, .int n), (3, .int t), (4, .int (mb_i st)), (5, .int (mb_i fn)), (6, .int r)]) hx hb dY_method_122 hl (by decide) rfl (fun ls hl => ?_)
                exact up c (sg_pr σ c) _ _ ls (fun z hz => ⟨yw_pr hw lh1 hz, Nat.lt_trans (yw_pr hw lh1 hz) lh1⟩) rfl hM (lv_sub hl [0, 1, 2, 3, 4, 5, 6, 7] rfl)
            · have hik : i < sg_nm σ := by
                rcases Nat.lt_or_ge i (sg_nm σ) with z | z
                · exact z
                · exact absurd (nI_le z (by omega)) h4
              have hmi := yw_mc hw hik
              have next : ∀ (H : Heap) (locs : List Loc) (ls : Array Slot), ¬ (sg_mc σ i = c ∧ sg_kd σ i = 1 ∧ sg_mn σ i = n ∧ sg_ty σ i = t) → mw_S G M1 s.heap H locs → lv_has ls 9 [(7, .int (nI i)), (0, .ref y), (1, .int (nI c)), (2, .int n), (3, .int t), (4, .int (mb_i st)), (5, .int (mb_i fn)), (6, .int r)] → W pg l en { frames := 4, cells := 0, slots := 0, locals := 160 } s mi [.ref y, .int o, .int n, .int t, .int (mb_i st), .int (mb_i fn), .int r].toArray below meth cd H locs 0 0 (MQ below (mw_Q G (py_ G y q (some (.int (sp_ad σ o 1 n t st fn r).1)) (sp_ad σ o 1 n t st fn r).2.2 (sp_ad σ o 1 n t st fn r).2.1 M)) [.ref y, .int o, .int n, .int t, .int (mb_i st), .int (mb_i fn), .int r].toArray s 0 0 (mw_A G)) (F0 mi 105 ls []) := by
                intro H locs ls hk hM hl
                refine lv_iinc (v := nI (i + 1)) (lv' := [(7, .int (nI (i + 1))), (0, .ref y), (1, .int (nI c)), (2, .int n), (3, .int t), (4, .int (mb_i st)), (5, .int (mb_i fn)), (6, .int r)]) hx hb dY_method_105 hl (k := 0) rfl (ii_1 i) (by decide) rfl (fun ls hl => ?_)
                refine lv_goto (tgt := 46) hx hb dY_method_108 (by decide) ?_
                exact ih (i + 1) H locs ls (by omega) (by omega) (fun m hm => by
                  by_cases hmi2 : m = i
                  · rw [hmi2]; exact hk
                  · exact hno m (by omega)) hM (lv_sub hl [0, 1, 2, 3, 4, 5, 6, 7] rfl)
              refine lv_aload_n hx hb dY_method_55 rfl (lv_at hl 1 rfl) ?_
              refine gf_Y_16 F hM (yw_y hw1) rfl dY_method_56 ?_
              refine lv_iload hx hb dY_method_59 (lv_at hl 0 rfl) ?_
              refine mw_ild F hM (yw_2 hw1) (vp_in_nI (by omega) (by omega)) dY_method_61 ?_
              refine mv_i (y := (nI (sg_mc σ i))) (by rw [nI_clamp (by omega)]; exact yv_2 hw1 hik) ?_
              refine lv_iload_n hx hb dY_method_62 rfl (lv_at hl 2 rfl) ?_
              refine lv_icmp_ne (tgt := 105) hx hb dY_method_63 (by decide) (fun g0 => ?_) (fun g0 => ?_)
              · exact next H locs ls (fun z => g0 (by rw [z.1])) hM (lv_sub hl [0, 1, 2, 3, 4, 5, 6, 7] rfl)
              · have g0 : sg_mc σ i = c := (nI_eq (by omega) (by omega)).mp g0
                refine lv_aload_n hx hb dY_method_66 rfl (lv_at hl 1 rfl) ?_
                refine gf_Y_25 F hM (yw_y hw1) rfl dY_method_67 ?_
                refine lv_iload hx hb dY_method_70 (lv_at hl 0 rfl) ?_
                refine mw_ild F hM (yw_5 hw1) (vp_in_nI (by omega) (by omega)) dY_method_72 ?_
                refine mv_i (y := (sg_kd σ i)) (by rw [nI_clamp (by omega)]; exact yv_5 hw1 hik) ?_
                refine lv_iconst (v := 1) hx hb dY_method_73 (by decide) ?_
                refine lv_icmp_ne (tgt := 105) hx hb dY_method_74 (by decide) (fun g1 => ?_) (fun g1 => ?_)
                · exact next H locs ls (fun z => g1 z.2.1) hM (lv_sub hl [0, 1, 2, 3, 4, 5, 6, 7] rfl)
                · refine lv_aload_n hx hb dY_method_77 rfl (lv_at hl 1 rfl) ?_
                  refine gf_Y_19 F hM (yw_y hw1) rfl dY_method_78 ?_
                  refine lv_iload hx hb dY_method_81 (lv_at hl 0 rfl) ?_
                  refine mw_ild F hM (yw_3 hw1) (vp_in_nI (by omega) (by omega)) dY_method_83 ?_
                  refine mv_i (y := (sg_mn σ i)) (by rw [nI_clamp (by omega)]; exact yv_3 hw1 hik) ?_
                  refine lv_iload_n hx hb dY_method_84 rfl (lv_at hl 3 rfl) ?_
                  refine lv_icmp_ne (tgt := 105) hx hb dY_method_85 (by decide) (fun g2 => ?_) (fun g2 => ?_)
                  · exact next H locs ls (fun z => g2 z.2.2.1) hM (lv_sub hl [0, 1, 2, 3, 4, 5, 6, 7] rfl)
                  · refine lv_aload_n hx hb dY_method_88 rfl (lv_at hl 1 rfl) ?_
                    refine gf_Y_28 F hM (yw_y hw1) rfl dY_method_89 ?_
                    refine lv_iload hx hb dY_method_92 (lv_at hl 0 rfl) ?_
                    refine mw_ild F hM (yw_6 hw1) (vp_in_nI (by omega) (by omega)) dY_method_94 ?_
                    refine mv_i (y := (sg_ty σ i)) (by rw [nI_clamp (by omega)]; exact yv_6 hw1 hik) ?_
                    refine lv_iload_n hx hb dY_method_95 rfl (lv_at hl 4 rfl) ?_
                    refine lv_icmp_ne (tgt := 105) hx hb dY_method_96 (by decide) (fun g3 => ?_) (fun g3 => ?_)
                    · exact next H locs ls (fun z => g3 z.2.2.2) hM (lv_sub hl [0, 1, 2, 3, 4, 5, 6, 7] rfl)
                    · have how := ow_is hw.1 hik g0 g1 g2 g3
                      refine lv_aload_n hx hb dY_method_99 rfl (lv_at hl 1 rfl) ?_
                      refine lv_iconst (v := 4) hx hb dY_method_100 (by decide) ?_
                      refine mw_Vp (As := [.int 4]) (rest := []) F (c_Y_refuse hw1 4) kb_Y_refuse ki_Y_refuse ks_Y_refuse kl_Y_62 hM (yw_y hw1) rfl rfl hl.1 rfl (Nat.le_of_ble_eq_true rfl) dY_method_101 ⟨⟨Nat.le_of_ble_eq_true rfl, Nat.le_of_ble_eq_true rfl⟩, Nat.le_of_ble_eq_true rfl, Nat.le_of_ble_eq_true rfl⟩ ⟨rfl, rfl⟩ (fun H locs hM => ?_)
                      have hsp : sp_ad σ o 1 n t st fn r = (-1, 4, σ) := by rw [hspc, show sg_nr σ c 1 n t st r = 4 by unfold sg_nr; rw [if_neg h0, how]; rfl]; exact if_neg (by decide)
                      exact mr_i F hr hM (⟨by rw [hsp], ⟨f, ch, lk, ov, by rw [hsp]; exact yw_rf hw1 4 lk⟩, ky_tr k1 (ky_up (yw_y hw1) (by decide))⟩) dY_method_104 ⟨Nat.le_of_ble_eq_true rfl, Nat.le_of_ble_eq_true rfl⟩
        refine lv_iconst (v := 0) hx hb dY_method_43 (by decide) ?_
        refine lv_istore (lv' := [(7, .int 0), (0, .ref y), (1, .int (nI c)), (2, .int n), (3, .int t), (4, .int (mb_i st)), (5, .int (mb_i fn)), (6, .int r)]) hx hb dY_method_44 hl (by decide) rfl (fun ls hl => ?_)
        exact loop (sg_nm σ + 1) 0 _ _ ls (by omega) (Nat.zero_le _) (fun m hm => absurd hm (Nat.not_lt_zero m)) hM (lv_sub hl [0, 1, 2, 3, 4, 5, 6, 7] rfl)
      · refine lv_aload_n hx hb dY_method_37 rfl (lv_at hl 0 rfl) ?_
        refine lv_iconst (v := 2) hx hb dY_method_38 (by decide) ?_
        refine mw_Vp (As := [.int 2]) (rest := []) F (c_Y_refuse hw1 2) kb_Y_refuse ki_Y_refuse ks_Y_refuse kl_Y_62 hM (yw_y hw1) rfl rfl hl.1 rfl (Nat.le_of_ble_eq_true rfl) dY_method_39 ⟨⟨Nat.le_of_ble_eq_true rfl, Nat.le_of_ble_eq_true rfl⟩, Nat.le_of_ble_eq_true rfl, Nat.le_of_ble_eq_true rfl⟩ ⟨rfl, rfl⟩ (fun H locs hM => ?_)
        have hsp : sp_ad σ o 1 n t st fn r = (-1, 2, σ) := by rw [hspc, show sg_nr σ c 1 n t st r = 2 by unfold sg_nr; rw [if_pos (Or.inr (Or.inr (of_decide_eq_true (mb_n h3))))]]; exact if_neg (by decide)
        exact mr_i F hr hM (⟨by rw [hsp], ⟨f, ch, lk, ov, by rw [hsp]; exact yw_rf hw1 2 lk⟩, ky_tr k1 (ky_up (yw_y hw1) (by decide))⟩) dY_method_42 ⟨Nat.le_of_ble_eq_true rfl, Nat.le_of_ble_eq_true rfl⟩
  · have h1 : ix_o o (sg_nc σ) = none := by
      cases e : ix_o o (sg_nc σ) with
      | none => rfl
      | some i => rw [e] at h1; exact absurd (mb_z h1) (by simp)
    refine lv_aload_n hx hb dY_method_13 rfl (lv_at hl 0 rfl) ?_
    refine lv_iconst (v := 1) hx hb dY_method_14 (by decide) ?_
    refine mw_Vp (As := [.int 1]) (rest := []) F (c_Y_refuse hw1 1) kb_Y_refuse ki_Y_refuse ks_Y_refuse kl_Y_62 hM (yw_y hw1) rfl rfl hl.1 rfl (Nat.le_of_ble_eq_true rfl) dY_method_15 ⟨⟨Nat.le_of_ble_eq_true rfl, Nat.le_of_ble_eq_true rfl⟩, Nat.le_of_ble_eq_true rfl, Nat.le_of_ble_eq_true rfl⟩ ⟨rfl, rfl⟩ (fun H locs hM => ?_)
    have hsp : sp_ad σ o 1 n t st fn r = (-1, 1, σ) := by unfold sp_ad; rw [h1]
    exact mr_i F hr hM (⟨by rw [hsp], ⟨f, ch, lk, ov, by rw [hsp]; exact yw_rf hw1 1 lk⟩, ky_tr k1 (ky_up (yw_y hw1) (by decide))⟩) dY_method_18 ⟨Nat.le_of_ble_eq_true rfl, Nat.le_of_ble_eq_true rfl⟩
end GC
