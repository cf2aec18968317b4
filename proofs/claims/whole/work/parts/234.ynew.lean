section GC
variable {l : Launch} {G : mw_G} {M : mw_M} {y : Nat} {q : Nat → Nat} {σ : sg_T} {rf : Int32} {f : Nat → Nat → Int32} {ch : Nat → Int32} {lk : Int32} {ov : Nat → Int32}
set_option maxHeartbeats 4000000 in
set_option maxRecDepth 100000 in
theorem c_Y_newClass (hw : yw_ G M y q σ rf f ch lk ov) (v k : Int32) : mw_C l G yY_newClass bY_newClass 3 (some .int) { frames := 1, cells := 0, slots := 0, locals := 40 } M [.ref y, .int v, .int k] (py_ G y q (some (.int (sp_nc σ v k).1)) (sp_nc σ v k).2 rf M) := by
  refine mw_of (by decide) (Nat.le_of_ble_eq_true rfl) ?_
  intro pg en s mi below meth cd F hr _ hM ls hl
  obtain ⟨hx, hb, -⟩ := id F
  have hl : lv_has ls 3 [(0, .ref y), (1, .int v), (2, .int k)] := hl
  have hnc := yw_nc hw
  have hnm := yw_nm hw
  refine lv_aload_n hx hb dY_newClass_0 rfl (lv_at hl 0 rfl) ?_
  refine gf_Y_44 F hM (yw_y hw) rfl dY_newClass_1 ?_
  refine lv_bipush (v := 40) hx hb dY_newClass_4 (by decide) ?_
  refine lv_icmp_eq (tgt := 22) hx hb dY_newClass_6 (by decide) (fun h1 => ?_) (fun h1 => ?_)
  · have hsp : sp_nc σ v k = (-1, σ) := by unfold sp_nc; rw [if_pos (by have := (nI_eq (b := 40) (by omega) (by omega)).mp h1; omega)]
    refine lv_iconst (v := (-1)) hx hb dY_newClass_22 (by decide) ?_
    exact mr_i F hr hM (⟨by rw [hsp], ⟨f, ch, lk, ov, by rw [hsp]; exact hw⟩, ky_rf⟩) dY_newClass_23 ⟨Nat.le_of_ble_eq_true rfl, Nat.le_of_ble_eq_true rfl⟩
  · have hlt : sg_nc σ < 40 := by
      have h9 : ¬ sg_nc σ = 40 := fun z => h1 (by rw [z]; rfl)
      omega
    have make : ∀ (o : Option Nat) (H : Heap) (locs : List Loc) (ls : Array Slot), v = eo_i o → (∀ p, o = some p → p < sg_nc σ) → sp_nc σ v k = (nI (sg_nc σ), sg_nw σ o k) → mw_S G M s.heap H locs → lv_has ls 3 [(0, .ref y), (1, .int v), (2, .int k)] → W pg l en { frames := 1, cells := 0, slots := 0, locals := 40 } s mi [.ref y, .int v, .int k].toArray below meth cd H locs 0 0 (MQ below (mw_Q G (py_ G y q (some (.int (sp_nc σ v k).1)) (sp_nc σ v k).2 rf M)) [.ref y, .int v, .int k].toArray s 0 0 (mw_A G)) (F0 mi 24 ls []) := by
      intro o H locs ls hv ho hsp hM hl
      have hr0 := hw.2.2
      refine lv_aload_n hx hb dY_newClass_24 rfl (lv_at hl 0 rfl) ?_
      refine gf_Y_7 F hM (yr_y hr0) rfl dY_newClass_25 ?_
      refine lv_aload_n hx hb dY_newClass_28 rfl (lv_at hl 0 rfl) ?_
      refine gf_Y_44 F hM (yr_y hr0) rfl dY_newClass_29 ?_
      refine lv_iload_n hx hb dY_newClass_32 rfl (lv_at hl 1 rfl) ?_
      refine mw_ist F hM (yr_0 hr0) (vp_in_nI (by omega) (by omega)) dY_newClass_33 (fun H locs hM => ?_)
      rw [nI_clamp (show sg_nc σ < 2 ^ 31 by omega)] at hM
      have hr1 := yr_s0 hr0 (upd (f 0) (sg_nc σ) v)
      have k1 : ky_ M (mw_up M (q 0) ((11, 0), aI_ G 40 (upd (f 0) (sg_nc σ) v))) := ky_up (yr_0 hr0) (by decide)
      have hM : mw_S G (mw_up M (q 0) ((11, 0), aI_ G 40 (upd (f 0) (sg_nc σ) v))) s.heap H locs := hM
      generalize mw_up M (q 0) ((11, 0), aI_ G 40 (upd (f 0) (sg_nc σ) v)) = M1 at hM hr1 k1
      refine lv_aload_n hx hb dY_newClass_34 rfl (lv_at hl 0 rfl) ?_
      refine gf_Y_13 F hM (yr_y hr1) rfl dY_newClass_35 ?_
      refine lv_aload_n hx hb dY_newClass_38 rfl (lv_at hl 0 rfl) ?_
      refine gf_Y_44 F hM (yr_y hr1) rfl dY_newClass_39 ?_
      refine lv_iload_n hx hb dY_newClass_42 rfl (lv_at hl 2 rfl) ?_
      refine mw_ist F hM (yr_1 hr1) (vp_in_nI (by omega) (by omega)) dY_newClass_43 (fun H locs hM => ?_)
      rw [nI_clamp (show sg_nc σ < 2 ^ 31 by omega)] at hM
      have hr2 := yr_s1 hr1 (upd (f 1) (sg_nc σ) k)
      have k2 : ky_ M1 (mw_up M1 (q 1) ((12, 0), aI_ G 40 (upd (f 1) (sg_nc σ) k))) := ky_up (yr_1 hr1) (by decide)
      have hM : mw_S G (mw_up M1 (q 1) ((12, 0), aI_ G 40 (upd (f 1) (sg_nc σ) k))) s.heap H locs := hM
      generalize mw_up M1 (q 1) ((12, 0), aI_ G 40 (upd (f 1) (sg_nc σ) k)) = M2 at hM hr2 k2
      refine lv_aload_n hx hb dY_newClass_44 rfl (lv_at hl 0 rfl) ?_
      refine lv_dup hx hb dY_newClass_45 rfl ?_
      refine gf_Y_44 F hM (yr_y hr2) rfl dY_newClass_46 ?_
      refine lv_iconst (v := 1) hx hb dY_newClass_49 (by decide) ?_
      refine lv_iadd hx hb dY_newClass_50 ?_
      refine mv_i (y := nI (sg_nc σ + 1)) (nI_1 (sg_nc σ)) ?_
      refine pf_Y_44 F hM (yr_y hr2) (Nat.le_of_ble_eq_true rfl) dY_newClass_51 (fun H locs hM => ?_)
      have hM : mw_S G (mw_up M2 y ((10, 0), .inr (ciY, [.ref (q 0), .ref (q 1), .int (nI (sg_nc σ + 1)), .ref (q 2), .ref (q 3), .ref (q 4), .ref (q 5), .ref (q 6), .ref (q 7), .ref (q 8), .int (nI (sg_nm σ)), .int rf, .ref (q 9), .int lk, .ref (q 10)]))) s.heap H locs := hM
      refine lv_aload_n hx hb dY_newClass_54 rfl (lv_at hl 0 rfl) ?_
      refine gf_Y_44 F hM mw_at rfl dY_newClass_55 ?_
      refine lv_iconst (v := 1) hx hb dY_newClass_58 (by decide) ?_
      refine lv_isub hx hb dY_newClass_59 ?_
      refine mv_i (y := nI (sg_nc σ)) (nI_pred (sg_nc σ)) ?_
      have hrf := yr_sy hr2 (nI (sg_nc σ + 1)) (nI (sg_nm σ)) rf lk
      rw [hv] at hrf
      exact mr_i F hr hM (⟨by rw [hsp], ⟨_, ch, lk, ov, by rw [hsp]; exact ⟨sg_Wnw hw.1 hlt ho k, yc_nw hw.2.1 o k, hrf⟩⟩, ky_tr (ky_tr k1 k2) (ky_up (yr_y hr2) (by decide))⟩) dY_newClass_60 ⟨Nat.le_of_ble_eq_true rfl, Nat.le_of_ble_eq_true rfl⟩
    refine lv_iload_n hx hb dY_newClass_9 rfl (lv_at hl 1 rfl) ?_
    refine lv_iconst (v := (-1)) hx hb dY_newClass_10 (by decide) ?_
    refine lv_icmp_eq (tgt := 24) hx hb dY_newClass_11 (by decide) (fun h2 => ?_) (fun h2 => ?_)
    · exact make none _ _ ls h2 (fun p hp => by cases hp) (by unfold sp_nc; rw [if_neg (by omega), if_pos h2]) hM hl
    · refine lv_aload_n hx hb dY_newClass_14 rfl (lv_at hl 0 rfl) ?_
      refine lv_iload_n hx hb dY_newClass_15 rfl (lv_at hl 1 rfl) ?_
      refine mw_Vp (As := [.int v]) (rest := []) F (c_Y_isClass hw v) kb_Y_isClass ki_Y_isClass ks_Y_isClass kl_Y_54 hM (yw_y hw) rfl rfl hl.1 rfl (Nat.le_of_ble_eq_true rfl) dY_newClass_16 ⟨⟨Nat.le_of_ble_eq_true rfl, Nat.le_of_ble_eq_true rfl⟩, Nat.le_of_ble_eq_true rfl, Nat.le_of_ble_eq_true rfl⟩ ⟨rfl, rfl⟩ (fun H locs hM => ?_)
      refine lv_if_ne (tgt := 24) hx hb dY_newClass_19 (by decide) (fun h3 => ?_) (fun h3 => ?_)
      · obtain ⟨i, h3⟩ : ∃ i, ix_o v (sg_nc σ) = some i := by
          cases e : ix_o v (sg_nc σ) with
          | none => rw [e] at h3; exact absurd (mb_n h3) (by decide)
          | some i => exact ⟨i, rfl⟩
        obtain ⟨lh3, vh3⟩ := ix_some (by omega) h3
        exact make (some i) _ _ ls vh3 (fun p hp => by cases hp; exact lh3) (by unfold sp_nc; rw [if_neg (by omega), if_neg h2, h3]) hM hl
      · have h3 : ix_o v (sg_nc σ) = none := by
          cases e : ix_o v (sg_nc σ) with
          | none => rfl
          | some i => rw [e] at h3; exact absurd (mb_z h3) (by simp)
        have hsp : sp_nc σ v k = (-1, σ) := by unfold sp_nc; rw [if_neg (by omega), if_neg h2, h3]
        refine lv_iconst (v := (-1)) hx hb dY_newClass_22 (by decide) ?_
        exact mr_i F hr hM (⟨by rw [hsp], ⟨f, ch, lk, ov, by rw [hsp]; exact hw⟩, ky_rf⟩) dY_newClass_23 ⟨Nat.le_of_ble_eq_true rfl, Nat.le_of_ble_eq_true rfl⟩
set_option maxHeartbeats 4000000 in
set_option maxRecDepth 100000 in
theorem c_Y_tell (hw : yw_ G M y q σ rf f ch lk ov) (hlt : sg_nm σ < 200) (c : Nat) (k n t : Int32) (st fn : Bool) (r : Int32) : mw_C l G yY_tell bY_tell 8 none { frames := 0, cells := 0, slots := 0, locals := 0 } M [.ref y, .int (nI c), .int n, .int k, .int t, .int (mb_i st), .int (mb_i fn), .int r] (fun v M' => v = none ∧ yr_ G M' y q (nI (sg_nc σ)) (nI (sg_nm σ)) rf (yt_f σ f c k n t st fn r) ch lk ov ∧ ky_ M M') := by
  refine mw_of (by decide) (Nat.le_of_ble_eq_true rfl) ?_
  intro pg en s mi below meth cd F hr _ hM ls hl
  obtain ⟨hx, hb, -⟩ := id F
  have hl : lv_has ls 8 [(0, .ref y), (1, .int (nI c)), (2, .int n), (3, .int k), (4, .int t), (5, .int (mb_i st)), (6, .int (mb_i fn)), (7, .int r)] := hl
  have hnc := yw_nc hw
  have hnm := yw_nm hw
  have hr0 := hw.2.2
  refine lv_aload_n hx hb dY_tell_0 rfl (lv_at hl 0 rfl) ?_
  refine gf_Y_16 F hM (yr_y hr0) rfl dY_tell_1 ?_
  refine lv_aload_n hx hb dY_tell_4 rfl (lv_at hl 0 rfl) ?_
  refine gf_Y_48 F hM (yr_y hr0) rfl dY_tell_5 ?_
  refine lv_iload_n hx hb dY_tell_8 rfl (lv_at hl 1 rfl) ?_
  refine mw_ist F hM (yr_2 hr0) (vp_in_nI (by omega) (by omega)) dY_tell_9 (fun H locs hM => ?_)
  rw [nI_clamp (show sg_nm σ < 2 ^ 31 by omega)] at hM
  have hr1 := yr_s2 hr0 (upd (f 2) (sg_nm σ) (nI c))
  have k1 : ky_ M (mw_up M (q 2) ((13, 0), aI_ G 200 (upd (f 2) (sg_nm σ) (nI c)))) := ky_up (yr_2 hr0) (by decide)
  have hM : mw_S G (mw_up M (q 2) ((13, 0), aI_ G 200 (upd (f 2) (sg_nm σ) (nI c)))) s.heap H locs := hM
  generalize mw_up M (q 2) ((13, 0), aI_ G 200 (upd (f 2) (sg_nm σ) (nI c))) = M1 at hM hr1 k1
  refine lv_aload_n hx hb dY_tell_10 rfl (lv_at hl 0 rfl) ?_
  refine gf_Y_19 F hM (yr_y hr1) rfl dY_tell_11 ?_
  refine lv_aload_n hx hb dY_tell_14 rfl (lv_at hl 0 rfl) ?_
  refine gf_Y_48 F hM (yr_y hr1) rfl dY_tell_15 ?_
  refine lv_iload_n hx hb dY_tell_18 rfl (lv_at hl 2 rfl) ?_
  refine mw_ist F hM (yr_3 hr1) (vp_in_nI (by omega) (by omega)) dY_tell_19 (fun H locs hM => ?_)
  rw [nI_clamp (show sg_nm σ < 2 ^ 31 by omega)] at hM
  have hr2 := yr_s3 hr1 (upd (f 3) (sg_nm σ) n)
  have k2 : ky_ M1 (mw_up M1 (q 3) ((14, 0), aI_ G 200 (upd (f 3) (sg_nm σ) n))) := ky_up (yr_3 hr1) (by decide)
  have hM : mw_S G (mw_up M1 (q 3) ((14, 0), aI_ G 200 (upd (f 3) (sg_nm σ) n))) s.heap H locs := hM
  generalize mw_up M1 (q 3) ((14, 0), aI_ G 200 (upd (f 3) (sg_nm σ) n)) = M2 at hM hr2 k2
  refine lv_aload_n hx hb dY_tell_20 rfl (lv_at hl 0 rfl) ?_
  refine gf_Y_25 F hM (yr_y hr2) rfl dY_tell_21 ?_
  refine lv_aload_n hx hb dY_tell_24 rfl (lv_at hl 0 rfl) ?_
  refine gf_Y_48 F hM (yr_y hr2) rfl dY_tell_25 ?_
  refine lv_iload_n hx hb dY_tell_28 rfl (lv_at hl 3 rfl) ?_
  refine mw_ist F hM (yr_5 hr2) (vp_in_nI (by omega) (by omega)) dY_tell_29 (fun H locs hM => ?_)
  rw [nI_clamp (show sg_nm σ < 2 ^ 31 by omega)] at hM
  have hr3 := yr_s5 hr2 (upd (f 5) (sg_nm σ) k)
  have k3 : ky_ M2 (mw_up M2 (q 5) ((16, 0), aI_ G 200 (upd (f 5) (sg_nm σ) k))) := ky_up (yr_5 hr2) (by decide)
  have hM : mw_S G (mw_up M2 (q 5) ((16, 0), aI_ G 200 (upd (f 5) (sg_nm σ) k))) s.heap H locs := hM
  generalize mw_up M2 (q 5) ((16, 0), aI_ G 200 (upd (f 5) (sg_nm σ) k)) = M3 at hM hr3 k3
  refine lv_aload_n hx hb dY_tell_30 rfl (lv_at hl 0 rfl) ?_
  refine gf_Y_28 F hM (yr_y hr3) rfl dY_tell_31 ?_
  refine lv_aload_n hx hb dY_tell_34 rfl (lv_at hl 0 rfl) ?_
  refine gf_Y_48 F hM (yr_y hr3) rfl dY_tell_35 ?_
  refine lv_iload hx hb dY_tell_38 (lv_at hl 4 rfl) ?_
  refine mw_ist F hM (yr_6 hr3) (vp_in_nI (by omega) (by omega)) dY_tell_40 (fun H locs hM => ?_)
  rw [nI_clamp (show sg_nm σ < 2 ^ 31 by omega)] at hM
  have hr4 := yr_s6 hr3 (upd (f 6) (sg_nm σ) t)
  have k4 : ky_ M3 (mw_up M3 (q 6) ((17, 0), aI_ G 200 (upd (f 6) (sg_nm σ) t))) := ky_up (yr_6 hr3) (by decide)
  have hM : mw_S G (mw_up M3 (q 6) ((17, 0), aI_ G 200 (upd (f 6) (sg_nm σ) t))) s.heap H locs := hM
  generalize mw_up M3 (q 6) ((17, 0), aI_ G 200 (upd (f 6) (sg_nm σ) t)) = M4 at hM hr4 k4
  refine lv_aload_n hx hb dY_tell_41 rfl (lv_at hl 0 rfl) ?_
  refine gf_Y_31 F hM (yr_y hr4) rfl dY_tell_42 ?_
  refine lv_aload_n hx hb dY_tell_45 rfl (lv_at hl 0 rfl) ?_
  refine gf_Y_48 F hM (yr_y hr4) rfl dY_tell_46 ?_
  refine lv_iload hx hb dY_tell_49 (lv_at hl 5 rfl) ?_
  refine mw_zst F hM (yr_7 hr4) (vp_in_nI (by omega) (by omega)) dY_tell_51 (fun H locs hM => ?_)
  rw [nI_clamp (show sg_nm σ < 2 ^ 31 by omega)] at hM
  have hr5 := yr_s7 hr4 (upd (f 7) (sg_nm σ) (mb_i st))
  have k5 : ky_ M4 (mw_up M4 (q 7) ((18, 0), aZ_ G 200 (upd (f 7) (sg_nm σ) (mb_i st)))) := ky_up (yr_7 hr4) (by decide)
  have hM : mw_S G (mw_up M4 (q 7) ((18, 0), aZ_ G 200 (upd (f 7) (sg_nm σ) (mb_i st)))) s.heap H locs := hM
  generalize mw_up M4 (q 7) ((18, 0), aZ_ G 200 (upd (f 7) (sg_nm σ) (mb_i st))) = M5 at hM hr5 k5
  refine lv_aload_n hx hb dY_tell_52 rfl (lv_at hl 0 rfl) ?_
  refine gf_Y_35 F hM (yr_y hr5) rfl dY_tell_53 ?_
  refine lv_aload_n hx hb dY_tell_56 rfl (lv_at hl 0 rfl) ?_
  refine gf_Y_48 F hM (yr_y hr5) rfl dY_tell_57 ?_
  refine lv_iload hx hb dY_tell_60 (lv_at hl 6 rfl) ?_
  refine mw_zst F hM (yr_8 hr5) (vp_in_nI (by omega) (by omega)) dY_tell_62 (fun H locs hM => ?_)
  rw [nI_clamp (show sg_nm σ < 2 ^ 31 by omega)] at hM
  have hr6 := yr_s8 hr5 (upd (f 8) (sg_nm σ) (mb_i fn))
  have k6 : ky_ M5 (mw_up M5 (q 8) ((19, 0), aZ_ G 200 (upd (f 8) (sg_nm σ) (mb_i fn)))) := ky_up (yr_8 hr5) (by decide)
  have hM : mw_S G (mw_up M5 (q 8) ((19, 0), aZ_ G 200 (upd (f 8) (sg_nm σ) (mb_i fn)))) s.heap H locs := hM
  generalize mw_up M5 (q 8) ((19, 0), aZ_ G 200 (upd (f 8) (sg_nm σ) (mb_i fn))) = M6 at hM hr6 k6
  refine lv_aload_n hx hb dY_tell_63 rfl (lv_at hl 0 rfl) ?_
  refine gf_Y_22 F hM (yr_y hr6) rfl dY_tell_64 ?_
  refine lv_aload_n hx hb dY_tell_67 rfl (lv_at hl 0 rfl) ?_
  refine gf_Y_48 F hM (yr_y hr6) rfl dY_tell_68 ?_
  refine lv_iload hx hb dY_tell_71 (lv_at hl 7 rfl) ?_
  refine mw_ist F hM (yr_4 hr6) (vp_in_nI (by omega) (by omega)) dY_tell_73 (fun H locs hM => ?_)
  rw [nI_clamp (show sg_nm σ < 2 ^ 31 by omega)] at hM
  have hr7 := yr_s4 hr6 (upd (f 4) (sg_nm σ) r)
  have k7 : ky_ M6 (mw_up M6 (q 4) ((15, 0), aI_ G 200 (upd (f 4) (sg_nm σ) r))) := ky_up (yr_4 hr6) (by decide)
  have hM : mw_S G (mw_up M6 (q 4) ((15, 0), aI_ G 200 (upd (f 4) (sg_nm σ) r))) s.heap H locs := hM
  generalize mw_up M6 (q 4) ((15, 0), aI_ G 200 (upd (f 4) (sg_nm σ) r)) = M7 at hM hr7 k7
  exact mr_v F hr hM (⟨rfl, hr7, (ky_tr (ky_tr (ky_tr (ky_tr (ky_tr (ky_tr k1 k2) k3) k4) k5) k6) k7)⟩) dY_tell_74 ⟨Nat.le_of_ble_eq_true rfl, Nat.le_of_ble_eq_true rfl⟩
set_option maxHeartbeats 4000000 in
set_option maxRecDepth 100000 in
theorem c_Y_told_f (hw : yw_ G M y q σ rf f ch lk ov) (h200 : sg_nm σ = 200) : mw_C l G yY_told bY_told 1 (some .int) { frames := 1, cells := 0, slots := 0, locals := 40 } M [.ref y] (mp_ (some (.int (-1))) (mw_up M y ((10, 0), yo_e q (nI (sg_nc σ)) (nI (sg_nm σ)) 5 lk))) := by
  refine mw_of (by decide) (Nat.le_of_ble_eq_true rfl) ?_
  intro pg en s mi below meth cd F hr _ hM ls hl
  obtain ⟨hx, hb, -⟩ := id F
  have hl : lv_has ls 1 [(0, .ref y)] := hl
  have hnc := yw_nc hw
  have hnm := yw_nm hw
  refine lv_aload_n hx hb dY_told_0 rfl (lv_at hl 0 rfl) ?_
  refine gf_Y_48 F hM (yw_y hw) rfl dY_told_1 ?_
  refine lv_sipush (v := 200) hx hb dY_told_4 (by decide) ?_
  refine lv_icmp_ne (tgt := 16) hx hb dY_told_7 (by decide) (fun h1 => absurd (show nI (sg_nm σ) = 200 by rw [h200]; rfl) h1) (fun h1 => ?_)
  refine lv_aload_n hx hb dY_told_10 rfl (lv_at hl 0 rfl) ?_
  refine lv_iconst (v := 5) hx hb dY_told_11 (by decide) ?_
  refine mw_Vp (As := [.int 5]) (rest := []) F (c_Y_refuse hw 5) kb_Y_refuse ki_Y_refuse ks_Y_refuse kl_Y_62 hM (yw_y hw) rfl rfl hl.1 rfl (Nat.le_of_ble_eq_true rfl) dY_told_12 ⟨⟨Nat.le_of_ble_eq_true rfl, Nat.le_of_ble_eq_true rfl⟩, Nat.le_of_ble_eq_true rfl, Nat.le_of_ble_eq_true rfl⟩ ⟨rfl, rfl⟩ (fun H locs hM => ?_)
  exact mr_i F hr hM (⟨rfl, rfl⟩) dY_told_15 ⟨Nat.le_of_ble_eq_true rfl, Nat.le_of_ble_eq_true rfl⟩
set_option maxHeartbeats 4000000 in
set_option maxRecDepth 100000 in
theorem c_Y_told (hw : yw_ G M y q σ rf f ch lk ov) (hlt : sg_nm σ < 200) : mw_C l G yY_told bY_told 1 (some .int) { frames := 1, cells := 0, slots := 0, locals := 40 } M [.ref y] (mp_ (some (.int (nI (sg_nm σ)))) (mw_up M y ((10, 0), yo_e q (nI (sg_nc σ)) (nI (sg_nm σ + 1)) rf lk))) := by
  refine mw_of (by decide) (Nat.le_of_ble_eq_true rfl) ?_
  intro pg en s mi below meth cd F hr _ hM ls hl
  obtain ⟨hx, hb, -⟩ := id F
  have hl : lv_has ls 1 [(0, .ref y)] := hl
  have hnc := yw_nc hw
  have hnm := yw_nm hw
  refine lv_aload_n hx hb dY_told_0 rfl (lv_at hl 0 rfl) ?_
  refine gf_Y_48 F hM (yw_y hw) rfl dY_told_1 ?_
  refine lv_sipush (v := 200) hx hb dY_told_4 (by decide) ?_
  refine lv_icmp_ne (tgt := 16) hx hb dY_told_7 (by decide) (fun h1 => ?_) (fun h1 => absurd ((nI_eq (b := 200) (by omega) (by omega)).mp h1) (by omega))
  refine lv_aload_n hx hb dY_told_16 rfl (lv_at hl 0 rfl) ?_
  refine lv_dup hx hb dY_told_17 rfl ?_
  refine gf_Y_48 F hM (yw_y hw) rfl dY_told_18 ?_
  refine lv_iconst (v := 1) hx hb dY_told_21 (by decide) ?_
  refine lv_iadd hx hb dY_told_22 ?_
  refine mv_i (y := nI (sg_nm σ + 1)) (nI_1 (sg_nm σ)) ?_
  refine pf_Y_48 F hM (yw_y hw) (Nat.le_of_ble_eq_true rfl) dY_told_23 (fun H locs hM => ?_)
  have hM : mw_S G (mw_up M y ((10, 0), .inr (ciY, [.ref (q 0), .ref (q 1), .int (nI (sg_nc σ)), .ref (q 2), .ref (q 3), .ref (q 4), .ref (q 5), .ref (q 6), .ref (q 7), .ref (q 8), .int (nI (sg_nm σ + 1)), .int rf, .ref (q 9), .int lk, .ref (q 10)]))) s.heap H locs := hM
  refine lv_aload_n hx hb dY_told_26 rfl (lv_at hl 0 rfl) ?_
  refine gf_Y_48 F hM mw_at rfl dY_told_27 ?_
  refine lv_iconst (v := 1) hx hb dY_told_30 (by decide) ?_
  refine lv_isub hx hb dY_told_31 ?_
  refine mv_i (y := nI (sg_nm σ)) (nI_pred (sg_nm σ)) ?_
  exact mr_i F hr hM (⟨rfl, rfl⟩) dY_told_32 ⟨Nat.le_of_ble_eq_true rfl, Nat.le_of_ble_eq_true rfl⟩
end GC
