section GC
variable {l : Launch} {G : mw_G} {M : mw_M} {y : Nat} {q : Nat → Nat} {σ : sg_T} {rf : Int32} {f : Nat → Nat → Int32} {ch : Nat → Int32} {lk : Int32} {ov : Nat → Int32}
set_option maxHeartbeats 4000000 in
set_option maxRecDepth 100000 in
theorem c_Y_isClass (hw : yw_ G M y q σ rf f ch lk ov) (v : Int32) : mw_C l G yY_isClass bY_isClass 2 (some .boolean) { frames := 0, cells := 0, slots := 0, locals := 0 } M [.ref y, .int v] (mp_ (some (.int (mb_i (ix_o v (sg_nc σ)).isSome))) M) := by
  refine mw_of (by decide) (Nat.le_of_ble_eq_true rfl) ?_
  intro pg en s mi below meth cd F hr _ hM ls hl
  obtain ⟨hx, hb, -⟩ := id F
  have hl : lv_has ls 2 [(0, .ref y), (1, .int v)] := hl
  have hnc := yw_nc hw
  have hnm := yw_nm hw
  refine lv_iload_n hx hb dY_isClass_0 rfl (lv_at hl 1 rfl) ?_
  refine lv_if_lt (tgt := 16) hx hb dY_isClass_1 (by decide) (fun h1 => ?_) (fun h1 => ?_)
  · refine lv_iconst (v := 0) hx hb dY_isClass_16 (by decide) ?_
    exact mr_z (v := false) F hr hM (⟨by rw [ix_neg h1]; rfl, rfl⟩) dY_isClass_17 ⟨Nat.le_of_ble_eq_true rfl, Nat.le_of_ble_eq_true rfl⟩
  · refine lv_iload_n hx hb dY_isClass_4 rfl (lv_at hl 1 rfl) ?_
    refine lv_aload_n hx hb dY_isClass_5 rfl (lv_at hl 0 rfl) ?_
    refine gf_Y_44 F hM (yw_y hw) rfl dY_isClass_6 ?_
    refine lv_icmp_ge (tgt := 16) hx hb dY_isClass_9 (by decide) (fun h2 => ?_) (fun h2 => ?_)
    · refine lv_iconst (v := 0) hx hb dY_isClass_16 (by decide) ?_
      exact mr_z (v := false) F hr hM (⟨by rw [ix_ge (by omega) h2]; rfl, rfl⟩) dY_isClass_17 ⟨Nat.le_of_ble_eq_true rfl, Nat.le_of_ble_eq_true rfl⟩
    · obtain ⟨i, -, -, hix⟩ := ix_in (by omega) h1 h2
      refine lv_iconst (v := 1) hx hb dY_isClass_12 (by decide) ?_
      refine lv_goto (tgt := 17) hx hb dY_isClass_13 (by decide) ?_
      exact mr_z (v := true) F hr hM (⟨by rw [hix]; rfl, rfl⟩) dY_isClass_17 ⟨Nat.le_of_ble_eq_true rfl, Nat.le_of_ble_eq_true rfl⟩
set_option maxHeartbeats 4000000 in
set_option maxRecDepth 100000 in
theorem c_Y_isMember (hw : yw_ G M y q σ rf f ch lk ov) (v : Int32) : mw_C l G yY_isMember bY_isMember 2 (some .boolean) { frames := 0, cells := 0, slots := 0, locals := 0 } M [.ref y, .int v] (mp_ (some (.int (mb_i (ix_o v (sg_nm σ)).isSome))) M) := by
  refine mw_of (by decide) (Nat.le_of_ble_eq_true rfl) ?_
  intro pg en s mi below meth cd F hr _ hM ls hl
  obtain ⟨hx, hb, -⟩ := id F
  have hl : lv_has ls 2 [(0, .ref y), (1, .int v)] := hl
  have hnc := yw_nc hw
  have hnm := yw_nm hw
  refine lv_iload_n hx hb dY_isMember_0 rfl (lv_at hl 1 rfl) ?_
  refine lv_if_lt (tgt := 16) hx hb dY_isMember_1 (by decide) (fun h1 => ?_) (fun h1 => ?_)
  · refine lv_iconst (v := 0) hx hb dY_isMember_16 (by decide) ?_
    exact mr_z (v := false) F hr hM (⟨by rw [ix_neg h1]; rfl, rfl⟩) dY_isMember_17 ⟨Nat.le_of_ble_eq_true rfl, Nat.le_of_ble_eq_true rfl⟩
  · refine lv_iload_n hx hb dY_isMember_4 rfl (lv_at hl 1 rfl) ?_
    refine lv_aload_n hx hb dY_isMember_5 rfl (lv_at hl 0 rfl) ?_
    refine gf_Y_48 F hM (yw_y hw) rfl dY_isMember_6 ?_
    refine lv_icmp_ge (tgt := 16) hx hb dY_isMember_9 (by decide) (fun h2 => ?_) (fun h2 => ?_)
    · refine lv_iconst (v := 0) hx hb dY_isMember_16 (by decide) ?_
      exact mr_z (v := false) F hr hM (⟨by rw [ix_ge (by omega) h2]; rfl, rfl⟩) dY_isMember_17 ⟨Nat.le_of_ble_eq_true rfl, Nat.le_of_ble_eq_true rfl⟩
    · obtain ⟨i, -, -, hix⟩ := ix_in (by omega) h1 h2
      refine lv_iconst (v := 1) hx hb dY_isMember_12 (by decide) ?_
      refine lv_goto (tgt := 17) hx hb dY_isMember_13 (by decide) ?_
      exact mr_z (v := true) F hr hM (⟨by rw [hix]; rfl, rfl⟩) dY_isMember_17 ⟨Nat.le_of_ble_eq_true rfl, Nat.le_of_ble_eq_true rfl⟩
set_option maxHeartbeats 4000000 in
set_option maxRecDepth 100000 in
theorem c_Y_isBelow (hw : yw_ G M y q σ rf f ch lk ov) {i j : Nat} (hi : i < sg_nc σ) (hj : j < sg_nc σ) : mw_C l G yY_isBelow bY_isBelow 4 (some .boolean) { frames := 0, cells := 0, slots := 0, locals := 0 } M [.ref y, .int (nI i), .int (nI j)] (mp_ (some (.int (mb_i (decide (j ∈ sg_ln (sg_pr σ) i))))) M) := by
  refine mw_of (by decide) (Nat.le_of_ble_eq_true rfl) ?_
  intro pg en s mi below meth cd F hr _ hM ls hl
  obtain ⟨hx, hb, -⟩ := id F
  have hl : lv_has ls 4 [(0, .ref y), (1, .int (nI i)), (2, .int (nI j))] := hl
  have hnc := yw_nc hw
  have hnm := yw_nm hw
  have loop : ∀ (n : Nat) (o : Option Nat) (H : Heap) (locs : List Loc) (ls : Array Slot), (∀ d, o = some d → d < n ∧ d < sg_nc σ) → decide (j ∈ sg_ln (sg_pr σ) i) = decide (j ∈ ln_o (sg_pr σ) o) → mw_S G M s.heap H locs → lv_has ls 4 [(3, .int (eo_i o)), (0, .ref y), (1, .int (nI i)), (2, .int (nI j))] → W pg l en { frames := 0, cells := 0, slots := 0, locals := 0 } s mi [.ref y, .int (nI i), .int (nI j)].toArray below meth cd H locs 0 0 (MQ below (mw_Q G (mp_ (some (.int (mb_i (decide (j ∈ sg_ln (sg_pr σ) i))))) M)) [.ref y, .int (nI i), .int (nI j)].toArray s 0 0 (mw_A G)) (F0 mi 2 ls []) := by
    intro n
    induction n using Nat.strongRecOn with
    | ind n ih =>
      intro o H locs ls hd hq hM hl
      rcases o with _ | d
      · have hl : lv_has ls 4 [(3, .int (-1)), (0, .ref y), (1, .int (nI i)), (2, .int (nI j))] := hl
        refine lv_iload_n hx hb dY_isBelow_2 rfl (lv_at hl 0 rfl) ?_
        refine lv_iconst (v := (-1)) hx hb dY_isBelow_3 (by decide) ?_
        refine lv_icmp_eq (tgt := 24) hx hb dY_isBelow_4 (by decide) (fun h1 => ?_) (fun h1 => absurd rfl h1)
        refine lv_iconst (v := 0) hx hb dY_isBelow_24 (by decide) ?_
        exact mr_z (v := false) F hr hM (⟨by rw [hq]; rfl, rfl⟩) dY_isBelow_25 ⟨Nat.le_of_ble_eq_true rfl, Nat.le_of_ble_eq_true rfl⟩
      · have hl : lv_has ls 4 [(3, .int (nI d)), (0, .ref y), (1, .int (nI i)), (2, .int (nI j))] := hl
        obtain ⟨hd1, hd2⟩ := hd d rfl
        refine lv_iload_n hx hb dY_isBelow_2 rfl (lv_at hl 0 rfl) ?_
        refine lv_iconst (v := (-1)) hx hb dY_isBelow_3 (by decide) ?_
        refine lv_icmp_eq (tgt := 24) hx hb dY_isBelow_4 (by decide) (fun h1 => absurd h1 (nI_m1 (by omega))) (fun h1 => ?_)
        refine lv_iload_n hx hb dY_isBelow_7 rfl (lv_at hl 0 rfl) ?_
        refine lv_iload_n hx hb dY_isBelow_8 rfl (lv_at hl 3 rfl) ?_
        refine lv_icmp_ne (tgt := 14) hx hb dY_isBelow_9 (by decide) (fun h2 => ?_) (fun h2 => ?_)
        · have hne : ¬ d = j := fun z => h2 (by rw [z])
          refine lv_aload_n hx hb dY_isBelow_14 rfl (lv_at hl 1 rfl) ?_
          refine gf_Y_7 F hM (yw_y hw) rfl dY_isBelow_15 ?_
          refine lv_iload_n hx hb dY_isBelow_18 rfl (lv_at hl 0 rfl) ?_
          refine mw_ild F hM (yw_0 hw) (vp_in_nI (by omega) (by omega)) dY_isBelow_19 ?_
          refine mv_i (y := (eo_i (sg_pr σ d))) (by rw [nI_clamp (by omega)]; exact yv_0 hw hd2) ?_
          refine lv_istore_n (lv' := [(3, .int (eo_i (sg_pr σ d))), (0, .ref y), (1, .int (nI i)), (2, .int (nI j))]) hx hb dY_isBelow_20 rfl hl (by decide) rfl (fun ls hl => ?_)
          refine lv_goto (tgt := 2) hx hb dY_isBelow_21 (by decide) ?_
          exact ih d hd1 (sg_pr σ d) H locs ls (fun z hz => ⟨yw_pr hw hd2 hz, Nat.lt_trans (yw_pr hw hd2 hz) hd2⟩) (by rw [hq]; show decide (j ∈ sg_ln (sg_pr σ) d) = _; rw [ln_e (fun z hz => yw_pr hw hd2 hz)]; simp [Ne.symm hne]) hM (lv_sub hl [0, 1, 2, 3] rfl)
        · have hdj : d = j := (nI_eq (by omega) (by omega)).mp h2
          subst hdj
          refine lv_iconst (v := 1) hx hb dY_isBelow_12 (by decide) ?_
          exact mr_z (v := true) F hr hM (⟨by rw [hq]; show _ = some (Value.int (mb_i (decide (d ∈ sg_ln (sg_pr σ) d)))); rw [decide_eq_true (ln_self)], rfl⟩) dY_isBelow_13 ⟨Nat.le_of_ble_eq_true rfl, Nat.le_of_ble_eq_true rfl⟩
  refine lv_iload_n hx hb dY_isBelow_0 rfl (lv_at hl 1 rfl) ?_
  refine lv_istore_n (lv' := [(3, .int (nI i)), (0, .ref y), (1, .int (nI i)), (2, .int (nI j))]) hx hb dY_isBelow_1 rfl hl (by decide) rfl (fun ls hl => ?_)
  exact loop (i + 1) (some i) _ _ ls (fun d hd => by cases hd; exact ⟨Nat.lt_succ_self _, hi⟩) rfl hM (lv_sub hl [0, 1, 2, 3] rfl)
set_option maxHeartbeats 4000000 in
set_option maxRecDepth 100000 in
theorem c_Y_isOwn (hw : yw_ G M y q σ rf f ch lk ov) {j : Nat} (hj : j < sg_nm σ) : mw_C l G yY_isOwn bY_isOwn 2 (some .boolean) { frames := 0, cells := 0, slots := 0, locals := 0 } M [.ref y, .int (nI j)] (mp_ (some (.int (mb_i (sg_ob σ j)))) M) := by
  refine mw_of (by decide) (Nat.le_of_ble_eq_true rfl) ?_
  intro pg en s mi below meth cd F hr _ hM ls hl
  obtain ⟨hx, hb, -⟩ := id F
  have hl : lv_has ls 2 [(0, .ref y), (1, .int (nI j))] := hl
  have hnc := yw_nc hw
  have hnm := yw_nm hw
  refine lv_aload_n hx hb dY_isOwn_0 rfl (lv_at hl 0 rfl) ?_
  refine gf_Y_25 F hM (yw_y hw) rfl dY_isOwn_1 ?_
  refine lv_iload_n hx hb dY_isOwn_4 rfl (lv_at hl 1 rfl) ?_
  refine mw_ild F hM (yw_5 hw) (vp_in_nI (by omega) (by omega)) dY_isOwn_5 ?_
  refine mv_i (y := (sg_kd σ j)) (by rw [nI_clamp (by omega)]; exact yv_5 hw hj) ?_
  refine lv_iconst (v := 1) hx hb dY_isOwn_6 (by decide) ?_
  refine lv_icmp_ne (tgt := 23) hx hb dY_isOwn_7 (by decide) (fun h1 => ?_) (fun h1 => ?_)
  · refine lv_iconst (v := 0) hx hb dY_isOwn_23 (by decide) ?_
    exact mr_z (v := false) F hr hM (⟨by simp [sg_ob, h1], rfl⟩) dY_isOwn_24 ⟨Nat.le_of_ble_eq_true rfl, Nat.le_of_ble_eq_true rfl⟩
  · refine lv_aload_n hx hb dY_isOwn_10 rfl (lv_at hl 0 rfl) ?_
    refine gf_Y_31 F hM (yw_y hw) rfl dY_isOwn_11 ?_
    refine lv_iload_n hx hb dY_isOwn_14 rfl (lv_at hl 1 rfl) ?_
    refine mw_zld F hM (yw_7 hw) (vp_in_nI (by omega) (by omega)) dY_isOwn_15 ?_
    refine mv_i (y := (mb_i (sg_fx σ j))) (by rw [nI_clamp (by omega)]; exact yv_7 hw hj) ?_
    refine lv_if_ne (tgt := 23) hx hb dY_isOwn_16 (by decide) (fun h2 => ?_) (fun h2 => ?_)
    · refine lv_iconst (v := 0) hx hb dY_isOwn_23 (by decide) ?_
      exact mr_z (v := false) F hr hM (⟨by simp [sg_ob, mb_n h2], rfl⟩) dY_isOwn_24 ⟨Nat.le_of_ble_eq_true rfl, Nat.le_of_ble_eq_true rfl⟩
    · refine lv_iconst (v := 1) hx hb dY_isOwn_19 (by decide) ?_
      refine lv_goto (tgt := 24) hx hb dY_isOwn_20 (by decide) ?_
      exact mr_z (v := true) F hr hM (⟨by simp [sg_ob, h1, mb_z h2], rfl⟩) dY_isOwn_24 ⟨Nat.le_of_ble_eq_true rfl, Nat.le_of_ble_eq_true rfl⟩
set_option maxHeartbeats 4000000 in
set_option maxRecDepth 100000 in
theorem c_Y_refuse (hw : yw_ G M y q σ rf f ch lk ov) (v : Int32) : mw_C l G yY_refuse bY_refuse 2 (some .int) { frames := 0, cells := 0, slots := 0, locals := 0 } M [.ref y, .int v] (mp_ (some (.int (-1))) (mw_up M y ((10, 0), yo_e q (nI (sg_nc σ)) (nI (sg_nm σ)) v lk))) := by
  refine mw_of (by decide) (Nat.le_of_ble_eq_true rfl) ?_
  intro pg en s mi below meth cd F hr _ hM ls hl
  obtain ⟨hx, hb, -⟩ := id F
  have hl : lv_has ls 2 [(0, .ref y), (1, .int v)] := hl
  refine lv_aload_n hx hb dY_refuse_0 rfl (lv_at hl 0 rfl) ?_
  refine lv_iload_n hx hb dY_refuse_1 rfl (lv_at hl 1 rfl) ?_
  refine pf_Y_51 F hM (yw_y hw) (Nat.le_of_ble_eq_true rfl) dY_refuse_2 (fun H locs hM => ?_)
  have hM : mw_S G (mw_up M y ((10, 0), .inr (ciY, [.ref (q 0), .ref (q 1), .int (nI (sg_nc σ)), .ref (q 2), .ref (q 3), .ref (q 4), .ref (q 5), .ref (q 6), .ref (q 7), .ref (q 8), .int (nI (sg_nm σ)), .int v, .ref (q 9), .int lk, .ref (q 10)]))) s.heap H locs := hM
  refine lv_iconst (v := (-1)) hx hb dY_refuse_5 (by decide) ?_
  exact mr_i F hr hM (⟨rfl, rfl⟩) dY_refuse_6 ⟨Nat.le_of_ble_eq_true rfl, Nat.le_of_ble_eq_true rfl⟩
set_option maxHeartbeats 4000000 in
set_option maxRecDepth 100000 in
theorem c_Y_outside (v k : Int32) : mw_C l G yY_outside bY_outside 2 (some .boolean) { frames := 0, cells := 0, slots := 0, locals := 0 } M [.int v, .int k] (mp_ (some (.int (mb_i (decide (v < 0 ∨ k < v))))) M) := by
  refine mw_of (by decide) (Nat.le_of_ble_eq_true rfl) ?_
  intro pg en s mi below meth cd F hr _ hM ls hl
  obtain ⟨hx, hb, -⟩ := id F
  have hl : lv_has ls 2 [(0, .int v), (1, .int k)] := hl
  refine lv_iload_n hx hb dY_outside_0 rfl (lv_at hl 0 rfl) ?_
  refine lv_if_lt (tgt := 9) hx hb dY_outside_1 (by decide) (fun h1 => ?_) (fun h1 => ?_)
  · refine lv_iconst (v := 1) hx hb dY_outside_9 (by decide) ?_
    refine lv_goto (tgt := 14) hx hb dY_outside_10 (by decide) ?_
    exact mr_z (v := true) F hr hM (⟨by simp [h1], rfl⟩) dY_outside_14 ⟨Nat.le_of_ble_eq_true rfl, Nat.le_of_ble_eq_true rfl⟩
  · refine lv_iload_n hx hb dY_outside_4 rfl (lv_at hl 0 rfl) ?_
    refine lv_iload_n hx hb dY_outside_5 rfl (lv_at hl 1 rfl) ?_
    refine lv_icmp_le (tgt := 13) hx hb dY_outside_6 (by decide) (fun h2 => ?_) (fun h2 => ?_)
    · refine lv_iconst (v := 0) hx hb dY_outside_13 (by decide) ?_
      exact mr_z (v := false) F hr hM (⟨by rw [decide_eq_false (fun z => by rcases z with z | z; exact h1 z; exact i3_nlt h2 z)], rfl⟩) dY_outside_14 ⟨Nat.le_of_ble_eq_true rfl, Nat.le_of_ble_eq_true rfl⟩
    · refine lv_iconst (v := 1) hx hb dY_outside_9 (by decide) ?_
      refine lv_goto (tgt := 14) hx hb dY_outside_10 (by decide) ?_
      exact mr_z (v := true) F hr hM (⟨by rw [decide_eq_true (Or.inr (i3_lt h2))], rfl⟩) dY_outside_14 ⟨Nat.le_of_ble_eq_true rfl, Nat.le_of_ble_eq_true rfl⟩
set_option maxHeartbeats 4000000 in
set_option maxRecDepth 100000 in
theorem c_Y_refused (hw : yw_ G M y q σ rf f ch lk ov) : mw_C l G yY_refused bY_refused 1 (some .int) { frames := 0, cells := 0, slots := 0, locals := 0 } M [.ref y] (mp_ (some (.int rf)) M) := by
  refine mw_of (by decide) (Nat.le_of_ble_eq_true rfl) ?_
  intro pg en s mi below meth cd F hr _ hM ls hl
  obtain ⟨hx, hb, -⟩ := id F
  have hl : lv_has ls 1 [(0, .ref y)] := hl
  refine lv_aload_n hx hb dY_refused_0 rfl (lv_at hl 0 rfl) ?_
  refine gf_Y_51 F hM (yw_y hw) rfl dY_refused_1 ?_
  exact mr_i F hr hM (⟨rfl, rfl⟩) dY_refused_4 ⟨Nat.le_of_ble_eq_true rfl, Nat.le_of_ble_eq_true rfl⟩
set_option maxHeartbeats 4000000 in
set_option maxRecDepth 100000 in
theorem c_Y_doesReach (hw : yw_ G M y q σ rf f ch lk ov) {a j : Nat} (ha : a < sg_nc σ) (hj : j < sg_nm σ) : mw_C l G yY_doesReach bY_doesReach 4 (some .boolean) { frames := 1, cells := 0, slots := 0, locals := 40 } M [.ref y, .int (nI a), .int (nI j)] (mp_ (some (.int (mb_i (sg_rc σ a j)))) M) := by
  refine mw_of (by decide) (Nat.le_of_ble_eq_true rfl) ?_
  intro pg en s mi below meth cd F hr _ hM ls hl
  obtain ⟨hx, hb, -⟩ := id F
  have hl : lv_has ls 4 [(0, .ref y), (1, .int (nI a)), (2, .int (nI j))] := hl
  have hnc := yw_nc hw
  have hnm := yw_nm hw
  have hmc := yw_mc hw hj
  refine lv_aload_n hx hb dY_doesReach_0 rfl (lv_at hl 0 rfl) ?_
  refine gf_Y_16 F hM (yw_y hw) rfl dY_doesReach_1 ?_
  refine lv_iload_n hx hb dY_doesReach_4 rfl (lv_at hl 2 rfl) ?_
  refine mw_ild F hM (yw_2 hw) (vp_in_nI (by omega) (by omega)) dY_doesReach_5 ?_
  refine mv_i (y := (nI (sg_mc σ j))) (by rw [nI_clamp (by omega)]; exact yv_2 hw hj) ?_
  refine lv_istore_n (lv' := [(3, .int (nI (sg_mc σ j))), (0, .ref y), (1, .int (nI a)), (2, .int (nI j))]) hx hb dY_doesReach_6 rfl hl (by decide) rfl (fun ls hl => ?_)
  refine lv_aload_n hx hb dY_doesReach_7 rfl (lv_at hl 1 rfl) ?_
  refine gf_Y_22 F hM (yw_y hw) rfl dY_doesReach_8 ?_
  refine lv_iload_n hx hb dY_doesReach_11 rfl (lv_at hl 3 rfl) ?_
  refine mw_ild F hM (yw_4 hw) (vp_in_nI (by omega) (by omega)) dY_doesReach_12 ?_
  refine mv_i (y := (sg_rg σ j)) (by rw [nI_clamp (by omega)]; exact yv_4 hw hj) ?_
  rcases hw.1.2.2.2.2.1 j hj with h0 | h0 | h0 | h0
  · refine mv_i (y := 0) h0 ?_
    refine lv_tableIn (tgt := 40) hx hb dY_doesReach_13 (by decide) (by decide) rfl (by decide) ?_
    refine lv_iload_n hx hb dY_doesReach_40 rfl (lv_at hl 2 rfl) ?_
    refine lv_iload_n hx hb dY_doesReach_41 rfl (lv_at hl 0 rfl) ?_
    refine lv_icmp_ne (tgt := 49) hx hb dY_doesReach_42 (by decide) (fun h1 => ?_) (fun h1 => ?_)
    · refine lv_iconst (v := 0) hx hb dY_doesReach_49 (by decide) ?_
      exact mr_z (v := false) F hr hM (⟨by simp [sg_rc, h0, show ¬ a = sg_mc σ j from fun z => h1 (by rw [z])], rfl⟩) dY_doesReach_50 ⟨Nat.le_of_ble_eq_true rfl, Nat.le_of_ble_eq_true rfl⟩
    · refine lv_iconst (v := 1) hx hb dY_doesReach_45 (by decide) ?_
      refine lv_goto (tgt := 50) hx hb dY_doesReach_46 (by decide) ?_
      exact mr_z (v := true) F hr hM (⟨by simp [sg_rc, h0, (nI_eq (by omega) (by omega)).mp h1], rfl⟩) dY_doesReach_50 ⟨Nat.le_of_ble_eq_true rfl, Nat.le_of_ble_eq_true rfl⟩
  · refine mv_i (y := 1) h0 ?_
    refine lv_tableIn (tgt := 51) hx hb dY_doesReach_13 (by decide) (by decide) rfl (by decide) ?_
    refine lv_aload_n hx hb dY_doesReach_51 rfl (lv_at hl 1 rfl) ?_
    refine gf_Y_13 F hM (yw_y hw) rfl dY_doesReach_52 ?_
    refine lv_iload_n hx hb dY_doesReach_55 rfl (lv_at hl 2 rfl) ?_
    refine mw_ild F hM (yw_1 hw) (vp_in_nI (by omega) (by omega)) dY_doesReach_56 ?_
    refine mv_i (y := (sg_pk σ a)) (by rw [nI_clamp (by omega)]; exact yv_1 hw ha) ?_
    refine lv_aload_n hx hb dY_doesReach_57 rfl (lv_at hl 1 rfl) ?_
    refine gf_Y_13 F hM (yw_y hw) rfl dY_doesReach_58 ?_
    refine lv_iload_n hx hb dY_doesReach_61 rfl (lv_at hl 0 rfl) ?_
    refine mw_ild F hM (yw_1 hw) (vp_in_nI (by omega) (by omega)) dY_doesReach_62 ?_
    refine mv_i (y := (sg_pk σ (sg_mc σ j))) (by rw [nI_clamp (by omega)]; exact yv_1 hw hmc) ?_
    refine lv_icmp_ne (tgt := 70) hx hb dY_doesReach_63 (by decide) (fun h1 => ?_) (fun h1 => ?_)
    · refine lv_iconst (v := 0) hx hb dY_doesReach_70 (by decide) ?_
      exact mr_z (v := false) F hr hM (⟨by simp [sg_rc, h0, h1], rfl⟩) dY_doesReach_71 ⟨Nat.le_of_ble_eq_true rfl, Nat.le_of_ble_eq_true rfl⟩
    · refine lv_iconst (v := 1) hx hb dY_doesReach_66 (by decide) ?_
      refine lv_goto (tgt := 71) hx hb dY_doesReach_67 (by decide) ?_
      exact mr_z (v := true) F hr hM (⟨by simp [sg_rc, h0, h1], rfl⟩) dY_doesReach_71 ⟨Nat.le_of_ble_eq_true rfl, Nat.le_of_ble_eq_true rfl⟩
  · refine mv_i (y := 2) h0 ?_
    refine lv_tableIn (tgt := 72) hx hb dY_doesReach_13 (by decide) (by decide) rfl (by decide) ?_
    refine lv_aload_n hx hb dY_doesReach_72 rfl (lv_at hl 1 rfl) ?_
    refine gf_Y_13 F hM (yw_y hw) rfl dY_doesReach_73 ?_
    refine lv_iload_n hx hb dY_doesReach_76 rfl (lv_at hl 2 rfl) ?_
    refine mw_ild F hM (yw_1 hw) (vp_in_nI (by omega) (by omega)) dY_doesReach_77 ?_
    refine mv_i (y := (sg_pk σ a)) (by rw [nI_clamp (by omega)]; exact yv_1 hw ha) ?_
    refine lv_aload_n hx hb dY_doesReach_78 rfl (lv_at hl 1 rfl) ?_
    refine gf_Y_13 F hM (yw_y hw) rfl dY_doesReach_79 ?_
    refine lv_iload_n hx hb dY_doesReach_82 rfl (lv_at hl 0 rfl) ?_
    refine mw_ild F hM (yw_1 hw) (vp_in_nI (by omega) (by omega)) dY_doesReach_83 ?_
    refine mv_i (y := (sg_pk σ (sg_mc σ j))) (by rw [nI_clamp (by omega)]; exact yv_1 hw hmc) ?_
    refine lv_icmp_eq (tgt := 96) hx hb dY_doesReach_84 (by decide) (fun h1 => ?_) (fun h1 => ?_)
    · refine lv_iconst (v := 1) hx hb dY_doesReach_96 (by decide) ?_
      refine lv_goto (tgt := 101) hx hb dY_doesReach_97 (by decide) ?_
      exact mr_z (v := true) F hr hM (⟨by simp [sg_rc, h0, h1], rfl⟩) dY_doesReach_101 ⟨Nat.le_of_ble_eq_true rfl, Nat.le_of_ble_eq_true rfl⟩
    · refine lv_aload_n hx hb dY_doesReach_87 rfl (lv_at hl 1 rfl) ?_
      refine lv_iload_n hx hb dY_doesReach_88 rfl (lv_at hl 2 rfl) ?_
      refine lv_iload_n hx hb dY_doesReach_89 rfl (lv_at hl 0 rfl) ?_
      refine mw_Vp (As := [.int (nI a), .int (nI (sg_mc σ j))]) (rest := []) F (c_Y_isBelow hw ha hmc) kb_Y_isBelow ki_Y_isBelow ks_Y_isBelow kl_Y_58 hM (yw_y hw) rfl rfl hl.1 rfl (Nat.le_of_ble_eq_true rfl) dY_doesReach_90 ⟨⟨Nat.le_of_ble_eq_true rfl, Nat.le_of_ble_eq_true rfl⟩, Nat.le_of_ble_eq_true rfl, Nat.le_of_ble_eq_true rfl⟩ ⟨rfl, rfl⟩ (fun H locs hM => ?_)
      refine lv_if_eq (tgt := 100) hx hb dY_doesReach_93 (by decide) (fun h2 => ?_) (fun h2 => ?_)
      · refine lv_iconst (v := 0) hx hb dY_doesReach_100 (by decide) ?_
        exact mr_z (v := false) F hr hM (⟨by simp [sg_rc, h0, h1, of_decide_eq_false (mb_z h2)], rfl⟩) dY_doesReach_101 ⟨Nat.le_of_ble_eq_true rfl, Nat.le_of_ble_eq_true rfl⟩
      · refine lv_iconst (v := 1) hx hb dY_doesReach_96 (by decide) ?_
        refine lv_goto (tgt := 101) hx hb dY_doesReach_97 (by decide) ?_
        exact mr_z (v := true) F hr hM (⟨by simp [sg_rc, h0, h1, of_decide_eq_true (mb_n h2)], rfl⟩) dY_doesReach_101 ⟨Nat.le_of_ble_eq_true rfl, Nat.le_of_ble_eq_true rfl⟩
  · refine mv_i (y := 3) h0 ?_
    refine lv_tableOut (tgt := 102) hx hb dY_doesReach_13 (Or.inr (by decide)) (by decide) ?_
    refine lv_iconst (v := 1) hx hb dY_doesReach_102 (by decide) ?_
    exact mr_z (v := true) F hr hM (⟨by simp [sg_rc, h0], rfl⟩) dY_doesReach_103 ⟨Nat.le_of_ble_eq_true rfl, Nat.le_of_ble_eq_true rfl⟩
set_option maxHeartbeats 4000000 in
set_option maxRecDepth 100000 in
theorem c_Y_ownIn (hw : yw_ G M y q σ rf f ch lk ov) {c : Nat} (hc : c < sg_nc σ) (n t : Int32) : mw_C l G yY_ownIn bY_ownIn 5 (some .int) { frames := 1, cells := 0, slots := 0, locals := 40 } M [.ref y, .int (nI c), .int n, .int t] (mp_ (some (.int (eo_i (sg_oo σ c n t)))) M) := by
  refine mw_of (by decide) (Nat.le_of_ble_eq_true rfl) ?_
  intro pg en s mi below meth cd F hr _ hM ls hl
  obtain ⟨hx, hb, -⟩ := id F
  have hl : lv_has ls 5 [(0, .ref y), (1, .int (nI c)), (2, .int n), (3, .int t)] := hl
  have hnc := yw_nc hw
  have hnm := yw_nm hw
  have loop : ∀ (u i : Nat) (H : Heap) (locs : List Loc) (ls : Array Slot), sg_nm σ < i + u → i ≤ sg_nm σ → (∀ m, m < i → ¬ (sg_mc σ m = c ∧ sg_ob σ m = true ∧ sg_mn σ m = n ∧ sg_ty σ m = t)) → mw_S G M s.heap H locs → lv_has ls 5 [(4, .int (nI i)), (0, .ref y), (1, .int (nI c)), (2, .int n), (3, .int t)] → W pg l en { frames := 1, cells := 0, slots := 0, locals := 40 } s mi [.ref y, .int (nI c), .int n, .int t].toArray below meth cd H locs 0 0 (MQ below (mw_Q G (mp_ (some (.int (eo_i (sg_oo σ c n t)))) M)) [.ref y, .int (nI c), .int n, .int t].toArray s 0 0 (mw_A G)) (F0 mi 3 ls []) := by
    intro u
    induction u with
    | zero => intro i H locs ls h2 h3; omega
    | succ u ih =>
      intro i H locs ls hu hi hno hM hl
      refine lv_iload hx hb dY_ownIn_3 (lv_at hl 0 rfl) ?_
      refine lv_aload_n hx hb dY_ownIn_5 rfl (lv_at hl 1 rfl) ?_
      refine gf_Y_48 F hM (yw_y hw) rfl dY_ownIn_6 ?_
      refine lv_icmp_ge (tgt := 63) hx hb dY_ownIn_9 (by decide) (fun h4 => ?_) (fun h4 => ?_)
      · have hik : i = sg_nm σ := by
          have := (nI_leI (by omega) (by omega)).mp h4
          omega
        subst hik
        refine lv_iconst (v := (-1)) hx hb dY_ownIn_63 (by decide) ?_
        exact mr_i F hr hM (⟨by rw [oo_no hno]; rfl, rfl⟩) dY_ownIn_64 ⟨Nat.le_of_ble_eq_true rfl, Nat.le_of_ble_eq_true rfl⟩
      · have hik : i < sg_nm σ := by
          rcases Nat.lt_or_ge i (sg_nm σ) with z | z
          · exact z
          · exact absurd (nI_le z (by omega)) h4
        have hmi := yw_mc hw hik
        have next : ∀ (H : Heap) (locs : List Loc) (ls : Array Slot), ¬ (sg_mc σ i = c ∧ sg_ob σ i = true ∧ sg_mn σ i = n ∧ sg_ty σ i = t) → mw_S G M s.heap H locs → lv_has ls 5 [(4, .int (nI i)), (0, .ref y), (1, .int (nI c)), (2, .int n), (3, .int t)] → W pg l en { frames := 1, cells := 0, slots := 0, locals := 40 } s mi [.ref y, .int (nI c), .int n, .int t].toArray below meth cd H locs 0 0 (MQ below (mw_Q G (mp_ (some (.int (eo_i (sg_oo σ c n t)))) M)) [.ref y, .int (nI c), .int n, .int t].toArray s 0 0 (mw_A G)) (F0 mi 57 ls []) := by
          intro H locs ls hk hM hl
          refine lv_iinc (v := nI (i + 1)) (lv' := [(4, .int (nI (i + 1))), (0, .ref y), (1, .int (nI c)), (2, .int n), (3, .int t)]) hx hb dY_ownIn_57 hl (k := 0) rfl (ii_1 i) (by decide) rfl (fun ls hl => ?_)
          refine lv_goto (tgt := 3) hx hb dY_ownIn_60 (by decide) ?_
          exact ih (i + 1) H locs ls (by omega) (by omega) (fun m hm => by
            by_cases hmi2 : m = i
            · rw [hmi2]; exact hk
            · exact hno m (by omega)) hM (lv_sub hl [0, 1, 2, 3, 4] rfl)
        refine lv_aload_n hx hb dY_ownIn_12 rfl (lv_at hl 1 rfl) ?_
        refine gf_Y_16 F hM (yw_y hw) rfl dY_ownIn_13 ?_
        refine lv_iload hx hb dY_ownIn_16 (lv_at hl 0 rfl) ?_
        refine mw_ild F hM (yw_2 hw) (vp_in_nI (by omega) (by omega)) dY_ownIn_18 ?_
        refine mv_i (y := (nI (sg_mc σ i))) (by rw [nI_clamp (by omega)]; exact yv_2 hw hik) ?_
        refine lv_iload_n hx hb dY_ownIn_19 rfl (lv_at hl 2 rfl) ?_
        refine lv_icmp_ne (tgt := 57) hx hb dY_ownIn_20 (by decide) (fun h5 => ?_) (fun h5 => ?_)
        · exact next H locs ls (fun z => h5 (by rw [z.1])) hM (lv_sub hl [0, 1, 2, 3, 4] rfl)
        · have h5 : sg_mc σ i = c := (nI_eq (by omega) (by omega)).mp h5
          refine lv_aload_n hx hb dY_ownIn_23 rfl (lv_at hl 1 rfl) ?_
          refine lv_iload hx hb dY_ownIn_24 (lv_at hl 0 rfl) ?_
          refine mw_Vp (As := [.int (nI i)]) (rest := []) F (c_Y_isOwn hw hik) kb_Y_isOwn ki_Y_isOwn ks_Y_isOwn kl_Y_77 hM (yw_y hw) rfl rfl hl.1 rfl (Nat.le_of_ble_eq_true rfl) dY_ownIn_26 ⟨⟨Nat.le_of_ble_eq_true rfl, Nat.le_of_ble_eq_true rfl⟩, Nat.le_of_ble_eq_true rfl, Nat.le_of_ble_eq_true rfl⟩ ⟨rfl, rfl⟩ (fun H locs hM => ?_)
          refine lv_if_eq (tgt := 57) hx hb dY_ownIn_29 (by decide) (fun h6 => ?_) (fun h6 => ?_)
          · exact next H locs ls (fun z => by rw [mb_z h6] at z; exact absurd z.2.1 (by decide)) hM (lv_sub hl [0, 1, 2, 3, 4] rfl)
          · refine lv_aload_n hx hb dY_ownIn_32 rfl (lv_at hl 1 rfl) ?_
            refine gf_Y_19 F hM (yw_y hw) rfl dY_ownIn_33 ?_
            refine lv_iload hx hb dY_ownIn_36 (lv_at hl 0 rfl) ?_
            refine mw_ild F hM (yw_3 hw) (vp_in_nI (by omega) (by omega)) dY_ownIn_38 ?_
            refine mv_i (y := (sg_mn σ i)) (by rw [nI_clamp (by omega)]; exact yv_3 hw hik) ?_
            refine lv_iload_n hx hb dY_ownIn_39 rfl (lv_at hl 3 rfl) ?_
            refine lv_icmp_ne (tgt := 57) hx hb dY_ownIn_40 (by decide) (fun h7 => ?_) (fun h7 => ?_)
            · exact next H locs ls (fun z => h7 z.2.2.1) hM (lv_sub hl [0, 1, 2, 3, 4] rfl)
            · refine lv_aload_n hx hb dY_ownIn_43 rfl (lv_at hl 1 rfl) ?_
              refine gf_Y_28 F hM (yw_y hw) rfl dY_ownIn_44 ?_
              refine lv_iload hx hb dY_ownIn_47 (lv_at hl 0 rfl) ?_
              refine mw_ild F hM (yw_6 hw) (vp_in_nI (by omega) (by omega)) dY_ownIn_49 ?_
              refine mv_i (y := (sg_ty σ i)) (by rw [nI_clamp (by omega)]; exact yv_6 hw hik) ?_
              refine lv_iload_n hx hb dY_ownIn_50 rfl (lv_at hl 4 rfl) ?_
              refine lv_icmp_ne (tgt := 57) hx hb dY_ownIn_51 (by decide) (fun h8 => ?_) (fun h8 => ?_)
              · exact next H locs ls (fun z => h8 z.2.2.2) hM (lv_sub hl [0, 1, 2, 3, 4] rfl)
              · refine lv_iload hx hb dY_ownIn_54 (lv_at hl 0 rfl) ?_
                exact mr_i F hr hM (⟨by rw [oo_at hw.1 hik h5 (mb_n h6) h7 h8]; rfl, rfl⟩) dY_ownIn_56 ⟨Nat.le_of_ble_eq_true rfl, Nat.le_of_ble_eq_true rfl⟩
  refine lv_iconst (v := 0) hx hb dY_ownIn_0 (by decide) ?_
  refine lv_istore (lv' := [(4, .int 0), (0, .ref y), (1, .int (nI c)), (2, .int n), (3, .int t)]) hx hb dY_ownIn_1 hl (by decide) rfl (fun ls hl => ?_)
  exact loop (sg_nm σ + 1) 0 _ _ ls (by omega) (Nat.zero_le _) (fun m hm => absurd hm (Nat.not_lt_zero m)) hM (lv_sub hl [0, 1, 2, 3, 4] rfl)
end GC
