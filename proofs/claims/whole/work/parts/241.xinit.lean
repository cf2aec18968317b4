section GC
variable {l : Launch} {G : mw_G} {M : mw_M}
set_option maxHeartbeats 4000000 in
set_option maxRecDepth 100000 in
theorem c_X_init {x : Nat} (hq : M x = some ((0, 0), .inr (ciX, [.null, .int 0, .null, .int 0, .int 0, .null]))) : mw_C l G yX_init bX_init 1 none { frames := 1, cells := 3, slots := 280, locals := 40 } M [.ref x] (fun v M' => v = none ∧ ∃ (qc qm ql : Nat) (ca ma : Nat → Nat) (lp : Nat → Int32), xw_ G M' x qc qm ql ca ma sg_0 0 lp ∧ kx_ M M') := by
  refine mw_of (by decide) (Nat.le_of_ble_eq_true rfl) ?_
  intro pg en s mi below meth cd F hr hin hM ls hl
  obtain ⟨hx, hb, -⟩ := id F
  have hl : lv_has ls 1 [(0, .ref x)] := hl
  refine lv_aload_n hx hb dX_init_0 rfl (lv_at hl 0 rfl) ?_
  refine mw_oi F kl_X_1 hl.1 dX_init_1 ⟨Nat.le_of_ble_eq_true rfl, Nat.le_of_ble_eq_true rfl⟩ ?_
  refine lv_aload_n hx hb dX_init_4 rfl (lv_at hl 0 rfl) ?_
  refine lv_bipush (v := 40) hx hb dX_init_5 (by decide) ?_
  refine mw_naq F (1, 0) 2 (by decide) rfl (fun _ h => h.1) kc_X_9 (by decide) rfl (by decide) hM ⟨Nat.le_of_ble_eq_true rfl, Nat.le_of_ble_eq_true rfl⟩ dX_init_7 (fun q1 H hn1 hM => ?_)
  have hM : mw_S G (mw_up M q1 ((1, 0), aC_ G 40 (fun _ => none))) s.heap H _ := hM
  have x1 := mw_old (x := ((1, 0), aC_ G 40 (fun _ => none))) hn1 hq
  have a1_1 : (mw_up M q1 ((1, 0), aC_ G 40 (fun _ => none))) q1 = some ((1, 0), aC_ G 40 (fun _ => none)) := mw_at
  have k1 : kx_ M (mw_up M q1 ((1, 0), aC_ G 40 (fun _ => none))) := kx_tr kx_rf (kx_nw hn1)
  generalize mw_up M q1 ((1, 0), aC_ G 40 (fun _ => none)) = N1 at hM x1 k1 a1_1
  refine pf_X_11 F hin (o := some q1) hM x1 (Nat.le_of_ble_eq_true rfl) dX_init_10 (fun H locs hM => ?_)
  have hM : mw_S G (mw_up N1 x ((0, 0), .inr (ciX, [.ref q1, .int 0, .null, .int 0, .int 0, .null]))) s.heap H locs := hM
  have y1 := mw_at (M := N1) (a := x) (x := ((0, 0), .inr (ciX, [.ref q1, .int 0, .null, .int 0, .int 0, .null])))
  have b1_1 := mw_oth (g := .inr (ciX, [.ref q1, .int 0, .null, .int 0, .int 0, .null])) x1 a1_1 (by decide)
  have l1 : kx_ M (mw_up N1 x ((0, 0), .inr (ciX, [.ref q1, .int 0, .null, .int 0, .int 0, .null]))) := kx_tr k1 (kx_up x1 (by decide))
  generalize mw_up N1 x ((0, 0), .inr (ciX, [.ref q1, .int 0, .null, .int 0, .int 0, .null])) = P1 at hM y1 l1 b1_1
  refine lv_aload_n hx hb dX_init_13 rfl (lv_at hl 0 rfl) ?_
  refine lv_sipush (v := 200) hx hb dX_init_14 (by decide) ?_
  refine mw_naq F (2, 0) 3 (by decide) rfl (fun _ h => h.2) kc_X_15 (by decide) rfl (by decide) hM ⟨Nat.le_of_ble_eq_true rfl, Nat.le_of_ble_eq_true rfl⟩ dX_init_17 (fun q2 H hn2 hM => ?_)
  have hM : mw_S G (mw_up P1 q2 ((2, 0), aN_ G 200 (fun _ => none))) s.heap H _ := hM
  have x2 := mw_old (x := ((2, 0), aN_ G 200 (fun _ => none))) hn2 y1
  have a1_2 := mw_old (x := ((2, 0), aN_ G 200 (fun _ => none))) hn2 b1_1
  have a2_2 : (mw_up P1 q2 ((2, 0), aN_ G 200 (fun _ => none))) q2 = some ((2, 0), aN_ G 200 (fun _ => none)) := mw_at
  have k2 : kx_ M (mw_up P1 q2 ((2, 0), aN_ G 200 (fun _ => none))) := kx_tr l1 (kx_nw hn2)
  generalize mw_up P1 q2 ((2, 0), aN_ G 200 (fun _ => none)) = N2 at hM x2 k2 a1_2 a2_2
  refine pf_X_17 F hin (o := some q2) hM x2 (Nat.le_of_ble_eq_true rfl) dX_init_20 (fun H locs hM => ?_)
  have hM : mw_S G (mw_up N2 x ((0, 0), .inr (ciX, [.ref q1, .int 0, .ref q2, .int 0, .int 0, .null]))) s.heap H locs := hM
  have y2 := mw_at (M := N2) (a := x) (x := ((0, 0), .inr (ciX, [.ref q1, .int 0, .ref q2, .int 0, .int 0, .null])))
  have b1_2 := mw_oth (g := .inr (ciX, [.ref q1, .int 0, .ref q2, .int 0, .int 0, .null])) x2 a1_2 (by decide)
  have b2_2 := mw_oth (g := .inr (ciX, [.ref q1, .int 0, .ref q2, .int 0, .int 0, .null])) x2 a2_2 (by decide)
  have l2 : kx_ M (mw_up N2 x ((0, 0), .inr (ciX, [.ref q1, .int 0, .ref q2, .int 0, .int 0, .null]))) := kx_tr k2 (kx_up x2 (by decide))
  generalize mw_up N2 x ((0, 0), .inr (ciX, [.ref q1, .int 0, .ref q2, .int 0, .int 0, .null])) = P2 at hM y2 l2 b1_2 b2_2
  refine lv_aload_n hx hb dX_init_23 rfl (lv_at hl 0 rfl) ?_
  refine lv_bipush (v := 40) hx hb dX_init_24 (by decide) ?_
  refine mw_nai F (3, 0) ka_int (by decide) rfl (by decide) hM ⟨Nat.le_of_ble_eq_true rfl, Nat.le_of_ble_eq_true rfl⟩ dX_init_26 (fun q3 H hn3 hM => ?_)
  have hM : mw_S G (mw_up P2 q3 ((3, 0), aI_ G 40 (fun _ => 0))) s.heap H _ := hM
  have x3 := mw_old (x := ((3, 0), aI_ G 40 (fun _ => 0))) hn3 y2
  have a1_3 := mw_old (x := ((3, 0), aI_ G 40 (fun _ => 0))) hn3 b1_2
  have a2_3 := mw_old (x := ((3, 0), aI_ G 40 (fun _ => 0))) hn3 b2_2
  have a3_3 : (mw_up P2 q3 ((3, 0), aI_ G 40 (fun _ => 0))) q3 = some ((3, 0), aI_ G 40 (fun _ => 0)) := mw_at
  have k3 : kx_ M (mw_up P2 q3 ((3, 0), aI_ G 40 (fun _ => 0))) := kx_tr l2 (kx_nw hn3)
  generalize mw_up P2 q3 ((3, 0), aI_ G 40 (fun _ => 0)) = N3 at hM x3 k3 a1_3 a2_3 a3_3
  refine pf_X_21 F hin (o := some q3) hM x3 (Nat.le_of_ble_eq_true rfl) dX_init_28 (fun H locs hM => ?_)
  have hM : mw_S G (mw_up N3 x ((0, 0), .inr (ciX, [.ref q1, .int 0, .ref q2, .int 0, .int 0, .ref q3]))) s.heap H locs := hM
  have y3 := mw_at (M := N3) (a := x) (x := ((0, 0), .inr (ciX, [.ref q1, .int 0, .ref q2, .int 0, .int 0, .ref q3])))
  have b1_3 := mw_oth (g := .inr (ciX, [.ref q1, .int 0, .ref q2, .int 0, .int 0, .ref q3])) x3 a1_3 (by decide)
  have b2_3 := mw_oth (g := .inr (ciX, [.ref q1, .int 0, .ref q2, .int 0, .int 0, .ref q3])) x3 a2_3 (by decide)
  have b3_3 := mw_oth (g := .inr (ciX, [.ref q1, .int 0, .ref q2, .int 0, .int 0, .ref q3])) x3 a3_3 (by decide)
  have l3 : kx_ M (mw_up N3 x ((0, 0), .inr (ciX, [.ref q1, .int 0, .ref q2, .int 0, .int 0, .ref q3]))) := kx_tr k3 (kx_up x3 (by decide))
  generalize mw_up N3 x ((0, 0), .inr (ciX, [.ref q1, .int 0, .ref q2, .int 0, .int 0, .ref q3])) = P3 at hM y3 l3 b1_3 b2_3 b3_3
  refine lv_aload_n hx hb dX_init_31 rfl (lv_at hl 0 rfl) ?_
  refine lv_iconst (v := 0) hx hb dX_init_32 (by decide) ?_
  refine pf_X_25 F hM y3 (Nat.le_of_ble_eq_true rfl) dX_init_33 (fun H locs hM => ?_)
  have hM : mw_S G (mw_up P3 x ((0, 0), .inr (ciX, [.ref q1, .int 0, .ref q2, .int 0, .int 0, .ref q3]))) s.heap H locs := hM
  have y4 := mw_at (M := P3) (a := x) (x := ((0, 0), .inr (ciX, [.ref q1, .int 0, .ref q2, .int 0, .int 0, .ref q3])))
  have b1_4 := mw_oth (g := .inr (ciX, [.ref q1, .int 0, .ref q2, .int 0, .int 0, .ref q3])) y3 b1_3 (by decide)
  have b2_4 := mw_oth (g := .inr (ciX, [.ref q1, .int 0, .ref q2, .int 0, .int 0, .ref q3])) y3 b2_3 (by decide)
  have b3_4 := mw_oth (g := .inr (ciX, [.ref q1, .int 0, .ref q2, .int 0, .int 0, .ref q3])) y3 b3_3 (by decide)
  have l4 : kx_ M (mw_up P3 x ((0, 0), .inr (ciX, [.ref q1, .int 0, .ref q2, .int 0, .int 0, .ref q3]))) := kx_tr l3 (kx_up y3 (by decide))
  generalize mw_up P3 x ((0, 0), .inr (ciX, [.ref q1, .int 0, .ref q2, .int 0, .int 0, .ref q3])) = P4 at hM y4 l4 b1_4 b2_4 b3_4
  refine lv_aload_n hx hb dX_init_36 rfl (lv_at hl 0 rfl) ?_
  refine lv_iconst (v := 0) hx hb dX_init_37 (by decide) ?_
  refine pf_X_29 F hM y4 (Nat.le_of_ble_eq_true rfl) dX_init_38 (fun H locs hM => ?_)
  have hM : mw_S G (mw_up P4 x ((0, 0), .inr (ciX, [.ref q1, .int 0, .ref q2, .int 0, .int 0, .ref q3]))) s.heap H locs := hM
  have y5 := mw_at (M := P4) (a := x) (x := ((0, 0), .inr (ciX, [.ref q1, .int 0, .ref q2, .int 0, .int 0, .ref q3])))
  have b1_5 := mw_oth (g := .inr (ciX, [.ref q1, .int 0, .ref q2, .int 0, .int 0, .ref q3])) y4 b1_4 (by decide)
  have b2_5 := mw_oth (g := .inr (ciX, [.ref q1, .int 0, .ref q2, .int 0, .int 0, .ref q3])) y4 b2_4 (by decide)
  have b3_5 := mw_oth (g := .inr (ciX, [.ref q1, .int 0, .ref q2, .int 0, .int 0, .ref q3])) y4 b3_4 (by decide)
  have l5 : kx_ M (mw_up P4 x ((0, 0), .inr (ciX, [.ref q1, .int 0, .ref q2, .int 0, .int 0, .ref q3]))) := kx_tr l4 (kx_up y4 (by decide))
  generalize mw_up P4 x ((0, 0), .inr (ciX, [.ref q1, .int 0, .ref q2, .int 0, .int 0, .ref q3])) = P5 at hM y5 l5 b1_5 b2_5 b3_5
  refine lv_aload_n hx hb dX_init_41 rfl (lv_at hl 0 rfl) ?_
  refine lv_iconst (v := 0) hx hb dX_init_42 (by decide) ?_
  refine pf_X_32 F hM y5 (Nat.le_of_ble_eq_true rfl) dX_init_43 (fun H locs hM => ?_)
  have hM : mw_S G (mw_up P5 x ((0, 0), .inr (ciX, [.ref q1, .int 0, .ref q2, .int 0, .int 0, .ref q3]))) s.heap H locs := hM
  have y6 := mw_at (M := P5) (a := x) (x := ((0, 0), .inr (ciX, [.ref q1, .int 0, .ref q2, .int 0, .int 0, .ref q3])))
  have b1_6 := mw_oth (g := .inr (ciX, [.ref q1, .int 0, .ref q2, .int 0, .int 0, .ref q3])) y5 b1_5 (by decide)
  have b2_6 := mw_oth (g := .inr (ciX, [.ref q1, .int 0, .ref q2, .int 0, .int 0, .ref q3])) y5 b2_5 (by decide)
  have b3_6 := mw_oth (g := .inr (ciX, [.ref q1, .int 0, .ref q2, .int 0, .int 0, .ref q3])) y5 b3_5 (by decide)
  have l6 : kx_ M (mw_up P5 x ((0, 0), .inr (ciX, [.ref q1, .int 0, .ref q2, .int 0, .int 0, .ref q3]))) := kx_tr l5 (kx_up y5 (by decide))
  generalize mw_up P5 x ((0, 0), .inr (ciX, [.ref q1, .int 0, .ref q2, .int 0, .int 0, .ref q3])) = P6 at hM y6 l6 b1_6 b2_6 b3_6
  have e1 : (fun i => if i < sg_nc sg_0 then some ((fun _ => 0 : Nat → Nat) i) else none) = (fun _ => none : Nat → Option Nat) := by
    funext i
    exact if_neg (Nat.not_lt_zero i)
  have e2 : (fun i => if i < sg_nm sg_0 then some ((fun _ => 0 : Nat → Nat) i) else none) = (fun _ => none : Nat → Option Nat) := by
    funext i
    exact if_neg (Nat.not_lt_zero i)
  exact mr_v F hr hM (⟨rfl, q1, q2, q3, fun _ => 0, fun _ => 0, fun _ => 0, ⟨sg_W0, y6, by rw [e1]; exact b1_6, by rw [e2]; exact b2_6, b3_6, fun i hi => absurd hi (Nat.not_lt_zero i), fun j hj => absurd hj (Nat.not_lt_zero j)⟩, l6⟩) dX_init_46 ⟨Nat.le_of_ble_eq_true rfl, Nat.le_of_ble_eq_true rfl⟩
end GC
