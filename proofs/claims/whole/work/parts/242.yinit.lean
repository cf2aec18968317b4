section GC
variable {l : Launch} {G : mw_G} {M : mw_M}
set_option maxHeartbeats 4000000 in
set_option maxRecDepth 100000 in
theorem c_Y_init {y : Nat} (hq : M y = some ((10, 0), .inr (ciY, [.null, .null, .int 0, .null, .null, .null, .null, .null, .null, .null, .int 0, .int 0, .null, .int 0, .null]))) : mw_C l G yY_init bY_init 1 none { frames := 1, cells := 11, slots := 3202, locals := 40 } M [.ref y] (fun v M' => v = none ∧ ∃ (q : Nat → Nat) (f : Nat → Nat → Int32) (ch : Nat → Int32) (lk : Int32) (ov : Nat → Int32), yw_ G M' y q sg_0 0 f ch lk ov ∧ ky_ M M') := by
  refine mw_of (by decide) (Nat.le_of_ble_eq_true rfl) ?_
  intro pg en s mi below meth cd F hr hin hM ls hl
  obtain ⟨hx, hb, -⟩ := id F
  have hl : lv_has ls 1 [(0, .ref y)] := hl
  refine lv_aload_n hx hb dY_init_0 rfl (lv_at hl 0 rfl) ?_
  refine mw_oi F kl_Y_1 hl.1 dY_init_1 ⟨Nat.le_of_ble_eq_true rfl, Nat.le_of_ble_eq_true rfl⟩ ?_
  refine lv_aload_n hx hb dY_init_4 rfl (lv_at hl 0 rfl) ?_
  refine lv_bipush (v := 40) hx hb dY_init_5 (by decide) ?_
  refine mw_nai F (11, 0) ka_int (by decide) rfl (by decide) hM ⟨Nat.le_of_ble_eq_true rfl, Nat.le_of_ble_eq_true rfl⟩ dY_init_7 (fun q0 H hn0 hM => ?_)
  have hM : mw_S G (mw_up M q0 ((11, 0), aI_ G 40 (fun _ => 0))) s.heap H _ := hM
  have x0 := mw_old (x := ((11, 0), aI_ G 40 (fun _ => 0))) hn0 hq
  have a0_0 : (mw_up M q0 ((11, 0), aI_ G 40 (fun _ => 0))) q0 = some ((11, 0), aI_ G 40 (fun _ => 0)) := mw_at
  have k0 : ky_ M (mw_up M q0 ((11, 0), aI_ G 40 (fun _ => 0))) := ky_tr ky_rf (ky_nw hn0)
  generalize mw_up M q0 ((11, 0), aI_ G 40 (fun _ => 0)) = N0 at hM x0 k0 a0_0 
  refine pf_Y_7 F hin (o := some q0) hM x0 (Nat.le_of_ble_eq_true rfl) dY_init_9 (fun H locs hM => ?_)
  have hM : mw_S G (mw_up N0 y ((10, 0), .inr (ciY, [.ref q0, .null, .int 0, .null, .null, .null, .null, .null, .null, .null, .int 0, .int 0, .null, .int 0, .null]))) s.heap H locs := hM
  have y0 := mw_at (M := N0) (a := y) (x := ((10, 0), .inr (ciY, [.ref q0, .null, .int 0, .null, .null, .null, .null, .null, .null, .null, .int 0, .int 0, .null, .int 0, .null])))
  have b0_0 := mw_oth (g := .inr (ciY, [.ref q0, .null, .int 0, .null, .null, .null, .null, .null, .null, .null, .int 0, .int 0, .null, .int 0, .null])) x0 a0_0 (by decide)
  have l0 : ky_ M (mw_up N0 y ((10, 0), .inr (ciY, [.ref q0, .null, .int 0, .null, .null, .null, .null, .null, .null, .null, .int 0, .int 0, .null, .int 0, .null]))) := ky_tr k0 (ky_up x0 (by decide))
  generalize mw_up N0 y ((10, 0), .inr (ciY, [.ref q0, .null, .int 0, .null, .null, .null, .null, .null, .null, .null, .int 0, .int 0, .null, .int 0, .null])) = P0 at hM y0 l0 b0_0
  refine lv_aload_n hx hb dY_init_12 rfl (lv_at hl 0 rfl) ?_
  refine lv_bipush (v := 40) hx hb dY_init_13 (by decide) ?_
  refine mw_nai F (12, 0) ka_int (by decide) rfl (by decide) hM ⟨Nat.le_of_ble_eq_true rfl, Nat.le_of_ble_eq_true rfl⟩ dY_init_15 (fun q1 H hn1 hM => ?_)
  have hM : mw_S G (mw_up P0 q1 ((12, 0), aI_ G 40 (fun _ => 0))) s.heap H _ := hM
  have x1 := mw_old (x := ((12, 0), aI_ G 40 (fun _ => 0))) hn1 y0
  have a0_1 := mw_old (x := ((12, 0), aI_ G 40 (fun _ => 0))) hn1 b0_0
  have a1_1 : (mw_up P0 q1 ((12, 0), aI_ G 40 (fun _ => 0))) q1 = some ((12, 0), aI_ G 40 (fun _ => 0)) := mw_at
  have k1 : ky_ M (mw_up P0 q1 ((12, 0), aI_ G 40 (fun _ => 0))) := ky_tr l0 (ky_nw hn1)
  generalize mw_up P0 q1 ((12, 0), aI_ G 40 (fun _ => 0)) = N1 at hM x1 k1 a1_1 a0_1
  refine pf_Y_13 F hin (o := some q1) hM x1 (Nat.le_of_ble_eq_true rfl) dY_init_17 (fun H locs hM => ?_)
  have hM : mw_S G (mw_up N1 y ((10, 0), .inr (ciY, [.ref q0, .ref q1, .int 0, .null, .null, .null, .null, .null, .null, .null, .int 0, .int 0, .null, .int 0, .null]))) s.heap H locs := hM
  have y1 := mw_at (M := N1) (a := y) (x := ((10, 0), .inr (ciY, [.ref q0, .ref q1, .int 0, .null, .null, .null, .null, .null, .null, .null, .int 0, .int 0, .null, .int 0, .null])))
  have b0_1 := mw_oth (g := .inr (ciY, [.ref q0, .ref q1, .int 0, .null, .null, .null, .null, .null, .null, .null, .int 0, .int 0, .null, .int 0, .null])) x1 a0_1 (by decide)
  have b1_1 := mw_oth (g := .inr (ciY, [.ref q0, .ref q1, .int 0, .null, .null, .null, .null, .null, .null, .null, .int 0, .int 0, .null, .int 0, .null])) x1 a1_1 (by decide)
  have l1 : ky_ M (mw_up N1 y ((10, 0), .inr (ciY, [.ref q0, .ref q1, .int 0, .null, .null, .null, .null, .null, .null, .null, .int 0, .int 0, .null, .int 0, .null]))) := ky_tr k1 (ky_up x1 (by decide))
  generalize mw_up N1 y ((10, 0), .inr (ciY, [.ref q0, .ref q1, .int 0, .null, .null, .null, .null, .null, .null, .null, .int 0, .int 0, .null, .int 0, .null])) = P1 at hM y1 l1 b0_1 b1_1
  refine lv_aload_n hx hb dY_init_20 rfl (lv_at hl 0 rfl) ?_
  refine lv_sipush (v := 200) hx hb dY_init_21 (by decide) ?_
  refine mw_nai F (13, 0) ka_int (by decide) rfl (by decide) hM ⟨Nat.le_of_ble_eq_true rfl, Nat.le_of_ble_eq_true rfl⟩ dY_init_24 (fun q2 H hn2 hM => ?_)
  have hM : mw_S G (mw_up P1 q2 ((13, 0), aI_ G 200 (fun _ => 0))) s.heap H _ := hM
  have x2 := mw_old (x := ((13, 0), aI_ G 200 (fun _ => 0))) hn2 y1
  have a0_2 := mw_old (x := ((13, 0), aI_ G 200 (fun _ => 0))) hn2 b0_1
  have a1_2 := mw_old (x := ((13, 0), aI_ G 200 (fun _ => 0))) hn2 b1_1
  have a2_2 : (mw_up P1 q2 ((13, 0), aI_ G 200 (fun _ => 0))) q2 = some ((13, 0), aI_ G 200 (fun _ => 0)) := mw_at
  have k2 : ky_ M (mw_up P1 q2 ((13, 0), aI_ G 200 (fun _ => 0))) := ky_tr l1 (ky_nw hn2)
  generalize mw_up P1 q2 ((13, 0), aI_ G 200 (fun _ => 0)) = N2 at hM x2 k2 a2_2 a0_2 a1_2
  refine pf_Y_16 F hin (o := some q2) hM x2 (Nat.le_of_ble_eq_true rfl) dY_init_26 (fun H locs hM => ?_)
  have hM : mw_S G (mw_up N2 y ((10, 0), .inr (ciY, [.ref q0, .ref q1, .int 0, .ref q2, .null, .null, .null, .null, .null, .null, .int 0, .int 0, .null, .int 0, .null]))) s.heap H locs := hM
  have y2 := mw_at (M := N2) (a := y) (x := ((10, 0), .inr (ciY, [.ref q0, .ref q1, .int 0, .ref q2, .null, .null, .null, .null, .null, .null, .int 0, .int 0, .null, .int 0, .null])))
  have b0_2 := mw_oth (g := .inr (ciY, [.ref q0, .ref q1, .int 0, .ref q2, .null, .null, .null, .null, .null, .null, .int 0, .int 0, .null, .int 0, .null])) x2 a0_2 (by decide)
  have b1_2 := mw_oth (g := .inr (ciY, [.ref q0, .ref q1, .int 0, .ref q2, .null, .null, .null, .null, .null, .null, .int 0, .int 0, .null, .int 0, .null])) x2 a1_2 (by decide)
  have b2_2 := mw_oth (g := .inr (ciY, [.ref q0, .ref q1, .int 0, .ref q2, .null, .null, .null, .null, .null, .null, .int 0, .int 0, .null, .int 0, .null])) x2 a2_2 (by decide)
  have l2 : ky_ M (mw_up N2 y ((10, 0), .inr (ciY, [.ref q0, .ref q1, .int 0, .ref q2, .null, .null, .null, .null, .null, .null, .int 0, .int 0, .null, .int 0, .null]))) := ky_tr k2 (ky_up x2 (by decide))
  generalize mw_up N2 y ((10, 0), .inr (ciY, [.ref q0, .ref q1, .int 0, .ref q2, .null, .null, .null, .null, .null, .null, .int 0, .int 0, .null, .int 0, .null])) = P2 at hM y2 l2 b0_2 b1_2 b2_2
  refine lv_aload_n hx hb dY_init_29 rfl (lv_at hl 0 rfl) ?_
  refine lv_sipush (v := 200) hx hb dY_init_30 (by decide) ?_
  refine mw_nai F (14, 0) ka_int (by decide) rfl (by decide) hM ⟨Nat.le_of_ble_eq_true rfl, Nat.le_of_ble_eq_true rfl⟩ dY_init_33 (fun q3 H hn3 hM => ?_)
  have hM : mw_S G (mw_up P2 q3 ((14, 0), aI_ G 200 (fun _ => 0))) s.heap H _ := hM
  have x3 := mw_old (x := ((14, 0), aI_ G 200 (fun _ => 0))) hn3 y2
  have a0_3 := mw_old (x := ((14, 0), aI_ G 200 (fun _ => 0))) hn3 b0_2
  have a1_3 := mw_old (x := ((14, 0), aI_ G 200 (fun _ => 0))) hn3 b1_2
  have a2_3 := mw_old (x := ((14, 0), aI_ G 200 (fun _ => 0))) hn3 b2_2
  have a3_3 : (mw_up P2 q3 ((14, 0), aI_ G 200 (fun _ => 0))) q3 = some ((14, 0), aI_ G 200 (fun _ => 0)) := mw_at
  have k3 : ky_ M (mw_up P2 q3 ((14, 0), aI_ G 200 (fun _ => 0))) := ky_tr l2 (ky_nw hn3)
  generalize mw_up P2 q3 ((14, 0), aI_ G 200 (fun _ => 0)) = N3 at hM x3 k3 a3_3 a0_3 a1_3 a2_3
  refine pf_Y_19 F hin (o := some q3) hM x3 (Nat.le_of_ble_eq_true rfl) dY_init_35 (fun H locs hM => ?_)
  have hM : mw_S G (mw_up N3 y ((10, 0), .inr (ciY, [.ref q0, .ref q1, .int 0, .ref q2, .ref q3, .null, .null, .null, .null, .null, .int 0, .int 0, .null, .int 0, .null]))) s.heap H locs := hM
  have y3 := mw_at (M := N3) (a := y) (x := ((10, 0), .inr (ciY, [.ref q0, .ref q1, .int 0, .ref q2, .ref q3, .null, .null, .null, .null, .null, .int 0, .int 0, .null, .int 0, .null])))
  have b0_3 := mw_oth (g := .inr (ciY, [.ref q0, .ref q1, .int 0, .ref q2, .ref q3, .null, .null, .null, .null, .null, .int 0, .int 0, .null, .int 0, .null])) x3 a0_3 (by decide)
  have b1_3 := mw_oth (g := .inr (ciY, [.ref q0, .ref q1, .int 0, .ref q2, .ref q3, .null, .null, .null, .null, .null, .int 0, .int 0, .null, .int 0, .null])) x3 a1_3 (by decide)
  have b2_3 := mw_oth (g := .inr (ciY, [.ref q0, .ref q1, .int 0, .ref q2, .ref q3, .null, .null, .null, .null, .null, .int 0, .int 0, .null, .int 0, .null])) x3 a2_3 (by decide)
  have b3_3 := mw_oth (g := .inr (ciY, [.ref q0, .ref q1, .int 0, .ref q2, .ref q3, .null, .null, .null, .null, .null, .int 0, .int 0, .null, .int 0, .null])) x3 a3_3 (by decide)
  have l3 : ky_ M (mw_up N3 y ((10, 0), .inr (ciY, [.ref q0, .ref q1, .int 0, .ref q2, .ref q3, .null, .null, .null, .null, .null, .int 0, .int 0, .null, .int 0, .null]))) := ky_tr k3 (ky_up x3 (by decide))
  generalize mw_up N3 y ((10, 0), .inr (ciY, [.ref q0, .ref q1, .int 0, .ref q2, .ref q3, .null, .null, .null, .null, .null, .int 0, .int 0, .null, .int 0, .null])) = P3 at hM y3 l3 b0_3 b1_3 b2_3 b3_3
  refine lv_aload_n hx hb dY_init_38 rfl (lv_at hl 0 rfl) ?_
  refine lv_sipush (v := 200) hx hb dY_init_39 (by decide) ?_
  refine mw_nai F (15, 0) ka_int (by decide) rfl (by decide) hM ⟨Nat.le_of_ble_eq_true rfl, Nat.le_of_ble_eq_true rfl⟩ dY_init_42 (fun q4 H hn4 hM => ?_)
  have hM : mw_S G (mw_up P3 q4 ((15, 0), aI_ G 200 (fun _ => 0))) s.heap H _ := hM
  have x4 := mw_old (x := ((15, 0), aI_ G 200 (fun _ => 0))) hn4 y3
  have a0_4 := mw_old (x := ((15, 0), aI_ G 200 (fun _ => 0))) hn4 b0_3
  have a1_4 := mw_old (x := ((15, 0), aI_ G 200 (fun _ => 0))) hn4 b1_3
  have a2_4 := mw_old (x := ((15, 0), aI_ G 200 (fun _ => 0))) hn4 b2_3
  have a3_4 := mw_old (x := ((15, 0), aI_ G 200 (fun _ => 0))) hn4 b3_3
  have a4_4 : (mw_up P3 q4 ((15, 0), aI_ G 200 (fun _ => 0))) q4 = some ((15, 0), aI_ G 200 (fun _ => 0)) := mw_at
  have k4 : ky_ M (mw_up P3 q4 ((15, 0), aI_ G 200 (fun _ => 0))) := ky_tr l3 (ky_nw hn4)
  generalize mw_up P3 q4 ((15, 0), aI_ G 200 (fun _ => 0)) = N4 at hM x4 k4 a4_4 a0_4 a1_4 a2_4 a3_4
  refine pf_Y_22 F hin (o := some q4) hM x4 (Nat.le_of_ble_eq_true rfl) dY_init_44 (fun H locs hM => ?_)
  have hM : mw_S G (mw_up N4 y ((10, 0), .inr (ciY, [.ref q0, .ref q1, .int 0, .ref q2, .ref q3, .ref q4, .null, .null, .null, .null, .int 0, .int 0, .null, .int 0, .null]))) s.heap H locs := hM
  have y4 := mw_at (M := N4) (a := y) (x := ((10, 0), .inr (ciY, [.ref q0, .ref q1, .int 0, .ref q2, .ref q3, .ref q4, .null, .null, .null, .null, .int 0, .int 0, .null, .int 0, .null])))
  have b0_4 := mw_oth (g := .inr (ciY, [.ref q0, .ref q1, .int 0, .ref q2, .ref q3, .ref q4, .null, .null, .null, .null, .int 0, .int 0, .null, .int 0, .null])) x4 a0_4 (by decide)
  have b1_4 := mw_oth (g := .inr (ciY, [.ref q0, .ref q1, .int 0, .ref q2, .ref q3, .ref q4, .null, .null, .null, .null, .int 0, .int 0, .null, .int 0, .null])) x4 a1_4 (by decide)
  have b2_4 := mw_oth (g := .inr (ciY, [.ref q0, .ref q1, .int 0, .ref q2, .ref q3, .ref q4, .null, .null, .null, .null, .int 0, .int 0, .null, .int 0, .null])) x4 a2_4 (by decide)
  have b3_4 := mw_oth (g := .inr (ciY, [.ref q0, .ref q1, .int 0, .ref q2, .ref q3, .ref q4, .null, .null, .null, .null, .int 0, .int 0, .null, .int 0, .null])) x4 a3_4 (by decide)
  have b4_4 := mw_oth (g := .inr (ciY, [.ref q0, .ref q1, .int 0, .ref q2, .ref q3, .ref q4, .null, .null, .null, .null, .int 0, .int 0, .null, .int 0, .null])) x4 a4_4 (by decide)
  have l4 : ky_ M (mw_up N4 y ((10, 0), .inr (ciY, [.ref q0, .ref q1, .int 0, .ref q2, .ref q3, .ref q4, .null, .null, .null, .null, .int 0, .int 0, .null, .int 0, .null]))) := ky_tr k4 (ky_up x4 (by decide))
  generalize mw_up N4 y ((10, 0), .inr (ciY, [.ref q0, .ref q1, .int 0, .ref q2, .ref q3, .ref q4, .null, .null, .null, .null, .int 0, .int 0, .null, .int 0, .null])) = P4 at hM y4 l4 b0_4 b1_4 b2_4 b3_4 b4_4
  refine lv_aload_n hx hb dY_init_47 rfl (lv_at hl 0 rfl) ?_
  refine lv_sipush (v := 200) hx hb dY_init_48 (by decide) ?_
  refine mw_nai F (16, 0) ka_int (by decide) rfl (by decide) hM ⟨Nat.le_of_ble_eq_true rfl, Nat.le_of_ble_eq_true rfl⟩ dY_init_51 (fun q5 H hn5 hM => ?_)
  have hM : mw_S G (mw_up P4 q5 ((16, 0), aI_ G 200 (fun _ => 0))) s.heap H _ := hM
  have x5 := mw_old (x := ((16, 0), aI_ G 200 (fun _ => 0))) hn5 y4
  have a0_5 := mw_old (x := ((16, 0), aI_ G 200 (fun _ => 0))) hn5 b0_4
  have a1_5 := mw_old (x := ((16, 0), aI_ G 200 (fun _ => 0))) hn5 b1_4
  have a2_5 := mw_old (x := ((16, 0), aI_ G 200 (fun _ => 0))) hn5 b2_4
  have a3_5 := mw_old (x := ((16, 0), aI_ G 200 (fun _ => 0))) hn5 b3_4
  have a4_5 := mw_old (x := ((16, 0), aI_ G 200 (fun _ => 0))) hn5 b4_4
  have a5_5 : (mw_up P4 q5 ((16, 0), aI_ G 200 (fun _ => 0))) q5 = some ((16, 0), aI_ G 200 (fun _ => 0)) := mw_at
  have k5 : ky_ M (mw_up P4 q5 ((16, 0), aI_ G 200 (fun _ => 0))) := ky_tr l4 (ky_nw hn5)
  generalize mw_up P4 q5 ((16, 0), aI_ G 200 (fun _ => 0)) = N5 at hM x5 k5 a5_5 a0_5 a1_5 a2_5 a3_5 a4_5
  refine pf_Y_25 F hin (o := some q5) hM x5 (Nat.le_of_ble_eq_true rfl) dY_init_53 (fun H locs hM => ?_)
  have hM : mw_S G (mw_up N5 y ((10, 0), .inr (ciY, [.ref q0, .ref q1, .int 0, .ref q2, .ref q3, .ref q4, .ref q5, .null, .null, .null, .int 0, .int 0, .null, .int 0, .null]))) s.heap H locs := hM
  have y5 := mw_at (M := N5) (a := y) (x := ((10, 0), .inr (ciY, [.ref q0, .ref q1, .int 0, .ref q2, .ref q3, .ref q4, .ref q5, .null, .null, .null, .int 0, .int 0, .null, .int 0, .null])))
  have b0_5 := mw_oth (g := .inr (ciY, [.ref q0, .ref q1, .int 0, .ref q2, .ref q3, .ref q4, .ref q5, .null, .null, .null, .int 0, .int 0, .null, .int 0, .null])) x5 a0_5 (by decide)
  have b1_5 := mw_oth (g := .inr (ciY, [.ref q0, .ref q1, .int 0, .ref q2, .ref q3, .ref q4, .ref q5, .null, .null, .null, .int 0, .int 0, .null, .int 0, .null])) x5 a1_5 (by decide)
  have b2_5 := mw_oth (g := .inr (ciY, [.ref q0, .ref q1, .int 0, .ref q2, .ref q3, .ref q4, .ref q5, .null, .null, .null, .int 0, .int 0, .null, .int 0, .null])) x5 a2_5 (by decide)
  have b3_5 := mw_oth (g := .inr (ciY, [.ref q0, .ref q1, .int 0, .ref q2, .ref q3, .ref q4, .ref q5, .null, .null, .null, .int 0, .int 0, .null, .int 0, .null])) x5 a3_5 (by decide)
  have b4_5 := mw_oth (g := .inr (ciY, [.ref q0, .ref q1, .int 0, .ref q2, .ref q3, .ref q4, .ref q5, .null, .null, .null, .int 0, .int 0, .null, .int 0, .null])) x5 a4_5 (by decide)
  have b5_5 := mw_oth (g := .inr (ciY, [.ref q0, .ref q1, .int 0, .ref q2, .ref q3, .ref q4, .ref q5, .null, .null, .null, .int 0, .int 0, .null, .int 0, .null])) x5 a5_5 (by decide)
  have l5 : ky_ M (mw_up N5 y ((10, 0), .inr (ciY, [.ref q0, .ref q1, .int 0, .ref q2, .ref q3, .ref q4, .ref q5, .null, .null, .null, .int 0, .int 0, .null, .int 0, .null]))) := ky_tr k5 (ky_up x5 (by decide))
  generalize mw_up N5 y ((10, 0), .inr (ciY, [.ref q0, .ref q1, .int 0, .ref q2, .ref q3, .ref q4, .ref q5, .null, .null, .null, .int 0, .int 0, .null, .int 0, .null])) = P5 at hM y5 l5 b0_5 b1_5 b2_5 b3_5 b4_5 b5_5
  refine lv_aload_n hx hb dY_init_56 rfl (lv_at hl 0 rfl) ?_
  refine lv_sipush (v := 200) hx hb dY_init_57 (by decide) ?_
  refine mw_nai F (17, 0) ka_int (by decide) rfl (by decide) hM ⟨Nat.le_of_ble_eq_true rfl, Nat.le_of_ble_eq_true rfl⟩ dY_init_60 (fun q6 H hn6 hM => ?_)
  have hM : mw_S G (mw_up P5 q6 ((17, 0), aI_ G 200 (fun _ => 0))) s.heap H _ := hM
  have x6 := mw_old (x := ((17, 0), aI_ G 200 (fun _ => 0))) hn6 y5
  have a0_6 := mw_old (x := ((17, 0), aI_ G 200 (fun _ => 0))) hn6 b0_5
  have a1_6 := mw_old (x := ((17, 0), aI_ G 200 (fun _ => 0))) hn6 b1_5
  have a2_6 := mw_old (x := ((17, 0), aI_ G 200 (fun _ => 0))) hn6 b2_5
  have a3_6 := mw_old (x := ((17, 0), aI_ G 200 (fun _ => 0))) hn6 b3_5
  have a4_6 := mw_old (x := ((17, 0), aI_ G 200 (fun _ => 0))) hn6 b4_5
  have a5_6 := mw_old (x := ((17, 0), aI_ G 200 (fun _ => 0))) hn6 b5_5
  have a6_6 : (mw_up P5 q6 ((17, 0), aI_ G 200 (fun _ => 0))) q6 = some ((17, 0), aI_ G 200 (fun _ => 0)) := mw_at
  have k6 : ky_ M (mw_up P5 q6 ((17, 0), aI_ G 200 (fun _ => 0))) := ky_tr l5 (ky_nw hn6)
  generalize mw_up P5 q6 ((17, 0), aI_ G 200 (fun _ => 0)) = N6 at hM x6 k6 a6_6 a0_6 a1_6 a2_6 a3_6 a4_6 a5_6
  refine pf_Y_28 F hin (o := some q6) hM x6 (Nat.le_of_ble_eq_true rfl) dY_init_62 (fun H locs hM => ?_)
  have hM : mw_S G (mw_up N6 y ((10, 0), .inr (ciY, [.ref q0, .ref q1, .int 0, .ref q2, .ref q3, .ref q4, .ref q5, .ref q6, .null, .null, .int 0, .int 0, .null, .int 0, .null]))) s.heap H locs := hM
  have y6 := mw_at (M := N6) (a := y) (x := ((10, 0), .inr (ciY, [.ref q0, .ref q1, .int 0, .ref q2, .ref q3, .ref q4, .ref q5, .ref q6, .null, .null, .int 0, .int 0, .null, .int 0, .null])))
  have b0_6 := mw_oth (g := .inr (ciY, [.ref q0, .ref q1, .int 0, .ref q2, .ref q3, .ref q4, .ref q5, .ref q6, .null, .null, .int 0, .int 0, .null, .int 0, .null])) x6 a0_6 (by decide)
  have b1_6 := mw_oth (g := .inr (ciY, [.ref q0, .ref q1, .int 0, .ref q2, .ref q3, .ref q4, .ref q5, .ref q6, .null, .null, .int 0, .int 0, .null, .int 0, .null])) x6 a1_6 (by decide)
  have b2_6 := mw_oth (g := .inr (ciY, [.ref q0, .ref q1, .int 0, .ref q2, .ref q3, .ref q4, .ref q5, .ref q6, .null, .null, .int 0, .int 0, .null, .int 0, .null])) x6 a2_6 (by decide)
  have b3_6 := mw_oth (g := .inr (ciY, [.ref q0, .ref q1, .int 0, .ref q2, .ref q3, .ref q4, .ref q5, .ref q6, .null, .null, .int 0, .int 0, .null, .int 0, .null])) x6 a3_6 (by decide)
  have b4_6 := mw_oth (g := .inr (ciY, [.ref q0, .ref q1, .int 0, .ref q2, .ref q3, .ref q4, .ref q5, .ref q6, .null, .null, .int 0, .int 0, .null, .int 0, .null])) x6 a4_6 (by decide)
  have b5_6 := mw_oth (g := .inr (ciY, [.ref q0, .ref q1, .int 0, .ref q2, .ref q3, .ref q4, .ref q5, .ref q6, .null, .null, .int 0, .int 0, .null, .int 0, .null])) x6 a5_6 (by decide)
  have b6_6 := mw_oth (g := .inr (ciY, [.ref q0, .ref q1, .int 0, .ref q2, .ref q3, .ref q4, .ref q5, .ref q6, .null, .null, .int 0, .int 0, .null, .int 0, .null])) x6 a6_6 (by decide)
  have l6 : ky_ M (mw_up N6 y ((10, 0), .inr (ciY, [.ref q0, .ref q1, .int 0, .ref q2, .ref q3, .ref q4, .ref q5, .ref q6, .null, .null, .int 0, .int 0, .null, .int 0, .null]))) := ky_tr k6 (ky_up x6 (by decide))
  generalize mw_up N6 y ((10, 0), .inr (ciY, [.ref q0, .ref q1, .int 0, .ref q2, .ref q3, .ref q4, .ref q5, .ref q6, .null, .null, .int 0, .int 0, .null, .int 0, .null])) = P6 at hM y6 l6 b0_6 b1_6 b2_6 b3_6 b4_6 b5_6 b6_6
  refine lv_aload_n hx hb dY_init_65 rfl (lv_at hl 0 rfl) ?_
  refine lv_sipush (v := 200) hx hb dY_init_66 (by decide) ?_
  refine mw_naz F (18, 0) ka_boolean (by decide) rfl (by decide) hM ⟨Nat.le_of_ble_eq_true rfl, Nat.le_of_ble_eq_true rfl⟩ dY_init_69 (fun q7 H hn7 hM => ?_)
  have hM : mw_S G (mw_up P6 q7 ((18, 0), aZ_ G 200 (fun _ => 0))) s.heap H _ := hM
  have x7 := mw_old (x := ((18, 0), aZ_ G 200 (fun _ => 0))) hn7 y6
  have a0_7 := mw_old (x := ((18, 0), aZ_ G 200 (fun _ => 0))) hn7 b0_6
  have a1_7 := mw_old (x := ((18, 0), aZ_ G 200 (fun _ => 0))) hn7 b1_6
  have a2_7 := mw_old (x := ((18, 0), aZ_ G 200 (fun _ => 0))) hn7 b2_6
  have a3_7 := mw_old (x := ((18, 0), aZ_ G 200 (fun _ => 0))) hn7 b3_6
  have a4_7 := mw_old (x := ((18, 0), aZ_ G 200 (fun _ => 0))) hn7 b4_6
  have a5_7 := mw_old (x := ((18, 0), aZ_ G 200 (fun _ => 0))) hn7 b5_6
  have a6_7 := mw_old (x := ((18, 0), aZ_ G 200 (fun _ => 0))) hn7 b6_6
  have a7_7 : (mw_up P6 q7 ((18, 0), aZ_ G 200 (fun _ => 0))) q7 = some ((18, 0), aZ_ G 200 (fun _ => 0)) := mw_at
  have k7 : ky_ M (mw_up P6 q7 ((18, 0), aZ_ G 200 (fun _ => 0))) := ky_tr l6 (ky_nw hn7)
  generalize mw_up P6 q7 ((18, 0), aZ_ G 200 (fun _ => 0)) = N7 at hM x7 k7 a7_7 a0_7 a1_7 a2_7 a3_7 a4_7 a5_7 a6_7
  refine pf_Y_31 F hin (o := some q7) hM x7 (Nat.le_of_ble_eq_true rfl) dY_init_71 (fun H locs hM => ?_)
  have hM : mw_S G (mw_up N7 y ((10, 0), .inr (ciY, [.ref q0, .ref q1, .int 0, .ref q2, .ref q3, .ref q4, .ref q5, .ref q6, .ref q7, .null, .int 0, .int 0, .null, .int 0, .null]))) s.heap H locs := hM
  have y7 := mw_at (M := N7) (a := y) (x := ((10, 0), .inr (ciY, [.ref q0, .ref q1, .int 0, .ref q2, .ref q3, .ref q4, .ref q5, .ref q6, .ref q7, .null, .int 0, .int 0, .null, .int 0, .null])))
  have b0_7 := mw_oth (g := .inr (ciY, [.ref q0, .ref q1, .int 0, .ref q2, .ref q3, .ref q4, .ref q5, .ref q6, .ref q7, .null, .int 0, .int 0, .null, .int 0, .null])) x7 a0_7 (by decide)
  have b1_7 := mw_oth (g := .inr (ciY, [.ref q0, .ref q1, .int 0, .ref q2, .ref q3, .ref q4, .ref q5, .ref q6, .ref q7, .null, .int 0, .int 0, .null, .int 0, .null])) x7 a1_7 (by decide)
  have b2_7 := mw_oth (g := .inr (ciY, [.ref q0, .ref q1, .int 0, .ref q2, .ref q3, .ref q4, .ref q5, .ref q6, .ref q7, .null, .int 0, .int 0, .null, .int 0, .null])) x7 a2_7 (by decide)
  have b3_7 := mw_oth (g := .inr (ciY, [.ref q0, .ref q1, .int 0, .ref q2, .ref q3, .ref q4, .ref q5, .ref q6, .ref q7, .null, .int 0, .int 0, .null, .int 0, .null])) x7 a3_7 (by decide)
  have b4_7 := mw_oth (g := .inr (ciY, [.ref q0, .ref q1, .int 0, .ref q2, .ref q3, .ref q4, .ref q5, .ref q6, .ref q7, .null, .int 0, .int 0, .null, .int 0, .null])) x7 a4_7 (by decide)
  have b5_7 := mw_oth (g := .inr (ciY, [.ref q0, .ref q1, .int 0, .ref q2, .ref q3, .ref q4, .ref q5, .ref q6, .ref q7, .null, .int 0, .int 0, .null, .int 0, .null])) x7 a5_7 (by decide)
  have b6_7 := mw_oth (g := .inr (ciY, [.ref q0, .ref q1, .int 0, .ref q2, .ref q3, .ref q4, .ref q5, .ref q6, .ref q7, .null, .int 0, .int 0, .null, .int 0, .null])) x7 a6_7 (by decide)
  have b7_7 := mw_oth (g := .inr (ciY, [.ref q0, .ref q1, .int 0, .ref q2, .ref q3, .ref q4, .ref q5, .ref q6, .ref q7, .null, .int 0, .int 0, .null, .int 0, .null])) x7 a7_7 (by decide)
  have l7 : ky_ M (mw_up N7 y ((10, 0), .inr (ciY, [.ref q0, .ref q1, .int 0, .ref q2, .ref q3, .ref q4, .ref q5, .ref q6, .ref q7, .null, .int 0, .int 0, .null, .int 0, .null]))) := ky_tr k7 (ky_up x7 (by decide))
  generalize mw_up N7 y ((10, 0), .inr (ciY, [.ref q0, .ref q1, .int 0, .ref q2, .ref q3, .ref q4, .ref q5, .ref q6, .ref q7, .null, .int 0, .int 0, .null, .int 0, .null])) = P7 at hM y7 l7 b0_7 b1_7 b2_7 b3_7 b4_7 b5_7 b6_7 b7_7
  refine lv_aload_n hx hb dY_init_74 rfl (lv_at hl 0 rfl) ?_
  refine lv_sipush (v := 200) hx hb dY_init_75 (by decide) ?_
  refine mw_naz F (19, 0) ka_boolean (by decide) rfl (by decide) hM ⟨Nat.le_of_ble_eq_true rfl, Nat.le_of_ble_eq_true rfl⟩ dY_init_78 (fun q8 H hn8 hM => ?_)
  have hM : mw_S G (mw_up P7 q8 ((19, 0), aZ_ G 200 (fun _ => 0))) s.heap H _ := hM
  have x8 := mw_old (x := ((19, 0), aZ_ G 200 (fun _ => 0))) hn8 y7
  have a0_8 := mw_old (x := ((19, 0), aZ_ G 200 (fun _ => 0))) hn8 b0_7
  have a1_8 := mw_old (x := ((19, 0), aZ_ G 200 (fun _ => 0))) hn8 b1_7
  have a2_8 := mw_old (x := ((19, 0), aZ_ G 200 (fun _ => 0))) hn8 b2_7
  have a3_8 := mw_old (x := ((19, 0), aZ_ G 200 (fun _ => 0))) hn8 b3_7
  have a4_8 := mw_old (x := ((19, 0), aZ_ G 200 (fun _ => 0))) hn8 b4_7
  have a5_8 := mw_old (x := ((19, 0), aZ_ G 200 (fun _ => 0))) hn8 b5_7
  have a6_8 := mw_old (x := ((19, 0), aZ_ G 200 (fun _ => 0))) hn8 b6_7
  have a7_8 := mw_old (x := ((19, 0), aZ_ G 200 (fun _ => 0))) hn8 b7_7
  have a8_8 : (mw_up P7 q8 ((19, 0), aZ_ G 200 (fun _ => 0))) q8 = some ((19, 0), aZ_ G 200 (fun _ => 0)) := mw_at
  have k8 : ky_ M (mw_up P7 q8 ((19, 0), aZ_ G 200 (fun _ => 0))) := ky_tr l7 (ky_nw hn8)
  generalize mw_up P7 q8 ((19, 0), aZ_ G 200 (fun _ => 0)) = N8 at hM x8 k8 a8_8 a0_8 a1_8 a2_8 a3_8 a4_8 a5_8 a6_8 a7_8
  refine pf_Y_35 F hin (o := some q8) hM x8 (Nat.le_of_ble_eq_true rfl) dY_init_80 (fun H locs hM => ?_)
  have hM : mw_S G (mw_up N8 y ((10, 0), .inr (ciY, [.ref q0, .ref q1, .int 0, .ref q2, .ref q3, .ref q4, .ref q5, .ref q6, .ref q7, .ref q8, .int 0, .int 0, .null, .int 0, .null]))) s.heap H locs := hM
  have y8 := mw_at (M := N8) (a := y) (x := ((10, 0), .inr (ciY, [.ref q0, .ref q1, .int 0, .ref q2, .ref q3, .ref q4, .ref q5, .ref q6, .ref q7, .ref q8, .int 0, .int 0, .null, .int 0, .null])))
  have b0_8 := mw_oth (g := .inr (ciY, [.ref q0, .ref q1, .int 0, .ref q2, .ref q3, .ref q4, .ref q5, .ref q6, .ref q7, .ref q8, .int 0, .int 0, .null, .int 0, .null])) x8 a0_8 (by decide)
  have b1_8 := mw_oth (g := .inr (ciY, [.ref q0, .ref q1, .int 0, .ref q2, .ref q3, .ref q4, .ref q5, .ref q6, .ref q7, .ref q8, .int 0, .int 0, .null, .int 0, .null])) x8 a1_8 (by decide)
  have b2_8 := mw_oth (g := .inr (ciY, [.ref q0, .ref q1, .int 0, .ref q2, .ref q3, .ref q4, .ref q5, .ref q6, .ref q7, .ref q8, .int 0, .int 0, .null, .int 0, .null])) x8 a2_8 (by decide)
  have b3_8 := mw_oth (g := .inr (ciY, [.ref q0, .ref q1, .int 0, .ref q2, .ref q3, .ref q4, .ref q5, .ref q6, .ref q7, .ref q8, .int 0, .int 0, .null, .int 0, .null])) x8 a3_8 (by decide)
  have b4_8 := mw_oth (g := .inr (ciY, [.ref q0, .ref q1, .int 0, .ref q2, .ref q3, .ref q4, .ref q5, .ref q6, .ref q7, .ref q8, .int 0, .int 0, .null, .int 0, .null])) x8 a4_8 (by decide)
  have b5_8 := mw_oth (g := .inr (ciY, [.ref q0, .ref q1, .int 0, .ref q2, .ref q3, .ref q4, .ref q5, .ref q6, .ref q7, .ref q8, .int 0, .int 0, .null, .int 0, .null])) x8 a5_8 (by decide)
  have b6_8 := mw_oth (g := .inr (ciY, [.ref q0, .ref q1, .int 0, .ref q2, .ref q3, .ref q4, .ref q5, .ref q6, .ref q7, .ref q8, .int 0, .int 0, .null, .int 0, .null])) x8 a6_8 (by decide)
  have b7_8 := mw_oth (g := .inr (ciY, [.ref q0, .ref q1, .int 0, .ref q2, .ref q3, .ref q4, .ref q5, .ref q6, .ref q7, .ref q8, .int 0, .int 0, .null, .int 0, .null])) x8 a7_8 (by decide)
  have b8_8 := mw_oth (g := .inr (ciY, [.ref q0, .ref q1, .int 0, .ref q2, .ref q3, .ref q4, .ref q5, .ref q6, .ref q7, .ref q8, .int 0, .int 0, .null, .int 0, .null])) x8 a8_8 (by decide)
  have l8 : ky_ M (mw_up N8 y ((10, 0), .inr (ciY, [.ref q0, .ref q1, .int 0, .ref q2, .ref q3, .ref q4, .ref q5, .ref q6, .ref q7, .ref q8, .int 0, .int 0, .null, .int 0, .null]))) := ky_tr k8 (ky_up x8 (by decide))
  generalize mw_up N8 y ((10, 0), .inr (ciY, [.ref q0, .ref q1, .int 0, .ref q2, .ref q3, .ref q4, .ref q5, .ref q6, .ref q7, .ref q8, .int 0, .int 0, .null, .int 0, .null])) = P8 at hM y8 l8 b0_8 b1_8 b2_8 b3_8 b4_8 b5_8 b6_8 b7_8 b8_8
  refine lv_aload_n hx hb dY_init_83 rfl (lv_at hl 0 rfl) ?_
  refine lv_bipush (v := 41) hx hb dY_init_84 (by decide) ?_
  refine mw_nai F (20, 0) ka_int (by decide) rfl (by decide) hM ⟨Nat.le_of_ble_eq_true rfl, Nat.le_of_ble_eq_true rfl⟩ dY_init_86 (fun q9 H hn9 hM => ?_)
  have hM : mw_S G (mw_up P8 q9 ((20, 0), aI_ G 41 (fun _ => 0))) s.heap H _ := hM
  have x9 := mw_old (x := ((20, 0), aI_ G 41 (fun _ => 0))) hn9 y8
  have a0_9 := mw_old (x := ((20, 0), aI_ G 41 (fun _ => 0))) hn9 b0_8
  have a1_9 := mw_old (x := ((20, 0), aI_ G 41 (fun _ => 0))) hn9 b1_8
  have a2_9 := mw_old (x := ((20, 0), aI_ G 41 (fun _ => 0))) hn9 b2_8
  have a3_9 := mw_old (x := ((20, 0), aI_ G 41 (fun _ => 0))) hn9 b3_8
  have a4_9 := mw_old (x := ((20, 0), aI_ G 41 (fun _ => 0))) hn9 b4_8
  have a5_9 := mw_old (x := ((20, 0), aI_ G 41 (fun _ => 0))) hn9 b5_8
  have a6_9 := mw_old (x := ((20, 0), aI_ G 41 (fun _ => 0))) hn9 b6_8
  have a7_9 := mw_old (x := ((20, 0), aI_ G 41 (fun _ => 0))) hn9 b7_8
  have a8_9 := mw_old (x := ((20, 0), aI_ G 41 (fun _ => 0))) hn9 b8_8
  have a9_9 : (mw_up P8 q9 ((20, 0), aI_ G 41 (fun _ => 0))) q9 = some ((20, 0), aI_ G 41 (fun _ => 0)) := mw_at
  have k9 : ky_ M (mw_up P8 q9 ((20, 0), aI_ G 41 (fun _ => 0))) := ky_tr l8 (ky_nw hn9)
  generalize mw_up P8 q9 ((20, 0), aI_ G 41 (fun _ => 0)) = N9 at hM x9 k9 a9_9 a0_9 a1_9 a2_9 a3_9 a4_9 a5_9 a6_9 a7_9 a8_9
  refine pf_Y_38 F hin (o := some q9) hM x9 (Nat.le_of_ble_eq_true rfl) dY_init_88 (fun H locs hM => ?_)
  have hM : mw_S G (mw_up N9 y ((10, 0), .inr (ciY, [.ref q0, .ref q1, .int 0, .ref q2, .ref q3, .ref q4, .ref q5, .ref q6, .ref q7, .ref q8, .int 0, .int 0, .ref q9, .int 0, .null]))) s.heap H locs := hM
  have y9 := mw_at (M := N9) (a := y) (x := ((10, 0), .inr (ciY, [.ref q0, .ref q1, .int 0, .ref q2, .ref q3, .ref q4, .ref q5, .ref q6, .ref q7, .ref q8, .int 0, .int 0, .ref q9, .int 0, .null])))
  have b0_9 := mw_oth (g := .inr (ciY, [.ref q0, .ref q1, .int 0, .ref q2, .ref q3, .ref q4, .ref q5, .ref q6, .ref q7, .ref q8, .int 0, .int 0, .ref q9, .int 0, .null])) x9 a0_9 (by decide)
  have b1_9 := mw_oth (g := .inr (ciY, [.ref q0, .ref q1, .int 0, .ref q2, .ref q3, .ref q4, .ref q5, .ref q6, .ref q7, .ref q8, .int 0, .int 0, .ref q9, .int 0, .null])) x9 a1_9 (by decide)
  have b2_9 := mw_oth (g := .inr (ciY, [.ref q0, .ref q1, .int 0, .ref q2, .ref q3, .ref q4, .ref q5, .ref q6, .ref q7, .ref q8, .int 0, .int 0, .ref q9, .int 0, .null])) x9 a2_9 (by decide)
  have b3_9 := mw_oth (g := .inr (ciY, [.ref q0, .ref q1, .int 0, .ref q2, .ref q3, .ref q4, .ref q5, .ref q6, .ref q7, .ref q8, .int 0, .int 0, .ref q9, .int 0, .null])) x9 a3_9 (by decide)
  have b4_9 := mw_oth (g := .inr (ciY, [.ref q0, .ref q1, .int 0, .ref q2, .ref q3, .ref q4, .ref q5, .ref q6, .ref q7, .ref q8, .int 0, .int 0, .ref q9, .int 0, .null])) x9 a4_9 (by decide)
  have b5_9 := mw_oth (g := .inr (ciY, [.ref q0, .ref q1, .int 0, .ref q2, .ref q3, .ref q4, .ref q5, .ref q6, .ref q7, .ref q8, .int 0, .int 0, .ref q9, .int 0, .null])) x9 a5_9 (by decide)
  have b6_9 := mw_oth (g := .inr (ciY, [.ref q0, .ref q1, .int 0, .ref q2, .ref q3, .ref q4, .ref q5, .ref q6, .ref q7, .ref q8, .int 0, .int 0, .ref q9, .int 0, .null])) x9 a6_9 (by decide)
  have b7_9 := mw_oth (g := .inr (ciY, [.ref q0, .ref q1, .int 0, .ref q2, .ref q3, .ref q4, .ref q5, .ref q6, .ref q7, .ref q8, .int 0, .int 0, .ref q9, .int 0, .null])) x9 a7_9 (by decide)
  have b8_9 := mw_oth (g := .inr (ciY, [.ref q0, .ref q1, .int 0, .ref q2, .ref q3, .ref q4, .ref q5, .ref q6, .ref q7, .ref q8, .int 0, .int 0, .ref q9, .int 0, .null])) x9 a8_9 (by decide)
  have b9_9 := mw_oth (g := .inr (ciY, [.ref q0, .ref q1, .int 0, .ref q2, .ref q3, .ref q4, .ref q5, .ref q6, .ref q7, .ref q8, .int 0, .int 0, .ref q9, .int 0, .null])) x9 a9_9 (by decide)
  have l9 : ky_ M (mw_up N9 y ((10, 0), .inr (ciY, [.ref q0, .ref q1, .int 0, .ref q2, .ref q3, .ref q4, .ref q5, .ref q6, .ref q7, .ref q8, .int 0, .int 0, .ref q9, .int 0, .null]))) := ky_tr k9 (ky_up x9 (by decide))
  generalize mw_up N9 y ((10, 0), .inr (ciY, [.ref q0, .ref q1, .int 0, .ref q2, .ref q3, .ref q4, .ref q5, .ref q6, .ref q7, .ref q8, .int 0, .int 0, .ref q9, .int 0, .null])) = P9 at hM y9 l9 b0_9 b1_9 b2_9 b3_9 b4_9 b5_9 b6_9 b7_9 b8_9 b9_9
  refine lv_aload_n hx hb dY_init_91 rfl (lv_at hl 0 rfl) ?_
  refine lv_sipush (v := 1681) hx hb dY_init_92 (by decide) ?_
  refine mw_naz F (21, 0) ka_boolean (by decide) rfl (by decide) hM ⟨Nat.le_of_ble_eq_true rfl, Nat.le_of_ble_eq_true rfl⟩ dY_init_95 (fun q10 H hn10 hM => ?_)
  have hM : mw_S G (mw_up P9 q10 ((21, 0), aZ_ G 1681 (fun _ => 0))) s.heap H _ := hM
  have x10 := mw_old (x := ((21, 0), aZ_ G 1681 (fun _ => 0))) hn10 y9
  have a0_10 := mw_old (x := ((21, 0), aZ_ G 1681 (fun _ => 0))) hn10 b0_9
  have a1_10 := mw_old (x := ((21, 0), aZ_ G 1681 (fun _ => 0))) hn10 b1_9
  have a2_10 := mw_old (x := ((21, 0), aZ_ G 1681 (fun _ => 0))) hn10 b2_9
  have a3_10 := mw_old (x := ((21, 0), aZ_ G 1681 (fun _ => 0))) hn10 b3_9
  have a4_10 := mw_old (x := ((21, 0), aZ_ G 1681 (fun _ => 0))) hn10 b4_9
  have a5_10 := mw_old (x := ((21, 0), aZ_ G 1681 (fun _ => 0))) hn10 b5_9
  have a6_10 := mw_old (x := ((21, 0), aZ_ G 1681 (fun _ => 0))) hn10 b6_9
  have a7_10 := mw_old (x := ((21, 0), aZ_ G 1681 (fun _ => 0))) hn10 b7_9
  have a8_10 := mw_old (x := ((21, 0), aZ_ G 1681 (fun _ => 0))) hn10 b8_9
  have a9_10 := mw_old (x := ((21, 0), aZ_ G 1681 (fun _ => 0))) hn10 b9_9
  have a10_10 : (mw_up P9 q10 ((21, 0), aZ_ G 1681 (fun _ => 0))) q10 = some ((21, 0), aZ_ G 1681 (fun _ => 0)) := mw_at
  have k10 : ky_ M (mw_up P9 q10 ((21, 0), aZ_ G 1681 (fun _ => 0))) := ky_tr l9 (ky_nw hn10)
  generalize mw_up P9 q10 ((21, 0), aZ_ G 1681 (fun _ => 0)) = N10 at hM x10 k10 a10_10 a0_10 a1_10 a2_10 a3_10 a4_10 a5_10 a6_10 a7_10 a8_10 a9_10
  refine pf_Y_41 F hin (o := some q10) hM x10 (Nat.le_of_ble_eq_true rfl) dY_init_97 (fun H locs hM => ?_)
  have hM : mw_S G (mw_up N10 y ((10, 0), .inr (ciY, [.ref q0, .ref q1, .int 0, .ref q2, .ref q3, .ref q4, .ref q5, .ref q6, .ref q7, .ref q8, .int 0, .int 0, .ref q9, .int 0, .ref q10]))) s.heap H locs := hM
  have y10 := mw_at (M := N10) (a := y) (x := ((10, 0), .inr (ciY, [.ref q0, .ref q1, .int 0, .ref q2, .ref q3, .ref q4, .ref q5, .ref q6, .ref q7, .ref q8, .int 0, .int 0, .ref q9, .int 0, .ref q10])))
  have b0_10 := mw_oth (g := .inr (ciY, [.ref q0, .ref q1, .int 0, .ref q2, .ref q3, .ref q4, .ref q5, .ref q6, .ref q7, .ref q8, .int 0, .int 0, .ref q9, .int 0, .ref q10])) x10 a0_10 (by decide)
  have b1_10 := mw_oth (g := .inr (ciY, [.ref q0, .ref q1, .int 0, .ref q2, .ref q3, .ref q4, .ref q5, .ref q6, .ref q7, .ref q8, .int 0, .int 0, .ref q9, .int 0, .ref q10])) x10 a1_10 (by decide)
  have b2_10 := mw_oth (g := .inr (ciY, [.ref q0, .ref q1, .int 0, .ref q2, .ref q3, .ref q4, .ref q5, .ref q6, .ref q7, .ref q8, .int 0, .int 0, .ref q9, .int 0, .ref q10])) x10 a2_10 (by decide)
  have b3_10 := mw_oth (g := .inr (ciY, [.ref q0, .ref q1, .int 0, .ref q2, .ref q3, .ref q4, .ref q5, .ref q6, .ref q7, .ref q8, .int 0, .int 0, .ref q9, .int 0, .ref q10])) x10 a3_10 (by decide)
  have b4_10 := mw_oth (g := .inr (ciY, [.ref q0, .ref q1, .int 0, .ref q2, .ref q3, .ref q4, .ref q5, .ref q6, .ref q7, .ref q8, .int 0, .int 0, .ref q9, .int 0, .ref q10])) x10 a4_10 (by decide)
  have b5_10 := mw_oth (g := .inr (ciY, [.ref q0, .ref q1, .int 0, .ref q2, .ref q3, .ref q4, .ref q5, .ref q6, .ref q7, .ref q8, .int 0, .int 0, .ref q9, .int 0, .ref q10])) x10 a5_10 (by decide)
  have b6_10 := mw_oth (g := .inr (ciY, [.ref q0, .ref q1, .int 0, .ref q2, .ref q3, .ref q4, .ref q5, .ref q6, .ref q7, .ref q8, .int 0, .int 0, .ref q9, .int 0, .ref q10])) x10 a6_10 (by decide)
  have b7_10 := mw_oth (g := .inr (ciY, [.ref q0, .ref q1, .int 0, .ref q2, .ref q3, .ref q4, .ref q5, .ref q6, .ref q7, .ref q8, .int 0, .int 0, .ref q9, .int 0, .ref q10])) x10 a7_10 (by decide)
  have b8_10 := mw_oth (g := .inr (ciY, [.ref q0, .ref q1, .int 0, .ref q2, .ref q3, .ref q4, .ref q5, .ref q6, .ref q7, .ref q8, .int 0, .int 0, .ref q9, .int 0, .ref q10])) x10 a8_10 (by decide)
  have b9_10 := mw_oth (g := .inr (ciY, [.ref q0, .ref q1, .int 0, .ref q2, .ref q3, .ref q4, .ref q5, .ref q6, .ref q7, .ref q8, .int 0, .int 0, .ref q9, .int 0, .ref q10])) x10 a9_10 (by decide)
  have b10_10 := mw_oth (g := .inr (ciY, [.ref q0, .ref q1, .int 0, .ref q2, .ref q3, .ref q4, .ref q5, .ref q6, .ref q7, .ref q8, .int 0, .int 0, .ref q9, .int 0, .ref q10])) x10 a10_10 (by decide)
  have l10 : ky_ M (mw_up N10 y ((10, 0), .inr (ciY, [.ref q0, .ref q1, .int 0, .ref q2, .ref q3, .ref q4, .ref q5, .ref q6, .ref q7, .ref q8, .int 0, .int 0, .ref q9, .int 0, .ref q10]))) := ky_tr k10 (ky_up x10 (by decide))
  generalize mw_up N10 y ((10, 0), .inr (ciY, [.ref q0, .ref q1, .int 0, .ref q2, .ref q3, .ref q4, .ref q5, .ref q6, .ref q7, .ref q8, .int 0, .int 0, .ref q9, .int 0, .ref q10])) = P10 at hM y10 l10 b0_10 b1_10 b2_10 b3_10 b4_10 b5_10 b6_10 b7_10 b8_10 b9_10 b10_10
  refine W.eq (g2 := F0 mi 100 ls []) rfl ?_
  exact mr_v F hr hM (⟨rfl, fun k => if k = 0 then q0 else if k = 1 then q1 else if k = 2 then q2 else if k = 3 then q3 else if k = 4 then q4 else if k = 5 then q5 else if k = 6 then q6 else if k = 7 then q7 else if k = 8 then q8 else if k = 9 then q9 else q10, fun _ _ => 0, fun _ => 0, 0, fun _ => 0, ⟨sg_W0, ⟨fun i hi => absurd hi (Nat.not_lt_zero i), fun i hi => absurd hi (Nat.not_lt_zero i)⟩, y10, b0_10, b1_10, b2_10, b3_10, b4_10, b5_10, b6_10, b7_10, b8_10, b9_10, b10_10⟩, l10⟩) dY_init_100 ⟨Nat.le_of_ble_eq_true rfl, Nat.le_of_ble_eq_true rfl⟩
end GC
