theorem aw_p {args : Array Value} {s : State} {ty : FieldType} (h : (Cond.arrayClass ty).before args s = true) (hty : ty = .int ∨ ty = .boolean) : ∃ cA : ClassId, ArrOfT s cA ty ∧ va_RA s cA ty := by
  obtain ⟨cA, kA, comp, h1, h2, h3⟩ := Cond.arrayClass_spec h
  refine ⟨cA, fun n z => ⟨fun k h => (by cases h), kA, h2, comp, h3⟩, ?_⟩
  rcases hty with rfl | rfl
  · exact h1
  · exact h1
theorem aw_q {args : Array Value} {s : State} {C : String} (h : (Cond.arrayOver (.object C)).before args s = true) : ∃ cA : ClassId, ArrOfT s cA (.object C) ∧ va_RA s cA (.object C) := by
  obtain ⟨comp, cA, kA, h1, h2, h3, h4, h5⟩ := Cond.arrayOver_spec h
  exact ⟨cA, fun n z => ⟨fun k h => (by cases h), kA, h3, comp, h4⟩, kA, comp, h3, h4, h1, h5⟩
set_option maxHeartbeats 4000000 in
set_option maxRecDepth 100000 in
theorem whole_start {p : Program} {e : Env} {s : State} {m : MethodId} {below : List Frame} {meth : Method} {c : Code} (l : Launch) {b L : Nat} {xs : Nat → Int32} (hL : L ≤ 3584) (C0 : lw_At p s m meth c b L xs) : W p l e room_1 s m #[Value.ref b] below meth c s.heap [] 0 0 (lw_Z below #[Value.ref b] s) (entryFrame m ([Value.ref b] : List Value).toArray 4) := by
  obtain ⟨hx, hb, hr, hml, hown, hts, hX, hbl, hlocks, hgv⟩ := id C0
  have htb : ∀ w ∈ mw_tb, w.before #[Value.ref b] s = true := fun w h => hts w (List.mem_filter.mp h).1
  obtain ⟨c0, iS0, hKn0⟩ := u_known (C := RC) (T := TC) (N := 4) (n := 4) htb iC (htb _ kj_C)
  obtain ⟨c1, iS1, hKn1⟩ := u_known (C := RN) (T := TN) (N := 9) (n := 9) htb iN (htb _ kj_N)
  obtain ⟨c2, iS2, hKn2⟩ := u_known (C := RX) (T := TX) (N := 6) (n := 6) htb iX (htb _ kj_X)
  obtain ⟨c3, iS3, hKn3⟩ := u_known (C := RY) (T := TY) (N := 15) (n := 15) htb iY (htb _ kj_Y)
  obtain ⟨dC, dI, hKc⟩ : ∃ (dC : Nat → ClassId) (dI : Nat → Nat → Nat), ∀ (k : Nat) (q : vw_C), vwCl[k]? = some q → u_Kn s q.1 q.2.1 q.2.2 (dC k) (dI k) := by
    refine ⟨fun k => if k = 0 then c0 else if k = 1 then c1 else if k = 2 then c2 else c3, fun k => if k = 0 then iS0 else if k = 1 then iS1 else if k = 2 then iS2 else iS3, ?_⟩
    intro k q hq
    match k, hq with
    | 0, hq => cases hq; exact hKn0
    | 1, hq => cases hq; exact hKn1
    | 2, hq => cases hq; exact hKn2
    | 3, hq => cases hq; exact hKn3
    | k + 4, hq => simp [vwCl] at hq
  obtain ⟨aI, aI1, aI2⟩ := aw_p (htb _ ka_int) (Or.inl rfl)
  obtain ⟨aZ, aZ1, aZ2⟩ := aw_p (htb _ ka_boolean) (Or.inr rfl)
  obtain ⟨aC, aC1, aC2⟩ := aw_q (hts _ ko_C)
  obtain ⟨aN, aN1, aN2⟩ := aw_q (hts _ ko_N)
  obtain ⟨G, eG⟩ : ∃ G : mw_G, G = ((dC, dI), s.heap.size, aI, aZ, aC, aN) := ⟨_, rfl⟩
  have hG : G.2.1 = s.heap.size := by rw [eG]
  have hK : mw_K G s := by
    rw [eG]
    refine ⟨⟨hKc, fun k q hq => ?_⟩, va_AO.of (hts _ ko_C), va_AO.of (hts _ ko_N)⟩
    match k, hq with
    | 0, hq => cases hq; exact ⟨aI1, aI2⟩
    | 1, hq => cases hq; exact ⟨aZ1, aZ2⟩
    | 2, hq => cases hq; exact ⟨aC1, aC2⟩
    | 3, hq => cases hq; exact ⟨aN1, aN2⟩
    | k + 4, hq => simp [mw_ty] at hq
  have F : mw_F p m meth c bL_law 4 s #[Value.ref b] RL G := ⟨hx, hb, hml, hown, htb, hK, hlocks⟩
  have hM : mw_S G (fun _ => none) s.heap s.heap [] := ⟨by rw [hG]; exact Nat.le_refl _, ⟨by rw [hG]; exact Nat.le_refl _, [], fun k q h => by simp at h, ⟨fun i j p q h => by simp at h, fun k q h => by simp at h⟩, fun a r e h => by cases h⟩, va_S.rf⟩
  have hl := lv_entry ([.ref b]) (n := 4) (Nat.le_of_ble_eq_true rfl)
  rw [lg_entry_eq]
  generalize (lg_sl ([.ref b]) ++ List.replicate (4 - (lg_sl ([.ref b])).length) Slot.unset).toArray = ls at hl ⊢
  have hl : lv_has ls 4 [(0, .ref b)] := hl
  refine mw_new (ci := ciX) F (0, 0) iX tX tX_ok rfl (fs := [.null, .int 0, .null, .int 0, .int 0, .null]) kc_L_7 kj_X kn_X (fun j hj => by rcases (show j = 0 ∨ j = 1 ∨ j = 2 ∨ j = 3 ∨ j = 4 ∨ j = 5 by omega) with rfl | rfl | rfl | rfl | rfl | rfl <;> rfl) hM ⟨Nat.le_of_ble_eq_true rfl, Nat.le_of_ble_eq_true rfl⟩ dL_law_0 (fun x H hn0 hM => ?_)
  refine lv_dup hx hb dL_law_3 rfl ?_
  refine mw_Ig (As := []) (rest := [.ref x]) F (c_X_init mw_at) kb_X_init rfl ki_X_init kl_L_9 hM rfl hl.1 rfl (Nat.le_of_ble_eq_true rfl) dL_law_4 ⟨⟨Nat.le_of_ble_eq_true rfl, Nat.le_of_ble_eq_true rfl⟩, Nat.le_of_ble_eq_true rfl, Nat.le_of_ble_eq_true rfl⟩ (fun M1 H locs hp hM => ?_)
  obtain ⟨qc, qm, ql, ca, ma, lp, hwx, -⟩ := hp
  refine lv_astore_n (lv' := [(1, .ref x), (0, .ref b)]) hx hb dL_law_7 rfl hl (by decide) rfl (fun ls hl => ?_)
  refine mw_new (ci := ciY) F (10, 0) iY tY tY_ok rfl (fs := [.null, .null, .int 0, .null, .null, .null, .null, .null, .null, .null, .int 0, .int 0, .null, .int 0, .null]) kc_L_10 kj_Y kn_Y (fun j hj => by rcases (show j = 0 ∨ j = 1 ∨ j = 2 ∨ j = 3 ∨ j = 4 ∨ j = 5 ∨ j = 6 ∨ j = 7 ∨ j = 8 ∨ j = 9 ∨ j = 10 ∨ j = 11 ∨ j = 12 ∨ j = 13 ∨ j = 14 by omega) with rfl | rfl | rfl | rfl | rfl | rfl | rfl | rfl | rfl | rfl | rfl | rfl | rfl | rfl | rfl <;> rfl) hM ⟨Nat.le_of_ble_eq_true rfl, Nat.le_of_ble_eq_true rfl⟩ dL_law_8 (fun y H hn1 hM => ?_)
  have hwx2 := xw_old (z := ((10, 0), .inr (ciY, [.null, .null, .int 0, .null, .null, .null, .null, .null, .null, .null, .int 0, .int 0, .null, .int 0, .null]))) hwx hn1
  refine lv_dup hx hb dL_law_11 rfl ?_
  refine mw_Ig (As := []) (rest := [.ref y]) F (c_Y_init mw_at) kb_Y_init rfl ki_Y_init kl_L_12 hM rfl hl.1 rfl (Nat.le_of_ble_eq_true rfl) dL_law_12 ⟨⟨Nat.le_of_ble_eq_true rfl, Nat.le_of_ble_eq_true rfl⟩, Nat.le_of_ble_eq_true rfl, Nat.le_of_ble_eq_true rfl⟩ (fun M2 H locs hp hM => ?_)
  obtain ⟨q, f, ch, lk, ov, hwy, ky⟩ := hp
  refine lv_astore_n (lv' := [(2, .ref y), (1, .ref x), (0, .ref b)]) hx hb dL_law_15 rfl hl (by decide) rfl (fun ls hl => ?_)
  refine lv_iconst (v := 0) hx hb dL_law_16 (by decide) ?_
  refine lv_istore_n (lv' := [(3, .int 0), (2, .ref y), (1, .ref x), (0, .ref b)]) hx hb dL_law_17 rfl hl (by decide) rfl (fun ls hl => ?_)
  refine W.widen (k := 20 + 0) (n := 4000 + 9 * 0) (Nat.le_of_ble_eq_true rfl) (Nat.le_of_ble_eq_true rfl) ?_
  exact law_loop C0 F hG hL (L + 1) 0 M2 sg_0 0 H locs ls (by omega) (by omega) ⟨⟨ca, ma, lp, xw_ky hwx2 ky⟩, f, ch, lk, ov, hwy⟩ hM (lv_sub hl [3, 2, 1, 0] rfl)
