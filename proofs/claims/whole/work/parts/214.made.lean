section GC
variable {l : Launch} {G : mw_G} {M : mw_M} {x qc qm ql : Nat} {ca ma : Nat → Nat} {σ : sg_T} {rf : Int32} {lp : Nat → Int32}
set_option maxHeartbeats 4000000 in
set_option maxRecDepth 100000 in
theorem c_C_init_n {q : Nat} {r : Nat × Nat} (hq : M q = some (r, .inr (ciC, [.int 0, .null, .int 0, .null]))) (i k : Int32) : mw_C l G yC_init bC_init 4 none { frames := 1, cells := 0, slots := 0, locals := 40 } M [.ref q, .int i, .null, .int k] (mp_ none (mw_up M q (r, .inr (ciC, [.int i, .null, .int k, .null])))) := by
  refine mw_of (by decide) (Nat.le_of_ble_eq_true rfl) ?_
  intro pg en s mi below meth cd F hr hin hM ls hl
  obtain ⟨hx, hb, -⟩ := id F
  have hl : lv_has ls 4 [(0, .ref q), (1, .int i), (2, .null), (3, .int k)] := hl
  refine lv_aload_n hx hb dC_init_0 rfl (lv_at hl 0 rfl) ?_
  refine mw_oi F kl_C_3 hl.1 dC_init_1 ⟨Nat.le_of_ble_eq_true rfl, Nat.le_of_ble_eq_true rfl⟩ ?_
  refine lv_aload_n hx hb dC_init_4 rfl (lv_at hl 0 rfl) ?_
  refine lv_iload_n hx hb dC_init_5 rfl (lv_at hl 1 rfl) ?_
  refine pf_C_9 F hin hM hq (Nat.le_of_ble_eq_true rfl) dC_init_6 (fun H locs hM => ?_)
  have hM : mw_S G (mw_up M q (r, .inr (ciC, [.int i, .null, .int 0, .null]))) s.heap H locs := hM
  refine lv_aload_n hx hb dC_init_9 rfl (lv_at hl 0 rfl) ?_
  refine lv_aload_nN hx hb dC_init_10 rfl (lv_at hl 2 rfl) ?_
  refine pf_C_15 F hin (o := none) hM mw_at (Nat.le_of_ble_eq_true rfl) dC_init_11 (fun H locs hM => ?_)
  rw [mw_uu] at hM
  have hM : mw_S G (mw_up M q (r, .inr (ciC, [.int i, .null, .int 0, .null]))) s.heap H locs := hM
  refine lv_aload_n hx hb dC_init_14 rfl (lv_at hl 0 rfl) ?_
  refine lv_iload_n hx hb dC_init_15 rfl (lv_at hl 3 rfl) ?_
  refine pf_C_19 F hin hM mw_at (Nat.le_of_ble_eq_true rfl) dC_init_16 (fun H locs hM => ?_)
  rw [mw_uu] at hM
  have hM : mw_S G (mw_up M q (r, .inr (ciC, [.int i, .null, .int k, .null]))) s.heap H locs := hM
  refine lv_aload_n hx hb dC_init_19 rfl (lv_at hl 0 rfl) ?_
  refine lv_null hx hb dC_init_20 ?_
  refine pf_C_22 F (o := none) hM mw_at (Nat.le_of_ble_eq_true rfl) dC_init_21 (fun H locs hM => ?_)
  rw [mw_uu] at hM
  have hM : mw_S G (mw_up M q (r, .inr (ciC, [.int i, .null, .int k, .null]))) s.heap H locs := hM
  exact mr_v F hr hM (⟨rfl, rfl⟩) dC_init_24 ⟨Nat.le_of_ble_eq_true rfl, Nat.le_of_ble_eq_true rfl⟩
set_option maxHeartbeats 4000000 in
set_option maxRecDepth 100000 in
theorem c_C_init_s {q d : Nat} {r : Nat × Nat} (hq : M q = some (r, .inr (ciC, [.int 0, .null, .int 0, .null]))) (i k : Int32) : mw_C l G yC_init bC_init 4 none { frames := 1, cells := 0, slots := 0, locals := 40 } M [.ref q, .int i, .ref d, .int k] (mp_ none (mw_up M q (r, .inr (ciC, [.int i, .ref d, .int k, .null])))) := by
  refine mw_of (by decide) (Nat.le_of_ble_eq_true rfl) ?_
  intro pg en s mi below meth cd F hr hin hM ls hl
  obtain ⟨hx, hb, -⟩ := id F
  have hl : lv_has ls 4 [(0, .ref q), (1, .int i), (2, .ref d), (3, .int k)] := hl
  refine lv_aload_n hx hb dC_init_0 rfl (lv_at hl 0 rfl) ?_
  refine mw_oi F kl_C_3 hl.1 dC_init_1 ⟨Nat.le_of_ble_eq_true rfl, Nat.le_of_ble_eq_true rfl⟩ ?_
  refine lv_aload_n hx hb dC_init_4 rfl (lv_at hl 0 rfl) ?_
  refine lv_iload_n hx hb dC_init_5 rfl (lv_at hl 1 rfl) ?_
  refine pf_C_9 F hin hM hq (Nat.le_of_ble_eq_true rfl) dC_init_6 (fun H locs hM => ?_)
  have hM : mw_S G (mw_up M q (r, .inr (ciC, [.int i, .null, .int 0, .null]))) s.heap H locs := hM
  refine lv_aload_n hx hb dC_init_9 rfl (lv_at hl 0 rfl) ?_
  refine lv_aload_n hx hb dC_init_10 rfl (lv_at hl 2 rfl) ?_
  refine pf_C_15 F hin (o := some d) hM mw_at (Nat.le_of_ble_eq_true rfl) dC_init_11 (fun H locs hM => ?_)
  rw [mw_uu] at hM
  have hM : mw_S G (mw_up M q (r, .inr (ciC, [.int i, .ref d, .int 0, .null]))) s.heap H locs := hM
  refine lv_aload_n hx hb dC_init_14 rfl (lv_at hl 0 rfl) ?_
  refine lv_iload_n hx hb dC_init_15 rfl (lv_at hl 3 rfl) ?_
  refine pf_C_19 F hin hM mw_at (Nat.le_of_ble_eq_true rfl) dC_init_16 (fun H locs hM => ?_)
  rw [mw_uu] at hM
  have hM : mw_S G (mw_up M q (r, .inr (ciC, [.int i, .ref d, .int k, .null]))) s.heap H locs := hM
  refine lv_aload_n hx hb dC_init_19 rfl (lv_at hl 0 rfl) ?_
  refine lv_null hx hb dC_init_20 ?_
  refine pf_C_22 F (o := none) hM mw_at (Nat.le_of_ble_eq_true rfl) dC_init_21 (fun H locs hM => ?_)
  rw [mw_uu] at hM
  have hM : mw_S G (mw_up M q (r, .inr (ciC, [.int i, .ref d, .int k, .null]))) s.heap H locs := hM
  exact mr_v F hr hM (⟨rfl, rfl⟩) dC_init_24 ⟨Nat.le_of_ble_eq_true rfl, Nat.le_of_ble_eq_true rfl⟩
set_option maxHeartbeats 4000000 in
set_option maxRecDepth 100000 in
theorem c_N_init {q h : Nat} {rr : Nat × Nat} (hq : M q = some (rr, .inr (ciN, [.null, .int 0, .int 0, .int 0, .int 0, .int 0, .int 0, .int 0, .null]))) (k n t : Int32) (st fn : Bool) (r : Int32) : mw_C l G yN_init bN_init 8 none { frames := 1, cells := 0, slots := 0, locals := 40 } M [.ref q, .ref h, .int k, .int n, .int t, .int (mb_i st), .int (mb_i fn), .int r] (mp_ none (mw_up M q (rr, xn_e h k n t st fn r (-1) .null))) := by
  refine mw_of (by decide) (Nat.le_of_ble_eq_true rfl) ?_
  intro pg en s mi below meth cd F hr hin hM ls hl
  obtain ⟨hx, hb, -⟩ := id F
  have hl : lv_has ls 8 [(0, .ref q), (1, .ref h), (2, .int k), (3, .int n), (4, .int t), (5, .int (mb_i st)), (6, .int (mb_i fn)), (7, .int r)] := hl
  refine lv_aload_n hx hb dN_init_0 rfl (lv_at hl 0 rfl) ?_
  refine mw_oi F kl_N_3 hl.1 dN_init_1 ⟨Nat.le_of_ble_eq_true rfl, Nat.le_of_ble_eq_true rfl⟩ ?_
  refine lv_aload_n hx hb dN_init_4 rfl (lv_at hl 0 rfl) ?_
  refine lv_aload_n hx hb dN_init_5 rfl (lv_at hl 1 rfl) ?_
  refine pf_N_9 F hin (o := some h) hM hq (Nat.le_of_ble_eq_true rfl) dN_init_6 (fun H locs hM => ?_)
  have hM : mw_S G (mw_up M q (rr, .inr (ciN, [.ref h, .int 0, .int 0, .int 0, .int 0, .int 0, .int 0, .int 0, .null]))) s.heap H locs := hM
  refine lv_aload_n hx hb dN_init_9 rfl (lv_at hl 0 rfl) ?_
  refine lv_iload_n hx hb dN_init_10 rfl (lv_at hl 2 rfl) ?_
  refine pf_N_15 F hin hM mw_at (Nat.le_of_ble_eq_true rfl) dN_init_11 (fun H locs hM => ?_)
  rw [mw_uu] at hM
  have hM : mw_S G (mw_up M q (rr, .inr (ciN, [.ref h, .int k, .int 0, .int 0, .int 0, .int 0, .int 0, .int 0, .null]))) s.heap H locs := hM
  refine lv_aload_n hx hb dN_init_14 rfl (lv_at hl 0 rfl) ?_
  refine lv_iload_n hx hb dN_init_15 rfl (lv_at hl 3 rfl) ?_
  refine pf_N_19 F hin hM mw_at (Nat.le_of_ble_eq_true rfl) dN_init_16 (fun H locs hM => ?_)
  rw [mw_uu] at hM
  have hM : mw_S G (mw_up M q (rr, .inr (ciN, [.ref h, .int k, .int n, .int 0, .int 0, .int 0, .int 0, .int 0, .null]))) s.heap H locs := hM
  refine lv_aload_n hx hb dN_init_19 rfl (lv_at hl 0 rfl) ?_
  refine lv_iload hx hb dN_init_20 (lv_at hl 4 rfl) ?_
  refine pf_N_22 F hin hM mw_at (Nat.le_of_ble_eq_true rfl) dN_init_22 (fun H locs hM => ?_)
  rw [mw_uu] at hM
  have hM : mw_S G (mw_up M q (rr, .inr (ciN, [.ref h, .int k, .int n, .int t, .int 0, .int 0, .int 0, .int 0, .null]))) s.heap H locs := hM
  refine lv_aload_n hx hb dN_init_25 rfl (lv_at hl 0 rfl) ?_
  refine lv_iload hx hb dN_init_26 (lv_at hl 5 rfl) ?_
  refine pf_N_25 F hin (b := st) hM mw_at (Nat.le_of_ble_eq_true rfl) dN_init_28 (fun H locs hM => ?_)
  rw [mw_uu] at hM
  have hM : mw_S G (mw_up M q (rr, .inr (ciN, [.ref h, .int k, .int n, .int t, .int (mb_i st), .int 0, .int 0, .int 0, .null]))) s.heap H locs := hM
  refine lv_aload_n hx hb dN_init_31 rfl (lv_at hl 0 rfl) ?_
  refine lv_iload hx hb dN_init_32 (lv_at hl 6 rfl) ?_
  refine pf_N_29 F hin (b := fn) hM mw_at (Nat.le_of_ble_eq_true rfl) dN_init_34 (fun H locs hM => ?_)
  rw [mw_uu] at hM
  have hM : mw_S G (mw_up M q (rr, .inr (ciN, [.ref h, .int k, .int n, .int t, .int (mb_i st), .int (mb_i fn), .int 0, .int 0, .null]))) s.heap H locs := hM
  refine lv_aload_n hx hb dN_init_37 rfl (lv_at hl 0 rfl) ?_
  refine lv_iload hx hb dN_init_38 (lv_at hl 7 rfl) ?_
  refine pf_N_32 F hin hM mw_at (Nat.le_of_ble_eq_true rfl) dN_init_40 (fun H locs hM => ?_)
  rw [mw_uu] at hM
  have hM : mw_S G (mw_up M q (rr, .inr (ciN, [.ref h, .int k, .int n, .int t, .int (mb_i st), .int (mb_i fn), .int r, .int 0, .null]))) s.heap H locs := hM
  refine lv_aload_n hx hb dN_init_43 rfl (lv_at hl 0 rfl) ?_
  refine lv_iconst (v := (-1)) hx hb dN_init_44 (by decide) ?_
  refine pf_N_35 F hM mw_at (Nat.le_of_ble_eq_true rfl) dN_init_45 (fun H locs hM => ?_)
  rw [mw_uu] at hM
  have hM : mw_S G (mw_up M q (rr, .inr (ciN, [.ref h, .int k, .int n, .int t, .int (mb_i st), .int (mb_i fn), .int r, .int (-1), .null]))) s.heap H locs := hM
  refine lv_aload_n hx hb dN_init_48 rfl (lv_at hl 0 rfl) ?_
  refine lv_null hx hb dN_init_49 ?_
  refine pf_N_38 F (o := none) hM mw_at (Nat.le_of_ble_eq_true rfl) dN_init_50 (fun H locs hM => ?_)
  rw [mw_uu] at hM
  have hM : mw_S G (mw_up M q (rr, .inr (ciN, [.ref h, .int k, .int n, .int t, .int (mb_i st), .int (mb_i fn), .int r, .int (-1), .null]))) s.heap H locs := hM
  exact mr_v F hr hM (⟨rfl, rfl⟩) dN_init_53 ⟨Nat.le_of_ble_eq_true rfl, Nat.le_of_ble_eq_true rfl⟩
set_option maxHeartbeats 4000000 in
set_option maxRecDepth 100000 in
theorem c_X_refuse (hw : xw_ G M x qc qm ql ca ma σ rf lp) (v : Int32) : mw_C l G yX_refuse bX_refuse 2 (some .int) { frames := 0, cells := 0, slots := 0, locals := 0 } M [.ref x, .int v] (mp_ (some (.int (-1))) (mw_up M x ((0, 0), xo_e qc qm ql (nI (sg_nc σ)) (nI (sg_nm σ)) v))) := by
  refine mw_of (by decide) (Nat.le_of_ble_eq_true rfl) ?_
  intro pg en s mi below meth cd F hr _ hM ls hl
  obtain ⟨hx, hb, -⟩ := id F
  have hl : lv_has ls 2 [(0, .ref x), (1, .int v)] := hl
  refine lv_aload_n hx hb dX_refuse_0 rfl (lv_at hl 0 rfl) ?_
  refine lv_iload_n hx hb dX_refuse_1 rfl (lv_at hl 1 rfl) ?_
  refine pf_X_32 F hM (xw_x hw) (Nat.le_of_ble_eq_true rfl) dX_refuse_2 (fun H locs hM => ?_)
  have hM : mw_S G (mw_up M x ((0, 0), .inr (ciX, [.ref qc, .int (nI (sg_nc σ)), .ref qm, .int (nI (sg_nm σ)), .int v, .ref ql]))) s.heap H locs := hM
  refine lv_iconst (v := (-1)) hx hb dX_refuse_5 (by decide) ?_
  exact mr_i F hr hM (⟨rfl, rfl⟩) dX_refuse_6 ⟨Nat.le_of_ble_eq_true rfl, Nat.le_of_ble_eq_true rfl⟩
end GC
