section GC
variable {l : Launch} {G : mw_G} {M : mw_M} {x qc qm ql : Nat} {ca ma : Nat → Nat} {σ : sg_T} {rf : Int32} {lp : Nat → Int32}
set_option maxHeartbeats 4000000 in
set_option maxRecDepth 100000 in
theorem c_C_own (hw : xw_ G M x qc qm ql ca ma σ rf lp) {i : Nat} (hi : i < sg_nc σ) (k n t : Int32) : mw_C l G yC_own bC_own 5 (some (.object RN)) { frames := 0, cells := 0, slots := 0, locals := 0 } M [.ref (ca i), .int k, .int n, .int t] (mp_ (some (va_rf ((sg_ow σ i k n t).map ma))) M) := by
  refine mw_of (by decide) (Nat.le_of_ble_eq_true rfl) ?_
  intro pg en s mi below meth cd F hr _ hM ls hl
  obtain ⟨hx, hb, -⟩ := id F
  have hl : lv_has ls 5 [(0, .ref (ca i)), (1, .int k), (2, .int n), (3, .int t)] := hl
  have loop : ∀ (u : Nat) (H : Heap) (locs : List Loc) (ls : Array Slot), u ≤ sg_nm σ → sg_ow σ i k n t = fo_g (fun m => decide (sg_mc σ m = i) && sg_mk σ k n t m) u → mw_S G M s.heap H locs → lv_has ls 5 [(4, va_rf ((fo_g (fun m => decide (sg_mc σ m = i)) u).map ma)), (0, .ref (ca i)), (1, .int k), (2, .int n), (3, .int t)] → W pg l en { frames := 0, cells := 0, slots := 0, locals := 0 } s mi [.ref (ca i), .int k, .int n, .int t].toArray below meth cd H locs 0 0 (MQ below (mw_Q G (mp_ (some (va_rf ((sg_ow σ i k n t).map ma))) M)) [.ref (ca i), .int k, .int n, .int t].toArray s 0 0 (mw_A G)) (F0 mi 6 ls []) := by
    intro u
    induction u using Nat.strongRecOn with
    | ind u ih =>
      intro H locs ls hu hq hM hl
      have hnx := fo_nx (P := fun m => decide (sg_mc σ m = i)) (Q := sg_mk σ k n t) (n := u)
      generalize ho : fo_g (fun m => decide (sg_mc σ m = i)) u = o at hl hnx
      rcases o with _ | d
      · have hl : lv_has ls 5 [(4, .null), (0, .ref (ca i)), (1, .int k), (2, .int n), (3, .int t)] := hl
        refine lv_aloadN hx hb dC_own_6 (lv_at hl 0 rfl) ?_
        refine lv_ifnullN (tgt := 51) hx hb dC_own_8 (by decide) ?_
        refine lv_null hx hb dC_own_51 ?_
        exact mr_a (o := none) F hr hM (⟨by rw [hq, hnx.1 rfl]; rfl, rfl⟩) dC_own_52 ⟨Nat.le_of_ble_eq_true rfl, Nat.le_of_ble_eq_true rfl⟩
      · have hl : lv_has ls 5 [(4, .ref (ma d)), (0, .ref (ca i)), (1, .int k), (2, .int n), (3, .int t)] := hl
        obtain ⟨hd1, hd2⟩ := fo_some ho
        have hd3 : d < sg_nm σ := by omega
        have hd4 : sg_mc σ d = i := by simpa using hd2
        have hq2 := hnx.2 d rfl
        rw [← hq] at hq2
        have next : ∀ (H : Heap) (locs : List Loc) (ls : Array Slot), sg_mk σ k n t d = false → mw_S G M s.heap H locs → lv_has ls 5 [(4, .ref (ma d)), (0, .ref (ca i)), (1, .int k), (2, .int n), (3, .int t)] → W pg l en { frames := 0, cells := 0, slots := 0, locals := 0 } s mi [.ref (ca i), .int k, .int n, .int t].toArray below meth cd H locs 0 0 (MQ below (mw_Q G (mp_ (some (va_rf ((sg_ow σ i k n t).map ma))) M)) [.ref (ca i), .int k, .int n, .int t].toArray s 0 0 (mw_A G)) (F0 mi 41 ls []) := by
          intro H locs ls hk hM hl
          refine lv_aload hx hb dC_own_41 (lv_at hl 0 rfl) ?_
          refine gf_C_37 F hM (xw_m hw hd3) rfl dC_own_43 ?_
          refine mv_v (y := va_rf ((fo_g (fun m => decide (sg_mc σ m = i)) d).map ma)) (by rw [hd4]) ?_
          refine mv_ast (lv' := [(4, va_rf ((fo_g (fun m => decide (sg_mc σ m = i)) d).map ma)), (0, .ref (ca i)), (1, .int k), (2, .int n), (3, .int t)]) hx hb dC_own_46 hl (by decide) rfl (fun ls hl => ?_)
          refine lv_goto (tgt := 6) hx hb dC_own_48 (by decide) ?_
          exact ih d hd1 H locs ls (by omega) (by rw [hq2, hk]; rfl) hM (lv_sub hl [0, 1, 2, 3, 4] rfl)
        refine lv_aload hx hb dC_own_6 (lv_at hl 0 rfl) ?_
        refine lv_ifnull hx hb dC_own_8 ?_
        refine lv_aload hx hb dC_own_11 (lv_at hl 0 rfl) ?_
        refine gf_C_26 F hM (xw_m hw hd3) rfl dC_own_13 ?_
        refine lv_iload_n hx hb dC_own_16 rfl (lv_at hl 2 rfl) ?_
        refine lv_icmp_ne (tgt := 41) hx hb dC_own_17 (by decide) (fun h1 => ?_) (fun h1 => ?_)
        · exact next H locs ls (by simp [sg_mk, h1]) hM (lv_sub hl [0, 1, 2, 3, 4] rfl)
        · refine lv_aload hx hb dC_own_20 (lv_at hl 0 rfl) ?_
          refine gf_C_31 F hM (xw_m hw hd3) rfl dC_own_22 ?_
          refine lv_iload_n hx hb dC_own_25 rfl (lv_at hl 3 rfl) ?_
          refine lv_icmp_ne (tgt := 41) hx hb dC_own_26 (by decide) (fun h2 => ?_) (fun h2 => ?_)
          · exact next H locs ls (by simp [sg_mk, h2]) hM (lv_sub hl [0, 1, 2, 3, 4] rfl)
          · refine lv_aload hx hb dC_own_29 (lv_at hl 0 rfl) ?_
            refine gf_C_34 F hM (xw_m hw hd3) rfl dC_own_31 ?_
            refine lv_iload_n hx hb dC_own_34 rfl (lv_at hl 4 rfl) ?_
            refine lv_icmp_ne (tgt := 41) hx hb dC_own_35 (by decide) (fun h3 => ?_) (fun h3 => ?_)
            · exact next H locs ls (by simp [sg_mk, h3]) hM (lv_sub hl [0, 1, 2, 3, 4] rfl)
            · refine lv_aload hx hb dC_own_38 (lv_at hl 0 rfl) ?_
              exact mr_a (o := some (ma d)) F hr hM (⟨by rw [hq2, show sg_mk σ k n t d = true by simp [sg_mk, h1, h2, h3]]; rfl, rfl⟩) dC_own_40 ⟨Nat.le_of_ble_eq_true rfl, Nat.le_of_ble_eq_true rfl⟩
  refine lv_aload_n hx hb dC_own_0 rfl (lv_at hl 0 rfl) ?_
  refine gf_C_22 F hM (xw_c hw hi) rfl dC_own_1 ?_
  refine mv_ast (lv' := [(4, va_rf ((fo_g (fun m => decide (sg_mc σ m = i)) (sg_nm σ)).map ma)), (0, .ref (ca i)), (1, .int k), (2, .int n), (3, .int t)]) hx hb dC_own_4 hl (by decide) rfl (fun ls hl => ?_)
  exact loop (sg_nm σ) _ _ ls (Nat.le_refl _) rfl hM (lv_sub hl [0, 1, 2, 3, 4] rfl)
set_option maxHeartbeats 4000000 in
set_option maxRecDepth 100000 in
theorem c_C_ownObjectMethod (hw : xw_ G M x qc qm ql ca ma σ rf lp) {i : Nat} (hi : i < sg_nc σ) (n t : Int32) : mw_C l G yC_ownObjectMethod bC_ownObjectMethod 4 (some (.object RN)) { frames := 1, cells := 0, slots := 0, locals := 40 } M [.ref (ca i), .int n, .int t] (mp_ (some (va_rf ((sg_oo σ i n t).map ma))) M) := by
  refine mw_of (by decide) (Nat.le_of_ble_eq_true rfl) ?_
  intro pg en s mi below meth cd F hr _ hM ls hl
  obtain ⟨hx, hb, -⟩ := id F
  have hl : lv_has ls 4 [(0, .ref (ca i)), (1, .int n), (2, .int t)] := hl
  refine lv_aload_n hx hb dC_ownObjectMethod_0 rfl (lv_at hl 0 rfl) ?_
  refine lv_iconst (v := 1) hx hb dC_ownObjectMethod_1 (by decide) ?_
  refine lv_iload_n hx hb dC_ownObjectMethod_2 rfl (lv_at hl 1 rfl) ?_
  refine lv_iload_n hx hb dC_ownObjectMethod_3 rfl (lv_at hl 2 rfl) ?_
  refine mw_Vp (As := [.int 1, .int n, .int t]) (rest := []) F (c_C_own hw hi 1 n t) kb_C_own ki_C_own ks_C_own kl_C_40 hM (xw_c hw hi) rfl rfl hl.1 rfl (Nat.le_of_ble_eq_true rfl) dC_ownObjectMethod_4 ⟨⟨Nat.le_of_ble_eq_true rfl, Nat.le_of_ble_eq_true rfl⟩, Nat.le_of_ble_eq_true rfl, Nat.le_of_ble_eq_true rfl⟩ ⟨rfl, rfl⟩ (fun H locs hM => ?_)
  rcases ho : sg_ow σ i 1 n t with _ | d
  · refine lv_astore_nN (lv' := [(3, .null), (0, .ref (ca i)), (1, .int n), (2, .int t)]) hx hb dC_ownObjectMethod_7 rfl hl (by decide) rfl (fun ls hl => ?_)
    refine lv_aload_nN hx hb dC_ownObjectMethod_8 rfl (lv_at hl 0 rfl) ?_
    refine lv_ifnullN (tgt := 23) hx hb dC_ownObjectMethod_9 (by decide) ?_
    refine lv_null hx hb dC_ownObjectMethod_23 ?_
    exact mr_a (o := none) F hr hM (⟨by unfold sg_oo; rw [ho]; rfl, rfl⟩) dC_ownObjectMethod_24 ⟨Nat.le_of_ble_eq_true rfl, Nat.le_of_ble_eq_true rfl⟩
  · have hd := (ow_some ho).1
    refine lv_astore_n (lv' := [(3, .ref (ma d)), (0, .ref (ca i)), (1, .int n), (2, .int t)]) hx hb dC_ownObjectMethod_7 rfl hl (by decide) rfl (fun ls hl => ?_)
    refine lv_aload_n hx hb dC_ownObjectMethod_8 rfl (lv_at hl 0 rfl) ?_
    refine lv_ifnull hx hb dC_ownObjectMethod_9 ?_
    refine lv_aload_n hx hb dC_ownObjectMethod_12 rfl (lv_at hl 0 rfl) ?_
    refine gf_C_44 F hM (xw_m hw hd) rfl dC_ownObjectMethod_13 ?_
    refine lv_if_ne (tgt := 23) hx hb dC_ownObjectMethod_16 (by decide) (fun h1 => ?_) (fun h1 => ?_)
    · refine lv_null hx hb dC_ownObjectMethod_23 ?_
      exact mr_a (o := none) F hr hM (⟨by unfold sg_oo; rw [ho]; dsimp only; rw [if_pos (mb_n h1)]; rfl, rfl⟩) dC_ownObjectMethod_24 ⟨Nat.le_of_ble_eq_true rfl, Nat.le_of_ble_eq_true rfl⟩
    · refine lv_aload_n hx hb dC_ownObjectMethod_19 rfl (lv_at hl 0 rfl) ?_
      refine lv_goto (tgt := 24) hx hb dC_ownObjectMethod_20 (by decide) ?_
      exact mr_a (o := some (ma d)) F hr hM (⟨by unfold sg_oo; rw [ho]; dsimp only; rw [mb_z h1]; rfl, rfl⟩) dC_ownObjectMethod_24 ⟨Nat.le_of_ble_eq_true rfl, Nat.le_of_ble_eq_true rfl⟩
set_option maxHeartbeats 4000000 in
set_option maxRecDepth 100000 in
theorem c_N_isReachedBy (hw : xw_ G M x qc qm ql ca ma σ rf lp) {a j : Nat} (ha : a < sg_nc σ) (hj : j < sg_nm σ) : mw_C l G yN_isReachedBy bN_isReachedBy 2 (some .boolean) { frames := 1, cells := 0, slots := 0, locals := 40 } M [.ref (ma j), .ref (ca a)] (mp_ (some (.int (mb_i (sg_rc σ a j)))) M) := by
  refine mw_of (by decide) (Nat.le_of_ble_eq_true rfl) ?_
  intro pg en s mi below meth cd F hr _ hM ls hl
  obtain ⟨hx, hb, -⟩ := id F
  have hl : lv_has ls 2 [(0, .ref (ma j)), (1, .ref (ca a))] := hl
  have hmc := xw_mc hw hj
  refine lv_aload_n hx hb dN_isReachedBy_0 rfl (lv_at hl 0 rfl) ?_
  refine gf_N_32 F hM (xw_m hw hj) rfl dN_isReachedBy_1 ?_
  rcases hw.1.2.2.2.2.1 j hj with h0 | h0 | h0 | h0
  · refine mv_i (y := 0) h0 ?_
    refine lv_tableIn (tgt := 32) hx hb dN_isReachedBy_4 (by decide) (by decide) rfl (by decide) ?_
    refine lv_aload_n hx hb dN_isReachedBy_32 rfl (lv_at hl 1 rfl) ?_
    refine lv_aload_n hx hb dN_isReachedBy_33 rfl (lv_at hl 0 rfl) ?_
    refine gf_N_9 F hM (xw_m hw hj) rfl dN_isReachedBy_34 ?_
    refine lv_acmp_ne (rx := some (ca a)) (ry := some (ca (sg_mc σ j))) (tgt := 44) hx hb dN_isReachedBy_37 (by decide) (fun h1 => ?_) (fun h1 => ?_)
    · refine lv_iconst (v := 0) hx hb dN_isReachedBy_44 (by decide) ?_
      exact mr_z (v := false) F hr hM (⟨by simp [sg_rc, h0, show ¬ a = sg_mc σ j from fun q => h1 (by rw [q])], rfl⟩) dN_isReachedBy_45 ⟨Nat.le_of_ble_eq_true rfl, Nat.le_of_ble_eq_true rfl⟩
    · refine lv_iconst (v := 1) hx hb dN_isReachedBy_40 (by decide) ?_
      refine lv_goto (tgt := 45) hx hb dN_isReachedBy_41 (by decide) ?_
      exact mr_z (v := true) F hr hM (⟨by simp [sg_rc, h0, (xw_cq hw ha hmc).mp h1], rfl⟩) dN_isReachedBy_45 ⟨Nat.le_of_ble_eq_true rfl, Nat.le_of_ble_eq_true rfl⟩
  · refine mv_i (y := 1) h0 ?_
    refine lv_tableIn (tgt := 46) hx hb dN_isReachedBy_4 (by decide) (by decide) rfl (by decide) ?_
    refine lv_aload_n hx hb dN_isReachedBy_46 rfl (lv_at hl 1 rfl) ?_
    refine gf_N_42 F hM (xw_c hw ha) rfl dN_isReachedBy_47 ?_
    refine lv_aload_n hx hb dN_isReachedBy_50 rfl (lv_at hl 0 rfl) ?_
    refine gf_N_9 F hM (xw_m hw hj) rfl dN_isReachedBy_51 ?_
    refine gf_N_42 F hM (xw_c hw hmc) rfl dN_isReachedBy_54 ?_
    refine lv_icmp_ne (tgt := 64) hx hb dN_isReachedBy_57 (by decide) (fun h1 => ?_) (fun h1 => ?_)
    · refine lv_iconst (v := 0) hx hb dN_isReachedBy_64 (by decide) ?_
      exact mr_z (v := false) F hr hM (⟨by simp [sg_rc, h0, h1], rfl⟩) dN_isReachedBy_65 ⟨Nat.le_of_ble_eq_true rfl, Nat.le_of_ble_eq_true rfl⟩
    · refine lv_iconst (v := 1) hx hb dN_isReachedBy_60 (by decide) ?_
      refine lv_goto (tgt := 65) hx hb dN_isReachedBy_61 (by decide) ?_
      exact mr_z (v := true) F hr hM (⟨by simp [sg_rc, h0, h1], rfl⟩) dN_isReachedBy_65 ⟨Nat.le_of_ble_eq_true rfl, Nat.le_of_ble_eq_true rfl⟩
  · refine mv_i (y := 2) h0 ?_
    refine lv_tableIn (tgt := 66) hx hb dN_isReachedBy_4 (by decide) (by decide) rfl (by decide) ?_
    refine lv_aload_n hx hb dN_isReachedBy_66 rfl (lv_at hl 1 rfl) ?_
    refine gf_N_42 F hM (xw_c hw ha) rfl dN_isReachedBy_67 ?_
    refine lv_aload_n hx hb dN_isReachedBy_70 rfl (lv_at hl 0 rfl) ?_
    refine gf_N_9 F hM (xw_m hw hj) rfl dN_isReachedBy_71 ?_
    refine gf_N_42 F hM (xw_c hw hmc) rfl dN_isReachedBy_74 ?_
    refine lv_icmp_eq (tgt := 91) hx hb dN_isReachedBy_77 (by decide) (fun h1 => ?_) (fun h1 => ?_)
    · refine lv_iconst (v := 1) hx hb dN_isReachedBy_91 (by decide) ?_
      refine lv_goto (tgt := 96) hx hb dN_isReachedBy_92 (by decide) ?_
      exact mr_z (v := true) F hr hM (⟨by simp [sg_rc, h0, h1], rfl⟩) dN_isReachedBy_96 ⟨Nat.le_of_ble_eq_true rfl, Nat.le_of_ble_eq_true rfl⟩
    · refine lv_aload_n hx hb dN_isReachedBy_80 rfl (lv_at hl 1 rfl) ?_
      refine lv_aload_n hx hb dN_isReachedBy_81 rfl (lv_at hl 0 rfl) ?_
      refine gf_N_9 F hM (xw_m hw hj) rfl dN_isReachedBy_82 ?_
      refine mw_Vp (As := [.ref (ca (sg_mc σ j))]) (rest := []) F (c_C_isBelow hw ha hmc) kb_C_isBelow ki_C_isBelow ks_C_isBelow kl_N_47 hM (xw_c hw ha) rfl rfl hl.1 rfl (Nat.le_of_ble_eq_true rfl) dN_isReachedBy_85 ⟨⟨Nat.le_of_ble_eq_true rfl, Nat.le_of_ble_eq_true rfl⟩, Nat.le_of_ble_eq_true rfl, Nat.le_of_ble_eq_true rfl⟩ ⟨rfl, rfl⟩ (fun H locs hM => ?_)
      refine lv_if_eq (tgt := 95) hx hb dN_isReachedBy_88 (by decide) (fun h2 => ?_) (fun h2 => ?_)
      · refine lv_iconst (v := 0) hx hb dN_isReachedBy_95 (by decide) ?_
        exact mr_z (v := false) F hr hM (⟨by simp [sg_rc, h0, h1, of_decide_eq_false (mb_z h2)], rfl⟩) dN_isReachedBy_96 ⟨Nat.le_of_ble_eq_true rfl, Nat.le_of_ble_eq_true rfl⟩
      · refine lv_iconst (v := 1) hx hb dN_isReachedBy_91 (by decide) ?_
        refine lv_goto (tgt := 96) hx hb dN_isReachedBy_92 (by decide) ?_
        exact mr_z (v := true) F hr hM (⟨by simp [sg_rc, h0, h1, of_decide_eq_true (mb_n h2)], rfl⟩) dN_isReachedBy_96 ⟨Nat.le_of_ble_eq_true rfl, Nat.le_of_ble_eq_true rfl⟩
  · refine mv_i (y := 3) h0 ?_
    refine lv_tableOut (tgt := 97) hx hb dN_isReachedBy_4 (Or.inr (by decide)) (by decide) ?_
    refine lv_iconst (v := 1) hx hb dN_isReachedBy_97 (by decide) ?_
    exact mr_z (v := true) F hr hM (⟨by simp [sg_rc, h0], rfl⟩) dN_isReachedBy_98 ⟨Nat.le_of_ble_eq_true rfl, Nat.le_of_ble_eq_true rfl⟩
end GC
