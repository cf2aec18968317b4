section GC
variable {l : Launch} {G : mw_G} {M : mw_M} {y : Nat} {q : Nat → Nat} {σ : sg_T} {rf : Int32} {f : Nat → Nat → Int32} {ch : Nat → Int32} {lk : Int32} {ov : Nat → Int32}
set_option maxHeartbeats 4000000 in
set_option maxRecDepth 100000 in
theorem c_Y_relate {N : Nat} (hw : yw_ G M y q σ rf f ch (nI N) ov) {R K : Nat → Int32} {g : Nat → Nat} (lc lr : Int32) (hN : N ≤ 41) (hch : ∀ k, k < N → (g k < sg_nm σ ∧ ch k = nI (g k) ∧ R k = sg_rg σ (g k) ∧ K k = sg_pk σ (sg_mc σ (g k))) ∨ (k + 1 = N ∧ ch k = -1 ∧ R k = lr ∧ ∃ c, c < sg_nc σ ∧ lc = nI c ∧ K k = sg_pk σ c)) : mw_C l G yY_relate bY_relate 12 none { frames := 0, cells := 0, slots := 0, locals := 0 } M [.ref y, .int lc, .int lr] (pz_ G y q none σ rf f M (fun ch' lk' ov' => ch' = ch ∧ lk' = nI N ∧ ∃ O, ov_t N R K O ∧ ∀ i j, j < i → i < N → ov' (41 * i + j) = mb_i (O i j))) := by
  refine mw_of (by decide) (Nat.le_of_ble_eq_true rfl) ?_
  intro pg en s mi below meth cd F hr _ hM ls hl
  obtain ⟨hx, hb, -⟩ := id F
  have hl : lv_has ls 12 [(0, .ref y), (1, .int lc), (2, .int lr)] := hl
  have hnc := yw_nc hw
  have hnm := yw_nm hw
  have loop : ∀ (z u : Nat) (ov1 : Nat → Int32) (H : Heap) (locs : List Loc) (ls : Array Slot), N < u + z → 1 ≤ u → u ≤ 42 → ot_D N R K ov1 u 0 → mw_S G (mw_up M (q 10) ((21, 0), aZ_ G 1681 ov1)) s.heap H locs → lv_has ls 12 [(3, .int (nI u)), (0, .ref y), (1, .int lc), (2, .int lr)] → W pg l en { frames := 0, cells := 0, slots := 0, locals := 0 } s mi [.ref y, .int lc, .int lr].toArray below meth cd H locs 0 0 (MQ below (mw_Q G (pz_ G y q none σ rf f M (fun ch' lk' ov' => ch' = ch ∧ lk' = nI N ∧ ∃ O, ov_t N R K O ∧ ∀ i j, j < i → i < N → ov' (41 * i + j) = mb_i (O i j)))) [.ref y, .int lc, .int lr].toArray s 0 0 (mw_A G)) (F0 mi 2 ls []) := by
    intro z
    induction z with
    | zero =>
      intro u ov1 H locs ls h1 h2 h3 hD hM hl
      have hw1 := yw_ov hw ov1
      refine lv_iload_n hx hb dY_relate_2 rfl (lv_at hl 0 rfl) ?_
      refine lv_aload_n hx hb dY_relate_3 rfl (lv_at hl 1 rfl) ?_
      refine gf_Y_91 F hM (yw_y hw1) rfl dY_relate_4 ?_
      refine lv_icmp_ge (tgt := 239) hx hb dY_relate_7 (by decide) (fun h5 => ?_) (fun h5 => absurd (nI_le (show N ≤ u by omega) (by omega)) h5)
      exact mr_v F hr hM (⟨rfl, ch, nI N, ov1, hw1, ky_up (yw_10 hw) (by decide), rfl, rfl, _, ot_fin (by omega) hD⟩) dY_relate_239 ⟨Nat.le_of_ble_eq_true rfl, Nat.le_of_ble_eq_true rfl⟩
    | succ z ih =>
      intro u ov1 H locs ls hz hu hu42 hD hM hl
      have hw1 := yw_ov hw ov1
      refine lv_iload_n hx hb dY_relate_2 rfl (lv_at hl 0 rfl) ?_
      refine lv_aload_n hx hb dY_relate_3 rfl (lv_at hl 1 rfl) ?_
      refine gf_Y_91 F hM (yw_y hw1) rfl dY_relate_4 ?_
      refine lv_icmp_ge (tgt := 239) hx hb dY_relate_7 (by decide) (fun h5 => ?_) (fun h5 => ?_)
      · exact mr_v F hr hM (⟨rfl, ch, nI N, ov1, hw1, ky_up (yw_10 hw) (by decide), rfl, rfl, _, ot_fin ((nI_leI (by omega) (by omega)).mp h5) hD⟩) dY_relate_239 ⟨Nat.le_of_ble_eq_true rfl, Nat.le_of_ble_eq_true rfl⟩
      · have huN : u < N := Nat.not_le.mp (fun q => h5 (nI_le q (by omega)))
        have inner : ∀ (x j : Nat) (ov1 : Nat → Int32) (H : Heap) (locs : List Loc) (ls : Array Slot), N < j + u + x → j + u ≤ N → ot_D N R K ov1 u j → mw_S G (mw_up M (q 10) ((21, 0), aZ_ G 1681 ov1)) s.heap H locs → lv_has ls 12 [(4, .int (nI j)), (3, .int (nI u)), (0, .ref y), (1, .int lc), (2, .int lr)] → W pg l en { frames := 0, cells := 0, slots := 0, locals := 0 } s mi [.ref y, .int lc, .int lr].toArray below meth cd H locs 0 0 (MQ below (mw_Q G (pz_ G y q none σ rf f M (fun ch' lk' ov' => ch' = ch ∧ lk' = nI N ∧ ∃ O, ov_t N R K O ∧ ∀ i j, j < i → i < N → ov' (41 * i + j) = mb_i (O i j)))) [.ref y, .int lc, .int lr].toArray s 0 0 (mw_A G)) (F0 mi 13 ls []) := by
          intro x
          induction x with
          | zero => intro j ov1 H locs ls h1 h2; omega
          | succ x ihx =>
            intro j ov1 H locs ls hx9 hjN hD hM hl
            have hw1 := yw_ov hw ov1
            refine lv_iload hx hb dY_relate_13 (lv_at hl 0 rfl) ?_
            refine lv_iload_n hx hb dY_relate_15 rfl (lv_at hl 1 rfl) ?_
            refine lv_iadd hx hb dY_relate_16 ?_
            refine mv_i (y := nI (j + u)) (nI_add j u) ?_
            refine lv_aload_n hx hb dY_relate_17 rfl (lv_at hl 2 rfl) ?_
            refine gf_Y_91 F hM (yw_y hw1) rfl dY_relate_18 ?_
            refine lv_icmp_ge (tgt := 233) hx hb dY_relate_21 (by decide) (fun h6 => ?_) (fun h6 => ?_)
            · have hjN2 : N ≤ j + u := (nI_leI (by omega) (by omega)).mp h6
              refine lv_iinc (v := nI (u + 1)) (lv' := [(3, .int (nI (u + 1))), (4, .int (nI j)), (0, .ref y), (1, .int lc), (2, .int lr)]) hx hb dY_relate_233 hl (k := 1) rfl (ii_1 u) (by decide) rfl (fun ls hl => ?_)
              refine lv_goto (tgt := 2) hx hb dY_relate_236 (by decide) ?_
              exact ih (u + 1) ov1 H locs ls (by omega) (by omega) (by omega) (ot_nx hjN2 hD) hM (lv_sub hl [0, 2, 3, 4] rfl)
            · have hjN2 : j + u < N := Nat.not_le.mp (fun q => h6 (nI_le q (by omega)))
              have hcj : g j < sg_nm σ ∧ ch j = nI (g j) ∧ R j = sg_rg σ (g j) ∧ K j = sg_pk σ (sg_mc σ (g j)) := by
                rcases hch j (by omega) with q | q
                · exact q
                · omega
              obtain ⟨hg1, hg2, hg3, hg4⟩ := hcj
              have hgm := yw_mc hw hg1
              have fin : ∀ (b : Bool) (H : Heap) (locs : List Loc) (ls : Array Slot), (b = true ↔ ot_R R K ov1 (j + u) j) → mw_S G (mw_up M (q 10) ((21, 0), aZ_ G 1681 ov1)) s.heap H locs → lv_has ls 12 [(10, .int (mb_i b)), (5, .int (nI (j + u))), (4, .int (nI j)), (3, .int (nI u)), (0, .ref y), (1, .int lc), (2, .int lr)] → W pg l en { frames := 0, cells := 0, slots := 0, locals := 0 } s mi [.ref y, .int lc, .int lr].toArray below meth cd H locs 0 0 (MQ below (mw_Q G (pz_ G y q none σ rf f M (fun ch' lk' ov' => ch' = ch ∧ lk' = nI N ∧ ∃ O, ov_t N R K O ∧ ∀ i j, j < i → i < N → ov' (41 * i + j) = mb_i (O i j)))) [.ref y, .int lc, .int lr].toArray s 0 0 (mw_A G)) (F0 mi 212 ls []) := by
                intro b H locs ls hbR hM hl
                refine lv_aload_n hx hb dY_relate_212 rfl (lv_at hl 4 rfl) ?_
                refine gf_Y_41 F hM (yw_y hw1) rfl dY_relate_213 ?_
                refine lv_bipush (v := 41) hx hb dY_relate_216 (by decide) ?_
                refine lv_iload hx hb dY_relate_218 (lv_at hl 1 rfl) ?_
                refine lv_imul hx hb dY_relate_220 ?_
                refine mv_i (y := nI (41 * (j + u))) (pk_mul 41 (j + u)) ?_
                refine lv_iload hx hb dY_relate_221 (lv_at hl 2 rfl) ?_
                refine lv_iadd hx hb dY_relate_223 ?_
                refine mv_i (y := nI (41 * (j + u) + j)) (nI_add (41 * (j + u)) j) ?_
                refine lv_iload hx hb dY_relate_224 (lv_at hl 0 rfl) ?_
                refine mw_zst F hM (yw_10 hw1) (vp_in_nI (by omega) (by omega)) dY_relate_226 (fun H locs hM => ?_)
                rw [mw_uu, nI_clamp (by omega)] at hM
                refine lv_iinc (v := nI (j + 1)) (lv' := [(4, .int (nI (j + 1))), (10, .int (mb_i b)), (5, .int (nI (j + u))), (3, .int (nI u)), (0, .ref y), (1, .int lc), (2, .int lr)]) hx hb dY_relate_227 hl (k := 2) rfl (ii_1 j) (by decide) rfl (fun ls hl => ?_)
                refine lv_goto (tgt := 13) hx hb dY_relate_230 (by decide) ?_
                exact ihx (j + 1) (upd ov1 (41 * (j + u) + j) (mb_i b)) H locs ls (by omega) (by omega) (ot_up hN (by omega) hjN2 hD hbR) hM (lv_sub hl [0, 3, 4, 5, 6] rfl)
              have on86 : ∀ (xc : Nat) (H : Heap) (locs : List Loc) (ls : Array Slot), xc < sg_nc σ → K (j + u) = sg_pk σ xc → mw_S G (mw_up M (q 10) ((21, 0), aZ_ G 1681 ov1)) s.heap H locs → lv_has ls 12 [(9, .int (nI xc)), (8, .int (R (j + u))), (7, .int (nI (g j))), (5, .int (nI (j + u))), (4, .int (nI j)), (3, .int (nI u)), (0, .ref y), (1, .int lc), (2, .int lr)] → W pg l en { frames := 0, cells := 0, slots := 0, locals := 0 } s mi [.ref y, .int lc, .int lr].toArray below meth cd H locs 0 0 (MQ below (mw_Q G (pz_ G y q none σ rf f M (fun ch' lk' ov' => ch' = ch ∧ lk' = nI N ∧ ∃ O, ov_t N R K O ∧ ∀ i j, j < i → i < N → ov' (41 * i + j) = mb_i (O i j)))) [.ref y, .int lc, .int lr].toArray s 0 0 (mw_A G)) (F0 mi 86 ls []) := by
                intro xc H locs ls hxc hKx hM hl
                refine lv_iload hx hb dY_relate_86 (lv_at hl 1 rfl) ?_
                refine lv_if_eq (tgt := 105) hx hb dY_relate_88 (by decide) (fun h7 => ?_) (fun h7 => ?_)
                · refine lv_iconst (v := 0) hx hb dY_relate_105 (by decide) ?_
                  refine lv_istore (lv' := [(10, .int 0), (9, .int (nI xc)), (8, .int (R (j + u))), (7, .int (nI (g j))), (5, .int (nI (j + u))), (4, .int (nI j)), (3, .int (nI u)), (0, .ref y), (1, .int lc), (2, .int lr)]) hx hb dY_relate_106 hl (by decide) rfl (fun ls hl => ?_)
                  refine lv_iload hx hb dY_relate_108 (lv_at hl 0 rfl) ?_
                  refine lv_if_eq (tgt := 212) hx hb dY_relate_110 (by decide) (fun h8 => ?_) (fun h8 => absurd rfl h8)
                  exact fin false H locs ls ⟨fun z => (by cases z), fun z => absurd h7 z.1⟩ hM (lv_sub hl [0, 4, 5, 6, 7, 8, 9] rfl)
                · refine lv_aload_n hx hb dY_relate_91 rfl (lv_at hl 6 rfl) ?_
                  refine gf_Y_22 F hM (yw_y hw1) rfl dY_relate_92 ?_
                  refine lv_iload hx hb dY_relate_95 (lv_at hl 2 rfl) ?_
                  refine mw_ild F hM (yw_4 hw1) (vp_in_nI (by omega) (by omega)) dY_relate_97 ?_
                  refine mv_i (y := (sg_rg σ (g j))) (by rw [nI_clamp (by omega)]; exact yv_4 hw1 hg1) ?_
                  refine lv_if_eq (tgt := 105) hx hb dY_relate_98 (by decide) (fun h8 => ?_) (fun h8 => ?_)
                  · refine lv_iconst (v := 0) hx hb dY_relate_105 (by decide) ?_
                    refine lv_istore (lv' := [(10, .int 0), (9, .int (nI xc)), (8, .int (R (j + u))), (7, .int (nI (g j))), (5, .int (nI (j + u))), (4, .int (nI j)), (3, .int (nI u)), (0, .ref y), (1, .int lc), (2, .int lr)]) hx hb dY_relate_106 hl (by decide) rfl (fun ls hl => ?_)
                    refine lv_iload hx hb dY_relate_108 (lv_at hl 0 rfl) ?_
                    refine lv_if_eq (tgt := 212) hx hb dY_relate_110 (by decide) (fun h9 => ?_) (fun h9 => absurd rfl h9)
                    exact fin false H locs ls ⟨fun z => (by cases z), fun z => absurd (hg3.trans h8) z.2.1⟩ hM (lv_sub hl [0, 4, 5, 6, 7, 8, 9] rfl)
                  · refine lv_iconst (v := 1) hx hb dY_relate_101 (by decide) ?_
                    refine lv_goto (tgt := 106) hx hb dY_relate_102 (by decide) ?_
                    refine lv_istore (lv' := [(10, .int 1), (9, .int (nI xc)), (8, .int (R (j + u))), (7, .int (nI (g j))), (5, .int (nI (j + u))), (4, .int (nI j)), (3, .int (nI u)), (0, .ref y), (1, .int lc), (2, .int lr)]) hx hb dY_relate_106 hl (by decide) rfl (fun ls hl => ?_)
                    refine lv_iload hx hb dY_relate_108 (lv_at hl 0 rfl) ?_
                    refine lv_if_eq (tgt := 212) hx hb dY_relate_110 (by decide) (fun h9 => absurd h9 (by decide)) (fun h9 => ?_)
                    have hR0 : ¬ R j = 0 := fun z => h8 (hg3.symm.trans z)
                    refine lv_aload_n hx hb dY_relate_113 rfl (lv_at hl 7 rfl) ?_
                    refine gf_Y_22 F hM (yw_y hw1) rfl dY_relate_114 ?_
                    refine lv_iload hx hb dY_relate_117 (lv_at hl 3 rfl) ?_
                    refine mw_ild F hM (yw_4 hw1) (vp_in_nI (by omega) (by omega)) dY_relate_119 ?_
                    refine mv_i (y := (sg_rg σ (g j))) (by rw [nI_clamp (by omega)]; exact yv_4 hw1 hg1) ?_
                    refine lv_iconst (v := 1) hx hb dY_relate_120 (by decide) ?_
                    refine lv_icmp_ne (tgt := 212) hx hb dY_relate_121 (by decide) (fun g1 => ?_) (fun g1 => ?_)
                    · exact fin true H locs ls ⟨fun _ => ⟨h7, hR0, Or.inl (fun z => g1 (hg3.symm.trans z))⟩, fun _ => rfl⟩ hM (lv_sub hl [0, 4, 5, 6, 7, 8, 9] rfl)
                    · have hR1 : R j = 1 := hg3.trans g1
                      refine lv_aload_n hx hb dY_relate_124 rfl (lv_at hl 7 rfl) ?_
                      refine gf_Y_13 F hM (yw_y hw1) rfl dY_relate_125 ?_
                      refine lv_iload hx hb dY_relate_128 (lv_at hl 1 rfl) ?_
                      refine mw_ild F hM (yw_1 hw1) (vp_in_nI (by omega) (by omega)) dY_relate_130 ?_
                      refine mv_i (y := (sg_pk σ xc)) (by rw [nI_clamp (by omega)]; exact yv_1 hw1 hxc) ?_
                      refine lv_aload_n hx hb dY_relate_131 rfl (lv_at hl 7 rfl) ?_
                      refine gf_Y_13 F hM (yw_y hw1) rfl dY_relate_132 ?_
                      refine lv_aload_n hx hb dY_relate_135 rfl (lv_at hl 7 rfl) ?_
                      refine gf_Y_16 F hM (yw_y hw1) rfl dY_relate_136 ?_
                      refine lv_iload hx hb dY_relate_139 (lv_at hl 3 rfl) ?_
                      refine mw_ild F hM (yw_2 hw1) (vp_in_nI (by omega) (by omega)) dY_relate_141 ?_
                      refine mv_i (y := (nI (sg_mc σ (g j)))) (by rw [nI_clamp (by omega)]; exact yv_2 hw1 hg1) ?_
                      refine mw_ild F hM (yw_1 hw1) (vp_in_nI (by omega) (by omega)) dY_relate_142 ?_
                      refine mv_i (y := (sg_pk σ (sg_mc σ (g j)))) (by rw [nI_clamp (by omega)]; exact yv_1 hw1 hgm) ?_
                      refine lv_icmp_eq (tgt := 212) hx hb dY_relate_143 (by decide) (fun g2 => ?_) (fun g2 => ?_)
                      · exact fin true H locs ls ⟨fun _ => ⟨h7, hR0, Or.inr (Or.inl (by rw [hKx, hg4]; exact g2))⟩, fun _ => rfl⟩ hM (lv_sub hl [0, 4, 5, 6, 7, 8, 9] rfl)
                      · have hKne : ¬ K (j + u) = K j := fun z => g2 (by rw [← hKx, ← hg4]; exact z)
                        have kloop : ∀ (v k : Nat) (b : Bool) (H : Heap) (locs : List Loc) (ls : Array Slot), j + u < k + v → j < k → k ≤ j + u → (b = true ↔ ∃ k2, j < k2 ∧ k2 < k ∧ ot_O ov1 (j + u) k2 = true ∧ ot_O ov1 k2 j = true) → mw_S G (mw_up M (q 10) ((21, 0), aZ_ G 1681 ov1)) s.heap H locs → lv_has ls 12 [(11, .int (nI k)), (10, .int (mb_i b)), (5, .int (nI (j + u))), (4, .int (nI j)), (3, .int (nI u)), (0, .ref y), (1, .int lc), (2, .int lr)] → W pg l en { frames := 0, cells := 0, slots := 0, locals := 0 } s mi [.ref y, .int lc, .int lr].toArray below meth cd H locs 0 0 (MQ below (mw_Q G (pz_ G y q none σ rf f M (fun ch' lk' ov' => ch' = ch ∧ lk' = nI N ∧ ∃ O, ov_t N R K O ∧ ∀ i j, j < i → i < N → ov' (41 * i + j) = mb_i (O i j)))) [.ref y, .int lc, .int lr].toArray s 0 0 (mw_A G)) (F0 mi 155 ls []) := by
                          intro v
                          induction v with
                          | zero => intro k b H locs ls h1 h2 h3; omega
                          | succ v ihv =>
                            intro k b H locs ls hv hjk hki hb9 hM hl
                            refine lv_iload hx hb dY_relate_155 (lv_at hl 0 rfl) ?_
                            refine lv_iload hx hb dY_relate_157 (lv_at hl 2 rfl) ?_
                            refine lv_icmp_ge (tgt := 212) hx hb dY_relate_159 (by decide) (fun g3 => ?_) (fun g3 => ?_)
                            · have hkk : k = j + u := by
                                have := (nI_leI (by omega) (by omega)).mp g3
                                omega
                              exact fin b H locs ls (hb9.trans ⟨fun ⟨k2, z1, z2, z3, z4⟩ => ⟨h7, hR0, Or.inr (Or.inr ⟨k2, z1, by omega, z3, z4⟩)⟩, fun z => by
                                rcases z.2.2 with q | q | ⟨k2, z1, z2, z3, z4⟩
                                · exact absurd hR1 q
                                · exact absurd q hKne
                                · exact ⟨k2, z1, by omega, z3, z4⟩⟩) hM (lv_sub hl [1, 2, 3, 4, 5, 6, 7] rfl)
                            · have hkk : k < j + u := Nat.not_le.mp (fun q => g3 (nI_le q (by omega)))
                              have step : ∀ (b2 : Bool) (H : Heap) (locs : List Loc) (ls : Array Slot), (b2 = true ↔ (b = true ∨ (ot_O ov1 (j + u) k = true ∧ ot_O ov1 k j = true))) → mw_S G (mw_up M (q 10) ((21, 0), aZ_ G 1681 ov1)) s.heap H locs → lv_has ls 12 [(11, .int (nI k)), (10, .int (mb_i b)), (5, .int (nI (j + u))), (4, .int (nI j)), (3, .int (nI u)), (0, .ref y), (1, .int lc), (2, .int lr)] → W pg l en { frames := 0, cells := 0, slots := 0, locals := 0 } s mi [.ref y, .int lc, .int lr].toArray below meth cd H locs 0 0 (MQ below (mw_Q G (pz_ G y q none σ rf f M (fun ch' lk' ov' => ch' = ch ∧ lk' = nI N ∧ ∃ O, ov_t N R K O ∧ ∀ i j, j < i → i < N → ov' (41 * i + j) = mb_i (O i j)))) [.ref y, .int lc, .int lr].toArray s 0 0 (mw_A G)) (F0 mi 204 ls [.int (mb_i b2)]) := by
                                intro b2 H locs ls hb2 hM hl
                                refine lv_istore (lv' := [(10, .int (mb_i b2)), (11, .int (nI k)), (5, .int (nI (j + u))), (4, .int (nI j)), (3, .int (nI u)), (0, .ref y), (1, .int lc), (2, .int lr)]) hx hb dY_relate_204 hl (by decide) rfl (fun ls hl => ?_)
                                refine lv_iinc (v := nI (k + 1)) (lv' := [(11, .int (nI (k + 1))), (10, .int (mb_i b2)), (5, .int (nI (j + u))), (4, .int (nI j)), (3, .int (nI u)), (0, .ref y), (1, .int lc), (2, .int lr)]) hx hb dY_relate_206 hl (k := 1) rfl (ii_1 k) (by decide) rfl (fun ls hl => ?_)
                                refine lv_goto (tgt := 155) hx hb dY_relate_209 (by decide) ?_
                                exact ihv (k + 1) b2 H locs ls (by omega) (by omega) (by omega) (hb2.trans ⟨fun q => by
                                  rcases q with q | q
                                  · obtain ⟨k2, z1, z2, z3⟩ := hb9.mp q
                                    exact ⟨k2, z1, by omega, z3⟩
                                  · exact ⟨k, hjk, by omega, q⟩, fun ⟨k2, z1, z2, z3⟩ => by
                                  by_cases hk2 : k2 = k
                                  · rw [hk2] at z3; exact Or.inr z3
                                  · exact Or.inl (hb9.mpr ⟨k2, z1, by omega, z3⟩)⟩) hM (lv_sub hl [0, 1, 2, 3, 4, 5, 6, 7] rfl)
                              have o1 := (hD (j + u) k (by omega) (by omega) (by omega)).1
                              have o2 := (hD k j (by omega) (by omega) (by omega)).1
                              refine lv_iload hx hb dY_relate_162 (lv_at hl 1 rfl) ?_
                              refine lv_if_ne (tgt := 199) hx hb dY_relate_164 (by decide) (fun g4 => ?_) (fun g4 => ?_)
                              · refine lv_iconst (v := 1) hx hb dY_relate_199 (by decide) ?_
                                refine lv_goto (tgt := 204) hx hb dY_relate_200 (by decide) ?_
                                exact step true H locs ls ⟨fun _ => Or.inl (mb_n g4), fun _ => rfl⟩ hM (lv_sub hl [0, 1, 2, 3, 4, 5, 6, 7] rfl)
                              · have hbf := mb_z g4
                                refine lv_aload_n hx hb dY_relate_167 rfl (lv_at hl 5 rfl) ?_
                                refine gf_Y_41 F hM (yw_y hw1) rfl dY_relate_168 ?_
                                refine lv_bipush (v := 41) hx hb dY_relate_171 (by decide) ?_
                                refine lv_iload hx hb dY_relate_173 (lv_at hl 2 rfl) ?_
                                refine lv_imul hx hb dY_relate_175 ?_
                                refine mv_i (y := nI (41 * (j + u))) (pk_mul 41 (j + u)) ?_
                                refine lv_iload hx hb dY_relate_176 (lv_at hl 0 rfl) ?_
                                refine lv_iadd hx hb dY_relate_178 ?_
                                refine mv_i (y := nI (41 * (j + u) + k)) (nI_add (41 * (j + u)) k) ?_
                                refine mw_zld F hM (yw_10 hw1) (vp_in_nI (by omega) (by omega)) dY_relate_179 ?_
                                refine mv_i (y := mb_i (ot_O ov1 (j + u) k)) (by rw [nI_clamp (by omega)]; exact o1) ?_
                                refine lv_if_eq (tgt := 203) hx hb dY_relate_180 (by decide) (fun g5 => ?_) (fun g5 => ?_)
                                · refine lv_iconst (v := 0) hx hb dY_relate_203 (by decide) ?_
                                  exact step false H locs ls ⟨fun z => (by cases z), fun z => by
                                    rcases z with z | z
                                    · rw [hbf] at z; cases z
                                    · rw [mb_z g5] at z; exact absurd z.1 (by decide)⟩ hM (lv_sub hl [0, 1, 2, 3, 4, 5, 6, 7] rfl)
                                · refine lv_aload_n hx hb dY_relate_183 rfl (lv_at hl 5 rfl) ?_
                                  refine gf_Y_41 F hM (yw_y hw1) rfl dY_relate_184 ?_
                                  refine lv_bipush (v := 41) hx hb dY_relate_187 (by decide) ?_
                                  refine lv_iload hx hb dY_relate_189 (lv_at hl 0 rfl) ?_
                                  refine lv_imul hx hb dY_relate_191 ?_
                                  refine mv_i (y := nI (41 * k)) (pk_mul 41 k) ?_
                                  refine lv_iload hx hb dY_relate_192 (lv_at hl 3 rfl) ?_
                                  refine lv_iadd hx hb dY_relate_194 ?_
                                  refine mv_i (y := nI (41 * k + j)) (nI_add (41 * k) j) ?_
                                  refine mw_zld F hM (yw_10 hw1) (vp_in_nI (by omega) (by omega)) dY_relate_195 ?_
                                  refine mv_i (y := mb_i (ot_O ov1 k j)) (by rw [nI_clamp (by omega)]; exact o2) ?_
                                  refine lv_if_eq (tgt := 203) hx hb dY_relate_196 (by decide) (fun g6 => ?_) (fun g6 => ?_)
                                  · refine lv_iconst (v := 0) hx hb dY_relate_203 (by decide) ?_
                                    exact step false H locs ls ⟨fun z => (by cases z), fun z => by
                                      rcases z with z | z
                                      · rw [hbf] at z; cases z
                                      · rw [mb_z g6] at z; exact absurd z.2 (by decide)⟩ hM (lv_sub hl [0, 1, 2, 3, 4, 5, 6, 7] rfl)
                                  · refine lv_iconst (v := 1) hx hb dY_relate_199 (by decide) ?_
                                    refine lv_goto (tgt := 204) hx hb dY_relate_200 (by decide) ?_
                                    exact step true H locs ls ⟨fun _ => Or.inr ⟨mb_n g5, mb_n g6⟩, fun _ => rfl⟩ hM (lv_sub hl [0, 1, 2, 3, 4, 5, 6, 7] rfl)
                        refine lv_iconst (v := 0) hx hb dY_relate_146 (by decide) ?_
                        refine lv_istore (lv' := [(10, .int 0), (9, .int (nI xc)), (8, .int (R (j + u))), (7, .int (nI (g j))), (5, .int (nI (j + u))), (4, .int (nI j)), (3, .int (nI u)), (0, .ref y), (1, .int lc), (2, .int lr)]) hx hb dY_relate_147 hl (by decide) rfl (fun ls hl => ?_)
                        refine lv_iload hx hb dY_relate_149 (lv_at hl 5 rfl) ?_
                        refine lv_iconst (v := 1) hx hb dY_relate_151 (by decide) ?_
                        refine lv_iadd hx hb dY_relate_152 ?_
                        refine mv_i (y := nI (j + 1)) (nI_1 j) ?_
                        refine lv_istore (lv' := [(11, .int (nI (j + 1))), (10, .int 0), (9, .int (nI xc)), (8, .int (R (j + u))), (7, .int (nI (g j))), (5, .int (nI (j + u))), (4, .int (nI j)), (3, .int (nI u)), (0, .ref y), (1, .int lc), (2, .int lr)]) hx hb dY_relate_153 hl (by decide) rfl (fun ls hl => ?_)
                        exact kloop u (j + 1) false H locs ls (by omega) (by omega) (by omega) ⟨fun z => (by cases z), fun ⟨k2, z1, z2, z3⟩ => by omega⟩ hM (lv_sub hl [0, 1, 5, 6, 7, 8, 9, 10] rfl)
              refine lv_iload hx hb dY_relate_24 (lv_at hl 0 rfl) ?_
              refine lv_iload_n hx hb dY_relate_26 rfl (lv_at hl 1 rfl) ?_
              refine lv_iadd hx hb dY_relate_27 ?_
              refine mv_i (y := nI (j + u)) (nI_add j u) ?_
              refine lv_istore (lv' := [(5, .int (nI (j + u))), (4, .int (nI j)), (3, .int (nI u)), (0, .ref y), (1, .int lc), (2, .int lr)]) hx hb dY_relate_28 hl (by decide) rfl (fun ls hl => ?_)
              refine lv_aload_n hx hb dY_relate_30 rfl (lv_at hl 3 rfl) ?_
              refine gf_Y_38 F hM (yw_y hw1) rfl dY_relate_31 ?_
              refine lv_iload hx hb dY_relate_34 (lv_at hl 0 rfl) ?_
              refine mw_ild F hM (yw_9 hw1) (vp_in_nI (by omega) (by omega)) dY_relate_36 ?_
              refine mv_i (y := ch (j + u)) (by rw [nI_clamp (by omega)]) ?_
              refine lv_istore (lv' := [(6, .int (ch (j + u))), (5, .int (nI (j + u))), (4, .int (nI j)), (3, .int (nI u)), (0, .ref y), (1, .int lc), (2, .int lr)]) hx hb dY_relate_37 hl (by decide) rfl (fun ls hl => ?_)
              refine lv_aload_n hx hb dY_relate_39 rfl (lv_at hl 4 rfl) ?_
              refine gf_Y_38 F hM (yw_y hw1) rfl dY_relate_40 ?_
              refine lv_iload hx hb dY_relate_43 (lv_at hl 2 rfl) ?_
              refine mw_ild F hM (yw_9 hw1) (vp_in_nI (by omega) (by omega)) dY_relate_45 ?_
              refine mv_i (y := nI (g j)) (by rw [nI_clamp (by omega)]; exact hg2) ?_
              refine lv_istore (lv' := [(7, .int (nI (g j))), (6, .int (ch (j + u))), (5, .int (nI (j + u))), (4, .int (nI j)), (3, .int (nI u)), (0, .ref y), (1, .int lc), (2, .int lr)]) hx hb dY_relate_46 hl (by decide) rfl (fun ls hl => ?_)
              refine lv_iload hx hb dY_relate_48 (lv_at hl 1 rfl) ?_
              refine lv_iconst (v := (-1)) hx hb dY_relate_50 (by decide) ?_
              rcases hch (j + u) hjN2 with ⟨d1, d2, d3, d4⟩ | ⟨d0, d2, d3, xc, d5, d6, d4⟩
              · have hgc := yw_mc hw d1
                refine lv_icmp_ne (tgt := 58) hx hb dY_relate_51 (by decide) (fun h7 => ?_) (fun h7 => absurd h7 (by rw [d2]; exact nI_m1 (by omega)))
                rw [d2] at hl
                have hl : lv_has ls 12 [(7, .int (nI (g j))), (6, .int (nI (g (j + u)))), (5, .int (nI (j + u))), (4, .int (nI j)), (3, .int (nI u)), (0, .ref y), (1, .int lc), (2, .int lr)] := hl
                refine lv_aload_n hx hb dY_relate_58 rfl (lv_at hl 5 rfl) ?_
                refine gf_Y_22 F hM (yw_y hw1) rfl dY_relate_59 ?_
                refine lv_iload hx hb dY_relate_62 (lv_at hl 1 rfl) ?_
                refine mw_ild F hM (yw_4 hw1) (vp_in_nI (by omega) (by omega)) dY_relate_64 ?_
                refine mv_i (y := (sg_rg σ (g (j + u)))) (by rw [nI_clamp (by omega)]; exact yv_4 hw1 d1) ?_
                refine mv_i (y := R (j + u)) (d3.symm) ?_
                refine lv_istore (lv' := [(8, .int (R (j + u))), (7, .int (nI (g j))), (6, .int (nI (g (j + u)))), (5, .int (nI (j + u))), (4, .int (nI j)), (3, .int (nI u)), (0, .ref y), (1, .int lc), (2, .int lr)]) hx hb dY_relate_65 hl (by decide) rfl (fun ls hl => ?_)
                refine lv_iload hx hb dY_relate_67 (lv_at hl 2 rfl) ?_
                refine lv_iconst (v := (-1)) hx hb dY_relate_69 (by decide) ?_
                refine lv_icmp_ne (tgt := 77) hx hb dY_relate_70 (by decide) (fun h8 => ?_) (fun h8 => absurd h8 (nI_m1 (by omega)))
                refine lv_aload_n hx hb dY_relate_77 rfl (lv_at hl 6 rfl) ?_
                refine gf_Y_16 F hM (yw_y hw1) rfl dY_relate_78 ?_
                refine lv_iload hx hb dY_relate_81 (lv_at hl 2 rfl) ?_
                refine mw_ild F hM (yw_2 hw1) (vp_in_nI (by omega) (by omega)) dY_relate_83 ?_
                refine mv_i (y := (nI (sg_mc σ (g (j + u))))) (by rw [nI_clamp (by omega)]; exact yv_2 hw1 d1) ?_
                refine lv_istore (lv' := [(9, .int (nI (sg_mc σ (g (j + u))))), (8, .int (R (j + u))), (7, .int (nI (g j))), (6, .int (nI (g (j + u)))), (5, .int (nI (j + u))), (4, .int (nI j)), (3, .int (nI u)), (0, .ref y), (1, .int lc), (2, .int lr)]) hx hb dY_relate_84 hl (by decide) rfl (fun ls hl => ?_)
                exact on86 (sg_mc σ (g (j + u))) H locs ls hgc d4 hM (by
                  exact (lv_sub hl [0, 1, 2, 4, 5, 6, 7, 8, 9] rfl))
              · refine lv_icmp_ne (tgt := 58) hx hb dY_relate_51 (by decide) (fun h7 => absurd d2 h7) (fun h7 => ?_)
                refine lv_iload_n hx hb dY_relate_54 rfl (lv_at hl 7 rfl) ?_
                refine lv_goto (tgt := 65) hx hb dY_relate_55 (by decide) ?_
                refine mv_i (y := R (j + u)) (d3.symm) ?_
                refine lv_istore (lv' := [(8, .int (R (j + u))), (7, .int (nI (g j))), (6, .int (ch (j + u))), (5, .int (nI (j + u))), (4, .int (nI j)), (3, .int (nI u)), (0, .ref y), (1, .int lc), (2, .int lr)]) hx hb dY_relate_65 hl (by decide) rfl (fun ls hl => ?_)
                refine lv_iload hx hb dY_relate_67 (lv_at hl 2 rfl) ?_
                refine lv_iconst (v := (-1)) hx hb dY_relate_69 (by decide) ?_
                refine lv_icmp_ne (tgt := 77) hx hb dY_relate_70 (by decide) (fun h8 => absurd d2 h8) (fun h8 => ?_)
                refine lv_iload_n hx hb dY_relate_73 rfl (lv_at hl 7 rfl) ?_
                refine lv_goto (tgt := 84) hx hb dY_relate_74 (by decide) ?_
                refine mv_i (y := nI xc) (d6) ?_
                refine lv_istore (lv' := [(9, .int (nI xc)), (8, .int (R (j + u))), (7, .int (nI (g j))), (6, .int (ch (j + u))), (5, .int (nI (j + u))), (4, .int (nI j)), (3, .int (nI u)), (0, .ref y), (1, .int lc), (2, .int lr)]) hx hb dY_relate_84 hl (by decide) rfl (fun ls hl => ?_)
                exact on86 xc H locs ls d5 d4 hM (lv_sub hl [0, 1, 2, 4, 5, 6, 7, 8, 9] rfl)
        refine lv_iconst (v := 0) hx hb dY_relate_10 (by decide) ?_
        refine lv_istore (lv' := [(4, .int 0), (3, .int (nI u)), (0, .ref y), (1, .int lc), (2, .int lr)]) hx hb dY_relate_11 hl (by decide) rfl (fun ls hl => ?_)
        exact inner (N + 1) 0 ov1 _ _ ls (by omega) (by omega) hD hM (lv_sub hl [0, 1, 2, 3, 4] rfl)
  refine lv_iconst (v := 1) hx hb dY_relate_0 (by decide) ?_
  refine lv_istore_n (lv' := [(3, .int 1), (0, .ref y), (1, .int lc), (2, .int lr)]) hx hb dY_relate_1 rfl hl (by decide) rfl (fun ls hl => ?_)
  exact loop (N + 1) 1 ov _ _ ls (by omega) (Nat.le_refl _) (by omega) ot_0 (by rw [mw_id (yw_10 hw)]; exact hM) (lv_sub hl [0, 1, 2, 3] rfl)
end GC
