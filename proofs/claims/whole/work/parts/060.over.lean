theorem fm_n {σ : sg_T} {n t : Int32} {c : Nat} {cs : List Nat} (h : sg_oo σ c n t = none) : (c :: cs).filterMap (fun c => sg_oo σ c n t) = cs.filterMap (fun c => sg_oo σ c n t) := List.filterMap_cons_none (f := fun c => sg_oo σ c n t) h
theorem fm_s {σ : sg_T} {n t : Int32} {c y : Nat} {cs : List Nat} (h : sg_oo σ c n t = some y) : (c :: cs).filterMap (fun c => sg_oo σ c n t) = y :: cs.filterMap (fun c => sg_oo σ c n t) := List.filterMap_cons_some (f := fun c => sg_oo σ c n t) h
theorem li_ct {L : List Int32} {v : Int32} : L.contains v = true ↔ v ∈ L := by simp
def ov_t (N : Nat) (R K : Nat → Int32) (O : Nat → Nat → Bool) : Prop := ∀ i j, j < i → i < N → (O i j = true ↔ (¬ R i = 0 ∧ ¬ R j = 0 ∧ (¬ R j = 1 ∨ K i = K j ∨ ∃ k, j < k ∧ k < i ∧ O i k = true ∧ O k j = true)))
theorem ov_tr {N : Nat} {R K : Nat → Int32} {O : Nat → Nat → Bool} (h : ov_t N R K O) {i k j : Nat} (h1 : j < k) (h2 : k < i) (h3 : i < N) (a : O i k = true) (b : O k j = true) : O i j = true := by
  refine (h i j (by omega) h3).mpr ⟨((h i k h2 h3).mp a).1, ((h k j h1 (by omega)).mp b).2.1, Or.inr (Or.inr ⟨k, h1, h2, a, b⟩)⟩
theorem ov_cl {N : Nat} {R K : Nat → Int32} {O : Nat → Nat → Bool} (h : ov_t N R K O) {j : Nat} (hj : R j = 1) : ∀ i, j < i → i < N → O i j = true → K i = K j ∨ ∃ k, j < k ∧ k < i ∧ O i k = true ∧ K k = K j := by
  intro i
  induction i using Nat.strongRecOn with
  | ind i ih =>
    intro h1 h2 h3
    obtain ⟨-, -, q⟩ := (h i j h1 h2).mp h3
    rcases q with q | q | ⟨k, k1, k2, k3, k4⟩
    · exact absurd hj q
    · exact Or.inl q
    · rcases ih k k2 k1 (by omega) k4 with q | ⟨k', q1, q2, q3, q4⟩
      · exact Or.inr ⟨k, k1, k2, k3, q⟩
      · exact Or.inr ⟨k', q1, by omega, ov_tr h q2 k2 h2 k3 q3, q4⟩
theorem ov_cl2 {N : Nat} {R K : Nat → Int32} {O : Nat → Nat → Bool} (h : ov_t N R K O) {i j : Nat} (h1 : j < i) (h2 : i < N) (hi : ¬ R i = 0) (hj : R j = 1) : O i j = true ↔ (K i = K j ∨ ∃ k, j < k ∧ k < i ∧ O i k = true ∧ K k = K j) := by
  have hj0 : ¬ R j = 0 := by rw [hj]; decide
  refine ⟨ov_cl h hj i h1 h2, fun q => ?_⟩
  rcases q with q | ⟨k, k1, k2, k3, k4⟩
  · exact (h i j h1 h2).mpr ⟨hi, hj0, Or.inr (Or.inl q)⟩
  · have hk : O k j = true := (h k j k1 (by omega)).mpr ⟨((h i k k2 h2).mp k3).2.1, hj0, Or.inr (Or.inl k4)⟩
    exact ov_tr h k1 k2 h2 k3 hk
def dn_l (g : Nat → Nat) : Nat → List Nat
  | 0 => []
  | k + 1 => g k :: dn_l g k
theorem dn_s (g : Nat → Nat) (k : Nat) : dn_l g (k + 1) = g k :: dn_l g k := rfl
theorem dn_len (g : Nat → Nat) (k : Nat) : (dn_l g k).length = k := by
  induction k with
  | zero => rfl
  | succ k ih => rw [dn_s, List.length_cons, ih]
theorem dn_nil {g : Nat → Nat} {k : Nat} (h : ([] : List Nat) = dn_l g k) : k = 0 := by
  cases k with
  | zero => rfl
  | succ k => cases h
theorem dn_cons {g : Nat → Nat} {k y : Nat} {l : List Nat} (h : y :: l = dn_l g k) : ∃ k', k = k' + 1 ∧ y = g k' ∧ l = dn_l g k' := by
  cases k with
  | zero => cases h
  | succ k =>
    rw [dn_s] at h
    injection h with h1 h2
    exact ⟨k, rfl, h1, h2⟩
theorem ov_wk {σ : sg_T} {n t : Int32} {N : Nat} {R K : Nat → Int32} {O : Nat → Nat → Bool} {g : Nat → Nat} (h : ov_t N R K O) {i : Nat} (hi : i < N) (hRi : ¬ R i = 0) (hR : ∀ k, k < i → R k = sg_rg σ (g k)) (hK : ∀ k, k < i → K k = sg_pk σ (sg_mc σ (g k)))
    (ho : ∀ k, k < i → sg_oo σ (sg_mc σ (g k)) n t = some (g k)) (hno : ∀ a b, a < i → b < i → g a = g b → a = b) {j : Nat} : ∀ (cs : List Nat) (k : Nat) (L : List Int32), k ≤ i → j < k → cs.filterMap (fun c => sg_oo σ c n t) = dn_l g k → (∀ v, v ∈ L ↔ (v = K i ∨ ∃ k', k ≤ k' ∧ k' < i ∧ O i k' = true ∧ K k' = v)) →
      ov_l σ n t (sg_mc σ (g j)) L cs = O i j := by
  intro cs
  induction cs with
  | nil =>
    intro k L hk hj hf
    have := dn_nil hf
    omega
  | cons c cs ih =>
    intro k L hk hj hf hL
    unfold ov_l
    cases e : sg_oo σ c n t with
    | none =>
      have hne : ¬ c = sg_mc σ (g j) := fun q => by
        rw [q, ho j (by omega)] at e
        cases e
      have hc : ov_c σ n t L c = false := by unfold ov_c; rw [e]
      rw [if_neg hne, hc]
      rw [fm_n e] at hf
      exact ih k L hk hj hf hL
    | some y =>
      rw [fm_s e] at hf
      obtain ⟨k', rfl, rfl, hf'⟩ := dn_cons hf
      have hcy : sg_mc σ (g k') = c := (oo_some e).2.1
      have hc : ov_c σ n t L c = O i k' := by
        unfold ov_c
        rw [e]
        show ov_y σ L (g k') = O i k'
        unfold ov_y
        rw [← hR k' (by omega), ← hK k' (by omega)]
        by_cases h1 : R k' = 1
        · rw [if_pos h1]
          have hcl := ov_cl2 h (i := i) (j := k') (by omega) hi hRi h1
          have hm := hL (K k')
          cases hO : O i k' with
          | true =>
            refine li_ct.mpr (hm.mpr ?_)
            rcases hcl.mp hO with q | ⟨k2, q1, q2, q3, q4⟩
            · exact Or.inl q.symm
            · exact Or.inr ⟨k2, by omega, q2, q3, q4⟩
          | false =>
            cases hx : L.contains (K k') with
            | false => rfl
            | true =>
              have hx' := hm.mp (li_ct.mp hx)
              have : O i k' = true := hcl.mpr (by
                rcases hx' with q | ⟨k2, q1, q2, q3, q4⟩
                · exact Or.inl q.symm
                · exact Or.inr ⟨k2, by omega, q2, q3, q4⟩)
              rw [hO] at this
              cases this
        · rw [if_neg h1]
          have hh := h i k' (by omega) hi
          by_cases h0 : R k' = 0
          · cases hO : O i k' with
            | false => simp [h0]
            | true => exact absurd h0 (hh.mp hO).2.1
          · rw [hh.mpr ⟨hRi, h0, Or.inl h1⟩]
            simp [h0]
      by_cases hcg : c = sg_mc σ (g j)
      · rw [if_pos hcg, hc]
        have h2 : sg_oo σ c n t = some (g j) := by rw [hcg]; exact ho j (by omega)
        rw [e] at h2
        by_cases hjk : j = k'
        · rw [hjk]
        · exfalso
          exact hjk (hno j k' (by omega) (by omega) (Option.some.inj h2).symm)
      · rw [if_neg hcg, hc]
        have hjk : j < k' := by
          by_cases q : j = k'
          · rw [q] at hcg; exact absurd hcy.symm hcg
          · omega
        refine ih k' _ (by omega) hjk hf' (fun v => ?_)
        have hm := hL v
        by_cases hO : O i k' = true
        · rw [if_pos hO, List.mem_append, List.mem_singleton, hm]
          constructor
          · intro q
            rcases q with (q | ⟨k2, q1, q2, q3, q4⟩) | q
            · exact Or.inl q
            · exact Or.inr ⟨k2, by omega, q2, q3, q4⟩
            · exact Or.inr ⟨k', Nat.le_refl _, by omega, hO, by rw [q, ← hcy]; exact hK k' (by omega)⟩
          · intro q
            rcases q with q | ⟨k2, q1, q2, q3, q4⟩
            · exact Or.inl (Or.inl q)
            · by_cases hk2 : k2 = k'
              · refine Or.inr ?_
                rw [← q4, hk2, ← hcy]; exact hK k' (by omega)
              · exact Or.inl (Or.inr ⟨k2, by omega, q2, q3, q4⟩)
        · rw [if_neg hO, hm]
          constructor
          · intro q
            rcases q with q | ⟨k2, q1, q2, q3, q4⟩
            · exact Or.inl q
            · exact Or.inr ⟨k2, by omega, q2, q3, q4⟩
          · intro q
            rcases q with q | ⟨k2, q1, q2, q3, q4⟩
            · exact Or.inl q
            · by_cases hk2 : k2 = k'
              · rw [hk2] at q3; exact absurd q3 hO
              · exact Or.inr ⟨k2, by omega, q2, q3, q4⟩
theorem dn_ln {σ : sg_T} (hW : sg_W σ) {n t : Int32} {g : Nat → Nat} : ∀ (u : Nat) (o : Option Nat) (N : Nat), (∀ d, o = some d → d < u ∧ d < sg_nc σ) → (ln_o (sg_pr σ) o).filterMap (fun c => sg_oo σ c n t) = dn_l g N → ∀ i, i < N → sg_oo σ (sg_mc σ (g i)) n t = some (g i) ∧ (∀ d, o = some d → sg_mc σ (g i) ≤ d) ∧ (ln_o (sg_pr σ) (sg_pr σ (sg_mc σ (g i)))).filterMap (fun c => sg_oo σ c n t) = dn_l g i := by
  intro u
  induction u using Nat.strongRecOn with
  | ind u ih =>
    intro o N hd hf i hi
    cases o with
    | none =>
      have := dn_nil hf
      omega
    | some c =>
      obtain ⟨h1, h2⟩ := hd c rfl
      have hp : ∀ q, sg_pr σ c = some q → q < c := fun q hq => hW.2.2.1 c q h2 hq
      have hln : ln_o (sg_pr σ) (some c) = c :: ln_o (sg_pr σ) (sg_pr σ c) := ln_e hp
      rw [hln] at hf
      have hd2 : ∀ d, sg_pr σ c = some d → d < c ∧ d < sg_nc σ := fun d hq => ⟨hp d hq, Nat.lt_trans (hp d hq) h2⟩
      have fin : ∀ N', (ln_o (sg_pr σ) (sg_pr σ c)).filterMap (fun c => sg_oo σ c n t) = dn_l g N' → i < N' → sg_oo σ (sg_mc σ (g i)) n t = some (g i) ∧ (∀ d, some c = some d → sg_mc σ (g i) ≤ d) ∧ (ln_o (sg_pr σ) (sg_pr σ (sg_mc σ (g i)))).filterMap (fun c => sg_oo σ c n t) = dn_l g i := by
        intro N' hf' hi'
        obtain ⟨a1, a2, a3⟩ := ih c h1 (sg_pr σ c) N' hd2 hf' i hi'
        refine ⟨a1, fun d hq => ?_, a3⟩
        cases hq
        cases hpc : sg_pr σ c with
        | none =>
          rw [hpc] at hf'
          have := dn_nil hf'
          omega
        | some q => exact Nat.le_of_lt (Nat.lt_of_le_of_lt (a2 q hpc) (hp q hpc))
      cases e : sg_oo σ c n t with
      | none =>
        rw [fm_n e] at hf
        exact fin N hf hi
      | some y =>
        rw [fm_s e] at hf
        obtain ⟨N', rfl, rfl, hf'⟩ := dn_cons hf
        by_cases hiN : i = N'
        · subst hiN
          have hcy : sg_mc σ (g i) = c := (oo_some e).2.1
          rw [hcy]
          exact ⟨e, fun d hq => by cases hq; exact Nat.le_refl _, hf'⟩
        · exact fin N' hf' (by omega)
theorem ov_eq {σ : sg_T} {n t r : Int32} {c N : Nat} {R K : Nat → Int32} {O : Nat → Nat → Bool} {g : Nat → Nat} (h : ov_t N R K O) {i : Nat} (hi : i < N) (hRr : R i = r) (hKc : K i = sg_pk σ c) (hR : ∀ k, k < i → R k = sg_rg σ (g k)) (hK : ∀ k, k < i → K k = sg_pk σ (sg_mc σ (g k)))
    (ho : ∀ k, k < i → sg_oo σ (sg_mc σ (g k)) n t = some (g k)) (hno : ∀ a b, a < i → b < i → g a = g b → a = b) (hf : (ln_o (sg_pr σ) (sg_pr σ c)).filterMap (fun c => sg_oo σ c n t) = dn_l g i) {j : Nat} (hj : j < i) : O i j = ov_r σ c n t r (g j) := by
  have hh := h i j hj hi
  unfold ov_r
  rw [← hR j hj]
  by_cases h1 : r = 0
  · rw [← hRr] at h1
    cases hO : O i j with
    | true => exact absurd h1 (hh.mp hO).1
    | false => rw [← hRr]; simp [h1]
  · by_cases h2 : R j = 0
    · cases hO : O i j with
      | true => exact absurd h2 (hh.mp hO).2.1
      | false => simp [h2]
    · rw [ov_wk h hi (by rw [hRr]; exact h1) hR hK ho hno (j := j) _ i [sg_pk σ c] (Nat.le_refl _) hj hf (fun v => ?_)]
      · simp [h1, h2]
      · rw [List.mem_singleton, hKc]
        constructor
        · exact fun q => Or.inl q
        · intro q
          rcases q with q | ⟨k, q1, q2, -⟩
          · exact q
          · omega
