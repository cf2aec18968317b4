def is_s (σ : sg_T) (n t w : Int32) (m : Nat) : Bool := if w = 3 then decide (sg_kd σ m = 2) && decide (sg_ty σ m = t) else decide (sg_mn σ m = n) && (if w ≤ 3 then decide (sg_kd σ m = 1) && (decide (sg_ty σ m = t) && decide (sg_fx σ m = decide (w = 0))) else decide (sg_kd σ m = 0))
theorem i3_43 {w : Int32} : 4 ≤ w ↔ ¬ w ≤ 3 := by
  rw [Int32.le_iff_toInt_le, Int32.le_iff_toInt_le, show (4 : Int32).toInt = 4 by decide, show (3 : Int32).toInt = 3 by decide]
  omega
theorem is_fi {σ : sg_T} (hW : sg_W σ) {n t w : Int32} {m d : Nat} (hm : m < sg_nm σ) (hc : sg_mc σ m = d) (h3 : ¬ w = 3) (hs : is_s σ n t w m = true) : fi_c σ n t w d = some m := by
  unfold is_s at hs
  rw [if_neg h3, Bool.and_eq_true] at hs
  obtain ⟨h1, h2⟩ := hs
  have h1 := of_decide_eq_true h1
  unfold fi_c
  by_cases hw : w ≤ 3
  · rw [if_pos hw, Bool.and_eq_true, Bool.and_eq_true] at h2
    obtain ⟨h4, h5, h6⟩ := h2
    rw [if_neg (fun z => i3_43.mp z hw), ow_is hW hm hc (of_decide_eq_true h4) h1 (of_decide_eq_true h5)]
    show (if sg_fx σ m = decide (w = 0) then some m else none) = some m
    rw [if_pos (of_decide_eq_true h6)]
  · rw [if_neg hw] at h2
    have hk := of_decide_eq_true h2
    have ht : sg_ty σ m = 0 := by
      rcases hW.2.2.2.2.2.1 m hm with q | q | q
      · exact q.2
      · rw [hk] at q; exact absurd q (by decide)
      · rw [hk] at q; exact absurd q.1 (by decide)
    rw [if_pos (i3_43.mpr hw)]
    exact ow_is hW hm hc hk h1 ht
theorem is_no {σ : sg_T} {n t w : Int32} {d : Nat} (h3 : ¬ w = 3) (h : ∀ m, m < sg_nm σ → ¬ (sg_mc σ m = d ∧ is_s σ n t w m = true)) : fi_c σ n t w d = none := by
  unfold fi_c
  by_cases hw : w ≤ 3
  · rw [if_neg (fun z => i3_43.mp z hw)]
    cases e : sg_ow σ d 1 n t with
    | none => rfl
    | some m =>
      obtain ⟨a1, a2, a3, a4, a5⟩ := ow_some e
      show (if sg_fx σ m = decide (w = 0) then some m else none) = none
      by_cases hf : sg_fx σ m = decide (w = 0)
      · refine absurd ⟨a2, ?_⟩ (h m a1)
        unfold is_s
        rw [if_neg h3, if_pos hw]
        simp [a3, a4, a5, hf]
      · rw [if_neg hf]
  · rw [if_pos (i3_43.mpr hw)]
    cases e : sg_ow σ d 0 n 0 with
    | none => rfl
    | some m =>
      obtain ⟨a1, a2, a3, a4, a5⟩ := ow_some e
      refine absurd ⟨a2, ?_⟩ (h m a1)
      unfold is_s
      rw [if_neg h3, if_neg hw]
      simp [a3, a4]
theorem is_3 {σ : sg_T} (hW : sg_W σ) {n t w : Int32} {m d : Nat} (hm : m < sg_nm σ) (hc : sg_mc σ m = d) (h3 : w = 3) (hs : is_s σ n t w m = true) : sg_ow σ d 2 0 t = some m := by
  unfold is_s at hs
  rw [if_pos h3, Bool.and_eq_true] at hs
  have hk := of_decide_eq_true hs.1
  have hn : sg_mn σ m = 0 := by
    rcases hW.2.2.2.2.2.1 m hm with q | q | q
    · rw [hk] at q; exact absurd q.1 (by decide)
    · rw [hk] at q; exact absurd q (by decide)
    · exact q.2
  exact ow_is hW hm hc hk hn (of_decide_eq_true hs.2)
theorem is_3n {σ : sg_T} {n t w : Int32} {d : Nat} (h3 : w = 3) (h : ∀ m, m < sg_nm σ → ¬ (sg_mc σ m = d ∧ is_s σ n t w m = true)) : sg_ow σ d 2 0 t = none := by
  refine ow_none fun m hm q => h m hm ⟨q.1, ?_⟩
  unfold is_s
  rw [if_pos h3]
  simp [q.2.1, q.2.2.2]
