def la_ (A : List Nat) (p : Nat) : Nat := A.getD p 0
theorem la_lt {A : List Nat} {y p : Nat} (h : p < A.length) : la_ (A ++ [y]) p = la_ A p := by
  simp [la_, List.getD_eq_getElem?_getD, List.getElem?_append_left h]
theorem la_at {A : List Nat} {y : Nat} : la_ (A ++ [y]) A.length = y := by
  simp [la_, List.getD_eq_getElem?_getD]
theorem la_cons {y : Nat} {A : List Nat} {p : Nat} : la_ (y :: A) (p + 1) = la_ A p := rfl
theorem dn_la : ∀ (A : List Nat), dn_l (fun k => la_ A (A.length - 1 - k)) A.length = A := by
  have key : ∀ (A : List Nat) (g : Nat → Nat), (∀ p, p < A.length → g (A.length - 1 - p) = la_ A p) → dn_l g A.length = A := by
    intro A
    induction A with
    | nil => intro g _; rfl
    | cons y A ih =>
      intro g hg
      show dn_l g (A.length + 1) = y :: A
      rw [dn_s]
      have h0 := hg 0 (Nat.succ_pos _)
      have e0 : (y :: A).length - 1 - 0 = A.length := by simp
      rw [e0] at h0
      rw [h0]
      congr 1
      refine ih g fun p hp => ?_
      have h1 := hg (p + 1) (by simpa using hp)
      have e1 : (y :: A).length - 1 - (p + 1) = A.length - 1 - p := by simp; omega
      rw [e1] at h1
      rw [h1]
      rfl
  intro A
  refine key A _ fun p hp => ?_
  show la_ A (A.length - 1 - (A.length - 1 - p)) = la_ A p
  congr 1
  omega
def ot_O (ov : Nat → Int32) (i j : Nat) : Bool := decide (ov (41 * i + j) = 1)
def ot_R (R K : Nat → Int32) (ov : Nat → Int32) (i j : Nat) : Prop := ¬ R i = 0 ∧ ¬ R j = 0 ∧ (¬ R j = 1 ∨ K i = K j ∨ ∃ k, j < k ∧ k < i ∧ ot_O ov i k = true ∧ ot_O ov k j = true)
def ot_D (N : Nat) (R K : Nat → Int32) (ov : Nat → Int32) (u v : Nat) : Prop := ∀ i j, j < i → i < N → (i - j < u ∨ (i - j = u ∧ j < v)) → ov (41 * i + j) = mb_i (ot_O ov i j) ∧ (ot_O ov i j = true ↔ ot_R R K ov i j)
theorem ot_ix {i j a b : Nat} (hj : j < 41) (hb : b < 41) (h : 41 * i + j = 41 * a + b) : i = a ∧ j = b := by omega
theorem ot_mb (b : Bool) : decide (mb_i b = 1) = b := by cases b <;> decide
theorem ot_ne {ov : Nat → Int32} {i j a b : Nat} {x : Int32} (hj : j < 41) (hb : b < 41) (h : ¬ (i = a ∧ j = b)) : upd ov (41 * a + b) x (41 * i + j) = ov (41 * i + j) := by
  rw [upd, if_neg (fun q => h (ot_ix hj hb q))]
theorem ot_On {ov : Nat → Int32} {i j a b : Nat} {x : Int32} (hj : j < 41) (hb : b < 41) (h : ¬ (i = a ∧ j = b)) : ot_O (upd ov (41 * a + b) x) i j = ot_O ov i j := by
  unfold ot_O
  rw [ot_ne hj hb h]
theorem ot_Rn {R K ov : Nat → Int32} {i j a b : Nat} {x : Int32} (hi : i < 41) (hji : j < i) (ha : a < 41) (hba : b < a) (h : i - j ≤ a - b) : ot_R R K (upd ov (41 * a + b) x) i j ↔ ot_R R K ov i j := by
  have e : ∀ k, j < k → k < i → ot_O (upd ov (41 * a + b) x) i k = ot_O ov i k ∧ ot_O (upd ov (41 * a + b) x) k j = ot_O ov k j := fun k h1 h2 => ⟨ot_On (by omega) (by omega) (by omega), ot_On (by omega) (by omega) (by omega)⟩
  unfold ot_R
  refine and_congr Iff.rfl (and_congr Iff.rfl (or_congr Iff.rfl (or_congr Iff.rfl ⟨fun ⟨k, h1, h2, h3, h4⟩ => ⟨k, h1, h2, ?_, ?_⟩, fun ⟨k, h1, h2, h3, h4⟩ => ⟨k, h1, h2, ?_, ?_⟩⟩)))
  · rw [← (e k h1 h2).1]; exact h3
  · rw [← (e k h1 h2).2]; exact h4
  · rw [(e k h1 h2).1]; exact h3
  · rw [(e k h1 h2).2]; exact h4
theorem ot_up {N : Nat} {R K ov : Nat → Int32} {u v : Nat} (hN : N ≤ 41) (hu : 0 < u) (hv : v + u < N) (h : ot_D N R K ov u v) {b : Bool} (hb : b = true ↔ ot_R R K ov (v + u) v) : ot_D N R K (upd ov (41 * (v + u) + v) (mb_i b)) u (v + 1) := by
  intro i j hji hi hd
  by_cases he : i = v + u ∧ j = v
  · obtain ⟨rfl, rfl⟩ := he
    have e1 : upd ov (41 * (j + u) + j) (mb_i b) (41 * (j + u) + j) = mb_i b := by simp [upd]
    have e2 : ot_O (upd ov (41 * (j + u) + j) (mb_i b)) (j + u) j = b := by
      unfold ot_O
      rw [e1, ot_mb]
    rw [e2, e1]
    exact ⟨rfl, hb.trans (ot_Rn (by omega) (by omega) (by omega) (by omega) (Nat.le_refl _)).symm⟩
  · have h1 := h i j hji hi (by omega)
    rw [ot_On (by omega) (by omega) he, ot_ne (by omega) (by omega) he]
    exact ⟨h1.1, h1.2.trans (ot_Rn (by omega) hji (by omega) (by omega) (by omega)).symm⟩
theorem ot_nx {N : Nat} {R K ov : Nat → Int32} {u v : Nat} (hv : N ≤ v + u) (h : ot_D N R K ov u v) : ot_D N R K ov (u + 1) 0 := fun i j hji hi hd => h i j hji hi (by omega)
theorem ot_fin {N : Nat} {R K ov : Nat → Int32} {u : Nat} (hu : N ≤ u) (h : ot_D N R K ov u 0) : ov_t N R K (ot_O ov) ∧ ∀ i j, j < i → i < N → ov (41 * i + j) = mb_i (ot_O ov i j) := ⟨fun i j hji hi => (h i j hji hi (by omega)).2, fun i j hji hi => (h i j hji hi (by omega)).1⟩
theorem ot_0 {N : Nat} {R K ov : Nat → Int32} : ot_D N R K ov 1 0 := fun i j hji hi hd => by omega
