theorem oo_no {σ : sg_T} {c : Nat} {n t : Int32} (h : ∀ m, m < sg_nm σ → ¬ (sg_mc σ m = c ∧ sg_ob σ m = true ∧ sg_mn σ m = n ∧ sg_ty σ m = t)) : sg_oo σ c n t = none := by
  unfold sg_oo
  cases e : sg_ow σ c 1 n t with
  | none => rfl
  | some j =>
    obtain ⟨a1, a2, a3, a4, a5⟩ := ow_some e
    show (if sg_fx σ j = true then none else some j) = none
    by_cases hf : sg_fx σ j = true
    · rw [if_pos hf]
    · exact absurd ⟨a2, by simp [sg_ob, a3, hf], a4, a5⟩ (h j a1)
theorem oo_at {σ : sg_T} (hW : sg_W σ) {c m : Nat} {n t : Int32} (h1 : m < sg_nm σ) (h2 : sg_mc σ m = c) (h3 : sg_ob σ m = true) (h4 : sg_mn σ m = n) (h5 : sg_ty σ m = t) : sg_oo σ c n t = some m := by
  subst h2; subst h4; subst h5
  exact oo_is hW h1 h3
theorem oo_ob {σ : sg_T} {c m : Nat} {n t : Int32} (h : sg_oo σ c n t = some m) : sg_ob σ m = true := by
  obtain ⟨-, -, a, b, -⟩ := oo_some h
  simp [sg_ob, a, b]
def sr_g (g : Nat → Nat) (O : Nat → Bool) (j : Nat) : Nat → Nat
  | 0 => g j
  | k + 1 => if k ≤ j then g j else if O k then g k else sr_g g O j k
theorem sr_s (g : Nat → Nat) (O : Nat → Bool) (j k : Nat) : sr_g g O j (k + 1) = if k ≤ j then g j else if O k then g k else sr_g g O j k := rfl
theorem sr_le {g : Nat → Nat} {O : Nat → Bool} {j k : Nat} (h : k ≤ j + 1) : sr_g g O j k = g j := by
  cases k with
  | zero => rfl
  | succ k => rw [sr_s, if_pos (by omega)]
theorem sr_no {g : Nat → Nat} {O : Nat → Bool} {j k : Nat} (h : ∀ i, j < i → i < k → O i = false) : sr_g g O j k = g j := by
  induction k with
  | zero => rfl
  | succ k ih =>
    rw [sr_s]
    by_cases hk : k ≤ j
    · rw [if_pos hk]
    · rw [if_neg hk, h k (by omega) (by omega)]
      exact ih fun i h1 h2 => h i h1 (by omega)
theorem sr_ex {g : Nat → Nat} {O : Nat → Bool} {j k : Nat} (hg : ∀ a b, a < k → b < k → g a = g b → a = b) {i : Nat} (h1 : j < i) (h2 : i < k) (h3 : O i = true) : ¬ sr_g g O j k = g j := by
  induction k with
  | zero => omega
  | succ k ih =>
    rw [sr_s, if_neg (by omega)]
    by_cases hk : O k = true
    · rw [if_pos hk]
      exact fun q => absurd (hg k j (by omega) (by omega) q) (by omega)
    · rw [if_neg hk]
      have hik : ¬ i = k := fun q => by rw [q] at h3; exact hk h3
      exact ih (fun a b ha hb => hg a b (by omega) (by omega)) (by omega)
theorem cl_dn {σ : sg_T} {n t : Int32} {g : Nat → Nat} {O : Nat → Bool} {j : Nat} (hn : sg_mn σ (g j) = n) (ht : sg_ty σ (g j) = t) : ∀ (cs : List Nat) (N : Nat), cs.filterMap (fun c => sg_oo σ c n t) = dn_l g N → j < N → (∀ a b, a < N → b < N → g a = g b → a = b) → sg_oo σ (sg_mc σ (g j)) n t = some (g j) →
    (∀ i, j < i → i < N → O i = ov_r σ (sg_mc σ (g i)) n t (sg_rg σ (g i)) (g j)) → cl_l σ (g j) cs = sr_g g O j N := by
  intro cs
  induction cs with
  | nil =>
    intro N hf hj
    have := dn_nil hf
    omega
  | cons c cs ih =>
    intro N hf hj hg ho hO
    unfold cl_l
    rw [hn, ht]
    cases e : sg_oo σ c n t with
    | none =>
      have hne : ¬ c = sg_mc σ (g j) := fun q => by rw [q, ho] at e; cases e
      rw [if_neg hne]
      rw [fm_n e] at hf
      exact ih N hf hj hg ho hO
    | some y =>
      rw [fm_s e] at hf
      obtain ⟨N', rfl, rfl, hf'⟩ := dn_cons hf
      have hcy : sg_mc σ (g N') = c := (oo_some e).2.1
      rw [sr_s]
      by_cases hc : c = sg_mc σ (g j)
      · rw [if_pos hc]
        have h2 : sg_oo σ c n t = some (g j) := by rw [hc]; exact ho
        rw [e] at h2
        have hNj := hg N' j (by omega) hj (Option.some.inj h2)
        rw [if_pos (by omega)]
      · have hjN : j < N' := by
          by_cases q : j = N'
          · rw [q] at hc; exact absurd hcy.symm hc
          · omega
        rw [if_neg hc, if_neg (by omega)]
        show (if ov_r σ c n t (sg_rg σ (g N')) (g j) = true then g N' else cl_l σ (g j) cs) = _
        rw [hO N' hjN (by omega), hcy]
        rw [ih N' hf' hjN (fun a b ha hb => hg a b (by omega) (by omega)) ho (fun i h1 h2 => hO i h1 (by omega))]
theorem fb_any {σ : sg_T} {h : Nat} {n t : Int32} {st : Bool} {r : Int32} : ∀ cs : List Nat, fb_l σ h n t st r cs = (cs.filterMap (fun c => sg_oo σ c n t)).any (fun m => decide (¬ sg_rg σ m = 0) && (if st then sg_rc σ h m else (sg_fn σ m || decide (r < sg_rg σ m)) && ov_r σ h n t r m)) := by
  intro cs
  induction cs with
  | nil => rfl
  | cons c cs ih =>
    unfold fb_l fb_c
    cases e : sg_oo σ c n t with
    | none => rw [fm_n e, ih]; simp
    | some y => rw [fm_s e, ih]; simp
theorem dn_mem {g : Nat → Nat} {N : Nat} {y : Nat} : y ∈ dn_l g N ↔ ∃ j, j < N ∧ y = g j := by
  induction N with
  | zero => simp [dn_l]
  | succ N ih =>
    rw [dn_s, List.mem_cons, ih]
    constructor
    · intro q
      rcases q with q | ⟨j, h1, h2⟩
      · exact ⟨N, by omega, q⟩
      · exact ⟨j, by omega, h2⟩
    · intro ⟨j, h1, h2⟩
      by_cases hj : j = N
      · exact Or.inl (by rw [h2, hj])
      · exact Or.inr ⟨j, by omega, h2⟩
theorem cn_s (P : Nat → Bool) (n : Nat) : sg_cn P (n + 1) = sg_cn P n + (if P n then 1 else 0) := rfl
theorem cn_cg {P Q : Nat → Bool} {n : Nat} (h : ∀ i, i < n → P i = Q i) : sg_cn P n = sg_cn Q n := by
  induction n with
  | zero => rfl
  | succ n ih => rw [cn_s, cn_s, h n (Nat.lt_succ_self n), ih fun i hi => h i (Nat.lt_succ_of_lt hi)]
theorem cn_le (P : Nat → Bool) (n : Nat) : sg_cn P n ≤ n := by
  induction n with
  | zero => exact Nat.le_refl _
  | succ n ih =>
    rw [cn_s]
    split <;> omega
theorem cn_no {P : Nat → Bool} {n : Nat} (h : ∀ i, i < n → P i = false) : sg_cn P n = 0 := by
  induction n with
  | zero => rfl
  | succ n ih => rw [cn_s, h n (Nat.lt_succ_self n), ih fun i hi => h i (Nat.lt_succ_of_lt hi)]; rfl
theorem cn_nx {P Q : Nat → Bool} {n : Nat} : (fo_g P n = none → sg_cn (fun i => P i && Q i) n = 0) ∧ ∀ j, fo_g P n = some j → sg_cn (fun i => P i && Q i) n = sg_cn (fun i => P i && Q i) j + (if Q j then 1 else 0) := by
  induction n with
  | zero => exact ⟨fun _ => rfl, fun j h => by rw [fo_z] at h; cases h⟩
  | succ n ih =>
    by_cases hp : P n = true
    · refine ⟨fun h => ?_, fun j h => ?_⟩
      · rw [fo_s, if_pos hp] at h; cases h
      · rw [fo_s, if_pos hp] at h
        cases h
        rw [cn_s, hp, Bool.true_and]
    · have hp' : P n = false := by simpa using hp
      have e : sg_cn (fun i => P i && Q i) (n + 1) = sg_cn (fun i => P i && Q i) n := by
        rw [cn_s, hp', Bool.false_and]
        rfl
      refine ⟨fun h => ?_, fun j h => ?_⟩
      · rw [fo_s, if_neg hp] at h
        rw [e]; exact ih.1 h
      · rw [fo_s, if_neg hp] at h
        rw [e]; exact ih.2 j h
theorem cn_ln {f : Nat → Nat} {Q : Nat → Bool} {c : Nat} {cs : List Nat} (hc : ¬ c ∈ cs) (n : Nat) : sg_cn (fun m => decide (f m ∈ c :: cs) && Q m) n = sg_cn (fun m => decide (f m = c) && Q m) n + sg_cn (fun m => decide (f m ∈ cs) && Q m) n := by
  induction n with
  | zero => rfl
  | succ n ih =>
    rw [cn_s, cn_s, cn_s, ih]
    by_cases h1 : f n = c
    · have h2 : ¬ f n ∈ cs := by rw [h1]; exact hc
      cases hq : Q n <;> simp [h1, hc] <;> omega
    · cases hq : Q n
      · simp
      · by_cases h3 : f n ∈ cs
        · simp [h1, h3]; omega
        · simp [h1, h3]
theorem ln_lt {pr : Nat → Option Nat} {c : Nat} {o : Option Nat} (h : ∀ p, o = some p → p < c) : ¬ c ∈ ln_o pr o := fun q => by
  cases o with
  | none => cases q
  | some p => exact absurd (ln_le p c q) (by have := h p rfl; omega)
theorem lc_f {lp : Nat → Int32} {k : Nat} {v : Int32} (h : ∀ i, i < k → ¬ lp i = v) : ((List.range k).map lp).contains v = false := by
  cases e : ((List.range k).map lp).contains v with
  | false => rfl
  | true =>
    obtain ⟨i, h1, h2⟩ := List.mem_map.mp (li_ct.mp e)
    exact absurd h2 (h i (List.mem_range.mp h1))
theorem lc_t {lp : Nat → Int32} {k i : Nat} {v : Int32} (hi : i < k) (h : lp i = v) : ((List.range k).map lp).contains v = true := li_ct.mpr (List.mem_map.mpr ⟨i, List.mem_range.mpr hi, h⟩)
theorem lc_s {lp : Nat → Int32} {k : Nat} {v : Int32} : (List.range (k + 1)).map (upd lp k v) = (List.range k).map lp ++ [v] := by
  rw [List.range_succ, List.map_append]
  congr 1
  · refine List.map_congr_left fun i hi => ?_
    have h1 := List.mem_range.mp hi
    rw [upd, if_neg (by omega)]
  · simp [upd]
theorem nr_0 {σ : sg_T} {c : Nat} {k n t : Int32} {st : Bool} {r : Int32} (h : sg_nr σ c k n t st r = 0) : ¬ (n < 0 ∨ 99 < n ∨ r < 0 ∨ 3 < r) ∧ sg_ow σ c k n t = none ∧ ¬ 200 ≤ sg_nm σ := by
  unfold sg_nr at h
  by_cases h1 : n < 0 ∨ 99 < n ∨ r < 0 ∨ 3 < r
  · rw [if_pos h1] at h
    exact absurd h (by decide)
  · rw [if_neg h1] at h
    cases h2 : sg_ow σ c k n t with
    | some j =>
      rw [h2, if_pos (show (some j).isSome = true from rfl)] at h
      exact absurd h (by decide)
    | none =>
      rw [h2, if_neg (show ¬ (none : Option Nat).isSome = true by decide)] at h
      refine ⟨h1, rfl, fun h4 => ?_⟩
      by_cases h3 : k = 1 ∧ sg_fb σ c n t st r = true
      · rw [if_pos h3] at h
        exact absurd h (by decide)
      · rw [if_neg h3, if_pos h4] at h
        exact absurd h (by decide)
theorem rg_4 {r : Int32} (h1 : ¬ r < 0) (h2 : ¬ 3 < r) : r = 0 ∨ r = 1 ∨ r = 2 ∨ r = 3 := by
  obtain ⟨j, hj, rfl⟩ := nI_of h1
  have h3 : ¬ 3 < j := fun q => h2 ((nI_ltI (a := 3) (b := j) (by omega) hj).mpr q)
  have h4 : j = 0 ∨ j = 1 ∨ j = 2 ∨ j = 3 := by omega
  rcases h4 with rfl | rfl | rfl | rfl
  · exact Or.inl rfl
  · exact Or.inr (Or.inl rfl)
  · exact Or.inr (Or.inr (Or.inl rfl))
  · exact Or.inr (Or.inr (Or.inr rfl))
theorem up_lt {α : Type} {f : Nat → α} {n i : Nat} {v : α} (h : i < n) : va_up f n v i = f i := va_up_ne f v (by omega)
theorem sg_Wad {σ : sg_T} (hW : sg_W σ) {c : Nat} (hc : c < sg_nc σ) {k n t : Int32} {st fn : Bool} {r : Int32} (h : sg_nr σ c k n t st r = 0) (hk : (k = 0 ∧ t = 0) ∨ k = 1 ∨ (k = 2 ∧ n = 0)) : sg_W (sg_ad σ c k n t st fn r) := by
  obtain ⟨h1, h2, h3⟩ := nr_0 h
  have hrg := rg_4 (r := r) (fun q => h1 (Or.inr (Or.inr (Or.inl q)))) (fun q => h1 (Or.inr (Or.inr (Or.inr q))))
  have hno := fo_none h2
  have key : ∀ j, j < sg_nm σ → ¬ (sg_mc σ j = c ∧ sg_kd σ j = k ∧ sg_mn σ j = n ∧ sg_ty σ j = t) := fun j hj q => by
    have := hno j hj
    simp [sg_mk, q.1, q.2.1, q.2.2.1, q.2.2.2] at this
  refine ⟨hW.1, ?_, hW.2.2.1, fun m hm => ?_, fun m hm => ?_, fun m hm => ?_, fun i j hi hj => ?_⟩
  · show sg_nm σ + 1 ≤ 200
    omega
  · show va_up (sg_mc σ) (sg_nm σ) c m < sg_nc σ
    have hm : m < sg_nm σ + 1 := hm
    by_cases q : m = sg_nm σ
    · rw [q, va_up_self]; exact hc
    · rw [up_lt (by omega)]; exact hW.2.2.2.1 m (by omega)
  · show va_up (sg_rg σ) (sg_nm σ) r m = 0 ∨ va_up (sg_rg σ) (sg_nm σ) r m = 1 ∨ va_up (sg_rg σ) (sg_nm σ) r m = 2 ∨ va_up (sg_rg σ) (sg_nm σ) r m = 3
    have hm : m < sg_nm σ + 1 := hm
    by_cases q : m = sg_nm σ
    · rw [q, va_up_self]; exact hrg
    · rw [up_lt (by omega)]; exact hW.2.2.2.2.1 m (by omega)
  · show (va_up (sg_kd σ) (sg_nm σ) k m = 0 ∧ va_up (sg_ty σ) (sg_nm σ) t m = 0) ∨ va_up (sg_kd σ) (sg_nm σ) k m = 1 ∨ (va_up (sg_kd σ) (sg_nm σ) k m = 2 ∧ va_up (sg_mn σ) (sg_nm σ) n m = 0)
    have hm : m < sg_nm σ + 1 := hm
    by_cases q : m = sg_nm σ
    · rw [q, va_up_self, va_up_self, va_up_self]; exact hk
    · rw [up_lt (by omega), up_lt (by omega), up_lt (by omega)]; exact hW.2.2.2.2.2.1 m (by omega)
  · show va_up (sg_mc σ) (sg_nm σ) c i = va_up (sg_mc σ) (sg_nm σ) c j → va_up (sg_kd σ) (sg_nm σ) k i = va_up (sg_kd σ) (sg_nm σ) k j → va_up (sg_mn σ) (sg_nm σ) n i = va_up (sg_mn σ) (sg_nm σ) n j → va_up (sg_ty σ) (sg_nm σ) t i = va_up (sg_ty σ) (sg_nm σ) t j → i = j
    have hi : i < sg_nm σ + 1 := hi
    have hj : j < sg_nm σ + 1 := hj
    by_cases qi : i = sg_nm σ <;> by_cases qj : j = sg_nm σ
    · intros; omega
    · rw [qi, va_up_self, va_up_self, va_up_self, va_up_self, up_lt (show j < sg_nm σ by omega), up_lt (show j < sg_nm σ by omega), up_lt (show j < sg_nm σ by omega), up_lt (show j < sg_nm σ by omega)]
      exact fun a b d e => absurd ⟨a.symm, b.symm, d.symm, e.symm⟩ (key j (by omega))
    · rw [qj, va_up_self, va_up_self, va_up_self, va_up_self, up_lt (show i < sg_nm σ by omega), up_lt (show i < sg_nm σ by omega), up_lt (show i < sg_nm σ by omega), up_lt (show i < sg_nm σ by omega)]
      exact fun a b d e => absurd ⟨a, b, d, e⟩ (key i (by omega))
    · rw [up_lt (show i < sg_nm σ by omega), up_lt (show i < sg_nm σ by omega), up_lt (show i < sg_nm σ by omega), up_lt (show i < sg_nm σ by omega), up_lt (show j < sg_nm σ by omega), up_lt (show j < sg_nm σ by omega), up_lt (show j < sg_nm σ by omega), up_lt (show j < sg_nm σ by omega)]
      exact hW.2.2.2.2.2.2 i j (by omega) (by omega)
theorem sg_Wnw {σ : sg_T} (hW : sg_W σ) (h40 : sg_nc σ < 40) {o : Option Nat} (ho : ∀ p, o = some p → p < sg_nc σ) (k : Int32) : sg_W (sg_nw σ o k) := by
  refine ⟨?_, hW.2.1, fun c p hc => ?_, fun m hm => Nat.lt_succ_of_lt (hW.2.2.2.1 m hm), hW.2.2.2.2.1, hW.2.2.2.2.2.1, hW.2.2.2.2.2.2⟩
  · show sg_nc σ + 1 ≤ 40
    omega
  · show va_up (sg_pr σ) (sg_nc σ) o c = some p → p < c
    have hc : c < sg_nc σ + 1 := hc
    by_cases q : c = sg_nc σ
    · rw [q, va_up_self]; exact ho p
    · rw [up_lt (by omega)]; exact hW.2.2.1 c p (by omega)
theorem fi_lt {σ : sg_T} {n t w : Int32} : ∀ (cs : List Nat) (m : Nat), fi_l σ n t w cs = some m → m < sg_nm σ := by
  intro cs
  induction cs with
  | nil => intro m h; cases h
  | cons c cs ih =>
    intro m h
    unfold fi_l at h
    cases e : fi_c σ n t w c with
    | none => rw [e] at h; exact ih m h
    | some f =>
      rw [e] at h
      cases h
      unfold fi_c at e
      by_cases h4 : 4 ≤ w
      · rw [if_pos h4] at e; exact (ow_some e).1
      · rw [if_neg h4] at e
        cases e2 : sg_ow σ c 1 n t with
        | none => rw [e2] at e; cases e
        | some q =>
          rw [e2] at e
          dsimp only at e
          by_cases h5 : sg_fx σ q = decide (w = 0)
          · rw [if_pos h5] at e
            cases e
            exact (ow_some e2).1
          · rw [if_neg h5] at e; cases e
theorem fi_lt2 {σ : sg_T} {j m : Nat} {n t w : Int32} (h : sg_fi σ j n t w = some m) : m < sg_nm σ := by
  unfold sg_fi at h
  by_cases h3 : w = 3
  · rw [if_pos h3] at h; exact (ow_some h).1
  · rw [if_neg h3] at h; exact fi_lt _ m h
theorem cl_lt {σ : sg_T} {j : Nat} (hj : j < sg_nm σ) : ∀ cs : List Nat, cl_l σ j cs < sg_nm σ := by
  intro cs
  induction cs with
  | nil => exact hj
  | cons c cs ih =>
    unfold cl_l
    by_cases h : c = sg_mc σ j
    · rw [if_pos h]; exact hj
    · rw [if_neg h]
      cases e : sg_oo σ c (sg_mn σ j) (sg_ty σ j) with
      | none => exact ih
      | some x =>
        dsimp only
        by_cases h2 : ov_r σ c (sg_mn σ j) (sg_ty σ j) (sg_rg σ x) j = true
        · rw [if_pos h2]; exact (oo_some e).1
        · rw [if_neg h2]; exact ih
theorem cl_lt2 {σ : sg_T} {j c : Nat} (hj : j < sg_nm σ) : sg_cl σ j c < sg_nm σ := by
  unfold sg_cl
  by_cases h : sg_rg σ j = 0
  · rw [if_pos h]; exact hj
  · rw [if_neg h]; exact cl_lt hj _
