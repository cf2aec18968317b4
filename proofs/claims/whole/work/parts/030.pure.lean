def mb_i (b : Bool) : Int32 := if b then 1 else 0
theorem mb_0 {b : Bool} : mb_i b = 0 ↔ b = false := by cases b <;> decide
theorem mb_z {b : Bool} (h : mb_i b = 0) : b = false := mb_0.mp h
theorem mb_n {b : Bool} (h : ¬ mb_i b = 0) : b = true := by
  cases b
  · exact absurd rfl h
  · rfl
theorem mb_inj {a b : Bool} : mb_i a = mb_i b ↔ a = b := by cases a <;> cases b <;> decide
def eo_i (r : Option Nat) : Int32 := match r with
  | none => -1
  | some p => nI p
def ix_o (v : Int32) (n : Nat) : Option Nat := if v < 0 then none else if v.toNatClampNeg < n then some v.toNatClampNeg else none
theorem nI_m1 {p : Nat} (h : p < 2 ^ 31) : ¬ nI p = -1 := fun q => by
  have h1 := congrArg Int32.toInt q
  rw [nI_toInt h] at h1
  have h2 : (-1 : Int32).toInt = -1 := by decide
  rw [h2] at h1
  omega
theorem ix_neg {v : Int32} {n : Nat} (h : v < 0) : ix_o v n = none := by
  unfold ix_o
  rw [if_pos h]
theorem ix_nI {i n : Nat} (h : i < n) (hn : n < 2 ^ 31) : ix_o (nI i) n = some i := by
  have h1 : ¬ nI i < 0 := nI_pos (by omega)
  have h2 : (nI i).toNatClampNeg = i := nI_clamp (by omega)
  unfold ix_o
  rw [if_neg h1, h2, if_pos h]
theorem ix_ge {v : Int32} {n : Nat} (hn : n < 2 ^ 31) (h : nI n ≤ v) : ix_o v n = none := by
  by_cases h0 : v < 0
  · exact ix_neg h0
  · obtain ⟨j, hj, rfl⟩ := nI_of h0
    have h1 : n ≤ j := (nI_leI hn hj).mp h
    unfold ix_o
    rw [if_neg h0, nI_clamp hj, if_neg (by omega)]
theorem ix_in {v : Int32} {n : Nat} (hn : n < 2 ^ 31) (h0 : ¬ v < 0) (h : ¬ nI n ≤ v) : ∃ i, i < n ∧ v = nI i ∧ ix_o v n = some i := by
  obtain ⟨j, hj, rfl⟩ := nI_of h0
  have h1 : ¬ n ≤ j := fun q => h ((nI_leI hn hj).mpr q)
  exact ⟨j, by omega, rfl, ix_nI (by omega) hn⟩
theorem ix_some {v : Int32} {n i : Nat} (hn : n < 2 ^ 31) (h : ix_o v n = some i) : i < n ∧ v = nI i := by
  by_cases h0 : v < 0
  · rw [ix_neg h0] at h; cases h
  · by_cases h1 : nI n ≤ v
    · rw [ix_ge hn h1] at h; cases h
    · obtain ⟨j, a, b, d⟩ := ix_in hn h0 h1
      rw [d] at h
      cases h
      exact ⟨a, b⟩
theorem ii_1 (k : Nat) : nI k + Int32.ofInt 1 = nI (k + 1) := nI_1 k
theorem i3_nle {a b : Int32} (h : a < b) : ¬ b ≤ a := by
  rw [Int32.lt_iff_toInt_lt] at h
  rw [Int32.le_iff_toInt_le]
  omega
theorem i3_le {a b : Int32} (h : ¬ a < b) : b ≤ a := by
  rw [Int32.lt_iff_toInt_lt] at h
  rw [Int32.le_iff_toInt_le]
  omega
theorem i3_lt {a b : Int32} (h : ¬ a ≤ b) : b < a := by
  rw [Int32.le_iff_toInt_le] at h
  rw [Int32.lt_iff_toInt_lt]
  omega
theorem i3_nlt {a b : Int32} (h : a ≤ b) : ¬ b < a := by
  rw [Int32.le_iff_toInt_le] at h
  rw [Int32.lt_iff_toInt_lt]
  omega
def fo_g (P : Nat → Bool) : Nat → Option Nat
  | 0 => none
  | n + 1 => if P n then some n else fo_g P n
theorem fo_s (P : Nat → Bool) (n : Nat) : fo_g P (n + 1) = if P n then some n else fo_g P n := rfl
theorem fo_z (P : Nat → Bool) : fo_g P 0 = none := rfl
theorem fo_some {P : Nat → Bool} {n i : Nat} (h : fo_g P n = some i) : i < n ∧ P i = true := by
  induction n with
  | zero => rw [fo_z] at h; cases h
  | succ n ih =>
    rw [fo_s] at h
    by_cases hp : P n = true
    · rw [if_pos hp] at h
      cases h
      exact ⟨Nat.lt_succ_self _, hp⟩
    · rw [if_neg hp] at h
      obtain ⟨a, b⟩ := ih h
      exact ⟨Nat.lt_succ_of_lt a, b⟩
theorem fo_none {P : Nat → Bool} {n : Nat} (h : fo_g P n = none) : ∀ i, i < n → P i = false := by
  induction n with
  | zero => intro i hi; exact absurd hi (Nat.not_lt_zero i)
  | succ n ih =>
    intro i hi
    rw [fo_s] at h
    by_cases hp : P n = true
    · rw [if_pos hp] at h; cases h
    · rw [if_neg hp] at h
      by_cases q : i = n
      · subst q; simpa using hp
      · exact ih h i (by omega)
theorem fo_no {P : Nat → Bool} {n : Nat} (h : ∀ i, i < n → P i = false) : fo_g P n = none := by
  cases e : fo_g P n with
  | none => rfl
  | some j =>
    obtain ⟨a, b⟩ := fo_some e
    rw [h j a] at b
    cases b
theorem fo_is {P : Nat → Bool} {n i : Nat} (hi : i < n) (hp : P i = true) (hu : ∀ j, j < n → P j = true → j = i) : fo_g P n = some i := by
  cases e : fo_g P n with
  | none =>
    have h := fo_none e i hi
    rw [hp] at h
    cases h
  | some j =>
    obtain ⟨a, b⟩ := fo_some e
    rw [hu j a b]
theorem fo_cg {P Q : Nat → Bool} {n : Nat} (h : ∀ i, i < n → P i = Q i) : fo_g P n = fo_g Q n := by
  induction n with
  | zero => rfl
  | succ n ih => rw [fo_s, fo_s, h n (Nat.lt_succ_self n), ih fun i hi => h i (Nat.lt_succ_of_lt hi)]
theorem fo_nx {P Q : Nat → Bool} {n : Nat} : (fo_g P n = none → fo_g (fun i => P i && Q i) n = none) ∧ ∀ j, fo_g P n = some j → fo_g (fun i => P i && Q i) n = if Q j then some j else fo_g (fun i => P i && Q i) j := by
  induction n with
  | zero => exact ⟨fun _ => rfl, fun j h => by rw [fo_z] at h; cases h⟩
  | succ n ih =>
    by_cases hp : P n = true
    · refine ⟨fun h => ?_, fun j h => ?_⟩
      · rw [fo_s, if_pos hp] at h; cases h
      · rw [fo_s, if_pos hp] at h
        cases h
        rw [fo_s, hp, Bool.true_and]
    · have hp' : P n = false := by simpa using hp
      have e : fo_g (fun i => P i && Q i) (n + 1) = fo_g (fun i => P i && Q i) n := by
        rw [fo_s, hp', Bool.false_and]
        rfl
      refine ⟨fun h => ?_, fun j h => ?_⟩
      · rw [fo_s, if_neg hp] at h
        rw [e]; exact ih.1 h
      · rw [fo_s, if_neg hp] at h
        rw [e]; exact ih.2 j h
abbrev sg_T : Type := Nat × (Nat → Option Nat) × (Nat → Int32) × Nat × (Nat → Nat) × (Nat → Int32) × (Nat → Int32) × (Nat → Int32) × (Nat → Bool) × (Nat → Bool) × (Nat → Int32)
def sg_nc (σ : sg_T) : Nat := σ.1
def sg_pr (σ : sg_T) : Nat → Option Nat := σ.2.1
def sg_pk (σ : sg_T) : Nat → Int32 := σ.2.2.1
def sg_nm (σ : sg_T) : Nat := σ.2.2.2.1
def sg_mc (σ : sg_T) : Nat → Nat := σ.2.2.2.2.1
def sg_kd (σ : sg_T) : Nat → Int32 := σ.2.2.2.2.2.1
def sg_mn (σ : sg_T) : Nat → Int32 := σ.2.2.2.2.2.2.1
def sg_ty (σ : sg_T) : Nat → Int32 := σ.2.2.2.2.2.2.2.1
def sg_fx (σ : sg_T) : Nat → Bool := σ.2.2.2.2.2.2.2.2.1
def sg_fn (σ : sg_T) : Nat → Bool := σ.2.2.2.2.2.2.2.2.2.1
def sg_rg (σ : sg_T) : Nat → Int32 := σ.2.2.2.2.2.2.2.2.2.2
def sg_W (σ : sg_T) : Prop :=
  sg_nc σ ≤ 40 ∧ sg_nm σ ≤ 200 ∧
  (∀ c p, c < sg_nc σ → sg_pr σ c = some p → p < c) ∧
  (∀ m, m < sg_nm σ → sg_mc σ m < sg_nc σ) ∧
  (∀ m, m < sg_nm σ → sg_rg σ m = 0 ∨ sg_rg σ m = 1 ∨ sg_rg σ m = 2 ∨ sg_rg σ m = 3) ∧
  (∀ m, m < sg_nm σ → (sg_kd σ m = 0 ∧ sg_ty σ m = 0) ∨ sg_kd σ m = 1 ∨ (sg_kd σ m = 2 ∧ sg_mn σ m = 0)) ∧
  ∀ i j, i < sg_nm σ → j < sg_nm σ → sg_mc σ i = sg_mc σ j → sg_kd σ i = sg_kd σ j → sg_mn σ i = sg_mn σ j → sg_ty σ i = sg_ty σ j → i = j
def sg_0 : sg_T := (0, fun _ => none, fun _ => 0, 0, fun _ => 0, fun _ => 0, fun _ => 0, fun _ => 0, fun _ => false, fun _ => false, fun _ => 0)
theorem sg_W0 : sg_W sg_0 := by
  refine ⟨Nat.zero_le _, Nat.zero_le _, fun c p h => ?_, fun m h => ?_, fun m h => ?_, fun m h => ?_, fun i j h => ?_⟩ <;> exact absurd h (Nat.not_lt_zero _)
def sg_nw (σ : sg_T) (r : Option Nat) (k : Int32) : sg_T := (sg_nc σ + 1, va_up (sg_pr σ) (sg_nc σ) r, va_up (sg_pk σ) (sg_nc σ) k, sg_nm σ, sg_mc σ, sg_kd σ, sg_mn σ, sg_ty σ, sg_fx σ, sg_fn σ, sg_rg σ)
def sg_ad (σ : sg_T) (c : Nat) (k n t : Int32) (st fn : Bool) (r : Int32) : sg_T := (sg_nc σ, sg_pr σ, sg_pk σ, sg_nm σ + 1, va_up (sg_mc σ) (sg_nm σ) c, va_up (sg_kd σ) (sg_nm σ) k, va_up (sg_mn σ) (sg_nm σ) n, va_up (sg_ty σ) (sg_nm σ) t, va_up (sg_fx σ) (sg_nm σ) st, va_up (sg_fn σ) (sg_nm σ) fn, va_up (sg_rg σ) (sg_nm σ) r)
def sg_ln (pr : Nat → Option Nat) (c : Nat) : List Nat :=
  c :: (match pr c with
    | none => []
    | some p => if h : p < c then sg_ln pr p else [])
termination_by c
def ln_o (pr : Nat → Option Nat) (r : Option Nat) : List Nat := match r with
  | none => []
  | some c => sg_ln pr c
theorem ln_e {pr : Nat → Option Nat} {c : Nat} (h : ∀ p, pr c = some p → p < c) : sg_ln pr c = c :: ln_o pr (pr c) := by
  rw [sg_ln]
  cases hp : pr c with
  | none => rfl
  | some p => simp [ln_o, h p hp]
theorem ln_self {pr : Nat → Option Nat} {c : Nat} : c ∈ sg_ln pr c := by
  rw [sg_ln]
  exact List.mem_cons_self
theorem ln_le {pr : Nat → Option Nat} (c : Nat) : ∀ d, d ∈ sg_ln pr c → d ≤ c := by
  induction c using Nat.strongRecOn with
  | ind c ih =>
    intro d hd
    rw [sg_ln] at hd
    rcases List.mem_cons.mp hd with rfl | hd
    · exact Nat.le_refl _
    · cases hp : pr c with
      | none => rw [hp] at hd; cases hd
      | some p =>
        rw [hp] at hd
        dsimp only at hd
        by_cases hl : p < c
        · rw [dif_pos hl] at hd
          exact Nat.le_of_lt (Nat.lt_of_le_of_lt (ih p hl d hd) hl)
        · rw [dif_neg hl] at hd
          cases hd
def sg_ob (σ : sg_T) (m : Nat) : Bool := decide (sg_kd σ m = 1) && !sg_fx σ m
def sg_mk (σ : sg_T) (k n t : Int32) (m : Nat) : Bool := decide (sg_kd σ m = k) && (decide (sg_mn σ m = n) && decide (sg_ty σ m = t))
def sg_ow (σ : sg_T) (c : Nat) (k n t : Int32) : Option Nat := fo_g (fun m => decide (sg_mc σ m = c) && sg_mk σ k n t m) (sg_nm σ)
def sg_oo (σ : sg_T) (c : Nat) (n t : Int32) : Option Nat := match sg_ow σ c 1 n t with
  | none => none
  | some m => if sg_fx σ m then none else some m
theorem ow_some {σ : sg_T} {c : Nat} {k n t : Int32} {m : Nat} (h : sg_ow σ c k n t = some m) : m < sg_nm σ ∧ sg_mc σ m = c ∧ sg_kd σ m = k ∧ sg_mn σ m = n ∧ sg_ty σ m = t := by
  obtain ⟨a, b⟩ := fo_some h
  simp [sg_mk] at b
  exact ⟨a, b.1, b.2.1, b.2.2.1, b.2.2.2⟩
theorem ow_is {σ : sg_T} (hW : sg_W σ) {c : Nat} {k n t : Int32} {m : Nat} (h1 : m < sg_nm σ) (h2 : sg_mc σ m = c) (h3 : sg_kd σ m = k) (h4 : sg_mn σ m = n) (h5 : sg_ty σ m = t) : sg_ow σ c k n t = some m := by
  refine fo_is h1 (by simp [sg_mk, h2, h3, h4, h5]) fun j hj hp => ?_
  simp [sg_mk] at hp
  exact hW.2.2.2.2.2.2 j m hj h1 (by rw [hp.1, h2]) (by rw [hp.2.1, h3]) (by rw [hp.2.2.1, h4]) (by rw [hp.2.2.2, h5])
theorem ow_none {σ : sg_T} {c : Nat} {k n t : Int32} (h : ∀ m, m < sg_nm σ → ¬ (sg_mc σ m = c ∧ sg_kd σ m = k ∧ sg_mn σ m = n ∧ sg_ty σ m = t)) : sg_ow σ c k n t = none := by
  refine fo_no fun m hm => ?_
  have h1 := h m hm
  cases hq : (decide (sg_mc σ m = c) && sg_mk σ k n t m) with
  | false => rfl
  | true =>
    simp [sg_mk] at hq
    exact absurd ⟨hq.1, hq.2.1, hq.2.2.1, hq.2.2.2⟩ h1
theorem oo_some {σ : sg_T} {c : Nat} {n t : Int32} {m : Nat} (h : sg_oo σ c n t = some m) : m < sg_nm σ ∧ sg_mc σ m = c ∧ sg_kd σ m = 1 ∧ sg_fx σ m = false ∧ sg_mn σ m = n ∧ sg_ty σ m = t := by
  unfold sg_oo at h
  cases e : sg_ow σ c 1 n t with
  | none => rw [e] at h; cases h
  | some j =>
    rw [e] at h
    dsimp only at h
    obtain ⟨a1, a2, a3, a4, a5⟩ := ow_some e
    by_cases hf : sg_fx σ j = true
    · rw [if_pos hf] at h; cases h
    · rw [if_neg hf] at h
      cases h
      exact ⟨a1, a2, a3, by simpa using hf, a4, a5⟩
theorem oo_is {σ : sg_T} (hW : sg_W σ) {m : Nat} (h1 : m < sg_nm σ) (h3 : sg_ob σ m = true) : sg_oo σ (sg_mc σ m) (sg_mn σ m) (sg_ty σ m) = some m := by
  simp [sg_ob] at h3
  unfold sg_oo
  rw [ow_is hW h1 rfl h3.1 rfl rfl]
  dsimp only
  rw [h3.2]
  rfl
def sg_rc (σ : sg_T) (a m : Nat) : Bool :=
  if sg_rg σ m = 0 then decide (a = sg_mc σ m)
  else if sg_rg σ m = 1 then decide (sg_pk σ a = sg_pk σ (sg_mc σ m))
  else if sg_rg σ m = 2 then decide (sg_pk σ a = sg_pk σ (sg_mc σ m)) || decide (sg_mc σ m ∈ sg_ln (sg_pr σ) a)
  else true
def ov_y (σ : sg_T) (L : List Int32) (y : Nat) : Bool := if sg_rg σ y = 1 then L.contains (sg_pk σ (sg_mc σ y)) else decide (¬ sg_rg σ y = 0)
def ov_c (σ : sg_T) (n t : Int32) (L : List Int32) (c : Nat) : Bool := match sg_oo σ c n t with
  | none => false
  | some y => ov_y σ L y
def ov_l (σ : sg_T) (n t : Int32) (g : Nat) : List Int32 → List Nat → Bool
  | _, [] => false
  | L, c :: cs => if c = g then ov_c σ n t L c else ov_l σ n t g (if ov_c σ n t L c then L ++ [sg_pk σ c] else L) cs
def ov_r (σ : sg_T) (c : Nat) (n t r : Int32) (j : Nat) : Bool := decide (¬ r = 0) && (decide (¬ sg_rg σ j = 0) && ov_l σ n t (sg_mc σ j) [sg_pk σ c] (ln_o (sg_pr σ) (sg_pr σ c)))
def cl_l (σ : sg_T) (j : Nat) : List Nat → Nat
  | [] => j
  | c :: cs => if c = sg_mc σ j then j else match sg_oo σ c (sg_mn σ j) (sg_ty σ j) with
    | none => cl_l σ j cs
    | some x => if ov_r σ c (sg_mn σ j) (sg_ty σ j) (sg_rg σ x) j then x else cl_l σ j cs
def sg_cl (σ : sg_T) (j c : Nat) : Nat := if sg_rg σ j = 0 then j else cl_l σ j (sg_ln (sg_pr σ) c)
def fi_c (σ : sg_T) (n t w : Int32) (c : Nat) : Option Nat := if 4 ≤ w then sg_ow σ c 0 n 0 else match sg_ow σ c 1 n t with
  | none => none
  | some m => if sg_fx σ m = decide (w = 0) then some m else none
def fi_l (σ : sg_T) (n t w : Int32) : List Nat → Option Nat
  | [] => none
  | c :: cs => match fi_c σ n t w c with
    | some m => some m
    | none => fi_l σ n t w cs
def sg_fi (σ : sg_T) (j : Nat) (n t w : Int32) : Option Nat := if w = 3 then sg_ow σ j 2 0 t else fi_l σ n t w (sg_ln (sg_pr σ) j)
def fb_c (σ : sg_T) (h : Nat) (n t : Int32) (st : Bool) (r : Int32) (c : Nat) : Bool := match sg_oo σ c n t with
  | none => false
  | some m => decide (¬ sg_rg σ m = 0) && (if st then sg_rc σ h m else (sg_fn σ m || decide (r < sg_rg σ m)) && ov_r σ h n t r m)
def fb_l (σ : sg_T) (h : Nat) (n t : Int32) (st : Bool) (r : Int32) : List Nat → Bool
  | [] => false
  | c :: cs => fb_c σ h n t st r c || fb_l σ h n t st r cs
def sg_fb (σ : sg_T) (h : Nat) (n t : Int32) (st : Bool) (r : Int32) : Bool := fb_l σ h n t st r (ln_o (sg_pr σ) (sg_pr σ h))
def sg_nr (σ : sg_T) (c : Nat) (k n t : Int32) (st : Bool) (r : Int32) : Int32 :=
  if n < 0 ∨ 99 < n ∨ r < 0 ∨ 3 < r then 2
  else if (sg_ow σ c k n t).isSome = true then 4
  else if k = 1 ∧ sg_fb σ c n t st r = true then 8
  else if 200 ≤ sg_nm σ then 5 else 0
def sg_hd (σ : sg_T) (m j : Nat) : Bool := if sg_kd σ m = 0 then decide (¬ sg_fi σ j (sg_mn σ m) 0 4 = some m) else sg_ob σ m && decide (¬ sg_cl σ m j = m)
def sg_cn (P : Nat → Bool) : Nat → Nat
  | 0 => 0
  | n + 1 => sg_cn P n + (if P n then 1 else 0)
def sp_nc (σ : sg_T) (v k : Int32) : Int32 × sg_T := if 40 ≤ sg_nc σ then (-1, σ) else if v = -1 then (nI (sg_nc σ), sg_nw σ none k) else match ix_o v (sg_nc σ) with
  | none => (-1, σ)
  | some i => (nI (sg_nc σ), sg_nw σ (some i) k)
def sp_be (σ : sg_T) (a b : Int32) : Bool := match ix_o a (sg_nc σ), ix_o b (sg_nc σ) with
  | some i, some j => decide (j ∈ sg_ln (sg_pr σ) i)
  | _, _ => false
def sp_ad (σ : sg_T) (o k n t : Int32) (st fn : Bool) (r : Int32) : Int32 × Int32 × sg_T := match ix_o o (sg_nc σ) with
  | none => (-1, 1, σ)
  | some c => if sg_nr σ c k n t st r = 0 then (nI (sg_nm σ), 0, sg_ad σ c k n t st fn r) else (-1, sg_nr σ c k n t st r, σ)
def sp_fi (σ : sg_T) (a o n t w : Int32) : Int32 × Int32 := match ix_o a (sg_nc σ), ix_o o (sg_nc σ) with
  | some i, some j =>
    if w < 0 ∨ 5 < w then (-1, 1)
    else if ¬ w = 3 ∧ (n < 0 ∨ 99 < n) then (-1, 2)
    else match sg_fi σ j n t w with
      | none => (-1, 6)
      | some f =>
        if sg_rc σ i f = false ∨ (w = 2 ∧ ¬ j ∈ sg_ln (sg_pr σ) i) then (-1, 7)
        else if w = 5 ∧ sg_fn σ f = true ∧ ¬ i = sg_mc σ f then (-1, 3)
        else (nI f, 0)
  | _, _ => (-1, 1)
def sp_re (σ : sg_T) (a m : Int32) : Bool := match ix_o a (sg_nc σ), ix_o m (sg_nm σ) with
  | some i, some j => sg_rc σ i j
  | _, _ => false
def sp_ca (σ : sg_T) (m o : Int32) : Int32 := match ix_o m (sg_nm σ), ix_o o (sg_nc σ) with
  | some j, some c => if sg_ob σ j = true ∧ sg_mc σ j ∈ sg_ln (sg_pr σ) c then nI (sg_cl σ j c) else -1
  | _, _ => -1
def sp_ov (σ : sg_T) (x m : Int32) : Bool := match ix_o x (sg_nm σ), ix_o m (sg_nm σ) with
  | some i, some j => sg_ob σ i && (sg_ob σ j && (decide (sg_mn σ i = sg_mn σ j) && (decide (sg_ty σ i = sg_ty σ j) && ov_r σ (sg_mc σ i) (sg_mn σ i) (sg_ty σ i) (sg_rg σ i) j)))
  | _, _ => false
def sp_me (σ : sg_T) (m w : Int32) : Int32 := match ix_o m (sg_nm σ) with
  | none => -1
  | some j => if w = 0 then nI (sg_mc σ j) else if w = 1 then sg_mn σ j else if w = 2 then sg_rg σ j else if w = 3 then mb_i (sg_fx σ j) else if w = 4 then mb_i (sg_fn σ j) else if w = 5 then sg_kd σ j else if w = 6 then sg_ty σ j else -1
def sp_se (σ : sg_T) (a o : Int32) : Int32 := match ix_o a (sg_nc σ), ix_o o (sg_nc σ) with
  | some i, some j => nI (sg_cn (fun m => decide (sg_mc σ m ∈ sg_ln (sg_pr σ) j) && (sg_rc σ i m && !sg_hd σ m j)) (sg_nm σ))
  | _, _ => -1
