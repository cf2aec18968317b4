section CH
variable {σ : sg_T} {n t : Int32} {g : Nat → Nat} {o : Option Nat} {N : Nat}
theorem dn_lt (hW : sg_W σ) (hd : ∀ d, o = some d → d < sg_nc σ) (hf : (ln_o (sg_pr σ) o).filterMap (fun c => sg_oo σ c n t) = dn_l g N) {i : Nat} (hi : i < N) : sg_oo σ (sg_mc σ (g i)) n t = some (g i) ∧ (∀ d, o = some d → sg_mc σ (g i) ≤ d) ∧ (ln_o (sg_pr σ) (sg_pr σ (sg_mc σ (g i)))).filterMap (fun c => sg_oo σ c n t) = dn_l g i :=
  dn_ln hW (sg_nc σ) o N (fun d hq => ⟨hd d hq, hd d hq⟩) hf i hi
theorem dn_dec (hW : sg_W σ) (hd : ∀ d, o = some d → d < sg_nc σ) (hf : (ln_o (sg_pr σ) o).filterMap (fun c => sg_oo σ c n t) = dn_l g N) {a b : Nat} (hab : a < b) (hb : b < N) : sg_mc σ (g a) < sg_mc σ (g b) := by
  obtain ⟨h1, -, h3⟩ := dn_lt hW hd hf hb
  have hgb := oo_some h1
  have hcb : sg_mc σ (g b) < sg_nc σ := hW.2.2.2.1 _ hgb.1
  have hd2 : ∀ d, sg_pr σ (sg_mc σ (g b)) = some d → d < sg_nc σ := fun d hq => Nat.lt_trans (hW.2.2.1 _ _ hcb hq) hcb
  obtain ⟨-, h5, -⟩ := dn_lt hW hd2 h3 hab
  cases hp : sg_pr σ (sg_mc σ (g b)) with
  | none =>
    rw [hp] at h3
    have := dn_nil h3
    omega
  | some d => exact Nat.lt_of_le_of_lt (h5 d hp) (hW.2.2.1 _ _ hcb hp)
theorem dn_inj (hW : sg_W σ) (hd : ∀ d, o = some d → d < sg_nc σ) (hf : (ln_o (sg_pr σ) o).filterMap (fun c => sg_oo σ c n t) = dn_l g N) : ∀ a b, a < N → b < N → g a = g b → a = b := by
  intro a b ha hb he
  rcases Nat.lt_trichotomy a b with h | h | h
  · have := dn_dec hW hd hf h hb
    rw [he] at this
    omega
  · exact h
  · have := dn_dec hW hd hf h ha
    rw [he] at this
    omega
theorem dn_has (hW : sg_W σ) (hf : (ln_o (sg_pr σ) o).filterMap (fun c => sg_oo σ c n t) = dn_l g N) {m : Nat} (hm : m < sg_nm σ) (hob : sg_ob σ m = true) (hn : sg_mn σ m = n) (ht : sg_ty σ m = t) (hc : sg_mc σ m ∈ ln_o (sg_pr σ) o) : ∃ j, j < N ∧ m = g j := by
  refine dn_mem.mp ?_
  rw [← hf]
  exact List.mem_filterMap.mpr ⟨sg_mc σ m, hc, oo_at hW hm rfl hob hn ht⟩
theorem dn_tab (hW : sg_W σ) (hd : ∀ d, o = some d → d < sg_nc σ) (hf : (ln_o (sg_pr σ) o).filterMap (fun c => sg_oo σ c n t) = dn_l g N) {R K : Nat → Int32} {O : Nat → Nat → Bool} (h : ov_t N R K O) (hR : ∀ k, k < N → R k = sg_rg σ (g k)) (hK : ∀ k, k < N → K k = sg_pk σ (sg_mc σ (g k))) {i j : Nat} (hj : j < i) (hi : i < N) : O i j = ov_r σ (sg_mc σ (g i)) n t (sg_rg σ (g i)) (g j) :=
  ov_eq h hi (hR i hi) (hK i hi) (fun k hk => hR k (by omega)) (fun k hk => hK k (by omega)) (fun k hk => (dn_lt hW hd hf (show k < N by omega)).1) (fun a b ha hb => dn_inj hW hd hf a b (by omega) (by omega)) (dn_lt hW hd hf hi).2.2 hj
end CH
theorem ov_rg {σ : sg_T} {c j : Nat} {n t r : Int32} (h : ov_r σ c n t r j = true) : ¬ sg_rg σ j = 0 := by
  unfold ov_r at h
  rw [Bool.and_eq_true, Bool.and_eq_true] at h
  exact of_decide_eq_true h.2.1
theorem fb_t {σ : sg_T} {c N j : Nat} {n t r : Int32} {g : Nat → Nat} (hf : (ln_o (sg_pr σ) (sg_pr σ c)).filterMap (fun c => sg_oo σ c n t) = dn_l g N) (hj : j < N) (h1 : ov_r σ c n t r (g j) = true) (h2 : sg_fn σ (g j) = true ∨ r < sg_rg σ (g j)) : sg_fb σ c n t false r = true := by
  unfold sg_fb
  rw [fb_any, hf, List.any_eq_true]
  refine ⟨g j, dn_mem.mpr ⟨j, hj, rfl⟩, ?_⟩
  have h3 := ov_rg h1
  rcases h2 with h2 | h2 <;> simp [h1, h2, h3]
theorem fb_f {σ : sg_T} {c N : Nat} {n t r : Int32} {g : Nat → Nat} (hf : (ln_o (sg_pr σ) (sg_pr σ c)).filterMap (fun c => sg_oo σ c n t) = dn_l g N) (h : ∀ j, j < N → ¬ (ov_r σ c n t r (g j) = true ∧ (sg_fn σ (g j) = true ∨ r < sg_rg σ (g j)))) : sg_fb σ c n t false r = false := by
  cases e : sg_fb σ c n t false r with
  | false => rfl
  | true =>
    unfold sg_fb at e
    rw [fb_any, hf, List.any_eq_true] at e
    obtain ⟨m, h1, h2⟩ := e
    obtain ⟨j, hj, rfl⟩ := dn_mem.mp h1
    simp at h2
    exact absurd ⟨h2.2.2, h2.2.1⟩ (h j hj)
theorem fh_at {σ : sg_T} (hW : sg_W σ) {m : Nat} (hm : m < sg_nm σ) (hk : sg_kd σ m = 0) : fi_c σ (sg_mn σ m) 0 4 (sg_mc σ m) = some m := by
  have ht : sg_ty σ m = 0 := by
    rcases hW.2.2.2.2.2.1 m hm with q | q | q
    · exact q.2
    · rw [hk] at q; exact absurd q (by decide)
    · rw [hk] at q; exact absurd q.1 (by decide)
  unfold fi_c
  rw [if_pos (by decide)]
  exact ow_is hW hm rfl hk rfl ht
theorem fh_c {σ : sg_T} {n : Int32} {d : Nat} : fi_c σ n 0 4 d = sg_ow σ d 0 n 0 := by
  unfold fi_c
  rw [if_pos (by decide)]
theorem ii_m {i : Nat} (h : 0 < i) : nI i + Int32.ofInt (-1) = nI (i - 1) := by
  obtain ⟨k, rfl⟩ : ∃ k, i = k + 1 := ⟨i - 1, by omega⟩
  exact pk_m1 k
theorem ov_no {σ : sg_T} {n t : Int32} {x : Nat} : ∀ (cs : List Nat) (L : List Int32), ¬ x ∈ cs → ov_l σ n t x L cs = false := by
  intro cs
  induction cs with
  | nil => intro L _; rfl
  | cons c cs ih =>
    intro L h
    unfold ov_l
    rw [if_neg (fun q => h (by rw [q]; exact List.mem_cons_self))]
    exact ih _ (fun q => h (List.mem_cons_of_mem _ q))
theorem ov_no2 {σ : sg_T} {c j : Nat} {n t r : Int32} (h : ¬ sg_mc σ j ∈ ln_o (sg_pr σ) (sg_pr σ c)) : ov_r σ c n t r j = false := by
  unfold ov_r
  rw [ov_no _ _ h]
  simp
