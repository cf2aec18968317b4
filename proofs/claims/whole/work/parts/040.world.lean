abbrev mw_M : Type := Nat → Option ((Nat × Nat) × va_E)
def mw_up (M : mw_M) (a : Nat) (x : (Nat × Nat) × va_E) : mw_M := fun q => if q = a then some x else M q
theorem mw_at {M : mw_M} {a : Nat} {x : (Nat × Nat) × va_E} : mw_up M a x a = some x := by simp [mw_up]
theorem mw_ne {M : mw_M} {a b : Nat} {x : (Nat × Nat) × va_E} (h : b ≠ a) : mw_up M a x b = M b := by simp [mw_up, h]
theorem mw_uu {M : mw_M} {a : Nat} {x y : (Nat × Nat) × va_E} : mw_up (mw_up M a x) a y = mw_up M a y := by
  funext q
  by_cases h : q = a <;> simp [mw_up, h]
theorem mw_id {M : mw_M} {a : Nat} {x : (Nat × Nat) × va_E} (h : M a = some x) : mw_up M a x = M := by
  funext q
  by_cases hq : q = a
  · subst hq; simp [mw_up, h]
  · simp [mw_up, hq]
theorem ml_ne {M : mw_M} {a b : Nat} {r t : Nat × Nat} {e f : va_E} (ha : M a = some (r, e)) (hb : M b = some (t, f)) (h : r ≠ t) : a ≠ b := fun q => by
  subst q
  rw [ha] at hb
  exact h (congrArg Prod.fst (Option.some.inj hb))
theorem mw_old {M : mw_M} {a b : Nat} {x y : (Nat × Nat) × va_E} (hn : M a = none) (h : M b = some y) : mw_up M a x b = some y := by
  rw [mw_ne (fun q => by subst q; rw [hn] at h; cases h), h]
theorem mw_oth {M : mw_M} {a b : Nat} {r t : Nat × Nat} {e f g : va_E} (ha : M a = some (r, e)) (hb : M b = some (t, f)) (h : t ≠ r) : mw_up M a (r, g) b = some (t, f) := by
  rw [mw_ne (ml_ne hb ha h), hb]
abbrev mw_G : Type := va_G × Nat × ClassId × ClassId × ClassId × ClassId
def mw_ty (G : mw_G) : List (ClassId × FieldType) := [(G.2.2.1, .int), (G.2.2.2.1, .boolean), (G.2.2.2.2.1, .object RC), (G.2.2.2.2.2, .object RN)]
def mw_A (G : mw_G) : Nat → Prop := fun q => G.2.1 ≤ q
def mw_H (G : mw_G) (M : mw_M) (H : Heap) : Prop := G.2.1 ≤ H.size ∧ ∃ ws : va_W, va_P G.1 vwCl ws H ∧ va_D (mw_A G) ws ∧ ∀ (a : Nat) (r : Nat × Nat) (e : va_E), M a = some (r, e) → (a, e) ∈ ws
def mw_S (G : mw_G) (M : mw_M) (H0 H : Heap) (locs : List Loc) : Prop := G.2.1 ≤ H0.size ∧ mw_H G M H ∧ va_S (mw_A G) H0 H locs
def mw_K (G : mw_G) (U : State) : Prop := va_K G.1 vwCl (mw_ty G) U ∧ va_AO RC U ∧ va_AO RN U
theorem mw_Km {G : mw_G} {u U : State} (hvm : u.vm.Alike U.vm) (h : mw_K G u) : mw_K G U := ⟨va_K.moved hvm h.1, va_AO.moved hvm h.2.1, va_AO.moved hvm h.2.2⟩
def mw_F (p : Program) (m : MethodId) (meth : Method) (c : Code) (cc : ByteArray) (nL : Nat) (s : State) (args : Array Value) (own : String) (G : mw_G) : Prop :=
  p.tables.exec = Jvm.exec ∧ c.code = cc ∧ c.maxLocals = nL ∧ s.vm.findClass own = some m.cls ∧ (∀ w ∈ mw_tb, w.before args s = true) ∧ mw_K G s ∧ meth.locks = false
abbrev oe_ (ci : Nat) (fs : List Value) : va_E := .inr (ci, fs)
abbrev aI_ (G : mw_G) (n : Nat) (f : Nat → Int32) : va_E := .inl (G.2.2.1, n, .inl f)
abbrev aZ_ (G : mw_G) (n : Nat) (f : Nat → Int32) : va_E := .inl (G.2.2.2.1, n, .inl f)
abbrev aC_ (G : mw_G) (n : Nat) (f : Nat → Option Nat) : va_E := .inl (G.2.2.2.2.1, n, .inr (.inr (.inr (.inr f))))
abbrev aN_ (G : mw_G) (n : Nat) (f : Nat → Option Nat) : va_E := .inl (G.2.2.2.2.2, n, .inr (.inr (.inr (.inr f))))
def mw_Pc (G : mw_G) (M : mw_M) (av : List Value) : Array Value → State → Prop := va_Pc av (fun U => mw_H G M U.heap ∧ mw_K G U)
def mw_Q (G : mw_G) (P : Option Value → mw_M → Prop) : Array Value → State → Outcome → State → Prop := fun _ st oc t => (∃ (v : Option Value) (M' : mw_M), oc = .returned v ∧ P v M' ∧ mw_H G M' t.heap) ∧ va_F (mw_A G) st t
def mw_C (l : Launch) (G : mw_G) (y : MethodName) (bytes : ByteArray) (maxL : Nat) (ret : Option FieldType) (rm : Room) (M : mw_M) (av : List Value) (P : Option Value → mw_M → Prop) : Prop :=
  Met l y (Cond.code y bytes maxL ret :: mw_tb) rm (mw_Pc G M av) (mw_Q G P) rm.cells rm.slots (mw_A G)
theorem mw_bl {G : mw_G} {M : mw_M} {av : List Value} : FrameBlind (mw_Pc G M av) := fun a U g mk q => ⟨q.1, q.2.1, mw_Km (u := U) (U := U.calling g mk a) (Vm.Alike.refl U.vm) q.2.2⟩
theorem mw_mset {M : mw_M} {ws : va_W} {a q0 : Nat} {r0 : Nat × Nat} {e0 e' : va_E} (hm : ∀ (a : Nat) (r : Nat × Nat) (e : va_E), M a = some (r, e) → (a, e) ∈ ws) (hq : ws[q0]? = some (a, e0)) : ∀ (b : Nat) (r : Nat × Nat) (e : va_E), mw_up M a (r0, e') b = some (r, e) → (b, e) ∈ ws.set q0 (a, e') := by
  have hl := (List.getElem?_eq_some_iff.mp hq).1
  intro b r e h
  by_cases hb : b = a
  · subst hb
    rw [mw_at] at h
    cases h
    exact List.mem_of_getElem? (List.getElem?_set_self hl)
  · rw [mw_ne hb] at h
    obtain ⟨j, hj⟩ := List.getElem?_of_mem (hm b r e h)
    have hne : j ≠ q0 := fun z => by
      subst z
      rw [hq] at hj
      cases hj
      exact hb rfl
    exact List.mem_of_getElem? (i := j) (by rw [List.getElem?_set_ne (Ne.symm hne)]; exact hj)
theorem mw_mnew {A : Nat → Prop} {M : mw_M} {ws : va_W} {q : Nat} {r0 : Nat × Nat} {e0 : va_E} (hm : ∀ (a : Nat) (r : Nat × Nat) (e : va_E), M a = some (r, e) → (a, e) ∈ ws) (hD : va_D A (ws ++ [(q, e0)])) : M q = none ∧ ∀ (b : Nat) (r : Nat × Nat) (e : va_E), mw_up M q (r0, e0) b = some (r, e) → (b, e) ∈ ws ++ [(q, e0)] := by
  refine ⟨?_, fun b r e h => ?_⟩
  · cases hM : M q with
    | none => rfl
    | some x =>
      obtain ⟨r, e⟩ := x
      obtain ⟨j, hj⟩ := List.getElem?_of_mem (hm q r e hM)
      have hl := (List.getElem?_eq_some_iff.mp hj).1
      have h1 : (ws ++ [(q, e0)])[j]? = some (q, e) := by rw [List.getElem?_append_left hl]; exact hj
      have h2 : (ws ++ [(q, e0)])[ws.length]? = some (q, e0) := by simp
      have := hD.1 j ws.length _ _ h1 h2 rfl
      omega
  · by_cases hb : b = q
    · subst hb
      rw [mw_at] at h
      cases h
      exact List.mem_append_right _ List.mem_cons_self
    · rw [mw_ne hb] at h
      exact List.mem_append_left _ (hm b r e h)
section MW
variable {p : Program} {l : Launch} {e : Env} {R : Room} {s : State} {m : MethodId} {args : Array Value} {below : List Frame} {meth : Method} {c : Code} {H : Heap} {locs : List Loc} {cells slots : Nat} {Q : State → Prop}
variable {cc : ByteArray} {pc nL : Nat} {ls : Array Slot} {rest : List Value} {own : String} {G : mw_G} {M : mw_M} {a : Nat} {r : Nat × Nat}
theorem mw_get (F : mw_F p m meth c cc nL s args own G) {ref C : String} {T : u_T} {N ci index : Nat} {fs : List Value} {v : Value} (hin : ∀ w ∈ u_ws C T N, w ∈ mw_tb) (hc : vwCl[ci]? = some (C, T, N)) (k : Nat) (hk : k < N) (hlink : Cond.fieldLink own index ref (T k).2.1 (T k).2.2.1 ∈ mw_tb) (hsame : (T k).1 = ref)
    (hM : mw_S G M s.heap H locs) (he : M a = some (r, .inr (ci, fs))) (hv : fs[k]? = some v) (hdg : decode cc pc = .ok (.getfield index, 3))
    (kk : W p l e R s m args below meth c H locs cells slots Q (F0 m (pc + 3) ls (v :: rest))) : W p l e R s m args below meth c H locs cells slots Q (F0 m pc ls (.ref a :: rest)) := by
  obtain ⟨hx, hb, -, hown, hts, ⟨hK, hAO⟩, -⟩ := F
  obtain ⟨-, ⟨-, ws, hP, -, hm⟩, -⟩ := hM
  obtain ⟨q0, hq⟩ := List.getElem?_of_mem (hm a r _ he)
  exact va_get hx hb hts hin hown hK hP q0 hq hc k hk (hts _ hlink) (fun x h => by rw [← hsame]; exact h) hv hdg kk
theorem mw_put (F : mw_F p m meth c cc nL s args own G) {ref C : String} {T : u_T} {N ci index : Nat} {fs : List Value} {v : Value} {ty : FieldType} (hin : ∀ w ∈ u_ws C T N, w ∈ mw_tb) (ty0 : Nat → FieldType) (hty : ∀ k, k < N → parseFieldDescriptor (T k).2.2.1 = some (ty0 k)) (hnm : ∀ a, a < N → ∀ b, b < N → a ≠ b → (T a).2.1 ≠ (T b).2.1) (hc : vwCl[ci]? = some (C, T, N)) (k : Nat) (hk : k < N) (hlink : Cond.fieldLink own index ref (T k).2.1 (T k).2.2.1 ∈ mw_tb) (hsame : (T k).1 = ref)
    (hfin : (T k).2.2.2 = false ∨ ((T k).2.2.2 = true ∧ meth.name = "<init>" ∧ (T k).1 = own)) (hd : parseFieldDescriptor (T k).2.2.1 = some ty) (hn : narrow ty v = v) (hfit : fits ty v = true)
    (hM : mw_S G M s.heap H locs) (he : M a = some (r, .inr (ci, fs))) (hl : k < fs.length) (hdg : decode cc pc = .ok (.putfield index, 3))
    (kk : ∀ (H1 : Heap) (locs1 : List Loc), mw_S G (mw_up M a (r, .inr (ci, fs.set k v))) s.heap H1 locs1 → W p l e R s m args below meth c H1 locs1 cells slots Q (F0 m (pc + 3) ls rest)) : W p l e R s m args below meth c H locs cells slots Q (F0 m pc ls (v :: .ref a :: rest)) := by
  obtain ⟨hx, hb, -, hown, hts, ⟨hK, hAO⟩, -⟩ := F
  obtain ⟨hz, ⟨-, ws, hP, hD, hm⟩, hS⟩ := hM
  obtain ⟨q0, hq⟩ := List.getElem?_of_mem (hm a r _ he)
  have kk2 : ∀ (H1 : Heap) (locs1 : List Loc), va_P G.1 vwCl (ws.set q0 (a, .inr (ci, fs.set k v))) H1 → va_D (mw_A G) (ws.set q0 (a, .inr (ci, fs.set k v))) → va_S (mw_A G) s.heap H1 locs1 → W p l e R s m args below meth c H1 locs1 cells slots Q (F0 m (pc + 3) ls rest) :=
    fun H1 locs1 hP1 hD1 hS1 => kk H1 locs1 ⟨hz, ⟨Nat.le_trans hz hS1.1, _, hP1, hD1, mw_mset hm hq⟩, hS1⟩
  rcases hfin with hf | ⟨hf, hi, ho⟩
  · exact va_put hx hb hts hin ty0 hty hnm hown hK hP hD hS q0 hq hc k hk (hts _ hlink) (fun x h => by rw [← hsame]; exact h) hf hd hn hfit hl hdg kk2
  · exact va_putF hx hb hts hin ty0 hty hnm hown hK hP hD hS q0 hq hc k hk (hts _ hlink) (fun x h => by rw [← hsame]; exact h) hf hi ho hd hn hfit hl hdg kk2
theorem mw_new (F : mw_F p m meth c cc nL s args own G) {C : String} {T : u_T} {N ci index : Nat} {fs : List Value} (r : Nat × Nat) (hin : ∀ w ∈ u_ws C T N, w ∈ mw_tb) (ty0 : Nat → FieldType) (hty : ∀ k, k < N → parseFieldDescriptor (T k).2.2.1 = some (ty0 k)) (hc : vwCl[ci]? = some (C, T, N)) (hcl : Cond.classLink own index C ∈ mw_tb) (hinst : Cond.instantiable C N ∈ mw_tb) (hini : Cond.initialized C ∈ mw_tb) (hfs : ∀ j, j < N → defaultValue (ty0 j) = vp_V fs j)
    (hM : mw_S G M s.heap H locs) (hcs : cells + 1 ≤ R.cells ∧ slots + N ≤ R.slots) (hdg : decode cc pc = .ok (.new index, 3))
    (kk : ∀ (q : Nat) (H1 : Heap), M q = none → mw_S G (mw_up M q (r, .inr (ci, fs))) s.heap H1 locs → W p l e R s m args below meth c H1 locs (cells + 1) (slots + N) Q (F0 m (pc + 3) ls (.ref q :: rest))) : W p l e R s m args below meth c H locs cells slots Q (F0 m pc ls rest) := by
  obtain ⟨hx, hb, -, hown, hts, ⟨hK, hAO⟩, -⟩ := F
  obtain ⟨hz, ⟨-, ws, hP, hD, hm⟩, hS⟩ := hM
  refine va_new hx hb hts hin ty0 hty hown (hts _ hcl) (hts _ hinst) (hts _ hini) hK hP hD hS (fun q h => Nat.le_trans hz h) hc hfs hcs.1 hcs.2 hdg (fun q H1 hP1 hD1 hS1 => ?_)
  obtain ⟨h1, h2⟩ := mw_mnew (r0 := r) hm hD1
  exact kk q H1 h1 ⟨hz, ⟨Nat.le_trans hz hS1.1, _, hP1, hD1, h2⟩, hS1⟩
theorem mw_ild (F : mw_F p m meth c cc nL s args own G) {n : Nat} {f : Nat → Int32} {i : Int32} (hM : mw_S G M s.heap H locs) (he : M a = some (r, aI_ G n f)) (hin : vp_in i n) (hdg : decode cc pc = .ok (.iaload, 1))
    (kk : W p l e R s m args below meth c H locs cells slots Q (F0 m (pc + 1) ls (.int (f i.toNatClampNeg) :: rest))) : W p l e R s m args below meth c H locs cells slots Q (F0 m pc ls (.int i :: .ref a :: rest)) := by
  obtain ⟨hx, hb, -, hown, hts, ⟨hK, hAO⟩, -⟩ := F
  obtain ⟨-, ⟨-, ws, hP, -, hm⟩, -⟩ := hM
  obtain ⟨q0, hq⟩ := List.getElem?_of_mem (hm a r _ he)
  exact va_iald hx hb hK hP q0 0 hq rfl hin hdg kk
theorem mw_zld (F : mw_F p m meth c cc nL s args own G) {n : Nat} {f : Nat → Int32} {i : Int32} (hM : mw_S G M s.heap H locs) (he : M a = some (r, aZ_ G n f)) (hin : vp_in i n) (hdg : decode cc pc = .ok (.baload, 1))
    (kk : W p l e R s m args below meth c H locs cells slots Q (F0 m (pc + 1) ls (.int (f i.toNatClampNeg) :: rest))) : W p l e R s m args below meth c H locs cells slots Q (F0 m pc ls (.int i :: .ref a :: rest)) := by
  obtain ⟨hx, hb, -, hown, hts, ⟨hK, hAO⟩, -⟩ := F
  obtain ⟨-, ⟨-, ws, hP, -, hm⟩, -⟩ := hM
  obtain ⟨q0, hq⟩ := List.getElem?_of_mem (hm a r _ he)
  exact va_zald hx hb hK hP q0 1 hq rfl hin hdg kk
theorem mw_cld (F : mw_F p m meth c cc nL s args own G) {n : Nat} {f : Nat → Option Nat} {i : Int32} (hM : mw_S G M s.heap H locs) (he : M a = some (r, aC_ G n f)) (hin : vp_in i n) (hdg : decode cc pc = .ok (.aaload, 1))
    (kk : W p l e R s m args below meth c H locs cells slots Q (F0 m (pc + 1) ls (va_rf (f i.toNatClampNeg) :: rest))) : W p l e R s m args below meth c H locs cells slots Q (F0 m pc ls (.int i :: .ref a :: rest)) := by
  obtain ⟨hx, hb, -, hown, hts, ⟨hK, hAO⟩, -⟩ := F
  obtain ⟨-, ⟨-, ws, hP, -, hm⟩, -⟩ := hM
  obtain ⟨q0, hq⟩ := List.getElem?_of_mem (hm a r _ he)
  exact va_aldq hx hb hK hP q0 2 hq rfl hin hdg kk
theorem mw_nld (F : mw_F p m meth c cc nL s args own G) {n : Nat} {f : Nat → Option Nat} {i : Int32} (hM : mw_S G M s.heap H locs) (he : M a = some (r, aN_ G n f)) (hin : vp_in i n) (hdg : decode cc pc = .ok (.aaload, 1))
    (kk : W p l e R s m args below meth c H locs cells slots Q (F0 m (pc + 1) ls (va_rf (f i.toNatClampNeg) :: rest))) : W p l e R s m args below meth c H locs cells slots Q (F0 m pc ls (.int i :: .ref a :: rest)) := by
  obtain ⟨hx, hb, -, hown, hts, ⟨hK, hAO⟩, -⟩ := F
  obtain ⟨-, ⟨-, ws, hP, -, hm⟩, -⟩ := hM
  obtain ⟨q0, hq⟩ := List.getElem?_of_mem (hm a r _ he)
  exact va_aldq hx hb hK hP q0 3 hq rfl hin hdg kk
theorem mw_ist (F : mw_F p m meth c cc nL s args own G) {n : Nat} {f : Nat → Int32} {i x : Int32} (hM : mw_S G M s.heap H locs) (he : M a = some (r, aI_ G n f)) (hin : vp_in i n) (hdg : decode cc pc = .ok (.iastore, 1))
    (kk : ∀ (H1 : Heap) (locs1 : List Loc), mw_S G (mw_up M a (r, aI_ G n (upd f i.toNatClampNeg x))) s.heap H1 locs1 → W p l e R s m args below meth c H1 locs1 cells slots Q (F0 m (pc + 1) ls rest)) : W p l e R s m args below meth c H locs cells slots Q (F0 m pc ls (.int x :: .int i :: .ref a :: rest)) := by
  obtain ⟨hx, hb, -, hown, hts, ⟨hK, hAO⟩, -⟩ := F
  obtain ⟨hz, ⟨-, ws, hP, hD, hm⟩, hS⟩ := hM
  obtain ⟨q0, hq⟩ := List.getElem?_of_mem (hm a r _ he)
  exact va_iast hx hb hK hP hD hS q0 0 hq rfl hin hdg (fun H1 locs1 hP1 hD1 hS1 => kk H1 locs1 ⟨hz, ⟨Nat.le_trans hz hS1.1, _, hP1, hD1, mw_mset hm hq⟩, hS1⟩)
theorem mb_nar (b : Bool) : vp_nar .boolean (mb_i b) = mb_i b := by cases b <;> rfl
theorem mb_narrow (b : Bool) : narrow .boolean (.int (mb_i b)) = .int (mb_i b) := by cases b <;> rfl
theorem mb_fits (b : Bool) : fits .boolean (.int (mb_i b)) = true := by cases b <;> rfl
theorem mw_zst (F : mw_F p m meth c cc nL s args own G) {n : Nat} {f : Nat → Int32} {i : Int32} {b : Bool} (hM : mw_S G M s.heap H locs) (he : M a = some (r, aZ_ G n f)) (hin : vp_in i n) (hdg : decode cc pc = .ok (.bastore, 1))
    (kk : ∀ (H1 : Heap) (locs1 : List Loc), mw_S G (mw_up M a (r, aZ_ G n (upd f i.toNatClampNeg (mb_i b)))) s.heap H1 locs1 → W p l e R s m args below meth c H1 locs1 cells slots Q (F0 m (pc + 1) ls rest)) : W p l e R s m args below meth c H locs cells slots Q (F0 m pc ls (.int (mb_i b) :: .int i :: .ref a :: rest)) := by
  obtain ⟨hx, hb, -, hown, hts, ⟨hK, hAO⟩, -⟩ := F
  obtain ⟨hz, ⟨-, ws, hP, hD, hm⟩, hS⟩ := hM
  obtain ⟨q0, hq⟩ := List.getElem?_of_mem (hm a r _ he)
  refine va_zast hx hb hK hP hD hS q0 1 hq rfl hin hdg (fun H1 locs1 hP1 hD1 hS1 => ?_)
  rw [mb_nar] at hP1 hD1
  exact kk H1 locs1 ⟨hz, ⟨Nat.le_trans hz hS1.1, _, hP1, hD1, mw_mset hm hq⟩, hS1⟩
theorem mw_ast (F : mw_F p m meth c cc nL s args own G) (t0 ci : Nat) {cA : ClassId} {rr : vw_C} {n v : Nat} {r2 : Nat × Nat} {vs : List Value} {f : Nat → Option Nat} {i : Int32} (hM : mw_S G M s.heap H locs) (he : M a = some (r, .inl (cA, n, .inr (.inr (.inr (.inr f)))))) (ht : (mw_ty G)[t0]? = some (cA, .object rr.1)) (hv : M v = some (r2, .inr (ci, vs))) (hc : vwCl[ci]? = some rr) (hin : vp_in i n) (hdg : decode cc pc = .ok (.aastore, 1))
    (kk : ∀ (H1 : Heap) (locs1 : List Loc), mw_S G (mw_up M a (r, .inl (cA, n, .inr (.inr (.inr (.inr (va_up f i.toNatClampNeg (some v)))))))) s.heap H1 locs1 → W p l e R s m args below meth c H1 locs1 cells slots Q (F0 m (pc + 1) ls rest)) : W p l e R s m args below meth c H locs cells slots Q (F0 m pc ls (.ref v :: .int i :: .ref a :: rest)) := by
  obtain ⟨hx, hb, -, hown, hts, ⟨hK, hAO⟩, -⟩ := F
  obtain ⟨hz, ⟨-, ws, hP, hD, hm⟩, hS⟩ := hM
  obtain ⟨q0, hq⟩ := List.getElem?_of_mem (hm a r _ he)
  obtain ⟨qk, hqk⟩ := List.getElem?_of_mem (hm v r2 _ hv)
  exact va_astq hx hb hK hP hD hS q0 t0 qk ci hq ht hqk hc hin hdg (fun H1 locs1 hP1 hD1 hS1 => kk H1 locs1 ⟨hz, ⟨Nat.le_trans hz hS1.1, _, hP1, hD1, mw_mset hm hq⟩, hS1⟩)
theorem mw_len (F : mw_F p m meth c cc nL s args own G) (t0 : Nat) {cA : ClassId} {x : vp_A} {ty : FieldType} {v : Int32} (hM : mw_S G M s.heap H locs) (he : M a = some (r, .inl (cA, x))) (ht : (mw_ty G)[t0]? = some (cA, ty)) (hv : Int32.ofNat x.1 = v) (hdg : decode cc pc = .ok (.arraylength, 1))
    (kk : W p l e R s m args below meth c H locs cells slots Q (F0 m (pc + 1) ls (.int v :: rest))) : W p l e R s m args below meth c H locs cells slots Q (F0 m pc ls (.ref a :: rest)) := by
  obtain ⟨hx, hb, -, hown, hts, ⟨hK, hAO⟩, -⟩ := F
  obtain ⟨-, ⟨-, ws, hP, -, hm⟩, -⟩ := hM
  obtain ⟨q0, hq⟩ := List.getElem?_of_mem (hm a r _ he)
  exact va_alen hx hb hK hP q0 t0 hq ht hv hdg kk
theorem mv_i {x y : Int32} (h : x = y) (k : W p l e R s m args below meth c H locs cells slots Q (F0 m pc ls (.int y :: rest))) : W p l e R s m args below meth c H locs cells slots Q (F0 m pc ls (.int x :: rest)) := h ▸ k
theorem mv_v {x y : Value} (h : x = y) (k : W p l e R s m args below meth c H locs cells slots Q (F0 m pc ls (y :: rest))) : W p l e R s m args below meth c H locs cells slots Q (F0 m pc ls (x :: rest)) := h ▸ k
theorem mv_ald_n (hx : p.tables.exec = Jvm.exec) (hb : c.code = cc) {k : Fin 4} {i : Nat} {o : Option Nat} (hdg : decode cc pc = .ok (.aload_n k, 1)) (hi : (k : Nat) = i) (hl : ls[i]? = some (.val (va_rf o)))
    (kk : W p l e R s m args below meth c H locs cells slots Q (F0 m (pc + 1) ls (va_rf o :: rest))) : W p l e R s m args below meth c H locs cells slots Q (F0 m pc ls rest) := by
  cases o with
  | none => exact lv_aload_nN hx hb hdg hi hl kk
  | some x => exact lv_aload_n hx hb hdg hi hl kk
theorem mv_ald (hx : p.tables.exec = Jvm.exec) (hb : c.code = cc) {i : Nat} {o : Option Nat} (hdg : decode cc pc = .ok (.aload i, 2)) (hl : ls[i]? = some (.val (va_rf o)))
    (kk : W p l e R s m args below meth c H locs cells slots Q (F0 m (pc + 2) ls (va_rf o :: rest))) : W p l e R s m args below meth c H locs cells slots Q (F0 m pc ls rest) := by
  cases o with
  | none => exact lv_aloadN hx hb hdg hl kk
  | some x => exact lv_aload hx hb hdg hl kk
theorem mv_ast_n (hx : p.tables.exec = Jvm.exec) (hb : c.code = cc) {k : Fin 4} {i : Nat} {o : Option Nat} {lv lv' : List (Nat × Value)} (hdg : decode cc pc = .ok (.astore_n k, 1)) (hi : (k : Nat) = i) (h : lv_has ls nL lv) (hn : i < nL) (hl : (i, va_rf o) :: lv.filter (fun q => !(q.1 == i) && !(q.1 + 1 == i && q.2.category == 2)) = lv')
    (kk : ∀ ls' : Array Slot, lv_has ls' nL lv' → W p l e R s m args below meth c H locs cells slots Q (F0 m (pc + 1) ls' rest)) : W p l e R s m args below meth c H locs cells slots Q (F0 m pc ls (va_rf o :: rest)) := by
  cases o with
  | none => exact lv_astore_nN hx hb hdg hi h hn hl kk
  | some x => exact lv_astore_n hx hb hdg hi h hn hl kk
theorem mv_ast (hx : p.tables.exec = Jvm.exec) (hb : c.code = cc) {i : Nat} {o : Option Nat} {lv lv' : List (Nat × Value)} (hdg : decode cc pc = .ok (.astore i, 2)) (h : lv_has ls nL lv) (hn : i < nL) (hl : (i, va_rf o) :: lv.filter (fun q => !(q.1 == i) && !(q.1 + 1 == i && q.2.category == 2)) = lv')
    (kk : ∀ ls' : Array Slot, lv_has ls' nL lv' → W p l e R s m args below meth c H locs cells slots Q (F0 m (pc + 2) ls' rest)) : W p l e R s m args below meth c H locs cells slots Q (F0 m pc ls (va_rf o :: rest)) := by
  cases o with
  | none => exact lv_astoreN hx hb hdg h hn hl kk
  | some x => exact lv_astore hx hb hdg h hn hl kk
def mp_ (v0 : Option Value) (M : mw_M) : Option Value → mw_M → Prop := fun v M' => v = v0 ∧ M' = M
def pl_ (G : mw_G) (ql : Nat) (v0 : Option Value) (M : mw_M) : Option Value → mw_M → Prop := fun v M' => v = v0 ∧ ∃ lp' : Nat → Int32, M' = mw_up M ql ((3, 0), aI_ G 40 lp')
theorem mv_ct (o : Option Nat) : (va_rf o).category = 1 := by cases o <;> rfl
theorem mw_gi {y : MethodName} {bytes : ByteArray} {maxL : Nat} {ret : Option FieldType} (h : Cond.code y bytes maxL ret ∈ mw_tb) : GoodIn mw_tb (Cond.code y bytes maxL ret :: mw_tb) := fun w hw => by
  rcases List.mem_cons.mp hw with rfl | hw
  · exact ⟨h, mw_good _ h⟩
  · exact ⟨hw, mw_good _ hw⟩
variable {y : MethodName} {bytes : ByteArray} {maxL n index : Nat} {ret : Option FieldType} {rm : Room} {P : Option Value → mw_M → Prop} {As st0 : List Value} {b : Nat}
theorem mw_call {mc ms : Nat} {aa : Array Value} (hr : va_Run p l e R s m args below meth c H locs cells slots mc ms (F0 m pc ls st0) rest (mw_Q G P aa) (mw_A G)) (hM : mw_S G M s.heap H locs)
    (kk : ∀ (v : Option Value) (M' : mw_M) (H1 : Heap) (locs1 : List Loc), P v M' → mw_S G M' s.heap H1 locs1 → W p l e R s m args below meth c H1 locs1 (cells + mc) (slots + ms) Q (F0 m (pc + 3) ls (v.toList ++ rest))) : W p l e R s m args below meth c H locs cells slots Q (F0 m pc ls st0) := by
  intro T hT X
  obtain ⟨v, st₀, t, T', L, h0, X', hL, e1, e2, ⟨⟨v', M', hv, hp, hH⟩, hz, hk⟩, st⟩ := hr T hT X
  cases hv
  rw [h0] at hz hk
  obtain ⟨hz0, -, hS⟩ := hM
  obtain ⟨t2, a1, b1⟩ := kk v M' T'.heap (locs ++ L) hp ⟨hz0, by rw [e1]; exact hH, Nat.le_trans hS.1 (by rw [e1]; exact hz), fun q h1 h2 => by rw [e1, hk q (Nat.lt_of_lt_of_le h1 hS.1) h2]; exact hS.2.1 q h1 h2, fun q hq => by
    rcases List.mem_append.mp hq with h | h
    · exact hS.2.2 q h
    · exact hL q h⟩ T' rfl X'
  exact ⟨t2, st t2 a1, b1⟩
theorem mw_V (F : mw_F p m meth c cc nL s args own G) (hC : mw_C l G y bytes maxL ret rm M (.ref b :: As) P) (hB : mw_B y bytes maxL ret n) (hI : Cond.instanceMethod y ∈ mw_tb) (hs : Cond.selects y.cls y y ∈ mw_tb) (hl : Cond.methodLink own index y ∈ mw_tb) (hM : mw_S G M s.heap H locs) {ci : Nat} {fs : List Value} {T : u_T} {N : Nat} (he : M b = some (r, .inr (ci, fs))) (hc : vwCl[ci]? = some (y.cls, T, N)) (hn : As.length = n) (hsz : ls.size = nL) (hst : st0 = As.reverse ++ .ref b :: rest) (hw : (rest.map fun v => v.category).sum ≤ 8) (hdg : decode cc pc = .ok (.invokevirtual index, 3))
    (hR : (rm.frames + 1 ≤ R.frames ∧ 8 + (maxL + 11) + rm.locals ≤ R.locals) ∧ cells + rm.cells ≤ R.cells ∧ slots + rm.slots ≤ R.slots)
    (kk : ∀ (v : Option Value) (M' : mw_M) (H1 : Heap) (locs1 : List Loc), P v M' → mw_S G M' s.heap H1 locs1 → W p l e R s m args below meth c H1 locs1 (cells + rm.cells) (slots + rm.slots) Q (F0 m (pc + 3) ls (v.toList ++ rest))) : W p l e R s m args below meth c H locs cells slots Q (F0 m pc ls st0) := by
  obtain ⟨hx, hb, hml, hown, hts, ⟨hK, hAO⟩, -⟩ := F
  have hM' := hM
  obtain ⟨hz, hH, hS⟩ := hM
  have hH' := hH
  obtain ⟨-, ws, hP, hD, hm⟩ := hH
  obtain ⟨q0, hq⟩ := List.getElem?_of_mem (hm b r _ he)
  refine mw_call (va_runV (As := As) (rest := rest) ⟨hx, hb, hml, hown, hts⟩ hC ⟨callB_of n hts (mw_gi hB.1) rfl rfl rfl (hts _ hB.2.1) (hts _ hl) hB.2.2 hR.1, hts _ hI, hts _ hs⟩ ⟨mw_bl, va_recv hK hP hc hq, fun U hU hW => ⟨rfl, by rw [hU]; exact hH', mw_Km hW.alike ⟨hK, hAO⟩⟩⟩ rfl hn hsz hst (lv_room hw) hdg hR.2) hM' kk
theorem mw_I (F : mw_F p m meth c cc nL s args own G) (hC : mw_C l G y bytes maxL none rm M (.ref b :: As) P) (hB : mw_B y bytes maxL none n) (hy1 : y.name = "<init>") (hI : Cond.instanceMethod y ∈ mw_tb) (hl : Cond.methodLink own index y ∈ mw_tb) (hM : mw_S G M s.heap H locs) (hn : As.length = n) (hsz : ls.size = nL) (hst : st0 = As.reverse ++ .ref b :: rest) (hw : (rest.map fun v => v.category).sum ≤ 8) (hdg : decode cc pc = .ok (.invokespecial index, 3))
    (hR : (rm.frames + 1 ≤ R.frames ∧ 8 + (maxL + 11) + rm.locals ≤ R.locals) ∧ cells + rm.cells ≤ R.cells ∧ slots + rm.slots ≤ R.slots)
    (kk : ∀ (v : Option Value) (M' : mw_M) (H1 : Heap) (locs1 : List Loc), P v M' → mw_S G M' s.heap H1 locs1 → W p l e R s m args below meth c H1 locs1 (cells + rm.cells) (slots + rm.slots) Q (F0 m (pc + 3) ls (v.toList ++ rest))) : W p l e R s m args below meth c H locs cells slots Q (F0 m pc ls st0) := by
  obtain ⟨hx, hb, hml, hown, hts, ⟨hK, hAO⟩, -⟩ := F
  exact mw_call (va_runI (As := As) (rest := rest) ⟨hx, hb, hml, hown, hts⟩ hC ⟨callB_of n hts (mw_gi hB.1) rfl rfl rfl (hts _ hB.2.1) (hts _ hl) hB.2.2 hR.1, hy1, hts _ hI⟩ ⟨mw_bl, fun U hU hW => ⟨rfl, by rw [hU]; exact hM.2.1, mw_Km hW.alike ⟨hK, hAO⟩⟩⟩ rfl hn hsz hst (lv_room hw) hdg hR.2) hM kk
theorem mw_Z (F : mw_F p m meth c cc nL s args own G) (hC : mw_C l G y bytes maxL ret rm M As P) (hB : mw_B y bytes maxL ret n) (hI : Cond.static y ∈ mw_tb) (hl : Cond.methodLink own index y ∈ mw_tb) (hM : mw_S G M s.heap H locs) (hn : As.length = n) (hsz : ls.size = nL) (hst : st0 = As.reverse ++ rest) (hw : (rest.map fun v => v.category).sum ≤ 8) (hdg : decode cc pc = .ok (.invokestatic index, 3))
    (hR : (rm.frames + 1 ≤ R.frames ∧ 8 + (maxL + 11) + rm.locals ≤ R.locals) ∧ cells + rm.cells ≤ R.cells ∧ slots + rm.slots ≤ R.slots)
    (kk : ∀ (v : Option Value) (M' : mw_M) (H1 : Heap) (locs1 : List Loc), P v M' → mw_S G M' s.heap H1 locs1 → W p l e R s m args below meth c H1 locs1 (cells + rm.cells) (slots + rm.slots) Q (F0 m (pc + 3) ls (v.toList ++ rest))) : W p l e R s m args below meth c H locs cells slots Q (F0 m pc ls st0) := by
  obtain ⟨hx, hb, hml, hown, hts, ⟨hK, hAO⟩, -⟩ := F
  exact mw_call (va_runS (As := As) (rest := rest) ⟨hx, hb, hml, hown, hts⟩ hC ⟨callB_of n hts (mw_gi hB.1) rfl rfl rfl (hts _ hB.2.1) (hts _ hl) hB.2.2 hR.1, hts _ hI⟩ ⟨mw_bl, fun U hU hW => ⟨rfl, by rw [hU]; exact hM.2.1, mw_Km hW.alike ⟨hK, hAO⟩⟩⟩ rfl hn hsz hst (lv_room hw) hdg hR.2) hM kk
theorem mw_Vp {v0 : Value} {M1 : mw_M} (F : mw_F p m meth c cc nL s args own G) (hC : mw_C l G y bytes maxL ret rm M (.ref b :: As) (mp_ (some v0) M1)) (hB : mw_B y bytes maxL ret n) (hI : Cond.instanceMethod y ∈ mw_tb) (hs : Cond.selects y.cls y y ∈ mw_tb) (hl : Cond.methodLink own index y ∈ mw_tb) (hM : mw_S G M s.heap H locs) {ci : Nat} {fs : List Value} {T : u_T} {N : Nat} (he : M b = some (r, .inr (ci, fs))) (hc : vwCl[ci]? = some (y.cls, T, N)) (hn : As.length = n) (hsz : ls.size = nL) (hst : st0 = As.reverse ++ .ref b :: rest) (hw : (rest.map fun v => v.category).sum ≤ 8) (hdg : decode cc pc = .ok (.invokevirtual index, 3))
    (hR : (rm.frames + 1 ≤ R.frames ∧ 8 + (maxL + 11) + rm.locals ≤ R.locals) ∧ cells + rm.cells ≤ R.cells ∧ slots + rm.slots ≤ R.slots) (h0 : rm.cells = 0 ∧ rm.slots = 0)
    (kk : ∀ (H1 : Heap) (locs1 : List Loc), mw_S G M1 s.heap H1 locs1 → W p l e R s m args below meth c H1 locs1 cells slots Q (F0 m (pc + 3) ls (v0 :: rest))) : W p l e R s m args below meth c H locs cells slots Q (F0 m pc ls st0) := by
  refine mw_V F hC hB hI hs hl hM he hc hn hsz hst hw hdg hR (fun v M' H1 locs1 hp hM1 => ?_)
  obtain ⟨hv, hq⟩ := hp
  rw [h0.1, h0.2, hv]
  rw [hq] at hM1
  exact kk H1 locs1 hM1
theorem mw_Zp {v0 : Value} {M1 : mw_M} (F : mw_F p m meth c cc nL s args own G) (hC : mw_C l G y bytes maxL ret rm M As (mp_ (some v0) M1)) (hB : mw_B y bytes maxL ret n) (hI : Cond.static y ∈ mw_tb) (hl : Cond.methodLink own index y ∈ mw_tb) (hM : mw_S G M s.heap H locs) (hn : As.length = n) (hsz : ls.size = nL) (hst : st0 = As.reverse ++ rest) (hw : (rest.map fun v => v.category).sum ≤ 8) (hdg : decode cc pc = .ok (.invokestatic index, 3))
    (hR : (rm.frames + 1 ≤ R.frames ∧ 8 + (maxL + 11) + rm.locals ≤ R.locals) ∧ cells + rm.cells ≤ R.cells ∧ slots + rm.slots ≤ R.slots) (h0 : rm.cells = 0 ∧ rm.slots = 0)
    (kk : ∀ (H1 : Heap) (locs1 : List Loc), mw_S G M1 s.heap H1 locs1 → W p l e R s m args below meth c H1 locs1 cells slots Q (F0 m (pc + 3) ls (v0 :: rest))) : W p l e R s m args below meth c H locs cells slots Q (F0 m pc ls st0) := by
  refine mw_Z F hC hB hI hl hM hn hsz hst hw hdg hR (fun v M' H1 locs1 hp hM1 => ?_)
  obtain ⟨hv, hq⟩ := hp
  rw [h0.1, h0.2, hv]
  rw [hq] at hM1
  exact kk H1 locs1 hM1
theorem mw_Ip {M1 : mw_M} (F : mw_F p m meth c cc nL s args own G) (hC : mw_C l G y bytes maxL none rm M (.ref b :: As) (mp_ none M1)) (hB : mw_B y bytes maxL none n) (hy1 : y.name = "<init>") (hI : Cond.instanceMethod y ∈ mw_tb) (hl : Cond.methodLink own index y ∈ mw_tb) (hM : mw_S G M s.heap H locs) (hn : As.length = n) (hsz : ls.size = nL) (hst : st0 = As.reverse ++ .ref b :: rest) (hw : (rest.map fun v => v.category).sum ≤ 8) (hdg : decode cc pc = .ok (.invokespecial index, 3))
    (hR : (rm.frames + 1 ≤ R.frames ∧ 8 + (maxL + 11) + rm.locals ≤ R.locals) ∧ cells + rm.cells ≤ R.cells ∧ slots + rm.slots ≤ R.slots) (h0 : rm.cells = 0 ∧ rm.slots = 0)
    (kk : ∀ (H1 : Heap) (locs1 : List Loc), mw_S G M1 s.heap H1 locs1 → W p l e R s m args below meth c H1 locs1 cells slots Q (F0 m (pc + 3) ls rest)) : W p l e R s m args below meth c H locs cells slots Q (F0 m pc ls st0) := by
  refine mw_I F hC hB hy1 hI hl hM hn hsz hst hw hdg hR (fun v M' H1 locs1 hp hM1 => ?_)
  obtain ⟨hv, hq⟩ := hp
  rw [h0.1, h0.2, hv]
  rw [hq] at hM1
  exact kk H1 locs1 hM1
theorem mw_Wp {M1 : mw_M} (F : mw_F p m meth c cc nL s args own G) (hC : mw_C l G y bytes maxL ret rm M (.ref b :: As) (mp_ none M1)) (hB : mw_B y bytes maxL ret n) (hI : Cond.instanceMethod y ∈ mw_tb) (hs : Cond.selects y.cls y y ∈ mw_tb) (hl : Cond.methodLink own index y ∈ mw_tb) (hM : mw_S G M s.heap H locs) {ci : Nat} {fs : List Value} {T : u_T} {N : Nat} (he : M b = some (r, .inr (ci, fs))) (hc : vwCl[ci]? = some (y.cls, T, N)) (hn : As.length = n) (hsz : ls.size = nL) (hst : st0 = As.reverse ++ .ref b :: rest) (hw : (rest.map fun v => v.category).sum ≤ 8) (hdg : decode cc pc = .ok (.invokevirtual index, 3))
    (hR : (rm.frames + 1 ≤ R.frames ∧ 8 + (maxL + 11) + rm.locals ≤ R.locals) ∧ cells + rm.cells ≤ R.cells ∧ slots + rm.slots ≤ R.slots) (h0 : rm.cells = 0 ∧ rm.slots = 0)
    (kk : ∀ (H1 : Heap) (locs1 : List Loc), mw_S G M1 s.heap H1 locs1 → W p l e R s m args below meth c H1 locs1 cells slots Q (F0 m (pc + 3) ls rest)) : W p l e R s m args below meth c H locs cells slots Q (F0 m pc ls st0) := by
  refine mw_V F hC hB hI hs hl hM he hc hn hsz hst hw hdg hR (fun v M' H1 locs1 hp hM1 => ?_)
  obtain ⟨hv, hq⟩ := hp
  rw [h0.1, h0.2, hv]
  rw [hq] at hM1
  exact kk H1 locs1 hM1
theorem mw_Vl {v0 : Value} {ql : Nat} (F : mw_F p m meth c cc nL s args own G) (hC : mw_C l G y bytes maxL ret rm M (.ref b :: As) (pl_ G ql (some v0) M)) (hB : mw_B y bytes maxL ret n) (hI : Cond.instanceMethod y ∈ mw_tb) (hs : Cond.selects y.cls y y ∈ mw_tb) (hl : Cond.methodLink own index y ∈ mw_tb) (hM : mw_S G M s.heap H locs) {ci : Nat} {fs : List Value} {T : u_T} {N : Nat} (he : M b = some (r, .inr (ci, fs))) (hc : vwCl[ci]? = some (y.cls, T, N)) (hn : As.length = n) (hsz : ls.size = nL) (hst : st0 = As.reverse ++ .ref b :: rest) (hw : (rest.map fun v => v.category).sum ≤ 8) (hdg : decode cc pc = .ok (.invokevirtual index, 3))
    (hR : (rm.frames + 1 ≤ R.frames ∧ 8 + (maxL + 11) + rm.locals ≤ R.locals) ∧ cells + rm.cells ≤ R.cells ∧ slots + rm.slots ≤ R.slots) (h0 : rm.cells = 0 ∧ rm.slots = 0)
    (kk : ∀ (lp' : Nat → Int32) (H1 : Heap) (locs1 : List Loc), mw_S G (mw_up M ql ((3, 0), aI_ G 40 lp')) s.heap H1 locs1 → W p l e R s m args below meth c H1 locs1 cells slots Q (F0 m (pc + 3) ls (v0 :: rest))) : W p l e R s m args below meth c H locs cells slots Q (F0 m pc ls st0) := by
  refine mw_V F hC hB hI hs hl hM he hc hn hsz hst hw hdg hR (fun v M' H1 locs1 hp hM1 => ?_)
  obtain ⟨hv, lp', hq⟩ := hp
  rw [h0.1, h0.2, hv]
  rw [hq] at hM1
  exact kk lp' H1 locs1 hM1
theorem mw_Vg {v0 : Value} {K : mw_M → Prop} (F : mw_F p m meth c cc nL s args own G) (hC : mw_C l G y bytes maxL ret rm M (.ref b :: As) (fun v M' => v = some v0 ∧ K M')) (hB : mw_B y bytes maxL ret n) (hI : Cond.instanceMethod y ∈ mw_tb) (hs : Cond.selects y.cls y y ∈ mw_tb) (hl : Cond.methodLink own index y ∈ mw_tb) (hM : mw_S G M s.heap H locs) {ci : Nat} {fs : List Value} {T : u_T} {N : Nat} (he : M b = some (r, .inr (ci, fs))) (hc : vwCl[ci]? = some (y.cls, T, N)) (hn : As.length = n) (hsz : ls.size = nL) (hst : st0 = As.reverse ++ .ref b :: rest) (hw : (rest.map fun v => v.category).sum ≤ 8) (hdg : decode cc pc = .ok (.invokevirtual index, 3))
    (hR : (rm.frames + 1 ≤ R.frames ∧ 8 + (maxL + 11) + rm.locals ≤ R.locals) ∧ cells + rm.cells ≤ R.cells ∧ slots + rm.slots ≤ R.slots)
    (kk : ∀ (M' : mw_M) (H1 : Heap) (locs1 : List Loc), K M' → mw_S G M' s.heap H1 locs1 → W p l e R s m args below meth c H1 locs1 (cells + rm.cells) (slots + rm.slots) Q (F0 m (pc + 3) ls (v0 :: rest))) : W p l e R s m args below meth c H locs cells slots Q (F0 m pc ls st0) := by
  refine mw_V F hC hB hI hs hl hM he hc hn hsz hst hw hdg hR (fun v M' H1 locs1 hp hM1 => ?_)
  obtain ⟨hv, hq⟩ := hp
  rw [hv]
  exact kk M' H1 locs1 hq hM1
theorem mw_Wg {K : mw_M → Prop} (F : mw_F p m meth c cc nL s args own G) (hC : mw_C l G y bytes maxL ret rm M (.ref b :: As) (fun v M' => v = none ∧ K M')) (hB : mw_B y bytes maxL ret n) (hI : Cond.instanceMethod y ∈ mw_tb) (hs : Cond.selects y.cls y y ∈ mw_tb) (hl : Cond.methodLink own index y ∈ mw_tb) (hM : mw_S G M s.heap H locs) {ci : Nat} {fs : List Value} {T : u_T} {N : Nat} (he : M b = some (r, .inr (ci, fs))) (hc : vwCl[ci]? = some (y.cls, T, N)) (hn : As.length = n) (hsz : ls.size = nL) (hst : st0 = As.reverse ++ .ref b :: rest) (hw : (rest.map fun v => v.category).sum ≤ 8) (hdg : decode cc pc = .ok (.invokevirtual index, 3))
    (hR : (rm.frames + 1 ≤ R.frames ∧ 8 + (maxL + 11) + rm.locals ≤ R.locals) ∧ cells + rm.cells ≤ R.cells ∧ slots + rm.slots ≤ R.slots)
    (kk : ∀ (M' : mw_M) (H1 : Heap) (locs1 : List Loc), K M' → mw_S G M' s.heap H1 locs1 → W p l e R s m args below meth c H1 locs1 (cells + rm.cells) (slots + rm.slots) Q (F0 m (pc + 3) ls rest)) : W p l e R s m args below meth c H locs cells slots Q (F0 m pc ls st0) := by
  refine mw_V F hC hB hI hs hl hM he hc hn hsz hst hw hdg hR (fun v M' H1 locs1 hp hM1 => ?_)
  obtain ⟨hv, hq⟩ := hp
  rw [hv]
  exact kk M' H1 locs1 hq hM1
theorem mw_Ig {K : mw_M → Prop} (F : mw_F p m meth c cc nL s args own G) (hC : mw_C l G y bytes maxL none rm M (.ref b :: As) (fun v M' => v = none ∧ K M')) (hB : mw_B y bytes maxL none n) (hy1 : y.name = "<init>") (hI : Cond.instanceMethod y ∈ mw_tb) (hl : Cond.methodLink own index y ∈ mw_tb) (hM : mw_S G M s.heap H locs) (hn : As.length = n) (hsz : ls.size = nL) (hst : st0 = As.reverse ++ .ref b :: rest) (hw : (rest.map fun v => v.category).sum ≤ 8) (hdg : decode cc pc = .ok (.invokespecial index, 3))
    (hR : (rm.frames + 1 ≤ R.frames ∧ 8 + (maxL + 11) + rm.locals ≤ R.locals) ∧ cells + rm.cells ≤ R.cells ∧ slots + rm.slots ≤ R.slots)
    (kk : ∀ (M' : mw_M) (H1 : Heap) (locs1 : List Loc), K M' → mw_S G M' s.heap H1 locs1 → W p l e R s m args below meth c H1 locs1 (cells + rm.cells) (slots + rm.slots) Q (F0 m (pc + 3) ls rest)) : W p l e R s m args below meth c H locs cells slots Q (F0 m pc ls st0) := by
  refine mw_I F hC hB hy1 hI hl hM hn hsz hst hw hdg hR (fun v M' H1 locs1 hp hM1 => ?_)
  obtain ⟨hv, hq⟩ := hp
  rw [hv]
  exact kk M' H1 locs1 hq hM1
theorem mw_oi (F : mw_F p m meth c cc nL s args own G) (hl : Cond.methodLink own index objectInit ∈ mw_tb) (hsz : ls.size = nL) (hdg : decode cc pc = .ok (.invokespecial index, 3)) (hR : 1 ≤ R.frames ∧ 2 * (F0 m pc ls [Value.ref a]).monitorRoom + (([] : List Value).map fun v => v.category).sum + 12 ≤ R.locals)
    (kk : W p l e R s m args below meth c H locs cells slots Q (F0 m (pc + 3) ls [])) : W p l e R s m args below meth c H locs cells slots Q (F0 m pc ls [.ref a]) := by
  obtain ⟨hx, hb, hml, hown, hts, -⟩ := F
  exact W.objInit hx hb hown (hts _ hl) (hts _ ki_obj) (hts _ kb_obj) rfl (by rw [hml]; exact hsz) rfl hdg hR.1 hR.2 kk
theorem mw_nai (F : mw_F p m meth c cc nL s args own G) (r : Nat × Nat) (harr : Cond.arrayClass .int ∈ mw_tb) {n : Int32} {N : Nat} (hn : ¬ n < 0) (hN : n.toNatClampNeg = N) (hby : N * componentBytes .int ≤ 536870912) (hM : mw_S G M s.heap H locs) (hcs : cells + 1 ≤ R.cells ∧ slots + N ≤ R.slots) (hdg : decode cc pc = .ok (.newarray .int, 2))
    (kk : ∀ (q : Nat) (H1 : Heap), M q = none → mw_S G (mw_up M q (r, aI_ G N (fun _ => 0))) s.heap H1 locs → W p l e R s m args below meth c H1 locs (cells + 1) (slots + N) Q (F0 m (pc + 2) ls (.ref q :: rest))) : W p l e R s m args below meth c H locs cells slots Q (F0 m pc ls (.int n :: rest)) := by
  obtain ⟨hx, hb, -, hown, hts, ⟨hK, hAO⟩, -⟩ := F
  obtain ⟨hz, ⟨-, ws, hP, hD, hm⟩, hS⟩ := hM
  refine va_newa (atype := .int) (ty := .int) (a0 := (N, .inl (fun _ => 0))) hx hb (hts _ harr) rfl hK hP hD hS (fun q h => Nat.le_trans hz h) (fun _ => rfl) hn hN hby hcs.1 hcs.2 hdg (fun q cA H1 hK1 hP1 hD1 hS1 => ?_)
  have e1 : s.vm.findClass ("[" ++ FieldType.int.toString) = some cA := (hK1.2 4 (cA, .int) rfl).2
  have e2 : s.vm.findClass ("[" ++ FieldType.int.toString) = some G.2.2.1 := (hK.2 0 (G.2.2.1, .int) rfl).2
  obtain rfl : cA = G.2.2.1 := Option.some.inj (e1.symm.trans e2)
  obtain ⟨h1, h2⟩ := mw_mnew (r0 := r) hm hD1
  exact kk q H1 h1 ⟨hz, ⟨Nat.le_trans hz hS1.1, _, hP1, hD1, h2⟩, hS1⟩
theorem mw_naz (F : mw_F p m meth c cc nL s args own G) (r : Nat × Nat) (harr : Cond.arrayClass .boolean ∈ mw_tb) {n : Int32} {N : Nat} (hn : ¬ n < 0) (hN : n.toNatClampNeg = N) (hby : N * componentBytes .boolean ≤ 536870912) (hM : mw_S G M s.heap H locs) (hcs : cells + 1 ≤ R.cells ∧ slots + N ≤ R.slots) (hdg : decode cc pc = .ok (.newarray .boolean, 2))
    (kk : ∀ (q : Nat) (H1 : Heap), M q = none → mw_S G (mw_up M q (r, aZ_ G N (fun _ => 0))) s.heap H1 locs → W p l e R s m args below meth c H1 locs (cells + 1) (slots + N) Q (F0 m (pc + 2) ls (.ref q :: rest))) : W p l e R s m args below meth c H locs cells slots Q (F0 m pc ls (.int n :: rest)) := by
  obtain ⟨hx, hb, -, hown, hts, ⟨hK, hAO⟩, -⟩ := F
  obtain ⟨hz, ⟨-, ws, hP, hD, hm⟩, hS⟩ := hM
  refine va_newa (atype := .boolean) (ty := .boolean) (a0 := (N, .inl (fun _ => 0))) hx hb (hts _ harr) rfl hK hP hD hS (fun q h => Nat.le_trans hz h) (fun _ => rfl) hn hN hby hcs.1 hcs.2 hdg (fun q cA H1 hK1 hP1 hD1 hS1 => ?_)
  have e1 : s.vm.findClass ("[" ++ FieldType.boolean.toString) = some cA := (hK1.2 4 (cA, .boolean) rfl).2
  have e2 : s.vm.findClass ("[" ++ FieldType.boolean.toString) = some G.2.2.2.1 := (hK.2 1 (G.2.2.2.1, .boolean) rfl).2
  obtain rfl : cA = G.2.2.2.1 := Option.some.inj (e1.symm.trans e2)
  obtain ⟨h1, h2⟩ := mw_mnew (r0 := r) hm hD1
  exact kk q H1 h1 ⟨hz, ⟨Nat.le_trans hz hS1.1, _, hP1, hD1, h2⟩, hS1⟩
theorem mw_naq (F : mw_F p m meth c cc nL s args own G) (r : Nat × Nat) (t0 : Nat) {C : String} {cC : ClassId} (ht0 : t0 < 4) (ht : (mw_ty G)[t0]? = some (cC, .object C)) (hover : ∀ U : State, va_AO RC U ∧ va_AO RN U → va_AO C U) (hcl : Cond.classLink own index C ∈ mw_tb) {n : Int32} {N : Nat} (hn : ¬ n < 0) (hN : n.toNatClampNeg = N) (hby : N * 4 ≤ 536870912) (hM : mw_S G M s.heap H locs) (hcs : cells + 1 ≤ R.cells ∧ slots + N ≤ R.slots) (hdg : decode cc pc = .ok (.anewarray index, 3))
    (kk : ∀ (q : Nat) (H1 : Heap), M q = none → mw_S G (mw_up M q (r, .inl (cC, N, .inr (.inr (.inr (.inr (fun _ => none))))))) s.heap H1 locs → W p l e R s m args below meth c H1 locs (cells + 1) (slots + N) Q (F0 m (pc + 3) ls (.ref q :: rest))) : W p l e R s m args below meth c H locs cells slots Q (F0 m pc ls (.int n :: rest)) := by
  obtain ⟨hx, hb, -, hown, hts, ⟨hK, hAO⟩, -⟩ := F
  obtain ⟨hz, ⟨-, ws, hP, hD, hm⟩, hS⟩ := hM
  refine va_newq hx hb hown (hts _ hcl) (hover s hAO) hK hP hD hS (fun q h => Nat.le_trans hz h) hn hN hby hcs.1 hcs.2 hdg (fun q cA H1 hK1 hP1 hD1 hS1 => ?_)
  obtain ⟨kA, comp, -, -, -, e1⟩ := (hK1.2 4 (cA, .object C) rfl).2
  obtain ⟨kB, comp2, -, -, -, e2⟩ := (hK.2 t0 (cC, .object C) ht).2
  obtain rfl : cA = cC := Option.some.inj (e1.symm.trans e2)
  obtain ⟨h1, h2⟩ := mw_mnew (r0 := r) hm hD1
  exact kk q H1 h1 ⟨hz, ⟨Nat.le_trans hz hS1.1, _, hP1, hD1, h2⟩, hS1⟩
theorem mw_of {av : List Value} (hy : plainName y.cls = true) (hlen : (lg_sl av).length ≤ maxL)
    (body : ∀ (p : Program) (e : Env) (s : State) (m : MethodId) (below : List Frame) (meth : Method) (c : Code), mw_F p m meth c bytes maxL s av.toArray y.cls G → meth.sig.returnType = ret → meth.name = y.name → mw_S G M s.heap s.heap [] → ∀ ls : Array Slot, lv_has ls maxL (lv_args 0 av) →
      W p l e rm s m av.toArray below meth c s.heap [] 0 0 (MQ below (mw_Q G P) av.toArray s rm.cells rm.slots (mw_A G)) (F0 m 0 ls [])) : mw_C l G y bytes maxL ret rm M av P := by
  refine Met.ofW (cc := bytes) (maxL := maxL) (ret := ret) hy rfl ?_
  intro p e s m args below meth c s₁ B hml hv
  obtain ⟨rfl, hH, hK⟩ := hv
  have hts := atoms_spec (ws := Cond.code y bytes maxL ret :: mw_tb) B.pre
  rw [lg_entry_eq]
  exact body p e s m below meth c ⟨B.exec, B.bytes, hml, findClass_of_methodNamed B.named, fun w h => hts w (List.mem_cons_of_mem _ h), hK, B.notSynchronized⟩ B.returns (name_of_methodNamed B.named B.method).1 ⟨hH.1, hH, va_S.rf⟩ _ (lv_entry av hlen)
theorem mr_i {mc ms : Nat} {v : Int32} (F : mw_F p m meth c cc nL s args own G) (hr : meth.sig.returnType = some .int) (hM : mw_S G M s.heap H locs) (hP : P (some (.int v)) M) (hdg : decode cc pc = .ok (.ireturn, 1)) (hcs : cells ≤ mc ∧ slots ≤ ms) : W p l e R s m args below meth c H locs cells slots (MQ below (mw_Q G P) args s mc ms (mw_A G)) (F0 m pc ls [.int v]) := by
  refine W.widen hcs.1 hcs.2 ?_
  obtain ⟨hx, hb, -, -, -, -, hlk⟩ := F
  obtain ⟨-, hH, hS⟩ := hM
  exact W.iret hx hb hr (fun t ht hW => ⟨⟨_, M, rfl, hP, by rw [ht]; exact hH⟩, hS.F ht⟩) hS.2.2 hdg hlk
theorem mr_z {mc ms : Nat} {v : Bool} (F : mw_F p m meth c cc nL s args own G) (hr : meth.sig.returnType = some .boolean) (hM : mw_S G M s.heap H locs) (hP : P (some (.int (mb_i v))) M) (hdg : decode cc pc = .ok (.ireturn, 1)) (hcs : cells ≤ mc ∧ slots ≤ ms) : W p l e R s m args below meth c H locs cells slots (MQ below (mw_Q G P) args s mc ms (mw_A G)) (F0 m pc ls [.int (mb_i v)]) := by
  refine W.widen hcs.1 hcs.2 ?_
  obtain ⟨hx, hb, -, -, -, -, hlk⟩ := F
  obtain ⟨-, hH, hS⟩ := hM
  exact W.zret hx hb hr (mb_narrow v) (fun t ht hW => ⟨⟨_, M, rfl, hP, by rw [ht]; exact hH⟩, hS.F ht⟩) hS.2.2 hdg hlk
theorem mr_a {mc ms : Nat} {o : Option Nat} {nm : String} (F : mw_F p m meth c cc nL s args own G) (hr : meth.sig.returnType = some (.object nm)) (hM : mw_S G M s.heap H locs) (hP : P (some (va_rf o)) M) (hdg : decode cc pc = .ok (.areturn, 1)) (hcs : cells ≤ mc ∧ slots ≤ ms) : W p l e R s m args below meth c H locs cells slots (MQ below (mw_Q G P) args s mc ms (mw_A G)) (F0 m pc ls [va_rf o]) := by
  refine W.widen hcs.1 hcs.2 ?_
  obtain ⟨hx, hb, -, -, -, -, hlk⟩ := F
  obtain ⟨-, hH, hS⟩ := hM
  exact W.aret hx hb hr (Or.inl ⟨_, rfl⟩) (va_rf_or o) (fun t ht hW => ⟨⟨_, M, rfl, hP, by rw [ht]; exact hH⟩, hS.F ht⟩) hS.2.2 hdg hlk
theorem mr_v {mc ms : Nat} (F : mw_F p m meth c cc nL s args own G) (hr : meth.sig.returnType = none) (hM : mw_S G M s.heap H locs) (hP : P none M) (hdg : decode cc pc = .ok (.return_, 1)) (hcs : cells ≤ mc ∧ slots ≤ ms) : W p l e R s m args below meth c H locs cells slots (MQ below (mw_Q G P) args s mc ms (mw_A G)) (F0 m pc ls []) := by
  refine W.widen hcs.1 hcs.2 ?_
  obtain ⟨hx, hb, -, -, -, -, hlk⟩ := F
  obtain ⟨-, hH, hS⟩ := hM
  exact W.vret hx hb hr (fun t ht hW => ⟨⟨_, M, rfl, hP, by rw [ht]; exact hH⟩, hS.F ht⟩) hS.2.2 hdg hlk
end MW
