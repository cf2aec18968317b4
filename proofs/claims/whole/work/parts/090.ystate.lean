abbrev yo_e (q : Nat → Nat) (nc nm rf lk : Int32) : va_E := .inr (ciY, [.ref (q 0), .ref (q 1), .int nc, .ref (q 2), .ref (q 3), .ref (q 4), .ref (q 5), .ref (q 6), .ref (q 7), .ref (q 8), .int nm, .int rf, .ref (q 9), .int lk, .ref (q 10)])
def yr_ (G : mw_G) (M : mw_M) (y : Nat) (q : Nat → Nat) (nc nm rf : Int32) (f : Nat → Nat → Int32) (ch : Nat → Int32) (lk : Int32) (ov : Nat → Int32) : Prop :=
  M y = some ((10, 0), yo_e q nc nm rf lk) ∧
  M (q 0) = some ((11, 0), aI_ G 40 (f 0)) ∧
  M (q 1) = some ((12, 0), aI_ G 40 (f 1)) ∧
  M (q 2) = some ((13, 0), aI_ G 200 (f 2)) ∧
  M (q 3) = some ((14, 0), aI_ G 200 (f 3)) ∧
  M (q 4) = some ((15, 0), aI_ G 200 (f 4)) ∧
  M (q 5) = some ((16, 0), aI_ G 200 (f 5)) ∧
  M (q 6) = some ((17, 0), aI_ G 200 (f 6)) ∧
  M (q 7) = some ((18, 0), aZ_ G 200 (f 7)) ∧
  M (q 8) = some ((19, 0), aZ_ G 200 (f 8)) ∧
  M (q 9) = some ((20, 0), aI_ G 41 ch) ∧
  M (q 10) = some ((21, 0), aZ_ G 1681 ov)
def yc_ (σ : sg_T) (f : Nat → Nat → Int32) : Prop := (∀ i, i < sg_nc σ → f 0 i = eo_i (sg_pr σ i) ∧ f 1 i = sg_pk σ i) ∧ ∀ m, m < sg_nm σ → f 2 m = nI (sg_mc σ m) ∧ f 3 m = sg_mn σ m ∧ f 4 m = sg_rg σ m ∧ f 5 m = sg_kd σ m ∧ f 6 m = sg_ty σ m ∧ f 7 m = mb_i (sg_fx σ m) ∧ f 8 m = mb_i (sg_fn σ m)
def yw_ (G : mw_G) (M : mw_M) (y : Nat) (q : Nat → Nat) (σ : sg_T) (rf : Int32) (f : Nat → Nat → Int32) (ch : Nat → Int32) (lk : Int32) (ov : Nat → Int32) : Prop := sg_W σ ∧ yc_ σ f ∧ yr_ G M y q (nI (sg_nc σ)) (nI (sg_nm σ)) rf f ch lk ov
section YR
variable {G : mw_G} {M : mw_M} {y : Nat} {q : Nat → Nat} {nc nm rf : Int32} {f : Nat → Nat → Int32} {ch : Nat → Int32} {lk : Int32} {ov : Nat → Int32}
theorem yr_y (h : yr_ G M y q nc nm rf f ch lk ov) : M y = some ((10, 0), yo_e q nc nm rf lk) := h.1
theorem yr_0 (h : yr_ G M y q nc nm rf f ch lk ov) : M (q 0) = some ((11, 0), aI_ G 40 (f 0)) := h.2.1
theorem yr_1 (h : yr_ G M y q nc nm rf f ch lk ov) : M (q 1) = some ((12, 0), aI_ G 40 (f 1)) := h.2.2.1
theorem yr_2 (h : yr_ G M y q nc nm rf f ch lk ov) : M (q 2) = some ((13, 0), aI_ G 200 (f 2)) := h.2.2.2.1
theorem yr_3 (h : yr_ G M y q nc nm rf f ch lk ov) : M (q 3) = some ((14, 0), aI_ G 200 (f 3)) := h.2.2.2.2.1
theorem yr_4 (h : yr_ G M y q nc nm rf f ch lk ov) : M (q 4) = some ((15, 0), aI_ G 200 (f 4)) := h.2.2.2.2.2.1
theorem yr_5 (h : yr_ G M y q nc nm rf f ch lk ov) : M (q 5) = some ((16, 0), aI_ G 200 (f 5)) := h.2.2.2.2.2.2.1
theorem yr_6 (h : yr_ G M y q nc nm rf f ch lk ov) : M (q 6) = some ((17, 0), aI_ G 200 (f 6)) := h.2.2.2.2.2.2.2.1
theorem yr_7 (h : yr_ G M y q nc nm rf f ch lk ov) : M (q 7) = some ((18, 0), aZ_ G 200 (f 7)) := h.2.2.2.2.2.2.2.2.1
theorem yr_8 (h : yr_ G M y q nc nm rf f ch lk ov) : M (q 8) = some ((19, 0), aZ_ G 200 (f 8)) := h.2.2.2.2.2.2.2.2.2.1
theorem yr_9 (h : yr_ G M y q nc nm rf f ch lk ov) : M (q 9) = some ((20, 0), aI_ G 41 ch) := h.2.2.2.2.2.2.2.2.2.2.1
theorem yr_10 (h : yr_ G M y q nc nm rf f ch lk ov) : M (q 10) = some ((21, 0), aZ_ G 1681 ov) := h.2.2.2.2.2.2.2.2.2.2.2
theorem yr_sy (h : yr_ G M y q nc nm rf f ch lk ov) (nc' nm' rf' lk' : Int32) : yr_ G (mw_up M y ((10, 0), yo_e q nc' nm' rf' lk')) y q nc' nm' rf' f ch lk' ov := by
  have zy := yr_y h
  have z0 := yr_0 h
  have z1 := yr_1 h
  have z2 := yr_2 h
  have z3 := yr_3 h
  have z4 := yr_4 h
  have z5 := yr_5 h
  have z6 := yr_6 h
  have z7 := yr_7 h
  have z8 := yr_8 h
  have z9 := yr_9 h
  have z10 := yr_10 h
  exact ⟨mw_at, mw_oth zy z0 (by decide), mw_oth zy z1 (by decide), mw_oth zy z2 (by decide), mw_oth zy z3 (by decide), mw_oth zy z4 (by decide), mw_oth zy z5 (by decide), mw_oth zy z6 (by decide), mw_oth zy z7 (by decide), mw_oth zy z8 (by decide), mw_oth zy z9 (by decide), mw_oth zy z10 (by decide)⟩
theorem yr_s0 (h : yr_ G M y q nc nm rf f ch lk ov) (g : Nat → Int32) : yr_ G (mw_up M (q 0) ((11, 0), aI_ G 40 g)) y q nc nm rf (va_up f 0 g) ch lk ov := by
  have zy := yr_y h
  have z0 := yr_0 h
  have z1 := yr_1 h
  have z2 := yr_2 h
  have z3 := yr_3 h
  have z4 := yr_4 h
  have z5 := yr_5 h
  have z6 := yr_6 h
  have z7 := yr_7 h
  have z8 := yr_8 h
  have z9 := yr_9 h
  have z10 := yr_10 h
  exact ⟨mw_oth z0 zy (by decide), mw_at, mw_oth z0 z1 (by decide), mw_oth z0 z2 (by decide), mw_oth z0 z3 (by decide), mw_oth z0 z4 (by decide), mw_oth z0 z5 (by decide), mw_oth z0 z6 (by decide), mw_oth z0 z7 (by decide), mw_oth z0 z8 (by decide), mw_oth z0 z9 (by decide), mw_oth z0 z10 (by decide)⟩
theorem yr_s1 (h : yr_ G M y q nc nm rf f ch lk ov) (g : Nat → Int32) : yr_ G (mw_up M (q 1) ((12, 0), aI_ G 40 g)) y q nc nm rf (va_up f 1 g) ch lk ov := by
  have zy := yr_y h
  have z0 := yr_0 h
  have z1 := yr_1 h
  have z2 := yr_2 h
  have z3 := yr_3 h
  have z4 := yr_4 h
  have z5 := yr_5 h
  have z6 := yr_6 h
  have z7 := yr_7 h
  have z8 := yr_8 h
  have z9 := yr_9 h
  have z10 := yr_10 h
  exact ⟨mw_oth z1 zy (by decide), mw_oth z1 z0 (by decide), mw_at, mw_oth z1 z2 (by decide), mw_oth z1 z3 (by decide), mw_oth z1 z4 (by decide), mw_oth z1 z5 (by decide), mw_oth z1 z6 (by decide), mw_oth z1 z7 (by decide), mw_oth z1 z8 (by decide), mw_oth z1 z9 (by decide), mw_oth z1 z10 (by decide)⟩
theorem yr_s2 (h : yr_ G M y q nc nm rf f ch lk ov) (g : Nat → Int32) : yr_ G (mw_up M (q 2) ((13, 0), aI_ G 200 g)) y q nc nm rf (va_up f 2 g) ch lk ov := by
  have zy := yr_y h
  have z0 := yr_0 h
  have z1 := yr_1 h
  have z2 := yr_2 h
  have z3 := yr_3 h
  have z4 := yr_4 h
  have z5 := yr_5 h
  have z6 := yr_6 h
  have z7 := yr_7 h
  have z8 := yr_8 h
  have z9 := yr_9 h
  have z10 := yr_10 h
  exact ⟨mw_oth z2 zy (by decide), mw_oth z2 z0 (by decide), mw_oth z2 z1 (by decide), mw_at, mw_oth z2 z3 (by decide), mw_oth z2 z4 (by decide), mw_oth z2 z5 (by decide), mw_oth z2 z6 (by decide), mw_oth z2 z7 (by decide), mw_oth z2 z8 (by decide), mw_oth z2 z9 (by decide), mw_oth z2 z10 (by decide)⟩
theorem yr_s3 (h : yr_ G M y q nc nm rf f ch lk ov) (g : Nat → Int32) : yr_ G (mw_up M (q 3) ((14, 0), aI_ G 200 g)) y q nc nm rf (va_up f 3 g) ch lk ov := by
  have zy := yr_y h
  have z0 := yr_0 h
  have z1 := yr_1 h
  have z2 := yr_2 h
  have z3 := yr_3 h
  have z4 := yr_4 h
  have z5 := yr_5 h
  have z6 := yr_6 h
  have z7 := yr_7 h
  have z8 := yr_8 h
  have z9 := yr_9 h
  have z10 := yr_10 h
  exact ⟨mw_oth z3 zy (by decide), mw_oth z3 z0 (by decide), mw_oth z3 z1 (by decide), mw_oth z3 z2 (by decide), mw_at, mw_oth z3 z4 (by decide), mw_oth z3 z5 (by decide), mw_oth z3 z6 (by decide), mw_oth z3 z7 (by decide), mw_oth z3 z8 (by decide), mw_oth z3 z9 (by decide), mw_oth z3 z10 (by decide)⟩
theorem yr_s4 (h : yr_ G M y q nc nm rf f ch lk ov) (g : Nat → Int32) : yr_ G (mw_up M (q 4) ((15, 0), aI_ G 200 g)) y q nc nm rf (va_up f 4 g) ch lk ov := by
  have zy := yr_y h
  have z0 := yr_0 h
  have z1 := yr_1 h
  have z2 := yr_2 h
  have z3 := yr_3 h
  have z4 := yr_4 h
  have z5 := yr_5 h
  have z6 := yr_6 h
  have z7 := yr_7 h
  have z8 := yr_8 h
  have z9 := yr_9 h
  have z10 := yr_10 h
  exact ⟨mw_oth z4 zy (by decide), mw_oth z4 z0 (by decide), mw_oth z4 z1 (by decide), mw_oth z4 z2 (by decide), mw_oth z4 z3 (by decide), mw_at, mw_oth z4 z5 (by decide), mw_oth z4 z6 (by decide), mw_oth z4 z7 (by decide), mw_oth z4 z8 (by decide), mw_oth z4 z9 (by decide), mw_oth z4 z10 (by decide)⟩
theorem yr_s5 (h : yr_ G M y q nc nm rf f ch lk ov) (g : Nat → Int32) : yr_ G (mw_up M (q 5) ((16, 0), aI_ G 200 g)) y q nc nm rf (va_up f 5 g) ch lk ov := by
  have zy := yr_y h
  have z0 := yr_0 h
  have z1 := yr_1 h
  have z2 := yr_2 h
  have z3 := yr_3 h
  have z4 := yr_4 h
  have z5 := yr_5 h
  have z6 := yr_6 h
  have z7 := yr_7 h
  have z8 := yr_8 h
  have z9 := yr_9 h
  have z10 := yr_10 h
  exact ⟨mw_oth z5 zy (by decide), mw_oth z5 z0 (by decide), mw_oth z5 z1 (by decide), mw_oth z5 z2 (by decide), mw_oth z5 z3 (by decide), mw_oth z5 z4 (by decide), mw_at, mw_oth z5 z6 (by decide), mw_oth z5 z7 (by decide), mw_oth z5 z8 (by decide), mw_oth z5 z9 (by decide), mw_oth z5 z10 (by decide)⟩
theorem yr_s6 (h : yr_ G M y q nc nm rf f ch lk ov) (g : Nat → Int32) : yr_ G (mw_up M (q 6) ((17, 0), aI_ G 200 g)) y q nc nm rf (va_up f 6 g) ch lk ov := by
  have zy := yr_y h
  have z0 := yr_0 h
  have z1 := yr_1 h
  have z2 := yr_2 h
  have z3 := yr_3 h
  have z4 := yr_4 h
  have z5 := yr_5 h
  have z6 := yr_6 h
  have z7 := yr_7 h
  have z8 := yr_8 h
  have z9 := yr_9 h
  have z10 := yr_10 h
  exact ⟨mw_oth z6 zy (by decide), mw_oth z6 z0 (by decide), mw_oth z6 z1 (by decide), mw_oth z6 z2 (by decide), mw_oth z6 z3 (by decide), mw_oth z6 z4 (by decide), mw_oth z6 z5 (by decide), mw_at, mw_oth z6 z7 (by decide), mw_oth z6 z8 (by decide), mw_oth z6 z9 (by decide), mw_oth z6 z10 (by decide)⟩
theorem yr_s7 (h : yr_ G M y q nc nm rf f ch lk ov) (g : Nat → Int32) : yr_ G (mw_up M (q 7) ((18, 0), aZ_ G 200 g)) y q nc nm rf (va_up f 7 g) ch lk ov := by
  have zy := yr_y h
  have z0 := yr_0 h
  have z1 := yr_1 h
  have z2 := yr_2 h
  have z3 := yr_3 h
  have z4 := yr_4 h
  have z5 := yr_5 h
  have z6 := yr_6 h
  have z7 := yr_7 h
  have z8 := yr_8 h
  have z9 := yr_9 h
  have z10 := yr_10 h
  exact ⟨mw_oth z7 zy (by decide), mw_oth z7 z0 (by decide), mw_oth z7 z1 (by decide), mw_oth z7 z2 (by decide), mw_oth z7 z3 (by decide), mw_oth z7 z4 (by decide), mw_oth z7 z5 (by decide), mw_oth z7 z6 (by decide), mw_at, mw_oth z7 z8 (by decide), mw_oth z7 z9 (by decide), mw_oth z7 z10 (by decide)⟩
theorem yr_s8 (h : yr_ G M y q nc nm rf f ch lk ov) (g : Nat → Int32) : yr_ G (mw_up M (q 8) ((19, 0), aZ_ G 200 g)) y q nc nm rf (va_up f 8 g) ch lk ov := by
  have zy := yr_y h
  have z0 := yr_0 h
  have z1 := yr_1 h
  have z2 := yr_2 h
  have z3 := yr_3 h
  have z4 := yr_4 h
  have z5 := yr_5 h
  have z6 := yr_6 h
  have z7 := yr_7 h
  have z8 := yr_8 h
  have z9 := yr_9 h
  have z10 := yr_10 h
  exact ⟨mw_oth z8 zy (by decide), mw_oth z8 z0 (by decide), mw_oth z8 z1 (by decide), mw_oth z8 z2 (by decide), mw_oth z8 z3 (by decide), mw_oth z8 z4 (by decide), mw_oth z8 z5 (by decide), mw_oth z8 z6 (by decide), mw_oth z8 z7 (by decide), mw_at, mw_oth z8 z9 (by decide), mw_oth z8 z10 (by decide)⟩
theorem yr_s9 (h : yr_ G M y q nc nm rf f ch lk ov) (g : Nat → Int32) : yr_ G (mw_up M (q 9) ((20, 0), aI_ G 41 g)) y q nc nm rf f g lk ov := by
  have zy := yr_y h
  have z0 := yr_0 h
  have z1 := yr_1 h
  have z2 := yr_2 h
  have z3 := yr_3 h
  have z4 := yr_4 h
  have z5 := yr_5 h
  have z6 := yr_6 h
  have z7 := yr_7 h
  have z8 := yr_8 h
  have z9 := yr_9 h
  have z10 := yr_10 h
  exact ⟨mw_oth z9 zy (by decide), mw_oth z9 z0 (by decide), mw_oth z9 z1 (by decide), mw_oth z9 z2 (by decide), mw_oth z9 z3 (by decide), mw_oth z9 z4 (by decide), mw_oth z9 z5 (by decide), mw_oth z9 z6 (by decide), mw_oth z9 z7 (by decide), mw_oth z9 z8 (by decide), mw_at, mw_oth z9 z10 (by decide)⟩
theorem yr_s10 (h : yr_ G M y q nc nm rf f ch lk ov) (g : Nat → Int32) : yr_ G (mw_up M (q 10) ((21, 0), aZ_ G 1681 g)) y q nc nm rf f ch lk g := by
  have zy := yr_y h
  have z0 := yr_0 h
  have z1 := yr_1 h
  have z2 := yr_2 h
  have z3 := yr_3 h
  have z4 := yr_4 h
  have z5 := yr_5 h
  have z6 := yr_6 h
  have z7 := yr_7 h
  have z8 := yr_8 h
  have z9 := yr_9 h
  have z10 := yr_10 h
  exact ⟨mw_oth z10 zy (by decide), mw_oth z10 z0 (by decide), mw_oth z10 z1 (by decide), mw_oth z10 z2 (by decide), mw_oth z10 z3 (by decide), mw_oth z10 z4 (by decide), mw_oth z10 z5 (by decide), mw_oth z10 z6 (by decide), mw_oth z10 z7 (by decide), mw_oth z10 z8 (by decide), mw_oth z10 z9 (by decide), mw_at⟩
theorem yr_kx {M' : mw_M} (h : yr_ G M y q nc nm rf f ch lk ov) (k : kx_ M M') : yr_ G M' y q nc nm rf f ch lk ov := ⟨k _ _ _ (yr_y h) (by decide), k _ _ _ (yr_0 h) (by decide), k _ _ _ (yr_1 h) (by decide), k _ _ _ (yr_2 h) (by decide), k _ _ _ (yr_3 h) (by decide), k _ _ _ (yr_4 h) (by decide), k _ _ _ (yr_5 h) (by decide), k _ _ _ (yr_6 h) (by decide), k _ _ _ (yr_7 h) (by decide), k _ _ _ (yr_8 h) (by decide), k _ _ _ (yr_9 h) (by decide), k _ _ _ (yr_10 h) (by decide)⟩
end YR
section YW
variable {G : mw_G} {M : mw_M} {y : Nat} {q : Nat → Nat} {σ : sg_T} {rf : Int32} {f : Nat → Nat → Int32} {ch : Nat → Int32} {lk : Int32} {ov : Nat → Int32}
theorem yw_nc (h : yw_ G M y q σ rf f ch lk ov) : sg_nc σ ≤ 40 := h.1.1
theorem yw_nm (h : yw_ G M y q σ rf f ch lk ov) : sg_nm σ ≤ 200 := h.1.2.1
theorem yw_pr (h : yw_ G M y q σ rf f ch lk ov) {c p : Nat} (hc : c < sg_nc σ) (hp : sg_pr σ c = some p) : p < c := h.1.2.2.1 c p hc hp
theorem yw_mc (h : yw_ G M y q σ rf f ch lk ov) {m : Nat} (hm : m < sg_nm σ) : sg_mc σ m < sg_nc σ := h.1.2.2.2.1 m hm
theorem yw_y (h : yw_ G M y q σ rf f ch lk ov) : M y = some ((10, 0), yo_e q (nI (sg_nc σ)) (nI (sg_nm σ)) rf lk) := yr_y h.2.2
theorem yw_0 (h : yw_ G M y q σ rf f ch lk ov) : M (q 0) = some ((11, 0), aI_ G 40 (f 0)) := yr_0 h.2.2
theorem yw_1 (h : yw_ G M y q σ rf f ch lk ov) : M (q 1) = some ((12, 0), aI_ G 40 (f 1)) := yr_1 h.2.2
theorem yw_2 (h : yw_ G M y q σ rf f ch lk ov) : M (q 2) = some ((13, 0), aI_ G 200 (f 2)) := yr_2 h.2.2
theorem yw_3 (h : yw_ G M y q σ rf f ch lk ov) : M (q 3) = some ((14, 0), aI_ G 200 (f 3)) := yr_3 h.2.2
theorem yw_4 (h : yw_ G M y q σ rf f ch lk ov) : M (q 4) = some ((15, 0), aI_ G 200 (f 4)) := yr_4 h.2.2
theorem yw_5 (h : yw_ G M y q σ rf f ch lk ov) : M (q 5) = some ((16, 0), aI_ G 200 (f 5)) := yr_5 h.2.2
theorem yw_6 (h : yw_ G M y q σ rf f ch lk ov) : M (q 6) = some ((17, 0), aI_ G 200 (f 6)) := yr_6 h.2.2
theorem yw_7 (h : yw_ G M y q σ rf f ch lk ov) : M (q 7) = some ((18, 0), aZ_ G 200 (f 7)) := yr_7 h.2.2
theorem yw_8 (h : yw_ G M y q σ rf f ch lk ov) : M (q 8) = some ((19, 0), aZ_ G 200 (f 8)) := yr_8 h.2.2
theorem yw_9 (h : yw_ G M y q σ rf f ch lk ov) : M (q 9) = some ((20, 0), aI_ G 41 ch) := yr_9 h.2.2
theorem yw_10 (h : yw_ G M y q σ rf f ch lk ov) : M (q 10) = some ((21, 0), aZ_ G 1681 ov) := yr_10 h.2.2
theorem yv_0 (h : yw_ G M y q σ rf f ch lk ov) {c : Nat} (hc : c < sg_nc σ) : f 0 c = eo_i (sg_pr σ c) := (h.2.1.1 c hc).1
theorem yv_1 (h : yw_ G M y q σ rf f ch lk ov) {c : Nat} (hc : c < sg_nc σ) : f 1 c = sg_pk σ c := (h.2.1.1 c hc).2
theorem yv_2 (h : yw_ G M y q σ rf f ch lk ov) {m : Nat} (hm : m < sg_nm σ) : f 2 m = nI (sg_mc σ m) := (h.2.1.2 m hm).1
theorem yv_3 (h : yw_ G M y q σ rf f ch lk ov) {m : Nat} (hm : m < sg_nm σ) : f 3 m = sg_mn σ m := (h.2.1.2 m hm).2.1
theorem yv_4 (h : yw_ G M y q σ rf f ch lk ov) {m : Nat} (hm : m < sg_nm σ) : f 4 m = sg_rg σ m := (h.2.1.2 m hm).2.2.1
theorem yv_5 (h : yw_ G M y q σ rf f ch lk ov) {m : Nat} (hm : m < sg_nm σ) : f 5 m = sg_kd σ m := (h.2.1.2 m hm).2.2.2.1
theorem yv_6 (h : yw_ G M y q σ rf f ch lk ov) {m : Nat} (hm : m < sg_nm σ) : f 6 m = sg_ty σ m := (h.2.1.2 m hm).2.2.2.2.1
theorem yv_7 (h : yw_ G M y q σ rf f ch lk ov) {m : Nat} (hm : m < sg_nm σ) : f 7 m = mb_i (sg_fx σ m) := (h.2.1.2 m hm).2.2.2.2.2.1
theorem yv_8 (h : yw_ G M y q σ rf f ch lk ov) {m : Nat} (hm : m < sg_nm σ) : f 8 m = mb_i (sg_fn σ m) := (h.2.1.2 m hm).2.2.2.2.2.2
theorem yw_rf (h : yw_ G M y q σ rf f ch lk ov) (rf' lk' : Int32) : yw_ G (mw_up M y ((10, 0), yo_e q (nI (sg_nc σ)) (nI (sg_nm σ)) rf' lk')) y q σ rf' f ch lk' ov := ⟨h.1, h.2.1, yr_sy h.2.2 _ _ _ _⟩
theorem yw_ch (h : yw_ G M y q σ rf f ch lk ov) (ch' : Nat → Int32) : yw_ G (mw_up M (q 9) ((20, 0), aI_ G 41 ch')) y q σ rf f ch' lk ov := ⟨h.1, h.2.1, yr_s9 h.2.2 _⟩
theorem yw_ov (h : yw_ G M y q σ rf f ch lk ov) (ov' : Nat → Int32) : yw_ G (mw_up M (q 10) ((21, 0), aZ_ G 1681 ov')) y q σ rf f ch lk ov' := ⟨h.1, h.2.1, yr_s10 h.2.2 _⟩
theorem yw_kx {M' : mw_M} (h : yw_ G M y q σ rf f ch lk ov) (k : kx_ M M') : yw_ G M' y q σ rf f ch lk ov := ⟨h.1, h.2.1, yr_kx h.2.2 k⟩
end YW
def py_ (G : mw_G) (y : Nat) (q : Nat → Nat) (v0 : Option Value) (σ : sg_T) (rf : Int32) (M : mw_M) : Option Value → mw_M → Prop := fun v M' => v = v0 ∧ (∃ (f : Nat → Nat → Int32) (ch : Nat → Int32) (lk : Int32) (ov : Nat → Int32), yw_ G M' y q σ rf f ch lk ov) ∧ ky_ M M'
def pz_ (G : mw_G) (y : Nat) (q : Nat → Nat) (v0 : Option Value) (σ : sg_T) (rf : Int32) (f : Nat → Nat → Int32) (M : mw_M) (R : (Nat → Int32) → Int32 → (Nat → Int32) → Prop) : Option Value → mw_M → Prop := fun v M' => v = v0 ∧ ∃ (ch : Nat → Int32) (lk : Int32) (ov : Nat → Int32), yw_ G M' y q σ rf f ch lk ov ∧ ky_ M M' ∧ R ch lk ov
theorem up_at {g : Nat → Int32} {n : Nat} {v : Int32} : upd g n v n = v := by simp [upd]
theorem up_ol {g : Nat → Int32} {n i : Nat} {v : Int32} (h : i < n) : upd g n v i = g i := by
  rw [upd, if_neg (by omega)]
theorem yc_nw {σ : sg_T} {f : Nat → Nat → Int32} (h : yc_ σ f) (o : Option Nat) (k : Int32) : yc_ (sg_nw σ o k) (va_up (va_up f 0 (upd (f 0) (sg_nc σ) (eo_i o))) 1 (upd (f 1) (sg_nc σ) k)) := by
  refine ⟨fun i hi => ?_, h.2⟩
  have hi : i < sg_nc σ + 1 := hi
  show upd (f 0) (sg_nc σ) (eo_i o) i = eo_i (va_up (sg_pr σ) (sg_nc σ) o i) ∧ upd (f 1) (sg_nc σ) k i = va_up (sg_pk σ) (sg_nc σ) k i
  by_cases q : i = sg_nc σ
  · subst q
    rw [up_at, up_at, va_up_self, va_up_self]
    exact ⟨rfl, rfl⟩
  · rw [up_ol (by omega), up_ol (by omega), up_lt (by omega), up_lt (by omega)]
    exact h.1 i (by omega)
abbrev yt_f (σ : sg_T) (f : Nat → Nat → Int32) (c : Nat) (k n t : Int32) (st fn : Bool) (r : Int32) : Nat → Nat → Int32 := va_up (va_up (va_up (va_up (va_up (va_up (va_up f 2 (upd (f 2) (sg_nm σ) (nI c))) 3 (upd (f 3) (sg_nm σ) n)) 5 (upd (f 5) (sg_nm σ) k)) 6 (upd (f 6) (sg_nm σ) t)) 7 (upd (f 7) (sg_nm σ) (mb_i st))) 8 (upd (f 8) (sg_nm σ) (mb_i fn))) 4 (upd (f 4) (sg_nm σ) r)
theorem yc_tl {σ : sg_T} {f : Nat → Nat → Int32} (h : yc_ σ f) (c : Nat) (k n t : Int32) (st fn : Bool) (r : Int32) : yc_ σ (yt_f σ f c k n t st fn r) := by
  refine ⟨h.1, fun m hm => ?_⟩
  show upd (f 2) (sg_nm σ) (nI c) m = _ ∧ upd (f 3) (sg_nm σ) n m = _ ∧ upd (f 4) (sg_nm σ) r m = _ ∧ upd (f 5) (sg_nm σ) k m = _ ∧ upd (f 6) (sg_nm σ) t m = _ ∧ upd (f 7) (sg_nm σ) (mb_i st) m = _ ∧ upd (f 8) (sg_nm σ) (mb_i fn) m = _
  rw [up_ol hm, up_ol hm, up_ol hm, up_ol hm, up_ol hm, up_ol hm, up_ol hm]
  exact h.2 m hm
theorem yc_ad {σ : sg_T} {f : Nat → Nat → Int32} (h : yc_ σ f) (c : Nat) (k n t : Int32) (st fn : Bool) (r : Int32) : yc_ (sg_ad σ c k n t st fn r) (yt_f σ f c k n t st fn r) := by
  refine ⟨h.1, fun m hm => ?_⟩
  have hm : m < sg_nm σ + 1 := hm
  show upd (f 2) (sg_nm σ) (nI c) m = nI (va_up (sg_mc σ) (sg_nm σ) c m) ∧ upd (f 3) (sg_nm σ) n m = va_up (sg_mn σ) (sg_nm σ) n m ∧ upd (f 4) (sg_nm σ) r m = va_up (sg_rg σ) (sg_nm σ) r m ∧ upd (f 5) (sg_nm σ) k m = va_up (sg_kd σ) (sg_nm σ) k m ∧ upd (f 6) (sg_nm σ) t m = va_up (sg_ty σ) (sg_nm σ) t m ∧ upd (f 7) (sg_nm σ) (mb_i st) m = mb_i (va_up (sg_fx σ) (sg_nm σ) st m) ∧ upd (f 8) (sg_nm σ) (mb_i fn) m = mb_i (va_up (sg_fn σ) (sg_nm σ) fn m)
  by_cases q : m = sg_nm σ
  · subst q
    simp [up_at, va_up_self]
  · rw [up_ol (by omega), up_ol (by omega), up_ol (by omega), up_ol (by omega), up_ol (by omega), up_ol (by omega), up_ol (by omega), up_lt (by omega), up_lt (by omega), up_lt (by omega), up_lt (by omega), up_lt (by omega), up_lt (by omega), up_lt (by omega)]
    exact h.2 m (by omega)
