/-! ===== pure: the law's text, evaluated ===== -/
def tw_Lo (sh : tw_Sh) (lw : Nat) : Prop := tw_is sh lw 0 ∧ tw_ar sh (lw + 1) 0 20 ∧ tw_ar sh (lw + 2) 0 12 ∧ tw_ar sh (lw + 3) 0 12 ∧ tw_ar sh (lw + 4) 0 12 ∧ tw_rr sh lw 5 = some (lw + 1) ∧ tw_rr sh lw 1 = some (lw + 2) ∧ tw_rr sh lw 2 = some (lw + 3) ∧ tw_rr sh lw 3 = some (lw + 4) ∧ tw_rr sh lw 4 = some (lw + 5)
theorem Lo_is0 {sh : tw_Sh} {lw : Nat} (h : tw_Lo sh lw) : tw_is sh lw 0 = True := tw_is_T (h.1)
theorem Lo_f0_0 {sh : tw_Sh} {lw : Nat} (h : tw_Lo sh lw) : tw_fo sh lw 0 false = True := tw_is_fo (h.1) rfl rfl
theorem Lo_f0_1 {sh : tw_Sh} {lw : Nat} (h : tw_Lo sh lw) : tw_fo sh lw 1 true = True := tw_is_fo (h.1) rfl rfl
theorem Lo_f0_2 {sh : tw_Sh} {lw : Nat} (h : tw_Lo sh lw) : tw_fo sh lw 2 true = True := tw_is_fo (h.1) rfl rfl
theorem Lo_f0_3 {sh : tw_Sh} {lw : Nat} (h : tw_Lo sh lw) : tw_fo sh lw 3 true = True := tw_is_fo (h.1) rfl rfl
theorem Lo_f0_4 {sh : tw_Sh} {lw : Nat} (h : tw_Lo sh lw) : tw_fo sh lw 4 true = True := tw_is_fo (h.1) rfl rfl
theorem Lo_f0_5 {sh : tw_Sh} {lw : Nat} (h : tw_Lo sh lw) : tw_fo sh lw 5 true = True := tw_is_fo (h.1) rfl rfl
theorem Lo_a0 {sh : tw_Sh} {lw : Nat} (h : tw_Lo sh lw) {i : Nat} (hi : i < 20) : tw_ai sh [0, 4] (lw + 1) (nI i) = True := tw_ar_ai (h.2.1) (by decide) hi (by decide)
theorem Lo_s0 {sh : tw_Sh} {lw : Nat} (h : tw_Lo sh lw) {i : Nat} (hi : i < 20) : tw_ai sh [0] (lw + 1) (nI i) = True := tw_ar_ai (h.2.1) (by decide) hi (by decide)
theorem Lo_a1 {sh : tw_Sh} {lw : Nat} (h : tw_Lo sh lw) {i : Nat} (hi : i < 12) : tw_ai sh [0, 4] (lw + 2) (nI i) = True := tw_ar_ai (h.2.2.1) (by decide) hi (by decide)
theorem Lo_s1 {sh : tw_Sh} {lw : Nat} (h : tw_Lo sh lw) {i : Nat} (hi : i < 12) : tw_ai sh [0] (lw + 2) (nI i) = True := tw_ar_ai (h.2.2.1) (by decide) hi (by decide)
theorem Lo_a2 {sh : tw_Sh} {lw : Nat} (h : tw_Lo sh lw) {i : Nat} (hi : i < 12) : tw_ai sh [0, 4] (lw + 3) (nI i) = True := tw_ar_ai (h.2.2.2.1) (by decide) hi (by decide)
theorem Lo_s2 {sh : tw_Sh} {lw : Nat} (h : tw_Lo sh lw) {i : Nat} (hi : i < 12) : tw_ai sh [0] (lw + 3) (nI i) = True := tw_ar_ai (h.2.2.2.1) (by decide) hi (by decide)
theorem Lo_a3 {sh : tw_Sh} {lw : Nat} (h : tw_Lo sh lw) {i : Nat} (hi : i < 12) : tw_ai sh [0, 4] (lw + 4) (nI i) = True := tw_ar_ai (h.2.2.2.2.1) (by decide) hi (by decide)
theorem Lo_s3 {sh : tw_Sh} {lw : Nat} (h : tw_Lo sh lw) {i : Nat} (hi : i < 12) : tw_ai sh [0] (lw + 4) (nI i) = True := tw_ar_ai (h.2.2.2.2.1) (by decide) hi (by decide)
theorem Lo_r0_5 {sh : tw_Sh} {lw : Nat} (h : tw_Lo sh lw) : tw_rr sh lw 5 = some (lw + 1) := (h.2.2.2.2.2.1)
theorem Lo_r1_1 {sh : tw_Sh} {lw : Nat} (h : tw_Lo sh lw) : tw_rr sh lw 1 = some (lw + 2) := (h.2.2.2.2.2.2.1)
theorem Lo_r2_2 {sh : tw_Sh} {lw : Nat} (h : tw_Lo sh lw) : tw_rr sh lw 2 = some (lw + 3) := (h.2.2.2.2.2.2.2.1)
theorem Lo_r3_3 {sh : tw_Sh} {lw : Nat} (h : tw_Lo sh lw) : tw_rr sh lw 3 = some (lw + 4) := (h.2.2.2.2.2.2.2.2.1)
theorem Lo_r4_4 {sh : tw_Sh} {lw : Nat} (h : tw_Lo sh lw) : tw_rr sh lw 4 = some (lw + 5) := (h.2.2.2.2.2.2.2.2.2)
theorem LoV0 {sh : tw_Sh} {lw n : Nat} {μ : Nat → Nat → Int32} {la : Nat → Nat → Int64} (h : tw_Lo sh lw) (F : tw_Mem → Prop) : tw_iv 0 lw F (sh, μ, la, n) = F (sh, μ, la, n) := by rw [A_iv, Lo_is0 h, true_and]
theorem LoI0_0 {sh : tw_Sh} {lw n : Nat} {μ : Nat → Nat → Int32} {la : Nat → Nat → Int64} (h : tw_Lo sh lw) (k : Int32 → tw_Mem → Prop) : tw_gi 0 lw k (sh, μ, la, n) = k (μ lw 0) (sh, μ, la, n) := by rw [A_gi, Lo_f0_0 h, true_and]
theorem LoP0_0 {sh : tw_Sh} {lw n : Nat} {μ : Nat → Nat → Int32} {la : Nat → Nat → Int64} (h : tw_Lo sh lw) (x : Int32) (k : tw_Mem → Prop) : tw_pi 0 lw x k (sh, μ, la, n) = k (sh, tw_up μ lw 0 x, la, n) := by rw [A_pi, Lo_f0_0 h, true_and]
theorem LoZ0_0 {sh : tw_Sh} {lw n : Nat} {μ : Nat → Nat → Int32} {la : Nat → Nat → Int64} (h : tw_Lo sh lw) (x : Int32) (k : tw_Mem → Prop) : tw_pz 0 lw x k (sh, μ, la, n) = ((x = 0 ∨ x = 1) ∧ k (sh, tw_up μ lw 0 x, la, n)) := by rw [A_pz, Lo_f0_0 h, true_and]
theorem LoG0_1 {sh : tw_Sh} {lw n : Nat} {μ : Nat → Nat → Int32} {la : Nat → Nat → Int64} (h : tw_Lo sh lw) (k : Nat → tw_Mem → Prop) : tw_gr 1 lw k (sh, μ, la, n) = k (lw + 2) (sh, μ, la, n) := by rw [A_gr, Lo_f0_1 h, Lo_r1_1 h, true_and]; simp only [Option.some.injEq, exists_eq_left']
theorem LoG0_2 {sh : tw_Sh} {lw n : Nat} {μ : Nat → Nat → Int32} {la : Nat → Nat → Int64} (h : tw_Lo sh lw) (k : Nat → tw_Mem → Prop) : tw_gr 2 lw k (sh, μ, la, n) = k (lw + 3) (sh, μ, la, n) := by rw [A_gr, Lo_f0_2 h, Lo_r2_2 h, true_and]; simp only [Option.some.injEq, exists_eq_left']
theorem LoG0_3 {sh : tw_Sh} {lw n : Nat} {μ : Nat → Nat → Int32} {la : Nat → Nat → Int64} (h : tw_Lo sh lw) (k : Nat → tw_Mem → Prop) : tw_gr 3 lw k (sh, μ, la, n) = k (lw + 4) (sh, μ, la, n) := by rw [A_gr, Lo_f0_3 h, Lo_r3_3 h, true_and]; simp only [Option.some.injEq, exists_eq_left']
theorem LoG0_4 {sh : tw_Sh} {lw n : Nat} {μ : Nat → Nat → Int32} {la : Nat → Nat → Int64} (h : tw_Lo sh lw) (k : Nat → tw_Mem → Prop) : tw_gr 4 lw k (sh, μ, la, n) = k (lw + 5) (sh, μ, la, n) := by rw [A_gr, Lo_f0_4 h, Lo_r4_4 h, true_and]; simp only [Option.some.injEq, exists_eq_left']
theorem LoG0_5 {sh : tw_Sh} {lw n : Nat} {μ : Nat → Nat → Int32} {la : Nat → Nat → Int64} (h : tw_Lo sh lw) (k : Nat → tw_Mem → Prop) : tw_gr 5 lw k (sh, μ, la, n) = k (lw + 1) (sh, μ, la, n) := by rw [A_gr, Lo_f0_5 h, Lo_r0_5 h, true_and]; simp only [Option.some.injEq, exists_eq_left']
theorem LoL0 {sh : tw_Sh} {lw n : Nat} {μ : Nat → Nat → Int32} {la : Nat → Nat → Int64} (h : tw_Lo sh lw) {i : Nat} (hi : i < 20) (k : Int32 → tw_Mem → Prop) : tw_li (lw + 1) (nI i) k (sh, μ, la, n) = k (μ (lw + 1) i) (sh, μ, la, n) := X_li (h.2.1) hi (by decide) k
theorem LoS0 {sh : tw_Sh} {lw n : Nat} {μ : Nat → Nat → Int32} {la : Nat → Nat → Int64} (h : tw_Lo sh lw) {i : Nat} (hi : i < 20) (x : Int32) (k : tw_Mem → Prop) : tw_si (lw + 1) (nI i) x k (sh, μ, la, n) = k (sh, tw_up μ (lw + 1) i x, la, n) := X_si (h.2.1) hi (by decide) x k
theorem LoL1 {sh : tw_Sh} {lw n : Nat} {μ : Nat → Nat → Int32} {la : Nat → Nat → Int64} (h : tw_Lo sh lw) {i : Nat} (hi : i < 12) (k : Int32 → tw_Mem → Prop) : tw_li (lw + 2) (nI i) k (sh, μ, la, n) = k (μ (lw + 2) i) (sh, μ, la, n) := X_li (h.2.2.1) hi (by decide) k
theorem LoS1 {sh : tw_Sh} {lw n : Nat} {μ : Nat → Nat → Int32} {la : Nat → Nat → Int64} (h : tw_Lo sh lw) {i : Nat} (hi : i < 12) (x : Int32) (k : tw_Mem → Prop) : tw_si (lw + 2) (nI i) x k (sh, μ, la, n) = k (sh, tw_up μ (lw + 2) i x, la, n) := X_si (h.2.2.1) hi (by decide) x k
theorem LoL2 {sh : tw_Sh} {lw n : Nat} {μ : Nat → Nat → Int32} {la : Nat → Nat → Int64} (h : tw_Lo sh lw) {i : Nat} (hi : i < 12) (k : Int32 → tw_Mem → Prop) : tw_li (lw + 3) (nI i) k (sh, μ, la, n) = k (μ (lw + 3) i) (sh, μ, la, n) := X_li (h.2.2.2.1) hi (by decide) k
theorem LoS2 {sh : tw_Sh} {lw n : Nat} {μ : Nat → Nat → Int32} {la : Nat → Nat → Int64} (h : tw_Lo sh lw) {i : Nat} (hi : i < 12) (x : Int32) (k : tw_Mem → Prop) : tw_si (lw + 3) (nI i) x k (sh, μ, la, n) = k (sh, tw_up μ (lw + 3) i x, la, n) := X_si (h.2.2.2.1) hi (by decide) x k
theorem LoL3 {sh : tw_Sh} {lw n : Nat} {μ : Nat → Nat → Int32} {la : Nat → Nat → Int64} (h : tw_Lo sh lw) {i : Nat} (hi : i < 12) (k : Int32 → tw_Mem → Prop) : tw_li (lw + 4) (nI i) k (sh, μ, la, n) = k (μ (lw + 4) i) (sh, μ, la, n) := X_li (h.2.2.2.2.1) hi (by decide) k
theorem LoS3 {sh : tw_Sh} {lw n : Nat} {μ : Nat → Nat → Int32} {la : Nat → Nat → Int64} (h : tw_Lo sh lw) {i : Nat} (hi : i < 12) (x : Int32) (k : tw_Mem → Prop) : tw_si (lw + 4) (nI i) x k (sh, μ, la, n) = k (sh, tw_up μ (lw + 4) i x, la, n) := X_si (h.2.2.2.2.1) hi (by decide) x k
theorem mI_add {a : Nat} (h : 0 < a) : nI a + mI = nI (a - 1) := by
  have e : mI = -nI 1 := rfl
  rw [e, ← Int32.sub_eq_add_neg]
  exact nz_sub (by omega)
theorem j_max (x y : Int32) (k : Int32 → tw_Mem → Prop) (M : tw_Mem) : f_J9_max_7cf53 x y k M = k (if x < y then y else x) M := by
  simp only [f_J9_max_7cf53, tw_if]
  split <;> rfl
theorem j_min (x y : Int32) (k : Int32 → tw_Mem → Prop) (M : tw_Mem) : f_J9_min_7cf53 x y k M = k (if y < x then y else x) M := by
  simp only [f_J9_min_7cf53, tw_if]
  split <;> rfl
theorem tw_al_ar {sh : tw_Sh} {a tag n N : Nat} {μ : Nat → Nat → Int32} {la : Nat → Nat → Int64} (h : tw_ar sh a tag n) (h6 : tag < 6) (k : Int32 → tw_Mem → Prop) : tw_al a k (sh, μ, la, N) = k (nI n) (sh, μ, la, N) := by
  obtain ⟨r, hr⟩ := h
  unfold tw_al
  apply propext; constructor
  · rintro ⟨x, h1, h2, h3⟩
    have e : some (tag, n, r) = some x := hr.symm.trans h1
    cases e
    exact h3
  · intro h
    exact ⟨_, hr, h6, h⟩
def tw_nt (x : Int32) : Nat := x.toNatClampNeg
theorem tw_nt_n {a : Nat} (h : a < 2147483648) : tw_nt (nI a) = a := nz_cl h
def tw_tC (T : Nat → Int32) (q : Nat) : Nat × Nat := (tw_nt (T (541 + 2 * q)), tw_nt (T (541 + 2 * q + 1)))
def tw_cm (c : Nat × Nat) : Nat := if c.1 < 4 then c.1 else if c.1 = 4 then 6 else if c.1 = 5 then 7 else if c.1 = 6 then 8 else if c.1 = 7 then 4 else if c.1 = 8 then 9 else if c.1 = 9 then 10 else if c.1 = 10 then 32 + c.2 else if c.1 < 14 then c.1 + 5 else if c.1 = 14 then 21 else c.1 + 4
/-- the text of THE LAW in the flat world: its LINES, with conditions that put one truth -/
def tw_LT (T : Nat → Int32) (z : Nat) : Prop := T 2 = nI 1 ∧ z ≤ 400 ∧ (∃ N, N ≤ 12 ∧ T 492 = nI N ∧ ∀ i, i < N → (∃ q, q < 3 ∧ T (493 + 4 * i) = nI q) ∧ (∃ q, q < 31 ∧ T (493 + 4 * i + 1) = nI q) ∧ ∃ f l, f + l ≤ z ∧ T (493 + 4 * i + 2) = nI f ∧ T (493 + 4 * i + 3) = nI (f + l) ∧ (i = 0 → f = 0) ∧ (∀ j, i = j + 1 → T (493 + 4 * j + 3) = nI f) ∧ (l = 0 ∨ tw_sA (tw_tC T) f l true 17)) ∧ ∀ q, q < z → (∃ a, a < 17 ∧ T (541 + 2 * q) = nI a) ∧ ∃ a, a < 1000 ∧ T (541 + 2 * q + 1) = nI a
/-- the class's law tells the same text -/
def tw_Lc (sh : tw_Sh) (μ : Nat → Nat → Int32) (lw : Nat) (T : Nat → Int32) (z : Nat) : Prop := tw_Lo sh lw ∧ tw_ar sh (lw + 5) 0 z ∧ μ lw 0 = T 492 ∧ (∀ N i, N < 13 → T 492 = nI N → i < N → μ (lw + 2) i = T (493 + 4 * i) ∧ μ (lw + 3) i = T (493 + 4 * i + 1) ∧ μ (lw + 4) i = T (493 + 4 * i + 3)) ∧ ∀ q, q < z → μ (lw + 5) q = nI (tw_cm (tw_tC T q))
def tw_La (sh : tw_Sh) (μ : Nat → Nat → Int32) (lw : Nat) (T : Nat → Int32) : Prop := tw_is sh lw 0 ∧ ((T 2 = nI 0 ∧ μ lw 0 = mI) ∨ ∃ z, tw_LT T z ∧ tw_Lc sh μ lw T z)
/-- two who pull or meet, as seen of T -/
def tw_2 (μ : Nat → Nat → Int32) (w : Nat) (T : Nat → Int32) (p o : Nat) (rg : Int32) : Prop := μ (w + 1) 0 = nI p ∧ μ (w + 1) 1 = nI o ∧ μ (w + 1) 2 = T (32 + 20 * p + (4 + o)) ∧ μ (w + 1) 3 = T (32 + 20 * o + (4 + p)) ∧ μ (w + 1) 4 = T (32 + 20 * p + 3) ∧ μ (w + 1) 5 = T (32 + 20 * o + 3) ∧ μ (w + 1) 6 = T (32 + 20 * p + (12 + o)) ∧ μ (w + 1) 7 = T 3 ∧ μ (w + 1) 8 = T 4 ∧ μ (w + 1) 9 = (if T (32 + 20 * p) = T (32 + 20 * o) then nI 1 else nI 0) ∧ μ (w + 1) 10 = rg ∧ μ w 55 = T 5
section P55
variable {sh : tw_Sh} {μ : Nat → Nat → Int32} {la : Nat → Nat → Int64} {n a b w m lw P : Nat} {p o l h j z c x y f q : Nat} {T : Nat → Int32} {v u rg : Int32} {F : Nat → Int32} {C : Nat → Nat × Nat} {s : Nat → Int32}
theorem w_val0 (hw : tw_Tw sh w) (h2 : tw_2 μ w T p o rg) (hq : q < 10) (hd : w + 1 < lw ∨ lw + 1 < w) (k : Int32 → tw_Mem → Prop) : f_X10_value w (nI (tw_cm (q, y))) (nI 0) k (sh, tw_ra μ (lw + 1) s, la, n) = k (tw_fc T rg p o q) (sh, tw_ra μ (lw + 1) s, la, n) := by
  obtain ⟨e0, e1, e2, e3, e4, e5, e6, e7, e8, e9, e10, -⟩ := h2
  rcases (by omega : q = 0 ∨ q = 1 ∨ q = 2 ∨ q = 3 ∨ q = 4 ∨ q = 5 ∨ q = 6 ∨ q = 7 ∨ q = 8 ∨ q = 9) with rfl | rfl | rfl | rfl | rfl | rfl | rfl | rfl | rfl | rfl <;> simp (disch := omega) only [f_X10_value, tw_cm, tw_fc, tw_ra_nj, e0, e1, e2, e3, e4, e6, e7, e8, e9, e10, Nat.reduceLT, Nat.reduceEqDiff, ↓TwV0 hw, ↓TwG0_54 hw, ↓TwI0_55 hw, ↓TwP0_55 hw, ↓TwZ0_55 hw, ↓TwL0 hw, ↓TwS0 hw, ↓A_if, ↓A_jn, ↓A_lt, ↓A_rz, ↓A_rn, ↓A_nzi, ↓A_nzl, ↓A_nn1, ↓A_nn0, ↓reduceIte, true_and, and_true, if_true, if_false, ite_true, ite_false, reduceIte, tl_0, tl_1, tl_2, tl_3, tl_4, tl_5, tl_6, tl_7, tl_8, tl_9, tl_10, tl_11, tl_12, tl_13, tl_14, tl_15, tl_16, tl_17, tl_18, tl_19, tl_20, tl_21, tl_22, tl_23, tl_24, tl_25, tl_26, tl_27, tl_28, tl_29, tl_30, tl_31, tl_32, tl_33, tl_34, tl_35, tl_36, tl_37, tl_38, tl_39, tl_40, tl_41, tl_42, tl_43, tl_44, tl_45, tl_46, tl_47, tl_48, tl_49, tl_50, tl_51, tl_52, tl_53, tl_54, tl_57, tl_59, tl_60, tl_62, tl_63, tl_64, tl_97, tl_99, tl_100, tl_120, tl_122, tl_192, tl_193, tl_194, tl_195, tl_196, tl_255, tl_256, tl_299, tl_400, tl_401, tl_492, tl_493, tl_541, tl_849, tl_999, tl_1000, tl_1341, tl_1342, tl_1390, tl_2190, tl_5412, tl_5904, tl_9999, tl_12345, tl_32767, tl_65536, tl_1000000, tl_252645135, tl_858993459, tl_1103515245, tl_1431655765, nz_31, nz_c31, eq_self, or_true, true_or, or_false, false_or, Nat.add_zero, nz_lt, nz_le, nz_eq, nz_cl, nz_sub, nI_add, pk_mul, nt_lt, nf_lt, nf_eq, nz_mI, mI_eq, mI_eq', mI_lt, mI_gt, mI_add, ↓j_max, ↓j_min, Nat.sub_sub, Nat.reduceAdd, Nat.reduceSub, Nat.reduceLT, Nat.reduceEqDiff, Bool.false_eq_true]
theorem w_val1 (hw : tw_Tw sh w) (h2 : tw_2 μ w T p o rg) (hr : T (32 + 20 * p + (12 + o)) = T (32 + 20 * o + (12 + p))) (hq : q < 10) (hd : w + 1 < lw ∨ lw + 1 < w) (k : Int32 → tw_Mem → Prop) : f_X10_value w (nI (tw_cm (q, y))) (nI 1) k (sh, tw_ra μ (lw + 1) s, la, n) = k (tw_fc T rg o p q) (sh, tw_ra μ (lw + 1) s, la, n) := by
  obtain ⟨e0, e1, e2, e3, e4, e5, e6, e7, e8, e9, e10, -⟩ := h2
  have g9 : μ (w + 1) 9 = (if T (32 + 20 * o) = T (32 + 20 * p) then nI 1 else nI 0) := by
    rw [e9]
    by_cases g : T (32 + 20 * p) = T (32 + 20 * o)
    · rw [if_pos g, if_pos g.symm]
    · rw [if_neg g, if_neg (fun h => g h.symm)]
  rw [hr] at e6
  have x0 : nI 0 ^^^ nI 1 = nI 1 := by decide
  have x1 : nI 1 ^^^ nI 1 = nI 0 := by decide
  have x2 : nI 2 ^^^ nI 1 = nI 3 := by decide
  have x3 : nI 3 ^^^ nI 1 = nI 2 := by decide
  have x4 : nI 4 ^^^ nI 1 = nI 5 := by decide
  rcases (by omega : q = 0 ∨ q = 1 ∨ q = 2 ∨ q = 3 ∨ q = 4 ∨ q = 5 ∨ q = 6 ∨ q = 7 ∨ q = 8 ∨ q = 9) with rfl | rfl | rfl | rfl | rfl | rfl | rfl | rfl | rfl | rfl <;> simp (disch := omega) only [f_X10_value, tw_cm, tw_fc, tw_ra_nj, x0, x1, x2, x3, x4, e0, e1, e2, e3, e5, e6, e7, e8, g9, e10, Nat.reduceLT, Nat.reduceEqDiff, ↓TwV0 hw, ↓TwG0_54 hw, ↓TwI0_55 hw, ↓TwP0_55 hw, ↓TwZ0_55 hw, ↓TwL0 hw, ↓TwS0 hw, ↓A_if, ↓A_jn, ↓A_lt, ↓A_rz, ↓A_rn, ↓A_nzi, ↓A_nzl, ↓A_nn1, ↓A_nn0, ↓reduceIte, true_and, and_true, if_true, if_false, ite_true, ite_false, reduceIte, tl_0, tl_1, tl_2, tl_3, tl_4, tl_5, tl_6, tl_7, tl_8, tl_9, tl_10, tl_11, tl_12, tl_13, tl_14, tl_15, tl_16, tl_17, tl_18, tl_19, tl_20, tl_21, tl_22, tl_23, tl_24, tl_25, tl_26, tl_27, tl_28, tl_29, tl_30, tl_31, tl_32, tl_33, tl_34, tl_35, tl_36, tl_37, tl_38, tl_39, tl_40, tl_41, tl_42, tl_43, tl_44, tl_45, tl_46, tl_47, tl_48, tl_49, tl_50, tl_51, tl_52, tl_53, tl_54, tl_57, tl_59, tl_60, tl_62, tl_63, tl_64, tl_97, tl_99, tl_100, tl_120, tl_122, tl_192, tl_193, tl_194, tl_195, tl_196, tl_255, tl_256, tl_299, tl_400, tl_401, tl_492, tl_493, tl_541, tl_849, tl_999, tl_1000, tl_1341, tl_1342, tl_1390, tl_2190, tl_5412, tl_5904, tl_9999, tl_12345, tl_32767, tl_65536, tl_1000000, tl_252645135, tl_858993459, tl_1103515245, tl_1431655765, nz_31, nz_c31, eq_self, or_true, true_or, or_false, false_or, Nat.add_zero, nz_lt, nz_le, nz_eq, nz_cl, nz_sub, nI_add, pk_mul, nt_lt, nf_lt, nf_eq, nz_mI, mI_eq, mI_eq', mI_lt, mI_gt, mI_add, ↓j_max, ↓j_min, Nat.sub_sub, Nat.reduceAdd, Nat.reduceSub, Nat.reduceLT, Nat.reduceEqDiff, Bool.false_eq_true]
end P55
