/-! ===== pure: the law's steps, depths of knowing, circles ===== -/
theorem tw_ct_m {x y : Nat} : ∀ i, (∀ q, q < i → x.testBit q = true → y.testBit q = true) → tw_ct x i ≤ tw_ct y i ∧ (tw_ct y i ≤ tw_ct x i → ∀ q, q < i → y.testBit q = true → x.testBit q = true)
  | 0, _ => ⟨Nat.le_refl _, fun _ q hq => absurd hq (Nat.not_lt_zero q)⟩
  | i + 1, h => by
    obtain ⟨a, b⟩ := tw_ct_m i (fun q hq => h q (by omega))
    have hi := h i (by omega)
    have ex : tw_ct x (i + 1) = if x.testBit i = true then tw_ct x i + 1 else tw_ct x i := rfl
    have ey : tw_ct y (i + 1) = if y.testBit i = true then tw_ct y i + 1 else tw_ct y i := rfl
    rw [ex, ey]
    by_cases q1 : x.testBit i = true
    · have q2 := hi q1
      rw [if_pos q1, if_pos q2]
      refine ⟨by omega, fun g q hq hy => ?_⟩
      by_cases e : q = i
      · subst e; exact q1
      · exact b (by omega) q (by omega) hy
    · rw [if_neg q1]
      by_cases q2 : y.testBit i = true
      · rw [if_pos q2]
        exact ⟨by omega, fun g => by omega⟩
      · rw [if_neg q2]
        refine ⟨a, fun g q hq hy => ?_⟩
        by_cases e : q = i
        · subst e; exact absurd hy q2
        · exact b g q (by omega) hy
theorem tw_ct_f {x : Nat} : ∀ i, i ≤ tw_ct x i → ∀ q, q < i → x.testBit q = true
  | 0, _ => fun q hq => absurd hq (Nat.not_lt_zero q)
  | i + 1, h => by
    have hl := tw_ct_le x i
    have ex : tw_ct x (i + 1) = if x.testBit i = true then tw_ct x i + 1 else tw_ct x i := rfl
    rw [ex] at h
    intro q hq
    by_cases q1 : x.testBit i = true
    · rw [if_pos q1] at h
      by_cases e : q = i
      · subst e; exact q1
      · exact tw_ct_f i (by omega) q (by omega)
    · rw [if_neg q1] at h
      omega
theorem tw_beq {x y P : Nat} (hx : x < 2 ^ P) (hy : y < 2 ^ P) (h : ∀ q, q < P → (x.testBit q = true ↔ y.testBit q = true)) : x = y := by
  apply Nat.eq_of_testBit_eq
  intro q
  by_cases e : q < P
  · exact Bool.eq_iff_iff.mpr (h q e)
  · have l : 2 ^ P ≤ 2 ^ q := Nat.pow_le_pow_right (by omega) (by omega)
    rw [Nat.testBit_lt_two_pow (Nat.lt_of_lt_of_le hx l), Nat.testBit_lt_two_pow (Nat.lt_of_lt_of_le hy l)]
/-- whom a set guesses of -/
def tw_gn (T : Nat → Int32) (P x : Nat) : Nat := tw_nt (tw_tl (fun p => tw_sGB T p (nI 1) P) (nI x) P)
theorem tw_gn_e (T : Nat → Int32) {P x : Nat} (h8 : P ≤ 8) (hx : x < 2 ^ P) : tw_tl (fun p => tw_sGB T p (nI 1) P) (nI x) P = nI (tw_gn T P x) ∧ tw_gn T P x < 2 ^ P ∧ ∀ o, (tw_gn T P x).testBit o = true ↔ ∃ p, p < P ∧ x.testBit p = true ∧ (decide (o < P) && tw_gb T p (nI 1) o) = true := by
  have h2 := tw_p256 h8
  have hr := fun p => tw_sGB_n T p (nI 1) h8
  obtain ⟨r, hr⟩ := Classical.axiomOfChoice hr
  obtain ⟨z, e, hz, h⟩ := tw_tl_n (R := fun p => tw_sGB T p (nI 1) P) (r := r) (nI x) h8 (fun p _ => ⟨(hr p).1, (hr p).2.1⟩) P (Nat.le_refl P)
  have ez : tw_gn T P x = z := by
    unfold tw_gn
    rw [e]
    exact tw_nt_n (by omega)
  rw [ez]
  refine ⟨e, hz, fun o => ?_⟩
  rw [h o]
  constructor
  · rintro ⟨p, h1, h3, h4⟩
    rw [tw_ibN (by omega) (by omega)] at h3
    rw [(hr p).2.2 o] at h4
    exact ⟨p, h1, h3, h4⟩
  · rintro ⟨p, h1, h3, h4⟩
    refine ⟨p, h1, ?_, ?_⟩
    · rw [tw_ibN (by omega) (by omega)]; exact h3
    · rw [(hr p).2.2 o]; exact h4
def tw_ln (T : Nat → Int32) (P x : Nat) : Nat → Nat
  | 0 => x
  | i + 1 => tw_gn T P (tw_ln T P x i)
def tw_rnn (T : Nat → Int32) (P x : Nat) : Nat → Nat
  | 0 => 0
  | i + 1 => tw_rnn T P x i ||| tw_ln T P x (i + 1)
section P79g
variable {sh : tw_Sh} {μ ν ν2 : Nat → Nat → Int32} {la : Nat → Nat → Int64} {n a b w m lw P N L a0 : Nat} {p o l h i z c x y f q kd t r s : Nat} {T T' : Nat → Int32} {v u rg tn : Int32} {j : Unit → tw_Mem → Prop} {G : tw_Gm} {R : Nat → Int32}
theorem tw_ln_l (h8 : P ≤ 8) (hx : x < 2 ^ P) : ∀ i, tw_ln T P x i < 2 ^ P
  | 0 => hx
  | i + 1 => (tw_gn_e T h8 (tw_ln_l h8 hx i)).2.1
theorem tw_rnn_l (h8 : P ≤ 8) (hx : x < 2 ^ P) : ∀ i, tw_rnn T P x i < 2 ^ P
  | 0 => Nat.two_pow_pos P
  | i + 1 => Nat.or_lt_two_pow (tw_rnn_l h8 hx i) (tw_ln_l h8 hx (i + 1))
theorem tw_rnn_b : ∀ i o, (tw_rnn T P x i).testBit o = true ↔ ∃ d, d < i ∧ (tw_ln T P x (d + 1)).testBit o = true
  | 0, o => by
    constructor
    · intro h
      have e : tw_rnn T P x 0 = 0 := rfl
      rw [e, Nat.zero_testBit] at h
      cases h
    · rintro ⟨d, h, _⟩
      omega
  | i + 1, o => by
    show (tw_rnn T P x i ||| tw_ln T P x (i + 1)).testBit o = true ↔ _
    rw [Nat.testBit_or, Bool.or_eq_true, tw_rnn_b i o]
    constructor
    · rintro (⟨d, h1, h2⟩ | h)
      · exact ⟨d, by omega, h2⟩
      · exact ⟨i, by omega, h⟩
    · rintro ⟨d, h1, h2⟩
      by_cases e : d = i
      · subst e; exact Or.inr h2
      · exact Or.inl ⟨d, by omega, h2⟩
/-- one more step of all that was reached -/
theorem tw_rnn_g (h8 : P ≤ 8) (hx : x < 2 ^ P) (i o : Nat) : (tw_gn T P (tw_rnn T P x i)).testBit o = true ↔ ∃ d, d < i ∧ (tw_ln T P x (d + 2)).testBit o = true := by
  rw [(tw_gn_e T h8 (tw_rnn_l h8 hx i)).2.2 o]
  constructor
  · rintro ⟨p, h1, h2, h3⟩
    rw [tw_rnn_b i p] at h2
    obtain ⟨d, h4, h5⟩ := h2
    refine ⟨d, h4, ?_⟩
    show (tw_gn T P (tw_ln T P x (d + 1))).testBit o = true
    rw [(tw_gn_e T h8 (tw_ln_l h8 hx (d + 1))).2.2 o]
    exact ⟨p, h1, h5, h3⟩
  · rintro ⟨d, h4, h5⟩
    have h5 : (tw_gn T P (tw_ln T P x (d + 1))).testBit o = true := h5
    rw [(tw_gn_e T h8 (tw_ln_l h8 hx (d + 1))).2.2 o] at h5
    obtain ⟨p, h1, h2, h3⟩ := h5
    exact ⟨p, h1, (tw_rnn_b i p).mpr ⟨d, h4, h2⟩, h3⟩
theorem tw_rnn_m (h8 : P ≤ 8) (hx : x < 2 ^ P) (i : Nat) : tw_rnn T P x (i + 1) ||| tw_gn T P (tw_rnn T P x (i + 1)) = tw_rnn T P x (i + 2) := by
  apply Nat.eq_of_testBit_eq
  intro o
  apply Bool.eq_iff_iff.mpr
  rw [Nat.testBit_or, Bool.or_eq_true, tw_rnn_b, tw_rnn_g h8 hx, tw_rnn_b]
  constructor
  · rintro (⟨d, h1, h2⟩ | ⟨d, h1, h2⟩)
    · exact ⟨d, by omega, h2⟩
    · exact ⟨d + 1, by omega, h2⟩
  · rintro ⟨d, h1, h2⟩
    by_cases e : d < i + 1
    · exact Or.inl ⟨d, e, h2⟩
    · obtain ⟨d2, rfl⟩ : ∃ d2, d = d2 + 1 := ⟨d - 1, by omega⟩
      exact Or.inr ⟨d2, by omega, h2⟩
theorem tw_rnn_f (h8 : P ≤ 8) (hx : x < 2 ^ P) (i : Nat) : tw_rnn T P x (i + 1) = tw_gn T P x ||| tw_gn T P (tw_rnn T P x i) := by
  apply Nat.eq_of_testBit_eq
  intro o
  apply Bool.eq_iff_iff.mpr
  rw [Nat.testBit_or, Bool.or_eq_true, tw_rnn_b, tw_rnn_g h8 hx]
  constructor
  · rintro ⟨d, h1, h2⟩
    cases d with
    | zero => exact Or.inl h2
    | succ d => exact Or.inr ⟨d, by omega, h2⟩
  · rintro (h | ⟨d, h1, h2⟩)
    · exact ⟨0, by omega, h⟩
    · exact ⟨d + 1, by omega, h2⟩
theorem tw_rnn_still (h8 : P ≤ 8) (hx : x < 2 ^ P) {i : Nat} (h : tw_rnn T P x i = tw_rnn T P x (i + 1)) : ∀ d, tw_rnn T P x (i + d) = tw_rnn T P x i
  | 0 => rfl
  | d + 1 => by
    show tw_rnn T P x (i + d + 1) = _
    rw [tw_rnn_f h8 hx, tw_rnn_still h8 hx h d, ← tw_rnn_f h8 hx, ← h]
theorem tw_rnn_grow (h8 : P ≤ 8) (hx : x < 2 ^ P) : ∀ j, j ≤ tw_ct (tw_rnn T P x j) P ∨ ∃ i, i < j ∧ tw_rnn T P x i = tw_rnn T P x (i + 1)
  | 0 => Or.inl (Nat.zero_le _)
  | j + 1 => by
    rcases tw_rnn_grow h8 hx j with h | ⟨i, h1, h2⟩
    · have sub : ∀ q, q < P → (tw_rnn T P x j).testBit q = true → (tw_rnn T P x (j + 1)).testBit q = true := fun q _ hq => by
        rw [tw_rnn_b] at hq ⊢
        obtain ⟨d, a, b⟩ := hq
        exact ⟨d, by omega, b⟩
      obtain ⟨a, b⟩ := tw_ct_m P sub
      by_cases e : tw_ct (tw_rnn T P x (j + 1)) P ≤ tw_ct (tw_rnn T P x j) P
      · exact Or.inr ⟨j, by omega, tw_beq (tw_rnn_l h8 hx j) (tw_rnn_l h8 hx (j + 1)) (fun q hq => ⟨sub q hq, b e q hq⟩)⟩
      · exact Or.inl (by omega)
    · exact Or.inr ⟨i, by omega, h2⟩
theorem tw_back (h8 : P ≤ 8) (hx : x < 2 ^ P) (hp : p < P) (h : ∃ d, d < 8 ∧ (tw_ln T P x (d + 1)).testBit p = true) : ∃ d, d < P ∧ (tw_ln T P x (d + 1)).testBit p = true := by
  rcases tw_rnn_grow (T := T) h8 hx P with g | ⟨i, h1, h2⟩
  · exact (tw_rnn_b P p).mp (tw_ct_f P g p hp)
  · have g := (tw_rnn_b 8 p).mpr h
    have e : tw_rnn T P x 8 = tw_rnn T P x i := by
      have := tw_rnn_still h8 hx h2 (8 - i)
      have e8 : i + (8 - i) = 8 := by omega
      rw [e8] at this
      exact this
    rw [e, tw_rnn_b] at g
    obtain ⟨d, a, b⟩ := g
    exact ⟨d, by omega, b⟩
theorem tw_fd_n {α : Type} {c : Nat → Prop} [DecidablePred c] {v : Nat → α} {d : α} : ∀ e i, (∀ j, i ≤ j → j < i + e → ¬ c j) → tw_fd c v d e i = d
  | 0, _, _ => rfl
  | e + 1, i, h => by
    unfold tw_fd
    rw [if_neg (h i (Nat.le_refl i) (by omega))]
    exact tw_fd_n e (i + 1) (fun j a b => h j (by omega) (by omega))
theorem tw_fd_x {α : Type} {c : Nat → Prop} [DecidablePred c] {v : Nat → α} {d : α} (e : Nat) : ∀ k i, ((∃ j, j < i + k + e ∧ i ≤ j ∧ c j) → ∃ j, j < i + k ∧ i ≤ j ∧ c j) → tw_fd c v d (k + e) i = tw_fd c v d k i
  | 0, i, h => by
    rw [Nat.zero_add]
    show _ = d
    refine tw_fd_n e i (fun j a b hc => ?_)
    obtain ⟨q, q1, q2, q3⟩ := h ⟨j, by omega, a, hc⟩
    omega
  | k + 1, i, h => by
    have ek : k + 1 + e = k + e + 1 := by omega
    rw [ek]
    unfold tw_fd
    by_cases q : c i
    · rw [if_pos q, if_pos q]
    · rw [if_neg q, if_neg q]
      refine tw_fd_x e k (i + 1) (fun ⟨j, a, b, hc⟩ => ?_)
      obtain ⟨t, t1, t2, t3⟩ := h ⟨j, by omega, by omega, hc⟩
      by_cases et : t = i
      · subst et; exact absurd t3 q
      · exact ⟨t, by omega, by omega, t3⟩
theorem c_reached (hS : tw_Se sh s) (e1 : μ s 36 = nI P) (h8 : P ≤ 8) (hR : ∀ p, p < P → μ (s + 1) p = tw_sGB T p (nI 1) P) (hp : p < P) (hN : N < 9) (k : Int32 → tw_Mem → Prop) : f_X5_reached s (nI p) (nI N) k (sh, μ, la, n) = k (nI (tw_rnn T P (2 ^ p) N)) (sh, μ, la, n) := by
  have h2 := tw_p256 h8
  have hx : 2 ^ p < 2 ^ P := Nat.pow_lt_pow_right (by omega) hp
  have esh := tw_shN (p := p) (by omega)
  simp (disch := omega) only [f_X5_reached, esh, ↓A_if, ↓A_jn, ↓A_lt, ↓A_rz, ↓A_rn, ↓A_nzi, ↓A_nzl, ↓A_nn1, ↓A_nn0, ↓reduceIte, true_and, and_true, if_true, if_false, ite_true, ite_false, reduceIte, tl_0, tl_1, tl_2, tl_3, tl_4, tl_5, tl_6, tl_7, tl_8, tl_9, tl_10, tl_11, tl_12, tl_13, tl_14, tl_15, tl_16, tl_17, tl_18, tl_19, tl_20, tl_21, tl_22, tl_23, tl_24, tl_25, tl_26, tl_27, tl_28, tl_29, tl_30, tl_31, tl_32, tl_33, tl_34, tl_35, tl_36, tl_37, tl_38, tl_39, tl_40, tl_41, tl_42, tl_43, tl_44, tl_45, tl_46, tl_47, tl_48, tl_49, tl_50, tl_51, tl_52, tl_53, tl_54, tl_57, tl_59, tl_60, tl_62, tl_63, tl_64, tl_97, tl_99, tl_100, tl_120, tl_122, tl_192, tl_193, tl_194, tl_195, tl_196, tl_255, tl_256, tl_299, tl_400, tl_401, tl_492, tl_493, tl_541, tl_849, tl_999, tl_1000, tl_1341, tl_1342, tl_1390, tl_2190, tl_5412, tl_5904, tl_9999, tl_12345, tl_32767, tl_65536, tl_1000000, tl_252645135, tl_858993459, tl_1103515245, tl_1431655765, nz_31, nz_c31, eq_self, or_true, true_or, or_false, false_or, Nat.add_zero, nz_lt, nz_le, nz_eq, nz_cl, nz_sub, nI_add, pk_mul, nt_lt, nf_lt, nf_eq, nz_mI, mI_eq, mI_eq', mI_lt, mI_gt, mI_add, ↓j_max, ↓j_min, Nat.sub_sub, Nat.reduceAdd, Nat.reduceSub, Nat.reduceLT, Nat.reduceEqDiff, Bool.false_eq_true]
  refine tw_lp_for N (fun i => (nI (tw_rnn T P (2 ^ p) i), nI (tw_ln T P (2 ^ p) i), nI i)) (fun _ => (sh, μ, la, n)) rfl rfl ?_ ?_
  · intro i hi rec
    have hl := tw_ln_l (T := T) h8 hx i
    obtain ⟨g1, g2, -⟩ := tw_gn_e T h8 hl
    have ea : tw_rnn T P (2 ^ p) (i + 1) = tw_rnn T P (2 ^ p) i ||| tw_gn T P (tw_ln T P (2 ^ p) i) := rfl
    have eb : tw_ln T P (2 ^ p) (i + 1) = tw_gn T P (tw_ln T P (2 ^ p) i) := rfl
    rw [ea, eb]
    generalize tw_ln T P (2 ^ p) i = y at *
    generalize tw_rnn T P (2 ^ p) i = z
    have E1 := fun k => c_toldBy (la := la) (n := n) (v := nI y) (R := fun p => tw_sGB T p (nI 1) P) hS e1 h8 hR k
    rw [g1] at E1
    simp (disch := omega) only [↓E1, nI_or, ↓SeV0 hS, ↓SeG0_32 hS, ↓SeG0_33 hS, ↓SeG0_34 hS, ↓SeG0_35 hS, ↓SeI0_36 hS, ↓SeP0_36 hS, ↓SeZ0_36 hS, ↓SeL0 hS, ↓SeS0 hS, ↓SeL1 hS, ↓SeS1 hS, ↓SeL2 hS, ↓SeS2 hS, ↓SeL3 hS, ↓SeS3 hS, ↓A_if, ↓A_jn, ↓A_lt, ↓A_rz, ↓A_rn, ↓A_nzi, ↓A_nzl, ↓A_nn1, ↓A_nn0, ↓reduceIte, true_and, and_true, if_true, if_false, ite_true, ite_false, reduceIte, tl_0, tl_1, tl_2, tl_3, tl_4, tl_5, tl_6, tl_7, tl_8, tl_9, tl_10, tl_11, tl_12, tl_13, tl_14, tl_15, tl_16, tl_17, tl_18, tl_19, tl_20, tl_21, tl_22, tl_23, tl_24, tl_25, tl_26, tl_27, tl_28, tl_29, tl_30, tl_31, tl_32, tl_33, tl_34, tl_35, tl_36, tl_37, tl_38, tl_39, tl_40, tl_41, tl_42, tl_43, tl_44, tl_45, tl_46, tl_47, tl_48, tl_49, tl_50, tl_51, tl_52, tl_53, tl_54, tl_57, tl_59, tl_60, tl_62, tl_63, tl_64, tl_97, tl_99, tl_100, tl_120, tl_122, tl_192, tl_193, tl_194, tl_195, tl_196, tl_255, tl_256, tl_299, tl_400, tl_401, tl_492, tl_493, tl_541, tl_849, tl_999, tl_1000, tl_1341, tl_1342, tl_1390, tl_2190, tl_5412, tl_5904, tl_9999, tl_12345, tl_32767, tl_65536, tl_1000000, tl_252645135, tl_858993459, tl_1103515245, tl_1431655765, nz_31, nz_c31, eq_self, or_true, true_or, or_false, false_or, Nat.add_zero, nz_lt, nz_le, nz_eq, nz_cl, nz_sub, nI_add, pk_mul, nt_lt, nf_lt, nf_eq, nz_mI, mI_eq, mI_eq', mI_lt, mI_gt, mI_add, ↓j_max, ↓j_min, Nat.sub_sub, Nat.reduceAdd, Nat.reduceSub, Nat.reduceLT, Nat.reduceEqDiff, Bool.false_eq_true]
  · intro rec
    simp (disch := omega) only [↓SeV0 hS, ↓SeG0_32 hS, ↓SeG0_33 hS, ↓SeG0_34 hS, ↓SeG0_35 hS, ↓SeI0_36 hS, ↓SeP0_36 hS, ↓SeZ0_36 hS, ↓SeL0 hS, ↓SeS0 hS, ↓SeL1 hS, ↓SeS1 hS, ↓SeL2 hS, ↓SeS2 hS, ↓SeL3 hS, ↓SeS3 hS, ↓A_if, ↓A_jn, ↓A_lt, ↓A_rz, ↓A_rn, ↓A_nzi, ↓A_nzl, ↓A_nn1, ↓A_nn0, ↓reduceIte, true_and, and_true, if_true, if_false, ite_true, ite_false, reduceIte, tl_0, tl_1, tl_2, tl_3, tl_4, tl_5, tl_6, tl_7, tl_8, tl_9, tl_10, tl_11, tl_12, tl_13, tl_14, tl_15, tl_16, tl_17, tl_18, tl_19, tl_20, tl_21, tl_22, tl_23, tl_24, tl_25, tl_26, tl_27, tl_28, tl_29, tl_30, tl_31, tl_32, tl_33, tl_34, tl_35, tl_36, tl_37, tl_38, tl_39, tl_40, tl_41, tl_42, tl_43, tl_44, tl_45, tl_46, tl_47, tl_48, tl_49, tl_50, tl_51, tl_52, tl_53, tl_54, tl_57, tl_59, tl_60, tl_62, tl_63, tl_64, tl_97, tl_99, tl_100, tl_120, tl_122, tl_192, tl_193, tl_194, tl_195, tl_196, tl_255, tl_256, tl_299, tl_400, tl_401, tl_492, tl_493, tl_541, tl_849, tl_999, tl_1000, tl_1341, tl_1342, tl_1390, tl_2190, tl_5412, tl_5904, tl_9999, tl_12345, tl_32767, tl_65536, tl_1000000, tl_252645135, tl_858993459, tl_1103515245, tl_1431655765, nz_31, nz_c31, eq_self, or_true, true_or, or_false, false_or, Nat.add_zero, nz_lt, nz_le, nz_eq, nz_cl, nz_sub, nI_add, pk_mul, nt_lt, nf_lt, nf_eq, nz_mI, mI_eq, mI_eq', mI_lt, mI_gt, mI_add, ↓j_max, ↓j_min, Nat.sub_sub, Nat.reduceAdd, Nat.reduceSub, Nat.reduceLT, Nat.reduceEqDiff, Bool.false_eq_true]
theorem c_backS (hS : tw_Se sh s) (e1 : μ s 36 = nI P) (h8 : P ≤ 8) (hR : ∀ p, p < P → μ (s + 1) p = tw_sGB T p (nI 1) P) (hp : p < P) (k : Int32 → tw_Mem → Prop) : f_X5_stepsBack s (nI p) k (sh, μ, la, n) = k (tw_fd (fun d => (tw_ln T P (2 ^ p) (d + 1)).testBit p = true) (fun d => nI (d + 1)) mI P 0) (sh, μ, la, n) := by
  have h2 := tw_p256 h8
  have hx : 2 ^ p < 2 ^ P := Nat.pow_lt_pow_right (by omega) hp
  have esh := tw_shN (p := p) (by omega)
  simp (disch := omega) only [f_X5_stepsBack, esh, ↓A_if, ↓A_jn, ↓A_lt, ↓A_rz, ↓A_rn, ↓A_nzi, ↓A_nzl, ↓A_nn1, ↓A_nn0, ↓reduceIte, true_and, and_true, if_true, if_false, ite_true, ite_false, reduceIte, tl_0, tl_1, tl_2, tl_3, tl_4, tl_5, tl_6, tl_7, tl_8, tl_9, tl_10, tl_11, tl_12, tl_13, tl_14, tl_15, tl_16, tl_17, tl_18, tl_19, tl_20, tl_21, tl_22, tl_23, tl_24, tl_25, tl_26, tl_27, tl_28, tl_29, tl_30, tl_31, tl_32, tl_33, tl_34, tl_35, tl_36, tl_37, tl_38, tl_39, tl_40, tl_41, tl_42, tl_43, tl_44, tl_45, tl_46, tl_47, tl_48, tl_49, tl_50, tl_51, tl_52, tl_53, tl_54, tl_57, tl_59, tl_60, tl_62, tl_63, tl_64, tl_97, tl_99, tl_100, tl_120, tl_122, tl_192, tl_193, tl_194, tl_195, tl_196, tl_255, tl_256, tl_299, tl_400, tl_401, tl_492, tl_493, tl_541, tl_849, tl_999, tl_1000, tl_1341, tl_1342, tl_1390, tl_2190, tl_5412, tl_5904, tl_9999, tl_12345, tl_32767, tl_65536, tl_1000000, tl_252645135, tl_858993459, tl_1103515245, tl_1431655765, nz_31, nz_c31, eq_self, or_true, true_or, or_false, false_or, Nat.add_zero, nz_lt, nz_le, nz_eq, nz_cl, nz_sub, nI_add, pk_mul, nt_lt, nf_lt, nf_eq, nz_mI, mI_eq, mI_eq', mI_lt, mI_gt, mI_add, ↓j_max, ↓j_min, Nat.sub_sub, Nat.reduceAdd, Nat.reduceSub, Nat.reduceLT, Nat.reduceEqDiff, Bool.false_eq_true]
  refine tw_lp_find (G := fun v => k v (sh, μ, la, n)) P (fun i => (nI (tw_ln T P (2 ^ p) i), nI (i + 1))) (fun d => (tw_ln T P (2 ^ p) (d + 1)).testBit p = true) (fun d => nI (d + 1)) mI rfl ?_ ?_
  · intro i hi rec
    have hl := tw_ln_l (T := T) h8 hx i
    obtain ⟨g1, g2, -⟩ := tw_gn_e T h8 hl
    have eb : tw_ln T P (2 ^ p) (i + 1) = tw_gn T P (tw_ln T P (2 ^ p) i) := rfl
    rw [eb]
    generalize tw_ln T P (2 ^ p) i = y at *
    have E1 := fun k => c_toldBy (la := la) (n := n) (v := nI y) (R := fun p => tw_sGB T p (nI 1) P) hS e1 h8 hR k
    rw [g1] at E1
    have eq := tw_isbN (x := tw_gn T P y) (p := p) (by omega) (by omega)
    by_cases q : (tw_gn T P y).testBit p = true
    · rw [if_pos q]
      simp (disch := omega) only [↓E1, ↓c_isb, eq, q, e1, ↓SeV0 hS, ↓SeG0_32 hS, ↓SeG0_33 hS, ↓SeG0_34 hS, ↓SeG0_35 hS, ↓SeI0_36 hS, ↓SeP0_36 hS, ↓SeZ0_36 hS, ↓SeL0 hS, ↓SeS0 hS, ↓SeL1 hS, ↓SeS1 hS, ↓SeL2 hS, ↓SeS2 hS, ↓SeL3 hS, ↓SeS3 hS, ↓A_if, ↓A_jn, ↓A_lt, ↓A_rz, ↓A_rn, ↓A_nzi, ↓A_nzl, ↓A_nn1, ↓A_nn0, ↓reduceIte, true_and, and_true, if_true, if_false, ite_true, ite_false, reduceIte, tl_0, tl_1, tl_2, tl_3, tl_4, tl_5, tl_6, tl_7, tl_8, tl_9, tl_10, tl_11, tl_12, tl_13, tl_14, tl_15, tl_16, tl_17, tl_18, tl_19, tl_20, tl_21, tl_22, tl_23, tl_24, tl_25, tl_26, tl_27, tl_28, tl_29, tl_30, tl_31, tl_32, tl_33, tl_34, tl_35, tl_36, tl_37, tl_38, tl_39, tl_40, tl_41, tl_42, tl_43, tl_44, tl_45, tl_46, tl_47, tl_48, tl_49, tl_50, tl_51, tl_52, tl_53, tl_54, tl_57, tl_59, tl_60, tl_62, tl_63, tl_64, tl_97, tl_99, tl_100, tl_120, tl_122, tl_192, tl_193, tl_194, tl_195, tl_196, tl_255, tl_256, tl_299, tl_400, tl_401, tl_492, tl_493, tl_541, tl_849, tl_999, tl_1000, tl_1341, tl_1342, tl_1390, tl_2190, tl_5412, tl_5904, tl_9999, tl_12345, tl_32767, tl_65536, tl_1000000, tl_252645135, tl_858993459, tl_1103515245, tl_1431655765, nz_31, nz_c31, eq_self, or_true, true_or, or_false, false_or, Nat.add_zero, nz_lt, nz_le, nz_eq, nz_cl, nz_sub, nI_add, pk_mul, nt_lt, nf_lt, nf_eq, nz_mI, mI_eq, mI_eq', mI_lt, mI_gt, mI_add, ↓j_max, ↓j_min, Nat.sub_sub, Nat.reduceAdd, Nat.reduceSub, Nat.reduceLT, Nat.reduceEqDiff, Bool.false_eq_true]
    · rw [if_neg q]
      simp (disch := omega) only [↓E1, ↓c_isb, eq, q, e1, ↓SeV0 hS, ↓SeG0_32 hS, ↓SeG0_33 hS, ↓SeG0_34 hS, ↓SeG0_35 hS, ↓SeI0_36 hS, ↓SeP0_36 hS, ↓SeZ0_36 hS, ↓SeL0 hS, ↓SeS0 hS, ↓SeL1 hS, ↓SeS1 hS, ↓SeL2 hS, ↓SeS2 hS, ↓SeL3 hS, ↓SeS3 hS, ↓A_if, ↓A_jn, ↓A_lt, ↓A_rz, ↓A_rn, ↓A_nzi, ↓A_nzl, ↓A_nn1, ↓A_nn0, ↓reduceIte, true_and, and_true, if_true, if_false, ite_true, ite_false, reduceIte, tl_0, tl_1, tl_2, tl_3, tl_4, tl_5, tl_6, tl_7, tl_8, tl_9, tl_10, tl_11, tl_12, tl_13, tl_14, tl_15, tl_16, tl_17, tl_18, tl_19, tl_20, tl_21, tl_22, tl_23, tl_24, tl_25, tl_26, tl_27, tl_28, tl_29, tl_30, tl_31, tl_32, tl_33, tl_34, tl_35, tl_36, tl_37, tl_38, tl_39, tl_40, tl_41, tl_42, tl_43, tl_44, tl_45, tl_46, tl_47, tl_48, tl_49, tl_50, tl_51, tl_52, tl_53, tl_54, tl_57, tl_59, tl_60, tl_62, tl_63, tl_64, tl_97, tl_99, tl_100, tl_120, tl_122, tl_192, tl_193, tl_194, tl_195, tl_196, tl_255, tl_256, tl_299, tl_400, tl_401, tl_492, tl_493, tl_541, tl_849, tl_999, tl_1000, tl_1341, tl_1342, tl_1390, tl_2190, tl_5412, tl_5904, tl_9999, tl_12345, tl_32767, tl_65536, tl_1000000, tl_252645135, tl_858993459, tl_1103515245, tl_1431655765, nz_31, nz_c31, eq_self, or_true, true_or, or_false, false_or, Nat.add_zero, nz_lt, nz_le, nz_eq, nz_cl, nz_sub, nI_add, pk_mul, nt_lt, nf_lt, nf_eq, nz_mI, mI_eq, mI_eq', mI_lt, mI_gt, mI_add, ↓j_max, ↓j_min, Nat.sub_sub, Nat.reduceAdd, Nat.reduceSub, Nat.reduceLT, Nat.reduceEqDiff, Bool.false_eq_true]
  · intro rec
    simp (disch := omega) only [e1, ↓SeV0 hS, ↓SeG0_32 hS, ↓SeG0_33 hS, ↓SeG0_34 hS, ↓SeG0_35 hS, ↓SeI0_36 hS, ↓SeP0_36 hS, ↓SeZ0_36 hS, ↓SeL0 hS, ↓SeS0 hS, ↓SeL1 hS, ↓SeS1 hS, ↓SeL2 hS, ↓SeS2 hS, ↓SeL3 hS, ↓SeS3 hS, ↓A_if, ↓A_jn, ↓A_lt, ↓A_rz, ↓A_rn, ↓A_nzi, ↓A_nzl, ↓A_nn1, ↓A_nn0, ↓reduceIte, true_and, and_true, if_true, if_false, ite_true, ite_false, reduceIte, tl_0, tl_1, tl_2, tl_3, tl_4, tl_5, tl_6, tl_7, tl_8, tl_9, tl_10, tl_11, tl_12, tl_13, tl_14, tl_15, tl_16, tl_17, tl_18, tl_19, tl_20, tl_21, tl_22, tl_23, tl_24, tl_25, tl_26, tl_27, tl_28, tl_29, tl_30, tl_31, tl_32, tl_33, tl_34, tl_35, tl_36, tl_37, tl_38, tl_39, tl_40, tl_41, tl_42, tl_43, tl_44, tl_45, tl_46, tl_47, tl_48, tl_49, tl_50, tl_51, tl_52, tl_53, tl_54, tl_57, tl_59, tl_60, tl_62, tl_63, tl_64, tl_97, tl_99, tl_100, tl_120, tl_122, tl_192, tl_193, tl_194, tl_195, tl_196, tl_255, tl_256, tl_299, tl_400, tl_401, tl_492, tl_493, tl_541, tl_849, tl_999, tl_1000, tl_1341, tl_1342, tl_1390, tl_2190, tl_5412, tl_5904, tl_9999, tl_12345, tl_32767, tl_65536, tl_1000000, tl_252645135, tl_858993459, tl_1103515245, tl_1431655765, nz_31, nz_c31, eq_self, or_true, true_or, or_false, false_or, Nat.add_zero, nz_lt, nz_le, nz_eq, nz_cl, nz_sub, nI_add, pk_mul, nt_lt, nf_lt, nf_eq, nz_mI, mI_eq, mI_eq', mI_lt, mI_gt, mI_add, ↓j_max, ↓j_min, Nat.sub_sub, Nat.reduceAdd, Nat.reduceSub, Nat.reduceLT, Nat.reduceEqDiff, Bool.false_eq_true]
theorem m_depthO (hM : tw_Mo sh m) (W : tw_WF (μ (m + 1)) P) (hp : p < P) (hN : N < 9) (k : Int32 → tw_Mem → Prop) : f_X12_depth m (nI p) (nI N) k (sh, μ, la, n) = k (nI (tw_rnn (μ (m + 1)) P (2 ^ p) N)) (sh, tw_up μ m 70 (nI 0), la, n) := by
  have h1 : tw_up μ m 70 (nI 0) (m + 1) = μ (m + 1) := tw_up_ne (by omega)
  have h8 := W.2.1
  have h2 := tw_p256 h8
  have hx : 2 ^ p < 2 ^ P := Nat.pow_lt_pow_right (by omega) hp
  have esh := tw_shN (p := p) (by omega)
  have hp0 : tw_up μ m 70 (nI 0) (m + 1) 0 = nI P := by rw [h1]; exact W.1
  simp (disch := omega) only [f_X12_depth, ↓m_nobodyF hM hp0 h8 hp, f_X12_in, f_X12_throwsIf, esh, ↓MoV0 hM, ↓MoI0_70 hM, ↓MoP0_70 hM, ↓MoZ0_70 hM, ↓MoG0_71 hM, ↓MoG0_72 hM, ↓MoG0_73 hM, ↓MoG0_74 hM, ↓MoG0_75 hM, ↓MoI0_76 hM, ↓MoP0_76 hM, ↓MoZ0_76 hM, ↓MoI0_77 hM, ↓MoP0_77 hM, ↓MoZ0_77 hM, ↓MoG0_78 hM, ↓MoI0_79 hM, ↓MoP0_79 hM, ↓MoZ0_79 hM, ↓MoI0_80 hM, ↓MoP0_80 hM, ↓MoZ0_80 hM, ↓MoI0_81 hM, ↓MoP0_81 hM, ↓MoZ0_81 hM, ↓MoI0_82 hM, ↓MoP0_82 hM, ↓MoZ0_82 hM, ↓MoI0_83 hM, ↓MoP0_83 hM, ↓MoZ0_83 hM, ↓MoI0_84 hM, ↓MoP0_84 hM, ↓MoZ0_84 hM, ↓MoG0_85 hM, ↓MoI0_86 hM, ↓MoP0_86 hM, ↓MoZ0_86 hM, ↓MoG0_87 hM, ↓MoI0_88 hM, ↓MoP0_88 hM, ↓MoZ0_88 hM, ↓MoG0_89 hM, ↓MoG0_90 hM, ↓MoG0_91 hM, ↓MoG0_92 hM, ↓MoL0 hM, ↓MoS0 hM, ↓MoL1 hM, ↓MoS1 hM, ↓MoL2 hM, ↓MoS2 hM, ↓MoL3 hM, ↓MoS3 hM, ↓MoL4 hM, ↓MoS4 hM, ↓MoL5 hM, ↓MoS5 hM, ↓MoL6 hM, ↓MoS6 hM, ↓MoL7 hM, ↓MoS7 hM, ↓MoL8 hM, ↓MoS8 hM, ↓MoL9 hM, ↓MoS9 hM, ↓MoL10 hM, ↓MoS10 hM, ↓MoL11 hM, ↓MoS11 hM, ↓A_if, ↓A_jn, ↓A_lt, ↓A_rz, ↓A_rn, ↓A_nzi, ↓A_nzl, ↓A_nn1, ↓A_nn0, ↓reduceIte, true_and, and_true, if_true, if_false, ite_true, ite_false, reduceIte, tl_0, tl_1, tl_2, tl_3, tl_4, tl_5, tl_6, tl_7, tl_8, tl_9, tl_10, tl_11, tl_12, tl_13, tl_14, tl_15, tl_16, tl_17, tl_18, tl_19, tl_20, tl_21, tl_22, tl_23, tl_24, tl_25, tl_26, tl_27, tl_28, tl_29, tl_30, tl_31, tl_32, tl_33, tl_34, tl_35, tl_36, tl_37, tl_38, tl_39, tl_40, tl_41, tl_42, tl_43, tl_44, tl_45, tl_46, tl_47, tl_48, tl_49, tl_50, tl_51, tl_52, tl_53, tl_54, tl_57, tl_59, tl_60, tl_62, tl_63, tl_64, tl_97, tl_99, tl_100, tl_120, tl_122, tl_192, tl_193, tl_194, tl_195, tl_196, tl_255, tl_256, tl_299, tl_400, tl_401, tl_492, tl_493, tl_541, tl_849, tl_999, tl_1000, tl_1341, tl_1342, tl_1390, tl_2190, tl_5412, tl_5904, tl_9999, tl_12345, tl_32767, tl_65536, tl_1000000, tl_252645135, tl_858993459, tl_1103515245, tl_1431655765, nz_31, nz_c31, eq_self, or_true, true_or, or_false, false_or, Nat.add_zero, nz_lt, nz_le, nz_eq, nz_cl, nz_sub, nI_add, pk_mul, nt_lt, nf_lt, nf_eq, nz_mI, mI_eq, mI_eq', mI_lt, mI_gt, mI_add, ↓j_max, ↓j_min, Nat.sub_sub, Nat.reduceAdd, Nat.reduceSub, Nat.reduceLT, Nat.reduceEqDiff, Bool.false_eq_true]
  rw [← h1]
  rw [← h1] at W
  have hP := W.1
  generalize tw_up μ m 70 (nI 0) = μ1 at *
  generalize hT : μ1 (m + 1) = T at *
  refine tw_lp_for N (fun i => (nI (tw_rnn T P (2 ^ p) i), nI i)) (fun _ => (sh, μ1, la, n)) rfl rfl ?_ ?_
  · intro i hi rec
    cases i with
    | zero =>
      obtain ⟨g1, g2, -⟩ := tw_gn_e T h8 hx
      have ea : tw_rnn T P (2 ^ p) (0 + 1) = 0 ||| tw_gn T P (2 ^ p) := rfl
      have e0 : tw_rnn T P (2 ^ p) 0 = 0 := rfl
      rw [ea, e0]
      have E1 := fun k => m_guessedBy (μ := μ1) (P := P) (la := la) (n := n) (v := nI (2 ^ p)) hM (by rw [hT]; exact W) k
      rw [hT, g1] at E1
      simp (disch := omega) only [↓E1, nI_or, ↓MoV0 hM, ↓MoI0_70 hM, ↓MoP0_70 hM, ↓MoZ0_70 hM, ↓MoG0_71 hM, ↓MoG0_72 hM, ↓MoG0_73 hM, ↓MoG0_74 hM, ↓MoG0_75 hM, ↓MoI0_76 hM, ↓MoP0_76 hM, ↓MoZ0_76 hM, ↓MoI0_77 hM, ↓MoP0_77 hM, ↓MoZ0_77 hM, ↓MoG0_78 hM, ↓MoI0_79 hM, ↓MoP0_79 hM, ↓MoZ0_79 hM, ↓MoI0_80 hM, ↓MoP0_80 hM, ↓MoZ0_80 hM, ↓MoI0_81 hM, ↓MoP0_81 hM, ↓MoZ0_81 hM, ↓MoI0_82 hM, ↓MoP0_82 hM, ↓MoZ0_82 hM, ↓MoI0_83 hM, ↓MoP0_83 hM, ↓MoZ0_83 hM, ↓MoI0_84 hM, ↓MoP0_84 hM, ↓MoZ0_84 hM, ↓MoG0_85 hM, ↓MoI0_86 hM, ↓MoP0_86 hM, ↓MoZ0_86 hM, ↓MoG0_87 hM, ↓MoI0_88 hM, ↓MoP0_88 hM, ↓MoZ0_88 hM, ↓MoG0_89 hM, ↓MoG0_90 hM, ↓MoG0_91 hM, ↓MoG0_92 hM, ↓MoL0 hM, ↓MoS0 hM, ↓MoL1 hM, ↓MoS1 hM, ↓MoL2 hM, ↓MoS2 hM, ↓MoL3 hM, ↓MoS3 hM, ↓MoL4 hM, ↓MoS4 hM, ↓MoL5 hM, ↓MoS5 hM, ↓MoL6 hM, ↓MoS6 hM, ↓MoL7 hM, ↓MoS7 hM, ↓MoL8 hM, ↓MoS8 hM, ↓MoL9 hM, ↓MoS9 hM, ↓MoL10 hM, ↓MoS10 hM, ↓MoL11 hM, ↓MoS11 hM, ↓A_if, ↓A_jn, ↓A_lt, ↓A_rz, ↓A_rn, ↓A_nzi, ↓A_nzl, ↓A_nn1, ↓A_nn0, ↓reduceIte, true_and, and_true, if_true, if_false, ite_true, ite_false, reduceIte, tl_0, tl_1, tl_2, tl_3, tl_4, tl_5, tl_6, tl_7, tl_8, tl_9, tl_10, tl_11, tl_12, tl_13, tl_14, tl_15, tl_16, tl_17, tl_18, tl_19, tl_20, tl_21, tl_22, tl_23, tl_24, tl_25, tl_26, tl_27, tl_28, tl_29, tl_30, tl_31, tl_32, tl_33, tl_34, tl_35, tl_36, tl_37, tl_38, tl_39, tl_40, tl_41, tl_42, tl_43, tl_44, tl_45, tl_46, tl_47, tl_48, tl_49, tl_50, tl_51, tl_52, tl_53, tl_54, tl_57, tl_59, tl_60, tl_62, tl_63, tl_64, tl_97, tl_99, tl_100, tl_120, tl_122, tl_192, tl_193, tl_194, tl_195, tl_196, tl_255, tl_256, tl_299, tl_400, tl_401, tl_492, tl_493, tl_541, tl_849, tl_999, tl_1000, tl_1341, tl_1342, tl_1390, tl_2190, tl_5412, tl_5904, tl_9999, tl_12345, tl_32767, tl_65536, tl_1000000, tl_252645135, tl_858993459, tl_1103515245, tl_1431655765, nz_31, nz_c31, eq_self, or_true, true_or, or_false, false_or, Nat.add_zero, nz_lt, nz_le, nz_eq, nz_cl, nz_sub, nI_add, pk_mul, nt_lt, nf_lt, nf_eq, nz_mI, mI_eq, mI_eq', mI_lt, mI_gt, mI_add, ↓j_max, ↓j_min, Nat.sub_sub, Nat.reduceAdd, Nat.reduceSub, Nat.reduceLT, Nat.reduceEqDiff, Bool.false_eq_true]
    | succ i =>
      have hl := tw_rnn_l (T := T) h8 hx (i + 1)
      obtain ⟨g1, g2, -⟩ := tw_gn_e T h8 hl
      have ea := tw_rnn_m (T := T) h8 hx i
      rw [← ea]
      generalize tw_rnn T P (2 ^ p) (i + 1) = y at *
      have E1 := fun k => m_guessedBy (μ := μ1) (P := P) (la := la) (n := n) (v := nI y) hM (by rw [hT]; exact W) k
      rw [hT, g1] at E1
      simp (disch := omega) only [↓E1, nI_or, ↓MoV0 hM, ↓MoI0_70 hM, ↓MoP0_70 hM, ↓MoZ0_70 hM, ↓MoG0_71 hM, ↓MoG0_72 hM, ↓MoG0_73 hM, ↓MoG0_74 hM, ↓MoG0_75 hM, ↓MoI0_76 hM, ↓MoP0_76 hM, ↓MoZ0_76 hM, ↓MoI0_77 hM, ↓MoP0_77 hM, ↓MoZ0_77 hM, ↓MoG0_78 hM, ↓MoI0_79 hM, ↓MoP0_79 hM, ↓MoZ0_79 hM, ↓MoI0_80 hM, ↓MoP0_80 hM, ↓MoZ0_80 hM, ↓MoI0_81 hM, ↓MoP0_81 hM, ↓MoZ0_81 hM, ↓MoI0_82 hM, ↓MoP0_82 hM, ↓MoZ0_82 hM, ↓MoI0_83 hM, ↓MoP0_83 hM, ↓MoZ0_83 hM, ↓MoI0_84 hM, ↓MoP0_84 hM, ↓MoZ0_84 hM, ↓MoG0_85 hM, ↓MoI0_86 hM, ↓MoP0_86 hM, ↓MoZ0_86 hM, ↓MoG0_87 hM, ↓MoI0_88 hM, ↓MoP0_88 hM, ↓MoZ0_88 hM, ↓MoG0_89 hM, ↓MoG0_90 hM, ↓MoG0_91 hM, ↓MoG0_92 hM, ↓MoL0 hM, ↓MoS0 hM, ↓MoL1 hM, ↓MoS1 hM, ↓MoL2 hM, ↓MoS2 hM, ↓MoL3 hM, ↓MoS3 hM, ↓MoL4 hM, ↓MoS4 hM, ↓MoL5 hM, ↓MoS5 hM, ↓MoL6 hM, ↓MoS6 hM, ↓MoL7 hM, ↓MoS7 hM, ↓MoL8 hM, ↓MoS8 hM, ↓MoL9 hM, ↓MoS9 hM, ↓MoL10 hM, ↓MoS10 hM, ↓MoL11 hM, ↓MoS11 hM, ↓A_if, ↓A_jn, ↓A_lt, ↓A_rz, ↓A_rn, ↓A_nzi, ↓A_nzl, ↓A_nn1, ↓A_nn0, ↓reduceIte, true_and, and_true, if_true, if_false, ite_true, ite_false, reduceIte, tl_0, tl_1, tl_2, tl_3, tl_4, tl_5, tl_6, tl_7, tl_8, tl_9, tl_10, tl_11, tl_12, tl_13, tl_14, tl_15, tl_16, tl_17, tl_18, tl_19, tl_20, tl_21, tl_22, tl_23, tl_24, tl_25, tl_26, tl_27, tl_28, tl_29, tl_30, tl_31, tl_32, tl_33, tl_34, tl_35, tl_36, tl_37, tl_38, tl_39, tl_40, tl_41, tl_42, tl_43, tl_44, tl_45, tl_46, tl_47, tl_48, tl_49, tl_50, tl_51, tl_52, tl_53, tl_54, tl_57, tl_59, tl_60, tl_62, tl_63, tl_64, tl_97, tl_99, tl_100, tl_120, tl_122, tl_192, tl_193, tl_194, tl_195, tl_196, tl_255, tl_256, tl_299, tl_400, tl_401, tl_492, tl_493, tl_541, tl_849, tl_999, tl_1000, tl_1341, tl_1342, tl_1390, tl_2190, tl_5412, tl_5904, tl_9999, tl_12345, tl_32767, tl_65536, tl_1000000, tl_252645135, tl_858993459, tl_1103515245, tl_1431655765, nz_31, nz_c31, eq_self, or_true, true_or, or_false, false_or, Nat.add_zero, nz_lt, nz_le, nz_eq, nz_cl, nz_sub, nI_add, pk_mul, nt_lt, nf_lt, nf_eq, nz_mI, mI_eq, mI_eq', mI_lt, mI_gt, mI_add, ↓j_max, ↓j_min, Nat.sub_sub, Nat.reduceAdd, Nat.reduceSub, Nat.reduceLT, Nat.reduceEqDiff, Bool.false_eq_true]
  · intro rec
    simp (disch := omega) only [↓MoV0 hM, ↓MoI0_70 hM, ↓MoP0_70 hM, ↓MoZ0_70 hM, ↓MoG0_71 hM, ↓MoG0_72 hM, ↓MoG0_73 hM, ↓MoG0_74 hM, ↓MoG0_75 hM, ↓MoI0_76 hM, ↓MoP0_76 hM, ↓MoZ0_76 hM, ↓MoI0_77 hM, ↓MoP0_77 hM, ↓MoZ0_77 hM, ↓MoG0_78 hM, ↓MoI0_79 hM, ↓MoP0_79 hM, ↓MoZ0_79 hM, ↓MoI0_80 hM, ↓MoP0_80 hM, ↓MoZ0_80 hM, ↓MoI0_81 hM, ↓MoP0_81 hM, ↓MoZ0_81 hM, ↓MoI0_82 hM, ↓MoP0_82 hM, ↓MoZ0_82 hM, ↓MoI0_83 hM, ↓MoP0_83 hM, ↓MoZ0_83 hM, ↓MoI0_84 hM, ↓MoP0_84 hM, ↓MoZ0_84 hM, ↓MoG0_85 hM, ↓MoI0_86 hM, ↓MoP0_86 hM, ↓MoZ0_86 hM, ↓MoG0_87 hM, ↓MoI0_88 hM, ↓MoP0_88 hM, ↓MoZ0_88 hM, ↓MoG0_89 hM, ↓MoG0_90 hM, ↓MoG0_91 hM, ↓MoG0_92 hM, ↓MoL0 hM, ↓MoS0 hM, ↓MoL1 hM, ↓MoS1 hM, ↓MoL2 hM, ↓MoS2 hM, ↓MoL3 hM, ↓MoS3 hM, ↓MoL4 hM, ↓MoS4 hM, ↓MoL5 hM, ↓MoS5 hM, ↓MoL6 hM, ↓MoS6 hM, ↓MoL7 hM, ↓MoS7 hM, ↓MoL8 hM, ↓MoS8 hM, ↓MoL9 hM, ↓MoS9 hM, ↓MoL10 hM, ↓MoS10 hM, ↓MoL11 hM, ↓MoS11 hM, ↓A_if, ↓A_jn, ↓A_lt, ↓A_rz, ↓A_rn, ↓A_nzi, ↓A_nzl, ↓A_nn1, ↓A_nn0, ↓reduceIte, true_and, and_true, if_true, if_false, ite_true, ite_false, reduceIte, tl_0, tl_1, tl_2, tl_3, tl_4, tl_5, tl_6, tl_7, tl_8, tl_9, tl_10, tl_11, tl_12, tl_13, tl_14, tl_15, tl_16, tl_17, tl_18, tl_19, tl_20, tl_21, tl_22, tl_23, tl_24, tl_25, tl_26, tl_27, tl_28, tl_29, tl_30, tl_31, tl_32, tl_33, tl_34, tl_35, tl_36, tl_37, tl_38, tl_39, tl_40, tl_41, tl_42, tl_43, tl_44, tl_45, tl_46, tl_47, tl_48, tl_49, tl_50, tl_51, tl_52, tl_53, tl_54, tl_57, tl_59, tl_60, tl_62, tl_63, tl_64, tl_97, tl_99, tl_100, tl_120, tl_122, tl_192, tl_193, tl_194, tl_195, tl_196, tl_255, tl_256, tl_299, tl_400, tl_401, tl_492, tl_493, tl_541, tl_849, tl_999, tl_1000, tl_1341, tl_1342, tl_1390, tl_2190, tl_5412, tl_5904, tl_9999, tl_12345, tl_32767, tl_65536, tl_1000000, tl_252645135, tl_858993459, tl_1103515245, tl_1431655765, nz_31, nz_c31, eq_self, or_true, true_or, or_false, false_or, Nat.add_zero, nz_lt, nz_le, nz_eq, nz_cl, nz_sub, nI_add, pk_mul, nt_lt, nf_lt, nf_eq, nz_mI, mI_eq, mI_eq', mI_lt, mI_gt, mI_add, ↓j_max, ↓j_min, Nat.sub_sub, Nat.reduceAdd, Nat.reduceSub, Nat.reduceLT, Nat.reduceEqDiff, Bool.false_eq_true]
theorem m_circleO (hM : tw_Mo sh m) (W : tw_WF (μ (m + 1)) P) (hp : p < P) (k : Int32 → tw_Mem → Prop) : f_X12_circle m (nI p) k (sh, μ, la, n) = k (tw_fd (fun d => (tw_ln (μ (m + 1)) P (2 ^ p) (d + 1)).testBit p = true) (fun d => nI (d + 1)) mI P 0) (sh, tw_up μ m 70 (nI 0), la, n) := by
  have h1 : tw_up μ m 70 (nI 0) (m + 1) = μ (m + 1) := tw_up_ne (by omega)
  have h8 := W.2.1
  have h2 := tw_p256 h8
  have hx : 2 ^ p < 2 ^ P := Nat.pow_lt_pow_right (by omega) hp
  have esh := tw_shN (p := p) (by omega)
  have hp0 : tw_up μ m 70 (nI 0) (m + 1) 0 = nI P := by rw [h1]; exact W.1
  simp (disch := omega) only [f_X12_circle, ↓m_nobodyF hM hp0 h8 hp, f_X12_throwsIf, esh, ↓MoV0 hM, ↓MoI0_70 hM, ↓MoP0_70 hM, ↓MoZ0_70 hM, ↓MoG0_71 hM, ↓MoG0_72 hM, ↓MoG0_73 hM, ↓MoG0_74 hM, ↓MoG0_75 hM, ↓MoI0_76 hM, ↓MoP0_76 hM, ↓MoZ0_76 hM, ↓MoI0_77 hM, ↓MoP0_77 hM, ↓MoZ0_77 hM, ↓MoG0_78 hM, ↓MoI0_79 hM, ↓MoP0_79 hM, ↓MoZ0_79 hM, ↓MoI0_80 hM, ↓MoP0_80 hM, ↓MoZ0_80 hM, ↓MoI0_81 hM, ↓MoP0_81 hM, ↓MoZ0_81 hM, ↓MoI0_82 hM, ↓MoP0_82 hM, ↓MoZ0_82 hM, ↓MoI0_83 hM, ↓MoP0_83 hM, ↓MoZ0_83 hM, ↓MoI0_84 hM, ↓MoP0_84 hM, ↓MoZ0_84 hM, ↓MoG0_85 hM, ↓MoI0_86 hM, ↓MoP0_86 hM, ↓MoZ0_86 hM, ↓MoG0_87 hM, ↓MoI0_88 hM, ↓MoP0_88 hM, ↓MoZ0_88 hM, ↓MoG0_89 hM, ↓MoG0_90 hM, ↓MoG0_91 hM, ↓MoG0_92 hM, ↓MoL0 hM, ↓MoS0 hM, ↓MoL1 hM, ↓MoS1 hM, ↓MoL2 hM, ↓MoS2 hM, ↓MoL3 hM, ↓MoS3 hM, ↓MoL4 hM, ↓MoS4 hM, ↓MoL5 hM, ↓MoS5 hM, ↓MoL6 hM, ↓MoS6 hM, ↓MoL7 hM, ↓MoS7 hM, ↓MoL8 hM, ↓MoS8 hM, ↓MoL9 hM, ↓MoS9 hM, ↓MoL10 hM, ↓MoS10 hM, ↓MoL11 hM, ↓MoS11 hM, ↓A_if, ↓A_jn, ↓A_lt, ↓A_rz, ↓A_rn, ↓A_nzi, ↓A_nzl, ↓A_nn1, ↓A_nn0, ↓reduceIte, true_and, and_true, if_true, if_false, ite_true, ite_false, reduceIte, tl_0, tl_1, tl_2, tl_3, tl_4, tl_5, tl_6, tl_7, tl_8, tl_9, tl_10, tl_11, tl_12, tl_13, tl_14, tl_15, tl_16, tl_17, tl_18, tl_19, tl_20, tl_21, tl_22, tl_23, tl_24, tl_25, tl_26, tl_27, tl_28, tl_29, tl_30, tl_31, tl_32, tl_33, tl_34, tl_35, tl_36, tl_37, tl_38, tl_39, tl_40, tl_41, tl_42, tl_43, tl_44, tl_45, tl_46, tl_47, tl_48, tl_49, tl_50, tl_51, tl_52, tl_53, tl_54, tl_57, tl_59, tl_60, tl_62, tl_63, tl_64, tl_97, tl_99, tl_100, tl_120, tl_122, tl_192, tl_193, tl_194, tl_195, tl_196, tl_255, tl_256, tl_299, tl_400, tl_401, tl_492, tl_493, tl_541, tl_849, tl_999, tl_1000, tl_1341, tl_1342, tl_1390, tl_2190, tl_5412, tl_5904, tl_9999, tl_12345, tl_32767, tl_65536, tl_1000000, tl_252645135, tl_858993459, tl_1103515245, tl_1431655765, nz_31, nz_c31, eq_self, or_true, true_or, or_false, false_or, Nat.add_zero, nz_lt, nz_le, nz_eq, nz_cl, nz_sub, nI_add, pk_mul, nt_lt, nf_lt, nf_eq, nz_mI, mI_eq, mI_eq', mI_lt, mI_gt, mI_add, ↓j_max, ↓j_min, Nat.sub_sub, Nat.reduceAdd, Nat.reduceSub, Nat.reduceLT, Nat.reduceEqDiff, Bool.false_eq_true]
  rw [← h1]
  rw [← h1] at W
  have hP := W.1
  generalize tw_up μ m 70 (nI 0) = μ1 at *
  generalize hT : μ1 (m + 1) = T at *
  have e8 : P + (8 - P) = 8 := by omega
  have ex : tw_fd (fun d => (tw_ln T P (2 ^ p) (d + 1)).testBit p = true) (fun d => nI (d + 1)) mI P 0 = tw_fd (fun d => (tw_ln T P (2 ^ p) (d + 1)).testBit p = true) (fun d => nI (d + 1)) mI 8 0 := by
    have := tw_fd_x (c := fun d => (tw_ln T P (2 ^ p) (d + 1)).testBit p = true) (v := fun d => nI (d + 1)) (d := mI) (8 - P) P 0 (fun ⟨j, a, b, hc⟩ => by
      obtain ⟨d, d1, d2⟩ := tw_back h8 hx hp ⟨j, by omega, hc⟩
      exact ⟨d, by omega, by omega, d2⟩)
    rw [e8] at this
    exact this.symm
  rw [ex]
  refine tw_lp_find (G := fun v => k v (sh, μ1, la, n)) 8 (fun i => (nI (tw_ln T P (2 ^ p) i), nI (i + 1))) (fun d => (tw_ln T P (2 ^ p) (d + 1)).testBit p = true) (fun d => nI (d + 1)) mI rfl ?_ ?_
  · intro i hi rec
    have hl := tw_ln_l (T := T) h8 hx i
    obtain ⟨g1, g2, -⟩ := tw_gn_e T h8 hl
    have eb : tw_ln T P (2 ^ p) (i + 1) = tw_gn T P (tw_ln T P (2 ^ p) i) := rfl
    rw [eb]
    generalize tw_ln T P (2 ^ p) i = y at *
    have E1 := fun k => m_guessedBy (μ := μ1) (P := P) (la := la) (n := n) (v := nI y) hM (by rw [hT]; exact W) k
    rw [hT, g1] at E1
    have eq := tw_isbN (x := tw_gn T P y) (p := p) (by omega) (by omega)
    by_cases q : (tw_gn T P y).testBit p = true
    · rw [if_pos q]
      simp (disch := omega) only [↓E1, ↓m_has, eq, q, ↓MoV0 hM, ↓MoI0_70 hM, ↓MoP0_70 hM, ↓MoZ0_70 hM, ↓MoG0_71 hM, ↓MoG0_72 hM, ↓MoG0_73 hM, ↓MoG0_74 hM, ↓MoG0_75 hM, ↓MoI0_76 hM, ↓MoP0_76 hM, ↓MoZ0_76 hM, ↓MoI0_77 hM, ↓MoP0_77 hM, ↓MoZ0_77 hM, ↓MoG0_78 hM, ↓MoI0_79 hM, ↓MoP0_79 hM, ↓MoZ0_79 hM, ↓MoI0_80 hM, ↓MoP0_80 hM, ↓MoZ0_80 hM, ↓MoI0_81 hM, ↓MoP0_81 hM, ↓MoZ0_81 hM, ↓MoI0_82 hM, ↓MoP0_82 hM, ↓MoZ0_82 hM, ↓MoI0_83 hM, ↓MoP0_83 hM, ↓MoZ0_83 hM, ↓MoI0_84 hM, ↓MoP0_84 hM, ↓MoZ0_84 hM, ↓MoG0_85 hM, ↓MoI0_86 hM, ↓MoP0_86 hM, ↓MoZ0_86 hM, ↓MoG0_87 hM, ↓MoI0_88 hM, ↓MoP0_88 hM, ↓MoZ0_88 hM, ↓MoG0_89 hM, ↓MoG0_90 hM, ↓MoG0_91 hM, ↓MoG0_92 hM, ↓MoL0 hM, ↓MoS0 hM, ↓MoL1 hM, ↓MoS1 hM, ↓MoL2 hM, ↓MoS2 hM, ↓MoL3 hM, ↓MoS3 hM, ↓MoL4 hM, ↓MoS4 hM, ↓MoL5 hM, ↓MoS5 hM, ↓MoL6 hM, ↓MoS6 hM, ↓MoL7 hM, ↓MoS7 hM, ↓MoL8 hM, ↓MoS8 hM, ↓MoL9 hM, ↓MoS9 hM, ↓MoL10 hM, ↓MoS10 hM, ↓MoL11 hM, ↓MoS11 hM, ↓A_if, ↓A_jn, ↓A_lt, ↓A_rz, ↓A_rn, ↓A_nzi, ↓A_nzl, ↓A_nn1, ↓A_nn0, ↓reduceIte, true_and, and_true, if_true, if_false, ite_true, ite_false, reduceIte, tl_0, tl_1, tl_2, tl_3, tl_4, tl_5, tl_6, tl_7, tl_8, tl_9, tl_10, tl_11, tl_12, tl_13, tl_14, tl_15, tl_16, tl_17, tl_18, tl_19, tl_20, tl_21, tl_22, tl_23, tl_24, tl_25, tl_26, tl_27, tl_28, tl_29, tl_30, tl_31, tl_32, tl_33, tl_34, tl_35, tl_36, tl_37, tl_38, tl_39, tl_40, tl_41, tl_42, tl_43, tl_44, tl_45, tl_46, tl_47, tl_48, tl_49, tl_50, tl_51, tl_52, tl_53, tl_54, tl_57, tl_59, tl_60, tl_62, tl_63, tl_64, tl_97, tl_99, tl_100, tl_120, tl_122, tl_192, tl_193, tl_194, tl_195, tl_196, tl_255, tl_256, tl_299, tl_400, tl_401, tl_492, tl_493, tl_541, tl_849, tl_999, tl_1000, tl_1341, tl_1342, tl_1390, tl_2190, tl_5412, tl_5904, tl_9999, tl_12345, tl_32767, tl_65536, tl_1000000, tl_252645135, tl_858993459, tl_1103515245, tl_1431655765, nz_31, nz_c31, eq_self, or_true, true_or, or_false, false_or, Nat.add_zero, nz_lt, nz_le, nz_eq, nz_cl, nz_sub, nI_add, pk_mul, nt_lt, nf_lt, nf_eq, nz_mI, mI_eq, mI_eq', mI_lt, mI_gt, mI_add, ↓j_max, ↓j_min, Nat.sub_sub, Nat.reduceAdd, Nat.reduceSub, Nat.reduceLT, Nat.reduceEqDiff, Bool.false_eq_true]
    · rw [if_neg q]
      simp (disch := omega) only [↓E1, ↓m_has, eq, q, ↓MoV0 hM, ↓MoI0_70 hM, ↓MoP0_70 hM, ↓MoZ0_70 hM, ↓MoG0_71 hM, ↓MoG0_72 hM, ↓MoG0_73 hM, ↓MoG0_74 hM, ↓MoG0_75 hM, ↓MoI0_76 hM, ↓MoP0_76 hM, ↓MoZ0_76 hM, ↓MoI0_77 hM, ↓MoP0_77 hM, ↓MoZ0_77 hM, ↓MoG0_78 hM, ↓MoI0_79 hM, ↓MoP0_79 hM, ↓MoZ0_79 hM, ↓MoI0_80 hM, ↓MoP0_80 hM, ↓MoZ0_80 hM, ↓MoI0_81 hM, ↓MoP0_81 hM, ↓MoZ0_81 hM, ↓MoI0_82 hM, ↓MoP0_82 hM, ↓MoZ0_82 hM, ↓MoI0_83 hM, ↓MoP0_83 hM, ↓MoZ0_83 hM, ↓MoI0_84 hM, ↓MoP0_84 hM, ↓MoZ0_84 hM, ↓MoG0_85 hM, ↓MoI0_86 hM, ↓MoP0_86 hM, ↓MoZ0_86 hM, ↓MoG0_87 hM, ↓MoI0_88 hM, ↓MoP0_88 hM, ↓MoZ0_88 hM, ↓MoG0_89 hM, ↓MoG0_90 hM, ↓MoG0_91 hM, ↓MoG0_92 hM, ↓MoL0 hM, ↓MoS0 hM, ↓MoL1 hM, ↓MoS1 hM, ↓MoL2 hM, ↓MoS2 hM, ↓MoL3 hM, ↓MoS3 hM, ↓MoL4 hM, ↓MoS4 hM, ↓MoL5 hM, ↓MoS5 hM, ↓MoL6 hM, ↓MoS6 hM, ↓MoL7 hM, ↓MoS7 hM, ↓MoL8 hM, ↓MoS8 hM, ↓MoL9 hM, ↓MoS9 hM, ↓MoL10 hM, ↓MoS10 hM, ↓MoL11 hM, ↓MoS11 hM, ↓A_if, ↓A_jn, ↓A_lt, ↓A_rz, ↓A_rn, ↓A_nzi, ↓A_nzl, ↓A_nn1, ↓A_nn0, ↓reduceIte, true_and, and_true, if_true, if_false, ite_true, ite_false, reduceIte, tl_0, tl_1, tl_2, tl_3, tl_4, tl_5, tl_6, tl_7, tl_8, tl_9, tl_10, tl_11, tl_12, tl_13, tl_14, tl_15, tl_16, tl_17, tl_18, tl_19, tl_20, tl_21, tl_22, tl_23, tl_24, tl_25, tl_26, tl_27, tl_28, tl_29, tl_30, tl_31, tl_32, tl_33, tl_34, tl_35, tl_36, tl_37, tl_38, tl_39, tl_40, tl_41, tl_42, tl_43, tl_44, tl_45, tl_46, tl_47, tl_48, tl_49, tl_50, tl_51, tl_52, tl_53, tl_54, tl_57, tl_59, tl_60, tl_62, tl_63, tl_64, tl_97, tl_99, tl_100, tl_120, tl_122, tl_192, tl_193, tl_194, tl_195, tl_196, tl_255, tl_256, tl_299, tl_400, tl_401, tl_492, tl_493, tl_541, tl_849, tl_999, tl_1000, tl_1341, tl_1342, tl_1390, tl_2190, tl_5412, tl_5904, tl_9999, tl_12345, tl_32767, tl_65536, tl_1000000, tl_252645135, tl_858993459, tl_1103515245, tl_1431655765, nz_31, nz_c31, eq_self, or_true, true_or, or_false, false_or, Nat.add_zero, nz_lt, nz_le, nz_eq, nz_cl, nz_sub, nI_add, pk_mul, nt_lt, nf_lt, nf_eq, nz_mI, mI_eq, mI_eq', mI_lt, mI_gt, mI_add, ↓j_max, ↓j_min, Nat.sub_sub, Nat.reduceAdd, Nat.reduceSub, Nat.reduceLT, Nat.reduceEqDiff, Bool.false_eq_true]
  · intro rec
    simp (disch := omega) only [↓MoV0 hM, ↓MoI0_70 hM, ↓MoP0_70 hM, ↓MoZ0_70 hM, ↓MoG0_71 hM, ↓MoG0_72 hM, ↓MoG0_73 hM, ↓MoG0_74 hM, ↓MoG0_75 hM, ↓MoI0_76 hM, ↓MoP0_76 hM, ↓MoZ0_76 hM, ↓MoI0_77 hM, ↓MoP0_77 hM, ↓MoZ0_77 hM, ↓MoG0_78 hM, ↓MoI0_79 hM, ↓MoP0_79 hM, ↓MoZ0_79 hM, ↓MoI0_80 hM, ↓MoP0_80 hM, ↓MoZ0_80 hM, ↓MoI0_81 hM, ↓MoP0_81 hM, ↓MoZ0_81 hM, ↓MoI0_82 hM, ↓MoP0_82 hM, ↓MoZ0_82 hM, ↓MoI0_83 hM, ↓MoP0_83 hM, ↓MoZ0_83 hM, ↓MoI0_84 hM, ↓MoP0_84 hM, ↓MoZ0_84 hM, ↓MoG0_85 hM, ↓MoI0_86 hM, ↓MoP0_86 hM, ↓MoZ0_86 hM, ↓MoG0_87 hM, ↓MoI0_88 hM, ↓MoP0_88 hM, ↓MoZ0_88 hM, ↓MoG0_89 hM, ↓MoG0_90 hM, ↓MoG0_91 hM, ↓MoG0_92 hM, ↓MoL0 hM, ↓MoS0 hM, ↓MoL1 hM, ↓MoS1 hM, ↓MoL2 hM, ↓MoS2 hM, ↓MoL3 hM, ↓MoS3 hM, ↓MoL4 hM, ↓MoS4 hM, ↓MoL5 hM, ↓MoS5 hM, ↓MoL6 hM, ↓MoS6 hM, ↓MoL7 hM, ↓MoS7 hM, ↓MoL8 hM, ↓MoS8 hM, ↓MoL9 hM, ↓MoS9 hM, ↓MoL10 hM, ↓MoS10 hM, ↓MoL11 hM, ↓MoS11 hM, ↓A_if, ↓A_jn, ↓A_lt, ↓A_rz, ↓A_rn, ↓A_nzi, ↓A_nzl, ↓A_nn1, ↓A_nn0, ↓reduceIte, true_and, and_true, if_true, if_false, ite_true, ite_false, reduceIte, tl_0, tl_1, tl_2, tl_3, tl_4, tl_5, tl_6, tl_7, tl_8, tl_9, tl_10, tl_11, tl_12, tl_13, tl_14, tl_15, tl_16, tl_17, tl_18, tl_19, tl_20, tl_21, tl_22, tl_23, tl_24, tl_25, tl_26, tl_27, tl_28, tl_29, tl_30, tl_31, tl_32, tl_33, tl_34, tl_35, tl_36, tl_37, tl_38, tl_39, tl_40, tl_41, tl_42, tl_43, tl_44, tl_45, tl_46, tl_47, tl_48, tl_49, tl_50, tl_51, tl_52, tl_53, tl_54, tl_57, tl_59, tl_60, tl_62, tl_63, tl_64, tl_97, tl_99, tl_100, tl_120, tl_122, tl_192, tl_193, tl_194, tl_195, tl_196, tl_255, tl_256, tl_299, tl_400, tl_401, tl_492, tl_493, tl_541, tl_849, tl_999, tl_1000, tl_1341, tl_1342, tl_1390, tl_2190, tl_5412, tl_5904, tl_9999, tl_12345, tl_32767, tl_65536, tl_1000000, tl_252645135, tl_858993459, tl_1103515245, tl_1431655765, nz_31, nz_c31, eq_self, or_true, true_or, or_false, false_or, Nat.add_zero, nz_lt, nz_le, nz_eq, nz_cl, nz_sub, nI_add, pk_mul, nt_lt, nf_lt, nf_eq, nz_mI, mI_eq, mI_eq', mI_lt, mI_gt, mI_add, ↓j_max, ↓j_min, Nat.sub_sub, Nat.reduceAdd, Nat.reduceSub, Nat.reduceLT, Nat.reduceEqDiff, Bool.false_eq_true]
theorem L30 (hI : tw_IV G a0 b L (sh, μ, la, n)) (hi : i + 6 ≤ L) (hj : ∀ M, tw_IV G a0 b L M → j () M) (k : Int32 → tw_Mem → Prop) : f_Lc30 a0 b (b + 168) (b + 181) (nI i) j k (sh, μ, la, n) := by
  obtain ⟨lw, kl, P, hS, W, H, HL, HR, HI, HT, hf⟩ := tw_IV_e hI
  have hS2 := hS
  obtain ⟨hX, hlw, hkl, ⟨hTa, hTx⟩, hTn, hTs, hTk, hMe, hMi, hMt, hTw, hPa, hSe, hMo, hOu, hSc, hL3, hab, hlwc, hklc, hlwn, hkln, hbn, hlk⟩ := hS2
  have h8 := W.2.1
  have hsc := fun (j : Nat) (hj : j < L) (μ : Nat → Nat → Int32) (la : Nat → Nat → Int64) (n : Nat) (k : Int32 → tw_Mem → Prop) => tw_scr (μ := μ) (la := la) (n := n) hSc hL3 hj k
  have hs0 := hsc (i + 1) (by omega)
  have hs1 := hsc (i + 2) (by omega)
  have hs2 := hsc (i + 3) (by omega)
  have hs3 := hsc (i + 4) (by omega)
  have hs4 := hsc (i + 5) (by omega)
  have hlG : ∀ (μ : Nat → Nat → Int32) (la : Nat → Nat → Int64) (n : Nat) (k : Nat → tw_Mem → Prop), tw_gr 66 b k (sh, μ, la, n) = k lw (sh, μ, la, n) := fun μ la n k => tw_lawref hX hlw k
  have hlV : ∀ (μ : Nat → Nat → Int32) (la : Nat → Nat → Int64) (n : Nat) (F : tw_Mem → Prop), tw_iv 0 lw F (sh, μ, la, n) = F (sh, μ, la, n) := fun μ la n F => by rw [A_iv, tw_is_T HL.1, true_and]
  obtain ⟨μ1, hpi, hpt, qm, hT1, h70, ha1, hj1⟩ := tw_thr0 (a0 := a0) (μ := μ) hMo hab
  have fin : ∀ {μ2 : Nat → Nat → Int32} {la2 : Nat → Nat → Int64} {n2 : Nat}, tw_qm b μ μ2 → n ≤ n2 → j () (sh, μ2, la2, n2) := fun q hn => hj _ (tw_IV_q hS W H HL HR HI HT hf tw_qc_r q hn)
  have finq : ∀ {μc μ2 : Nat → Nat → Int32} {la2 : Nat → Nat → Int64} {n2 : Nat}, tw_qc b lw μ μc → tw_qm b μc μ2 → n ≤ n2 → j () (sh, μ2, la2, n2) := fun qc q hn => hj _ (tw_IV_q hS W H HL HR HI HT hf qc q hn)
  generalize hT : μ (b + 169) = T at *
  have hPm : μ1 (b + 168 + 1) 0 = nI P := by rw [hT1]; exact W.1
  by_cases q1 : tw_va (μ a0 (i + 1)) P = true
  · obtain ⟨p, hp, ep⟩ := tw_va_n (by omega) q1
    rw [ep] at q1
    by_cases q2 : tw_va (μ a0 (i + 2)) 9 = true
    · obtain ⟨N, hN, eN⟩ := tw_va_n (by omega) q2
      rw [eN] at q2
      obtain ⟨μc, ⟨F1, g36, gR⟩, E1⟩ := c_guessRows (la := la) (n := n) (v := nI 1) hSe H W.1 h8 (by omega)
      have qc : tw_qc b lw μ μc := fun y h1 h2 h3 => F1 y (by omega)
      have eTc : μc (b + 168 + 1) = T := (qc (b + 169) (by omega) (by omega) (by omega)).trans hT
      have eac : μc a0 = μ a0 := qc a0 (by omega) (by omega) (by omega)
      have E2 := fun k => c_reached (la := la) (n := n) (T := T) hSe g36 h8 gR hp (N := N) (by omega) k
      have E3 := fun (la : Nat → Nat → Int64) k => m_depthO (la := la) (n := n) (μ := μc) (P := P) hMo (by rw [eTc]; exact W) hp hN k
      rw [eTc] at E3
      simp (disch := omega) only [f_Lc30, f_L_depth, f_X11_depth, ↓CxV0 hX, ↓CxG0_56 hX, ↓CxG0_57 hX, ↓CxG0_58 hX, ↓CxG0_59 hX, ↓CxG0_60 hX, ↓CxG0_61 hX, ↓CxG0_62 hX, ↓CxG0_63 hX, ↓CxG0_64 hX, ↓CxG0_65 hX, ↓CxI0_68 hX, ↓CxP0_68 hX, ↓CxZ0_68 hX, ↓CxI0_69 hX, ↓CxP0_69 hX, ↓CxZ0_69 hX, ↓TnV0 hTn, ↓TnG0_39 hTn, ↓TnG0_40 hTn, ↓TnG0_41 hTn, ↓TnG0_42 hTn, ↓TnG0_43 hTn, ↓TnG0_44 hTn, ↓TnG0_45 hTn, ↓TnI0_46 hTn, ↓TnP0_46 hTn, ↓TnZ0_46 hTn, ↓TnI0_47 hTn, ↓TnP0_47 hTn, ↓TnZ0_47 hTn, ↓TnI0_48 hTn, ↓TnP0_48 hTn, ↓TnZ0_48 hTn, ↓TnI0_49 hTn, ↓TnP0_49 hTn, ↓TnZ0_49 hTn, ↓TnI0_50 hTn, ↓TnP0_50 hTn, ↓TnZ0_50 hTn, ↓TnI0_51 hTn, ↓TnP0_51 hTn, ↓TnZ0_51 hTn, ↓TnI0_52 hTn, ↓TnP0_52 hTn, ↓TnZ0_52 hTn, ↓TnV1 hTn, ↓TnG1_19 hTn, ↓TnI1_20 hTn, ↓TnP1_20 hTn, ↓TnZ1_20 hTn, ↓TnI1_21 hTn, ↓TnP1_21 hTn, ↓TnZ1_21 hTn, ↓TnL0 hTn, ↓TnS0 hTn, ↓TnL1 hTn, ↓TnS1 hTn, ↓TnL2 hTn, ↓TnS2 hTn, ↓TnL3 hTn, ↓TnS3 hTn, ↓TnL4 hTn, ↓TnS4 hTn, ↓TnL5 hTn, ↓TnS5 hTn, ↓TnL6 hTn, ↓TnS6 hTn, ↓hs0, ↓hs1, ↓hs2, ↓hs3, ↓hs4, ↓hpi.1, ↓hpi.2, ↓hlG, ↓hlV, ha1, ↓X_sl hOu, ↓X_ll hOu, tw_upLa, tw_cmp0, f_X12_thrown, f_X12_throwsIf, ↓A_th, ↓A_xc, tw_xE1, tw_xE2, tw_xE3, tw_xE4, tw_xE5, tw_xE6, ↓MoV0 hMo, ↓MoI0_70 hMo, ↓MoZ0_70 hMo, ↓MoG0_71 hMo, ↓MoG0_72 hMo, ↓MoG0_73 hMo, ↓MoG0_74 hMo, ↓MoG0_75 hMo, ↓MoI0_76 hMo, ↓MoP0_76 hMo, ↓MoZ0_76 hMo, ↓MoI0_77 hMo, ↓MoP0_77 hMo, ↓MoZ0_77 hMo, ↓MoG0_78 hMo, ↓MoI0_79 hMo, ↓MoP0_79 hMo, ↓MoZ0_79 hMo, ↓MoI0_80 hMo, ↓MoP0_80 hMo, ↓MoZ0_80 hMo, ↓MoI0_81 hMo, ↓MoP0_81 hMo, ↓MoZ0_81 hMo, ↓MoI0_82 hMo, ↓MoP0_82 hMo, ↓MoZ0_82 hMo, ↓MoI0_83 hMo, ↓MoP0_83 hMo, ↓MoZ0_83 hMo, ↓MoI0_84 hMo, ↓MoP0_84 hMo, ↓MoZ0_84 hMo, ↓MoG0_85 hMo, ↓MoI0_86 hMo, ↓MoP0_86 hMo, ↓MoZ0_86 hMo, ↓MoG0_87 hMo, ↓MoI0_88 hMo, ↓MoP0_88 hMo, ↓MoZ0_88 hMo, ↓MoG0_89 hMo, ↓MoG0_90 hMo, ↓MoG0_91 hMo, ↓MoG0_92 hMo, ↓MoL0 hMo, ↓MoS0 hMo, ↓MoL1 hMo, ↓MoS1 hMo, ↓MoL2 hMo, ↓MoS2 hMo, ↓MoL3 hMo, ↓MoS3 hMo, ↓MoL4 hMo, ↓MoS4 hMo, ↓MoL5 hMo, ↓MoS5 hMo, ↓MoL6 hMo, ↓MoS6 hMo, ↓MoL7 hMo, ↓MoS7 hMo, ↓MoL8 hMo, ↓MoS8 hMo, ↓MoL9 hMo, ↓MoS9 hMo, ↓MoL10 hMo, ↓MoS10 hMo, ↓MoL11 hMo, ↓MoS11 hMo, ↓hpt, tw_ua, tw_uk, h70, tw_up_ne, ↓A_if, ↓A_jn, ↓A_lt, ↓A_rz, ↓A_rn, ↓A_nzi, ↓A_nzl, ↓A_nn1, ↓A_nn0, ↓reduceIte, true_and, and_true, if_true, if_false, ite_true, ite_false, reduceIte, tl_0, tl_1, tl_2, tl_3, tl_4, tl_5, tl_6, tl_7, tl_8, tl_9, tl_10, tl_11, tl_12, tl_13, tl_14, tl_15, tl_16, tl_17, tl_18, tl_19, tl_20, tl_21, tl_22, tl_23, tl_24, tl_25, tl_26, tl_27, tl_28, tl_29, tl_30, tl_31, tl_32, tl_33, tl_34, tl_35, tl_36, tl_37, tl_38, tl_39, tl_40, tl_41, tl_42, tl_43, tl_44, tl_45, tl_46, tl_47, tl_48, tl_49, tl_50, tl_51, tl_52, tl_53, tl_54, tl_57, tl_59, tl_60, tl_62, tl_63, tl_64, tl_97, tl_99, tl_100, tl_120, tl_122, tl_192, tl_193, tl_194, tl_195, tl_196, tl_255, tl_256, tl_299, tl_400, tl_401, tl_492, tl_493, tl_541, tl_849, tl_999, tl_1000, tl_1341, tl_1342, tl_1390, tl_2190, tl_5412, tl_5904, tl_9999, tl_12345, tl_32767, tl_65536, tl_1000000, tl_252645135, tl_858993459, tl_1103515245, tl_1431655765, nz_31, nz_c31, eq_self, or_true, true_or, or_false, false_or, Nat.add_zero, nz_lt, nz_le, nz_eq, nz_cl, nz_sub, nI_add, pk_mul, nt_lt, nf_lt, nf_eq, nz_mI, mI_eq, mI_eq', mI_lt, mI_gt, mI_add, ↓j_max, ↓j_min, Nat.sub_sub, Nat.reduceAdd, Nat.reduceSub, Nat.reduceLT, Nat.reduceEqDiff, Bool.false_eq_true, ↓c_need hX H W.1 h8, ↓c_numR, ep, eN, q1, q2, eac, ↓E1, ↓E2, ↓E3, ↓SeV0 hSe, ↓SeG0_32 hSe, ↓SeG0_33 hSe, ↓SeG0_34 hSe, ↓SeG0_35 hSe, ↓SeI0_36 hSe, ↓SeP0_36 hSe, ↓SeZ0_36 hSe, ↓SeL0 hSe, ↓SeS0 hSe, ↓SeL1 hSe, ↓SeS1 hSe, ↓SeL2 hSe, ↓SeS2 hSe, ↓SeL3 hSe, ↓SeS3 hSe]
      exact finq qc tw_qm_70 (Nat.le_refl _)
    · simp (disch := omega) only [f_Lc30, f_L_depth, f_X11_depth, ↓CxV0 hX, ↓CxG0_56 hX, ↓CxG0_57 hX, ↓CxG0_58 hX, ↓CxG0_59 hX, ↓CxG0_60 hX, ↓CxG0_61 hX, ↓CxG0_62 hX, ↓CxG0_63 hX, ↓CxG0_64 hX, ↓CxG0_65 hX, ↓CxI0_68 hX, ↓CxP0_68 hX, ↓CxZ0_68 hX, ↓CxI0_69 hX, ↓CxP0_69 hX, ↓CxZ0_69 hX, ↓TnV0 hTn, ↓TnG0_39 hTn, ↓TnG0_40 hTn, ↓TnG0_41 hTn, ↓TnG0_42 hTn, ↓TnG0_43 hTn, ↓TnG0_44 hTn, ↓TnG0_45 hTn, ↓TnI0_46 hTn, ↓TnP0_46 hTn, ↓TnZ0_46 hTn, ↓TnI0_47 hTn, ↓TnP0_47 hTn, ↓TnZ0_47 hTn, ↓TnI0_48 hTn, ↓TnP0_48 hTn, ↓TnZ0_48 hTn, ↓TnI0_49 hTn, ↓TnP0_49 hTn, ↓TnZ0_49 hTn, ↓TnI0_50 hTn, ↓TnP0_50 hTn, ↓TnZ0_50 hTn, ↓TnI0_51 hTn, ↓TnP0_51 hTn, ↓TnZ0_51 hTn, ↓TnI0_52 hTn, ↓TnP0_52 hTn, ↓TnZ0_52 hTn, ↓TnV1 hTn, ↓TnG1_19 hTn, ↓TnI1_20 hTn, ↓TnP1_20 hTn, ↓TnZ1_20 hTn, ↓TnI1_21 hTn, ↓TnP1_21 hTn, ↓TnZ1_21 hTn, ↓TnL0 hTn, ↓TnS0 hTn, ↓TnL1 hTn, ↓TnS1 hTn, ↓TnL2 hTn, ↓TnS2 hTn, ↓TnL3 hTn, ↓TnS3 hTn, ↓TnL4 hTn, ↓TnS4 hTn, ↓TnL5 hTn, ↓TnS5 hTn, ↓TnL6 hTn, ↓TnS6 hTn, ↓hs0, ↓hs1, ↓hs2, ↓hs3, ↓hs4, ↓hpi.1, ↓hpi.2, ↓hlG, ↓hlV, ha1, ↓X_sl hOu, ↓X_ll hOu, tw_upLa, tw_cmp0, f_X12_thrown, f_X12_throwsIf, ↓A_th, ↓A_xc, tw_xE1, tw_xE2, tw_xE3, tw_xE4, tw_xE5, tw_xE6, ↓MoV0 hMo, ↓MoI0_70 hMo, ↓MoZ0_70 hMo, ↓MoG0_71 hMo, ↓MoG0_72 hMo, ↓MoG0_73 hMo, ↓MoG0_74 hMo, ↓MoG0_75 hMo, ↓MoI0_76 hMo, ↓MoP0_76 hMo, ↓MoZ0_76 hMo, ↓MoI0_77 hMo, ↓MoP0_77 hMo, ↓MoZ0_77 hMo, ↓MoG0_78 hMo, ↓MoI0_79 hMo, ↓MoP0_79 hMo, ↓MoZ0_79 hMo, ↓MoI0_80 hMo, ↓MoP0_80 hMo, ↓MoZ0_80 hMo, ↓MoI0_81 hMo, ↓MoP0_81 hMo, ↓MoZ0_81 hMo, ↓MoI0_82 hMo, ↓MoP0_82 hMo, ↓MoZ0_82 hMo, ↓MoI0_83 hMo, ↓MoP0_83 hMo, ↓MoZ0_83 hMo, ↓MoI0_84 hMo, ↓MoP0_84 hMo, ↓MoZ0_84 hMo, ↓MoG0_85 hMo, ↓MoI0_86 hMo, ↓MoP0_86 hMo, ↓MoZ0_86 hMo, ↓MoG0_87 hMo, ↓MoI0_88 hMo, ↓MoP0_88 hMo, ↓MoZ0_88 hMo, ↓MoG0_89 hMo, ↓MoG0_90 hMo, ↓MoG0_91 hMo, ↓MoG0_92 hMo, ↓MoL0 hMo, ↓MoS0 hMo, ↓MoL1 hMo, ↓MoS1 hMo, ↓MoL2 hMo, ↓MoS2 hMo, ↓MoL3 hMo, ↓MoS3 hMo, ↓MoL4 hMo, ↓MoS4 hMo, ↓MoL5 hMo, ↓MoS5 hMo, ↓MoL6 hMo, ↓MoS6 hMo, ↓MoL7 hMo, ↓MoS7 hMo, ↓MoL8 hMo, ↓MoS8 hMo, ↓MoL9 hMo, ↓MoS9 hMo, ↓MoL10 hMo, ↓MoS10 hMo, ↓MoL11 hMo, ↓MoS11 hMo, ↓hpt, tw_ua, tw_uk, h70, tw_up_ne, ↓A_if, ↓A_jn, ↓A_lt, ↓A_rz, ↓A_rn, ↓A_nzi, ↓A_nzl, ↓A_nn1, ↓A_nn0, ↓reduceIte, true_and, and_true, if_true, if_false, ite_true, ite_false, reduceIte, tl_0, tl_1, tl_2, tl_3, tl_4, tl_5, tl_6, tl_7, tl_8, tl_9, tl_10, tl_11, tl_12, tl_13, tl_14, tl_15, tl_16, tl_17, tl_18, tl_19, tl_20, tl_21, tl_22, tl_23, tl_24, tl_25, tl_26, tl_27, tl_28, tl_29, tl_30, tl_31, tl_32, tl_33, tl_34, tl_35, tl_36, tl_37, tl_38, tl_39, tl_40, tl_41, tl_42, tl_43, tl_44, tl_45, tl_46, tl_47, tl_48, tl_49, tl_50, tl_51, tl_52, tl_53, tl_54, tl_57, tl_59, tl_60, tl_62, tl_63, tl_64, tl_97, tl_99, tl_100, tl_120, tl_122, tl_192, tl_193, tl_194, tl_195, tl_196, tl_255, tl_256, tl_299, tl_400, tl_401, tl_492, tl_493, tl_541, tl_849, tl_999, tl_1000, tl_1341, tl_1342, tl_1390, tl_2190, tl_5412, tl_5904, tl_9999, tl_12345, tl_32767, tl_65536, tl_1000000, tl_252645135, tl_858993459, tl_1103515245, tl_1431655765, nz_31, nz_c31, eq_self, or_true, true_or, or_false, false_or, Nat.add_zero, nz_lt, nz_le, nz_eq, nz_cl, nz_sub, nI_add, pk_mul, nt_lt, nf_lt, nf_eq, nz_mI, mI_eq, mI_eq', mI_lt, mI_gt, mI_add, ↓j_max, ↓j_min, Nat.sub_sub, Nat.reduceAdd, Nat.reduceSub, Nat.reduceLT, Nat.reduceEqDiff, Bool.false_eq_true, f_X12_depth, ↓c_need hX H W.1 h8, ↓m_nob hMo hPm h8, ↓c_numR, ↓m_inR, ep, q1, q2]
      (first | exact fin qm (Nat.le_refl _) | exact fin tw_qm_70 (Nat.le_refl _) | exact fin (tw_qm_t qm tw_qm_70) (Nat.le_refl _) | (intro n2 hn2; first | exact fin qm hn2 | exact fin (tw_qm_t qm tw_qm_70) hn2))
  · simp (disch := omega) only [f_Lc30, f_L_depth, f_X11_depth, ↓CxV0 hX, ↓CxG0_56 hX, ↓CxG0_57 hX, ↓CxG0_58 hX, ↓CxG0_59 hX, ↓CxG0_60 hX, ↓CxG0_61 hX, ↓CxG0_62 hX, ↓CxG0_63 hX, ↓CxG0_64 hX, ↓CxG0_65 hX, ↓CxI0_68 hX, ↓CxP0_68 hX, ↓CxZ0_68 hX, ↓CxI0_69 hX, ↓CxP0_69 hX, ↓CxZ0_69 hX, ↓TnV0 hTn, ↓TnG0_39 hTn, ↓TnG0_40 hTn, ↓TnG0_41 hTn, ↓TnG0_42 hTn, ↓TnG0_43 hTn, ↓TnG0_44 hTn, ↓TnG0_45 hTn, ↓TnI0_46 hTn, ↓TnP0_46 hTn, ↓TnZ0_46 hTn, ↓TnI0_47 hTn, ↓TnP0_47 hTn, ↓TnZ0_47 hTn, ↓TnI0_48 hTn, ↓TnP0_48 hTn, ↓TnZ0_48 hTn, ↓TnI0_49 hTn, ↓TnP0_49 hTn, ↓TnZ0_49 hTn, ↓TnI0_50 hTn, ↓TnP0_50 hTn, ↓TnZ0_50 hTn, ↓TnI0_51 hTn, ↓TnP0_51 hTn, ↓TnZ0_51 hTn, ↓TnI0_52 hTn, ↓TnP0_52 hTn, ↓TnZ0_52 hTn, ↓TnV1 hTn, ↓TnG1_19 hTn, ↓TnI1_20 hTn, ↓TnP1_20 hTn, ↓TnZ1_20 hTn, ↓TnI1_21 hTn, ↓TnP1_21 hTn, ↓TnZ1_21 hTn, ↓TnL0 hTn, ↓TnS0 hTn, ↓TnL1 hTn, ↓TnS1 hTn, ↓TnL2 hTn, ↓TnS2 hTn, ↓TnL3 hTn, ↓TnS3 hTn, ↓TnL4 hTn, ↓TnS4 hTn, ↓TnL5 hTn, ↓TnS5 hTn, ↓TnL6 hTn, ↓TnS6 hTn, ↓hs0, ↓hs1, ↓hs2, ↓hs3, ↓hs4, ↓hpi.1, ↓hpi.2, ↓hlG, ↓hlV, ha1, ↓X_sl hOu, ↓X_ll hOu, tw_upLa, tw_cmp0, f_X12_thrown, f_X12_throwsIf, ↓A_th, ↓A_xc, tw_xE1, tw_xE2, tw_xE3, tw_xE4, tw_xE5, tw_xE6, ↓MoV0 hMo, ↓MoI0_70 hMo, ↓MoZ0_70 hMo, ↓MoG0_71 hMo, ↓MoG0_72 hMo, ↓MoG0_73 hMo, ↓MoG0_74 hMo, ↓MoG0_75 hMo, ↓MoI0_76 hMo, ↓MoP0_76 hMo, ↓MoZ0_76 hMo, ↓MoI0_77 hMo, ↓MoP0_77 hMo, ↓MoZ0_77 hMo, ↓MoG0_78 hMo, ↓MoI0_79 hMo, ↓MoP0_79 hMo, ↓MoZ0_79 hMo, ↓MoI0_80 hMo, ↓MoP0_80 hMo, ↓MoZ0_80 hMo, ↓MoI0_81 hMo, ↓MoP0_81 hMo, ↓MoZ0_81 hMo, ↓MoI0_82 hMo, ↓MoP0_82 hMo, ↓MoZ0_82 hMo, ↓MoI0_83 hMo, ↓MoP0_83 hMo, ↓MoZ0_83 hMo, ↓MoI0_84 hMo, ↓MoP0_84 hMo, ↓MoZ0_84 hMo, ↓MoG0_85 hMo, ↓MoI0_86 hMo, ↓MoP0_86 hMo, ↓MoZ0_86 hMo, ↓MoG0_87 hMo, ↓MoI0_88 hMo, ↓MoP0_88 hMo, ↓MoZ0_88 hMo, ↓MoG0_89 hMo, ↓MoG0_90 hMo, ↓MoG0_91 hMo, ↓MoG0_92 hMo, ↓MoL0 hMo, ↓MoS0 hMo, ↓MoL1 hMo, ↓MoS1 hMo, ↓MoL2 hMo, ↓MoS2 hMo, ↓MoL3 hMo, ↓MoS3 hMo, ↓MoL4 hMo, ↓MoS4 hMo, ↓MoL5 hMo, ↓MoS5 hMo, ↓MoL6 hMo, ↓MoS6 hMo, ↓MoL7 hMo, ↓MoS7 hMo, ↓MoL8 hMo, ↓MoS8 hMo, ↓MoL9 hMo, ↓MoS9 hMo, ↓MoL10 hMo, ↓MoS10 hMo, ↓MoL11 hMo, ↓MoS11 hMo, ↓hpt, tw_ua, tw_uk, h70, tw_up_ne, ↓A_if, ↓A_jn, ↓A_lt, ↓A_rz, ↓A_rn, ↓A_nzi, ↓A_nzl, ↓A_nn1, ↓A_nn0, ↓reduceIte, true_and, and_true, if_true, if_false, ite_true, ite_false, reduceIte, tl_0, tl_1, tl_2, tl_3, tl_4, tl_5, tl_6, tl_7, tl_8, tl_9, tl_10, tl_11, tl_12, tl_13, tl_14, tl_15, tl_16, tl_17, tl_18, tl_19, tl_20, tl_21, tl_22, tl_23, tl_24, tl_25, tl_26, tl_27, tl_28, tl_29, tl_30, tl_31, tl_32, tl_33, tl_34, tl_35, tl_36, tl_37, tl_38, tl_39, tl_40, tl_41, tl_42, tl_43, tl_44, tl_45, tl_46, tl_47, tl_48, tl_49, tl_50, tl_51, tl_52, tl_53, tl_54, tl_57, tl_59, tl_60, tl_62, tl_63, tl_64, tl_97, tl_99, tl_100, tl_120, tl_122, tl_192, tl_193, tl_194, tl_195, tl_196, tl_255, tl_256, tl_299, tl_400, tl_401, tl_492, tl_493, tl_541, tl_849, tl_999, tl_1000, tl_1341, tl_1342, tl_1390, tl_2190, tl_5412, tl_5904, tl_9999, tl_12345, tl_32767, tl_65536, tl_1000000, tl_252645135, tl_858993459, tl_1103515245, tl_1431655765, nz_31, nz_c31, eq_self, or_true, true_or, or_false, false_or, Nat.add_zero, nz_lt, nz_le, nz_eq, nz_cl, nz_sub, nI_add, pk_mul, nt_lt, nf_lt, nf_eq, nz_mI, mI_eq, mI_eq', mI_lt, mI_gt, mI_add, ↓j_max, ↓j_min, Nat.sub_sub, Nat.reduceAdd, Nat.reduceSub, Nat.reduceLT, Nat.reduceEqDiff, Bool.false_eq_true, f_X12_depth, ↓c_need hX H W.1 h8, ↓m_nob hMo hPm h8, q1]
    (first | exact fin qm (Nat.le_refl _) | exact fin tw_qm_70 (Nat.le_refl _) | exact fin (tw_qm_t qm tw_qm_70) (Nat.le_refl _) | (intro n2 hn2; first | exact fin qm hn2 | exact fin (tw_qm_t qm tw_qm_70) hn2))
theorem L31 (hI : tw_IV G a0 b L (sh, μ, la, n)) (hi : i + 6 ≤ L) (hj : ∀ M, tw_IV G a0 b L M → j () M) (k : Int32 → tw_Mem → Prop) : f_Lc31 a0 b (b + 168) (b + 181) (nI i) j k (sh, μ, la, n) := by
  obtain ⟨lw, kl, P, hS, W, H, HL, HR, HI, HT, hf⟩ := tw_IV_e hI
  have hS2 := hS
  obtain ⟨hX, hlw, hkl, ⟨hTa, hTx⟩, hTn, hTs, hTk, hMe, hMi, hMt, hTw, hPa, hSe, hMo, hOu, hSc, hL3, hab, hlwc, hklc, hlwn, hkln, hbn, hlk⟩ := hS2
  have h8 := W.2.1
  have hsc := fun (j : Nat) (hj : j < L) (μ : Nat → Nat → Int32) (la : Nat → Nat → Int64) (n : Nat) (k : Int32 → tw_Mem → Prop) => tw_scr (μ := μ) (la := la) (n := n) hSc hL3 hj k
  have hs0 := hsc (i + 1) (by omega)
  have hs1 := hsc (i + 2) (by omega)
  have hs2 := hsc (i + 3) (by omega)
  have hs3 := hsc (i + 4) (by omega)
  have hs4 := hsc (i + 5) (by omega)
  have hlG : ∀ (μ : Nat → Nat → Int32) (la : Nat → Nat → Int64) (n : Nat) (k : Nat → tw_Mem → Prop), tw_gr 66 b k (sh, μ, la, n) = k lw (sh, μ, la, n) := fun μ la n k => tw_lawref hX hlw k
  have hlV : ∀ (μ : Nat → Nat → Int32) (la : Nat → Nat → Int64) (n : Nat) (F : tw_Mem → Prop), tw_iv 0 lw F (sh, μ, la, n) = F (sh, μ, la, n) := fun μ la n F => by rw [A_iv, tw_is_T HL.1, true_and]
  obtain ⟨μ1, hpi, hpt, qm, hT1, h70, ha1, hj1⟩ := tw_thr0 (a0 := a0) (μ := μ) hMo hab
  have fin : ∀ {μ2 : Nat → Nat → Int32} {la2 : Nat → Nat → Int64} {n2 : Nat}, tw_qm b μ μ2 → n ≤ n2 → j () (sh, μ2, la2, n2) := fun q hn => hj _ (tw_IV_q hS W H HL HR HI HT hf tw_qc_r q hn)
  have finq : ∀ {μc μ2 : Nat → Nat → Int32} {la2 : Nat → Nat → Int64} {n2 : Nat}, tw_qc b lw μ μc → tw_qm b μc μ2 → n ≤ n2 → j () (sh, μ2, la2, n2) := fun qc q hn => hj _ (tw_IV_q hS W H HL HR HI HT hf qc q hn)
  generalize hT : μ (b + 169) = T at *
  have hPm : μ1 (b + 168 + 1) 0 = nI P := by rw [hT1]; exact W.1
  by_cases q1 : tw_va (μ a0 (i + 1)) P = true
  · obtain ⟨p, hp, ep⟩ := tw_va_n (by omega) q1
    rw [ep] at q1
    obtain ⟨μc, ⟨F1, g36, gR⟩, E1⟩ := c_guessRows (la := la) (n := n) (v := nI 1) hSe H W.1 h8 (by omega)
    have qc : tw_qc b lw μ μc := fun y h1 h2 h3 => F1 y (by omega)
    have eTc : μc (b + 168 + 1) = T := (qc (b + 169) (by omega) (by omega) (by omega)).trans hT
    have eac : μc a0 = μ a0 := qc a0 (by omega) (by omega) (by omega)
    have E2 := fun k => c_backS (la := la) (n := n) (T := T) hSe g36 h8 gR hp k
    have E3 := fun (la : Nat → Nat → Int64) k => m_circleO (la := la) (n := n) (μ := μc) (P := P) hMo (by rw [eTc]; exact W) hp k
    rw [eTc] at E3
    simp (disch := omega) only [f_Lc31, f_L_circle, f_X11_circle, ↓CxV0 hX, ↓CxG0_56 hX, ↓CxG0_57 hX, ↓CxG0_58 hX, ↓CxG0_59 hX, ↓CxG0_60 hX, ↓CxG0_61 hX, ↓CxG0_62 hX, ↓CxG0_63 hX, ↓CxG0_64 hX, ↓CxG0_65 hX, ↓CxI0_68 hX, ↓CxP0_68 hX, ↓CxZ0_68 hX, ↓CxI0_69 hX, ↓CxP0_69 hX, ↓CxZ0_69 hX, ↓TnV0 hTn, ↓TnG0_39 hTn, ↓TnG0_40 hTn, ↓TnG0_41 hTn, ↓TnG0_42 hTn, ↓TnG0_43 hTn, ↓TnG0_44 hTn, ↓TnG0_45 hTn, ↓TnI0_46 hTn, ↓TnP0_46 hTn, ↓TnZ0_46 hTn, ↓TnI0_47 hTn, ↓TnP0_47 hTn, ↓TnZ0_47 hTn, ↓TnI0_48 hTn, ↓TnP0_48 hTn, ↓TnZ0_48 hTn, ↓TnI0_49 hTn, ↓TnP0_49 hTn, ↓TnZ0_49 hTn, ↓TnI0_50 hTn, ↓TnP0_50 hTn, ↓TnZ0_50 hTn, ↓TnI0_51 hTn, ↓TnP0_51 hTn, ↓TnZ0_51 hTn, ↓TnI0_52 hTn, ↓TnP0_52 hTn, ↓TnZ0_52 hTn, ↓TnV1 hTn, ↓TnG1_19 hTn, ↓TnI1_20 hTn, ↓TnP1_20 hTn, ↓TnZ1_20 hTn, ↓TnI1_21 hTn, ↓TnP1_21 hTn, ↓TnZ1_21 hTn, ↓TnL0 hTn, ↓TnS0 hTn, ↓TnL1 hTn, ↓TnS1 hTn, ↓TnL2 hTn, ↓TnS2 hTn, ↓TnL3 hTn, ↓TnS3 hTn, ↓TnL4 hTn, ↓TnS4 hTn, ↓TnL5 hTn, ↓TnS5 hTn, ↓TnL6 hTn, ↓TnS6 hTn, ↓hs0, ↓hs1, ↓hs2, ↓hs3, ↓hs4, ↓hpi.1, ↓hpi.2, ↓hlG, ↓hlV, ha1, ↓X_sl hOu, ↓X_ll hOu, tw_upLa, tw_cmp0, f_X12_thrown, f_X12_throwsIf, ↓A_th, ↓A_xc, tw_xE1, tw_xE2, tw_xE3, tw_xE4, tw_xE5, tw_xE6, ↓MoV0 hMo, ↓MoI0_70 hMo, ↓MoZ0_70 hMo, ↓MoG0_71 hMo, ↓MoG0_72 hMo, ↓MoG0_73 hMo, ↓MoG0_74 hMo, ↓MoG0_75 hMo, ↓MoI0_76 hMo, ↓MoP0_76 hMo, ↓MoZ0_76 hMo, ↓MoI0_77 hMo, ↓MoP0_77 hMo, ↓MoZ0_77 hMo, ↓MoG0_78 hMo, ↓MoI0_79 hMo, ↓MoP0_79 hMo, ↓MoZ0_79 hMo, ↓MoI0_80 hMo, ↓MoP0_80 hMo, ↓MoZ0_80 hMo, ↓MoI0_81 hMo, ↓MoP0_81 hMo, ↓MoZ0_81 hMo, ↓MoI0_82 hMo, ↓MoP0_82 hMo, ↓MoZ0_82 hMo, ↓MoI0_83 hMo, ↓MoP0_83 hMo, ↓MoZ0_83 hMo, ↓MoI0_84 hMo, ↓MoP0_84 hMo, ↓MoZ0_84 hMo, ↓MoG0_85 hMo, ↓MoI0_86 hMo, ↓MoP0_86 hMo, ↓MoZ0_86 hMo, ↓MoG0_87 hMo, ↓MoI0_88 hMo, ↓MoP0_88 hMo, ↓MoZ0_88 hMo, ↓MoG0_89 hMo, ↓MoG0_90 hMo, ↓MoG0_91 hMo, ↓MoG0_92 hMo, ↓MoL0 hMo, ↓MoS0 hMo, ↓MoL1 hMo, ↓MoS1 hMo, ↓MoL2 hMo, ↓MoS2 hMo, ↓MoL3 hMo, ↓MoS3 hMo, ↓MoL4 hMo, ↓MoS4 hMo, ↓MoL5 hMo, ↓MoS5 hMo, ↓MoL6 hMo, ↓MoS6 hMo, ↓MoL7 hMo, ↓MoS7 hMo, ↓MoL8 hMo, ↓MoS8 hMo, ↓MoL9 hMo, ↓MoS9 hMo, ↓MoL10 hMo, ↓MoS10 hMo, ↓MoL11 hMo, ↓MoS11 hMo, ↓hpt, tw_ua, tw_uk, h70, tw_up_ne, ↓A_if, ↓A_jn, ↓A_lt, ↓A_rz, ↓A_rn, ↓A_nzi, ↓A_nzl, ↓A_nn1, ↓A_nn0, ↓reduceIte, true_and, and_true, if_true, if_false, ite_true, ite_false, reduceIte, tl_0, tl_1, tl_2, tl_3, tl_4, tl_5, tl_6, tl_7, tl_8, tl_9, tl_10, tl_11, tl_12, tl_13, tl_14, tl_15, tl_16, tl_17, tl_18, tl_19, tl_20, tl_21, tl_22, tl_23, tl_24, tl_25, tl_26, tl_27, tl_28, tl_29, tl_30, tl_31, tl_32, tl_33, tl_34, tl_35, tl_36, tl_37, tl_38, tl_39, tl_40, tl_41, tl_42, tl_43, tl_44, tl_45, tl_46, tl_47, tl_48, tl_49, tl_50, tl_51, tl_52, tl_53, tl_54, tl_57, tl_59, tl_60, tl_62, tl_63, tl_64, tl_97, tl_99, tl_100, tl_120, tl_122, tl_192, tl_193, tl_194, tl_195, tl_196, tl_255, tl_256, tl_299, tl_400, tl_401, tl_492, tl_493, tl_541, tl_849, tl_999, tl_1000, tl_1341, tl_1342, tl_1390, tl_2190, tl_5412, tl_5904, tl_9999, tl_12345, tl_32767, tl_65536, tl_1000000, tl_252645135, tl_858993459, tl_1103515245, tl_1431655765, nz_31, nz_c31, eq_self, or_true, true_or, or_false, false_or, Nat.add_zero, nz_lt, nz_le, nz_eq, nz_cl, nz_sub, nI_add, pk_mul, nt_lt, nf_lt, nf_eq, nz_mI, mI_eq, mI_eq', mI_lt, mI_gt, mI_add, ↓j_max, ↓j_min, Nat.sub_sub, Nat.reduceAdd, Nat.reduceSub, Nat.reduceLT, Nat.reduceEqDiff, Bool.false_eq_true, ↓c_need hX H W.1 h8, ep, q1, eac, ↓E1, ↓E2, ↓E3, ↓SeV0 hSe, ↓SeG0_32 hSe, ↓SeG0_33 hSe, ↓SeG0_34 hSe, ↓SeG0_35 hSe, ↓SeI0_36 hSe, ↓SeP0_36 hSe, ↓SeZ0_36 hSe, ↓SeL0 hSe, ↓SeS0 hSe, ↓SeL1 hSe, ↓SeS1 hSe, ↓SeL2 hSe, ↓SeS2 hSe, ↓SeL3 hSe, ↓SeS3 hSe]
    exact finq qc tw_qm_70 (Nat.le_refl _)
  · simp (disch := omega) only [f_Lc31, f_L_circle, f_X11_circle, ↓CxV0 hX, ↓CxG0_56 hX, ↓CxG0_57 hX, ↓CxG0_58 hX, ↓CxG0_59 hX, ↓CxG0_60 hX, ↓CxG0_61 hX, ↓CxG0_62 hX, ↓CxG0_63 hX, ↓CxG0_64 hX, ↓CxG0_65 hX, ↓CxI0_68 hX, ↓CxP0_68 hX, ↓CxZ0_68 hX, ↓CxI0_69 hX, ↓CxP0_69 hX, ↓CxZ0_69 hX, ↓TnV0 hTn, ↓TnG0_39 hTn, ↓TnG0_40 hTn, ↓TnG0_41 hTn, ↓TnG0_42 hTn, ↓TnG0_43 hTn, ↓TnG0_44 hTn, ↓TnG0_45 hTn, ↓TnI0_46 hTn, ↓TnP0_46 hTn, ↓TnZ0_46 hTn, ↓TnI0_47 hTn, ↓TnP0_47 hTn, ↓TnZ0_47 hTn, ↓TnI0_48 hTn, ↓TnP0_48 hTn, ↓TnZ0_48 hTn, ↓TnI0_49 hTn, ↓TnP0_49 hTn, ↓TnZ0_49 hTn, ↓TnI0_50 hTn, ↓TnP0_50 hTn, ↓TnZ0_50 hTn, ↓TnI0_51 hTn, ↓TnP0_51 hTn, ↓TnZ0_51 hTn, ↓TnI0_52 hTn, ↓TnP0_52 hTn, ↓TnZ0_52 hTn, ↓TnV1 hTn, ↓TnG1_19 hTn, ↓TnI1_20 hTn, ↓TnP1_20 hTn, ↓TnZ1_20 hTn, ↓TnI1_21 hTn, ↓TnP1_21 hTn, ↓TnZ1_21 hTn, ↓TnL0 hTn, ↓TnS0 hTn, ↓TnL1 hTn, ↓TnS1 hTn, ↓TnL2 hTn, ↓TnS2 hTn, ↓TnL3 hTn, ↓TnS3 hTn, ↓TnL4 hTn, ↓TnS4 hTn, ↓TnL5 hTn, ↓TnS5 hTn, ↓TnL6 hTn, ↓TnS6 hTn, ↓hs0, ↓hs1, ↓hs2, ↓hs3, ↓hs4, ↓hpi.1, ↓hpi.2, ↓hlG, ↓hlV, ha1, ↓X_sl hOu, ↓X_ll hOu, tw_upLa, tw_cmp0, f_X12_thrown, f_X12_throwsIf, ↓A_th, ↓A_xc, tw_xE1, tw_xE2, tw_xE3, tw_xE4, tw_xE5, tw_xE6, ↓MoV0 hMo, ↓MoI0_70 hMo, ↓MoZ0_70 hMo, ↓MoG0_71 hMo, ↓MoG0_72 hMo, ↓MoG0_73 hMo, ↓MoG0_74 hMo, ↓MoG0_75 hMo, ↓MoI0_76 hMo, ↓MoP0_76 hMo, ↓MoZ0_76 hMo, ↓MoI0_77 hMo, ↓MoP0_77 hMo, ↓MoZ0_77 hMo, ↓MoG0_78 hMo, ↓MoI0_79 hMo, ↓MoP0_79 hMo, ↓MoZ0_79 hMo, ↓MoI0_80 hMo, ↓MoP0_80 hMo, ↓MoZ0_80 hMo, ↓MoI0_81 hMo, ↓MoP0_81 hMo, ↓MoZ0_81 hMo, ↓MoI0_82 hMo, ↓MoP0_82 hMo, ↓MoZ0_82 hMo, ↓MoI0_83 hMo, ↓MoP0_83 hMo, ↓MoZ0_83 hMo, ↓MoI0_84 hMo, ↓MoP0_84 hMo, ↓MoZ0_84 hMo, ↓MoG0_85 hMo, ↓MoI0_86 hMo, ↓MoP0_86 hMo, ↓MoZ0_86 hMo, ↓MoG0_87 hMo, ↓MoI0_88 hMo, ↓MoP0_88 hMo, ↓MoZ0_88 hMo, ↓MoG0_89 hMo, ↓MoG0_90 hMo, ↓MoG0_91 hMo, ↓MoG0_92 hMo, ↓MoL0 hMo, ↓MoS0 hMo, ↓MoL1 hMo, ↓MoS1 hMo, ↓MoL2 hMo, ↓MoS2 hMo, ↓MoL3 hMo, ↓MoS3 hMo, ↓MoL4 hMo, ↓MoS4 hMo, ↓MoL5 hMo, ↓MoS5 hMo, ↓MoL6 hMo, ↓MoS6 hMo, ↓MoL7 hMo, ↓MoS7 hMo, ↓MoL8 hMo, ↓MoS8 hMo, ↓MoL9 hMo, ↓MoS9 hMo, ↓MoL10 hMo, ↓MoS10 hMo, ↓MoL11 hMo, ↓MoS11 hMo, ↓hpt, tw_ua, tw_uk, h70, tw_up_ne, ↓A_if, ↓A_jn, ↓A_lt, ↓A_rz, ↓A_rn, ↓A_nzi, ↓A_nzl, ↓A_nn1, ↓A_nn0, ↓reduceIte, true_and, and_true, if_true, if_false, ite_true, ite_false, reduceIte, tl_0, tl_1, tl_2, tl_3, tl_4, tl_5, tl_6, tl_7, tl_8, tl_9, tl_10, tl_11, tl_12, tl_13, tl_14, tl_15, tl_16, tl_17, tl_18, tl_19, tl_20, tl_21, tl_22, tl_23, tl_24, tl_25, tl_26, tl_27, tl_28, tl_29, tl_30, tl_31, tl_32, tl_33, tl_34, tl_35, tl_36, tl_37, tl_38, tl_39, tl_40, tl_41, tl_42, tl_43, tl_44, tl_45, tl_46, tl_47, tl_48, tl_49, tl_50, tl_51, tl_52, tl_53, tl_54, tl_57, tl_59, tl_60, tl_62, tl_63, tl_64, tl_97, tl_99, tl_100, tl_120, tl_122, tl_192, tl_193, tl_194, tl_195, tl_196, tl_255, tl_256, tl_299, tl_400, tl_401, tl_492, tl_493, tl_541, tl_849, tl_999, tl_1000, tl_1341, tl_1342, tl_1390, tl_2190, tl_5412, tl_5904, tl_9999, tl_12345, tl_32767, tl_65536, tl_1000000, tl_252645135, tl_858993459, tl_1103515245, tl_1431655765, nz_31, nz_c31, eq_self, or_true, true_or, or_false, false_or, Nat.add_zero, nz_lt, nz_le, nz_eq, nz_cl, nz_sub, nI_add, pk_mul, nt_lt, nf_lt, nf_eq, nz_mI, mI_eq, mI_eq', mI_lt, mI_gt, mI_add, ↓j_max, ↓j_min, Nat.sub_sub, Nat.reduceAdd, Nat.reduceSub, Nat.reduceLT, Nat.reduceEqDiff, Bool.false_eq_true, f_X12_circle, ↓c_need hX H W.1 h8, ↓m_nob hMo hPm h8, q1]
    (first | exact fin qm (Nat.le_refl _) | exact fin tw_qm_70 (Nat.le_refl _) | exact fin (tw_qm_t qm tw_qm_70) (Nat.le_refl _) | (intro n2 hn2; first | exact fin qm hn2 | exact fin (tw_qm_t qm tw_qm_70) hn2))
end P79g
