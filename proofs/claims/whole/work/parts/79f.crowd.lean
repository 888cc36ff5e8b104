/-! ===== pure: the law's steps, crowd, go, cut, heads ===== -/
/-- how many of the first i are in z -/
def tw_ct (z : Nat) : Nat → Nat
  | 0 => 0
  | i + 1 => if z.testBit i = true then tw_ct z i + 1 else tw_ct z i
theorem tw_ct_bc : ∀ z, z < 256 → tw_bc (nI z) = nI (tw_ct z 8) := by decide +kernel
theorem tw_ct_le (z : Nat) : ∀ i, tw_ct z i ≤ i
  | 0 => Nat.le_refl 0
  | i + 1 => by
    have := tw_ct_le z i
    unfold tw_ct
    split <;> omega
theorem tw_ct_up {z P : Nat} (h : z < 2 ^ P) : ∀ d, tw_ct z (P + d) = tw_ct z P
  | 0 => rfl
  | d + 1 => by
    have e : z.testBit (P + d) = false := Nat.testBit_lt_two_pow (Nat.lt_of_lt_of_le h (Nat.pow_le_pow_right (by omega) (by omega)))
    show (if z.testBit (P + d) = true then tw_ct z (P + d) + 1 else tw_ct z (P + d)) = _
    rw [e, if_neg (by decide)]
    exact tw_ct_up h d
theorem tw_ct_8 {z P : Nat} (h : z < 2 ^ P) (h8 : P ≤ 8) : tw_ct z 8 = tw_ct z P := by
  have e : P + (8 - P) = 8 := by omega
  rw [← e]
  exact tw_ct_up h _
theorem tw_ct_s : ∀ P, P < 9 → ∀ s, s < 2 ^ P - 1 → tw_ct s 8 < tw_ct (2 ^ P - 1) 8 := by decide +kernel
theorem tw_p256 {P : Nat} (h8 : P ≤ 8) : 2 ^ P ≤ 256 := Nat.le_trans (Nat.pow_le_pow_right (by omega) h8) (by decide)
theorem nI_xor (a b : Nat) : nI a ^^^ nI b = nI (a ^^^ b) := by
  apply Int32.toBitVec_inj.mp
  show BitVec.ofNat 32 a ^^^ BitVec.ofNat 32 b = BitVec.ofNat 32 (a ^^^ b)
  rw [BitVec.ofNat_xor]
theorem tw_mI_nI : mI = nI 4294967295 := by decide
theorem tw_no_bit (x o : Nat) (ho : o < 32) : (x ^^^ 4294967295).testBit o = !x.testBit o := by
  have e : (4294967295 : Nat) = 2 ^ 32 - 1 := by decide
  rw [Nat.testBit_xor, e, Nat.testBit_two_pow_sub_one, decide_eq_true ho, Bool.xor_true]
/-- what of r is not in x -/
def tw_nxx (r x : Nat) : Nat := r &&& (x ^^^ 4294967295)
theorem tw_nxx_e (r x : Nat) : nI r &&& (nI x ^^^ mI) = nI (tw_nxx r x) := by
  rw [tw_mI_nI, nI_xor, nI_and]
  rfl
theorem tw_nxx_lt {r x : Nat} {P : Nat} (h : r < 2 ^ P) : tw_nxx r x < 2 ^ P := Nat.lt_of_le_of_lt Nat.and_le_left h
theorem tw_nxx_b (r x o : Nat) (ho : o < 32) : (tw_nxx r x).testBit o = (r.testBit o && !x.testBit o) := by
  unfold tw_nxx
  rw [Nat.testBit_and, tw_no_bit x o ho]
/-- the best of all, from below, strictly better alone -/
def tw_ga (w : Nat → Nat) (C : Nat → Bool) (A : Nat) : Nat → Nat
  | 0 => A
  | i + 1 => if w i < w (tw_ga w C A i) ∧ C i = true then i else tw_ga w C A i
/-- the best of all, from above, what is as good too -/
def tw_gd (w : Nat → Nat) (C : Nat → Bool) (A : Nat) : Nat → Nat
  | 0 => A
  | j + 1 => if w (A - j) ≤ w (tw_gd w C A j) ∧ C (A - j) = true then A - j else tw_gd w C A j
theorem tw_ga_q {w : Nat → Nat} {C : Nat → Bool} {A : Nat} (hA : ∀ s, s < A → w s < w A) : ∀ i, i ≤ A → (tw_ga w C A i = A ∧ ∀ s, s < i → C s = false) ∨ (tw_ga w C A i < i ∧ C (tw_ga w C A i) = true ∧ ∀ s, s < i → C s = true → w (tw_ga w C A i) < w s ∨ (w (tw_ga w C A i) = w s ∧ tw_ga w C A i ≤ s))
  | 0, _ => Or.inl ⟨rfl, fun s hs => absurd hs (Nat.not_lt_zero s)⟩
  | i + 1, hi => by
    have ih := tw_ga_q (C := C) hA i (by omega)
    have hw := hA i (by omega)
    have es : tw_ga w C A (i + 1) = if w i < w (tw_ga w C A i) ∧ C i = true then i else tw_ga w C A i := rfl
    rw [es]
    generalize tw_ga w C A i = v at *
    by_cases q : w i < w v ∧ C i = true
    · rw [if_pos q]
      refine Or.inr ⟨by omega, q.2, fun s hs hc => ?_⟩
      by_cases e : s = i
      · subst e; exact Or.inr ⟨rfl, Nat.le_refl _⟩
      · rcases ih with ⟨h1, h2⟩ | ⟨h1, h2, h3⟩
        · rw [h2 s (by omega)] at hc; cases hc
        · rcases h3 s (by omega) hc with h | ⟨h, h'⟩
          · exact Or.inl (by omega)
          · exact Or.inl (by omega)
    · rw [if_neg q]
      rcases ih with ⟨h1, h2⟩ | ⟨h1, h2, h3⟩
      · refine Or.inl ⟨h1, fun s hs => ?_⟩
        by_cases e : s = i
        · subst e
          subst h1
          cases hc : C s
          · rfl
          · exact absurd ⟨hw, hc⟩ q
        · exact h2 s (by omega)
      · refine Or.inr ⟨by omega, h2, fun s hs hc => ?_⟩
        by_cases e : s = i
        · subst e
          have : ¬ w s < w v := fun h => q ⟨h, hc⟩
          omega
        · exact h3 s (by omega) hc
theorem tw_gd_q {w : Nat → Nat} {C : Nat → Bool} {A : Nat} (hA : ∀ s, s < A → w s < w A) : ∀ j, j ≤ A → (tw_gd w C A (j + 1) = A ∧ ∀ s, A - j ≤ s → s < A → C s = false) ∨ (A - j ≤ tw_gd w C A (j + 1) ∧ tw_gd w C A (j + 1) < A ∧ C (tw_gd w C A (j + 1)) = true ∧ ∀ s, A - j ≤ s → s < A → C s = true → w (tw_gd w C A (j + 1)) < w s ∨ (w (tw_gd w C A (j + 1)) = w s ∧ tw_gd w C A (j + 1) ≤ s))
  | 0, _ => by
    refine Or.inl ⟨?_, fun s h1 h2 => by omega⟩
    show (if w (A - 0) ≤ w A ∧ C (A - 0) = true then A - 0 else A) = A
    split <;> rfl
  | j + 1, hj => by
    have ih := tw_gd_q (C := C) hA j (by omega)
    have hw := hA (A - (j + 1)) (by omega)
    have es : tw_gd w C A (j + 1 + 1) = if w (A - (j + 1)) ≤ w (tw_gd w C A (j + 1)) ∧ C (A - (j + 1)) = true then A - (j + 1) else tw_gd w C A (j + 1) := rfl
    rw [es]
    generalize tw_gd w C A (j + 1) = v at *
    by_cases q : w (A - (j + 1)) ≤ w v ∧ C (A - (j + 1)) = true
    · rw [if_pos q]
      refine Or.inr ⟨Nat.le_refl _, by omega, q.2, fun s h1 h2 hc => ?_⟩
      by_cases e : s = A - (j + 1)
      · subst e; exact Or.inr ⟨rfl, Nat.le_refl _⟩
      · rcases ih with ⟨g1, g2⟩ | ⟨g1, g2, g3, g4⟩
        · rw [g2 s (by omega) h2] at hc; cases hc
        · rcases g4 s (by omega) h2 hc with h | ⟨h, h'⟩
          · exact Or.inl (by omega)
          · by_cases e2 : w (A - (j + 1)) = w s
            · exact Or.inr ⟨e2, by omega⟩
            · exact Or.inl (by omega)
    · rw [if_neg q]
      rcases ih with ⟨g1, g2⟩ | ⟨g1, g2, g3, g4⟩
      · refine Or.inl ⟨g1, fun s h1 h2 => ?_⟩
        by_cases e : s = A - (j + 1)
        · subst e
          subst g1
          cases hc : C (v - (j + 1))
          · rfl
          · exact absurd ⟨Nat.le_of_lt hw, hc⟩ q
        · exact g2 s (by omega) h2
      · refine Or.inr ⟨by omega, g2, g3, fun s h1 h2 hc => ?_⟩
        by_cases e : s = A - (j + 1)
        · subst e
          have : ¬ w (A - (j + 1)) ≤ w v := fun h => q ⟨h, hc⟩
          omega
        · exact g4 s (by omega) h2 hc
theorem tw_ga_gd {w : Nat → Nat} {C : Nat → Bool} {A : Nat} (hA : ∀ s, s < A → w s < w A) : tw_ga w C A A = tw_gd w C A (A + 1) := by
  have h1 := tw_ga_q (C := C) hA A (Nat.le_refl A)
  have h2 := tw_gd_q (C := C) hA A (Nat.le_refl A)
  generalize tw_ga w C A A = u at *
  generalize tw_gd w C A (A + 1) = v at *
  rcases h1 with ⟨a1, a2⟩ | ⟨a1, a2, a3⟩
  · rcases h2 with ⟨b1, b2⟩ | ⟨b1, b2, b3, b4⟩
    · rw [a1, b1]
    · rw [a2 v b2] at b3; cases b3
  · rcases h2 with ⟨b1, b2⟩ | ⟨b1, b2, b3, b4⟩
    · rw [b2 u (by omega) a1] at a2; cases a2
    · have c1 := a3 v b2 b3
      have c2 := b4 u (by omega) a1 a2
      omega
theorem tw_ga_le {w : Nat → Nat} {C : Nat → Bool} {A : Nat} : ∀ i, i ≤ A + 1 → tw_ga w C A i ≤ A
  | 0, _ => Nat.le_refl A
  | i + 1, h => by
    have := tw_ga_le (w := w) (C := C) (A := A) i (by omega)
    unfold tw_ga
    split <;> omega
theorem tw_gd_le {w : Nat → Nat} {C : Nat → Bool} {A : Nat} : ∀ i, tw_gd w C A i ≤ A
  | 0 => Nat.le_refl A
  | i + 1 => by
    have := tw_gd_le (w := w) (C := C) (A := A) i
    unfold tw_gd
    split <;> omega
def tw_w8 (s : Nat) : Nat := tw_ct s 8
theorem tw_w8_l (s : Nat) : tw_w8 s < 2147483648 := by
  have := tw_ct_le s 8
  unfold tw_w8
  omega
/-- whether none is told by the rows of those who stay -/
def tw_Cg (R : Nat → Int32) (P s : Nat) : Bool := decide (tw_tl R (nI (2 ^ P - 1) &&& (nI s ^^^ mI)) P &&& (nI (2 ^ P - 1) &&& (nI s ^^^ mI)) = nI 0)
def tw_Ch (R : Nat → Int32) (P s : Nat) : Bool := decide (tw_tl R (nI s) P ||| nI s = nI (2 ^ P - 1))
section P79f
variable {sh : tw_Sh} {μ ν ν2 : Nat → Nat → Int32} {la : Nat → Nat → Int64} {n a b w m lw P N L a0 : Nat} {p o l h i z c x y f q kd t r s : Nat} {T T' : Nat → Int32} {v u rg tn : Int32} {j : Unit → tw_Mem → Prop} {G : tw_Gm} {R : Nat → Int32}
theorem c_gone (hS : tw_Se sh s) (e1 : μ s 36 = nI P) (h8 : P ≤ 8) (hR : ∀ p, p < P → μ (s + 1) p = R p) (k : Int32 → tw_Mem → Prop) : f_X5_fewestGone s k (sh, μ, la, n) = k (nI (tw_ga tw_w8 (tw_Cg R P) (2 ^ P - 1) (2 ^ P - 1))) (sh, μ, la, n) := by
  have h2 := tw_p256 h8
  simp (disch := omega) only [f_X5_fewestGone, ↓c_all hS e1 h8, ↓SeV0 hS, ↓SeG0_32 hS, ↓SeG0_33 hS, ↓SeG0_34 hS, ↓SeG0_35 hS, ↓SeI0_36 hS, ↓SeP0_36 hS, ↓SeZ0_36 hS, ↓SeL0 hS, ↓SeS0 hS, ↓SeL1 hS, ↓SeS1 hS, ↓SeL2 hS, ↓SeS2 hS, ↓SeL3 hS, ↓SeS3 hS, ↓A_if, ↓A_jn, ↓A_lt, ↓A_rz, ↓A_rn, ↓A_nzi, ↓A_nzl, ↓A_nn1, ↓A_nn0, ↓reduceIte, true_and, and_true, if_true, if_false, ite_true, ite_false, reduceIte, tl_0, tl_1, tl_2, tl_3, tl_4, tl_5, tl_6, tl_7, tl_8, tl_9, tl_10, tl_11, tl_12, tl_13, tl_14, tl_15, tl_16, tl_17, tl_18, tl_19, tl_20, tl_21, tl_22, tl_23, tl_24, tl_25, tl_26, tl_27, tl_28, tl_29, tl_30, tl_31, tl_32, tl_33, tl_34, tl_35, tl_36, tl_37, tl_38, tl_39, tl_40, tl_41, tl_42, tl_43, tl_44, tl_45, tl_46, tl_47, tl_48, tl_49, tl_50, tl_51, tl_52, tl_53, tl_54, tl_57, tl_59, tl_60, tl_62, tl_63, tl_64, tl_97, tl_99, tl_100, tl_120, tl_122, tl_192, tl_193, tl_194, tl_195, tl_196, tl_255, tl_256, tl_299, tl_400, tl_401, tl_492, tl_493, tl_541, tl_849, tl_999, tl_1000, tl_1341, tl_1342, tl_1390, tl_2190, tl_5412, tl_5904, tl_9999, tl_12345, tl_32767, tl_65536, tl_1000000, tl_252645135, tl_858993459, tl_1103515245, tl_1431655765, nz_31, nz_c31, eq_self, or_true, true_or, or_false, false_or, Nat.add_zero, nz_lt, nz_le, nz_eq, nz_cl, nz_sub, nI_add, pk_mul, nt_lt, nf_lt, nf_eq, nz_mI, mI_eq, mI_eq', mI_lt, mI_gt, mI_add, ↓j_max, ↓j_min, Nat.sub_sub, Nat.reduceAdd, Nat.reduceSub, Nat.reduceLT, Nat.reduceEqDiff, Bool.false_eq_true]
  refine tw_lp_for (2 ^ P - 1) (fun i => (nI (tw_ga tw_w8 (tw_Cg R P) (2 ^ P - 1) i), nI i)) (fun _ => (sh, μ, la, n)) rfl rfl ?_ ?_
  · intro i hi rec
    have hv := tw_ga_le (w := tw_w8) (C := tw_Cg R P) (A := 2 ^ P - 1) i (by omega)
    have e : tw_ga tw_w8 (tw_Cg R P) (2 ^ P - 1) (i + 1) = if tw_w8 i < tw_w8 (tw_ga tw_w8 (tw_Cg R P) (2 ^ P - 1) i) ∧ tw_Cg R P i = true then i else tw_ga tw_w8 (tw_Cg R P) (2 ^ P - 1) i := rfl
    rw [e]
    generalize tw_ga tw_w8 (tw_Cg R P) (2 ^ P - 1) i = y at *
    have b1 : tw_bc (nI i) = nI (tw_w8 i) := tw_ct_bc i (by omega)
    have b2 : tw_bc (nI y) = nI (tw_w8 y) := tw_ct_bc y (by omega)
    have l1 := tw_w8_l i
    have l2 := tw_w8_l y
    by_cases q1 : tw_w8 i < tw_w8 y
    · by_cases q2 : tw_tl R (nI (2 ^ P - 1) &&& (nI i ^^^ mI)) P &&& (nI (2 ^ P - 1) &&& (nI i ^^^ mI)) = nI 0
      · have q3 : tw_Cg R P i = true := decide_eq_true q2
        simp (disch := omega) only [q1, q2, q3, b1, b2, and_self, ↓j_bc, ↓c_all hS e1 h8, ↓c_isApart hS e1 h8 hR, ↓SeV0 hS, ↓SeG0_32 hS, ↓SeG0_33 hS, ↓SeG0_34 hS, ↓SeG0_35 hS, ↓SeI0_36 hS, ↓SeP0_36 hS, ↓SeZ0_36 hS, ↓SeL0 hS, ↓SeS0 hS, ↓SeL1 hS, ↓SeS1 hS, ↓SeL2 hS, ↓SeS2 hS, ↓SeL3 hS, ↓SeS3 hS, ↓A_if, ↓A_jn, ↓A_lt, ↓A_rz, ↓A_rn, ↓A_nzi, ↓A_nzl, ↓A_nn1, ↓A_nn0, ↓reduceIte, true_and, and_true, if_true, if_false, ite_true, ite_false, reduceIte, tl_0, tl_1, tl_2, tl_3, tl_4, tl_5, tl_6, tl_7, tl_8, tl_9, tl_10, tl_11, tl_12, tl_13, tl_14, tl_15, tl_16, tl_17, tl_18, tl_19, tl_20, tl_21, tl_22, tl_23, tl_24, tl_25, tl_26, tl_27, tl_28, tl_29, tl_30, tl_31, tl_32, tl_33, tl_34, tl_35, tl_36, tl_37, tl_38, tl_39, tl_40, tl_41, tl_42, tl_43, tl_44, tl_45, tl_46, tl_47, tl_48, tl_49, tl_50, tl_51, tl_52, tl_53, tl_54, tl_57, tl_59, tl_60, tl_62, tl_63, tl_64, tl_97, tl_99, tl_100, tl_120, tl_122, tl_192, tl_193, tl_194, tl_195, tl_196, tl_255, tl_256, tl_299, tl_400, tl_401, tl_492, tl_493, tl_541, tl_849, tl_999, tl_1000, tl_1341, tl_1342, tl_1390, tl_2190, tl_5412, tl_5904, tl_9999, tl_12345, tl_32767, tl_65536, tl_1000000, tl_252645135, tl_858993459, tl_1103515245, tl_1431655765, nz_31, nz_c31, eq_self, or_true, true_or, or_false, false_or, Nat.add_zero, nz_lt, nz_le, nz_eq, nz_cl, nz_sub, nI_add, pk_mul, nt_lt, nf_lt, nf_eq, nz_mI, mI_eq, mI_eq', mI_lt, mI_gt, mI_add, ↓j_max, ↓j_min, Nat.sub_sub, Nat.reduceAdd, Nat.reduceSub, Nat.reduceLT, Nat.reduceEqDiff, Bool.false_eq_true]
      · have q3 : ¬ tw_Cg R P i = true := fun g => q2 (of_decide_eq_true g)
        simp (disch := omega) only [q1, q2, q3, b1, b2, and_false, ↓j_bc, ↓c_all hS e1 h8, ↓c_isApart hS e1 h8 hR, ↓SeV0 hS, ↓SeG0_32 hS, ↓SeG0_33 hS, ↓SeG0_34 hS, ↓SeG0_35 hS, ↓SeI0_36 hS, ↓SeP0_36 hS, ↓SeZ0_36 hS, ↓SeL0 hS, ↓SeS0 hS, ↓SeL1 hS, ↓SeS1 hS, ↓SeL2 hS, ↓SeS2 hS, ↓SeL3 hS, ↓SeS3 hS, ↓A_if, ↓A_jn, ↓A_lt, ↓A_rz, ↓A_rn, ↓A_nzi, ↓A_nzl, ↓A_nn1, ↓A_nn0, ↓reduceIte, true_and, and_true, if_true, if_false, ite_true, ite_false, reduceIte, tl_0, tl_1, tl_2, tl_3, tl_4, tl_5, tl_6, tl_7, tl_8, tl_9, tl_10, tl_11, tl_12, tl_13, tl_14, tl_15, tl_16, tl_17, tl_18, tl_19, tl_20, tl_21, tl_22, tl_23, tl_24, tl_25, tl_26, tl_27, tl_28, tl_29, tl_30, tl_31, tl_32, tl_33, tl_34, tl_35, tl_36, tl_37, tl_38, tl_39, tl_40, tl_41, tl_42, tl_43, tl_44, tl_45, tl_46, tl_47, tl_48, tl_49, tl_50, tl_51, tl_52, tl_53, tl_54, tl_57, tl_59, tl_60, tl_62, tl_63, tl_64, tl_97, tl_99, tl_100, tl_120, tl_122, tl_192, tl_193, tl_194, tl_195, tl_196, tl_255, tl_256, tl_299, tl_400, tl_401, tl_492, tl_493, tl_541, tl_849, tl_999, tl_1000, tl_1341, tl_1342, tl_1390, tl_2190, tl_5412, tl_5904, tl_9999, tl_12345, tl_32767, tl_65536, tl_1000000, tl_252645135, tl_858993459, tl_1103515245, tl_1431655765, nz_31, nz_c31, eq_self, or_true, true_or, or_false, false_or, Nat.add_zero, nz_lt, nz_le, nz_eq, nz_cl, nz_sub, nI_add, pk_mul, nt_lt, nf_lt, nf_eq, nz_mI, mI_eq, mI_eq', mI_lt, mI_gt, mI_add, ↓j_max, ↓j_min, Nat.sub_sub, Nat.reduceAdd, Nat.reduceSub, Nat.reduceLT, Nat.reduceEqDiff, Bool.false_eq_true]
    · simp (disch := omega) only [q1, b1, b2, false_and, ↓j_bc, ↓c_all hS e1 h8, ↓SeV0 hS, ↓SeG0_32 hS, ↓SeG0_33 hS, ↓SeG0_34 hS, ↓SeG0_35 hS, ↓SeI0_36 hS, ↓SeP0_36 hS, ↓SeZ0_36 hS, ↓SeL0 hS, ↓SeS0 hS, ↓SeL1 hS, ↓SeS1 hS, ↓SeL2 hS, ↓SeS2 hS, ↓SeL3 hS, ↓SeS3 hS, ↓A_if, ↓A_jn, ↓A_lt, ↓A_rz, ↓A_rn, ↓A_nzi, ↓A_nzl, ↓A_nn1, ↓A_nn0, ↓reduceIte, true_and, and_true, if_true, if_false, ite_true, ite_false, reduceIte, tl_0, tl_1, tl_2, tl_3, tl_4, tl_5, tl_6, tl_7, tl_8, tl_9, tl_10, tl_11, tl_12, tl_13, tl_14, tl_15, tl_16, tl_17, tl_18, tl_19, tl_20, tl_21, tl_22, tl_23, tl_24, tl_25, tl_26, tl_27, tl_28, tl_29, tl_30, tl_31, tl_32, tl_33, tl_34, tl_35, tl_36, tl_37, tl_38, tl_39, tl_40, tl_41, tl_42, tl_43, tl_44, tl_45, tl_46, tl_47, tl_48, tl_49, tl_50, tl_51, tl_52, tl_53, tl_54, tl_57, tl_59, tl_60, tl_62, tl_63, tl_64, tl_97, tl_99, tl_100, tl_120, tl_122, tl_192, tl_193, tl_194, tl_195, tl_196, tl_255, tl_256, tl_299, tl_400, tl_401, tl_492, tl_493, tl_541, tl_849, tl_999, tl_1000, tl_1341, tl_1342, tl_1390, tl_2190, tl_5412, tl_5904, tl_9999, tl_12345, tl_32767, tl_65536, tl_1000000, tl_252645135, tl_858993459, tl_1103515245, tl_1431655765, nz_31, nz_c31, eq_self, or_true, true_or, or_false, false_or, Nat.add_zero, nz_lt, nz_le, nz_eq, nz_cl, nz_sub, nI_add, pk_mul, nt_lt, nf_lt, nf_eq, nz_mI, mI_eq, mI_eq', mI_lt, mI_gt, mI_add, ↓j_max, ↓j_min, Nat.sub_sub, Nat.reduceAdd, Nat.reduceSub, Nat.reduceLT, Nat.reduceEqDiff, Bool.false_eq_true]
  · intro rec
    simp (disch := omega) only [↓c_all hS e1 h8, ↓SeV0 hS, ↓SeG0_32 hS, ↓SeG0_33 hS, ↓SeG0_34 hS, ↓SeG0_35 hS, ↓SeI0_36 hS, ↓SeP0_36 hS, ↓SeZ0_36 hS, ↓SeL0 hS, ↓SeS0 hS, ↓SeL1 hS, ↓SeS1 hS, ↓SeL2 hS, ↓SeS2 hS, ↓SeL3 hS, ↓SeS3 hS, ↓A_if, ↓A_jn, ↓A_lt, ↓A_rz, ↓A_rn, ↓A_nzi, ↓A_nzl, ↓A_nn1, ↓A_nn0, ↓reduceIte, true_and, and_true, if_true, if_false, ite_true, ite_false, reduceIte, tl_0, tl_1, tl_2, tl_3, tl_4, tl_5, tl_6, tl_7, tl_8, tl_9, tl_10, tl_11, tl_12, tl_13, tl_14, tl_15, tl_16, tl_17, tl_18, tl_19, tl_20, tl_21, tl_22, tl_23, tl_24, tl_25, tl_26, tl_27, tl_28, tl_29, tl_30, tl_31, tl_32, tl_33, tl_34, tl_35, tl_36, tl_37, tl_38, tl_39, tl_40, tl_41, tl_42, tl_43, tl_44, tl_45, tl_46, tl_47, tl_48, tl_49, tl_50, tl_51, tl_52, tl_53, tl_54, tl_57, tl_59, tl_60, tl_62, tl_63, tl_64, tl_97, tl_99, tl_100, tl_120, tl_122, tl_192, tl_193, tl_194, tl_195, tl_196, tl_255, tl_256, tl_299, tl_400, tl_401, tl_492, tl_493, tl_541, tl_849, tl_999, tl_1000, tl_1341, tl_1342, tl_1390, tl_2190, tl_5412, tl_5904, tl_9999, tl_12345, tl_32767, tl_65536, tl_1000000, tl_252645135, tl_858993459, tl_1103515245, tl_1431655765, nz_31, nz_c31, eq_self, or_true, true_or, or_false, false_or, Nat.add_zero, nz_lt, nz_le, nz_eq, nz_cl, nz_sub, nI_add, pk_mul, nt_lt, nf_lt, nf_eq, nz_mI, mI_eq, mI_eq', mI_lt, mI_gt, mI_add, ↓j_max, ↓j_min, Nat.sub_sub, Nat.reduceAdd, Nat.reduceSub, Nat.reduceLT, Nat.reduceEqDiff, Bool.false_eq_true]
theorem c_headsF (hS : tw_Se sh s) (e1 : μ s 36 = nI P) (h8 : P ≤ 8) (hR : ∀ p, p < P → μ (s + 1) p = R p) (k : Int32 → tw_Mem → Prop) : f_X5_fewestHeads s k (sh, μ, la, n) = k (nI (tw_ga tw_w8 (tw_Ch R P) (2 ^ P - 1) (2 ^ P - 1))) (sh, μ, la, n) := by
  have h2 := tw_p256 h8
  simp (disch := omega) only [f_X5_fewestHeads, ↓c_all hS e1 h8, ↓SeV0 hS, ↓SeG0_32 hS, ↓SeG0_33 hS, ↓SeG0_34 hS, ↓SeG0_35 hS, ↓SeI0_36 hS, ↓SeP0_36 hS, ↓SeZ0_36 hS, ↓SeL0 hS, ↓SeS0 hS, ↓SeL1 hS, ↓SeS1 hS, ↓SeL2 hS, ↓SeS2 hS, ↓SeL3 hS, ↓SeS3 hS, ↓A_if, ↓A_jn, ↓A_lt, ↓A_rz, ↓A_rn, ↓A_nzi, ↓A_nzl, ↓A_nn1, ↓A_nn0, ↓reduceIte, true_and, and_true, if_true, if_false, ite_true, ite_false, reduceIte, tl_0, tl_1, tl_2, tl_3, tl_4, tl_5, tl_6, tl_7, tl_8, tl_9, tl_10, tl_11, tl_12, tl_13, tl_14, tl_15, tl_16, tl_17, tl_18, tl_19, tl_20, tl_21, tl_22, tl_23, tl_24, tl_25, tl_26, tl_27, tl_28, tl_29, tl_30, tl_31, tl_32, tl_33, tl_34, tl_35, tl_36, tl_37, tl_38, tl_39, tl_40, tl_41, tl_42, tl_43, tl_44, tl_45, tl_46, tl_47, tl_48, tl_49, tl_50, tl_51, tl_52, tl_53, tl_54, tl_57, tl_59, tl_60, tl_62, tl_63, tl_64, tl_97, tl_99, tl_100, tl_120, tl_122, tl_192, tl_193, tl_194, tl_195, tl_196, tl_255, tl_256, tl_299, tl_400, tl_401, tl_492, tl_493, tl_541, tl_849, tl_999, tl_1000, tl_1341, tl_1342, tl_1390, tl_2190, tl_5412, tl_5904, tl_9999, tl_12345, tl_32767, tl_65536, tl_1000000, tl_252645135, tl_858993459, tl_1103515245, tl_1431655765, nz_31, nz_c31, eq_self, or_true, true_or, or_false, false_or, Nat.add_zero, nz_lt, nz_le, nz_eq, nz_cl, nz_sub, nI_add, pk_mul, nt_lt, nf_lt, nf_eq, nz_mI, mI_eq, mI_eq', mI_lt, mI_gt, mI_add, ↓j_max, ↓j_min, Nat.sub_sub, Nat.reduceAdd, Nat.reduceSub, Nat.reduceLT, Nat.reduceEqDiff, Bool.false_eq_true]
  refine tw_lp_for (2 ^ P - 1) (fun i => (nI (tw_ga tw_w8 (tw_Ch R P) (2 ^ P - 1) i), nI i)) (fun _ => (sh, μ, la, n)) rfl rfl ?_ ?_
  · intro i hi rec
    have hv := tw_ga_le (w := tw_w8) (C := tw_Ch R P) (A := 2 ^ P - 1) i (by omega)
    have e : tw_ga tw_w8 (tw_Ch R P) (2 ^ P - 1) (i + 1) = if tw_w8 i < tw_w8 (tw_ga tw_w8 (tw_Ch R P) (2 ^ P - 1) i) ∧ tw_Ch R P i = true then i else tw_ga tw_w8 (tw_Ch R P) (2 ^ P - 1) i := rfl
    rw [e]
    generalize tw_ga tw_w8 (tw_Ch R P) (2 ^ P - 1) i = y at *
    have b1 : tw_bc (nI i) = nI (tw_w8 i) := tw_ct_bc i (by omega)
    have b2 : tw_bc (nI y) = nI (tw_w8 y) := tw_ct_bc y (by omega)
    have l1 := tw_w8_l i
    have l2 := tw_w8_l y
    by_cases q1 : tw_w8 i < tw_w8 y
    · by_cases q2 : tw_tl R (nI i) P ||| nI i = nI (2 ^ P - 1)
      · have q3 : tw_Ch R P i = true := decide_eq_true q2
        simp (disch := omega) only [q1, q2, q3, b1, b2, and_self, ↓j_bc, ↓c_all hS e1 h8, ↓c_toldBy hS e1 h8 hR, ↓SeV0 hS, ↓SeG0_32 hS, ↓SeG0_33 hS, ↓SeG0_34 hS, ↓SeG0_35 hS, ↓SeI0_36 hS, ↓SeP0_36 hS, ↓SeZ0_36 hS, ↓SeL0 hS, ↓SeS0 hS, ↓SeL1 hS, ↓SeS1 hS, ↓SeL2 hS, ↓SeS2 hS, ↓SeL3 hS, ↓SeS3 hS, ↓A_if, ↓A_jn, ↓A_lt, ↓A_rz, ↓A_rn, ↓A_nzi, ↓A_nzl, ↓A_nn1, ↓A_nn0, ↓reduceIte, true_and, and_true, if_true, if_false, ite_true, ite_false, reduceIte, tl_0, tl_1, tl_2, tl_3, tl_4, tl_5, tl_6, tl_7, tl_8, tl_9, tl_10, tl_11, tl_12, tl_13, tl_14, tl_15, tl_16, tl_17, tl_18, tl_19, tl_20, tl_21, tl_22, tl_23, tl_24, tl_25, tl_26, tl_27, tl_28, tl_29, tl_30, tl_31, tl_32, tl_33, tl_34, tl_35, tl_36, tl_37, tl_38, tl_39, tl_40, tl_41, tl_42, tl_43, tl_44, tl_45, tl_46, tl_47, tl_48, tl_49, tl_50, tl_51, tl_52, tl_53, tl_54, tl_57, tl_59, tl_60, tl_62, tl_63, tl_64, tl_97, tl_99, tl_100, tl_120, tl_122, tl_192, tl_193, tl_194, tl_195, tl_196, tl_255, tl_256, tl_299, tl_400, tl_401, tl_492, tl_493, tl_541, tl_849, tl_999, tl_1000, tl_1341, tl_1342, tl_1390, tl_2190, tl_5412, tl_5904, tl_9999, tl_12345, tl_32767, tl_65536, tl_1000000, tl_252645135, tl_858993459, tl_1103515245, tl_1431655765, nz_31, nz_c31, eq_self, or_true, true_or, or_false, false_or, Nat.add_zero, nz_lt, nz_le, nz_eq, nz_cl, nz_sub, nI_add, pk_mul, nt_lt, nf_lt, nf_eq, nz_mI, mI_eq, mI_eq', mI_lt, mI_gt, mI_add, ↓j_max, ↓j_min, Nat.sub_sub, Nat.reduceAdd, Nat.reduceSub, Nat.reduceLT, Nat.reduceEqDiff, Bool.false_eq_true]
      · have q3 : ¬ tw_Ch R P i = true := fun g => q2 (of_decide_eq_true g)
        simp (disch := omega) only [q1, q2, q3, b1, b2, and_false, ↓j_bc, ↓c_all hS e1 h8, ↓c_toldBy hS e1 h8 hR, ↓SeV0 hS, ↓SeG0_32 hS, ↓SeG0_33 hS, ↓SeG0_34 hS, ↓SeG0_35 hS, ↓SeI0_36 hS, ↓SeP0_36 hS, ↓SeZ0_36 hS, ↓SeL0 hS, ↓SeS0 hS, ↓SeL1 hS, ↓SeS1 hS, ↓SeL2 hS, ↓SeS2 hS, ↓SeL3 hS, ↓SeS3 hS, ↓A_if, ↓A_jn, ↓A_lt, ↓A_rz, ↓A_rn, ↓A_nzi, ↓A_nzl, ↓A_nn1, ↓A_nn0, ↓reduceIte, true_and, and_true, if_true, if_false, ite_true, ite_false, reduceIte, tl_0, tl_1, tl_2, tl_3, tl_4, tl_5, tl_6, tl_7, tl_8, tl_9, tl_10, tl_11, tl_12, tl_13, tl_14, tl_15, tl_16, tl_17, tl_18, tl_19, tl_20, tl_21, tl_22, tl_23, tl_24, tl_25, tl_26, tl_27, tl_28, tl_29, tl_30, tl_31, tl_32, tl_33, tl_34, tl_35, tl_36, tl_37, tl_38, tl_39, tl_40, tl_41, tl_42, tl_43, tl_44, tl_45, tl_46, tl_47, tl_48, tl_49, tl_50, tl_51, tl_52, tl_53, tl_54, tl_57, tl_59, tl_60, tl_62, tl_63, tl_64, tl_97, tl_99, tl_100, tl_120, tl_122, tl_192, tl_193, tl_194, tl_195, tl_196, tl_255, tl_256, tl_299, tl_400, tl_401, tl_492, tl_493, tl_541, tl_849, tl_999, tl_1000, tl_1341, tl_1342, tl_1390, tl_2190, tl_5412, tl_5904, tl_9999, tl_12345, tl_32767, tl_65536, tl_1000000, tl_252645135, tl_858993459, tl_1103515245, tl_1431655765, nz_31, nz_c31, eq_self, or_true, true_or, or_false, false_or, Nat.add_zero, nz_lt, nz_le, nz_eq, nz_cl, nz_sub, nI_add, pk_mul, nt_lt, nf_lt, nf_eq, nz_mI, mI_eq, mI_eq', mI_lt, mI_gt, mI_add, ↓j_max, ↓j_min, Nat.sub_sub, Nat.reduceAdd, Nat.reduceSub, Nat.reduceLT, Nat.reduceEqDiff, Bool.false_eq_true]
    · simp (disch := omega) only [q1, b1, b2, false_and, ↓j_bc, ↓c_all hS e1 h8, ↓SeV0 hS, ↓SeG0_32 hS, ↓SeG0_33 hS, ↓SeG0_34 hS, ↓SeG0_35 hS, ↓SeI0_36 hS, ↓SeP0_36 hS, ↓SeZ0_36 hS, ↓SeL0 hS, ↓SeS0 hS, ↓SeL1 hS, ↓SeS1 hS, ↓SeL2 hS, ↓SeS2 hS, ↓SeL3 hS, ↓SeS3 hS, ↓A_if, ↓A_jn, ↓A_lt, ↓A_rz, ↓A_rn, ↓A_nzi, ↓A_nzl, ↓A_nn1, ↓A_nn0, ↓reduceIte, true_and, and_true, if_true, if_false, ite_true, ite_false, reduceIte, tl_0, tl_1, tl_2, tl_3, tl_4, tl_5, tl_6, tl_7, tl_8, tl_9, tl_10, tl_11, tl_12, tl_13, tl_14, tl_15, tl_16, tl_17, tl_18, tl_19, tl_20, tl_21, tl_22, tl_23, tl_24, tl_25, tl_26, tl_27, tl_28, tl_29, tl_30, tl_31, tl_32, tl_33, tl_34, tl_35, tl_36, tl_37, tl_38, tl_39, tl_40, tl_41, tl_42, tl_43, tl_44, tl_45, tl_46, tl_47, tl_48, tl_49, tl_50, tl_51, tl_52, tl_53, tl_54, tl_57, tl_59, tl_60, tl_62, tl_63, tl_64, tl_97, tl_99, tl_100, tl_120, tl_122, tl_192, tl_193, tl_194, tl_195, tl_196, tl_255, tl_256, tl_299, tl_400, tl_401, tl_492, tl_493, tl_541, tl_849, tl_999, tl_1000, tl_1341, tl_1342, tl_1390, tl_2190, tl_5412, tl_5904, tl_9999, tl_12345, tl_32767, tl_65536, tl_1000000, tl_252645135, tl_858993459, tl_1103515245, tl_1431655765, nz_31, nz_c31, eq_self, or_true, true_or, or_false, false_or, Nat.add_zero, nz_lt, nz_le, nz_eq, nz_cl, nz_sub, nI_add, pk_mul, nt_lt, nf_lt, nf_eq, nz_mI, mI_eq, mI_eq', mI_lt, mI_gt, mI_add, ↓j_max, ↓j_min, Nat.sub_sub, Nat.reduceAdd, Nat.reduceSub, Nat.reduceLT, Nat.reduceEqDiff, Bool.false_eq_true]
  · intro rec
    simp (disch := omega) only [↓c_all hS e1 h8, ↓SeV0 hS, ↓SeG0_32 hS, ↓SeG0_33 hS, ↓SeG0_34 hS, ↓SeG0_35 hS, ↓SeI0_36 hS, ↓SeP0_36 hS, ↓SeZ0_36 hS, ↓SeL0 hS, ↓SeS0 hS, ↓SeL1 hS, ↓SeS1 hS, ↓SeL2 hS, ↓SeS2 hS, ↓SeL3 hS, ↓SeS3 hS, ↓A_if, ↓A_jn, ↓A_lt, ↓A_rz, ↓A_rn, ↓A_nzi, ↓A_nzl, ↓A_nn1, ↓A_nn0, ↓reduceIte, true_and, and_true, if_true, if_false, ite_true, ite_false, reduceIte, tl_0, tl_1, tl_2, tl_3, tl_4, tl_5, tl_6, tl_7, tl_8, tl_9, tl_10, tl_11, tl_12, tl_13, tl_14, tl_15, tl_16, tl_17, tl_18, tl_19, tl_20, tl_21, tl_22, tl_23, tl_24, tl_25, tl_26, tl_27, tl_28, tl_29, tl_30, tl_31, tl_32, tl_33, tl_34, tl_35, tl_36, tl_37, tl_38, tl_39, tl_40, tl_41, tl_42, tl_43, tl_44, tl_45, tl_46, tl_47, tl_48, tl_49, tl_50, tl_51, tl_52, tl_53, tl_54, tl_57, tl_59, tl_60, tl_62, tl_63, tl_64, tl_97, tl_99, tl_100, tl_120, tl_122, tl_192, tl_193, tl_194, tl_195, tl_196, tl_255, tl_256, tl_299, tl_400, tl_401, tl_492, tl_493, tl_541, tl_849, tl_999, tl_1000, tl_1341, tl_1342, tl_1390, tl_2190, tl_5412, tl_5904, tl_9999, tl_12345, tl_32767, tl_65536, tl_1000000, tl_252645135, tl_858993459, tl_1103515245, tl_1431655765, nz_31, nz_c31, eq_self, or_true, true_or, or_false, false_or, Nat.add_zero, nz_lt, nz_le, nz_eq, nz_cl, nz_sub, nI_add, pk_mul, nt_lt, nf_lt, nf_eq, nz_mI, mI_eq, mI_eq', mI_lt, mI_gt, mI_add, ↓j_max, ↓j_min, Nat.sub_sub, Nat.reduceAdd, Nat.reduceSub, Nat.reduceLT, Nat.reduceEqDiff, Bool.false_eq_true]
theorem tw_decx {A j : Nat} (h : j ≤ A) (hA : A < 256) : nI A - nI j + mI = nI A - nI (j + 1) := by
  have e : nI (j + 1) = nI j + nI 1 := (nI_add j 1).symm
  have e2 : mI = -nI 1 := rfl
  simp only [e, e2, Int32.sub_eq_add_neg, Int32.neg_add, Int32.add_assoc]
theorem tw_neg1 (A : Nat) : nI A - nI (A + 1) = mI := by
  have e : nI (A + 1) = nI A + nI 1 := (nI_add A 1).symm
  simp only [e, Int32.sub_eq_add_neg, Int32.neg_add]
  rw [← Int32.add_assoc, Int32.add_right_neg, Int32.zero_add]
  rfl
theorem tw_mI0 : (mI < nI 0) = True := eq_true (by decide)
theorem m_goO (hM : tw_Mo sh m) (W : tw_WF (μ (m + 1)) P) (k : Int32 → tw_Mem → Prop) : f_X12_go m k (sh, μ, la, n) = k (nI (tw_ga tw_w8 (tw_Cg (fun p => tw_sGB (μ (m + 1)) p (nI 9) P) P) (2 ^ P - 1) (2 ^ P - 1))) (sh, tw_up μ m 70 (nI 0), la, n) := by
  have h1 : tw_up μ m 70 (nI 0) (m + 1) = μ (m + 1) := tw_up_ne (by omega)
  have h8 := W.2.1
  have h2 := tw_p256 h8
  have hA : ∀ s, s < 2 ^ P - 1 → tw_w8 s < tw_w8 (2 ^ P - 1) := tw_ct_s P (by omega)
  have hp0 : tw_up μ m 70 (nI 0) (m + 1) 0 = nI P := by rw [h1]; exact W.1
  simp (disch := omega) only [f_X12_go, ↓m_all hM hp0 h8, ↓MoV0 hM, ↓MoI0_70 hM, ↓MoP0_70 hM, ↓MoZ0_70 hM, ↓MoG0_71 hM, ↓MoG0_72 hM, ↓MoG0_73 hM, ↓MoG0_74 hM, ↓MoG0_75 hM, ↓MoI0_76 hM, ↓MoP0_76 hM, ↓MoZ0_76 hM, ↓MoI0_77 hM, ↓MoP0_77 hM, ↓MoZ0_77 hM, ↓MoG0_78 hM, ↓MoI0_79 hM, ↓MoP0_79 hM, ↓MoZ0_79 hM, ↓MoI0_80 hM, ↓MoP0_80 hM, ↓MoZ0_80 hM, ↓MoI0_81 hM, ↓MoP0_81 hM, ↓MoZ0_81 hM, ↓MoI0_82 hM, ↓MoP0_82 hM, ↓MoZ0_82 hM, ↓MoI0_83 hM, ↓MoP0_83 hM, ↓MoZ0_83 hM, ↓MoI0_84 hM, ↓MoP0_84 hM, ↓MoZ0_84 hM, ↓MoG0_85 hM, ↓MoI0_86 hM, ↓MoP0_86 hM, ↓MoZ0_86 hM, ↓MoG0_87 hM, ↓MoI0_88 hM, ↓MoP0_88 hM, ↓MoZ0_88 hM, ↓MoG0_89 hM, ↓MoG0_90 hM, ↓MoG0_91 hM, ↓MoG0_92 hM, ↓MoL0 hM, ↓MoS0 hM, ↓MoL1 hM, ↓MoS1 hM, ↓MoL2 hM, ↓MoS2 hM, ↓MoL3 hM, ↓MoS3 hM, ↓MoL4 hM, ↓MoS4 hM, ↓MoL5 hM, ↓MoS5 hM, ↓MoL6 hM, ↓MoS6 hM, ↓MoL7 hM, ↓MoS7 hM, ↓MoL8 hM, ↓MoS8 hM, ↓MoL9 hM, ↓MoS9 hM, ↓MoL10 hM, ↓MoS10 hM, ↓MoL11 hM, ↓MoS11 hM, ↓A_if, ↓A_jn, ↓A_lt, ↓A_rz, ↓A_rn, ↓A_nzi, ↓A_nzl, ↓A_nn1, ↓A_nn0, ↓reduceIte, true_and, and_true, if_true, if_false, ite_true, ite_false, reduceIte, tl_0, tl_1, tl_2, tl_3, tl_4, tl_5, tl_6, tl_7, tl_8, tl_9, tl_10, tl_11, tl_12, tl_13, tl_14, tl_15, tl_16, tl_17, tl_18, tl_19, tl_20, tl_21, tl_22, tl_23, tl_24, tl_25, tl_26, tl_27, tl_28, tl_29, tl_30, tl_31, tl_32, tl_33, tl_34, tl_35, tl_36, tl_37, tl_38, tl_39, tl_40, tl_41, tl_42, tl_43, tl_44, tl_45, tl_46, tl_47, tl_48, tl_49, tl_50, tl_51, tl_52, tl_53, tl_54, tl_57, tl_59, tl_60, tl_62, tl_63, tl_64, tl_97, tl_99, tl_100, tl_120, tl_122, tl_192, tl_193, tl_194, tl_195, tl_196, tl_255, tl_256, tl_299, tl_400, tl_401, tl_492, tl_493, tl_541, tl_849, tl_999, tl_1000, tl_1341, tl_1342, tl_1390, tl_2190, tl_5412, tl_5904, tl_9999, tl_12345, tl_32767, tl_65536, tl_1000000, tl_252645135, tl_858993459, tl_1103515245, tl_1431655765, nz_31, nz_c31, eq_self, or_true, true_or, or_false, false_or, Nat.add_zero, nz_lt, nz_le, nz_eq, nz_cl, nz_sub, nI_add, pk_mul, nt_lt, nf_lt, nf_eq, nz_mI, mI_eq, mI_eq', mI_lt, mI_gt, mI_add, ↓j_max, ↓j_min, Nat.sub_sub, Nat.reduceAdd, Nat.reduceSub, Nat.reduceLT, Nat.reduceEqDiff, Bool.false_eq_true]
  rw [← h1]
  rw [← h1] at W
  have hP := W.1
  generalize tw_up μ m 70 (nI 0) = μ1 at *
  rw [tw_ga_gd hA]
  refine tw_lp_for (2 ^ P - 1 + 1) (fun i => (nI (tw_gd tw_w8 (tw_Cg (fun p => tw_sGB (μ1 (m + 1)) p (nI 9) P) P) (2 ^ P - 1) i), nI (2 ^ P - 1) - nI i)) (fun _ => (sh, μ1, la, n)) ?_ rfl ?_ ?_
  · show (nI (2 ^ P - 1), nI (2 ^ P - 1) - nI 0) = _
    rw [nz_sub (by omega)]
    rfl
  · intro i hi rec
    have hv := tw_gd_le (w := tw_w8) (C := tw_Cg (fun p => tw_sGB (μ1 (m + 1)) p (nI 9) P) P) (A := 2 ^ P - 1) i
    have e : tw_gd tw_w8 (tw_Cg (fun p => tw_sGB (μ1 (m + 1)) p (nI 9) P) P) (2 ^ P - 1) (i + 1) = if tw_w8 (2 ^ P - 1 - i) ≤ tw_w8 (tw_gd tw_w8 (tw_Cg (fun p => tw_sGB (μ1 (m + 1)) p (nI 9) P) P) (2 ^ P - 1) i) ∧ tw_Cg (fun p => tw_sGB (μ1 (m + 1)) p (nI 9) P) P (2 ^ P - 1 - i) = true then 2 ^ P - 1 - i else tw_gd tw_w8 (tw_Cg (fun p => tw_sGB (μ1 (m + 1)) p (nI 9) P) P) (2 ^ P - 1) i := rfl
    have ed := tw_decx (A := 2 ^ P - 1) (j := i) (by omega) (by omega)
    have es : nI (2 ^ P - 1) - nI i = nI (2 ^ P - 1 - i) := nz_sub (by omega)
    rw [e, ← ed, es]
    generalize tw_gd tw_w8 (tw_Cg (fun p => tw_sGB (μ1 (m + 1)) p (nI 9) P) P) (2 ^ P - 1) i = y at *
    obtain ⟨d, hd⟩ : ∃ d, d = 2 ^ P - 1 - i := ⟨_, rfl⟩
    rw [← hd]
    have b1 : tw_bc (nI d) = nI (tw_w8 d) := tw_ct_bc d (by omega)
    have b2 : tw_bc (nI y) = nI (tw_w8 y) := tw_ct_bc y (by omega)
    have l1 := tw_w8_l d
    have l2 := tw_w8_l y
    have hd0 : ¬ nI d < nI 0 := by rw [nz_lt (by omega) (by omega)]; omega
    by_cases q1 : tw_w8 y < tw_w8 d
    · have q2 : ¬ tw_w8 d ≤ tw_w8 y := by omega
      simp (disch := omega) only [hd0, q1, q2, b1, b2, false_and, ↓j_bc, nz_mI, ↓MoV0 hM, ↓A_if, ↓A_jn, ↓A_lt, ↓A_rz, ↓A_rn, ↓A_nzi, ↓A_nzl, ↓A_nn1, ↓A_nn0, ↓reduceIte, true_and, and_true, if_true, if_false, ite_true, ite_false, reduceIte, tl_0, nz_lt]
    · have q2 : tw_w8 d ≤ tw_w8 y := by omega
      by_cases q3 : tw_tl (fun p => tw_sGB (μ1 (m + 1)) p (nI 9) P) (nI (2 ^ P - 1) &&& (nI d ^^^ mI)) P &&& (nI (2 ^ P - 1) &&& (nI d ^^^ mI)) = nI 0
      · have q4 : tw_Cg (fun p => tw_sGB (μ1 (m + 1)) p (nI 9) P) P d = true := decide_eq_true q3
        simp (disch := omega) only [hd0, q1, q2, q3, q4, b1, b2, and_self, ↓j_bc, ↓m_all hM hP h8, m_nobodyKnows hM W, nz_mI, ↓MoV0 hM, ↓A_if, ↓A_jn, ↓A_lt, ↓A_rz, ↓A_rn, ↓A_nzi, ↓A_nzl, ↓A_nn1, ↓A_nn0, ↓reduceIte, true_and, and_true, if_true, if_false, ite_true, ite_false, reduceIte, tl_0, tl_1, nz_lt, nz_eq, Nat.reduceEqDiff, Bool.false_eq_true]
      · have q4 : ¬ tw_Cg (fun p => tw_sGB (μ1 (m + 1)) p (nI 9) P) P d = true := fun g => q3 (of_decide_eq_true g)
        simp (disch := omega) only [hd0, q1, q2, q3, q4, b1, b2, and_false, ↓j_bc, ↓m_all hM hP h8, m_nobodyKnows hM W, nz_mI, ↓MoV0 hM, ↓A_if, ↓A_jn, ↓A_lt, ↓A_rz, ↓A_rn, ↓A_nzi, ↓A_nzl, ↓A_nn1, ↓A_nn0, ↓reduceIte, true_and, and_true, if_true, if_false, ite_true, ite_false, reduceIte, tl_0, tl_1, nz_lt, nz_eq, Nat.reduceEqDiff, Bool.false_eq_true]
  · intro rec
    rw [tw_neg1]
    simp (disch := omega) only [tw_mI0, ↓A_if, ↓A_jn, ↓A_lt, ↓A_rz, ↓A_rn, ↓A_nzi, ↓A_nzl, ↓A_nn1, ↓A_nn0, ↓reduceIte, true_and, and_true, if_true, if_false, ite_true, ite_false, reduceIte, tl_0]
theorem m_headsO (hM : tw_Mo sh m) (W : tw_WF (μ (m + 1)) P) (k : Int32 → tw_Mem → Prop) : f_X12_heads m k (sh, μ, la, n) = k (nI (tw_ga tw_w8 (tw_Ch (fun p => tw_sGB (μ (m + 1)) p (μ (m + 1) 5) P) P) (2 ^ P - 1) (2 ^ P - 1))) (sh, tw_up μ m 70 (nI 0), la, n) := by
  have h1 : tw_up μ m 70 (nI 0) (m + 1) = μ (m + 1) := tw_up_ne (by omega)
  have h8 := W.2.1
  have h2 := tw_p256 h8
  have hA : ∀ s, s < 2 ^ P - 1 → tw_w8 s < tw_w8 (2 ^ P - 1) := tw_ct_s P (by omega)
  have hp0 : tw_up μ m 70 (nI 0) (m + 1) 0 = nI P := by rw [h1]; exact W.1
  simp (disch := omega) only [f_X12_heads, ↓m_all hM hp0 h8, ↓MoV0 hM, ↓MoI0_70 hM, ↓MoP0_70 hM, ↓MoZ0_70 hM, ↓MoG0_71 hM, ↓MoG0_72 hM, ↓MoG0_73 hM, ↓MoG0_74 hM, ↓MoG0_75 hM, ↓MoI0_76 hM, ↓MoP0_76 hM, ↓MoZ0_76 hM, ↓MoI0_77 hM, ↓MoP0_77 hM, ↓MoZ0_77 hM, ↓MoG0_78 hM, ↓MoI0_79 hM, ↓MoP0_79 hM, ↓MoZ0_79 hM, ↓MoI0_80 hM, ↓MoP0_80 hM, ↓MoZ0_80 hM, ↓MoI0_81 hM, ↓MoP0_81 hM, ↓MoZ0_81 hM, ↓MoI0_82 hM, ↓MoP0_82 hM, ↓MoZ0_82 hM, ↓MoI0_83 hM, ↓MoP0_83 hM, ↓MoZ0_83 hM, ↓MoI0_84 hM, ↓MoP0_84 hM, ↓MoZ0_84 hM, ↓MoG0_85 hM, ↓MoI0_86 hM, ↓MoP0_86 hM, ↓MoZ0_86 hM, ↓MoG0_87 hM, ↓MoI0_88 hM, ↓MoP0_88 hM, ↓MoZ0_88 hM, ↓MoG0_89 hM, ↓MoG0_90 hM, ↓MoG0_91 hM, ↓MoG0_92 hM, ↓MoL0 hM, ↓MoS0 hM, ↓MoL1 hM, ↓MoS1 hM, ↓MoL2 hM, ↓MoS2 hM, ↓MoL3 hM, ↓MoS3 hM, ↓MoL4 hM, ↓MoS4 hM, ↓MoL5 hM, ↓MoS5 hM, ↓MoL6 hM, ↓MoS6 hM, ↓MoL7 hM, ↓MoS7 hM, ↓MoL8 hM, ↓MoS8 hM, ↓MoL9 hM, ↓MoS9 hM, ↓MoL10 hM, ↓MoS10 hM, ↓MoL11 hM, ↓MoS11 hM, ↓A_if, ↓A_jn, ↓A_lt, ↓A_rz, ↓A_rn, ↓A_nzi, ↓A_nzl, ↓A_nn1, ↓A_nn0, ↓reduceIte, true_and, and_true, if_true, if_false, ite_true, ite_false, reduceIte, tl_0, tl_1, tl_2, tl_3, tl_4, tl_5, tl_6, tl_7, tl_8, tl_9, tl_10, tl_11, tl_12, tl_13, tl_14, tl_15, tl_16, tl_17, tl_18, tl_19, tl_20, tl_21, tl_22, tl_23, tl_24, tl_25, tl_26, tl_27, tl_28, tl_29, tl_30, tl_31, tl_32, tl_33, tl_34, tl_35, tl_36, tl_37, tl_38, tl_39, tl_40, tl_41, tl_42, tl_43, tl_44, tl_45, tl_46, tl_47, tl_48, tl_49, tl_50, tl_51, tl_52, tl_53, tl_54, tl_57, tl_59, tl_60, tl_62, tl_63, tl_64, tl_97, tl_99, tl_100, tl_120, tl_122, tl_192, tl_193, tl_194, tl_195, tl_196, tl_255, tl_256, tl_299, tl_400, tl_401, tl_492, tl_493, tl_541, tl_849, tl_999, tl_1000, tl_1341, tl_1342, tl_1390, tl_2190, tl_5412, tl_5904, tl_9999, tl_12345, tl_32767, tl_65536, tl_1000000, tl_252645135, tl_858993459, tl_1103515245, tl_1431655765, nz_31, nz_c31, eq_self, or_true, true_or, or_false, false_or, Nat.add_zero, nz_lt, nz_le, nz_eq, nz_cl, nz_sub, nI_add, pk_mul, nt_lt, nf_lt, nf_eq, nz_mI, mI_eq, mI_eq', mI_lt, mI_gt, mI_add, ↓j_max, ↓j_min, Nat.sub_sub, Nat.reduceAdd, Nat.reduceSub, Nat.reduceLT, Nat.reduceEqDiff, Bool.false_eq_true]
  rw [← h1]
  rw [← h1] at W
  have hP := W.1
  generalize tw_up μ m 70 (nI 0) = μ1 at *
  rw [tw_ga_gd hA]
  generalize hR : (fun p => tw_sGB (μ1 (m + 1)) p (μ1 (m + 1) 5) P) = R
  refine tw_lp_for (2 ^ P - 1 + 1) (fun i => (nI (tw_gd tw_w8 (tw_Ch R P) (2 ^ P - 1) i), nI (2 ^ P - 1) - nI i)) (fun _ => (sh, μ1, la, n)) ?_ rfl ?_ ?_
  · show (nI (2 ^ P - 1), nI (2 ^ P - 1) - nI 0) = _
    rw [nz_sub (by omega)]
    rfl
  · intro i hi rec
    have hv := tw_gd_le (w := tw_w8) (C := tw_Ch R P) (A := 2 ^ P - 1) i
    have e : tw_gd tw_w8 (tw_Ch R P) (2 ^ P - 1) (i + 1) = if tw_w8 (2 ^ P - 1 - i) ≤ tw_w8 (tw_gd tw_w8 (tw_Ch R P) (2 ^ P - 1) i) ∧ tw_Ch R P (2 ^ P - 1 - i) = true then 2 ^ P - 1 - i else tw_gd tw_w8 (tw_Ch R P) (2 ^ P - 1) i := rfl
    have ed := tw_decx (A := 2 ^ P - 1) (j := i) (by omega) (by omega)
    have es : nI (2 ^ P - 1) - nI i = nI (2 ^ P - 1 - i) := nz_sub (by omega)
    rw [e, ← ed, es]
    generalize tw_gd tw_w8 (tw_Ch R P) (2 ^ P - 1) i = y at *
    obtain ⟨d, hd⟩ : ∃ d, d = 2 ^ P - 1 - i := ⟨_, rfl⟩
    rw [← hd]
    have b1 : tw_bc (nI d) = nI (tw_w8 d) := tw_ct_bc d (by omega)
    have b2 : tw_bc (nI y) = nI (tw_w8 y) := tw_ct_bc y (by omega)
    have l1 := tw_w8_l d
    have l2 := tw_w8_l y
    have hd0 : ¬ nI d < nI 0 := by rw [nz_lt (by omega) (by omega)]; omega
    have ec : nI d ||| tw_tl R (nI d) P = tw_tl R (nI d) P ||| nI d := Int32.or_comm _ _
    by_cases q1 : tw_w8 y < tw_w8 d
    · have q2 : ¬ tw_w8 d ≤ tw_w8 y := by omega
      simp (disch := omega) only [hd0, q1, q2, b1, b2, false_and, ↓j_bc, nz_mI, ↓MoV0 hM, ↓A_if, ↓A_jn, ↓A_lt, ↓A_rz, ↓A_rn, ↓A_nzi, ↓A_nzl, ↓A_nn1, ↓A_nn0, ↓reduceIte, true_and, and_true, if_true, if_false, ite_true, ite_false, reduceIte, tl_0, nz_lt]
    · have q2 : tw_w8 d ≤ tw_w8 y := by omega
      by_cases q3 : tw_tl R (nI d) P ||| nI d = nI (2 ^ P - 1)
      · have q4 : tw_Ch R P d = true := decide_eq_true q3
        simp (disch := omega) only [hd0, q1, q2, q3, q4, b1, b2, and_self, ↓j_bc, ↓m_areHeads hM W, hR, ec, nz_mI, ↓MoV0 hM, ↓A_if, ↓A_jn, ↓A_lt, ↓A_rz, ↓A_rn, ↓A_nzi, ↓A_nzl, ↓A_nn1, ↓A_nn0, ↓reduceIte, true_and, and_true, if_true, if_false, ite_true, ite_false, reduceIte, tl_0, tl_1, nz_lt, nz_eq, Nat.reduceEqDiff, Bool.false_eq_true]
      · have q4 : ¬ tw_Ch R P d = true := fun g => q3 (of_decide_eq_true g)
        simp (disch := omega) only [hd0, q1, q2, q3, q4, b1, b2, and_false, ↓j_bc, ↓m_areHeads hM W, hR, ec, nz_mI, ↓MoV0 hM, ↓A_if, ↓A_jn, ↓A_lt, ↓A_rz, ↓A_rn, ↓A_nzi, ↓A_nzl, ↓A_nn1, ↓A_nn0, ↓reduceIte, true_and, and_true, if_true, if_false, ite_true, ite_false, reduceIte, tl_0, tl_1, nz_lt, nz_eq, Nat.reduceEqDiff, Bool.false_eq_true]
  · intro rec
    rw [tw_neg1]
    simp (disch := omega) only [tw_mI0, ↓A_if, ↓A_jn, ↓A_lt, ↓A_rz, ↓A_rn, ↓A_nzi, ↓A_nzl, ↓A_nn1, ↓A_nn0, ↓reduceIte, true_and, and_true, if_true, if_false, ite_true, ite_false, reduceIte, tl_0]
theorem m_crowdO (hM : tw_Mo sh m) (W : tw_WF (μ (m + 1)) P) (k : Int32 → tw_Mem → Prop) : f_X12_crowd m k (sh, μ, la, n) = k (tw_sCr (fun p => tw_sGB (μ (m + 1)) p (nI 9) P) P (2 ^ P - 1)) (sh, tw_up μ m 70 (nI 0), la, n) := by
  have h1 : tw_up μ m 70 (nI 0) (m + 1) = μ (m + 1) := tw_up_ne (by omega)
  have h8 := W.2.1
  have h2 := tw_p256 h8
  simp (disch := omega) only [f_X12_crowd, ↓MoV0 hM, ↓MoI0_70 hM, ↓MoP0_70 hM, ↓MoZ0_70 hM, ↓MoG0_71 hM, ↓MoG0_72 hM, ↓MoG0_73 hM, ↓MoG0_74 hM, ↓MoG0_75 hM, ↓MoI0_76 hM, ↓MoP0_76 hM, ↓MoZ0_76 hM, ↓MoI0_77 hM, ↓MoP0_77 hM, ↓MoZ0_77 hM, ↓MoG0_78 hM, ↓MoI0_79 hM, ↓MoP0_79 hM, ↓MoZ0_79 hM, ↓MoI0_80 hM, ↓MoP0_80 hM, ↓MoZ0_80 hM, ↓MoI0_81 hM, ↓MoP0_81 hM, ↓MoZ0_81 hM, ↓MoI0_82 hM, ↓MoP0_82 hM, ↓MoZ0_82 hM, ↓MoI0_83 hM, ↓MoP0_83 hM, ↓MoZ0_83 hM, ↓MoI0_84 hM, ↓MoP0_84 hM, ↓MoZ0_84 hM, ↓MoG0_85 hM, ↓MoI0_86 hM, ↓MoP0_86 hM, ↓MoZ0_86 hM, ↓MoG0_87 hM, ↓MoI0_88 hM, ↓MoP0_88 hM, ↓MoZ0_88 hM, ↓MoG0_89 hM, ↓MoG0_90 hM, ↓MoG0_91 hM, ↓MoG0_92 hM, ↓MoL0 hM, ↓MoS0 hM, ↓MoL1 hM, ↓MoS1 hM, ↓MoL2 hM, ↓MoS2 hM, ↓MoL3 hM, ↓MoS3 hM, ↓MoL4 hM, ↓MoS4 hM, ↓MoL5 hM, ↓MoS5 hM, ↓MoL6 hM, ↓MoS6 hM, ↓MoL7 hM, ↓MoS7 hM, ↓MoL8 hM, ↓MoS8 hM, ↓MoL9 hM, ↓MoS9 hM, ↓MoL10 hM, ↓MoS10 hM, ↓MoL11 hM, ↓MoS11 hM, ↓A_if, ↓A_jn, ↓A_lt, ↓A_rz, ↓A_rn, ↓A_nzi, ↓A_nzl, ↓A_nn1, ↓A_nn0, ↓reduceIte, true_and, and_true, if_true, if_false, ite_true, ite_false, reduceIte, tl_0, tl_1, tl_2, tl_3, tl_4, tl_5, tl_6, tl_7, tl_8, tl_9, tl_10, tl_11, tl_12, tl_13, tl_14, tl_15, tl_16, tl_17, tl_18, tl_19, tl_20, tl_21, tl_22, tl_23, tl_24, tl_25, tl_26, tl_27, tl_28, tl_29, tl_30, tl_31, tl_32, tl_33, tl_34, tl_35, tl_36, tl_37, tl_38, tl_39, tl_40, tl_41, tl_42, tl_43, tl_44, tl_45, tl_46, tl_47, tl_48, tl_49, tl_50, tl_51, tl_52, tl_53, tl_54, tl_57, tl_59, tl_60, tl_62, tl_63, tl_64, tl_97, tl_99, tl_100, tl_120, tl_122, tl_192, tl_193, tl_194, tl_195, tl_196, tl_255, tl_256, tl_299, tl_400, tl_401, tl_492, tl_493, tl_541, tl_849, tl_999, tl_1000, tl_1341, tl_1342, tl_1390, tl_2190, tl_5412, tl_5904, tl_9999, tl_12345, tl_32767, tl_65536, tl_1000000, tl_252645135, tl_858993459, tl_1103515245, tl_1431655765, nz_31, nz_c31, eq_self, or_true, true_or, or_false, false_or, Nat.add_zero, nz_lt, nz_le, nz_eq, nz_cl, nz_sub, nI_add, pk_mul, nt_lt, nf_lt, nf_eq, nz_mI, mI_eq, mI_eq', mI_lt, mI_gt, mI_add, ↓j_max, ↓j_min, Nat.sub_sub, Nat.reduceAdd, Nat.reduceSub, Nat.reduceLT, Nat.reduceEqDiff, Bool.false_eq_true]
  rw [← h1]
  rw [← h1] at W
  have hP := W.1
  generalize tw_up μ m 70 (nI 0) = μ1 at *
  refine tw_lp_for (2 ^ P - 1) (fun i => (tw_sCr (fun p => tw_sGB (μ1 (m + 1)) p (nI 9) P) P i, nI (i + 1))) (fun _ => (sh, μ1, la, n)) rfl rfl ?_ ?_
  · intro i hi rec
    have e : tw_sCr (fun p => tw_sGB (μ1 (m + 1)) p (nI 9) P) P (i + 1) = (if tw_bc (tw_sCr (fun p => tw_sGB (μ1 (m + 1)) p (nI 9) P) P i) < tw_bc (nI (i + 1)) then (if tw_tl (fun p => tw_sGB (μ1 (m + 1)) p (nI 9) P) (nI (i + 1)) P &&& nI (i + 1) = nI 0 then nI (i + 1) else tw_sCr (fun p => tw_sGB (μ1 (m + 1)) p (nI 9) P) P i) else tw_sCr (fun p => tw_sGB (μ1 (m + 1)) p (nI 9) P) P i) := rfl
    rw [e]
    generalize tw_sCr (fun p => tw_sGB (μ1 (m + 1)) p (nI 9) P) P i = y
    by_cases q1 : tw_bc y < tw_bc (nI (i + 1))
    · by_cases q2 : tw_tl (fun p => tw_sGB (μ1 (m + 1)) p (nI 9) P) (nI (i + 1)) P &&& nI (i + 1) = nI 0 <;> simp (disch := omega) only [q1, q2, ↓j_bc, ↓m_all hM hP h8, ↓m_nobodyKnows hM W, ↓MoV0 hM, ↓MoI0_70 hM, ↓MoP0_70 hM, ↓MoZ0_70 hM, ↓MoG0_71 hM, ↓MoG0_72 hM, ↓MoG0_73 hM, ↓MoG0_74 hM, ↓MoG0_75 hM, ↓MoI0_76 hM, ↓MoP0_76 hM, ↓MoZ0_76 hM, ↓MoI0_77 hM, ↓MoP0_77 hM, ↓MoZ0_77 hM, ↓MoG0_78 hM, ↓MoI0_79 hM, ↓MoP0_79 hM, ↓MoZ0_79 hM, ↓MoI0_80 hM, ↓MoP0_80 hM, ↓MoZ0_80 hM, ↓MoI0_81 hM, ↓MoP0_81 hM, ↓MoZ0_81 hM, ↓MoI0_82 hM, ↓MoP0_82 hM, ↓MoZ0_82 hM, ↓MoI0_83 hM, ↓MoP0_83 hM, ↓MoZ0_83 hM, ↓MoI0_84 hM, ↓MoP0_84 hM, ↓MoZ0_84 hM, ↓MoG0_85 hM, ↓MoI0_86 hM, ↓MoP0_86 hM, ↓MoZ0_86 hM, ↓MoG0_87 hM, ↓MoI0_88 hM, ↓MoP0_88 hM, ↓MoZ0_88 hM, ↓MoG0_89 hM, ↓MoG0_90 hM, ↓MoG0_91 hM, ↓MoG0_92 hM, ↓MoL0 hM, ↓MoS0 hM, ↓MoL1 hM, ↓MoS1 hM, ↓MoL2 hM, ↓MoS2 hM, ↓MoL3 hM, ↓MoS3 hM, ↓MoL4 hM, ↓MoS4 hM, ↓MoL5 hM, ↓MoS5 hM, ↓MoL6 hM, ↓MoS6 hM, ↓MoL7 hM, ↓MoS7 hM, ↓MoL8 hM, ↓MoS8 hM, ↓MoL9 hM, ↓MoS9 hM, ↓MoL10 hM, ↓MoS10 hM, ↓MoL11 hM, ↓MoS11 hM, ↓A_if, ↓A_jn, ↓A_lt, ↓A_rz, ↓A_rn, ↓A_nzi, ↓A_nzl, ↓A_nn1, ↓A_nn0, ↓reduceIte, true_and, and_true, if_true, if_false, ite_true, ite_false, reduceIte, tl_0, tl_1, tl_2, tl_3, tl_4, tl_5, tl_6, tl_7, tl_8, tl_9, tl_10, tl_11, tl_12, tl_13, tl_14, tl_15, tl_16, tl_17, tl_18, tl_19, tl_20, tl_21, tl_22, tl_23, tl_24, tl_25, tl_26, tl_27, tl_28, tl_29, tl_30, tl_31, tl_32, tl_33, tl_34, tl_35, tl_36, tl_37, tl_38, tl_39, tl_40, tl_41, tl_42, tl_43, tl_44, tl_45, tl_46, tl_47, tl_48, tl_49, tl_50, tl_51, tl_52, tl_53, tl_54, tl_57, tl_59, tl_60, tl_62, tl_63, tl_64, tl_97, tl_99, tl_100, tl_120, tl_122, tl_192, tl_193, tl_194, tl_195, tl_196, tl_255, tl_256, tl_299, tl_400, tl_401, tl_492, tl_493, tl_541, tl_849, tl_999, tl_1000, tl_1341, tl_1342, tl_1390, tl_2190, tl_5412, tl_5904, tl_9999, tl_12345, tl_32767, tl_65536, tl_1000000, tl_252645135, tl_858993459, tl_1103515245, tl_1431655765, nz_31, nz_c31, eq_self, or_true, true_or, or_false, false_or, Nat.add_zero, nz_lt, nz_le, nz_eq, nz_cl, nz_sub, nI_add, pk_mul, nt_lt, nf_lt, nf_eq, nz_mI, mI_eq, mI_eq', mI_lt, mI_gt, mI_add, ↓j_max, ↓j_min, Nat.sub_sub, Nat.reduceAdd, Nat.reduceSub, Nat.reduceLT, Nat.reduceEqDiff, Bool.false_eq_true]
    · simp (disch := omega) only [q1, ↓j_bc, ↓m_all hM hP h8, ↓MoV0 hM, ↓MoI0_70 hM, ↓MoP0_70 hM, ↓MoZ0_70 hM, ↓MoG0_71 hM, ↓MoG0_72 hM, ↓MoG0_73 hM, ↓MoG0_74 hM, ↓MoG0_75 hM, ↓MoI0_76 hM, ↓MoP0_76 hM, ↓MoZ0_76 hM, ↓MoI0_77 hM, ↓MoP0_77 hM, ↓MoZ0_77 hM, ↓MoG0_78 hM, ↓MoI0_79 hM, ↓MoP0_79 hM, ↓MoZ0_79 hM, ↓MoI0_80 hM, ↓MoP0_80 hM, ↓MoZ0_80 hM, ↓MoI0_81 hM, ↓MoP0_81 hM, ↓MoZ0_81 hM, ↓MoI0_82 hM, ↓MoP0_82 hM, ↓MoZ0_82 hM, ↓MoI0_83 hM, ↓MoP0_83 hM, ↓MoZ0_83 hM, ↓MoI0_84 hM, ↓MoP0_84 hM, ↓MoZ0_84 hM, ↓MoG0_85 hM, ↓MoI0_86 hM, ↓MoP0_86 hM, ↓MoZ0_86 hM, ↓MoG0_87 hM, ↓MoI0_88 hM, ↓MoP0_88 hM, ↓MoZ0_88 hM, ↓MoG0_89 hM, ↓MoG0_90 hM, ↓MoG0_91 hM, ↓MoG0_92 hM, ↓MoL0 hM, ↓MoS0 hM, ↓MoL1 hM, ↓MoS1 hM, ↓MoL2 hM, ↓MoS2 hM, ↓MoL3 hM, ↓MoS3 hM, ↓MoL4 hM, ↓MoS4 hM, ↓MoL5 hM, ↓MoS5 hM, ↓MoL6 hM, ↓MoS6 hM, ↓MoL7 hM, ↓MoS7 hM, ↓MoL8 hM, ↓MoS8 hM, ↓MoL9 hM, ↓MoS9 hM, ↓MoL10 hM, ↓MoS10 hM, ↓MoL11 hM, ↓MoS11 hM, ↓A_if, ↓A_jn, ↓A_lt, ↓A_rz, ↓A_rn, ↓A_nzi, ↓A_nzl, ↓A_nn1, ↓A_nn0, ↓reduceIte, true_and, and_true, if_true, if_false, ite_true, ite_false, reduceIte, tl_0, tl_1, tl_2, tl_3, tl_4, tl_5, tl_6, tl_7, tl_8, tl_9, tl_10, tl_11, tl_12, tl_13, tl_14, tl_15, tl_16, tl_17, tl_18, tl_19, tl_20, tl_21, tl_22, tl_23, tl_24, tl_25, tl_26, tl_27, tl_28, tl_29, tl_30, tl_31, tl_32, tl_33, tl_34, tl_35, tl_36, tl_37, tl_38, tl_39, tl_40, tl_41, tl_42, tl_43, tl_44, tl_45, tl_46, tl_47, tl_48, tl_49, tl_50, tl_51, tl_52, tl_53, tl_54, tl_57, tl_59, tl_60, tl_62, tl_63, tl_64, tl_97, tl_99, tl_100, tl_120, tl_122, tl_192, tl_193, tl_194, tl_195, tl_196, tl_255, tl_256, tl_299, tl_400, tl_401, tl_492, tl_493, tl_541, tl_849, tl_999, tl_1000, tl_1341, tl_1342, tl_1390, tl_2190, tl_5412, tl_5904, tl_9999, tl_12345, tl_32767, tl_65536, tl_1000000, tl_252645135, tl_858993459, tl_1103515245, tl_1431655765, nz_31, nz_c31, eq_self, or_true, true_or, or_false, false_or, Nat.add_zero, nz_lt, nz_le, nz_eq, nz_cl, nz_sub, nI_add, pk_mul, nt_lt, nf_lt, nf_eq, nz_mI, mI_eq, mI_eq', mI_lt, mI_gt, mI_add, ↓j_max, ↓j_min, Nat.sub_sub, Nat.reduceAdd, Nat.reduceSub, Nat.reduceLT, Nat.reduceEqDiff, Bool.false_eq_true]
  · intro rec
    simp (disch := omega) only [↓m_all hM hP h8, ↓MoV0 hM, ↓MoI0_70 hM, ↓MoP0_70 hM, ↓MoZ0_70 hM, ↓MoG0_71 hM, ↓MoG0_72 hM, ↓MoG0_73 hM, ↓MoG0_74 hM, ↓MoG0_75 hM, ↓MoI0_76 hM, ↓MoP0_76 hM, ↓MoZ0_76 hM, ↓MoI0_77 hM, ↓MoP0_77 hM, ↓MoZ0_77 hM, ↓MoG0_78 hM, ↓MoI0_79 hM, ↓MoP0_79 hM, ↓MoZ0_79 hM, ↓MoI0_80 hM, ↓MoP0_80 hM, ↓MoZ0_80 hM, ↓MoI0_81 hM, ↓MoP0_81 hM, ↓MoZ0_81 hM, ↓MoI0_82 hM, ↓MoP0_82 hM, ↓MoZ0_82 hM, ↓MoI0_83 hM, ↓MoP0_83 hM, ↓MoZ0_83 hM, ↓MoI0_84 hM, ↓MoP0_84 hM, ↓MoZ0_84 hM, ↓MoG0_85 hM, ↓MoI0_86 hM, ↓MoP0_86 hM, ↓MoZ0_86 hM, ↓MoG0_87 hM, ↓MoI0_88 hM, ↓MoP0_88 hM, ↓MoZ0_88 hM, ↓MoG0_89 hM, ↓MoG0_90 hM, ↓MoG0_91 hM, ↓MoG0_92 hM, ↓MoL0 hM, ↓MoS0 hM, ↓MoL1 hM, ↓MoS1 hM, ↓MoL2 hM, ↓MoS2 hM, ↓MoL3 hM, ↓MoS3 hM, ↓MoL4 hM, ↓MoS4 hM, ↓MoL5 hM, ↓MoS5 hM, ↓MoL6 hM, ↓MoS6 hM, ↓MoL7 hM, ↓MoS7 hM, ↓MoL8 hM, ↓MoS8 hM, ↓MoL9 hM, ↓MoS9 hM, ↓MoL10 hM, ↓MoS10 hM, ↓MoL11 hM, ↓MoS11 hM, ↓A_if, ↓A_jn, ↓A_lt, ↓A_rz, ↓A_rn, ↓A_nzi, ↓A_nzl, ↓A_nn1, ↓A_nn0, ↓reduceIte, true_and, and_true, if_true, if_false, ite_true, ite_false, reduceIte, tl_0, tl_1, tl_2, tl_3, tl_4, tl_5, tl_6, tl_7, tl_8, tl_9, tl_10, tl_11, tl_12, tl_13, tl_14, tl_15, tl_16, tl_17, tl_18, tl_19, tl_20, tl_21, tl_22, tl_23, tl_24, tl_25, tl_26, tl_27, tl_28, tl_29, tl_30, tl_31, tl_32, tl_33, tl_34, tl_35, tl_36, tl_37, tl_38, tl_39, tl_40, tl_41, tl_42, tl_43, tl_44, tl_45, tl_46, tl_47, tl_48, tl_49, tl_50, tl_51, tl_52, tl_53, tl_54, tl_57, tl_59, tl_60, tl_62, tl_63, tl_64, tl_97, tl_99, tl_100, tl_120, tl_122, tl_192, tl_193, tl_194, tl_195, tl_196, tl_255, tl_256, tl_299, tl_400, tl_401, tl_492, tl_493, tl_541, tl_849, tl_999, tl_1000, tl_1341, tl_1342, tl_1390, tl_2190, tl_5412, tl_5904, tl_9999, tl_12345, tl_32767, tl_65536, tl_1000000, tl_252645135, tl_858993459, tl_1103515245, tl_1431655765, nz_31, nz_c31, eq_self, or_true, true_or, or_false, false_or, Nat.add_zero, nz_lt, nz_le, nz_eq, nz_cl, nz_sub, nI_add, pk_mul, nt_lt, nf_lt, nf_eq, nz_mI, mI_eq, mI_eq', mI_lt, mI_gt, mI_add, ↓j_max, ↓j_min, Nat.sub_sub, Nat.reduceAdd, Nat.reduceSub, Nat.reduceLT, Nat.reduceEqDiff, Bool.false_eq_true]
theorem m_across (hM : tw_Mo sh m) (W : tw_WF (μ (m + 1)) P) (hx : x < 2 ^ P) (k : Int32 → tw_Mem → Prop) : f_X12_across m (nI x) k (sh, μ, la, n) = k (tw_ac (fun p => tw_rb (μ (m + 1)) p P) (nI x) P) (sh, μ, la, n) := by
  have h8 := W.2.1
  have hP := W.1
  have h2 := tw_p256 h8
  unfold f_X12_across
  refine tw_lp_for P (fun i => (tw_ac (fun p => tw_rb (μ (m + 1)) p P) (nI x) i, nI i)) (fun _ => (sh, μ, la, n)) rfl rfl ?_ ?_
  · intro i hi rec
    have e : tw_ac (fun p => tw_rb (μ (m + 1)) p P) (nI x) (i + 1) = (if (nI x >>> nI i) &&& nI 1 = nI 1 then tw_ac (fun p => tw_rb (μ (m + 1)) p P) (nI x) i + tw_bc (tw_rb (μ (m + 1)) i P &&& (nI x ^^^ mI)) else tw_ac (fun p => tw_rb (μ (m + 1)) p P) (nI x) i) := rfl
    rw [e]
    generalize tw_ac (fun p => tw_rb (μ (m + 1)) p P) (nI x) i = y
    simp (disch := omega) only [↓m_people hM, hP, ↓MoV0 hM, ↓MoI0_70 hM, ↓MoP0_70 hM, ↓MoZ0_70 hM, ↓MoG0_71 hM, ↓MoG0_72 hM, ↓MoG0_73 hM, ↓MoG0_74 hM, ↓MoG0_75 hM, ↓MoI0_76 hM, ↓MoP0_76 hM, ↓MoZ0_76 hM, ↓MoI0_77 hM, ↓MoP0_77 hM, ↓MoZ0_77 hM, ↓MoG0_78 hM, ↓MoI0_79 hM, ↓MoP0_79 hM, ↓MoZ0_79 hM, ↓MoI0_80 hM, ↓MoP0_80 hM, ↓MoZ0_80 hM, ↓MoI0_81 hM, ↓MoP0_81 hM, ↓MoZ0_81 hM, ↓MoI0_82 hM, ↓MoP0_82 hM, ↓MoZ0_82 hM, ↓MoI0_83 hM, ↓MoP0_83 hM, ↓MoZ0_83 hM, ↓MoI0_84 hM, ↓MoP0_84 hM, ↓MoZ0_84 hM, ↓MoG0_85 hM, ↓MoI0_86 hM, ↓MoP0_86 hM, ↓MoZ0_86 hM, ↓MoG0_87 hM, ↓MoI0_88 hM, ↓MoP0_88 hM, ↓MoZ0_88 hM, ↓MoG0_89 hM, ↓MoG0_90 hM, ↓MoG0_91 hM, ↓MoG0_92 hM, ↓MoL0 hM, ↓MoS0 hM, ↓MoL1 hM, ↓MoS1 hM, ↓MoL2 hM, ↓MoS2 hM, ↓MoL3 hM, ↓MoS3 hM, ↓MoL4 hM, ↓MoS4 hM, ↓MoL5 hM, ↓MoS5 hM, ↓MoL6 hM, ↓MoS6 hM, ↓MoL7 hM, ↓MoS7 hM, ↓MoL8 hM, ↓MoS8 hM, ↓MoL9 hM, ↓MoS9 hM, ↓MoL10 hM, ↓MoS10 hM, ↓MoL11 hM, ↓MoS11 hM, ↓A_if, ↓A_jn, ↓A_lt, ↓A_rz, ↓A_rn, ↓A_nzi, ↓A_nzl, ↓A_nn1, ↓A_nn0, ↓reduceIte, true_and, and_true, if_true, if_false, ite_true, ite_false, reduceIte, tl_0, tl_1, tl_2, tl_3, tl_4, tl_5, tl_6, tl_7, tl_8, tl_9, tl_10, tl_11, tl_12, tl_13, tl_14, tl_15, tl_16, tl_17, tl_18, tl_19, tl_20, tl_21, tl_22, tl_23, tl_24, tl_25, tl_26, tl_27, tl_28, tl_29, tl_30, tl_31, tl_32, tl_33, tl_34, tl_35, tl_36, tl_37, tl_38, tl_39, tl_40, tl_41, tl_42, tl_43, tl_44, tl_45, tl_46, tl_47, tl_48, tl_49, tl_50, tl_51, tl_52, tl_53, tl_54, tl_57, tl_59, tl_60, tl_62, tl_63, tl_64, tl_97, tl_99, tl_100, tl_120, tl_122, tl_192, tl_193, tl_194, tl_195, tl_196, tl_255, tl_256, tl_299, tl_400, tl_401, tl_492, tl_493, tl_541, tl_849, tl_999, tl_1000, tl_1341, tl_1342, tl_1390, tl_2190, tl_5412, tl_5904, tl_9999, tl_12345, tl_32767, tl_65536, tl_1000000, tl_252645135, tl_858993459, tl_1103515245, tl_1431655765, nz_31, nz_c31, eq_self, or_true, true_or, or_false, false_or, Nat.add_zero, nz_lt, nz_le, nz_eq, nz_cl, nz_sub, nI_add, pk_mul, nt_lt, nf_lt, nf_eq, nz_mI, mI_eq, mI_eq', mI_lt, mI_gt, mI_add, ↓j_max, ↓j_min, Nat.sub_sub, Nat.reduceAdd, Nat.reduceSub, Nat.reduceLT, Nat.reduceEqDiff, Bool.false_eq_true]
    by_cases q : (nI x >>> nI i) &&& nI 1 = nI 1
    · obtain ⟨r, er, hr, hb⟩ := tw_rb_n (μ (m + 1)) i h8
      have hz := tw_nxx_lt (x := x) hr
      have ebc : tw_bc (tw_rb (μ (m + 1)) i P &&& (nI x ^^^ mI)) = nI (tw_ct (tw_nxx r x) P) := by
        rw [er, tw_nxx_e, tw_ct_bc _ (by omega), tw_ct_8 hz h8]
      rw [if_pos q, ebc]
      have qx : x.testBit i = true := by rw [← tw_isbN (by omega) (by omega)]; exact q
      refine tw_lp_for P (fun d => (y + nI (tw_ct (tw_nxx r x) d), nI d)) (fun _ => (sh, μ, la, n)) (by show (y + nI 0, nI 0) = _; rw [nz_add0]) rfl ?_ ?_
      · intro d hd rec2
        have ez := tw_nxx_b r x d (by omega)
        have ec : tw_ct (tw_nxx r x) (d + 1) = if (tw_nxx r x).testBit d = true then tw_ct (tw_nxx r x) d + 1 else tw_ct (tw_nxx r x) d := rfl
        rw [ec]
        generalize tw_ct (tw_nxx r x) d = c
        by_cases q2 : (nI x >>> nI d) &&& nI 1 = nI 1
        · have q3 : x.testBit d = true := by rw [← tw_isbN (by omega) (by omega)]; exact q2
          have q4 : (tw_nxx r x).testBit d = false := by rw [ez, q3, Bool.not_true, Bool.and_false]
          simp (disch := omega) only [↓m_people hM, hP, q, q2, q4, ↓m_has, nz_add0, ↓MoV0 hM, ↓MoI0_70 hM, ↓MoP0_70 hM, ↓MoZ0_70 hM, ↓MoG0_71 hM, ↓MoG0_72 hM, ↓MoG0_73 hM, ↓MoG0_74 hM, ↓MoG0_75 hM, ↓MoI0_76 hM, ↓MoP0_76 hM, ↓MoZ0_76 hM, ↓MoI0_77 hM, ↓MoP0_77 hM, ↓MoZ0_77 hM, ↓MoG0_78 hM, ↓MoI0_79 hM, ↓MoP0_79 hM, ↓MoZ0_79 hM, ↓MoI0_80 hM, ↓MoP0_80 hM, ↓MoZ0_80 hM, ↓MoI0_81 hM, ↓MoP0_81 hM, ↓MoZ0_81 hM, ↓MoI0_82 hM, ↓MoP0_82 hM, ↓MoZ0_82 hM, ↓MoI0_83 hM, ↓MoP0_83 hM, ↓MoZ0_83 hM, ↓MoI0_84 hM, ↓MoP0_84 hM, ↓MoZ0_84 hM, ↓MoG0_85 hM, ↓MoI0_86 hM, ↓MoP0_86 hM, ↓MoZ0_86 hM, ↓MoG0_87 hM, ↓MoI0_88 hM, ↓MoP0_88 hM, ↓MoZ0_88 hM, ↓MoG0_89 hM, ↓MoG0_90 hM, ↓MoG0_91 hM, ↓MoG0_92 hM, ↓MoL0 hM, ↓MoS0 hM, ↓MoL1 hM, ↓MoS1 hM, ↓MoL2 hM, ↓MoS2 hM, ↓MoL3 hM, ↓MoS3 hM, ↓MoL4 hM, ↓MoS4 hM, ↓MoL5 hM, ↓MoS5 hM, ↓MoL6 hM, ↓MoS6 hM, ↓MoL7 hM, ↓MoS7 hM, ↓MoL8 hM, ↓MoS8 hM, ↓MoL9 hM, ↓MoS9 hM, ↓MoL10 hM, ↓MoS10 hM, ↓MoL11 hM, ↓MoS11 hM, ↓A_if, ↓A_jn, ↓A_lt, ↓A_rz, ↓A_rn, ↓A_nzi, ↓A_nzl, ↓A_nn1, ↓A_nn0, ↓reduceIte, true_and, and_true, if_true, if_false, ite_true, ite_false, reduceIte, tl_0, tl_1, tl_2, tl_3, tl_4, tl_5, tl_6, tl_7, tl_8, tl_9, tl_10, tl_11, tl_12, tl_13, tl_14, tl_15, tl_16, tl_17, tl_18, tl_19, tl_20, tl_21, tl_22, tl_23, tl_24, tl_25, tl_26, tl_27, tl_28, tl_29, tl_30, tl_31, tl_32, tl_33, tl_34, tl_35, tl_36, tl_37, tl_38, tl_39, tl_40, tl_41, tl_42, tl_43, tl_44, tl_45, tl_46, tl_47, tl_48, tl_49, tl_50, tl_51, tl_52, tl_53, tl_54, tl_57, tl_59, tl_60, tl_62, tl_63, tl_64, tl_97, tl_99, tl_100, tl_120, tl_122, tl_192, tl_193, tl_194, tl_195, tl_196, tl_255, tl_256, tl_299, tl_400, tl_401, tl_492, tl_493, tl_541, tl_849, tl_999, tl_1000, tl_1341, tl_1342, tl_1390, tl_2190, tl_5412, tl_5904, tl_9999, tl_12345, tl_32767, tl_65536, tl_1000000, tl_252645135, tl_858993459, tl_1103515245, tl_1431655765, nz_31, nz_c31, eq_self, or_true, true_or, or_false, false_or, Nat.add_zero, nz_lt, nz_le, nz_eq, nz_cl, nz_sub, nI_add, pk_mul, nt_lt, nf_lt, nf_eq, nz_mI, mI_eq, mI_eq', mI_lt, mI_gt, mI_add, ↓j_max, ↓j_min, Nat.sub_sub, Nat.reduceAdd, Nat.reduceSub, Nat.reduceLT, Nat.reduceEqDiff, Bool.false_eq_true]
        · have q3 : x.testBit d = false := by
            cases g : x.testBit d
            · rfl
            · exact absurd (by rw [tw_isbN (by omega) (by omega)]; exact g) q2
          have hdi : ¬ d = i := fun g => by rw [g, qx] at q3; cases q3
          have q5 : r.testBit d = decide (tw_rg (μ (m + 1)) i d = nI 1) := by
            rw [hb d, decide_eq_true hd, Bool.true_and]
            apply decide_eq_decide.mpr
            exact ⟨fun g => g.2, fun g => ⟨hdi, g⟩⟩
          by_cases q6 : tw_rg (μ (m + 1)) i d = nI 1
          · have q4 : (tw_nxx r x).testBit d = true := by rw [ez, q3, q5, decide_eq_true q6]; rfl
            simp (disch := omega) only [↓m_people hM, hP, q, q2, q4, q6, ↓m_has, ↓m_rings hM, Int32.add_assoc, ↓MoV0 hM, ↓MoI0_70 hM, ↓MoP0_70 hM, ↓MoZ0_70 hM, ↓MoG0_71 hM, ↓MoG0_72 hM, ↓MoG0_73 hM, ↓MoG0_74 hM, ↓MoG0_75 hM, ↓MoI0_76 hM, ↓MoP0_76 hM, ↓MoZ0_76 hM, ↓MoI0_77 hM, ↓MoP0_77 hM, ↓MoZ0_77 hM, ↓MoG0_78 hM, ↓MoI0_79 hM, ↓MoP0_79 hM, ↓MoZ0_79 hM, ↓MoI0_80 hM, ↓MoP0_80 hM, ↓MoZ0_80 hM, ↓MoI0_81 hM, ↓MoP0_81 hM, ↓MoZ0_81 hM, ↓MoI0_82 hM, ↓MoP0_82 hM, ↓MoZ0_82 hM, ↓MoI0_83 hM, ↓MoP0_83 hM, ↓MoZ0_83 hM, ↓MoI0_84 hM, ↓MoP0_84 hM, ↓MoZ0_84 hM, ↓MoG0_85 hM, ↓MoI0_86 hM, ↓MoP0_86 hM, ↓MoZ0_86 hM, ↓MoG0_87 hM, ↓MoI0_88 hM, ↓MoP0_88 hM, ↓MoZ0_88 hM, ↓MoG0_89 hM, ↓MoG0_90 hM, ↓MoG0_91 hM, ↓MoG0_92 hM, ↓MoL0 hM, ↓MoS0 hM, ↓MoL1 hM, ↓MoS1 hM, ↓MoL2 hM, ↓MoS2 hM, ↓MoL3 hM, ↓MoS3 hM, ↓MoL4 hM, ↓MoS4 hM, ↓MoL5 hM, ↓MoS5 hM, ↓MoL6 hM, ↓MoS6 hM, ↓MoL7 hM, ↓MoS7 hM, ↓MoL8 hM, ↓MoS8 hM, ↓MoL9 hM, ↓MoS9 hM, ↓MoL10 hM, ↓MoS10 hM, ↓MoL11 hM, ↓MoS11 hM, ↓A_if, ↓A_jn, ↓A_lt, ↓A_rz, ↓A_rn, ↓A_nzi, ↓A_nzl, ↓A_nn1, ↓A_nn0, ↓reduceIte, true_and, and_true, if_true, if_false, ite_true, ite_false, reduceIte, tl_0, tl_1, tl_2, tl_3, tl_4, tl_5, tl_6, tl_7, tl_8, tl_9, tl_10, tl_11, tl_12, tl_13, tl_14, tl_15, tl_16, tl_17, tl_18, tl_19, tl_20, tl_21, tl_22, tl_23, tl_24, tl_25, tl_26, tl_27, tl_28, tl_29, tl_30, tl_31, tl_32, tl_33, tl_34, tl_35, tl_36, tl_37, tl_38, tl_39, tl_40, tl_41, tl_42, tl_43, tl_44, tl_45, tl_46, tl_47, tl_48, tl_49, tl_50, tl_51, tl_52, tl_53, tl_54, tl_57, tl_59, tl_60, tl_62, tl_63, tl_64, tl_97, tl_99, tl_100, tl_120, tl_122, tl_192, tl_193, tl_194, tl_195, tl_196, tl_255, tl_256, tl_299, tl_400, tl_401, tl_492, tl_493, tl_541, tl_849, tl_999, tl_1000, tl_1341, tl_1342, tl_1390, tl_2190, tl_5412, tl_5904, tl_9999, tl_12345, tl_32767, tl_65536, tl_1000000, tl_252645135, tl_858993459, tl_1103515245, tl_1431655765, nz_31, nz_c31, eq_self, or_true, true_or, or_false, false_or, Nat.add_zero, nz_lt, nz_le, nz_eq, nz_cl, nz_sub, nI_add, pk_mul, nt_lt, nf_lt, nf_eq, nz_mI, mI_eq, mI_eq', mI_lt, mI_gt, mI_add, ↓j_max, ↓j_min, Nat.sub_sub, Nat.reduceAdd, Nat.reduceSub, Nat.reduceLT, Nat.reduceEqDiff, Bool.false_eq_true]
          · have q4 : (tw_nxx r x).testBit d = false := by rw [ez, q3, q5, decide_eq_false q6]; rfl
            simp (disch := omega) only [↓m_people hM, hP, q, q2, q4, q6, ↓m_has, ↓m_rings hM, nz_add0, ↓MoV0 hM, ↓MoI0_70 hM, ↓MoP0_70 hM, ↓MoZ0_70 hM, ↓MoG0_71 hM, ↓MoG0_72 hM, ↓MoG0_73 hM, ↓MoG0_74 hM, ↓MoG0_75 hM, ↓MoI0_76 hM, ↓MoP0_76 hM, ↓MoZ0_76 hM, ↓MoI0_77 hM, ↓MoP0_77 hM, ↓MoZ0_77 hM, ↓MoG0_78 hM, ↓MoI0_79 hM, ↓MoP0_79 hM, ↓MoZ0_79 hM, ↓MoI0_80 hM, ↓MoP0_80 hM, ↓MoZ0_80 hM, ↓MoI0_81 hM, ↓MoP0_81 hM, ↓MoZ0_81 hM, ↓MoI0_82 hM, ↓MoP0_82 hM, ↓MoZ0_82 hM, ↓MoI0_83 hM, ↓MoP0_83 hM, ↓MoZ0_83 hM, ↓MoI0_84 hM, ↓MoP0_84 hM, ↓MoZ0_84 hM, ↓MoG0_85 hM, ↓MoI0_86 hM, ↓MoP0_86 hM, ↓MoZ0_86 hM, ↓MoG0_87 hM, ↓MoI0_88 hM, ↓MoP0_88 hM, ↓MoZ0_88 hM, ↓MoG0_89 hM, ↓MoG0_90 hM, ↓MoG0_91 hM, ↓MoG0_92 hM, ↓MoL0 hM, ↓MoS0 hM, ↓MoL1 hM, ↓MoS1 hM, ↓MoL2 hM, ↓MoS2 hM, ↓MoL3 hM, ↓MoS3 hM, ↓MoL4 hM, ↓MoS4 hM, ↓MoL5 hM, ↓MoS5 hM, ↓MoL6 hM, ↓MoS6 hM, ↓MoL7 hM, ↓MoS7 hM, ↓MoL8 hM, ↓MoS8 hM, ↓MoL9 hM, ↓MoS9 hM, ↓MoL10 hM, ↓MoS10 hM, ↓MoL11 hM, ↓MoS11 hM, ↓A_if, ↓A_jn, ↓A_lt, ↓A_rz, ↓A_rn, ↓A_nzi, ↓A_nzl, ↓A_nn1, ↓A_nn0, ↓reduceIte, true_and, and_true, if_true, if_false, ite_true, ite_false, reduceIte, tl_0, tl_1, tl_2, tl_3, tl_4, tl_5, tl_6, tl_7, tl_8, tl_9, tl_10, tl_11, tl_12, tl_13, tl_14, tl_15, tl_16, tl_17, tl_18, tl_19, tl_20, tl_21, tl_22, tl_23, tl_24, tl_25, tl_26, tl_27, tl_28, tl_29, tl_30, tl_31, tl_32, tl_33, tl_34, tl_35, tl_36, tl_37, tl_38, tl_39, tl_40, tl_41, tl_42, tl_43, tl_44, tl_45, tl_46, tl_47, tl_48, tl_49, tl_50, tl_51, tl_52, tl_53, tl_54, tl_57, tl_59, tl_60, tl_62, tl_63, tl_64, tl_97, tl_99, tl_100, tl_120, tl_122, tl_192, tl_193, tl_194, tl_195, tl_196, tl_255, tl_256, tl_299, tl_400, tl_401, tl_492, tl_493, tl_541, tl_849, tl_999, tl_1000, tl_1341, tl_1342, tl_1390, tl_2190, tl_5412, tl_5904, tl_9999, tl_12345, tl_32767, tl_65536, tl_1000000, tl_252645135, tl_858993459, tl_1103515245, tl_1431655765, nz_31, nz_c31, eq_self, or_true, true_or, or_false, false_or, Nat.add_zero, nz_lt, nz_le, nz_eq, nz_cl, nz_sub, nI_add, pk_mul, nt_lt, nf_lt, nf_eq, nz_mI, mI_eq, mI_eq', mI_lt, mI_gt, mI_add, ↓j_max, ↓j_min, Nat.sub_sub, Nat.reduceAdd, Nat.reduceSub, Nat.reduceLT, Nat.reduceEqDiff, Bool.false_eq_true]
      · intro rec2
        simp (disch := omega) only [↓m_people hM, hP, ↓MoV0 hM, ↓MoI0_70 hM, ↓MoP0_70 hM, ↓MoZ0_70 hM, ↓MoG0_71 hM, ↓MoG0_72 hM, ↓MoG0_73 hM, ↓MoG0_74 hM, ↓MoG0_75 hM, ↓MoI0_76 hM, ↓MoP0_76 hM, ↓MoZ0_76 hM, ↓MoI0_77 hM, ↓MoP0_77 hM, ↓MoZ0_77 hM, ↓MoG0_78 hM, ↓MoI0_79 hM, ↓MoP0_79 hM, ↓MoZ0_79 hM, ↓MoI0_80 hM, ↓MoP0_80 hM, ↓MoZ0_80 hM, ↓MoI0_81 hM, ↓MoP0_81 hM, ↓MoZ0_81 hM, ↓MoI0_82 hM, ↓MoP0_82 hM, ↓MoZ0_82 hM, ↓MoI0_83 hM, ↓MoP0_83 hM, ↓MoZ0_83 hM, ↓MoI0_84 hM, ↓MoP0_84 hM, ↓MoZ0_84 hM, ↓MoG0_85 hM, ↓MoI0_86 hM, ↓MoP0_86 hM, ↓MoZ0_86 hM, ↓MoG0_87 hM, ↓MoI0_88 hM, ↓MoP0_88 hM, ↓MoZ0_88 hM, ↓MoG0_89 hM, ↓MoG0_90 hM, ↓MoG0_91 hM, ↓MoG0_92 hM, ↓MoL0 hM, ↓MoS0 hM, ↓MoL1 hM, ↓MoS1 hM, ↓MoL2 hM, ↓MoS2 hM, ↓MoL3 hM, ↓MoS3 hM, ↓MoL4 hM, ↓MoS4 hM, ↓MoL5 hM, ↓MoS5 hM, ↓MoL6 hM, ↓MoS6 hM, ↓MoL7 hM, ↓MoS7 hM, ↓MoL8 hM, ↓MoS8 hM, ↓MoL9 hM, ↓MoS9 hM, ↓MoL10 hM, ↓MoS10 hM, ↓MoL11 hM, ↓MoS11 hM, ↓A_if, ↓A_jn, ↓A_lt, ↓A_rz, ↓A_rn, ↓A_nzi, ↓A_nzl, ↓A_nn1, ↓A_nn0, ↓reduceIte, true_and, and_true, if_true, if_false, ite_true, ite_false, reduceIte, tl_0, tl_1, tl_2, tl_3, tl_4, tl_5, tl_6, tl_7, tl_8, tl_9, tl_10, tl_11, tl_12, tl_13, tl_14, tl_15, tl_16, tl_17, tl_18, tl_19, tl_20, tl_21, tl_22, tl_23, tl_24, tl_25, tl_26, tl_27, tl_28, tl_29, tl_30, tl_31, tl_32, tl_33, tl_34, tl_35, tl_36, tl_37, tl_38, tl_39, tl_40, tl_41, tl_42, tl_43, tl_44, tl_45, tl_46, tl_47, tl_48, tl_49, tl_50, tl_51, tl_52, tl_53, tl_54, tl_57, tl_59, tl_60, tl_62, tl_63, tl_64, tl_97, tl_99, tl_100, tl_120, tl_122, tl_192, tl_193, tl_194, tl_195, tl_196, tl_255, tl_256, tl_299, tl_400, tl_401, tl_492, tl_493, tl_541, tl_849, tl_999, tl_1000, tl_1341, tl_1342, tl_1390, tl_2190, tl_5412, tl_5904, tl_9999, tl_12345, tl_32767, tl_65536, tl_1000000, tl_252645135, tl_858993459, tl_1103515245, tl_1431655765, nz_31, nz_c31, eq_self, or_true, true_or, or_false, false_or, Nat.add_zero, nz_lt, nz_le, nz_eq, nz_cl, nz_sub, nI_add, pk_mul, nt_lt, nf_lt, nf_eq, nz_mI, mI_eq, mI_eq', mI_lt, mI_gt, mI_add, ↓j_max, ↓j_min, Nat.sub_sub, Nat.reduceAdd, Nat.reduceSub, Nat.reduceLT, Nat.reduceEqDiff, Bool.false_eq_true]
    · rw [if_neg q]
      refine tw_lp_for P (fun d => (y, nI d)) (fun _ => (sh, μ, la, n)) rfl rfl ?_ ?_
      · intro d hd rec2
        simp (disch := omega) only [↓m_people hM, hP, q, ↓m_has, nz_add0, ↓MoV0 hM, ↓MoI0_70 hM, ↓MoP0_70 hM, ↓MoZ0_70 hM, ↓MoG0_71 hM, ↓MoG0_72 hM, ↓MoG0_73 hM, ↓MoG0_74 hM, ↓MoG0_75 hM, ↓MoI0_76 hM, ↓MoP0_76 hM, ↓MoZ0_76 hM, ↓MoI0_77 hM, ↓MoP0_77 hM, ↓MoZ0_77 hM, ↓MoG0_78 hM, ↓MoI0_79 hM, ↓MoP0_79 hM, ↓MoZ0_79 hM, ↓MoI0_80 hM, ↓MoP0_80 hM, ↓MoZ0_80 hM, ↓MoI0_81 hM, ↓MoP0_81 hM, ↓MoZ0_81 hM, ↓MoI0_82 hM, ↓MoP0_82 hM, ↓MoZ0_82 hM, ↓MoI0_83 hM, ↓MoP0_83 hM, ↓MoZ0_83 hM, ↓MoI0_84 hM, ↓MoP0_84 hM, ↓MoZ0_84 hM, ↓MoG0_85 hM, ↓MoI0_86 hM, ↓MoP0_86 hM, ↓MoZ0_86 hM, ↓MoG0_87 hM, ↓MoI0_88 hM, ↓MoP0_88 hM, ↓MoZ0_88 hM, ↓MoG0_89 hM, ↓MoG0_90 hM, ↓MoG0_91 hM, ↓MoG0_92 hM, ↓MoL0 hM, ↓MoS0 hM, ↓MoL1 hM, ↓MoS1 hM, ↓MoL2 hM, ↓MoS2 hM, ↓MoL3 hM, ↓MoS3 hM, ↓MoL4 hM, ↓MoS4 hM, ↓MoL5 hM, ↓MoS5 hM, ↓MoL6 hM, ↓MoS6 hM, ↓MoL7 hM, ↓MoS7 hM, ↓MoL8 hM, ↓MoS8 hM, ↓MoL9 hM, ↓MoS9 hM, ↓MoL10 hM, ↓MoS10 hM, ↓MoL11 hM, ↓MoS11 hM, ↓A_if, ↓A_jn, ↓A_lt, ↓A_rz, ↓A_rn, ↓A_nzi, ↓A_nzl, ↓A_nn1, ↓A_nn0, ↓reduceIte, true_and, and_true, if_true, if_false, ite_true, ite_false, reduceIte, tl_0, tl_1, tl_2, tl_3, tl_4, tl_5, tl_6, tl_7, tl_8, tl_9, tl_10, tl_11, tl_12, tl_13, tl_14, tl_15, tl_16, tl_17, tl_18, tl_19, tl_20, tl_21, tl_22, tl_23, tl_24, tl_25, tl_26, tl_27, tl_28, tl_29, tl_30, tl_31, tl_32, tl_33, tl_34, tl_35, tl_36, tl_37, tl_38, tl_39, tl_40, tl_41, tl_42, tl_43, tl_44, tl_45, tl_46, tl_47, tl_48, tl_49, tl_50, tl_51, tl_52, tl_53, tl_54, tl_57, tl_59, tl_60, tl_62, tl_63, tl_64, tl_97, tl_99, tl_100, tl_120, tl_122, tl_192, tl_193, tl_194, tl_195, tl_196, tl_255, tl_256, tl_299, tl_400, tl_401, tl_492, tl_493, tl_541, tl_849, tl_999, tl_1000, tl_1341, tl_1342, tl_1390, tl_2190, tl_5412, tl_5904, tl_9999, tl_12345, tl_32767, tl_65536, tl_1000000, tl_252645135, tl_858993459, tl_1103515245, tl_1431655765, nz_31, nz_c31, eq_self, or_true, true_or, or_false, false_or, Nat.add_zero, nz_lt, nz_le, nz_eq, nz_cl, nz_sub, nI_add, pk_mul, nt_lt, nf_lt, nf_eq, nz_mI, mI_eq, mI_eq', mI_lt, mI_gt, mI_add, ↓j_max, ↓j_min, Nat.sub_sub, Nat.reduceAdd, Nat.reduceSub, Nat.reduceLT, Nat.reduceEqDiff, Bool.false_eq_true]
      · intro rec2
        simp (disch := omega) only [↓m_people hM, hP, ↓MoV0 hM, ↓MoI0_70 hM, ↓MoP0_70 hM, ↓MoZ0_70 hM, ↓MoG0_71 hM, ↓MoG0_72 hM, ↓MoG0_73 hM, ↓MoG0_74 hM, ↓MoG0_75 hM, ↓MoI0_76 hM, ↓MoP0_76 hM, ↓MoZ0_76 hM, ↓MoI0_77 hM, ↓MoP0_77 hM, ↓MoZ0_77 hM, ↓MoG0_78 hM, ↓MoI0_79 hM, ↓MoP0_79 hM, ↓MoZ0_79 hM, ↓MoI0_80 hM, ↓MoP0_80 hM, ↓MoZ0_80 hM, ↓MoI0_81 hM, ↓MoP0_81 hM, ↓MoZ0_81 hM, ↓MoI0_82 hM, ↓MoP0_82 hM, ↓MoZ0_82 hM, ↓MoI0_83 hM, ↓MoP0_83 hM, ↓MoZ0_83 hM, ↓MoI0_84 hM, ↓MoP0_84 hM, ↓MoZ0_84 hM, ↓MoG0_85 hM, ↓MoI0_86 hM, ↓MoP0_86 hM, ↓MoZ0_86 hM, ↓MoG0_87 hM, ↓MoI0_88 hM, ↓MoP0_88 hM, ↓MoZ0_88 hM, ↓MoG0_89 hM, ↓MoG0_90 hM, ↓MoG0_91 hM, ↓MoG0_92 hM, ↓MoL0 hM, ↓MoS0 hM, ↓MoL1 hM, ↓MoS1 hM, ↓MoL2 hM, ↓MoS2 hM, ↓MoL3 hM, ↓MoS3 hM, ↓MoL4 hM, ↓MoS4 hM, ↓MoL5 hM, ↓MoS5 hM, ↓MoL6 hM, ↓MoS6 hM, ↓MoL7 hM, ↓MoS7 hM, ↓MoL8 hM, ↓MoS8 hM, ↓MoL9 hM, ↓MoS9 hM, ↓MoL10 hM, ↓MoS10 hM, ↓MoL11 hM, ↓MoS11 hM, ↓A_if, ↓A_jn, ↓A_lt, ↓A_rz, ↓A_rn, ↓A_nzi, ↓A_nzl, ↓A_nn1, ↓A_nn0, ↓reduceIte, true_and, and_true, if_true, if_false, ite_true, ite_false, reduceIte, tl_0, tl_1, tl_2, tl_3, tl_4, tl_5, tl_6, tl_7, tl_8, tl_9, tl_10, tl_11, tl_12, tl_13, tl_14, tl_15, tl_16, tl_17, tl_18, tl_19, tl_20, tl_21, tl_22, tl_23, tl_24, tl_25, tl_26, tl_27, tl_28, tl_29, tl_30, tl_31, tl_32, tl_33, tl_34, tl_35, tl_36, tl_37, tl_38, tl_39, tl_40, tl_41, tl_42, tl_43, tl_44, tl_45, tl_46, tl_47, tl_48, tl_49, tl_50, tl_51, tl_52, tl_53, tl_54, tl_57, tl_59, tl_60, tl_62, tl_63, tl_64, tl_97, tl_99, tl_100, tl_120, tl_122, tl_192, tl_193, tl_194, tl_195, tl_196, tl_255, tl_256, tl_299, tl_400, tl_401, tl_492, tl_493, tl_541, tl_849, tl_999, tl_1000, tl_1341, tl_1342, tl_1390, tl_2190, tl_5412, tl_5904, tl_9999, tl_12345, tl_32767, tl_65536, tl_1000000, tl_252645135, tl_858993459, tl_1103515245, tl_1431655765, nz_31, nz_c31, eq_self, or_true, true_or, or_false, false_or, Nat.add_zero, nz_lt, nz_le, nz_eq, nz_cl, nz_sub, nI_add, pk_mul, nt_lt, nf_lt, nf_eq, nz_mI, mI_eq, mI_eq', mI_lt, mI_gt, mI_add, ↓j_max, ↓j_min, Nat.sub_sub, Nat.reduceAdd, Nat.reduceSub, Nat.reduceLT, Nat.reduceEqDiff, Bool.false_eq_true]
  · intro rec
    simp (disch := omega) only [↓m_people hM, hP, ↓MoV0 hM, ↓MoI0_70 hM, ↓MoP0_70 hM, ↓MoZ0_70 hM, ↓MoG0_71 hM, ↓MoG0_72 hM, ↓MoG0_73 hM, ↓MoG0_74 hM, ↓MoG0_75 hM, ↓MoI0_76 hM, ↓MoP0_76 hM, ↓MoZ0_76 hM, ↓MoI0_77 hM, ↓MoP0_77 hM, ↓MoZ0_77 hM, ↓MoG0_78 hM, ↓MoI0_79 hM, ↓MoP0_79 hM, ↓MoZ0_79 hM, ↓MoI0_80 hM, ↓MoP0_80 hM, ↓MoZ0_80 hM, ↓MoI0_81 hM, ↓MoP0_81 hM, ↓MoZ0_81 hM, ↓MoI0_82 hM, ↓MoP0_82 hM, ↓MoZ0_82 hM, ↓MoI0_83 hM, ↓MoP0_83 hM, ↓MoZ0_83 hM, ↓MoI0_84 hM, ↓MoP0_84 hM, ↓MoZ0_84 hM, ↓MoG0_85 hM, ↓MoI0_86 hM, ↓MoP0_86 hM, ↓MoZ0_86 hM, ↓MoG0_87 hM, ↓MoI0_88 hM, ↓MoP0_88 hM, ↓MoZ0_88 hM, ↓MoG0_89 hM, ↓MoG0_90 hM, ↓MoG0_91 hM, ↓MoG0_92 hM, ↓MoL0 hM, ↓MoS0 hM, ↓MoL1 hM, ↓MoS1 hM, ↓MoL2 hM, ↓MoS2 hM, ↓MoL3 hM, ↓MoS3 hM, ↓MoL4 hM, ↓MoS4 hM, ↓MoL5 hM, ↓MoS5 hM, ↓MoL6 hM, ↓MoS6 hM, ↓MoL7 hM, ↓MoS7 hM, ↓MoL8 hM, ↓MoS8 hM, ↓MoL9 hM, ↓MoS9 hM, ↓MoL10 hM, ↓MoS10 hM, ↓MoL11 hM, ↓MoS11 hM, ↓A_if, ↓A_jn, ↓A_lt, ↓A_rz, ↓A_rn, ↓A_nzi, ↓A_nzl, ↓A_nn1, ↓A_nn0, ↓reduceIte, true_and, and_true, if_true, if_false, ite_true, ite_false, reduceIte, tl_0, tl_1, tl_2, tl_3, tl_4, tl_5, tl_6, tl_7, tl_8, tl_9, tl_10, tl_11, tl_12, tl_13, tl_14, tl_15, tl_16, tl_17, tl_18, tl_19, tl_20, tl_21, tl_22, tl_23, tl_24, tl_25, tl_26, tl_27, tl_28, tl_29, tl_30, tl_31, tl_32, tl_33, tl_34, tl_35, tl_36, tl_37, tl_38, tl_39, tl_40, tl_41, tl_42, tl_43, tl_44, tl_45, tl_46, tl_47, tl_48, tl_49, tl_50, tl_51, tl_52, tl_53, tl_54, tl_57, tl_59, tl_60, tl_62, tl_63, tl_64, tl_97, tl_99, tl_100, tl_120, tl_122, tl_192, tl_193, tl_194, tl_195, tl_196, tl_255, tl_256, tl_299, tl_400, tl_401, tl_492, tl_493, tl_541, tl_849, tl_999, tl_1000, tl_1341, tl_1342, tl_1390, tl_2190, tl_5412, tl_5904, tl_9999, tl_12345, tl_32767, tl_65536, tl_1000000, tl_252645135, tl_858993459, tl_1103515245, tl_1431655765, nz_31, nz_c31, eq_self, or_true, true_or, or_false, false_or, Nat.add_zero, nz_lt, nz_le, nz_eq, nz_cl, nz_sub, nI_add, pk_mul, nt_lt, nf_lt, nf_eq, nz_mI, mI_eq, mI_eq', mI_lt, mI_gt, mI_add, ↓j_max, ↓j_min, Nat.sub_sub, Nat.reduceAdd, Nat.reduceSub, Nat.reduceLT, Nat.reduceEqDiff, Bool.false_eq_true]
theorem tw_sCu_n (R : Nat → Int32) (P : Nat) : ∀ i, ∃ z, z ≤ i ∧ tw_sCu R P i = nI z
  | 0 => ⟨0, Nat.le_refl 0, rfl⟩
  | i + 1 => by
    obtain ⟨z, hz, e⟩ := tw_sCu_n R P i
    have es : tw_sCu R P (i + 1) = (if tw_ac R (tw_sCu R P i) P < tw_ac R (nI (i + 1)) P then nI (i + 1) else tw_sCu R P i) := rfl
    rw [es]
    split
    · exact ⟨i + 1, Nat.le_refl _, rfl⟩
    · exact ⟨z, by omega, e⟩
theorem m_cutO (hM : tw_Mo sh m) (W : tw_WF (μ (m + 1)) P) (k : Int32 → tw_Mem → Prop) : f_X12_cut m v k (sh, μ, la, n) = if v = nI 0 then k (tw_sCu (fun p => tw_rb (μ (m + 1)) p P) P (2 ^ P - 1)) (sh, tw_up μ m 70 (nI 0), la, n) else k (tw_ac (fun p => tw_rb (μ (m + 1)) p P) (tw_sCu (fun p => tw_rb (μ (m + 1)) p P) P (2 ^ P - 1)) P) (sh, tw_up μ m 70 (nI 0), la, n) := by
  have h1 : tw_up μ m 70 (nI 0) (m + 1) = μ (m + 1) := tw_up_ne (by omega)
  have h8 := W.2.1
  have h2 := tw_p256 h8
  simp (disch := omega) only [f_X12_cut, ↓MoV0 hM, ↓MoI0_70 hM, ↓MoP0_70 hM, ↓MoZ0_70 hM, ↓MoG0_71 hM, ↓MoG0_72 hM, ↓MoG0_73 hM, ↓MoG0_74 hM, ↓MoG0_75 hM, ↓MoI0_76 hM, ↓MoP0_76 hM, ↓MoZ0_76 hM, ↓MoI0_77 hM, ↓MoP0_77 hM, ↓MoZ0_77 hM, ↓MoG0_78 hM, ↓MoI0_79 hM, ↓MoP0_79 hM, ↓MoZ0_79 hM, ↓MoI0_80 hM, ↓MoP0_80 hM, ↓MoZ0_80 hM, ↓MoI0_81 hM, ↓MoP0_81 hM, ↓MoZ0_81 hM, ↓MoI0_82 hM, ↓MoP0_82 hM, ↓MoZ0_82 hM, ↓MoI0_83 hM, ↓MoP0_83 hM, ↓MoZ0_83 hM, ↓MoI0_84 hM, ↓MoP0_84 hM, ↓MoZ0_84 hM, ↓MoG0_85 hM, ↓MoI0_86 hM, ↓MoP0_86 hM, ↓MoZ0_86 hM, ↓MoG0_87 hM, ↓MoI0_88 hM, ↓MoP0_88 hM, ↓MoZ0_88 hM, ↓MoG0_89 hM, ↓MoG0_90 hM, ↓MoG0_91 hM, ↓MoG0_92 hM, ↓MoL0 hM, ↓MoS0 hM, ↓MoL1 hM, ↓MoS1 hM, ↓MoL2 hM, ↓MoS2 hM, ↓MoL3 hM, ↓MoS3 hM, ↓MoL4 hM, ↓MoS4 hM, ↓MoL5 hM, ↓MoS5 hM, ↓MoL6 hM, ↓MoS6 hM, ↓MoL7 hM, ↓MoS7 hM, ↓MoL8 hM, ↓MoS8 hM, ↓MoL9 hM, ↓MoS9 hM, ↓MoL10 hM, ↓MoS10 hM, ↓MoL11 hM, ↓MoS11 hM, ↓A_if, ↓A_jn, ↓A_lt, ↓A_rz, ↓A_rn, ↓A_nzi, ↓A_nzl, ↓A_nn1, ↓A_nn0, ↓reduceIte, true_and, and_true, if_true, if_false, ite_true, ite_false, reduceIte, tl_0, tl_1, tl_2, tl_3, tl_4, tl_5, tl_6, tl_7, tl_8, tl_9, tl_10, tl_11, tl_12, tl_13, tl_14, tl_15, tl_16, tl_17, tl_18, tl_19, tl_20, tl_21, tl_22, tl_23, tl_24, tl_25, tl_26, tl_27, tl_28, tl_29, tl_30, tl_31, tl_32, tl_33, tl_34, tl_35, tl_36, tl_37, tl_38, tl_39, tl_40, tl_41, tl_42, tl_43, tl_44, tl_45, tl_46, tl_47, tl_48, tl_49, tl_50, tl_51, tl_52, tl_53, tl_54, tl_57, tl_59, tl_60, tl_62, tl_63, tl_64, tl_97, tl_99, tl_100, tl_120, tl_122, tl_192, tl_193, tl_194, tl_195, tl_196, tl_255, tl_256, tl_299, tl_400, tl_401, tl_492, tl_493, tl_541, tl_849, tl_999, tl_1000, tl_1341, tl_1342, tl_1390, tl_2190, tl_5412, tl_5904, tl_9999, tl_12345, tl_32767, tl_65536, tl_1000000, tl_252645135, tl_858993459, tl_1103515245, tl_1431655765, nz_31, nz_c31, eq_self, or_true, true_or, or_false, false_or, Nat.add_zero, nz_lt, nz_le, nz_eq, nz_cl, nz_sub, nI_add, pk_mul, nt_lt, nf_lt, nf_eq, nz_mI, mI_eq, mI_eq', mI_lt, mI_gt, mI_add, ↓j_max, ↓j_min, Nat.sub_sub, Nat.reduceAdd, Nat.reduceSub, Nat.reduceLT, Nat.reduceEqDiff, Bool.false_eq_true]
  rw [← h1]
  rw [← h1] at W
  have hP := W.1
  generalize tw_up μ m 70 (nI 0) = μ1 at *
  refine tw_lp_for (2 ^ P - 1) (fun i => (tw_sCu (fun p => tw_rb (μ1 (m + 1)) p P) P i, nI (i + 1))) (fun _ => (sh, μ1, la, n)) rfl rfl ?_ ?_
  · intro i hi rec
    have e : tw_sCu (fun p => tw_rb (μ1 (m + 1)) p P) P (i + 1) = (if tw_ac (fun p => tw_rb (μ1 (m + 1)) p P) (tw_sCu (fun p => tw_rb (μ1 (m + 1)) p P) P i) P < tw_ac (fun p => tw_rb (μ1 (m + 1)) p P) (nI (i + 1)) P then nI (i + 1) else tw_sCu (fun p => tw_rb (μ1 (m + 1)) p P) P i) := rfl
    obtain ⟨z, hz, ez⟩ := tw_sCu_n (fun p => tw_rb (μ1 (m + 1)) p P) P i
    rw [e, ez]
    have A1 := fun k => m_across (la := la) (n := n) (x := z) hM W (by omega) k
    have A2 := fun k => m_across (la := la) (n := n) (x := i + 1) hM W (by omega) k
    by_cases q1 : tw_ac (fun p => tw_rb (μ1 (m + 1)) p P) (nI z) P < tw_ac (fun p => tw_rb (μ1 (m + 1)) p P) (nI (i + 1)) P <;> simp (disch := omega) only [q1, ↓A1, ↓A2, ↓m_all hM hP h8, ↓MoV0 hM, ↓MoI0_70 hM, ↓MoP0_70 hM, ↓MoZ0_70 hM, ↓MoG0_71 hM, ↓MoG0_72 hM, ↓MoG0_73 hM, ↓MoG0_74 hM, ↓MoG0_75 hM, ↓MoI0_76 hM, ↓MoP0_76 hM, ↓MoZ0_76 hM, ↓MoI0_77 hM, ↓MoP0_77 hM, ↓MoZ0_77 hM, ↓MoG0_78 hM, ↓MoI0_79 hM, ↓MoP0_79 hM, ↓MoZ0_79 hM, ↓MoI0_80 hM, ↓MoP0_80 hM, ↓MoZ0_80 hM, ↓MoI0_81 hM, ↓MoP0_81 hM, ↓MoZ0_81 hM, ↓MoI0_82 hM, ↓MoP0_82 hM, ↓MoZ0_82 hM, ↓MoI0_83 hM, ↓MoP0_83 hM, ↓MoZ0_83 hM, ↓MoI0_84 hM, ↓MoP0_84 hM, ↓MoZ0_84 hM, ↓MoG0_85 hM, ↓MoI0_86 hM, ↓MoP0_86 hM, ↓MoZ0_86 hM, ↓MoG0_87 hM, ↓MoI0_88 hM, ↓MoP0_88 hM, ↓MoZ0_88 hM, ↓MoG0_89 hM, ↓MoG0_90 hM, ↓MoG0_91 hM, ↓MoG0_92 hM, ↓MoL0 hM, ↓MoS0 hM, ↓MoL1 hM, ↓MoS1 hM, ↓MoL2 hM, ↓MoS2 hM, ↓MoL3 hM, ↓MoS3 hM, ↓MoL4 hM, ↓MoS4 hM, ↓MoL5 hM, ↓MoS5 hM, ↓MoL6 hM, ↓MoS6 hM, ↓MoL7 hM, ↓MoS7 hM, ↓MoL8 hM, ↓MoS8 hM, ↓MoL9 hM, ↓MoS9 hM, ↓MoL10 hM, ↓MoS10 hM, ↓MoL11 hM, ↓MoS11 hM, ↓A_if, ↓A_jn, ↓A_lt, ↓A_rz, ↓A_rn, ↓A_nzi, ↓A_nzl, ↓A_nn1, ↓A_nn0, ↓reduceIte, true_and, and_true, if_true, if_false, ite_true, ite_false, reduceIte, tl_0, tl_1, tl_2, tl_3, tl_4, tl_5, tl_6, tl_7, tl_8, tl_9, tl_10, tl_11, tl_12, tl_13, tl_14, tl_15, tl_16, tl_17, tl_18, tl_19, tl_20, tl_21, tl_22, tl_23, tl_24, tl_25, tl_26, tl_27, tl_28, tl_29, tl_30, tl_31, tl_32, tl_33, tl_34, tl_35, tl_36, tl_37, tl_38, tl_39, tl_40, tl_41, tl_42, tl_43, tl_44, tl_45, tl_46, tl_47, tl_48, tl_49, tl_50, tl_51, tl_52, tl_53, tl_54, tl_57, tl_59, tl_60, tl_62, tl_63, tl_64, tl_97, tl_99, tl_100, tl_120, tl_122, tl_192, tl_193, tl_194, tl_195, tl_196, tl_255, tl_256, tl_299, tl_400, tl_401, tl_492, tl_493, tl_541, tl_849, tl_999, tl_1000, tl_1341, tl_1342, tl_1390, tl_2190, tl_5412, tl_5904, tl_9999, tl_12345, tl_32767, tl_65536, tl_1000000, tl_252645135, tl_858993459, tl_1103515245, tl_1431655765, nz_31, nz_c31, eq_self, or_true, true_or, or_false, false_or, Nat.add_zero, nz_lt, nz_le, nz_eq, nz_cl, nz_sub, nI_add, pk_mul, nt_lt, nf_lt, nf_eq, nz_mI, mI_eq, mI_eq', mI_lt, mI_gt, mI_add, ↓j_max, ↓j_min, Nat.sub_sub, Nat.reduceAdd, Nat.reduceSub, Nat.reduceLT, Nat.reduceEqDiff, Bool.false_eq_true]
  · intro rec
    obtain ⟨z, hz, ez⟩ := tw_sCu_n (fun p => tw_rb (μ1 (m + 1)) p P) P (2 ^ P - 1)
    have hpp := Nat.two_pow_pos P
    rw [ez]
    have A1 := fun k => m_across (la := la) (n := n) (x := z) hM W (by omega) k
    by_cases q1 : v = nI 0 <;> simp (disch := omega) only [q1, ↓A1, ↓m_all hM hP h8, ↓MoV0 hM, ↓MoI0_70 hM, ↓MoP0_70 hM, ↓MoZ0_70 hM, ↓MoG0_71 hM, ↓MoG0_72 hM, ↓MoG0_73 hM, ↓MoG0_74 hM, ↓MoG0_75 hM, ↓MoI0_76 hM, ↓MoP0_76 hM, ↓MoZ0_76 hM, ↓MoI0_77 hM, ↓MoP0_77 hM, ↓MoZ0_77 hM, ↓MoG0_78 hM, ↓MoI0_79 hM, ↓MoP0_79 hM, ↓MoZ0_79 hM, ↓MoI0_80 hM, ↓MoP0_80 hM, ↓MoZ0_80 hM, ↓MoI0_81 hM, ↓MoP0_81 hM, ↓MoZ0_81 hM, ↓MoI0_82 hM, ↓MoP0_82 hM, ↓MoZ0_82 hM, ↓MoI0_83 hM, ↓MoP0_83 hM, ↓MoZ0_83 hM, ↓MoI0_84 hM, ↓MoP0_84 hM, ↓MoZ0_84 hM, ↓MoG0_85 hM, ↓MoI0_86 hM, ↓MoP0_86 hM, ↓MoZ0_86 hM, ↓MoG0_87 hM, ↓MoI0_88 hM, ↓MoP0_88 hM, ↓MoZ0_88 hM, ↓MoG0_89 hM, ↓MoG0_90 hM, ↓MoG0_91 hM, ↓MoG0_92 hM, ↓MoL0 hM, ↓MoS0 hM, ↓MoL1 hM, ↓MoS1 hM, ↓MoL2 hM, ↓MoS2 hM, ↓MoL3 hM, ↓MoS3 hM, ↓MoL4 hM, ↓MoS4 hM, ↓MoL5 hM, ↓MoS5 hM, ↓MoL6 hM, ↓MoS6 hM, ↓MoL7 hM, ↓MoS7 hM, ↓MoL8 hM, ↓MoS8 hM, ↓MoL9 hM, ↓MoS9 hM, ↓MoL10 hM, ↓MoS10 hM, ↓MoL11 hM, ↓MoS11 hM, ↓A_if, ↓A_jn, ↓A_lt, ↓A_rz, ↓A_rn, ↓A_nzi, ↓A_nzl, ↓A_nn1, ↓A_nn0, ↓reduceIte, true_and, and_true, if_true, if_false, ite_true, ite_false, reduceIte, tl_0, tl_1, tl_2, tl_3, tl_4, tl_5, tl_6, tl_7, tl_8, tl_9, tl_10, tl_11, tl_12, tl_13, tl_14, tl_15, tl_16, tl_17, tl_18, tl_19, tl_20, tl_21, tl_22, tl_23, tl_24, tl_25, tl_26, tl_27, tl_28, tl_29, tl_30, tl_31, tl_32, tl_33, tl_34, tl_35, tl_36, tl_37, tl_38, tl_39, tl_40, tl_41, tl_42, tl_43, tl_44, tl_45, tl_46, tl_47, tl_48, tl_49, tl_50, tl_51, tl_52, tl_53, tl_54, tl_57, tl_59, tl_60, tl_62, tl_63, tl_64, tl_97, tl_99, tl_100, tl_120, tl_122, tl_192, tl_193, tl_194, tl_195, tl_196, tl_255, tl_256, tl_299, tl_400, tl_401, tl_492, tl_493, tl_541, tl_849, tl_999, tl_1000, tl_1341, tl_1342, tl_1390, tl_2190, tl_5412, tl_5904, tl_9999, tl_12345, tl_32767, tl_65536, tl_1000000, tl_252645135, tl_858993459, tl_1103515245, tl_1431655765, nz_31, nz_c31, eq_self, or_true, true_or, or_false, false_or, Nat.add_zero, nz_lt, nz_le, nz_eq, nz_cl, nz_sub, nI_add, pk_mul, nt_lt, nf_lt, nf_eq, nz_mI, mI_eq, mI_eq', mI_lt, mI_gt, mI_add, ↓j_max, ↓j_min, Nat.sub_sub, Nat.reduceAdd, Nat.reduceSub, Nat.reduceLT, Nat.reduceEqDiff, Bool.false_eq_true]
theorem L26 (hI : tw_IV G a0 b L (sh, μ, la, n)) (hi : i + 6 ≤ L) (hj : ∀ M, tw_IV G a0 b L M → j () M) (k : Int32 → tw_Mem → Prop) : f_Lc26 a0 b (b + 168) (b + 181) (nI i) j k (sh, μ, la, n) := by
  obtain ⟨lw, kl, P, hS, W, H, HL, HR, HI, HT, hf⟩ := tw_IV_e hI
  have hS2 := hS
  obtain ⟨hX, hlw, hkl, ⟨hTa, hTx⟩, hTn, hTs, hTk, hMe, hMi, hMt, hTw, hPa, hSe, hMo, hOu, hSc, hL3, hab, hlwc, hklc, hlwn, hkln, hbn, hlk⟩ := hS2
  have h8 := W.2.1
  have hsc := fun (j : Nat) (hj : j < L) (μ : Nat → Nat → Int32) (la : Nat → Nat → Int64) (n : Nat) (k : Int32 → tw_Mem → Prop) => tw_scr (μ := μ) (la := la) (n := n) hSc hL3 hj k
  have hs0 := hsc (i + 1) (by omega)
  have hs1 := hsc (i + 2) (by omega)
  have hs2 := hsc (i + 3) (by omega)
  have hs3 := hsc (i + 4) (by omega)
  have hs4 := hsc (i + 5) (by omega)
  have hlG : ∀ (μ : Nat → Nat → Int32) (la : Nat → Nat → Int64) (n : Nat) (k : Nat → tw_Mem → Prop), tw_gr 66 b k (sh, μ, la, n) = k lw (sh, μ, la, n) := fun μ la n k => tw_lawref hX hlw k
  have hlV : ∀ (μ : Nat → Nat → Int32) (la : Nat → Nat → Int64) (n : Nat) (F : tw_Mem → Prop), tw_iv 0 lw F (sh, μ, la, n) = F (sh, μ, la, n) := fun μ la n F => by rw [A_iv, tw_is_T HL.1, true_and]
  obtain ⟨μ1, hpi, hpt, qm, hT1, h70, ha1, hj1⟩ := tw_thr0 (a0 := a0) (μ := μ) hMo hab
  have fin : ∀ {μ2 : Nat → Nat → Int32} {la2 : Nat → Nat → Int64} {n2 : Nat}, tw_qm b μ μ2 → n ≤ n2 → j () (sh, μ2, la2, n2) := fun q hn => hj _ (tw_IV_q hS W H HL HR HI HT hf tw_qc_r q hn)
  have finq : ∀ {μc μ2 : Nat → Nat → Int32} {la2 : Nat → Nat → Int64} {n2 : Nat}, tw_qc b lw μ μc → tw_qm b μc μ2 → n ≤ n2 → j () (sh, μ2, la2, n2) := fun qc q hn => hj _ (tw_IV_q hS W H HL HR HI HT hf qc q hn)
  generalize hT : μ (b + 169) = T at *
  obtain ⟨μc, ⟨F1, g36, gR⟩, E1⟩ := c_guessRows (la := la) (n := n) (v := nI 9) hSe H W.1 h8 (by omega)
  have qc : tw_qc b lw μ μc := fun y h1 h2 h3 => F1 y (by omega)
  have eTc : μc (b + 168 + 1) = T := (qc (b + 169) (by omega) (by omega) (by omega)).trans hT
  have E2 := fun k => c_greatest (la := la) (n := n) (R := fun p => tw_sGB T p (nI 9) P) hSe g36 h8 gR k
  have E3 := fun k => m_crowdO (la := la) (n := n) (μ := μc) (P := P) hMo (by rw [eTc]; exact W) k
  rw [eTc] at E3
  simp (disch := omega) only [f_Lc26, f_X11_crowd, ↓CxV0 hX, ↓CxG0_56 hX, ↓CxG0_57 hX, ↓CxG0_58 hX, ↓CxG0_59 hX, ↓CxG0_60 hX, ↓CxG0_61 hX, ↓CxG0_62 hX, ↓CxG0_63 hX, ↓CxG0_64 hX, ↓CxG0_65 hX, ↓CxI0_68 hX, ↓CxP0_68 hX, ↓CxZ0_68 hX, ↓CxI0_69 hX, ↓CxP0_69 hX, ↓CxZ0_69 hX, ↓TnV0 hTn, ↓TnG0_39 hTn, ↓TnG0_40 hTn, ↓TnG0_41 hTn, ↓TnG0_42 hTn, ↓TnG0_43 hTn, ↓TnG0_44 hTn, ↓TnG0_45 hTn, ↓TnI0_46 hTn, ↓TnP0_46 hTn, ↓TnZ0_46 hTn, ↓TnI0_47 hTn, ↓TnP0_47 hTn, ↓TnZ0_47 hTn, ↓TnI0_48 hTn, ↓TnP0_48 hTn, ↓TnZ0_48 hTn, ↓TnI0_49 hTn, ↓TnP0_49 hTn, ↓TnZ0_49 hTn, ↓TnI0_50 hTn, ↓TnP0_50 hTn, ↓TnZ0_50 hTn, ↓TnI0_51 hTn, ↓TnP0_51 hTn, ↓TnZ0_51 hTn, ↓TnI0_52 hTn, ↓TnP0_52 hTn, ↓TnZ0_52 hTn, ↓TnV1 hTn, ↓TnG1_19 hTn, ↓TnI1_20 hTn, ↓TnP1_20 hTn, ↓TnZ1_20 hTn, ↓TnI1_21 hTn, ↓TnP1_21 hTn, ↓TnZ1_21 hTn, ↓TnL0 hTn, ↓TnS0 hTn, ↓TnL1 hTn, ↓TnS1 hTn, ↓TnL2 hTn, ↓TnS2 hTn, ↓TnL3 hTn, ↓TnS3 hTn, ↓TnL4 hTn, ↓TnS4 hTn, ↓TnL5 hTn, ↓TnS5 hTn, ↓TnL6 hTn, ↓TnS6 hTn, ↓hs0, ↓hs1, ↓hs2, ↓hs3, ↓hs4, ↓hpi.1, ↓hpi.2, ↓hlG, ↓hlV, ha1, ↓X_sl hOu, ↓X_ll hOu, tw_upLa, tw_cmp0, f_X12_thrown, f_X12_throwsIf, ↓A_th, ↓A_xc, tw_xE1, tw_xE2, tw_xE3, tw_xE4, tw_xE5, tw_xE6, ↓MoV0 hMo, ↓MoI0_70 hMo, ↓MoZ0_70 hMo, ↓MoG0_71 hMo, ↓MoG0_72 hMo, ↓MoG0_73 hMo, ↓MoG0_74 hMo, ↓MoG0_75 hMo, ↓MoI0_76 hMo, ↓MoP0_76 hMo, ↓MoZ0_76 hMo, ↓MoI0_77 hMo, ↓MoP0_77 hMo, ↓MoZ0_77 hMo, ↓MoG0_78 hMo, ↓MoI0_79 hMo, ↓MoP0_79 hMo, ↓MoZ0_79 hMo, ↓MoI0_80 hMo, ↓MoP0_80 hMo, ↓MoZ0_80 hMo, ↓MoI0_81 hMo, ↓MoP0_81 hMo, ↓MoZ0_81 hMo, ↓MoI0_82 hMo, ↓MoP0_82 hMo, ↓MoZ0_82 hMo, ↓MoI0_83 hMo, ↓MoP0_83 hMo, ↓MoZ0_83 hMo, ↓MoI0_84 hMo, ↓MoP0_84 hMo, ↓MoZ0_84 hMo, ↓MoG0_85 hMo, ↓MoI0_86 hMo, ↓MoP0_86 hMo, ↓MoZ0_86 hMo, ↓MoG0_87 hMo, ↓MoI0_88 hMo, ↓MoP0_88 hMo, ↓MoZ0_88 hMo, ↓MoG0_89 hMo, ↓MoG0_90 hMo, ↓MoG0_91 hMo, ↓MoG0_92 hMo, ↓MoL0 hMo, ↓MoS0 hMo, ↓MoL1 hMo, ↓MoS1 hMo, ↓MoL2 hMo, ↓MoS2 hMo, ↓MoL3 hMo, ↓MoS3 hMo, ↓MoL4 hMo, ↓MoS4 hMo, ↓MoL5 hMo, ↓MoS5 hMo, ↓MoL6 hMo, ↓MoS6 hMo, ↓MoL7 hMo, ↓MoS7 hMo, ↓MoL8 hMo, ↓MoS8 hMo, ↓MoL9 hMo, ↓MoS9 hMo, ↓MoL10 hMo, ↓MoS10 hMo, ↓MoL11 hMo, ↓MoS11 hMo, ↓hpt, tw_ua, tw_uk, h70, tw_up_ne, ↓A_if, ↓A_jn, ↓A_lt, ↓A_rz, ↓A_rn, ↓A_nzi, ↓A_nzl, ↓A_nn1, ↓A_nn0, ↓reduceIte, true_and, and_true, if_true, if_false, ite_true, ite_false, reduceIte, tl_0, tl_1, tl_2, tl_3, tl_4, tl_5, tl_6, tl_7, tl_8, tl_9, tl_10, tl_11, tl_12, tl_13, tl_14, tl_15, tl_16, tl_17, tl_18, tl_19, tl_20, tl_21, tl_22, tl_23, tl_24, tl_25, tl_26, tl_27, tl_28, tl_29, tl_30, tl_31, tl_32, tl_33, tl_34, tl_35, tl_36, tl_37, tl_38, tl_39, tl_40, tl_41, tl_42, tl_43, tl_44, tl_45, tl_46, tl_47, tl_48, tl_49, tl_50, tl_51, tl_52, tl_53, tl_54, tl_57, tl_59, tl_60, tl_62, tl_63, tl_64, tl_97, tl_99, tl_100, tl_120, tl_122, tl_192, tl_193, tl_194, tl_195, tl_196, tl_255, tl_256, tl_299, tl_400, tl_401, tl_492, tl_493, tl_541, tl_849, tl_999, tl_1000, tl_1341, tl_1342, tl_1390, tl_2190, tl_5412, tl_5904, tl_9999, tl_12345, tl_32767, tl_65536, tl_1000000, tl_252645135, tl_858993459, tl_1103515245, tl_1431655765, nz_31, nz_c31, eq_self, or_true, true_or, or_false, false_or, Nat.add_zero, nz_lt, nz_le, nz_eq, nz_cl, nz_sub, nI_add, pk_mul, nt_lt, nf_lt, nf_eq, nz_mI, mI_eq, mI_eq', mI_lt, mI_gt, mI_add, ↓j_max, ↓j_min, Nat.sub_sub, Nat.reduceAdd, Nat.reduceSub, Nat.reduceLT, Nat.reduceEqDiff, Bool.false_eq_true, ↓E1, ↓E2, ↓E3, ↓SeV0 hSe, ↓SeG0_32 hSe, ↓SeG0_33 hSe, ↓SeG0_34 hSe, ↓SeG0_35 hSe, ↓SeI0_36 hSe, ↓SeP0_36 hSe, ↓SeZ0_36 hSe, ↓SeL0 hSe, ↓SeS0 hSe, ↓SeL1 hSe, ↓SeS1 hSe, ↓SeL2 hSe, ↓SeS2 hSe, ↓SeL3 hSe, ↓SeS3 hSe]
  exact finq qc tw_qm_70 (Nat.le_refl _)
theorem L27 (hI : tw_IV G a0 b L (sh, μ, la, n)) (hi : i + 6 ≤ L) (hj : ∀ M, tw_IV G a0 b L M → j () M) (k : Int32 → tw_Mem → Prop) : f_Lc27 a0 b (b + 168) (b + 181) (nI i) j k (sh, μ, la, n) := by
  obtain ⟨lw, kl, P, hS, W, H, HL, HR, HI, HT, hf⟩ := tw_IV_e hI
  have hS2 := hS
  obtain ⟨hX, hlw, hkl, ⟨hTa, hTx⟩, hTn, hTs, hTk, hMe, hMi, hMt, hTw, hPa, hSe, hMo, hOu, hSc, hL3, hab, hlwc, hklc, hlwn, hkln, hbn, hlk⟩ := hS2
  have h8 := W.2.1
  have hsc := fun (j : Nat) (hj : j < L) (μ : Nat → Nat → Int32) (la : Nat → Nat → Int64) (n : Nat) (k : Int32 → tw_Mem → Prop) => tw_scr (μ := μ) (la := la) (n := n) hSc hL3 hj k
  have hs0 := hsc (i + 1) (by omega)
  have hs1 := hsc (i + 2) (by omega)
  have hs2 := hsc (i + 3) (by omega)
  have hs3 := hsc (i + 4) (by omega)
  have hs4 := hsc (i + 5) (by omega)
  have hlG : ∀ (μ : Nat → Nat → Int32) (la : Nat → Nat → Int64) (n : Nat) (k : Nat → tw_Mem → Prop), tw_gr 66 b k (sh, μ, la, n) = k lw (sh, μ, la, n) := fun μ la n k => tw_lawref hX hlw k
  have hlV : ∀ (μ : Nat → Nat → Int32) (la : Nat → Nat → Int64) (n : Nat) (F : tw_Mem → Prop), tw_iv 0 lw F (sh, μ, la, n) = F (sh, μ, la, n) := fun μ la n F => by rw [A_iv, tw_is_T HL.1, true_and]
  obtain ⟨μ1, hpi, hpt, qm, hT1, h70, ha1, hj1⟩ := tw_thr0 (a0 := a0) (μ := μ) hMo hab
  have fin : ∀ {μ2 : Nat → Nat → Int32} {la2 : Nat → Nat → Int64} {n2 : Nat}, tw_qm b μ μ2 → n ≤ n2 → j () (sh, μ2, la2, n2) := fun q hn => hj _ (tw_IV_q hS W H HL HR HI HT hf tw_qc_r q hn)
  have finq : ∀ {μc μ2 : Nat → Nat → Int32} {la2 : Nat → Nat → Int64} {n2 : Nat}, tw_qc b lw μ μc → tw_qm b μc μ2 → n ≤ n2 → j () (sh, μ2, la2, n2) := fun qc q hn => hj _ (tw_IV_q hS W H HL HR HI HT hf qc q hn)
  generalize hT : μ (b + 169) = T at *
  obtain ⟨μc, ⟨F1, g36, gR⟩, E1⟩ := c_guessRows (la := la) (n := n) (v := nI 9) hSe H W.1 h8 (by omega)
  have qc : tw_qc b lw μ μc := fun y h1 h2 h3 => F1 y (by omega)
  have eTc : μc (b + 168 + 1) = T := (qc (b + 169) (by omega) (by omega) (by omega)).trans hT
  have E2 := fun k => c_gone (la := la) (n := n) (R := fun p => tw_sGB T p (nI 9) P) hSe g36 h8 gR k
  have E3 := fun k => m_goO (la := la) (n := n) (μ := μc) (P := P) hMo (by rw [eTc]; exact W) k
  rw [eTc] at E3
  simp (disch := omega) only [f_Lc27, f_X11_go, ↓CxV0 hX, ↓CxG0_56 hX, ↓CxG0_57 hX, ↓CxG0_58 hX, ↓CxG0_59 hX, ↓CxG0_60 hX, ↓CxG0_61 hX, ↓CxG0_62 hX, ↓CxG0_63 hX, ↓CxG0_64 hX, ↓CxG0_65 hX, ↓CxI0_68 hX, ↓CxP0_68 hX, ↓CxZ0_68 hX, ↓CxI0_69 hX, ↓CxP0_69 hX, ↓CxZ0_69 hX, ↓TnV0 hTn, ↓TnG0_39 hTn, ↓TnG0_40 hTn, ↓TnG0_41 hTn, ↓TnG0_42 hTn, ↓TnG0_43 hTn, ↓TnG0_44 hTn, ↓TnG0_45 hTn, ↓TnI0_46 hTn, ↓TnP0_46 hTn, ↓TnZ0_46 hTn, ↓TnI0_47 hTn, ↓TnP0_47 hTn, ↓TnZ0_47 hTn, ↓TnI0_48 hTn, ↓TnP0_48 hTn, ↓TnZ0_48 hTn, ↓TnI0_49 hTn, ↓TnP0_49 hTn, ↓TnZ0_49 hTn, ↓TnI0_50 hTn, ↓TnP0_50 hTn, ↓TnZ0_50 hTn, ↓TnI0_51 hTn, ↓TnP0_51 hTn, ↓TnZ0_51 hTn, ↓TnI0_52 hTn, ↓TnP0_52 hTn, ↓TnZ0_52 hTn, ↓TnV1 hTn, ↓TnG1_19 hTn, ↓TnI1_20 hTn, ↓TnP1_20 hTn, ↓TnZ1_20 hTn, ↓TnI1_21 hTn, ↓TnP1_21 hTn, ↓TnZ1_21 hTn, ↓TnL0 hTn, ↓TnS0 hTn, ↓TnL1 hTn, ↓TnS1 hTn, ↓TnL2 hTn, ↓TnS2 hTn, ↓TnL3 hTn, ↓TnS3 hTn, ↓TnL4 hTn, ↓TnS4 hTn, ↓TnL5 hTn, ↓TnS5 hTn, ↓TnL6 hTn, ↓TnS6 hTn, ↓hs0, ↓hs1, ↓hs2, ↓hs3, ↓hs4, ↓hpi.1, ↓hpi.2, ↓hlG, ↓hlV, ha1, ↓X_sl hOu, ↓X_ll hOu, tw_upLa, tw_cmp0, f_X12_thrown, f_X12_throwsIf, ↓A_th, ↓A_xc, tw_xE1, tw_xE2, tw_xE3, tw_xE4, tw_xE5, tw_xE6, ↓MoV0 hMo, ↓MoI0_70 hMo, ↓MoZ0_70 hMo, ↓MoG0_71 hMo, ↓MoG0_72 hMo, ↓MoG0_73 hMo, ↓MoG0_74 hMo, ↓MoG0_75 hMo, ↓MoI0_76 hMo, ↓MoP0_76 hMo, ↓MoZ0_76 hMo, ↓MoI0_77 hMo, ↓MoP0_77 hMo, ↓MoZ0_77 hMo, ↓MoG0_78 hMo, ↓MoI0_79 hMo, ↓MoP0_79 hMo, ↓MoZ0_79 hMo, ↓MoI0_80 hMo, ↓MoP0_80 hMo, ↓MoZ0_80 hMo, ↓MoI0_81 hMo, ↓MoP0_81 hMo, ↓MoZ0_81 hMo, ↓MoI0_82 hMo, ↓MoP0_82 hMo, ↓MoZ0_82 hMo, ↓MoI0_83 hMo, ↓MoP0_83 hMo, ↓MoZ0_83 hMo, ↓MoI0_84 hMo, ↓MoP0_84 hMo, ↓MoZ0_84 hMo, ↓MoG0_85 hMo, ↓MoI0_86 hMo, ↓MoP0_86 hMo, ↓MoZ0_86 hMo, ↓MoG0_87 hMo, ↓MoI0_88 hMo, ↓MoP0_88 hMo, ↓MoZ0_88 hMo, ↓MoG0_89 hMo, ↓MoG0_90 hMo, ↓MoG0_91 hMo, ↓MoG0_92 hMo, ↓MoL0 hMo, ↓MoS0 hMo, ↓MoL1 hMo, ↓MoS1 hMo, ↓MoL2 hMo, ↓MoS2 hMo, ↓MoL3 hMo, ↓MoS3 hMo, ↓MoL4 hMo, ↓MoS4 hMo, ↓MoL5 hMo, ↓MoS5 hMo, ↓MoL6 hMo, ↓MoS6 hMo, ↓MoL7 hMo, ↓MoS7 hMo, ↓MoL8 hMo, ↓MoS8 hMo, ↓MoL9 hMo, ↓MoS9 hMo, ↓MoL10 hMo, ↓MoS10 hMo, ↓MoL11 hMo, ↓MoS11 hMo, ↓hpt, tw_ua, tw_uk, h70, tw_up_ne, ↓A_if, ↓A_jn, ↓A_lt, ↓A_rz, ↓A_rn, ↓A_nzi, ↓A_nzl, ↓A_nn1, ↓A_nn0, ↓reduceIte, true_and, and_true, if_true, if_false, ite_true, ite_false, reduceIte, tl_0, tl_1, tl_2, tl_3, tl_4, tl_5, tl_6, tl_7, tl_8, tl_9, tl_10, tl_11, tl_12, tl_13, tl_14, tl_15, tl_16, tl_17, tl_18, tl_19, tl_20, tl_21, tl_22, tl_23, tl_24, tl_25, tl_26, tl_27, tl_28, tl_29, tl_30, tl_31, tl_32, tl_33, tl_34, tl_35, tl_36, tl_37, tl_38, tl_39, tl_40, tl_41, tl_42, tl_43, tl_44, tl_45, tl_46, tl_47, tl_48, tl_49, tl_50, tl_51, tl_52, tl_53, tl_54, tl_57, tl_59, tl_60, tl_62, tl_63, tl_64, tl_97, tl_99, tl_100, tl_120, tl_122, tl_192, tl_193, tl_194, tl_195, tl_196, tl_255, tl_256, tl_299, tl_400, tl_401, tl_492, tl_493, tl_541, tl_849, tl_999, tl_1000, tl_1341, tl_1342, tl_1390, tl_2190, tl_5412, tl_5904, tl_9999, tl_12345, tl_32767, tl_65536, tl_1000000, tl_252645135, tl_858993459, tl_1103515245, tl_1431655765, nz_31, nz_c31, eq_self, or_true, true_or, or_false, false_or, Nat.add_zero, nz_lt, nz_le, nz_eq, nz_cl, nz_sub, nI_add, pk_mul, nt_lt, nf_lt, nf_eq, nz_mI, mI_eq, mI_eq', mI_lt, mI_gt, mI_add, ↓j_max, ↓j_min, Nat.sub_sub, Nat.reduceAdd, Nat.reduceSub, Nat.reduceLT, Nat.reduceEqDiff, Bool.false_eq_true, ↓E1, ↓E2, ↓E3, ↓SeV0 hSe, ↓SeG0_32 hSe, ↓SeG0_33 hSe, ↓SeG0_34 hSe, ↓SeG0_35 hSe, ↓SeI0_36 hSe, ↓SeP0_36 hSe, ↓SeZ0_36 hSe, ↓SeL0 hSe, ↓SeS0 hSe, ↓SeL1 hSe, ↓SeS1 hSe, ↓SeL2 hSe, ↓SeS2 hSe, ↓SeL3 hSe, ↓SeS3 hSe]
  exact finq qc tw_qm_70 (Nat.le_refl _)
theorem L28 (hI : tw_IV G a0 b L (sh, μ, la, n)) (hi : i + 6 ≤ L) (hj : ∀ M, tw_IV G a0 b L M → j () M) (k : Int32 → tw_Mem → Prop) : f_Lc28 a0 b (b + 168) (b + 181) (nI i) j k (sh, μ, la, n) := by
  obtain ⟨lw, kl, P, hS, W, H, HL, HR, HI, HT, hf⟩ := tw_IV_e hI
  have hS2 := hS
  obtain ⟨hX, hlw, hkl, ⟨hTa, hTx⟩, hTn, hTs, hTk, hMe, hMi, hMt, hTw, hPa, hSe, hMo, hOu, hSc, hL3, hab, hlwc, hklc, hlwn, hkln, hbn, hlk⟩ := hS2
  have h8 := W.2.1
  have hsc := fun (j : Nat) (hj : j < L) (μ : Nat → Nat → Int32) (la : Nat → Nat → Int64) (n : Nat) (k : Int32 → tw_Mem → Prop) => tw_scr (μ := μ) (la := la) (n := n) hSc hL3 hj k
  have hs0 := hsc (i + 1) (by omega)
  have hs1 := hsc (i + 2) (by omega)
  have hs2 := hsc (i + 3) (by omega)
  have hs3 := hsc (i + 4) (by omega)
  have hs4 := hsc (i + 5) (by omega)
  have hlG : ∀ (μ : Nat → Nat → Int32) (la : Nat → Nat → Int64) (n : Nat) (k : Nat → tw_Mem → Prop), tw_gr 66 b k (sh, μ, la, n) = k lw (sh, μ, la, n) := fun μ la n k => tw_lawref hX hlw k
  have hlV : ∀ (μ : Nat → Nat → Int32) (la : Nat → Nat → Int64) (n : Nat) (F : tw_Mem → Prop), tw_iv 0 lw F (sh, μ, la, n) = F (sh, μ, la, n) := fun μ la n F => by rw [A_iv, tw_is_T HL.1, true_and]
  obtain ⟨μ1, hpi, hpt, qm, hT1, h70, ha1, hj1⟩ := tw_thr0 (a0 := a0) (μ := μ) hMo hab
  have fin : ∀ {μ2 : Nat → Nat → Int32} {la2 : Nat → Nat → Int64} {n2 : Nat}, tw_qm b μ μ2 → n ≤ n2 → j () (sh, μ2, la2, n2) := fun q hn => hj _ (tw_IV_q hS W H HL HR HI HT hf tw_qc_r q hn)
  have finq : ∀ {μc μ2 : Nat → Nat → Int32} {la2 : Nat → Nat → Int64} {n2 : Nat}, tw_qc b lw μ μc → tw_qm b μc μ2 → n ≤ n2 → j () (sh, μ2, la2, n2) := fun qc q hn => hj _ (tw_IV_q hS W H HL HR HI HT hf qc q hn)
  generalize hT : μ (b + 169) = T at *
  obtain ⟨μc, ⟨F1, g36, gR⟩, E1⟩ := c_ringRows (la := la) (n := n) hSe H W (by omega)
  have qc : tw_qc b lw μ μc := fun y h1 h2 h3 => F1 y (by omega)
  have eTc : μc (b + 168 + 1) = T := (qc (b + 169) (by omega) (by omega) (by omega)).trans hT
  have eac : μc a0 = μ a0 := qc a0 (by omega) (by omega) (by omega)
  have E2 := fun k => c_parting (la := la) (n := n) (R := fun p => tw_rb T p P) hSe g36 h8 gR k
  have E4 := fun (v : Int32) k => c_across (la := la) (n := n) (v := v) (R := fun p => tw_rb T p P) hSe g36 h8 gR k
  have E3 := fun (v : Int32) k => m_cutO (la := la) (n := n) (μ := μc) (P := P) (v := v) hMo (by rw [eTc]; exact W) k
  rw [eTc] at E3
  by_cases q0 : μ a0 (i + 1) = nI 0
  · simp (disch := omega) only [f_Lc28, f_X11_cut, ↓CxV0 hX, ↓CxG0_56 hX, ↓CxG0_57 hX, ↓CxG0_58 hX, ↓CxG0_59 hX, ↓CxG0_60 hX, ↓CxG0_61 hX, ↓CxG0_62 hX, ↓CxG0_63 hX, ↓CxG0_64 hX, ↓CxG0_65 hX, ↓CxI0_68 hX, ↓CxP0_68 hX, ↓CxZ0_68 hX, ↓CxI0_69 hX, ↓CxP0_69 hX, ↓CxZ0_69 hX, ↓TnV0 hTn, ↓TnG0_39 hTn, ↓TnG0_40 hTn, ↓TnG0_41 hTn, ↓TnG0_42 hTn, ↓TnG0_43 hTn, ↓TnG0_44 hTn, ↓TnG0_45 hTn, ↓TnI0_46 hTn, ↓TnP0_46 hTn, ↓TnZ0_46 hTn, ↓TnI0_47 hTn, ↓TnP0_47 hTn, ↓TnZ0_47 hTn, ↓TnI0_48 hTn, ↓TnP0_48 hTn, ↓TnZ0_48 hTn, ↓TnI0_49 hTn, ↓TnP0_49 hTn, ↓TnZ0_49 hTn, ↓TnI0_50 hTn, ↓TnP0_50 hTn, ↓TnZ0_50 hTn, ↓TnI0_51 hTn, ↓TnP0_51 hTn, ↓TnZ0_51 hTn, ↓TnI0_52 hTn, ↓TnP0_52 hTn, ↓TnZ0_52 hTn, ↓TnV1 hTn, ↓TnG1_19 hTn, ↓TnI1_20 hTn, ↓TnP1_20 hTn, ↓TnZ1_20 hTn, ↓TnI1_21 hTn, ↓TnP1_21 hTn, ↓TnZ1_21 hTn, ↓TnL0 hTn, ↓TnS0 hTn, ↓TnL1 hTn, ↓TnS1 hTn, ↓TnL2 hTn, ↓TnS2 hTn, ↓TnL3 hTn, ↓TnS3 hTn, ↓TnL4 hTn, ↓TnS4 hTn, ↓TnL5 hTn, ↓TnS5 hTn, ↓TnL6 hTn, ↓TnS6 hTn, ↓hs0, ↓hs1, ↓hs2, ↓hs3, ↓hs4, ↓hpi.1, ↓hpi.2, ↓hlG, ↓hlV, ha1, ↓X_sl hOu, ↓X_ll hOu, tw_upLa, tw_cmp0, f_X12_thrown, f_X12_throwsIf, ↓A_th, ↓A_xc, tw_xE1, tw_xE2, tw_xE3, tw_xE4, tw_xE5, tw_xE6, ↓MoV0 hMo, ↓MoI0_70 hMo, ↓MoZ0_70 hMo, ↓MoG0_71 hMo, ↓MoG0_72 hMo, ↓MoG0_73 hMo, ↓MoG0_74 hMo, ↓MoG0_75 hMo, ↓MoI0_76 hMo, ↓MoP0_76 hMo, ↓MoZ0_76 hMo, ↓MoI0_77 hMo, ↓MoP0_77 hMo, ↓MoZ0_77 hMo, ↓MoG0_78 hMo, ↓MoI0_79 hMo, ↓MoP0_79 hMo, ↓MoZ0_79 hMo, ↓MoI0_80 hMo, ↓MoP0_80 hMo, ↓MoZ0_80 hMo, ↓MoI0_81 hMo, ↓MoP0_81 hMo, ↓MoZ0_81 hMo, ↓MoI0_82 hMo, ↓MoP0_82 hMo, ↓MoZ0_82 hMo, ↓MoI0_83 hMo, ↓MoP0_83 hMo, ↓MoZ0_83 hMo, ↓MoI0_84 hMo, ↓MoP0_84 hMo, ↓MoZ0_84 hMo, ↓MoG0_85 hMo, ↓MoI0_86 hMo, ↓MoP0_86 hMo, ↓MoZ0_86 hMo, ↓MoG0_87 hMo, ↓MoI0_88 hMo, ↓MoP0_88 hMo, ↓MoZ0_88 hMo, ↓MoG0_89 hMo, ↓MoG0_90 hMo, ↓MoG0_91 hMo, ↓MoG0_92 hMo, ↓MoL0 hMo, ↓MoS0 hMo, ↓MoL1 hMo, ↓MoS1 hMo, ↓MoL2 hMo, ↓MoS2 hMo, ↓MoL3 hMo, ↓MoS3 hMo, ↓MoL4 hMo, ↓MoS4 hMo, ↓MoL5 hMo, ↓MoS5 hMo, ↓MoL6 hMo, ↓MoS6 hMo, ↓MoL7 hMo, ↓MoS7 hMo, ↓MoL8 hMo, ↓MoS8 hMo, ↓MoL9 hMo, ↓MoS9 hMo, ↓MoL10 hMo, ↓MoS10 hMo, ↓MoL11 hMo, ↓MoS11 hMo, ↓hpt, tw_ua, tw_uk, h70, tw_up_ne, ↓A_if, ↓A_jn, ↓A_lt, ↓A_rz, ↓A_rn, ↓A_nzi, ↓A_nzl, ↓A_nn1, ↓A_nn0, ↓reduceIte, true_and, and_true, if_true, if_false, ite_true, ite_false, reduceIte, tl_0, tl_1, tl_2, tl_3, tl_4, tl_5, tl_6, tl_7, tl_8, tl_9, tl_10, tl_11, tl_12, tl_13, tl_14, tl_15, tl_16, tl_17, tl_18, tl_19, tl_20, tl_21, tl_22, tl_23, tl_24, tl_25, tl_26, tl_27, tl_28, tl_29, tl_30, tl_31, tl_32, tl_33, tl_34, tl_35, tl_36, tl_37, tl_38, tl_39, tl_40, tl_41, tl_42, tl_43, tl_44, tl_45, tl_46, tl_47, tl_48, tl_49, tl_50, tl_51, tl_52, tl_53, tl_54, tl_57, tl_59, tl_60, tl_62, tl_63, tl_64, tl_97, tl_99, tl_100, tl_120, tl_122, tl_192, tl_193, tl_194, tl_195, tl_196, tl_255, tl_256, tl_299, tl_400, tl_401, tl_492, tl_493, tl_541, tl_849, tl_999, tl_1000, tl_1341, tl_1342, tl_1390, tl_2190, tl_5412, tl_5904, tl_9999, tl_12345, tl_32767, tl_65536, tl_1000000, tl_252645135, tl_858993459, tl_1103515245, tl_1431655765, nz_31, nz_c31, eq_self, or_true, true_or, or_false, false_or, Nat.add_zero, nz_lt, nz_le, nz_eq, nz_cl, nz_sub, nI_add, pk_mul, nt_lt, nf_lt, nf_eq, nz_mI, mI_eq, mI_eq', mI_lt, mI_gt, mI_add, ↓j_max, ↓j_min, Nat.sub_sub, Nat.reduceAdd, Nat.reduceSub, Nat.reduceLT, Nat.reduceEqDiff, Bool.false_eq_true, ↓E1, ↓E2, ↓E3, q0, eac, ↓SeV0 hSe, ↓SeG0_32 hSe, ↓SeG0_33 hSe, ↓SeG0_34 hSe, ↓SeG0_35 hSe, ↓SeI0_36 hSe, ↓SeP0_36 hSe, ↓SeZ0_36 hSe, ↓SeL0 hSe, ↓SeS0 hSe, ↓SeL1 hSe, ↓SeS1 hSe, ↓SeL2 hSe, ↓SeS2 hSe, ↓SeL3 hSe, ↓SeS3 hSe]
    exact finq qc tw_qm_70 (Nat.le_refl _)
  · simp (disch := omega) only [f_Lc28, f_X11_cut, ↓CxV0 hX, ↓CxG0_56 hX, ↓CxG0_57 hX, ↓CxG0_58 hX, ↓CxG0_59 hX, ↓CxG0_60 hX, ↓CxG0_61 hX, ↓CxG0_62 hX, ↓CxG0_63 hX, ↓CxG0_64 hX, ↓CxG0_65 hX, ↓CxI0_68 hX, ↓CxP0_68 hX, ↓CxZ0_68 hX, ↓CxI0_69 hX, ↓CxP0_69 hX, ↓CxZ0_69 hX, ↓TnV0 hTn, ↓TnG0_39 hTn, ↓TnG0_40 hTn, ↓TnG0_41 hTn, ↓TnG0_42 hTn, ↓TnG0_43 hTn, ↓TnG0_44 hTn, ↓TnG0_45 hTn, ↓TnI0_46 hTn, ↓TnP0_46 hTn, ↓TnZ0_46 hTn, ↓TnI0_47 hTn, ↓TnP0_47 hTn, ↓TnZ0_47 hTn, ↓TnI0_48 hTn, ↓TnP0_48 hTn, ↓TnZ0_48 hTn, ↓TnI0_49 hTn, ↓TnP0_49 hTn, ↓TnZ0_49 hTn, ↓TnI0_50 hTn, ↓TnP0_50 hTn, ↓TnZ0_50 hTn, ↓TnI0_51 hTn, ↓TnP0_51 hTn, ↓TnZ0_51 hTn, ↓TnI0_52 hTn, ↓TnP0_52 hTn, ↓TnZ0_52 hTn, ↓TnV1 hTn, ↓TnG1_19 hTn, ↓TnI1_20 hTn, ↓TnP1_20 hTn, ↓TnZ1_20 hTn, ↓TnI1_21 hTn, ↓TnP1_21 hTn, ↓TnZ1_21 hTn, ↓TnL0 hTn, ↓TnS0 hTn, ↓TnL1 hTn, ↓TnS1 hTn, ↓TnL2 hTn, ↓TnS2 hTn, ↓TnL3 hTn, ↓TnS3 hTn, ↓TnL4 hTn, ↓TnS4 hTn, ↓TnL5 hTn, ↓TnS5 hTn, ↓TnL6 hTn, ↓TnS6 hTn, ↓hs0, ↓hs1, ↓hs2, ↓hs3, ↓hs4, ↓hpi.1, ↓hpi.2, ↓hlG, ↓hlV, ha1, ↓X_sl hOu, ↓X_ll hOu, tw_upLa, tw_cmp0, f_X12_thrown, f_X12_throwsIf, ↓A_th, ↓A_xc, tw_xE1, tw_xE2, tw_xE3, tw_xE4, tw_xE5, tw_xE6, ↓MoV0 hMo, ↓MoI0_70 hMo, ↓MoZ0_70 hMo, ↓MoG0_71 hMo, ↓MoG0_72 hMo, ↓MoG0_73 hMo, ↓MoG0_74 hMo, ↓MoG0_75 hMo, ↓MoI0_76 hMo, ↓MoP0_76 hMo, ↓MoZ0_76 hMo, ↓MoI0_77 hMo, ↓MoP0_77 hMo, ↓MoZ0_77 hMo, ↓MoG0_78 hMo, ↓MoI0_79 hMo, ↓MoP0_79 hMo, ↓MoZ0_79 hMo, ↓MoI0_80 hMo, ↓MoP0_80 hMo, ↓MoZ0_80 hMo, ↓MoI0_81 hMo, ↓MoP0_81 hMo, ↓MoZ0_81 hMo, ↓MoI0_82 hMo, ↓MoP0_82 hMo, ↓MoZ0_82 hMo, ↓MoI0_83 hMo, ↓MoP0_83 hMo, ↓MoZ0_83 hMo, ↓MoI0_84 hMo, ↓MoP0_84 hMo, ↓MoZ0_84 hMo, ↓MoG0_85 hMo, ↓MoI0_86 hMo, ↓MoP0_86 hMo, ↓MoZ0_86 hMo, ↓MoG0_87 hMo, ↓MoI0_88 hMo, ↓MoP0_88 hMo, ↓MoZ0_88 hMo, ↓MoG0_89 hMo, ↓MoG0_90 hMo, ↓MoG0_91 hMo, ↓MoG0_92 hMo, ↓MoL0 hMo, ↓MoS0 hMo, ↓MoL1 hMo, ↓MoS1 hMo, ↓MoL2 hMo, ↓MoS2 hMo, ↓MoL3 hMo, ↓MoS3 hMo, ↓MoL4 hMo, ↓MoS4 hMo, ↓MoL5 hMo, ↓MoS5 hMo, ↓MoL6 hMo, ↓MoS6 hMo, ↓MoL7 hMo, ↓MoS7 hMo, ↓MoL8 hMo, ↓MoS8 hMo, ↓MoL9 hMo, ↓MoS9 hMo, ↓MoL10 hMo, ↓MoS10 hMo, ↓MoL11 hMo, ↓MoS11 hMo, ↓hpt, tw_ua, tw_uk, h70, tw_up_ne, ↓A_if, ↓A_jn, ↓A_lt, ↓A_rz, ↓A_rn, ↓A_nzi, ↓A_nzl, ↓A_nn1, ↓A_nn0, ↓reduceIte, true_and, and_true, if_true, if_false, ite_true, ite_false, reduceIte, tl_0, tl_1, tl_2, tl_3, tl_4, tl_5, tl_6, tl_7, tl_8, tl_9, tl_10, tl_11, tl_12, tl_13, tl_14, tl_15, tl_16, tl_17, tl_18, tl_19, tl_20, tl_21, tl_22, tl_23, tl_24, tl_25, tl_26, tl_27, tl_28, tl_29, tl_30, tl_31, tl_32, tl_33, tl_34, tl_35, tl_36, tl_37, tl_38, tl_39, tl_40, tl_41, tl_42, tl_43, tl_44, tl_45, tl_46, tl_47, tl_48, tl_49, tl_50, tl_51, tl_52, tl_53, tl_54, tl_57, tl_59, tl_60, tl_62, tl_63, tl_64, tl_97, tl_99, tl_100, tl_120, tl_122, tl_192, tl_193, tl_194, tl_195, tl_196, tl_255, tl_256, tl_299, tl_400, tl_401, tl_492, tl_493, tl_541, tl_849, tl_999, tl_1000, tl_1341, tl_1342, tl_1390, tl_2190, tl_5412, tl_5904, tl_9999, tl_12345, tl_32767, tl_65536, tl_1000000, tl_252645135, tl_858993459, tl_1103515245, tl_1431655765, nz_31, nz_c31, eq_self, or_true, true_or, or_false, false_or, Nat.add_zero, nz_lt, nz_le, nz_eq, nz_cl, nz_sub, nI_add, pk_mul, nt_lt, nf_lt, nf_eq, nz_mI, mI_eq, mI_eq', mI_lt, mI_gt, mI_add, ↓j_max, ↓j_min, Nat.sub_sub, Nat.reduceAdd, Nat.reduceSub, Nat.reduceLT, Nat.reduceEqDiff, Bool.false_eq_true, ↓E1, ↓E2, ↓E3, ↓E4, q0, eac, ↓SeV0 hSe, ↓SeG0_32 hSe, ↓SeG0_33 hSe, ↓SeG0_34 hSe, ↓SeG0_35 hSe, ↓SeI0_36 hSe, ↓SeP0_36 hSe, ↓SeZ0_36 hSe, ↓SeL0 hSe, ↓SeS0 hSe, ↓SeL1 hSe, ↓SeS1 hSe, ↓SeL2 hSe, ↓SeS2 hSe, ↓SeL3 hSe, ↓SeS3 hSe]
    exact finq qc tw_qm_70 (Nat.le_refl _)
theorem L29 (hI : tw_IV G a0 b L (sh, μ, la, n)) (hi : i + 6 ≤ L) (hj : ∀ M, tw_IV G a0 b L M → j () M) (k : Int32 → tw_Mem → Prop) : f_Lc29 a0 b (b + 168) (b + 181) (nI i) j k (sh, μ, la, n) := by
  obtain ⟨lw, kl, P, hS, W, H, HL, HR, HI, HT, hf⟩ := tw_IV_e hI
  have hS2 := hS
  obtain ⟨hX, hlw, hkl, ⟨hTa, hTx⟩, hTn, hTs, hTk, hMe, hMi, hMt, hTw, hPa, hSe, hMo, hOu, hSc, hL3, hab, hlwc, hklc, hlwn, hkln, hbn, hlk⟩ := hS2
  have h8 := W.2.1
  have hsc := fun (j : Nat) (hj : j < L) (μ : Nat → Nat → Int32) (la : Nat → Nat → Int64) (n : Nat) (k : Int32 → tw_Mem → Prop) => tw_scr (μ := μ) (la := la) (n := n) hSc hL3 hj k
  have hs0 := hsc (i + 1) (by omega)
  have hs1 := hsc (i + 2) (by omega)
  have hs2 := hsc (i + 3) (by omega)
  have hs3 := hsc (i + 4) (by omega)
  have hs4 := hsc (i + 5) (by omega)
  have hlG : ∀ (μ : Nat → Nat → Int32) (la : Nat → Nat → Int64) (n : Nat) (k : Nat → tw_Mem → Prop), tw_gr 66 b k (sh, μ, la, n) = k lw (sh, μ, la, n) := fun μ la n k => tw_lawref hX hlw k
  have hlV : ∀ (μ : Nat → Nat → Int32) (la : Nat → Nat → Int64) (n : Nat) (F : tw_Mem → Prop), tw_iv 0 lw F (sh, μ, la, n) = F (sh, μ, la, n) := fun μ la n F => by rw [A_iv, tw_is_T HL.1, true_and]
  obtain ⟨μ1, hpi, hpt, qm, hT1, h70, ha1, hj1⟩ := tw_thr0 (a0 := a0) (μ := μ) hMo hab
  have fin : ∀ {μ2 : Nat → Nat → Int32} {la2 : Nat → Nat → Int64} {n2 : Nat}, tw_qm b μ μ2 → n ≤ n2 → j () (sh, μ2, la2, n2) := fun q hn => hj _ (tw_IV_q hS W H HL HR HI HT hf tw_qc_r q hn)
  have finq : ∀ {μc μ2 : Nat → Nat → Int32} {la2 : Nat → Nat → Int64} {n2 : Nat}, tw_qc b lw μ μc → tw_qm b μc μ2 → n ≤ n2 → j () (sh, μ2, la2, n2) := fun qc q hn => hj _ (tw_IV_q hS W H HL HR HI HT hf qc q hn)
  generalize hT : μ (b + 169) = T at *
  obtain ⟨μc, ⟨F1, g36, gR⟩, E1⟩ := c_guessRows (la := la) (n := n) (v := T 5) hSe H W.1 h8 (by omega)
  have qc : tw_qc b lw μ μc := fun y h1 h2 h3 => F1 y (by omega)
  have eTc : μc (b + 168 + 1) = T := (qc (b + 169) (by omega) (by omega) (by omega)).trans hT
  have E2 := fun k => c_headsF (la := la) (n := n) (R := fun p => tw_sGB T p (T 5) P) hSe g36 h8 gR k
  have E3 := fun k => m_headsO (la := la) (n := n) (μ := μc) (P := P) hMo (by rw [eTc]; exact W) k
  rw [eTc] at E3
  simp (disch := omega) only [f_Lc29, f_X11_heads, ↓CxV0 hX, ↓CxG0_56 hX, ↓CxG0_57 hX, ↓CxG0_58 hX, ↓CxG0_59 hX, ↓CxG0_60 hX, ↓CxG0_61 hX, ↓CxG0_62 hX, ↓CxG0_63 hX, ↓CxG0_64 hX, ↓CxG0_65 hX, ↓CxI0_68 hX, ↓CxP0_68 hX, ↓CxZ0_68 hX, ↓CxI0_69 hX, ↓CxP0_69 hX, ↓CxZ0_69 hX, ↓TnV0 hTn, ↓TnG0_39 hTn, ↓TnG0_40 hTn, ↓TnG0_41 hTn, ↓TnG0_42 hTn, ↓TnG0_43 hTn, ↓TnG0_44 hTn, ↓TnG0_45 hTn, ↓TnI0_46 hTn, ↓TnP0_46 hTn, ↓TnZ0_46 hTn, ↓TnI0_47 hTn, ↓TnP0_47 hTn, ↓TnZ0_47 hTn, ↓TnI0_48 hTn, ↓TnP0_48 hTn, ↓TnZ0_48 hTn, ↓TnI0_49 hTn, ↓TnP0_49 hTn, ↓TnZ0_49 hTn, ↓TnI0_50 hTn, ↓TnP0_50 hTn, ↓TnZ0_50 hTn, ↓TnI0_51 hTn, ↓TnP0_51 hTn, ↓TnZ0_51 hTn, ↓TnI0_52 hTn, ↓TnP0_52 hTn, ↓TnZ0_52 hTn, ↓TnV1 hTn, ↓TnG1_19 hTn, ↓TnI1_20 hTn, ↓TnP1_20 hTn, ↓TnZ1_20 hTn, ↓TnI1_21 hTn, ↓TnP1_21 hTn, ↓TnZ1_21 hTn, ↓TnL0 hTn, ↓TnS0 hTn, ↓TnL1 hTn, ↓TnS1 hTn, ↓TnL2 hTn, ↓TnS2 hTn, ↓TnL3 hTn, ↓TnS3 hTn, ↓TnL4 hTn, ↓TnS4 hTn, ↓TnL5 hTn, ↓TnS5 hTn, ↓TnL6 hTn, ↓TnS6 hTn, ↓hs0, ↓hs1, ↓hs2, ↓hs3, ↓hs4, ↓hpi.1, ↓hpi.2, ↓hlG, ↓hlV, ha1, ↓X_sl hOu, ↓X_ll hOu, tw_upLa, tw_cmp0, f_X12_thrown, f_X12_throwsIf, ↓A_th, ↓A_xc, tw_xE1, tw_xE2, tw_xE3, tw_xE4, tw_xE5, tw_xE6, ↓MoV0 hMo, ↓MoI0_70 hMo, ↓MoZ0_70 hMo, ↓MoG0_71 hMo, ↓MoG0_72 hMo, ↓MoG0_73 hMo, ↓MoG0_74 hMo, ↓MoG0_75 hMo, ↓MoI0_76 hMo, ↓MoP0_76 hMo, ↓MoZ0_76 hMo, ↓MoI0_77 hMo, ↓MoP0_77 hMo, ↓MoZ0_77 hMo, ↓MoG0_78 hMo, ↓MoI0_79 hMo, ↓MoP0_79 hMo, ↓MoZ0_79 hMo, ↓MoI0_80 hMo, ↓MoP0_80 hMo, ↓MoZ0_80 hMo, ↓MoI0_81 hMo, ↓MoP0_81 hMo, ↓MoZ0_81 hMo, ↓MoI0_82 hMo, ↓MoP0_82 hMo, ↓MoZ0_82 hMo, ↓MoI0_83 hMo, ↓MoP0_83 hMo, ↓MoZ0_83 hMo, ↓MoI0_84 hMo, ↓MoP0_84 hMo, ↓MoZ0_84 hMo, ↓MoG0_85 hMo, ↓MoI0_86 hMo, ↓MoP0_86 hMo, ↓MoZ0_86 hMo, ↓MoG0_87 hMo, ↓MoI0_88 hMo, ↓MoP0_88 hMo, ↓MoZ0_88 hMo, ↓MoG0_89 hMo, ↓MoG0_90 hMo, ↓MoG0_91 hMo, ↓MoG0_92 hMo, ↓MoL0 hMo, ↓MoS0 hMo, ↓MoL1 hMo, ↓MoS1 hMo, ↓MoL2 hMo, ↓MoS2 hMo, ↓MoL3 hMo, ↓MoS3 hMo, ↓MoL4 hMo, ↓MoS4 hMo, ↓MoL5 hMo, ↓MoS5 hMo, ↓MoL6 hMo, ↓MoS6 hMo, ↓MoL7 hMo, ↓MoS7 hMo, ↓MoL8 hMo, ↓MoS8 hMo, ↓MoL9 hMo, ↓MoS9 hMo, ↓MoL10 hMo, ↓MoS10 hMo, ↓MoL11 hMo, ↓MoS11 hMo, ↓hpt, tw_ua, tw_uk, h70, tw_up_ne, ↓A_if, ↓A_jn, ↓A_lt, ↓A_rz, ↓A_rn, ↓A_nzi, ↓A_nzl, ↓A_nn1, ↓A_nn0, ↓reduceIte, true_and, and_true, if_true, if_false, ite_true, ite_false, reduceIte, tl_0, tl_1, tl_2, tl_3, tl_4, tl_5, tl_6, tl_7, tl_8, tl_9, tl_10, tl_11, tl_12, tl_13, tl_14, tl_15, tl_16, tl_17, tl_18, tl_19, tl_20, tl_21, tl_22, tl_23, tl_24, tl_25, tl_26, tl_27, tl_28, tl_29, tl_30, tl_31, tl_32, tl_33, tl_34, tl_35, tl_36, tl_37, tl_38, tl_39, tl_40, tl_41, tl_42, tl_43, tl_44, tl_45, tl_46, tl_47, tl_48, tl_49, tl_50, tl_51, tl_52, tl_53, tl_54, tl_57, tl_59, tl_60, tl_62, tl_63, tl_64, tl_97, tl_99, tl_100, tl_120, tl_122, tl_192, tl_193, tl_194, tl_195, tl_196, tl_255, tl_256, tl_299, tl_400, tl_401, tl_492, tl_493, tl_541, tl_849, tl_999, tl_1000, tl_1341, tl_1342, tl_1390, tl_2190, tl_5412, tl_5904, tl_9999, tl_12345, tl_32767, tl_65536, tl_1000000, tl_252645135, tl_858993459, tl_1103515245, tl_1431655765, nz_31, nz_c31, eq_self, or_true, true_or, or_false, false_or, Nat.add_zero, nz_lt, nz_le, nz_eq, nz_cl, nz_sub, nI_add, pk_mul, nt_lt, nf_lt, nf_eq, nz_mI, mI_eq, mI_eq', mI_lt, mI_gt, mI_add, ↓j_max, ↓j_min, Nat.sub_sub, Nat.reduceAdd, Nat.reduceSub, Nat.reduceLT, Nat.reduceEqDiff, Bool.false_eq_true, Rc_50 H, ↓E1, ↓E2, ↓E3, ↓SeV0 hSe, ↓SeG0_32 hSe, ↓SeG0_33 hSe, ↓SeG0_34 hSe, ↓SeG0_35 hSe, ↓SeI0_36 hSe, ↓SeP0_36 hSe, ↓SeZ0_36 hSe, ↓SeL0 hSe, ↓SeS0 hSe, ↓SeL1 hSe, ↓SeS1 hSe, ↓SeL2 hSe, ↓SeS2 hSe, ↓SeL3 hSe, ↓SeS3 hSe]
  exact finq qc tw_qm_70 (Nat.le_refl _)
end P79f
