/-! ===== pure: what was heard ===== -/
def tw_rgs (T : Nat → Int32) (p o P i : Nat) : Int32 := tw_it (fun h b => if tw_rg (tw_lT T p o P h) p o = nI 1 then b ||| (nI 1 <<< nI h) else b) i (nI 0)
def tw_rN (T : Nat → Int32) (p o P : Nat) : Nat := tw_nt (tw_rgs T p o P 31)
theorem tw_rN_e (T : Nat → Int32) (p o P : Nat) : tw_rgs T p o P 31 = nI (tw_rN T p o P) ∧ tw_rN T p o P < 2 ^ 31 := by
  obtain ⟨r, e, h⟩ := tw_bitsW (F := fun h b => if tw_rg (tw_lT T p o P h) p o = nI 1 then b ||| (nI 1 <<< nI h) else b) (fun h => decide (tw_rg (tw_lT T p o P h) p o = nI 1)) (fun o b => by
    by_cases q : tw_rg (tw_lT T p o P o) p o = nI 1 <;> simp) 31 (Nat.le_refl 31)
  have hr : r < 2 ^ 31 := tw_lt_pow h
  have e2 : tw_rgs T p o P 31 = nI r := e
  have e3 : tw_rN T p o P = r := by
    unfold tw_rN
    rw [e2]
    exact tw_nt_n hr
  rw [e3]
  exact ⟨e2, hr⟩
def tw_tok (B : Nat → Nat) : Nat → Nat → Bool
  | 0, _ => true
  | d + 1, i => decide (B (2 * i) < 31 ∧ B (2 * i + 1) < 2) && tw_tok B d (i + 1)
def tw_hd (B : Nat → Nat) : Nat → Nat
  | 0 => 0
  | i + 1 => if B (2 * i + 1) = 1 then tw_hd B i ||| 2 ^ B (2 * i) else tw_hd B i
def tw_uh (B : Nat → Nat) : Nat → Nat
  | 0 => 0
  | i + 1 => if B (2 * i + 1) = 1 then tw_uh B i else tw_uh B i ||| 2 ^ B (2 * i)
def tw_ftt (B : Nat → Nat) (r : Nat) : Nat → Bool
  | 0 => true
  | i + 1 => tw_ftt B r i && decide (r.testBit (B (2 * i)) = decide (B (2 * i + 1) = 1))
def tw_told (B : Nat → Nat) (e : Nat) : Bool := decide (e ≤ 40 ∧ e % 2 = 0) && tw_tok B (e / 2) 0
theorem tw_tok_r {B : Nat → Nat} : ∀ d i, tw_tok B d i = true → ∀ j, i ≤ j → j < i + d → B (2 * j) < 31 ∧ B (2 * j + 1) < 2
  | 0, _, _ => fun j a b => by omega
  | d + 1, i, h => fun j a b => by
    have h : (decide (B (2 * i) < 31 ∧ B (2 * i + 1) < 2) && tw_tok B d (i + 1)) = true := h
    rw [Bool.and_eq_true, decide_eq_true_iff] at h
    by_cases e : j = i
    · subst e; exact h.1
    · exact tw_tok_r d (i + 1) h.2 j (by omega) (by omega)
theorem tw_ftt_r {B : Nat → Nat} {r : Nat} : ∀ M, tw_ftt B r M = true ↔ ∀ i, i < M → r.testBit (B (2 * i)) = decide (B (2 * i + 1) = 1)
  | 0 => ⟨fun _ i hi => absurd hi (Nat.not_lt_zero i), fun _ => rfl⟩
  | M + 1 => by
    show (tw_ftt B r M && decide (r.testBit (B (2 * M)) = decide (B (2 * M + 1) = 1))) = true ↔ _
    rw [Bool.and_eq_true, decide_eq_true_iff, tw_ftt_r M]
    constructor
    · rintro ⟨h1, h2⟩ i hi
      by_cases e : i = M
      · subst e; exact h2
      · exact h1 i (by omega)
    · intro h
      exact ⟨fun i hi => h i (by omega), h M (by omega)⟩
theorem tw_hd_b {B : Nat → Nat} : ∀ M q, (tw_hd B M).testBit q = true ↔ ∃ i, i < M ∧ B (2 * i + 1) = 1 ∧ B (2 * i) = q
  | 0, q => by
    constructor
    · intro h
      have e : tw_hd B 0 = 0 := rfl
      rw [e, Nat.zero_testBit] at h
      cases h
    · rintro ⟨i, hi, _⟩; omega
  | M + 1, q => by
    have e : tw_hd B (M + 1) = if B (2 * M + 1) = 1 then tw_hd B M ||| 2 ^ B (2 * M) else tw_hd B M := rfl
    rw [e]
    by_cases g : B (2 * M + 1) = 1
    · rw [if_pos g, Nat.testBit_or, Bool.or_eq_true, tw_hd_b M q, Nat.testBit_two_pow, decide_eq_true_iff]
      constructor
      · rintro (⟨i, h1, h2⟩ | h)
        · exact ⟨i, by omega, h2⟩
        · exact ⟨M, by omega, g, h⟩
      · rintro ⟨i, h1, h2, h3⟩
        by_cases ei : i = M
        · subst ei; exact Or.inr h3
        · exact Or.inl ⟨i, by omega, h2, h3⟩
    · rw [if_neg g, tw_hd_b M q]
      constructor
      · rintro ⟨i, h1, h2⟩
        exact ⟨i, by omega, h2⟩
      · rintro ⟨i, h1, h2, h3⟩
        by_cases ei : i = M
        · subst ei; exact absurd h2 g
        · exact ⟨i, by omega, h2, h3⟩
theorem tw_uh_b {B : Nat → Nat} : ∀ M q, (tw_uh B M).testBit q = true ↔ ∃ i, i < M ∧ ¬ B (2 * i + 1) = 1 ∧ B (2 * i) = q
  | 0, q => by
    constructor
    · intro h
      have e : tw_uh B 0 = 0 := rfl
      rw [e, Nat.zero_testBit] at h
      cases h
    · rintro ⟨i, hi, _⟩; omega
  | M + 1, q => by
    have e : tw_uh B (M + 1) = if B (2 * M + 1) = 1 then tw_uh B M else tw_uh B M ||| 2 ^ B (2 * M) := rfl
    rw [e]
    by_cases g : B (2 * M + 1) = 1
    · rw [if_pos g, tw_uh_b M q]
      constructor
      · rintro ⟨i, h1, h2⟩
        exact ⟨i, by omega, h2⟩
      · rintro ⟨i, h1, h2, h3⟩
        by_cases ei : i = M
        · subst ei; exact absurd g h2
        · exact ⟨i, by omega, h2, h3⟩
    · rw [if_neg g, Nat.testBit_or, Bool.or_eq_true, tw_uh_b M q, Nat.testBit_two_pow, decide_eq_true_iff]
      constructor
      · rintro (⟨i, h1, h2⟩ | h)
        · exact ⟨i, by omega, h2⟩
        · exact ⟨M, by omega, g, h⟩
      · rintro ⟨i, h1, h2, h3⟩
        by_cases ei : i = M
        · subst ei; exact Or.inr h3
        · exact Or.inl ⟨i, by omega, h2, h3⟩
theorem tw_hd_l {B : Nat → Nat} : ∀ M, (∀ i, i < M → B (2 * i) < 31) → tw_hd B M < 2 ^ 31 ∧ tw_uh B M < 2 ^ 31
  | 0, _ => ⟨Nat.two_pow_pos 31, Nat.two_pow_pos 31⟩
  | M + 1, h => by
    obtain ⟨a, c⟩ := tw_hd_l M (fun i hi => h i (by omega))
    have hp : 2 ^ B (2 * M) < 2 ^ 31 := Nat.pow_lt_pow_right (by omega) (h M (by omega))
    have e1 : tw_hd B (M + 1) = if B (2 * M + 1) = 1 then tw_hd B M ||| 2 ^ B (2 * M) else tw_hd B M := rfl
    have e2 : tw_uh B (M + 1) = if B (2 * M + 1) = 1 then tw_uh B M else tw_uh B M ||| 2 ^ B (2 * M) := rfl
    rw [e1, e2]
    by_cases g : B (2 * M + 1) = 1
    · rw [if_pos g, if_pos g]; exact ⟨Nat.or_lt_two_pow a hp, c⟩
    · rw [if_neg g, if_neg g]; exact ⟨a, Nat.or_lt_two_pow c hp⟩
theorem tw_fit_e {B : Nat → Nat} {M r : Nat} (h : ∀ i, i < M → B (2 * i) < 31) (hr : r < 2 ^ 31) : (nI r &&& nI (tw_hd B M) = nI (tw_hd B M) ∧ nI r &&& nI (tw_uh B M) = nI 0) ↔ tw_ftt B r M = true := by
  obtain ⟨a, c⟩ := tw_hd_l M h
  have a2 : r &&& tw_hd B M < 2147483648 := Nat.lt_of_le_of_lt Nat.and_le_left hr
  rw [tw_and0 (by omega), nI_and, nz_eq a2 a, tw_ftt_r]
  constructor
  · rintro ⟨h1, h2⟩ i hi
    by_cases g : B (2 * i + 1) = 1
    · rw [decide_eq_true g]
      have hb := (tw_hd_b M (B (2 * i))).mpr ⟨i, hi, g, rfl⟩
      rw [← h1, Nat.testBit_and, Bool.and_eq_true] at hb
      exact hb.1
    · rw [decide_eq_false g]
      have hb := (tw_uh_b M (B (2 * i))).mpr ⟨i, hi, g, rfl⟩
      cases e : r.testBit (B (2 * i))
      · rfl
      · exact absurd ⟨e, hb⟩ (h2 (B (2 * i)))
  · intro h1
    constructor
    · apply Nat.eq_of_testBit_eq
      intro q
      rw [Nat.testBit_and]
      cases e : (tw_hd B M).testBit q
      · rw [Bool.and_false]
      · obtain ⟨i, hi, g, rfl⟩ := (tw_hd_b M q).mp e
        rw [h1 i hi, decide_eq_true g]
        rfl
    · rintro q ⟨g1, g2⟩
      obtain ⟨i, hi, g, rfl⟩ := (tw_uh_b M q).mp g2
      rw [h1 i hi, decide_eq_false g] at g1
      cases g1
theorem tw_narA : ∀ B, B < 256 → (tw_va (vp_nar .byte (nI B)) 31 = decide (B < 31) ∧ tw_va (vp_nar .byte (nI B)) 2 = decide (B < 2)) := by decide +kernel
theorem tw_narB : ∀ B, B < 31 → vp_nar .byte (nI B) = nI B := by decide +kernel
section P79m
variable {sh : tw_Sh} {μ ν ν2 : Nat → Nat → Int32} {la : Nat → Nat → Int64} {n a b w m lw P N L a0 e M : Nat} {p o l h i z c x y f q kd t r s : Nat} {T T' : Nat → Int32} {v u rg tn : Int32} {j : Unit → tw_Mem → Prop} {G : tw_Gm} {B : Nat → Nat}
theorem c_ringH (hA : tw_Pa sh b) (hw : tw_Tw sh (b + 152)) (H : tw_RC sh μ (b + 3) T) (W : tw_WF T P) (HL : tw_La sh μ lw T) (hdl : b + 157 < lw) (hp : p < P) (ho : o < P) (hpo : p ≠ o) : ∃ μ', tw_wr (b + 152) lw μ μ' ∧ ∀ k, f_X4_ringingHours (b + 154) (nI p) (nI o) lw k (sh, μ, la, n) = k (tw_rgs T p o P 31) (sh, μ', la, n) := by
  have h8 := W.2.1
  obtain ⟨μ1, ⟨h1, F1⟩, E1⟩ := c_see2 (la := la) (n := n) hw H W hp ho (by omega)
  simp (disch := omega) only [f_X4_ringingHours, ↓E1, ↓PaV0 hA, ↓PaG0_25 hA, ↓PaG0_26 hA, ↓PaG0_27 hA, ↓PaG0_28 hA, ↓PaI0_29 hA, ↓PaP0_29 hA, ↓PaZ0_29 hA, ↓PaI0_30 hA, ↓PaP0_30 hA, ↓PaZ0_30 hA, ↓PaI0_31 hA, ↓PaP0_31 hA, ↓PaZ0_31 hA, ↓PaL0 hA, ↓PaS0 hA, ↓PaL1 hA, ↓PaS1 hA, ↓TwV0 hw, ↓TwG0_54 hw, ↓TwI0_55 hw, ↓TwP0_55 hw, ↓TwZ0_55 hw, ↓TwL0 hw, ↓TwS0 hw, ↓A_if, ↓A_jn, ↓A_lt, ↓A_rz, ↓A_rn, ↓A_nzi, ↓A_nzl, ↓A_nn1, ↓A_nn0, ↓reduceIte, true_and, and_true, if_true, if_false, ite_true, ite_false, reduceIte, tl_0, tl_1, tl_2, tl_3, tl_4, tl_5, tl_6, tl_7, tl_8, tl_9, tl_10, tl_11, tl_12, tl_13, tl_14, tl_15, tl_16, tl_17, tl_18, tl_19, tl_20, tl_21, tl_22, tl_23, tl_24, tl_25, tl_26, tl_27, tl_28, tl_29, tl_30, tl_31, tl_32, tl_33, tl_34, tl_35, tl_36, tl_37, tl_38, tl_39, tl_40, tl_41, tl_42, tl_43, tl_44, tl_45, tl_46, tl_47, tl_48, tl_49, tl_50, tl_51, tl_52, tl_53, tl_54, tl_57, tl_59, tl_60, tl_62, tl_63, tl_64, tl_97, tl_99, tl_100, tl_120, tl_122, tl_192, tl_193, tl_194, tl_195, tl_196, tl_255, tl_256, tl_299, tl_400, tl_401, tl_492, tl_493, tl_541, tl_849, tl_999, tl_1000, tl_1341, tl_1342, tl_1390, tl_2190, tl_5412, tl_5904, tl_9999, tl_12345, tl_32767, tl_65536, tl_1000000, tl_252645135, tl_858993459, tl_1103515245, tl_1431655765, nz_31, nz_c31, eq_self, or_true, true_or, or_false, false_or, Nat.add_zero, nz_lt, nz_le, nz_eq, nz_cl, nz_sub, nI_add, pk_mul, nt_lt, nf_lt, nf_eq, nz_mI, mI_eq, mI_eq', mI_lt, mI_gt, mI_add, ↓j_max, ↓j_min, Nat.sub_sub, Nat.reduceAdd, Nat.reduceSub, Nat.reduceLT, Nat.reduceEqDiff, Bool.false_eq_true]
  refine tw_lp_ex 31 (fun i => (tw_rgs T p o P i, nI i)) (fun i μ' => (∃ rg, tw_2 μ' (b + 152) (tw_lT T p o P i) p o rg) ∧ tw_wr (b + 152) lw μ μ') rfl ⟨⟨_, h1⟩, tw_wr_x F1⟩ ?_ ?_
  · rintro i hi μ2 ⟨⟨rg, h2⟩, F2⟩
    obtain ⟨W1, K1⟩ := tw_lT_k W hp ho hpo i
    have L2 : tw_La sh μ2 lw (tw_lT T p o P i) := tw_La_same HL (fun x hx => F2 x (by omega) (by omega)) (K1 2 (Or.inl rfl)) (fun j hj => K1 j (Or.inr hj))
    obtain ⟨μ3, ⟨h3, F3⟩, E3⟩ := c_pull (la := la) (n := n) hw L2 W1 (p := p) (o := o) (by omega) (by omega) hpo (by omega) h2
    have W3 := Wf_pull W1 hp ho hpo
    obtain ⟨μ4, ⟨h4, F4⟩, E4⟩ := w_passHour (la := la) (n := n) (lw := lw) hw W3 (p := p) (o := o) (by omega) (by omega) h3
    rw [← tw_lT_s] at h4
    refine ⟨μ4, ⟨⟨_, h4⟩, tw_wr_t F2 (tw_wr_t (tw_wr_w F3) (tw_wr_w F4))⟩, fun k rec => ?_⟩
    have es : tw_rgs T p o P (i + 1) = if tw_rg (tw_lT T p o P i) p o = nI 1 then tw_rgs T p o P i ||| (nI 1 <<< nI i) else tw_rgs T p o P i := rfl
    rw [es]
    unfold tw_rg
    by_cases g : tw_tn (tw_lT T p o P i (32 + 20 * p + (4 + o))) (tw_lT T p o P i (32 + 20 * o + (4 + p))) (tw_lT T p o P i 5) = nI 4
    · simp (disch := omega) only [↓E3, ↓E4, g, ↓PaV0 hA, ↓PaG0_25 hA, ↓PaG0_26 hA, ↓PaG0_27 hA, ↓PaG0_28 hA, ↓PaI0_29 hA, ↓PaP0_29 hA, ↓PaZ0_29 hA, ↓PaI0_30 hA, ↓PaP0_30 hA, ↓PaZ0_30 hA, ↓PaI0_31 hA, ↓PaP0_31 hA, ↓PaZ0_31 hA, ↓PaL0 hA, ↓PaS0 hA, ↓PaL1 hA, ↓PaS1 hA, ↓TwV0 hw, ↓TwG0_54 hw, ↓TwI0_55 hw, ↓TwP0_55 hw, ↓TwZ0_55 hw, ↓TwL0 hw, ↓TwS0 hw, ↓A_if, ↓A_jn, ↓A_lt, ↓A_rz, ↓A_rn, ↓A_nzi, ↓A_nzl, ↓A_nn1, ↓A_nn0, ↓reduceIte, true_and, and_true, if_true, if_false, ite_true, ite_false, reduceIte, tl_0, tl_1, tl_2, tl_3, tl_4, tl_5, tl_6, tl_7, tl_8, tl_9, tl_10, tl_11, tl_12, tl_13, tl_14, tl_15, tl_16, tl_17, tl_18, tl_19, tl_20, tl_21, tl_22, tl_23, tl_24, tl_25, tl_26, tl_27, tl_28, tl_29, tl_30, tl_31, tl_32, tl_33, tl_34, tl_35, tl_36, tl_37, tl_38, tl_39, tl_40, tl_41, tl_42, tl_43, tl_44, tl_45, tl_46, tl_47, tl_48, tl_49, tl_50, tl_51, tl_52, tl_53, tl_54, tl_57, tl_59, tl_60, tl_62, tl_63, tl_64, tl_97, tl_99, tl_100, tl_120, tl_122, tl_192, tl_193, tl_194, tl_195, tl_196, tl_255, tl_256, tl_299, tl_400, tl_401, tl_492, tl_493, tl_541, tl_849, tl_999, tl_1000, tl_1341, tl_1342, tl_1390, tl_2190, tl_5412, tl_5904, tl_9999, tl_12345, tl_32767, tl_65536, tl_1000000, tl_252645135, tl_858993459, tl_1103515245, tl_1431655765, nz_31, nz_c31, eq_self, or_true, true_or, or_false, false_or, Nat.add_zero, nz_lt, nz_le, nz_eq, nz_cl, nz_sub, nI_add, pk_mul, nt_lt, nf_lt, nf_eq, nz_mI, mI_eq, mI_eq', mI_lt, mI_gt, mI_add, ↓j_max, ↓j_min, Nat.sub_sub, Nat.reduceAdd, Nat.reduceSub, Nat.reduceLT, Nat.reduceEqDiff, Bool.false_eq_true]
    · simp (disch := omega) only [↓E3, ↓E4, g, ↓PaV0 hA, ↓PaG0_25 hA, ↓PaG0_26 hA, ↓PaG0_27 hA, ↓PaG0_28 hA, ↓PaI0_29 hA, ↓PaP0_29 hA, ↓PaZ0_29 hA, ↓PaI0_30 hA, ↓PaP0_30 hA, ↓PaZ0_30 hA, ↓PaI0_31 hA, ↓PaP0_31 hA, ↓PaZ0_31 hA, ↓PaL0 hA, ↓PaS0 hA, ↓PaL1 hA, ↓PaS1 hA, ↓TwV0 hw, ↓TwG0_54 hw, ↓TwI0_55 hw, ↓TwP0_55 hw, ↓TwZ0_55 hw, ↓TwL0 hw, ↓TwS0 hw, ↓A_if, ↓A_jn, ↓A_lt, ↓A_rz, ↓A_rn, ↓A_nzi, ↓A_nzl, ↓A_nn1, ↓A_nn0, ↓reduceIte, true_and, and_true, if_true, if_false, ite_true, ite_false, reduceIte, tl_0, tl_1, tl_2, tl_3, tl_4, tl_5, tl_6, tl_7, tl_8, tl_9, tl_10, tl_11, tl_12, tl_13, tl_14, tl_15, tl_16, tl_17, tl_18, tl_19, tl_20, tl_21, tl_22, tl_23, tl_24, tl_25, tl_26, tl_27, tl_28, tl_29, tl_30, tl_31, tl_32, tl_33, tl_34, tl_35, tl_36, tl_37, tl_38, tl_39, tl_40, tl_41, tl_42, tl_43, tl_44, tl_45, tl_46, tl_47, tl_48, tl_49, tl_50, tl_51, tl_52, tl_53, tl_54, tl_57, tl_59, tl_60, tl_62, tl_63, tl_64, tl_97, tl_99, tl_100, tl_120, tl_122, tl_192, tl_193, tl_194, tl_195, tl_196, tl_255, tl_256, tl_299, tl_400, tl_401, tl_492, tl_493, tl_541, tl_849, tl_999, tl_1000, tl_1341, tl_1342, tl_1390, tl_2190, tl_5412, tl_5904, tl_9999, tl_12345, tl_32767, tl_65536, tl_1000000, tl_252645135, tl_858993459, tl_1103515245, tl_1431655765, nz_31, nz_c31, eq_self, or_true, true_or, or_false, false_or, Nat.add_zero, nz_lt, nz_le, nz_eq, nz_cl, nz_sub, nI_add, pk_mul, nt_lt, nf_lt, nf_eq, nz_mI, mI_eq, mI_eq', mI_lt, mI_gt, mI_add, ↓j_max, ↓j_min, Nat.sub_sub, Nat.reduceAdd, Nat.reduceSub, Nat.reduceLT, Nat.reduceEqDiff, Bool.false_eq_true]
  · rintro μ2 ⟨⟨rg, h2⟩, F2⟩
    refine ⟨μ2, F2, fun k rec => ?_⟩
    simp (disch := omega) only [↓PaV0 hA, ↓PaG0_25 hA, ↓PaG0_26 hA, ↓PaG0_27 hA, ↓PaG0_28 hA, ↓PaI0_29 hA, ↓PaP0_29 hA, ↓PaZ0_29 hA, ↓PaI0_30 hA, ↓PaP0_30 hA, ↓PaZ0_30 hA, ↓PaI0_31 hA, ↓PaP0_31 hA, ↓PaZ0_31 hA, ↓PaL0 hA, ↓PaS0 hA, ↓PaL1 hA, ↓PaS1 hA, ↓TwV0 hw, ↓TwG0_54 hw, ↓TwI0_55 hw, ↓TwP0_55 hw, ↓TwZ0_55 hw, ↓TwL0 hw, ↓TwS0 hw, ↓A_if, ↓A_jn, ↓A_lt, ↓A_rz, ↓A_rn, ↓A_nzi, ↓A_nzl, ↓A_nn1, ↓A_nn0, ↓reduceIte, true_and, and_true, if_true, if_false, ite_true, ite_false, reduceIte, tl_0, tl_1, tl_2, tl_3, tl_4, tl_5, tl_6, tl_7, tl_8, tl_9, tl_10, tl_11, tl_12, tl_13, tl_14, tl_15, tl_16, tl_17, tl_18, tl_19, tl_20, tl_21, tl_22, tl_23, tl_24, tl_25, tl_26, tl_27, tl_28, tl_29, tl_30, tl_31, tl_32, tl_33, tl_34, tl_35, tl_36, tl_37, tl_38, tl_39, tl_40, tl_41, tl_42, tl_43, tl_44, tl_45, tl_46, tl_47, tl_48, tl_49, tl_50, tl_51, tl_52, tl_53, tl_54, tl_57, tl_59, tl_60, tl_62, tl_63, tl_64, tl_97, tl_99, tl_100, tl_120, tl_122, tl_192, tl_193, tl_194, tl_195, tl_196, tl_255, tl_256, tl_299, tl_400, tl_401, tl_492, tl_493, tl_541, tl_849, tl_999, tl_1000, tl_1341, tl_1342, tl_1390, tl_2190, tl_5412, tl_5904, tl_9999, tl_12345, tl_32767, tl_65536, tl_1000000, tl_252645135, tl_858993459, tl_1103515245, tl_1431655765, nz_31, nz_c31, eq_self, or_true, true_or, or_false, false_or, Nat.add_zero, nz_lt, nz_le, nz_eq, nz_cl, nz_sub, nI_add, pk_mul, nt_lt, nf_lt, nf_eq, nz_mI, mI_eq, mI_eq', mI_lt, mI_gt, mI_add, ↓j_max, ↓j_min, Nat.sub_sub, Nat.reduceAdd, Nat.reduceSub, Nat.reduceLT, Nat.reduceEqDiff, Bool.false_eq_true]
theorem c_at (hTa : tw_Ta sh (b + 1)) (e38 : μ (b + 1) 38 = nI e) (he : e ≤ 400) (hj : q < e) (k : Int32 → tw_Mem → Prop) : f_X6_at (b + 1) (nI q) k (sh, μ, la, n) = k (μ (b + 1 + 1) q) (sh, μ, la, n) := by
  simp (disch := omega) only [f_X6_at, e38, ↓TaV0 hTa, ↓TaG0_37 hTa, ↓TaI0_38 hTa, ↓TaP0_38 hTa, ↓TaZ0_38 hTa, ↓TaL0 hTa, ↓TaS0 hTa, ↓A_if, ↓A_jn, ↓A_lt, ↓A_rz, ↓A_rn, ↓A_nzi, ↓A_nzl, ↓A_nn1, ↓A_nn0, ↓reduceIte, true_and, and_true, if_true, if_false, ite_true, ite_false, reduceIte, tl_0, tl_1, tl_2, tl_3, tl_4, tl_5, tl_6, tl_7, tl_8, tl_9, tl_10, tl_11, tl_12, tl_13, tl_14, tl_15, tl_16, tl_17, tl_18, tl_19, tl_20, tl_21, tl_22, tl_23, tl_24, tl_25, tl_26, tl_27, tl_28, tl_29, tl_30, tl_31, tl_32, tl_33, tl_34, tl_35, tl_36, tl_37, tl_38, tl_39, tl_40, tl_41, tl_42, tl_43, tl_44, tl_45, tl_46, tl_47, tl_48, tl_49, tl_50, tl_51, tl_52, tl_53, tl_54, tl_57, tl_59, tl_60, tl_62, tl_63, tl_64, tl_97, tl_99, tl_100, tl_120, tl_122, tl_192, tl_193, tl_194, tl_195, tl_196, tl_255, tl_256, tl_299, tl_400, tl_401, tl_492, tl_493, tl_541, tl_849, tl_999, tl_1000, tl_1341, tl_1342, tl_1390, tl_2190, tl_5412, tl_5904, tl_9999, tl_12345, tl_32767, tl_65536, tl_1000000, tl_252645135, tl_858993459, tl_1103515245, tl_1431655765, nz_31, nz_c31, eq_self, or_true, true_or, or_false, false_or, Nat.add_zero, nz_lt, nz_le, nz_eq, nz_cl, nz_sub, nI_add, pk_mul, nt_lt, nf_lt, nf_eq, nz_mI, mI_eq, mI_eq', mI_lt, mI_gt, mI_add, ↓j_max, ↓j_min, Nat.sub_sub, Nat.reduceAdd, Nat.reduceSub, Nat.reduceLT, Nat.reduceEqDiff, Bool.false_eq_true]
theorem c_toldF (hA : tw_Pa sh b) (hTa : tw_Ta sh (b + 1)) (he : e ≤ 400) (e38 : μ (b + 1) 38 = nI e) (hB : ∀ q, q < e → B q < 256 ∧ μ (b + 1 + 1) q = nI (B q)) : ∃ μ', ((∀ y, y ≠ b + 154 → μ' y = μ y) ∧ (tw_told B e = true → μ' (b + 154) 30 = nI (tw_hd B (e / 2)) ∧ μ' (b + 154) 31 = nI (tw_uh B (e / 2)))) ∧ ∀ k, f_X4_takeTold (b + 154) (b + 1) k (sh, μ, la, n) = k (if tw_told B e = true then nI 1 else nI 0) (sh, μ', la, n) := by
  obtain ⟨μ0, e0⟩ : ∃ μ0, μ0 = tw_up (tw_up μ (b + 154) 30 (nI 0)) (b + 154) 31 (nI 0) := ⟨_, rfl⟩
  have F0 : ∀ y, y ≠ b + 154 → μ0 y = μ y := fun y hy => by rw [e0, tw_up_ne hy, tw_up_ne hy]
  have hn2 : ¬ nI 2 = 0 := by decide
  have hp : ∀ k : tw_Mem → Prop, tw_pi 30 (b + 154) (0 : Int32) (tw_pi 31 (b + 154) (0 : Int32) k) (sh, μ, la, n) = k (sh, μ0, la, n) := fun k => by
    rw [PaP0_30 hA, PaP0_31 hA, e0]
    rfl
  by_cases q1 : 40 < e
  · have et : ¬ tw_told B e = true := fun g => by
      unfold tw_told at g
      rw [Bool.and_eq_true, decide_eq_true_iff] at g
      omega
    refine ⟨μ0, ⟨F0, fun g => absurd g et⟩, fun k => ?_⟩
    have e39 : μ0 (b + 1) 38 = nI e := by rw [F0 _ (by omega)]; exact e38
    simp (disch := omega) only [f_X4_takeTold, f_X6_size, ↓hp, e39, q1, et, ↓PaV0 hA, ↓PaG0_25 hA, ↓PaG0_26 hA, ↓PaG0_27 hA, ↓PaG0_28 hA, ↓PaI0_29 hA, ↓PaP0_29 hA, ↓PaZ0_29 hA, ↓PaI0_30 hA, ↓PaP0_30 hA, ↓PaZ0_30 hA, ↓PaI0_31 hA, ↓PaP0_31 hA, ↓PaZ0_31 hA, ↓PaL0 hA, ↓PaS0 hA, ↓PaL1 hA, ↓PaS1 hA, ↓TaV0 hTa, ↓TaG0_37 hTa, ↓TaI0_38 hTa, ↓TaP0_38 hTa, ↓TaZ0_38 hTa, ↓TaL0 hTa, ↓TaS0 hTa, ↓A_if, ↓A_jn, ↓A_lt, ↓A_rz, ↓A_rn, ↓A_nzi, ↓A_nzl, ↓A_nn1, ↓A_nn0, ↓reduceIte, true_and, and_true, if_true, if_false, ite_true, ite_false, reduceIte, tl_0, tl_1, tl_2, tl_3, tl_4, tl_5, tl_6, tl_7, tl_8, tl_9, tl_10, tl_11, tl_12, tl_13, tl_14, tl_15, tl_16, tl_17, tl_18, tl_19, tl_20, tl_21, tl_22, tl_23, tl_24, tl_25, tl_26, tl_27, tl_28, tl_29, tl_30, tl_31, tl_32, tl_33, tl_34, tl_35, tl_36, tl_37, tl_38, tl_39, tl_40, tl_41, tl_42, tl_43, tl_44, tl_45, tl_46, tl_47, tl_48, tl_49, tl_50, tl_51, tl_52, tl_53, tl_54, tl_57, tl_59, tl_60, tl_62, tl_63, tl_64, tl_97, tl_99, tl_100, tl_120, tl_122, tl_192, tl_193, tl_194, tl_195, tl_196, tl_255, tl_256, tl_299, tl_400, tl_401, tl_492, tl_493, tl_541, tl_849, tl_999, tl_1000, tl_1341, tl_1342, tl_1390, tl_2190, tl_5412, tl_5904, tl_9999, tl_12345, tl_32767, tl_65536, tl_1000000, tl_252645135, tl_858993459, tl_1103515245, tl_1431655765, nz_31, nz_c31, eq_self, or_true, true_or, or_false, false_or, Nat.add_zero, nz_lt, nz_le, nz_eq, nz_cl, nz_sub, nI_add, pk_mul, nt_lt, nf_lt, nf_eq, nz_mI, mI_eq, mI_eq', mI_lt, mI_gt, mI_add, ↓j_max, ↓j_min, Nat.sub_sub, Nat.reduceAdd, Nat.reduceSub, Nat.reduceLT, Nat.reduceEqDiff, Bool.false_eq_true]
  · have er : nI e - nI e / nI 2 * nI 2 = nI (e % 2) := pk_rem (by omega) (by omega) (by omega)
    by_cases q2 : e % 2 = 0
    · have e39 : μ0 (b + 1) 38 = nI e := by rw [F0 _ (by omega)]; exact e38
      have hsz : ∀ k : Int32 → tw_Mem → Prop, f_X6_size (b + 1) k (sh, μ0, la, n) = k (nI e) (sh, μ0, la, n) := fun k => by
        simp (disch := omega) only [f_X6_size, e39, ↓TaV0 hTa, ↓TaG0_37 hTa, ↓TaI0_38 hTa, ↓TaP0_38 hTa, ↓TaZ0_38 hTa, ↓TaL0 hTa, ↓TaS0 hTa, ↓A_if, ↓A_jn, ↓A_lt, ↓A_rz, ↓A_rn, ↓A_nzi, ↓A_nzl, ↓A_nn1, ↓A_nn0, ↓reduceIte, true_and, and_true, if_true, if_false, ite_true, ite_false, reduceIte, tl_0, tl_1, tl_2, tl_3, tl_4, tl_5, tl_6, tl_7, tl_8, tl_9, tl_10, tl_11, tl_12, tl_13, tl_14, tl_15, tl_16, tl_17, tl_18, tl_19, tl_20, tl_21, tl_22, tl_23, tl_24, tl_25, tl_26, tl_27, tl_28, tl_29, tl_30, tl_31, tl_32, tl_33, tl_34, tl_35, tl_36, tl_37, tl_38, tl_39, tl_40, tl_41, tl_42, tl_43, tl_44, tl_45, tl_46, tl_47, tl_48, tl_49, tl_50, tl_51, tl_52, tl_53, tl_54, tl_57, tl_59, tl_60, tl_62, tl_63, tl_64, tl_97, tl_99, tl_100, tl_120, tl_122, tl_192, tl_193, tl_194, tl_195, tl_196, tl_255, tl_256, tl_299, tl_400, tl_401, tl_492, tl_493, tl_541, tl_849, tl_999, tl_1000, tl_1341, tl_1342, tl_1390, tl_2190, tl_5412, tl_5904, tl_9999, tl_12345, tl_32767, tl_65536, tl_1000000, tl_252645135, tl_858993459, tl_1103515245, tl_1431655765, nz_31, nz_c31, eq_self, or_true, true_or, or_false, false_or, Nat.add_zero, nz_lt, nz_le, nz_eq, nz_cl, nz_sub, nI_add, pk_mul, nt_lt, nf_lt, nf_eq, nz_mI, mI_eq, mI_eq', mI_lt, mI_gt, mI_add, ↓j_max, ↓j_min, Nat.sub_sub, Nat.reduceAdd, Nat.reduceSub, Nat.reduceLT, Nat.reduceEqDiff, Bool.false_eq_true]
      have et : tw_told B e = tw_tok B (e / 2) 0 := by
        unfold tw_told
        rw [decide_eq_true ⟨by omega, q2⟩, Bool.true_and]
      rw [et]
      have key : ∀ d i, i + d = e / 2 → ∀ μ1, (∀ y, y ≠ b + 154 → μ1 y = μ y) → μ1 (b + 154) 30 = nI (tw_hd B i) → μ1 (b + 154) 31 = nI (tw_uh B i) → ∃ μ', ((∀ y, y ≠ b + 154 → μ' y = μ y) ∧ (tw_tok B d i = true → μ' (b + 154) 30 = nI (tw_hd B (e / 2)) ∧ μ' (b + 154) 31 = nI (tw_uh B (e / 2)))) ∧ ∀ k : Int32 → tw_Mem → Prop, tw_lp (fun (r2 : Int32 → tw_Mem → Prop) (s3 : Int32) => tw_if (s3 < nI e) (tw_iv 6 (b + 1) (f_X6_at (b + 1) s3 (fun x4 => tw_iv 6 (b + 1) (f_X6_at (b + 1) (s3 + (1 : Int32)) (fun x5 => tw_if (x4 < 0) (tw_rz (0 : Int32) (k (0 : Int32))) (tw_if (x4 < (31 : Int32)) (tw_if (x5 < 0) (tw_rz (0 : Int32) (k (0 : Int32))) (tw_if ((1 : Int32) < x5) (tw_rz (0 : Int32) (k (0 : Int32))) (tw_jn (fun (s7 : Unit) => r2 (s3 + (2 : Int32))) (fun j6 => tw_if (x5 = (1 : Int32)) (tw_gi 30 (b + 154) fun x9 => tw_pi 30 (b + 154) (x9 ||| ((1 : Int32) <<< (x4 &&& 31))) (j6 ())) (tw_gi 31 (b + 154) fun x8 => tw_pi 31 (b + 154) (x8 ||| ((1 : Int32) <<< (x4 &&& 31))) (j6 ())))))) (tw_rz (0 : Int32) (k (0 : Int32))))))))) (tw_rz (1 : Int32) (k (1 : Int32)))) (nI (2 * i)) (sh, μ1, la, n) = k (if tw_tok B d i = true then nI 1 else nI 0) (sh, μ', la, n) := by
        intro d
        induction d with
        | zero =>
          intro i hi μ1 F1 g30 g31
          have ei : i = e / 2 := by omega
          subst ei
          have hlt : ¬ nI (2 * (e / 2)) < nI e := by rw [nz_lt (by omega) (by omega)]; omega
          refine ⟨μ1, ⟨F1, fun _ => ⟨g30, g31⟩⟩, fun k => tw_lp_exit (fun rec => ?_)⟩
          simp (disch := omega) only [hlt, tw_tok, ↓A_if, ↓A_jn, ↓A_lt, ↓A_rz, ↓A_rn, ↓A_nzi, ↓A_nzl, ↓A_nn1, ↓A_nn0, ↓reduceIte, true_and, and_true, if_true, if_false, ite_true, ite_false, reduceIte, tl_0, tl_1, tl_2, tl_3, tl_4, tl_5, tl_6, tl_7, tl_8, tl_9, tl_10, tl_11, tl_12, tl_13, tl_14, tl_15, tl_16, tl_17, tl_18, tl_19, tl_20, tl_21, tl_22, tl_23, tl_24, tl_25, tl_26, tl_27, tl_28, tl_29, tl_30, tl_31, tl_32, tl_33, tl_34, tl_35, tl_36, tl_37, tl_38, tl_39, tl_40, tl_41, tl_42, tl_43, tl_44, tl_45, tl_46, tl_47, tl_48, tl_49, tl_50, tl_51, tl_52, tl_53, tl_54, tl_57, tl_59, tl_60, tl_62, tl_63, tl_64, tl_97, tl_99, tl_100, tl_120, tl_122, tl_192, tl_193, tl_194, tl_195, tl_196, tl_255, tl_256, tl_299, tl_400, tl_401, tl_492, tl_493, tl_541, tl_849, tl_999, tl_1000, tl_1341, tl_1342, tl_1390, tl_2190, tl_5412, tl_5904, tl_9999, tl_12345, tl_32767, tl_65536, tl_1000000, tl_252645135, tl_858993459, tl_1103515245, tl_1431655765, nz_31, nz_c31, eq_self, or_true, true_or, or_false, false_or, Nat.add_zero, nz_lt, nz_le, nz_eq, nz_cl, nz_sub, nI_add, pk_mul, nt_lt, nf_lt, nf_eq, nz_mI, mI_eq, mI_eq', mI_lt, mI_gt, mI_add, ↓j_max, ↓j_min, Nat.sub_sub, Nat.reduceAdd, Nat.reduceSub, Nat.reduceLT, Nat.reduceEqDiff, Bool.false_eq_true]
        | succ d ih =>
          intro i hi μ1 F1 g30 g31
          have e40 : μ1 (b + 1) 38 = nI e := by rw [F1 _ (by omega)]; exact e38
          obtain ⟨hb1, hb2⟩ := hB (2 * i) (by omega)
          obtain ⟨hb3, hb4⟩ := hB (2 * i + 1) (by omega)
          have A1 := fun k => c_at (μ := μ1) (la := la) (n := n) (q := 2 * i) hTa e40 he (by omega) k
          have A2 := fun k => c_at (μ := μ1) (la := la) (n := n) (q := 2 * i + 1) hTa e40 he (by omega) k
          rw [F1 _ (by omega), hb2] at A1
          rw [F1 _ (by omega), hb4] at A2
          have et : tw_tok B (d + 1) i = (decide (B (2 * i) < 31 ∧ B (2 * i + 1) < 2) && tw_tok B d (i + 1)) := rfl
          have ehd : tw_hd B (i + 1) = if B (2 * i + 1) = 1 then tw_hd B i ||| 2 ^ B (2 * i) else tw_hd B i := rfl
          have euh : tw_uh B (i + 1) = if B (2 * i + 1) = 1 then tw_uh B i else tw_uh B i ||| 2 ^ B (2 * i) := rfl
          rw [et]
          generalize B (2 * i) = B1 at *
          generalize B (2 * i + 1) = B2 at *
          by_cases c1 : B1 < 31
          · have esh := tw_shW (p := B1) (by omega)
            by_cases c2 : B2 < 2
            · rw [decide_eq_true ⟨c1, c2⟩, Bool.true_and]
              have e2i : 2 * (i + 1) = 2 * i + 2 := by omega
              by_cases c3 : B2 = 1
              · rw [if_pos c3] at ehd euh
                obtain ⟨μ', hJ, E⟩ := ih (i + 1) (by omega) (tw_up μ1 (b + 154) 30 (nI (tw_hd B i ||| 2 ^ B1))) (fun y hy => by rw [tw_up_ne hy]; exact F1 y hy) (by rw [ehd]; exact tw_ua) (by rw [tw_uk (by omega), g31, euh])
                refine ⟨μ', hJ, fun k => ?_⟩
                rw [← E k, e2i]
                refine tw_lp_step (fun rec => ?_)
                subst c3
                simp (disch := omega) only [↓A1, ↓A2, c1, esh, g30, nI_or, ↓PaV0 hA, ↓PaG0_25 hA, ↓PaG0_26 hA, ↓PaG0_27 hA, ↓PaG0_28 hA, ↓PaI0_29 hA, ↓PaP0_29 hA, ↓PaZ0_29 hA, ↓PaI0_30 hA, ↓PaP0_30 hA, ↓PaZ0_30 hA, ↓PaI0_31 hA, ↓PaP0_31 hA, ↓PaZ0_31 hA, ↓PaL0 hA, ↓PaS0 hA, ↓PaL1 hA, ↓PaS1 hA, ↓TaV0 hTa, ↓TaG0_37 hTa, ↓TaI0_38 hTa, ↓TaP0_38 hTa, ↓TaZ0_38 hTa, ↓TaL0 hTa, ↓TaS0 hTa, ↓A_if, ↓A_jn, ↓A_lt, ↓A_rz, ↓A_rn, ↓A_nzi, ↓A_nzl, ↓A_nn1, ↓A_nn0, ↓reduceIte, true_and, and_true, if_true, if_false, ite_true, ite_false, reduceIte, tl_0, tl_1, tl_2, tl_3, tl_4, tl_5, tl_6, tl_7, tl_8, tl_9, tl_10, tl_11, tl_12, tl_13, tl_14, tl_15, tl_16, tl_17, tl_18, tl_19, tl_20, tl_21, tl_22, tl_23, tl_24, tl_25, tl_26, tl_27, tl_28, tl_29, tl_30, tl_31, tl_32, tl_33, tl_34, tl_35, tl_36, tl_37, tl_38, tl_39, tl_40, tl_41, tl_42, tl_43, tl_44, tl_45, tl_46, tl_47, tl_48, tl_49, tl_50, tl_51, tl_52, tl_53, tl_54, tl_57, tl_59, tl_60, tl_62, tl_63, tl_64, tl_97, tl_99, tl_100, tl_120, tl_122, tl_192, tl_193, tl_194, tl_195, tl_196, tl_255, tl_256, tl_299, tl_400, tl_401, tl_492, tl_493, tl_541, tl_849, tl_999, tl_1000, tl_1341, tl_1342, tl_1390, tl_2190, tl_5412, tl_5904, tl_9999, tl_12345, tl_32767, tl_65536, tl_1000000, tl_252645135, tl_858993459, tl_1103515245, tl_1431655765, nz_31, nz_c31, eq_self, or_true, true_or, or_false, false_or, Nat.add_zero, nz_lt, nz_le, nz_eq, nz_cl, nz_sub, nI_add, pk_mul, nt_lt, nf_lt, nf_eq, nz_mI, mI_eq, mI_eq', mI_lt, mI_gt, mI_add, ↓j_max, ↓j_min, Nat.sub_sub, Nat.reduceAdd, Nat.reduceSub, Nat.reduceLT, Nat.reduceEqDiff, Bool.false_eq_true]
              · rw [if_neg c3] at ehd euh
                have c4 : B2 = 0 := by omega
                obtain ⟨μ', hJ, E⟩ := ih (i + 1) (by omega) (tw_up μ1 (b + 154) 31 (nI (tw_uh B i ||| 2 ^ B1))) (fun y hy => by rw [tw_up_ne hy]; exact F1 y hy) (by rw [tw_uk (by omega), g30, ehd]) (by rw [euh]; exact tw_ua)
                refine ⟨μ', hJ, fun k => ?_⟩
                rw [← E k, e2i]
                refine tw_lp_step (fun rec => ?_)
                subst c4
                simp (disch := omega) only [↓A1, ↓A2, c1, esh, g31, nI_or, ↓PaV0 hA, ↓PaG0_25 hA, ↓PaG0_26 hA, ↓PaG0_27 hA, ↓PaG0_28 hA, ↓PaI0_29 hA, ↓PaP0_29 hA, ↓PaZ0_29 hA, ↓PaI0_30 hA, ↓PaP0_30 hA, ↓PaZ0_30 hA, ↓PaI0_31 hA, ↓PaP0_31 hA, ↓PaZ0_31 hA, ↓PaL0 hA, ↓PaS0 hA, ↓PaL1 hA, ↓PaS1 hA, ↓TaV0 hTa, ↓TaG0_37 hTa, ↓TaI0_38 hTa, ↓TaP0_38 hTa, ↓TaZ0_38 hTa, ↓TaL0 hTa, ↓TaS0 hTa, ↓A_if, ↓A_jn, ↓A_lt, ↓A_rz, ↓A_rn, ↓A_nzi, ↓A_nzl, ↓A_nn1, ↓A_nn0, ↓reduceIte, true_and, and_true, if_true, if_false, ite_true, ite_false, reduceIte, tl_0, tl_1, tl_2, tl_3, tl_4, tl_5, tl_6, tl_7, tl_8, tl_9, tl_10, tl_11, tl_12, tl_13, tl_14, tl_15, tl_16, tl_17, tl_18, tl_19, tl_20, tl_21, tl_22, tl_23, tl_24, tl_25, tl_26, tl_27, tl_28, tl_29, tl_30, tl_31, tl_32, tl_33, tl_34, tl_35, tl_36, tl_37, tl_38, tl_39, tl_40, tl_41, tl_42, tl_43, tl_44, tl_45, tl_46, tl_47, tl_48, tl_49, tl_50, tl_51, tl_52, tl_53, tl_54, tl_57, tl_59, tl_60, tl_62, tl_63, tl_64, tl_97, tl_99, tl_100, tl_120, tl_122, tl_192, tl_193, tl_194, tl_195, tl_196, tl_255, tl_256, tl_299, tl_400, tl_401, tl_492, tl_493, tl_541, tl_849, tl_999, tl_1000, tl_1341, tl_1342, tl_1390, tl_2190, tl_5412, tl_5904, tl_9999, tl_12345, tl_32767, tl_65536, tl_1000000, tl_252645135, tl_858993459, tl_1103515245, tl_1431655765, nz_31, nz_c31, eq_self, or_true, true_or, or_false, false_or, Nat.add_zero, nz_lt, nz_le, nz_eq, nz_cl, nz_sub, nI_add, pk_mul, nt_lt, nf_lt, nf_eq, nz_mI, mI_eq, mI_eq', mI_lt, mI_gt, mI_add, ↓j_max, ↓j_min, Nat.sub_sub, Nat.reduceAdd, Nat.reduceSub, Nat.reduceLT, Nat.reduceEqDiff, Bool.false_eq_true]
            · rw [decide_eq_false (fun g => c2 g.2), Bool.false_and]
              refine ⟨μ1, ⟨F1, fun g => by cases g⟩, fun k => tw_lp_exit (fun rec => ?_)⟩
              have c5 : 1 < B2 := by omega
              simp (disch := omega) only [↓A1, ↓A2, c1, c5, ↓PaV0 hA, ↓PaG0_25 hA, ↓PaG0_26 hA, ↓PaG0_27 hA, ↓PaG0_28 hA, ↓PaI0_29 hA, ↓PaP0_29 hA, ↓PaZ0_29 hA, ↓PaI0_30 hA, ↓PaP0_30 hA, ↓PaZ0_30 hA, ↓PaI0_31 hA, ↓PaP0_31 hA, ↓PaZ0_31 hA, ↓PaL0 hA, ↓PaS0 hA, ↓PaL1 hA, ↓PaS1 hA, ↓TaV0 hTa, ↓TaG0_37 hTa, ↓TaI0_38 hTa, ↓TaP0_38 hTa, ↓TaZ0_38 hTa, ↓TaL0 hTa, ↓TaS0 hTa, ↓A_if, ↓A_jn, ↓A_lt, ↓A_rz, ↓A_rn, ↓A_nzi, ↓A_nzl, ↓A_nn1, ↓A_nn0, ↓reduceIte, true_and, and_true, if_true, if_false, ite_true, ite_false, reduceIte, tl_0, tl_1, tl_2, tl_3, tl_4, tl_5, tl_6, tl_7, tl_8, tl_9, tl_10, tl_11, tl_12, tl_13, tl_14, tl_15, tl_16, tl_17, tl_18, tl_19, tl_20, tl_21, tl_22, tl_23, tl_24, tl_25, tl_26, tl_27, tl_28, tl_29, tl_30, tl_31, tl_32, tl_33, tl_34, tl_35, tl_36, tl_37, tl_38, tl_39, tl_40, tl_41, tl_42, tl_43, tl_44, tl_45, tl_46, tl_47, tl_48, tl_49, tl_50, tl_51, tl_52, tl_53, tl_54, tl_57, tl_59, tl_60, tl_62, tl_63, tl_64, tl_97, tl_99, tl_100, tl_120, tl_122, tl_192, tl_193, tl_194, tl_195, tl_196, tl_255, tl_256, tl_299, tl_400, tl_401, tl_492, tl_493, tl_541, tl_849, tl_999, tl_1000, tl_1341, tl_1342, tl_1390, tl_2190, tl_5412, tl_5904, tl_9999, tl_12345, tl_32767, tl_65536, tl_1000000, tl_252645135, tl_858993459, tl_1103515245, tl_1431655765, nz_31, nz_c31, eq_self, or_true, true_or, or_false, false_or, Nat.add_zero, nz_lt, nz_le, nz_eq, nz_cl, nz_sub, nI_add, pk_mul, nt_lt, nf_lt, nf_eq, nz_mI, mI_eq, mI_eq', mI_lt, mI_gt, mI_add, ↓j_max, ↓j_min, Nat.sub_sub, Nat.reduceAdd, Nat.reduceSub, Nat.reduceLT, Nat.reduceEqDiff, Bool.false_eq_true]
          · rw [decide_eq_false (fun g => c1 g.1), Bool.false_and]
            refine ⟨μ1, ⟨F1, fun g => by cases g⟩, fun k => tw_lp_exit (fun rec => ?_)⟩
            simp (disch := omega) only [↓A1, ↓A2, c1, ↓PaV0 hA, ↓PaG0_25 hA, ↓PaG0_26 hA, ↓PaG0_27 hA, ↓PaG0_28 hA, ↓PaI0_29 hA, ↓PaP0_29 hA, ↓PaZ0_29 hA, ↓PaI0_30 hA, ↓PaP0_30 hA, ↓PaZ0_30 hA, ↓PaI0_31 hA, ↓PaP0_31 hA, ↓PaZ0_31 hA, ↓PaL0 hA, ↓PaS0 hA, ↓PaL1 hA, ↓PaS1 hA, ↓TaV0 hTa, ↓TaG0_37 hTa, ↓TaI0_38 hTa, ↓TaP0_38 hTa, ↓TaZ0_38 hTa, ↓TaL0 hTa, ↓TaS0 hTa, ↓A_if, ↓A_jn, ↓A_lt, ↓A_rz, ↓A_rn, ↓A_nzi, ↓A_nzl, ↓A_nn1, ↓A_nn0, ↓reduceIte, true_and, and_true, if_true, if_false, ite_true, ite_false, reduceIte, tl_0, tl_1, tl_2, tl_3, tl_4, tl_5, tl_6, tl_7, tl_8, tl_9, tl_10, tl_11, tl_12, tl_13, tl_14, tl_15, tl_16, tl_17, tl_18, tl_19, tl_20, tl_21, tl_22, tl_23, tl_24, tl_25, tl_26, tl_27, tl_28, tl_29, tl_30, tl_31, tl_32, tl_33, tl_34, tl_35, tl_36, tl_37, tl_38, tl_39, tl_40, tl_41, tl_42, tl_43, tl_44, tl_45, tl_46, tl_47, tl_48, tl_49, tl_50, tl_51, tl_52, tl_53, tl_54, tl_57, tl_59, tl_60, tl_62, tl_63, tl_64, tl_97, tl_99, tl_100, tl_120, tl_122, tl_192, tl_193, tl_194, tl_195, tl_196, tl_255, tl_256, tl_299, tl_400, tl_401, tl_492, tl_493, tl_541, tl_849, tl_999, tl_1000, tl_1341, tl_1342, tl_1390, tl_2190, tl_5412, tl_5904, tl_9999, tl_12345, tl_32767, tl_65536, tl_1000000, tl_252645135, tl_858993459, tl_1103515245, tl_1431655765, nz_31, nz_c31, eq_self, or_true, true_or, or_false, false_or, Nat.add_zero, nz_lt, nz_le, nz_eq, nz_cl, nz_sub, nI_add, pk_mul, nt_lt, nf_lt, nf_eq, nz_mI, mI_eq, mI_eq', mI_lt, mI_gt, mI_add, ↓j_max, ↓j_min, Nat.sub_sub, Nat.reduceAdd, Nat.reduceSub, Nat.reduceLT, Nat.reduceEqDiff, Bool.false_eq_true]
      obtain ⟨μ', hJ, E⟩ := key (e / 2) 0 (by omega) μ0 F0 (by rw [e0, tw_uk (by omega)]; exact tw_ua) (by rw [e0]; exact tw_ua)
      refine ⟨μ', hJ, fun k => ?_⟩
      rw [← E k]
      simp (disch := omega) only [f_X4_takeTold, ↓hsz, ↓hp, q1, er, q2, hn2, Nat.mul_zero, not_false_eq_true, ↓PaV0 hA, ↓PaG0_25 hA, ↓PaG0_26 hA, ↓PaG0_27 hA, ↓PaG0_28 hA, ↓PaI0_29 hA, ↓PaP0_29 hA, ↓PaZ0_29 hA, ↓PaI0_30 hA, ↓PaP0_30 hA, ↓PaZ0_30 hA, ↓PaI0_31 hA, ↓PaP0_31 hA, ↓PaZ0_31 hA, ↓PaL0 hA, ↓PaS0 hA, ↓PaL1 hA, ↓PaS1 hA, ↓TaV0 hTa, ↓TaG0_37 hTa, ↓TaI0_38 hTa, ↓TaP0_38 hTa, ↓TaZ0_38 hTa, ↓TaL0 hTa, ↓TaS0 hTa, ↓A_if, ↓A_jn, ↓A_lt, ↓A_rz, ↓A_rn, ↓A_nzi, ↓A_nzl, ↓A_nn1, ↓A_nn0, ↓reduceIte, true_and, and_true, if_true, if_false, ite_true, ite_false, reduceIte, tl_0, tl_1, tl_2, tl_3, tl_4, tl_5, tl_6, tl_7, tl_8, tl_9, tl_10, tl_11, tl_12, tl_13, tl_14, tl_15, tl_16, tl_17, tl_18, tl_19, tl_20, tl_21, tl_22, tl_23, tl_24, tl_25, tl_26, tl_27, tl_28, tl_29, tl_30, tl_31, tl_32, tl_33, tl_34, tl_35, tl_36, tl_37, tl_38, tl_39, tl_40, tl_41, tl_42, tl_43, tl_44, tl_45, tl_46, tl_47, tl_48, tl_49, tl_50, tl_51, tl_52, tl_53, tl_54, tl_57, tl_59, tl_60, tl_62, tl_63, tl_64, tl_97, tl_99, tl_100, tl_120, tl_122, tl_192, tl_193, tl_194, tl_195, tl_196, tl_255, tl_256, tl_299, tl_400, tl_401, tl_492, tl_493, tl_541, tl_849, tl_999, tl_1000, tl_1341, tl_1342, tl_1390, tl_2190, tl_5412, tl_5904, tl_9999, tl_12345, tl_32767, tl_65536, tl_1000000, tl_252645135, tl_858993459, tl_1103515245, tl_1431655765, nz_31, nz_c31, eq_self, or_true, true_or, or_false, false_or, Nat.add_zero, nz_lt, nz_le, nz_eq, nz_cl, nz_sub, nI_add, pk_mul, nt_lt, nf_lt, nf_eq, nz_mI, mI_eq, mI_eq', mI_lt, mI_gt, mI_add, ↓j_max, ↓j_min, Nat.sub_sub, Nat.reduceAdd, Nat.reduceSub, Nat.reduceLT, Nat.reduceEqDiff, Bool.false_eq_true]
    · have et : ¬ tw_told B e = true := fun g => by
        unfold tw_told at g
        rw [Bool.and_eq_true, decide_eq_true_iff] at g
        omega
      refine ⟨μ0, ⟨F0, fun g => absurd g et⟩, fun k => ?_⟩
      have e39 : μ0 (b + 1) 38 = nI e := by rw [F0 _ (by omega)]; exact e38
      have q3 : e % 2 = 1 := by omega
      simp (disch := omega) only [f_X4_takeTold, f_X6_size, ↓hp, e39, q1, er, q3, hn2, et, not_false_eq_true, ↓PaV0 hA, ↓PaG0_25 hA, ↓PaG0_26 hA, ↓PaG0_27 hA, ↓PaG0_28 hA, ↓PaI0_29 hA, ↓PaP0_29 hA, ↓PaZ0_29 hA, ↓PaI0_30 hA, ↓PaP0_30 hA, ↓PaZ0_30 hA, ↓PaI0_31 hA, ↓PaP0_31 hA, ↓PaZ0_31 hA, ↓PaL0 hA, ↓PaS0 hA, ↓PaL1 hA, ↓PaS1 hA, ↓TaV0 hTa, ↓TaG0_37 hTa, ↓TaI0_38 hTa, ↓TaP0_38 hTa, ↓TaZ0_38 hTa, ↓TaL0 hTa, ↓TaS0 hTa, ↓A_if, ↓A_jn, ↓A_lt, ↓A_rz, ↓A_rn, ↓A_nzi, ↓A_nzl, ↓A_nn1, ↓A_nn0, ↓reduceIte, true_and, and_true, if_true, if_false, ite_true, ite_false, reduceIte, tl_0, tl_1, tl_2, tl_3, tl_4, tl_5, tl_6, tl_7, tl_8, tl_9, tl_10, tl_11, tl_12, tl_13, tl_14, tl_15, tl_16, tl_17, tl_18, tl_19, tl_20, tl_21, tl_22, tl_23, tl_24, tl_25, tl_26, tl_27, tl_28, tl_29, tl_30, tl_31, tl_32, tl_33, tl_34, tl_35, tl_36, tl_37, tl_38, tl_39, tl_40, tl_41, tl_42, tl_43, tl_44, tl_45, tl_46, tl_47, tl_48, tl_49, tl_50, tl_51, tl_52, tl_53, tl_54, tl_57, tl_59, tl_60, tl_62, tl_63, tl_64, tl_97, tl_99, tl_100, tl_120, tl_122, tl_192, tl_193, tl_194, tl_195, tl_196, tl_255, tl_256, tl_299, tl_400, tl_401, tl_492, tl_493, tl_541, tl_849, tl_999, tl_1000, tl_1341, tl_1342, tl_1390, tl_2190, tl_5412, tl_5904, tl_9999, tl_12345, tl_32767, tl_65536, tl_1000000, tl_252645135, tl_858993459, tl_1103515245, tl_1431655765, nz_31, nz_c31, eq_self, or_true, true_or, or_false, false_or, Nat.add_zero, nz_lt, nz_le, nz_eq, nz_cl, nz_sub, nI_add, pk_mul, nt_lt, nf_lt, nf_eq, nz_mI, mI_eq, mI_eq', mI_lt, mI_gt, mI_add, ↓j_max, ↓j_min, Nat.sub_sub, Nat.reduceAdd, Nat.reduceSub, Nat.reduceLT, Nat.reduceEqDiff, Bool.false_eq_true]
theorem m_toldF (hM : tw_Mo sh m) (he : e ≤ 400) (e81 : μ m 81 = nI e) (hB : ∀ q, q < e → B q < 256 ∧ μ (m + 6) q = vp_nar .byte (nI (B q))) (k : Int32 → tw_Mem → Prop) : f_X12_isTold m k (sh, μ, la, n) = k (if tw_told B e = true then nI 1 else nI 0) (sh, μ, la, n) := by
  have hn2 : ¬ nI 2 = 0 := by decide
  have er : nI e - nI e / nI 2 * nI 2 = nI (e % 2) := pk_rem (by omega) (by omega) (by omega)
  have stop : ∀ i, tw_lp (fun (r4 : Int32 × Int32 → tw_Mem → Prop) (s5 : Int32 × Int32) => tw_gi 81 m fun x6 => tw_if (s5.2 < x6) (tw_if (s5.1 = 0) (tw_rz s5.1 (k s5.1)) (tw_gr 78 m fun x7 => tw_lb x7 s5.2 fun x8 => f_X12_in x8 (0 : Int32) (30 : Int32) (fun x9 => tw_jn (fun (s11 : Int32) => r4 (s11, s5.2 + (2 : Int32))) (fun j10 => tw_jn (fun (s13 : Unit) => j10 (0 : Int32)) (fun j12 => tw_if (x9 = 0) (j12 ()) (tw_gr 78 m fun x14 => tw_lb x14 (s5.2 + (1 : Int32)) fun x15 => f_X12_in x15 (0 : Int32) (1 : Int32) (fun x16 => tw_if (x16 = 0) (j12 ()) (j10 (1 : Int32))))))))) (tw_rz s5.1 (k s5.1))) (nI 0, i) (sh, μ, la, n) = k (nI 0) (sh, μ, la, n) := by
    intro i
    refine tw_lp_exit (fun rec => ?_)
    by_cases q : i < nI e <;> simp (disch := omega) only [e81, q, ↓MoV0 hM, ↓MoI0_70 hM, ↓MoP0_70 hM, ↓MoZ0_70 hM, ↓MoG0_71 hM, ↓MoG0_72 hM, ↓MoG0_73 hM, ↓MoG0_74 hM, ↓MoG0_75 hM, ↓MoI0_76 hM, ↓MoP0_76 hM, ↓MoZ0_76 hM, ↓MoI0_77 hM, ↓MoP0_77 hM, ↓MoZ0_77 hM, ↓MoG0_78 hM, ↓MoI0_79 hM, ↓MoP0_79 hM, ↓MoZ0_79 hM, ↓MoI0_80 hM, ↓MoP0_80 hM, ↓MoZ0_80 hM, ↓MoI0_81 hM, ↓MoP0_81 hM, ↓MoZ0_81 hM, ↓MoI0_82 hM, ↓MoP0_82 hM, ↓MoZ0_82 hM, ↓MoI0_83 hM, ↓MoP0_83 hM, ↓MoZ0_83 hM, ↓MoI0_84 hM, ↓MoP0_84 hM, ↓MoZ0_84 hM, ↓MoG0_85 hM, ↓MoI0_86 hM, ↓MoP0_86 hM, ↓MoZ0_86 hM, ↓MoG0_87 hM, ↓MoI0_88 hM, ↓MoP0_88 hM, ↓MoZ0_88 hM, ↓MoG0_89 hM, ↓MoG0_90 hM, ↓MoG0_91 hM, ↓MoG0_92 hM, ↓MoL0 hM, ↓MoS0 hM, ↓MoL1 hM, ↓MoS1 hM, ↓MoL2 hM, ↓MoS2 hM, ↓MoL3 hM, ↓MoS3 hM, ↓MoL4 hM, ↓MoS4 hM, ↓MoL5 hM, ↓MoS5 hM, ↓MoL6 hM, ↓MoS6 hM, ↓MoL7 hM, ↓MoS7 hM, ↓MoL8 hM, ↓MoS8 hM, ↓MoL9 hM, ↓MoS9 hM, ↓MoL10 hM, ↓MoS10 hM, ↓MoL11 hM, ↓MoS11 hM, ↓A_if, ↓A_jn, ↓A_lt, ↓A_rz, ↓A_rn, ↓A_nzi, ↓A_nzl, ↓A_nn1, ↓A_nn0, ↓reduceIte, true_and, and_true, if_true, if_false, ite_true, ite_false, reduceIte, tl_0, tl_1, tl_2, tl_3, tl_4, tl_5, tl_6, tl_7, tl_8, tl_9, tl_10, tl_11, tl_12, tl_13, tl_14, tl_15, tl_16, tl_17, tl_18, tl_19, tl_20, tl_21, tl_22, tl_23, tl_24, tl_25, tl_26, tl_27, tl_28, tl_29, tl_30, tl_31, tl_32, tl_33, tl_34, tl_35, tl_36, tl_37, tl_38, tl_39, tl_40, tl_41, tl_42, tl_43, tl_44, tl_45, tl_46, tl_47, tl_48, tl_49, tl_50, tl_51, tl_52, tl_53, tl_54, tl_57, tl_59, tl_60, tl_62, tl_63, tl_64, tl_97, tl_99, tl_100, tl_120, tl_122, tl_192, tl_193, tl_194, tl_195, tl_196, tl_255, tl_256, tl_299, tl_400, tl_401, tl_492, tl_493, tl_541, tl_849, tl_999, tl_1000, tl_1341, tl_1342, tl_1390, tl_2190, tl_5412, tl_5904, tl_9999, tl_12345, tl_32767, tl_65536, tl_1000000, tl_252645135, tl_858993459, tl_1103515245, tl_1431655765, nz_31, nz_c31, eq_self, or_true, true_or, or_false, false_or, Nat.add_zero, nz_lt, nz_le, nz_eq, nz_cl, nz_sub, nI_add, pk_mul, nt_lt, nf_lt, nf_eq, nz_mI, mI_eq, mI_eq', mI_lt, mI_gt, mI_add, ↓j_max, ↓j_min, Nat.sub_sub, Nat.reduceAdd, Nat.reduceSub, Nat.reduceLT, Nat.reduceEqDiff, Bool.false_eq_true]
  have key : ∀ d i, i + d = e / 2 → e % 2 = 0 → tw_lp (fun (r4 : Int32 × Int32 → tw_Mem → Prop) (s5 : Int32 × Int32) => tw_gi 81 m fun x6 => tw_if (s5.2 < x6) (tw_if (s5.1 = 0) (tw_rz s5.1 (k s5.1)) (tw_gr 78 m fun x7 => tw_lb x7 s5.2 fun x8 => f_X12_in x8 (0 : Int32) (30 : Int32) (fun x9 => tw_jn (fun (s11 : Int32) => r4 (s11, s5.2 + (2 : Int32))) (fun j10 => tw_jn (fun (s13 : Unit) => j10 (0 : Int32)) (fun j12 => tw_if (x9 = 0) (j12 ()) (tw_gr 78 m fun x14 => tw_lb x14 (s5.2 + (1 : Int32)) fun x15 => f_X12_in x15 (0 : Int32) (1 : Int32) (fun x16 => tw_if (x16 = 0) (j12 ()) (j10 (1 : Int32))))))))) (tw_rz s5.1 (k s5.1))) (nI 1, nI (2 * i)) (sh, μ, la, n) = k (if tw_tok B d i = true then nI 1 else nI 0) (sh, μ, la, n) := by
    intro d
    induction d with
    | zero =>
      intro i hi h2
      have hlt : ¬ nI (2 * i) < nI e := by rw [nz_lt (by omega) (by omega)]; omega
      refine tw_lp_exit (fun rec => ?_)
      simp (disch := omega) only [e81, hlt, tw_tok, ↓MoV0 hM, ↓MoI0_70 hM, ↓MoP0_70 hM, ↓MoZ0_70 hM, ↓MoG0_71 hM, ↓MoG0_72 hM, ↓MoG0_73 hM, ↓MoG0_74 hM, ↓MoG0_75 hM, ↓MoI0_76 hM, ↓MoP0_76 hM, ↓MoZ0_76 hM, ↓MoI0_77 hM, ↓MoP0_77 hM, ↓MoZ0_77 hM, ↓MoG0_78 hM, ↓MoI0_79 hM, ↓MoP0_79 hM, ↓MoZ0_79 hM, ↓MoI0_80 hM, ↓MoP0_80 hM, ↓MoZ0_80 hM, ↓MoI0_81 hM, ↓MoP0_81 hM, ↓MoZ0_81 hM, ↓MoI0_82 hM, ↓MoP0_82 hM, ↓MoZ0_82 hM, ↓MoI0_83 hM, ↓MoP0_83 hM, ↓MoZ0_83 hM, ↓MoI0_84 hM, ↓MoP0_84 hM, ↓MoZ0_84 hM, ↓MoG0_85 hM, ↓MoI0_86 hM, ↓MoP0_86 hM, ↓MoZ0_86 hM, ↓MoG0_87 hM, ↓MoI0_88 hM, ↓MoP0_88 hM, ↓MoZ0_88 hM, ↓MoG0_89 hM, ↓MoG0_90 hM, ↓MoG0_91 hM, ↓MoG0_92 hM, ↓MoL0 hM, ↓MoS0 hM, ↓MoL1 hM, ↓MoS1 hM, ↓MoL2 hM, ↓MoS2 hM, ↓MoL3 hM, ↓MoS3 hM, ↓MoL4 hM, ↓MoS4 hM, ↓MoL5 hM, ↓MoS5 hM, ↓MoL6 hM, ↓MoS6 hM, ↓MoL7 hM, ↓MoS7 hM, ↓MoL8 hM, ↓MoS8 hM, ↓MoL9 hM, ↓MoS9 hM, ↓MoL10 hM, ↓MoS10 hM, ↓MoL11 hM, ↓MoS11 hM, ↓A_if, ↓A_jn, ↓A_lt, ↓A_rz, ↓A_rn, ↓A_nzi, ↓A_nzl, ↓A_nn1, ↓A_nn0, ↓reduceIte, true_and, and_true, if_true, if_false, ite_true, ite_false, reduceIte, tl_0, tl_1, tl_2, tl_3, tl_4, tl_5, tl_6, tl_7, tl_8, tl_9, tl_10, tl_11, tl_12, tl_13, tl_14, tl_15, tl_16, tl_17, tl_18, tl_19, tl_20, tl_21, tl_22, tl_23, tl_24, tl_25, tl_26, tl_27, tl_28, tl_29, tl_30, tl_31, tl_32, tl_33, tl_34, tl_35, tl_36, tl_37, tl_38, tl_39, tl_40, tl_41, tl_42, tl_43, tl_44, tl_45, tl_46, tl_47, tl_48, tl_49, tl_50, tl_51, tl_52, tl_53, tl_54, tl_57, tl_59, tl_60, tl_62, tl_63, tl_64, tl_97, tl_99, tl_100, tl_120, tl_122, tl_192, tl_193, tl_194, tl_195, tl_196, tl_255, tl_256, tl_299, tl_400, tl_401, tl_492, tl_493, tl_541, tl_849, tl_999, tl_1000, tl_1341, tl_1342, tl_1390, tl_2190, tl_5412, tl_5904, tl_9999, tl_12345, tl_32767, tl_65536, tl_1000000, tl_252645135, tl_858993459, tl_1103515245, tl_1431655765, nz_31, nz_c31, eq_self, or_true, true_or, or_false, false_or, Nat.add_zero, nz_lt, nz_le, nz_eq, nz_cl, nz_sub, nI_add, pk_mul, nt_lt, nf_lt, nf_eq, nz_mI, mI_eq, mI_eq', mI_lt, mI_gt, mI_add, ↓j_max, ↓j_min, Nat.sub_sub, Nat.reduceAdd, Nat.reduceSub, Nat.reduceLT, Nat.reduceEqDiff, Bool.false_eq_true]
    | succ d ih =>
      intro i hi h2
      obtain ⟨hb1, hb2⟩ := hB (2 * i) (by omega)
      obtain ⟨hb3, hb4⟩ := hB (2 * i + 1) (by omega)
      have v1 := (tw_narA _ hb1).1
      have v2 := (tw_narA _ hb3).2
      have et : tw_tok B (d + 1) i = (decide (B (2 * i) < 31 ∧ B (2 * i + 1) < 2) && tw_tok B d (i + 1)) := rfl
      have e2i : 2 * (i + 1) = 2 * i + 2 := by omega
      have ih := ih (i + 1) (by omega) h2
      rw [e2i] at ih
      rw [et]
      by_cases c1 : B (2 * i) < 31
      · by_cases c2 : B (2 * i + 1) < 2
        · rw [decide_eq_true ⟨c1, c2⟩, Bool.true_and, ← ih]
          refine tw_lp_step (fun rec => ?_)
          rw [decide_eq_true c1] at v1
          rw [decide_eq_true c2] at v2
          simp (disch := omega) only [e81, hb2, hb4, ↓m_inR, v1, v2, ↓MoV0 hM, ↓MoI0_70 hM, ↓MoP0_70 hM, ↓MoZ0_70 hM, ↓MoG0_71 hM, ↓MoG0_72 hM, ↓MoG0_73 hM, ↓MoG0_74 hM, ↓MoG0_75 hM, ↓MoI0_76 hM, ↓MoP0_76 hM, ↓MoZ0_76 hM, ↓MoI0_77 hM, ↓MoP0_77 hM, ↓MoZ0_77 hM, ↓MoG0_78 hM, ↓MoI0_79 hM, ↓MoP0_79 hM, ↓MoZ0_79 hM, ↓MoI0_80 hM, ↓MoP0_80 hM, ↓MoZ0_80 hM, ↓MoI0_81 hM, ↓MoP0_81 hM, ↓MoZ0_81 hM, ↓MoI0_82 hM, ↓MoP0_82 hM, ↓MoZ0_82 hM, ↓MoI0_83 hM, ↓MoP0_83 hM, ↓MoZ0_83 hM, ↓MoI0_84 hM, ↓MoP0_84 hM, ↓MoZ0_84 hM, ↓MoG0_85 hM, ↓MoI0_86 hM, ↓MoP0_86 hM, ↓MoZ0_86 hM, ↓MoG0_87 hM, ↓MoI0_88 hM, ↓MoP0_88 hM, ↓MoZ0_88 hM, ↓MoG0_89 hM, ↓MoG0_90 hM, ↓MoG0_91 hM, ↓MoG0_92 hM, ↓MoL0 hM, ↓MoS0 hM, ↓MoL1 hM, ↓MoS1 hM, ↓MoL2 hM, ↓MoS2 hM, ↓MoL3 hM, ↓MoS3 hM, ↓MoL4 hM, ↓MoS4 hM, ↓MoL5 hM, ↓MoS5 hM, ↓MoL6 hM, ↓MoS6 hM, ↓MoL7 hM, ↓MoS7 hM, ↓MoL8 hM, ↓MoS8 hM, ↓MoL9 hM, ↓MoS9 hM, ↓MoL10 hM, ↓MoS10 hM, ↓MoL11 hM, ↓MoS11 hM, ↓A_if, ↓A_jn, ↓A_lt, ↓A_rz, ↓A_rn, ↓A_nzi, ↓A_nzl, ↓A_nn1, ↓A_nn0, ↓reduceIte, true_and, and_true, if_true, if_false, ite_true, ite_false, reduceIte, tl_0, tl_1, tl_2, tl_3, tl_4, tl_5, tl_6, tl_7, tl_8, tl_9, tl_10, tl_11, tl_12, tl_13, tl_14, tl_15, tl_16, tl_17, tl_18, tl_19, tl_20, tl_21, tl_22, tl_23, tl_24, tl_25, tl_26, tl_27, tl_28, tl_29, tl_30, tl_31, tl_32, tl_33, tl_34, tl_35, tl_36, tl_37, tl_38, tl_39, tl_40, tl_41, tl_42, tl_43, tl_44, tl_45, tl_46, tl_47, tl_48, tl_49, tl_50, tl_51, tl_52, tl_53, tl_54, tl_57, tl_59, tl_60, tl_62, tl_63, tl_64, tl_97, tl_99, tl_100, tl_120, tl_122, tl_192, tl_193, tl_194, tl_195, tl_196, tl_255, tl_256, tl_299, tl_400, tl_401, tl_492, tl_493, tl_541, tl_849, tl_999, tl_1000, tl_1341, tl_1342, tl_1390, tl_2190, tl_5412, tl_5904, tl_9999, tl_12345, tl_32767, tl_65536, tl_1000000, tl_252645135, tl_858993459, tl_1103515245, tl_1431655765, nz_31, nz_c31, eq_self, or_true, true_or, or_false, false_or, Nat.add_zero, nz_lt, nz_le, nz_eq, nz_cl, nz_sub, nI_add, pk_mul, nt_lt, nf_lt, nf_eq, nz_mI, mI_eq, mI_eq', mI_lt, mI_gt, mI_add, ↓j_max, ↓j_min, Nat.sub_sub, Nat.reduceAdd, Nat.reduceSub, Nat.reduceLT, Nat.reduceEqDiff, Bool.false_eq_true]
        · rw [decide_eq_false (fun g => c2 g.2), Bool.false_and, if_neg (by decide), ← stop (nI (2 * i + 2))]
          refine tw_lp_step (fun rec => ?_)
          rw [decide_eq_true c1] at v1
          rw [decide_eq_false c2] at v2
          simp (disch := omega) only [e81, hb2, hb4, ↓m_inR, v1, v2, ↓MoV0 hM, ↓MoI0_70 hM, ↓MoP0_70 hM, ↓MoZ0_70 hM, ↓MoG0_71 hM, ↓MoG0_72 hM, ↓MoG0_73 hM, ↓MoG0_74 hM, ↓MoG0_75 hM, ↓MoI0_76 hM, ↓MoP0_76 hM, ↓MoZ0_76 hM, ↓MoI0_77 hM, ↓MoP0_77 hM, ↓MoZ0_77 hM, ↓MoG0_78 hM, ↓MoI0_79 hM, ↓MoP0_79 hM, ↓MoZ0_79 hM, ↓MoI0_80 hM, ↓MoP0_80 hM, ↓MoZ0_80 hM, ↓MoI0_81 hM, ↓MoP0_81 hM, ↓MoZ0_81 hM, ↓MoI0_82 hM, ↓MoP0_82 hM, ↓MoZ0_82 hM, ↓MoI0_83 hM, ↓MoP0_83 hM, ↓MoZ0_83 hM, ↓MoI0_84 hM, ↓MoP0_84 hM, ↓MoZ0_84 hM, ↓MoG0_85 hM, ↓MoI0_86 hM, ↓MoP0_86 hM, ↓MoZ0_86 hM, ↓MoG0_87 hM, ↓MoI0_88 hM, ↓MoP0_88 hM, ↓MoZ0_88 hM, ↓MoG0_89 hM, ↓MoG0_90 hM, ↓MoG0_91 hM, ↓MoG0_92 hM, ↓MoL0 hM, ↓MoS0 hM, ↓MoL1 hM, ↓MoS1 hM, ↓MoL2 hM, ↓MoS2 hM, ↓MoL3 hM, ↓MoS3 hM, ↓MoL4 hM, ↓MoS4 hM, ↓MoL5 hM, ↓MoS5 hM, ↓MoL6 hM, ↓MoS6 hM, ↓MoL7 hM, ↓MoS7 hM, ↓MoL8 hM, ↓MoS8 hM, ↓MoL9 hM, ↓MoS9 hM, ↓MoL10 hM, ↓MoS10 hM, ↓MoL11 hM, ↓MoS11 hM, ↓A_if, ↓A_jn, ↓A_lt, ↓A_rz, ↓A_rn, ↓A_nzi, ↓A_nzl, ↓A_nn1, ↓A_nn0, ↓reduceIte, true_and, and_true, if_true, if_false, ite_true, ite_false, reduceIte, tl_0, tl_1, tl_2, tl_3, tl_4, tl_5, tl_6, tl_7, tl_8, tl_9, tl_10, tl_11, tl_12, tl_13, tl_14, tl_15, tl_16, tl_17, tl_18, tl_19, tl_20, tl_21, tl_22, tl_23, tl_24, tl_25, tl_26, tl_27, tl_28, tl_29, tl_30, tl_31, tl_32, tl_33, tl_34, tl_35, tl_36, tl_37, tl_38, tl_39, tl_40, tl_41, tl_42, tl_43, tl_44, tl_45, tl_46, tl_47, tl_48, tl_49, tl_50, tl_51, tl_52, tl_53, tl_54, tl_57, tl_59, tl_60, tl_62, tl_63, tl_64, tl_97, tl_99, tl_100, tl_120, tl_122, tl_192, tl_193, tl_194, tl_195, tl_196, tl_255, tl_256, tl_299, tl_400, tl_401, tl_492, tl_493, tl_541, tl_849, tl_999, tl_1000, tl_1341, tl_1342, tl_1390, tl_2190, tl_5412, tl_5904, tl_9999, tl_12345, tl_32767, tl_65536, tl_1000000, tl_252645135, tl_858993459, tl_1103515245, tl_1431655765, nz_31, nz_c31, eq_self, or_true, true_or, or_false, false_or, Nat.add_zero, nz_lt, nz_le, nz_eq, nz_cl, nz_sub, nI_add, pk_mul, nt_lt, nf_lt, nf_eq, nz_mI, mI_eq, mI_eq', mI_lt, mI_gt, mI_add, ↓j_max, ↓j_min, Nat.sub_sub, Nat.reduceAdd, Nat.reduceSub, Nat.reduceLT, Nat.reduceEqDiff, Bool.false_eq_true]
      · rw [decide_eq_false (fun g => c1 g.1), Bool.false_and, if_neg (by decide), ← stop (nI (2 * i + 2))]
        refine tw_lp_step (fun rec => ?_)
        rw [decide_eq_false c1] at v1
        simp (disch := omega) only [e81, hb2, ↓m_inR, v1, ↓MoV0 hM, ↓MoI0_70 hM, ↓MoP0_70 hM, ↓MoZ0_70 hM, ↓MoG0_71 hM, ↓MoG0_72 hM, ↓MoG0_73 hM, ↓MoG0_74 hM, ↓MoG0_75 hM, ↓MoI0_76 hM, ↓MoP0_76 hM, ↓MoZ0_76 hM, ↓MoI0_77 hM, ↓MoP0_77 hM, ↓MoZ0_77 hM, ↓MoG0_78 hM, ↓MoI0_79 hM, ↓MoP0_79 hM, ↓MoZ0_79 hM, ↓MoI0_80 hM, ↓MoP0_80 hM, ↓MoZ0_80 hM, ↓MoI0_81 hM, ↓MoP0_81 hM, ↓MoZ0_81 hM, ↓MoI0_82 hM, ↓MoP0_82 hM, ↓MoZ0_82 hM, ↓MoI0_83 hM, ↓MoP0_83 hM, ↓MoZ0_83 hM, ↓MoI0_84 hM, ↓MoP0_84 hM, ↓MoZ0_84 hM, ↓MoG0_85 hM, ↓MoI0_86 hM, ↓MoP0_86 hM, ↓MoZ0_86 hM, ↓MoG0_87 hM, ↓MoI0_88 hM, ↓MoP0_88 hM, ↓MoZ0_88 hM, ↓MoG0_89 hM, ↓MoG0_90 hM, ↓MoG0_91 hM, ↓MoG0_92 hM, ↓MoL0 hM, ↓MoS0 hM, ↓MoL1 hM, ↓MoS1 hM, ↓MoL2 hM, ↓MoS2 hM, ↓MoL3 hM, ↓MoS3 hM, ↓MoL4 hM, ↓MoS4 hM, ↓MoL5 hM, ↓MoS5 hM, ↓MoL6 hM, ↓MoS6 hM, ↓MoL7 hM, ↓MoS7 hM, ↓MoL8 hM, ↓MoS8 hM, ↓MoL9 hM, ↓MoS9 hM, ↓MoL10 hM, ↓MoS10 hM, ↓MoL11 hM, ↓MoS11 hM, ↓A_if, ↓A_jn, ↓A_lt, ↓A_rz, ↓A_rn, ↓A_nzi, ↓A_nzl, ↓A_nn1, ↓A_nn0, ↓reduceIte, true_and, and_true, if_true, if_false, ite_true, ite_false, reduceIte, tl_0, tl_1, tl_2, tl_3, tl_4, tl_5, tl_6, tl_7, tl_8, tl_9, tl_10, tl_11, tl_12, tl_13, tl_14, tl_15, tl_16, tl_17, tl_18, tl_19, tl_20, tl_21, tl_22, tl_23, tl_24, tl_25, tl_26, tl_27, tl_28, tl_29, tl_30, tl_31, tl_32, tl_33, tl_34, tl_35, tl_36, tl_37, tl_38, tl_39, tl_40, tl_41, tl_42, tl_43, tl_44, tl_45, tl_46, tl_47, tl_48, tl_49, tl_50, tl_51, tl_52, tl_53, tl_54, tl_57, tl_59, tl_60, tl_62, tl_63, tl_64, tl_97, tl_99, tl_100, tl_120, tl_122, tl_192, tl_193, tl_194, tl_195, tl_196, tl_255, tl_256, tl_299, tl_400, tl_401, tl_492, tl_493, tl_541, tl_849, tl_999, tl_1000, tl_1341, tl_1342, tl_1390, tl_2190, tl_5412, tl_5904, tl_9999, tl_12345, tl_32767, tl_65536, tl_1000000, tl_252645135, tl_858993459, tl_1103515245, tl_1431655765, nz_31, nz_c31, eq_self, or_true, true_or, or_false, false_or, Nat.add_zero, nz_lt, nz_le, nz_eq, nz_cl, nz_sub, nI_add, pk_mul, nt_lt, nf_lt, nf_eq, nz_mI, mI_eq, mI_eq', mI_lt, mI_gt, mI_add, ↓j_max, ↓j_min, Nat.sub_sub, Nat.reduceAdd, Nat.reduceSub, Nat.reduceLT, Nat.reduceEqDiff, Bool.false_eq_true]
  by_cases q2 : e % 2 = 0
  · by_cases q1 : 40 < e
    · have et : ¬ tw_told B e = true := fun g => by
        unfold tw_told at g
        rw [Bool.and_eq_true, decide_eq_true_iff] at g
        omega
      rw [if_neg et, ← stop (nI 0)]
      simp (disch := omega) only [f_X12_isTold, e81, q1, er, q2, hn2, not_false_eq_true, ↓MoV0 hM, ↓MoI0_70 hM, ↓MoP0_70 hM, ↓MoZ0_70 hM, ↓MoG0_71 hM, ↓MoG0_72 hM, ↓MoG0_73 hM, ↓MoG0_74 hM, ↓MoG0_75 hM, ↓MoI0_76 hM, ↓MoP0_76 hM, ↓MoZ0_76 hM, ↓MoI0_77 hM, ↓MoP0_77 hM, ↓MoZ0_77 hM, ↓MoG0_78 hM, ↓MoI0_79 hM, ↓MoP0_79 hM, ↓MoZ0_79 hM, ↓MoI0_80 hM, ↓MoP0_80 hM, ↓MoZ0_80 hM, ↓MoI0_81 hM, ↓MoP0_81 hM, ↓MoZ0_81 hM, ↓MoI0_82 hM, ↓MoP0_82 hM, ↓MoZ0_82 hM, ↓MoI0_83 hM, ↓MoP0_83 hM, ↓MoZ0_83 hM, ↓MoI0_84 hM, ↓MoP0_84 hM, ↓MoZ0_84 hM, ↓MoG0_85 hM, ↓MoI0_86 hM, ↓MoP0_86 hM, ↓MoZ0_86 hM, ↓MoG0_87 hM, ↓MoI0_88 hM, ↓MoP0_88 hM, ↓MoZ0_88 hM, ↓MoG0_89 hM, ↓MoG0_90 hM, ↓MoG0_91 hM, ↓MoG0_92 hM, ↓MoL0 hM, ↓MoS0 hM, ↓MoL1 hM, ↓MoS1 hM, ↓MoL2 hM, ↓MoS2 hM, ↓MoL3 hM, ↓MoS3 hM, ↓MoL4 hM, ↓MoS4 hM, ↓MoL5 hM, ↓MoS5 hM, ↓MoL6 hM, ↓MoS6 hM, ↓MoL7 hM, ↓MoS7 hM, ↓MoL8 hM, ↓MoS8 hM, ↓MoL9 hM, ↓MoS9 hM, ↓MoL10 hM, ↓MoS10 hM, ↓MoL11 hM, ↓MoS11 hM, ↓A_if, ↓A_jn, ↓A_lt, ↓A_rz, ↓A_rn, ↓A_nzi, ↓A_nzl, ↓A_nn1, ↓A_nn0, ↓reduceIte, true_and, and_true, if_true, if_false, ite_true, ite_false, reduceIte, tl_0, tl_1, tl_2, tl_3, tl_4, tl_5, tl_6, tl_7, tl_8, tl_9, tl_10, tl_11, tl_12, tl_13, tl_14, tl_15, tl_16, tl_17, tl_18, tl_19, tl_20, tl_21, tl_22, tl_23, tl_24, tl_25, tl_26, tl_27, tl_28, tl_29, tl_30, tl_31, tl_32, tl_33, tl_34, tl_35, tl_36, tl_37, tl_38, tl_39, tl_40, tl_41, tl_42, tl_43, tl_44, tl_45, tl_46, tl_47, tl_48, tl_49, tl_50, tl_51, tl_52, tl_53, tl_54, tl_57, tl_59, tl_60, tl_62, tl_63, tl_64, tl_97, tl_99, tl_100, tl_120, tl_122, tl_192, tl_193, tl_194, tl_195, tl_196, tl_255, tl_256, tl_299, tl_400, tl_401, tl_492, tl_493, tl_541, tl_849, tl_999, tl_1000, tl_1341, tl_1342, tl_1390, tl_2190, tl_5412, tl_5904, tl_9999, tl_12345, tl_32767, tl_65536, tl_1000000, tl_252645135, tl_858993459, tl_1103515245, tl_1431655765, nz_31, nz_c31, eq_self, or_true, true_or, or_false, false_or, Nat.add_zero, nz_lt, nz_le, nz_eq, nz_cl, nz_sub, nI_add, pk_mul, nt_lt, nf_lt, nf_eq, nz_mI, mI_eq, mI_eq', mI_lt, mI_gt, mI_add, ↓j_max, ↓j_min, Nat.sub_sub, Nat.reduceAdd, Nat.reduceSub, Nat.reduceLT, Nat.reduceEqDiff, Bool.false_eq_true]
    · have et : tw_told B e = tw_tok B (e / 2) 0 := by
        unfold tw_told
        rw [decide_eq_true ⟨by omega, q2⟩, Bool.true_and]
      rw [et, ← key (e / 2) 0 (by omega) q2]
      simp (disch := omega) only [f_X12_isTold, e81, q1, er, q2, hn2, not_false_eq_true, ↓MoV0 hM, ↓MoI0_70 hM, ↓MoP0_70 hM, ↓MoZ0_70 hM, ↓MoG0_71 hM, ↓MoG0_72 hM, ↓MoG0_73 hM, ↓MoG0_74 hM, ↓MoG0_75 hM, ↓MoI0_76 hM, ↓MoP0_76 hM, ↓MoZ0_76 hM, ↓MoI0_77 hM, ↓MoP0_77 hM, ↓MoZ0_77 hM, ↓MoG0_78 hM, ↓MoI0_79 hM, ↓MoP0_79 hM, ↓MoZ0_79 hM, ↓MoI0_80 hM, ↓MoP0_80 hM, ↓MoZ0_80 hM, ↓MoI0_81 hM, ↓MoP0_81 hM, ↓MoZ0_81 hM, ↓MoI0_82 hM, ↓MoP0_82 hM, ↓MoZ0_82 hM, ↓MoI0_83 hM, ↓MoP0_83 hM, ↓MoZ0_83 hM, ↓MoI0_84 hM, ↓MoP0_84 hM, ↓MoZ0_84 hM, ↓MoG0_85 hM, ↓MoI0_86 hM, ↓MoP0_86 hM, ↓MoZ0_86 hM, ↓MoG0_87 hM, ↓MoI0_88 hM, ↓MoP0_88 hM, ↓MoZ0_88 hM, ↓MoG0_89 hM, ↓MoG0_90 hM, ↓MoG0_91 hM, ↓MoG0_92 hM, ↓MoL0 hM, ↓MoS0 hM, ↓MoL1 hM, ↓MoS1 hM, ↓MoL2 hM, ↓MoS2 hM, ↓MoL3 hM, ↓MoS3 hM, ↓MoL4 hM, ↓MoS4 hM, ↓MoL5 hM, ↓MoS5 hM, ↓MoL6 hM, ↓MoS6 hM, ↓MoL7 hM, ↓MoS7 hM, ↓MoL8 hM, ↓MoS8 hM, ↓MoL9 hM, ↓MoS9 hM, ↓MoL10 hM, ↓MoS10 hM, ↓MoL11 hM, ↓MoS11 hM, ↓A_if, ↓A_jn, ↓A_lt, ↓A_rz, ↓A_rn, ↓A_nzi, ↓A_nzl, ↓A_nn1, ↓A_nn0, ↓reduceIte, true_and, and_true, if_true, if_false, ite_true, ite_false, reduceIte, tl_0, tl_1, tl_2, tl_3, tl_4, tl_5, tl_6, tl_7, tl_8, tl_9, tl_10, tl_11, tl_12, tl_13, tl_14, tl_15, tl_16, tl_17, tl_18, tl_19, tl_20, tl_21, tl_22, tl_23, tl_24, tl_25, tl_26, tl_27, tl_28, tl_29, tl_30, tl_31, tl_32, tl_33, tl_34, tl_35, tl_36, tl_37, tl_38, tl_39, tl_40, tl_41, tl_42, tl_43, tl_44, tl_45, tl_46, tl_47, tl_48, tl_49, tl_50, tl_51, tl_52, tl_53, tl_54, tl_57, tl_59, tl_60, tl_62, tl_63, tl_64, tl_97, tl_99, tl_100, tl_120, tl_122, tl_192, tl_193, tl_194, tl_195, tl_196, tl_255, tl_256, tl_299, tl_400, tl_401, tl_492, tl_493, tl_541, tl_849, tl_999, tl_1000, tl_1341, tl_1342, tl_1390, tl_2190, tl_5412, tl_5904, tl_9999, tl_12345, tl_32767, tl_65536, tl_1000000, tl_252645135, tl_858993459, tl_1103515245, tl_1431655765, nz_31, nz_c31, eq_self, or_true, true_or, or_false, false_or, Nat.add_zero, nz_lt, nz_le, nz_eq, nz_cl, nz_sub, nI_add, pk_mul, nt_lt, nf_lt, nf_eq, nz_mI, mI_eq, mI_eq', mI_lt, mI_gt, mI_add, ↓j_max, ↓j_min, Nat.sub_sub, Nat.reduceAdd, Nat.reduceSub, Nat.reduceLT, Nat.reduceEqDiff, Bool.false_eq_true]
  · have et : ¬ tw_told B e = true := fun g => by
      unfold tw_told at g
      rw [Bool.and_eq_true, decide_eq_true_iff] at g
      omega
    have q3 : e % 2 = 1 := by omega
    rw [if_neg et, ← stop (nI 0)]
    simp (disch := omega) only [f_X12_isTold, e81, er, q3, hn2, not_false_eq_true, ↓MoV0 hM, ↓MoI0_70 hM, ↓MoP0_70 hM, ↓MoZ0_70 hM, ↓MoG0_71 hM, ↓MoG0_72 hM, ↓MoG0_73 hM, ↓MoG0_74 hM, ↓MoG0_75 hM, ↓MoI0_76 hM, ↓MoP0_76 hM, ↓MoZ0_76 hM, ↓MoI0_77 hM, ↓MoP0_77 hM, ↓MoZ0_77 hM, ↓MoG0_78 hM, ↓MoI0_79 hM, ↓MoP0_79 hM, ↓MoZ0_79 hM, ↓MoI0_80 hM, ↓MoP0_80 hM, ↓MoZ0_80 hM, ↓MoI0_81 hM, ↓MoP0_81 hM, ↓MoZ0_81 hM, ↓MoI0_82 hM, ↓MoP0_82 hM, ↓MoZ0_82 hM, ↓MoI0_83 hM, ↓MoP0_83 hM, ↓MoZ0_83 hM, ↓MoI0_84 hM, ↓MoP0_84 hM, ↓MoZ0_84 hM, ↓MoG0_85 hM, ↓MoI0_86 hM, ↓MoP0_86 hM, ↓MoZ0_86 hM, ↓MoG0_87 hM, ↓MoI0_88 hM, ↓MoP0_88 hM, ↓MoZ0_88 hM, ↓MoG0_89 hM, ↓MoG0_90 hM, ↓MoG0_91 hM, ↓MoG0_92 hM, ↓MoL0 hM, ↓MoS0 hM, ↓MoL1 hM, ↓MoS1 hM, ↓MoL2 hM, ↓MoS2 hM, ↓MoL3 hM, ↓MoS3 hM, ↓MoL4 hM, ↓MoS4 hM, ↓MoL5 hM, ↓MoS5 hM, ↓MoL6 hM, ↓MoS6 hM, ↓MoL7 hM, ↓MoS7 hM, ↓MoL8 hM, ↓MoS8 hM, ↓MoL9 hM, ↓MoS9 hM, ↓MoL10 hM, ↓MoS10 hM, ↓MoL11 hM, ↓MoS11 hM, ↓A_if, ↓A_jn, ↓A_lt, ↓A_rz, ↓A_rn, ↓A_nzi, ↓A_nzl, ↓A_nn1, ↓A_nn0, ↓reduceIte, true_and, and_true, if_true, if_false, ite_true, ite_false, reduceIte, tl_0, tl_1, tl_2, tl_3, tl_4, tl_5, tl_6, tl_7, tl_8, tl_9, tl_10, tl_11, tl_12, tl_13, tl_14, tl_15, tl_16, tl_17, tl_18, tl_19, tl_20, tl_21, tl_22, tl_23, tl_24, tl_25, tl_26, tl_27, tl_28, tl_29, tl_30, tl_31, tl_32, tl_33, tl_34, tl_35, tl_36, tl_37, tl_38, tl_39, tl_40, tl_41, tl_42, tl_43, tl_44, tl_45, tl_46, tl_47, tl_48, tl_49, tl_50, tl_51, tl_52, tl_53, tl_54, tl_57, tl_59, tl_60, tl_62, tl_63, tl_64, tl_97, tl_99, tl_100, tl_120, tl_122, tl_192, tl_193, tl_194, tl_195, tl_196, tl_255, tl_256, tl_299, tl_400, tl_401, tl_492, tl_493, tl_541, tl_849, tl_999, tl_1000, tl_1341, tl_1342, tl_1390, tl_2190, tl_5412, tl_5904, tl_9999, tl_12345, tl_32767, tl_65536, tl_1000000, tl_252645135, tl_858993459, tl_1103515245, tl_1431655765, nz_31, nz_c31, eq_self, or_true, true_or, or_false, false_or, Nat.add_zero, nz_lt, nz_le, nz_eq, nz_cl, nz_sub, nI_add, pk_mul, nt_lt, nf_lt, nf_eq, nz_mI, mI_eq, mI_eq', mI_lt, mI_gt, mI_add, ↓j_max, ↓j_min, Nat.sub_sub, Nat.reduceAdd, Nat.reduceSub, Nat.reduceLT, Nat.reduceEqDiff, Bool.false_eq_true]
end P79m
