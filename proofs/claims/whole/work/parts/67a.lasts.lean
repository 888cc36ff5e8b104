/-! ===== pure: LASTS ===== -/
def tw_lT (T : Nat → Int32) (p o P i : Nat) : Nat → Int32 := tw_it (fun _ U => tw_he (tw_pull U p o) true P) i T
def tw_lz (T : Nat → Int32) (p o P : Nat) : Nat → Nat → Nat
  | 0, i => i
  | k + 1, i => if tw_rg (tw_lT T p o P i) p o = nI 1 then tw_lz T p o P k (i + 1) else i
def tw_las (T : Nat → Int32) (p o P : Nat) : Nat := tw_lz T p o P 60 0
theorem tw_lz_s (T : Nat → Int32) (p o P : Nat) : ∀ k i, i ≤ tw_lz T p o P k i ∧ tw_lz T p o P k i ≤ i + k ∧ (∀ j, i ≤ j → j < tw_lz T p o P k i → tw_rg (tw_lT T p o P j) p o = nI 1) ∧ (tw_lz T p o P k i = i + k ∨ ¬ tw_rg (tw_lT T p o P (tw_lz T p o P k i)) p o = nI 1)
  | 0, i => ⟨Nat.le_refl i, Nat.le_refl i, fun j a b => by have : j < i := b; omega, Or.inl rfl⟩
  | k + 1, i => by
    unfold tw_lz
    by_cases h : tw_rg (tw_lT T p o P i) p o = nI 1
    · obtain ⟨a, b, c, d⟩ := tw_lz_s T p o P k (i + 1)
      rw [if_pos h]
      refine ⟨by omega, by omega, fun j h1 h2 => ?_, ?_⟩
      · by_cases e : j = i
        · rw [e]; exact h
        · exact c j (by omega) h2
      · rcases d with d | d
        · exact Or.inl (by omega)
        · exact Or.inr d
    · rw [if_neg h]
      exact ⟨Nat.le_refl i, by omega, fun j a b => by omega, Or.inr h⟩
theorem tw_las_s (T : Nat → Int32) (p o P : Nat) : tw_las T p o P ≤ 60 ∧ (∀ j, j < tw_las T p o P → tw_rg (tw_lT T p o P j) p o = nI 1) ∧ (tw_las T p o P = 60 ∨ ¬ tw_rg (tw_lT T p o P (tw_las T p o P)) p o = nI 1) := by
  obtain ⟨a, b, c, d⟩ := tw_lz_s T p o P 60 0
  unfold tw_las
  refine ⟨by omega, fun j h => c j (by omega) h, ?_⟩
  rcases d with d | d
  · exact Or.inl (by omega)
  · exact Or.inr d
theorem tw_lT_1 {U : Nat → Int32} {p o P : Nat} (W : tw_WF U P) (hp : p < P) (ho : o < P) (hpo : p ≠ o) : tw_WF (tw_he (tw_pull U p o) true P) P ∧ ∀ j, j = 2 ∨ 492 ≤ j → tw_he (tw_pull U p o) true P j = U j := by
  have h8 := W.2.1
  obtain ⟨h3, h4⟩ := tw_he_k true (Wf_pull W hp ho hpo)
  refine ⟨h3, fun j hj => ?_⟩
  rw [h4 j (by omega), tw_pull_o (by omega) (by omega) (by omega)]
theorem tw_lT_s (T : Nat → Int32) (p o P i : Nat) : tw_lT T p o P (i + 1) = tw_he (tw_pull (tw_lT T p o P i) p o) true P := by
  unfold tw_lT
  rw [tw_it_s]
theorem tw_lT_k {T : Nat → Int32} {p o P : Nat} (W : tw_WF T P) (hp : p < P) (ho : o < P) (hpo : p ≠ o) (i : Nat) : tw_WF (tw_lT T p o P i) P ∧ ∀ j, j = 2 ∨ 492 ≤ j → tw_lT T p o P i j = T j := by
  induction i with
  | zero => exact ⟨W, fun _ _ => rfl⟩
  | succ i ih =>
    rw [tw_lT_s]
    generalize tw_lT T p o P i = U at *
    obtain ⟨h3, h4⟩ := tw_lT_1 ih.1 hp ho hpo
    exact ⟨h3, fun j hj => (h4 j hj).trans (ih.2 j hj)⟩
/-- the class: its two and the law's room -/
def tw_wr (w lw : Nat) (μ μ' : Nat → Nat → Int32) : Prop := ∀ x, x < w ∨ w + 2 ≤ x → x ≠ lw + 1 → μ' x = μ x
theorem tw_wr_t {w lw : Nat} {μ μ' μ'' : Nat → Nat → Int32} (h : tw_wr w lw μ μ') (h2 : tw_wr w lw μ' μ'') : tw_wr w lw μ μ'' := fun x a b => (h2 x a b).trans (h x a b)
theorem tw_wr_r {w lw : Nat} {μ : Nat → Nat → Int32} : tw_wr w lw μ μ := fun _ _ _ => rfl
theorem tw_wr_w {w lw : Nat} {μ μ' : Nat → Nat → Int32} (h : tw_wl w lw μ μ') : tw_wr w lw μ μ' := fun x a b => h x (by omega) b
theorem tw_wr_x {w lw : Nat} {μ μ' : Nat → Nat → Int32} (h : tw_fx w (w + 2) μ μ') : tw_wr w lw μ μ' := fun x a _ => h x a
theorem tw_wr_La {sh : tw_Sh} {μ μ' : Nat → Nat → Int32} {w lw : Nat} {T : Nat → Int32} (H : tw_La sh μ lw T) (h : tw_wr w lw μ μ') (hd : w + 1 < lw ∨ lw + 5 < w) : tw_La sh μ' lw T := tw_La_same H (fun x hx => h x (by omega) (by omega)) rfl (fun _ _ => rfl)
theorem tw_wr_RC {sh : tw_Sh} {μ μ' : Nat → Nat → Int32} {a w lw : Nat} {T : Nat → Int32} (H : tw_RC sh μ a T) (h : tw_wr w lw μ μ') (hd : w + 2 ≤ a ∨ a + 9 ≤ w) (hda : a + 8 < lw ∨ lw + 5 < a) : tw_RC sh μ' a T := Rc_same H (fun x h1 h2 => h x (by omega) (by omega))
def tw_kk (s t : Nat → Int32) (i : Nat) : Nat → Int32 := fun j => if j < i then t j else s j
theorem tw_kk_s (s t : Nat → Int32) (i : Nat) : tw_u1 (tw_kk s t i) i (t i) = tw_kk s t (i + 1) := by
  funext j
  unfold tw_u1 tw_kk
  by_cases h : j = i
  · subst h; rw [if_pos rfl, if_pos (by omega)]
  · rw [if_neg h]
    by_cases h2 : j < i
    · rw [if_pos h2, if_pos (by omega)]
    · rw [if_neg h2, if_neg (by omega)]
theorem tw_kk_0 (s t : Nat → Int32) : tw_kk s t 0 = s := by
  funext j
  exact if_neg (Nat.not_lt_zero j)
/-- the model: the world is as it was, only scratch has changed -/
def tw_mz (m : Nat) (μ μ' : Nat → Nat → Int32) : Prop := μ' (m + 1) = μ (m + 1) ∧ (∀ x, x ≠ m → x ≠ m + 1 → x ≠ m + 4 → x ≠ m + 8 → μ' x = μ x) ∧ ∀ j, j ≠ 88 → μ' m j = μ m j
theorem tw_mz_r {m : Nat} {μ : Nat → Nat → Int32} : tw_mz m μ μ := ⟨rfl, fun _ _ _ _ _ => rfl, fun _ _ => rfl⟩
theorem tw_mz_t {m : Nat} {μ μ' μ'' : Nat → Nat → Int32} (h : tw_mz m μ μ') (h2 : tw_mz m μ' μ'') : tw_mz m μ μ'' := ⟨h2.1.trans h.1, fun x a b c d => (h2.2.1 x a b c d).trans (h.2.1 x a b c d), fun j a => (h2.2.2 j a).trans (h.2.2 j a)⟩
section P67
variable {sh : tw_Sh} {μ : Nat → Nat → Int32} {la : Nat → Nat → Int64} {n a b w m lw P N : Nat} {p o l h i j z c x y f q kd t : Nat} {T T' : Nat → Int32} {v u rg tn : Int32} {F : Nat → Int32} {C : Nat → Nat × Nat} {s : Nat → Int32}
theorem m_keeps (hM : tw_Mo sh m) (k : Unit → tw_Mem → Prop) : f_X12_keepsAll m k (sh, μ, la, n) = k () (sh, tw_ra μ (m + 4) (tw_kk (μ (m + 4)) (μ (m + 1)) 492), la, n) := by
  unfold f_X12_keepsAll
  refine tw_lp_for 492 (fun i => nI i) (fun i => (sh, tw_ra μ (m + 4) (tw_kk (μ (m + 4)) (μ (m + 1)) i), la, n)) rfl ?_ ?_ ?_
  · show (sh, tw_ra μ (m + 4) (tw_kk (μ (m + 4)) (μ (m + 1)) 0), la, n) = _
    rw [tw_kk_0, tw_ra_s]
  · intro i hi rec
    simp (disch := omega) only [tw_ra_nj, tw_up_ra, tw_kk_s, ↓MoV0 hM, ↓MoI0_70 hM, ↓MoP0_70 hM, ↓MoZ0_70 hM, ↓MoG0_71 hM, ↓MoG0_72 hM, ↓MoG0_73 hM, ↓MoG0_74 hM, ↓MoG0_75 hM, ↓MoI0_76 hM, ↓MoP0_76 hM, ↓MoZ0_76 hM, ↓MoI0_77 hM, ↓MoP0_77 hM, ↓MoZ0_77 hM, ↓MoG0_78 hM, ↓MoI0_79 hM, ↓MoP0_79 hM, ↓MoZ0_79 hM, ↓MoI0_80 hM, ↓MoP0_80 hM, ↓MoZ0_80 hM, ↓MoI0_81 hM, ↓MoP0_81 hM, ↓MoZ0_81 hM, ↓MoI0_82 hM, ↓MoP0_82 hM, ↓MoZ0_82 hM, ↓MoI0_83 hM, ↓MoP0_83 hM, ↓MoZ0_83 hM, ↓MoI0_84 hM, ↓MoP0_84 hM, ↓MoZ0_84 hM, ↓MoG0_85 hM, ↓MoI0_86 hM, ↓MoP0_86 hM, ↓MoZ0_86 hM, ↓MoG0_87 hM, ↓MoI0_88 hM, ↓MoP0_88 hM, ↓MoZ0_88 hM, ↓MoG0_89 hM, ↓MoG0_90 hM, ↓MoG0_91 hM, ↓MoG0_92 hM, ↓MoL0 hM, ↓MoS0 hM, ↓MoL1 hM, ↓MoS1 hM, ↓MoL2 hM, ↓MoS2 hM, ↓MoL3 hM, ↓MoS3 hM, ↓MoL4 hM, ↓MoS4 hM, ↓MoL5 hM, ↓MoS5 hM, ↓MoL6 hM, ↓MoS6 hM, ↓MoL7 hM, ↓MoS7 hM, ↓MoL8 hM, ↓MoS8 hM, ↓MoL9 hM, ↓MoS9 hM, ↓MoL10 hM, ↓MoS10 hM, ↓MoL11 hM, ↓MoS11 hM, ↓A_if, ↓A_jn, ↓A_lt, ↓A_rz, ↓A_rn, ↓A_nzi, ↓A_nzl, ↓A_nn1, ↓A_nn0, ↓reduceIte, true_and, and_true, if_true, if_false, ite_true, ite_false, reduceIte, tl_0, tl_1, tl_2, tl_3, tl_4, tl_5, tl_6, tl_7, tl_8, tl_9, tl_10, tl_11, tl_12, tl_13, tl_14, tl_15, tl_16, tl_17, tl_18, tl_19, tl_20, tl_21, tl_22, tl_23, tl_24, tl_25, tl_26, tl_27, tl_28, tl_29, tl_30, tl_31, tl_32, tl_33, tl_34, tl_35, tl_36, tl_37, tl_38, tl_39, tl_40, tl_41, tl_42, tl_43, tl_44, tl_45, tl_46, tl_47, tl_48, tl_49, tl_50, tl_51, tl_52, tl_53, tl_54, tl_57, tl_59, tl_60, tl_62, tl_63, tl_64, tl_97, tl_99, tl_100, tl_120, tl_122, tl_192, tl_193, tl_194, tl_195, tl_196, tl_255, tl_256, tl_299, tl_400, tl_401, tl_492, tl_493, tl_541, tl_849, tl_999, tl_1000, tl_1341, tl_1342, tl_1390, tl_2190, tl_5412, tl_5904, tl_9999, tl_12345, tl_32767, tl_65536, tl_1000000, tl_252645135, tl_858993459, tl_1103515245, tl_1431655765, nz_31, nz_c31, eq_self, or_true, true_or, or_false, false_or, Nat.add_zero, nz_lt, nz_le, nz_eq, nz_cl, nz_sub, nI_add, pk_mul, nt_lt, nf_lt, nf_eq, nz_mI, mI_eq, mI_eq', mI_lt, mI_gt, mI_add, ↓j_max, ↓j_min, Nat.sub_sub, Nat.reduceAdd, Nat.reduceSub, Nat.reduceLT, Nat.reduceEqDiff, Bool.false_eq_true]
  · intro rec
    simp (disch := omega) only [↓MoV0 hM, ↓MoI0_70 hM, ↓MoP0_70 hM, ↓MoZ0_70 hM, ↓MoG0_71 hM, ↓MoG0_72 hM, ↓MoG0_73 hM, ↓MoG0_74 hM, ↓MoG0_75 hM, ↓MoI0_76 hM, ↓MoP0_76 hM, ↓MoZ0_76 hM, ↓MoI0_77 hM, ↓MoP0_77 hM, ↓MoZ0_77 hM, ↓MoG0_78 hM, ↓MoI0_79 hM, ↓MoP0_79 hM, ↓MoZ0_79 hM, ↓MoI0_80 hM, ↓MoP0_80 hM, ↓MoZ0_80 hM, ↓MoI0_81 hM, ↓MoP0_81 hM, ↓MoZ0_81 hM, ↓MoI0_82 hM, ↓MoP0_82 hM, ↓MoZ0_82 hM, ↓MoI0_83 hM, ↓MoP0_83 hM, ↓MoZ0_83 hM, ↓MoI0_84 hM, ↓MoP0_84 hM, ↓MoZ0_84 hM, ↓MoG0_85 hM, ↓MoI0_86 hM, ↓MoP0_86 hM, ↓MoZ0_86 hM, ↓MoG0_87 hM, ↓MoI0_88 hM, ↓MoP0_88 hM, ↓MoZ0_88 hM, ↓MoG0_89 hM, ↓MoG0_90 hM, ↓MoG0_91 hM, ↓MoG0_92 hM, ↓MoL0 hM, ↓MoS0 hM, ↓MoL1 hM, ↓MoS1 hM, ↓MoL2 hM, ↓MoS2 hM, ↓MoL3 hM, ↓MoS3 hM, ↓MoL4 hM, ↓MoS4 hM, ↓MoL5 hM, ↓MoS5 hM, ↓MoL6 hM, ↓MoS6 hM, ↓MoL7 hM, ↓MoS7 hM, ↓MoL8 hM, ↓MoS8 hM, ↓MoL9 hM, ↓MoS9 hM, ↓MoL10 hM, ↓MoS10 hM, ↓MoL11 hM, ↓MoS11 hM, ↓A_if, ↓A_jn, ↓A_lt, ↓A_rz, ↓A_rn, ↓A_nzi, ↓A_nzl, ↓A_nn1, ↓A_nn0, ↓reduceIte, true_and, and_true, if_true, if_false, ite_true, ite_false, reduceIte, tl_0, tl_1, tl_2, tl_3, tl_4, tl_5, tl_6, tl_7, tl_8, tl_9, tl_10, tl_11, tl_12, tl_13, tl_14, tl_15, tl_16, tl_17, tl_18, tl_19, tl_20, tl_21, tl_22, tl_23, tl_24, tl_25, tl_26, tl_27, tl_28, tl_29, tl_30, tl_31, tl_32, tl_33, tl_34, tl_35, tl_36, tl_37, tl_38, tl_39, tl_40, tl_41, tl_42, tl_43, tl_44, tl_45, tl_46, tl_47, tl_48, tl_49, tl_50, tl_51, tl_52, tl_53, tl_54, tl_57, tl_59, tl_60, tl_62, tl_63, tl_64, tl_97, tl_99, tl_100, tl_120, tl_122, tl_192, tl_193, tl_194, tl_195, tl_196, tl_255, tl_256, tl_299, tl_400, tl_401, tl_492, tl_493, tl_541, tl_849, tl_999, tl_1000, tl_1341, tl_1342, tl_1390, tl_2190, tl_5412, tl_5904, tl_9999, tl_12345, tl_32767, tl_65536, tl_1000000, tl_252645135, tl_858993459, tl_1103515245, tl_1431655765, nz_31, nz_c31, eq_self, or_true, true_or, or_false, false_or, Nat.add_zero, nz_lt, nz_le, nz_eq, nz_cl, nz_sub, nI_add, pk_mul, nt_lt, nf_lt, nf_eq, nz_mI, mI_eq, mI_eq', mI_lt, mI_gt, mI_add, ↓j_max, ↓j_min, Nat.sub_sub, Nat.reduceAdd, Nat.reduceSub, Nat.reduceLT, Nat.reduceEqDiff, Bool.false_eq_true]
theorem m_brings (hM : tw_Mo sh m) (k : Unit → tw_Mem → Prop) : f_X12_bringsBack m k (sh, μ, la, n) = k () (sh, tw_ra μ (m + 1) (tw_kk (μ (m + 1)) (μ (m + 4)) 492), la, n) := by
  unfold f_X12_bringsBack
  refine tw_lp_for 492 (fun i => nI i) (fun i => (sh, tw_ra μ (m + 1) (tw_kk (μ (m + 1)) (μ (m + 4)) i), la, n)) rfl ?_ ?_ ?_
  · show (sh, tw_ra μ (m + 1) (tw_kk (μ (m + 1)) (μ (m + 4)) 0), la, n) = _
    rw [tw_kk_0, tw_ra_s]
  · intro i hi rec
    simp (disch := omega) only [tw_ra_nj, tw_up_ra, tw_kk_s, ↓MoV0 hM, ↓MoI0_70 hM, ↓MoP0_70 hM, ↓MoZ0_70 hM, ↓MoG0_71 hM, ↓MoG0_72 hM, ↓MoG0_73 hM, ↓MoG0_74 hM, ↓MoG0_75 hM, ↓MoI0_76 hM, ↓MoP0_76 hM, ↓MoZ0_76 hM, ↓MoI0_77 hM, ↓MoP0_77 hM, ↓MoZ0_77 hM, ↓MoG0_78 hM, ↓MoI0_79 hM, ↓MoP0_79 hM, ↓MoZ0_79 hM, ↓MoI0_80 hM, ↓MoP0_80 hM, ↓MoZ0_80 hM, ↓MoI0_81 hM, ↓MoP0_81 hM, ↓MoZ0_81 hM, ↓MoI0_82 hM, ↓MoP0_82 hM, ↓MoZ0_82 hM, ↓MoI0_83 hM, ↓MoP0_83 hM, ↓MoZ0_83 hM, ↓MoI0_84 hM, ↓MoP0_84 hM, ↓MoZ0_84 hM, ↓MoG0_85 hM, ↓MoI0_86 hM, ↓MoP0_86 hM, ↓MoZ0_86 hM, ↓MoG0_87 hM, ↓MoI0_88 hM, ↓MoP0_88 hM, ↓MoZ0_88 hM, ↓MoG0_89 hM, ↓MoG0_90 hM, ↓MoG0_91 hM, ↓MoG0_92 hM, ↓MoL0 hM, ↓MoS0 hM, ↓MoL1 hM, ↓MoS1 hM, ↓MoL2 hM, ↓MoS2 hM, ↓MoL3 hM, ↓MoS3 hM, ↓MoL4 hM, ↓MoS4 hM, ↓MoL5 hM, ↓MoS5 hM, ↓MoL6 hM, ↓MoS6 hM, ↓MoL7 hM, ↓MoS7 hM, ↓MoL8 hM, ↓MoS8 hM, ↓MoL9 hM, ↓MoS9 hM, ↓MoL10 hM, ↓MoS10 hM, ↓MoL11 hM, ↓MoS11 hM, ↓A_if, ↓A_jn, ↓A_lt, ↓A_rz, ↓A_rn, ↓A_nzi, ↓A_nzl, ↓A_nn1, ↓A_nn0, ↓reduceIte, true_and, and_true, if_true, if_false, ite_true, ite_false, reduceIte, tl_0, tl_1, tl_2, tl_3, tl_4, tl_5, tl_6, tl_7, tl_8, tl_9, tl_10, tl_11, tl_12, tl_13, tl_14, tl_15, tl_16, tl_17, tl_18, tl_19, tl_20, tl_21, tl_22, tl_23, tl_24, tl_25, tl_26, tl_27, tl_28, tl_29, tl_30, tl_31, tl_32, tl_33, tl_34, tl_35, tl_36, tl_37, tl_38, tl_39, tl_40, tl_41, tl_42, tl_43, tl_44, tl_45, tl_46, tl_47, tl_48, tl_49, tl_50, tl_51, tl_52, tl_53, tl_54, tl_57, tl_59, tl_60, tl_62, tl_63, tl_64, tl_97, tl_99, tl_100, tl_120, tl_122, tl_192, tl_193, tl_194, tl_195, tl_196, tl_255, tl_256, tl_299, tl_400, tl_401, tl_492, tl_493, tl_541, tl_849, tl_999, tl_1000, tl_1341, tl_1342, tl_1390, tl_2190, tl_5412, tl_5904, tl_9999, tl_12345, tl_32767, tl_65536, tl_1000000, tl_252645135, tl_858993459, tl_1103515245, tl_1431655765, nz_31, nz_c31, eq_self, or_true, true_or, or_false, false_or, Nat.add_zero, nz_lt, nz_le, nz_eq, nz_cl, nz_sub, nI_add, pk_mul, nt_lt, nf_lt, nf_eq, nz_mI, mI_eq, mI_eq', mI_lt, mI_gt, mI_add, ↓j_max, ↓j_min, Nat.sub_sub, Nat.reduceAdd, Nat.reduceSub, Nat.reduceLT, Nat.reduceEqDiff, Bool.false_eq_true]
  · intro rec
    simp (disch := omega) only [↓MoV0 hM, ↓MoI0_70 hM, ↓MoP0_70 hM, ↓MoZ0_70 hM, ↓MoG0_71 hM, ↓MoG0_72 hM, ↓MoG0_73 hM, ↓MoG0_74 hM, ↓MoG0_75 hM, ↓MoI0_76 hM, ↓MoP0_76 hM, ↓MoZ0_76 hM, ↓MoI0_77 hM, ↓MoP0_77 hM, ↓MoZ0_77 hM, ↓MoG0_78 hM, ↓MoI0_79 hM, ↓MoP0_79 hM, ↓MoZ0_79 hM, ↓MoI0_80 hM, ↓MoP0_80 hM, ↓MoZ0_80 hM, ↓MoI0_81 hM, ↓MoP0_81 hM, ↓MoZ0_81 hM, ↓MoI0_82 hM, ↓MoP0_82 hM, ↓MoZ0_82 hM, ↓MoI0_83 hM, ↓MoP0_83 hM, ↓MoZ0_83 hM, ↓MoI0_84 hM, ↓MoP0_84 hM, ↓MoZ0_84 hM, ↓MoG0_85 hM, ↓MoI0_86 hM, ↓MoP0_86 hM, ↓MoZ0_86 hM, ↓MoG0_87 hM, ↓MoI0_88 hM, ↓MoP0_88 hM, ↓MoZ0_88 hM, ↓MoG0_89 hM, ↓MoG0_90 hM, ↓MoG0_91 hM, ↓MoG0_92 hM, ↓MoL0 hM, ↓MoS0 hM, ↓MoL1 hM, ↓MoS1 hM, ↓MoL2 hM, ↓MoS2 hM, ↓MoL3 hM, ↓MoS3 hM, ↓MoL4 hM, ↓MoS4 hM, ↓MoL5 hM, ↓MoS5 hM, ↓MoL6 hM, ↓MoS6 hM, ↓MoL7 hM, ↓MoS7 hM, ↓MoL8 hM, ↓MoS8 hM, ↓MoL9 hM, ↓MoS9 hM, ↓MoL10 hM, ↓MoS10 hM, ↓MoL11 hM, ↓MoS11 hM, ↓A_if, ↓A_jn, ↓A_lt, ↓A_rz, ↓A_rn, ↓A_nzi, ↓A_nzl, ↓A_nn1, ↓A_nn0, ↓reduceIte, true_and, and_true, if_true, if_false, ite_true, ite_false, reduceIte, tl_0, tl_1, tl_2, tl_3, tl_4, tl_5, tl_6, tl_7, tl_8, tl_9, tl_10, tl_11, tl_12, tl_13, tl_14, tl_15, tl_16, tl_17, tl_18, tl_19, tl_20, tl_21, tl_22, tl_23, tl_24, tl_25, tl_26, tl_27, tl_28, tl_29, tl_30, tl_31, tl_32, tl_33, tl_34, tl_35, tl_36, tl_37, tl_38, tl_39, tl_40, tl_41, tl_42, tl_43, tl_44, tl_45, tl_46, tl_47, tl_48, tl_49, tl_50, tl_51, tl_52, tl_53, tl_54, tl_57, tl_59, tl_60, tl_62, tl_63, tl_64, tl_97, tl_99, tl_100, tl_120, tl_122, tl_192, tl_193, tl_194, tl_195, tl_196, tl_255, tl_256, tl_299, tl_400, tl_401, tl_492, tl_493, tl_541, tl_849, tl_999, tl_1000, tl_1341, tl_1342, tl_1390, tl_2190, tl_5412, tl_5904, tl_9999, tl_12345, tl_32767, tl_65536, tl_1000000, tl_252645135, tl_858993459, tl_1103515245, tl_1431655765, nz_31, nz_c31, eq_self, or_true, true_or, or_false, false_or, Nat.add_zero, nz_lt, nz_le, nz_eq, nz_cl, nz_sub, nI_add, pk_mul, nt_lt, nf_lt, nf_eq, nz_mI, mI_eq, mI_eq', mI_lt, mI_gt, mI_add, ↓j_max, ↓j_min, Nat.sub_sub, Nat.reduceAdd, Nat.reduceSub, Nat.reduceLT, Nat.reduceEqDiff, Bool.false_eq_true]
/-- what was kept is brought back -/
theorem m_kept {μ1 : Nat → Nat → Int32} (h : tw_md m (tw_ra μ (m + 4) (tw_kk (μ (m + 4)) (μ (m + 1)) 492)) μ1) (h2 : ∀ j, 492 ≤ j → μ1 (m + 1) j = μ (m + 1) j) : tw_mz m μ (tw_ra μ1 (m + 1) (tw_kk (μ1 (m + 1)) (μ1 (m + 4)) 492)) := by
  obtain ⟨g1, g2⟩ := h
  have e4 : μ1 (m + 4) = tw_kk (μ (m + 4)) (μ (m + 1)) 492 := by rw [g1 (m + 4) (by omega) (by omega) (by omega), tw_ra_a]
  refine ⟨?_, fun x a b c d => ?_, fun j hj => ?_⟩
  · rw [tw_ra_a, e4]
    funext j
    unfold tw_kk
    by_cases q : j < 492
    · rw [if_pos q, if_pos q]
    · rw [if_neg q]
      exact h2 j (by omega)
  · rw [tw_ra_n (by omega), g1 x a b d, tw_ra_n (by omega)]
  · rw [tw_ra_n (by omega), g2 j hj, tw_ra_n (by omega)]
theorem m_lasts (hM : tw_Mo sh m) (H : tw_LX (μ (m + 1))) (W : tw_WF (μ (m + 1)) P) (hp : p < P) (ho : o < P) (hpo : p ≠ o) : ∃ μ', tw_mz m μ μ' ∧ ∀ k, f_X12_lastsBy m (nI p) (nI o) k (sh, μ, la, n) = k (nI (tw_las (μ (m + 1)) p o P)) (sh, μ', la, n) := by
  have h8 := W.2.1
  obtain ⟨s1, s2, s3⟩ := tw_las_s (μ (m + 1)) p o P
  generalize tw_las (μ (m + 1)) p o P = N at *
  simp (disch := omega) only [f_X12_lastsBy, ↓m_keeps hM, ↓MoV0 hM, ↓MoI0_70 hM, ↓MoP0_70 hM, ↓MoZ0_70 hM, ↓MoG0_71 hM, ↓MoG0_72 hM, ↓MoG0_73 hM, ↓MoG0_74 hM, ↓MoG0_75 hM, ↓MoI0_76 hM, ↓MoP0_76 hM, ↓MoZ0_76 hM, ↓MoI0_77 hM, ↓MoP0_77 hM, ↓MoZ0_77 hM, ↓MoG0_78 hM, ↓MoI0_79 hM, ↓MoP0_79 hM, ↓MoZ0_79 hM, ↓MoI0_80 hM, ↓MoP0_80 hM, ↓MoZ0_80 hM, ↓MoI0_81 hM, ↓MoP0_81 hM, ↓MoZ0_81 hM, ↓MoI0_82 hM, ↓MoP0_82 hM, ↓MoZ0_82 hM, ↓MoI0_83 hM, ↓MoP0_83 hM, ↓MoZ0_83 hM, ↓MoI0_84 hM, ↓MoP0_84 hM, ↓MoZ0_84 hM, ↓MoG0_85 hM, ↓MoI0_86 hM, ↓MoP0_86 hM, ↓MoZ0_86 hM, ↓MoG0_87 hM, ↓MoI0_88 hM, ↓MoP0_88 hM, ↓MoZ0_88 hM, ↓MoG0_89 hM, ↓MoG0_90 hM, ↓MoG0_91 hM, ↓MoG0_92 hM, ↓MoL0 hM, ↓MoS0 hM, ↓MoL1 hM, ↓MoS1 hM, ↓MoL2 hM, ↓MoS2 hM, ↓MoL3 hM, ↓MoS3 hM, ↓MoL4 hM, ↓MoS4 hM, ↓MoL5 hM, ↓MoS5 hM, ↓MoL6 hM, ↓MoS6 hM, ↓MoL7 hM, ↓MoS7 hM, ↓MoL8 hM, ↓MoS8 hM, ↓MoL9 hM, ↓MoS9 hM, ↓MoL10 hM, ↓MoS10 hM, ↓MoL11 hM, ↓MoS11 hM, ↓A_if, ↓A_jn, ↓A_lt, ↓A_rz, ↓A_rn, ↓A_nzi, ↓A_nzl, ↓A_nn1, ↓A_nn0, ↓reduceIte, true_and, and_true, if_true, if_false, ite_true, ite_false, reduceIte, tl_0, tl_1, tl_2, tl_3, tl_4, tl_5, tl_6, tl_7, tl_8, tl_9, tl_10, tl_11, tl_12, tl_13, tl_14, tl_15, tl_16, tl_17, tl_18, tl_19, tl_20, tl_21, tl_22, tl_23, tl_24, tl_25, tl_26, tl_27, tl_28, tl_29, tl_30, tl_31, tl_32, tl_33, tl_34, tl_35, tl_36, tl_37, tl_38, tl_39, tl_40, tl_41, tl_42, tl_43, tl_44, tl_45, tl_46, tl_47, tl_48, tl_49, tl_50, tl_51, tl_52, tl_53, tl_54, tl_57, tl_59, tl_60, tl_62, tl_63, tl_64, tl_97, tl_99, tl_100, tl_120, tl_122, tl_192, tl_193, tl_194, tl_195, tl_196, tl_255, tl_256, tl_299, tl_400, tl_401, tl_492, tl_493, tl_541, tl_849, tl_999, tl_1000, tl_1341, tl_1342, tl_1390, tl_2190, tl_5412, tl_5904, tl_9999, tl_12345, tl_32767, tl_65536, tl_1000000, tl_252645135, tl_858993459, tl_1103515245, tl_1431655765, nz_31, nz_c31, eq_self, or_true, true_or, or_false, false_or, Nat.add_zero, nz_lt, nz_le, nz_eq, nz_cl, nz_sub, nI_add, pk_mul, nt_lt, nf_lt, nf_eq, nz_mI, mI_eq, mI_eq', mI_lt, mI_gt, mI_add, ↓j_max, ↓j_min, Nat.sub_sub, Nat.reduceAdd, Nat.reduceSub, Nat.reduceLT, Nat.reduceEqDiff, Bool.false_eq_true]
  have e1 : tw_ra μ (m + 4) (tw_kk (μ (m + 4)) (μ (m + 1)) 492) (m + 1) = μ (m + 1) := tw_ra_n (by omega)
  refine tw_lp_ex N (fun i => nI i) (fun i μ' => μ' (m + 1) = tw_lT (μ (m + 1)) p o P i ∧ tw_md m (tw_ra μ (m + 4) (tw_kk (μ (m + 4)) (μ (m + 1)) 492)) μ') rfl ⟨e1, tw_md_r⟩ ?_ ?_
  · rintro i hi μ1 ⟨h1, F1⟩
    obtain ⟨W1, K1⟩ := tw_lT_k W hp ho hpo i
    have hr := s2 i hi
    rw [← h1] at W1 K1 hr
    have H1 := tw_LX_same H (K1 2 (Or.inl rfl)) (fun j hj => K1 j (Or.inr hj))
    obtain ⟨μ2, ⟨h2, F2⟩, E2⟩ := m_pull (la := la) (n := n) hM H1 W1 (p := p) (o := o) (by omega) (by omega) hpo
    have W2 := Wf_pull W1 hp ho hpo
    have K2 : ∀ j, j < 36 ∨ 192 ≤ j → tw_pull (μ1 (m + 1)) p o j = μ1 (m + 1) j := fun j hj => tw_pull_o (by omega) (by omega) hj
    rw [← h2] at W2 K2
    obtain ⟨μ3, ⟨h3, F3⟩, E3⟩ := m_hourEnds (la := la) (n := n) hM true (tw_LX_same H1 (K2 2 (by omega)) (fun j hj => K2 j (by omega))) W2
    refine ⟨μ3, ⟨?_, tw_md_t F1 (tw_md_t F2 F3)⟩, fun k rec => ?_⟩
    · rw [h3, h2, h1, tw_lT_s]
    · simp only [if_true] at E3
      simp (disch := omega) only [↓E2, ↓E3, hr, ↓MoV0 hM, ↓MoI0_70 hM, ↓MoP0_70 hM, ↓MoZ0_70 hM, ↓MoG0_71 hM, ↓MoG0_72 hM, ↓MoG0_73 hM, ↓MoG0_74 hM, ↓MoG0_75 hM, ↓MoI0_76 hM, ↓MoP0_76 hM, ↓MoZ0_76 hM, ↓MoI0_77 hM, ↓MoP0_77 hM, ↓MoZ0_77 hM, ↓MoG0_78 hM, ↓MoI0_79 hM, ↓MoP0_79 hM, ↓MoZ0_79 hM, ↓MoI0_80 hM, ↓MoP0_80 hM, ↓MoZ0_80 hM, ↓MoI0_81 hM, ↓MoP0_81 hM, ↓MoZ0_81 hM, ↓MoI0_82 hM, ↓MoP0_82 hM, ↓MoZ0_82 hM, ↓MoI0_83 hM, ↓MoP0_83 hM, ↓MoZ0_83 hM, ↓MoI0_84 hM, ↓MoP0_84 hM, ↓MoZ0_84 hM, ↓MoG0_85 hM, ↓MoI0_86 hM, ↓MoP0_86 hM, ↓MoZ0_86 hM, ↓MoG0_87 hM, ↓MoI0_88 hM, ↓MoP0_88 hM, ↓MoZ0_88 hM, ↓MoG0_89 hM, ↓MoG0_90 hM, ↓MoG0_91 hM, ↓MoG0_92 hM, ↓MoL0 hM, ↓MoS0 hM, ↓MoL1 hM, ↓MoS1 hM, ↓MoL2 hM, ↓MoS2 hM, ↓MoL3 hM, ↓MoS3 hM, ↓MoL4 hM, ↓MoS4 hM, ↓MoL5 hM, ↓MoS5 hM, ↓MoL6 hM, ↓MoS6 hM, ↓MoL7 hM, ↓MoS7 hM, ↓MoL8 hM, ↓MoS8 hM, ↓MoL9 hM, ↓MoS9 hM, ↓MoL10 hM, ↓MoS10 hM, ↓MoL11 hM, ↓MoS11 hM, ↓A_if, ↓A_jn, ↓A_lt, ↓A_rz, ↓A_rn, ↓A_nzi, ↓A_nzl, ↓A_nn1, ↓A_nn0, ↓reduceIte, true_and, and_true, if_true, if_false, ite_true, ite_false, reduceIte, tl_0, tl_1, tl_2, tl_3, tl_4, tl_5, tl_6, tl_7, tl_8, tl_9, tl_10, tl_11, tl_12, tl_13, tl_14, tl_15, tl_16, tl_17, tl_18, tl_19, tl_20, tl_21, tl_22, tl_23, tl_24, tl_25, tl_26, tl_27, tl_28, tl_29, tl_30, tl_31, tl_32, tl_33, tl_34, tl_35, tl_36, tl_37, tl_38, tl_39, tl_40, tl_41, tl_42, tl_43, tl_44, tl_45, tl_46, tl_47, tl_48, tl_49, tl_50, tl_51, tl_52, tl_53, tl_54, tl_57, tl_59, tl_60, tl_62, tl_63, tl_64, tl_97, tl_99, tl_100, tl_120, tl_122, tl_192, tl_193, tl_194, tl_195, tl_196, tl_255, tl_256, tl_299, tl_400, tl_401, tl_492, tl_493, tl_541, tl_849, tl_999, tl_1000, tl_1341, tl_1342, tl_1390, tl_2190, tl_5412, tl_5904, tl_9999, tl_12345, tl_32767, tl_65536, tl_1000000, tl_252645135, tl_858993459, tl_1103515245, tl_1431655765, nz_31, nz_c31, eq_self, or_true, true_or, or_false, false_or, Nat.add_zero, nz_lt, nz_le, nz_eq, nz_cl, nz_sub, nI_add, pk_mul, nt_lt, nf_lt, nf_eq, nz_mI, mI_eq, mI_eq', mI_lt, mI_gt, mI_add, ↓j_max, ↓j_min, Nat.sub_sub, Nat.reduceAdd, Nat.reduceSub, Nat.reduceLT, Nat.reduceEqDiff, Bool.false_eq_true]
  · rintro μ1 ⟨h1, F1⟩
    obtain ⟨W1, K1⟩ := tw_lT_k W hp ho hpo N
    rw [← h1] at W1 K1
    rcases s3 with s3 | s3
    · refine ⟨_, m_kept F1 (fun j hj => K1 j (Or.inr hj)), fun k rec => ?_⟩
      simp (disch := omega) only [↓m_brings hM, ↓MoV0 hM, ↓MoI0_70 hM, ↓MoP0_70 hM, ↓MoZ0_70 hM, ↓MoG0_71 hM, ↓MoG0_72 hM, ↓MoG0_73 hM, ↓MoG0_74 hM, ↓MoG0_75 hM, ↓MoI0_76 hM, ↓MoP0_76 hM, ↓MoZ0_76 hM, ↓MoI0_77 hM, ↓MoP0_77 hM, ↓MoZ0_77 hM, ↓MoG0_78 hM, ↓MoI0_79 hM, ↓MoP0_79 hM, ↓MoZ0_79 hM, ↓MoI0_80 hM, ↓MoP0_80 hM, ↓MoZ0_80 hM, ↓MoI0_81 hM, ↓MoP0_81 hM, ↓MoZ0_81 hM, ↓MoI0_82 hM, ↓MoP0_82 hM, ↓MoZ0_82 hM, ↓MoI0_83 hM, ↓MoP0_83 hM, ↓MoZ0_83 hM, ↓MoI0_84 hM, ↓MoP0_84 hM, ↓MoZ0_84 hM, ↓MoG0_85 hM, ↓MoI0_86 hM, ↓MoP0_86 hM, ↓MoZ0_86 hM, ↓MoG0_87 hM, ↓MoI0_88 hM, ↓MoP0_88 hM, ↓MoZ0_88 hM, ↓MoG0_89 hM, ↓MoG0_90 hM, ↓MoG0_91 hM, ↓MoG0_92 hM, ↓MoL0 hM, ↓MoS0 hM, ↓MoL1 hM, ↓MoS1 hM, ↓MoL2 hM, ↓MoS2 hM, ↓MoL3 hM, ↓MoS3 hM, ↓MoL4 hM, ↓MoS4 hM, ↓MoL5 hM, ↓MoS5 hM, ↓MoL6 hM, ↓MoS6 hM, ↓MoL7 hM, ↓MoS7 hM, ↓MoL8 hM, ↓MoS8 hM, ↓MoL9 hM, ↓MoS9 hM, ↓MoL10 hM, ↓MoS10 hM, ↓MoL11 hM, ↓MoS11 hM, ↓A_if, ↓A_jn, ↓A_lt, ↓A_rz, ↓A_rn, ↓A_nzi, ↓A_nzl, ↓A_nn1, ↓A_nn0, ↓reduceIte, true_and, and_true, if_true, if_false, ite_true, ite_false, reduceIte, tl_0, tl_1, tl_2, tl_3, tl_4, tl_5, tl_6, tl_7, tl_8, tl_9, tl_10, tl_11, tl_12, tl_13, tl_14, tl_15, tl_16, tl_17, tl_18, tl_19, tl_20, tl_21, tl_22, tl_23, tl_24, tl_25, tl_26, tl_27, tl_28, tl_29, tl_30, tl_31, tl_32, tl_33, tl_34, tl_35, tl_36, tl_37, tl_38, tl_39, tl_40, tl_41, tl_42, tl_43, tl_44, tl_45, tl_46, tl_47, tl_48, tl_49, tl_50, tl_51, tl_52, tl_53, tl_54, tl_57, tl_59, tl_60, tl_62, tl_63, tl_64, tl_97, tl_99, tl_100, tl_120, tl_122, tl_192, tl_193, tl_194, tl_195, tl_196, tl_255, tl_256, tl_299, tl_400, tl_401, tl_492, tl_493, tl_541, tl_849, tl_999, tl_1000, tl_1341, tl_1342, tl_1390, tl_2190, tl_5412, tl_5904, tl_9999, tl_12345, tl_32767, tl_65536, tl_1000000, tl_252645135, tl_858993459, tl_1103515245, tl_1431655765, nz_31, nz_c31, eq_self, or_true, true_or, or_false, false_or, Nat.add_zero, nz_lt, nz_le, nz_eq, nz_cl, nz_sub, nI_add, pk_mul, nt_lt, nf_lt, nf_eq, nz_mI, mI_eq, mI_eq', mI_lt, mI_gt, mI_add, ↓j_max, ↓j_min, Nat.sub_sub, Nat.reduceAdd, Nat.reduceSub, Nat.reduceLT, Nat.reduceEqDiff, Bool.false_eq_true]
    · rw [← h1] at s3
      have H1 := tw_LX_same H (K1 2 (Or.inl rfl)) (fun j hj => K1 j (Or.inr hj))
      obtain ⟨μ2, ⟨h2, F2⟩, E2⟩ := m_pull (la := la) (n := n) hM H1 W1 (p := p) (o := o) (by omega) (by omega) hpo
      have K2 : ∀ j, j < 36 ∨ 192 ≤ j → tw_pull (μ1 (m + 1)) p o j = μ1 (m + 1) j := fun j hj => tw_pull_o (by omega) (by omega) hj
      rw [← h2] at K2
      have hr0 : tw_rg (μ1 (m + 1)) p o = nI 0 := by
        rcases tw_rg_tf (μ1 (m + 1)) p o with g | g
        · exact g
        · exact absurd g s3
      rcases (by omega : N < 60 ∨ N = 60) with g | g
      · refine ⟨_, m_kept (tw_md_t F1 F2) (fun j hj => (K2 j (by omega)).trans (K1 j (Or.inr hj))), fun k rec => ?_⟩
        simp (disch := omega) only [↓E2, hr0, ↓m_brings hM, ↓MoV0 hM, ↓MoI0_70 hM, ↓MoP0_70 hM, ↓MoZ0_70 hM, ↓MoG0_71 hM, ↓MoG0_72 hM, ↓MoG0_73 hM, ↓MoG0_74 hM, ↓MoG0_75 hM, ↓MoI0_76 hM, ↓MoP0_76 hM, ↓MoZ0_76 hM, ↓MoI0_77 hM, ↓MoP0_77 hM, ↓MoZ0_77 hM, ↓MoG0_78 hM, ↓MoI0_79 hM, ↓MoP0_79 hM, ↓MoZ0_79 hM, ↓MoI0_80 hM, ↓MoP0_80 hM, ↓MoZ0_80 hM, ↓MoI0_81 hM, ↓MoP0_81 hM, ↓MoZ0_81 hM, ↓MoI0_82 hM, ↓MoP0_82 hM, ↓MoZ0_82 hM, ↓MoI0_83 hM, ↓MoP0_83 hM, ↓MoZ0_83 hM, ↓MoI0_84 hM, ↓MoP0_84 hM, ↓MoZ0_84 hM, ↓MoG0_85 hM, ↓MoI0_86 hM, ↓MoP0_86 hM, ↓MoZ0_86 hM, ↓MoG0_87 hM, ↓MoI0_88 hM, ↓MoP0_88 hM, ↓MoZ0_88 hM, ↓MoG0_89 hM, ↓MoG0_90 hM, ↓MoG0_91 hM, ↓MoG0_92 hM, ↓MoL0 hM, ↓MoS0 hM, ↓MoL1 hM, ↓MoS1 hM, ↓MoL2 hM, ↓MoS2 hM, ↓MoL3 hM, ↓MoS3 hM, ↓MoL4 hM, ↓MoS4 hM, ↓MoL5 hM, ↓MoS5 hM, ↓MoL6 hM, ↓MoS6 hM, ↓MoL7 hM, ↓MoS7 hM, ↓MoL8 hM, ↓MoS8 hM, ↓MoL9 hM, ↓MoS9 hM, ↓MoL10 hM, ↓MoS10 hM, ↓MoL11 hM, ↓MoS11 hM, ↓A_if, ↓A_jn, ↓A_lt, ↓A_rz, ↓A_rn, ↓A_nzi, ↓A_nzl, ↓A_nn1, ↓A_nn0, ↓reduceIte, true_and, and_true, if_true, if_false, ite_true, ite_false, reduceIte, tl_0, tl_1, tl_2, tl_3, tl_4, tl_5, tl_6, tl_7, tl_8, tl_9, tl_10, tl_11, tl_12, tl_13, tl_14, tl_15, tl_16, tl_17, tl_18, tl_19, tl_20, tl_21, tl_22, tl_23, tl_24, tl_25, tl_26, tl_27, tl_28, tl_29, tl_30, tl_31, tl_32, tl_33, tl_34, tl_35, tl_36, tl_37, tl_38, tl_39, tl_40, tl_41, tl_42, tl_43, tl_44, tl_45, tl_46, tl_47, tl_48, tl_49, tl_50, tl_51, tl_52, tl_53, tl_54, tl_57, tl_59, tl_60, tl_62, tl_63, tl_64, tl_97, tl_99, tl_100, tl_120, tl_122, tl_192, tl_193, tl_194, tl_195, tl_196, tl_255, tl_256, tl_299, tl_400, tl_401, tl_492, tl_493, tl_541, tl_849, tl_999, tl_1000, tl_1341, tl_1342, tl_1390, tl_2190, tl_5412, tl_5904, tl_9999, tl_12345, tl_32767, tl_65536, tl_1000000, tl_252645135, tl_858993459, tl_1103515245, tl_1431655765, nz_31, nz_c31, eq_self, or_true, true_or, or_false, false_or, Nat.add_zero, nz_lt, nz_le, nz_eq, nz_cl, nz_sub, nI_add, pk_mul, nt_lt, nf_lt, nf_eq, nz_mI, mI_eq, mI_eq', mI_lt, mI_gt, mI_add, ↓j_max, ↓j_min, Nat.sub_sub, Nat.reduceAdd, Nat.reduceSub, Nat.reduceLT, Nat.reduceEqDiff, Bool.false_eq_true]
      · refine ⟨_, m_kept F1 (fun j hj => K1 j (Or.inr hj)), fun k rec => ?_⟩
        simp (disch := omega) only [↓m_brings hM, ↓MoV0 hM, ↓MoI0_70 hM, ↓MoP0_70 hM, ↓MoZ0_70 hM, ↓MoG0_71 hM, ↓MoG0_72 hM, ↓MoG0_73 hM, ↓MoG0_74 hM, ↓MoG0_75 hM, ↓MoI0_76 hM, ↓MoP0_76 hM, ↓MoZ0_76 hM, ↓MoI0_77 hM, ↓MoP0_77 hM, ↓MoZ0_77 hM, ↓MoG0_78 hM, ↓MoI0_79 hM, ↓MoP0_79 hM, ↓MoZ0_79 hM, ↓MoI0_80 hM, ↓MoP0_80 hM, ↓MoZ0_80 hM, ↓MoI0_81 hM, ↓MoP0_81 hM, ↓MoZ0_81 hM, ↓MoI0_82 hM, ↓MoP0_82 hM, ↓MoZ0_82 hM, ↓MoI0_83 hM, ↓MoP0_83 hM, ↓MoZ0_83 hM, ↓MoI0_84 hM, ↓MoP0_84 hM, ↓MoZ0_84 hM, ↓MoG0_85 hM, ↓MoI0_86 hM, ↓MoP0_86 hM, ↓MoZ0_86 hM, ↓MoG0_87 hM, ↓MoI0_88 hM, ↓MoP0_88 hM, ↓MoZ0_88 hM, ↓MoG0_89 hM, ↓MoG0_90 hM, ↓MoG0_91 hM, ↓MoG0_92 hM, ↓MoL0 hM, ↓MoS0 hM, ↓MoL1 hM, ↓MoS1 hM, ↓MoL2 hM, ↓MoS2 hM, ↓MoL3 hM, ↓MoS3 hM, ↓MoL4 hM, ↓MoS4 hM, ↓MoL5 hM, ↓MoS5 hM, ↓MoL6 hM, ↓MoS6 hM, ↓MoL7 hM, ↓MoS7 hM, ↓MoL8 hM, ↓MoS8 hM, ↓MoL9 hM, ↓MoS9 hM, ↓MoL10 hM, ↓MoS10 hM, ↓MoL11 hM, ↓MoS11 hM, ↓A_if, ↓A_jn, ↓A_lt, ↓A_rz, ↓A_rn, ↓A_nzi, ↓A_nzl, ↓A_nn1, ↓A_nn0, ↓reduceIte, true_and, and_true, if_true, if_false, ite_true, ite_false, reduceIte, tl_0, tl_1, tl_2, tl_3, tl_4, tl_5, tl_6, tl_7, tl_8, tl_9, tl_10, tl_11, tl_12, tl_13, tl_14, tl_15, tl_16, tl_17, tl_18, tl_19, tl_20, tl_21, tl_22, tl_23, tl_24, tl_25, tl_26, tl_27, tl_28, tl_29, tl_30, tl_31, tl_32, tl_33, tl_34, tl_35, tl_36, tl_37, tl_38, tl_39, tl_40, tl_41, tl_42, tl_43, tl_44, tl_45, tl_46, tl_47, tl_48, tl_49, tl_50, tl_51, tl_52, tl_53, tl_54, tl_57, tl_59, tl_60, tl_62, tl_63, tl_64, tl_97, tl_99, tl_100, tl_120, tl_122, tl_192, tl_193, tl_194, tl_195, tl_196, tl_255, tl_256, tl_299, tl_400, tl_401, tl_492, tl_493, tl_541, tl_849, tl_999, tl_1000, tl_1341, tl_1342, tl_1390, tl_2190, tl_5412, tl_5904, tl_9999, tl_12345, tl_32767, tl_65536, tl_1000000, tl_252645135, tl_858993459, tl_1103515245, tl_1431655765, nz_31, nz_c31, eq_self, or_true, true_or, or_false, false_or, Nat.add_zero, nz_lt, nz_le, nz_eq, nz_cl, nz_sub, nI_add, pk_mul, nt_lt, nf_lt, nf_eq, nz_mI, mI_eq, mI_eq', mI_lt, mI_gt, mI_add, ↓j_max, ↓j_min, Nat.sub_sub, Nat.reduceAdd, Nat.reduceSub, Nat.reduceLT, Nat.reduceEqDiff, Bool.false_eq_true]
theorem c_times (hA : tw_Pa sh b) (hw : tw_Tw sh (b + 152)) (H : tw_RC sh μ (b + 3) T) (W : tw_WF T P) (HL : tw_La sh μ lw T) (hdl : b + 157 < lw) (hp : p < P) (ho : o < P) (hpo : p ≠ o) : ∃ μ', tw_wr (b + 152) lw μ μ' ∧ ∀ k, f_X4_timesOf (b + 154) (nI p) (nI o) lw k (sh, μ, la, n) = k (nI (tw_las T p o P)) (sh, μ', la, n) := by
  have h8 := W.2.1
  obtain ⟨s1, s2, s3⟩ := tw_las_s T p o P
  generalize tw_las T p o P = N at *
  obtain ⟨μ1, ⟨h1, F1⟩, E1⟩ := c_see2 (la := la) (n := n) hw H W hp ho (by omega)
  simp (disch := omega) only [f_X4_timesOf, ↓E1, ↓PaV0 hA, ↓PaG0_25 hA, ↓PaG0_26 hA, ↓PaG0_27 hA, ↓PaG0_28 hA, ↓PaI0_29 hA, ↓PaP0_29 hA, ↓PaZ0_29 hA, ↓PaI0_30 hA, ↓PaP0_30 hA, ↓PaZ0_30 hA, ↓PaI0_31 hA, ↓PaP0_31 hA, ↓PaZ0_31 hA, ↓PaL0 hA, ↓PaS0 hA, ↓PaL1 hA, ↓PaS1 hA, ↓TwV0 hw, ↓TwG0_54 hw, ↓TwI0_55 hw, ↓TwP0_55 hw, ↓TwZ0_55 hw, ↓TwL0 hw, ↓TwS0 hw, ↓A_if, ↓A_jn, ↓A_lt, ↓A_rz, ↓A_rn, ↓A_nzi, ↓A_nzl, ↓A_nn1, ↓A_nn0, ↓reduceIte, true_and, and_true, if_true, if_false, ite_true, ite_false, reduceIte, tl_0, tl_1, tl_2, tl_3, tl_4, tl_5, tl_6, tl_7, tl_8, tl_9, tl_10, tl_11, tl_12, tl_13, tl_14, tl_15, tl_16, tl_17, tl_18, tl_19, tl_20, tl_21, tl_22, tl_23, tl_24, tl_25, tl_26, tl_27, tl_28, tl_29, tl_30, tl_31, tl_32, tl_33, tl_34, tl_35, tl_36, tl_37, tl_38, tl_39, tl_40, tl_41, tl_42, tl_43, tl_44, tl_45, tl_46, tl_47, tl_48, tl_49, tl_50, tl_51, tl_52, tl_53, tl_54, tl_57, tl_59, tl_60, tl_62, tl_63, tl_64, tl_97, tl_99, tl_100, tl_120, tl_122, tl_192, tl_193, tl_194, tl_195, tl_196, tl_255, tl_256, tl_299, tl_400, tl_401, tl_492, tl_493, tl_541, tl_849, tl_999, tl_1000, tl_1341, tl_1342, tl_1390, tl_2190, tl_5412, tl_5904, tl_9999, tl_12345, tl_32767, tl_65536, tl_1000000, tl_252645135, tl_858993459, tl_1103515245, tl_1431655765, nz_31, nz_c31, eq_self, or_true, true_or, or_false, false_or, Nat.add_zero, nz_lt, nz_le, nz_eq, nz_cl, nz_sub, nI_add, pk_mul, nt_lt, nf_lt, nf_eq, nz_mI, mI_eq, mI_eq', mI_lt, mI_gt, mI_add, ↓j_max, ↓j_min, Nat.sub_sub, Nat.reduceAdd, Nat.reduceSub, Nat.reduceLT, Nat.reduceEqDiff, Bool.false_eq_true]
  have L1 : tw_La sh μ1 lw T := tw_La_same HL (fun x hx => F1 x (by omega)) rfl (fun _ _ => rfl)
  refine tw_lp_ex N (fun i => nI i) (fun i μ' => (∃ rg, tw_2 μ' (b + 152) (tw_lT T p o P i) p o rg) ∧ tw_wr (b + 152) lw μ μ') rfl ⟨⟨_, h1⟩, tw_wr_x F1⟩ ?_ ?_
  · rintro i hi μ2 ⟨⟨rg, h2⟩, F2⟩
    obtain ⟨W1, K1⟩ := tw_lT_k W hp ho hpo i
    have hr := s2 i hi
    have L2 : tw_La sh μ2 lw (tw_lT T p o P i) := tw_La_same HL (fun x hx => F2 x (by omega) (by omega)) (K1 2 (Or.inl rfl)) (fun j hj => K1 j (Or.inr hj))
    obtain ⟨μ3, ⟨h3, F3⟩, E3⟩ := c_pull (la := la) (n := n) hw L2 W1 (p := p) (o := o) (by omega) (by omega) hpo (by omega) h2
    have W3 := Wf_pull W1 hp ho hpo
    obtain ⟨μ4, ⟨h4, F4⟩, E4⟩ := w_passHour (la := la) (n := n) (lw := lw) hw W3 (p := p) (o := o) (by omega) (by omega) h3
    rw [← tw_lT_s] at h4
    refine ⟨μ4, ⟨⟨_, h4⟩, tw_wr_t F2 (tw_wr_t (tw_wr_w F3) (tw_wr_w F4))⟩, fun k rec => ?_⟩
    have ht : tw_tn (tw_lT T p o P i (32 + 20 * p + (4 + o))) (tw_lT T p o P i (32 + 20 * o + (4 + p))) (tw_lT T p o P i 5) = nI 4 := by
      unfold tw_rg at hr
      by_cases g : tw_tn (tw_lT T p o P i (32 + 20 * p + (4 + o))) (tw_lT T p o P i (32 + 20 * o + (4 + p))) (tw_lT T p o P i 5) = nI 4
      · exact g
      · rw [if_neg g] at hr
        exact absurd hr (by decide)
    simp (disch := omega) only [↓E3, ↓E4, ht, ↓PaV0 hA, ↓PaG0_25 hA, ↓PaG0_26 hA, ↓PaG0_27 hA, ↓PaG0_28 hA, ↓PaI0_29 hA, ↓PaP0_29 hA, ↓PaZ0_29 hA, ↓PaI0_30 hA, ↓PaP0_30 hA, ↓PaZ0_30 hA, ↓PaI0_31 hA, ↓PaP0_31 hA, ↓PaZ0_31 hA, ↓PaL0 hA, ↓PaS0 hA, ↓PaL1 hA, ↓PaS1 hA, ↓TwV0 hw, ↓TwG0_54 hw, ↓TwI0_55 hw, ↓TwP0_55 hw, ↓TwZ0_55 hw, ↓TwL0 hw, ↓TwS0 hw, ↓A_if, ↓A_jn, ↓A_lt, ↓A_rz, ↓A_rn, ↓A_nzi, ↓A_nzl, ↓A_nn1, ↓A_nn0, ↓reduceIte, true_and, and_true, if_true, if_false, ite_true, ite_false, reduceIte, tl_0, tl_1, tl_2, tl_3, tl_4, tl_5, tl_6, tl_7, tl_8, tl_9, tl_10, tl_11, tl_12, tl_13, tl_14, tl_15, tl_16, tl_17, tl_18, tl_19, tl_20, tl_21, tl_22, tl_23, tl_24, tl_25, tl_26, tl_27, tl_28, tl_29, tl_30, tl_31, tl_32, tl_33, tl_34, tl_35, tl_36, tl_37, tl_38, tl_39, tl_40, tl_41, tl_42, tl_43, tl_44, tl_45, tl_46, tl_47, tl_48, tl_49, tl_50, tl_51, tl_52, tl_53, tl_54, tl_57, tl_59, tl_60, tl_62, tl_63, tl_64, tl_97, tl_99, tl_100, tl_120, tl_122, tl_192, tl_193, tl_194, tl_195, tl_196, tl_255, tl_256, tl_299, tl_400, tl_401, tl_492, tl_493, tl_541, tl_849, tl_999, tl_1000, tl_1341, tl_1342, tl_1390, tl_2190, tl_5412, tl_5904, tl_9999, tl_12345, tl_32767, tl_65536, tl_1000000, tl_252645135, tl_858993459, tl_1103515245, tl_1431655765, nz_31, nz_c31, eq_self, or_true, true_or, or_false, false_or, Nat.add_zero, nz_lt, nz_le, nz_eq, nz_cl, nz_sub, nI_add, pk_mul, nt_lt, nf_lt, nf_eq, nz_mI, mI_eq, mI_eq', mI_lt, mI_gt, mI_add, ↓j_max, ↓j_min, Nat.sub_sub, Nat.reduceAdd, Nat.reduceSub, Nat.reduceLT, Nat.reduceEqDiff, Bool.false_eq_true]
  · rintro μ2 ⟨⟨rg, h2⟩, F2⟩
    obtain ⟨W1, K1⟩ := tw_lT_k W hp ho hpo N
    rcases (by omega : N < 60 ∨ N = 60) with g | g
    · have s3 : ¬ tw_rg (tw_lT T p o P N) p o = nI 1 := by
        rcases s3 with s3 | s3
        · omega
        · exact s3
      have L2 : tw_La sh μ2 lw (tw_lT T p o P N) := tw_La_same HL (fun x hx => F2 x (by omega) (by omega)) (K1 2 (Or.inl rfl)) (fun j hj => K1 j (Or.inr hj))
      obtain ⟨μ3, ⟨h3, F3⟩, E3⟩ := c_pull (la := la) (n := n) hw L2 W1 (p := p) (o := o) (by omega) (by omega) hpo (by omega) h2
      refine ⟨μ3, tw_wr_t F2 (tw_wr_w F3), fun k rec => ?_⟩
      have ht : ¬ tw_tn (tw_lT T p o P N (32 + 20 * p + (4 + o))) (tw_lT T p o P N (32 + 20 * o + (4 + p))) (tw_lT T p o P N 5) = nI 4 := by
        intro g
        apply s3
        unfold tw_rg
        rw [if_pos g]
      simp (disch := omega) only [↓E3, ht, ↓PaV0 hA, ↓PaG0_25 hA, ↓PaG0_26 hA, ↓PaG0_27 hA, ↓PaG0_28 hA, ↓PaI0_29 hA, ↓PaP0_29 hA, ↓PaZ0_29 hA, ↓PaI0_30 hA, ↓PaP0_30 hA, ↓PaZ0_30 hA, ↓PaI0_31 hA, ↓PaP0_31 hA, ↓PaZ0_31 hA, ↓PaL0 hA, ↓PaS0 hA, ↓PaL1 hA, ↓PaS1 hA, ↓TwV0 hw, ↓TwG0_54 hw, ↓TwI0_55 hw, ↓TwP0_55 hw, ↓TwZ0_55 hw, ↓TwL0 hw, ↓TwS0 hw, ↓A_if, ↓A_jn, ↓A_lt, ↓A_rz, ↓A_rn, ↓A_nzi, ↓A_nzl, ↓A_nn1, ↓A_nn0, ↓reduceIte, true_and, and_true, if_true, if_false, ite_true, ite_false, reduceIte, tl_0, tl_1, tl_2, tl_3, tl_4, tl_5, tl_6, tl_7, tl_8, tl_9, tl_10, tl_11, tl_12, tl_13, tl_14, tl_15, tl_16, tl_17, tl_18, tl_19, tl_20, tl_21, tl_22, tl_23, tl_24, tl_25, tl_26, tl_27, tl_28, tl_29, tl_30, tl_31, tl_32, tl_33, tl_34, tl_35, tl_36, tl_37, tl_38, tl_39, tl_40, tl_41, tl_42, tl_43, tl_44, tl_45, tl_46, tl_47, tl_48, tl_49, tl_50, tl_51, tl_52, tl_53, tl_54, tl_57, tl_59, tl_60, tl_62, tl_63, tl_64, tl_97, tl_99, tl_100, tl_120, tl_122, tl_192, tl_193, tl_194, tl_195, tl_196, tl_255, tl_256, tl_299, tl_400, tl_401, tl_492, tl_493, tl_541, tl_849, tl_999, tl_1000, tl_1341, tl_1342, tl_1390, tl_2190, tl_5412, tl_5904, tl_9999, tl_12345, tl_32767, tl_65536, tl_1000000, tl_252645135, tl_858993459, tl_1103515245, tl_1431655765, nz_31, nz_c31, eq_self, or_true, true_or, or_false, false_or, Nat.add_zero, nz_lt, nz_le, nz_eq, nz_cl, nz_sub, nI_add, pk_mul, nt_lt, nf_lt, nf_eq, nz_mI, mI_eq, mI_eq', mI_lt, mI_gt, mI_add, ↓j_max, ↓j_min, Nat.sub_sub, Nat.reduceAdd, Nat.reduceSub, Nat.reduceLT, Nat.reduceEqDiff, Bool.false_eq_true]
    · refine ⟨μ2, F2, fun k rec => ?_⟩
      simp (disch := omega) only [↓PaV0 hA, ↓PaG0_25 hA, ↓PaG0_26 hA, ↓PaG0_27 hA, ↓PaG0_28 hA, ↓PaI0_29 hA, ↓PaP0_29 hA, ↓PaZ0_29 hA, ↓PaI0_30 hA, ↓PaP0_30 hA, ↓PaZ0_30 hA, ↓PaI0_31 hA, ↓PaP0_31 hA, ↓PaZ0_31 hA, ↓PaL0 hA, ↓PaS0 hA, ↓PaL1 hA, ↓PaS1 hA, ↓TwV0 hw, ↓TwG0_54 hw, ↓TwI0_55 hw, ↓TwP0_55 hw, ↓TwZ0_55 hw, ↓TwL0 hw, ↓TwS0 hw, ↓A_if, ↓A_jn, ↓A_lt, ↓A_rz, ↓A_rn, ↓A_nzi, ↓A_nzl, ↓A_nn1, ↓A_nn0, ↓reduceIte, true_and, and_true, if_true, if_false, ite_true, ite_false, reduceIte, tl_0, tl_1, tl_2, tl_3, tl_4, tl_5, tl_6, tl_7, tl_8, tl_9, tl_10, tl_11, tl_12, tl_13, tl_14, tl_15, tl_16, tl_17, tl_18, tl_19, tl_20, tl_21, tl_22, tl_23, tl_24, tl_25, tl_26, tl_27, tl_28, tl_29, tl_30, tl_31, tl_32, tl_33, tl_34, tl_35, tl_36, tl_37, tl_38, tl_39, tl_40, tl_41, tl_42, tl_43, tl_44, tl_45, tl_46, tl_47, tl_48, tl_49, tl_50, tl_51, tl_52, tl_53, tl_54, tl_57, tl_59, tl_60, tl_62, tl_63, tl_64, tl_97, tl_99, tl_100, tl_120, tl_122, tl_192, tl_193, tl_194, tl_195, tl_196, tl_255, tl_256, tl_299, tl_400, tl_401, tl_492, tl_493, tl_541, tl_849, tl_999, tl_1000, tl_1341, tl_1342, tl_1390, tl_2190, tl_5412, tl_5904, tl_9999, tl_12345, tl_32767, tl_65536, tl_1000000, tl_252645135, tl_858993459, tl_1103515245, tl_1431655765, nz_31, nz_c31, eq_self, or_true, true_or, or_false, false_or, Nat.add_zero, nz_lt, nz_le, nz_eq, nz_cl, nz_sub, nI_add, pk_mul, nt_lt, nf_lt, nf_eq, nz_mI, mI_eq, mI_eq', mI_lt, mI_gt, mI_add, ↓j_max, ↓j_min, Nat.sub_sub, Nat.reduceAdd, Nat.reduceSub, Nat.reduceLT, Nat.reduceEqDiff, Bool.false_eq_true]
end P67
