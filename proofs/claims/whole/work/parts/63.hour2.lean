/-! ===== pure: an HOUR, the model ===== -/
theorem tw_tn_n (g b d : Int32) : ∃ t, 2 ≤ t ∧ t < 5 ∧ tw_tn g b d = nI t := by
  unfold tw_tn
  generalize (if g < b then b else g) = x
  split
  · exact ⟨2, by omega, by omega, rfl⟩
  · split
    · exact ⟨4, by omega, by omega, rfl⟩
    · exact ⟨3, by omega, by omega, rfl⟩
theorem tw_pt_c {T : Nat → Int32} {P h : Nat} (W : tw_WF T P) (hh : h < 12) : tw_pt T h = nI 0 ∨ tw_pt T h = nI 1 ∨ ∃ p o t, p < P ∧ o < P ∧ p ≠ o ∧ 2 ≤ t ∧ t < 5 ∧ T (8 + h) = nI p ∧ T (20 + h) = nI o ∧ tw_pt T h = nI t ∧ tw_tn (T (32 + 20 * p + (4 + o))) (T (32 + 20 * o + (4 + p))) (T 5) = nI t := by
  obtain ⟨h1, h2, h3⟩ := Wf_p W hh
  have h8 := W.2.1
  rcases h1 with e1 | ⟨p, hp, e1⟩
  · rcases h2 with e2 | ⟨o, ho, e2⟩
    · exact Or.inl (by unfold tw_pt; rw [e1, e2, if_pos rfl, if_pos rfl])
    · exact Or.inr (Or.inl (by unfold tw_pt; rw [e1, e2, if_pos rfl, if_neg (fun h => by rw [mI_eq (by omega)] at h; exact h)]))
  · rcases h2 with e2 | ⟨o, ho, e2⟩
    · exact Or.inr (Or.inl (by unfold tw_pt; rw [e1, e2]; simp (disch := omega) only [mI_eq, if_false, if_true]))
    · have hpo : p ≠ o := by
        rintro rfl
        have := h3 (e1.trans e2.symm)
        rw [e1, mI_eq (by omega)] at this
        exact this
      obtain ⟨t, t2, t5, et⟩ := tw_tn_n (T (32 + 20 * p + (4 + o))) (T (32 + 20 * o + (4 + p))) (T 5)
      refine Or.inr (Or.inr ⟨p, o, t, hp, ho, hpo, t2, t5, e1, e2, ?_, et⟩)
      unfold tw_pt
      rw [e1, e2]
      simp (disch := omega) only [mI_eq, if_false, nz_cl]
      exact et
def tw_h1 (T : Nat → Int32) : Nat → Int32 := if nI 0 < tw_pt T (tw_nt (T 3)) then tw_tell T (tw_pt T (tw_nt (T 3))) else T
def tw_h2 (T : Nat → Int32) : Nat → Int32 := if nI 1 < tw_pt T (tw_nt (T 3)) then tw_pull (tw_h1 T) (tw_nt (T (8 + tw_nt (T 3)))) (tw_nt (T (20 + tw_nt (T 3)))) else tw_h1 T
def tw_hq (T : Nat → Int32) (calm : Bool) (P : Nat) : Nat → Int32 := tw_he (tw_h2 T) calm P
def tw_gs (T : Nat → Int32) (calm : Bool) (P i : Nat) : Nat → Int32 := tw_it (fun _ U => tw_hq U calm P) i T
def tw_ri (T : Nat → Int32) : Int32 := if tw_pt T (tw_nt (T 3)) = nI 4 then nI 1 else nI 0
def tw_gm (T : Nat → Int32) (calm : Bool) (P i : Nat) : Int32 := tw_it (fun j s => s + tw_ri (tw_gs T calm P j)) i (nI 0)
def tw_shi (T : Nat → Int32) (i : Nat) : Nat → Int32 := fun j => if 492 - i ≤ j ∧ j < 492 then T (j - 5) else T j
theorem tw_h1_k {T : Nat → Int32} {P : Nat} (W : tw_WF T P) : tw_WF (tw_h1 T) P ∧ (∀ j, j < 192 ∨ 492 ≤ j → j ≠ 6 → tw_h1 T j = T j) := by
  obtain ⟨x, hx, ex⟩ := Wf_3 W
  unfold tw_h1
  split
  · refine ⟨Wf_tell W ?_, fun j a b => tw_tell_o a b⟩
    rw [ex, tw_nt_n (by omega)]
    rcases tw_pt_c W hx with e | e | ⟨p, o, t, -, -, -, -, ht, -, -, e, -⟩
    · exact ⟨0, by omega, e⟩
    · exact ⟨1, by omega, e⟩
    · exact ⟨t, ht, e⟩
  · exact ⟨W, fun _ _ _ => rfl⟩
theorem tw_h2_k {T : Nat → Int32} {P : Nat} (W : tw_WF T P) : tw_WF (tw_h2 T) P ∧ (∀ j, j < 36 ∨ 492 ≤ j → j ≠ 6 → tw_h2 T j = T j) := by
  obtain ⟨x, hx, ex⟩ := Wf_3 W
  obtain ⟨W1, K1⟩ := tw_h1_k W
  have h8 := W.2.1
  unfold tw_h2
  rw [ex, tw_nt_n (by omega)]
  rcases tw_pt_c W hx with e | e | ⟨p, o, t, hp, ho, hpo, t2, t5, e1, e2, e, -⟩
  · rw [e, if_neg (by decide)]
    exact ⟨W1, fun j a b => K1 j (by omega) b⟩
  · rw [e, if_neg (by decide)]
    exact ⟨W1, fun j a b => K1 j (by omega) b⟩
  · rw [e1, e2, tw_nt_n (by omega), tw_nt_n (by omega)]
    split
    · exact ⟨Wf_pull W1 hp ho hpo, fun j a b => (tw_pull_o (by omega) (by omega) (by omega)).trans (K1 j (by omega) b)⟩
    · exact ⟨W1, fun j a b => K1 j (by omega) b⟩
theorem tw_hq_k {T : Nat → Int32} {P : Nat} (calm : Bool) (W : tw_WF T P) : tw_WF (tw_hq T calm P) P ∧ ∀ j, j = 2 ∨ 492 ≤ j → tw_hq T calm P j = T j := by
  obtain ⟨W2, K2⟩ := tw_h2_k W
  obtain ⟨W3, K3⟩ := tw_he_k calm W2
  exact ⟨W3, fun j hj => (K3 j (by omega)).trans (K2 j (by omega) (by omega))⟩
theorem tw_gs_k {T : Nat → Int32} {P : Nat} (calm : Bool) (W : tw_WF T P) : ∀ i, tw_WF (tw_gs T calm P i) P ∧ ∀ j, j = 2 ∨ 492 ≤ j → tw_gs T calm P i j = T j
  | 0 => ⟨W, fun _ _ => rfl⟩
  | i + 1 => by
    obtain ⟨h1, h2⟩ := tw_gs_k calm W i
    obtain ⟨h3, h4⟩ := tw_hq_k calm h1
    exact ⟨h3, fun j hj => (h4 j hj).trans (h2 j hj)⟩
section P63
variable {sh : tw_Sh} {μ : Nat → Nat → Int32} {la : Nat → Nat → Int64} {n a b w m lw P N : Nat} {p o l h i j z c x y f q kd : Nat} {T T' : Nat → Int32} {v u rg tn : Int32} {F : Nat → Int32} {C : Nat → Nat × Nat} {s : Nat → Int32}
theorem m_tells (hM : tw_Mo sh m) (W : tw_WF (μ (m + 1)) P) (k : Unit → tw_Mem → Prop) : f_X12_tells m tn k (sh, μ, la, n) = k () (sh, tw_ra μ (m + 1) (tw_tell (μ (m + 1)) tn), la, n) := by
  obtain ⟨x, hx, ex⟩ := Wf_3 W
  simp (disch := omega) only [f_X12_tells, ↓A_if, ↓A_jn, ↓A_lt, ↓A_rz, ↓A_rn, ↓A_nzi, ↓A_nzl, ↓A_nn1, ↓A_nn0, ↓reduceIte, true_and, and_true, if_true, if_false, ite_true, ite_false, reduceIte, tl_0, tl_1, tl_2, tl_3, tl_4, tl_5, tl_6, tl_7, tl_8, tl_9, tl_10, tl_11, tl_12, tl_13, tl_14, tl_15, tl_16, tl_17, tl_18, tl_19, tl_20, tl_21, tl_22, tl_23, tl_24, tl_25, tl_26, tl_27, tl_28, tl_29, tl_30, tl_31, tl_32, tl_33, tl_34, tl_35, tl_36, tl_37, tl_38, tl_39, tl_40, tl_41, tl_42, tl_43, tl_44, tl_45, tl_46, tl_47, tl_48, tl_49, tl_50, tl_51, tl_52, tl_53, tl_54, tl_57, tl_59, tl_60, tl_62, tl_63, tl_64, tl_97, tl_99, tl_100, tl_120, tl_122, tl_192, tl_193, tl_194, tl_195, tl_196, tl_255, tl_256, tl_299, tl_400, tl_401, tl_492, tl_493, tl_541, tl_849, tl_999, tl_1000, tl_1341, tl_1342, tl_1390, tl_2190, tl_5412, tl_5904, tl_9999, tl_12345, tl_32767, tl_65536, tl_1000000, tl_252645135, tl_858993459, tl_1103515245, tl_1431655765, nz_31, nz_c31, eq_self, or_true, true_or, or_false, false_or, Nat.add_zero, nz_lt, nz_le, nz_eq, nz_cl, nz_sub, nI_add, pk_mul, nt_lt, nf_lt, nf_eq, nz_mI, mI_eq, mI_eq', mI_lt, mI_gt, mI_add, ↓j_max, ↓j_min, Nat.sub_sub, Nat.reduceAdd, Nat.reduceSub, Nat.reduceLT, Nat.reduceEqDiff, Bool.false_eq_true]
  refine tw_lp_for 295 (fun i => nI (299 - i)) (fun i => (sh, tw_ra μ (m + 1) (tw_shi (μ (m + 1)) i), la, n)) rfl ?_ ?_ ?_
  · have e : tw_shi (μ (m + 1)) 0 = μ (m + 1) := by
      funext j
      exact if_neg (by omega)
    show (sh, tw_ra μ (m + 1) (tw_shi (μ (m + 1)) 0), la, n) = _
    rw [e, tw_ra_s]
  · intro i hi rec
    have g : tw_shi (μ (m + 1)) i (192 + (299 - i) - 5) = μ (m + 1) (192 + (299 - i) - 5) := if_neg (by omega)
    have e : tw_u1 (tw_shi (μ (m + 1)) i) (192 + (299 - i)) (μ (m + 1) (192 + (299 - i) - 5)) = tw_shi (μ (m + 1)) (i + 1) := by
      funext j
      unfold tw_u1 tw_shi
      by_cases h : j = 192 + (299 - i)
      · subst h
        rw [if_pos rfl, if_pos (by omega)]
      · rw [if_neg h]
        by_cases h2 : 492 - i ≤ j ∧ j < 492
        · rw [if_pos h2, if_pos (by omega)]
        · rw [if_neg h2, if_neg (by omega)]
    simp (disch := omega) only [tw_ra_aj, tw_up_ra, g, e, ↓MoV0 hM, ↓MoI0_70 hM, ↓MoP0_70 hM, ↓MoZ0_70 hM, ↓MoG0_71 hM, ↓MoG0_72 hM, ↓MoG0_73 hM, ↓MoG0_74 hM, ↓MoG0_75 hM, ↓MoI0_76 hM, ↓MoP0_76 hM, ↓MoZ0_76 hM, ↓MoI0_77 hM, ↓MoP0_77 hM, ↓MoZ0_77 hM, ↓MoG0_78 hM, ↓MoI0_79 hM, ↓MoP0_79 hM, ↓MoZ0_79 hM, ↓MoI0_80 hM, ↓MoP0_80 hM, ↓MoZ0_80 hM, ↓MoI0_81 hM, ↓MoP0_81 hM, ↓MoZ0_81 hM, ↓MoI0_82 hM, ↓MoP0_82 hM, ↓MoZ0_82 hM, ↓MoI0_83 hM, ↓MoP0_83 hM, ↓MoZ0_83 hM, ↓MoI0_84 hM, ↓MoP0_84 hM, ↓MoZ0_84 hM, ↓MoG0_85 hM, ↓MoI0_86 hM, ↓MoP0_86 hM, ↓MoZ0_86 hM, ↓MoG0_87 hM, ↓MoI0_88 hM, ↓MoP0_88 hM, ↓MoZ0_88 hM, ↓MoG0_89 hM, ↓MoG0_90 hM, ↓MoG0_91 hM, ↓MoG0_92 hM, ↓MoL0 hM, ↓MoS0 hM, ↓MoL1 hM, ↓MoS1 hM, ↓MoL2 hM, ↓MoS2 hM, ↓MoL3 hM, ↓MoS3 hM, ↓MoL4 hM, ↓MoS4 hM, ↓MoL5 hM, ↓MoS5 hM, ↓MoL6 hM, ↓MoS6 hM, ↓MoL7 hM, ↓MoS7 hM, ↓MoL8 hM, ↓MoS8 hM, ↓MoL9 hM, ↓MoS9 hM, ↓MoL10 hM, ↓MoS10 hM, ↓MoL11 hM, ↓MoS11 hM, ↓A_if, ↓A_jn, ↓A_lt, ↓A_rz, ↓A_rn, ↓A_nzi, ↓A_nzl, ↓A_nn1, ↓A_nn0, ↓reduceIte, true_and, and_true, if_true, if_false, ite_true, ite_false, reduceIte, tl_0, tl_1, tl_2, tl_3, tl_4, tl_5, tl_6, tl_7, tl_8, tl_9, tl_10, tl_11, tl_12, tl_13, tl_14, tl_15, tl_16, tl_17, tl_18, tl_19, tl_20, tl_21, tl_22, tl_23, tl_24, tl_25, tl_26, tl_27, tl_28, tl_29, tl_30, tl_31, tl_32, tl_33, tl_34, tl_35, tl_36, tl_37, tl_38, tl_39, tl_40, tl_41, tl_42, tl_43, tl_44, tl_45, tl_46, tl_47, tl_48, tl_49, tl_50, tl_51, tl_52, tl_53, tl_54, tl_57, tl_59, tl_60, tl_62, tl_63, tl_64, tl_97, tl_99, tl_100, tl_120, tl_122, tl_192, tl_193, tl_194, tl_195, tl_196, tl_255, tl_256, tl_299, tl_400, tl_401, tl_492, tl_493, tl_541, tl_849, tl_999, tl_1000, tl_1341, tl_1342, tl_1390, tl_2190, tl_5412, tl_5904, tl_9999, tl_12345, tl_32767, tl_65536, tl_1000000, tl_252645135, tl_858993459, tl_1103515245, tl_1431655765, nz_31, nz_c31, eq_self, or_true, true_or, or_false, false_or, Nat.add_zero, nz_lt, nz_le, nz_eq, nz_cl, nz_sub, nI_add, pk_mul, nt_lt, nf_lt, nf_eq, nz_mI, mI_eq, mI_eq', mI_lt, mI_gt, mI_add, ↓j_max, ↓j_min, Nat.sub_sub, Nat.reduceAdd, Nat.reduceSub, Nat.reduceLT, Nat.reduceEqDiff, Bool.false_eq_true]
  · intro rec
    have e : tw_shi (μ (m + 1)) 295 = tw_shl (μ (m + 1)) := rfl
    rw [e]
    have e3 : tw_shl (μ (m + 1)) 3 = nI x := (tw_shl_o (by omega)).trans ex
    have en : tw_nt (nI x) = x := tw_nt_n (by omega)
    simp (disch := omega) only [tw_ra_aj, tw_up_ra, tw_u1n, tw_shl_o, tw_tell, ex, en, ↓m_inPlan hM, tw_m60, Nat.mul_zero, Nat.mul_one, Nat.add_zero, ↓MoV0 hM, ↓MoI0_70 hM, ↓MoP0_70 hM, ↓MoZ0_70 hM, ↓MoG0_71 hM, ↓MoG0_72 hM, ↓MoG0_73 hM, ↓MoG0_74 hM, ↓MoG0_75 hM, ↓MoI0_76 hM, ↓MoP0_76 hM, ↓MoZ0_76 hM, ↓MoI0_77 hM, ↓MoP0_77 hM, ↓MoZ0_77 hM, ↓MoG0_78 hM, ↓MoI0_79 hM, ↓MoP0_79 hM, ↓MoZ0_79 hM, ↓MoI0_80 hM, ↓MoP0_80 hM, ↓MoZ0_80 hM, ↓MoI0_81 hM, ↓MoP0_81 hM, ↓MoZ0_81 hM, ↓MoI0_82 hM, ↓MoP0_82 hM, ↓MoZ0_82 hM, ↓MoI0_83 hM, ↓MoP0_83 hM, ↓MoZ0_83 hM, ↓MoI0_84 hM, ↓MoP0_84 hM, ↓MoZ0_84 hM, ↓MoG0_85 hM, ↓MoI0_86 hM, ↓MoP0_86 hM, ↓MoZ0_86 hM, ↓MoG0_87 hM, ↓MoI0_88 hM, ↓MoP0_88 hM, ↓MoZ0_88 hM, ↓MoG0_89 hM, ↓MoG0_90 hM, ↓MoG0_91 hM, ↓MoG0_92 hM, ↓MoL0 hM, ↓MoS0 hM, ↓MoL1 hM, ↓MoS1 hM, ↓MoL2 hM, ↓MoS2 hM, ↓MoL3 hM, ↓MoS3 hM, ↓MoL4 hM, ↓MoS4 hM, ↓MoL5 hM, ↓MoS5 hM, ↓MoL6 hM, ↓MoS6 hM, ↓MoL7 hM, ↓MoS7 hM, ↓MoL8 hM, ↓MoS8 hM, ↓MoL9 hM, ↓MoS9 hM, ↓MoL10 hM, ↓MoS10 hM, ↓MoL11 hM, ↓MoS11 hM, ↓A_if, ↓A_jn, ↓A_lt, ↓A_rz, ↓A_rn, ↓A_nzi, ↓A_nzl, ↓A_nn1, ↓A_nn0, ↓reduceIte, true_and, and_true, if_true, if_false, ite_true, ite_false, reduceIte, tl_0, tl_1, tl_2, tl_3, tl_4, tl_5, tl_6, tl_7, tl_8, tl_9, tl_10, tl_11, tl_12, tl_13, tl_14, tl_15, tl_16, tl_17, tl_18, tl_19, tl_20, tl_21, tl_22, tl_23, tl_24, tl_25, tl_26, tl_27, tl_28, tl_29, tl_30, tl_31, tl_32, tl_33, tl_34, tl_35, tl_36, tl_37, tl_38, tl_39, tl_40, tl_41, tl_42, tl_43, tl_44, tl_45, tl_46, tl_47, tl_48, tl_49, tl_50, tl_51, tl_52, tl_53, tl_54, tl_57, tl_59, tl_60, tl_62, tl_63, tl_64, tl_97, tl_99, tl_100, tl_120, tl_122, tl_192, tl_193, tl_194, tl_195, tl_196, tl_255, tl_256, tl_299, tl_400, tl_401, tl_492, tl_493, tl_541, tl_849, tl_999, tl_1000, tl_1341, tl_1342, tl_1390, tl_2190, tl_5412, tl_5904, tl_9999, tl_12345, tl_32767, tl_65536, tl_1000000, tl_252645135, tl_858993459, tl_1103515245, tl_1431655765, nz_31, nz_c31, eq_self, or_true, true_or, or_false, false_or, Nat.add_zero, nz_lt, nz_le, nz_eq, nz_cl, nz_sub, nI_add, pk_mul, nt_lt, nf_lt, nf_eq, nz_mI, mI_eq, mI_eq', mI_lt, mI_gt, mI_add, ↓j_max, ↓j_min, Nat.sub_sub, Nat.reduceAdd, Nat.reduceSub, Nat.reduceLT, Nat.reduceEqDiff, Bool.false_eq_true]
theorem tw_md_b {μ' : Nat → Nat → Int32} : tw_md m μ (tw_ra μ (m + 1) s) := tw_md_w
theorem m_oneHour (hM : tw_Mo sh m) (calm : Bool) (H : tw_LX (μ (m + 1))) (W : tw_WF (μ (m + 1)) P) : ∃ μ', (μ' (m + 1) = tw_hq (μ (m + 1)) calm P ∧ tw_md m μ μ') ∧ ∀ k, f_X12_oneHour m (if calm then nI 1 else nI 0) k (sh, μ, la, n) = k (tw_ri (μ (m + 1))) (sh, μ', la, n) := by
  obtain ⟨x, hx, ex⟩ := Wf_3 W
  have h8 := W.2.1
  obtain ⟨W1, K1⟩ := tw_h1_k W
  obtain ⟨W2, K2⟩ := tw_h2_k W
  have en : tw_nt (nI x) = x := tw_nt_n (by omega)
  unfold tw_hq tw_ri
  rcases tw_pt_c W hx with e | e | ⟨p, o, t, hp, ho, hpo, t2, t5, e1, e2, e, -⟩
  · have q1 : tw_h1 (μ (m + 1)) = μ (m + 1) := by unfold tw_h1; rw [ex, en, e, if_neg (by decide)]
    have q2 : tw_h2 (μ (m + 1)) = μ (m + 1) := by unfold tw_h2; rw [ex, en, e, if_neg (by decide), q1]
    rw [q2]
    obtain ⟨μ', J, E⟩ := m_hourEnds (la := la) (n := n) hM calm H W
    refine ⟨μ', J, fun k => ?_⟩
    simp (disch := omega) only [f_X12_oneHour, ex, en, e, ↓m_toneAt hM W, E, ↓MoV0 hM, ↓MoI0_70 hM, ↓MoP0_70 hM, ↓MoZ0_70 hM, ↓MoG0_71 hM, ↓MoG0_72 hM, ↓MoG0_73 hM, ↓MoG0_74 hM, ↓MoG0_75 hM, ↓MoI0_76 hM, ↓MoP0_76 hM, ↓MoZ0_76 hM, ↓MoI0_77 hM, ↓MoP0_77 hM, ↓MoZ0_77 hM, ↓MoG0_78 hM, ↓MoI0_79 hM, ↓MoP0_79 hM, ↓MoZ0_79 hM, ↓MoI0_80 hM, ↓MoP0_80 hM, ↓MoZ0_80 hM, ↓MoI0_81 hM, ↓MoP0_81 hM, ↓MoZ0_81 hM, ↓MoI0_82 hM, ↓MoP0_82 hM, ↓MoZ0_82 hM, ↓MoI0_83 hM, ↓MoP0_83 hM, ↓MoZ0_83 hM, ↓MoI0_84 hM, ↓MoP0_84 hM, ↓MoZ0_84 hM, ↓MoG0_85 hM, ↓MoI0_86 hM, ↓MoP0_86 hM, ↓MoZ0_86 hM, ↓MoG0_87 hM, ↓MoI0_88 hM, ↓MoP0_88 hM, ↓MoZ0_88 hM, ↓MoG0_89 hM, ↓MoG0_90 hM, ↓MoG0_91 hM, ↓MoG0_92 hM, ↓MoL0 hM, ↓MoS0 hM, ↓MoL1 hM, ↓MoS1 hM, ↓MoL2 hM, ↓MoS2 hM, ↓MoL3 hM, ↓MoS3 hM, ↓MoL4 hM, ↓MoS4 hM, ↓MoL5 hM, ↓MoS5 hM, ↓MoL6 hM, ↓MoS6 hM, ↓MoL7 hM, ↓MoS7 hM, ↓MoL8 hM, ↓MoS8 hM, ↓MoL9 hM, ↓MoS9 hM, ↓MoL10 hM, ↓MoS10 hM, ↓MoL11 hM, ↓MoS11 hM, ↓A_if, ↓A_jn, ↓A_lt, ↓A_rz, ↓A_rn, ↓A_nzi, ↓A_nzl, ↓A_nn1, ↓A_nn0, ↓reduceIte, true_and, and_true, if_true, if_false, ite_true, ite_false, reduceIte, tl_0, tl_1, tl_2, tl_3, tl_4, tl_5, tl_6, tl_7, tl_8, tl_9, tl_10, tl_11, tl_12, tl_13, tl_14, tl_15, tl_16, tl_17, tl_18, tl_19, tl_20, tl_21, tl_22, tl_23, tl_24, tl_25, tl_26, tl_27, tl_28, tl_29, tl_30, tl_31, tl_32, tl_33, tl_34, tl_35, tl_36, tl_37, tl_38, tl_39, tl_40, tl_41, tl_42, tl_43, tl_44, tl_45, tl_46, tl_47, tl_48, tl_49, tl_50, tl_51, tl_52, tl_53, tl_54, tl_57, tl_59, tl_60, tl_62, tl_63, tl_64, tl_97, tl_99, tl_100, tl_120, tl_122, tl_192, tl_193, tl_194, tl_195, tl_196, tl_255, tl_256, tl_299, tl_400, tl_401, tl_492, tl_493, tl_541, tl_849, tl_999, tl_1000, tl_1341, tl_1342, tl_1390, tl_2190, tl_5412, tl_5904, tl_9999, tl_12345, tl_32767, tl_65536, tl_1000000, tl_252645135, tl_858993459, tl_1103515245, tl_1431655765, nz_31, nz_c31, eq_self, or_true, true_or, or_false, false_or, Nat.add_zero, nz_lt, nz_le, nz_eq, nz_cl, nz_sub, nI_add, pk_mul, nt_lt, nf_lt, nf_eq, nz_mI, mI_eq, mI_eq', mI_lt, mI_gt, mI_add, ↓j_max, ↓j_min, Nat.sub_sub, Nat.reduceAdd, Nat.reduceSub, Nat.reduceLT, Nat.reduceEqDiff, Bool.false_eq_true]
  · have q1 : tw_h1 (μ (m + 1)) = tw_tell (μ (m + 1)) (nI 1) := by unfold tw_h1; rw [ex, en, e, if_pos (by decide)]
    have q2 : tw_h2 (μ (m + 1)) = tw_tell (μ (m + 1)) (nI 1) := by unfold tw_h2; rw [ex, en, e, if_neg (by decide), q1]
    rw [q2] at K2 W2 ⊢
    have ew : tw_ra μ (m + 1) (tw_tell (μ (m + 1)) (nI 1)) (m + 1) = tw_tell (μ (m + 1)) (nI 1) := tw_ra_a
    obtain ⟨μ', ⟨J1, J2⟩, E⟩ := m_hourEnds (la := la) (n := n) (μ := tw_ra μ (m + 1) (tw_tell (μ (m + 1)) (nI 1))) (P := P) hM calm (by rw [ew]; exact tw_LX_same H (K2 2 (by omega) (by omega)) (fun j hj => K2 j (by omega) (by omega))) (by rw [ew]; exact W2)
    rw [ew] at J1
    refine ⟨μ', ⟨J1, tw_md_t tw_md_w J2⟩, fun k => ?_⟩
    simp (disch := omega) only [f_X12_oneHour, ex, en, e, ↓m_toneAt hM W, ↓m_tells hM W, E, ↓MoV0 hM, ↓MoI0_70 hM, ↓MoP0_70 hM, ↓MoZ0_70 hM, ↓MoG0_71 hM, ↓MoG0_72 hM, ↓MoG0_73 hM, ↓MoG0_74 hM, ↓MoG0_75 hM, ↓MoI0_76 hM, ↓MoP0_76 hM, ↓MoZ0_76 hM, ↓MoI0_77 hM, ↓MoP0_77 hM, ↓MoZ0_77 hM, ↓MoG0_78 hM, ↓MoI0_79 hM, ↓MoP0_79 hM, ↓MoZ0_79 hM, ↓MoI0_80 hM, ↓MoP0_80 hM, ↓MoZ0_80 hM, ↓MoI0_81 hM, ↓MoP0_81 hM, ↓MoZ0_81 hM, ↓MoI0_82 hM, ↓MoP0_82 hM, ↓MoZ0_82 hM, ↓MoI0_83 hM, ↓MoP0_83 hM, ↓MoZ0_83 hM, ↓MoI0_84 hM, ↓MoP0_84 hM, ↓MoZ0_84 hM, ↓MoG0_85 hM, ↓MoI0_86 hM, ↓MoP0_86 hM, ↓MoZ0_86 hM, ↓MoG0_87 hM, ↓MoI0_88 hM, ↓MoP0_88 hM, ↓MoZ0_88 hM, ↓MoG0_89 hM, ↓MoG0_90 hM, ↓MoG0_91 hM, ↓MoG0_92 hM, ↓MoL0 hM, ↓MoS0 hM, ↓MoL1 hM, ↓MoS1 hM, ↓MoL2 hM, ↓MoS2 hM, ↓MoL3 hM, ↓MoS3 hM, ↓MoL4 hM, ↓MoS4 hM, ↓MoL5 hM, ↓MoS5 hM, ↓MoL6 hM, ↓MoS6 hM, ↓MoL7 hM, ↓MoS7 hM, ↓MoL8 hM, ↓MoS8 hM, ↓MoL9 hM, ↓MoS9 hM, ↓MoL10 hM, ↓MoS10 hM, ↓MoL11 hM, ↓MoS11 hM, ↓A_if, ↓A_jn, ↓A_lt, ↓A_rz, ↓A_rn, ↓A_nzi, ↓A_nzl, ↓A_nn1, ↓A_nn0, ↓reduceIte, true_and, and_true, if_true, if_false, ite_true, ite_false, reduceIte, tl_0, tl_1, tl_2, tl_3, tl_4, tl_5, tl_6, tl_7, tl_8, tl_9, tl_10, tl_11, tl_12, tl_13, tl_14, tl_15, tl_16, tl_17, tl_18, tl_19, tl_20, tl_21, tl_22, tl_23, tl_24, tl_25, tl_26, tl_27, tl_28, tl_29, tl_30, tl_31, tl_32, tl_33, tl_34, tl_35, tl_36, tl_37, tl_38, tl_39, tl_40, tl_41, tl_42, tl_43, tl_44, tl_45, tl_46, tl_47, tl_48, tl_49, tl_50, tl_51, tl_52, tl_53, tl_54, tl_57, tl_59, tl_60, tl_62, tl_63, tl_64, tl_97, tl_99, tl_100, tl_120, tl_122, tl_192, tl_193, tl_194, tl_195, tl_196, tl_255, tl_256, tl_299, tl_400, tl_401, tl_492, tl_493, tl_541, tl_849, tl_999, tl_1000, tl_1341, tl_1342, tl_1390, tl_2190, tl_5412, tl_5904, tl_9999, tl_12345, tl_32767, tl_65536, tl_1000000, tl_252645135, tl_858993459, tl_1103515245, tl_1431655765, nz_31, nz_c31, eq_self, or_true, true_or, or_false, false_or, Nat.add_zero, nz_lt, nz_le, nz_eq, nz_cl, nz_sub, nI_add, pk_mul, nt_lt, nf_lt, nf_eq, nz_mI, mI_eq, mI_eq', mI_lt, mI_gt, mI_add, ↓j_max, ↓j_min, Nat.sub_sub, Nat.reduceAdd, Nat.reduceSub, Nat.reduceLT, Nat.reduceEqDiff, Bool.false_eq_true]
  · have q1 : tw_h1 (μ (m + 1)) = tw_tell (μ (m + 1)) (nI t) := by unfold tw_h1; rw [ex, en, e, if_pos (by rw [nz_lt (by omega) (by omega)]; omega)]
    have q2 : tw_h2 (μ (m + 1)) = tw_pull (tw_tell (μ (m + 1)) (nI t)) p o := by unfold tw_h2; rw [ex, en, e, if_pos (by rw [nz_lt (by omega) (by omega)]; omega), q1, e1, e2, tw_nt_n (by omega), tw_nt_n (by omega)]
    rw [q2] at K2 W2 ⊢
    rw [q1] at K1 W1
    have ew : tw_ra μ (m + 1) (tw_tell (μ (m + 1)) (nI t)) (m + 1) = tw_tell (μ (m + 1)) (nI t) := tw_ra_a
    have H1 := tw_LX_same H (K1 2 (by omega) (by omega)) (fun j hj => K1 j (by omega) (by omega))
    obtain ⟨μ1, ⟨J1, J2⟩, E1⟩ := m_pull (la := la) (n := n) (μ := tw_ra μ (m + 1) (tw_tell (μ (m + 1)) (nI t))) (P := P) (p := p) (o := o) hM (by rw [ew]; exact H1) (by rw [ew]; exact W1) (by omega) (by omega) hpo
    rw [ew] at J1
    obtain ⟨μ', ⟨J3, J4⟩, E⟩ := m_hourEnds (la := la) (n := n) (μ := μ1) (P := P) hM calm (by rw [J1]; exact tw_LX_same H (K2 2 (by omega) (by omega)) (fun j hj => K2 j (by omega) (by omega))) (by rw [J1]; exact W2)
    rw [J1] at J3
    refine ⟨μ', ⟨J3, tw_md_t tw_md_w (tw_md_t J2 J4)⟩, fun k => ?_⟩
    have e3 : tw_tell (μ (m + 1)) (nI t) 3 = nI x := (K1 3 (by omega) (by omega)).trans ex
    have p1 : tw_tell (μ (m + 1)) (nI t) (8 + x) = nI p := (K1 _ (by omega) (by omega)).trans e1
    have p2 : tw_tell (μ (m + 1)) (nI t) (20 + x) = nI o := (K1 _ (by omega) (by omega)).trans e2
    by_cases g4 : t = 4
    · subst g4
      simp (disch := omega) only [f_X12_oneHour, ex, en, e, e3, p1, p2, ↓m_toneAt hM W, ↓m_tells hM W, E, ↓E1, ↓m_inPlan hM, tw_ra_aj, Nat.mul_zero, Nat.mul_one, Nat.add_zero, ↓MoV0 hM, ↓MoI0_70 hM, ↓MoP0_70 hM, ↓MoZ0_70 hM, ↓MoG0_71 hM, ↓MoG0_72 hM, ↓MoG0_73 hM, ↓MoG0_74 hM, ↓MoG0_75 hM, ↓MoI0_76 hM, ↓MoP0_76 hM, ↓MoZ0_76 hM, ↓MoI0_77 hM, ↓MoP0_77 hM, ↓MoZ0_77 hM, ↓MoG0_78 hM, ↓MoI0_79 hM, ↓MoP0_79 hM, ↓MoZ0_79 hM, ↓MoI0_80 hM, ↓MoP0_80 hM, ↓MoZ0_80 hM, ↓MoI0_81 hM, ↓MoP0_81 hM, ↓MoZ0_81 hM, ↓MoI0_82 hM, ↓MoP0_82 hM, ↓MoZ0_82 hM, ↓MoI0_83 hM, ↓MoP0_83 hM, ↓MoZ0_83 hM, ↓MoI0_84 hM, ↓MoP0_84 hM, ↓MoZ0_84 hM, ↓MoG0_85 hM, ↓MoI0_86 hM, ↓MoP0_86 hM, ↓MoZ0_86 hM, ↓MoG0_87 hM, ↓MoI0_88 hM, ↓MoP0_88 hM, ↓MoZ0_88 hM, ↓MoG0_89 hM, ↓MoG0_90 hM, ↓MoG0_91 hM, ↓MoG0_92 hM, ↓MoL0 hM, ↓MoS0 hM, ↓MoL1 hM, ↓MoS1 hM, ↓MoL2 hM, ↓MoS2 hM, ↓MoL3 hM, ↓MoS3 hM, ↓MoL4 hM, ↓MoS4 hM, ↓MoL5 hM, ↓MoS5 hM, ↓MoL6 hM, ↓MoS6 hM, ↓MoL7 hM, ↓MoS7 hM, ↓MoL8 hM, ↓MoS8 hM, ↓MoL9 hM, ↓MoS9 hM, ↓MoL10 hM, ↓MoS10 hM, ↓MoL11 hM, ↓MoS11 hM, ↓A_if, ↓A_jn, ↓A_lt, ↓A_rz, ↓A_rn, ↓A_nzi, ↓A_nzl, ↓A_nn1, ↓A_nn0, ↓reduceIte, true_and, and_true, if_true, if_false, ite_true, ite_false, reduceIte, tl_0, tl_1, tl_2, tl_3, tl_4, tl_5, tl_6, tl_7, tl_8, tl_9, tl_10, tl_11, tl_12, tl_13, tl_14, tl_15, tl_16, tl_17, tl_18, tl_19, tl_20, tl_21, tl_22, tl_23, tl_24, tl_25, tl_26, tl_27, tl_28, tl_29, tl_30, tl_31, tl_32, tl_33, tl_34, tl_35, tl_36, tl_37, tl_38, tl_39, tl_40, tl_41, tl_42, tl_43, tl_44, tl_45, tl_46, tl_47, tl_48, tl_49, tl_50, tl_51, tl_52, tl_53, tl_54, tl_57, tl_59, tl_60, tl_62, tl_63, tl_64, tl_97, tl_99, tl_100, tl_120, tl_122, tl_192, tl_193, tl_194, tl_195, tl_196, tl_255, tl_256, tl_299, tl_400, tl_401, tl_492, tl_493, tl_541, tl_849, tl_999, tl_1000, tl_1341, tl_1342, tl_1390, tl_2190, tl_5412, tl_5904, tl_9999, tl_12345, tl_32767, tl_65536, tl_1000000, tl_252645135, tl_858993459, tl_1103515245, tl_1431655765, nz_31, nz_c31, eq_self, or_true, true_or, or_false, false_or, Nat.add_zero, nz_lt, nz_le, nz_eq, nz_cl, nz_sub, nI_add, pk_mul, nt_lt, nf_lt, nf_eq, nz_mI, mI_eq, mI_eq', mI_lt, mI_gt, mI_add, ↓j_max, ↓j_min, Nat.sub_sub, Nat.reduceAdd, Nat.reduceSub, Nat.reduceLT, Nat.reduceEqDiff, Bool.false_eq_true]
    · simp (disch := omega) only [f_X12_oneHour, ex, en, e, e3, p1, p2, g4, ↓m_toneAt hM W, ↓m_tells hM W, E, ↓E1, ↓m_inPlan hM, tw_ra_aj, Nat.mul_zero, Nat.mul_one, Nat.add_zero, ↓MoV0 hM, ↓MoI0_70 hM, ↓MoP0_70 hM, ↓MoZ0_70 hM, ↓MoG0_71 hM, ↓MoG0_72 hM, ↓MoG0_73 hM, ↓MoG0_74 hM, ↓MoG0_75 hM, ↓MoI0_76 hM, ↓MoP0_76 hM, ↓MoZ0_76 hM, ↓MoI0_77 hM, ↓MoP0_77 hM, ↓MoZ0_77 hM, ↓MoG0_78 hM, ↓MoI0_79 hM, ↓MoP0_79 hM, ↓MoZ0_79 hM, ↓MoI0_80 hM, ↓MoP0_80 hM, ↓MoZ0_80 hM, ↓MoI0_81 hM, ↓MoP0_81 hM, ↓MoZ0_81 hM, ↓MoI0_82 hM, ↓MoP0_82 hM, ↓MoZ0_82 hM, ↓MoI0_83 hM, ↓MoP0_83 hM, ↓MoZ0_83 hM, ↓MoI0_84 hM, ↓MoP0_84 hM, ↓MoZ0_84 hM, ↓MoG0_85 hM, ↓MoI0_86 hM, ↓MoP0_86 hM, ↓MoZ0_86 hM, ↓MoG0_87 hM, ↓MoI0_88 hM, ↓MoP0_88 hM, ↓MoZ0_88 hM, ↓MoG0_89 hM, ↓MoG0_90 hM, ↓MoG0_91 hM, ↓MoG0_92 hM, ↓MoL0 hM, ↓MoS0 hM, ↓MoL1 hM, ↓MoS1 hM, ↓MoL2 hM, ↓MoS2 hM, ↓MoL3 hM, ↓MoS3 hM, ↓MoL4 hM, ↓MoS4 hM, ↓MoL5 hM, ↓MoS5 hM, ↓MoL6 hM, ↓MoS6 hM, ↓MoL7 hM, ↓MoS7 hM, ↓MoL8 hM, ↓MoS8 hM, ↓MoL9 hM, ↓MoS9 hM, ↓MoL10 hM, ↓MoS10 hM, ↓MoL11 hM, ↓MoS11 hM, ↓A_if, ↓A_jn, ↓A_lt, ↓A_rz, ↓A_rn, ↓A_nzi, ↓A_nzl, ↓A_nn1, ↓A_nn0, ↓reduceIte, true_and, and_true, if_true, if_false, ite_true, ite_false, reduceIte, tl_0, tl_1, tl_2, tl_3, tl_4, tl_5, tl_6, tl_7, tl_8, tl_9, tl_10, tl_11, tl_12, tl_13, tl_14, tl_15, tl_16, tl_17, tl_18, tl_19, tl_20, tl_21, tl_22, tl_23, tl_24, tl_25, tl_26, tl_27, tl_28, tl_29, tl_30, tl_31, tl_32, tl_33, tl_34, tl_35, tl_36, tl_37, tl_38, tl_39, tl_40, tl_41, tl_42, tl_43, tl_44, tl_45, tl_46, tl_47, tl_48, tl_49, tl_50, tl_51, tl_52, tl_53, tl_54, tl_57, tl_59, tl_60, tl_62, tl_63, tl_64, tl_97, tl_99, tl_100, tl_120, tl_122, tl_192, tl_193, tl_194, tl_195, tl_196, tl_255, tl_256, tl_299, tl_400, tl_401, tl_492, tl_493, tl_541, tl_849, tl_999, tl_1000, tl_1341, tl_1342, tl_1390, tl_2190, tl_5412, tl_5904, tl_9999, tl_12345, tl_32767, tl_65536, tl_1000000, tl_252645135, tl_858993459, tl_1103515245, tl_1431655765, nz_31, nz_c31, eq_self, or_true, true_or, or_false, false_or, Nat.add_zero, nz_lt, nz_le, nz_eq, nz_cl, nz_sub, nI_add, pk_mul, nt_lt, nf_lt, nf_eq, nz_mI, mI_eq, mI_eq', mI_lt, mI_gt, mI_add, ↓j_max, ↓j_min, Nat.sub_sub, Nat.reduceAdd, Nat.reduceSub, Nat.reduceLT, Nat.reduceEqDiff, Bool.false_eq_true]
theorem m_goesOn (hM : tw_Mo sh m) (calm : Bool) (H : tw_LX (μ (m + 1))) (W : tw_WF (μ (m + 1)) P) (hN : N < 2147483648) : ∃ μ', (μ' (m + 1) = tw_gs (μ (m + 1)) calm P N ∧ tw_md m μ μ') ∧ ∀ k, f_X12_goesOn m (nI N) (if calm then nI 1 else nI 0) k (sh, μ, la, n) = k (tw_gm (μ (m + 1)) calm P N) (sh, μ', la, n) := by
  simp (disch := omega) only [f_X12_goesOn, tl_0, tl_1]
  refine tw_lp_ex N (fun i => (tw_gm (μ (m + 1)) calm P i, nI i)) (fun i μ' => μ' (m + 1) = tw_gs (μ (m + 1)) calm P i ∧ tw_md m μ μ') rfl ⟨rfl, tw_md_r⟩ ?_ ?_
  · rintro i hi μ1 ⟨h1, F1⟩
    obtain ⟨W1, K1⟩ := tw_gs_k calm W i
    rw [← h1] at W1 K1
    obtain ⟨μ2, ⟨h2, F2⟩, E⟩ := m_oneHour (la := la) (n := n) (μ := μ1) hM calm (tw_LX_same H (K1 2 (Or.inl rfl)) (fun j hj => K1 j (Or.inr hj))) W1
    refine ⟨μ2, ⟨h2.trans (by rw [h1]; rfl), tw_md_t F1 F2⟩, fun k rec => ?_⟩
    have e : tw_gm (μ (m + 1)) calm P (i + 1) = tw_gm (μ (m + 1)) calm P i + tw_ri (μ1 (m + 1)) := by rw [h1]; rfl
    rw [e]
    simp (disch := omega) only [E, ↓MoV0 hM, ↓MoI0_70 hM, ↓MoP0_70 hM, ↓MoZ0_70 hM, ↓MoG0_71 hM, ↓MoG0_72 hM, ↓MoG0_73 hM, ↓MoG0_74 hM, ↓MoG0_75 hM, ↓MoI0_76 hM, ↓MoP0_76 hM, ↓MoZ0_76 hM, ↓MoI0_77 hM, ↓MoP0_77 hM, ↓MoZ0_77 hM, ↓MoG0_78 hM, ↓MoI0_79 hM, ↓MoP0_79 hM, ↓MoZ0_79 hM, ↓MoI0_80 hM, ↓MoP0_80 hM, ↓MoZ0_80 hM, ↓MoI0_81 hM, ↓MoP0_81 hM, ↓MoZ0_81 hM, ↓MoI0_82 hM, ↓MoP0_82 hM, ↓MoZ0_82 hM, ↓MoI0_83 hM, ↓MoP0_83 hM, ↓MoZ0_83 hM, ↓MoI0_84 hM, ↓MoP0_84 hM, ↓MoZ0_84 hM, ↓MoG0_85 hM, ↓MoI0_86 hM, ↓MoP0_86 hM, ↓MoZ0_86 hM, ↓MoG0_87 hM, ↓MoI0_88 hM, ↓MoP0_88 hM, ↓MoZ0_88 hM, ↓MoG0_89 hM, ↓MoG0_90 hM, ↓MoG0_91 hM, ↓MoG0_92 hM, ↓MoL0 hM, ↓MoS0 hM, ↓MoL1 hM, ↓MoS1 hM, ↓MoL2 hM, ↓MoS2 hM, ↓MoL3 hM, ↓MoS3 hM, ↓MoL4 hM, ↓MoS4 hM, ↓MoL5 hM, ↓MoS5 hM, ↓MoL6 hM, ↓MoS6 hM, ↓MoL7 hM, ↓MoS7 hM, ↓MoL8 hM, ↓MoS8 hM, ↓MoL9 hM, ↓MoS9 hM, ↓MoL10 hM, ↓MoS10 hM, ↓MoL11 hM, ↓MoS11 hM, ↓A_if, ↓A_jn, ↓A_lt, ↓A_rz, ↓A_rn, ↓A_nzi, ↓A_nzl, ↓A_nn1, ↓A_nn0, ↓reduceIte, true_and, and_true, if_true, if_false, ite_true, ite_false, reduceIte, tl_0, tl_1, tl_2, tl_3, tl_4, tl_5, tl_6, tl_7, tl_8, tl_9, tl_10, tl_11, tl_12, tl_13, tl_14, tl_15, tl_16, tl_17, tl_18, tl_19, tl_20, tl_21, tl_22, tl_23, tl_24, tl_25, tl_26, tl_27, tl_28, tl_29, tl_30, tl_31, tl_32, tl_33, tl_34, tl_35, tl_36, tl_37, tl_38, tl_39, tl_40, tl_41, tl_42, tl_43, tl_44, tl_45, tl_46, tl_47, tl_48, tl_49, tl_50, tl_51, tl_52, tl_53, tl_54, tl_57, tl_59, tl_60, tl_62, tl_63, tl_64, tl_97, tl_99, tl_100, tl_120, tl_122, tl_192, tl_193, tl_194, tl_195, tl_196, tl_255, tl_256, tl_299, tl_400, tl_401, tl_492, tl_493, tl_541, tl_849, tl_999, tl_1000, tl_1341, tl_1342, tl_1390, tl_2190, tl_5412, tl_5904, tl_9999, tl_12345, tl_32767, tl_65536, tl_1000000, tl_252645135, tl_858993459, tl_1103515245, tl_1431655765, nz_31, nz_c31, eq_self, or_true, true_or, or_false, false_or, Nat.add_zero, nz_lt, nz_le, nz_eq, nz_cl, nz_sub, nI_add, pk_mul, nt_lt, nf_lt, nf_eq, nz_mI, mI_eq, mI_eq', mI_lt, mI_gt, mI_add, ↓j_max, ↓j_min, Nat.sub_sub, Nat.reduceAdd, Nat.reduceSub, Nat.reduceLT, Nat.reduceEqDiff, Bool.false_eq_true]
  · rintro μ1 ⟨h1, F1⟩
    refine ⟨μ1, ⟨h1, F1⟩, fun k rec => ?_⟩
    simp (disch := omega) only [↓MoV0 hM, ↓MoI0_70 hM, ↓MoP0_70 hM, ↓MoZ0_70 hM, ↓MoG0_71 hM, ↓MoG0_72 hM, ↓MoG0_73 hM, ↓MoG0_74 hM, ↓MoG0_75 hM, ↓MoI0_76 hM, ↓MoP0_76 hM, ↓MoZ0_76 hM, ↓MoI0_77 hM, ↓MoP0_77 hM, ↓MoZ0_77 hM, ↓MoG0_78 hM, ↓MoI0_79 hM, ↓MoP0_79 hM, ↓MoZ0_79 hM, ↓MoI0_80 hM, ↓MoP0_80 hM, ↓MoZ0_80 hM, ↓MoI0_81 hM, ↓MoP0_81 hM, ↓MoZ0_81 hM, ↓MoI0_82 hM, ↓MoP0_82 hM, ↓MoZ0_82 hM, ↓MoI0_83 hM, ↓MoP0_83 hM, ↓MoZ0_83 hM, ↓MoI0_84 hM, ↓MoP0_84 hM, ↓MoZ0_84 hM, ↓MoG0_85 hM, ↓MoI0_86 hM, ↓MoP0_86 hM, ↓MoZ0_86 hM, ↓MoG0_87 hM, ↓MoI0_88 hM, ↓MoP0_88 hM, ↓MoZ0_88 hM, ↓MoG0_89 hM, ↓MoG0_90 hM, ↓MoG0_91 hM, ↓MoG0_92 hM, ↓MoL0 hM, ↓MoS0 hM, ↓MoL1 hM, ↓MoS1 hM, ↓MoL2 hM, ↓MoS2 hM, ↓MoL3 hM, ↓MoS3 hM, ↓MoL4 hM, ↓MoS4 hM, ↓MoL5 hM, ↓MoS5 hM, ↓MoL6 hM, ↓MoS6 hM, ↓MoL7 hM, ↓MoS7 hM, ↓MoL8 hM, ↓MoS8 hM, ↓MoL9 hM, ↓MoS9 hM, ↓MoL10 hM, ↓MoS10 hM, ↓MoL11 hM, ↓MoS11 hM, ↓A_if, ↓A_jn, ↓A_lt, ↓A_rz, ↓A_rn, ↓A_nzi, ↓A_nzl, ↓A_nn1, ↓A_nn0, ↓reduceIte, true_and, and_true, if_true, if_false, ite_true, ite_false, reduceIte, tl_0, tl_1, tl_2, tl_3, tl_4, tl_5, tl_6, tl_7, tl_8, tl_9, tl_10, tl_11, tl_12, tl_13, tl_14, tl_15, tl_16, tl_17, tl_18, tl_19, tl_20, tl_21, tl_22, tl_23, tl_24, tl_25, tl_26, tl_27, tl_28, tl_29, tl_30, tl_31, tl_32, tl_33, tl_34, tl_35, tl_36, tl_37, tl_38, tl_39, tl_40, tl_41, tl_42, tl_43, tl_44, tl_45, tl_46, tl_47, tl_48, tl_49, tl_50, tl_51, tl_52, tl_53, tl_54, tl_57, tl_59, tl_60, tl_62, tl_63, tl_64, tl_97, tl_99, tl_100, tl_120, tl_122, tl_192, tl_193, tl_194, tl_195, tl_196, tl_255, tl_256, tl_299, tl_400, tl_401, tl_492, tl_493, tl_541, tl_849, tl_999, tl_1000, tl_1341, tl_1342, tl_1390, tl_2190, tl_5412, tl_5904, tl_9999, tl_12345, tl_32767, tl_65536, tl_1000000, tl_252645135, tl_858993459, tl_1103515245, tl_1431655765, nz_31, nz_c31, eq_self, or_true, true_or, or_false, false_or, Nat.add_zero, nz_lt, nz_le, nz_eq, nz_cl, nz_sub, nI_add, pk_mul, nt_lt, nf_lt, nf_eq, nz_mI, mI_eq, mI_eq', mI_lt, mI_gt, mI_add, ↓j_max, ↓j_min, Nat.sub_sub, Nat.reduceAdd, Nat.reduceSub, Nat.reduceLT, Nat.reduceEqDiff, Bool.false_eq_true]
end P63
