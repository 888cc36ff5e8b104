/-! ===== pure: the hour's end and the log's next row ===== -/
theorem nI_or (a b : Nat) : nI a ||| nI b = nI (a ||| b) := by
  apply Int32.toBitVec_inj.mp
  show BitVec.ofNat 32 a ||| BitVec.ofNat 32 b = BitVec.ofNat 32 (a ||| b)
  rw [BitVec.ofNat_or]
theorem nI_orA {a b : Nat} (k : Nat) (hb : b < 2 ^ k) : nI (2 ^ k * a) ||| nI b = nI (2 ^ k * a + b) := by
  rw [nI_or, Nat.two_pow_add_eq_or_of_lt hb]
def tw_shl (T : Nat → Int32) : Nat → Int32 := fun j => if 197 ≤ j ∧ j < 492 then T (j - 5) else T j
theorem tw_shl_i {T : Nat → Int32} {j : Nat} (h : 197 ≤ j ∧ j < 492) : tw_shl T j = T (j - 5) := if_pos h
theorem tw_shl_o {T : Nat → Int32} {j : Nat} (h : j < 197 ∨ 492 ≤ j) : tw_shl T j = T j := if_neg (by omega)
def tw_m60 (x : Int32) : Int32 := if x + nI 1 < nI 60 then x + nI 1 else nI 60
def tw_tell (T : Nat → Int32) (tn : Int32) : Nat → Int32 := tw_u1 (tw_u1 (tw_u1 (tw_u1 (tw_u1 (tw_u1 (tw_shl T) 192 (T 4)) 193 (T 3)) 194 (T (8 + tw_nt (T 3)))) 195 (T (20 + tw_nt (T 3)))) 196 tn) 6 (tw_m60 (T 6))
theorem tw_m60_n {r : Nat} (hr : r < 61) : tw_m60 (nI r) = nI (if r < 59 then r + 1 else 60) := by
  unfold tw_m60
  rw [nI_add]
  rcases (by omega : r < 59 ∨ r = 59 ∨ r = 60) with h | h | h
  · have a2 : nI (r + 1) < nI 60 := by rw [nz_lt (by omega) (by omega)]; omega
    rw [if_pos a2, if_pos h]
  · rw [h]; try decide
  · rw [h]; try decide
theorem tw_m60_c {r : Nat} (hr : r < 61) : (if nI 60 < nI (r + 1) then nI 60 else nI (r + 1)) = tw_m60 (nI r) := by
  rw [tw_m60_n hr]
  rcases (by omega : r < 59 ∨ r = 59 ∨ r = 60) with h | h | h
  · have a1 : ¬ nI 60 < nI (r + 1) := by rw [nz_lt (by omega) (by omega)]; omega
    rw [if_neg a1, if_pos h]
  · rw [h]; try decide
  · rw [h]; try decide
theorem tw_tell_o {T : Nat → Int32} {tn : Int32} {j : Nat} (h : j < 192 ∨ 492 ≤ j) (h6 : j ≠ 6) : tw_tell T tn j = T j := by
  unfold tw_tell
  simp (disch := omega) only [tw_u1n, tw_shl_o]
theorem tw_tell_6 {T : Nat → Int32} {tn : Int32} : tw_tell T tn 6 = tw_m60 (T 6) := tw_u1a
theorem tw_tell_s {T : Nat → Int32} {tn : Int32} {k j : Nat} (hk : k < 59) (hj : j < 5) : tw_tell T tn (192 + 5 * (k + 1) + j) = T (192 + 5 * k + j) := by
  unfold tw_tell
  simp (disch := omega) only [tw_u1n, tw_shl_i]
  congr 1
  omega
theorem Wf_tell {T : Nat → Int32} {P : Nat} {tn : Int32} (W : tw_WF T P) (ht : ∃ x, x < 5 ∧ tn = nI x) : tw_WF (tw_tell T tn) P := by
  obtain ⟨x3, hx3, e3⟩ := W.2.2.2.1
  obtain ⟨z0, hz0, e6⟩ := W.2.2.2.2.2.1
  obtain ⟨p1, p2, -⟩ := Wf_p W hx3
  have h8 := W.2.1
  obtain ⟨w0, w1, w2, w3, w4, w5, w6, w7, w8, w9, w10⟩ := W
  have o : ∀ j, j < 192 → j ≠ 6 → tw_tell T tn j = T j := fun j a b => tw_tell_o (Or.inl a) b
  refine ⟨?_, w1, ?_, ?_, ?_, ?_, ?_, ?_, ?_, ?_, ?_⟩
  · rw [o 0 (by omega) (by omega)]; exact w0
  · simp (disch := omega) only [o]; exact w2
  · simp (disch := omega) only [o]; exact w3
  · simp (disch := omega) only [o]; exact w4
  · rw [tw_tell_6, e6, tw_m60_n hz0]
    exact ⟨_, by split <;> omega, rfl⟩
  · simp (disch := omega) only [o]; exact w6
  · intro q hq; simp (disch := omega) only [o]; exact w7 q hq
  · intro q r hq hr; simp (disch := omega) only [o]; exact w8 q r hq hr
  · intro q hq; simp (disch := omega) only [o]; exact w9 q hq
  · intro k z h61 hz hk
    rw [tw_tell_6, e6, tw_m60_n hz0] at hz
    have hz2 : z = if z0 < 59 then z0 + 1 else 60 := by
      have h := congrArg tw_nt hz
      rw [tw_nt_n (by split <;> omega), tw_nt_n (by omega)] at h
      exact h.symm
    cases k with
    | zero =>
      have f0 : tw_tell T tn (192 + 5 * 0) = T 4 := by unfold tw_tell; simp (disch := omega) only [tw_u1n]; exact tw_u1a
      have f1 : tw_tell T tn (192 + 5 * 0 + 1) = T 3 := by unfold tw_tell; simp (disch := omega) only [tw_u1n]; exact tw_u1a
      have f2 : tw_tell T tn (192 + 5 * 0 + 2) = T (8 + tw_nt (T 3)) := by unfold tw_tell; simp (disch := omega) only [tw_u1n]; exact tw_u1a
      have f3 : tw_tell T tn (192 + 5 * 0 + 3) = T (20 + tw_nt (T 3)) := by unfold tw_tell; simp (disch := omega) only [tw_u1n]; exact tw_u1a
      have f4 : tw_tell T tn (192 + 5 * 0 + 4) = tn := by unfold tw_tell; simp (disch := omega) only [tw_u1n]; exact tw_u1a
      have g : ∀ v, (v = mI ∨ ∃ p, p < P ∧ v = nI p) → ∃ x, x < 9 ∧ v = nI x - nI 1 := by
        rintro v (rfl | ⟨p, hp, rfl⟩)
        · exact ⟨0, by omega, by decide⟩
        · exact ⟨p + 1, by omega, by rw [nz_sub (by omega), Nat.add_sub_cancel]⟩
      rw [f0, f1, f2, f3, f4, e3, tw_nt_n (by omega)]
      rw [e3] at w3
      exact ⟨w4, w3, g _ p1, g _ p2, ht⟩
    | succ k =>
      have hk2 : k < 59 ∧ k < z0 := by subst hz2; split at hk <;> omega
      have := w10 k z0 hz0 e6 hk2.2
      have b0 : tw_tell T tn (192 + 5 * (k + 1)) = T (192 + 5 * k) := tw_tell_s (j := 0) hk2.1 (by omega)
      have b1 : tw_tell T tn (192 + 5 * (k + 1) + 1) = T (192 + 5 * k + 1) := tw_tell_s hk2.1 (by omega)
      have b2 : tw_tell T tn (192 + 5 * (k + 1) + 2) = T (192 + 5 * k + 2) := tw_tell_s hk2.1 (by omega)
      have b3 : tw_tell T tn (192 + 5 * (k + 1) + 3) = T (192 + 5 * k + 3) := tw_tell_s hk2.1 (by omega)
      have b4 : tw_tell T tn (192 + 5 * (k + 1) + 4) = T (192 + 5 * k + 4) := tw_tell_s hk2.1 (by omega)
      rw [b0, b1, b2, b3, b4]
      exact this
theorem tw_mi0 {T : Nat → Int32} {p P : Nat} (h8 : P ≤ 8) : ∀ d, p + 1 + d ≤ P → tw_mi (nI 0) p T d = T
  | 0, _ => rfl
  | d + 1, h => by
    show tw_m1 (nI 0) p (p + 1 + d) (tw_mi (nI 0) p T d) = T
    rw [tw_mi0 h8 d (by omega)]
    unfold tw_m1
    have g : ∀ q : Fin 8, ¬ ((nI 0 >>> nI q.1) &&& nI 1 = nI 1) := by decide
    rw [if_neg (g ⟨p, by omega⟩)]
theorem tw_mt0 {T : Nat → Int32} {P : Nat} (h8 : P ≤ 8) : ∀ i, i ≤ P → tw_mt (nI 0) P T i = T
  | 0, _ => rfl
  | i + 1, h => by
    show tw_mi (nI 0) i (tw_mt (nI 0) P T i) (P - (i + 1)) = T
    rw [tw_mt0 h8 i (by omega)]
    exact tw_mi0 h8 _ (by omega)
section P62
variable {sh : tw_Sh} {μ : Nat → Nat → Int32} {la : Nat → Nat → Int64} {n a b w m lw P N : Nat} {p o l h i j z c x y f q kd : Nat} {T T' : Nat → Int32} {v u rg tn : Int32} {F : Nat → Int32} {C : Nat → Nat × Nat} {s : Nat → Int32}
theorem m_dayEnds (hM : tw_Mo sh m) (calm : Bool) (H : tw_LX (μ (m + 1))) (W : tw_WF (μ (m + 1)) P) : ∃ μ', (μ' (m + 1) = tw_u1 (tw_bd (μ (m + 1)) calm P) 4 (tw_n9 (tw_bd (μ (m + 1)) calm P 4)) ∧ tw_md m μ μ') ∧ ∀ k, f_X12_dayEnds m (if calm then nI 1 else nI 0) k (sh, μ, la, n) = k () (sh, μ', la, n) := by
  have h8 := W.2.1
  have h100 : ¬ nI 100 = 0 := by decide
  simp (disch := omega) only [f_X12_dayEnds, ↓A_if, ↓A_jn, ↓A_lt, ↓A_rz, ↓A_rn, ↓A_nzi, ↓A_nzl, ↓A_nn1, ↓A_nn0, ↓reduceIte, true_and, and_true, if_true, if_false, ite_true, ite_false, reduceIte, tl_0, tl_1, tl_2, tl_3, tl_4, tl_5, tl_6, tl_7, tl_8, tl_9, tl_10, tl_11, tl_12, tl_13, tl_14, tl_15, tl_16, tl_17, tl_18, tl_19, tl_20, tl_21, tl_22, tl_23, tl_24, tl_25, tl_26, tl_27, tl_28, tl_29, tl_30, tl_31, tl_32, tl_33, tl_34, tl_35, tl_36, tl_37, tl_38, tl_39, tl_40, tl_41, tl_42, tl_43, tl_44, tl_45, tl_46, tl_47, tl_48, tl_49, tl_50, tl_51, tl_52, tl_53, tl_54, tl_57, tl_59, tl_60, tl_62, tl_63, tl_64, tl_97, tl_99, tl_100, tl_120, tl_122, tl_192, tl_193, tl_194, tl_195, tl_196, tl_255, tl_256, tl_299, tl_400, tl_401, tl_492, tl_493, tl_541, tl_849, tl_999, tl_1000, tl_1341, tl_1342, tl_1390, tl_2190, tl_5412, tl_5904, tl_9999, tl_12345, tl_32767, tl_65536, tl_1000000, tl_252645135, tl_858993459, tl_1103515245, tl_1431655765, nz_31, nz_c31, eq_self, or_true, true_or, or_false, false_or, Nat.add_zero, nz_lt, nz_le, nz_eq, nz_cl, nz_sub, nI_add, pk_mul, nt_lt, nf_lt, nf_eq, nz_mI, mI_eq, mI_eq', mI_lt, mI_gt, mI_add, ↓j_max, ↓j_min, Nat.sub_sub, Nat.reduceAdd, Nat.reduceSub, Nat.reduceLT, Nat.reduceEqDiff, Bool.false_eq_true]
  cases calm
  · refine tw_lp_ex P (fun i => ((tw_dr (μ (m + 1)) i).1, nI i)) (fun i μ' => μ' = tw_ra μ (m + 1) (tw_u1 (μ (m + 1)) 7 (tw_dr (μ (m + 1)) i).2)) rfl ?_ ?_ ?_
    · have e : (tw_dr (μ (m + 1)) 0).2 = μ (m + 1) 7 := rfl
      rw [e, tw_u1_self, tw_ra_s]
    · rintro i hi _ rfl
      refine ⟨_, rfl, fun k rec => ?_⟩
      have hP : tw_ra μ (m + 1) (tw_u1 (μ (m + 1)) 7 (tw_dr (μ (m + 1)) i).2) (m + 1) 0 = nI P := by rw [tw_ra_a, tw_u1n (by omega)]; exact W.1
      have e7 : tw_ra μ (m + 1) (tw_u1 (μ (m + 1)) 7 (tw_dr (μ (m + 1)) i).2) (m + 1) 7 = (tw_dr (μ (m + 1)) i).2 := by rw [tw_ra_a, tw_u1a]
      have er : tw_u1 (μ (m + 1)) 7 (tw_nx (tw_dr (μ (m + 1)) i).2) (32 + 20 * i + 1) = μ (m + 1) (32 + 20 * i + 1) := tw_u1n (by omega)
      rw [tw_dr_s]
      by_cases g : tw_dw (tw_dr (μ (m + 1)) i).2 < μ (m + 1) (32 + 20 * i + 1) <;> simp (disch := omega) only [↓m_people hM, hP, ↓m_drawn hM, ↓m_of hM, e7, er, g, tw_ra_a, tw_ra_aj, tw_ra_ra, tw_u1_u1, nz_or0, Bool.false_eq_true, ↓MoV0 hM, ↓MoI0_70 hM, ↓MoP0_70 hM, ↓MoZ0_70 hM, ↓MoG0_71 hM, ↓MoG0_72 hM, ↓MoG0_73 hM, ↓MoG0_74 hM, ↓MoG0_75 hM, ↓MoI0_76 hM, ↓MoP0_76 hM, ↓MoZ0_76 hM, ↓MoI0_77 hM, ↓MoP0_77 hM, ↓MoZ0_77 hM, ↓MoG0_78 hM, ↓MoI0_79 hM, ↓MoP0_79 hM, ↓MoZ0_79 hM, ↓MoI0_80 hM, ↓MoP0_80 hM, ↓MoZ0_80 hM, ↓MoI0_81 hM, ↓MoP0_81 hM, ↓MoZ0_81 hM, ↓MoI0_82 hM, ↓MoP0_82 hM, ↓MoZ0_82 hM, ↓MoI0_83 hM, ↓MoP0_83 hM, ↓MoZ0_83 hM, ↓MoI0_84 hM, ↓MoP0_84 hM, ↓MoZ0_84 hM, ↓MoG0_85 hM, ↓MoI0_86 hM, ↓MoP0_86 hM, ↓MoZ0_86 hM, ↓MoG0_87 hM, ↓MoI0_88 hM, ↓MoP0_88 hM, ↓MoZ0_88 hM, ↓MoG0_89 hM, ↓MoG0_90 hM, ↓MoG0_91 hM, ↓MoG0_92 hM, ↓MoL0 hM, ↓MoS0 hM, ↓MoL1 hM, ↓MoS1 hM, ↓MoL2 hM, ↓MoS2 hM, ↓MoL3 hM, ↓MoS3 hM, ↓MoL4 hM, ↓MoS4 hM, ↓MoL5 hM, ↓MoS5 hM, ↓MoL6 hM, ↓MoS6 hM, ↓MoL7 hM, ↓MoS7 hM, ↓MoL8 hM, ↓MoS8 hM, ↓MoL9 hM, ↓MoS9 hM, ↓MoL10 hM, ↓MoS10 hM, ↓MoL11 hM, ↓MoS11 hM, ↓A_if, ↓A_jn, ↓A_lt, ↓A_rz, ↓A_rn, ↓A_nzi, ↓A_nzl, ↓A_nn1, ↓A_nn0, ↓reduceIte, true_and, and_true, if_true, if_false, ite_true, ite_false, reduceIte, tl_0, tl_1, tl_2, tl_3, tl_4, tl_5, tl_6, tl_7, tl_8, tl_9, tl_10, tl_11, tl_12, tl_13, tl_14, tl_15, tl_16, tl_17, tl_18, tl_19, tl_20, tl_21, tl_22, tl_23, tl_24, tl_25, tl_26, tl_27, tl_28, tl_29, tl_30, tl_31, tl_32, tl_33, tl_34, tl_35, tl_36, tl_37, tl_38, tl_39, tl_40, tl_41, tl_42, tl_43, tl_44, tl_45, tl_46, tl_47, tl_48, tl_49, tl_50, tl_51, tl_52, tl_53, tl_54, tl_57, tl_59, tl_60, tl_62, tl_63, tl_64, tl_97, tl_99, tl_100, tl_120, tl_122, tl_192, tl_193, tl_194, tl_195, tl_196, tl_255, tl_256, tl_299, tl_400, tl_401, tl_492, tl_493, tl_541, tl_849, tl_999, tl_1000, tl_1341, tl_1342, tl_1390, tl_2190, tl_5412, tl_5904, tl_9999, tl_12345, tl_32767, tl_65536, tl_1000000, tl_252645135, tl_858993459, tl_1103515245, tl_1431655765, nz_31, nz_c31, eq_self, or_true, true_or, or_false, false_or, Nat.add_zero, nz_lt, nz_le, nz_eq, nz_cl, nz_sub, nI_add, pk_mul, nt_lt, nf_lt, nf_eq, nz_mI, mI_eq, mI_eq', mI_lt, mI_gt, mI_add, ↓j_max, ↓j_min, Nat.sub_sub, Nat.reduceAdd, Nat.reduceSub, Nat.reduceLT, Nat.reduceEqDiff, Bool.false_eq_true]
    · rintro _ rfl
      have hP : tw_ra μ (m + 1) (tw_u1 (μ (m + 1)) 7 (tw_dr (μ (m + 1)) P).2) (m + 1) 0 = nI P := by rw [tw_ra_a, tw_u1n (by omega)]; exact W.1
      simp (disch := omega) only [↓m_people hM, hP, ↓MoV0 hM, ↓MoI0_70 hM, ↓MoP0_70 hM, ↓MoZ0_70 hM, ↓MoG0_71 hM, ↓MoG0_72 hM, ↓MoG0_73 hM, ↓MoG0_74 hM, ↓MoG0_75 hM, ↓MoI0_76 hM, ↓MoP0_76 hM, ↓MoZ0_76 hM, ↓MoI0_77 hM, ↓MoP0_77 hM, ↓MoZ0_77 hM, ↓MoG0_78 hM, ↓MoI0_79 hM, ↓MoP0_79 hM, ↓MoZ0_79 hM, ↓MoI0_80 hM, ↓MoP0_80 hM, ↓MoZ0_80 hM, ↓MoI0_81 hM, ↓MoP0_81 hM, ↓MoZ0_81 hM, ↓MoI0_82 hM, ↓MoP0_82 hM, ↓MoZ0_82 hM, ↓MoI0_83 hM, ↓MoP0_83 hM, ↓MoZ0_83 hM, ↓MoI0_84 hM, ↓MoP0_84 hM, ↓MoZ0_84 hM, ↓MoG0_85 hM, ↓MoI0_86 hM, ↓MoP0_86 hM, ↓MoZ0_86 hM, ↓MoG0_87 hM, ↓MoI0_88 hM, ↓MoP0_88 hM, ↓MoZ0_88 hM, ↓MoG0_89 hM, ↓MoG0_90 hM, ↓MoG0_91 hM, ↓MoG0_92 hM, ↓MoL0 hM, ↓MoS0 hM, ↓MoL1 hM, ↓MoS1 hM, ↓MoL2 hM, ↓MoS2 hM, ↓MoL3 hM, ↓MoS3 hM, ↓MoL4 hM, ↓MoS4 hM, ↓MoL5 hM, ↓MoS5 hM, ↓MoL6 hM, ↓MoS6 hM, ↓MoL7 hM, ↓MoS7 hM, ↓MoL8 hM, ↓MoS8 hM, ↓MoL9 hM, ↓MoS9 hM, ↓MoL10 hM, ↓MoS10 hM, ↓MoL11 hM, ↓MoS11 hM, ↓A_if, ↓A_jn, ↓A_lt, ↓A_rz, ↓A_rn, ↓A_nzi, ↓A_nzl, ↓A_nn1, ↓A_nn0, ↓reduceIte, true_and, and_true, if_true, if_false, ite_true, ite_false, reduceIte, tl_0, tl_1, tl_2, tl_3, tl_4, tl_5, tl_6, tl_7, tl_8, tl_9, tl_10, tl_11, tl_12, tl_13, tl_14, tl_15, tl_16, tl_17, tl_18, tl_19, tl_20, tl_21, tl_22, tl_23, tl_24, tl_25, tl_26, tl_27, tl_28, tl_29, tl_30, tl_31, tl_32, tl_33, tl_34, tl_35, tl_36, tl_37, tl_38, tl_39, tl_40, tl_41, tl_42, tl_43, tl_44, tl_45, tl_46, tl_47, tl_48, tl_49, tl_50, tl_51, tl_52, tl_53, tl_54, tl_57, tl_59, tl_60, tl_62, tl_63, tl_64, tl_97, tl_99, tl_100, tl_120, tl_122, tl_192, tl_193, tl_194, tl_195, tl_196, tl_255, tl_256, tl_299, tl_400, tl_401, tl_492, tl_493, tl_541, tl_849, tl_999, tl_1000, tl_1341, tl_1342, tl_1390, tl_2190, tl_5412, tl_5904, tl_9999, tl_12345, tl_32767, tl_65536, tl_1000000, tl_252645135, tl_858993459, tl_1103515245, tl_1431655765, nz_31, nz_c31, eq_self, or_true, true_or, or_false, false_or, Nat.add_zero, nz_lt, nz_le, nz_eq, nz_cl, nz_sub, nI_add, pk_mul, nt_lt, nf_lt, nf_eq, nz_mI, mI_eq, mI_eq', mI_lt, mI_gt, mI_add, ↓j_max, ↓j_min, Nat.sub_sub, Nat.reduceAdd, Nat.reduceSub, Nat.reduceLT, Nat.reduceEqDiff, Bool.false_eq_true]
      obtain ⟨μ', ⟨J1, J2⟩, E⟩ := m_meetings (la := la) (n := n) (v := (tw_dr (μ (m + 1)) P).1) (μ := tw_ra μ (m + 1) (tw_u1 (μ (m + 1)) 7 (tw_dr (μ (m + 1)) P).2)) (P := P) hM (by rw [tw_ra_a]; exact tw_LX_same H (tw_u1n (by omega)) (fun j hj => tw_u1n (by omega))) (by rw [tw_ra_a]; exact Wf_s7 W _) rfl
      rw [tw_ra_a] at J1
      exact ⟨μ', ⟨J1, tw_md_t tw_md_w J2⟩, fun k _ => E k⟩
  · refine tw_lp_ex 0 (fun i => (nI 0, nI 0)) (fun i μ' => μ' = μ) rfl rfl (fun i hi => by omega) ?_
    rintro _ rfl
    obtain ⟨μ', ⟨J1, J2⟩, E⟩ := m_meetings (la := la) (n := n) (v := nI 0) (P := P) hM H W rfl
    rw [tw_mt0 h8 P (Nat.le_refl P)] at J1
    refine ⟨μ', ⟨J1, J2⟩, fun k rec => ?_⟩
    rw [← E k]
    rcases Nat.eq_zero_or_pos P with g | g <;> simp (disch := omega) only [↓m_people hM, W.1, ↓MoV0 hM, ↓MoI0_70 hM, ↓MoP0_70 hM, ↓MoZ0_70 hM, ↓MoG0_71 hM, ↓MoG0_72 hM, ↓MoG0_73 hM, ↓MoG0_74 hM, ↓MoG0_75 hM, ↓MoI0_76 hM, ↓MoP0_76 hM, ↓MoZ0_76 hM, ↓MoI0_77 hM, ↓MoP0_77 hM, ↓MoZ0_77 hM, ↓MoG0_78 hM, ↓MoI0_79 hM, ↓MoP0_79 hM, ↓MoZ0_79 hM, ↓MoI0_80 hM, ↓MoP0_80 hM, ↓MoZ0_80 hM, ↓MoI0_81 hM, ↓MoP0_81 hM, ↓MoZ0_81 hM, ↓MoI0_82 hM, ↓MoP0_82 hM, ↓MoZ0_82 hM, ↓MoI0_83 hM, ↓MoP0_83 hM, ↓MoZ0_83 hM, ↓MoI0_84 hM, ↓MoP0_84 hM, ↓MoZ0_84 hM, ↓MoG0_85 hM, ↓MoI0_86 hM, ↓MoP0_86 hM, ↓MoZ0_86 hM, ↓MoG0_87 hM, ↓MoI0_88 hM, ↓MoP0_88 hM, ↓MoZ0_88 hM, ↓MoG0_89 hM, ↓MoG0_90 hM, ↓MoG0_91 hM, ↓MoG0_92 hM, ↓MoL0 hM, ↓MoS0 hM, ↓MoL1 hM, ↓MoS1 hM, ↓MoL2 hM, ↓MoS2 hM, ↓MoL3 hM, ↓MoS3 hM, ↓MoL4 hM, ↓MoS4 hM, ↓MoL5 hM, ↓MoS5 hM, ↓MoL6 hM, ↓MoS6 hM, ↓MoL7 hM, ↓MoS7 hM, ↓MoL8 hM, ↓MoS8 hM, ↓MoL9 hM, ↓MoS9 hM, ↓MoL10 hM, ↓MoS10 hM, ↓MoL11 hM, ↓MoS11 hM, ↓A_if, ↓A_jn, ↓A_lt, ↓A_rz, ↓A_rn, ↓A_nzi, ↓A_nzl, ↓A_nn1, ↓A_nn0, ↓reduceIte, true_and, and_true, if_true, if_false, ite_true, ite_false, reduceIte, tl_0, tl_1, tl_2, tl_3, tl_4, tl_5, tl_6, tl_7, tl_8, tl_9, tl_10, tl_11, tl_12, tl_13, tl_14, tl_15, tl_16, tl_17, tl_18, tl_19, tl_20, tl_21, tl_22, tl_23, tl_24, tl_25, tl_26, tl_27, tl_28, tl_29, tl_30, tl_31, tl_32, tl_33, tl_34, tl_35, tl_36, tl_37, tl_38, tl_39, tl_40, tl_41, tl_42, tl_43, tl_44, tl_45, tl_46, tl_47, tl_48, tl_49, tl_50, tl_51, tl_52, tl_53, tl_54, tl_57, tl_59, tl_60, tl_62, tl_63, tl_64, tl_97, tl_99, tl_100, tl_120, tl_122, tl_192, tl_193, tl_194, tl_195, tl_196, tl_255, tl_256, tl_299, tl_400, tl_401, tl_492, tl_493, tl_541, tl_849, tl_999, tl_1000, tl_1341, tl_1342, tl_1390, tl_2190, tl_5412, tl_5904, tl_9999, tl_12345, tl_32767, tl_65536, tl_1000000, tl_252645135, tl_858993459, tl_1103515245, tl_1431655765, nz_31, nz_c31, eq_self, or_true, true_or, or_false, false_or, Nat.add_zero, nz_lt, nz_le, nz_eq, nz_cl, nz_sub, nI_add, pk_mul, nt_lt, nf_lt, nf_eq, nz_mI, mI_eq, mI_eq', mI_lt, mI_gt, mI_add, ↓j_max, ↓j_min, Nat.sub_sub, Nat.reduceAdd, Nat.reduceSub, Nat.reduceLT, Nat.reduceEqDiff, Bool.false_eq_true]
theorem m_hourEnds (hM : tw_Mo sh m) (calm : Bool) (H : tw_LX (μ (m + 1))) (W : tw_WF (μ (m + 1)) P) : ∃ μ', (μ' (m + 1) = tw_he (μ (m + 1)) calm P ∧ tw_md m μ μ') ∧ ∀ k, f_X12_hourEnds m (if calm then nI 1 else nI 0) k (sh, μ, la, n) = k () (sh, μ', la, n) := by
  unfold tw_he
  by_cases g : μ (m + 1) 3 + nI 1 < nI 12
  · rw [if_pos g]
    refine ⟨tw_ra μ (m + 1) (tw_u1 (μ (m + 1)) 3 (μ (m + 1) 3 + nI 1)), ⟨tw_ra_a, tw_md_w⟩, fun k => ?_⟩
    simp (disch := omega) only [f_X12_hourEnds, g, tw_ua, tw_up_as, ↓MoV0 hM, ↓MoI0_70 hM, ↓MoP0_70 hM, ↓MoZ0_70 hM, ↓MoG0_71 hM, ↓MoG0_72 hM, ↓MoG0_73 hM, ↓MoG0_74 hM, ↓MoG0_75 hM, ↓MoI0_76 hM, ↓MoP0_76 hM, ↓MoZ0_76 hM, ↓MoI0_77 hM, ↓MoP0_77 hM, ↓MoZ0_77 hM, ↓MoG0_78 hM, ↓MoI0_79 hM, ↓MoP0_79 hM, ↓MoZ0_79 hM, ↓MoI0_80 hM, ↓MoP0_80 hM, ↓MoZ0_80 hM, ↓MoI0_81 hM, ↓MoP0_81 hM, ↓MoZ0_81 hM, ↓MoI0_82 hM, ↓MoP0_82 hM, ↓MoZ0_82 hM, ↓MoI0_83 hM, ↓MoP0_83 hM, ↓MoZ0_83 hM, ↓MoI0_84 hM, ↓MoP0_84 hM, ↓MoZ0_84 hM, ↓MoG0_85 hM, ↓MoI0_86 hM, ↓MoP0_86 hM, ↓MoZ0_86 hM, ↓MoG0_87 hM, ↓MoI0_88 hM, ↓MoP0_88 hM, ↓MoZ0_88 hM, ↓MoG0_89 hM, ↓MoG0_90 hM, ↓MoG0_91 hM, ↓MoG0_92 hM, ↓MoL0 hM, ↓MoS0 hM, ↓MoL1 hM, ↓MoS1 hM, ↓MoL2 hM, ↓MoS2 hM, ↓MoL3 hM, ↓MoS3 hM, ↓MoL4 hM, ↓MoS4 hM, ↓MoL5 hM, ↓MoS5 hM, ↓MoL6 hM, ↓MoS6 hM, ↓MoL7 hM, ↓MoS7 hM, ↓MoL8 hM, ↓MoS8 hM, ↓MoL9 hM, ↓MoS9 hM, ↓MoL10 hM, ↓MoS10 hM, ↓MoL11 hM, ↓MoS11 hM, ↓A_if, ↓A_jn, ↓A_lt, ↓A_rz, ↓A_rn, ↓A_nzi, ↓A_nzl, ↓A_nn1, ↓A_nn0, ↓reduceIte, true_and, and_true, if_true, if_false, ite_true, ite_false, reduceIte, tl_0, tl_1, tl_2, tl_3, tl_4, tl_5, tl_6, tl_7, tl_8, tl_9, tl_10, tl_11, tl_12, tl_13, tl_14, tl_15, tl_16, tl_17, tl_18, tl_19, tl_20, tl_21, tl_22, tl_23, tl_24, tl_25, tl_26, tl_27, tl_28, tl_29, tl_30, tl_31, tl_32, tl_33, tl_34, tl_35, tl_36, tl_37, tl_38, tl_39, tl_40, tl_41, tl_42, tl_43, tl_44, tl_45, tl_46, tl_47, tl_48, tl_49, tl_50, tl_51, tl_52, tl_53, tl_54, tl_57, tl_59, tl_60, tl_62, tl_63, tl_64, tl_97, tl_99, tl_100, tl_120, tl_122, tl_192, tl_193, tl_194, tl_195, tl_196, tl_255, tl_256, tl_299, tl_400, tl_401, tl_492, tl_493, tl_541, tl_849, tl_999, tl_1000, tl_1341, tl_1342, tl_1390, tl_2190, tl_5412, tl_5904, tl_9999, tl_12345, tl_32767, tl_65536, tl_1000000, tl_252645135, tl_858993459, tl_1103515245, tl_1431655765, nz_31, nz_c31, eq_self, or_true, true_or, or_false, false_or, Nat.add_zero, nz_lt, nz_le, nz_eq, nz_cl, nz_sub, nI_add, pk_mul, nt_lt, nf_lt, nf_eq, nz_mI, mI_eq, mI_eq', mI_lt, mI_gt, mI_add, ↓j_max, ↓j_min, Nat.sub_sub, Nat.reduceAdd, Nat.reduceSub, Nat.reduceLT, Nat.reduceEqDiff, Bool.false_eq_true]
  · rw [if_neg g]
    obtain ⟨μ', ⟨J1, J2⟩, E⟩ := m_dayEnds (la := la) (n := n) (μ := tw_ra μ (m + 1) (tw_u1 (μ (m + 1)) 3 (nI 0))) (P := P) hM calm (by rw [tw_ra_a]; exact tw_LX_same H (tw_u1n (by omega)) (fun j hj => tw_u1n (by omega))) (by rw [tw_ra_a]; exact Wf_s3 W (by omega))
    rw [tw_ra_a] at J1
    refine ⟨μ', ⟨J1, tw_md_t tw_md_w J2⟩, fun k => ?_⟩
    simp (disch := omega) only [f_X12_hourEnds, g, tw_ra_a, tw_ra_aj, tw_ra_ra, tw_u1a, tw_u1_u1, tw_up_as, E, ↓MoV0 hM, ↓MoI0_70 hM, ↓MoP0_70 hM, ↓MoZ0_70 hM, ↓MoG0_71 hM, ↓MoG0_72 hM, ↓MoG0_73 hM, ↓MoG0_74 hM, ↓MoG0_75 hM, ↓MoI0_76 hM, ↓MoP0_76 hM, ↓MoZ0_76 hM, ↓MoI0_77 hM, ↓MoP0_77 hM, ↓MoZ0_77 hM, ↓MoG0_78 hM, ↓MoI0_79 hM, ↓MoP0_79 hM, ↓MoZ0_79 hM, ↓MoI0_80 hM, ↓MoP0_80 hM, ↓MoZ0_80 hM, ↓MoI0_81 hM, ↓MoP0_81 hM, ↓MoZ0_81 hM, ↓MoI0_82 hM, ↓MoP0_82 hM, ↓MoZ0_82 hM, ↓MoI0_83 hM, ↓MoP0_83 hM, ↓MoZ0_83 hM, ↓MoI0_84 hM, ↓MoP0_84 hM, ↓MoZ0_84 hM, ↓MoG0_85 hM, ↓MoI0_86 hM, ↓MoP0_86 hM, ↓MoZ0_86 hM, ↓MoG0_87 hM, ↓MoI0_88 hM, ↓MoP0_88 hM, ↓MoZ0_88 hM, ↓MoG0_89 hM, ↓MoG0_90 hM, ↓MoG0_91 hM, ↓MoG0_92 hM, ↓MoL0 hM, ↓MoS0 hM, ↓MoL1 hM, ↓MoS1 hM, ↓MoL2 hM, ↓MoS2 hM, ↓MoL3 hM, ↓MoS3 hM, ↓MoL4 hM, ↓MoS4 hM, ↓MoL5 hM, ↓MoS5 hM, ↓MoL6 hM, ↓MoS6 hM, ↓MoL7 hM, ↓MoS7 hM, ↓MoL8 hM, ↓MoS8 hM, ↓MoL9 hM, ↓MoS9 hM, ↓MoL10 hM, ↓MoS10 hM, ↓MoL11 hM, ↓MoS11 hM, ↓A_if, ↓A_jn, ↓A_lt, ↓A_rz, ↓A_rn, ↓A_nzi, ↓A_nzl, ↓A_nn1, ↓A_nn0, ↓reduceIte, true_and, and_true, if_true, if_false, ite_true, ite_false, reduceIte, tl_0, tl_1, tl_2, tl_3, tl_4, tl_5, tl_6, tl_7, tl_8, tl_9, tl_10, tl_11, tl_12, tl_13, tl_14, tl_15, tl_16, tl_17, tl_18, tl_19, tl_20, tl_21, tl_22, tl_23, tl_24, tl_25, tl_26, tl_27, tl_28, tl_29, tl_30, tl_31, tl_32, tl_33, tl_34, tl_35, tl_36, tl_37, tl_38, tl_39, tl_40, tl_41, tl_42, tl_43, tl_44, tl_45, tl_46, tl_47, tl_48, tl_49, tl_50, tl_51, tl_52, tl_53, tl_54, tl_57, tl_59, tl_60, tl_62, tl_63, tl_64, tl_97, tl_99, tl_100, tl_120, tl_122, tl_192, tl_193, tl_194, tl_195, tl_196, tl_255, tl_256, tl_299, tl_400, tl_401, tl_492, tl_493, tl_541, tl_849, tl_999, tl_1000, tl_1341, tl_1342, tl_1390, tl_2190, tl_5412, tl_5904, tl_9999, tl_12345, tl_32767, tl_65536, tl_1000000, tl_252645135, tl_858993459, tl_1103515245, tl_1431655765, nz_31, nz_c31, eq_self, or_true, true_or, or_false, false_or, Nat.add_zero, nz_lt, nz_le, nz_eq, nz_cl, nz_sub, nI_add, pk_mul, nt_lt, nf_lt, nf_eq, nz_mI, mI_eq, mI_eq', mI_lt, mI_gt, mI_add, ↓j_max, ↓j_min, Nat.sub_sub, Nat.reduceAdd, Nat.reduceSub, Nat.reduceLT, Nat.reduceEqDiff, Bool.false_eq_true]
theorem w_passHour (hw : tw_Tw sh w) (W : tw_WF T P) (hp : p < 8) (ho : o < 8) (h2 : tw_2 μ w T p o rg) : ∃ μ', (tw_2 μ' w (tw_he T true P) p o rg ∧ tw_wl w lw μ μ') ∧ ∀ k, f_X10_passHour w k (sh, μ, la, n) = k () (sh, μ', la, n) := by
  obtain ⟨e0, e1, e2, e3, e4, e5, e6, e7, e8, e9, e10, e11⟩ := h2
  obtain ⟨y, hy, ey⟩ := Wf_4 W
  unfold tw_he tw_bd
  by_cases g : T 3 + nI 1 < nI 12
  · rw [if_pos g]
    refine ⟨tw_up μ (w + 1) 7 (T 3 + nI 1), ⟨?_, tw_wl_1⟩, fun k => ?_⟩
    · unfold tw_2
      simp (disch := omega) only [↓tw_un, ↓tw_uk, ↓tw_ua, ↓tw_cpf_ne, ↓tw_cpf_in, ↓tw_cpf_out, tw_u1n, tw_u1a, e0, e1, e2, e3, e4, e5, e6, e7, e8, e9, e10, e11, and_self]
    · simp (disch := omega) only [f_X10_passHour, e7, g, tw_ua, ↓TwV0 hw, ↓TwG0_54 hw, ↓TwI0_55 hw, ↓TwP0_55 hw, ↓TwZ0_55 hw, ↓TwL0 hw, ↓TwS0 hw, ↓A_if, ↓A_jn, ↓A_lt, ↓A_rz, ↓A_rn, ↓A_nzi, ↓A_nzl, ↓A_nn1, ↓A_nn0, ↓reduceIte, true_and, and_true, if_true, if_false, ite_true, ite_false, reduceIte, tl_0, tl_1, tl_2, tl_3, tl_4, tl_5, tl_6, tl_7, tl_8, tl_9, tl_10, tl_11, tl_12, tl_13, tl_14, tl_15, tl_16, tl_17, tl_18, tl_19, tl_20, tl_21, tl_22, tl_23, tl_24, tl_25, tl_26, tl_27, tl_28, tl_29, tl_30, tl_31, tl_32, tl_33, tl_34, tl_35, tl_36, tl_37, tl_38, tl_39, tl_40, tl_41, tl_42, tl_43, tl_44, tl_45, tl_46, tl_47, tl_48, tl_49, tl_50, tl_51, tl_52, tl_53, tl_54, tl_57, tl_59, tl_60, tl_62, tl_63, tl_64, tl_97, tl_99, tl_100, tl_120, tl_122, tl_192, tl_193, tl_194, tl_195, tl_196, tl_255, tl_256, tl_299, tl_400, tl_401, tl_492, tl_493, tl_541, tl_849, tl_999, tl_1000, tl_1341, tl_1342, tl_1390, tl_2190, tl_5412, tl_5904, tl_9999, tl_12345, tl_32767, tl_65536, tl_1000000, tl_252645135, tl_858993459, tl_1103515245, tl_1431655765, nz_31, nz_c31, eq_self, or_true, true_or, or_false, false_or, Nat.add_zero, nz_lt, nz_le, nz_eq, nz_cl, nz_sub, nI_add, pk_mul, nt_lt, nf_lt, nf_eq, nz_mI, mI_eq, mI_eq', mI_lt, mI_gt, mI_add, ↓j_max, ↓j_min, Nat.sub_sub, Nat.reduceAdd, Nat.reduceSub, Nat.reduceLT, Nat.reduceEqDiff, Bool.false_eq_true]
  · rw [if_neg g]
    have e8' := tw_n9_c ey hy
    simp only [if_true]
    have et : tw_u1 T 3 (nI 0) 4 = T 4 := tw_u1n (by omega)
    rw [et]
    refine ⟨tw_up (tw_up (tw_up μ (w + 1) 7 (T 3 + nI 1)) (w + 1) 7 (nI 0)) (w + 1) 8 (tw_n9 (T 4)), ⟨?_, tw_wl_t (tw_wl_t tw_wl_1 tw_wl_1) tw_wl_1⟩, fun k => ?_⟩
    · unfold tw_2
      simp (disch := omega) only [↓tw_un, ↓tw_uk, ↓tw_ua, ↓tw_cpf_ne, ↓tw_cpf_in, ↓tw_cpf_out, tw_u1n, tw_u1a, e0, e1, e2, e3, e4, e5, e6, e7, e8, e9, e10, e11, and_self]
    · simp (disch := omega) only [f_X10_passHour, e7, e8, e8', g, tw_ua, tw_uk, ↓TwV0 hw, ↓TwG0_54 hw, ↓TwI0_55 hw, ↓TwP0_55 hw, ↓TwZ0_55 hw, ↓TwL0 hw, ↓TwS0 hw, ↓A_if, ↓A_jn, ↓A_lt, ↓A_rz, ↓A_rn, ↓A_nzi, ↓A_nzl, ↓A_nn1, ↓A_nn0, ↓reduceIte, true_and, and_true, if_true, if_false, ite_true, ite_false, reduceIte, tl_0, tl_1, tl_2, tl_3, tl_4, tl_5, tl_6, tl_7, tl_8, tl_9, tl_10, tl_11, tl_12, tl_13, tl_14, tl_15, tl_16, tl_17, tl_18, tl_19, tl_20, tl_21, tl_22, tl_23, tl_24, tl_25, tl_26, tl_27, tl_28, tl_29, tl_30, tl_31, tl_32, tl_33, tl_34, tl_35, tl_36, tl_37, tl_38, tl_39, tl_40, tl_41, tl_42, tl_43, tl_44, tl_45, tl_46, tl_47, tl_48, tl_49, tl_50, tl_51, tl_52, tl_53, tl_54, tl_57, tl_59, tl_60, tl_62, tl_63, tl_64, tl_97, tl_99, tl_100, tl_120, tl_122, tl_192, tl_193, tl_194, tl_195, tl_196, tl_255, tl_256, tl_299, tl_400, tl_401, tl_492, tl_493, tl_541, tl_849, tl_999, tl_1000, tl_1341, tl_1342, tl_1390, tl_2190, tl_5412, tl_5904, tl_9999, tl_12345, tl_32767, tl_65536, tl_1000000, tl_252645135, tl_858993459, tl_1103515245, tl_1431655765, nz_31, nz_c31, eq_self, or_true, true_or, or_false, false_or, Nat.add_zero, nz_lt, nz_le, nz_eq, nz_cl, nz_sub, nI_add, pk_mul, nt_lt, nf_lt, nf_eq, nz_mI, mI_eq, mI_eq', mI_lt, mI_gt, mI_add, ↓j_max, ↓j_min, Nat.sub_sub, Nat.reduceAdd, Nat.reduceSub, Nat.reduceLT, Nat.reduceEqDiff, Bool.false_eq_true]
end P62
