/-! ===== pure: the law's steps, teams ===== -/
/-- the model: only scratch, what lasts and what is together has changed -/
def tw_mq (m : Nat) (μ μ' : Nat → Nat → Int32) : Prop := μ' (m + 1) = μ (m + 1) ∧ (∀ x, x ≠ m → x ≠ m + 1 → x ≠ m + 4 → x ≠ m + 8 → x ≠ m + 9 → x ≠ m + 10 → μ' x = μ x) ∧ ∀ j, j ≠ 88 → μ' m j = μ m j
theorem tw_mq_r {m : Nat} {μ : Nat → Nat → Int32} : tw_mq m μ μ := ⟨rfl, fun _ _ _ _ _ _ _ => rfl, fun _ _ => rfl⟩
theorem tw_mq_t {m : Nat} {μ μ' μ'' : Nat → Nat → Int32} (h : tw_mq m μ μ') (h2 : tw_mq m μ' μ'') : tw_mq m μ μ'' := ⟨h2.1.trans h.1, fun x a b c d e f => (h2.2.1 x a b c d e f).trans (h.2.1 x a b c d e f), fun j a => (h2.2.2 j a).trans (h.2.2 j a)⟩
theorem tw_mq_z {m : Nat} {μ μ' : Nat → Nat → Int32} (h : tw_mz m μ μ') : tw_mq m μ μ' := ⟨h.1, fun x a b c d _ _ => h.2.1 x a b c d, h.2.2⟩
theorem tw_mq_9 {m i : Nat} {μ : Nat → Nat → Int32} {v : Int32} : tw_mq m μ (tw_up μ (m + 9) i v) := ⟨tw_up_ne (by omega), fun x _ _ _ _ e _ => tw_up_ne e, fun j _ => by rw [tw_up_ne (by omega)]⟩
theorem tw_mq_10 {m i : Nat} {μ : Nat → Nat → Int32} {v : Int32} : tw_mq m μ (tw_up μ (m + 10) i v) := ⟨tw_up_ne (by omega), fun x _ _ _ _ _ e => tw_up_ne e, fun j _ => by rw [tw_up_ne (by omega)]⟩
theorem tw_qm_q {b : Nat} {μ μ' : Nat → Nat → Int32} (h : tw_mq (b + 168) μ μ') : tw_qm b μ μ' := by
  refine ⟨fun x h1 h2 h3 h4 => ?_, fun j _ h8 => h.2.2 j h8⟩
  by_cases e : x = b + 168 + 1
  · subst e
    exact h.1
  · exact h.2.1 x (by omega) e (by omega) (by omega) (by omega) (by omega)
section P95
variable {sh : tw_Sh} {μ ν ν2 : Nat → Nat → Int32} {la : Nat → Nat → Int64} {n a b w m lw P N L a0 e : Nat} {p o l h i z c x y q kd t r s : Nat} {T T' : Nat → Int32} {v u rg tn : Int32} {j : Unit → tw_Mem → Prop} {G : tw_Gm} {f M : Nat → Nat} {Wt : Nat → Nat → Nat}
theorem m_without (hp : p < 8) : nI z &&& ((nI 1 <<< nI p) ^^^ mI) = nI (tw_wt z p) := by
  rw [tw_shN hp, tw_nxx_e]
  rfl
theorem m_tBy0 (hM : tw_Mo sh m) (hz : z < 256) (hz0 : 0 < z) (k : Int32 → tw_Mem → Prop) : f_X12_teamsBy m (nI z) mI k (sh, μ, la, n) = k (μ (m + 10) (tw_wt z (tw_fsb z))) (sh, μ, la, n) := by
  obtain ⟨s1, s2, s3⟩ := tw_fsb_s 8 (by omega) z hz hz0
  have e := tw_ntz_e z hz hz0
  have ew := m_without (z := z) (p := tw_fsb z) (by omega)
  have l1 := tw_wt_le z (tw_fsb z)
  simp (disch := omega) only [f_X12_teamsBy, f_X12_firstOf, ↓j_ntz, e, ew, ↓MoV0 hM, ↓MoI0_70 hM, ↓MoP0_70 hM, ↓MoZ0_70 hM, ↓MoG0_71 hM, ↓MoG0_72 hM, ↓MoG0_73 hM, ↓MoG0_74 hM, ↓MoG0_75 hM, ↓MoI0_76 hM, ↓MoP0_76 hM, ↓MoZ0_76 hM, ↓MoI0_77 hM, ↓MoP0_77 hM, ↓MoZ0_77 hM, ↓MoG0_78 hM, ↓MoI0_79 hM, ↓MoP0_79 hM, ↓MoZ0_79 hM, ↓MoI0_80 hM, ↓MoP0_80 hM, ↓MoZ0_80 hM, ↓MoI0_81 hM, ↓MoP0_81 hM, ↓MoZ0_81 hM, ↓MoI0_82 hM, ↓MoP0_82 hM, ↓MoZ0_82 hM, ↓MoI0_83 hM, ↓MoP0_83 hM, ↓MoZ0_83 hM, ↓MoI0_84 hM, ↓MoP0_84 hM, ↓MoZ0_84 hM, ↓MoG0_85 hM, ↓MoI0_86 hM, ↓MoP0_86 hM, ↓MoZ0_86 hM, ↓MoG0_87 hM, ↓MoI0_88 hM, ↓MoP0_88 hM, ↓MoZ0_88 hM, ↓MoG0_89 hM, ↓MoG0_90 hM, ↓MoG0_91 hM, ↓MoG0_92 hM, ↓MoL0 hM, ↓MoS0 hM, ↓MoL1 hM, ↓MoS1 hM, ↓MoL2 hM, ↓MoS2 hM, ↓MoL3 hM, ↓MoS3 hM, ↓MoL4 hM, ↓MoS4 hM, ↓MoL5 hM, ↓MoS5 hM, ↓MoL6 hM, ↓MoS6 hM, ↓MoL7 hM, ↓MoS7 hM, ↓MoL8 hM, ↓MoS8 hM, ↓MoL9 hM, ↓MoS9 hM, ↓MoL10 hM, ↓MoS10 hM, ↓MoL11 hM, ↓MoS11 hM, ↓A_if, ↓A_jn, ↓A_lt, ↓A_rz, ↓A_rn, ↓A_nzi, ↓A_nzl, ↓A_nn1, ↓A_nn0, ↓reduceIte, true_and, and_true, if_true, if_false, ite_true, ite_false, reduceIte, tl_0, tl_1, tl_2, tl_3, tl_4, tl_5, tl_6, tl_7, tl_8, tl_9, tl_10, tl_11, tl_12, tl_13, tl_14, tl_15, tl_16, tl_17, tl_18, tl_19, tl_20, tl_21, tl_22, tl_23, tl_24, tl_25, tl_26, tl_27, tl_28, tl_29, tl_30, tl_31, tl_32, tl_33, tl_34, tl_35, tl_36, tl_37, tl_38, tl_39, tl_40, tl_41, tl_42, tl_43, tl_44, tl_45, tl_46, tl_47, tl_48, tl_49, tl_50, tl_51, tl_52, tl_53, tl_54, tl_57, tl_59, tl_60, tl_62, tl_63, tl_64, tl_97, tl_99, tl_100, tl_120, tl_122, tl_192, tl_193, tl_194, tl_195, tl_196, tl_255, tl_256, tl_299, tl_400, tl_401, tl_492, tl_493, tl_541, tl_849, tl_999, tl_1000, tl_1341, tl_1342, tl_1390, tl_2190, tl_5412, tl_5904, tl_9999, tl_12345, tl_32767, tl_65536, tl_1000000, tl_252645135, tl_858993459, tl_1103515245, tl_1431655765, nz_31, nz_c31, eq_self, or_true, true_or, or_false, false_or, Nat.add_zero, nz_lt, nz_le, nz_eq, nz_cl, nz_sub, nI_add, pk_mul, nt_lt, nf_lt, nf_eq, nz_mI, mI_eq, mI_eq', mI_lt, mI_gt, mI_add, ↓j_max, ↓j_min, Nat.sub_sub, Nat.reduceAdd, Nat.reduceSub, Nat.reduceLT, Nat.reduceEqDiff, Bool.false_eq_true]
theorem m_tBy1 (hM : tw_Mo sh m) (hz : z < 256) (hz0 : 0 < z) (ho : o < 8) (k : Int32 → tw_Mem → Prop) : f_X12_teamsBy m (nI z) (nI o) k (sh, μ, la, n) = if z.testBit o = true ∧ tw_fsb z < o then k (μ (m + 9) (8 * tw_fsb z + o) + μ (m + 10) (tw_wt (tw_wt z (tw_fsb z)) o)) (sh, μ, la, n) else k mI (sh, μ, la, n) := by
  obtain ⟨s1, s2, s3⟩ := tw_fsb_s 8 (by omega) z hz hz0
  have e := tw_ntz_e z hz hz0
  have ew := m_without (z := z) (p := tw_fsb z) (by omega)
  have l1 := tw_wt_le z (tw_fsb z)
  have l2 := tw_wt_le (tw_wt z (tw_fsb z)) o
  have ew2 := m_without (z := tw_wt z (tw_fsb z)) (p := o) (by omega)
  have eb := tw_isbN (x := tw_wt z (tw_fsb z)) (p := o) (by omega) (by omega)
  have eq := tw_wt_b z (tw_fsb z) o (by omega)
  generalize tw_fsb z = p at *
  by_cases q : z.testBit o = true ∧ p < o
  · have q2 : (tw_wt z p).testBit o = true := by rw [eq, q.1, decide_eq_false (by omega)]; rfl
    rw [if_pos q]
    simp (disch := omega) only [f_X12_teamsBy, f_X12_firstOf, ↓j_ntz, e, ew, ew2, ↓m_has, eb, q2, ↓MoV0 hM, ↓MoI0_70 hM, ↓MoP0_70 hM, ↓MoZ0_70 hM, ↓MoG0_71 hM, ↓MoG0_72 hM, ↓MoG0_73 hM, ↓MoG0_74 hM, ↓MoG0_75 hM, ↓MoI0_76 hM, ↓MoP0_76 hM, ↓MoZ0_76 hM, ↓MoI0_77 hM, ↓MoP0_77 hM, ↓MoZ0_77 hM, ↓MoG0_78 hM, ↓MoI0_79 hM, ↓MoP0_79 hM, ↓MoZ0_79 hM, ↓MoI0_80 hM, ↓MoP0_80 hM, ↓MoZ0_80 hM, ↓MoI0_81 hM, ↓MoP0_81 hM, ↓MoZ0_81 hM, ↓MoI0_82 hM, ↓MoP0_82 hM, ↓MoZ0_82 hM, ↓MoI0_83 hM, ↓MoP0_83 hM, ↓MoZ0_83 hM, ↓MoI0_84 hM, ↓MoP0_84 hM, ↓MoZ0_84 hM, ↓MoG0_85 hM, ↓MoI0_86 hM, ↓MoP0_86 hM, ↓MoZ0_86 hM, ↓MoG0_87 hM, ↓MoI0_88 hM, ↓MoP0_88 hM, ↓MoZ0_88 hM, ↓MoG0_89 hM, ↓MoG0_90 hM, ↓MoG0_91 hM, ↓MoG0_92 hM, ↓MoL0 hM, ↓MoS0 hM, ↓MoL1 hM, ↓MoS1 hM, ↓MoL2 hM, ↓MoS2 hM, ↓MoL3 hM, ↓MoS3 hM, ↓MoL4 hM, ↓MoS4 hM, ↓MoL5 hM, ↓MoS5 hM, ↓MoL6 hM, ↓MoS6 hM, ↓MoL7 hM, ↓MoS7 hM, ↓MoL8 hM, ↓MoS8 hM, ↓MoL9 hM, ↓MoS9 hM, ↓MoL10 hM, ↓MoS10 hM, ↓MoL11 hM, ↓MoS11 hM, ↓A_if, ↓A_jn, ↓A_lt, ↓A_rz, ↓A_rn, ↓A_nzi, ↓A_nzl, ↓A_nn1, ↓A_nn0, ↓reduceIte, true_and, and_true, if_true, if_false, ite_true, ite_false, reduceIte, tl_0, tl_1, tl_2, tl_3, tl_4, tl_5, tl_6, tl_7, tl_8, tl_9, tl_10, tl_11, tl_12, tl_13, tl_14, tl_15, tl_16, tl_17, tl_18, tl_19, tl_20, tl_21, tl_22, tl_23, tl_24, tl_25, tl_26, tl_27, tl_28, tl_29, tl_30, tl_31, tl_32, tl_33, tl_34, tl_35, tl_36, tl_37, tl_38, tl_39, tl_40, tl_41, tl_42, tl_43, tl_44, tl_45, tl_46, tl_47, tl_48, tl_49, tl_50, tl_51, tl_52, tl_53, tl_54, tl_57, tl_59, tl_60, tl_62, tl_63, tl_64, tl_97, tl_99, tl_100, tl_120, tl_122, tl_192, tl_193, tl_194, tl_195, tl_196, tl_255, tl_256, tl_299, tl_400, tl_401, tl_492, tl_493, tl_541, tl_849, tl_999, tl_1000, tl_1341, tl_1342, tl_1390, tl_2190, tl_5412, tl_5904, tl_9999, tl_12345, tl_32767, tl_65536, tl_1000000, tl_252645135, tl_858993459, tl_1103515245, tl_1431655765, nz_31, nz_c31, eq_self, or_true, true_or, or_false, false_or, Nat.add_zero, nz_lt, nz_le, nz_eq, nz_cl, nz_sub, nI_add, pk_mul, nt_lt, nf_lt, nf_eq, nz_mI, mI_eq, mI_eq', mI_lt, mI_gt, mI_add, ↓j_max, ↓j_min, Nat.sub_sub, Nat.reduceAdd, Nat.reduceSub, Nat.reduceLT, Nat.reduceEqDiff, Bool.false_eq_true]
  · have q2 : (tw_wt z p).testBit o = false := by
      rw [eq]
      rcases Nat.lt_trichotomy o p with g | g | g
      · rw [s3 o ho g]; rfl
      · rw [g, decide_eq_true rfl]; simp
      · have : z.testBit o = false := by
          cases h : z.testBit o
          · rfl
          · exact absurd ⟨h, g⟩ q
        rw [this]; rfl
    rw [if_neg q]
    simp (disch := omega) only [f_X12_teamsBy, f_X12_firstOf, ↓j_ntz, e, ew, ↓m_has, eb, q2, ↓MoV0 hM, ↓MoI0_70 hM, ↓MoP0_70 hM, ↓MoZ0_70 hM, ↓MoG0_71 hM, ↓MoG0_72 hM, ↓MoG0_73 hM, ↓MoG0_74 hM, ↓MoG0_75 hM, ↓MoI0_76 hM, ↓MoP0_76 hM, ↓MoZ0_76 hM, ↓MoI0_77 hM, ↓MoP0_77 hM, ↓MoZ0_77 hM, ↓MoG0_78 hM, ↓MoI0_79 hM, ↓MoP0_79 hM, ↓MoZ0_79 hM, ↓MoI0_80 hM, ↓MoP0_80 hM, ↓MoZ0_80 hM, ↓MoI0_81 hM, ↓MoP0_81 hM, ↓MoZ0_81 hM, ↓MoI0_82 hM, ↓MoP0_82 hM, ↓MoZ0_82 hM, ↓MoI0_83 hM, ↓MoP0_83 hM, ↓MoZ0_83 hM, ↓MoI0_84 hM, ↓MoP0_84 hM, ↓MoZ0_84 hM, ↓MoG0_85 hM, ↓MoI0_86 hM, ↓MoP0_86 hM, ↓MoZ0_86 hM, ↓MoG0_87 hM, ↓MoI0_88 hM, ↓MoP0_88 hM, ↓MoZ0_88 hM, ↓MoG0_89 hM, ↓MoG0_90 hM, ↓MoG0_91 hM, ↓MoG0_92 hM, ↓MoL0 hM, ↓MoS0 hM, ↓MoL1 hM, ↓MoS1 hM, ↓MoL2 hM, ↓MoS2 hM, ↓MoL3 hM, ↓MoS3 hM, ↓MoL4 hM, ↓MoS4 hM, ↓MoL5 hM, ↓MoS5 hM, ↓MoL6 hM, ↓MoS6 hM, ↓MoL7 hM, ↓MoS7 hM, ↓MoL8 hM, ↓MoS8 hM, ↓MoL9 hM, ↓MoS9 hM, ↓MoL10 hM, ↓MoS10 hM, ↓MoL11 hM, ↓MoS11 hM, ↓A_if, ↓A_jn, ↓A_lt, ↓A_rz, ↓A_rn, ↓A_nzi, ↓A_nzl, ↓A_nn1, ↓A_nn0, ↓reduceIte, true_and, and_true, if_true, if_false, ite_true, ite_false, reduceIte, tl_0, tl_1, tl_2, tl_3, tl_4, tl_5, tl_6, tl_7, tl_8, tl_9, tl_10, tl_11, tl_12, tl_13, tl_14, tl_15, tl_16, tl_17, tl_18, tl_19, tl_20, tl_21, tl_22, tl_23, tl_24, tl_25, tl_26, tl_27, tl_28, tl_29, tl_30, tl_31, tl_32, tl_33, tl_34, tl_35, tl_36, tl_37, tl_38, tl_39, tl_40, tl_41, tl_42, tl_43, tl_44, tl_45, tl_46, tl_47, tl_48, tl_49, tl_50, tl_51, tl_52, tl_53, tl_54, tl_57, tl_59, tl_60, tl_62, tl_63, tl_64, tl_97, tl_99, tl_100, tl_120, tl_122, tl_192, tl_193, tl_194, tl_195, tl_196, tl_255, tl_256, tl_299, tl_400, tl_401, tl_492, tl_493, tl_541, tl_849, tl_999, tl_1000, tl_1341, tl_1342, tl_1390, tl_2190, tl_5412, tl_5904, tl_9999, tl_12345, tl_32767, tl_65536, tl_1000000, tl_252645135, tl_858993459, tl_1103515245, tl_1431655765, nz_31, nz_c31, eq_self, or_true, true_or, or_false, false_or, Nat.add_zero, nz_lt, nz_le, nz_eq, nz_cl, nz_sub, nI_add, pk_mul, nt_lt, nf_lt, nf_eq, nz_mI, mI_eq, mI_eq', mI_lt, mI_gt, mI_add, ↓j_max, ↓j_min, Nat.sub_sub, Nat.reduceAdd, Nat.reduceSub, Nat.reduceLT, Nat.reduceEqDiff, Bool.false_eq_true]
theorem m_laysT (hM : tw_Mo sh m) (H : tw_LX T) (W : tw_WF T P) (hT : μ (m + 1) = T) : ∃ μ', (tw_mq m μ μ' ∧ (∀ p o, p < o → o < P → μ' (m + 9) (8 * p + o) = nI (tw_las T p o P)) ∧ ∀ z, z < 2 ^ P → μ' (m + 10) z = nI (tw_tb2 (fun p o => tw_las T p o P) P (2 ^ P) z)) ∧ ∀ k, f_X12_laysTeams m k (sh, μ, la, n) = k () (sh, μ', la, n) := by
  have h8 := W.2.1
  have h2 := tw_p256 h8
  have hpp := Nat.two_pow_pos P
  have hW : ∀ p o, (fun p o => tw_las T p o P) p o ≤ 60 := fun p o => (tw_las_s T p o P).1
  unfold f_X12_laysTeams
  refine tw_lp_ex P (fun i => nI i) (fun i μ' => tw_mq m μ μ' ∧ ∀ p o, p < i → p < o → o < P → μ' (m + 9) (8 * p + o) = nI (tw_las T p o P)) rfl ⟨tw_mq_r, fun p o hp => absurd hp (Nat.not_lt_zero p)⟩ ?_ ?_
  · rintro i hi μ1 ⟨F1, g1⟩
    have e1 : μ1 (m + 1) = T := F1.1.trans hT
    have hP1 : μ1 (m + 1) 0 = nI P := by rw [e1]; exact W.1
    simp (disch := omega) only [m_people hM, hP1, ↓MoV0 hM, ↓A_if, ↓A_jn, ↓A_lt, ↓A_rz, ↓A_rn, ↓A_nzi, ↓A_nzl, ↓A_nn1, ↓A_nn0, ↓reduceIte, true_and, and_true, if_true, if_false, ite_true, ite_false, reduceIte, nz_lt, hi, nI_add, tl_1]
    refine tw_lp_ex2 (P - (i + 1)) (fun d => nI (i + 1 + d)) (fun d μ' => tw_mq m μ μ' ∧ ∀ p o, (p < i ∨ (p = i ∧ o < i + 1 + d)) → p < o → o < P → μ' (m + 9) (8 * p + o) = nI (tw_las T p o P)) rfl ⟨F1, fun p o h1 h2 h3 => g1 p o (by omega) h2 h3⟩ ?_ ?_
    · rintro d hd μ2 ⟨F2, g2⟩
      have e2 : μ2 (m + 1) = T := F2.1.trans hT
      have hP2 : μ2 (m + 1) 0 = nI P := by rw [e2]; exact W.1
      obtain ⟨μ3, F3, E3⟩ := m_lasts (la := la) (n := n) (μ := μ2) (P := P) hM (by rw [e2]; exact H) (by rw [e2]; exact W) (p := i) (o := i + 1 + d) (by omega) (by omega) (by omega)
      rw [e2] at E3
      have ed : i + 1 + (d + 1) = i + 1 + d + 1 := rfl
      refine ⟨tw_up μ3 (m + 9) (8 * i + (i + 1 + d)) (nI (tw_las T i (i + 1 + d) P)), ⟨tw_mq_t (tw_mq_t F2 (tw_mq_z F3)) tw_mq_9, fun p o h1 h2 h3 => ?_⟩, fun k r rec => ?_⟩
      · by_cases q : p = i ∧ o = i + 1 + d
        · obtain ⟨rfl, rfl⟩ := q
          exact tw_ua
        · rw [tw_uk (by omega), F3.2.1 _ (by omega) (by omega) (by omega) (by omega)]
          exact g2 p o (by omega) h2 h3
      · simp (disch := omega) only [↓m_people hM, hP2, ed, ↓E3, ↓MoV0 hM, ↓MoI0_70 hM, ↓MoP0_70 hM, ↓MoZ0_70 hM, ↓MoG0_71 hM, ↓MoG0_72 hM, ↓MoG0_73 hM, ↓MoG0_74 hM, ↓MoG0_75 hM, ↓MoI0_76 hM, ↓MoP0_76 hM, ↓MoZ0_76 hM, ↓MoI0_77 hM, ↓MoP0_77 hM, ↓MoZ0_77 hM, ↓MoG0_78 hM, ↓MoI0_79 hM, ↓MoP0_79 hM, ↓MoZ0_79 hM, ↓MoI0_80 hM, ↓MoP0_80 hM, ↓MoZ0_80 hM, ↓MoI0_81 hM, ↓MoP0_81 hM, ↓MoZ0_81 hM, ↓MoI0_82 hM, ↓MoP0_82 hM, ↓MoZ0_82 hM, ↓MoI0_83 hM, ↓MoP0_83 hM, ↓MoZ0_83 hM, ↓MoI0_84 hM, ↓MoP0_84 hM, ↓MoZ0_84 hM, ↓MoG0_85 hM, ↓MoI0_86 hM, ↓MoP0_86 hM, ↓MoZ0_86 hM, ↓MoG0_87 hM, ↓MoI0_88 hM, ↓MoP0_88 hM, ↓MoZ0_88 hM, ↓MoG0_89 hM, ↓MoG0_90 hM, ↓MoG0_91 hM, ↓MoG0_92 hM, ↓MoL0 hM, ↓MoS0 hM, ↓MoL1 hM, ↓MoS1 hM, ↓MoL2 hM, ↓MoS2 hM, ↓MoL3 hM, ↓MoS3 hM, ↓MoL4 hM, ↓MoS4 hM, ↓MoL5 hM, ↓MoS5 hM, ↓MoL6 hM, ↓MoS6 hM, ↓MoL7 hM, ↓MoS7 hM, ↓MoL8 hM, ↓MoS8 hM, ↓MoL9 hM, ↓MoS9 hM, ↓MoL10 hM, ↓MoS10 hM, ↓MoL11 hM, ↓MoS11 hM, ↓A_if, ↓A_jn, ↓A_lt, ↓A_rz, ↓A_rn, ↓A_nzi, ↓A_nzl, ↓A_nn1, ↓A_nn0, ↓reduceIte, true_and, and_true, if_true, if_false, ite_true, ite_false, reduceIte, tl_0, tl_1, tl_2, tl_3, tl_4, tl_5, tl_6, tl_7, tl_8, tl_9, tl_10, tl_11, tl_12, tl_13, tl_14, tl_15, tl_16, tl_17, tl_18, tl_19, tl_20, tl_21, tl_22, tl_23, tl_24, tl_25, tl_26, tl_27, tl_28, tl_29, tl_30, tl_31, tl_32, tl_33, tl_34, tl_35, tl_36, tl_37, tl_38, tl_39, tl_40, tl_41, tl_42, tl_43, tl_44, tl_45, tl_46, tl_47, tl_48, tl_49, tl_50, tl_51, tl_52, tl_53, tl_54, tl_57, tl_59, tl_60, tl_62, tl_63, tl_64, tl_97, tl_99, tl_100, tl_120, tl_122, tl_192, tl_193, tl_194, tl_195, tl_196, tl_255, tl_256, tl_299, tl_400, tl_401, tl_492, tl_493, tl_541, tl_849, tl_999, tl_1000, tl_1341, tl_1342, tl_1390, tl_2190, tl_5412, tl_5904, tl_9999, tl_12345, tl_32767, tl_65536, tl_1000000, tl_252645135, tl_858993459, tl_1103515245, tl_1431655765, nz_31, nz_c31, eq_self, or_true, true_or, or_false, false_or, Nat.add_zero, nz_lt, nz_le, nz_eq, nz_cl, nz_sub, nI_add, pk_mul, nt_lt, nf_lt, nf_eq, nz_mI, mI_eq, mI_eq', mI_lt, mI_gt, mI_add, ↓j_max, ↓j_min, Nat.sub_sub, Nat.reduceAdd, Nat.reduceSub, Nat.reduceLT, Nat.reduceEqDiff, Bool.false_eq_true]
    · rintro μ2 ⟨F2, g2⟩
      have e2 : μ2 (m + 1) = T := F2.1.trans hT
      have hP2 : μ2 (m + 1) 0 = nI P := by rw [e2]; exact W.1
      have e : i + 1 + (P - (i + 1)) = P := by omega
      refine ⟨μ2, ⟨F2, fun p o h1 h2 h3 => g2 p o (by omega) h2 h3⟩, fun k r rec => ?_⟩
      rw [e]
      simp (disch := omega) only [↓m_people hM, hP2, ↓MoV0 hM, ↓MoI0_70 hM, ↓MoP0_70 hM, ↓MoZ0_70 hM, ↓MoG0_71 hM, ↓MoG0_72 hM, ↓MoG0_73 hM, ↓MoG0_74 hM, ↓MoG0_75 hM, ↓MoI0_76 hM, ↓MoP0_76 hM, ↓MoZ0_76 hM, ↓MoI0_77 hM, ↓MoP0_77 hM, ↓MoZ0_77 hM, ↓MoG0_78 hM, ↓MoI0_79 hM, ↓MoP0_79 hM, ↓MoZ0_79 hM, ↓MoI0_80 hM, ↓MoP0_80 hM, ↓MoZ0_80 hM, ↓MoI0_81 hM, ↓MoP0_81 hM, ↓MoZ0_81 hM, ↓MoI0_82 hM, ↓MoP0_82 hM, ↓MoZ0_82 hM, ↓MoI0_83 hM, ↓MoP0_83 hM, ↓MoZ0_83 hM, ↓MoI0_84 hM, ↓MoP0_84 hM, ↓MoZ0_84 hM, ↓MoG0_85 hM, ↓MoI0_86 hM, ↓MoP0_86 hM, ↓MoZ0_86 hM, ↓MoG0_87 hM, ↓MoI0_88 hM, ↓MoP0_88 hM, ↓MoZ0_88 hM, ↓MoG0_89 hM, ↓MoG0_90 hM, ↓MoG0_91 hM, ↓MoG0_92 hM, ↓MoL0 hM, ↓MoS0 hM, ↓MoL1 hM, ↓MoS1 hM, ↓MoL2 hM, ↓MoS2 hM, ↓MoL3 hM, ↓MoS3 hM, ↓MoL4 hM, ↓MoS4 hM, ↓MoL5 hM, ↓MoS5 hM, ↓MoL6 hM, ↓MoS6 hM, ↓MoL7 hM, ↓MoS7 hM, ↓MoL8 hM, ↓MoS8 hM, ↓MoL9 hM, ↓MoS9 hM, ↓MoL10 hM, ↓MoS10 hM, ↓MoL11 hM, ↓MoS11 hM, ↓A_if, ↓A_jn, ↓A_lt, ↓A_rz, ↓A_rn, ↓A_nzi, ↓A_nzl, ↓A_nn1, ↓A_nn0, ↓reduceIte, true_and, and_true, if_true, if_false, ite_true, ite_false, reduceIte, tl_0, tl_1, tl_2, tl_3, tl_4, tl_5, tl_6, tl_7, tl_8, tl_9, tl_10, tl_11, tl_12, tl_13, tl_14, tl_15, tl_16, tl_17, tl_18, tl_19, tl_20, tl_21, tl_22, tl_23, tl_24, tl_25, tl_26, tl_27, tl_28, tl_29, tl_30, tl_31, tl_32, tl_33, tl_34, tl_35, tl_36, tl_37, tl_38, tl_39, tl_40, tl_41, tl_42, tl_43, tl_44, tl_45, tl_46, tl_47, tl_48, tl_49, tl_50, tl_51, tl_52, tl_53, tl_54, tl_57, tl_59, tl_60, tl_62, tl_63, tl_64, tl_97, tl_99, tl_100, tl_120, tl_122, tl_192, tl_193, tl_194, tl_195, tl_196, tl_255, tl_256, tl_299, tl_400, tl_401, tl_492, tl_493, tl_541, tl_849, tl_999, tl_1000, tl_1341, tl_1342, tl_1390, tl_2190, tl_5412, tl_5904, tl_9999, tl_12345, tl_32767, tl_65536, tl_1000000, tl_252645135, tl_858993459, tl_1103515245, tl_1431655765, nz_31, nz_c31, eq_self, or_true, true_or, or_false, false_or, Nat.add_zero, nz_lt, nz_le, nz_eq, nz_cl, nz_sub, nI_add, pk_mul, nt_lt, nf_lt, nf_eq, nz_mI, mI_eq, mI_eq', mI_lt, mI_gt, mI_add, ↓j_max, ↓j_min, Nat.sub_sub, Nat.reduceAdd, Nat.reduceSub, Nat.reduceLT, Nat.reduceEqDiff, Bool.false_eq_true]
  · rintro μ1 ⟨F1, g1⟩
    have e1 : μ1 (m + 1) = T := F1.1.trans hT
    have hP1 : μ1 (m + 1) 0 = nI P := by rw [e1]; exact W.1
    simp (disch := omega) only [↓m_people hM, hP1, ↓MoV0 hM, ↓MoI0_70 hM, ↓MoP0_70 hM, ↓MoZ0_70 hM, ↓MoG0_71 hM, ↓MoG0_72 hM, ↓MoG0_73 hM, ↓MoG0_74 hM, ↓MoG0_75 hM, ↓MoI0_76 hM, ↓MoP0_76 hM, ↓MoZ0_76 hM, ↓MoI0_77 hM, ↓MoP0_77 hM, ↓MoZ0_77 hM, ↓MoG0_78 hM, ↓MoI0_79 hM, ↓MoP0_79 hM, ↓MoZ0_79 hM, ↓MoI0_80 hM, ↓MoP0_80 hM, ↓MoZ0_80 hM, ↓MoI0_81 hM, ↓MoP0_81 hM, ↓MoZ0_81 hM, ↓MoI0_82 hM, ↓MoP0_82 hM, ↓MoZ0_82 hM, ↓MoI0_83 hM, ↓MoP0_83 hM, ↓MoZ0_83 hM, ↓MoI0_84 hM, ↓MoP0_84 hM, ↓MoZ0_84 hM, ↓MoG0_85 hM, ↓MoI0_86 hM, ↓MoP0_86 hM, ↓MoZ0_86 hM, ↓MoG0_87 hM, ↓MoI0_88 hM, ↓MoP0_88 hM, ↓MoZ0_88 hM, ↓MoG0_89 hM, ↓MoG0_90 hM, ↓MoG0_91 hM, ↓MoG0_92 hM, ↓MoL0 hM, ↓MoS0 hM, ↓MoL1 hM, ↓MoS1 hM, ↓MoL2 hM, ↓MoS2 hM, ↓MoL3 hM, ↓MoS3 hM, ↓MoL4 hM, ↓MoS4 hM, ↓MoL5 hM, ↓MoS5 hM, ↓MoL6 hM, ↓MoS6 hM, ↓MoL7 hM, ↓MoS7 hM, ↓MoL8 hM, ↓MoS8 hM, ↓MoL9 hM, ↓MoS9 hM, ↓MoL10 hM, ↓MoS10 hM, ↓MoL11 hM, ↓MoS11 hM, ↓A_if, ↓A_jn, ↓A_lt, ↓A_rz, ↓A_rn, ↓A_nzi, ↓A_nzl, ↓A_nn1, ↓A_nn0, ↓reduceIte, true_and, and_true, if_true, if_false, ite_true, ite_false, reduceIte, tl_0, tl_1, tl_2, tl_3, tl_4, tl_5, tl_6, tl_7, tl_8, tl_9, tl_10, tl_11, tl_12, tl_13, tl_14, tl_15, tl_16, tl_17, tl_18, tl_19, tl_20, tl_21, tl_22, tl_23, tl_24, tl_25, tl_26, tl_27, tl_28, tl_29, tl_30, tl_31, tl_32, tl_33, tl_34, tl_35, tl_36, tl_37, tl_38, tl_39, tl_40, tl_41, tl_42, tl_43, tl_44, tl_45, tl_46, tl_47, tl_48, tl_49, tl_50, tl_51, tl_52, tl_53, tl_54, tl_57, tl_59, tl_60, tl_62, tl_63, tl_64, tl_97, tl_99, tl_100, tl_120, tl_122, tl_192, tl_193, tl_194, tl_195, tl_196, tl_255, tl_256, tl_299, tl_400, tl_401, tl_492, tl_493, tl_541, tl_849, tl_999, tl_1000, tl_1341, tl_1342, tl_1390, tl_2190, tl_5412, tl_5904, tl_9999, tl_12345, tl_32767, tl_65536, tl_1000000, tl_252645135, tl_858993459, tl_1103515245, tl_1431655765, nz_31, nz_c31, eq_self, or_true, true_or, or_false, false_or, Nat.add_zero, nz_lt, nz_le, nz_eq, nz_cl, nz_sub, nI_add, pk_mul, nt_lt, nf_lt, nf_eq, nz_mI, mI_eq, mI_eq', mI_lt, mI_gt, mI_add, ↓j_max, ↓j_min, Nat.sub_sub, Nat.reduceAdd, Nat.reduceSub, Nat.reduceLT, Nat.reduceEqDiff, Bool.false_eq_true]
    refine Exists.imp (p := fun μ' => _ ∧ ∀ k : Unit → tw_Mem → Prop, _ = k () (sh, μ', la, n)) (fun μ' h => ⟨h.1, fun k _ => h.2 k⟩) ?_
    refine tw_lp_ex (2 ^ P - 1) (fun i => nI (i + 1)) (fun i μ' => tw_mq m μ μ' ∧ (∀ p o, p < o → o < P → μ' (m + 9) (8 * p + o) = nI (tw_las T p o P)) ∧ ∀ z, z < i + 1 → μ' (m + 10) z = nI (tw_tb2 (fun p o => tw_las T p o P) P (i + 1) z)) rfl ⟨tw_mq_t F1 (tw_mq_10 (i := 0) (v := nI 0)), fun p o h1 h3 => by rw [tw_up_ne (by omega)]; exact g1 p o (by omega) h1 h3, fun z hz => ?_⟩ ?_ ?_
    · have e0 : z = 0 := by omega
      subst e0
      exact tw_ua
    · rintro i hi μ2 ⟨F2, g2, g3⟩
      have e2 : μ2 (m + 1) = T := F2.1.trans hT
      have hP2 : μ2 (m + 1) 0 = nI P := by rw [e2]; exact W.1
      obtain ⟨z, hz⟩ : ∃ z, z = i + 1 := ⟨_, rfl⟩
      rw [← hz] at g3 ⊢
      have hf : ∀ y, y < z → tw_tb2 (fun p o => tw_las T p o P) P z y ≤ 60 * y := fun y _ => tw_tb2_l hW z (by omega) y
      have hb := tw_tm_b (P := P) (f := tw_tb2 (fun p o => tw_las T p o P) P z) (Wt := fun p o => tw_las T p o P) (z := z) (by omega) (by omega) hf hW
      obtain ⟨s1, s2, s3⟩ := tw_fsb_s P (by omega) z (by omega) (by omega)
      have hl := tw_wt_lt (p := tw_fsb z) (by omega) s2
      have B0 := fun k => m_tBy0 (μ := μ2) (la := la) (n := n) (z := z) hM (by omega) (by omega) k
      rw [g3 _ hl] at B0
      refine ⟨tw_up μ2 (m + 10) z (nI (tw_tm (tw_tb2 (fun p o => tw_las T p o P) P z) (fun p o => tw_las T p o P) P z)), ⟨tw_mq_t F2 tw_mq_10, fun p o h1 h3 => by rw [tw_up_ne (by omega)]; exact g2 p o h1 h3, fun y hy => ?_⟩, fun k rec => ?_⟩
      · have et : tw_tb2 (fun p o => tw_las T p o P) P (z + 1) y = if y = z then (if z = 0 then 0 else tw_tm (tw_tb2 (fun p o => tw_las T p o P) P z) (fun p o => tw_las T p o P) P z) else tw_tb2 (fun p o => tw_las T p o P) P z y := rfl
        rw [et]
        by_cases ey : y = z
        · subst ey
          rw [if_pos rfl, if_neg (by omega)]
          exact tw_ua
        · rw [if_neg ey, tw_uk (by omega)]
          exact g3 y (by omega)
      · have em1 : mI + nI 1 = nI 0 := by decide
        have emI : ¬ nI (tw_tb2 (fun p o => tw_las T p o P) P z (tw_wt z (tw_fsb z))) < nI 0 := by
          have := hf _ hl
          rw [nz_lt (by omega) (by omega)]
          omega
        have ej : (if nI 0 < nI (tw_tb2 (fun p o => tw_las T p o P) P z (tw_wt z (tw_fsb z))) then nI (tw_tb2 (fun p o => tw_las T p o P) P z (tw_wt z (tw_fsb z))) else nI 0) = nI (tw_tb2 (fun p o => tw_las T p o P) P z (tw_wt z (tw_fsb z))) := by
          have := hf _ hl
          rcases Nat.eq_zero_or_pos (tw_tb2 (fun p o => tw_las T p o P) P z (tw_wt z (tw_fsb z))) with g | g
          · rw [g]; rfl
          · rw [if_pos (by rw [nz_lt (by omega) (by omega)]; exact g)]
        have hmP : mI < nI P := by rw [mI_lt (by omega)]; trivial
        have em : ∀ (k : Int32 → tw_Mem → Prop) (M : tw_Mem), f_J9_max_7cf53 (nI 0) (nI (tw_tb2 (fun p o => tw_las T p o P) P z (tw_wt z (tw_fsb z)))) k M = k (nI (tw_tb2 (fun p o => tw_las T p o P) P z (tw_wt z (tw_fsb z)))) M := fun k M => by rw [j_max, ej]
        have hzP : ¬ nI (2 ^ P - 1) < nI z := by rw [nz_lt (by omega) (by omega)]; omega
        simp (disch := omega) only [m_all hM hP2 h8, hzP, ↓MoV0 hM, ↓A_if, ↓A_jn, ↓A_lt, ↓A_rz, ↓A_rn, ↓A_nzi, ↓A_nzl, ↓A_nn1, ↓A_nn0, ↓reduceIte, true_and, and_true, if_true, if_false, ite_true, ite_false, reduceIte]
        refine (tw_lp_step (s' := (nI (tw_tb2 (fun p o => tw_las T p o P) P z (tw_wt z (tw_fsb z))), nI 0)) (M' := (sh, μ2, la, n)) (fun rec2 => ?_)).trans ?_
        · simp (disch := omega) only [m_people hM, hP2, hmP, ↓B0, ↓em, em1, ↓MoV0 hM, ↓A_if, ↓A_jn, ↓A_lt, ↓A_rz, ↓A_rn, ↓A_nzi, ↓A_nzl, ↓A_nn1, ↓A_nn0, ↓reduceIte, true_and, and_true, if_true, if_false, ite_true, ite_false, reduceIte, nz_mI, tl_0, tl_1]
        · refine tw_lp_for P (fun d => (nI (tw_it (fun o y => if z.testBit o = true ∧ tw_fsb z < o then (if y < (fun p o => tw_las T p o P) (tw_fsb z) o + tw_tb2 (fun p o => tw_las T p o P) P z (tw_wt (tw_wt z (tw_fsb z)) o) then (fun p o => tw_las T p o P) (tw_fsb z) o + tw_tb2 (fun p o => tw_las T p o P) P z (tw_wt (tw_wt z (tw_fsb z)) o) else y) else y) d (tw_tb2 (fun p o => tw_las T p o P) P z (tw_wt z (tw_fsb z)))), nI d)) (fun _ => (sh, μ2, la, n)) rfl rfl ?_ ?_
          · intro d hd rec2
            have hbb := (hb d).1
            have B1 := fun k => m_tBy1 (μ := μ2) (la := la) (n := n) (z := z) (o := d) hM (by omega) (by omega) (by omega) k
            have l3 := tw_wt_le (tw_wt z (tw_fsb z)) d
            rw [g3 (tw_wt (tw_wt z (tw_fsb z)) d) (by omega)] at B1
            have fb1 := hf (tw_wt (tw_wt z (tw_fsb z)) d) (by omega)
            have hW1 := hW (tw_fsb z) d
            rw [tw_it_s]
            generalize tw_it (fun o y => if z.testBit o = true ∧ tw_fsb z < o then (if y < (fun p o => tw_las T p o P) (tw_fsb z) o + tw_tb2 (fun p o => tw_las T p o P) P z (tw_wt (tw_wt z (tw_fsb z)) o) then (fun p o => tw_las T p o P) (tw_fsb z) o + tw_tb2 (fun p o => tw_las T p o P) P z (tw_wt (tw_wt z (tw_fsb z)) o) else y) else y) d (tw_tb2 (fun p o => tw_las T p o P) P z (tw_wt z (tw_fsb z))) = y at *
            have hW2 : tw_las T (tw_fsb z) d P ≤ 60 := hW1
            by_cases q : z.testBit d = true ∧ tw_fsb z < d
            · have q3 := q
              simp only [if_pos q3] at B1
              rw [g2 (tw_fsb z) d q.2 hd] at B1
              by_cases q2 : y < tw_las T (tw_fsb z) d P + tw_tb2 (fun p o => tw_las T p o P) P z (tw_wt (tw_wt z (tw_fsb z)) d) <;> simp (disch := omega) only [↓m_people hM, hP2, ↓B1, q, q2, and_self, ↓MoV0 hM, ↓MoI0_70 hM, ↓MoP0_70 hM, ↓MoZ0_70 hM, ↓MoG0_71 hM, ↓MoG0_72 hM, ↓MoG0_73 hM, ↓MoG0_74 hM, ↓MoG0_75 hM, ↓MoI0_76 hM, ↓MoP0_76 hM, ↓MoZ0_76 hM, ↓MoI0_77 hM, ↓MoP0_77 hM, ↓MoZ0_77 hM, ↓MoG0_78 hM, ↓MoI0_79 hM, ↓MoP0_79 hM, ↓MoZ0_79 hM, ↓MoI0_80 hM, ↓MoP0_80 hM, ↓MoZ0_80 hM, ↓MoI0_81 hM, ↓MoP0_81 hM, ↓MoZ0_81 hM, ↓MoI0_82 hM, ↓MoP0_82 hM, ↓MoZ0_82 hM, ↓MoI0_83 hM, ↓MoP0_83 hM, ↓MoZ0_83 hM, ↓MoI0_84 hM, ↓MoP0_84 hM, ↓MoZ0_84 hM, ↓MoG0_85 hM, ↓MoI0_86 hM, ↓MoP0_86 hM, ↓MoZ0_86 hM, ↓MoG0_87 hM, ↓MoI0_88 hM, ↓MoP0_88 hM, ↓MoZ0_88 hM, ↓MoG0_89 hM, ↓MoG0_90 hM, ↓MoG0_91 hM, ↓MoG0_92 hM, ↓MoL0 hM, ↓MoS0 hM, ↓MoL1 hM, ↓MoS1 hM, ↓MoL2 hM, ↓MoS2 hM, ↓MoL3 hM, ↓MoS3 hM, ↓MoL4 hM, ↓MoS4 hM, ↓MoL5 hM, ↓MoS5 hM, ↓MoL6 hM, ↓MoS6 hM, ↓MoL7 hM, ↓MoS7 hM, ↓MoL8 hM, ↓MoS8 hM, ↓MoL9 hM, ↓MoS9 hM, ↓MoL10 hM, ↓MoS10 hM, ↓MoL11 hM, ↓MoS11 hM, ↓A_if, ↓A_jn, ↓A_lt, ↓A_rz, ↓A_rn, ↓A_nzi, ↓A_nzl, ↓A_nn1, ↓A_nn0, ↓reduceIte, true_and, and_true, if_true, if_false, ite_true, ite_false, reduceIte, tl_0, tl_1, tl_2, tl_3, tl_4, tl_5, tl_6, tl_7, tl_8, tl_9, tl_10, tl_11, tl_12, tl_13, tl_14, tl_15, tl_16, tl_17, tl_18, tl_19, tl_20, tl_21, tl_22, tl_23, tl_24, tl_25, tl_26, tl_27, tl_28, tl_29, tl_30, tl_31, tl_32, tl_33, tl_34, tl_35, tl_36, tl_37, tl_38, tl_39, tl_40, tl_41, tl_42, tl_43, tl_44, tl_45, tl_46, tl_47, tl_48, tl_49, tl_50, tl_51, tl_52, tl_53, tl_54, tl_57, tl_59, tl_60, tl_62, tl_63, tl_64, tl_97, tl_99, tl_100, tl_120, tl_122, tl_192, tl_193, tl_194, tl_195, tl_196, tl_255, tl_256, tl_299, tl_400, tl_401, tl_492, tl_493, tl_541, tl_849, tl_999, tl_1000, tl_1341, tl_1342, tl_1390, tl_2190, tl_5412, tl_5904, tl_9999, tl_12345, tl_32767, tl_65536, tl_1000000, tl_252645135, tl_858993459, tl_1103515245, tl_1431655765, nz_31, nz_c31, eq_self, or_true, true_or, or_false, false_or, Nat.add_zero, nz_lt, nz_le, nz_eq, nz_cl, nz_sub, nI_add, pk_mul, nt_lt, nf_lt, nf_eq, nz_mI, mI_eq, mI_eq', mI_lt, mI_gt, mI_add, ↓j_max, ↓j_min, Nat.sub_sub, Nat.reduceAdd, Nat.reduceSub, Nat.reduceLT, Nat.reduceEqDiff, Bool.false_eq_true]
            · have q3 := q
              simp only [if_neg q3] at B1
              simp (disch := omega) only [↓m_people hM, hP2, ↓B1, q, ↓MoV0 hM, ↓MoI0_70 hM, ↓MoP0_70 hM, ↓MoZ0_70 hM, ↓MoG0_71 hM, ↓MoG0_72 hM, ↓MoG0_73 hM, ↓MoG0_74 hM, ↓MoG0_75 hM, ↓MoI0_76 hM, ↓MoP0_76 hM, ↓MoZ0_76 hM, ↓MoI0_77 hM, ↓MoP0_77 hM, ↓MoZ0_77 hM, ↓MoG0_78 hM, ↓MoI0_79 hM, ↓MoP0_79 hM, ↓MoZ0_79 hM, ↓MoI0_80 hM, ↓MoP0_80 hM, ↓MoZ0_80 hM, ↓MoI0_81 hM, ↓MoP0_81 hM, ↓MoZ0_81 hM, ↓MoI0_82 hM, ↓MoP0_82 hM, ↓MoZ0_82 hM, ↓MoI0_83 hM, ↓MoP0_83 hM, ↓MoZ0_83 hM, ↓MoI0_84 hM, ↓MoP0_84 hM, ↓MoZ0_84 hM, ↓MoG0_85 hM, ↓MoI0_86 hM, ↓MoP0_86 hM, ↓MoZ0_86 hM, ↓MoG0_87 hM, ↓MoI0_88 hM, ↓MoP0_88 hM, ↓MoZ0_88 hM, ↓MoG0_89 hM, ↓MoG0_90 hM, ↓MoG0_91 hM, ↓MoG0_92 hM, ↓MoL0 hM, ↓MoS0 hM, ↓MoL1 hM, ↓MoS1 hM, ↓MoL2 hM, ↓MoS2 hM, ↓MoL3 hM, ↓MoS3 hM, ↓MoL4 hM, ↓MoS4 hM, ↓MoL5 hM, ↓MoS5 hM, ↓MoL6 hM, ↓MoS6 hM, ↓MoL7 hM, ↓MoS7 hM, ↓MoL8 hM, ↓MoS8 hM, ↓MoL9 hM, ↓MoS9 hM, ↓MoL10 hM, ↓MoS10 hM, ↓MoL11 hM, ↓MoS11 hM, ↓A_if, ↓A_jn, ↓A_lt, ↓A_rz, ↓A_rn, ↓A_nzi, ↓A_nzl, ↓A_nn1, ↓A_nn0, ↓reduceIte, true_and, and_true, if_true, if_false, ite_true, ite_false, reduceIte, tl_0, tl_1, tl_2, tl_3, tl_4, tl_5, tl_6, tl_7, tl_8, tl_9, tl_10, tl_11, tl_12, tl_13, tl_14, tl_15, tl_16, tl_17, tl_18, tl_19, tl_20, tl_21, tl_22, tl_23, tl_24, tl_25, tl_26, tl_27, tl_28, tl_29, tl_30, tl_31, tl_32, tl_33, tl_34, tl_35, tl_36, tl_37, tl_38, tl_39, tl_40, tl_41, tl_42, tl_43, tl_44, tl_45, tl_46, tl_47, tl_48, tl_49, tl_50, tl_51, tl_52, tl_53, tl_54, tl_57, tl_59, tl_60, tl_62, tl_63, tl_64, tl_97, tl_99, tl_100, tl_120, tl_122, tl_192, tl_193, tl_194, tl_195, tl_196, tl_255, tl_256, tl_299, tl_400, tl_401, tl_492, tl_493, tl_541, tl_849, tl_999, tl_1000, tl_1341, tl_1342, tl_1390, tl_2190, tl_5412, tl_5904, tl_9999, tl_12345, tl_32767, tl_65536, tl_1000000, tl_252645135, tl_858993459, tl_1103515245, tl_1431655765, nz_31, nz_c31, eq_self, or_true, true_or, or_false, false_or, Nat.add_zero, nz_lt, nz_le, nz_eq, nz_cl, nz_sub, nI_add, pk_mul, nt_lt, nf_lt, nf_eq, nz_mI, mI_eq, mI_eq', mI_lt, mI_gt, mI_add, ↓j_max, ↓j_min, Nat.sub_sub, Nat.reduceAdd, Nat.reduceSub, Nat.reduceLT, Nat.reduceEqDiff, Bool.false_eq_true]
          · intro rec2
            simp (disch := omega) only [↓m_people hM, hP2, tw_tm, hz, ↓MoV0 hM, ↓MoI0_70 hM, ↓MoP0_70 hM, ↓MoZ0_70 hM, ↓MoG0_71 hM, ↓MoG0_72 hM, ↓MoG0_73 hM, ↓MoG0_74 hM, ↓MoG0_75 hM, ↓MoI0_76 hM, ↓MoP0_76 hM, ↓MoZ0_76 hM, ↓MoI0_77 hM, ↓MoP0_77 hM, ↓MoZ0_77 hM, ↓MoG0_78 hM, ↓MoI0_79 hM, ↓MoP0_79 hM, ↓MoZ0_79 hM, ↓MoI0_80 hM, ↓MoP0_80 hM, ↓MoZ0_80 hM, ↓MoI0_81 hM, ↓MoP0_81 hM, ↓MoZ0_81 hM, ↓MoI0_82 hM, ↓MoP0_82 hM, ↓MoZ0_82 hM, ↓MoI0_83 hM, ↓MoP0_83 hM, ↓MoZ0_83 hM, ↓MoI0_84 hM, ↓MoP0_84 hM, ↓MoZ0_84 hM, ↓MoG0_85 hM, ↓MoI0_86 hM, ↓MoP0_86 hM, ↓MoZ0_86 hM, ↓MoG0_87 hM, ↓MoI0_88 hM, ↓MoP0_88 hM, ↓MoZ0_88 hM, ↓MoG0_89 hM, ↓MoG0_90 hM, ↓MoG0_91 hM, ↓MoG0_92 hM, ↓MoL0 hM, ↓MoS0 hM, ↓MoL1 hM, ↓MoS1 hM, ↓MoL2 hM, ↓MoS2 hM, ↓MoL3 hM, ↓MoS3 hM, ↓MoL4 hM, ↓MoS4 hM, ↓MoL5 hM, ↓MoS5 hM, ↓MoL6 hM, ↓MoS6 hM, ↓MoL7 hM, ↓MoS7 hM, ↓MoL8 hM, ↓MoS8 hM, ↓MoL9 hM, ↓MoS9 hM, ↓MoL10 hM, ↓MoS10 hM, ↓MoL11 hM, ↓MoS11 hM, ↓A_if, ↓A_jn, ↓A_lt, ↓A_rz, ↓A_rn, ↓A_nzi, ↓A_nzl, ↓A_nn1, ↓A_nn0, ↓reduceIte, true_and, and_true, if_true, if_false, ite_true, ite_false, reduceIte, tl_0, tl_1, tl_2, tl_3, tl_4, tl_5, tl_6, tl_7, tl_8, tl_9, tl_10, tl_11, tl_12, tl_13, tl_14, tl_15, tl_16, tl_17, tl_18, tl_19, tl_20, tl_21, tl_22, tl_23, tl_24, tl_25, tl_26, tl_27, tl_28, tl_29, tl_30, tl_31, tl_32, tl_33, tl_34, tl_35, tl_36, tl_37, tl_38, tl_39, tl_40, tl_41, tl_42, tl_43, tl_44, tl_45, tl_46, tl_47, tl_48, tl_49, tl_50, tl_51, tl_52, tl_53, tl_54, tl_57, tl_59, tl_60, tl_62, tl_63, tl_64, tl_97, tl_99, tl_100, tl_120, tl_122, tl_192, tl_193, tl_194, tl_195, tl_196, tl_255, tl_256, tl_299, tl_400, tl_401, tl_492, tl_493, tl_541, tl_849, tl_999, tl_1000, tl_1341, tl_1342, tl_1390, tl_2190, tl_5412, tl_5904, tl_9999, tl_12345, tl_32767, tl_65536, tl_1000000, tl_252645135, tl_858993459, tl_1103515245, tl_1431655765, nz_31, nz_c31, eq_self, or_true, true_or, or_false, false_or, Nat.add_zero, nz_lt, nz_le, nz_eq, nz_cl, nz_sub, nI_add, pk_mul, nt_lt, nf_lt, nf_eq, nz_mI, mI_eq, mI_eq', mI_lt, mI_gt, mI_add, ↓j_max, ↓j_min, Nat.sub_sub, Nat.reduceAdd, Nat.reduceSub, Nat.reduceLT, Nat.reduceEqDiff, Bool.false_eq_true]
    · rintro μ2 ⟨F2, g2, g3⟩
      have e2 : μ2 (m + 1) = T := F2.1.trans hT
      have hP2 : μ2 (m + 1) 0 = nI P := by rw [e2]; exact W.1
      have eP : 2 ^ P - 1 + 1 = 2 ^ P := by omega
      rw [eP] at g3
      refine ⟨μ2, ⟨F2, g2, g3⟩, fun k rec => ?_⟩
      rw [eP]
      simp (disch := omega) only [↓m_all hM hP2 h8, ↓MoV0 hM, ↓MoI0_70 hM, ↓MoP0_70 hM, ↓MoZ0_70 hM, ↓MoG0_71 hM, ↓MoG0_72 hM, ↓MoG0_73 hM, ↓MoG0_74 hM, ↓MoG0_75 hM, ↓MoI0_76 hM, ↓MoP0_76 hM, ↓MoZ0_76 hM, ↓MoI0_77 hM, ↓MoP0_77 hM, ↓MoZ0_77 hM, ↓MoG0_78 hM, ↓MoI0_79 hM, ↓MoP0_79 hM, ↓MoZ0_79 hM, ↓MoI0_80 hM, ↓MoP0_80 hM, ↓MoZ0_80 hM, ↓MoI0_81 hM, ↓MoP0_81 hM, ↓MoZ0_81 hM, ↓MoI0_82 hM, ↓MoP0_82 hM, ↓MoZ0_82 hM, ↓MoI0_83 hM, ↓MoP0_83 hM, ↓MoZ0_83 hM, ↓MoI0_84 hM, ↓MoP0_84 hM, ↓MoZ0_84 hM, ↓MoG0_85 hM, ↓MoI0_86 hM, ↓MoP0_86 hM, ↓MoZ0_86 hM, ↓MoG0_87 hM, ↓MoI0_88 hM, ↓MoP0_88 hM, ↓MoZ0_88 hM, ↓MoG0_89 hM, ↓MoG0_90 hM, ↓MoG0_91 hM, ↓MoG0_92 hM, ↓MoL0 hM, ↓MoS0 hM, ↓MoL1 hM, ↓MoS1 hM, ↓MoL2 hM, ↓MoS2 hM, ↓MoL3 hM, ↓MoS3 hM, ↓MoL4 hM, ↓MoS4 hM, ↓MoL5 hM, ↓MoS5 hM, ↓MoL6 hM, ↓MoS6 hM, ↓MoL7 hM, ↓MoS7 hM, ↓MoL8 hM, ↓MoS8 hM, ↓MoL9 hM, ↓MoS9 hM, ↓MoL10 hM, ↓MoS10 hM, ↓MoL11 hM, ↓MoS11 hM, ↓A_if, ↓A_jn, ↓A_lt, ↓A_rz, ↓A_rn, ↓A_nzi, ↓A_nzl, ↓A_nn1, ↓A_nn0, ↓reduceIte, true_and, and_true, if_true, if_false, ite_true, ite_false, reduceIte, tl_0, tl_1, tl_2, tl_3, tl_4, tl_5, tl_6, tl_7, tl_8, tl_9, tl_10, tl_11, tl_12, tl_13, tl_14, tl_15, tl_16, tl_17, tl_18, tl_19, tl_20, tl_21, tl_22, tl_23, tl_24, tl_25, tl_26, tl_27, tl_28, tl_29, tl_30, tl_31, tl_32, tl_33, tl_34, tl_35, tl_36, tl_37, tl_38, tl_39, tl_40, tl_41, tl_42, tl_43, tl_44, tl_45, tl_46, tl_47, tl_48, tl_49, tl_50, tl_51, tl_52, tl_53, tl_54, tl_57, tl_59, tl_60, tl_62, tl_63, tl_64, tl_97, tl_99, tl_100, tl_120, tl_122, tl_192, tl_193, tl_194, tl_195, tl_196, tl_255, tl_256, tl_299, tl_400, tl_401, tl_492, tl_493, tl_541, tl_849, tl_999, tl_1000, tl_1341, tl_1342, tl_1390, tl_2190, tl_5412, tl_5904, tl_9999, tl_12345, tl_32767, tl_65536, tl_1000000, tl_252645135, tl_858993459, tl_1103515245, tl_1431655765, nz_31, nz_c31, eq_self, or_true, true_or, or_false, false_or, Nat.add_zero, nz_lt, nz_le, nz_eq, nz_cl, nz_sub, nI_add, pk_mul, nt_lt, nf_lt, nf_eq, nz_mI, mI_eq, mI_eq', mI_lt, mI_gt, mI_add, ↓j_max, ↓j_min, Nat.sub_sub, Nat.reduceAdd, Nat.reduceSub, Nat.reduceLT, Nat.reduceEqDiff, Bool.false_eq_true]
theorem m_mateL (hM : tw_Mo sh m) (h8 : P ≤ 8) (HM : tw_MM M Wt P) (g2 : ∀ p o, p < o → o < P → μ (m + 9) (8 * p + o) = nI (Wt p o)) (g3 : ∀ z, z < 2 ^ P → μ (m + 10) z = nI (M z)) (hq : q < P) (k : Int32 → tw_Mem → Prop) : ∀ d i z v, i + d = P → z < 2 ^ P → (∀ r, r < i → z.testBit r = false) → z.testBit q = true → tw_lp (fun (r6 : Int32 × Int32 × Int32 → tw_Mem → Prop) (s7 : Int32 × Int32 × Int32) => tw_if (s7.2.2 = 0) (f_X12_firstOf s7.1 (fun x8 => tw_lp (fun (r9 : Int32 → tw_Mem → Prop) (s10 : Int32) => tw_iv 11 m (f_X12_teamsBy m s7.1 s10 (fun x11 => tw_gr 90 m fun x12 => tw_li x12 s7.1 fun x13 => tw_if (x11 = x13) (tw_jn (fun (s15 : Int32) => tw_jn (fun (s17 : Int32) => tw_lt (s7.1 &&& (((1 : Int32) <<< (x8 &&& 31)) ^^^ (-1 : Int32))) fun x18 => tw_jn (fun (s20 : Int32) => r6 (s20, s17, s15)) (fun j19 => tw_if (s10 = (-1 : Int32)) (j19 x18) (j19 (x18 &&& (((1 : Int32) <<< (s10 &&& 31)) ^^^ (-1 : Int32)))))) (fun j16 => tw_if (x8 = nI q) (j16 s10) (j16 x8))) (fun j14 => tw_jn (fun (s22 : Unit) => j14 (1 : Int32)) (fun j21 => tw_if (x8 = nI q) (j21 ()) (tw_if (s10 = nI q) (j21 ()) (j14 (0 : Int32)))))) (r9 (s10 + (1 : Int32)))))) (-1 : Int32))) (k s7.2.1)) (nI z, v, nI 0) (sh, μ, la, n) = k (tw_mtt M Wt P d i z q) (sh, μ, la, n) := by
  have h2 := tw_p256 h8
  intro d
  induction d with
  | zero =>
    intro i z v hi hz hb hzq
    rw [hb q (by omega)] at hzq
    cases hzq
  | succ d ih =>
    intro i z v hi hz hb hzq
    by_cases qi : z.testBit i = true
    · obtain ⟨p1, p2⟩ := tw_fsb_i h8 hz (by omega) qi hb
      obtain ⟨l1, l2, l3, l4⟩ := tw_lm_s h8 HM hz p2
      have en := tw_ntz_e z (by omega) p2
      have B0 := fun k => m_tBy0 (μ := μ) (la := la) (n := n) (z := z) hM (by omega) p2 k
      have B1 := fun o (ho : o < 8) k => m_tBy1 (μ := μ) (la := la) (n := n) (z := z) (o := o) hM (by omega) p2 ho k
      have w0 := tw_wt_le z (tw_fsb z)
      rw [g3 _ (by omega)] at B0
      have v0 : tw_vl M Wt z 0 = nI (M (tw_wt z (tw_fsb z))) := if_pos rfl
      rw [← v0] at B0
      have B2 : ∀ o, o < P → ∀ k : Int32 → tw_Mem → Prop, f_X12_teamsBy m (nI z) (nI o) k (sh, μ, la, n) = k (tw_vl M Wt z (o + 1)) (sh, μ, la, n) := fun o ho k => by
        have w1 := tw_wt_le (tw_wt z (tw_fsb z)) o
        rw [B1 o (by omega) k]
        unfold tw_vl
        rw [if_neg (Nat.succ_ne_zero o), Nat.add_sub_cancel]
        by_cases g : z.testBit o = true ∧ tw_fsb z < o
        · rw [if_pos g, if_pos g, g2 (tw_fsb z) o g.2 ho, g3 _ (by omega), nI_add]
        · rw [if_neg g, if_neg g]
      have emt : tw_mtt M Wt P (d + 1) i z q = if q = i then nI (tw_lm M Wt P z) - nI 1 else if q + 1 = tw_lm M Wt P z then nI i else tw_mtt M Wt P d (i + 1) (if tw_lm M Wt P z = 0 then tw_wt z i else tw_wt (tw_wt z i) (tw_lm M Wt P z - 1)) q := if_pos qi
      rw [p1] at en l4
      have ez : ∀ (k : Int32 → tw_Mem → Prop) (M : tw_Mem), f_J6_numberOfTrailingZeros_0f7a4 (nI z) k M = k (nI i) M := fun k M => by rw [j_ntz, en]
      have ewi := m_without (z := z) (p := i) (by omega)
      have er10 := g3 z hz
      rw [emt]
      have inner : ∀ (R : Prop) (bd : (Int32 → tw_Mem → Prop) → Int32 → tw_Mem → Prop), (∀ c rec, c < tw_lm M Wt P z → bd rec (if c = 0 then mI else nI (c - 1)) (sh, μ, la, n) = rec (nI c) (sh, μ, la, n)) → (∀ rec, bd rec (if tw_lm M Wt P z = 0 then mI else nI (tw_lm M Wt P z - 1)) (sh, μ, la, n) = R) → tw_lp bd mI (sh, μ, la, n) = R := fun R bd h1 h3 => by
        refine tw_lp_for (tw_lm M Wt P z) (fun c => if c = 0 then mI else nI (c - 1)) (fun _ => (sh, μ, la, n)) rfl rfl (fun c hc rec => ?_) h3
        rw [h1 c rec hc, if_neg (Nat.succ_ne_zero c), Nat.add_sub_cancel]
      have em1 : mI + nI 1 = nI 0 := by decide
      have estep : ∀ c, 0 < c → nI (c - 1) + nI 1 = nI c := fun c hc => by rw [nI_add, Nat.sub_add_cancel hc]
      have nmq : ∀ r, r < 8 → ¬ mI = nI r := fun r hr => by rw [mI_eq' (by omega)]; exact id
      have nqm : ∀ r, r < 8 → ¬ nI r = mI := fun r hr => by rw [mI_eq (by omega)]; exact id
      have wl := tw_wt_le z i
      have hb2 : ∀ r, r < i + 1 → (tw_wt z i).testBit r = false := fun r hr => by
        rw [tw_wt_b z i r (by omega)]
        by_cases e : i = r
        · rw [decide_eq_true e]; simp
        · rw [hb r (by omega)]; rfl
      generalize hd : tw_lm M Wt P z = t at *
      by_cases qe : q = i
      · rw [if_pos qe]
        subst qe
        refine (tw_lp_step (s' := (if t = 0 then tw_wt z q else tw_wt (tw_wt z q) (t - 1) : Nat) |> fun w => (nI w, nI t - nI 1, nI 1)) (M' := (sh, μ, la, n)) (fun rec => ?_)).trans (tw_lp_exit (fun rec => ?_))
        · simp (disch := omega) only [f_X12_firstOf, ↓ez, tl_0, tl_1, nz_mI, ↓A_if, ↓A_jn, ↓A_lt, ↓A_rz, ↓A_rn, ↓A_nzi, ↓A_nzl, ↓A_nn1, ↓A_nn0, ↓reduceIte, true_and, and_true, if_true, if_false, ite_true, ite_false, reduceIte]
          refine inner _ _ (fun c rec2 hc => ?_) (fun rec2 => ?_)
          · have hne := l3 c hc
            rcases Nat.eq_zero_or_pos c with g | g
            · subst g
              simp (disch := omega) only [↓B0, hne, er10, em1, ↓MoV0 hM, ↓MoG0_90 hM, ↓MoL9 hM, ↓A_if, ↓A_jn, ↓A_lt, ↓A_rz, ↓A_rn, ↓A_nzi, ↓A_nzl, ↓A_nn1, ↓A_nn0, ↓reduceIte, true_and, and_true, if_true, if_false, ite_true, ite_false, reduceIte]
            · have hne2 : ¬ tw_vl M Wt z (c - 1 + 1) = nI (M z) := by rw [Nat.sub_add_cancel g]; exact hne
              have B3 := B2 (c - 1) (by omega)
              rw [if_neg (by omega)]
              simp (disch := omega) only [↓B3, hne2, er10, estep, ↓MoV0 hM, ↓MoG0_90 hM, ↓MoL9 hM, ↓A_if, ↓A_jn, ↓A_lt, ↓A_rz, ↓A_rn, ↓A_nzi, ↓A_nzl, ↓A_nn1, ↓A_nn0, ↓reduceIte, true_and, and_true, if_true, if_false, ite_true, ite_false, reduceIte]
          · rcases Nat.eq_zero_or_pos t with g | g
            · subst g
              simp (disch := omega) only [↓B0, l1, er10, ewi, nz_c31, ↓MoV0 hM, ↓MoG0_90 hM, ↓MoL9 hM, ↓A_if, ↓A_jn, ↓A_lt, ↓A_rz, ↓A_rn, ↓A_nzi, ↓A_nzl, ↓A_nn1, ↓A_nn0, ↓reduceIte, true_and, and_true, if_true, if_false, ite_true, ite_false, reduceIte]
              rfl
            · have l12 : tw_vl M Wt z (t - 1 + 1) = nI (M z) := by rw [Nat.sub_add_cancel g]; exact l1
              have B3 := B2 (t - 1) (by omega)
              have es : nI t - nI 1 = nI (t - 1) := nz_sub g
              have ew2 := m_without (z := tw_wt z q) (p := t - 1) (by omega)
              have nq1 := nqm (t - 1) (by omega)
              have gt : ¬ t = 0 := by omega
              simp (disch := omega) only [gt, ↓B3, l12, er10, ewi, ew2, es, nq1, nz_c31, ↓MoV0 hM, ↓MoG0_90 hM, ↓MoL9 hM, ↓A_if, ↓A_jn, ↓A_lt, ↓A_rz, ↓A_rn, ↓A_nzi, ↓A_nzl, ↓A_nn1, ↓A_nn0, ↓reduceIte, true_and, and_true, if_true, if_false, ite_true, ite_false, reduceIte]
        · have n10 : ¬ nI 1 = nI 0 := by decide
          simp (disch := omega) only [n10, tl_0, ↓A_if, ↓A_jn, ↓A_lt, ↓A_rz, ↓A_rn, ↓A_nzi, ↓A_nzl, ↓A_nn1, ↓A_nn0, ↓reduceIte, true_and, and_true, if_true, if_false, ite_true, ite_false, reduceIte]
      · have nqi : ¬ nI i = nI q := by rw [nz_eq (by omega) (by omega)]; exact fun g => qe g.symm
        rw [if_neg qe]
        by_cases qt : q + 1 = t
        · rw [if_pos qt]
          have gt : ¬ t = 0 := by omega
          have l12 : tw_vl M Wt z (q + 1) = nI (M z) := by rw [qt]; exact l1
          have B3 := B2 q (by omega)
          have ew2 := m_without (z := tw_wt z i) (p := q) (by omega)
          have et1 : t - 1 = q := by omega
          have nq1 := nqm q (by omega)
          refine (tw_lp_step (s' := (nI (tw_wt (tw_wt z i) q), nI i, nI 1)) (M' := (sh, μ, la, n)) (fun rec => ?_)).trans (tw_lp_exit (fun rec => ?_))
          · simp (disch := omega) only [f_X12_firstOf, ↓ez, tl_0, tl_1, nz_mI, ↓A_if, ↓A_jn, ↓A_lt, ↓A_rz, ↓A_rn, ↓A_nzi, ↓A_nzl, ↓A_nn1, ↓A_nn0, ↓reduceIte, true_and, and_true, if_true, if_false, ite_true, ite_false, reduceIte]
            refine inner _ _ (fun c rec2 hc => ?_) (fun rec2 => ?_)
            · have hne := l3 c hc
              rcases Nat.eq_zero_or_pos c with g | g
              · subst g
                simp (disch := omega) only [↓B0, hne, er10, em1, ↓MoV0 hM, ↓MoG0_90 hM, ↓MoL9 hM, ↓A_if, ↓A_jn, ↓A_lt, ↓A_rz, ↓A_rn, ↓A_nzi, ↓A_nzl, ↓A_nn1, ↓A_nn0, ↓reduceIte, true_and, and_true, if_true, if_false, ite_true, ite_false, reduceIte]
              · have hne2 : ¬ tw_vl M Wt z (c - 1 + 1) = nI (M z) := by rw [Nat.sub_add_cancel g]; exact hne
                have B4 := B2 (c - 1) (by omega)
                rw [if_neg (by omega)]
                simp (disch := omega) only [↓B4, hne2, er10, estep, ↓MoV0 hM, ↓MoG0_90 hM, ↓MoL9 hM, ↓A_if, ↓A_jn, ↓A_lt, ↓A_rz, ↓A_rn, ↓A_nzi, ↓A_nzl, ↓A_nn1, ↓A_nn0, ↓reduceIte, true_and, and_true, if_true, if_false, ite_true, ite_false, reduceIte]
            · simp (disch := omega) only [gt, et1, ↓B3, l12, er10, ewi, ew2, nqi, nq1, nz_c31, ↓MoV0 hM, ↓MoG0_90 hM, ↓MoL9 hM, ↓A_if, ↓A_jn, ↓A_lt, ↓A_rz, ↓A_rn, ↓A_nzi, ↓A_nzl, ↓A_nn1, ↓A_nn0, ↓reduceIte, true_and, and_true, if_true, if_false, ite_true, ite_false, reduceIte]
          · have n10 : ¬ nI 1 = nI 0 := by decide
            simp (disch := omega) only [n10, tl_0, ↓A_if, ↓A_jn, ↓A_lt, ↓A_rz, ↓A_rn, ↓A_nzi, ↓A_nzl, ↓A_nn1, ↓A_nn0, ↓reduceIte, true_and, and_true, if_true, if_false, ite_true, ite_false, reduceIte]
        · rw [if_neg qt]
          rcases Nat.eq_zero_or_pos t with g | g
          · subst g
            rw [if_pos rfl]
            have hq2 : (tw_wt z i).testBit q = true := by rw [tw_wt_b z i q (by omega), hzq, decide_eq_false (fun g => qe g.symm)]; rfl
            have nmq1 := nmq q (by omega)
            rw [← ih (i + 1) (tw_wt z i) (nI i) (by omega) (by omega) hb2 hq2]
            refine tw_lp_step (fun rec => ?_)
            simp (disch := omega) only [f_X12_firstOf, ↓ez, tl_0, tl_1, nz_mI, ↓A_if, ↓A_jn, ↓A_lt, ↓A_rz, ↓A_rn, ↓A_nzi, ↓A_nzl, ↓A_nn1, ↓A_nn0, ↓reduceIte, true_and, and_true, if_true, if_false, ite_true, ite_false, reduceIte]
            refine inner _ _ (fun c rec2 hc => absurd hc (Nat.not_lt_zero c)) (fun rec2 => ?_)
            simp (disch := omega) only [↓B0, l1, er10, ewi, nqi, nmq1, nz_c31, ↓MoV0 hM, ↓MoG0_90 hM, ↓MoL9 hM, ↓A_if, ↓A_jn, ↓A_lt, ↓A_rz, ↓A_rn, ↓A_nzi, ↓A_nzl, ↓A_nn1, ↓A_nn0, ↓reduceIte, true_and, and_true, if_true, if_false, ite_true, ite_false, reduceIte]
          · obtain ⟨b1, b3⟩ := l4 (by omega)
            have gt : ¬ t = 0 := by omega
            rw [if_neg gt]
            have w3 := tw_wt_le (tw_wt z i) (t - 1)
            have hq2 : (tw_wt (tw_wt z i) (t - 1)).testBit q = true := by rw [tw_wt_b _ _ q (by omega), tw_wt_b z i q (by omega), hzq, decide_eq_false (fun g => qe g.symm), decide_eq_false (by omega)]; rfl
            have hb3 : ∀ r, r < i + 1 → (tw_wt (tw_wt z i) (t - 1)).testBit r = false := fun r hr => by rw [tw_wt_b _ _ r (by omega), hb2 r hr]; rfl
            have nq1 := nqm (t - 1) (by omega)
            have nq2 : ¬ nI (t - 1) = nI q := by rw [nz_eq (by omega) (by omega)]; omega
            have l12 : tw_vl M Wt z (t - 1 + 1) = nI (M z) := by rw [Nat.sub_add_cancel g]; exact l1
            have B3 := B2 (t - 1) (by omega)
            have ew2 := m_without (z := tw_wt z i) (p := t - 1) (by omega)
            rw [← ih (i + 1) (tw_wt (tw_wt z i) (t - 1)) (nI i) (by omega) (by omega) hb3 hq2]
            refine tw_lp_step (fun rec => ?_)
            simp (disch := omega) only [f_X12_firstOf, ↓ez, tl_0, tl_1, nz_mI, ↓A_if, ↓A_jn, ↓A_lt, ↓A_rz, ↓A_rn, ↓A_nzi, ↓A_nzl, ↓A_nn1, ↓A_nn0, ↓reduceIte, true_and, and_true, if_true, if_false, ite_true, ite_false, reduceIte]
            refine inner _ _ (fun c rec2 hc => ?_) (fun rec2 => ?_)
            · have hne := l3 c hc
              rcases Nat.eq_zero_or_pos c with g | g
              · subst g
                simp (disch := omega) only [↓B0, hne, er10, em1, ↓MoV0 hM, ↓MoG0_90 hM, ↓MoL9 hM, ↓A_if, ↓A_jn, ↓A_lt, ↓A_rz, ↓A_rn, ↓A_nzi, ↓A_nzl, ↓A_nn1, ↓A_nn0, ↓reduceIte, true_and, and_true, if_true, if_false, ite_true, ite_false, reduceIte]
              · have hne2 : ¬ tw_vl M Wt z (c - 1 + 1) = nI (M z) := by rw [Nat.sub_add_cancel g]; exact hne
                have B4 := B2 (c - 1) (by omega)
                rw [if_neg (by omega)]
                simp (disch := omega) only [↓B4, hne2, er10, estep, ↓MoV0 hM, ↓MoG0_90 hM, ↓MoL9 hM, ↓A_if, ↓A_jn, ↓A_lt, ↓A_rz, ↓A_rn, ↓A_nzi, ↓A_nzl, ↓A_nn1, ↓A_nn0, ↓reduceIte, true_and, and_true, if_true, if_false, ite_true, ite_false, reduceIte]
            · simp (disch := omega) only [gt, ↓B3, l12, er10, ewi, ew2, nqi, nq1, nq2, nz_c31, ↓MoV0 hM, ↓MoG0_90 hM, ↓MoL9 hM, ↓A_if, ↓A_jn, ↓A_lt, ↓A_rz, ↓A_rn, ↓A_nzi, ↓A_nzl, ↓A_nn1, ↓A_nn0, ↓reduceIte, true_and, and_true, if_true, if_false, ite_true, ite_false, reduceIte]
    · have emt : tw_mtt M Wt P (d + 1) i z q = tw_mtt M Wt P d (i + 1) z q := if_neg qi
      rw [emt]
      refine ih (i + 1) z v (by omega) hz (fun r hr => ?_) hzq
      by_cases e : r = i
      · subst e
        cases h : z.testBit r
        · rfl
        · exact absurd h qi
      · exact hb r (by omega)
theorem m_teamsN (hM : tw_Mo sh m) (H : tw_LX T) (W : tw_WF T P) (hT : μ (m + 1) = T) (e70 : μ m 70 = nI 0) : ∃ μ', tw_mq m μ μ' ∧ ∀ k, f_X12_teams m mI k (sh, μ, la, n) = k (nI (tw_tb2 (fun p o => tw_las T p o P) P (2 ^ P) (2 ^ P - 1))) (sh, μ', la, n) := by
  have h8 := W.2.1
  have h2 := tw_p256 h8
  have hpp := Nat.two_pow_pos P
  have e0 : tw_up μ m 70 (nI 0) = μ := by rw [tw_up_as, ← e70, tw_u1_self, tw_ra_s]
  obtain ⟨μ', ⟨mq, g2, g3⟩, El⟩ := m_laysT (la := la) (n := n) hM H W hT
  have hP' : μ' (m + 1) 0 = nI P := by rw [mq.1, hT]; exact W.1
  have Ea := fun k => m_all (la := la) (n := n) hM hP' h8 k
  have e3 := g3 (2 ^ P - 1) (by omega)
  refine ⟨μ', mq, fun k => ?_⟩
  simp (disch := omega) only [f_X12_teams, e0, ↓El, ↓Ea, e3, f_X12_throwsIf, ↓MoV0 hM, ↓MoI0_70 hM, ↓MoP0_70 hM, ↓MoZ0_70 hM, ↓MoG0_71 hM, ↓MoG0_72 hM, ↓MoG0_73 hM, ↓MoG0_74 hM, ↓MoG0_75 hM, ↓MoI0_76 hM, ↓MoP0_76 hM, ↓MoZ0_76 hM, ↓MoI0_77 hM, ↓MoP0_77 hM, ↓MoZ0_77 hM, ↓MoG0_78 hM, ↓MoI0_79 hM, ↓MoP0_79 hM, ↓MoZ0_79 hM, ↓MoI0_80 hM, ↓MoP0_80 hM, ↓MoZ0_80 hM, ↓MoI0_81 hM, ↓MoP0_81 hM, ↓MoZ0_81 hM, ↓MoI0_82 hM, ↓MoP0_82 hM, ↓MoZ0_82 hM, ↓MoI0_83 hM, ↓MoP0_83 hM, ↓MoZ0_83 hM, ↓MoI0_84 hM, ↓MoP0_84 hM, ↓MoZ0_84 hM, ↓MoG0_85 hM, ↓MoI0_86 hM, ↓MoP0_86 hM, ↓MoZ0_86 hM, ↓MoG0_87 hM, ↓MoI0_88 hM, ↓MoP0_88 hM, ↓MoZ0_88 hM, ↓MoG0_89 hM, ↓MoG0_90 hM, ↓MoG0_91 hM, ↓MoG0_92 hM, ↓MoL0 hM, ↓MoS0 hM, ↓MoL1 hM, ↓MoS1 hM, ↓MoL2 hM, ↓MoS2 hM, ↓MoL3 hM, ↓MoS3 hM, ↓MoL4 hM, ↓MoS4 hM, ↓MoL5 hM, ↓MoS5 hM, ↓MoL6 hM, ↓MoS6 hM, ↓MoL7 hM, ↓MoS7 hM, ↓MoL8 hM, ↓MoS8 hM, ↓MoL9 hM, ↓MoS9 hM, ↓MoL10 hM, ↓MoS10 hM, ↓MoL11 hM, ↓MoS11 hM, ↓A_if, ↓A_jn, ↓A_lt, ↓A_rz, ↓A_rn, ↓A_nzi, ↓A_nzl, ↓A_nn1, ↓A_nn0, ↓reduceIte, true_and, and_true, if_true, if_false, ite_true, ite_false, reduceIte, tl_0, tl_1, tl_2, tl_3, tl_4, tl_5, tl_6, tl_7, tl_8, tl_9, tl_10, tl_11, tl_12, tl_13, tl_14, tl_15, tl_16, tl_17, tl_18, tl_19, tl_20, tl_21, tl_22, tl_23, tl_24, tl_25, tl_26, tl_27, tl_28, tl_29, tl_30, tl_31, tl_32, tl_33, tl_34, tl_35, tl_36, tl_37, tl_38, tl_39, tl_40, tl_41, tl_42, tl_43, tl_44, tl_45, tl_46, tl_47, tl_48, tl_49, tl_50, tl_51, tl_52, tl_53, tl_54, tl_57, tl_59, tl_60, tl_62, tl_63, tl_64, tl_97, tl_99, tl_100, tl_120, tl_122, tl_192, tl_193, tl_194, tl_195, tl_196, tl_255, tl_256, tl_299, tl_400, tl_401, tl_492, tl_493, tl_541, tl_849, tl_999, tl_1000, tl_1341, tl_1342, tl_1390, tl_2190, tl_5412, tl_5904, tl_9999, tl_12345, tl_32767, tl_65536, tl_1000000, tl_252645135, tl_858993459, tl_1103515245, tl_1431655765, nz_31, nz_c31, eq_self, or_true, true_or, or_false, false_or, Nat.add_zero, nz_lt, nz_le, nz_eq, nz_cl, nz_sub, nI_add, pk_mul, nt_lt, nf_lt, nf_eq, nz_mI, mI_eq, mI_eq', mI_lt, mI_gt, mI_add, ↓j_max, ↓j_min, Nat.sub_sub, Nat.reduceAdd, Nat.reduceSub, Nat.reduceLT, Nat.reduceEqDiff, Bool.false_eq_true]
theorem m_teamsF (hM : tw_Mo sh m) (H : tw_LX T) (W : tw_WF T P) (hT : μ (m + 1) = T) (e70 : μ m 70 = nI 0) (hq : q < P) : ∃ μ', tw_mq m μ μ' ∧ ∀ k, f_X12_teams m (nI q) k (sh, μ, la, n) = k (tw_mtt (tw_tb2 (fun p o => tw_las T p o P) P (2 ^ P)) (fun p o => tw_las T p o P) P P 0 (2 ^ P - 1) q) (sh, μ', la, n) := by
  have h8 := W.2.1
  have h2 := tw_p256 h8
  have hpp := Nat.two_pow_pos P
  have e0 : tw_up μ m 70 (nI 0) = μ := by rw [tw_up_as, ← e70, tw_u1_self, tw_ra_s]
  have hW : ∀ p o, (fun p o => tw_las T p o P) p o ≤ 60 := fun p o => (tw_las_s T p o P).1
  obtain ⟨μ', ⟨mq, g2, g3⟩, El⟩ := m_laysT (la := la) (n := n) hM H W hT
  have hP0 : μ (m + 1) 0 = nI P := by rw [hT]; exact W.1
  have hP' : μ' (m + 1) 0 = nI P := by rw [mq.1, hT]; exact W.1
  have Ea := fun k => m_all (la := la) (n := n) hM hP' h8 k
  have hbit : (2 ^ P - 1).testBit q = true := by rw [Nat.testBit_two_pow_sub_one]; exact decide_eq_true hq
  refine ⟨μ', mq, fun k => ?_⟩
  have EL := m_mateL (μ := μ') (la := la) (n := n) (q := q) hM h8 (tw_tb2_M h8 hW) g2 g3 hq k P 0 (2 ^ P - 1) mI (by omega) (by omega) (fun r hr => absurd hr (Nat.not_lt_zero r)) hbit
  rw [← EL]
  simp (disch := omega) only [f_X12_teams, e0, ↓m_nobodyF hM hP0 h8 hq, ↓El, ↓Ea, f_X12_throwsIf, ↓MoV0 hM, ↓MoI0_70 hM, ↓MoP0_70 hM, ↓MoZ0_70 hM, ↓MoG0_71 hM, ↓MoG0_72 hM, ↓MoG0_73 hM, ↓MoG0_74 hM, ↓MoG0_75 hM, ↓MoI0_76 hM, ↓MoP0_76 hM, ↓MoZ0_76 hM, ↓MoI0_77 hM, ↓MoP0_77 hM, ↓MoZ0_77 hM, ↓MoG0_78 hM, ↓MoI0_79 hM, ↓MoP0_79 hM, ↓MoZ0_79 hM, ↓MoI0_80 hM, ↓MoP0_80 hM, ↓MoZ0_80 hM, ↓MoI0_81 hM, ↓MoP0_81 hM, ↓MoZ0_81 hM, ↓MoI0_82 hM, ↓MoP0_82 hM, ↓MoZ0_82 hM, ↓MoI0_83 hM, ↓MoP0_83 hM, ↓MoZ0_83 hM, ↓MoI0_84 hM, ↓MoP0_84 hM, ↓MoZ0_84 hM, ↓MoG0_85 hM, ↓MoI0_86 hM, ↓MoP0_86 hM, ↓MoZ0_86 hM, ↓MoG0_87 hM, ↓MoI0_88 hM, ↓MoP0_88 hM, ↓MoZ0_88 hM, ↓MoG0_89 hM, ↓MoG0_90 hM, ↓MoG0_91 hM, ↓MoG0_92 hM, ↓MoL0 hM, ↓MoS0 hM, ↓MoL1 hM, ↓MoS1 hM, ↓MoL2 hM, ↓MoS2 hM, ↓MoL3 hM, ↓MoS3 hM, ↓MoL4 hM, ↓MoS4 hM, ↓MoL5 hM, ↓MoS5 hM, ↓MoL6 hM, ↓MoS6 hM, ↓MoL7 hM, ↓MoS7 hM, ↓MoL8 hM, ↓MoS8 hM, ↓MoL9 hM, ↓MoS9 hM, ↓MoL10 hM, ↓MoS10 hM, ↓MoL11 hM, ↓MoS11 hM, ↓A_if, ↓A_jn, ↓A_lt, ↓A_rz, ↓A_rn, ↓A_nzi, ↓A_nzl, ↓A_nn1, ↓A_nn0, ↓reduceIte, true_and, and_true, if_true, if_false, ite_true, ite_false, reduceIte, tl_0, tl_1, tl_2, tl_3, tl_4, tl_5, tl_6, tl_7, tl_8, tl_9, tl_10, tl_11, tl_12, tl_13, tl_14, tl_15, tl_16, tl_17, tl_18, tl_19, tl_20, tl_21, tl_22, tl_23, tl_24, tl_25, tl_26, tl_27, tl_28, tl_29, tl_30, tl_31, tl_32, tl_33, tl_34, tl_35, tl_36, tl_37, tl_38, tl_39, tl_40, tl_41, tl_42, tl_43, tl_44, tl_45, tl_46, tl_47, tl_48, tl_49, tl_50, tl_51, tl_52, tl_53, tl_54, tl_57, tl_59, tl_60, tl_62, tl_63, tl_64, tl_97, tl_99, tl_100, tl_120, tl_122, tl_192, tl_193, tl_194, tl_195, tl_196, tl_255, tl_256, tl_299, tl_400, tl_401, tl_492, tl_493, tl_541, tl_849, tl_999, tl_1000, tl_1341, tl_1342, tl_1390, tl_2190, tl_5412, tl_5904, tl_9999, tl_12345, tl_32767, tl_65536, tl_1000000, tl_252645135, tl_858993459, tl_1103515245, tl_1431655765, nz_31, nz_c31, eq_self, or_true, true_or, or_false, false_or, Nat.add_zero, nz_lt, nz_le, nz_eq, nz_cl, nz_sub, nI_add, pk_mul, nt_lt, nf_lt, nf_eq, nz_mI, mI_eq, mI_eq', mI_lt, mI_gt, mI_add, ↓j_max, ↓j_min, Nat.sub_sub, Nat.reduceAdd, Nat.reduceSub, Nat.reduceLT, Nat.reduceEqDiff, Bool.false_eq_true]
theorem L24 (hI : tw_IV G a0 b L (sh, μ, la, n)) (hi : i + 6 ≤ L) (hj : ∀ M, tw_IV G a0 b L M → j () M) (k : Int32 → tw_Mem → Prop) : f_Lc24 a0 b (b + 168) (b + 181) (nI i) j k (sh, μ, la, n) := by
  obtain ⟨lw, kl, P, hS, W, H, HL, HR, HI, HT, hf⟩ := tw_IV_e hI
  have hS2 := hS
  obtain ⟨hX, hlw, hkl, ⟨hTa, hTx⟩, hTn, hTs, hTk, hMe, hMi, hMt, hTw, hPa, hSe, hMo, hOu, hSc, hL3, hab, hlwc, hklc, hlwn, hkln, hbn, hlk⟩ := hS2
  have h8 := W.2.1
  have hsc := fun (j : Nat) (hj : j < L) (μ : Nat → Nat → Int32) (la : Nat → Nat → Int64) (n : Nat) (k : Int32 → tw_Mem → Prop) => tw_scr (μ := μ) (la := la) (n := n) hSc hL3 hj k
  have hs0 := hsc (i + 1) (by omega)
  have hs1 := hsc (i + 2) (by omega)
  have hs2 := hsc (i + 3) (by omega)
  have hs3 := hsc (i + 4) (by omega)
  have hs4 := hsc (i + 5) (by omega)
  have hlG : ∀ (μ : Nat → Nat → Int32) (la : Nat → Nat → Int64) (n : Nat) (k : Nat → tw_Mem → Prop), tw_gr 66 b k (sh, μ, la, n) = k lw (sh, μ, la, n) := fun μ la n k => tw_lawref hX hlw k
  have hlV : ∀ (μ : Nat → Nat → Int32) (la : Nat → Nat → Int64) (n : Nat) (F : tw_Mem → Prop), tw_iv 0 lw F (sh, μ, la, n) = F (sh, μ, la, n) := fun μ la n F => by rw [A_iv, tw_is_T HL.1, true_and]
  obtain ⟨μ1, hpi, hpt, qm, hT1, h70, ha1, hj1⟩ := tw_thr0 (a0 := a0) (μ := μ) hMo hab
  have fin : ∀ {μ2 : Nat → Nat → Int32} {la2 : Nat → Nat → Int64} {n2 : Nat}, tw_qm b μ μ2 → n ≤ n2 → j () (sh, μ2, la2, n2) := fun q hn => hj _ (tw_IV_q hS W H HL HR HI HT hf tw_qc_r q hn)
  have finq : ∀ {μc μ2 : Nat → Nat → Int32} {la2 : Nat → Nat → Int64} {n2 : Nat}, tw_qc b lw μ μc → tw_qm b μc μ2 → n ≤ n2 → j () (sh, μ2, la2, n2) := fun qc q hn => hj _ (tw_IV_q hS W H HL HR HI HT hf qc q hn)
  generalize hT : μ (b + 169) = T at *
  have hPm : μ1 (b + 168 + 1) 0 = nI P := by rw [hT1]; exact W.1
  by_cases q0 : μ a0 (i + 1) = mI
  · obtain ⟨μ2, ⟨F2, g2⟩, E1⟩ := c_weigh (la := la) (n := n) hPa hTw hSe H W HL (by omega)
    have R2 : tw_RC sh μ2 (b + 3) T := Rc_same H (fun y h1 h2 => F2 y (by omega) (by omega) (by omega))
    obtain ⟨μc, ⟨F3, g36, g3, g4⟩, E2⟩ := c_putF (la := la) (n := n) (Wt := fun p o => tw_las T p o P) hSe R2 W.1 h8 (by omega) g2 (fun p o => (tw_las_s T p o P).1)
    have h256 := tw_p256 h8
    have hpp := Nat.two_pow_pos P
    have qc : tw_qc b lw μ μc := fun y h1 h2 h3 => (F3 y (by omega)).trans (F2 y (by omega) (by omega) h3)
    have eac : μc a0 = μ a0 := qc a0 (by omega) (by omega) (by omega)
    have eTc : μc (b + 169) = T := (qc (b + 169) (by omega) (by omega) (by omega)).trans hT
    obtain ⟨ν1, npi, npt, nm, nT1, n70, na1, nj1⟩ := tw_thr0 (a0 := a0) hMo hab (μ := μc)
    have eTn : ν1 (b + 168 + 1) = T := nT1.trans eTc
    have hPc : ν1 (b + 168 + 1) 0 = nI P := by rw [eTn]; exact W.1
    have Wn : tw_WF (ν1 (b + 168 + 1)) P := by rw [eTn]; exact W
    have Xn : tw_LX (ν1 (b + 168 + 1)) := by rw [eTn]; exact tw_La_X HL
    have E3 := fun k => c_mostIn (μ := μc) (la := la) (n := n) (z := 2 ^ P - 1) hSe (by omega) k
    rw [g3 _ (by omega)] at E3
    obtain ⟨ν2, mq, E4⟩ := m_teamsN (la := tw_upL la (b + 181) 0 (nI (tw_tb2 (fun p o => tw_las T p o P) P (2 ^ P) (2 ^ P - 1))).toInt64) (n := n) hMo (by rw [← eTn]; exact Xn) W eTn n70
    have e70 : ν2 (b + 168) 70 = nI 0 := (mq.2.2 70 (by omega)).trans n70
    have e0 : tw_up ν1 (b + 168) 70 (0 : Int32) = ν1 := by have h : (0 : Int32) = ν1 (b + 168) 70 := n70.symm; rw [tw_up_as, h, tw_u1_self, tw_ra_s]
    have E5 : ∀ (v : Int32) (la : Nat → Nat → Int64) (n : Nat) (k : Int32 → tw_Mem → Prop), f_X12_teams (b + 168) v k (sh, μc, la, n) = f_X12_teams (b + 168) v k (sh, ν1, la, n) := fun v la n k => by unfold f_X12_teams; rw [npi.2, npt, e0]
    simp (disch := omega) only [f_Lc24, f_L_teams, ↓CxV0 hX, ↓CxG0_56 hX, ↓CxG0_57 hX, ↓CxG0_58 hX, ↓CxG0_59 hX, ↓CxG0_60 hX, ↓CxG0_61 hX, ↓CxG0_62 hX, ↓CxG0_63 hX, ↓CxG0_64 hX, ↓CxG0_65 hX, ↓CxI0_68 hX, ↓CxP0_68 hX, ↓CxZ0_68 hX, ↓CxI0_69 hX, ↓CxP0_69 hX, ↓CxZ0_69 hX, ↓TnV0 hTn, ↓TnG0_39 hTn, ↓TnG0_40 hTn, ↓TnG0_41 hTn, ↓TnG0_42 hTn, ↓TnG0_43 hTn, ↓TnG0_44 hTn, ↓TnG0_45 hTn, ↓TnI0_46 hTn, ↓TnP0_46 hTn, ↓TnZ0_46 hTn, ↓TnI0_47 hTn, ↓TnP0_47 hTn, ↓TnZ0_47 hTn, ↓TnI0_48 hTn, ↓TnP0_48 hTn, ↓TnZ0_48 hTn, ↓TnI0_49 hTn, ↓TnP0_49 hTn, ↓TnZ0_49 hTn, ↓TnI0_50 hTn, ↓TnP0_50 hTn, ↓TnZ0_50 hTn, ↓TnI0_51 hTn, ↓TnP0_51 hTn, ↓TnZ0_51 hTn, ↓TnI0_52 hTn, ↓TnP0_52 hTn, ↓TnZ0_52 hTn, ↓TnV1 hTn, ↓TnG1_19 hTn, ↓TnI1_20 hTn, ↓TnP1_20 hTn, ↓TnZ1_20 hTn, ↓TnI1_21 hTn, ↓TnP1_21 hTn, ↓TnZ1_21 hTn, ↓TnL0 hTn, ↓TnS0 hTn, ↓TnL1 hTn, ↓TnS1 hTn, ↓TnL2 hTn, ↓TnS2 hTn, ↓TnL3 hTn, ↓TnS3 hTn, ↓TnL4 hTn, ↓TnS4 hTn, ↓TnL5 hTn, ↓TnS5 hTn, ↓TnL6 hTn, ↓TnS6 hTn, ↓hs0, ↓hs1, ↓hs2, ↓hs3, ↓hs4, ↓hpi.1, ↓hpi.2, ↓hlG, ↓hlV, ha1, ↓X_sl hOu, ↓X_ll hOu, tw_upLa, tw_cmp0, f_X12_thrown, f_X12_throwsIf, ↓A_th, ↓A_xc, tw_xE1, tw_xE2, tw_xE3, tw_xE4, tw_xE5, tw_xE6, ↓MoV0 hMo, ↓MoI0_70 hMo, ↓MoZ0_70 hMo, ↓MoG0_71 hMo, ↓MoG0_72 hMo, ↓MoG0_73 hMo, ↓MoG0_74 hMo, ↓MoG0_75 hMo, ↓MoI0_76 hMo, ↓MoP0_76 hMo, ↓MoZ0_76 hMo, ↓MoI0_77 hMo, ↓MoP0_77 hMo, ↓MoZ0_77 hMo, ↓MoG0_78 hMo, ↓MoI0_79 hMo, ↓MoP0_79 hMo, ↓MoZ0_79 hMo, ↓MoI0_80 hMo, ↓MoP0_80 hMo, ↓MoZ0_80 hMo, ↓MoI0_81 hMo, ↓MoP0_81 hMo, ↓MoZ0_81 hMo, ↓MoI0_82 hMo, ↓MoP0_82 hMo, ↓MoZ0_82 hMo, ↓MoI0_83 hMo, ↓MoP0_83 hMo, ↓MoZ0_83 hMo, ↓MoI0_84 hMo, ↓MoP0_84 hMo, ↓MoZ0_84 hMo, ↓MoG0_85 hMo, ↓MoI0_86 hMo, ↓MoP0_86 hMo, ↓MoZ0_86 hMo, ↓MoG0_87 hMo, ↓MoI0_88 hMo, ↓MoP0_88 hMo, ↓MoZ0_88 hMo, ↓MoG0_89 hMo, ↓MoG0_90 hMo, ↓MoG0_91 hMo, ↓MoG0_92 hMo, ↓MoL0 hMo, ↓MoS0 hMo, ↓MoL1 hMo, ↓MoS1 hMo, ↓MoL2 hMo, ↓MoS2 hMo, ↓MoL3 hMo, ↓MoS3 hMo, ↓MoL4 hMo, ↓MoS4 hMo, ↓MoL5 hMo, ↓MoS5 hMo, ↓MoL6 hMo, ↓MoS6 hMo, ↓MoL7 hMo, ↓MoS7 hMo, ↓MoL8 hMo, ↓MoS8 hMo, ↓MoL9 hMo, ↓MoS9 hMo, ↓MoL10 hMo, ↓MoS10 hMo, ↓MoL11 hMo, ↓MoS11 hMo, ↓hpt, tw_ua, tw_uk, h70, tw_up_ne, ↓A_if, ↓A_jn, ↓A_lt, ↓A_rz, ↓A_rn, ↓A_nzi, ↓A_nzl, ↓A_nn1, ↓A_nn0, ↓reduceIte, true_and, and_true, if_true, if_false, ite_true, ite_false, reduceIte, tl_0, tl_1, tl_2, tl_3, tl_4, tl_5, tl_6, tl_7, tl_8, tl_9, tl_10, tl_11, tl_12, tl_13, tl_14, tl_15, tl_16, tl_17, tl_18, tl_19, tl_20, tl_21, tl_22, tl_23, tl_24, tl_25, tl_26, tl_27, tl_28, tl_29, tl_30, tl_31, tl_32, tl_33, tl_34, tl_35, tl_36, tl_37, tl_38, tl_39, tl_40, tl_41, tl_42, tl_43, tl_44, tl_45, tl_46, tl_47, tl_48, tl_49, tl_50, tl_51, tl_52, tl_53, tl_54, tl_57, tl_59, tl_60, tl_62, tl_63, tl_64, tl_97, tl_99, tl_100, tl_120, tl_122, tl_192, tl_193, tl_194, tl_195, tl_196, tl_255, tl_256, tl_299, tl_400, tl_401, tl_492, tl_493, tl_541, tl_849, tl_999, tl_1000, tl_1341, tl_1342, tl_1390, tl_2190, tl_5412, tl_5904, tl_9999, tl_12345, tl_32767, tl_65536, tl_1000000, tl_252645135, tl_858993459, tl_1103515245, tl_1431655765, nz_31, nz_c31, eq_self, or_true, true_or, or_false, false_or, Nat.add_zero, nz_lt, nz_le, nz_eq, nz_cl, nz_sub, nI_add, pk_mul, nt_lt, nf_lt, nf_eq, nz_mI, mI_eq, mI_eq', mI_lt, mI_gt, mI_add, ↓j_max, ↓j_min, Nat.sub_sub, Nat.reduceAdd, Nat.reduceSub, Nat.reduceLT, Nat.reduceEqDiff, Bool.false_eq_true, f_X11_teams, f_X5_mostTogether, q0, eac, ↓E1, ↓E2, ↓c_all hSe g36 h8, ↓E3, ↓E5, ↓E4, e70, ↓PaV0 hPa, ↓PaG0_25 hPa, ↓PaG0_26 hPa, ↓PaG0_27 hPa, ↓PaG0_28 hPa, ↓PaI0_29 hPa, ↓PaP0_29 hPa, ↓PaZ0_29 hPa, ↓PaI0_30 hPa, ↓PaP0_30 hPa, ↓PaZ0_30 hPa, ↓PaI0_31 hPa, ↓PaP0_31 hPa, ↓PaZ0_31 hPa, ↓PaL0 hPa, ↓PaS0 hPa, ↓PaL1 hPa, ↓PaS1 hPa, ↓SeV0 hSe, ↓SeG0_32 hSe, ↓SeG0_33 hSe, ↓SeG0_34 hSe, ↓SeG0_35 hSe, ↓SeI0_36 hSe, ↓SeP0_36 hSe, ↓SeZ0_36 hSe, ↓SeL0 hSe, ↓SeS0 hSe, ↓SeL1 hSe, ↓SeS1 hSe, ↓SeL2 hSe, ↓SeS2 hSe, ↓SeL3 hSe, ↓SeS3 hSe]
    exact finq qc (tw_qm_t nm (tw_qm_q mq)) (Nat.le_refl _)
  · by_cases q1 : tw_va (μ a0 (i + 1)) P = true
    · obtain ⟨q, hq, eq⟩ := tw_va_n (by omega) q1
      rw [eq] at q1 q0
      obtain ⟨μ2, ⟨F2, g2⟩, E1⟩ := c_weigh (la := la) (n := n) hPa hTw hSe H W HL (by omega)
      have R2 : tw_RC sh μ2 (b + 3) T := Rc_same H (fun y h1 h2 => F2 y (by omega) (by omega) (by omega))
      obtain ⟨μc, ⟨F3, g36, g3, g4⟩, E2⟩ := c_putF (la := la) (n := n) (Wt := fun p o => tw_las T p o P) hSe R2 W.1 h8 (by omega) g2 (fun p o => (tw_las_s T p o P).1)
      have h256 := tw_p256 h8
      have hpp := Nat.two_pow_pos P
      have qc : tw_qc b lw μ μc := fun y h1 h2 h3 => (F3 y (by omega)).trans (F2 y (by omega) (by omega) h3)
      have eac : μc a0 = μ a0 := qc a0 (by omega) (by omega) (by omega)
      have eTc : μc (b + 169) = T := (qc (b + 169) (by omega) (by omega) (by omega)).trans hT
      obtain ⟨ν1, npi, npt, nm, nT1, n70, na1, nj1⟩ := tw_thr0 (a0 := a0) hMo hab (μ := μc)
      have eTn : ν1 (b + 168 + 1) = T := nT1.trans eTc
      have hPc : ν1 (b + 168 + 1) 0 = nI P := by rw [eTn]; exact W.1
      have Wn : tw_WF (ν1 (b + 168 + 1)) P := by rw [eTn]; exact W
      have Xn : tw_LX (ν1 (b + 168 + 1)) := by rw [eTn]; exact tw_La_X HL
      have g4q := g4 q hq
      obtain ⟨ν2, mq, E4⟩ := m_teamsF (la := tw_upL la (b + 181) 0 (tw_mtt (tw_tb2 (fun p o => tw_las T p o P) P (2 ^ P)) (fun p o => tw_las T p o P) P P 0 (2 ^ P - 1) q).toInt64) (n := n) hMo (by rw [← eTn]; exact Xn) W eTn n70 hq
      have e70 : ν2 (b + 168) 70 = nI 0 := (mq.2.2 70 (by omega)).trans n70
      have e0 : tw_up ν1 (b + 168) 70 (0 : Int32) = ν1 := by have h : (0 : Int32) = ν1 (b + 168) 70 := n70.symm; rw [tw_up_as, h, tw_u1_self, tw_ra_s]
      have E5 : ∀ (v : Int32) (la : Nat → Nat → Int64) (n : Nat) (k : Int32 → tw_Mem → Prop), f_X12_teams (b + 168) v k (sh, μc, la, n) = f_X12_teams (b + 168) v k (sh, ν1, la, n) := fun v la n k => by unfold f_X12_teams; rw [npi.2, npt, e0]
      simp (disch := omega) only [f_Lc24, f_L_teams, ↓CxV0 hX, ↓CxG0_56 hX, ↓CxG0_57 hX, ↓CxG0_58 hX, ↓CxG0_59 hX, ↓CxG0_60 hX, ↓CxG0_61 hX, ↓CxG0_62 hX, ↓CxG0_63 hX, ↓CxG0_64 hX, ↓CxG0_65 hX, ↓CxI0_68 hX, ↓CxP0_68 hX, ↓CxZ0_68 hX, ↓CxI0_69 hX, ↓CxP0_69 hX, ↓CxZ0_69 hX, ↓TnV0 hTn, ↓TnG0_39 hTn, ↓TnG0_40 hTn, ↓TnG0_41 hTn, ↓TnG0_42 hTn, ↓TnG0_43 hTn, ↓TnG0_44 hTn, ↓TnG0_45 hTn, ↓TnI0_46 hTn, ↓TnP0_46 hTn, ↓TnZ0_46 hTn, ↓TnI0_47 hTn, ↓TnP0_47 hTn, ↓TnZ0_47 hTn, ↓TnI0_48 hTn, ↓TnP0_48 hTn, ↓TnZ0_48 hTn, ↓TnI0_49 hTn, ↓TnP0_49 hTn, ↓TnZ0_49 hTn, ↓TnI0_50 hTn, ↓TnP0_50 hTn, ↓TnZ0_50 hTn, ↓TnI0_51 hTn, ↓TnP0_51 hTn, ↓TnZ0_51 hTn, ↓TnI0_52 hTn, ↓TnP0_52 hTn, ↓TnZ0_52 hTn, ↓TnV1 hTn, ↓TnG1_19 hTn, ↓TnI1_20 hTn, ↓TnP1_20 hTn, ↓TnZ1_20 hTn, ↓TnI1_21 hTn, ↓TnP1_21 hTn, ↓TnZ1_21 hTn, ↓TnL0 hTn, ↓TnS0 hTn, ↓TnL1 hTn, ↓TnS1 hTn, ↓TnL2 hTn, ↓TnS2 hTn, ↓TnL3 hTn, ↓TnS3 hTn, ↓TnL4 hTn, ↓TnS4 hTn, ↓TnL5 hTn, ↓TnS5 hTn, ↓TnL6 hTn, ↓TnS6 hTn, ↓hs0, ↓hs1, ↓hs2, ↓hs3, ↓hs4, ↓hpi.1, ↓hpi.2, ↓hlG, ↓hlV, ha1, ↓X_sl hOu, ↓X_ll hOu, tw_upLa, tw_cmp0, f_X12_thrown, f_X12_throwsIf, ↓A_th, ↓A_xc, tw_xE1, tw_xE2, tw_xE3, tw_xE4, tw_xE5, tw_xE6, ↓MoV0 hMo, ↓MoI0_70 hMo, ↓MoZ0_70 hMo, ↓MoG0_71 hMo, ↓MoG0_72 hMo, ↓MoG0_73 hMo, ↓MoG0_74 hMo, ↓MoG0_75 hMo, ↓MoI0_76 hMo, ↓MoP0_76 hMo, ↓MoZ0_76 hMo, ↓MoI0_77 hMo, ↓MoP0_77 hMo, ↓MoZ0_77 hMo, ↓MoG0_78 hMo, ↓MoI0_79 hMo, ↓MoP0_79 hMo, ↓MoZ0_79 hMo, ↓MoI0_80 hMo, ↓MoP0_80 hMo, ↓MoZ0_80 hMo, ↓MoI0_81 hMo, ↓MoP0_81 hMo, ↓MoZ0_81 hMo, ↓MoI0_82 hMo, ↓MoP0_82 hMo, ↓MoZ0_82 hMo, ↓MoI0_83 hMo, ↓MoP0_83 hMo, ↓MoZ0_83 hMo, ↓MoI0_84 hMo, ↓MoP0_84 hMo, ↓MoZ0_84 hMo, ↓MoG0_85 hMo, ↓MoI0_86 hMo, ↓MoP0_86 hMo, ↓MoZ0_86 hMo, ↓MoG0_87 hMo, ↓MoI0_88 hMo, ↓MoP0_88 hMo, ↓MoZ0_88 hMo, ↓MoG0_89 hMo, ↓MoG0_90 hMo, ↓MoG0_91 hMo, ↓MoG0_92 hMo, ↓MoL0 hMo, ↓MoS0 hMo, ↓MoL1 hMo, ↓MoS1 hMo, ↓MoL2 hMo, ↓MoS2 hMo, ↓MoL3 hMo, ↓MoS3 hMo, ↓MoL4 hMo, ↓MoS4 hMo, ↓MoL5 hMo, ↓MoS5 hMo, ↓MoL6 hMo, ↓MoS6 hMo, ↓MoL7 hMo, ↓MoS7 hMo, ↓MoL8 hMo, ↓MoS8 hMo, ↓MoL9 hMo, ↓MoS9 hMo, ↓MoL10 hMo, ↓MoS10 hMo, ↓MoL11 hMo, ↓MoS11 hMo, ↓hpt, tw_ua, tw_uk, h70, tw_up_ne, ↓A_if, ↓A_jn, ↓A_lt, ↓A_rz, ↓A_rn, ↓A_nzi, ↓A_nzl, ↓A_nn1, ↓A_nn0, ↓reduceIte, true_and, and_true, if_true, if_false, ite_true, ite_false, reduceIte, tl_0, tl_1, tl_2, tl_3, tl_4, tl_5, tl_6, tl_7, tl_8, tl_9, tl_10, tl_11, tl_12, tl_13, tl_14, tl_15, tl_16, tl_17, tl_18, tl_19, tl_20, tl_21, tl_22, tl_23, tl_24, tl_25, tl_26, tl_27, tl_28, tl_29, tl_30, tl_31, tl_32, tl_33, tl_34, tl_35, tl_36, tl_37, tl_38, tl_39, tl_40, tl_41, tl_42, tl_43, tl_44, tl_45, tl_46, tl_47, tl_48, tl_49, tl_50, tl_51, tl_52, tl_53, tl_54, tl_57, tl_59, tl_60, tl_62, tl_63, tl_64, tl_97, tl_99, tl_100, tl_120, tl_122, tl_192, tl_193, tl_194, tl_195, tl_196, tl_255, tl_256, tl_299, tl_400, tl_401, tl_492, tl_493, tl_541, tl_849, tl_999, tl_1000, tl_1341, tl_1342, tl_1390, tl_2190, tl_5412, tl_5904, tl_9999, tl_12345, tl_32767, tl_65536, tl_1000000, tl_252645135, tl_858993459, tl_1103515245, tl_1431655765, nz_31, nz_c31, eq_self, or_true, true_or, or_false, false_or, Nat.add_zero, nz_lt, nz_le, nz_eq, nz_cl, nz_sub, nI_add, pk_mul, nt_lt, nf_lt, nf_eq, nz_mI, mI_eq, mI_eq', mI_lt, mI_gt, mI_add, ↓j_max, ↓j_min, Nat.sub_sub, Nat.reduceAdd, Nat.reduceSub, Nat.reduceLT, Nat.reduceEqDiff, Bool.false_eq_true, f_X11_teams, f_X5_mateOf, ↓c_need hX H W.1 h8, q1, eq, eac, ↓E1, ↓E2, g4q, ↓E5, ↓E4, e70, ↓PaV0 hPa, ↓PaG0_25 hPa, ↓PaG0_26 hPa, ↓PaG0_27 hPa, ↓PaG0_28 hPa, ↓PaI0_29 hPa, ↓PaP0_29 hPa, ↓PaZ0_29 hPa, ↓PaI0_30 hPa, ↓PaP0_30 hPa, ↓PaZ0_30 hPa, ↓PaI0_31 hPa, ↓PaP0_31 hPa, ↓PaZ0_31 hPa, ↓PaL0 hPa, ↓PaS0 hPa, ↓PaL1 hPa, ↓PaS1 hPa, ↓SeV0 hSe, ↓SeG0_32 hSe, ↓SeG0_33 hSe, ↓SeG0_34 hSe, ↓SeG0_35 hSe, ↓SeI0_36 hSe, ↓SeP0_36 hSe, ↓SeZ0_36 hSe, ↓SeL0 hSe, ↓SeS0 hSe, ↓SeL1 hSe, ↓SeS1 hSe, ↓SeL2 hSe, ↓SeS2 hSe, ↓SeL3 hSe, ↓SeS3 hSe]
      exact finq qc (tw_qm_t nm (tw_qm_q mq)) (Nat.le_refl _)
    · simp (disch := omega) only [f_Lc24, f_L_teams, ↓CxV0 hX, ↓CxG0_56 hX, ↓CxG0_57 hX, ↓CxG0_58 hX, ↓CxG0_59 hX, ↓CxG0_60 hX, ↓CxG0_61 hX, ↓CxG0_62 hX, ↓CxG0_63 hX, ↓CxG0_64 hX, ↓CxG0_65 hX, ↓CxI0_68 hX, ↓CxP0_68 hX, ↓CxZ0_68 hX, ↓CxI0_69 hX, ↓CxP0_69 hX, ↓CxZ0_69 hX, ↓TnV0 hTn, ↓TnG0_39 hTn, ↓TnG0_40 hTn, ↓TnG0_41 hTn, ↓TnG0_42 hTn, ↓TnG0_43 hTn, ↓TnG0_44 hTn, ↓TnG0_45 hTn, ↓TnI0_46 hTn, ↓TnP0_46 hTn, ↓TnZ0_46 hTn, ↓TnI0_47 hTn, ↓TnP0_47 hTn, ↓TnZ0_47 hTn, ↓TnI0_48 hTn, ↓TnP0_48 hTn, ↓TnZ0_48 hTn, ↓TnI0_49 hTn, ↓TnP0_49 hTn, ↓TnZ0_49 hTn, ↓TnI0_50 hTn, ↓TnP0_50 hTn, ↓TnZ0_50 hTn, ↓TnI0_51 hTn, ↓TnP0_51 hTn, ↓TnZ0_51 hTn, ↓TnI0_52 hTn, ↓TnP0_52 hTn, ↓TnZ0_52 hTn, ↓TnV1 hTn, ↓TnG1_19 hTn, ↓TnI1_20 hTn, ↓TnP1_20 hTn, ↓TnZ1_20 hTn, ↓TnI1_21 hTn, ↓TnP1_21 hTn, ↓TnZ1_21 hTn, ↓TnL0 hTn, ↓TnS0 hTn, ↓TnL1 hTn, ↓TnS1 hTn, ↓TnL2 hTn, ↓TnS2 hTn, ↓TnL3 hTn, ↓TnS3 hTn, ↓TnL4 hTn, ↓TnS4 hTn, ↓TnL5 hTn, ↓TnS5 hTn, ↓TnL6 hTn, ↓TnS6 hTn, ↓hs0, ↓hs1, ↓hs2, ↓hs3, ↓hs4, ↓hpi.1, ↓hpi.2, ↓hlG, ↓hlV, ha1, ↓X_sl hOu, ↓X_ll hOu, tw_upLa, tw_cmp0, f_X12_thrown, f_X12_throwsIf, ↓A_th, ↓A_xc, tw_xE1, tw_xE2, tw_xE3, tw_xE4, tw_xE5, tw_xE6, ↓MoV0 hMo, ↓MoI0_70 hMo, ↓MoZ0_70 hMo, ↓MoG0_71 hMo, ↓MoG0_72 hMo, ↓MoG0_73 hMo, ↓MoG0_74 hMo, ↓MoG0_75 hMo, ↓MoI0_76 hMo, ↓MoP0_76 hMo, ↓MoZ0_76 hMo, ↓MoI0_77 hMo, ↓MoP0_77 hMo, ↓MoZ0_77 hMo, ↓MoG0_78 hMo, ↓MoI0_79 hMo, ↓MoP0_79 hMo, ↓MoZ0_79 hMo, ↓MoI0_80 hMo, ↓MoP0_80 hMo, ↓MoZ0_80 hMo, ↓MoI0_81 hMo, ↓MoP0_81 hMo, ↓MoZ0_81 hMo, ↓MoI0_82 hMo, ↓MoP0_82 hMo, ↓MoZ0_82 hMo, ↓MoI0_83 hMo, ↓MoP0_83 hMo, ↓MoZ0_83 hMo, ↓MoI0_84 hMo, ↓MoP0_84 hMo, ↓MoZ0_84 hMo, ↓MoG0_85 hMo, ↓MoI0_86 hMo, ↓MoP0_86 hMo, ↓MoZ0_86 hMo, ↓MoG0_87 hMo, ↓MoI0_88 hMo, ↓MoP0_88 hMo, ↓MoZ0_88 hMo, ↓MoG0_89 hMo, ↓MoG0_90 hMo, ↓MoG0_91 hMo, ↓MoG0_92 hMo, ↓MoL0 hMo, ↓MoS0 hMo, ↓MoL1 hMo, ↓MoS1 hMo, ↓MoL2 hMo, ↓MoS2 hMo, ↓MoL3 hMo, ↓MoS3 hMo, ↓MoL4 hMo, ↓MoS4 hMo, ↓MoL5 hMo, ↓MoS5 hMo, ↓MoL6 hMo, ↓MoS6 hMo, ↓MoL7 hMo, ↓MoS7 hMo, ↓MoL8 hMo, ↓MoS8 hMo, ↓MoL9 hMo, ↓MoS9 hMo, ↓MoL10 hMo, ↓MoS10 hMo, ↓MoL11 hMo, ↓MoS11 hMo, ↓hpt, tw_ua, tw_uk, h70, tw_up_ne, ↓A_if, ↓A_jn, ↓A_lt, ↓A_rz, ↓A_rn, ↓A_nzi, ↓A_nzl, ↓A_nn1, ↓A_nn0, ↓reduceIte, true_and, and_true, if_true, if_false, ite_true, ite_false, reduceIte, tl_0, tl_1, tl_2, tl_3, tl_4, tl_5, tl_6, tl_7, tl_8, tl_9, tl_10, tl_11, tl_12, tl_13, tl_14, tl_15, tl_16, tl_17, tl_18, tl_19, tl_20, tl_21, tl_22, tl_23, tl_24, tl_25, tl_26, tl_27, tl_28, tl_29, tl_30, tl_31, tl_32, tl_33, tl_34, tl_35, tl_36, tl_37, tl_38, tl_39, tl_40, tl_41, tl_42, tl_43, tl_44, tl_45, tl_46, tl_47, tl_48, tl_49, tl_50, tl_51, tl_52, tl_53, tl_54, tl_57, tl_59, tl_60, tl_62, tl_63, tl_64, tl_97, tl_99, tl_100, tl_120, tl_122, tl_192, tl_193, tl_194, tl_195, tl_196, tl_255, tl_256, tl_299, tl_400, tl_401, tl_492, tl_493, tl_541, tl_849, tl_999, tl_1000, tl_1341, tl_1342, tl_1390, tl_2190, tl_5412, tl_5904, tl_9999, tl_12345, tl_32767, tl_65536, tl_1000000, tl_252645135, tl_858993459, tl_1103515245, tl_1431655765, nz_31, nz_c31, eq_self, or_true, true_or, or_false, false_or, Nat.add_zero, nz_lt, nz_le, nz_eq, nz_cl, nz_sub, nI_add, pk_mul, nt_lt, nf_lt, nf_eq, nz_mI, mI_eq, mI_eq', mI_lt, mI_gt, mI_add, ↓j_max, ↓j_min, Nat.sub_sub, Nat.reduceAdd, Nat.reduceSub, Nat.reduceLT, Nat.reduceEqDiff, Bool.false_eq_true, f_X11_teams, f_X12_teams, ↓c_need hX H W.1 h8, ↓m_nob hMo hPm h8, q0, q1]
      (first | exact fin qm (Nat.le_refl _) | exact fin tw_qm_70 (Nat.le_refl _) | exact fin (tw_qm_t qm tw_qm_70) (Nat.le_refl _) | (intro n2 hn2; first | exact fin qm hn2 | exact fin (tw_qm_t qm tw_qm_70) hn2))
end P95
