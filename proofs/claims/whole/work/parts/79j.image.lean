/-! ===== pure: the law's steps, the image ===== -/
theorem tw_upR_ne {sh : tw_Sh} {a k x : Nat} {v : Option Nat} (h : x ≠ a) : tw_upR sh a k v x = sh x := if_neg h
theorem tw_rr_upn {sh : tw_Sh} {a k q : Nat} {v : Option Nat} (h : q ≠ k) : tw_rr (tw_upR sh a k v) a q = tw_rr sh a q := by
  unfold tw_rr tw_upR
  rw [if_pos rfl]
  cases sh a with
  | none => rfl
  | some x => exact if_neg h
theorem tw_rr_ups {sh : tw_Sh} {a k t : Nat} {v : Option Nat} (h : tw_is sh a t) : tw_rr (tw_upR sh a k v) a k = v := by
  obtain ⟨n, r, hr⟩ := h
  unfold tw_rr tw_upR
  rw [if_pos rfl, hr]
  exact if_pos rfl
theorem tw_is_up {sh : tw_Sh} {a k t : Nat} {v : Option Nat} (h : tw_is sh a t) : tw_is (tw_upR sh a k v) a t := by
  obtain ⟨n, r, hr⟩ := h
  refine ⟨n, fun j => if j = k then v else r j, ?_⟩
  unfold tw_upR
  rw [if_pos rfl, hr]
  rfl
theorem tw_Cx_up {sh : tw_Sh} {b k : Nat} {v : Option Nat} (hX : tw_Cx sh b) (hk : 66 ≤ k) : tw_Cx (tw_upR sh b k v) b := by
  obtain ⟨h1, h2, h3, h4, h5, h6, h7, h8, h9, h10, h11⟩ := hX
  exact ⟨tw_is_up h1, (tw_rr_upn (by omega)).trans h2, (tw_rr_upn (by omega)).trans h3, (tw_rr_upn (by omega)).trans h4, (tw_rr_upn (by omega)).trans h5, (tw_rr_upn (by omega)).trans h6, (tw_rr_upn (by omega)).trans h7, (tw_rr_upn (by omega)).trans h8, (tw_rr_upn (by omega)).trans h9, (tw_rr_upn (by omega)).trans h10, (tw_rr_upn (by omega)).trans h11⟩
theorem tw_Town_sh {sh sh' : tw_Sh} {a : Nat} (h : tw_Town sh a) (E : ∀ x, a ≤ x → x < a + 9 → sh' x = sh x) : tw_Town sh' a := by
  unfold tw_Town tw_is tw_ar tw_rr at h ⊢
  simp (disch := omega) only [E]
  exact h
theorem tw_RC_sh {sh sh' : tw_Sh} {μ : Nat → Nat → Int32} {a : Nat} {T : Nat → Int32} (h : tw_RC sh μ a T) (E : ∀ x, a ≤ x → x < a + 9 → sh' x = sh x) : tw_RC sh' μ a T := ⟨tw_Town_sh h.1 E, h.2⟩
theorem tw_La_sh {sh sh' : tw_Sh} {μ : Nat → Nat → Int32} {lw : Nat} {T : Nat → Int32} (h : tw_La sh μ lw T) (E : ∀ x, lw ≤ x → x < lw + 6 → sh' x = sh x) : tw_La sh' μ lw T := by
  obtain ⟨h1, h2⟩ := h
  refine ⟨?_, ?_⟩
  · unfold tw_is at h1 ⊢
    simp (disch := omega) only [E]
    exact h1
  · rcases h2 with h2 | ⟨z, h3, h4, h5, h6⟩
    · exact Or.inl h2
    · refine Or.inr ⟨z, h3, ?_, ?_, h6⟩
      · unfold tw_Lo tw_is tw_ar tw_rr at h4 ⊢
        simp (disch := omega) only [E]
        exact h4
      · unfold tw_ar at h5 ⊢
        simp (disch := omega) only [E]
        exact h5
theorem tw_RM_sh {sh sh' : tw_Sh} {μ : Nat → Nat → Int32} {b : Nat} (h : tw_RM sh μ b) (E : ∀ x, b + 30 ≤ x → x < b + 140 → sh' x = sh x) : tw_RM sh' μ b := by
  obtain ⟨r, x, A, ⟨hr, hx, e1, e2, e4⟩, h2, h3⟩ := h
  exact ⟨r, x, A, ⟨hr, hx, e1, e2, fun k hk => tw_RC_sh (e4 k hk) (fun y a1 a2 => E y (by omega) (by omega))⟩, h2, h3⟩
theorem tw_IM_sh {sh sh' : tw_Sh} {μ : Nat → Nat → Int32} {b kl : Nat} (h : tw_IM sh μ b kl) (E : ∀ x, b + 21 ≤ x → x < b + 30 → sh' x = sh x) (E2 : ∀ x, kl ≤ x → x < kl + 6 → sh' x = sh x) : tw_IM sh' μ b kl := by
  rcases h with h | ⟨h1, h2, P, h3, h4, h5⟩
  · exact Or.inl h
  · exact Or.inr ⟨h1, h2, P, h3, tw_RC_sh h4 (fun y a1 a2 => E y (by omega) (by omega)), tw_La_sh h5 E2⟩
theorem tw_SH_sh {sh sh' : tw_Sh} {a0 b lw kl lw' kl' L n : Nat} (hS : tw_SH sh a0 b lw kl L n) (E : ∀ x, x ≠ b → x < n → sh' x = sh x) (hX : tw_Cx sh' b) (h66 : tw_rr sh' b 66 = some lw') (h67 : tw_rr sh' b 67 = some kl') (n' : Nat) (hn : n ≤ n') (hl : lw' = b + 162 ∨ b + 182 ≤ lw') (hk : kl' = b + 162 ∨ b + 182 ≤ kl') (hl2 : lw' + 6 ≤ n') (hk2 : kl' + 6 ≤ n') (hlk : lw' = kl' ∨ lw' + 6 ≤ kl' ∨ kl' + 6 ≤ lw') : tw_SH sh' a0 b lw' kl' L n' := by
  obtain ⟨h1, h2, h3, ⟨h4, h4x⟩, h5, h6, h7, h8, h9, h10, h11, h12, h13, h14, h15, h16, h17, h18, h19, h20, h21, h22, h23, h24⟩ := hS
  refine ⟨hX, h66, h67, ⟨?_, ?_⟩, ?_, ?_, ?_, ?_, fun i hi => ?_, fun i hi => ?_, ?_, ?_, ?_, ?_, ?_, ?_, h17, h18, hl, hk, hl2, hk2, by omega, hlk⟩
  · unfold tw_Ta tw_is tw_ar tw_rr at h4 ⊢; simp (disch := omega) only [E]; exact h4
  · unfold tw_Tx tw_is tw_ar tw_rr at h4x ⊢; simp (disch := omega) only [E]; exact h4x
  · exact tw_Town_sh h5 (fun x a1 a2 => E x (by omega) (by omega))
  · exact tw_Town_sh h6 (fun x a1 a2 => E x (by omega) (by omega))
  · exact tw_Town_sh h7 (fun x a1 a2 => E x (by omega) (by omega))
  · unfold tw_Me tw_is tw_rr at h8 ⊢; simp (disch := omega) only [E]; exact h8
  · have := h9 i hi
    unfold tw_ai tw_rr at this ⊢; simp (disch := omega) only [E]; exact this
  · exact tw_Town_sh (h10 i hi) (fun x a1 a2 => E x (by omega) (by omega))
  · unfold tw_Tw tw_is tw_ar tw_rr at h11 ⊢; simp (disch := omega) only [E]; exact h11
  · unfold tw_Pa tw_is tw_ar tw_rr at h12 ⊢; simp (disch := omega) only [E]; exact h12
  · unfold tw_Se tw_is tw_ar tw_rr at h13 ⊢; simp (disch := omega) only [E]; exact h13
  · unfold tw_Mo tw_is tw_ar tw_rr at h14 ⊢; simp (disch := omega) only [E]; exact h14
  · unfold tw_ar at h15 ⊢; simp (disch := omega) only [E]; exact h15
  · simp (disch := omega) only [E]; exact h16
/-- the law's text as far as the world goes -/
theorem tw_LT_ext {T T' : Nat → Int32} {z : Nat} (H : tw_LT T z) (h2 : T' 2 = T 2) (h : ∀ j, 492 ≤ j → j < 1341 → T' j = T j) : tw_LT T' z := by
  obtain ⟨a, b, ⟨N, c, d, e⟩, f⟩ := H
  have hC : ∀ q, q < 400 → tw_tC T q = tw_tC T' q := fun q hq => by unfold tw_tC; rw [h _ (by omega) (by omega), h _ (by omega) (by omega)]
  refine ⟨h2.trans a, b, ⟨N, c, (h 492 (by omega) (by omega)).trans d, fun i hi => ?_⟩, fun q hq => ?_⟩
  · rw [h _ (by omega) (by omega), h _ (by omega) (by omega), h _ (by omega) (by omega), h _ (by omega) (by omega)]
    obtain ⟨e1, e2, f, l, e3, e4, e5, e6, e7, e8⟩ := e i hi
    refine ⟨e1, e2, f, l, e3, e4, e5, e6, fun j hj => by rw [h _ (by omega) (by omega)]; exact e7 j hj, ?_⟩
    rcases e8 with g | g
    · exact Or.inl g
    · exact Or.inr (tw_sA_congr (fun q _ _ => hC q (by omega)) g)
  · rw [h _ (by omega) (by omega), h _ (by omega) (by omega)]
    exact f q hq
theorem tw_La_ext {sh : tw_Sh} {μ μ' : Nat → Nat → Int32} {lw : Nat} {T T' : Nat → Int32} (H : tw_La sh μ lw T) (hm : ∀ x, x = lw ∨ (lw + 2 ≤ x ∧ x ≤ lw + 5) → μ' x = μ x) (h2 : T' 2 = T 2) (h : ∀ j, 492 ≤ j → j < 1341 → T' j = T j) : tw_La sh μ' lw T' := by
  obtain ⟨hs, H⟩ := H
  refine ⟨hs, ?_⟩
  rcases H with ⟨h3, h4⟩ | ⟨z, h3, ⟨c1, c2, c3, c4, c5⟩⟩
  · exact Or.inl ⟨h2.trans h3, by rw [hm lw (Or.inl rfl)]; exact h4⟩
  · have hz := h3.2.1
    refine Or.inr ⟨z, tw_LT_ext h3 h2 h, c1, c2, ?_, fun N i hN1 hN hi => ?_, fun q hq => ?_⟩
    · rw [hm lw (Or.inl rfl), h _ (by omega) (by omega)]; exact c3
    · rw [h _ (by omega) (by omega)] at hN
      rw [hm _ (by omega), hm _ (by omega), hm _ (by omega), h _ (by omega) (by omega), h _ (by omega) (by omega), h _ (by omega) (by omega)]
      exact c4 N i hN1 hN hi
    · rw [hm _ (by omega)]
      have e : tw_tC T' q = tw_tC T q := by unfold tw_tC; rw [h _ (by omega) (by omega), h _ (by omega) (by omega)]
      rw [e]
      exact c5 q hq
section P79j
variable {sh : tw_Sh} {μ ν ν2 : Nat → Nat → Int32} {la : Nat → Nat → Int64} {n a b w m lw P N L a0 : Nat} {p o l h i z c x y f q kd t r s : Nat} {T T' : Nat → Int32} {v u rg tn : Int32} {j : Unit → tw_Mem → Prop} {G : tw_Gm}
theorem m_imageF (hM : tw_Mo sh m) (la : Nat → Nat → Int64) (n : Nat) (k : Unit → tw_Mem → Prop) : f_X12_image m k (sh, μ, la, n) = k () (sh, tw_up (tw_ra (tw_up μ m 70 (nI 0)) (m + 2) (tw_kk (μ (m + 2)) (μ (m + 1)) 1341)) m 76 (nI 1), la, n) := by
  have e1 : tw_up μ m 70 (nI 0) (m + 1) = μ (m + 1) := tw_up_ne (by omega)
  have e2 : tw_up μ m 70 (nI 0) (m + 2) = μ (m + 2) := tw_up_ne (by omega)
  simp (disch := omega) only [f_X12_image, ↓MoV0 hM, ↓MoI0_70 hM, ↓MoP0_70 hM, ↓MoZ0_70 hM, ↓MoG0_71 hM, ↓MoG0_72 hM, ↓MoG0_73 hM, ↓MoG0_74 hM, ↓MoG0_75 hM, ↓MoI0_76 hM, ↓MoP0_76 hM, ↓MoZ0_76 hM, ↓MoI0_77 hM, ↓MoP0_77 hM, ↓MoZ0_77 hM, ↓MoG0_78 hM, ↓MoI0_79 hM, ↓MoP0_79 hM, ↓MoZ0_79 hM, ↓MoI0_80 hM, ↓MoP0_80 hM, ↓MoZ0_80 hM, ↓MoI0_81 hM, ↓MoP0_81 hM, ↓MoZ0_81 hM, ↓MoI0_82 hM, ↓MoP0_82 hM, ↓MoZ0_82 hM, ↓MoI0_83 hM, ↓MoP0_83 hM, ↓MoZ0_83 hM, ↓MoI0_84 hM, ↓MoP0_84 hM, ↓MoZ0_84 hM, ↓MoG0_85 hM, ↓MoI0_86 hM, ↓MoP0_86 hM, ↓MoZ0_86 hM, ↓MoG0_87 hM, ↓MoI0_88 hM, ↓MoP0_88 hM, ↓MoZ0_88 hM, ↓MoG0_89 hM, ↓MoG0_90 hM, ↓MoG0_91 hM, ↓MoG0_92 hM, ↓MoL0 hM, ↓MoS0 hM, ↓MoL1 hM, ↓MoS1 hM, ↓MoL2 hM, ↓MoS2 hM, ↓MoL3 hM, ↓MoS3 hM, ↓MoL4 hM, ↓MoS4 hM, ↓MoL5 hM, ↓MoS5 hM, ↓MoL6 hM, ↓MoS6 hM, ↓MoL7 hM, ↓MoS7 hM, ↓MoL8 hM, ↓MoS8 hM, ↓MoL9 hM, ↓MoS9 hM, ↓MoL10 hM, ↓MoS10 hM, ↓MoL11 hM, ↓MoS11 hM, ↓A_if, ↓A_jn, ↓A_lt, ↓A_rz, ↓A_rn, ↓A_nzi, ↓A_nzl, ↓A_nn1, ↓A_nn0, ↓reduceIte, true_and, and_true, if_true, if_false, ite_true, ite_false, reduceIte, tl_0, tl_1, tl_2, tl_3, tl_4, tl_5, tl_6, tl_7, tl_8, tl_9, tl_10, tl_11, tl_12, tl_13, tl_14, tl_15, tl_16, tl_17, tl_18, tl_19, tl_20, tl_21, tl_22, tl_23, tl_24, tl_25, tl_26, tl_27, tl_28, tl_29, tl_30, tl_31, tl_32, tl_33, tl_34, tl_35, tl_36, tl_37, tl_38, tl_39, tl_40, tl_41, tl_42, tl_43, tl_44, tl_45, tl_46, tl_47, tl_48, tl_49, tl_50, tl_51, tl_52, tl_53, tl_54, tl_57, tl_59, tl_60, tl_62, tl_63, tl_64, tl_97, tl_99, tl_100, tl_120, tl_122, tl_192, tl_193, tl_194, tl_195, tl_196, tl_255, tl_256, tl_299, tl_400, tl_401, tl_492, tl_493, tl_541, tl_849, tl_999, tl_1000, tl_1341, tl_1342, tl_1390, tl_2190, tl_5412, tl_5904, tl_9999, tl_12345, tl_32767, tl_65536, tl_1000000, tl_252645135, tl_858993459, tl_1103515245, tl_1431655765, nz_31, nz_c31, eq_self, or_true, true_or, or_false, false_or, Nat.add_zero, nz_lt, nz_le, nz_eq, nz_cl, nz_sub, nI_add, pk_mul, nt_lt, nf_lt, nf_eq, nz_mI, mI_eq, mI_eq', mI_lt, mI_gt, mI_add, ↓j_max, ↓j_min, Nat.sub_sub, Nat.reduceAdd, Nat.reduceSub, Nat.reduceLT, Nat.reduceEqDiff, Bool.false_eq_true]
  rw [← e1, ← e2]
  generalize tw_up μ m 70 (nI 0) = ν1 at *
  refine tw_lp_for 1341 (fun i => nI i) (fun i => (sh, tw_ra ν1 (m + 2) (tw_kk (ν1 (m + 2)) (ν1 (m + 1)) i), la, n)) rfl ?_ ?_ ?_
  · show (sh, tw_ra ν1 (m + 2) (tw_kk (ν1 (m + 2)) (ν1 (m + 1)) 0), la, n) = _
    rw [tw_kk_0, tw_ra_s]
  · intro i hi rec
    have ek := tw_kk_s (ν1 (m + 2)) (ν1 (m + 1)) i
    simp (disch := omega) only [tw_ra_nj, tw_up_ra, ek, ↓MoV0 hM, ↓MoI0_70 hM, ↓MoP0_70 hM, ↓MoZ0_70 hM, ↓MoG0_71 hM, ↓MoG0_72 hM, ↓MoG0_73 hM, ↓MoG0_74 hM, ↓MoG0_75 hM, ↓MoI0_76 hM, ↓MoP0_76 hM, ↓MoZ0_76 hM, ↓MoI0_77 hM, ↓MoP0_77 hM, ↓MoZ0_77 hM, ↓MoG0_78 hM, ↓MoI0_79 hM, ↓MoP0_79 hM, ↓MoZ0_79 hM, ↓MoI0_80 hM, ↓MoP0_80 hM, ↓MoZ0_80 hM, ↓MoI0_81 hM, ↓MoP0_81 hM, ↓MoZ0_81 hM, ↓MoI0_82 hM, ↓MoP0_82 hM, ↓MoZ0_82 hM, ↓MoI0_83 hM, ↓MoP0_83 hM, ↓MoZ0_83 hM, ↓MoI0_84 hM, ↓MoP0_84 hM, ↓MoZ0_84 hM, ↓MoG0_85 hM, ↓MoI0_86 hM, ↓MoP0_86 hM, ↓MoZ0_86 hM, ↓MoG0_87 hM, ↓MoI0_88 hM, ↓MoP0_88 hM, ↓MoZ0_88 hM, ↓MoG0_89 hM, ↓MoG0_90 hM, ↓MoG0_91 hM, ↓MoG0_92 hM, ↓MoL0 hM, ↓MoS0 hM, ↓MoL1 hM, ↓MoS1 hM, ↓MoL2 hM, ↓MoS2 hM, ↓MoL3 hM, ↓MoS3 hM, ↓MoL4 hM, ↓MoS4 hM, ↓MoL5 hM, ↓MoS5 hM, ↓MoL6 hM, ↓MoS6 hM, ↓MoL7 hM, ↓MoS7 hM, ↓MoL8 hM, ↓MoS8 hM, ↓MoL9 hM, ↓MoS9 hM, ↓MoL10 hM, ↓MoS10 hM, ↓MoL11 hM, ↓MoS11 hM, ↓A_if, ↓A_jn, ↓A_lt, ↓A_rz, ↓A_rn, ↓A_nzi, ↓A_nzl, ↓A_nn1, ↓A_nn0, ↓reduceIte, true_and, and_true, if_true, if_false, ite_true, ite_false, reduceIte, tl_0, tl_1, tl_2, tl_3, tl_4, tl_5, tl_6, tl_7, tl_8, tl_9, tl_10, tl_11, tl_12, tl_13, tl_14, tl_15, tl_16, tl_17, tl_18, tl_19, tl_20, tl_21, tl_22, tl_23, tl_24, tl_25, tl_26, tl_27, tl_28, tl_29, tl_30, tl_31, tl_32, tl_33, tl_34, tl_35, tl_36, tl_37, tl_38, tl_39, tl_40, tl_41, tl_42, tl_43, tl_44, tl_45, tl_46, tl_47, tl_48, tl_49, tl_50, tl_51, tl_52, tl_53, tl_54, tl_57, tl_59, tl_60, tl_62, tl_63, tl_64, tl_97, tl_99, tl_100, tl_120, tl_122, tl_192, tl_193, tl_194, tl_195, tl_196, tl_255, tl_256, tl_299, tl_400, tl_401, tl_492, tl_493, tl_541, tl_849, tl_999, tl_1000, tl_1341, tl_1342, tl_1390, tl_2190, tl_5412, tl_5904, tl_9999, tl_12345, tl_32767, tl_65536, tl_1000000, tl_252645135, tl_858993459, tl_1103515245, tl_1431655765, nz_31, nz_c31, eq_self, or_true, true_or, or_false, false_or, Nat.add_zero, nz_lt, nz_le, nz_eq, nz_cl, nz_sub, nI_add, pk_mul, nt_lt, nf_lt, nf_eq, nz_mI, mI_eq, mI_eq', mI_lt, mI_gt, mI_add, ↓j_max, ↓j_min, Nat.sub_sub, Nat.reduceAdd, Nat.reduceSub, Nat.reduceLT, Nat.reduceEqDiff, Bool.false_eq_true]
  · intro rec
    simp (disch := omega) only [↓MoV0 hM, ↓MoI0_70 hM, ↓MoP0_70 hM, ↓MoZ0_70 hM, ↓MoG0_71 hM, ↓MoG0_72 hM, ↓MoG0_73 hM, ↓MoG0_74 hM, ↓MoG0_75 hM, ↓MoI0_76 hM, ↓MoP0_76 hM, ↓MoZ0_76 hM, ↓MoI0_77 hM, ↓MoP0_77 hM, ↓MoZ0_77 hM, ↓MoG0_78 hM, ↓MoI0_79 hM, ↓MoP0_79 hM, ↓MoZ0_79 hM, ↓MoI0_80 hM, ↓MoP0_80 hM, ↓MoZ0_80 hM, ↓MoI0_81 hM, ↓MoP0_81 hM, ↓MoZ0_81 hM, ↓MoI0_82 hM, ↓MoP0_82 hM, ↓MoZ0_82 hM, ↓MoI0_83 hM, ↓MoP0_83 hM, ↓MoZ0_83 hM, ↓MoI0_84 hM, ↓MoP0_84 hM, ↓MoZ0_84 hM, ↓MoG0_85 hM, ↓MoI0_86 hM, ↓MoP0_86 hM, ↓MoZ0_86 hM, ↓MoG0_87 hM, ↓MoI0_88 hM, ↓MoP0_88 hM, ↓MoZ0_88 hM, ↓MoG0_89 hM, ↓MoG0_90 hM, ↓MoG0_91 hM, ↓MoG0_92 hM, ↓MoL0 hM, ↓MoS0 hM, ↓MoL1 hM, ↓MoS1 hM, ↓MoL2 hM, ↓MoS2 hM, ↓MoL3 hM, ↓MoS3 hM, ↓MoL4 hM, ↓MoS4 hM, ↓MoL5 hM, ↓MoS5 hM, ↓MoL6 hM, ↓MoS6 hM, ↓MoL7 hM, ↓MoS7 hM, ↓MoL8 hM, ↓MoS8 hM, ↓MoL9 hM, ↓MoS9 hM, ↓MoL10 hM, ↓MoS10 hM, ↓MoL11 hM, ↓MoS11 hM, ↓A_if, ↓A_jn, ↓A_lt, ↓A_rz, ↓A_rn, ↓A_nzi, ↓A_nzl, ↓A_nn1, ↓A_nn0, ↓reduceIte, true_and, and_true, if_true, if_false, ite_true, ite_false, reduceIte, tl_0, tl_1, tl_2, tl_3, tl_4, tl_5, tl_6, tl_7, tl_8, tl_9, tl_10, tl_11, tl_12, tl_13, tl_14, tl_15, tl_16, tl_17, tl_18, tl_19, tl_20, tl_21, tl_22, tl_23, tl_24, tl_25, tl_26, tl_27, tl_28, tl_29, tl_30, tl_31, tl_32, tl_33, tl_34, tl_35, tl_36, tl_37, tl_38, tl_39, tl_40, tl_41, tl_42, tl_43, tl_44, tl_45, tl_46, tl_47, tl_48, tl_49, tl_50, tl_51, tl_52, tl_53, tl_54, tl_57, tl_59, tl_60, tl_62, tl_63, tl_64, tl_97, tl_99, tl_100, tl_120, tl_122, tl_192, tl_193, tl_194, tl_195, tl_196, tl_255, tl_256, tl_299, tl_400, tl_401, tl_492, tl_493, tl_541, tl_849, tl_999, tl_1000, tl_1341, tl_1342, tl_1390, tl_2190, tl_5412, tl_5904, tl_9999, tl_12345, tl_32767, tl_65536, tl_1000000, tl_252645135, tl_858993459, tl_1103515245, tl_1431655765, nz_31, nz_c31, eq_self, or_true, true_or, or_false, false_or, Nat.add_zero, nz_lt, nz_le, nz_eq, nz_cl, nz_sub, nI_add, pk_mul, nt_lt, nf_lt, nf_eq, nz_mI, mI_eq, mI_eq', mI_lt, mI_gt, mI_add, ↓j_max, ↓j_min, Nat.sub_sub, Nat.reduceAdd, Nat.reduceSub, Nat.reduceLT, Nat.reduceEqDiff, Bool.false_eq_true]
theorem m_backF (hM : tw_Mo sh m) (h76 : μ m 76 = nI 1) (la : Nat → Nat → Int64) (n : Nat) (k : Int32 → tw_Mem → Prop) : f_X12_back m k (sh, μ, la, n) = k 1 (sh, tw_up (tw_ra (tw_up μ m 70 (nI 0)) (m + 1) (tw_kk (μ (m + 1)) (μ (m + 2)) 1341)) m 77 (nI 0), la, n) := by
  have e1 : tw_up μ m 70 (nI 0) (m + 1) = μ (m + 1) := tw_up_ne (by omega)
  have e2 : tw_up μ m 70 (nI 0) (m + 2) = μ (m + 2) := tw_up_ne (by omega)
  have e3 : tw_up μ m 70 (nI 0) m 76 = nI 1 := (tw_uk (by omega)).trans h76
  simp (disch := omega) only [f_X12_back, e3, ↓MoV0 hM, ↓MoI0_70 hM, ↓MoP0_70 hM, ↓MoZ0_70 hM, ↓MoG0_71 hM, ↓MoG0_72 hM, ↓MoG0_73 hM, ↓MoG0_74 hM, ↓MoG0_75 hM, ↓MoI0_76 hM, ↓MoP0_76 hM, ↓MoZ0_76 hM, ↓MoI0_77 hM, ↓MoP0_77 hM, ↓MoZ0_77 hM, ↓MoG0_78 hM, ↓MoI0_79 hM, ↓MoP0_79 hM, ↓MoZ0_79 hM, ↓MoI0_80 hM, ↓MoP0_80 hM, ↓MoZ0_80 hM, ↓MoI0_81 hM, ↓MoP0_81 hM, ↓MoZ0_81 hM, ↓MoI0_82 hM, ↓MoP0_82 hM, ↓MoZ0_82 hM, ↓MoI0_83 hM, ↓MoP0_83 hM, ↓MoZ0_83 hM, ↓MoI0_84 hM, ↓MoP0_84 hM, ↓MoZ0_84 hM, ↓MoG0_85 hM, ↓MoI0_86 hM, ↓MoP0_86 hM, ↓MoZ0_86 hM, ↓MoG0_87 hM, ↓MoI0_88 hM, ↓MoP0_88 hM, ↓MoZ0_88 hM, ↓MoG0_89 hM, ↓MoG0_90 hM, ↓MoG0_91 hM, ↓MoG0_92 hM, ↓MoL0 hM, ↓MoS0 hM, ↓MoL1 hM, ↓MoS1 hM, ↓MoL2 hM, ↓MoS2 hM, ↓MoL3 hM, ↓MoS3 hM, ↓MoL4 hM, ↓MoS4 hM, ↓MoL5 hM, ↓MoS5 hM, ↓MoL6 hM, ↓MoS6 hM, ↓MoL7 hM, ↓MoS7 hM, ↓MoL8 hM, ↓MoS8 hM, ↓MoL9 hM, ↓MoS9 hM, ↓MoL10 hM, ↓MoS10 hM, ↓MoL11 hM, ↓MoS11 hM, ↓A_if, ↓A_jn, ↓A_lt, ↓A_rz, ↓A_rn, ↓A_nzi, ↓A_nzl, ↓A_nn1, ↓A_nn0, ↓reduceIte, true_and, and_true, if_true, if_false, ite_true, ite_false, reduceIte, tl_0, tl_1, tl_2, tl_3, tl_4, tl_5, tl_6, tl_7, tl_8, tl_9, tl_10, tl_11, tl_12, tl_13, tl_14, tl_15, tl_16, tl_17, tl_18, tl_19, tl_20, tl_21, tl_22, tl_23, tl_24, tl_25, tl_26, tl_27, tl_28, tl_29, tl_30, tl_31, tl_32, tl_33, tl_34, tl_35, tl_36, tl_37, tl_38, tl_39, tl_40, tl_41, tl_42, tl_43, tl_44, tl_45, tl_46, tl_47, tl_48, tl_49, tl_50, tl_51, tl_52, tl_53, tl_54, tl_57, tl_59, tl_60, tl_62, tl_63, tl_64, tl_97, tl_99, tl_100, tl_120, tl_122, tl_192, tl_193, tl_194, tl_195, tl_196, tl_255, tl_256, tl_299, tl_400, tl_401, tl_492, tl_493, tl_541, tl_849, tl_999, tl_1000, tl_1341, tl_1342, tl_1390, tl_2190, tl_5412, tl_5904, tl_9999, tl_12345, tl_32767, tl_65536, tl_1000000, tl_252645135, tl_858993459, tl_1103515245, tl_1431655765, nz_31, nz_c31, eq_self, or_true, true_or, or_false, false_or, Nat.add_zero, nz_lt, nz_le, nz_eq, nz_cl, nz_sub, nI_add, pk_mul, nt_lt, nf_lt, nf_eq, nz_mI, mI_eq, mI_eq', mI_lt, mI_gt, mI_add, ↓j_max, ↓j_min, Nat.sub_sub, Nat.reduceAdd, Nat.reduceSub, Nat.reduceLT, Nat.reduceEqDiff, Bool.false_eq_true]
  rw [← e1, ← e2]
  generalize tw_up μ m 70 (nI 0) = ν1 at *
  refine tw_lp_for 1341 (fun i => nI i) (fun i => (sh, tw_ra ν1 (m + 1) (tw_kk (ν1 (m + 1)) (ν1 (m + 2)) i), la, n)) rfl ?_ ?_ ?_
  · show (sh, tw_ra ν1 (m + 1) (tw_kk (ν1 (m + 1)) (ν1 (m + 2)) 0), la, n) = _
    rw [tw_kk_0, tw_ra_s]
  · intro i hi rec
    have ek := tw_kk_s (ν1 (m + 1)) (ν1 (m + 2)) i
    simp (disch := omega) only [tw_ra_nj, tw_up_ra, ek, ↓MoV0 hM, ↓MoI0_70 hM, ↓MoP0_70 hM, ↓MoZ0_70 hM, ↓MoG0_71 hM, ↓MoG0_72 hM, ↓MoG0_73 hM, ↓MoG0_74 hM, ↓MoG0_75 hM, ↓MoI0_76 hM, ↓MoP0_76 hM, ↓MoZ0_76 hM, ↓MoI0_77 hM, ↓MoP0_77 hM, ↓MoZ0_77 hM, ↓MoG0_78 hM, ↓MoI0_79 hM, ↓MoP0_79 hM, ↓MoZ0_79 hM, ↓MoI0_80 hM, ↓MoP0_80 hM, ↓MoZ0_80 hM, ↓MoI0_81 hM, ↓MoP0_81 hM, ↓MoZ0_81 hM, ↓MoI0_82 hM, ↓MoP0_82 hM, ↓MoZ0_82 hM, ↓MoI0_83 hM, ↓MoP0_83 hM, ↓MoZ0_83 hM, ↓MoI0_84 hM, ↓MoP0_84 hM, ↓MoZ0_84 hM, ↓MoG0_85 hM, ↓MoI0_86 hM, ↓MoP0_86 hM, ↓MoZ0_86 hM, ↓MoG0_87 hM, ↓MoI0_88 hM, ↓MoP0_88 hM, ↓MoZ0_88 hM, ↓MoG0_89 hM, ↓MoG0_90 hM, ↓MoG0_91 hM, ↓MoG0_92 hM, ↓MoL0 hM, ↓MoS0 hM, ↓MoL1 hM, ↓MoS1 hM, ↓MoL2 hM, ↓MoS2 hM, ↓MoL3 hM, ↓MoS3 hM, ↓MoL4 hM, ↓MoS4 hM, ↓MoL5 hM, ↓MoS5 hM, ↓MoL6 hM, ↓MoS6 hM, ↓MoL7 hM, ↓MoS7 hM, ↓MoL8 hM, ↓MoS8 hM, ↓MoL9 hM, ↓MoS9 hM, ↓MoL10 hM, ↓MoS10 hM, ↓MoL11 hM, ↓MoS11 hM, ↓A_if, ↓A_jn, ↓A_lt, ↓A_rz, ↓A_rn, ↓A_nzi, ↓A_nzl, ↓A_nn1, ↓A_nn0, ↓reduceIte, true_and, and_true, if_true, if_false, ite_true, ite_false, reduceIte, tl_0, tl_1, tl_2, tl_3, tl_4, tl_5, tl_6, tl_7, tl_8, tl_9, tl_10, tl_11, tl_12, tl_13, tl_14, tl_15, tl_16, tl_17, tl_18, tl_19, tl_20, tl_21, tl_22, tl_23, tl_24, tl_25, tl_26, tl_27, tl_28, tl_29, tl_30, tl_31, tl_32, tl_33, tl_34, tl_35, tl_36, tl_37, tl_38, tl_39, tl_40, tl_41, tl_42, tl_43, tl_44, tl_45, tl_46, tl_47, tl_48, tl_49, tl_50, tl_51, tl_52, tl_53, tl_54, tl_57, tl_59, tl_60, tl_62, tl_63, tl_64, tl_97, tl_99, tl_100, tl_120, tl_122, tl_192, tl_193, tl_194, tl_195, tl_196, tl_255, tl_256, tl_299, tl_400, tl_401, tl_492, tl_493, tl_541, tl_849, tl_999, tl_1000, tl_1341, tl_1342, tl_1390, tl_2190, tl_5412, tl_5904, tl_9999, tl_12345, tl_32767, tl_65536, tl_1000000, tl_252645135, tl_858993459, tl_1103515245, tl_1431655765, nz_31, nz_c31, eq_self, or_true, true_or, or_false, false_or, Nat.add_zero, nz_lt, nz_le, nz_eq, nz_cl, nz_sub, nI_add, pk_mul, nt_lt, nf_lt, nf_eq, nz_mI, mI_eq, mI_eq', mI_lt, mI_gt, mI_add, ↓j_max, ↓j_min, Nat.sub_sub, Nat.reduceAdd, Nat.reduceSub, Nat.reduceLT, Nat.reduceEqDiff, Bool.false_eq_true]
  · intro rec
    simp (disch := omega) only [↓MoV0 hM, ↓MoI0_70 hM, ↓MoP0_70 hM, ↓MoZ0_70 hM, ↓MoG0_71 hM, ↓MoG0_72 hM, ↓MoG0_73 hM, ↓MoG0_74 hM, ↓MoG0_75 hM, ↓MoI0_76 hM, ↓MoP0_76 hM, ↓MoZ0_76 hM, ↓MoI0_77 hM, ↓MoP0_77 hM, ↓MoZ0_77 hM, ↓MoG0_78 hM, ↓MoI0_79 hM, ↓MoP0_79 hM, ↓MoZ0_79 hM, ↓MoI0_80 hM, ↓MoP0_80 hM, ↓MoZ0_80 hM, ↓MoI0_81 hM, ↓MoP0_81 hM, ↓MoZ0_81 hM, ↓MoI0_82 hM, ↓MoP0_82 hM, ↓MoZ0_82 hM, ↓MoI0_83 hM, ↓MoP0_83 hM, ↓MoZ0_83 hM, ↓MoI0_84 hM, ↓MoP0_84 hM, ↓MoZ0_84 hM, ↓MoG0_85 hM, ↓MoI0_86 hM, ↓MoP0_86 hM, ↓MoZ0_86 hM, ↓MoG0_87 hM, ↓MoI0_88 hM, ↓MoP0_88 hM, ↓MoZ0_88 hM, ↓MoG0_89 hM, ↓MoG0_90 hM, ↓MoG0_91 hM, ↓MoG0_92 hM, ↓MoL0 hM, ↓MoS0 hM, ↓MoL1 hM, ↓MoS1 hM, ↓MoL2 hM, ↓MoS2 hM, ↓MoL3 hM, ↓MoS3 hM, ↓MoL4 hM, ↓MoS4 hM, ↓MoL5 hM, ↓MoS5 hM, ↓MoL6 hM, ↓MoS6 hM, ↓MoL7 hM, ↓MoS7 hM, ↓MoL8 hM, ↓MoS8 hM, ↓MoL9 hM, ↓MoS9 hM, ↓MoL10 hM, ↓MoS10 hM, ↓MoL11 hM, ↓MoS11 hM, ↓A_if, ↓A_jn, ↓A_lt, ↓A_rz, ↓A_rn, ↓A_nzi, ↓A_nzl, ↓A_nn1, ↓A_nn0, ↓reduceIte, true_and, and_true, if_true, if_false, ite_true, ite_false, reduceIte, tl_0, tl_1, tl_2, tl_3, tl_4, tl_5, tl_6, tl_7, tl_8, tl_9, tl_10, tl_11, tl_12, tl_13, tl_14, tl_15, tl_16, tl_17, tl_18, tl_19, tl_20, tl_21, tl_22, tl_23, tl_24, tl_25, tl_26, tl_27, tl_28, tl_29, tl_30, tl_31, tl_32, tl_33, tl_34, tl_35, tl_36, tl_37, tl_38, tl_39, tl_40, tl_41, tl_42, tl_43, tl_44, tl_45, tl_46, tl_47, tl_48, tl_49, tl_50, tl_51, tl_52, tl_53, tl_54, tl_57, tl_59, tl_60, tl_62, tl_63, tl_64, tl_97, tl_99, tl_100, tl_120, tl_122, tl_192, tl_193, tl_194, tl_195, tl_196, tl_255, tl_256, tl_299, tl_400, tl_401, tl_492, tl_493, tl_541, tl_849, tl_999, tl_1000, tl_1341, tl_1342, tl_1390, tl_2190, tl_5412, tl_5904, tl_9999, tl_12345, tl_32767, tl_65536, tl_1000000, tl_252645135, tl_858993459, tl_1103515245, tl_1431655765, nz_31, nz_c31, eq_self, or_true, true_or, or_false, false_or, Nat.add_zero, nz_lt, nz_le, nz_eq, nz_cl, nz_sub, nI_add, pk_mul, nt_lt, nf_lt, nf_eq, nz_mI, mI_eq, mI_eq', mI_lt, mI_gt, mI_add, ↓j_max, ↓j_min, Nat.sub_sub, Nat.reduceAdd, Nat.reduceSub, Nat.reduceLT, Nat.reduceEqDiff, Bool.false_eq_true]
theorem tw_kept67 {sh : tw_Sh} {μ : Nat → Nat → Int32} {la : Nat → Nat → Int64} {n b kl : Nat} (h : tw_Cx sh b) (hl : tw_rr sh b 67 = some kl) (k : Nat → tw_Mem → Prop) : tw_gr 67 b k (sh, μ, la, n) = k kl (sh, μ, la, n) := by
  rw [A_gr, Cx_f0_67 h, hl, true_and]
  simp only [Option.some.injEq, exists_eq_left']
theorem L52 (hI : tw_IV G a0 b L (sh, μ, la, n)) (hi : i + 6 ≤ L) (hj : ∀ M, tw_IV G a0 b L M → j () M) (k : Int32 → tw_Mem → Prop) : f_Lc52 a0 b (b + 168) (b + 181) (nI i) j k (sh, μ, la, n) := by
  obtain ⟨lw, kl, P, hS, W, H, HL, HR, HI, HT, hf⟩ := tw_IV_e hI
  have hS2 := hS
  obtain ⟨hX, hlw, hkl, ⟨hTa, hTx⟩, hTn, hTs, hTk, hMe, hMi, hMt, hTw, hPa, hSe, hMo, hOu, hSc, hL3, hab, hlwc, hklc, hlwn, hkln, hbn, hlk⟩ := hS2
  have h8 := W.2.1
  have hsc := fun (j : Nat) (hj : j < L) (μ : Nat → Nat → Int32) (la : Nat → Nat → Int64) (n : Nat) (k : Int32 → tw_Mem → Prop) => tw_scr (μ := μ) (la := la) (n := n) hSc hL3 hj k
  have hs0 := hsc (i + 1) (by omega)
  have hs1 := hsc (i + 2) (by omega)
  have hs2 := hsc (i + 3) (by omega)
  have hs3 := hsc (i + 4) (by omega)
  have hs4 := hsc (i + 5) (by omega)
  have hlG : ∀ (μ : Nat → Nat → Int32) (la : Nat → Nat → Int64) (n : Nat) (k : Nat → tw_Mem → Prop), tw_gr 66 b k (sh, μ, la, n) = k lw (sh, μ, la, n) := fun μ la n k => tw_lawref hX hlw k
  have hlV : ∀ (μ : Nat → Nat → Int32) (la : Nat → Nat → Int64) (n : Nat) (F : tw_Mem → Prop), tw_iv 0 lw F (sh, μ, la, n) = F (sh, μ, la, n) := fun μ la n F => by rw [A_iv, tw_is_T HL.1, true_and]
  generalize hT : μ (b + 169) = T at *
  obtain ⟨μs, E1, F1, R1⟩ := c_take (la := la) (n := n) hTk H (by omega)
  obtain ⟨sh2, e2⟩ : ∃ s, s = tw_upR sh b 67 (some lw) := ⟨_, rfl⟩
  have hpr : ∀ (μ : Nat → Nat → Int32) (la : Nat → Nat → Int64) (n : Nat) (k : tw_Mem → Prop), tw_pr 67 b lw k (sh, μ, la, n) = k (sh2, μ, la, n) := fun μ la n k => by rw [A_pr, Cx_f0_67 hX, true_and, ← e2]
  have hX2 : tw_Cx sh2 b := by rw [e2]; exact tw_Cx_up hX (by omega)
  have Es : ∀ x, x ≠ b → sh2 x = sh x := fun x hx => by rw [e2]; exact tw_upR_ne hx
  have h66 : tw_rr sh2 b 66 = some lw := by rw [e2]; exact (tw_rr_upn (by omega)).trans hlw
  have h67 : tw_rr sh2 b 67 = some lw := by rw [e2]; exact tw_rr_ups hX.1
  have hS2 := tw_SH_sh hS (fun x hx _ => Es x hx) hX2 h66 h67 n (Nat.le_refl n) hlwc hlwc hlwn hlwn (Or.inl rfl)
  have hMo2 := hS2.2.2.2.2.2.2.2.2.2.2.2.2.2.1
  obtain ⟨μc, eμc⟩ : ∃ m, m = tw_up μs b 68 (nI 1) := ⟨_, rfl⟩
  have Fc : ∀ y, y ≠ b → ¬ (b + 21 ≤ y ∧ y < b + 30) → μc y = μ y := fun y h1 h2 => by rw [eμc, tw_up_ne h1]; exact F1 y (by omega)
  have eTc : μc (b + 168 + 1) = T := (Fc (b + 169) (by omega) (by omega)).trans hT
  have E2 := m_imageF (μ := μc) hMo2
  rw [eTc] at E2
  simp (disch := omega) only [↓A_if, ↓A_jn, ↓A_lt, ↓A_rz, ↓A_rn, ↓A_nzi, ↓A_nzl, ↓A_nn1, ↓A_nn0, ↓reduceIte, true_and, and_true, if_true, if_false, ite_true, ite_false, reduceIte, tl_0, tl_1, tl_2, tl_3, tl_4, tl_5, tl_6, tl_7, tl_8, tl_9, tl_10, tl_11, tl_12, tl_13, tl_14, tl_15, tl_16, tl_17, tl_18, tl_19, tl_20, tl_21, tl_22, tl_23, tl_24, tl_25, tl_26, tl_27, tl_28, tl_29, tl_30, tl_31, tl_32, tl_33, tl_34, tl_35, tl_36, tl_37, tl_38, tl_39, tl_40, tl_41, tl_42, tl_43, tl_44, tl_45, tl_46, tl_47, tl_48, tl_49, tl_50, tl_51, tl_52, tl_53, tl_54, tl_57, tl_59, tl_60, tl_62, tl_63, tl_64, tl_97, tl_99, tl_100, tl_120, tl_122, tl_192, tl_193, tl_194, tl_195, tl_196, tl_255, tl_256, tl_299, tl_400, tl_401, tl_492, tl_493, tl_541, tl_849, tl_999, tl_1000, tl_1341, tl_1342, tl_1390, tl_2190, tl_5412, tl_5904, tl_9999, tl_12345, tl_32767, tl_65536, tl_1000000, tl_252645135, tl_858993459, tl_1103515245, tl_1431655765, nz_31, nz_c31, eq_self, or_true, true_or, or_false, false_or, Nat.add_zero, nz_lt, nz_le, nz_eq, nz_cl, nz_sub, nI_add, pk_mul, nt_lt, nf_lt, nf_eq, nz_mI, mI_eq, mI_eq', mI_lt, mI_gt, mI_add, ↓j_max, ↓j_min, Nat.sub_sub, Nat.reduceAdd, Nat.reduceSub, Nat.reduceLT, Nat.reduceEqDiff, Bool.false_eq_true, f_Lc52, f_X11_image, ↓E1, ↓hpr, ↓hlG, ↓E2, ↓eμc.symm, ↓TnV0 hTk, ↓MoV0 hMo2, ↓CxV0 hX, ↓CxG0_56 hX, ↓CxG0_57 hX, ↓CxG0_58 hX, ↓CxG0_59 hX, ↓CxG0_60 hX, ↓CxG0_61 hX, ↓CxG0_62 hX, ↓CxG0_63 hX, ↓CxG0_64 hX, ↓CxG0_65 hX, ↓CxI0_68 hX, ↓CxP0_68 hX, ↓CxZ0_68 hX, ↓CxI0_69 hX, ↓CxP0_69 hX, ↓CxZ0_69 hX, ↓CxV0 hX2, ↓CxG0_56 hX2, ↓CxG0_57 hX2, ↓CxG0_58 hX2, ↓CxG0_59 hX2, ↓CxG0_60 hX2, ↓CxG0_61 hX2, ↓CxG0_62 hX2, ↓CxG0_63 hX2, ↓CxG0_64 hX2, ↓CxG0_65 hX2, ↓CxI0_68 hX2, ↓CxP0_68 hX2, ↓CxZ0_68 hX2, ↓CxI0_69 hX2, ↓CxP0_69 hX2, ↓CxZ0_69 hX2]
  obtain ⟨μd, eμd⟩ : ∃ m, m = tw_up (tw_ra (tw_up μc (b + 168) 70 (nI 0)) (b + 168 + 2) (tw_kk (μc (b + 168 + 2)) T 1341)) (b + 168) 76 (nI 1) := ⟨_, rfl⟩
  rw [← eμd]
  have Fd : ∀ y, y ≠ b + 168 → y ≠ b + 170 → μd y = μc y := fun y h1 h2 => by rw [eμd, tw_up_ne h1, tw_ra_n (by omega), tw_up_ne h1]
  have Fj : ∀ q, q ≠ 70 → q ≠ 76 → μd (b + 168) q = μ (b + 168) q := fun q h1 h2 => by rw [eμd, tw_uk (by omega), tw_ra_n (by omega), tw_uk (by omega), Fc _ (by omega) (by omega)]
  have eI : μd (b + 170) = tw_kk (μc (b + 168 + 2)) T 1341 := by rw [eμd, tw_up_ne (by omega)]; exact tw_ra_a
  have kI : ∀ q, q < 1341 → tw_kk (μc (b + 168 + 2)) T 1341 q = T q := fun q hq => by unfold tw_kk; rw [if_pos hq]
  have F : ∀ y, y ≠ b → ¬ (b + 21 ≤ y ∧ y < b + 30) → y ≠ b + 168 → y ≠ b + 170 → μd y = μ y := fun y h1 h2 h3 h4 => (Fd y h3 h4).trans (Fc y h1 h2)
  have eTd : μd (b + 169) = T := (F _ (by omega) (by omega) (by omega) (by omega)).trans hT
  refine hj _ ⟨lw, lw, P, hS2, ?_, ?_, ?_, ?_, ?_, ?_, ?_⟩
  · show tw_WF (μd (b + 169)) P
    rw [eTd]; exact W
  · show tw_RC sh2 μd (b + 3) (μd (b + 169))
    rw [eTd]; exact tw_RC_sh (Rc_same H (fun y h1 h2 => F y (by omega) (by omega) (by omega) (by omega))) (fun y h1 h2 => Es y (by omega))
  · show tw_La sh2 μd lw (μd (b + 169))
    rw [eTd]; exact tw_La_sh (tw_La_same HL (fun y hy => F y (by omega) (by omega) (by omega) (by omega)) rfl (fun _ _ => rfl)) (fun y h1 h2 => Es y (by omega))
  · exact tw_RM_sh (tw_RM_same HR (fun y hy => F y (by omega) (by omega) (by omega) (by omega)) (Fj 77 (by omega) (by omega))) (fun y h1 h2 => Es y (by omega))
  · refine Or.inr ⟨?_, ?_, P, ?_, ?_, ?_⟩
    · show μd b 68 = nI 1
      rw [Fd b (by omega) (by omega), eμc]; exact tw_ua
    · show μd (b + 168) 76 = nI 1
      rw [eμd]; exact tw_ua
    · show tw_WF (μd (b + 170)) P
      rw [eI]; exact Wf_ext W (fun q hq => kI q (by omega))
    · show tw_RC sh2 μd (b + 21) (μd (b + 170))
      rw [eI]; exact tw_RC_sh (Rc_ext (Rc_same R1 (fun y h1 h2 => by rw [Fd y (by omega) (by omega), eμc, tw_up_ne (by omega)])) (fun q hq => kI q (by omega))) (fun y h1 h2 => Es y (by omega))
    · show tw_La sh2 μd lw (μd (b + 170))
      rw [eI]; exact tw_La_sh (tw_La_ext HL (fun y hy => F y (by omega) (by omega) (by omega) (by omega)) (kI 2 (by omega)) (fun q _ hq => kI q hq)) (fun y h1 h2 => Es y (by omega))
  · exact tw_TP_same HT (F _ (by omega) (by omega) (by omega) (by omega)) (F _ (by omega) (by omega) (by omega) (by omega)) (Fj 79 (by omega) (by omega)) (F _ (by omega) (by omega) (by omega) (by omega))
  · refine ⟨?_, fun x hx => ⟨(Es x (by omega)).trans (hf.2 x hx).1, (F x (by omega) (by omega) (by omega) (by omega)).trans (hf.2 x hx).2⟩⟩
    show μd b 69 = μd (b + 168) 84
    rw [Fd b (by omega) (by omega), eμc, tw_uk (by omega), F1 b (by omega), Fj 84 (by omega) (by omega)]; exact hf.1
theorem L53 (hI : tw_IV G a0 b L (sh, μ, la, n)) (hi : i + 6 ≤ L) (hj : ∀ M, tw_IV G a0 b L M → j () M) (k : Int32 → tw_Mem → Prop) : f_Lc53 a0 b (b + 168) (b + 181) (nI i) j k (sh, μ, la, n) := by
  obtain ⟨lw, kl, P, hS, W, H, HL, HR, HI, HT, hf⟩ := tw_IV_e hI
  have hS2 := hS
  obtain ⟨hX, hlw, hkl, ⟨hTa, hTx⟩, hTn, hTs, hTk, hMe, hMi, hMt, hTw, hPa, hSe, hMo, hOu, hSc, hL3, hab, hlwc, hklc, hlwn, hkln, hbn, hlk⟩ := hS2
  have h8 := W.2.1
  have hsc := fun (j : Nat) (hj : j < L) (μ : Nat → Nat → Int32) (la : Nat → Nat → Int64) (n : Nat) (k : Int32 → tw_Mem → Prop) => tw_scr (μ := μ) (la := la) (n := n) hSc hL3 hj k
  have hs0 := hsc (i + 1) (by omega)
  have hs1 := hsc (i + 2) (by omega)
  have hs2 := hsc (i + 3) (by omega)
  have hs3 := hsc (i + 4) (by omega)
  have hs4 := hsc (i + 5) (by omega)
  have hlG : ∀ (μ : Nat → Nat → Int32) (la : Nat → Nat → Int64) (n : Nat) (k : Nat → tw_Mem → Prop), tw_gr 66 b k (sh, μ, la, n) = k lw (sh, μ, la, n) := fun μ la n k => tw_lawref hX hlw k
  have hlV : ∀ (μ : Nat → Nat → Int32) (la : Nat → Nat → Int64) (n : Nat) (F : tw_Mem → Prop), tw_iv 0 lw F (sh, μ, la, n) = F (sh, μ, la, n) := fun μ la n F => by rw [A_iv, tw_is_T HL.1, true_and]
  generalize hT : μ (b + 169) = T at *
  rcases HI with ⟨g1, g2⟩|⟨g1, g2, P2, W2, R2, L2⟩
  · obtain ⟨μ1, hpi, hpt, qm, hT1, h70, ha1, hj1⟩ := tw_thr0 (a0 := a0) (μ := μ) hMo hab
    have g3 := (hj1 76 (by omega)).trans g2
    simp (disch := omega) only [f_Lc53, f_X11_back, ↓CxV0 hX, ↓CxG0_56 hX, ↓CxG0_57 hX, ↓CxG0_58 hX, ↓CxG0_59 hX, ↓CxG0_60 hX, ↓CxG0_61 hX, ↓CxG0_62 hX, ↓CxG0_63 hX, ↓CxG0_64 hX, ↓CxG0_65 hX, ↓CxI0_68 hX, ↓CxP0_68 hX, ↓CxZ0_68 hX, ↓CxI0_69 hX, ↓CxP0_69 hX, ↓CxZ0_69 hX, ↓TnV0 hTn, ↓TnG0_39 hTn, ↓TnG0_40 hTn, ↓TnG0_41 hTn, ↓TnG0_42 hTn, ↓TnG0_43 hTn, ↓TnG0_44 hTn, ↓TnG0_45 hTn, ↓TnI0_46 hTn, ↓TnP0_46 hTn, ↓TnZ0_46 hTn, ↓TnI0_47 hTn, ↓TnP0_47 hTn, ↓TnZ0_47 hTn, ↓TnI0_48 hTn, ↓TnP0_48 hTn, ↓TnZ0_48 hTn, ↓TnI0_49 hTn, ↓TnP0_49 hTn, ↓TnZ0_49 hTn, ↓TnI0_50 hTn, ↓TnP0_50 hTn, ↓TnZ0_50 hTn, ↓TnI0_51 hTn, ↓TnP0_51 hTn, ↓TnZ0_51 hTn, ↓TnI0_52 hTn, ↓TnP0_52 hTn, ↓TnZ0_52 hTn, ↓TnV1 hTn, ↓TnG1_19 hTn, ↓TnI1_20 hTn, ↓TnP1_20 hTn, ↓TnZ1_20 hTn, ↓TnI1_21 hTn, ↓TnP1_21 hTn, ↓TnZ1_21 hTn, ↓TnL0 hTn, ↓TnS0 hTn, ↓TnL1 hTn, ↓TnS1 hTn, ↓TnL2 hTn, ↓TnS2 hTn, ↓TnL3 hTn, ↓TnS3 hTn, ↓TnL4 hTn, ↓TnS4 hTn, ↓TnL5 hTn, ↓TnS5 hTn, ↓TnL6 hTn, ↓TnS6 hTn, ↓hs0, ↓hs1, ↓hs2, ↓hs3, ↓hs4, ↓hpi.1, ↓hpi.2, ↓hlG, ↓hlV, ha1, ↓X_sl hOu, ↓X_ll hOu, tw_upLa, tw_cmp0, f_X12_thrown, f_X12_throwsIf, ↓A_th, ↓A_xc, tw_xE1, tw_xE2, tw_xE3, tw_xE4, tw_xE5, tw_xE6, ↓MoV0 hMo, ↓MoI0_70 hMo, ↓MoZ0_70 hMo, ↓MoG0_71 hMo, ↓MoG0_72 hMo, ↓MoG0_73 hMo, ↓MoG0_74 hMo, ↓MoG0_75 hMo, ↓MoI0_76 hMo, ↓MoP0_76 hMo, ↓MoZ0_76 hMo, ↓MoI0_77 hMo, ↓MoP0_77 hMo, ↓MoZ0_77 hMo, ↓MoG0_78 hMo, ↓MoI0_79 hMo, ↓MoP0_79 hMo, ↓MoZ0_79 hMo, ↓MoI0_80 hMo, ↓MoP0_80 hMo, ↓MoZ0_80 hMo, ↓MoI0_81 hMo, ↓MoP0_81 hMo, ↓MoZ0_81 hMo, ↓MoI0_82 hMo, ↓MoP0_82 hMo, ↓MoZ0_82 hMo, ↓MoI0_83 hMo, ↓MoP0_83 hMo, ↓MoZ0_83 hMo, ↓MoI0_84 hMo, ↓MoP0_84 hMo, ↓MoZ0_84 hMo, ↓MoG0_85 hMo, ↓MoI0_86 hMo, ↓MoP0_86 hMo, ↓MoZ0_86 hMo, ↓MoG0_87 hMo, ↓MoI0_88 hMo, ↓MoP0_88 hMo, ↓MoZ0_88 hMo, ↓MoG0_89 hMo, ↓MoG0_90 hMo, ↓MoG0_91 hMo, ↓MoG0_92 hMo, ↓MoL0 hMo, ↓MoS0 hMo, ↓MoL1 hMo, ↓MoS1 hMo, ↓MoL2 hMo, ↓MoS2 hMo, ↓MoL3 hMo, ↓MoS3 hMo, ↓MoL4 hMo, ↓MoS4 hMo, ↓MoL5 hMo, ↓MoS5 hMo, ↓MoL6 hMo, ↓MoS6 hMo, ↓MoL7 hMo, ↓MoS7 hMo, ↓MoL8 hMo, ↓MoS8 hMo, ↓MoL9 hMo, ↓MoS9 hMo, ↓MoL10 hMo, ↓MoS10 hMo, ↓MoL11 hMo, ↓MoS11 hMo, ↓hpt, tw_ua, tw_uk, h70, tw_up_ne, ↓A_if, ↓A_jn, ↓A_lt, ↓A_rz, ↓A_rn, ↓A_nzi, ↓A_nzl, ↓A_nn1, ↓A_nn0, ↓reduceIte, true_and, and_true, if_true, if_false, ite_true, ite_false, reduceIte, tl_0, tl_1, tl_2, tl_3, tl_4, tl_5, tl_6, tl_7, tl_8, tl_9, tl_10, tl_11, tl_12, tl_13, tl_14, tl_15, tl_16, tl_17, tl_18, tl_19, tl_20, tl_21, tl_22, tl_23, tl_24, tl_25, tl_26, tl_27, tl_28, tl_29, tl_30, tl_31, tl_32, tl_33, tl_34, tl_35, tl_36, tl_37, tl_38, tl_39, tl_40, tl_41, tl_42, tl_43, tl_44, tl_45, tl_46, tl_47, tl_48, tl_49, tl_50, tl_51, tl_52, tl_53, tl_54, tl_57, tl_59, tl_60, tl_62, tl_63, tl_64, tl_97, tl_99, tl_100, tl_120, tl_122, tl_192, tl_193, tl_194, tl_195, tl_196, tl_255, tl_256, tl_299, tl_400, tl_401, tl_492, tl_493, tl_541, tl_849, tl_999, tl_1000, tl_1341, tl_1342, tl_1390, tl_2190, tl_5412, tl_5904, tl_9999, tl_12345, tl_32767, tl_65536, tl_1000000, tl_252645135, tl_858993459, tl_1103515245, tl_1431655765, nz_31, nz_c31, eq_self, or_true, true_or, or_false, false_or, Nat.add_zero, nz_lt, nz_le, nz_eq, nz_cl, nz_sub, nI_add, pk_mul, nt_lt, nf_lt, nf_eq, nz_mI, mI_eq, mI_eq', mI_lt, mI_gt, mI_add, ↓j_max, ↓j_min, Nat.sub_sub, Nat.reduceAdd, Nat.reduceSub, Nat.reduceLT, Nat.reduceEqDiff, Bool.false_eq_true, f_X12_back, g1, g3]
    exact hj _ (tw_IV_q hS (by rw [hT]; exact W) (by rw [hT]; exact H) (by rw [hT]; exact HL) HR (Or.inl ⟨g1, g2⟩) HT hf tw_qc_r qm (Nat.le_refl _))
  · generalize hI2 : μ (b + 170) = U at *
    obtain ⟨μs, E1, F1, R1⟩ := c_take (la := la) (n := n) hTn R2 (by omega)
    obtain ⟨sh2, e2⟩ : ∃ s, s = tw_upR sh b 66 (some kl) := ⟨_, rfl⟩
    have hpr : ∀ (μ : Nat → Nat → Int32) (la : Nat → Nat → Int64) (n : Nat) (k : tw_Mem → Prop), tw_pr 66 b kl k (sh, μ, la, n) = k (sh2, μ, la, n) := fun μ la n k => by rw [A_pr, Cx_f0_66 hX, true_and, ← e2]
    have hkG : ∀ (μ : Nat → Nat → Int32) (la : Nat → Nat → Int64) (n : Nat) (k : Nat → tw_Mem → Prop), tw_gr 67 b k (sh, μ, la, n) = k kl (sh, μ, la, n) := fun μ la n k => tw_kept67 hX hkl k
    have hX2 : tw_Cx sh2 b := by rw [e2]; exact tw_Cx_up hX (by omega)
    have Es : ∀ x, x ≠ b → sh2 x = sh x := fun x hx => by rw [e2]; exact tw_upR_ne hx
    have h66 : tw_rr sh2 b 66 = some kl := by rw [e2]; exact tw_rr_ups hX.1
    have h67 : tw_rr sh2 b 67 = some kl := by rw [e2]; exact (tw_rr_upn (by omega)).trans hkl
    have hS2 := tw_SH_sh hS (fun x hx _ => Es x hx) hX2 h66 h67 n (Nat.le_refl n) hklc hklc hkln hkln (Or.inl rfl)
    have hMo2 := hS2.2.2.2.2.2.2.2.2.2.2.2.2.2.1
    have hMe2 := hS2.2.2.2.2.2.2.2.1
    obtain ⟨μc, eμc⟩ : ∃ m, m = tw_up μs (b + 30) 23 (nI 0) := ⟨_, rfl⟩
    have Fc : ∀ y, y ≠ b + 30 → ¬ (b + 3 ≤ y ∧ y < b + 12) → μc y = μ y := fun y h1 h2 => by rw [eμc, tw_up_ne h1]; exact F1 y (by omega)
    have eTc : μc (b + 168 + 1) = T := (Fc (b + 169) (by omega) (by omega)).trans hT
    have eUc : μc (b + 168 + 2) = U := (Fc (b + 170) (by omega) (by omega)).trans hI2
    have E2 := m_backF (μ := μc) hMo2 (by rw [Fc _ (by omega) (by omega)]; exact g2)
    rw [eTc, eUc] at E2
    simp (disch := omega) only [↓A_if, ↓A_jn, ↓A_lt, ↓A_rz, ↓A_rn, ↓A_nzi, ↓A_nzl, ↓A_nn1, ↓A_nn0, ↓reduceIte, true_and, and_true, if_true, if_false, ite_true, ite_false, reduceIte, tl_0, tl_1, tl_2, tl_3, tl_4, tl_5, tl_6, tl_7, tl_8, tl_9, tl_10, tl_11, tl_12, tl_13, tl_14, tl_15, tl_16, tl_17, tl_18, tl_19, tl_20, tl_21, tl_22, tl_23, tl_24, tl_25, tl_26, tl_27, tl_28, tl_29, tl_30, tl_31, tl_32, tl_33, tl_34, tl_35, tl_36, tl_37, tl_38, tl_39, tl_40, tl_41, tl_42, tl_43, tl_44, tl_45, tl_46, tl_47, tl_48, tl_49, tl_50, tl_51, tl_52, tl_53, tl_54, tl_57, tl_59, tl_60, tl_62, tl_63, tl_64, tl_97, tl_99, tl_100, tl_120, tl_122, tl_192, tl_193, tl_194, tl_195, tl_196, tl_255, tl_256, tl_299, tl_400, tl_401, tl_492, tl_493, tl_541, tl_849, tl_999, tl_1000, tl_1341, tl_1342, tl_1390, tl_2190, tl_5412, tl_5904, tl_9999, tl_12345, tl_32767, tl_65536, tl_1000000, tl_252645135, tl_858993459, tl_1103515245, tl_1431655765, nz_31, nz_c31, eq_self, or_true, true_or, or_false, false_or, Nat.add_zero, nz_lt, nz_le, nz_eq, nz_cl, nz_sub, nI_add, pk_mul, nt_lt, nf_lt, nf_eq, nz_mI, mI_eq, mI_eq', mI_lt, mI_gt, mI_add, ↓j_max, ↓j_min, Nat.sub_sub, Nat.reduceAdd, Nat.reduceSub, Nat.reduceLT, Nat.reduceEqDiff, Bool.false_eq_true, f_Lc53, f_X11_back, f_X3_clear, g1, ↓E1, ↓hpr, ↓hkG, ↓E2, ↓eμc.symm, ↓TnV0 hTn, ↓MoV0 hMo2, ↓MeV0 hMe2, ↓MeG0_22 hMe2, ↓MeI0_23 hMe2, ↓MeP0_23 hMe2, ↓MeZ0_23 hMe2, ↓MeI0_24 hMe2, ↓MeP0_24 hMe2, ↓MeZ0_24 hMe2, ↓CxV0 hX, ↓CxG0_56 hX, ↓CxG0_57 hX, ↓CxG0_58 hX, ↓CxG0_59 hX, ↓CxG0_60 hX, ↓CxG0_61 hX, ↓CxG0_62 hX, ↓CxG0_63 hX, ↓CxG0_64 hX, ↓CxG0_65 hX, ↓CxI0_68 hX, ↓CxP0_68 hX, ↓CxZ0_68 hX, ↓CxI0_69 hX, ↓CxP0_69 hX, ↓CxZ0_69 hX, ↓CxV0 hX2, ↓CxG0_56 hX2, ↓CxG0_57 hX2, ↓CxG0_58 hX2, ↓CxG0_59 hX2, ↓CxG0_60 hX2, ↓CxG0_61 hX2, ↓CxG0_62 hX2, ↓CxG0_63 hX2, ↓CxG0_64 hX2, ↓CxG0_65 hX2, ↓CxI0_68 hX2, ↓CxP0_68 hX2, ↓CxZ0_68 hX2, ↓CxI0_69 hX2, ↓CxP0_69 hX2, ↓CxZ0_69 hX2]
    obtain ⟨μd, eμd⟩ : ∃ m, m = tw_up (tw_ra (tw_up μc (b + 168) 70 (nI 0)) (b + 168 + 1) (tw_kk T U 1341)) (b + 168) 77 (nI 0) := ⟨_, rfl⟩
    rw [← eμd]
    have Fd : ∀ y, y ≠ b + 168 → y ≠ b + 169 → μd y = μc y := fun y h1 h2 => by rw [eμd, tw_up_ne h1, tw_ra_n (by omega), tw_up_ne h1]
    have Fj : ∀ q, q ≠ 70 → q ≠ 77 → μd (b + 168) q = μ (b + 168) q := fun q h1 h2 => by rw [eμd, tw_uk (by omega), tw_ra_n (by omega), tw_uk (by omega), Fc _ (by omega) (by omega)]
    have kI : ∀ q, q < 1341 → tw_kk T U 1341 q = U q := fun q hq => by unfold tw_kk; rw [if_pos hq]
    have F : ∀ y, y ≠ b + 30 → ¬ (b + 3 ≤ y ∧ y < b + 12) → y ≠ b + 168 → y ≠ b + 169 → μd y = μ y := fun y h1 h2 h3 h4 => (Fd y h3 h4).trans (Fc y h1 h2)
    have eTd : μd (b + 169) = tw_kk T U 1341 := by rw [eμd, tw_up_ne (by omega)]; exact tw_ra_a
    have eId : μd (b + 170) = U := (F _ (by omega) (by omega) (by omega) (by omega)).trans hI2
    refine hj _ ⟨kl, kl, P2, hS2, ?_, ?_, ?_, ⟨0, ?_⟩, ?_, ?_, ?_⟩
    · show tw_WF (μd (b + 169)) P2
      rw [eTd]; exact Wf_ext W2 (fun q hq => kI q (by omega))
    · show tw_RC sh2 μd (b + 3) (μd (b + 169))
      rw [eTd]; exact tw_RC_sh (Rc_ext (Rc_same R1 (fun y h1 h2 => by rw [Fd y (by omega) (by omega), eμc, tw_up_ne (by omega)])) (fun q hq => kI q (by omega))) (fun y h1 h2 => Es y (by omega))
    · show tw_La sh2 μd kl (μd (b + 169))
      rw [eTd]; exact tw_La_sh (tw_La_ext L2 (fun y hy => F y (by omega) (by omega) (by omega) (by omega)) (kI 2 (by omega)) (fun q _ hq => kI q hq)) (fun y h1 h2 => Es y (by omega))
    · obtain ⟨r, xr, A, ⟨a1, a2, a3, a4, a5⟩, -, -⟩ := HR
      refine ⟨xr, A, ⟨by omega, a2, ?_, ?_, fun k hk => absurd hk (Nat.not_lt_zero k)⟩, ⟨?_, fun k hk => absurd hk (Nat.not_lt_zero k)⟩, fun k hk => absurd hk (Nat.not_lt_zero k)⟩
      · show μd (b + 30) 23 = nI 0
        rw [Fd _ (by omega) (by omega), eμc]; exact tw_ua
      · show μd (b + 30) 24 = nI xr
        rw [Fd _ (by omega) (by omega), eμc, tw_uk (by omega), F1 _ (by omega)]; exact a4
      · show μd (b + 168) 77 = nI 0
        rw [eμd]; exact tw_ua
    · refine Or.inr ⟨?_, ?_, P2, ?_, ?_, ?_⟩
      · show μd b 68 = nI 1
        rw [F b (by omega) (by omega) (by omega) (by omega)]; exact g1
      · show μd (b + 168) 76 = nI 1
        rw [Fj 76 (by omega) (by omega)]; exact g2
      · show tw_WF (μd (b + 170)) P2
        rw [eId]; exact W2
      · show tw_RC sh2 μd (b + 21) (μd (b + 170))
        rw [eId]; exact tw_RC_sh (Rc_same R2 (fun y h1 h2 => F y (by omega) (by omega) (by omega) (by omega))) (fun y h1 h2 => Es y (by omega))
      · show tw_La sh2 μd kl (μd (b + 170))
        rw [eId]; exact tw_La_sh (tw_La_same L2 (fun y hy => F y (by omega) (by omega) (by omega) (by omega)) rfl (fun _ _ => rfl)) (fun y h1 h2 => Es y (by omega))
    · exact tw_TP_same HT (F _ (by omega) (by omega) (by omega) (by omega)) (F _ (by omega) (by omega) (by omega) (by omega)) (Fj 79 (by omega) (by omega)) (F _ (by omega) (by omega) (by omega) (by omega))
    · refine ⟨?_, fun x hx => ⟨(Es x (by omega)).trans (hf.2 x hx).1, (F x (by omega) (by omega) (by omega) (by omega)).trans (hf.2 x hx).2⟩⟩
      show μd b 69 = μd (b + 168) 84
      rw [F b (by omega) (by omega) (by omega) (by omega), Fj 84 (by omega) (by omega)]; exact hf.1
end P79j
