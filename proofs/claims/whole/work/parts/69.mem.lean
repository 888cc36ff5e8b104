/-! ===== pure: acts remembered, and undone ===== -/
section P69
variable {sh : tw_Sh} {μ : Nat → Nat → Int32} {la : Nat → Nat → Int64} {n a b w m lw P N : Nat} {p o l h i j z c x y f q kd t s r : Nat} {T T' : Nat → Int32} {v u rg tn : Int32} {A : Nat → Nat → Int32}
def tw_cons (T : Nat → Int32) (A : Nat → Nat → Int32) : Nat → Nat → Int32
  | 0 => T
  | k + 1 => A k
theorem c_townAt (hMe : tw_Me sh b) (hMi : ∀ i, i < 12 → tw_ai sh [3] (b + 31) (nI i) ∧ tw_rr sh (b + 31) i = some (b + 32 + 9 * i)) (hi : i < 12) (k : Option Nat → tw_Mem → Prop) : f_X3_townAt (b + 30) (nI i) k (sh, μ, la, n) = k (some (b + 32 + 9 * i)) (sh, μ, la, n) := by
  have e : ∀ k : Option Nat → tw_Mem → Prop, tw_la (b + 31) (nI i) k (sh, μ, la, n) = k (some (b + 32 + 9 * i)) (sh, μ, la, n) := fun k => by
    rw [A_la, nz_cl (by omega), (hMi i hi).2]
    exact propext ⟨fun h => h.2, fun h => ⟨(hMi i hi).1, h⟩⟩
  simp (disch := omega) only [f_X3_townAt, ↓e, ↓MeV0 hMe, ↓MeG0_22 hMe, ↓MeI0_23 hMe, ↓MeP0_23 hMe, ↓MeZ0_23 hMe, ↓MeI0_24 hMe, ↓MeP0_24 hMe, ↓MeZ0_24 hMe, ↓A_if, ↓A_jn, ↓A_lt, ↓A_rz, ↓A_rn, ↓A_nzi, ↓A_nzl, ↓A_nn1, ↓A_nn0, ↓reduceIte, true_and, and_true, if_true, if_false, ite_true, ite_false, reduceIte, tl_0, tl_1, tl_2, tl_3, tl_4, tl_5, tl_6, tl_7, tl_8, tl_9, tl_10, tl_11, tl_12, tl_13, tl_14, tl_15, tl_16, tl_17, tl_18, tl_19, tl_20, tl_21, tl_22, tl_23, tl_24, tl_25, tl_26, tl_27, tl_28, tl_29, tl_30, tl_31, tl_32, tl_33, tl_34, tl_35, tl_36, tl_37, tl_38, tl_39, tl_40, tl_41, tl_42, tl_43, tl_44, tl_45, tl_46, tl_47, tl_48, tl_49, tl_50, tl_51, tl_52, tl_53, tl_54, tl_57, tl_59, tl_60, tl_62, tl_63, tl_64, tl_97, tl_99, tl_100, tl_120, tl_122, tl_192, tl_193, tl_194, tl_195, tl_196, tl_255, tl_256, tl_299, tl_400, tl_401, tl_492, tl_493, tl_541, tl_849, tl_999, tl_1000, tl_1341, tl_1342, tl_1390, tl_2190, tl_5412, tl_5904, tl_9999, tl_12345, tl_32767, tl_65536, tl_1000000, tl_252645135, tl_858993459, tl_1103515245, tl_1431655765, nz_31, nz_c31, eq_self, or_true, true_or, or_false, false_or, Nat.add_zero, nz_lt, nz_le, nz_eq, nz_cl, nz_sub, nI_add, pk_mul, nt_lt, nf_lt, nf_eq, nz_mI, mI_eq, mI_eq', mI_lt, mI_gt, mI_add, ↓j_max, ↓j_min, Nat.sub_sub, Nat.reduceAdd, Nat.reduceSub, Nat.reduceLT, Nat.reduceEqDiff, Bool.false_eq_true]
theorem c_remember (hMe : tw_Me sh b) (hMi : ∀ i, i < 12 → tw_ai sh [3] (b + 31) (nI i) ∧ tw_rr sh (b + 31) i = some (b + 32 + 9 * i)) (hMt : ∀ i, i < 12 → tw_Town sh (b + 32 + 9 * i)) (H : tw_RC sh μ (b + 3) T) (R : tw_Rcl sh μ b r x A) : ∃ μ', (tw_Rcl sh μ' b (if r < 12 then r + 1 else 12) (if x + 1 < 12 then x + 1 else 0) (tw_cons T A) ∧ tw_fx (b + 30) (b + 140) μ μ') ∧ ∀ k, f_X3_remember (b + 30) (b + 3) k (sh, μ, la, n) = k () (sh, μ', la, n) := by
  obtain ⟨hr, hx, e1, e2, e4⟩ := R
  obtain ⟨μ1, E1, F1, R1⟩ := c_take (la := la) (n := n) (hMt x hx) H (by omega)
  have g23 : μ1 (b + 30) 23 = nI r := by rw [F1 (b + 30) (by omega)]; exact e1
  have g24 : μ1 (b + 30) 24 = nI x := by rw [F1 (b + 30) (by omega)]; exact e2
  have hV := tw_is_T (hMt x hx).1
  have hV2 : ∀ (F : tw_Mem → Prop) (μ : Nat → Nat → Int32), tw_iv 7 (b + 32 + 9 * x) F (sh, μ, la, n) = F (sh, μ, la, n) := fun F μ => by rw [A_iv, hV, true_and]
  refine ⟨tw_up (tw_up μ1 (b + 30) 24 (nI (if x + 1 < 12 then x + 1 else 0))) (b + 30) 23 (nI (if r < 12 then r + 1 else 12)), ⟨⟨by split <;> omega, by split <;> omega, tw_ua, ?_, fun k hk => ?_⟩, fun y hy => ?_⟩, fun k => ?_⟩
  · rw [tw_uk (by omega)]; exact tw_ua
  · cases k with
    | zero =>
      have ei : ((if x + 1 < 12 then x + 1 else 0) + 11 - 0) % 12 = x := by split <;> omega
      rw [ei]
      exact Rc_same R1 (fun y h1 h2 => by rw [tw_up_ne (by omega), tw_up_ne (by omega)])
    | succ k =>
      have ei : ((if x + 1 < 12 then x + 1 else 0) + 11 - (k + 1)) % 12 = (x + 11 - k) % 12 := by
        have : k + 1 < 12 := by split at hk <;> omega
        split <;> omega
      have ne : (x + 11 - k) % 12 < x ∨ x < (x + 11 - k) % 12 := by
        have : k + 1 < 12 := by split at hk <;> omega
        omega
      rw [ei]
      have hk2 : k < r := by split at hk <;> omega
      exact Rc_same (e4 k hk2) (fun y h1 h2 => by rw [tw_up_ne (by omega), tw_up_ne (by omega)]; exact F1 y (by omega))
  · rw [tw_up_ne (by omega), tw_up_ne (by omega)]
    exact F1 y (by omega)
  · have hr2 : (if nI 12 < nI (r + 1) then nI 12 else nI (r + 1)) = nI (if r < 12 then r + 1 else 12) := by
      by_cases g : r < 12
      · have a1 : ¬ nI 12 < nI (r + 1) := by rw [nz_lt (by omega) (by omega)]; omega
        rw [if_neg a1, if_pos g]
      · have : r = 12 := by omega
        subst this
        decide
    simp (disch := omega) only [nz_lt] at hr2
    by_cases g : x + 1 < 12
    · rw [if_pos g]
      simp (disch := omega) only [f_X3_remember, e2, ↓c_townAt hMe hMi, ↓hV2, ↓E1, g24, g23, g, hr2, tw_uk, ↓MeV0 hMe, ↓MeG0_22 hMe, ↓MeI0_23 hMe, ↓MeP0_23 hMe, ↓MeZ0_23 hMe, ↓MeI0_24 hMe, ↓MeP0_24 hMe, ↓MeZ0_24 hMe, ↓A_if, ↓A_jn, ↓A_lt, ↓A_rz, ↓A_rn, ↓A_nzi, ↓A_nzl, ↓A_nn1, ↓A_nn0, ↓reduceIte, true_and, and_true, if_true, if_false, ite_true, ite_false, reduceIte, tl_0, tl_1, tl_2, tl_3, tl_4, tl_5, tl_6, tl_7, tl_8, tl_9, tl_10, tl_11, tl_12, tl_13, tl_14, tl_15, tl_16, tl_17, tl_18, tl_19, tl_20, tl_21, tl_22, tl_23, tl_24, tl_25, tl_26, tl_27, tl_28, tl_29, tl_30, tl_31, tl_32, tl_33, tl_34, tl_35, tl_36, tl_37, tl_38, tl_39, tl_40, tl_41, tl_42, tl_43, tl_44, tl_45, tl_46, tl_47, tl_48, tl_49, tl_50, tl_51, tl_52, tl_53, tl_54, tl_57, tl_59, tl_60, tl_62, tl_63, tl_64, tl_97, tl_99, tl_100, tl_120, tl_122, tl_192, tl_193, tl_194, tl_195, tl_196, tl_255, tl_256, tl_299, tl_400, tl_401, tl_492, tl_493, tl_541, tl_849, tl_999, tl_1000, tl_1341, tl_1342, tl_1390, tl_2190, tl_5412, tl_5904, tl_9999, tl_12345, tl_32767, tl_65536, tl_1000000, tl_252645135, tl_858993459, tl_1103515245, tl_1431655765, nz_31, nz_c31, eq_self, or_true, true_or, or_false, false_or, Nat.add_zero, nz_lt, nz_le, nz_eq, nz_cl, nz_sub, nI_add, pk_mul, nt_lt, nf_lt, nf_eq, nz_mI, mI_eq, mI_eq', mI_lt, mI_gt, mI_add, ↓j_max, ↓j_min, Nat.sub_sub, Nat.reduceAdd, Nat.reduceSub, Nat.reduceLT, Nat.reduceEqDiff, Bool.false_eq_true]
    · rw [if_neg g]
      simp (disch := omega) only [f_X3_remember, e2, ↓c_townAt hMe hMi, ↓hV2, ↓E1, g24, g23, g, hr2, tw_uk, ↓MeV0 hMe, ↓MeG0_22 hMe, ↓MeI0_23 hMe, ↓MeP0_23 hMe, ↓MeZ0_23 hMe, ↓MeI0_24 hMe, ↓MeP0_24 hMe, ↓MeZ0_24 hMe, ↓A_if, ↓A_jn, ↓A_lt, ↓A_rz, ↓A_rn, ↓A_nzi, ↓A_nzl, ↓A_nn1, ↓A_nn0, ↓reduceIte, true_and, and_true, if_true, if_false, ite_true, ite_false, reduceIte, tl_0, tl_1, tl_2, tl_3, tl_4, tl_5, tl_6, tl_7, tl_8, tl_9, tl_10, tl_11, tl_12, tl_13, tl_14, tl_15, tl_16, tl_17, tl_18, tl_19, tl_20, tl_21, tl_22, tl_23, tl_24, tl_25, tl_26, tl_27, tl_28, tl_29, tl_30, tl_31, tl_32, tl_33, tl_34, tl_35, tl_36, tl_37, tl_38, tl_39, tl_40, tl_41, tl_42, tl_43, tl_44, tl_45, tl_46, tl_47, tl_48, tl_49, tl_50, tl_51, tl_52, tl_53, tl_54, tl_57, tl_59, tl_60, tl_62, tl_63, tl_64, tl_97, tl_99, tl_100, tl_120, tl_122, tl_192, tl_193, tl_194, tl_195, tl_196, tl_255, tl_256, tl_299, tl_400, tl_401, tl_492, tl_493, tl_541, tl_849, tl_999, tl_1000, tl_1341, tl_1342, tl_1390, tl_2190, tl_5412, tl_5904, tl_9999, tl_12345, tl_32767, tl_65536, tl_1000000, tl_252645135, tl_858993459, tl_1103515245, tl_1431655765, nz_31, nz_c31, eq_self, or_true, true_or, or_false, false_or, Nat.add_zero, nz_lt, nz_le, nz_eq, nz_cl, nz_sub, nI_add, pk_mul, nt_lt, nf_lt, nf_eq, nz_mI, mI_eq, mI_eq', mI_lt, mI_gt, mI_add, ↓j_max, ↓j_min, Nat.sub_sub, Nat.reduceAdd, Nat.reduceSub, Nat.reduceLT, Nat.reduceEqDiff, Bool.false_eq_true]
theorem c_recall (hMe : tw_Me sh b) (hMi : ∀ i, i < 12 → tw_ai sh [3] (b + 31) (nI i) ∧ tw_rr sh (b + 31) i = some (b + 32 + 9 * i)) (hTn : tw_Town sh (b + 3)) (R : tw_Rcl sh μ b (r + 1) x A) : ∃ μ', (tw_RC sh μ' (b + 3) (A 0) ∧ (∃ x', tw_Rcl sh μ' b r x' (fun k => A (k + 1))) ∧ (∀ y, y < b + 3 ∨ (b + 12 ≤ y ∧ y ≠ b + 30) → μ' y = μ y)) ∧ ∀ k, f_X3_recall (b + 30) (b + 3) k (sh, μ, la, n) = k 1 (sh, μ', la, n) := by
  obtain ⟨hr, hx, e1, e2, e4⟩ := R
  have hl : ∃ l, l < 12 ∧ l = (x + 11 - 0) % 12 := ⟨_, Nat.mod_lt _ (by omega), rfl⟩
  obtain ⟨l, hl, el⟩ := hl
  have R0 := e4 0 (by omega)
  rw [← el] at R0
  obtain ⟨μ1, E1, F1, R1⟩ := c_take (la := la) (n := n) hTn R0 (by omega)
  have g23 : μ1 (b + 30) 23 = nI (r + 1) := by rw [F1 (b + 30) (by omega)]; exact e1
  have g24 : μ1 (b + 30) 24 = nI x := by rw [F1 (b + 30) (by omega)]; exact e2
  refine ⟨tw_up (tw_up μ1 (b + 30) 24 (nI l)) (b + 30) 23 (nI r), ⟨Rc_same R1 (fun y h1 h2 => by rw [tw_up_ne (by omega), tw_up_ne (by omega)]), ⟨l, by omega, hl, tw_ua, ?_, fun k hk => ?_⟩, fun y hy => ?_⟩, fun k => ?_⟩
  · rw [tw_uk (by omega)]; exact tw_ua
  · have ei : (l + 11 - k) % 12 = (x + 11 - (k + 1)) % 12 := by omega
    rw [ei]
    exact Rc_same (e4 (k + 1) (by omega)) (fun y h1 h2 => by rw [tw_up_ne (by omega), tw_up_ne (by omega)]; exact F1 y (by omega))
  · rw [tw_up_ne (by omega), tw_up_ne (by omega)]
    exact F1 y (by omega)
  · rcases (by omega : (0 < x ∧ l = x - 1) ∨ (x = 0 ∧ l = 11)) with ⟨g, rfl⟩ | ⟨rfl, rfl⟩
    · simp (disch := omega) only [f_X3_recall, e1, e2, g, ↓c_townAt hMe hMi, ↓E1, g24, g23, tw_uk, TnV0 hTn, Nat.add_sub_cancel, ↓MeV0 hMe, ↓MeG0_22 hMe, ↓MeI0_23 hMe, ↓MeP0_23 hMe, ↓MeZ0_23 hMe, ↓MeI0_24 hMe, ↓MeP0_24 hMe, ↓MeZ0_24 hMe, ↓A_if, ↓A_jn, ↓A_lt, ↓A_rz, ↓A_rn, ↓A_nzi, ↓A_nzl, ↓A_nn1, ↓A_nn0, ↓reduceIte, true_and, and_true, if_true, if_false, ite_true, ite_false, reduceIte, tl_0, tl_1, tl_2, tl_3, tl_4, tl_5, tl_6, tl_7, tl_8, tl_9, tl_10, tl_11, tl_12, tl_13, tl_14, tl_15, tl_16, tl_17, tl_18, tl_19, tl_20, tl_21, tl_22, tl_23, tl_24, tl_25, tl_26, tl_27, tl_28, tl_29, tl_30, tl_31, tl_32, tl_33, tl_34, tl_35, tl_36, tl_37, tl_38, tl_39, tl_40, tl_41, tl_42, tl_43, tl_44, tl_45, tl_46, tl_47, tl_48, tl_49, tl_50, tl_51, tl_52, tl_53, tl_54, tl_57, tl_59, tl_60, tl_62, tl_63, tl_64, tl_97, tl_99, tl_100, tl_120, tl_122, tl_192, tl_193, tl_194, tl_195, tl_196, tl_255, tl_256, tl_299, tl_400, tl_401, tl_492, tl_493, tl_541, tl_849, tl_999, tl_1000, tl_1341, tl_1342, tl_1390, tl_2190, tl_5412, tl_5904, tl_9999, tl_12345, tl_32767, tl_65536, tl_1000000, tl_252645135, tl_858993459, tl_1103515245, tl_1431655765, nz_31, nz_c31, eq_self, or_true, true_or, or_false, false_or, Nat.add_zero, nz_lt, nz_le, nz_eq, nz_cl, nz_sub, nI_add, pk_mul, nt_lt, nf_lt, nf_eq, nz_mI, mI_eq, mI_eq', mI_lt, mI_gt, mI_add, ↓j_max, ↓j_min, Nat.sub_sub, Nat.reduceAdd, Nat.reduceSub, Nat.reduceLT, Nat.reduceEqDiff, Bool.false_eq_true]
    · simp (disch := omega) only [f_X3_recall, e1, e2, ↓c_townAt hMe hMi, ↓E1, g24, g23, tw_uk, TnV0 hTn, Nat.add_sub_cancel, ↓MeV0 hMe, ↓MeG0_22 hMe, ↓MeI0_23 hMe, ↓MeP0_23 hMe, ↓MeZ0_23 hMe, ↓MeI0_24 hMe, ↓MeP0_24 hMe, ↓MeZ0_24 hMe, ↓A_if, ↓A_jn, ↓A_lt, ↓A_rz, ↓A_rn, ↓A_nzi, ↓A_nzl, ↓A_nn1, ↓A_nn0, ↓reduceIte, true_and, and_true, if_true, if_false, ite_true, ite_false, reduceIte, tl_0, tl_1, tl_2, tl_3, tl_4, tl_5, tl_6, tl_7, tl_8, tl_9, tl_10, tl_11, tl_12, tl_13, tl_14, tl_15, tl_16, tl_17, tl_18, tl_19, tl_20, tl_21, tl_22, tl_23, tl_24, tl_25, tl_26, tl_27, tl_28, tl_29, tl_30, tl_31, tl_32, tl_33, tl_34, tl_35, tl_36, tl_37, tl_38, tl_39, tl_40, tl_41, tl_42, tl_43, tl_44, tl_45, tl_46, tl_47, tl_48, tl_49, tl_50, tl_51, tl_52, tl_53, tl_54, tl_57, tl_59, tl_60, tl_62, tl_63, tl_64, tl_97, tl_99, tl_100, tl_120, tl_122, tl_192, tl_193, tl_194, tl_195, tl_196, tl_255, tl_256, tl_299, tl_400, tl_401, tl_492, tl_493, tl_541, tl_849, tl_999, tl_1000, tl_1341, tl_1342, tl_1390, tl_2190, tl_5412, tl_5904, tl_9999, tl_12345, tl_32767, tl_65536, tl_1000000, tl_252645135, tl_858993459, tl_1103515245, tl_1431655765, nz_31, nz_c31, eq_self, or_true, true_or, or_false, false_or, Nat.add_zero, nz_lt, nz_le, nz_eq, nz_cl, nz_sub, nI_add, pk_mul, nt_lt, nf_lt, nf_eq, nz_mI, mI_eq, mI_eq', mI_lt, mI_gt, mI_add, ↓j_max, ↓j_min, Nat.sub_sub, Nat.reduceAdd, Nat.reduceSub, Nat.reduceLT, Nat.reduceEqDiff, Bool.false_eq_true]
/-- the model's rows put down by one -/
def tw_dn (s : Nat → Int32) (i : Nat) : Nat → Int32 := fun j => if j < i then s (j + 492) else s j
theorem tw_dn_s (s : Nat → Int32) (i : Nat) : tw_u1 (tw_dn s i) i (s (i + 492)) = tw_dn s (i + 1) := by
  funext j
  unfold tw_u1 tw_dn
  by_cases h : j = i
  · subst h; rw [if_pos rfl, if_pos (by omega)]
  · rw [if_neg h]
    by_cases h2 : j < i
    · rw [if_pos h2, if_pos (by omega)]
    · rw [if_neg h2, if_neg (by omega)]
/-- the world put behind off rows -/
def tw_pt2 (s t : Nat → Int32) (off i : Nat) : Nat → Int32 := fun j => if off ≤ j ∧ j < off + i then t (j - off) else s j
theorem tw_pt2_s (s t : Nat → Int32) (off i : Nat) : tw_u1 (tw_pt2 s t off i) (off + i) (t i) = tw_pt2 s t off (i + 1) := by
  funext j
  unfold tw_u1 tw_pt2
  by_cases h : j = off + i
  · subst h
    rw [if_pos rfl, if_pos (by omega)]
    congr 1
    omega
  · rw [if_neg h]
    by_cases h2 : off ≤ j ∧ j < off + i
    · rw [if_pos h2, if_pos (by omega)]
    · rw [if_neg h2, if_neg (by omega)]
theorem m_remB (hM : tw_Mo sh m) (hr : r < 12) (e : μ m 77 = nI (r + 1)) {s4 : Nat → Int32} (k : Unit → tw_Mem → Prop) : tw_lp (fun (r4 : Int32 → tw_Mem → Prop) (s5 : Int32) => tw_if (s5 < (492 : Int32)) (tw_gr 75 m fun x6 => tw_gi 77 m fun x7 => tw_gr 71 m fun x8 => tw_li x8 s5 fun x9 => tw_si x6 (((492 : Int32) * (x7 - (1 : Int32))) + s5) x9 (r4 (s5 + (1 : Int32)))) (k ())) (0 : Int32) (sh, μ, la, n) = k () (sh, tw_ra μ (m + 5) (tw_pt2 (μ (m + 5)) (μ (m + 1)) (492 * r) 492), la, n) := by
  refine tw_lp_for 492 (fun i => nI i) (fun i => (sh, tw_ra μ (m + 5) (tw_pt2 (μ (m + 5)) (μ (m + 1)) (492 * r) i), la, n)) rfl ?_ ?_ ?_
  · have e0 : tw_pt2 (μ (m + 5)) (μ (m + 1)) (492 * r) 0 = μ (m + 5) := by funext j; exact if_neg (by omega)
    show (sh, tw_ra μ (m + 5) (tw_pt2 (μ (m + 5)) (μ (m + 1)) (492 * r) 0), la, n) = _
    rw [e0, tw_ra_s]
  · intro i hi rec
    simp (disch := omega) only [tw_ra_nj, e, Nat.add_sub_cancel, tw_up_ra, tw_pt2_s, ↓MoV0 hM, ↓MoI0_70 hM, ↓MoP0_70 hM, ↓MoZ0_70 hM, ↓MoG0_71 hM, ↓MoG0_72 hM, ↓MoG0_73 hM, ↓MoG0_74 hM, ↓MoG0_75 hM, ↓MoI0_76 hM, ↓MoP0_76 hM, ↓MoZ0_76 hM, ↓MoI0_77 hM, ↓MoP0_77 hM, ↓MoZ0_77 hM, ↓MoG0_78 hM, ↓MoI0_79 hM, ↓MoP0_79 hM, ↓MoZ0_79 hM, ↓MoI0_80 hM, ↓MoP0_80 hM, ↓MoZ0_80 hM, ↓MoI0_81 hM, ↓MoP0_81 hM, ↓MoZ0_81 hM, ↓MoI0_82 hM, ↓MoP0_82 hM, ↓MoZ0_82 hM, ↓MoI0_83 hM, ↓MoP0_83 hM, ↓MoZ0_83 hM, ↓MoI0_84 hM, ↓MoP0_84 hM, ↓MoZ0_84 hM, ↓MoG0_85 hM, ↓MoI0_86 hM, ↓MoP0_86 hM, ↓MoZ0_86 hM, ↓MoG0_87 hM, ↓MoI0_88 hM, ↓MoP0_88 hM, ↓MoZ0_88 hM, ↓MoG0_89 hM, ↓MoG0_90 hM, ↓MoG0_91 hM, ↓MoG0_92 hM, ↓MoL0 hM, ↓MoS0 hM, ↓MoL1 hM, ↓MoS1 hM, ↓MoL2 hM, ↓MoS2 hM, ↓MoL3 hM, ↓MoS3 hM, ↓MoL4 hM, ↓MoS4 hM, ↓MoL5 hM, ↓MoS5 hM, ↓MoL6 hM, ↓MoS6 hM, ↓MoL7 hM, ↓MoS7 hM, ↓MoL8 hM, ↓MoS8 hM, ↓MoL9 hM, ↓MoS9 hM, ↓MoL10 hM, ↓MoS10 hM, ↓MoL11 hM, ↓MoS11 hM, ↓A_if, ↓A_jn, ↓A_lt, ↓A_rz, ↓A_rn, ↓A_nzi, ↓A_nzl, ↓A_nn1, ↓A_nn0, ↓reduceIte, true_and, and_true, if_true, if_false, ite_true, ite_false, reduceIte, tl_0, tl_1, tl_2, tl_3, tl_4, tl_5, tl_6, tl_7, tl_8, tl_9, tl_10, tl_11, tl_12, tl_13, tl_14, tl_15, tl_16, tl_17, tl_18, tl_19, tl_20, tl_21, tl_22, tl_23, tl_24, tl_25, tl_26, tl_27, tl_28, tl_29, tl_30, tl_31, tl_32, tl_33, tl_34, tl_35, tl_36, tl_37, tl_38, tl_39, tl_40, tl_41, tl_42, tl_43, tl_44, tl_45, tl_46, tl_47, tl_48, tl_49, tl_50, tl_51, tl_52, tl_53, tl_54, tl_57, tl_59, tl_60, tl_62, tl_63, tl_64, tl_97, tl_99, tl_100, tl_120, tl_122, tl_192, tl_193, tl_194, tl_195, tl_196, tl_255, tl_256, tl_299, tl_400, tl_401, tl_492, tl_493, tl_541, tl_849, tl_999, tl_1000, tl_1341, tl_1342, tl_1390, tl_2190, tl_5412, tl_5904, tl_9999, tl_12345, tl_32767, tl_65536, tl_1000000, tl_252645135, tl_858993459, tl_1103515245, tl_1431655765, nz_31, nz_c31, eq_self, or_true, true_or, or_false, false_or, Nat.add_zero, nz_lt, nz_le, nz_eq, nz_cl, nz_sub, nI_add, pk_mul, nt_lt, nf_lt, nf_eq, nz_mI, mI_eq, mI_eq', mI_lt, mI_gt, mI_add, ↓j_max, ↓j_min, Nat.sub_sub, Nat.reduceAdd, Nat.reduceSub, Nat.reduceLT, Nat.reduceEqDiff, Bool.false_eq_true]
  · intro rec
    simp (disch := omega) only [↓MoV0 hM, ↓MoI0_70 hM, ↓MoP0_70 hM, ↓MoZ0_70 hM, ↓MoG0_71 hM, ↓MoG0_72 hM, ↓MoG0_73 hM, ↓MoG0_74 hM, ↓MoG0_75 hM, ↓MoI0_76 hM, ↓MoP0_76 hM, ↓MoZ0_76 hM, ↓MoI0_77 hM, ↓MoP0_77 hM, ↓MoZ0_77 hM, ↓MoG0_78 hM, ↓MoI0_79 hM, ↓MoP0_79 hM, ↓MoZ0_79 hM, ↓MoI0_80 hM, ↓MoP0_80 hM, ↓MoZ0_80 hM, ↓MoI0_81 hM, ↓MoP0_81 hM, ↓MoZ0_81 hM, ↓MoI0_82 hM, ↓MoP0_82 hM, ↓MoZ0_82 hM, ↓MoI0_83 hM, ↓MoP0_83 hM, ↓MoZ0_83 hM, ↓MoI0_84 hM, ↓MoP0_84 hM, ↓MoZ0_84 hM, ↓MoG0_85 hM, ↓MoI0_86 hM, ↓MoP0_86 hM, ↓MoZ0_86 hM, ↓MoG0_87 hM, ↓MoI0_88 hM, ↓MoP0_88 hM, ↓MoZ0_88 hM, ↓MoG0_89 hM, ↓MoG0_90 hM, ↓MoG0_91 hM, ↓MoG0_92 hM, ↓MoL0 hM, ↓MoS0 hM, ↓MoL1 hM, ↓MoS1 hM, ↓MoL2 hM, ↓MoS2 hM, ↓MoL3 hM, ↓MoS3 hM, ↓MoL4 hM, ↓MoS4 hM, ↓MoL5 hM, ↓MoS5 hM, ↓MoL6 hM, ↓MoS6 hM, ↓MoL7 hM, ↓MoS7 hM, ↓MoL8 hM, ↓MoS8 hM, ↓MoL9 hM, ↓MoS9 hM, ↓MoL10 hM, ↓MoS10 hM, ↓MoL11 hM, ↓MoS11 hM, ↓A_if, ↓A_jn, ↓A_lt, ↓A_rz, ↓A_rn, ↓A_nzi, ↓A_nzl, ↓A_nn1, ↓A_nn0, ↓reduceIte, true_and, and_true, if_true, if_false, ite_true, ite_false, reduceIte, tl_0, tl_1, tl_2, tl_3, tl_4, tl_5, tl_6, tl_7, tl_8, tl_9, tl_10, tl_11, tl_12, tl_13, tl_14, tl_15, tl_16, tl_17, tl_18, tl_19, tl_20, tl_21, tl_22, tl_23, tl_24, tl_25, tl_26, tl_27, tl_28, tl_29, tl_30, tl_31, tl_32, tl_33, tl_34, tl_35, tl_36, tl_37, tl_38, tl_39, tl_40, tl_41, tl_42, tl_43, tl_44, tl_45, tl_46, tl_47, tl_48, tl_49, tl_50, tl_51, tl_52, tl_53, tl_54, tl_57, tl_59, tl_60, tl_62, tl_63, tl_64, tl_97, tl_99, tl_100, tl_120, tl_122, tl_192, tl_193, tl_194, tl_195, tl_196, tl_255, tl_256, tl_299, tl_400, tl_401, tl_492, tl_493, tl_541, tl_849, tl_999, tl_1000, tl_1341, tl_1342, tl_1390, tl_2190, tl_5412, tl_5904, tl_9999, tl_12345, tl_32767, tl_65536, tl_1000000, tl_252645135, tl_858993459, tl_1103515245, tl_1431655765, nz_31, nz_c31, eq_self, or_true, true_or, or_false, false_or, Nat.add_zero, nz_lt, nz_le, nz_eq, nz_cl, nz_sub, nI_add, pk_mul, nt_lt, nf_lt, nf_eq, nz_mI, mI_eq, mI_eq', mI_lt, mI_gt, mI_add, ↓j_max, ↓j_min, Nat.sub_sub, Nat.reduceAdd, Nat.reduceSub, Nat.reduceLT, Nat.reduceEqDiff, Bool.false_eq_true]
theorem m_remember (hM : tw_Mo sh m) (hr : r ≤ 12) (R : tw_Rmo μ m r A) : ∃ μ', (tw_Rmo μ' m (if r < 12 then r + 1 else 12) (tw_cons (μ (m + 1)) A) ∧ (∀ y, y ≠ m → y ≠ m + 5 → μ' y = μ y) ∧ ∀ j, j ≠ 77 → μ' m j = μ m j) ∧ ∀ (la : Nat → Nat → Int64) (n : Nat) (k : Unit → tw_Mem → Prop), f_X12_remembers m k (sh, μ, la, n) = k () (sh, μ', la, n) := by
  obtain ⟨e1, e2⟩ := R
  by_cases g : r < 12
  · rw [if_pos g]
    have eu : tw_up μ m 77 (nI (r + 1)) m 77 = nI (r + 1) := tw_ua
    have E := fun (la : Nat → Nat → Int64) (n : Nat) k => m_remB (la := la) (n := n) (μ := tw_up μ m 77 (nI (r + 1))) (s4 := μ m) hM g eu k
    refine ⟨tw_ra (tw_up μ m 77 (nI (r + 1))) (m + 5) (tw_pt2 (tw_up μ m 77 (nI (r + 1)) (m + 5)) (tw_up μ m 77 (nI (r + 1)) (m + 1)) (492 * r) 492), ⟨⟨?_, fun k hk j hj => ?_⟩, fun y h1 h2 => ?_, fun j hj => ?_⟩, fun la n k => ?_⟩
    · rw [tw_ra_n (by omega)]; exact tw_ua
    · rw [tw_ra_a, tw_up_ne (by omega), tw_up_ne (by omega)]
      unfold tw_pt2
      cases k with
      | zero =>
        rw [if_pos (by omega)]
        show μ (m + 1) _ = μ (m + 1) j
        congr 1
        omega
      | succ k =>
        rw [if_neg (by omega)]
        have := e2 k (by omega) j hj
        have e3 : r + 1 - 1 - (k + 1) = r - 1 - k := by omega
        rw [e3]
        exact this
    · rw [tw_ra_n (by omega), tw_up_ne h1]
    · rw [tw_ra_n (by omega)]; exact tw_uk (by omega)
    · rw [← E la n k]
      simp (disch := omega) only [f_X12_remembers, e1, ↓MoV0 hM, ↓MoI0_70 hM, ↓MoP0_70 hM, ↓MoZ0_70 hM, ↓MoG0_71 hM, ↓MoG0_72 hM, ↓MoG0_73 hM, ↓MoG0_74 hM, ↓MoG0_75 hM, ↓MoI0_76 hM, ↓MoP0_76 hM, ↓MoZ0_76 hM, ↓MoI0_77 hM, ↓MoP0_77 hM, ↓MoZ0_77 hM, ↓MoG0_78 hM, ↓MoI0_79 hM, ↓MoP0_79 hM, ↓MoZ0_79 hM, ↓MoI0_80 hM, ↓MoP0_80 hM, ↓MoZ0_80 hM, ↓MoI0_81 hM, ↓MoP0_81 hM, ↓MoZ0_81 hM, ↓MoI0_82 hM, ↓MoP0_82 hM, ↓MoZ0_82 hM, ↓MoI0_83 hM, ↓MoP0_83 hM, ↓MoZ0_83 hM, ↓MoI0_84 hM, ↓MoP0_84 hM, ↓MoZ0_84 hM, ↓MoG0_85 hM, ↓MoI0_86 hM, ↓MoP0_86 hM, ↓MoZ0_86 hM, ↓MoG0_87 hM, ↓MoI0_88 hM, ↓MoP0_88 hM, ↓MoZ0_88 hM, ↓MoG0_89 hM, ↓MoG0_90 hM, ↓MoG0_91 hM, ↓MoG0_92 hM, ↓MoL0 hM, ↓MoS0 hM, ↓MoL1 hM, ↓MoS1 hM, ↓MoL2 hM, ↓MoS2 hM, ↓MoL3 hM, ↓MoS3 hM, ↓MoL4 hM, ↓MoS4 hM, ↓MoL5 hM, ↓MoS5 hM, ↓MoL6 hM, ↓MoS6 hM, ↓MoL7 hM, ↓MoS7 hM, ↓MoL8 hM, ↓MoS8 hM, ↓MoL9 hM, ↓MoS9 hM, ↓MoL10 hM, ↓MoS10 hM, ↓MoL11 hM, ↓MoS11 hM, ↓A_if, ↓A_jn, ↓A_lt, ↓A_rz, ↓A_rn, ↓A_nzi, ↓A_nzl, ↓A_nn1, ↓A_nn0, ↓reduceIte, true_and, and_true, if_true, if_false, ite_true, ite_false, reduceIte, tl_0, tl_1, tl_2, tl_3, tl_4, tl_5, tl_6, tl_7, tl_8, tl_9, tl_10, tl_11, tl_12, tl_13, tl_14, tl_15, tl_16, tl_17, tl_18, tl_19, tl_20, tl_21, tl_22, tl_23, tl_24, tl_25, tl_26, tl_27, tl_28, tl_29, tl_30, tl_31, tl_32, tl_33, tl_34, tl_35, tl_36, tl_37, tl_38, tl_39, tl_40, tl_41, tl_42, tl_43, tl_44, tl_45, tl_46, tl_47, tl_48, tl_49, tl_50, tl_51, tl_52, tl_53, tl_54, tl_57, tl_59, tl_60, tl_62, tl_63, tl_64, tl_97, tl_99, tl_100, tl_120, tl_122, tl_192, tl_193, tl_194, tl_195, tl_196, tl_255, tl_256, tl_299, tl_400, tl_401, tl_492, tl_493, tl_541, tl_849, tl_999, tl_1000, tl_1341, tl_1342, tl_1390, tl_2190, tl_5412, tl_5904, tl_9999, tl_12345, tl_32767, tl_65536, tl_1000000, tl_252645135, tl_858993459, tl_1103515245, tl_1431655765, nz_31, nz_c31, eq_self, or_true, true_or, or_false, false_or, Nat.add_zero, nz_lt, nz_le, nz_eq, nz_cl, nz_sub, nI_add, pk_mul, nt_lt, nf_lt, nf_eq, nz_mI, mI_eq, mI_eq', mI_lt, mI_gt, mI_add, ↓j_max, ↓j_min, Nat.sub_sub, Nat.reduceAdd, Nat.reduceSub, Nat.reduceLT, Nat.reduceEqDiff, Bool.false_eq_true]
  · have hr12 : r = 12 := by omega
    subst hr12
    rw [if_neg g]
    have e77 : tw_ra μ (m + 5) (tw_dn (μ (m + 5)) 5412) m 77 = nI (11 + 1) := by rw [tw_ra_n (by omega)]; exact e1
    have E := fun (la : Nat → Nat → Int64) (n : Nat) k => m_remB (la := la) (n := n) (μ := tw_ra μ (m + 5) (tw_dn (μ (m + 5)) 5412)) (s4 := μ m) (r := 11) hM (by omega) e77 k
    refine ⟨tw_ra (tw_ra μ (m + 5) (tw_dn (μ (m + 5)) 5412)) (m + 5) (tw_pt2 (tw_ra μ (m + 5) (tw_dn (μ (m + 5)) 5412) (m + 5)) (tw_ra μ (m + 5) (tw_dn (μ (m + 5)) 5412) (m + 1)) (492 * 11) 492), ⟨⟨?_, fun k hk j hj => ?_⟩, fun y h1 h2 => ?_, fun j hj => ?_⟩, fun la n k => ?_⟩
    · rw [tw_ra_n (by omega), tw_ra_n (by omega)]; exact e1
    · rw [tw_ra_a, tw_ra_a, tw_ra_n (by omega)]
      unfold tw_pt2
      cases k with
      | zero =>
        rw [if_pos (by omega)]
        have e9 : 492 * (12 - 1 - 0) + j - 492 * 11 = j := by omega
        rw [e9]
        rfl
      | succ k =>
        rw [if_neg (by omega)]
        unfold tw_dn
        rw [if_pos (by omega)]
        have := e2 k (by omega) j hj
        have e3 : 492 * (12 - 1 - (k + 1)) + j + 492 = 492 * (12 - 1 - k) + j := by omega
        rw [e3]
        exact this
    · rw [tw_ra_n (by omega), tw_ra_n (by omega)]
    · rw [tw_ra_n (by omega), tw_ra_n (by omega)]
    · rw [← E la n k]
      simp (disch := omega) only [f_X12_remembers, e1, ↓MoV0 hM, ↓MoI0_70 hM, ↓MoP0_70 hM, ↓MoZ0_70 hM, ↓MoG0_71 hM, ↓MoG0_72 hM, ↓MoG0_73 hM, ↓MoG0_74 hM, ↓MoG0_75 hM, ↓MoI0_76 hM, ↓MoP0_76 hM, ↓MoZ0_76 hM, ↓MoI0_77 hM, ↓MoP0_77 hM, ↓MoZ0_77 hM, ↓MoG0_78 hM, ↓MoI0_79 hM, ↓MoP0_79 hM, ↓MoZ0_79 hM, ↓MoI0_80 hM, ↓MoP0_80 hM, ↓MoZ0_80 hM, ↓MoI0_81 hM, ↓MoP0_81 hM, ↓MoZ0_81 hM, ↓MoI0_82 hM, ↓MoP0_82 hM, ↓MoZ0_82 hM, ↓MoI0_83 hM, ↓MoP0_83 hM, ↓MoZ0_83 hM, ↓MoI0_84 hM, ↓MoP0_84 hM, ↓MoZ0_84 hM, ↓MoG0_85 hM, ↓MoI0_86 hM, ↓MoP0_86 hM, ↓MoZ0_86 hM, ↓MoG0_87 hM, ↓MoI0_88 hM, ↓MoP0_88 hM, ↓MoZ0_88 hM, ↓MoG0_89 hM, ↓MoG0_90 hM, ↓MoG0_91 hM, ↓MoG0_92 hM, ↓MoL0 hM, ↓MoS0 hM, ↓MoL1 hM, ↓MoS1 hM, ↓MoL2 hM, ↓MoS2 hM, ↓MoL3 hM, ↓MoS3 hM, ↓MoL4 hM, ↓MoS4 hM, ↓MoL5 hM, ↓MoS5 hM, ↓MoL6 hM, ↓MoS6 hM, ↓MoL7 hM, ↓MoS7 hM, ↓MoL8 hM, ↓MoS8 hM, ↓MoL9 hM, ↓MoS9 hM, ↓MoL10 hM, ↓MoS10 hM, ↓MoL11 hM, ↓MoS11 hM, ↓A_if, ↓A_jn, ↓A_lt, ↓A_rz, ↓A_rn, ↓A_nzi, ↓A_nzl, ↓A_nn1, ↓A_nn0, ↓reduceIte, true_and, and_true, if_true, if_false, ite_true, ite_false, reduceIte, tl_0, tl_1, tl_2, tl_3, tl_4, tl_5, tl_6, tl_7, tl_8, tl_9, tl_10, tl_11, tl_12, tl_13, tl_14, tl_15, tl_16, tl_17, tl_18, tl_19, tl_20, tl_21, tl_22, tl_23, tl_24, tl_25, tl_26, tl_27, tl_28, tl_29, tl_30, tl_31, tl_32, tl_33, tl_34, tl_35, tl_36, tl_37, tl_38, tl_39, tl_40, tl_41, tl_42, tl_43, tl_44, tl_45, tl_46, tl_47, tl_48, tl_49, tl_50, tl_51, tl_52, tl_53, tl_54, tl_57, tl_59, tl_60, tl_62, tl_63, tl_64, tl_97, tl_99, tl_100, tl_120, tl_122, tl_192, tl_193, tl_194, tl_195, tl_196, tl_255, tl_256, tl_299, tl_400, tl_401, tl_492, tl_493, tl_541, tl_849, tl_999, tl_1000, tl_1341, tl_1342, tl_1390, tl_2190, tl_5412, tl_5904, tl_9999, tl_12345, tl_32767, tl_65536, tl_1000000, tl_252645135, tl_858993459, tl_1103515245, tl_1431655765, nz_31, nz_c31, eq_self, or_true, true_or, or_false, false_or, Nat.add_zero, nz_lt, nz_le, nz_eq, nz_cl, nz_sub, nI_add, pk_mul, nt_lt, nf_lt, nf_eq, nz_mI, mI_eq, mI_eq', mI_lt, mI_gt, mI_add, ↓j_max, ↓j_min, Nat.sub_sub, Nat.reduceAdd, Nat.reduceSub, Nat.reduceLT, Nat.reduceEqDiff, Bool.false_eq_true]
      refine tw_lp_for 5412 (fun i => nI i) (fun i => (sh, tw_ra μ (m + 5) (tw_dn (μ (m + 5)) i), la, n)) rfl ?_ ?_ ?_
      · have e0 : tw_dn (μ (m + 5)) 0 = μ (m + 5) := by funext j; exact if_neg (by omega)
        show (sh, tw_ra μ (m + 5) (tw_dn (μ (m + 5)) 0), la, n) = _
        rw [e0, tw_ra_s]
      · intro i hi rec
        have e5 : tw_dn (μ (m + 5)) i (i + 492) = μ (m + 5) (i + 492) := if_neg (by omega)
        simp (disch := omega) only [tw_ra_aj, e5, tw_up_ra, tw_dn_s, ↓MoV0 hM, ↓MoI0_70 hM, ↓MoP0_70 hM, ↓MoZ0_70 hM, ↓MoG0_71 hM, ↓MoG0_72 hM, ↓MoG0_73 hM, ↓MoG0_74 hM, ↓MoG0_75 hM, ↓MoI0_76 hM, ↓MoP0_76 hM, ↓MoZ0_76 hM, ↓MoI0_77 hM, ↓MoP0_77 hM, ↓MoZ0_77 hM, ↓MoG0_78 hM, ↓MoI0_79 hM, ↓MoP0_79 hM, ↓MoZ0_79 hM, ↓MoI0_80 hM, ↓MoP0_80 hM, ↓MoZ0_80 hM, ↓MoI0_81 hM, ↓MoP0_81 hM, ↓MoZ0_81 hM, ↓MoI0_82 hM, ↓MoP0_82 hM, ↓MoZ0_82 hM, ↓MoI0_83 hM, ↓MoP0_83 hM, ↓MoZ0_83 hM, ↓MoI0_84 hM, ↓MoP0_84 hM, ↓MoZ0_84 hM, ↓MoG0_85 hM, ↓MoI0_86 hM, ↓MoP0_86 hM, ↓MoZ0_86 hM, ↓MoG0_87 hM, ↓MoI0_88 hM, ↓MoP0_88 hM, ↓MoZ0_88 hM, ↓MoG0_89 hM, ↓MoG0_90 hM, ↓MoG0_91 hM, ↓MoG0_92 hM, ↓MoL0 hM, ↓MoS0 hM, ↓MoL1 hM, ↓MoS1 hM, ↓MoL2 hM, ↓MoS2 hM, ↓MoL3 hM, ↓MoS3 hM, ↓MoL4 hM, ↓MoS4 hM, ↓MoL5 hM, ↓MoS5 hM, ↓MoL6 hM, ↓MoS6 hM, ↓MoL7 hM, ↓MoS7 hM, ↓MoL8 hM, ↓MoS8 hM, ↓MoL9 hM, ↓MoS9 hM, ↓MoL10 hM, ↓MoS10 hM, ↓MoL11 hM, ↓MoS11 hM, ↓A_if, ↓A_jn, ↓A_lt, ↓A_rz, ↓A_rn, ↓A_nzi, ↓A_nzl, ↓A_nn1, ↓A_nn0, ↓reduceIte, true_and, and_true, if_true, if_false, ite_true, ite_false, reduceIte, tl_0, tl_1, tl_2, tl_3, tl_4, tl_5, tl_6, tl_7, tl_8, tl_9, tl_10, tl_11, tl_12, tl_13, tl_14, tl_15, tl_16, tl_17, tl_18, tl_19, tl_20, tl_21, tl_22, tl_23, tl_24, tl_25, tl_26, tl_27, tl_28, tl_29, tl_30, tl_31, tl_32, tl_33, tl_34, tl_35, tl_36, tl_37, tl_38, tl_39, tl_40, tl_41, tl_42, tl_43, tl_44, tl_45, tl_46, tl_47, tl_48, tl_49, tl_50, tl_51, tl_52, tl_53, tl_54, tl_57, tl_59, tl_60, tl_62, tl_63, tl_64, tl_97, tl_99, tl_100, tl_120, tl_122, tl_192, tl_193, tl_194, tl_195, tl_196, tl_255, tl_256, tl_299, tl_400, tl_401, tl_492, tl_493, tl_541, tl_849, tl_999, tl_1000, tl_1341, tl_1342, tl_1390, tl_2190, tl_5412, tl_5904, tl_9999, tl_12345, tl_32767, tl_65536, tl_1000000, tl_252645135, tl_858993459, tl_1103515245, tl_1431655765, nz_31, nz_c31, eq_self, or_true, true_or, or_false, false_or, Nat.add_zero, nz_lt, nz_le, nz_eq, nz_cl, nz_sub, nI_add, pk_mul, nt_lt, nf_lt, nf_eq, nz_mI, mI_eq, mI_eq', mI_lt, mI_gt, mI_add, ↓j_max, ↓j_min, Nat.sub_sub, Nat.reduceAdd, Nat.reduceSub, Nat.reduceLT, Nat.reduceEqDiff, Bool.false_eq_true]
      · intro rec
        simp (disch := omega) only [↓MoV0 hM, ↓MoI0_70 hM, ↓MoP0_70 hM, ↓MoZ0_70 hM, ↓MoG0_71 hM, ↓MoG0_72 hM, ↓MoG0_73 hM, ↓MoG0_74 hM, ↓MoG0_75 hM, ↓MoI0_76 hM, ↓MoP0_76 hM, ↓MoZ0_76 hM, ↓MoI0_77 hM, ↓MoP0_77 hM, ↓MoZ0_77 hM, ↓MoG0_78 hM, ↓MoI0_79 hM, ↓MoP0_79 hM, ↓MoZ0_79 hM, ↓MoI0_80 hM, ↓MoP0_80 hM, ↓MoZ0_80 hM, ↓MoI0_81 hM, ↓MoP0_81 hM, ↓MoZ0_81 hM, ↓MoI0_82 hM, ↓MoP0_82 hM, ↓MoZ0_82 hM, ↓MoI0_83 hM, ↓MoP0_83 hM, ↓MoZ0_83 hM, ↓MoI0_84 hM, ↓MoP0_84 hM, ↓MoZ0_84 hM, ↓MoG0_85 hM, ↓MoI0_86 hM, ↓MoP0_86 hM, ↓MoZ0_86 hM, ↓MoG0_87 hM, ↓MoI0_88 hM, ↓MoP0_88 hM, ↓MoZ0_88 hM, ↓MoG0_89 hM, ↓MoG0_90 hM, ↓MoG0_91 hM, ↓MoG0_92 hM, ↓MoL0 hM, ↓MoS0 hM, ↓MoL1 hM, ↓MoS1 hM, ↓MoL2 hM, ↓MoS2 hM, ↓MoL3 hM, ↓MoS3 hM, ↓MoL4 hM, ↓MoS4 hM, ↓MoL5 hM, ↓MoS5 hM, ↓MoL6 hM, ↓MoS6 hM, ↓MoL7 hM, ↓MoS7 hM, ↓MoL8 hM, ↓MoS8 hM, ↓MoL9 hM, ↓MoS9 hM, ↓MoL10 hM, ↓MoS10 hM, ↓MoL11 hM, ↓MoS11 hM, ↓A_if, ↓A_jn, ↓A_lt, ↓A_rz, ↓A_rn, ↓A_nzi, ↓A_nzl, ↓A_nn1, ↓A_nn0, ↓reduceIte, true_and, and_true, if_true, if_false, ite_true, ite_false, reduceIte, tl_0, tl_1, tl_2, tl_3, tl_4, tl_5, tl_6, tl_7, tl_8, tl_9, tl_10, tl_11, tl_12, tl_13, tl_14, tl_15, tl_16, tl_17, tl_18, tl_19, tl_20, tl_21, tl_22, tl_23, tl_24, tl_25, tl_26, tl_27, tl_28, tl_29, tl_30, tl_31, tl_32, tl_33, tl_34, tl_35, tl_36, tl_37, tl_38, tl_39, tl_40, tl_41, tl_42, tl_43, tl_44, tl_45, tl_46, tl_47, tl_48, tl_49, tl_50, tl_51, tl_52, tl_53, tl_54, tl_57, tl_59, tl_60, tl_62, tl_63, tl_64, tl_97, tl_99, tl_100, tl_120, tl_122, tl_192, tl_193, tl_194, tl_195, tl_196, tl_255, tl_256, tl_299, tl_400, tl_401, tl_492, tl_493, tl_541, tl_849, tl_999, tl_1000, tl_1341, tl_1342, tl_1390, tl_2190, tl_5412, tl_5904, tl_9999, tl_12345, tl_32767, tl_65536, tl_1000000, tl_252645135, tl_858993459, tl_1103515245, tl_1431655765, nz_31, nz_c31, eq_self, or_true, true_or, or_false, false_or, Nat.add_zero, nz_lt, nz_le, nz_eq, nz_cl, nz_sub, nI_add, pk_mul, nt_lt, nf_lt, nf_eq, nz_mI, mI_eq, mI_eq', mI_lt, mI_gt, mI_add, ↓j_max, ↓j_min, Nat.sub_sub, Nat.reduceAdd, Nat.reduceSub, Nat.reduceLT, Nat.reduceEqDiff, Bool.false_eq_true]
end P69
