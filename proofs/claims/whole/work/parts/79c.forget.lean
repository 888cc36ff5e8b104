/-! ===== pure: the law's steps, forget ===== -/
def tw_fg (T : Nat → Int32) (p : Nat) : Nat → Nat → Int32
  | 0 => T
  | i + 1 => if i = p then tw_fg T p i else tw_u1 (tw_u1 (tw_fg T p i) (32 + 20 * p + (4 + i)) (nI 0)) (32 + 20 * i + (4 + p)) (nI 0)
def tw_fQ (T : Nat → Int32) (p : Nat) : Nat → Int32
  | 0 => nI 0
  | i + 1 => if i = p then tw_fQ T p i else tw_fQ T p i + (T (32 + 20 * p + (4 + i)) + T (32 + 20 * i + (4 + p)))
theorem tw_fg_o (T : Nat → Int32) (p : Nat) {q : Nat} : ∀ i, (∀ o, o < i → o ≠ p → q ≠ 32 + 20 * p + (4 + o) ∧ q ≠ 32 + 20 * o + (4 + p)) → tw_fg T p i q = T q := by
  intro i
  induction i with
  | zero => intro _; rfl
  | succ i ih =>
    intro h
    have h0 := ih (fun o ho => h o (by omega))
    by_cases e : i = p
    · have e1 : tw_fg T p (i + 1) = tw_fg T p i := if_pos e
      rw [e1]; exact h0
    · have e1 : tw_fg T p (i + 1) = tw_u1 (tw_u1 (tw_fg T p i) (32 + 20 * p + (4 + i)) (nI 0)) (32 + 20 * i + (4 + p)) (nI 0) := if_neg e
      have g := h i (by omega) e
      rw [e1, tw_u1n (by omega), tw_u1n (by omega)]; exact h0
theorem tw_fg_W {T : Nat → Int32} {P p : Nat} (W : tw_WF T P) (hp : p < P) : ∀ i, i ≤ P → tw_WF (tw_fg T p i) P := by
  intro i
  induction i with
  | zero => intro _; exact W
  | succ i ih =>
    intro h
    have h0 := ih (by omega)
    by_cases e : i = p
    · have e1 : tw_fg T p (i + 1) = tw_fg T p i := if_pos e
      rw [e1]; exact h0
    · have e1 : tw_fg T p (i + 1) = tw_u1 (tw_u1 (tw_fg T p i) (32 + 20 * p + (4 + i)) (nI 0)) (32 + 20 * i + (4 + p)) (nI 0) := if_neg e
      rw [e1]
      exact Wf_sg (Wf_sg h0 (p := p) (o := i) (x := 0) hp (by omega) (by omega) (by omega)) (p := i) (o := p) (x := 0) (by omega) hp (by omega) (by omega)
theorem tw_fQ_e {T : Nat → Int32} {p : Nat} (z : T (32 + 20 * p + (4 + p)) = nI 0) : ∀ i, tw_sBy T p i + tw_sOn T p i = tw_fQ T p i := by
  intro i
  induction i with
  | zero => rfl
  | succ i ih =>
    have ha : tw_sBy T p (i + 1) = tw_sBy T p i + T (32 + 20 * p + (4 + i)) := rfl
    have hb : tw_sOn T p (i + 1) = tw_sOn T p i + T (32 + 20 * i + (4 + p)) := rfl
    by_cases e : i = p
    · have e1 : tw_fQ T p (i + 1) = tw_fQ T p i := if_pos e
      have hz : ∀ v : Int32, v + nI 0 = v := fun v => Int32.add_zero v
      rw [e1, ha, hb, ← ih, e, z, hz, hz]
    · have e1 : tw_fQ T p (i + 1) = tw_fQ T p i + (T (32 + 20 * p + (4 + i)) + T (32 + 20 * i + (4 + p))) := if_neg e
      rw [e1, ha, hb, ← ih]
      ac_rfl
section P79c
variable {sh : tw_Sh} {μ ν ν2 : Nat → Nat → Int32} {la : Nat → Nat → Int64} {n a b w m lw P N L a0 : Nat} {p o l h i z c x y f q kd t r : Nat} {T T' : Nat → Int32} {v u rg tn : Int32} {j : Unit → tw_Mem → Prop} {G : tw_Gm}
theorem tw_fg_z (W : tw_WF T P) (hp : p < 8) : T (32 + 20 * p + (4 + p)) = nI 0 := by
  obtain ⟨x, _, ex, hx⟩ := Wf_g W hp hp
  rw [ex, hx (Or.inl rfl)]
theorem c_clearG (H : tw_RC sh μ a T) (W : tw_WF T P) (hp : p < P) : ∃ μ', (tw_RC sh μ' a (tw_fg T p P) ∧ ∀ y, y ≠ a + 4 → μ' y = μ y) ∧ ∀ k, f_X8_clearGuesses a (nI p) k (sh, μ, la, n) = k () (sh, μ', la, n) := by
  have h8 := W.2.1
  have hu : ∀ (X : Nat → Int32) (c : Nat) (v : Int32), X c = v → tw_u1 X c v = X := fun X c v h => by rw [← h]; exact tw_u1_self X c
  unfold f_X8_clearGuesses
  refine tw_lp_ex P (fun i => nI i) (fun i μ' => tw_RC sh μ' a (tw_fg T p i) ∧ ∀ y, y ≠ a + 4 → μ' y = μ y) rfl ⟨H, fun _ _ => rfl⟩ ?_ ?_
  · rintro i hi μ2 ⟨R, F⟩
    have R1 := Rc_setG R (p := p) (o := i) (by omega) (by omega) (nI 0)
    have R2 := Rc_setG R1 (p := i) (o := p) (by omega) (by omega) (nI 0)
    have Wi := tw_fg_W W hp i (by omega)
    have e0 : μ2 a 46 = nI P := by rw [Rc_46 R]; exact Wi.1
    refine ⟨tw_up (tw_up μ2 (a + 4) (8 * p + i) (nI 0)) (a + 4) (8 * i + p) (nI 0), ⟨?_, fun y hy => ?_⟩, fun k rec => ?_⟩
    · by_cases e : i = p
      · subst e
        have e1 : tw_fg T i (i + 1) = tw_fg T i i := if_pos rfl
        have z := tw_fg_z Wi (p := i) (by omega)
        rw [hu _ _ _ z, hu _ _ _ z] at R2
        rw [e1]; exact R2
      · have e1 : tw_fg T p (i + 1) = tw_u1 (tw_u1 (tw_fg T p i) (32 + 20 * p + (4 + i)) (nI 0)) (32 + 20 * i + (4 + p)) (nI 0) := if_neg e
        rw [e1]; exact R2
    · rw [tw_up_ne hy, tw_up_ne hy]; exact F y hy
    · simp (disch := omega) only [↓c_setGuess R.1, e0, ↓TnV0 R.1, ↓TnG0_39 R.1, ↓TnG0_40 R.1, ↓TnG0_41 R.1, ↓TnG0_42 R.1, ↓TnG0_43 R.1, ↓TnG0_44 R.1, ↓TnG0_45 R.1, ↓TnI0_46 R.1, ↓TnP0_46 R.1, ↓TnZ0_46 R.1, ↓TnI0_47 R.1, ↓TnP0_47 R.1, ↓TnZ0_47 R.1, ↓TnI0_48 R.1, ↓TnP0_48 R.1, ↓TnZ0_48 R.1, ↓TnI0_49 R.1, ↓TnP0_49 R.1, ↓TnZ0_49 R.1, ↓TnI0_50 R.1, ↓TnP0_50 R.1, ↓TnZ0_50 R.1, ↓TnI0_51 R.1, ↓TnP0_51 R.1, ↓TnZ0_51 R.1, ↓TnI0_52 R.1, ↓TnP0_52 R.1, ↓TnZ0_52 R.1, ↓TnV1 R.1, ↓TnG1_19 R.1, ↓TnI1_20 R.1, ↓TnP1_20 R.1, ↓TnZ1_20 R.1, ↓TnI1_21 R.1, ↓TnP1_21 R.1, ↓TnZ1_21 R.1, ↓TnL0 R.1, ↓TnS0 R.1, ↓TnL1 R.1, ↓TnS1 R.1, ↓TnL2 R.1, ↓TnS2 R.1, ↓TnL3 R.1, ↓TnS3 R.1, ↓TnL4 R.1, ↓TnS4 R.1, ↓TnL5 R.1, ↓TnS5 R.1, ↓TnL6 R.1, ↓TnS6 R.1, ↓A_if, ↓A_jn, ↓A_lt, ↓A_rz, ↓A_rn, ↓A_nzi, ↓A_nzl, ↓A_nn1, ↓A_nn0, ↓reduceIte, true_and, and_true, if_true, if_false, ite_true, ite_false, reduceIte, tl_0, tl_1, tl_2, tl_3, tl_4, tl_5, tl_6, tl_7, tl_8, tl_9, tl_10, tl_11, tl_12, tl_13, tl_14, tl_15, tl_16, tl_17, tl_18, tl_19, tl_20, tl_21, tl_22, tl_23, tl_24, tl_25, tl_26, tl_27, tl_28, tl_29, tl_30, tl_31, tl_32, tl_33, tl_34, tl_35, tl_36, tl_37, tl_38, tl_39, tl_40, tl_41, tl_42, tl_43, tl_44, tl_45, tl_46, tl_47, tl_48, tl_49, tl_50, tl_51, tl_52, tl_53, tl_54, tl_57, tl_59, tl_60, tl_62, tl_63, tl_64, tl_97, tl_99, tl_100, tl_120, tl_122, tl_192, tl_193, tl_194, tl_195, tl_196, tl_255, tl_256, tl_299, tl_400, tl_401, tl_492, tl_493, tl_541, tl_849, tl_999, tl_1000, tl_1341, tl_1342, tl_1390, tl_2190, tl_5412, tl_5904, tl_9999, tl_12345, tl_32767, tl_65536, tl_1000000, tl_252645135, tl_858993459, tl_1103515245, tl_1431655765, nz_31, nz_c31, eq_self, or_true, true_or, or_false, false_or, Nat.add_zero, nz_lt, nz_le, nz_eq, nz_cl, nz_sub, nI_add, pk_mul, nt_lt, nf_lt, nf_eq, nz_mI, mI_eq, mI_eq', mI_lt, mI_gt, mI_add, ↓j_max, ↓j_min, Nat.sub_sub, Nat.reduceAdd, Nat.reduceSub, Nat.reduceLT, Nat.reduceEqDiff, Bool.false_eq_true]
  · rintro μ2 ⟨R, F⟩
    have e0 : μ2 a 46 = nI P := by rw [Rc_46 R]; exact (tw_fg_W W hp P (Nat.le_refl _)).1
    refine ⟨μ2, ⟨R, F⟩, fun k rec => ?_⟩
    simp (disch := omega) only [e0, ↓TnV0 R.1, ↓TnG0_39 R.1, ↓TnG0_40 R.1, ↓TnG0_41 R.1, ↓TnG0_42 R.1, ↓TnG0_43 R.1, ↓TnG0_44 R.1, ↓TnG0_45 R.1, ↓TnI0_46 R.1, ↓TnP0_46 R.1, ↓TnZ0_46 R.1, ↓TnI0_47 R.1, ↓TnP0_47 R.1, ↓TnZ0_47 R.1, ↓TnI0_48 R.1, ↓TnP0_48 R.1, ↓TnZ0_48 R.1, ↓TnI0_49 R.1, ↓TnP0_49 R.1, ↓TnZ0_49 R.1, ↓TnI0_50 R.1, ↓TnP0_50 R.1, ↓TnZ0_50 R.1, ↓TnI0_51 R.1, ↓TnP0_51 R.1, ↓TnZ0_51 R.1, ↓TnI0_52 R.1, ↓TnP0_52 R.1, ↓TnZ0_52 R.1, ↓TnV1 R.1, ↓TnG1_19 R.1, ↓TnI1_20 R.1, ↓TnP1_20 R.1, ↓TnZ1_20 R.1, ↓TnI1_21 R.1, ↓TnP1_21 R.1, ↓TnZ1_21 R.1, ↓TnL0 R.1, ↓TnS0 R.1, ↓TnL1 R.1, ↓TnS1 R.1, ↓TnL2 R.1, ↓TnS2 R.1, ↓TnL3 R.1, ↓TnS3 R.1, ↓TnL4 R.1, ↓TnS4 R.1, ↓TnL5 R.1, ↓TnS5 R.1, ↓TnL6 R.1, ↓TnS6 R.1, ↓A_if, ↓A_jn, ↓A_lt, ↓A_rz, ↓A_rn, ↓A_nzi, ↓A_nzl, ↓A_nn1, ↓A_nn0, ↓reduceIte, true_and, and_true, if_true, if_false, ite_true, ite_false, reduceIte, tl_0, tl_1, tl_2, tl_3, tl_4, tl_5, tl_6, tl_7, tl_8, tl_9, tl_10, tl_11, tl_12, tl_13, tl_14, tl_15, tl_16, tl_17, tl_18, tl_19, tl_20, tl_21, tl_22, tl_23, tl_24, tl_25, tl_26, tl_27, tl_28, tl_29, tl_30, tl_31, tl_32, tl_33, tl_34, tl_35, tl_36, tl_37, tl_38, tl_39, tl_40, tl_41, tl_42, tl_43, tl_44, tl_45, tl_46, tl_47, tl_48, tl_49, tl_50, tl_51, tl_52, tl_53, tl_54, tl_57, tl_59, tl_60, tl_62, tl_63, tl_64, tl_97, tl_99, tl_100, tl_120, tl_122, tl_192, tl_193, tl_194, tl_195, tl_196, tl_255, tl_256, tl_299, tl_400, tl_401, tl_492, tl_493, tl_541, tl_849, tl_999, tl_1000, tl_1341, tl_1342, tl_1390, tl_2190, tl_5412, tl_5904, tl_9999, tl_12345, tl_32767, tl_65536, tl_1000000, tl_252645135, tl_858993459, tl_1103515245, tl_1431655765, nz_31, nz_c31, eq_self, or_true, true_or, or_false, false_or, Nat.add_zero, nz_lt, nz_le, nz_eq, nz_cl, nz_sub, nI_add, pk_mul, nt_lt, nf_lt, nf_eq, nz_mI, mI_eq, mI_eq', mI_lt, mI_gt, mI_add, ↓j_max, ↓j_min, Nat.sub_sub, Nat.reduceAdd, Nat.reduceSub, Nat.reduceLT, Nat.reduceEqDiff, Bool.false_eq_true]
theorem m_forgetF (hM : tw_Mo sh m) (hpi : ∀ (k : tw_Mem → Prop) (la : Nat → Nat → Int64) (n : Nat), tw_pi 70 m (nI 0) k (sh, μ, la, n) = k (sh, ν, la, n)) (hP : ν (m + 1) 0 = nI P) (hp : p < P) (hE : ∀ (la : Nat → Nat → Int64) (n : Nat) (k : Unit → tw_Mem → Prop), f_X12_remembers m k (sh, ν, la, n) = k () (sh, ν2, la, n)) (eT : ν2 (m + 1) = T) (W : tw_WF T P) (la : Nat → Nat → Int64) (n : Nat) (k : Int32 → tw_Mem → Prop) : f_X12_forget m (nI p) k (sh, μ, la, n) = k (tw_fQ T p P) (sh, tw_ra ν2 (m + 1) (tw_fg T p P), la, n) := by
  have h8 := W.2.1
  have hpi0 : ∀ (k : tw_Mem → Prop) (la : Nat → Nat → Int64) (n : Nat), tw_pi 70 m (0 : Int32) k (sh, μ, la, n) = k (sh, ν, la, n) := hpi
  simp (disch := omega) only [f_X12_forget, ↓hpi0, ↓m_nobodyF hM hP h8 hp, f_X12_throwsIf, ↓hE, ↓MoV0 hM, ↓A_if, ↓A_jn, ↓A_lt, ↓A_rz, ↓A_rn, ↓A_nzi, ↓A_nzl, ↓A_nn1, ↓A_nn0, ↓reduceIte, true_and, and_true, if_true, if_false, ite_true, ite_false, reduceIte, tl_0, tl_1, tl_2, tl_3, tl_4, tl_5, tl_6, tl_7, tl_8, tl_9, tl_10, tl_11, tl_12, tl_13, tl_14, tl_15, tl_16, tl_17, tl_18, tl_19, tl_20, tl_21, tl_22, tl_23, tl_24, tl_25, tl_26, tl_27, tl_28, tl_29, tl_30, tl_31, tl_32, tl_33, tl_34, tl_35, tl_36, tl_37, tl_38, tl_39, tl_40, tl_41, tl_42, tl_43, tl_44, tl_45, tl_46, tl_47, tl_48, tl_49, tl_50, tl_51, tl_52, tl_53, tl_54, tl_57, tl_59, tl_60, tl_62, tl_63, tl_64, tl_97, tl_99, tl_100, tl_120, tl_122, tl_192, tl_193, tl_194, tl_195, tl_196, tl_255, tl_256, tl_299, tl_400, tl_401, tl_492, tl_493, tl_541, tl_849, tl_999, tl_1000, tl_1341, tl_1342, tl_1390, tl_2190, tl_5412, tl_5904, tl_9999, tl_12345, tl_32767, tl_65536, tl_1000000, tl_252645135, tl_858993459, tl_1103515245, tl_1431655765, nz_31, nz_c31, eq_self, or_true, true_or, or_false, false_or, Nat.add_zero, nz_lt, nz_le, nz_eq, nz_cl, nz_sub, nI_add, pk_mul, nt_lt, nf_lt, nf_eq, nz_mI, mI_eq, mI_eq', mI_lt, mI_gt, mI_add, ↓j_max, ↓j_min, Nat.sub_sub, Nat.reduceAdd, Nat.reduceSub, Nat.reduceLT, Nat.reduceEqDiff, Bool.false_eq_true]
  refine tw_lp_for P (fun i => (tw_fQ T p i, nI i)) (fun i => (sh, tw_ra ν2 (m + 1) (tw_fg T p i), la, n)) rfl ?_ ?_ ?_
  · show (sh, tw_ra ν2 (m + 1) T, la, n) = _
    rw [← eT, tw_ra_s]
  · intro i hi rec
    have eP : tw_fg T p i 0 = nI P := (tw_fg_W W hp i (by omega)).1
    by_cases e : i = p
    · subst e
      have e1 : tw_fg T i (i + 1) = tw_fg T i i := if_pos rfl
      have e2 : tw_fQ T i (i + 1) = tw_fQ T i i := if_pos rfl
      simp (disch := omega) only [e1, e2, ↓m_people hM, tw_ra_a, eP, ↓MoV0 hM, ↓MoI0_70 hM, ↓MoP0_70 hM, ↓MoZ0_70 hM, ↓MoG0_71 hM, ↓MoG0_72 hM, ↓MoG0_73 hM, ↓MoG0_74 hM, ↓MoG0_75 hM, ↓MoI0_76 hM, ↓MoP0_76 hM, ↓MoZ0_76 hM, ↓MoI0_77 hM, ↓MoP0_77 hM, ↓MoZ0_77 hM, ↓MoG0_78 hM, ↓MoI0_79 hM, ↓MoP0_79 hM, ↓MoZ0_79 hM, ↓MoI0_80 hM, ↓MoP0_80 hM, ↓MoZ0_80 hM, ↓MoI0_81 hM, ↓MoP0_81 hM, ↓MoZ0_81 hM, ↓MoI0_82 hM, ↓MoP0_82 hM, ↓MoZ0_82 hM, ↓MoI0_83 hM, ↓MoP0_83 hM, ↓MoZ0_83 hM, ↓MoI0_84 hM, ↓MoP0_84 hM, ↓MoZ0_84 hM, ↓MoG0_85 hM, ↓MoI0_86 hM, ↓MoP0_86 hM, ↓MoZ0_86 hM, ↓MoG0_87 hM, ↓MoI0_88 hM, ↓MoP0_88 hM, ↓MoZ0_88 hM, ↓MoG0_89 hM, ↓MoG0_90 hM, ↓MoG0_91 hM, ↓MoG0_92 hM, ↓MoL0 hM, ↓MoS0 hM, ↓MoL1 hM, ↓MoS1 hM, ↓MoL2 hM, ↓MoS2 hM, ↓MoL3 hM, ↓MoS3 hM, ↓MoL4 hM, ↓MoS4 hM, ↓MoL5 hM, ↓MoS5 hM, ↓MoL6 hM, ↓MoS6 hM, ↓MoL7 hM, ↓MoS7 hM, ↓MoL8 hM, ↓MoS8 hM, ↓MoL9 hM, ↓MoS9 hM, ↓MoL10 hM, ↓MoS10 hM, ↓MoL11 hM, ↓MoS11 hM, ↓A_if, ↓A_jn, ↓A_lt, ↓A_rz, ↓A_rn, ↓A_nzi, ↓A_nzl, ↓A_nn1, ↓A_nn0, ↓reduceIte, true_and, and_true, if_true, if_false, ite_true, ite_false, reduceIte, tl_0, tl_1, tl_2, tl_3, tl_4, tl_5, tl_6, tl_7, tl_8, tl_9, tl_10, tl_11, tl_12, tl_13, tl_14, tl_15, tl_16, tl_17, tl_18, tl_19, tl_20, tl_21, tl_22, tl_23, tl_24, tl_25, tl_26, tl_27, tl_28, tl_29, tl_30, tl_31, tl_32, tl_33, tl_34, tl_35, tl_36, tl_37, tl_38, tl_39, tl_40, tl_41, tl_42, tl_43, tl_44, tl_45, tl_46, tl_47, tl_48, tl_49, tl_50, tl_51, tl_52, tl_53, tl_54, tl_57, tl_59, tl_60, tl_62, tl_63, tl_64, tl_97, tl_99, tl_100, tl_120, tl_122, tl_192, tl_193, tl_194, tl_195, tl_196, tl_255, tl_256, tl_299, tl_400, tl_401, tl_492, tl_493, tl_541, tl_849, tl_999, tl_1000, tl_1341, tl_1342, tl_1390, tl_2190, tl_5412, tl_5904, tl_9999, tl_12345, tl_32767, tl_65536, tl_1000000, tl_252645135, tl_858993459, tl_1103515245, tl_1431655765, nz_31, nz_c31, eq_self, or_true, true_or, or_false, false_or, Nat.add_zero, nz_lt, nz_le, nz_eq, nz_cl, nz_sub, nI_add, pk_mul, nt_lt, nf_lt, nf_eq, nz_mI, mI_eq, mI_eq', mI_lt, mI_gt, mI_add, ↓j_max, ↓j_min, Nat.sub_sub, Nat.reduceAdd, Nat.reduceSub, Nat.reduceLT, Nat.reduceEqDiff, Bool.false_eq_true]
    · have e1 : tw_fg T p (i + 1) = tw_u1 (tw_u1 (tw_fg T p i) (32 + 20 * p + (4 + i)) (nI 0)) (32 + 20 * i + (4 + p)) (nI 0) := if_neg e
      have e2 : tw_fQ T p (i + 1) = tw_fQ T p i + (T (32 + 20 * p + (4 + i)) + T (32 + 20 * i + (4 + p))) := if_neg e
      have e3 : tw_fg T p i (32 + 20 * p + (4 + i)) = T (32 + 20 * p + (4 + i)) := tw_fg_o T p i (fun o ho h => by omega)
      have e4 : tw_fg T p i (32 + 20 * i + (4 + p)) = T (32 + 20 * i + (4 + p)) := tw_fg_o T p i (fun o ho h => by omega)
      have ec : tw_clamp (nI 0) = nI 0 := tw_clampN (by omega)
      simp (disch := omega) only [e1, e2, e3, e4, e, ec, ↓m_people hM, ↓m_guessOf hM, ↓m_guesses hM, tw_ra_a, tw_up_ra, eP, ↓MoV0 hM, ↓MoI0_70 hM, ↓MoP0_70 hM, ↓MoZ0_70 hM, ↓MoG0_71 hM, ↓MoG0_72 hM, ↓MoG0_73 hM, ↓MoG0_74 hM, ↓MoG0_75 hM, ↓MoI0_76 hM, ↓MoP0_76 hM, ↓MoZ0_76 hM, ↓MoI0_77 hM, ↓MoP0_77 hM, ↓MoZ0_77 hM, ↓MoG0_78 hM, ↓MoI0_79 hM, ↓MoP0_79 hM, ↓MoZ0_79 hM, ↓MoI0_80 hM, ↓MoP0_80 hM, ↓MoZ0_80 hM, ↓MoI0_81 hM, ↓MoP0_81 hM, ↓MoZ0_81 hM, ↓MoI0_82 hM, ↓MoP0_82 hM, ↓MoZ0_82 hM, ↓MoI0_83 hM, ↓MoP0_83 hM, ↓MoZ0_83 hM, ↓MoI0_84 hM, ↓MoP0_84 hM, ↓MoZ0_84 hM, ↓MoG0_85 hM, ↓MoI0_86 hM, ↓MoP0_86 hM, ↓MoZ0_86 hM, ↓MoG0_87 hM, ↓MoI0_88 hM, ↓MoP0_88 hM, ↓MoZ0_88 hM, ↓MoG0_89 hM, ↓MoG0_90 hM, ↓MoG0_91 hM, ↓MoG0_92 hM, ↓MoL0 hM, ↓MoS0 hM, ↓MoL1 hM, ↓MoS1 hM, ↓MoL2 hM, ↓MoS2 hM, ↓MoL3 hM, ↓MoS3 hM, ↓MoL4 hM, ↓MoS4 hM, ↓MoL5 hM, ↓MoS5 hM, ↓MoL6 hM, ↓MoS6 hM, ↓MoL7 hM, ↓MoS7 hM, ↓MoL8 hM, ↓MoS8 hM, ↓MoL9 hM, ↓MoS9 hM, ↓MoL10 hM, ↓MoS10 hM, ↓MoL11 hM, ↓MoS11 hM, ↓A_if, ↓A_jn, ↓A_lt, ↓A_rz, ↓A_rn, ↓A_nzi, ↓A_nzl, ↓A_nn1, ↓A_nn0, ↓reduceIte, true_and, and_true, if_true, if_false, ite_true, ite_false, reduceIte, tl_0, tl_1, tl_2, tl_3, tl_4, tl_5, tl_6, tl_7, tl_8, tl_9, tl_10, tl_11, tl_12, tl_13, tl_14, tl_15, tl_16, tl_17, tl_18, tl_19, tl_20, tl_21, tl_22, tl_23, tl_24, tl_25, tl_26, tl_27, tl_28, tl_29, tl_30, tl_31, tl_32, tl_33, tl_34, tl_35, tl_36, tl_37, tl_38, tl_39, tl_40, tl_41, tl_42, tl_43, tl_44, tl_45, tl_46, tl_47, tl_48, tl_49, tl_50, tl_51, tl_52, tl_53, tl_54, tl_57, tl_59, tl_60, tl_62, tl_63, tl_64, tl_97, tl_99, tl_100, tl_120, tl_122, tl_192, tl_193, tl_194, tl_195, tl_196, tl_255, tl_256, tl_299, tl_400, tl_401, tl_492, tl_493, tl_541, tl_849, tl_999, tl_1000, tl_1341, tl_1342, tl_1390, tl_2190, tl_5412, tl_5904, tl_9999, tl_12345, tl_32767, tl_65536, tl_1000000, tl_252645135, tl_858993459, tl_1103515245, tl_1431655765, nz_31, nz_c31, eq_self, or_true, true_or, or_false, false_or, Nat.add_zero, nz_lt, nz_le, nz_eq, nz_cl, nz_sub, nI_add, pk_mul, nt_lt, nf_lt, nf_eq, nz_mI, mI_eq, mI_eq', mI_lt, mI_gt, mI_add, ↓j_max, ↓j_min, Nat.sub_sub, Nat.reduceAdd, Nat.reduceSub, Nat.reduceLT, Nat.reduceEqDiff, Bool.false_eq_true]
  · intro rec
    have eP : tw_fg T p P 0 = nI P := (tw_fg_W W hp P (Nat.le_refl _)).1
    simp (disch := omega) only [↓m_people hM, tw_ra_a, eP, ↓MoV0 hM, ↓MoI0_70 hM, ↓MoP0_70 hM, ↓MoZ0_70 hM, ↓MoG0_71 hM, ↓MoG0_72 hM, ↓MoG0_73 hM, ↓MoG0_74 hM, ↓MoG0_75 hM, ↓MoI0_76 hM, ↓MoP0_76 hM, ↓MoZ0_76 hM, ↓MoI0_77 hM, ↓MoP0_77 hM, ↓MoZ0_77 hM, ↓MoG0_78 hM, ↓MoI0_79 hM, ↓MoP0_79 hM, ↓MoZ0_79 hM, ↓MoI0_80 hM, ↓MoP0_80 hM, ↓MoZ0_80 hM, ↓MoI0_81 hM, ↓MoP0_81 hM, ↓MoZ0_81 hM, ↓MoI0_82 hM, ↓MoP0_82 hM, ↓MoZ0_82 hM, ↓MoI0_83 hM, ↓MoP0_83 hM, ↓MoZ0_83 hM, ↓MoI0_84 hM, ↓MoP0_84 hM, ↓MoZ0_84 hM, ↓MoG0_85 hM, ↓MoI0_86 hM, ↓MoP0_86 hM, ↓MoZ0_86 hM, ↓MoG0_87 hM, ↓MoI0_88 hM, ↓MoP0_88 hM, ↓MoZ0_88 hM, ↓MoG0_89 hM, ↓MoG0_90 hM, ↓MoG0_91 hM, ↓MoG0_92 hM, ↓MoL0 hM, ↓MoS0 hM, ↓MoL1 hM, ↓MoS1 hM, ↓MoL2 hM, ↓MoS2 hM, ↓MoL3 hM, ↓MoS3 hM, ↓MoL4 hM, ↓MoS4 hM, ↓MoL5 hM, ↓MoS5 hM, ↓MoL6 hM, ↓MoS6 hM, ↓MoL7 hM, ↓MoS7 hM, ↓MoL8 hM, ↓MoS8 hM, ↓MoL9 hM, ↓MoS9 hM, ↓MoL10 hM, ↓MoS10 hM, ↓MoL11 hM, ↓MoS11 hM, ↓A_if, ↓A_jn, ↓A_lt, ↓A_rz, ↓A_rn, ↓A_nzi, ↓A_nzl, ↓A_nn1, ↓A_nn0, ↓reduceIte, true_and, and_true, if_true, if_false, ite_true, ite_false, reduceIte, tl_0, tl_1, tl_2, tl_3, tl_4, tl_5, tl_6, tl_7, tl_8, tl_9, tl_10, tl_11, tl_12, tl_13, tl_14, tl_15, tl_16, tl_17, tl_18, tl_19, tl_20, tl_21, tl_22, tl_23, tl_24, tl_25, tl_26, tl_27, tl_28, tl_29, tl_30, tl_31, tl_32, tl_33, tl_34, tl_35, tl_36, tl_37, tl_38, tl_39, tl_40, tl_41, tl_42, tl_43, tl_44, tl_45, tl_46, tl_47, tl_48, tl_49, tl_50, tl_51, tl_52, tl_53, tl_54, tl_57, tl_59, tl_60, tl_62, tl_63, tl_64, tl_97, tl_99, tl_100, tl_120, tl_122, tl_192, tl_193, tl_194, tl_195, tl_196, tl_255, tl_256, tl_299, tl_400, tl_401, tl_492, tl_493, tl_541, tl_849, tl_999, tl_1000, tl_1341, tl_1342, tl_1390, tl_2190, tl_5412, tl_5904, tl_9999, tl_12345, tl_32767, tl_65536, tl_1000000, tl_252645135, tl_858993459, tl_1103515245, tl_1431655765, nz_31, nz_c31, eq_self, or_true, true_or, or_false, false_or, Nat.add_zero, nz_lt, nz_le, nz_eq, nz_cl, nz_sub, nI_add, pk_mul, nt_lt, nf_lt, nf_eq, nz_mI, mI_eq, mI_eq', mI_lt, mI_gt, mI_add, ↓j_max, ↓j_min, Nat.sub_sub, Nat.reduceAdd, Nat.reduceSub, Nat.reduceLT, Nat.reduceEqDiff, Bool.false_eq_true]
theorem L19 (hI : tw_IV G a0 b L (sh, μ, la, n)) (hi : i + 6 ≤ L) (hj : ∀ M, tw_IV G a0 b L M → j () M) (k : Int32 → tw_Mem → Prop) : f_Lc19 a0 b (b + 168) (b + 181) (nI i) j k (sh, μ, la, n) := by
  obtain ⟨lw, kl, P, hS, W, H, HL, HR, HI, HT, hf⟩ := tw_IV_e hI
  have hS2 := hS
  obtain ⟨hX, hlw, hkl, ⟨hTa, hTx⟩, hTn, hTs, hTk, hMe, hMi, hMt, hTw, hPa, hSe, hMo, hOu, hSc, hL3, hab, hlwc, hklc, hlwn, hkln, hbn, hlk⟩ := hS2
  have h8 := W.2.1
  have hsc := fun (j : Nat) (hj : j < L) (μ : Nat → Nat → Int32) (la : Nat → Nat → Int64) (n : Nat) (k : Int32 → tw_Mem → Prop) => tw_scr (μ := μ) (la := la) (n := n) hSc hL3 hj k
  have hs0 := hsc (i + 1) (by omega)
  have hs1 := hsc (i + 2) (by omega)
  have hs2 := hsc (i + 3) (by omega)
  have hs3 := hsc (i + 4) (by omega)
  have hs4 := hsc (i + 5) (by omega)
  have hlG : ∀ (μ : Nat → Nat → Int32) (la : Nat → Nat → Int64) (n : Nat) (k : Nat → tw_Mem → Prop), tw_gr 66 b k (sh, μ, la, n) = k lw (sh, μ, la, n) := fun μ la n k => tw_lawref hX hlw k
  have hlV : ∀ (μ : Nat → Nat → Int32) (la : Nat → Nat → Int64) (n : Nat) (F : tw_Mem → Prop), tw_iv 0 lw F (sh, μ, la, n) = F (sh, μ, la, n) := fun μ la n F => by rw [A_iv, tw_is_T HL.1, true_and]
  obtain ⟨μ1, hpi, hpt, qm, hT1, h70, ha1, hj1⟩ := tw_thr0 (a0 := a0) (μ := μ) hMo hab
  have fin : ∀ {μ2 : Nat → Nat → Int32} {la2 : Nat → Nat → Int64} {n2 : Nat}, tw_qm b μ μ2 → n ≤ n2 → j () (sh, μ2, la2, n2) := fun q hn => hj _ (tw_IV_q hS W H HL HR HI HT hf tw_qc_r q hn)
  generalize hT : μ (b + 169) = T at *
  have hPm : μ1 (b + 168 + 1) 0 = nI P := by rw [hT1]; exact W.1
  by_cases q1 : tw_va (μ a0 (i + 1)) P = true
  · obtain ⟨p, hp, ep⟩ := tw_va_n (by omega) q1
    rw [ep] at q1
    obtain ⟨r, xr, A, Rc, Rm, RA⟩ := HR
    obtain ⟨μa, ⟨Rc2, Fa⟩, Ea⟩ := c_remember (la := la) (n := n) hMe hMi hMt H Rc
    have RA2 : ∀ k, k < r → ∃ P, tw_WF (A k) P ∧ A k 2 = T 2 := fun k hk => by rw [← hT]; exact RA k hk
    have Ha : tw_RC sh μa (b + 3) T := Rc_fx H Fa (by omega)
    have eaa : μa a0 = μ a0 := Fa a0 (by omega)
    obtain ⟨μb, ⟨R2, Fg⟩, Ec⟩ := c_clearG (la := la) (n := n) Ha W hp
    have Fb : ∀ y, ¬ (b + 3 ≤ y ∧ y < b + 12) → ¬ (b + 152 ≤ y ∧ y < b + 162) → y ≠ lw + 1 → μb y = μa y := fun y h1 h2 h3 => Fg y (by omega)
    have Fc : ∀ y, ¬ (b + 3 ≤ y ∧ y < b + 21) → ¬ (b + 30 ≤ y ∧ y < b + 140) → ¬ (b + 152 ≤ y ∧ y < b + 162) → y ≠ lw + 1 → μb y = μ y := fun y h1 h2 h3 h4 => (Fb y (by omega) h3 h4).trans (Fa y (by omega))
    have Rc3 := tw_Rcl_same Rc2 (fun y h1 h2 => Fb y (by omega) (by omega) (by omega))
    have eac : μb a0 = μ a0 := Fc a0 (by omega) (by omega) (by omega) (by omega)
    obtain ⟨ν1, npi, npt, nm, nT1, n70, na1, nj1⟩ := tw_thr0 (a0 := a0) hMo hab (μ := μb)
    have eTn : ν1 (b + 168 + 1) = T := nT1.trans ((Fc (b + 169) (by omega) (by omega) (by omega) (by omega)).trans hT)
    have hPc : ν1 (b + 168 + 1) 0 = nI P := by rw [eTn]; exact W.1
    have f168 : μb (b + 168) = μ (b + 168) := Fc _ (by omega) (by omega) (by omega) (by omega)
    have Rm1 : tw_Rmo ν1 (b + 168) r A := tw_Rmo_same Rm ((nj1 77 (by omega)).trans (congrFun f168 77)) ((nm.1 _ (by omega) (by omega) (by omega) (by omega)).trans (Fc _ (by omega) (by omega) (by omega) (by omega)))
    obtain ⟨ν2, ⟨Rm2, Fn, Fj2⟩, Eb⟩ := m_remember (sh := sh) hMo Rc.1 Rm1
    rw [eTn] at Rm2
    have eT2 : ν2 (b + 168 + 1) = T := (Fn _ (by omega) (by omega)).trans eTn
    have e70 : ν2 (b + 168) 70 = nI 0 := (Fj2 70 (by omega)).trans n70
    have Fm : ∀ y, y ≠ b + 168 → y ≠ b + 169 → ¬ (b + 171 ≤ y ∧ y < b + 174) → ¬ (b + 175 ≤ y ∧ y < b + 181) → ν2 y = μb y := fun y h1 h2 h3 h4 => (Fn y (by omega) (by omega)).trans (nm.1 y (by omega) (by omega) (by omega) (by omega))
    have Fj : ∀ q, q ≠ 70 → q ≠ 77 → q ≠ 88 → ν2 (b + 168) q = μb (b + 168) q := fun q h1 h2 h3 => (Fj2 q h2).trans (nj1 q h1)
    have Ef := m_forgetF hMo npi.1 hPc hp Eb eT2 W
    have ez := tw_fQ_e (tw_fg_z W (p := p) (by omega)) P
    have e75 : tw_ra ν2 (b + 168 + 1) (tw_fg T p P) (b + 168) 70 = nI 0 := by rw [tw_ra_n (by omega)]; exact e70
    have Ez : ∀ q, (q = 2 ∨ 492 ≤ q) → tw_fg T p P q = T q := fun q hq => tw_fg_o T p P (fun o ho h => by omega)
    simp (disch := omega) only [f_Lc19, f_L_forget, f_X11_forget, ↓CxV0 hX, ↓CxG0_56 hX, ↓CxG0_57 hX, ↓CxG0_58 hX, ↓CxG0_59 hX, ↓CxG0_60 hX, ↓CxG0_61 hX, ↓CxG0_62 hX, ↓CxG0_63 hX, ↓CxG0_64 hX, ↓CxG0_65 hX, ↓CxI0_68 hX, ↓CxP0_68 hX, ↓CxZ0_68 hX, ↓CxI0_69 hX, ↓CxP0_69 hX, ↓CxZ0_69 hX, ↓TnV0 hTn, ↓TnG0_39 hTn, ↓TnG0_40 hTn, ↓TnG0_41 hTn, ↓TnG0_42 hTn, ↓TnG0_43 hTn, ↓TnG0_44 hTn, ↓TnG0_45 hTn, ↓TnI0_46 hTn, ↓TnP0_46 hTn, ↓TnZ0_46 hTn, ↓TnI0_47 hTn, ↓TnP0_47 hTn, ↓TnZ0_47 hTn, ↓TnI0_48 hTn, ↓TnP0_48 hTn, ↓TnZ0_48 hTn, ↓TnI0_49 hTn, ↓TnP0_49 hTn, ↓TnZ0_49 hTn, ↓TnI0_50 hTn, ↓TnP0_50 hTn, ↓TnZ0_50 hTn, ↓TnI0_51 hTn, ↓TnP0_51 hTn, ↓TnZ0_51 hTn, ↓TnI0_52 hTn, ↓TnP0_52 hTn, ↓TnZ0_52 hTn, ↓TnV1 hTn, ↓TnG1_19 hTn, ↓TnI1_20 hTn, ↓TnP1_20 hTn, ↓TnZ1_20 hTn, ↓TnI1_21 hTn, ↓TnP1_21 hTn, ↓TnZ1_21 hTn, ↓TnL0 hTn, ↓TnS0 hTn, ↓TnL1 hTn, ↓TnS1 hTn, ↓TnL2 hTn, ↓TnS2 hTn, ↓TnL3 hTn, ↓TnS3 hTn, ↓TnL4 hTn, ↓TnS4 hTn, ↓TnL5 hTn, ↓TnS5 hTn, ↓TnL6 hTn, ↓TnS6 hTn, ↓hs0, ↓hs1, ↓hs2, ↓hs3, ↓hs4, ↓hpi.1, ↓hpi.2, ↓hlG, ↓hlV, ha1, ↓X_sl hOu, ↓X_ll hOu, tw_upLa, tw_cmp0, f_X12_thrown, f_X12_throwsIf, ↓A_th, ↓A_xc, tw_xE1, tw_xE2, tw_xE3, tw_xE4, tw_xE5, tw_xE6, ↓MoV0 hMo, ↓MoI0_70 hMo, ↓MoZ0_70 hMo, ↓MoG0_71 hMo, ↓MoG0_72 hMo, ↓MoG0_73 hMo, ↓MoG0_74 hMo, ↓MoG0_75 hMo, ↓MoI0_76 hMo, ↓MoP0_76 hMo, ↓MoZ0_76 hMo, ↓MoI0_77 hMo, ↓MoP0_77 hMo, ↓MoZ0_77 hMo, ↓MoG0_78 hMo, ↓MoI0_79 hMo, ↓MoP0_79 hMo, ↓MoZ0_79 hMo, ↓MoI0_80 hMo, ↓MoP0_80 hMo, ↓MoZ0_80 hMo, ↓MoI0_81 hMo, ↓MoP0_81 hMo, ↓MoZ0_81 hMo, ↓MoI0_82 hMo, ↓MoP0_82 hMo, ↓MoZ0_82 hMo, ↓MoI0_83 hMo, ↓MoP0_83 hMo, ↓MoZ0_83 hMo, ↓MoI0_84 hMo, ↓MoP0_84 hMo, ↓MoZ0_84 hMo, ↓MoG0_85 hMo, ↓MoI0_86 hMo, ↓MoP0_86 hMo, ↓MoZ0_86 hMo, ↓MoG0_87 hMo, ↓MoI0_88 hMo, ↓MoP0_88 hMo, ↓MoZ0_88 hMo, ↓MoG0_89 hMo, ↓MoG0_90 hMo, ↓MoG0_91 hMo, ↓MoG0_92 hMo, ↓MoL0 hMo, ↓MoS0 hMo, ↓MoL1 hMo, ↓MoS1 hMo, ↓MoL2 hMo, ↓MoS2 hMo, ↓MoL3 hMo, ↓MoS3 hMo, ↓MoL4 hMo, ↓MoS4 hMo, ↓MoL5 hMo, ↓MoS5 hMo, ↓MoL6 hMo, ↓MoS6 hMo, ↓MoL7 hMo, ↓MoS7 hMo, ↓MoL8 hMo, ↓MoS8 hMo, ↓MoL9 hMo, ↓MoS9 hMo, ↓MoL10 hMo, ↓MoS10 hMo, ↓MoL11 hMo, ↓MoS11 hMo, ↓hpt, tw_ua, tw_uk, h70, tw_up_ne, ↓A_if, ↓A_jn, ↓A_lt, ↓A_rz, ↓A_rn, ↓A_nzi, ↓A_nzl, ↓A_nn1, ↓A_nn0, ↓reduceIte, true_and, and_true, if_true, if_false, ite_true, ite_false, reduceIte, tl_0, tl_1, tl_2, tl_3, tl_4, tl_5, tl_6, tl_7, tl_8, tl_9, tl_10, tl_11, tl_12, tl_13, tl_14, tl_15, tl_16, tl_17, tl_18, tl_19, tl_20, tl_21, tl_22, tl_23, tl_24, tl_25, tl_26, tl_27, tl_28, tl_29, tl_30, tl_31, tl_32, tl_33, tl_34, tl_35, tl_36, tl_37, tl_38, tl_39, tl_40, tl_41, tl_42, tl_43, tl_44, tl_45, tl_46, tl_47, tl_48, tl_49, tl_50, tl_51, tl_52, tl_53, tl_54, tl_57, tl_59, tl_60, tl_62, tl_63, tl_64, tl_97, tl_99, tl_100, tl_120, tl_122, tl_192, tl_193, tl_194, tl_195, tl_196, tl_255, tl_256, tl_299, tl_400, tl_401, tl_492, tl_493, tl_541, tl_849, tl_999, tl_1000, tl_1341, tl_1342, tl_1390, tl_2190, tl_5412, tl_5904, tl_9999, tl_12345, tl_32767, tl_65536, tl_1000000, tl_252645135, tl_858993459, tl_1103515245, tl_1431655765, nz_31, nz_c31, eq_self, or_true, true_or, or_false, false_or, Nat.add_zero, nz_lt, nz_le, nz_eq, nz_cl, nz_sub, nI_add, pk_mul, nt_lt, nf_lt, nf_eq, nz_mI, mI_eq, mI_eq', mI_lt, mI_gt, mI_add, ↓j_max, ↓j_min, Nat.sub_sub, Nat.reduceAdd, Nat.reduceSub, Nat.reduceLT, Nat.reduceEqDiff, Bool.false_eq_true, ↓c_need hX H W.1 h8, ep, q1, ↓c_guessesBy Ha W.1 h8 (show p < 8 by omega), ↓c_guessesOn Ha W.1 h8 (show p < 8 by omega), ez, ↓Ea, ↓Ec, ↓Ef, e75, n70, e70, na1, eac, eaa, ↓MeV0 hMe, ↓MeG0_22 hMe, ↓MeI0_23 hMe, ↓MeP0_23 hMe, ↓MeZ0_23 hMe, ↓MeI0_24 hMe, ↓MeP0_24 hMe, ↓MeZ0_24 hMe]
    refine hj _ (tw_IV_act (μ := μ) (μ2 := μb) (T := T) (r := r) hS W HL RA2 HI HT hf (tw_fg_W W hp P (Nat.le_refl _)) R2 Rc3 (by have := Rc.1; split <;> omega) Fc (tw_Rmo_same Rm2 (by rw [tw_ra_n (by omega)]) (tw_ra_n (by omega))) tw_ra_a (Ez 2 (Or.inl rfl)) (fun q hq => Ez q (Or.inr hq)) (fun y h1 h2 h3 h4 => (tw_ra_n (by omega)).trans (Fm y h1 h2 h3 h4)) (fun q h1 h2 h3 => (congrFun (tw_ra_n (by omega)) q).trans (Fj q h1 h2 h3)) (Nat.le_refl _))
  · simp (disch := omega) only [f_Lc19, f_L_forget, f_X11_forget, ↓CxV0 hX, ↓CxG0_56 hX, ↓CxG0_57 hX, ↓CxG0_58 hX, ↓CxG0_59 hX, ↓CxG0_60 hX, ↓CxG0_61 hX, ↓CxG0_62 hX, ↓CxG0_63 hX, ↓CxG0_64 hX, ↓CxG0_65 hX, ↓CxI0_68 hX, ↓CxP0_68 hX, ↓CxZ0_68 hX, ↓CxI0_69 hX, ↓CxP0_69 hX, ↓CxZ0_69 hX, ↓TnV0 hTn, ↓TnG0_39 hTn, ↓TnG0_40 hTn, ↓TnG0_41 hTn, ↓TnG0_42 hTn, ↓TnG0_43 hTn, ↓TnG0_44 hTn, ↓TnG0_45 hTn, ↓TnI0_46 hTn, ↓TnP0_46 hTn, ↓TnZ0_46 hTn, ↓TnI0_47 hTn, ↓TnP0_47 hTn, ↓TnZ0_47 hTn, ↓TnI0_48 hTn, ↓TnP0_48 hTn, ↓TnZ0_48 hTn, ↓TnI0_49 hTn, ↓TnP0_49 hTn, ↓TnZ0_49 hTn, ↓TnI0_50 hTn, ↓TnP0_50 hTn, ↓TnZ0_50 hTn, ↓TnI0_51 hTn, ↓TnP0_51 hTn, ↓TnZ0_51 hTn, ↓TnI0_52 hTn, ↓TnP0_52 hTn, ↓TnZ0_52 hTn, ↓TnV1 hTn, ↓TnG1_19 hTn, ↓TnI1_20 hTn, ↓TnP1_20 hTn, ↓TnZ1_20 hTn, ↓TnI1_21 hTn, ↓TnP1_21 hTn, ↓TnZ1_21 hTn, ↓TnL0 hTn, ↓TnS0 hTn, ↓TnL1 hTn, ↓TnS1 hTn, ↓TnL2 hTn, ↓TnS2 hTn, ↓TnL3 hTn, ↓TnS3 hTn, ↓TnL4 hTn, ↓TnS4 hTn, ↓TnL5 hTn, ↓TnS5 hTn, ↓TnL6 hTn, ↓TnS6 hTn, ↓hs0, ↓hs1, ↓hs2, ↓hs3, ↓hs4, ↓hpi.1, ↓hpi.2, ↓hlG, ↓hlV, ha1, ↓X_sl hOu, ↓X_ll hOu, tw_upLa, tw_cmp0, f_X12_thrown, f_X12_throwsIf, ↓A_th, ↓A_xc, tw_xE1, tw_xE2, tw_xE3, tw_xE4, tw_xE5, tw_xE6, ↓MoV0 hMo, ↓MoI0_70 hMo, ↓MoZ0_70 hMo, ↓MoG0_71 hMo, ↓MoG0_72 hMo, ↓MoG0_73 hMo, ↓MoG0_74 hMo, ↓MoG0_75 hMo, ↓MoI0_76 hMo, ↓MoP0_76 hMo, ↓MoZ0_76 hMo, ↓MoI0_77 hMo, ↓MoP0_77 hMo, ↓MoZ0_77 hMo, ↓MoG0_78 hMo, ↓MoI0_79 hMo, ↓MoP0_79 hMo, ↓MoZ0_79 hMo, ↓MoI0_80 hMo, ↓MoP0_80 hMo, ↓MoZ0_80 hMo, ↓MoI0_81 hMo, ↓MoP0_81 hMo, ↓MoZ0_81 hMo, ↓MoI0_82 hMo, ↓MoP0_82 hMo, ↓MoZ0_82 hMo, ↓MoI0_83 hMo, ↓MoP0_83 hMo, ↓MoZ0_83 hMo, ↓MoI0_84 hMo, ↓MoP0_84 hMo, ↓MoZ0_84 hMo, ↓MoG0_85 hMo, ↓MoI0_86 hMo, ↓MoP0_86 hMo, ↓MoZ0_86 hMo, ↓MoG0_87 hMo, ↓MoI0_88 hMo, ↓MoP0_88 hMo, ↓MoZ0_88 hMo, ↓MoG0_89 hMo, ↓MoG0_90 hMo, ↓MoG0_91 hMo, ↓MoG0_92 hMo, ↓MoL0 hMo, ↓MoS0 hMo, ↓MoL1 hMo, ↓MoS1 hMo, ↓MoL2 hMo, ↓MoS2 hMo, ↓MoL3 hMo, ↓MoS3 hMo, ↓MoL4 hMo, ↓MoS4 hMo, ↓MoL5 hMo, ↓MoS5 hMo, ↓MoL6 hMo, ↓MoS6 hMo, ↓MoL7 hMo, ↓MoS7 hMo, ↓MoL8 hMo, ↓MoS8 hMo, ↓MoL9 hMo, ↓MoS9 hMo, ↓MoL10 hMo, ↓MoS10 hMo, ↓MoL11 hMo, ↓MoS11 hMo, ↓hpt, tw_ua, tw_uk, h70, tw_up_ne, ↓A_if, ↓A_jn, ↓A_lt, ↓A_rz, ↓A_rn, ↓A_nzi, ↓A_nzl, ↓A_nn1, ↓A_nn0, ↓reduceIte, true_and, and_true, if_true, if_false, ite_true, ite_false, reduceIte, tl_0, tl_1, tl_2, tl_3, tl_4, tl_5, tl_6, tl_7, tl_8, tl_9, tl_10, tl_11, tl_12, tl_13, tl_14, tl_15, tl_16, tl_17, tl_18, tl_19, tl_20, tl_21, tl_22, tl_23, tl_24, tl_25, tl_26, tl_27, tl_28, tl_29, tl_30, tl_31, tl_32, tl_33, tl_34, tl_35, tl_36, tl_37, tl_38, tl_39, tl_40, tl_41, tl_42, tl_43, tl_44, tl_45, tl_46, tl_47, tl_48, tl_49, tl_50, tl_51, tl_52, tl_53, tl_54, tl_57, tl_59, tl_60, tl_62, tl_63, tl_64, tl_97, tl_99, tl_100, tl_120, tl_122, tl_192, tl_193, tl_194, tl_195, tl_196, tl_255, tl_256, tl_299, tl_400, tl_401, tl_492, tl_493, tl_541, tl_849, tl_999, tl_1000, tl_1341, tl_1342, tl_1390, tl_2190, tl_5412, tl_5904, tl_9999, tl_12345, tl_32767, tl_65536, tl_1000000, tl_252645135, tl_858993459, tl_1103515245, tl_1431655765, nz_31, nz_c31, eq_self, or_true, true_or, or_false, false_or, Nat.add_zero, nz_lt, nz_le, nz_eq, nz_cl, nz_sub, nI_add, pk_mul, nt_lt, nf_lt, nf_eq, nz_mI, mI_eq, mI_eq', mI_lt, mI_gt, mI_add, ↓j_max, ↓j_min, Nat.sub_sub, Nat.reduceAdd, Nat.reduceSub, Nat.reduceLT, Nat.reduceEqDiff, Bool.false_eq_true, f_X12_forget, ↓c_need hX H W.1 h8, ↓m_nob hMo hPm h8, q1]
    (first | exact fin qm (Nat.le_refl _) | exact fin tw_qm_70 (Nat.le_refl _) | exact fin (tw_qm_t qm tw_qm_70) (Nat.le_refl _) | (intro n2 hn2; first | exact fin qm hn2 | exact fin (tw_qm_t qm tw_qm_70) hn2))
end P79c
