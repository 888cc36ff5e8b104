/-! ===== pure: the pairs that fit what was heard ===== -/
def tw_fpo (T : Nat → Int32) (P : Nat) (B : Nat → Nat) (M p o : Nat) : Bool := tw_ftt B (tw_rN T p o P) M
/-- over the pairs that fit -/
def tw_gf {α : Type} (T : Nat → Int32) (P : Nat) (B : Nat → Nat) (M : Nat) (f : Int32 → Int32 → α → α) (p o : Nat) (s : α) : α := if tw_fpo T P B M p o = true then f (tw_rgs T p o P 31) (nI (2 ^ p ||| 2 ^ o)) s else s
def tw_cnt (T : Nat → Int32) (P : Nat) (B : Nat → Nat) (M i : Nat) : Nat := tw_c6 P (tw_gf T P B M (fun _ _ y => y + 1)) 0 i
theorem tw_cnt_le (T : Nat → Int32) (P : Nat) (B : Nat → Nat) (M : Nat) : ∀ i, tw_cnt T P B M i ≤ i
  | 0 => Nat.le_refl 0
  | i + 1 => by
    have ih := tw_cnt_le T P B M i
    unfold tw_cnt at ih ⊢
    rw [tw_c6_s]
    split
    · show (if tw_fpo T P B M (i / 8) (i % 8) = true then tw_c6 P (tw_gf T P B M (fun _ _ y => y + 1)) 0 i + 1 else tw_c6 P (tw_gf T P B M (fun _ _ y => y + 1)) 0 i) ≤ i + 1
      split <;> omega
    · omega
theorem tw_it_e {α : Type} {f g : Nat → α → α} : ∀ (n : Nat) (x : α), (∀ i, i < n → f i = g i) → tw_it f n x = tw_it g n x := fun n x h => tw_it_congr n x (fun i hi y => by rw [h i hi])
section P79n
variable {sh : tw_Sh} {μ ν ν2 : Nat → Nat → Int32} {la : Nat → Nat → Int64} {n a b w m lw P N L a0 e M : Nat} {p o l h i z c x y f q kd t r s : Nat} {T T' : Nat → Int32} {v u rg tn : Int32} {j : Unit → tw_Mem → Prop} {G : tw_Gm} {B : Nat → Nat}
theorem c_findF (hA : tw_Pa sh b) (hw : tw_Tw sh (b + 152)) (H : tw_RC sh μ (b + 3) T) (W : tw_WF T P) (HL : tw_La sh μ lw T) (hdl : b + 161 < lw) (hok : ∀ i, i < M → B (2 * i) < 31) (g30 : μ (b + 154) 30 = nI (tw_hd B M)) (g31 : μ (b + 154) 31 = nI (tw_uh B M)) : ∃ μ', ((∀ y, ¬ (b + 152 ≤ y ∧ y < b + 157) → y ≠ lw + 1 → μ' y = μ y) ∧ μ' (b + 154) 29 = nI (tw_cnt T P B M 64) ∧ ∀ (α : Type) (f : Int32 → Int32 → α → α) (x : α), tw_it (fun q s => f (μ' (b + 155) q) (μ' (b + 156) q) s) (tw_cnt T P B M 64) x = tw_c6 P (tw_gf T P B M f) x 64) ∧ ∀ k, f_X4_findFitting (b + 154) lw k (sh, μ, la, n) = k () (sh, μ', la, n) := by
  have h8 := W.2.1
  have hP := W.1
  simp (disch := omega) only [f_X4_findFitting, ↓PaV0 hA, ↓PaG0_25 hA, ↓PaG0_26 hA, ↓PaG0_27 hA, ↓PaG0_28 hA, ↓PaI0_29 hA, ↓PaP0_29 hA, ↓PaZ0_29 hA, ↓PaI0_30 hA, ↓PaP0_30 hA, ↓PaZ0_30 hA, ↓PaI0_31 hA, ↓PaP0_31 hA, ↓PaZ0_31 hA, ↓PaL0 hA, ↓PaS0 hA, ↓PaL1 hA, ↓PaS1 hA, ↓A_if, ↓A_jn, ↓A_lt, ↓A_rz, ↓A_rn, ↓A_nzi, ↓A_nzl, ↓A_nn1, ↓A_nn0, ↓reduceIte, true_and, and_true, if_true, if_false, ite_true, ite_false, reduceIte, tl_0, tl_1, tl_2, tl_3, tl_4, tl_5, tl_6, tl_7, tl_8, tl_9, tl_10, tl_11, tl_12, tl_13, tl_14, tl_15, tl_16, tl_17, tl_18, tl_19, tl_20, tl_21, tl_22, tl_23, tl_24, tl_25, tl_26, tl_27, tl_28, tl_29, tl_30, tl_31, tl_32, tl_33, tl_34, tl_35, tl_36, tl_37, tl_38, tl_39, tl_40, tl_41, tl_42, tl_43, tl_44, tl_45, tl_46, tl_47, tl_48, tl_49, tl_50, tl_51, tl_52, tl_53, tl_54, tl_57, tl_59, tl_60, tl_62, tl_63, tl_64, tl_97, tl_99, tl_100, tl_120, tl_122, tl_192, tl_193, tl_194, tl_195, tl_196, tl_255, tl_256, tl_299, tl_400, tl_401, tl_492, tl_493, tl_541, tl_849, tl_999, tl_1000, tl_1341, tl_1342, tl_1390, tl_2190, tl_5412, tl_5904, tl_9999, tl_12345, tl_32767, tl_65536, tl_1000000, tl_252645135, tl_858993459, tl_1103515245, tl_1431655765, nz_31, nz_c31, eq_self, or_true, true_or, or_false, false_or, Nat.add_zero, nz_lt, nz_le, nz_eq, nz_cl, nz_sub, nI_add, pk_mul, nt_lt, nf_lt, nf_eq, nz_mI, mI_eq, mI_eq', mI_lt, mI_gt, mI_add, ↓j_max, ↓j_min, Nat.sub_sub, Nat.reduceAdd, Nat.reduceSub, Nat.reduceLT, Nat.reduceEqDiff, Bool.false_eq_true]
  refine tw_lp_ex 64 (fun i => nI i) (fun i μ' => (∀ y, ¬ (b + 152 ≤ y ∧ y < b + 157) → y ≠ lw + 1 → μ' y = μ y) ∧ μ' (b + 154) 30 = nI (tw_hd B M) ∧ μ' (b + 154) 31 = nI (tw_uh B M) ∧ μ' (b + 154) 29 = nI (tw_cnt T P B M i) ∧ ∀ (α : Type) (f : Int32 → Int32 → α → α) (x : α), tw_it (fun q s => f (μ' (b + 155) q) (μ' (b + 156) q) s) (tw_cnt T P B M i) x = tw_c6 P (tw_gf T P B M f) x i) rfl ⟨fun y h1 h2 => tw_up_ne (by omega), by rw [tw_uk (by omega)]; exact g30, by rw [tw_uk (by omega)]; exact g31, tw_ua, fun α f x => rfl⟩ ?_ ?_
  · rintro i hi μ1 ⟨F1, a30, a31, a29, a5⟩
    have R1 : tw_RC sh μ1 (b + 3) T := Rc_same H (fun y h1 h2 => F1 y (by omega) (by omega))
    have L1 : tw_La sh μ1 lw T := tw_La_same HL (fun y hy => F1 y (by omega) (by omega)) rfl (fun _ _ => rfl)
    have hcl := tw_cnt_le T P B M i
    by_cases q : i / 8 < i % 8 ∧ i % 8 < P
    · obtain ⟨μ2, F2, E2⟩ := c_ringH (la := la) (n := n) hA hw R1 W L1 (by omega) (p := i / 8) (o := i % 8) (by omega) (by omega) (by omega)
      have F3 : ∀ y, ¬ (b + 152 ≤ y ∧ y < b + 154) → y ≠ lw + 1 → μ2 y = μ1 y := fun y h1 h2 => F2 y (by omega) h2
      have d30 : μ2 (b + 154) 30 = nI (tw_hd B M) := by rw [F3 _ (by omega) (by omega)]; exact a30
      have d31 : μ2 (b + 154) 31 = nI (tw_uh B M) := by rw [F3 _ (by omega) (by omega)]; exact a31
      have d29 : μ2 (b + 154) 29 = nI (tw_cnt T P B M i) := by rw [F3 _ (by omega) (by omega)]; exact a29
      have d5 : ∀ (α : Type) (f : Int32 → Int32 → α → α) (x : α), tw_it (fun q s => f (μ2 (b + 155) q) (μ2 (b + 156) q) s) (tw_cnt T P B M i) x = tw_c6 P (tw_gf T P B M f) x i := by
        rw [F3 (b + 155) (by omega) (by omega), F3 (b + 156) (by omega) (by omega)]
        exact a5
      obtain ⟨er, hr⟩ := tw_rN_e T (i / 8) (i % 8) P
      have hfit := tw_fit_e hok hr
      have e6 : ∀ (α : Type) (g : Nat → Nat → α → α) (x : α), tw_c6 P g x (i + 1) = g (i / 8) (i % 8) (tw_c6 P g x i) := fun α g x => by rw [tw_c6_s, if_pos q]
      by_cases qf : tw_fpo T P B M (i / 8) (i % 8) = true
      · have ecn : tw_cnt T P B M (i + 1) = tw_cnt T P B M i + 1 := by
          unfold tw_cnt
          rw [e6]
          exact if_pos qf
        obtain ⟨q5, q6⟩ := hfit.mpr qf
        rw [← er] at q5 q6
        have s1 := tw_shN (p := i / 8) (by omega)
        have s2 := tw_shN (p := i % 8) (by omega)
        obtain ⟨μ3, e3⟩ : ∃ μ3, μ3 = tw_up (tw_up (tw_up μ2 (b + 155) (tw_cnt T P B M i) (tw_rgs T (i / 8) (i % 8) P 31)) (b + 156) (tw_cnt T P B M i) (nI (2 ^ (i / 8) ||| 2 ^ (i % 8)))) (b + 154) 29 (nI (tw_cnt T P B M i + 1)) := ⟨_, rfl⟩
        have u1 : ∀ c, c < tw_cnt T P B M i → μ3 (b + 155) c = μ2 (b + 155) c := fun c hc => by rw [e3, tw_up_ne (by omega), tw_up_ne (by omega), tw_uk (by omega)]
        have u2 : ∀ c, c < tw_cnt T P B M i → μ3 (b + 156) c = μ2 (b + 156) c := fun c hc => by rw [e3, tw_up_ne (by omega), tw_uk (by omega), tw_up_ne (by omega)]
        have u3 : μ3 (b + 155) (tw_cnt T P B M i) = tw_rgs T (i / 8) (i % 8) P 31 := by rw [e3, tw_up_ne (by omega), tw_up_ne (by omega)]; exact tw_ua
        have u4 : μ3 (b + 156) (tw_cnt T P B M i) = nI (2 ^ (i / 8) ||| 2 ^ (i % 8)) := by rw [e3, tw_up_ne (by omega)]; exact tw_ua
        refine ⟨μ3, ⟨fun y h1 h2 => ?_, ?_, ?_, ?_, fun α f x => ?_⟩, fun k rec => ?_⟩
        · rw [e3, tw_up_ne (by omega), tw_up_ne (by omega), tw_up_ne (by omega), F3 y (by omega) h2]; exact F1 y h1 h2
        · rw [e3, tw_uk (by omega), tw_up_ne (by omega), tw_up_ne (by omega)]; exact d30
        · rw [e3, tw_uk (by omega), tw_up_ne (by omega), tw_up_ne (by omega)]; exact d31
        · rw [e3, ecn]; exact tw_ua
        · rw [ecn, tw_it_s, e6, ← d5 α f x]
          unfold tw_gf
          rw [if_pos qf, u3, u4]
          rw [tw_it_congr (g := fun q s => f (μ2 (b + 155) q) (μ2 (b + 156) q) s) (tw_cnt T P B M i) x (fun c hc s => by rw [u1 c hc, u2 c hc])]
        · have c31 : tw_cnt T P B M i < 64 := by omega
          have d32 : ∀ v, tw_up (tw_up μ2 (b + 155) (tw_cnt T P B M i) (tw_rgs T (i / 8) (i % 8) P 31)) (b + 156) (tw_cnt T P B M i) v (b + 154) 29 = nI (tw_cnt T P B M i) := fun v => by rw [tw_up_ne (by omega), tw_up_ne (by omega)]; exact d29
          have d33 : ∀ v, tw_up μ2 (b + 155) (tw_cnt T P B M i) v (b + 154) 29 = nI (tw_cnt T P B M i) := fun v => by rw [tw_up_ne (by omega)]; exact d29
          simp (disch := omega) only [↓c_pHas hA R1 hP h8 hi, ↓c_less hi, ↓c_great hi, ↓E2, q, and_self, d29, d30, d31, d32, d33, q5, q6, c31, s1, s2, nI_or, ↓e3.symm, ↓PaV0 hA, ↓PaG0_25 hA, ↓PaG0_26 hA, ↓PaG0_27 hA, ↓PaG0_28 hA, ↓PaI0_29 hA, ↓PaP0_29 hA, ↓PaZ0_29 hA, ↓PaI0_30 hA, ↓PaP0_30 hA, ↓PaZ0_30 hA, ↓PaI0_31 hA, ↓PaP0_31 hA, ↓PaZ0_31 hA, ↓PaL0 hA, ↓PaS0 hA, ↓PaL1 hA, ↓PaS1 hA, ↓A_if, ↓A_jn, ↓A_lt, ↓A_rz, ↓A_rn, ↓A_nzi, ↓A_nzl, ↓A_nn1, ↓A_nn0, ↓reduceIte, true_and, and_true, if_true, if_false, ite_true, ite_false, reduceIte, tl_0, tl_1, tl_2, tl_3, tl_4, tl_5, tl_6, tl_7, tl_8, tl_9, tl_10, tl_11, tl_12, tl_13, tl_14, tl_15, tl_16, tl_17, tl_18, tl_19, tl_20, tl_21, tl_22, tl_23, tl_24, tl_25, tl_26, tl_27, tl_28, tl_29, tl_30, tl_31, tl_32, tl_33, tl_34, tl_35, tl_36, tl_37, tl_38, tl_39, tl_40, tl_41, tl_42, tl_43, tl_44, tl_45, tl_46, tl_47, tl_48, tl_49, tl_50, tl_51, tl_52, tl_53, tl_54, tl_57, tl_59, tl_60, tl_62, tl_63, tl_64, tl_97, tl_99, tl_100, tl_120, tl_122, tl_192, tl_193, tl_194, tl_195, tl_196, tl_255, tl_256, tl_299, tl_400, tl_401, tl_492, tl_493, tl_541, tl_849, tl_999, tl_1000, tl_1341, tl_1342, tl_1390, tl_2190, tl_5412, tl_5904, tl_9999, tl_12345, tl_32767, tl_65536, tl_1000000, tl_252645135, tl_858993459, tl_1103515245, tl_1431655765, nz_31, nz_c31, eq_self, or_true, true_or, or_false, false_or, Nat.add_zero, nz_lt, nz_le, nz_eq, nz_cl, nz_sub, nI_add, pk_mul, nt_lt, nf_lt, nf_eq, nz_mI, mI_eq, mI_eq', mI_lt, mI_gt, mI_add, ↓j_max, ↓j_min, Nat.sub_sub, Nat.reduceAdd, Nat.reduceSub, Nat.reduceLT, Nat.reduceEqDiff, Bool.false_eq_true]
      · have ecn : tw_cnt T P B M (i + 1) = tw_cnt T P B M i := by
          unfold tw_cnt
          rw [e6]
          exact if_neg qf
        refine ⟨μ2, ⟨fun y h1 h2 => (F3 y (by omega) h2).trans (F1 y h1 h2), d30, d31, by rw [ecn]; exact d29, fun α f x => ?_⟩, fun k rec => ?_⟩
        · rw [ecn, e6, d5 α f x]
          unfold tw_gf
          rw [if_neg qf]
        · by_cases q5 : nI (tw_rN T (i / 8) (i % 8) P) &&& nI (tw_hd B M) = nI (tw_hd B M)
          · by_cases q6 : nI (tw_rN T (i / 8) (i % 8) P) &&& nI (tw_uh B M) = nI 0
            · exact absurd (hfit.mp ⟨q5, q6⟩) qf
            · rw [← er] at q5 q6
              simp (disch := omega) only [↓c_pHas hA R1 hP h8 hi, ↓c_less hi, ↓c_great hi, ↓E2, q, and_self, d30, d31, q5, q6, ↓PaV0 hA, ↓PaG0_25 hA, ↓PaG0_26 hA, ↓PaG0_27 hA, ↓PaG0_28 hA, ↓PaI0_29 hA, ↓PaP0_29 hA, ↓PaZ0_29 hA, ↓PaI0_30 hA, ↓PaP0_30 hA, ↓PaZ0_30 hA, ↓PaI0_31 hA, ↓PaP0_31 hA, ↓PaZ0_31 hA, ↓PaL0 hA, ↓PaS0 hA, ↓PaL1 hA, ↓PaS1 hA, ↓A_if, ↓A_jn, ↓A_lt, ↓A_rz, ↓A_rn, ↓A_nzi, ↓A_nzl, ↓A_nn1, ↓A_nn0, ↓reduceIte, true_and, and_true, if_true, if_false, ite_true, ite_false, reduceIte, tl_0, tl_1, tl_2, tl_3, tl_4, tl_5, tl_6, tl_7, tl_8, tl_9, tl_10, tl_11, tl_12, tl_13, tl_14, tl_15, tl_16, tl_17, tl_18, tl_19, tl_20, tl_21, tl_22, tl_23, tl_24, tl_25, tl_26, tl_27, tl_28, tl_29, tl_30, tl_31, tl_32, tl_33, tl_34, tl_35, tl_36, tl_37, tl_38, tl_39, tl_40, tl_41, tl_42, tl_43, tl_44, tl_45, tl_46, tl_47, tl_48, tl_49, tl_50, tl_51, tl_52, tl_53, tl_54, tl_57, tl_59, tl_60, tl_62, tl_63, tl_64, tl_97, tl_99, tl_100, tl_120, tl_122, tl_192, tl_193, tl_194, tl_195, tl_196, tl_255, tl_256, tl_299, tl_400, tl_401, tl_492, tl_493, tl_541, tl_849, tl_999, tl_1000, tl_1341, tl_1342, tl_1390, tl_2190, tl_5412, tl_5904, tl_9999, tl_12345, tl_32767, tl_65536, tl_1000000, tl_252645135, tl_858993459, tl_1103515245, tl_1431655765, nz_31, nz_c31, eq_self, or_true, true_or, or_false, false_or, Nat.add_zero, nz_lt, nz_le, nz_eq, nz_cl, nz_sub, nI_add, pk_mul, nt_lt, nf_lt, nf_eq, nz_mI, mI_eq, mI_eq', mI_lt, mI_gt, mI_add, ↓j_max, ↓j_min, Nat.sub_sub, Nat.reduceAdd, Nat.reduceSub, Nat.reduceLT, Nat.reduceEqDiff, Bool.false_eq_true]
          · rw [← er] at q5
            simp (disch := omega) only [↓c_pHas hA R1 hP h8 hi, ↓c_less hi, ↓c_great hi, ↓E2, q, and_self, d30, d31, q5, ↓PaV0 hA, ↓PaG0_25 hA, ↓PaG0_26 hA, ↓PaG0_27 hA, ↓PaG0_28 hA, ↓PaI0_29 hA, ↓PaP0_29 hA, ↓PaZ0_29 hA, ↓PaI0_30 hA, ↓PaP0_30 hA, ↓PaZ0_30 hA, ↓PaI0_31 hA, ↓PaP0_31 hA, ↓PaZ0_31 hA, ↓PaL0 hA, ↓PaS0 hA, ↓PaL1 hA, ↓PaS1 hA, ↓A_if, ↓A_jn, ↓A_lt, ↓A_rz, ↓A_rn, ↓A_nzi, ↓A_nzl, ↓A_nn1, ↓A_nn0, ↓reduceIte, true_and, and_true, if_true, if_false, ite_true, ite_false, reduceIte, tl_0, tl_1, tl_2, tl_3, tl_4, tl_5, tl_6, tl_7, tl_8, tl_9, tl_10, tl_11, tl_12, tl_13, tl_14, tl_15, tl_16, tl_17, tl_18, tl_19, tl_20, tl_21, tl_22, tl_23, tl_24, tl_25, tl_26, tl_27, tl_28, tl_29, tl_30, tl_31, tl_32, tl_33, tl_34, tl_35, tl_36, tl_37, tl_38, tl_39, tl_40, tl_41, tl_42, tl_43, tl_44, tl_45, tl_46, tl_47, tl_48, tl_49, tl_50, tl_51, tl_52, tl_53, tl_54, tl_57, tl_59, tl_60, tl_62, tl_63, tl_64, tl_97, tl_99, tl_100, tl_120, tl_122, tl_192, tl_193, tl_194, tl_195, tl_196, tl_255, tl_256, tl_299, tl_400, tl_401, tl_492, tl_493, tl_541, tl_849, tl_999, tl_1000, tl_1341, tl_1342, tl_1390, tl_2190, tl_5412, tl_5904, tl_9999, tl_12345, tl_32767, tl_65536, tl_1000000, tl_252645135, tl_858993459, tl_1103515245, tl_1431655765, nz_31, nz_c31, eq_self, or_true, true_or, or_false, false_or, Nat.add_zero, nz_lt, nz_le, nz_eq, nz_cl, nz_sub, nI_add, pk_mul, nt_lt, nf_lt, nf_eq, nz_mI, mI_eq, mI_eq', mI_lt, mI_gt, mI_add, ↓j_max, ↓j_min, Nat.sub_sub, Nat.reduceAdd, Nat.reduceSub, Nat.reduceLT, Nat.reduceEqDiff, Bool.false_eq_true]
    · have e6 : ∀ (α : Type) (g : Nat → Nat → α → α) (x : α), tw_c6 P g x (i + 1) = tw_c6 P g x i := fun α g x => by rw [tw_c6_s, if_neg q]
      have ecn : tw_cnt T P B M (i + 1) = tw_cnt T P B M i := e6 _ _ _
      refine ⟨μ1, ⟨F1, a30, a31, by rw [ecn]; exact a29, fun α f x => ?_⟩, fun k rec => ?_⟩
      · rw [ecn, e6]; exact a5 α f x
      · simp (disch := omega) only [↓c_pHas hA R1 hP h8 hi, q, ↓PaV0 hA, ↓PaG0_25 hA, ↓PaG0_26 hA, ↓PaG0_27 hA, ↓PaG0_28 hA, ↓PaI0_29 hA, ↓PaP0_29 hA, ↓PaZ0_29 hA, ↓PaI0_30 hA, ↓PaP0_30 hA, ↓PaZ0_30 hA, ↓PaI0_31 hA, ↓PaP0_31 hA, ↓PaZ0_31 hA, ↓PaL0 hA, ↓PaS0 hA, ↓PaL1 hA, ↓PaS1 hA, ↓A_if, ↓A_jn, ↓A_lt, ↓A_rz, ↓A_rn, ↓A_nzi, ↓A_nzl, ↓A_nn1, ↓A_nn0, ↓reduceIte, true_and, and_true, if_true, if_false, ite_true, ite_false, reduceIte, tl_0, tl_1, tl_2, tl_3, tl_4, tl_5, tl_6, tl_7, tl_8, tl_9, tl_10, tl_11, tl_12, tl_13, tl_14, tl_15, tl_16, tl_17, tl_18, tl_19, tl_20, tl_21, tl_22, tl_23, tl_24, tl_25, tl_26, tl_27, tl_28, tl_29, tl_30, tl_31, tl_32, tl_33, tl_34, tl_35, tl_36, tl_37, tl_38, tl_39, tl_40, tl_41, tl_42, tl_43, tl_44, tl_45, tl_46, tl_47, tl_48, tl_49, tl_50, tl_51, tl_52, tl_53, tl_54, tl_57, tl_59, tl_60, tl_62, tl_63, tl_64, tl_97, tl_99, tl_100, tl_120, tl_122, tl_192, tl_193, tl_194, tl_195, tl_196, tl_255, tl_256, tl_299, tl_400, tl_401, tl_492, tl_493, tl_541, tl_849, tl_999, tl_1000, tl_1341, tl_1342, tl_1390, tl_2190, tl_5412, tl_5904, tl_9999, tl_12345, tl_32767, tl_65536, tl_1000000, tl_252645135, tl_858993459, tl_1103515245, tl_1431655765, nz_31, nz_c31, eq_self, or_true, true_or, or_false, false_or, Nat.add_zero, nz_lt, nz_le, nz_eq, nz_cl, nz_sub, nI_add, pk_mul, nt_lt, nf_lt, nf_eq, nz_mI, mI_eq, mI_eq', mI_lt, mI_gt, mI_add, ↓j_max, ↓j_min, Nat.sub_sub, Nat.reduceAdd, Nat.reduceSub, Nat.reduceLT, Nat.reduceEqDiff, Bool.false_eq_true]
  · rintro μ1 ⟨F1, a30, a31, a29, a5⟩
    refine ⟨μ1, ⟨F1, a29, a5⟩, fun k rec => ?_⟩
    simp (disch := omega) only [↓A_if, ↓A_jn, ↓A_lt, ↓A_rz, ↓A_rn, ↓A_nzi, ↓A_nzl, ↓A_nn1, ↓A_nn0, ↓reduceIte, true_and, and_true, if_true, if_false, ite_true, ite_false, reduceIte, tl_0, tl_1, tl_2, tl_3, tl_4, tl_5, tl_6, tl_7, tl_8, tl_9, tl_10, tl_11, tl_12, tl_13, tl_14, tl_15, tl_16, tl_17, tl_18, tl_19, tl_20, tl_21, tl_22, tl_23, tl_24, tl_25, tl_26, tl_27, tl_28, tl_29, tl_30, tl_31, tl_32, tl_33, tl_34, tl_35, tl_36, tl_37, tl_38, tl_39, tl_40, tl_41, tl_42, tl_43, tl_44, tl_45, tl_46, tl_47, tl_48, tl_49, tl_50, tl_51, tl_52, tl_53, tl_54, tl_57, tl_59, tl_60, tl_62, tl_63, tl_64, tl_97, tl_99, tl_100, tl_120, tl_122, tl_192, tl_193, tl_194, tl_195, tl_196, tl_255, tl_256, tl_299, tl_400, tl_401, tl_492, tl_493, tl_541, tl_849, tl_999, tl_1000, tl_1341, tl_1342, tl_1390, tl_2190, tl_5412, tl_5904, tl_9999, tl_12345, tl_32767, tl_65536, tl_1000000, tl_252645135, tl_858993459, tl_1103515245, tl_1431655765, nz_31, nz_c31, eq_self, or_true, true_or, or_false, false_or, Nat.add_zero, nz_lt, nz_le, nz_eq, nz_cl, nz_sub, nI_add, pk_mul, nt_lt, nf_lt, nf_eq, nz_mI, mI_eq, mI_eq', mI_lt, mI_gt, mI_add, ↓j_max, ↓j_min, Nat.sub_sub, Nat.reduceAdd, Nat.reduceSub, Nat.reduceLT, Nat.reduceEqDiff, Bool.false_eq_true]
theorem c_inAll (hA : tw_Pa sh b) (hc : c ≤ 64) (a29 : μ (b + 154) 29 = nI c) (k : Int32 → tw_Mem → Prop) : f_X4_inAllFitting (b + 154) k (sh, μ, la, n) = k (if c = 0 then nI 0 else tw_it (fun q s => s &&& μ (b + 156) q) c (nI 255)) (sh, μ, la, n) := by
  by_cases q : c = 0
  · subst q
    simp (disch := omega) only [f_X4_inAllFitting, a29, ↓PaV0 hA, ↓PaG0_25 hA, ↓PaG0_26 hA, ↓PaG0_27 hA, ↓PaG0_28 hA, ↓PaI0_29 hA, ↓PaP0_29 hA, ↓PaZ0_29 hA, ↓PaI0_30 hA, ↓PaP0_30 hA, ↓PaZ0_30 hA, ↓PaI0_31 hA, ↓PaP0_31 hA, ↓PaZ0_31 hA, ↓PaL0 hA, ↓PaS0 hA, ↓PaL1 hA, ↓PaS1 hA, ↓A_if, ↓A_jn, ↓A_lt, ↓A_rz, ↓A_rn, ↓A_nzi, ↓A_nzl, ↓A_nn1, ↓A_nn0, ↓reduceIte, true_and, and_true, if_true, if_false, ite_true, ite_false, reduceIte, tl_0, tl_1, tl_2, tl_3, tl_4, tl_5, tl_6, tl_7, tl_8, tl_9, tl_10, tl_11, tl_12, tl_13, tl_14, tl_15, tl_16, tl_17, tl_18, tl_19, tl_20, tl_21, tl_22, tl_23, tl_24, tl_25, tl_26, tl_27, tl_28, tl_29, tl_30, tl_31, tl_32, tl_33, tl_34, tl_35, tl_36, tl_37, tl_38, tl_39, tl_40, tl_41, tl_42, tl_43, tl_44, tl_45, tl_46, tl_47, tl_48, tl_49, tl_50, tl_51, tl_52, tl_53, tl_54, tl_57, tl_59, tl_60, tl_62, tl_63, tl_64, tl_97, tl_99, tl_100, tl_120, tl_122, tl_192, tl_193, tl_194, tl_195, tl_196, tl_255, tl_256, tl_299, tl_400, tl_401, tl_492, tl_493, tl_541, tl_849, tl_999, tl_1000, tl_1341, tl_1342, tl_1390, tl_2190, tl_5412, tl_5904, tl_9999, tl_12345, tl_32767, tl_65536, tl_1000000, tl_252645135, tl_858993459, tl_1103515245, tl_1431655765, nz_31, nz_c31, eq_self, or_true, true_or, or_false, false_or, Nat.add_zero, nz_lt, nz_le, nz_eq, nz_cl, nz_sub, nI_add, pk_mul, nt_lt, nf_lt, nf_eq, nz_mI, mI_eq, mI_eq', mI_lt, mI_gt, mI_add, ↓j_max, ↓j_min, Nat.sub_sub, Nat.reduceAdd, Nat.reduceSub, Nat.reduceLT, Nat.reduceEqDiff, Bool.false_eq_true]
  · rw [if_neg q]
    simp (disch := omega) only [f_X4_inAllFitting, a29, q, ↓PaV0 hA, ↓PaG0_25 hA, ↓PaG0_26 hA, ↓PaG0_27 hA, ↓PaG0_28 hA, ↓PaI0_29 hA, ↓PaP0_29 hA, ↓PaZ0_29 hA, ↓PaI0_30 hA, ↓PaP0_30 hA, ↓PaZ0_30 hA, ↓PaI0_31 hA, ↓PaP0_31 hA, ↓PaZ0_31 hA, ↓PaL0 hA, ↓PaS0 hA, ↓PaL1 hA, ↓PaS1 hA, ↓A_if, ↓A_jn, ↓A_lt, ↓A_rz, ↓A_rn, ↓A_nzi, ↓A_nzl, ↓A_nn1, ↓A_nn0, ↓reduceIte, true_and, and_true, if_true, if_false, ite_true, ite_false, reduceIte, tl_0, tl_1, tl_2, tl_3, tl_4, tl_5, tl_6, tl_7, tl_8, tl_9, tl_10, tl_11, tl_12, tl_13, tl_14, tl_15, tl_16, tl_17, tl_18, tl_19, tl_20, tl_21, tl_22, tl_23, tl_24, tl_25, tl_26, tl_27, tl_28, tl_29, tl_30, tl_31, tl_32, tl_33, tl_34, tl_35, tl_36, tl_37, tl_38, tl_39, tl_40, tl_41, tl_42, tl_43, tl_44, tl_45, tl_46, tl_47, tl_48, tl_49, tl_50, tl_51, tl_52, tl_53, tl_54, tl_57, tl_59, tl_60, tl_62, tl_63, tl_64, tl_97, tl_99, tl_100, tl_120, tl_122, tl_192, tl_193, tl_194, tl_195, tl_196, tl_255, tl_256, tl_299, tl_400, tl_401, tl_492, tl_493, tl_541, tl_849, tl_999, tl_1000, tl_1341, tl_1342, tl_1390, tl_2190, tl_5412, tl_5904, tl_9999, tl_12345, tl_32767, tl_65536, tl_1000000, tl_252645135, tl_858993459, tl_1103515245, tl_1431655765, nz_31, nz_c31, eq_self, or_true, true_or, or_false, false_or, Nat.add_zero, nz_lt, nz_le, nz_eq, nz_cl, nz_sub, nI_add, pk_mul, nt_lt, nf_lt, nf_eq, nz_mI, mI_eq, mI_eq', mI_lt, mI_gt, mI_add, ↓j_max, ↓j_min, Nat.sub_sub, Nat.reduceAdd, Nat.reduceSub, Nat.reduceLT, Nat.reduceEqDiff, Bool.false_eq_true]
    refine tw_lp_for c (fun i => (tw_it (fun q s => s &&& μ (b + 156) q) i (nI 255), nI i)) (fun _ => (sh, μ, la, n)) rfl rfl ?_ ?_
    · intro i hi rec
      rw [tw_it_s]
      simp (disch := omega) only [a29, ↓PaV0 hA, ↓PaG0_25 hA, ↓PaG0_26 hA, ↓PaG0_27 hA, ↓PaG0_28 hA, ↓PaI0_29 hA, ↓PaP0_29 hA, ↓PaZ0_29 hA, ↓PaI0_30 hA, ↓PaP0_30 hA, ↓PaZ0_30 hA, ↓PaI0_31 hA, ↓PaP0_31 hA, ↓PaZ0_31 hA, ↓PaL0 hA, ↓PaS0 hA, ↓PaL1 hA, ↓PaS1 hA, ↓A_if, ↓A_jn, ↓A_lt, ↓A_rz, ↓A_rn, ↓A_nzi, ↓A_nzl, ↓A_nn1, ↓A_nn0, ↓reduceIte, true_and, and_true, if_true, if_false, ite_true, ite_false, reduceIte, tl_0, tl_1, tl_2, tl_3, tl_4, tl_5, tl_6, tl_7, tl_8, tl_9, tl_10, tl_11, tl_12, tl_13, tl_14, tl_15, tl_16, tl_17, tl_18, tl_19, tl_20, tl_21, tl_22, tl_23, tl_24, tl_25, tl_26, tl_27, tl_28, tl_29, tl_30, tl_31, tl_32, tl_33, tl_34, tl_35, tl_36, tl_37, tl_38, tl_39, tl_40, tl_41, tl_42, tl_43, tl_44, tl_45, tl_46, tl_47, tl_48, tl_49, tl_50, tl_51, tl_52, tl_53, tl_54, tl_57, tl_59, tl_60, tl_62, tl_63, tl_64, tl_97, tl_99, tl_100, tl_120, tl_122, tl_192, tl_193, tl_194, tl_195, tl_196, tl_255, tl_256, tl_299, tl_400, tl_401, tl_492, tl_493, tl_541, tl_849, tl_999, tl_1000, tl_1341, tl_1342, tl_1390, tl_2190, tl_5412, tl_5904, tl_9999, tl_12345, tl_32767, tl_65536, tl_1000000, tl_252645135, tl_858993459, tl_1103515245, tl_1431655765, nz_31, nz_c31, eq_self, or_true, true_or, or_false, false_or, Nat.add_zero, nz_lt, nz_le, nz_eq, nz_cl, nz_sub, nI_add, pk_mul, nt_lt, nf_lt, nf_eq, nz_mI, mI_eq, mI_eq', mI_lt, mI_gt, mI_add, ↓j_max, ↓j_min, Nat.sub_sub, Nat.reduceAdd, Nat.reduceSub, Nat.reduceLT, Nat.reduceEqDiff, Bool.false_eq_true]
    · intro rec
      simp (disch := omega) only [a29, ↓PaV0 hA, ↓PaG0_25 hA, ↓PaG0_26 hA, ↓PaG0_27 hA, ↓PaG0_28 hA, ↓PaI0_29 hA, ↓PaP0_29 hA, ↓PaZ0_29 hA, ↓PaI0_30 hA, ↓PaP0_30 hA, ↓PaZ0_30 hA, ↓PaI0_31 hA, ↓PaP0_31 hA, ↓PaZ0_31 hA, ↓PaL0 hA, ↓PaS0 hA, ↓PaL1 hA, ↓PaS1 hA, ↓A_if, ↓A_jn, ↓A_lt, ↓A_rz, ↓A_rn, ↓A_nzi, ↓A_nzl, ↓A_nn1, ↓A_nn0, ↓reduceIte, true_and, and_true, if_true, if_false, ite_true, ite_false, reduceIte, tl_0, tl_1, tl_2, tl_3, tl_4, tl_5, tl_6, tl_7, tl_8, tl_9, tl_10, tl_11, tl_12, tl_13, tl_14, tl_15, tl_16, tl_17, tl_18, tl_19, tl_20, tl_21, tl_22, tl_23, tl_24, tl_25, tl_26, tl_27, tl_28, tl_29, tl_30, tl_31, tl_32, tl_33, tl_34, tl_35, tl_36, tl_37, tl_38, tl_39, tl_40, tl_41, tl_42, tl_43, tl_44, tl_45, tl_46, tl_47, tl_48, tl_49, tl_50, tl_51, tl_52, tl_53, tl_54, tl_57, tl_59, tl_60, tl_62, tl_63, tl_64, tl_97, tl_99, tl_100, tl_120, tl_122, tl_192, tl_193, tl_194, tl_195, tl_196, tl_255, tl_256, tl_299, tl_400, tl_401, tl_492, tl_493, tl_541, tl_849, tl_999, tl_1000, tl_1341, tl_1342, tl_1390, tl_2190, tl_5412, tl_5904, tl_9999, tl_12345, tl_32767, tl_65536, tl_1000000, tl_252645135, tl_858993459, tl_1103515245, tl_1431655765, nz_31, nz_c31, eq_self, or_true, true_or, or_false, false_or, Nat.add_zero, nz_lt, nz_le, nz_eq, nz_cl, nz_sub, nI_add, pk_mul, nt_lt, nf_lt, nf_eq, nz_mI, mI_eq, mI_eq', mI_lt, mI_gt, mI_add, ↓j_max, ↓j_min, Nat.sub_sub, Nat.reduceAdd, Nat.reduceSub, Nat.reduceLT, Nat.reduceEqDiff, Bool.false_eq_true]
def tw_rcN (μ : Nat → Nat → Int32) (b h c : Nat) : Nat := tw_it (fun q s => if (μ (b + 155) q >>> nI h) &&& nI 1 = nI 1 then s + 1 else s) c 0
theorem tw_rcN_le (μ : Nat → Nat → Int32) (b h : Nat) : ∀ c, tw_rcN μ b h c ≤ c
  | 0 => Nat.le_refl 0
  | c + 1 => by
    have ih := tw_rcN_le μ b h c
    unfold tw_rcN at ih ⊢
    rw [tw_it_s]
    split <;> omega
theorem c_isbW (k : Int32 → tw_Mem → Prop) (M : tw_Mem) (hp : p < 32) : f_X11_isIn v (nI p) k M = if (v >>> nI p) &&& nI 1 = nI 1 then k 1 M else k 0 M := by
  by_cases q : (v >>> nI p) &&& nI 1 = nI 1
  · simp (disch := omega) only [f_X11_isIn, q, ↓A_if, ↓A_jn, ↓A_lt, ↓A_rz, ↓A_rn, ↓A_nzi, ↓A_nzl, ↓A_nn1, ↓A_nn0, ↓reduceIte, true_and, and_true, if_true, if_false, ite_true, ite_false, reduceIte, tl_0, tl_1, tl_2, tl_3, tl_4, tl_5, tl_6, tl_7, tl_8, tl_9, tl_10, tl_11, tl_12, tl_13, tl_14, tl_15, tl_16, tl_17, tl_18, tl_19, tl_20, tl_21, tl_22, tl_23, tl_24, tl_25, tl_26, tl_27, tl_28, tl_29, tl_30, tl_31, tl_32, tl_33, tl_34, tl_35, tl_36, tl_37, tl_38, tl_39, tl_40, tl_41, tl_42, tl_43, tl_44, tl_45, tl_46, tl_47, tl_48, tl_49, tl_50, tl_51, tl_52, tl_53, tl_54, tl_57, tl_59, tl_60, tl_62, tl_63, tl_64, tl_97, tl_99, tl_100, tl_120, tl_122, tl_192, tl_193, tl_194, tl_195, tl_196, tl_255, tl_256, tl_299, tl_400, tl_401, tl_492, tl_493, tl_541, tl_849, tl_999, tl_1000, tl_1341, tl_1342, tl_1390, tl_2190, tl_5412, tl_5904, tl_9999, tl_12345, tl_32767, tl_65536, tl_1000000, tl_252645135, tl_858993459, tl_1103515245, tl_1431655765, nz_31, nz_c31, eq_self, or_true, true_or, or_false, false_or, Nat.add_zero, nz_lt, nz_le, nz_eq, nz_cl, nz_sub, nI_add, pk_mul, nt_lt, nf_lt, nf_eq, nz_mI, mI_eq, mI_eq', mI_lt, mI_gt, mI_add, ↓j_max, ↓j_min, Nat.sub_sub, Nat.reduceAdd, Nat.reduceSub, Nat.reduceLT, Nat.reduceEqDiff, Bool.false_eq_true]
  · have q2 : (v >>> nI p) &&& nI 1 = nI 0 := by
      have g : ∀ x : Int32, x &&& nI 1 = nI 0 ∨ x &&& nI 1 = nI 1 := fun x => by
        by_cases h : x.toBitVec.getLsbD 0 = true
        · refine Or.inr (Int32.toBitVec_inj.mp ?_)
          rw [Int32.toBitVec_and]
          apply BitVec.eq_of_getLsbD_eq
          intro i hi
          have e1 : (nI 1).toBitVec = 1#32 := rfl
          rw [BitVec.getLsbD_and, e1]
          by_cases e : i = 0
          · subst e; rw [h]; rfl
          · rw [show (1#32).getLsbD i = false by simp [BitVec.getLsbD_one, e], Bool.and_false]
        · refine Or.inl (Int32.toBitVec_inj.mp ?_)
          rw [Int32.toBitVec_and]
          apply BitVec.eq_of_getLsbD_eq
          intro i hi
          have e1 : (nI 1).toBitVec = 1#32 := rfl
          have e0 : (nI 0).toBitVec = 0#32 := rfl
          rw [BitVec.getLsbD_and, e1, e0, BitVec.getLsbD_zero]
          by_cases e : i = 0
          · subst e
            have h : x.toBitVec.getLsbD 0 = false := by simpa using h
            rw [h, Bool.false_and]
          · rw [show (1#32).getLsbD i = false by simp [BitVec.getLsbD_one, e], Bool.and_false]
      rcases g (v >>> nI p) with g | g
      · exact g
      · exact absurd g q
    simp (disch := omega) only [f_X11_isIn, q2, ↓A_if, ↓A_jn, ↓A_lt, ↓A_rz, ↓A_rn, ↓A_nzi, ↓A_nzl, ↓A_nn1, ↓A_nn0, ↓reduceIte, true_and, and_true, if_true, if_false, ite_true, ite_false, reduceIte, tl_0, tl_1, tl_2, tl_3, tl_4, tl_5, tl_6, tl_7, tl_8, tl_9, tl_10, tl_11, tl_12, tl_13, tl_14, tl_15, tl_16, tl_17, tl_18, tl_19, tl_20, tl_21, tl_22, tl_23, tl_24, tl_25, tl_26, tl_27, tl_28, tl_29, tl_30, tl_31, tl_32, tl_33, tl_34, tl_35, tl_36, tl_37, tl_38, tl_39, tl_40, tl_41, tl_42, tl_43, tl_44, tl_45, tl_46, tl_47, tl_48, tl_49, tl_50, tl_51, tl_52, tl_53, tl_54, tl_57, tl_59, tl_60, tl_62, tl_63, tl_64, tl_97, tl_99, tl_100, tl_120, tl_122, tl_192, tl_193, tl_194, tl_195, tl_196, tl_255, tl_256, tl_299, tl_400, tl_401, tl_492, tl_493, tl_541, tl_849, tl_999, tl_1000, tl_1341, tl_1342, tl_1390, tl_2190, tl_5412, tl_5904, tl_9999, tl_12345, tl_32767, tl_65536, tl_1000000, tl_252645135, tl_858993459, tl_1103515245, tl_1431655765, nz_31, nz_c31, eq_self, or_true, true_or, or_false, false_or, Nat.add_zero, nz_lt, nz_le, nz_eq, nz_cl, nz_sub, nI_add, pk_mul, nt_lt, nf_lt, nf_eq, nz_mI, mI_eq, mI_eq', mI_lt, mI_gt, mI_add, ↓j_max, ↓j_min, Nat.sub_sub, Nat.reduceAdd, Nat.reduceSub, Nat.reduceLT, Nat.reduceEqDiff, Bool.false_eq_true]
theorem c_ringCt (hA : tw_Pa sh b) (hc : c ≤ 64) (a29 : μ (b + 154) 29 = nI c) (hh : h < 31) (k : Int32 → tw_Mem → Prop) : f_X4_fittingThatRing (b + 154) (nI h) k (sh, μ, la, n) = k (nI (tw_rcN μ b h c)) (sh, μ, la, n) := by
  unfold f_X4_fittingThatRing
  refine tw_lp_for c (fun i => (nI (tw_rcN μ b h i), nI i)) (fun _ => (sh, μ, la, n)) rfl rfl ?_ ?_
  · intro i hi rec
    have e : tw_rcN μ b h (i + 1) = if (μ (b + 155) i >>> nI h) &&& nI 1 = nI 1 then tw_rcN μ b h i + 1 else tw_rcN μ b h i := rfl
    rw [e]
    by_cases q : (μ (b + 155) i >>> nI h) &&& nI 1 = nI 1 <;> simp (disch := omega) only [a29, ↓c_isbW, q, ↓PaV0 hA, ↓PaG0_25 hA, ↓PaG0_26 hA, ↓PaG0_27 hA, ↓PaG0_28 hA, ↓PaI0_29 hA, ↓PaP0_29 hA, ↓PaZ0_29 hA, ↓PaI0_30 hA, ↓PaP0_30 hA, ↓PaZ0_30 hA, ↓PaI0_31 hA, ↓PaP0_31 hA, ↓PaZ0_31 hA, ↓PaL0 hA, ↓PaS0 hA, ↓PaL1 hA, ↓PaS1 hA, ↓A_if, ↓A_jn, ↓A_lt, ↓A_rz, ↓A_rn, ↓A_nzi, ↓A_nzl, ↓A_nn1, ↓A_nn0, ↓reduceIte, true_and, and_true, if_true, if_false, ite_true, ite_false, reduceIte, tl_0, tl_1, tl_2, tl_3, tl_4, tl_5, tl_6, tl_7, tl_8, tl_9, tl_10, tl_11, tl_12, tl_13, tl_14, tl_15, tl_16, tl_17, tl_18, tl_19, tl_20, tl_21, tl_22, tl_23, tl_24, tl_25, tl_26, tl_27, tl_28, tl_29, tl_30, tl_31, tl_32, tl_33, tl_34, tl_35, tl_36, tl_37, tl_38, tl_39, tl_40, tl_41, tl_42, tl_43, tl_44, tl_45, tl_46, tl_47, tl_48, tl_49, tl_50, tl_51, tl_52, tl_53, tl_54, tl_57, tl_59, tl_60, tl_62, tl_63, tl_64, tl_97, tl_99, tl_100, tl_120, tl_122, tl_192, tl_193, tl_194, tl_195, tl_196, tl_255, tl_256, tl_299, tl_400, tl_401, tl_492, tl_493, tl_541, tl_849, tl_999, tl_1000, tl_1341, tl_1342, tl_1390, tl_2190, tl_5412, tl_5904, tl_9999, tl_12345, tl_32767, tl_65536, tl_1000000, tl_252645135, tl_858993459, tl_1103515245, tl_1431655765, nz_31, nz_c31, eq_self, or_true, true_or, or_false, false_or, Nat.add_zero, nz_lt, nz_le, nz_eq, nz_cl, nz_sub, nI_add, pk_mul, nt_lt, nf_lt, nf_eq, nz_mI, mI_eq, mI_eq', mI_lt, mI_gt, mI_add, ↓j_max, ↓j_min, Nat.sub_sub, Nat.reduceAdd, Nat.reduceSub, Nat.reduceLT, Nat.reduceEqDiff, Bool.false_eq_true]
  · intro rec
    simp (disch := omega) only [a29, ↓PaV0 hA, ↓PaG0_25 hA, ↓PaG0_26 hA, ↓PaG0_27 hA, ↓PaG0_28 hA, ↓PaI0_29 hA, ↓PaP0_29 hA, ↓PaZ0_29 hA, ↓PaI0_30 hA, ↓PaP0_30 hA, ↓PaZ0_30 hA, ↓PaI0_31 hA, ↓PaP0_31 hA, ↓PaZ0_31 hA, ↓PaL0 hA, ↓PaS0 hA, ↓PaL1 hA, ↓PaS1 hA, ↓A_if, ↓A_jn, ↓A_lt, ↓A_rz, ↓A_rn, ↓A_nzi, ↓A_nzl, ↓A_nn1, ↓A_nn0, ↓reduceIte, true_and, and_true, if_true, if_false, ite_true, ite_false, reduceIte, tl_0, tl_1, tl_2, tl_3, tl_4, tl_5, tl_6, tl_7, tl_8, tl_9, tl_10, tl_11, tl_12, tl_13, tl_14, tl_15, tl_16, tl_17, tl_18, tl_19, tl_20, tl_21, tl_22, tl_23, tl_24, tl_25, tl_26, tl_27, tl_28, tl_29, tl_30, tl_31, tl_32, tl_33, tl_34, tl_35, tl_36, tl_37, tl_38, tl_39, tl_40, tl_41, tl_42, tl_43, tl_44, tl_45, tl_46, tl_47, tl_48, tl_49, tl_50, tl_51, tl_52, tl_53, tl_54, tl_57, tl_59, tl_60, tl_62, tl_63, tl_64, tl_97, tl_99, tl_100, tl_120, tl_122, tl_192, tl_193, tl_194, tl_195, tl_196, tl_255, tl_256, tl_299, tl_400, tl_401, tl_492, tl_493, tl_541, tl_849, tl_999, tl_1000, tl_1341, tl_1342, tl_1390, tl_2190, tl_5412, tl_5904, tl_9999, tl_12345, tl_32767, tl_65536, tl_1000000, tl_252645135, tl_858993459, tl_1103515245, tl_1431655765, nz_31, nz_c31, eq_self, or_true, true_or, or_false, false_or, Nat.add_zero, nz_lt, nz_le, nz_eq, nz_cl, nz_sub, nI_add, pk_mul, nt_lt, nf_lt, nf_eq, nz_mI, mI_eq, mI_eq', mI_lt, mI_gt, mI_add, ↓j_max, ↓j_min, Nat.sub_sub, Nat.reduceAdd, Nat.reduceSub, Nat.reduceLT, Nat.reduceEqDiff, Bool.false_eq_true]
def tw_bst (g : Nat → Nat) (c0 : Nat) : Nat → Int32 × Nat
  | 0 => (mI, c0)
  | h + 1 => if g h < (tw_bst g c0 h).2 then (nI h, g h) else tw_bst g c0 h
theorem tw_bst_e {g : Nat → Nat} {c0 c1 : Nat} (h0 : g 0 < c0) (h1 : g 0 < c1) : ∀ h, tw_bst g c0 (h + 1) = tw_bst g c1 (h + 1)
  | 0 => by
    show (if g 0 < c0 then (nI 0, g 0) else (mI, c0)) = (if g 0 < c1 then (nI 0, g 0) else (mI, c1))
    rw [if_pos h0, if_pos h1]
  | h + 1 => by
    have ih := tw_bst_e h0 h1 h
    show (if g (h + 1) < (tw_bst g c0 (h + 1)).2 then _ else tw_bst g c0 (h + 1)) = (if g (h + 1) < (tw_bst g c1 (h + 1)).2 then _ else tw_bst g c1 (h + 1))
    rw [ih]
theorem tw_bst_l {g : Nat → Nat} {c0 : Nat} (hg : ∀ h, g h < 1000000) (h0 : c0 ≤ 1000000) : ∀ h, (tw_bst g c0 h).2 ≤ 1000000
  | 0 => h0
  | h + 1 => by
    have ih := tw_bst_l hg h0 h
    have := hg h
    show (if g h < (tw_bst g c0 h).2 then (nI h, g h) else tw_bst g c0 h).2 ≤ 1000000
    split
    · show g h ≤ 1000000
      omega
    · exact ih
/-- the greater part of those that fit, at an hour -/
def tw_gpt (f : Nat → Nat) (c h : Nat) : Nat := if f h < c - f h then c - f h else f h
theorem c_bestH (hA : tw_Pa sh b) (hc : c ≤ 64) (a29 : μ (b + 154) 29 = nI c) (k : Int32 → tw_Mem → Prop) : f_X4_bestHour (b + 154) k (sh, μ, la, n) = k (if c < 2 then mI else (tw_bst (tw_gpt (fun h => tw_rcN μ b h c) c) (c + 1) 31).1) (sh, μ, la, n) := by
  by_cases q : c < 2
  · rw [if_pos q]
    simp (disch := omega) only [f_X4_bestHour, a29, q, ↓PaV0 hA, ↓PaG0_25 hA, ↓PaG0_26 hA, ↓PaG0_27 hA, ↓PaG0_28 hA, ↓PaI0_29 hA, ↓PaP0_29 hA, ↓PaZ0_29 hA, ↓PaI0_30 hA, ↓PaP0_30 hA, ↓PaZ0_30 hA, ↓PaI0_31 hA, ↓PaP0_31 hA, ↓PaZ0_31 hA, ↓PaL0 hA, ↓PaS0 hA, ↓PaL1 hA, ↓PaS1 hA, ↓A_if, ↓A_jn, ↓A_lt, ↓A_rz, ↓A_rn, ↓A_nzi, ↓A_nzl, ↓A_nn1, ↓A_nn0, ↓reduceIte, true_and, and_true, if_true, if_false, ite_true, ite_false, reduceIte, tl_0, tl_1, tl_2, tl_3, tl_4, tl_5, tl_6, tl_7, tl_8, tl_9, tl_10, tl_11, tl_12, tl_13, tl_14, tl_15, tl_16, tl_17, tl_18, tl_19, tl_20, tl_21, tl_22, tl_23, tl_24, tl_25, tl_26, tl_27, tl_28, tl_29, tl_30, tl_31, tl_32, tl_33, tl_34, tl_35, tl_36, tl_37, tl_38, tl_39, tl_40, tl_41, tl_42, tl_43, tl_44, tl_45, tl_46, tl_47, tl_48, tl_49, tl_50, tl_51, tl_52, tl_53, tl_54, tl_57, tl_59, tl_60, tl_62, tl_63, tl_64, tl_97, tl_99, tl_100, tl_120, tl_122, tl_192, tl_193, tl_194, tl_195, tl_196, tl_255, tl_256, tl_299, tl_400, tl_401, tl_492, tl_493, tl_541, tl_849, tl_999, tl_1000, tl_1341, tl_1342, tl_1390, tl_2190, tl_5412, tl_5904, tl_9999, tl_12345, tl_32767, tl_65536, tl_1000000, tl_252645135, tl_858993459, tl_1103515245, tl_1431655765, nz_31, nz_c31, eq_self, or_true, true_or, or_false, false_or, Nat.add_zero, nz_lt, nz_le, nz_eq, nz_cl, nz_sub, nI_add, pk_mul, nt_lt, nf_lt, nf_eq, nz_mI, mI_eq, mI_eq', mI_lt, mI_gt, mI_add, ↓j_max, ↓j_min, Nat.sub_sub, Nat.reduceAdd, Nat.reduceSub, Nat.reduceLT, Nat.reduceEqDiff, Bool.false_eq_true]
  · rw [if_neg q]
    simp (disch := omega) only [f_X4_bestHour, a29, q, ↓PaV0 hA, ↓PaG0_25 hA, ↓PaG0_26 hA, ↓PaG0_27 hA, ↓PaG0_28 hA, ↓PaI0_29 hA, ↓PaP0_29 hA, ↓PaZ0_29 hA, ↓PaI0_30 hA, ↓PaP0_30 hA, ↓PaZ0_30 hA, ↓PaI0_31 hA, ↓PaP0_31 hA, ↓PaZ0_31 hA, ↓PaL0 hA, ↓PaS0 hA, ↓PaL1 hA, ↓PaS1 hA, ↓A_if, ↓A_jn, ↓A_lt, ↓A_rz, ↓A_rn, ↓A_nzi, ↓A_nzl, ↓A_nn1, ↓A_nn0, ↓reduceIte, true_and, and_true, if_true, if_false, ite_true, ite_false, reduceIte, tl_0, tl_1, tl_2, tl_3, tl_4, tl_5, tl_6, tl_7, tl_8, tl_9, tl_10, tl_11, tl_12, tl_13, tl_14, tl_15, tl_16, tl_17, tl_18, tl_19, tl_20, tl_21, tl_22, tl_23, tl_24, tl_25, tl_26, tl_27, tl_28, tl_29, tl_30, tl_31, tl_32, tl_33, tl_34, tl_35, tl_36, tl_37, tl_38, tl_39, tl_40, tl_41, tl_42, tl_43, tl_44, tl_45, tl_46, tl_47, tl_48, tl_49, tl_50, tl_51, tl_52, tl_53, tl_54, tl_57, tl_59, tl_60, tl_62, tl_63, tl_64, tl_97, tl_99, tl_100, tl_120, tl_122, tl_192, tl_193, tl_194, tl_195, tl_196, tl_255, tl_256, tl_299, tl_400, tl_401, tl_492, tl_493, tl_541, tl_849, tl_999, tl_1000, tl_1341, tl_1342, tl_1390, tl_2190, tl_5412, tl_5904, tl_9999, tl_12345, tl_32767, tl_65536, tl_1000000, tl_252645135, tl_858993459, tl_1103515245, tl_1431655765, nz_31, nz_c31, eq_self, or_true, true_or, or_false, false_or, Nat.add_zero, nz_lt, nz_le, nz_eq, nz_cl, nz_sub, nI_add, pk_mul, nt_lt, nf_lt, nf_eq, nz_mI, mI_eq, mI_eq', mI_lt, mI_gt, mI_add, ↓j_max, ↓j_min, Nat.sub_sub, Nat.reduceAdd, Nat.reduceSub, Nat.reduceLT, Nat.reduceEqDiff, Bool.false_eq_true]
    have hgl : ∀ h, tw_gpt (fun h => tw_rcN μ b h c) c h < 1000000 := fun h => by
      have := tw_rcN_le μ b h c
      show (if tw_rcN μ b h c < c - tw_rcN μ b h c then c - tw_rcN μ b h c else tw_rcN μ b h c) < 1000000
      split <;> omega
    refine tw_lp_for 31 (fun i => ((tw_bst (tw_gpt (fun h => tw_rcN μ b h c) c) (c + 1) i).1, nI (tw_bst (tw_gpt (fun h => tw_rcN μ b h c) c) (c + 1) i).2, nI i)) (fun _ => (sh, μ, la, n)) rfl rfl ?_ ?_
    · intro i hi rec
      have e : tw_bst (tw_gpt (fun h => tw_rcN μ b h c) c) (c + 1) (i + 1) = if tw_gpt (fun h => tw_rcN μ b h c) c i < (tw_bst (tw_gpt (fun h => tw_rcN μ b h c) c) (c + 1) i).2 then (nI i, tw_gpt (fun h => tw_rcN μ b h c) c i) else tw_bst (tw_gpt (fun h => tw_rcN μ b h c) c) (c + 1) i := rfl
      have hl := tw_bst_l (g := tw_gpt (fun h => tw_rcN μ b h c) c) (c0 := c + 1) hgl (by omega) i
      have hg := hgl i
      have hr := tw_rcN_le μ b i c
      have E1 := fun k => c_ringCt (la := la) (n := n) hA hc a29 hi k
      have eg : (if nI (tw_rcN μ b i c) < nI (c - tw_rcN μ b i c) then nI (c - tw_rcN μ b i c) else nI (tw_rcN μ b i c)) = nI (tw_gpt (fun h => tw_rcN μ b h c) c i) := by
        unfold tw_gpt
        by_cases g : tw_rcN μ b i c < c - tw_rcN μ b i c
        · rw [if_pos g, if_pos (by rw [nz_lt (by omega) (by omega)]; exact g)]
        · rw [if_neg g, if_neg (by rw [nz_lt (by omega) (by omega)]; exact g)]
      have es : nI c - nI (tw_rcN μ b i c) = nI (c - tw_rcN μ b i c) := nz_sub hr
      have em : ∀ (k : Int32 → tw_Mem → Prop) (M : tw_Mem), f_J9_max_7cf53 (nI (tw_rcN μ b i c)) (nI c - nI (tw_rcN μ b i c)) k M = k (nI (tw_gpt (fun h => tw_rcN μ b h c) c i)) M := fun k M => by rw [es, j_max, eg]
      rw [e]
      generalize tw_bst (tw_gpt (fun h => tw_rcN μ b h c) c) (c + 1) i = y at *
      generalize tw_gpt (fun h => tw_rcN μ b h c) c i = g at *
      simp (disch := omega) only [hi, ↓A_if, ↓A_jn, ↓A_lt, ↓A_rz, ↓A_rn, ↓A_nzi, ↓A_nzl, ↓A_nn1, ↓A_nn0, ↓reduceIte, true_and, and_true, if_true, if_false, ite_true, ite_false, reduceIte, tl_31, nz_lt]
      by_cases q2 : g < y.2 <;> simp (disch := omega) only [↓E1, a29, ↓em, q2, hi, ↓PaV0 hA, ↓PaG0_25 hA, ↓PaG0_26 hA, ↓PaG0_27 hA, ↓PaG0_28 hA, ↓PaI0_29 hA, ↓PaP0_29 hA, ↓PaZ0_29 hA, ↓PaI0_30 hA, ↓PaP0_30 hA, ↓PaZ0_30 hA, ↓PaI0_31 hA, ↓PaP0_31 hA, ↓PaZ0_31 hA, ↓PaL0 hA, ↓PaS0 hA, ↓PaL1 hA, ↓PaS1 hA, ↓A_if, ↓A_jn, ↓A_lt, ↓A_rz, ↓A_rn, ↓A_nzi, ↓A_nzl, ↓A_nn1, ↓A_nn0, ↓reduceIte, true_and, and_true, if_true, if_false, ite_true, ite_false, reduceIte, tl_0, tl_1, tl_31, nz_lt, nI_add]
    · intro rec
      simp (disch := omega) only [↓PaV0 hA, ↓PaG0_25 hA, ↓PaG0_26 hA, ↓PaG0_27 hA, ↓PaG0_28 hA, ↓PaI0_29 hA, ↓PaP0_29 hA, ↓PaZ0_29 hA, ↓PaI0_30 hA, ↓PaP0_30 hA, ↓PaZ0_30 hA, ↓PaI0_31 hA, ↓PaP0_31 hA, ↓PaZ0_31 hA, ↓PaL0 hA, ↓PaS0 hA, ↓PaL1 hA, ↓PaS1 hA, ↓A_if, ↓A_jn, ↓A_lt, ↓A_rz, ↓A_rn, ↓A_nzi, ↓A_nzl, ↓A_nn1, ↓A_nn0, ↓reduceIte, true_and, and_true, if_true, if_false, ite_true, ite_false, reduceIte, tl_0, tl_1, tl_2, tl_3, tl_4, tl_5, tl_6, tl_7, tl_8, tl_9, tl_10, tl_11, tl_12, tl_13, tl_14, tl_15, tl_16, tl_17, tl_18, tl_19, tl_20, tl_21, tl_22, tl_23, tl_24, tl_25, tl_26, tl_27, tl_28, tl_29, tl_30, tl_31, tl_32, tl_33, tl_34, tl_35, tl_36, tl_37, tl_38, tl_39, tl_40, tl_41, tl_42, tl_43, tl_44, tl_45, tl_46, tl_47, tl_48, tl_49, tl_50, tl_51, tl_52, tl_53, tl_54, tl_57, tl_59, tl_60, tl_62, tl_63, tl_64, tl_97, tl_99, tl_100, tl_120, tl_122, tl_192, tl_193, tl_194, tl_195, tl_196, tl_255, tl_256, tl_299, tl_400, tl_401, tl_492, tl_493, tl_541, tl_849, tl_999, tl_1000, tl_1341, tl_1342, tl_1390, tl_2190, tl_5412, tl_5904, tl_9999, tl_12345, tl_32767, tl_65536, tl_1000000, tl_252645135, tl_858993459, tl_1103515245, tl_1431655765, nz_31, nz_c31, eq_self, or_true, true_or, or_false, false_or, Nat.add_zero, nz_lt, nz_le, nz_eq, nz_cl, nz_sub, nI_add, pk_mul, nt_lt, nf_lt, nf_eq, nz_mI, mI_eq, mI_eq', mI_lt, mI_gt, mI_add, ↓j_max, ↓j_min, Nat.sub_sub, Nat.reduceAdd, Nat.reduceSub, Nat.reduceLT, Nat.reduceEqDiff, Bool.false_eq_true]
end P79n
