/-! ===== pure: two who pull or meet ===== -/
def tw_Tw (sh : tw_Sh) (w : Nat) : Prop := tw_is sh w 9 ∧ tw_ar sh (w + 1) 0 11 ∧ tw_rr sh w 54 = some (w + 1)
theorem Tw_is0 {sh : tw_Sh} {w : Nat} (h : tw_Tw sh w) : tw_is sh w 9 = True := tw_is_T (h.1)
theorem Tw_f0_54 {sh : tw_Sh} {w : Nat} (h : tw_Tw sh w) : tw_fo sh w 54 true = True := tw_is_fo (h.1) rfl rfl
theorem Tw_f0_55 {sh : tw_Sh} {w : Nat} (h : tw_Tw sh w) : tw_fo sh w 55 false = True := tw_is_fo (h.1) rfl rfl
theorem Tw_a0 {sh : tw_Sh} {w : Nat} (h : tw_Tw sh w) {i : Nat} (hi : i < 11) : tw_ai sh [0, 4] (w + 1) (nI i) = True := tw_ar_ai (h.2.1) (by decide) hi (by decide)
theorem Tw_s0 {sh : tw_Sh} {w : Nat} (h : tw_Tw sh w) {i : Nat} (hi : i < 11) : tw_ai sh [0] (w + 1) (nI i) = True := tw_ar_ai (h.2.1) (by decide) hi (by decide)
theorem Tw_r0_54 {sh : tw_Sh} {w : Nat} (h : tw_Tw sh w) : tw_rr sh w 54 = some (w + 1) := (h.2.2)
section P2
variable {sh : tw_Sh} {μ : Nat → Nat → Int32} {la : Nat → Nat → Int64} {n a b w m P : Nat} {p o l h j z c : Nat} {T : Nat → Int32} {v : Int32}
theorem Rc_upo {x k : Nat} {y : Int32} (H : tw_RC sh μ a T) (hx : x < a ∨ a + 9 ≤ x) : tw_RC sh (tw_up μ x k y) a T := Rc_same H (fun q h1 h2 => tw_up_ne (by omega))
theorem Wf_s {T : Nat → Int32} {P p : Nat} (W : tw_WF T P) (hp : p < 8) : ∃ x, x < 2 ∧ T (32 + 20 * p + 3) = nI x ∧ (P ≤ p → x = 0) := (W.2.2.2.2.2.2.2.1 p hp).2.2.2
theorem c_see (hw : tw_Tw sh w) (H : tw_RC sh μ a T) (W : tw_WF T P) (hp : p < P) (ho : o < P) (hd : w + 2 ≤ a ∨ a + 9 ≤ w) : ∃ μ', (∀ k, f_X10_see w a (nI p) (nI o) k (sh, μ, la, n) = k () (sh, μ', la, n)) ∧ tw_fx w (w + 2) μ μ' ∧ μ' (w + 1) 0 = nI p ∧ μ' (w + 1) 1 = nI o ∧ μ' (w + 1) 2 = T (32 + 20 * p + (4 + o)) ∧ μ' (w + 1) 3 = T (32 + 20 * o + (4 + p)) ∧ μ' (w + 1) 4 = T (32 + 20 * p + 3) ∧ μ' (w + 1) 5 = T (32 + 20 * o + 3) ∧ μ' (w + 1) 6 = T (32 + 20 * p + (12 + o)) ∧ μ' (w + 1) 7 = T 3 ∧ μ' (w + 1) 8 = T 4 ∧ μ' (w + 1) 9 = (if T (32 + 20 * p) = T (32 + 20 * o) then nI 1 else nI 0) ∧ μ' (w + 1) 10 = nI 0 ∧ μ' w 55 = T 5 := by
  have h8 := W.2.1
  have hP := W.1
  obtain ⟨x, hx, ex, -⟩ := Wf_s W (p := p) (by omega)
  obtain ⟨y, hy, ey, -⟩ := Wf_s W (p := o) (by omega)
  rcases (by omega : x = 0 ∨ x = 1) with rfl | rfl <;> rcases (by omega : y = 0 ∨ y = 1) with rfl | rfl <;> by_cases e : T (32 + 20 * p) = T (32 + 20 * o)
  all_goals
    apply Exists.intro
    refine ⟨fun k => ?_, ?_⟩
    · simp (disch := first | omega | (repeat (first | exact H | refine Rc_upo ?_ (by omega)))) only [f_X10_see, c_guessOf (T := T), c_rungOf (T := T), c_isSworn (T := T) (hP := hP), c_areNear (T := T) (hP := hP), Rc_48 (T := T), Rc_49 (T := T), Rc_50 (T := T), ex, ey, e, Tw_is0 hw, Tw_f0_54 hw, Tw_f0_55 hw, Tw_r0_54 hw, Tw_a0 hw, Tw_s0 hw, Tn_is H.1, Tn_il H.1, Tn_f46 H.1, Tn_f47 H.1, Tn_f48 H.1, Tn_f49 H.1, Tn_f50 H.1, Tn_f51 H.1, Tn_f52 H.1, Tn_f39 H.1, Tn_f40 H.1, Tn_f41 H.1, Tn_f42 H.1, Tn_f43 H.1, Tn_f44 H.1, Tn_f45 H.1, Tn_f19 H.1, Tn_f20 H.1, Tn_f21 H.1, Tn_r39 H.1, Tn_r40 H.1, Tn_r41 H.1, Tn_r42 H.1, Tn_r43 H.1, Tn_r44 H.1, Tn_r45 H.1, Tn_r19 H.1, tw_if, tw_iv, tw_iw, tw_ij, tw_jn, tw_lt, tw_gi, tw_gr, tw_pi, tw_pz, tw_pr, tw_li, tw_lb, tw_ll, tw_la, tw_si, tw_sb, tw_sl, tw_sa, tw_al, tw_na, tw_nw, tw_rz, tw_rn, tw_nzi, tw_nzl, tw_nn, true_and, and_true, Option.some.injEq, exists_eq_left', if_true, if_false, ite_true, ite_false, reduceIte, tl_0, tl_1, tl_2, tl_3, tl_4, tl_5, tl_6, tl_7, tl_8, tl_9, tl_10, tl_11, tl_12, tl_13, tl_14, tl_15, tl_16, tl_17, tl_18, tl_19, tl_20, tl_21, tl_22, tl_23, tl_24, tl_25, tl_26, tl_27, tl_28, tl_29, tl_30, tl_31, tl_32, tl_33, tl_34, tl_35, tl_36, tl_37, tl_38, tl_39, tl_40, tl_41, tl_42, tl_43, tl_44, tl_45, tl_46, tl_47, tl_48, tl_49, tl_50, tl_51, tl_52, tl_53, tl_54, tl_57, tl_59, tl_60, tl_62, tl_63, tl_64, tl_97, tl_99, tl_100, tl_120, tl_122, tl_192, tl_193, tl_194, tl_195, tl_196, tl_255, tl_256, tl_299, tl_400, tl_401, tl_492, tl_493, tl_541, tl_849, tl_999, tl_1000, tl_1341, tl_1342, tl_1390, tl_2190, tl_5412, tl_5904, tl_9999, tl_12345, tl_32767, tl_65536, tl_1000000, tl_252645135, tl_858993459, tl_1103515245, tl_1431655765, nz_31, nz_c31, eq_self, or_true, true_or, or_false, false_or, Nat.add_zero, nz_lt, nz_le, nz_eq, nz_cl, nz_sub, nI_add, pk_mul, nt_lt, nf_lt, nf_eq, nz_mI, mI_eq, mI_eq', mI_lt, mI_gt]
      rfl
    · refine ⟨?_, ?_⟩
      · intro q hq
        funext j
        simp (disch := omega) only [↓tw_un, ↓tw_uk, ↓tw_ua, ↓tw_cpf_ne, ↓tw_cpf_in, ↓tw_cpf_out]
      · simp (disch := omega) only [↓tw_un, ↓tw_uk, ↓tw_ua, ↓tw_cpf_ne, ↓tw_cpf_in, ↓tw_cpf_out, ex, ey, e, if_true, if_false, and_self, Rc_48 H, Rc_49 H, Rc_50 H]
end P2
