/-! ===== pure: what the class takes, and taking apart ===== -/
theorem tw_tk_l (B : Nat → Nat) (e x : Nat) : tw_tk B e x ≤ 3 := by
  unfold tw_tk
  split
  · omega
  · split
    · omega
    · split <;> omega
theorem tw_tv_l {B : Nat → Nat} (hB : ∀ j, B j < 256) (e x : Nat) : tw_tv B e x < 2 ^ 30 := by
  unfold tw_tv
  split
  · omega
  · split
    · split
      · rename_i h1 h2 h3
        refine tw_wo_lt2 (fun j hj => ?_) h3
        have he : tw_te B e x = tw_skp (tw_le B) (e - x) x := by unfold tw_te; rw [if_neg h1, if_pos h2]
        rw [he] at hj
        exact of_decide_eq_true ((tw_skp_s (tw_le B) (e - x) x).2.2.1 (x + j) (by omega) (by omega))
      · omega
    · split
      · split
        · rename_i h1 h2 h3 h4
          have he : tw_te B e x = tw_skp (tw_dg B) (e - x) x := by unfold tw_te; rw [if_neg h1, if_neg h2, if_pos h3]
          have h5 := tw_nu_lt (B := B) (x := x) (tw_te B e x - x) (fun j hj => by
            rw [he] at hj
            exact of_decide_eq_true ((tw_skp_s (tw_dg B) (e - x) x).2.2.1 (x + j) (by omega) (by omega)))
          have h6 : 10 ^ (tw_te B e x - x) ≤ 10 ^ 3 := Nat.pow_le_pow_right (by omega) h4
          have h7 : (10 : Nat) ^ 3 = 1000 := by decide
          omega
        · omega
      · have := hB x
        omega
section P99
variable {sh : tw_Sh} {μ ν : Nat → Nat → Int32} {la : Nat → Nat → Int64} {n a b x m t tt e i lo c q : Nat} {G : tw_Gm} {tx : String} {B : Nat → Nat} {v : Int32}
/-- where a text stands -/
def tw_At (sh : tw_Sh) (μ : Nat → Nat → Int32) (x t : Nat) (B : Nat → Nat) (e tt i : Nat) : Prop := tw_Xs sh x t ∧ tw_TX μ x B e tt ∧ μ x 11 = nI i ∧ i ≤ tt ∧ ∀ j, B j < 256
theorem tw_At_b (h : tw_At sh μ x t B e tt i) : μ (x + 1) i = nI (tw_kd B e i) ∧ μ (x + 2) i = nI (tw_vd B e i) ∧ μ (x + 3) i = nI (tw_tg B e i) ∧ i < 401 ∧ tw_kd B e i ≤ 3 ∧ tw_vd B e i < 2 ^ 30 := by
  obtain ⟨h1, h2, h3, h4, h5⟩ := h
  obtain ⟨g1, g2, g3⟩ := h2.2.2.2.2 i h4
  have := h2.1
  have := h2.2.1
  exact ⟨g1, g2, g3, by omega, tw_tk_l _ _ _, tw_tv_l h5 _ _⟩
theorem c_takeW (hG : tw_GH G sh μ b) (S : tw_Sw G b a tx) (h : tw_At sh μ x t B e tt i) (k : Int32 → tw_Mem → Prop) : f_X7_takeWord x a k (sh, μ, la, n) = if tw_kd B e i = 1 ∧ tw_vd B e i = tw_wc tx then k (nI 1) (sh, tw_up μ x 11 (nI (i + 1)), la, n) else k (nI 0) (sh, μ, la, n) :=
  c_takeWord hG S h.1 h.2.1 h.2.2.1 h.2.2.2.1 (fun j => ⟨by have := tw_tk_l B e (tw_tg B e j); unfold tw_kd; omega, by have := tw_tv_l h.2.2.2.2 e (tw_tg B e j); unfold tw_vd; omega⟩) k
theorem c_takeN (h : tw_At sh μ x t B e tt i) (hlo : lo < 2 ^ 31) (k : Int32 → tw_Mem → Prop) : f_X7_takeNumber x (nI lo) v k (sh, μ, la, n) = if tw_kd B e i = 2 ∧ lo ≤ tw_vd B e i ∧ ¬ v < nI (tw_vd B e i) then k (nI 1) (sh, tw_up (tw_up μ x 12 (nI (tw_vd B e i))) x 11 (nI (i + 1)), la, n) else k (nI 0) (sh, μ, la, n) := by
  obtain ⟨g1, g2, g3, g4, g5, g6⟩ := tw_At_b h
  have hX := h.1
  have h11 := h.2.2.1
  have l401 : (401 : Int32) = nI 401 := rfl
  have l2 : (2 : Int32) = nI 2 := rfl
  have hlt : nI i < nI 401 := by rw [nz_lt (by omega) (by omega)]; omega
  have hge : ¬ nI i < nI 0 := by rw [nz_lt (by omega) (by omega)]; omega
  generalize tw_kd B e i = K at *
  generalize tw_vd B e i = V at *
  have h11' : tw_up μ x 12 (nI V) x 11 = nI i := (tw_uk (by omega)).trans h11
  unfold f_X7_takeNumber
  by_cases q1 : K = 2
  · by_cases q2 : V < lo
    · simp (disch := omega) only [↓XsI11 hX, ↓XsG7 hX, ↓XsG8 hX, ↓XsP11 hX, ↓XsP12 hX, ↓XsL1 hX, ↓XsL2 hX, h11, g1, g2, l401, l2, hlt, hge, q1, q2, tl_1, tl_0, nI_add, nz_lt, Nat.not_le.mpr q2, false_and, and_false, or_true, true_or, ↓A_if, ↓A_jn, ↓A_lt, ↓A_rz, ↓A_rn, ↓A_nzi, ↓A_nzl, ↓A_nn1, ↓A_nn0, ↓reduceIte, true_and, and_true, if_true, if_false, ite_true, ite_false, reduceIte]
    · by_cases q3 : v < nI V
      · simp (disch := omega) only [↓XsI11 hX, ↓XsG7 hX, ↓XsG8 hX, ↓XsP11 hX, ↓XsP12 hX, ↓XsL1 hX, ↓XsL2 hX, h11, g1, g2, l401, l2, hlt, hge, q1, q2, q3, tl_1, tl_0, nI_add, nz_lt, not_true_eq_false, false_and, and_false, or_true, true_or, ↓A_if, ↓A_jn, ↓A_lt, ↓A_rz, ↓A_rn, ↓A_nzi, ↓A_nzl, ↓A_nn1, ↓A_nn0, ↓reduceIte, true_and, and_true, if_true, if_false, ite_true, ite_false, reduceIte]
      · simp (disch := omega) only [↓XsI11 hX, ↓XsG7 hX, ↓XsG8 hX, ↓XsP11 hX, ↓XsP12 hX, ↓XsL1 hX, ↓XsL2 hX, h11, h11', g1, g2, l401, l2, hlt, hge, q1, q2, q3, tl_1, tl_0, nI_add, nz_lt, Nat.not_lt.mp q2, not_false_eq_true, and_self, or_true, true_or, ↓A_if, ↓A_jn, ↓A_lt, ↓A_rz, ↓A_rn, ↓A_nzi, ↓A_nzl, ↓A_nn1, ↓A_nn0, ↓reduceIte, true_and, and_true, if_true, if_false, ite_true, ite_false, reduceIte]
  · have q1' : ¬ nI K = nI 2 := by rw [nz_eq (by omega) (by omega)]; exact q1
    simp (disch := omega) only [↓XsI11 hX, ↓XsG7 hX, ↓XsL1 hX, h11, g1, l401, l2, hlt, hge, q1, q1', false_and, or_true, true_or, tl_0, ↓A_if, ↓A_jn, ↓A_lt, ↓A_rz, ↓A_rn, ↓A_nzi, ↓A_nzl, ↓A_nn1, ↓A_nn0, ↓reduceIte, true_and, and_true, if_true, if_false, ite_true, ite_false, reduceIte]
theorem c_takeS (h : tw_At sh μ x t B e tt i) (hc : c < 2 ^ 31) (k : Int32 → tw_Mem → Prop) : f_X7_takeSign x (nI c) k (sh, μ, la, n) = if tw_kd B e i = 3 ∧ tw_vd B e i = c then k (nI 1) (sh, tw_up μ x 11 (nI (i + 1)), la, n) else k (nI 0) (sh, μ, la, n) := by
  obtain ⟨g1, g2, g3, g4, g5, g6⟩ := tw_At_b h
  have hX := h.1
  have h11 := h.2.2.1
  have l401 : (401 : Int32) = nI 401 := rfl
  have l3 : (3 : Int32) = nI 3 := rfl
  have hlt : nI i < nI 401 := by rw [nz_lt (by omega) (by omega)]; omega
  have hge : ¬ nI i < nI 0 := by rw [nz_lt (by omega) (by omega)]; omega
  generalize tw_kd B e i = K at *
  generalize tw_vd B e i = V at *
  unfold f_X7_takeSign
  by_cases q1 : K = 3
  · by_cases q2 : V = c
    · simp (disch := omega) only [↓XsI11 hX, ↓XsG7 hX, ↓XsG8 hX, ↓XsP11 hX, ↓XsL1 hX, ↓XsL2 hX, h11, g1, g2, l401, l3, hlt, hge, q1, q2, tl_1, tl_0, nI_add, and_self, or_true, true_or, ↓A_if, ↓A_jn, ↓A_lt, ↓A_rz, ↓A_rn, ↓A_nzi, ↓A_nzl, ↓A_nn1, ↓A_nn0, ↓reduceIte, true_and, and_true, if_true, if_false, ite_true, ite_false, reduceIte]
    · have q2' : ¬ nI V = nI c := by rw [nz_eq (by omega) (by omega)]; exact q2
      simp (disch := omega) only [↓XsI11 hX, ↓XsG7 hX, ↓XsG8 hX, ↓XsP11 hX, ↓XsL1 hX, ↓XsL2 hX, h11, g1, g2, l401, l3, hlt, hge, q1, q2, q2', tl_1, tl_0, nI_add, and_false, or_true, true_or, ↓A_if, ↓A_jn, ↓A_lt, ↓A_rz, ↓A_rn, ↓A_nzi, ↓A_nzl, ↓A_nn1, ↓A_nn0, ↓reduceIte, true_and, and_true, if_true, if_false, ite_true, ite_false, reduceIte]
  · have q1' : ¬ nI K = nI 3 := by rw [nz_eq (by omega) (by omega)]; exact q1
    simp (disch := omega) only [↓XsI11 hX, ↓XsG7 hX, ↓XsL1 hX, h11, g1, l401, l3, hlt, hge, q1, q1', false_and, or_true, true_or, tl_0, ↓A_if, ↓A_jn, ↓A_lt, ↓A_rz, ↓A_rn, ↓A_nzi, ↓A_nzl, ↓A_nn1, ↓A_nn0, ↓reduceIte, true_and, and_true, if_true, if_false, ite_true, ite_false, reduceIte]
theorem c_isNum (h : tw_At sh μ x t B e tt i) (k : Int32 → tw_Mem → Prop) : f_X7_isNumber x v k (sh, μ, la, n) = if tw_kd B e i = 2 ∧ nI (tw_vd B e i) = v then k (nI 1) (sh, μ, la, n) else k (nI 0) (sh, μ, la, n) := by
  obtain ⟨g1, g2, g3, g4, g5, g6⟩ := tw_At_b h
  have hX := h.1
  have h11 := h.2.2.1
  have l401 : (401 : Int32) = nI 401 := rfl
  have l2 : (2 : Int32) = nI 2 := rfl
  have hlt : nI i < nI 401 := by rw [nz_lt (by omega) (by omega)]; omega
  have hge : ¬ nI i < nI 0 := by rw [nz_lt (by omega) (by omega)]; omega
  generalize tw_kd B e i = K at *
  generalize tw_vd B e i = V at *
  unfold f_X7_isNumber
  by_cases q1 : K = 2
  · by_cases q2 : nI V = v
    · simp (disch := omega) only [↓XsI11 hX, ↓XsG7 hX, ↓XsG8 hX, ↓XsL1 hX, ↓XsL2 hX, h11, g1, g2, l401, l2, hlt, hge, q1, q2, tl_1, tl_0, and_self, or_true, true_or, ↓A_if, ↓A_jn, ↓A_lt, ↓A_rz, ↓A_rn, ↓A_nzi, ↓A_nzl, ↓A_nn1, ↓A_nn0, ↓reduceIte, true_and, and_true, if_true, if_false, ite_true, ite_false, reduceIte]
    · simp (disch := omega) only [↓XsI11 hX, ↓XsG7 hX, ↓XsG8 hX, ↓XsL1 hX, ↓XsL2 hX, h11, g1, g2, l401, l2, hlt, hge, q1, q2, tl_1, tl_0, and_false, or_true, true_or, ↓A_if, ↓A_jn, ↓A_lt, ↓A_rz, ↓A_rn, ↓A_nzi, ↓A_nzl, ↓A_nn1, ↓A_nn0, ↓reduceIte, true_and, and_true, if_true, if_false, ite_true, ite_false, reduceIte]
  · have q1' : ¬ nI K = nI 2 := by rw [nz_eq (by omega) (by omega)]; exact q1
    simp (disch := omega) only [↓XsI11 hX, ↓XsG7 hX, ↓XsL1 hX, h11, g1, l401, l2, hlt, hge, q1, q1', false_and, or_true, true_or, tl_0, ↓A_if, ↓A_jn, ↓A_lt, ↓A_rz, ↓A_rn, ↓A_nzi, ↓A_nzl, ↓A_nn1, ↓A_nn0, ↓reduceIte, true_and, and_true, if_true, if_false, ite_true, ite_false, reduceIte]
theorem c_atEnd (h : tw_At sh μ x t B e tt i) (k : Int32 → tw_Mem → Prop) : f_X7_isAtEnd x k (sh, μ, la, n) = if tw_kd B e i = 0 then k (nI 1) (sh, μ, la, n) else k (nI 0) (sh, μ, la, n) := by
  obtain ⟨g1, g2, g3, g4, g5, g6⟩ := tw_At_b h
  have hX := h.1
  have h11 := h.2.2.1
  have l401 : (401 : Int32) = nI 401 := rfl
  have hlt : nI i < nI 401 := by rw [nz_lt (by omega) (by omega)]; omega
  have hge : ¬ nI i < nI 0 := by rw [nz_lt (by omega) (by omega)]; omega
  generalize tw_kd B e i = K at *
  unfold f_X7_isAtEnd
  by_cases q1 : K = 0
  · simp (disch := omega) only [↓XsI11 hX, ↓XsG7 hX, ↓XsL1 hX, h11, g1, l401, hlt, hge, q1, or_true, true_or, tl_0, tl_1, ↓A_if, ↓A_jn, ↓A_lt, ↓A_rz, ↓A_rn, ↓A_nzi, ↓A_nzl, ↓A_nn1, ↓A_nn0, ↓reduceIte, true_and, and_true, if_true, if_false, ite_true, ite_false, reduceIte]
  · have q1' : ¬ nI K = nI 0 := by rw [nz_eq (by omega) (by omega)]; exact q1
    simp (disch := omega) only [↓XsI11 hX, ↓XsG7 hX, ↓XsL1 hX, h11, g1, l401, hlt, hge, q1, q1', or_true, true_or, tl_0, tl_1, ↓A_if, ↓A_jn, ↓A_lt, ↓A_rz, ↓A_rn, ↓A_nzi, ↓A_nzl, ↓A_nn1, ↓A_nn0, ↓reduceIte, true_and, and_true, if_true, if_false, ite_true, ite_false, reduceIte]
theorem c_place (h : tw_At sh μ x t B e tt i) (k : Int32 → tw_Mem → Prop) : f_X7_place x k (sh, μ, la, n) = k (nI (tw_tg B e i)) (sh, μ, la, n) := by
  obtain ⟨g1, g2, g3, g4, g5, g6⟩ := tw_At_b h
  have hX := h.1
  have h11 := h.2.2.1
  have l401 : (401 : Int32) = nI 401 := rfl
  have hlt : nI i < nI 401 := by rw [nz_lt (by omega) (by omega)]; omega
  have hge : ¬ nI i < nI 0 := by rw [nz_lt (by omega) (by omega)]; omega
  unfold f_X7_place
  simp (disch := omega) only [↓XsI11 hX, ↓XsG9 hX, ↓XsL3 hX, h11, g3, l401, hlt, hge, tl_0, ↓A_if, ↓A_jn, ↓A_lt, ↓A_rz, ↓A_rn, ↓A_nzi, ↓A_nzl, ↓A_nn1, ↓A_nn0, ↓reduceIte, true_and, and_true, if_true, if_false, ite_true, ite_false, reduceIte]
-- taking apart
theorem c_add1 (hX : tw_Xs sh x t) (e10 : μ x 10 = nI c) (hc : c < 401) (u v w : Int32) (k : Unit → tw_Mem → Prop) : f_X7_add x u v w k (sh, μ, la, n) = k () (sh, tw_up (tw_up (tw_up (tw_up μ (x + 1) c u) (x + 2) c v) (x + 3) c w) x 10 (nI (c + 1)), la, n) := by
  have l401 : (401 : Int32) = nI 401 := rfl
  have hlt : nI c < nI 401 := by rw [nz_lt (by omega) (by omega)]; omega
  have hge : ¬ nI c < nI 0 := by rw [nz_lt (by omega) (by omega)]; omega
  have h1 : tw_up μ (x + 1) c u x 10 = nI c := (tw_un (by omega)).trans e10
  have h2 : tw_up (tw_up μ (x + 1) c u) (x + 2) c v x 10 = nI c := (tw_un (by omega)).trans h1
  have h3 : tw_up (tw_up (tw_up μ (x + 1) c u) (x + 2) c v) (x + 3) c w x 10 = nI c := (tw_un (by omega)).trans h2
  unfold f_X7_add
  simp (disch := omega) only [↓XsI10 hX, ↓XsG7 hX, ↓XsG8 hX, ↓XsG9 hX, ↓XsS1 hX, ↓XsS2 hX, ↓XsS3 hX, ↓XsP10 hX, e10, h1, h2, h3, l401, hlt, hge, tl_0, tl_1, nI_add, ↓A_if, ↓A_jn, ↓A_lt, ↓A_rz, ↓A_rn, ↓A_nzi, ↓A_nzl, ↓A_nn1, ↓A_nn0, ↓reduceIte, true_and, and_true, if_true, if_false, ite_true, ite_false, reduceIte]
theorem c_at1 (hTa : tw_Ta sh t) (e38 : μ t 38 = nI e) (he : e ≤ 400) (hBt : ∀ j, j < e → μ (t + 1) j = nI (B j)) (hc : c < e) (k : Int32 → tw_Mem → Prop) : f_X6_at t (nI c) k (sh, μ, la, n) = k (nI (B c)) (sh, μ, la, n) := by
  have hb := hBt c hc
  have h1 : ¬ nI c < nI 0 := by rw [nz_lt (by omega) (by omega)]; omega
  have h2 : nI c < nI e := by rw [nz_lt (by omega) (by omega)]; exact hc
  simp (disch := omega) only [f_X6_at, e38, h1, h2, hb, ↓TaV0 hTa, ↓TaG0_37 hTa, ↓TaI0_38 hTa, ↓TaP0_38 hTa, ↓TaZ0_38 hTa, ↓TaL0 hTa, ↓TaS0 hTa, ↓A_if, ↓A_jn, ↓A_lt, ↓A_rz, ↓A_rn, ↓A_nzi, ↓A_nzl, ↓A_nn1, ↓A_nn0, ↓reduceIte, true_and, and_true, if_true, if_false, ite_true, ite_false, reduceIte, tl_0, tl_1, tl_2, tl_3, tl_4, tl_5, tl_6, tl_7, tl_8, tl_9, tl_10, tl_11, tl_12, tl_13, tl_14, tl_15, tl_16, tl_17, tl_18, tl_19, tl_20, tl_21, tl_22, tl_23, tl_24, tl_25, tl_26, tl_27, tl_28, tl_29, tl_30, tl_31, tl_32, tl_33, tl_34, tl_35, tl_36, tl_37, tl_38, tl_39, tl_40, tl_41, tl_42, tl_43, tl_44, tl_45, tl_46, tl_47, tl_48, tl_49, tl_50, tl_51, tl_52, tl_53, tl_54, tl_57, tl_59, tl_60, tl_62, tl_63, tl_64, tl_97, tl_99, tl_100, tl_120, tl_122, tl_192, tl_193, tl_194, tl_195, tl_196, tl_255, tl_256, tl_299, tl_400, tl_401, tl_492, tl_493, tl_541, tl_849, tl_999, tl_1000, tl_1341, tl_1342, tl_1390, tl_2190, tl_5412, tl_5904, tl_9999, tl_12345, tl_32767, tl_65536, tl_1000000, tl_252645135, tl_858993459, tl_1103515245, tl_1431655765, nz_31, nz_c31, eq_self, or_true, true_or, or_false, false_or, Nat.add_zero, nz_lt, nz_le, nz_eq, nz_cl, nz_sub, nI_add, pk_mul, nt_lt, nf_lt, nf_eq, nz_mI, mI_eq, mI_eq', mI_lt, mI_gt, mI_add, ↓j_max, ↓j_min, Nat.sub_sub, Nat.reduceAdd, Nat.reduceSub, Nat.reduceLT, Nat.reduceEqDiff, Bool.false_eq_true]
theorem c_isLet (hc : c < 256) (k : Int32 → tw_Mem → Prop) (M : tw_Mem) : f_X7_isLetter (nI c) k M = if 97 ≤ c ∧ c ≤ 122 then k (nI 1) M else k (nI 0) M := by
  have l1 : (97 : Int32) = nI 97 := rfl
  have l2 : (122 : Int32) = nI 122 := rfl
  unfold f_X7_isLetter
  by_cases q1 : c < 97
  · have q : ¬ (97 ≤ c ∧ c ≤ 122) := by omega
    simp (disch := omega) only [l1, l2, nz_lt, q1, q, or_true, true_or, tl_0, tl_1, ↓A_if, ↓A_jn, ↓A_lt, ↓A_rz, ↓A_rn, ↓A_nzi, ↓A_nzl, ↓A_nn1, ↓A_nn0, ↓reduceIte, true_and, and_true, if_true, if_false, ite_true, ite_false, reduceIte]
  · by_cases q2 : 122 < c
    · have q : ¬ (97 ≤ c ∧ c ≤ 122) := by omega
      simp (disch := omega) only [l1, l2, nz_lt, q1, q2, q, or_true, true_or, tl_0, tl_1, ↓A_if, ↓A_jn, ↓A_lt, ↓A_rz, ↓A_rn, ↓A_nzi, ↓A_nzl, ↓A_nn1, ↓A_nn0, ↓reduceIte, true_and, and_true, if_true, if_false, ite_true, ite_false, reduceIte]
    · have q : 97 ≤ c ∧ c ≤ 122 := by omega
      simp (disch := omega) only [l1, l2, nz_lt, q1, q2, q, and_self, or_true, true_or, tl_0, tl_1, ↓A_if, ↓A_jn, ↓A_lt, ↓A_rz, ↓A_rn, ↓A_nzi, ↓A_nzl, ↓A_nn1, ↓A_nn0, ↓reduceIte, true_and, and_true, if_true, if_false, ite_true, ite_false, reduceIte]
theorem c_isDig (hc : c < 256) (k : Int32 → tw_Mem → Prop) (M : tw_Mem) : f_X7_isDigit (nI c) k M = if 48 ≤ c ∧ c ≤ 57 then k (nI 1) M else k (nI 0) M := by
  have l1 : (48 : Int32) = nI 48 := rfl
  have l2 : (57 : Int32) = nI 57 := rfl
  unfold f_X7_isDigit
  by_cases q1 : c < 48
  · have q : ¬ (48 ≤ c ∧ c ≤ 57) := by omega
    simp (disch := omega) only [l1, l2, nz_lt, q1, q, or_true, true_or, tl_0, tl_1, ↓A_if, ↓A_jn, ↓A_lt, ↓A_rz, ↓A_rn, ↓A_nzi, ↓A_nzl, ↓A_nn1, ↓A_nn0, ↓reduceIte, true_and, and_true, if_true, if_false, ite_true, ite_false, reduceIte]
  · by_cases q2 : 57 < c
    · have q : ¬ (48 ≤ c ∧ c ≤ 57) := by omega
      simp (disch := omega) only [l1, l2, nz_lt, q1, q2, q, or_true, true_or, tl_0, tl_1, ↓A_if, ↓A_jn, ↓A_lt, ↓A_rz, ↓A_rn, ↓A_nzi, ↓A_nzl, ↓A_nn1, ↓A_nn0, ↓reduceIte, true_and, and_true, if_true, if_false, ite_true, ite_false, reduceIte]
    · have q : 48 ≤ c ∧ c ≤ 57 := by omega
      simp (disch := omega) only [l1, l2, nz_lt, q1, q2, q, and_self, or_true, true_or, tl_0, tl_1, ↓A_if, ↓A_jn, ↓A_lt, ↓A_rz, ↓A_rn, ↓A_nzi, ↓A_nzl, ↓A_nn1, ↓A_nn0, ↓reduceIte, true_and, and_true, if_true, if_false, ite_true, ite_false, reduceIte]
theorem c_addWd (hX : tw_Xs sh x t) (hTa : tw_Ta sh t) (e38 : μ t 38 = nI e) (he : e ≤ 400) (hBt : ∀ j, j < e → μ (t + 1) j = nI (B j)) (hB : ∀ j, B j < 256) (hc : c < e) (hl : tw_le B c = true) (k : Int32 → tw_Mem → Prop) : f_X7_addWord x (nI c) k (sh, μ, la, n) = f_X7_add x (nI 1) (nI (tw_tv B e c)) (nI c) (fun _ => k (nI (tw_te B e c))) (sh, μ, la, n) := by
  have hte : tw_te B e c = tw_skp (tw_le B) (e - c) c := by unfold tw_te; rw [if_neg (by omega), if_pos hl]
  obtain ⟨s1, s2, s3, s4⟩ := tw_skp_s (tw_le B) (e - c) c
  rw [← hte] at s1 s2 s3 s4
  obtain ⟨N, hN⟩ : ∃ N, tw_te B e c = c + N := ⟨tw_te B e c - c, by omega⟩
  have hlet : ∀ j, j < N → 97 ≤ B (c + j) ∧ B (c + j) ≤ 122 := fun j hj => of_decide_eq_true (s3 (c + j) (by omega) (by omega))
  have htv : tw_tv B e c = if N ≤ 6 then tw_wo B c N else 0 := by
    unfold tw_tv
    rw [if_neg (by omega), if_pos hl, hN, Nat.add_sub_cancel_left]
  have l5 : (5 : Int32) = nI 5 := rfl
  have l6 : (6 : Int32) = nI 6 := rfl
  have l97 : (97 : Int32) = nI 97 := rfl
  unfold f_X7_addWord
  refine tw_lp_for N (fun j => (nI (if j ≤ 6 then tw_wo B c j else 0), nI (c + j))) (fun _ => (sh, μ, la, n)) (by rw [if_pos (by omega)]; rfl) rfl (fun j hj rec => ?_) (fun rec => ?_)
  · have hb := hlet j hj
    have hlt : nI (c + j) < nI e := by rw [nz_lt (by omega) (by omega)]; omega
    have hat := fun k => c_at1 (la := la) (n := n) hTa e38 he hBt (c := c + j) (by omega) k
    have hil := fun k => c_isLet (c := B (c + j)) (hB _) k (sh, μ, la, n)
    simp only [if_pos hb] at hil
    have es : nI (c + j) - nI c = nI j := by rw [nz_sub (by omega), Nat.add_sub_cancel_left]
    have n10 : ¬ nI 1 = nI 0 := by decide
    have e1 : nI (B (c + j)) - nI 97 + nI 1 = nI (B (c + j) - 97 + 1) := by rw [nz_sub (by omega), nI_add]
    by_cases q : j < 6
    · have q' : nI j < nI 6 := by rw [nz_lt (by omega) (by omega)]; exact q
      have h5 := tw_wo_lt (B := B) (x := c) j (fun q hq => hlet q (by omega))
      have h6 : 32 ^ j ≤ 32 ^ 5 := Nat.pow_le_pow_right (by omega) (by omega)
      have h7 : (32 : Nat) ^ 5 = 2 ^ 25 := by decide
      have e5 := tw_sh5 (v := tw_wo B c j) (c := B (c + j) - 97 + 1) (by omega) (by omega)
      have e5b : 32 * tw_wo B c j + (B (c + j) - 97 + 1) = tw_wo B c (j + 1) := by
        show _ = 32 * tw_wo B c j + (B (c + j) - 96)
        omega
      rw [e5b] at e5
      have hj6 : j ≤ 6 := by omega
      have hj7 : j + 1 ≤ 6 := by omega
      simp only [↓XsG6 hX, hj6, hj7, if_true, f_X6_size, e38, hlt, ↓hat, ↓hil, n10, es, q', l5, l6, l97, tl_0, tl_1, e1, e5, nI_add, Nat.add_assoc, ↓TaV0 hTa, ↓TaG0_37 hTa, ↓TaI0_38 hTa, ↓TaP0_38 hTa, ↓TaZ0_38 hTa, ↓TaL0 hTa, ↓TaS0 hTa, ↓A_if, ↓A_jn, ↓A_lt, ↓A_rz, ↓A_rn, ↓A_nzi, ↓A_nzl, ↓A_nn1, ↓A_nn0, ↓reduceIte, true_and, and_true, if_true, if_false, ite_true, ite_false, reduceIte]
    · have q' : ¬ nI j < nI 6 := by rw [nz_lt (by omega) (by omega)]; exact q
      have hj7 : ¬ j + 1 ≤ 6 := by omega
      simp only [↓XsG6 hX, hj7, if_false, f_X6_size, e38, hlt, ↓hat, ↓hil, n10, es, q', l5, l6, l97, tl_0, tl_1, nI_add, Nat.add_assoc, ↓TaV0 hTa, ↓TaG0_37 hTa, ↓TaI0_38 hTa, ↓TaP0_38 hTa, ↓TaZ0_38 hTa, ↓TaL0 hTa, ↓TaS0 hTa, ↓A_if, ↓A_jn, ↓A_lt, ↓A_rz, ↓A_rn, ↓A_nzi, ↓A_nzl, ↓A_nn1, ↓A_nn0, ↓reduceIte, true_and, and_true, if_true, if_false, ite_true, ite_false, reduceIte]
  · rw [htv, hN]
    by_cases qe : c + N < e
    · have hlt : nI (c + N) < nI e := by rw [nz_lt (by omega) (by omega)]; omega
      have hnl : ¬ (97 ≤ B (c + N) ∧ B (c + N) ≤ 122) := by
        rcases s4 with s4 | s4
        · omega
        · rw [hN] at s4
          exact of_decide_eq_false s4
      have hat := fun k => c_at1 (la := la) (n := n) hTa e38 he hBt (c := c + N) (by omega) k
      have hil := fun k => c_isLet (c := B (c + N)) (hB _) k (sh, μ, la, n)
      simp only [if_neg hnl] at hil
      simp only [↓XsG6 hX, ↓XsW hX, f_X6_size, e38, hlt, ↓hat, ↓hil, tl_0, tl_1, ↓TaV0 hTa, ↓TaG0_37 hTa, ↓TaI0_38 hTa, ↓TaP0_38 hTa, ↓TaZ0_38 hTa, ↓TaL0 hTa, ↓TaS0 hTa, ↓A_if, ↓A_jn, ↓A_lt, ↓A_rz, ↓A_rn, ↓A_nzi, ↓A_nzl, ↓A_nn1, ↓A_nn0, ↓reduceIte, true_and, and_true, if_true, if_false, ite_true, ite_false, reduceIte]
    · have hlt : ¬ nI (c + N) < nI e := by rw [nz_lt (by omega) (by omega)]; omega
      simp only [↓XsG6 hX, ↓XsW hX, f_X6_size, e38, hlt, tl_0, tl_1, ↓TaV0 hTa, ↓TaG0_37 hTa, ↓TaI0_38 hTa, ↓TaP0_38 hTa, ↓TaZ0_38 hTa, ↓TaL0 hTa, ↓TaS0 hTa, ↓A_if, ↓A_jn, ↓A_lt, ↓A_rz, ↓A_rn, ↓A_nzi, ↓A_nzl, ↓A_nn1, ↓A_nn0, ↓reduceIte, true_and, and_true, if_true, if_false, ite_true, ite_false, reduceIte]
theorem c_addNb (hX : tw_Xs sh x t) (hTa : tw_Ta sh t) (e38 : μ t 38 = nI e) (he : e ≤ 400) (hBt : ∀ j, j < e → μ (t + 1) j = nI (B j)) (hB : ∀ j, B j < 256) (hc : c < e) (hnl : ¬ tw_le B c = true) (hl : tw_dg B c = true) (k : Int32 → tw_Mem → Prop) : f_X7_addNumber x (nI c) k (sh, μ, la, n) = f_X7_add x (nI 2) (nI (tw_tv B e c)) (nI c) (fun _ => k (nI (tw_te B e c))) (sh, μ, la, n) := by
  have hte : tw_te B e c = tw_skp (tw_dg B) (e - c) c := by unfold tw_te; rw [if_neg (by omega), if_neg hnl, if_pos hl]
  obtain ⟨s1, s2, s3, s4⟩ := tw_skp_s (tw_dg B) (e - c) c
  rw [← hte] at s1 s2 s3 s4
  obtain ⟨N, hN⟩ : ∃ N, tw_te B e c = c + N := ⟨tw_te B e c - c, by omega⟩
  have hlet : ∀ j, j < N → 48 ≤ B (c + j) ∧ B (c + j) ≤ 57 := fun j hj => of_decide_eq_true (s3 (c + j) (by omega) (by omega))
  have htv : tw_tv B e c = if N ≤ 3 then tw_nu B c N else 1000 := by
    unfold tw_tv
    rw [if_neg (by omega), if_neg hnl, if_pos hl, hN, Nat.add_sub_cancel_left]
  have l3 : (3 : Int32) = nI 3 := rfl
  have l10 : (10 : Int32) = nI 10 := rfl
  have l48 : (48 : Int32) = nI 48 := rfl
  have l1000 : (1000 : Int32) = nI 1000 := rfl
  unfold f_X7_addNumber
  refine tw_lp_for N (fun j => (nI (if j ≤ 3 then tw_nu B c j else 1000), nI (c + j))) (fun _ => (sh, μ, la, n)) (by rw [if_pos (by omega)]; rfl) rfl (fun j hj rec => ?_) (fun rec => ?_)
  · have hb := hlet j hj
    have hlt : nI (c + j) < nI e := by rw [nz_lt (by omega) (by omega)]; omega
    have hat := fun k => c_at1 (la := la) (n := n) hTa e38 he hBt (c := c + j) (by omega) k
    have hil := fun k => c_isDig (c := B (c + j)) (hB _) k (sh, μ, la, n)
    simp only [if_pos hb] at hil
    have es : nI (c + j) - nI c = nI j := by rw [nz_sub (by omega), Nat.add_sub_cancel_left]
    have n10 : ¬ nI 1 = nI 0 := by decide
    by_cases q : j < 3
    · have q' : nI j < nI 3 := by rw [nz_lt (by omega) (by omega)]; exact q
      have e5 : nI 10 * nI (tw_nu B c j) + nI (B (c + j)) - nI 48 = nI (tw_nu B c (j + 1)) := by
        rw [pk_mul, nI_add, nz_sub (by omega)]
        congr 1
        show _ = 10 * tw_nu B c j + (B (c + j) - 48)
        omega
      have hj6 : j ≤ 3 := by omega
      have hj7 : j + 1 ≤ 3 := by omega
      simp only [↓XsG6 hX, hj6, hj7, if_true, f_X6_size, e38, hlt, ↓hat, ↓hil, n10, es, q', l3, l10, l48, tl_0, tl_1, e5, nI_add, Nat.add_assoc, ↓TaV0 hTa, ↓TaG0_37 hTa, ↓TaI0_38 hTa, ↓TaP0_38 hTa, ↓TaZ0_38 hTa, ↓TaL0 hTa, ↓TaS0 hTa, ↓A_if, ↓A_jn, ↓A_lt, ↓A_rz, ↓A_rn, ↓A_nzi, ↓A_nzl, ↓A_nn1, ↓A_nn0, ↓reduceIte, true_and, and_true, if_true, if_false, ite_true, ite_false, reduceIte]
    · have q' : ¬ nI j < nI 3 := by rw [nz_lt (by omega) (by omega)]; exact q
      have hj7 : ¬ j + 1 ≤ 3 := by omega
      simp only [↓XsG6 hX, hj7, if_false, f_X6_size, e38, hlt, ↓hat, ↓hil, n10, es, q', l3, l1000, tl_0, tl_1, nI_add, Nat.add_assoc, ↓TaV0 hTa, ↓TaG0_37 hTa, ↓TaI0_38 hTa, ↓TaP0_38 hTa, ↓TaZ0_38 hTa, ↓TaL0 hTa, ↓TaS0 hTa, ↓A_if, ↓A_jn, ↓A_lt, ↓A_rz, ↓A_rn, ↓A_nzi, ↓A_nzl, ↓A_nn1, ↓A_nn0, ↓reduceIte, true_and, and_true, if_true, if_false, ite_true, ite_false, reduceIte]
  · rw [htv, hN]
    by_cases qe : c + N < e
    · have hlt : nI (c + N) < nI e := by rw [nz_lt (by omega) (by omega)]; omega
      have hnd : ¬ (48 ≤ B (c + N) ∧ B (c + N) ≤ 57) := by
        rcases s4 with s4 | s4
        · omega
        · rw [hN] at s4
          exact of_decide_eq_false s4
      have hat := fun k => c_at1 (la := la) (n := n) hTa e38 he hBt (c := c + N) (by omega) k
      have hil := fun k => c_isDig (c := B (c + N)) (hB _) k (sh, μ, la, n)
      simp only [if_neg hnd] at hil
      simp only [↓XsG6 hX, ↓XsW hX, f_X6_size, e38, hlt, ↓hat, ↓hil, tl_0, tl_1, tl_2, ↓TaV0 hTa, ↓TaG0_37 hTa, ↓TaI0_38 hTa, ↓TaP0_38 hTa, ↓TaZ0_38 hTa, ↓TaL0 hTa, ↓TaS0 hTa, ↓A_if, ↓A_jn, ↓A_lt, ↓A_rz, ↓A_rn, ↓A_nzi, ↓A_nzl, ↓A_nn1, ↓A_nn0, ↓reduceIte, true_and, and_true, if_true, if_false, ite_true, ite_false, reduceIte]
    · have hlt : ¬ nI (c + N) < nI e := by rw [nz_lt (by omega) (by omega)]; omega
      simp only [↓XsG6 hX, ↓XsW hX, f_X6_size, e38, hlt, tl_0, tl_1, tl_2, ↓TaV0 hTa, ↓TaG0_37 hTa, ↓TaI0_38 hTa, ↓TaP0_38 hTa, ↓TaZ0_38 hTa, ↓TaL0 hTa, ↓TaS0 hTa, ↓A_if, ↓A_jn, ↓A_lt, ↓A_rz, ↓A_rn, ↓A_nzi, ↓A_nzl, ↓A_nn1, ↓A_nn0, ↓reduceIte, true_and, and_true, if_true, if_false, ite_true, ite_false, reduceIte]
theorem c_addTh (hX : tw_Xs sh x t) (hTa : tw_Ta sh t) (e38 : μ t 38 = nI e) (he : e ≤ 400) (hBt : ∀ j, j < e → μ (t + 1) j = nI (B j)) (hB : ∀ j, B j < 256) (hc : c < e) (k : Int32 → tw_Mem → Prop) : f_X7_addThing x (nI c) k (sh, μ, la, n) = f_X7_add x (nI (tw_tk B e c)) (nI (tw_tv B e c)) (nI c) (fun _ => k (nI (tw_te B e c))) (sh, μ, la, n) := by
  have hat := fun k => c_at1 (la := la) (n := n) hTa e38 he hBt (c := c) hc k
  have hil := fun k => c_isLet (c := B c) (hB _) k (sh, μ, la, n)
  have hid := fun k => c_isDig (c := B c) (hB _) k (sh, μ, la, n)
  have n10 : ¬ nI 1 = nI 0 := by decide
  unfold f_X7_addThing
  by_cases q1 : 97 ≤ B c ∧ B c ≤ 122
  · have hl : tw_le B c = true := decide_eq_true q1
    have hw := fun k => c_addWd (la := la) (n := n) hX hTa e38 he hBt hB hc hl k
    have ek : tw_tk B e c = 1 := by unfold tw_tk; rw [if_neg (by omega), if_pos hl]
    simp only [if_pos q1] at hil
    rw [ek]
    simp only [↓XsG6 hX, ↓XsW hX, ↓hat, ↓hil, ↓hw, n10, tl_0, ↓TaV0 hTa, ↓TaG0_37 hTa, ↓TaI0_38 hTa, ↓TaP0_38 hTa, ↓TaZ0_38 hTa, ↓TaL0 hTa, ↓TaS0 hTa, ↓A_if, ↓A_jn, ↓A_lt, ↓A_rz, ↓A_rn, ↓A_nzi, ↓A_nzl, ↓A_nn1, ↓A_nn0, ↓reduceIte, true_and, and_true, if_true, if_false, ite_true, ite_false, reduceIte]
  · have hnl : ¬ tw_le B c = true := fun g => q1 (of_decide_eq_true g)
    simp only [if_neg q1] at hil
    by_cases q2 : 48 ≤ B c ∧ B c ≤ 57
    · have hl : tw_dg B c = true := decide_eq_true q2
      have hw := fun k => c_addNb (la := la) (n := n) hX hTa e38 he hBt hB hc hnl hl k
      have ek : tw_tk B e c = 2 := by unfold tw_tk; rw [if_neg (by omega), if_neg hnl, if_pos hl]
      simp only [if_pos q2] at hid
      rw [ek]
      simp only [↓XsG6 hX, ↓XsW hX, ↓hat, ↓hil, ↓hid, ↓hw, n10, tl_0, ↓TaV0 hTa, ↓TaG0_37 hTa, ↓TaI0_38 hTa, ↓TaP0_38 hTa, ↓TaZ0_38 hTa, ↓TaL0 hTa, ↓TaS0 hTa, ↓A_if, ↓A_jn, ↓A_lt, ↓A_rz, ↓A_rn, ↓A_nzi, ↓A_nzl, ↓A_nn1, ↓A_nn0, ↓reduceIte, true_and, and_true, if_true, if_false, ite_true, ite_false, reduceIte]
    · have hnd : ¬ tw_dg B c = true := fun g => q2 (of_decide_eq_true g)
      have ek : tw_tk B e c = 3 := by unfold tw_tk; rw [if_neg (by omega), if_neg hnl, if_neg hnd]
      have ev : tw_tv B e c = B c := by unfold tw_tv; rw [if_neg (by omega), if_neg hnl, if_neg hnd]
      have et : tw_te B e c = c + 1 := by unfold tw_te; rw [if_neg (by omega), if_neg hnl, if_neg hnd]
      have l3 : (3 : Int32) = nI 3 := rfl
      simp only [if_neg q2] at hid
      rw [ek, ev, et]
      simp only [↓XsG6 hX, ↓XsW hX, ↓hat, ↓hil, ↓hid, l3, tl_0, tl_1, nI_add, ↓TaV0 hTa, ↓TaG0_37 hTa, ↓TaI0_38 hTa, ↓TaP0_38 hTa, ↓TaZ0_38 hTa, ↓TaL0 hTa, ↓TaS0 hTa, ↓A_if, ↓A_jn, ↓A_lt, ↓A_rz, ↓A_rn, ↓A_nzi, ↓A_nzl, ↓A_nn1, ↓A_nn0, ↓reduceIte, true_and, and_true, if_true, if_false, ite_true, ite_false, reduceIte]
/-- only a text's things have changed -/
def tw_xq (x : Nat) (μ μ' : Nat → Nat → Int32) : Prop := (∀ y, ¬ (x ≤ y ∧ y ≤ x + 3) → μ' y = μ y) ∧ ∀ q, q ≠ 10 → q ≠ 11 → q ≠ 12 → μ' x q = μ x q
theorem tw_xq_t {μ μ' μ'' : Nat → Nat → Int32} (h : tw_xq x μ μ') (h2 : tw_xq x μ' μ'') : tw_xq x μ μ'' := ⟨fun y a => (h2.1 y a).trans (h.1 y a), fun q a b c => (h2.2 q a b c).trans (h.2 q a b c)⟩
theorem c_splitL (hX : tw_Xs sh x t) (hTa : tw_Ta sh t) (htx : t + 2 ≤ x) (he : e ≤ 400) (hB : ∀ j, B j < 256) : ∀ d z i c μ, z + d = e → i ≤ z → c ≤ z → tw_tp B e c ≤ z → tw_tbb B e z = tw_tg B e c → μ t 38 = nI e → (∀ j, j < e → μ (t + 1) j = nI (B j)) → μ x 10 = nI c → μ x 11 = nI 0 → (∀ j, j < c → tw_tg B e j < e) → (∀ j, j < c → μ (x + 1) j = nI (tw_kd B e j) ∧ μ (x + 2) j = nI (tw_vd B e j) ∧ μ (x + 3) j = nI (tw_tg B e j)) → ∃ μ' tt, (tw_xq x μ μ' ∧ tw_TX μ' x B e tt ∧ μ' x 11 = nI 0) ∧ ∀ (la : Nat → Nat → Int64) (n : Nat) (k : Unit → tw_Mem → Prop), tw_lp (fun (r1 : Int32 × Int32 → tw_Mem → Prop) (s2 : Int32 × Int32) => tw_jn (fun (s4 : Unit) => tw_gr 6 x fun x5 => tw_iv 6 x5 (f_X6_size x5 (fun x6 => tw_iw x (f_X7_add x (0 : Int32) (0 : Int32) x6 (fun u7 => k ()))))) (fun j3 => tw_if (s2.2 < (400 : Int32)) (tw_gr 6 x fun x8 => tw_iv 6 x8 (f_X6_size x8 (fun x9 => tw_if (s2.1 < x9) (tw_gr 6 x fun x10 => tw_iv 6 x10 (f_X6_at x10 s2.1 (fun x11 => tw_jn (fun (s13 : Int32) => r1 (s13, s2.2 + (1 : Int32))) (fun j12 => tw_if (x11 = (32 : Int32)) (j12 (s2.1 + (1 : Int32))) (tw_iw x (f_X7_addThing x s2.1 (fun x14 => j12 x14))))))) (j3 ())))) (j3 ()))) (nI z, nI i) (sh, μ, la, n) = k () (sh, μ', la, n) := by
  intro d
  induction d using Nat.strongRecOn with
  | _ d ih =>
    intro z i c μ hz hi hc hp htb e38 hBt e10 e11 hlt hfl
    have l400 : (400 : Int32) = nI 400 := rfl
    rcases Nat.eq_zero_or_pos d with hd | hd
    · have hze : z = e := by omega
      subst hze
      have hge : tw_tg B z c = z := by
        rw [← htb]
        exact tw_tbb_u (Nat.le_refl z) (Nat.le_refl z) (fun y a b => by omega) (Or.inl rfl)
      have hk0 : tw_kd B z c = 0 := by unfold tw_kd tw_tk; rw [hge]; exact if_pos (Nat.le_refl z)
      have hv0 : tw_vd B z c = 0 := by unfold tw_vd tw_tv; rw [hge]; exact if_pos (Nat.le_refl z)
      refine ⟨tw_up (tw_up (tw_up (tw_up μ (x + 1) c (nI 0)) (x + 2) c (nI 0)) (x + 3) c (nI z)) x 10 (nI (c + 1)), c, ⟨⟨fun y hy => ?_, fun q h1 h2 h3 => ?_⟩, ⟨hc, he, hge, hlt, fun j hj => ?_⟩, ?_⟩, fun la n k => tw_lp_exit (fun rec => ?_)⟩
      · rw [tw_up_ne (by omega), tw_up_ne (by omega), tw_up_ne (by omega), tw_up_ne (by omega)]
      · rw [tw_uk (by omega), tw_un (by omega), tw_un (by omega), tw_un (by omega)]
      · by_cases ej : j = c
        · subst ej
          refine ⟨?_, ?_, ?_⟩
          · show _ = nI (tw_kd B z j)
            rw [hk0, tw_up_ne (by omega), tw_up_ne (by omega), tw_up_ne (by omega)]; exact tw_ua
          · show _ = nI (tw_vd B z j)
            rw [hv0, tw_up_ne (by omega), tw_up_ne (by omega)]; exact tw_ua
          · rw [hge, tw_up_ne (by omega)]; exact tw_ua
        · obtain ⟨f1, f2, f3⟩ := hfl j (by omega)
          refine ⟨?_, ?_, ?_⟩
          · rw [tw_up_ne (by omega), tw_up_ne (by omega), tw_up_ne (by omega), tw_uk (by omega)]; exact f1
          · rw [tw_up_ne (by omega), tw_up_ne (by omega), tw_uk (by omega), tw_up_ne (by omega)]; exact f2
          · rw [tw_up_ne (by omega), tw_uk (by omega), tw_up_ne (by omega), tw_up_ne (by omega)]; exact f3
      · rw [tw_uk (by omega), tw_un (by omega), tw_un (by omega), tw_un (by omega)]; exact e11
      · have hlt2 : ¬ nI z < nI z := by rw [nz_lt (by omega) (by omega)]; omega
        have ha := fun (la : Nat → Nat → Int64) (n : Nat) k => c_add1 (la := la) (n := n) hX e10 (by omega) (nI 0) (nI 0) (nI z) k
        by_cases qi : nI i < nI 400
        · simp only [↓XsG6 hX, ↓XsW hX, f_X6_size, e38, hlt2, ↓ha, l400, qi, tl_0, ↓TaV0 hTa, ↓TaG0_37 hTa, ↓TaI0_38 hTa, ↓TaP0_38 hTa, ↓TaZ0_38 hTa, ↓TaL0 hTa, ↓TaS0 hTa, ↓A_if, ↓A_jn, ↓A_lt, ↓A_rz, ↓A_rn, ↓A_nzi, ↓A_nzl, ↓A_nn1, ↓A_nn0, ↓reduceIte, true_and, and_true, if_true, if_false, ite_true, ite_false, reduceIte]
        · simp only [↓XsG6 hX, ↓XsW hX, f_X6_size, e38, hlt2, ↓ha, l400, qi, tl_0, ↓TaV0 hTa, ↓TaG0_37 hTa, ↓TaI0_38 hTa, ↓TaP0_38 hTa, ↓TaZ0_38 hTa, ↓TaL0 hTa, ↓TaS0 hTa, ↓A_if, ↓A_jn, ↓A_lt, ↓A_rz, ↓A_rn, ↓A_nzi, ↓A_nzl, ↓A_nn1, ↓A_nn0, ↓reduceIte, true_and, and_true, if_true, if_false, ite_true, ite_false, reduceIte]
    · have hlt2 : nI z < nI e := by rw [nz_lt (by omega) (by omega)]; omega
      have qi : nI i < nI 400 := by rw [nz_lt (by omega) (by omega)]; omega
      have hat := fun (la : Nat → Nat → Int64) (n : Nat) k => c_at1 (la := la) (n := n) hTa e38 he hBt (c := z) (by omega) k
      have l32 : (32 : Int32) = nI 32 := rfl
      have hBz := hB z
      by_cases qb : B z = 32
      · have hb' : nI (B z) = nI 32 := by rw [qb]
        have hm := (tw_tbb_s B (e := e) (x := z) (by omega))
        have hzb : z < tw_tbb B e z := by
          rcases Nat.lt_or_ge z (tw_tbb B e z) with g | g
          · exact g
          · have : tw_tbb B e z = z := by omega
            rw [this] at hm
            rcases hm.2.2.1 with g2 | g2
            · omega
            · exact absurd qb g2
        obtain ⟨μ', tt, P1, P2⟩ := ih (d - 1) (by omega) (z + 1) (i + 1) c μ (by omega) (by omega) (by omega) (by omega) ((tw_tbb_m (by omega) (by omega) (by omega)).trans htb) e38 hBt e10 e11 hlt hfl
        refine ⟨μ', tt, P1, fun la n k => ?_⟩
        rw [← P2 la n k]
        refine tw_lp_step (fun rec => ?_)
        simp only [↓XsG6 hX, ↓XsW hX, f_X6_size, e38, hlt2, ↓hat, hb', l32, l400, qi, tl_0, tl_1, nI_add, ↓TaV0 hTa, ↓TaG0_37 hTa, ↓TaI0_38 hTa, ↓TaP0_38 hTa, ↓TaZ0_38 hTa, ↓TaL0 hTa, ↓TaS0 hTa, ↓A_if, ↓A_jn, ↓A_lt, ↓A_rz, ↓A_rn, ↓A_nzi, ↓A_nzl, ↓A_nn1, ↓A_nn0, ↓reduceIte, true_and, and_true, if_true, if_false, ite_true, ite_false, reduceIte]
      · have hzg : tw_tbb B e z = z := tw_tbb_u (Nat.le_refl z) (by omega) (fun y a b => by omega) (Or.inr qb)
        have hgz : tw_tg B e c = z := htb.symm.trans hzg
        have hte := tw_te_s B (e := e) (x := z) (by omega)
        have hte3 := hte.2.2 (by omega)
        have hpc : tw_tp B e (c + 1) = tw_te B e z := by show tw_te B e (tw_tg B e c) = _; rw [hgz]
        have hth := fun (la : Nat → Nat → Int64) (n : Nat) k => c_addTh (la := la) (n := n) hX hTa e38 he hBt hB (c := z) (by omega) k
        have ha := fun (la : Nat → Nat → Int64) (n : Nat) k => c_add1 (la := la) (n := n) hX e10 (by omega) (nI (tw_tk B e z)) (nI (tw_tv B e z)) (nI z) k
        have hb' : ¬ nI (B z) = nI 32 := by rw [nz_eq (by omega) (by omega)]; exact qb
        obtain ⟨μ', tt, ⟨P1, P1b⟩, P2⟩ := ih (e - tw_te B e z) (by omega) (tw_te B e z) (i + 1) (c + 1) (tw_up (tw_up (tw_up (tw_up μ (x + 1) c (nI (tw_tk B e z))) (x + 2) c (nI (tw_tv B e z))) (x + 3) c (nI z)) x 10 (nI (c + 1))) (by omega) (by omega) (by omega) (by omega) (by show _ = tw_tbb B e (tw_tp B e (c + 1)); rw [hpc]) (by rw [tw_up_ne (by omega), tw_up_ne (by omega), tw_up_ne (by omega), tw_up_ne (by omega)]; exact e38) (by rw [tw_up_ne (by omega), tw_up_ne (by omega), tw_up_ne (by omega), tw_up_ne (by omega)]; exact hBt) tw_ua (by rw [tw_uk (by omega), tw_un (by omega), tw_un (by omega), tw_un (by omega)]; exact e11) (fun j hj => by
            by_cases ej : j = c
            · subst ej; rw [hgz]; omega
            · exact hlt j (by omega)) (fun j hj => by
            by_cases ej : j = c
            · subst ej
              refine ⟨?_, ?_, ?_⟩
              · show _ = nI (tw_tk B e (tw_tg B e j))
                rw [hgz, tw_up_ne (by omega), tw_up_ne (by omega), tw_up_ne (by omega)]; exact tw_ua
              · show _ = nI (tw_tv B e (tw_tg B e j))
                rw [hgz, tw_up_ne (by omega), tw_up_ne (by omega)]; exact tw_ua
              · rw [hgz, tw_up_ne (by omega)]; exact tw_ua
            · obtain ⟨f1, f2, f3⟩ := hfl j (by omega)
              refine ⟨?_, ?_, ?_⟩
              · rw [tw_up_ne (by omega), tw_up_ne (by omega), tw_up_ne (by omega), tw_uk (by omega)]; exact f1
              · rw [tw_up_ne (by omega), tw_up_ne (by omega), tw_uk (by omega), tw_up_ne (by omega)]; exact f2
              · rw [tw_up_ne (by omega), tw_uk (by omega), tw_up_ne (by omega), tw_up_ne (by omega)]; exact f3)
        refine ⟨μ', tt, ⟨⟨fun y hy => ?_, fun q h1 h2 h3 => ?_⟩, P1b⟩, fun la n k => ?_⟩
        · rw [P1.1 y hy, tw_up_ne (by omega), tw_up_ne (by omega), tw_up_ne (by omega), tw_up_ne (by omega)]
        · rw [P1.2 q h1 h2 h3, tw_uk (by omega), tw_un (by omega), tw_un (by omega), tw_un (by omega)]
        · rw [← P2 la n k]
          refine tw_lp_step (fun rec => ?_)
          simp only [↓XsG6 hX, ↓XsW hX, f_X6_size, e38, hlt2, ↓hat, hb', ↓hth, ↓ha, l32, l400, qi, tl_0, tl_1, nI_add, ↓TaV0 hTa, ↓TaG0_37 hTa, ↓TaI0_38 hTa, ↓TaP0_38 hTa, ↓TaZ0_38 hTa, ↓TaL0 hTa, ↓TaS0 hTa, ↓A_if, ↓A_jn, ↓A_lt, ↓A_rz, ↓A_rn, ↓A_nzi, ↓A_nzl, ↓A_nn1, ↓A_nn0, ↓reduceIte, true_and, and_true, if_true, if_false, ite_true, ite_false, reduceIte]
theorem c_split (hX : tw_Xs sh x t) (hTa : tw_Ta sh t) (htx : t + 2 ≤ x) (he : e ≤ 400) (hB : ∀ j, B j < 256) (e38 : μ t 38 = nI e) (hBt : ∀ j, j < e → μ (t + 1) j = nI (B j)) : ∃ μ' tt, (tw_xq x μ μ' ∧ tw_At sh μ' x t B e tt 0) ∧ ∀ (la : Nat → Nat → Int64) (n : Nat) k, f_X7_split x k (sh, μ, la, n) = k () (sh, μ', la, n) := by
  obtain ⟨μ', tt, ⟨P1, P1b, P1c⟩, P2⟩ := c_splitL hX hTa htx he hB e 0 0 0 (tw_up (tw_up μ x 10 (nI 0)) x 11 (nI 0)) (by omega) (Nat.le_refl 0) (Nat.le_refl 0) (Nat.le_refl 0) rfl (by rw [tw_up_ne (by omega), tw_up_ne (by omega)]; exact e38) (by rw [tw_up_ne (by omega), tw_up_ne (by omega)]; exact hBt) (by rw [tw_uk (by omega)]; exact tw_ua) tw_ua (fun j hj => absurd hj (Nat.not_lt_zero j)) (fun j hj => absurd hj (Nat.not_lt_zero j))
  refine ⟨μ', tt, ⟨⟨fun y hy => ?_, fun q h1 h2 h3 => ?_⟩, hX, P1b, P1c, Nat.zero_le _, hB⟩, fun la n k => ?_⟩
  · rw [P1.1 y hy, tw_up_ne (by omega), tw_up_ne (by omega)]
  · rw [P1.2 q h1 h2 h3, tw_uk (by omega), tw_uk (by omega)]
  · rw [← P2 la n k]
    unfold f_X7_split
    simp only [↓XsP10 hX, ↓XsP11 hX]
    rfl
end P99
