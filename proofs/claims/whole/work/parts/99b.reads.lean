/-! ===== pure: what the model reads ===== -/
def tw_pb (μ : Nat → Nat → Int32) (m p q : Nat) : Nat → Nat → Int32 := tw_up (tw_up μ m 80 (nI p)) m 82 (nI q)
section P99b
variable {sh : tw_Sh} {μ ν : Nat → Nat → Int32} {la : Nat → Nat → Int64} {n a b x m t tt e i lo hi c p q p' q' z : Nat} {G : tw_Gm} {tx : String} {B : Nat → Nat} {v : Int32}
theorem tw_pb_80 : tw_pb μ m p q m 80 = nI p := by unfold tw_pb; rw [tw_uk (by omega)]; exact tw_ua
theorem tw_pb_82 : tw_pb μ m p q m 82 = nI q := tw_ua
theorem tw_pb_k {j : Nat} (h1 : j ≠ 80) (h2 : j ≠ 82) : tw_pb μ m p q m j = μ m j := by unfold tw_pb; rw [tw_uk (by omega), tw_uk (by omega)]
theorem tw_pb_n {y : Nat} (h : y ≠ m) : tw_pb μ m p q y = μ y := by unfold tw_pb; rw [tw_up_ne h, tw_up_ne h]
theorem tw_pb_pb : tw_pb (tw_pb μ m p q) m p' q' = tw_pb μ m p' q' := by
  funext y j
  by_cases hy : y = m
  · subst hy
    by_cases h1 : j = 82
    · subst h1; rw [tw_pb_82, tw_pb_82]
    · by_cases h2 : j = 80
      · subst h2; rw [tw_pb_80, tw_pb_80]
      · rw [tw_pb_k h2 h1, tw_pb_k h2 h1, tw_pb_k h2 h1]
  · rw [tw_pb_n hy, tw_pb_n hy, tw_pb_n hy]
theorem tw_pb_p : tw_up (tw_pb μ m p q) m 80 (nI p') = tw_pb μ m p' q := by
  funext y j
  by_cases hy : y = m
  · subst hy
    by_cases h1 : j = 82
    · subst h1; rw [tw_pb_82, tw_uk (by omega), tw_pb_82]
    · by_cases h2 : j = 80
      · subst h2; rw [tw_pb_80, tw_ua]
      · rw [tw_uk (by omega), tw_pb_k h2 h1, tw_pb_k h2 h1]
  · rw [tw_up_ne hy, tw_pb_n hy, tw_pb_n hy]
theorem tw_pb_q : tw_up (tw_pb μ m p q) m 82 (nI q') = tw_pb μ m p q' := by
  funext y j
  by_cases hy : y = m
  · subst hy
    by_cases h1 : j = 82
    · subst h1; rw [tw_pb_82, tw_ua]
    · rw [tw_uk (by omega)]
      by_cases h2 : j = 80
      · subst h2; rw [tw_pb_80, tw_pb_80]
      · rw [tw_pb_k h2 h1, tw_pb_k h2 h1]
  · rw [tw_up_ne hy, tw_pb_n hy, tw_pb_n hy]
/-- the model's text -/
def tw_Mt (sh : tw_Sh) (μ : Nat → Nat → Int32) (m : Nat) (B : Nat → Nat) (e : Nat) : Prop := tw_Mo sh m ∧ μ m 81 = nI e ∧ e ≤ 400 ∧ (∀ j, j < e → μ (m + 6) j = vp_nar .byte (nI (B j))) ∧ ∀ j, B j < 256
theorem tw_Mt_pb (h : tw_Mt sh μ m B e) : tw_Mt sh (tw_pb μ m p q) m B e := ⟨h.1, by rw [tw_pb_k (by omega) (by omega)]; exact h.2.1, h.2.2.1, by rw [tw_pb_n (by omega)]; exact h.2.2.2.1, h.2.2.2.2⟩
theorem m_isAt1 (h : tw_Mt sh μ m B e) (hp : p ≤ e) (h0 : 0 < lo) (h1 : lo < 128) (h2 : hi < 128) (k : Int32 → tw_Mem → Prop) : f_X12_isAt m (nI lo) (nI hi) k (sh, tw_pb μ m p q, la, n) = if p < e ∧ lo ≤ B p ∧ B p ≤ hi then k (nI 1) (sh, tw_pb μ m p q, la, n) else k (nI 0) (sh, tw_pb μ m p q, la, n) := by
  obtain ⟨hM, e81, he, hb6, hB⟩ := tw_Mt_pb (p := p) (q := q) h
  have g80 : tw_pb μ m p q m 80 = nI p := tw_pb_80
  have h6 : tw_ar sh (m + 6) 2 400 := hM.2.2.2.2.2.2.1
  unfold f_X12_isAt
  by_cases qe : p < e
  · have qe' : nI p < nI e := by rw [nz_lt (by omega) (by omega)]; exact qe
    have hbp := hb6 p qe
    obtain ⟨s1, s2⟩ := tw_sbc (B := B p) (lo := lo) (hi := hi) (hB p) h0 h1 h2
    have hlb : ∀ F : Int32 → tw_Mem → Prop, tw_lb (m + 6) (nI p) F (sh, tw_pb μ m p q, la, n) = F (vp_nar .byte (nI (B p))) (sh, tw_pb μ m p q, la, n) := fun F => by
      rw [X_lb h6 (by omega) (by decide), hbp]
    by_cases q1 : 128 ≤ B p ∨ B p < lo
    · have q1' : vp_nar .byte (nI (B p)) < nI lo := by rw [s1]; exact q1
      have q : ¬ (p < e ∧ lo ≤ B p ∧ B p ≤ hi) := by omega
      simp only [g80, e81, qe', ↓hlb, q1', q, or_true, true_or, tl_0, tl_1, ↓MoV0 hM, ↓MoI0_70 hM, ↓MoP0_70 hM, ↓MoZ0_70 hM, ↓MoG0_71 hM, ↓MoG0_72 hM, ↓MoG0_73 hM, ↓MoG0_74 hM, ↓MoG0_75 hM, ↓MoI0_76 hM, ↓MoP0_76 hM, ↓MoZ0_76 hM, ↓MoI0_77 hM, ↓MoP0_77 hM, ↓MoZ0_77 hM, ↓MoG0_78 hM, ↓MoI0_79 hM, ↓MoP0_79 hM, ↓MoZ0_79 hM, ↓MoI0_80 hM, ↓MoP0_80 hM, ↓MoZ0_80 hM, ↓MoI0_81 hM, ↓MoP0_81 hM, ↓MoZ0_81 hM, ↓MoI0_82 hM, ↓MoP0_82 hM, ↓MoZ0_82 hM, ↓MoI0_83 hM, ↓MoP0_83 hM, ↓MoZ0_83 hM, ↓MoI0_84 hM, ↓MoP0_84 hM, ↓MoZ0_84 hM, ↓MoG0_85 hM, ↓MoI0_86 hM, ↓MoP0_86 hM, ↓MoZ0_86 hM, ↓MoG0_87 hM, ↓MoI0_88 hM, ↓MoP0_88 hM, ↓MoZ0_88 hM, ↓MoG0_89 hM, ↓MoG0_90 hM, ↓MoG0_91 hM, ↓MoG0_92 hM, ↓MoL0 hM, ↓MoS0 hM, ↓MoL1 hM, ↓MoS1 hM, ↓MoL2 hM, ↓MoS2 hM, ↓MoL3 hM, ↓MoS3 hM, ↓MoL4 hM, ↓MoS4 hM, ↓MoL5 hM, ↓MoS5 hM, ↓MoL6 hM, ↓MoS6 hM, ↓MoL7 hM, ↓MoS7 hM, ↓MoL8 hM, ↓MoS8 hM, ↓MoL9 hM, ↓MoS9 hM, ↓MoL10 hM, ↓MoS10 hM, ↓MoL11 hM, ↓MoS11 hM, ↓A_if, ↓A_jn, ↓A_lt, ↓A_rz, ↓A_rn, ↓A_nzi, ↓A_nzl, ↓A_nn1, ↓A_nn0, ↓reduceIte, true_and, and_true, if_true, if_false, ite_true, ite_false, reduceIte]
    · have q1' : ¬ vp_nar .byte (nI (B p)) < nI lo := by rw [s1]; exact q1
      have s3 := s2 (by omega)
      by_cases q2 : hi < B p
      · have q2' : nI hi < vp_nar .byte (nI (B p)) := by rw [s3]; exact q2
        have q : ¬ (p < e ∧ lo ≤ B p ∧ B p ≤ hi) := by omega
        simp only [g80, e81, qe', ↓hlb, q1', q2', q, or_true, true_or, tl_0, tl_1, ↓MoV0 hM, ↓MoI0_70 hM, ↓MoP0_70 hM, ↓MoZ0_70 hM, ↓MoG0_71 hM, ↓MoG0_72 hM, ↓MoG0_73 hM, ↓MoG0_74 hM, ↓MoG0_75 hM, ↓MoI0_76 hM, ↓MoP0_76 hM, ↓MoZ0_76 hM, ↓MoI0_77 hM, ↓MoP0_77 hM, ↓MoZ0_77 hM, ↓MoG0_78 hM, ↓MoI0_79 hM, ↓MoP0_79 hM, ↓MoZ0_79 hM, ↓MoI0_80 hM, ↓MoP0_80 hM, ↓MoZ0_80 hM, ↓MoI0_81 hM, ↓MoP0_81 hM, ↓MoZ0_81 hM, ↓MoI0_82 hM, ↓MoP0_82 hM, ↓MoZ0_82 hM, ↓MoI0_83 hM, ↓MoP0_83 hM, ↓MoZ0_83 hM, ↓MoI0_84 hM, ↓MoP0_84 hM, ↓MoZ0_84 hM, ↓MoG0_85 hM, ↓MoI0_86 hM, ↓MoP0_86 hM, ↓MoZ0_86 hM, ↓MoG0_87 hM, ↓MoI0_88 hM, ↓MoP0_88 hM, ↓MoZ0_88 hM, ↓MoG0_89 hM, ↓MoG0_90 hM, ↓MoG0_91 hM, ↓MoG0_92 hM, ↓MoL0 hM, ↓MoS0 hM, ↓MoL1 hM, ↓MoS1 hM, ↓MoL2 hM, ↓MoS2 hM, ↓MoL3 hM, ↓MoS3 hM, ↓MoL4 hM, ↓MoS4 hM, ↓MoL5 hM, ↓MoS5 hM, ↓MoL6 hM, ↓MoS6 hM, ↓MoL7 hM, ↓MoS7 hM, ↓MoL8 hM, ↓MoS8 hM, ↓MoL9 hM, ↓MoS9 hM, ↓MoL10 hM, ↓MoS10 hM, ↓MoL11 hM, ↓MoS11 hM, ↓A_if, ↓A_jn, ↓A_lt, ↓A_rz, ↓A_rn, ↓A_nzi, ↓A_nzl, ↓A_nn1, ↓A_nn0, ↓reduceIte, true_and, and_true, if_true, if_false, ite_true, ite_false, reduceIte]
      · have q2' : ¬ nI hi < vp_nar .byte (nI (B p)) := by rw [s3]; exact q2
        have q : p < e ∧ lo ≤ B p ∧ B p ≤ hi := by omega
        simp only [g80, e81, qe', ↓hlb, q1', q2', q, and_self, or_true, true_or, tl_0, tl_1, ↓MoV0 hM, ↓MoI0_70 hM, ↓MoP0_70 hM, ↓MoZ0_70 hM, ↓MoG0_71 hM, ↓MoG0_72 hM, ↓MoG0_73 hM, ↓MoG0_74 hM, ↓MoG0_75 hM, ↓MoI0_76 hM, ↓MoP0_76 hM, ↓MoZ0_76 hM, ↓MoI0_77 hM, ↓MoP0_77 hM, ↓MoZ0_77 hM, ↓MoG0_78 hM, ↓MoI0_79 hM, ↓MoP0_79 hM, ↓MoZ0_79 hM, ↓MoI0_80 hM, ↓MoP0_80 hM, ↓MoZ0_80 hM, ↓MoI0_81 hM, ↓MoP0_81 hM, ↓MoZ0_81 hM, ↓MoI0_82 hM, ↓MoP0_82 hM, ↓MoZ0_82 hM, ↓MoI0_83 hM, ↓MoP0_83 hM, ↓MoZ0_83 hM, ↓MoI0_84 hM, ↓MoP0_84 hM, ↓MoZ0_84 hM, ↓MoG0_85 hM, ↓MoI0_86 hM, ↓MoP0_86 hM, ↓MoZ0_86 hM, ↓MoG0_87 hM, ↓MoI0_88 hM, ↓MoP0_88 hM, ↓MoZ0_88 hM, ↓MoG0_89 hM, ↓MoG0_90 hM, ↓MoG0_91 hM, ↓MoG0_92 hM, ↓MoL0 hM, ↓MoS0 hM, ↓MoL1 hM, ↓MoS1 hM, ↓MoL2 hM, ↓MoS2 hM, ↓MoL3 hM, ↓MoS3 hM, ↓MoL4 hM, ↓MoS4 hM, ↓MoL5 hM, ↓MoS5 hM, ↓MoL6 hM, ↓MoS6 hM, ↓MoL7 hM, ↓MoS7 hM, ↓MoL8 hM, ↓MoS8 hM, ↓MoL9 hM, ↓MoS9 hM, ↓MoL10 hM, ↓MoS10 hM, ↓MoL11 hM, ↓MoS11 hM, ↓A_if, ↓A_jn, ↓A_lt, ↓A_rz, ↓A_rn, ↓A_nzi, ↓A_nzl, ↓A_nn1, ↓A_nn0, ↓reduceIte, true_and, and_true, if_true, if_false, ite_true, ite_false, reduceIte]
  · have qe' : ¬ nI p < nI e := by rw [nz_lt (by omega) (by omega)]; exact qe
    have q : ¬ (p < e ∧ lo ≤ B p ∧ B p ≤ hi) := by omega
    simp only [g80, e81, qe', q, or_true, true_or, tl_0, tl_1, ↓MoV0 hM, ↓MoI0_70 hM, ↓MoP0_70 hM, ↓MoZ0_70 hM, ↓MoG0_71 hM, ↓MoG0_72 hM, ↓MoG0_73 hM, ↓MoG0_74 hM, ↓MoG0_75 hM, ↓MoI0_76 hM, ↓MoP0_76 hM, ↓MoZ0_76 hM, ↓MoI0_77 hM, ↓MoP0_77 hM, ↓MoZ0_77 hM, ↓MoG0_78 hM, ↓MoI0_79 hM, ↓MoP0_79 hM, ↓MoZ0_79 hM, ↓MoI0_80 hM, ↓MoP0_80 hM, ↓MoZ0_80 hM, ↓MoI0_81 hM, ↓MoP0_81 hM, ↓MoZ0_81 hM, ↓MoI0_82 hM, ↓MoP0_82 hM, ↓MoZ0_82 hM, ↓MoI0_83 hM, ↓MoP0_83 hM, ↓MoZ0_83 hM, ↓MoI0_84 hM, ↓MoP0_84 hM, ↓MoZ0_84 hM, ↓MoG0_85 hM, ↓MoI0_86 hM, ↓MoP0_86 hM, ↓MoZ0_86 hM, ↓MoG0_87 hM, ↓MoI0_88 hM, ↓MoP0_88 hM, ↓MoZ0_88 hM, ↓MoG0_89 hM, ↓MoG0_90 hM, ↓MoG0_91 hM, ↓MoG0_92 hM, ↓MoL0 hM, ↓MoS0 hM, ↓MoL1 hM, ↓MoS1 hM, ↓MoL2 hM, ↓MoS2 hM, ↓MoL3 hM, ↓MoS3 hM, ↓MoL4 hM, ↓MoS4 hM, ↓MoL5 hM, ↓MoS5 hM, ↓MoL6 hM, ↓MoS6 hM, ↓MoL7 hM, ↓MoS7 hM, ↓MoL8 hM, ↓MoS8 hM, ↓MoL9 hM, ↓MoS9 hM, ↓MoL10 hM, ↓MoS10 hM, ↓MoL11 hM, ↓MoS11 hM, ↓A_if, ↓A_jn, ↓A_lt, ↓A_rz, ↓A_rn, ↓A_nzi, ↓A_nzl, ↓A_nn1, ↓A_nn0, ↓reduceIte, true_and, and_true, if_true, if_false, ite_true, ite_false, reduceIte]
theorem m_blanks1 (h : tw_Mt sh μ m B e) (hp : p ≤ e) (k : Unit → tw_Mem → Prop) : f_X12_blanks m k (sh, tw_pb μ m p q, la, n) = k () (sh, tw_pb μ m (tw_tbb B e p) (tw_tbb B e p), la, n) := by
  obtain ⟨s1, s2, s3, s4⟩ := tw_tbb_s B hp
  have hM := h.1
  have he := h.2.2.1
  obtain ⟨N, hN⟩ : ∃ N, tw_tbb B e p = p + N := ⟨tw_tbb B e p - p, by omega⟩
  have l32 : (32 : Int32) = nI 32 := rfl
  have n10 : ¬ nI 1 = nI 0 := by decide
  rw [hN] at s1 s2 s3 s4 ⊢
  unfold f_X12_blanks
  refine tw_lp_for N (fun _ => ()) (fun j => (sh, tw_pb μ m (p + j) q, la, n)) rfl rfl (fun j hj rec => ?_) (fun rec => ?_)
  · have ha := fun k => m_isAt1 (la := la) (n := n) (p := p + j) (q := q) h (by omega) (lo := 32) (hi := 32) (by omega) (by omega) (by omega) k
    have hc : p + j < e ∧ 32 ≤ B (p + j) ∧ B (p + j) ≤ 32 := by
      have := s4 (p + j) (by omega) (by omega)
      omega
    simp only [if_pos hc] at ha
    have g80 : tw_pb μ m (p + j) q m 80 = nI (p + j) := tw_pb_80
    simp only [l32, ↓ha, n10, g80, tl_0, tl_1, nI_add, Nat.add_assoc, tw_pb_p, ↓MoV0 hM, ↓MoI0_70 hM, ↓MoP0_70 hM, ↓MoZ0_70 hM, ↓MoG0_71 hM, ↓MoG0_72 hM, ↓MoG0_73 hM, ↓MoG0_74 hM, ↓MoG0_75 hM, ↓MoI0_76 hM, ↓MoP0_76 hM, ↓MoZ0_76 hM, ↓MoI0_77 hM, ↓MoP0_77 hM, ↓MoZ0_77 hM, ↓MoG0_78 hM, ↓MoI0_79 hM, ↓MoP0_79 hM, ↓MoZ0_79 hM, ↓MoI0_80 hM, ↓MoP0_80 hM, ↓MoZ0_80 hM, ↓MoI0_81 hM, ↓MoP0_81 hM, ↓MoZ0_81 hM, ↓MoI0_82 hM, ↓MoP0_82 hM, ↓MoZ0_82 hM, ↓MoI0_83 hM, ↓MoP0_83 hM, ↓MoZ0_83 hM, ↓MoI0_84 hM, ↓MoP0_84 hM, ↓MoZ0_84 hM, ↓MoG0_85 hM, ↓MoI0_86 hM, ↓MoP0_86 hM, ↓MoZ0_86 hM, ↓MoG0_87 hM, ↓MoI0_88 hM, ↓MoP0_88 hM, ↓MoZ0_88 hM, ↓MoG0_89 hM, ↓MoG0_90 hM, ↓MoG0_91 hM, ↓MoG0_92 hM, ↓MoL0 hM, ↓MoS0 hM, ↓MoL1 hM, ↓MoS1 hM, ↓MoL2 hM, ↓MoS2 hM, ↓MoL3 hM, ↓MoS3 hM, ↓MoL4 hM, ↓MoS4 hM, ↓MoL5 hM, ↓MoS5 hM, ↓MoL6 hM, ↓MoS6 hM, ↓MoL7 hM, ↓MoS7 hM, ↓MoL8 hM, ↓MoS8 hM, ↓MoL9 hM, ↓MoS9 hM, ↓MoL10 hM, ↓MoS10 hM, ↓MoL11 hM, ↓MoS11 hM, ↓A_if, ↓A_jn, ↓A_lt, ↓A_rz, ↓A_rn, ↓A_nzi, ↓A_nzl, ↓A_nn1, ↓A_nn0, ↓reduceIte, true_and, and_true, if_true, if_false, ite_true, ite_false, reduceIte]
  · have ha := fun k => m_isAt1 (la := la) (n := n) (p := p + N) (q := q) h (by omega) (lo := 32) (hi := 32) (by omega) (by omega) (by omega) k
    have hc : ¬ (p + N < e ∧ 32 ≤ B (p + N) ∧ B (p + N) ≤ 32) := by
      rcases s3 with s3 | s3 <;> omega
    simp only [if_neg hc] at ha
    have g80 : tw_pb μ m (p + N) q m 80 = nI (p + N) := tw_pb_80
    simp only [l32, ↓ha, g80, tl_0, tl_1, tw_pb_q, ↓MoV0 hM, ↓MoI0_70 hM, ↓MoP0_70 hM, ↓MoZ0_70 hM, ↓MoG0_71 hM, ↓MoG0_72 hM, ↓MoG0_73 hM, ↓MoG0_74 hM, ↓MoG0_75 hM, ↓MoI0_76 hM, ↓MoP0_76 hM, ↓MoZ0_76 hM, ↓MoI0_77 hM, ↓MoP0_77 hM, ↓MoZ0_77 hM, ↓MoG0_78 hM, ↓MoI0_79 hM, ↓MoP0_79 hM, ↓MoZ0_79 hM, ↓MoI0_80 hM, ↓MoP0_80 hM, ↓MoZ0_80 hM, ↓MoI0_81 hM, ↓MoP0_81 hM, ↓MoZ0_81 hM, ↓MoI0_82 hM, ↓MoP0_82 hM, ↓MoZ0_82 hM, ↓MoI0_83 hM, ↓MoP0_83 hM, ↓MoZ0_83 hM, ↓MoI0_84 hM, ↓MoP0_84 hM, ↓MoZ0_84 hM, ↓MoG0_85 hM, ↓MoI0_86 hM, ↓MoP0_86 hM, ↓MoZ0_86 hM, ↓MoG0_87 hM, ↓MoI0_88 hM, ↓MoP0_88 hM, ↓MoZ0_88 hM, ↓MoG0_89 hM, ↓MoG0_90 hM, ↓MoG0_91 hM, ↓MoG0_92 hM, ↓MoL0 hM, ↓MoS0 hM, ↓MoL1 hM, ↓MoS1 hM, ↓MoL2 hM, ↓MoS2 hM, ↓MoL3 hM, ↓MoS3 hM, ↓MoL4 hM, ↓MoS4 hM, ↓MoL5 hM, ↓MoS5 hM, ↓MoL6 hM, ↓MoS6 hM, ↓MoL7 hM, ↓MoS7 hM, ↓MoL8 hM, ↓MoS8 hM, ↓MoL9 hM, ↓MoS9 hM, ↓MoL10 hM, ↓MoS10 hM, ↓MoL11 hM, ↓MoS11 hM, ↓A_if, ↓A_jn, ↓A_lt, ↓A_rz, ↓A_rn, ↓A_nzi, ↓A_nzl, ↓A_nn1, ↓A_nn0, ↓reduceIte, true_and, and_true, if_true, if_false, ite_true, ite_false, reduceIte]
/-- where the letters end, where the digits end -/
def tw_tle (B : Nat → Nat) (e x : Nat) : Nat := if tw_tk B e x = 1 then tw_te B e x else x
def tw_tde (B : Nat → Nat) (e x : Nat) : Nat := if tw_tk B e x = 2 then tw_te B e x else x
theorem tw_skp_0 {f : Nat → Bool} {d x : Nat} (h : d = 0 ∨ f x = false) : tw_skp f d x = x := tw_skp_u (Nat.le_refl x) (by omega) (fun y a b => by omega) (by rcases h with h | h; exact Or.inl (by omega); exact Or.inr h)
theorem tw_tle_e (B : Nat → Nat) {e x : Nat} (h : x ≤ e) : tw_tle B e x = tw_skp (tw_le B) (e - x) x := by
  unfold tw_tle tw_tk tw_te
  by_cases q1 : e ≤ x
  · rw [if_pos q1, if_neg (by omega), tw_skp_0 (Or.inl (by omega))]
  · rw [if_neg q1, if_neg q1]
    by_cases q2 : tw_le B x = true
    · rw [if_pos q2, if_pos rfl, if_pos q2]
    · rw [if_neg q2, tw_skp_0 (Or.inr (by simpa using q2))]
      by_cases q3 : tw_dg B x = true
      · rw [if_pos q3, if_neg (by omega)]
      · rw [if_neg q3, if_neg (by omega)]
theorem tw_tde_e (B : Nat → Nat) {e x : Nat} (h : x ≤ e) : tw_tde B e x = tw_skp (tw_dg B) (e - x) x := by
  unfold tw_tde tw_tk tw_te
  by_cases q1 : e ≤ x
  · rw [if_pos q1, if_neg (by omega), tw_skp_0 (Or.inl (by omega))]
  · rw [if_neg q1, if_neg q1]
    by_cases q2 : tw_le B x = true
    · have q3 : tw_dg B x = false := by
        have h1 : 97 ≤ B x ∧ B x ≤ 122 := of_decide_eq_true q2
        exact decide_eq_false (by omega)
      rw [if_pos q2, if_neg (by omega), tw_skp_0 (Or.inr q3)]
    · rw [if_neg q2]
      by_cases q3 : tw_dg B x = true
      · rw [if_pos q3, if_pos rfl, if_neg q2, if_pos q3]
      · rw [if_neg q3, if_neg (by omega), tw_skp_0 (Or.inr (by simpa using q3))]
theorem m_lettersL (h : tw_Mt sh μ m B e) (hx : x ≤ e) (k : Unit → tw_Mem → Prop) : tw_lp (fun (r2 : Unit → tw_Mem → Prop) (s3 : Unit) => tw_iv 11 m (f_X12_isAt m (97 : Int32) (122 : Int32) (fun x4 => tw_if (x4 = 0) (k ()) (tw_gi 80 m fun x5 => tw_pi 80 m (x5 + (1 : Int32)) (r2 ()))))) () (sh, tw_pb μ m x x, la, n) = k () (sh, tw_pb μ m (tw_tle B e x) x, la, n) := by
  obtain ⟨s1, s2, s3, s4⟩ := tw_skp_s (tw_le B) (e - x) x
  rw [← tw_tle_e B hx] at s1 s2 s3 s4
  have hM := h.1
  have he := h.2.2.1
  obtain ⟨N, hN⟩ : ∃ N, tw_tle B e x = x + N := ⟨tw_tle B e x - x, by omega⟩
  have l97 : (97 : Int32) = nI 97 := rfl
  have l122 : (122 : Int32) = nI 122 := rfl
  have n10 : ¬ nI 1 = nI 0 := by decide
  rw [hN] at s1 s2 s3 s4 ⊢
  refine tw_lp_for N (fun _ => ()) (fun j => (sh, tw_pb μ m (x + j) x, la, n)) rfl rfl (fun j hj rec => ?_) (fun rec => ?_)
  · have ha := fun k => m_isAt1 (la := la) (n := n) (p := x + j) (q := x) h (by omega) (lo := 97) (hi := 122) (by omega) (by omega) (by omega) k
    have hc : x + j < e ∧ 97 ≤ B (x + j) ∧ B (x + j) ≤ 122 := by
      have g : 97 ≤ B (x + j) ∧ B (x + j) ≤ 122 := of_decide_eq_true (s3 (x + j) (by omega) (by omega))
      omega
    simp only [if_pos hc] at ha
    have g80 : tw_pb μ m (x + j) x m 80 = nI (x + j) := tw_pb_80
    simp only [l97, l122, ↓ha, n10, g80, tl_0, tl_1, nI_add, Nat.add_assoc, tw_pb_p, ↓MoV0 hM, ↓MoI0_70 hM, ↓MoP0_70 hM, ↓MoZ0_70 hM, ↓MoG0_71 hM, ↓MoG0_72 hM, ↓MoG0_73 hM, ↓MoG0_74 hM, ↓MoG0_75 hM, ↓MoI0_76 hM, ↓MoP0_76 hM, ↓MoZ0_76 hM, ↓MoI0_77 hM, ↓MoP0_77 hM, ↓MoZ0_77 hM, ↓MoG0_78 hM, ↓MoI0_79 hM, ↓MoP0_79 hM, ↓MoZ0_79 hM, ↓MoI0_80 hM, ↓MoP0_80 hM, ↓MoZ0_80 hM, ↓MoI0_81 hM, ↓MoP0_81 hM, ↓MoZ0_81 hM, ↓MoI0_82 hM, ↓MoP0_82 hM, ↓MoZ0_82 hM, ↓MoI0_83 hM, ↓MoP0_83 hM, ↓MoZ0_83 hM, ↓MoI0_84 hM, ↓MoP0_84 hM, ↓MoZ0_84 hM, ↓MoG0_85 hM, ↓MoI0_86 hM, ↓MoP0_86 hM, ↓MoZ0_86 hM, ↓MoG0_87 hM, ↓MoI0_88 hM, ↓MoP0_88 hM, ↓MoZ0_88 hM, ↓MoG0_89 hM, ↓MoG0_90 hM, ↓MoG0_91 hM, ↓MoG0_92 hM, ↓MoL0 hM, ↓MoS0 hM, ↓MoL1 hM, ↓MoS1 hM, ↓MoL2 hM, ↓MoS2 hM, ↓MoL3 hM, ↓MoS3 hM, ↓MoL4 hM, ↓MoS4 hM, ↓MoL5 hM, ↓MoS5 hM, ↓MoL6 hM, ↓MoS6 hM, ↓MoL7 hM, ↓MoS7 hM, ↓MoL8 hM, ↓MoS8 hM, ↓MoL9 hM, ↓MoS9 hM, ↓MoL10 hM, ↓MoS10 hM, ↓MoL11 hM, ↓MoS11 hM, ↓A_if, ↓A_jn, ↓A_lt, ↓A_rz, ↓A_rn, ↓A_nzi, ↓A_nzl, ↓A_nn1, ↓A_nn0, ↓reduceIte, true_and, and_true, if_true, if_false, ite_true, ite_false, reduceIte]
  · have ha := fun k => m_isAt1 (la := la) (n := n) (p := x + N) (q := x) h (by omega) (lo := 97) (hi := 122) (by omega) (by omega) (by omega) k
    have hc : ¬ (x + N < e ∧ 97 ≤ B (x + N) ∧ B (x + N) ≤ 122) := by
      rcases s4 with s4 | s4
      · omega
      · have g : ¬ (97 ≤ B (x + N) ∧ B (x + N) ≤ 122) := of_decide_eq_false s4
        omega
    simp only [if_neg hc] at ha
    simp only [l97, l122, ↓ha, tl_0, tl_1, ↓MoV0 hM, ↓MoI0_70 hM, ↓MoP0_70 hM, ↓MoZ0_70 hM, ↓MoG0_71 hM, ↓MoG0_72 hM, ↓MoG0_73 hM, ↓MoG0_74 hM, ↓MoG0_75 hM, ↓MoI0_76 hM, ↓MoP0_76 hM, ↓MoZ0_76 hM, ↓MoI0_77 hM, ↓MoP0_77 hM, ↓MoZ0_77 hM, ↓MoG0_78 hM, ↓MoI0_79 hM, ↓MoP0_79 hM, ↓MoZ0_79 hM, ↓MoI0_80 hM, ↓MoP0_80 hM, ↓MoZ0_80 hM, ↓MoI0_81 hM, ↓MoP0_81 hM, ↓MoZ0_81 hM, ↓MoI0_82 hM, ↓MoP0_82 hM, ↓MoZ0_82 hM, ↓MoI0_83 hM, ↓MoP0_83 hM, ↓MoZ0_83 hM, ↓MoI0_84 hM, ↓MoP0_84 hM, ↓MoZ0_84 hM, ↓MoG0_85 hM, ↓MoI0_86 hM, ↓MoP0_86 hM, ↓MoZ0_86 hM, ↓MoG0_87 hM, ↓MoI0_88 hM, ↓MoP0_88 hM, ↓MoZ0_88 hM, ↓MoG0_89 hM, ↓MoG0_90 hM, ↓MoG0_91 hM, ↓MoG0_92 hM, ↓MoL0 hM, ↓MoS0 hM, ↓MoL1 hM, ↓MoS1 hM, ↓MoL2 hM, ↓MoS2 hM, ↓MoL3 hM, ↓MoS3 hM, ↓MoL4 hM, ↓MoS4 hM, ↓MoL5 hM, ↓MoS5 hM, ↓MoL6 hM, ↓MoS6 hM, ↓MoL7 hM, ↓MoS7 hM, ↓MoL8 hM, ↓MoS8 hM, ↓MoL9 hM, ↓MoS9 hM, ↓MoL10 hM, ↓MoS10 hM, ↓MoL11 hM, ↓MoS11 hM, ↓A_if, ↓A_jn, ↓A_lt, ↓A_rz, ↓A_rn, ↓A_nzi, ↓A_nzl, ↓A_nn1, ↓A_nn0, ↓reduceIte, true_and, and_true, if_true, if_false, ite_true, ite_false, reduceIte]
/-- where the model stands: ahead of thing i -/
def tw_on (B : Nat → Nat) (e i p : Nat) : Prop := tw_tp B e i ≤ p ∧ p ≤ tw_tg B e i
theorem tw_on_e (h : tw_on B e i p) : p ≤ e ∧ tw_tbb B e p = tw_tg B e i ∧ tw_tg B e i ≤ e := by
  have h1 := tw_tbb_s B (tw_tp_s B e i)
  exact ⟨Nat.le_trans h.2 h1.2.1, tw_tbb_m (tw_tp_s B e i) h.1 h.2, h1.2.1⟩
theorem tw_on_p (B : Nat → Nat) (e i : Nat) : tw_on B e i (tw_tp B e i) := ⟨Nat.le_refl _, (tw_tbb_s B (tw_tp_s B e i)).1⟩
theorem tw_on_g (B : Nat → Nat) (e i : Nat) : tw_on B e i (tw_tg B e i) := ⟨(tw_tbb_s B (tw_tp_s B e i)).1, Nat.le_refl _⟩
theorem m_letters1 (h : tw_Mt sh μ m B e) (ho : tw_on B e i p) (k : Unit → tw_Mem → Prop) : f_X12_letters m k (sh, tw_pb μ m p q, la, n) = k () (sh, tw_pb μ m (tw_tle B e (tw_tg B e i)) (tw_tg B e i), la, n) := by
  obtain ⟨o1, o2, o3⟩ := tw_on_e ho
  have hM := h.1
  unfold f_X12_letters
  rw [MoV0 hM, m_blanks1 h o1, o2, m_lettersL h o3]
theorem m_blanks2 (h : tw_Mt sh μ m B e) (ho : tw_on B e i p) (k : Unit → tw_Mem → Prop) : f_X12_blanks m k (sh, tw_pb μ m p q, la, n) = k () (sh, tw_pb μ m (tw_tg B e i) (tw_tg B e i), la, n) := by
  obtain ⟨o1, o2, o3⟩ := tw_on_e ho
  rw [m_blanks1 h o1, o2]
theorem m_isWord1 (h : tw_Mt sh μ m B e) (hG : tw_GH G sh μ b) (hbm : b ≤ m) (S : tw_Sw G b a tx) (k : Int32 → tw_Mem → Prop) : f_X12_isWord m a k (sh, tw_pb μ m (tw_tle B e (tw_tg B e i)) (tw_tg B e i), la, n) = if tw_kd B e i = 1 ∧ tw_vd B e i = tw_wc tx then k (nI 1) (sh, tw_pb μ m (tw_tle B e (tw_tg B e i)) (tw_tg B e i), la, n) else k (nI 0) (sh, tw_pb μ m (tw_tle B e (tw_tg B e i)) (tw_tg B e i), la, n) := by
  have hge : tw_tg B e i ≤ e := (tw_tbb_s B (tw_tp_s B e i)).2.1
  have hw := tw_words_s tx S.2.1
  unfold tw_kd tw_vd
  generalize tw_tg B e i = x at *
  obtain ⟨s1, s2, s3, s4⟩ := tw_skp_s (tw_le B) (e - x) x
  rw [← tw_tle_e B hge] at s1 s2 s3 s4
  obtain ⟨N, hN⟩ : ∃ N, tw_tle B e x = x + N := ⟨tw_tle B e x - x, by omega⟩
  rw [hN] at s2 s3 s4 ⊢
  obtain ⟨hM, e81, he, hb6, hB⟩ := tw_Mt_pb (p := x + N) (q := x) h
  have hG' : tw_GH G sh (tw_pb μ m (x + N) x) b := fun y hy => ⟨(hG y hy).1, by rw [tw_pb_n (by omega)]; exact (hG y hy).2⟩
  have g80 : tw_pb μ m (x + N) x m 80 = nI (x + N) := tw_pb_80
  have g82 : tw_pb μ m (x + N) x m 82 = nI x := tw_pb_82
  have es : nI (x + N) - nI x = nI N := by rw [nz_sub (by omega), Nat.add_sub_cancel_left]
  have h6 : tw_ar sh (m + 6) 2 400 := hM.2.2.2.2.2.2.1
  have hlet : ∀ j, j < N → 97 ≤ B (x + j) ∧ B (x + j) ≤ 122 := fun j hj => of_decide_eq_true (s3 (x + j) (by omega) (by omega))
  have hK : tw_tk B e x = 1 → 0 < N ∧ tw_tv B e x = if N ≤ 6 then tw_wo B x N else 0 := fun hk => by
    have hte : tw_te B e x = x + N := by rw [← hN]; unfold tw_tle; rw [if_pos hk]
    have hxe : ¬ e ≤ x := fun g => by unfold tw_tk at hk; rw [if_pos g] at hk; omega
    have hlx : tw_le B x = true := by
      cases hh : tw_le B x
      · unfold tw_tk at hk
        rw [if_neg hxe, hh, if_neg (by decide)] at hk
        split at hk <;> omega
      · rfl
    have h0 := (tw_te_s B hge).2.2 (by omega)
    refine ⟨by omega, ?_⟩
    unfold tw_tv
    rw [if_neg hxe, if_pos hlx, hte, Nat.add_sub_cancel_left]
  have hK0 : ¬ tw_tk B e x = 1 → N = 0 := fun hk => by
    have : tw_tle B e x = x := if_neg hk
    omega
  have hcond : (tw_tk B e x = 1 ∧ tw_tv B e x = tw_wc tx) ↔ (N = tw_wln tx ∧ ∀ j, j < N → B (x + j) = tw_ch tx j) := by
    constructor
    · rintro ⟨hk, hv⟩
      obtain ⟨h0, hv2⟩ := hK hk
      by_cases h6 : N ≤ 6
      · rw [hv2, if_pos h6] at hv
        obtain ⟨e1, e2⟩ := tw_wo_inj (B := B) (C := tw_ch tx) (x := x) (y := 0) N (tw_wln tx) hlet (fun j hj => by rw [Nat.zero_add]; exact hw.2.2 j hj) hv
        refine ⟨e1, fun j hj => ?_⟩
        have := e2 j hj
        rw [Nat.zero_add] at this
        exact this
      · rw [hv2, if_neg h6] at hv
        have : tw_wc tx ≠ 0 := by
          obtain ⟨l, hl⟩ : ∃ l, tw_wln tx = l + 1 := ⟨tw_wln tx - 1, by omega⟩
          unfold tw_wc
          rw [hl]
          show 32 * _ + (tw_ch tx (0 + l) - 96) ≠ 0
          have := hw.2.2 l (by omega)
          rw [Nat.zero_add]
          omega
        omega
    · rintro ⟨hn, hc⟩
      have hk : tw_tk B e x = 1 := by
        cases Nat.decEq (tw_tk B e x) 1 with
        | isTrue h => exact h
        | isFalse h => have := hK0 h; omega
      obtain ⟨h0, hv2⟩ := hK hk
      refine ⟨hk, ?_⟩
      rw [hv2, if_pos (by omega)]
      unfold tw_wc
      rw [← hn]
      have : ∀ l, l ≤ N → tw_wo B x l = tw_wo (tw_ch tx) 0 l := by
        intro l
        induction l with
        | zero => intro _; rfl
        | succ l ih =>
          intro hl
          show 32 * tw_wo B x l + (B (x + l) - 96) = 32 * tw_wo (tw_ch tx) 0 l + (tw_ch tx (0 + l) - 96)
          rw [ih (by omega), hc l (by omega), Nat.zero_add]
      exact this N (Nat.le_refl N)
  have n10 : ¬ nI 1 = nI 0 := by decide
  unfold f_X12_isWord
  by_cases ql : N = tw_wln tx
  · -- as long as the word: as many steps as are alike
    obtain ⟨d, hd1, hd2, hd3⟩ : ∃ d, d ≤ N ∧ (∀ j, j < d → B (x + j) = tw_ch tx j) ∧ (d = N ∨ (d < N ∧ B (x + d) ≠ tw_ch tx d)) := by
      have hs := tw_skp_s (fun y => decide (B (x + y) = tw_ch tx y)) N 0
      refine ⟨_, by have := hs.2.1; omega, fun j hj => of_decide_eq_true (hs.2.2.1 j (Nat.zero_le j) hj), ?_⟩
      rcases hs.2.2.2 with g | g
      · exact Or.inl (by omega)
      · rcases Nat.lt_or_ge (tw_skp (fun y => decide (B (x + y) = tw_ch tx y)) N 0) N with g2 | g2
        · exact Or.inr ⟨g2, of_decide_eq_false g⟩
        · exact Or.inl (by have := hs.2.1; omega)
    have ql' : nI N = nI (tw_wln tx) := by rw [ql]
    have hlb : ∀ j, j < N → ∀ F : Int32 → tw_Mem → Prop, tw_lb (m + 6) (nI (x + j)) F (sh, tw_pb μ m (x + N) x, la, n) = F (nI (B (x + j))) (sh, tw_pb μ m (x + N) x, la, n) := fun j hj F => by
      have h1 := hlet j hj
      rw [X_lb h6 (by omega) (by decide), hb6 _ (by omega), tw_sgn _ (by omega), if_pos (by omega)]
    simp only [g80, g82, es, ↓c_ij hG' S, ↓c_len hG' S, ql', tl_1, tl_0, ↓MoV0 hM, ↓MoI0_70 hM, ↓MoP0_70 hM, ↓MoZ0_70 hM, ↓MoG0_71 hM, ↓MoG0_72 hM, ↓MoG0_73 hM, ↓MoG0_74 hM, ↓MoG0_75 hM, ↓MoI0_76 hM, ↓MoP0_76 hM, ↓MoZ0_76 hM, ↓MoI0_77 hM, ↓MoP0_77 hM, ↓MoZ0_77 hM, ↓MoG0_78 hM, ↓MoI0_79 hM, ↓MoP0_79 hM, ↓MoZ0_79 hM, ↓MoI0_80 hM, ↓MoP0_80 hM, ↓MoZ0_80 hM, ↓MoI0_81 hM, ↓MoP0_81 hM, ↓MoZ0_81 hM, ↓MoI0_82 hM, ↓MoP0_82 hM, ↓MoZ0_82 hM, ↓MoI0_83 hM, ↓MoP0_83 hM, ↓MoZ0_83 hM, ↓MoI0_84 hM, ↓MoP0_84 hM, ↓MoZ0_84 hM, ↓MoG0_85 hM, ↓MoI0_86 hM, ↓MoP0_86 hM, ↓MoZ0_86 hM, ↓MoG0_87 hM, ↓MoI0_88 hM, ↓MoP0_88 hM, ↓MoZ0_88 hM, ↓MoG0_89 hM, ↓MoG0_90 hM, ↓MoG0_91 hM, ↓MoG0_92 hM, ↓MoL0 hM, ↓MoS0 hM, ↓MoL1 hM, ↓MoS1 hM, ↓MoL2 hM, ↓MoS2 hM, ↓MoL3 hM, ↓MoS3 hM, ↓MoL4 hM, ↓MoS4 hM, ↓MoL5 hM, ↓MoS5 hM, ↓MoL6 hM, ↓MoS6 hM, ↓MoL7 hM, ↓MoS7 hM, ↓MoL8 hM, ↓MoS8 hM, ↓MoL9 hM, ↓MoS9 hM, ↓MoL10 hM, ↓MoS10 hM, ↓MoL11 hM, ↓MoS11 hM, ↓A_if, ↓A_jn, ↓A_lt, ↓A_rz, ↓A_rn, ↓A_nzi, ↓A_nzl, ↓A_nn1, ↓A_nn0, ↓reduceIte, true_and, and_true, if_true, if_false, ite_true, ite_false, reduceIte]
    rcases hd3 with hd3 | ⟨hd3, hd4⟩
    · have hc : tw_tk B e x = 1 ∧ tw_tv B e x = tw_wc tx := hcond.mpr ⟨ql, fun j hj => hd2 j (by omega)⟩
      rw [if_pos hc]
      refine tw_lp_for N (fun j => (nI 1, nI j)) (fun _ => (sh, tw_pb μ m (x + N) x, la, n)) rfl rfl (fun j hj rec => ?_) (fun rec => ?_)
      · have hjl : nI j < nI (tw_wln tx) := by rw [nz_lt (by omega) (by omega)]; omega
        have hch := fun k => c_chr (la := la) (n := n) hG' S (j := j) (by omega) k
        have he : nI (B (x + j)) = nI (tw_ch tx j) := by rw [hd2 j (by omega)]
        have hlj := hlb j hj
        simp only [n10, g82, ↓c_ij hG' S, ↓c_len hG' S, hjl, ↓hlj, ↓hch, he, tl_1, tl_0, nI_add, ↓MoV0 hM, ↓MoI0_70 hM, ↓MoP0_70 hM, ↓MoZ0_70 hM, ↓MoG0_71 hM, ↓MoG0_72 hM, ↓MoG0_73 hM, ↓MoG0_74 hM, ↓MoG0_75 hM, ↓MoI0_76 hM, ↓MoP0_76 hM, ↓MoZ0_76 hM, ↓MoI0_77 hM, ↓MoP0_77 hM, ↓MoZ0_77 hM, ↓MoG0_78 hM, ↓MoI0_79 hM, ↓MoP0_79 hM, ↓MoZ0_79 hM, ↓MoI0_80 hM, ↓MoP0_80 hM, ↓MoZ0_80 hM, ↓MoI0_81 hM, ↓MoP0_81 hM, ↓MoZ0_81 hM, ↓MoI0_82 hM, ↓MoP0_82 hM, ↓MoZ0_82 hM, ↓MoI0_83 hM, ↓MoP0_83 hM, ↓MoZ0_83 hM, ↓MoI0_84 hM, ↓MoP0_84 hM, ↓MoZ0_84 hM, ↓MoG0_85 hM, ↓MoI0_86 hM, ↓MoP0_86 hM, ↓MoZ0_86 hM, ↓MoG0_87 hM, ↓MoI0_88 hM, ↓MoP0_88 hM, ↓MoZ0_88 hM, ↓MoG0_89 hM, ↓MoG0_90 hM, ↓MoG0_91 hM, ↓MoG0_92 hM, ↓MoL0 hM, ↓MoS0 hM, ↓MoL1 hM, ↓MoS1 hM, ↓MoL2 hM, ↓MoS2 hM, ↓MoL3 hM, ↓MoS3 hM, ↓MoL4 hM, ↓MoS4 hM, ↓MoL5 hM, ↓MoS5 hM, ↓MoL6 hM, ↓MoS6 hM, ↓MoL7 hM, ↓MoS7 hM, ↓MoL8 hM, ↓MoS8 hM, ↓MoL9 hM, ↓MoS9 hM, ↓MoL10 hM, ↓MoS10 hM, ↓MoL11 hM, ↓MoS11 hM, ↓A_if, ↓A_jn, ↓A_lt, ↓A_rz, ↓A_rn, ↓A_nzi, ↓A_nzl, ↓A_nn1, ↓A_nn0, ↓reduceIte, true_and, and_true, if_true, if_false, ite_true, ite_false, reduceIte]
      · have hjl : ¬ nI N < nI (tw_wln tx) := by rw [nz_lt (by omega) (by omega)]; omega
        simp only [n10, ↓c_ij hG' S, ↓c_len hG' S, hjl, or_true, true_or, tl_1, tl_0, ↓MoV0 hM, ↓MoI0_70 hM, ↓MoP0_70 hM, ↓MoZ0_70 hM, ↓MoG0_71 hM, ↓MoG0_72 hM, ↓MoG0_73 hM, ↓MoG0_74 hM, ↓MoG0_75 hM, ↓MoI0_76 hM, ↓MoP0_76 hM, ↓MoZ0_76 hM, ↓MoI0_77 hM, ↓MoP0_77 hM, ↓MoZ0_77 hM, ↓MoG0_78 hM, ↓MoI0_79 hM, ↓MoP0_79 hM, ↓MoZ0_79 hM, ↓MoI0_80 hM, ↓MoP0_80 hM, ↓MoZ0_80 hM, ↓MoI0_81 hM, ↓MoP0_81 hM, ↓MoZ0_81 hM, ↓MoI0_82 hM, ↓MoP0_82 hM, ↓MoZ0_82 hM, ↓MoI0_83 hM, ↓MoP0_83 hM, ↓MoZ0_83 hM, ↓MoI0_84 hM, ↓MoP0_84 hM, ↓MoZ0_84 hM, ↓MoG0_85 hM, ↓MoI0_86 hM, ↓MoP0_86 hM, ↓MoZ0_86 hM, ↓MoG0_87 hM, ↓MoI0_88 hM, ↓MoP0_88 hM, ↓MoZ0_88 hM, ↓MoG0_89 hM, ↓MoG0_90 hM, ↓MoG0_91 hM, ↓MoG0_92 hM, ↓MoL0 hM, ↓MoS0 hM, ↓MoL1 hM, ↓MoS1 hM, ↓MoL2 hM, ↓MoS2 hM, ↓MoL3 hM, ↓MoS3 hM, ↓MoL4 hM, ↓MoS4 hM, ↓MoL5 hM, ↓MoS5 hM, ↓MoL6 hM, ↓MoS6 hM, ↓MoL7 hM, ↓MoS7 hM, ↓MoL8 hM, ↓MoS8 hM, ↓MoL9 hM, ↓MoS9 hM, ↓MoL10 hM, ↓MoS10 hM, ↓MoL11 hM, ↓MoS11 hM, ↓A_if, ↓A_jn, ↓A_lt, ↓A_rz, ↓A_rn, ↓A_nzi, ↓A_nzl, ↓A_nn1, ↓A_nn0, ↓reduceIte, true_and, and_true, if_true, if_false, ite_true, ite_false, reduceIte]
    · have hc : ¬ (tw_tk B e x = 1 ∧ tw_tv B e x = tw_wc tx) := fun g => hd4 ((hcond.mp g).2 d hd3)
      rw [if_neg hc]
      refine tw_lp_for (d + 1) (fun j => (if j ≤ d then nI 1 else nI 0, nI j)) (fun _ => (sh, tw_pb μ m (x + N) x, la, n)) (by rw [if_pos (Nat.zero_le d)]) rfl (fun j hj rec => ?_) (fun rec => ?_)
      · have hjl : nI j < nI (tw_wln tx) := by rw [nz_lt (by omega) (by omega)]; omega
        have hch := fun k => c_chr (la := la) (n := n) hG' S (j := j) (by omega) k
        have hlj := hlb j (by omega)
        have hjd : j ≤ d := by omega
        have hbl := hlet j (by omega)
        have hcl := hw.2.2 j (by omega)
        by_cases ej : j = d
        · subst ej
          have he : ¬ nI (B (x + j)) = nI (tw_ch tx j) := by rw [nz_eq (by omega) (by omega)]; exact hd4
          have hj2 : ¬ j + 1 ≤ j := by omega
          simp only [hjd, hj2, if_true, if_false, n10, g82, ↓c_ij hG' S, ↓c_len hG' S, hjl, ↓hlj, ↓hch, he, tl_1, tl_0, nI_add, ↓MoV0 hM, ↓MoI0_70 hM, ↓MoP0_70 hM, ↓MoZ0_70 hM, ↓MoG0_71 hM, ↓MoG0_72 hM, ↓MoG0_73 hM, ↓MoG0_74 hM, ↓MoG0_75 hM, ↓MoI0_76 hM, ↓MoP0_76 hM, ↓MoZ0_76 hM, ↓MoI0_77 hM, ↓MoP0_77 hM, ↓MoZ0_77 hM, ↓MoG0_78 hM, ↓MoI0_79 hM, ↓MoP0_79 hM, ↓MoZ0_79 hM, ↓MoI0_80 hM, ↓MoP0_80 hM, ↓MoZ0_80 hM, ↓MoI0_81 hM, ↓MoP0_81 hM, ↓MoZ0_81 hM, ↓MoI0_82 hM, ↓MoP0_82 hM, ↓MoZ0_82 hM, ↓MoI0_83 hM, ↓MoP0_83 hM, ↓MoZ0_83 hM, ↓MoI0_84 hM, ↓MoP0_84 hM, ↓MoZ0_84 hM, ↓MoG0_85 hM, ↓MoI0_86 hM, ↓MoP0_86 hM, ↓MoZ0_86 hM, ↓MoG0_87 hM, ↓MoI0_88 hM, ↓MoP0_88 hM, ↓MoZ0_88 hM, ↓MoG0_89 hM, ↓MoG0_90 hM, ↓MoG0_91 hM, ↓MoG0_92 hM, ↓MoL0 hM, ↓MoS0 hM, ↓MoL1 hM, ↓MoS1 hM, ↓MoL2 hM, ↓MoS2 hM, ↓MoL3 hM, ↓MoS3 hM, ↓MoL4 hM, ↓MoS4 hM, ↓MoL5 hM, ↓MoS5 hM, ↓MoL6 hM, ↓MoS6 hM, ↓MoL7 hM, ↓MoS7 hM, ↓MoL8 hM, ↓MoS8 hM, ↓MoL9 hM, ↓MoS9 hM, ↓MoL10 hM, ↓MoS10 hM, ↓MoL11 hM, ↓MoS11 hM, ↓A_if, ↓A_jn, ↓A_lt, ↓A_rz, ↓A_rn, ↓A_nzi, ↓A_nzl, ↓A_nn1, ↓A_nn0, ↓reduceIte, true_and, and_true, if_true, if_false, ite_true, ite_false, reduceIte]
        · have he : nI (B (x + j)) = nI (tw_ch tx j) := by rw [hd2 j (by omega)]
          have hj2 : j + 1 ≤ d := by omega
          simp only [hjd, hj2, if_true, if_false, n10, g82, ↓c_ij hG' S, ↓c_len hG' S, hjl, ↓hlj, ↓hch, he, tl_1, tl_0, nI_add, ↓MoV0 hM, ↓MoI0_70 hM, ↓MoP0_70 hM, ↓MoZ0_70 hM, ↓MoG0_71 hM, ↓MoG0_72 hM, ↓MoG0_73 hM, ↓MoG0_74 hM, ↓MoG0_75 hM, ↓MoI0_76 hM, ↓MoP0_76 hM, ↓MoZ0_76 hM, ↓MoI0_77 hM, ↓MoP0_77 hM, ↓MoZ0_77 hM, ↓MoG0_78 hM, ↓MoI0_79 hM, ↓MoP0_79 hM, ↓MoZ0_79 hM, ↓MoI0_80 hM, ↓MoP0_80 hM, ↓MoZ0_80 hM, ↓MoI0_81 hM, ↓MoP0_81 hM, ↓MoZ0_81 hM, ↓MoI0_82 hM, ↓MoP0_82 hM, ↓MoZ0_82 hM, ↓MoI0_83 hM, ↓MoP0_83 hM, ↓MoZ0_83 hM, ↓MoI0_84 hM, ↓MoP0_84 hM, ↓MoZ0_84 hM, ↓MoG0_85 hM, ↓MoI0_86 hM, ↓MoP0_86 hM, ↓MoZ0_86 hM, ↓MoG0_87 hM, ↓MoI0_88 hM, ↓MoP0_88 hM, ↓MoZ0_88 hM, ↓MoG0_89 hM, ↓MoG0_90 hM, ↓MoG0_91 hM, ↓MoG0_92 hM, ↓MoL0 hM, ↓MoS0 hM, ↓MoL1 hM, ↓MoS1 hM, ↓MoL2 hM, ↓MoS2 hM, ↓MoL3 hM, ↓MoS3 hM, ↓MoL4 hM, ↓MoS4 hM, ↓MoL5 hM, ↓MoS5 hM, ↓MoL6 hM, ↓MoS6 hM, ↓MoL7 hM, ↓MoS7 hM, ↓MoL8 hM, ↓MoS8 hM, ↓MoL9 hM, ↓MoS9 hM, ↓MoL10 hM, ↓MoS10 hM, ↓MoL11 hM, ↓MoS11 hM, ↓A_if, ↓A_jn, ↓A_lt, ↓A_rz, ↓A_rn, ↓A_nzi, ↓A_nzl, ↓A_nn1, ↓A_nn0, ↓reduceIte, true_and, and_true, if_true, if_false, ite_true, ite_false, reduceIte]
      · have hj2 : ¬ d + 1 ≤ d := by omega
        simp only [hj2, if_false, or_true, true_or, tl_1, tl_0, ↓MoV0 hM, ↓MoI0_70 hM, ↓MoP0_70 hM, ↓MoZ0_70 hM, ↓MoG0_71 hM, ↓MoG0_72 hM, ↓MoG0_73 hM, ↓MoG0_74 hM, ↓MoG0_75 hM, ↓MoI0_76 hM, ↓MoP0_76 hM, ↓MoZ0_76 hM, ↓MoI0_77 hM, ↓MoP0_77 hM, ↓MoZ0_77 hM, ↓MoG0_78 hM, ↓MoI0_79 hM, ↓MoP0_79 hM, ↓MoZ0_79 hM, ↓MoI0_80 hM, ↓MoP0_80 hM, ↓MoZ0_80 hM, ↓MoI0_81 hM, ↓MoP0_81 hM, ↓MoZ0_81 hM, ↓MoI0_82 hM, ↓MoP0_82 hM, ↓MoZ0_82 hM, ↓MoI0_83 hM, ↓MoP0_83 hM, ↓MoZ0_83 hM, ↓MoI0_84 hM, ↓MoP0_84 hM, ↓MoZ0_84 hM, ↓MoG0_85 hM, ↓MoI0_86 hM, ↓MoP0_86 hM, ↓MoZ0_86 hM, ↓MoG0_87 hM, ↓MoI0_88 hM, ↓MoP0_88 hM, ↓MoZ0_88 hM, ↓MoG0_89 hM, ↓MoG0_90 hM, ↓MoG0_91 hM, ↓MoG0_92 hM, ↓MoL0 hM, ↓MoS0 hM, ↓MoL1 hM, ↓MoS1 hM, ↓MoL2 hM, ↓MoS2 hM, ↓MoL3 hM, ↓MoS3 hM, ↓MoL4 hM, ↓MoS4 hM, ↓MoL5 hM, ↓MoS5 hM, ↓MoL6 hM, ↓MoS6 hM, ↓MoL7 hM, ↓MoS7 hM, ↓MoL8 hM, ↓MoS8 hM, ↓MoL9 hM, ↓MoS9 hM, ↓MoL10 hM, ↓MoS10 hM, ↓MoL11 hM, ↓MoS11 hM, ↓A_if, ↓A_jn, ↓A_lt, ↓A_rz, ↓A_rn, ↓A_nzi, ↓A_nzl, ↓A_nn1, ↓A_nn0, ↓reduceIte, true_and, and_true, if_true, if_false, ite_true, ite_false, reduceIte]
  · have ql' : ¬ nI N = nI (tw_wln tx) := by rw [nz_eq (by omega) (by omega)]; exact ql
    have hc : ¬ (tw_tk B e x = 1 ∧ tw_tv B e x = tw_wc tx) := fun g => ql (hcond.mp g).1
    rw [if_neg hc]
    simp only [g80, g82, es, ↓c_ij hG' S, ↓c_len hG' S, ql', tl_1, tl_0, ↓MoV0 hM, ↓MoI0_70 hM, ↓MoP0_70 hM, ↓MoZ0_70 hM, ↓MoG0_71 hM, ↓MoG0_72 hM, ↓MoG0_73 hM, ↓MoG0_74 hM, ↓MoG0_75 hM, ↓MoI0_76 hM, ↓MoP0_76 hM, ↓MoZ0_76 hM, ↓MoI0_77 hM, ↓MoP0_77 hM, ↓MoZ0_77 hM, ↓MoG0_78 hM, ↓MoI0_79 hM, ↓MoP0_79 hM, ↓MoZ0_79 hM, ↓MoI0_80 hM, ↓MoP0_80 hM, ↓MoZ0_80 hM, ↓MoI0_81 hM, ↓MoP0_81 hM, ↓MoZ0_81 hM, ↓MoI0_82 hM, ↓MoP0_82 hM, ↓MoZ0_82 hM, ↓MoI0_83 hM, ↓MoP0_83 hM, ↓MoZ0_83 hM, ↓MoI0_84 hM, ↓MoP0_84 hM, ↓MoZ0_84 hM, ↓MoG0_85 hM, ↓MoI0_86 hM, ↓MoP0_86 hM, ↓MoZ0_86 hM, ↓MoG0_87 hM, ↓MoI0_88 hM, ↓MoP0_88 hM, ↓MoZ0_88 hM, ↓MoG0_89 hM, ↓MoG0_90 hM, ↓MoG0_91 hM, ↓MoG0_92 hM, ↓MoL0 hM, ↓MoS0 hM, ↓MoL1 hM, ↓MoS1 hM, ↓MoL2 hM, ↓MoS2 hM, ↓MoL3 hM, ↓MoS3 hM, ↓MoL4 hM, ↓MoS4 hM, ↓MoL5 hM, ↓MoS5 hM, ↓MoL6 hM, ↓MoS6 hM, ↓MoL7 hM, ↓MoS7 hM, ↓MoL8 hM, ↓MoS8 hM, ↓MoL9 hM, ↓MoS9 hM, ↓MoL10 hM, ↓MoS10 hM, ↓MoL11 hM, ↓MoS11 hM, ↓A_if, ↓A_jn, ↓A_lt, ↓A_rz, ↓A_rn, ↓A_nzi, ↓A_nzl, ↓A_nn1, ↓A_nn0, ↓reduceIte, true_and, and_true, if_true, if_false, ite_true, ite_false, reduceIte]
    refine tw_lp_exit (fun rec => ?_)
    simp only [or_true, true_or, tl_1, tl_0, ↓A_if, ↓A_jn, ↓A_lt, ↓A_rz, ↓A_rn, ↓A_nzi, ↓A_nzl, ↓A_nn1, ↓A_nn0, ↓reduceIte, true_and, and_true, if_true, if_false, ite_true, ite_false, reduceIte]
end P99b
