/-! ===== pure: the model's words, signs, numbers; constants ===== -/
section P99c
variable {sh : tw_Sh} {μ ν : Nat → Nat → Int32} {la : Nat → Nat → Int64} {n a b x m t tt e i lo hi c p q p' q' z ix : Nat} {G : tw_Gm} {g : tw_Gx} {own tx : String} {B : Nat → Nat} {v : Int32}
/-- thing i is this word; this sign -/
abbrev tw_iW (B : Nat → Nat) (e i : Nat) (tx : String) : Prop := tw_kd B e i = 1 ∧ tw_vd B e i = tw_wc tx
abbrev tw_iS (B : Nat → Nat) (e i c : Nat) : Prop := tw_kd B e i = 3 ∧ tw_vd B e i = c
theorem tw_tp_S (B : Nat → Nat) (e i : Nat) : tw_tp B e (i + 1) = tw_te B e (tw_tg B e i) := rfl
theorem tw_tle_1 (h : tw_kd B e i = 1) : tw_tle B e (tw_tg B e i) = tw_tp B e (i + 1) := by rw [tw_tp_S]; exact if_pos h
theorem tw_tle_n (h : ¬ tw_kd B e i = 1) : tw_tle B e (tw_tg B e i) = tw_tg B e i := if_neg h
theorem tw_tde_2 (h : tw_kd B e i = 2) : tw_tde B e (tw_tg B e i) = tw_tp B e (i + 1) := by rw [tw_tp_S]; exact if_pos h
theorem tw_tde_n (h : ¬ tw_kd B e i = 2) : tw_tde B e (tw_tg B e i) = tw_tg B e i := if_neg h
theorem m_passes1 (h : tw_Mt sh μ m B e) (hG : tw_GH G sh μ b) (hbm : b ≤ m) (S : tw_Sw G b a tx) (ho : tw_on B e i p) (k : Int32 → tw_Mem → Prop) : f_X12_passes m a k (sh, tw_pb μ m p q, la, n) = if tw_iW B e i tx then k (nI 1) (sh, tw_pb μ m (tw_tp B e (i + 1)) (tw_tg B e i), la, n) else k (nI 0) (sh, tw_pb μ m (tw_tg B e i) (tw_tg B e i), la, n) := by
  have hM := h.1
  have g82 : tw_pb μ m (tw_tle B e (tw_tg B e i)) (tw_tg B e i) m 82 = nI (tw_tg B e i) := tw_pb_82
  have n10 : ¬ nI 1 = nI 0 := by decide
  unfold f_X12_passes
  rw [MoV0 hM, m_letters1 h ho, MoV0 hM, m_isWord1 h hG hbm S]
  by_cases q1 : tw_iW B e i tx
  · have q2 : tw_kd B e i = 1 ∧ tw_vd B e i = tw_wc tx := q1
    rw [if_pos q1, if_pos q2, tw_tle_1 q2.1]
    simp only [n10, or_true, true_or, tl_1, tl_0, ↓A_if, ↓A_jn, ↓A_lt, ↓A_rz, ↓A_rn, ↓A_nzi, ↓A_nzl, ↓A_nn1, ↓A_nn0, ↓reduceIte, true_and, and_true, if_true, if_false, ite_true, ite_false, reduceIte]
  · have q2 : ¬ (tw_kd B e i = 1 ∧ tw_vd B e i = tw_wc tx) := q1
    rw [if_neg q1, if_neg q2]
    simp only [g82, or_true, true_or, tl_1, tl_0, tw_pb_p, ↓MoV0 hM, ↓MoI0_70 hM, ↓MoP0_70 hM, ↓MoZ0_70 hM, ↓MoG0_71 hM, ↓MoG0_72 hM, ↓MoG0_73 hM, ↓MoG0_74 hM, ↓MoG0_75 hM, ↓MoI0_76 hM, ↓MoP0_76 hM, ↓MoZ0_76 hM, ↓MoI0_77 hM, ↓MoP0_77 hM, ↓MoZ0_77 hM, ↓MoG0_78 hM, ↓MoI0_79 hM, ↓MoP0_79 hM, ↓MoZ0_79 hM, ↓MoI0_80 hM, ↓MoP0_80 hM, ↓MoZ0_80 hM, ↓MoI0_81 hM, ↓MoP0_81 hM, ↓MoZ0_81 hM, ↓MoI0_82 hM, ↓MoP0_82 hM, ↓MoZ0_82 hM, ↓MoI0_83 hM, ↓MoP0_83 hM, ↓MoZ0_83 hM, ↓MoI0_84 hM, ↓MoP0_84 hM, ↓MoZ0_84 hM, ↓MoG0_85 hM, ↓MoI0_86 hM, ↓MoP0_86 hM, ↓MoZ0_86 hM, ↓MoG0_87 hM, ↓MoI0_88 hM, ↓MoP0_88 hM, ↓MoZ0_88 hM, ↓MoG0_89 hM, ↓MoG0_90 hM, ↓MoG0_91 hM, ↓MoG0_92 hM, ↓MoL0 hM, ↓MoS0 hM, ↓MoL1 hM, ↓MoS1 hM, ↓MoL2 hM, ↓MoS2 hM, ↓MoL3 hM, ↓MoS3 hM, ↓MoL4 hM, ↓MoS4 hM, ↓MoL5 hM, ↓MoS5 hM, ↓MoL6 hM, ↓MoS6 hM, ↓MoL7 hM, ↓MoS7 hM, ↓MoL8 hM, ↓MoS8 hM, ↓MoL9 hM, ↓MoS9 hM, ↓MoL10 hM, ↓MoS10 hM, ↓MoL11 hM, ↓MoS11 hM, ↓A_if, ↓A_jn, ↓A_lt, ↓A_rz, ↓A_rn, ↓A_nzi, ↓A_nzl, ↓A_nn1, ↓A_nn0, ↓reduceIte, true_and, and_true, if_true, if_false, ite_true, ite_false, reduceIte]
theorem tw_sg_k (hc : ¬ (97 ≤ c ∧ c ≤ 122)) (hc2 : ¬ (48 ≤ c ∧ c ≤ 57)) : tw_iS B e i c ↔ tw_tg B e i < e ∧ c ≤ B (tw_tg B e i) ∧ B (tw_tg B e i) ≤ c := by
  show (tw_tk B e (tw_tg B e i) = 3 ∧ tw_tv B e (tw_tg B e i) = c) ↔ _
  generalize tw_tg B e i = x
  unfold tw_tk tw_tv
  by_cases q1 : e ≤ x
  · rw [if_pos q1, if_pos q1]
    constructor
    · rintro ⟨h, _⟩; omega
    · rintro ⟨h, _⟩; omega
  · rw [if_neg q1, if_neg q1]
    by_cases q2 : tw_le B x = true
    · have g : 97 ≤ B x ∧ B x ≤ 122 := of_decide_eq_true q2
      rw [if_pos q2, if_pos q2]
      constructor
      · rintro ⟨h, _⟩; omega
      · rintro ⟨h, _⟩; omega
    · rw [if_neg q2, if_neg q2]
      by_cases q3 : tw_dg B x = true
      · have g : 48 ≤ B x ∧ B x ≤ 57 := of_decide_eq_true q3
        rw [if_pos q3, if_pos q3]
        constructor
        · rintro ⟨h, _⟩; omega
        · rintro ⟨h, _⟩; omega
      · rw [if_neg q3, if_neg q3]
        constructor
        · rintro ⟨_, h⟩; omega
        · rintro h; omega
theorem m_sign1 (h : tw_Mt sh μ m B e) (ho : tw_on B e i p) (h0 : 0 < c) (h1 : c < 128) (hc : ¬ (97 ≤ c ∧ c ≤ 122)) (hc2 : ¬ (48 ≤ c ∧ c ≤ 57)) (k : Int32 → tw_Mem → Prop) : f_X12_sign m (nI c) k (sh, tw_pb μ m p q, la, n) = if tw_iS B e i c then k (nI 1) (sh, tw_pb μ m (tw_tp B e (i + 1)) (tw_tg B e i), la, n) else k (nI 0) (sh, tw_pb μ m (tw_tg B e i) (tw_tg B e i), la, n) := by
  have hM := h.1
  have hi := tw_sg_k (B := B) (e := e) (i := i) hc hc2
  have hge := (tw_on_e ho).2.2
  have g80 : tw_pb μ m (tw_tg B e i) (tw_tg B e i) m 80 = nI (tw_tg B e i) := tw_pb_80
  have n10 : ¬ nI 1 = nI 0 := by decide
  have ha := fun k => m_isAt1 (la := la) (n := n) (p := tw_tg B e i) (q := tw_tg B e i) h hge (lo := c) (hi := c) h0 h1 h1 k
  unfold f_X12_sign
  rw [MoV0 hM, m_blanks2 h ho, MoV0 hM, ha]
  by_cases q1 : tw_iS B e i c
  · have q2 := hi.mp q1
    have et : tw_tp B e (i + 1) = tw_tg B e i + 1 := by
      rw [tw_tp_S]
      have hk : tw_tk B e (tw_tg B e i) = 3 := q1.1
      generalize tw_tg B e i = x at *
      unfold tw_tk at hk
      unfold tw_te
      by_cases q1 : e ≤ x
      · omega
      · rw [if_neg q1] at hk ⊢
        by_cases q2 : tw_le B x = true
        · rw [if_pos q2] at hk; omega
        · rw [if_neg q2] at hk ⊢
          by_cases q3 : tw_dg B x = true
          · rw [if_pos q3] at hk; omega
          · rw [if_neg q3]
    rw [if_pos q1, if_pos q2, et]
    simp only [n10, g80, or_true, true_or, tl_1, tl_0, nI_add, tw_pb_p, ↓MoV0 hM, ↓MoI0_70 hM, ↓MoP0_70 hM, ↓MoZ0_70 hM, ↓MoG0_71 hM, ↓MoG0_72 hM, ↓MoG0_73 hM, ↓MoG0_74 hM, ↓MoG0_75 hM, ↓MoI0_76 hM, ↓MoP0_76 hM, ↓MoZ0_76 hM, ↓MoI0_77 hM, ↓MoP0_77 hM, ↓MoZ0_77 hM, ↓MoG0_78 hM, ↓MoI0_79 hM, ↓MoP0_79 hM, ↓MoZ0_79 hM, ↓MoI0_80 hM, ↓MoP0_80 hM, ↓MoZ0_80 hM, ↓MoI0_81 hM, ↓MoP0_81 hM, ↓MoZ0_81 hM, ↓MoI0_82 hM, ↓MoP0_82 hM, ↓MoZ0_82 hM, ↓MoI0_83 hM, ↓MoP0_83 hM, ↓MoZ0_83 hM, ↓MoI0_84 hM, ↓MoP0_84 hM, ↓MoZ0_84 hM, ↓MoG0_85 hM, ↓MoI0_86 hM, ↓MoP0_86 hM, ↓MoZ0_86 hM, ↓MoG0_87 hM, ↓MoI0_88 hM, ↓MoP0_88 hM, ↓MoZ0_88 hM, ↓MoG0_89 hM, ↓MoG0_90 hM, ↓MoG0_91 hM, ↓MoG0_92 hM, ↓MoL0 hM, ↓MoS0 hM, ↓MoL1 hM, ↓MoS1 hM, ↓MoL2 hM, ↓MoS2 hM, ↓MoL3 hM, ↓MoS3 hM, ↓MoL4 hM, ↓MoS4 hM, ↓MoL5 hM, ↓MoS5 hM, ↓MoL6 hM, ↓MoS6 hM, ↓MoL7 hM, ↓MoS7 hM, ↓MoL8 hM, ↓MoS8 hM, ↓MoL9 hM, ↓MoS9 hM, ↓MoL10 hM, ↓MoS10 hM, ↓MoL11 hM, ↓MoS11 hM, ↓A_if, ↓A_jn, ↓A_lt, ↓A_rz, ↓A_rn, ↓A_nzi, ↓A_nzl, ↓A_nn1, ↓A_nn0, ↓reduceIte, true_and, and_true, if_true, if_false, ite_true, ite_false, reduceIte]
  · have q2 : ¬ _ := fun g => q1 (hi.mpr g)
    rw [if_neg q1, if_neg q2]
    simp only [or_true, true_or, tl_1, tl_0, ↓A_if, ↓A_jn, ↓A_lt, ↓A_rz, ↓A_rn, ↓A_nzi, ↓A_nzl, ↓A_nn1, ↓A_nn0, ↓reduceIte, true_and, and_true, if_true, if_false, ite_true, ite_false, reduceIte]
/-- thing i is a number from lo on, not above v -/
abbrev tw_iN (B : Nat → Nat) (e i lo : Nat) (v : Int32) : Prop := tw_kd B e i = 2 ∧ lo ≤ tw_vd B e i ∧ ¬ v < nI (tw_vd B e i)
theorem m_number1 (h : tw_Mt sh μ m B e) (ho : tw_on B e i p) (hlo : lo < 2 ^ 31) (hv : v < nI 1000) (k : Int32 → tw_Mem → Prop) : f_X12_number m (nI lo) v k (sh, tw_pb μ m p q, la, n) = if tw_iN B e i lo v then k (nI (tw_vd B e i)) (sh, tw_pb μ m (tw_tp B e (i + 1)) (tw_tg B e i), la, n) else k mI (sh, tw_pb μ m (tw_tde B e (tw_tg B e i)) (tw_tg B e i), la, n) := by
  have hM := h.1
  have hge := (tw_on_e ho).2.2
  have he := h.2.2.1
  have hB := h.2.2.2.2
  have n10 : ¬ nI 1 = nI 0 := by decide
  have l48 : (48 : Int32) = nI 48 := rfl
  have l57 : (57 : Int32) = nI 57 := rfl
  have l3 : (3 : Int32) = nI 3 := rfl
  have l10 : (10 : Int32) = nI 10 := rfl
  have l1 : -nI 1 = mI := by decide
  have hte : tw_kd B e i = 2 → tw_tp B e (i + 1) = tw_tde B e (tw_tg B e i) := fun hk => (tw_tde_2 hk).symm
  have hpb := (tw_Mt_pb (p := tw_tg B e i) (q := tw_tg B e i) h)
  unfold f_X12_number
  rw [MoV0 hM, m_blanks2 h ho]
  show _ = if tw_kd B e i = 2 ∧ lo ≤ tw_vd B e i ∧ ¬ v < nI (tw_vd B e i) then k (nI (tw_vd B e i)) (sh, tw_pb μ m (tw_tp B e (i + 1)) (tw_tg B e i), la, n) else k mI (sh, tw_pb μ m (tw_tde B e (tw_tg B e i)) (tw_tg B e i), la, n)
  have hV := tw_tv_l hB e (tw_tg B e i)
  have hkV : (tw_kd B e i = 2 → tw_tg B e i < tw_tde B e (tw_tg B e i) ∧ tw_vd B e i = if tw_tde B e (tw_tg B e i) - tw_tg B e i ≤ 3 then tw_nu B (tw_tg B e i) (tw_tde B e (tw_tg B e i) - tw_tg B e i) else 1000) ∧ (¬ tw_kd B e i = 2 → tw_tde B e (tw_tg B e i) = tw_tg B e i) := by
    refine ⟨fun hk => ?_, fun hk => tw_tde_n hk⟩
    have e1 := tw_tde_2 hk
    rw [tw_tp_S] at e1
    unfold tw_kd at hk
    unfold tw_vd
    generalize tw_tg B e i = x at *
    have hxe : ¬ e ≤ x := fun g => by unfold tw_tk at hk; rw [if_pos g] at hk; omega
    have hnl : ¬ tw_le B x = true := fun g => by unfold tw_tk at hk; rw [if_neg hxe, if_pos g] at hk; omega
    have hd : tw_dg B x = true := by
      cases hh : tw_dg B x
      · unfold tw_tk at hk
        rw [if_neg hxe, if_neg hnl, hh, if_neg (by decide)] at hk
        omega
      · rfl
    have h0 := (tw_te_s B hge).2.2 (by omega)
    refine ⟨by omega, ?_⟩
    unfold tw_tv
    rw [if_neg hxe, if_neg hnl, if_pos hd, ← e1]
  unfold tw_vd at *
  unfold tw_kd at *
  generalize tw_tp B e (i + 1) = tpi at *
  generalize tw_tg B e i = x at *
  obtain ⟨s1, s2, s3, s4⟩ := tw_skp_s (tw_dg B) (e - x) x
  rw [← tw_tde_e B hge] at s1 s2 s3 s4
  obtain ⟨N, hN⟩ : ∃ N, tw_tde B e x = x + N := ⟨tw_tde B e x - x, by omega⟩
  rw [hN] at s2 s3 s4 hkV hte ⊢
  rw [Nat.add_sub_cancel_left] at hkV
  have hlet : ∀ j, j < N → 48 ≤ B (x + j) ∧ B (x + j) ≤ 57 := fun j hj => of_decide_eq_true (s3 (x + j) (by omega) (by omega))
  have h6 : tw_ar sh (m + 6) 2 400 := hM.2.2.2.2.2.2.1
  have hnl : ∀ j, j ≤ N → j ≤ 3 → tw_nu B x j < 1000 := fun j hj h3 => by
    have h5 := tw_nu_lt (B := B) (x := x) j (fun q hq => hlet q (by omega))
    have h6 : 10 ^ j ≤ 10 ^ 3 := Nat.pow_le_pow_right (by omega) h3
    omega
  refine tw_lp_for N (fun j => nI (tw_nu B x (min j 3))) (fun j => (sh, tw_pb μ m (x + j) x, la, n)) rfl rfl (fun j hj rec => ?_) (fun rec => ?_)
  · have hb := hlet j hj
    have ha := fun k => m_isAt1 (la := la) (n := n) (p := x + j) (q := x) h (by omega) (lo := 48) (hi := 57) (by omega) (by omega) (by omega) k
    simp only [if_pos (show x + j < e ∧ 48 ≤ B (x + j) ∧ B (x + j) ≤ 57 by omega)] at ha
    have g80 : tw_pb μ m (x + j) x m 80 = nI (x + j) := tw_pb_80
    have g82 : tw_pb μ m (x + j) x m 82 = nI x := tw_pb_82
    have es : nI (x + j) - nI x = nI j := by rw [nz_sub (by omega), Nat.add_sub_cancel_left]
    have hlb : ∀ F : Int32 → tw_Mem → Prop, tw_lb (m + 6) (nI (x + j)) F (sh, tw_pb μ m (x + j) x, la, n) = F (nI (B (x + j))) (sh, tw_pb μ m (x + j) x, la, n) := fun F => by
      rw [X_lb h6 (by omega) (by decide), tw_pb_n (by omega), h.2.2.2.1 _ (by omega), tw_sgn _ (by omega), if_pos (by omega)]
    by_cases q : j < 3
    · have q' : nI j < nI 3 := by rw [nz_lt (by omega) (by omega)]; exact q
      have em : min j 3 = j := by omega
      have em2 : min (j + 1) 3 = j + 1 := by omega
      have hn1 := hnl j (by omega) (by omega)
      have e5 : nI 10 * nI (tw_nu B x j) + nI (B (x + j)) - nI 48 = nI (tw_nu B x (j + 1)) := by
        rw [pk_mul, nI_add, nz_sub (by omega)]
        congr 1
        show _ = 10 * tw_nu B x j + (B (x + j) - 48)
        omega
      rw [em, em2]
      simp only [l48, l57, l3, l10, ↓ha, n10, g80, g82, es, q', ↓hlb, tl_0, tl_1, tw_pb_p, ↓MoV0 hM, ↓MoI0_70 hM, ↓MoP0_70 hM, ↓MoZ0_70 hM, ↓MoG0_71 hM, ↓MoG0_72 hM, ↓MoG0_73 hM, ↓MoG0_74 hM, ↓MoG0_75 hM, ↓MoI0_76 hM, ↓MoP0_76 hM, ↓MoZ0_76 hM, ↓MoI0_77 hM, ↓MoP0_77 hM, ↓MoZ0_77 hM, ↓MoG0_78 hM, ↓MoI0_79 hM, ↓MoP0_79 hM, ↓MoZ0_79 hM, ↓MoI0_80 hM, ↓MoP0_80 hM, ↓MoZ0_80 hM, ↓MoI0_81 hM, ↓MoP0_81 hM, ↓MoZ0_81 hM, ↓MoI0_82 hM, ↓MoP0_82 hM, ↓MoZ0_82 hM, ↓MoI0_83 hM, ↓MoP0_83 hM, ↓MoZ0_83 hM, ↓MoI0_84 hM, ↓MoP0_84 hM, ↓MoZ0_84 hM, ↓MoG0_85 hM, ↓MoI0_86 hM, ↓MoP0_86 hM, ↓MoZ0_86 hM, ↓MoG0_87 hM, ↓MoI0_88 hM, ↓MoP0_88 hM, ↓MoZ0_88 hM, ↓MoG0_89 hM, ↓MoG0_90 hM, ↓MoG0_91 hM, ↓MoG0_92 hM, ↓MoL0 hM, ↓MoS0 hM, ↓MoL1 hM, ↓MoS1 hM, ↓MoL2 hM, ↓MoS2 hM, ↓MoL3 hM, ↓MoS3 hM, ↓MoL4 hM, ↓MoS4 hM, ↓MoL5 hM, ↓MoS5 hM, ↓MoL6 hM, ↓MoS6 hM, ↓MoL7 hM, ↓MoS7 hM, ↓MoL8 hM, ↓MoS8 hM, ↓MoL9 hM, ↓MoS9 hM, ↓MoL10 hM, ↓MoS10 hM, ↓MoL11 hM, ↓MoS11 hM, ↓A_if, ↓A_jn, ↓A_lt, ↓A_rz, ↓A_rn, ↓A_nzi, ↓A_nzl, ↓A_nn1, ↓A_nn0, ↓reduceIte, true_and, and_true, if_true, if_false, ite_true, ite_false, reduceIte]
      rw [e5, nI_add, tw_pb_p, Nat.add_assoc]
    · have q' : ¬ nI j < nI 3 := by rw [nz_lt (by omega) (by omega)]; exact q
      have em : min j 3 = 3 := by omega
      have em2 : min (j + 1) 3 = 3 := by omega
      rw [em, em2]
      simp only [l48, l57, l3, l10, ↓ha, n10, g80, g82, es, q', tl_0, tl_1, nI_add, Nat.add_assoc, tw_pb_p, ↓MoV0 hM, ↓MoI0_70 hM, ↓MoP0_70 hM, ↓MoZ0_70 hM, ↓MoG0_71 hM, ↓MoG0_72 hM, ↓MoG0_73 hM, ↓MoG0_74 hM, ↓MoG0_75 hM, ↓MoI0_76 hM, ↓MoP0_76 hM, ↓MoZ0_76 hM, ↓MoI0_77 hM, ↓MoP0_77 hM, ↓MoZ0_77 hM, ↓MoG0_78 hM, ↓MoI0_79 hM, ↓MoP0_79 hM, ↓MoZ0_79 hM, ↓MoI0_80 hM, ↓MoP0_80 hM, ↓MoZ0_80 hM, ↓MoI0_81 hM, ↓MoP0_81 hM, ↓MoZ0_81 hM, ↓MoI0_82 hM, ↓MoP0_82 hM, ↓MoZ0_82 hM, ↓MoI0_83 hM, ↓MoP0_83 hM, ↓MoZ0_83 hM, ↓MoI0_84 hM, ↓MoP0_84 hM, ↓MoZ0_84 hM, ↓MoG0_85 hM, ↓MoI0_86 hM, ↓MoP0_86 hM, ↓MoZ0_86 hM, ↓MoG0_87 hM, ↓MoI0_88 hM, ↓MoP0_88 hM, ↓MoZ0_88 hM, ↓MoG0_89 hM, ↓MoG0_90 hM, ↓MoG0_91 hM, ↓MoG0_92 hM, ↓MoL0 hM, ↓MoS0 hM, ↓MoL1 hM, ↓MoS1 hM, ↓MoL2 hM, ↓MoS2 hM, ↓MoL3 hM, ↓MoS3 hM, ↓MoL4 hM, ↓MoS4 hM, ↓MoL5 hM, ↓MoS5 hM, ↓MoL6 hM, ↓MoS6 hM, ↓MoL7 hM, ↓MoS7 hM, ↓MoL8 hM, ↓MoS8 hM, ↓MoL9 hM, ↓MoS9 hM, ↓MoL10 hM, ↓MoS10 hM, ↓MoL11 hM, ↓MoS11 hM, ↓A_if, ↓A_jn, ↓A_lt, ↓A_rz, ↓A_rn, ↓A_nzi, ↓A_nzl, ↓A_nn1, ↓A_nn0, ↓reduceIte, true_and, and_true, if_true, if_false, ite_true, ite_false, reduceIte]
  · have ha := fun k => m_isAt1 (la := la) (n := n) (p := x + N) (q := x) h (by omega) (lo := 48) (hi := 57) (by omega) (by omega) (by omega) k
    have hc : ¬ (x + N < e ∧ 48 ≤ B (x + N) ∧ B (x + N) ≤ 57) := by
      rcases s4 with s4 | s4
      · omega
      · have g : ¬ (48 ≤ B (x + N) ∧ B (x + N) ≤ 57) := of_decide_eq_false s4
        omega
    simp only [if_neg hc] at ha
    have g80 : tw_pb μ m (x + N) x m 80 = nI (x + N) := tw_pb_80
    have g82 : tw_pb μ m (x + N) x m 82 = nI x := tw_pb_82
    have es : nI (x + N) - nI x = nI N := by rw [nz_sub (by omega), Nat.add_sub_cancel_left]
    by_cases hk : tw_tk B e x = 2
    · obtain ⟨k1, k2⟩ := hkV.1 hk
      have hx2 : ¬ nI (x + N) = nI x := by rw [nz_eq (by omega) (by omega)]; omega
      rw [hte hk]
      by_cases h3 : N ≤ 3
      · rw [if_pos h3] at k2
        have q3 : ¬ nI 3 < nI N := by rw [nz_lt (by omega) (by omega)]; omega
        have em : min N 3 = N := by omega
        have hn1 := hnl N (by omega) (by omega)
        rw [em, k2]
        by_cases q4 : tw_nu B x N < lo
        · have hno : ¬ (tw_tk B e x = 2 ∧ lo ≤ tw_nu B x N ∧ ¬ v < nI (tw_nu B x N)) := by omega
          rw [if_neg hno]
          simp (disch := omega) only [l48, l57, l3, l1, ↓ha, g80, g82, es, hx2, q3, q4, nz_lt, tl_0, tl_1, ↓MoV0 hM, ↓MoI0_70 hM, ↓MoP0_70 hM, ↓MoZ0_70 hM, ↓MoG0_71 hM, ↓MoG0_72 hM, ↓MoG0_73 hM, ↓MoG0_74 hM, ↓MoG0_75 hM, ↓MoI0_76 hM, ↓MoP0_76 hM, ↓MoZ0_76 hM, ↓MoI0_77 hM, ↓MoP0_77 hM, ↓MoZ0_77 hM, ↓MoG0_78 hM, ↓MoI0_79 hM, ↓MoP0_79 hM, ↓MoZ0_79 hM, ↓MoI0_80 hM, ↓MoP0_80 hM, ↓MoZ0_80 hM, ↓MoI0_81 hM, ↓MoP0_81 hM, ↓MoZ0_81 hM, ↓MoI0_82 hM, ↓MoP0_82 hM, ↓MoZ0_82 hM, ↓MoI0_83 hM, ↓MoP0_83 hM, ↓MoZ0_83 hM, ↓MoI0_84 hM, ↓MoP0_84 hM, ↓MoZ0_84 hM, ↓MoG0_85 hM, ↓MoI0_86 hM, ↓MoP0_86 hM, ↓MoZ0_86 hM, ↓MoG0_87 hM, ↓MoI0_88 hM, ↓MoP0_88 hM, ↓MoZ0_88 hM, ↓MoG0_89 hM, ↓MoG0_90 hM, ↓MoG0_91 hM, ↓MoG0_92 hM, ↓MoL0 hM, ↓MoS0 hM, ↓MoL1 hM, ↓MoS1 hM, ↓MoL2 hM, ↓MoS2 hM, ↓MoL3 hM, ↓MoS3 hM, ↓MoL4 hM, ↓MoS4 hM, ↓MoL5 hM, ↓MoS5 hM, ↓MoL6 hM, ↓MoS6 hM, ↓MoL7 hM, ↓MoS7 hM, ↓MoL8 hM, ↓MoS8 hM, ↓MoL9 hM, ↓MoS9 hM, ↓MoL10 hM, ↓MoS10 hM, ↓MoL11 hM, ↓MoS11 hM, ↓A_if, ↓A_jn, ↓A_lt, ↓A_rz, ↓A_rn, ↓A_nzi, ↓A_nzl, ↓A_nn1, ↓A_nn0, ↓reduceIte, true_and, and_true, if_true, if_false, ite_true, ite_false, reduceIte]
        · by_cases q5 : v < nI (tw_nu B x N)
          · have hno : ¬ (tw_tk B e x = 2 ∧ lo ≤ tw_nu B x N ∧ ¬ v < nI (tw_nu B x N)) := fun g => g.2.2 q5
            rw [if_neg hno]
            simp (disch := omega) only [l48, l57, l3, l1, ↓ha, g80, g82, es, hx2, q3, q4, q5, nz_lt, tl_0, tl_1, ↓MoV0 hM, ↓MoI0_70 hM, ↓MoP0_70 hM, ↓MoZ0_70 hM, ↓MoG0_71 hM, ↓MoG0_72 hM, ↓MoG0_73 hM, ↓MoG0_74 hM, ↓MoG0_75 hM, ↓MoI0_76 hM, ↓MoP0_76 hM, ↓MoZ0_76 hM, ↓MoI0_77 hM, ↓MoP0_77 hM, ↓MoZ0_77 hM, ↓MoG0_78 hM, ↓MoI0_79 hM, ↓MoP0_79 hM, ↓MoZ0_79 hM, ↓MoI0_80 hM, ↓MoP0_80 hM, ↓MoZ0_80 hM, ↓MoI0_81 hM, ↓MoP0_81 hM, ↓MoZ0_81 hM, ↓MoI0_82 hM, ↓MoP0_82 hM, ↓MoZ0_82 hM, ↓MoI0_83 hM, ↓MoP0_83 hM, ↓MoZ0_83 hM, ↓MoI0_84 hM, ↓MoP0_84 hM, ↓MoZ0_84 hM, ↓MoG0_85 hM, ↓MoI0_86 hM, ↓MoP0_86 hM, ↓MoZ0_86 hM, ↓MoG0_87 hM, ↓MoI0_88 hM, ↓MoP0_88 hM, ↓MoZ0_88 hM, ↓MoG0_89 hM, ↓MoG0_90 hM, ↓MoG0_91 hM, ↓MoG0_92 hM, ↓MoL0 hM, ↓MoS0 hM, ↓MoL1 hM, ↓MoS1 hM, ↓MoL2 hM, ↓MoS2 hM, ↓MoL3 hM, ↓MoS3 hM, ↓MoL4 hM, ↓MoS4 hM, ↓MoL5 hM, ↓MoS5 hM, ↓MoL6 hM, ↓MoS6 hM, ↓MoL7 hM, ↓MoS7 hM, ↓MoL8 hM, ↓MoS8 hM, ↓MoL9 hM, ↓MoS9 hM, ↓MoL10 hM, ↓MoS10 hM, ↓MoL11 hM, ↓MoS11 hM, ↓A_if, ↓A_jn, ↓A_lt, ↓A_rz, ↓A_rn, ↓A_nzi, ↓A_nzl, ↓A_nn1, ↓A_nn0, ↓reduceIte, true_and, and_true, if_true, if_false, ite_true, ite_false, reduceIte]
          · have hyes : tw_tk B e x = 2 ∧ lo ≤ tw_nu B x N ∧ ¬ v < nI (tw_nu B x N) := ⟨hk, by omega, q5⟩
            rw [if_pos hyes]
            simp (disch := omega) only [l48, l57, l3, l1, ↓ha, g80, g82, es, hx2, q3, q4, q5, nz_lt, tl_0, tl_1, ↓MoV0 hM, ↓MoI0_70 hM, ↓MoP0_70 hM, ↓MoZ0_70 hM, ↓MoG0_71 hM, ↓MoG0_72 hM, ↓MoG0_73 hM, ↓MoG0_74 hM, ↓MoG0_75 hM, ↓MoI0_76 hM, ↓MoP0_76 hM, ↓MoZ0_76 hM, ↓MoI0_77 hM, ↓MoP0_77 hM, ↓MoZ0_77 hM, ↓MoG0_78 hM, ↓MoI0_79 hM, ↓MoP0_79 hM, ↓MoZ0_79 hM, ↓MoI0_80 hM, ↓MoP0_80 hM, ↓MoZ0_80 hM, ↓MoI0_81 hM, ↓MoP0_81 hM, ↓MoZ0_81 hM, ↓MoI0_82 hM, ↓MoP0_82 hM, ↓MoZ0_82 hM, ↓MoI0_83 hM, ↓MoP0_83 hM, ↓MoZ0_83 hM, ↓MoI0_84 hM, ↓MoP0_84 hM, ↓MoZ0_84 hM, ↓MoG0_85 hM, ↓MoI0_86 hM, ↓MoP0_86 hM, ↓MoZ0_86 hM, ↓MoG0_87 hM, ↓MoI0_88 hM, ↓MoP0_88 hM, ↓MoZ0_88 hM, ↓MoG0_89 hM, ↓MoG0_90 hM, ↓MoG0_91 hM, ↓MoG0_92 hM, ↓MoL0 hM, ↓MoS0 hM, ↓MoL1 hM, ↓MoS1 hM, ↓MoL2 hM, ↓MoS2 hM, ↓MoL3 hM, ↓MoS3 hM, ↓MoL4 hM, ↓MoS4 hM, ↓MoL5 hM, ↓MoS5 hM, ↓MoL6 hM, ↓MoS6 hM, ↓MoL7 hM, ↓MoS7 hM, ↓MoL8 hM, ↓MoS8 hM, ↓MoL9 hM, ↓MoS9 hM, ↓MoL10 hM, ↓MoS10 hM, ↓MoL11 hM, ↓MoS11 hM, ↓A_if, ↓A_jn, ↓A_lt, ↓A_rz, ↓A_rn, ↓A_nzi, ↓A_nzl, ↓A_nn1, ↓A_nn0, ↓reduceIte, true_and, and_true, if_true, if_false, ite_true, ite_false, reduceIte]
      · rw [if_neg h3] at k2
        have q3 : nI 3 < nI N := by rw [nz_lt (by omega) (by omega)]; omega
        have hno : ¬ (tw_tk B e x = 2 ∧ lo ≤ tw_tv B e x ∧ ¬ v < nI (tw_tv B e x)) := fun g => g.2.2 (by rw [k2]; exact hv)
        rw [if_neg hno]
        simp only [l48, l57, l3, l1, ↓ha, g80, g82, es, hx2, q3, tl_0, tl_1, ↓MoV0 hM, ↓MoI0_70 hM, ↓MoP0_70 hM, ↓MoZ0_70 hM, ↓MoG0_71 hM, ↓MoG0_72 hM, ↓MoG0_73 hM, ↓MoG0_74 hM, ↓MoG0_75 hM, ↓MoI0_76 hM, ↓MoP0_76 hM, ↓MoZ0_76 hM, ↓MoI0_77 hM, ↓MoP0_77 hM, ↓MoZ0_77 hM, ↓MoG0_78 hM, ↓MoI0_79 hM, ↓MoP0_79 hM, ↓MoZ0_79 hM, ↓MoI0_80 hM, ↓MoP0_80 hM, ↓MoZ0_80 hM, ↓MoI0_81 hM, ↓MoP0_81 hM, ↓MoZ0_81 hM, ↓MoI0_82 hM, ↓MoP0_82 hM, ↓MoZ0_82 hM, ↓MoI0_83 hM, ↓MoP0_83 hM, ↓MoZ0_83 hM, ↓MoI0_84 hM, ↓MoP0_84 hM, ↓MoZ0_84 hM, ↓MoG0_85 hM, ↓MoI0_86 hM, ↓MoP0_86 hM, ↓MoZ0_86 hM, ↓MoG0_87 hM, ↓MoI0_88 hM, ↓MoP0_88 hM, ↓MoZ0_88 hM, ↓MoG0_89 hM, ↓MoG0_90 hM, ↓MoG0_91 hM, ↓MoG0_92 hM, ↓MoL0 hM, ↓MoS0 hM, ↓MoL1 hM, ↓MoS1 hM, ↓MoL2 hM, ↓MoS2 hM, ↓MoL3 hM, ↓MoS3 hM, ↓MoL4 hM, ↓MoS4 hM, ↓MoL5 hM, ↓MoS5 hM, ↓MoL6 hM, ↓MoS6 hM, ↓MoL7 hM, ↓MoS7 hM, ↓MoL8 hM, ↓MoS8 hM, ↓MoL9 hM, ↓MoS9 hM, ↓MoL10 hM, ↓MoS10 hM, ↓MoL11 hM, ↓MoS11 hM, ↓A_if, ↓A_jn, ↓A_lt, ↓A_rz, ↓A_rn, ↓A_nzi, ↓A_nzl, ↓A_nn1, ↓A_nn0, ↓reduceIte, true_and, and_true, if_true, if_false, ite_true, ite_false, reduceIte]
    · have k2 := hkV.2 hk
      have hN0 : N = 0 := by omega
      have hno : ¬ (tw_tk B e x = 2 ∧ lo ≤ tw_tv B e x ∧ ¬ v < nI (tw_tv B e x)) := fun g => hk g.1
      subst hN0
      rw [if_neg hno]
      simp only [Nat.add_zero] at ha g80 g82 ⊢
      simp only [l48, l57, l3, l1, ↓ha, g80, g82, tl_0, tl_1, ↓MoV0 hM, ↓MoI0_70 hM, ↓MoP0_70 hM, ↓MoZ0_70 hM, ↓MoG0_71 hM, ↓MoG0_72 hM, ↓MoG0_73 hM, ↓MoG0_74 hM, ↓MoG0_75 hM, ↓MoI0_76 hM, ↓MoP0_76 hM, ↓MoZ0_76 hM, ↓MoI0_77 hM, ↓MoP0_77 hM, ↓MoZ0_77 hM, ↓MoG0_78 hM, ↓MoI0_79 hM, ↓MoP0_79 hM, ↓MoZ0_79 hM, ↓MoI0_80 hM, ↓MoP0_80 hM, ↓MoZ0_80 hM, ↓MoI0_81 hM, ↓MoP0_81 hM, ↓MoZ0_81 hM, ↓MoI0_82 hM, ↓MoP0_82 hM, ↓MoZ0_82 hM, ↓MoI0_83 hM, ↓MoP0_83 hM, ↓MoZ0_83 hM, ↓MoI0_84 hM, ↓MoP0_84 hM, ↓MoZ0_84 hM, ↓MoG0_85 hM, ↓MoI0_86 hM, ↓MoP0_86 hM, ↓MoZ0_86 hM, ↓MoG0_87 hM, ↓MoI0_88 hM, ↓MoP0_88 hM, ↓MoZ0_88 hM, ↓MoG0_89 hM, ↓MoG0_90 hM, ↓MoG0_91 hM, ↓MoG0_92 hM, ↓MoL0 hM, ↓MoS0 hM, ↓MoL1 hM, ↓MoS1 hM, ↓MoL2 hM, ↓MoS2 hM, ↓MoL3 hM, ↓MoS3 hM, ↓MoL4 hM, ↓MoS4 hM, ↓MoL5 hM, ↓MoS5 hM, ↓MoL6 hM, ↓MoS6 hM, ↓MoL7 hM, ↓MoS7 hM, ↓MoL8 hM, ↓MoS8 hM, ↓MoL9 hM, ↓MoS9 hM, ↓MoL10 hM, ↓MoS10 hM, ↓MoL11 hM, ↓MoS11 hM, ↓A_if, ↓A_jn, ↓A_lt, ↓A_rz, ↓A_rn, ↓A_nzi, ↓A_nzl, ↓A_nn1, ↓A_nn0, ↓reduceIte, true_and, and_true, if_true, if_false, ite_true, ite_false, reduceIte]
/-- a constant stands there, and it is the one -/
theorem tw_ls_u {F : Nat → tw_Mem → Prop} {M : tw_Mem} {R : Prop} (GS : tw_GS g G b) (h1 : Cond.stringRef own ix tx ∈ lw_tbl) (h2 : tx ∈ tw_words) (h : ∀ a, tw_Sw G b a tx → F a M = R) : tw_ls g own ix tx F M = R := by
  obtain ⟨⟨a, ha⟩, hs⟩ := GS own ix tx h1 h2
  apply propext
  constructor
  · intro H
    have := H a ha
    rw [h a (hs a ha)] at this
    exact this
  · intro H a2 ha2
    rw [h a2 (hs a2 ha2)]
    exact H
end P99c
