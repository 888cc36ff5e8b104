/-! ===== pure: both sides' texts in one form ===== -/
def tw_cwf (μ : Nat → Nat → Int32) (x i : Nat) (w : Int32) : Nat → Nat → Int32 := tw_up (tw_up μ x 12 w) x 11 (nI i)
def tw_bo (b : Bool) : Int32 := if b = true then nI 1 else nI 0
def tw_Ab (sh : tw_Sh) (μ : Nat → Nat → Int32) (x t : Nat) (B : Nat → Nat) (e tt : Nat) : Prop := tw_Xs sh x t ∧ tw_TX μ x B e tt ∧ ∀ j, B j < 256
section P99d
variable {sh : tw_Sh} {μ μ' ν : Nat → Nat → Int32} {la : Nat → Nat → Int64} {n a b x y m t tt e i lo hi c cl p q p' q' z ix i' : Nat} {G : tw_Gm} {g : tw_Gx} {own tx : String} {B : Nat → Nat} {v w w' : Int32} {T : Nat → Int32}
theorem tw_cwf_11 : tw_cwf μ x i w x 11 = nI i := tw_ua
theorem tw_cwf_12 : tw_cwf μ x i w x 12 = w := by unfold tw_cwf; rw [tw_uk (by omega)]; exact tw_ua
theorem tw_cwf_k {j : Nat} (h1 : j < 11 ∨ 12 < j) : tw_cwf μ x i w x j = μ x j := by unfold tw_cwf; rw [tw_uk (by omega), tw_uk (by omega)]
theorem tw_cwf_n (h : y < x ∨ x < y) : tw_cwf μ x i w y = μ y := by unfold tw_cwf; rw [tw_up_ne (by omega), tw_up_ne (by omega)]
theorem tw_cwf_x {f : Nat → Nat → Int32} (h1 : f x 11 = nI i) (h2 : f x 12 = w) (h3 : ∀ y j, ¬ (y = x ∧ (j = 11 ∨ j = 12)) → f y j = μ y j) : f = tw_cwf μ x i w := by
  funext y j
  by_cases hy : y = x
  · subst hy
    by_cases h11 : j = 11
    · subst h11; rw [h1, tw_cwf_11]
    · by_cases h12 : j = 12
      · subst h12; rw [h2, tw_cwf_12]
      · rw [tw_cwf_k (by omega)]; exact h3 y j (by omega)
  · rw [tw_cwf_n (by omega)]; exact h3 y j (by omega)
theorem tw_cwf_i : tw_up (tw_cwf μ x i w) x 11 (nI i') = tw_cwf μ x i' w := by
  refine tw_cwf_x tw_ua (by rw [tw_uk (by omega)]; exact tw_cwf_12) (fun y j h => ?_)
  by_cases hy : y = x
  · subst hy; rw [tw_uk (by omega), tw_cwf_k (by omega)]
  · rw [tw_up_ne hy, tw_cwf_n (by omega)]
theorem tw_cwf_w : tw_up (tw_up (tw_cwf μ x i w) x 12 w') x 11 (nI i') = tw_cwf μ x i' w' := by
  refine tw_cwf_x tw_ua (by rw [tw_uk (by omega)]; exact tw_ua) (fun y j h => ?_)
  by_cases hy : y = x
  · subst hy; rw [tw_uk (by omega), tw_uk (by omega), tw_cwf_k (by omega)]
  · rw [tw_up_ne hy, tw_up_ne hy, tw_cwf_n (by omega)]
theorem tw_cwf_c (h : y < x ∨ x < y) : tw_up (tw_cwf μ x i w) y c v = tw_cwf (tw_up μ y c v) x i w := by
  refine tw_cwf_x (by rw [tw_up_ne (by omega)]; exact tw_cwf_11) (by rw [tw_up_ne (by omega)]; exact tw_cwf_12) (fun y2 j h2 => ?_)
  by_cases hy : y2 = x
  · subst hy; rw [tw_up_ne (by omega), tw_up_ne (by omega), tw_cwf_k (by omega)]
  · by_cases hy2 : y2 = y
    · subst hy2
      by_cases hj : j = c
      · subst hj; rw [tw_ua, tw_ua]
      · rw [tw_uk (by omega), tw_uk (by omega), tw_cwf_n (by omega)]
    · rw [tw_up_ne hy2, tw_up_ne hy2, tw_cwf_n (by omega)]
theorem tw_cwf_ck (h : c < 11 ∨ 12 < c) : tw_up (tw_cwf μ x i w) x c v = tw_cwf (tw_up μ x c v) x i w := by
  refine tw_cwf_x (by rw [tw_uk (by omega)]; exact tw_cwf_11) (by rw [tw_uk (by omega)]; exact tw_cwf_12) (fun y2 j h2 => ?_)
  by_cases hy : y2 = x
  · subst hy
    by_cases hj : j = c
    · subst hj; rw [tw_ua, tw_ua]
    · rw [tw_uk (by omega), tw_uk (by omega), tw_cwf_k (by omega)]
  · rw [tw_up_ne hy, tw_up_ne hy, tw_cwf_n (by omega)]
theorem tw_cwf_s (h1 : μ x 11 = nI i) : ∃ w, tw_cwf μ x i w = μ := ⟨μ x 12, (tw_cwf_x h1 rfl (fun _ _ _ => rfl)).symm⟩
theorem tw_pb_c (h : y < m ∨ m < y) : tw_up (tw_pb μ m p q) y c v = tw_pb (tw_up μ y c v) m p q := by
  funext y2 j
  by_cases hy : y2 = m
  · subst hy
    rw [tw_up_ne (by omega)]
    by_cases h1 : j = 82
    · subst h1; rw [tw_pb_82, tw_pb_82]
    · by_cases h2 : j = 80
      · subst h2; rw [tw_pb_80, tw_pb_80]
      · rw [tw_pb_k h2 h1, tw_pb_k h2 h1, tw_up_ne (by omega)]
  · rw [tw_pb_n (μ := tw_up μ y c v) hy]
    by_cases hy2 : y2 = y
    · subst hy2
      by_cases hj : j = c
      · subst hj; rw [tw_ua, tw_ua]
      · rw [tw_uk (by omega), tw_uk (by omega), tw_pb_n hy]
    · rw [tw_up_ne hy2, tw_up_ne hy2, tw_pb_n hy]
theorem tw_pb_ck (h : c ≠ 80) (h' : c ≠ 82) : tw_up (tw_pb μ m p q) m c v = tw_pb (tw_up μ m c v) m p q := by
  funext y2 j
  by_cases hy : y2 = m
  · subst hy
    by_cases h1 : j = 82
    · subst h1; rw [tw_pb_82, tw_uk (by omega), tw_pb_82]
    · by_cases h2 : j = 80
      · subst h2; rw [tw_pb_80, tw_uk (by omega), tw_pb_80]
      · rw [tw_pb_k h2 h1]
        by_cases hj : j = c
        · subst hj; rw [tw_ua, tw_ua]
        · rw [tw_uk (by omega), tw_uk (by omega), tw_pb_k h2 h1]
  · rw [tw_pb_n hy, tw_up_ne hy, tw_up_ne hy, tw_pb_n hy]
theorem tw_pb_ra (h : y < m ∨ m < y) {s : Nat → Int32} : tw_ra (tw_pb μ m p q) y s = tw_pb (tw_ra μ y s) m p q := by
  funext y2 j
  by_cases hy : y2 = m
  · subst hy
    rw [tw_ra_nj (by omega)]
    by_cases h1 : j = 82
    · subst h1; rw [tw_pb_82, tw_pb_82]
    · by_cases h2 : j = 80
      · subst h2; rw [tw_pb_80, tw_pb_80]
      · rw [tw_pb_k h2 h1, tw_pb_k h2 h1, tw_ra_nj (by omega)]
  · rw [tw_pb_n (μ := tw_ra μ y s) hy]
    by_cases hy2 : y2 = y
    · subst hy2; rw [tw_ra_aj, tw_ra_aj]
    · rw [tw_ra_nj (by omega), tw_ra_nj (by omega), tw_pb_n hy]
theorem tw_Ab_cb (h : tw_Ab sh μ x t B e tt) (hi : i ≤ tt) : tw_At sh (tw_cwf μ x i w) x t B e tt i := by
  obtain ⟨h1, h2, h3⟩ := h
  refine ⟨h1, ?_, tw_cwf_11, hi, h3⟩
  unfold tw_TX at h2 ⊢
  rw [tw_cwf_n (y := x + 1) (by omega), tw_cwf_n (y := x + 2) (by omega), tw_cwf_n (y := x + 3) (by omega)]
  exact h2
theorem tw_Ab_s (h : tw_Ab sh μ x t B e tt) (hs : ∀ y, x + 1 ≤ y → y ≤ x + 3 → μ' y = μ y) : tw_Ab sh μ' x t B e tt := by
  obtain ⟨h1, h2, h3⟩ := h
  refine ⟨h1, ?_, h3⟩
  unfold tw_TX at h2 ⊢
  rw [hs (x + 1) (by omega) (by omega), hs (x + 2) (by omega) (by omega), hs (x + 3) (by omega) (by omega)]
  exact h2
theorem tw_GH_cb (h : tw_GH G sh μ b) (hb : b ≤ x) : tw_GH G sh (tw_cwf μ x i w) b := fun y hy => ⟨(h y hy).1, by rw [tw_cwf_n (by omega)]; exact (h y hy).2⟩
theorem tw_nxt {k : Nat} (h : tw_TX μ x B e tt) (hi : i ≤ tt) (hk : tw_kd B e i = k) (h0 : 0 < k) : i + 1 ≤ tt := by
  rcases Nat.lt_or_ge i tt with g | g
  · omega
  · have : i = tt := by omega
    subst this
    have : tw_kd B e i = 0 := by
      unfold tw_kd tw_tk
      rw [h.2.2.1]
      exact if_pos (Nat.le_refl e)
    omega
-- the class, from one form to the next
theorem cb_W (hA : tw_Ab sh μ x t B e tt) (hG : tw_GH G sh μ b) (hbx : b ≤ x) (hc : tw_is sh x cl) (GS : tw_GS g G b) (h1 : Cond.stringRef own ix tx ∈ lw_tbl) (h2 : tx ∈ tw_words) (hi : i ≤ tt) (k : Int32 → tw_Mem → Prop) : tw_ls g own ix tx (fun a => tw_iv cl x (f_X7_takeWord x a k)) (sh, tw_cwf μ x i w, la, n) = if tw_iW B e i tx then k (nI 1) (sh, tw_cwf μ x (i + 1) w, la, n) else k (nI 0) (sh, tw_cwf μ x i w, la, n) := by
  refine tw_ls_u GS h1 h2 (fun a S => ?_)
  rw [A_iv, eq_true hc, true_and, c_takeW (tw_GH_cb hG hbx) S (tw_Ab_cb hA hi), tw_cwf_i]
theorem cb_N (hA : tw_Ab sh μ x t B e tt) (hlo : lo < 2 ^ 31) (hi : i ≤ tt) (k : Int32 → tw_Mem → Prop) : f_X7_takeNumber x (nI lo) v k (sh, tw_cwf μ x i w, la, n) = if tw_iN B e i lo v then k (nI 1) (sh, tw_cwf μ x (i + 1) (nI (tw_vd B e i)), la, n) else k (nI 0) (sh, tw_cwf μ x i w, la, n) := by
  rw [c_takeN (tw_Ab_cb hA hi) hlo, tw_cwf_w]
theorem cb_N0 (hA : tw_Ab sh μ x t B e tt) (hi : i ≤ tt) (k : Int32 → tw_Mem → Prop) : f_X7_takeNumber x 0 v k (sh, tw_cwf μ x i w, la, n) = if tw_iN B e i 0 v then k (nI 1) (sh, tw_cwf μ x (i + 1) (nI (tw_vd B e i)), la, n) else k (nI 0) (sh, tw_cwf μ x i w, la, n) := cb_N (lo := 0) hA (by omega) hi k
theorem cb_N1 (hA : tw_Ab sh μ x t B e tt) (hi : i ≤ tt) (k : Int32 → tw_Mem → Prop) : f_X7_takeNumber x 1 v k (sh, tw_cwf μ x i w, la, n) = if tw_iN B e i 1 v then k (nI 1) (sh, tw_cwf μ x (i + 1) (nI (tw_vd B e i)), la, n) else k (nI 0) (sh, tw_cwf μ x i w, la, n) := cb_N (lo := 1) hA (by omega) hi k
theorem cb_S (hA : tw_Ab sh μ x t B e tt) (hc : c < 2 ^ 31) (hi : i ≤ tt) (k : Int32 → tw_Mem → Prop) : f_X7_takeSign x (nI c) k (sh, tw_cwf μ x i w, la, n) = if tw_iS B e i c then k (nI 1) (sh, tw_cwf μ x (i + 1) w, la, n) else k (nI 0) (sh, tw_cwf μ x i w, la, n) := by
  rw [c_takeS (tw_Ab_cb hA hi) hc, tw_cwf_i]
theorem cb_is (hA : tw_Ab sh μ x t B e tt) (hi : i ≤ tt) (k : Int32 → tw_Mem → Prop) : f_X7_isNumber x v k (sh, tw_cwf μ x i w, la, n) = if tw_kd B e i = 2 ∧ nI (tw_vd B e i) = v then k (nI 1) (sh, tw_cwf μ x i w, la, n) else k (nI 0) (sh, tw_cwf μ x i w, la, n) := c_isNum (tw_Ab_cb hA hi) k
theorem cb_last (hA : tw_Ab sh μ x t B e tt) (k : Int32 → tw_Mem → Prop) : f_X7_lastTaken x k (sh, tw_cwf μ x i w, la, n) = k w (sh, tw_cwf μ x i w, la, n) := by
  unfold f_X7_lastTaken
  rw [XsI12 hA.1, tw_cwf_12]
theorem cb_end (hA : tw_Ab sh μ x t B e tt) (hi : i ≤ tt) (k : Int32 → tw_Mem → Prop) : f_X7_isAtEnd x k (sh, tw_cwf μ x i w, la, n) = if tw_kd B e i = 0 then k (nI 1) (sh, tw_cwf μ x i w, la, n) else k (nI 0) (sh, tw_cwf μ x i w, la, n) := c_atEnd (tw_Ab_cb hA hi) k
theorem cb_place (hA : tw_Ab sh μ x t B e tt) (hi : i ≤ tt) (k : Int32 → tw_Mem → Prop) : f_X7_place x k (sh, tw_cwf μ x i w, la, n) = k (nI (tw_tg B e i)) (sh, tw_cwf μ x i w, la, n) := c_place (tw_Ab_cb hA hi) k
-- the model
theorem mb_Wp (h : tw_Mt sh μ m B e) (hG : tw_GH G sh μ b) (hbm : b ≤ m) (GS : tw_GS g G b) (h1 : Cond.stringRef own ix tx ∈ lw_tbl) (h2 : tx ∈ tw_words) (ho : tw_on B e i p) (k : Int32 → tw_Mem → Prop) : tw_ls g own ix tx (fun a => tw_iv 11 m (f_X12_passes m a k)) (sh, tw_pb μ m p q, la, n) = if tw_iW B e i tx then k (nI 1) (sh, tw_pb μ m (tw_tp B e (i + 1)) (tw_tg B e i), la, n) else k (nI 0) (sh, tw_pb μ m (tw_tg B e i) (tw_tg B e i), la, n) := by
  refine tw_ls_u GS h1 h2 (fun a S => ?_)
  rw [MoV0 h.1, m_passes1 h hG hbm S ho]
theorem mb_Wi (h : tw_Mt sh μ m B e) (hG : tw_GH G sh μ b) (hbm : b ≤ m) (GS : tw_GS g G b) (h1 : Cond.stringRef own ix tx ∈ lw_tbl) (h2 : tx ∈ tw_words) (k : Int32 → tw_Mem → Prop) : tw_ls g own ix tx (fun a => tw_iv 11 m (f_X12_isWord m a k)) (sh, tw_pb μ m (tw_tle B e (tw_tg B e i)) (tw_tg B e i), la, n) = if tw_iW B e i tx then k (nI 1) (sh, tw_pb μ m (tw_tle B e (tw_tg B e i)) (tw_tg B e i), la, n) else k (nI 0) (sh, tw_pb μ m (tw_tle B e (tw_tg B e i)) (tw_tg B e i), la, n) := by
  refine tw_ls_u GS h1 h2 (fun a S => ?_)
  rw [MoV0 h.1, m_isWord1 h hG hbm S]
theorem mb_N0 (h : tw_Mt sh μ m B e) (ho : tw_on B e i p) (hv : v < nI 1000) (k : Int32 → tw_Mem → Prop) : f_X12_number m 0 v k (sh, tw_pb μ m p q, la, n) = if tw_iN B e i 0 v then k (nI (tw_vd B e i)) (sh, tw_pb μ m (tw_tp B e (i + 1)) (tw_tg B e i), la, n) else k mI (sh, tw_pb μ m (tw_tde B e (tw_tg B e i)) (tw_tg B e i), la, n) := m_number1 (lo := 0) h ho (by omega) hv k
theorem mb_rdN (h : tw_Mt sh μ m B e) (ho : tw_on B e i p) (hlo : lo < 2 ^ 31) (hv : v < nI 1000) (hB : ∀ j, B j < 256) (hT : μ (m + 1) = T) (hc : c < 2190) (k : Int32 → tw_Mem → Prop) : f_X12_readNumber m (nI c) (nI lo) v k (sh, tw_pb μ m p q, la, n) = if tw_iN B e i lo v then k (nI 1) (sh, tw_pb (tw_ra μ (m + 1) (tw_u1 T c (nI (tw_vd B e i)))) m (tw_tp B e (i + 1)) (tw_tg B e i), la, n) else k (nI 0) (sh, tw_pb μ m (tw_tde B e (tw_tg B e i)) (tw_tg B e i), la, n) := by
  have hM := h.1
  have hV := tw_tv_l hB e (tw_tg B e i)
  have hn : mI < nI 0 := by decide
  have hn2 : ¬ nI (tw_vd B e i) < nI 0 := by unfold tw_vd; rw [nz_lt (by omega) (by omega)]; omega
  unfold f_X12_readNumber
  rw [MoV0 hM, m_number1 h ho hlo hv]
  by_cases q1 : tw_iN B e i lo v
  · rw [if_pos q1, if_pos q1]
    simp (disch := omega) only [hn2, or_true, true_or, tl_0, tl_1, ↓MoV0 hM, ↓MoI0_70 hM, ↓MoP0_70 hM, ↓MoZ0_70 hM, ↓MoG0_71 hM, ↓MoG0_72 hM, ↓MoG0_73 hM, ↓MoG0_74 hM, ↓MoG0_75 hM, ↓MoI0_76 hM, ↓MoP0_76 hM, ↓MoZ0_76 hM, ↓MoI0_77 hM, ↓MoP0_77 hM, ↓MoZ0_77 hM, ↓MoG0_78 hM, ↓MoI0_79 hM, ↓MoP0_79 hM, ↓MoZ0_79 hM, ↓MoI0_80 hM, ↓MoP0_80 hM, ↓MoZ0_80 hM, ↓MoI0_81 hM, ↓MoP0_81 hM, ↓MoZ0_81 hM, ↓MoI0_82 hM, ↓MoP0_82 hM, ↓MoZ0_82 hM, ↓MoI0_83 hM, ↓MoP0_83 hM, ↓MoZ0_83 hM, ↓MoI0_84 hM, ↓MoP0_84 hM, ↓MoZ0_84 hM, ↓MoG0_85 hM, ↓MoI0_86 hM, ↓MoP0_86 hM, ↓MoZ0_86 hM, ↓MoG0_87 hM, ↓MoI0_88 hM, ↓MoP0_88 hM, ↓MoZ0_88 hM, ↓MoG0_89 hM, ↓MoG0_90 hM, ↓MoG0_91 hM, ↓MoG0_92 hM, ↓MoL0 hM, ↓MoS0 hM, ↓MoL1 hM, ↓MoS1 hM, ↓MoL2 hM, ↓MoS2 hM, ↓MoL3 hM, ↓MoS3 hM, ↓MoL4 hM, ↓MoS4 hM, ↓MoL5 hM, ↓MoS5 hM, ↓MoL6 hM, ↓MoS6 hM, ↓MoL7 hM, ↓MoS7 hM, ↓MoL8 hM, ↓MoS8 hM, ↓MoL9 hM, ↓MoS9 hM, ↓MoL10 hM, ↓MoS10 hM, ↓MoL11 hM, ↓MoS11 hM, ↓A_if, ↓A_jn, ↓A_lt, ↓A_rz, ↓A_rn, ↓A_nzi, ↓A_nzl, ↓A_nn1, ↓A_nn0, ↓reduceIte, true_and, and_true, if_true, if_false, ite_true, ite_false, reduceIte]
    rw [tw_pb_c (by omega), tw_up_as, hT]
  · rw [if_neg q1, if_neg q1]
    have e1 : tw_pb μ m (tw_tde B e (tw_tg B e i)) (tw_tg B e i) (m + 1) c = T c := by rw [tw_pb_n (by omega), hT]
    have e2 : tw_up (tw_pb μ m (tw_tde B e (tw_tg B e i)) (tw_tg B e i)) (m + 1) c (T c) = tw_pb μ m (tw_tde B e (tw_tg B e i)) (tw_tg B e i) := by
      rw [← e1, tw_up_as, tw_u1_self, tw_ra_s]
    simp (disch := omega) only [hn, e1, e2, or_true, true_or, tl_0, tl_1, ↓MoV0 hM, ↓MoI0_70 hM, ↓MoP0_70 hM, ↓MoZ0_70 hM, ↓MoG0_71 hM, ↓MoG0_72 hM, ↓MoG0_73 hM, ↓MoG0_74 hM, ↓MoG0_75 hM, ↓MoI0_76 hM, ↓MoP0_76 hM, ↓MoZ0_76 hM, ↓MoI0_77 hM, ↓MoP0_77 hM, ↓MoZ0_77 hM, ↓MoG0_78 hM, ↓MoI0_79 hM, ↓MoP0_79 hM, ↓MoZ0_79 hM, ↓MoI0_80 hM, ↓MoP0_80 hM, ↓MoZ0_80 hM, ↓MoI0_81 hM, ↓MoP0_81 hM, ↓MoZ0_81 hM, ↓MoI0_82 hM, ↓MoP0_82 hM, ↓MoZ0_82 hM, ↓MoI0_83 hM, ↓MoP0_83 hM, ↓MoZ0_83 hM, ↓MoI0_84 hM, ↓MoP0_84 hM, ↓MoZ0_84 hM, ↓MoG0_85 hM, ↓MoI0_86 hM, ↓MoP0_86 hM, ↓MoZ0_86 hM, ↓MoG0_87 hM, ↓MoI0_88 hM, ↓MoP0_88 hM, ↓MoZ0_88 hM, ↓MoG0_89 hM, ↓MoG0_90 hM, ↓MoG0_91 hM, ↓MoG0_92 hM, ↓MoL0 hM, ↓MoS0 hM, ↓MoL1 hM, ↓MoS1 hM, ↓MoL2 hM, ↓MoS2 hM, ↓MoL3 hM, ↓MoS3 hM, ↓MoL4 hM, ↓MoS4 hM, ↓MoL5 hM, ↓MoS5 hM, ↓MoL6 hM, ↓MoS6 hM, ↓MoL7 hM, ↓MoS7 hM, ↓MoL8 hM, ↓MoS8 hM, ↓MoL9 hM, ↓MoS9 hM, ↓MoL10 hM, ↓MoS10 hM, ↓MoL11 hM, ↓MoS11 hM, ↓A_if, ↓A_jn, ↓A_lt, ↓A_rz, ↓A_rn, ↓A_nzi, ↓A_nzl, ↓A_nn1, ↓A_nn0, ↓reduceIte, true_and, and_true, if_true, if_false, ite_true, ite_false, reduceIte]
theorem tw_Mt_ra (h : tw_Mt sh μ m B e) {s : Nat → Int32} : tw_Mt sh (tw_ra μ (m + 1) s) m B e := ⟨h.1, by rw [tw_ra_nj (by omega)]; exact h.2.1, h.2.2.1, by rw [tw_ra_n (by omega)]; exact h.2.2.2.1, h.2.2.2.2⟩
theorem tw_GH_ra (h : tw_GH G sh μ b) {s : Nat → Int32} (hb : b ≤ y) : tw_GH G sh (tw_ra μ y s) b := fun z hz => ⟨(h z hz).1, by rw [tw_ra_n (by omega)]; exact (h z hz).2⟩
theorem tw_GH_s (h : tw_GH G sh μ b) (hs : ∀ z, z < b → μ' z = μ z) : tw_GH G sh μ' b := fun z hz => ⟨(h z hz).1, by rw [hs z hz]; exact (h z hz).2⟩
end P99d
