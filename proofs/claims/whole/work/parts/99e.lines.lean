/-! ===== pure: lines of a town's text ===== -/
def tw_tx (B : Nat → Nat) (e tt : Nat) : Prop := tt ≤ e ∧ e ≤ 400 ∧ tw_tg B e tt = e ∧ (∀ i, i < tt → tw_tg B e i < e) ∧ ∀ j, B j < 256
/-- what a line leaves of a town -/
def tw_Li (T T' : Nat → Int32) (P' : Nat) : Prop := tw_WF T' P' ∧ T' 1 = T 1 ∧ T' 2 = T 2 ∧ ∀ j, 492 ≤ j → T' j = T j
def tw_lc9 (sh : tw_Sh) (G : tw_Gm) (b : Nat) (B : Nat → Nat) (e tt i i' : Nat) (ok : Bool) (T T' : Nat → Int32) (fc : (Int32 → tw_Mem → Prop) → tw_Mem → Prop) : Prop := ∀ μ w, tw_Ab sh μ (b + 140) (b + 1) B e tt → tw_GH G sh μ b → tw_RC sh μ (b + 12) T → ∃ μ' w', tw_fx (b + 12) (b + 12 + 9) μ μ' ∧ tw_RC sh μ' (b + 12) T' ∧ ∀ la n k, fc k (sh, tw_cwf μ (b + 140) i w, la, n) = k (tw_bo ok) (sh, tw_cwf μ' (b + 140) i' w', la, n)
def tw_lm9 (sh : tw_Sh) (G : tw_Gm) (b : Nat) (B : Nat → Nat) (e p i' : Nat) (ok : Bool) (T T' : Nat → Int32) (fm : (Int32 → tw_Mem → Prop) → tw_Mem → Prop) : Prop := ∀ ν q, tw_Mt sh ν (b + 168) B e → tw_GH G sh ν b → ν (b + 168 + 1) = T → ∃ p' q', (ok = true → tw_on B e i' p') ∧ (ok = false → q' = tw_tg B e i') ∧ ∀ la n k, fm k (sh, tw_pb ν (b + 168) p q, la, n) = k (tw_bo ok) (sh, tw_pb (tw_ra ν (b + 168 + 1) T') (b + 168) p' q', la, n)
section P99e
variable {sh : tw_Sh} {μ μ' ν : Nat → Nat → Int32} {la : Nat → Nat → Int64} {n a b x y m t tt e i lo hi c cl p q p' q' z ix i' P o h l : Nat} {G : tw_Gm} {g : tw_Gx} {own tx : String} {B : Nat → Nat} {v w w' : Int32} {T T' : Nat → Int32}
theorem tw_fx_r {lo hi : Nat} : tw_fx lo hi μ μ := fun _ _ => rfl
theorem tw_Li_r (W : tw_WF T P) : tw_Li T T P := ⟨W, rfl, rfl, fun _ _ => rfl⟩
theorem tw_bo_t : tw_bo true = nI 1 := rfl
theorem tw_bo_f : tw_bo false = nI 0 := rfl
theorem tw_rz_b {ok : Bool} (F : tw_Mem → Prop) (M : tw_Mem) : tw_rz (tw_bo ok) F M = F M := by
  rw [A_rz]
  apply propext
  constructor
  · exact fun g => g.2
  · intro g
    refine ⟨?_, g⟩
    cases ok
    · exact Or.inl rfl
    · exact Or.inr rfl
theorem tw_nx1 {k : Nat} (h : tw_tx B e tt) (hi : i ≤ tt) (hk : tw_kd B e i = k) (h0 : 0 < k) : i + 1 ≤ tt := by
  rcases Nat.lt_or_ge i tt with g | g
  · omega
  · have : i = tt := by omega
    subst this
    have : tw_kd B e i = 0 := by
      unfold tw_kd tw_tk
      rw [h.2.2.1]
      exact if_pos (Nat.le_refl e)
    omega
theorem tw_iN_v (h : tw_tx B e tt) (hn : tw_iN B e i lo (nI hi)) (hh : hi < 2 ^ 31) : lo ≤ tw_vd B e i ∧ tw_vd B e i ≤ hi ∧ tw_vd B e i < 2 ^ 30 := by
  have hV := tw_tv_l h.2.2.2.2 e (tw_tg B e i)
  obtain ⟨_, h2, h3⟩ := hn
  unfold tw_vd at *
  rw [nz_lt (by omega) (by omega)] at h3
  exact ⟨h2, by omega, hV⟩
/-- one of the P people -/
theorem tw_iN_P (h : tw_tx B e tt) (h8 : P ≤ 8) (hn : tw_iN B e i 0 (nI P - nI 1)) : tw_vd B e i < P := by
  have hV := tw_tv_l h.2.2.2.2 e (tw_tg B e i)
  obtain ⟨_, _, h3⟩ := hn
  unfold tw_vd at *
  rcases Nat.eq_zero_or_pos P with g | g
  · subst g
    exfalso
    have : nI 0 - nI 1 < nI (tw_tv B e (tw_tg B e i)) := by
      have e1 : nI 0 - nI 1 = mI := by decide
      rw [e1]
      exact of_eq_true (mI_lt (by omega))
    exact h3 this
  · rw [nz_sub (by omega), nz_lt (by omega) (by omega)] at h3
    omega
theorem tw_P1 (h8 : P ≤ 8) : nI P - nI 1 < nI 1000 := by
  rcases (by omega : P = 0 ∨ P = 1 ∨ P = 2 ∨ P = 3 ∨ P = 4 ∨ P = 5 ∨ P = 6 ∨ P = 7 ∨ P = 8) with rfl | rfl | rfl | rfl | rfl | rfl | rfl | rfl | rfl <;> decide
theorem tw_RC_cwf (H : tw_RC sh μ (b + 12) T) : tw_RC sh (tw_cwf μ (b + 140) i w) (b + 12) T := Rc_same H (fun y h1 h2 => tw_cwf_n (by omega))
theorem l_hour (hT : tw_tx B e tt) (hX : tw_Tx sh b) (W : tw_WF T P) (hi : i ≤ tt) : ∃ ok i' T' P', i ≤ i' ∧ i' ≤ tt ∧ tw_Li T T' P' ∧ tw_lc9 sh G b B e tt i i' ok T T' (f_X9_takeHourLine (b + 140)) ∧ tw_lm9 sh G b B e (tw_tp B e i) i' ok T T' (f_X12_readNumber (b + 168) 3 0 11) := by
  have h11 : (11 : Int32) < nI 1000 := by decide
  by_cases q1 : tw_iN B e i 0 (11 : Int32)
  · obtain ⟨v1, v2, v3⟩ := tw_iN_v (hi := 11) hT q1 (by omega)
    refine ⟨true, i + 1, tw_u1 T 3 (nI (tw_vd B e i)), P, by omega, tw_nx1 hT hi q1.1 (by omega), ⟨Wf_s3 W (by omega), tw_u1n (by omega), tw_u1n (by omega), fun j hj => tw_u1n (by omega)⟩, fun μ w hA hG H => ⟨tw_up μ (b + 12) 48 (nI (tw_vd B e i)), nI (tw_vd B e i), fun y hy => tw_up_ne (by omega), Rc_set48 H _, fun la n k => ?_⟩, fun ν q hM hG hT1 => ⟨tw_tp B e (i + 1), tw_tg B e i, fun _ => tw_on_p _ _ _, fun h => Bool.noConfusion h, fun la n k => ?_⟩⟩
    · have H2 := (tw_RC_cwf (i := i + 1) (w := nI (tw_vd B e i)) H).1
      have E1 := fun k => cb_N0 (la := la) (n := n) (w := w) (v := 11) hA hi k
      simp only [if_pos q1] at E1
      have E2 := fun k => cb_last (la := la) (n := n) (i := i + 1) (w := nI (tw_vd B e i)) hA k
      have n10 : ¬ nI 1 = nI 0 := by decide
      have H3 := tw_pi_is (sh := sh) (μ := tw_cwf μ (b + 140) (i + 1) (nI (tw_vd B e i))) (la := la) (n := n) (q := 48) (y := b + 12) (of_eq_true (Tn_f48 H.1))
      simp only [f_X9_takeHourLine, ↓E1, ↓E2, ↓H3, n10, tl_0, tl_1, or_true, true_or, tw_bo_t, ↓TxV0 hX, ↓TxW0 hX, ↓TxG0_6 hX, ↓TxG0_7 hX, ↓TxG0_8 hX, ↓TxG0_9 hX, ↓TxI0_10 hX, ↓TxP0_10 hX, ↓TxZ0_10 hX, ↓TxI0_11 hX, ↓TxP0_11 hX, ↓TxZ0_11 hX, ↓TxI0_12 hX, ↓TxP0_12 hX, ↓TxZ0_12 hX, ↓TxG0_53 hX, ↓TxV1 hX, ↓TxW1 hX, ↓TxG1_6 hX, ↓TxG1_7 hX, ↓TxG1_8 hX, ↓TxG1_9 hX, ↓TxI1_10 hX, ↓TxP1_10 hX, ↓TxZ1_10 hX, ↓TxI1_11 hX, ↓TxP1_11 hX, ↓TxZ1_11 hX, ↓TxI1_12 hX, ↓TxP1_12 hX, ↓TxZ1_12 hX, ↓TxG1_13 hX, ↓TxG1_14 hX, ↓TxG1_15 hX, ↓TxG1_16 hX, ↓TxI1_17 hX, ↓TxP1_17 hX, ↓TxZ1_17 hX, ↓TxI1_18 hX, ↓TxP1_18 hX, ↓TxZ1_18 hX, ↓TxL0 hX, ↓TxS0 hX, ↓TxL1 hX, ↓TxS1 hX, ↓TxL2 hX, ↓TxS2 hX, ↓TxL3 hX, ↓TxS3 hX, ↓TxL4 hX, ↓TxS4 hX, ↓TxL5 hX, ↓TxS5 hX, ↓TxL6 hX, ↓TxS6 hX, ↓TxL7 hX, ↓TxS7 hX, ↓TxL8 hX, ↓TxS8 hX, ↓TxL9 hX, ↓TxS9 hX, ↓A_if, ↓A_jn, ↓A_lt, ↓A_rz, ↓A_rn, ↓A_nzi, ↓A_nzl, ↓A_nn1, ↓A_nn0, ↓reduceIte, true_and, and_true, if_true, if_false, ite_true, ite_false, reduceIte]
      rw [tw_cwf_c (by omega)]
    · refine (mb_rdN (c := 3) (lo := 0) hM (tw_on_p _ _ _) (by omega) h11 hT.2.2.2.2 hT1 (by omega) k).trans ?_
      rw [if_pos q1]
      rfl
  · refine ⟨false, i, T, P, Nat.le_refl _, hi, tw_Li_r W, fun μ w hA hG H => ⟨μ, w, tw_fx_r, H, fun la n k => ?_⟩, fun ν q hM hG hT1 => ⟨tw_tde B e (tw_tg B e i), tw_tg B e i, fun h => Bool.noConfusion h, fun _ => rfl, fun la n k => ?_⟩⟩
    · have E1 := fun k => cb_N0 (la := la) (n := n) (w := w) (v := 11) hA hi k
      simp only [if_neg q1] at E1
      simp only [f_X9_takeHourLine, ↓E1, tl_0, tl_1, or_true, true_or, tw_bo_f, ↓TxV0 hX, ↓TxW0 hX, ↓TxG0_6 hX, ↓TxG0_7 hX, ↓TxG0_8 hX, ↓TxG0_9 hX, ↓TxI0_10 hX, ↓TxP0_10 hX, ↓TxZ0_10 hX, ↓TxI0_11 hX, ↓TxP0_11 hX, ↓TxZ0_11 hX, ↓TxI0_12 hX, ↓TxP0_12 hX, ↓TxZ0_12 hX, ↓TxG0_53 hX, ↓TxV1 hX, ↓TxW1 hX, ↓TxG1_6 hX, ↓TxG1_7 hX, ↓TxG1_8 hX, ↓TxG1_9 hX, ↓TxI1_10 hX, ↓TxP1_10 hX, ↓TxZ1_10 hX, ↓TxI1_11 hX, ↓TxP1_11 hX, ↓TxZ1_11 hX, ↓TxI1_12 hX, ↓TxP1_12 hX, ↓TxZ1_12 hX, ↓TxG1_13 hX, ↓TxG1_14 hX, ↓TxG1_15 hX, ↓TxG1_16 hX, ↓TxI1_17 hX, ↓TxP1_17 hX, ↓TxZ1_17 hX, ↓TxI1_18 hX, ↓TxP1_18 hX, ↓TxZ1_18 hX, ↓TxL0 hX, ↓TxS0 hX, ↓TxL1 hX, ↓TxS1 hX, ↓TxL2 hX, ↓TxS2 hX, ↓TxL3 hX, ↓TxS3 hX, ↓TxL4 hX, ↓TxS4 hX, ↓TxL5 hX, ↓TxS5 hX, ↓TxL6 hX, ↓TxS6 hX, ↓TxL7 hX, ↓TxS7 hX, ↓TxL8 hX, ↓TxS8 hX, ↓TxL9 hX, ↓TxS9 hX, ↓A_if, ↓A_jn, ↓A_lt, ↓A_rz, ↓A_rn, ↓A_nzi, ↓A_nzl, ↓A_nn1, ↓A_nn0, ↓reduceIte, true_and, and_true, if_true, if_false, ite_true, ite_false, reduceIte]
    · refine (mb_rdN (c := 3) (lo := 0) hM (tw_on_p _ _ _) (by omega) h11 hT.2.2.2.2 hT1 (by omega) k).trans ?_
      rw [if_neg q1, ← hT1, tw_ra_s]
      rfl
theorem l_day (hT : tw_tx B e tt) (hX : tw_Tx sh b) (W : tw_WF T P) (hi : i ≤ tt) : ∃ ok i' T' P', i ≤ i' ∧ i' ≤ tt ∧ tw_Li T T' P' ∧ tw_lc9 sh G b B e tt i i' ok T T' (f_X9_takeDayLine (b + 140)) ∧ tw_lm9 sh G b B e (tw_tp B e i) i' ok T T' (f_X12_readNumber (b + 168) 4 0 999) := by
  have h11 : (999 : Int32) < nI 1000 := by decide
  by_cases q1 : tw_iN B e i 0 (999 : Int32)
  · obtain ⟨v1, v2, v3⟩ := tw_iN_v (hi := 999) hT q1 (by omega)
    refine ⟨true, i + 1, tw_u1 T 4 (nI (tw_vd B e i)), P, by omega, tw_nx1 hT hi q1.1 (by omega), ⟨Wf_s4 W (by omega), tw_u1n (by omega), tw_u1n (by omega), fun j hj => tw_u1n (by omega)⟩, fun μ w hA hG H => ⟨tw_up μ (b + 12) 49 (nI (tw_vd B e i)), nI (tw_vd B e i), fun y hy => tw_up_ne (by omega), Rc_set49 H _, fun la n k => ?_⟩, fun ν q hM hG hT1 => ⟨tw_tp B e (i + 1), tw_tg B e i, fun _ => tw_on_p _ _ _, fun h => Bool.noConfusion h, fun la n k => ?_⟩⟩
    · have H2 := (tw_RC_cwf (i := i + 1) (w := nI (tw_vd B e i)) H).1
      have E1 := fun k => cb_N0 (la := la) (n := n) (w := w) (v := 999) hA hi k
      simp only [if_pos q1] at E1
      have E2 := fun k => cb_last (la := la) (n := n) (i := i + 1) (w := nI (tw_vd B e i)) hA k
      have n10 : ¬ nI 1 = nI 0 := by decide
      have H3 := tw_pi_is (sh := sh) (μ := tw_cwf μ (b + 140) (i + 1) (nI (tw_vd B e i))) (la := la) (n := n) (q := 49) (y := b + 12) (of_eq_true (Tn_f49 H.1))
      simp only [f_X9_takeDayLine, ↓E1, ↓E2, ↓H3, n10, tl_0, tl_1, or_true, true_or, tw_bo_t, ↓TxV0 hX, ↓TxW0 hX, ↓TxG0_6 hX, ↓TxG0_7 hX, ↓TxG0_8 hX, ↓TxG0_9 hX, ↓TxI0_10 hX, ↓TxP0_10 hX, ↓TxZ0_10 hX, ↓TxI0_11 hX, ↓TxP0_11 hX, ↓TxZ0_11 hX, ↓TxI0_12 hX, ↓TxP0_12 hX, ↓TxZ0_12 hX, ↓TxG0_53 hX, ↓TxV1 hX, ↓TxW1 hX, ↓TxG1_6 hX, ↓TxG1_7 hX, ↓TxG1_8 hX, ↓TxG1_9 hX, ↓TxI1_10 hX, ↓TxP1_10 hX, ↓TxZ1_10 hX, ↓TxI1_11 hX, ↓TxP1_11 hX, ↓TxZ1_11 hX, ↓TxI1_12 hX, ↓TxP1_12 hX, ↓TxZ1_12 hX, ↓TxG1_13 hX, ↓TxG1_14 hX, ↓TxG1_15 hX, ↓TxG1_16 hX, ↓TxI1_17 hX, ↓TxP1_17 hX, ↓TxZ1_17 hX, ↓TxI1_18 hX, ↓TxP1_18 hX, ↓TxZ1_18 hX, ↓TxL0 hX, ↓TxS0 hX, ↓TxL1 hX, ↓TxS1 hX, ↓TxL2 hX, ↓TxS2 hX, ↓TxL3 hX, ↓TxS3 hX, ↓TxL4 hX, ↓TxS4 hX, ↓TxL5 hX, ↓TxS5 hX, ↓TxL6 hX, ↓TxS6 hX, ↓TxL7 hX, ↓TxS7 hX, ↓TxL8 hX, ↓TxS8 hX, ↓TxL9 hX, ↓TxS9 hX, ↓A_if, ↓A_jn, ↓A_lt, ↓A_rz, ↓A_rn, ↓A_nzi, ↓A_nzl, ↓A_nn1, ↓A_nn0, ↓reduceIte, true_and, and_true, if_true, if_false, ite_true, ite_false, reduceIte]
      rw [tw_cwf_c (by omega)]
    · refine (mb_rdN (c := 4) (lo := 0) hM (tw_on_p _ _ _) (by omega) h11 hT.2.2.2.2 hT1 (by omega) k).trans ?_
      rw [if_pos q1]
      rfl
  · refine ⟨false, i, T, P, Nat.le_refl _, hi, tw_Li_r W, fun μ w hA hG H => ⟨μ, w, tw_fx_r, H, fun la n k => ?_⟩, fun ν q hM hG hT1 => ⟨tw_tde B e (tw_tg B e i), tw_tg B e i, fun h => Bool.noConfusion h, fun _ => rfl, fun la n k => ?_⟩⟩
    · have E1 := fun k => cb_N0 (la := la) (n := n) (w := w) (v := 999) hA hi k
      simp only [if_neg q1] at E1
      simp only [f_X9_takeDayLine, ↓E1, tl_0, tl_1, or_true, true_or, tw_bo_f, ↓TxV0 hX, ↓TxW0 hX, ↓TxG0_6 hX, ↓TxG0_7 hX, ↓TxG0_8 hX, ↓TxG0_9 hX, ↓TxI0_10 hX, ↓TxP0_10 hX, ↓TxZ0_10 hX, ↓TxI0_11 hX, ↓TxP0_11 hX, ↓TxZ0_11 hX, ↓TxI0_12 hX, ↓TxP0_12 hX, ↓TxZ0_12 hX, ↓TxG0_53 hX, ↓TxV1 hX, ↓TxW1 hX, ↓TxG1_6 hX, ↓TxG1_7 hX, ↓TxG1_8 hX, ↓TxG1_9 hX, ↓TxI1_10 hX, ↓TxP1_10 hX, ↓TxZ1_10 hX, ↓TxI1_11 hX, ↓TxP1_11 hX, ↓TxZ1_11 hX, ↓TxI1_12 hX, ↓TxP1_12 hX, ↓TxZ1_12 hX, ↓TxG1_13 hX, ↓TxG1_14 hX, ↓TxG1_15 hX, ↓TxG1_16 hX, ↓TxI1_17 hX, ↓TxP1_17 hX, ↓TxZ1_17 hX, ↓TxI1_18 hX, ↓TxP1_18 hX, ↓TxZ1_18 hX, ↓TxL0 hX, ↓TxS0 hX, ↓TxL1 hX, ↓TxS1 hX, ↓TxL2 hX, ↓TxS2 hX, ↓TxL3 hX, ↓TxS3 hX, ↓TxL4 hX, ↓TxS4 hX, ↓TxL5 hX, ↓TxS5 hX, ↓TxL6 hX, ↓TxS6 hX, ↓TxL7 hX, ↓TxS7 hX, ↓TxL8 hX, ↓TxS8 hX, ↓TxL9 hX, ↓TxS9 hX, ↓A_if, ↓A_jn, ↓A_lt, ↓A_rz, ↓A_rn, ↓A_nzi, ↓A_nzl, ↓A_nn1, ↓A_nn0, ↓reduceIte, true_and, and_true, if_true, if_false, ite_true, ite_false, reduceIte]
    · refine (mb_rdN (c := 4) (lo := 0) hM (tw_on_p _ _ _) (by omega) h11 hT.2.2.2.2 hT1 (by omega) k).trans ?_
      rw [if_neg q1, ← hT1, tw_ra_s]
      rfl
theorem l_doubt (hT : tw_tx B e tt) (hX : tw_Tx sh b) (W : tw_WF T P) (hi : i ≤ tt) : ∃ ok i' T' P', i ≤ i' ∧ i' ≤ tt ∧ tw_Li T T' P' ∧ tw_lc9 sh G b B e tt i i' ok T T' (f_X9_takeDoubtLine (b + 140)) ∧ tw_lm9 sh G b B e (tw_tp B e i) i' ok T T' (f_X12_readNumber (b + 168) 5 1 9) := by
  have h11 : (9 : Int32) < nI 1000 := by decide
  by_cases q1 : tw_iN B e i 1 (9 : Int32)
  · obtain ⟨v1, v2, v3⟩ := tw_iN_v (hi := 9) hT q1 (by omega)
    refine ⟨true, i + 1, tw_u1 T 5 (nI (tw_vd B e i)), P, by omega, tw_nx1 hT hi q1.1 (by omega), ⟨Wf_s5 W (by omega) (by omega), tw_u1n (by omega), tw_u1n (by omega), fun j hj => tw_u1n (by omega)⟩, fun μ w hA hG H => ⟨tw_up μ (b + 12) 50 (nI (tw_vd B e i)), nI (tw_vd B e i), fun y hy => tw_up_ne (by omega), Rc_set50 H _, fun la n k => ?_⟩, fun ν q hM hG hT1 => ⟨tw_tp B e (i + 1), tw_tg B e i, fun _ => tw_on_p _ _ _, fun h => Bool.noConfusion h, fun la n k => ?_⟩⟩
    · have H2 := (tw_RC_cwf (i := i + 1) (w := nI (tw_vd B e i)) H).1
      have E1 := fun k => cb_N1 (la := la) (n := n) (w := w) (v := 9) hA hi k
      simp only [if_pos q1] at E1
      have E2 := fun k => cb_last (la := la) (n := n) (i := i + 1) (w := nI (tw_vd B e i)) hA k
      have n10 : ¬ nI 1 = nI 0 := by decide
      have H3 := tw_pi_is (sh := sh) (μ := tw_cwf μ (b + 140) (i + 1) (nI (tw_vd B e i))) (la := la) (n := n) (q := 50) (y := b + 12) (of_eq_true (Tn_f50 H.1))
      simp only [f_X9_takeDoubtLine, ↓E1, ↓E2, ↓H3, n10, tl_0, tl_1, or_true, true_or, tw_bo_t, ↓TxV0 hX, ↓TxW0 hX, ↓TxG0_6 hX, ↓TxG0_7 hX, ↓TxG0_8 hX, ↓TxG0_9 hX, ↓TxI0_10 hX, ↓TxP0_10 hX, ↓TxZ0_10 hX, ↓TxI0_11 hX, ↓TxP0_11 hX, ↓TxZ0_11 hX, ↓TxI0_12 hX, ↓TxP0_12 hX, ↓TxZ0_12 hX, ↓TxG0_53 hX, ↓TxV1 hX, ↓TxW1 hX, ↓TxG1_6 hX, ↓TxG1_7 hX, ↓TxG1_8 hX, ↓TxG1_9 hX, ↓TxI1_10 hX, ↓TxP1_10 hX, ↓TxZ1_10 hX, ↓TxI1_11 hX, ↓TxP1_11 hX, ↓TxZ1_11 hX, ↓TxI1_12 hX, ↓TxP1_12 hX, ↓TxZ1_12 hX, ↓TxG1_13 hX, ↓TxG1_14 hX, ↓TxG1_15 hX, ↓TxG1_16 hX, ↓TxI1_17 hX, ↓TxP1_17 hX, ↓TxZ1_17 hX, ↓TxI1_18 hX, ↓TxP1_18 hX, ↓TxZ1_18 hX, ↓TxL0 hX, ↓TxS0 hX, ↓TxL1 hX, ↓TxS1 hX, ↓TxL2 hX, ↓TxS2 hX, ↓TxL3 hX, ↓TxS3 hX, ↓TxL4 hX, ↓TxS4 hX, ↓TxL5 hX, ↓TxS5 hX, ↓TxL6 hX, ↓TxS6 hX, ↓TxL7 hX, ↓TxS7 hX, ↓TxL8 hX, ↓TxS8 hX, ↓TxL9 hX, ↓TxS9 hX, ↓A_if, ↓A_jn, ↓A_lt, ↓A_rz, ↓A_rn, ↓A_nzi, ↓A_nzl, ↓A_nn1, ↓A_nn0, ↓reduceIte, true_and, and_true, if_true, if_false, ite_true, ite_false, reduceIte]
      rw [tw_cwf_c (by omega)]
    · refine (mb_rdN (c := 5) (lo := 1) hM (tw_on_p _ _ _) (by omega) h11 hT.2.2.2.2 hT1 (by omega) k).trans ?_
      rw [if_pos q1]
      rfl
  · refine ⟨false, i, T, P, Nat.le_refl _, hi, tw_Li_r W, fun μ w hA hG H => ⟨μ, w, tw_fx_r, H, fun la n k => ?_⟩, fun ν q hM hG hT1 => ⟨tw_tde B e (tw_tg B e i), tw_tg B e i, fun h => Bool.noConfusion h, fun _ => rfl, fun la n k => ?_⟩⟩
    · have E1 := fun k => cb_N1 (la := la) (n := n) (w := w) (v := 9) hA hi k
      simp only [if_neg q1] at E1
      simp only [f_X9_takeDoubtLine, ↓E1, tl_0, tl_1, or_true, true_or, tw_bo_f, ↓TxV0 hX, ↓TxW0 hX, ↓TxG0_6 hX, ↓TxG0_7 hX, ↓TxG0_8 hX, ↓TxG0_9 hX, ↓TxI0_10 hX, ↓TxP0_10 hX, ↓TxZ0_10 hX, ↓TxI0_11 hX, ↓TxP0_11 hX, ↓TxZ0_11 hX, ↓TxI0_12 hX, ↓TxP0_12 hX, ↓TxZ0_12 hX, ↓TxG0_53 hX, ↓TxV1 hX, ↓TxW1 hX, ↓TxG1_6 hX, ↓TxG1_7 hX, ↓TxG1_8 hX, ↓TxG1_9 hX, ↓TxI1_10 hX, ↓TxP1_10 hX, ↓TxZ1_10 hX, ↓TxI1_11 hX, ↓TxP1_11 hX, ↓TxZ1_11 hX, ↓TxI1_12 hX, ↓TxP1_12 hX, ↓TxZ1_12 hX, ↓TxG1_13 hX, ↓TxG1_14 hX, ↓TxG1_15 hX, ↓TxG1_16 hX, ↓TxI1_17 hX, ↓TxP1_17 hX, ↓TxZ1_17 hX, ↓TxI1_18 hX, ↓TxP1_18 hX, ↓TxZ1_18 hX, ↓TxL0 hX, ↓TxS0 hX, ↓TxL1 hX, ↓TxS1 hX, ↓TxL2 hX, ↓TxS2 hX, ↓TxL3 hX, ↓TxS3 hX, ↓TxL4 hX, ↓TxS4 hX, ↓TxL5 hX, ↓TxS5 hX, ↓TxL6 hX, ↓TxS6 hX, ↓TxL7 hX, ↓TxS7 hX, ↓TxL8 hX, ↓TxS8 hX, ↓TxL9 hX, ↓TxS9 hX, ↓A_if, ↓A_jn, ↓A_lt, ↓A_rz, ↓A_rn, ↓A_nzi, ↓A_nzl, ↓A_nn1, ↓A_nn0, ↓reduceIte, true_and, and_true, if_true, if_false, ite_true, ite_false, reduceIte]
    · refine (mb_rdN (c := 5) (lo := 1) hM (tw_on_p _ _ _) (by omega) h11 hT.2.2.2.2 hT1 (by omega) k).trans ?_
      rw [if_neg q1, ← hT1, tw_ra_s]
      rfl
theorem cb_P (hT : tw_tx B e tt) (hX : tw_Tx sh b) (W : tw_WF T P) (hA : tw_Ab sh μ (b + 140) (b + 1) B e tt) (H : tw_RC sh μ (b + 12) T) (hi : i ≤ tt) (k : Int32 → tw_Mem → Prop) : f_X9_takePerson (b + 140) k (sh, tw_cwf μ (b + 140) i w, la, n) = if tw_iN B e i 0 (nI P - 1) then k (nI 1) (sh, tw_cwf μ (b + 140) (i + 1) (nI (tw_vd B e i)), la, n) else k (nI 0) (sh, tw_cwf μ (b + 140) i w, la, n) := by
  have hPc : tw_cwf μ (b + 140) i w (b + 12) 46 = nI P := by rw [tw_cwf_n (by omega)]; exact (Rc_46 H).trans W.1
  have H3 := tw_gi_is (sh := sh) (μ := tw_cwf μ (b + 140) i w) (la := la) (n := n) (q := 46) (y := b + 12) (of_eq_true (Tn_f46 H.1))
  rw [hPc] at H3
  have E1 := fun k => cb_N0 (la := la) (n := n) (w := w) (v := nI P - 1) hA hi k
  by_cases q1 : tw_iN B e i 0 (nI P - 1)
  · simp only [if_pos q1] at E1
    rw [if_pos q1]
    simp only [f_X9_takePerson, ↓H3, ↓E1, tl_1, or_true, true_or, ↓TxV0 hX, ↓TxW0 hX, ↓TxG0_6 hX, ↓TxG0_7 hX, ↓TxG0_8 hX, ↓TxG0_9 hX, ↓TxI0_10 hX, ↓TxP0_10 hX, ↓TxZ0_10 hX, ↓TxI0_11 hX, ↓TxP0_11 hX, ↓TxZ0_11 hX, ↓TxI0_12 hX, ↓TxP0_12 hX, ↓TxZ0_12 hX, ↓TxG0_53 hX, ↓TxV1 hX, ↓TxW1 hX, ↓TxG1_6 hX, ↓TxG1_7 hX, ↓TxG1_8 hX, ↓TxG1_9 hX, ↓TxI1_10 hX, ↓TxP1_10 hX, ↓TxZ1_10 hX, ↓TxI1_11 hX, ↓TxP1_11 hX, ↓TxZ1_11 hX, ↓TxI1_12 hX, ↓TxP1_12 hX, ↓TxZ1_12 hX, ↓TxG1_13 hX, ↓TxG1_14 hX, ↓TxG1_15 hX, ↓TxG1_16 hX, ↓TxI1_17 hX, ↓TxP1_17 hX, ↓TxZ1_17 hX, ↓TxI1_18 hX, ↓TxP1_18 hX, ↓TxZ1_18 hX, ↓TxL0 hX, ↓TxS0 hX, ↓TxL1 hX, ↓TxS1 hX, ↓TxL2 hX, ↓TxS2 hX, ↓TxL3 hX, ↓TxS3 hX, ↓TxL4 hX, ↓TxS4 hX, ↓TxL5 hX, ↓TxS5 hX, ↓TxL6 hX, ↓TxS6 hX, ↓TxL7 hX, ↓TxS7 hX, ↓TxL8 hX, ↓TxS8 hX, ↓TxL9 hX, ↓TxS9 hX, ↓A_if, ↓A_jn, ↓A_lt, ↓A_rz, ↓A_rn, ↓A_nzi, ↓A_nzl, ↓A_nn1, ↓A_nn0, ↓reduceIte, true_and, and_true, if_true, if_false, ite_true, ite_false, reduceIte]
  · simp only [if_neg q1] at E1
    rw [if_neg q1]
    simp only [f_X9_takePerson, ↓H3, ↓E1, tl_0, or_true, true_or, ↓TxV0 hX, ↓TxW0 hX, ↓TxG0_6 hX, ↓TxG0_7 hX, ↓TxG0_8 hX, ↓TxG0_9 hX, ↓TxI0_10 hX, ↓TxP0_10 hX, ↓TxZ0_10 hX, ↓TxI0_11 hX, ↓TxP0_11 hX, ↓TxZ0_11 hX, ↓TxI0_12 hX, ↓TxP0_12 hX, ↓TxZ0_12 hX, ↓TxG0_53 hX, ↓TxV1 hX, ↓TxW1 hX, ↓TxG1_6 hX, ↓TxG1_7 hX, ↓TxG1_8 hX, ↓TxG1_9 hX, ↓TxI1_10 hX, ↓TxP1_10 hX, ↓TxZ1_10 hX, ↓TxI1_11 hX, ↓TxP1_11 hX, ↓TxZ1_11 hX, ↓TxI1_12 hX, ↓TxP1_12 hX, ↓TxZ1_12 hX, ↓TxG1_13 hX, ↓TxG1_14 hX, ↓TxG1_15 hX, ↓TxG1_16 hX, ↓TxI1_17 hX, ↓TxP1_17 hX, ↓TxZ1_17 hX, ↓TxI1_18 hX, ↓TxP1_18 hX, ↓TxZ1_18 hX, ↓TxL0 hX, ↓TxS0 hX, ↓TxL1 hX, ↓TxS1 hX, ↓TxL2 hX, ↓TxS2 hX, ↓TxL3 hX, ↓TxS3 hX, ↓TxL4 hX, ↓TxS4 hX, ↓TxL5 hX, ↓TxS5 hX, ↓TxL6 hX, ↓TxS6 hX, ↓TxL7 hX, ↓TxS7 hX, ↓TxL8 hX, ↓TxS8 hX, ↓TxL9 hX, ↓TxS9 hX, ↓A_if, ↓A_jn, ↓A_lt, ↓A_rz, ↓A_rn, ↓A_nzi, ↓A_nzl, ↓A_nn1, ↓A_nn0, ↓reduceIte, true_and, and_true, if_true, if_false, ite_true, ite_false, reduceIte]
theorem mb_P (W : tw_WF T P) (hM : tw_Mt sh ν (b + 168) B e) (hT1 : ν (b + 168 + 1) = T) (ho : tw_on B e i p) (k : Int32 → tw_Mem → Prop) : f_X12_personTold (b + 168) k (sh, tw_pb ν (b + 168) p q, la, n) = if tw_iN B e i 0 (nI P - 1) then k (nI (tw_vd B e i)) (sh, tw_pb ν (b + 168) (tw_tp B e (i + 1)) (tw_tg B e i), la, n) else k mI (sh, tw_pb ν (b + 168) (tw_tde B e (tw_tg B e i)) (tw_tg B e i), la, n) := by
  have hpp := m_people (μ := tw_pb ν (b + 168) p q) (la := la) (n := n) hM.1
  have hPm : tw_pb ν (b + 168) p q (b + 168 + 1) 0 = nI P := by rw [tw_pb_n (by omega), hT1]; exact W.1
  rw [hPm] at hpp
  have M1 := fun k => mb_N0 (la := la) (n := n) (p := p) (q := q) (i := i) (v := nI P - 1) hM ho (tw_P1 W.2.1) k
  have hm := hM.1
  simp only [f_X12_personTold, ↓hpp, ↓M1, ↓MoV0 hm, ↓MoI0_70 hm, ↓MoP0_70 hm, ↓MoZ0_70 hm, ↓MoG0_71 hm, ↓MoG0_72 hm, ↓MoG0_73 hm, ↓MoG0_74 hm, ↓MoG0_75 hm, ↓MoI0_76 hm, ↓MoP0_76 hm, ↓MoZ0_76 hm, ↓MoI0_77 hm, ↓MoP0_77 hm, ↓MoZ0_77 hm, ↓MoG0_78 hm, ↓MoI0_79 hm, ↓MoP0_79 hm, ↓MoZ0_79 hm, ↓MoI0_80 hm, ↓MoP0_80 hm, ↓MoZ0_80 hm, ↓MoI0_81 hm, ↓MoP0_81 hm, ↓MoZ0_81 hm, ↓MoI0_82 hm, ↓MoP0_82 hm, ↓MoZ0_82 hm, ↓MoI0_83 hm, ↓MoP0_83 hm, ↓MoZ0_83 hm, ↓MoI0_84 hm, ↓MoP0_84 hm, ↓MoZ0_84 hm, ↓MoG0_85 hm, ↓MoI0_86 hm, ↓MoP0_86 hm, ↓MoZ0_86 hm, ↓MoG0_87 hm, ↓MoI0_88 hm, ↓MoP0_88 hm, ↓MoZ0_88 hm, ↓MoG0_89 hm, ↓MoG0_90 hm, ↓MoG0_91 hm, ↓MoG0_92 hm, ↓MoL0 hm, ↓MoS0 hm, ↓MoL1 hm, ↓MoS1 hm, ↓MoL2 hm, ↓MoS2 hm, ↓MoL3 hm, ↓MoS3 hm, ↓MoL4 hm, ↓MoS4 hm, ↓MoL5 hm, ↓MoS5 hm, ↓MoL6 hm, ↓MoS6 hm, ↓MoL7 hm, ↓MoS7 hm, ↓MoL8 hm, ↓MoS8 hm, ↓MoL9 hm, ↓MoS9 hm, ↓MoL10 hm, ↓MoS10 hm, ↓MoL11 hm, ↓MoS11 hm]
theorem l_guess (hT : tw_tx B e tt) (hX : tw_Tx sh b) (W : tw_WF T P) (hi : i ≤ tt) : ∃ ok i' T' P', i ≤ i' ∧ i' ≤ tt ∧ tw_Li T T' P' ∧ tw_lc9 sh G b B e tt i i' ok T T' (f_X9_takeGuessLine (b + 140)) ∧ tw_lm9 sh G b B e (tw_tp B e i) i' ok T T' (f_X12_readGuess (b + 168)) := by
  have h8 := W.2.1
  have h9 : (9 : Int32) < nI 1000 := by decide
  have n10 : ¬ nI 1 = nI 0 := by decide
  have hmI : mI < nI 0 := by decide
  have em1 : -nI 1 = mI := by decide
  have hVl := fun i => tw_tv_l hT.2.2.2.2 e (tw_tg B e i)
  by_cases q1 : tw_iN B e i 0 (nI P - 1)
  · have p1 := tw_iN_P hT h8 q1
    have i1 := tw_nx1 hT hi q1.1 (by omega)
    have nn1 : ¬ nI (tw_vd B e i) < nI 0 := by rw [nz_lt (by omega) (by omega)]; omega
    by_cases q2 : tw_kd B e (i + 1) = 2 ∧ nI (tw_vd B e (i + 1)) = nI (tw_vd B e i)
    · have hv2 : tw_vd B e (i + 1) = tw_vd B e i := by
        have := q2.2
        have h30 := hVl (i + 1)
        unfold tw_vd at *
        rwa [nz_eq (by omega) (by omega)] at this
      have q3 : tw_iN B e (i + 1) 0 (nI P - 1) := ⟨q2.1, by omega, by rw [hv2]; exact q1.2.2⟩
      refine ⟨false, i + 1, T, P, by omega, i1, tw_Li_r W, fun μ w hA hG H => ⟨μ, nI (tw_vd B e i), tw_fx_r, H, fun la n k => ?_⟩, fun ν q hM hG hT1 => ⟨tw_tp B e (i + 1 + 1), tw_tg B e (i + 1), fun h => Bool.noConfusion h, fun _ => rfl, fun la n k => ?_⟩⟩
      · have E1 := fun k => cb_P (la := la) (n := n) (w := w) hT hX W hA H hi k
        simp only [if_pos q1] at E1
        have E2 := fun k => cb_last (la := la) (n := n) (i := i + 1) (w := nI (tw_vd B e i)) hA k
        have E3 := fun k => cb_is (la := la) (n := n) (w := nI (tw_vd B e i)) (v := nI (tw_vd B e i)) hA i1 k
        simp only [if_pos q2] at E3
        simp only [f_X9_takeGuessLine, ↓E1, ↓E2, ↓E3, n10, tl_0, tl_1, or_true, true_or, tw_bo_f, ↓TxV0 hX, ↓TxW0 hX, ↓TxG0_6 hX, ↓TxG0_7 hX, ↓TxG0_8 hX, ↓TxG0_9 hX, ↓TxI0_10 hX, ↓TxP0_10 hX, ↓TxZ0_10 hX, ↓TxI0_11 hX, ↓TxP0_11 hX, ↓TxZ0_11 hX, ↓TxI0_12 hX, ↓TxP0_12 hX, ↓TxZ0_12 hX, ↓TxG0_53 hX, ↓TxV1 hX, ↓TxW1 hX, ↓TxG1_6 hX, ↓TxG1_7 hX, ↓TxG1_8 hX, ↓TxG1_9 hX, ↓TxI1_10 hX, ↓TxP1_10 hX, ↓TxZ1_10 hX, ↓TxI1_11 hX, ↓TxP1_11 hX, ↓TxZ1_11 hX, ↓TxI1_12 hX, ↓TxP1_12 hX, ↓TxZ1_12 hX, ↓TxG1_13 hX, ↓TxG1_14 hX, ↓TxG1_15 hX, ↓TxG1_16 hX, ↓TxI1_17 hX, ↓TxP1_17 hX, ↓TxZ1_17 hX, ↓TxI1_18 hX, ↓TxP1_18 hX, ↓TxZ1_18 hX, ↓TxL0 hX, ↓TxS0 hX, ↓TxL1 hX, ↓TxS1 hX, ↓TxL2 hX, ↓TxS2 hX, ↓TxL3 hX, ↓TxS3 hX, ↓TxL4 hX, ↓TxS4 hX, ↓TxL5 hX, ↓TxS5 hX, ↓TxL6 hX, ↓TxS6 hX, ↓TxL7 hX, ↓TxS7 hX, ↓TxL8 hX, ↓TxS8 hX, ↓TxL9 hX, ↓TxS9 hX, ↓A_if, ↓A_jn, ↓A_lt, ↓A_rz, ↓A_rn, ↓A_nzi, ↓A_nzl, ↓A_nn1, ↓A_nn0, ↓reduceIte, true_and, and_true, if_true, if_false, ite_true, ite_false, reduceIte]
      · have M1 := fun k => mb_P (la := la) (n := n) (q := q) W hM hT1 (tw_on_p B e i) k
        have M2 := fun k => mb_P (la := la) (n := n) (q := tw_tg B e i) W hM hT1 (tw_on_p B e (i + 1)) k
        simp only [if_pos q1] at M1
        simp only [if_pos q3, hv2] at M2
        rw [← hT1, tw_ra_s]
        have hm := hM.1
        simp only [f_X12_readGuess, ↓M1, ↓M2, nn1, tl_0, tl_1, or_true, true_or, tw_bo_f, ↓MoV0 hm, ↓MoI0_70 hm, ↓MoP0_70 hm, ↓MoZ0_70 hm, ↓MoG0_71 hm, ↓MoG0_72 hm, ↓MoG0_73 hm, ↓MoG0_74 hm, ↓MoG0_75 hm, ↓MoI0_76 hm, ↓MoP0_76 hm, ↓MoZ0_76 hm, ↓MoI0_77 hm, ↓MoP0_77 hm, ↓MoZ0_77 hm, ↓MoG0_78 hm, ↓MoI0_79 hm, ↓MoP0_79 hm, ↓MoZ0_79 hm, ↓MoI0_80 hm, ↓MoP0_80 hm, ↓MoZ0_80 hm, ↓MoI0_81 hm, ↓MoP0_81 hm, ↓MoZ0_81 hm, ↓MoI0_82 hm, ↓MoP0_82 hm, ↓MoZ0_82 hm, ↓MoI0_83 hm, ↓MoP0_83 hm, ↓MoZ0_83 hm, ↓MoI0_84 hm, ↓MoP0_84 hm, ↓MoZ0_84 hm, ↓MoG0_85 hm, ↓MoI0_86 hm, ↓MoP0_86 hm, ↓MoZ0_86 hm, ↓MoG0_87 hm, ↓MoI0_88 hm, ↓MoP0_88 hm, ↓MoZ0_88 hm, ↓MoG0_89 hm, ↓MoG0_90 hm, ↓MoG0_91 hm, ↓MoG0_92 hm, ↓MoL0 hm, ↓MoS0 hm, ↓MoL1 hm, ↓MoS1 hm, ↓MoL2 hm, ↓MoS2 hm, ↓MoL3 hm, ↓MoS3 hm, ↓MoL4 hm, ↓MoS4 hm, ↓MoL5 hm, ↓MoS5 hm, ↓MoL6 hm, ↓MoS6 hm, ↓MoL7 hm, ↓MoS7 hm, ↓MoL8 hm, ↓MoS8 hm, ↓MoL9 hm, ↓MoS9 hm, ↓MoL10 hm, ↓MoS10 hm, ↓MoL11 hm, ↓MoS11 hm, ↓A_if, ↓A_jn, ↓A_lt, ↓A_rz, ↓A_rn, ↓A_nzi, ↓A_nzl, ↓A_nn1, ↓A_nn0, ↓reduceIte, true_and, and_true, if_true, if_false, ite_true, ite_false, reduceIte]
    · by_cases q3 : tw_iN B e (i + 1) 0 (nI P - 1)
      · have p2 := tw_iN_P hT h8 q3
        have i2 := tw_nx1 hT i1 q3.1 (by omega)
        have nn2 : ¬ nI (tw_vd B e (i + 1)) < nI 0 := by rw [nz_lt (by omega) (by omega)]; omega
        have hne : ¬ nI (tw_vd B e (i + 1)) = nI (tw_vd B e i) := fun g => q2 ⟨q3.1, g⟩
        have hne2 : tw_vd B e i ≠ tw_vd B e (i + 1) := fun g => hne (by rw [g])
        have eat : nI 32 + nI 20 * nI (tw_vd B e i) + (nI 4 + nI (tw_vd B e (i + 1))) = nI (32 + 20 * tw_vd B e i + (4 + tw_vd B e (i + 1))) := by rw [pk_mul, nI_add, nI_add, nI_add]
        by_cases q4 : tw_iN B e (i + 1 + 1) 0 9
        · obtain ⟨v1, v2, v3⟩ := tw_iN_v (hi := 9) hT q4 (by omega)
          refine ⟨true, i + 1 + 1 + 1, tw_u1 T (32 + 20 * tw_vd B e i + (4 + tw_vd B e (i + 1))) (nI (tw_vd B e (i + 1 + 1))), P, by omega, tw_nx1 hT i2 q4.1 (by omega), ⟨Wf_sg W p1 p2 hne2 (by omega), tw_u1n (by omega), tw_u1n (by omega), fun j hj => tw_u1n (by omega)⟩, fun μ w hA hG H => ⟨tw_up μ (b + 12 + 4) (8 * tw_vd B e i + tw_vd B e (i + 1)) (nI (tw_vd B e (i + 1 + 1))), nI (tw_vd B e (i + 1 + 1)), fun y hy => tw_up_ne (by omega), Rc_setG H (by omega) (by omega) _, fun la n k => ?_⟩, fun ν q hM hG hT1 => ⟨tw_tp B e (i + 1 + 1 + 1), tw_tg B e (i + 1 + 1), fun _ => tw_on_p _ _ _, fun h => Bool.noConfusion h, fun la n k => ?_⟩⟩
          · have E1 := fun k => cb_P (la := la) (n := n) (w := w) hT hX W hA H hi k
            simp only [if_pos q1] at E1
            have E2 := fun k => cb_last (la := la) (n := n) (i := i + 1) (w := nI (tw_vd B e i)) hA k
            have E3 := fun k => cb_is (la := la) (n := n) (w := nI (tw_vd B e i)) (v := nI (tw_vd B e i)) hA i1 k
            simp only [if_neg q2] at E3
            have E4 := fun k => cb_P (la := la) (n := n) (w := nI (tw_vd B e i)) hT hX W hA H i1 k
            simp only [if_pos q3] at E4
            have E5 := fun k => cb_last (la := la) (n := n) (i := i + 1 + 1) (w := nI (tw_vd B e (i + 1))) hA k
            have E6 := fun k => cb_N0 (la := la) (n := n) (w := nI (tw_vd B e (i + 1))) (v := 9) hA i2 k
            simp only [if_pos q4] at E6
            have E7 := fun k => cb_last (la := la) (n := n) (i := i + 1 + 1 + 1) (w := nI (tw_vd B e (i + 1 + 1))) hA k
            have E8 := fun k => c_setGuess (μ := tw_cwf μ (b + 140) (i + 1 + 1 + 1) (nI (tw_vd B e (i + 1 + 1)))) (la := la) (n := n) H.1 (p := tw_vd B e i) (o := tw_vd B e (i + 1)) (by omega) (by omega) (nI (tw_vd B e (i + 1 + 1))) k
            have E9 := fun F : tw_Mem → Prop => show tw_iv 7 (b + 12) F (sh, tw_cwf μ (b + 140) (i + 1 + 1 + 1) (nI (tw_vd B e (i + 1 + 1))), la, n) = F (sh, tw_cwf μ (b + 140) (i + 1 + 1 + 1) (nI (tw_vd B e (i + 1 + 1))), la, n) by rw [A_iv, Tn_is H.1, true_and]
            simp only [f_X9_takeGuessLine, ↓E1, ↓E2, ↓E3, ↓E4, ↓E5, ↓E6, ↓E7, ↓E8, ↓E9, n10, tl_0, tl_1, or_true, true_or, tw_bo_t, ↓TxV0 hX, ↓TxW0 hX, ↓TxG0_6 hX, ↓TxG0_7 hX, ↓TxG0_8 hX, ↓TxG0_9 hX, ↓TxI0_10 hX, ↓TxP0_10 hX, ↓TxZ0_10 hX, ↓TxI0_11 hX, ↓TxP0_11 hX, ↓TxZ0_11 hX, ↓TxI0_12 hX, ↓TxP0_12 hX, ↓TxZ0_12 hX, ↓TxG0_53 hX, ↓TxV1 hX, ↓TxW1 hX, ↓TxG1_6 hX, ↓TxG1_7 hX, ↓TxG1_8 hX, ↓TxG1_9 hX, ↓TxI1_10 hX, ↓TxP1_10 hX, ↓TxZ1_10 hX, ↓TxI1_11 hX, ↓TxP1_11 hX, ↓TxZ1_11 hX, ↓TxI1_12 hX, ↓TxP1_12 hX, ↓TxZ1_12 hX, ↓TxG1_13 hX, ↓TxG1_14 hX, ↓TxG1_15 hX, ↓TxG1_16 hX, ↓TxI1_17 hX, ↓TxP1_17 hX, ↓TxZ1_17 hX, ↓TxI1_18 hX, ↓TxP1_18 hX, ↓TxZ1_18 hX, ↓TxL0 hX, ↓TxS0 hX, ↓TxL1 hX, ↓TxS1 hX, ↓TxL2 hX, ↓TxS2 hX, ↓TxL3 hX, ↓TxS3 hX, ↓TxL4 hX, ↓TxS4 hX, ↓TxL5 hX, ↓TxS5 hX, ↓TxL6 hX, ↓TxS6 hX, ↓TxL7 hX, ↓TxS7 hX, ↓TxL8 hX, ↓TxS8 hX, ↓TxL9 hX, ↓TxS9 hX, ↓A_if, ↓A_jn, ↓A_lt, ↓A_rz, ↓A_rn, ↓A_nzi, ↓A_nzl, ↓A_nn1, ↓A_nn0, ↓reduceIte, true_and, and_true, if_true, if_false, ite_true, ite_false, reduceIte]
            rw [tw_cwf_c (by omega)]
          · have M1 := fun k => mb_P (la := la) (n := n) (q := q) W hM hT1 (tw_on_p B e i) k
            have M2 := fun k => mb_P (la := la) (n := n) (q := tw_tg B e i) W hM hT1 (tw_on_p B e (i + 1)) k
            simp only [if_pos q1] at M1
            simp only [if_pos q3] at M2
            have M3 := fun k => mb_rdN (la := la) (n := n) (q := tw_tg B e (i + 1)) (c := 32 + 20 * tw_vd B e i + (4 + tw_vd B e (i + 1))) (lo := 0) hM (tw_on_p B e (i + 1 + 1)) (by omega) h9 hT.2.2.2.2 hT1 (by omega) k
            simp only [if_pos q4] at M3
            have hm := hM.1
            have M4 : ∀ k, f_X12_at (nI (tw_vd B e i)) ((4 : Int32) + nI (tw_vd B e (i + 1))) k = k (nI (32 + 20 * tw_vd B e i + (4 + tw_vd B e (i + 1)))) := fun k => by
              unfold f_X12_at
              exact congrArg k eat
            have M3' : ∀ k, f_X12_readNumber (b + 168) (nI (32 + 20 * tw_vd B e i + (4 + tw_vd B e (i + 1)))) 0 9 k (sh, tw_pb ν (b + 168) (tw_tp B e (i + 1 + 1)) (tw_tg B e (i + 1)), la, n) = _ := M3
            simp only [f_X12_readGuess, ↓M1, ↓M2, ↓M4, ↓M3', n10, nn1, nn2, hne, tl_0, tl_1, or_true, true_or, tw_bo_t, ↓MoV0 hm, ↓MoI0_70 hm, ↓MoP0_70 hm, ↓MoZ0_70 hm, ↓MoG0_71 hm, ↓MoG0_72 hm, ↓MoG0_73 hm, ↓MoG0_74 hm, ↓MoG0_75 hm, ↓MoI0_76 hm, ↓MoP0_76 hm, ↓MoZ0_76 hm, ↓MoI0_77 hm, ↓MoP0_77 hm, ↓MoZ0_77 hm, ↓MoG0_78 hm, ↓MoI0_79 hm, ↓MoP0_79 hm, ↓MoZ0_79 hm, ↓MoI0_80 hm, ↓MoP0_80 hm, ↓MoZ0_80 hm, ↓MoI0_81 hm, ↓MoP0_81 hm, ↓MoZ0_81 hm, ↓MoI0_82 hm, ↓MoP0_82 hm, ↓MoZ0_82 hm, ↓MoI0_83 hm, ↓MoP0_83 hm, ↓MoZ0_83 hm, ↓MoI0_84 hm, ↓MoP0_84 hm, ↓MoZ0_84 hm, ↓MoG0_85 hm, ↓MoI0_86 hm, ↓MoP0_86 hm, ↓MoZ0_86 hm, ↓MoG0_87 hm, ↓MoI0_88 hm, ↓MoP0_88 hm, ↓MoZ0_88 hm, ↓MoG0_89 hm, ↓MoG0_90 hm, ↓MoG0_91 hm, ↓MoG0_92 hm, ↓MoL0 hm, ↓MoS0 hm, ↓MoL1 hm, ↓MoS1 hm, ↓MoL2 hm, ↓MoS2 hm, ↓MoL3 hm, ↓MoS3 hm, ↓MoL4 hm, ↓MoS4 hm, ↓MoL5 hm, ↓MoS5 hm, ↓MoL6 hm, ↓MoS6 hm, ↓MoL7 hm, ↓MoS7 hm, ↓MoL8 hm, ↓MoS8 hm, ↓MoL9 hm, ↓MoS9 hm, ↓MoL10 hm, ↓MoS10 hm, ↓MoL11 hm, ↓MoS11 hm, ↓A_if, ↓A_jn, ↓A_lt, ↓A_rz, ↓A_rn, ↓A_nzi, ↓A_nzl, ↓A_nn1, ↓A_nn0, ↓reduceIte, true_and, and_true, if_true, if_false, ite_true, ite_false, reduceIte]
        · refine ⟨false, i + 1 + 1, T, P, by omega, i2, tw_Li_r W, fun μ w hA hG H => ⟨μ, nI (tw_vd B e (i + 1)), tw_fx_r, H, fun la n k => ?_⟩, fun ν q hM hG hT1 => ⟨tw_tde B e (tw_tg B e (i + 1 + 1)), tw_tg B e (i + 1 + 1), fun h => Bool.noConfusion h, fun _ => rfl, fun la n k => ?_⟩⟩
          · have E1 := fun k => cb_P (la := la) (n := n) (w := w) hT hX W hA H hi k
            simp only [if_pos q1] at E1
            have E2 := fun k => cb_last (la := la) (n := n) (i := i + 1) (w := nI (tw_vd B e i)) hA k
            have E3 := fun k => cb_is (la := la) (n := n) (w := nI (tw_vd B e i)) (v := nI (tw_vd B e i)) hA i1 k
            simp only [if_neg q2] at E3
            have E4 := fun k => cb_P (la := la) (n := n) (w := nI (tw_vd B e i)) hT hX W hA H i1 k
            simp only [if_pos q3] at E4
            have E5 := fun k => cb_last (la := la) (n := n) (i := i + 1 + 1) (w := nI (tw_vd B e (i + 1))) hA k
            have E6 := fun k => cb_N0 (la := la) (n := n) (w := nI (tw_vd B e (i + 1))) (v := 9) hA i2 k
            simp only [if_neg q4] at E6
            simp only [f_X9_takeGuessLine, ↓E1, ↓E2, ↓E3, ↓E4, ↓E5, ↓E6, n10, tl_0, tl_1, or_true, true_or, tw_bo_f, ↓TxV0 hX, ↓TxW0 hX, ↓TxG0_6 hX, ↓TxG0_7 hX, ↓TxG0_8 hX, ↓TxG0_9 hX, ↓TxI0_10 hX, ↓TxP0_10 hX, ↓TxZ0_10 hX, ↓TxI0_11 hX, ↓TxP0_11 hX, ↓TxZ0_11 hX, ↓TxI0_12 hX, ↓TxP0_12 hX, ↓TxZ0_12 hX, ↓TxG0_53 hX, ↓TxV1 hX, ↓TxW1 hX, ↓TxG1_6 hX, ↓TxG1_7 hX, ↓TxG1_8 hX, ↓TxG1_9 hX, ↓TxI1_10 hX, ↓TxP1_10 hX, ↓TxZ1_10 hX, ↓TxI1_11 hX, ↓TxP1_11 hX, ↓TxZ1_11 hX, ↓TxI1_12 hX, ↓TxP1_12 hX, ↓TxZ1_12 hX, ↓TxG1_13 hX, ↓TxG1_14 hX, ↓TxG1_15 hX, ↓TxG1_16 hX, ↓TxI1_17 hX, ↓TxP1_17 hX, ↓TxZ1_17 hX, ↓TxI1_18 hX, ↓TxP1_18 hX, ↓TxZ1_18 hX, ↓TxL0 hX, ↓TxS0 hX, ↓TxL1 hX, ↓TxS1 hX, ↓TxL2 hX, ↓TxS2 hX, ↓TxL3 hX, ↓TxS3 hX, ↓TxL4 hX, ↓TxS4 hX, ↓TxL5 hX, ↓TxS5 hX, ↓TxL6 hX, ↓TxS6 hX, ↓TxL7 hX, ↓TxS7 hX, ↓TxL8 hX, ↓TxS8 hX, ↓TxL9 hX, ↓TxS9 hX, ↓A_if, ↓A_jn, ↓A_lt, ↓A_rz, ↓A_rn, ↓A_nzi, ↓A_nzl, ↓A_nn1, ↓A_nn0, ↓reduceIte, true_and, and_true, if_true, if_false, ite_true, ite_false, reduceIte]
          · have M1 := fun k => mb_P (la := la) (n := n) (q := q) W hM hT1 (tw_on_p B e i) k
            have M2 := fun k => mb_P (la := la) (n := n) (q := tw_tg B e i) W hM hT1 (tw_on_p B e (i + 1)) k
            simp only [if_pos q1] at M1
            simp only [if_pos q3] at M2
            have M3 := fun k => mb_rdN (la := la) (n := n) (q := tw_tg B e (i + 1)) (c := 32 + 20 * tw_vd B e i + (4 + tw_vd B e (i + 1))) (lo := 0) hM (tw_on_p B e (i + 1 + 1)) (by omega) h9 hT.2.2.2.2 hT1 (by omega) k
            simp only [if_neg q4] at M3
            have hm := hM.1
            have M4 : ∀ k, f_X12_at (nI (tw_vd B e i)) ((4 : Int32) + nI (tw_vd B e (i + 1))) k = k (nI (32 + 20 * tw_vd B e i + (4 + tw_vd B e (i + 1)))) := fun k => by
              unfold f_X12_at
              exact congrArg k eat
            have M3' : ∀ k, f_X12_readNumber (b + 168) (nI (32 + 20 * tw_vd B e i + (4 + tw_vd B e (i + 1)))) 0 9 k (sh, tw_pb ν (b + 168) (tw_tp B e (i + 1 + 1)) (tw_tg B e (i + 1)), la, n) = _ := M3
            rw [← hT1, tw_ra_s]
            simp only [f_X12_readGuess, ↓M1, ↓M2, ↓M4, ↓M3', n10, nn1, nn2, hne, tl_0, tl_1, or_true, true_or, tw_bo_f, ↓MoV0 hm, ↓MoI0_70 hm, ↓MoP0_70 hm, ↓MoZ0_70 hm, ↓MoG0_71 hm, ↓MoG0_72 hm, ↓MoG0_73 hm, ↓MoG0_74 hm, ↓MoG0_75 hm, ↓MoI0_76 hm, ↓MoP0_76 hm, ↓MoZ0_76 hm, ↓MoI0_77 hm, ↓MoP0_77 hm, ↓MoZ0_77 hm, ↓MoG0_78 hm, ↓MoI0_79 hm, ↓MoP0_79 hm, ↓MoZ0_79 hm, ↓MoI0_80 hm, ↓MoP0_80 hm, ↓MoZ0_80 hm, ↓MoI0_81 hm, ↓MoP0_81 hm, ↓MoZ0_81 hm, ↓MoI0_82 hm, ↓MoP0_82 hm, ↓MoZ0_82 hm, ↓MoI0_83 hm, ↓MoP0_83 hm, ↓MoZ0_83 hm, ↓MoI0_84 hm, ↓MoP0_84 hm, ↓MoZ0_84 hm, ↓MoG0_85 hm, ↓MoI0_86 hm, ↓MoP0_86 hm, ↓MoZ0_86 hm, ↓MoG0_87 hm, ↓MoI0_88 hm, ↓MoP0_88 hm, ↓MoZ0_88 hm, ↓MoG0_89 hm, ↓MoG0_90 hm, ↓MoG0_91 hm, ↓MoG0_92 hm, ↓MoL0 hm, ↓MoS0 hm, ↓MoL1 hm, ↓MoS1 hm, ↓MoL2 hm, ↓MoS2 hm, ↓MoL3 hm, ↓MoS3 hm, ↓MoL4 hm, ↓MoS4 hm, ↓MoL5 hm, ↓MoS5 hm, ↓MoL6 hm, ↓MoS6 hm, ↓MoL7 hm, ↓MoS7 hm, ↓MoL8 hm, ↓MoS8 hm, ↓MoL9 hm, ↓MoS9 hm, ↓MoL10 hm, ↓MoS10 hm, ↓MoL11 hm, ↓MoS11 hm, ↓A_if, ↓A_jn, ↓A_lt, ↓A_rz, ↓A_rn, ↓A_nzi, ↓A_nzl, ↓A_nn1, ↓A_nn0, ↓reduceIte, true_and, and_true, if_true, if_false, ite_true, ite_false, reduceIte]
      · refine ⟨false, i + 1, T, P, by omega, i1, tw_Li_r W, fun μ w hA hG H => ⟨μ, nI (tw_vd B e i), tw_fx_r, H, fun la n k => ?_⟩, fun ν q hM hG hT1 => ⟨tw_tde B e (tw_tg B e (i + 1)), tw_tg B e (i + 1), fun h => Bool.noConfusion h, fun _ => rfl, fun la n k => ?_⟩⟩
        · have E1 := fun k => cb_P (la := la) (n := n) (w := w) hT hX W hA H hi k
          simp only [if_pos q1] at E1
          have E2 := fun k => cb_last (la := la) (n := n) (i := i + 1) (w := nI (tw_vd B e i)) hA k
          have E3 := fun k => cb_is (la := la) (n := n) (w := nI (tw_vd B e i)) (v := nI (tw_vd B e i)) hA i1 k
          simp only [if_neg q2] at E3
          have E4 := fun k => cb_P (la := la) (n := n) (w := nI (tw_vd B e i)) hT hX W hA H i1 k
          simp only [if_neg q3] at E4
          simp only [f_X9_takeGuessLine, ↓E1, ↓E2, ↓E3, ↓E4, n10, tl_0, tl_1, or_true, true_or, tw_bo_f, ↓TxV0 hX, ↓TxW0 hX, ↓TxG0_6 hX, ↓TxG0_7 hX, ↓TxG0_8 hX, ↓TxG0_9 hX, ↓TxI0_10 hX, ↓TxP0_10 hX, ↓TxZ0_10 hX, ↓TxI0_11 hX, ↓TxP0_11 hX, ↓TxZ0_11 hX, ↓TxI0_12 hX, ↓TxP0_12 hX, ↓TxZ0_12 hX, ↓TxG0_53 hX, ↓TxV1 hX, ↓TxW1 hX, ↓TxG1_6 hX, ↓TxG1_7 hX, ↓TxG1_8 hX, ↓TxG1_9 hX, ↓TxI1_10 hX, ↓TxP1_10 hX, ↓TxZ1_10 hX, ↓TxI1_11 hX, ↓TxP1_11 hX, ↓TxZ1_11 hX, ↓TxI1_12 hX, ↓TxP1_12 hX, ↓TxZ1_12 hX, ↓TxG1_13 hX, ↓TxG1_14 hX, ↓TxG1_15 hX, ↓TxG1_16 hX, ↓TxI1_17 hX, ↓TxP1_17 hX, ↓TxZ1_17 hX, ↓TxI1_18 hX, ↓TxP1_18 hX, ↓TxZ1_18 hX, ↓TxL0 hX, ↓TxS0 hX, ↓TxL1 hX, ↓TxS1 hX, ↓TxL2 hX, ↓TxS2 hX, ↓TxL3 hX, ↓TxS3 hX, ↓TxL4 hX, ↓TxS4 hX, ↓TxL5 hX, ↓TxS5 hX, ↓TxL6 hX, ↓TxS6 hX, ↓TxL7 hX, ↓TxS7 hX, ↓TxL8 hX, ↓TxS8 hX, ↓TxL9 hX, ↓TxS9 hX, ↓A_if, ↓A_jn, ↓A_lt, ↓A_rz, ↓A_rn, ↓A_nzi, ↓A_nzl, ↓A_nn1, ↓A_nn0, ↓reduceIte, true_and, and_true, if_true, if_false, ite_true, ite_false, reduceIte]
        · have M1 := fun k => mb_P (la := la) (n := n) (q := q) W hM hT1 (tw_on_p B e i) k
          have M2 := fun k => mb_P (la := la) (n := n) (q := tw_tg B e i) W hM hT1 (tw_on_p B e (i + 1)) k
          simp only [if_pos q1] at M1
          simp only [if_neg q3] at M2
          have hm := hM.1
          rw [← hT1, tw_ra_s]
          simp only [f_X12_readGuess, ↓M1, ↓M2, hmI, nn1, tl_0, tl_1, or_true, true_or, tw_bo_f, ↓MoV0 hm, ↓MoI0_70 hm, ↓MoP0_70 hm, ↓MoZ0_70 hm, ↓MoG0_71 hm, ↓MoG0_72 hm, ↓MoG0_73 hm, ↓MoG0_74 hm, ↓MoG0_75 hm, ↓MoI0_76 hm, ↓MoP0_76 hm, ↓MoZ0_76 hm, ↓MoI0_77 hm, ↓MoP0_77 hm, ↓MoZ0_77 hm, ↓MoG0_78 hm, ↓MoI0_79 hm, ↓MoP0_79 hm, ↓MoZ0_79 hm, ↓MoI0_80 hm, ↓MoP0_80 hm, ↓MoZ0_80 hm, ↓MoI0_81 hm, ↓MoP0_81 hm, ↓MoZ0_81 hm, ↓MoI0_82 hm, ↓MoP0_82 hm, ↓MoZ0_82 hm, ↓MoI0_83 hm, ↓MoP0_83 hm, ↓MoZ0_83 hm, ↓MoI0_84 hm, ↓MoP0_84 hm, ↓MoZ0_84 hm, ↓MoG0_85 hm, ↓MoI0_86 hm, ↓MoP0_86 hm, ↓MoZ0_86 hm, ↓MoG0_87 hm, ↓MoI0_88 hm, ↓MoP0_88 hm, ↓MoZ0_88 hm, ↓MoG0_89 hm, ↓MoG0_90 hm, ↓MoG0_91 hm, ↓MoG0_92 hm, ↓MoL0 hm, ↓MoS0 hm, ↓MoL1 hm, ↓MoS1 hm, ↓MoL2 hm, ↓MoS2 hm, ↓MoL3 hm, ↓MoS3 hm, ↓MoL4 hm, ↓MoS4 hm, ↓MoL5 hm, ↓MoS5 hm, ↓MoL6 hm, ↓MoS6 hm, ↓MoL7 hm, ↓MoS7 hm, ↓MoL8 hm, ↓MoS8 hm, ↓MoL9 hm, ↓MoS9 hm, ↓MoL10 hm, ↓MoS10 hm, ↓MoL11 hm, ↓MoS11 hm, ↓A_if, ↓A_jn, ↓A_lt, ↓A_rz, ↓A_rn, ↓A_nzi, ↓A_nzl, ↓A_nn1, ↓A_nn0, ↓reduceIte, true_and, and_true, if_true, if_false, ite_true, ite_false, reduceIte]
  · refine ⟨false, i, T, P, by omega, hi, tw_Li_r W, fun μ w hA hG H => ⟨μ, w, tw_fx_r, H, fun la n k => ?_⟩, fun ν q hM hG hT1 => ⟨tw_tde B e (tw_tg B e i), tw_tg B e i, fun h => Bool.noConfusion h, fun _ => rfl, fun la n k => ?_⟩⟩
    · have E1 := fun k => cb_P (la := la) (n := n) (w := w) hT hX W hA H hi k
      simp only [if_neg q1] at E1
      simp only [f_X9_takeGuessLine, ↓E1, n10, tl_0, tl_1, or_true, true_or, tw_bo_f, ↓TxV0 hX, ↓TxW0 hX, ↓TxG0_6 hX, ↓TxG0_7 hX, ↓TxG0_8 hX, ↓TxG0_9 hX, ↓TxI0_10 hX, ↓TxP0_10 hX, ↓TxZ0_10 hX, ↓TxI0_11 hX, ↓TxP0_11 hX, ↓TxZ0_11 hX, ↓TxI0_12 hX, ↓TxP0_12 hX, ↓TxZ0_12 hX, ↓TxG0_53 hX, ↓TxV1 hX, ↓TxW1 hX, ↓TxG1_6 hX, ↓TxG1_7 hX, ↓TxG1_8 hX, ↓TxG1_9 hX, ↓TxI1_10 hX, ↓TxP1_10 hX, ↓TxZ1_10 hX, ↓TxI1_11 hX, ↓TxP1_11 hX, ↓TxZ1_11 hX, ↓TxI1_12 hX, ↓TxP1_12 hX, ↓TxZ1_12 hX, ↓TxG1_13 hX, ↓TxG1_14 hX, ↓TxG1_15 hX, ↓TxG1_16 hX, ↓TxI1_17 hX, ↓TxP1_17 hX, ↓TxZ1_17 hX, ↓TxI1_18 hX, ↓TxP1_18 hX, ↓TxZ1_18 hX, ↓TxL0 hX, ↓TxS0 hX, ↓TxL1 hX, ↓TxS1 hX, ↓TxL2 hX, ↓TxS2 hX, ↓TxL3 hX, ↓TxS3 hX, ↓TxL4 hX, ↓TxS4 hX, ↓TxL5 hX, ↓TxS5 hX, ↓TxL6 hX, ↓TxS6 hX, ↓TxL7 hX, ↓TxS7 hX, ↓TxL8 hX, ↓TxS8 hX, ↓TxL9 hX, ↓TxS9 hX, ↓A_if, ↓A_jn, ↓A_lt, ↓A_rz, ↓A_rn, ↓A_nzi, ↓A_nzl, ↓A_nn1, ↓A_nn0, ↓reduceIte, true_and, and_true, if_true, if_false, ite_true, ite_false, reduceIte]
    · have M1 := fun k => mb_P (la := la) (n := n) (q := q) W hM hT1 (tw_on_p B e i) k
      simp only [if_neg q1] at M1
      have hm := hM.1
      have hmn : -nI 1 < nI 0 := by decide
      rw [← hT1, tw_ra_s]
      simp only [f_X12_readGuess, ↓M1, hmI, hmn, tl_0, tl_1, or_true, true_or, tw_bo_f, ↓MoV0 hm, ↓MoI0_70 hm, ↓MoP0_70 hm, ↓MoZ0_70 hm, ↓MoG0_71 hm, ↓MoG0_72 hm, ↓MoG0_73 hm, ↓MoG0_74 hm, ↓MoG0_75 hm, ↓MoI0_76 hm, ↓MoP0_76 hm, ↓MoZ0_76 hm, ↓MoI0_77 hm, ↓MoP0_77 hm, ↓MoZ0_77 hm, ↓MoG0_78 hm, ↓MoI0_79 hm, ↓MoP0_79 hm, ↓MoZ0_79 hm, ↓MoI0_80 hm, ↓MoP0_80 hm, ↓MoZ0_80 hm, ↓MoI0_81 hm, ↓MoP0_81 hm, ↓MoZ0_81 hm, ↓MoI0_82 hm, ↓MoP0_82 hm, ↓MoZ0_82 hm, ↓MoI0_83 hm, ↓MoP0_83 hm, ↓MoZ0_83 hm, ↓MoI0_84 hm, ↓MoP0_84 hm, ↓MoZ0_84 hm, ↓MoG0_85 hm, ↓MoI0_86 hm, ↓MoP0_86 hm, ↓MoZ0_86 hm, ↓MoG0_87 hm, ↓MoI0_88 hm, ↓MoP0_88 hm, ↓MoZ0_88 hm, ↓MoG0_89 hm, ↓MoG0_90 hm, ↓MoG0_91 hm, ↓MoG0_92 hm, ↓MoL0 hm, ↓MoS0 hm, ↓MoL1 hm, ↓MoS1 hm, ↓MoL2 hm, ↓MoS2 hm, ↓MoL3 hm, ↓MoS3 hm, ↓MoL4 hm, ↓MoS4 hm, ↓MoL5 hm, ↓MoS5 hm, ↓MoL6 hm, ↓MoS6 hm, ↓MoL7 hm, ↓MoS7 hm, ↓MoL8 hm, ↓MoS8 hm, ↓MoL9 hm, ↓MoS9 hm, ↓MoL10 hm, ↓MoS10 hm, ↓MoL11 hm, ↓MoS11 hm, ↓A_if, ↓A_jn, ↓A_lt, ↓A_rz, ↓A_rn, ↓A_nzi, ↓A_nzl, ↓A_nn1, ↓A_nn0, ↓reduceIte, true_and, and_true, if_true, if_false, ite_true, ite_false, reduceIte]
end P99e
