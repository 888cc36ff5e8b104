/-! ===== pure: lines of a town's text, people ===== -/
/-- one person more -/
def tw_adP (T : Nat → Int32) (P h r y s : Nat) : Nat → Int32 := tw_u1 (tw_u1 (tw_u1 (tw_u1 (tw_u1 T (32 + 20 * P) (nI h)) (32 + 20 * P + 1) (nI r)) (32 + 20 * P + 2) (nI y)) 0 (nI (P + 1))) (32 + 20 * P + 3) (nI s)
section P99g
variable {sh : tw_Sh} {μ μ' ν : Nat → Nat → Int32} {la : Nat → Nat → Int64} {n a b x y m t tt e i lo hi c cl p q p' q' z ix ix2 i' P o h l r s : Nat} {G : tw_Gm} {g : tw_Gx} {own own2 tx : String} {B : Nat → Nat} {v w w' : Int32} {T T' : Nat → Int32}
theorem tw_adP_w (W : tw_WF T P) (h8 : P < 8) (hh : h < 8) (hr : r < 101) (hy : y < 100) (hs : s < 2) : tw_WF (tw_adP T P h r y s) (P + 1) := by
  obtain ⟨w0, w1, w2, w3, w4, w5, w6, w7, w8, w9, w10⟩ := W
  unfold tw_adP
  refine ⟨?_, by omega, ?_, ?_, ?_, ?_, ?_, ?_, ?_, ?_, ?_⟩
  · rw [tw_u1n (by omega)]; exact tw_u1a
  · simp (disch := omega) only [tw_u1n]; exact w2
  · simp (disch := omega) only [tw_u1n]; exact w3
  · simp (disch := omega) only [tw_u1n]; exact w4
  · simp (disch := omega) only [tw_u1n]; exact w5
  · simp (disch := omega) only [tw_u1n]; exact w6
  · intro q hq
    by_cases e : q = P
    · subst e
      refine ⟨⟨h, hh, ?_⟩, ⟨r, hr, ?_⟩, ⟨y, hy, ?_⟩, ⟨s, hs, tw_u1a, fun g => by omega⟩⟩
      · simp (disch := omega) only [tw_u1n, tw_u1a]
      · simp (disch := omega) only [tw_u1n, tw_u1a]
      · simp (disch := omega) only [tw_u1n, tw_u1a]
    · obtain ⟨a1, a2, a3, x, a4, a5, a6⟩ := w7 q hq
      refine ⟨?_, ?_, ?_, ⟨x, a4, ?_, fun g => a6 (by omega)⟩⟩
      · rw [tw_u1n (by omega), tw_u1n (by omega), tw_u1n (by omega), tw_u1n (by omega), tw_u1n (by omega)]; exact a1
      · rw [tw_u1n (by omega), tw_u1n (by omega), tw_u1n (by omega), tw_u1n (by omega), tw_u1n (by omega)]; exact a2
      · rw [tw_u1n (by omega), tw_u1n (by omega), tw_u1n (by omega), tw_u1n (by omega), tw_u1n (by omega)]; exact a3
      · rw [tw_u1n (by omega), tw_u1n (by omega), tw_u1n (by omega), tw_u1n (by omega), tw_u1n (by omega)]; exact a5
  · intro q r2 hq hr2
    obtain ⟨⟨x1, a1, a2, a3⟩, ⟨x2, a4, a5, a6⟩, a7⟩ := w8 q r2 hq hr2
    refine ⟨⟨x1, a1, ?_, fun g => a3 (by omega)⟩, ⟨x2, a4, ?_, fun g => a6 (by omega)⟩, ?_⟩
    · rw [tw_u1n (by omega), tw_u1n (by omega), tw_u1n (by omega), tw_u1n (by omega), tw_u1n (by omega)]; exact a2
    · rw [tw_u1n (by omega), tw_u1n (by omega), tw_u1n (by omega), tw_u1n (by omega), tw_u1n (by omega)]; exact a5
    · rw [tw_u1n (i := 32 + 20 * P + 3) (by omega), tw_u1n (i := 0) (by omega), tw_u1n (i := 32 + 20 * P + 2) (by omega), tw_u1n (i := 32 + 20 * P + 1) (by omega), tw_u1n (i := 32 + 20 * P) (by omega), tw_u1n (i := 32 + 20 * P + 3) (by omega), tw_u1n (i := 0) (by omega), tw_u1n (i := 32 + 20 * P + 2) (by omega), tw_u1n (i := 32 + 20 * P + 1) (by omega), tw_u1n (i := 32 + 20 * P) (by omega)]; exact a7
  · intro q hq
    obtain ⟨a1, a2, a3⟩ := w9 q hq
    simp (disch := omega) only [tw_u1n]
    refine ⟨?_, ?_, a3⟩
    · rcases a1 with a1 | ⟨p, a1, a4⟩
      · exact Or.inl a1
      · exact Or.inr ⟨p, by omega, a4⟩
    · rcases a2 with a2 | ⟨p, a2, a4⟩
      · exact Or.inl a2
      · exact Or.inr ⟨p, by omega, a4⟩
  · intro k z h61 hz hk
    simp (disch := omega) only [tw_u1n] at hz ⊢
    exact w10 k z h61 hz hk
theorem tw_adP_i (W : tw_WF T P) (h8 : P < 8) (hh : h < 8) (hr : r < 101) (hy : y < 100) (hs : s < 2) : tw_Li T (tw_adP T P h r y s) (P + 1) := by
  refine ⟨tw_adP_w W h8 hh hr hy hs, ?_, ?_, fun j hj => ?_⟩
  · unfold tw_adP; simp (disch := omega) only [tw_u1n]
  · unfold tw_adP; simp (disch := omega) only [tw_u1n]
  · unfold tw_adP; rw [tw_u1n (by omega), tw_u1n (by omega), tw_u1n (by omega), tw_u1n (by omega), tw_u1n (by omega)]
theorem c_addPer (H : tw_RC sh μ (b + 12) T) (W : tw_WF T P) (h8 : P < 8) (hs : s < 2) (i : Nat) (w : Int32) : ∃ μ', tw_fx (b + 12) (b + 12 + 9) μ μ' ∧ tw_RC sh μ' (b + 12) (tw_adP T P h r y s) ∧ ∀ la n (k : Unit → tw_Mem → Prop), f_X8_addPerson (b + 12) (nI h) (nI r) (nI y) (nI s) k (sh, tw_cwf μ (b + 140) i w, la, n) = k () (sh, tw_cwf μ' (b + 140) i w, la, n) := by
  have R4 := Rc_set46 (Rc_set2 (Rc_set1 (Rc_setH H (p := P) h8 (nI h)) h8 (nI r)) h8 (nI y)) (nI (P + 1))
  have hP4 : tw_u1 (tw_u1 (tw_u1 (tw_u1 T (32 + 20 * P) (nI h)) (32 + 20 * P + 1) (nI r)) (32 + 20 * P + 2) (nI y)) 0 (nI (P + 1)) 0 = nI (P + 1) := tw_u1a
  obtain ⟨s', R5, E5⟩ := c_setSwornE (tw_RC_cwf (i := i) (w := w) R4) hP4 (by omega) (p := P) (by omega) hs
  refine ⟨tw_up (tw_up (tw_up (tw_up (tw_up μ (b + 12 + 1) P (nI h)) (b + 12 + 2) P (nI r)) (b + 12 + 3) P (nI y)) (b + 12) 46 (nI (P + 1))) (b + 12) 47 (nI s'), fun q hq => ?_, ?_, fun la n k => ?_⟩
  · rw [tw_up_ne (by omega), tw_up_ne (by omega), tw_up_ne (by omega), tw_up_ne (by omega), tw_up_ne (by omega)]
  · rw [tw_cwf_c (by omega)] at R5
    exact Rc_same R5 (fun q h1 h2 => (tw_cwf_n (by omega)).symm)
  · have h46 : μ (b + 12) 46 = nI P := (Rc_46 H).trans W.1
    have hN := H.1
    have e2 : tw_cwf (tw_up (tw_up (tw_up (tw_up (tw_up μ (b + 12 + 1) P (nI h)) (b + 12 + 2) P (nI r)) (b + 12 + 3) P (nI y)) (b + 12) 46 (nI (P + 1))) (b + 12) 47 (nI s')) (b + 140) i w = tw_up (tw_cwf (tw_up (tw_up (tw_up (tw_up μ (b + 12 + 1) P (nI h)) (b + 12 + 2) P (nI r)) (b + 12 + 3) P (nI y)) (b + 12) 46 (nI (P + 1))) (b + 140) i w) (b + 12) 47 (nI s') := (tw_cwf_c (by omega)).symm
    have E5' := E5 la n k
    have eD : (fun u : Unit => k ()) = k := rfl
    rw [e2, ← E5']
    clear E5 E5' e2 R5 R4 hP4
    have hlt : nI P < nI 8 := by rw [nz_lt (by omega) (by omega)]; exact h8
    have hge : ¬ nI P < nI 0 := by rw [nz_lt (by omega) (by omega)]; omega
    have l8 : (8 : Int32) = nI 8 := rfl
    have e1 : nI (P + 1) - nI 1 = nI P := by rw [nz_sub (by omega), Nat.add_sub_cancel]
    have g46 := fun {μ : Nat → Nat → Int32} (k : Int32 → tw_Mem → Prop) => tw_gi_is (sh := sh) (μ := μ) (la := la) (n := n) (q := 46) (y := b + 12) (of_eq_true (Tn_f46 hN)) k
    have p46 := fun {μ : Nat → Nat → Int32} (v : Int32) (k : tw_Mem → Prop) => tw_pi_is (sh := sh) (μ := μ) (la := la) (n := n) (q := 46) (y := b + 12) (of_eq_true (Tn_f46 hN)) v k
    have r39 := fun {μ : Nat → Nat → Int32} (k : Nat → tw_Mem → Prop) => tw_gr_is (sh := sh) (μ := μ) (la := la) (n := n) (q := 39) (y := b + 12) ⟨of_eq_true (Tn_f39 hN), Tn_r39 hN⟩ k
    have r40 := fun {μ : Nat → Nat → Int32} (k : Nat → tw_Mem → Prop) => tw_gr_is (sh := sh) (μ := μ) (la := la) (n := n) (q := 40) (y := b + 12) ⟨of_eq_true (Tn_f40 hN), Tn_r40 hN⟩ k
    have r41 := fun {μ : Nat → Nat → Int32} (k : Nat → tw_Mem → Prop) => tw_gr_is (sh := sh) (μ := μ) (la := la) (n := n) (q := 41) (y := b + 12) ⟨of_eq_true (Tn_f41 hN), Tn_r41 hN⟩ k
    have si := fun {μ : Nat → Nat → Int32} {z : Nat} (hz : tw_ar sh z 0 8) (v : Int32) (k : tw_Mem → Prop) => X_si (μ := μ) (la := la) (n := n) hz h8 (by decide) v k
    have s1 := fun {μ : Nat → Nat → Int32} (v : Int32) (k : tw_Mem → Prop) => si (μ := μ) hN.2.2.1 v k
    have s2 := fun {μ : Nat → Nat → Int32} (v : Int32) (k : tw_Mem → Prop) => si (μ := μ) hN.2.2.2.1 v k
    have s3 := fun {μ : Nat → Nat → Int32} (v : Int32) (k : tw_Mem → Prop) => si (μ := μ) hN.2.2.2.2.1 v k
    have iv7 := fun {μ : Nat → Nat → Int32} (F : tw_Mem → Prop) => show tw_iv 7 (b + 12) F (sh, μ, la, n) = F (sh, μ, la, n) by rw [A_iv, Tn_is hN, true_and]
    have c1 : ∀ (f : Nat → Nat → Int32) j v, tw_up (tw_cwf f (b + 140) i w) (b + 12) j v = tw_cwf (tw_up f (b + 12) j v) (b + 140) i w := fun f j v => tw_cwf_c (by omega)
    have c2 : ∀ (f : Nat → Nat → Int32) j v, tw_up (tw_cwf f (b + 140) i w) (b + 12 + 1) j v = tw_cwf (tw_up f (b + 12 + 1) j v) (b + 140) i w := fun f j v => tw_cwf_c (by omega)
    have c3 : ∀ (f : Nat → Nat → Int32) j v, tw_up (tw_cwf f (b + 140) i w) (b + 12 + 2) j v = tw_cwf (tw_up f (b + 12 + 2) j v) (b + 140) i w := fun f j v => tw_cwf_c (by omega)
    have c4 : ∀ (f : Nat → Nat → Int32) j v, tw_up (tw_cwf f (b + 140) i w) (b + 12 + 3) j v = tw_cwf (tw_up f (b + 12 + 3) j v) (b + 140) i w := fun f j v => tw_cwf_c (by omega)
    have g0 : ∀ (f : Nat → Nat → Int32), tw_cwf f (b + 140) i w (b + 12) = f (b + 12) := fun f => tw_cwf_n (by omega)
    have u1 : tw_up μ (b + 12 + 1) P (nI h) (b + 12) 46 = nI P := (tw_un (by omega)).trans h46
    have u2 : tw_up (tw_up μ (b + 12 + 1) P (nI h)) (b + 12 + 2) P (nI r) (b + 12) 46 = nI P := (tw_un (by omega)).trans u1
    have u3 : tw_up (tw_up (tw_up μ (b + 12 + 1) P (nI h)) (b + 12 + 2) P (nI r)) (b + 12 + 3) P (nI y) (b + 12) 46 = nI P := (tw_un (by omega)).trans u2
    simp only [f_X8_addPerson, ↓g46, ↓p46, ↓r39, ↓r40, ↓r41, ↓s1, ↓s2, ↓s3, ↓iv7, c1, c2, c3, c4, g0, h46, u1, u2, u3, tw_ua, hlt, hge, l8, tl_0, tl_1, nI_add, e1, ↓A_if, ↓A_jn, ↓A_lt, ↓A_rz, ↓A_rn, ↓A_nzi, ↓A_nzl, ↓A_nn1, ↓A_nn0, ↓reduceIte, true_and, and_true, if_true, if_false, ite_true, ite_false, reduceIte]
/-- what may follow: a word, and a number behind it -/
theorem b_opt (hT : tw_tx B e tt) (hX : tw_Tx sh b) (GS : tw_GS g G b) (h1 : Cond.stringRef own ix tx ∈ lw_tbl) (h1' : Cond.stringRef own2 ix2 tx ∈ lw_tbl) (h2 : tx ∈ tw_words) (hit : i ≤ tt) (hv : lo < 1000) (hvl : v = nI lo) : ∃ ok i' y, i ≤ i' ∧ i' ≤ tt ∧ y ≤ lo ∧
    (∀ μ w, tw_Ab sh μ (b + 140) (b + 1) B e tt → tw_GH G sh μ b → ∃ w', ∀ la n (J : Int32 → tw_Mem → Prop) (F : tw_Mem → Prop), tw_ls g own ix tx (fun t => tw_iv 8 (b + 140) (f_X7_takeWord (b + 140) t (fun x6 => tw_jn (fun (s8 : Int32) => J s8) (fun j7 => tw_if (x6 = 0) (j7 (0 : Int32)) (tw_iv 8 (b + 140) (f_X7_takeNumber (b + 140) (0 : Int32) v (fun x19 => tw_if (x19 = 0) F (tw_iv 8 (b + 140) (f_X7_lastTaken (b + 140) (fun x20 => j7 x20)))))))))) (sh, tw_cwf μ (b + 140) i w, la, n) = if ok = true then J (nI y) (sh, tw_cwf μ (b + 140) i' w', la, n) else F (sh, tw_cwf μ (b + 140) i' w', la, n)) ∧
    (∀ ν p q, tw_Mt sh ν (b + 168) B e → tw_GH G sh ν b → tw_on B e i p → ∃ p' q', (ok = true → tw_on B e i' p') ∧ (ok = false → q' = tw_tg B e i') ∧ ∀ la n (J : Int32 → tw_Mem → Prop), tw_ls g own2 ix2 tx (fun t => tw_iv 11 (b + 168) (f_X12_passes (b + 168) t (fun x5 => tw_jn (fun (s7 : Int32) => J s7) (fun j6 => tw_if (x5 = 0) (j6 (0 : Int32)) (tw_iv 11 (b + 168) (f_X12_number (b + 168) (0 : Int32) v (fun x37 => j6 x37))))))) (sh, tw_pb ν (b + 168) p q, la, n) = J (if ok = true then nI y else mI) (sh, tw_pb ν (b + 168) p' q', la, n)) := by
  have n10 : ¬ (nI 1) = (0 : Int32) := by decide
  have e00 : (nI 0) = (0 : Int32) := rfl
  have hv9 : v < nI 1000 := by rw [hvl, nz_lt (by omega) (by omega)]; exact hv
  by_cases q1 : tw_iW B e i tx
  · have i1 := tw_nx1 hT hit q1.1 (by omega)
    by_cases q2 : tw_iN B e (i + 1) 0 v
    · have q2' := q2
      rw [hvl] at q2'
      obtain ⟨_, v1, v2⟩ := tw_iN_v hT q2' (by omega)
      refine ⟨true, i + 1 + 1, tw_vd B e (i + 1), by omega, tw_nx1 hT i1 q2.1 (by omega), v1, fun μ w hA hG => ⟨nI (tw_vd B e (i + 1)), fun la n J F => ?_⟩, fun ν p q hM hG ho => ⟨tw_tp B e (i + 1 + 1), tw_tg B e (i + 1), fun _ => tw_on_p _ _ _, fun h => Bool.noConfusion h, fun la n J => ?_⟩⟩
      · rw [cb_W hA hG (by omega) (of_eq_true (Tx_is0 hX)) GS h1 h2 hit, if_pos q1, if_pos rfl, A_jn, A_if, if_neg n10, TxV0 hX, cb_N0 hA i1, if_pos q2, A_if, if_neg n10, TxV0 hX, cb_last hA]
      · rw [mb_Wp hM hG (by omega) GS h1' h2 ho, if_pos q1, if_pos rfl, A_jn, A_if, if_neg n10, MoV0 hM.1, mb_N0 hM (tw_on_p _ _ _) hv9, if_pos q2]
    · refine ⟨false, i + 1, 0, by omega, i1, Nat.zero_le _, fun μ w hA hG => ⟨w, fun la n J F => ?_⟩, fun ν p q hM hG ho => ⟨tw_tde B e (tw_tg B e (i + 1)), tw_tg B e (i + 1), fun h => Bool.noConfusion h, fun _ => rfl, fun la n J => ?_⟩⟩
      · rw [cb_W hA hG (by omega) (of_eq_true (Tx_is0 hX)) GS h1 h2 hit, if_pos q1, if_neg (by decide), A_jn, A_if, if_neg n10, TxV0 hX, cb_N0 hA i1, if_neg q2, A_if, if_pos e00]
      · rw [mb_Wp hM hG (by omega) GS h1' h2 ho, if_pos q1, if_neg (by decide), A_jn, A_if, if_neg n10, MoV0 hM.1, mb_N0 hM (tw_on_p _ _ _) hv9, if_neg q2]
  · refine ⟨true, i, 0, Nat.le_refl _, hit, Nat.zero_le _, fun μ w hA hG => ⟨w, fun la n J F => ?_⟩, fun ν p q hM hG ho => ⟨tw_tg B e i, tw_tg B e i, fun _ => tw_on_g _ _ _, fun h => Bool.noConfusion h, fun la n J => ?_⟩⟩
    · rw [cb_W hA hG (by omega) (of_eq_true (Tx_is0 hX)) GS h1 h2 hit, if_neg q1, if_pos rfl, A_jn, A_if, if_pos e00]
      rfl
    · rw [mb_Wp hM hG (by omega) GS h1' h2 ho, if_neg q1, if_pos rfl, A_jn, A_if, if_pos e00]
      rfl
end P99g
