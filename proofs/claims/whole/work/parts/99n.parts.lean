/-! ===== pure: the law's text, steps put out, parts ===== -/
def tw_uc (C : Nat → Nat × Nat) (c : Nat) (v : Nat × Nat) : Nat → Nat × Nat := fun j => if j = c then v else C j
theorem tw_uc_a {C : Nat → Nat × Nat} {c : Nat} {v : Nat × Nat} : tw_uc C c v c = v := if_pos rfl
theorem tw_uc_n {C : Nat → Nat × Nat} {c j : Nat} {v : Nat × Nat} (h : j < c) : tw_uc C c v j = C j := if_neg (by omega)
/-- the class's steps so far; nothing else has changed -/
def tw_cfr (b : Nat) (μ0 μ : Nat → Nat → Int32) : Prop := (∀ y, y ≠ b + 144 → y ≠ b + 151 → μ y = μ0 y) ∧ ∀ q, q ≠ 18 → μ (b + 144) q = μ0 (b + 144) q
def tw_cs (b : Nat) (μ0 μ : Nat → Nat → Int32) (C : Nat → Nat × Nat) (c : Nat) : Prop := tw_cfr b μ0 μ ∧ μ (b + 144) 18 = nI c ∧ c ≤ 400 ∧ ∀ j, j < c → μ (b + 151) j = nI (tw_cm (C j))
def tw_cwk (b : Nat) (μ0 μ : Nat → Nat → Int32) : Prop := ∃ c, tw_cfr b μ0 μ ∧ μ (b + 144) 18 = nI c ∧ c ≤ 400
/-- the model's code so far -/
def tw_mfr (m : Nat) (ν0 ν : Nat → Nat → Int32) : Prop := (∀ y, y ≠ m → y ≠ m + 1 → ν y = ν0 y) ∧ (∀ q, q ≠ 83 → q ≠ 86 → ν m q = ν0 m q) ∧ ∀ q, q < 1390 → ν (m + 1) q = ν0 (m + 1) q
def tw_ms (m : Nat) (ν0 ν : Nat → Nat → Int32) (C : Nat → Nat × Nat) (c d : Nat) : Prop := tw_mfr m ν0 ν ∧ ν m 86 = nI c ∧ ν m 83 = nI d ∧ ∀ j, j < c → ν (m + 1) (1390 + 2 * j) = nI (C j).1 ∧ ν (m + 1) (1390 + 2 * j + 1) = nI (C j).2
section P99n
variable {sh s2 : tw_Sh} {μ0 ν0 μ μ' ν : Nat → Nat → Int32} {la : Nat → Nat → Int64} {n a b x y m t tt e i lo c d cl p q p' q' z ix ix2 i' o h l r s : Nat} {G : tw_Gm} {g : tw_Gx} {B : Nat → Nat} {v w w' : Int32} {C : Nat → Nat × Nat} {u : Nat × Nat}
theorem tw_cs_w (h : tw_cs b μ0 μ C c) : tw_cwk b μ0 μ := ⟨c, h.1, h.2.1, h.2.2.1⟩
theorem tw_cfr_A (h : tw_cfr b μ0 μ) (hA : tw_Ab sh μ0 (b + 144) (b + 1) B e tt) : tw_Ab sh μ (b + 144) (b + 1) B e tt := tw_Ab_s hA (fun y h1 h2 => h.1 y (by omega) (by omega))
theorem tw_cfr_G (h : tw_cfr b μ0 μ) (hG : tw_GH G sh μ0 b) : tw_GH G sh μ b := tw_GH_s hG (fun y hy => h.1 y (by omega) (by omega))
theorem tw_mfr_M (h : tw_mfr m ν0 ν) (hM : tw_Mt s2 ν0 m B e) : tw_Mt s2 ν m B e := ⟨hM.1, (h.2.1 81 (by omega) (by omega)).trans hM.2.1, hM.2.2.1, by rw [h.1 _ (by omega) (by omega)]; exact hM.2.2.2.1, hM.2.2.2.2⟩
theorem tw_mfr_G (h : tw_mfr m ν0 ν) (hG : tw_GH G s2 ν0 b) (hb : b ≤ m) : tw_GH G s2 ν b := tw_GH_s hG (fun y hy => h.1 y (by omega) (by omega))
theorem c_addS0 (hX : tw_Tx sh b) (e18 : μ (b + 144) 18 = nI c) (hc : c < 400) (k : Unit → tw_Mem → Prop) : f_X1_addStep (b + 144) v k (sh, tw_cwf μ (b + 144) i w, la, n) = k () (sh, tw_cwf (tw_up (tw_up μ (b + 151) c v) (b + 144) 18 (nI (c + 1))) (b + 144) i w, la, n) := by
  have h1 : tw_cwf μ (b + 144) i w (b + 144) 18 = nI c := (tw_cwf_k (by omega)).trans e18
  have h2 : tw_up (tw_cwf μ (b + 144) i w) (b + 151) c v (b + 144) 18 = nI c := by rw [tw_up_ne (by omega)]; exact h1
  have hlt : nI c < nI 400 := by rw [nz_lt (by omega) (by omega)]; exact hc
  have hge : ¬ nI c < (0 : Int32) := by show ¬ nI c < nI 0; rw [nz_lt (by omega) (by omega)]; omega
  have e1 : nI c + (1 : Int32) = nI (c + 1) := nI_add c 1
  have har := hX.2.2.2.2.2.2.2.2.2.2.2.1
  unfold f_X1_addStep
  rw [TxI1_18 hX, h1, A_if, if_neg hge, TxI1_18 hX, TxG1_16 hX, tw_al_ar har (by decide), h1, A_if, if_pos hlt, TxG1_16 hX, TxI1_18 hX, h1, X_si har hc (by decide), TxI1_18 hX, h2, TxP1_18 hX, e1, tw_cwf_c (by omega), tw_cwf_ck (by omega)]
theorem c_addS1 (hX : tw_Tx sh b) (e18 : μ (b + 144) 18 = nI c) (hc : ¬ c < 400) (hc2 : c ≤ 400) (k : Unit → tw_Mem → Prop) : f_X1_addStep (b + 144) v k (sh, tw_cwf μ (b + 144) i w, la, n) = k () (sh, tw_cwf μ (b + 144) i w, la, n) := by
  have h1 : tw_cwf μ (b + 144) i w (b + 144) 18 = nI c := (tw_cwf_k (by omega)).trans e18
  have hlt : ¬ nI c < nI 400 := by rw [nz_lt (by omega) (by omega)]; exact hc
  have hge : ¬ nI c < (0 : Int32) := by show ¬ nI c < nI 0; rw [nz_lt (by omega) (by omega)]; omega
  have har := hX.2.2.2.2.2.2.2.2.2.2.2.1
  unfold f_X1_addStep
  rw [TxI1_18 hX, h1, A_if, if_neg hge, TxI1_18 hX, TxG1_16 hX, tw_al_ar har (by decide), h1, A_if, if_neg hlt]
theorem c_addS (hX : tw_Tx sh b) (H : tw_cs b μ0 μ C c) (hc : c < 400) (hv : v = nI (tw_cm u)) : ∃ μ', tw_cs b μ0 μ' (tw_uc C c u) (c + 1) ∧ ∀ i w la n k, f_X1_addStep (b + 144) v k (sh, tw_cwf μ (b + 144) i w, la, n) = k () (sh, tw_cwf μ' (b + 144) i w, la, n) := by
  obtain ⟨⟨F1, F2⟩, e18, hc4, hcs⟩ := H
  refine ⟨_, ⟨⟨fun y h1 h2 => ?_, fun q hq => ?_⟩, ?_, by omega, fun j hj => ?_⟩, fun i w la n k => c_addS0 hX e18 hc k⟩
  · rw [tw_up_ne h1, tw_up_ne h2]; exact F1 y h1 h2
  · rw [tw_uk (by omega), tw_up_ne (by omega)]; exact F2 q hq
  · exact tw_ua
  · rw [tw_up_ne (by omega)]
    by_cases ej : j = c
    · subst ej; rw [tw_uc_a, tw_ua, hv]
    · rw [tw_uc_n (by omega), tw_uk (by omega)]; exact hcs j (by omega)
theorem c_addW (hX : tw_Tx sh b) (H : tw_cwk b μ0 μ) (v : Int32) : ∃ μ', tw_cwk b μ0 μ' ∧ ∀ i w la n k, f_X1_addStep (b + 144) v k (sh, tw_cwf μ (b + 144) i w, la, n) = k () (sh, tw_cwf μ' (b + 144) i w, la, n) := by
  obtain ⟨c, ⟨F1, F2⟩, e18, hc4⟩ := H
  by_cases hc : c < 400
  · refine ⟨_, ⟨c + 1, ⟨fun y h1 h2 => ?_, fun q hq => ?_⟩, ?_, by omega⟩, fun i w la n k => c_addS0 hX e18 hc k⟩
    · rw [tw_up_ne h1, tw_up_ne h2]; exact F1 y h1 h2
    · rw [tw_uk (by omega), tw_up_ne (by omega)]; exact F2 q hq
    · exact tw_ua
  · exact ⟨μ, ⟨c, ⟨F1, F2⟩, e18, hc4⟩, fun i w la n k => c_addS1 hX e18 hc hc4 k⟩
theorem m_emit0 (hM : tw_Mo s2 m) (e86 : ν m 86 = nI c) (hc : c < 400) (v w : Int32) (k : Unit → tw_Mem → Prop) : f_X12_emits m v w k (s2, tw_pb ν m p q, la, n) = k () (s2, tw_pb (tw_up (tw_up (tw_up ν (m + 1) (1390 + 2 * c) v) (m + 1) (1390 + 2 * c + 1) w) m 86 (nI (c + 1))) m p q, la, n) := by
  have h1 : tw_pb ν m p q m 86 = nI c := (tw_pb_k (by omega) (by omega)).trans e86
  have h2 : tw_up (tw_pb ν m p q) (m + 1) (1390 + 2 * c) v m 86 = nI c := by rw [tw_up_ne (by omega)]; exact h1
  have h3 : tw_up (tw_up (tw_pb ν m p q) (m + 1) (1390 + 2 * c) v) (m + 1) (1390 + 2 * c + 1) w m 86 = nI c := by rw [tw_up_ne (by omega)]; exact h2
  have e1 : nI c + (1 : Int32) = nI (c + 1) := nI_add c 1
  have e2 : (1390 : Int32) + (2 : Int32) * nI c = nI (1390 + 2 * c) := by
    show nI 1390 + nI 2 * nI c = _
    rw [pk_mul, nI_add]
  have e3 : nI (1390 + 2 * c) + (1 : Int32) = nI (1390 + 2 * c + 1) := nI_add _ 1
  unfold f_X12_emits
  rw [MoG0_71 hM, MoI0_86 hM, h1, e2, X_si hM.2.1 (by omega) (by decide), MoG0_71 hM, MoI0_86 hM, h2, e2, e3, X_si hM.2.1 (by omega) (by decide), MoI0_86 hM, h3, MoP0_86 hM, e1, tw_pb_c (by omega), tw_pb_c (by omega), tw_pb_ck (by omega) (by omega)]
theorem m_emit (hM : tw_Mo s2 m) (H : tw_ms m ν0 ν C c d) (hc : c < 400) {v w : Int32} (hv : v = nI u.1) (hw : w = nI u.2) : ∃ ν', tw_ms m ν0 ν' (tw_uc C c u) (c + 1) d ∧ ∀ p q la n k, f_X12_emits m v w k (s2, tw_pb ν m p q, la, n) = k () (s2, tw_pb ν' m p q, la, n) := by
  obtain ⟨⟨F1, F2, F3⟩, e86, e83, hcs⟩ := H
  refine ⟨_, ⟨⟨fun y h1 h2 => ?_, fun q h1 h2 => ?_, fun q hq => ?_⟩, tw_ua, ?_, fun j hj => ?_⟩, fun p q la n k => m_emit0 hM e86 hc v w k⟩
  · rw [tw_up_ne h1, tw_up_ne h2, tw_up_ne h2]; exact F1 y h1 h2
  · rw [tw_uk (by omega), tw_up_ne (by omega), tw_up_ne (by omega)]; exact F2 q h1 h2
  · rw [tw_up_ne (by omega), tw_uk (by omega), tw_uk (by omega)]; exact F3 q hq
  · rw [tw_uk (by omega), tw_up_ne (by omega), tw_up_ne (by omega)]; exact e83
  · rw [tw_up_ne (by omega)]
    by_cases ej : j = c
    · subst ej
      rw [tw_uc_a]
      exact ⟨by rw [tw_uk (by omega), tw_ua, hv], by rw [tw_ua, hw]⟩
    · rw [tw_uc_n (by omega), tw_uk (by omega), tw_uk (by omega), tw_uk (by omega), tw_uk (by omega)]
      exact hcs j (by omega)
theorem m_emitF (hM : tw_Mo s2 m) (H : tw_ms m ν0 ν C c d) (hc : c < 400) (v w : Int32) : ∃ ν', tw_mfr m ν0 ν' ∧ ∀ p q la n k, f_X12_emits m v w k (s2, tw_pb ν m p q, la, n) = k () (s2, tw_pb ν' m p q, la, n) := by
  obtain ⟨⟨F1, F2, F3⟩, e86, e83, hcs⟩ := H
  refine ⟨_, ⟨fun y h1 h2 => ?_, fun q h1 h2 => ?_, fun q hq => ?_⟩, fun p q la n k => m_emit0 hM e86 hc v w k⟩
  · rw [tw_up_ne h1, tw_up_ne h2, tw_up_ne h2]; exact F1 y h1 h2
  · rw [tw_uk (by omega), tw_up_ne (by omega), tw_up_ne (by omega)]; exact F2 q h1 h2
  · rw [tw_up_ne (by omega), tw_uk (by omega), tw_uk (by omega)]; exact F3 q hq
/-- one nonterminal, the class; the model -/
def tw_nc (sh : tw_Sh) (b : Nat) (μ0 : Nat → Nat → Int32) (C : Nat → Nat × Nat) (c i : Nat) (ok : Bool) (i' : Nat) (C' : Nat → Nat × Nat) (c' : Nat) (fc : (Int32 → tw_Mem → Prop) → tw_Mem → Prop) : Prop := ∀ μ w, tw_cs b μ0 μ C c → ∃ μ' w', (ok = true → tw_cs b μ0 μ' C' c') ∧ tw_cwk b μ0 μ' ∧ ∀ la n k, fc k (sh, tw_cwf μ (b + 144) i w, la, n) = k (tw_bo ok) (sh, tw_cwf μ' (b + 144) i' w', la, n)
def tw_nm (sh : tw_Sh) (m : Nat) (ν0 : Nat → Nat → Int32) (B : Nat → Nat) (e : Nat) (C : Nat → Nat × Nat) (c d i : Nat) (ok : Bool) (i' : Nat) (C' : Nat → Nat × Nat) (c' : Nat) (fm : (Int32 → tw_Mem → Prop) → tw_Mem → Prop) : Prop := ∀ ν p q, tw_ms m ν0 ν C c d → tw_on B e i p → ∃ ν' p' q', (ok = true → tw_ms m ν0 ν' C' c' d ∧ tw_on B e i' p') ∧ (ok = false → q' = tw_tg B e i') ∧ tw_mfr m ν0 ν' ∧ ∀ la n k, fm k (sh, tw_pb ν m p q, la, n) = k (tw_bo ok) (sh, tw_pb ν' m p' q', la, n)
theorem b_partW (hT : tw_tx B e tt) (hX : tw_Tx sh b) (GS : tw_GS g G b) (hA : tw_Ab sh μ0 (b + 144) (b + 1) B e tt) (hGc : tw_GH G sh μ0 b) (hM : tw_Mt s2 ν0 (b + 168) B e) (hGm : tw_GH G s2 ν0 b) (qk : tw_kd B e i = 1) (hi : i ≤ tt) (hc : c + 2 ≤ i) : ∃ ok i' u, (ok = true → i' = i + 1 ∧ (u.1 ≤ 6 ∨ u.1 = 10) ∧ u.2 < 1000) ∧ (ok = false → i' = i) ∧ i' ≤ tt ∧ tw_nc sh b μ0 C c i ok i' (tw_uc C c u) (c + 1) (f_X1_takePart g (b + 144)) ∧ tw_nm s2 (b + 168) ν0 B e C c d i ok i' (tw_uc C c u) (c + 1) (f_X12_readPart g (b + 168)) := by
  have n10 : ¬ (nI 1) = (0 : Int32) := by decide
  have n11 : ¬ (1 : Int32) = 0 := by decide
  have e00 : (nI 0) = (0 : Int32) := rfl
  have hmI : mI < (0 : Int32) := by decide
  have h999 : (999 : Int32) < nI 1000 := by decide
  have hz0 : ∀ F M, tw_rz (0 : Int32) F M = F M := fun F M => tw_rz_b (ok := false) F M
  have hz1 : ∀ F M, tw_rz (1 : Int32) F M = F M := fun F M => tw_rz_b (ok := true) F M
  have cis := of_eq_true (Tx_is1 hX)
  have he4 := hT.2.1
  have ht4 := hT.1
  have hm := hM.1
  have nn : ∀ c, c < 1000 → ¬ nI c < (0 : Int32) := fun c hc => by
    show ¬ nI c < nI 0
    rw [nz_lt (by omega) (by omega)]; omega
  have w0 : "one" ∈ tw_words := by decide
  have w1 : "other" ∈ tw_words := by decide
  have w2 : "guess" ∈ tw_words := by decide
  have w3 : "back" ∈ tw_words := by decide
  have w4 : "rung" ∈ tw_words := by decide
  have w5 : "hour" ∈ tw_words := by decide
  have w6 : "day" ∈ tw_words := by decide
  have hge : tw_tg B e i ≤ e := (tw_tbb_s B (tw_tp_s B e i)).2.1
  -- the model's end, once its answer is known
  have MI : ∀ ν p q, tw_mfr (b + 168) ν0 ν → tw_on B e i p → ∀ la n k, f_X12_readPart g (b + 168) k (s2, tw_pb ν (b + 168) p q, la, n) = tw_jn (fun (s5 : Int32) => tw_jn (fun (s7 : Int32) => tw_jn (fun (s9 : Int32) => tw_jn (fun (s11 : Int32) => tw_iv 11 (b + 168) (f_X12_emits (b + 168) s9 s11 (fun u12 => tw_if (s7 < 0) (tw_rz (0 : Int32) (k (0 : Int32))) (tw_rz (1 : Int32) (k (1 : Int32)))))) (fun j10 => tw_if (s5 = 0) (j10 (0 : Int32)) (j10 s7))) (fun j8 => tw_if (s5 = 0) (j8 s7) (j8 (10 : Int32)))) (fun j6 => tw_if (s5 = 0) (tw_iv 11 (b + 168) (f_X12_wordOfPart g (b + 168) (fun x13 => j6 x13))) (tw_iv 11 (b + 168) (f_X12_number (b + 168) (0 : Int32) (999 : Int32) (fun x14 => j6 x14))))) (fun j4 => tw_if (nI (tw_tle B e (tw_tg B e i)) = nI (tw_tg B e i)) (j4 (1 : Int32)) (j4 (0 : Int32))) (s2, tw_pb ν (b + 168) (tw_tle B e (tw_tg B e i)) (tw_tg B e i), la, n) := fun ν p q F ho la n k => by
    unfold f_X12_readPart
    rw [MoV0 hm, m_letters1 (tw_mfr_M F hM) ho, MoI0_80 hm, MoI0_82 hm, tw_pb_80, tw_pb_82]
  have ht := tw_tle_1 qk
  have hlt : tw_tg B e i < tw_tp B e (i + 1) := by
    rw [tw_tp_S]
    refine (tw_te_s B hge).2.2 ?_
    rcases Nat.lt_or_ge (tw_tg B e i) e with h | h
    · exact h
    · have : tw_kd B e i = 0 := (tw_kd_0 hT hi).mpr (by omega)
      omega
  have hle : tw_tp B e (i + 1) ≤ e := tw_tp_s B e (i + 1)
  have hne : ¬ nI (tw_tle B e (tw_tg B e i)) = nI (tw_tg B e i) := by
    rw [ht, nz_eq (by omega) (by omega)]; omega
  have qn : ∀ v, ¬ tw_iN B e i 0 v := fun v h => by have := h.1; omega
  have i1 := tw_nx1 hT hi qk (by omega)
  have MW : ∀ ν p q, tw_mfr (b + 168) ν0 ν → tw_on B e i p → ∀ la n k (r : Int32), (∀ K : Int32 → tw_Mem → Prop, f_X12_wordOfPart g (b + 168) K (s2, tw_pb ν (b + 168) (tw_tle B e (tw_tg B e i)) (tw_tg B e i), la, n) = K r (s2, tw_pb ν (b + 168) (tw_tle B e (tw_tg B e i)) (tw_tg B e i), la, n)) → f_X12_readPart g (b + 168) k (s2, tw_pb ν (b + 168) p q, la, n) = f_X12_emits (b + 168) r (0 : Int32) (fun u12 => tw_if (r < 0) (tw_rz (0 : Int32) (k (0 : Int32))) (tw_rz (1 : Int32) (k (1 : Int32)))) (s2, tw_pb ν (b + 168) (tw_tle B e (tw_tg B e i)) (tw_tg B e i), la, n) := fun ν p q F ho la n k r hr => by
    rw [MI ν p q F ho, A_jn, A_if, if_neg hne]
    show tw_jn _ (fun j6 => tw_if ((0 : Int32) = 0) _ _) _ = _
    rw [A_jn, A_if, if_pos rfl, MoV0 hm, hr]
    show tw_jn _ (fun j8 => tw_if ((0 : Int32) = 0) _ _) _ = _
    rw [A_jn, A_if, if_pos rfl]
    show tw_jn _ (fun j10 => tw_if ((0 : Int32) = 0) _ _) _ = _
    rw [A_jn, A_if, if_pos rfl]
    show tw_iv 11 (b + 168) _ _ = _
    rw [MoV0 hm]
  by_cases q0 : tw_iW B e i "one"
  · refine ⟨true, i + 1, (0, 0), fun _ => ⟨rfl, by decide, by decide⟩, fun h => Bool.noConfusion h, i1, fun μ w H => ?_, fun ν p q H ho => ?_⟩
    · have hA' := tw_cfr_A H.1 hA
      have hG' := tw_cfr_G H.1 hGc
      obtain ⟨μ', H2, E⟩ := c_addS (v := (0 : Int32)) (u := (0, 0)) hX H (by omega) rfl
      refine ⟨μ', w, fun _ => H2, tw_cs_w H2, fun la n k => ?_⟩
      unfold f_X1_takePart
      rw [TxV1 hX, cb_N0 hA' hi, if_neg (qn _), A_if, if_pos e00, cb_W hA' hG' (by omega) cis GS ks_RX1_101 w0 hi, if_pos q0, A_if, if_neg n10, TxV1 hX, E, hz1]
      rfl
    · have hM' := tw_mfr_M H.1 hM
      have hG' := tw_mfr_G H.1 hGm (by omega : b ≤ b + 168)
      obtain ⟨ν', H2, E⟩ := m_emit (v := (0 : Int32)) (w := (0 : Int32)) (u := (0, 0)) hm H (by omega) rfl rfl
      refine ⟨ν', tw_tp B e (i + 1), tw_tg B e i, fun _ => ⟨H2, tw_on_p _ _ _⟩, fun h => Bool.noConfusion h, H2.1, fun la n k => ?_⟩
      rw [MW ν p q H.1 ho la n k (0 : Int32) (fun K => by
        unfold f_X12_wordOfPart
        rw [mb_Wi hM' hG' (by omega) GS ks_RX12_167 w0, if_pos q0, A_if, if_neg n10]), E, A_if, if_neg (by decide), hz1, ht]
      rfl
  · skip
    by_cases q1 : tw_iW B e i "other"
    · refine ⟨true, i + 1, (1, 0), fun _ => ⟨rfl, by decide, by decide⟩, fun h => Bool.noConfusion h, i1, fun μ w H => ?_, fun ν p q H ho => ?_⟩
      · have hA' := tw_cfr_A H.1 hA
        have hG' := tw_cfr_G H.1 hGc
        obtain ⟨μ', H2, E⟩ := c_addS (v := (1 : Int32)) (u := (1, 0)) hX H (by omega) rfl
        refine ⟨μ', w, fun _ => H2, tw_cs_w H2, fun la n k => ?_⟩
        unfold f_X1_takePart
        rw [TxV1 hX, cb_N0 hA' hi, if_neg (qn _), A_if, if_pos e00, cb_W hA' hG' (by omega) cis GS ks_RX1_101 w0 hi, if_neg q0, A_if, if_pos e00, cb_W hA' hG' (by omega) cis GS ks_RX1_103 w1 hi, if_pos q1, A_if, if_neg n10, TxV1 hX, E, hz1]
        rfl
      · have hM' := tw_mfr_M H.1 hM
        have hG' := tw_mfr_G H.1 hGm (by omega : b ≤ b + 168)
        obtain ⟨ν', H2, E⟩ := m_emit (v := (1 : Int32)) (w := (0 : Int32)) (u := (1, 0)) hm H (by omega) rfl rfl
        refine ⟨ν', tw_tp B e (i + 1), tw_tg B e i, fun _ => ⟨H2, tw_on_p _ _ _⟩, fun h => Bool.noConfusion h, H2.1, fun la n k => ?_⟩
        rw [MW ν p q H.1 ho la n k (1 : Int32) (fun K => by
          unfold f_X12_wordOfPart
          rw [mb_Wi hM' hG' (by omega) GS ks_RX12_167 w0, if_neg q0, A_if, if_pos e00, mb_Wi hM' hG' (by omega) GS ks_RX12_169 w1, if_pos q1, A_if, if_neg n10]), E, A_if, if_neg (by decide), hz1, ht]
        rfl
    · skip
      by_cases q2 : tw_iW B e i "guess"
      · refine ⟨true, i + 1, (2, 0), fun _ => ⟨rfl, by decide, by decide⟩, fun h => Bool.noConfusion h, i1, fun μ w H => ?_, fun ν p q H ho => ?_⟩
        · have hA' := tw_cfr_A H.1 hA
          have hG' := tw_cfr_G H.1 hGc
          obtain ⟨μ', H2, E⟩ := c_addS (v := (2 : Int32)) (u := (2, 0)) hX H (by omega) rfl
          refine ⟨μ', w, fun _ => H2, tw_cs_w H2, fun la n k => ?_⟩
          unfold f_X1_takePart
          rw [TxV1 hX, cb_N0 hA' hi, if_neg (qn _), A_if, if_pos e00, cb_W hA' hG' (by omega) cis GS ks_RX1_101 w0 hi, if_neg q0, A_if, if_pos e00, cb_W hA' hG' (by omega) cis GS ks_RX1_103 w1 hi, if_neg q1, A_if, if_pos e00, cb_W hA' hG' (by omega) cis GS ks_RX1_54 w2 hi, if_pos q2, A_if, if_neg n10, TxV1 hX, E, hz1]
          rfl
        · have hM' := tw_mfr_M H.1 hM
          have hG' := tw_mfr_G H.1 hGm (by omega : b ≤ b + 168)
          obtain ⟨ν', H2, E⟩ := m_emit (v := (2 : Int32)) (w := (0 : Int32)) (u := (2, 0)) hm H (by omega) rfl rfl
          refine ⟨ν', tw_tp B e (i + 1), tw_tg B e i, fun _ => ⟨H2, tw_on_p _ _ _⟩, fun h => Bool.noConfusion h, H2.1, fun la n k => ?_⟩
          rw [MW ν p q H.1 ho la n k (2 : Int32) (fun K => by
            unfold f_X12_wordOfPart
            rw [mb_Wi hM' hG' (by omega) GS ks_RX12_167 w0, if_neg q0, A_if, if_pos e00, mb_Wi hM' hG' (by omega) GS ks_RX12_169 w1, if_neg q1, A_if, if_pos e00, mb_Wi hM' hG' (by omega) GS ks_RX12_148 w2, if_pos q2, A_if, if_neg n10]), E, A_if, if_neg (by decide), hz1, ht]
          rfl
      · skip
        by_cases q3 : tw_iW B e i "back"
        · refine ⟨true, i + 1, (3, 0), fun _ => ⟨rfl, by decide, by decide⟩, fun h => Bool.noConfusion h, i1, fun μ w H => ?_, fun ν p q H ho => ?_⟩
          · have hA' := tw_cfr_A H.1 hA
            have hG' := tw_cfr_G H.1 hGc
            obtain ⟨μ', H2, E⟩ := c_addS (v := (3 : Int32)) (u := (3, 0)) hX H (by omega) rfl
            refine ⟨μ', w, fun _ => H2, tw_cs_w H2, fun la n k => ?_⟩
            unfold f_X1_takePart
            rw [TxV1 hX, cb_N0 hA' hi, if_neg (qn _), A_if, if_pos e00, cb_W hA' hG' (by omega) cis GS ks_RX1_101 w0 hi, if_neg q0, A_if, if_pos e00, cb_W hA' hG' (by omega) cis GS ks_RX1_103 w1 hi, if_neg q1, A_if, if_pos e00, cb_W hA' hG' (by omega) cis GS ks_RX1_54 w2 hi, if_neg q2, A_if, if_pos e00, cb_W hA' hG' (by omega) cis GS ks_RX1_105 w3 hi, if_pos q3, A_if, if_neg n10, TxV1 hX, E, hz1]
            rfl
          · have hM' := tw_mfr_M H.1 hM
            have hG' := tw_mfr_G H.1 hGm (by omega : b ≤ b + 168)
            obtain ⟨ν', H2, E⟩ := m_emit (v := (3 : Int32)) (w := (0 : Int32)) (u := (3, 0)) hm H (by omega) rfl rfl
            refine ⟨ν', tw_tp B e (i + 1), tw_tg B e i, fun _ => ⟨H2, tw_on_p _ _ _⟩, fun h => Bool.noConfusion h, H2.1, fun la n k => ?_⟩
            rw [MW ν p q H.1 ho la n k (3 : Int32) (fun K => by
              unfold f_X12_wordOfPart
              rw [mb_Wi hM' hG' (by omega) GS ks_RX12_167 w0, if_neg q0, A_if, if_pos e00, mb_Wi hM' hG' (by omega) GS ks_RX12_169 w1, if_neg q1, A_if, if_pos e00, mb_Wi hM' hG' (by omega) GS ks_RX12_148 w2, if_neg q2, A_if, if_pos e00, mb_Wi hM' hG' (by omega) GS ks_RX12_171 w3, if_pos q3, A_if, if_neg n10]), E, A_if, if_neg (by decide), hz1, ht]
            rfl
        · skip
          by_cases q4 : tw_iW B e i "rung"
          · refine ⟨true, i + 1, (4, 0), fun _ => ⟨rfl, by decide, by decide⟩, fun h => Bool.noConfusion h, i1, fun μ w H => ?_, fun ν p q H ho => ?_⟩
            · have hA' := tw_cfr_A H.1 hA
              have hG' := tw_cfr_G H.1 hGc
              obtain ⟨μ', H2, E⟩ := c_addS (v := (6 : Int32)) (u := (4, 0)) hX H (by omega) rfl
              refine ⟨μ', w, fun _ => H2, tw_cs_w H2, fun la n k => ?_⟩
              unfold f_X1_takePart
              rw [TxV1 hX, cb_N0 hA' hi, if_neg (qn _), A_if, if_pos e00, cb_W hA' hG' (by omega) cis GS ks_RX1_101 w0 hi, if_neg q0, A_if, if_pos e00, cb_W hA' hG' (by omega) cis GS ks_RX1_103 w1 hi, if_neg q1, A_if, if_pos e00, cb_W hA' hG' (by omega) cis GS ks_RX1_54 w2 hi, if_neg q2, A_if, if_pos e00, cb_W hA' hG' (by omega) cis GS ks_RX1_105 w3 hi, if_neg q3, A_if, if_pos e00, cb_W hA' hG' (by omega) cis GS ks_RX1_107 w4 hi, if_pos q4, A_if, if_neg n10, TxV1 hX, E, hz1]
              rfl
            · have hM' := tw_mfr_M H.1 hM
              have hG' := tw_mfr_G H.1 hGm (by omega : b ≤ b + 168)
              obtain ⟨ν', H2, E⟩ := m_emit (v := (4 : Int32)) (w := (0 : Int32)) (u := (4, 0)) hm H (by omega) rfl rfl
              refine ⟨ν', tw_tp B e (i + 1), tw_tg B e i, fun _ => ⟨H2, tw_on_p _ _ _⟩, fun h => Bool.noConfusion h, H2.1, fun la n k => ?_⟩
              rw [MW ν p q H.1 ho la n k (4 : Int32) (fun K => by
                unfold f_X12_wordOfPart
                rw [mb_Wi hM' hG' (by omega) GS ks_RX12_167 w0, if_neg q0, A_if, if_pos e00, mb_Wi hM' hG' (by omega) GS ks_RX12_169 w1, if_neg q1, A_if, if_pos e00, mb_Wi hM' hG' (by omega) GS ks_RX12_148 w2, if_neg q2, A_if, if_pos e00, mb_Wi hM' hG' (by omega) GS ks_RX12_171 w3, if_neg q3, A_if, if_pos e00, mb_Wi hM' hG' (by omega) GS ks_RX12_173 w4, if_pos q4, A_if, if_neg n10]), E, A_if, if_neg (by decide), hz1, ht]
              rfl
          · skip
            by_cases q5 : tw_iW B e i "hour"
            · refine ⟨true, i + 1, (5, 0), fun _ => ⟨rfl, by decide, by decide⟩, fun h => Bool.noConfusion h, i1, fun μ w H => ?_, fun ν p q H ho => ?_⟩
              · have hA' := tw_cfr_A H.1 hA
                have hG' := tw_cfr_G H.1 hGc
                obtain ⟨μ', H2, E⟩ := c_addS (v := (7 : Int32)) (u := (5, 0)) hX H (by omega) rfl
                refine ⟨μ', w, fun _ => H2, tw_cs_w H2, fun la n k => ?_⟩
                unfold f_X1_takePart
                rw [TxV1 hX, cb_N0 hA' hi, if_neg (qn _), A_if, if_pos e00, cb_W hA' hG' (by omega) cis GS ks_RX1_101 w0 hi, if_neg q0, A_if, if_pos e00, cb_W hA' hG' (by omega) cis GS ks_RX1_103 w1 hi, if_neg q1, A_if, if_pos e00, cb_W hA' hG' (by omega) cis GS ks_RX1_54 w2 hi, if_neg q2, A_if, if_pos e00, cb_W hA' hG' (by omega) cis GS ks_RX1_105 w3 hi, if_neg q3, A_if, if_pos e00, cb_W hA' hG' (by omega) cis GS ks_RX1_107 w4 hi, if_neg q4, A_if, if_pos e00, cb_W hA' hG' (by omega) cis GS ks_RX1_109 w5 hi, if_pos q5, A_if, if_neg n10, TxV1 hX, E, hz1]
                rfl
              · have hM' := tw_mfr_M H.1 hM
                have hG' := tw_mfr_G H.1 hGm (by omega : b ≤ b + 168)
                obtain ⟨ν', H2, E⟩ := m_emit (v := (5 : Int32)) (w := (0 : Int32)) (u := (5, 0)) hm H (by omega) rfl rfl
                refine ⟨ν', tw_tp B e (i + 1), tw_tg B e i, fun _ => ⟨H2, tw_on_p _ _ _⟩, fun h => Bool.noConfusion h, H2.1, fun la n k => ?_⟩
                rw [MW ν p q H.1 ho la n k (5 : Int32) (fun K => by
                  unfold f_X12_wordOfPart
                  rw [mb_Wi hM' hG' (by omega) GS ks_RX12_167 w0, if_neg q0, A_if, if_pos e00, mb_Wi hM' hG' (by omega) GS ks_RX12_169 w1, if_neg q1, A_if, if_pos e00, mb_Wi hM' hG' (by omega) GS ks_RX12_148 w2, if_neg q2, A_if, if_pos e00, mb_Wi hM' hG' (by omega) GS ks_RX12_171 w3, if_neg q3, A_if, if_pos e00, mb_Wi hM' hG' (by omega) GS ks_RX12_173 w4, if_neg q4, A_if, if_pos e00, mb_Wi hM' hG' (by omega) GS ks_RX12_160 w5, if_pos q5, A_if, if_neg n10]), E, A_if, if_neg (by decide), hz1, ht]
                rfl
            · skip
              by_cases q6 : tw_iW B e i "day"
              · refine ⟨true, i + 1, (6, 0), fun _ => ⟨rfl, by decide, by decide⟩, fun h => Bool.noConfusion h, i1, fun μ w H => ?_, fun ν p q H ho => ?_⟩
                · have hA' := tw_cfr_A H.1 hA
                  have hG' := tw_cfr_G H.1 hGc
                  obtain ⟨μ', H2, E⟩ := c_addS (v := (8 : Int32)) (u := (6, 0)) hX H (by omega) rfl
                  refine ⟨μ', w, fun _ => H2, tw_cs_w H2, fun la n k => ?_⟩
                  unfold f_X1_takePart
                  rw [TxV1 hX, cb_N0 hA' hi, if_neg (qn _), A_if, if_pos e00, cb_W hA' hG' (by omega) cis GS ks_RX1_101 w0 hi, if_neg q0, A_if, if_pos e00, cb_W hA' hG' (by omega) cis GS ks_RX1_103 w1 hi, if_neg q1, A_if, if_pos e00, cb_W hA' hG' (by omega) cis GS ks_RX1_54 w2 hi, if_neg q2, A_if, if_pos e00, cb_W hA' hG' (by omega) cis GS ks_RX1_105 w3 hi, if_neg q3, A_if, if_pos e00, cb_W hA' hG' (by omega) cis GS ks_RX1_107 w4 hi, if_neg q4, A_if, if_pos e00, cb_W hA' hG' (by omega) cis GS ks_RX1_109 w5 hi, if_neg q5, A_if, if_pos e00, cb_W hA' hG' (by omega) cis GS ks_RX1_111 w6 hi, if_pos q6, A_if, if_neg n10, TxV1 hX, E, hz1]
                  rfl
                · have hM' := tw_mfr_M H.1 hM
                  have hG' := tw_mfr_G H.1 hGm (by omega : b ≤ b + 168)
                  obtain ⟨ν', H2, E⟩ := m_emit (v := (6 : Int32)) (w := (0 : Int32)) (u := (6, 0)) hm H (by omega) rfl rfl
                  refine ⟨ν', tw_tp B e (i + 1), tw_tg B e i, fun _ => ⟨H2, tw_on_p _ _ _⟩, fun h => Bool.noConfusion h, H2.1, fun la n k => ?_⟩
                  rw [MW ν p q H.1 ho la n k (6 : Int32) (fun K => by
                    unfold f_X12_wordOfPart
                    rw [mb_Wi hM' hG' (by omega) GS ks_RX12_167 w0, if_neg q0, A_if, if_pos e00, mb_Wi hM' hG' (by omega) GS ks_RX12_169 w1, if_neg q1, A_if, if_pos e00, mb_Wi hM' hG' (by omega) GS ks_RX12_148 w2, if_neg q2, A_if, if_pos e00, mb_Wi hM' hG' (by omega) GS ks_RX12_171 w3, if_neg q3, A_if, if_pos e00, mb_Wi hM' hG' (by omega) GS ks_RX12_173 w4, if_neg q4, A_if, if_pos e00, mb_Wi hM' hG' (by omega) GS ks_RX12_160 w5, if_neg q5, A_if, if_pos e00, mb_Wi hM' hG' (by omega) GS ks_RX12_162 w6, if_pos q6, A_if, if_neg n10]), E, A_if, if_neg (by decide), hz1, ht]
                  rfl
              · skip
                refine ⟨false, i, (0, 0), fun h => Bool.noConfusion h, fun _ => rfl, hi, fun μ w H => ?_, fun ν p q H ho => ?_⟩
                · have hA' := tw_cfr_A H.1 hA
                  have hG' := tw_cfr_G H.1 hGc
                  refine ⟨μ, w, fun h => Bool.noConfusion h, tw_cs_w H, fun la n k => ?_⟩
                  unfold f_X1_takePart
                  rw [TxV1 hX, cb_N0 hA' hi, if_neg (qn _), A_if, if_pos e00, cb_W hA' hG' (by omega) cis GS ks_RX1_101 w0 hi, if_neg q0, A_if, if_pos e00, cb_W hA' hG' (by omega) cis GS ks_RX1_103 w1 hi, if_neg q1, A_if, if_pos e00, cb_W hA' hG' (by omega) cis GS ks_RX1_54 w2 hi, if_neg q2, A_if, if_pos e00, cb_W hA' hG' (by omega) cis GS ks_RX1_105 w3 hi, if_neg q3, A_if, if_pos e00, cb_W hA' hG' (by omega) cis GS ks_RX1_107 w4 hi, if_neg q4, A_if, if_pos e00, cb_W hA' hG' (by omega) cis GS ks_RX1_109 w5 hi, if_neg q5, A_if, if_pos e00, cb_W hA' hG' (by omega) cis GS ks_RX1_111 w6 hi, if_neg q6, A_if, if_pos e00, hz0]
                  rfl
                · have hM' := tw_mfr_M H.1 hM
                  have hG' := tw_mfr_G H.1 hGm (by omega : b ≤ b + 168)
                  obtain ⟨ν', H2, E⟩ := m_emitF hm H (by omega) (-1 : Int32) (0 : Int32)
                  refine ⟨ν', tw_tle B e (tw_tg B e i), tw_tg B e i, fun h => Bool.noConfusion h, fun _ => rfl, H2, fun la n k => ?_⟩
                  rw [MW ν p q H.1 ho la n k (-1 : Int32) (fun K => by
                    unfold f_X12_wordOfPart
                    rw [mb_Wi hM' hG' (by omega) GS ks_RX12_167 w0, if_neg q0, A_if, if_pos e00, mb_Wi hM' hG' (by omega) GS ks_RX12_169 w1, if_neg q1, A_if, if_pos e00, mb_Wi hM' hG' (by omega) GS ks_RX12_148 w2, if_neg q2, A_if, if_pos e00, mb_Wi hM' hG' (by omega) GS ks_RX12_171 w3, if_neg q3, A_if, if_pos e00, mb_Wi hM' hG' (by omega) GS ks_RX12_173 w4, if_neg q4, A_if, if_pos e00, mb_Wi hM' hG' (by omega) GS ks_RX12_160 w5, if_neg q5, A_if, if_pos e00, mb_Wi hM' hG' (by omega) GS ks_RX12_162 w6, if_neg q6, A_if, if_pos e00]), E, A_if, if_pos (by decide), hz0]
                  rfl
theorem b_partN (hT : tw_tx B e tt) (hX : tw_Tx sh b) (GS : tw_GS g G b) (hA : tw_Ab sh μ0 (b + 144) (b + 1) B e tt) (hGc : tw_GH G sh μ0 b) (hM : tw_Mt s2 ν0 (b + 168) B e) (hGm : tw_GH G s2 ν0 b) (qk : ¬ tw_kd B e i = 1) (hi : i ≤ tt) (hc : c + 2 ≤ i) : ∃ ok i' u, (ok = true → i' = i + 1 ∧ (u.1 ≤ 6 ∨ u.1 = 10) ∧ u.2 < 1000) ∧ (ok = false → i' = i) ∧ i' ≤ tt ∧ tw_nc sh b μ0 C c i ok i' (tw_uc C c u) (c + 1) (f_X1_takePart g (b + 144)) ∧ tw_nm s2 (b + 168) ν0 B e C c d i ok i' (tw_uc C c u) (c + 1) (f_X12_readPart g (b + 168)) := by
  have n10 : ¬ (nI 1) = (0 : Int32) := by decide
  have n11 : ¬ (1 : Int32) = 0 := by decide
  have e00 : (nI 0) = (0 : Int32) := rfl
  have hmI : mI < (0 : Int32) := by decide
  have h999 : (999 : Int32) < nI 1000 := by decide
  have hz0 : ∀ F M, tw_rz (0 : Int32) F M = F M := fun F M => tw_rz_b (ok := false) F M
  have hz1 : ∀ F M, tw_rz (1 : Int32) F M = F M := fun F M => tw_rz_b (ok := true) F M
  have cis := of_eq_true (Tx_is1 hX)
  have he4 := hT.2.1
  have ht4 := hT.1
  have hm := hM.1
  have nn : ∀ c, c < 1000 → ¬ nI c < (0 : Int32) := fun c hc => by
    show ¬ nI c < nI 0
    rw [nz_lt (by omega) (by omega)]; omega
  have w0 : "one" ∈ tw_words := by decide
  have w1 : "other" ∈ tw_words := by decide
  have w2 : "guess" ∈ tw_words := by decide
  have w3 : "back" ∈ tw_words := by decide
  have w4 : "rung" ∈ tw_words := by decide
  have w5 : "hour" ∈ tw_words := by decide
  have w6 : "day" ∈ tw_words := by decide
  have hge : tw_tg B e i ≤ e := (tw_tbb_s B (tw_tp_s B e i)).2.1
  -- the model's end, once its answer is known
  have MI : ∀ ν p q, tw_mfr (b + 168) ν0 ν → tw_on B e i p → ∀ la n k, f_X12_readPart g (b + 168) k (s2, tw_pb ν (b + 168) p q, la, n) = tw_jn (fun (s5 : Int32) => tw_jn (fun (s7 : Int32) => tw_jn (fun (s9 : Int32) => tw_jn (fun (s11 : Int32) => tw_iv 11 (b + 168) (f_X12_emits (b + 168) s9 s11 (fun u12 => tw_if (s7 < 0) (tw_rz (0 : Int32) (k (0 : Int32))) (tw_rz (1 : Int32) (k (1 : Int32)))))) (fun j10 => tw_if (s5 = 0) (j10 (0 : Int32)) (j10 s7))) (fun j8 => tw_if (s5 = 0) (j8 s7) (j8 (10 : Int32)))) (fun j6 => tw_if (s5 = 0) (tw_iv 11 (b + 168) (f_X12_wordOfPart g (b + 168) (fun x13 => j6 x13))) (tw_iv 11 (b + 168) (f_X12_number (b + 168) (0 : Int32) (999 : Int32) (fun x14 => j6 x14))))) (fun j4 => tw_if (nI (tw_tle B e (tw_tg B e i)) = nI (tw_tg B e i)) (j4 (1 : Int32)) (j4 (0 : Int32))) (s2, tw_pb ν (b + 168) (tw_tle B e (tw_tg B e i)) (tw_tg B e i), la, n) := fun ν p q F ho la n k => by
    unfold f_X12_readPart
    rw [MoV0 hm, m_letters1 (tw_mfr_M F hM) ho, MoI0_80 hm, MoI0_82 hm, tw_pb_80, tw_pb_82]
  have ht := tw_tle_n qk
  have heq : nI (tw_tle B e (tw_tg B e i)) = nI (tw_tg B e i) := by rw [ht]
  have MN : ∀ ν p q, tw_mfr (b + 168) ν0 ν → tw_on B e i p → ∀ la n k (r : Int32) p2, (∀ K : Int32 → tw_Mem → Prop, f_X12_number (b + 168) 0 999 K (s2, tw_pb ν (b + 168) (tw_tg B e i) (tw_tg B e i), la, n) = K r (s2, tw_pb ν (b + 168) p2 (tw_tg B e i), la, n)) → f_X12_readPart g (b + 168) k (s2, tw_pb ν (b + 168) p q, la, n) = f_X12_emits (b + 168) (10 : Int32) r (fun u12 => tw_if (r < 0) (tw_rz (0 : Int32) (k (0 : Int32))) (tw_rz (1 : Int32) (k (1 : Int32)))) (s2, tw_pb ν (b + 168) p2 (tw_tg B e i), la, n) := fun ν p q F ho la n k r p2 hr => by
    rw [MI ν p q F ho, ht, A_jn, A_if, if_pos rfl]
    show tw_jn _ (fun j6 => tw_if ((1 : Int32) = 0) _ _) _ = _
    rw [A_jn, A_if, if_neg n11, MoV0 hm, hr]
    show tw_jn _ (fun j8 => tw_if ((1 : Int32) = 0) _ _) _ = _
    rw [A_jn, A_if, if_neg n11]
    show tw_jn _ (fun j10 => tw_if ((1 : Int32) = 0) _ _) _ = _
    rw [A_jn, A_if, if_neg n11]
    show tw_iv 11 (b + 168) _ _ = _
    rw [MoV0 hm]
  by_cases qn : tw_iN B e i 0 999
  · obtain ⟨_, v1, v2⟩ := tw_iN_v (hi := 999) hT qn (by omega)
    have i1 := tw_nx1 hT hi qn.1 (by omega)
    refine ⟨true, i + 1, (10, tw_vd B e i), fun _ => ⟨rfl, Or.inr rfl, by show tw_vd B e i < 1000; omega⟩, fun h => Bool.noConfusion h, i1, fun μ w H => ?_, fun ν p q H ho => ?_⟩
    · have hA' := tw_cfr_A H.1 hA
      have ev : (32 : Int32) + nI (tw_vd B e i) = nI (tw_cm (10, tw_vd B e i)) := nI_add 32 _
      obtain ⟨μ', H2, E⟩ := c_addS (v := (32 : Int32) + nI (tw_vd B e i)) (u := (10, tw_vd B e i)) hX H (by omega) ev
      refine ⟨μ', nI (tw_vd B e i), fun _ => H2, tw_cs_w H2, fun la n k => ?_⟩
      unfold f_X1_takePart
      rw [TxV1 hX, cb_N0 hA' hi, if_pos qn, A_if, if_neg n10, TxV1 hX, cb_last hA', TxV1 hX, E, hz1]
      rfl
    · have hM' := tw_mfr_M H.1 hM
      obtain ⟨ν', H2, E⟩ := m_emit (v := (10 : Int32)) (w := nI (tw_vd B e i)) (u := (10, tw_vd B e i)) hm H (by omega) rfl rfl
      refine ⟨ν', tw_tp B e (i + 1), tw_tg B e i, fun _ => ⟨H2, tw_on_p _ _ _⟩, fun h => Bool.noConfusion h, H2.1, fun la n k => ?_⟩
      rw [MN ν p q H.1 ho la n k (nI (tw_vd B e i)) (tw_tp B e (i + 1)) (fun K => by rw [mb_N0 hM' (tw_on_g _ _ _) h999, if_pos qn]), E, A_if, if_neg (nn _ (by omega)), hz1]
      rfl
  · refine ⟨false, i, (0, 0), fun h => Bool.noConfusion h, fun _ => rfl, hi, fun μ w H => ?_, fun ν p q H ho => ?_⟩
    · have hA' := tw_cfr_A H.1 hA
      have hG' := tw_cfr_G H.1 hGc
      refine ⟨μ, w, fun h => Bool.noConfusion h, tw_cs_w H, fun la n k => ?_⟩
      unfold f_X1_takePart
      rw [TxV1 hX, cb_N0 hA' hi, if_neg qn, A_if, if_pos e00, cb_W hA' hG' (by omega) cis GS ks_RX1_101 w0 hi, if_neg (fun h => qk h.1), A_if, if_pos e00, cb_W hA' hG' (by omega) cis GS ks_RX1_103 w1 hi, if_neg (fun h => qk h.1), A_if, if_pos e00, cb_W hA' hG' (by omega) cis GS ks_RX1_54 w2 hi, if_neg (fun h => qk h.1), A_if, if_pos e00, cb_W hA' hG' (by omega) cis GS ks_RX1_105 w3 hi, if_neg (fun h => qk h.1), A_if, if_pos e00, cb_W hA' hG' (by omega) cis GS ks_RX1_107 w4 hi, if_neg (fun h => qk h.1), A_if, if_pos e00, cb_W hA' hG' (by omega) cis GS ks_RX1_109 w5 hi, if_neg (fun h => qk h.1), A_if, if_pos e00, cb_W hA' hG' (by omega) cis GS ks_RX1_111 w6 hi, if_neg (fun h => qk h.1), A_if, if_pos e00, hz0]
      rfl
    · have hM' := tw_mfr_M H.1 hM
      obtain ⟨ν', H2, E⟩ := m_emitF hm H (by omega) (10 : Int32) mI
      refine ⟨ν', tw_tde B e (tw_tg B e i), tw_tg B e i, fun h => Bool.noConfusion h, fun _ => rfl, H2, fun la n k => ?_⟩
      rw [MN ν p q H.1 ho la n k mI (tw_tde B e (tw_tg B e i)) (fun K => by rw [mb_N0 hM' (tw_on_g _ _ _) h999, if_neg qn]), E, A_if, if_pos hmI, hz0]
      rfl
theorem b_part (hT : tw_tx B e tt) (hX : tw_Tx sh b) (GS : tw_GS g G b) (hA : tw_Ab sh μ0 (b + 144) (b + 1) B e tt) (hGc : tw_GH G sh μ0 b) (hM : tw_Mt s2 ν0 (b + 168) B e) (hGm : tw_GH G s2 ν0 b) (hi : i ≤ tt) (hc : c + 2 ≤ i) : ∃ ok i' u, (ok = true → i' = i + 1 ∧ (u.1 ≤ 6 ∨ u.1 = 10) ∧ u.2 < 1000) ∧ (ok = false → i' = i) ∧ i' ≤ tt ∧ tw_nc sh b μ0 C c i ok i' (tw_uc C c u) (c + 1) (f_X1_takePart g (b + 144)) ∧ tw_nm s2 (b + 168) ν0 B e C c d i ok i' (tw_uc C c u) (c + 1) (f_X12_readPart g (b + 168)) := by
  by_cases qk : tw_kd B e i = 1
  · exact b_partW hT hX GS hA hGc hM hGm qk hi hc
  · exact b_partN hT hX GS hA hGc hM hGm qk hi hc
end P99n
