/-! ===== pure: the law's text, flags and sums ===== -/
section P99o
variable {sh s2 : tw_Sh} {μ0 ν0 μ μ' ν : Nat → Nat → Int32} {la : Nat → Nat → Int64} {n a b x y m t tt e i lo c d cl p q p' q' z ix ix2 i' o h l r s c0 : Nat} {G : tw_Gm} {g : tw_Gx} {B : Nat → Nat} {v w w' : Int32} {C : Nat → Nat × Nat} {u : Nat × Nat}
/-- what a stretch of code keeps -/
def tw_cok (C C' : Nat → Nat × Nat) (c c' : Nat) : Prop := c ≤ c' ∧ (∀ j, j < c → C' j = C j) ∧ ∀ j, c ≤ j → j < c' → (C' j).1 < 17 ∧ (C' j).2 < 1000
theorem tw_cok_t {C C' C2 : Nat → Nat × Nat} {c c' c2 : Nat} (h : tw_cok C C' c c') (h2 : tw_cok C' C2 c' c2) : tw_cok C C2 c c2 := by
  refine ⟨Nat.le_trans h.1 h2.1, fun j hj => (h2.2.1 j (by have := h.1; omega)).trans (h.2.1 j hj), fun j h3 h4 => ?_⟩
  by_cases hj : j < c'
  · rw [h2.2.1 j hj]; exact h.2.2 j h3 hj
  · exact h2.2.2 j (by omega) h4
theorem tw_cok_1 (h1 : u.1 < 17) (h2 : u.2 < 1000) : tw_cok C (tw_uc C c u) c (c + 1) := ⟨by omega, fun j hj => tw_uc_n hj, fun j h3 h4 => by
  have : j = c := by omega
  subst this
  rw [tw_uc_a]; exact ⟨h1, h2⟩⟩
theorem b_flag (hT : tw_tx B e tt) (hX : tw_Tx sh b) (GS : tw_GS g G b) (hA : tw_Ab sh μ0 (b + 144) (b + 1) B e tt) (hGc : tw_GH G sh μ0 b) (hM : tw_Mt s2 ν0 (b + 168) B e) (hGm : tw_GH G s2 ν0 b) (hi : i ≤ tt) (hc : c + 2 ≤ i) : (∃ u : Nat × Nat, (u.1 = 7 ∨ u.1 = 8 ∨ u.1 = 9) ∧ u.2 = 0 ∧ i + 1 ≤ tt ∧ tw_nc sh b μ0 C c i true (i + 1) (tw_uc C c u) (c + 1) (f_X1_takeFlag g (b + 144)) ∧ tw_nm s2 (b + 168) ν0 B e C c d i true (i + 1) (tw_uc C c u) (c + 1) (f_X12_readTag g (b + 168))) ∨ ((∀ μ w, tw_cs b μ0 μ C c → ∀ la n k, f_X1_takeFlag g (b + 144) k (sh, tw_cwf μ (b + 144) i w, la, n) = k (nI 0) (sh, tw_cwf μ (b + 144) i w, la, n)) ∧ ∀ ν p q, tw_ms (b + 168) ν0 ν C c d → tw_on B e i p → ∀ la n k, f_X12_readTag g (b + 168) k (s2, tw_pb ν (b + 168) p q, la, n) = k (nI 0) (s2, tw_pb ν (b + 168) (tw_tg B e i) (tw_tg B e i), la, n)) := by
  have n10 : ¬ (nI 1) = (0 : Int32) := by decide
  have e00 : (nI 0) = (0 : Int32) := rfl
  have hz0 : ∀ F M, tw_rz (0 : Int32) F M = F M := fun F M => tw_rz_b (ok := false) F M
  have hz1 : ∀ F M, tw_rz (1 : Int32) F M = F M := fun F M => tw_rz_b (ok := true) F M
  have cis := of_eq_true (Tx_is1 hX)
  have he4 := hT.2.1
  have ht4 := hT.1
  have hm := hM.1
  have w0 : "sworn" ∈ tw_words := by decide
  have w1 : "near" ∈ tw_words := by decide
  have w2 : "rang" ∈ tw_words := by decide
  have b168 : b ≤ b + 168 := by omega
  have MI : ∀ ν p q, tw_ms (b + 168) ν0 ν C c d → tw_on B e i p → ∀ la n k (r : Int32) (ν' : Nat → Nat → Int32), ¬ r < 0 → (∀ p q la n k, f_X12_emits (b + 168) r 0 k (s2, tw_pb ν (b + 168) p q, la, n) = k () (s2, tw_pb ν' (b + 168) p q, la, n)) → (∀ J : Int32 → tw_Mem → Prop, tw_ls g RX12 131 "sworn" (fun t2 => tw_iv 11 (b + 168) (f_X12_isWord (b + 168) t2 (fun x3 => tw_jn (fun (s5 : Int32) => J s5) (fun j4 => tw_if (x3 = 0) (tw_ls g RX12 189 "near" fun t10 => tw_iv 11 (b + 168) (f_X12_isWord (b + 168) t10 (fun x11 => tw_if (x11 = 0) (tw_ls g RX12 191 "rang" fun t12 => tw_iv 11 (b + 168) (f_X12_isWord (b + 168) t12 (fun x13 => tw_if (x13 = 0) (j4 (-1 : Int32)) (j4 (9 : Int32))))) (j4 (8 : Int32))))) (j4 (7 : Int32)))))) (s2, tw_pb ν (b + 168) (tw_tle B e (tw_tg B e i)) (tw_tg B e i), la, n) = J r (s2, tw_pb ν (b + 168) (tw_tle B e (tw_tg B e i)) (tw_tg B e i), la, n)) → f_X12_readTag g (b + 168) k (s2, tw_pb ν (b + 168) p q, la, n) = k 1 (s2, tw_pb ν' (b + 168) (tw_tle B e (tw_tg B e i)) (tw_tg B e i), la, n) := fun ν p q H ho la n k r ν' hr he hw => by
    unfold f_X12_readTag
    rw [MoV0 hm, m_letters1 (tw_mfr_M H.1 hM) ho, hw, A_jn, A_if, if_neg hr, MoV0 hm, he]
    show tw_if (r < 0) _ _ _ = _
    rw [A_if, if_neg hr, hz1]
  by_cases q0 : tw_iW B e i "sworn"
  · refine Or.inl ⟨(7, 0), Or.inl rfl, rfl, tw_nx1 hT hi q0.1 (by omega), fun μ w H => ?_, fun ν p q H ho => ?_⟩
    · have hA' := tw_cfr_A H.1 hA
      have hG' := tw_cfr_G H.1 hGc
      obtain ⟨μ', H2, E⟩ := c_addS (v := (4 : Int32)) (u := (7, 0)) hX H (by omega) rfl
      refine ⟨μ', w, fun _ => H2, tw_cs_w H2, fun la n k => ?_⟩
      unfold f_X1_takeFlag
      rw [cb_W hA' hG' (by omega) cis GS ks_RX1_90 w0 hi, if_pos q0, A_if, if_neg n10, TxV1 hX, E, hz1]
      rfl
    · have hM' := tw_mfr_M H.1 hM
      have hG' := tw_mfr_G H.1 hGm b168
      obtain ⟨ν', H2, E⟩ := m_emit (v := (7 : Int32)) (w := (0 : Int32)) (u := (7, 0)) hm H (by omega) rfl rfl
      refine ⟨ν', tw_tp B e (i + 1), tw_tg B e i, fun _ => ⟨H2, tw_on_p _ _ _⟩, fun h => Bool.noConfusion h, H2.1, fun la n k => ?_⟩
      rw [MI ν p q H ho la n k 7 ν' (by decide) E (fun J => by rw [mb_Wi hM' hG' b168 GS ks_RX12_131 w0, if_pos q0, A_jn, A_if, if_neg n10]), tw_tle_1 q0.1]
      rfl
  · by_cases q1 : tw_iW B e i "near"
    · refine Or.inl ⟨(8, 0), Or.inr (Or.inl rfl), rfl, tw_nx1 hT hi q1.1 (by omega), fun μ w H => ?_, fun ν p q H ho => ?_⟩
      · have hA' := tw_cfr_A H.1 hA
        have hG' := tw_cfr_G H.1 hGc
        obtain ⟨μ', H2, E⟩ := c_addS (v := (9 : Int32)) (u := (8, 0)) hX H (by omega) rfl
        refine ⟨μ', w, fun _ => H2, tw_cs_w H2, fun la n k => ?_⟩
        unfold f_X1_takeFlag
        rw [cb_W hA' hG' (by omega) cis GS ks_RX1_90 w0 hi, if_neg q0, A_if, if_pos e00, cb_W hA' hG' (by omega) cis GS ks_RX1_94 w1 hi, if_pos q1, A_if, if_neg n10, TxV1 hX, E, hz1]
        rfl
      · have hM' := tw_mfr_M H.1 hM
        have hG' := tw_mfr_G H.1 hGm b168
        obtain ⟨ν', H2, E⟩ := m_emit (v := (8 : Int32)) (w := (0 : Int32)) (u := (8, 0)) hm H (by omega) rfl rfl
        refine ⟨ν', tw_tp B e (i + 1), tw_tg B e i, fun _ => ⟨H2, tw_on_p _ _ _⟩, fun h => Bool.noConfusion h, H2.1, fun la n k => ?_⟩
        rw [MI ν p q H ho la n k 8 ν' (by decide) E (fun J => by rw [mb_Wi hM' hG' b168 GS ks_RX12_131 w0, if_neg q0, A_jn, A_if, if_pos e00, mb_Wi hM' hG' b168 GS ks_RX12_189 w1, if_pos q1, A_if, if_neg n10]), tw_tle_1 q1.1]
        rfl
    · by_cases q2 : tw_iW B e i "rang"
      · refine Or.inl ⟨(9, 0), Or.inr (Or.inr rfl), rfl, tw_nx1 hT hi q2.1 (by omega), fun μ w H => ?_, fun ν p q H ho => ?_⟩
        · have hA' := tw_cfr_A H.1 hA
          have hG' := tw_cfr_G H.1 hGc
          obtain ⟨μ', H2, E⟩ := c_addS (v := (10 : Int32)) (u := (9, 0)) hX H (by omega) rfl
          refine ⟨μ', w, fun _ => H2, tw_cs_w H2, fun la n k => ?_⟩
          unfold f_X1_takeFlag
          rw [cb_W hA' hG' (by omega) cis GS ks_RX1_90 w0 hi, if_neg q0, A_if, if_pos e00, cb_W hA' hG' (by omega) cis GS ks_RX1_94 w1 hi, if_neg q1, A_if, if_pos e00, cb_W hA' hG' (by omega) cis GS ks_RX1_96 w2 hi, if_pos q2, A_if, if_neg n10, TxV1 hX, E, hz1]
          rfl
        · have hM' := tw_mfr_M H.1 hM
          have hG' := tw_mfr_G H.1 hGm b168
          obtain ⟨ν', H2, E⟩ := m_emit (v := (9 : Int32)) (w := (0 : Int32)) (u := (9, 0)) hm H (by omega) rfl rfl
          refine ⟨ν', tw_tp B e (i + 1), tw_tg B e i, fun _ => ⟨H2, tw_on_p _ _ _⟩, fun h => Bool.noConfusion h, H2.1, fun la n k => ?_⟩
          rw [MI ν p q H ho la n k 9 ν' (by decide) E (fun J => by rw [mb_Wi hM' hG' b168 GS ks_RX12_131 w0, if_neg q0, A_jn, A_if, if_pos e00, mb_Wi hM' hG' b168 GS ks_RX12_189 w1, if_neg q1, A_if, if_pos e00, mb_Wi hM' hG' b168 GS ks_RX12_191 w2, if_pos q2, A_if, if_neg n10]), tw_tle_1 q2.1]
          rfl
      · refine Or.inr ⟨fun μ w H la n k => ?_, fun ν p q H ho la n k => ?_⟩
        · have hA' := tw_cfr_A H.1 hA
          have hG' := tw_cfr_G H.1 hGc
          unfold f_X1_takeFlag
          rw [cb_W hA' hG' (by omega) cis GS ks_RX1_90 w0 hi, if_neg q0, A_if, if_pos e00, cb_W hA' hG' (by omega) cis GS ks_RX1_94 w1 hi, if_neg q1, A_if, if_pos e00, cb_W hA' hG' (by omega) cis GS ks_RX1_96 w2 hi, if_neg q2, A_if, if_pos e00, hz0]
          rfl
        · have hM' := tw_mfr_M H.1 hM
          have hG' := tw_mfr_G H.1 hGm b168
          have hneg : (-1 : Int32) < 0 := by decide
          unfold f_X12_readTag
          rw [MoV0 hm, m_letters1 hM' ho, mb_Wi hM' hG' b168 GS ks_RX12_131 w0, if_neg q0, A_jn, A_if, if_pos e00, mb_Wi hM' hG' b168 GS ks_RX12_189 w1, if_neg q1, A_if, if_pos e00, mb_Wi hM' hG' b168 GS ks_RX12_191 w2, if_neg q2, A_if, if_pos e00]
          show tw_jn _ (fun j6 => tw_if ((-1 : Int32) < 0) _ _) _ = _
          rw [A_jn, A_if, if_pos hneg, MoI0_82 hm, tw_pb_82, MoP0_80 hm, tw_pb_p]
          show tw_if ((-1 : Int32) < 0) _ _ _ = _
          rw [A_if, if_pos hneg, hz0]
          rfl
theorem tw_sA_p {C : Nat → Nat × Nat} {c : Nat} (h : (C c).1 ≤ 6 ∨ (C c).1 = 10) : tw_sA C c 1 false 1 := tw_sA_leaf (by omega) (fun h => Bool.noConfusion h)
theorem b_sumL (hT : tw_tx B e tt) (hX : tw_Tx sh b) (GS : tw_GS g G b) (hA : tw_Ab sh μ0 (b + 144) (b + 1) B e tt) (hGc : tw_GH G sh μ0 b) (hM : tw_Mt s2 ν0 (b + 168) B e) (hGm : tw_GH G s2 ν0 b) : ∀ k0 i C c q0, tt - i ≤ k0 → i ≤ tt → c + 2 ≤ i → c0 < c → q0 + 3 ≤ i → tw_sA C c0 (c - c0) false 2 → ∃ ok i' C' c', i ≤ i' ∧ i' ≤ tt ∧ (ok = true → c' + 2 ≤ i' ∧ tw_cok C C' c c' ∧ tw_sA C' c0 (c' - c0) false 2 ∧ c' + i ≤ c + i') ∧
    (∀ μ w, tw_cs b μ0 μ C c → ∃ μ' w', (ok = true → tw_cs b μ0 μ' C' c') ∧ tw_cwk b μ0 μ' ∧ ∀ la n (k : Int32 → tw_Mem → Prop), tw_lp (fun (r2 : Int32 × Int32 → tw_Mem → Prop) (s3 : Int32 × Int32) => tw_if (s3.1 = 0) (tw_rz s3.1 (k s3.1)) (tw_if (s3.2 < (400 : Int32)) (tw_iv 1 (b + 144) (f_X7_takeSign (b + 144) (43 : Int32) (fun x4 => tw_if (x4 = 0) (tw_rz s3.1 (k s3.1)) (tw_iv 1 (b + 144) (f_X1_takePart g (b + 144) (fun x5 => tw_iv 1 (b + 144) (f_X1_addStep (b + 144) (16 : Int32) (fun u6 => r2 (x5, s3.2 + (1 : Int32)))))))))) (tw_rz s3.1 (k s3.1)))) (nI 1, nI q0) (sh, tw_cwf μ (b + 144) i w, la, n) = k (tw_bo ok) (sh, tw_cwf μ' (b + 144) i' w', la, n)) ∧
    (∀ ν p q, tw_ms (b + 168) ν0 ν C c d → tw_on B e i p → ∃ ν' p' q', (ok = true → tw_ms (b + 168) ν0 ν' C' c' d ∧ tw_on B e i' p') ∧ (ok = false → q' = tw_tg B e i') ∧ tw_mfr (b + 168) ν0 ν' ∧ ∀ la n (k : Int32 → tw_Mem → Prop), tw_lp (fun (r2 : Unit → tw_Mem → Prop) (s3 : Unit) => tw_iv 11 (b + 168) (f_X12_sign (b + 168) (43 : Int32) (fun x4 => tw_if (x4 = 0) (tw_rz (1 : Int32) (k (1 : Int32))) (tw_iv 11 (b + 168) (f_X12_readPart g (b + 168) (fun x5 => tw_if (x5 = 0) (tw_rz (0 : Int32) (k (0 : Int32))) (tw_iv 11 (b + 168) (f_X12_emits (b + 168) (11 : Int32) (0 : Int32) (fun u6 => r2 ()))))))))) () (s2, tw_pb ν (b + 168) p q, la, n) = k (tw_bo ok) (s2, tw_pb ν' (b + 168) p' q', la, n)) := by
  have n10 : ¬ (nI 1) = (0 : Int32) := by decide
  have e00 : (nI 0) = (0 : Int32) := rfl
  have hz0 : ∀ F M, tw_rz (0 : Int32) F M = F M := fun F M => tw_rz_b (ok := false) F M
  have hz1 : ∀ F M, tw_rz (1 : Int32) F M = F M := fun F M => tw_rz_b (ok := true) F M
  have hz1' : ∀ F M, tw_rz (nI 1) F M = F M := fun F M => tw_rz_b (ok := true) F M
  have hz0' : ∀ F M, tw_rz (nI 0) F M = F M := fun F M => tw_rz_b (ok := false) F M
  have he4 := hT.2.1
  have ht4 := hT.1
  have hm := hM.1
  have l43 : (43 : Int32) = nI 43 := rfl
  intro k0
  induction k0 with
  | zero =>
    intro i C c q0 h1 h2 h3 h4 h5 hs
    have hit : i = tt := by omega
    have hk0 : tw_kd B e i = 0 := (tw_kd_0 hT h2).mpr (by rw [hit]; exact hT.2.2.1)
    have ns : ¬ tw_iS B e i 43 := fun h => by have := h.1; omega
    have hlt : nI q0 < (400 : Int32) := by show nI q0 < nI 400; rw [nz_lt (by omega) (by omega)]; omega
    refine ⟨true, i, C, c, Nat.le_refl _, h2, fun _ => ⟨h3, ⟨Nat.le_refl _, fun _ _ => rfl, fun j a b => by omega⟩, hs, Nat.le_refl _⟩, fun μ w H => ⟨μ, w, fun _ => H, tw_cs_w H, fun la n k => tw_lp_exit (fun rec => ?_)⟩, fun ν p q H ho => ⟨ν, tw_tg B e i, tw_tg B e i, fun _ => ⟨H, tw_on_g _ _ _⟩, fun h => Bool.noConfusion h, H.1, fun la n k => tw_lp_exit (fun rec => ?_)⟩⟩
    · rw [A_if, if_neg n10, A_if, if_pos hlt, TxV1 hX, l43, cb_S (tw_cfr_A H.1 hA) (by omega) h2, if_neg ns, A_if, if_pos e00, hz1']
      rfl
    · rw [MoV0 hm, l43, m_sign1 (tw_mfr_M H.1 hM) ho (by omega) (by omega) (by omega) (by omega), if_neg ns, A_if, if_pos e00, hz1]
      rfl
  | succ k0 ih =>
    intro i C c q0 h1 h2 h3 h4 h5 hs
    have hlt : nI q0 < (400 : Int32) := by show nI q0 < nI 400; rw [nz_lt (by omega) (by omega)]; omega
    have eq1 : nI q0 + (1 : Int32) = nI (q0 + 1) := nI_add q0 1
    by_cases ns : tw_iS B e i 43
    · have i1 := tw_nx1 hT h2 ns.1 (by omega)
      obtain ⟨ok, i2, u, a1, a2, a3, NC, NM⟩ := b_part (d := d) (C := C) (c := c) (i := i + 1) hT hX GS hA hGc hM hGm i1 (by omega)
      cases ok with
      | false =>
        have := a2 rfl
        subst this
        refine ⟨false, i + 1, C, c, by omega, i1, fun h => Bool.noConfusion h, fun μ w H => ?_, fun ν p q H ho => ?_⟩
        · obtain ⟨μ1, w1, f1, f2, E1⟩ := NC μ w H
          obtain ⟨μ2, f3, E2⟩ := c_addW hX f2 (16 : Int32)
          refine ⟨μ2, w1, fun h => Bool.noConfusion h, f3, fun la n k => ?_⟩
          refine (tw_lp_step (s' := (tw_bo false, nI (q0 + 1))) (M' := (sh, tw_cwf μ2 (b + 144) (i + 1) w1, la, n)) (fun rec => ?_)).trans (tw_lp_exit (fun rec => ?_))
          · rw [A_if, if_neg n10, A_if, if_pos hlt, TxV1 hX, l43, cb_S (tw_cfr_A H.1 hA) (by omega) h2, if_pos ns, A_if, if_neg n10, TxV1 hX, E1, TxV1 hX, E2, eq1]
          · rw [A_if, if_pos (show tw_bo false = 0 from rfl), tw_rz_b]
        · obtain ⟨ν1, p1, q1, g1, g2, g3, E1⟩ := NM ν (tw_tp B e (i + 1)) (tw_tg B e i) H (tw_on_p _ _ _)
          refine ⟨ν1, p1, q1, fun h => Bool.noConfusion h, g2, g3, fun la n k => tw_lp_exit (fun rec => ?_)⟩
          rw [MoV0 hm, l43, m_sign1 (tw_mfr_M H.1 hM) ho (by omega) (by omega) (by omega) (by omega), if_pos ns, A_if, if_neg n10, MoV0 hm, E1, A_if, if_pos (show tw_bo false = 0 from rfl), hz0]
          rfl
      | true =>
        obtain ⟨b1, b2, b3⟩ := a1 rfl
        subst b1
        have hcm : tw_cok C (tw_uc (tw_uc C c u) (c + 1) (11, 0)) c (c + 2) := tw_cok_t (tw_cok_1 (by omega) b3) (tw_cok_1 (by decide) (by decide))
        have hsg : tw_sA (tw_uc (tw_uc C c u) (c + 1) (11, 0)) c0 (c + 2 - c0) false 2 := by
          have s1 : tw_sA (tw_uc (tw_uc C c u) (c + 1) (11, 0)) c0 (c - c0) false 2 := tw_sA_congr (fun j h6 h7 => by rw [tw_uc_n (by omega), tw_uc_n (by omega)]) hs
          have s2 : tw_sA (tw_uc (tw_uc C c u) (c + 1) (11, 0)) (c0 + (c - c0)) 1 false 1 := by
            rw [show c0 + (c - c0) = c by omega]
            exact tw_sA_p (by rw [tw_uc_n (by omega), tw_uc_a]; exact b2)
          have ec : tw_uc (tw_uc C c u) (c + 1) (11, 0) (c0 + (c - c0) + 1) = (11, 0) := by
            rw [show c0 + (c - c0) + 1 = c + 1 by omega]; exact tw_uc_a
          have s3 := tw_sA_bin (b2 := false) s1 s2 (by rw [ec]; decide) (by rw [ec]; decide) (by rw [ec]; decide) (fun h => by rw [ec] at h; exact absurd h (by decide)) (fun h => Bool.noConfusion h) (by omega)
          rw [show c + 2 - c0 = c - c0 + 1 + 1 by omega]
          exact tw_sA_mono s3 (by omega)
        obtain ⟨ok3, i3, C3, c3, d1, d2, d3, LC, LM⟩ := ih (i + 1 + 1) (tw_uc (tw_uc C c u) (c + 1) (11, 0)) (c + 2) (q0 + 1) (by omega) a3 (by omega) (by omega) (by omega) hsg
        refine ⟨ok3, i3, C3, c3, by omega, d2, fun h => ⟨(d3 h).1, tw_cok_t hcm (d3 h).2.1, (d3 h).2.2.1, by have := (d3 h).2.2.2; omega⟩, fun μ w H => ?_, fun ν p q H ho => ?_⟩
        · obtain ⟨μ1, w1, f1, f2, E1⟩ := NC μ w H
          obtain ⟨μ2, f3, E2⟩ := c_addS (v := (16 : Int32)) (u := (11, 0)) hX (f1 rfl) (by omega) rfl
          obtain ⟨μ3, w3, f5, f6, E3⟩ := LC μ2 w1 f3
          refine ⟨μ3, w3, f5, f6, fun la n k => ?_⟩
          rw [← E3 la n k]
          refine tw_lp_step (fun rec => ?_)
          rw [A_if, if_neg n10, A_if, if_pos hlt, TxV1 hX, l43, cb_S (tw_cfr_A H.1 hA) (by omega) h2, if_pos ns, A_if, if_neg n10, TxV1 hX, E1, TxV1 hX, E2, eq1]
          rfl
        · obtain ⟨ν1, p1, q1, g1, g2, g3, E1⟩ := NM ν (tw_tp B e (i + 1)) (tw_tg B e i) H (tw_on_p _ _ _)
          obtain ⟨g4, g5⟩ := g1 rfl
          obtain ⟨ν2, g6, E2⟩ := m_emit (v := (11 : Int32)) (w := (0 : Int32)) (u := (11, 0)) hm g4 (by omega) rfl rfl
          obtain ⟨ν3, p3, q3, g7, g8, g9, E3⟩ := LM ν2 p1 q1 g6 g5
          refine ⟨ν3, p3, q3, g7, g8, g9, fun la n k => ?_⟩
          rw [← E3 la n k]
          refine tw_lp_step (fun rec => ?_)
          rw [MoV0 hm, l43, m_sign1 (tw_mfr_M H.1 hM) ho (by omega) (by omega) (by omega) (by omega), if_pos ns, A_if, if_neg n10, MoV0 hm, E1, A_if, if_neg (show ¬ tw_bo true = 0 from n10), MoV0 hm, E2]
    · refine ⟨true, i, C, c, Nat.le_refl _, h2, fun _ => ⟨h3, ⟨Nat.le_refl _, fun _ _ => rfl, fun j a b => by omega⟩, hs, Nat.le_refl _⟩, fun μ w H => ⟨μ, w, fun _ => H, tw_cs_w H, fun la n k => tw_lp_exit (fun rec => ?_)⟩, fun ν p q H ho => ⟨ν, tw_tg B e i, tw_tg B e i, fun _ => ⟨H, tw_on_g _ _ _⟩, fun h => Bool.noConfusion h, H.1, fun la n k => tw_lp_exit (fun rec => ?_)⟩⟩
      · rw [A_if, if_neg n10, A_if, if_pos hlt, TxV1 hX, l43, cb_S (tw_cfr_A H.1 hA) (by omega) h2, if_neg ns, A_if, if_pos e00, hz1']
        rfl
      · rw [MoV0 hm, l43, m_sign1 (tw_mfr_M H.1 hM) ho (by omega) (by omega) (by omega) (by omega), if_neg ns, A_if, if_pos e00, hz1]
        rfl
theorem b_sum (hT : tw_tx B e tt) (hX : tw_Tx sh b) (GS : tw_GS g G b) (hA : tw_Ab sh μ0 (b + 144) (b + 1) B e tt) (hGc : tw_GH G sh μ0 b) (hM : tw_Mt s2 ν0 (b + 168) B e) (hGm : tw_GH G s2 ν0 b) (hi : i ≤ tt) (hc : c + 2 ≤ i) : ∃ ok i' C' c', i ≤ i' ∧ i' ≤ tt ∧ (ok = true → c' + i ≤ c + i' ∧ c < c' ∧ tw_cok C C' c c' ∧ tw_sA C' c (c' - c) false 2) ∧ tw_nc sh b μ0 C c i ok i' C' c' (f_X1_takeSum g (b + 144)) ∧ tw_nm s2 (b + 168) ν0 B e C c d i ok i' C' c' (f_X12_readSum g (b + 168)) := by
  have n10 : ¬ (nI 1) = (0 : Int32) := by decide
  have hz0 : ∀ F M, tw_rz (0 : Int32) F M = F M := fun F M => tw_rz_b (ok := false) F M
  have hm := hM.1
  obtain ⟨ok, i2, u, a1, a2, a3, NC, NM⟩ := b_part (d := d) (C := C) (c := c) (i := i) hT hX GS hA hGc hM hGm hi hc
  cases ok with
  | false =>
    have := a2 rfl
    subst this
    refine ⟨false, i2, C, c, Nat.le_refl _, a3, fun h => Bool.noConfusion h, fun μ w H => ?_, fun ν p q H ho => ?_⟩
    · obtain ⟨μ1, w1, f1, f2, E1⟩ := NC μ w H
      refine ⟨μ1, w1, fun h => Bool.noConfusion h, f2, fun la n k => ?_⟩
      unfold f_X1_takeSum
      rw [TxV1 hX, E1]
      refine tw_lp_exit (fun rec => ?_)
      rw [A_if, if_pos (show tw_bo false = 0 from rfl), tw_rz_b]
    · obtain ⟨ν1, p1, q1, g1, g2, g3, E1⟩ := NM ν p q H ho
      refine ⟨ν1, p1, q1, fun h => Bool.noConfusion h, g2, g3, fun la n k => ?_⟩
      unfold f_X12_readSum
      rw [MoV0 hm, E1, A_if, if_pos (show tw_bo false = 0 from rfl), hz0]
      rfl
  | true =>
    obtain ⟨b1, b2, b3⟩ := a1 rfl
    subst b1
    have hsg : tw_sA (tw_uc C c u) c (c + 1 - c) false 2 := by
      rw [show c + 1 - c = 1 by omega]
      exact tw_sA_mono (tw_sA_p (by rw [tw_uc_a]; exact b2)) (by omega)
    obtain ⟨ok3, i3, C3, c3, d1, d2, d3, LC, LM⟩ := b_sumL (d := d) (c0 := c) hT hX GS hA hGc hM hGm tt (i + 1) (tw_uc C c u) (c + 1) 0 (by omega) a3 (by omega) (by omega) (by omega) hsg
    refine ⟨ok3, i3, C3, c3, by omega, d2, fun h => ⟨by have := (d3 h).2.2.2; omega, by have := (d3 h).2.1.1; omega, tw_cok_t (tw_cok_1 (by omega) b3) (d3 h).2.1, (d3 h).2.2.1⟩, fun μ w H => ?_, fun ν p q H ho => ?_⟩
    · obtain ⟨μ1, w1, f1, f2, E1⟩ := NC μ w H
      obtain ⟨μ3, w3, f5, f6, E3⟩ := LC μ1 w1 (f1 rfl)
      refine ⟨μ3, w3, f5, f6, fun la n k => ?_⟩
      unfold f_X1_takeSum
      rw [TxV1 hX, E1]
      exact E3 la n k
    · obtain ⟨ν1, p1, q1, g1, g2, g3, E1⟩ := NM ν p q H ho
      obtain ⟨g4, g5⟩ := g1 rfl
      obtain ⟨ν3, p3, q3, g7, g8, g9, E3⟩ := LM ν1 p1 q1 g4 g5
      refine ⟨ν3, p3, q3, g7, g8, g9, fun la n k => ?_⟩
      unfold f_X12_readSum
      rw [MoV0 hm, E1, A_if, if_neg (show ¬ tw_bo true = 0 from n10)]
      exact E3 la n k
end P99o
