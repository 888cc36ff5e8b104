/-! ===== pure: the law's text, atoms within atoms ===== -/
section P99s
variable {sh s2 : tw_Sh} {μ0 ν0 μ μ' ν : Nat → Nat → Int32} {la : Nat → Nat → Int64} {n a b x y m t tt e i lo c d cl p q p' q' z ix ix2 i' o h l r s c0 D : Nat} {G : tw_Gm} {g : tw_Gx} {B : Nat → Nat} {v w w' : Int32} {C : Nat → Nat × Nat} {u : Nat × Nat}
/-- six within one another are the most -/
theorem b_atom0 (hT : tw_tx B e tt) (hX : tw_Tx sh b) (GS : tw_GS g G b) (hA : tw_Ab sh μ0 (b + 144) (b + 1) B e tt) (hGc : tw_GH G sh μ0 b) (hM : tw_Mt s2 ν0 (b + 168) B e) (hGm : tw_GH G s2 ν0 b) : tw_PA sh s2 g b μ0 ν0 B e tt 0 := by
  intro i C c d lc hd hlc hi hc
  have hd6 : d = 6 := by omega
  have n10 : ¬ (nI 1) = (0 : Int32) := by decide
  have e00 : (nI 0) = (0 : Int32) := rfl
  have hz0 : ∀ F M, tw_rz (0 : Int32) F M = F M := fun F M => tw_rz_b (ok := false) F M
  have hm := hM.1
  have wn : "not" ∈ tw_words := by decide
  have b168 : b ≤ b + 168 := by omega
  have l40 : (40 : Int32) = nI 40 := rfl
  have h66 : nI 6 = (6 : Int32) := rfl
  have h6n : ¬ nI 6 < (6 : Int32) := by decide
  have FAIL : (tw_kd B e i = 3 ∨ tw_iW B e i "not") → ∀ a1, a1 ≤ d → ∀ μ w, tw_cs b μ0 μ C c → ∃ μ', tw_cwk b μ0 μ' ∧ ∀ la n k, tw_atl g (fN_X1_takeCondition g lc) (b + 144) (nI a1) k (nI d) (sh, tw_cwf μ (b + 144) i w, la, n) = k (tw_bo false) (sh, tw_cwf μ' (b + 144) i w, la, n) := fun hk a1 ha μ w H => by
    obtain ⟨μ1, f1, E1⟩ := c_leaf0 hT hX GS hA hGc hi hk (tw_cs_w H) w
    obtain ⟨μ2, f3, f4, E2⟩ := c_notsB (C := C) (c := c) (ok := false) hX (by omega : d ≤ 6) ha (fun h => Bool.noConfusion h) (fun h => Bool.noConfusion h) f1
    refine ⟨μ2, f4, fun la n k => ?_⟩
    unfold tw_atl
    refine tw_lp_exit (fun rec => ?_)
    subst hd6
    rw [A_jn, A_if, if_neg h6n]
    dsimp only
    rw [A_jn, A_jn, A_if, if_neg h6n]
    dsimp only
    rw [E1]
    exact E2 i w la n k
  by_cases q1 : tw_iS B e i 40
  · refine ⟨false, i, C, c, Nat.le_refl _, hi, fun h => Bool.noConfusion h, fun a1 ha _ μ w H => ?_, fun ν p q H ho => ?_⟩
    · obtain ⟨μ', f1, E⟩ := FAIL (Or.inl q1.1) a1 ha μ w H
      exact ⟨μ', w, fun h => Bool.noConfusion h, f1, E⟩
    · refine ⟨ν, tw_tp B e (i + 1), tw_tg B e i, fun h => Bool.noConfusion h, fun _ => rfl, H.1, fun la n k => ?_⟩
      show f_X12_readAtom g (fN_X12_readAtom g 1) (b + 168) k _ = _
      have h83 : tw_pb ν (b + 168) (tw_tp B e (i + 1)) (tw_tg B e i) (b + 168) 83 = nI 6 := (tw_pb_k (by omega) (by omega)).trans (by rw [← hd6]; exact H.2.2.1)
      unfold f_X12_readAtom
      rw [MoV0 hm, l40, m_sign1 (tw_mfr_M H.1 hM) ho (by omega) (by omega) (by omega) (by omega), if_pos q1, A_if, if_neg n10, MoI0_83 hm, h83, A_if, if_pos h66, hz0]
      rfl
  · by_cases q0 : tw_iW B e i "not"
    · refine ⟨false, i, C, c, Nat.le_refl _, hi, fun h => Bool.noConfusion h, fun a1 ha _ μ w H => ?_, fun ν p q H ho => ?_⟩
      · obtain ⟨μ', f1, E⟩ := FAIL (Or.inr q0) a1 ha μ w H
        exact ⟨μ', w, fun h => Bool.noConfusion h, f1, E⟩
      · refine ⟨ν, tw_tp B e (i + 1), tw_tg B e i, fun h => Bool.noConfusion h, fun _ => rfl, H.1, fun la n k => ?_⟩
        show f_X12_readAtom g (fN_X12_readAtom g 1) (b + 168) k _ = _
        have h83 : tw_pb ν (b + 168) (tw_tp B e (i + 1)) (tw_tg B e i) (b + 168) 83 = nI 6 := (tw_pb_k (by omega) (by omega)).trans (by rw [← hd6]; exact H.2.2.1)
        unfold f_X12_readAtom
        rw [MoV0 hm, l40, m_sign1 (tw_mfr_M H.1 hM) ho (by omega) (by omega) (by omega) (by omega), if_neg q1, A_if, if_pos e00, mb_Wp (tw_mfr_M H.1 hM) (tw_mfr_G H.1 hGm b168) b168 GS ks_RX12_199 wn (tw_on_g _ _ _), if_pos q0, A_if, if_neg n10, MoI0_83 hm, h83, A_if, if_pos h66, hz0]
        rfl
    · obtain ⟨ok, i', C', c', a1, a2, a3, NC, NM⟩ := b_atomL (d := d) (C := C) hT hX GS hA hGc hM hGm hi hc (by omega) q0 q1 (fN_X1_takeCondition g lc) (fN_X12_readAtom g 1)
      exact ⟨ok, i', C', c', a1, a2, a3, NC, NM⟩
theorem b_atomS (hT : tw_tx B e tt) (hX : tw_Tx sh b) (GS : tw_GS g G b) (hA : tw_Ab sh μ0 (b + 144) (b + 1) B e tt) (hGc : tw_GH G sh μ0 b) (hM : tw_Mt s2 ν0 (b + 168) B e) (hGm : tw_GH G s2 ν0 b) (HA : tw_PA sh s2 g b μ0 ν0 B e tt r) (HC : tw_PC sh s2 g b μ0 ν0 B e tt r) : tw_PA sh s2 g b μ0 ν0 B e tt (r + 1) := by
  intro i C c d lc hd hlc hi hc
  have n10 : ¬ (nI 1) = (0 : Int32) := by decide
  have n11 : ¬ (1 : Int32) = 0 := by decide
  have e00 : (nI 0) = (0 : Int32) := rfl
  have bf : tw_bo false = (0 : Int32) := rfl
  have bt : ¬ tw_bo true = (0 : Int32) := n10
  have hz0 : ∀ F M, tw_rz (0 : Int32) F M = F M := fun F M => tw_rz_b (ok := false) F M
  have hz1 : ∀ F M, tw_rz (1 : Int32) F M = F M := fun F M => tw_rz_b (ok := true) F M
  have hz0' : ∀ F M, tw_rz (nI 0) F M = F M := fun F M => tw_rz_b (ok := false) F M
  have hz1' : ∀ F M, tw_rz (nI 1) F M = F M := fun F M => tw_rz_b (ok := true) F M
  have he4 := hT.2.1
  have ht4 := hT.1
  have hm := hM.1
  have cis := of_eq_true (Tx_is1 hX)
  have wn : "not" ∈ tw_words := by decide
  have b168 : b ≤ b + 168 := by omega
  have l40 : (40 : Int32) = nI 40 := rfl
  have l41 : (41 : Int32) = nI 41 := rfl
  have hlt : nI d < (6 : Int32) := by show nI d < nI 6; rw [nz_lt (by omega) (by omega)]; omega
  have hne : ¬ nI d = (6 : Int32) := by show ¬ nI d = nI 6; rw [nz_eq (by omega) (by omega)]; omega
  have ed : nI d + (1 : Int32) = nI (d + 1) := nI_add d 1
  have ed2 : nI (d + 1) - (1 : Int32) = nI d := nz_sub (a := d + 1) (b := 1) (by omega)
  by_cases q0 : tw_iW B e i "not"
  · have q1 : ¬ tw_iS B e i 40 := fun h => by have := h.1; have := q0.1; omega
    have i1 := tw_nx1 hT hi q0.1 (by omega)
    obtain ⟨ok, i', C', c', a1, a2, a3, NC, NM⟩ := HA (i + 1) C c (d + 1) lc (by omega) (by omega) i1 (by omega)
    refine ⟨ok, i', tw_uc C' c' (14, 0), c' + 1, by omega, a2, fun h => ?_, fun z hz hcz μ w H => ?_, fun ν p q H ho => ?_⟩
    · obtain ⟨b1, b2, b3, b4⟩ := a3 h
      refine ⟨by omega, by omega, tw_cok_t b3 (tw_cok_1 (by decide) (by decide)), ?_⟩
      have s1 : tw_sA (tw_uc C' c' (14, 0)) c (c' - c) true (3 + 2 * r) := tw_sA_congr (fun j h6 h7 => by rw [tw_uc_n (by omega)]) b4
      rw [show c' + 1 - c = c' - c + 1 by omega]
      exact tw_sA_mono (tw_sA_not s1 (by rw [show c + (c' - c) = c' by omega, tw_uc_a]) (by omega)) (by omega)
    · obtain ⟨μ1, w1, f1, f2, E1⟩ := NC z (by omega) (by omega) μ w H
      refine ⟨μ1, w1, fun h => ?_, f2, fun la n k => ?_⟩
      · have := f1 h
        rw [show d + 1 - z = d - z + 1 by omega, tw_nts_s] at this
        rw [show c' + 1 + (d - z) = c' + (d - z + 1) by omega]
        exact this
      · rw [← E1 la n k]
        unfold tw_atl
        refine tw_lp_step (fun rec => ?_)
        rw [A_jn, A_if, if_pos hlt, cb_W (tw_cfr_A H.1 hA) (tw_cfr_G H.1 hGc) (by omega) cis GS ks_RX1_77 wn hi, if_pos q0, A_if, if_neg n10, ed]
    · have g83 : tw_pb ν (b + 168) (tw_tp B e (i + 1)) (tw_tg B e i) (b + 168) 83 = nI d := (tw_pb_k (by omega) (by omega)).trans H.2.2.1
      obtain ⟨ν1, p1, q1', g1, g2, g3, E1⟩ := NM (tw_up ν (b + 168) 83 (nI (d + 1))) (tw_tp B e (i + 1)) (tw_tg B e i) (tw_ms_83 H) (tw_on_p _ _ _)
      have HEAD : ∀ la n k, fN_X12_readAtom g (r + 1 + 2) (b + 168) k (s2, tw_pb ν (b + 168) p q, la, n) = fN_X12_readAtom g (r + 2) (b + 168) (fun x16 => tw_if (x16 = 0) (tw_rz (0 : Int32) (k (0 : Int32))) (tw_gi 83 (b + 168) fun x17 => tw_pi 83 (b + 168) (x17 - (1 : Int32)) (tw_iv 11 (b + 168) (f_X12_emits (b + 168) (14 : Int32) (0 : Int32) (fun u18 => tw_rz (1 : Int32) (k (1 : Int32))))))) (s2, tw_pb (tw_up ν (b + 168) 83 (nI (d + 1))) (b + 168) (tw_tp B e (i + 1)) (tw_tg B e i), la, n) := fun la n k => by
        show f_X12_readAtom g (fN_X12_readAtom g (r + 2)) (b + 168) k _ = _
        unfold f_X12_readAtom
        rw [MoV0 hm, l40, m_sign1 (tw_mfr_M H.1 hM) ho (by omega) (by omega) (by omega) (by omega), if_neg q1, A_if, if_pos e00, mb_Wp (tw_mfr_M H.1 hM) (tw_mfr_G H.1 hGm b168) b168 GS ks_RX12_199 wn (tw_on_g _ _ _), if_pos q0, A_if, if_neg n10, MoI0_83 hm, g83, A_if, if_neg hne, MoI0_83 hm, g83, MoP0_83 hm, ed, tw_pb_ck (by omega) (by omega), MoV0 hm]
      cases ok with
      | false =>
        refine ⟨ν1, p1, q1', fun h => Bool.noConfusion h, g2, g3, fun la n k => ?_⟩
        rw [HEAD, E1, A_if, if_pos bf, hz0]
        rfl
      | true =>
        obtain ⟨g4, g5⟩ := g1 rfl
        have h83 : tw_pb ν1 (b + 168) p1 q1' (b + 168) 83 = nI (d + 1) := (tw_pb_k (by omega) (by omega)).trans g4.2.2.1
        obtain ⟨ν2, g6, E2⟩ := m_emit (v := (14 : Int32)) (w := (0 : Int32)) (u := (14, 0)) hm (tw_ms_83 (d' := d) g4) (by have := a3 rfl; omega) rfl rfl
        refine ⟨ν2, p1, q1', fun _ => ⟨g6, g5⟩, fun h => Bool.noConfusion h, g6.1, fun la n k => ?_⟩
        rw [HEAD, E1, A_if, if_neg bt, MoI0_83 hm, h83, MoP0_83 hm, ed2, tw_pb_ck (by omega) (by omega), MoV0 hm, E2, hz1]
        rfl
  · by_cases q1 : tw_iS B e i 40
    · have i1 := tw_nx1 hT hi q1.1 (by omega)
      obtain ⟨lc', hlc'⟩ : ∃ lc', lc = lc' + 1 := ⟨lc - 1, by omega⟩
      subst hlc'
      obtain ⟨ok, i2, C2, c2, a1, a2, a3, NC, NM⟩ := HC (i + 1) C c (d + 1) lc' (by omega) (by omega) i1 (by omega)
      have HEAD : ∀ ν p q, tw_ms (b + 168) ν0 ν C c d → tw_on B e i p → ∀ la n k, fN_X12_readAtom g (r + 1 + 2) (b + 168) k (s2, tw_pb ν (b + 168) p q, la, n) = f_X12_readCond g (fN_X12_readAtom g (r + 2)) (b + 168) (fun x21 => tw_if (x21 = 0) (tw_rz (0 : Int32) (k (0 : Int32))) (tw_gi 83 (b + 168) fun x22 => tw_pi 83 (b + 168) (x22 - (1 : Int32)) (tw_iv 11 (b + 168) (f_X12_sign (b + 168) (41 : Int32) (fun x23 => tw_rz x23 (k x23)))))) (s2, tw_pb (tw_up ν (b + 168) 83 (nI (d + 1))) (b + 168) (tw_tp B e (i + 1)) (tw_tg B e i), la, n) := fun ν p q H ho la n k => by
        have g83 : tw_pb ν (b + 168) (tw_tp B e (i + 1)) (tw_tg B e i) (b + 168) 83 = nI d := (tw_pb_k (by omega) (by omega)).trans H.2.2.1
        show f_X12_readAtom g (fN_X12_readAtom g (r + 2)) (b + 168) k _ = _
        unfold f_X12_readAtom
        rw [MoV0 hm, l40, m_sign1 (tw_mfr_M H.1 hM) ho (by omega) (by omega) (by omega) (by omega), if_pos q1, A_if, if_neg n10, MoI0_83 hm, g83, A_if, if_neg hne, MoI0_83 hm, g83, MoP0_83 hm, ed, tw_pb_ck (by omega) (by omega), MoV0 hm]
      cases ok with
      | false =>
        refine ⟨false, i2, C2, c2, by omega, a2, fun h => Bool.noConfusion h, fun z hz hcz μ w H => ?_, fun ν p q H ho => ?_⟩
        · obtain ⟨μ1, w1, f1, f2, E1⟩ := NC μ w H
          obtain ⟨μ2, f3, f4, E2⟩ := c_notsB (C := C) (c := c) (ok := false) hX (by omega : d ≤ 6) hz (fun h => Bool.noConfusion h) (fun h => Bool.noConfusion h) f2
          refine ⟨μ2, w1, fun h => Bool.noConfusion h, f4, fun la n k => ?_⟩
          unfold tw_atl
          refine tw_lp_exit (fun rec => ?_)
          rw [A_jn, A_if, if_pos hlt, cb_W (tw_cfr_A H.1 hA) (tw_cfr_G H.1 hGc) (by omega) cis GS ks_RX1_77 wn hi, if_neg q0, A_if, if_pos e00]
          dsimp only
          rw [A_jn, A_jn, A_if, if_pos hlt, TxV1 hX, l40, cb_S (tw_cfr_A H.1 hA) (by omega) hi, if_pos q1, A_if, if_neg n10, TxV1 hX, ed, E1, A_jn, A_jn, A_if, if_pos bf]
          exact E2 i2 w1 la n k
        · obtain ⟨ν1, p1, q1', g1, g2, g3, E1⟩ := NM (tw_up ν (b + 168) 83 (nI (d + 1))) (tw_tp B e (i + 1)) (tw_tg B e i) (tw_ms_83 H) (tw_on_p _ _ _)
          refine ⟨ν1, p1, q1', fun h => Bool.noConfusion h, g2, g3, fun la n k => ?_⟩
          rw [HEAD ν p q H ho, E1, A_if, if_pos bf, hz0]
          rfl
      | true =>
        obtain ⟨b1, b2, b3, b4⟩ := a3 rfl
        by_cases q2 : tw_iS B e i2 41
        · have i3 := tw_nx1 hT a2 q2.1 (by omega)
          refine ⟨true, i2 + 1, C2, c2, by omega, i3, fun _ => ⟨by omega, b2, b3, tw_sA_mono b4 (by omega)⟩, fun z hz hcz μ w H => ?_, fun ν p q H ho => ?_⟩
          · obtain ⟨μ1, w1, f1, f2, E1⟩ := NC μ w H
            have F1 := (f1 rfl).1
            obtain ⟨μ2, f3, f4, E2⟩ := c_notsB (C := C2) (c := c2) (ok := true) hX (by omega : d ≤ 6) hz (fun _ => by omega) f1 f2
            refine ⟨μ2, w1, f3, f4, fun la n k => ?_⟩
            unfold tw_atl
            refine tw_lp_exit (fun rec => ?_)
            rw [A_jn, A_if, if_pos hlt, cb_W (tw_cfr_A H.1 hA) (tw_cfr_G H.1 hGc) (by omega) cis GS ks_RX1_77 wn hi, if_neg q0, A_if, if_pos e00]
            dsimp only
            rw [A_jn, A_jn, A_if, if_pos hlt, TxV1 hX, l40, cb_S (tw_cfr_A H.1 hA) (by omega) hi, if_pos q1, A_if, if_neg n10, TxV1 hX, ed, E1, A_jn, A_jn, A_if, if_neg bt, TxV1 hX, l41, cb_S (tw_cfr_A F1 hA) (by omega) a2, if_pos q2, A_if, if_neg n10]
            exact E2 (i2 + 1) w1 la n k
          · obtain ⟨ν1, p1, q1', g1, g2, g3, E1⟩ := NM (tw_up ν (b + 168) 83 (nI (d + 1))) (tw_tp B e (i + 1)) (tw_tg B e i) (tw_ms_83 H) (tw_on_p _ _ _)
            obtain ⟨g4, g5⟩ := g1 rfl
            have h83 : tw_pb ν1 (b + 168) p1 q1' (b + 168) 83 = nI (d + 1) := (tw_pb_k (by omega) (by omega)).trans g4.2.2.1
            have g6 := tw_ms_83 (d' := d) g4
            refine ⟨tw_up ν1 (b + 168) 83 (nI d), tw_tp B e (i2 + 1), tw_tg B e i2, fun _ => ⟨g6, tw_on_p _ _ _⟩, fun h => Bool.noConfusion h, g6.1, fun la n k => ?_⟩
            rw [HEAD ν p q H ho, E1, A_if, if_neg bt, MoI0_83 hm, h83, MoP0_83 hm, ed2, tw_pb_ck (by omega) (by omega), MoV0 hm, l41, m_sign1 (tw_mfr_M g6.1 hM) g5 (by omega) (by omega) (by omega) (by omega), if_pos q2, hz1']
            rfl
        · refine ⟨false, i2, C2, c2, by omega, a2, fun h => Bool.noConfusion h, fun z hz hcz μ w H => ?_, fun ν p q H ho => ?_⟩
          · obtain ⟨μ1, w1, f1, f2, E1⟩ := NC μ w H
            have F1 := (f1 rfl).1
            obtain ⟨μ2, f3, f4, E2⟩ := c_notsB (C := C) (c := c) (ok := false) hX (by omega : d ≤ 6) hz (fun h => Bool.noConfusion h) (fun h => Bool.noConfusion h) f2
            refine ⟨μ2, w1, fun h => Bool.noConfusion h, f4, fun la n k => ?_⟩
            unfold tw_atl
            refine tw_lp_exit (fun rec => ?_)
            rw [A_jn, A_if, if_pos hlt, cb_W (tw_cfr_A H.1 hA) (tw_cfr_G H.1 hGc) (by omega) cis GS ks_RX1_77 wn hi, if_neg q0, A_if, if_pos e00]
            dsimp only
            rw [A_jn, A_jn, A_if, if_pos hlt, TxV1 hX, l40, cb_S (tw_cfr_A H.1 hA) (by omega) hi, if_pos q1, A_if, if_neg n10, TxV1 hX, ed, E1, A_jn, A_jn, A_if, if_neg bt, TxV1 hX, l41, cb_S (tw_cfr_A F1 hA) (by omega) a2, if_neg q2, A_if, if_pos e00]
            exact E2 i2 w1 la n k
          · obtain ⟨ν1, p1, q1', g1, g2, g3, E1⟩ := NM (tw_up ν (b + 168) 83 (nI (d + 1))) (tw_tp B e (i + 1)) (tw_tg B e i) (tw_ms_83 H) (tw_on_p _ _ _)
            obtain ⟨g4, g5⟩ := g1 rfl
            have h83 : tw_pb ν1 (b + 168) p1 q1' (b + 168) 83 = nI (d + 1) := (tw_pb_k (by omega) (by omega)).trans g4.2.2.1
            have g6 := tw_ms_83 (d' := d) g4
            refine ⟨tw_up ν1 (b + 168) 83 (nI d), tw_tg B e i2, tw_tg B e i2, fun h => Bool.noConfusion h, fun _ => rfl, g6.1, fun la n k => ?_⟩
            rw [HEAD ν p q H ho, E1, A_if, if_neg bt, MoI0_83 hm, h83, MoP0_83 hm, ed2, tw_pb_ck (by omega) (by omega), MoV0 hm, l41, m_sign1 (tw_mfr_M g6.1 hM) g5 (by omega) (by omega) (by omega) (by omega), if_neg q2, hz0']
            rfl
    · obtain ⟨ok, i', C', c', a1, a2, a3, NC, NM⟩ := b_atomL (d := d) (C := C) hT hX GS hA hGc hM hGm hi hc (by omega) q0 q1 (fN_X1_takeCondition g lc) (fN_X12_readAtom g (r + 2))
      exact ⟨ok, i', C', c', a1, a2, fun h => ⟨(a3 h).1, (a3 h).2.1, (a3 h).2.2.1, tw_sA_mono (a3 h).2.2.2 (by omega)⟩, NC, NM⟩
end P99s
