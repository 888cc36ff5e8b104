/-! ===== pure: the law's text, conditions ===== -/
/-- the loop of a condition, the class -/
def tw_cdl (g : tw_Gx) (rR : Nat → Int32 → (Int32 → tw_Mem → Prop) → tw_Mem → Prop) (a0 : Nat) (a1 : Int32) (k : Int32 → tw_Mem → Prop) : Int32 × Int32 × Int32 → tw_Mem → Prop := tw_lp (fun (r2 : Int32 × Int32 × Int32 → tw_Mem → Prop) (s3 : Int32 × Int32 × Int32) => tw_jn (fun (s5 : Unit) => tw_iv 1 a0 (f_X1_addStepIf a0 s3.2.1 (20 : Int32) (fun u6 => tw_rz s3.1 (k s3.1)))) (fun j4 => tw_if (s3.1 = 0) (j4 ()) (tw_if (s3.2.2 < (400 : Int32)) (tw_ls g RX1 65 "and" fun t7 => tw_iv 1 a0 (f_X7_takeWord a0 t7 (fun x8 => tw_jn (fun (s10 : Int32 × Int32) => r2 (s10.1, s10.2, s3.2.2 + (1 : Int32))) (fun j9 => tw_if (x8 = 0) (tw_ls g RX1 71 "or" fun t11 => tw_iv 1 a0 (f_X7_takeWord a0 t11 (fun x12 => tw_if (x12 = 0) (j4 ()) (tw_iv 1 a0 (f_X1_addStepIf a0 s3.2.1 (20 : Int32) (fun u13 => tw_iv 1 a0 (f_X1_takeAtom g rR a0 a1 (fun x14 => j9 (x14, (1 : Int32)))))))))) (tw_iv 1 a0 (f_X1_takeAtom g rR a0 a1 (fun x15 => tw_iv 1 a0 (f_X1_addStep a0 (19 : Int32) (fun u16 => j9 (x15, s3.2.1)))))))))) (j4 ()))))
theorem tw_cdl_e (g : tw_Gx) (rR : Nat → Int32 → (Int32 → tw_Mem → Prop) → tw_Mem → Prop) (a0 : Nat) (a1 : Int32) (k : Int32 → tw_Mem → Prop) : f_X1_takeCondition g rR a0 a1 k = tw_iv 1 a0 (f_X1_takeAtom g rR a0 a1 (fun x1 => tw_cdl g rR a0 a1 k (x1, (0 : Int32), (0 : Int32)))) := rfl
/-- the loops of a condition, the model -/
def tw_aal (g : tw_Gx) (rR : Nat → (Int32 → tw_Mem → Prop) → tw_Mem → Prop) (a0 : Nat) (k : Int32 → tw_Mem → Prop) : Unit → tw_Mem → Prop := tw_lp (fun (r2 : Unit → tw_Mem → Prop) (s3 : Unit) => tw_ls g RX12 210 "and" fun t4 => tw_iv 11 a0 (f_X12_passes a0 t4 (fun x5 => tw_if (x5 = 0) (tw_rz (1 : Int32) (k (1 : Int32))) (tw_iv 11 a0 (rR a0 (fun x6 => tw_if (x6 = 0) (tw_rz (0 : Int32) (k (0 : Int32))) (tw_iv 11 a0 (f_X12_emits a0 (15 : Int32) (0 : Int32) (fun u7 => r2 ())))))))))
theorem tw_aal_e (g : tw_Gx) (rR : Nat → (Int32 → tw_Mem → Prop) → tw_Mem → Prop) (a0 : Nat) (k : Int32 → tw_Mem → Prop) : f_X12_readAllOf g rR a0 k = tw_iv 11 a0 (rR a0 (fun x1 => tw_if (x1 = 0) (tw_rz (0 : Int32) (k (0 : Int32))) (tw_aal g rR a0 k ()))) := rfl
def tw_orl (g : tw_Gx) (rR : Nat → (Int32 → tw_Mem → Prop) → tw_Mem → Prop) (a0 : Nat) (k : Int32 → tw_Mem → Prop) : Unit → tw_Mem → Prop := tw_lp (fun (r2 : Unit → tw_Mem → Prop) (s3 : Unit) => tw_ls g RX12 215 "or" fun t4 => tw_iv 11 a0 (f_X12_passes a0 t4 (fun x5 => tw_if (x5 = 0) (tw_rz (1 : Int32) (k (1 : Int32))) (tw_iv 11 a0 (f_X12_readAllOf g rR a0 (fun x6 => tw_if (x6 = 0) (tw_rz (0 : Int32) (k (0 : Int32))) (tw_iv 11 a0 (f_X12_emits a0 (16 : Int32) (0 : Int32) (fun u7 => r2 ())))))))))
theorem tw_orl_e (g : tw_Gx) (rR : Nat → (Int32 → tw_Mem → Prop) → tw_Mem → Prop) (a0 : Nat) (k : Int32 → tw_Mem → Prop) : f_X12_readCond g rR a0 k = tw_iv 11 a0 (f_X12_readAllOf g rR a0 (fun x1 => tw_if (x1 = 0) (tw_rz (0 : Int32) (k (0 : Int32))) (tw_orl g rR a0 k ()))) := rfl
theorem tw_wc_ao : tw_wc "and" ≠ tw_wc "or" := by decide +kernel
section P99t
variable {sh s2 : tw_Sh} {μ0 ν0 μ μ' ν : Nat → Nat → Int32} {la : Nat → Nat → Int64} {n a b x y m t tt e i lo c d cl p q p' q' z ix ix2 i' o h l r s c0 D lc ow : Nat} {G : tw_Gm} {g : tw_Gx} {B : Nat → Nat} {v w w' : Int32} {C C' : Nat → Nat × Nat} {u : Nat × Nat}
theorem tw_cs_congr (H : tw_cs b μ0 μ C c) (h : ∀ j, j < c → C' j = C j) : tw_cs b μ0 μ C' c := ⟨H.1, H.2.1, H.2.2.1, fun j hj => by rw [h j hj]; exact H.2.2.2 j hj⟩
theorem tw_PA_1 (HA : tw_PA sh s2 g b μ0 ν0 B e tt r) (h1 : d + r = 6) (h2 : r + 1 ≤ lc) (h3 : i ≤ tt) (h4 : c + 2 ≤ i) : ∃ ok i' C' c', i ≤ i' ∧ i' ≤ tt ∧ (ok = true → c' + i ≤ c + i' ∧ c < c' ∧ tw_cok C C' c c' ∧ tw_sA C' c (c' - c) true (3 + 2 * r)) ∧ tw_nc sh b μ0 C c i ok i' C' c' (f_X1_takeAtom g (fN_X1_takeCondition g lc) (b + 144) (nI d)) ∧ tw_nm s2 (b + 168) ν0 B e C c d i ok i' C' c' (fN_X12_readAtom g (r + 2) (b + 168)) := by
  obtain ⟨ok, i', C', c', a1, a2, a3, NC, NM⟩ := HA i C c d lc h1 h2 h3 h4
  refine ⟨ok, i', C', c', a1, a2, a3, fun μ w H => ?_, NM⟩
  obtain ⟨μ1, w1, f1, f2, E⟩ := NC d (Nat.le_refl _) (by omega) μ w H
  rw [Nat.sub_self] at f1
  exact ⟨μ1, w1, f1, f2, fun la n k => by rw [tw_atl_e]; exact E la n k⟩
/-- the OR that waits -/
theorem c_owS (hX : tw_Tx sh b) (H : tw_cs b μ0 μ C (c - ow)) (ho : ow ≤ 1) (hoc : ow ≤ c) (hc : c ≤ 400) (hC : ow = 1 → C (c - 1) = (16, 0)) : ∃ μ', tw_cs b μ0 μ' C c ∧ ∀ i w la n k, f_X1_addStepIf (b + 144) (nI ow) (20 : Int32) k (sh, tw_cwf μ (b + 144) i w, la, n) = k () (sh, tw_cwf μ' (b + 144) i w, la, n) := by
  by_cases h0 : ow = 0
  · subst h0
    refine ⟨μ, H, fun i w la n k => ?_⟩
    unfold f_X1_addStepIf
    rw [A_if, if_pos (show nI 0 = (0 : Int32) from rfl)]
  · have h1 : ow = 1 := by omega
    subst h1
    obtain ⟨μ1, H1, E⟩ := c_addS (v := (20 : Int32)) (u := (16, 0)) hX H (by omega) rfl
    rw [show c - 1 + 1 = c by omega] at H1
    refine ⟨μ1, tw_cs_congr H1 (fun j hj => ?_), fun i w la n k => ?_⟩
    · unfold tw_uc
      by_cases ej : j = c - 1
      · rw [if_pos ej, ej]; exact hC rfl
      · rw [if_neg ej]
    · unfold f_X1_addStepIf
      rw [A_if, if_neg (show ¬ nI 1 = (0 : Int32) by decide), TxV1 hX, E]
theorem c_owW (hX : tw_Tx sh b) (H : tw_cwk b μ0 μ) (v : Int32) : ∃ μ', tw_cwk b μ0 μ' ∧ ∀ i w la n k, f_X1_addStepIf (b + 144) v (20 : Int32) k (sh, tw_cwf μ (b + 144) i w, la, n) = k () (sh, tw_cwf μ' (b + 144) i w, la, n) := by
  by_cases h0 : v = 0
  · refine ⟨μ, H, fun i w la n k => ?_⟩
    unfold f_X1_addStepIf
    rw [A_if, if_pos h0]
  · obtain ⟨μ1, H1, E⟩ := c_addW hX H (20 : Int32)
    refine ⟨μ1, H1, fun i w la n k => ?_⟩
    unfold f_X1_addStepIf
    rw [A_if, if_neg h0, TxV1 hX, E]
/-- the class's loop ends once it has failed -/
theorem c_cdl0 (hX : tw_Tx sh b) (H : tw_cwk b μ0 μ) (rR : Nat → Int32 → (Int32 → tw_Mem → Prop) → tw_Mem → Prop) (v q0 : Int32) : ∃ μ', tw_cwk b μ0 μ' ∧ ∀ i w la n a1 k, tw_cdl g rR (b + 144) a1 k (tw_bo false, v, q0) (sh, tw_cwf μ (b + 144) i w, la, n) = k (tw_bo false) (sh, tw_cwf μ' (b + 144) i w, la, n) := by
  obtain ⟨μ1, H1, E⟩ := c_owW hX H v
  refine ⟨μ1, H1, fun i w la n a1 k => ?_⟩
  unfold tw_cdl
  refine tw_lp_exit (fun rec => ?_)
  rw [A_jn, A_if, if_pos (show tw_bo false = 0 from rfl)]
  dsimp only
  rw [TxV1 hX, E, tw_rz_b]
theorem b_andL (hT : tw_tx B e tt) (hX : tw_Tx sh b) (GS : tw_GS g G b) (hA : tw_Ab sh μ0 (b + 144) (b + 1) B e tt) (hGc : tw_GH G sh μ0 b) (hM : tw_Mt s2 ν0 (b + 168) B e) (hGm : tw_GH G s2 ν0 b) (HA : tw_PA sh s2 g b μ0 ν0 B e tt r) (hd : d + r = 6) (hlc : r + 1 ≤ lc) : ∀ k0 i C c q0, tt - i ≤ k0 → i ≤ tt → c + 2 ≤ i → c0 < c → q0 + 3 ≤ i → tw_sA C c0 (c - c0) true (4 + 2 * r) → ∃ ok i' C' c' q1, i ≤ i' ∧ i' ≤ tt ∧ (ok = true → c' + 2 ≤ i' ∧ tw_cok C C' c c' ∧ tw_sA C' c0 (c' - c0) true (4 + 2 * r) ∧ c' + i ≤ c + i' ∧ q1 + 3 ≤ i' ∧ ¬ tw_iW B e i' "and") ∧
    (∀ (ow : Int32) μ w, tw_cs b μ0 μ C c → ∃ μ' w', (ok = true → tw_cs b μ0 μ' C' c') ∧ tw_cwk b μ0 μ' ∧ ∀ la n (k : Int32 → tw_Mem → Prop), tw_cdl g (fN_X1_takeCondition g lc) (b + 144) (nI d) k (tw_bo true, ow, nI q0) (sh, tw_cwf μ (b + 144) i w, la, n) = tw_cdl g (fN_X1_takeCondition g lc) (b + 144) (nI d) k (tw_bo ok, ow, nI q1) (sh, tw_cwf μ' (b + 144) i' w', la, n)) ∧
    (∀ ν p q, tw_ms (b + 168) ν0 ν C c d → tw_on B e i p → ∃ ν' p' q', (ok = true → tw_ms (b + 168) ν0 ν' C' c' d ∧ tw_on B e i' p') ∧ (ok = false → q' = tw_tg B e i') ∧ tw_mfr (b + 168) ν0 ν' ∧ ∀ la n (k : Int32 → tw_Mem → Prop), tw_aal g (fN_X12_readAtom g (r + 2)) (b + 168) k () (s2, tw_pb ν (b + 168) p q, la, n) = k (tw_bo ok) (s2, tw_pb ν' (b + 168) p' q', la, n)) := by
  have n10 : ¬ (nI 1) = (0 : Int32) := by decide
  have e00 : (nI 0) = (0 : Int32) := rfl
  have bt : ¬ tw_bo true = (0 : Int32) := n10
  have hz0 : ∀ F M, tw_rz (0 : Int32) F M = F M := fun F M => tw_rz_b (ok := false) F M
  have hz1 : ∀ F M, tw_rz (1 : Int32) F M = F M := fun F M => tw_rz_b (ok := true) F M
  have he4 := hT.2.1
  have ht4 := hT.1
  have hm := hM.1
  have cis := of_eq_true (Tx_is1 hX)
  have b168 : b ≤ b + 168 := by omega
  have wa : "and" ∈ tw_words := by decide
  intro k0
  induction k0 using Nat.strongRecOn with
  | _ k0 ih =>
  intro i C c q0 h1 h2 h3 h4 h5 hs
  have hlt : nI q0 < (400 : Int32) := by show nI q0 < nI 400; rw [nz_lt (by omega) (by omega)]; omega
  have eq1 : nI q0 + (1 : Int32) = nI (q0 + 1) := nI_add q0 1
  by_cases ns : tw_iW B e i "and"
  · have i1 := tw_nx1 hT h2 ns.1 (by omega)
    obtain ⟨ok, i2, C1, c1, a1, a2, a3, NC, NM⟩ := tw_PA_1 (C := C) (c := c) (i := i + 1) HA hd hlc i1 (by omega)
    cases ok with
    | false =>
      refine ⟨false, i2, C1, c1, q0 + 1, by omega, a2, fun h => Bool.noConfusion h, fun ow μ w H => ?_, fun ν p q H ho => ?_⟩
      · obtain ⟨μ1, w1, f1, f2, E1⟩ := NC μ w H
        obtain ⟨μ2, f3, E2⟩ := c_addW hX f2 (19 : Int32)
        refine ⟨μ2, w1, fun h => Bool.noConfusion h, f3, fun la n k => ?_⟩
        refine tw_lp_step (fun rec => ?_)
        rw [A_jn, A_if, if_neg bt, A_if, if_pos hlt, cb_W (tw_cfr_A H.1 hA) (tw_cfr_G H.1 hGc) (by omega) cis GS ks_RX1_65 wa h2, if_pos ns, A_jn, A_if, if_neg n10, TxV1 hX, E1, TxV1 hX, E2, eq1]
      · obtain ⟨ν1, p1, q1, g1, g2, g3, E1⟩ := NM ν (tw_tp B e (i + 1)) (tw_tg B e i) H (tw_on_p _ _ _)
        refine ⟨ν1, p1, q1, fun h => Bool.noConfusion h, g2, g3, fun la n k => tw_lp_exit (fun rec => ?_)⟩
        rw [mb_Wp (tw_mfr_M H.1 hM) (tw_mfr_G H.1 hGm b168) b168 GS ks_RX12_210 wa ho, if_pos ns, A_if, if_neg n10, MoV0 hm, E1, A_if, if_pos (show tw_bo false = 0 from rfl), hz0]
        rfl
    | true =>
      obtain ⟨b1, b2, b3, b4⟩ := a3 rfl
      have hcm : tw_cok C (tw_uc C1 c1 (15, 0)) c (c1 + 1) := tw_cok_t b3 (tw_cok_1 (by decide) (by decide))
      have hsg : tw_sA (tw_uc C1 c1 (15, 0)) c0 (c1 + 1 - c0) true (4 + 2 * r) := by
        have s1 : tw_sA (tw_uc C1 c1 (15, 0)) c0 (c - c0) true (4 + 2 * r) := tw_sA_congr (fun j h6 h7 => by rw [tw_uc_n (by omega)]; exact (b3.2.1 j (by omega)).symm) hs
        have s2 : tw_sA (tw_uc C1 c1 (15, 0)) (c0 + (c - c0)) (c1 - c) true (3 + 2 * r) := by
          rw [show c0 + (c - c0) = c by omega]
          exact tw_sA_congr (fun j h6 h7 => by rw [tw_uc_n (by omega)]) b4
        have ec : tw_uc C1 c1 (15, 0) (c0 + (c - c0) + (c1 - c)) = (15, 0) := by
          rw [show c0 + (c - c0) + (c1 - c) = c1 by omega]; exact tw_uc_a
        have s3 := tw_sA_bin (b2 := true) s1 s2 (by rw [ec]; decide) (by rw [ec]; decide) (by rw [ec]; decide) (fun _ => rfl) (fun _ => by rw [ec]; decide) (by omega)
        rw [show c1 + 1 - c0 = c - c0 + (c1 - c) + 1 by omega]
        exact tw_sA_mono s3 (by omega)
      obtain ⟨ok3, i3, C3, c3, q3, d1, d2, d3, LC, LM⟩ := ih (tt - i2) (by omega) i2 (tw_uc C1 c1 (15, 0)) (c1 + 1) (q0 + 1) (Nat.le_refl _) a2 (by omega) (by omega) (by omega) hsg
      refine ⟨ok3, i3, C3, c3, q3, by omega, d2, fun h => ⟨(d3 h).1, tw_cok_t hcm (d3 h).2.1, (d3 h).2.2.1, by have := (d3 h).2.2.2.1; omega, (d3 h).2.2.2.2⟩, fun ow μ w H => ?_, fun ν p q H ho => ?_⟩
      · obtain ⟨μ1, w1, f1, f2, E1⟩ := NC μ w H
        obtain ⟨μ2, f3, E2⟩ := c_addS (v := (19 : Int32)) (u := (15, 0)) hX (f1 rfl) (by omega) rfl
        obtain ⟨μ3, w3, f5, f6, E3⟩ := LC ow μ2 w1 f3
        refine ⟨μ3, w3, f5, f6, fun la n k => ?_⟩
        rw [← E3 la n k]
        refine tw_lp_step (fun rec => ?_)
        rw [A_jn, A_if, if_neg bt, A_if, if_pos hlt, cb_W (tw_cfr_A H.1 hA) (tw_cfr_G H.1 hGc) (by omega) cis GS ks_RX1_65 wa h2, if_pos ns, A_jn, A_if, if_neg n10, TxV1 hX, E1, TxV1 hX, E2, eq1]
      · obtain ⟨ν1, p1, q1, g1, g2, g3, E1⟩ := NM ν (tw_tp B e (i + 1)) (tw_tg B e i) H (tw_on_p _ _ _)
        obtain ⟨g4, g5⟩ := g1 rfl
        obtain ⟨ν2, g6, E2⟩ := m_emit (v := (15 : Int32)) (w := (0 : Int32)) (u := (15, 0)) hm g4 (by omega) rfl rfl
        obtain ⟨ν3, p3, q3, g7, g8, g9, E3⟩ := LM ν2 p1 q1 g6 g5
        refine ⟨ν3, p3, q3, g7, g8, g9, fun la n k => ?_⟩
        rw [← E3 la n k]
        refine tw_lp_step (fun rec => ?_)
        rw [mb_Wp (tw_mfr_M H.1 hM) (tw_mfr_G H.1 hGm b168) b168 GS ks_RX12_210 wa ho, if_pos ns, A_if, if_neg n10, MoV0 hm, E1, A_if, if_neg bt, MoV0 hm, E2]
  · refine ⟨true, i, C, c, q0, Nat.le_refl _, h2, fun _ => ⟨h3, ⟨Nat.le_refl _, fun _ _ => rfl, fun j a b => by omega⟩, hs, Nat.le_refl _, h5, ns⟩, fun ow μ w H => ⟨μ, w, fun _ => H, tw_cs_w H, fun la n k => rfl⟩, fun ν p q H ho => ⟨ν, tw_tg B e i, tw_tg B e i, fun _ => ⟨H, tw_on_g _ _ _⟩, fun h => Bool.noConfusion h, H.1, fun la n k => tw_lp_exit (fun rec => ?_)⟩⟩
    rw [mb_Wp (tw_mfr_M H.1 hM) (tw_mfr_G H.1 hGm b168) b168 GS ks_RX12_210 wa ho, if_neg ns, A_if, if_pos e00, hz1]
    rfl
theorem b_orL (hT : tw_tx B e tt) (hX : tw_Tx sh b) (GS : tw_GS g G b) (hA : tw_Ab sh μ0 (b + 144) (b + 1) B e tt) (hGc : tw_GH G sh μ0 b) (hM : tw_Mt s2 ν0 (b + 168) B e) (hGm : tw_GH G s2 ν0 b) (HA : tw_PA sh s2 g b μ0 ν0 B e tt r) (hd : d + r = 6) (hlc : r + 1 ≤ lc) : ∀ k0 i C c q0 ow, tt - i ≤ k0 → i ≤ tt → c + 2 ≤ i → c0 < c → q0 + 3 ≤ i → ¬ tw_iW B e i "and" → ow ≤ 1 → (ow = 1 → C (c - 1) = (16, 0)) → tw_sA C c0 (c - c0) true (5 + 2 * r) → ∃ ok i' C' c', i ≤ i' ∧ i' ≤ tt ∧ (ok = true → tw_cok C C' c c' ∧ tw_sA C' c0 (c' - c0) true (5 + 2 * r) ∧ c' + i ≤ c + i') ∧
    (∀ μ w, tw_cs b μ0 μ C (c - ow) → ∃ μ' w', (ok = true → tw_cs b μ0 μ' C' c') ∧ tw_cwk b μ0 μ' ∧ ∀ la n (k : Int32 → tw_Mem → Prop), tw_cdl g (fN_X1_takeCondition g lc) (b + 144) (nI d) k (tw_bo true, nI ow, nI q0) (sh, tw_cwf μ (b + 144) i w, la, n) = k (tw_bo ok) (sh, tw_cwf μ' (b + 144) i' w', la, n)) ∧
    (∀ ν p q, tw_ms (b + 168) ν0 ν C c d → tw_on B e i p → ∃ ν' p' q', (ok = true → tw_ms (b + 168) ν0 ν' C' c' d ∧ tw_on B e i' p') ∧ (ok = false → q' = tw_tg B e i') ∧ tw_mfr (b + 168) ν0 ν' ∧ ∀ la n (k : Int32 → tw_Mem → Prop), tw_orl g (fN_X12_readAtom g (r + 2)) (b + 168) k () (s2, tw_pb ν (b + 168) p q, la, n) = k (tw_bo ok) (s2, tw_pb ν' (b + 168) p' q', la, n)) := by
  have n10 : ¬ (nI 1) = (0 : Int32) := by decide
  have e00 : (nI 0) = (0 : Int32) := rfl
  have bt : ¬ tw_bo true = (0 : Int32) := n10
  have hz0 : ∀ F M, tw_rz (0 : Int32) F M = F M := fun F M => tw_rz_b (ok := false) F M
  have hz1 : ∀ F M, tw_rz (1 : Int32) F M = F M := fun F M => tw_rz_b (ok := true) F M
  have he4 := hT.2.1
  have ht4 := hT.1
  have hm := hM.1
  have cis := of_eq_true (Tx_is1 hX)
  have b168 : b ≤ b + 168 := by omega
  have wa : "and" ∈ tw_words := by decide
  have wo : "or" ∈ tw_words := by decide
  intro k0
  induction k0 using Nat.strongRecOn with
  | _ k0 ih =>
  intro i C c q0 ow h1 h2 h3 h4 h5 na how hC hs
  have hlt : nI q0 < (400 : Int32) := by show nI q0 < nI 400; rw [nz_lt (by omega) (by omega)]; omega
  have eq1 : nI q0 + (1 : Int32) = nI (q0 + 1) := nI_add q0 1
  by_cases ns : tw_iW B e i "or"
  · have i1 := tw_nx1 hT h2 ns.1 (by omega)
    obtain ⟨ok, i2, C1, c1, a1, a2, a3, NC, NM⟩ := tw_PA_1 (C := C) (c := c) (i := i + 1) HA hd hlc i1 (by omega)
    have CSTEP : ∀ μ w, tw_cs b μ0 μ C (c - ow) → ∃ μ' w', (ok = true → tw_cs b μ0 μ' C1 c1) ∧ tw_cwk b μ0 μ' ∧ ∀ la n (k : Int32 → tw_Mem → Prop), tw_cdl g (fN_X1_takeCondition g lc) (b + 144) (nI d) k (tw_bo true, nI ow, nI q0) (sh, tw_cwf μ (b + 144) i w, la, n) = tw_cdl g (fN_X1_takeCondition g lc) (b + 144) (nI d) k (tw_bo ok, nI 1, nI (q0 + 1)) (sh, tw_cwf μ' (b + 144) i2 w', la, n) := fun μ w H => by
      obtain ⟨μ1, H1, E1⟩ := c_owS hX H how (by omega) (by omega) hC
      obtain ⟨μ2, w2, f1, f2, E2⟩ := NC μ1 w H1
      refine ⟨μ2, w2, f1, f2, fun la n k => ?_⟩
      refine tw_lp_step (fun rec => ?_)
      rw [A_jn, A_if, if_neg bt, A_if, if_pos hlt, cb_W (tw_cfr_A H.1 hA) (tw_cfr_G H.1 hGc) (by omega) cis GS ks_RX1_65 wa h2, if_neg na, A_jn, A_if, if_pos e00, cb_W (tw_cfr_A H.1 hA) (tw_cfr_G H.1 hGc) (by omega) cis GS ks_RX1_71 wo h2, if_pos ns, A_if, if_neg n10, TxV1 hX, E1, TxV1 hX, E2, eq1]
      rfl
    cases ok with
    | false =>
      refine ⟨false, i2, C1, c1, by omega, a2, fun h => Bool.noConfusion h, fun μ w H => ?_, fun ν p q H ho => ?_⟩
      · obtain ⟨μ1, w1, f1, f2, E1⟩ := CSTEP μ w H
        obtain ⟨μ2, f3, E2⟩ := c_cdl0 (g := g) hX f2 (fN_X1_takeCondition g lc) (nI 1) (nI (q0 + 1))
        exact ⟨μ2, w1, fun h => Bool.noConfusion h, f3, fun la n k => by rw [E1, E2]⟩
      · obtain ⟨ν1, p1, q1, g1, g2, g3, E1⟩ := NM ν (tw_tp B e (i + 1)) (tw_tg B e i) H (tw_on_p _ _ _)
        refine ⟨ν1, p1, q1, fun h => Bool.noConfusion h, g2, g3, fun la n k => tw_lp_exit (fun rec => ?_)⟩
        rw [mb_Wp (tw_mfr_M H.1 hM) (tw_mfr_G H.1 hGm b168) b168 GS ks_RX12_215 wo ho, if_pos ns, A_if, if_neg n10, MoV0 hm, tw_aal_e, MoV0 hm, E1, A_if, if_pos (show tw_bo false = 0 from rfl), hz0, A_if, if_pos rfl, hz0]
        rfl
    | true =>
      obtain ⟨b1, b2, b3, b4⟩ := a3 rfl
      obtain ⟨ok2, i3, C2, c2, q2, d1, d2, d3, LC, LM⟩ := b_andL (c0 := c) hT hX GS hA hGc hM hGm HA hd hlc tt i2 C1 c1 (q0 + 1) (by omega) a2 (by omega) (by omega) (by omega) (tw_sA_mono b4 (by omega))
      cases ok2 with
      | false =>
        refine ⟨false, i3, C2, c2, by omega, d2, fun h => Bool.noConfusion h, fun μ w H => ?_, fun ν p q H ho => ?_⟩
        · obtain ⟨μ1, w1, f1, f2, E1⟩ := CSTEP μ w H
          obtain ⟨μ2, w2, f3, f4, E2⟩ := LC (nI 1) μ1 w1 (f1 rfl)
          obtain ⟨μ3, f5, E3⟩ := c_cdl0 (g := g) hX f4 (fN_X1_takeCondition g lc) (nI 1) (nI q2)
          exact ⟨μ3, w2, fun h => Bool.noConfusion h, f5, fun la n k => by rw [E1, E2, E3]⟩
        · obtain ⟨ν1, p1, q1, g1, g2, g3, E1⟩ := NM ν (tw_tp B e (i + 1)) (tw_tg B e i) H (tw_on_p _ _ _)
          obtain ⟨g4, g5⟩ := g1 rfl
          obtain ⟨ν2, p2, q2', g6, g7, g8, E2⟩ := LM ν1 p1 q1 g4 g5
          refine ⟨ν2, p2, q2', fun h => Bool.noConfusion h, g7, g8, fun la n k => tw_lp_exit (fun rec => ?_)⟩
          rw [mb_Wp (tw_mfr_M H.1 hM) (tw_mfr_G H.1 hGm b168) b168 GS ks_RX12_215 wo ho, if_pos ns, A_if, if_neg n10, MoV0 hm, tw_aal_e, MoV0 hm, E1, A_if, if_neg bt, E2, A_if, if_pos (show tw_bo false = 0 from rfl), hz0]
          rfl
      | true =>
        obtain ⟨x1, x2, x3, x4, x5, x6⟩ := d3 rfl
        have cc1 := x2.1
        have hcm : tw_cok C (tw_uc C2 c2 (16, 0)) c (c2 + 1) := tw_cok_t (tw_cok_t b3 x2) (tw_cok_1 (by decide) (by decide))
        have hsg : tw_sA (tw_uc C2 c2 (16, 0)) c0 (c2 + 1 - c0) true (5 + 2 * r) := by
          have s1 : tw_sA (tw_uc C2 c2 (16, 0)) c0 (c - c0) true (5 + 2 * r) := tw_sA_congr (fun j h6 h7 => by rw [tw_uc_n (by omega), x2.2.1 j (by omega)]; exact (b3.2.1 j (by omega)).symm) hs
          have s2 : tw_sA (tw_uc C2 c2 (16, 0)) (c0 + (c - c0)) (c2 - c) true (4 + 2 * r) := by
            rw [show c0 + (c - c0) = c by omega]
            exact tw_sA_congr (fun j h6 h7 => by rw [tw_uc_n (by omega)]) x3
          have ec : tw_uc C2 c2 (16, 0) (c0 + (c - c0) + (c2 - c)) = (16, 0) := by
            rw [show c0 + (c - c0) + (c2 - c) = c2 by omega]; exact tw_uc_a
          have s3 := tw_sA_bin (b2 := true) s1 s2 (by rw [ec]; decide) (by rw [ec]; decide) (by rw [ec]; decide) (fun _ => rfl) (fun _ => by rw [ec]; decide) (by omega)
          rw [show c2 + 1 - c0 = c - c0 + (c2 - c) + 1 by omega]
          exact tw_sA_mono s3 (by omega)
        obtain ⟨ok3, i4, C3, c3, y1, y2, y3, KC, KM⟩ := ih (tt - i3) (by omega) i3 (tw_uc C2 c2 (16, 0)) (c2 + 1) q2 1 (Nat.le_refl _) d2 (by omega) (by omega) (by omega) x6 (Nat.le_refl _) (fun _ => tw_uc_a) hsg
        refine ⟨ok3, i4, C3, c3, by omega, y2, fun h => ⟨tw_cok_t hcm (y3 h).1, (y3 h).2.1, by have := (y3 h).2.2; omega⟩, fun μ w H => ?_, fun ν p q H ho => ?_⟩
        · obtain ⟨μ1, w1, f1, f2, E1⟩ := CSTEP μ w H
          obtain ⟨μ2, w2, f3, f4, E2⟩ := LC (nI 1) μ1 w1 (f1 rfl)
          obtain ⟨μ3, w3, f5, f6, E3⟩ := KC μ2 w2 (tw_cs_congr (f3 rfl) (fun j hj => tw_uc_n hj))
          exact ⟨μ3, w3, f5, f6, fun la n k => by rw [E1, E2]; exact E3 la n k⟩
        · obtain ⟨ν1, p1, q1, g1, g2, g3, E1⟩ := NM ν (tw_tp B e (i + 1)) (tw_tg B e i) H (tw_on_p _ _ _)
          obtain ⟨g4, g5⟩ := g1 rfl
          obtain ⟨ν2, p2, q2', g6, g7, g8, E2⟩ := LM ν1 p1 q1 g4 g5
          obtain ⟨g9, g10⟩ := g6 rfl
          obtain ⟨ν3, g11, E3⟩ := m_emit (v := (16 : Int32)) (w := (0 : Int32)) (u := (16, 0)) hm g9 (by omega) rfl rfl
          obtain ⟨ν4, p4, q4, g12, g13, g14, E4⟩ := KM ν3 p2 q2' g11 g10
          refine ⟨ν4, p4, q4, g12, g13, g14, fun la n k => ?_⟩
          rw [← E4 la n k]
          refine tw_lp_step (fun rec => ?_)
          rw [mb_Wp (tw_mfr_M H.1 hM) (tw_mfr_G H.1 hGm b168) b168 GS ks_RX12_215 wo ho, if_pos ns, A_if, if_neg n10, MoV0 hm, tw_aal_e, MoV0 hm, E1, A_if, if_neg bt, E2, A_if, if_neg bt, MoV0 hm, E3]
  · refine ⟨true, i, C, c, Nat.le_refl _, h2, fun _ => ⟨⟨Nat.le_refl _, fun _ _ => rfl, fun j a b => by omega⟩, hs, Nat.le_refl _⟩, fun μ w H => ?_, fun ν p q H ho => ⟨ν, tw_tg B e i, tw_tg B e i, fun _ => ⟨H, tw_on_g _ _ _⟩, fun h => Bool.noConfusion h, H.1, fun la n k => tw_lp_exit (fun rec => ?_)⟩⟩
    · obtain ⟨μ1, H1, E1⟩ := c_owS hX H how (by omega) (by omega) hC
      refine ⟨μ1, w, fun _ => H1, tw_cs_w H1, fun la n k => ?_⟩
      refine tw_lp_exit (fun rec => ?_)
      rw [A_jn, A_if, if_neg bt, A_if, if_pos hlt, cb_W (tw_cfr_A H.1 hA) (tw_cfr_G H.1 hGc) (by omega) cis GS ks_RX1_65 wa h2, if_neg na, A_jn, A_if, if_pos e00, cb_W (tw_cfr_A H.1 hA) (tw_cfr_G H.1 hGc) (by omega) cis GS ks_RX1_71 wo h2, if_neg ns, A_if, if_pos e00]
      dsimp only
      rw [TxV1 hX, E1, tw_rz_b]
    · rw [mb_Wp (tw_mfr_M H.1 hM) (tw_mfr_G H.1 hGm b168) b168 GS ks_RX12_215 wo ho, if_neg ns, A_if, if_pos e00, hz1]
      rfl
theorem b_cond (hT : tw_tx B e tt) (hX : tw_Tx sh b) (GS : tw_GS g G b) (hA : tw_Ab sh μ0 (b + 144) (b + 1) B e tt) (hGc : tw_GH G sh μ0 b) (hM : tw_Mt s2 ν0 (b + 168) B e) (hGm : tw_GH G s2 ν0 b) (HA : tw_PA sh s2 g b μ0 ν0 B e tt r) : tw_PC sh s2 g b μ0 ν0 B e tt r := by
  intro i C c d lc hd hlc hi hc
  have n10 : ¬ (nI 1) = (0 : Int32) := by decide
  have bt : ¬ tw_bo true = (0 : Int32) := n10
  have hz0 : ∀ F M, tw_rz (0 : Int32) F M = F M := fun F M => tw_rz_b (ok := false) F M
  have hm := hM.1
  have e00 : (nI 0) = (0 : Int32) := rfl
  obtain ⟨ok, i2, C1, c1, a1, a2, a3, NC, NM⟩ := tw_PA_1 (C := C) (c := c) (i := i) HA hd hlc hi hc
  have HEAD : ∀ k la n μ i w, fN_X1_takeCondition g (lc + 1) (b + 144) (nI d) k (sh, tw_cwf μ (b + 144) i w, la, n) = f_X1_takeAtom g (fN_X1_takeCondition g lc) (b + 144) (nI d) (fun x1 => tw_cdl g (fN_X1_takeCondition g lc) (b + 144) (nI d) k (x1, (0 : Int32), (0 : Int32))) (sh, tw_cwf μ (b + 144) i w, la, n) := fun k la n μ i w => by
    show f_X1_takeCondition g (fN_X1_takeCondition g lc) (b + 144) (nI d) k _ = _
    rw [tw_cdl_e, TxV1 hX]
  have HEAM : ∀ k la n ν p q, f_X12_readCond g (fN_X12_readAtom g (r + 2)) (b + 168) k (s2, tw_pb ν (b + 168) p q, la, n) = fN_X12_readAtom g (r + 2) (b + 168) (fun x1 => tw_if (x1 = 0) (tw_rz (0 : Int32) (tw_if ((0 : Int32) = 0) (tw_rz (0 : Int32) (k (0 : Int32))) (tw_orl g (fN_X12_readAtom g (r + 2)) (b + 168) k ()))) (tw_aal g (fN_X12_readAtom g (r + 2)) (b + 168) (fun x1 => tw_if (x1 = 0) (tw_rz (0 : Int32) (k (0 : Int32))) (tw_orl g (fN_X12_readAtom g (r + 2)) (b + 168) k ())) ())) (s2, tw_pb ν (b + 168) p q, la, n) := fun k la n ν p q => by
    rw [tw_orl_e, MoV0 hm, tw_aal_e, MoV0 hm]
  cases ok with
  | false =>
    refine ⟨false, i2, C1, c1, a1, a2, fun h => Bool.noConfusion h, fun μ w H => ?_, fun ν p q H ho => ?_⟩
    · obtain ⟨μ1, w1, f1, f2, E1⟩ := NC μ w H
      obtain ⟨μ2, f3, E2⟩ := c_cdl0 (g := g) hX f2 (fN_X1_takeCondition g lc) 0 0
      exact ⟨μ2, w1, fun h => Bool.noConfusion h, f3, fun la n k => by rw [HEAD, E1, E2]⟩
    · obtain ⟨ν1, p1, q1, g1, g2, g3, E1⟩ := NM ν p q H ho
      refine ⟨ν1, p1, q1, fun h => Bool.noConfusion h, g2, g3, fun la n k => ?_⟩
      rw [HEAM, E1, A_if, if_pos (show tw_bo false = 0 from rfl), hz0, A_if, if_pos rfl, hz0]
      rfl
  | true =>
    obtain ⟨b1, b2, b3, b4⟩ := a3 rfl
    obtain ⟨ok2, i3, C2, c2, q2, d1, d2, d3, LC, LM⟩ := b_andL (c0 := c) hT hX GS hA hGc hM hGm HA hd hlc tt i2 C1 c1 0 (by omega) a2 (by omega) (by omega) (by omega) (tw_sA_mono b4 (by omega))
    cases ok2 with
    | false =>
      refine ⟨false, i3, C2, c2, by omega, d2, fun h => Bool.noConfusion h, fun μ w H => ?_, fun ν p q H ho => ?_⟩
      · obtain ⟨μ1, w1, f1, f2, E1⟩ := NC μ w H
        obtain ⟨μ2, w2, f3, f4, E2⟩ := LC 0 μ1 w1 (f1 rfl)
        obtain ⟨μ3, f5, E3⟩ := c_cdl0 (g := g) hX f4 (fN_X1_takeCondition g lc) 0 (nI q2)
        refine ⟨μ3, w2, fun h => Bool.noConfusion h, f5, fun la n k => ?_⟩
        rw [HEAD, E1, ← E3 i3 w2 la n (nI d) k]
        exact E2 la n k
      · obtain ⟨ν1, p1, q1, g1, g2, g3, E1⟩ := NM ν p q H ho
        obtain ⟨g4, g5⟩ := g1 rfl
        obtain ⟨ν2, p2, q2', g6, g7, g8, E2⟩ := LM ν1 p1 q1 g4 g5
        refine ⟨ν2, p2, q2', fun h => Bool.noConfusion h, g7, g8, fun la n k => ?_⟩
        rw [HEAM, E1, A_if, if_neg bt, E2, A_if, if_pos (show tw_bo false = 0 from rfl), hz0]
        rfl
    | true =>
      obtain ⟨x1, x2, x3, x4, x5, x6⟩ := d3 rfl
      have cc1 := x2.1
      obtain ⟨ok3, i4, C3, c3, y1, y2, y3, KC, KM⟩ := b_orL (c0 := c) hT hX GS hA hGc hM hGm HA hd hlc tt i3 C2 c2 q2 0 (by omega) d2 (by omega) (by omega) (by omega) x6 (by omega) (fun h => by omega) (tw_sA_mono x3 (by omega))
      refine ⟨ok3, i4, C3, c3, by omega, y2, fun h => ?_, fun μ w H => ?_, fun ν p q H ho => ?_⟩
      · obtain ⟨z1, z2, z3⟩ := y3 h
        have := z1.1
        exact ⟨by omega, by omega, tw_cok_t b3 (tw_cok_t x2 z1), z2⟩
      · obtain ⟨μ1, w1, f1, f2, E1⟩ := NC μ w H
        obtain ⟨μ2, w2, f3, f4, E2⟩ := LC 0 μ1 w1 (f1 rfl)
        obtain ⟨μ3, w3, f5, f6, E3⟩ := KC μ2 w2 (f3 rfl)
        refine ⟨μ3, w3, f5, f6, fun la n k => ?_⟩
        rw [HEAD, E1, ← E3 la n k]
        exact E2 la n k
      · obtain ⟨ν1, p1, q1, g1, g2, g3, E1⟩ := NM ν p q H ho
        obtain ⟨g4, g5⟩ := g1 rfl
        obtain ⟨ν2, p2, q2', g6, g7, g8, E2⟩ := LM ν1 p1 q1 g4 g5
        obtain ⟨g9, g10⟩ := g6 rfl
        obtain ⟨ν3, p3, q3, g11, g12, g13, E3⟩ := KM ν2 p2 q2' g9 g10
        refine ⟨ν3, p3, q3, g11, g12, g13, fun la n k => ?_⟩
        rw [HEAM, E1, A_if, if_neg bt, E2, A_if, if_neg bt, E3]
theorem b_PA (hT : tw_tx B e tt) (hX : tw_Tx sh b) (GS : tw_GS g G b) (hA : tw_Ab sh μ0 (b + 144) (b + 1) B e tt) (hGc : tw_GH G sh μ0 b) (hM : tw_Mt s2 ν0 (b + 168) B e) (hGm : tw_GH G s2 ν0 b) : ∀ r, tw_PA sh s2 g b μ0 ν0 B e tt r
  | 0 => b_atom0 hT hX GS hA hGc hM hGm
  | r + 1 => b_atomS hT hX GS hA hGc hM hGm (b_PA hT hX GS hA hGc hM hGm r) (b_cond hT hX GS hA hGc hM hGm (b_PA hT hX GS hA hGc hM hGm r))
/-- a whole condition -/
theorem b_condT (hT : tw_tx B e tt) (hX : tw_Tx sh b) (GS : tw_GS g G b) (hA : tw_Ab sh μ0 (b + 144) (b + 1) B e tt) (hGc : tw_GH G sh μ0 b) (hM : tw_Mt s2 ν0 (b + 168) B e) (hGm : tw_GH G s2 ν0 b) (hi : i ≤ tt) (hc : c + 2 ≤ i) : ∃ ok i' C' c', i ≤ i' ∧ i' ≤ tt ∧ (ok = true → c' + i ≤ c + i' ∧ c < c' ∧ tw_cok C C' c c' ∧ tw_sA C' c (c' - c) true 17) ∧ tw_nc sh b μ0 C c i ok i' C' c' (fN_X1_takeCondition g 8 (b + 144) (nI 0)) ∧ tw_nm s2 (b + 168) ν0 B e C c 0 i ok i' C' c' (f_X12_readCond g (fN_X12_readAtom g 8) (b + 168)) :=
  b_cond hT hX GS hA hGc hM hGm (b_PA hT hX GS hA hGc hM hGm 6) i C c 0 7 (by omega) (by omega) hi hc
end P99t
