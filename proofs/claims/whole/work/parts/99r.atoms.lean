/-! ===== pure: the law's text, atoms ===== -/
theorem tw_nts_s (C : Nat → Nat × Nat) (c : Nat) : ∀ j, tw_nts C c (j + 1) = tw_nts (tw_uc C c (14, 0)) (c + 1) j
  | 0 => rfl
  | j + 1 => by
    show tw_uc (tw_nts C c (j + 1)) (c + (j + 1)) (14, 0) = tw_uc (tw_nts (tw_uc C c (14, 0)) (c + 1) j) (c + 1 + j) (14, 0)
    rw [tw_nts_s C c j, show c + (j + 1) = c + 1 + j by omega]
def tw_PA (sh s2 : tw_Sh) (g : tw_Gx) (b : Nat) (μ0 ν0 : Nat → Nat → Int32) (B : Nat → Nat) (e tt r : Nat) : Prop := ∀ i C c d lc, d + r = 6 → r + 1 ≤ lc → i ≤ tt → c + 2 ≤ i → ∃ ok i' C' c', i ≤ i' ∧ i' ≤ tt ∧ (ok = true → c' + i ≤ c + i' ∧ c < c' ∧ tw_cok C C' c c' ∧ tw_sA C' c (c' - c) true (3 + 2 * r)) ∧ (∀ a1, a1 ≤ d → c + 2 + (d - a1) ≤ i → ∀ μ w, tw_cs b μ0 μ C c → ∃ μ' w', (ok = true → tw_cs b μ0 μ' (tw_nts C' c' (d - a1)) (c' + (d - a1))) ∧ tw_cwk b μ0 μ' ∧ ∀ la n k, tw_atl g (fN_X1_takeCondition g lc) (b + 144) (nI a1) k (nI d) (sh, tw_cwf μ (b + 144) i w, la, n) = k (tw_bo ok) (sh, tw_cwf μ' (b + 144) i' w', la, n)) ∧ tw_nm s2 (b + 168) ν0 B e C c d i ok i' C' c' (fN_X12_readAtom g (r + 2) (b + 168))
def tw_PC (sh s2 : tw_Sh) (g : tw_Gx) (b : Nat) (μ0 ν0 : Nat → Nat → Int32) (B : Nat → Nat) (e tt r : Nat) : Prop := ∀ i C c d lc, d + r = 6 → r + 1 ≤ lc → i ≤ tt → c + 2 ≤ i → ∃ ok i' C' c', i ≤ i' ∧ i' ≤ tt ∧ (ok = true → c' + i ≤ c + i' ∧ c < c' ∧ tw_cok C C' c c' ∧ tw_sA C' c (c' - c) true (5 + 2 * r)) ∧ tw_nc sh b μ0 C c i ok i' C' c' (fN_X1_takeCondition g (lc + 1) (b + 144) (nI d)) ∧ tw_nm s2 (b + 168) ν0 B e C c d i ok i' C' c' (f_X12_readCond g (fN_X12_readAtom g (r + 2)) (b + 168))
section P99r
variable {sh s2 : tw_Sh} {μ0 ν0 μ μ' ν : Nat → Nat → Int32} {la : Nat → Nat → Int64} {n a b x y m t tt e i lo c d cl p q p' q' z ix ix2 i' o h l r s c0 D : Nat} {G : tw_Gm} {g : tw_Gx} {B : Nat → Nat} {v w w' : Int32} {C : Nat → Nat × Nat} {u : Nat × Nat}
theorem tw_ms_83 {d' : Nat} (H : tw_ms m ν0 ν C c d) : tw_ms m ν0 (tw_up ν m 83 (nI d')) C c d' := by
  obtain ⟨⟨F1, F2, F3⟩, e86, e83, hcs⟩ := H
  refine ⟨⟨fun y h1 h2 => by rw [tw_up_ne h1]; exact F1 y h1 h2, fun q h1 h2 => by rw [tw_uk (by omega)]; exact F2 q h1 h2, fun q hq => by rw [tw_up_ne (by omega)]; exact F3 q hq⟩, by rw [tw_uk (by omega)]; exact e86, tw_ua, fun j hj => by rw [tw_up_ne (by omega)]; exact hcs j hj⟩
/-- what follows a leaf or a condition in brackets: the class's loop of NOTs, either way -/
theorem c_notsB (hX : tw_Tx sh b) {a1 : Nat} {ok : Bool} (hd : d ≤ 6) (ha : a1 ≤ d) (h4 : ok = true → c + (d - a1) ≤ 400) (H : ok = true → tw_cs b μ0 μ C c) (Hw : tw_cwk b μ0 μ) : ∃ μ', (ok = true → tw_cs b μ0 μ' (tw_nts C c (d - a1)) (c + (d - a1))) ∧ tw_cwk b μ0 μ' ∧ ∀ i w la n (k : Int32 → tw_Mem → Prop), tw_lp (fun (r7 : Int32 → tw_Mem → Prop) (s8 : Int32) => tw_if (s8 < nI d) (tw_iv 1 (b + 144) (f_X1_addStep (b + 144) (21 : Int32) (fun u9 => r7 (s8 + (1 : Int32))))) (tw_rz (tw_bo ok) (k (tw_bo ok)))) (nI a1) (sh, tw_cwf μ (b + 144) i w, la, n) = k (tw_bo ok) (sh, tw_cwf μ' (b + 144) i w, la, n) := by
  cases ok with
  | false =>
    obtain ⟨μ', f1, E⟩ := c_notsW hX hd (d - a1) a1 μ (by omega) Hw
    exact ⟨μ', fun h => Bool.noConfusion h, f1, fun i w la n k => by rw [E, tw_rz_b]⟩
  | true =>
    obtain ⟨μ', f1, E⟩ := c_nots hX hd (d - a1) a1 C c μ (by omega) (h4 rfl) (H rfl)
    exact ⟨μ', fun _ => f1, tw_cs_w f1, fun i w la n k => by rw [E, tw_rz_b]⟩
/-- an atom that is a leaf -/
theorem b_atomL (hT : tw_tx B e tt) (hX : tw_Tx sh b) (GS : tw_GS g G b) (hA : tw_Ab sh μ0 (b + 144) (b + 1) B e tt) (hGc : tw_GH G sh μ0 b) (hM : tw_Mt s2 ν0 (b + 168) B e) (hGm : tw_GH G s2 ν0 b) (hi : i ≤ tt) (hc : c + 2 ≤ i) (hd : d ≤ 6) (q0 : ¬ tw_iW B e i "not") (q1 : ¬ tw_iS B e i 40) (rR : Nat → Int32 → (Int32 → tw_Mem → Prop) → tw_Mem → Prop) (rM : Nat → (Int32 → tw_Mem → Prop) → tw_Mem → Prop) : ∃ ok i' C' c', i ≤ i' ∧ i' ≤ tt ∧ (ok = true → c' + i ≤ c + i' ∧ c < c' ∧ tw_cok C C' c c' ∧ tw_sA C' c (c' - c) true 3) ∧ (∀ a1, a1 ≤ d → c + 2 + (d - a1) ≤ i → ∀ μ w, tw_cs b μ0 μ C c → ∃ μ' w', (ok = true → tw_cs b μ0 μ' (tw_nts C' c' (d - a1)) (c' + (d - a1))) ∧ tw_cwk b μ0 μ' ∧ ∀ la n k, tw_atl g rR (b + 144) (nI a1) k (nI d) (sh, tw_cwf μ (b + 144) i w, la, n) = k (tw_bo ok) (sh, tw_cwf μ' (b + 144) i' w', la, n)) ∧ tw_nm s2 (b + 168) ν0 B e C c d i ok i' C' c' (f_X12_readAtom g rM (b + 168)) := by
  have e00 : (nI 0) = (0 : Int32) := rfl
  have he4 := hT.2.1
  have ht4 := hT.1
  have hm := hM.1
  have cis := of_eq_true (Tx_is1 hX)
  have wn : "not" ∈ tw_words := by decide
  have b168 : b ≤ b + 168 := by omega
  have l40 : (40 : Int32) = nI 40 := rfl
  obtain ⟨ok, i', C', c', a1, a2, a3, NC, NM⟩ := b_leaf (d := d) (C := C) hT hX GS hA hGc hM hGm hi hc
  refine ⟨ok, i', C', c', a1, a2, a3, fun z hz hcz μ w H => ?_, fun ν p q H ho => ?_⟩
  · obtain ⟨μ1, w1, f1, f2, E1⟩ := NC μ w H
    obtain ⟨μ2, f3, f4, E2⟩ := c_notsB (C := C') (c := c') (ok := ok) hX hd hz (fun h => by have := (a3 h).1; omega) f1 f2
    refine ⟨μ2, w1, f3, f4, fun la n k => ?_⟩
    unfold tw_atl
    refine tw_lp_exit (fun rec => ?_)
    have hA' := tw_cfr_A H.1 hA
    have hG' := tw_cfr_G H.1 hGc
    by_cases h6 : nI d < (6 : Int32)
    · rw [A_jn, A_if, if_pos h6, cb_W hA' hG' (by omega) cis GS ks_RX1_77 wn hi, if_neg q0, A_if, if_pos e00]
      dsimp only
      rw [A_jn, A_jn, A_if, if_pos h6, TxV1 hX, l40, cb_S hA' (by omega) hi, if_neg q1, A_if, if_pos e00]
      dsimp only
      rw [E1]
      exact E2 i' w1 la n k
    · rw [A_jn, A_if, if_neg h6]
      dsimp only
      rw [A_jn, A_jn, A_if, if_neg h6]
      dsimp only
      rw [E1]
      exact E2 i' w1 la n k
  · have hM' := tw_mfr_M H.1 hM
    have hG' := tw_mfr_G H.1 hGm b168
    obtain ⟨ν1, p1, q1', g1, g2, g3, E1⟩ := NM ν (tw_tg B e i) (tw_tg B e i) H (tw_on_g _ _ _)
    refine ⟨ν1, p1, q1', g1, g2, g3, fun la n k => ?_⟩
    unfold f_X12_readAtom
    rw [MoV0 hm, l40, m_sign1 hM' ho (by omega) (by omega) (by omega) (by omega), if_neg q1, A_if, if_pos e00, mb_Wp hM' hG' b168 GS ks_RX12_199 wn (tw_on_g _ _ _), if_neg q0, A_if, if_pos e00]
    exact E1 la n k
end P99r
