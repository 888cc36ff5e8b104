/-! ===== pure: the law's text, atoms: what stands around them ===== -/
def tw_nts (C : Nat → Nat × Nat) (c : Nat) : Nat → Nat → Nat × Nat
  | 0 => C
  | j + 1 => tw_uc (tw_nts C c j) (c + j) (14, 0)
/-- the loop of an atom, the class -/
def tw_atl (g : tw_Gx) (rR : Nat → Int32 → (Int32 → tw_Mem → Prop) → tw_Mem → Prop) (a0 : Nat) (a1 : Int32) (k : Int32 → tw_Mem → Prop) : Int32 → tw_Mem → Prop := tw_lp (fun (r1 : Int32 → tw_Mem → Prop) (s2 : Int32) => tw_jn (fun (s4 : Unit) => tw_jn (fun (s6 : Int32) => tw_lp (fun (r7 : Int32 → tw_Mem → Prop) (s8 : Int32) => tw_if (s8 < s2) (tw_iv 1 a0 (f_X1_addStep a0 (21 : Int32) (fun u9 => r7 (s8 + (1 : Int32))))) (tw_rz s6 (k s6))) a1) (fun j5 => tw_jn (fun (s11 : Unit) => tw_lfc g a0 j5) (fun j10 => tw_if (s2 < (6 : Int32)) (tw_iv 1 a0 (f_X7_takeSign a0 (40 : Int32) (fun x30 => tw_if (x30 = 0) (j10 ()) (tw_iv 1 a0 (rR a0 (s2 + (1 : Int32)) (fun x31 => tw_jn (fun (s33 : Int32) => j5 s33) (fun j32 => tw_jn (fun (s35 : Unit) => j32 (0 : Int32)) (fun j34 => tw_if (x31 = 0) (j34 ()) (tw_iv 1 a0 (f_X7_takeSign a0 (41 : Int32) (fun x36 => tw_if (x36 = 0) (j34 ()) (j32 (1 : Int32))))))))))))) (j10 ())))) (fun j3 => tw_if (s2 < (6 : Int32)) (tw_ls g RX1 77 "not" fun t37 => tw_iv 1 a0 (f_X7_takeWord a0 t37 (fun x38 => tw_if (x38 = 0) (j3 ()) (r1 (s2 + (1 : Int32)))))) (j3 ())))
theorem tw_atl_e (g : tw_Gx) (rR : Nat → Int32 → (Int32 → tw_Mem → Prop) → tw_Mem → Prop) (a0 : Nat) (a1 : Int32) (k : Int32 → tw_Mem → Prop) : f_X1_takeAtom g rR a0 a1 k = tw_atl g rR a0 a1 k a1 := rfl
theorem tw_wc_n : tw_wc "not" ≠ tw_wc "sworn" ∧ tw_wc "not" ≠ tw_wc "near" ∧ tw_wc "not" ≠ tw_wc "rang" ∧ tw_wc "not" ≠ tw_wc "one" ∧ tw_wc "not" ≠ tw_wc "other" ∧ tw_wc "not" ≠ tw_wc "guess" ∧ tw_wc "not" ≠ tw_wc "back" ∧ tw_wc "not" ≠ tw_wc "rung" ∧ tw_wc "not" ≠ tw_wc "hour" ∧ tw_wc "not" ≠ tw_wc "day" := by decide +kernel
section P99q
variable {sh s2 : tw_Sh} {μ0 ν0 μ μ' ν : Nat → Nat → Int32} {la : Nat → Nat → Int64} {n a b x y m t tt e i lo c d cl p q p' q' z ix ix2 i' o h l r s c0 D : Nat} {G : tw_Gm} {g : tw_Gx} {B : Nat → Nat} {v w w' : Int32} {C : Nat → Nat × Nat} {u : Nat × Nat}
theorem c_nots (hX : tw_Tx sh b) (hD : D ≤ 6) : ∀ j z C c μ, z + j = D → c + j ≤ 400 → tw_cs b μ0 μ C c → ∃ μ', tw_cs b μ0 μ' (tw_nts C c j) (c + j) ∧ ∀ i w la n (k : Int32 → tw_Mem → Prop) (s6 : Int32), tw_lp (fun (r7 : Int32 → tw_Mem → Prop) (s8 : Int32) => tw_if (s8 < nI D) (tw_iv 1 (b + 144) (f_X1_addStep (b + 144) (21 : Int32) (fun u9 => r7 (s8 + (1 : Int32))))) (tw_rz s6 (k s6))) (nI z) (sh, tw_cwf μ (b + 144) i w, la, n) = tw_rz s6 (k s6) (sh, tw_cwf μ' (b + 144) i w, la, n) := by
  have key : ∀ j z C c μ J C0, z + J = D → tw_cs b μ0 μ (tw_nts C0 c j) (c + j) → c + j + J ≤ 400 → C = C0 → ∃ μ', tw_cs b μ0 μ' (tw_nts C0 c (j + J)) (c + (j + J)) ∧ ∀ i w la n (k : Int32 → tw_Mem → Prop) (s6 : Int32), tw_lp (fun (r7 : Int32 → tw_Mem → Prop) (s8 : Int32) => tw_if (s8 < nI D) (tw_iv 1 (b + 144) (f_X1_addStep (b + 144) (21 : Int32) (fun u9 => r7 (s8 + (1 : Int32))))) (tw_rz s6 (k s6))) (nI z) (sh, tw_cwf μ (b + 144) i w, la, n) = tw_rz s6 (k s6) (sh, tw_cwf μ' (b + 144) i w, la, n) := by
    intro j z C c μ J
    induction J generalizing j z μ with
    | zero =>
      intro C0 hz H hc _
      have hlt : ¬ nI z < nI D := by rw [nz_lt (by omega) (by omega)]; omega
      exact ⟨μ, H, fun i w la n k s6 => tw_lp_exit (fun rec => by rw [A_if, if_neg hlt])⟩
    | succ J ih =>
      intro C0 hz H hc hC
      have hlt : nI z < nI D := by rw [nz_lt (by omega) (by omega)]; omega
      have e1 : nI z + (1 : Int32) = nI (z + 1) := nI_add z 1
      obtain ⟨μ1, H1, E1⟩ := c_addS (v := (21 : Int32)) (u := (14, 0)) hX H (by omega) rfl
      obtain ⟨μ2, H2, E2⟩ := ih (j + 1) (z + 1) μ1 C0 (by omega) H1 (by omega) hC
      refine ⟨μ2, by rw [show j + (J + 1) = j + 1 + J by omega]; exact H2, fun i w la n k s6 => ?_⟩
      rw [← E2 i w la n k s6]
      refine tw_lp_step (fun rec => ?_)
      rw [A_if, if_pos hlt, TxV1 hX, E1, e1]
  intro j z C c μ hz hc H
  obtain ⟨μ', H2, E⟩ := key 0 z C c μ j C hz H (by omega) rfl
  rw [Nat.zero_add] at H2
  exact ⟨μ', H2, E⟩
theorem c_notsW (hX : tw_Tx sh b) (hD : D ≤ 6) : ∀ j z μ, z + j = D → tw_cwk b μ0 μ → ∃ μ', tw_cwk b μ0 μ' ∧ ∀ i w la n (k : Int32 → tw_Mem → Prop) (s6 : Int32), tw_lp (fun (r7 : Int32 → tw_Mem → Prop) (s8 : Int32) => tw_if (s8 < nI D) (tw_iv 1 (b + 144) (f_X1_addStep (b + 144) (21 : Int32) (fun u9 => r7 (s8 + (1 : Int32))))) (tw_rz s6 (k s6))) (nI z) (sh, tw_cwf μ (b + 144) i w, la, n) = tw_rz s6 (k s6) (sh, tw_cwf μ' (b + 144) i w, la, n) := by
  intro j
  induction j with
  | zero =>
    intro z μ hz H
    have hlt : ¬ nI z < nI D := by rw [nz_lt (by omega) (by omega)]; omega
    exact ⟨μ, H, fun i w la n k s6 => tw_lp_exit (fun rec => by rw [A_if, if_neg hlt])⟩
  | succ j ih =>
    intro z μ hz H
    have hlt : nI z < nI D := by rw [nz_lt (by omega) (by omega)]; omega
    have e1 : nI z + (1 : Int32) = nI (z + 1) := nI_add z 1
    obtain ⟨μ1, H1, E1⟩ := c_addW hX H (21 : Int32)
    obtain ⟨μ2, H2, E2⟩ := ih (z + 1) μ1 (by omega) H1
    refine ⟨μ2, H2, fun i w la n k s6 => ?_⟩
    rw [← E2 i w la n k s6]
    refine tw_lp_step (fun rec => ?_)
    rw [A_if, if_pos hlt, TxV1 hX, E1, e1]
/-- where `(` or `not` stands, no flag and no comparison does -/
theorem c_leaf0 (hT : tw_tx B e tt) (hX : tw_Tx sh b) (GS : tw_GS g G b) (hA : tw_Ab sh μ0 (b + 144) (b + 1) B e tt) (hGc : tw_GH G sh μ0 b) (hi : i ≤ tt) (hk : tw_kd B e i = 3 ∨ tw_iW B e i "not") (H : tw_cwk b μ0 μ) (w : Int32) : ∃ μ', tw_cwk b μ0 μ' ∧ ∀ la n K, tw_lfc g (b + 144) K (sh, tw_cwf μ (b + 144) i w, la, n) = K 0 (sh, tw_cwf μ' (b + 144) i w, la, n) := by
  have e00 : (nI 0) = (0 : Int32) := rfl
  have hz0 : ∀ F M, tw_rz (0 : Int32) F M = F M := fun F M => tw_rz_b (ok := false) F M
  have cis := of_eq_true (Tx_is1 hX)
  obtain ⟨c, hfr, h18, hc4⟩ := H
  have hA' := tw_cfr_A hfr hA
  have hG' := tw_cfr_G hfr hGc
  have ne : ∀ tx, tw_wc "not" ≠ tw_wc tx → ¬ tw_iW B e i tx := fun tx hne h => by
    rcases hk with hk | hk
    · have := h.1; omega
    · exact hne (hk.2.symm.trans h.2)
  have nn : ¬ tw_iN B e i 0 999 := fun h => by
    have h1 := h.1
    rcases hk with hk | hk
    · omega
    · have := hk.1; omega
  obtain ⟨n1, n2, n3, n4, n5, n6, n7, n8, n9, n0⟩ := tw_wc_n
  obtain ⟨μ1, H1, E1⟩ := c_addW hX (⟨c, hfr, h18, hc4⟩ : tw_cwk b μ0 μ) (18 : Int32)
  refine ⟨μ1, H1, fun la n K => ?_⟩
  unfold tw_lfc f_X1_takeFlag f_X1_takeSum f_X1_takePart
  rw [TxV1 hX, cb_W hA' hG' (by omega) cis GS ks_RX1_90 (by decide) hi, if_neg (ne _ n1), A_if, if_pos e00, cb_W hA' hG' (by omega) cis GS ks_RX1_94 (by decide) hi, if_neg (ne _ n2), A_if, if_pos e00, cb_W hA' hG' (by omega) cis GS ks_RX1_96 (by decide) hi, if_neg (ne _ n3), A_if, if_pos e00, hz0]
  show tw_if ((0 : Int32) = 0) _ _ _ = _
  rw [A_if, if_pos rfl, TxV1 hX, TxV1 hX, TxV1 hX, cb_N0 hA' hi, if_neg nn, A_if, if_pos e00, cb_W hA' hG' (by omega) cis GS ks_RX1_101 (by decide) hi, if_neg (ne _ n4), A_if, if_pos e00, cb_W hA' hG' (by omega) cis GS ks_RX1_103 (by decide) hi, if_neg (ne _ n5), A_if, if_pos e00, cb_W hA' hG' (by omega) cis GS ks_RX1_54 (by decide) hi, if_neg (ne _ n6), A_if, if_pos e00, cb_W hA' hG' (by omega) cis GS ks_RX1_105 (by decide) hi, if_neg (ne _ n7), A_if, if_pos e00, cb_W hA' hG' (by omega) cis GS ks_RX1_107 (by decide) hi, if_neg (ne _ n8), A_if, if_pos e00, cb_W hA' hG' (by omega) cis GS ks_RX1_109 (by decide) hi, if_neg (ne _ n9), A_if, if_pos e00, cb_W hA' hG' (by omega) cis GS ks_RX1_111 (by decide) hi, if_neg (ne _ n0), A_if, if_pos e00, hz0]
  refine tw_lp_exit (fun rec => ?_)
  rw [A_if, if_pos rfl, hz0]
  dsimp only
  rw [A_jn, A_jn, A_if, if_pos rfl]
  dsimp only
  rw [A_jn, A_jn, A_if, if_pos rfl]
  dsimp only
  rw [A_jn, A_if, if_pos rfl]
  dsimp only
  rw [TxV1 hX, E1]
end P99q
