/-! ===== pure: a town's text, line by line ===== -/
def tw_lq9 (sh : tw_Sh) (G : tw_Gm) (b : Nat) (B : Nat → Nat) (e p q i' : Nat) (ok : Bool) (T T' : Nat → Int32) (fm : (Int32 → tw_Mem → Prop) → tw_Mem → Prop) : Prop := ∀ ν, tw_Mt sh ν (b + 168) B e → tw_GH G sh ν b → ν (b + 168 + 1) = T → ∃ p' q', (ok = true → tw_on B e i' p') ∧ (ok = false → q' = tw_tg B e i') ∧ ∀ la n k, fm k (sh, tw_pb ν (b + 168) p q, la, n) = k (tw_bo ok) (sh, tw_pb (tw_ra ν (b + 168 + 1) T') (b + 168) p' q', la, n)
section P99i
variable {sh : tw_Sh} {μ μ' ν : Nat → Nat → Int32} {la : Nat → Nat → Int64} {n a b x y m t tt e i lo c cl p q p' q' z ix ix2 i' P o h l r s : Nat} {G : tw_Gm} {g : tw_Gx} {own own2 tx : String} {B : Nat → Nat} {v w w' : Int32} {T T' : Nat → Int32}
theorem tw_wc_p : tw_wc "person" ≠ tw_wc "guess" ∧ tw_wc "person" ≠ tw_wc "rope" ∧ tw_wc "person" ≠ tw_wc "doubt" ∧ tw_wc "person" ≠ tw_wc "hour" ∧ tw_wc "person" ≠ tw_wc "day" := by decide +kernel
theorem b_line (hT : tw_tx B e tt) (hX : tw_Tx sh b) (GS : tw_GS g G b) (W : tw_WF T P) (hi : i ≤ tt) : ∃ ok i' T' P', i ≤ i' ∧ i' ≤ tt ∧ (ok = true → i < i') ∧ tw_Li T T' P' ∧ tw_lc9 sh G b B e tt i i' ok T T' (f_X9_takeLine g (b + 140)) ∧ tw_lq9 sh G b B e (tw_tle B e (tw_tg B e i)) (tw_tg B e i) i' ok T T' (f_X12_readTownLine g (b + 168)) := by
  have n10 : ¬ (nI 1) = (0 : Int32) := by decide
  have e00 : (nI 0) = (0 : Int32) := rfl
  have hz0 : ∀ F M, tw_rz (0 : Int32) F M = F M := fun F M => tw_rz_b (ok := false) F M
  have hz1 : ∀ F M, tw_rz (1 : Int32) F M = F M := fun F M => tw_rz_b (ok := true) F M
  have w1 : "person" ∈ tw_words := by decide
  have w2 : "guess" ∈ tw_words := by decide
  have w3 : "rope" ∈ tw_words := by decide
  have w4 : "doubt" ∈ tw_words := by decide
  have w5 : "hour" ∈ tw_words := by decide
  have w6 : "day" ∈ tw_words := by decide
  have cis := of_eq_true (Tx_is0 hX)
  have h8 := W.2.1
  have hPc : ∀ μ w la n (k : Int32 → tw_Mem → Prop), tw_RC sh μ (b + 12) T → tw_gi 46 (b + 12) k (sh, tw_cwf μ (b + 140) i w, la, n) = k (nI P) (sh, tw_cwf μ (b + 140) i w, la, n) := fun μ w la n k H => by
    rw [tw_gi_is (of_eq_true (Tn_f46 H.1)), tw_cwf_n (by omega), Rc_46 H, W.1]
  by_cases qp : tw_iW B e i "person"
  · have i1 := tw_nx1 hT hi qp.1 (by omega)
    rcases Nat.lt_or_ge P 8 with hP | hP
    · have hP' : nI P < (8 : Int32) := by show nI P < nI 8; rw [nz_lt (by omega) (by omega)]; exact hP
      obtain ⟨ok, i', T', P', a1, a2, a3, C, M⟩ := l_person (i := i + 1) hT hX GS W hP i1
      refine ⟨ok, i', T', P', by omega, a2, fun _ => by omega, a3, fun μ w hA hG H => ?_, fun ν hM hG hT1 => ?_⟩
      · obtain ⟨μ', w', b1, b2, E⟩ := C μ w hA hG H
        refine ⟨μ', w', b1, b2, fun la n k => ?_⟩
        unfold f_X9_takeLine
        rw [TxG0_53 hX, hPc μ w la n _ H, A_jn, A_if, if_pos hP', cb_W hA hG (by omega) cis GS ks_RX9_21 w1 hi, if_pos qp, A_if, if_neg n10, TxV0 hX, E, tw_rz_b]
      · obtain ⟨p', q', b1, b2, E⟩ := M ν (tw_tg B e i) hM hG hT1
        refine ⟨p', q', b1, b2, fun la n k => ?_⟩
        unfold f_X12_readTownLine
        rw [mb_Wi hM hG (by omega) GS ks_RX12_142 w1, if_pos qp, A_if, if_neg n10, tw_tle_1 qp.1, MoV0 hM.1, E, tw_rz_b]
    · have hP' : ¬ nI P < (8 : Int32) := by show ¬ nI P < nI 8; rw [nz_lt (by omega) (by omega)]; omega
      have hP8 : nI P = (8 : Int32) := by show nI P = nI 8; congr 1; omega
      have ne : ∀ tx, tw_wc "person" ≠ tw_wc tx → ¬ tw_iW B e i tx := fun tx hne h => hne (qp.2.symm.trans h.2)
      refine ⟨false, i, T, P, Nat.le_refl _, hi, fun h => Bool.noConfusion h, tw_Li_r W, fun μ w hA hG H => ⟨μ, w, tw_fx_r, H, fun la n k => ?_⟩, fun ν hM hG hT1 => ⟨tw_tle B e (tw_tg B e i), tw_tg B e i, fun h => Bool.noConfusion h, fun _ => rfl, fun la n k => ?_⟩⟩
      · unfold f_X9_takeLine
        rw [TxG0_53 hX, hPc μ w la n _ H, A_jn, A_if, if_neg hP']
        show tw_ls g RX9 31 "guess" _ _ = _
        rw [cb_W hA hG (by omega) cis GS ks_RX9_31 w2 hi, if_neg (ne _ tw_wc_p.1), A_if, if_pos e00, cb_W hA hG (by omega) cis GS ks_RX9_36 w3 hi, if_neg (ne _ tw_wc_p.2.1), A_if, if_pos e00, cb_W hA hG (by omega) cis GS ks_RX9_41 w4 hi, if_neg (ne _ tw_wc_p.2.2.1), A_if, if_pos e00, cb_W hA hG (by omega) cis GS ks_RX9_46 w5 hi, if_neg (ne _ tw_wc_p.2.2.2.1), A_if, if_pos e00, cb_W hA hG (by omega) cis GS ks_RX9_51 w6 hi, if_neg (ne _ tw_wc_p.2.2.2.2), A_if, if_pos e00, hz0]
        rfl
      · unfold f_X12_readTownLine f_X12_readPerson
        rw [mb_Wi hM hG (by omega) GS ks_RX12_142 w1, if_pos qp, A_if, if_neg n10, MoV0 hM.1, MoV0 hM.1, m_people hM.1, tw_pb_n (by omega), hT1, W.1, A_if, if_pos hP8, hz0]
        show tw_rz 0 _ _ = _
        rw [hz0, ← hT1, tw_ra_s]
        rfl
  · -- not a person
    have CN : ∀ μ w, tw_Ab sh μ (b + 140) (b + 1) B e tt → tw_GH G sh μ b → tw_RC sh μ (b + 12) T → ∀ la n (K : Int32 → tw_Mem → Prop) (N Y : tw_Mem → Prop), tw_gi 46 (b + 12) (fun x2 => tw_jn (fun (s4 : Unit) => N) (fun j3 => tw_if (x2 < (8 : Int32)) (tw_ls g RX9 21 "person" fun t20 => tw_iv 8 (b + 140) (f_X7_takeWord (b + 140) t20 (fun x21 => tw_if (x21 = 0) (j3 ()) Y))) (j3 ()))) (sh, tw_cwf μ (b + 140) i w, la, n) = N (sh, tw_cwf μ (b + 140) i w, la, n) := fun μ w hA hG H la n K N Y => by
      rw [hPc μ w la n _ H, A_jn, A_if]
      by_cases hP' : nI P < (8 : Int32)
      · rw [if_pos hP', cb_W hA hG (by omega) cis GS ks_RX9_21 w1 hi, if_neg qp, A_if, if_pos e00]
      · rw [if_neg hP']
    by_cases q2 : tw_iW B e i "guess"
    · have i1 := tw_nx1 hT hi q2.1 (by omega)
      obtain ⟨ok, i', T', P', a1, a2, a3, C, M⟩ := l_guess (G := G) (i := i + 1) hT hX W i1
      refine ⟨ok, i', T', P', by omega, a2, fun _ => by omega, a3, fun μ w hA hG H => ?_, fun ν hM hG hT1 => ?_⟩
      · obtain ⟨μ', w', b1, b2, E⟩ := C μ w hA hG H
        refine ⟨μ', w', b1, b2, fun la n k => ?_⟩
        unfold f_X9_takeLine
        rw [TxG0_53 hX, CN μ w hA hG H la n k, cb_W hA hG (by omega) cis GS ks_RX9_31 w2 hi, if_pos q2, A_if, if_neg n10, TxV0 hX, E, tw_rz_b]
      · obtain ⟨p', q', b1, b2, E⟩ := M ν (tw_tg B e i) hM hG hT1
        refine ⟨p', q', b1, b2, fun la n k => ?_⟩
        unfold f_X12_readTownLine
        rw [mb_Wi hM hG (by omega) GS ks_RX12_142 w1, if_neg qp, A_if, if_pos e00, mb_Wi hM hG (by omega) GS ks_RX12_148 w2, if_pos q2, A_if, if_neg n10, tw_tle_1 q2.1, MoV0 hM.1, E, tw_rz_b]
    · by_cases q3 : tw_iW B e i "rope"
      · have i1 := tw_nx1 hT hi q3.1 (by omega)
        obtain ⟨ok, i', T', P', a1, a2, a3, C, M⟩ := l_rope (G := G) (i := i + 1) hT hX W i1
        refine ⟨ok, i', T', P', by omega, a2, fun _ => by omega, a3, fun μ w hA hG H => ?_, fun ν hM hG hT1 => ?_⟩
        · obtain ⟨μ', w', b1, b2, E⟩ := C μ w hA hG H
          refine ⟨μ', w', b1, b2, fun la n k => ?_⟩
          unfold f_X9_takeLine
          rw [TxG0_53 hX, CN μ w hA hG H la n k, cb_W hA hG (by omega) cis GS ks_RX9_31 w2 hi, if_neg q2, A_if, if_pos e00, cb_W hA hG (by omega) cis GS ks_RX9_36 w3 hi, if_pos q3, A_if, if_neg n10, TxV0 hX, E, tw_rz_b]
        · obtain ⟨p', q', b1, b2, E⟩ := M ν (tw_tg B e i) hM hG hT1
          refine ⟨p', q', b1, b2, fun la n k => ?_⟩
          unfold f_X12_readTownLine
          rw [mb_Wi hM hG (by omega) GS ks_RX12_142 w1, if_neg qp, A_if, if_pos e00, mb_Wi hM hG (by omega) GS ks_RX12_148 w2, if_neg q2, A_if, if_pos e00, mb_Wi hM hG (by omega) GS ks_RX12_153 w3, if_pos q3, A_if, if_neg n10, tw_tle_1 q3.1, MoV0 hM.1, E, tw_rz_b]
      · by_cases q4 : tw_iW B e i "doubt"
        · have i1 := tw_nx1 hT hi q4.1 (by omega)
          obtain ⟨ok, i', T', P', a1, a2, a3, C, M⟩ := l_doubt (G := G) (i := i + 1) hT hX W i1
          refine ⟨ok, i', T', P', by omega, a2, fun _ => by omega, a3, fun μ w hA hG H => ?_, fun ν hM hG hT1 => ?_⟩
          · obtain ⟨μ', w', b1, b2, E⟩ := C μ w hA hG H
            refine ⟨μ', w', b1, b2, fun la n k => ?_⟩
            unfold f_X9_takeLine
            rw [TxG0_53 hX, CN μ w hA hG H la n k, cb_W hA hG (by omega) cis GS ks_RX9_31 w2 hi, if_neg q2, A_if, if_pos e00, cb_W hA hG (by omega) cis GS ks_RX9_36 w3 hi, if_neg q3, A_if, if_pos e00, cb_W hA hG (by omega) cis GS ks_RX9_41 w4 hi, if_pos q4, A_if, if_neg n10, TxV0 hX, E, tw_rz_b]
          · obtain ⟨p', q', b1, b2, E⟩ := M ν (tw_tg B e i) hM hG hT1
            refine ⟨p', q', b1, b2, fun la n k => ?_⟩
            unfold f_X12_readTownLine
            rw [mb_Wi hM hG (by omega) GS ks_RX12_142 w1, if_neg qp, A_if, if_pos e00, mb_Wi hM hG (by omega) GS ks_RX12_148 w2, if_neg q2, A_if, if_pos e00, mb_Wi hM hG (by omega) GS ks_RX12_153 w3, if_neg q3, A_if, if_pos e00, mb_Wi hM hG (by omega) GS ks_RX12_158 w4, if_pos q4, A_if, if_neg n10, tw_tle_1 q4.1, MoV0 hM.1, E, tw_rz_b]
        · by_cases q5 : tw_iW B e i "hour"
          · have i1 := tw_nx1 hT hi q5.1 (by omega)
            obtain ⟨ok, i', T', P', a1, a2, a3, C, M⟩ := l_hour (G := G) (i := i + 1) hT hX W i1
            refine ⟨ok, i', T', P', by omega, a2, fun _ => by omega, a3, fun μ w hA hG H => ?_, fun ν hM hG hT1 => ?_⟩
            · obtain ⟨μ', w', b1, b2, E⟩ := C μ w hA hG H
              refine ⟨μ', w', b1, b2, fun la n k => ?_⟩
              unfold f_X9_takeLine
              rw [TxG0_53 hX, CN μ w hA hG H la n k, cb_W hA hG (by omega) cis GS ks_RX9_31 w2 hi, if_neg q2, A_if, if_pos e00, cb_W hA hG (by omega) cis GS ks_RX9_36 w3 hi, if_neg q3, A_if, if_pos e00, cb_W hA hG (by omega) cis GS ks_RX9_41 w4 hi, if_neg q4, A_if, if_pos e00, cb_W hA hG (by omega) cis GS ks_RX9_46 w5 hi, if_pos q5, A_if, if_neg n10, TxV0 hX, E, tw_rz_b]
            · obtain ⟨p', q', b1, b2, E⟩ := M ν (tw_tg B e i) hM hG hT1
              refine ⟨p', q', b1, b2, fun la n k => ?_⟩
              unfold f_X12_readTownLine
              rw [mb_Wi hM hG (by omega) GS ks_RX12_142 w1, if_neg qp, A_if, if_pos e00, mb_Wi hM hG (by omega) GS ks_RX12_148 w2, if_neg q2, A_if, if_pos e00, mb_Wi hM hG (by omega) GS ks_RX12_153 w3, if_neg q3, A_if, if_pos e00, mb_Wi hM hG (by omega) GS ks_RX12_158 w4, if_neg q4, A_if, if_pos e00, mb_Wi hM hG (by omega) GS ks_RX12_160 w5, if_pos q5, A_if, if_neg n10, tw_tle_1 q5.1, MoV0 hM.1, E, tw_rz_b]
          · by_cases q6 : tw_iW B e i "day"
            · have i1 := tw_nx1 hT hi q6.1 (by omega)
              obtain ⟨ok, i', T', P', a1, a2, a3, C, M⟩ := l_day (G := G) (i := i + 1) hT hX W i1
              refine ⟨ok, i', T', P', by omega, a2, fun _ => by omega, a3, fun μ w hA hG H => ?_, fun ν hM hG hT1 => ?_⟩
              · obtain ⟨μ', w', b1, b2, E⟩ := C μ w hA hG H
                refine ⟨μ', w', b1, b2, fun la n k => ?_⟩
                unfold f_X9_takeLine
                rw [TxG0_53 hX, CN μ w hA hG H la n k, cb_W hA hG (by omega) cis GS ks_RX9_31 w2 hi, if_neg q2, A_if, if_pos e00, cb_W hA hG (by omega) cis GS ks_RX9_36 w3 hi, if_neg q3, A_if, if_pos e00, cb_W hA hG (by omega) cis GS ks_RX9_41 w4 hi, if_neg q4, A_if, if_pos e00, cb_W hA hG (by omega) cis GS ks_RX9_46 w5 hi, if_neg q5, A_if, if_pos e00, cb_W hA hG (by omega) cis GS ks_RX9_51 w6 hi, if_pos q6, A_if, if_neg n10, TxV0 hX, E, A_if]
                cases ok
                · rw [if_pos (show tw_bo false = 0 from rfl), hz0]; rfl
                · rw [if_neg (show ¬ tw_bo true = 0 from n10), hz1]; rfl
              · obtain ⟨p', q', b1, b2, E⟩ := M ν (tw_tg B e i) hM hG hT1
                refine ⟨p', q', b1, b2, fun la n k => ?_⟩
                unfold f_X12_readTownLine
                rw [mb_Wi hM hG (by omega) GS ks_RX12_142 w1, if_neg qp, A_if, if_pos e00, mb_Wi hM hG (by omega) GS ks_RX12_148 w2, if_neg q2, A_if, if_pos e00, mb_Wi hM hG (by omega) GS ks_RX12_153 w3, if_neg q3, A_if, if_pos e00, mb_Wi hM hG (by omega) GS ks_RX12_158 w4, if_neg q4, A_if, if_pos e00, mb_Wi hM hG (by omega) GS ks_RX12_160 w5, if_neg q5, A_if, if_pos e00, mb_Wi hM hG (by omega) GS ks_RX12_162 w6, if_pos q6, A_if, if_neg n10, tw_tle_1 q6.1, MoV0 hM.1, E, A_if]
                cases ok
                · rw [if_pos (show tw_bo false = 0 from rfl), hz0]; rfl
                · rw [if_neg (show ¬ tw_bo true = 0 from n10), hz1]; rfl
            · refine ⟨false, i, T, P, Nat.le_refl _, hi, fun h => Bool.noConfusion h, tw_Li_r W, fun μ w hA hG H => ⟨μ, w, tw_fx_r, H, fun la n k => ?_⟩, fun ν hM hG hT1 => ⟨tw_tle B e (tw_tg B e i), tw_tg B e i, fun h => Bool.noConfusion h, fun _ => rfl, fun la n k => ?_⟩⟩
              · unfold f_X9_takeLine
                rw [TxG0_53 hX, CN μ w hA hG H la n k, cb_W hA hG (by omega) cis GS ks_RX9_31 w2 hi, if_neg q2, A_if, if_pos e00, cb_W hA hG (by omega) cis GS ks_RX9_36 w3 hi, if_neg q3, A_if, if_pos e00, cb_W hA hG (by omega) cis GS ks_RX9_41 w4 hi, if_neg q4, A_if, if_pos e00, cb_W hA hG (by omega) cis GS ks_RX9_46 w5 hi, if_neg q5, A_if, if_pos e00, cb_W hA hG (by omega) cis GS ks_RX9_51 w6 hi, if_neg q6, A_if, if_pos e00, hz0]
                rfl
              · unfold f_X12_readTownLine
                rw [mb_Wi hM hG (by omega) GS ks_RX12_142 w1, if_neg qp, A_if, if_pos e00, mb_Wi hM hG (by omega) GS ks_RX12_148 w2, if_neg q2, A_if, if_pos e00, mb_Wi hM hG (by omega) GS ks_RX12_153 w3, if_neg q3, A_if, if_pos e00, mb_Wi hM hG (by omega) GS ks_RX12_158 w4, if_neg q4, A_if, if_pos e00, mb_Wi hM hG (by omega) GS ks_RX12_160 w5, if_neg q5, A_if, if_pos e00, mb_Wi hM hG (by omega) GS ks_RX12_162 w6, if_neg q6, A_if, if_pos e00, hz0, ← hT1, tw_ra_s]
                rfl
end P99i
