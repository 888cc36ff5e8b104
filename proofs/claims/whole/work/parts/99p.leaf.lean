/-! ===== pure: the law's text, a flag or a comparison ===== -/
def tw_lfc (g : tw_Gx) (a0 : Nat) (K : Int32 → tw_Mem → Prop) : tw_Mem → Prop := tw_iv 1 a0 (f_X1_takeFlag g a0 (fun x12 => tw_if (x12 = 0) (tw_iv 1 a0 (f_X1_takeSum g a0 (fun x13 => tw_jn (fun (s15 : Int32) => tw_jn (fun (s17 : Int32) => tw_jn (fun (s19 : Int32) => tw_iv 1 a0 (f_X1_addStep a0 s19 (fun u20 => K s17))) (fun j18 => tw_if (s15 = 0) (j18 (18 : Int32)) (j18 (17 : Int32)))) (fun j16 => tw_jn (fun (s22 : Unit) => j16 (0 : Int32)) (fun j21 => tw_if (x13 = 0) (j21 ()) (tw_jn (fun (s24 : Unit) => tw_iv 1 a0 (f_X1_takeSum g a0 (fun x25 => tw_if (x25 = 0) (j21 ()) (j16 (1 : Int32))))) (fun j23 => tw_if (s15 = 0) (tw_iv 1 a0 (f_X7_takeSign a0 (62 : Int32) (fun x26 => tw_if (x26 = 0) (j21 ()) (j23 ())))) (j23 ())))))) (fun j14 => tw_jn (fun (s28 : Unit) => j14 (0 : Int32)) (fun j27 => tw_if (x13 = 0) (j27 ()) (tw_iv 1 a0 (f_X7_takeSign a0 (60 : Int32) (fun x29 => tw_if (x29 = 0) (j27 ()) (j14 (1 : Int32)))))))))) (K (1 : Int32))))
def tw_lfm (g : tw_Gx) (a0 : Nat) (k : Int32 → tw_Mem → Prop) : tw_Mem → Prop := tw_iv 11 a0 (f_X12_readTag g a0 (fun x4 => tw_if (x4 = 0) (tw_iv 11 a0 (f_X12_readSum g a0 (fun x5 => tw_if (x5 = 0) (tw_rz (0 : Int32) (k (0 : Int32))) (tw_iv 11 a0 (f_X12_sign a0 (60 : Int32) (fun x6 => tw_jn (fun (s8 : Unit) => tw_iv 11 a0 (f_X12_readSum g a0 (fun x9 => tw_if (x9 = 0) (tw_rz (0 : Int32) (k (0 : Int32))) (tw_jn (fun (s11 : Int32) => tw_iv 11 a0 (f_X12_emits a0 s11 (0 : Int32) (fun u12 => tw_rz (1 : Int32) (k (1 : Int32))))) (fun j10 => tw_if (x6 = 0) (j10 (13 : Int32)) (j10 (12 : Int32))))))) (fun j7 => tw_if (x6 = 0) (tw_iv 11 a0 (f_X12_sign a0 (62 : Int32) (fun x13 => tw_if (x13 = 0) (tw_rz (0 : Int32) (k (0 : Int32))) (j7 ())))) (j7 ())))))))) (tw_rz (1 : Int32) (k (1 : Int32)))))
section P99p
variable {sh s2 : tw_Sh} {μ0 ν0 μ μ' ν : Nat → Nat → Int32} {la : Nat → Nat → Int64} {n a b x y m t tt e i lo c d cl p q p' q' z ix ix2 i' o h l r s c0 : Nat} {G : tw_Gm} {g : tw_Gx} {B : Nat → Nat} {v w w' : Int32} {C : Nat → Nat × Nat} {u : Nat × Nat}
theorem b_leaf (hT : tw_tx B e tt) (hX : tw_Tx sh b) (GS : tw_GS g G b) (hA : tw_Ab sh μ0 (b + 144) (b + 1) B e tt) (hGc : tw_GH G sh μ0 b) (hM : tw_Mt s2 ν0 (b + 168) B e) (hGm : tw_GH G s2 ν0 b) (hi : i ≤ tt) (hc : c + 2 ≤ i) : ∃ ok i' C' c', i ≤ i' ∧ i' ≤ tt ∧ (ok = true → c' + i ≤ c + i' ∧ c < c' ∧ tw_cok C C' c c' ∧ tw_sA C' c (c' - c) true 3) ∧ tw_nc sh b μ0 C c i ok i' C' c' (tw_lfc g (b + 144)) ∧ tw_nm s2 (b + 168) ν0 B e C c d i ok i' C' c' (tw_lfm g (b + 168)) := by
  have n10 : ¬ (nI 1) = (0 : Int32) := by decide
  have n11 : ¬ (1 : Int32) = 0 := by decide
  have e00 : (nI 0) = (0 : Int32) := rfl
  have bf : tw_bo false = (0 : Int32) := rfl
  have bt : ¬ tw_bo true = (0 : Int32) := n10
  have hz0 : ∀ F M, tw_rz (0 : Int32) F M = F M := fun F M => tw_rz_b (ok := false) F M
  have hz1 : ∀ F M, tw_rz (1 : Int32) F M = F M := fun F M => tw_rz_b (ok := true) F M
  have he4 := hT.2.1
  have ht4 := hT.1
  have hm := hM.1
  have l60 : (60 : Int32) = nI 60 := rfl
  have l62 : (62 : Int32) = nI 62 := rfl
  have S60 : ∀ ν p q j, tw_mfr (b + 168) ν0 ν → tw_on B e j p → ∀ la n (k : Int32 → tw_Mem → Prop), f_X12_sign (b + 168) 60 k (s2, tw_pb ν (b + 168) p q, la, n) = if tw_iS B e j 60 then k (nI 1) (s2, tw_pb ν (b + 168) (tw_tp B e (j + 1)) (tw_tg B e j), la, n) else k (nI 0) (s2, tw_pb ν (b + 168) (tw_tg B e j) (tw_tg B e j), la, n) := fun ν p q j F ho la n k => m_sign1 (c := 60) (tw_mfr_M F hM) ho (by omega) (by omega) (by omega) (by omega) k
  have S62 : ∀ ν p q j, tw_mfr (b + 168) ν0 ν → tw_on B e j p → ∀ la n (k : Int32 → tw_Mem → Prop), f_X12_sign (b + 168) 62 k (s2, tw_pb ν (b + 168) p q, la, n) = if tw_iS B e j 62 then k (nI 1) (s2, tw_pb ν (b + 168) (tw_tp B e (j + 1)) (tw_tg B e j), la, n) else k (nI 0) (s2, tw_pb ν (b + 168) (tw_tg B e j) (tw_tg B e j), la, n) := fun ν p q j F ho la n k => m_sign1 (c := 62) (tw_mfr_M F hM) ho (by omega) (by omega) (by omega) (by omega) k
  have T60 : ∀ μ w j, tw_cfr b μ0 μ → j ≤ tt → ∀ la n (k : Int32 → tw_Mem → Prop), f_X7_takeSign (b + 144) 60 k (sh, tw_cwf μ (b + 144) j w, la, n) = if tw_iS B e j 60 then k (nI 1) (sh, tw_cwf μ (b + 144) (j + 1) w, la, n) else k (nI 0) (sh, tw_cwf μ (b + 144) j w, la, n) := fun μ w j F hj la n k => cb_S (c := 60) (tw_cfr_A F hA) (by omega) hj k
  have T62 : ∀ μ w j, tw_cfr b μ0 μ → j ≤ tt → ∀ la n (k : Int32 → tw_Mem → Prop), f_X7_takeSign (b + 144) 62 k (sh, tw_cwf μ (b + 144) j w, la, n) = if tw_iS B e j 62 then k (nI 1) (sh, tw_cwf μ (b + 144) (j + 1) w, la, n) else k (nI 0) (sh, tw_cwf μ (b + 144) j w, la, n) := fun μ w j F hj la n k => cb_S (c := 62) (tw_cfr_A F hA) (by omega) hj k
  rcases b_flag (d := d) (C := C) hT hX GS hA hGc hM hGm hi hc with ⟨u, u1, u2, i1, NC, NM⟩ | ⟨FC, FM⟩
  · refine ⟨true, i + 1, tw_uc C c u, c + 1, by omega, i1, fun _ => ⟨by omega, by omega, tw_cok_1 (by omega) (by omega), ?_⟩, fun μ w H => ?_, fun ν p q H ho => ?_⟩
    · rw [show c + 1 - c = 1 by omega]
      exact tw_sA_mono (tw_sA_leaf (by rw [tw_uc_a]; omega) (fun _ => by rw [tw_uc_a]; exact u1)) (by omega)
    · obtain ⟨μ1, w1, f1, f2, E1⟩ := NC μ w H
      refine ⟨μ1, w1, f1, f2, fun la n k => ?_⟩
      unfold tw_lfc
      rw [TxV1 hX, E1, A_if, if_neg bt]
      rfl
    · obtain ⟨ν1, p1, q1, g1, g2, g3, E1⟩ := NM ν p q H ho
      refine ⟨ν1, p1, q1, g1, g2, g3, fun la n k => ?_⟩
      unfold tw_lfm
      rw [MoV0 hm, E1, A_if, if_neg bt, hz1]
      rfl
  · obtain ⟨ok1, i1, C1, c1, a1, a2, a3, NC, NM⟩ := b_sum (d := d) (C := C) hT hX GS hA hGc hM hGm hi hc
    cases ok1 with
    | false =>
      refine ⟨false, i1, C1, c1, a1, a2, fun h => Bool.noConfusion h, fun μ w H => ?_, fun ν p q H ho => ?_⟩
      · obtain ⟨μ1, w1, f1, f2, E1⟩ := NC μ w H
        obtain ⟨μ2, f3, E2⟩ := c_addW hX f2 (18 : Int32)
        refine ⟨μ2, w1, fun h => Bool.noConfusion h, f3, fun la n k => ?_⟩
        unfold tw_lfc
        rw [TxV1 hX, FC μ w H, A_if, if_pos e00, TxV1 hX, E1, A_jn, A_jn, A_if, if_pos bf]
        dsimp only
        rw [A_jn, A_jn, A_if, if_pos bf]
        dsimp only
        rw [A_jn, A_if, if_pos rfl]
        dsimp only
        rw [TxV1 hX, E2]
        rfl
      · obtain ⟨ν1, p1, q1, g1, g2, g3, E1⟩ := NM ν (tw_tg B e i) (tw_tg B e i) H (tw_on_g _ _ _)
        refine ⟨ν1, p1, q1, fun h => Bool.noConfusion h, g2, g3, fun la n k => ?_⟩
        unfold tw_lfm
        rw [MoV0 hm, FM ν p q H ho, A_if, if_pos e00, MoV0 hm, E1, A_if, if_pos bf, hz0]
        rfl
    | true =>
      obtain ⟨a4, a5, a6, a7⟩ := a3 rfl
      by_cases q60 : tw_iS B e i1 60
      · skip
        have i2 := tw_nx1 hT a2 q60.1 (by omega)
        obtain ⟨ok2, i3, C2, c2, b1, b2, b3, NC2, NM2⟩ := b_sum (d := d) (C := C1) (c := c1) hT hX GS hA hGc hM hGm i2 (by omega)
        cases ok2 with
        | false =>
          refine ⟨false, i3, C2, c2, by omega, b2, fun h => Bool.noConfusion h, fun μ w H => ?_, fun ν p q H ho => ?_⟩
          · obtain ⟨μ1, w1, f1, f2, E1⟩ := NC μ w H
            have F1 := (f1 rfl).1
            obtain ⟨μ2, w2, f3, f4, E2⟩ := NC2 μ1 w1 (f1 rfl)
            obtain ⟨μ3, f5, E3⟩ := c_addW hX f4 (17 : Int32)
            refine ⟨μ3, w2, fun h => Bool.noConfusion h, f5, fun la n k => ?_⟩
            unfold tw_lfc
            rw [TxV1 hX, FC μ w H, A_if, if_pos e00, TxV1 hX, E1, A_jn, A_jn, A_if, if_neg bt, TxV1 hX, T60 μ1 w1 i1 F1 a2, if_pos q60, A_if, if_neg n10]
            dsimp only
            rw [A_jn, A_jn, A_if, if_neg bt, A_jn, A_if, if_neg n11]
            try dsimp only
            rw [TxV1 hX, E2, A_if, if_pos bf]
            try dsimp only
            rw [A_jn, A_if, if_neg n11]
            try dsimp only
            rw [TxV1 hX, E3]
            rfl
          · obtain ⟨ν1, p1, q1, g1, g2, F1, E1⟩ := NM ν (tw_tg B e i) (tw_tg B e i) H (tw_on_g _ _ _)
            obtain ⟨g1a, g1b⟩ := g1 rfl
            obtain ⟨ν2, p2, q2, g3, g4, g5, E2⟩ := NM2 ν1 (tw_tp B e (i1 + 1)) (tw_tg B e i1) g1a (tw_on_p _ _ _)
            refine ⟨ν2, p2, q2, fun h => Bool.noConfusion h, g4, g5, fun la n k => ?_⟩
            unfold tw_lfm
            rw [MoV0 hm, FM ν p q H ho, A_if, if_pos e00, MoV0 hm, E1, A_if, if_neg bt, MoV0 hm, S60 ν1 p1 q1 i1 F1 g1b, if_pos q60, A_jn, A_if, if_neg n10]
            try dsimp only
            rw [MoV0 hm, E2, A_if, if_pos bf, hz0]
            rfl
        | true =>
          obtain ⟨b4, b5, b6, b7⟩ := b3 rfl
          have hcm : tw_cok C (tw_uc C2 c2 (12, 0)) c (c2 + 1) := tw_cok_t (tw_cok_t a6 b6) (tw_cok_1 (by decide) (by decide))
          have hsg : tw_sA (tw_uc C2 c2 (12, 0)) c (c2 + 1 - c) true 3 := by
            have s1 : tw_sA (tw_uc C2 c2 (12, 0)) c (c1 - c) false 2 := tw_sA_congr (fun j h6 h7 => by rw [tw_uc_n (by omega), b6.2.1 j (by omega)]) a7
            have s2 : tw_sA (tw_uc C2 c2 (12, 0)) (c + (c1 - c)) (c2 - c1) false 2 := by
              rw [show c + (c1 - c) = c1 by omega]
              exact tw_sA_congr (fun j h6 h7 => by rw [tw_uc_n (by omega)]) b7
            have ec : tw_uc C2 c2 (12, 0) (c + (c1 - c) + (c2 - c1)) = (12, 0) := by
              rw [show c + (c1 - c) + (c2 - c1) = c2 by omega]; exact tw_uc_a
            have s3 := tw_sA_bin (b2 := true) s1 s2 (by rw [ec]; decide) (by rw [ec]; decide) (by rw [ec]; decide) (fun h => by rw [ec] at h; exact absurd h (by decide)) (fun _ => by rw [ec]; decide) (by omega)
            rw [show c2 + 1 - c = c1 - c + (c2 - c1) + 1 by omega]
            exact tw_sA_mono s3 (by omega)
          refine ⟨true, i3, tw_uc C2 c2 (12, 0), c2 + 1, by omega, b2, fun _ => ⟨by omega, by omega, hcm, hsg⟩, fun μ w H => ?_, fun ν p q H ho => ?_⟩
          · obtain ⟨μ1, w1, f1, f2, E1⟩ := NC μ w H
            have F1 := (f1 rfl).1
            obtain ⟨μ2, w2, f3, f4, E2⟩ := NC2 μ1 w1 (f1 rfl)
            obtain ⟨μ3, f5, E3⟩ := c_addS (v := (17 : Int32)) (u := (12, 0)) hX (f3 rfl) (by omega) rfl
            refine ⟨μ3, w2, fun _ => f5, tw_cs_w f5, fun la n k => ?_⟩
            unfold tw_lfc
            rw [TxV1 hX, FC μ w H, A_if, if_pos e00, TxV1 hX, E1, A_jn, A_jn, A_if, if_neg bt, TxV1 hX, T60 μ1 w1 i1 F1 a2, if_pos q60, A_if, if_neg n10]
            dsimp only
            rw [A_jn, A_jn, A_if, if_neg bt, A_jn, A_if, if_neg n11]
            try dsimp only
            rw [TxV1 hX, E2, A_if, if_neg bt]
            try dsimp only
            rw [A_jn, A_if, if_neg n11]
            try dsimp only
            rw [TxV1 hX, E3]
            rfl
          · obtain ⟨ν1, p1, q1, g1, g2, F1, E1⟩ := NM ν (tw_tg B e i) (tw_tg B e i) H (tw_on_g _ _ _)
            obtain ⟨g1a, g1b⟩ := g1 rfl
            obtain ⟨ν2, p2, q2, g3, g4, g5, E2⟩ := NM2 ν1 (tw_tp B e (i1 + 1)) (tw_tg B e i1) g1a (tw_on_p _ _ _)
            obtain ⟨g3a, g3b⟩ := g3 rfl
            obtain ⟨ν3, g6, E3⟩ := m_emit (v := (12 : Int32)) (w := (0 : Int32)) (u := (12, 0)) hm g3a (by omega) rfl rfl
            refine ⟨ν3, p2, q2, fun _ => ⟨g6, g3b⟩, fun h => Bool.noConfusion h, g6.1, fun la n k => ?_⟩
            unfold tw_lfm
            rw [MoV0 hm, FM ν p q H ho, A_if, if_pos e00, MoV0 hm, E1, A_if, if_neg bt, MoV0 hm, S60 ν1 p1 q1 i1 F1 g1b, if_pos q60, A_jn, A_if, if_neg n10]
            try dsimp only
            rw [MoV0 hm, E2, A_if, if_neg bt, A_jn, A_if, if_neg n10]
            try dsimp only
            rw [MoV0 hm, E3, hz1]
            rfl
      · by_cases q62 : tw_iS B e i1 62
        · skip
          have i2 := tw_nx1 hT a2 q62.1 (by omega)
          obtain ⟨ok2, i3, C2, c2, b1, b2, b3, NC2, NM2⟩ := b_sum (d := d) (C := C1) (c := c1) hT hX GS hA hGc hM hGm i2 (by omega)
          cases ok2 with
          | false =>
            refine ⟨false, i3, C2, c2, by omega, b2, fun h => Bool.noConfusion h, fun μ w H => ?_, fun ν p q H ho => ?_⟩
            · obtain ⟨μ1, w1, f1, f2, E1⟩ := NC μ w H
              have F1 := (f1 rfl).1
              obtain ⟨μ2, w2, f3, f4, E2⟩ := NC2 μ1 w1 (f1 rfl)
              obtain ⟨μ3, f5, E3⟩ := c_addW hX f4 (18 : Int32)
              refine ⟨μ3, w2, fun h => Bool.noConfusion h, f5, fun la n k => ?_⟩
              unfold tw_lfc
              rw [TxV1 hX, FC μ w H, A_if, if_pos e00, TxV1 hX, E1, A_jn, A_jn, A_if, if_neg bt, TxV1 hX, T60 μ1 w1 i1 F1 a2, if_neg q60, A_if, if_pos e00]
              dsimp only
              rw [A_jn, A_jn, A_if, if_neg bt, A_jn, A_if, if_pos rfl, TxV1 hX, T62 μ1 w1 i1 F1 a2, if_pos q62, A_if, if_neg n10]
              try dsimp only
              rw [TxV1 hX, E2, A_if, if_pos bf]
              try dsimp only
              rw [A_jn, A_if, if_pos rfl]
              try dsimp only
              rw [TxV1 hX, E3]
              rfl
            · obtain ⟨ν1, p1, q1, g1, g2, F1, E1⟩ := NM ν (tw_tg B e i) (tw_tg B e i) H (tw_on_g _ _ _)
              obtain ⟨g1a, g1b⟩ := g1 rfl
              obtain ⟨ν2, p2, q2, g3, g4, g5, E2⟩ := NM2 ν1 (tw_tp B e (i1 + 1)) (tw_tg B e i1) g1a (tw_on_p _ _ _)
              refine ⟨ν2, p2, q2, fun h => Bool.noConfusion h, g4, g5, fun la n k => ?_⟩
              unfold tw_lfm
              rw [MoV0 hm, FM ν p q H ho, A_if, if_pos e00, MoV0 hm, E1, A_if, if_neg bt, MoV0 hm, S60 ν1 p1 q1 i1 F1 g1b, if_neg q60, A_jn, A_if, if_pos e00, MoV0 hm, S62 ν1 _ _ i1 F1 (tw_on_g _ _ _), if_pos q62, A_if, if_neg n10]
              try dsimp only
              rw [MoV0 hm, E2, A_if, if_pos bf, hz0]
              rfl
          | true =>
            obtain ⟨b4, b5, b6, b7⟩ := b3 rfl
            have hcm : tw_cok C (tw_uc C2 c2 (13, 0)) c (c2 + 1) := tw_cok_t (tw_cok_t a6 b6) (tw_cok_1 (by decide) (by decide))
            have hsg : tw_sA (tw_uc C2 c2 (13, 0)) c (c2 + 1 - c) true 3 := by
              have s1 : tw_sA (tw_uc C2 c2 (13, 0)) c (c1 - c) false 2 := tw_sA_congr (fun j h6 h7 => by rw [tw_uc_n (by omega), b6.2.1 j (by omega)]) a7
              have s2 : tw_sA (tw_uc C2 c2 (13, 0)) (c + (c1 - c)) (c2 - c1) false 2 := by
                rw [show c + (c1 - c) = c1 by omega]
                exact tw_sA_congr (fun j h6 h7 => by rw [tw_uc_n (by omega)]) b7
              have ec : tw_uc C2 c2 (13, 0) (c + (c1 - c) + (c2 - c1)) = (13, 0) := by
                rw [show c + (c1 - c) + (c2 - c1) = c2 by omega]; exact tw_uc_a
              have s3 := tw_sA_bin (b2 := true) s1 s2 (by rw [ec]; decide) (by rw [ec]; decide) (by rw [ec]; decide) (fun h => by rw [ec] at h; exact absurd h (by decide)) (fun _ => by rw [ec]; decide) (by omega)
              rw [show c2 + 1 - c = c1 - c + (c2 - c1) + 1 by omega]
              exact tw_sA_mono s3 (by omega)
            refine ⟨true, i3, tw_uc C2 c2 (13, 0), c2 + 1, by omega, b2, fun _ => ⟨by omega, by omega, hcm, hsg⟩, fun μ w H => ?_, fun ν p q H ho => ?_⟩
            · obtain ⟨μ1, w1, f1, f2, E1⟩ := NC μ w H
              have F1 := (f1 rfl).1
              obtain ⟨μ2, w2, f3, f4, E2⟩ := NC2 μ1 w1 (f1 rfl)
              obtain ⟨μ3, f5, E3⟩ := c_addS (v := (18 : Int32)) (u := (13, 0)) hX (f3 rfl) (by omega) rfl
              refine ⟨μ3, w2, fun _ => f5, tw_cs_w f5, fun la n k => ?_⟩
              unfold tw_lfc
              rw [TxV1 hX, FC μ w H, A_if, if_pos e00, TxV1 hX, E1, A_jn, A_jn, A_if, if_neg bt, TxV1 hX, T60 μ1 w1 i1 F1 a2, if_neg q60, A_if, if_pos e00]
              dsimp only
              rw [A_jn, A_jn, A_if, if_neg bt, A_jn, A_if, if_pos rfl, TxV1 hX, T62 μ1 w1 i1 F1 a2, if_pos q62, A_if, if_neg n10]
              try dsimp only
              rw [TxV1 hX, E2, A_if, if_neg bt]
              try dsimp only
              rw [A_jn, A_if, if_pos rfl]
              try dsimp only
              rw [TxV1 hX, E3]
              rfl
            · obtain ⟨ν1, p1, q1, g1, g2, F1, E1⟩ := NM ν (tw_tg B e i) (tw_tg B e i) H (tw_on_g _ _ _)
              obtain ⟨g1a, g1b⟩ := g1 rfl
              obtain ⟨ν2, p2, q2, g3, g4, g5, E2⟩ := NM2 ν1 (tw_tp B e (i1 + 1)) (tw_tg B e i1) g1a (tw_on_p _ _ _)
              obtain ⟨g3a, g3b⟩ := g3 rfl
              obtain ⟨ν3, g6, E3⟩ := m_emit (v := (13 : Int32)) (w := (0 : Int32)) (u := (13, 0)) hm g3a (by omega) rfl rfl
              refine ⟨ν3, p2, q2, fun _ => ⟨g6, g3b⟩, fun h => Bool.noConfusion h, g6.1, fun la n k => ?_⟩
              unfold tw_lfm
              rw [MoV0 hm, FM ν p q H ho, A_if, if_pos e00, MoV0 hm, E1, A_if, if_neg bt, MoV0 hm, S60 ν1 p1 q1 i1 F1 g1b, if_neg q60, A_jn, A_if, if_pos e00, MoV0 hm, S62 ν1 _ _ i1 F1 (tw_on_g _ _ _), if_pos q62, A_if, if_neg n10]
              try dsimp only
              rw [MoV0 hm, E2, A_if, if_neg bt, A_jn, A_if, if_pos e00]
              try dsimp only
              rw [MoV0 hm, E3, hz1]
              rfl
        · refine ⟨false, i1, C1, c1, a1, a2, fun h => Bool.noConfusion h, fun μ w H => ?_, fun ν p q H ho => ?_⟩
          · obtain ⟨μ1, w1, f1, f2, E1⟩ := NC μ w H
            have F1 := (f1 rfl).1
            obtain ⟨μ2, f3, E2⟩ := c_addW hX f2 (18 : Int32)
            refine ⟨μ2, w1, fun h => Bool.noConfusion h, f3, fun la n k => ?_⟩
            unfold tw_lfc
            rw [TxV1 hX, FC μ w H, A_if, if_pos e00, TxV1 hX, E1, A_jn, A_jn, A_if, if_neg bt, TxV1 hX, T60 μ1 w1 i1 F1 a2, if_neg q60, A_if, if_pos e00]
            dsimp only
            rw [A_jn, A_jn, A_if, if_neg bt, A_jn, A_if, if_pos rfl, TxV1 hX, T62 μ1 w1 i1 F1 a2, if_neg q62, A_if, if_pos e00]
            dsimp only
            rw [A_jn, A_if, if_pos rfl]
            dsimp only
            rw [TxV1 hX, E2]
            rfl
          · obtain ⟨ν1, p1, q1, g1, g2, F1, E1⟩ := NM ν (tw_tg B e i) (tw_tg B e i) H (tw_on_g _ _ _)
            obtain ⟨g1a, g1b⟩ := g1 rfl
            refine ⟨ν1, tw_tg B e i1, tw_tg B e i1, fun h => Bool.noConfusion h, fun _ => rfl, F1, fun la n k => ?_⟩
            unfold tw_lfm
            rw [MoV0 hm, FM ν p q H ho, A_if, if_pos e00, MoV0 hm, E1, A_if, if_neg bt, MoV0 hm, S60 ν1 p1 q1 i1 F1 g1b, if_neg q60, A_jn, A_if, if_pos e00, MoV0 hm, S62 ν1 _ _ i1 F1 (tw_on_g _ _ _), if_neg q62, A_if, if_pos e00, hz0]
            rfl
end P99p
