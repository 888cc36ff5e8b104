/-! ===== pure: a town's text, all of it ===== -/
section P99j
variable {sh : tw_Sh} {μ μ' ν : Nat → Nat → Int32} {la : Nat → Nat → Int64} {n a b x y m t tt e i lo c cl p q p' q' z ix ix2 i' P P' P2 o h l r s : Nat} {G : tw_Gm} {g : tw_Gx} {own own2 tx : String} {B : Nat → Nat} {v w w' : Int32} {T T' T2 : Nat → Int32}
theorem tw_Li_t (h : tw_Li T T' P') (h2 : tw_Li T' T2 P2) : tw_Li T T2 P2 := ⟨h2.1, h2.2.1.trans h.2.1, h2.2.2.1.trans h.2.2.1, fun j hj => (h2.2.2.2 j hj).trans (h.2.2.2 j hj)⟩
theorem tw_kd_0 (hT : tw_tx B e tt) (hi : i ≤ tt) : tw_kd B e i = 0 ↔ tw_tg B e i = e := by
  have hge : tw_tg B e i ≤ e := (tw_tbb_s B (tw_tp_s B e i)).2.1
  unfold tw_kd tw_tk
  by_cases h : e ≤ tw_tg B e i
  · rw [if_pos h]; exact ⟨fun _ => by omega, fun _ => rfl⟩
  · rw [if_neg h]
    constructor
    · intro g
      split at g
      · omega
      · split at g <;> omega
    · intro g; omega
theorem tw_tp_sg (h : tw_kd B e i = 3) : tw_tp B e (i + 1) = tw_tg B e i + 1 := by
  rw [tw_tp_S]
  unfold tw_kd at h
  generalize tw_tg B e i = x at *
  unfold tw_tk at h
  unfold tw_te
  by_cases q1 : e ≤ x
  · rw [if_pos q1] at h; omega
  · rw [if_neg q1] at h ⊢
    by_cases q2 : tw_le B x = true
    · rw [if_pos q2] at h; omega
    · rw [if_neg q2] at h ⊢
      by_cases q3 : tw_dg B x = true
      · rw [if_pos q3] at h; omega
      · rw [if_neg q3]
theorem mb_at (hT : tw_tx B e tt) (hM : tw_Mt sh ν m B e) (hi : i ≤ tt) (k : Int32 → tw_Mem → Prop) : f_X12_isAt m 59 59 k (sh, tw_pb ν m (tw_tg B e i) q, la, n) = if tw_iS B e i 59 then k (nI 1) (sh, tw_pb ν m (tw_tg B e i) q, la, n) else k (nI 0) (sh, tw_pb ν m (tw_tg B e i) q, la, n) := by
  have hge : tw_tg B e i ≤ e := (tw_tbb_s B (tw_tp_s B e i)).2.1
  have hs := tw_sg_k (B := B) (e := e) (i := i) (c := 59) (by omega) (by omega)
  refine (m_isAt1 (lo := 59) (hi := 59) hM hge (by omega) (by omega) (by omega) k).trans ?_
  by_cases q1 : tw_iS B e i 59
  · rw [if_pos q1, if_pos (hs.mp q1)]
  · rw [if_neg q1, if_neg (fun g => q1 (hs.mpr g))]
theorem mb_blk (hM : tw_Mt sh ν m B e) (ho : tw_on B e i p) (k : Unit → tw_Mem → Prop) : f_X12_blanks m k (sh, tw_pb ν m p q, la, n) = k () (sh, tw_pb ν m (tw_tg B e i) (tw_tg B e i), la, n) := m_blanks2 hM ho k
theorem mb_rl0 (hM : tw_Mt sh ν m B e) (ho : tw_on B e i p) (hc : 14 ≤ c) (hc2 : c < 2 ^ 31) (k : Int32 → tw_Mem → Prop) : f_X12_readLine g m 1 (nI c) k (sh, tw_pb ν m p q, la, n) = k 0 (sh, tw_pb ν m (tw_tle B e (tw_tg B e i)) (tw_tg B e i), la, n) := by
  have n11 : ¬ (1 : Int32) = 0 := by decide
  have hlt : ¬ nI c < (14 : Int32) := by show ¬ nI c < nI 14; rw [nz_lt (by omega) (by omega)]; omega
  have hz0 : ∀ F M, tw_rz (0 : Int32) F M = F M := fun F M => tw_rz_b (ok := false) F M
  unfold f_X12_readLine
  rw [MoV0 hM.1, m_letters1 hM ho, A_jn, A_if, if_neg n11]
  show tw_if (nI c < (14 : Int32)) _ _ _ = _
  rw [A_if, if_neg hlt, hz0]
theorem mb_rl1 {ok : Bool} {M2 : tw_Mem} (hM : tw_Mt sh ν m B e) (ho : tw_on B e i p) (hc : c < 14) (E : ∀ k : Int32 → tw_Mem → Prop, f_X12_readTownLine g m k (sh, tw_pb ν m (tw_tle B e (tw_tg B e i)) (tw_tg B e i), la, n) = k (tw_bo ok) M2) (k : Int32 → tw_Mem → Prop) : f_X12_readLine g m 1 (nI c) k (sh, tw_pb ν m p q, la, n) = k (tw_bo ok) M2 := by
  have n11 : ¬ (1 : Int32) = 0 := by decide
  have hlt : nI c < (14 : Int32) := by show nI c < nI 14; rw [nz_lt (by omega) (by omega)]; omega
  have hz0 : ∀ F M, tw_rz (0 : Int32) F M = F M := fun F M => tw_rz_b (ok := false) F M
  have hz1 : ∀ F M, tw_rz (1 : Int32) F M = F M := fun F M => tw_rz_b (ok := true) F M
  unfold f_X12_readLine
  rw [MoV0 hM.1, m_letters1 hM ho, A_jn, A_if, if_neg n11]
  show tw_if (nI c < (14 : Int32)) _ _ _ = _
  rw [A_if, if_pos hlt, A_if, if_neg n11, MoV0 hM.1, E, A_if]
  cases ok
  · rw [if_pos (show tw_bo false = 0 from rfl), hz0]; rfl
  · rw [if_neg (show ¬ tw_bo true = 0 from n11), hz1]; rfl
theorem b_lines (hT : tw_tx B e tt) (hX : tw_Tx sh b) (GS : tw_GS g G b) : ∀ d c, c + d = 14 → ∀ i T P, tw_WF T P → i ≤ tt → ∃ ok i' T' P' N, i' ≤ tt ∧ tw_Li T T' P' ∧ N ≤ 14 ∧
    (∀ μ w, tw_Ab sh μ (b + 140) (b + 1) B e tt → tw_GH G sh μ b → tw_RC sh μ (b + 12) T → ∃ μ' w', tw_fx (b + 12) (b + 12 + 9) μ μ' ∧ tw_RC sh μ' (b + 12) T' ∧ ∀ la n (k : Int32 → tw_Mem → Prop), tw_lp (fun (r3 : Int32 → tw_Mem → Prop) (s4 : Int32) => tw_if (s4 < (14 : Int32)) (tw_iv 8 (b + 140) (f_X9_takeLine g (b + 140) (fun x6 => tw_if (x6 = 0) (tw_iw (b + 140) (f_X7_place (b + 140) (fun x10 => k x10))) (tw_iw (b + 140) (f_X7_isAtEnd (b + 140) (fun x7 => tw_if (x7 = 0) (tw_iw (b + 140) (f_X7_takeSign (b + 140) (59 : Int32) (fun x8 => tw_if (x8 = 0) (tw_iw (b + 140) (f_X7_place (b + 140) (fun x9 => k x9))) (r3 (s4 + (1 : Int32)))))) (k (-1 : Int32)))))))) (tw_iw (b + 140) (f_X7_place (b + 140) (fun x5 => k x5)))) (nI c) (sh, tw_cwf μ (b + 140) i w, la, n) = k (if ok = true then mI else nI (tw_tg B e i')) (sh, tw_cwf μ' (b + 140) i' w', la, n)) ∧
    (∀ ν p q, tw_Mt sh ν (b + 168) B e → tw_GH G sh ν b → ν (b + 168 + 1) = T → tw_on B e i p → ∃ p' q', (ok = false → q' = tw_tg B e i') ∧ ∀ la n (k : Int32 → tw_Mem → Prop), tw_lp (fun (r5 : Int32 → tw_Mem → Prop) (s6 : Int32) => tw_iv 11 (b + 168) (f_X12_readLine g (b + 168) (1 : Int32) s6 (fun x7 => tw_if (x7 = 0) (k (-1 : Int32)) (tw_iv 11 (b + 168) (f_X12_blanks (b + 168) (fun u8 => tw_gi 80 (b + 168) fun x9 => tw_gi 81 (b + 168) fun x10 => tw_if (x9 = x10) (k (s6 + (1 : Int32))) (tw_iv 11 (b + 168) (f_X12_isAt (b + 168) (59 : Int32) (59 : Int32) (fun x11 => tw_if (x11 = 0) (k (-1 : Int32)) (tw_gi 80 (b + 168) fun x12 => tw_pi 80 (b + 168) (x12 + (1 : Int32)) (r5 (s6 + (1 : Int32))))))))))))) (nI c) (sh, tw_pb ν (b + 168) p q, la, n) = k (if ok = true then nI N else mI) (sh, tw_pb (tw_ra ν (b + 168 + 1) T') (b + 168) p' q', la, n)) := by
  have n10 : ¬ (nI 1) = (0 : Int32) := by decide
  have e00 : (nI 0) = (0 : Int32) := rfl
  have n11 : ¬ (1 : Int32) = 0 := by decide
  have hz0 : ∀ F M, tw_rz (0 : Int32) F M = F M := fun F M => tw_rz_b (ok := false) F M
  have hz1 : ∀ F M, tw_rz (1 : Int32) F M = F M := fun F M => tw_rz_b (ok := true) F M
  intro d
  induction d with
  | zero =>
    intro c hc i T P W hi
    have hlt : ¬ nI c < (14 : Int32) := by show ¬ nI c < nI 14; rw [nz_lt (by omega) (by omega)]; omega
    refine ⟨false, i, T, P, 0, hi, tw_Li_r W, by omega, fun μ w hA hG H => ⟨μ, w, tw_fx_r, H, fun la n k => tw_lp_exit (fun rec => ?_)⟩, fun ν p q hM hG hT1 ho => ⟨tw_tle B e (tw_tg B e i), tw_tg B e i, fun _ => rfl, fun la n k => tw_lp_exit (fun rec => ?_)⟩⟩
    · rw [A_if, if_neg hlt, TxW0 hX, cb_place hA hi]
      rfl
    · rw [MoV0 hM.1, mb_rl0 hM ho (by omega) (by omega), A_if, if_pos rfl, ← hT1, tw_ra_s]
      rfl
  | succ d ih =>
    intro c hc i T P W hi
    have hlt : nI c < (14 : Int32) := by show nI c < nI 14; rw [nz_lt (by omega) (by omega)]; omega
    have ec : nI c + (1 : Int32) = nI (c + 1) := nI_add c 1
    obtain ⟨ok, i', T', P', a1, a2, a3, a4, C, M⟩ := b_line hT hX GS W hi
    have hkd := tw_kd_0 hT a2
    have hge : tw_tg B e i' ≤ e := (tw_tbb_s B (tw_tp_s B e i')).2.1
    have he4 := hT.2.1
    cases ok with
    | false =>
      refine ⟨false, i', T', P', 0, a2, a4, by omega, fun μ w hA hG H => ?_, fun ν p q hM hG hT1 ho => ?_⟩
      · obtain ⟨μ', w', b1, b2, E⟩ := C μ w hA hG H
        refine ⟨μ', w', b1, b2, fun la n k => tw_lp_exit (fun rec => ?_)⟩
        have hA' : tw_Ab sh μ' (b + 140) (b + 1) B e tt := tw_Ab_s hA (fun y h1 h2 => b1 y (by omega))
        rw [A_if, if_pos hlt, TxV0 hX, E, A_if, if_pos (show tw_bo false = 0 from rfl), TxW0 hX, cb_place hA' a2]
        rfl
      · obtain ⟨p', q', b1, b2, E⟩ := M ν hM hG hT1
        refine ⟨p', q', b2, fun la n k => tw_lp_exit (fun rec => ?_)⟩
        rw [MoV0 hM.1, mb_rl1 hM ho (by omega) (E la n), A_if, if_pos (show tw_bo false = 0 from rfl)]
        rfl
    | true =>
      by_cases qe : tw_kd B e i' = 0
      · have ge := hkd.mp qe
        refine ⟨true, i', T', P', c + 1, a2, a4, by omega, fun μ w hA hG H => ?_, fun ν p q hM hG hT1 ho => ?_⟩
        · obtain ⟨μ', w', b1, b2, E⟩ := C μ w hA hG H
          refine ⟨μ', w', b1, b2, fun la n k => tw_lp_exit (fun rec => ?_)⟩
          have hA' : tw_Ab sh μ' (b + 140) (b + 1) B e tt := tw_Ab_s hA (fun y h1 h2 => b1 y (by omega))
          rw [A_if, if_pos hlt, TxV0 hX, E, A_if, if_neg (show ¬ tw_bo true = 0 from n10), TxW0 hX, cb_end hA' a2, if_pos qe, A_if, if_neg n10]
          rfl
        · obtain ⟨p', q', b1, b2, E⟩ := M ν hM hG hT1
          refine ⟨tw_tg B e i', tw_tg B e i', fun h => Bool.noConfusion h, fun la n k => tw_lp_exit (fun rec => ?_)⟩
          have hM' : tw_Mt sh (tw_ra ν (b + 168 + 1) T') (b + 168) B e := tw_Mt_ra hM
          rw [MoV0 hM.1, mb_rl1 hM ho (by omega) (E la n), A_if, if_neg (show ¬ tw_bo true = 0 from n10), MoV0 hM.1, mb_blk hM' (b1 rfl), MoI0_80 hM.1, MoI0_81 hM.1, tw_pb_80, tw_pb_k (by omega) (by omega), hM'.2.1, ge, A_if, if_pos rfl, ec]
          rfl
      · have gne : ¬ nI (tw_tg B e i') = nI e := by
          rw [nz_eq (by omega) (by omega)]
          exact fun g => qe (hkd.mpr g)
        by_cases qs : tw_iS B e i' 59
        · have i1 := tw_nx1 hT a2 qs.1 (by omega)
          obtain ⟨ok2, i2, T2, P2, N, d1, d2, d3, C2, M2⟩ := ih (c + 1) (by omega) (i' + 1) T' P' a4.1 i1
          refine ⟨ok2, i2, T2, P2, N, d1, tw_Li_t a4 d2, d3, fun μ w hA hG H => ?_, fun ν p q hM hG hT1 ho => ?_⟩
          · obtain ⟨μ', w', b1, b2, E⟩ := C μ w hA hG H
            have hA' : tw_Ab sh μ' (b + 140) (b + 1) B e tt := tw_Ab_s hA (fun y h1 h2 => b1 y (by omega))
            have hG' : tw_GH G sh μ' b := tw_GH_s hG (fun y hy => b1 y (by omega))
            obtain ⟨μ2, w2, b3, b4, E2⟩ := C2 μ' w' hA' hG' b2
            refine ⟨μ2, w2, fun y hy => (b3 y hy).trans (b1 y hy), b4, fun la n k => ?_⟩
            rw [← E2 la n k]
            refine tw_lp_step (fun rec => ?_)
            have l59 : (59 : Int32) = nI 59 := rfl
            rw [A_if, if_pos hlt, TxV0 hX, E, A_if, if_neg (show ¬ tw_bo true = 0 from n10), TxW0 hX, cb_end hA' a2, if_neg qe, A_if, if_pos e00, TxW0 hX, l59, cb_S hA' (by omega) a2, if_pos qs, A_if, if_neg n10, ec]
          · obtain ⟨p', q', b1, b2, E⟩ := M ν hM hG hT1
            have hM' : tw_Mt sh (tw_ra ν (b + 168 + 1) T') (b + 168) B e := tw_Mt_ra hM
            have hG' : tw_GH G sh (tw_ra ν (b + 168 + 1) T') b := tw_GH_ra hG (by omega)
            obtain ⟨p2, q2, b3, E2⟩ := M2 (tw_ra ν (b + 168 + 1) T') (tw_tp B e (i' + 1)) (tw_tg B e i') hM' hG' tw_ra_a (tw_on_p _ _ _)
            refine ⟨p2, q2, b3, fun la n k => ?_⟩
            rw [tw_ra_ra] at E2
            rw [← E2 la n k]
            refine tw_lp_step (fun rec => ?_)
            have es : nI (tw_tg B e i') + (1 : Int32) = nI (tw_tp B e (i' + 1)) := by rw [tw_tp_sg qs.1]; exact nI_add _ 1
            rw [MoV0 hM.1, mb_rl1 hM ho (by omega) (E la n), A_if, if_neg (show ¬ tw_bo true = 0 from n10), MoV0 hM.1, mb_blk hM' (b1 rfl), MoI0_80 hM.1, MoI0_81 hM.1, tw_pb_80, tw_pb_k (by omega) (by omega), hM'.2.1, A_if, if_neg gne, MoV0 hM.1, mb_at hT hM' a2, if_pos qs, A_if, if_neg n10, MoI0_80 hM.1, tw_pb_80, MoP0_80 hM.1, es, tw_pb_p, ec]
        · refine ⟨false, i', T', P', 0, a2, a4, by omega, fun μ w hA hG H => ?_, fun ν p q hM hG hT1 ho => ?_⟩
          · obtain ⟨μ', w', b1, b2, E⟩ := C μ w hA hG H
            refine ⟨μ', w', b1, b2, fun la n k => tw_lp_exit (fun rec => ?_)⟩
            have hA' : tw_Ab sh μ' (b + 140) (b + 1) B e tt := tw_Ab_s hA (fun y h1 h2 => b1 y (by omega))
            have l59 : (59 : Int32) = nI 59 := rfl
            rw [A_if, if_pos hlt, TxV0 hX, E, A_if, if_neg (show ¬ tw_bo true = 0 from n10), TxW0 hX, cb_end hA' a2, if_neg qe, A_if, if_pos e00, TxW0 hX, l59, cb_S hA' (by omega) a2, if_neg qs, A_if, if_pos e00, TxW0 hX, cb_place hA' a2]
            rfl
          · obtain ⟨p', q', b1, b2, E⟩ := M ν hM hG hT1
            refine ⟨tw_tg B e i', tw_tg B e i', fun _ => rfl, fun la n k => tw_lp_exit (fun rec => ?_)⟩
            have hM' : tw_Mt sh (tw_ra ν (b + 168 + 1) T') (b + 168) B e := tw_Mt_ra hM
            rw [MoV0 hM.1, mb_rl1 hM ho (by omega) (E la n), A_if, if_neg (show ¬ tw_bo true = 0 from n10), MoV0 hM.1, mb_blk hM' (b1 rfl), MoI0_80 hM.1, MoI0_81 hM.1, tw_pb_80, tw_pb_k (by omega) (by omega), hM'.2.1, A_if, if_neg gne, MoV0 hM.1, mb_at hT hM' a2, if_neg qs, A_if, if_pos e00]
            rfl
end P99j
