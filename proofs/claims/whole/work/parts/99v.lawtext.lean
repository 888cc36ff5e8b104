/-! ===== pure: the law's text, all of it ===== -/
section P99v
variable {sh s2 : tw_Sh} {μ0 ν0 μ μ' ν ν' : Nat → Nat → Int32} {la : Nat → Nat → Int64} {n a b x y m t tt e i lo c c' d cl p q p' q' z ix ix2 i' o h l r s c0 D lc ow kd am N f : Nat} {G : tw_Gm} {g : tw_Gx} {B : Nat → Nat} {v w w' : Int32} {C C' : Nat → Nat × Nat} {u : Nat × Nat}
theorem tw_LL_f (H : tw_LL b m μ ν C c N) (h17 : μ' (b + 144) 17 = μ (b + 144) 17) (h18 : μ' (b + 144) 18 = μ (b + 144) 18) (ha : ∀ y, b + 148 ≤ y → y < b + 152 → μ' y = μ y) (h86 : ν' m 86 = ν m 86) (hr : ν' (m + 1) = ν (m + 1)) : tw_LL b m μ' ν' C c N := by
  obtain ⟨h1, h2, h3, h4, h5, h6, h7, h8, h9, h10⟩ := H
  refine ⟨h17.trans h1, h2, h18.trans h3, h4, fun j hj => ?_, h86.trans h6, fun j hj => ?_, fun l hl => ?_, h9, fun j hj => ?_⟩
  · rw [ha _ (by omega) (by omega)]; exact h5 j hj
  · rw [hr]; exact h7 j hj
  · obtain ⟨kd', am', f, z, a1, a2, a3, a4, a5, a6, a7, a8, a9, a10, a11, a12, a13⟩ := h8 l hl
    exact ⟨kd', am', f, z, a1, a2, a3, by rw [ha _ (by omega) (by omega)]; exact a4, by rw [ha _ (by omega) (by omega)]; exact a5, by rw [ha _ (by omega) (by omega)]; exact a6, by rw [hr]; exact a7, by rw [hr]; exact a8, by rw [hr]; exact a9, by rw [hr]; exact a10, a11, fun j hj => by rw [hr]; exact a12 j hj, a13⟩
  · rw [hr]; exact h10 j hj
theorem mb_rlL0 (hM : tw_Mt s2 ν m B e) (ho : tw_on B e i p) (hc : 12 ≤ c) (hc2 : c < 2 ^ 31) (k : Int32 → tw_Mem → Prop) : f_X12_readLine g m 0 (nI c) k (s2, tw_pb ν m p q, la, n) = k 0 (s2, tw_pb ν m (tw_tle B e (tw_tg B e i)) (tw_tg B e i), la, n) := by
  have hlt : ¬ nI c < (12 : Int32) := by show ¬ nI c < nI 12; rw [nz_lt (by omega) (by omega)]; omega
  have hz0 : ∀ F M, tw_rz (0 : Int32) F M = F M := fun F M => tw_rz_b (ok := false) F M
  unfold f_X12_readLine
  rw [MoV0 hM.1, m_letters1 hM ho, A_jn, A_if, if_pos rfl]
  show tw_if (nI c < (12 : Int32)) _ _ _ = _
  rw [A_if, if_neg hlt, hz0]
theorem mb_rlL1 {ok : Bool} {M2 : tw_Mem} (hM : tw_Mt s2 ν m B e) (ho : tw_on B e i p) (hc : c < 12) (E : ∀ k : Int32 → tw_Mem → Prop, f_X12_readLawLine g m (nI c) k (s2, tw_pb ν m (tw_tle B e (tw_tg B e i)) (tw_tg B e i), la, n) = k (tw_bo ok) M2) (k : Int32 → tw_Mem → Prop) : f_X12_readLine g m 0 (nI c) k (s2, tw_pb ν m p q, la, n) = k (tw_bo ok) M2 := by
  have n10 : ¬ (nI 1) = (0 : Int32) := by decide
  have hlt : nI c < (12 : Int32) := by show nI c < nI 12; rw [nz_lt (by omega) (by omega)]; exact hc
  have hz0 : ∀ F M, tw_rz (0 : Int32) F M = F M := fun F M => tw_rz_b (ok := false) F M
  have hz1 : ∀ F M, tw_rz (1 : Int32) F M = F M := fun F M => tw_rz_b (ok := true) F M
  unfold f_X12_readLine
  rw [MoV0 hM.1, m_letters1 hM ho, A_jn, A_if, if_pos rfl]
  show tw_if (nI c < (12 : Int32)) _ _ _ = _
  rw [A_if, if_pos hlt, A_if, if_pos rfl, MoV0 hM.1, E, A_if]
  cases ok
  · rw [if_pos (show tw_bo false = 0 from rfl), hz0]; rfl
  · rw [if_neg (show ¬ tw_bo true = 0 from n10), hz1]; rfl
theorem b_lawLines (hT : tw_tx B e tt) (hX : tw_Tx sh b) (GS : tw_GS g G b) : ∀ d N, N + d = 12 → ∀ i C c μ ν p q, i ≤ tt → c ≤ i → tw_Ab sh μ (b + 144) (b + 1) B e tt → tw_GH G sh μ b → tw_Mt s2 ν (b + 168) B e → tw_GH G s2 ν b → tw_LL b (b + 168) μ ν C c N → tw_on B e i p → ∃ ok i' C' c' N' μ' ν' p' q', i' ≤ tt ∧ (ok = true → tw_LL b (b + 168) μ' ν' C' c' N') ∧ N' ≤ 12 ∧ tw_lfr b μ μ' ∧ tw_mf2 (b + 168) ν ν' ∧ (ok = false → q' = tw_tg B e i') ∧
    (∀ w, ∃ w', ∀ la n (k : Int32 → tw_Mem → Prop), tw_lp (fun (r3 : Int32 → tw_Mem → Prop) (s4 : Int32) => tw_if (s4 < (12 : Int32)) (tw_iv 1 (b + 144) (f_X1_takeLine g (b + 144) (fun x6 => tw_if (x6 = 0) (tw_iw (b + 144) (f_X7_place (b + 144) (fun x10 => k x10))) (tw_iw (b + 144) (f_X7_isAtEnd (b + 144) (fun x7 => tw_if (x7 = 0) (tw_iw (b + 144) (f_X7_takeSign (b + 144) (59 : Int32) (fun x8 => tw_if (x8 = 0) (tw_iw (b + 144) (f_X7_place (b + 144) (fun x9 => k x9))) (r3 (s4 + (1 : Int32)))))) (k (-1 : Int32)))))))) (tw_iw (b + 144) (f_X7_place (b + 144) (fun x5 => k x5)))) (nI N) (sh, tw_cwf μ (b + 144) i w, la, n) = k (if ok = true then mI else nI (tw_tg B e i')) (sh, tw_cwf μ' (b + 144) i' w', la, n)) ∧
    ∀ la n (k : Int32 → tw_Mem → Prop), tw_lp (fun (r5 : Int32 → tw_Mem → Prop) (s6 : Int32) => tw_iv 11 (b + 168) (f_X12_readLine g (b + 168) (0 : Int32) s6 (fun x7 => tw_if (x7 = 0) (k (-1 : Int32)) (tw_iv 11 (b + 168) (f_X12_blanks (b + 168) (fun u8 => tw_gi 80 (b + 168) fun x9 => tw_gi 81 (b + 168) fun x10 => tw_if (x9 = x10) (k (s6 + (1 : Int32))) (tw_iv 11 (b + 168) (f_X12_isAt (b + 168) (59 : Int32) (59 : Int32) (fun x11 => tw_if (x11 = 0) (k (-1 : Int32)) (tw_gi 80 (b + 168) fun x12 => tw_pi 80 (b + 168) (x12 + (1 : Int32)) (r5 (s6 + (1 : Int32))))))))))))) (nI N) (s2, tw_pb ν (b + 168) p q, la, n) = k (if ok = true then nI N' else mI) (s2, tw_pb ν' (b + 168) p' q', la, n) := by
  have n10 : ¬ (nI 1) = (0 : Int32) := by decide
  have e00 : (nI 0) = (0 : Int32) := rfl
  have b168 : b ≤ b + 168 := by omega
  have l59 : (59 : Int32) = nI 59 := rfl
  intro d
  induction d with
  | zero =>
    intro N hN i C c μ ν p q hi hc hA hG hM hGm H ho
    have hlt : ¬ nI N < (12 : Int32) := by show ¬ nI N < nI 12; rw [nz_lt (by omega) (by omega)]; omega
    refine ⟨false, i, C, c, 0, μ, ν, tw_tle B e (tw_tg B e i), tw_tg B e i, hi, fun h => Bool.noConfusion h, by omega, ⟨fun _ _ _ => rfl, fun _ _ _ => rfl⟩, ⟨fun _ _ _ => rfl, fun _ _ _ => rfl, fun _ _ => rfl⟩, fun _ => rfl, fun w => ⟨w, fun la n k => tw_lp_exit (fun rec => ?_)⟩, fun la n k => tw_lp_exit (fun rec => ?_)⟩
    · rw [A_if, if_neg hlt, TxW1 hX, cb_place hA hi]
      rfl
    · rw [MoV0 hM.1, mb_rlL0 hM ho (by omega) (by omega), A_if, if_pos rfl]
      rfl
  | succ d ih =>
    intro N hN i C c μ ν p q hi hc hA hG hM hGm H ho
    have hlt : nI N < (12 : Int32) := by show nI N < nI 12; rw [nz_lt (by omega) (by omega)]; omega
    have ec : nI N + (1 : Int32) = nI (N + 1) := nI_add N 1
    obtain ⟨ok, i1, C1, c1, μ1, ν1, p1, q1, a1, a2, a3, F1, F2, o1, o2, EC, EM⟩ := b_lawLine hT hX GS hA hG hM hGm hi hc (by omega) H
    have hA' := tw_lfr_A F1 hA
    have hG' := tw_lfr_G F1 hG
    have hM' := tw_mf2_M F2 hM
    have hGm' := tw_mf2_G F2 hGm b168
    have hkd := tw_kd_0 hT a2
    have hge : tw_tg B e i1 ≤ e := (tw_tbb_s B (tw_tp_s B e i1)).2.1
    have he4 := hT.2.1
    cases ok with
    | false =>
      refine ⟨false, i1, C1, c1, 0, μ1, ν1, p1, q1, a2, fun h => Bool.noConfusion h, by omega, F1, F2, o2, fun w => ?_, fun la n k => tw_lp_exit (fun rec => ?_)⟩
      · obtain ⟨w', E⟩ := EC w
        refine ⟨w', fun la n k => tw_lp_exit (fun rec => ?_)⟩
        rw [A_if, if_pos hlt, TxV1 hX, E, A_if, if_pos (show tw_bo false = 0 from rfl), TxW1 hX, cb_place hA' a2]
        rfl
      · rw [MoV0 hM.1, mb_rlL1 hM ho (by omega) (EM la n), A_if, if_pos (show tw_bo false = 0 from rfl)]
        rfl
    | true =>
      obtain ⟨a4, a5, a6⟩ := a3 rfl
      by_cases qe : tw_kd B e i1 = 0
      · have ge := hkd.mp qe
        refine ⟨true, i1, C1, c1, N + 1, μ1, ν1, tw_tg B e i1, tw_tg B e i1, a2, fun _ => a6, by omega, F1, F2, fun h => Bool.noConfusion h, fun w => ?_, fun la n k => tw_lp_exit (fun rec => ?_)⟩
        · obtain ⟨w', E⟩ := EC w
          refine ⟨w', fun la n k => tw_lp_exit (fun rec => ?_)⟩
          rw [A_if, if_pos hlt, TxV1 hX, E, A_if, if_neg (show ¬ tw_bo true = 0 from n10), TxW1 hX, cb_end hA' a2, if_pos qe, A_if, if_neg n10]
          rfl
        · rw [MoV0 hM.1, mb_rlL1 hM ho (by omega) (EM la n), A_if, if_neg (show ¬ tw_bo true = 0 from n10), MoV0 hM.1, mb_blk hM' (o1 rfl), MoI0_80 hM.1, MoI0_81 hM.1, tw_pb_80, tw_pb_k (by omega) (by omega), hM'.2.1, ge, A_if, if_pos rfl, ec]
          rfl
      · have gne : ¬ nI (tw_tg B e i1) = nI e := by
          rw [nz_eq (by omega) (by omega)]
          exact fun g => qe (hkd.mpr g)
        by_cases qs : tw_iS B e i1 59
        · have i2 := tw_nx1 hT a2 qs.1 (by omega)
          obtain ⟨ok2, i3, C3, c3, N3, μ3, ν3, p3, q3, d1, d2, d3, d4, d5, d6, EC3, EM3⟩ := ih (N + 1) (by omega) (i1 + 1) C1 c1 μ1 ν1 (tw_tp B e (i1 + 1)) (tw_tg B e i1) i2 (by omega) hA' hG' hM' hGm' a6 (tw_on_p _ _ _)
          refine ⟨ok2, i3, C3, c3, N3, μ3, ν3, p3, q3, d1, d2, d3, tw_lfr_t F1 d4, tw_mf2_t F2 d5, d6, fun w => ?_, fun la n k => ?_⟩
          · obtain ⟨w', E⟩ := EC w
            obtain ⟨w3, E3⟩ := EC3 w'
            refine ⟨w3, fun la n k => ?_⟩
            rw [← E3 la n k]
            refine tw_lp_step (fun rec => ?_)
            rw [A_if, if_pos hlt, TxV1 hX, E, A_if, if_neg (show ¬ tw_bo true = 0 from n10), TxW1 hX, cb_end hA' a2, if_neg qe, A_if, if_pos e00, TxW1 hX, l59, cb_S hA' (by omega) a2, if_pos qs, A_if, if_neg n10, ec]
          · have es : nI (tw_tg B e i1) + (1 : Int32) = nI (tw_tp B e (i1 + 1)) := by rw [tw_tp_sg qs.1]; exact nI_add _ 1
            rw [← EM3 la n k]
            refine tw_lp_step (fun rec => ?_)
            rw [MoV0 hM.1, mb_rlL1 hM ho (by omega) (EM la n), A_if, if_neg (show ¬ tw_bo true = 0 from n10), MoV0 hM.1, mb_blk hM' (o1 rfl), MoI0_80 hM.1, MoI0_81 hM.1, tw_pb_80, tw_pb_k (by omega) (by omega), hM'.2.1, A_if, if_neg gne, MoV0 hM.1, mb_at hT hM' a2, if_pos qs, A_if, if_neg n10, MoI0_80 hM.1, tw_pb_80, MoP0_80 hM.1, es, tw_pb_p, ec]
        · refine ⟨false, i1, C1, c1, 0, μ1, ν1, tw_tg B e i1, tw_tg B e i1, a2, fun h => Bool.noConfusion h, by omega, F1, F2, fun _ => rfl, fun w => ?_, fun la n k => tw_lp_exit (fun rec => ?_)⟩
          · obtain ⟨w', E⟩ := EC w
            refine ⟨w', fun la n k => tw_lp_exit (fun rec => ?_)⟩
            rw [A_if, if_pos hlt, TxV1 hX, E, A_if, if_neg (show ¬ tw_bo true = 0 from n10), TxW1 hX, cb_end hA' a2, if_neg qe, A_if, if_pos e00, TxW1 hX, l59, cb_S hA' (by omega) a2, if_neg qs, A_if, if_pos e00, TxW1 hX, cb_place hA' a2]
            rfl
          · rw [MoV0 hM.1, mb_rlL1 hM ho (by omega) (EM la n), A_if, if_neg (show ¬ tw_bo true = 0 from n10), MoV0 hM.1, mb_blk hM' (o1 rfl), MoI0_80 hM.1, MoI0_81 hM.1, tw_pb_80, tw_pb_k (by omega) (by omega), hM'.2.1, A_if, if_neg gne, MoV0 hM.1, mb_at hT hM' a2, if_neg qs, A_if, if_pos e00]
            rfl
theorem b_law (hX : tw_Tx sh b) (hTa : tw_Ta sh (b + 1)) (GS : tw_GS g G b) (he : e ≤ 400) (hB : ∀ j, B j < 256) (e38 : μ (b + 1) 38 = nI e) (hBt : ∀ j, j < e → μ (b + 1 + 1) j = nI (B j)) (hG : tw_GH G sh μ b) (e17 : μ (b + 144) 17 = nI 0) (e18 : μ (b + 144) 18 = nI 0) (hm : tw_Mo s2 (b + 168)) (e79 : ν (b + 168) 79 = nI e) (hb6 : ∀ j, j < e → ν (b + 168 + 6) j = vp_nar .byte (nI (B j))) (hGn : tw_GH G s2 ν b) : ∃ ok C c N f μ' ν', N ≤ 12 ∧ f ≤ 400 ∧ (ok = true → tw_LL b (b + 168) μ' ν' C c N) ∧ (∀ y, ¬ (b + 144 ≤ y ∧ y < b + 152) → μ' y = μ y) ∧ (∀ y, y ≠ b + 168 → y ≠ b + 168 + 1 → ν' y = ν y) ∧ (∀ q, q ≠ 70 → q ≠ 79 → q ≠ 80 → q ≠ 81 → q ≠ 82 → q ≠ 83 → q ≠ 86 → ν' (b + 168) q = ν (b + 168) q) ∧ ν' (b + 168) 79 = nI 0 ∧ ν' (b + 168) 70 = nI 0 ∧ (ok = false → ν' (b + 168) 82 = nI f) ∧ (∀ q, q < 1341 → ν' (b + 168 + 1) q = ν (b + 168 + 1) q) ∧
    (∀ la n (k : Int32 → tw_Mem → Prop), f_X7_firstWrong1 g (b + 144) 12 k (sh, μ, la, n) = k (if ok = true then mI else nI f) (sh, μ', la, n)) ∧
    ∀ la n (k : Int32 → tw_Mem → Prop), f_X12_readAll g (b + 168) 0 k (s2, ν, la, n) = k (if ok = true then nI N else mI) (s2, ν', la, n) := by
  have n10 : ¬ (nI 1) = (0 : Int32) := by decide
  have e00 : (nI 0) = (0 : Int32) := rfl
  obtain ⟨μ1, tt, ⟨⟨X1, X2⟩, At⟩, E1⟩ := c_split (tw_Xs_1 hX) hTa (by omega) he hB e38 hBt
  obtain ⟨A1, A2, A3, A4, A5⟩ := At
  have hT : tw_tx B e tt := ⟨A2.1, A2.2.1, A2.2.2.1, A2.2.2.2.1, hB⟩
  have hA : tw_Ab sh μ1 (b + 144) (b + 1) B e tt := ⟨A1, A2, hB⟩
  have hG1 : tw_GH G sh μ1 b := tw_GH_s hG (fun y hy => X1 y (by omega))
  obtain ⟨w, hw⟩ := tw_cwf_s A3
  have hkd := tw_kd_0 hT (Nat.zero_le tt)
  have f17 : μ1 (b + 144) 17 = nI 0 := (X2 17 (by omega) (by omega) (by omega)).trans e17
  have f18 : μ1 (b + 144) 18 = nI 0 := (X2 18 (by omega) (by omega) (by omega)).trans e18
  obtain ⟨μu, ⟨u1, u2, u3, u4, u5, u6⟩, Eu⟩ := m_usesF (sh := s2) hm e79
  obtain ⟨νb, eνb⟩ : ∃ νb, νb = tw_up μu (b + 168) 86 (0 : Int32) := ⟨_, rfl⟩
  obtain ⟨qb, hqb⟩ := tw_pb_s (μ := νb) (m := b + 168) (p := 0) (by rw [eνb]; exact (tw_uk (by omega)).trans u4)
  have hMt : tw_Mt s2 νb (b + 168) B e := ⟨hm, by rw [eνb]; exact (tw_uk (by omega)).trans u1, he, fun j hj => by rw [eνb, tw_up_ne (by omega), u5 _ (by omega)]; exact hb6 j hj, hB⟩
  have hGb : tw_GH G s2 νb b := tw_GH_s hGn (fun y hy => by rw [eνb, tw_up_ne (by omega), u5 _ (by omega)])
  have b3 : ∀ y, y ≠ b + 168 → νb y = ν y := fun y hy => by rw [eνb, tw_up_ne hy, u5 _ hy]
  have b4 : ∀ q, q ≠ 70 → q ≠ 79 → q ≠ 80 → q ≠ 81 → q ≠ 86 → νb (b + 168) q = ν (b + 168) q := fun q h1 h2 h3 h4 h5 => by rw [eνb, tw_uk (by omega)]; exact u6 q h1 h2 h3 h4
  have b79 : νb (b + 168) 79 = nI 0 := by rw [eνb]; exact (tw_uk (by omega)).trans u2
  have b70 : νb (b + 168) 70 = nI 0 := by rw [eνb]; exact (tw_uk (by omega)).trans u3
  have b86 : νb (b + 168) 86 = nI 0 := by rw [eνb]; exact tw_ua
  have MB : ∀ la n (K : Unit → tw_Mem → Prop), f_X12_uses (b + 168) (fun u1 => tw_pi 86 (b + 168) (0 : Int32) (tw_iv 11 (b + 168) (f_X12_blanks (b + 168) K))) (s2, ν, la, n) = K () (s2, tw_pb νb (b + 168) (tw_tg B e 0) (tw_tg B e 0), la, n) := fun la n K => by
    rw [Eu, MoP0_86 hm, MoV0 hm, ← eνb]
    have hb := m_blanks2 (la := la) (n := n) (q := qb) hMt (tw_on_p B e 0) K
    have e0 : tw_tp B e 0 = 0 := rfl
    rw [e0, hqb] at hb
    exact hb
  have LL0 : tw_LL b (b + 168) μ1 νb (fun _ => (0, 0)) 0 0 := ⟨f17, by omega, f18, by omega, fun j hj => absurd hj (Nat.not_lt_zero j), b86, fun j hj => absurd hj (Nat.not_lt_zero j), fun j hj => absurd hj (Nat.not_lt_zero j), fun _ => rfl, fun j hj => by omega⟩
  by_cases qe : tw_kd B e 0 = 0
  · have ge := hkd.mp qe
    refine ⟨true, fun _ => (0, 0), 0, 0, 0, μ1, tw_pb νb (b + 168) (tw_tg B e 0) (tw_tg B e 0), by omega, by omega, fun _ => tw_LL_f LL0 rfl rfl (fun _ _ _ => rfl) (tw_pb_k (by omega) (by omega)) (tw_pb_n (by omega)), fun y hy => X1 y (by omega), fun y h1 h2 => by rw [tw_pb_n h1, b3 y h1], fun q h1 h2 h3 h4 h5 h6 h7 => by rw [tw_pb_k h3 h5]; exact b4 q h1 h2 h3 h4 h7, by rw [tw_pb_k (by omega) (by omega)]; exact b79, by rw [tw_pb_k (by omega) (by omega)]; exact b70, fun h => Bool.noConfusion h, fun q hq => by rw [tw_pb_n (by omega), b3 _ (by omega)], fun la n k => ?_, fun la n k => ?_⟩
    · unfold f_X7_firstWrong1
      rw [TxW1 hX, E1, TxW1 hX, ← hw, cb_end hA (Nat.zero_le tt), if_pos qe, A_if, if_neg n10]
      rfl
    · unfold f_X12_readAll
      rw [MoV0 hm, MB, MoI0_80 hm, MoI0_81 hm, tw_pb_80, tw_pb_k (by omega) (by omega), hMt.2.1, ge, A_if, if_pos rfl]
      rfl
  · have gne : ¬ nI (tw_tg B e 0) = nI e := by
      have hge : tw_tg B e 0 ≤ e := (tw_tbb_s B (tw_tp_s B e 0)).2.1
      rw [nz_eq (by omega) (by omega)]
      exact fun g => qe (hkd.mpr g)
    obtain ⟨ok, i', C', c', N', μ2, ν2, p', q', a1, a2, a3, F1, F2, a4, EC, EM⟩ := b_lawLines hT hX GS 12 0 rfl 0 (fun _ => (0, 0)) 0 μ1 νb (tw_tg B e 0) (tw_tg B e 0) (Nat.zero_le tt) (Nat.le_refl 0) hA hG1 hMt hGb LL0 (tw_on_g B e 0)
    obtain ⟨w2, E2⟩ := EC w
    have hge : tw_tg B e i' ≤ e := (tw_tbb_s B (tw_tp_s B e i')).2.1
    refine ⟨ok, C', c', N', tw_tg B e i', tw_cwf μ2 (b + 144) i' w2, tw_pb ν2 (b + 168) p' q', a3, by omega, fun h => tw_LL_f (a2 h) (tw_cwf_k (by omega)) (tw_cwf_k (by omega)) (fun y h1 h2 => tw_cwf_n (by omega)) (tw_pb_k (by omega) (by omega)) (tw_pb_n (by omega)), fun y hy => by rw [tw_cwf_n (by omega), F1.1 y (by omega) (by omega)]; exact X1 y (by omega), fun y h1 h2 => by rw [tw_pb_n h1, F2.1 y h1 h2, b3 y h1], fun q h1 h2 h3 h4 h5 h6 h7 => by rw [tw_pb_k h3 h5, F2.2.1 q h6 h7]; exact b4 q h1 h2 h3 h4 h7, by rw [tw_pb_k (by omega) (by omega), F2.2.1 79 (by omega) (by omega)]; exact b79, by rw [tw_pb_k (by omega) (by omega), F2.2.1 70 (by omega) (by omega)]; exact b70, fun h => by rw [tw_pb_82, a4 h], fun q hq => by rw [tw_pb_n (by omega), F2.2.2 q hq, b3 _ (by omega)], fun la n k => ?_, fun la n k => ?_⟩
    · unfold f_X7_firstWrong1
      rw [TxW1 hX, E1, TxW1 hX, ← hw, cb_end hA (Nat.zero_le tt), if_neg qe, A_if, if_pos e00]
      exact E2 la n k
    · unfold f_X12_readAll
      rw [MoV0 hm, MB, MoI0_80 hm, MoI0_81 hm, tw_pb_80, tw_pb_k (by omega) (by omega), hMt.2.1, A_if, if_neg gne]
      exact EM la n k
end P99v
