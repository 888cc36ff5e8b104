/-! ===== pure: a town's text, both sides ===== -/
section P99k
variable {sh : tw_Sh} {μ μ' ν : Nat → Nat → Int32} {la : Nat → Nat → Int64} {n a b x y m t tt e i lo c cl p q p' q' z ix ix2 i' P P' P2 o h l r s : Nat} {G : tw_Gm} {g : tw_Gx} {own own2 tx : String} {B : Nat → Nat} {v w w' : Int32} {T T' T2 : Nat → Int32}
theorem tw_i32 (v : Int32) : ∃ q, v = nI q := by
  refine ⟨v.toUInt32.toNat, ?_⟩
  have := tw_u32 v.toUInt32
  rw [← this]
  rfl
theorem tw_pb_s (h : μ m 80 = nI p) : ∃ q, tw_pb μ m p q = μ := by
  obtain ⟨q, hq⟩ := tw_i32 (μ m 82)
  refine ⟨q, ?_⟩
  funext y j
  by_cases hy : y = m
  · subst hy
    by_cases h1 : j = 82
    · subst h1; rw [tw_pb_82, hq]
    · by_cases h2 : j = 80
      · subst h2; rw [tw_pb_80, h]
      · rw [tw_pb_k h2 h1]
  · rw [tw_pb_n hy]
theorem b_town (hX : tw_Tx sh b) (hTa : tw_Ta sh (b + 1)) (GS : tw_GS g G b) (W : tw_WF T P) (he : e ≤ 400) (hB : ∀ j, B j < 256) (e38 : μ (b + 1) 38 = nI e) (hBt : ∀ j, j < e → μ (b + 1 + 1) j = nI (B j)) (hG : tw_GH G sh μ b) (H : tw_RC sh μ (b + 12) T) : ∃ ok T' P' N f μ', tw_Li T T' P' ∧ N ≤ 14 ∧ (∀ y, ¬ (b + 12 ≤ y ∧ y < b + 21) → ¬ (b + 140 ≤ y ∧ y < b + 144) → μ' y = μ y) ∧ tw_RC sh μ' (b + 12) T' ∧ f ≤ 400 ∧
    (∀ la n (k : Int32 → tw_Mem → Prop), f_X7_firstWrong8 g (b + 140) 14 k (sh, μ, la, n) = k (if ok = true then mI else nI f) (sh, μ', la, n)) ∧
    (∀ ν, tw_Mo sh (b + 168) → ν (b + 168) 79 = nI e → (∀ j, j < e → ν (b + 168 + 6) j = vp_nar .byte (nI (B j))) → tw_GH G sh ν b → ν (b + 168 + 1) = T → ∃ ν', ν' (b + 168 + 1) = T' ∧ (∀ y, y ≠ b + 168 → y ≠ b + 168 + 1 → ν' y = ν y) ∧ (∀ q, q ≠ 70 → q ≠ 79 → q ≠ 80 → q ≠ 81 → q ≠ 82 → q ≠ 86 → ν' (b + 168) q = ν (b + 168) q) ∧ ν' (b + 168) 79 = nI 0 ∧ ν' (b + 168) 70 = nI 0 ∧ (ok = false → ν' (b + 168) 82 = nI f) ∧ ∀ la n (k : Int32 → tw_Mem → Prop), f_X12_readAll g (b + 168) 1 k (sh, ν, la, n) = k (if ok = true then nI N else mI) (sh, ν', la, n)) := by
  have n10 : ¬ (nI 1) = (0 : Int32) := by decide
  have e00 : (nI 0) = (0 : Int32) := rfl
  obtain ⟨μ1, tt, ⟨⟨X1, X2⟩, At⟩, E1⟩ := c_split (tw_Xs_9 hX) hTa (by omega) he hB e38 hBt
  obtain ⟨A1, A2, A3, A4, A5⟩ := At
  have hT : tw_tx B e tt := ⟨A2.1, A2.2.1, A2.2.2.1, A2.2.2.2.1, hB⟩
  have hA : tw_Ab sh μ1 (b + 140) (b + 1) B e tt := ⟨A1, A2, hB⟩
  have hG1 : tw_GH G sh μ1 b := tw_GH_s hG (fun y hy => X1 y (by omega))
  have H1 : tw_RC sh μ1 (b + 12) T := Rc_same H (fun y h1 h2 => X1 y (by omega))
  obtain ⟨w, hw⟩ := tw_cwf_s A3
  have hkd := tw_kd_0 hT (Nat.zero_le tt)
  -- the model's beginning
  have MB : ∀ ν, tw_Mo sh (b + 168) → ν (b + 168) 79 = nI e → (∀ j, j < e → ν (b + 168 + 6) j = vp_nar .byte (nI (B j))) → tw_GH G sh ν b → ∃ νb q, tw_Mt sh νb (b + 168) B e ∧ tw_GH G sh νb b ∧ (∀ y, y ≠ b + 168 → νb y = ν y) ∧ (∀ q, q ≠ 70 → q ≠ 79 → q ≠ 80 → q ≠ 81 → q ≠ 86 → νb (b + 168) q = ν (b + 168) q) ∧ νb (b + 168) 79 = nI 0 ∧ νb (b + 168) 70 = nI 0 ∧ ∀ la n (K : Unit → tw_Mem → Prop), f_X12_uses (b + 168) (fun u1 => tw_pi 86 (b + 168) (0 : Int32) (tw_iv 11 (b + 168) (f_X12_blanks (b + 168) K))) (sh, ν, la, n) = K () (sh, tw_pb νb (b + 168) (tw_tg B e 0) (tw_tg B e 0), la, n) := fun ν hm e79 hb6 hGn => by
    obtain ⟨μu, ⟨u1, u2, u3, u4, u5, u6⟩, Eu⟩ := m_usesF (sh := sh) hm e79
    obtain ⟨q, hq⟩ := tw_pb_s (μ := tw_up μu (b + 168) 86 (0 : Int32)) (m := b + 168) (p := 0) ((tw_uk (by omega)).trans u4)
    have hMt : tw_Mt sh (tw_up μu (b + 168) 86 (0 : Int32)) (b + 168) B e := ⟨hm, (tw_uk (by omega)).trans u1, he, fun j hj => by rw [tw_up_ne (by omega), u5 _ (by omega)]; exact hb6 j hj, hB⟩
    refine ⟨tw_up μu (b + 168) 86 (0 : Int32), q, hMt, tw_GH_s hGn (fun y hy => by rw [tw_up_ne (by omega), u5 _ (by omega)]), fun y hy => by rw [tw_up_ne hy, u5 _ hy], fun q h1 h2 h3 h4 h5 => by rw [tw_uk (by omega)]; exact u6 q h1 h2 h3 h4, (tw_uk (by omega)).trans u2, (tw_uk (by omega)).trans u3, fun la n K => ?_⟩
    rw [Eu, MoP0_86 hm, MoV0 hm]
    have hb := m_blanks2 (la := la) (n := n) (q := q) hMt (tw_on_p B e 0) K
    have e0 : tw_tp B e 0 = 0 := rfl
    rw [e0, hq] at hb
    exact hb
  by_cases qe : tw_kd B e 0 = 0
  · have ge := hkd.mp qe
    refine ⟨true, T, P, 0, 0, μ1, tw_Li_r W, by omega, fun y h1 h2 => X1 y (by omega), H1, by omega, fun la n k => ?_, fun ν hm e79 hb6 hGn hT1 => ?_⟩
    · unfold f_X7_firstWrong8
      rw [TxW0 hX, E1, TxW0 hX, ← hw, cb_end hA (Nat.zero_le tt), if_pos qe, A_if, if_neg n10]
      rfl
    · obtain ⟨νb, q, b1, b2, b3, b4, b5, b6, Eb⟩ := MB ν hm e79 hb6 hGn
      refine ⟨tw_pb νb (b + 168) (tw_tg B e 0) (tw_tg B e 0), by rw [tw_pb_n (by omega), b3 _ (by omega), hT1], fun y h1 h2 => by rw [tw_pb_n h1, b3 y h1], fun q h1 h2 h3 h4 h5 h6 => by rw [tw_pb_k h3 h5]; exact b4 q h1 h2 h3 h4 h6, by rw [tw_pb_k (by omega) (by omega)]; exact b5, by rw [tw_pb_k (by omega) (by omega)]; exact b6, fun h => Bool.noConfusion h, fun la n k => ?_⟩
      unfold f_X12_readAll
      rw [MoV0 hm, Eb, MoI0_80 hm, MoI0_81 hm, tw_pb_80, tw_pb_k (by omega) (by omega), b1.2.1, ge, A_if, if_pos rfl]
      rfl
  · have gne : ¬ nI (tw_tg B e 0) = nI e := by
      have hge : tw_tg B e 0 ≤ e := (tw_tbb_s B (tw_tp_s B e 0)).2.1
      rw [nz_eq (by omega) (by omega)]
      exact fun g => qe (hkd.mpr g)
    obtain ⟨ok, i', T', P', N, a1, a2, a3, C, M⟩ := b_lines hT hX GS 14 0 rfl 0 T P W (Nat.zero_le tt)
    obtain ⟨μ2, w2, c1, c2, E2⟩ := C μ1 w hA hG1 H1
    have hge : tw_tg B e i' ≤ e := (tw_tbb_s B (tw_tp_s B e i')).2.1
    refine ⟨ok, T', P', N, tw_tg B e i', tw_cwf μ2 (b + 140) i' w2, a2, a3, fun y h1 h2 => ?_, tw_RC_cwf c2, by omega, fun la n k => ?_, fun ν hm e79 hb6 hGn hT1 => ?_⟩
    · rw [tw_cwf_n (by omega), c1 y (by omega), X1 y (by omega)]
    · unfold f_X7_firstWrong8
      rw [TxW0 hX, E1, TxW0 hX, ← hw, cb_end hA (Nat.zero_le tt), if_neg qe, A_if, if_pos e00]
      exact E2 la n k
    · obtain ⟨νb, q, b1, b2, b3, b4, b5, b6, Eb⟩ := MB ν hm e79 hb6 hGn
      obtain ⟨p', q', d1, E3⟩ := M νb (tw_tg B e 0) (tw_tg B e 0) b1 b2 ((b3 _ (by omega)).trans hT1) (tw_on_g B e 0)
      refine ⟨tw_pb (tw_ra νb (b + 168 + 1) T') (b + 168) p' q', by rw [tw_pb_n (by omega)]; exact tw_ra_a, fun y h1 h2 => by rw [tw_pb_n h1, tw_ra_n (by omega), b3 y h1], fun q h1 h2 h3 h4 h5 h6 => by rw [tw_pb_k h3 h5, tw_ra_nj (by omega)]; exact b4 q h1 h2 h3 h4 h6, by rw [tw_pb_k (by omega) (by omega), tw_ra_nj (by omega)]; exact b5, by rw [tw_pb_k (by omega) (by omega), tw_ra_nj (by omega)]; exact b6, fun h => by rw [tw_pb_82, d1 h], fun la n k => ?_⟩
      unfold f_X12_readAll
      rw [MoV0 hm, Eb, MoI0_80 hm, MoI0_81 hm, tw_pb_80, tw_pb_k (by omega) (by omega), b1.2.1, A_if, if_neg gne]
      exact E3 la n k
end P99k
