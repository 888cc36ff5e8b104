/-! ===== pure: the law's steps, law ===== -/
section P99x
variable {sh : tw_Sh} {μ ν μ' : Nat → Nat → Int32} {la : Nat → Nat → Int64} {n a b w m lw P N L a0 e : Nat} {p o l h i z c x y q kd t r s f : Nat} {T T' : Nat → Int32} {v u rg tn : Int32} {j : Unit → tw_Mem → Prop} {G : tw_Gm} {g : tw_Gx}
/-- one end of a run alone -/
theorem tw_det {F : (Int32 → tw_Mem → Prop) → tw_Mem → Prop} {v1 v2 : Int32} {μ1 μ2 : Nat → Nat → Int32} (h1 : ∀ (la : Nat → Nat → Int64) (n : Nat) k, F k (sh, μ, la, n) = k v1 (sh, μ1, la, n)) (h2 : ∀ (la : Nat → Nat → Int64) (n : Nat) k, F k (sh, μ, la, n) = k v2 (sh, μ2, la, n)) : v1 = v2 ∧ μ1 = μ2 := by
  have h := (h1 (fun _ _ => 0) 0 (fun v M => v = v2 ∧ M.2.1 = μ2)).symm.trans (h2 (fun _ _ => 0) 0 (fun v M => v = v2 ∧ M.2.1 = μ2))
  have h' : (v1 = v2 ∧ μ1 = μ2) = (v2 = v2 ∧ μ2 = μ2) := h
  rw [h']
  exact ⟨rfl, rfl⟩
theorem L3 (GS : tw_GS g G b) (hI : tw_IV G a0 b L (sh, μ, la, n)) (hi : i + 6 ≤ L) (hj : ∀ M, tw_IV G a0 b L M → j () M) (k : Int32 → tw_Mem → Prop) : f_Lc3 g a0 b (b + 168) (b + 181) (nI i) j k (sh, μ, la, n) := by
  obtain ⟨lw, kl, P, hS, W, H, HL, HR, HI, HT, hf⟩ := tw_IV_e hI
  have hS2 := hS
  obtain ⟨hX, hlw, hkl, ⟨hTa, hTx⟩, hTn, hTs, hTk, hMe, hMi, hMt, hTw, hPa, hSe, hMo, hOu, hSc, hL3, hab, hlwc, hklc, hlwn, hkln, hbn, hlk⟩ := hS2
  obtain ⟨e, B, he, e38, e79, hB, hBt, hb6⟩ := tw_TP_B HT
  obtain ⟨μ0, eμ0⟩ : ∃ μ0, μ0 = tw_up (tw_up μ (b + 144) 17 (0 : Int32)) (b + 144) 18 (0 : Int32) := ⟨_, rfl⟩
  have F0 : ∀ y, y ≠ b + 144 → μ0 y = μ y := fun y hy => by rw [eμ0, tw_up_ne hy, tw_up_ne hy]
  have f17 : μ0 (b + 144) 17 = nI 0 := by rw [eμ0, tw_uk (by omega)]; exact tw_ua
  have f18 : μ0 (b + 144) 18 = nI 0 := by rw [eμ0]; exact tw_ua
  have hG0 : tw_GH G sh μ0 b := fun y hy => ⟨(hf.2 y hy).1, (F0 y (by omega)).trans (hf.2 y hy).2⟩
  have e38' : μ0 (b + 1) 38 = nI e := by rw [F0 _ (by omega)]; exact e38
  have hBt' : ∀ j, j < e → μ0 (b + 1 + 1) j = nI (B j) := by rw [F0 _ (by omega)]; exact hBt
  obtain ⟨ok, C, c, N, f, μ1, νx, hN, hf4, x1, F1, x2, x3, x4, x5, x6, x7, EC, x8⟩ := b_law (s2 := sh) (μ := μ0) (ν := μ) (G := G) hTx hTa GS he hB e38' hBt' hG0 f17 f18 hMo e79 hb6 hf.2
  have F10 : ∀ y, ¬ (b + 144 ≤ y ∧ y < b + 152) → μ1 y = μ y := fun y hy => (F1 y hy).trans (F0 y (by omega))
  -- the same text, read by the model behind the class
  have MODEL : ∀ (s2 : tw_Sh) (μe : Nat → Nat → Int32), tw_Mo s2 (b + 168) → (∀ y, y < b → s2 y = sh y) → (∀ y, y < b ∨ b + 168 ≤ y ∧ y < b + 182 → μe y = μ y) → ∃ C c N ν2, N ≤ 12 ∧ (ok = true → ∃ ν1, tw_LL b (b + 168) μ1 ν1 C c N ∧ (∀ q, q < 1341 → ν1 (b + 168 + 1) q = μ (b + 169) q) ∧ ν2 (b + 168 + 1) = tw_u1 (tw_lcp (tw_u1 (ν1 (b + 168 + 1)) 1341 (nI N)) 849) 2 (nI 1)) ∧ (ok = false → ∀ q, q < 1341 → ν2 (b + 168 + 1) q = μ (b + 169) q) ∧ (∀ y, y ≠ b + 168 → y ≠ b + 168 + 1 → ν2 y = μe y) ∧ (∀ q, q ≠ 70 → q ≠ 77 → q ≠ 79 → q ≠ 80 → q ≠ 81 → q ≠ 82 → q ≠ 83 → q ≠ 84 → q ≠ 86 → ν2 (b + 168) q = μ (b + 168) q) ∧ ν2 (b + 168) 84 = (if ok = true then mI else nI f) ∧ ν2 (b + 168) 77 = (if ok = true then nI 0 else μ (b + 168) 77) ∧ ν2 (b + 168) 70 = (if ok = true then nI 0 else nI 1) ∧ ν2 (b + 168) 79 = nI 0 ∧ ∀ la n (k : Int32 → tw_Mem → Prop), f_X12_law g (b + 168) k (s2, μe, la, n) = k (if ok = true then nI N else nI 0) (s2, ν2, la, n) := fun s2 μe hm2 hs2 hμe => by
    obtain ⟨ok', C', c', N', f', μ1', ν1, hN', hf4', y1, y2, y3, y4, y5, y6, y7, y8, EC', EM'⟩ := b_law (s2 := s2) (μ := μ0) (ν := μe) (G := G) hTx hTa GS he hB e38' hBt' hG0 f17 f18 hm2 (by rw [hμe _ (by omega)]; exact e79) (fun j hj => by rw [hμe _ (by omega)]; exact hb6 j hj) (fun y hy => ⟨(hs2 y hy).trans (hf.2 y hy).1, by rw [hμe _ (by omega)]; exact (hf.2 y hy).2⟩)
    obtain ⟨d1, d2⟩ := tw_det (F := f_X7_firstWrong1 g (b + 144) 12) EC EC'
    have hok : ok = ok' := by
      cases ok with
      | false =>
        cases ok' with
        | false => rfl
        | true =>
          rw [if_neg Bool.false_ne_true, if_pos rfl] at d1
          exact absurd d1 (by rw [mI_eq (by omega)]; exact id)
      | true =>
        cases ok' with
        | true => rfl
        | false =>
          rw [if_neg Bool.false_ne_true, if_pos rfl] at d1
          exact absurd d1.symm (by rw [mI_eq (by omega)]; exact id)
    subst hok
    subst d2
    have hff : ok = false → ν1 (b + 168) 82 = nI f := fun h => by
      rw [y7 h]
      subst h
      rw [if_neg Bool.false_ne_true, if_neg Bool.false_ne_true] at d1
      exact d1.symm
    obtain ⟨ν2, s1, s3, s4, s5, s6, s7, s8⟩ := m_law (g := g) (f := f) hm2 hN' EM' y6 hff
    refine ⟨C', c', N', ν2, hN', fun h => ⟨ν1, y1 h, fun q hq => ?_, ?_⟩, fun h q hq => ?_, fun y h1 h2 => (s1 y h1 h2).trans (y3 y h1 h2), fun q h1 h2 h3 h4 h5 h6 h7 h8 h9 => ?_, s5, ?_, s7, ?_, s8⟩
    · rw [y8 q hq, hμe _ (by omega)]
    · rw [s4, if_pos h]
    · rw [s4, h, if_neg Bool.false_ne_true, y8 q hq, hμe _ (by omega)]
    · rw [s3 q h1 h2 h8, y4 q h1 h3 h4 h5 h6 h7 h9, hμe _ (by omega)]
    · rw [s6, y4 77 (by omega) (by omega) (by omega) (by omega) (by omega) (by omega) (by omega), hμe _ (by omega)]
    · rw [s3 79 (by omega) (by omega) (by omega)]; exact y5
  have hneg : (-1 : Int32) = mI := rfl
  have n10 : ¬ (nI 1) = (0 : Int32) := by decide
  have hmIe : ¬ nI f = mI := by rw [mI_eq (by omega)]; exact id
  have EC0 := EC la n
  unfold f_Lc3 f_L_law f_X11_law f_X6_clear f_X1_clear f_X3_clear
  cases ok with
  | false =>
    simp only [if_neg Bool.false_ne_true] at EC0
    obtain ⟨C2, c2, N2, ν2, hN2, t1, t2, t3, t4, t5, t6, t7, t8, t9⟩ := MODEL sh (tw_up (tw_up μ1 b 69 (nI f)) (b + 1) 38 (0 : Int32)) hMo (fun _ _ => rfl) (fun y hy => by rw [tw_up_ne (by omega), tw_up_ne (by omega)]; exact F10 y (by omega))
    have r69 : tw_up (tw_up μ1 b 69 (nI f)) (b + 1) 38 (0 : Int32) b 69 = nI f := by rw [tw_up_ne (by omega)]; exact tw_ua
    rw [CxV0 hX, CxG0_62 hX, TxV1 hTx, TxP1_17 hTx, TxP1_18 hTx]
    try dsimp only
    rw [CxG0_62 hX, TxV1 hTx, ← eμ0, EC0, CxP0_69 hX, CxG0_56 hX, TaV0 hTa, TaP0_38 hTa, CxI0_69 hX, r69, A_if, hneg, if_neg hmIe, A_th]
    intro n' hn'
    rw [A_xc, if_pos rfl, MoV0 hMo, t9, MoV0 hMo]
    unfold f_X12_thrown
    rw [MoI0_70 hMo, t7.trans (if_neg Bool.false_ne_true)]
    show tw_if ((1 : Int32) = 1) _ _ _
    rw [A_if, if_pos rfl]
    show tw_if ((1 : Int32) = 0) _ _ _
    rw [A_if, if_neg (by decide)]
    show j () _
    refine hj _ (tw_IV_x hS W H HL HR HI hf ⟨0, by omega, ?_, t8, fun y hy => absurd hy (Nat.not_lt_zero y)⟩ (fun y h1 h2 h3 h4 h5 h6 h7 h8 h9 h10 h11 => ?_) (fun q hq => t2 rfl q hq) (fun q hq => ?_) ?_ ?_ ?_ hn')
    · rw [t3 _ (by omega) (by omega)]; exact tw_ua
    · rw [t3 y (by omega) (by omega), tw_up_ne (by omega), tw_up_ne (by omega)]; exact F10 y (by omega)
    · rw [t3 _ (by omega) (by omega), tw_up_ne (by omega), tw_uk (by omega), F10 _ (by omega)]
    · exact t4 76 (by omega) (by omega) (by omega) (by omega) (by omega) (by omega) (by omega) (by omega) (by omega)
    · rw [t6, if_neg Bool.false_ne_true]
    · rw [t5, if_neg Bool.false_ne_true, t3 _ (by omega) (by omega)]; exact r69
  | true =>
    simp only [if_true] at EC0
    obtain ⟨_, _, e17, e18, hc4⟩ : True ∧ True ∧ μ1 (b + 144) 17 = nI N ∧ μ1 (b + 144) 18 = nI c ∧ c ≤ 400 := ⟨trivial, trivial, (x1 rfl).1, (x1 rfl).2.2.1, (x1 rfl).2.2.2.1⟩
    obtain ⟨μb, eμb⟩ : ∃ μb, μb = tw_up (tw_up μ1 b 69 mI) (b + 1) 38 (0 : Int32) := ⟨_, rfl⟩
    have Fb : ∀ y, y ≠ b → y ≠ b + 1 → μb y = μ1 y := fun y h1 h2 => by rw [eμb, tw_up_ne h2, tw_up_ne h1]
    have r69 : μb b 69 = mI := by rw [eμb, tw_up_ne (by omega)]; exact tw_ua
    have r38 : μb (b + 1) 38 = nI 0 := by rw [eμb]; exact tw_ua
    obtain ⟨sn, μn, ln, n1, n2, n3, n4, n5, n6, n7, n8⟩ := c_newLaw (sh := sh) (μ := μb) (la := la) (n := n) (c := c) hTx hbn (by rw [Fb _ (by omega) (by omega)]; exact e18) hc4
    obtain ⟨sf, esf⟩ : ∃ sf, sf = tw_upR sn b 66 (some n) := ⟨_, rfl⟩
    have hXn : tw_Cx sn b := by
      have := hX
      unfold tw_Cx tw_is tw_rr at this ⊢
      simp (disch := omega) only [n1]
      exact this
    have hXk : tw_Cx (tw_xkS sh n (10, 0, fun _ => none)) b := by
      have := hX
      unfold tw_Cx tw_is tw_rr at this ⊢
      simp (disch := omega) only [tw_xkS_n]
      exact this
    have sfn : ∀ y, y ≠ b → sf y = sn y := fun y hy => by rw [esf]; exact tw_upR_ne hy
    have hXf : tw_Cx sf b := by rw [esf]; exact tw_Cx_up hXn (by omega)
    have f66 : tw_rr sf b 66 = some n := by rw [esf]; exact tw_rr_ups hXn.1
    have f67 : tw_rr sf b 67 = some kl := by rw [esf, tw_rr_upn (by omega), tw_rr_c (n1 b (by omega))]; exact hkl
    have E' : ∀ y, y ≠ b → y < n → sf y = sh y := fun y h1 h2 => (sfn y h1).trans (n1 y h2)
    have hSf : tw_SH sf a0 b n kl L (n + 6) := tw_SH_sh hS E' hXf f66 f67 (n + 6) (by omega) (Or.inr hbn) hklc (by omega) (by omega) (by omega)
    have hSf2 := hSf
    obtain ⟨_, _, _, ⟨hTaf, hTxf⟩, hTnf, _, _, hMef, _, _, _, _, _, hMof, hOuf, _⟩ := hSf2
    obtain ⟨μc, eμc⟩ : ∃ μc, μc = tw_up μn (b + 30) 23 (0 : Int32) := ⟨_, rfl⟩
    have Fc : ∀ y, y < n → y ≠ b + 30 → μc y = μb y := fun y h1 h2 => by rw [eμc, tw_up_ne h2]; exact n2 y h1
    have Lon : tw_Lo sf n := by
      have := n3
      unfold tw_Lo tw_is tw_ar tw_rr at this ⊢
      simp (disch := omega) only [sfn]
      exact this
    have arn : tw_ar sf (n + 5) 0 c := tw_ar_c n4 (sfn _ (by omega))
    have Fn : ∀ y, n ≤ y → μc y = μn y := fun y hy => by rw [eμc, tw_up_ne (by omega)]
    have cn0 : μc n 0 = nI N := by rw [Fn n (Nat.le_refl _), n5, Fb _ (by omega) (by omega)]; exact e17
    obtain ⟨C2, c2, N2, ν2, hN2, t1, t2, t3, t4, t5, t6, t7, t8, t9⟩ := MODEL sf μc hMof (fun y hy => E' y (by omega) (by omega)) (fun y hy => by rw [Fc y (by omega) (by omega), Fb y (by omega) (by omega)]; exact F10 y (by omega))
    obtain ⟨ν1, LL, g1, g2⟩ := t1 rfl
    -- the class's number of lines is the model's
    have eN : nI N2 = nI N := LL.1.symm.trans e17
    have ec2 : c2 = c := by
      have := LL.2.2.1.symm.trans e18
      rw [nz_eq (by have := LL.2.2.2.1; omega) (by omega)] at this
      exact this
    have fo0 : ∀ k : Int32 → tw_Mem → Prop, ∀ la n', tw_gi 0 n k (sf, μc, la, n') = k (μc n 0) (sf, μc, la, n') := fun k la n' => tw_gi_is (of_eq_true (tw_is_fo Lon.1 rfl rfl)) k
    have sl0 : ∀ (la : Nat → Nat → Int64) (n' : Nat) (f : Nat → Nat → Int32) (v : Int64) (K : tw_Mem → Prop), tw_sl (b + 181) (0 : Int32) v K (sf, f, la, n') = K (sf, f, tw_upL la (b + 181) 0 v, n') := fun la n' f v K => X_sl (i := 0) hOuf (by omega) (by decide) v K
    have ll0 : ∀ (la : Nat → Nat → Int64) (n' : Nat) (f : Nat → Nat → Int32) (v : Int64) (K : Int64 → tw_Mem → Prop), tw_ll (b + 181) (0 : Int32) K (sf, f, tw_upL la (b + 181) 0 v, n') = K v (sf, f, tw_upL la (b + 181) 0 v, n') := fun la n' f v K => by
      refine (X_ll (i := 0) hOuf (by omega) (by decide) K).trans ?_
      rw [tw_upLa]
    have FY : ∀ y, y < n → y ≠ b + 168 → y ≠ b + 169 → y ≠ b → y ≠ b + 1 → y ≠ b + 30 → ¬ (b + 144 ≤ y ∧ y < b + 152) → ν2 y = μ y := fun y h0 h1 h2 h3 h4 h5 h6 => by
      rw [t3 y h1 h2, Fc y h0 h5, Fb y h3 h4]
      exact F10 y h6
    have T2 : ν2 (b + 169) = tw_u1 (tw_lcp (tw_u1 (ν1 (b + 168 + 1)) 1341 (nI N2)) 849) 2 (nI 1) := g2
    have Tlo : ∀ q, q < 492 → q ≠ 2 → ν2 (b + 169) q = μ (b + 169) q := fun q h1 h2 => by
      rw [T2, tw_u1n (by omega)]
      show (if 492 ≤ q ∧ q < 492 + 849 then _ else tw_u1 (ν1 (b + 168 + 1)) 1341 (nI N2) q) = _
      rw [if_neg (by omega), tw_u1n (by omega)]
      exact g1 q (by omega)
    have T22 : ν2 (b + 169) 2 = nI 1 := by rw [T2]; exact tw_u1a
    have T492 : ν2 (b + 169) 492 = nI N2 := by
      rw [T2, tw_u1n (by omega)]
      show (if 492 ≤ 492 ∧ 492 < 492 + 849 then tw_u1 (ν1 (b + 168 + 1)) 1341 (nI N2) (492 + 849) else _) = _
      rw [if_pos (by omega)]
      exact tw_u1a
    have Thi : ∀ p, 493 ≤ p → p < 1341 → ν2 (b + 169) p = ν1 (b + 168 + 1) (p + 849) := fun p h1 h2 => by
      rw [T2, tw_u1n (by omega)]
      show (if 492 ≤ p ∧ p < 492 + 849 then tw_u1 (ν1 (b + 168 + 1)) 1341 (nI N2) (p + 849) else _) = _
      rw [if_pos (by omega), tw_u1n (by omega)]
    have La2 : tw_La sf ν2 n (ν2 (b + 169)) := by
      subst ec2
      refine tw_LL_La (m := b + 168) (b := b) LL T22 T492 Thi Lon arn ?_ (fun q hq => ?_) (fun q hq => ?_)
      · rw [t3 _ (by omega) (by omega), cn0]; exact eN.symm
      · obtain ⟨z1, z2, z3⟩ := n6 q hq
        rw [t3 _ (by omega) (by omega), t3 _ (by omega) (by omega), t3 _ (by omega) (by omega), Fn _ (by omega), Fn _ (by omega), Fn _ (by omega), z1, z2, z3, Fb _ (by omega) (by omega), Fb _ (by omega) (by omega), Fb _ (by omega) (by omega)]
        exact ⟨rfl, rfl, rfl⟩
      · rw [t3 _ (by omega) (by omega), Fn _ (by omega), n7 q hq, Fb _ (by omega) (by omega)]
    have fin : ∀ la', j () (sf, ν2, la', n + 6) := fun la' => by
      refine hj _ ⟨n, kl, P, hSf, ?_, ?_, La2, ?_, ?_, ?_, ?_⟩
      · show tw_WF (ν2 (b + 169)) P
        obtain ⟨w0, w1, w2, w3, w4, w5, w6, w7, w8, w9, w10⟩ := W
        refine ⟨?_, w1, ?_, ?_, ?_, ?_, ?_, ?_, ?_, ?_, ?_⟩
        · simp (disch := omega) only [Tlo]; exact w0
        · simp (disch := omega) only [Tlo]; exact w2
        · simp (disch := omega) only [Tlo]; exact w3
        · simp (disch := omega) only [Tlo]; exact w4
        · simp (disch := omega) only [Tlo]; exact w5
        · simp (disch := omega) only [Tlo]; exact w6
        · intro q hq; simp (disch := omega) only [Tlo]; exact w7 q hq
        · intro q r hq hr; simp (disch := omega) only [Tlo]; exact w8 q r hq hr
        · intro q hq; simp (disch := omega) only [Tlo]; exact w9 q hq
        · intro k z h61 hz hk
          rw [Tlo 6 (by omega) (by omega)] at hz
          simp (disch := omega) only [Tlo]
          exact w10 k z h61 hz hk
      · show tw_RC sf ν2 (b + 3) (ν2 (b + 169))
        have H1 : tw_RC sf ν2 (b + 3) (μ (b + 169)) := tw_RC_sh (Rc_same H (fun y h1 h2 => FY y (by omega) (by omega) (by omega) (by omega) (by omega) (by omega) (by omega))) (fun y h1 h2 => E' y (by omega) (by omega))
        obtain ⟨h1, h2, h3, ⟨s', hs', f1, f2⟩, h5, h6, ⟨x', hx', g3, g4⟩⟩ := H1
        refine ⟨h1, ?_, ?_, ⟨s', hs', f1, ?_⟩, ?_, ?_, ⟨x', hx', g3, ?_⟩⟩
        · simp (disch := omega) only [Tlo]; exact h2
        · intro q hq; simp (disch := omega) only [Tlo]; exact h3 q hq
        · intro q hq; simp (disch := omega) only [Tlo]; exact f2 q hq
        · intro q r hq hr; simp (disch := omega) only [Tlo]; exact h5 q r hq hr
        · intro l2 q hl2 hq; simp (disch := omega) only [Tlo]; exact h6 l2 q hl2 hq
        · intro k z h61 hz hk
          rw [Tlo 6 (by omega) (by omega)] at hz
          have r := g4 k z h61 hz hk
          unfold tw_row at r ⊢
          simp (disch := omega) only [Tlo]
          exact r
      · obtain ⟨r, xr, A, ⟨hr, hx, e1, e2, e4⟩, ⟨e3, e5⟩, e6⟩ := HR
        refine ⟨0, xr, A, ⟨by omega, hx, ?_, ?_, fun k hk => absurd hk (Nat.not_lt_zero k)⟩, ⟨?_, fun k hk => absurd hk (Nat.not_lt_zero k)⟩, fun k hk => absurd hk (Nat.not_lt_zero k)⟩
        · show ν2 (b + 30) 23 = nI 0
          rw [t3 _ (by omega) (by omega), eμc]; exact tw_ua
        · show ν2 (b + 30) 24 = nI xr
          rw [t3 _ (by omega) (by omega), eμc, tw_uk (by omega), n2 _ (by omega), Fb _ (by omega) (by omega), F10 _ (by omega)]; exact e2
        · exact t6.trans (if_pos rfl)
      · refine tw_IM_sh (tw_IM_same HI (fun x hx => FY x (by omega) (by omega) (by omega) (by omega) (by omega) (by omega) (by omega)) ?_ (t4 76 (by omega) (by omega) (by omega) (by omega) (by omega) (by omega) (by omega) (by omega) (by omega))) (fun x h1 h2 => E' x (by omega) (by omega)) (fun x h1 h2 => E' x (by omega) (by omega))
        show ν2 b 68 = μ b 68
        rw [t3 _ (by omega) (by omega), Fc _ (by omega) (by omega), eμb, tw_up_ne (by omega), tw_uk (by omega), F10 _ (by omega)]
      · refine ⟨0, by omega, ?_, t8, fun y hy => absurd hy (Nat.not_lt_zero y)⟩
        show ν2 (b + 1) 38 = nI 0
        rw [t3 _ (by omega) (by omega), Fc _ (by omega) (by omega)]; exact r38
      · refine ⟨?_, fun x hx => ⟨(E' x (by omega) (by omega)).trans (hf.2 x hx).1, (FY x (by omega) (by omega) (by omega) (by omega) (by omega) (by omega) (by omega)).trans (hf.2 x hx).2⟩⟩
        show ν2 b 69 = ν2 (b + 168) 84
        rw [t5, if_pos rfl, t3 _ (by omega) (by omega), Fc _ (by omega) (by omega)]
        exact r69
    rw [CxV0 hX, CxG0_62 hX, TxV1 hTx, TxP1_17 hTx, TxP1_18 hTx]
    try dsimp only
    rw [CxG0_62 hX, TxV1 hTx, ← eμ0, EC0, CxP0_69 hX, CxG0_56 hX, TaV0 hTa, TaP0_38 hTa, CxI0_69 hX, ← eμb, r69, A_if, hneg, if_pos rfl, A_nw1, CxG0_62 hXk, n8]
    try dsimp only
    rw [tw_pr_is hXn.1 rfl rfl, ← esf, CxG0_60 hXf, MeV0 hMef, MeP0_23 hMef]
    try dsimp only
    rw [← eμc, tw_gr_is ⟨of_eq_true (Cx_f0_66 hXf), f66⟩, fo0, cn0, sl0, MoV0 hMof, t9, if_pos rfl, eN, MoV0 hMof]
    unfold f_X12_thrown
    rw [MoI0_70 hMof, t7, if_pos rfl]
    simp only [↓A_if, ↓A_jn, ↓ll0, tw_cmp0, if_true, if_false]
    exact fin _
end P99x
