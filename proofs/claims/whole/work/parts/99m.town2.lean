/-! ===== pure: the law's steps, town, at last ===== -/
section P99m
variable {sh : tw_Sh} {μ ν μ' : Nat → Nat → Int32} {la : Nat → Nat → Int64} {n a b w m lw P N L a0 e : Nat} {p o l h i z c x y q kd t r s f : Nat} {T T' : Nat → Int32} {v u rg tn : Int32} {j : Unit → tw_Mem → Prop} {G : tw_Gm} {g : tw_Gx}
theorem L2 (GS : tw_GS g G b) (hI : tw_IV G a0 b L (sh, μ, la, n)) (hi : i + 6 ≤ L) (hj : ∀ M, tw_IV G a0 b L M → j () M) (k : Int32 → tw_Mem → Prop) : f_Lc2 g a0 b (b + 168) (b + 181) (nI i) j k (sh, μ, la, n) := by
  obtain ⟨lw, kl, P, hS, W, H, HL, HR, HI, HT, hf⟩ := tw_IV_e hI
  have hS2 := hS
  obtain ⟨hX, hlw, hkl, ⟨hTa, hTx⟩, hTn, hTs, hTk, hMe, hMi, hMt, hTw, hPa, hSe, hMo, hOu, hSc, hL3, hab, hlwc, hklc, hlwn, hkln, hbn, hlk⟩ := hS2
  obtain ⟨e, B, he, e38, e79, hB, hBt, hb6⟩ := tw_TP_B HT
  obtain ⟨t, ht2, ht⟩ := W.2.2.2.2.2.2.1
  obtain ⟨T, hT⟩ : ∃ T, T = μ (b + 169) := ⟨_, rfl⟩
  have hT9 : μ (b + 168 + 1) = T := hT.symm
  have W0 := W
  have H0 := H
  have HL0 := HL
  rw [← hT] at W H HL ht
  obtain ⟨μa, Ea, Fa, Ra⟩ := c_take (μ := μ) (la := la) (n := n) hTs H (Or.inr (by omega))
  have hGa : tw_GH G sh μa b := fun y hy => ⟨(hf.2 y hy).1, (Fa y (by omega)).trans (hf.2 y hy).2⟩
  obtain ⟨ok, T', P', N, f, μc, hLi, hN, Fc, Rc, hf4, EC, EM⟩ := b_town (G := G) hTx hTa GS W he hB (by rw [Fa _ (by omega)]; exact e38) (by rw [Fa _ (by omega)]; exact hBt) hGa Ra
  have Fac : ∀ y, ¬ (b + 12 ≤ y ∧ y < b + 21) → ¬ (b + 140 ≤ y ∧ y < b + 144) → μc y = μ y := fun y h1 h2 => (Fc y h1 h2).trans (Fa y (by omega))
  have MODEL : ∀ μe : Nat → Nat → Int32, (∀ y, y < b ∨ b + 168 ≤ y → μe y = μ y) → ∃ ν2, (∀ y, y ≠ b + 168 → y ≠ b + 168 + 1 → y ≠ b + 168 + 3 → ν2 y = μe y) ∧ (∀ q, q ≠ 70 → q ≠ 77 → q ≠ 79 → q ≠ 80 → q ≠ 81 → q ≠ 82 → q ≠ 84 → q ≠ 86 → ν2 (b + 168) q = μ (b + 168) q) ∧ ν2 (b + 168 + 1) = (if ok = true ∧ t < 12 then tw_u1 T' 1 (nI (t + 1)) else T) ∧ ν2 (b + 168) 84 = (if ok = true then mI else nI f) ∧ ν2 (b + 168) 77 = (if ok = true ∧ t < 12 then nI 0 else μ (b + 168) 77) ∧ ν2 (b + 168) 70 = (if ok = true then (if t < 12 then nI 0 else nI 2) else nI 1) ∧ ν2 (b + 168) 79 = nI 0 ∧ ∀ la n (k : Int32 → tw_Mem → Prop), f_X12_town g (b + 168) k (sh, μe, la, n) = k (if ok = true ∧ t < 12 then nI (t + 1) else nI 0) (sh, ν2, la, n) := fun μe hμe => by
    have g1 : μe (b + 168 + 1) = T := (hμe _ (by omega)).trans hT9
    obtain ⟨ν', r1, r2, r3, r79, r70, r82, hR⟩ := EM (tw_ra μe (b + 168 + 3) (tw_cj (μe (b + 168 + 3)) T 1341)) hMo (by rw [tw_ra_nj (by omega), hμe _ (by omega)]; exact e79) (fun j hj => by rw [tw_ra_nj (by omega), hμe _ (by omega)]; exact hb6 j hj) (fun y hy => ⟨(hf.2 y hy).1, by rw [tw_ra_n (by omega), hμe _ (by omega)]; exact (hf.2 y hy).2⟩) (by rw [tw_ra_n (by omega)]; exact g1)
    obtain ⟨ν2, s1, s2, s3, s4, s5, s6, s7⟩ := m_town (g := g) (f := f) hMo g1 ht ht2 hLi hN hR r1 r2 r70 r82
    refine ⟨ν2, fun y h1 h2 h3 => ?_, fun q h1 h2 h3 h4 h5 h6 h7 h8 => ?_, s3, s4, ?_, s6, ?_, s7⟩
    · rw [s1 y h1 h2, r2 y h1 h2, tw_ra_n (by omega)]
    · rw [s2 q h1 h2 h7, r3 q h1 h3 h4 h5 h6 h8, tw_ra_nj (by omega), hμe _ (by omega)]
    · rw [s5, r3 77 (by omega) (by omega) (by omega) (by omega) (by omega) (by omega), tw_ra_nj (by omega), hμe _ (by omega)]
    · rw [s2 79 (by omega) (by omega) (by omega)]; exact r79
  have hiv12 := fun {μ : Nat → Nat → Int32} (F : tw_Mem → Prop) => show tw_iv 7 (b + 12) F (sh, μ, la, n) = F (sh, μ, la, n) by rw [A_iv, Tn_is hTs, true_and]
  have hiv3 := fun {μ : Nat → Nat → Int32} (F : tw_Mem → Prop) => show tw_iv 7 (b + 3) F (sh, μ, la, n) = F (sh, μ, la, n) by rw [A_iv, Tn_is hTn, true_and]
  have g52 := fun {μ : Nat → Nat → Int32} (k : Int32 → tw_Mem → Prop) => tw_gi_is (sh := sh) (μ := μ) (la := la) (n := n) (q := 52) (y := b + 3) (of_eq_true (Tn_f52 hTn)) k
  have p52 := fun {μ : Nat → Nat → Int32} (v : Int32) (k : tw_Mem → Prop) => tw_pi_is (sh := sh) (μ := μ) (la := la) (n := n) (q := 52) (y := b + 3) (of_eq_true (Tn_f52 hTn)) v k
  have EC' := EC la n
  have hlk2 := hlk
  have hmIe : ¬ nI f = mI := by rw [mI_eq (by omega)]; exact id
  have hneg : (-1 : Int32) = mI := rfl
  have l12 : (12 : Int32) = nI 12 := rfl
  have n10 : ¬ (nI 1) = (0 : Int32) := by decide
  unfold f_Lc2 f_L_town f_X11_town f_X6_clear f_X3_clear
  cases ok with
  | false =>
    simp only [if_neg (show ¬ false = true by decide)] at EC'
    obtain ⟨ν2, s1, s2, s3, s4, s5, s6, s79, s7⟩ := MODEL (tw_up (tw_up μc b 69 (nI f)) (b + 1) 38 (0 : Int32)) (fun y hy => by rw [tw_up_ne (by omega), tw_up_ne (by omega)]; exact Fac y (by omega) (by omega))
    have r69 : tw_up (tw_up μc b 69 (nI f)) (b + 1) 38 (0 : Int32) b 69 = nI f := by rw [tw_up_ne (by omega)]; exact tw_ua
    simp only [↓Ea, ↓EC', ↓hiv12, ↓hiv3, ↓TxV0 hTx, hneg, r69, hmIe, ↓A_th, ↓A_xc, ↓CxV0 hX, ↓CxG0_56 hX, ↓CxG0_57 hX, ↓CxG0_58 hX, ↓CxG0_59 hX, ↓CxG0_60 hX, ↓CxG0_61 hX, ↓CxG0_62 hX, ↓CxG0_63 hX, ↓CxG0_64 hX, ↓CxG0_65 hX, ↓CxI0_68 hX, ↓CxP0_68 hX, ↓CxZ0_68 hX, ↓CxI0_69 hX, ↓CxP0_69 hX, ↓CxZ0_69 hX, ↓TaV0 hTa, ↓TaG0_37 hTa, ↓TaI0_38 hTa, ↓TaP0_38 hTa, ↓TaZ0_38 hTa, ↓TaL0 hTa, ↓TaS0 hTa, ↓A_if, ↓A_jn, ↓A_lt, ↓A_rz, ↓A_rn, ↓A_nzi, ↓A_nzl, ↓A_nn1, ↓A_nn0, ↓reduceIte, true_and, and_true, if_true, if_false, ite_true, ite_false, reduceIte]
    intro n' hn'
    rw [MoV0 hMo, s7, MoV0 hMo]
    unfold f_X12_thrown
    rw [MoI0_70 hMo, s6.trans (if_neg Bool.false_ne_true)]
    show tw_if ((1 : Int32) = 1) _ _ _
    rw [A_if, if_pos rfl]
    show tw_if ((1 : Int32) = 0) _ _ _
    rw [A_if, if_neg (by decide)]
    show j () _
    refine hj _ (tw_IV_x hS W0 H0 HL0 HR HI hf ⟨0, by omega, ?_, s79, fun y hy => absurd hy (Nat.not_lt_zero y)⟩ (fun y h1 h2 h3 h4 h5 h6 h7 h8 h9 h10 h11 => ?_) (fun q hq => ?_) (fun q hq => ?_) ?_ ?_ ?_ hn')
    · rw [s1 _ (by omega) (by omega) (by omega)]; exact tw_ua
    · rw [s1 y (by omega) (by omega) (by omega), tw_up_ne (by omega), tw_up_ne (by omega)]; exact Fac y (by omega) (by omega)
    · show ν2 (b + 168 + 1) q = _
      rw [s3, if_neg (fun g => Bool.false_ne_true g.1), hT]
    · rw [s1 _ (by omega) (by omega) (by omega), tw_up_ne (by omega), tw_uk (by omega), Fac _ (by omega) (by omega)]
    · exact s2 76 (by omega) (by omega) (by omega) (by omega) (by omega) (by omega) (by omega) (by omega)
    · rw [s5, if_neg (fun g => Bool.false_ne_true g.1)]
    · rw [s4, if_neg Bool.false_ne_true, s1 _ (by omega) (by omega) (by omega)]; exact r69
  | true =>
    simp only [if_true] at EC'
    have hc52 : ∀ v, tw_up (tw_up μc b 69 v) (b + 1) 38 (0 : Int32) (b + 3) 52 = nI t := fun v => by rw [tw_up_ne (by omega), tw_up_ne (by omega), Fac _ (by omega) (by omega)]; exact (Rc_52 H).trans ht
    have r69 : tw_up (tw_up μc b 69 mI) (b + 1) 38 (0 : Int32) b 69 = mI := by rw [tw_up_ne (by omega)]; exact tw_ua
    by_cases h12 : t < 12
    · have hlt : nI t < nI 12 := by rw [nz_lt (by omega) (by omega)]; exact h12
      obtain ⟨μg, Eg, Fg, Rg⟩ := c_take (μ := tw_up (tw_up μc b 69 mI) (b + 1) 38 (0 : Int32)) (la := la) (n := n) hTn (Rc_same Rc (fun y h1 h2 => by rw [tw_up_ne (by omega), tw_up_ne (by omega)])) (Or.inl (by omega))
      have ht' : T' 1 = nI t := hLi.2.1.trans ht
      have e1 : nI t + (1 : Int32) = nI (t + 1) := nI_add t 1
      have g52' : μg (b + 3) 52 = nI t := (Rc_52 Rg).trans ht'
      have R2 := Rc_set52 Rg (nI (t + 1))
      obtain ⟨ν2, s1, s2, s3, s4, s5, s6, s79, s7⟩ := MODEL (tw_up (tw_up μg (b + 3) 52 (nI (t + 1))) (b + 30) 23 (0 : Int32)) (fun y hy => by rw [tw_up_ne (by omega), tw_up_ne (by omega), Fg y (by omega), tw_up_ne (by omega), tw_up_ne (by omega)]; exact Fac y (by omega) (by omega))
      have g52'' : tw_up (tw_up μg (b + 3) 52 (nI (t + 1))) (b + 30) 23 (0 : Int32) (b + 3) 52 = nI (t + 1) := by rw [tw_up_ne (by omega)]; exact tw_ua
      have yc : true = true ∧ t < 12 := ⟨rfl, h12⟩
      have sl0 : ∀ (f : Nat → Nat → Int32) (v : Int64) (K : tw_Mem → Prop), tw_sl (b + 181) (0 : Int32) v K (sh, f, la, n) = K (sh, f, tw_upL la (b + 181) 0 v, n) := fun f v K => X_sl (i := 0) hOu (by omega) (by decide) v K
      simp only [↓Ea, ↓EC', ↓hiv12, ↓hiv3, ↓g52, ↓p52, hc52, l12, hlt, ↓TxV0 hTx, hneg, r69, ↓Eg, g52', e1, g52'', ↓MeV0 hMe, ↓MeP0_23 hMe, ↓sl0, ↓CxV0 hX, ↓CxG0_56 hX, ↓CxG0_57 hX, ↓CxG0_58 hX, ↓CxG0_59 hX, ↓CxG0_60 hX, ↓CxG0_61 hX, ↓CxG0_62 hX, ↓CxG0_63 hX, ↓CxG0_64 hX, ↓CxG0_65 hX, ↓CxI0_68 hX, ↓CxP0_68 hX, ↓CxZ0_68 hX, ↓CxI0_69 hX, ↓CxP0_69 hX, ↓CxZ0_69 hX, ↓TaV0 hTa, ↓TaG0_37 hTa, ↓TaI0_38 hTa, ↓TaP0_38 hTa, ↓TaZ0_38 hTa, ↓TaL0 hTa, ↓TaS0 hTa, ↓A_if, ↓A_jn, ↓A_lt, ↓A_rz, ↓A_rn, ↓A_nzi, ↓A_nzl, ↓A_nn1, ↓A_nn0, ↓reduceIte, true_and, and_true, if_true, if_false, ite_true, ite_false, reduceIte]
      rw [MoV0 hMo, s7, MoV0 hMo]
      unfold f_X12_thrown
      rw [MoI0_70 hMo, (s6.trans (if_pos rfl)).trans (if_pos h12), if_pos yc]
      have ll0 : ∀ (f : Nat → Nat → Int32) (v : Int64) (K : Int64 → tw_Mem → Prop), tw_ll (b + 181) (0 : Int32) K (sh, f, tw_upL la (b + 181) 0 v, n) = K v (sh, f, tw_upL la (b + 181) 0 v, n) := fun f v K => by
        refine (X_ll (i := 0) hOu (by omega) (by decide) K).trans ?_
        rw [tw_upLa]
      have FY : ∀ y, y ≠ b + 168 → y ≠ b + 168 + 1 → y ≠ b + 168 + 3 → ¬ (b + 3 ≤ y ∧ y < b + 12) → y ≠ b + 30 → y ≠ b → y ≠ b + 1 → ¬ (b + 12 ≤ y ∧ y < b + 21) → ¬ (b + 140 ≤ y ∧ y < b + 144) → ν2 y = μ y := fun y h1 h2 h3 h4 h5 h6 h7 h8 h9 => by
        rw [s1 y h1 h2 h3, tw_up_ne h5, tw_up_ne (by omega), Fg y (by omega), tw_up_ne h7, tw_up_ne h6]
        exact Fac y h8 h9
      have s3' : ν2 (b + 169) = tw_u1 T' 1 (nI (t + 1)) := s3.trans (if_pos yc)
      have fin : j () (sh, ν2, tw_upL la (b + 181) 0 (nI (t + 1)).toInt64, n) := by
        refine hj _ ⟨lw, kl, P', hS, ?_, ?_, ?_, ?_, ?_, ?_, ?_⟩
        · show tw_WF (ν2 (b + 169)) P'
          rw [s3']; exact Wf_s1 hLi.1 (by omega)
        · show tw_RC sh ν2 (b + 3) (ν2 (b + 169))
          rw [s3']
          exact Rc_same R2 (fun y h1 h2 => by rw [s1 y (by omega) (by omega) (by omega), tw_up_ne (by omega)])
        · show tw_La sh ν2 lw (ν2 (b + 169))
          rw [s3']
          exact tw_La_ext HL (fun x hx => FY x (by omega) (by omega) (by omega) (by omega) (by omega) (by omega) (by omega) (by omega) (by omega)) (by rw [tw_u1n (by omega)]; exact hLi.2.2.1) (fun q h1 h2 => by rw [tw_u1n (by omega)]; exact hLi.2.2.2 q h1)
        · obtain ⟨r, xr, A, ⟨hr, hx, e1, e2, e4⟩, ⟨e3, e5⟩, e6⟩ := HR
          refine ⟨0, xr, A, ⟨by omega, hx, ?_, ?_, fun k hk => absurd hk (Nat.not_lt_zero k)⟩, ⟨?_, fun k hk => absurd hk (Nat.not_lt_zero k)⟩, fun k hk => absurd hk (Nat.not_lt_zero k)⟩
          · show ν2 (b + 30) 23 = nI 0
            rw [s1 _ (by omega) (by omega) (by omega)]; exact tw_ua
          · show ν2 (b + 30) 24 = nI xr
            rw [s1 _ (by omega) (by omega) (by omega), tw_uk (by omega), tw_up_ne (by omega), Fg _ (by omega), tw_up_ne (by omega), tw_up_ne (by omega), Fac _ (by omega) (by omega)]; exact e2
          · exact s5.trans (if_pos yc)
        · refine tw_IM_same HI (fun x hx => FY x (by omega) (by omega) (by omega) (by omega) (by omega) (by omega) (by omega) (by omega) (by omega)) ?_ (s2 76 (by omega) (by omega) (by omega) (by omega) (by omega) (by omega) (by omega) (by omega))
          show ν2 b 68 = μ b 68
          rw [s1 _ (by omega) (by omega) (by omega), tw_up_ne (by omega), tw_up_ne (by omega), Fg _ (by omega), tw_up_ne (by omega), tw_uk (by omega), Fac _ (by omega) (by omega)]
        · refine ⟨0, by omega, ?_, s79, fun y hy => absurd hy (Nat.not_lt_zero y)⟩
          show ν2 (b + 1) 38 = nI 0
          rw [s1 _ (by omega) (by omega) (by omega), tw_up_ne (by omega), tw_up_ne (by omega), Fg _ (by omega)]; exact tw_ua
        · refine ⟨?_, fun x hx => ⟨(hf.2 x hx).1, (FY x (by omega) (by omega) (by omega) (by omega) (by omega) (by omega) (by omega) (by omega) (by omega)).trans (hf.2 x hx).2⟩⟩
          show ν2 b 69 = ν2 (b + 168) 84
          rw [s4, if_pos rfl, s1 _ (by omega) (by omega) (by omega), tw_up_ne (by omega), tw_up_ne (by omega), Fg _ (by omega)]
          exact r69
      simp only [↓A_if, ↓A_jn, ↓ll0, tw_cmp0, if_true, if_false]
      exact fin
    · have hlt : ¬ nI t < nI 12 := by rw [nz_lt (by omega) (by omega)]; exact h12
      obtain ⟨ν2, s1, s2, s3, s4, s5, s6, s79, s7⟩ := MODEL (tw_up (tw_up μc b 69 mI) (b + 1) 38 (0 : Int32)) (fun y hy => by rw [tw_up_ne (by omega), tw_up_ne (by omega)]; exact Fac y (by omega) (by omega))
      have nc : ¬ (true = true ∧ t < 12) := fun g => h12 g.2
      simp only [↓Ea, ↓EC', ↓hiv12, ↓hiv3, ↓g52, hc52, l12, hlt, ↓TxV0 hTx, hneg, r69, ↓A_th, ↓A_xc, tw_xE4, ↓CxV0 hX, ↓CxG0_56 hX, ↓CxG0_57 hX, ↓CxG0_58 hX, ↓CxG0_59 hX, ↓CxG0_60 hX, ↓CxG0_61 hX, ↓CxG0_62 hX, ↓CxG0_63 hX, ↓CxG0_64 hX, ↓CxG0_65 hX, ↓CxI0_68 hX, ↓CxP0_68 hX, ↓CxZ0_68 hX, ↓CxI0_69 hX, ↓CxP0_69 hX, ↓CxZ0_69 hX, ↓TaV0 hTa, ↓TaG0_37 hTa, ↓TaI0_38 hTa, ↓TaP0_38 hTa, ↓TaZ0_38 hTa, ↓TaL0 hTa, ↓TaS0 hTa, ↓A_if, ↓A_jn, ↓A_lt, ↓A_rz, ↓A_rn, ↓A_nzi, ↓A_nzl, ↓A_nn1, ↓A_nn0, ↓reduceIte, true_and, and_true, if_true, if_false, ite_true, ite_false, reduceIte]
      intro n' hn'
      rw [MoV0 hMo, s7, MoV0 hMo]
      unfold f_X12_thrown
      rw [MoI0_70 hMo, (s6.trans (if_pos rfl)).trans (if_neg h12)]
      show tw_if ((2 : Int32) = 2) _ _ _
      rw [A_if, if_pos rfl]
      show tw_if ((2 : Int32) = 0) _ _ _
      rw [A_if, if_neg (by decide)]
      show j () _
      refine hj _ (tw_IV_x hS W0 H0 HL0 HR HI hf ⟨0, by omega, ?_, s79, fun y hy => absurd hy (Nat.not_lt_zero y)⟩ (fun y h1 h2 h3 h4 h5 h6 h7 h8 h9 h10 h11 => ?_) (fun q hq => ?_) (fun q hq => ?_) ?_ ?_ ?_ hn')
      · rw [s1 _ (by omega) (by omega) (by omega)]; exact tw_ua
      · rw [s1 y (by omega) (by omega) (by omega), tw_up_ne (by omega), tw_up_ne (by omega)]; exact Fac y (by omega) (by omega)
      · show ν2 (b + 168 + 1) q = _
        rw [s3, if_neg nc, hT]
      · rw [s1 _ (by omega) (by omega) (by omega), tw_up_ne (by omega), tw_uk (by omega), Fac _ (by omega) (by omega)]
      · exact s2 76 (by omega) (by omega) (by omega) (by omega) (by omega) (by omega) (by omega) (by omega)
      · rw [s5, if_neg nc]
      · rw [s4, if_pos rfl, s1 _ (by omega) (by omega) (by omega)]; exact r69
end P99m
