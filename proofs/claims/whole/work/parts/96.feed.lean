/-! ===== pure: the law's steps, feed ===== -/
/-- byte c of a number, the greatest first -/
def tw_by4 (v : Int32) (c : Nat) : Nat := (v.toUInt32.toNat >>> (24 - 8 * c)) % 256
theorem tw_by4_l (v : Int32) (c : Nat) : tw_by4 v c < 256 := Nat.mod_lt _ (by omega)
theorem tw_u32 (u : UInt32) : u.toInt32 = nI u.toNat := by
  apply Int32.toBitVec_inj.mp
  show u.toBitVec = BitVec.ofNat 32 u.toNat
  apply BitVec.eq_of_toNat_eq
  rw [BitVec.toNat_ofNat]
  show u.toBitVec.toNat = u.toBitVec.toNat % 2 ^ 32
  rw [Nat.mod_eq_of_lt u.toBitVec.isLt]
theorem tw_by4_c (v : Int32) {c : Nat} (hc : c < 4) : ((v.toUInt32 >>> ((nI (24 - 8 * c)).toUInt32 &&& Int32.toUInt32 31)).toInt32) &&& nI 255 = nI (tw_by4 v c) := by
  have e : ((nI (24 - 8 * c)).toUInt32 &&& Int32.toUInt32 31).toNat % 32 = 24 - 8 * c := by
    rcases (by omega : c = 0 ∨ c = 1 ∨ c = 2 ∨ c = 3) with rfl | rfl | rfl | rfl <;> decide
  rw [tw_u32, nI_and]
  congr 1
  rw [show (255 : Nat) = 2 ^ 8 - 1 by decide, Nat.and_two_pow_sub_one_eq_mod, UInt32.toNat_shiftRight, e]
  rfl
theorem tw_nar_m (x : Int32) : vp_nar .byte x = vp_nar .byte (nI (x.toUInt32.toNat % 256)) := by
  show (x.toInt8).toInt32 = ((nI (x.toUInt32.toNat % 256)).toInt8).toInt32
  congr 1
  apply Int8.toBitVec_inj.mp
  show x.toBitVec.signExtend 8 = (BitVec.ofNat 32 (x.toBitVec.toNat % 256)).signExtend 8
  apply BitVec.eq_of_getLsbD_eq
  intro i hi
  rw [BitVec.getLsbD_signExtend, BitVec.getLsbD_signExtend]
  have h32 : i < 32 := by omega
  simp only [hi, h32, decide_true, Bool.true_and, if_true]
  rw [BitVec.getLsbD_ofNat, decide_eq_true h32, Bool.true_and]
  show x.toBitVec.toNat.testBit i = (x.toBitVec.toNat % 2 ^ 8).testBit i
  rw [Nat.testBit_mod_two_pow, decide_eq_true hi, Bool.true_and]
theorem tw_by4_m (v : Int32) {c : Nat} (hc : c < 4) : vp_nar .byte (((v >>> (nI (24 - 8 * c) &&& 31)).toInt8).toInt32) = vp_nar .byte (nI (tw_by4 v c)) := by
  have h1 : ∀ x : Int32, vp_nar .byte (x.toInt8.toInt32) = vp_nar .byte x := fun x => by
    show ((x.toInt8.toInt32).toInt8).toInt32 = (x.toInt8).toInt32
    congr 1
    apply Int8.toBitVec_inj.mp
    show ((x.toBitVec.signExtend 8).signExtend 32).signExtend 8 = x.toBitVec.signExtend 8
    apply BitVec.eq_of_getLsbD_eq
    intro i hi
    have h32 : i < 32 := by omega
    simp only [BitVec.getLsbD_signExtend, hi, h32, decide_true, Bool.true_and, if_true]
  have e : ((nI (24 - 8 * c) &&& 31).toBitVec.smod 32).toNat = 24 - 8 * c := by
    rcases (by omega : c = 0 ∨ c = 1 ∨ c = 2 ∨ c = 3) with rfl | rfl | rfl | rfl <;> decide
  rw [h1, tw_nar_m, tw_nar_m (nI (tw_by4 v c))]
  congr 2
  have e2 : (nI (tw_by4 v c)).toUInt32.toNat = tw_by4 v c := by
    show (BitVec.ofNat 32 (tw_by4 v c)).toNat = _
    rw [BitVec.toNat_ofNat, Nat.mod_eq_of_lt (by have := tw_by4_l v c; omega)]
  rw [e2, Nat.mod_eq_of_lt (tw_by4_l v c)]
  unfold tw_by4
  apply Nat.eq_of_testBit_eq
  intro i
  rw [show (256 : Nat) = 2 ^ 8 by decide, Nat.testBit_mod_two_pow, Nat.testBit_mod_two_pow]
  by_cases hi : i < 8
  · rw [decide_eq_true hi, Bool.true_and, Bool.true_and, Nat.testBit_shiftRight]
    show (v.toBitVec.sshiftRight ((nI (24 - 8 * c) &&& 31).toBitVec.smod 32).toNat).getLsbD i = v.toBitVec.getLsbD (24 - 8 * c + i)
    rw [e, BitVec.getLsbD_sshiftRight]
    have h1 : ¬ 32 ≤ i := by omega
    have h2 : 24 - 8 * c + i < 32 := by omega
    simp [h1, h2]
  · rw [decide_eq_false hi, Bool.false_and, Bool.false_and]
section P96
variable {sh : tw_Sh} {μ ν ν2 : Nat → Nat → Int32} {la : Nat → Nat → Int64} {n a b w m lw P N L a0 e : Nat} {p o l h i z c x y q kd t r s : Nat} {T T' : Nat → Int32} {v u rg tn : Int32} {j : Unit → tw_Mem → Prop} {G : tw_Gm}
theorem c_add4 (hTa : tw_Ta sh (b + 1)) (e38 : μ (b + 1) 38 = nI e) (he : e + 4 ≤ 400) : ∃ μ', ((∀ y, y ≠ b + 1 → y ≠ b + 2 → μ' y = μ y) ∧ μ' (b + 1) 38 = nI (e + 4) ∧ (∀ c, c < 4 → μ' (b + 2) (e + c) = nI (tw_by4 v c)) ∧ ∀ q, q < e → μ' (b + 2) q = μ (b + 2) q) ∧ ∀ k, f_X6_add (b + 1) v k (sh, μ, la, n) = k () (sh, μ', la, n) := by
  unfold f_X6_add
  refine tw_lp_ex 4 (fun i => if i < 4 then nI (24 - 8 * i) else nI 0 - nI 8) (fun i μ' => (∀ y, y ≠ b + 1 → y ≠ b + 2 → μ' y = μ y) ∧ μ' (b + 1) 38 = nI (e + i) ∧ (∀ c, c < i → μ' (b + 2) (e + c) = nI (tw_by4 v c)) ∧ ∀ q, q < e → μ' (b + 2) q = μ (b + 2) q) rfl ⟨fun _ _ _ => rfl, e38, fun c hc => absurd hc (Nat.not_lt_zero c), fun _ _ => rfl⟩ ?_ ?_
  · rintro i hi μ1 ⟨F1, g38, g2, g3⟩
    have eb := tw_by4_c v hi
    refine ⟨tw_up (tw_up μ1 (b + 2) (e + i) (nI (tw_by4 v i))) (b + 1) 38 (nI (e + i + 1)), ⟨fun y h1 h2 => by rw [tw_up_ne h1, tw_up_ne h2]; exact F1 y h1 h2, tw_ua, fun c hc => ?_, fun q hq => ?_⟩, fun k rec => ?_⟩
    · rw [tw_up_ne (by omega)]
      by_cases ec : c = i
      · subst ec; exact tw_ua
      · rw [tw_uk (by omega)]; exact g2 c (by omega)
    · rw [tw_up_ne (by omega), tw_uk (by omega)]; exact g3 q hq
    · have d38 : ∀ v, tw_up μ1 (b + 1 + 1) (e + i) v (b + 1) 38 = nI (e + i) := fun v => by rw [tw_up_ne (by omega)]; exact g38
      have d2 : b + 2 = b + 1 + 1 := rfl
      have hn8 : ∀ c, c < 3 → nI (24 - 8 * c) + (-8 : Int32) = nI (24 - 8 * (c + 1)) := fun c hc => by
        rcases (by omega : c = 0 ∨ c = 1 ∨ c = 2) with rfl | rfl | rfl <;> decide
      have hn9 : nI (24 - 8 * 3) + (-8 : Int32) = nI 0 - nI 8 := by decide
      have e255 : (255 : Int32) = nI 255 := rfl
      have hs0 : ¬ nI (24 - 8 * i) < nI 0 := by rw [nz_lt (by omega) (by omega)]; omega
      rw [if_pos hi, d2]
      by_cases h3 : i < 3
      · have e8 := hn8 i h3
        rw [if_pos (show i + 1 < 4 by omega)]
        simp (disch := omega) only [hs0, g38, d38, e255, eb, e8, nz_lt, tl_0, tl_1, tl_400, nI_add, ↓TaV0 hTa, ↓TaG0_37 hTa, ↓TaI0_38 hTa, ↓TaP0_38 hTa, ↓TaZ0_38 hTa, ↓TaL0 hTa, ↓TaS0 hTa, ↓A_if, ↓A_jn, ↓A_lt, ↓A_rz, ↓A_rn, ↓A_nzi, ↓A_nzl, ↓A_nn1, ↓A_nn0, ↓reduceIte, true_and, and_true, if_true, if_false, ite_true, ite_false, reduceIte, nt_lt, Nat.not_lt_zero]
      · have h3 : i = 3 := by omega
        subst h3
        rw [if_neg (show ¬ 3 + 1 < 4 by omega)]
        simp (disch := omega) only [hs0, g38, d38, e255, eb, hn9, nz_lt, tl_0, tl_1, tl_400, nI_add, ↓TaV0 hTa, ↓TaG0_37 hTa, ↓TaI0_38 hTa, ↓TaP0_38 hTa, ↓TaZ0_38 hTa, ↓TaL0 hTa, ↓TaS0 hTa, ↓A_if, ↓A_jn, ↓A_lt, ↓A_rz, ↓A_rn, ↓A_nzi, ↓A_nzl, ↓A_nn1, ↓A_nn0, ↓reduceIte, true_and, and_true, if_true, if_false, ite_true, ite_false, reduceIte, nt_lt, Nat.not_lt_zero]
  · rintro μ1 ⟨F1, g38, g2, g3⟩
    refine ⟨μ1, ⟨F1, g38, g2, g3⟩, fun k rec => ?_⟩
    have hneg : nI 0 - nI 8 < nI 0 := by decide
    simp (disch := omega) only [hneg, Nat.lt_irrefl, tl_0, ↓A_if, ↓A_jn, ↓A_lt, ↓A_rz, ↓A_rn, ↓A_nzi, ↓A_nzl, ↓A_nn1, ↓A_nn0, ↓reduceIte, true_and, and_true, if_true, if_false, ite_true, ite_false, reduceIte]
def tw_5v (u : Nat → Int32) (q : Nat) : Nat := tw_by4 (u (q / 4)) (q % 4)
theorem c_feedF (hX : tw_Cx sh b) (hTa : tw_Ta sh (b + 1)) (e38 : μ (b + 1) 38 = nI e) (he : e + 20 ≤ 400) (u : Nat → Int32) : ∃ μ', ((∀ y, y ≠ b + 1 → y ≠ b + 2 → μ' y = μ y) ∧ μ' (b + 1) 38 = nI (e + 20) ∧ (∀ q, q < 20 → μ' (b + 2) (e + q) = nI (tw_5v u q)) ∧ ∀ q, q < e → μ' (b + 2) q = μ (b + 2) q) ∧ ∀ k, f_X11_feed b (u 0) (u 1) (u 2) (u 3) (u 4) k (sh, μ, la, n) = k (nI (e + 20)) (sh, μ', la, n) := by
  obtain ⟨μ1, ⟨F1, a1, c1, k1⟩, E1⟩ := c_add4 (la := la) (n := n) (v := u 0) hTa e38 (by omega)
  obtain ⟨μ2, ⟨F2, a2, c2, k2⟩, E2⟩ := c_add4 (la := la) (n := n) (v := u 1) hTa a1 (by omega)
  obtain ⟨μ3, ⟨F3, a3, c3, k3⟩, E3⟩ := c_add4 (la := la) (n := n) (v := u 2) hTa a2 (by omega)
  obtain ⟨μ4, ⟨F4, a4, c4, k4⟩, E4⟩ := c_add4 (la := la) (n := n) (v := u 3) hTa a3 (by omega)
  obtain ⟨μ5, ⟨F5, a5, c5, k5⟩, E5⟩ := c_add4 (la := la) (n := n) (v := u 4) hTa a4 (by omega)
  have hm : ¬ nI 400 < nI (e + 20) := by rw [nz_lt (by omega) (by omega)]; omega
  refine ⟨μ5, ⟨fun y h1 h2 => by rw [F5 y h1 h2, F4 y h1 h2, F3 y h1 h2, F2 y h1 h2, F1 y h1 h2], a5, fun q hq => ?_, fun q hq => ?_⟩, fun k => ?_⟩
  · rcases (by omega : q < 4 ∨ (4 ≤ q ∧ q < 8) ∨ (8 ≤ q ∧ q < 12) ∨ (12 ≤ q ∧ q < 16) ∨ (16 ≤ q ∧ q < 20)) with g | g | g | g | g
    · obtain ⟨d, rfl⟩ : ∃ d, q = d := ⟨q, rfl⟩
      rw [k5 _ (by omega), k4 _ (by omega), k3 _ (by omega), k2 _ (by omega), c1 q g]
      unfold tw_5v
      rw [show q / 4 = 0 by omega, show q % 4 = q by omega]
    · have := c2 (q - 4) (by omega)
      rw [show e + 4 + (q - 4) = e + q by omega] at this
      rw [k5 _ (by omega), k4 _ (by omega), k3 _ (by omega), this]
      unfold tw_5v
      rw [show q / 4 = 1 by omega, show q % 4 = q - 4 by omega]
    · have := c3 (q - 8) (by omega)
      rw [show e + 4 + 4 + (q - 8) = e + q by omega] at this
      rw [k5 _ (by omega), k4 _ (by omega), this]
      unfold tw_5v
      rw [show q / 4 = 2 by omega, show q % 4 = q - 8 by omega]
    · have := c4 (q - 12) (by omega)
      rw [show e + 4 + 4 + 4 + (q - 12) = e + q by omega] at this
      rw [k5 _ (by omega), this]
      unfold tw_5v
      rw [show q / 4 = 3 by omega, show q % 4 = q - 12 by omega]
    · have := c5 (q - 16) (by omega)
      rw [show e + 4 + 4 + 4 + 4 + (q - 16) = e + q by omega] at this
      rw [this]
      unfold tw_5v
      rw [show q / 4 = 4 by omega, show q % 4 = q - 16 by omega]
  · rw [k5 _ (by omega), k4 _ (by omega), k3 _ (by omega), k2 _ (by omega), k1 _ (by omega)]
  · simp (disch := omega) only [f_X11_feed, f_X6_hasRoomForFive, f_X6_size, e38, hm, ↓E1, ↓E2, ↓E3, ↓E4, ↓E5, a5, ↓TaV0 hTa, ↓TaG0_37 hTa, ↓TaI0_38 hTa, ↓TaP0_38 hTa, ↓TaZ0_38 hTa, ↓TaL0 hTa, ↓TaS0 hTa, ↓CxV0 hX, ↓CxG0_56 hX, ↓CxG0_57 hX, ↓CxG0_58 hX, ↓CxG0_59 hX, ↓CxG0_60 hX, ↓CxG0_61 hX, ↓CxG0_62 hX, ↓CxG0_63 hX, ↓CxG0_64 hX, ↓CxG0_65 hX, ↓CxI0_68 hX, ↓CxP0_68 hX, ↓CxZ0_68 hX, ↓CxI0_69 hX, ↓CxP0_69 hX, ↓CxZ0_69 hX, ↓A_if, ↓A_jn, ↓A_lt, ↓A_rz, ↓A_rn, ↓A_nzi, ↓A_nzl, ↓A_nn1, ↓A_nn0, ↓reduceIte, true_and, and_true, if_true, if_false, ite_true, ite_false, reduceIte, tl_0, tl_1, tl_2, tl_3, tl_4, tl_5, tl_6, tl_7, tl_8, tl_9, tl_10, tl_11, tl_12, tl_13, tl_14, tl_15, tl_16, tl_17, tl_18, tl_19, tl_20, tl_21, tl_22, tl_23, tl_24, tl_25, tl_26, tl_27, tl_28, tl_29, tl_30, tl_31, tl_32, tl_33, tl_34, tl_35, tl_36, tl_37, tl_38, tl_39, tl_40, tl_41, tl_42, tl_43, tl_44, tl_45, tl_46, tl_47, tl_48, tl_49, tl_50, tl_51, tl_52, tl_53, tl_54, tl_57, tl_59, tl_60, tl_62, tl_63, tl_64, tl_97, tl_99, tl_100, tl_120, tl_122, tl_192, tl_193, tl_194, tl_195, tl_196, tl_255, tl_256, tl_299, tl_400, tl_401, tl_492, tl_493, tl_541, tl_849, tl_999, tl_1000, tl_1341, tl_1342, tl_1390, tl_2190, tl_5412, tl_5904, tl_9999, tl_12345, tl_32767, tl_65536, tl_1000000, tl_252645135, tl_858993459, tl_1103515245, tl_1431655765, nz_31, nz_c31, eq_self, or_true, true_or, or_false, false_or, Nat.add_zero, nz_lt, nz_le, nz_eq, nz_cl, nz_sub, nI_add, pk_mul, nt_lt, nf_lt, nf_eq, nz_mI, mI_eq, mI_eq', mI_lt, mI_gt, mI_add, ↓j_max, ↓j_min, Nat.sub_sub, Nat.reduceAdd, Nat.reduceSub, Nat.reduceLT, Nat.reduceEqDiff, Bool.false_eq_true]
/-- the model's tape with so many bytes more -/
def tw_tp5 (s : Nat → Int32) (e : Nat) (u : Nat → Int32) (i : Nat) : Nat → Int32 := fun q => if e ≤ q ∧ q < e + i then vp_nar .byte (nI (tw_5v u (q - e))) else s q
theorem tw_tp5_s (s : Nat → Int32) (e : Nat) (u : Nat → Int32) (i : Nat) : tw_u1 (tw_tp5 s e u i) (e + i) (vp_nar .byte (nI (tw_5v u i))) = tw_tp5 s e u (i + 1) := by
  funext q
  unfold tw_u1 tw_tp5
  by_cases h : q = e + i
  · subst h
    rw [if_pos rfl, if_pos (by omega), Nat.add_sub_cancel_left]
  · rw [if_neg h]
    by_cases h2 : e ≤ q ∧ q < e + i
    · rw [if_pos h2, if_pos (by omega)]
    · rw [if_neg h2, if_neg (by omega)]
theorem m_feedF (hM : tw_Mo sh m) (e79 : μ m 79 = nI e) (he : e + 20 ≤ 400) (u : Nat → Int32) : ∃ μ', ((∀ y, y ≠ m → y ≠ m + 6 → y ≠ m + 7 → μ' y = μ y) ∧ μ' m 79 = nI (e + 20) ∧ (∀ q, q ≠ 70 → q ≠ 79 → μ' m q = μ m q) ∧ (∀ q, q < 20 → μ' (m + 6) (e + q) = vp_nar .byte (nI (tw_5v u q))) ∧ ∀ q, q < e → μ' (m + 6) q = μ (m + 6) q) ∧ ∀ k, f_X12_feed m (u 0) (u 1) (u 2) (u 3) (u 4) k (sh, μ, la, n) = k (nI (e + 20)) (sh, μ', la, n) := by
  have hm : ¬ nI 400 < nI (e + 20) := by rw [nz_lt (by omega) (by omega)]; omega
  have hn4 : ¬ nI 4 = 0 := by decide
  have e79' : tw_up μ m 70 (nI 0) m 79 = nI e := (tw_uk (by omega)).trans e79
  obtain ⟨μf, ef⟩ : ∃ μf, μf = tw_up (tw_up (tw_up (tw_up (tw_up (tw_up μ m 70 (nI 0)) (m + 7) 0 (u 0)) (m + 7) 1 (u 1)) (m + 7) 2 (u 2)) (m + 7) 3 (u 3)) (m + 7) 4 (u 4) := ⟨_, rfl⟩
  have F0 : ∀ y, y ≠ m → y ≠ m + 7 → μf y = μ y := fun y h1 h2 => by rw [ef, tw_up_ne h2, tw_up_ne h2, tw_up_ne h2, tw_up_ne h2, tw_up_ne h2, tw_up_ne h1]
  have Fm : ∀ q, q ≠ 70 → μf m q = μ m q := fun q h => by rw [ef, tw_up_ne (by omega), tw_up_ne (by omega), tw_up_ne (by omega), tw_up_ne (by omega), tw_up_ne (by omega), tw_uk (by omega)]
  have f79 : μf m 79 = nI e := (Fm 79 (by omega)).trans e79
  have f5 : ∀ q, q < 5 → μf (m + 7) q = u q := fun q hq => by
    rw [ef]
    rcases (by omega : q = 0 ∨ q = 1 ∨ q = 2 ∨ q = 3 ∨ q = 4) with rfl | rfl | rfl | rfl | rfl
    · rw [tw_uk (by omega), tw_uk (by omega), tw_uk (by omega), tw_uk (by omega)]; exact tw_ua
    · rw [tw_uk (by omega), tw_uk (by omega), tw_uk (by omega)]; exact tw_ua
    · rw [tw_uk (by omega), tw_uk (by omega)]; exact tw_ua
    · rw [tw_uk (by omega)]; exact tw_ua
    · exact tw_ua
  refine ⟨tw_up (tw_ra μf (m + 6) (tw_tp5 (μf (m + 6)) e u 20)) m 79 (nI (e + 20)), ⟨fun y h1 h2 h3 => by rw [tw_up_ne h1, tw_ra_n (by omega)]; exact F0 y h1 h3, tw_ua, fun q h1 h2 => by rw [tw_uk (by omega), tw_ra_n (by omega)]; exact Fm q h1, fun q hq => ?_, fun q hq => ?_⟩, fun k => ?_⟩
  · rw [tw_up_ne (by omega), tw_ra_aj]
    unfold tw_tp5
    rw [if_pos (by omega), Nat.add_sub_cancel_left]
  · rw [tw_up_ne (by omega), tw_ra_aj, ← F0 (m + 6) (by omega) (by omega)]
    exact if_neg (by omega)
  · have hpre : ∀ K : tw_Mem → Prop, tw_pi 70 m (0 : Int32) (tw_gi 79 m fun x1 => tw_if ((400 : Int32) < (x1 + (20 : Int32))) (k (-1 : Int32)) (tw_gr 85 m fun x2 => tw_si x2 (0 : Int32) (u 0) (tw_gr 85 m fun x3 => tw_si x3 (1 : Int32) (u 1) (tw_gr 85 m fun x4 => tw_si x4 (2 : Int32) (u 2) (tw_gr 85 m fun x5 => tw_si x5 (3 : Int32) (u 3) (tw_gr 85 m fun x6 => tw_si x6 (4 : Int32) (u 4) K)))))) (sh, μ, la, n) = K (sh, μf, la, n) := fun K => by
      rw [ef]
      simp (disch := omega) only [e79', hm, ↓MoV0 hM, ↓MoI0_70 hM, ↓MoP0_70 hM, ↓MoZ0_70 hM, ↓MoG0_71 hM, ↓MoG0_72 hM, ↓MoG0_73 hM, ↓MoG0_74 hM, ↓MoG0_75 hM, ↓MoI0_76 hM, ↓MoP0_76 hM, ↓MoZ0_76 hM, ↓MoI0_77 hM, ↓MoP0_77 hM, ↓MoZ0_77 hM, ↓MoG0_78 hM, ↓MoI0_79 hM, ↓MoP0_79 hM, ↓MoZ0_79 hM, ↓MoI0_80 hM, ↓MoP0_80 hM, ↓MoZ0_80 hM, ↓MoI0_81 hM, ↓MoP0_81 hM, ↓MoZ0_81 hM, ↓MoI0_82 hM, ↓MoP0_82 hM, ↓MoZ0_82 hM, ↓MoI0_83 hM, ↓MoP0_83 hM, ↓MoZ0_83 hM, ↓MoI0_84 hM, ↓MoP0_84 hM, ↓MoZ0_84 hM, ↓MoG0_85 hM, ↓MoI0_86 hM, ↓MoP0_86 hM, ↓MoZ0_86 hM, ↓MoG0_87 hM, ↓MoI0_88 hM, ↓MoP0_88 hM, ↓MoZ0_88 hM, ↓MoG0_89 hM, ↓MoG0_90 hM, ↓MoG0_91 hM, ↓MoG0_92 hM, ↓MoL0 hM, ↓MoS0 hM, ↓MoL1 hM, ↓MoS1 hM, ↓MoL2 hM, ↓MoS2 hM, ↓MoL3 hM, ↓MoS3 hM, ↓MoL4 hM, ↓MoS4 hM, ↓MoL5 hM, ↓MoS5 hM, ↓MoL6 hM, ↓MoS6 hM, ↓MoL7 hM, ↓MoS7 hM, ↓MoL8 hM, ↓MoS8 hM, ↓MoL9 hM, ↓MoS9 hM, ↓MoL10 hM, ↓MoS10 hM, ↓MoL11 hM, ↓MoS11 hM, ↓A_if, ↓A_jn, ↓A_lt, ↓A_rz, ↓A_rn, ↓A_nzi, ↓A_nzl, ↓A_nn1, ↓A_nn0, ↓reduceIte, true_and, and_true, if_true, if_false, ite_true, ite_false, reduceIte, tl_0, tl_1, tl_2, tl_3, tl_4, tl_5, tl_6, tl_7, tl_8, tl_9, tl_10, tl_11, tl_12, tl_13, tl_14, tl_15, tl_16, tl_17, tl_18, tl_19, tl_20, tl_21, tl_22, tl_23, tl_24, tl_25, tl_26, tl_27, tl_28, tl_29, tl_30, tl_31, tl_32, tl_33, tl_34, tl_35, tl_36, tl_37, tl_38, tl_39, tl_40, tl_41, tl_42, tl_43, tl_44, tl_45, tl_46, tl_47, tl_48, tl_49, tl_50, tl_51, tl_52, tl_53, tl_54, tl_57, tl_59, tl_60, tl_62, tl_63, tl_64, tl_97, tl_99, tl_100, tl_120, tl_122, tl_192, tl_193, tl_194, tl_195, tl_196, tl_255, tl_256, tl_299, tl_400, tl_401, tl_492, tl_493, tl_541, tl_849, tl_999, tl_1000, tl_1341, tl_1342, tl_1390, tl_2190, tl_5412, tl_5904, tl_9999, tl_12345, tl_32767, tl_65536, tl_1000000, tl_252645135, tl_858993459, tl_1103515245, tl_1431655765, nz_31, nz_c31, eq_self, or_true, true_or, or_false, false_or, Nat.add_zero, nz_lt, nz_le, nz_eq, nz_cl, nz_sub, nI_add, pk_mul, nt_lt, nf_lt, nf_eq, nz_mI, mI_eq, mI_eq', mI_lt, mI_gt, mI_add, ↓j_max, ↓j_min, Nat.sub_sub, Nat.reduceAdd, Nat.reduceSub, Nat.reduceLT, Nat.reduceEqDiff, Bool.false_eq_true]
    unfold f_X12_feed
    rw [hpre]
    refine tw_lp_for 20 (fun i => nI i) (fun i => (sh, tw_ra μf (m + 6) (tw_tp5 (μf (m + 6)) e u i), la, n)) rfl ?_ ?_ ?_
    · have e0 : tw_tp5 (μf (m + 6)) e u 0 = μf (m + 6) := by funext q; exact if_neg (by omega)
      show (sh, tw_ra μf (m + 6) (tw_tp5 (μf (m + 6)) e u 0), la, n) = _
      rw [e0, tw_ra_s]
    · intro i hi rec
      have es := tw_tp5_s (μf (m + 6)) e u i
      have e1 : nI i / nI 4 = nI (i / 4) := pk_div (by omega) (by omega) (by omega)
      have e2 : nI i - nI (i / 4 * 4) = nI (i % 4) := by rw [nz_sub (by omega)]; congr 1; omega
      have e3 : nI 24 - nI (8 * (i % 4)) = nI (24 - 8 * (i % 4)) := nz_sub (by omega)
      have eb := tw_by4_m (u (i / 4)) (c := i % 4) (by omega)
      have ev : tw_by4 (u (i / 4)) (i % 4) = tw_5v u i := rfl
      have g5 := f5 (i / 4) (by omega)
      have g79 : tw_ra μf (m + 6) (tw_tp5 (μf (m + 6)) e u i) m 79 = nI e := by rw [tw_ra_n (by omega)]; exact f79
      have g7 : tw_ra μf (m + 6) (tw_tp5 (μf (m + 6)) e u i) (m + 7) (i / 4) = u (i / 4) := by rw [tw_ra_n (by omega)]; exact g5
      have hlt : nI i < nI 20 := by rw [nz_lt (by omega) (by omega)]; exact hi
      have h20 : (20 : Int32) = nI 20 := rfl
      rw [ev] at eb
      simp (disch := omega) only [hlt, h20, g79, g7, e1, e2, e3, eb, hn4, es, tw_up_ra, pk_mul, nI_add, not_false_eq_true, true_and, tl_4, tl_24, tl_8, tl_1, ↓MoV0 hM, ↓MoI0_70 hM, ↓MoP0_70 hM, ↓MoZ0_70 hM, ↓MoG0_71 hM, ↓MoG0_72 hM, ↓MoG0_73 hM, ↓MoG0_74 hM, ↓MoG0_75 hM, ↓MoI0_76 hM, ↓MoP0_76 hM, ↓MoZ0_76 hM, ↓MoI0_77 hM, ↓MoP0_77 hM, ↓MoZ0_77 hM, ↓MoG0_78 hM, ↓MoI0_79 hM, ↓MoP0_79 hM, ↓MoZ0_79 hM, ↓MoI0_80 hM, ↓MoP0_80 hM, ↓MoZ0_80 hM, ↓MoI0_81 hM, ↓MoP0_81 hM, ↓MoZ0_81 hM, ↓MoI0_82 hM, ↓MoP0_82 hM, ↓MoZ0_82 hM, ↓MoI0_83 hM, ↓MoP0_83 hM, ↓MoZ0_83 hM, ↓MoI0_84 hM, ↓MoP0_84 hM, ↓MoZ0_84 hM, ↓MoG0_85 hM, ↓MoI0_86 hM, ↓MoP0_86 hM, ↓MoZ0_86 hM, ↓MoG0_87 hM, ↓MoI0_88 hM, ↓MoP0_88 hM, ↓MoZ0_88 hM, ↓MoG0_89 hM, ↓MoG0_90 hM, ↓MoG0_91 hM, ↓MoG0_92 hM, ↓MoL0 hM, ↓MoS0 hM, ↓MoL1 hM, ↓MoS1 hM, ↓MoL2 hM, ↓MoS2 hM, ↓MoL3 hM, ↓MoS3 hM, ↓MoL4 hM, ↓MoS4 hM, ↓MoL5 hM, ↓MoS5 hM, ↓MoL6 hM, ↓MoS6 hM, ↓MoL7 hM, ↓MoS7 hM, ↓MoL8 hM, ↓MoS8 hM, ↓MoL9 hM, ↓MoS9 hM, ↓MoL10 hM, ↓MoS10 hM, ↓MoL11 hM, ↓MoS11 hM, ↓A_if, ↓A_jn, ↓A_lt, ↓A_rz, ↓A_rn, ↓A_nzi, ↓A_nzl, ↓A_nn1, ↓A_nn0, ↓reduceIte, true_and, and_true, if_true, if_false, ite_true, ite_false, reduceIte]
    · intro rec
      have hlt : ¬ nI 20 < nI 20 := by decide
      have h20 : (20 : Int32) = nI 20 := rfl
      have g79 : tw_ra μf (m + 6) (tw_tp5 (μf (m + 6)) e u 20) m 79 = nI e := by rw [tw_ra_n (by omega)]; exact f79
      simp (disch := omega) only [hlt, h20, g79, tw_ua, nI_add, ↓MoV0 hM, ↓MoI0_70 hM, ↓MoP0_70 hM, ↓MoZ0_70 hM, ↓MoG0_71 hM, ↓MoG0_72 hM, ↓MoG0_73 hM, ↓MoG0_74 hM, ↓MoG0_75 hM, ↓MoI0_76 hM, ↓MoP0_76 hM, ↓MoZ0_76 hM, ↓MoI0_77 hM, ↓MoP0_77 hM, ↓MoZ0_77 hM, ↓MoG0_78 hM, ↓MoI0_79 hM, ↓MoP0_79 hM, ↓MoZ0_79 hM, ↓MoI0_80 hM, ↓MoP0_80 hM, ↓MoZ0_80 hM, ↓MoI0_81 hM, ↓MoP0_81 hM, ↓MoZ0_81 hM, ↓MoI0_82 hM, ↓MoP0_82 hM, ↓MoZ0_82 hM, ↓MoI0_83 hM, ↓MoP0_83 hM, ↓MoZ0_83 hM, ↓MoI0_84 hM, ↓MoP0_84 hM, ↓MoZ0_84 hM, ↓MoG0_85 hM, ↓MoI0_86 hM, ↓MoP0_86 hM, ↓MoZ0_86 hM, ↓MoG0_87 hM, ↓MoI0_88 hM, ↓MoP0_88 hM, ↓MoZ0_88 hM, ↓MoG0_89 hM, ↓MoG0_90 hM, ↓MoG0_91 hM, ↓MoG0_92 hM, ↓MoL0 hM, ↓MoS0 hM, ↓MoL1 hM, ↓MoS1 hM, ↓MoL2 hM, ↓MoS2 hM, ↓MoL3 hM, ↓MoS3 hM, ↓MoL4 hM, ↓MoS4 hM, ↓MoL5 hM, ↓MoS5 hM, ↓MoL6 hM, ↓MoS6 hM, ↓MoL7 hM, ↓MoS7 hM, ↓MoL8 hM, ↓MoS8 hM, ↓MoL9 hM, ↓MoS9 hM, ↓MoL10 hM, ↓MoS10 hM, ↓MoL11 hM, ↓MoS11 hM, ↓A_if, ↓A_jn, ↓A_lt, ↓A_rz, ↓A_rn, ↓A_nzi, ↓A_nzl, ↓A_nn1, ↓A_nn0, ↓reduceIte, true_and, and_true, if_true, if_false, ite_true, ite_false, reduceIte]
theorem L0 (hI : tw_IV G a0 b L (sh, μ, la, n)) (hi : i + 6 ≤ L) (hj : ∀ M, tw_IV G a0 b L M → j () M) (k : Int32 → tw_Mem → Prop) : f_Lc0 a0 b (b + 168) (b + 181) (nI i) j k (sh, μ, la, n) := by
  obtain ⟨lw, kl, P, hS, W, H, HL, HR, HI, HT, hf⟩ := tw_IV_e hI
  have hS2 := hS
  obtain ⟨hX, hlw, hkl, ⟨hTa, hTx⟩, hTn, hTs, hTk, hMe, hMi, hMt, hTw, hPa, hSe, hMo, hOu, hSc, hL3, hab, hlwc, hklc, hlwn, hkln, hbn, hlk⟩ := hS2
  have h8 := W.2.1
  have hsc := fun (j : Nat) (hj : j < L) (μ : Nat → Nat → Int32) (la : Nat → Nat → Int64) (n : Nat) (k : Int32 → tw_Mem → Prop) => tw_scr (μ := μ) (la := la) (n := n) hSc hL3 hj k
  have hs0 := hsc (i + 1) (by omega)
  have hs1 := hsc (i + 2) (by omega)
  have hs2 := hsc (i + 3) (by omega)
  have hs3 := hsc (i + 4) (by omega)
  have hs4 := hsc (i + 5) (by omega)
  have hlG : ∀ (μ : Nat → Nat → Int32) (la : Nat → Nat → Int64) (n : Nat) (k : Nat → tw_Mem → Prop), tw_gr 66 b k (sh, μ, la, n) = k lw (sh, μ, la, n) := fun μ la n k => tw_lawref hX hlw k
  have hlV : ∀ (μ : Nat → Nat → Int32) (la : Nat → Nat → Int64) (n : Nat) (F : tw_Mem → Prop), tw_iv 0 lw F (sh, μ, la, n) = F (sh, μ, la, n) := fun μ la n F => by rw [A_iv, tw_is_T HL.1, true_and]
  generalize hT : μ (b + 169) = T at *
  obtain ⟨e, he, e38, e79, hBB⟩ := HT
  by_cases q : e + 20 ≤ 400
  · obtain ⟨μ1, ⟨F1, a1, c1, k1⟩, E1⟩ := c_feedF (la := la) (n := n) hX hTa e38 q (fun c => μ a0 (i + 1 + c))
    have f168 : μ1 (b + 168) = μ (b + 168) := F1 _ (by omega) (by omega)
    have ea1 : μ1 a0 = μ a0 := F1 a0 (by omega) (by omega)
    obtain ⟨μ2, ⟨F2, a2, j2, c2, k2⟩, E2⟩ := m_feedF (la := la) (n := n) (μ := μ1) hMo (by rw [f168]; exact e79) q (fun c => μ a0 (i + 1 + c))
    simp (disch := omega) only [↓A_if, ↓A_jn, ↓A_lt, ↓A_rz, ↓A_rn, ↓A_nzi, ↓A_nzl, ↓A_nn1, ↓A_nn0, ↓reduceIte, true_and, and_true, if_true, if_false, ite_true, ite_false, reduceIte, tl_0, tl_1, tl_2, tl_3, tl_4, tl_5, tl_6, tl_7, tl_8, tl_9, tl_10, tl_11, tl_12, tl_13, tl_14, tl_15, tl_16, tl_17, tl_18, tl_19, tl_20, tl_21, tl_22, tl_23, tl_24, tl_25, tl_26, tl_27, tl_28, tl_29, tl_30, tl_31, tl_32, tl_33, tl_34, tl_35, tl_36, tl_37, tl_38, tl_39, tl_40, tl_41, tl_42, tl_43, tl_44, tl_45, tl_46, tl_47, tl_48, tl_49, tl_50, tl_51, tl_52, tl_53, tl_54, tl_57, tl_59, tl_60, tl_62, tl_63, tl_64, tl_97, tl_99, tl_100, tl_120, tl_122, tl_192, tl_193, tl_194, tl_195, tl_196, tl_255, tl_256, tl_299, tl_400, tl_401, tl_492, tl_493, tl_541, tl_849, tl_999, tl_1000, tl_1341, tl_1342, tl_1390, tl_2190, tl_5412, tl_5904, tl_9999, tl_12345, tl_32767, tl_65536, tl_1000000, tl_252645135, tl_858993459, tl_1103515245, tl_1431655765, nz_31, nz_c31, eq_self, or_true, true_or, or_false, false_or, Nat.add_zero, nz_lt, nz_le, nz_eq, nz_cl, nz_sub, nI_add, pk_mul, nt_lt, nf_lt, nf_eq, nz_mI, mI_eq, mI_eq', mI_lt, mI_gt, mI_add, ↓j_max, ↓j_min, Nat.sub_sub, Nat.reduceAdd, Nat.reduceSub, Nat.reduceLT, Nat.reduceEqDiff, Bool.false_eq_true, f_Lc0, ↓hs0, ↓hs1, ↓hs2, ↓hs3, ↓hs4, ea1, ↓E1, ↓E2, ↓CxV0 hX, ↓MoV0 hMo]
    refine hj _ (tw_IV_t hS (by rw [hT]; exact W) (by rw [hT]; exact H) (by rw [hT]; exact HL) HR HI hf ⟨e + 20, by omega, ?_, a2, fun y hy => ?_⟩ (fun y h1 h2 h3 h4 h5 h6 => ?_) (fun q h1 h2 h3 h4 => ?_) (Nat.le_refl _))
    · rw [F2 _ (by omega) (by omega) (by omega)]; exact a1
    · by_cases hye : y < e
      · obtain ⟨B, hB1, hB2, hB3⟩ := hBB y hye
        refine ⟨B, hB1, ?_, ?_⟩
        · rw [F2 _ (by omega) (by omega) (by omega), k1 y hye]; exact hB2
        · show μ2 (b + 168 + 6) y = _
          rw [k2 y hye, F1 _ (by omega) (by omega)]; exact hB3
      · have := c1 (y - e) (by omega)
        have h2 := c2 (y - e) (by omega)
        rw [show e + (y - e) = y by omega] at this h2
        refine ⟨tw_5v (fun c => μ a0 (i + 1 + c)) (y - e), tw_by4_l _ _, ?_, h2⟩
        rw [F2 _ (by omega) (by omega) (by omega)]; exact this
    · rw [F2 y h3 (by omega) (by omega)]; exact F1 y h1 h2
    · rw [j2 q h1 h2, f168]
  · obtain ⟨μ1, hpi, hpt, qm, hT1, h70, ha1, hj1⟩ := tw_thr0 (a0 := a0) (μ := μ) hMo hab
    have hm : nI 400 < nI (e + 20) := by rw [nz_lt (by omega) (by omega)]; omega
    have e79n := (hj1 79 (by omega)).trans e79
    simp (disch := omega) only [↓A_if, ↓A_jn, ↓A_lt, ↓A_rz, ↓A_rn, ↓A_nzi, ↓A_nzl, ↓A_nn1, ↓A_nn0, ↓reduceIte, true_and, and_true, if_true, if_false, ite_true, ite_false, reduceIte, tl_0, tl_1, tl_2, tl_3, tl_4, tl_5, tl_6, tl_7, tl_8, tl_9, tl_10, tl_11, tl_12, tl_13, tl_14, tl_15, tl_16, tl_17, tl_18, tl_19, tl_20, tl_21, tl_22, tl_23, tl_24, tl_25, tl_26, tl_27, tl_28, tl_29, tl_30, tl_31, tl_32, tl_33, tl_34, tl_35, tl_36, tl_37, tl_38, tl_39, tl_40, tl_41, tl_42, tl_43, tl_44, tl_45, tl_46, tl_47, tl_48, tl_49, tl_50, tl_51, tl_52, tl_53, tl_54, tl_57, tl_59, tl_60, tl_62, tl_63, tl_64, tl_97, tl_99, tl_100, tl_120, tl_122, tl_192, tl_193, tl_194, tl_195, tl_196, tl_255, tl_256, tl_299, tl_400, tl_401, tl_492, tl_493, tl_541, tl_849, tl_999, tl_1000, tl_1341, tl_1342, tl_1390, tl_2190, tl_5412, tl_5904, tl_9999, tl_12345, tl_32767, tl_65536, tl_1000000, tl_252645135, tl_858993459, tl_1103515245, tl_1431655765, nz_31, nz_c31, eq_self, or_true, true_or, or_false, false_or, Nat.add_zero, nz_lt, nz_le, nz_eq, nz_cl, nz_sub, nI_add, pk_mul, nt_lt, nf_lt, nf_eq, nz_mI, mI_eq, mI_eq', mI_lt, mI_gt, mI_add, ↓j_max, ↓j_min, Nat.sub_sub, Nat.reduceAdd, Nat.reduceSub, Nat.reduceLT, Nat.reduceEqDiff, Bool.false_eq_true, f_Lc0, f_X11_feed, f_X6_hasRoomForFive, f_X12_feed, ↓hs0, ↓hs1, ↓hs2, ↓hs3, ↓hs4, ha1, e38, e79n, hm, ↓hpi.1, ↓hpi.2, ↓TaV0 hTa, ↓TaG0_37 hTa, ↓TaI0_38 hTa, ↓TaP0_38 hTa, ↓TaZ0_38 hTa, ↓TaL0 hTa, ↓TaS0 hTa, ↓CxV0 hX, ↓CxG0_56 hX, ↓CxG0_57 hX, ↓CxG0_58 hX, ↓CxG0_59 hX, ↓CxG0_60 hX, ↓CxG0_61 hX, ↓CxG0_62 hX, ↓CxG0_63 hX, ↓CxG0_64 hX, ↓CxG0_65 hX, ↓CxI0_68 hX, ↓CxP0_68 hX, ↓CxZ0_68 hX, ↓CxI0_69 hX, ↓CxP0_69 hX, ↓CxZ0_69 hX, ↓MoV0 hMo, ↓MoI0_70 hMo, ↓MoP0_70 hMo, ↓MoZ0_70 hMo, ↓MoG0_71 hMo, ↓MoG0_72 hMo, ↓MoG0_73 hMo, ↓MoG0_74 hMo, ↓MoG0_75 hMo, ↓MoI0_76 hMo, ↓MoP0_76 hMo, ↓MoZ0_76 hMo, ↓MoI0_77 hMo, ↓MoP0_77 hMo, ↓MoZ0_77 hMo, ↓MoG0_78 hMo, ↓MoI0_79 hMo, ↓MoP0_79 hMo, ↓MoZ0_79 hMo, ↓MoI0_80 hMo, ↓MoP0_80 hMo, ↓MoZ0_80 hMo, ↓MoI0_81 hMo, ↓MoP0_81 hMo, ↓MoZ0_81 hMo, ↓MoI0_82 hMo, ↓MoP0_82 hMo, ↓MoZ0_82 hMo, ↓MoI0_83 hMo, ↓MoP0_83 hMo, ↓MoZ0_83 hMo, ↓MoI0_84 hMo, ↓MoP0_84 hMo, ↓MoZ0_84 hMo, ↓MoG0_85 hMo, ↓MoI0_86 hMo, ↓MoP0_86 hMo, ↓MoZ0_86 hMo, ↓MoG0_87 hMo, ↓MoI0_88 hMo, ↓MoP0_88 hMo, ↓MoZ0_88 hMo, ↓MoG0_89 hMo, ↓MoG0_90 hMo, ↓MoG0_91 hMo, ↓MoG0_92 hMo, ↓MoL0 hMo, ↓MoS0 hMo, ↓MoL1 hMo, ↓MoS1 hMo, ↓MoL2 hMo, ↓MoS2 hMo, ↓MoL3 hMo, ↓MoS3 hMo, ↓MoL4 hMo, ↓MoS4 hMo, ↓MoL5 hMo, ↓MoS5 hMo, ↓MoL6 hMo, ↓MoS6 hMo, ↓MoL7 hMo, ↓MoS7 hMo, ↓MoL8 hMo, ↓MoS8 hMo, ↓MoL9 hMo, ↓MoS9 hMo, ↓MoL10 hMo, ↓MoS10 hMo, ↓MoL11 hMo, ↓MoS11 hMo]
    exact hj _ (tw_IV_q hS (by rw [hT]; exact W) (by rw [hT]; exact H) (by rw [hT]; exact HL) HR HI ⟨e, he, e38, e79, hBB⟩ hf tw_qc_r qm (Nat.le_refl _))
end P96
