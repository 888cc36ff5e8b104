/-! ===== pure: an HOUR, the class ===== -/
theorem tw_pack {d h a b t : Nat} (hd : d < 10000) (hh : h < 12) (ha : a < 9) (hb : b < 9) (ht : t < 5) : (((nI d <<< nI 15 ||| nI h <<< nI 11) ||| nI a <<< nI 7) ||| nI b <<< nI 3) ||| nI t = nI (32768 * d + (2048 * h + (128 * a + (8 * b + t)))) := by
  have s15 : nI d <<< nI 15 = nI (2 ^ 15 * d) := by rw [pk_shlN (nI 15) 15 (by decide) (by omega), Nat.mul_comm]
  have s11 : nI h <<< nI 11 = nI (2 ^ 11 * h) := by rw [pk_shlN (nI 11) 11 (by decide) (by omega), Nat.mul_comm]
  have s7 : nI a <<< nI 7 = nI (2 ^ 7 * a) := by rw [pk_shlN (nI 7) 7 (by decide) (by omega), Nat.mul_comm]
  have s3 : nI b <<< nI 3 = nI (2 ^ 3 * b) := by rw [pk_shlN (nI 3) 3 (by decide) (by omega), Nat.mul_comm]
  rw [s15, s11, s7, s3]
  have o1 : nI (2 ^ 15 * d) ||| nI (2 ^ 11 * h) = nI (2 ^ 11 * (16 * d + h)) := by
    rw [nI_orA 15 (by omega)]
    congr 1
    omega
  have o2 : nI (2 ^ 11 * (16 * d + h)) ||| nI (2 ^ 7 * a) = nI (2 ^ 7 * (16 * (16 * d + h) + a)) := by
    rw [nI_orA 11 (by omega)]
    congr 1
    omega
  have o3 : nI (2 ^ 7 * (16 * (16 * d + h) + a)) ||| nI (2 ^ 3 * b) = nI (2 ^ 3 * (16 * (16 * (16 * d + h) + a) + b)) := by
    rw [nI_orA 7 (by omega)]
    congr 1
    omega
  have o4 : nI (2 ^ 3 * (16 * (16 * (16 * d + h) + a) + b)) ||| nI t = nI (32768 * d + (2048 * h + (128 * a + (8 * b + t)))) := by
    rw [nI_orA 3 (by omega)]
    congr 1
    omega
  rw [o1, o2, o3, o4]
theorem tw_pack_row {d h a b t : Nat} (hd : d < 10000) (hh : h < 12) (ha : a < 9) (hb : b < 9) (ht : t < 5) {U : Nat → Int32} (u0 : U 0 = nI d) (u1 : U 1 = nI h) (u2 : U 2 = nI a - nI 1) (u3 : U 3 = nI b - nI 1) (u4 : U 4 = nI t) : tw_row (nI (32768 * d + (2048 * h + (128 * a + (8 * b + t))))) U := by
  unfold tw_row
  rw [u0, u1, u2, u3, u4, nz_shr (by omega) (by omega), nz_shr (by omega) (by omega), nz_shr (by omega) (by omega), nz_shr (by omega) (by omega)]
  have x15 : (nI 15).toBitVec.toNat = 2 ^ 4 - 1 := by decide
  have x7 : (nI 7).toBitVec.toNat = 2 ^ 3 - 1 := by decide
  rw [pk_andN (by omega) 4 x15, pk_andN (by omega) 4 x15, pk_andN (by omega) 4 x15, pk_andN (by omega) 3 x7]
  have g0 : (32768 * d + (2048 * h + (128 * a + (8 * b + t)))) / 2 ^ 15 = d := by omega
  have g1 : (32768 * d + (2048 * h + (128 * a + (8 * b + t)))) / 2 ^ 11 % 2 ^ 4 = h := by omega
  have g2 : (32768 * d + (2048 * h + (128 * a + (8 * b + t)))) / 2 ^ 7 % 2 ^ 4 = a := by omega
  have g3 : (32768 * d + (2048 * h + (128 * a + (8 * b + t)))) / 2 ^ 3 % 2 ^ 4 = b := by omega
  have g4 : (32768 * d + (2048 * h + (128 * a + (8 * b + t)))) % 2 ^ 3 = t := by omega
  rw [g0, g1, g2, g3, g4]
  exact ⟨rfl, rfl, rfl, rfl, rfl⟩
theorem tw_tell_0 {T : Nat → Int32} {tn : Int32} : tw_tell T tn (192 + 5 * 0 + 0) = T 4 ∧ tw_tell T tn (192 + 5 * 0 + 1) = T 3 ∧ tw_tell T tn (192 + 5 * 0 + 2) = T (8 + tw_nt (T 3)) ∧ tw_tell T tn (192 + 5 * 0 + 3) = T (20 + tw_nt (T 3)) ∧ tw_tell T tn (192 + 5 * 0 + 4) = tn := by
  unfold tw_tell
  refine ⟨?_, ?_, ?_, ?_, ?_⟩
  · simp (disch := omega) only [tw_u1n]; exact tw_u1a
  · simp (disch := omega) only [tw_u1n]; exact tw_u1a
  · simp (disch := omega) only [tw_u1n]; exact tw_u1a
  · simp (disch := omega) only [tw_u1n]; exact tw_u1a
  · simp (disch := omega) only [tw_u1n]; exact tw_u1a
section P64
variable {sh : tw_Sh} {μ : Nat → Nat → Int32} {la : Nat → Nat → Int64} {n a b w m lw P N : Nat} {p o l h i j z c x y f q kd t : Nat} {T T' : Nat → Int32} {v u rg tn : Int32} {F : Nat → Int32} {C : Nat → Nat × Nat} {s : Nat → Int32}
theorem c_logAdd (H : tw_RC sh μ a T) (W : tw_WF T P) (ht : t < 5) : ∃ μ', (tw_RC sh μ' a (tw_tell T (nI t)) ∧ tw_fx a (a + 9) μ μ') ∧ ∀ k, f_X2_add (a + 7) (T 4) (T 3) (T (8 + tw_nt (T 3))) (T (20 + tw_nt (T 3))) (nI t) k (sh, μ, la, n) = k () (sh, μ', la, n) := by
  obtain ⟨xh, hxh, e3⟩ := Wf_3 W
  obtain ⟨xd, hxd, e4⟩ := Wf_4 W
  obtain ⟨z0, hz0, e6⟩ := Wf_6 W
  obtain ⟨p1, p2, -⟩ := Wf_p W hxh
  have h8 := W.2.1
  have g : ∀ v, (v = mI ∨ ∃ p, p < P ∧ v = nI p) → ∃ x, x < 9 ∧ v = nI x - nI 1 ∧ v + nI 1 = nI x := by
    rintro v (rfl | ⟨p, hp, rfl⟩)
    · exact ⟨0, by omega, by decide, by decide⟩
    · exact ⟨p + 1, by omega, by rw [nz_sub (by omega), Nat.add_sub_cancel], nI_add p 1⟩
  have en : tw_nt (T 3) = xh := by rw [e3]; exact tw_nt_n (by omega)
  obtain ⟨qa, hqa, ea1, ea2⟩ := g _ p1
  obtain ⟨qb, hqb, eb1, eb2⟩ := g _ p2
  rw [en, e3, e4]
  have hT := H.1
  obtain ⟨x, hx, f1, f2⟩ := H.2.2.2.2.2.2
  have e20 := (Rc_20 H).trans e6
  have hm := tw_m60_c hz0
  simp (disch := omega) only [nz_lt] at hm
  obtain ⟨h1, h2, h3, h4, h5, h6, -⟩ := H
  have hrow := tw_pack (d := xd) (h := xh) (a := qa) (b := qb) (t := t) hxd hxh hqa hqb ht
  have c15 : nI 15 &&& nI 31 = nI 15 := by decide
  have c11 : nI 11 &&& nI 31 = nI 11 := by decide
  have c7 : nI 7 &&& nI 31 = nI 7 := by decide
  have c3 : nI 3 &&& nI 31 = nI 3 := by decide
  have hnx : ∃ y, y < 60 ∧ y = (if x + 1 < 60 then x + 1 else 0) := ⟨_, by split <;> omega, rfl⟩
  obtain ⟨y, hy, ey⟩ := hnx
  refine ⟨tw_up (tw_up (tw_up μ (a + 8) x (nI (32768 * xd + (2048 * xh + (128 * qa + (8 * qb + t)))))) (a + 7) 21 (nI y)) (a + 7) 20 (tw_m60 (T 6)), ⟨?_, tw_fx_t (tw_fx_t (tw_fx_1 (by omega)) (tw_fx_1 (by omega))) (tw_fx_1 (by omega))⟩, fun k => ?_⟩
  · have o : ∀ j, j < 192 → j ≠ 6 → tw_tell T (nI t) j = T j := fun j a b => tw_tell_o (Or.inl a) b
    obtain ⟨s, hs, s1, s2⟩ := h4
    refine ⟨h1, ?_, ?_, ⟨s, hs, ?_, ?_⟩, ?_, ?_, ⟨y, hy, ?_, ?_⟩⟩
    · simp (disch := omega) only [↓tw_un, ↓tw_uk, ↓tw_ua, ↓tw_cpf_ne, ↓tw_cpf_in, ↓tw_cpf_out, o, tw_tell_6]
      exact ⟨h2.1, h2.2.1, h2.2.2.1, h2.2.2.2.1, h2.2.2.2.2.1, h2.2.2.2.2.2.1, trivial⟩
    · intro q hq; simp (disch := omega) only [↓tw_un, ↓tw_uk, ↓tw_ua, ↓tw_cpf_ne, ↓tw_cpf_in, ↓tw_cpf_out, o]; exact h3 q hq
    · simp (disch := omega) only [↓tw_un, ↓tw_uk, ↓tw_ua, ↓tw_cpf_ne, ↓tw_cpf_in, ↓tw_cpf_out]; exact s1
    · intro q hq; simp (disch := omega) only [o]; exact s2 q hq
    · intro q r hq hr; simp (disch := omega) only [↓tw_un, ↓tw_uk, ↓tw_ua, ↓tw_cpf_ne, ↓tw_cpf_in, ↓tw_cpf_out, o]; exact h5 q r hq hr
    · intro q r hq hr; simp (disch := omega) only [↓tw_un, ↓tw_uk, ↓tw_ua, ↓tw_cpf_ne, ↓tw_cpf_in, ↓tw_cpf_out, o]; exact h6 q r hq hr
    · simp (disch := omega) only [↓tw_un, ↓tw_uk, ↓tw_ua, ↓tw_cpf_ne, ↓tw_cpf_in, ↓tw_cpf_out]
    · intro k z h61 hz hk
      rw [tw_tell_6, e6, tw_m60_n hz0] at hz
      have hz2 : z = if z0 < 59 then z0 + 1 else 60 := by
        have h := congrArg tw_nt hz
        rw [tw_nt_n (by split <;> omega), tw_nt_n (by omega)] at h
        exact h.symm
      cases k with
      | zero =>
        have ei : (y + 59 - 0) % 60 = x := by subst ey; split <;> omega
        obtain ⟨t0, t1, t2, t3, t4⟩ := tw_tell_0 (T := T) (tn := nI t)
        rw [ei]
        simp (disch := omega) only [↓tw_un, ↓tw_uk, ↓tw_ua, ↓tw_cpf_ne, ↓tw_cpf_in, ↓tw_cpf_out]
        exact tw_pack_row hxd hxh hqa hqb ht (t0.trans e4) (t1.trans e3) (t2.trans (by rw [en]; exact ea1)) (t3.trans (by rw [en]; exact eb1)) t4
      | succ k =>
        have hk2 : k < 59 ∧ k < z0 := by subst hz2; split at hk <;> omega
        have ei : (y + 59 - (k + 1)) % 60 = (x + 59 - k) % 60 := by subst ey; split <;> omega
        have ne : (x + 59 - k) % 60 < x ∨ x < (x + 59 - k) % 60 := by omega
        have r := f2 k z0 hz0 e6 hk2.2
        rw [ei]
        simp (disch := omega) only [↓tw_un, ↓tw_uk, ↓tw_ua, ↓tw_cpf_ne, ↓tw_cpf_in, ↓tw_cpf_out]
        unfold tw_row at r ⊢
        have b (j : Nat) (hj : j < 5) : tw_tell T (nI t) (192 + 5 * (k + 1) + j) = T (192 + 5 * k + j) := tw_tell_s hk2.1 hj
        exact ⟨r.1.trans (b 0 (by omega)).symm, r.2.1.trans (b 1 (by omega)).symm, r.2.2.1.trans (b 2 (by omega)).symm, r.2.2.2.1.trans (b 3 (by omega)).symm, r.2.2.2.2.trans (b 4 (by omega)).symm⟩
  · rcases (by omega : x + 1 < 60 ∨ x = 59) with g | g
    · have ey2 : y = x + 1 := by rw [ey, if_pos g]
      simp (disch := omega) only [f_X2_add, f1, ea2, eb2, hrow, c15, c11, c7, c3, e20, hm, e6, ey2, ↓tw_un, ↓tw_uk, ↓tw_ua, ↓tw_cpf_ne, ↓tw_cpf_in, ↓tw_cpf_out, ↓TnV0 hT, ↓TnG0_39 hT, ↓TnG0_40 hT, ↓TnG0_41 hT, ↓TnG0_42 hT, ↓TnG0_43 hT, ↓TnG0_44 hT, ↓TnG0_45 hT, ↓TnI0_46 hT, ↓TnP0_46 hT, ↓TnZ0_46 hT, ↓TnI0_47 hT, ↓TnP0_47 hT, ↓TnZ0_47 hT, ↓TnI0_48 hT, ↓TnP0_48 hT, ↓TnZ0_48 hT, ↓TnI0_49 hT, ↓TnP0_49 hT, ↓TnZ0_49 hT, ↓TnI0_50 hT, ↓TnP0_50 hT, ↓TnZ0_50 hT, ↓TnI0_51 hT, ↓TnP0_51 hT, ↓TnZ0_51 hT, ↓TnI0_52 hT, ↓TnP0_52 hT, ↓TnZ0_52 hT, ↓TnV1 hT, ↓TnG1_19 hT, ↓TnI1_20 hT, ↓TnP1_20 hT, ↓TnZ1_20 hT, ↓TnI1_21 hT, ↓TnP1_21 hT, ↓TnZ1_21 hT, ↓TnL0 hT, ↓TnS0 hT, ↓TnL1 hT, ↓TnS1 hT, ↓TnL2 hT, ↓TnS2 hT, ↓TnL3 hT, ↓TnS3 hT, ↓TnL4 hT, ↓TnS4 hT, ↓TnL5 hT, ↓TnS5 hT, ↓TnL6 hT, ↓TnS6 hT, ↓A_if, ↓A_jn, ↓A_lt, ↓A_rz, ↓A_rn, ↓A_nzi, ↓A_nzl, ↓A_nn1, ↓A_nn0, ↓reduceIte, true_and, and_true, if_true, if_false, ite_true, ite_false, reduceIte, tl_0, tl_1, tl_2, tl_3, tl_4, tl_5, tl_6, tl_7, tl_8, tl_9, tl_10, tl_11, tl_12, tl_13, tl_14, tl_15, tl_16, tl_17, tl_18, tl_19, tl_20, tl_21, tl_22, tl_23, tl_24, tl_25, tl_26, tl_27, tl_28, tl_29, tl_30, tl_31, tl_32, tl_33, tl_34, tl_35, tl_36, tl_37, tl_38, tl_39, tl_40, tl_41, tl_42, tl_43, tl_44, tl_45, tl_46, tl_47, tl_48, tl_49, tl_50, tl_51, tl_52, tl_53, tl_54, tl_57, tl_59, tl_60, tl_62, tl_63, tl_64, tl_97, tl_99, tl_100, tl_120, tl_122, tl_192, tl_193, tl_194, tl_195, tl_196, tl_255, tl_256, tl_299, tl_400, tl_401, tl_492, tl_493, tl_541, tl_849, tl_999, tl_1000, tl_1341, tl_1342, tl_1390, tl_2190, tl_5412, tl_5904, tl_9999, tl_12345, tl_32767, tl_65536, tl_1000000, tl_252645135, tl_858993459, tl_1103515245, tl_1431655765, nz_31, nz_c31, eq_self, or_true, true_or, or_false, false_or, Nat.add_zero, nz_lt, nz_le, nz_eq, nz_cl, nz_sub, nI_add, pk_mul, nt_lt, nf_lt, nf_eq, nz_mI, mI_eq, mI_eq', mI_lt, mI_gt, mI_add, ↓j_max, ↓j_min, Nat.sub_sub, Nat.reduceAdd, Nat.reduceSub, Nat.reduceLT, Nat.reduceEqDiff, Bool.false_eq_true]
    · subst g
      have ey2 : y = 0 := by rw [ey, if_neg (by omega)]
      simp (disch := omega) only [f_X2_add, f1, ea2, eb2, hrow, c15, c11, c7, c3, e20, hm, e6, ey2, ↓tw_un, ↓tw_uk, ↓tw_ua, ↓tw_cpf_ne, ↓tw_cpf_in, ↓tw_cpf_out, ↓TnV0 hT, ↓TnG0_39 hT, ↓TnG0_40 hT, ↓TnG0_41 hT, ↓TnG0_42 hT, ↓TnG0_43 hT, ↓TnG0_44 hT, ↓TnG0_45 hT, ↓TnI0_46 hT, ↓TnP0_46 hT, ↓TnZ0_46 hT, ↓TnI0_47 hT, ↓TnP0_47 hT, ↓TnZ0_47 hT, ↓TnI0_48 hT, ↓TnP0_48 hT, ↓TnZ0_48 hT, ↓TnI0_49 hT, ↓TnP0_49 hT, ↓TnZ0_49 hT, ↓TnI0_50 hT, ↓TnP0_50 hT, ↓TnZ0_50 hT, ↓TnI0_51 hT, ↓TnP0_51 hT, ↓TnZ0_51 hT, ↓TnI0_52 hT, ↓TnP0_52 hT, ↓TnZ0_52 hT, ↓TnV1 hT, ↓TnG1_19 hT, ↓TnI1_20 hT, ↓TnP1_20 hT, ↓TnZ1_20 hT, ↓TnI1_21 hT, ↓TnP1_21 hT, ↓TnZ1_21 hT, ↓TnL0 hT, ↓TnS0 hT, ↓TnL1 hT, ↓TnS1 hT, ↓TnL2 hT, ↓TnS2 hT, ↓TnL3 hT, ↓TnS3 hT, ↓TnL4 hT, ↓TnS4 hT, ↓TnL5 hT, ↓TnS5 hT, ↓TnL6 hT, ↓TnS6 hT, ↓A_if, ↓A_jn, ↓A_lt, ↓A_rz, ↓A_rn, ↓A_nzi, ↓A_nzl, ↓A_nn1, ↓A_nn0, ↓reduceIte, true_and, and_true, if_true, if_false, ite_true, ite_false, reduceIte, tl_0, tl_1, tl_2, tl_3, tl_4, tl_5, tl_6, tl_7, tl_8, tl_9, tl_10, tl_11, tl_12, tl_13, tl_14, tl_15, tl_16, tl_17, tl_18, tl_19, tl_20, tl_21, tl_22, tl_23, tl_24, tl_25, tl_26, tl_27, tl_28, tl_29, tl_30, tl_31, tl_32, tl_33, tl_34, tl_35, tl_36, tl_37, tl_38, tl_39, tl_40, tl_41, tl_42, tl_43, tl_44, tl_45, tl_46, tl_47, tl_48, tl_49, tl_50, tl_51, tl_52, tl_53, tl_54, tl_57, tl_59, tl_60, tl_62, tl_63, tl_64, tl_97, tl_99, tl_100, tl_120, tl_122, tl_192, tl_193, tl_194, tl_195, tl_196, tl_255, tl_256, tl_299, tl_400, tl_401, tl_492, tl_493, tl_541, tl_849, tl_999, tl_1000, tl_1341, tl_1342, tl_1390, tl_2190, tl_5412, tl_5904, tl_9999, tl_12345, tl_32767, tl_65536, tl_1000000, tl_252645135, tl_858993459, tl_1103515245, tl_1431655765, nz_31, nz_c31, eq_self, or_true, true_or, or_false, false_or, Nat.add_zero, nz_lt, nz_le, nz_eq, nz_cl, nz_sub, nI_add, pk_mul, nt_lt, nf_lt, nf_eq, nz_mI, mI_eq, mI_eq', mI_lt, mI_gt, mI_add, ↓j_max, ↓j_min, Nat.sub_sub, Nat.reduceAdd, Nat.reduceSub, Nat.reduceLT, Nat.reduceEqDiff, Bool.false_eq_true]
theorem c_toneP (H : tw_RC sh μ a T) (W : tw_WF T P) (hh : h < 12) (k : Int32 → tw_Mem → Prop) : f_X8_toneOf a (T (8 + h)) (T (20 + h)) k (sh, μ, la, n) = k (tw_pt T h) (sh, μ, la, n) := by
  obtain ⟨h1, h2, -⟩ := Wf_p W hh
  have h8 := W.2.1
  rcases h1 with e1 | ⟨p, hp, e1⟩ <;> rcases h2 with e2 | ⟨o, ho, e2⟩ <;> simp (disch := omega) only [tw_pt, e1, e2, c_toneOf H W, nz_cl, mI_eq, mI_eq', if_true, if_false] <;> simp (disch := omega) only [f_X8_toneOf, ↓TnV0 H.1, ↓TnG0_39 H.1, ↓TnG0_40 H.1, ↓TnG0_41 H.1, ↓TnG0_42 H.1, ↓TnG0_43 H.1, ↓TnG0_44 H.1, ↓TnG0_45 H.1, ↓TnI0_46 H.1, ↓TnP0_46 H.1, ↓TnZ0_46 H.1, ↓TnI0_47 H.1, ↓TnP0_47 H.1, ↓TnZ0_47 H.1, ↓TnI0_48 H.1, ↓TnP0_48 H.1, ↓TnZ0_48 H.1, ↓TnI0_49 H.1, ↓TnP0_49 H.1, ↓TnZ0_49 H.1, ↓TnI0_50 H.1, ↓TnP0_50 H.1, ↓TnZ0_50 H.1, ↓TnI0_51 H.1, ↓TnP0_51 H.1, ↓TnZ0_51 H.1, ↓TnI0_52 H.1, ↓TnP0_52 H.1, ↓TnZ0_52 H.1, ↓TnV1 H.1, ↓TnG1_19 H.1, ↓TnI1_20 H.1, ↓TnP1_20 H.1, ↓TnZ1_20 H.1, ↓TnI1_21 H.1, ↓TnP1_21 H.1, ↓TnZ1_21 H.1, ↓TnL0 H.1, ↓TnS0 H.1, ↓TnL1 H.1, ↓TnS1 H.1, ↓TnL2 H.1, ↓TnS2 H.1, ↓TnL3 H.1, ↓TnS3 H.1, ↓TnL4 H.1, ↓TnS4 H.1, ↓TnL5 H.1, ↓TnS5 H.1, ↓TnL6 H.1, ↓TnS6 H.1, ↓A_if, ↓A_jn, ↓A_lt, ↓A_rz, ↓A_rn, ↓A_nzi, ↓A_nzl, ↓A_nn1, ↓A_nn0, ↓reduceIte, true_and, and_true, if_true, if_false, ite_true, ite_false, reduceIte, tl_0, tl_1, tl_2, tl_3, tl_4, tl_5, tl_6, tl_7, tl_8, tl_9, tl_10, tl_11, tl_12, tl_13, tl_14, tl_15, tl_16, tl_17, tl_18, tl_19, tl_20, tl_21, tl_22, tl_23, tl_24, tl_25, tl_26, tl_27, tl_28, tl_29, tl_30, tl_31, tl_32, tl_33, tl_34, tl_35, tl_36, tl_37, tl_38, tl_39, tl_40, tl_41, tl_42, tl_43, tl_44, tl_45, tl_46, tl_47, tl_48, tl_49, tl_50, tl_51, tl_52, tl_53, tl_54, tl_57, tl_59, tl_60, tl_62, tl_63, tl_64, tl_97, tl_99, tl_100, tl_120, tl_122, tl_192, tl_193, tl_194, tl_195, tl_196, tl_255, tl_256, tl_299, tl_400, tl_401, tl_492, tl_493, tl_541, tl_849, tl_999, tl_1000, tl_1341, tl_1342, tl_1390, tl_2190, tl_5412, tl_5904, tl_9999, tl_12345, tl_32767, tl_65536, tl_1000000, tl_252645135, tl_858993459, tl_1103515245, tl_1431655765, nz_31, nz_c31, eq_self, or_true, true_or, or_false, false_or, Nat.add_zero, nz_lt, nz_le, nz_eq, nz_cl, nz_sub, nI_add, pk_mul, nt_lt, nf_lt, nf_eq, nz_mI, mI_eq, mI_eq', mI_lt, mI_gt, mI_add, ↓j_max, ↓j_min, Nat.sub_sub, Nat.reduceAdd, Nat.reduceSub, Nat.reduceLT, Nat.reduceEqDiff, Bool.false_eq_true]
theorem c_passHour (hw : tw_Tw sh w) (H : tw_RC sh μ a T) (W : tw_WF T P) (HL : tw_La sh μ lw T) (hd : w + 2 ≤ a ∨ a + 9 ≤ w) (hdl : w + 1 < lw ∨ lw + 5 < w) (hda : a + 8 < lw ∨ lw + 5 < a) (calm : Bool) : ∃ μ', (tw_RC sh μ' a (tw_hq T calm P) ∧ tw_cq a w lw μ μ') ∧ ∀ k, f_X8_passHour a (if calm then nI 0 else nI 1) lw w k (sh, μ, la, n) = k (tw_pt T (tw_nt (T 3))) (sh, μ', la, n) := by
  obtain ⟨x, hx, ex⟩ := Wf_3 W
  have h8 := W.2.1
  have en : tw_nt (T 3) = x := by rw [ex]; exact tw_nt_n (by omega)
  obtain ⟨W1, K1⟩ := tw_h1_k W
  obtain ⟨W2, K2⟩ := tw_h2_k W
  have hs : ∀ (F : tw_Mem → Prop) (μ : Nat → Nat → Int32), tw_iv 0 lw F (sh, μ, la, n) = F (sh, μ, la, n) := fun F μ => by rw [A_iv, tw_is_T HL.1, true_and]
  -- (a)
  have A : ∃ μ', (tw_RC sh μ' a (tw_h2 T) ∧ tw_cq a w lw μ μ') ∧ ∀ (J : Unit → tw_Mem → Prop), tw_jn (fun (s7 : Unit) => tw_jn (fun (s9 : Unit) => J ()) (fun j8 => tw_if ((1 : Int32) < tw_pt T x) (tw_iv 9 w (f_X10_see w a (T (8 + x)) (T (20 + x)) (fun u17 => tw_iv 9 w (f_X10_pullOnce w lw (fun x18 => tw_iv 7 a (f_X8_takeFrom a w (fun u19 => j8 ()))))))) (j8 ()))) (fun j6 => tw_if (0 < tw_pt T x) (tw_gr 45 a fun x20 => tw_gi 49 a fun x21 => tw_gi 48 a fun x22 => tw_iv 2 x20 (f_X2_add x20 x21 x22 (T (8 + x)) (T (20 + x)) (tw_pt T x) (fun u23 => j6 ()))) (j6 ())) (sh, μ, la, n) = J () (sh, μ', la, n) := by
    rcases tw_pt_c W hx with e | e | ⟨p, o, t, hp, ho, hpo, t2, t5, e1, e2, e, -⟩
    · have q1 : tw_h1 T = T := by unfold tw_h1; rw [en, e, if_neg (by decide)]
      have q2 : tw_h2 T = T := by unfold tw_h2; rw [en, e, if_neg (by decide), q1]
      rw [q2]
      refine ⟨μ, ⟨H, tw_cq_r⟩, fun J => ?_⟩
      simp (disch := omega) only [e, ↓TnV0 H.1, ↓TnG0_39 H.1, ↓TnG0_40 H.1, ↓TnG0_41 H.1, ↓TnG0_42 H.1, ↓TnG0_43 H.1, ↓TnG0_44 H.1, ↓TnG0_45 H.1, ↓TnI0_46 H.1, ↓TnP0_46 H.1, ↓TnZ0_46 H.1, ↓TnI0_47 H.1, ↓TnP0_47 H.1, ↓TnZ0_47 H.1, ↓TnI0_48 H.1, ↓TnP0_48 H.1, ↓TnZ0_48 H.1, ↓TnI0_49 H.1, ↓TnP0_49 H.1, ↓TnZ0_49 H.1, ↓TnI0_50 H.1, ↓TnP0_50 H.1, ↓TnZ0_50 H.1, ↓TnI0_51 H.1, ↓TnP0_51 H.1, ↓TnZ0_51 H.1, ↓TnI0_52 H.1, ↓TnP0_52 H.1, ↓TnZ0_52 H.1, ↓TnV1 H.1, ↓TnG1_19 H.1, ↓TnI1_20 H.1, ↓TnP1_20 H.1, ↓TnZ1_20 H.1, ↓TnI1_21 H.1, ↓TnP1_21 H.1, ↓TnZ1_21 H.1, ↓TnL0 H.1, ↓TnS0 H.1, ↓TnL1 H.1, ↓TnS1 H.1, ↓TnL2 H.1, ↓TnS2 H.1, ↓TnL3 H.1, ↓TnS3 H.1, ↓TnL4 H.1, ↓TnS4 H.1, ↓TnL5 H.1, ↓TnS5 H.1, ↓TnL6 H.1, ↓TnS6 H.1, ↓A_if, ↓A_jn, ↓A_lt, ↓A_rz, ↓A_rn, ↓A_nzi, ↓A_nzl, ↓A_nn1, ↓A_nn0, ↓reduceIte, true_and, and_true, if_true, if_false, ite_true, ite_false, reduceIte, tl_0, tl_1, tl_2, tl_3, tl_4, tl_5, tl_6, tl_7, tl_8, tl_9, tl_10, tl_11, tl_12, tl_13, tl_14, tl_15, tl_16, tl_17, tl_18, tl_19, tl_20, tl_21, tl_22, tl_23, tl_24, tl_25, tl_26, tl_27, tl_28, tl_29, tl_30, tl_31, tl_32, tl_33, tl_34, tl_35, tl_36, tl_37, tl_38, tl_39, tl_40, tl_41, tl_42, tl_43, tl_44, tl_45, tl_46, tl_47, tl_48, tl_49, tl_50, tl_51, tl_52, tl_53, tl_54, tl_57, tl_59, tl_60, tl_62, tl_63, tl_64, tl_97, tl_99, tl_100, tl_120, tl_122, tl_192, tl_193, tl_194, tl_195, tl_196, tl_255, tl_256, tl_299, tl_400, tl_401, tl_492, tl_493, tl_541, tl_849, tl_999, tl_1000, tl_1341, tl_1342, tl_1390, tl_2190, tl_5412, tl_5904, tl_9999, tl_12345, tl_32767, tl_65536, tl_1000000, tl_252645135, tl_858993459, tl_1103515245, tl_1431655765, nz_31, nz_c31, eq_self, or_true, true_or, or_false, false_or, Nat.add_zero, nz_lt, nz_le, nz_eq, nz_cl, nz_sub, nI_add, pk_mul, nt_lt, nf_lt, nf_eq, nz_mI, mI_eq, mI_eq', mI_lt, mI_gt, mI_add, ↓j_max, ↓j_min, Nat.sub_sub, Nat.reduceAdd, Nat.reduceSub, Nat.reduceLT, Nat.reduceEqDiff, Bool.false_eq_true]
    · have q1 : tw_h1 T = tw_tell T (nI 1) := by unfold tw_h1; rw [en, e, if_pos (by decide)]
      have q2 : tw_h2 T = tw_tell T (nI 1) := by unfold tw_h2; rw [en, e, if_neg (by decide), q1]
      rw [q2]
      obtain ⟨μ1, ⟨R1, F1⟩, E1⟩ := c_logAdd (la := la) (n := n) H W (t := 1) (by omega)
      rw [en] at E1
      refine ⟨μ1, ⟨R1, tw_cq_x F1⟩, fun J => ?_⟩
      simp (disch := omega) only [e, ↓E1, Rc_48 H, Rc_49 H, ↓TnV0 H.1, ↓TnG0_39 H.1, ↓TnG0_40 H.1, ↓TnG0_41 H.1, ↓TnG0_42 H.1, ↓TnG0_43 H.1, ↓TnG0_44 H.1, ↓TnG0_45 H.1, ↓TnI0_46 H.1, ↓TnP0_46 H.1, ↓TnZ0_46 H.1, ↓TnI0_47 H.1, ↓TnP0_47 H.1, ↓TnZ0_47 H.1, ↓TnI0_48 H.1, ↓TnP0_48 H.1, ↓TnZ0_48 H.1, ↓TnI0_49 H.1, ↓TnP0_49 H.1, ↓TnZ0_49 H.1, ↓TnI0_50 H.1, ↓TnP0_50 H.1, ↓TnZ0_50 H.1, ↓TnI0_51 H.1, ↓TnP0_51 H.1, ↓TnZ0_51 H.1, ↓TnI0_52 H.1, ↓TnP0_52 H.1, ↓TnZ0_52 H.1, ↓TnV1 H.1, ↓TnG1_19 H.1, ↓TnI1_20 H.1, ↓TnP1_20 H.1, ↓TnZ1_20 H.1, ↓TnI1_21 H.1, ↓TnP1_21 H.1, ↓TnZ1_21 H.1, ↓TnL0 H.1, ↓TnS0 H.1, ↓TnL1 H.1, ↓TnS1 H.1, ↓TnL2 H.1, ↓TnS2 H.1, ↓TnL3 H.1, ↓TnS3 H.1, ↓TnL4 H.1, ↓TnS4 H.1, ↓TnL5 H.1, ↓TnS5 H.1, ↓TnL6 H.1, ↓TnS6 H.1, ↓A_if, ↓A_jn, ↓A_lt, ↓A_rz, ↓A_rn, ↓A_nzi, ↓A_nzl, ↓A_nn1, ↓A_nn0, ↓reduceIte, true_and, and_true, if_true, if_false, ite_true, ite_false, reduceIte, tl_0, tl_1, tl_2, tl_3, tl_4, tl_5, tl_6, tl_7, tl_8, tl_9, tl_10, tl_11, tl_12, tl_13, tl_14, tl_15, tl_16, tl_17, tl_18, tl_19, tl_20, tl_21, tl_22, tl_23, tl_24, tl_25, tl_26, tl_27, tl_28, tl_29, tl_30, tl_31, tl_32, tl_33, tl_34, tl_35, tl_36, tl_37, tl_38, tl_39, tl_40, tl_41, tl_42, tl_43, tl_44, tl_45, tl_46, tl_47, tl_48, tl_49, tl_50, tl_51, tl_52, tl_53, tl_54, tl_57, tl_59, tl_60, tl_62, tl_63, tl_64, tl_97, tl_99, tl_100, tl_120, tl_122, tl_192, tl_193, tl_194, tl_195, tl_196, tl_255, tl_256, tl_299, tl_400, tl_401, tl_492, tl_493, tl_541, tl_849, tl_999, tl_1000, tl_1341, tl_1342, tl_1390, tl_2190, tl_5412, tl_5904, tl_9999, tl_12345, tl_32767, tl_65536, tl_1000000, tl_252645135, tl_858993459, tl_1103515245, tl_1431655765, nz_31, nz_c31, eq_self, or_true, true_or, or_false, false_or, Nat.add_zero, nz_lt, nz_le, nz_eq, nz_cl, nz_sub, nI_add, pk_mul, nt_lt, nf_lt, nf_eq, nz_mI, mI_eq, mI_eq', mI_lt, mI_gt, mI_add, ↓j_max, ↓j_min, Nat.sub_sub, Nat.reduceAdd, Nat.reduceSub, Nat.reduceLT, Nat.reduceEqDiff, Bool.false_eq_true]
    · have q1 : tw_h1 T = tw_tell T (nI t) := by unfold tw_h1; rw [en, e, if_pos (by rw [nz_lt (by omega) (by omega)]; omega)]
      have q2 : tw_h2 T = tw_pull (tw_tell T (nI t)) p o := by unfold tw_h2; rw [en, e, if_pos (by rw [nz_lt (by omega) (by omega)]; omega), q1, e1, e2, tw_nt_n (by omega), tw_nt_n (by omega)]
      rw [q2]
      rw [q1] at W1 K1
      obtain ⟨μ1, ⟨R1, F1⟩, E1⟩ := c_logAdd (la := la) (n := n) H W (t := t) (by omega)
      rw [en] at E1
      have L1 : tw_La sh μ1 lw (tw_tell T (nI t)) := tw_cq_La HL (tw_cq_x F1) hdl hda (K1 2 (by omega) (by omega)) (fun j hj => K1 j (by omega) (by omega))
      obtain ⟨μ2, ⟨h2, F2⟩, E2⟩ := c_see2 (la := la) (n := n) hw R1 W1 (p := p) (o := o) hp ho hd
      have R2 := Rc_fx R1 F2 (by omega)
      have L2 : tw_La sh μ2 lw (tw_tell T (nI t)) := tw_La_same L1 (fun x hx => F2 x (by omega)) rfl (fun _ _ => rfl)
      obtain ⟨μ3, ⟨h3, F3⟩, E3⟩ := c_pull (la := la) (n := n) hw L2 W1 (p := p) (o := o) (by omega) (by omega) hpo hdl h2
      have R3 := Rc_wl R2 F3 hd (by omega)
      obtain ⟨g1, g2⟩ := tw_pull_4 W1 (p := p) (o := o) (by omega) (by omega) hpo
      obtain ⟨μ4, ⟨R4, F4⟩, E4⟩ := c_takeT (la := la) (n := n) hw R3 hd (p := p) (o := o) (by omega) (by omega) h3 g1 g2
      refine ⟨μ4, ⟨R4, tw_cq_t (tw_cq_x F1) (tw_cq_t (tw_cq_x2 F2) (tw_cq_t (tw_cq_w F3) (tw_cq_x F4)))⟩, fun J => ?_⟩
      rw [e1, e2] at E1 ⊢
      simp (disch := omega) only [e, ↓E1, ↓E2, ↓E3, ↓E4, Rc_48 H, Rc_49 H, ↓TwV0 hw, ↓TwG0_54 hw, ↓TwI0_55 hw, ↓TwP0_55 hw, ↓TwZ0_55 hw, ↓TwL0 hw, ↓TwS0 hw, ↓TnV0 H.1, ↓TnG0_39 H.1, ↓TnG0_40 H.1, ↓TnG0_41 H.1, ↓TnG0_42 H.1, ↓TnG0_43 H.1, ↓TnG0_44 H.1, ↓TnG0_45 H.1, ↓TnI0_46 H.1, ↓TnP0_46 H.1, ↓TnZ0_46 H.1, ↓TnI0_47 H.1, ↓TnP0_47 H.1, ↓TnZ0_47 H.1, ↓TnI0_48 H.1, ↓TnP0_48 H.1, ↓TnZ0_48 H.1, ↓TnI0_49 H.1, ↓TnP0_49 H.1, ↓TnZ0_49 H.1, ↓TnI0_50 H.1, ↓TnP0_50 H.1, ↓TnZ0_50 H.1, ↓TnI0_51 H.1, ↓TnP0_51 H.1, ↓TnZ0_51 H.1, ↓TnI0_52 H.1, ↓TnP0_52 H.1, ↓TnZ0_52 H.1, ↓TnV1 H.1, ↓TnG1_19 H.1, ↓TnI1_20 H.1, ↓TnP1_20 H.1, ↓TnZ1_20 H.1, ↓TnI1_21 H.1, ↓TnP1_21 H.1, ↓TnZ1_21 H.1, ↓TnL0 H.1, ↓TnS0 H.1, ↓TnL1 H.1, ↓TnS1 H.1, ↓TnL2 H.1, ↓TnS2 H.1, ↓TnL3 H.1, ↓TnS3 H.1, ↓TnL4 H.1, ↓TnS4 H.1, ↓TnL5 H.1, ↓TnS5 H.1, ↓TnL6 H.1, ↓TnS6 H.1, ↓A_if, ↓A_jn, ↓A_lt, ↓A_rz, ↓A_rn, ↓A_nzi, ↓A_nzl, ↓A_nn1, ↓A_nn0, ↓reduceIte, true_and, and_true, if_true, if_false, ite_true, ite_false, reduceIte, tl_0, tl_1, tl_2, tl_3, tl_4, tl_5, tl_6, tl_7, tl_8, tl_9, tl_10, tl_11, tl_12, tl_13, tl_14, tl_15, tl_16, tl_17, tl_18, tl_19, tl_20, tl_21, tl_22, tl_23, tl_24, tl_25, tl_26, tl_27, tl_28, tl_29, tl_30, tl_31, tl_32, tl_33, tl_34, tl_35, tl_36, tl_37, tl_38, tl_39, tl_40, tl_41, tl_42, tl_43, tl_44, tl_45, tl_46, tl_47, tl_48, tl_49, tl_50, tl_51, tl_52, tl_53, tl_54, tl_57, tl_59, tl_60, tl_62, tl_63, tl_64, tl_97, tl_99, tl_100, tl_120, tl_122, tl_192, tl_193, tl_194, tl_195, tl_196, tl_255, tl_256, tl_299, tl_400, tl_401, tl_492, tl_493, tl_541, tl_849, tl_999, tl_1000, tl_1341, tl_1342, tl_1390, tl_2190, tl_5412, tl_5904, tl_9999, tl_12345, tl_32767, tl_65536, tl_1000000, tl_252645135, tl_858993459, tl_1103515245, tl_1431655765, nz_31, nz_c31, eq_self, or_true, true_or, or_false, false_or, Nat.add_zero, nz_lt, nz_le, nz_eq, nz_cl, nz_sub, nI_add, pk_mul, nt_lt, nf_lt, nf_eq, nz_mI, mI_eq, mI_eq', mI_lt, mI_gt, mI_add, ↓j_max, ↓j_min, Nat.sub_sub, Nat.reduceAdd, Nat.reduceSub, Nat.reduceLT, Nat.reduceEqDiff, Bool.false_eq_true]
  obtain ⟨μ1, ⟨R1, F1⟩, E1⟩ := A
  -- (b)
  have L1 : tw_La sh μ1 lw (tw_h2 T) := tw_cq_La HL F1 hdl hda (K2 2 (by omega) (by omega)) (fun j hj => K2 j (by omega) (by omega))
  have B : ∃ μ', (tw_RC sh μ' a (tw_he (tw_h2 T) calm P) ∧ tw_cq a w lw μ1 μ') ∧ ∀ (k : Int32 → tw_Mem → Prop), tw_gi 48 a (fun x10 => tw_pi 48 a (x10 + (1 : Int32)) (tw_gi 48 a fun x11 => tw_if (x11 < (12 : Int32)) (k (tw_pt T x)) (tw_pi 48 a (0 : Int32) (tw_jn (fun (s13 : Unit) => tw_gi 49 a fun x14 => f_J9_min_7cf53 (x14 + (1 : Int32)) (9999 : Int32) (fun x15 => tw_pi 49 a x15 (k (tw_pt T x)))) (fun j12 => tw_if ((if calm then nI 0 else nI 1) = 0) (j12 ()) (tw_iv 7 a (f_X8_holdMeetings a lw w (fun u16 => j12 ())))))))) (sh, μ1, la, n) = k (tw_pt T x) (sh, μ', la, n) := by
    generalize tw_h2 T = U at *
    unfold tw_he
    have e48 := Rc_48 R1
    by_cases g : U 3 + nI 1 < nI 12
    · rw [if_pos g]
      refine ⟨_, ⟨Rc_set48 R1 (U 3 + nI 1), tw_cq_x (tw_fx_1 (by omega))⟩, fun k => ?_⟩
      simp (disch := omega) only [e48, g, tw_ua, ↓TnV0 R1.1, ↓TnG0_39 R1.1, ↓TnG0_40 R1.1, ↓TnG0_41 R1.1, ↓TnG0_42 R1.1, ↓TnG0_43 R1.1, ↓TnG0_44 R1.1, ↓TnG0_45 R1.1, ↓TnI0_46 R1.1, ↓TnP0_46 R1.1, ↓TnZ0_46 R1.1, ↓TnI0_47 R1.1, ↓TnP0_47 R1.1, ↓TnZ0_47 R1.1, ↓TnI0_48 R1.1, ↓TnP0_48 R1.1, ↓TnZ0_48 R1.1, ↓TnI0_49 R1.1, ↓TnP0_49 R1.1, ↓TnZ0_49 R1.1, ↓TnI0_50 R1.1, ↓TnP0_50 R1.1, ↓TnZ0_50 R1.1, ↓TnI0_51 R1.1, ↓TnP0_51 R1.1, ↓TnZ0_51 R1.1, ↓TnI0_52 R1.1, ↓TnP0_52 R1.1, ↓TnZ0_52 R1.1, ↓TnV1 R1.1, ↓TnG1_19 R1.1, ↓TnI1_20 R1.1, ↓TnP1_20 R1.1, ↓TnZ1_20 R1.1, ↓TnI1_21 R1.1, ↓TnP1_21 R1.1, ↓TnZ1_21 R1.1, ↓TnL0 R1.1, ↓TnS0 R1.1, ↓TnL1 R1.1, ↓TnS1 R1.1, ↓TnL2 R1.1, ↓TnS2 R1.1, ↓TnL3 R1.1, ↓TnS3 R1.1, ↓TnL4 R1.1, ↓TnS4 R1.1, ↓TnL5 R1.1, ↓TnS5 R1.1, ↓TnL6 R1.1, ↓TnS6 R1.1, ↓A_if, ↓A_jn, ↓A_lt, ↓A_rz, ↓A_rn, ↓A_nzi, ↓A_nzl, ↓A_nn1, ↓A_nn0, ↓reduceIte, true_and, and_true, if_true, if_false, ite_true, ite_false, reduceIte, tl_0, tl_1, tl_2, tl_3, tl_4, tl_5, tl_6, tl_7, tl_8, tl_9, tl_10, tl_11, tl_12, tl_13, tl_14, tl_15, tl_16, tl_17, tl_18, tl_19, tl_20, tl_21, tl_22, tl_23, tl_24, tl_25, tl_26, tl_27, tl_28, tl_29, tl_30, tl_31, tl_32, tl_33, tl_34, tl_35, tl_36, tl_37, tl_38, tl_39, tl_40, tl_41, tl_42, tl_43, tl_44, tl_45, tl_46, tl_47, tl_48, tl_49, tl_50, tl_51, tl_52, tl_53, tl_54, tl_57, tl_59, tl_60, tl_62, tl_63, tl_64, tl_97, tl_99, tl_100, tl_120, tl_122, tl_192, tl_193, tl_194, tl_195, tl_196, tl_255, tl_256, tl_299, tl_400, tl_401, tl_492, tl_493, tl_541, tl_849, tl_999, tl_1000, tl_1341, tl_1342, tl_1390, tl_2190, tl_5412, tl_5904, tl_9999, tl_12345, tl_32767, tl_65536, tl_1000000, tl_252645135, tl_858993459, tl_1103515245, tl_1431655765, nz_31, nz_c31, eq_self, or_true, true_or, or_false, false_or, Nat.add_zero, nz_lt, nz_le, nz_eq, nz_cl, nz_sub, nI_add, pk_mul, nt_lt, nf_lt, nf_eq, nz_mI, mI_eq, mI_eq', mI_lt, mI_gt, mI_add, ↓j_max, ↓j_min, Nat.sub_sub, Nat.reduceAdd, Nat.reduceSub, Nat.reduceLT, Nat.reduceEqDiff, Bool.false_eq_true]
    · rw [if_neg g]
      have R2 := Rc_set48 (Rc_set48 R1 (U 3 + nI 1)) (nI 0)
      rw [tw_u1_u1] at R2
      have W2' := Wf_s3 W2 (x := 0) (by omega)
      have L2 : tw_La sh (tw_up (tw_up μ1 a 48 (U 3 + nI 1)) a 48 (nI 0)) lw (tw_u1 U 3 (nI 0)) := tw_La_same L1 (fun x hx => by rw [tw_up_ne (by omega), tw_up_ne (by omega)]) (tw_u1n (by omega)) (fun j hj => tw_u1n (by omega))
      have F2 : tw_cq a w lw μ1 (tw_up (tw_up μ1 a 48 (U 3 + nI 1)) a 48 (nI 0)) := tw_cq_x (tw_fx_t (tw_fx_1 (by omega)) (tw_fx_1 (by omega)))
      obtain ⟨W3, -⟩ := tw_bd_k calm W2'
      obtain ⟨y, hy, ey⟩ := Wf_4 W3
      have e9 := tw_n9_c ey hy
      cases calm
      · obtain ⟨μ3, ⟨R3, F3⟩, E3⟩ := c_meetings (la := la) (n := n) hw R2 W2' L2 hd hdl hda
        refine ⟨_, ⟨Rc_set49 R3 (tw_n9 (tw_bd (tw_u1 U 3 (nI 0)) false P 4)), tw_cq_t F2 (tw_cq_t F3 (tw_cq_x (tw_fx_1 (by omega))))⟩, fun k => ?_⟩
        simp (disch := omega) only [e48, g, tw_ua, ↓E3, Rc_49 R3, e9, Bool.false_eq_true, ↓TnV0 R1.1, ↓TnG0_39 R1.1, ↓TnG0_40 R1.1, ↓TnG0_41 R1.1, ↓TnG0_42 R1.1, ↓TnG0_43 R1.1, ↓TnG0_44 R1.1, ↓TnG0_45 R1.1, ↓TnI0_46 R1.1, ↓TnP0_46 R1.1, ↓TnZ0_46 R1.1, ↓TnI0_47 R1.1, ↓TnP0_47 R1.1, ↓TnZ0_47 R1.1, ↓TnI0_48 R1.1, ↓TnP0_48 R1.1, ↓TnZ0_48 R1.1, ↓TnI0_49 R1.1, ↓TnP0_49 R1.1, ↓TnZ0_49 R1.1, ↓TnI0_50 R1.1, ↓TnP0_50 R1.1, ↓TnZ0_50 R1.1, ↓TnI0_51 R1.1, ↓TnP0_51 R1.1, ↓TnZ0_51 R1.1, ↓TnI0_52 R1.1, ↓TnP0_52 R1.1, ↓TnZ0_52 R1.1, ↓TnV1 R1.1, ↓TnG1_19 R1.1, ↓TnI1_20 R1.1, ↓TnP1_20 R1.1, ↓TnZ1_20 R1.1, ↓TnI1_21 R1.1, ↓TnP1_21 R1.1, ↓TnZ1_21 R1.1, ↓TnL0 R1.1, ↓TnS0 R1.1, ↓TnL1 R1.1, ↓TnS1 R1.1, ↓TnL2 R1.1, ↓TnS2 R1.1, ↓TnL3 R1.1, ↓TnS3 R1.1, ↓TnL4 R1.1, ↓TnS4 R1.1, ↓TnL5 R1.1, ↓TnS5 R1.1, ↓TnL6 R1.1, ↓TnS6 R1.1, ↓A_if, ↓A_jn, ↓A_lt, ↓A_rz, ↓A_rn, ↓A_nzi, ↓A_nzl, ↓A_nn1, ↓A_nn0, ↓reduceIte, true_and, and_true, if_true, if_false, ite_true, ite_false, reduceIte, tl_0, tl_1, tl_2, tl_3, tl_4, tl_5, tl_6, tl_7, tl_8, tl_9, tl_10, tl_11, tl_12, tl_13, tl_14, tl_15, tl_16, tl_17, tl_18, tl_19, tl_20, tl_21, tl_22, tl_23, tl_24, tl_25, tl_26, tl_27, tl_28, tl_29, tl_30, tl_31, tl_32, tl_33, tl_34, tl_35, tl_36, tl_37, tl_38, tl_39, tl_40, tl_41, tl_42, tl_43, tl_44, tl_45, tl_46, tl_47, tl_48, tl_49, tl_50, tl_51, tl_52, tl_53, tl_54, tl_57, tl_59, tl_60, tl_62, tl_63, tl_64, tl_97, tl_99, tl_100, tl_120, tl_122, tl_192, tl_193, tl_194, tl_195, tl_196, tl_255, tl_256, tl_299, tl_400, tl_401, tl_492, tl_493, tl_541, tl_849, tl_999, tl_1000, tl_1341, tl_1342, tl_1390, tl_2190, tl_5412, tl_5904, tl_9999, tl_12345, tl_32767, tl_65536, tl_1000000, tl_252645135, tl_858993459, tl_1103515245, tl_1431655765, nz_31, nz_c31, eq_self, or_true, true_or, or_false, false_or, Nat.add_zero, nz_lt, nz_le, nz_eq, nz_cl, nz_sub, nI_add, pk_mul, nt_lt, nf_lt, nf_eq, nz_mI, mI_eq, mI_eq', mI_lt, mI_gt, mI_add, ↓j_max, ↓j_min, Nat.sub_sub, Nat.reduceAdd, Nat.reduceSub, Nat.reduceLT, Nat.reduceEqDiff, Bool.false_eq_true]
      · refine ⟨_, ⟨Rc_set49 R2 (tw_n9 (tw_bd (tw_u1 U 3 (nI 0)) true P 4)), tw_cq_t F2 (tw_cq_x (tw_fx_1 (by omega)))⟩, fun k => ?_⟩
        have e49 := Rc_49 R2
        have eb : tw_bd (tw_u1 U 3 (nI 0)) true P = tw_u1 U 3 (nI 0) := rfl
        rw [eb] at e9 ⊢
        simp (disch := omega) only [e48, g, tw_ua, e49, e9, ↓TnV0 R1.1, ↓TnG0_39 R1.1, ↓TnG0_40 R1.1, ↓TnG0_41 R1.1, ↓TnG0_42 R1.1, ↓TnG0_43 R1.1, ↓TnG0_44 R1.1, ↓TnG0_45 R1.1, ↓TnI0_46 R1.1, ↓TnP0_46 R1.1, ↓TnZ0_46 R1.1, ↓TnI0_47 R1.1, ↓TnP0_47 R1.1, ↓TnZ0_47 R1.1, ↓TnI0_48 R1.1, ↓TnP0_48 R1.1, ↓TnZ0_48 R1.1, ↓TnI0_49 R1.1, ↓TnP0_49 R1.1, ↓TnZ0_49 R1.1, ↓TnI0_50 R1.1, ↓TnP0_50 R1.1, ↓TnZ0_50 R1.1, ↓TnI0_51 R1.1, ↓TnP0_51 R1.1, ↓TnZ0_51 R1.1, ↓TnI0_52 R1.1, ↓TnP0_52 R1.1, ↓TnZ0_52 R1.1, ↓TnV1 R1.1, ↓TnG1_19 R1.1, ↓TnI1_20 R1.1, ↓TnP1_20 R1.1, ↓TnZ1_20 R1.1, ↓TnI1_21 R1.1, ↓TnP1_21 R1.1, ↓TnZ1_21 R1.1, ↓TnL0 R1.1, ↓TnS0 R1.1, ↓TnL1 R1.1, ↓TnS1 R1.1, ↓TnL2 R1.1, ↓TnS2 R1.1, ↓TnL3 R1.1, ↓TnS3 R1.1, ↓TnL4 R1.1, ↓TnS4 R1.1, ↓TnL5 R1.1, ↓TnS5 R1.1, ↓TnL6 R1.1, ↓TnS6 R1.1, ↓A_if, ↓A_jn, ↓A_lt, ↓A_rz, ↓A_rn, ↓A_nzi, ↓A_nzl, ↓A_nn1, ↓A_nn0, ↓reduceIte, true_and, and_true, if_true, if_false, ite_true, ite_false, reduceIte, tl_0, tl_1, tl_2, tl_3, tl_4, tl_5, tl_6, tl_7, tl_8, tl_9, tl_10, tl_11, tl_12, tl_13, tl_14, tl_15, tl_16, tl_17, tl_18, tl_19, tl_20, tl_21, tl_22, tl_23, tl_24, tl_25, tl_26, tl_27, tl_28, tl_29, tl_30, tl_31, tl_32, tl_33, tl_34, tl_35, tl_36, tl_37, tl_38, tl_39, tl_40, tl_41, tl_42, tl_43, tl_44, tl_45, tl_46, tl_47, tl_48, tl_49, tl_50, tl_51, tl_52, tl_53, tl_54, tl_57, tl_59, tl_60, tl_62, tl_63, tl_64, tl_97, tl_99, tl_100, tl_120, tl_122, tl_192, tl_193, tl_194, tl_195, tl_196, tl_255, tl_256, tl_299, tl_400, tl_401, tl_492, tl_493, tl_541, tl_849, tl_999, tl_1000, tl_1341, tl_1342, tl_1390, tl_2190, tl_5412, tl_5904, tl_9999, tl_12345, tl_32767, tl_65536, tl_1000000, tl_252645135, tl_858993459, tl_1103515245, tl_1431655765, nz_31, nz_c31, eq_self, or_true, true_or, or_false, false_or, Nat.add_zero, nz_lt, nz_le, nz_eq, nz_cl, nz_sub, nI_add, pk_mul, nt_lt, nf_lt, nf_eq, nz_mI, mI_eq, mI_eq', mI_lt, mI_gt, mI_add, ↓j_max, ↓j_min, Nat.sub_sub, Nat.reduceAdd, Nat.reduceSub, Nat.reduceLT, Nat.reduceEqDiff, Bool.false_eq_true]
  obtain ⟨μ2, ⟨R2, F2⟩, E2⟩ := B
  refine ⟨μ2, ⟨R2, tw_cq_t F1 F2⟩, fun k => ?_⟩
  have e48 := (Rc_48 H).trans ex
  have hp0 : ∀ k : Int32 → tw_Mem → Prop, f_X8_planned a (0 : Int32) (nI x) k (sh, μ, la, n) = k (T (8 + x)) (sh, μ, la, n) := fun k => c_planned (l := 0) H (by omega) hx k
  have hp1 : ∀ k : Int32 → tw_Mem → Prop, f_X8_planned a (1 : Int32) (nI x) k (sh, μ, la, n) = k (T (20 + x)) (sh, μ, la, n) := fun k => c_planned (l := 1) H (by omega) hx k
  rw [en]
  refine Eq.trans ?_ (E2 k)
  refine Eq.trans ?_ (E1 (fun _ => tw_gi 48 a (fun x10 => tw_pi 48 a (x10 + (1 : Int32)) (tw_gi 48 a fun x11 => tw_if (x11 < (12 : Int32)) (k (tw_pt T x)) (tw_pi 48 a (0 : Int32) (tw_jn (fun (s13 : Unit) => tw_gi 49 a fun x14 => f_J9_min_7cf53 (x14 + (1 : Int32)) (9999 : Int32) (fun x15 => tw_pi 49 a x15 (k (tw_pt T x)))) (fun j12 => tw_if ((if calm then nI 0 else nI 1) = 0) (j12 ()) (tw_iv 7 a (f_X8_holdMeetings a lw w (fun u16 => j12 ()))))))))))
  simp only [f_X8_passHour, ↓TnI0_48 H.1, ↓TnV0 H.1, e48, ↓hp0, ↓hp1, ↓c_toneP H W hx]
theorem c_passHours (hw : tw_Tw sh w) (H : tw_RC sh μ a T) (W : tw_WF T P) (HL : tw_La sh μ lw T) (hd : w + 2 ≤ a ∨ a + 9 ≤ w) (hdl : w + 1 < lw ∨ lw + 5 < w) (hda : a + 8 < lw ∨ lw + 5 < a) (calm : Bool) (hN : N < 2147483648) : ∃ μ', (tw_RC sh μ' a (tw_gs T calm P N) ∧ tw_cq a w lw μ μ') ∧ ∀ k, f_X8_passHours a (nI N) (if calm then nI 0 else nI 1) lw w k (sh, μ, la, n) = k (tw_gm T calm P N) (sh, μ', la, n) := by
  simp (disch := omega) only [f_X8_passHours, tl_0, tl_1]
  refine tw_lp_ex N (fun i => (tw_gm T calm P i, nI i)) (fun i μ' => tw_RC sh μ' a (tw_gs T calm P i) ∧ tw_cq a w lw μ μ') rfl ⟨H, tw_cq_r⟩ ?_ ?_
  · rintro i hi μ1 ⟨R1, F1⟩
    obtain ⟨W1, K1⟩ := tw_gs_k calm W i
    have L1 := tw_cq_La HL F1 hdl hda (K1 2 (Or.inl rfl)) (fun j hj => K1 j (Or.inr hj))
    obtain ⟨μ2, ⟨R2, F2⟩, E2⟩ := c_passHour (la := la) (n := n) hw R1 W1 L1 hd hdl hda calm
    refine ⟨μ2, ⟨R2, tw_cq_t F1 F2⟩, fun k rec => ?_⟩
    have e : tw_gm T calm P (i + 1) = tw_gm T calm P i + tw_ri (tw_gs T calm P i) := rfl
    rw [e]
    unfold tw_ri
    by_cases g : tw_pt (tw_gs T calm P i) (tw_nt (tw_gs T calm P i 3)) = nI 4 <;> simp (disch := omega) only [↓E2, g, nz_add0, ↓TnV0 R1.1, ↓TnG0_39 R1.1, ↓TnG0_40 R1.1, ↓TnG0_41 R1.1, ↓TnG0_42 R1.1, ↓TnG0_43 R1.1, ↓TnG0_44 R1.1, ↓TnG0_45 R1.1, ↓TnI0_46 R1.1, ↓TnP0_46 R1.1, ↓TnZ0_46 R1.1, ↓TnI0_47 R1.1, ↓TnP0_47 R1.1, ↓TnZ0_47 R1.1, ↓TnI0_48 R1.1, ↓TnP0_48 R1.1, ↓TnZ0_48 R1.1, ↓TnI0_49 R1.1, ↓TnP0_49 R1.1, ↓TnZ0_49 R1.1, ↓TnI0_50 R1.1, ↓TnP0_50 R1.1, ↓TnZ0_50 R1.1, ↓TnI0_51 R1.1, ↓TnP0_51 R1.1, ↓TnZ0_51 R1.1, ↓TnI0_52 R1.1, ↓TnP0_52 R1.1, ↓TnZ0_52 R1.1, ↓TnV1 R1.1, ↓TnG1_19 R1.1, ↓TnI1_20 R1.1, ↓TnP1_20 R1.1, ↓TnZ1_20 R1.1, ↓TnI1_21 R1.1, ↓TnP1_21 R1.1, ↓TnZ1_21 R1.1, ↓TnL0 R1.1, ↓TnS0 R1.1, ↓TnL1 R1.1, ↓TnS1 R1.1, ↓TnL2 R1.1, ↓TnS2 R1.1, ↓TnL3 R1.1, ↓TnS3 R1.1, ↓TnL4 R1.1, ↓TnS4 R1.1, ↓TnL5 R1.1, ↓TnS5 R1.1, ↓TnL6 R1.1, ↓TnS6 R1.1, ↓A_if, ↓A_jn, ↓A_lt, ↓A_rz, ↓A_rn, ↓A_nzi, ↓A_nzl, ↓A_nn1, ↓A_nn0, ↓reduceIte, true_and, and_true, if_true, if_false, ite_true, ite_false, reduceIte, tl_0, tl_1, tl_2, tl_3, tl_4, tl_5, tl_6, tl_7, tl_8, tl_9, tl_10, tl_11, tl_12, tl_13, tl_14, tl_15, tl_16, tl_17, tl_18, tl_19, tl_20, tl_21, tl_22, tl_23, tl_24, tl_25, tl_26, tl_27, tl_28, tl_29, tl_30, tl_31, tl_32, tl_33, tl_34, tl_35, tl_36, tl_37, tl_38, tl_39, tl_40, tl_41, tl_42, tl_43, tl_44, tl_45, tl_46, tl_47, tl_48, tl_49, tl_50, tl_51, tl_52, tl_53, tl_54, tl_57, tl_59, tl_60, tl_62, tl_63, tl_64, tl_97, tl_99, tl_100, tl_120, tl_122, tl_192, tl_193, tl_194, tl_195, tl_196, tl_255, tl_256, tl_299, tl_400, tl_401, tl_492, tl_493, tl_541, tl_849, tl_999, tl_1000, tl_1341, tl_1342, tl_1390, tl_2190, tl_5412, tl_5904, tl_9999, tl_12345, tl_32767, tl_65536, tl_1000000, tl_252645135, tl_858993459, tl_1103515245, tl_1431655765, nz_31, nz_c31, eq_self, or_true, true_or, or_false, false_or, Nat.add_zero, nz_lt, nz_le, nz_eq, nz_cl, nz_sub, nI_add, pk_mul, nt_lt, nf_lt, nf_eq, nz_mI, mI_eq, mI_eq', mI_lt, mI_gt, mI_add, ↓j_max, ↓j_min, Nat.sub_sub, Nat.reduceAdd, Nat.reduceSub, Nat.reduceLT, Nat.reduceEqDiff, Bool.false_eq_true]
  · rintro μ1 ⟨R1, F1⟩
    refine ⟨μ1, ⟨R1, F1⟩, fun k rec => ?_⟩
    simp (disch := omega) only [↓A_if, ↓A_jn, ↓A_lt, ↓A_rz, ↓A_rn, ↓A_nzi, ↓A_nzl, ↓A_nn1, ↓A_nn0, ↓reduceIte, true_and, and_true, if_true, if_false, ite_true, ite_false, reduceIte, tl_0, tl_1, tl_2, tl_3, tl_4, tl_5, tl_6, tl_7, tl_8, tl_9, tl_10, tl_11, tl_12, tl_13, tl_14, tl_15, tl_16, tl_17, tl_18, tl_19, tl_20, tl_21, tl_22, tl_23, tl_24, tl_25, tl_26, tl_27, tl_28, tl_29, tl_30, tl_31, tl_32, tl_33, tl_34, tl_35, tl_36, tl_37, tl_38, tl_39, tl_40, tl_41, tl_42, tl_43, tl_44, tl_45, tl_46, tl_47, tl_48, tl_49, tl_50, tl_51, tl_52, tl_53, tl_54, tl_57, tl_59, tl_60, tl_62, tl_63, tl_64, tl_97, tl_99, tl_100, tl_120, tl_122, tl_192, tl_193, tl_194, tl_195, tl_196, tl_255, tl_256, tl_299, tl_400, tl_401, tl_492, tl_493, tl_541, tl_849, tl_999, tl_1000, tl_1341, tl_1342, tl_1390, tl_2190, tl_5412, tl_5904, tl_9999, tl_12345, tl_32767, tl_65536, tl_1000000, tl_252645135, tl_858993459, tl_1103515245, tl_1431655765, nz_31, nz_c31, eq_self, or_true, true_or, or_false, false_or, Nat.add_zero, nz_lt, nz_le, nz_eq, nz_cl, nz_sub, nI_add, pk_mul, nt_lt, nf_lt, nf_eq, nz_mI, mI_eq, mI_eq', mI_lt, mI_gt, mI_add, ↓j_max, ↓j_min, Nat.sub_sub, Nat.reduceAdd, Nat.reduceSub, Nat.reduceLT, Nat.reduceEqDiff, Bool.false_eq_true]
end P64
