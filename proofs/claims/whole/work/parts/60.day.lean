/-! ===== pure: draws, meetings, THE DAY's end ===== -/
def tw_nx (x : Int32) : Int32 := nI 1103515245 * x + nI 12345
def tw_dv (x : Int32) : Int32 := (x >>> nI 16) &&& nI 32767
def tw_dw (x : Int32) : Int32 := tw_dv (tw_nx x) - tw_dv (tw_nx x) / nI 100 * nI 100
theorem tw_dv_u (x : Int32) : (x.toUInt32 >>> ((nI 16).toUInt32 &&& (nI 31).toUInt32)).toInt32 &&& nI 32767 = tw_dv x := by
  have e0 : (nI 16).toUInt32 &&& (nI 31).toUInt32 = (nI 16).toUInt32 := by decide
  rw [e0]
  unfold tw_dv
  apply Int32.toBitVec_inj.mp
  have e1 : (nI 32767).toBitVec = 32767#32 := rfl
  have e2 : (nI 16).toBitVec = 16#32 := rfl
  have e3 : ((nI 16).toUInt32).toBitVec = 16#32 := rfl
  simp only [Int32.toBitVec_and, Int32.toBitVec_shiftRight, UInt32.toBitVec_toInt32, UInt32.toBitVec_shiftRight, Int32.toBitVec_toUInt32, e1, e2, e3]
  apply BitVec.eq_of_getLsbD_eq
  intro i hi
  simp [BitVec.getLsbD_sshiftRight, BitVec.getLsbD_ushiftRight]
  rcases Nat.lt_or_ge (16 + i) 32 with h | h
  · have h2 : decide (32 ≤ i) = false := by simp; omega
    rw [h2, if_pos h]
    simp
  · have h3 : ∀ j : Fin 32, 16 ≤ j.1 → (32767#32).getLsbD j.1 = false := by decide
    rw [h3 ⟨i, hi⟩ (by show 16 ≤ i; omega)]
    simp
def tw_dr (T : Nat → Int32) (i : Nat) : Int32 × Int32 := tw_it (fun p s => (if tw_dw s.2 < T (32 + 20 * p + 1) then s.1 ||| (nI 1 <<< nI p) else s.1, tw_nx s.2)) i (nI 0, T 7)
theorem tw_dr_s (T : Nat → Int32) (i : Nat) : tw_dr T (i + 1) = (if tw_dw (tw_dr T i).2 < T (32 + 20 * i + 1) then (tw_dr T i).1 ||| (nI 1 <<< nI i) else (tw_dr T i).1, tw_nx (tw_dr T i).2) := rfl
def tw_isb (x : Int32) (p : Nat) : Prop := (x >>> nI p) &&& nI 1 = nI 1
theorem tw_u1_self (T : Nat → Int32) (i : Nat) : tw_u1 T i (T i) = T := by
  funext j
  unfold tw_u1
  split
  · rename_i h; rw [h]
  · rfl
theorem tw_u1_u1 (T : Nat → Int32) (i : Nat) (v w : Int32) : tw_u1 (tw_u1 T i v) i w = tw_u1 T i w := by
  funext j
  unfold tw_u1
  split <;> rfl
/-- one meeting, if both are out and near -/
def tw_m1 (x : Int32) (p o : Nat) (T : Nat → Int32) : Nat → Int32 := if (x >>> nI p) &&& nI 1 = nI 1 then (if (x >>> nI o) &&& nI 1 = nI 1 then (if T (32 + 20 * p) = T (32 + 20 * o) then tw_meet T p o else T) else T) else T
def tw_mi (x : Int32) (p : Nat) (T : Nat → Int32) (d : Nat) : Nat → Int32 := tw_it (fun d U => tw_m1 x p (p + 1 + d) U) d T
def tw_mt (x : Int32) (P : Nat) (T : Nat → Int32) (i : Nat) : Nat → Int32 := tw_it (fun p U => tw_mi x p U (P - (p + 1))) i T
def tw_n9 (x : Int32) : Int32 := if x + nI 1 < nI 9999 then x + nI 1 else nI 9999
def tw_bd (T : Nat → Int32) (calm : Bool) (P : Nat) : Nat → Int32 := if calm then T else tw_mt (tw_dr T P).1 P (tw_u1 T 7 (tw_dr T P).2) P
def tw_he (T : Nat → Int32) (calm : Bool) (P : Nat) : Nat → Int32 := if T 3 + nI 1 < nI 12 then tw_u1 T 3 (T 3 + nI 1) else tw_u1 (tw_bd (tw_u1 T 3 (nI 0)) calm P) 4 (tw_n9 (tw_bd (tw_u1 T 3 (nI 0)) calm P 4))
/-- what stays: all but guesses and SEED -/
def tw_kp (T T' : Nat → Int32) : Prop := ∀ j, j < 36 ∨ 192 ≤ j → T' j = T j
theorem tw_kp_t {T T' T'' : Nat → Int32} (h : tw_kp T T') (h2 : tw_kp T' T'') : tw_kp T T'' := fun j hj => (h2 j hj).trans (h j hj)
theorem tw_m1_k {T : Nat → Int32} {x : Int32} {p o P : Nat} (W : tw_WF T P) (hp : p < P) (ho : o < P) (hpo : p ≠ o) : tw_WF (tw_m1 x p o T) P ∧ tw_kp T (tw_m1 x p o T) := by
  have h8 := W.2.1
  unfold tw_m1
  split
  · split
    · split
      · exact ⟨Wf_meet W hp ho hpo, fun j hj => tw_meet_o (by omega) (by omega) hj⟩
      · exact ⟨W, fun _ _ => rfl⟩
    · exact ⟨W, fun _ _ => rfl⟩
  · exact ⟨W, fun _ _ => rfl⟩
theorem tw_mi_k {T : Nat → Int32} {x : Int32} {p P : Nat} (W : tw_WF T P) : ∀ d, p + 1 + d ≤ P → tw_WF (tw_mi x p T d) P ∧ tw_kp T (tw_mi x p T d)
  | 0, _ => ⟨W, fun _ _ => rfl⟩
  | d + 1, h => by
    obtain ⟨h1, h2⟩ := tw_mi_k (x := x) (p := p) W d (by omega)
    obtain ⟨h3, h4⟩ := tw_m1_k (x := x) (p := p) (o := p + 1 + d) h1 (by omega) (by omega) (by omega)
    exact ⟨h3, tw_kp_t h2 h4⟩
theorem tw_mt_k {T : Nat → Int32} {x : Int32} {P : Nat} (W : tw_WF T P) : ∀ i, i ≤ P → tw_WF (tw_mt x P T i) P ∧ tw_kp T (tw_mt x P T i)
  | 0, _ => ⟨W, fun _ _ => rfl⟩
  | i + 1, h => by
    obtain ⟨h1, h2⟩ := tw_mt_k (x := x) W i (by omega)
    obtain ⟨h3, h4⟩ := tw_mi_k (x := x) (p := i) h1 (P - (i + 1)) (by omega)
    exact ⟨h3, tw_kp_t h2 h4⟩
theorem tw_n9_n {r : Nat} (hr : r < 10000) : ∃ q, q < 10000 ∧ tw_n9 (nI r) = nI q := by
  unfold tw_n9
  rw [nI_add]
  split
  · rename_i h
    rw [nz_lt (by omega) (by omega)] at h
    exact ⟨r + 1, by omega, rfl⟩
  · exact ⟨9999, by omega, rfl⟩
theorem tw_n9_c {x : Int32} {r : Nat} (e : x = nI r) (hr : r < 10000) : (if nI 9999 < x + nI 1 then nI 9999 else x + nI 1) = tw_n9 x := by
  subst e
  unfold tw_n9
  rw [nI_add]
  rcases (by omega : r + 1 < 9999 ∨ r + 1 = 9999 ∨ r + 1 = 10000) with h | h | h
  · have a1 : ¬ nI 9999 < nI (r + 1) := by rw [nz_lt (by omega) (by omega)]; omega
    have a2 : nI (r + 1) < nI 9999 := by rw [nz_lt (by omega) (by omega)]; omega
    rw [if_neg a1, if_pos a2]
  · rw [h]; try decide
  · rw [h]; try decide
theorem tw_bd_k {T : Nat → Int32} {P : Nat} (calm : Bool) (W : tw_WF T P) : tw_WF (tw_bd T calm P) P ∧ ∀ j, j ≠ 7 → j < 36 ∨ 192 ≤ j → tw_bd T calm P j = T j := by
  unfold tw_bd
  cases calm
  · obtain ⟨h1, h2⟩ := tw_mt_k (x := (tw_dr T P).1) (Wf_s7 W (tw_dr T P).2) P (Nat.le_refl P)
    exact ⟨h1, fun j h7 hj => (h2 j hj).trans (tw_u1n (by omega))⟩
  · exact ⟨W, fun _ _ _ => rfl⟩
theorem Wf_3 {T : Nat → Int32} {P : Nat} (W : tw_WF T P) : ∃ x, x < 12 ∧ T 3 = nI x := W.2.2.2.1
theorem Wf_4 {T : Nat → Int32} {P : Nat} (W : tw_WF T P) : ∃ x, x < 10000 ∧ T 4 = nI x := W.2.2.2.2.1
theorem tw_he_k {T : Nat → Int32} {P : Nat} (calm : Bool) (W : tw_WF T P) : tw_WF (tw_he T calm P) P ∧ ∀ j, j = 2 ∨ 192 ≤ j → tw_he T calm P j = T j := by
  obtain ⟨x, hx, ex⟩ := Wf_3 W
  unfold tw_he
  split
  · rename_i h
    rw [ex, nI_add, nz_lt (by omega) (by omega)] at h
    rw [ex, nI_add]
    exact ⟨Wf_s3 W h, fun j hj => tw_u1n (by omega)⟩
  · obtain ⟨h1, h2⟩ := tw_bd_k calm (Wf_s3 W (x := 0) (by omega))
    obtain ⟨y, hy, ey⟩ := Wf_4 h1
    obtain ⟨q, hq, eq⟩ := tw_n9_n hy
    rw [ey, eq]
    exact ⟨Wf_s4 h1 hq, fun j hj => (tw_u1n (by omega)).trans ((h2 j (by omega) (by omega)).trans (tw_u1n (by omega)))⟩
section P60
variable {sh : tw_Sh} {μ : Nat → Nat → Int32} {la : Nat → Nat → Int64} {n a b w m lw P N : Nat} {p o l h i j z c x y f q kd : Nat} {T : Nat → Int32} {v u rg tn : Int32} {F : Nat → Int32} {C : Nat → Nat × Nat} {s : Nat → Int32}
theorem m_drawn (hM : tw_Mo sh m) (k : Int32 → tw_Mem → Prop) : f_X12_drawn m (nI 100) k (sh, μ, la, n) = k (tw_dw (μ (m + 1) 7)) (sh, tw_ra μ (m + 1) (tw_u1 (μ (m + 1)) 7 (tw_nx (μ (m + 1) 7))), la, n) := by
  have h : ¬ nI 100 = 0 := by decide
  have h16 : nI 16 &&& 31 = nI 16 := by decide
  simp (disch := omega) only [f_X12_drawn, tw_dw, tw_dv, tw_nx, h, h16, tw_up_as, tw_ra_a, tw_ra_aj, tw_u1a, not_false_eq_true, ↓MoV0 hM, ↓MoI0_70 hM, ↓MoP0_70 hM, ↓MoZ0_70 hM, ↓MoG0_71 hM, ↓MoG0_72 hM, ↓MoG0_73 hM, ↓MoG0_74 hM, ↓MoG0_75 hM, ↓MoI0_76 hM, ↓MoP0_76 hM, ↓MoZ0_76 hM, ↓MoI0_77 hM, ↓MoP0_77 hM, ↓MoZ0_77 hM, ↓MoG0_78 hM, ↓MoI0_79 hM, ↓MoP0_79 hM, ↓MoZ0_79 hM, ↓MoI0_80 hM, ↓MoP0_80 hM, ↓MoZ0_80 hM, ↓MoI0_81 hM, ↓MoP0_81 hM, ↓MoZ0_81 hM, ↓MoI0_82 hM, ↓MoP0_82 hM, ↓MoZ0_82 hM, ↓MoI0_83 hM, ↓MoP0_83 hM, ↓MoZ0_83 hM, ↓MoI0_84 hM, ↓MoP0_84 hM, ↓MoZ0_84 hM, ↓MoG0_85 hM, ↓MoI0_86 hM, ↓MoP0_86 hM, ↓MoZ0_86 hM, ↓MoG0_87 hM, ↓MoI0_88 hM, ↓MoP0_88 hM, ↓MoZ0_88 hM, ↓MoG0_89 hM, ↓MoG0_90 hM, ↓MoG0_91 hM, ↓MoG0_92 hM, ↓MoL0 hM, ↓MoS0 hM, ↓MoL1 hM, ↓MoS1 hM, ↓MoL2 hM, ↓MoS2 hM, ↓MoL3 hM, ↓MoS3 hM, ↓MoL4 hM, ↓MoS4 hM, ↓MoL5 hM, ↓MoS5 hM, ↓MoL6 hM, ↓MoS6 hM, ↓MoL7 hM, ↓MoS7 hM, ↓MoL8 hM, ↓MoS8 hM, ↓MoL9 hM, ↓MoS9 hM, ↓MoL10 hM, ↓MoS10 hM, ↓MoL11 hM, ↓MoS11 hM, ↓A_if, ↓A_jn, ↓A_lt, ↓A_rz, ↓A_rn, ↓A_nzi, ↓A_nzl, ↓A_nn1, ↓A_nn0, ↓reduceIte, true_and, and_true, if_true, if_false, ite_true, ite_false, reduceIte, tl_0, tl_1, tl_2, tl_3, tl_4, tl_5, tl_6, tl_7, tl_8, tl_9, tl_10, tl_11, tl_12, tl_13, tl_14, tl_15, tl_16, tl_17, tl_18, tl_19, tl_20, tl_21, tl_22, tl_23, tl_24, tl_25, tl_26, tl_27, tl_28, tl_29, tl_30, tl_31, tl_32, tl_33, tl_34, tl_35, tl_36, tl_37, tl_38, tl_39, tl_40, tl_41, tl_42, tl_43, tl_44, tl_45, tl_46, tl_47, tl_48, tl_49, tl_50, tl_51, tl_52, tl_53, tl_54, tl_57, tl_59, tl_60, tl_62, tl_63, tl_64, tl_97, tl_99, tl_100, tl_120, tl_122, tl_192, tl_193, tl_194, tl_195, tl_196, tl_255, tl_256, tl_299, tl_400, tl_401, tl_492, tl_493, tl_541, tl_849, tl_999, tl_1000, tl_1341, tl_1342, tl_1390, tl_2190, tl_5412, tl_5904, tl_9999, tl_12345, tl_32767, tl_65536, tl_1000000, tl_252645135, tl_858993459, tl_1103515245, tl_1431655765, nz_31, nz_c31, eq_self, or_true, true_or, or_false, false_or, Nat.add_zero, nz_lt, nz_le, nz_eq, nz_cl, nz_sub, nI_add, pk_mul, nt_lt, nf_lt, nf_eq, nz_mI, mI_eq, mI_eq', mI_lt, mI_gt, mI_add, ↓j_max, ↓j_min, Nat.sub_sub, Nat.reduceAdd, Nat.reduceSub, Nat.reduceLT, Nat.reduceEqDiff, Bool.false_eq_true]
theorem m_meetings (hM : tw_Mo sh m) (H : tw_LX (μ (m + 1))) (W : tw_WF (μ (m + 1)) P) (hx : v = v) : ∃ μ', (μ' (m + 1) = tw_u1 (tw_mt v P (μ (m + 1)) P) 4 (tw_n9 (tw_mt v P (μ (m + 1)) P 4)) ∧ tw_md m μ μ') ∧ ∀ k : Unit → tw_Mem → Prop, tw_lp (fun (r6 : Int32 → tw_Mem → Prop) (s7 : Int32) => tw_iv 11 m (f_X12_people m (fun x8 => tw_if (s7 < x8) (tw_lt (s7 + (1 : Int32)) fun x13 => tw_lp (fun (r14 : Int32 → tw_Mem → Prop) (s15 : Int32) => tw_iv 11 m (f_X12_people m (fun x16 => tw_if (s15 < x16) (f_X12_has v s7 (fun x17 => tw_jn (fun (s19 : Unit) => r14 (s15 + (1 : Int32))) (fun j18 => tw_if (x17 = 0) (j18 ()) (f_X12_has v s15 (fun x20 => tw_if (x20 = 0) (j18 ()) (tw_iv 11 m (f_X12_isNear m s7 s15 (fun x21 => tw_if (x21 = 0) (j18 ()) (tw_iv 11 m (f_X12_meets m s7 s15 (fun u22 => j18 ()))))))))))) (r6 (s7 + (1 : Int32)))))) x13) (tw_gr 71 m fun x9 => tw_gr 71 m fun x10 => tw_li x10 (4 : Int32) fun x11 => f_J9_min_7cf53 (9999 : Int32) (x11 + (1 : Int32)) (fun x12 => tw_si x9 (4 : Int32) x12 (k ())))))) (0 : Int32) (sh, μ, la, n) = k () (sh, μ', la, n) := by
  have h8 := W.2.1
  refine tw_lp_ex P (fun i => nI i) (fun i μ' => μ' (m + 1) = tw_mt v P (μ (m + 1)) i ∧ tw_md m μ μ') rfl ⟨rfl, tw_md_r⟩ ?_ ?_
  · rintro i hi μ1 ⟨h1, F1⟩
    obtain ⟨W1, K1⟩ := tw_mt_k (x := v) W i (by omega)
    have hP1 := W1.1
    rw [← h1] at W1 K1 hP1
    simp (disch := omega) only [↓m_people hM, hP1, ↓MoV0 hM, ↓MoI0_70 hM, ↓MoP0_70 hM, ↓MoZ0_70 hM, ↓MoG0_71 hM, ↓MoG0_72 hM, ↓MoG0_73 hM, ↓MoG0_74 hM, ↓MoG0_75 hM, ↓MoI0_76 hM, ↓MoP0_76 hM, ↓MoZ0_76 hM, ↓MoI0_77 hM, ↓MoP0_77 hM, ↓MoZ0_77 hM, ↓MoG0_78 hM, ↓MoI0_79 hM, ↓MoP0_79 hM, ↓MoZ0_79 hM, ↓MoI0_80 hM, ↓MoP0_80 hM, ↓MoZ0_80 hM, ↓MoI0_81 hM, ↓MoP0_81 hM, ↓MoZ0_81 hM, ↓MoI0_82 hM, ↓MoP0_82 hM, ↓MoZ0_82 hM, ↓MoI0_83 hM, ↓MoP0_83 hM, ↓MoZ0_83 hM, ↓MoI0_84 hM, ↓MoP0_84 hM, ↓MoZ0_84 hM, ↓MoG0_85 hM, ↓MoI0_86 hM, ↓MoP0_86 hM, ↓MoZ0_86 hM, ↓MoG0_87 hM, ↓MoI0_88 hM, ↓MoP0_88 hM, ↓MoZ0_88 hM, ↓MoG0_89 hM, ↓MoG0_90 hM, ↓MoG0_91 hM, ↓MoG0_92 hM, ↓MoL0 hM, ↓MoS0 hM, ↓MoL1 hM, ↓MoS1 hM, ↓MoL2 hM, ↓MoS2 hM, ↓MoL3 hM, ↓MoS3 hM, ↓MoL4 hM, ↓MoS4 hM, ↓MoL5 hM, ↓MoS5 hM, ↓MoL6 hM, ↓MoS6 hM, ↓MoL7 hM, ↓MoS7 hM, ↓MoL8 hM, ↓MoS8 hM, ↓MoL9 hM, ↓MoS9 hM, ↓MoL10 hM, ↓MoS10 hM, ↓MoL11 hM, ↓MoS11 hM, ↓A_if, ↓A_jn, ↓A_lt, ↓A_rz, ↓A_rn, ↓A_nzi, ↓A_nzl, ↓A_nn1, ↓A_nn0, ↓reduceIte, true_and, and_true, if_true, if_false, ite_true, ite_false, reduceIte, tl_0, tl_1, tl_2, tl_3, tl_4, tl_5, tl_6, tl_7, tl_8, tl_9, tl_10, tl_11, tl_12, tl_13, tl_14, tl_15, tl_16, tl_17, tl_18, tl_19, tl_20, tl_21, tl_22, tl_23, tl_24, tl_25, tl_26, tl_27, tl_28, tl_29, tl_30, tl_31, tl_32, tl_33, tl_34, tl_35, tl_36, tl_37, tl_38, tl_39, tl_40, tl_41, tl_42, tl_43, tl_44, tl_45, tl_46, tl_47, tl_48, tl_49, tl_50, tl_51, tl_52, tl_53, tl_54, tl_57, tl_59, tl_60, tl_62, tl_63, tl_64, tl_97, tl_99, tl_100, tl_120, tl_122, tl_192, tl_193, tl_194, tl_195, tl_196, tl_255, tl_256, tl_299, tl_400, tl_401, tl_492, tl_493, tl_541, tl_849, tl_999, tl_1000, tl_1341, tl_1342, tl_1390, tl_2190, tl_5412, tl_5904, tl_9999, tl_12345, tl_32767, tl_65536, tl_1000000, tl_252645135, tl_858993459, tl_1103515245, tl_1431655765, nz_31, nz_c31, eq_self, or_true, true_or, or_false, false_or, Nat.add_zero, nz_lt, nz_le, nz_eq, nz_cl, nz_sub, nI_add, pk_mul, nt_lt, nf_lt, nf_eq, nz_mI, mI_eq, mI_eq', mI_lt, mI_gt, mI_add, ↓j_max, ↓j_min, Nat.sub_sub, Nat.reduceAdd, Nat.reduceSub, Nat.reduceLT, Nat.reduceEqDiff, Bool.false_eq_true]
    refine (fun (⟨μ', J, E⟩ : ∃ μ', (μ' (m + 1) = tw_mi v i (μ1 (m + 1)) (P - (i + 1)) ∧ tw_md m μ1 μ') ∧ ∀ (k : Unit → tw_Mem → Prop) (rec : Int32 → tw_Mem → Prop), _) => ⟨μ', ⟨J.1.trans (by rw [h1]; rfl), tw_md_t F1 J.2⟩, E⟩) (tw_lp_ex2 (P - (i + 1)) (fun d => nI (i + 1 + d)) (fun d μ' => μ' (m + 1) = tw_mi v i (μ1 (m + 1)) d ∧ tw_md m μ1 μ') rfl ⟨rfl, tw_md_r⟩ ?_ ?_)
    · rintro d hd μ2 ⟨h2, F2⟩
      obtain ⟨W2, K2⟩ := tw_mi_k (x := v) (p := i) W1 d (by omega)
      have hP2 := W2.1
      have H2 : tw_LX (tw_mi v i (μ1 (m + 1)) d) := tw_LX_same H ((K2 2 (by omega)).trans (K1 2 (by omega))) (fun j hj => (K2 j (by omega)).trans (K1 j (by omega)))
      rw [← h2] at W2 K2 hP2 H2
      have ed : i + 1 + (d + 1) = i + 1 + d + 1 := rfl
      have es : tw_mi v i (μ1 (m + 1)) (d + 1) = tw_m1 v i (i + 1 + d) (μ2 (m + 1)) := by rw [h2]; rfl
      rw [es]
      unfold tw_m1
      by_cases q1 : (v >>> nI i) &&& nI 1 = nI 1
      · by_cases q2 : (v >>> nI (i + 1 + d)) &&& nI 1 = nI 1
        · by_cases q3 : μ2 (m + 1) (32 + 20 * i) = μ2 (m + 1) (32 + 20 * (i + 1 + d))
          · obtain ⟨μ3, ⟨h3, F3⟩, E3⟩ := m_meet (la := la) (n := n) hM H2 W2 (p := i) (o := i + 1 + d) (by omega) (by omega) (by omega)
            refine ⟨μ3, ⟨?_, tw_md_t F2 F3⟩, fun k r rec => ?_⟩
            · rw [h3, if_pos q1, if_pos q2, if_pos q3]
            · simp (disch := omega) only [↓m_people hM, hP2, f_X12_has, q1, q2, q3, ↓m_isNear hM, ↓E3, ed, ↓MoV0 hM, ↓MoI0_70 hM, ↓MoP0_70 hM, ↓MoZ0_70 hM, ↓MoG0_71 hM, ↓MoG0_72 hM, ↓MoG0_73 hM, ↓MoG0_74 hM, ↓MoG0_75 hM, ↓MoI0_76 hM, ↓MoP0_76 hM, ↓MoZ0_76 hM, ↓MoI0_77 hM, ↓MoP0_77 hM, ↓MoZ0_77 hM, ↓MoG0_78 hM, ↓MoI0_79 hM, ↓MoP0_79 hM, ↓MoZ0_79 hM, ↓MoI0_80 hM, ↓MoP0_80 hM, ↓MoZ0_80 hM, ↓MoI0_81 hM, ↓MoP0_81 hM, ↓MoZ0_81 hM, ↓MoI0_82 hM, ↓MoP0_82 hM, ↓MoZ0_82 hM, ↓MoI0_83 hM, ↓MoP0_83 hM, ↓MoZ0_83 hM, ↓MoI0_84 hM, ↓MoP0_84 hM, ↓MoZ0_84 hM, ↓MoG0_85 hM, ↓MoI0_86 hM, ↓MoP0_86 hM, ↓MoZ0_86 hM, ↓MoG0_87 hM, ↓MoI0_88 hM, ↓MoP0_88 hM, ↓MoZ0_88 hM, ↓MoG0_89 hM, ↓MoG0_90 hM, ↓MoG0_91 hM, ↓MoG0_92 hM, ↓MoL0 hM, ↓MoS0 hM, ↓MoL1 hM, ↓MoS1 hM, ↓MoL2 hM, ↓MoS2 hM, ↓MoL3 hM, ↓MoS3 hM, ↓MoL4 hM, ↓MoS4 hM, ↓MoL5 hM, ↓MoS5 hM, ↓MoL6 hM, ↓MoS6 hM, ↓MoL7 hM, ↓MoS7 hM, ↓MoL8 hM, ↓MoS8 hM, ↓MoL9 hM, ↓MoS9 hM, ↓MoL10 hM, ↓MoS10 hM, ↓MoL11 hM, ↓MoS11 hM, ↓A_if, ↓A_jn, ↓A_lt, ↓A_rz, ↓A_rn, ↓A_nzi, ↓A_nzl, ↓A_nn1, ↓A_nn0, ↓reduceIte, true_and, and_true, if_true, if_false, ite_true, ite_false, reduceIte, tl_0, tl_1, tl_2, tl_3, tl_4, tl_5, tl_6, tl_7, tl_8, tl_9, tl_10, tl_11, tl_12, tl_13, tl_14, tl_15, tl_16, tl_17, tl_18, tl_19, tl_20, tl_21, tl_22, tl_23, tl_24, tl_25, tl_26, tl_27, tl_28, tl_29, tl_30, tl_31, tl_32, tl_33, tl_34, tl_35, tl_36, tl_37, tl_38, tl_39, tl_40, tl_41, tl_42, tl_43, tl_44, tl_45, tl_46, tl_47, tl_48, tl_49, tl_50, tl_51, tl_52, tl_53, tl_54, tl_57, tl_59, tl_60, tl_62, tl_63, tl_64, tl_97, tl_99, tl_100, tl_120, tl_122, tl_192, tl_193, tl_194, tl_195, tl_196, tl_255, tl_256, tl_299, tl_400, tl_401, tl_492, tl_493, tl_541, tl_849, tl_999, tl_1000, tl_1341, tl_1342, tl_1390, tl_2190, tl_5412, tl_5904, tl_9999, tl_12345, tl_32767, tl_65536, tl_1000000, tl_252645135, tl_858993459, tl_1103515245, tl_1431655765, nz_31, nz_c31, eq_self, or_true, true_or, or_false, false_or, Nat.add_zero, nz_lt, nz_le, nz_eq, nz_cl, nz_sub, nI_add, pk_mul, nt_lt, nf_lt, nf_eq, nz_mI, mI_eq, mI_eq', mI_lt, mI_gt, mI_add, ↓j_max, ↓j_min, Nat.sub_sub, Nat.reduceAdd, Nat.reduceSub, Nat.reduceLT, Nat.reduceEqDiff, Bool.false_eq_true]
          · refine ⟨μ2, ⟨?_, F2⟩, fun k r rec => ?_⟩
            · rw [if_pos q1, if_pos q2, if_neg q3]
            · simp (disch := omega) only [↓m_people hM, hP2, f_X12_has, q1, q2, q3, ↓m_isNear hM, ed, ↓MoV0 hM, ↓MoI0_70 hM, ↓MoP0_70 hM, ↓MoZ0_70 hM, ↓MoG0_71 hM, ↓MoG0_72 hM, ↓MoG0_73 hM, ↓MoG0_74 hM, ↓MoG0_75 hM, ↓MoI0_76 hM, ↓MoP0_76 hM, ↓MoZ0_76 hM, ↓MoI0_77 hM, ↓MoP0_77 hM, ↓MoZ0_77 hM, ↓MoG0_78 hM, ↓MoI0_79 hM, ↓MoP0_79 hM, ↓MoZ0_79 hM, ↓MoI0_80 hM, ↓MoP0_80 hM, ↓MoZ0_80 hM, ↓MoI0_81 hM, ↓MoP0_81 hM, ↓MoZ0_81 hM, ↓MoI0_82 hM, ↓MoP0_82 hM, ↓MoZ0_82 hM, ↓MoI0_83 hM, ↓MoP0_83 hM, ↓MoZ0_83 hM, ↓MoI0_84 hM, ↓MoP0_84 hM, ↓MoZ0_84 hM, ↓MoG0_85 hM, ↓MoI0_86 hM, ↓MoP0_86 hM, ↓MoZ0_86 hM, ↓MoG0_87 hM, ↓MoI0_88 hM, ↓MoP0_88 hM, ↓MoZ0_88 hM, ↓MoG0_89 hM, ↓MoG0_90 hM, ↓MoG0_91 hM, ↓MoG0_92 hM, ↓MoL0 hM, ↓MoS0 hM, ↓MoL1 hM, ↓MoS1 hM, ↓MoL2 hM, ↓MoS2 hM, ↓MoL3 hM, ↓MoS3 hM, ↓MoL4 hM, ↓MoS4 hM, ↓MoL5 hM, ↓MoS5 hM, ↓MoL6 hM, ↓MoS6 hM, ↓MoL7 hM, ↓MoS7 hM, ↓MoL8 hM, ↓MoS8 hM, ↓MoL9 hM, ↓MoS9 hM, ↓MoL10 hM, ↓MoS10 hM, ↓MoL11 hM, ↓MoS11 hM, ↓A_if, ↓A_jn, ↓A_lt, ↓A_rz, ↓A_rn, ↓A_nzi, ↓A_nzl, ↓A_nn1, ↓A_nn0, ↓reduceIte, true_and, and_true, if_true, if_false, ite_true, ite_false, reduceIte, tl_0, tl_1, tl_2, tl_3, tl_4, tl_5, tl_6, tl_7, tl_8, tl_9, tl_10, tl_11, tl_12, tl_13, tl_14, tl_15, tl_16, tl_17, tl_18, tl_19, tl_20, tl_21, tl_22, tl_23, tl_24, tl_25, tl_26, tl_27, tl_28, tl_29, tl_30, tl_31, tl_32, tl_33, tl_34, tl_35, tl_36, tl_37, tl_38, tl_39, tl_40, tl_41, tl_42, tl_43, tl_44, tl_45, tl_46, tl_47, tl_48, tl_49, tl_50, tl_51, tl_52, tl_53, tl_54, tl_57, tl_59, tl_60, tl_62, tl_63, tl_64, tl_97, tl_99, tl_100, tl_120, tl_122, tl_192, tl_193, tl_194, tl_195, tl_196, tl_255, tl_256, tl_299, tl_400, tl_401, tl_492, tl_493, tl_541, tl_849, tl_999, tl_1000, tl_1341, tl_1342, tl_1390, tl_2190, tl_5412, tl_5904, tl_9999, tl_12345, tl_32767, tl_65536, tl_1000000, tl_252645135, tl_858993459, tl_1103515245, tl_1431655765, nz_31, nz_c31, eq_self, or_true, true_or, or_false, false_or, Nat.add_zero, nz_lt, nz_le, nz_eq, nz_cl, nz_sub, nI_add, pk_mul, nt_lt, nf_lt, nf_eq, nz_mI, mI_eq, mI_eq', mI_lt, mI_gt, mI_add, ↓j_max, ↓j_min, Nat.sub_sub, Nat.reduceAdd, Nat.reduceSub, Nat.reduceLT, Nat.reduceEqDiff, Bool.false_eq_true]
        · refine ⟨μ2, ⟨?_, F2⟩, fun k r rec => ?_⟩
          · rw [if_pos q1, if_neg q2]
          · simp (disch := omega) only [↓m_people hM, hP2, f_X12_has, q1, q2, ed, ↓MoV0 hM, ↓MoI0_70 hM, ↓MoP0_70 hM, ↓MoZ0_70 hM, ↓MoG0_71 hM, ↓MoG0_72 hM, ↓MoG0_73 hM, ↓MoG0_74 hM, ↓MoG0_75 hM, ↓MoI0_76 hM, ↓MoP0_76 hM, ↓MoZ0_76 hM, ↓MoI0_77 hM, ↓MoP0_77 hM, ↓MoZ0_77 hM, ↓MoG0_78 hM, ↓MoI0_79 hM, ↓MoP0_79 hM, ↓MoZ0_79 hM, ↓MoI0_80 hM, ↓MoP0_80 hM, ↓MoZ0_80 hM, ↓MoI0_81 hM, ↓MoP0_81 hM, ↓MoZ0_81 hM, ↓MoI0_82 hM, ↓MoP0_82 hM, ↓MoZ0_82 hM, ↓MoI0_83 hM, ↓MoP0_83 hM, ↓MoZ0_83 hM, ↓MoI0_84 hM, ↓MoP0_84 hM, ↓MoZ0_84 hM, ↓MoG0_85 hM, ↓MoI0_86 hM, ↓MoP0_86 hM, ↓MoZ0_86 hM, ↓MoG0_87 hM, ↓MoI0_88 hM, ↓MoP0_88 hM, ↓MoZ0_88 hM, ↓MoG0_89 hM, ↓MoG0_90 hM, ↓MoG0_91 hM, ↓MoG0_92 hM, ↓MoL0 hM, ↓MoS0 hM, ↓MoL1 hM, ↓MoS1 hM, ↓MoL2 hM, ↓MoS2 hM, ↓MoL3 hM, ↓MoS3 hM, ↓MoL4 hM, ↓MoS4 hM, ↓MoL5 hM, ↓MoS5 hM, ↓MoL6 hM, ↓MoS6 hM, ↓MoL7 hM, ↓MoS7 hM, ↓MoL8 hM, ↓MoS8 hM, ↓MoL9 hM, ↓MoS9 hM, ↓MoL10 hM, ↓MoS10 hM, ↓MoL11 hM, ↓MoS11 hM, ↓A_if, ↓A_jn, ↓A_lt, ↓A_rz, ↓A_rn, ↓A_nzi, ↓A_nzl, ↓A_nn1, ↓A_nn0, ↓reduceIte, true_and, and_true, if_true, if_false, ite_true, ite_false, reduceIte, tl_0, tl_1, tl_2, tl_3, tl_4, tl_5, tl_6, tl_7, tl_8, tl_9, tl_10, tl_11, tl_12, tl_13, tl_14, tl_15, tl_16, tl_17, tl_18, tl_19, tl_20, tl_21, tl_22, tl_23, tl_24, tl_25, tl_26, tl_27, tl_28, tl_29, tl_30, tl_31, tl_32, tl_33, tl_34, tl_35, tl_36, tl_37, tl_38, tl_39, tl_40, tl_41, tl_42, tl_43, tl_44, tl_45, tl_46, tl_47, tl_48, tl_49, tl_50, tl_51, tl_52, tl_53, tl_54, tl_57, tl_59, tl_60, tl_62, tl_63, tl_64, tl_97, tl_99, tl_100, tl_120, tl_122, tl_192, tl_193, tl_194, tl_195, tl_196, tl_255, tl_256, tl_299, tl_400, tl_401, tl_492, tl_493, tl_541, tl_849, tl_999, tl_1000, tl_1341, tl_1342, tl_1390, tl_2190, tl_5412, tl_5904, tl_9999, tl_12345, tl_32767, tl_65536, tl_1000000, tl_252645135, tl_858993459, tl_1103515245, tl_1431655765, nz_31, nz_c31, eq_self, or_true, true_or, or_false, false_or, Nat.add_zero, nz_lt, nz_le, nz_eq, nz_cl, nz_sub, nI_add, pk_mul, nt_lt, nf_lt, nf_eq, nz_mI, mI_eq, mI_eq', mI_lt, mI_gt, mI_add, ↓j_max, ↓j_min, Nat.sub_sub, Nat.reduceAdd, Nat.reduceSub, Nat.reduceLT, Nat.reduceEqDiff, Bool.false_eq_true]
      · refine ⟨μ2, ⟨?_, F2⟩, fun k r rec => ?_⟩
        · rw [if_neg q1]
        · simp (disch := omega) only [↓m_people hM, hP2, f_X12_has, q1, ed, ↓MoV0 hM, ↓MoI0_70 hM, ↓MoP0_70 hM, ↓MoZ0_70 hM, ↓MoG0_71 hM, ↓MoG0_72 hM, ↓MoG0_73 hM, ↓MoG0_74 hM, ↓MoG0_75 hM, ↓MoI0_76 hM, ↓MoP0_76 hM, ↓MoZ0_76 hM, ↓MoI0_77 hM, ↓MoP0_77 hM, ↓MoZ0_77 hM, ↓MoG0_78 hM, ↓MoI0_79 hM, ↓MoP0_79 hM, ↓MoZ0_79 hM, ↓MoI0_80 hM, ↓MoP0_80 hM, ↓MoZ0_80 hM, ↓MoI0_81 hM, ↓MoP0_81 hM, ↓MoZ0_81 hM, ↓MoI0_82 hM, ↓MoP0_82 hM, ↓MoZ0_82 hM, ↓MoI0_83 hM, ↓MoP0_83 hM, ↓MoZ0_83 hM, ↓MoI0_84 hM, ↓MoP0_84 hM, ↓MoZ0_84 hM, ↓MoG0_85 hM, ↓MoI0_86 hM, ↓MoP0_86 hM, ↓MoZ0_86 hM, ↓MoG0_87 hM, ↓MoI0_88 hM, ↓MoP0_88 hM, ↓MoZ0_88 hM, ↓MoG0_89 hM, ↓MoG0_90 hM, ↓MoG0_91 hM, ↓MoG0_92 hM, ↓MoL0 hM, ↓MoS0 hM, ↓MoL1 hM, ↓MoS1 hM, ↓MoL2 hM, ↓MoS2 hM, ↓MoL3 hM, ↓MoS3 hM, ↓MoL4 hM, ↓MoS4 hM, ↓MoL5 hM, ↓MoS5 hM, ↓MoL6 hM, ↓MoS6 hM, ↓MoL7 hM, ↓MoS7 hM, ↓MoL8 hM, ↓MoS8 hM, ↓MoL9 hM, ↓MoS9 hM, ↓MoL10 hM, ↓MoS10 hM, ↓MoL11 hM, ↓MoS11 hM, ↓A_if, ↓A_jn, ↓A_lt, ↓A_rz, ↓A_rn, ↓A_nzi, ↓A_nzl, ↓A_nn1, ↓A_nn0, ↓reduceIte, true_and, and_true, if_true, if_false, ite_true, ite_false, reduceIte, tl_0, tl_1, tl_2, tl_3, tl_4, tl_5, tl_6, tl_7, tl_8, tl_9, tl_10, tl_11, tl_12, tl_13, tl_14, tl_15, tl_16, tl_17, tl_18, tl_19, tl_20, tl_21, tl_22, tl_23, tl_24, tl_25, tl_26, tl_27, tl_28, tl_29, tl_30, tl_31, tl_32, tl_33, tl_34, tl_35, tl_36, tl_37, tl_38, tl_39, tl_40, tl_41, tl_42, tl_43, tl_44, tl_45, tl_46, tl_47, tl_48, tl_49, tl_50, tl_51, tl_52, tl_53, tl_54, tl_57, tl_59, tl_60, tl_62, tl_63, tl_64, tl_97, tl_99, tl_100, tl_120, tl_122, tl_192, tl_193, tl_194, tl_195, tl_196, tl_255, tl_256, tl_299, tl_400, tl_401, tl_492, tl_493, tl_541, tl_849, tl_999, tl_1000, tl_1341, tl_1342, tl_1390, tl_2190, tl_5412, tl_5904, tl_9999, tl_12345, tl_32767, tl_65536, tl_1000000, tl_252645135, tl_858993459, tl_1103515245, tl_1431655765, nz_31, nz_c31, eq_self, or_true, true_or, or_false, false_or, Nat.add_zero, nz_lt, nz_le, nz_eq, nz_cl, nz_sub, nI_add, pk_mul, nt_lt, nf_lt, nf_eq, nz_mI, mI_eq, mI_eq', mI_lt, mI_gt, mI_add, ↓j_max, ↓j_min, Nat.sub_sub, Nat.reduceAdd, Nat.reduceSub, Nat.reduceLT, Nat.reduceEqDiff, Bool.false_eq_true]
    · rintro μ2 ⟨h2, F2⟩
      obtain ⟨W2, K2⟩ := tw_mi_k (x := v) (p := i) W1 (P - (i + 1)) (by omega)
      have hP2 := W2.1
      rw [← h2] at hP2
      have e : i + 1 + (P - (i + 1)) = P := by omega
      refine ⟨μ2, ⟨h2, F2⟩, fun k r rec => ?_⟩
      rw [e]
      simp (disch := omega) only [↓m_people hM, hP2, ↓MoV0 hM, ↓MoI0_70 hM, ↓MoP0_70 hM, ↓MoZ0_70 hM, ↓MoG0_71 hM, ↓MoG0_72 hM, ↓MoG0_73 hM, ↓MoG0_74 hM, ↓MoG0_75 hM, ↓MoI0_76 hM, ↓MoP0_76 hM, ↓MoZ0_76 hM, ↓MoI0_77 hM, ↓MoP0_77 hM, ↓MoZ0_77 hM, ↓MoG0_78 hM, ↓MoI0_79 hM, ↓MoP0_79 hM, ↓MoZ0_79 hM, ↓MoI0_80 hM, ↓MoP0_80 hM, ↓MoZ0_80 hM, ↓MoI0_81 hM, ↓MoP0_81 hM, ↓MoZ0_81 hM, ↓MoI0_82 hM, ↓MoP0_82 hM, ↓MoZ0_82 hM, ↓MoI0_83 hM, ↓MoP0_83 hM, ↓MoZ0_83 hM, ↓MoI0_84 hM, ↓MoP0_84 hM, ↓MoZ0_84 hM, ↓MoG0_85 hM, ↓MoI0_86 hM, ↓MoP0_86 hM, ↓MoZ0_86 hM, ↓MoG0_87 hM, ↓MoI0_88 hM, ↓MoP0_88 hM, ↓MoZ0_88 hM, ↓MoG0_89 hM, ↓MoG0_90 hM, ↓MoG0_91 hM, ↓MoG0_92 hM, ↓MoL0 hM, ↓MoS0 hM, ↓MoL1 hM, ↓MoS1 hM, ↓MoL2 hM, ↓MoS2 hM, ↓MoL3 hM, ↓MoS3 hM, ↓MoL4 hM, ↓MoS4 hM, ↓MoL5 hM, ↓MoS5 hM, ↓MoL6 hM, ↓MoS6 hM, ↓MoL7 hM, ↓MoS7 hM, ↓MoL8 hM, ↓MoS8 hM, ↓MoL9 hM, ↓MoS9 hM, ↓MoL10 hM, ↓MoS10 hM, ↓MoL11 hM, ↓MoS11 hM, ↓A_if, ↓A_jn, ↓A_lt, ↓A_rz, ↓A_rn, ↓A_nzi, ↓A_nzl, ↓A_nn1, ↓A_nn0, ↓reduceIte, true_and, and_true, if_true, if_false, ite_true, ite_false, reduceIte, tl_0, tl_1, tl_2, tl_3, tl_4, tl_5, tl_6, tl_7, tl_8, tl_9, tl_10, tl_11, tl_12, tl_13, tl_14, tl_15, tl_16, tl_17, tl_18, tl_19, tl_20, tl_21, tl_22, tl_23, tl_24, tl_25, tl_26, tl_27, tl_28, tl_29, tl_30, tl_31, tl_32, tl_33, tl_34, tl_35, tl_36, tl_37, tl_38, tl_39, tl_40, tl_41, tl_42, tl_43, tl_44, tl_45, tl_46, tl_47, tl_48, tl_49, tl_50, tl_51, tl_52, tl_53, tl_54, tl_57, tl_59, tl_60, tl_62, tl_63, tl_64, tl_97, tl_99, tl_100, tl_120, tl_122, tl_192, tl_193, tl_194, tl_195, tl_196, tl_255, tl_256, tl_299, tl_400, tl_401, tl_492, tl_493, tl_541, tl_849, tl_999, tl_1000, tl_1341, tl_1342, tl_1390, tl_2190, tl_5412, tl_5904, tl_9999, tl_12345, tl_32767, tl_65536, tl_1000000, tl_252645135, tl_858993459, tl_1103515245, tl_1431655765, nz_31, nz_c31, eq_self, or_true, true_or, or_false, false_or, Nat.add_zero, nz_lt, nz_le, nz_eq, nz_cl, nz_sub, nI_add, pk_mul, nt_lt, nf_lt, nf_eq, nz_mI, mI_eq, mI_eq', mI_lt, mI_gt, mI_add, ↓j_max, ↓j_min, Nat.sub_sub, Nat.reduceAdd, Nat.reduceSub, Nat.reduceLT, Nat.reduceEqDiff, Bool.false_eq_true]
  · rintro μ1 ⟨h1, F1⟩
    obtain ⟨W1, K1⟩ := tw_mt_k (x := v) W P (Nat.le_refl P)
    have hP1 := W1.1
    rw [← h1] at hP1
    refine ⟨tw_ra μ1 (m + 1) (tw_u1 (μ1 (m + 1)) 4 (tw_n9 (μ1 (m + 1) 4))), ⟨?_, tw_md_t F1 tw_md_w⟩, fun k rec => ?_⟩
    · rw [tw_ra_a, h1]
    · simp (disch := omega) only [↓m_people hM, hP1, tw_n9, tw_up_as, ↓MoV0 hM, ↓MoI0_70 hM, ↓MoP0_70 hM, ↓MoZ0_70 hM, ↓MoG0_71 hM, ↓MoG0_72 hM, ↓MoG0_73 hM, ↓MoG0_74 hM, ↓MoG0_75 hM, ↓MoI0_76 hM, ↓MoP0_76 hM, ↓MoZ0_76 hM, ↓MoI0_77 hM, ↓MoP0_77 hM, ↓MoZ0_77 hM, ↓MoG0_78 hM, ↓MoI0_79 hM, ↓MoP0_79 hM, ↓MoZ0_79 hM, ↓MoI0_80 hM, ↓MoP0_80 hM, ↓MoZ0_80 hM, ↓MoI0_81 hM, ↓MoP0_81 hM, ↓MoZ0_81 hM, ↓MoI0_82 hM, ↓MoP0_82 hM, ↓MoZ0_82 hM, ↓MoI0_83 hM, ↓MoP0_83 hM, ↓MoZ0_83 hM, ↓MoI0_84 hM, ↓MoP0_84 hM, ↓MoZ0_84 hM, ↓MoG0_85 hM, ↓MoI0_86 hM, ↓MoP0_86 hM, ↓MoZ0_86 hM, ↓MoG0_87 hM, ↓MoI0_88 hM, ↓MoP0_88 hM, ↓MoZ0_88 hM, ↓MoG0_89 hM, ↓MoG0_90 hM, ↓MoG0_91 hM, ↓MoG0_92 hM, ↓MoL0 hM, ↓MoS0 hM, ↓MoL1 hM, ↓MoS1 hM, ↓MoL2 hM, ↓MoS2 hM, ↓MoL3 hM, ↓MoS3 hM, ↓MoL4 hM, ↓MoS4 hM, ↓MoL5 hM, ↓MoS5 hM, ↓MoL6 hM, ↓MoS6 hM, ↓MoL7 hM, ↓MoS7 hM, ↓MoL8 hM, ↓MoS8 hM, ↓MoL9 hM, ↓MoS9 hM, ↓MoL10 hM, ↓MoS10 hM, ↓MoL11 hM, ↓MoS11 hM, ↓A_if, ↓A_jn, ↓A_lt, ↓A_rz, ↓A_rn, ↓A_nzi, ↓A_nzl, ↓A_nn1, ↓A_nn0, ↓reduceIte, true_and, and_true, if_true, if_false, ite_true, ite_false, reduceIte, tl_0, tl_1, tl_2, tl_3, tl_4, tl_5, tl_6, tl_7, tl_8, tl_9, tl_10, tl_11, tl_12, tl_13, tl_14, tl_15, tl_16, tl_17, tl_18, tl_19, tl_20, tl_21, tl_22, tl_23, tl_24, tl_25, tl_26, tl_27, tl_28, tl_29, tl_30, tl_31, tl_32, tl_33, tl_34, tl_35, tl_36, tl_37, tl_38, tl_39, tl_40, tl_41, tl_42, tl_43, tl_44, tl_45, tl_46, tl_47, tl_48, tl_49, tl_50, tl_51, tl_52, tl_53, tl_54, tl_57, tl_59, tl_60, tl_62, tl_63, tl_64, tl_97, tl_99, tl_100, tl_120, tl_122, tl_192, tl_193, tl_194, tl_195, tl_196, tl_255, tl_256, tl_299, tl_400, tl_401, tl_492, tl_493, tl_541, tl_849, tl_999, tl_1000, tl_1341, tl_1342, tl_1390, tl_2190, tl_5412, tl_5904, tl_9999, tl_12345, tl_32767, tl_65536, tl_1000000, tl_252645135, tl_858993459, tl_1103515245, tl_1431655765, nz_31, nz_c31, eq_self, or_true, true_or, or_false, false_or, Nat.add_zero, nz_lt, nz_le, nz_eq, nz_cl, nz_sub, nI_add, pk_mul, nt_lt, nf_lt, nf_eq, nz_mI, mI_eq, mI_eq', mI_lt, mI_gt, mI_add, ↓j_max, ↓j_min, Nat.sub_sub, Nat.reduceAdd, Nat.reduceSub, Nat.reduceLT, Nat.reduceEqDiff, Bool.false_eq_true]
end P60
