/-! ===== pure: lines of a town's text, ropes and people ===== -/
section P99f
variable {sh : tw_Sh} {μ μ' ν : Nat → Nat → Int32} {la : Nat → Nat → Int64} {n a b x y m t tt e i lo hi c cl p q p' q' z ix i' P o h l r s : Nat} {G : tw_Gm} {g : tw_Gx} {own tx : String} {B : Nat → Nat} {v w w' : Int32} {T T' : Nat → Int32}
theorem l_rope (hT : tw_tx B e tt) (hX : tw_Tx sh b) (W : tw_WF T P) (hi : i ≤ tt) : ∃ ok i' T' P', i ≤ i' ∧ i' ≤ tt ∧ tw_Li T T' P' ∧ tw_lc9 sh G b B e tt i i' ok T T' (f_X9_takeRopeLine (b + 140)) ∧ tw_lm9 sh G b B e (tw_tp B e i) i' ok T T' (f_X12_readRope (b + 168)) := by
  have h8 := W.2.1
  have h11 : (11 : Int32) < nI 1000 := by decide
  have h1 : (1 : Int32) < nI 1000 := by decide
  have n10 : ¬ nI 1 = nI 0 := by decide
  have hmI : mI < nI 0 := by decide
  have hmn : -nI 1 < nI 0 := by decide
  have hVl := fun i => tw_tv_l hT.2.2.2.2 e (tw_tg B e i)
  by_cases q1 : tw_iN B e i 0 1
  · obtain ⟨_, v1, v2⟩ := tw_iN_v (hi := 1) hT q1 (by omega)
    have i1 := tw_nx1 hT hi q1.1 (by omega)
    have nn1 : ¬ nI (tw_vd B e i) < nI 0 := by rw [nz_lt (by omega) (by omega)]; omega
    by_cases q2 : tw_iN B e (i + 1) 0 11
    · obtain ⟨_, v3, v4⟩ := tw_iN_v (hi := 11) hT q2 (by omega)
      have i2 := tw_nx1 hT i1 q2.1 (by omega)
      have nn2 : ¬ nI (tw_vd B e (i + 1)) < nI 0 := by rw [nz_lt (by omega) (by omega)]; omega
      have e1l : nI 1 - nI (tw_vd B e i) = nI (1 - tw_vd B e i) := nz_sub (by omega)
      have e1l' : (1 : Int32) - nI (tw_vd B e i) = nI (1 - tw_vd B e i) := e1l
      have CE1 : ∀ μ w, tw_Ab sh μ (b + 140) (b + 1) B e tt → ∀ la n (k : Int32 → tw_Mem → Prop), f_X7_takeNumber (b + 140) 0 1 k (sh, tw_cwf μ (b + 140) i w, la, n) = k (nI 1) (sh, tw_cwf μ (b + 140) (i + 1) (nI (tw_vd B e i)), la, n) := fun μ w hA la n k => by rw [cb_N0 hA hi, if_pos q1]
      have CE2 : ∀ μ w, tw_Ab sh μ (b + 140) (b + 1) B e tt → ∀ la n (k : Int32 → tw_Mem → Prop), f_X7_takeNumber (b + 140) 0 11 k (sh, tw_cwf μ (b + 140) (i + 1) w, la, n) = k (nI 1) (sh, tw_cwf μ (b + 140) (i + 1 + 1) (nI (tw_vd B e (i + 1))), la, n) := fun μ w hA la n k => by rw [cb_N0 hA i1, if_pos q2]
      have ME1 : ∀ ν q, tw_Mt sh ν (b + 168) B e → ∀ la n (k : Int32 → tw_Mem → Prop), f_X12_number (b + 168) 0 1 k (sh, tw_pb ν (b + 168) (tw_tp B e i) q, la, n) = k (nI (tw_vd B e i)) (sh, tw_pb ν (b + 168) (tw_tp B e (i + 1)) (tw_tg B e i), la, n) := fun ν q hM la n k => by rw [mb_N0 hM (tw_on_p _ _ _) h1, if_pos q1]
      have ME2 : ∀ ν q, tw_Mt sh ν (b + 168) B e → ∀ la n (k : Int32 → tw_Mem → Prop), f_X12_number (b + 168) 0 11 k (sh, tw_pb ν (b + 168) (tw_tp B e (i + 1)) q, la, n) = k (nI (tw_vd B e (i + 1))) (sh, tw_pb ν (b + 168) (tw_tp B e (i + 1 + 1)) (tw_tg B e (i + 1)), la, n) := fun ν q hM la n k => by rw [mb_N0 hM (tw_on_p _ _ _) h11, if_pos q2]
      have CPL : ∀ μ w, tw_RC sh μ (b + 12) T → ∀ la n (k : Int32 → tw_Mem → Prop), f_X8_planned (b + 12) (nI (1 - tw_vd B e i)) (nI (tw_vd B e (i + 1))) k (sh, tw_cwf μ (b + 140) (i + 1 + 1) w, la, n) = k (T (8 + 12 * (1 - tw_vd B e i) + tw_vd B e (i + 1))) (sh, tw_cwf μ (b + 140) (i + 1 + 1) w, la, n) := fun μ w H la n k => c_planned (tw_RC_cwf H) (by omega) (by omega) k
      have CIV : ∀ μ i w, tw_RC sh μ (b + 12) T → ∀ la n (F : tw_Mem → Prop), tw_iv 7 (b + 12) F (sh, tw_cwf μ (b + 140) i w, la, n) = F (sh, tw_cwf μ (b + 140) i w, la, n) := fun μ i w H la n F => by rw [A_iv, Tn_is H.1, true_and]
      have MPL : ∀ ν p q, tw_Mt sh ν (b + 168) B e → ν (b + 168 + 1) = T → ∀ la n (k : Int32 → tw_Mem → Prop), f_X12_inPlan (b + 168) (nI (1 - tw_vd B e i)) (nI (tw_vd B e (i + 1))) k (sh, tw_pb ν (b + 168) p q, la, n) = k (T (8 + 12 * (1 - tw_vd B e i) + tw_vd B e (i + 1))) (sh, tw_pb ν (b + 168) p q, la, n) := fun ν p q hM hT1 la n k => by rw [m_inPlan hM.1 (by omega) (by omega), tw_pb_n (by omega), hT1]
      by_cases q3 : tw_kd B e (i + 1 + 1) = 2 ∧ nI (tw_vd B e (i + 1 + 1)) = T (8 + 12 * (1 - tw_vd B e i) + tw_vd B e (i + 1))
      · have q4 : tw_iN B e (i + 1 + 1) 0 (nI P - 1) := by
          have hp := Wf_p (h := tw_vd B e (i + 1)) W (by omega)
          have hpl : T (8 + 12 * (1 - tw_vd B e i) + tw_vd B e (i + 1)) = mI ∨ ∃ p, p < P ∧ T (8 + 12 * (1 - tw_vd B e i) + tw_vd B e (i + 1)) = nI p := by
            rcases (by omega : tw_vd B e i = 0 ∨ tw_vd B e i = 1) with g | g
            · rw [g, show 8 + 12 * (1 - 0) + tw_vd B e (i + 1) = 20 + tw_vd B e (i + 1) by omega]; exact hp.2.1
            · rw [g, show 8 + 12 * (1 - 1) + tw_vd B e (i + 1) = 8 + tw_vd B e (i + 1) by omega]; exact hp.1
          have h30 : tw_vd B e (i + 1 + 1) < 2 ^ 30 := hVl (i + 1 + 1)
          rcases hpl with hpl | ⟨p, hp1, hp2⟩
          · exfalso
            have g := q3.2
            rw [hpl] at g
            have : ¬ nI (tw_vd B e (i + 1 + 1)) = mI := by rw [mI_eq (by omega)]; exact id
            exact this g
          · have g := q3.2
            rw [hp2, nz_eq (by omega) (by omega)] at g
            refine ⟨q3.1, Nat.zero_le _, ?_⟩
            show ¬ nI P - nI 1 < _
            rw [g, nz_sub (by omega), nz_lt (by omega) (by omega)]
            omega
        refine ⟨false, i + 1 + 1, T, P, by omega, i2, tw_Li_r W, fun μ w hA hG H => ⟨μ, nI (tw_vd B e (i + 1)), tw_fx_r, H, fun la n k => ?_⟩, fun ν q hM hG hT1 => ⟨tw_tp B e (i + 1 + 1 + 1), tw_tg B e (i + 1 + 1), fun h => Bool.noConfusion h, fun _ => rfl, fun la n k => ?_⟩⟩
        · have E1 := CE1 μ w hA la n
          have E2 := CE2 μ (nI (tw_vd B e i)) hA la n
          have E3 := fun k => cb_last (la := la) (n := n) (i := i + 1) (w := nI (tw_vd B e i)) hA k
          have E4 := fun k => cb_last (la := la) (n := n) (i := i + 1 + 1) (w := nI (tw_vd B e (i + 1))) hA k
          have E5 := CPL μ (nI (tw_vd B e (i + 1))) H la n
          have E6 := CIV μ (i + 1 + 1) (nI (tw_vd B e (i + 1))) H la n
          have E7 := fun k => cb_is (la := la) (n := n) (w := nI (tw_vd B e (i + 1))) (v := T (8 + 12 * (1 - tw_vd B e i) + tw_vd B e (i + 1))) hA i2 k
          simp only [if_pos q3] at E7
          simp only [f_X9_takeRopeLine, e1l', e1l, ↓E1, ↓E2, ↓E3, ↓E4, ↓E6, E5, E7, n10, tl_0, tl_1, or_true, true_or, tw_bo_f, ↓TxV0 hX, ↓TxW0 hX, ↓TxG0_6 hX, ↓TxG0_7 hX, ↓TxG0_8 hX, ↓TxG0_9 hX, ↓TxI0_10 hX, ↓TxP0_10 hX, ↓TxZ0_10 hX, ↓TxI0_11 hX, ↓TxP0_11 hX, ↓TxZ0_11 hX, ↓TxI0_12 hX, ↓TxP0_12 hX, ↓TxZ0_12 hX, ↓TxG0_53 hX, ↓TxV1 hX, ↓TxW1 hX, ↓TxG1_6 hX, ↓TxG1_7 hX, ↓TxG1_8 hX, ↓TxG1_9 hX, ↓TxI1_10 hX, ↓TxP1_10 hX, ↓TxZ1_10 hX, ↓TxI1_11 hX, ↓TxP1_11 hX, ↓TxZ1_11 hX, ↓TxI1_12 hX, ↓TxP1_12 hX, ↓TxZ1_12 hX, ↓TxG1_13 hX, ↓TxG1_14 hX, ↓TxG1_15 hX, ↓TxG1_16 hX, ↓TxI1_17 hX, ↓TxP1_17 hX, ↓TxZ1_17 hX, ↓TxI1_18 hX, ↓TxP1_18 hX, ↓TxZ1_18 hX, ↓TxL0 hX, ↓TxS0 hX, ↓TxL1 hX, ↓TxS1 hX, ↓TxL2 hX, ↓TxS2 hX, ↓TxL3 hX, ↓TxS3 hX, ↓TxL4 hX, ↓TxS4 hX, ↓TxL5 hX, ↓TxS5 hX, ↓TxL6 hX, ↓TxS6 hX, ↓TxL7 hX, ↓TxS7 hX, ↓TxL8 hX, ↓TxS8 hX, ↓TxL9 hX, ↓TxS9 hX, ↓A_if, ↓A_jn, ↓A_lt, ↓A_rz, ↓A_rn, ↓A_nzi, ↓A_nzl, ↓A_nn1, ↓A_nn0, ↓reduceIte, true_and, and_true, if_true, if_false, ite_true, ite_false, reduceIte]
        · have M1 := ME1 ν q hM la n
          have M2 := ME2 ν (tw_tg B e i) hM la n
          have M3 := fun k => mb_P (la := la) (n := n) (q := tw_tg B e (i + 1)) W hM hT1 (tw_on_p B e (i + 1 + 1)) k
          simp only [if_pos q4] at M3
          have M4 := MPL ν (tw_tp B e (i + 1 + 1 + 1)) (tw_tg B e (i + 1 + 1)) hM hT1 la n
          have g3 := q3.2
          have nn3 : ¬ nI (tw_vd B e (i + 1 + 1)) < nI 0 := by have : tw_vd B e (i + 1 + 1) < 2 ^ 30 := hVl (i + 1 + 1); rw [nz_lt (by omega) (by omega)]; omega
          rw [← hT1, tw_ra_s]
          have hm := hM.1
          rw [← g3] at M4
          simp only [f_X12_readRope, e1l', e1l, ↓M1, ↓M2, ↓M3, M4, nn1, nn2, nn3, tl_0, tl_1, or_true, true_or, tw_bo_f, ↓MoV0 hm, ↓MoI0_70 hm, ↓MoP0_70 hm, ↓MoZ0_70 hm, ↓MoG0_71 hm, ↓MoG0_72 hm, ↓MoG0_73 hm, ↓MoG0_74 hm, ↓MoG0_75 hm, ↓MoI0_76 hm, ↓MoP0_76 hm, ↓MoZ0_76 hm, ↓MoI0_77 hm, ↓MoP0_77 hm, ↓MoZ0_77 hm, ↓MoG0_78 hm, ↓MoI0_79 hm, ↓MoP0_79 hm, ↓MoZ0_79 hm, ↓MoI0_80 hm, ↓MoP0_80 hm, ↓MoZ0_80 hm, ↓MoI0_81 hm, ↓MoP0_81 hm, ↓MoZ0_81 hm, ↓MoI0_82 hm, ↓MoP0_82 hm, ↓MoZ0_82 hm, ↓MoI0_83 hm, ↓MoP0_83 hm, ↓MoZ0_83 hm, ↓MoI0_84 hm, ↓MoP0_84 hm, ↓MoZ0_84 hm, ↓MoG0_85 hm, ↓MoI0_86 hm, ↓MoP0_86 hm, ↓MoZ0_86 hm, ↓MoG0_87 hm, ↓MoI0_88 hm, ↓MoP0_88 hm, ↓MoZ0_88 hm, ↓MoG0_89 hm, ↓MoG0_90 hm, ↓MoG0_91 hm, ↓MoG0_92 hm, ↓MoL0 hm, ↓MoS0 hm, ↓MoL1 hm, ↓MoS1 hm, ↓MoL2 hm, ↓MoS2 hm, ↓MoL3 hm, ↓MoS3 hm, ↓MoL4 hm, ↓MoS4 hm, ↓MoL5 hm, ↓MoS5 hm, ↓MoL6 hm, ↓MoS6 hm, ↓MoL7 hm, ↓MoS7 hm, ↓MoL8 hm, ↓MoS8 hm, ↓MoL9 hm, ↓MoS9 hm, ↓MoL10 hm, ↓MoS10 hm, ↓MoL11 hm, ↓MoS11 hm, ↓A_if, ↓A_jn, ↓A_lt, ↓A_rz, ↓A_rn, ↓A_nzi, ↓A_nzl, ↓A_nn1, ↓A_nn0, ↓reduceIte, true_and, and_true, if_true, if_false, ite_true, ite_false, reduceIte]
      · by_cases q4 : tw_iN B e (i + 1 + 1) 0 (nI P - 1)
        · have p4 := tw_iN_P hT h8 q4
          have hne : ¬ T (8 + 12 * (1 - tw_vd B e i) + tw_vd B e (i + 1)) = nI (tw_vd B e (i + 1 + 1)) := fun g => q3 ⟨q4.1, g.symm⟩
          have nn3 : ¬ nI (tw_vd B e (i + 1 + 1)) < nI 0 := by rw [nz_lt (by omega) (by omega)]; omega
          refine ⟨true, i + 1 + 1 + 1, tw_u1 T (8 + 12 * tw_vd B e i + tw_vd B e (i + 1)) (nI (tw_vd B e (i + 1 + 1))), P, by omega, tw_nx1 hT i2 q4.1 (by omega), ⟨Wf_sp W (by omega) (by omega) (Or.inr ⟨_, p4, rfl⟩) (fun g => absurd g.symm hne), tw_u1n (by omega), tw_u1n (by omega), fun j hj => tw_u1n (by omega)⟩, fun μ w hA hG H => ⟨tw_up μ (b + 12 + 6) (12 * tw_vd B e i + tw_vd B e (i + 1)) (nI (tw_vd B e (i + 1 + 1))), nI (tw_vd B e (i + 1 + 1)), fun y hy => tw_up_ne (by omega), Rc_setP H (by omega) (by omega) _, fun la n k => ?_⟩, fun ν q hM hG hT1 => ⟨tw_tp B e (i + 1 + 1 + 1), tw_tg B e (i + 1 + 1), fun _ => tw_on_p _ _ _, fun h => Bool.noConfusion h, fun la n k => ?_⟩⟩
          · have E1 := CE1 μ w hA la n
            have E2 := CE2 μ (nI (tw_vd B e i)) hA la n
            have E3 := fun k => cb_last (la := la) (n := n) (i := i + 1) (w := nI (tw_vd B e i)) hA k
            have E4 := fun k => cb_last (la := la) (n := n) (i := i + 1 + 1) (w := nI (tw_vd B e (i + 1))) hA k
            have E5 := CPL μ (nI (tw_vd B e (i + 1))) H la n
            have E6 := CIV μ (i + 1 + 1) (nI (tw_vd B e (i + 1))) H la n
            have E7 := fun k => cb_is (la := la) (n := n) (w := nI (tw_vd B e (i + 1))) (v := T (8 + 12 * (1 - tw_vd B e i) + tw_vd B e (i + 1))) hA i2 k
            simp only [if_neg q3] at E7
            have E8 := fun k => cb_P (la := la) (n := n) (w := nI (tw_vd B e (i + 1))) hT hX W hA H i2 k
            simp only [if_pos q4] at E8
            have E9 := fun k => cb_last (la := la) (n := n) (i := i + 1 + 1 + 1) (w := nI (tw_vd B e (i + 1 + 1))) hA k
            have E10 := fun k => c_put (la := la) (n := n) (v := nI (tw_vd B e (i + 1 + 1))) (tw_RC_cwf (i := i + 1 + 1 + 1) (w := nI (tw_vd B e (i + 1 + 1))) H) (l := tw_vd B e i) (h := tw_vd B e (i + 1)) (by omega) (by omega) k
            have E11 := CIV μ (i + 1 + 1 + 1) (nI (tw_vd B e (i + 1 + 1))) H la n
            simp only [f_X9_takeRopeLine, e1l', e1l, ↓E1, ↓E2, ↓E3, ↓E4, ↓E6, E5, E7, ↓E8, ↓E9, ↓E10, ↓E11, n10, tl_0, tl_1, or_true, true_or, tw_bo_t, ↓TxV0 hX, ↓TxW0 hX, ↓TxG0_6 hX, ↓TxG0_7 hX, ↓TxG0_8 hX, ↓TxG0_9 hX, ↓TxI0_10 hX, ↓TxP0_10 hX, ↓TxZ0_10 hX, ↓TxI0_11 hX, ↓TxP0_11 hX, ↓TxZ0_11 hX, ↓TxI0_12 hX, ↓TxP0_12 hX, ↓TxZ0_12 hX, ↓TxG0_53 hX, ↓TxV1 hX, ↓TxW1 hX, ↓TxG1_6 hX, ↓TxG1_7 hX, ↓TxG1_8 hX, ↓TxG1_9 hX, ↓TxI1_10 hX, ↓TxP1_10 hX, ↓TxZ1_10 hX, ↓TxI1_11 hX, ↓TxP1_11 hX, ↓TxZ1_11 hX, ↓TxI1_12 hX, ↓TxP1_12 hX, ↓TxZ1_12 hX, ↓TxG1_13 hX, ↓TxG1_14 hX, ↓TxG1_15 hX, ↓TxG1_16 hX, ↓TxI1_17 hX, ↓TxP1_17 hX, ↓TxZ1_17 hX, ↓TxI1_18 hX, ↓TxP1_18 hX, ↓TxZ1_18 hX, ↓TxL0 hX, ↓TxS0 hX, ↓TxL1 hX, ↓TxS1 hX, ↓TxL2 hX, ↓TxS2 hX, ↓TxL3 hX, ↓TxS3 hX, ↓TxL4 hX, ↓TxS4 hX, ↓TxL5 hX, ↓TxS5 hX, ↓TxL6 hX, ↓TxS6 hX, ↓TxL7 hX, ↓TxS7 hX, ↓TxL8 hX, ↓TxS8 hX, ↓TxL9 hX, ↓TxS9 hX, ↓A_if, ↓A_jn, ↓A_lt, ↓A_rz, ↓A_rn, ↓A_nzi, ↓A_nzl, ↓A_nn1, ↓A_nn0, ↓reduceIte, true_and, and_true, if_true, if_false, ite_true, ite_false, reduceIte]
            rw [tw_cwf_c (by omega)]
          · have M1 := ME1 ν q hM la n
            have M2 := ME2 ν (tw_tg B e i) hM la n
            have M3 := fun k => mb_P (la := la) (n := n) (q := tw_tg B e (i + 1)) W hM hT1 (tw_on_p B e (i + 1 + 1)) k
            simp only [if_pos q4] at M3
            have M4 := MPL ν (tw_tp B e (i + 1 + 1 + 1)) (tw_tg B e (i + 1 + 1)) hM hT1 la n
            have hm := hM.1
            have M5 : ∀ k, f_X12_planAt (nI (tw_vd B e i)) (nI (tw_vd B e (i + 1))) k = k (nI (8 + 12 * tw_vd B e i + tw_vd B e (i + 1))) := fun k => by
              unfold f_X12_planAt
              refine congrArg k ?_
              show nI 8 + nI 12 * nI (tw_vd B e i) + nI (tw_vd B e (i + 1)) = _
              rw [pk_mul, nI_add, nI_add]
            simp (disch := omega) only [f_X12_readRope, e1l', e1l, ↓M1, ↓M2, ↓M3, M4, ↓M5, nn1, nn2, nn3, hne, tl_0, tl_1, or_true, true_or, tw_bo_t, ↓MoV0 hm, ↓MoI0_70 hm, ↓MoP0_70 hm, ↓MoZ0_70 hm, ↓MoG0_71 hm, ↓MoG0_72 hm, ↓MoG0_73 hm, ↓MoG0_74 hm, ↓MoG0_75 hm, ↓MoI0_76 hm, ↓MoP0_76 hm, ↓MoZ0_76 hm, ↓MoI0_77 hm, ↓MoP0_77 hm, ↓MoZ0_77 hm, ↓MoG0_78 hm, ↓MoI0_79 hm, ↓MoP0_79 hm, ↓MoZ0_79 hm, ↓MoI0_80 hm, ↓MoP0_80 hm, ↓MoZ0_80 hm, ↓MoI0_81 hm, ↓MoP0_81 hm, ↓MoZ0_81 hm, ↓MoI0_82 hm, ↓MoP0_82 hm, ↓MoZ0_82 hm, ↓MoI0_83 hm, ↓MoP0_83 hm, ↓MoZ0_83 hm, ↓MoI0_84 hm, ↓MoP0_84 hm, ↓MoZ0_84 hm, ↓MoG0_85 hm, ↓MoI0_86 hm, ↓MoP0_86 hm, ↓MoZ0_86 hm, ↓MoG0_87 hm, ↓MoI0_88 hm, ↓MoP0_88 hm, ↓MoZ0_88 hm, ↓MoG0_89 hm, ↓MoG0_90 hm, ↓MoG0_91 hm, ↓MoG0_92 hm, ↓MoL0 hm, ↓MoS0 hm, ↓MoL1 hm, ↓MoS1 hm, ↓MoL2 hm, ↓MoS2 hm, ↓MoL3 hm, ↓MoS3 hm, ↓MoL4 hm, ↓MoS4 hm, ↓MoL5 hm, ↓MoS5 hm, ↓MoL6 hm, ↓MoS6 hm, ↓MoL7 hm, ↓MoS7 hm, ↓MoL8 hm, ↓MoS8 hm, ↓MoL9 hm, ↓MoS9 hm, ↓MoL10 hm, ↓MoS10 hm, ↓MoL11 hm, ↓MoS11 hm, ↓A_if, ↓A_jn, ↓A_lt, ↓A_rz, ↓A_rn, ↓A_nzi, ↓A_nzl, ↓A_nn1, ↓A_nn0, ↓reduceIte, true_and, and_true, if_true, if_false, ite_true, ite_false, reduceIte]
            rw [tw_pb_c (by omega), tw_up_as, hT1]
        · refine ⟨false, i + 1 + 1, T, P, by omega, i2, tw_Li_r W, fun μ w hA hG H => ⟨μ, nI (tw_vd B e (i + 1)), tw_fx_r, H, fun la n k => ?_⟩, fun ν q hM hG hT1 => ⟨tw_tde B e (tw_tg B e (i + 1 + 1)), tw_tg B e (i + 1 + 1), fun h => Bool.noConfusion h, fun _ => rfl, fun la n k => ?_⟩⟩
          · have E1 := CE1 μ w hA la n
            have E2 := CE2 μ (nI (tw_vd B e i)) hA la n
            have E3 := fun k => cb_last (la := la) (n := n) (i := i + 1) (w := nI (tw_vd B e i)) hA k
            have E4 := fun k => cb_last (la := la) (n := n) (i := i + 1 + 1) (w := nI (tw_vd B e (i + 1))) hA k
            have E5 := CPL μ (nI (tw_vd B e (i + 1))) H la n
            have E6 := CIV μ (i + 1 + 1) (nI (tw_vd B e (i + 1))) H la n
            have E7 := fun k => cb_is (la := la) (n := n) (w := nI (tw_vd B e (i + 1))) (v := T (8 + 12 * (1 - tw_vd B e i) + tw_vd B e (i + 1))) hA i2 k
            simp only [if_neg q3] at E7
            have E8 := fun k => cb_P (la := la) (n := n) (w := nI (tw_vd B e (i + 1))) hT hX W hA H i2 k
            simp only [if_neg q4] at E8
            simp only [f_X9_takeRopeLine, e1l', e1l, ↓E1, ↓E2, ↓E3, ↓E4, ↓E6, E5, E7, ↓E8, n10, tl_0, tl_1, or_true, true_or, tw_bo_f, ↓TxV0 hX, ↓TxW0 hX, ↓TxG0_6 hX, ↓TxG0_7 hX, ↓TxG0_8 hX, ↓TxG0_9 hX, ↓TxI0_10 hX, ↓TxP0_10 hX, ↓TxZ0_10 hX, ↓TxI0_11 hX, ↓TxP0_11 hX, ↓TxZ0_11 hX, ↓TxI0_12 hX, ↓TxP0_12 hX, ↓TxZ0_12 hX, ↓TxG0_53 hX, ↓TxV1 hX, ↓TxW1 hX, ↓TxG1_6 hX, ↓TxG1_7 hX, ↓TxG1_8 hX, ↓TxG1_9 hX, ↓TxI1_10 hX, ↓TxP1_10 hX, ↓TxZ1_10 hX, ↓TxI1_11 hX, ↓TxP1_11 hX, ↓TxZ1_11 hX, ↓TxI1_12 hX, ↓TxP1_12 hX, ↓TxZ1_12 hX, ↓TxG1_13 hX, ↓TxG1_14 hX, ↓TxG1_15 hX, ↓TxG1_16 hX, ↓TxI1_17 hX, ↓TxP1_17 hX, ↓TxZ1_17 hX, ↓TxI1_18 hX, ↓TxP1_18 hX, ↓TxZ1_18 hX, ↓TxL0 hX, ↓TxS0 hX, ↓TxL1 hX, ↓TxS1 hX, ↓TxL2 hX, ↓TxS2 hX, ↓TxL3 hX, ↓TxS3 hX, ↓TxL4 hX, ↓TxS4 hX, ↓TxL5 hX, ↓TxS5 hX, ↓TxL6 hX, ↓TxS6 hX, ↓TxL7 hX, ↓TxS7 hX, ↓TxL8 hX, ↓TxS8 hX, ↓TxL9 hX, ↓TxS9 hX, ↓A_if, ↓A_jn, ↓A_lt, ↓A_rz, ↓A_rn, ↓A_nzi, ↓A_nzl, ↓A_nn1, ↓A_nn0, ↓reduceIte, true_and, and_true, if_true, if_false, ite_true, ite_false, reduceIte]
          · have M1 := ME1 ν q hM la n
            have M2 := ME2 ν (tw_tg B e i) hM la n
            have M3 := fun k => mb_P (la := la) (n := n) (q := tw_tg B e (i + 1)) W hM hT1 (tw_on_p B e (i + 1 + 1)) k
            simp only [if_neg q4] at M3
            have hm := hM.1
            rw [← hT1, tw_ra_s]
            simp only [f_X12_readRope, ↓M1, ↓M2, ↓M3, nn1, nn2, hmI, tl_0, tl_1, or_true, true_or, tw_bo_f, ↓MoV0 hm, ↓MoI0_70 hm, ↓MoP0_70 hm, ↓MoZ0_70 hm, ↓MoG0_71 hm, ↓MoG0_72 hm, ↓MoG0_73 hm, ↓MoG0_74 hm, ↓MoG0_75 hm, ↓MoI0_76 hm, ↓MoP0_76 hm, ↓MoZ0_76 hm, ↓MoI0_77 hm, ↓MoP0_77 hm, ↓MoZ0_77 hm, ↓MoG0_78 hm, ↓MoI0_79 hm, ↓MoP0_79 hm, ↓MoZ0_79 hm, ↓MoI0_80 hm, ↓MoP0_80 hm, ↓MoZ0_80 hm, ↓MoI0_81 hm, ↓MoP0_81 hm, ↓MoZ0_81 hm, ↓MoI0_82 hm, ↓MoP0_82 hm, ↓MoZ0_82 hm, ↓MoI0_83 hm, ↓MoP0_83 hm, ↓MoZ0_83 hm, ↓MoI0_84 hm, ↓MoP0_84 hm, ↓MoZ0_84 hm, ↓MoG0_85 hm, ↓MoI0_86 hm, ↓MoP0_86 hm, ↓MoZ0_86 hm, ↓MoG0_87 hm, ↓MoI0_88 hm, ↓MoP0_88 hm, ↓MoZ0_88 hm, ↓MoG0_89 hm, ↓MoG0_90 hm, ↓MoG0_91 hm, ↓MoG0_92 hm, ↓MoL0 hm, ↓MoS0 hm, ↓MoL1 hm, ↓MoS1 hm, ↓MoL2 hm, ↓MoS2 hm, ↓MoL3 hm, ↓MoS3 hm, ↓MoL4 hm, ↓MoS4 hm, ↓MoL5 hm, ↓MoS5 hm, ↓MoL6 hm, ↓MoS6 hm, ↓MoL7 hm, ↓MoS7 hm, ↓MoL8 hm, ↓MoS8 hm, ↓MoL9 hm, ↓MoS9 hm, ↓MoL10 hm, ↓MoS10 hm, ↓MoL11 hm, ↓MoS11 hm, ↓A_if, ↓A_jn, ↓A_lt, ↓A_rz, ↓A_rn, ↓A_nzi, ↓A_nzl, ↓A_nn1, ↓A_nn0, ↓reduceIte, true_and, and_true, if_true, if_false, ite_true, ite_false, reduceIte]
    · refine ⟨false, i + 1, T, P, by omega, i1, tw_Li_r W, fun μ w hA hG H => ⟨μ, nI (tw_vd B e i), tw_fx_r, H, fun la n k => ?_⟩, fun ν q hM hG hT1 => ⟨tw_tde B e (tw_tg B e (i + 1)), tw_tg B e (i + 1), fun h => Bool.noConfusion h, fun _ => rfl, fun la n k => ?_⟩⟩
      · have E1 := fun k => cb_N0 (la := la) (n := n) (w := w) (v := 1) hA hi k
        simp only [if_pos q1] at E1
        have E3 := fun k => cb_last (la := la) (n := n) (i := i + 1) (w := nI (tw_vd B e i)) hA k
        have E2 := fun k => cb_N0 (la := la) (n := n) (w := nI (tw_vd B e i)) (v := 11) hA i1 k
        simp only [if_neg q2] at E2
        simp only [f_X9_takeRopeLine, ↓E1, ↓E2, ↓E3, n10, tl_0, tl_1, or_true, true_or, tw_bo_f, ↓TxV0 hX, ↓TxW0 hX, ↓TxG0_6 hX, ↓TxG0_7 hX, ↓TxG0_8 hX, ↓TxG0_9 hX, ↓TxI0_10 hX, ↓TxP0_10 hX, ↓TxZ0_10 hX, ↓TxI0_11 hX, ↓TxP0_11 hX, ↓TxZ0_11 hX, ↓TxI0_12 hX, ↓TxP0_12 hX, ↓TxZ0_12 hX, ↓TxG0_53 hX, ↓TxV1 hX, ↓TxW1 hX, ↓TxG1_6 hX, ↓TxG1_7 hX, ↓TxG1_8 hX, ↓TxG1_9 hX, ↓TxI1_10 hX, ↓TxP1_10 hX, ↓TxZ1_10 hX, ↓TxI1_11 hX, ↓TxP1_11 hX, ↓TxZ1_11 hX, ↓TxI1_12 hX, ↓TxP1_12 hX, ↓TxZ1_12 hX, ↓TxG1_13 hX, ↓TxG1_14 hX, ↓TxG1_15 hX, ↓TxG1_16 hX, ↓TxI1_17 hX, ↓TxP1_17 hX, ↓TxZ1_17 hX, ↓TxI1_18 hX, ↓TxP1_18 hX, ↓TxZ1_18 hX, ↓TxL0 hX, ↓TxS0 hX, ↓TxL1 hX, ↓TxS1 hX, ↓TxL2 hX, ↓TxS2 hX, ↓TxL3 hX, ↓TxS3 hX, ↓TxL4 hX, ↓TxS4 hX, ↓TxL5 hX, ↓TxS5 hX, ↓TxL6 hX, ↓TxS6 hX, ↓TxL7 hX, ↓TxS7 hX, ↓TxL8 hX, ↓TxS8 hX, ↓TxL9 hX, ↓TxS9 hX, ↓A_if, ↓A_jn, ↓A_lt, ↓A_rz, ↓A_rn, ↓A_nzi, ↓A_nzl, ↓A_nn1, ↓A_nn0, ↓reduceIte, true_and, and_true, if_true, if_false, ite_true, ite_false, reduceIte]
      · have M1 := fun k => mb_N0 (la := la) (n := n) (q := q) hM (tw_on_p B e i) h1 k
        simp only [if_pos q1] at M1
        have M2 := fun k => mb_N0 (la := la) (n := n) (q := tw_tg B e i) hM (tw_on_p B e (i + 1)) h11 k
        simp only [if_neg q2] at M2
        have hm := hM.1
        rw [← hT1, tw_ra_s]
        simp only [f_X12_readRope, ↓M1, ↓M2, nn1, hmI, hmn, tl_0, tl_1, or_true, true_or, tw_bo_f, ↓MoV0 hm, ↓MoI0_70 hm, ↓MoP0_70 hm, ↓MoZ0_70 hm, ↓MoG0_71 hm, ↓MoG0_72 hm, ↓MoG0_73 hm, ↓MoG0_74 hm, ↓MoG0_75 hm, ↓MoI0_76 hm, ↓MoP0_76 hm, ↓MoZ0_76 hm, ↓MoI0_77 hm, ↓MoP0_77 hm, ↓MoZ0_77 hm, ↓MoG0_78 hm, ↓MoI0_79 hm, ↓MoP0_79 hm, ↓MoZ0_79 hm, ↓MoI0_80 hm, ↓MoP0_80 hm, ↓MoZ0_80 hm, ↓MoI0_81 hm, ↓MoP0_81 hm, ↓MoZ0_81 hm, ↓MoI0_82 hm, ↓MoP0_82 hm, ↓MoZ0_82 hm, ↓MoI0_83 hm, ↓MoP0_83 hm, ↓MoZ0_83 hm, ↓MoI0_84 hm, ↓MoP0_84 hm, ↓MoZ0_84 hm, ↓MoG0_85 hm, ↓MoI0_86 hm, ↓MoP0_86 hm, ↓MoZ0_86 hm, ↓MoG0_87 hm, ↓MoI0_88 hm, ↓MoP0_88 hm, ↓MoZ0_88 hm, ↓MoG0_89 hm, ↓MoG0_90 hm, ↓MoG0_91 hm, ↓MoG0_92 hm, ↓MoL0 hm, ↓MoS0 hm, ↓MoL1 hm, ↓MoS1 hm, ↓MoL2 hm, ↓MoS2 hm, ↓MoL3 hm, ↓MoS3 hm, ↓MoL4 hm, ↓MoS4 hm, ↓MoL5 hm, ↓MoS5 hm, ↓MoL6 hm, ↓MoS6 hm, ↓MoL7 hm, ↓MoS7 hm, ↓MoL8 hm, ↓MoS8 hm, ↓MoL9 hm, ↓MoS9 hm, ↓MoL10 hm, ↓MoS10 hm, ↓MoL11 hm, ↓MoS11 hm, ↓A_if, ↓A_jn, ↓A_lt, ↓A_rz, ↓A_rn, ↓A_nzi, ↓A_nzl, ↓A_nn1, ↓A_nn0, ↓reduceIte, true_and, and_true, if_true, if_false, ite_true, ite_false, reduceIte]
  · refine ⟨false, i, T, P, by omega, hi, tw_Li_r W, fun μ w hA hG H => ⟨μ, w, tw_fx_r, H, fun la n k => ?_⟩, fun ν q hM hG hT1 => ⟨tw_tde B e (tw_tg B e i), tw_tg B e i, fun h => Bool.noConfusion h, fun _ => rfl, fun la n k => ?_⟩⟩
    · have E1 := fun k => cb_N0 (la := la) (n := n) (w := w) (v := 1) hA hi k
      simp only [if_neg q1] at E1
      simp only [f_X9_takeRopeLine, ↓E1, n10, tl_0, tl_1, or_true, true_or, tw_bo_f, ↓TxV0 hX, ↓TxW0 hX, ↓TxG0_6 hX, ↓TxG0_7 hX, ↓TxG0_8 hX, ↓TxG0_9 hX, ↓TxI0_10 hX, ↓TxP0_10 hX, ↓TxZ0_10 hX, ↓TxI0_11 hX, ↓TxP0_11 hX, ↓TxZ0_11 hX, ↓TxI0_12 hX, ↓TxP0_12 hX, ↓TxZ0_12 hX, ↓TxG0_53 hX, ↓TxV1 hX, ↓TxW1 hX, ↓TxG1_6 hX, ↓TxG1_7 hX, ↓TxG1_8 hX, ↓TxG1_9 hX, ↓TxI1_10 hX, ↓TxP1_10 hX, ↓TxZ1_10 hX, ↓TxI1_11 hX, ↓TxP1_11 hX, ↓TxZ1_11 hX, ↓TxI1_12 hX, ↓TxP1_12 hX, ↓TxZ1_12 hX, ↓TxG1_13 hX, ↓TxG1_14 hX, ↓TxG1_15 hX, ↓TxG1_16 hX, ↓TxI1_17 hX, ↓TxP1_17 hX, ↓TxZ1_17 hX, ↓TxI1_18 hX, ↓TxP1_18 hX, ↓TxZ1_18 hX, ↓TxL0 hX, ↓TxS0 hX, ↓TxL1 hX, ↓TxS1 hX, ↓TxL2 hX, ↓TxS2 hX, ↓TxL3 hX, ↓TxS3 hX, ↓TxL4 hX, ↓TxS4 hX, ↓TxL5 hX, ↓TxS5 hX, ↓TxL6 hX, ↓TxS6 hX, ↓TxL7 hX, ↓TxS7 hX, ↓TxL8 hX, ↓TxS8 hX, ↓TxL9 hX, ↓TxS9 hX, ↓A_if, ↓A_jn, ↓A_lt, ↓A_rz, ↓A_rn, ↓A_nzi, ↓A_nzl, ↓A_nn1, ↓A_nn0, ↓reduceIte, true_and, and_true, if_true, if_false, ite_true, ite_false, reduceIte]
    · have M1 := fun k => mb_N0 (la := la) (n := n) (q := q) hM (tw_on_p B e i) h1 k
      simp only [if_neg q1] at M1
      have hm := hM.1
      rw [← hT1, tw_ra_s]
      simp only [f_X12_readRope, ↓M1, hmI, hmn, tl_0, tl_1, or_true, true_or, tw_bo_f, ↓MoV0 hm, ↓MoI0_70 hm, ↓MoP0_70 hm, ↓MoZ0_70 hm, ↓MoG0_71 hm, ↓MoG0_72 hm, ↓MoG0_73 hm, ↓MoG0_74 hm, ↓MoG0_75 hm, ↓MoI0_76 hm, ↓MoP0_76 hm, ↓MoZ0_76 hm, ↓MoI0_77 hm, ↓MoP0_77 hm, ↓MoZ0_77 hm, ↓MoG0_78 hm, ↓MoI0_79 hm, ↓MoP0_79 hm, ↓MoZ0_79 hm, ↓MoI0_80 hm, ↓MoP0_80 hm, ↓MoZ0_80 hm, ↓MoI0_81 hm, ↓MoP0_81 hm, ↓MoZ0_81 hm, ↓MoI0_82 hm, ↓MoP0_82 hm, ↓MoZ0_82 hm, ↓MoI0_83 hm, ↓MoP0_83 hm, ↓MoZ0_83 hm, ↓MoI0_84 hm, ↓MoP0_84 hm, ↓MoZ0_84 hm, ↓MoG0_85 hm, ↓MoI0_86 hm, ↓MoP0_86 hm, ↓MoZ0_86 hm, ↓MoG0_87 hm, ↓MoI0_88 hm, ↓MoP0_88 hm, ↓MoZ0_88 hm, ↓MoG0_89 hm, ↓MoG0_90 hm, ↓MoG0_91 hm, ↓MoG0_92 hm, ↓MoL0 hm, ↓MoS0 hm, ↓MoL1 hm, ↓MoS1 hm, ↓MoL2 hm, ↓MoS2 hm, ↓MoL3 hm, ↓MoS3 hm, ↓MoL4 hm, ↓MoS4 hm, ↓MoL5 hm, ↓MoS5 hm, ↓MoL6 hm, ↓MoS6 hm, ↓MoL7 hm, ↓MoS7 hm, ↓MoL8 hm, ↓MoS8 hm, ↓MoL9 hm, ↓MoS9 hm, ↓MoL10 hm, ↓MoS10 hm, ↓MoL11 hm, ↓MoS11 hm, ↓A_if, ↓A_jn, ↓A_lt, ↓A_rz, ↓A_rn, ↓A_nzi, ↓A_nzl, ↓A_nn1, ↓A_nn0, ↓reduceIte, true_and, and_true, if_true, if_false, ite_true, ite_false, reduceIte]
end P99f
