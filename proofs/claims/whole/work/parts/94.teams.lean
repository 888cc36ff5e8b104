/-! ===== pure: pairs put together ===== -/
def tw_ntz (a : Int32) : Int32 :=
  let x1 := (a ^^^ (-1 : Int32)) &&& (a - (1 : Int32))
  if 0 < x1 then
    let s3 : Int32 × Int32 := if (65536 : Int32) < x1 then ((x1.toUInt32 >>> ((16 : Int32).toUInt32 &&& Int32.toUInt32 31)).toInt32, (1 : Int32) + (16 : Int32)) else (x1, (1 : Int32))
    let s5 : Int32 × Int32 := if (256 : Int32) < s3.1 then ((s3.1.toUInt32 >>> ((8 : Int32).toUInt32 &&& Int32.toUInt32 31)).toInt32, s3.2 + (8 : Int32)) else (s3.1, s3.2)
    let s7 : Int32 × Int32 := if (16 : Int32) < s5.1 then ((s5.1.toUInt32 >>> ((4 : Int32).toUInt32 &&& Int32.toUInt32 31)).toInt32, s5.2 + (4 : Int32)) else (s5.1, s5.2)
    if (4 : Int32) < s7.1 then (s7.2 + (2 : Int32)) + (((s7.1.toUInt32 >>> ((2 : Int32).toUInt32 &&& Int32.toUInt32 31)).toInt32).toUInt32 >>> ((1 : Int32).toUInt32 &&& Int32.toUInt32 31)).toInt32 else s7.2 + (s7.1.toUInt32 >>> ((1 : Int32).toUInt32 &&& Int32.toUInt32 31)).toInt32
  else x1 &&& (32 : Int32)
theorem tw_if_j {σ : Type} {c : Prop} [Decidable c] (J : σ → tw_Mem → Prop) (a b : σ) (M : tw_Mem) : tw_if c (J a) (J b) M = J (if c then a else b) M := by
  unfold tw_if
  split <;> rfl
theorem j_ntz (a : Int32) (k : Int32 → tw_Mem → Prop) (M : tw_Mem) : f_J6_numberOfTrailingZeros_0f7a4 a k M = k (tw_ntz a) M := by
  unfold f_J6_numberOfTrailingZeros_0f7a4 tw_ntz
  simp only [A_lt, A_jn]
  generalize (a ^^^ (-1 : Int32)) &&& (a - (1 : Int32)) = x1
  by_cases c0 : 0 < x1
  · rw [if_pos c0, A_if, if_pos c0]
    rw [A_jn]
    refine (tw_if_j (fun (s3 : Int32 × Int32) => _) _ _ M).trans ?_
    generalize (if (65536 : Int32) < x1 then ((x1.toUInt32 >>> ((16 : Int32).toUInt32 &&& Int32.toUInt32 31)).toInt32, (1 : Int32) + (16 : Int32)) else (x1, (1 : Int32))) = s3
    refine (tw_if_j (fun (s5 : Int32 × Int32) => _) _ _ M).trans ?_
    generalize (if (256 : Int32) < s3.1 then ((s3.1.toUInt32 >>> ((8 : Int32).toUInt32 &&& Int32.toUInt32 31)).toInt32, s3.2 + (8 : Int32)) else (s3.1, s3.2)) = s5
    refine (tw_if_j (fun (s7 : Int32 × Int32) => _) _ _ M).trans ?_
    generalize (if (16 : Int32) < s5.1 then ((s5.1.toUInt32 >>> ((4 : Int32).toUInt32 &&& Int32.toUInt32 31)).toInt32, s5.2 + (4 : Int32)) else (s5.1, s5.2)) = s7
    exact tw_if_j k _ _ M
  · rw [if_neg c0, A_if, if_neg c0]
def tw_fb (z : Nat) : Nat → Nat → Nat
  | 0, i => i
  | d + 1, i => if z.testBit i = true then i else tw_fb z d (i + 1)
/-- the first one of a set -/
def tw_fsb (z : Nat) : Nat := tw_fb z 8 0
theorem tw_ntz_e : ∀ z, z < 256 → 0 < z → tw_ntz (nI z) = nI (tw_fsb z) := by decide +kernel
theorem tw_fsb_s (P : Nat) (hP : P < 9) (z : Nat) (hz : z < 2 ^ P) (h0 : 0 < z) : tw_fsb z < P ∧ z.testBit (tw_fsb z) = true ∧ ∀ q, q < 8 → q < tw_fsb z → z.testBit q = false := by
  have g : ∀ z : Fin 256, 0 < z.1 → z.1.testBit (tw_fsb z.1) = true ∧ ∀ q : Fin 8, q.1 < tw_fsb z.1 → z.1.testBit q.1 = false := by decide +kernel
  have g2 : ∀ P : Fin 9, ∀ z : Fin 256, 0 < z.1 → z.1 < 2 ^ P.1 → tw_fsb z.1 < P.1 := by decide +kernel
  have h2 : z < 256 := Nat.lt_of_lt_of_le hz (tw_p256 (by omega))
  exact ⟨g2 ⟨P, hP⟩ ⟨z, h2⟩ h0 hz, (g ⟨z, h2⟩ h0).1, fun q hq => (g ⟨z, h2⟩ h0).2 ⟨q, hq⟩⟩
/-- a set without one -/
def tw_wt (z p : Nat) : Nat := tw_nxx z (2 ^ p)
theorem tw_wt_b (z p o : Nat) (ho : o < 32) : (tw_wt z p).testBit o = (z.testBit o && !decide (p = o)) := by
  unfold tw_wt
  rw [tw_nxx_b _ _ _ ho, Nat.testBit_two_pow]
theorem tw_wt_le (z p : Nat) : tw_wt z p ≤ z := Nat.and_le_left
theorem tw_wt_lt {z p : Nat} (hp : p < 32) (h : z.testBit p = true) : tw_wt z p < z := by
  have h1 := tw_wt_le z p
  have h2 : tw_wt z p ≠ z := fun e => by
    have := tw_wt_b z p p hp
    rw [e, h] at this
    simp at this
  omega
theorem tw_wt_n {z p : Nat} (hp : p < 32) (hz : z < 256) (h : z.testBit p = false) : tw_wt z p = z := by
  refine tw_beq (P := 8) (Nat.lt_of_le_of_lt (tw_wt_le z p) hz) hz (fun q hq => ?_)
  rw [tw_wt_b z p q (by omega), Bool.and_eq_true]
  constructor
  · exact fun g => g.1
  · intro g
    refine ⟨g, ?_⟩
    cases e : decide (p = q)
    · rfl
    · rw [of_decide_eq_true e] at h
      rw [h] at g
      cases g
/-- the most that those of a set are worth together, by the lesser sets -/
def tw_tm (f : Nat → Nat) (Wt : Nat → Nat → Nat) (P z : Nat) : Nat := tw_it (fun o y => if z.testBit o = true ∧ tw_fsb z < o then (if y < Wt (tw_fsb z) o + f (tw_wt (tw_wt z (tw_fsb z)) o) then Wt (tw_fsb z) o + f (tw_wt (tw_wt z (tw_fsb z)) o) else y) else y) P (f (tw_wt z (tw_fsb z)))
def tw_tb2 (Wt : Nat → Nat → Nat) (P : Nat) : Nat → Nat → Nat
  | 0 => fun _ => 0
  | i + 1 => fun z => if z = i then (if i = 0 then 0 else tw_tm (tw_tb2 Wt P i) Wt P i) else tw_tb2 Wt P i z
theorem tw_tb2_st (Wt : Nat → Nat → Nat) (P : Nat) {z i : Nat} (h : z < i) : ∀ d, tw_tb2 Wt P (i + d) z = tw_tb2 Wt P i z
  | 0 => rfl
  | d + 1 => by
    show (if z = i + d then _ else tw_tb2 Wt P (i + d) z) = _
    rw [if_neg (by omega)]
    exact tw_tb2_st Wt P h d
/-- the value of a choice for the first one of a set -/
def tw_vl (f : Nat → Nat) (Wt : Nat → Nat → Nat) (z j : Nat) : Int32 := if j = 0 then nI (f (tw_wt z (tw_fsb z))) else if z.testBit (j - 1) = true ∧ tw_fsb z < j - 1 then nI (Wt (tw_fsb z) (j - 1) + f (tw_wt (tw_wt z (tw_fsb z)) (j - 1))) else mI
theorem tw_tm_b {f : Nat → Nat} {Wt : Nat → Nat → Nat} {P z : Nat} (hz : z < 256) (hz0 : 0 < z) (hf : ∀ y, y < z → f y ≤ 60 * y) (hW : ∀ p o, Wt p o ≤ 60) : ∀ i, tw_it (fun o y => if z.testBit o = true ∧ tw_fsb z < o then (if y < Wt (tw_fsb z) o + f (tw_wt (tw_wt z (tw_fsb z)) o) then Wt (tw_fsb z) o + f (tw_wt (tw_wt z (tw_fsb z)) o) else y) else y) i (f (tw_wt z (tw_fsb z))) ≤ 60 * z ∧ (∃ j, j ≤ i ∧ tw_vl f Wt z j = nI (tw_it (fun o y => if z.testBit o = true ∧ tw_fsb z < o then (if y < Wt (tw_fsb z) o + f (tw_wt (tw_wt z (tw_fsb z)) o) then Wt (tw_fsb z) o + f (tw_wt (tw_wt z (tw_fsb z)) o) else y) else y) i (f (tw_wt z (tw_fsb z)))))
  | 0 => by
    obtain ⟨s1, s2, s3⟩ := tw_fsb_s 8 (by omega) z hz hz0
    have hl := tw_wt_lt (p := tw_fsb z) (by omega) s2
    have h1 := hf _ hl
    refine ⟨?_, 0, Nat.le_refl 0, if_pos rfl⟩
    show f (tw_wt z (tw_fsb z)) ≤ 60 * z
    omega
  | i + 1 => by
    obtain ⟨s1, s2, s3⟩ := tw_fsb_s 8 (by omega) z hz hz0
    have hl := tw_wt_lt (p := tw_fsb z) (by omega) s2
    obtain ⟨ih1, j, hj, ih2⟩ := tw_tm_b (P := P) hz hz0 hf hW i
    rw [tw_it_s]
    generalize tw_it (fun o y => if z.testBit o = true ∧ tw_fsb z < o then (if y < Wt (tw_fsb z) o + f (tw_wt (tw_wt z (tw_fsb z)) o) then Wt (tw_fsb z) o + f (tw_wt (tw_wt z (tw_fsb z)) o) else y) else y) i (f (tw_wt z (tw_fsb z))) = y at *
    by_cases q : z.testBit i = true ∧ tw_fsb z < i
    · have hl2 := tw_wt_le (tw_wt z (tw_fsb z)) i
      have h2 := hf (tw_wt (tw_wt z (tw_fsb z)) i) (by omega)
      have h3 := hW (tw_fsb z) i
      rw [if_pos q]
      by_cases q2 : y < Wt (tw_fsb z) i + f (tw_wt (tw_wt z (tw_fsb z)) i)
      · rw [if_pos q2]
        refine ⟨by omega, i + 1, Nat.le_refl _, ?_⟩
        unfold tw_vl
        rw [if_neg (by omega), Nat.add_sub_cancel, if_pos q]
      · rw [if_neg q2]
        exact ⟨ih1, j, by omega, ih2⟩
    · rw [if_neg q]
      exact ⟨ih1, j, by omega, ih2⟩
theorem tw_tb2_l {Wt : Nat → Nat → Nat} {P : Nat} (hW : ∀ p o, Wt p o ≤ 60) : ∀ i, i ≤ 256 → ∀ z, tw_tb2 Wt P i z ≤ 60 * z
  | 0, _, z => Nat.zero_le _
  | i + 1, hi, z => by
    have ih := tw_tb2_l (P := P) hW i (by omega)
    show (if z = i then (if i = 0 then 0 else tw_tm (tw_tb2 Wt P i) Wt P i) else tw_tb2 Wt P i z) ≤ 60 * z
    split
    · split
      · omega
      · have := (tw_tm_b (P := P) (f := tw_tb2 Wt P i) (Wt := Wt) (z := i) (by omega) (by omega) (fun y _ => ih y) hW P).1
        show tw_tm (tw_tb2 Wt P i) Wt P i ≤ 60 * z
        unfold tw_tm
        omega
    · exact ih z
/-- the least mate by which the most are had: -1, or one -/
def tw_lm (f : Nat → Nat) (Wt : Nat → Nat → Nat) (P z : Nat) : Nat := tw_fd (fun j => tw_vl f Wt z j = nI (f z)) (fun j => j) 0 (P + 1) 0
theorem tw_fd_w {c : Nat → Prop} [DecidablePred c] : ∀ k i, (∃ j, i ≤ j ∧ j < i + k ∧ c j) → c (tw_fd c (fun j => j) 0 k i) ∧ i ≤ tw_fd c (fun j => j) 0 k i ∧ tw_fd c (fun j => j) 0 k i < i + k ∧ ∀ j, i ≤ j → j < tw_fd c (fun j => j) 0 k i → ¬ c j
  | 0, i, h => by
    obtain ⟨j, a, b, _⟩ := h
    omega
  | k + 1, i, h => by
    unfold tw_fd
    by_cases q : c i
    · rw [if_pos q]
      exact ⟨q, Nat.le_refl i, by omega, fun j a b => by omega⟩
    · rw [if_neg q]
      obtain ⟨j, a, b, hc⟩ := h
      have hj : j ≠ i := fun e => q (by rw [← e]; exact hc)
      obtain ⟨c1, c2, c3, c4⟩ := tw_fd_w k (i + 1) ⟨j, by omega, by omega, hc⟩
      refine ⟨c1, by omega, by omega, fun j a b => ?_⟩
      by_cases e : j = i
      · subst e; exact q
      · exact c4 j (by omega) b
/-- what is known of the table: M of a set is the best choice's value -/
def tw_MM (M : Nat → Nat) (Wt : Nat → Nat → Nat) (P : Nat) : Prop := (∀ z, M z ≤ 60 * z) ∧ (∀ p o, Wt p o ≤ 60) ∧ M 0 = 0 ∧ ∀ z, z < 2 ^ P → 0 < z → M z = tw_tm M Wt P z
theorem tw_tm_congr {f g : Nat → Nat} {Wt : Nat → Nat → Nat} {P z : Nat} (hz : z < 256) (hz0 : 0 < z) (h : ∀ y, y < z → f y = g y) : tw_tm f Wt P z = tw_tm g Wt P z := by
  obtain ⟨s1, s2, s3⟩ := tw_fsb_s 8 (by omega) z hz hz0
  have hl := tw_wt_lt (p := tw_fsb z) (by omega) s2
  unfold tw_tm
  rw [h _ hl]
  refine tw_it_congr P _ (fun o ho y => ?_)
  have hl2 := tw_wt_le (tw_wt z (tw_fsb z)) o
  rw [h (tw_wt (tw_wt z (tw_fsb z)) o) (by omega)]
theorem tw_tb2_M {Wt : Nat → Nat → Nat} {P : Nat} (h8 : P ≤ 8) (hW : ∀ p o, Wt p o ≤ 60) : tw_MM (tw_tb2 Wt P (2 ^ P)) Wt P := by
  have h2 := tw_p256 h8
  have hpp := Nat.two_pow_pos P
  have hs : ∀ z, z < 2 ^ P → tw_tb2 Wt P (2 ^ P) z = tw_tb2 Wt P (z + 1) z := fun z hz => by
    have := tw_tb2_st Wt P (z := z) (i := z + 1) (by omega) (2 ^ P - (z + 1))
    have e : z + 1 + (2 ^ P - (z + 1)) = 2 ^ P := by omega
    rw [e] at this
    exact this
  refine ⟨fun z => tw_tb2_l hW _ h2 z, hW, ?_, fun z hz hz0 => ?_⟩
  · rw [hs 0 hpp]
    rfl
  · rw [hs z hz]
    show (if z = z then (if z = 0 then 0 else tw_tm (tw_tb2 Wt P z) Wt P z) else tw_tb2 Wt P z z) = _
    rw [if_pos rfl, if_neg (by omega)]
    refine tw_tm_congr (by omega) hz0 (fun y hy => ?_)
    rw [hs y (by omega)]
    have := tw_tb2_st Wt P (z := y) (i := y + 1) (by omega) (z - (y + 1))
    have e : y + 1 + (z - (y + 1)) = z := by omega
    rw [e] at this
    exact this
theorem tw_lm_s {M : Nat → Nat} {Wt : Nat → Nat → Nat} {P z : Nat} (h8 : P ≤ 8) (H : tw_MM M Wt P) (hz : z < 2 ^ P) (hz0 : 0 < z) : tw_vl M Wt z (tw_lm M Wt P z) = nI (M z) ∧ tw_lm M Wt P z < P + 1 ∧ (∀ j, j < tw_lm M Wt P z → ¬ tw_vl M Wt z j = nI (M z)) ∧ (tw_lm M Wt P z ≠ 0 → z.testBit (tw_lm M Wt P z - 1) = true ∧ tw_fsb z < tw_lm M Wt P z - 1) := by
  have h2 := tw_p256 h8
  obtain ⟨m1, m2, m3, m4⟩ := H
  have hb := tw_tm_b (P := P) (f := M) (Wt := Wt) (z := z) (by omega) hz0 (fun y _ => m1 y) m2 P
  obtain ⟨j, hj, ej⟩ := hb.2
  have em : M z = tw_it (fun o y => if z.testBit o = true ∧ tw_fsb z < o then (if y < Wt (tw_fsb z) o + M (tw_wt (tw_wt z (tw_fsb z)) o) then Wt (tw_fsb z) o + M (tw_wt (tw_wt z (tw_fsb z)) o) else y) else y) P (M (tw_wt z (tw_fsb z))) := m4 z hz hz0
  rw [← em] at ej
  obtain ⟨c1, c2, c3, c4⟩ := tw_fd_w (c := fun j => tw_vl M Wt z j = nI (M z)) (P + 1) 0 ⟨j, by omega, by omega, ej⟩
  refine ⟨c1, by unfold tw_lm; omega, fun j hj => c4 j (by omega) hj, fun hne => ?_⟩
  have c1 : tw_vl M Wt z (tw_lm M Wt P z) = nI (M z) := c1
  generalize tw_lm M Wt P z = l at *
  have hM := m1 z
  unfold tw_vl at c1
  rw [if_neg hne] at c1
  by_cases q : z.testBit (l - 1) = true ∧ tw_fsb z < l - 1
  · exact q
  · rw [if_neg q, mI_eq' (by omega)] at c1
    exact c1.elim
/-- the mate of q, as persons are put together from i on -/
def tw_mtt (M : Nat → Nat) (Wt : Nat → Nat → Nat) (P : Nat) : Nat → Nat → Nat → Nat → Int32
  | 0, _, _, _ => mI
  | d + 1, i, z, q => if z.testBit i = true then (if q = i then nI (tw_lm M Wt P z) - nI 1 else if q + 1 = tw_lm M Wt P z then nI i else tw_mtt M Wt P d (i + 1) (if tw_lm M Wt P z = 0 then tw_wt z i else tw_wt (tw_wt z i) (tw_lm M Wt P z - 1)) q) else tw_mtt M Wt P d (i + 1) z q
theorem tw_it_id {α : Type} {f : Nat → α → α} : ∀ (n : Nat) (x : α), (∀ i, i < n → ∀ y, f i y = y) → tw_it f n x = x
  | 0, _, _ => rfl
  | n + 1, x, h => by rw [tw_it_s, h n (by omega), tw_it_id n x (fun i hi => h i (by omega))]
section P94
variable {sh : tw_Sh} {μ ν ν2 : Nat → Nat → Int32} {la : Nat → Nat → Int64} {n a b w m lw P N L a0 e : Nat} {p o l h i z c x y q kd t r s : Nat} {T T' : Nat → Int32} {v u rg tn : Int32} {j : Unit → tw_Mem → Prop} {G : tw_Gm} {f M : Nat → Nat} {Wt : Nat → Nat → Nat}
theorem c_without (hp : p < 8) (k : Int32 → tw_Mem → Prop) (M : tw_Mem) : f_X5_without (nI z) (nI p) k M = k (nI (tw_wt z p)) M := by
  have e1 := tw_shN hp
  have e2 := tw_nxx_e z (2 ^ p)
  simp (disch := omega) only [f_X5_without, e1, e2, tw_wt, ↓A_if, ↓A_jn, ↓A_lt, ↓A_rz, ↓A_rn, ↓A_nzi, ↓A_nzl, ↓A_nn1, ↓A_nn0, ↓reduceIte, true_and, and_true, if_true, if_false, ite_true, ite_false, reduceIte, tl_0, tl_1, tl_2, tl_3, tl_4, tl_5, tl_6, tl_7, tl_8, tl_9, tl_10, tl_11, tl_12, tl_13, tl_14, tl_15, tl_16, tl_17, tl_18, tl_19, tl_20, tl_21, tl_22, tl_23, tl_24, tl_25, tl_26, tl_27, tl_28, tl_29, tl_30, tl_31, tl_32, tl_33, tl_34, tl_35, tl_36, tl_37, tl_38, tl_39, tl_40, tl_41, tl_42, tl_43, tl_44, tl_45, tl_46, tl_47, tl_48, tl_49, tl_50, tl_51, tl_52, tl_53, tl_54, tl_57, tl_59, tl_60, tl_62, tl_63, tl_64, tl_97, tl_99, tl_100, tl_120, tl_122, tl_192, tl_193, tl_194, tl_195, tl_196, tl_255, tl_256, tl_299, tl_400, tl_401, tl_492, tl_493, tl_541, tl_849, tl_999, tl_1000, tl_1341, tl_1342, tl_1390, tl_2190, tl_5412, tl_5904, tl_9999, tl_12345, tl_32767, tl_65536, tl_1000000, tl_252645135, tl_858993459, tl_1103515245, tl_1431655765, nz_31, nz_c31, eq_self, or_true, true_or, or_false, false_or, Nat.add_zero, nz_lt, nz_le, nz_eq, nz_cl, nz_sub, nI_add, pk_mul, nt_lt, nf_lt, nf_eq, nz_mI, mI_eq, mI_eq', mI_lt, mI_gt, mI_add, ↓j_max, ↓j_min, Nat.sub_sub, Nat.reduceAdd, Nat.reduceSub, Nat.reduceLT, Nat.reduceEqDiff, Bool.false_eq_true]
theorem c_mostIn (hS : tw_Se sh s) (hz : z < 256) (k : Int32 → tw_Mem → Prop) : f_X5_mostIn s (nI z) k (sh, μ, la, n) = k (μ (s + 3) z) (sh, μ, la, n) := by
  have hal := fun k => tw_al_ar (μ := μ) (la := la) (N := n) hS.2.2.2.1 (by decide) k
  simp (disch := omega) only [f_X5_mostIn, ↓hal, ↓SeV0 hS, ↓SeG0_32 hS, ↓SeG0_33 hS, ↓SeG0_34 hS, ↓SeG0_35 hS, ↓SeI0_36 hS, ↓SeP0_36 hS, ↓SeZ0_36 hS, ↓SeL0 hS, ↓SeS0 hS, ↓SeL1 hS, ↓SeS1 hS, ↓SeL2 hS, ↓SeS2 hS, ↓SeL3 hS, ↓SeS3 hS, ↓A_if, ↓A_jn, ↓A_lt, ↓A_rz, ↓A_rn, ↓A_nzi, ↓A_nzl, ↓A_nn1, ↓A_nn0, ↓reduceIte, true_and, and_true, if_true, if_false, ite_true, ite_false, reduceIte, tl_0, tl_1, tl_2, tl_3, tl_4, tl_5, tl_6, tl_7, tl_8, tl_9, tl_10, tl_11, tl_12, tl_13, tl_14, tl_15, tl_16, tl_17, tl_18, tl_19, tl_20, tl_21, tl_22, tl_23, tl_24, tl_25, tl_26, tl_27, tl_28, tl_29, tl_30, tl_31, tl_32, tl_33, tl_34, tl_35, tl_36, tl_37, tl_38, tl_39, tl_40, tl_41, tl_42, tl_43, tl_44, tl_45, tl_46, tl_47, tl_48, tl_49, tl_50, tl_51, tl_52, tl_53, tl_54, tl_57, tl_59, tl_60, tl_62, tl_63, tl_64, tl_97, tl_99, tl_100, tl_120, tl_122, tl_192, tl_193, tl_194, tl_195, tl_196, tl_255, tl_256, tl_299, tl_400, tl_401, tl_492, tl_493, tl_541, tl_849, tl_999, tl_1000, tl_1341, tl_1342, tl_1390, tl_2190, tl_5412, tl_5904, tl_9999, tl_12345, tl_32767, tl_65536, tl_1000000, tl_252645135, tl_858993459, tl_1103515245, tl_1431655765, nz_31, nz_c31, eq_self, or_true, true_or, or_false, false_or, Nat.add_zero, nz_lt, nz_le, nz_eq, nz_cl, nz_sub, nI_add, pk_mul, nt_lt, nf_lt, nf_eq, nz_mI, mI_eq, mI_eq', mI_lt, mI_gt, mI_add, ↓j_max, ↓j_min, Nat.sub_sub, Nat.reduceAdd, Nat.reduceSub, Nat.reduceLT, Nat.reduceEqDiff, Bool.false_eq_true]
theorem c_mostWith (hS : tw_Se sh s) (hp : p < 8) (ho : o < 8) (hz : z < 256) (k : Int32 → tw_Mem → Prop) : f_X5_mostWith s (nI z) (nI p) (nI o) k (sh, μ, la, n) = if z.testBit o = true then k (μ (s + 2) (8 * p + o) + μ (s + 3) (tw_wt (tw_wt z p) o)) (sh, μ, la, n) else k mI (sh, μ, la, n) := by
  have eb := tw_isbN (x := z) (p := o) (by omega) (by omega)
  have l1 := tw_wt_le z p
  have l2 := tw_wt_le (tw_wt z p) o
  have E1 := fun k => c_mostIn (μ := μ) (la := la) (n := n) (z := tw_wt (tw_wt z p) o) hS (by omega) k
  by_cases q : z.testBit o = true <;> simp (disch := omega) only [f_X5_mostWith, f_X8_cell, ↓c_isb, eb, q, ↓c_without, ↓E1, ↓SeV0 hS, ↓SeG0_32 hS, ↓SeG0_33 hS, ↓SeG0_34 hS, ↓SeG0_35 hS, ↓SeI0_36 hS, ↓SeP0_36 hS, ↓SeZ0_36 hS, ↓SeL0 hS, ↓SeS0 hS, ↓SeL1 hS, ↓SeS1 hS, ↓SeL2 hS, ↓SeS2 hS, ↓SeL3 hS, ↓SeS3 hS, ↓A_if, ↓A_jn, ↓A_lt, ↓A_rz, ↓A_rn, ↓A_nzi, ↓A_nzl, ↓A_nn1, ↓A_nn0, ↓reduceIte, true_and, and_true, if_true, if_false, ite_true, ite_false, reduceIte, tl_0, tl_1, tl_2, tl_3, tl_4, tl_5, tl_6, tl_7, tl_8, tl_9, tl_10, tl_11, tl_12, tl_13, tl_14, tl_15, tl_16, tl_17, tl_18, tl_19, tl_20, tl_21, tl_22, tl_23, tl_24, tl_25, tl_26, tl_27, tl_28, tl_29, tl_30, tl_31, tl_32, tl_33, tl_34, tl_35, tl_36, tl_37, tl_38, tl_39, tl_40, tl_41, tl_42, tl_43, tl_44, tl_45, tl_46, tl_47, tl_48, tl_49, tl_50, tl_51, tl_52, tl_53, tl_54, tl_57, tl_59, tl_60, tl_62, tl_63, tl_64, tl_97, tl_99, tl_100, tl_120, tl_122, tl_192, tl_193, tl_194, tl_195, tl_196, tl_255, tl_256, tl_299, tl_400, tl_401, tl_492, tl_493, tl_541, tl_849, tl_999, tl_1000, tl_1341, tl_1342, tl_1390, tl_2190, tl_5412, tl_5904, tl_9999, tl_12345, tl_32767, tl_65536, tl_1000000, tl_252645135, tl_858993459, tl_1103515245, tl_1431655765, nz_31, nz_c31, eq_self, or_true, true_or, or_false, false_or, Nat.add_zero, nz_lt, nz_le, nz_eq, nz_cl, nz_sub, nI_add, pk_mul, nt_lt, nf_lt, nf_eq, nz_mI, mI_eq, mI_eq', mI_lt, mI_gt, mI_add, ↓j_max, ↓j_min, Nat.sub_sub, Nat.reduceAdd, Nat.reduceSub, Nat.reduceLT, Nat.reduceEqDiff, Bool.false_eq_true]
theorem c_mostOf (hS : tw_Se sh s) (e36 : μ s 36 = nI P) (h8 : P ≤ 8) (hz : z < 2 ^ P) (hf : ∀ y, y < z → μ (s + 3) y = nI (f y)) (hw : ∀ p o, p < o → o < P → μ (s + 2) (8 * p + o) = nI (Wt p o)) (fb : ∀ y, y < z → f y ≤ 60 * y) (hW : ∀ p o, Wt p o ≤ 60) (k : Int32 → tw_Mem → Prop) : f_X5_mostOf s (nI z) k (sh, μ, la, n) = k (nI (if z = 0 then 0 else tw_tm f Wt P z)) (sh, μ, la, n) := by
  have h2 := tw_p256 h8
  unfold f_X5_mostOf
  by_cases qz : z = 0
  · subst qz
    refine tw_lp_for P (fun i => nI i) (fun _ => (sh, μ, la, n)) rfl rfl ?_ ?_
    · intro i hi rec
      have eb := tw_isbN (x := 0) (p := i) (by omega) (by omega)
      rw [Nat.zero_testBit] at eb
      simp (disch := omega) only [e36, ↓c_isb, eb, ↓SeV0 hS, ↓SeG0_32 hS, ↓SeG0_33 hS, ↓SeG0_34 hS, ↓SeG0_35 hS, ↓SeI0_36 hS, ↓SeP0_36 hS, ↓SeZ0_36 hS, ↓SeL0 hS, ↓SeS0 hS, ↓SeL1 hS, ↓SeS1 hS, ↓SeL2 hS, ↓SeS2 hS, ↓SeL3 hS, ↓SeS3 hS, ↓A_if, ↓A_jn, ↓A_lt, ↓A_rz, ↓A_rn, ↓A_nzi, ↓A_nzl, ↓A_nn1, ↓A_nn0, ↓reduceIte, true_and, and_true, if_true, if_false, ite_true, ite_false, reduceIte, tl_0, tl_1, tl_2, tl_3, tl_4, tl_5, tl_6, tl_7, tl_8, tl_9, tl_10, tl_11, tl_12, tl_13, tl_14, tl_15, tl_16, tl_17, tl_18, tl_19, tl_20, tl_21, tl_22, tl_23, tl_24, tl_25, tl_26, tl_27, tl_28, tl_29, tl_30, tl_31, tl_32, tl_33, tl_34, tl_35, tl_36, tl_37, tl_38, tl_39, tl_40, tl_41, tl_42, tl_43, tl_44, tl_45, tl_46, tl_47, tl_48, tl_49, tl_50, tl_51, tl_52, tl_53, tl_54, tl_57, tl_59, tl_60, tl_62, tl_63, tl_64, tl_97, tl_99, tl_100, tl_120, tl_122, tl_192, tl_193, tl_194, tl_195, tl_196, tl_255, tl_256, tl_299, tl_400, tl_401, tl_492, tl_493, tl_541, tl_849, tl_999, tl_1000, tl_1341, tl_1342, tl_1390, tl_2190, tl_5412, tl_5904, tl_9999, tl_12345, tl_32767, tl_65536, tl_1000000, tl_252645135, tl_858993459, tl_1103515245, tl_1431655765, nz_31, nz_c31, eq_self, or_true, true_or, or_false, false_or, Nat.add_zero, nz_lt, nz_le, nz_eq, nz_cl, nz_sub, nI_add, pk_mul, nt_lt, nf_lt, nf_eq, nz_mI, mI_eq, mI_eq', mI_lt, mI_gt, mI_add, ↓j_max, ↓j_min, Nat.sub_sub, Nat.reduceAdd, Nat.reduceSub, Nat.reduceLT, Nat.reduceEqDiff, Bool.false_eq_true]
    · intro rec
      simp (disch := omega) only [e36, ↓SeV0 hS, ↓SeG0_32 hS, ↓SeG0_33 hS, ↓SeG0_34 hS, ↓SeG0_35 hS, ↓SeI0_36 hS, ↓SeP0_36 hS, ↓SeZ0_36 hS, ↓SeL0 hS, ↓SeS0 hS, ↓SeL1 hS, ↓SeS1 hS, ↓SeL2 hS, ↓SeS2 hS, ↓SeL3 hS, ↓SeS3 hS, ↓A_if, ↓A_jn, ↓A_lt, ↓A_rz, ↓A_rn, ↓A_nzi, ↓A_nzl, ↓A_nn1, ↓A_nn0, ↓reduceIte, true_and, and_true, if_true, if_false, ite_true, ite_false, reduceIte, tl_0, tl_1, tl_2, tl_3, tl_4, tl_5, tl_6, tl_7, tl_8, tl_9, tl_10, tl_11, tl_12, tl_13, tl_14, tl_15, tl_16, tl_17, tl_18, tl_19, tl_20, tl_21, tl_22, tl_23, tl_24, tl_25, tl_26, tl_27, tl_28, tl_29, tl_30, tl_31, tl_32, tl_33, tl_34, tl_35, tl_36, tl_37, tl_38, tl_39, tl_40, tl_41, tl_42, tl_43, tl_44, tl_45, tl_46, tl_47, tl_48, tl_49, tl_50, tl_51, tl_52, tl_53, tl_54, tl_57, tl_59, tl_60, tl_62, tl_63, tl_64, tl_97, tl_99, tl_100, tl_120, tl_122, tl_192, tl_193, tl_194, tl_195, tl_196, tl_255, tl_256, tl_299, tl_400, tl_401, tl_492, tl_493, tl_541, tl_849, tl_999, tl_1000, tl_1341, tl_1342, tl_1390, tl_2190, tl_5412, tl_5904, tl_9999, tl_12345, tl_32767, tl_65536, tl_1000000, tl_252645135, tl_858993459, tl_1103515245, tl_1431655765, nz_31, nz_c31, eq_self, or_true, true_or, or_false, false_or, Nat.add_zero, nz_lt, nz_le, nz_eq, nz_cl, nz_sub, nI_add, pk_mul, nt_lt, nf_lt, nf_eq, nz_mI, mI_eq, mI_eq', mI_lt, mI_gt, mI_add, ↓j_max, ↓j_min, Nat.sub_sub, Nat.reduceAdd, Nat.reduceSub, Nat.reduceLT, Nat.reduceEqDiff, Bool.false_eq_true]
  · obtain ⟨s1, s2, s3⟩ := tw_fsb_s P (by omega) z hz (by omega)
    have hb := tw_tm_b (P := P) (f := f) (Wt := Wt) (z := z) (by omega) (by omega) fb hW
    have hl := tw_wt_lt (p := tw_fsb z) (by omega) s2
    rw [if_neg qz]
    unfold tw_tm
    have hF : ∀ i, i < tw_fsb z + 1 → ∀ y : Nat, (if z.testBit i = true ∧ tw_fsb z < i then (if y < Wt (tw_fsb z) i + f (tw_wt (tw_wt z (tw_fsb z)) i) then Wt (tw_fsb z) i + f (tw_wt (tw_wt z (tw_fsb z)) i) else y) else y) = y := fun i hi y => if_neg (by omega)
    have hid := tw_it_id (f := fun o y => if z.testBit o = true ∧ tw_fsb z < o then (if y < Wt (tw_fsb z) o + f (tw_wt (tw_wt z (tw_fsb z)) o) then Wt (tw_fsb z) o + f (tw_wt (tw_wt z (tw_fsb z)) o) else y) else y) (tw_fsb z + 1) (f (tw_wt z (tw_fsb z))) hF
    refine tw_lp_for (tw_fsb z) (fun i => nI i) (fun _ => (sh, μ, la, n)) rfl rfl ?_ ?_
    · intro i hi rec
      have eb := tw_isbN (x := z) (p := i) (by omega) (by omega)
      rw [s3 i (by omega) hi] at eb
      simp (disch := omega) only [e36, ↓c_isb, eb, ↓SeV0 hS, ↓SeG0_32 hS, ↓SeG0_33 hS, ↓SeG0_34 hS, ↓SeG0_35 hS, ↓SeI0_36 hS, ↓SeP0_36 hS, ↓SeZ0_36 hS, ↓SeL0 hS, ↓SeS0 hS, ↓SeL1 hS, ↓SeS1 hS, ↓SeL2 hS, ↓SeS2 hS, ↓SeL3 hS, ↓SeS3 hS, ↓A_if, ↓A_jn, ↓A_lt, ↓A_rz, ↓A_rn, ↓A_nzi, ↓A_nzl, ↓A_nn1, ↓A_nn0, ↓reduceIte, true_and, and_true, if_true, if_false, ite_true, ite_false, reduceIte, tl_0, tl_1, tl_2, tl_3, tl_4, tl_5, tl_6, tl_7, tl_8, tl_9, tl_10, tl_11, tl_12, tl_13, tl_14, tl_15, tl_16, tl_17, tl_18, tl_19, tl_20, tl_21, tl_22, tl_23, tl_24, tl_25, tl_26, tl_27, tl_28, tl_29, tl_30, tl_31, tl_32, tl_33, tl_34, tl_35, tl_36, tl_37, tl_38, tl_39, tl_40, tl_41, tl_42, tl_43, tl_44, tl_45, tl_46, tl_47, tl_48, tl_49, tl_50, tl_51, tl_52, tl_53, tl_54, tl_57, tl_59, tl_60, tl_62, tl_63, tl_64, tl_97, tl_99, tl_100, tl_120, tl_122, tl_192, tl_193, tl_194, tl_195, tl_196, tl_255, tl_256, tl_299, tl_400, tl_401, tl_492, tl_493, tl_541, tl_849, tl_999, tl_1000, tl_1341, tl_1342, tl_1390, tl_2190, tl_5412, tl_5904, tl_9999, tl_12345, tl_32767, tl_65536, tl_1000000, tl_252645135, tl_858993459, tl_1103515245, tl_1431655765, nz_31, nz_c31, eq_self, or_true, true_or, or_false, false_or, Nat.add_zero, nz_lt, nz_le, nz_eq, nz_cl, nz_sub, nI_add, pk_mul, nt_lt, nf_lt, nf_eq, nz_mI, mI_eq, mI_eq', mI_lt, mI_gt, mI_add, ↓j_max, ↓j_min, Nat.sub_sub, Nat.reduceAdd, Nat.reduceSub, Nat.reduceLT, Nat.reduceEqDiff, Bool.false_eq_true]
    · intro rec
      generalize hp : tw_fsb z = p at *
      have eb := tw_isbN (x := z) (p := p) (by omega) (by omega)
      have E1 := fun k => c_mostIn (μ := μ) (la := la) (n := n) (z := tw_wt z p) hS (by omega) k
      rw [hf _ hl] at E1
      simp (disch := omega) only [e36, ↓c_isb, eb, s2, ↓c_without, ↓E1, ↓SeV0 hS, ↓SeG0_32 hS, ↓SeG0_33 hS, ↓SeG0_34 hS, ↓SeG0_35 hS, ↓SeI0_36 hS, ↓SeP0_36 hS, ↓SeZ0_36 hS, ↓SeL0 hS, ↓SeS0 hS, ↓SeL1 hS, ↓SeS1 hS, ↓SeL2 hS, ↓SeS2 hS, ↓SeL3 hS, ↓SeS3 hS, ↓A_if, ↓A_jn, ↓A_lt, ↓A_rz, ↓A_rn, ↓A_nzi, ↓A_nzl, ↓A_nn1, ↓A_nn0, ↓reduceIte, true_and, and_true, if_true, if_false, ite_true, ite_false, reduceIte, tl_0, tl_1, tl_2, tl_3, tl_4, tl_5, tl_6, tl_7, tl_8, tl_9, tl_10, tl_11, tl_12, tl_13, tl_14, tl_15, tl_16, tl_17, tl_18, tl_19, tl_20, tl_21, tl_22, tl_23, tl_24, tl_25, tl_26, tl_27, tl_28, tl_29, tl_30, tl_31, tl_32, tl_33, tl_34, tl_35, tl_36, tl_37, tl_38, tl_39, tl_40, tl_41, tl_42, tl_43, tl_44, tl_45, tl_46, tl_47, tl_48, tl_49, tl_50, tl_51, tl_52, tl_53, tl_54, tl_57, tl_59, tl_60, tl_62, tl_63, tl_64, tl_97, tl_99, tl_100, tl_120, tl_122, tl_192, tl_193, tl_194, tl_195, tl_196, tl_255, tl_256, tl_299, tl_400, tl_401, tl_492, tl_493, tl_541, tl_849, tl_999, tl_1000, tl_1341, tl_1342, tl_1390, tl_2190, tl_5412, tl_5904, tl_9999, tl_12345, tl_32767, tl_65536, tl_1000000, tl_252645135, tl_858993459, tl_1103515245, tl_1431655765, nz_31, nz_c31, eq_self, or_true, true_or, or_false, false_or, Nat.add_zero, nz_lt, nz_le, nz_eq, nz_cl, nz_sub, nI_add, pk_mul, nt_lt, nf_lt, nf_eq, nz_mI, mI_eq, mI_eq', mI_lt, mI_gt, mI_add, ↓j_max, ↓j_min, Nat.sub_sub, Nat.reduceAdd, Nat.reduceSub, Nat.reduceLT, Nat.reduceEqDiff, Bool.false_eq_true]
      refine tw_lp_for (P - (p + 1)) (fun d => (nI (tw_it (fun o y => if z.testBit o = true ∧ p < o then (if y < Wt p o + f (tw_wt (tw_wt z p) o) then Wt p o + f (tw_wt (tw_wt z p) o) else y) else y) (p + 1 + d) (f (tw_wt z p))), nI (p + 1 + d))) (fun _ => (sh, μ, la, n)) ?_ rfl ?_ ?_
      · show (nI (tw_it _ (p + 1) (f (tw_wt z p))), nI (p + 1)) = _
        rw [hid]
      · intro d hd rec2
        have ed : p + 1 + (d + 1) = p + 1 + d + 1 := rfl
        have hbb := (hb (p + 1 + d)).1
        rw [ed, tw_it_s]
        generalize tw_it (fun o y => if z.testBit o = true ∧ p < o then (if y < Wt p o + f (tw_wt (tw_wt z p) o) then Wt p o + f (tw_wt (tw_wt z p) o) else y) else y) (p + 1 + d) (f (tw_wt z p)) = y at *
        obtain ⟨o, ho⟩ : ∃ o, o = p + 1 + d := ⟨_, rfl⟩
        rw [← ho]
        have l1 := tw_wt_le (tw_wt z p) o
        have E2 := fun k => c_mostWith (μ := μ) (la := la) (n := n) (p := p) (o := o) (z := z) hS (by omega) (by omega) (by omega) k
        rw [hw p o (by omega) (by omega), hf (tw_wt (tw_wt z p) o) (by omega)] at E2
        have hW1 := hW p o
        have fb1 := fb (tw_wt (tw_wt z p) o) (by omega)
        have hpo : p < o := by omega
        by_cases q : z.testBit o = true
        · by_cases q2 : y < Wt p o + f (tw_wt (tw_wt z p) o) <;> simp (disch := omega) only [e36, ↓E2, q, q2, hpo, and_self, ↓SeV0 hS, ↓SeG0_32 hS, ↓SeG0_33 hS, ↓SeG0_34 hS, ↓SeG0_35 hS, ↓SeI0_36 hS, ↓SeP0_36 hS, ↓SeZ0_36 hS, ↓SeL0 hS, ↓SeS0 hS, ↓SeL1 hS, ↓SeS1 hS, ↓SeL2 hS, ↓SeS2 hS, ↓SeL3 hS, ↓SeS3 hS, ↓A_if, ↓A_jn, ↓A_lt, ↓A_rz, ↓A_rn, ↓A_nzi, ↓A_nzl, ↓A_nn1, ↓A_nn0, ↓reduceIte, true_and, and_true, if_true, if_false, ite_true, ite_false, reduceIte, tl_0, tl_1, tl_2, tl_3, tl_4, tl_5, tl_6, tl_7, tl_8, tl_9, tl_10, tl_11, tl_12, tl_13, tl_14, tl_15, tl_16, tl_17, tl_18, tl_19, tl_20, tl_21, tl_22, tl_23, tl_24, tl_25, tl_26, tl_27, tl_28, tl_29, tl_30, tl_31, tl_32, tl_33, tl_34, tl_35, tl_36, tl_37, tl_38, tl_39, tl_40, tl_41, tl_42, tl_43, tl_44, tl_45, tl_46, tl_47, tl_48, tl_49, tl_50, tl_51, tl_52, tl_53, tl_54, tl_57, tl_59, tl_60, tl_62, tl_63, tl_64, tl_97, tl_99, tl_100, tl_120, tl_122, tl_192, tl_193, tl_194, tl_195, tl_196, tl_255, tl_256, tl_299, tl_400, tl_401, tl_492, tl_493, tl_541, tl_849, tl_999, tl_1000, tl_1341, tl_1342, tl_1390, tl_2190, tl_5412, tl_5904, tl_9999, tl_12345, tl_32767, tl_65536, tl_1000000, tl_252645135, tl_858993459, tl_1103515245, tl_1431655765, nz_31, nz_c31, eq_self, or_true, true_or, or_false, false_or, Nat.add_zero, nz_lt, nz_le, nz_eq, nz_cl, nz_sub, nI_add, pk_mul, nt_lt, nf_lt, nf_eq, nz_mI, mI_eq, mI_eq', mI_lt, mI_gt, mI_add, ↓j_max, ↓j_min, Nat.sub_sub, Nat.reduceAdd, Nat.reduceSub, Nat.reduceLT, Nat.reduceEqDiff, Bool.false_eq_true]
        · simp (disch := omega) only [e36, ↓E2, q, false_and, ↓SeV0 hS, ↓SeG0_32 hS, ↓SeG0_33 hS, ↓SeG0_34 hS, ↓SeG0_35 hS, ↓SeI0_36 hS, ↓SeP0_36 hS, ↓SeZ0_36 hS, ↓SeL0 hS, ↓SeS0 hS, ↓SeL1 hS, ↓SeS1 hS, ↓SeL2 hS, ↓SeS2 hS, ↓SeL3 hS, ↓SeS3 hS, ↓A_if, ↓A_jn, ↓A_lt, ↓A_rz, ↓A_rn, ↓A_nzi, ↓A_nzl, ↓A_nn1, ↓A_nn0, ↓reduceIte, true_and, and_true, if_true, if_false, ite_true, ite_false, reduceIte, tl_0, tl_1, tl_2, tl_3, tl_4, tl_5, tl_6, tl_7, tl_8, tl_9, tl_10, tl_11, tl_12, tl_13, tl_14, tl_15, tl_16, tl_17, tl_18, tl_19, tl_20, tl_21, tl_22, tl_23, tl_24, tl_25, tl_26, tl_27, tl_28, tl_29, tl_30, tl_31, tl_32, tl_33, tl_34, tl_35, tl_36, tl_37, tl_38, tl_39, tl_40, tl_41, tl_42, tl_43, tl_44, tl_45, tl_46, tl_47, tl_48, tl_49, tl_50, tl_51, tl_52, tl_53, tl_54, tl_57, tl_59, tl_60, tl_62, tl_63, tl_64, tl_97, tl_99, tl_100, tl_120, tl_122, tl_192, tl_193, tl_194, tl_195, tl_196, tl_255, tl_256, tl_299, tl_400, tl_401, tl_492, tl_493, tl_541, tl_849, tl_999, tl_1000, tl_1341, tl_1342, tl_1390, tl_2190, tl_5412, tl_5904, tl_9999, tl_12345, tl_32767, tl_65536, tl_1000000, tl_252645135, tl_858993459, tl_1103515245, tl_1431655765, nz_31, nz_c31, eq_self, or_true, true_or, or_false, false_or, Nat.add_zero, nz_lt, nz_le, nz_eq, nz_cl, nz_sub, nI_add, pk_mul, nt_lt, nf_lt, nf_eq, nz_mI, mI_eq, mI_eq', mI_lt, mI_gt, mI_add, ↓j_max, ↓j_min, Nat.sub_sub, Nat.reduceAdd, Nat.reduceSub, Nat.reduceLT, Nat.reduceEqDiff, Bool.false_eq_true]
      · intro rec2
        have e : p + 1 + (P - (p + 1)) = P := by omega
        rw [e]
        simp (disch := omega) only [e36, ↓SeV0 hS, ↓SeG0_32 hS, ↓SeG0_33 hS, ↓SeG0_34 hS, ↓SeG0_35 hS, ↓SeI0_36 hS, ↓SeP0_36 hS, ↓SeZ0_36 hS, ↓SeL0 hS, ↓SeS0 hS, ↓SeL1 hS, ↓SeS1 hS, ↓SeL2 hS, ↓SeS2 hS, ↓SeL3 hS, ↓SeS3 hS, ↓A_if, ↓A_jn, ↓A_lt, ↓A_rz, ↓A_rn, ↓A_nzi, ↓A_nzl, ↓A_nn1, ↓A_nn0, ↓reduceIte, true_and, and_true, if_true, if_false, ite_true, ite_false, reduceIte, tl_0, tl_1, tl_2, tl_3, tl_4, tl_5, tl_6, tl_7, tl_8, tl_9, tl_10, tl_11, tl_12, tl_13, tl_14, tl_15, tl_16, tl_17, tl_18, tl_19, tl_20, tl_21, tl_22, tl_23, tl_24, tl_25, tl_26, tl_27, tl_28, tl_29, tl_30, tl_31, tl_32, tl_33, tl_34, tl_35, tl_36, tl_37, tl_38, tl_39, tl_40, tl_41, tl_42, tl_43, tl_44, tl_45, tl_46, tl_47, tl_48, tl_49, tl_50, tl_51, tl_52, tl_53, tl_54, tl_57, tl_59, tl_60, tl_62, tl_63, tl_64, tl_97, tl_99, tl_100, tl_120, tl_122, tl_192, tl_193, tl_194, tl_195, tl_196, tl_255, tl_256, tl_299, tl_400, tl_401, tl_492, tl_493, tl_541, tl_849, tl_999, tl_1000, tl_1341, tl_1342, tl_1390, tl_2190, tl_5412, tl_5904, tl_9999, tl_12345, tl_32767, tl_65536, tl_1000000, tl_252645135, tl_858993459, tl_1103515245, tl_1431655765, nz_31, nz_c31, eq_self, or_true, true_or, or_false, false_or, Nat.add_zero, nz_lt, nz_le, nz_eq, nz_cl, nz_sub, nI_add, pk_mul, nt_lt, nf_lt, nf_eq, nz_mI, mI_eq, mI_eq', mI_lt, mI_gt, mI_add, ↓j_max, ↓j_min, Nat.sub_sub, Nat.reduceAdd, Nat.reduceSub, Nat.reduceLT, Nat.reduceEqDiff, Bool.false_eq_true]
theorem c_leastM (hS : tw_Se sh s) (e36 : μ s 36 = nI P) (h8 : P ≤ 8) (H : tw_MM M Wt P) (hz : z < 2 ^ P) (hz0 : 0 < z) (hf : ∀ y, y < 2 ^ P → μ (s + 3) y = nI (M y)) (hw : ∀ p o, p < o → o < P → μ (s + 2) (8 * p + o) = nI (Wt p o)) (k : Int32 → tw_Mem → Prop) : f_X5_leastMate s (nI z) (nI (tw_fsb z)) k (sh, μ, la, n) = k (if tw_lm M Wt P z = 0 then mI else nI (tw_lm M Wt P z - 1)) (sh, μ, la, n) := by
  have h2 := tw_p256 h8
  obtain ⟨s1, s2, s3⟩ := tw_fsb_s P (by omega) z hz hz0
  have hl := tw_wt_lt (p := tw_fsb z) (by omega) s2
  obtain ⟨l1, l2, l3, l4⟩ := tw_lm_s h8 H hz hz0
  obtain ⟨m1, m2, -, -⟩ := H
  generalize tw_lm M Wt P z = d at *
  have E1 := fun k => c_mostIn (μ := μ) (la := la) (n := n) (z := tw_wt z (tw_fsb z)) hS (by omega) k
  have E2 := fun k => c_mostIn (μ := μ) (la := la) (n := n) (z := z) hS (by omega) k
  rw [hf _ (by omega)] at E1 E2
  have mz := m1 z
  have mw := m1 (tw_wt z (tw_fsb z))
  have v0 : tw_vl M Wt z 0 = nI (M (tw_wt z (tw_fsb z))) := if_pos rfl
  have vj : ∀ o, tw_fsb z < o → tw_vl M Wt z (o + 1) = if z.testBit o = true then nI (Wt (tw_fsb z) o + M (tw_wt (tw_wt z (tw_fsb z)) o)) else mI := fun o ho => by
    unfold tw_vl
    rw [if_neg (by omega), Nat.add_sub_cancel]
    by_cases q : z.testBit o = true
    · rw [if_pos ⟨q, ho⟩, if_pos q]
    · rw [if_neg (fun g => q g.1), if_neg q]
  generalize hp : tw_fsb z = p at *
  have E3 : ∀ o, p < o → o < P → ∀ k : Int32 → tw_Mem → Prop, f_X5_mostWith s (nI z) (nI p) (nI o) k (sh, μ, la, n) = k (tw_vl M Wt z (o + 1)) (sh, μ, la, n) := fun o h1 h3 k => by
    have lw := tw_wt_le (tw_wt z p) o
    rw [c_mostWith hS (by omega) (by omega) (by omega), vj o h1, hw p o h1 h3, hf (tw_wt (tw_wt z p) o) (by omega), nI_add]
    split <;> rfl
  by_cases q : d = 0
  · subst q
    rw [v0, nz_eq (by omega) (by omega)] at l1
    rw [if_pos rfl]
    simp (disch := omega) only [f_X5_leastMate, ↓c_without, ↓E1, ↓E2, l1, ↓SeV0 hS, ↓SeG0_32 hS, ↓SeG0_33 hS, ↓SeG0_34 hS, ↓SeG0_35 hS, ↓SeI0_36 hS, ↓SeP0_36 hS, ↓SeZ0_36 hS, ↓SeL0 hS, ↓SeS0 hS, ↓SeL1 hS, ↓SeS1 hS, ↓SeL2 hS, ↓SeS2 hS, ↓SeL3 hS, ↓SeS3 hS, ↓A_if, ↓A_jn, ↓A_lt, ↓A_rz, ↓A_rn, ↓A_nzi, ↓A_nzl, ↓A_nn1, ↓A_nn0, ↓reduceIte, true_and, and_true, if_true, if_false, ite_true, ite_false, reduceIte, tl_0, tl_1, tl_2, tl_3, tl_4, tl_5, tl_6, tl_7, tl_8, tl_9, tl_10, tl_11, tl_12, tl_13, tl_14, tl_15, tl_16, tl_17, tl_18, tl_19, tl_20, tl_21, tl_22, tl_23, tl_24, tl_25, tl_26, tl_27, tl_28, tl_29, tl_30, tl_31, tl_32, tl_33, tl_34, tl_35, tl_36, tl_37, tl_38, tl_39, tl_40, tl_41, tl_42, tl_43, tl_44, tl_45, tl_46, tl_47, tl_48, tl_49, tl_50, tl_51, tl_52, tl_53, tl_54, tl_57, tl_59, tl_60, tl_62, tl_63, tl_64, tl_97, tl_99, tl_100, tl_120, tl_122, tl_192, tl_193, tl_194, tl_195, tl_196, tl_255, tl_256, tl_299, tl_400, tl_401, tl_492, tl_493, tl_541, tl_849, tl_999, tl_1000, tl_1341, tl_1342, tl_1390, tl_2190, tl_5412, tl_5904, tl_9999, tl_12345, tl_32767, tl_65536, tl_1000000, tl_252645135, tl_858993459, tl_1103515245, tl_1431655765, nz_31, nz_c31, eq_self, or_true, true_or, or_false, false_or, Nat.add_zero, nz_lt, nz_le, nz_eq, nz_cl, nz_sub, nI_add, pk_mul, nt_lt, nf_lt, nf_eq, nz_mI, mI_eq, mI_eq', mI_lt, mI_gt, mI_add, ↓j_max, ↓j_min, Nat.sub_sub, Nat.reduceAdd, Nat.reduceSub, Nat.reduceLT, Nat.reduceEqDiff, Bool.false_eq_true]
  · have g0 := l3 0 (by omega)
    rw [v0, nz_eq (by omega) (by omega)] at g0
    obtain ⟨b1, b2⟩ := l4 q
    rw [if_neg q]
    simp (disch := omega) only [f_X5_leastMate, ↓c_without, ↓E1, ↓E2, g0, ↓SeV0 hS, ↓SeG0_32 hS, ↓SeG0_33 hS, ↓SeG0_34 hS, ↓SeG0_35 hS, ↓SeI0_36 hS, ↓SeP0_36 hS, ↓SeZ0_36 hS, ↓SeL0 hS, ↓SeS0 hS, ↓SeL1 hS, ↓SeS1 hS, ↓SeL2 hS, ↓SeS2 hS, ↓SeL3 hS, ↓SeS3 hS, ↓A_if, ↓A_jn, ↓A_lt, ↓A_rz, ↓A_rn, ↓A_nzi, ↓A_nzl, ↓A_nn1, ↓A_nn0, ↓reduceIte, true_and, and_true, if_true, if_false, ite_true, ite_false, reduceIte, tl_0, tl_1, tl_2, tl_3, tl_4, tl_5, tl_6, tl_7, tl_8, tl_9, tl_10, tl_11, tl_12, tl_13, tl_14, tl_15, tl_16, tl_17, tl_18, tl_19, tl_20, tl_21, tl_22, tl_23, tl_24, tl_25, tl_26, tl_27, tl_28, tl_29, tl_30, tl_31, tl_32, tl_33, tl_34, tl_35, tl_36, tl_37, tl_38, tl_39, tl_40, tl_41, tl_42, tl_43, tl_44, tl_45, tl_46, tl_47, tl_48, tl_49, tl_50, tl_51, tl_52, tl_53, tl_54, tl_57, tl_59, tl_60, tl_62, tl_63, tl_64, tl_97, tl_99, tl_100, tl_120, tl_122, tl_192, tl_193, tl_194, tl_195, tl_196, tl_255, tl_256, tl_299, tl_400, tl_401, tl_492, tl_493, tl_541, tl_849, tl_999, tl_1000, tl_1341, tl_1342, tl_1390, tl_2190, tl_5412, tl_5904, tl_9999, tl_12345, tl_32767, tl_65536, tl_1000000, tl_252645135, tl_858993459, tl_1103515245, tl_1431655765, nz_31, nz_c31, eq_self, or_true, true_or, or_false, false_or, Nat.add_zero, nz_lt, nz_le, nz_eq, nz_cl, nz_sub, nI_add, pk_mul, nt_lt, nf_lt, nf_eq, nz_mI, mI_eq, mI_eq', mI_lt, mI_gt, mI_add, ↓j_max, ↓j_min, Nat.sub_sub, Nat.reduceAdd, Nat.reduceSub, Nat.reduceLT, Nat.reduceEqDiff, Bool.false_eq_true]
    refine tw_lp_for (d - 1 - (p + 1)) (fun c => nI (p + 1 + c)) (fun _ => (sh, μ, la, n)) rfl rfl ?_ ?_
    · intro c hc rec
      have E4 := E3 (p + 1 + c) (by omega) (by omega)
      have g1 := l3 (p + 1 + c + 1) (by omega)
      simp (disch := omega) only [e36, ↓E4, ↓E2, g1, ↓SeV0 hS, ↓SeG0_32 hS, ↓SeG0_33 hS, ↓SeG0_34 hS, ↓SeG0_35 hS, ↓SeI0_36 hS, ↓SeP0_36 hS, ↓SeZ0_36 hS, ↓SeL0 hS, ↓SeS0 hS, ↓SeL1 hS, ↓SeS1 hS, ↓SeL2 hS, ↓SeS2 hS, ↓SeL3 hS, ↓SeS3 hS, ↓A_if, ↓A_jn, ↓A_lt, ↓A_rz, ↓A_rn, ↓A_nzi, ↓A_nzl, ↓A_nn1, ↓A_nn0, ↓reduceIte, true_and, and_true, if_true, if_false, ite_true, ite_false, reduceIte, tl_0, tl_1, tl_2, tl_3, tl_4, tl_5, tl_6, tl_7, tl_8, tl_9, tl_10, tl_11, tl_12, tl_13, tl_14, tl_15, tl_16, tl_17, tl_18, tl_19, tl_20, tl_21, tl_22, tl_23, tl_24, tl_25, tl_26, tl_27, tl_28, tl_29, tl_30, tl_31, tl_32, tl_33, tl_34, tl_35, tl_36, tl_37, tl_38, tl_39, tl_40, tl_41, tl_42, tl_43, tl_44, tl_45, tl_46, tl_47, tl_48, tl_49, tl_50, tl_51, tl_52, tl_53, tl_54, tl_57, tl_59, tl_60, tl_62, tl_63, tl_64, tl_97, tl_99, tl_100, tl_120, tl_122, tl_192, tl_193, tl_194, tl_195, tl_196, tl_255, tl_256, tl_299, tl_400, tl_401, tl_492, tl_493, tl_541, tl_849, tl_999, tl_1000, tl_1341, tl_1342, tl_1390, tl_2190, tl_5412, tl_5904, tl_9999, tl_12345, tl_32767, tl_65536, tl_1000000, tl_252645135, tl_858993459, tl_1103515245, tl_1431655765, nz_31, nz_c31, eq_self, or_true, true_or, or_false, false_or, Nat.add_zero, nz_lt, nz_le, nz_eq, nz_cl, nz_sub, nI_add, pk_mul, nt_lt, nf_lt, nf_eq, nz_mI, mI_eq, mI_eq', mI_lt, mI_gt, mI_add, ↓j_max, ↓j_min, Nat.sub_sub, Nat.reduceAdd, Nat.reduceSub, Nat.reduceLT, Nat.reduceEqDiff, Bool.false_eq_true]
      rfl
    · intro rec
      have ec : p + 1 + (d - 1 - (p + 1)) = d - 1 := by omega
      have E4 := E3 (d - 1) (by omega) (by omega)
      have ed : d - 1 + 1 = d := by omega
      rw [ed, l1] at E4
      rw [ec]
      simp (disch := omega) only [e36, ↓E4, ↓E2, ↓SeV0 hS, ↓SeG0_32 hS, ↓SeG0_33 hS, ↓SeG0_34 hS, ↓SeG0_35 hS, ↓SeI0_36 hS, ↓SeP0_36 hS, ↓SeZ0_36 hS, ↓SeL0 hS, ↓SeS0 hS, ↓SeL1 hS, ↓SeS1 hS, ↓SeL2 hS, ↓SeS2 hS, ↓SeL3 hS, ↓SeS3 hS, ↓A_if, ↓A_jn, ↓A_lt, ↓A_rz, ↓A_rn, ↓A_nzi, ↓A_nzl, ↓A_nn1, ↓A_nn0, ↓reduceIte, true_and, and_true, if_true, if_false, ite_true, ite_false, reduceIte, tl_0, tl_1, tl_2, tl_3, tl_4, tl_5, tl_6, tl_7, tl_8, tl_9, tl_10, tl_11, tl_12, tl_13, tl_14, tl_15, tl_16, tl_17, tl_18, tl_19, tl_20, tl_21, tl_22, tl_23, tl_24, tl_25, tl_26, tl_27, tl_28, tl_29, tl_30, tl_31, tl_32, tl_33, tl_34, tl_35, tl_36, tl_37, tl_38, tl_39, tl_40, tl_41, tl_42, tl_43, tl_44, tl_45, tl_46, tl_47, tl_48, tl_49, tl_50, tl_51, tl_52, tl_53, tl_54, tl_57, tl_59, tl_60, tl_62, tl_63, tl_64, tl_97, tl_99, tl_100, tl_120, tl_122, tl_192, tl_193, tl_194, tl_195, tl_196, tl_255, tl_256, tl_299, tl_400, tl_401, tl_492, tl_493, tl_541, tl_849, tl_999, tl_1000, tl_1341, tl_1342, tl_1390, tl_2190, tl_5412, tl_5904, tl_9999, tl_12345, tl_32767, tl_65536, tl_1000000, tl_252645135, tl_858993459, tl_1103515245, tl_1431655765, nz_31, nz_c31, eq_self, or_true, true_or, or_false, false_or, Nat.add_zero, nz_lt, nz_le, nz_eq, nz_cl, nz_sub, nI_add, pk_mul, nt_lt, nf_lt, nf_eq, nz_mI, mI_eq, mI_eq', mI_lt, mI_gt, mI_add, ↓j_max, ↓j_min, Nat.sub_sub, Nat.reduceAdd, Nat.reduceSub, Nat.reduceLT, Nat.reduceEqDiff, Bool.false_eq_true]
theorem tw_mtt_n (Hl : ∀ z, tw_lm M Wt P z < P + 1) (h8 : P ≤ 8) : ∀ d i z q, i + d ≤ 8 → tw_mtt M Wt P d i z q = mI ∨ ∃ c, c < 8 ∧ tw_mtt M Wt P d i z q = nI c
  | 0, _, _, _, _ => Or.inl rfl
  | d + 1, i, z, q, h => by
    have hl := Hl z
    unfold tw_mtt
    split
    · split
      · rcases Nat.eq_zero_or_pos (tw_lm M Wt P z) with g | g
        · rw [g]
          exact Or.inl rfl
        · exact Or.inr ⟨tw_lm M Wt P z - 1, by omega, nz_sub (by omega)⟩
      · split
        · exact Or.inr ⟨i, by omega, rfl⟩
        · exact tw_mtt_n Hl h8 d (i + 1) _ q (by omega)
    · exact tw_mtt_n Hl h8 d (i + 1) z q (by omega)
def tw_zz (M : Nat → Nat) (Wt : Nat → Nat → Nat) (P : Nat) : Nat → Nat
  | 0 => 2 ^ P - 1
  | i + 1 => if (tw_zz M Wt P i).testBit i = true then (if tw_lm M Wt P (tw_zz M Wt P i) = 0 then tw_wt (tw_zz M Wt P i) i else tw_wt (tw_wt (tw_zz M Wt P i) i) (tw_lm M Wt P (tw_zz M Wt P i) - 1)) else tw_zz M Wt P i
theorem tw_zz_s (h8 : P ≤ 8) : ∀ i, i ≤ 8 → tw_zz M Wt P i < 2 ^ P ∧ ∀ q, q < i → (tw_zz M Wt P i).testBit q = false
  | 0, _ => ⟨by have := Nat.two_pow_pos P; show 2 ^ P - 1 < 2 ^ P; omega, fun q hq => absurd hq (Nat.not_lt_zero q)⟩
  | i + 1, hi => by
    obtain ⟨a, b⟩ := tw_zz_s h8 i (by omega)
    have e : tw_zz M Wt P (i + 1) = if (tw_zz M Wt P i).testBit i = true then (if tw_lm M Wt P (tw_zz M Wt P i) = 0 then tw_wt (tw_zz M Wt P i) i else tw_wt (tw_wt (tw_zz M Wt P i) i) (tw_lm M Wt P (tw_zz M Wt P i) - 1)) else tw_zz M Wt P i := rfl
    rw [e]
    generalize tw_zz M Wt P i = z at *
    have l1 := tw_wt_le z i
    have l2 := tw_wt_le (tw_wt z i) (tw_lm M Wt P z - 1)
    have w1 : ∀ q, q < i + 1 → (tw_wt z i).testBit q = false := fun q hq => by
      rw [tw_wt_b z i q (by omega)]
      by_cases eq : i = q
      · rw [decide_eq_true eq]; simp
      · rw [b q (by omega)]; rfl
    by_cases q : z.testBit i = true
    · rw [if_pos q]
      by_cases g : tw_lm M Wt P z = 0
      · rw [if_pos g]
        exact ⟨by omega, w1⟩
      · rw [if_neg g]
        refine ⟨by omega, fun r hr => ?_⟩
        rw [tw_wt_b _ _ r (by omega), w1 r hr]
        rfl
    · rw [if_neg q]
      refine ⟨a, fun r hr => ?_⟩
      by_cases e : r = i
      · subst e
        cases h : z.testBit r
        · rfl
        · exact absurd h q
      · exact b r (by omega)
theorem tw_fsb_i {z i : Nat} (h8 : P ≤ 8) (hz : z < 2 ^ P) (hi : i < 8) (h : z.testBit i = true) (hb : ∀ q, q < i → z.testBit q = false) : tw_fsb z = i ∧ 0 < z := by
  have h0 : 0 < z := by
    rcases Nat.eq_zero_or_pos z with g | g
    · rw [g, Nat.zero_testBit] at h
      cases h
    · exact g
  obtain ⟨s1, s2, s3⟩ := tw_fsb_s P (by omega) z hz h0
  refine ⟨?_, h0⟩
  rcases Nat.lt_trichotomy (tw_fsb z) i with g | g | g
  · rw [hb _ g] at s2
    cases s2
  · exact g
  · rw [s3 i hi g] at h
    cases h
theorem tw_bit_l {z q : Nat} (hz : z < 2 ^ P) (h : z.testBit q = true) : q < P := by
  rcases Nat.lt_or_ge q P with g | g
  · exact g
  · rw [Nat.testBit_lt_two_pow (Nat.lt_of_lt_of_le hz (Nat.pow_le_pow_right (by omega) g))] at h
    cases h
theorem c_fillM (hS : tw_Se sh s) : ∃ μ', ((∀ y, y ≠ s + 4 → μ' y = μ y) ∧ ∀ q, q < 8 → μ' (s + 4) q = mI) ∧ ∀ k, f_J7_fill_53178 (s + 4) mI k (sh, μ, la, n) = k () (sh, μ', la, n) := by
  have hal := fun k => tw_al_ar (μ := μ) (la := la) (N := n) hS.2.2.2.2.1 (by decide) k
  simp (disch := omega) only [f_J7_fill_53178, ↓hal, ↓A_if, ↓A_jn, ↓A_lt, ↓A_rz, ↓A_rn, ↓A_nzi, ↓A_nzl, ↓A_nn1, ↓A_nn0, ↓reduceIte, true_and, and_true, if_true, if_false, ite_true, ite_false, reduceIte, tl_0, tl_1, tl_2, tl_3, tl_4, tl_5, tl_6, tl_7, tl_8, tl_9, tl_10, tl_11, tl_12, tl_13, tl_14, tl_15, tl_16, tl_17, tl_18, tl_19, tl_20, tl_21, tl_22, tl_23, tl_24, tl_25, tl_26, tl_27, tl_28, tl_29, tl_30, tl_31, tl_32, tl_33, tl_34, tl_35, tl_36, tl_37, tl_38, tl_39, tl_40, tl_41, tl_42, tl_43, tl_44, tl_45, tl_46, tl_47, tl_48, tl_49, tl_50, tl_51, tl_52, tl_53, tl_54, tl_57, tl_59, tl_60, tl_62, tl_63, tl_64, tl_97, tl_99, tl_100, tl_120, tl_122, tl_192, tl_193, tl_194, tl_195, tl_196, tl_255, tl_256, tl_299, tl_400, tl_401, tl_492, tl_493, tl_541, tl_849, tl_999, tl_1000, tl_1341, tl_1342, tl_1390, tl_2190, tl_5412, tl_5904, tl_9999, tl_12345, tl_32767, tl_65536, tl_1000000, tl_252645135, tl_858993459, tl_1103515245, tl_1431655765, nz_31, nz_c31, eq_self, or_true, true_or, or_false, false_or, Nat.add_zero, nz_lt, nz_le, nz_eq, nz_cl, nz_sub, nI_add, pk_mul, nt_lt, nf_lt, nf_eq, nz_mI, mI_eq, mI_eq', mI_lt, mI_gt, mI_add, ↓j_max, ↓j_min, Nat.sub_sub, Nat.reduceAdd, Nat.reduceSub, Nat.reduceLT, Nat.reduceEqDiff, Bool.false_eq_true]
  refine tw_lp_ex 8 (fun i => nI i) (fun i μ' => (∀ y, y ≠ s + 4 → μ' y = μ y) ∧ ∀ q, q < i → μ' (s + 4) q = mI) rfl ⟨fun _ _ => rfl, fun q hq => absurd hq (Nat.not_lt_zero q)⟩ ?_ ?_
  · rintro i hi μ1 ⟨F1, g1⟩
    refine ⟨tw_up μ1 (s + 4) i mI, ⟨fun y hy => by rw [tw_up_ne hy]; exact F1 y hy, fun q hq => ?_⟩, fun k rec => ?_⟩
    · by_cases e : q = i
      · subst e; exact tw_ua
      · rw [tw_uk (by omega)]; exact g1 q (by omega)
    · simp (disch := omega) only [↓SeV0 hS, ↓SeG0_32 hS, ↓SeG0_33 hS, ↓SeG0_34 hS, ↓SeG0_35 hS, ↓SeI0_36 hS, ↓SeP0_36 hS, ↓SeZ0_36 hS, ↓SeL0 hS, ↓SeS0 hS, ↓SeL1 hS, ↓SeS1 hS, ↓SeL2 hS, ↓SeS2 hS, ↓SeL3 hS, ↓SeS3 hS, ↓A_if, ↓A_jn, ↓A_lt, ↓A_rz, ↓A_rn, ↓A_nzi, ↓A_nzl, ↓A_nn1, ↓A_nn0, ↓reduceIte, true_and, and_true, if_true, if_false, ite_true, ite_false, reduceIte, tl_0, tl_1, tl_2, tl_3, tl_4, tl_5, tl_6, tl_7, tl_8, tl_9, tl_10, tl_11, tl_12, tl_13, tl_14, tl_15, tl_16, tl_17, tl_18, tl_19, tl_20, tl_21, tl_22, tl_23, tl_24, tl_25, tl_26, tl_27, tl_28, tl_29, tl_30, tl_31, tl_32, tl_33, tl_34, tl_35, tl_36, tl_37, tl_38, tl_39, tl_40, tl_41, tl_42, tl_43, tl_44, tl_45, tl_46, tl_47, tl_48, tl_49, tl_50, tl_51, tl_52, tl_53, tl_54, tl_57, tl_59, tl_60, tl_62, tl_63, tl_64, tl_97, tl_99, tl_100, tl_120, tl_122, tl_192, tl_193, tl_194, tl_195, tl_196, tl_255, tl_256, tl_299, tl_400, tl_401, tl_492, tl_493, tl_541, tl_849, tl_999, tl_1000, tl_1341, tl_1342, tl_1390, tl_2190, tl_5412, tl_5904, tl_9999, tl_12345, tl_32767, tl_65536, tl_1000000, tl_252645135, tl_858993459, tl_1103515245, tl_1431655765, nz_31, nz_c31, eq_self, or_true, true_or, or_false, false_or, Nat.add_zero, nz_lt, nz_le, nz_eq, nz_cl, nz_sub, nI_add, pk_mul, nt_lt, nf_lt, nf_eq, nz_mI, mI_eq, mI_eq', mI_lt, mI_gt, mI_add, ↓j_max, ↓j_min, Nat.sub_sub, Nat.reduceAdd, Nat.reduceSub, Nat.reduceLT, Nat.reduceEqDiff, Bool.false_eq_true]
  · rintro μ1 ⟨F1, g1⟩
    refine ⟨μ1, ⟨F1, g1⟩, fun k rec => ?_⟩
    simp (disch := omega) only [↓A_if, ↓A_jn, ↓A_lt, ↓A_rz, ↓A_rn, ↓A_nzi, ↓A_nzl, ↓A_nn1, ↓A_nn0, ↓reduceIte, true_and, and_true, if_true, if_false, ite_true, ite_false, reduceIte, tl_0, tl_1, tl_2, tl_3, tl_4, tl_5, tl_6, tl_7, tl_8, tl_9, tl_10, tl_11, tl_12, tl_13, tl_14, tl_15, tl_16, tl_17, tl_18, tl_19, tl_20, tl_21, tl_22, tl_23, tl_24, tl_25, tl_26, tl_27, tl_28, tl_29, tl_30, tl_31, tl_32, tl_33, tl_34, tl_35, tl_36, tl_37, tl_38, tl_39, tl_40, tl_41, tl_42, tl_43, tl_44, tl_45, tl_46, tl_47, tl_48, tl_49, tl_50, tl_51, tl_52, tl_53, tl_54, tl_57, tl_59, tl_60, tl_62, tl_63, tl_64, tl_97, tl_99, tl_100, tl_120, tl_122, tl_192, tl_193, tl_194, tl_195, tl_196, tl_255, tl_256, tl_299, tl_400, tl_401, tl_492, tl_493, tl_541, tl_849, tl_999, tl_1000, tl_1341, tl_1342, tl_1390, tl_2190, tl_5412, tl_5904, tl_9999, tl_12345, tl_32767, tl_65536, tl_1000000, tl_252645135, tl_858993459, tl_1103515245, tl_1431655765, nz_31, nz_c31, eq_self, or_true, true_or, or_false, false_or, Nat.add_zero, nz_lt, nz_le, nz_eq, nz_cl, nz_sub, nI_add, pk_mul, nt_lt, nf_lt, nf_eq, nz_mI, mI_eq, mI_eq', mI_lt, mI_gt, mI_add, ↓j_max, ↓j_min, Nat.sub_sub, Nat.reduceAdd, Nat.reduceSub, Nat.reduceLT, Nat.reduceEqDiff, Bool.false_eq_true]
theorem c_put3 (hS : tw_Se sh s) (e36 : μ s 36 = nI P) (h8 : P ≤ 8) (H : tw_MM M Wt P) (hf : ∀ y, y < 2 ^ P → μ (s + 3) y = nI (M y)) (hw : ∀ p o, p < o → o < P → μ (s + 2) (8 * p + o) = nI (Wt p o)) (hm : ∀ q, q < 8 → μ (s + 4) q = mI) : ∃ μ', ((∀ y, y ≠ s + 4 → μ' y = μ y) ∧ ∀ q, q < P → μ' (s + 4) q = tw_mtt M Wt P P 0 (2 ^ P - 1) q) ∧ ∀ k : Unit → tw_Mem → Prop, tw_lp (fun (r11 : Int32 × Int32 → tw_Mem → Prop) (s12 : Int32 × Int32) => tw_gi 36 s fun x13 => tw_if (s12.2 < x13) (f_X11_isIn s12.1 s12.2 (fun x14 => tw_jn (fun (s16 : Int32) => f_X5_without s12.1 s12.2 (fun x17 => tw_jn (fun (s19 : Int32) => r11 (s19, s12.2 + (1 : Int32))) (fun j18 => tw_if (s16 < 0) (j18 x17) (tw_if (s16 < (8 : Int32)) (tw_gr 35 s fun x20 => tw_si x20 s12.2 s16 (tw_gr 35 s fun x21 => tw_si x21 s16 s12.2 (f_X5_without x17 s16 (fun x22 => j18 x22)))) (j18 x17))))) (fun j15 => tw_if (x14 = 0) (j15 (-1 : Int32)) (tw_iv 5 s (f_X5_leastMate s s12.1 s12.2 (fun x23 => j15 x23)))))) (k ())) (nI (2 ^ P - 1), (0 : Int32)) (sh, μ, la, n) = k () (sh, μ', la, n) := by
  have h2 := tw_p256 h8
  have mI0 : (mI < nI 0) = True := tw_mI0
  refine tw_lp_ex P (fun i => (nI (tw_zz M Wt P i), nI i)) (fun i μ' => (∀ y, y ≠ s + 4 → μ' y = μ y) ∧ ∀ q, q < P → ((tw_zz M Wt P i).testBit q = true → μ' (s + 4) q = mI ∧ tw_mtt M Wt P P 0 (2 ^ P - 1) q = tw_mtt M Wt P (P - i) i (tw_zz M Wt P i) q) ∧ ((tw_zz M Wt P i).testBit q = false → μ' (s + 4) q = tw_mtt M Wt P P 0 (2 ^ P - 1) q)) rfl ⟨fun _ _ => rfl, fun q hq => ⟨fun _ => ⟨hm q (by omega), rfl⟩, fun h => ?_⟩⟩ ?_ ?_
  · have e : (2 ^ P - 1).testBit q = true := by rw [Nat.testBit_two_pow_sub_one]; exact decide_eq_true hq
    have h : (2 ^ P - 1).testBit q = false := h
    rw [e] at h
    cases h
  · rintro i hi μ1 ⟨F1, g1⟩
    obtain ⟨z1, z2⟩ := tw_zz_s (M := M) (Wt := Wt) h8 i (by omega)
    have ez : tw_zz M Wt P (i + 1) = if (tw_zz M Wt P i).testBit i = true then (if tw_lm M Wt P (tw_zz M Wt P i) = 0 then tw_wt (tw_zz M Wt P i) i else tw_wt (tw_wt (tw_zz M Wt P i) i) (tw_lm M Wt P (tw_zz M Wt P i) - 1)) else tw_zz M Wt P i := rfl
    have ePi : P - i = (P - (i + 1)) + 1 := by omega
    have emt : ∀ z q, tw_mtt M Wt P (P - i) i z q = if z.testBit i = true then (if q = i then nI (tw_lm M Wt P z) - nI 1 else if q + 1 = tw_lm M Wt P z then nI i else tw_mtt M Wt P (P - (i + 1)) (i + 1) (if tw_lm M Wt P z = 0 then tw_wt z i else tw_wt (tw_wt z i) (tw_lm M Wt P z - 1)) q) else tw_mtt M Wt P (P - (i + 1)) (i + 1) z q := fun z q => by rw [ePi]; rfl
    rw [ez]
    generalize tw_zz M Wt P i = z at *
    have eb := tw_isbN (x := z) (p := i) (by omega) (by omega)
    have d36 : μ1 s 36 = nI P := by rw [F1 s (by omega)]; exact e36
    have l1 := tw_wt_le z i
    by_cases q : z.testBit i = true
    · obtain ⟨p1, p2⟩ := tw_fsb_i h8 z1 (by omega) q z2
      obtain ⟨l2, l3, l4, l5⟩ := tw_lm_s h8 H z1 p2
      have E1 := fun k => c_leastM (μ := μ1) (la := la) (n := n) hS d36 h8 H z1 p2 (fun y hy => by rw [F1 _ (by omega)]; exact hf y hy) (fun p o h1 h3 => by rw [F1 _ (by omega)]; exact hw p o h1 h3) k
      rw [p1] at E1 l5
      by_cases g : tw_lm M Wt P z = 0
      · rw [if_pos q, if_pos g]
        rw [if_pos g] at E1
        refine ⟨μ1, ⟨F1, fun r hr => ?_⟩, fun k rec => ?_⟩
        · have er := tw_wt_b z i r (by omega)
          by_cases e : r = i
          · subst e
            refine ⟨fun h => ?_, fun _ => ?_⟩
            · rw [er, decide_eq_true rfl] at h
              simp at h
            · have := (g1 r hr).1 q
              rw [this.2, emt, if_pos q, if_pos rfl, g]
              exact this.1
          · rw [decide_eq_false (fun e2 => e e2.symm), Bool.not_false, Bool.and_true] at er
            rw [er]
            refine ⟨fun h => ?_, fun h => (g1 r hr).2 h⟩
            have := (g1 r hr).1 h
            refine ⟨this.1, ?_⟩
            rw [this.2, emt, if_pos q, if_neg e, if_neg (by omega), if_pos g]
        · simp (disch := omega) only [d36, ↓c_isb, eb, q, ↓c_without, ↓E1, mI0, ↓SeV0 hS, ↓SeG0_32 hS, ↓SeG0_33 hS, ↓SeG0_34 hS, ↓SeG0_35 hS, ↓SeI0_36 hS, ↓SeP0_36 hS, ↓SeZ0_36 hS, ↓SeL0 hS, ↓SeS0 hS, ↓SeL1 hS, ↓SeS1 hS, ↓SeL2 hS, ↓SeS2 hS, ↓SeL3 hS, ↓SeS3 hS, ↓A_if, ↓A_jn, ↓A_lt, ↓A_rz, ↓A_rn, ↓A_nzi, ↓A_nzl, ↓A_nn1, ↓A_nn0, ↓reduceIte, true_and, and_true, if_true, if_false, ite_true, ite_false, reduceIte, tl_0, tl_1, tl_2, tl_3, tl_4, tl_5, tl_6, tl_7, tl_8, tl_9, tl_10, tl_11, tl_12, tl_13, tl_14, tl_15, tl_16, tl_17, tl_18, tl_19, tl_20, tl_21, tl_22, tl_23, tl_24, tl_25, tl_26, tl_27, tl_28, tl_29, tl_30, tl_31, tl_32, tl_33, tl_34, tl_35, tl_36, tl_37, tl_38, tl_39, tl_40, tl_41, tl_42, tl_43, tl_44, tl_45, tl_46, tl_47, tl_48, tl_49, tl_50, tl_51, tl_52, tl_53, tl_54, tl_57, tl_59, tl_60, tl_62, tl_63, tl_64, tl_97, tl_99, tl_100, tl_120, tl_122, tl_192, tl_193, tl_194, tl_195, tl_196, tl_255, tl_256, tl_299, tl_400, tl_401, tl_492, tl_493, tl_541, tl_849, tl_999, tl_1000, tl_1341, tl_1342, tl_1390, tl_2190, tl_5412, tl_5904, tl_9999, tl_12345, tl_32767, tl_65536, tl_1000000, tl_252645135, tl_858993459, tl_1103515245, tl_1431655765, nz_31, nz_c31, eq_self, or_true, true_or, or_false, false_or, Nat.add_zero, nz_lt, nz_le, nz_eq, nz_cl, nz_sub, nI_add, pk_mul, nt_lt, nf_lt, nf_eq, nz_mI, mI_eq, mI_eq', mI_lt, mI_gt, mI_add, ↓j_max, ↓j_min, Nat.sub_sub, Nat.reduceAdd, Nat.reduceSub, Nat.reduceLT, Nat.reduceEqDiff, Bool.false_eq_true]
      · obtain ⟨b1, b2⟩ := l5 g
        rw [if_pos q, if_neg g]
        rw [if_neg g] at E1
        generalize hd : tw_lm M Wt P z = d at *
        obtain ⟨o, ho⟩ : ∃ o, d = o + 1 := ⟨d - 1, by omega⟩
        subst ho
        rw [Nat.add_sub_cancel] at E1 b1 b2 ⊢
        have l7 := tw_wt_le (tw_wt z i) o
        refine ⟨tw_up (tw_up μ1 (s + 4) i (nI o)) (s + 4) o (nI i), ⟨fun y hy => by rw [tw_up_ne hy, tw_up_ne hy]; exact F1 y hy, fun r hr => ?_⟩, fun k rec => ?_⟩
        · have er := tw_wt_b z i r (by omega)
          have er2 := tw_wt_b (tw_wt z i) o r (by omega)
          by_cases e : r = i
          · subst e
            refine ⟨fun h => ?_, fun _ => ?_⟩
            · rw [er2, er, decide_eq_true rfl] at h
              simp at h
            · have := (g1 r hr).1 q
              rw [this.2, emt, if_pos q, if_pos rfl, hd, nz_sub (by omega), Nat.add_sub_cancel, tw_uk (by omega)]
              exact tw_ua
          · by_cases e3 : r = o
            · subst e3
              refine ⟨fun h => ?_, fun _ => ?_⟩
              · rw [er2, decide_eq_true rfl] at h
                simp at h
              · have := (g1 r hr).1 b1
                rw [this.2, emt, if_pos q, if_neg e, hd, if_pos rfl]
                exact tw_ua
            · rw [decide_eq_false (fun e2 => e e2.symm), Bool.not_false, Bool.and_true] at er
              rw [decide_eq_false (fun e2 => e3 e2.symm), Bool.not_false, Bool.and_true] at er2
              rw [er2, er, tw_uk (by omega), tw_uk (by omega)]
              refine ⟨fun h => ?_, fun h => (g1 r hr).2 h⟩
              have := (g1 r hr).1 h
              refine ⟨this.1, ?_⟩
              rw [this.2, emt, if_pos q, if_neg e, hd, if_neg (by omega), if_neg (by omega), Nat.add_sub_cancel]
        · simp (disch := omega) only [d36, ↓c_isb, eb, q, ↓c_without, ↓E1, ↓SeV0 hS, ↓SeG0_32 hS, ↓SeG0_33 hS, ↓SeG0_34 hS, ↓SeG0_35 hS, ↓SeI0_36 hS, ↓SeP0_36 hS, ↓SeZ0_36 hS, ↓SeL0 hS, ↓SeS0 hS, ↓SeL1 hS, ↓SeS1 hS, ↓SeL2 hS, ↓SeS2 hS, ↓SeL3 hS, ↓SeS3 hS, ↓A_if, ↓A_jn, ↓A_lt, ↓A_rz, ↓A_rn, ↓A_nzi, ↓A_nzl, ↓A_nn1, ↓A_nn0, ↓reduceIte, true_and, and_true, if_true, if_false, ite_true, ite_false, reduceIte, tl_0, tl_1, tl_2, tl_3, tl_4, tl_5, tl_6, tl_7, tl_8, tl_9, tl_10, tl_11, tl_12, tl_13, tl_14, tl_15, tl_16, tl_17, tl_18, tl_19, tl_20, tl_21, tl_22, tl_23, tl_24, tl_25, tl_26, tl_27, tl_28, tl_29, tl_30, tl_31, tl_32, tl_33, tl_34, tl_35, tl_36, tl_37, tl_38, tl_39, tl_40, tl_41, tl_42, tl_43, tl_44, tl_45, tl_46, tl_47, tl_48, tl_49, tl_50, tl_51, tl_52, tl_53, tl_54, tl_57, tl_59, tl_60, tl_62, tl_63, tl_64, tl_97, tl_99, tl_100, tl_120, tl_122, tl_192, tl_193, tl_194, tl_195, tl_196, tl_255, tl_256, tl_299, tl_400, tl_401, tl_492, tl_493, tl_541, tl_849, tl_999, tl_1000, tl_1341, tl_1342, tl_1390, tl_2190, tl_5412, tl_5904, tl_9999, tl_12345, tl_32767, tl_65536, tl_1000000, tl_252645135, tl_858993459, tl_1103515245, tl_1431655765, nz_31, nz_c31, eq_self, or_true, true_or, or_false, false_or, Nat.add_zero, nz_lt, nz_le, nz_eq, nz_cl, nz_sub, nI_add, pk_mul, nt_lt, nf_lt, nf_eq, nz_mI, mI_eq, mI_eq', mI_lt, mI_gt, mI_add, ↓j_max, ↓j_min, Nat.sub_sub, Nat.reduceAdd, Nat.reduceSub, Nat.reduceLT, Nat.reduceEqDiff, Bool.false_eq_true]
    · have q2 : z.testBit i = false := by simpa using q
      have ew := tw_wt_n (z := z) (p := i) (by omega) (by omega) q2
      rw [if_neg q]
      refine ⟨μ1, ⟨F1, fun r hr => ⟨fun h => ?_, fun h => (g1 r hr).2 h⟩⟩, fun k rec => ?_⟩
      · have := (g1 r hr).1 h
        exact ⟨this.1, by rw [this.2, emt, if_neg q]⟩
      · simp (disch := omega) only [d36, ↓c_isb, eb, q, ↓c_without, ew, mI0, ↓SeV0 hS, ↓SeG0_32 hS, ↓SeG0_33 hS, ↓SeG0_34 hS, ↓SeG0_35 hS, ↓SeI0_36 hS, ↓SeP0_36 hS, ↓SeZ0_36 hS, ↓SeL0 hS, ↓SeS0 hS, ↓SeL1 hS, ↓SeS1 hS, ↓SeL2 hS, ↓SeS2 hS, ↓SeL3 hS, ↓SeS3 hS, ↓A_if, ↓A_jn, ↓A_lt, ↓A_rz, ↓A_rn, ↓A_nzi, ↓A_nzl, ↓A_nn1, ↓A_nn0, ↓reduceIte, true_and, and_true, if_true, if_false, ite_true, ite_false, reduceIte, tl_0, tl_1, tl_2, tl_3, tl_4, tl_5, tl_6, tl_7, tl_8, tl_9, tl_10, tl_11, tl_12, tl_13, tl_14, tl_15, tl_16, tl_17, tl_18, tl_19, tl_20, tl_21, tl_22, tl_23, tl_24, tl_25, tl_26, tl_27, tl_28, tl_29, tl_30, tl_31, tl_32, tl_33, tl_34, tl_35, tl_36, tl_37, tl_38, tl_39, tl_40, tl_41, tl_42, tl_43, tl_44, tl_45, tl_46, tl_47, tl_48, tl_49, tl_50, tl_51, tl_52, tl_53, tl_54, tl_57, tl_59, tl_60, tl_62, tl_63, tl_64, tl_97, tl_99, tl_100, tl_120, tl_122, tl_192, tl_193, tl_194, tl_195, tl_196, tl_255, tl_256, tl_299, tl_400, tl_401, tl_492, tl_493, tl_541, tl_849, tl_999, tl_1000, tl_1341, tl_1342, tl_1390, tl_2190, tl_5412, tl_5904, tl_9999, tl_12345, tl_32767, tl_65536, tl_1000000, tl_252645135, tl_858993459, tl_1103515245, tl_1431655765, nz_31, nz_c31, eq_self, or_true, true_or, or_false, false_or, Nat.add_zero, nz_lt, nz_le, nz_eq, nz_cl, nz_sub, nI_add, pk_mul, nt_lt, nf_lt, nf_eq, nz_mI, mI_eq, mI_eq', mI_lt, mI_gt, mI_add, ↓j_max, ↓j_min, Nat.sub_sub, Nat.reduceAdd, Nat.reduceSub, Nat.reduceLT, Nat.reduceEqDiff, Bool.false_eq_true]
  · rintro μ1 ⟨F1, g1⟩
    obtain ⟨z1, z2⟩ := tw_zz_s (M := M) (Wt := Wt) h8 P (by omega)
    have d36 : μ1 s 36 = nI P := by rw [F1 s (by omega)]; exact e36
    refine ⟨μ1, ⟨F1, fun r hr => (g1 r hr).2 (z2 r hr)⟩, fun k rec => ?_⟩
    simp (disch := omega) only [d36, ↓SeV0 hS, ↓SeG0_32 hS, ↓SeG0_33 hS, ↓SeG0_34 hS, ↓SeG0_35 hS, ↓SeI0_36 hS, ↓SeP0_36 hS, ↓SeZ0_36 hS, ↓SeL0 hS, ↓SeS0 hS, ↓SeL1 hS, ↓SeS1 hS, ↓SeL2 hS, ↓SeS2 hS, ↓SeL3 hS, ↓SeS3 hS, ↓A_if, ↓A_jn, ↓A_lt, ↓A_rz, ↓A_rn, ↓A_nzi, ↓A_nzl, ↓A_nn1, ↓A_nn0, ↓reduceIte, true_and, and_true, if_true, if_false, ite_true, ite_false, reduceIte, tl_0, tl_1, tl_2, tl_3, tl_4, tl_5, tl_6, tl_7, tl_8, tl_9, tl_10, tl_11, tl_12, tl_13, tl_14, tl_15, tl_16, tl_17, tl_18, tl_19, tl_20, tl_21, tl_22, tl_23, tl_24, tl_25, tl_26, tl_27, tl_28, tl_29, tl_30, tl_31, tl_32, tl_33, tl_34, tl_35, tl_36, tl_37, tl_38, tl_39, tl_40, tl_41, tl_42, tl_43, tl_44, tl_45, tl_46, tl_47, tl_48, tl_49, tl_50, tl_51, tl_52, tl_53, tl_54, tl_57, tl_59, tl_60, tl_62, tl_63, tl_64, tl_97, tl_99, tl_100, tl_120, tl_122, tl_192, tl_193, tl_194, tl_195, tl_196, tl_255, tl_256, tl_299, tl_400, tl_401, tl_492, tl_493, tl_541, tl_849, tl_999, tl_1000, tl_1341, tl_1342, tl_1390, tl_2190, tl_5412, tl_5904, tl_9999, tl_12345, tl_32767, tl_65536, tl_1000000, tl_252645135, tl_858993459, tl_1103515245, tl_1431655765, nz_31, nz_c31, eq_self, or_true, true_or, or_false, false_or, Nat.add_zero, nz_lt, nz_le, nz_eq, nz_cl, nz_sub, nI_add, pk_mul, nt_lt, nf_lt, nf_eq, nz_mI, mI_eq, mI_eq', mI_lt, mI_gt, mI_add, ↓j_max, ↓j_min, Nat.sub_sub, Nat.reduceAdd, Nat.reduceSub, Nat.reduceLT, Nat.reduceEqDiff, Bool.false_eq_true]
theorem c_putF (hS : tw_Se sh s) (H : tw_RC sh μ a T) (hP : T 0 = nI P) (h8 : P ≤ 8) (hd : s + 5 ≤ a ∨ a + 9 ≤ s) (hw : ∀ p o, p < o → o < P → μ (s + 2) (8 * p + o) = nI (Wt p o)) (hW : ∀ p o, Wt p o ≤ 60) : ∃ μ', (tw_fx s (s + 5) μ μ' ∧ μ' s 36 = nI P ∧ (∀ z, z < 2 ^ P → μ' (s + 3) z = nI (tw_tb2 Wt P (2 ^ P) z)) ∧ ∀ q, q < P → μ' (s + 4) q = tw_mtt (tw_tb2 Wt P (2 ^ P)) Wt P P 0 (2 ^ P - 1) q) ∧ ∀ k, f_X5_putTogether s a k (sh, μ, la, n) = k () (sh, μ', la, n) := by
  have h2 := tw_p256 h8
  have hpp := Nat.two_pow_pos P
  have hm : ¬ nI 8 < nI P := by rw [nz_lt (by omega) (by omega)]; omega
  simp (disch := omega) only [f_X5_putTogether, Rc_46 H, hP, hm, ↓SeV0 hS, ↓SeG0_32 hS, ↓SeG0_33 hS, ↓SeG0_34 hS, ↓SeG0_35 hS, ↓SeI0_36 hS, ↓SeP0_36 hS, ↓SeZ0_36 hS, ↓SeL0 hS, ↓SeS0 hS, ↓SeL1 hS, ↓SeS1 hS, ↓SeL2 hS, ↓SeS2 hS, ↓SeL3 hS, ↓SeS3 hS, ↓TnV0 H.1, ↓TnG0_39 H.1, ↓TnG0_40 H.1, ↓TnG0_41 H.1, ↓TnG0_42 H.1, ↓TnG0_43 H.1, ↓TnG0_44 H.1, ↓TnG0_45 H.1, ↓TnI0_46 H.1, ↓TnP0_46 H.1, ↓TnZ0_46 H.1, ↓TnI0_47 H.1, ↓TnP0_47 H.1, ↓TnZ0_47 H.1, ↓TnI0_48 H.1, ↓TnP0_48 H.1, ↓TnZ0_48 H.1, ↓TnI0_49 H.1, ↓TnP0_49 H.1, ↓TnZ0_49 H.1, ↓TnI0_50 H.1, ↓TnP0_50 H.1, ↓TnZ0_50 H.1, ↓TnI0_51 H.1, ↓TnP0_51 H.1, ↓TnZ0_51 H.1, ↓TnI0_52 H.1, ↓TnP0_52 H.1, ↓TnZ0_52 H.1, ↓TnV1 H.1, ↓TnG1_19 H.1, ↓TnI1_20 H.1, ↓TnP1_20 H.1, ↓TnZ1_20 H.1, ↓TnI1_21 H.1, ↓TnP1_21 H.1, ↓TnZ1_21 H.1, ↓TnL0 H.1, ↓TnS0 H.1, ↓TnL1 H.1, ↓TnS1 H.1, ↓TnL2 H.1, ↓TnS2 H.1, ↓TnL3 H.1, ↓TnS3 H.1, ↓TnL4 H.1, ↓TnS4 H.1, ↓TnL5 H.1, ↓TnS5 H.1, ↓TnL6 H.1, ↓TnS6 H.1, ↓A_if, ↓A_jn, ↓A_lt, ↓A_rz, ↓A_rn, ↓A_nzi, ↓A_nzl, ↓A_nn1, ↓A_nn0, ↓reduceIte, true_and, and_true, if_true, if_false, ite_true, ite_false, reduceIte, tl_0, tl_1, tl_2, tl_3, tl_4, tl_5, tl_6, tl_7, tl_8, tl_9, tl_10, tl_11, tl_12, tl_13, tl_14, tl_15, tl_16, tl_17, tl_18, tl_19, tl_20, tl_21, tl_22, tl_23, tl_24, tl_25, tl_26, tl_27, tl_28, tl_29, tl_30, tl_31, tl_32, tl_33, tl_34, tl_35, tl_36, tl_37, tl_38, tl_39, tl_40, tl_41, tl_42, tl_43, tl_44, tl_45, tl_46, tl_47, tl_48, tl_49, tl_50, tl_51, tl_52, tl_53, tl_54, tl_57, tl_59, tl_60, tl_62, tl_63, tl_64, tl_97, tl_99, tl_100, tl_120, tl_122, tl_192, tl_193, tl_194, tl_195, tl_196, tl_255, tl_256, tl_299, tl_400, tl_401, tl_492, tl_493, tl_541, tl_849, tl_999, tl_1000, tl_1341, tl_1342, tl_1390, tl_2190, tl_5412, tl_5904, tl_9999, tl_12345, tl_32767, tl_65536, tl_1000000, tl_252645135, tl_858993459, tl_1103515245, tl_1431655765, nz_31, nz_c31, eq_self, or_true, true_or, or_false, false_or, Nat.add_zero, nz_lt, nz_le, nz_eq, nz_cl, nz_sub, nI_add, pk_mul, nt_lt, nf_lt, nf_eq, nz_mI, mI_eq, mI_eq', mI_lt, mI_gt, mI_add, ↓j_max, ↓j_min, Nat.sub_sub, Nat.reduceAdd, Nat.reduceSub, Nat.reduceLT, Nat.reduceEqDiff, Bool.false_eq_true]
  refine tw_lp_ex (2 ^ P) (fun i => nI i) (fun i μ' => tw_fx s (s + 5) μ μ' ∧ μ' (s + 2) = μ (s + 2) ∧ μ' s 36 = nI P ∧ ∀ z, z < i → μ' (s + 3) z = nI (tw_tb2 Wt P i z)) rfl ⟨fun x hx => tw_up_ne (by omega), tw_up_ne (by omega), tw_ua, fun z hz => absurd hz (Nat.not_lt_zero z)⟩ ?_ ?_
  · rintro i hi μ1 ⟨F1, e2, e36, g1⟩
    have hal := fun k => tw_al_ar (μ := μ1) (la := la) (N := n) hS.2.2.2.1 (by decide) k
    have E1 := fun k => c_mostOf (μ := μ1) (la := la) (n := n) (f := tw_tb2 Wt P i) (Wt := Wt) hS e36 h8 hi g1 (fun p o h1 h3 => by rw [e2]; exact hw p o h1 h3) (fun y _ => tw_tb2_l hW i (by omega) y) hW k
    refine ⟨tw_up μ1 (s + 3) i (nI (if i = 0 then 0 else tw_tm (tw_tb2 Wt P i) Wt P i)), ⟨fun x hx => by rw [tw_up_ne (by omega)]; exact F1 x hx, by rw [tw_up_ne (by omega)]; exact e2, by rw [tw_up_ne (by omega)]; exact e36, fun z hz => ?_⟩, fun k rec => ?_⟩
    · have et : tw_tb2 Wt P (i + 1) z = if z = i then (if i = 0 then 0 else tw_tm (tw_tb2 Wt P i) Wt P i) else tw_tb2 Wt P i z := rfl
      rw [et]
      by_cases e : z = i
      · subst e
        rw [if_pos rfl]
        exact tw_ua
      · rw [if_neg e, tw_uk (by omega)]
        exact g1 z (by omega)
    · simp (disch := omega) only [e36, ↓c_all hS e36 h8, ↓hal, ↓E1, ↓SeV0 hS, ↓SeG0_32 hS, ↓SeG0_33 hS, ↓SeG0_34 hS, ↓SeG0_35 hS, ↓SeI0_36 hS, ↓SeP0_36 hS, ↓SeZ0_36 hS, ↓SeL0 hS, ↓SeS0 hS, ↓SeL1 hS, ↓SeS1 hS, ↓SeL2 hS, ↓SeS2 hS, ↓SeL3 hS, ↓SeS3 hS, ↓A_if, ↓A_jn, ↓A_lt, ↓A_rz, ↓A_rn, ↓A_nzi, ↓A_nzl, ↓A_nn1, ↓A_nn0, ↓reduceIte, true_and, and_true, if_true, if_false, ite_true, ite_false, reduceIte, tl_0, tl_1, tl_2, tl_3, tl_4, tl_5, tl_6, tl_7, tl_8, tl_9, tl_10, tl_11, tl_12, tl_13, tl_14, tl_15, tl_16, tl_17, tl_18, tl_19, tl_20, tl_21, tl_22, tl_23, tl_24, tl_25, tl_26, tl_27, tl_28, tl_29, tl_30, tl_31, tl_32, tl_33, tl_34, tl_35, tl_36, tl_37, tl_38, tl_39, tl_40, tl_41, tl_42, tl_43, tl_44, tl_45, tl_46, tl_47, tl_48, tl_49, tl_50, tl_51, tl_52, tl_53, tl_54, tl_57, tl_59, tl_60, tl_62, tl_63, tl_64, tl_97, tl_99, tl_100, tl_120, tl_122, tl_192, tl_193, tl_194, tl_195, tl_196, tl_255, tl_256, tl_299, tl_400, tl_401, tl_492, tl_493, tl_541, tl_849, tl_999, tl_1000, tl_1341, tl_1342, tl_1390, tl_2190, tl_5412, tl_5904, tl_9999, tl_12345, tl_32767, tl_65536, tl_1000000, tl_252645135, tl_858993459, tl_1103515245, tl_1431655765, nz_31, nz_c31, eq_self, or_true, true_or, or_false, false_or, Nat.add_zero, nz_lt, nz_le, nz_eq, nz_cl, nz_sub, nI_add, pk_mul, nt_lt, nf_lt, nf_eq, nz_mI, mI_eq, mI_eq', mI_lt, mI_gt, mI_add, ↓j_max, ↓j_min, Nat.sub_sub, Nat.reduceAdd, Nat.reduceSub, Nat.reduceLT, Nat.reduceEqDiff, Bool.false_eq_true]
  · rintro μ1 ⟨F1, e2, e36, g1⟩
    obtain ⟨μ2, ⟨F2, g2⟩, E2⟩ := c_fillM (μ := μ1) (la := la) (n := n) hS
    have d36 : μ2 s 36 = nI P := by rw [F2 s (by omega)]; exact e36
    obtain ⟨μ3, ⟨F3, g3⟩, E3⟩ := c_put3 (μ := μ2) (la := la) (n := n) hS d36 h8 (tw_tb2_M h8 hW) (fun y hy => by rw [F2 _ (by omega)]; exact g1 y hy) (fun p o h1 h3 => by rw [F2 _ (by omega), e2]; exact hw p o h1 h3) g2
    refine ⟨μ3, ⟨fun x hx => by rw [F3 x (by omega), F2 x (by omega)]; exact F1 x hx, by rw [F3 s (by omega)]; exact d36, fun z hz => by rw [F3 _ (by omega), F2 _ (by omega)]; exact g1 z hz, g3⟩, fun k rec => ?_⟩
    rw [← E3 k]
    simp (disch := omega) only [e36, d36, ↓c_all hS e36 h8, ↓c_all hS d36 h8, ↓E2, ↓SeV0 hS, ↓SeG0_32 hS, ↓SeG0_33 hS, ↓SeG0_34 hS, ↓SeG0_35 hS, ↓SeI0_36 hS, ↓SeP0_36 hS, ↓SeZ0_36 hS, ↓SeL0 hS, ↓SeS0 hS, ↓SeL1 hS, ↓SeS1 hS, ↓SeL2 hS, ↓SeS2 hS, ↓SeL3 hS, ↓SeS3 hS, ↓A_if, ↓A_jn, ↓A_lt, ↓A_rz, ↓A_rn, ↓A_nzi, ↓A_nzl, ↓A_nn1, ↓A_nn0, ↓reduceIte, true_and, and_true, if_true, if_false, ite_true, ite_false, reduceIte, tl_0, tl_1, tl_2, tl_3, tl_4, tl_5, tl_6, tl_7, tl_8, tl_9, tl_10, tl_11, tl_12, tl_13, tl_14, tl_15, tl_16, tl_17, tl_18, tl_19, tl_20, tl_21, tl_22, tl_23, tl_24, tl_25, tl_26, tl_27, tl_28, tl_29, tl_30, tl_31, tl_32, tl_33, tl_34, tl_35, tl_36, tl_37, tl_38, tl_39, tl_40, tl_41, tl_42, tl_43, tl_44, tl_45, tl_46, tl_47, tl_48, tl_49, tl_50, tl_51, tl_52, tl_53, tl_54, tl_57, tl_59, tl_60, tl_62, tl_63, tl_64, tl_97, tl_99, tl_100, tl_120, tl_122, tl_192, tl_193, tl_194, tl_195, tl_196, tl_255, tl_256, tl_299, tl_400, tl_401, tl_492, tl_493, tl_541, tl_849, tl_999, tl_1000, tl_1341, tl_1342, tl_1390, tl_2190, tl_5412, tl_5904, tl_9999, tl_12345, tl_32767, tl_65536, tl_1000000, tl_252645135, tl_858993459, tl_1103515245, tl_1431655765, nz_31, nz_c31, eq_self, or_true, true_or, or_false, false_or, Nat.add_zero, nz_lt, nz_le, nz_eq, nz_cl, nz_sub, nI_add, pk_mul, nt_lt, nf_lt, nf_eq, nz_mI, mI_eq, mI_eq', mI_lt, mI_gt, mI_add, ↓j_max, ↓j_min, Nat.sub_sub, Nat.reduceAdd, Nat.reduceSub, Nat.reduceLT, Nat.reduceEqDiff, Bool.false_eq_true]
theorem c_weigh (hA : tw_Pa sh b) (hw : tw_Tw sh (b + 152)) (hS : tw_Se sh (b + 157)) (H : tw_RC sh μ (b + 3) T) (W : tw_WF T P) (HL : tw_La sh μ lw T) (hdl : b + 161 < lw) : ∃ μ', ((∀ y, ¬ (b + 152 ≤ y ∧ y < b + 154) → y ≠ b + 159 → y ≠ lw + 1 → μ' y = μ y) ∧ ∀ p o, p < o → o < P → μ' (b + 159) (8 * p + o) = nI (tw_las T p o P)) ∧ ∀ k, f_X4_weighFor (b + 154) (b + 157) lw k (sh, μ, la, n) = k () (sh, μ', la, n) := by
  have h8 := W.2.1
  have hP := W.1
  unfold f_X4_weighFor
  refine tw_lp_ex 64 (fun i => nI i) (fun i μ' => (∀ y, ¬ (b + 152 ≤ y ∧ y < b + 154) → y ≠ b + 159 → y ≠ lw + 1 → μ' y = μ y) ∧ ∀ p o, 8 * p + o < i → p < o → o < P → μ' (b + 159) (8 * p + o) = nI (tw_las T p o P)) rfl ⟨fun _ _ _ _ => rfl, fun p o h => absurd h (Nat.not_lt_zero _)⟩ ?_ ?_
  · rintro i hi μ1 ⟨F1, g1⟩
    have R1 : tw_RC sh μ1 (b + 3) T := Rc_same H (fun y h1 h2 => F1 y (by omega) (by omega) (by omega))
    have L1 : tw_La sh μ1 lw T := tw_La_same HL (fun y hy => F1 y (by omega) (by omega) (by omega)) rfl (fun _ _ => rfl)
    by_cases q : i / 8 < i % 8 ∧ i % 8 < P
    · obtain ⟨μ2, F2, E2⟩ := c_times (la := la) (n := n) hA hw R1 W L1 (by omega) (p := i / 8) (o := i % 8) (by omega) (by omega) (by omega)
      refine ⟨tw_up μ2 (b + 157 + 2) (8 * (i / 8) + i % 8) (nI (tw_las T (i / 8) (i % 8) P)), ⟨fun y a1 a2 a3 => by rw [tw_up_ne (by omega), F2 y (by omega) a3]; exact F1 y a1 a2 a3, fun p o h1 h2 h3 => ?_⟩, fun k rec => ?_⟩
      · by_cases e : 8 * p + o = i
        · have e1 : p = i / 8 := by omega
          have e2 : o = i % 8 := by omega
          subst e1
          subst e2
          exact tw_ua
        · show tw_up μ2 (b + 157 + 2) _ _ (b + 157 + 2) _ = _
          rw [tw_uk (by omega)]
          show μ2 (b + 159) _ = _
          rw [F2 (b + 159) (by omega) (by omega)]
          exact g1 p o (by omega) h2 h3
      · simp (disch := omega) only [f_X5_setWorth, f_X8_cell, ↓c_pHas hA R1 hP h8 hi, ↓c_less hi, ↓c_great hi, ↓E2, q, and_self, ↓PaV0 hA, ↓PaG0_25 hA, ↓PaG0_26 hA, ↓PaG0_27 hA, ↓PaG0_28 hA, ↓PaI0_29 hA, ↓PaP0_29 hA, ↓PaZ0_29 hA, ↓PaI0_30 hA, ↓PaP0_30 hA, ↓PaZ0_30 hA, ↓PaI0_31 hA, ↓PaP0_31 hA, ↓PaZ0_31 hA, ↓PaL0 hA, ↓PaS0 hA, ↓PaL1 hA, ↓PaS1 hA, ↓SeV0 hS, ↓SeG0_32 hS, ↓SeG0_33 hS, ↓SeG0_34 hS, ↓SeG0_35 hS, ↓SeI0_36 hS, ↓SeP0_36 hS, ↓SeZ0_36 hS, ↓SeL0 hS, ↓SeS0 hS, ↓SeL1 hS, ↓SeS1 hS, ↓SeL2 hS, ↓SeS2 hS, ↓SeL3 hS, ↓SeS3 hS, ↓A_if, ↓A_jn, ↓A_lt, ↓A_rz, ↓A_rn, ↓A_nzi, ↓A_nzl, ↓A_nn1, ↓A_nn0, ↓reduceIte, true_and, and_true, if_true, if_false, ite_true, ite_false, reduceIte, tl_0, tl_1, tl_2, tl_3, tl_4, tl_5, tl_6, tl_7, tl_8, tl_9, tl_10, tl_11, tl_12, tl_13, tl_14, tl_15, tl_16, tl_17, tl_18, tl_19, tl_20, tl_21, tl_22, tl_23, tl_24, tl_25, tl_26, tl_27, tl_28, tl_29, tl_30, tl_31, tl_32, tl_33, tl_34, tl_35, tl_36, tl_37, tl_38, tl_39, tl_40, tl_41, tl_42, tl_43, tl_44, tl_45, tl_46, tl_47, tl_48, tl_49, tl_50, tl_51, tl_52, tl_53, tl_54, tl_57, tl_59, tl_60, tl_62, tl_63, tl_64, tl_97, tl_99, tl_100, tl_120, tl_122, tl_192, tl_193, tl_194, tl_195, tl_196, tl_255, tl_256, tl_299, tl_400, tl_401, tl_492, tl_493, tl_541, tl_849, tl_999, tl_1000, tl_1341, tl_1342, tl_1390, tl_2190, tl_5412, tl_5904, tl_9999, tl_12345, tl_32767, tl_65536, tl_1000000, tl_252645135, tl_858993459, tl_1103515245, tl_1431655765, nz_31, nz_c31, eq_self, or_true, true_or, or_false, false_or, Nat.add_zero, nz_lt, nz_le, nz_eq, nz_cl, nz_sub, nI_add, pk_mul, nt_lt, nf_lt, nf_eq, nz_mI, mI_eq, mI_eq', mI_lt, mI_gt, mI_add, ↓j_max, ↓j_min, Nat.sub_sub, Nat.reduceAdd, Nat.reduceSub, Nat.reduceLT, Nat.reduceEqDiff, Bool.false_eq_true]
    · refine ⟨μ1, ⟨F1, fun p o h1 h2 h3 => g1 p o (by omega) h2 h3⟩, fun k rec => ?_⟩
      simp (disch := omega) only [↓c_pHas hA R1 hP h8 hi, q, ↓PaV0 hA, ↓PaG0_25 hA, ↓PaG0_26 hA, ↓PaG0_27 hA, ↓PaG0_28 hA, ↓PaI0_29 hA, ↓PaP0_29 hA, ↓PaZ0_29 hA, ↓PaI0_30 hA, ↓PaP0_30 hA, ↓PaZ0_30 hA, ↓PaI0_31 hA, ↓PaP0_31 hA, ↓PaZ0_31 hA, ↓PaL0 hA, ↓PaS0 hA, ↓PaL1 hA, ↓PaS1 hA, ↓A_if, ↓A_jn, ↓A_lt, ↓A_rz, ↓A_rn, ↓A_nzi, ↓A_nzl, ↓A_nn1, ↓A_nn0, ↓reduceIte, true_and, and_true, if_true, if_false, ite_true, ite_false, reduceIte, tl_0, tl_1, tl_2, tl_3, tl_4, tl_5, tl_6, tl_7, tl_8, tl_9, tl_10, tl_11, tl_12, tl_13, tl_14, tl_15, tl_16, tl_17, tl_18, tl_19, tl_20, tl_21, tl_22, tl_23, tl_24, tl_25, tl_26, tl_27, tl_28, tl_29, tl_30, tl_31, tl_32, tl_33, tl_34, tl_35, tl_36, tl_37, tl_38, tl_39, tl_40, tl_41, tl_42, tl_43, tl_44, tl_45, tl_46, tl_47, tl_48, tl_49, tl_50, tl_51, tl_52, tl_53, tl_54, tl_57, tl_59, tl_60, tl_62, tl_63, tl_64, tl_97, tl_99, tl_100, tl_120, tl_122, tl_192, tl_193, tl_194, tl_195, tl_196, tl_255, tl_256, tl_299, tl_400, tl_401, tl_492, tl_493, tl_541, tl_849, tl_999, tl_1000, tl_1341, tl_1342, tl_1390, tl_2190, tl_5412, tl_5904, tl_9999, tl_12345, tl_32767, tl_65536, tl_1000000, tl_252645135, tl_858993459, tl_1103515245, tl_1431655765, nz_31, nz_c31, eq_self, or_true, true_or, or_false, false_or, Nat.add_zero, nz_lt, nz_le, nz_eq, nz_cl, nz_sub, nI_add, pk_mul, nt_lt, nf_lt, nf_eq, nz_mI, mI_eq, mI_eq', mI_lt, mI_gt, mI_add, ↓j_max, ↓j_min, Nat.sub_sub, Nat.reduceAdd, Nat.reduceSub, Nat.reduceLT, Nat.reduceEqDiff, Bool.false_eq_true]
  · rintro μ1 ⟨F1, g1⟩
    refine ⟨μ1, ⟨F1, fun p o h2 h3 => g1 p o (by omega) h2 h3⟩, fun k rec => ?_⟩
    simp (disch := omega) only [↓A_if, ↓A_jn, ↓A_lt, ↓A_rz, ↓A_rn, ↓A_nzi, ↓A_nzl, ↓A_nn1, ↓A_nn0, ↓reduceIte, true_and, and_true, if_true, if_false, ite_true, ite_false, reduceIte, tl_0, tl_1, tl_2, tl_3, tl_4, tl_5, tl_6, tl_7, tl_8, tl_9, tl_10, tl_11, tl_12, tl_13, tl_14, tl_15, tl_16, tl_17, tl_18, tl_19, tl_20, tl_21, tl_22, tl_23, tl_24, tl_25, tl_26, tl_27, tl_28, tl_29, tl_30, tl_31, tl_32, tl_33, tl_34, tl_35, tl_36, tl_37, tl_38, tl_39, tl_40, tl_41, tl_42, tl_43, tl_44, tl_45, tl_46, tl_47, tl_48, tl_49, tl_50, tl_51, tl_52, tl_53, tl_54, tl_57, tl_59, tl_60, tl_62, tl_63, tl_64, tl_97, tl_99, tl_100, tl_120, tl_122, tl_192, tl_193, tl_194, tl_195, tl_196, tl_255, tl_256, tl_299, tl_400, tl_401, tl_492, tl_493, tl_541, tl_849, tl_999, tl_1000, tl_1341, tl_1342, tl_1390, tl_2190, tl_5412, tl_5904, tl_9999, tl_12345, tl_32767, tl_65536, tl_1000000, tl_252645135, tl_858993459, tl_1103515245, tl_1431655765, nz_31, nz_c31, eq_self, or_true, true_or, or_false, false_or, Nat.add_zero, nz_lt, nz_le, nz_eq, nz_cl, nz_sub, nI_add, pk_mul, nt_lt, nf_lt, nf_eq, nz_mI, mI_eq, mI_eq', mI_lt, mI_gt, mI_add, ↓j_max, ↓j_min, Nat.sub_sub, Nat.reduceAdd, Nat.reduceSub, Nat.reduceLT, Nat.reduceEqDiff, Bool.false_eq_true]
end P94
