/-! ===== pure: both pull, both meet ===== -/
def tw_g2 (T : Nat → Int32) (p o : Nat) (a b : Int32) : Nat → Int32 := tw_u1 (tw_u1 T (32 + 20 * p + (4 + o)) a) (32 + 20 * o + (4 + p)) b
def tw_r2 (T : Nat → Int32) (p o : Nat) (r : Int32) : Nat → Int32 := tw_u1 (tw_u1 T (32 + 20 * p + (12 + o)) r) (32 + 20 * o + (12 + p)) r
def tw_m99 (x : Int32) : Int32 := if x + nI 1 < nI 99 then x + nI 1 else nI 99
theorem tw_m99_c {x : Int32} {r : Nat} (e : x = nI r) (hr : r < 100) : (if nI 99 < x + nI 1 then nI 99 else x + nI 1) = tw_m99 x := by
  subst e
  unfold tw_m99
  rw [nI_add]
  rcases (by omega : r + 1 < 99 ∨ r + 1 = 99 ∨ r + 1 = 100) with h | h | h
  · have a1 : ¬ nI 99 < nI (r + 1) := by rw [nz_lt (by omega) (by omega)]; omega
    have a2 : nI (r + 1) < nI 99 := by rw [nz_lt (by omega) (by omega)]; omega
    rw [if_neg a1, if_pos a2]
  · rw [h]; try decide
  · rw [h]; try decide
theorem tw_m99_n {r : Nat} (hr : r < 100) : ∃ q, q < 100 ∧ tw_m99 (nI r) = nI q := by
  unfold tw_m99
  rw [nI_add]
  split
  · rename_i h
    rw [nz_lt (by omega) (by omega)] at h
    exact ⟨r + 1, by omega, rfl⟩
  · exact ⟨99, by omega, rfl⟩
theorem tw_clamp_n (v : Int32) : ∃ q, q < 10 ∧ tw_clamp v = nI q := by
  unfold tw_clamp
  by_cases h2 : v < nI 9
  · rw [if_pos h2]
    by_cases h : nI 0 < v
    · rw [if_pos h]
      exact nz_rng (P := 10) (by omega) (by rw [tl_0]; exact Int32.not_lt.mpr (Int32.le_of_lt h)) (Int32.lt_trans h2 (by decide))
    · rw [if_neg h]
      exact ⟨0, by omega, rfl⟩
  · rw [if_neg h2, if_pos (by decide)]
    exact ⟨9, by omega, rfl⟩
def tw_pull (T : Nat → Int32) (p o : Nat) : Nat → Int32 := if tw_rg T p o = nI 1 then tw_r2 (tw_g2 T p o (tw_clamp (T (32 + 20 * p + (4 + o)) + tw_snd T p o)) (tw_clamp (T (32 + 20 * o + (4 + p)) + tw_snd T o p))) p o (tw_m99 (T (32 + 20 * p + (12 + o)))) else tw_g2 T p o (tw_clamp (T (32 + 20 * p + (4 + o)) + tw_snd T p o)) (tw_clamp (T (32 + 20 * o + (4 + p)) + tw_snd T o p))
def tw_meet (T : Nat → Int32) (p o : Nat) : Nat → Int32 := tw_g2 T p o (tw_clamp (T (32 + 20 * p + (4 + o)) + tw_lts T p o)) (tw_clamp (T (32 + 20 * o + (4 + p)) + tw_lts T o p))
theorem tw_LT_same {T T' : Nat → Int32} {z : Nat} (H : tw_LT T z) (h2 : T' 2 = T 2) (h : ∀ j, 492 ≤ j → T' j = T j) : tw_LT T' z := by
  obtain ⟨a, b, ⟨N, c, d, e⟩, f⟩ := H
  have hC : ∀ q, tw_tC T q = tw_tC T' q := fun q => by unfold tw_tC; rw [h _ (by omega), h _ (by omega)]
  refine ⟨h2.trans a, b, ⟨N, c, (h 492 (by omega)).trans d, fun i hi => ?_⟩, fun q hq => ?_⟩
  · rw [h _ (by omega), h _ (by omega), h _ (by omega), h _ (by omega)]
    obtain ⟨e1, e2, f, l, e3, e4, e5, e6, e7, e8⟩ := e i hi
    refine ⟨e1, e2, f, l, e3, e4, e5, e6, fun j hj => by rw [h _ (by omega)]; exact e7 j hj, ?_⟩
    rcases e8 with g | g
    · exact Or.inl g
    · exact Or.inr (tw_sA_congr (fun q _ _ => hC q) g)
  · rw [h _ (by omega), h _ (by omega)]
    exact f q hq
theorem tw_LX_same {T T' : Nat → Int32} (H : tw_LX T) (h2 : T' 2 = T 2) (h : ∀ j, 492 ≤ j → T' j = T j) : tw_LX T' := by
  rcases H with H | ⟨z, H⟩
  · exact Or.inl (h2.trans H)
  · exact Or.inr ⟨z, tw_LT_same H h2 h⟩
theorem tw_La_same {sh : tw_Sh} {μ μ' : Nat → Nat → Int32} {lw : Nat} {T T' : Nat → Int32} (H : tw_La sh μ lw T) (hm : ∀ x, x = lw ∨ (lw + 2 ≤ x ∧ x ≤ lw + 5) → μ' x = μ x) (h2 : T' 2 = T 2) (h : ∀ j, 492 ≤ j → T' j = T j) : tw_La sh μ' lw T' := by
  obtain ⟨hs, H⟩ := H
  refine ⟨hs, ?_⟩
  rcases H with ⟨h3, h4⟩ | ⟨z, h3, ⟨c1, c2, c3, c4, c5⟩⟩
  · exact Or.inl ⟨h2.trans h3, by rw [hm lw (Or.inl rfl)]; exact h4⟩
  · refine Or.inr ⟨z, tw_LT_same h3 h2 h, c1, c2, ?_, fun N i hN1 hN hi => ?_, fun q hq => ?_⟩
    · rw [hm lw (Or.inl rfl), h _ (by omega)]; exact c3
    · rw [h _ (by omega)] at hN
      rw [hm _ (by omega), hm _ (by omega), hm _ (by omega), h _ (by omega), h _ (by omega), h _ (by omega)]
      exact c4 N i hN1 hN hi
    · rw [hm _ (by omega)]
      have e : tw_tC T' q = tw_tC T q := by unfold tw_tC; rw [h _ (by omega), h _ (by omega)]
      rw [e]
      exact c5 q hq
theorem tw_La_X {sh : tw_Sh} {μ : Nat → Nat → Int32} {lw : Nat} {T : Nat → Int32} (H : tw_La sh μ lw T) : tw_LX T := by
  rcases H.2 with ⟨h, -⟩ | ⟨z, h, -⟩
  · exact Or.inl h
  · exact Or.inr ⟨z, h⟩
theorem tw_g2_o {T : Nat → Int32} {p o j : Nat} {a b : Int32} (hp : p < 8) (ho : o < 8) (hj : j < 36 ∨ 192 ≤ j) : tw_g2 T p o a b j = T j := by
  unfold tw_g2
  rw [tw_u1n (by omega), tw_u1n (by omega)]
theorem tw_r2_o {T : Nat → Int32} {p o j : Nat} {a : Int32} (hp : p < 8) (ho : o < 8) (hj : j < 36 ∨ 192 ≤ j) : tw_r2 T p o a j = T j := by
  unfold tw_r2
  rw [tw_u1n (by omega), tw_u1n (by omega)]
theorem tw_pull_o {T : Nat → Int32} {p o j : Nat} (hp : p < 8) (ho : o < 8) (hj : j < 36 ∨ 192 ≤ j) : tw_pull T p o j = T j := by
  unfold tw_pull
  split
  · rw [tw_r2_o hp ho hj, tw_g2_o hp ho hj]
  · rw [tw_g2_o hp ho hj]
theorem tw_meet_o {T : Nat → Int32} {p o j : Nat} (hp : p < 8) (ho : o < 8) (hj : j < 36 ∨ 192 ≤ j) : tw_meet T p o j = T j := tw_g2_o hp ho hj
/-- the class's two: only its values and the law's room have changed -/
def tw_wl (w lw : Nat) (μ μ' : Nat → Nat → Int32) : Prop := ∀ x, x ≠ w + 1 → x ≠ lw + 1 → μ' x = μ x
theorem tw_wl_t {w lw : Nat} {μ μ' μ'' : Nat → Nat → Int32} (h : tw_wl w lw μ μ') (h2 : tw_wl w lw μ' μ'') : tw_wl w lw μ μ'' := fun x a b => (h2 x a b).trans (h x a b)
theorem tw_wl_r {w lw : Nat} {μ : Nat → Nat → Int32} : tw_wl w lw μ μ := fun _ _ _ => rfl
theorem tw_wl_1 {w lw i : Nat} {μ : Nat → Nat → Int32} {v : Int32} : tw_wl w lw μ (tw_up μ (w + 1) i v) := fun _ a _ => tw_up_ne a
theorem tw_wl_l {w lw : Nat} {μ : Nat → Nat → Int32} {s : Nat → Int32} : tw_wl w lw μ (tw_ra μ (lw + 1) s) := fun _ _ b => tw_ra_n (by omega)
theorem tw_wl_La {sh : tw_Sh} {μ μ' : Nat → Nat → Int32} {w lw : Nat} {T : Nat → Int32} (H : tw_La sh μ lw T) (h : tw_wl w lw μ μ') (hd : w + 1 < lw ∨ lw + 5 < w) : tw_La sh μ' lw T := tw_La_same H (fun x hx => h x (by omega) (by omega)) rfl (fun _ _ => rfl)
theorem tw_2_same {μ μ' : Nat → Nat → Int32} {w p o : Nat} {T : Nat → Int32} {rg : Int32} (H : tw_2 μ w T p o rg) (h0 : μ' w = μ w) (h1 : μ' (w + 1) = μ (w + 1)) : tw_2 μ' w T p o rg := by
  unfold tw_2
  rw [h0, h1]
  exact H
theorem tw_2_rg {μ : Nat → Nat → Int32} {w p o : Nat} {T : Nat → Int32} {rg v : Int32} (H : tw_2 μ w T p o rg) : tw_2 (tw_up μ (w + 1) 10 v) w T p o v := by
  obtain ⟨e0, e1, e2, e3, e4, e5, e6, e7, e8, e9, e10, e11⟩ := H
  unfold tw_2
  simp (disch := omega) only [↓tw_un, ↓tw_uk, ↓tw_ua, ↓tw_cpf_ne, ↓tw_cpf_in, ↓tw_cpf_out]
  exact ⟨e0, e1, e2, e3, e4, e5, e6, e7, e8, e9, trivial, e11⟩
theorem Wf_u {T : Nat → Int32} {P p o : Nat} (W : tw_WF T P) (hp : p < 8) (ho : o < 8) : (∃ x, x < 100 ∧ T (32 + 20 * p + (12 + o)) = nI x ∧ (p = o ∨ P ≤ p ∨ P ≤ o → x = 0)) ∧ T (32 + 20 * p + (12 + o)) = T (32 + 20 * o + (12 + p)) := (W.2.2.2.2.2.2.2.2.1 p o hp ho).2
section P58
variable {sh : tw_Sh} {μ : Nat → Nat → Int32} {la : Nat → Nat → Int64} {n a b w m lw P N : Nat} {p o l h i j z c x y f q kd : Nat} {T : Nat → Int32} {v u rg tn : Int32} {F : Nat → Int32} {C : Nat → Nat × Nat} {s : Nat → Int32}
theorem c_amt0 (hw : tw_Tw sh w) (HL : tw_La sh μ lw T) (W : tw_WF T P) (hp : p < 8) (hd : w + 1 < lw ∨ lw + 5 < w) (h2 : tw_2 μ w T p o rg) (hr : tw_tf rg) (hkd : kd = 0 ∨ kd = 2) : ∃ μ', (∃ s, μ' = tw_ra μ (lw + 1) s) ∧ ∀ k, f_X0_amountFor lw (nI kd) w (nI 0) k (sh, μ, la, n) = k (if T 2 = nI 0 then (if kd = 2 then nI 2 else nI 1) else tw_so T (tw_fc T rg p o) kd (tw_nt (T 492)) - tw_so T (tw_fc T rg p o) 1 (tw_nt (T 492))) (sh, μ', la, n) := by
  obtain ⟨hs, ⟨h3, h4⟩ | ⟨z, h3, h4⟩⟩ := HL
  · refine ⟨tw_ra μ (lw + 1) (μ (lw + 1)), ⟨μ (lw + 1), rfl⟩, fun k => ?_⟩
    have hf : ∀ k : Int32 → tw_Mem → Prop, tw_gi 0 lw k (sh, μ, la, n) = k (μ lw 0) (sh, μ, la, n) := fun k => by rw [A_gi, tw_is_fo (q := 0) (b := false) hs rfl rfl, true_and]
    rcases hkd with rfl | rfl <;> simp (disch := omega) only [f_X0_amountFor, h3, h4, ↓hf, tw_ra_s, ↓A_if, ↓A_jn, ↓A_lt, ↓A_rz, ↓A_rn, ↓A_nzi, ↓A_nzl, ↓A_nn1, ↓A_nn0, ↓reduceIte, true_and, and_true, if_true, if_false, ite_true, ite_false, reduceIte, tl_0, tl_1, tl_2, tl_3, tl_4, tl_5, tl_6, tl_7, tl_8, tl_9, tl_10, tl_11, tl_12, tl_13, tl_14, tl_15, tl_16, tl_17, tl_18, tl_19, tl_20, tl_21, tl_22, tl_23, tl_24, tl_25, tl_26, tl_27, tl_28, tl_29, tl_30, tl_31, tl_32, tl_33, tl_34, tl_35, tl_36, tl_37, tl_38, tl_39, tl_40, tl_41, tl_42, tl_43, tl_44, tl_45, tl_46, tl_47, tl_48, tl_49, tl_50, tl_51, tl_52, tl_53, tl_54, tl_57, tl_59, tl_60, tl_62, tl_63, tl_64, tl_97, tl_99, tl_100, tl_120, tl_122, tl_192, tl_193, tl_194, tl_195, tl_196, tl_255, tl_256, tl_299, tl_400, tl_401, tl_492, tl_493, tl_541, tl_849, tl_999, tl_1000, tl_1341, tl_1342, tl_1390, tl_2190, tl_5412, tl_5904, tl_9999, tl_12345, tl_32767, tl_65536, tl_1000000, tl_252645135, tl_858993459, tl_1103515245, tl_1431655765, nz_31, nz_c31, eq_self, or_true, true_or, or_false, false_or, Nat.add_zero, nz_lt, nz_le, nz_eq, nz_cl, nz_sub, nI_add, pk_mul, nt_lt, nf_lt, nf_eq, nz_mI, mI_eq, mI_eq', mI_lt, mI_gt, mI_add, ↓j_max, ↓j_min, Nat.sub_sub, Nat.reduceAdd, Nat.reduceSub, Nat.reduceLT, Nat.reduceEqDiff, Bool.false_eq_true]
  · obtain ⟨e2, hN, hN2⟩ := tw_LT_N h3
    obtain ⟨μ', J, E⟩ := c_amount (la := la) (n := n) (tn := nI 0) (F := tw_fc T rg p o) h3 h4 hw.1 (tw_fc7 W hp) tw_fc8 hr (fun q y s k hq => w_val0 hw h2 hq (by omega) k) hN hN2 hkd
    refine ⟨μ', J, fun k => ?_⟩
    rw [E, e2, if_neg (by decide)]
theorem c_amt1 (hw : tw_Tw sh w) (HL : tw_La sh μ lw T) (W : tw_WF T P) (hp : p < 8) (ho : o < 8) (hd : w + 1 < lw ∨ lw + 5 < w) (h2 : tw_2 μ w T p o rg) (hr : tw_tf rg) (hkd : kd = 0 ∨ kd = 2) : ∃ μ', (∃ s, μ' = tw_ra μ (lw + 1) s) ∧ ∀ k, f_X0_amountFor lw (nI kd) w (nI 1) k (sh, μ, la, n) = k (if T 2 = nI 0 then (if kd = 2 then nI 2 else nI 1) else tw_so T (tw_fc T rg o p) kd (tw_nt (T 492)) - tw_so T (tw_fc T rg o p) 1 (tw_nt (T 492))) (sh, μ', la, n) := by
  obtain ⟨hs, ⟨h3, h4⟩ | ⟨z, h3, h4⟩⟩ := HL
  · refine ⟨tw_ra μ (lw + 1) (μ (lw + 1)), ⟨μ (lw + 1), rfl⟩, fun k => ?_⟩
    have hf : ∀ k : Int32 → tw_Mem → Prop, tw_gi 0 lw k (sh, μ, la, n) = k (μ lw 0) (sh, μ, la, n) := fun k => by rw [A_gi, tw_is_fo (q := 0) (b := false) hs rfl rfl, true_and]
    rcases hkd with rfl | rfl <;> simp (disch := omega) only [f_X0_amountFor, h3, h4, ↓hf, tw_ra_s, ↓A_if, ↓A_jn, ↓A_lt, ↓A_rz, ↓A_rn, ↓A_nzi, ↓A_nzl, ↓A_nn1, ↓A_nn0, ↓reduceIte, true_and, and_true, if_true, if_false, ite_true, ite_false, reduceIte, tl_0, tl_1, tl_2, tl_3, tl_4, tl_5, tl_6, tl_7, tl_8, tl_9, tl_10, tl_11, tl_12, tl_13, tl_14, tl_15, tl_16, tl_17, tl_18, tl_19, tl_20, tl_21, tl_22, tl_23, tl_24, tl_25, tl_26, tl_27, tl_28, tl_29, tl_30, tl_31, tl_32, tl_33, tl_34, tl_35, tl_36, tl_37, tl_38, tl_39, tl_40, tl_41, tl_42, tl_43, tl_44, tl_45, tl_46, tl_47, tl_48, tl_49, tl_50, tl_51, tl_52, tl_53, tl_54, tl_57, tl_59, tl_60, tl_62, tl_63, tl_64, tl_97, tl_99, tl_100, tl_120, tl_122, tl_192, tl_193, tl_194, tl_195, tl_196, tl_255, tl_256, tl_299, tl_400, tl_401, tl_492, tl_493, tl_541, tl_849, tl_999, tl_1000, tl_1341, tl_1342, tl_1390, tl_2190, tl_5412, tl_5904, tl_9999, tl_12345, tl_32767, tl_65536, tl_1000000, tl_252645135, tl_858993459, tl_1103515245, tl_1431655765, nz_31, nz_c31, eq_self, or_true, true_or, or_false, false_or, Nat.add_zero, nz_lt, nz_le, nz_eq, nz_cl, nz_sub, nI_add, pk_mul, nt_lt, nf_lt, nf_eq, nz_mI, mI_eq, mI_eq', mI_lt, mI_gt, mI_add, ↓j_max, ↓j_min, Nat.sub_sub, Nat.reduceAdd, Nat.reduceSub, Nat.reduceLT, Nat.reduceEqDiff, Bool.false_eq_true]
  · obtain ⟨e2, hN, hN2⟩ := tw_LT_N h3
    obtain ⟨μ', J, E⟩ := c_amount (la := la) (n := n) (tn := nI 1) (F := tw_fc T rg o p) h3 h4 hw.1 (tw_fc7 W ho) tw_fc8 hr (fun q y s k hq => w_val1 hw h2 (Wf_u W hp ho).2 hq (by omega) k) hN hN2 hkd
    refine ⟨μ', J, fun k => ?_⟩
    rw [E, e2, if_neg (by decide)]
theorem w_tone (hw : tw_Tw sh w) (W : tw_WF T P) (hp : p < 8) (ho : o < 8) (h2 : tw_2 μ w T p o rg) (k : Int32 → tw_Mem → Prop) : f_X10_toneNow w k (sh, μ, la, n) = k (tw_tn (T (32 + 20 * p + (4 + o))) (T (32 + 20 * o + (4 + p))) (T 5)) (sh, μ, la, n) := by
  obtain ⟨e0, e1, e2, e3, e4, e5, e6, e7, e8, e9, e10, e11⟩ := h2
  obtain ⟨x, hx, ex, -⟩ := Wf_g W hp ho
  obtain ⟨y, hy, ey, -⟩ := Wf_g W ho hp
  rw [w_toneNow hw hx hy (e2.trans ex) (e3.trans ey), e2, e3, e11]
theorem c_heard0 (hw : tw_Tw sh w) (HL : tw_La sh μ lw T) (W : tw_WF T P) (hp : p < 8) (ho : o < 8) (hd : w + 1 < lw ∨ lw + 5 < w) (h2 : tw_2 μ w T p o rg) : ∃ μ', (tw_2 μ' w T p o (tw_rg T p o) ∧ tw_wl w lw μ μ') ∧ ∀ k, f_X10_heardBy w lw (nI 0) k (sh, μ, la, n) = k (tw_snd T p o) (sh, μ', la, n) := by
  have g2 := tw_2_rg (v := tw_rg T p o) h2
  obtain ⟨_, ⟨s, rfl⟩, E⟩ := c_amt0 (la := la) (n := n) (kd := 0) hw (tw_wl_La HL tw_wl_1 hd) W hp hd g2 (tw_rg_tf T p o) (Or.inl rfl)
  refine ⟨tw_ra (tw_up μ (w + 1) 10 (tw_rg T p o)) (lw + 1) s, ⟨tw_2_same g2 (tw_ra_n (by omega)) (tw_ra_n (by omega)), tw_wl_t tw_wl_1 tw_wl_l⟩, fun k => ?_⟩
  have e3 : (if T 2 = nI 0 then (if 0 = 2 then nI 2 else nI 1) else tw_so T (tw_fc T (tw_rg T p o) p o) 0 (tw_nt (T 492)) - tw_so T (tw_fc T (tw_rg T p o) p o) 1 (tw_nt (T 492))) = tw_snd T p o := rfl
  rw [e3] at E
  have hs : ∀ (F : tw_Mem → Prop) (μ : Nat → Nat → Int32), tw_iv 0 lw F (sh, μ, la, n) = F (sh, μ, la, n) := fun F μ => by rw [A_iv, tw_is_T HL.1, true_and]
  unfold tw_rg at E ⊢
  by_cases g : tw_tn (T (32 + 20 * p + (4 + o))) (T (32 + 20 * o + (4 + p))) (T 5) = nI 4
  · rw [if_pos g] at E ⊢
    simp (disch := omega) only [f_X10_heardBy, ↓w_tone hw W hp ho h2, ↓hs, g, E, ↓TwV0 hw, ↓TwG0_54 hw, ↓TwI0_55 hw, ↓TwP0_55 hw, ↓TwZ0_55 hw, ↓TwL0 hw, ↓TwS0 hw, ↓A_if, ↓A_jn, ↓A_lt, ↓A_rz, ↓A_rn, ↓A_nzi, ↓A_nzl, ↓A_nn1, ↓A_nn0, ↓reduceIte, true_and, and_true, if_true, if_false, ite_true, ite_false, reduceIte, tl_0, tl_1, tl_2, tl_3, tl_4, tl_5, tl_6, tl_7, tl_8, tl_9, tl_10, tl_11, tl_12, tl_13, tl_14, tl_15, tl_16, tl_17, tl_18, tl_19, tl_20, tl_21, tl_22, tl_23, tl_24, tl_25, tl_26, tl_27, tl_28, tl_29, tl_30, tl_31, tl_32, tl_33, tl_34, tl_35, tl_36, tl_37, tl_38, tl_39, tl_40, tl_41, tl_42, tl_43, tl_44, tl_45, tl_46, tl_47, tl_48, tl_49, tl_50, tl_51, tl_52, tl_53, tl_54, tl_57, tl_59, tl_60, tl_62, tl_63, tl_64, tl_97, tl_99, tl_100, tl_120, tl_122, tl_192, tl_193, tl_194, tl_195, tl_196, tl_255, tl_256, tl_299, tl_400, tl_401, tl_492, tl_493, tl_541, tl_849, tl_999, tl_1000, tl_1341, tl_1342, tl_1390, tl_2190, tl_5412, tl_5904, tl_9999, tl_12345, tl_32767, tl_65536, tl_1000000, tl_252645135, tl_858993459, tl_1103515245, tl_1431655765, nz_31, nz_c31, eq_self, or_true, true_or, or_false, false_or, Nat.add_zero, nz_lt, nz_le, nz_eq, nz_cl, nz_sub, nI_add, pk_mul, nt_lt, nf_lt, nf_eq, nz_mI, mI_eq, mI_eq', mI_lt, mI_gt, mI_add, ↓j_max, ↓j_min, Nat.sub_sub, Nat.reduceAdd, Nat.reduceSub, Nat.reduceLT, Nat.reduceEqDiff, Bool.false_eq_true]
  · rw [if_neg g] at E ⊢
    simp (disch := omega) only [f_X10_heardBy, ↓w_tone hw W hp ho h2, ↓hs, g, E, ↓TwV0 hw, ↓TwG0_54 hw, ↓TwI0_55 hw, ↓TwP0_55 hw, ↓TwZ0_55 hw, ↓TwL0 hw, ↓TwS0 hw, ↓A_if, ↓A_jn, ↓A_lt, ↓A_rz, ↓A_rn, ↓A_nzi, ↓A_nzl, ↓A_nn1, ↓A_nn0, ↓reduceIte, true_and, and_true, if_true, if_false, ite_true, ite_false, reduceIte, tl_0, tl_1, tl_2, tl_3, tl_4, tl_5, tl_6, tl_7, tl_8, tl_9, tl_10, tl_11, tl_12, tl_13, tl_14, tl_15, tl_16, tl_17, tl_18, tl_19, tl_20, tl_21, tl_22, tl_23, tl_24, tl_25, tl_26, tl_27, tl_28, tl_29, tl_30, tl_31, tl_32, tl_33, tl_34, tl_35, tl_36, tl_37, tl_38, tl_39, tl_40, tl_41, tl_42, tl_43, tl_44, tl_45, tl_46, tl_47, tl_48, tl_49, tl_50, tl_51, tl_52, tl_53, tl_54, tl_57, tl_59, tl_60, tl_62, tl_63, tl_64, tl_97, tl_99, tl_100, tl_120, tl_122, tl_192, tl_193, tl_194, tl_195, tl_196, tl_255, tl_256, tl_299, tl_400, tl_401, tl_492, tl_493, tl_541, tl_849, tl_999, tl_1000, tl_1341, tl_1342, tl_1390, tl_2190, tl_5412, tl_5904, tl_9999, tl_12345, tl_32767, tl_65536, tl_1000000, tl_252645135, tl_858993459, tl_1103515245, tl_1431655765, nz_31, nz_c31, eq_self, or_true, true_or, or_false, false_or, Nat.add_zero, nz_lt, nz_le, nz_eq, nz_cl, nz_sub, nI_add, pk_mul, nt_lt, nf_lt, nf_eq, nz_mI, mI_eq, mI_eq', mI_lt, mI_gt, mI_add, ↓j_max, ↓j_min, Nat.sub_sub, Nat.reduceAdd, Nat.reduceSub, Nat.reduceLT, Nat.reduceEqDiff, Bool.false_eq_true]
theorem c_heard1 (hw : tw_Tw sh w) (HL : tw_La sh μ lw T) (W : tw_WF T P) (hp : p < 8) (ho : o < 8) (hd : w + 1 < lw ∨ lw + 5 < w) (h2 : tw_2 μ w T p o rg) : ∃ μ', (tw_2 μ' w T p o (tw_rg T p o) ∧ tw_wl w lw μ μ') ∧ ∀ k, f_X10_heardBy w lw (nI 1) k (sh, μ, la, n) = k (tw_snd T o p) (sh, μ', la, n) := by
  have g2 := tw_2_rg (v := tw_rg T p o) h2
  obtain ⟨_, ⟨s, rfl⟩, E⟩ := c_amt1 (la := la) (n := n) (kd := 0) hw (tw_wl_La HL tw_wl_1 hd) W hp ho hd g2 (tw_rg_tf T p o) (Or.inl rfl)
  refine ⟨tw_ra (tw_up μ (w + 1) 10 (tw_rg T p o)) (lw + 1) s, ⟨tw_2_same g2 (tw_ra_n (by omega)) (tw_ra_n (by omega)), tw_wl_t tw_wl_1 tw_wl_l⟩, fun k => ?_⟩
  have e3 : (if T 2 = nI 0 then (if 0 = 2 then nI 2 else nI 1) else tw_so T (tw_fc T (tw_rg T p o) o p) 0 (tw_nt (T 492)) - tw_so T (tw_fc T (tw_rg T p o) o p) 1 (tw_nt (T 492))) = tw_snd T o p := by rw [tw_rg_c]; rfl
  rw [e3] at E
  have hs : ∀ (F : tw_Mem → Prop) (μ : Nat → Nat → Int32), tw_iv 0 lw F (sh, μ, la, n) = F (sh, μ, la, n) := fun F μ => by rw [A_iv, tw_is_T HL.1, true_and]
  unfold tw_rg at E ⊢
  by_cases g : tw_tn (T (32 + 20 * p + (4 + o))) (T (32 + 20 * o + (4 + p))) (T 5) = nI 4
  · rw [if_pos g] at E ⊢
    simp (disch := omega) only [f_X10_heardBy, ↓w_tone hw W hp ho h2, ↓hs, g, E, ↓TwV0 hw, ↓TwG0_54 hw, ↓TwI0_55 hw, ↓TwP0_55 hw, ↓TwZ0_55 hw, ↓TwL0 hw, ↓TwS0 hw, ↓A_if, ↓A_jn, ↓A_lt, ↓A_rz, ↓A_rn, ↓A_nzi, ↓A_nzl, ↓A_nn1, ↓A_nn0, ↓reduceIte, true_and, and_true, if_true, if_false, ite_true, ite_false, reduceIte, tl_0, tl_1, tl_2, tl_3, tl_4, tl_5, tl_6, tl_7, tl_8, tl_9, tl_10, tl_11, tl_12, tl_13, tl_14, tl_15, tl_16, tl_17, tl_18, tl_19, tl_20, tl_21, tl_22, tl_23, tl_24, tl_25, tl_26, tl_27, tl_28, tl_29, tl_30, tl_31, tl_32, tl_33, tl_34, tl_35, tl_36, tl_37, tl_38, tl_39, tl_40, tl_41, tl_42, tl_43, tl_44, tl_45, tl_46, tl_47, tl_48, tl_49, tl_50, tl_51, tl_52, tl_53, tl_54, tl_57, tl_59, tl_60, tl_62, tl_63, tl_64, tl_97, tl_99, tl_100, tl_120, tl_122, tl_192, tl_193, tl_194, tl_195, tl_196, tl_255, tl_256, tl_299, tl_400, tl_401, tl_492, tl_493, tl_541, tl_849, tl_999, tl_1000, tl_1341, tl_1342, tl_1390, tl_2190, tl_5412, tl_5904, tl_9999, tl_12345, tl_32767, tl_65536, tl_1000000, tl_252645135, tl_858993459, tl_1103515245, tl_1431655765, nz_31, nz_c31, eq_self, or_true, true_or, or_false, false_or, Nat.add_zero, nz_lt, nz_le, nz_eq, nz_cl, nz_sub, nI_add, pk_mul, nt_lt, nf_lt, nf_eq, nz_mI, mI_eq, mI_eq', mI_lt, mI_gt, mI_add, ↓j_max, ↓j_min, Nat.sub_sub, Nat.reduceAdd, Nat.reduceSub, Nat.reduceLT, Nat.reduceEqDiff, Bool.false_eq_true]
  · rw [if_neg g] at E ⊢
    simp (disch := omega) only [f_X10_heardBy, ↓w_tone hw W hp ho h2, ↓hs, g, E, ↓TwV0 hw, ↓TwG0_54 hw, ↓TwI0_55 hw, ↓TwP0_55 hw, ↓TwZ0_55 hw, ↓TwL0 hw, ↓TwS0 hw, ↓A_if, ↓A_jn, ↓A_lt, ↓A_rz, ↓A_rn, ↓A_nzi, ↓A_nzl, ↓A_nn1, ↓A_nn0, ↓reduceIte, true_and, and_true, if_true, if_false, ite_true, ite_false, reduceIte, tl_0, tl_1, tl_2, tl_3, tl_4, tl_5, tl_6, tl_7, tl_8, tl_9, tl_10, tl_11, tl_12, tl_13, tl_14, tl_15, tl_16, tl_17, tl_18, tl_19, tl_20, tl_21, tl_22, tl_23, tl_24, tl_25, tl_26, tl_27, tl_28, tl_29, tl_30, tl_31, tl_32, tl_33, tl_34, tl_35, tl_36, tl_37, tl_38, tl_39, tl_40, tl_41, tl_42, tl_43, tl_44, tl_45, tl_46, tl_47, tl_48, tl_49, tl_50, tl_51, tl_52, tl_53, tl_54, tl_57, tl_59, tl_60, tl_62, tl_63, tl_64, tl_97, tl_99, tl_100, tl_120, tl_122, tl_192, tl_193, tl_194, tl_195, tl_196, tl_255, tl_256, tl_299, tl_400, tl_401, tl_492, tl_493, tl_541, tl_849, tl_999, tl_1000, tl_1341, tl_1342, tl_1390, tl_2190, tl_5412, tl_5904, tl_9999, tl_12345, tl_32767, tl_65536, tl_1000000, tl_252645135, tl_858993459, tl_1103515245, tl_1431655765, nz_31, nz_c31, eq_self, or_true, true_or, or_false, false_or, Nat.add_zero, nz_lt, nz_le, nz_eq, nz_cl, nz_sub, nI_add, pk_mul, nt_lt, nf_lt, nf_eq, nz_mI, mI_eq, mI_eq', mI_lt, mI_gt, mI_add, ↓j_max, ↓j_min, Nat.sub_sub, Nat.reduceAdd, Nat.reduceSub, Nat.reduceLT, Nat.reduceEqDiff, Bool.false_eq_true]
theorem c_pull (hw : tw_Tw sh w) (HL : tw_La sh μ lw T) (W : tw_WF T P) (hp : p < 8) (ho : o < 8) (hpo : p ≠ o) (hd : w + 1 < lw ∨ lw + 5 < w) (h2 : tw_2 μ w T p o rg) : ∃ μ', (tw_2 μ' w (tw_pull T p o) p o (tw_rg T p o) ∧ tw_wl w lw μ μ') ∧ ∀ k, f_X10_pullOnce w lw k (sh, μ, la, n) = k (tw_tn (T (32 + 20 * p + (4 + o))) (T (32 + 20 * o + (4 + p))) (T 5)) (sh, μ', la, n) := by
  obtain ⟨μ1, ⟨h3, F1⟩, E1⟩ := c_heard0 (la := la) (n := n) hw HL W hp ho hd h2
  have HL1 := tw_wl_La HL F1 hd
  obtain ⟨μ2, ⟨h4, F2⟩, E2⟩ := c_heard1 (la := la) (n := n) hw HL1 W hp ho hd h3
  obtain ⟨⟨r, hr, er, -⟩, -⟩ := Wf_u W hp ho
  have hE := w_tone (la := la) (n := n) hw W hp ho h2
  obtain ⟨e0, e1, e2, e3, e4, e5, e6, e7, e8, e9, e10, e11⟩ := h4
  have hg : 32 + 20 * p + (4 + o) < 32 + 20 * o + (4 + p) ∨ 32 + 20 * o + (4 + p) < 32 + 20 * p + (4 + o) := by omega
  have hu : 32 + 20 * p + (12 + o) < 32 + 20 * o + (12 + p) ∨ 32 + 20 * o + (12 + p) < 32 + 20 * p + (12 + o) := by omega
  have hm := tw_m99_c er hr
  unfold tw_pull tw_rg
  by_cases g : tw_tn (T (32 + 20 * p + (4 + o))) (T (32 + 20 * o + (4 + p))) (T 5) = nI 4
  · have g1 : tw_rg T p o = nI 1 := by unfold tw_rg; rw [if_pos g]
    rw [if_pos g, if_pos rfl]
    refine ⟨tw_up (tw_up (tw_up μ2 (w + 1) 2 (tw_clamp (μ2 (w + 1) 2 + tw_snd T p o))) (w + 1) 3 (tw_clamp (μ2 (w + 1) 3 + tw_snd T o p))) (w + 1) 6 (tw_m99 (T (32 + 20 * p + (12 + o)))), ⟨?_, tw_wl_t (tw_wl_t (tw_wl_t F1 F2) (tw_wl_t tw_wl_1 tw_wl_1)) tw_wl_1⟩, fun k => ?_⟩
    · unfold tw_2 tw_r2 tw_g2
      simp (disch := omega) only [↓tw_un, ↓tw_uk, ↓tw_ua, ↓tw_cpf_ne, ↓tw_cpf_in, ↓tw_cpf_out, tw_u1n, tw_u1a, e0, e1, e2, e3, e4, e5, e6, e7, e8, e9, e10, e11, g1, and_self]
    · simp (disch := omega) only [f_X10_pullOnce, ↓hE, ↓E1, ↓E2, ↓w_addGuesses hw, g, e6, hm, ↓tw_un, ↓tw_uk, ↓tw_ua, ↓tw_cpf_ne, ↓tw_cpf_in, ↓tw_cpf_out, ↓TwV0 hw, ↓TwG0_54 hw, ↓TwI0_55 hw, ↓TwP0_55 hw, ↓TwZ0_55 hw, ↓TwL0 hw, ↓TwS0 hw, ↓A_if, ↓A_jn, ↓A_lt, ↓A_rz, ↓A_rn, ↓A_nzi, ↓A_nzl, ↓A_nn1, ↓A_nn0, ↓reduceIte, true_and, and_true, if_true, if_false, ite_true, ite_false, reduceIte, tl_0, tl_1, tl_2, tl_3, tl_4, tl_5, tl_6, tl_7, tl_8, tl_9, tl_10, tl_11, tl_12, tl_13, tl_14, tl_15, tl_16, tl_17, tl_18, tl_19, tl_20, tl_21, tl_22, tl_23, tl_24, tl_25, tl_26, tl_27, tl_28, tl_29, tl_30, tl_31, tl_32, tl_33, tl_34, tl_35, tl_36, tl_37, tl_38, tl_39, tl_40, tl_41, tl_42, tl_43, tl_44, tl_45, tl_46, tl_47, tl_48, tl_49, tl_50, tl_51, tl_52, tl_53, tl_54, tl_57, tl_59, tl_60, tl_62, tl_63, tl_64, tl_97, tl_99, tl_100, tl_120, tl_122, tl_192, tl_193, tl_194, tl_195, tl_196, tl_255, tl_256, tl_299, tl_400, tl_401, tl_492, tl_493, tl_541, tl_849, tl_999, tl_1000, tl_1341, tl_1342, tl_1390, tl_2190, tl_5412, tl_5904, tl_9999, tl_12345, tl_32767, tl_65536, tl_1000000, tl_252645135, tl_858993459, tl_1103515245, tl_1431655765, nz_31, nz_c31, eq_self, or_true, true_or, or_false, false_or, Nat.add_zero, nz_lt, nz_le, nz_eq, nz_cl, nz_sub, nI_add, pk_mul, nt_lt, nf_lt, nf_eq, nz_mI, mI_eq, mI_eq', mI_lt, mI_gt, mI_add, ↓j_max, ↓j_min, Nat.sub_sub, Nat.reduceAdd, Nat.reduceSub, Nat.reduceLT, Nat.reduceEqDiff, Bool.false_eq_true]
  · have g1 : tw_rg T p o = nI 0 := by unfold tw_rg; rw [if_neg g]
    rw [if_neg g, if_neg (by decide)]
    refine ⟨tw_up (tw_up μ2 (w + 1) 2 (tw_clamp (μ2 (w + 1) 2 + tw_snd T p o))) (w + 1) 3 (tw_clamp (μ2 (w + 1) 3 + tw_snd T o p)), ⟨?_, tw_wl_t (tw_wl_t F1 F2) (tw_wl_t tw_wl_1 tw_wl_1)⟩, fun k => ?_⟩
    · unfold tw_2 tw_g2
      simp (disch := omega) only [↓tw_un, ↓tw_uk, ↓tw_ua, ↓tw_cpf_ne, ↓tw_cpf_in, ↓tw_cpf_out, tw_u1n, tw_u1a, e0, e1, e2, e3, e4, e5, e6, e7, e8, e9, e10, e11, g1, and_self]
    · simp (disch := omega) only [f_X10_pullOnce, ↓hE, ↓E1, ↓E2, ↓w_addGuesses hw, g, ↓TwV0 hw, ↓TwG0_54 hw, ↓TwI0_55 hw, ↓TwP0_55 hw, ↓TwZ0_55 hw, ↓TwL0 hw, ↓TwS0 hw, ↓A_if, ↓A_jn, ↓A_lt, ↓A_rz, ↓A_rn, ↓A_nzi, ↓A_nzl, ↓A_nn1, ↓A_nn0, ↓reduceIte, true_and, and_true, if_true, if_false, ite_true, ite_false, reduceIte, tl_0, tl_1, tl_2, tl_3, tl_4, tl_5, tl_6, tl_7, tl_8, tl_9, tl_10, tl_11, tl_12, tl_13, tl_14, tl_15, tl_16, tl_17, tl_18, tl_19, tl_20, tl_21, tl_22, tl_23, tl_24, tl_25, tl_26, tl_27, tl_28, tl_29, tl_30, tl_31, tl_32, tl_33, tl_34, tl_35, tl_36, tl_37, tl_38, tl_39, tl_40, tl_41, tl_42, tl_43, tl_44, tl_45, tl_46, tl_47, tl_48, tl_49, tl_50, tl_51, tl_52, tl_53, tl_54, tl_57, tl_59, tl_60, tl_62, tl_63, tl_64, tl_97, tl_99, tl_100, tl_120, tl_122, tl_192, tl_193, tl_194, tl_195, tl_196, tl_255, tl_256, tl_299, tl_400, tl_401, tl_492, tl_493, tl_541, tl_849, tl_999, tl_1000, tl_1341, tl_1342, tl_1390, tl_2190, tl_5412, tl_5904, tl_9999, tl_12345, tl_32767, tl_65536, tl_1000000, tl_252645135, tl_858993459, tl_1103515245, tl_1431655765, nz_31, nz_c31, eq_self, or_true, true_or, or_false, false_or, Nat.add_zero, nz_lt, nz_le, nz_eq, nz_cl, nz_sub, nI_add, pk_mul, nt_lt, nf_lt, nf_eq, nz_mI, mI_eq, mI_eq', mI_lt, mI_gt, mI_add, ↓j_max, ↓j_min, Nat.sub_sub, Nat.reduceAdd, Nat.reduceSub, Nat.reduceLT, Nat.reduceEqDiff, Bool.false_eq_true]
theorem c_meet (hw : tw_Tw sh w) (HL : tw_La sh μ lw T) (W : tw_WF T P) (hp : p < 8) (ho : o < 8) (hpo : p ≠ o) (hd : w + 1 < lw ∨ lw + 5 < w) (h2 : tw_2 μ w T p o (nI 0)) : ∃ μ', (tw_2 μ' w (tw_meet T p o) p o (nI 0) ∧ tw_wl w lw μ μ') ∧ ∀ k, f_X10_meetOnce w lw k (sh, μ, la, n) = k () (sh, μ', la, n) := by
  have h0 : tw_tf (nI 0) := Or.inl rfl
  obtain ⟨_, ⟨s1, rfl⟩, E1⟩ := c_amt0 (la := la) (n := n) (kd := 2) hw HL W hp hd h2 h0 (Or.inr rfl)
  have HL1 := tw_wl_La (w := w) HL (tw_wl_l (s := s1)) hd
  have h3 := tw_2_same (μ' := tw_ra μ (lw + 1) s1) h2 (tw_ra_n (by omega)) (tw_ra_n (by omega))
  obtain ⟨_, ⟨s2, rfl⟩, E2⟩ := c_amt1 (la := la) (n := n) (kd := 2) hw HL1 W hp ho hd h3 h0 (Or.inr rfl)
  have x1 : (if T 2 = nI 0 then (if 2 = 2 then nI 2 else nI 1) else tw_so T (tw_fc T (nI 0) p o) 2 (tw_nt (T 492)) - tw_so T (tw_fc T (nI 0) p o) 1 (tw_nt (T 492))) = tw_lts T p o := rfl
  have x2 : (if T 2 = nI 0 then (if 2 = 2 then nI 2 else nI 1) else tw_so T (tw_fc T (nI 0) o p) 2 (tw_nt (T 492)) - tw_so T (tw_fc T (nI 0) o p) 1 (tw_nt (T 492))) = tw_lts T o p := rfl
  rw [x1] at E1
  rw [x2] at E2
  have h4 := tw_2_same (μ' := tw_ra (tw_ra μ (lw + 1) s1) (lw + 1) s2) h3 (tw_ra_n (by omega)) (tw_ra_n (by omega))
  have F : tw_wl w lw μ (tw_ra (tw_ra μ (lw + 1) s1) (lw + 1) s2) := tw_wl_t tw_wl_l tw_wl_l
  generalize tw_ra (tw_ra μ (lw + 1) s1) (lw + 1) s2 = μ2 at *
  obtain ⟨e0, e1, e2, e3, e4, e5, e6, e7, e8, e9, e10, e11⟩ := h4
  have hg : 32 + 20 * p + (4 + o) < 32 + 20 * o + (4 + p) ∨ 32 + 20 * o + (4 + p) < 32 + 20 * p + (4 + o) := by omega
  have hs : ∀ (F : tw_Mem → Prop) (μ : Nat → Nat → Int32), tw_iv 0 lw F (sh, μ, la, n) = F (sh, μ, la, n) := fun F μ => by rw [A_iv, tw_is_T HL.1, true_and]
  refine ⟨tw_up (tw_up μ2 (w + 1) 2 (tw_clamp (μ2 (w + 1) 2 + tw_lts T p o))) (w + 1) 3 (tw_clamp (μ2 (w + 1) 3 + tw_lts T o p)), ⟨?_, tw_wl_t F (tw_wl_t tw_wl_1 tw_wl_1)⟩, fun k => ?_⟩
  · unfold tw_2 tw_meet tw_g2
    simp (disch := omega) only [↓tw_un, ↓tw_uk, ↓tw_ua, ↓tw_cpf_ne, ↓tw_cpf_in, ↓tw_cpf_out, tw_u1n, tw_u1a, e0, e1, e2, e3, e4, e5, e6, e7, e8, e9, e10, e11, and_self]
  · simp (disch := omega) only [f_X10_meetOnce, ↓E1, ↓E2, ↓hs, ↓w_addGuesses hw, ↓TwV0 hw, ↓TwG0_54 hw, ↓TwI0_55 hw, ↓TwP0_55 hw, ↓TwZ0_55 hw, ↓TwL0 hw, ↓TwS0 hw, ↓A_if, ↓A_jn, ↓A_lt, ↓A_rz, ↓A_rn, ↓A_nzi, ↓A_nzl, ↓A_nn1, ↓A_nn0, ↓reduceIte, true_and, and_true, if_true, if_false, ite_true, ite_false, reduceIte, tl_0, tl_1, tl_2, tl_3, tl_4, tl_5, tl_6, tl_7, tl_8, tl_9, tl_10, tl_11, tl_12, tl_13, tl_14, tl_15, tl_16, tl_17, tl_18, tl_19, tl_20, tl_21, tl_22, tl_23, tl_24, tl_25, tl_26, tl_27, tl_28, tl_29, tl_30, tl_31, tl_32, tl_33, tl_34, tl_35, tl_36, tl_37, tl_38, tl_39, tl_40, tl_41, tl_42, tl_43, tl_44, tl_45, tl_46, tl_47, tl_48, tl_49, tl_50, tl_51, tl_52, tl_53, tl_54, tl_57, tl_59, tl_60, tl_62, tl_63, tl_64, tl_97, tl_99, tl_100, tl_120, tl_122, tl_192, tl_193, tl_194, tl_195, tl_196, tl_255, tl_256, tl_299, tl_400, tl_401, tl_492, tl_493, tl_541, tl_849, tl_999, tl_1000, tl_1341, tl_1342, tl_1390, tl_2190, tl_5412, tl_5904, tl_9999, tl_12345, tl_32767, tl_65536, tl_1000000, tl_252645135, tl_858993459, tl_1103515245, tl_1431655765, nz_31, nz_c31, eq_self, or_true, true_or, or_false, false_or, Nat.add_zero, nz_lt, nz_le, nz_eq, nz_cl, nz_sub, nI_add, pk_mul, nt_lt, nf_lt, nf_eq, nz_mI, mI_eq, mI_eq', mI_lt, mI_gt, mI_add, ↓j_max, ↓j_min, Nat.sub_sub, Nat.reduceAdd, Nat.reduceSub, Nat.reduceLT, Nat.reduceEqDiff, Bool.false_eq_true]
theorem m_guess' (hM : tw_Mo sh m) (hp : p < 8) (ho : o < 8) (k : Unit → tw_Mem → Prop) : f_X12_guesses m (nI p) (nI o) v k (sh, μ, la, n) = k () (sh, tw_ra μ (m + 1) (tw_u1 (μ (m + 1)) (32 + 20 * p + (4 + o)) (tw_clamp v)), la, n) := by
  rw [m_guesses hM hp ho, tw_up_as]
theorem m_pull (hM : tw_Mo sh m) (H : tw_LX (μ (m + 1))) (W : tw_WF (μ (m + 1)) P) (hp : p < 8) (ho : o < 8) (hpo : p ≠ o) : ∃ μ', (μ' (m + 1) = tw_pull (μ (m + 1)) p o ∧ tw_md m μ μ') ∧ ∀ k, f_X12_pulls m (nI p) (nI o) k (sh, μ, la, n) = k (tw_rg (μ (m + 1)) p o) (sh, μ', la, n) := by
  obtain ⟨μ1, ⟨h1, F1⟩, E1⟩ := m_sound (la := la) (n := n) hM H W hp ho
  obtain ⟨μ2, ⟨h2, F2⟩, E2⟩ := m_sound (la := la) (n := n) (μ := μ1) (m := m) (P := P) hM (by rw [h1]; exact H) (by rw [h1]; exact W) ho hp
  rw [h1] at h2 E2
  have F := tw_md_t F1 F2
  have e1 : ∀ K : Int32 → tw_Mem → Prop, f_X12_bothRing m (nI p) (nI o) K (sh, μ, la, n) = K (tw_rg (μ (m + 1)) p o) (sh, μ, la, n) := by
    intro K
    rw [m_bothRing hM hp ho]
    unfold tw_rg
    split <;> rfl
  have hu : 32 + 20 * p + (12 + o) < 32 + 20 * o + (12 + p) ∨ 32 + 20 * o + (12 + p) < 32 + 20 * p + (12 + o) := by omega
  have hg : 32 + 20 * p + (4 + o) < 32 + 20 * o + (4 + p) ∨ 32 + 20 * o + (4 + p) < 32 + 20 * p + (4 + o) := by omega
  unfold tw_pull
  rcases tw_rg_tf (μ (m + 1)) p o with g | g
  · rw [g, if_neg (by decide)]
    refine ⟨tw_ra μ2 (m + 1) (tw_g2 (μ (m + 1)) p o (tw_clamp (μ (m + 1) (32 + 20 * p + (4 + o)) + tw_snd (μ (m + 1)) p o)) (tw_clamp (μ (m + 1) (32 + 20 * o + (4 + p)) + tw_snd (μ (m + 1)) o p))), ⟨tw_ra_a, tw_md_t F tw_md_w⟩, fun k => ?_⟩
    simp (disch := omega) only [f_X12_pulls, e1, ↓E1, ↓E2, g, h1, h2, ↓m_guessOf hM, ↓m_guess' hM, tw_ra_a, tw_ra_ra, tw_g2, ↓MoV0 hM, ↓MoI0_70 hM, ↓MoP0_70 hM, ↓MoZ0_70 hM, ↓MoG0_71 hM, ↓MoG0_72 hM, ↓MoG0_73 hM, ↓MoG0_74 hM, ↓MoG0_75 hM, ↓MoI0_76 hM, ↓MoP0_76 hM, ↓MoZ0_76 hM, ↓MoI0_77 hM, ↓MoP0_77 hM, ↓MoZ0_77 hM, ↓MoG0_78 hM, ↓MoI0_79 hM, ↓MoP0_79 hM, ↓MoZ0_79 hM, ↓MoI0_80 hM, ↓MoP0_80 hM, ↓MoZ0_80 hM, ↓MoI0_81 hM, ↓MoP0_81 hM, ↓MoZ0_81 hM, ↓MoI0_82 hM, ↓MoP0_82 hM, ↓MoZ0_82 hM, ↓MoI0_83 hM, ↓MoP0_83 hM, ↓MoZ0_83 hM, ↓MoI0_84 hM, ↓MoP0_84 hM, ↓MoZ0_84 hM, ↓MoG0_85 hM, ↓MoI0_86 hM, ↓MoP0_86 hM, ↓MoZ0_86 hM, ↓MoG0_87 hM, ↓MoI0_88 hM, ↓MoP0_88 hM, ↓MoZ0_88 hM, ↓MoG0_89 hM, ↓MoG0_90 hM, ↓MoG0_91 hM, ↓MoG0_92 hM, ↓MoL0 hM, ↓MoS0 hM, ↓MoL1 hM, ↓MoS1 hM, ↓MoL2 hM, ↓MoS2 hM, ↓MoL3 hM, ↓MoS3 hM, ↓MoL4 hM, ↓MoS4 hM, ↓MoL5 hM, ↓MoS5 hM, ↓MoL6 hM, ↓MoS6 hM, ↓MoL7 hM, ↓MoS7 hM, ↓MoL8 hM, ↓MoS8 hM, ↓MoL9 hM, ↓MoS9 hM, ↓MoL10 hM, ↓MoS10 hM, ↓MoL11 hM, ↓MoS11 hM, ↓A_if, ↓A_jn, ↓A_lt, ↓A_rz, ↓A_rn, ↓A_nzi, ↓A_nzl, ↓A_nn1, ↓A_nn0, ↓reduceIte, true_and, and_true, if_true, if_false, ite_true, ite_false, reduceIte, tl_0, tl_1, tl_2, tl_3, tl_4, tl_5, tl_6, tl_7, tl_8, tl_9, tl_10, tl_11, tl_12, tl_13, tl_14, tl_15, tl_16, tl_17, tl_18, tl_19, tl_20, tl_21, tl_22, tl_23, tl_24, tl_25, tl_26, tl_27, tl_28, tl_29, tl_30, tl_31, tl_32, tl_33, tl_34, tl_35, tl_36, tl_37, tl_38, tl_39, tl_40, tl_41, tl_42, tl_43, tl_44, tl_45, tl_46, tl_47, tl_48, tl_49, tl_50, tl_51, tl_52, tl_53, tl_54, tl_57, tl_59, tl_60, tl_62, tl_63, tl_64, tl_97, tl_99, tl_100, tl_120, tl_122, tl_192, tl_193, tl_194, tl_195, tl_196, tl_255, tl_256, tl_299, tl_400, tl_401, tl_492, tl_493, tl_541, tl_849, tl_999, tl_1000, tl_1341, tl_1342, tl_1390, tl_2190, tl_5412, tl_5904, tl_9999, tl_12345, tl_32767, tl_65536, tl_1000000, tl_252645135, tl_858993459, tl_1103515245, tl_1431655765, nz_31, nz_c31, eq_self, or_true, true_or, or_false, false_or, Nat.add_zero, nz_lt, nz_le, nz_eq, nz_cl, nz_sub, nI_add, pk_mul, nt_lt, nf_lt, nf_eq, nz_mI, mI_eq, mI_eq', mI_lt, mI_gt, mI_add, ↓j_max, ↓j_min, Nat.sub_sub, Nat.reduceAdd, Nat.reduceSub, Nat.reduceLT, Nat.reduceEqDiff, Bool.false_eq_true]
  · rw [g, if_pos rfl]
    refine ⟨tw_ra μ2 (m + 1) (tw_r2 (tw_g2 (μ (m + 1)) p o (tw_clamp (μ (m + 1) (32 + 20 * p + (4 + o)) + tw_snd (μ (m + 1)) p o)) (tw_clamp (μ (m + 1) (32 + 20 * o + (4 + p)) + tw_snd (μ (m + 1)) o p))) p o (tw_m99 (μ (m + 1) (32 + 20 * p + (12 + o))))), ⟨tw_ra_a, tw_md_t F tw_md_w⟩, fun k => ?_⟩
    simp (disch := omega) only [f_X12_pulls, f_X12_at, e1, ↓E1, ↓E2, g, h1, h2, ↓m_guessOf hM, ↓m_of hM, ↓m_guess' hM, tw_ra_a, tw_ra_aj, tw_ra_ra, tw_g2, tw_r2, tw_m99, tw_up_ra, tw_u1n, ↓MoV0 hM, ↓MoI0_70 hM, ↓MoP0_70 hM, ↓MoZ0_70 hM, ↓MoG0_71 hM, ↓MoG0_72 hM, ↓MoG0_73 hM, ↓MoG0_74 hM, ↓MoG0_75 hM, ↓MoI0_76 hM, ↓MoP0_76 hM, ↓MoZ0_76 hM, ↓MoI0_77 hM, ↓MoP0_77 hM, ↓MoZ0_77 hM, ↓MoG0_78 hM, ↓MoI0_79 hM, ↓MoP0_79 hM, ↓MoZ0_79 hM, ↓MoI0_80 hM, ↓MoP0_80 hM, ↓MoZ0_80 hM, ↓MoI0_81 hM, ↓MoP0_81 hM, ↓MoZ0_81 hM, ↓MoI0_82 hM, ↓MoP0_82 hM, ↓MoZ0_82 hM, ↓MoI0_83 hM, ↓MoP0_83 hM, ↓MoZ0_83 hM, ↓MoI0_84 hM, ↓MoP0_84 hM, ↓MoZ0_84 hM, ↓MoG0_85 hM, ↓MoI0_86 hM, ↓MoP0_86 hM, ↓MoZ0_86 hM, ↓MoG0_87 hM, ↓MoI0_88 hM, ↓MoP0_88 hM, ↓MoZ0_88 hM, ↓MoG0_89 hM, ↓MoG0_90 hM, ↓MoG0_91 hM, ↓MoG0_92 hM, ↓MoL0 hM, ↓MoS0 hM, ↓MoL1 hM, ↓MoS1 hM, ↓MoL2 hM, ↓MoS2 hM, ↓MoL3 hM, ↓MoS3 hM, ↓MoL4 hM, ↓MoS4 hM, ↓MoL5 hM, ↓MoS5 hM, ↓MoL6 hM, ↓MoS6 hM, ↓MoL7 hM, ↓MoS7 hM, ↓MoL8 hM, ↓MoS8 hM, ↓MoL9 hM, ↓MoS9 hM, ↓MoL10 hM, ↓MoS10 hM, ↓MoL11 hM, ↓MoS11 hM, ↓A_if, ↓A_jn, ↓A_lt, ↓A_rz, ↓A_rn, ↓A_nzi, ↓A_nzl, ↓A_nn1, ↓A_nn0, ↓reduceIte, true_and, and_true, if_true, if_false, ite_true, ite_false, reduceIte, tl_0, tl_1, tl_2, tl_3, tl_4, tl_5, tl_6, tl_7, tl_8, tl_9, tl_10, tl_11, tl_12, tl_13, tl_14, tl_15, tl_16, tl_17, tl_18, tl_19, tl_20, tl_21, tl_22, tl_23, tl_24, tl_25, tl_26, tl_27, tl_28, tl_29, tl_30, tl_31, tl_32, tl_33, tl_34, tl_35, tl_36, tl_37, tl_38, tl_39, tl_40, tl_41, tl_42, tl_43, tl_44, tl_45, tl_46, tl_47, tl_48, tl_49, tl_50, tl_51, tl_52, tl_53, tl_54, tl_57, tl_59, tl_60, tl_62, tl_63, tl_64, tl_97, tl_99, tl_100, tl_120, tl_122, tl_192, tl_193, tl_194, tl_195, tl_196, tl_255, tl_256, tl_299, tl_400, tl_401, tl_492, tl_493, tl_541, tl_849, tl_999, tl_1000, tl_1341, tl_1342, tl_1390, tl_2190, tl_5412, tl_5904, tl_9999, tl_12345, tl_32767, tl_65536, tl_1000000, tl_252645135, tl_858993459, tl_1103515245, tl_1431655765, nz_31, nz_c31, eq_self, or_true, true_or, or_false, false_or, Nat.add_zero, nz_lt, nz_le, nz_eq, nz_cl, nz_sub, nI_add, pk_mul, nt_lt, nf_lt, nf_eq, nz_mI, mI_eq, mI_eq', mI_lt, mI_gt, mI_add, ↓j_max, ↓j_min, Nat.sub_sub, Nat.reduceAdd, Nat.reduceSub, Nat.reduceLT, Nat.reduceEqDiff, Bool.false_eq_true]
theorem m_meet (hM : tw_Mo sh m) (H : tw_LX (μ (m + 1))) (W : tw_WF (μ (m + 1)) P) (hp : p < 8) (ho : o < 8) (hpo : p ≠ o) : ∃ μ', (μ' (m + 1) = tw_meet (μ (m + 1)) p o ∧ tw_md m μ μ') ∧ ∀ k, f_X12_meets m (nI p) (nI o) k (sh, μ, la, n) = k () (sh, μ', la, n) := by
  obtain ⟨μ1, ⟨h1, F1⟩, E1⟩ := m_let (la := la) (n := n) hM H W hp ho
  obtain ⟨μ2, ⟨h2, F2⟩, E2⟩ := m_let (la := la) (n := n) (μ := μ1) (m := m) (P := P) hM (by rw [h1]; exact H) (by rw [h1]; exact W) ho hp
  rw [h1] at h2 E2
  refine ⟨tw_ra μ2 (m + 1) (tw_meet (μ (m + 1)) p o), ⟨tw_ra_a, tw_md_t (tw_md_t F1 F2) tw_md_w⟩, fun k => ?_⟩
  simp (disch := omega) only [f_X12_meets, ↓E1, ↓E2, h1, h2, ↓m_guessOf hM, ↓m_guess' hM, tw_ra_a, tw_ra_ra, tw_meet, tw_g2, ↓MoV0 hM, ↓MoI0_70 hM, ↓MoP0_70 hM, ↓MoZ0_70 hM, ↓MoG0_71 hM, ↓MoG0_72 hM, ↓MoG0_73 hM, ↓MoG0_74 hM, ↓MoG0_75 hM, ↓MoI0_76 hM, ↓MoP0_76 hM, ↓MoZ0_76 hM, ↓MoI0_77 hM, ↓MoP0_77 hM, ↓MoZ0_77 hM, ↓MoG0_78 hM, ↓MoI0_79 hM, ↓MoP0_79 hM, ↓MoZ0_79 hM, ↓MoI0_80 hM, ↓MoP0_80 hM, ↓MoZ0_80 hM, ↓MoI0_81 hM, ↓MoP0_81 hM, ↓MoZ0_81 hM, ↓MoI0_82 hM, ↓MoP0_82 hM, ↓MoZ0_82 hM, ↓MoI0_83 hM, ↓MoP0_83 hM, ↓MoZ0_83 hM, ↓MoI0_84 hM, ↓MoP0_84 hM, ↓MoZ0_84 hM, ↓MoG0_85 hM, ↓MoI0_86 hM, ↓MoP0_86 hM, ↓MoZ0_86 hM, ↓MoG0_87 hM, ↓MoI0_88 hM, ↓MoP0_88 hM, ↓MoZ0_88 hM, ↓MoG0_89 hM, ↓MoG0_90 hM, ↓MoG0_91 hM, ↓MoG0_92 hM, ↓MoL0 hM, ↓MoS0 hM, ↓MoL1 hM, ↓MoS1 hM, ↓MoL2 hM, ↓MoS2 hM, ↓MoL3 hM, ↓MoS3 hM, ↓MoL4 hM, ↓MoS4 hM, ↓MoL5 hM, ↓MoS5 hM, ↓MoL6 hM, ↓MoS6 hM, ↓MoL7 hM, ↓MoS7 hM, ↓MoL8 hM, ↓MoS8 hM, ↓MoL9 hM, ↓MoS9 hM, ↓MoL10 hM, ↓MoS10 hM, ↓MoL11 hM, ↓MoS11 hM, ↓A_if, ↓A_jn, ↓A_lt, ↓A_rz, ↓A_rn, ↓A_nzi, ↓A_nzl, ↓A_nn1, ↓A_nn0, ↓reduceIte, true_and, and_true, if_true, if_false, ite_true, ite_false, reduceIte, tl_0, tl_1, tl_2, tl_3, tl_4, tl_5, tl_6, tl_7, tl_8, tl_9, tl_10, tl_11, tl_12, tl_13, tl_14, tl_15, tl_16, tl_17, tl_18, tl_19, tl_20, tl_21, tl_22, tl_23, tl_24, tl_25, tl_26, tl_27, tl_28, tl_29, tl_30, tl_31, tl_32, tl_33, tl_34, tl_35, tl_36, tl_37, tl_38, tl_39, tl_40, tl_41, tl_42, tl_43, tl_44, tl_45, tl_46, tl_47, tl_48, tl_49, tl_50, tl_51, tl_52, tl_53, tl_54, tl_57, tl_59, tl_60, tl_62, tl_63, tl_64, tl_97, tl_99, tl_100, tl_120, tl_122, tl_192, tl_193, tl_194, tl_195, tl_196, tl_255, tl_256, tl_299, tl_400, tl_401, tl_492, tl_493, tl_541, tl_849, tl_999, tl_1000, tl_1341, tl_1342, tl_1390, tl_2190, tl_5412, tl_5904, tl_9999, tl_12345, tl_32767, tl_65536, tl_1000000, tl_252645135, tl_858993459, tl_1103515245, tl_1431655765, nz_31, nz_c31, eq_self, or_true, true_or, or_false, false_or, Nat.add_zero, nz_lt, nz_le, nz_eq, nz_cl, nz_sub, nI_add, pk_mul, nt_lt, nf_lt, nf_eq, nz_mI, mI_eq, mI_eq', mI_lt, mI_gt, mI_add, ↓j_max, ↓j_min, Nat.sub_sub, Nat.reduceAdd, Nat.reduceSub, Nat.reduceLT, Nat.reduceEqDiff, Bool.false_eq_true]
end P58
