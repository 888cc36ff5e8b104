/-! ===== pure: a law is made of a text; what the model makes of it ===== -/
def tw_xkS (sh : tw_Sh) (n : Nat) (x : Nat × Nat × (Nat → Option Nat)) : tw_Sh := fun y => if y = n then some x else sh y
def tw_xkI (μ : Nat → Nat → Int32) (n : Nat) : Nat → Nat → Int32 := fun y j => if y = n then 0 else μ y j
def tw_xkL (la : Nat → Nat → Int64) (n : Nat) : Nat → Nat → Int64 := fun y j => if y = n then 0 else la y j
theorem tw_xkS_n {sh : tw_Sh} {n y : Nat} {x : Nat × Nat × (Nat → Option Nat)} (h : y < n ∨ n < y) : tw_xkS sh n x y = sh y := if_neg (by omega)
theorem tw_xkS_a {sh : tw_Sh} {n : Nat} {x : Nat × Nat × (Nat → Option Nat)} : tw_xkS sh n x n = some x := if_pos rfl
theorem tw_xkI_n {μ : Nat → Nat → Int32} {n y : Nat} (h : y < n ∨ n < y) : tw_xkI μ n y = μ y := by
  funext j
  exact if_neg (by omega)
theorem tw_upR_n {sh : tw_Sh} {a k x : Nat} {v : Option Nat} (h : x < a ∨ a < x) : tw_upR sh a k v x = sh x := if_neg (by omega)
theorem tw_ar_c {sh sh' : tw_Sh} {a t N : Nat} (h : tw_ar sh a t N) (e : sh' a = sh a) : tw_ar sh' a t N := by
  obtain ⟨r, hr⟩ := h
  exact ⟨r, e.trans hr⟩
theorem tw_is_c {sh sh' : tw_Sh} {a t : Nat} (h : tw_is sh a t) (e : sh' a = sh a) : tw_is sh' a t := by
  obtain ⟨N, r, hr⟩ := h
  exact ⟨N, r, e.trans hr⟩
theorem tw_rr_c {sh sh' : tw_Sh} {a q : Nat} (e : sh' a = sh a) : tw_rr sh' a q = tw_rr sh a q := by
  unfold tw_rr
  rw [e]
theorem tw_Tx_sh {sh sh' : tw_Sh} {b : Nat} (h : tw_Tx sh b) (E : ∀ x, b + 140 ≤ x → x < b + 152 → sh' x = sh x) : tw_Tx sh' b := by
  unfold tw_Tx tw_is tw_ar tw_rr at h ⊢
  simp (disch := omega) only [E]
  exact h
section P99w
variable {sh : tw_Sh} {μ ν ν' : Nat → Nat → Int32} {la : Nat → Nat → Int64} {n a b t m lw c c' N N0 f q : Nat} {C : Nat → Nat × Nat} {T : Nat → Int32} {G : tw_Gm} {g : tw_Gx} {v : Int32}
theorem A_nw1 (F : Nat → tw_Mem → Prop) : tw_nw t F (sh, μ, la, n) = F n (tw_xkS sh n (t + 10, 0, fun _ => none), tw_xkI μ n, tw_xkL la n, n + 1) := rfl
theorem A_na1 (hc : c < 2 ^ 31) (h4 : c ≤ N) (F : Nat → tw_Mem → Prop) : tw_na t N (nI c) F (sh, μ, la, n) = F n (tw_xkS sh n (t, c, fun _ => none), tw_xkI μ n, tw_xkL la n, n + 1) := by
  have hcl : (nI c).toNatClampNeg = c := nz_cl (by omega)
  have hnl : ¬ nI c < 0 := by
    show ¬ nI c < nI 0
    rw [nz_lt (by omega) (by omega)]; omega
  apply propext
  constructor
  · rintro ⟨_, _, h⟩
    rw [hcl] at h
    exact h
  · intro h
    refine ⟨hnl, by rw [hcl]; exact h4, ?_⟩
    rw [hcl]
    exact h
theorem tw_pr_is (h : tw_is sh a t) (h1 : (tw_ix t q).isSome = true) (h2 : tw_rf q = true) (x : Nat) (k : tw_Mem → Prop) : tw_pr q a x k (sh, μ, la, n) = k (tw_upR sh a q (some x), μ, la, n) := by
  rw [A_pr, tw_is_fo h h1 h2, true_and]
/-- a row of ints, or its beginning, is copied -/
theorem c_copy (har : tw_ar sh a 0 N0) (ha : a < n) (hN : N0 ≤ 400) (hc : c ≤ N0) : ∃ μ' la', (∀ y, y < n → μ' y = μ y) ∧ (∀ j, j < c → μ' n j = μ a j) ∧ ∀ k : Nat → tw_Mem → Prop, f_J7_copyOf_59c91 a (nI c) k (sh, μ, la, n) = k n (tw_xkS sh n (0, c, fun _ => none), μ', la', n + 1) := by
  have har0 := har
  obtain ⟨r, hr⟩ := har
  by_cases h : c = N0
  · subst h
    refine ⟨fun y j => if y = n then μ a j else μ y j, la, fun y hy => by funext j; exact if_neg (by omega), fun j _ => if_pos rfl, fun k => ?_⟩
    unfold f_J7_copyOf_59c91
    rw [tw_al_ar har0 (by decide), A_if, if_pos rfl]
    apply propext
    constructor
    · rintro ⟨x, h1, h2, h3, h4⟩
      have hx : x = (0, c, r) := Option.some.inj (h1.symm.trans hr)
      subst hx
      exact h4.2
    · intro hk
      exact ⟨(0, c, r), hr, rfl, hN, ⟨c, fun _ => none, if_pos rfl⟩, hk⟩
  · have hne : ¬ nI c = nI N0 := by rw [nz_eq (by omega) (by omega)]; exact h
    have hlt : nI c < nI N0 := by rw [nz_lt (by omega) (by omega)]; omega
    have har1 : tw_ar (tw_xkS sh n (0, c, fun _ => none)) a 0 N0 := tw_ar_c har0 (tw_xkS_n (by omega))
    have harn : tw_ar (tw_xkS sh n (0, c, fun _ => none)) n 0 c := ⟨_, tw_xkS_a⟩
    refine ⟨tw_cpf (tw_xkI μ n) a 0 n 0 c, tw_xkL la n, fun y hy => ?_, fun j hj => ?_, fun k => ?_⟩
    · funext j
      rw [tw_cpf_ne (by omega), tw_xkI_n (by omega)]
    · rw [tw_cpf_in (by omega) (by omega), tw_xkI_n (by omega), Nat.zero_add, Nat.sub_zero]
    · unfold f_J7_copyOf_59c91
      rw [tw_al_ar har0 (by decide), A_if, if_neg hne, A_na1 (by omega) (by omega), tw_al_ar har1 (by decide), j_min, if_pos hlt]
      exact tw_cp_ar (sp := 0) (dp := 0) har1 harn (by omega) (by omega) (by omega) (by omega) (by omega) (by omega) _
/-- the new law's rows -/
theorem c_newLaw (hX : tw_Tx sh b) (hb : b + 182 ≤ n) (h18 : μ (b + 144) 18 = nI c) (hc : c ≤ 400) : ∃ sh' μ' la', (∀ y, y < n → sh' y = sh y) ∧ (∀ y, y < n → μ' y = μ y) ∧ tw_Lo sh' n ∧ tw_ar sh' (n + 5) 0 c ∧ μ' n 0 = μ (b + 144) 17 ∧ (∀ j, j < 12 → μ' (n + 2) j = μ (b + 148) j ∧ μ' (n + 3) j = μ (b + 149) j ∧ μ' (n + 4) j = μ (b + 150) j) ∧ (∀ j, j < c → μ' (n + 5) j = μ (b + 151) j) ∧ ∀ K : Unit → tw_Mem → Prop, f_X0_init_ n (b + 144) K (tw_xkS sh n (10, 0, fun _ => none), tw_xkI μ n, tw_xkL la n, n + 1) = K () (sh', μ', la', n + 6) := by
  have hcn : ¬ nI c < (0 : Int32) := by
    show ¬ nI c < nI 0
    rw [nz_lt (by omega) (by omega)]; omega
  -- the object, and the row of what waits
  obtain ⟨S1, eS1⟩ : ∃ S, S = tw_upR (tw_xkS (tw_xkS sh n (10, 0, fun _ => none)) (n + 1) (0, 20, fun _ => none)) n 5 (some (n + 1)) := ⟨_, rfl⟩
  have is0 : tw_is (tw_xkS (tw_xkS sh n (10, 0, fun _ => none)) (n + 1) (0, 20, fun _ => none)) n 0 := ⟨0, fun _ => none, by rw [tw_xkS_n (by omega)]; exact tw_xkS_a⟩
  have is1 : tw_is S1 n 0 := by rw [eS1]; exact tw_is_up is0
  have lt1 : ∀ y, y < n → S1 y = sh y := fun y hy => by rw [eS1, tw_upR_n (by omega), tw_xkS_n (by omega), tw_xkS_n (by omega)]
  have hX1 : tw_Tx S1 b := tw_Tx_sh hX (fun y h1 h2 => lt1 y (by omega))
  have r15 : tw_rr S1 n 5 = some (n + 1) := by rw [eS1]; exact tw_rr_ups is0
  have a11 : S1 (n + 1) = some (0, 20, fun _ => none) := by rw [eS1, tw_upR_n (by omega)]; exact tw_xkS_a
  obtain ⟨I1, eI1⟩ : ∃ I, I = tw_up (tw_xkI (tw_xkI μ n) (n + 1)) n 0 (μ (b + 144) 17) := ⟨_, rfl⟩
  have il1 : ∀ y, y < n → I1 y = μ y := fun y hy => by rw [eI1, tw_up_ne (by omega), tw_xkI_n (by omega), tw_xkI_n (by omega)]
  have in1 : I1 n 0 = μ (b + 144) 17 := by rw [eI1]; exact tw_ua
  -- kinds
  obtain ⟨I2, L2, il2, ic2, E2⟩ := c_copy (μ := I1) (la := tw_xkL (tw_xkL la n) (n + 1)) (n := n + 2) (c := 12) (tw_ar_c (sh' := S1) hX.2.2.2.2.2.2.2.2.1 (lt1 _ (by omega))) (by omega) (by omega) (Nat.le_refl _)
  obtain ⟨S2, eS2⟩ : ∃ S, S = tw_upR (tw_xkS S1 (n + 2) (0, 12, fun _ => none)) n 1 (some (n + 2)) := ⟨_, rfl⟩
  have is1' : tw_is (tw_xkS S1 (n + 2) (0, 12, fun _ => none)) n 0 := tw_is_c is1 (tw_xkS_n (by omega))
  have is2 : tw_is S2 n 0 := by rw [eS2]; exact tw_is_up is1'
  have lt2 : ∀ y, y < n + 2 → y ≠ n → S2 y = S1 y := fun y hy h => by rw [eS2, tw_upR_n (by omega), tw_xkS_n (by omega)]
  have hX2 : tw_Tx S2 b := tw_Tx_sh hX1 (fun y h1 h2 => lt2 y (by omega) (by omega))
  have r21 : tw_rr S2 n 1 = some (n + 2) := by rw [eS2]; exact tw_rr_ups is1'
  have r2q : ∀ q, q ≠ 1 → tw_rr S2 n q = tw_rr S1 n q := fun q hq => by rw [eS2, tw_rr_upn hq, tw_rr_c (tw_xkS_n (by omega))]
  have a22 : S2 (n + 2) = some (0, 12, fun _ => none) := by rw [eS2, tw_upR_n (by omega)]; exact tw_xkS_a
  -- amounts
  obtain ⟨I3, L3, il3, ic3, E3⟩ := c_copy (μ := I2) (la := L2) (n := n + 3) (c := 12) (tw_ar_c (sh' := S2) hX.2.2.2.2.2.2.2.2.2.1 ((lt2 _ (by omega) (by omega)).trans (lt1 _ (by omega)))) (by omega) (by omega) (Nat.le_refl _)
  obtain ⟨S3, eS3⟩ : ∃ S, S = tw_upR (tw_xkS S2 (n + 3) (0, 12, fun _ => none)) n 2 (some (n + 3)) := ⟨_, rfl⟩
  have is2' : tw_is (tw_xkS S2 (n + 3) (0, 12, fun _ => none)) n 0 := tw_is_c is2 (tw_xkS_n (by omega))
  have is3 : tw_is S3 n 0 := by rw [eS3]; exact tw_is_up is2'
  have lt3 : ∀ y, y < n + 3 → y ≠ n → S3 y = S2 y := fun y hy h => by rw [eS3, tw_upR_n (by omega), tw_xkS_n (by omega)]
  have hX3 : tw_Tx S3 b := tw_Tx_sh hX2 (fun y h1 h2 => lt3 y (by omega) (by omega))
  have r32 : tw_rr S3 n 2 = some (n + 3) := by rw [eS3]; exact tw_rr_ups is2'
  have r3q : ∀ q, q ≠ 2 → tw_rr S3 n q = tw_rr S2 n q := fun q hq => by rw [eS3, tw_rr_upn hq, tw_rr_c (tw_xkS_n (by omega))]
  have a33 : S3 (n + 3) = some (0, 12, fun _ => none) := by rw [eS3, tw_upR_n (by omega)]; exact tw_xkS_a
  -- ends
  obtain ⟨I4, L4, il4, ic4, E4⟩ := c_copy (μ := I3) (la := L3) (n := n + 4) (c := 12) (tw_ar_c (sh' := S3) hX.2.2.2.2.2.2.2.2.2.2.1 ((lt3 _ (by omega) (by omega)).trans ((lt2 _ (by omega) (by omega)).trans (lt1 _ (by omega))))) (by omega) (by omega) (Nat.le_refl _)
  obtain ⟨S4, eS4⟩ : ∃ S, S = tw_upR (tw_xkS S3 (n + 4) (0, 12, fun _ => none)) n 3 (some (n + 4)) := ⟨_, rfl⟩
  have is3' : tw_is (tw_xkS S3 (n + 4) (0, 12, fun _ => none)) n 0 := tw_is_c is3 (tw_xkS_n (by omega))
  have is4 : tw_is S4 n 0 := by rw [eS4]; exact tw_is_up is3'
  have lt4 : ∀ y, y < n + 4 → y ≠ n → S4 y = S3 y := fun y hy h => by rw [eS4, tw_upR_n (by omega), tw_xkS_n (by omega)]
  have hX4 : tw_Tx S4 b := tw_Tx_sh hX3 (fun y h1 h2 => lt4 y (by omega) (by omega))
  have r43 : tw_rr S4 n 3 = some (n + 4) := by rw [eS4]; exact tw_rr_ups is3'
  have r4q : ∀ q, q ≠ 3 → tw_rr S4 n q = tw_rr S3 n q := fun q hq => by rw [eS4, tw_rr_upn hq, tw_rr_c (tw_xkS_n (by omega))]
  have a44 : S4 (n + 4) = some (0, 12, fun _ => none) := by rw [eS4, tw_upR_n (by omega)]; exact tw_xkS_a
  -- steps
  have i418 : I4 (b + 144) 18 = nI c := by rw [il4 _ (by omega), il3 _ (by omega), il2 _ (by omega), il1 _ (by omega)]; exact h18
  obtain ⟨I5, L5, il5, ic5, E5⟩ := c_copy (μ := I4) (la := L4) (n := n + 5) (c := c) (tw_ar_c (sh' := S4) hX.2.2.2.2.2.2.2.2.2.2.2.1 ((lt4 _ (by omega) (by omega)).trans ((lt3 _ (by omega) (by omega)).trans ((lt2 _ (by omega) (by omega)).trans (lt1 _ (by omega)))))) (by omega) (by omega) hc
  obtain ⟨S5, eS5⟩ : ∃ S, S = tw_upR (tw_xkS S4 (n + 5) (0, c, fun _ => none)) n 4 (some (n + 5)) := ⟨_, rfl⟩
  have is4' : tw_is (tw_xkS S4 (n + 5) (0, c, fun _ => none)) n 0 := tw_is_c is4 (tw_xkS_n (by omega))
  have is5 : tw_is S5 n 0 := by rw [eS5]; exact tw_is_up is4'
  have lt5 : ∀ y, y < n + 5 → y ≠ n → S5 y = S4 y := fun y hy h => by rw [eS5, tw_upR_n (by omega), tw_xkS_n (by omega)]
  have r54 : tw_rr S5 n 4 = some (n + 5) := by rw [eS5]; exact tw_rr_ups is4'
  have r5q : ∀ q, q ≠ 4 → tw_rr S5 n q = tw_rr S4 n q := fun q hq => by rw [eS5, tw_rr_upn hq, tw_rr_c (tw_xkS_n (by omega))]
  have a55 : S5 (n + 5) = some (0, c, fun _ => none) := by rw [eS5, tw_upR_n (by omega)]; exact tw_xkS_a
  refine ⟨S5, I5, L5, fun y hy => ?_, fun y hy => ?_, ⟨is5, ⟨fun _ => none, ?_⟩, ⟨fun _ => none, ?_⟩, ⟨fun _ => none, ?_⟩, ⟨fun _ => none, ?_⟩, ?_, ?_, ?_, ?_, r54⟩, ⟨_, a55⟩, ?_, fun j hj => ⟨?_, ?_, ?_⟩, fun j hj => ?_, fun K => ?_⟩
  · rw [lt5 y (by omega) (by omega), lt4 y (by omega) (by omega), lt3 y (by omega) (by omega), lt2 y (by omega) (by omega)]; exact lt1 y hy
  · rw [il5 y (by omega), il4 y (by omega), il3 y (by omega), il2 y (by omega)]; exact il1 y hy
  · rw [lt5 _ (by omega) (by omega), lt4 _ (by omega) (by omega), lt3 _ (by omega) (by omega), lt2 _ (by omega) (by omega)]; exact a11
  · rw [lt5 _ (by omega) (by omega), lt4 _ (by omega) (by omega), lt3 _ (by omega) (by omega)]; exact a22
  · rw [lt5 _ (by omega) (by omega), lt4 _ (by omega) (by omega)]; exact a33
  · rw [lt5 _ (by omega) (by omega)]; exact a44
  · rw [r5q 5 (by omega), r4q 5 (by omega), r3q 5 (by omega), r2q 5 (by omega)]; exact r15
  · rw [r5q 1 (by omega), r4q 1 (by omega), r3q 1 (by omega)]; exact r21
  · rw [r5q 2 (by omega), r4q 2 (by omega)]; exact r32
  · rw [r5q 3 (by omega)]; exact r43
  · rw [il5 n (by omega), il4 n (by omega), il3 n (by omega), il2 n (by omega)]; exact in1
  · rw [il5 _ (by omega), il4 _ (by omega), il3 _ (by omega), ic2 j hj, il1 _ (by omega)]
  · rw [il5 _ (by omega), il4 _ (by omega), ic3 j hj, il2 _ (by omega), il1 _ (by omega)]
  · rw [il5 _ (by omega), ic4 j hj, il3 _ (by omega), il2 _ (by omega), il1 _ (by omega)]
  · rw [ic5 j hj, il4 _ (by omega), il3 _ (by omega), il2 _ (by omega), il1 _ (by omega)]
  · have l20 : (20 : Int32) = nI 20 := rfl
    have l12 : (12 : Int32) = nI 12 := rfl
    have i117 : tw_xkI (tw_xkI μ n) (n + 1) (b + 144) 17 = μ (b + 144) 17 := by rw [tw_xkI_n (by omega), tw_xkI_n (by omega)]
    have p0 : ∀ k : tw_Mem → Prop, tw_pi 0 n (μ (b + 144) 17) k (S1, tw_xkI (tw_xkI μ n) (n + 1), tw_xkL (tw_xkL la n) (n + 1), n + 2) = k (S1, I1, tw_xkL (tw_xkL la n) (n + 1), n + 2) := fun k => by
      rw [eI1]; exact tw_pi_is (of_eq_true (tw_is_fo is1 rfl rfl)) _ k
    unfold f_X0_init_
    rw [l20, A_na1 (by omega) (by omega), tw_pr_is is0 rfl rfl, ← eS1, TxI1_17 hX1, i117, p0, TxG1_13 hX1, l12, E2, tw_pr_is is1' rfl rfl, ← eS2, TxG1_14 hX2, E3, tw_pr_is is2' rfl rfl, ← eS3, TxG1_15 hX3, E4, tw_pr_is is3' rfl rfl, ← eS4, TxG1_16 hX4, TxI1_18 hX4, i418, j_max, if_neg hcn, E5, tw_pr_is is4' rfl rfl, ← eS5]
/-- the lines go to where the law is read -/
def tw_lcp (T : Nat → Int32) (j : Nat) : Nat → Int32 := fun q => if 492 ≤ q ∧ q < 492 + j then T (q + 849) else T q
theorem tw_lcp_s (T : Nat → Int32) (j : Nat) (h : j < 849) : tw_u1 (tw_lcp T j) (492 + j) (T (1341 + j)) = tw_lcp T (j + 1) := by
  funext q
  unfold tw_u1 tw_lcp
  by_cases e : q = 492 + j
  · subst e
    rw [if_pos rfl, if_pos (by omega), show 492 + j + 849 = 1341 + j by omega]
  · rw [if_neg e]
    by_cases e2 : 492 ≤ q ∧ q < 492 + j
    · rw [if_pos e2, if_pos (by omega)]
    · rw [if_neg e2, if_neg (by omega)]
theorem tw_lcp_0 (T : Nat → Int32) : tw_lcp T 0 = T := by
  funext q
  exact if_neg (by omega)
theorem m_lcopy (hM : tw_Mo sh m) (hT : ν (m + 1) = T) (K : tw_Mem → Prop) : tw_lp (fun (r8 : Int32 → tw_Mem → Prop) (s9 : Int32) => tw_if (s9 < (849 : Int32)) (tw_gr 71 m fun x11 => tw_gr 71 m fun x12 => tw_li x12 ((1341 : Int32) + s9) fun x13 => tw_si x11 ((492 : Int32) + s9) x13 (r8 (s9 + (1 : Int32)))) K) (0 : Int32) (sh, ν, la, n) = K (sh, tw_ra ν (m + 1) (tw_lcp T 849), la, n) := by
  refine tw_lp_for 849 (fun j => nI j) (fun j => (sh, tw_ra ν (m + 1) (tw_lcp T j), la, n)) rfl (by show (sh, tw_ra ν (m + 1) (tw_lcp T 0), la, n) = _; rw [tw_lcp_0, ← hT, tw_ra_s]) (fun j hj rec => ?_) (fun rec => ?_)
  · have hlt : nI j < (849 : Int32) := by show nI j < nI 849; rw [nz_lt (by omega) (by omega)]; exact hj
    have e1 : nI j + (1 : Int32) = nI (j + 1) := nI_add j 1
    have e2 : (1341 : Int32) + nI j = nI (1341 + j) := nI_add 1341 j
    have e3 : (492 : Int32) + nI j = nI (492 + j) := nI_add 492 j
    have e4 : tw_lcp T j (1341 + j) = T (1341 + j) := if_neg (by omega)
    rw [A_if, if_pos hlt, MoG0_71 hM, MoG0_71 hM, e2, X_li hM.2.1 (by omega) (by decide), tw_ra_aj, e4, e3, X_si hM.2.1 (by omega) (by decide), tw_up_ra, tw_lcp_s T j hj, e1]
  · have hlt : ¬ nI 849 < (849 : Int32) := by decide
    rw [A_if, if_neg hlt]
/-- what the model makes of a law's text -/
theorem m_law (hM : tw_Mo sh m) {ok : Bool} (hN : N ≤ 12) (hR : ∀ la n (k : Int32 → tw_Mem → Prop), f_X12_readAll g m 0 k (sh, ν, la, n) = k (if ok = true then nI N else mI) (sh, ν', la, n)) (r70 : ν' m 70 = nI 0) (r82 : ok = false → ν' m 82 = nI f) : ∃ ν2, (∀ y, y ≠ m → y ≠ m + 1 → ν2 y = ν' y) ∧ (∀ q, q ≠ 70 → q ≠ 77 → q ≠ 84 → ν2 m q = ν' m q) ∧ ν2 (m + 1) = (if ok = true then tw_u1 (tw_lcp (tw_u1 (ν' (m + 1)) 1341 (nI N)) 849) 2 (nI 1) else ν' (m + 1)) ∧ ν2 m 84 = (if ok = true then mI else nI f) ∧ ν2 m 77 = (if ok = true then nI 0 else ν' m 77) ∧ ν2 m 70 = (if ok = true then nI 0 else nI 1) ∧ ∀ la n (k : Int32 → tw_Mem → Prop), f_X12_law g m k (sh, ν, la, n) = k (if ok = true then nI N else nI 0) (sh, ν2, la, n) := by
  have n10 : ¬ (1 : Int32) = 0 := by decide
  have hmI : mI < (0 : Int32) := by decide
  have hN0 : ¬ nI N < (0 : Int32) := by show ¬ nI N < nI 0; rw [nz_lt (by omega) (by omega)]; omega
  have hz0 : ∀ F M, tw_rz (0 : Int32) F M = F M := fun F M => tw_rz_b (ok := false) F M
  have hz1 : ∀ F M, tw_rz (1 : Int32) F M = F M := fun F M => tw_rz_b (ok := true) F M
  have th0 : ∀ ν v la n (K : Int32 → tw_Mem → Prop), f_X12_throwsIf m 0 v K (sh, ν, la, n) = K 0 (sh, ν, la, n) := fun ν v la n K => by
    unfold f_X12_throwsIf
    rw [A_if, if_pos rfl, hz0]
  have th1 : ∀ ν v la n (K : Int32 → tw_Mem → Prop), f_X12_throwsIf m 1 v K (sh, ν, la, n) = K 1 (sh, tw_up ν m 70 v, la, n) := fun ν v la n K => by
    unfold f_X12_throwsIf
    rw [A_if, if_neg n10, MoP0_70 hM, hz1]
  have si2 : ∀ ν v la n (k : tw_Mem → Prop), tw_si (m + 1) (2 : Int32) v k (sh, ν, la, n) = k (sh, tw_up ν (m + 1) 2 v, la, n) := fun ν v la n k => X_si (i := 2) hM.2.1 (by omega) (by decide) v k
  have si1341 : ∀ ν v la n (k : tw_Mem → Prop), tw_si (m + 1) (1341 : Int32) v k (sh, ν, la, n) = k (sh, tw_up ν (m + 1) 1341 v, la, n) := fun ν v la n k => X_si (i := 1341) hM.2.1 (by omega) (by decide) v k
  cases ok with
  | false =>
    refine ⟨tw_up (tw_up ν' m 84 (nI f)) m 70 (1 : Int32), fun y h1 h2 => by rw [tw_up_ne h1, tw_up_ne h1], fun q h1 h2 h3 => by rw [tw_uk (by omega), tw_uk (by omega)], by rw [if_neg (by simp), tw_up_ne (by omega), tw_up_ne (by omega)], by rw [if_neg (by simp), tw_uk (by omega)]; exact tw_ua, by rw [if_neg (by simp), tw_uk (by omega), tw_uk (by omega)], by rw [if_neg (by simp)]; exact tw_ua, fun la n k => ?_⟩
    unfold f_X12_law
    rw [MoV0 hM, hR, if_neg (by decide), A_jn, A_if, if_pos hmI, MoI0_82 hM, r82 rfl]
    show tw_pi 84 m (nI f) _ _ = _
    rw [MoP0_84 hM, A_jn, A_if, if_pos hmI]
    show tw_iv 11 m (f_X12_throwsIf m 1 1 _) _ = _
    rw [MoV0 hM, th1, A_if, if_neg n10, if_neg (by decide)]
    rfl
  | true =>
    have em1 : (-1 : Int32) = mI := rfl
    refine ⟨tw_up (tw_up (tw_ra (tw_up (tw_up ν' m 84 mI) (m + 1) 1341 (nI N)) (m + 1) (tw_lcp (tw_u1 (ν' (m + 1)) 1341 (nI N)) 849)) (m + 1) 2 (1 : Int32)) m 77 (0 : Int32), fun y h1 h2 => by rw [tw_up_ne h1, tw_up_ne h2, tw_ra_n (by omega), tw_up_ne h2, tw_up_ne h1], fun q h1 h2 h3 => by rw [tw_uk (by omega), tw_up_ne (by omega), tw_ra_nj (by omega), tw_up_ne (by omega), tw_uk (by omega)], by rw [if_pos rfl, tw_up_ne (by omega), tw_up_ra, tw_ra_a]; rfl, by rw [if_pos rfl, tw_uk (by omega), tw_up_ne (by omega), tw_ra_nj (by omega), tw_up_ne (by omega)]; exact tw_ua, by rw [if_pos rfl]; exact tw_ua, by rw [if_pos rfl, tw_uk (by omega), tw_up_ne (by omega), tw_ra_nj (by omega), tw_up_ne (by omega), tw_uk (by omega)]; exact r70, fun la n k => ?_⟩
    unfold f_X12_law
    rw [MoV0 hM, hR, if_pos rfl, A_jn, A_if, if_neg hN0]
    show tw_pi 84 m (-1 : Int32) _ _ = _
    rw [MoP0_84 hM, A_jn, A_if, if_neg hN0]
    show tw_iv 11 m (f_X12_throwsIf m 0 1 _) _ = _
    rw [MoV0 hM, th0, A_if, if_pos rfl, MoG0_71 hM, si1341, em1, m_lcopy hM (T := tw_u1 (ν' (m + 1)) 1341 (nI N)) (by rw [tw_up_as, tw_ra_a, tw_up_ne (by omega)]), MoG0_71 hM, si2, MoP0_77 hM, if_pos rfl]
/-- class and model tell the same law -/
theorem tw_LL_La {sh' : tw_Sh} {μ' : Nat → Nat → Int32} (H : tw_LL b m μ ν C c N) (h2 : T 2 = nI 1) (h492 : T 492 = nI N) (hT : ∀ p, 493 ≤ p → p < 1341 → T p = ν (m + 1) (p + 849)) (hLo : tw_Lo sh' lw) (hst : tw_ar sh' (lw + 5) 0 c) (e0 : μ' lw 0 = nI N) (e1 : ∀ j, j < 12 → μ' (lw + 2) j = μ (b + 148) j ∧ μ' (lw + 3) j = μ (b + 149) j ∧ μ' (lw + 4) j = μ (b + 150) j) (e2 : ∀ j, j < c → μ' (lw + 5) j = μ (b + 151) j) : tw_La sh' μ' lw T := by
  obtain ⟨h17, hN12, h18, hc4, hcode, h86, hcm, hl, hN0, hNl⟩ := H
  have hC : ∀ q, q < c → tw_tC T q = C q := fun q hq => by
    obtain ⟨g1, g2, g3, g4⟩ := hcm q hq
    unfold tw_tC
    rw [hT _ (by omega) (by omega), hT _ (by omega) (by omega), show 541 + 2 * q + 849 = 1390 + 2 * q by omega, show 541 + 2 * q + 1 + 849 = 1390 + 2 * q + 1 by omega, g1, g2, tw_nt_n (by omega), tw_nt_n (by omega)]
  refine ⟨hLo.1, Or.inr ⟨c, ⟨h2, hc4, ⟨N, hN12, h492, fun i hi => ?_⟩, fun q hq => ?_⟩, hLo, hst, e0.trans h492.symm, fun N' i hN1 hN' hi => ?_, fun q hq => ?_⟩⟩
  · obtain ⟨kd', am', f, z, a1, a2, a3, a4, a5, a6, a7, a8, a9, a10, a11, a12, a13⟩ := hl i hi
    refine ⟨⟨kd', a1, ?_⟩, ⟨am', a2, ?_⟩, f, z, a3, ?_, ?_, a11, fun j hj => ?_, ?_⟩
    · rw [hT _ (by omega) (by omega), show 493 + 4 * i + 849 = 1342 + 4 * i by omega]; exact a7
    · rw [hT _ (by omega) (by omega), show 493 + 4 * i + 1 + 849 = 1342 + 4 * i + 1 by omega]; exact a8
    · rw [hT _ (by omega) (by omega), show 493 + 4 * i + 2 + 849 = 1342 + 4 * i + 2 by omega]; exact a9
    · rw [hT _ (by omega) (by omega), show 493 + 4 * i + 3 + 849 = 1342 + 4 * i + 3 by omega]; exact a10
    · rw [hT _ (by omega) (by omega), show 493 + 4 * j + 3 + 849 = 1342 + 4 * j + 3 by omega]; exact a12 j hj
    · rcases a13 with a13 | a13
      · exact Or.inl a13
      · exact Or.inr (tw_sA_congr (fun q h6 h7 => (hC q (by omega)).symm) a13)
  · obtain ⟨g1, g2, g3, g4⟩ := hcm q hq
    refine ⟨⟨(C q).1, g3, ?_⟩, (C q).2, g4, ?_⟩
    · rw [hT _ (by omega) (by omega), show 541 + 2 * q + 849 = 1390 + 2 * q by omega]; exact g1
    · rw [hT _ (by omega) (by omega), show 541 + 2 * q + 1 + 849 = 1390 + 2 * q + 1 by omega]; exact g2
  · have eN : N = N' := by
      have : nI N = nI N' := h492.symm.trans hN'
      rw [nz_eq (by omega) (by omega)] at this
      exact this
    subst eN
    obtain ⟨kd', am', f, z, a1, a2, a3, a4, a5, a6, a7, a8, a9, a10, a11, a12, a13⟩ := hl i hi
    obtain ⟨x1, x2, x3⟩ := e1 i (by omega)
    rw [x1, x2, x3, a4, a5, a6, hT _ (by omega) (by omega), hT _ (by omega) (by omega), hT _ (by omega) (by omega), show 493 + 4 * i + 849 = 1342 + 4 * i by omega, show 493 + 4 * i + 1 + 849 = 1342 + 4 * i + 1 by omega, show 493 + 4 * i + 3 + 849 = 1342 + 4 * i + 3 by omega, a7, a8, a10]
    exact ⟨rfl, rfl, rfl⟩
  · rw [e2 q hq, hcode q hq, hC q hq]
end P99w
