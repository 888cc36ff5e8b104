/-! ===== pure: sets of people as numbers ===== -/
theorem nI_and (a b : Nat) : nI a &&& nI b = nI (a &&& b) := by
  apply Int32.toBitVec_inj.mp
  show BitVec.ofNat 32 a &&& BitVec.ofNat 32 b = BitVec.ofNat 32 (a &&& b)
  rw [BitVec.ofNat_and]
theorem tw_isbN {x p : Nat} (hx : x < 2147483648) (hp : p < 32) : ((nI x >>> nI p) &&& nI 1 = nI 1) = (x.testBit p = true) := by
  have h1 : x / 2 ^ p < 2147483648 := Nat.lt_of_le_of_lt (Nat.div_le_self _ _) hx
  rw [nz_shr hx hp, nz_and1 h1, nz_eq (by omega) (by omega), Nat.testBit_eq_decide_div_mod_eq]
  apply propext
  simp
theorem tw_shN {p : Nat} (hp : p < 8) : nI 1 <<< nI p = nI (2 ^ p) := by
  have g : ∀ p : Fin 8, nI 1 <<< nI p.1 = nI (2 ^ p.1) := by decide
  exact g ⟨p, hp⟩
theorem tw_tb_or {r o j i : Nat} {c : Bool} {f : Nat → Bool} (h : ∀ q, r.testBit q = (decide (q < i) && f q)) (hi : o = i) (hc : f i = c) : (if c = true then r ||| 2 ^ o else r).testBit j = (decide (j < i + 1) && f j) := by
  subst hi
  by_cases e : j = o
  · subst e
    cases c
    · rw [if_neg (by decide), h j, hc]
      simp
    · rw [if_pos rfl, Nat.testBit_or, Nat.testBit_two_pow_self, hc]
      simp
  · have e2 : (2 ^ o).testBit j = false := Nat.testBit_two_pow_of_ne (fun q => e q.symm)
    have e3 : decide (j < o + 1) = decide (j < o) := by
      apply decide_eq_decide.mpr
      omega
    rw [e3]
    split
    · rw [Nat.testBit_or, e2, Bool.or_false]; exact h j
    · exact h j
theorem tw_lt_pow {r i : Nat} {f : Nat → Bool} (h : ∀ q, r.testBit q = (decide (q < i) && f q)) : r < 2 ^ i := by
  apply Nat.lt_pow_two_of_testBit
  intro j hj
  rw [h j, decide_eq_false (by omega), Bool.false_and]
/-- a row of bits, told by what is asked of each -/
theorem tw_bits {F : Nat → Int32 → Int32} (f : Nat → Bool) (hF : ∀ o b, F o b = if f o = true then b ||| (nI 1 <<< nI o) else b) : ∀ i, i ≤ 8 → ∃ r, tw_it F i (nI 0) = nI r ∧ ∀ q, r.testBit q = (decide (q < i) && f q)
  | 0, _ => ⟨0, rfl, fun q => by simp⟩
  | i + 1, hi => by
    obtain ⟨r, e, h⟩ := tw_bits f hF i (by omega)
    refine ⟨if f i = true then r ||| 2 ^ i else r, ?_, fun q => tw_tb_or h rfl rfl⟩
    rw [tw_it_s, hF, e]
    split
    · rw [tw_shN (by omega), nI_or]
    · rfl
/-- whether p is in x -/
def tw_ib (x : Int32) (p : Nat) : Bool := decide ((x >>> nI p) &&& nI 1 = nI 1)
theorem tw_ibN {x p : Nat} (hx : x < 2147483648) (hp : p < 32) : tw_ib (nI x) p = x.testBit p := by
  unfold tw_ib
  rw [Bool.eq_iff_iff, decide_eq_true_iff, tw_isbN hx hp]
/-- what the rows of a set tell -/
theorem tw_tl_n {R : Nat → Int32} {r : Nat → Nat} {P : Nat} (x : Int32) (h8 : P ≤ 8) (hR : ∀ p, p < P → R p = nI (r p) ∧ r p < 2 ^ P) : ∀ i, i ≤ P → ∃ z, tw_tl R x i = nI z ∧ z < 2 ^ P ∧ ∀ o, z.testBit o = true ↔ ∃ p, p < i ∧ tw_ib x p = true ∧ (r p).testBit o = true
  | 0, _ => ⟨0, rfl, Nat.two_pow_pos P, fun o => by simp⟩
  | i + 1, hi => by
    obtain ⟨z, e, hz, h⟩ := tw_tl_n x h8 hR i (by omega)
    have es : tw_tl R x (i + 1) = (if (x >>> nI i) &&& nI 1 = nI 1 then tw_tl R x i ||| R i else tw_tl R x i) := rfl
    by_cases q : (x >>> nI i) &&& nI 1 = nI 1
    · refine ⟨z ||| r i, ?_, Nat.or_lt_two_pow hz (hR i (by omega)).2, fun o => ?_⟩
      · rw [es, if_pos q, e, (hR i (by omega)).1, nI_or]
      · rw [Nat.testBit_or, Bool.or_eq_true, h o]
        constructor
        · rintro (⟨p, h1, h2, h3⟩ | h1)
          · exact ⟨p, by omega, h2, h3⟩
          · exact ⟨i, by omega, decide_eq_true q, h1⟩
        · rintro ⟨p, h1, h2, h3⟩
          by_cases g : p = i
          · subst g; exact Or.inr h3
          · exact Or.inl ⟨p, by omega, h2, h3⟩
    · refine ⟨z, ?_, hz, fun o => ?_⟩
      · rw [es, if_neg q, e]
      · rw [h o]
        constructor
        · rintro ⟨p, h1, h2, h3⟩
          exact ⟨p, by omega, h2, h3⟩
        · rintro ⟨p, h1, h2, h3⟩
          by_cases g : p = i
          · subst g
            exact absurd (of_decide_eq_true h2) q
          · exact ⟨p, by omega, h2, h3⟩
theorem tw_and0 {a b : Nat} (ha : a < 2147483648) : (nI a &&& nI b = nI 0) = ∀ o, ¬ (a.testBit o = true ∧ b.testBit o = true) := by
  have h2 : a &&& b < 2147483648 := Nat.lt_of_le_of_lt Nat.and_le_left ha
  rw [nI_and, nz_eq h2 (by omega)]
  apply propext
  constructor
  · intro h o ⟨h3, h4⟩
    have := congrArg (fun z => z.testBit o) h
    simp [Nat.testBit_and, h3, h4] at this
  · intro h
    apply Nat.eq_of_testBit_eq
    intro o
    rw [Nat.testBit_and, Nat.zero_testBit]
    have := h o
    cases h1 : a.testBit o <;> cases h3 : b.testBit o <;> simp_all
/-- the guess rows -/
def tw_gb (T : Nat → Int32) (p : Nat) (L : Int32) (o : Nat) : Bool := decide (¬ o = p ∧ ¬ T (32 + 20 * p + (4 + o)) < L)
theorem tw_sGB_n (T : Nat → Int32) (p : Nat) (L : Int32) {i : Nat} (hi : i ≤ 8) : ∃ r, tw_sGB T p L i = nI r ∧ r < 2 ^ i ∧ ∀ q, r.testBit q = (decide (q < i) && tw_gb T p L q) := by
  obtain ⟨r, e, h⟩ := tw_bits (F := fun o b => if o = p then b else if T (32 + 20 * p + (4 + o)) < L then b else b ||| (nI 1 <<< nI o)) (tw_gb T p L) (fun o b => by
    unfold tw_gb
    by_cases q1 : o = p
    · simp [q1]
    · by_cases q2 : T (32 + 20 * p + (4 + o)) < L <;> simp [q1, q2]) i hi
  exact ⟨r, e, tw_lt_pow h, h⟩
theorem tw_rb_n (T : Nat → Int32) (p : Nat) {i : Nat} (hi : i ≤ 8) : ∃ r, tw_rb T p i = nI r ∧ r < 2 ^ i ∧ ∀ q, r.testBit q = (decide (q < i) && decide (¬ q = p ∧ tw_rg T p q = nI 1)) := by
  obtain ⟨r, e, h⟩ := tw_bits (F := fun o b => if o = p then b else if tw_rg T p o = nI 1 then b ||| (nI 1 <<< nI o) else b) (fun o => decide (¬ o = p ∧ tw_rg T p o = nI 1)) (fun o b => by
    by_cases q1 : o = p
    · simp [q1]
    · by_cases q2 : tw_rg T p o = nI 1 <;> simp [q1, q2]) i hi
  exact ⟨r, e, tw_lt_pow h, h⟩
