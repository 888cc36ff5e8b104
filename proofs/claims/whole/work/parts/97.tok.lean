/-! ===== pure: bytes, words, numbers, signs ===== -/
def tw_skp (f : Nat → Bool) : Nat → Nat → Nat
  | 0, x => x
  | k + 1, x => if f x = true then tw_skp f k (x + 1) else x
theorem tw_skp_s (f : Nat → Bool) : ∀ k x, x ≤ tw_skp f k x ∧ tw_skp f k x ≤ x + k ∧ (∀ y, x ≤ y → y < tw_skp f k x → f y = true) ∧ (tw_skp f k x = x + k ∨ f (tw_skp f k x) = false)
  | 0, x => ⟨Nat.le_refl x, Nat.le_refl x, fun y a b => by have : y < x := b; omega, Or.inl rfl⟩
  | k + 1, x => by
    unfold tw_skp
    by_cases h : f x = true
    · obtain ⟨a, b, c, d⟩ := tw_skp_s f k (x + 1)
      rw [if_pos h]
      refine ⟨by omega, by omega, fun y h1 h2 => ?_, ?_⟩
      · by_cases e : y = x
        · rw [e]; exact h
        · exact c y (by omega) h2
      · rcases d with d | d
        · exact Or.inl (by omega)
        · exact Or.inr d
    · rw [if_neg h]
      refine ⟨Nat.le_refl x, by omega, fun y a b => by omega, Or.inr ?_⟩
      simpa using h
theorem tw_skp_u {f : Nat → Bool} {k x z : Nat} (h1 : x ≤ z) (h2 : z ≤ x + k) (h3 : ∀ y, x ≤ y → y < z → f y = true) (h4 : z = x + k ∨ f z = false) : tw_skp f k x = z := by
  obtain ⟨a, b, c, d⟩ := tw_skp_s f k x
  rcases Nat.lt_trichotomy (tw_skp f k x) z with g | g | g
  · have := h3 _ a g
    rcases d with d | d
    · omega
    · rw [d] at this; cases this
  · exact g
  · have := c z h1 g
    rcases h4 with d | d
    · omega
    · rw [d] at this; cases this
def tw_bl (B : Nat → Nat) (y : Nat) : Bool := decide (B y = 32)
def tw_le (B : Nat → Nat) (y : Nat) : Bool := decide (97 ≤ B y ∧ B y ≤ 122)
def tw_dg (B : Nat → Nat) (y : Nat) : Bool := decide (48 ≤ B y ∧ B y ≤ 57)
/-- where the next thing begins -/
def tw_tbb (B : Nat → Nat) (e x : Nat) : Nat := tw_skp (tw_bl B) (e - x) x
/-- where the thing that begins at x ends -/
def tw_te (B : Nat → Nat) (e x : Nat) : Nat := if e ≤ x then x else if tw_le B x = true then tw_skp (tw_le B) (e - x) x else if tw_dg B x = true then tw_skp (tw_dg B) (e - x) x else x + 1
def tw_tp (B : Nat → Nat) (e : Nat) : Nat → Nat
  | 0 => 0
  | i + 1 => tw_te B e (tw_tbb B e (tw_tp B e i))
def tw_tg (B : Nat → Nat) (e i : Nat) : Nat := tw_tbb B e (tw_tp B e i)
def tw_wo (B : Nat → Nat) (x : Nat) : Nat → Nat
  | 0 => 0
  | k + 1 => 32 * tw_wo B x k + (B (x + k) - 96)
def tw_nu (B : Nat → Nat) (x : Nat) : Nat → Nat
  | 0 => 0
  | k + 1 => 10 * tw_nu B x k + (B (x + k) - 48)
def tw_tk (B : Nat → Nat) (e x : Nat) : Nat := if e ≤ x then 0 else if tw_le B x = true then 1 else if tw_dg B x = true then 2 else 3
def tw_tv (B : Nat → Nat) (e x : Nat) : Nat := if e ≤ x then 0 else if tw_le B x = true then (if tw_te B e x - x ≤ 6 then tw_wo B x (tw_te B e x - x) else 0) else if tw_dg B x = true then (if tw_te B e x - x ≤ 3 then tw_nu B x (tw_te B e x - x) else 1000) else B x
theorem tw_tbb_s (B : Nat → Nat) {e x : Nat} (h : x ≤ e) : x ≤ tw_tbb B e x ∧ tw_tbb B e x ≤ e ∧ (tw_tbb B e x = e ∨ B (tw_tbb B e x) ≠ 32) ∧ ∀ y, x ≤ y → y < tw_tbb B e x → B y = 32 := by
  obtain ⟨a, b, c, d⟩ := tw_skp_s (tw_bl B) (e - x) x
  refine ⟨a, by unfold tw_tbb; omega, ?_, fun y h1 h2 => of_decide_eq_true (c y h1 h2)⟩
  rcases d with d | d
  · exact Or.inl (by unfold tw_tbb; omega)
  · exact Or.inr (of_decide_eq_false d)
theorem tw_tbb_u {B : Nat → Nat} {e x z : Nat} (h1 : x ≤ z) (h2 : z ≤ e) (h3 : ∀ y, x ≤ y → y < z → B y = 32) (h4 : z = e ∨ B z ≠ 32) : tw_tbb B e x = z := by
  refine tw_skp_u h1 (by omega) (fun y a b => decide_eq_true (h3 y a b)) ?_
  rcases h4 with h4 | h4
  · exact Or.inl (by omega)
  · exact Or.inr (decide_eq_false h4)
theorem tw_tbb_m {B : Nat → Nat} {e x y : Nat} (h : x ≤ e) (h1 : x ≤ y) (h2 : y ≤ tw_tbb B e x) : tw_tbb B e y = tw_tbb B e x := by
  obtain ⟨a, b, c, d⟩ := tw_tbb_s B h
  exact tw_tbb_u h2 b (fun z g1 g2 => d z (by omega) g2) c
theorem tw_te_s (B : Nat → Nat) {e x : Nat} (h : x ≤ e) : x ≤ tw_te B e x ∧ tw_te B e x ≤ e ∧ (x < e → x < tw_te B e x) := by
  unfold tw_te
  split
  · exact ⟨Nat.le_refl x, h, fun g => by omega⟩
  · split
    · obtain ⟨a, b, c, d⟩ := tw_skp_s (tw_le B) (e - x) x
      refine ⟨a, by omega, fun g => ?_⟩
      rcases Nat.lt_or_ge x (tw_skp (tw_le B) (e - x) x) with q | q
      · exact q
      · have e2 : tw_skp (tw_le B) (e - x) x = x := by omega
        rw [e2] at d
        rename_i hl
        rcases d with d | d
        · omega
        · rw [hl] at d; cases d
    · split
      · obtain ⟨a, b, c, d⟩ := tw_skp_s (tw_dg B) (e - x) x
        refine ⟨a, by omega, fun g => ?_⟩
        rcases Nat.lt_or_ge x (tw_skp (tw_dg B) (e - x) x) with q | q
        · exact q
        · have e2 : tw_skp (tw_dg B) (e - x) x = x := by omega
          rw [e2] at d
          rename_i hl
          rcases d with d | d
          · omega
          · rw [hl] at d; cases d
      · exact ⟨by omega, by omega, fun g => by omega⟩
theorem tw_tp_s (B : Nat → Nat) (e : Nat) : ∀ i, tw_tp B e i ≤ e
  | 0 => Nat.zero_le e
  | i + 1 => (tw_te_s B (tw_tbb_s B (tw_tp_s B e i)).2.1).2.1
theorem tw_tp_i (B : Nat → Nat) (e : Nat) : ∀ i, (∀ k, k < i → tw_tg B e k < e) → i ≤ tw_tp B e i
  | 0, _ => Nat.zero_le _
  | i + 1, h => by
    have h1 := tw_tp_i B e i (fun k hk => h k (by omega))
    have h2 := h i (by omega)
    have h3 := (tw_tbb_s B (tw_tp_s B e i)).1
    have h4 := (tw_te_s B (x := tw_tbb B e (tw_tp B e i)) (tw_tbb_s B (tw_tp_s B e i)).2.1).2.2 h2
    show i + 1 ≤ tw_te B e (tw_tbb B e (tw_tp B e i))
    omega
theorem tw_wo_lt {B : Nat → Nat} {x : Nat} : ∀ k, (∀ j, j < k → 97 ≤ B (x + j) ∧ B (x + j) ≤ 122) → tw_wo B x k < 32 ^ k
  | 0, _ => by show 0 < 1; omega
  | k + 1, h => by
    have h1 := tw_wo_lt k (fun j hj => h j (by omega))
    have h2 := h k (by omega)
    show 32 * tw_wo B x k + (B (x + k) - 96) < 32 ^ (k + 1)
    rw [Nat.pow_succ]
    omega
theorem tw_nu_lt {B : Nat → Nat} {x : Nat} : ∀ k, (∀ j, j < k → 48 ≤ B (x + j) ∧ B (x + j) ≤ 57) → tw_nu B x k < 10 ^ k
  | 0, _ => by show 0 < 1; omega
  | k + 1, h => by
    have h1 := tw_nu_lt k (fun j hj => h j (by omega))
    have h2 := h k (by omega)
    show 10 * tw_nu B x k + (B (x + k) - 48) < 10 ^ (k + 1)
    rw [Nat.pow_succ]
    omega
/-- one word's number tells it -/
theorem tw_wo_inj {B C : Nat → Nat} {x y : Nat} : ∀ k l, (∀ j, j < k → 97 ≤ B (x + j) ∧ B (x + j) ≤ 122) → (∀ j, j < l → 97 ≤ C (y + j) ∧ C (y + j) ≤ 122) → tw_wo B x k = tw_wo C y l → k = l ∧ ∀ j, j < k → B (x + j) = C (y + j)
  | 0, 0, _, _, _ => ⟨rfl, fun j hj => absurd hj (Nat.not_lt_zero j)⟩
  | 0, l + 1, _, h2, h => by
    have := h2 l (by omega)
    have h : 0 = 32 * tw_wo C y l + (C (y + l) - 96) := h
    omega
  | k + 1, 0, h1, _, h => by
    have := h1 k (by omega)
    have h : 32 * tw_wo B x k + (B (x + k) - 96) = 0 := h
    omega
  | k + 1, l + 1, h1, h2, h => by
    have a := h1 k (by omega)
    have b := h2 l (by omega)
    have h : 32 * tw_wo B x k + (B (x + k) - 96) = 32 * tw_wo C y l + (C (y + l) - 96) := h
    obtain ⟨e1, e2⟩ := tw_wo_inj k l (fun j hj => h1 j (by omega)) (fun j hj => h2 j (by omega)) (by omega)
    subst e1
    refine ⟨rfl, fun j hj => ?_⟩
    by_cases e : j = k
    · subst e; omega
    · exact e2 j (by omega)
/-- a byte with a sign -/
theorem tw_sgn (B : Nat) (h : B < 256) : vp_nar .byte (nI B) = if B < 128 then nI B else nI B - nI 256 := by
  have g : ∀ B : Fin 256, vp_nar .byte (nI B.1) = if B.1 < 128 then nI B.1 else nI B.1 - nI 256 := by decide +kernel
  exact g ⟨B, h⟩
theorem tw_sbc {B lo hi : Nat} (h : B < 256) (h0 : 0 < lo) (h1 : lo < 128) (h2 : hi < 128) : (vp_nar .byte (nI B) < nI lo) = (128 ≤ B ∨ B < lo) ∧ (B < 128 → (nI hi < vp_nar .byte (nI B)) = (hi < B)) := by
  rw [tw_sgn B h]
  by_cases g : B < 128
  · rw [if_pos g]
    refine ⟨?_, fun _ => nz_lt (by omega) (by omega)⟩
    rw [nz_lt (by omega) (by omega)]
    apply propext
    omega
  · rw [if_neg g]
    refine ⟨?_, fun q => absurd q g⟩
    have e : nI B - nI 256 < nI lo := by
      rw [Int32.lt_iff_toInt_lt, Int32.toInt_sub, nI_toInt (by omega), nI_toInt (by omega), nI_toInt (by omega), Int.bmod_def]
      omega
    apply propext
    exact ⟨fun _ => Or.inl (by omega), fun _ => e⟩
