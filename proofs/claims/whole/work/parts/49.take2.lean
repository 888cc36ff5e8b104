/-! ===== pure: a town taken over, told flat ===== -/
section P9
variable {sh : tw_Sh} {μ μ' : Nat → Nat → Int32} {la : Nat → Nat → Int64} {n a b m P : Nat} {p o l h j z c : Nat} {T : Nat → Int32}
theorem Rc_same (H : tw_RC sh μ a T) (e : ∀ x, a ≤ x → x < a + 9 → μ' x = μ x) : tw_RC sh μ' a T := by
  obtain ⟨h1, h2, h3, h4, h5, h6, h7⟩ := H
  have e0 := e a (by omega) (by omega)
  have e1 := e (a + 1) (by omega) (by omega)
  have e2 := e (a + 2) (by omega) (by omega)
  have e3 := e (a + 3) (by omega) (by omega)
  have e4 := e (a + 4) (by omega) (by omega)
  have e5 := e (a + 5) (by omega) (by omega)
  have e6 := e (a + 6) (by omega) (by omega)
  have e7 := e (a + 7) (by omega) (by omega)
  have e8 := e (a + 8) (by omega) (by omega)
  unfold tw_RC
  rw [e0, e1, e2, e3, e4, e5, e6, e7, e8]
  exact ⟨h1, h2, h3, h4, h5, h6, h7⟩
theorem c_take (hA : tw_Town sh a) (H : tw_RC sh μ b T) (hd : a + 9 ≤ b ∨ b + 9 ≤ a) : ∃ μ', (∀ k, f_X8_take a b k (sh, μ, la, n) = k () (sh, μ', la, n)) ∧ tw_fx a (a + 9) μ μ' ∧ tw_RC sh μ' a T := by
  obtain ⟨μ', E, F, g1, g2, g3, g4, g5, g6, g7⟩ := c_takeE (la := la) (n := n) (μ := μ) hA H.1 hd
  refine ⟨μ', E, F, hA, ?_, ?_, ?_, ?_, ?_, ?_⟩
  · have h := H.2.1
    rw [g1 46 (by omega) (by omega), g1 52 (by omega) (by omega), g1 48 (by omega) (by omega), g1 49 (by omega) (by omega), g1 50 (by omega) (by omega), g1 51 (by omega) (by omega), g5]
    exact h
  · intro p hp
    rw [(g2 p hp).1, (g2 p hp).2.1, (g2 p hp).2.2]
    exact H.2.2.1 p hp
  · rw [g1 47 (by omega) (by omega)]
    exact H.2.2.2.1
  · intro p o hp ho
    rw [(g3 (8 * p + o) (by omega)).1, (g3 (8 * p + o) (by omega)).2]
    exact H.2.2.2.2.1 p o hp ho
  · intro l h hl hh
    rw [g4 (12 * l + h) (by omega)]
    exact H.2.2.2.2.2.1 l h hl hh
  · obtain ⟨x, hx, e1, e2⟩ := H.2.2.2.2.2.2
    refine ⟨x, hx, g6.trans e1, ?_⟩
    intro k z h61 hz hk
    rw [g7 _ (Nat.mod_lt _ (by omega))]
    exact e2 k z h61 hz hk
end P9
