/-! ===== pure: one thing of a town put ===== -/
def tw_u1 (T : Nat → Int32) (i : Nat) (v : Int32) : Nat → Int32 := fun j => if j = i then v else T j
theorem tw_u1n {T : Nat → Int32} {i j : Nat} {v : Int32} (h : j < i ∨ i < j) : tw_u1 T i v j = T j := if_neg (by omega)
theorem tw_u1a {T : Nat → Int32} {i : Nat} {v : Int32} : tw_u1 T i v i = v := if_pos rfl
theorem tw_u1e {T : Nat → Int32} {i j : Nat} {v : Int32} (h : j = i) : tw_u1 T i v j = v := if_pos h
section PS
variable {sh : tw_Sh} {μ : Nat → Nat → Int32} {la : Nat → Nat → Int64} {n a b m P : Nat} {p o l h j z c : Nat} {T : Nat → Int32}
theorem Rc_setG (H : tw_RC sh μ a T) (hp : p < 8) (ho : o < 8) (v : Int32) : tw_RC sh (tw_up μ (a + 4) (8 * p + o) v) a (tw_u1 T (32 + 20 * p + (4 + o)) v) := by
  obtain ⟨h1, h2, h3, ⟨s, hs, f1, f2⟩, h5, h6, ⟨x, hx, g1, g2⟩⟩ := H
  refine ⟨h1, ?_, ?_, ⟨s, hs, ?_, ?_⟩, ?_, ?_, ⟨x, hx, ?_, ?_⟩⟩
  · simp (disch := omega) only [↓tw_un, ↓tw_uk, ↓tw_ua, ↓tw_cpf_ne, ↓tw_cpf_in, ↓tw_cpf_out, tw_u1n]; exact h2
  · intro q hq; simp (disch := omega) only [↓tw_un, ↓tw_uk, ↓tw_ua, ↓tw_cpf_ne, ↓tw_cpf_in, ↓tw_cpf_out, tw_u1n]; exact h3 q hq
  · simp (disch := omega) only [↓tw_un, ↓tw_uk, ↓tw_ua, ↓tw_cpf_ne, ↓tw_cpf_in, ↓tw_cpf_out, tw_u1n]; exact f1
  · intro q hq; simp (disch := omega) only [↓tw_un, ↓tw_uk, ↓tw_ua, ↓tw_cpf_ne, ↓tw_cpf_in, ↓tw_cpf_out, tw_u1n]; exact f2 q hq
  · intro q r hq hr
    by_cases e : q = p ∧ r = o
    · obtain ⟨rfl, rfl⟩ := e
      simp (disch := omega) only [↓tw_un, ↓tw_uk, ↓tw_ua, ↓tw_cpf_ne, ↓tw_cpf_in, ↓tw_cpf_out, tw_u1n, tw_u1a]
      exact ⟨trivial, (h5 q r hq hr).2⟩
    · have e1 : 8 * q + r < 8 * p + o ∨ 8 * p + o < 8 * q + r := by omega
      have e2 : 32 + 20 * q + (4 + r) < 32 + 20 * p + (4 + o) ∨ 32 + 20 * p + (4 + o) < 32 + 20 * q + (4 + r) := by omega
      simp (disch := omega) only [↓tw_un, ↓tw_uk, ↓tw_ua, ↓tw_cpf_ne, ↓tw_cpf_in, ↓tw_cpf_out, tw_u1n]
      exact h5 q r hq hr
  · intro l h hl hh; simp (disch := omega) only [↓tw_un, ↓tw_uk, ↓tw_ua, ↓tw_cpf_ne, ↓tw_cpf_in, ↓tw_cpf_out, tw_u1n]; exact h6 l h hl hh
  · simp (disch := omega) only [↓tw_un, ↓tw_uk, ↓tw_ua, ↓tw_cpf_ne, ↓tw_cpf_in, ↓tw_cpf_out, tw_u1n]; exact g1
  · intro k z h61 hz hk
    simp (disch := omega) only [↓tw_un, ↓tw_uk, ↓tw_ua, ↓tw_cpf_ne, ↓tw_cpf_in, ↓tw_cpf_out, tw_u1n] at hz ⊢
    exact g2 k z h61 hz hk
theorem Rc_setU (H : tw_RC sh μ a T) (hp : p < 8) (ho : o < 8) (v : Int32) : tw_RC sh (tw_up μ (a + 5) (8 * p + o) v) a (tw_u1 T (32 + 20 * p + (12 + o)) v) := by
  obtain ⟨h1, h2, h3, ⟨s, hs, f1, f2⟩, h5, h6, ⟨x, hx, g1, g2⟩⟩ := H
  refine ⟨h1, ?_, ?_, ⟨s, hs, ?_, ?_⟩, ?_, ?_, ⟨x, hx, ?_, ?_⟩⟩
  · simp (disch := omega) only [↓tw_un, ↓tw_uk, ↓tw_ua, ↓tw_cpf_ne, ↓tw_cpf_in, ↓tw_cpf_out, tw_u1n]; exact h2
  · intro q hq; simp (disch := omega) only [↓tw_un, ↓tw_uk, ↓tw_ua, ↓tw_cpf_ne, ↓tw_cpf_in, ↓tw_cpf_out, tw_u1n]; exact h3 q hq
  · simp (disch := omega) only [↓tw_un, ↓tw_uk, ↓tw_ua, ↓tw_cpf_ne, ↓tw_cpf_in, ↓tw_cpf_out, tw_u1n]; exact f1
  · intro q hq; simp (disch := omega) only [↓tw_un, ↓tw_uk, ↓tw_ua, ↓tw_cpf_ne, ↓tw_cpf_in, ↓tw_cpf_out, tw_u1n]; exact f2 q hq
  · intro q r hq hr
    by_cases e : q = p ∧ r = o
    · obtain ⟨rfl, rfl⟩ := e
      simp (disch := omega) only [↓tw_un, ↓tw_uk, ↓tw_ua, ↓tw_cpf_ne, ↓tw_cpf_in, ↓tw_cpf_out, tw_u1n, tw_u1a]
      exact ⟨(h5 q r hq hr).1, trivial⟩
    · have e1 : 8 * q + r < 8 * p + o ∨ 8 * p + o < 8 * q + r := by omega
      have e2 : 32 + 20 * q + (12 + r) < 32 + 20 * p + (12 + o) ∨ 32 + 20 * p + (12 + o) < 32 + 20 * q + (12 + r) := by omega
      simp (disch := omega) only [↓tw_un, ↓tw_uk, ↓tw_ua, ↓tw_cpf_ne, ↓tw_cpf_in, ↓tw_cpf_out, tw_u1n]
      exact h5 q r hq hr
  · intro l2 q hl2 hq; simp (disch := omega) only [↓tw_un, ↓tw_uk, ↓tw_ua, ↓tw_cpf_ne, ↓tw_cpf_in, ↓tw_cpf_out, tw_u1n]; exact h6 l2 q hl2 hq
  · simp (disch := omega) only [↓tw_un, ↓tw_uk, ↓tw_ua, ↓tw_cpf_ne, ↓tw_cpf_in, ↓tw_cpf_out, tw_u1n]; exact g1
  · intro k z h61 hz hk
    simp (disch := omega) only [↓tw_un, ↓tw_uk, ↓tw_ua, ↓tw_cpf_ne, ↓tw_cpf_in, ↓tw_cpf_out, tw_u1n] at hz ⊢
    exact g2 k z h61 hz hk
theorem Rc_setP (H : tw_RC sh μ a T) (hl : l < 2) (hh : h < 12) (v : Int32) : tw_RC sh (tw_up μ (a + 6) (12 * l + h) v) a (tw_u1 T (8 + 12 * l + h) v) := by
  obtain ⟨h1, h2, h3, ⟨s, hs, f1, f2⟩, h5, h6, ⟨x, hx, g1, g2⟩⟩ := H
  refine ⟨h1, ?_, ?_, ⟨s, hs, ?_, ?_⟩, ?_, ?_, ⟨x, hx, ?_, ?_⟩⟩
  · simp (disch := omega) only [↓tw_un, ↓tw_uk, ↓tw_ua, ↓tw_cpf_ne, ↓tw_cpf_in, ↓tw_cpf_out, tw_u1n]; exact h2
  · intro q hq; simp (disch := omega) only [↓tw_un, ↓tw_uk, ↓tw_ua, ↓tw_cpf_ne, ↓tw_cpf_in, ↓tw_cpf_out, tw_u1n]; exact h3 q hq
  · simp (disch := omega) only [↓tw_un, ↓tw_uk, ↓tw_ua, ↓tw_cpf_ne, ↓tw_cpf_in, ↓tw_cpf_out, tw_u1n]; exact f1
  · intro q hq; simp (disch := omega) only [↓tw_un, ↓tw_uk, ↓tw_ua, ↓tw_cpf_ne, ↓tw_cpf_in, ↓tw_cpf_out, tw_u1n]; exact f2 q hq
  · intro q r hq hr; simp (disch := omega) only [↓tw_un, ↓tw_uk, ↓tw_ua, ↓tw_cpf_ne, ↓tw_cpf_in, ↓tw_cpf_out, tw_u1n]; exact h5 q r hq hr
  · intro q r hq hr
    by_cases e : q = l ∧ r = h
    · obtain ⟨rfl, rfl⟩ := e
      simp (disch := omega) only [↓tw_un, ↓tw_uk, ↓tw_ua, ↓tw_cpf_ne, ↓tw_cpf_in, ↓tw_cpf_out, tw_u1n, tw_u1a]
    · have e1 : 12 * q + r < 12 * l + h ∨ 12 * l + h < 12 * q + r := by omega
      have e2 : 8 + 12 * q + r < 8 + 12 * l + h ∨ 8 + 12 * l + h < 8 + 12 * q + r := by omega
      simp (disch := omega) only [↓tw_un, ↓tw_uk, ↓tw_ua, ↓tw_cpf_ne, ↓tw_cpf_in, ↓tw_cpf_out, tw_u1n]
      exact h6 q r hq hr
  · simp (disch := omega) only [↓tw_un, ↓tw_uk, ↓tw_ua, ↓tw_cpf_ne, ↓tw_cpf_in, ↓tw_cpf_out, tw_u1n]; exact g1
  · intro k z h61 hz hk
    simp (disch := omega) only [↓tw_un, ↓tw_uk, ↓tw_ua, ↓tw_cpf_ne, ↓tw_cpf_in, ↓tw_cpf_out, tw_u1n] at hz ⊢
    exact g2 k z h61 hz hk
theorem Rc_setH (H : tw_RC sh μ a T) (hp : p < 8) (v : Int32) : tw_RC sh (tw_up μ (a + 1) p v) a (tw_u1 T (32 + 20 * p) v) := by
  obtain ⟨h1, h2, h3, ⟨s, hs, f1, f2⟩, h5, h6, ⟨x, hx, g1, g2⟩⟩ := H
  refine ⟨h1, ?_, ?_, ⟨s, hs, ?_, ?_⟩, ?_, ?_, ⟨x, hx, ?_, ?_⟩⟩
  · simp (disch := omega) only [↓tw_un, ↓tw_uk, ↓tw_ua, ↓tw_cpf_ne, ↓tw_cpf_in, ↓tw_cpf_out, tw_u1n]; exact h2
  · intro q hq
    by_cases e : q = p
    · subst e
      simp (disch := omega) only [↓tw_un, ↓tw_uk, ↓tw_ua, ↓tw_cpf_ne, ↓tw_cpf_in, ↓tw_cpf_out, tw_u1n, tw_u1a]
      exact ⟨trivial, (h3 q hq).2⟩
    · have e1 : q < p ∨ p < q := by omega
      have e2 : 32 + 20 * q < 32 + 20 * p ∨ 32 + 20 * p < 32 + 20 * q := by omega
      simp (disch := omega) only [↓tw_un, ↓tw_uk, ↓tw_ua, ↓tw_cpf_ne, ↓tw_cpf_in, ↓tw_cpf_out, tw_u1n]
      exact h3 q hq
  · simp (disch := omega) only [↓tw_un, ↓tw_uk, ↓tw_ua, ↓tw_cpf_ne, ↓tw_cpf_in, ↓tw_cpf_out, tw_u1n]; exact f1
  · intro q hq; simp (disch := omega) only [↓tw_un, ↓tw_uk, ↓tw_ua, ↓tw_cpf_ne, ↓tw_cpf_in, ↓tw_cpf_out, tw_u1n]; exact f2 q hq
  · intro q r hq hr; simp (disch := omega) only [↓tw_un, ↓tw_uk, ↓tw_ua, ↓tw_cpf_ne, ↓tw_cpf_in, ↓tw_cpf_out, tw_u1n]; exact h5 q r hq hr
  · intro l2 q hl2 hq; simp (disch := omega) only [↓tw_un, ↓tw_uk, ↓tw_ua, ↓tw_cpf_ne, ↓tw_cpf_in, ↓tw_cpf_out, tw_u1n]; exact h6 l2 q hl2 hq
  · simp (disch := omega) only [↓tw_un, ↓tw_uk, ↓tw_ua, ↓tw_cpf_ne, ↓tw_cpf_in, ↓tw_cpf_out, tw_u1n]; exact g1
  · intro k z h61 hz hk
    simp (disch := omega) only [↓tw_un, ↓tw_uk, ↓tw_ua, ↓tw_cpf_ne, ↓tw_cpf_in, ↓tw_cpf_out, tw_u1n] at hz ⊢
    exact g2 k z h61 hz hk
theorem Rc_set1 (H : tw_RC sh μ a T) (hp : p < 8) (v : Int32) : tw_RC sh (tw_up μ (a + 2) p v) a (tw_u1 T (32 + 20 * p + 1) v) := by
  obtain ⟨h1, h2, h3, ⟨s, hs, f1, f2⟩, h5, h6, ⟨x, hx, g1, g2⟩⟩ := H
  refine ⟨h1, ?_, ?_, ⟨s, hs, ?_, ?_⟩, ?_, ?_, ⟨x, hx, ?_, ?_⟩⟩
  · simp (disch := omega) only [↓tw_un, ↓tw_uk, ↓tw_ua, ↓tw_cpf_ne, ↓tw_cpf_in, ↓tw_cpf_out, tw_u1n]; exact h2
  · intro q hq
    by_cases e : q = p
    · subst e
      simp (disch := omega) only [↓tw_un, ↓tw_uk, ↓tw_ua, ↓tw_cpf_ne, ↓tw_cpf_in, ↓tw_cpf_out, tw_u1n, tw_u1a]
      exact ⟨(h3 q hq).1, trivial, (h3 q hq).2.2⟩
    · have e1 : q < p ∨ p < q := by omega
      have e2 : 32 + 20 * q + 1 < 32 + 20 * p + 1 ∨ 32 + 20 * p + 1 < 32 + 20 * q + 1 := by omega
      simp (disch := omega) only [↓tw_un, ↓tw_uk, ↓tw_ua, ↓tw_cpf_ne, ↓tw_cpf_in, ↓tw_cpf_out, tw_u1n]
      exact h3 q hq
  · simp (disch := omega) only [↓tw_un, ↓tw_uk, ↓tw_ua, ↓tw_cpf_ne, ↓tw_cpf_in, ↓tw_cpf_out, tw_u1n]; exact f1
  · intro q hq; simp (disch := omega) only [↓tw_un, ↓tw_uk, ↓tw_ua, ↓tw_cpf_ne, ↓tw_cpf_in, ↓tw_cpf_out, tw_u1n]; exact f2 q hq
  · intro q r hq hr; simp (disch := omega) only [↓tw_un, ↓tw_uk, ↓tw_ua, ↓tw_cpf_ne, ↓tw_cpf_in, ↓tw_cpf_out, tw_u1n]; exact h5 q r hq hr
  · intro l2 q hl2 hq; simp (disch := omega) only [↓tw_un, ↓tw_uk, ↓tw_ua, ↓tw_cpf_ne, ↓tw_cpf_in, ↓tw_cpf_out, tw_u1n]; exact h6 l2 q hl2 hq
  · simp (disch := omega) only [↓tw_un, ↓tw_uk, ↓tw_ua, ↓tw_cpf_ne, ↓tw_cpf_in, ↓tw_cpf_out, tw_u1n]; exact g1
  · intro k z h61 hz hk
    simp (disch := omega) only [↓tw_un, ↓tw_uk, ↓tw_ua, ↓tw_cpf_ne, ↓tw_cpf_in, ↓tw_cpf_out, tw_u1n] at hz ⊢
    exact g2 k z h61 hz hk
theorem Rc_set2 (H : tw_RC sh μ a T) (hp : p < 8) (v : Int32) : tw_RC sh (tw_up μ (a + 3) p v) a (tw_u1 T (32 + 20 * p + 2) v) := by
  obtain ⟨h1, h2, h3, ⟨s, hs, f1, f2⟩, h5, h6, ⟨x, hx, g1, g2⟩⟩ := H
  refine ⟨h1, ?_, ?_, ⟨s, hs, ?_, ?_⟩, ?_, ?_, ⟨x, hx, ?_, ?_⟩⟩
  · simp (disch := omega) only [↓tw_un, ↓tw_uk, ↓tw_ua, ↓tw_cpf_ne, ↓tw_cpf_in, ↓tw_cpf_out, tw_u1n]; exact h2
  · intro q hq
    by_cases e : q = p
    · subst e
      simp (disch := omega) only [↓tw_un, ↓tw_uk, ↓tw_ua, ↓tw_cpf_ne, ↓tw_cpf_in, ↓tw_cpf_out, tw_u1n, tw_u1a]
      exact ⟨(h3 q hq).1, (h3 q hq).2.1, trivial⟩
    · have e1 : q < p ∨ p < q := by omega
      have e2 : 32 + 20 * q + 2 < 32 + 20 * p + 2 ∨ 32 + 20 * p + 2 < 32 + 20 * q + 2 := by omega
      simp (disch := omega) only [↓tw_un, ↓tw_uk, ↓tw_ua, ↓tw_cpf_ne, ↓tw_cpf_in, ↓tw_cpf_out, tw_u1n]
      exact h3 q hq
  · simp (disch := omega) only [↓tw_un, ↓tw_uk, ↓tw_ua, ↓tw_cpf_ne, ↓tw_cpf_in, ↓tw_cpf_out, tw_u1n]; exact f1
  · intro q hq; simp (disch := omega) only [↓tw_un, ↓tw_uk, ↓tw_ua, ↓tw_cpf_ne, ↓tw_cpf_in, ↓tw_cpf_out, tw_u1n]; exact f2 q hq
  · intro q r hq hr; simp (disch := omega) only [↓tw_un, ↓tw_uk, ↓tw_ua, ↓tw_cpf_ne, ↓tw_cpf_in, ↓tw_cpf_out, tw_u1n]; exact h5 q r hq hr
  · intro l2 q hl2 hq; simp (disch := omega) only [↓tw_un, ↓tw_uk, ↓tw_ua, ↓tw_cpf_ne, ↓tw_cpf_in, ↓tw_cpf_out, tw_u1n]; exact h6 l2 q hl2 hq
  · simp (disch := omega) only [↓tw_un, ↓tw_uk, ↓tw_ua, ↓tw_cpf_ne, ↓tw_cpf_in, ↓tw_cpf_out, tw_u1n]; exact g1
  · intro k z h61 hz hk
    simp (disch := omega) only [↓tw_un, ↓tw_uk, ↓tw_ua, ↓tw_cpf_ne, ↓tw_cpf_in, ↓tw_cpf_out, tw_u1n] at hz ⊢
    exact g2 k z h61 hz hk
theorem Rc_set48 (H : tw_RC sh μ a T)  (v : Int32) : tw_RC sh (tw_up μ a 48 v) a (tw_u1 T 3 v) := by
  obtain ⟨h1, h2, h3, ⟨s, hs, f1, f2⟩, h5, h6, ⟨x, hx, g1, g2⟩⟩ := H
  refine ⟨h1, ?_, ?_, ⟨s, hs, ?_, ?_⟩, ?_, ?_, ⟨x, hx, ?_, ?_⟩⟩
  · simp (disch := omega) only [↓tw_un, ↓tw_uk, ↓tw_ua, ↓tw_cpf_ne, ↓tw_cpf_in, ↓tw_cpf_out, tw_u1n, tw_u1a]; exact ⟨h2.1, h2.2.1, trivial, h2.2.2.2.1, h2.2.2.2.2.1, h2.2.2.2.2.2.1, h2.2.2.2.2.2.2⟩
  · intro q hq; simp (disch := omega) only [↓tw_un, ↓tw_uk, ↓tw_ua, ↓tw_cpf_ne, ↓tw_cpf_in, ↓tw_cpf_out, tw_u1n]; exact h3 q hq
  · simp (disch := omega) only [↓tw_un, ↓tw_uk, ↓tw_ua, ↓tw_cpf_ne, ↓tw_cpf_in, ↓tw_cpf_out, tw_u1n]; exact f1
  · intro q hq; simp (disch := omega) only [↓tw_un, ↓tw_uk, ↓tw_ua, ↓tw_cpf_ne, ↓tw_cpf_in, ↓tw_cpf_out, tw_u1n]; exact f2 q hq
  · intro q r hq hr; simp (disch := omega) only [↓tw_un, ↓tw_uk, ↓tw_ua, ↓tw_cpf_ne, ↓tw_cpf_in, ↓tw_cpf_out, tw_u1n]; exact h5 q r hq hr
  · intro l2 q hl2 hq; simp (disch := omega) only [↓tw_un, ↓tw_uk, ↓tw_ua, ↓tw_cpf_ne, ↓tw_cpf_in, ↓tw_cpf_out, tw_u1n]; exact h6 l2 q hl2 hq
  · simp (disch := omega) only [↓tw_un, ↓tw_uk, ↓tw_ua, ↓tw_cpf_ne, ↓tw_cpf_in, ↓tw_cpf_out, tw_u1n]; exact g1
  · intro k z h61 hz hk
    simp (disch := omega) only [↓tw_un, ↓tw_uk, ↓tw_ua, ↓tw_cpf_ne, ↓tw_cpf_in, ↓tw_cpf_out, tw_u1n] at hz ⊢
    exact g2 k z h61 hz hk
theorem Rc_set49 (H : tw_RC sh μ a T)  (v : Int32) : tw_RC sh (tw_up μ a 49 v) a (tw_u1 T 4 v) := by
  obtain ⟨h1, h2, h3, ⟨s, hs, f1, f2⟩, h5, h6, ⟨x, hx, g1, g2⟩⟩ := H
  refine ⟨h1, ?_, ?_, ⟨s, hs, ?_, ?_⟩, ?_, ?_, ⟨x, hx, ?_, ?_⟩⟩
  · simp (disch := omega) only [↓tw_un, ↓tw_uk, ↓tw_ua, ↓tw_cpf_ne, ↓tw_cpf_in, ↓tw_cpf_out, tw_u1n, tw_u1a]; exact ⟨h2.1, h2.2.1, h2.2.2.1, trivial, h2.2.2.2.2.1, h2.2.2.2.2.2.1, h2.2.2.2.2.2.2⟩
  · intro q hq; simp (disch := omega) only [↓tw_un, ↓tw_uk, ↓tw_ua, ↓tw_cpf_ne, ↓tw_cpf_in, ↓tw_cpf_out, tw_u1n]; exact h3 q hq
  · simp (disch := omega) only [↓tw_un, ↓tw_uk, ↓tw_ua, ↓tw_cpf_ne, ↓tw_cpf_in, ↓tw_cpf_out, tw_u1n]; exact f1
  · intro q hq; simp (disch := omega) only [↓tw_un, ↓tw_uk, ↓tw_ua, ↓tw_cpf_ne, ↓tw_cpf_in, ↓tw_cpf_out, tw_u1n]; exact f2 q hq
  · intro q r hq hr; simp (disch := omega) only [↓tw_un, ↓tw_uk, ↓tw_ua, ↓tw_cpf_ne, ↓tw_cpf_in, ↓tw_cpf_out, tw_u1n]; exact h5 q r hq hr
  · intro l2 q hl2 hq; simp (disch := omega) only [↓tw_un, ↓tw_uk, ↓tw_ua, ↓tw_cpf_ne, ↓tw_cpf_in, ↓tw_cpf_out, tw_u1n]; exact h6 l2 q hl2 hq
  · simp (disch := omega) only [↓tw_un, ↓tw_uk, ↓tw_ua, ↓tw_cpf_ne, ↓tw_cpf_in, ↓tw_cpf_out, tw_u1n]; exact g1
  · intro k z h61 hz hk
    simp (disch := omega) only [↓tw_un, ↓tw_uk, ↓tw_ua, ↓tw_cpf_ne, ↓tw_cpf_in, ↓tw_cpf_out, tw_u1n] at hz ⊢
    exact g2 k z h61 hz hk
theorem Rc_set50 (H : tw_RC sh μ a T)  (v : Int32) : tw_RC sh (tw_up μ a 50 v) a (tw_u1 T 5 v) := by
  obtain ⟨h1, h2, h3, ⟨s, hs, f1, f2⟩, h5, h6, ⟨x, hx, g1, g2⟩⟩ := H
  refine ⟨h1, ?_, ?_, ⟨s, hs, ?_, ?_⟩, ?_, ?_, ⟨x, hx, ?_, ?_⟩⟩
  · simp (disch := omega) only [↓tw_un, ↓tw_uk, ↓tw_ua, ↓tw_cpf_ne, ↓tw_cpf_in, ↓tw_cpf_out, tw_u1n, tw_u1a]; exact ⟨h2.1, h2.2.1, h2.2.2.1, h2.2.2.2.1, trivial, h2.2.2.2.2.2.1, h2.2.2.2.2.2.2⟩
  · intro q hq; simp (disch := omega) only [↓tw_un, ↓tw_uk, ↓tw_ua, ↓tw_cpf_ne, ↓tw_cpf_in, ↓tw_cpf_out, tw_u1n]; exact h3 q hq
  · simp (disch := omega) only [↓tw_un, ↓tw_uk, ↓tw_ua, ↓tw_cpf_ne, ↓tw_cpf_in, ↓tw_cpf_out, tw_u1n]; exact f1
  · intro q hq; simp (disch := omega) only [↓tw_un, ↓tw_uk, ↓tw_ua, ↓tw_cpf_ne, ↓tw_cpf_in, ↓tw_cpf_out, tw_u1n]; exact f2 q hq
  · intro q r hq hr; simp (disch := omega) only [↓tw_un, ↓tw_uk, ↓tw_ua, ↓tw_cpf_ne, ↓tw_cpf_in, ↓tw_cpf_out, tw_u1n]; exact h5 q r hq hr
  · intro l2 q hl2 hq; simp (disch := omega) only [↓tw_un, ↓tw_uk, ↓tw_ua, ↓tw_cpf_ne, ↓tw_cpf_in, ↓tw_cpf_out, tw_u1n]; exact h6 l2 q hl2 hq
  · simp (disch := omega) only [↓tw_un, ↓tw_uk, ↓tw_ua, ↓tw_cpf_ne, ↓tw_cpf_in, ↓tw_cpf_out, tw_u1n]; exact g1
  · intro k z h61 hz hk
    simp (disch := omega) only [↓tw_un, ↓tw_uk, ↓tw_ua, ↓tw_cpf_ne, ↓tw_cpf_in, ↓tw_cpf_out, tw_u1n] at hz ⊢
    exact g2 k z h61 hz hk
theorem Rc_set51 (H : tw_RC sh μ a T)  (v : Int32) : tw_RC sh (tw_up μ a 51 v) a (tw_u1 T 7 v) := by
  obtain ⟨h1, h2, h3, ⟨s, hs, f1, f2⟩, h5, h6, ⟨x, hx, g1, g2⟩⟩ := H
  refine ⟨h1, ?_, ?_, ⟨s, hs, ?_, ?_⟩, ?_, ?_, ⟨x, hx, ?_, ?_⟩⟩
  · simp (disch := omega) only [↓tw_un, ↓tw_uk, ↓tw_ua, ↓tw_cpf_ne, ↓tw_cpf_in, ↓tw_cpf_out, tw_u1n, tw_u1a]; exact ⟨h2.1, h2.2.1, h2.2.2.1, h2.2.2.2.1, h2.2.2.2.2.1, trivial, h2.2.2.2.2.2.2⟩
  · intro q hq; simp (disch := omega) only [↓tw_un, ↓tw_uk, ↓tw_ua, ↓tw_cpf_ne, ↓tw_cpf_in, ↓tw_cpf_out, tw_u1n]; exact h3 q hq
  · simp (disch := omega) only [↓tw_un, ↓tw_uk, ↓tw_ua, ↓tw_cpf_ne, ↓tw_cpf_in, ↓tw_cpf_out, tw_u1n]; exact f1
  · intro q hq; simp (disch := omega) only [↓tw_un, ↓tw_uk, ↓tw_ua, ↓tw_cpf_ne, ↓tw_cpf_in, ↓tw_cpf_out, tw_u1n]; exact f2 q hq
  · intro q r hq hr; simp (disch := omega) only [↓tw_un, ↓tw_uk, ↓tw_ua, ↓tw_cpf_ne, ↓tw_cpf_in, ↓tw_cpf_out, tw_u1n]; exact h5 q r hq hr
  · intro l2 q hl2 hq; simp (disch := omega) only [↓tw_un, ↓tw_uk, ↓tw_ua, ↓tw_cpf_ne, ↓tw_cpf_in, ↓tw_cpf_out, tw_u1n]; exact h6 l2 q hl2 hq
  · simp (disch := omega) only [↓tw_un, ↓tw_uk, ↓tw_ua, ↓tw_cpf_ne, ↓tw_cpf_in, ↓tw_cpf_out, tw_u1n]; exact g1
  · intro k z h61 hz hk
    simp (disch := omega) only [↓tw_un, ↓tw_uk, ↓tw_ua, ↓tw_cpf_ne, ↓tw_cpf_in, ↓tw_cpf_out, tw_u1n] at hz ⊢
    exact g2 k z h61 hz hk
theorem Rc_set52 (H : tw_RC sh μ a T)  (v : Int32) : tw_RC sh (tw_up μ a 52 v) a (tw_u1 T 1 v) := by
  obtain ⟨h1, h2, h3, ⟨s, hs, f1, f2⟩, h5, h6, ⟨x, hx, g1, g2⟩⟩ := H
  refine ⟨h1, ?_, ?_, ⟨s, hs, ?_, ?_⟩, ?_, ?_, ⟨x, hx, ?_, ?_⟩⟩
  · simp (disch := omega) only [↓tw_un, ↓tw_uk, ↓tw_ua, ↓tw_cpf_ne, ↓tw_cpf_in, ↓tw_cpf_out, tw_u1n, tw_u1a]; exact ⟨h2.1, trivial, h2.2.2.1, h2.2.2.2.1, h2.2.2.2.2.1, h2.2.2.2.2.2.1, h2.2.2.2.2.2.2⟩
  · intro q hq; simp (disch := omega) only [↓tw_un, ↓tw_uk, ↓tw_ua, ↓tw_cpf_ne, ↓tw_cpf_in, ↓tw_cpf_out, tw_u1n]; exact h3 q hq
  · simp (disch := omega) only [↓tw_un, ↓tw_uk, ↓tw_ua, ↓tw_cpf_ne, ↓tw_cpf_in, ↓tw_cpf_out, tw_u1n]; exact f1
  · intro q hq; simp (disch := omega) only [↓tw_un, ↓tw_uk, ↓tw_ua, ↓tw_cpf_ne, ↓tw_cpf_in, ↓tw_cpf_out, tw_u1n]; exact f2 q hq
  · intro q r hq hr; simp (disch := omega) only [↓tw_un, ↓tw_uk, ↓tw_ua, ↓tw_cpf_ne, ↓tw_cpf_in, ↓tw_cpf_out, tw_u1n]; exact h5 q r hq hr
  · intro l2 q hl2 hq; simp (disch := omega) only [↓tw_un, ↓tw_uk, ↓tw_ua, ↓tw_cpf_ne, ↓tw_cpf_in, ↓tw_cpf_out, tw_u1n]; exact h6 l2 q hl2 hq
  · simp (disch := omega) only [↓tw_un, ↓tw_uk, ↓tw_ua, ↓tw_cpf_ne, ↓tw_cpf_in, ↓tw_cpf_out, tw_u1n]; exact g1
  · intro k z h61 hz hk
    simp (disch := omega) only [↓tw_un, ↓tw_uk, ↓tw_ua, ↓tw_cpf_ne, ↓tw_cpf_in, ↓tw_cpf_out, tw_u1n] at hz ⊢
    exact g2 k z h61 hz hk
theorem Rc_set46 (H : tw_RC sh μ a T)  (v : Int32) : tw_RC sh (tw_up μ a 46 v) a (tw_u1 T 0 v) := by
  obtain ⟨h1, h2, h3, ⟨s, hs, f1, f2⟩, h5, h6, ⟨x, hx, g1, g2⟩⟩ := H
  refine ⟨h1, ?_, ?_, ⟨s, hs, ?_, ?_⟩, ?_, ?_, ⟨x, hx, ?_, ?_⟩⟩
  · simp (disch := omega) only [↓tw_un, ↓tw_uk, ↓tw_ua, ↓tw_cpf_ne, ↓tw_cpf_in, ↓tw_cpf_out, tw_u1n, tw_u1a]; exact ⟨trivial, h2.2.1, h2.2.2.1, h2.2.2.2.1, h2.2.2.2.2.1, h2.2.2.2.2.2.1, h2.2.2.2.2.2.2⟩
  · intro q hq; simp (disch := omega) only [↓tw_un, ↓tw_uk, ↓tw_ua, ↓tw_cpf_ne, ↓tw_cpf_in, ↓tw_cpf_out, tw_u1n]; exact h3 q hq
  · simp (disch := omega) only [↓tw_un, ↓tw_uk, ↓tw_ua, ↓tw_cpf_ne, ↓tw_cpf_in, ↓tw_cpf_out, tw_u1n]; exact f1
  · intro q hq; simp (disch := omega) only [↓tw_un, ↓tw_uk, ↓tw_ua, ↓tw_cpf_ne, ↓tw_cpf_in, ↓tw_cpf_out, tw_u1n]; exact f2 q hq
  · intro q r hq hr; simp (disch := omega) only [↓tw_un, ↓tw_uk, ↓tw_ua, ↓tw_cpf_ne, ↓tw_cpf_in, ↓tw_cpf_out, tw_u1n]; exact h5 q r hq hr
  · intro l2 q hl2 hq; simp (disch := omega) only [↓tw_un, ↓tw_uk, ↓tw_ua, ↓tw_cpf_ne, ↓tw_cpf_in, ↓tw_cpf_out, tw_u1n]; exact h6 l2 q hl2 hq
  · simp (disch := omega) only [↓tw_un, ↓tw_uk, ↓tw_ua, ↓tw_cpf_ne, ↓tw_cpf_in, ↓tw_cpf_out, tw_u1n]; exact g1
  · intro k z h61 hz hk
    simp (disch := omega) only [↓tw_un, ↓tw_uk, ↓tw_ua, ↓tw_cpf_ne, ↓tw_cpf_in, ↓tw_cpf_out, tw_u1n] at hz ⊢
    exact g2 k z h61 hz hk
end PS
