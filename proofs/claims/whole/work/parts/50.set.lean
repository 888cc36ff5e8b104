/-! ===== pure: one thing of a town put ===== -/
def tw_u1 (T : Nat → Int32) (i : Nat) (v : Int32) : Nat → Int32 := fun j => if j = i then v else T j
theorem tw_u1n {T : Nat → Int32} {i j : Nat} {v : Int32} (h : j < i ∨ i < j) : tw_u1 T i v j = T j := if_neg (by omega)
theorem tw_u1a {T : Nat → Int32} {i : Nat} {v : Int32} : tw_u1 T i v i = v := if_pos rfl
theorem tw_u1e {T : Nat → Int32} {i j : Nat} {v : Int32} (h : j = i) : tw_u1 T i v j = v := if_pos h
section PS
variable {sh : tw_Sh} {μ : Nat → Nat → Int32} {la : Nat → Nat → Int64} {n a b m P : Nat} {p o l h j z c : Nat} {T : Nat → Int32}
theorem Rc_setG (H : tw_RC sh μ a T) (hp : p < 8) (ho : o < 8) (v : Int32) : tw_RC sh (tw_up μ (a + 4) (8 * p + o) v) a (tw_u1 T (32 + 20 * p + (4 + o)) v) := by
  obtain ⟨h1, h2, h3, ⟨s, hs, f1, f2⟩, h5, h6, ⟨x, hx, g1, g2⟩⟩ := H
  refine ⟨h1, ?_, ?_, ⟨s, hs, ?_, ?_⟩, ?_, ?_, ⟨x, hx, ?_, ?_⟩⟩
  · simp (disch := omega) only [↓tw_un, ↓tw_uk, ↓tw_ua, ↓tw_cpf_ne, ↓tw_cpf_in, ↓tw_cpf_out, tw_u1n]; exact h2
  · intro q hq; simp (disch := omega) only [↓tw_un, ↓tw_uk, ↓tw_ua, ↓tw_cpf_ne, ↓tw_cpf_in, ↓tw_cpf_out, tw_u1n]; exact h3 q hq
  · simp (disch := omega) only [↓tw_un, ↓tw_uk, ↓tw_ua, ↓tw_cpf_ne, ↓tw_cpf_in, ↓tw_cpf_out, tw_u1n]; exact f1
  · intro q hq; simp (disch := omega) only [↓tw_un, ↓tw_uk, ↓tw_ua, ↓tw_cpf_ne, ↓tw_cpf_in, ↓tw_cpf_out, tw_u1n]; exact f2 q hq
  · intro q r hq hr
    by_cases e : q = p ∧ r = o
    · obtain ⟨rfl, rfl⟩ := e
      simp (disch := omega) only [↓tw_un, ↓tw_uk, ↓tw_ua, ↓tw_cpf_ne, ↓tw_cpf_in, ↓tw_cpf_out, tw_u1n, tw_u1a]
      exact ⟨trivial, (h5 q r hq hr).2⟩
    · have e1 : 8 * q + r < 8 * p + o ∨ 8 * p + o < 8 * q + r := by omega
      have e2 : 32 + 20 * q + (4 + r) < 32 + 20 * p + (4 + o) ∨ 32 + 20 * p + (4 + o) < 32 + 20 * q + (4 + r) := by omega
      simp (disch := omega) only [↓tw_un, ↓tw_uk, ↓tw_ua, ↓tw_cpf_ne, ↓tw_cpf_in, ↓tw_cpf_out, tw_u1n]
      exact h5 q r hq hr
  · intro l h hl hh; simp (disch := omega) only [↓tw_un, ↓tw_uk, ↓tw_ua, ↓tw_cpf_ne, ↓tw_cpf_in, ↓tw_cpf_out, tw_u1n]; exact h6 l h hl hh
  · simp (disch := omega) only [↓tw_un, ↓tw_uk, ↓tw_ua, ↓tw_cpf_ne, ↓tw_cpf_in, ↓tw_cpf_out, tw_u1n]; exact g1
  · intro k z hz hk
    simp (disch := omega) only [↓tw_un, ↓tw_uk, ↓tw_ua, ↓tw_cpf_ne, ↓tw_cpf_in, ↓tw_cpf_out, tw_u1n] at hz ⊢
    exact g2 k z hz hk
end PS
