/-! ===== pure: what a town keeps ===== -/
theorem Wf_s3 {T : Nat → Int32} {P : Nat} (W : tw_WF T P) {x : Nat} (hx : x < 12) : tw_WF (tw_u1 T 3 (nI x)) P := by
  obtain ⟨w0, w1, w2, w3, w4, w5, w6, w7, w8, w9, w10⟩ := W
  refine ⟨?_, w1, ?_, ?_, ?_, ?_, ?_, ?_, ?_, ?_, ?_⟩
  · simp (disch := omega) only [tw_u1n]; exact w0
  · simp (disch := omega) only [tw_u1n]; exact w2
  · simp only [tw_u1a]; exact ⟨x, hx, rfl⟩
  · simp (disch := omega) only [tw_u1n]; exact w4
  · simp (disch := omega) only [tw_u1n]; exact w5
  · simp (disch := omega) only [tw_u1n]; exact w6
  · intro q hq; simp (disch := omega) only [tw_u1n]; exact w7 q hq
  · intro q r hq hr; simp (disch := omega) only [tw_u1n]; exact w8 q r hq hr
  · intro q hq; simp (disch := omega) only [tw_u1n]; exact w9 q hq
  · intro k z h61 hz hk; simp (disch := omega) only [tw_u1n] at hz ⊢; exact w10 k z h61 hz hk
theorem Wf_s4 {T : Nat → Int32} {P : Nat} (W : tw_WF T P) {x : Nat} (hx : x < 10000) : tw_WF (tw_u1 T 4 (nI x)) P := by
  obtain ⟨w0, w1, w2, w3, w4, w5, w6, w7, w8, w9, w10⟩ := W
  refine ⟨?_, w1, ?_, ?_, ?_, ?_, ?_, ?_, ?_, ?_, ?_⟩
  · simp (disch := omega) only [tw_u1n]; exact w0
  · simp (disch := omega) only [tw_u1n]; exact w2
  · simp (disch := omega) only [tw_u1n]; exact w3
  · simp only [tw_u1a]; exact ⟨x, hx, rfl⟩
  · simp (disch := omega) only [tw_u1n]; exact w5
  · simp (disch := omega) only [tw_u1n]; exact w6
  · intro q hq; simp (disch := omega) only [tw_u1n]; exact w7 q hq
  · intro q r hq hr; simp (disch := omega) only [tw_u1n]; exact w8 q r hq hr
  · intro q hq; simp (disch := omega) only [tw_u1n]; exact w9 q hq
  · intro k z h61 hz hk; simp (disch := omega) only [tw_u1n] at hz ⊢; exact w10 k z h61 hz hk
theorem Wf_s1 {T : Nat → Int32} {P : Nat} (W : tw_WF T P) {x : Nat} (hx : x < 13) : tw_WF (tw_u1 T 1 (nI x)) P := by
  obtain ⟨w0, w1, w2, w3, w4, w5, w6, w7, w8, w9, w10⟩ := W
  refine ⟨?_, w1, ?_, ?_, ?_, ?_, ?_, ?_, ?_, ?_, ?_⟩
  · simp (disch := omega) only [tw_u1n]; exact w0
  · simp (disch := omega) only [tw_u1n]; exact w2
  · simp (disch := omega) only [tw_u1n]; exact w3
  · simp (disch := omega) only [tw_u1n]; exact w4
  · simp (disch := omega) only [tw_u1n]; exact w5
  · simp only [tw_u1a]; exact ⟨x, hx, rfl⟩
  · intro q hq; simp (disch := omega) only [tw_u1n]; exact w7 q hq
  · intro q r hq hr; simp (disch := omega) only [tw_u1n]; exact w8 q r hq hr
  · intro q hq; simp (disch := omega) only [tw_u1n]; exact w9 q hq
  · intro k z h61 hz hk; simp (disch := omega) only [tw_u1n] at hz ⊢; exact w10 k z h61 hz hk
theorem Wf_s5 {T : Nat → Int32} {P : Nat} (W : tw_WF T P) {x : Nat} (hx : x < 10) (h0 : 0 < x) : tw_WF (tw_u1 T 5 (nI x)) P := by
  obtain ⟨w0, w1, w2, w3, w4, w5, w6, w7, w8, w9, w10⟩ := W
  refine ⟨?_, w1, ?_, ?_, ?_, ?_, ?_, ?_, ?_, ?_, ?_⟩
  · simp (disch := omega) only [tw_u1n]; exact w0
  · simp only [tw_u1a]; exact ⟨x, hx, h0, rfl⟩
  · simp (disch := omega) only [tw_u1n]; exact w3
  · simp (disch := omega) only [tw_u1n]; exact w4
  · simp (disch := omega) only [tw_u1n]; exact w5
  · simp (disch := omega) only [tw_u1n]; exact w6
  · intro q hq; simp (disch := omega) only [tw_u1n]; exact w7 q hq
  · intro q r hq hr; simp (disch := omega) only [tw_u1n]; exact w8 q r hq hr
  · intro q hq; simp (disch := omega) only [tw_u1n]; exact w9 q hq
  · intro k z h61 hz hk; simp (disch := omega) only [tw_u1n] at hz ⊢; exact w10 k z h61 hz hk
theorem Wf_s7 {T : Nat → Int32} {P : Nat} (W : tw_WF T P) (v : Int32) : tw_WF (tw_u1 T 7 v) P := by
  obtain ⟨w0, w1, w2, w3, w4, w5, w6, w7, w8, w9, w10⟩ := W
  refine ⟨?_, w1, ?_, ?_, ?_, ?_, ?_, ?_, ?_, ?_, ?_⟩
  · simp (disch := omega) only [tw_u1n]; exact w0
  · simp (disch := omega) only [tw_u1n]; exact w2
  · simp (disch := omega) only [tw_u1n]; exact w3
  · simp (disch := omega) only [tw_u1n]; exact w4
  · simp (disch := omega) only [tw_u1n]; exact w5
  · simp (disch := omega) only [tw_u1n]; exact w6
  · intro q hq; simp (disch := omega) only [tw_u1n]; exact w7 q hq
  · intro q r hq hr; simp (disch := omega) only [tw_u1n]; exact w8 q r hq hr
  · intro q hq; simp (disch := omega) only [tw_u1n]; exact w9 q hq
  · intro k z h61 hz hk; simp (disch := omega) only [tw_u1n] at hz ⊢; exact w10 k z h61 hz hk
theorem Wf_sh0 {T : Nat → Int32} {P : Nat} (W : tw_WF T P) {p x : Nat} (hp : p < 8) (hx : x < 8) : tw_WF (tw_u1 T (32 + 20 * p) (nI x)) P := by
  obtain ⟨w0, w1, w2, w3, w4, w5, w6, w7, w8, w9, w10⟩ := W
  refine ⟨?_, w1, ?_, ?_, ?_, ?_, ?_, ?_, ?_, ?_, ?_⟩
  · simp (disch := omega) only [tw_u1n]; exact w0
  · simp (disch := omega) only [tw_u1n]; exact w2
  · simp (disch := omega) only [tw_u1n]; exact w3
  · simp (disch := omega) only [tw_u1n]; exact w4
  · simp (disch := omega) only [tw_u1n]; exact w5
  · simp (disch := omega) only [tw_u1n]; exact w6
  · intro q hq
    obtain ⟨a1, a2, a3, a4⟩ := w7 q hq
    by_cases e : q = p
    · subst e
      simp (disch := omega) only [tw_u1n, tw_u1a]
      exact ⟨⟨x, hx, rfl⟩, a2, a3, a4⟩
    · have e2 : q < p ∨ p < q := by omega
      simp (disch := omega) only [tw_u1n]
      exact ⟨a1, a2, a3, a4⟩
  · intro q r hq hr; simp (disch := omega) only [tw_u1n]; exact w8 q r hq hr
  · intro q hq; simp (disch := omega) only [tw_u1n]; exact w9 q hq
  · intro k z h61 hz hk; simp (disch := omega) only [tw_u1n] at hz ⊢; exact w10 k z h61 hz hk
theorem Wf_sh1 {T : Nat → Int32} {P : Nat} (W : tw_WF T P) {p x : Nat} (hp : p < 8) (hx : x < 101) : tw_WF (tw_u1 T (32 + 20 * p + 1) (nI x)) P := by
  obtain ⟨w0, w1, w2, w3, w4, w5, w6, w7, w8, w9, w10⟩ := W
  refine ⟨?_, w1, ?_, ?_, ?_, ?_, ?_, ?_, ?_, ?_, ?_⟩
  · simp (disch := omega) only [tw_u1n]; exact w0
  · simp (disch := omega) only [tw_u1n]; exact w2
  · simp (disch := omega) only [tw_u1n]; exact w3
  · simp (disch := omega) only [tw_u1n]; exact w4
  · simp (disch := omega) only [tw_u1n]; exact w5
  · simp (disch := omega) only [tw_u1n]; exact w6
  · intro q hq
    obtain ⟨a1, a2, a3, a4⟩ := w7 q hq
    by_cases e : q = p
    · subst e
      simp (disch := omega) only [tw_u1n, tw_u1a]
      exact ⟨a1, ⟨x, hx, rfl⟩, a3, a4⟩
    · have e2 : q < p ∨ p < q := by omega
      simp (disch := omega) only [tw_u1n]
      exact ⟨a1, a2, a3, a4⟩
  · intro q r hq hr; simp (disch := omega) only [tw_u1n]; exact w8 q r hq hr
  · intro q hq; simp (disch := omega) only [tw_u1n]; exact w9 q hq
  · intro k z h61 hz hk; simp (disch := omega) only [tw_u1n] at hz ⊢; exact w10 k z h61 hz hk
theorem Wf_sh2 {T : Nat → Int32} {P : Nat} (W : tw_WF T P) {p x : Nat} (hp : p < 8) (hx : x < 100) : tw_WF (tw_u1 T (32 + 20 * p + 2) (nI x)) P := by
  obtain ⟨w0, w1, w2, w3, w4, w5, w6, w7, w8, w9, w10⟩ := W
  refine ⟨?_, w1, ?_, ?_, ?_, ?_, ?_, ?_, ?_, ?_, ?_⟩
  · simp (disch := omega) only [tw_u1n]; exact w0
  · simp (disch := omega) only [tw_u1n]; exact w2
  · simp (disch := omega) only [tw_u1n]; exact w3
  · simp (disch := omega) only [tw_u1n]; exact w4
  · simp (disch := omega) only [tw_u1n]; exact w5
  · simp (disch := omega) only [tw_u1n]; exact w6
  · intro q hq
    obtain ⟨a1, a2, a3, a4⟩ := w7 q hq
    by_cases e : q = p
    · subst e
      simp (disch := omega) only [tw_u1n, tw_u1a]
      exact ⟨a1, a2, ⟨x, hx, rfl⟩, a4⟩
    · have e2 : q < p ∨ p < q := by omega
      simp (disch := omega) only [tw_u1n]
      exact ⟨a1, a2, a3, a4⟩
  · intro q r hq hr; simp (disch := omega) only [tw_u1n]; exact w8 q r hq hr
  · intro q hq; simp (disch := omega) only [tw_u1n]; exact w9 q hq
  · intro k z h61 hz hk; simp (disch := omega) only [tw_u1n] at hz ⊢; exact w10 k z h61 hz hk
theorem Wf_sw {T : Nat → Int32} {P : Nat} (W : tw_WF T P) {p x : Nat} (hp : p < P) (hx : x < 2) : tw_WF (tw_u1 T (32 + 20 * p + 3) (nI x)) P := by
  obtain ⟨w0, w1, w2, w3, w4, w5, w6, w7, w8, w9, w10⟩ := W
  refine ⟨?_, w1, ?_, ?_, ?_, ?_, ?_, ?_, ?_, ?_, ?_⟩
  · simp (disch := omega) only [tw_u1n]; exact w0
  · simp (disch := omega) only [tw_u1n]; exact w2
  · simp (disch := omega) only [tw_u1n]; exact w3
  · simp (disch := omega) only [tw_u1n]; exact w4
  · simp (disch := omega) only [tw_u1n]; exact w5
  · simp (disch := omega) only [tw_u1n]; exact w6
  · intro q hq
    obtain ⟨a1, a2, a3, a4⟩ := w7 q hq
    by_cases e : q = p
    · subst e
      simp (disch := omega) only [tw_u1n, tw_u1a]
      exact ⟨a1, a2, a3, x, hx, rfl, fun g => by omega⟩
    · have e2 : q < p ∨ p < q := by omega
      simp (disch := omega) only [tw_u1n]
      exact ⟨a1, a2, a3, a4⟩
  · intro q r hq hr; simp (disch := omega) only [tw_u1n]; exact w8 q r hq hr
  · intro q hq; simp (disch := omega) only [tw_u1n]; exact w9 q hq
  · intro k z h61 hz hk; simp (disch := omega) only [tw_u1n] at hz ⊢; exact w10 k z h61 hz hk
theorem Wf_sg {T : Nat → Int32} {P : Nat} (W : tw_WF T P) {p o x : Nat} (hp : p < P) (ho : o < P) (hpo : p ≠ o) (hx : x < 10) : tw_WF (tw_u1 T (32 + 20 * p + (4 + o)) (nI x)) P := by
  obtain ⟨w0, w1, w2, w3, w4, w5, w6, w7, w8, w9, w10⟩ := W
  refine ⟨?_, w1, ?_, ?_, ?_, ?_, ?_, ?_, ?_, ?_, ?_⟩
  · simp (disch := omega) only [tw_u1n]; exact w0
  · simp (disch := omega) only [tw_u1n]; exact w2
  · simp (disch := omega) only [tw_u1n]; exact w3
  · simp (disch := omega) only [tw_u1n]; exact w4
  · simp (disch := omega) only [tw_u1n]; exact w5
  · simp (disch := omega) only [tw_u1n]; exact w6
  · intro q hq; simp (disch := omega) only [tw_u1n]; exact w7 q hq
  · intro q r hq hr
    obtain ⟨a1, a2, a3⟩ := w8 q r hq hr
    by_cases e : q = p ∧ r = o
    · obtain ⟨rfl, rfl⟩ := e
      simp (disch := omega) only [tw_u1n, tw_u1a]
      exact ⟨⟨x, hx, rfl, fun g => by omega⟩, a2, a3⟩
    · have e2 : 32 + 20 * q + (4 + r) < 32 + 20 * p + (4 + o) ∨ 32 + 20 * p + (4 + o) < 32 + 20 * q + (4 + r) := by omega
      simp (disch := omega) only [tw_u1n]
      exact ⟨a1, a2, a3⟩
  · intro q hq; simp (disch := omega) only [tw_u1n]; exact w9 q hq
  · intro k z h61 hz hk; simp (disch := omega) only [tw_u1n] at hz ⊢; exact w10 k z h61 hz hk
theorem Wf_sr {T : Nat → Int32} {P : Nat} (W : tw_WF T P) {p o x : Nat} (hp : p < P) (ho : o < P) (hpo : p ≠ o) (hx : x < 100) : tw_WF (tw_r2 T p o (nI x)) P := by
  obtain ⟨w0, w1, w2, w3, w4, w5, w6, w7, w8, w9, w10⟩ := W
  refine ⟨?_, w1, ?_, ?_, ?_, ?_, ?_, ?_, ?_, ?_, ?_⟩
  · simp (disch := omega) only [tw_r2, tw_u1n]; exact w0
  · simp (disch := omega) only [tw_r2, tw_u1n]; exact w2
  · simp (disch := omega) only [tw_r2, tw_u1n]; exact w3
  · simp (disch := omega) only [tw_r2, tw_u1n]; exact w4
  · simp (disch := omega) only [tw_r2, tw_u1n]; exact w5
  · simp (disch := omega) only [tw_r2, tw_u1n]; exact w6
  · intro q hq; simp (disch := omega) only [tw_r2, tw_u1n]; exact w7 q hq
  · intro q r hq hr
    obtain ⟨a1, a2, a3⟩ := w8 q r hq hr
    unfold tw_r2
    by_cases e : q = p ∧ r = o
    · obtain ⟨rfl, rfl⟩ := e
      simp (disch := omega) only [tw_u1n, tw_u1a]
      exact ⟨a1, ⟨x, hx, rfl, fun g => by omega⟩, trivial⟩
    · by_cases e3 : q = o ∧ r = p
      · obtain ⟨rfl, rfl⟩ := e3
        simp (disch := omega) only [tw_u1n, tw_u1a]
        exact ⟨a1, ⟨x, hx, rfl, fun g => by omega⟩, trivial⟩
      · have e2 : 32 + 20 * q + (12 + r) < 32 + 20 * p + (12 + o) ∨ 32 + 20 * p + (12 + o) < 32 + 20 * q + (12 + r) := by omega
        have e4 : 32 + 20 * q + (12 + r) < 32 + 20 * o + (12 + p) ∨ 32 + 20 * o + (12 + p) < 32 + 20 * q + (12 + r) := by omega
        have e5 : 32 + 20 * r + (12 + q) < 32 + 20 * p + (12 + o) ∨ 32 + 20 * p + (12 + o) < 32 + 20 * r + (12 + q) := by omega
        have e6 : 32 + 20 * r + (12 + q) < 32 + 20 * o + (12 + p) ∨ 32 + 20 * o + (12 + p) < 32 + 20 * r + (12 + q) := by omega
        simp (disch := omega) only [tw_u1n]
        exact ⟨a1, a2, a3⟩
  · intro q hq; simp (disch := omega) only [tw_r2, tw_u1n]; exact w9 q hq
  · intro k z h61 hz hk; simp (disch := omega) only [tw_r2, tw_u1n] at hz ⊢; exact w10 k z h61 hz hk
theorem Wf_g2 {T : Nat → Int32} {P p o : Nat} {a b : Int32} (W : tw_WF T P) (hp : p < P) (ho : o < P) (hpo : p ≠ o) (ha : ∃ x, x < 10 ∧ a = nI x) (hb : ∃ x, x < 10 ∧ b = nI x) : tw_WF (tw_g2 T p o a b) P := by
  obtain ⟨x, hx, rfl⟩ := ha
  obtain ⟨y, hy, rfl⟩ := hb
  exact Wf_sg (Wf_sg W hp ho hpo hx) ho hp (fun e => hpo e.symm) hy
theorem Wf_meet {T : Nat → Int32} {P p o : Nat} (W : tw_WF T P) (hp : p < P) (ho : o < P) (hpo : p ≠ o) : tw_WF (tw_meet T p o) P := Wf_g2 W hp ho hpo (tw_clamp_n _) (tw_clamp_n _)
theorem Wf_pull {T : Nat → Int32} {P p o : Nat} (W : tw_WF T P) (hp : p < P) (ho : o < P) (hpo : p ≠ o) : tw_WF (tw_pull T p o) P := by
  have h8 := W.2.1
  unfold tw_pull
  split
  · obtain ⟨⟨r, hr, er, -⟩, -⟩ := Wf_u W (p := p) (o := o) (by omega) (by omega)
    obtain ⟨q, hq, e⟩ := tw_m99_n hr
    rw [er, e]
    exact Wf_sr (Wf_g2 W hp ho hpo (tw_clamp_n _) (tw_clamp_n _)) hp ho hpo hq
  · exact Wf_g2 W hp ho hpo (tw_clamp_n _) (tw_clamp_n _)
