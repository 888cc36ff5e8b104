/-! ===== pure: the town ===== -/
def tw_Town (sh : tw_Sh) (a : Nat) : Prop := tw_is sh a 7 ∧ tw_is sh (a + 7) 2 ∧ tw_ar sh (a + 1) 0 8 ∧ tw_ar sh (a + 2) 0 8 ∧ tw_ar sh (a + 3) 0 8 ∧ tw_ar sh (a + 4) 0 64 ∧ tw_ar sh (a + 5) 0 64 ∧ tw_ar sh (a + 6) 0 24 ∧ tw_ar sh (a + 8) 0 60 ∧ tw_rr sh a 39 = some (a + 1) ∧ tw_rr sh a 40 = some (a + 2) ∧ tw_rr sh a 41 = some (a + 3) ∧ tw_rr sh a 42 = some (a + 4) ∧ tw_rr sh a 43 = some (a + 5) ∧ tw_rr sh a 44 = some (a + 6) ∧ tw_rr sh a 45 = some (a + 7) ∧ tw_rr sh (a + 7) 19 = some (a + 8)
theorem Tn_is {sh : tw_Sh} {a : Nat} (h : tw_Town sh a) : tw_is sh a 7 = True := tw_is_T h.1
theorem Tn_il {sh : tw_Sh} {a : Nat} (h : tw_Town sh a) : tw_is sh (a + 7) 2 = True := tw_is_T (h.2.1)
theorem Tn_f39 {sh : tw_Sh} {a : Nat} (h : tw_Town sh a) : tw_fo sh a 39 true = True := tw_is_fo h.1 rfl rfl
theorem Tn_f40 {sh : tw_Sh} {a : Nat} (h : tw_Town sh a) : tw_fo sh a 40 true = True := tw_is_fo h.1 rfl rfl
theorem Tn_f41 {sh : tw_Sh} {a : Nat} (h : tw_Town sh a) : tw_fo sh a 41 true = True := tw_is_fo h.1 rfl rfl
theorem Tn_f42 {sh : tw_Sh} {a : Nat} (h : tw_Town sh a) : tw_fo sh a 42 true = True := tw_is_fo h.1 rfl rfl
theorem Tn_f43 {sh : tw_Sh} {a : Nat} (h : tw_Town sh a) : tw_fo sh a 43 true = True := tw_is_fo h.1 rfl rfl
theorem Tn_f44 {sh : tw_Sh} {a : Nat} (h : tw_Town sh a) : tw_fo sh a 44 true = True := tw_is_fo h.1 rfl rfl
theorem Tn_f45 {sh : tw_Sh} {a : Nat} (h : tw_Town sh a) : tw_fo sh a 45 true = True := tw_is_fo h.1 rfl rfl
theorem Tn_f46 {sh : tw_Sh} {a : Nat} (h : tw_Town sh a) : tw_fo sh a 46 false = True := tw_is_fo h.1 rfl rfl
theorem Tn_f47 {sh : tw_Sh} {a : Nat} (h : tw_Town sh a) : tw_fo sh a 47 false = True := tw_is_fo h.1 rfl rfl
theorem Tn_f48 {sh : tw_Sh} {a : Nat} (h : tw_Town sh a) : tw_fo sh a 48 false = True := tw_is_fo h.1 rfl rfl
theorem Tn_f49 {sh : tw_Sh} {a : Nat} (h : tw_Town sh a) : tw_fo sh a 49 false = True := tw_is_fo h.1 rfl rfl
theorem Tn_f50 {sh : tw_Sh} {a : Nat} (h : tw_Town sh a) : tw_fo sh a 50 false = True := tw_is_fo h.1 rfl rfl
theorem Tn_f51 {sh : tw_Sh} {a : Nat} (h : tw_Town sh a) : tw_fo sh a 51 false = True := tw_is_fo h.1 rfl rfl
theorem Tn_f52 {sh : tw_Sh} {a : Nat} (h : tw_Town sh a) : tw_fo sh a 52 false = True := tw_is_fo h.1 rfl rfl
theorem Tn_f19 {sh : tw_Sh} {a : Nat} (h : tw_Town sh a) : tw_fo sh (a + 7) 19 true = True := tw_is_fo (h.2.1) rfl rfl
theorem Tn_f20 {sh : tw_Sh} {a : Nat} (h : tw_Town sh a) : tw_fo sh (a + 7) 20 false = True := tw_is_fo (h.2.1) rfl rfl
theorem Tn_f21 {sh : tw_Sh} {a : Nat} (h : tw_Town sh a) : tw_fo sh (a + 7) 21 false = True := tw_is_fo (h.2.1) rfl rfl
theorem Tn_a1 {sh : tw_Sh} {a : Nat} (h : tw_Town sh a) {i : Nat} (hi : i < 8) : tw_ai sh [0, 4] (a + 1) (nI i) = True := tw_ar_ai (h.2.2.1) (by decide) hi (by decide)
theorem Tn_s1 {sh : tw_Sh} {a : Nat} (h : tw_Town sh a) {i : Nat} (hi : i < 8) : tw_ai sh [0] (a + 1) (nI i) = True := tw_ar_ai (h.2.2.1) (by decide) hi (by decide)
theorem Tn_a2 {sh : tw_Sh} {a : Nat} (h : tw_Town sh a) {i : Nat} (hi : i < 8) : tw_ai sh [0, 4] (a + 2) (nI i) = True := tw_ar_ai (h.2.2.2.1) (by decide) hi (by decide)
theorem Tn_s2 {sh : tw_Sh} {a : Nat} (h : tw_Town sh a) {i : Nat} (hi : i < 8) : tw_ai sh [0] (a + 2) (nI i) = True := tw_ar_ai (h.2.2.2.1) (by decide) hi (by decide)
theorem Tn_a3 {sh : tw_Sh} {a : Nat} (h : tw_Town sh a) {i : Nat} (hi : i < 8) : tw_ai sh [0, 4] (a + 3) (nI i) = True := tw_ar_ai (h.2.2.2.2.1) (by decide) hi (by decide)
theorem Tn_s3 {sh : tw_Sh} {a : Nat} (h : tw_Town sh a) {i : Nat} (hi : i < 8) : tw_ai sh [0] (a + 3) (nI i) = True := tw_ar_ai (h.2.2.2.2.1) (by decide) hi (by decide)
theorem Tn_a4 {sh : tw_Sh} {a : Nat} (h : tw_Town sh a) {i : Nat} (hi : i < 64) : tw_ai sh [0, 4] (a + 4) (nI i) = True := tw_ar_ai (h.2.2.2.2.2.1) (by decide) hi (by decide)
theorem Tn_s4 {sh : tw_Sh} {a : Nat} (h : tw_Town sh a) {i : Nat} (hi : i < 64) : tw_ai sh [0] (a + 4) (nI i) = True := tw_ar_ai (h.2.2.2.2.2.1) (by decide) hi (by decide)
theorem Tn_a5 {sh : tw_Sh} {a : Nat} (h : tw_Town sh a) {i : Nat} (hi : i < 64) : tw_ai sh [0, 4] (a + 5) (nI i) = True := tw_ar_ai (h.2.2.2.2.2.2.1) (by decide) hi (by decide)
theorem Tn_s5 {sh : tw_Sh} {a : Nat} (h : tw_Town sh a) {i : Nat} (hi : i < 64) : tw_ai sh [0] (a + 5) (nI i) = True := tw_ar_ai (h.2.2.2.2.2.2.1) (by decide) hi (by decide)
theorem Tn_a6 {sh : tw_Sh} {a : Nat} (h : tw_Town sh a) {i : Nat} (hi : i < 24) : tw_ai sh [0, 4] (a + 6) (nI i) = True := tw_ar_ai (h.2.2.2.2.2.2.2.1) (by decide) hi (by decide)
theorem Tn_s6 {sh : tw_Sh} {a : Nat} (h : tw_Town sh a) {i : Nat} (hi : i < 24) : tw_ai sh [0] (a + 6) (nI i) = True := tw_ar_ai (h.2.2.2.2.2.2.2.1) (by decide) hi (by decide)
theorem Tn_a8 {sh : tw_Sh} {a : Nat} (h : tw_Town sh a) {i : Nat} (hi : i < 60) : tw_ai sh [0, 4] (a + 8) (nI i) = True := tw_ar_ai (h.2.2.2.2.2.2.2.2.1) (by decide) hi (by decide)
theorem Tn_s8 {sh : tw_Sh} {a : Nat} (h : tw_Town sh a) {i : Nat} (hi : i < 60) : tw_ai sh [0] (a + 8) (nI i) = True := tw_ar_ai (h.2.2.2.2.2.2.2.2.1) (by decide) hi (by decide)
theorem Tn_r39 {sh : tw_Sh} {a : Nat} (h : tw_Town sh a) : tw_rr sh a 39 = some (a + 1) := h.2.2.2.2.2.2.2.2.2.1
theorem Tn_r40 {sh : tw_Sh} {a : Nat} (h : tw_Town sh a) : tw_rr sh a 40 = some (a + 2) := h.2.2.2.2.2.2.2.2.2.2.1
theorem Tn_r41 {sh : tw_Sh} {a : Nat} (h : tw_Town sh a) : tw_rr sh a 41 = some (a + 3) := h.2.2.2.2.2.2.2.2.2.2.2.1
theorem Tn_r42 {sh : tw_Sh} {a : Nat} (h : tw_Town sh a) : tw_rr sh a 42 = some (a + 4) := h.2.2.2.2.2.2.2.2.2.2.2.2.1
theorem Tn_r43 {sh : tw_Sh} {a : Nat} (h : tw_Town sh a) : tw_rr sh a 43 = some (a + 5) := h.2.2.2.2.2.2.2.2.2.2.2.2.2.1
theorem Tn_r44 {sh : tw_Sh} {a : Nat} (h : tw_Town sh a) : tw_rr sh a 44 = some (a + 6) := h.2.2.2.2.2.2.2.2.2.2.2.2.2.2.1
theorem Tn_r45 {sh : tw_Sh} {a : Nat} (h : tw_Town sh a) : tw_rr sh a 45 = some (a + 7) := h.2.2.2.2.2.2.2.2.2.2.2.2.2.2.2.1
theorem Tn_r19 {sh : tw_Sh} {a : Nat} (h : tw_Town sh a) : tw_rr sh (a + 7) 19 = some (a + 8) := h.2.2.2.2.2.2.2.2.2.2.2.2.2.2.2.2
section PT
variable {sh : tw_Sh} {μ : Nat → Nat → Int32} {la : Nat → Nat → Int64} {n a P : Nat} {p o : Nat}
theorem c_setGuess (hT : tw_Town sh a) (hp : p < 8) (ho : o < 8) (v : Int32) (k : Unit → tw_Mem → Prop) : f_X8_setGuess a (nI p) (nI o) v k (sh, μ, la, n) = k () (sh, tw_up μ (a + 4) (8 * p + o) v, la, n) := by
  simp (disch := omega) only [f_X8_setGuess, f_X8_cell, tw_if, tw_iv, tw_iw, tw_ij, tw_jn, tw_lt, tw_gi, tw_gr, tw_pi, tw_pz, tw_pr, tw_li, tw_lb, tw_ll, tw_la, tw_si, tw_sb, tw_sl, tw_sa, tw_al, tw_na, tw_nw, tw_rz, tw_rn, tw_nzi, tw_nzl, tw_nn, tw_cp, true_and, and_true, Option.some.injEq, exists_eq_left', if_true, if_false, ite_true, ite_false, reduceIte, Tn_is hT, Tn_il hT, Tn_f46 hT, Tn_f47 hT, Tn_f48 hT, Tn_f49 hT, Tn_f50 hT, Tn_f51 hT, Tn_f52 hT, Tn_f39 hT, Tn_f40 hT, Tn_f41 hT, Tn_f42 hT, Tn_f43 hT, Tn_f44 hT, Tn_f45 hT, Tn_f19 hT, Tn_f20 hT, Tn_f21 hT, Tn_r39 hT, Tn_r40 hT, Tn_r41 hT, Tn_r42 hT, Tn_r43 hT, Tn_r44 hT, Tn_r45 hT, Tn_r19 hT, Tn_a1 hT, Tn_a2 hT, Tn_a3 hT, Tn_a4 hT, Tn_a5 hT, Tn_a6 hT, Tn_a8 hT, Tn_s1 hT, Tn_s2 hT, Tn_s3 hT, Tn_s4 hT, Tn_s5 hT, Tn_s6 hT, Tn_s8 hT, tl_0, tl_8, nz_lt, nz_eq, hp, ho, Nat.not_lt_zero, pk_mul, nI_add, nz_cl]
end PT
