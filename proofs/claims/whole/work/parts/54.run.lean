/-! ===== pure: instructions over a memory that stands ===== -/
section PA1
variable {sh : tw_Sh} {μ : Nat → Nat → Int32} {la : Nat → Nat → Int64} {n : Nat}
theorem A_if (c : Prop) [Decidable c] (F G : tw_Mem → Prop) (M : tw_Mem) : tw_if c F G M = if c then F M else G M := rfl
theorem A_iv (t b : Nat) (F : tw_Mem → Prop) : tw_iv t b F (sh, μ, la, n) = (tw_is sh b t ∧ F (sh, μ, la, n)) := rfl
theorem A_iw (b : Nat) (F : tw_Mem → Prop) : tw_iw b F (sh, μ, la, n) = ((tw_is sh b 1 ∨ tw_is sh b 8) ∧ F (sh, μ, la, n)) := rfl
theorem A_ij (b : Nat) (F : tw_Mem → Prop) : tw_ij b F (sh, μ, la, n) = ((∃ n r, sh b = some (6, n, r)) ∧ F (sh, μ, la, n)) := rfl
theorem A_jn {σ : Type} (J : σ → tw_Mem → Prop) (B : (σ → tw_Mem → Prop) → tw_Mem → Prop) (M : tw_Mem) : tw_jn J B M = B J M := rfl
theorem A_lt {α : Type} (v : α) (G : α → tw_Mem → Prop) (M : tw_Mem) : tw_lt v G M = G v M := rfl
theorem A_gi (q a : Nat) (k : Int32 → tw_Mem → Prop) : tw_gi q a k (sh, μ, la, n) = (tw_fo sh a q false ∧ k (μ a q) (sh, μ, la, n)) := rfl
theorem A_gr (q a : Nat) (k : Nat → tw_Mem → Prop) : tw_gr q a k (sh, μ, la, n) = (tw_fo sh a q true ∧ ∃ b, tw_rr sh a q = some b ∧ k b (sh, μ, la, n)) := rfl
theorem A_pi (q a : Nat) (v : Int32) (k : tw_Mem → Prop) : tw_pi q a v k (sh, μ, la, n) = (tw_fo sh a q false ∧ k (sh, tw_up μ a q v, la, n)) := rfl
theorem A_pz (q a : Nat) (v : Int32) (k : tw_Mem → Prop) : tw_pz q a v k (sh, μ, la, n) = (tw_fo sh a q false ∧ (v = 0 ∨ v = 1) ∧ k (sh, tw_up μ a q v, la, n)) := rfl
theorem A_pr (q a b : Nat) (k : tw_Mem → Prop) : tw_pr q a b k (sh, μ, la, n) = (tw_fo sh a q true ∧ k (tw_upR sh a q (some b), μ, la, n)) := rfl
theorem A_li (a : Nat) (i : Int32) (k : Int32 → tw_Mem → Prop) : tw_li a i k (sh, μ, la, n) = (tw_ai sh [0, 4] a i ∧ k (μ a i.toNatClampNeg) (sh, μ, la, n)) := rfl
theorem A_lb (a : Nat) (i : Int32) (k : Int32 → tw_Mem → Prop) : tw_lb a i k (sh, μ, la, n) = (tw_ai sh [2, 5] a i ∧ k (μ a i.toNatClampNeg) (sh, μ, la, n)) := rfl
theorem A_ll (a : Nat) (i : Int32) (k : Int64 → tw_Mem → Prop) : tw_ll a i k (sh, μ, la, n) = (tw_ai sh [1] a i ∧ k (la a i.toNatClampNeg) (sh, μ, la, n)) := rfl
theorem A_la (a : Nat) (i : Int32) (k : Option Nat → tw_Mem → Prop) : tw_la a i k (sh, μ, la, n) = (tw_ai sh [3] a i ∧ k (tw_rr sh a i.toNatClampNeg) (sh, μ, la, n)) := rfl
theorem A_si (a : Nat) (i v : Int32) (k : tw_Mem → Prop) : tw_si a i v k (sh, μ, la, n) = (tw_ai sh [0] a i ∧ k (sh, tw_up μ a i.toNatClampNeg v, la, n)) := rfl
theorem A_sb (a : Nat) (i v : Int32) (k : tw_Mem → Prop) : tw_sb a i v k (sh, μ, la, n) = (tw_ai sh [2] a i ∧ k (sh, tw_up μ a i.toNatClampNeg (vp_nar .byte v), la, n)) := rfl
theorem A_sl (a : Nat) (i : Int32) (v : Int64) (k : tw_Mem → Prop) : tw_sl a i v k (sh, μ, la, n) = (tw_ai sh [1] a i ∧ k (sh, μ, tw_upL la a i.toNatClampNeg v, n)) := rfl
theorem A_rz (v : Int32) (k : tw_Mem → Prop) (M : tw_Mem) : tw_rz v k M = ((v = 0 ∨ v = 1) ∧ k M) := rfl
theorem A_rn (ty : FieldType) (v : Int32) (k : tw_Mem → Prop) (M : tw_Mem) : tw_rn ty v k M = (narrow ty (.int v) = .int v ∧ k M) := rfl
theorem A_nzi (z : Int32) (G : tw_Mem → Prop) (M : tw_Mem) : tw_nzi z G M = (¬ z = 0 ∧ G M) := rfl
theorem A_nzl (z : Int64) (G : tw_Mem → Prop) (M : tw_Mem) : tw_nzl z G M = (¬ z = 0 ∧ G M) := rfl
theorem A_nn1 (x : Nat) (G : Nat → tw_Mem → Prop) (N M) : tw_nn (some x) G N M = G x M := rfl
theorem A_nn0 (G : Nat → tw_Mem → Prop) (N M) : tw_nn none G N M = N M := rfl
end PA1
theorem X_li {sh : tw_Sh} {μ : Nat → Nat → Int32} {la : Nat → Nat → Int64} {a n N : Nat} (h : tw_ar sh a 0 N) {i : Nat} (hi : i < N) (hn : N < 2147483648) (k : Int32 → tw_Mem → Prop) : tw_li a (nI i) k (sh, μ, la, n) = k (μ a i) (sh, μ, la, n) := by
  rw [A_li, tw_ar_ai h (by decide) hi hn, nz_cl (by omega), true_and]
theorem X_si {sh : tw_Sh} {μ : Nat → Nat → Int32} {la : Nat → Nat → Int64} {a n N : Nat} (h : tw_ar sh a 0 N) {i : Nat} (hi : i < N) (hn : N < 2147483648) (x : Int32) (k : tw_Mem → Prop) : tw_si a (nI i) x k (sh, μ, la, n) = k (sh, tw_up μ a i x, la, n) := by
  rw [A_si, tw_ar_ai h (by decide) hi hn, nz_cl (by omega), true_and]
theorem X_lb {sh : tw_Sh} {μ : Nat → Nat → Int32} {la : Nat → Nat → Int64} {a n N : Nat} (h : tw_ar sh a 2 N) {i : Nat} (hi : i < N) (hn : N < 2147483648) (k : Int32 → tw_Mem → Prop) : tw_lb a (nI i) k (sh, μ, la, n) = k (μ a i) (sh, μ, la, n) := by
  rw [A_lb, tw_ar_ai h (by decide) hi hn, nz_cl (by omega), true_and]
theorem X_sb {sh : tw_Sh} {μ : Nat → Nat → Int32} {la : Nat → Nat → Int64} {a n N : Nat} (h : tw_ar sh a 2 N) {i : Nat} (hi : i < N) (hn : N < 2147483648) (x : Int32) (k : tw_Mem → Prop) : tw_sb a (nI i) x k (sh, μ, la, n) = k (sh, tw_up μ a i (vp_nar .byte x), la, n) := by
  rw [A_sb, tw_ar_ai h (by decide) hi hn, nz_cl (by omega), true_and]
theorem X_ll {sh : tw_Sh} {μ : Nat → Nat → Int32} {la : Nat → Nat → Int64} {a n N : Nat} (h : tw_ar sh a 1 N) {i : Nat} (hi : i < N) (hn : N < 2147483648) (k : Int64 → tw_Mem → Prop) : tw_ll a (nI i) k (sh, μ, la, n) = k (la a i) (sh, μ, la, n) := by
  rw [A_ll, tw_ar_ai h (by decide) hi hn, nz_cl (by omega), true_and]
theorem X_sl {sh : tw_Sh} {μ : Nat → Nat → Int32} {la : Nat → Nat → Int64} {a n N : Nat} (h : tw_ar sh a 1 N) {i : Nat} (hi : i < N) (hn : N < 2147483648) (x : Int64) (k : tw_Mem → Prop) : tw_sl a (nI i) x k (sh, μ, la, n) = k (sh, μ, tw_upL la a i x, n) := by
  rw [A_sl, tw_ar_ai h (by decide) hi hn, nz_cl (by omega), true_and]
theorem TnV0 {sh : tw_Sh} {a n : Nat} {μ : Nat → Nat → Int32} {la : Nat → Nat → Int64} (h : tw_Town sh a) (F : tw_Mem → Prop) : tw_iv 7 a F (sh, μ, la, n) = F (sh, μ, la, n) := by rw [A_iv, Tn_is h, true_and]
theorem TnG0_39 {sh : tw_Sh} {a n : Nat} {μ : Nat → Nat → Int32} {la : Nat → Nat → Int64} (h : tw_Town sh a) (k : Nat → tw_Mem → Prop) : tw_gr 39 a k (sh, μ, la, n) = k (a + 1) (sh, μ, la, n) := by rw [A_gr, Tn_f39 h, Tn_r39 h, true_and]; simp only [Option.some.injEq, exists_eq_left']
theorem TnG0_40 {sh : tw_Sh} {a n : Nat} {μ : Nat → Nat → Int32} {la : Nat → Nat → Int64} (h : tw_Town sh a) (k : Nat → tw_Mem → Prop) : tw_gr 40 a k (sh, μ, la, n) = k (a + 2) (sh, μ, la, n) := by rw [A_gr, Tn_f40 h, Tn_r40 h, true_and]; simp only [Option.some.injEq, exists_eq_left']
theorem TnG0_41 {sh : tw_Sh} {a n : Nat} {μ : Nat → Nat → Int32} {la : Nat → Nat → Int64} (h : tw_Town sh a) (k : Nat → tw_Mem → Prop) : tw_gr 41 a k (sh, μ, la, n) = k (a + 3) (sh, μ, la, n) := by rw [A_gr, Tn_f41 h, Tn_r41 h, true_and]; simp only [Option.some.injEq, exists_eq_left']
theorem TnG0_42 {sh : tw_Sh} {a n : Nat} {μ : Nat → Nat → Int32} {la : Nat → Nat → Int64} (h : tw_Town sh a) (k : Nat → tw_Mem → Prop) : tw_gr 42 a k (sh, μ, la, n) = k (a + 4) (sh, μ, la, n) := by rw [A_gr, Tn_f42 h, Tn_r42 h, true_and]; simp only [Option.some.injEq, exists_eq_left']
theorem TnG0_43 {sh : tw_Sh} {a n : Nat} {μ : Nat → Nat → Int32} {la : Nat → Nat → Int64} (h : tw_Town sh a) (k : Nat → tw_Mem → Prop) : tw_gr 43 a k (sh, μ, la, n) = k (a + 5) (sh, μ, la, n) := by rw [A_gr, Tn_f43 h, Tn_r43 h, true_and]; simp only [Option.some.injEq, exists_eq_left']
theorem TnG0_44 {sh : tw_Sh} {a n : Nat} {μ : Nat → Nat → Int32} {la : Nat → Nat → Int64} (h : tw_Town sh a) (k : Nat → tw_Mem → Prop) : tw_gr 44 a k (sh, μ, la, n) = k (a + 6) (sh, μ, la, n) := by rw [A_gr, Tn_f44 h, Tn_r44 h, true_and]; simp only [Option.some.injEq, exists_eq_left']
theorem TnG0_45 {sh : tw_Sh} {a n : Nat} {μ : Nat → Nat → Int32} {la : Nat → Nat → Int64} (h : tw_Town sh a) (k : Nat → tw_Mem → Prop) : tw_gr 45 a k (sh, μ, la, n) = k (a + 7) (sh, μ, la, n) := by rw [A_gr, Tn_f45 h, Tn_r45 h, true_and]; simp only [Option.some.injEq, exists_eq_left']
theorem TnI0_46 {sh : tw_Sh} {a n : Nat} {μ : Nat → Nat → Int32} {la : Nat → Nat → Int64} (h : tw_Town sh a) (k : Int32 → tw_Mem → Prop) : tw_gi 46 a k (sh, μ, la, n) = k (μ a 46) (sh, μ, la, n) := by rw [A_gi, Tn_f46 h, true_and]
theorem TnP0_46 {sh : tw_Sh} {a n : Nat} {μ : Nat → Nat → Int32} {la : Nat → Nat → Int64} (h : tw_Town sh a) (x : Int32) (k : tw_Mem → Prop) : tw_pi 46 a x k (sh, μ, la, n) = k (sh, tw_up μ a 46 x, la, n) := by rw [A_pi, Tn_f46 h, true_and]
theorem TnZ0_46 {sh : tw_Sh} {a n : Nat} {μ : Nat → Nat → Int32} {la : Nat → Nat → Int64} (h : tw_Town sh a) (x : Int32) (k : tw_Mem → Prop) : tw_pz 46 a x k (sh, μ, la, n) = ((x = 0 ∨ x = 1) ∧ k (sh, tw_up μ a 46 x, la, n)) := by rw [A_pz, Tn_f46 h, true_and]
theorem TnI0_47 {sh : tw_Sh} {a n : Nat} {μ : Nat → Nat → Int32} {la : Nat → Nat → Int64} (h : tw_Town sh a) (k : Int32 → tw_Mem → Prop) : tw_gi 47 a k (sh, μ, la, n) = k (μ a 47) (sh, μ, la, n) := by rw [A_gi, Tn_f47 h, true_and]
theorem TnP0_47 {sh : tw_Sh} {a n : Nat} {μ : Nat → Nat → Int32} {la : Nat → Nat → Int64} (h : tw_Town sh a) (x : Int32) (k : tw_Mem → Prop) : tw_pi 47 a x k (sh, μ, la, n) = k (sh, tw_up μ a 47 x, la, n) := by rw [A_pi, Tn_f47 h, true_and]
theorem TnZ0_47 {sh : tw_Sh} {a n : Nat} {μ : Nat → Nat → Int32} {la : Nat → Nat → Int64} (h : tw_Town sh a) (x : Int32) (k : tw_Mem → Prop) : tw_pz 47 a x k (sh, μ, la, n) = ((x = 0 ∨ x = 1) ∧ k (sh, tw_up μ a 47 x, la, n)) := by rw [A_pz, Tn_f47 h, true_and]
theorem TnI0_48 {sh : tw_Sh} {a n : Nat} {μ : Nat → Nat → Int32} {la : Nat → Nat → Int64} (h : tw_Town sh a) (k : Int32 → tw_Mem → Prop) : tw_gi 48 a k (sh, μ, la, n) = k (μ a 48) (sh, μ, la, n) := by rw [A_gi, Tn_f48 h, true_and]
theorem TnP0_48 {sh : tw_Sh} {a n : Nat} {μ : Nat → Nat → Int32} {la : Nat → Nat → Int64} (h : tw_Town sh a) (x : Int32) (k : tw_Mem → Prop) : tw_pi 48 a x k (sh, μ, la, n) = k (sh, tw_up μ a 48 x, la, n) := by rw [A_pi, Tn_f48 h, true_and]
theorem TnZ0_48 {sh : tw_Sh} {a n : Nat} {μ : Nat → Nat → Int32} {la : Nat → Nat → Int64} (h : tw_Town sh a) (x : Int32) (k : tw_Mem → Prop) : tw_pz 48 a x k (sh, μ, la, n) = ((x = 0 ∨ x = 1) ∧ k (sh, tw_up μ a 48 x, la, n)) := by rw [A_pz, Tn_f48 h, true_and]
theorem TnI0_49 {sh : tw_Sh} {a n : Nat} {μ : Nat → Nat → Int32} {la : Nat → Nat → Int64} (h : tw_Town sh a) (k : Int32 → tw_Mem → Prop) : tw_gi 49 a k (sh, μ, la, n) = k (μ a 49) (sh, μ, la, n) := by rw [A_gi, Tn_f49 h, true_and]
theorem TnP0_49 {sh : tw_Sh} {a n : Nat} {μ : Nat → Nat → Int32} {la : Nat → Nat → Int64} (h : tw_Town sh a) (x : Int32) (k : tw_Mem → Prop) : tw_pi 49 a x k (sh, μ, la, n) = k (sh, tw_up μ a 49 x, la, n) := by rw [A_pi, Tn_f49 h, true_and]
theorem TnZ0_49 {sh : tw_Sh} {a n : Nat} {μ : Nat → Nat → Int32} {la : Nat → Nat → Int64} (h : tw_Town sh a) (x : Int32) (k : tw_Mem → Prop) : tw_pz 49 a x k (sh, μ, la, n) = ((x = 0 ∨ x = 1) ∧ k (sh, tw_up μ a 49 x, la, n)) := by rw [A_pz, Tn_f49 h, true_and]
theorem TnI0_50 {sh : tw_Sh} {a n : Nat} {μ : Nat → Nat → Int32} {la : Nat → Nat → Int64} (h : tw_Town sh a) (k : Int32 → tw_Mem → Prop) : tw_gi 50 a k (sh, μ, la, n) = k (μ a 50) (sh, μ, la, n) := by rw [A_gi, Tn_f50 h, true_and]
theorem TnP0_50 {sh : tw_Sh} {a n : Nat} {μ : Nat → Nat → Int32} {la : Nat → Nat → Int64} (h : tw_Town sh a) (x : Int32) (k : tw_Mem → Prop) : tw_pi 50 a x k (sh, μ, la, n) = k (sh, tw_up μ a 50 x, la, n) := by rw [A_pi, Tn_f50 h, true_and]
theorem TnZ0_50 {sh : tw_Sh} {a n : Nat} {μ : Nat → Nat → Int32} {la : Nat → Nat → Int64} (h : tw_Town sh a) (x : Int32) (k : tw_Mem → Prop) : tw_pz 50 a x k (sh, μ, la, n) = ((x = 0 ∨ x = 1) ∧ k (sh, tw_up μ a 50 x, la, n)) := by rw [A_pz, Tn_f50 h, true_and]
theorem TnI0_51 {sh : tw_Sh} {a n : Nat} {μ : Nat → Nat → Int32} {la : Nat → Nat → Int64} (h : tw_Town sh a) (k : Int32 → tw_Mem → Prop) : tw_gi 51 a k (sh, μ, la, n) = k (μ a 51) (sh, μ, la, n) := by rw [A_gi, Tn_f51 h, true_and]
theorem TnP0_51 {sh : tw_Sh} {a n : Nat} {μ : Nat → Nat → Int32} {la : Nat → Nat → Int64} (h : tw_Town sh a) (x : Int32) (k : tw_Mem → Prop) : tw_pi 51 a x k (sh, μ, la, n) = k (sh, tw_up μ a 51 x, la, n) := by rw [A_pi, Tn_f51 h, true_and]
theorem TnZ0_51 {sh : tw_Sh} {a n : Nat} {μ : Nat → Nat → Int32} {la : Nat → Nat → Int64} (h : tw_Town sh a) (x : Int32) (k : tw_Mem → Prop) : tw_pz 51 a x k (sh, μ, la, n) = ((x = 0 ∨ x = 1) ∧ k (sh, tw_up μ a 51 x, la, n)) := by rw [A_pz, Tn_f51 h, true_and]
theorem TnI0_52 {sh : tw_Sh} {a n : Nat} {μ : Nat → Nat → Int32} {la : Nat → Nat → Int64} (h : tw_Town sh a) (k : Int32 → tw_Mem → Prop) : tw_gi 52 a k (sh, μ, la, n) = k (μ a 52) (sh, μ, la, n) := by rw [A_gi, Tn_f52 h, true_and]
theorem TnP0_52 {sh : tw_Sh} {a n : Nat} {μ : Nat → Nat → Int32} {la : Nat → Nat → Int64} (h : tw_Town sh a) (x : Int32) (k : tw_Mem → Prop) : tw_pi 52 a x k (sh, μ, la, n) = k (sh, tw_up μ a 52 x, la, n) := by rw [A_pi, Tn_f52 h, true_and]
theorem TnZ0_52 {sh : tw_Sh} {a n : Nat} {μ : Nat → Nat → Int32} {la : Nat → Nat → Int64} (h : tw_Town sh a) (x : Int32) (k : tw_Mem → Prop) : tw_pz 52 a x k (sh, μ, la, n) = ((x = 0 ∨ x = 1) ∧ k (sh, tw_up μ a 52 x, la, n)) := by rw [A_pz, Tn_f52 h, true_and]
theorem TnV1 {sh : tw_Sh} {a n : Nat} {μ : Nat → Nat → Int32} {la : Nat → Nat → Int64} (h : tw_Town sh a) (F : tw_Mem → Prop) : tw_iv 2 (a + 7) F (sh, μ, la, n) = F (sh, μ, la, n) := by rw [A_iv, Tn_il h, true_and]
theorem TnG1_19 {sh : tw_Sh} {a n : Nat} {μ : Nat → Nat → Int32} {la : Nat → Nat → Int64} (h : tw_Town sh a) (k : Nat → tw_Mem → Prop) : tw_gr 19 (a + 7) k (sh, μ, la, n) = k (a + 8) (sh, μ, la, n) := by rw [A_gr, Tn_f19 h, Tn_r19 h, true_and]; simp only [Option.some.injEq, exists_eq_left']
theorem TnI1_20 {sh : tw_Sh} {a n : Nat} {μ : Nat → Nat → Int32} {la : Nat → Nat → Int64} (h : tw_Town sh a) (k : Int32 → tw_Mem → Prop) : tw_gi 20 (a + 7) k (sh, μ, la, n) = k (μ (a + 7) 20) (sh, μ, la, n) := by rw [A_gi, Tn_f20 h, true_and]
theorem TnP1_20 {sh : tw_Sh} {a n : Nat} {μ : Nat → Nat → Int32} {la : Nat → Nat → Int64} (h : tw_Town sh a) (x : Int32) (k : tw_Mem → Prop) : tw_pi 20 (a + 7) x k (sh, μ, la, n) = k (sh, tw_up μ (a + 7) 20 x, la, n) := by rw [A_pi, Tn_f20 h, true_and]
theorem TnZ1_20 {sh : tw_Sh} {a n : Nat} {μ : Nat → Nat → Int32} {la : Nat → Nat → Int64} (h : tw_Town sh a) (x : Int32) (k : tw_Mem → Prop) : tw_pz 20 (a + 7) x k (sh, μ, la, n) = ((x = 0 ∨ x = 1) ∧ k (sh, tw_up μ (a + 7) 20 x, la, n)) := by rw [A_pz, Tn_f20 h, true_and]
theorem TnI1_21 {sh : tw_Sh} {a n : Nat} {μ : Nat → Nat → Int32} {la : Nat → Nat → Int64} (h : tw_Town sh a) (k : Int32 → tw_Mem → Prop) : tw_gi 21 (a + 7) k (sh, μ, la, n) = k (μ (a + 7) 21) (sh, μ, la, n) := by rw [A_gi, Tn_f21 h, true_and]
theorem TnP1_21 {sh : tw_Sh} {a n : Nat} {μ : Nat → Nat → Int32} {la : Nat → Nat → Int64} (h : tw_Town sh a) (x : Int32) (k : tw_Mem → Prop) : tw_pi 21 (a + 7) x k (sh, μ, la, n) = k (sh, tw_up μ (a + 7) 21 x, la, n) := by rw [A_pi, Tn_f21 h, true_and]
theorem TnZ1_21 {sh : tw_Sh} {a n : Nat} {μ : Nat → Nat → Int32} {la : Nat → Nat → Int64} (h : tw_Town sh a) (x : Int32) (k : tw_Mem → Prop) : tw_pz 21 (a + 7) x k (sh, μ, la, n) = ((x = 0 ∨ x = 1) ∧ k (sh, tw_up μ (a + 7) 21 x, la, n)) := by rw [A_pz, Tn_f21 h, true_and]
theorem TnL0 {sh : tw_Sh} {a n : Nat} {μ : Nat → Nat → Int32} {la : Nat → Nat → Int64} (h : tw_Town sh a) {i : Nat} (hi : i < 8) (k : Int32 → tw_Mem → Prop) : tw_li (a + 1) (nI i) k (sh, μ, la, n) = k (μ (a + 1) i) (sh, μ, la, n) := X_li (h.2.2.1) hi (by decide) k
theorem TnS0 {sh : tw_Sh} {a n : Nat} {μ : Nat → Nat → Int32} {la : Nat → Nat → Int64} (h : tw_Town sh a) {i : Nat} (hi : i < 8) (x : Int32) (k : tw_Mem → Prop) : tw_si (a + 1) (nI i) x k (sh, μ, la, n) = k (sh, tw_up μ (a + 1) i x, la, n) := X_si (h.2.2.1) hi (by decide) x k
theorem TnL1 {sh : tw_Sh} {a n : Nat} {μ : Nat → Nat → Int32} {la : Nat → Nat → Int64} (h : tw_Town sh a) {i : Nat} (hi : i < 8) (k : Int32 → tw_Mem → Prop) : tw_li (a + 2) (nI i) k (sh, μ, la, n) = k (μ (a + 2) i) (sh, μ, la, n) := X_li (h.2.2.2.1) hi (by decide) k
theorem TnS1 {sh : tw_Sh} {a n : Nat} {μ : Nat → Nat → Int32} {la : Nat → Nat → Int64} (h : tw_Town sh a) {i : Nat} (hi : i < 8) (x : Int32) (k : tw_Mem → Prop) : tw_si (a + 2) (nI i) x k (sh, μ, la, n) = k (sh, tw_up μ (a + 2) i x, la, n) := X_si (h.2.2.2.1) hi (by decide) x k
theorem TnL2 {sh : tw_Sh} {a n : Nat} {μ : Nat → Nat → Int32} {la : Nat → Nat → Int64} (h : tw_Town sh a) {i : Nat} (hi : i < 8) (k : Int32 → tw_Mem → Prop) : tw_li (a + 3) (nI i) k (sh, μ, la, n) = k (μ (a + 3) i) (sh, μ, la, n) := X_li (h.2.2.2.2.1) hi (by decide) k
theorem TnS2 {sh : tw_Sh} {a n : Nat} {μ : Nat → Nat → Int32} {la : Nat → Nat → Int64} (h : tw_Town sh a) {i : Nat} (hi : i < 8) (x : Int32) (k : tw_Mem → Prop) : tw_si (a + 3) (nI i) x k (sh, μ, la, n) = k (sh, tw_up μ (a + 3) i x, la, n) := X_si (h.2.2.2.2.1) hi (by decide) x k
theorem TnL3 {sh : tw_Sh} {a n : Nat} {μ : Nat → Nat → Int32} {la : Nat → Nat → Int64} (h : tw_Town sh a) {i : Nat} (hi : i < 64) (k : Int32 → tw_Mem → Prop) : tw_li (a + 4) (nI i) k (sh, μ, la, n) = k (μ (a + 4) i) (sh, μ, la, n) := X_li (h.2.2.2.2.2.1) hi (by decide) k
theorem TnS3 {sh : tw_Sh} {a n : Nat} {μ : Nat → Nat → Int32} {la : Nat → Nat → Int64} (h : tw_Town sh a) {i : Nat} (hi : i < 64) (x : Int32) (k : tw_Mem → Prop) : tw_si (a + 4) (nI i) x k (sh, μ, la, n) = k (sh, tw_up μ (a + 4) i x, la, n) := X_si (h.2.2.2.2.2.1) hi (by decide) x k
theorem TnL4 {sh : tw_Sh} {a n : Nat} {μ : Nat → Nat → Int32} {la : Nat → Nat → Int64} (h : tw_Town sh a) {i : Nat} (hi : i < 64) (k : Int32 → tw_Mem → Prop) : tw_li (a + 5) (nI i) k (sh, μ, la, n) = k (μ (a + 5) i) (sh, μ, la, n) := X_li (h.2.2.2.2.2.2.1) hi (by decide) k
theorem TnS4 {sh : tw_Sh} {a n : Nat} {μ : Nat → Nat → Int32} {la : Nat → Nat → Int64} (h : tw_Town sh a) {i : Nat} (hi : i < 64) (x : Int32) (k : tw_Mem → Prop) : tw_si (a + 5) (nI i) x k (sh, μ, la, n) = k (sh, tw_up μ (a + 5) i x, la, n) := X_si (h.2.2.2.2.2.2.1) hi (by decide) x k
theorem TnL5 {sh : tw_Sh} {a n : Nat} {μ : Nat → Nat → Int32} {la : Nat → Nat → Int64} (h : tw_Town sh a) {i : Nat} (hi : i < 24) (k : Int32 → tw_Mem → Prop) : tw_li (a + 6) (nI i) k (sh, μ, la, n) = k (μ (a + 6) i) (sh, μ, la, n) := X_li (h.2.2.2.2.2.2.2.1) hi (by decide) k
theorem TnS5 {sh : tw_Sh} {a n : Nat} {μ : Nat → Nat → Int32} {la : Nat → Nat → Int64} (h : tw_Town sh a) {i : Nat} (hi : i < 24) (x : Int32) (k : tw_Mem → Prop) : tw_si (a + 6) (nI i) x k (sh, μ, la, n) = k (sh, tw_up μ (a + 6) i x, la, n) := X_si (h.2.2.2.2.2.2.2.1) hi (by decide) x k
theorem TnL6 {sh : tw_Sh} {a n : Nat} {μ : Nat → Nat → Int32} {la : Nat → Nat → Int64} (h : tw_Town sh a) {i : Nat} (hi : i < 60) (k : Int32 → tw_Mem → Prop) : tw_li (a + 8) (nI i) k (sh, μ, la, n) = k (μ (a + 8) i) (sh, μ, la, n) := X_li (h.2.2.2.2.2.2.2.2.1) hi (by decide) k
theorem TnS6 {sh : tw_Sh} {a n : Nat} {μ : Nat → Nat → Int32} {la : Nat → Nat → Int64} (h : tw_Town sh a) {i : Nat} (hi : i < 60) (x : Int32) (k : tw_Mem → Prop) : tw_si (a + 8) (nI i) x k (sh, μ, la, n) = k (sh, tw_up μ (a + 8) i x, la, n) := X_si (h.2.2.2.2.2.2.2.2.1) hi (by decide) x k
theorem MoV0 {sh : tw_Sh} {m n : Nat} {μ : Nat → Nat → Int32} {la : Nat → Nat → Int64} (h : tw_Mo sh m) (F : tw_Mem → Prop) : tw_iv 11 m F (sh, μ, la, n) = F (sh, μ, la, n) := by rw [A_iv, Mo_is0 h, true_and]
theorem MoI0_70 {sh : tw_Sh} {m n : Nat} {μ : Nat → Nat → Int32} {la : Nat → Nat → Int64} (h : tw_Mo sh m) (k : Int32 → tw_Mem → Prop) : tw_gi 70 m k (sh, μ, la, n) = k (μ m 70) (sh, μ, la, n) := by rw [A_gi, Mo_f0_70 h, true_and]
theorem MoP0_70 {sh : tw_Sh} {m n : Nat} {μ : Nat → Nat → Int32} {la : Nat → Nat → Int64} (h : tw_Mo sh m) (x : Int32) (k : tw_Mem → Prop) : tw_pi 70 m x k (sh, μ, la, n) = k (sh, tw_up μ m 70 x, la, n) := by rw [A_pi, Mo_f0_70 h, true_and]
theorem MoZ0_70 {sh : tw_Sh} {m n : Nat} {μ : Nat → Nat → Int32} {la : Nat → Nat → Int64} (h : tw_Mo sh m) (x : Int32) (k : tw_Mem → Prop) : tw_pz 70 m x k (sh, μ, la, n) = ((x = 0 ∨ x = 1) ∧ k (sh, tw_up μ m 70 x, la, n)) := by rw [A_pz, Mo_f0_70 h, true_and]
theorem MoG0_71 {sh : tw_Sh} {m n : Nat} {μ : Nat → Nat → Int32} {la : Nat → Nat → Int64} (h : tw_Mo sh m) (k : Nat → tw_Mem → Prop) : tw_gr 71 m k (sh, μ, la, n) = k (m + 1) (sh, μ, la, n) := by rw [A_gr, Mo_f0_71 h, Mo_r0_71 h, true_and]; simp only [Option.some.injEq, exists_eq_left']
theorem MoG0_72 {sh : tw_Sh} {m n : Nat} {μ : Nat → Nat → Int32} {la : Nat → Nat → Int64} (h : tw_Mo sh m) (k : Nat → tw_Mem → Prop) : tw_gr 72 m k (sh, μ, la, n) = k (m + 2) (sh, μ, la, n) := by rw [A_gr, Mo_f0_72 h, Mo_r1_72 h, true_and]; simp only [Option.some.injEq, exists_eq_left']
theorem MoG0_73 {sh : tw_Sh} {m n : Nat} {μ : Nat → Nat → Int32} {la : Nat → Nat → Int64} (h : tw_Mo sh m) (k : Nat → tw_Mem → Prop) : tw_gr 73 m k (sh, μ, la, n) = k (m + 3) (sh, μ, la, n) := by rw [A_gr, Mo_f0_73 h, Mo_r2_73 h, true_and]; simp only [Option.some.injEq, exists_eq_left']
theorem MoG0_74 {sh : tw_Sh} {m n : Nat} {μ : Nat → Nat → Int32} {la : Nat → Nat → Int64} (h : tw_Mo sh m) (k : Nat → tw_Mem → Prop) : tw_gr 74 m k (sh, μ, la, n) = k (m + 4) (sh, μ, la, n) := by rw [A_gr, Mo_f0_74 h, Mo_r3_74 h, true_and]; simp only [Option.some.injEq, exists_eq_left']
theorem MoG0_75 {sh : tw_Sh} {m n : Nat} {μ : Nat → Nat → Int32} {la : Nat → Nat → Int64} (h : tw_Mo sh m) (k : Nat → tw_Mem → Prop) : tw_gr 75 m k (sh, μ, la, n) = k (m + 5) (sh, μ, la, n) := by rw [A_gr, Mo_f0_75 h, Mo_r4_75 h, true_and]; simp only [Option.some.injEq, exists_eq_left']
theorem MoI0_76 {sh : tw_Sh} {m n : Nat} {μ : Nat → Nat → Int32} {la : Nat → Nat → Int64} (h : tw_Mo sh m) (k : Int32 → tw_Mem → Prop) : tw_gi 76 m k (sh, μ, la, n) = k (μ m 76) (sh, μ, la, n) := by rw [A_gi, Mo_f0_76 h, true_and]
theorem MoP0_76 {sh : tw_Sh} {m n : Nat} {μ : Nat → Nat → Int32} {la : Nat → Nat → Int64} (h : tw_Mo sh m) (x : Int32) (k : tw_Mem → Prop) : tw_pi 76 m x k (sh, μ, la, n) = k (sh, tw_up μ m 76 x, la, n) := by rw [A_pi, Mo_f0_76 h, true_and]
theorem MoZ0_76 {sh : tw_Sh} {m n : Nat} {μ : Nat → Nat → Int32} {la : Nat → Nat → Int64} (h : tw_Mo sh m) (x : Int32) (k : tw_Mem → Prop) : tw_pz 76 m x k (sh, μ, la, n) = ((x = 0 ∨ x = 1) ∧ k (sh, tw_up μ m 76 x, la, n)) := by rw [A_pz, Mo_f0_76 h, true_and]
theorem MoI0_77 {sh : tw_Sh} {m n : Nat} {μ : Nat → Nat → Int32} {la : Nat → Nat → Int64} (h : tw_Mo sh m) (k : Int32 → tw_Mem → Prop) : tw_gi 77 m k (sh, μ, la, n) = k (μ m 77) (sh, μ, la, n) := by rw [A_gi, Mo_f0_77 h, true_and]
theorem MoP0_77 {sh : tw_Sh} {m n : Nat} {μ : Nat → Nat → Int32} {la : Nat → Nat → Int64} (h : tw_Mo sh m) (x : Int32) (k : tw_Mem → Prop) : tw_pi 77 m x k (sh, μ, la, n) = k (sh, tw_up μ m 77 x, la, n) := by rw [A_pi, Mo_f0_77 h, true_and]
theorem MoZ0_77 {sh : tw_Sh} {m n : Nat} {μ : Nat → Nat → Int32} {la : Nat → Nat → Int64} (h : tw_Mo sh m) (x : Int32) (k : tw_Mem → Prop) : tw_pz 77 m x k (sh, μ, la, n) = ((x = 0 ∨ x = 1) ∧ k (sh, tw_up μ m 77 x, la, n)) := by rw [A_pz, Mo_f0_77 h, true_and]
theorem MoG0_78 {sh : tw_Sh} {m n : Nat} {μ : Nat → Nat → Int32} {la : Nat → Nat → Int64} (h : tw_Mo sh m) (k : Nat → tw_Mem → Prop) : tw_gr 78 m k (sh, μ, la, n) = k (m + 6) (sh, μ, la, n) := by rw [A_gr, Mo_f0_78 h, Mo_r5_78 h, true_and]; simp only [Option.some.injEq, exists_eq_left']
theorem MoI0_79 {sh : tw_Sh} {m n : Nat} {μ : Nat → Nat → Int32} {la : Nat → Nat → Int64} (h : tw_Mo sh m) (k : Int32 → tw_Mem → Prop) : tw_gi 79 m k (sh, μ, la, n) = k (μ m 79) (sh, μ, la, n) := by rw [A_gi, Mo_f0_79 h, true_and]
theorem MoP0_79 {sh : tw_Sh} {m n : Nat} {μ : Nat → Nat → Int32} {la : Nat → Nat → Int64} (h : tw_Mo sh m) (x : Int32) (k : tw_Mem → Prop) : tw_pi 79 m x k (sh, μ, la, n) = k (sh, tw_up μ m 79 x, la, n) := by rw [A_pi, Mo_f0_79 h, true_and]
theorem MoZ0_79 {sh : tw_Sh} {m n : Nat} {μ : Nat → Nat → Int32} {la : Nat → Nat → Int64} (h : tw_Mo sh m) (x : Int32) (k : tw_Mem → Prop) : tw_pz 79 m x k (sh, μ, la, n) = ((x = 0 ∨ x = 1) ∧ k (sh, tw_up μ m 79 x, la, n)) := by rw [A_pz, Mo_f0_79 h, true_and]
theorem MoI0_80 {sh : tw_Sh} {m n : Nat} {μ : Nat → Nat → Int32} {la : Nat → Nat → Int64} (h : tw_Mo sh m) (k : Int32 → tw_Mem → Prop) : tw_gi 80 m k (sh, μ, la, n) = k (μ m 80) (sh, μ, la, n) := by rw [A_gi, Mo_f0_80 h, true_and]
theorem MoP0_80 {sh : tw_Sh} {m n : Nat} {μ : Nat → Nat → Int32} {la : Nat → Nat → Int64} (h : tw_Mo sh m) (x : Int32) (k : tw_Mem → Prop) : tw_pi 80 m x k (sh, μ, la, n) = k (sh, tw_up μ m 80 x, la, n) := by rw [A_pi, Mo_f0_80 h, true_and]
theorem MoZ0_80 {sh : tw_Sh} {m n : Nat} {μ : Nat → Nat → Int32} {la : Nat → Nat → Int64} (h : tw_Mo sh m) (x : Int32) (k : tw_Mem → Prop) : tw_pz 80 m x k (sh, μ, la, n) = ((x = 0 ∨ x = 1) ∧ k (sh, tw_up μ m 80 x, la, n)) := by rw [A_pz, Mo_f0_80 h, true_and]
theorem MoI0_81 {sh : tw_Sh} {m n : Nat} {μ : Nat → Nat → Int32} {la : Nat → Nat → Int64} (h : tw_Mo sh m) (k : Int32 → tw_Mem → Prop) : tw_gi 81 m k (sh, μ, la, n) = k (μ m 81) (sh, μ, la, n) := by rw [A_gi, Mo_f0_81 h, true_and]
theorem MoP0_81 {sh : tw_Sh} {m n : Nat} {μ : Nat → Nat → Int32} {la : Nat → Nat → Int64} (h : tw_Mo sh m) (x : Int32) (k : tw_Mem → Prop) : tw_pi 81 m x k (sh, μ, la, n) = k (sh, tw_up μ m 81 x, la, n) := by rw [A_pi, Mo_f0_81 h, true_and]
theorem MoZ0_81 {sh : tw_Sh} {m n : Nat} {μ : Nat → Nat → Int32} {la : Nat → Nat → Int64} (h : tw_Mo sh m) (x : Int32) (k : tw_Mem → Prop) : tw_pz 81 m x k (sh, μ, la, n) = ((x = 0 ∨ x = 1) ∧ k (sh, tw_up μ m 81 x, la, n)) := by rw [A_pz, Mo_f0_81 h, true_and]
theorem MoI0_82 {sh : tw_Sh} {m n : Nat} {μ : Nat → Nat → Int32} {la : Nat → Nat → Int64} (h : tw_Mo sh m) (k : Int32 → tw_Mem → Prop) : tw_gi 82 m k (sh, μ, la, n) = k (μ m 82) (sh, μ, la, n) := by rw [A_gi, Mo_f0_82 h, true_and]
theorem MoP0_82 {sh : tw_Sh} {m n : Nat} {μ : Nat → Nat → Int32} {la : Nat → Nat → Int64} (h : tw_Mo sh m) (x : Int32) (k : tw_Mem → Prop) : tw_pi 82 m x k (sh, μ, la, n) = k (sh, tw_up μ m 82 x, la, n) := by rw [A_pi, Mo_f0_82 h, true_and]
theorem MoZ0_82 {sh : tw_Sh} {m n : Nat} {μ : Nat → Nat → Int32} {la : Nat → Nat → Int64} (h : tw_Mo sh m) (x : Int32) (k : tw_Mem → Prop) : tw_pz 82 m x k (sh, μ, la, n) = ((x = 0 ∨ x = 1) ∧ k (sh, tw_up μ m 82 x, la, n)) := by rw [A_pz, Mo_f0_82 h, true_and]
theorem MoI0_83 {sh : tw_Sh} {m n : Nat} {μ : Nat → Nat → Int32} {la : Nat → Nat → Int64} (h : tw_Mo sh m) (k : Int32 → tw_Mem → Prop) : tw_gi 83 m k (sh, μ, la, n) = k (μ m 83) (sh, μ, la, n) := by rw [A_gi, Mo_f0_83 h, true_and]
theorem MoP0_83 {sh : tw_Sh} {m n : Nat} {μ : Nat → Nat → Int32} {la : Nat → Nat → Int64} (h : tw_Mo sh m) (x : Int32) (k : tw_Mem → Prop) : tw_pi 83 m x k (sh, μ, la, n) = k (sh, tw_up μ m 83 x, la, n) := by rw [A_pi, Mo_f0_83 h, true_and]
theorem MoZ0_83 {sh : tw_Sh} {m n : Nat} {μ : Nat → Nat → Int32} {la : Nat → Nat → Int64} (h : tw_Mo sh m) (x : Int32) (k : tw_Mem → Prop) : tw_pz 83 m x k (sh, μ, la, n) = ((x = 0 ∨ x = 1) ∧ k (sh, tw_up μ m 83 x, la, n)) := by rw [A_pz, Mo_f0_83 h, true_and]
theorem MoI0_84 {sh : tw_Sh} {m n : Nat} {μ : Nat → Nat → Int32} {la : Nat → Nat → Int64} (h : tw_Mo sh m) (k : Int32 → tw_Mem → Prop) : tw_gi 84 m k (sh, μ, la, n) = k (μ m 84) (sh, μ, la, n) := by rw [A_gi, Mo_f0_84 h, true_and]
theorem MoP0_84 {sh : tw_Sh} {m n : Nat} {μ : Nat → Nat → Int32} {la : Nat → Nat → Int64} (h : tw_Mo sh m) (x : Int32) (k : tw_Mem → Prop) : tw_pi 84 m x k (sh, μ, la, n) = k (sh, tw_up μ m 84 x, la, n) := by rw [A_pi, Mo_f0_84 h, true_and]
theorem MoZ0_84 {sh : tw_Sh} {m n : Nat} {μ : Nat → Nat → Int32} {la : Nat → Nat → Int64} (h : tw_Mo sh m) (x : Int32) (k : tw_Mem → Prop) : tw_pz 84 m x k (sh, μ, la, n) = ((x = 0 ∨ x = 1) ∧ k (sh, tw_up μ m 84 x, la, n)) := by rw [A_pz, Mo_f0_84 h, true_and]
theorem MoG0_85 {sh : tw_Sh} {m n : Nat} {μ : Nat → Nat → Int32} {la : Nat → Nat → Int64} (h : tw_Mo sh m) (k : Nat → tw_Mem → Prop) : tw_gr 85 m k (sh, μ, la, n) = k (m + 7) (sh, μ, la, n) := by rw [A_gr, Mo_f0_85 h, Mo_r6_85 h, true_and]; simp only [Option.some.injEq, exists_eq_left']
theorem MoI0_86 {sh : tw_Sh} {m n : Nat} {μ : Nat → Nat → Int32} {la : Nat → Nat → Int64} (h : tw_Mo sh m) (k : Int32 → tw_Mem → Prop) : tw_gi 86 m k (sh, μ, la, n) = k (μ m 86) (sh, μ, la, n) := by rw [A_gi, Mo_f0_86 h, true_and]
theorem MoP0_86 {sh : tw_Sh} {m n : Nat} {μ : Nat → Nat → Int32} {la : Nat → Nat → Int64} (h : tw_Mo sh m) (x : Int32) (k : tw_Mem → Prop) : tw_pi 86 m x k (sh, μ, la, n) = k (sh, tw_up μ m 86 x, la, n) := by rw [A_pi, Mo_f0_86 h, true_and]
theorem MoZ0_86 {sh : tw_Sh} {m n : Nat} {μ : Nat → Nat → Int32} {la : Nat → Nat → Int64} (h : tw_Mo sh m) (x : Int32) (k : tw_Mem → Prop) : tw_pz 86 m x k (sh, μ, la, n) = ((x = 0 ∨ x = 1) ∧ k (sh, tw_up μ m 86 x, la, n)) := by rw [A_pz, Mo_f0_86 h, true_and]
theorem MoG0_87 {sh : tw_Sh} {m n : Nat} {μ : Nat → Nat → Int32} {la : Nat → Nat → Int64} (h : tw_Mo sh m) (k : Nat → tw_Mem → Prop) : tw_gr 87 m k (sh, μ, la, n) = k (m + 8) (sh, μ, la, n) := by rw [A_gr, Mo_f0_87 h, Mo_r7_87 h, true_and]; simp only [Option.some.injEq, exists_eq_left']
theorem MoI0_88 {sh : tw_Sh} {m n : Nat} {μ : Nat → Nat → Int32} {la : Nat → Nat → Int64} (h : tw_Mo sh m) (k : Int32 → tw_Mem → Prop) : tw_gi 88 m k (sh, μ, la, n) = k (μ m 88) (sh, μ, la, n) := by rw [A_gi, Mo_f0_88 h, true_and]
theorem MoP0_88 {sh : tw_Sh} {m n : Nat} {μ : Nat → Nat → Int32} {la : Nat → Nat → Int64} (h : tw_Mo sh m) (x : Int32) (k : tw_Mem → Prop) : tw_pi 88 m x k (sh, μ, la, n) = k (sh, tw_up μ m 88 x, la, n) := by rw [A_pi, Mo_f0_88 h, true_and]
theorem MoZ0_88 {sh : tw_Sh} {m n : Nat} {μ : Nat → Nat → Int32} {la : Nat → Nat → Int64} (h : tw_Mo sh m) (x : Int32) (k : tw_Mem → Prop) : tw_pz 88 m x k (sh, μ, la, n) = ((x = 0 ∨ x = 1) ∧ k (sh, tw_up μ m 88 x, la, n)) := by rw [A_pz, Mo_f0_88 h, true_and]
theorem MoG0_89 {sh : tw_Sh} {m n : Nat} {μ : Nat → Nat → Int32} {la : Nat → Nat → Int64} (h : tw_Mo sh m) (k : Nat → tw_Mem → Prop) : tw_gr 89 m k (sh, μ, la, n) = k (m + 9) (sh, μ, la, n) := by rw [A_gr, Mo_f0_89 h, Mo_r8_89 h, true_and]; simp only [Option.some.injEq, exists_eq_left']
theorem MoG0_90 {sh : tw_Sh} {m n : Nat} {μ : Nat → Nat → Int32} {la : Nat → Nat → Int64} (h : tw_Mo sh m) (k : Nat → tw_Mem → Prop) : tw_gr 90 m k (sh, μ, la, n) = k (m + 10) (sh, μ, la, n) := by rw [A_gr, Mo_f0_90 h, Mo_r9_90 h, true_and]; simp only [Option.some.injEq, exists_eq_left']
theorem MoG0_91 {sh : tw_Sh} {m n : Nat} {μ : Nat → Nat → Int32} {la : Nat → Nat → Int64} (h : tw_Mo sh m) (k : Nat → tw_Mem → Prop) : tw_gr 91 m k (sh, μ, la, n) = k (m + 11) (sh, μ, la, n) := by rw [A_gr, Mo_f0_91 h, Mo_r10_91 h, true_and]; simp only [Option.some.injEq, exists_eq_left']
theorem MoG0_92 {sh : tw_Sh} {m n : Nat} {μ : Nat → Nat → Int32} {la : Nat → Nat → Int64} (h : tw_Mo sh m) (k : Nat → tw_Mem → Prop) : tw_gr 92 m k (sh, μ, la, n) = k (m + 12) (sh, μ, la, n) := by rw [A_gr, Mo_f0_92 h, Mo_r11_92 h, true_and]; simp only [Option.some.injEq, exists_eq_left']
theorem MoL0 {sh : tw_Sh} {m n : Nat} {μ : Nat → Nat → Int32} {la : Nat → Nat → Int64} (h : tw_Mo sh m) {i : Nat} (hi : i < 2190) (k : Int32 → tw_Mem → Prop) : tw_li (m + 1) (nI i) k (sh, μ, la, n) = k (μ (m + 1) i) (sh, μ, la, n) := X_li (h.2.1) hi (by decide) k
theorem MoS0 {sh : tw_Sh} {m n : Nat} {μ : Nat → Nat → Int32} {la : Nat → Nat → Int64} (h : tw_Mo sh m) {i : Nat} (hi : i < 2190) (x : Int32) (k : tw_Mem → Prop) : tw_si (m + 1) (nI i) x k (sh, μ, la, n) = k (sh, tw_up μ (m + 1) i x, la, n) := X_si (h.2.1) hi (by decide) x k
theorem MoL1 {sh : tw_Sh} {m n : Nat} {μ : Nat → Nat → Int32} {la : Nat → Nat → Int64} (h : tw_Mo sh m) {i : Nat} (hi : i < 1341) (k : Int32 → tw_Mem → Prop) : tw_li (m + 2) (nI i) k (sh, μ, la, n) = k (μ (m + 2) i) (sh, μ, la, n) := X_li (h.2.2.1) hi (by decide) k
theorem MoS1 {sh : tw_Sh} {m n : Nat} {μ : Nat → Nat → Int32} {la : Nat → Nat → Int64} (h : tw_Mo sh m) {i : Nat} (hi : i < 1341) (x : Int32) (k : tw_Mem → Prop) : tw_si (m + 2) (nI i) x k (sh, μ, la, n) = k (sh, tw_up μ (m + 2) i x, la, n) := X_si (h.2.2.1) hi (by decide) x k
theorem MoL2 {sh : tw_Sh} {m n : Nat} {μ : Nat → Nat → Int32} {la : Nat → Nat → Int64} (h : tw_Mo sh m) {i : Nat} (hi : i < 1341) (k : Int32 → tw_Mem → Prop) : tw_li (m + 3) (nI i) k (sh, μ, la, n) = k (μ (m + 3) i) (sh, μ, la, n) := X_li (h.2.2.2.1) hi (by decide) k
theorem MoS2 {sh : tw_Sh} {m n : Nat} {μ : Nat → Nat → Int32} {la : Nat → Nat → Int64} (h : tw_Mo sh m) {i : Nat} (hi : i < 1341) (x : Int32) (k : tw_Mem → Prop) : tw_si (m + 3) (nI i) x k (sh, μ, la, n) = k (sh, tw_up μ (m + 3) i x, la, n) := X_si (h.2.2.2.1) hi (by decide) x k
theorem MoL3 {sh : tw_Sh} {m n : Nat} {μ : Nat → Nat → Int32} {la : Nat → Nat → Int64} (h : tw_Mo sh m) {i : Nat} (hi : i < 492) (k : Int32 → tw_Mem → Prop) : tw_li (m + 4) (nI i) k (sh, μ, la, n) = k (μ (m + 4) i) (sh, μ, la, n) := X_li (h.2.2.2.2.1) hi (by decide) k
theorem MoS3 {sh : tw_Sh} {m n : Nat} {μ : Nat → Nat → Int32} {la : Nat → Nat → Int64} (h : tw_Mo sh m) {i : Nat} (hi : i < 492) (x : Int32) (k : tw_Mem → Prop) : tw_si (m + 4) (nI i) x k (sh, μ, la, n) = k (sh, tw_up μ (m + 4) i x, la, n) := X_si (h.2.2.2.2.1) hi (by decide) x k
theorem MoL4 {sh : tw_Sh} {m n : Nat} {μ : Nat → Nat → Int32} {la : Nat → Nat → Int64} (h : tw_Mo sh m) {i : Nat} (hi : i < 5904) (k : Int32 → tw_Mem → Prop) : tw_li (m + 5) (nI i) k (sh, μ, la, n) = k (μ (m + 5) i) (sh, μ, la, n) := X_li (h.2.2.2.2.2.1) hi (by decide) k
theorem MoS4 {sh : tw_Sh} {m n : Nat} {μ : Nat → Nat → Int32} {la : Nat → Nat → Int64} (h : tw_Mo sh m) {i : Nat} (hi : i < 5904) (x : Int32) (k : tw_Mem → Prop) : tw_si (m + 5) (nI i) x k (sh, μ, la, n) = k (sh, tw_up μ (m + 5) i x, la, n) := X_si (h.2.2.2.2.2.1) hi (by decide) x k
theorem MoL5 {sh : tw_Sh} {m n : Nat} {μ : Nat → Nat → Int32} {la : Nat → Nat → Int64} (h : tw_Mo sh m) {i : Nat} (hi : i < 400) (k : Int32 → tw_Mem → Prop) : tw_lb (m + 6) (nI i) k (sh, μ, la, n) = k (μ (m + 6) i) (sh, μ, la, n) := X_lb (h.2.2.2.2.2.2.1) hi (by decide) k
theorem MoS5 {sh : tw_Sh} {m n : Nat} {μ : Nat → Nat → Int32} {la : Nat → Nat → Int64} (h : tw_Mo sh m) {i : Nat} (hi : i < 400) (x : Int32) (k : tw_Mem → Prop) : tw_sb (m + 6) (nI i) x k (sh, μ, la, n) = k (sh, tw_up μ (m + 6) i (vp_nar .byte x), la, n) := X_sb (h.2.2.2.2.2.2.1) hi (by decide) x k
theorem MoL6 {sh : tw_Sh} {m n : Nat} {μ : Nat → Nat → Int32} {la : Nat → Nat → Int64} (h : tw_Mo sh m) {i : Nat} (hi : i < 5) (k : Int32 → tw_Mem → Prop) : tw_li (m + 7) (nI i) k (sh, μ, la, n) = k (μ (m + 7) i) (sh, μ, la, n) := X_li (h.2.2.2.2.2.2.2.1) hi (by decide) k
theorem MoS6 {sh : tw_Sh} {m n : Nat} {μ : Nat → Nat → Int32} {la : Nat → Nat → Int64} (h : tw_Mo sh m) {i : Nat} (hi : i < 5) (x : Int32) (k : tw_Mem → Prop) : tw_si (m + 7) (nI i) x k (sh, μ, la, n) = k (sh, tw_up μ (m + 7) i x, la, n) := X_si (h.2.2.2.2.2.2.2.1) hi (by decide) x k
theorem MoL7 {sh : tw_Sh} {m n : Nat} {μ : Nat → Nat → Int32} {la : Nat → Nat → Int64} (h : tw_Mo sh m) {i : Nat} (hi : i < 400) (k : Int32 → tw_Mem → Prop) : tw_li (m + 8) (nI i) k (sh, μ, la, n) = k (μ (m + 8) i) (sh, μ, la, n) := X_li (h.2.2.2.2.2.2.2.2.1) hi (by decide) k
theorem MoS7 {sh : tw_Sh} {m n : Nat} {μ : Nat → Nat → Int32} {la : Nat → Nat → Int64} (h : tw_Mo sh m) {i : Nat} (hi : i < 400) (x : Int32) (k : tw_Mem → Prop) : tw_si (m + 8) (nI i) x k (sh, μ, la, n) = k (sh, tw_up μ (m + 8) i x, la, n) := X_si (h.2.2.2.2.2.2.2.2.1) hi (by decide) x k
theorem MoL8 {sh : tw_Sh} {m n : Nat} {μ : Nat → Nat → Int32} {la : Nat → Nat → Int64} (h : tw_Mo sh m) {i : Nat} (hi : i < 64) (k : Int32 → tw_Mem → Prop) : tw_li (m + 9) (nI i) k (sh, μ, la, n) = k (μ (m + 9) i) (sh, μ, la, n) := X_li (h.2.2.2.2.2.2.2.2.2.1) hi (by decide) k
theorem MoS8 {sh : tw_Sh} {m n : Nat} {μ : Nat → Nat → Int32} {la : Nat → Nat → Int64} (h : tw_Mo sh m) {i : Nat} (hi : i < 64) (x : Int32) (k : tw_Mem → Prop) : tw_si (m + 9) (nI i) x k (sh, μ, la, n) = k (sh, tw_up μ (m + 9) i x, la, n) := X_si (h.2.2.2.2.2.2.2.2.2.1) hi (by decide) x k
theorem MoL9 {sh : tw_Sh} {m n : Nat} {μ : Nat → Nat → Int32} {la : Nat → Nat → Int64} (h : tw_Mo sh m) {i : Nat} (hi : i < 256) (k : Int32 → tw_Mem → Prop) : tw_li (m + 10) (nI i) k (sh, μ, la, n) = k (μ (m + 10) i) (sh, μ, la, n) := X_li (h.2.2.2.2.2.2.2.2.2.2.1) hi (by decide) k
theorem MoS9 {sh : tw_Sh} {m n : Nat} {μ : Nat → Nat → Int32} {la : Nat → Nat → Int64} (h : tw_Mo sh m) {i : Nat} (hi : i < 256) (x : Int32) (k : tw_Mem → Prop) : tw_si (m + 10) (nI i) x k (sh, μ, la, n) = k (sh, tw_up μ (m + 10) i x, la, n) := X_si (h.2.2.2.2.2.2.2.2.2.2.1) hi (by decide) x k
theorem MoL10 {sh : tw_Sh} {m n : Nat} {μ : Nat → Nat → Int32} {la : Nat → Nat → Int64} (h : tw_Mo sh m) {i : Nat} (hi : i < 64) (k : Int32 → tw_Mem → Prop) : tw_li (m + 11) (nI i) k (sh, μ, la, n) = k (μ (m + 11) i) (sh, μ, la, n) := X_li (h.2.2.2.2.2.2.2.2.2.2.2.1) hi (by decide) k
theorem MoS10 {sh : tw_Sh} {m n : Nat} {μ : Nat → Nat → Int32} {la : Nat → Nat → Int64} (h : tw_Mo sh m) {i : Nat} (hi : i < 64) (x : Int32) (k : tw_Mem → Prop) : tw_si (m + 11) (nI i) x k (sh, μ, la, n) = k (sh, tw_up μ (m + 11) i x, la, n) := X_si (h.2.2.2.2.2.2.2.2.2.2.2.1) hi (by decide) x k
theorem MoL11 {sh : tw_Sh} {m n : Nat} {μ : Nat → Nat → Int32} {la : Nat → Nat → Int64} (h : tw_Mo sh m) {i : Nat} (hi : i < 4) (k : Int64 → tw_Mem → Prop) : tw_ll (m + 12) (nI i) k (sh, μ, la, n) = k (la (m + 12) i) (sh, μ, la, n) := X_ll (h.2.2.2.2.2.2.2.2.2.2.2.2.1) hi (by decide) k
theorem MoS11 {sh : tw_Sh} {m n : Nat} {μ : Nat → Nat → Int32} {la : Nat → Nat → Int64} (h : tw_Mo sh m) {i : Nat} (hi : i < 4) (x : Int64) (k : tw_Mem → Prop) : tw_sl (m + 12) (nI i) x k (sh, μ, la, n) = k (sh, μ, tw_upL la (m + 12) i x, n) := X_sl (h.2.2.2.2.2.2.2.2.2.2.2.2.1) hi (by decide) x k
theorem TwV0 {sh : tw_Sh} {w n : Nat} {μ : Nat → Nat → Int32} {la : Nat → Nat → Int64} (h : tw_Tw sh w) (F : tw_Mem → Prop) : tw_iv 9 w F (sh, μ, la, n) = F (sh, μ, la, n) := by rw [A_iv, Tw_is0 h, true_and]
theorem TwG0_54 {sh : tw_Sh} {w n : Nat} {μ : Nat → Nat → Int32} {la : Nat → Nat → Int64} (h : tw_Tw sh w) (k : Nat → tw_Mem → Prop) : tw_gr 54 w k (sh, μ, la, n) = k (w + 1) (sh, μ, la, n) := by rw [A_gr, Tw_f0_54 h, Tw_r0_54 h, true_and]; simp only [Option.some.injEq, exists_eq_left']
theorem TwI0_55 {sh : tw_Sh} {w n : Nat} {μ : Nat → Nat → Int32} {la : Nat → Nat → Int64} (h : tw_Tw sh w) (k : Int32 → tw_Mem → Prop) : tw_gi 55 w k (sh, μ, la, n) = k (μ w 55) (sh, μ, la, n) := by rw [A_gi, Tw_f0_55 h, true_and]
theorem TwP0_55 {sh : tw_Sh} {w n : Nat} {μ : Nat → Nat → Int32} {la : Nat → Nat → Int64} (h : tw_Tw sh w) (x : Int32) (k : tw_Mem → Prop) : tw_pi 55 w x k (sh, μ, la, n) = k (sh, tw_up μ w 55 x, la, n) := by rw [A_pi, Tw_f0_55 h, true_and]
theorem TwZ0_55 {sh : tw_Sh} {w n : Nat} {μ : Nat → Nat → Int32} {la : Nat → Nat → Int64} (h : tw_Tw sh w) (x : Int32) (k : tw_Mem → Prop) : tw_pz 55 w x k (sh, μ, la, n) = ((x = 0 ∨ x = 1) ∧ k (sh, tw_up μ w 55 x, la, n)) := by rw [A_pz, Tw_f0_55 h, true_and]
theorem TwL0 {sh : tw_Sh} {w n : Nat} {μ : Nat → Nat → Int32} {la : Nat → Nat → Int64} (h : tw_Tw sh w) {i : Nat} (hi : i < 11) (k : Int32 → tw_Mem → Prop) : tw_li (w + 1) (nI i) k (sh, μ, la, n) = k (μ (w + 1) i) (sh, μ, la, n) := X_li (h.2.1) hi (by decide) k
theorem TwS0 {sh : tw_Sh} {w n : Nat} {μ : Nat → Nat → Int32} {la : Nat → Nat → Int64} (h : tw_Tw sh w) {i : Nat} (hi : i < 11) (x : Int32) (k : tw_Mem → Prop) : tw_si (w + 1) (nI i) x k (sh, μ, la, n) = k (sh, tw_up μ (w + 1) i x, la, n) := X_si (h.2.1) hi (by decide) x k
theorem tw_ar4 {sh : tw_Sh} {a n : Nat} (h : tw_ar sh a 0 n) {i : Nat} (hi : i < n) (hn : n < 2147483648) : tw_ai sh [0, 4] a (nI i) = True := tw_ar_ai h (by decide) hi hn
theorem tw_ar0 {sh : tw_Sh} {a n : Nat} (h : tw_ar sh a 0 n) {i : Nat} (hi : i < n) (hn : n < 2147483648) : tw_ai sh [0] a (nI i) = True := tw_ar_ai h (by decide) hi hn
/-! ===== pure: loops by steps; the run of a condition ===== -/
theorem tw_lp_step {σ : Type} {b : (σ → tw_Mem → Prop) → σ → tw_Mem → Prop} {s s' : σ} {M M' : tw_Mem} (h : ∀ rec, b rec s M = rec s' M') : tw_lp b s M = tw_lp b s' M' := by
  unfold tw_lp
  apply propext; constructor
  · rintro ⟨n, hn⟩
    cases n with
    | zero => exact hn.elim
    | succ n => exact ⟨n, by simpa only [tw_whl, h] using hn⟩
  · rintro ⟨n, hn⟩
    exact ⟨n + 1, by simpa only [tw_whl, h] using hn⟩
theorem tw_lp_exit {σ : Type} {b : (σ → tw_Mem → Prop) → σ → tw_Mem → Prop} {s : σ} {M : tw_Mem} {R : Prop} (h : ∀ rec, b rec s M = R) : tw_lp b s M = R := by
  unfold tw_lp
  apply propext; constructor
  · rintro ⟨n, hn⟩
    cases n with
    | zero => exact hn.elim
    | succ n => simpa only [tw_whl, h] using hn
  · intro hr
    exact ⟨1, by simpa only [tw_whl, h] using hr⟩
/-- a loop over memories that are known by what holds of them alone -/
theorem tw_lp_ex {σ κ : Type} {b : κ → (σ → tw_Mem → Prop) → σ → tw_Mem → Prop} {G : κ → (Nat → Nat → Int32) → Prop} {sh : tw_Sh} {la : Nat → Nat → Int64} {n : Nat} {s0 : σ} {μ : Nat → Nat → Int32} (N : Nat) (S : Nat → σ) (I : Nat → (Nat → Nat → Int32) → Prop) {J : (Nat → Nat → Int32) → Prop} (h0 : S 0 = s0) (hI : I 0 μ) (hstep : ∀ i, i < N → ∀ μ, I i μ → ∃ μ', I (i + 1) μ' ∧ ∀ k rec, b k rec (S i) (sh, μ, la, n) = rec (S (i + 1)) (sh, μ', la, n)) (hexit : ∀ μ, I N μ → ∃ μ', J μ' ∧ ∀ k rec, b k rec (S N) (sh, μ, la, n) = G k μ') : ∃ μ', J μ' ∧ ∀ k, tw_lp (b k) s0 (sh, μ, la, n) = G k μ' := by
  subst h0
  have key : ∀ d i, i + d = N → ∀ μ, I i μ → ∃ μ', J μ' ∧ ∀ k, tw_lp (b k) (S i) (sh, μ, la, n) = G k μ' := by
    intro d
    induction d with
    | zero =>
      intro i hi μ hμ
      have : i = N := by omega
      subst this
      obtain ⟨μ', h1, h2⟩ := hexit μ hμ
      exact ⟨μ', h1, fun k => tw_lp_exit (h2 k)⟩
    | succ d ih =>
      intro i hi μ hμ
      obtain ⟨μ1, h1, h2⟩ := hstep i (by omega) μ hμ
      obtain ⟨μ', h3, h4⟩ := ih (i + 1) (by omega) μ1 h1
      exact ⟨μ', h3, fun k => (tw_lp_step (h2 k)).trans (h4 k)⟩
  exact key N 0 (by omega) μ hI
theorem tw_lp_ex2 {σ κ ρ : Type} {b : κ → ρ → (σ → tw_Mem → Prop) → σ → tw_Mem → Prop} {G : κ → ρ → (Nat → Nat → Int32) → Prop} {sh : tw_Sh} {la : Nat → Nat → Int64} {n : Nat} {s0 : σ} {μ : Nat → Nat → Int32} (N : Nat) (S : Nat → σ) (I : Nat → (Nat → Nat → Int32) → Prop) {J : (Nat → Nat → Int32) → Prop} (h0 : S 0 = s0) (hI : I 0 μ) (hstep : ∀ i, i < N → ∀ μ, I i μ → ∃ μ', I (i + 1) μ' ∧ ∀ k r rec, b k r rec (S i) (sh, μ, la, n) = rec (S (i + 1)) (sh, μ', la, n)) (hexit : ∀ μ, I N μ → ∃ μ', J μ' ∧ ∀ k r rec, b k r rec (S N) (sh, μ, la, n) = G k r μ') : ∃ μ', J μ' ∧ ∀ k r, tw_lp (b k r) s0 (sh, μ, la, n) = G k r μ' := by
  obtain ⟨μ', h1, h2⟩ := tw_lp_ex (κ := κ × ρ) (b := fun c => b c.1 c.2) (G := fun c => G c.1 c.2) N S I (J := J) h0 hI (fun i hi μ hμ => by obtain ⟨μ', a, b⟩ := hstep i hi μ hμ; exact ⟨μ', a, fun k rec => b k.1 k.2 rec⟩) (fun μ hμ => by obtain ⟨μ', a, b⟩ := hexit μ hμ; exact ⟨μ', a, fun k rec => b k.1 k.2 rec⟩)
  exact ⟨μ', h1, fun k r => h2 (k, r)⟩
/-- an array put whole -/
def tw_ra (f : Nat → Nat → Int32) (x : Nat) (s : Nat → Int32) : Nat → Nat → Int32 := fun b j => if b = x then s j else f b j
theorem tw_ra_n {f : Nat → Nat → Int32} {x y : Nat} {s : Nat → Int32} (h : y < x ∨ x < y) : tw_ra f x s y = f y := by
  funext j
  exact if_neg (by omega)
theorem tw_ra_a {f : Nat → Nat → Int32} {x : Nat} {s : Nat → Int32} : tw_ra f x s x = s := by
  funext j
  exact if_pos rfl
theorem tw_ra_aj {f : Nat → Nat → Int32} {x j : Nat} {s : Nat → Int32} : tw_ra f x s x j = s j := if_pos rfl
theorem tw_ra_nj {f : Nat → Nat → Int32} {x y j : Nat} {s : Nat → Int32} (h : y < x ∨ x < y) : tw_ra f x s y j = f y j := if_neg (by omega)
theorem tw_up_ra {f : Nat → Nat → Int32} {x j : Nat} {s : Nat → Int32} {v : Int32} : tw_up (tw_ra f x s) x j v = tw_ra f x (tw_u1 s j v) := by
  funext b q
  simp only [tw_up, tw_ra, tw_u1]
  split <;> rfl
theorem tw_ra_s {f : Nat → Nat → Int32} {x : Nat} : tw_ra f x (f x) = f := by
  funext b j
  simp only [tw_ra]
  split
  · rename_i h; rw [h]
  · rfl
theorem tw_up_as {f : Nat → Nat → Int32} {x j : Nat} {v : Int32} : tw_up f x j v = tw_ra f x (tw_u1 (f x) j v) := by
  rw [← tw_up_ra, tw_ra_s]
theorem tw_ra_ra {f : Nat → Nat → Int32} {x : Nat} {s t : Nat → Int32} : tw_ra (tw_ra f x s) x t = tw_ra f x t := by
  funext b j
  simp only [tw_ra]
  split <;> rfl
/-- what a step of a condition tells of one and another one -/
def tw_fc (T : Nat → Int32) (rg : Int32) (p o q : Nat) : Int32 := if q = 0 then nI p else if q = 1 then nI o else if q = 2 then T (32 + 20 * p + (4 + o)) else if q = 3 then T (32 + 20 * o + (4 + p)) else if q = 4 then T (32 + 20 * p + (12 + o)) else if q = 5 then T 3 else if q = 6 then T 4 else if q = 7 then T (32 + 20 * p + 3) else if q = 8 then (if T (32 + 20 * p) = T (32 + 20 * o) then nI 1 else nI 0) else rg
def tw_jo (c : Nat) (a b : Int32) : Int32 := if c = 11 then a + b else if c = 12 then (if a < b then nI 1 else nI 0) else if c = 13 then (if b < a then nI 1 else nI 0) else if c = 15 then (if a + b = nI 2 then nI 1 else nI 0) else (if nI 0 < a + b then nI 1 else nI 0)
def tw_sp (F : Nat → Int32) (c : Nat × Nat) (x : Nat × (Nat → Int32)) : Nat × (Nat → Int32) := if c.1 < 10 then (x.1 + 1, tw_u1 x.2 x.1 (F c.1)) else if c.1 = 10 then (x.1 + 1, tw_u1 x.2 x.1 (nI c.2)) else if c.1 = 14 then (x.1, tw_u1 x.2 (x.1 - 1) (nI 1 - x.2 (x.1 - 1))) else (x.1 - 1, tw_u1 x.2 (x.1 - 2) (tw_jo c.1 (x.2 (x.1 - 2)) (x.2 (x.1 - 1))))
def tw_rw (F : Nat → Int32) (C : Nat → Nat × Nat) (i : Nat) : Nat → Nat × (Nat → Int32) → Nat × (Nat → Int32)
  | 0, x => x
  | k + 1, x => tw_sp F (C (i + k)) (tw_rw F C i k x)
theorem tw_rw_s (F : Nat → Int32) (C : Nat → Nat × Nat) (i k : Nat) (x : Nat × (Nat → Int32)) : tw_rw F C i (k + 1) x = tw_sp F (C (i + k)) (tw_rw F C i k x) := rfl
theorem tw_rw_add (F : Nat → Int32) (C : Nat → Nat × Nat) (i k : Nat) (x : Nat × (Nat → Int32)) : ∀ l, tw_rw F C i (k + l) x = tw_rw F C (i + k) l (tw_rw F C i k x)
  | 0 => rfl
  | l + 1 => by
    show tw_sp F (C (i + (k + l))) (tw_rw F C i (k + l) x) = tw_sp F (C (i + k + l)) (tw_rw F C (i + k) l (tw_rw F C i k x))
    rw [tw_rw_add F C i k x l, Nat.add_assoc]
theorem tw_rw_congr {F : Nat → Int32} {C C' : Nat → Nat × Nat} {i : Nat} (x : Nat × (Nat → Int32)) : ∀ k, (∀ q, i ≤ q → q < i + k → C q = C' q) → tw_rw F C i k x = tw_rw F C' i k x
  | 0, _ => rfl
  | k + 1, h => by
    show tw_sp F (C (i + k)) (tw_rw F C i k x) = tw_sp F (C' (i + k)) (tw_rw F C' i k x)
    rw [tw_rw_congr x k (fun q h1 h2 => h q h1 (by omega)), h (i + k) (by omega) (by omega)]
def tw_tf (x : Int32) : Prop := x = nI 0 ∨ x = nI 1
def tw_ok1 (c : Nat × Nat) (x : Nat × (Nat → Int32)) : Prop := (c.1 ≤ 10 → x.1 < 20) ∧ (c.1 = 14 → 0 < x.1 ∧ x.1 ≤ 20) ∧ (10 < c.1 → c.1 ≠ 14 → 1 < x.1 ∧ x.1 ≤ 20 ∧ (c.1 = 15 ∨ c.1 = 16 → tw_tf (x.2 (x.1 - 2)) ∧ tw_tf (x.2 (x.1 - 1))))
def tw_di (F : Nat → Int32) (C : Nat → Nat × Nat) (i k : Nat) (x : Nat × (Nat → Int32)) : Prop := ∀ j, j < k → tw_ok1 (C (i + j)) (tw_rw F C i j x)
theorem tw_di_add {F : Nat → Int32} {C : Nat → Nat × Nat} {i k l : Nat} {x : Nat × (Nat → Int32)} (h1 : tw_di F C i k x) (h2 : tw_di F C (i + k) l (tw_rw F C i k x)) : tw_di F C i (k + l) x := by
  intro j hj
  rcases Nat.lt_or_ge j k with q | q
  · exact h1 j q
  · obtain ⟨r, rfl⟩ : ∃ r, j = k + r := ⟨j - k, by omega⟩
    rw [tw_rw_add, ← Nat.add_assoc]
    exact h2 r (by omega)
/-- k steps from i on put one value, a truth where b, with D places at most -/
def tw_sg (F : Nat → Int32) (C : Nat → Nat × Nat) (i k : Nat) (b : Bool) (D : Nat) : Prop := ∃ v, (b = true → tw_tf v) ∧ ∀ t s, t + D ≤ 20 → tw_di F C i k (t, s) ∧ (tw_rw F C i k (t, s)).1 = t + 1 ∧ (tw_rw F C i k (t, s)).2 t = v ∧ ∀ q, q < t → (tw_rw F C i k (t, s)).2 q = s q
def tw_sA (C : Nat → Nat × Nat) (i k : Nat) (b : Bool) (D : Nat) : Prop := ∀ F : Nat → Int32, tw_tf (F 7) → tw_tf (F 8) → tw_tf (F 9) → tw_sg F C i k b D
theorem tw_sA_congr {C C' : Nat → Nat × Nat} {i k D : Nat} {b : Bool} (h : ∀ q, i ≤ q → q < i + k → C q = C' q) (hs : tw_sA C i k b D) : tw_sA C' i k b D := by
  intro F f7 f8 f9
  obtain ⟨v, hv, hr⟩ := hs F f7 f8 f9
  refine ⟨v, hv, fun t s hD => ?_⟩
  obtain ⟨h1, h2, h3, h4⟩ := hr t s hD
  have e : ∀ j, j ≤ k → tw_rw F C i j (t, s) = tw_rw F C' i j (t, s) := fun j hj => tw_rw_congr _ j (fun q a b => h q a (by omega))
  rw [← e k (Nat.le_refl k)]
  refine ⟨fun j hj => ?_, h2, h3, h4⟩
  rw [← e j (by omega), ← h (i + j) (by omega) (by omega)]
  exact h1 j hj
theorem tw_sA_mono {C : Nat → Nat × Nat} {i k D D' : Nat} {b : Bool} (hs : tw_sA C i k b D) (hD : D ≤ D') : tw_sA C i k b D' := by
  intro F f7 f8 f9
  obtain ⟨v, hv, hr⟩ := hs F f7 f8 f9
  exact ⟨v, hv, fun t s h => hr t s (by omega)⟩
theorem tw_sA_leaf {C : Nat → Nat × Nat} {i : Nat} {b : Bool} (h1 : (C i).1 ≤ 10) (h2 : b = true → (C i).1 = 7 ∨ (C i).1 = 8 ∨ (C i).1 = 9) : tw_sA C i 1 b 1 := by
  intro F f7 f8 f9
  refine ⟨if (C i).1 < 10 then F (C i).1 else nI (C i).2, ?_, ?_⟩
  · intro hb
    rcases h2 hb with e | e | e <;> rw [e] <;> assumption
  · intro t s hD
    have e : tw_rw F C i 1 (t, s) = (t + 1, tw_u1 s t (if (C i).1 < 10 then F (C i).1 else nI (C i).2)) := by
      show tw_sp F (C (i + 0)) (t, s) = _
      unfold tw_sp
      rw [Nat.add_zero]
      by_cases q : (C i).1 < 10
      · rw [if_pos q, if_pos q]
      · have q2 : (C i).1 = 10 := by omega
        rw [if_neg q, if_pos q2, if_neg q]
    rw [e]
    refine ⟨?_, rfl, tw_u1a, fun q hq => tw_u1n (by omega)⟩
    intro j hj
    obtain rfl : j = 0 := by omega
    exact ⟨fun _ => by show t < 20; omega, fun h => by rw [Nat.add_zero] at h; omega, fun h => by rw [Nat.add_zero] at h; omega⟩
theorem tw_sA_not {C : Nat → Nat × Nat} {i k D : Nat} (hs : tw_sA C i k true D) (hc : (C (i + k)).1 = 14) (hD : 0 < D) : tw_sA C i (k + 1) true D := by
  intro F f7 f8 f9
  obtain ⟨v, hv, hr⟩ := hs F f7 f8 f9
  refine ⟨nI 1 - v, fun _ => ?_, fun t s h => ?_⟩
  · rcases hv rfl with rfl | rfl
    · exact Or.inr rfl
    · exact Or.inl rfl
  · obtain ⟨h1, h2, h3, h4⟩ := hr t s h
    have e : tw_rw F C i (k + 1) (t, s) = (t + 1, tw_u1 (tw_rw F C i k (t, s)).2 t (nI 1 - v)) := by
      rw [tw_rw_s]
      unfold tw_sp
      rw [hc, if_neg (by decide), if_neg (by decide), if_pos rfl, h2, Nat.add_sub_cancel, h3]
    refine ⟨?_, by rw [e], by rw [e]; exact tw_u1a, fun q hq => by rw [e]; exact (tw_u1n (by omega)).trans (h4 q hq)⟩
    intro j hj
    rcases Nat.lt_or_ge j k with q | q
    · exact h1 j q
    · obtain rfl : j = k := by omega
      refine ⟨fun g => by omega, fun _ => by rw [h2]; omega, fun _ g => absurd hc g⟩
theorem tw_jo_tf {c : Nat} {a b : Int32} (h : c = 12 ∨ c = 13 ∨ c = 15 ∨ c = 16) : tw_tf (tw_jo c a b) := by
  unfold tw_jo tw_tf
  rcases h with rfl | rfl | rfl | rfl <;> simp only [Nat.reduceEqDiff, if_true, if_false] <;> split <;> first | exact Or.inl rfl | exact Or.inr rfl
theorem tw_sA_bin {C : Nat → Nat × Nat} {i k l D D' : Nat} {b b2 : Bool} (hs : tw_sA C i k b D) (hs2 : tw_sA C (i + k) l b D') (h11 : 11 ≤ (C (i + k + l)).1) (h16 : (C (i + k + l)).1 ≤ 16) (h14 : (C (i + k + l)).1 ≠ 14) (hb : 15 ≤ (C (i + k + l)).1 → b = true) (hb2 : b2 = true → 12 ≤ (C (i + k + l)).1) (hD' : 0 < D') : tw_sA C i (k + l + 1) b2 (max D (D' + 1)) := by
  intro F f7 f8 f9
  obtain ⟨v, hv, hr⟩ := hs F f7 f8 f9
  obtain ⟨w, hw, hr2⟩ := hs2 F f7 f8 f9
  refine ⟨tw_jo (C (i + k + l)).1 v w, fun g => tw_jo_tf (by have := hb2 g; omega), fun t s h => ?_⟩
  obtain ⟨h1, h2, h3, h4⟩ := hr t s (by omega)
  obtain ⟨g1, g2, g3, g4⟩ := hr2 (t + 1) (tw_rw F C i k (t, s)).2 (by omega)
  have e0 : tw_rw F C i k (t, s) = (t + 1, (tw_rw F C i k (t, s)).2) := by rw [← h2]
  have e1 : tw_rw F C i (k + l) (t, s) = tw_rw F C (i + k) l (t + 1, (tw_rw F C i k (t, s)).2) := by rw [tw_rw_add, ← e0]
  have x2 : (tw_rw F C i (k + l) (t, s)).1 = t + 2 := by rw [e1]; exact g2
  have x3 : (tw_rw F C i (k + l) (t, s)).2 (t + 1) = w := by rw [e1]; exact g3
  have x4 : (tw_rw F C i (k + l) (t, s)).2 t = v := by rw [e1, g4 t (by omega)]; exact h3
  have hc : C (i + (k + l)) = C (i + k + l) := by rw [Nat.add_assoc]
  have e : tw_rw F C i (k + l + 1) (t, s) = (t + 1, tw_u1 (tw_rw F C i (k + l) (t, s)).2 t (tw_jo (C (i + k + l)).1 v w)) := by
    rw [tw_rw_s]
    unfold tw_sp
    rw [hc, if_neg (by omega), if_neg (by omega), if_neg h14, x2]
    show (t + 1, tw_u1 _ t (tw_jo _ ((tw_rw F C i (k + l) (t, s)).2 t) ((tw_rw F C i (k + l) (t, s)).2 (t + 1)))) = _
    rw [x3, x4]
  refine ⟨?_, by rw [e], by rw [e]; exact tw_u1a, fun q hq => ?_⟩
  · intro j hj
    rcases Nat.lt_or_ge j (k + l) with q | q
    · refine tw_di_add h1 ?_ j q
      rw [e0]; exact g1
    · obtain rfl : j = k + l := by omega
      rw [hc]
      refine ⟨fun g => by omega, fun g => absurd g h14, fun _ _ => ⟨by rw [x2]; omega, by rw [x2]; omega, fun g => ?_⟩⟩
      have := hb (by omega)
      rw [x2]
      show tw_tf ((tw_rw F C i (k + l) (t, s)).2 t) ∧ tw_tf ((tw_rw F C i (k + l) (t, s)).2 (t + 1))
      rw [x3, x4]
      exact ⟨hv this, hw this⟩
  · rw [e]
    refine (tw_u1n (by omega)).trans ?_
    rw [e1, g4 q (by omega)]
    exact h4 q hq
