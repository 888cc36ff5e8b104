/-! ===== pure: what holds between two calls ===== -/
def tw_Cx (sh : tw_Sh) (b : Nat) : Prop := tw_is sh b 10 ∧ tw_rr sh b 56 = some (b + 1) ∧ tw_rr sh b 57 = some (b + 3) ∧ tw_rr sh b 58 = some (b + 12) ∧ tw_rr sh b 59 = some (b + 21) ∧ tw_rr sh b 60 = some (b + 30) ∧ tw_rr sh b 61 = some (b + 140) ∧ tw_rr sh b 62 = some (b + 144) ∧ tw_rr sh b 63 = some (b + 152) ∧ tw_rr sh b 64 = some (b + 154) ∧ tw_rr sh b 65 = some (b + 157)
theorem Cx_is0 {sh : tw_Sh} {b : Nat} (h : tw_Cx sh b) : tw_is sh b 10 = True := tw_is_T (h.1)
theorem Cx_f0_56 {sh : tw_Sh} {b : Nat} (h : tw_Cx sh b) : tw_fo sh b 56 true = True := tw_is_fo (h.1) rfl rfl
theorem Cx_f0_57 {sh : tw_Sh} {b : Nat} (h : tw_Cx sh b) : tw_fo sh b 57 true = True := tw_is_fo (h.1) rfl rfl
theorem Cx_f0_58 {sh : tw_Sh} {b : Nat} (h : tw_Cx sh b) : tw_fo sh b 58 true = True := tw_is_fo (h.1) rfl rfl
theorem Cx_f0_59 {sh : tw_Sh} {b : Nat} (h : tw_Cx sh b) : tw_fo sh b 59 true = True := tw_is_fo (h.1) rfl rfl
theorem Cx_f0_60 {sh : tw_Sh} {b : Nat} (h : tw_Cx sh b) : tw_fo sh b 60 true = True := tw_is_fo (h.1) rfl rfl
theorem Cx_f0_61 {sh : tw_Sh} {b : Nat} (h : tw_Cx sh b) : tw_fo sh b 61 true = True := tw_is_fo (h.1) rfl rfl
theorem Cx_f0_62 {sh : tw_Sh} {b : Nat} (h : tw_Cx sh b) : tw_fo sh b 62 true = True := tw_is_fo (h.1) rfl rfl
theorem Cx_f0_63 {sh : tw_Sh} {b : Nat} (h : tw_Cx sh b) : tw_fo sh b 63 true = True := tw_is_fo (h.1) rfl rfl
theorem Cx_f0_64 {sh : tw_Sh} {b : Nat} (h : tw_Cx sh b) : tw_fo sh b 64 true = True := tw_is_fo (h.1) rfl rfl
theorem Cx_f0_65 {sh : tw_Sh} {b : Nat} (h : tw_Cx sh b) : tw_fo sh b 65 true = True := tw_is_fo (h.1) rfl rfl
theorem Cx_f0_66 {sh : tw_Sh} {b : Nat} (h : tw_Cx sh b) : tw_fo sh b 66 true = True := tw_is_fo (h.1) rfl rfl
theorem Cx_f0_67 {sh : tw_Sh} {b : Nat} (h : tw_Cx sh b) : tw_fo sh b 67 true = True := tw_is_fo (h.1) rfl rfl
theorem Cx_f0_68 {sh : tw_Sh} {b : Nat} (h : tw_Cx sh b) : tw_fo sh b 68 false = True := tw_is_fo (h.1) rfl rfl
theorem Cx_f0_69 {sh : tw_Sh} {b : Nat} (h : tw_Cx sh b) : tw_fo sh b 69 false = True := tw_is_fo (h.1) rfl rfl
theorem Cx_r0_56 {sh : tw_Sh} {b : Nat} (h : tw_Cx sh b) : tw_rr sh b 56 = some (b + 1) := (h.2.1)
theorem Cx_r1_57 {sh : tw_Sh} {b : Nat} (h : tw_Cx sh b) : tw_rr sh b 57 = some (b + 3) := (h.2.2.1)
theorem Cx_r2_58 {sh : tw_Sh} {b : Nat} (h : tw_Cx sh b) : tw_rr sh b 58 = some (b + 12) := (h.2.2.2.1)
theorem Cx_r3_59 {sh : tw_Sh} {b : Nat} (h : tw_Cx sh b) : tw_rr sh b 59 = some (b + 21) := (h.2.2.2.2.1)
theorem Cx_r4_60 {sh : tw_Sh} {b : Nat} (h : tw_Cx sh b) : tw_rr sh b 60 = some (b + 30) := (h.2.2.2.2.2.1)
theorem Cx_r5_61 {sh : tw_Sh} {b : Nat} (h : tw_Cx sh b) : tw_rr sh b 61 = some (b + 140) := (h.2.2.2.2.2.2.1)
theorem Cx_r6_62 {sh : tw_Sh} {b : Nat} (h : tw_Cx sh b) : tw_rr sh b 62 = some (b + 144) := (h.2.2.2.2.2.2.2.1)
theorem Cx_r7_63 {sh : tw_Sh} {b : Nat} (h : tw_Cx sh b) : tw_rr sh b 63 = some (b + 152) := (h.2.2.2.2.2.2.2.2.1)
theorem Cx_r8_64 {sh : tw_Sh} {b : Nat} (h : tw_Cx sh b) : tw_rr sh b 64 = some (b + 154) := (h.2.2.2.2.2.2.2.2.2.1)
theorem Cx_r9_65 {sh : tw_Sh} {b : Nat} (h : tw_Cx sh b) : tw_rr sh b 65 = some (b + 157) := (h.2.2.2.2.2.2.2.2.2.2)
theorem CxV0 {sh : tw_Sh} {b n : Nat} {μ : Nat → Nat → Int32} {la : Nat → Nat → Int64} (h : tw_Cx sh b) (F : tw_Mem → Prop) : tw_iv 10 b F (sh, μ, la, n) = F (sh, μ, la, n) := by rw [A_iv, Cx_is0 h, true_and]
theorem CxG0_56 {sh : tw_Sh} {b n : Nat} {μ : Nat → Nat → Int32} {la : Nat → Nat → Int64} (h : tw_Cx sh b) (k : Nat → tw_Mem → Prop) : tw_gr 56 b k (sh, μ, la, n) = k (b + 1) (sh, μ, la, n) := by rw [A_gr, Cx_f0_56 h, Cx_r0_56 h, true_and]; simp only [Option.some.injEq, exists_eq_left']
theorem CxG0_57 {sh : tw_Sh} {b n : Nat} {μ : Nat → Nat → Int32} {la : Nat → Nat → Int64} (h : tw_Cx sh b) (k : Nat → tw_Mem → Prop) : tw_gr 57 b k (sh, μ, la, n) = k (b + 3) (sh, μ, la, n) := by rw [A_gr, Cx_f0_57 h, Cx_r1_57 h, true_and]; simp only [Option.some.injEq, exists_eq_left']
theorem CxG0_58 {sh : tw_Sh} {b n : Nat} {μ : Nat → Nat → Int32} {la : Nat → Nat → Int64} (h : tw_Cx sh b) (k : Nat → tw_Mem → Prop) : tw_gr 58 b k (sh, μ, la, n) = k (b + 12) (sh, μ, la, n) := by rw [A_gr, Cx_f0_58 h, Cx_r2_58 h, true_and]; simp only [Option.some.injEq, exists_eq_left']
theorem CxG0_59 {sh : tw_Sh} {b n : Nat} {μ : Nat → Nat → Int32} {la : Nat → Nat → Int64} (h : tw_Cx sh b) (k : Nat → tw_Mem → Prop) : tw_gr 59 b k (sh, μ, la, n) = k (b + 21) (sh, μ, la, n) := by rw [A_gr, Cx_f0_59 h, Cx_r3_59 h, true_and]; simp only [Option.some.injEq, exists_eq_left']
theorem CxG0_60 {sh : tw_Sh} {b n : Nat} {μ : Nat → Nat → Int32} {la : Nat → Nat → Int64} (h : tw_Cx sh b) (k : Nat → tw_Mem → Prop) : tw_gr 60 b k (sh, μ, la, n) = k (b + 30) (sh, μ, la, n) := by rw [A_gr, Cx_f0_60 h, Cx_r4_60 h, true_and]; simp only [Option.some.injEq, exists_eq_left']
theorem CxG0_61 {sh : tw_Sh} {b n : Nat} {μ : Nat → Nat → Int32} {la : Nat → Nat → Int64} (h : tw_Cx sh b) (k : Nat → tw_Mem → Prop) : tw_gr 61 b k (sh, μ, la, n) = k (b + 140) (sh, μ, la, n) := by rw [A_gr, Cx_f0_61 h, Cx_r5_61 h, true_and]; simp only [Option.some.injEq, exists_eq_left']
theorem CxG0_62 {sh : tw_Sh} {b n : Nat} {μ : Nat → Nat → Int32} {la : Nat → Nat → Int64} (h : tw_Cx sh b) (k : Nat → tw_Mem → Prop) : tw_gr 62 b k (sh, μ, la, n) = k (b + 144) (sh, μ, la, n) := by rw [A_gr, Cx_f0_62 h, Cx_r6_62 h, true_and]; simp only [Option.some.injEq, exists_eq_left']
theorem CxG0_63 {sh : tw_Sh} {b n : Nat} {μ : Nat → Nat → Int32} {la : Nat → Nat → Int64} (h : tw_Cx sh b) (k : Nat → tw_Mem → Prop) : tw_gr 63 b k (sh, μ, la, n) = k (b + 152) (sh, μ, la, n) := by rw [A_gr, Cx_f0_63 h, Cx_r7_63 h, true_and]; simp only [Option.some.injEq, exists_eq_left']
theorem CxG0_64 {sh : tw_Sh} {b n : Nat} {μ : Nat → Nat → Int32} {la : Nat → Nat → Int64} (h : tw_Cx sh b) (k : Nat → tw_Mem → Prop) : tw_gr 64 b k (sh, μ, la, n) = k (b + 154) (sh, μ, la, n) := by rw [A_gr, Cx_f0_64 h, Cx_r8_64 h, true_and]; simp only [Option.some.injEq, exists_eq_left']
theorem CxG0_65 {sh : tw_Sh} {b n : Nat} {μ : Nat → Nat → Int32} {la : Nat → Nat → Int64} (h : tw_Cx sh b) (k : Nat → tw_Mem → Prop) : tw_gr 65 b k (sh, μ, la, n) = k (b + 157) (sh, μ, la, n) := by rw [A_gr, Cx_f0_65 h, Cx_r9_65 h, true_and]; simp only [Option.some.injEq, exists_eq_left']
theorem CxI0_68 {sh : tw_Sh} {b n : Nat} {μ : Nat → Nat → Int32} {la : Nat → Nat → Int64} (h : tw_Cx sh b) (k : Int32 → tw_Mem → Prop) : tw_gi 68 b k (sh, μ, la, n) = k (μ b 68) (sh, μ, la, n) := by rw [A_gi, Cx_f0_68 h, true_and]
theorem CxP0_68 {sh : tw_Sh} {b n : Nat} {μ : Nat → Nat → Int32} {la : Nat → Nat → Int64} (h : tw_Cx sh b) (x : Int32) (k : tw_Mem → Prop) : tw_pi 68 b x k (sh, μ, la, n) = k (sh, tw_up μ b 68 x, la, n) := by rw [A_pi, Cx_f0_68 h, true_and]
theorem CxZ0_68 {sh : tw_Sh} {b n : Nat} {μ : Nat → Nat → Int32} {la : Nat → Nat → Int64} (h : tw_Cx sh b) (x : Int32) (k : tw_Mem → Prop) : tw_pz 68 b x k (sh, μ, la, n) = ((x = 0 ∨ x = 1) ∧ k (sh, tw_up μ b 68 x, la, n)) := by rw [A_pz, Cx_f0_68 h, true_and]
theorem CxI0_69 {sh : tw_Sh} {b n : Nat} {μ : Nat → Nat → Int32} {la : Nat → Nat → Int64} (h : tw_Cx sh b) (k : Int32 → tw_Mem → Prop) : tw_gi 69 b k (sh, μ, la, n) = k (μ b 69) (sh, μ, la, n) := by rw [A_gi, Cx_f0_69 h, true_and]
theorem CxP0_69 {sh : tw_Sh} {b n : Nat} {μ : Nat → Nat → Int32} {la : Nat → Nat → Int64} (h : tw_Cx sh b) (x : Int32) (k : tw_Mem → Prop) : tw_pi 69 b x k (sh, μ, la, n) = k (sh, tw_up μ b 69 x, la, n) := by rw [A_pi, Cx_f0_69 h, true_and]
theorem CxZ0_69 {sh : tw_Sh} {b n : Nat} {μ : Nat → Nat → Int32} {la : Nat → Nat → Int64} (h : tw_Cx sh b) (x : Int32) (k : tw_Mem → Prop) : tw_pz 69 b x k (sh, μ, la, n) = ((x = 0 ∨ x = 1) ∧ k (sh, tw_up μ b 69 x, la, n)) := by rw [A_pz, Cx_f0_69 h, true_and]
def tw_Me (sh : tw_Sh) (b : Nat) : Prop := tw_is sh (b + 30) 3 ∧ tw_rr sh (b + 30) 22 = some (b + 31)
theorem Me_is0 {sh : tw_Sh} {b : Nat} (h : tw_Me sh b) : tw_is sh (b + 30) 3 = True := tw_is_T (h.1)
theorem Me_f0_22 {sh : tw_Sh} {b : Nat} (h : tw_Me sh b) : tw_fo sh (b + 30) 22 true = True := tw_is_fo (h.1) rfl rfl
theorem Me_f0_23 {sh : tw_Sh} {b : Nat} (h : tw_Me sh b) : tw_fo sh (b + 30) 23 false = True := tw_is_fo (h.1) rfl rfl
theorem Me_f0_24 {sh : tw_Sh} {b : Nat} (h : tw_Me sh b) : tw_fo sh (b + 30) 24 false = True := tw_is_fo (h.1) rfl rfl
theorem Me_r0_22 {sh : tw_Sh} {b : Nat} (h : tw_Me sh b) : tw_rr sh (b + 30) 22 = some (b + 31) := (h.2)
theorem MeV0 {sh : tw_Sh} {b n : Nat} {μ : Nat → Nat → Int32} {la : Nat → Nat → Int64} (h : tw_Me sh b) (F : tw_Mem → Prop) : tw_iv 3 (b + 30) F (sh, μ, la, n) = F (sh, μ, la, n) := by rw [A_iv, Me_is0 h, true_and]
theorem MeG0_22 {sh : tw_Sh} {b n : Nat} {μ : Nat → Nat → Int32} {la : Nat → Nat → Int64} (h : tw_Me sh b) (k : Nat → tw_Mem → Prop) : tw_gr 22 (b + 30) k (sh, μ, la, n) = k (b + 31) (sh, μ, la, n) := by rw [A_gr, Me_f0_22 h, Me_r0_22 h, true_and]; simp only [Option.some.injEq, exists_eq_left']
theorem MeI0_23 {sh : tw_Sh} {b n : Nat} {μ : Nat → Nat → Int32} {la : Nat → Nat → Int64} (h : tw_Me sh b) (k : Int32 → tw_Mem → Prop) : tw_gi 23 (b + 30) k (sh, μ, la, n) = k (μ (b + 30) 23) (sh, μ, la, n) := by rw [A_gi, Me_f0_23 h, true_and]
theorem MeP0_23 {sh : tw_Sh} {b n : Nat} {μ : Nat → Nat → Int32} {la : Nat → Nat → Int64} (h : tw_Me sh b) (x : Int32) (k : tw_Mem → Prop) : tw_pi 23 (b + 30) x k (sh, μ, la, n) = k (sh, tw_up μ (b + 30) 23 x, la, n) := by rw [A_pi, Me_f0_23 h, true_and]
theorem MeZ0_23 {sh : tw_Sh} {b n : Nat} {μ : Nat → Nat → Int32} {la : Nat → Nat → Int64} (h : tw_Me sh b) (x : Int32) (k : tw_Mem → Prop) : tw_pz 23 (b + 30) x k (sh, μ, la, n) = ((x = 0 ∨ x = 1) ∧ k (sh, tw_up μ (b + 30) 23 x, la, n)) := by rw [A_pz, Me_f0_23 h, true_and]
theorem MeI0_24 {sh : tw_Sh} {b n : Nat} {μ : Nat → Nat → Int32} {la : Nat → Nat → Int64} (h : tw_Me sh b) (k : Int32 → tw_Mem → Prop) : tw_gi 24 (b + 30) k (sh, μ, la, n) = k (μ (b + 30) 24) (sh, μ, la, n) := by rw [A_gi, Me_f0_24 h, true_and]
theorem MeP0_24 {sh : tw_Sh} {b n : Nat} {μ : Nat → Nat → Int32} {la : Nat → Nat → Int64} (h : tw_Me sh b) (x : Int32) (k : tw_Mem → Prop) : tw_pi 24 (b + 30) x k (sh, μ, la, n) = k (sh, tw_up μ (b + 30) 24 x, la, n) := by rw [A_pi, Me_f0_24 h, true_and]
theorem MeZ0_24 {sh : tw_Sh} {b n : Nat} {μ : Nat → Nat → Int32} {la : Nat → Nat → Int64} (h : tw_Me sh b) (x : Int32) (k : tw_Mem → Prop) : tw_pz 24 (b + 30) x k (sh, μ, la, n) = ((x = 0 ∨ x = 1) ∧ k (sh, tw_up μ (b + 30) 24 x, la, n)) := by rw [A_pz, Me_f0_24 h, true_and]
def tw_Ta (sh : tw_Sh) (t : Nat) : Prop := tw_is sh t 6 ∧ tw_ar sh (t + 1) 0 400 ∧ tw_rr sh t 37 = some (t + 1)
theorem Ta_is0 {sh : tw_Sh} {t : Nat} (h : tw_Ta sh t) : tw_is sh t 6 = True := tw_is_T (h.1)
theorem Ta_f0_37 {sh : tw_Sh} {t : Nat} (h : tw_Ta sh t) : tw_fo sh t 37 true = True := tw_is_fo (h.1) rfl rfl
theorem Ta_f0_38 {sh : tw_Sh} {t : Nat} (h : tw_Ta sh t) : tw_fo sh t 38 false = True := tw_is_fo (h.1) rfl rfl
theorem Ta_a0 {sh : tw_Sh} {t : Nat} (h : tw_Ta sh t) {i : Nat} (hi : i < 400) : tw_ai sh [0, 4] (t + 1) (nI i) = True := tw_ar_ai (h.2.1) (by decide) hi (by decide)
theorem Ta_s0 {sh : tw_Sh} {t : Nat} (h : tw_Ta sh t) {i : Nat} (hi : i < 400) : tw_ai sh [0] (t + 1) (nI i) = True := tw_ar_ai (h.2.1) (by decide) hi (by decide)
theorem Ta_r0_37 {sh : tw_Sh} {t : Nat} (h : tw_Ta sh t) : tw_rr sh t 37 = some (t + 1) := (h.2.2)
theorem TaV0 {sh : tw_Sh} {t n : Nat} {μ : Nat → Nat → Int32} {la : Nat → Nat → Int64} (h : tw_Ta sh t) (F : tw_Mem → Prop) : tw_iv 6 t F (sh, μ, la, n) = F (sh, μ, la, n) := by rw [A_iv, Ta_is0 h, true_and]
theorem TaG0_37 {sh : tw_Sh} {t n : Nat} {μ : Nat → Nat → Int32} {la : Nat → Nat → Int64} (h : tw_Ta sh t) (k : Nat → tw_Mem → Prop) : tw_gr 37 t k (sh, μ, la, n) = k (t + 1) (sh, μ, la, n) := by rw [A_gr, Ta_f0_37 h, Ta_r0_37 h, true_and]; simp only [Option.some.injEq, exists_eq_left']
theorem TaI0_38 {sh : tw_Sh} {t n : Nat} {μ : Nat → Nat → Int32} {la : Nat → Nat → Int64} (h : tw_Ta sh t) (k : Int32 → tw_Mem → Prop) : tw_gi 38 t k (sh, μ, la, n) = k (μ t 38) (sh, μ, la, n) := by rw [A_gi, Ta_f0_38 h, true_and]
theorem TaP0_38 {sh : tw_Sh} {t n : Nat} {μ : Nat → Nat → Int32} {la : Nat → Nat → Int64} (h : tw_Ta sh t) (x : Int32) (k : tw_Mem → Prop) : tw_pi 38 t x k (sh, μ, la, n) = k (sh, tw_up μ t 38 x, la, n) := by rw [A_pi, Ta_f0_38 h, true_and]
theorem TaZ0_38 {sh : tw_Sh} {t n : Nat} {μ : Nat → Nat → Int32} {la : Nat → Nat → Int64} (h : tw_Ta sh t) (x : Int32) (k : tw_Mem → Prop) : tw_pz 38 t x k (sh, μ, la, n) = ((x = 0 ∨ x = 1) ∧ k (sh, tw_up μ t 38 x, la, n)) := by rw [A_pz, Ta_f0_38 h, true_and]
theorem TaL0 {sh : tw_Sh} {t n : Nat} {μ : Nat → Nat → Int32} {la : Nat → Nat → Int64} (h : tw_Ta sh t) {i : Nat} (hi : i < 400) (k : Int32 → tw_Mem → Prop) : tw_li (t + 1) (nI i) k (sh, μ, la, n) = k (μ (t + 1) i) (sh, μ, la, n) := X_li (h.2.1) hi (by decide) k
theorem TaS0 {sh : tw_Sh} {t n : Nat} {μ : Nat → Nat → Int32} {la : Nat → Nat → Int64} (h : tw_Ta sh t) {i : Nat} (hi : i < 400) (x : Int32) (k : tw_Mem → Prop) : tw_si (t + 1) (nI i) x k (sh, μ, la, n) = k (sh, tw_up μ (t + 1) i x, la, n) := X_si (h.2.1) hi (by decide) x k
def tw_Tx (sh : tw_Sh) (b : Nat) : Prop := tw_is sh (b + 140) 8 ∧ tw_is sh (b + 144) 1 ∧ tw_ar sh (b + 141) 0 401 ∧ tw_ar sh (b + 142) 0 401 ∧ tw_ar sh (b + 143) 0 401 ∧ tw_ar sh (b + 145) 0 401 ∧ tw_ar sh (b + 146) 0 401 ∧ tw_ar sh (b + 147) 0 401 ∧ tw_ar sh (b + 148) 0 12 ∧ tw_ar sh (b + 149) 0 12 ∧ tw_ar sh (b + 150) 0 12 ∧ tw_ar sh (b + 151) 0 400 ∧ tw_rr sh (b + 140) 6 = some (b + 1) ∧ tw_rr sh (b + 140) 7 = some (b + 141) ∧ tw_rr sh (b + 140) 8 = some (b + 142) ∧ tw_rr sh (b + 140) 9 = some (b + 143) ∧ tw_rr sh (b + 140) 53 = some (b + 12) ∧ tw_rr sh (b + 144) 6 = some (b + 1) ∧ tw_rr sh (b + 144) 7 = some (b + 145) ∧ tw_rr sh (b + 144) 8 = some (b + 146) ∧ tw_rr sh (b + 144) 9 = some (b + 147) ∧ tw_rr sh (b + 144) 13 = some (b + 148) ∧ tw_rr sh (b + 144) 14 = some (b + 149) ∧ tw_rr sh (b + 144) 15 = some (b + 150) ∧ tw_rr sh (b + 144) 16 = some (b + 151)
theorem Tx_is0 {sh : tw_Sh} {b : Nat} (h : tw_Tx sh b) : tw_is sh (b + 140) 8 = True := tw_is_T (h.1)
theorem Tx_f0_6 {sh : tw_Sh} {b : Nat} (h : tw_Tx sh b) : tw_fo sh (b + 140) 6 true = True := tw_is_fo (h.1) rfl rfl
theorem Tx_f0_7 {sh : tw_Sh} {b : Nat} (h : tw_Tx sh b) : tw_fo sh (b + 140) 7 true = True := tw_is_fo (h.1) rfl rfl
theorem Tx_f0_8 {sh : tw_Sh} {b : Nat} (h : tw_Tx sh b) : tw_fo sh (b + 140) 8 true = True := tw_is_fo (h.1) rfl rfl
theorem Tx_f0_9 {sh : tw_Sh} {b : Nat} (h : tw_Tx sh b) : tw_fo sh (b + 140) 9 true = True := tw_is_fo (h.1) rfl rfl
theorem Tx_f0_10 {sh : tw_Sh} {b : Nat} (h : tw_Tx sh b) : tw_fo sh (b + 140) 10 false = True := tw_is_fo (h.1) rfl rfl
theorem Tx_f0_11 {sh : tw_Sh} {b : Nat} (h : tw_Tx sh b) : tw_fo sh (b + 140) 11 false = True := tw_is_fo (h.1) rfl rfl
theorem Tx_f0_12 {sh : tw_Sh} {b : Nat} (h : tw_Tx sh b) : tw_fo sh (b + 140) 12 false = True := tw_is_fo (h.1) rfl rfl
theorem Tx_f0_53 {sh : tw_Sh} {b : Nat} (h : tw_Tx sh b) : tw_fo sh (b + 140) 53 true = True := tw_is_fo (h.1) rfl rfl
theorem Tx_is1 {sh : tw_Sh} {b : Nat} (h : tw_Tx sh b) : tw_is sh (b + 144) 1 = True := tw_is_T (h.2.1)
theorem Tx_f1_6 {sh : tw_Sh} {b : Nat} (h : tw_Tx sh b) : tw_fo sh (b + 144) 6 true = True := tw_is_fo (h.2.1) rfl rfl
theorem Tx_f1_7 {sh : tw_Sh} {b : Nat} (h : tw_Tx sh b) : tw_fo sh (b + 144) 7 true = True := tw_is_fo (h.2.1) rfl rfl
theorem Tx_f1_8 {sh : tw_Sh} {b : Nat} (h : tw_Tx sh b) : tw_fo sh (b + 144) 8 true = True := tw_is_fo (h.2.1) rfl rfl
theorem Tx_f1_9 {sh : tw_Sh} {b : Nat} (h : tw_Tx sh b) : tw_fo sh (b + 144) 9 true = True := tw_is_fo (h.2.1) rfl rfl
theorem Tx_f1_10 {sh : tw_Sh} {b : Nat} (h : tw_Tx sh b) : tw_fo sh (b + 144) 10 false = True := tw_is_fo (h.2.1) rfl rfl
theorem Tx_f1_11 {sh : tw_Sh} {b : Nat} (h : tw_Tx sh b) : tw_fo sh (b + 144) 11 false = True := tw_is_fo (h.2.1) rfl rfl
theorem Tx_f1_12 {sh : tw_Sh} {b : Nat} (h : tw_Tx sh b) : tw_fo sh (b + 144) 12 false = True := tw_is_fo (h.2.1) rfl rfl
theorem Tx_f1_13 {sh : tw_Sh} {b : Nat} (h : tw_Tx sh b) : tw_fo sh (b + 144) 13 true = True := tw_is_fo (h.2.1) rfl rfl
theorem Tx_f1_14 {sh : tw_Sh} {b : Nat} (h : tw_Tx sh b) : tw_fo sh (b + 144) 14 true = True := tw_is_fo (h.2.1) rfl rfl
theorem Tx_f1_15 {sh : tw_Sh} {b : Nat} (h : tw_Tx sh b) : tw_fo sh (b + 144) 15 true = True := tw_is_fo (h.2.1) rfl rfl
theorem Tx_f1_16 {sh : tw_Sh} {b : Nat} (h : tw_Tx sh b) : tw_fo sh (b + 144) 16 true = True := tw_is_fo (h.2.1) rfl rfl
theorem Tx_f1_17 {sh : tw_Sh} {b : Nat} (h : tw_Tx sh b) : tw_fo sh (b + 144) 17 false = True := tw_is_fo (h.2.1) rfl rfl
theorem Tx_f1_18 {sh : tw_Sh} {b : Nat} (h : tw_Tx sh b) : tw_fo sh (b + 144) 18 false = True := tw_is_fo (h.2.1) rfl rfl
theorem Tx_a0 {sh : tw_Sh} {b : Nat} (h : tw_Tx sh b) {i : Nat} (hi : i < 401) : tw_ai sh [0, 4] (b + 141) (nI i) = True := tw_ar_ai (h.2.2.1) (by decide) hi (by decide)
theorem Tx_s0 {sh : tw_Sh} {b : Nat} (h : tw_Tx sh b) {i : Nat} (hi : i < 401) : tw_ai sh [0] (b + 141) (nI i) = True := tw_ar_ai (h.2.2.1) (by decide) hi (by decide)
theorem Tx_a1 {sh : tw_Sh} {b : Nat} (h : tw_Tx sh b) {i : Nat} (hi : i < 401) : tw_ai sh [0, 4] (b + 142) (nI i) = True := tw_ar_ai (h.2.2.2.1) (by decide) hi (by decide)
theorem Tx_s1 {sh : tw_Sh} {b : Nat} (h : tw_Tx sh b) {i : Nat} (hi : i < 401) : tw_ai sh [0] (b + 142) (nI i) = True := tw_ar_ai (h.2.2.2.1) (by decide) hi (by decide)
theorem Tx_a2 {sh : tw_Sh} {b : Nat} (h : tw_Tx sh b) {i : Nat} (hi : i < 401) : tw_ai sh [0, 4] (b + 143) (nI i) = True := tw_ar_ai (h.2.2.2.2.1) (by decide) hi (by decide)
theorem Tx_s2 {sh : tw_Sh} {b : Nat} (h : tw_Tx sh b) {i : Nat} (hi : i < 401) : tw_ai sh [0] (b + 143) (nI i) = True := tw_ar_ai (h.2.2.2.2.1) (by decide) hi (by decide)
theorem Tx_a3 {sh : tw_Sh} {b : Nat} (h : tw_Tx sh b) {i : Nat} (hi : i < 401) : tw_ai sh [0, 4] (b + 145) (nI i) = True := tw_ar_ai (h.2.2.2.2.2.1) (by decide) hi (by decide)
theorem Tx_s3 {sh : tw_Sh} {b : Nat} (h : tw_Tx sh b) {i : Nat} (hi : i < 401) : tw_ai sh [0] (b + 145) (nI i) = True := tw_ar_ai (h.2.2.2.2.2.1) (by decide) hi (by decide)
theorem Tx_a4 {sh : tw_Sh} {b : Nat} (h : tw_Tx sh b) {i : Nat} (hi : i < 401) : tw_ai sh [0, 4] (b + 146) (nI i) = True := tw_ar_ai (h.2.2.2.2.2.2.1) (by decide) hi (by decide)
theorem Tx_s4 {sh : tw_Sh} {b : Nat} (h : tw_Tx sh b) {i : Nat} (hi : i < 401) : tw_ai sh [0] (b + 146) (nI i) = True := tw_ar_ai (h.2.2.2.2.2.2.1) (by decide) hi (by decide)
theorem Tx_a5 {sh : tw_Sh} {b : Nat} (h : tw_Tx sh b) {i : Nat} (hi : i < 401) : tw_ai sh [0, 4] (b + 147) (nI i) = True := tw_ar_ai (h.2.2.2.2.2.2.2.1) (by decide) hi (by decide)
theorem Tx_s5 {sh : tw_Sh} {b : Nat} (h : tw_Tx sh b) {i : Nat} (hi : i < 401) : tw_ai sh [0] (b + 147) (nI i) = True := tw_ar_ai (h.2.2.2.2.2.2.2.1) (by decide) hi (by decide)
theorem Tx_a6 {sh : tw_Sh} {b : Nat} (h : tw_Tx sh b) {i : Nat} (hi : i < 12) : tw_ai sh [0, 4] (b + 148) (nI i) = True := tw_ar_ai (h.2.2.2.2.2.2.2.2.1) (by decide) hi (by decide)
theorem Tx_s6 {sh : tw_Sh} {b : Nat} (h : tw_Tx sh b) {i : Nat} (hi : i < 12) : tw_ai sh [0] (b + 148) (nI i) = True := tw_ar_ai (h.2.2.2.2.2.2.2.2.1) (by decide) hi (by decide)
theorem Tx_a7 {sh : tw_Sh} {b : Nat} (h : tw_Tx sh b) {i : Nat} (hi : i < 12) : tw_ai sh [0, 4] (b + 149) (nI i) = True := tw_ar_ai (h.2.2.2.2.2.2.2.2.2.1) (by decide) hi (by decide)
theorem Tx_s7 {sh : tw_Sh} {b : Nat} (h : tw_Tx sh b) {i : Nat} (hi : i < 12) : tw_ai sh [0] (b + 149) (nI i) = True := tw_ar_ai (h.2.2.2.2.2.2.2.2.2.1) (by decide) hi (by decide)
theorem Tx_a8 {sh : tw_Sh} {b : Nat} (h : tw_Tx sh b) {i : Nat} (hi : i < 12) : tw_ai sh [0, 4] (b + 150) (nI i) = True := tw_ar_ai (h.2.2.2.2.2.2.2.2.2.2.1) (by decide) hi (by decide)
theorem Tx_s8 {sh : tw_Sh} {b : Nat} (h : tw_Tx sh b) {i : Nat} (hi : i < 12) : tw_ai sh [0] (b + 150) (nI i) = True := tw_ar_ai (h.2.2.2.2.2.2.2.2.2.2.1) (by decide) hi (by decide)
theorem Tx_a9 {sh : tw_Sh} {b : Nat} (h : tw_Tx sh b) {i : Nat} (hi : i < 400) : tw_ai sh [0, 4] (b + 151) (nI i) = True := tw_ar_ai (h.2.2.2.2.2.2.2.2.2.2.2.1) (by decide) hi (by decide)
theorem Tx_s9 {sh : tw_Sh} {b : Nat} (h : tw_Tx sh b) {i : Nat} (hi : i < 400) : tw_ai sh [0] (b + 151) (nI i) = True := tw_ar_ai (h.2.2.2.2.2.2.2.2.2.2.2.1) (by decide) hi (by decide)
theorem Tx_r0_6 {sh : tw_Sh} {b : Nat} (h : tw_Tx sh b) : tw_rr sh (b + 140) 6 = some (b + 1) := (h.2.2.2.2.2.2.2.2.2.2.2.2.1)
theorem Tx_r1_7 {sh : tw_Sh} {b : Nat} (h : tw_Tx sh b) : tw_rr sh (b + 140) 7 = some (b + 141) := (h.2.2.2.2.2.2.2.2.2.2.2.2.2.1)
theorem Tx_r2_8 {sh : tw_Sh} {b : Nat} (h : tw_Tx sh b) : tw_rr sh (b + 140) 8 = some (b + 142) := (h.2.2.2.2.2.2.2.2.2.2.2.2.2.2.1)
theorem Tx_r3_9 {sh : tw_Sh} {b : Nat} (h : tw_Tx sh b) : tw_rr sh (b + 140) 9 = some (b + 143) := (h.2.2.2.2.2.2.2.2.2.2.2.2.2.2.2.1)
theorem Tx_r4_53 {sh : tw_Sh} {b : Nat} (h : tw_Tx sh b) : tw_rr sh (b + 140) 53 = some (b + 12) := (h.2.2.2.2.2.2.2.2.2.2.2.2.2.2.2.2.1)
theorem Tx_r5_6 {sh : tw_Sh} {b : Nat} (h : tw_Tx sh b) : tw_rr sh (b + 144) 6 = some (b + 1) := (h.2.2.2.2.2.2.2.2.2.2.2.2.2.2.2.2.2.1)
theorem Tx_r6_7 {sh : tw_Sh} {b : Nat} (h : tw_Tx sh b) : tw_rr sh (b + 144) 7 = some (b + 145) := (h.2.2.2.2.2.2.2.2.2.2.2.2.2.2.2.2.2.2.1)
theorem Tx_r7_8 {sh : tw_Sh} {b : Nat} (h : tw_Tx sh b) : tw_rr sh (b + 144) 8 = some (b + 146) := (h.2.2.2.2.2.2.2.2.2.2.2.2.2.2.2.2.2.2.2.1)
theorem Tx_r8_9 {sh : tw_Sh} {b : Nat} (h : tw_Tx sh b) : tw_rr sh (b + 144) 9 = some (b + 147) := (h.2.2.2.2.2.2.2.2.2.2.2.2.2.2.2.2.2.2.2.2.1)
theorem Tx_r9_13 {sh : tw_Sh} {b : Nat} (h : tw_Tx sh b) : tw_rr sh (b + 144) 13 = some (b + 148) := (h.2.2.2.2.2.2.2.2.2.2.2.2.2.2.2.2.2.2.2.2.2.1)
theorem Tx_r10_14 {sh : tw_Sh} {b : Nat} (h : tw_Tx sh b) : tw_rr sh (b + 144) 14 = some (b + 149) := (h.2.2.2.2.2.2.2.2.2.2.2.2.2.2.2.2.2.2.2.2.2.2.1)
theorem Tx_r11_15 {sh : tw_Sh} {b : Nat} (h : tw_Tx sh b) : tw_rr sh (b + 144) 15 = some (b + 150) := (h.2.2.2.2.2.2.2.2.2.2.2.2.2.2.2.2.2.2.2.2.2.2.2.1)
theorem Tx_r12_16 {sh : tw_Sh} {b : Nat} (h : tw_Tx sh b) : tw_rr sh (b + 144) 16 = some (b + 151) := (h.2.2.2.2.2.2.2.2.2.2.2.2.2.2.2.2.2.2.2.2.2.2.2.2)
theorem TxV0 {sh : tw_Sh} {b n : Nat} {μ : Nat → Nat → Int32} {la : Nat → Nat → Int64} (h : tw_Tx sh b) (F : tw_Mem → Prop) : tw_iv 8 (b + 140) F (sh, μ, la, n) = F (sh, μ, la, n) := by rw [A_iv, Tx_is0 h, true_and]
theorem TxW0 {sh : tw_Sh} {b n : Nat} {μ : Nat → Nat → Int32} {la : Nat → Nat → Int64} (h : tw_Tx sh b) (F : tw_Mem → Prop) : tw_iw (b + 140) F (sh, μ, la, n) = F (sh, μ, la, n) := by rw [A_iw, Tx_is0 h]; simp only [true_or, or_true, true_and]
theorem TxG0_6 {sh : tw_Sh} {b n : Nat} {μ : Nat → Nat → Int32} {la : Nat → Nat → Int64} (h : tw_Tx sh b) (k : Nat → tw_Mem → Prop) : tw_gr 6 (b + 140) k (sh, μ, la, n) = k (b + 1) (sh, μ, la, n) := by rw [A_gr, Tx_f0_6 h, Tx_r0_6 h, true_and]; simp only [Option.some.injEq, exists_eq_left']
theorem TxG0_7 {sh : tw_Sh} {b n : Nat} {μ : Nat → Nat → Int32} {la : Nat → Nat → Int64} (h : tw_Tx sh b) (k : Nat → tw_Mem → Prop) : tw_gr 7 (b + 140) k (sh, μ, la, n) = k (b + 141) (sh, μ, la, n) := by rw [A_gr, Tx_f0_7 h, Tx_r1_7 h, true_and]; simp only [Option.some.injEq, exists_eq_left']
theorem TxG0_8 {sh : tw_Sh} {b n : Nat} {μ : Nat → Nat → Int32} {la : Nat → Nat → Int64} (h : tw_Tx sh b) (k : Nat → tw_Mem → Prop) : tw_gr 8 (b + 140) k (sh, μ, la, n) = k (b + 142) (sh, μ, la, n) := by rw [A_gr, Tx_f0_8 h, Tx_r2_8 h, true_and]; simp only [Option.some.injEq, exists_eq_left']
theorem TxG0_9 {sh : tw_Sh} {b n : Nat} {μ : Nat → Nat → Int32} {la : Nat → Nat → Int64} (h : tw_Tx sh b) (k : Nat → tw_Mem → Prop) : tw_gr 9 (b + 140) k (sh, μ, la, n) = k (b + 143) (sh, μ, la, n) := by rw [A_gr, Tx_f0_9 h, Tx_r3_9 h, true_and]; simp only [Option.some.injEq, exists_eq_left']
theorem TxI0_10 {sh : tw_Sh} {b n : Nat} {μ : Nat → Nat → Int32} {la : Nat → Nat → Int64} (h : tw_Tx sh b) (k : Int32 → tw_Mem → Prop) : tw_gi 10 (b + 140) k (sh, μ, la, n) = k (μ (b + 140) 10) (sh, μ, la, n) := by rw [A_gi, Tx_f0_10 h, true_and]
theorem TxP0_10 {sh : tw_Sh} {b n : Nat} {μ : Nat → Nat → Int32} {la : Nat → Nat → Int64} (h : tw_Tx sh b) (x : Int32) (k : tw_Mem → Prop) : tw_pi 10 (b + 140) x k (sh, μ, la, n) = k (sh, tw_up μ (b + 140) 10 x, la, n) := by rw [A_pi, Tx_f0_10 h, true_and]
theorem TxZ0_10 {sh : tw_Sh} {b n : Nat} {μ : Nat → Nat → Int32} {la : Nat → Nat → Int64} (h : tw_Tx sh b) (x : Int32) (k : tw_Mem → Prop) : tw_pz 10 (b + 140) x k (sh, μ, la, n) = ((x = 0 ∨ x = 1) ∧ k (sh, tw_up μ (b + 140) 10 x, la, n)) := by rw [A_pz, Tx_f0_10 h, true_and]
theorem TxI0_11 {sh : tw_Sh} {b n : Nat} {μ : Nat → Nat → Int32} {la : Nat → Nat → Int64} (h : tw_Tx sh b) (k : Int32 → tw_Mem → Prop) : tw_gi 11 (b + 140) k (sh, μ, la, n) = k (μ (b + 140) 11) (sh, μ, la, n) := by rw [A_gi, Tx_f0_11 h, true_and]
theorem TxP0_11 {sh : tw_Sh} {b n : Nat} {μ : Nat → Nat → Int32} {la : Nat → Nat → Int64} (h : tw_Tx sh b) (x : Int32) (k : tw_Mem → Prop) : tw_pi 11 (b + 140) x k (sh, μ, la, n) = k (sh, tw_up μ (b + 140) 11 x, la, n) := by rw [A_pi, Tx_f0_11 h, true_and]
theorem TxZ0_11 {sh : tw_Sh} {b n : Nat} {μ : Nat → Nat → Int32} {la : Nat → Nat → Int64} (h : tw_Tx sh b) (x : Int32) (k : tw_Mem → Prop) : tw_pz 11 (b + 140) x k (sh, μ, la, n) = ((x = 0 ∨ x = 1) ∧ k (sh, tw_up μ (b + 140) 11 x, la, n)) := by rw [A_pz, Tx_f0_11 h, true_and]
theorem TxI0_12 {sh : tw_Sh} {b n : Nat} {μ : Nat → Nat → Int32} {la : Nat → Nat → Int64} (h : tw_Tx sh b) (k : Int32 → tw_Mem → Prop) : tw_gi 12 (b + 140) k (sh, μ, la, n) = k (μ (b + 140) 12) (sh, μ, la, n) := by rw [A_gi, Tx_f0_12 h, true_and]
theorem TxP0_12 {sh : tw_Sh} {b n : Nat} {μ : Nat → Nat → Int32} {la : Nat → Nat → Int64} (h : tw_Tx sh b) (x : Int32) (k : tw_Mem → Prop) : tw_pi 12 (b + 140) x k (sh, μ, la, n) = k (sh, tw_up μ (b + 140) 12 x, la, n) := by rw [A_pi, Tx_f0_12 h, true_and]
theorem TxZ0_12 {sh : tw_Sh} {b n : Nat} {μ : Nat → Nat → Int32} {la : Nat → Nat → Int64} (h : tw_Tx sh b) (x : Int32) (k : tw_Mem → Prop) : tw_pz 12 (b + 140) x k (sh, μ, la, n) = ((x = 0 ∨ x = 1) ∧ k (sh, tw_up μ (b + 140) 12 x, la, n)) := by rw [A_pz, Tx_f0_12 h, true_and]
theorem TxG0_53 {sh : tw_Sh} {b n : Nat} {μ : Nat → Nat → Int32} {la : Nat → Nat → Int64} (h : tw_Tx sh b) (k : Nat → tw_Mem → Prop) : tw_gr 53 (b + 140) k (sh, μ, la, n) = k (b + 12) (sh, μ, la, n) := by rw [A_gr, Tx_f0_53 h, Tx_r4_53 h, true_and]; simp only [Option.some.injEq, exists_eq_left']
theorem TxV1 {sh : tw_Sh} {b n : Nat} {μ : Nat → Nat → Int32} {la : Nat → Nat → Int64} (h : tw_Tx sh b) (F : tw_Mem → Prop) : tw_iv 1 (b + 144) F (sh, μ, la, n) = F (sh, μ, la, n) := by rw [A_iv, Tx_is1 h, true_and]
theorem TxW1 {sh : tw_Sh} {b n : Nat} {μ : Nat → Nat → Int32} {la : Nat → Nat → Int64} (h : tw_Tx sh b) (F : tw_Mem → Prop) : tw_iw (b + 144) F (sh, μ, la, n) = F (sh, μ, la, n) := by rw [A_iw, Tx_is1 h]; simp only [true_or, or_true, true_and]
theorem TxG1_6 {sh : tw_Sh} {b n : Nat} {μ : Nat → Nat → Int32} {la : Nat → Nat → Int64} (h : tw_Tx sh b) (k : Nat → tw_Mem → Prop) : tw_gr 6 (b + 144) k (sh, μ, la, n) = k (b + 1) (sh, μ, la, n) := by rw [A_gr, Tx_f1_6 h, Tx_r5_6 h, true_and]; simp only [Option.some.injEq, exists_eq_left']
theorem TxG1_7 {sh : tw_Sh} {b n : Nat} {μ : Nat → Nat → Int32} {la : Nat → Nat → Int64} (h : tw_Tx sh b) (k : Nat → tw_Mem → Prop) : tw_gr 7 (b + 144) k (sh, μ, la, n) = k (b + 145) (sh, μ, la, n) := by rw [A_gr, Tx_f1_7 h, Tx_r6_7 h, true_and]; simp only [Option.some.injEq, exists_eq_left']
theorem TxG1_8 {sh : tw_Sh} {b n : Nat} {μ : Nat → Nat → Int32} {la : Nat → Nat → Int64} (h : tw_Tx sh b) (k : Nat → tw_Mem → Prop) : tw_gr 8 (b + 144) k (sh, μ, la, n) = k (b + 146) (sh, μ, la, n) := by rw [A_gr, Tx_f1_8 h, Tx_r7_8 h, true_and]; simp only [Option.some.injEq, exists_eq_left']
theorem TxG1_9 {sh : tw_Sh} {b n : Nat} {μ : Nat → Nat → Int32} {la : Nat → Nat → Int64} (h : tw_Tx sh b) (k : Nat → tw_Mem → Prop) : tw_gr 9 (b + 144) k (sh, μ, la, n) = k (b + 147) (sh, μ, la, n) := by rw [A_gr, Tx_f1_9 h, Tx_r8_9 h, true_and]; simp only [Option.some.injEq, exists_eq_left']
theorem TxI1_10 {sh : tw_Sh} {b n : Nat} {μ : Nat → Nat → Int32} {la : Nat → Nat → Int64} (h : tw_Tx sh b) (k : Int32 → tw_Mem → Prop) : tw_gi 10 (b + 144) k (sh, μ, la, n) = k (μ (b + 144) 10) (sh, μ, la, n) := by rw [A_gi, Tx_f1_10 h, true_and]
theorem TxP1_10 {sh : tw_Sh} {b n : Nat} {μ : Nat → Nat → Int32} {la : Nat → Nat → Int64} (h : tw_Tx sh b) (x : Int32) (k : tw_Mem → Prop) : tw_pi 10 (b + 144) x k (sh, μ, la, n) = k (sh, tw_up μ (b + 144) 10 x, la, n) := by rw [A_pi, Tx_f1_10 h, true_and]
theorem TxZ1_10 {sh : tw_Sh} {b n : Nat} {μ : Nat → Nat → Int32} {la : Nat → Nat → Int64} (h : tw_Tx sh b) (x : Int32) (k : tw_Mem → Prop) : tw_pz 10 (b + 144) x k (sh, μ, la, n) = ((x = 0 ∨ x = 1) ∧ k (sh, tw_up μ (b + 144) 10 x, la, n)) := by rw [A_pz, Tx_f1_10 h, true_and]
theorem TxI1_11 {sh : tw_Sh} {b n : Nat} {μ : Nat → Nat → Int32} {la : Nat → Nat → Int64} (h : tw_Tx sh b) (k : Int32 → tw_Mem → Prop) : tw_gi 11 (b + 144) k (sh, μ, la, n) = k (μ (b + 144) 11) (sh, μ, la, n) := by rw [A_gi, Tx_f1_11 h, true_and]
theorem TxP1_11 {sh : tw_Sh} {b n : Nat} {μ : Nat → Nat → Int32} {la : Nat → Nat → Int64} (h : tw_Tx sh b) (x : Int32) (k : tw_Mem → Prop) : tw_pi 11 (b + 144) x k (sh, μ, la, n) = k (sh, tw_up μ (b + 144) 11 x, la, n) := by rw [A_pi, Tx_f1_11 h, true_and]
theorem TxZ1_11 {sh : tw_Sh} {b n : Nat} {μ : Nat → Nat → Int32} {la : Nat → Nat → Int64} (h : tw_Tx sh b) (x : Int32) (k : tw_Mem → Prop) : tw_pz 11 (b + 144) x k (sh, μ, la, n) = ((x = 0 ∨ x = 1) ∧ k (sh, tw_up μ (b + 144) 11 x, la, n)) := by rw [A_pz, Tx_f1_11 h, true_and]
theorem TxI1_12 {sh : tw_Sh} {b n : Nat} {μ : Nat → Nat → Int32} {la : Nat → Nat → Int64} (h : tw_Tx sh b) (k : Int32 → tw_Mem → Prop) : tw_gi 12 (b + 144) k (sh, μ, la, n) = k (μ (b + 144) 12) (sh, μ, la, n) := by rw [A_gi, Tx_f1_12 h, true_and]
theorem TxP1_12 {sh : tw_Sh} {b n : Nat} {μ : Nat → Nat → Int32} {la : Nat → Nat → Int64} (h : tw_Tx sh b) (x : Int32) (k : tw_Mem → Prop) : tw_pi 12 (b + 144) x k (sh, μ, la, n) = k (sh, tw_up μ (b + 144) 12 x, la, n) := by rw [A_pi, Tx_f1_12 h, true_and]
theorem TxZ1_12 {sh : tw_Sh} {b n : Nat} {μ : Nat → Nat → Int32} {la : Nat → Nat → Int64} (h : tw_Tx sh b) (x : Int32) (k : tw_Mem → Prop) : tw_pz 12 (b + 144) x k (sh, μ, la, n) = ((x = 0 ∨ x = 1) ∧ k (sh, tw_up μ (b + 144) 12 x, la, n)) := by rw [A_pz, Tx_f1_12 h, true_and]
theorem TxG1_13 {sh : tw_Sh} {b n : Nat} {μ : Nat → Nat → Int32} {la : Nat → Nat → Int64} (h : tw_Tx sh b) (k : Nat → tw_Mem → Prop) : tw_gr 13 (b + 144) k (sh, μ, la, n) = k (b + 148) (sh, μ, la, n) := by rw [A_gr, Tx_f1_13 h, Tx_r9_13 h, true_and]; simp only [Option.some.injEq, exists_eq_left']
theorem TxG1_14 {sh : tw_Sh} {b n : Nat} {μ : Nat → Nat → Int32} {la : Nat → Nat → Int64} (h : tw_Tx sh b) (k : Nat → tw_Mem → Prop) : tw_gr 14 (b + 144) k (sh, μ, la, n) = k (b + 149) (sh, μ, la, n) := by rw [A_gr, Tx_f1_14 h, Tx_r10_14 h, true_and]; simp only [Option.some.injEq, exists_eq_left']
theorem TxG1_15 {sh : tw_Sh} {b n : Nat} {μ : Nat → Nat → Int32} {la : Nat → Nat → Int64} (h : tw_Tx sh b) (k : Nat → tw_Mem → Prop) : tw_gr 15 (b + 144) k (sh, μ, la, n) = k (b + 150) (sh, μ, la, n) := by rw [A_gr, Tx_f1_15 h, Tx_r11_15 h, true_and]; simp only [Option.some.injEq, exists_eq_left']
theorem TxG1_16 {sh : tw_Sh} {b n : Nat} {μ : Nat → Nat → Int32} {la : Nat → Nat → Int64} (h : tw_Tx sh b) (k : Nat → tw_Mem → Prop) : tw_gr 16 (b + 144) k (sh, μ, la, n) = k (b + 151) (sh, μ, la, n) := by rw [A_gr, Tx_f1_16 h, Tx_r12_16 h, true_and]; simp only [Option.some.injEq, exists_eq_left']
theorem TxI1_17 {sh : tw_Sh} {b n : Nat} {μ : Nat → Nat → Int32} {la : Nat → Nat → Int64} (h : tw_Tx sh b) (k : Int32 → tw_Mem → Prop) : tw_gi 17 (b + 144) k (sh, μ, la, n) = k (μ (b + 144) 17) (sh, μ, la, n) := by rw [A_gi, Tx_f1_17 h, true_and]
theorem TxP1_17 {sh : tw_Sh} {b n : Nat} {μ : Nat → Nat → Int32} {la : Nat → Nat → Int64} (h : tw_Tx sh b) (x : Int32) (k : tw_Mem → Prop) : tw_pi 17 (b + 144) x k (sh, μ, la, n) = k (sh, tw_up μ (b + 144) 17 x, la, n) := by rw [A_pi, Tx_f1_17 h, true_and]
theorem TxZ1_17 {sh : tw_Sh} {b n : Nat} {μ : Nat → Nat → Int32} {la : Nat → Nat → Int64} (h : tw_Tx sh b) (x : Int32) (k : tw_Mem → Prop) : tw_pz 17 (b + 144) x k (sh, μ, la, n) = ((x = 0 ∨ x = 1) ∧ k (sh, tw_up μ (b + 144) 17 x, la, n)) := by rw [A_pz, Tx_f1_17 h, true_and]
theorem TxI1_18 {sh : tw_Sh} {b n : Nat} {μ : Nat → Nat → Int32} {la : Nat → Nat → Int64} (h : tw_Tx sh b) (k : Int32 → tw_Mem → Prop) : tw_gi 18 (b + 144) k (sh, μ, la, n) = k (μ (b + 144) 18) (sh, μ, la, n) := by rw [A_gi, Tx_f1_18 h, true_and]
theorem TxP1_18 {sh : tw_Sh} {b n : Nat} {μ : Nat → Nat → Int32} {la : Nat → Nat → Int64} (h : tw_Tx sh b) (x : Int32) (k : tw_Mem → Prop) : tw_pi 18 (b + 144) x k (sh, μ, la, n) = k (sh, tw_up μ (b + 144) 18 x, la, n) := by rw [A_pi, Tx_f1_18 h, true_and]
theorem TxZ1_18 {sh : tw_Sh} {b n : Nat} {μ : Nat → Nat → Int32} {la : Nat → Nat → Int64} (h : tw_Tx sh b) (x : Int32) (k : tw_Mem → Prop) : tw_pz 18 (b + 144) x k (sh, μ, la, n) = ((x = 0 ∨ x = 1) ∧ k (sh, tw_up μ (b + 144) 18 x, la, n)) := by rw [A_pz, Tx_f1_18 h, true_and]
theorem TxL0 {sh : tw_Sh} {b n : Nat} {μ : Nat → Nat → Int32} {la : Nat → Nat → Int64} (h : tw_Tx sh b) {i : Nat} (hi : i < 401) (k : Int32 → tw_Mem → Prop) : tw_li (b + 141) (nI i) k (sh, μ, la, n) = k (μ (b + 141) i) (sh, μ, la, n) := X_li (h.2.2.1) hi (by decide) k
theorem TxS0 {sh : tw_Sh} {b n : Nat} {μ : Nat → Nat → Int32} {la : Nat → Nat → Int64} (h : tw_Tx sh b) {i : Nat} (hi : i < 401) (x : Int32) (k : tw_Mem → Prop) : tw_si (b + 141) (nI i) x k (sh, μ, la, n) = k (sh, tw_up μ (b + 141) i x, la, n) := X_si (h.2.2.1) hi (by decide) x k
theorem TxL1 {sh : tw_Sh} {b n : Nat} {μ : Nat → Nat → Int32} {la : Nat → Nat → Int64} (h : tw_Tx sh b) {i : Nat} (hi : i < 401) (k : Int32 → tw_Mem → Prop) : tw_li (b + 142) (nI i) k (sh, μ, la, n) = k (μ (b + 142) i) (sh, μ, la, n) := X_li (h.2.2.2.1) hi (by decide) k
theorem TxS1 {sh : tw_Sh} {b n : Nat} {μ : Nat → Nat → Int32} {la : Nat → Nat → Int64} (h : tw_Tx sh b) {i : Nat} (hi : i < 401) (x : Int32) (k : tw_Mem → Prop) : tw_si (b + 142) (nI i) x k (sh, μ, la, n) = k (sh, tw_up μ (b + 142) i x, la, n) := X_si (h.2.2.2.1) hi (by decide) x k
theorem TxL2 {sh : tw_Sh} {b n : Nat} {μ : Nat → Nat → Int32} {la : Nat → Nat → Int64} (h : tw_Tx sh b) {i : Nat} (hi : i < 401) (k : Int32 → tw_Mem → Prop) : tw_li (b + 143) (nI i) k (sh, μ, la, n) = k (μ (b + 143) i) (sh, μ, la, n) := X_li (h.2.2.2.2.1) hi (by decide) k
theorem TxS2 {sh : tw_Sh} {b n : Nat} {μ : Nat → Nat → Int32} {la : Nat → Nat → Int64} (h : tw_Tx sh b) {i : Nat} (hi : i < 401) (x : Int32) (k : tw_Mem → Prop) : tw_si (b + 143) (nI i) x k (sh, μ, la, n) = k (sh, tw_up μ (b + 143) i x, la, n) := X_si (h.2.2.2.2.1) hi (by decide) x k
theorem TxL3 {sh : tw_Sh} {b n : Nat} {μ : Nat → Nat → Int32} {la : Nat → Nat → Int64} (h : tw_Tx sh b) {i : Nat} (hi : i < 401) (k : Int32 → tw_Mem → Prop) : tw_li (b + 145) (nI i) k (sh, μ, la, n) = k (μ (b + 145) i) (sh, μ, la, n) := X_li (h.2.2.2.2.2.1) hi (by decide) k
theorem TxS3 {sh : tw_Sh} {b n : Nat} {μ : Nat → Nat → Int32} {la : Nat → Nat → Int64} (h : tw_Tx sh b) {i : Nat} (hi : i < 401) (x : Int32) (k : tw_Mem → Prop) : tw_si (b + 145) (nI i) x k (sh, μ, la, n) = k (sh, tw_up μ (b + 145) i x, la, n) := X_si (h.2.2.2.2.2.1) hi (by decide) x k
theorem TxL4 {sh : tw_Sh} {b n : Nat} {μ : Nat → Nat → Int32} {la : Nat → Nat → Int64} (h : tw_Tx sh b) {i : Nat} (hi : i < 401) (k : Int32 → tw_Mem → Prop) : tw_li (b + 146) (nI i) k (sh, μ, la, n) = k (μ (b + 146) i) (sh, μ, la, n) := X_li (h.2.2.2.2.2.2.1) hi (by decide) k
theorem TxS4 {sh : tw_Sh} {b n : Nat} {μ : Nat → Nat → Int32} {la : Nat → Nat → Int64} (h : tw_Tx sh b) {i : Nat} (hi : i < 401) (x : Int32) (k : tw_Mem → Prop) : tw_si (b + 146) (nI i) x k (sh, μ, la, n) = k (sh, tw_up μ (b + 146) i x, la, n) := X_si (h.2.2.2.2.2.2.1) hi (by decide) x k
theorem TxL5 {sh : tw_Sh} {b n : Nat} {μ : Nat → Nat → Int32} {la : Nat → Nat → Int64} (h : tw_Tx sh b) {i : Nat} (hi : i < 401) (k : Int32 → tw_Mem → Prop) : tw_li (b + 147) (nI i) k (sh, μ, la, n) = k (μ (b + 147) i) (sh, μ, la, n) := X_li (h.2.2.2.2.2.2.2.1) hi (by decide) k
theorem TxS5 {sh : tw_Sh} {b n : Nat} {μ : Nat → Nat → Int32} {la : Nat → Nat → Int64} (h : tw_Tx sh b) {i : Nat} (hi : i < 401) (x : Int32) (k : tw_Mem → Prop) : tw_si (b + 147) (nI i) x k (sh, μ, la, n) = k (sh, tw_up μ (b + 147) i x, la, n) := X_si (h.2.2.2.2.2.2.2.1) hi (by decide) x k
theorem TxL6 {sh : tw_Sh} {b n : Nat} {μ : Nat → Nat → Int32} {la : Nat → Nat → Int64} (h : tw_Tx sh b) {i : Nat} (hi : i < 12) (k : Int32 → tw_Mem → Prop) : tw_li (b + 148) (nI i) k (sh, μ, la, n) = k (μ (b + 148) i) (sh, μ, la, n) := X_li (h.2.2.2.2.2.2.2.2.1) hi (by decide) k
theorem TxS6 {sh : tw_Sh} {b n : Nat} {μ : Nat → Nat → Int32} {la : Nat → Nat → Int64} (h : tw_Tx sh b) {i : Nat} (hi : i < 12) (x : Int32) (k : tw_Mem → Prop) : tw_si (b + 148) (nI i) x k (sh, μ, la, n) = k (sh, tw_up μ (b + 148) i x, la, n) := X_si (h.2.2.2.2.2.2.2.2.1) hi (by decide) x k
theorem TxL7 {sh : tw_Sh} {b n : Nat} {μ : Nat → Nat → Int32} {la : Nat → Nat → Int64} (h : tw_Tx sh b) {i : Nat} (hi : i < 12) (k : Int32 → tw_Mem → Prop) : tw_li (b + 149) (nI i) k (sh, μ, la, n) = k (μ (b + 149) i) (sh, μ, la, n) := X_li (h.2.2.2.2.2.2.2.2.2.1) hi (by decide) k
theorem TxS7 {sh : tw_Sh} {b n : Nat} {μ : Nat → Nat → Int32} {la : Nat → Nat → Int64} (h : tw_Tx sh b) {i : Nat} (hi : i < 12) (x : Int32) (k : tw_Mem → Prop) : tw_si (b + 149) (nI i) x k (sh, μ, la, n) = k (sh, tw_up μ (b + 149) i x, la, n) := X_si (h.2.2.2.2.2.2.2.2.2.1) hi (by decide) x k
theorem TxL8 {sh : tw_Sh} {b n : Nat} {μ : Nat → Nat → Int32} {la : Nat → Nat → Int64} (h : tw_Tx sh b) {i : Nat} (hi : i < 12) (k : Int32 → tw_Mem → Prop) : tw_li (b + 150) (nI i) k (sh, μ, la, n) = k (μ (b + 150) i) (sh, μ, la, n) := X_li (h.2.2.2.2.2.2.2.2.2.2.1) hi (by decide) k
theorem TxS8 {sh : tw_Sh} {b n : Nat} {μ : Nat → Nat → Int32} {la : Nat → Nat → Int64} (h : tw_Tx sh b) {i : Nat} (hi : i < 12) (x : Int32) (k : tw_Mem → Prop) : tw_si (b + 150) (nI i) x k (sh, μ, la, n) = k (sh, tw_up μ (b + 150) i x, la, n) := X_si (h.2.2.2.2.2.2.2.2.2.2.1) hi (by decide) x k
theorem TxL9 {sh : tw_Sh} {b n : Nat} {μ : Nat → Nat → Int32} {la : Nat → Nat → Int64} (h : tw_Tx sh b) {i : Nat} (hi : i < 400) (k : Int32 → tw_Mem → Prop) : tw_li (b + 151) (nI i) k (sh, μ, la, n) = k (μ (b + 151) i) (sh, μ, la, n) := X_li (h.2.2.2.2.2.2.2.2.2.2.2.1) hi (by decide) k
theorem TxS9 {sh : tw_Sh} {b n : Nat} {μ : Nat → Nat → Int32} {la : Nat → Nat → Int64} (h : tw_Tx sh b) {i : Nat} (hi : i < 400) (x : Int32) (k : tw_Mem → Prop) : tw_si (b + 151) (nI i) x k (sh, μ, la, n) = k (sh, tw_up μ (b + 151) i x, la, n) := X_si (h.2.2.2.2.2.2.2.2.2.2.2.1) hi (by decide) x k
theorem Rc_ext {sh : tw_Sh} {μ : Nat → Nat → Int32} {a : Nat} {T T' : Nat → Int32} (H : tw_RC sh μ a T) (h : ∀ j, j < 492 → T' j = T j) : tw_RC sh μ a T' := by
  obtain ⟨h1, h2, h3, ⟨s, hs, f1, f2⟩, h5, h6, ⟨x, hx, g1, g2⟩⟩ := H
  refine ⟨h1, ?_, ?_, ⟨s, hs, f1, ?_⟩, ?_, ?_, ⟨x, hx, g1, ?_⟩⟩
  · simp (disch := omega) only [h]; exact h2
  · intro q hq; simp (disch := omega) only [h]; exact h3 q hq
  · intro q hq; simp (disch := omega) only [h]; exact f2 q hq
  · intro q r hq hr; simp (disch := omega) only [h]; exact h5 q r hq hr
  · intro l2 q hl2 hq; simp (disch := omega) only [h]; exact h6 l2 q hl2 hq
  · intro k z h61 hz hk
    rw [h 6 (by omega)] at hz
    have r := g2 k z h61 hz hk
    unfold tw_row at r ⊢
    simp (disch := omega) only [h]
    exact r
theorem Wf_ext {T T' : Nat → Int32} {P : Nat} (W : tw_WF T P) (h : ∀ j, j < 492 → T' j = T j) : tw_WF T' P := by
  obtain ⟨w0, w1, w2, w3, w4, w5, w6, w7, w8, w9, w10⟩ := W
  refine ⟨?_, w1, ?_, ?_, ?_, ?_, ?_, ?_, ?_, ?_, ?_⟩
  · simp (disch := omega) only [h]; exact w0
  · simp (disch := omega) only [h]; exact w2
  · simp (disch := omega) only [h]; exact w3
  · simp (disch := omega) only [h]; exact w4
  · simp (disch := omega) only [h]; exact w5
  · simp (disch := omega) only [h]; exact w6
  · intro q hq; simp (disch := omega) only [h]; exact w7 q hq
  · intro q r hq hr; simp (disch := omega) only [h]; exact w8 q r hq hr
  · intro q hq; simp (disch := omega) only [h]; exact w9 q hq
  · intro k z h61 hz hk
    rw [h 6 (by omega)] at hz
    simp (disch := omega) only [h]
    exact w10 k z h61 hz hk
/-- the shapes: those of the class, of the model, of the law's row, of the script -/
def tw_SH (sh : tw_Sh) (a0 b lw kl L n : Nat) : Prop :=
  tw_Cx sh b ∧ tw_rr sh b 66 = some lw ∧ tw_rr sh b 67 = some kl ∧ (tw_Ta sh (b + 1) ∧ tw_Tx sh b) ∧ tw_Town sh (b + 3) ∧ tw_Town sh (b + 12) ∧ tw_Town sh (b + 21) ∧ tw_Me sh b ∧ (∀ i, i < 12 → tw_ai sh [3] (b + 31) (nI i) ∧ tw_rr sh (b + 31) i = some (b + 32 + 9 * i)) ∧ (∀ i, i < 12 → tw_Town sh (b + 32 + 9 * i)) ∧
  tw_Tw sh (b + 152) ∧ tw_Pa sh b ∧ tw_Se sh (b + 157) ∧ tw_Mo sh (b + 168) ∧ tw_ar sh (b + 181) 1 1 ∧ (∃ r, sh a0 = some (4, L, r)) ∧ L < 3073 ∧ a0 < b ∧ (lw = b + 162 ∨ b + 182 ≤ lw) ∧ (kl = b + 162 ∨ b + 182 ≤ kl) ∧ lw + 6 ≤ n ∧ kl + 6 ≤ n ∧ b + 182 ≤ n ∧ (lw = kl ∨ lw + 6 ≤ kl ∨ kl + 6 ≤ lw)
/-- acts remembered, the class: a ring of towns -/
def tw_Rcl (sh : tw_Sh) (μ : Nat → Nat → Int32) (b r x : Nat) (A : Nat → Nat → Int32) : Prop := r ≤ 12 ∧ x < 12 ∧ μ (b + 30) 23 = nI r ∧ μ (b + 30) 24 = nI x ∧ ∀ k, k < r → tw_RC sh μ (b + 32 + 9 * ((x + 11 - k) % 12)) (A k)
/-- acts remembered, the model: rows -/
def tw_Rmo (μ : Nat → Nat → Int32) (m r : Nat) (A : Nat → Nat → Int32) : Prop := μ m 77 = nI r ∧ ∀ k, k < r → ∀ j, j < 492 → μ (m + 5) (492 * (r - 1 - k) + j) = A k j
def tw_RM (sh : tw_Sh) (μ : Nat → Nat → Int32) (b : Nat) : Prop := ∃ r x A, tw_Rcl sh μ b r x A ∧ tw_Rmo μ (b + 168) r A ∧ ∀ k, k < r → ∃ P, tw_WF (A k) P ∧ A k 2 = μ (b + 169) 2
/-- the image -/
def tw_IM (sh : tw_Sh) (μ : Nat → Nat → Int32) (b kl : Nat) : Prop := (μ b 68 = nI 0 ∧ μ (b + 168) 76 = nI 0) ∨ (μ b 68 = nI 1 ∧ μ (b + 168) 76 = nI 1 ∧ ∃ P, tw_WF (μ (b + 170)) P ∧ tw_RC sh μ (b + 21) (μ (b + 170)) ∧ tw_La sh μ kl (μ (b + 170)))
/-- the tape: bytes, as they are and with a sign -/
def tw_TP (μ : Nat → Nat → Int32) (b : Nat) : Prop := ∃ e, e ≤ 400 ∧ μ (b + 1) 38 = nI e ∧ μ (b + 168) 79 = nI e ∧ ∀ j, j < e → ∃ B, B < 256 ∧ μ (b + 2) j = nI B ∧ μ (b + 174) j = vp_nar .byte (nI B)
/-- what lay there ahead of the class: the script, the words of the texts -/
abbrev tw_Gm : Type := tw_Sh × (Nat → Nat → Int32)
def tw_HF (G : tw_Gm) (sh : tw_Sh) (μ : Nat → Nat → Int32) (b : Nat) : Prop := μ b 69 = μ (b + 168) 84 ∧ ∀ x, x < b → sh x = G.1 x ∧ μ x = G.2 x
def tw_IV (G : tw_Gm) (a0 b L : Nat) (M : tw_Mem) : Prop := ∃ lw kl P, tw_SH M.1 a0 b lw kl L M.2.2.2 ∧ tw_WF (M.2.1 (b + 169)) P ∧ tw_RC M.1 M.2.1 (b + 3) (M.2.1 (b + 169)) ∧ tw_La M.1 M.2.1 lw (M.2.1 (b + 169)) ∧ tw_RM M.1 M.2.1 b ∧ tw_IM M.1 M.2.1 b kl ∧ tw_TP M.2.1 b ∧ tw_HF G M.1 M.2.1 b
/-- the class: only scratch has changed -/
def tw_qc (b lw : Nat) (μ μ' : Nat → Nat → Int32) : Prop := ∀ x, ¬ (b + 12 ≤ x ∧ x < b + 21) → ¬ (b + 152 ≤ x ∧ x < b + 162) → x ≠ lw + 1 → μ' x = μ x
/-- the model: only scratch has changed -/
def tw_qm (b : Nat) (μ μ' : Nat → Nat → Int32) : Prop := (∀ x, x ≠ b + 168 → x ≠ b + 171 → x ≠ b + 172 → ¬ (b + 175 ≤ x ∧ x < b + 181) → μ' x = μ x) ∧ ∀ j, j ≠ 70 → j ≠ 88 → μ' (b + 168) j = μ (b + 168) j
theorem tw_qc_r {b lw : Nat} {μ : Nat → Nat → Int32} : tw_qc b lw μ μ := fun _ _ _ _ => rfl
theorem tw_qc_t {b lw : Nat} {μ μ' μ'' : Nat → Nat → Int32} (h : tw_qc b lw μ μ') (h2 : tw_qc b lw μ' μ'') : tw_qc b lw μ μ'' := fun x a b c => (h2 x a b c).trans (h x a b c)
theorem tw_qc_w {b lw : Nat} {μ μ' : Nat → Nat → Int32} (h : tw_wr (b + 152) lw μ μ') : tw_qc b lw μ μ' := fun x _ h2 h3 => h x (by omega) h3
theorem tw_qc_s {b lw : Nat} {μ μ' : Nat → Nat → Int32} (h : tw_cq (b + 12) (b + 152) lw μ μ') : tw_qc b lw μ μ' := fun x h1 h2 h3 => h x (by omega) (by omega) h3
theorem tw_qc_x {b lw : Nat} {μ μ' : Nat → Nat → Int32} (h : tw_fx (b + 12) (b + 12 + 9) μ μ') : tw_qc b lw μ μ' := fun x h1 _ _ => h x (by omega)
theorem tw_qc_1 {b lw q i : Nat} {v : Int32} {μ : Nat → Nat → Int32} (h : b + 152 ≤ q ∧ q < b + 162) : tw_qc b lw μ (tw_up μ q i v) := fun x _ h2 _ => tw_up_ne (by omega)
theorem tw_qm_r {b : Nat} {μ : Nat → Nat → Int32} : tw_qm b μ μ := ⟨fun _ _ _ _ _ => rfl, fun _ _ _ => rfl⟩
theorem tw_qm_t {b : Nat} {μ μ' μ'' : Nat → Nat → Int32} (h : tw_qm b μ μ') (h2 : tw_qm b μ' μ'') : tw_qm b μ μ'' := ⟨fun x a b c d => (h2.1 x a b c d).trans (h.1 x a b c d), fun j a b => (h2.2 j a b).trans (h.2 j a b)⟩
theorem tw_qm_70 {b : Nat} {μ : Nat → Nat → Int32} {v : Int32} : tw_qm b μ (tw_up μ (b + 168) 70 v) := ⟨fun x a _ _ _ => tw_up_ne a, fun j a _ => tw_uk (by omega)⟩
theorem tw_qm_z {b : Nat} {μ μ' : Nat → Nat → Int32} (h : tw_mz (b + 168) μ μ') : tw_qm b μ μ' := by
  refine ⟨fun x h1 h2 h3 h4 => ?_, fun j _ h8 => h.2.2 j h8⟩
  by_cases e : x = b + 168 + 1
  · subst e
    exact h.1
  · exact h.2.1 x (by omega) e (by omega) (by omega)
theorem tw_qm_1 {b q i : Nat} {v : Int32} {μ : Nat → Nat → Int32} (h : b + 175 ≤ q ∧ q < b + 181) : tw_qm b μ (tw_up μ q i v) := ⟨fun x _ _ _ h4 => tw_up_ne (by omega), fun j _ _ => by rw [tw_up_ne (by omega)]⟩
theorem tw_RM_same {sh : tw_Sh} {μ μ' : Nat → Nat → Int32} {b : Nat} (H : tw_RM sh μ b) (h : ∀ x, (b + 30 ≤ x ∧ x < b + 140) ∨ x = b + 169 ∨ x = b + 173 → μ' x = μ x) (h77 : μ' (b + 168) 77 = μ (b + 168) 77) : tw_RM sh μ' b := by
  obtain ⟨r, x, A, ⟨hr, hx, e1, e2, e4⟩, ⟨e3, e5⟩, e6⟩ := H
  refine ⟨r, x, A, ⟨hr, hx, ?_, ?_, fun k hk => ?_⟩, ⟨h77.trans e3, fun k hk j hj => ?_⟩, fun k hk => ?_⟩
  · rw [h _ (by omega)]; exact e1
  · rw [h _ (by omega)]; exact e2
  · exact Rc_same (e4 k hk) (fun y h1 h2 => h y (by omega))
  · rw [h (b + 168 + 5) (by omega)]; exact e5 k hk j hj
  · rw [h (b + 169) (by omega)]; exact e6 k hk
theorem tw_IM_same {sh : tw_Sh} {μ μ' : Nat → Nat → Int32} {b kl : Nat} (H : tw_IM sh μ b kl) (h : ∀ x, x = b + 170 ∨ (b + 21 ≤ x ∧ x < b + 30) ∨ x = kl ∨ (kl + 2 ≤ x ∧ x ≤ kl + 5) → μ' x = μ x) (h68 : μ' b 68 = μ b 68) (h76 : μ' (b + 168) 76 = μ (b + 168) 76) : tw_IM sh μ' b kl := by
  rcases H with ⟨e1, e2⟩ | ⟨e1, e2, P, g1, g2, g3⟩
  · exact Or.inl ⟨h68.trans e1, h76.trans e2⟩
  · refine Or.inr ⟨h68.trans e1, h76.trans e2, P, ?_, ?_, ?_⟩
    · rw [h (b + 170) (by omega)]; exact g1
    · rw [h (b + 170) (by omega)]
      exact Rc_same g2 (fun y h1 h2 => h y (by omega))
    · rw [h (b + 170) (by omega)]
      exact tw_La_same g3 (fun x hx => h x (by omega)) rfl (fun _ _ => rfl)
theorem tw_TP_same {μ μ' : Nat → Nat → Int32} {b : Nat} (H : tw_TP μ b) (h1 : μ' (b + 1) = μ (b + 1)) (h2 : μ' (b + 2) = μ (b + 2)) (h3 : μ' (b + 168) 79 = μ (b + 168) 79) (h4 : μ' (b + 174) = μ (b + 174)) : tw_TP μ' b := by
  obtain ⟨e, he, e1, e2, e3⟩ := H
  refine ⟨e, he, ?_, h3.trans e2, fun j hj => ?_⟩
  · rw [h1]; exact e1
  · rw [h2, h4]; exact e3 j hj
theorem tw_SH_n {sh : tw_Sh} {a0 b lw kl L n n' : Nat} (H : tw_SH sh a0 b lw kl L n) (h : n ≤ n') : tw_SH sh a0 b lw kl L n' := by
  obtain ⟨h1, h2, h3, h4, h5, h6, h7, h8, h9, h10, h11, h12, h13, h14, h15, h16, h17, h18, h19, h20, h21, h22, h23, h24⟩ := H
  exact ⟨h1, h2, h3, h4, h5, h6, h7, h8, h9, h10, h11, h12, h13, h14, h15, h16, h17, h18, h19, h20, by omega, by omega, by omega, h24⟩
/-- a question changes nothing of what holds -/
theorem tw_IV_q {sh : tw_Sh} {μ μ1 μ2 : Nat → Nat → Int32} {la' : Nat → Nat → Int64} {n n' a0 b lw kl L P : Nat} (hS : tw_SH sh a0 b lw kl L n) (W : tw_WF (μ (b + 169)) P) (H : tw_RC sh μ (b + 3) (μ (b + 169))) (HL : tw_La sh μ lw (μ (b + 169))) (HR : tw_RM sh μ b) (HI : tw_IM sh μ b kl) (HT : tw_TP μ b) {G : tw_Gm} (hf : tw_HF G sh μ b) (h1 : tw_qc b lw μ μ1) (h2 : tw_qm b μ1 μ2) (hn : n ≤ n') : tw_IV G a0 b L (sh, μ2, la', n') := by
  have hl := hS.2.2.2.2.2.2.2.2.2.2.2.2.2.2.2.2.2.2.1
  have hk := hS.2.2.2.2.2.2.2.2.2.2.2.2.2.2.2.2.2.2.2.1
  have hlk := hS.2.2.2.2.2.2.2.2.2.2.2.2.2.2.2.2.2.2.2.2.2.2.2
  have g : ∀ x, ¬ (b + 12 ≤ x ∧ x < b + 21) → ¬ (b + 152 ≤ x ∧ x < b + 162) → x ≠ lw + 1 → x ≠ b + 168 → x ≠ b + 171 → x ≠ b + 172 → ¬ (b + 175 ≤ x ∧ x < b + 181) → μ2 x = μ x := fun x a1 a2 a3 a4 a5 a6 a7 => (h2.1 x a4 a5 a6 a7).trans (h1 x a1 a2 a3)
  have gm : ∀ j, j ≠ 70 → j ≠ 88 → μ2 (b + 168) j = μ (b + 168) j := fun j a1 a2 => (h2.2 j a1 a2).trans (by rw [h1 (b + 168) (by omega) (by omega) (by omega)])
  have gw : μ2 (b + 169) = μ (b + 169) := g _ (by omega) (by omega) (by omega) (by omega) (by omega) (by omega) (by omega)
  refine ⟨lw, kl, P, tw_SH_n hS hn, ?_, ?_, ?_, ?_, ?_, ?_, ?_⟩
  · show tw_WF (μ2 (b + 169)) P
    rw [gw]; exact W
  · show tw_RC sh μ2 (b + 3) (μ2 (b + 169))
    rw [gw]
    exact Rc_same H (fun x a1 a2 => g x (by omega) (by omega) (by omega) (by omega) (by omega) (by omega) (by omega))
  · show tw_La sh μ2 lw (μ2 (b + 169))
    rw [gw]
    exact tw_La_same HL (fun x hx => g x (by omega) (by omega) (by omega) (by omega) (by omega) (by omega) (by omega)) rfl (fun _ _ => rfl)
  · exact tw_RM_same HR (fun x hx => g x (by omega) (by omega) (by omega) (by omega) (by omega) (by omega) (by omega)) (gm 77 (by omega) (by omega))
  · exact tw_IM_same HI (fun x hx => g x (by omega) (by omega) (by omega) (by omega) (by omega) (by omega) (by omega)) (congrFun (g b (by omega) (by omega) (by omega) (by omega) (by omega) (by omega) (by omega)) 68) (gm 76 (by omega) (by omega))
  · exact tw_TP_same HT (g _ (by omega) (by omega) (by omega) (by omega) (by omega) (by omega) (by omega)) (g _ (by omega) (by omega) (by omega) (by omega) (by omega) (by omega) (by omega)) (gm 79 (by omega) (by omega)) (g _ (by omega) (by omega) (by omega) (by omega) (by omega) (by omega) (by omega))
  · refine ⟨?_, fun x hx => ⟨(hf.2 x hx).1, (g x (by omega) (by omega) (by omega) (by omega) (by omega) (by omega) (by omega)).trans (hf.2 x hx).2⟩⟩
    show μ2 b 69 = μ2 (b + 168) 84
    rw [g b (by omega) (by omega) (by omega) (by omega) (by omega) (by omega) (by omega), gm 84 (by omega) (by omega)]
    exact hf.1
