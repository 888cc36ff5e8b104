/-! ===== pure: a town taken over ===== -/
/-- nothing but lo .. hi - 1 has changed -/
def tw_fx (lo hi : Nat) (μ μ' : Nat → Nat → Int32) : Prop := ∀ x, x < lo ∨ hi ≤ x → μ' x = μ x
theorem tw_un {f : Nat → Nat → Int32} {a k x j : Nat} {v : Int32} (h : x < a ∨ a < x) : tw_up f a k v x j = f x j := if_neg (by omega)
theorem tw_uk {f : Nat → Nat → Int32} {a k j : Nat} {v : Int32} (h : j < k ∨ k < j) : tw_up f a k v a j = f a j := (if_pos rfl).trans (if_neg (by omega))
theorem tw_ua {f : Nat → Nat → Int32} {a k : Nat} {v : Int32} : tw_up f a k v a k = v := (if_pos rfl).trans (if_pos rfl)
theorem tw_cpf_ne {f : Nat → Nat → Int32} {a sp b dp n x j : Nat} (h : x < b ∨ b < x) : tw_cpf f a sp b dp n x j = f x j := if_neg (by omega)
theorem tw_cpf_in {f : Nat → Nat → Int32} {a sp b dp n j : Nat} (h1 : dp ≤ j) (h2 : j < dp + n) : tw_cpf f a sp b dp n b j = f a (sp + (j - dp)) := (if_pos rfl).trans (if_pos ⟨h1, h2⟩)
theorem tw_cpf_out {f : Nat → Nat → Int32} {a sp b dp n j : Nat} (h : j < dp ∨ dp + n ≤ j) : tw_cpf f a sp b dp n b j = f b j := (if_pos rfl).trans (if_neg (by omega))
theorem tw_cp_ar {sh : tw_Sh} {μ : Nat → Nat → Int32} {la : Nat → Nat → Int64} {N a b na nb sp dp n : Nat} (ha : tw_ar sh a 0 na) (hb : tw_ar sh b 0 nb) (hne : a < b ∨ b < a) (hs : sp + n ≤ na) (hd : dp + n ≤ nb) (h1 : sp < 2147483648) (h2 : dp < 2147483648) (h3 : n < 2147483648) (k : tw_Mem → Prop) : tw_cp a (nI sp) b (nI dp) (nI n) k (sh, μ, la, N) = k (sh, tw_cpf μ a sp b dp n, la, N) := by
  obtain ⟨r, hr⟩ := ha
  obtain ⟨q, hq⟩ := hb
  unfold tw_cp
  simp only [nI_clamp h1, nI_clamp h2, nI_clamp h3]
  apply propext; constructor
  · intro h; exact h.2.2.2.2.2.2
  · intro h; exact ⟨by omega, nI_pos h1, nI_pos h2, nI_pos h3, ⟨_, hr, rfl, hs⟩, ⟨_, hq, rfl, hd⟩, h⟩
section P8
variable {sh : tw_Sh} {μ : Nat → Nat → Int32} {la : Nat → Nat → Int64} {n a b m P : Nat} {p o l h j z c : Nat} {T : Nat → Int32}
theorem c_takeE (hA : tw_Town sh a) (hB : tw_Town sh b) (hd : a + 9 ≤ b ∨ b + 9 ≤ a) : ∃ μ', (∀ k, f_X8_take a b k (sh, μ, la, n) = k () (sh, μ', la, n)) ∧ tw_fx a (a + 9) μ μ' ∧ (∀ q, 46 ≤ q → q < 53 → μ' a q = μ b q) ∧ (∀ q, q < 8 → μ' (a + 1) q = μ (b + 1) q ∧ μ' (a + 2) q = μ (b + 2) q ∧ μ' (a + 3) q = μ (b + 3) q) ∧ (∀ q, q < 64 → μ' (a + 4) q = μ (b + 4) q ∧ μ' (a + 5) q = μ (b + 5) q) ∧ (∀ q, q < 24 → μ' (a + 6) q = μ (b + 6) q) ∧ μ' (a + 7) 20 = μ (b + 7) 20 ∧ μ' (a + 7) 21 = μ (b + 7) 21 ∧ (∀ q, q < 60 → μ' (a + 8) q = μ (b + 8) q) := by
  apply Exists.intro
  refine ⟨fun k => ?_, ?_⟩
  · simp (disch := omega) only [f_X8_take, f_X2_take, tw_cp_ar hB.2.2.1 hA.2.2.1, tw_cp_ar hB.2.2.2.1 hA.2.2.2.1, tw_cp_ar hB.2.2.2.2.1 hA.2.2.2.2.1, tw_cp_ar hB.2.2.2.2.2.1 hA.2.2.2.2.2.1, tw_cp_ar hB.2.2.2.2.2.2.1 hA.2.2.2.2.2.2.1, tw_cp_ar hB.2.2.2.2.2.2.2.1 hA.2.2.2.2.2.2.2.1, tw_cp_ar hB.2.2.2.2.2.2.2.2.1 hA.2.2.2.2.2.2.2.2.1, Tn_is hA, Tn_il hA, Tn_f46 hA, Tn_f47 hA, Tn_f48 hA, Tn_f49 hA, Tn_f50 hA, Tn_f51 hA, Tn_f52 hA, Tn_f39 hA, Tn_f40 hA, Tn_f41 hA, Tn_f42 hA, Tn_f43 hA, Tn_f44 hA, Tn_f45 hA, Tn_f19 hA, Tn_f20 hA, Tn_f21 hA, Tn_r39 hA, Tn_r40 hA, Tn_r41 hA, Tn_r42 hA, Tn_r43 hA, Tn_r44 hA, Tn_r45 hA, Tn_r19 hA, Tn_is hB, Tn_il hB, Tn_f46 hB, Tn_f47 hB, Tn_f48 hB, Tn_f49 hB, Tn_f50 hB, Tn_f51 hB, Tn_f52 hB, Tn_f39 hB, Tn_f40 hB, Tn_f41 hB, Tn_f42 hB, Tn_f43 hB, Tn_f44 hB, Tn_f45 hB, Tn_f19 hB, Tn_f20 hB, Tn_f21 hB, Tn_r39 hB, Tn_r40 hB, Tn_r41 hB, Tn_r42 hB, Tn_r43 hB, Tn_r44 hB, Tn_r45 hB, Tn_r19 hB, tw_if, tw_iv, tw_iw, tw_ij, tw_jn, tw_lt, tw_gi, tw_gr, tw_pi, tw_pz, tw_pr, tw_li, tw_lb, tw_ll, tw_la, tw_si, tw_sb, tw_sl, tw_sa, tw_al, tw_na, tw_nw, tw_rz, tw_rn, tw_nzi, tw_nzl, tw_nn, true_and, and_true, Option.some.injEq, exists_eq_left', if_true, if_false, ite_true, ite_false, reduceIte, tl_0, tl_1, tl_2, tl_3, tl_4, tl_5, tl_6, tl_7, tl_8, tl_9, tl_10, tl_11, tl_12, tl_13, tl_14, tl_15, tl_16, tl_17, tl_18, tl_19, tl_20, tl_21, tl_22, tl_23, tl_24, tl_25, tl_26, tl_27, tl_28, tl_29, tl_30, tl_31, tl_32, tl_33, tl_34, tl_35, tl_36, tl_37, tl_38, tl_39, tl_40, tl_41, tl_42, tl_43, tl_44, tl_45, tl_46, tl_47, tl_48, tl_49, tl_50, tl_51, tl_52, tl_53, tl_54, tl_57, tl_59, tl_60, tl_62, tl_63, tl_64, tl_97, tl_99, tl_100, tl_120, tl_122, tl_192, tl_193, tl_194, tl_195, tl_196, tl_255, tl_256, tl_299, tl_400, tl_401, tl_492, tl_493, tl_541, tl_849, tl_999, tl_1000, tl_1341, tl_1342, tl_1390, tl_2190, tl_5412, tl_5904, tl_9999, tl_12345, tl_32767, tl_65536, tl_1000000, tl_252645135, tl_858993459, tl_1103515245, tl_1431655765, nz_31, nz_c31, eq_self, or_true, true_or, or_false, false_or, Nat.add_zero, nz_lt, nz_le, nz_eq, nz_cl, nz_sub, nI_add, pk_mul, nt_lt, nf_lt, nf_eq, nz_mI, mI_eq, mI_eq', mI_lt, mI_gt]
    rfl
  · refine ⟨?_, ?_, ?_, ?_, ?_, ?_, ?_, ?_⟩
    · intro x hx
      funext j
      simp (disch := omega) only [↓tw_un, ↓tw_uk, ↓tw_ua, ↓tw_cpf_ne, ↓tw_cpf_in, ↓tw_cpf_out, Nat.sub_zero, Nat.zero_add, and_self, true_and]
    · intro q h1 h2
      rcases (by omega : q = 46 ∨ q = 47 ∨ q = 48 ∨ q = 49 ∨ q = 50 ∨ q = 51 ∨ q = 52) with rfl | rfl | rfl | rfl | rfl | rfl | rfl <;> simp (disch := omega) only [↓tw_un, ↓tw_uk, ↓tw_ua, ↓tw_cpf_ne, ↓tw_cpf_in, ↓tw_cpf_out, Nat.sub_zero, Nat.zero_add, and_self, true_and]
    · intro q hq
      have q0 : 0 ≤ q := Nat.zero_le q
      simp (disch := omega) only [↓tw_un, ↓tw_uk, ↓tw_ua, ↓tw_cpf_ne, ↓tw_cpf_in, ↓tw_cpf_out, Nat.sub_zero, Nat.zero_add, and_self, true_and]
    · intro q hq
      have q0 : 0 ≤ q := Nat.zero_le q
      simp (disch := omega) only [↓tw_un, ↓tw_uk, ↓tw_ua, ↓tw_cpf_ne, ↓tw_cpf_in, ↓tw_cpf_out, Nat.sub_zero, Nat.zero_add, and_self, true_and]
    · intro q hq
      have q0 : 0 ≤ q := Nat.zero_le q
      simp (disch := omega) only [↓tw_un, ↓tw_uk, ↓tw_ua, ↓tw_cpf_ne, ↓tw_cpf_in, ↓tw_cpf_out, Nat.sub_zero, Nat.zero_add, and_self, true_and]
    · simp (disch := omega) only [↓tw_un, ↓tw_uk, ↓tw_ua, ↓tw_cpf_ne, ↓tw_cpf_in, ↓tw_cpf_out, Nat.sub_zero, Nat.zero_add, and_self, true_and]
    · simp (disch := omega) only [↓tw_un, ↓tw_uk, ↓tw_ua, ↓tw_cpf_ne, ↓tw_cpf_in, ↓tw_cpf_out, Nat.sub_zero, Nat.zero_add, and_self, true_and]
    · intro q hq
      have q0 : 0 ≤ q := Nat.zero_le q
      simp (disch := omega) only [↓tw_un, ↓tw_uk, ↓tw_ua, ↓tw_cpf_ne, ↓tw_cpf_in, ↓tw_cpf_out, Nat.sub_zero, Nat.zero_add, and_self, true_and]
end P8
