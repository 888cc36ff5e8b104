/-! ===== pure: constants' letters, what the class takes ===== -/
def tw_chs (tx : String) : List Nat := tx.toList.map Char.toNat
def tw_ch (tx : String) (j : Nat) : Nat := (tw_chs tx).getD j 0
def tw_wln (tx : String) : Nat := (tw_chs tx).length
/-- a word's number -/
def tw_wc (tx : String) : Nat := tw_wo (tw_ch tx) 0 (tw_wln tx)
def tw_words : List String := ["person", "guess", "rope", "doubt", "hour", "day", "at", "roams", "pay", "sworn", "hush", "tell", "if", "near", "rang", "one", "other", "back", "rung", "and", "or", "not"]
theorem tw_words_s : ∀ tx ∈ tw_words, 0 < tw_wln tx ∧ tw_wln tx ≤ 6 ∧ ∀ j, j < tw_wln tx → 97 ≤ tw_ch tx j ∧ tw_ch tx j ≤ 122 := by decide +kernel
/-- a constant that lay there ahead of the class -/
def tw_Sw (G : tw_Gm) (b a : Nat) (tx : String) : Prop := a < b ∧ tx ∈ tw_words ∧ ∃ n r v, G.1 a = some (6, n, r) ∧ r 1 = some v ∧ v < b ∧ tw_ar G.1 v 5 (tw_wln tx) ∧ G.2 a 0 = nI 0 ∧ ∀ j, j < tw_wln tx → G.2 v j = nI (tw_ch tx j)
def tw_GS (g : tw_Gx) (G : tw_Gm) (b : Nat) : Prop := ∀ own ix tx, Cond.stringRef own ix tx ∈ lw_tbl → tx ∈ tw_words → (∃ a, vk_R own ix tx a (tw_s0 g)) ∧ ∀ a, vk_R own ix tx a (tw_s0 g) → tw_Sw G b a tx
def tw_GH (G : tw_Gm) (sh : tw_Sh) (μ : Nat → Nat → Int32) (b : Nat) : Prop := ∀ x, x < b → sh x = G.1 x ∧ μ x = G.2 x
theorem tw_sh0 : ∀ l : Fin 7, nI l.1 >>> (nI 0 &&& 31) = nI l.1 := by decide +kernel
theorem tw_chc : ∀ c : Fin 128, (((nI c.1 &&& (255 : Int32)).toUInt32 % 65536).toInt32) = nI c.1 := by decide +kernel
theorem tw_chn : ∀ c : Fin 128, vp_nar .char (nI c.1) = nI c.1 := by decide +kernel
theorem tw_nar0 : vp_nar .byte (nI 0) = nI 0 := by decide +kernel
theorem tw_rn_c {c : Nat} (h : c < 128) (F : tw_Mem → Prop) (M : tw_Mem) : tw_rn .char (nI c) F M = F M := by
  rw [A_rn]
  apply propext
  exact ⟨fun g => g.2, fun g => ⟨by have := tw_chn ⟨c, h⟩; show Value.int (vp_nar .char (nI c)) = _; rw [this], g⟩⟩
theorem tw_rn_0 (F : tw_Mem → Prop) (M : tw_Mem) : tw_rn .byte (nI 0) F M = F M := by
  rw [A_rn]
  apply propext
  exact ⟨fun g => g.2, fun g => ⟨by show Value.int (vp_nar .byte (nI 0)) = _; rw [tw_nar0], g⟩⟩
section P98
variable {sh : tw_Sh} {μ ν : Nat → Nat → Int32} {la : Nat → Nat → Int64} {n a b x m : Nat} {G : tw_Gm} {tx : String} {B : Nat → Nat} {e i : Nat}
theorem tw_GH_ar {N tag v : Nat} (hG : tw_GH G sh μ b) (hv : v < b) (h : tw_ar G.1 v tag N) : tw_ar sh v tag N := by
  obtain ⟨r, hr⟩ := h
  exact ⟨r, (hG v hv).1.trans hr⟩
theorem c_ij (hG : tw_GH G sh μ b) (S : tw_Sw G b a tx) (F : tw_Mem → Prop) : tw_ij a F (sh, μ, la, n) = F (sh, μ, la, n) := by
  obtain ⟨h1, _, N, r, v, h2, _⟩ := S
  rw [A_ij]
  apply propext
  exact ⟨fun g => g.2, fun g => ⟨⟨N, r, (hG a h1).1.trans h2⟩, g⟩⟩
theorem c_sv (hG : tw_GH G sh μ b) (S : tw_Sw G b a tx) : ∃ v, v < b ∧ tw_ar sh v 5 (tw_wln tx) ∧ (∀ j, j < tw_wln tx → μ v j = nI (tw_ch tx j)) ∧ ∀ F : Nat → tw_Mem → Prop, ∀ (la : Nat → Nat → Int64) (n : Nat), tw_sv a F (sh, μ, la, n) = F v (sh, μ, la, n) := by
  obtain ⟨h1, _, N, r, v, h2, h3, h4, h5, h6, h7⟩ := S
  refine ⟨v, h4, tw_GH_ar hG h4 h5, fun j hj => ?_, fun F la n => ?_⟩
  · rw [(hG v h4).2]; exact h7 j hj
  · have e := (hG a h1).1.trans h2
    apply propext
    constructor
    · rintro ⟨n2, r2, g1, g2⟩
      have e2 : some (6, n2, r2) = some (6, N, r) := g1.symm.trans e
      injection e2 with e3
      injection e3 with _ e4
      injection e4 with _ e5
      exact g2 v (by rw [e5]; exact h3)
    · intro g
      refine ⟨N, r, e, fun v2 hv2 => ?_⟩
      have : v = v2 := Option.some.inj (h3.symm.trans hv2)
      rw [← this]
      exact g
theorem c_sc (hG : tw_GH G sh μ b) (S : tw_Sw G b a tx) (F : Int32 → tw_Mem → Prop) : tw_sc a F (sh, μ, la, n) = F (nI 0) (sh, μ, la, n) := by
  obtain ⟨h1, _, N, r, v, h2, h3, h4, h5, h6, h7⟩ := S
  have e := (hG a h1).1.trans h2
  have e0 : μ a 0 = nI 0 := by rw [(hG a h1).2]; exact h6
  apply propext
  constructor
  · rintro ⟨n2, r2, g1, g2⟩
    have g2 : F (μ a 0) (sh, μ, la, n) := g2
    rw [e0] at g2
    exact g2
  · intro g
    refine ⟨N, r, e, ?_⟩
    show F (μ a 0) (sh, μ, la, n)
    rw [e0]
    exact g
theorem c_len (hG : tw_GH G sh μ b) (S : tw_Sw G b a tx) (k : Int32 → tw_Mem → Prop) : f_J0_length_8abf5 a k (sh, μ, la, n) = k (nI (tw_wln tx)) (sh, μ, la, n) := by
  obtain ⟨v, hv, har, hc, E⟩ := c_sv hG S
  have hw := tw_words_s tx S.2.1
  have e0 := tw_sh0 ⟨tw_wln tx, by omega⟩
  have n10 : ¬ (1 : Int32) = 0 := by decide
  unfold f_J0_length_8abf5 f_J0_coder_7d493
  rw [E, tw_al_ar har (by decide), c_ij hG S, A_if, if_neg n10, c_sc hG S, tw_rn_0]
  exact congrArg (fun z => k z (sh, μ, la, n)) e0
theorem c_chr (hG : tw_GH G sh μ b) (S : tw_Sw G b a tx) {j : Nat} (hj : j < tw_wln tx) (k : Int32 → tw_Mem → Prop) : f_J0_charAt_5068e a (nI j) k (sh, μ, la, n) = k (nI (tw_ch tx j)) (sh, μ, la, n) := by
  obtain ⟨v, hv, har, hc, E⟩ := c_sv hG S
  have hw := tw_words_s tx S.2.1
  have hcj := hw.2.2 j hj
  have e1 := tw_chc ⟨tw_ch tx j, by omega⟩
  have n10 : ¬ (1 : Int32) = 0 := by decide
  have n10' : ¬ (nI 1) = 0 := by decide
  have e00 : (nI 0 = (0 : Int32)) = True := eq_true rfl
  have hj0 : ¬ nI j < 0 := by
    have : (0 : Int32) = nI 0 := rfl
    rw [this, nz_lt (by omega) (by omega)]
    omega
  have hjl : nI j < nI (tw_wln tx) := by rw [nz_lt (by omega) (by omega)]; exact hj
  have hlb : ∀ F : Int32 → tw_Mem → Prop, tw_lb v (nI j) F (sh, μ, la, n) = F (nI (tw_ch tx j)) (sh, μ, la, n) := fun F => by
    rw [A_lb, tw_ar_ai har (by decide) hj (by omega), nz_cl (by omega), true_and, hc j hj]
  unfold f_J0_charAt_5068e f_J0_isLatin1_aae02 f_J1_charAt_3b067 f_J0_checkIndex_df160 f_J3_checkIndex_8e157
  have hlt : tw_ch tx j < 128 := by omega
  simp only [↓c_ij hG S, ↓c_sc hG S, ↓E, ↓tw_al_ar har (by decide), ↓A_if, ↓A_rz, n10, e00, hj0, hjl, ↓hlb, ↓A_jn, if_true, if_false, e1, ↓tw_rn_c hlt, forall_const, true_and, or_true, true_or, ↓reduceIte]
/-- a text: things taken apart, and which is next -/
def tw_Xs (sh : tw_Sh) (x t : Nat) : Prop := (tw_is sh x 1 ∨ tw_is sh x 8) ∧ tw_ar sh (x + 1) 0 401 ∧ tw_ar sh (x + 2) 0 401 ∧ tw_ar sh (x + 3) 0 401 ∧ (tw_fo sh x 6 true ∧ tw_rr sh x 6 = some t) ∧ (tw_fo sh x 7 true ∧ tw_rr sh x 7 = some (x + 1)) ∧ (tw_fo sh x 8 true ∧ tw_rr sh x 8 = some (x + 2)) ∧ (tw_fo sh x 9 true ∧ tw_rr sh x 9 = some (x + 3)) ∧ tw_fo sh x 10 false ∧ tw_fo sh x 11 false ∧ tw_fo sh x 12 false
theorem tw_Xs_9 (h : tw_Tx sh b) : tw_Xs sh (b + 140) (b + 1) := ⟨Or.inr (of_eq_true (Tx_is0 h)), h.2.2.1, h.2.2.2.1, h.2.2.2.2.1, ⟨of_eq_true (Tx_f0_6 h), Tx_r0_6 h⟩, ⟨of_eq_true (Tx_f0_7 h), Tx_r1_7 h⟩, ⟨of_eq_true (Tx_f0_8 h), Tx_r2_8 h⟩, ⟨of_eq_true (Tx_f0_9 h), Tx_r3_9 h⟩, of_eq_true (Tx_f0_10 h), of_eq_true (Tx_f0_11 h), of_eq_true (Tx_f0_12 h)⟩
theorem tw_Xs_1 (h : tw_Tx sh b) : tw_Xs sh (b + 144) (b + 1) := ⟨Or.inl (of_eq_true (Tx_is1 h)), h.2.2.2.2.2.1, h.2.2.2.2.2.2.1, h.2.2.2.2.2.2.2.1, ⟨of_eq_true (Tx_f1_6 h), Tx_r5_6 h⟩, ⟨of_eq_true (Tx_f1_7 h), Tx_r6_7 h⟩, ⟨of_eq_true (Tx_f1_8 h), Tx_r7_8 h⟩, ⟨of_eq_true (Tx_f1_9 h), Tx_r8_9 h⟩, of_eq_true (Tx_f1_10 h), of_eq_true (Tx_f1_11 h), of_eq_true (Tx_f1_12 h)⟩
theorem tw_gr_is {q y z : Nat} (h : tw_fo sh y q true ∧ tw_rr sh y q = some z) (k : Nat → tw_Mem → Prop) : tw_gr q y k (sh, μ, la, n) = k z (sh, μ, la, n) := by
  rw [A_gr, h.2, eq_true h.1, true_and]; simp only [Option.some.injEq, exists_eq_left']
theorem tw_gi_is {q y : Nat} (h : tw_fo sh y q false) (k : Int32 → tw_Mem → Prop) : tw_gi q y k (sh, μ, la, n) = k (μ y q) (sh, μ, la, n) := by rw [A_gi, eq_true h, true_and]
theorem tw_pi_is {q y : Nat} (h : tw_fo sh y q false) (v : Int32) (k : tw_Mem → Prop) : tw_pi q y v k (sh, μ, la, n) = k (sh, tw_up μ y q v, la, n) := by rw [A_pi, eq_true h, true_and]
theorem XsW {t : Nat} (h : tw_Xs sh x t) (F : tw_Mem → Prop) : tw_iw x F (sh, μ, la, n) = F (sh, μ, la, n) := by rw [A_iw, eq_true h.1, true_and]
theorem XsG6 {t : Nat} (h : tw_Xs sh x t) (k : Nat → tw_Mem → Prop) : tw_gr 6 x k (sh, μ, la, n) = k t (sh, μ, la, n) := tw_gr_is h.2.2.2.2.1 k
theorem XsG7 {t : Nat} (h : tw_Xs sh x t) (k : Nat → tw_Mem → Prop) : tw_gr 7 x k (sh, μ, la, n) = k (x + 1) (sh, μ, la, n) := tw_gr_is h.2.2.2.2.2.1 k
theorem XsG8 {t : Nat} (h : tw_Xs sh x t) (k : Nat → tw_Mem → Prop) : tw_gr 8 x k (sh, μ, la, n) = k (x + 2) (sh, μ, la, n) := tw_gr_is h.2.2.2.2.2.2.1 k
theorem XsG9 {t : Nat} (h : tw_Xs sh x t) (k : Nat → tw_Mem → Prop) : tw_gr 9 x k (sh, μ, la, n) = k (x + 3) (sh, μ, la, n) := tw_gr_is h.2.2.2.2.2.2.2.1 k
theorem XsI10 {t : Nat} (h : tw_Xs sh x t) (k : Int32 → tw_Mem → Prop) : tw_gi 10 x k (sh, μ, la, n) = k (μ x 10) (sh, μ, la, n) := tw_gi_is h.2.2.2.2.2.2.2.2.1 k
theorem XsI11 {t : Nat} (h : tw_Xs sh x t) (k : Int32 → tw_Mem → Prop) : tw_gi 11 x k (sh, μ, la, n) = k (μ x 11) (sh, μ, la, n) := tw_gi_is h.2.2.2.2.2.2.2.2.2.1 k
theorem XsI12 {t : Nat} (h : tw_Xs sh x t) (k : Int32 → tw_Mem → Prop) : tw_gi 12 x k (sh, μ, la, n) = k (μ x 12) (sh, μ, la, n) := tw_gi_is h.2.2.2.2.2.2.2.2.2.2 k
theorem XsP10 {t : Nat} (h : tw_Xs sh x t) (v : Int32) (k : tw_Mem → Prop) : tw_pi 10 x v k (sh, μ, la, n) = k (sh, tw_up μ x 10 v, la, n) := tw_pi_is h.2.2.2.2.2.2.2.2.1 v k
theorem XsP11 {t : Nat} (h : tw_Xs sh x t) (v : Int32) (k : tw_Mem → Prop) : tw_pi 11 x v k (sh, μ, la, n) = k (sh, tw_up μ x 11 v, la, n) := tw_pi_is h.2.2.2.2.2.2.2.2.2.1 v k
theorem XsP12 {t : Nat} (h : tw_Xs sh x t) (v : Int32) (k : tw_Mem → Prop) : tw_pi 12 x v k (sh, μ, la, n) = k (sh, tw_up μ x 12 v, la, n) := tw_pi_is h.2.2.2.2.2.2.2.2.2.2 v k
theorem XsL1 {t : Nat} (h : tw_Xs sh x t) {i : Nat} (hi : i < 401) (k : Int32 → tw_Mem → Prop) : tw_li (x + 1) (nI i) k (sh, μ, la, n) = k (μ (x + 1) i) (sh, μ, la, n) := X_li h.2.1 hi (by decide) k
theorem XsL2 {t : Nat} (h : tw_Xs sh x t) {i : Nat} (hi : i < 401) (k : Int32 → tw_Mem → Prop) : tw_li (x + 2) (nI i) k (sh, μ, la, n) = k (μ (x + 2) i) (sh, μ, la, n) := X_li h.2.2.1 hi (by decide) k
theorem XsL3 {t : Nat} (h : tw_Xs sh x t) {i : Nat} (hi : i < 401) (k : Int32 → tw_Mem → Prop) : tw_li (x + 3) (nI i) k (sh, μ, la, n) = k (μ (x + 3) i) (sh, μ, la, n) := X_li h.2.2.2.1 hi (by decide) k
theorem XsS1 {t : Nat} (h : tw_Xs sh x t) {i : Nat} (hi : i < 401) (v : Int32) (k : tw_Mem → Prop) : tw_si (x + 1) (nI i) v k (sh, μ, la, n) = k (sh, tw_up μ (x + 1) i v, la, n) := X_si h.2.1 hi (by decide) v k
theorem XsS2 {t : Nat} (h : tw_Xs sh x t) {i : Nat} (hi : i < 401) (v : Int32) (k : tw_Mem → Prop) : tw_si (x + 2) (nI i) v k (sh, μ, la, n) = k (sh, tw_up μ (x + 2) i v, la, n) := X_si h.2.2.1 hi (by decide) v k
theorem XsS3 {t : Nat} (h : tw_Xs sh x t) {i : Nat} (hi : i < 401) (v : Int32) (k : tw_Mem → Prop) : tw_si (x + 3) (nI i) v k (sh, μ, la, n) = k (sh, tw_up μ (x + 3) i v, la, n) := X_si h.2.2.2.1 hi (by decide) v k
/-- the things as they were taken apart -/
def tw_TX (μ : Nat → Nat → Int32) (x : Nat) (B : Nat → Nat) (e t : Nat) : Prop := t ≤ e ∧ e ≤ 400 ∧ tw_tg B e t = e ∧ (∀ i, i < t → tw_tg B e i < e) ∧ ∀ i, i ≤ t → μ (x + 1) i = nI (tw_tk B e (tw_tg B e i)) ∧ μ (x + 2) i = nI (tw_tv B e (tw_tg B e i)) ∧ μ (x + 3) i = nI (tw_tg B e i)
abbrev tw_kd (B : Nat → Nat) (e i : Nat) : Nat := tw_tk B e (tw_tg B e i)
abbrev tw_vd (B : Nat → Nat) (e i : Nat) : Nat := tw_tv B e (tw_tg B e i)
theorem tw_sh5 {v c : Nat} (hv : v < 2 ^ 25) (hc : c < 32) : (nI v <<< (nI 5 &&& 31)) ||| nI c = nI (32 * v + c) := by
  have e5 : nI 5 &&& 31 = nI 5 := by decide
  have e1 : nI v <<< nI 5 = nI (v <<< 5) := by
    apply Int32.toBitVec_inj.mp
    show BitVec.ofNat 32 v <<< ((BitVec.ofNat 32 5).smod 32).toNat = BitVec.ofNat 32 (v <<< 5)
    have e : ((BitVec.ofNat 32 5).smod 32).toNat = 5 := by decide
    rw [e]
    apply BitVec.eq_of_toNat_eq
    rw [BitVec.toNat_shiftLeft, BitVec.toNat_ofNat, BitVec.toNat_ofNat, Nat.mod_eq_of_lt (show v < 2 ^ 32 by omega)]
  rw [e5, e1, nI_or]
  congr 1
  have h := Nat.shiftLeft_add_eq_or_of_lt (show c < 2 ^ 5 by omega) v
  rw [← h, Nat.shiftLeft_eq]
  omega
theorem tw_wo_lt2 {B : Nat → Nat} {x k : Nat} (h : ∀ j, j < k → 97 ≤ B (x + j) ∧ B (x + j) ≤ 122) (hk : k ≤ 6) : tw_wo B x k < 2 ^ 30 := by
  have h1 := tw_wo_lt k h
  have h2 : 32 ^ k ≤ 32 ^ 6 := Nat.pow_le_pow_right (by omega) hk
  have h3 : (32 : Nat) ^ 6 = 2 ^ 30 := by decide
  omega
/-- a constant's number, letter by letter -/
theorem c_wcode (hG : tw_GH G sh μ b) (S : tw_Sw G b a tx) {K : Int32 → tw_Mem → Prop} {bd : (Int32 × Int32 → tw_Mem → Prop) → Int32 × Int32 → tw_Mem → Prop} (hbd : ∀ rec s, bd rec s = tw_ij a (f_J0_length_8abf5 a (fun x3 => tw_if (s.2 < x3) (tw_ij a (f_J0_charAt_5068e a s.2 (fun x12 => tw_lt ((s.1 <<< ((5 : Int32) &&& 31)) ||| ((x12 - (97 : Int32)) + (1 : Int32))) fun x13 => rec (x13, s.2 + (1 : Int32))))) (K s.1)))) : tw_lp bd (nI 0, nI 0) (sh, μ, la, n) = K (nI (tw_wc tx)) (sh, μ, la, n) := by
  have hw := tw_words_s tx S.2.1
  refine tw_lp_for (tw_wln tx) (fun j => (nI (tw_wo (tw_ch tx) 0 j), nI j)) (fun _ => (sh, μ, la, n)) rfl rfl (fun j hj rec => ?_) (fun rec => ?_)
  · have hc := hw.2.2 j hj
    have h5 := tw_wo_lt (B := tw_ch tx) (x := 0) j (fun q hq => by rw [Nat.zero_add]; exact hw.2.2 q (by omega))
    have h6 : 32 ^ j ≤ 32 ^ 5 := Nat.pow_le_pow_right (by omega) (by omega)
    have h7 : (32 : Nat) ^ 5 = 2 ^ 25 := by decide
    have e5 := tw_sh5 (v := tw_wo (tw_ch tx) 0 j) (c := tw_ch tx j - 97 + 1) (by omega) (by omega)
    have e5b : 32 * tw_wo (tw_ch tx) 0 j + (tw_ch tx j - 97 + 1) = tw_wo (tw_ch tx) 0 (j + 1) := by
      show _ = 32 * tw_wo (tw_ch tx) 0 j + (tw_ch tx (0 + j) - 96)
      rw [Nat.zero_add]
      omega
    rw [e5b] at e5
    have l5 : (5 : Int32) = nI 5 := rfl
    have l97 : (97 : Int32) = nI 97 := rfl
    have e1 : nI (tw_ch tx j) - nI 97 + nI 1 = nI (tw_ch tx j - 97 + 1) := by rw [nz_sub (by omega), nI_add]
    have hjl : nI j < nI (tw_wln tx) := by rw [nz_lt (by omega) (by omega)]; exact hj
    rw [hbd]
    simp only [↓c_ij hG S, ↓c_len hG S, ↓c_chr hG S hj, hjl, l5, l97, tl_1, e1, e5, nI_add, ↓A_if, ↓A_jn, ↓A_lt, ↓A_rz, ↓A_rn, ↓A_nzi, ↓A_nzl, ↓A_nn1, ↓A_nn0, ↓reduceIte, true_and, and_true, if_true, if_false, ite_true, ite_false, reduceIte]
  · have hjl : ¬ nI (tw_wln tx) < nI (tw_wln tx) := by rw [nz_lt (by omega) (by omega)]; omega
    rw [hbd]
    simp only [↓c_ij hG S, ↓c_len hG S, hjl, ↓A_if, ↓A_jn, ↓A_lt, ↓A_rz, ↓A_rn, ↓A_nzi, ↓A_nzl, ↓A_nn1, ↓A_nn0, ↓reduceIte, true_and, and_true, if_true, if_false, ite_true, ite_false, reduceIte]
    rfl
theorem c_takeWord {t : Nat} (hG : tw_GH G sh μ b) (S : tw_Sw G b a tx) (hX : tw_Xs sh x t) {e tt i : Nat} (hT : tw_TX μ x B e tt) (h11 : μ x 11 = nI i) (hi : i ≤ tt) (hv : ∀ i, tw_kd B e i < 2 ^ 31 ∧ tw_vd B e i < 2 ^ 31) (k : Int32 → tw_Mem → Prop) : f_X7_takeWord x a k (sh, μ, la, n) = if tw_kd B e i = 1 ∧ tw_vd B e i = tw_wc tx then k (nI 1) (sh, tw_up μ x 11 (nI (i + 1)), la, n) else k (nI 0) (sh, μ, la, n) := by
  obtain ⟨t1, t2, t3, t4, t5⟩ := hT
  obtain ⟨g1, g2, g3⟩ := t5 i hi
  have hw := tw_words_s tx S.2.1
  have hcd : tw_wc tx < 2 ^ 30 := tw_wo_lt2 (fun j hj => by rw [Nat.zero_add]; exact hw.2.2 j hj) hw.2.1
  have hk1 : tw_tk B e (tw_tg B e i) < 2147483648 := (hv i).1
  have hk2 : tw_tv B e (tw_tg B e i) < 2147483648 := (hv i).2
  have l401 : (401 : Int32) = nI 401 := rfl
  have hlt : nI i < nI 401 := by rw [nz_lt (by omega) (by omega)]; omega
  have hge : ¬ nI i < nI 0 := by rw [nz_lt (by omega) (by omega)]; omega
  unfold f_X7_takeWord
  refine (c_wcode hG S (K := fun s => tw_gi 11 x fun x4 => tw_if (x4 < 0) (tw_rz (0 : Int32) (k (0 : Int32))) (tw_gi 11 x fun x5 => tw_if (x5 < (401 : Int32)) (tw_gr 7 x fun x6 => tw_gi 11 x fun x7 => tw_li x6 x7 fun x8 => tw_if (x8 = (1 : Int32)) (tw_gr 8 x fun x9 => tw_gi 11 x fun x10 => tw_li x9 x10 fun x11 => tw_if (x11 = s) (tw_gi 11 x fun x12 => tw_pi 11 x (x12 + (1 : Int32)) (tw_rz (1 : Int32) (k (1 : Int32)))) (tw_rz (0 : Int32) (k (0 : Int32)))) (tw_rz (0 : Int32) (k (0 : Int32)))) (tw_rz (0 : Int32) (k (0 : Int32))))) (fun rec s => rfl)).trans ?_
  simp (disch := omega) only [↓XsI11 hX, ↓XsG7 hX, ↓XsG8 hX, ↓XsP11 hX, ↓XsL1 hX, ↓XsL2 hX, h11, g1, g2, l401, hlt, hge, tl_1, tl_0, nI_add, nz_eq, ↓A_if, ↓A_jn, ↓A_lt, ↓A_rz, ↓A_rn, ↓A_nzi, ↓A_nzl, ↓A_nn1, ↓A_nn0, ↓reduceIte, true_and, and_true, if_true, if_false, ite_true, ite_false, reduceIte]
  by_cases q1 : tw_tk B e (tw_tg B e i) = 1
  · by_cases q2 : tw_tv B e (tw_tg B e i) = tw_wc tx
    · simp only [q1, q2, and_self, if_true, or_true, true_or, true_and]
    · simp only [q1, q2, and_false, if_true, if_false, or_true, true_or, true_and]
  · simp only [q1, false_and, if_false, or_true, true_or, true_and]
end P98
