/-! ===== pure: the law's text, one line ===== -/
def tw_LL (b m : Nat) (μ ν : Nat → Nat → Int32) (C : Nat → Nat × Nat) (c N : Nat) : Prop := μ (b + 144) 17 = nI N ∧ N ≤ 12 ∧ μ (b + 144) 18 = nI c ∧ c ≤ 400 ∧ (∀ j, j < c → μ (b + 151) j = nI (tw_cm (C j))) ∧ ν m 86 = nI c ∧ (∀ j, j < c → ν (m + 1) (1390 + 2 * j) = nI (C j).1 ∧ ν (m + 1) (1390 + 2 * j + 1) = nI (C j).2 ∧ (C j).1 < 17 ∧ (C j).2 < 1000) ∧ (∀ l, l < N → ∃ kd am f z, kd < 3 ∧ am < 31 ∧ f + z ≤ c ∧ μ (b + 148) l = nI kd ∧ μ (b + 149) l = nI am ∧ μ (b + 150) l = nI (f + z) ∧ ν (m + 1) (1342 + 4 * l) = nI kd ∧ ν (m + 1) (1342 + 4 * l + 1) = nI am ∧ ν (m + 1) (1342 + 4 * l + 2) = nI f ∧ ν (m + 1) (1342 + 4 * l + 3) = nI (f + z) ∧ (l = 0 → f = 0) ∧ (∀ j, l = j + 1 → ν (m + 1) (1342 + 4 * j + 3) = nI f) ∧ (z = 0 ∨ tw_sA C f z true 17)) ∧ (N = 0 → c = 0) ∧ ∀ j, N = j + 1 → ν (m + 1) (1342 + 4 * j + 3) = nI c
def tw_lfr (b : Nat) (μ μ' : Nat → Nat → Int32) : Prop := (∀ y, y ≠ b + 144 → ¬ (b + 148 ≤ y ∧ y < b + 152) → μ' y = μ y) ∧ ∀ q, q ≠ 17 → q ≠ 18 → μ' (b + 144) q = μ (b + 144) q
def tw_mf2 (m : Nat) (ν ν' : Nat → Nat → Int32) : Prop := (∀ y, y ≠ m → y ≠ m + 1 → ν' y = ν y) ∧ (∀ q, q ≠ 83 → q ≠ 86 → ν' m q = ν m q) ∧ ∀ q, q < 1341 → ν' (m + 1) q = ν (m + 1) q
/-- the model's kind of a line -/
def tw_kdm (g : tw_Gx) (a0 : Nat) (J : Int32 → tw_Mem → Prop) : tw_Mem → Prop := tw_ls g RX12 148 "guess" fun t3 => tw_iv 11 a0 (f_X12_isWord a0 t3 (fun x4 => tw_jn J (fun j5 => tw_if (x4 = 0) (tw_ls g RX12 217 "hush" fun t22 => tw_iv 11 a0 (f_X12_isWord a0 t22 (fun x23 => tw_if (x23 = 0) (tw_ls g RX12 219 "tell" fun t24 => tw_iv 11 a0 (f_X12_isWord a0 t24 (fun x25 => tw_if (x25 = 0) (j5 (-1 : Int32)) (j5 (2 : Int32))))) (j5 (1 : Int32))))) (j5 (0 : Int32)))))
theorem tw_kdm_e (g : tw_Gx) (a0 : Nat) (a1 : Int32) (k : Int32 → tw_Mem → Prop) : f_X12_readLawLine g a0 a1 k = tw_lt ((1342 : Int32) + ((4 : Int32) * a1)) fun x1 => tw_gr 71 a0 fun x2 => tw_kdm g a0 (fun (s6 : Int32) => tw_si x2 x1 s6 (tw_gr 71 a0 fun x7 => tw_li x7 x1 fun x8 => tw_if (x8 < 0) (tw_rz (0 : Int32) (k (0 : Int32))) (tw_gr 71 a0 fun x9 => tw_iv 11 a0 (f_X12_number a0 (0 : Int32) (30 : Int32) (fun x10 => tw_si x9 (x1 + (1 : Int32)) x10 (tw_gr 71 a0 fun x11 => tw_li x11 (x1 + (1 : Int32)) fun x12 => tw_if (x12 < 0) (tw_rz (0 : Int32) (k (0 : Int32))) (tw_gr 71 a0 fun x13 => tw_gi 86 a0 fun x14 => tw_si x13 (x1 + (2 : Int32)) x14 (tw_pi 83 a0 (0 : Int32) (tw_ls g RX12 221 "if" fun t15 => tw_iv 11 a0 (f_X12_passes a0 t15 (fun x16 => tw_jn (fun (s18 : Unit) => tw_gr 71 a0 fun x19 => tw_gi 86 a0 fun x20 => tw_si x19 (x1 + (3 : Int32)) x20 (tw_rz (1 : Int32) (k (1 : Int32)))) (fun j17 => tw_if (x16 = 0) (j17 ()) (tw_iv 11 a0 (f_X12_readCond g (fN_X12_readAtom g 8) a0 (fun x21 => tw_if (x21 = 0) (tw_rz (0 : Int32) (k (0 : Int32))) (j17 ())))))))))))))))) := rfl
section P99u
variable {sh s2 : tw_Sh} {μ0 ν0 μ μ' ν ν' : Nat → Nat → Int32} {la : Nat → Nat → Int64} {n a b x y m t tt e i lo c c' d cl p q p' q' z ix ix2 i' o h l r s c0 D lc ow kd am N : Nat} {G : tw_Gm} {g : tw_Gx} {B : Nat → Nat} {v w w' : Int32} {C C' : Nat → Nat × Nat} {u : Nat × Nat}
theorem tw_LL_1 (H : tw_LL b m μ ν C c N) (hN : N < 12) (hk : kd < 3) (ha : am < 31) (hcc : c ≤ c') (hC : ∀ j, j < c → C' j = C j) (hs : c' = c ∨ tw_sA C' c (c' - c) true 17) (h4 : c' ≤ 400) (e17 : μ' (b + 144) 17 = nI (N + 1)) (e18 : μ' (b + 144) 18 = nI c') (ec : ∀ j, j < c' → μ' (b + 151) j = nI (tw_cm (C' j))) (k1 : ∀ l, μ' (b + 148) l = if l = N then nI kd else μ (b + 148) l) (k2 : ∀ l, μ' (b + 149) l = if l = N then nI am else μ (b + 149) l) (k3 : ∀ l, μ' (b + 150) l = if l = N then nI c' else μ (b + 150) l) (e86 : ν' m 86 = nI c') (em : ∀ j, j < c' → ν' (m + 1) (1390 + 2 * j) = nI (C' j).1 ∧ ν' (m + 1) (1390 + 2 * j + 1) = nI (C' j).2 ∧ (C' j).1 < 17 ∧ (C' j).2 < 1000) (m0 : ∀ q, 1342 ≤ q → q < 1342 + 4 * N → ν' (m + 1) q = ν (m + 1) q) (m1 : ν' (m + 1) (1342 + 4 * N) = nI kd) (m2 : ν' (m + 1) (1342 + 4 * N + 1) = nI am) (m3 : ν' (m + 1) (1342 + 4 * N + 2) = nI c) (m4 : ν' (m + 1) (1342 + 4 * N + 3) = nI c') : tw_LL b m μ' ν' C' c' (N + 1) := by
  obtain ⟨h1, h2, h3, h4', h5, h6, h7, h8, h9, h10⟩ := H
  refine ⟨e17, by omega, e18, h4, ec, e86, em, fun l hl => ?_, fun h => by omega, fun j hj => ?_⟩
  · by_cases el : l = N
    · subst el
      refine ⟨kd, am, c, c' - c, hk, ha, by omega, by rw [k1, if_pos rfl], by rw [k2, if_pos rfl], by rw [k3, if_pos rfl]; congr 1; omega, m1, m2, m3, by rw [m4]; congr 1; omega, h9, fun j hj => ?_, ?_⟩
      · rw [m0 _ (by omega) (by omega)]; exact h10 j hj
      · rcases hs with hs | hs
        · exact Or.inl (by omega)
        · exact Or.inr hs
    · obtain ⟨kd', am', f, z, a1, a2, a3, a4, a5, a6, a7, a8, a9, a10, a11, a12, a13⟩ := h8 l (by omega)
      refine ⟨kd', am', f, z, a1, a2, by omega, by rw [k1, if_neg el]; exact a4, by rw [k2, if_neg el]; exact a5, by rw [k3, if_neg el]; exact a6, by rw [m0 _ (by omega) (by omega)]; exact a7, by rw [m0 _ (by omega) (by omega)]; exact a8, by rw [m0 _ (by omega) (by omega)]; exact a9, by rw [m0 _ (by omega) (by omega)]; exact a10, a11, fun j hj => by rw [m0 _ (by omega) (by omega)]; exact a12 j hj, ?_⟩
      rcases a13 with a13 | a13
      · exact Or.inl a13
      · exact Or.inr (tw_sA_congr (fun q h6 h7 => (hC q (by omega)).symm) a13)
  · have : j = N := by omega
    subst this
    exact m4
/-- the kind of a line, both sides -/
theorem b_kind (hT : tw_tx B e tt) (hX : tw_Tx sh b) (GS : tw_GS g G b) (hA : tw_Ab sh μ (b + 144) (b + 1) B e tt) (hGc : tw_GH G sh μ b) (hM : tw_Mt s2 ν (b + 168) B e) (hGm : tw_GH G s2 ν b) (hi : i ≤ tt) : (∃ kd, kd < 3 ∧ tw_kd B e i = 1 ∧ (∀ w la n k, f_X1_takeKind g (b + 144) k (sh, tw_cwf μ (b + 144) i w, la, n) = k (nI kd) (sh, tw_cwf μ (b + 144) (i + 1) w, la, n)) ∧ ∀ la n J, tw_kdm g (b + 168) J (s2, tw_pb ν (b + 168) (tw_tle B e (tw_tg B e i)) (tw_tg B e i), la, n) = J (nI kd) (s2, tw_pb ν (b + 168) (tw_tp B e (i + 1)) (tw_tg B e i), la, n)) ∨ ((∀ w la n k, f_X1_takeKind g (b + 144) k (sh, tw_cwf μ (b + 144) i w, la, n) = k mI (sh, tw_cwf μ (b + 144) i w, la, n)) ∧ ∀ la n J, tw_kdm g (b + 168) J (s2, tw_pb ν (b + 168) (tw_tle B e (tw_tg B e i)) (tw_tg B e i), la, n) = J mI (s2, tw_pb ν (b + 168) (tw_tle B e (tw_tg B e i)) (tw_tg B e i), la, n)) := by
  have n10 : ¬ (nI 1) = (0 : Int32) := by decide
  have e00 : (nI 0) = (0 : Int32) := rfl
  have cis := of_eq_true (Tx_is1 hX)
  have b168 : b ≤ b + 168 := by omega
  have w0 : "guess" ∈ tw_words := by decide
  have w1 : "hush" ∈ tw_words := by decide
  have w2 : "tell" ∈ tw_words := by decide
  by_cases q0 : tw_iW B e i "guess"
  · refine Or.inl ⟨0, by omega, q0.1, fun w la n k => ?_, fun la n J => ?_⟩
    · unfold f_X1_takeKind
      rw [cb_W hA hGc (by omega) cis GS ks_RX1_54 w0 hi, if_pos q0, A_if, if_neg n10]
      rfl
    · unfold tw_kdm
      rw [mb_Wi hM hGm b168 GS ks_RX12_148 w0, if_pos q0, A_jn, A_if, if_neg n10, tw_tle_1 q0.1]
      rfl
  · by_cases q1 : tw_iW B e i "hush"
    · refine Or.inl ⟨1, by omega, q1.1, fun w la n k => ?_, fun la n J => ?_⟩
      · unfold f_X1_takeKind
        rw [cb_W hA hGc (by omega) cis GS ks_RX1_54 w0 hi, if_neg q0, A_if, if_pos e00, cb_W hA hGc (by omega) cis GS ks_RX1_58 w1 hi, if_pos q1, A_if, if_neg n10]
        rfl
      · unfold tw_kdm
        rw [mb_Wi hM hGm b168 GS ks_RX12_148 w0, if_neg q0, A_jn, A_if, if_pos e00, mb_Wi hM hGm b168 GS ks_RX12_217 w1, if_pos q1, A_if, if_neg n10, tw_tle_1 q1.1]
        rfl
    · by_cases q2 : tw_iW B e i "tell"
      · refine Or.inl ⟨2, by omega, q2.1, fun w la n k => ?_, fun la n J => ?_⟩
        · unfold f_X1_takeKind
          rw [cb_W hA hGc (by omega) cis GS ks_RX1_54 w0 hi, if_neg q0, A_if, if_pos e00, cb_W hA hGc (by omega) cis GS ks_RX1_58 w1 hi, if_neg q1, A_if, if_pos e00, cb_W hA hGc (by omega) cis GS ks_RX1_60 w2 hi, if_pos q2, A_if, if_neg n10]
          rfl
        · unfold tw_kdm
          rw [mb_Wi hM hGm b168 GS ks_RX12_148 w0, if_neg q0, A_jn, A_if, if_pos e00, mb_Wi hM hGm b168 GS ks_RX12_217 w1, if_neg q1, A_if, if_pos e00, mb_Wi hM hGm b168 GS ks_RX12_219 w2, if_pos q2, A_if, if_neg n10, tw_tle_1 q2.1]
          rfl
      · refine Or.inr ⟨fun w la n k => ?_, fun la n J => ?_⟩
        · unfold f_X1_takeKind
          rw [cb_W hA hGc (by omega) cis GS ks_RX1_54 w0 hi, if_neg q0, A_if, if_pos e00, cb_W hA hGc (by omega) cis GS ks_RX1_58 w1 hi, if_neg q1, A_if, if_pos e00, cb_W hA hGc (by omega) cis GS ks_RX1_60 w2 hi, if_neg q2, A_if, if_pos e00]
          rfl
        · unfold tw_kdm
          rw [mb_Wi hM hGm b168 GS ks_RX12_148 w0, if_neg q0, A_jn, A_if, if_pos e00, mb_Wi hM hGm b168 GS ks_RX12_217 w1, if_neg q1, A_if, if_pos e00, mb_Wi hM hGm b168 GS ks_RX12_219 w2, if_neg q2, A_if, if_pos e00]
          rfl
theorem tw_lfr_A (h : tw_lfr b μ μ') (hA : tw_Ab sh μ (b + 144) (b + 1) B e tt) : tw_Ab sh μ' (b + 144) (b + 1) B e tt := tw_Ab_s hA (fun y h1 h2 => h.1 y (by omega) (by omega))
theorem tw_lfr_G (h : tw_lfr b μ μ') (hG : tw_GH G sh μ b) : tw_GH G sh μ' b := tw_GH_s hG (fun y hy => h.1 y (by omega) (by omega))
theorem tw_lfr_t {μ2 : Nat → Nat → Int32} (h : tw_lfr b μ μ') (h2 : tw_lfr b μ' μ2) : tw_lfr b μ μ2 := ⟨fun y a c => (h2.1 y a c).trans (h.1 y a c), fun q a c => (h2.2 q a c).trans (h.2 q a c)⟩
theorem tw_lfr_c (h : tw_cfr b μ μ') : tw_lfr b μ μ' := ⟨fun y a c => h.1 y a (by omega), fun q a c => h.2 q c⟩
theorem tw_lfr_u (h : b + 148 ≤ y ∧ y < b + 152) : tw_lfr b μ (tw_up μ y q v) := ⟨fun z a c => tw_up_ne (by omega), fun z a c => by rw [tw_up_ne (by omega)]⟩
theorem tw_lfr_17 : tw_lfr b μ (tw_up μ (b + 144) 17 v) := ⟨fun z a c => tw_up_ne (by omega), fun z a c => tw_uk (by omega)⟩
theorem tw_mf2_M (h : tw_mf2 m ν ν') (hM : tw_Mt s2 ν m B e) : tw_Mt s2 ν' m B e := ⟨hM.1, (h.2.1 81 (by omega) (by omega)).trans hM.2.1, hM.2.2.1, by rw [h.1 _ (by omega) (by omega)]; exact hM.2.2.2.1, hM.2.2.2.2⟩
theorem tw_mf2_G (h : tw_mf2 m ν ν') (hG : tw_GH G s2 ν b) (hb : b ≤ m) : tw_GH G s2 ν' b := tw_GH_s hG (fun y hy => h.1 y (by omega) (by omega))
theorem tw_mf2_t {ν2 : Nat → Nat → Int32} (h : tw_mf2 m ν ν') (h2 : tw_mf2 m ν' ν2) : tw_mf2 m ν ν2 := ⟨fun y a c => (h2.1 y a c).trans (h.1 y a c), fun q a c => (h2.2.1 q a c).trans (h.2.1 q a c), fun q a => (h2.2.2 q a).trans (h.2.2 q a)⟩
theorem tw_mf2_c (h : tw_mfr m ν ν') : tw_mf2 m ν ν' := ⟨h.1, h.2.1, fun q a => h.2.2 q (by omega)⟩
theorem tw_mf2_u (h : 1341 ≤ q) : tw_mf2 m ν (tw_up ν (m + 1) q v) := ⟨fun z a c => tw_up_ne (by omega), fun z a c => by rw [tw_up_ne (by omega)], fun z a => tw_uk (by omega)⟩
theorem tw_mf2_83 : tw_mf2 m ν (tw_up ν m 83 v) := ⟨fun z a c => tw_up_ne (by omega), fun z a c => tw_uk (by omega), fun z a => by rw [tw_up_ne (by omega)]⟩
/-- the class: what ends a line -/
theorem c_lend (hX : tw_Tx sh b) (hN : N < 12) (k : Int32 → tw_Mem → Prop) : tw_gr 15 (b + 144) (fun x11 => tw_gi 18 (b + 144) fun x12 => tw_si x11 (nI N) x12 (tw_pi 17 (b + 144) (nI N + (1 : Int32)) (tw_rz (1 : Int32) (k (1 : Int32))))) (sh, tw_cwf μ (b + 144) i w, la, n) = k (tw_bo true) (sh, tw_cwf (tw_up (tw_up μ (b + 150) N (μ (b + 144) 18)) (b + 144) 17 (nI (N + 1))) (b + 144) i w, la, n) := by
  have hz1 : ∀ F M, tw_rz (1 : Int32) F M = F M := fun F M => tw_rz_b (ok := true) F M
  have e1 : nI N + (1 : Int32) = nI (N + 1) := nI_add N 1
  rw [TxG1_15 hX, TxI1_18 hX, tw_cwf_k (by omega), TxS8 hX hN, tw_cwf_c (by omega), TxP1_17 hX, e1, tw_cwf_ck (by omega), hz1]
  rfl
/-- the model: what ends a line -/
theorem m_lend (hm : tw_Mo s2 m) (hN : N < 12) (k : Int32 → tw_Mem → Prop) : tw_gr 71 m (fun x19 => tw_gi 86 m fun x20 => tw_si x19 (nI (1342 + 4 * N) + (3 : Int32)) x20 (tw_rz (1 : Int32) (k (1 : Int32)))) (s2, tw_pb ν m p q, la, n) = k (tw_bo true) (s2, tw_pb (tw_up ν (m + 1) (1342 + 4 * N + 3) (ν m 86)) m p q, la, n) := by
  have hz1 : ∀ F M, tw_rz (1 : Int32) F M = F M := fun F M => tw_rz_b (ok := true) F M
  have e3 : nI (1342 + 4 * N) + (3 : Int32) = nI (1342 + 4 * N + 3) := nI_add _ 3
  rw [MoG0_71 hm, MoI0_86 hm, tw_pb_k (by omega) (by omega), e3, X_si hm.2.1 (by omega) (by decide), tw_pb_c (by omega), hz1]
  rfl
theorem b_lawLine (hT : tw_tx B e tt) (hX : tw_Tx sh b) (GS : tw_GS g G b) (hA : tw_Ab sh μ (b + 144) (b + 1) B e tt) (hGc : tw_GH G sh μ b) (hM : tw_Mt s2 ν (b + 168) B e) (hGm : tw_GH G s2 ν b) (hi : i ≤ tt) (hc : c ≤ i) (hN : N < 12) (H : tw_LL b (b + 168) μ ν C c N) : ∃ ok i' C' c' μ' ν' p' q', i ≤ i' ∧ i' ≤ tt ∧ (ok = true → i < i' ∧ c' ≤ i' ∧ tw_LL b (b + 168) μ' ν' C' c' (N + 1)) ∧ tw_lfr b μ μ' ∧ tw_mf2 (b + 168) ν ν' ∧ (ok = true → tw_on B e i' p') ∧ (ok = false → q' = tw_tg B e i') ∧ (∀ w, ∃ w', ∀ la n k, f_X1_takeLine g (b + 144) k (sh, tw_cwf μ (b + 144) i w, la, n) = k (tw_bo ok) (sh, tw_cwf μ' (b + 144) i' w', la, n)) ∧ ∀ la n k, f_X12_readLawLine g (b + 168) (nI N) k (s2, tw_pb ν (b + 168) (tw_tle B e (tw_tg B e i)) (tw_tg B e i), la, n) = k (tw_bo ok) (s2, tw_pb ν' (b + 168) p' q', la, n) := by
  have n10 : ¬ (nI 1) = (0 : Int32) := by decide
  have e00 : (nI 0) = (0 : Int32) := rfl
  have bt : ¬ tw_bo true = (0 : Int32) := n10
  have hmI : mI < (0 : Int32) := by decide
  have hneg : (-1 : Int32) = mI := rfl
  have h30 : (30 : Int32) < nI 1000 := by decide
  have hz0 : ∀ F M, tw_rz (0 : Int32) F M = F M := fun F M => tw_rz_b (ok := false) F M
  have nn : ∀ c, c < 1000 → ¬ nI c < (0 : Int32) := fun c hc => by
    show ¬ nI c < nI 0
    rw [nz_lt (by omega) (by omega)]; omega
  have cis := of_eq_true (Tx_is1 hX)
  have b168 : b ≤ b + 168 := by omega
  have he4 := hT.2.1
  have ht4 := hT.1
  have hm := hM.1
  have wif : "if" ∈ tw_words := by decide
  have ek : (1342 : Int32) + ((4 : Int32) * nI N) = nI (1342 + 4 * N) := by
    show nI 1342 + nI 4 * nI N = _
    rw [pk_mul, nI_add]
  have e1 : nI (1342 + 4 * N) + (1 : Int32) = nI (1342 + 4 * N + 1) := nI_add _ 1
  have e2 : nI (1342 + 4 * N) + (2 : Int32) = nI (1342 + 4 * N + 2) := nI_add _ 2
  have hlt : nI N < (12 : Int32) := by show nI N < nI 12; rw [nz_lt (by omega) (by omega)]; exact hN
  have H0 := H
  obtain ⟨h1, h2, h3, h4, h5, h6, h7, h8, h9, h10⟩ := H
  rcases b_kind hT hX GS hA hGc hM hGm hi with ⟨kd, hkd, qk, KC, KM⟩ | ⟨KC, KM⟩
  · have i1 := tw_nx1 hT hi qk (by omega)
    have hkm : ¬ nI kd = mI := by rw [mI_eq (by omega)]; exact id
    have M1 : ∀ la n k, f_X12_readLawLine g (b + 168) (nI N) k (s2, tw_pb ν (b + 168) (tw_tle B e (tw_tg B e i)) (tw_tg B e i), la, n) = (f_X12_number (b + 168) (0 : Int32) (30 : Int32) (fun x10 => tw_si (b + 168 + 1) ((nI (1342 + 4 * N)) + (1 : Int32)) x10 (tw_gr 71 (b + 168) fun x11 => tw_li x11 ((nI (1342 + 4 * N)) + (1 : Int32)) fun x12 => tw_if (x12 < 0) (tw_rz (0 : Int32) (k (0 : Int32))) (tw_gr 71 (b + 168) fun x13 => tw_gi 86 (b + 168) fun x14 => tw_si x13 ((nI (1342 + 4 * N)) + (2 : Int32)) x14 (tw_pi 83 (b + 168) (0 : Int32) (tw_ls g RX12 221 "if" fun t15 => tw_iv 11 (b + 168) (f_X12_passes (b + 168) t15 (fun x16 => tw_jn (fun (s18 : Unit) => tw_gr 71 (b + 168) fun x19 => tw_gi 86 (b + 168) fun x20 => tw_si x19 ((nI (1342 + 4 * N)) + (3 : Int32)) x20 (tw_rz (1 : Int32) (k (1 : Int32)))) (fun j17 => tw_if (x16 = 0) (j17 ()) (tw_iv 11 (b + 168) (f_X12_readCond g (fN_X12_readAtom g 8) (b + 168) (fun x21 => tw_if (x21 = 0) (tw_rz (0 : Int32) (k (0 : Int32))) (j17 ()))))))))))))) (s2, tw_pb (tw_up ν (b + 168 + 1) (1342 + 4 * N) (nI kd)) (b + 168) (tw_tp B e (i + 1)) (tw_tg B e i), la, n) := fun la n k => by
      rw [tw_kdm_e, A_lt, ek, MoG0_71 hm, KM, X_si hm.2.1 (by omega) (by decide), tw_pb_c (by omega), MoG0_71 hm, X_li hm.2.1 (by omega) (by decide), tw_pb_n (by omega), tw_ua, A_if, if_neg (nn kd (by omega)), MoG0_71 hm, MoV0 hm]
    have F1 : tw_mf2 (b + 168) ν (tw_up ν (b + 168 + 1) (1342 + 4 * N) (nI kd)) := tw_mf2_u (by omega)
    by_cases qn : tw_iN B e (i + 1) 0 (30 : Int32)
    · obtain ⟨_, v1, v2⟩ := tw_iN_v (hi := 30) hT qn (by omega)
      have i2 := tw_nx1 hT i1 qn.1 (by omega)
      generalize hV : tw_vd B e (i + 1) = V at *
      obtain ⟨νn, eνn⟩ : ∃ νn, νn = tw_up (tw_up (tw_up (tw_up ν (b + 168 + 1) (1342 + 4 * N) (nI kd)) (b + 168 + 1) (1342 + 4 * N + 1) (nI V)) (b + 168 + 1) (1342 + 4 * N + 2) (nI c)) (b + 168) 83 (nI 0) := ⟨_, rfl⟩
      obtain ⟨μn, eμn⟩ : ∃ μn, μn = tw_up (tw_up μ (b + 148) N (nI kd)) (b + 149) N (nI V) := ⟨_, rfl⟩
      have Fn : tw_mf2 (b + 168) ν νn := by
        rw [eνn]
        exact tw_mf2_t (tw_mf2_t (tw_mf2_t F1 (tw_mf2_u (by omega))) (tw_mf2_u (by omega))) tw_mf2_83
      have Fc : tw_lfr b μ μn := by
        rw [eμn]
        exact tw_lfr_t (tw_lfr_u (by omega)) (tw_lfr_u (by omega))
      have n17 : μn (b + 144) 17 = nI N := by rw [eμn, tw_up_ne (by omega), tw_up_ne (by omega)]; exact h1
      have n18 : μn (b + 144) 18 = nI c := by rw [eμn, tw_up_ne (by omega), tw_up_ne (by omega)]; exact h3
      have n51 : μn (b + 151) = μ (b + 151) := by rw [eμn, tw_up_ne (by omega), tw_up_ne (by omega)]
      have n50 : μn (b + 150) = μ (b + 150) := by rw [eμn, tw_up_ne (by omega), tw_up_ne (by omega)]
      have n48 : ∀ l, μn (b + 148) l = if l = N then nI kd else μ (b + 148) l := fun l => by
        rw [eμn, tw_up_ne (by omega)]
        by_cases el : l = N
        · subst el; rw [tw_ua, if_pos rfl]
        · rw [tw_uk (by omega), if_neg el]
      have n49 : ∀ l, μn (b + 149) l = if l = N then nI V else μ (b + 149) l := fun l => by
        rw [eμn]
        by_cases el : l = N
        · subst el; rw [tw_ua, if_pos rfl]
        · rw [tw_uk (by omega), if_neg el, tw_up_ne (by omega)]
      have v86 : νn (b + 168) 86 = nI c := by rw [eνn, tw_uk (by omega), tw_up_ne (by omega), tw_up_ne (by omega), tw_up_ne (by omega)]; exact h6
      have v83 : νn (b + 168) 83 = nI 0 := by rw [eνn]; exact tw_ua
      have vq : ∀ q, q < 1342 + 4 * N ∨ 1342 + 4 * N + 3 ≤ q → νn (b + 168 + 1) q = ν (b + 168 + 1) q := fun q hq => by rw [eνn, tw_up_ne (by omega), tw_uk (by omega), tw_uk (by omega), tw_uk (by omega)]
      have vk0 : νn (b + 168 + 1) (1342 + 4 * N) = nI kd := by rw [eνn, tw_up_ne (by omega), tw_uk (by omega), tw_uk (by omega)]; exact tw_ua
      have vk1 : νn (b + 168 + 1) (1342 + 4 * N + 1) = nI V := by rw [eνn, tw_up_ne (by omega), tw_uk (by omega)]; exact tw_ua
      have vk2 : νn (b + 168 + 1) (1342 + 4 * N + 2) = nI c := by rw [eνn, tw_up_ne (by omega)]; exact tw_ua
      have M2 : ∀ la n k, f_X12_readLawLine g (b + 168) (nI N) k (s2, tw_pb ν (b + 168) (tw_tle B e (tw_tg B e i)) (tw_tg B e i), la, n) = (tw_ls g RX12 221 "if" fun t15 => tw_iv 11 (b + 168) (f_X12_passes (b + 168) t15 (fun x16 => tw_jn (fun (s18 : Unit) => tw_gr 71 (b + 168) fun x19 => tw_gi 86 (b + 168) fun x20 => tw_si x19 ((nI (1342 + 4 * N)) + (3 : Int32)) x20 (tw_rz (1 : Int32) (k (1 : Int32)))) (fun j17 => tw_if (x16 = 0) (j17 ()) (tw_iv 11 (b + 168) (f_X12_readCond g (fN_X12_readAtom g 8) (b + 168) (fun x21 => tw_if (x21 = 0) (tw_rz (0 : Int32) (k (0 : Int32))) (j17 ())))))))) (s2, tw_pb νn (b + 168) (tw_tp B e (i + 1 + 1)) (tw_tg B e (i + 1)), la, n) := fun la n k => by
        rw [M1, mb_N0 (tw_mf2_M F1 hM) (tw_on_p _ _ _) h30, if_pos qn, hV, e1, X_si hm.2.1 (by omega) (by decide), tw_pb_c (by omega), MoG0_71 hm, X_li hm.2.1 (by omega) (by decide), tw_pb_n (by omega), tw_ua, A_if, if_neg (nn V (by omega)), MoG0_71 hm, MoI0_86 hm, tw_pb_k (by omega) (by omega), tw_up_ne (by omega), tw_up_ne (by omega), h6, e2, X_si hm.2.1 (by omega) (by decide), tw_pb_c (by omega), MoP0_83 hm, tw_pb_ck (by omega) (by omega), eνn]
        rfl
      have C2 : ∀ w la n k, f_X1_takeLine g (b + 144) k (sh, tw_cwf μ (b + 144) i w, la, n) = (tw_ls g RX1 44 "if" fun t7 => tw_iv 1 (b + 144) (f_X7_takeWord (b + 144) t7 (fun x8 => tw_jn (fun (s10 : Unit) => tw_gr 15 (b + 144) fun x11 => tw_gi 18 (b + 144) fun x12 => tw_si x11 (nI N) x12 (tw_pi 17 (b + 144) (nI N + (1 : Int32)) (tw_rz (1 : Int32) (k (1 : Int32))))) (fun j9 => tw_if (x8 = 0) (j9 ()) (tw_iv 1 (b + 144) (fN_X1_takeCondition g 8 (b + 144) (0 : Int32) (fun x13 => tw_if (x13 = 0) (tw_rz (0 : Int32) (k (0 : Int32))) (j9 ())))))))) (sh, tw_cwf μn (b + 144) (i + 1 + 1) (nI V), la, n) := fun w la n k => by
        unfold f_X1_takeLine
        rw [TxI1_17 hX, tw_cwf_k (by omega), h1, TxV1 hX, KC, A_if, hneg, if_neg hkm, A_if, if_neg (nn N (by omega)), A_if, if_pos hlt, TxV1 hX, cb_N0 hA i1, if_pos qn, hV, A_if, if_neg n10, TxG1_13 hX, TxS6 hX hN, tw_cwf_c (by omega), TxG1_14 hX, TxV1 hX, cb_last (tw_lfr_A (tw_lfr_u (by omega)) hA), TxS7 hX hN, tw_cwf_c (by omega), eμn]
      by_cases qi : tw_iW B e (i + 1 + 1) "if"
      · have i3 := tw_nx1 hT i2 qi.1 (by omega)
        obtain ⟨ok, i4, C', c', a1, a2, a3, NC, NM⟩ := b_condT (μ0 := μn) (ν0 := νn) (C := C) (c := c) (i := i + 1 + 1 + 1) hT hX GS (tw_lfr_A Fc hA) (tw_lfr_G Fc hGc) (tw_mf2_M Fn hM) (tw_mf2_G Fn hGm b168) i3 (by omega)
        have HC : tw_cs b μn μn C c := ⟨⟨fun _ _ _ => rfl, fun _ _ => rfl⟩, n18, h4, fun j hj => by rw [n51]; exact h5 j hj⟩
        have HM : tw_ms (b + 168) νn νn C c 0 := ⟨⟨fun _ _ _ => rfl, fun _ _ _ => rfl, fun _ _ => rfl⟩, v86, v83, fun j hj => by rw [vq _ (by omega), vq _ (by omega)]; exact ⟨(h7 j hj).1, (h7 j hj).2.1⟩⟩
        obtain ⟨ν2, p2, q2, g1, g2, g3, EM⟩ := NM νn (tw_tp B e (i + 1 + 1 + 1)) (tw_tg B e (i + 1 + 1)) HM (tw_on_p _ _ _)
        obtain ⟨μ2, w2, f1, f2, EC⟩ := NC μn (nI V) HC
        cases ok with
        | false =>
          obtain ⟨cw, f3, f4, f5⟩ := f2
          refine ⟨false, i4, C', c', μ2, ν2, p2, q2, by omega, a2, fun h => Bool.noConfusion h, tw_lfr_t Fc (tw_lfr_c f3), tw_mf2_t Fn (tw_mf2_c g3), fun h => Bool.noConfusion h, g2, fun w => ⟨w2, fun la n k => ?_⟩, fun la n k => ?_⟩
          · rw [C2, cb_W (tw_lfr_A Fc hA) (tw_lfr_G Fc hGc) (by omega) cis GS ks_RX1_44 wif i2, if_pos qi, A_jn, A_if, if_neg n10, TxV1 hX]
            refine (EC la n _).trans ?_
            rw [A_if, if_pos (show tw_bo false = 0 from rfl), hz0]
            rfl
          · rw [M2, mb_Wp (tw_mf2_M Fn hM) (tw_mf2_G Fn hGm b168) b168 GS ks_RX12_221 wif (tw_on_p _ _ _), if_pos qi, A_jn, A_if, if_neg n10, MoV0 hm]
            refine (EM la n _).trans ?_
            rw [A_if, if_pos (show tw_bo false = 0 from rfl), hz0]
            rfl
        | true =>
          obtain ⟨b1, b2, b3, b4⟩ := a3 rfl
          obtain ⟨⟨f3, f3'⟩, f4, f5, f6⟩ := f1 rfl
          obtain ⟨⟨⟨g4, g4', g4''⟩, g5, g6, g7⟩, g8⟩ := g1 rfl
          have u17 : μ2 (b + 144) 17 = nI N := (f3' 17 (by omega)).trans n17
          refine ⟨true, i4, C', c', tw_up (tw_up μ2 (b + 150) N (μ2 (b + 144) 18)) (b + 144) 17 (nI (N + 1)), tw_up ν2 (b + 168 + 1) (1342 + 4 * N + 3) (ν2 (b + 168) 86), p2, q2, by omega, a2, fun _ => ⟨by omega, by omega, ?_⟩, tw_lfr_t Fc (tw_lfr_t (tw_lfr_c ⟨f3, f3'⟩) (tw_lfr_t (tw_lfr_u (by omega)) tw_lfr_17)), tw_mf2_t Fn (tw_mf2_t (tw_mf2_c g3) (tw_mf2_u (by omega))), fun _ => g8, fun h => Bool.noConfusion h, fun w => ⟨w2, fun la n k => ?_⟩, fun la n k => ?_⟩
          · refine tw_LL_1 (kd := kd) (am := V) H0 hN hkd (by omega) b3.1 b3.2.1 (Or.inr b4) f5 tw_ua (by rw [tw_uk (by omega), tw_up_ne (by omega)]; exact f4) (fun j hj => by rw [tw_up_ne (by omega), tw_up_ne (by omega)]; exact f6 j hj) (fun l => by rw [tw_up_ne (by omega), tw_up_ne (by omega), f3 _ (by omega) (by omega)]; exact n48 l) (fun l => by rw [tw_up_ne (by omega), tw_up_ne (by omega), f3 _ (by omega) (by omega)]; exact n49 l) (fun l => ?_) (by rw [tw_up_ne (by omega)]; exact g5) (fun j hj => ?_) (fun q h1 h2 => by rw [tw_uk (by omega), g4'' q (by omega)]; exact vq q (by omega)) (by rw [tw_uk (by omega), g4'' _ (by omega)]; exact vk0) (by rw [tw_uk (by omega), g4'' _ (by omega)]; exact vk1) (by rw [tw_uk (by omega), g4'' _ (by omega)]; exact vk2) (by rw [tw_ua]; exact g5)
            · rw [tw_up_ne (by omega)]
              by_cases el : l = N
              · subst el; rw [tw_ua, if_pos rfl]; exact f4
              · rw [tw_uk (by omega), if_neg el, f3 _ (by omega) (by omega), n50]
            · rw [tw_uk (by omega), tw_uk (by omega)]
              refine ⟨(g7 j hj).1, (g7 j hj).2, ?_⟩
              rcases Nat.lt_or_ge j c with hjc | hjc
              · rw [b3.2.1 j hjc]; exact ⟨(h7 j hjc).2.2.1, (h7 j hjc).2.2.2⟩
              · exact b3.2.2 j hjc hj
          · rw [C2, cb_W (tw_lfr_A Fc hA) (tw_lfr_G Fc hGc) (by omega) cis GS ks_RX1_44 wif i2, if_pos qi, A_jn, A_if, if_neg n10, TxV1 hX]
            refine (EC la n _).trans ?_
            rw [A_if, if_neg bt]
            exact c_lend hX hN k
          · rw [M2, mb_Wp (tw_mf2_M Fn hM) (tw_mf2_G Fn hGm b168) b168 GS ks_RX12_221 wif (tw_on_p _ _ _), if_pos qi, A_jn, A_if, if_neg n10, MoV0 hm]
            refine (EM la n _).trans ?_
            rw [A_if, if_neg bt]
            exact m_lend hm hN k
      · refine ⟨true, i + 1 + 1, C, c, tw_up (tw_up μn (b + 150) N (μn (b + 144) 18)) (b + 144) 17 (nI (N + 1)), tw_up νn (b + 168 + 1) (1342 + 4 * N + 3) (νn (b + 168) 86), tw_tg B e (i + 1 + 1), tw_tg B e (i + 1 + 1), by omega, i2, fun _ => ⟨by omega, by omega, ?_⟩, tw_lfr_t Fc (tw_lfr_t (tw_lfr_u (by omega)) tw_lfr_17), tw_mf2_t Fn (tw_mf2_u (by omega)), fun _ => tw_on_g _ _ _, fun h => Bool.noConfusion h, fun w => ⟨nI V, fun la n k => ?_⟩, fun la n k => ?_⟩
        · refine tw_LL_1 (kd := kd) (am := V) H0 hN hkd (by omega) (Nat.le_refl _) (fun _ _ => rfl) (Or.inl rfl) h4 tw_ua (by rw [tw_uk (by omega), tw_up_ne (by omega)]; exact n18) (fun j hj => by rw [tw_up_ne (by omega), tw_up_ne (by omega), n51]; exact h5 j hj) (fun l => by rw [tw_up_ne (by omega), tw_up_ne (by omega)]; exact n48 l) (fun l => by rw [tw_up_ne (by omega), tw_up_ne (by omega)]; exact n49 l) (fun l => ?_) (by rw [tw_up_ne (by omega)]; exact v86) (fun j hj => ?_) (fun q h1 h2 => by rw [tw_uk (by omega)]; exact vq q (by omega)) (by rw [tw_uk (by omega)]; exact vk0) (by rw [tw_uk (by omega)]; exact vk1) (by rw [tw_uk (by omega)]; exact vk2) (by rw [tw_ua]; exact v86)
          · rw [tw_up_ne (by omega)]
            by_cases el : l = N
            · subst el; rw [tw_ua, if_pos rfl]; exact n18
            · rw [tw_uk (by omega), if_neg el, n50]
          · rw [tw_uk (by omega), tw_uk (by omega), vq _ (by omega), vq _ (by omega)]
            exact h7 j hj
        · rw [C2, cb_W (tw_lfr_A Fc hA) (tw_lfr_G Fc hGc) (by omega) cis GS ks_RX1_44 wif i2, if_neg qi, A_jn, A_if, if_pos e00]
          exact c_lend hX hN k
        · rw [M2, mb_Wp (tw_mf2_M Fn hM) (tw_mf2_G Fn hGm b168) b168 GS ks_RX12_221 wif (tw_on_p _ _ _), if_neg qi, A_jn, A_if, if_pos e00]
          exact m_lend hm hN k
    · refine ⟨false, i + 1, C, c, μ, tw_up (tw_up ν (b + 168 + 1) (1342 + 4 * N) (nI kd)) (b + 168 + 1) (1342 + 4 * N + 1) mI, tw_tde B e (tw_tg B e (i + 1)), tw_tg B e (i + 1), by omega, i1, fun h => Bool.noConfusion h, ⟨fun _ _ _ => rfl, fun _ _ _ => rfl⟩, tw_mf2_t F1 (tw_mf2_u (by omega)), fun h => Bool.noConfusion h, fun _ => rfl, fun w => ⟨w, fun la n k => ?_⟩, fun la n k => ?_⟩
      · unfold f_X1_takeLine
        rw [TxI1_17 hX, tw_cwf_k (by omega), h1, TxV1 hX, KC, A_if, hneg, if_neg hkm, A_if, if_neg (nn N (by omega)), A_if, if_pos hlt, TxV1 hX, cb_N0 hA i1, if_neg qn, A_if, if_pos e00, hz0]
        rfl
      · rw [M1, mb_N0 (tw_mf2_M F1 hM) (tw_on_p _ _ _) h30, if_neg qn, e1, X_si hm.2.1 (by omega) (by decide), tw_pb_c (by omega), MoG0_71 hm, X_li hm.2.1 (by omega) (by decide), tw_pb_n (by omega), tw_ua, A_if, if_pos hmI, hz0]
        rfl
  · refine ⟨false, i, C, c, μ, tw_up ν (b + 168 + 1) (1342 + 4 * N) mI, tw_tle B e (tw_tg B e i), tw_tg B e i, Nat.le_refl _, hi, fun h => Bool.noConfusion h, ⟨fun _ _ _ => rfl, fun _ _ _ => rfl⟩, tw_mf2_u (by omega), fun h => Bool.noConfusion h, fun _ => rfl, fun w => ⟨w, fun la n k => ?_⟩, fun la n k => ?_⟩
    · unfold f_X1_takeLine
      rw [TxI1_17 hX, tw_cwf_k (by omega), h1, TxV1 hX, KC, A_if, hneg, if_pos rfl, hz0]
      rfl
    · rw [tw_kdm_e, A_lt, ek, MoG0_71 hm, KM, X_si hm.2.1 (by omega) (by decide), tw_pb_c (by omega), MoG0_71 hm, X_li hm.2.1 (by omega) (by decide), tw_pb_n (by omega), tw_ua, A_if, if_pos hmI, hz0]
      rfl
end P99u
