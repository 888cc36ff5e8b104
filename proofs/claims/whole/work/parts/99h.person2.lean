/-! ===== pure: a line with a person ===== -/
def tw_z1 (T : Nat → Int32) (P j : Nat) : Nat → Int32 := fun c => if 32 + 20 * P ≤ c ∧ c < 32 + 20 * P + j then nI 0 else T c
theorem tw_z1_s (T : Nat → Int32) (P j : Nat) : tw_u1 (tw_z1 T P j) (32 + 20 * P + j) (nI 0) = tw_z1 T P (j + 1) := by
  funext c
  unfold tw_u1 tw_z1
  by_cases h : c = 32 + 20 * P + j
  · rw [if_pos h, if_pos (by omega)]
  · rw [if_neg h]
    by_cases h2 : 32 + 20 * P ≤ c ∧ c < 32 + 20 * P + j
    · rw [if_pos h2, if_pos (by omega)]
    · rw [if_neg h2, if_neg (by omega)]
section P99h
variable {sh : tw_Sh} {μ μ' ν : Nat → Nat → Int32} {la : Nat → Nat → Int64} {n a b x y m t tt e i lo c cl p q p' q' z ix ix2 i' P o h l r s : Nat} {G : tw_Gm} {g : tw_Gx} {own own2 tx : String} {B : Nat → Nat} {v w w' : Int32} {T T' : Nat → Int32}
theorem tw_z1_e (W : tw_WF T P) (h8 : P < 8) : tw_u1 (tw_u1 (tw_u1 (tw_u1 (tw_u1 (tw_z1 T P 20) (32 + 20 * P) (nI h)) (32 + 20 * P + 1) (nI r)) (32 + 20 * P + 2) (nI y)) (32 + 20 * P + 3) (nI s)) 0 (nI (P + 1)) = tw_adP T P h r y s := by
  obtain ⟨w0, w1, w2, w3, w4, w5, w6, w7, w8, w9, w10⟩ := W
  funext c
  unfold tw_adP
  by_cases c0 : c = 0
  · subst c0; rw [tw_u1a, tw_u1n (by omega), tw_u1a]
  · by_cases c3 : c = 32 + 20 * P + 3
    · subst c3; rw [tw_u1n (by omega), tw_u1a, tw_u1a]
    · rw [tw_u1n (i := 0) (by omega), tw_u1n (i := 32 + 20 * P + 3) (by omega), tw_u1n (i := 32 + 20 * P + 3) (by omega), tw_u1n (i := 0) (by omega)]
      by_cases c2 : c = 32 + 20 * P + 2
      · subst c2; rw [tw_u1a, tw_u1a]
      · rw [tw_u1n (i := 32 + 20 * P + 2) (by omega), tw_u1n (i := 32 + 20 * P + 2) (by omega)]
        by_cases c1 : c = 32 + 20 * P + 1
        · subst c1; rw [tw_u1a, tw_u1a]
        · rw [tw_u1n (i := 32 + 20 * P + 1) (by omega), tw_u1n (i := 32 + 20 * P + 1) (by omega)]
          by_cases c4 : c = 32 + 20 * P
          · subst c4; rw [tw_u1a, tw_u1a]
          · rw [tw_u1n (i := 32 + 20 * P) (by omega), tw_u1n (i := 32 + 20 * P) (by omega)]
            unfold tw_z1
            by_cases hc : 32 + 20 * P ≤ c ∧ c < 32 + 20 * P + 20
            · rw [if_pos hc]
              rcases Nat.lt_or_ge c (32 + 20 * P + 12) with g | g
              · obtain ⟨⟨x, _, a2, a3⟩, _⟩ := w8 P (c - (32 + 20 * P + 4)) (by omega) (by omega)
                have hx := a3 (Or.inr (Or.inl (Nat.le_refl _)))
                rw [hx, show 32 + 20 * P + (4 + (c - (32 + 20 * P + 4))) = c by omega] at a2
                exact a2.symm
              · obtain ⟨_, ⟨x, _, a2, a3⟩, _⟩ := w8 P (c - (32 + 20 * P + 12)) (by omega) (by omega)
                have hx := a3 (Or.inr (Or.inl (Nat.le_refl _)))
                rw [hx, show 32 + 20 * P + (12 + (c - (32 + 20 * P + 12))) = c by omega] at a2
                exact a2.symm
            · rw [if_neg hc]
theorem mb_Wa (hM : tw_Mt sh ν m B e) (hG : tw_GH G sh ν b) (hbm : b ≤ m) (GS : tw_GS g G b) (h1 : Cond.stringRef own ix tx ∈ lw_tbl) (h2 : tx ∈ tw_words) (ho : tw_on B e i p) (hv : v < nI 1000) (K : Int32 → tw_Mem → Prop) : tw_ls g own ix tx (fun a => tw_iv 11 m (f_X12_after m a 0 v K)) (sh, tw_pb ν m p q, la, n) = if tw_iW B e i tx then (if tw_iN B e (i + 1) 0 v then K (nI (tw_vd B e (i + 1))) (sh, tw_pb ν m (tw_tp B e (i + 1 + 1)) (tw_tg B e (i + 1)), la, n) else K mI (sh, tw_pb ν m (tw_tde B e (tw_tg B e (i + 1))) (tw_tg B e (i + 1)), la, n)) else K mI (sh, tw_pb ν m (tw_tle B e (tw_tg B e i)) (tw_tg B e i), la, n) := by
  have n10 : ¬ (nI 1) = (0 : Int32) := by decide
  have e00 : (nI 0) = (0 : Int32) := rfl
  refine tw_ls_u GS h1 h2 (fun a S => ?_)
  unfold f_X12_after
  rw [MoV0 hM.1, MoV0 hM.1, m_letters1 hM ho, MoV0 hM.1, m_isWord1 hM hG hbm S]
  by_cases q1 : tw_iW B e i tx
  · have q2 : tw_kd B e i = 1 ∧ tw_vd B e i = tw_wc tx := q1
    rw [if_pos q1, if_pos q2, A_if, if_neg n10, MoV0 hM.1, tw_tle_1 q2.1, mb_N0 hM (tw_on_p _ _ _) hv]
  · have q2 : ¬ (tw_kd B e i = 1 ∧ tw_vd B e i = tw_wc tx) := q1
    rw [if_neg q1, if_neg q2, A_if, if_pos e00]
    rfl
theorem f_at1 (p : Nat) {v : Int32} {c : Nat} (hv : v = nI c) (k : Int32 → tw_Mem → Prop) : f_X12_at (nI p) v k = k (nI (32 + 20 * p + c)) := by
  unfold f_X12_at
  refine congrArg k ?_
  rw [hv]
  show nI 32 + nI 20 * nI p + nI c = _
  rw [pk_mul, nI_add, nI_add]
theorem mb_si (hM : tw_Mo sh m) {S : Nat → Int32} (hc : c < 2190) (k : tw_Mem → Prop) : tw_si (m + 1) (nI c) v k (sh, tw_pb (tw_ra ν (m + 1) S) m p q, la, n) = k (sh, tw_pb (tw_ra ν (m + 1) (tw_u1 S c v)) m p q, la, n) := by
  rw [X_si hM.2.1 hc (by decide), tw_pb_c (by omega), tw_up_ra]
theorem l_person (hT : tw_tx B e tt) (hX : tw_Tx sh b) (GS : tw_GS g G b) (W : tw_WF T P) (h8 : P < 8) (hi : i ≤ tt) : ∃ ok i' T' P', i ≤ i' ∧ i' ≤ tt ∧ tw_Li T T' P' ∧ tw_lc9 sh G b B e tt i i' ok T T' (f_X9_takePersonLine g (b + 140)) ∧ tw_lm9 sh G b B e (tw_tp B e i) i' ok T T' (f_X12_readPerson g (b + 168)) := by
  have h7 : (7 : Int32) < nI 1000 := by decide
  have n10 : ¬ (nI 1) = (0 : Int32) := by decide
  have e00 : (nI 0) = (0 : Int32) := rfl
  have hmI : mI < (0 : Int32) := by decide
  have hz1 : ∀ F M, tw_rz (1 : Int32) F M = F M := fun F M => tw_rz_b (ok := true) F M
  have hz0 : ∀ F M, tw_rz (0 : Int32) F M = F M := fun F M => tw_rz_b (ok := false) F M
  have nn : ∀ c, c < 1000 → ¬ nI c < (0 : Int32) := fun c hc => by
    show ¬ nI c < nI 0
    rw [nz_lt (by omega) (by omega)]; omega
  have wat : "at" ∈ tw_words := by decide
  have wro : "roams" ∈ tw_words := by decide
  have wpa : "pay" ∈ tw_words := by decide
  have wsw : "sworn" ∈ tw_words := by decide
  have hPm : ∀ (ν : Nat → Nat → Int32) p q la n (k : Int32 → tw_Mem → Prop), tw_Mt sh ν (b + 168) B e → ν (b + 168 + 1) = T → f_X12_people (b + 168) k (sh, tw_pb ν (b + 168) p q, la, n) = k (nI P) (sh, tw_pb ν (b + 168) p q, la, n) := fun ν p q la n k hM hT1 => by
    rw [m_people hM.1, tw_pb_n (by omega), hT1, W.1]
  have hP8 : ¬ nI P = (8 : Int32) := by
    show ¬ nI P = nI 8
    rw [nz_eq (by omega) (by omega)]; omega
  have cis := of_eq_true (Tx_is0 hX)
  by_cases q0 : tw_iW B e i "at"
  · have i1 := tw_nx1 hT hi q0.1 (by omega)
    by_cases q1 : tw_iN B e (i + 1) 0 7
    · obtain ⟨_, v1, v2⟩ := tw_iN_v (hi := 7) hT q1 (by omega)
      have i2 := tw_nx1 hT i1 q1.1 (by omega)
      obtain ⟨ok3, i3, r, a1, a2, a3, C3, M3⟩ := b_opt (lo := 100) (v := 100) hT hX GS ks_RX9_66 ks_RX12_124 wro i2 (by omega) rfl
      cases ok3
      · refine ⟨false, i3, T, P, by omega, a2, tw_Li_r W, fun μ w hA hG H => ?_, fun ν q hM hG hT1 => ?_⟩
        · obtain ⟨w3, E3⟩ := C3 μ (nI (tw_vd B e (i + 1))) hA hG
          refine ⟨μ, w3, tw_fx_r, H, fun la n k => ?_⟩
          unfold f_X9_takePersonLine
          rw [cb_W hA hG (by omega) cis GS ks_RX9_56 wat hi, if_pos q0, A_if, if_neg n10, TxV0 hX, cb_N0 hA i1, if_pos q1, A_if, if_neg n10, TxV0 hX, cb_last hA, E3, if_neg (by decide), hz0]
          rfl
        · obtain ⟨p3, q3, b1, b2, E3⟩ := M3 ν _ (tw_tg B e (i + 1)) hM hG (tw_on_p B e (i + 1 + 1))
          refine ⟨p3, q3, b1, b2, fun la n k => ?_⟩
          unfold f_X12_readPerson
          rw [← hT1, tw_ra_s, MoV0 hM.1, hPm ν _ _ _ _ _ hM hT1, A_if, if_neg hP8, mb_Wa hM hG (by omega) GS ks_RX12_119 wat (tw_on_p _ _ _) h7, if_pos q0, if_pos q1, A_if, if_neg (nn _ (by omega)), E3, if_neg (by decide), A_if, if_pos hmI, hz0]
          rfl
      · obtain ⟨ok4, i4, y, a4, a5, a6, C4, M4⟩ := b_opt (lo := 99) (v := 99) hT hX GS ks_RX9_68 ks_RX12_129 wpa a2 (by omega) rfl
        cases ok4
        · refine ⟨false, i4, T, P, by omega, a5, tw_Li_r W, fun μ w hA hG H => ?_, fun ν q hM hG hT1 => ?_⟩
          · obtain ⟨w3, E3⟩ := C3 μ (nI (tw_vd B e (i + 1))) hA hG
            obtain ⟨w4, E4⟩ := C4 μ w3 hA hG
            refine ⟨μ, w4, tw_fx_r, H, fun la n k => ?_⟩
            unfold f_X9_takePersonLine
            rw [cb_W hA hG (by omega) cis GS ks_RX9_56 wat hi, if_pos q0, A_if, if_neg n10, TxV0 hX, cb_N0 hA i1, if_pos q1, A_if, if_neg n10, TxV0 hX, cb_last hA, E3, if_pos rfl, E4, if_neg (by decide), hz0]
            rfl
          · obtain ⟨p3, q3, b1, b2, E3⟩ := M3 ν _ (tw_tg B e (i + 1)) hM hG (tw_on_p B e (i + 1 + 1))
            obtain ⟨p4, q4, b3, b4, E4⟩ := M4 ν p3 q3 hM hG (b1 rfl)
            refine ⟨p4, q4, b3, b4, fun la n k => ?_⟩
            unfold f_X12_readPerson
            rw [← hT1, tw_ra_s, MoV0 hM.1, hPm ν _ _ _ _ _ hM hT1, A_if, if_neg hP8, mb_Wa hM hG (by omega) GS ks_RX12_119 wat (tw_on_p _ _ _) h7, if_pos q0, if_pos q1, A_if, if_neg (nn _ (by omega)), E3, if_pos rfl, A_if, if_neg (nn _ (by omega)), E4, if_neg (by decide), A_if, if_pos hmI, hz0]
            rfl
        · obtain ⟨s, i5, a7, a8, a9, s1, s2⟩ : ∃ s i5, i4 ≤ i5 ∧ i5 ≤ tt ∧ s < 2 ∧ (s = 1 → tw_iW B e i4 "sworn" ∧ i5 = i4 + 1) ∧ (s = 0 → ¬ tw_iW B e i4 "sworn" ∧ i5 = i4) := by
            by_cases q5 : tw_iW B e i4 "sworn"
            · exact ⟨1, i4 + 1, by omega, tw_nx1 hT a5 q5.1 (by omega), by omega, fun _ => ⟨q5, rfl⟩, fun g => by omega⟩
            · exact ⟨0, i4, Nat.le_refl _, a5, by omega, fun g => by omega, fun _ => ⟨q5, rfl⟩⟩
          refine ⟨true, i5, tw_adP T P (tw_vd B e (i + 1)) r y s, P + 1, by omega, a8, tw_adP_i W h8 (by omega) (by omega) (by omega) a9, fun μ w hA hG H => ?_, fun ν q hM hG hT1 => ?_⟩
          · obtain ⟨w3, E3⟩ := C3 μ (nI (tw_vd B e (i + 1))) hA hG
            obtain ⟨w4, E4⟩ := C4 μ w3 hA hG
            obtain ⟨μ', F1, R1, E5⟩ := c_addPer (h := tw_vd B e (i + 1)) (r := r) (y := y) H W h8 a9 i5 w4
            refine ⟨μ', w4, F1, R1, fun la n k => ?_⟩
            have hiv : ∀ F, tw_iv 7 (b + 12) F (sh, tw_cwf μ (b + 140) i5 w4, la, n) = F (sh, tw_cwf μ (b + 140) i5 w4, la, n) := fun F => by rw [A_iv, Tn_is H.1, true_and]
            have hsw : ∀ K : Int32 → tw_Mem → Prop, tw_ls g RX9 70 "sworn" (fun a => tw_iv 8 (b + 140) (f_X7_takeWord (b + 140) a K)) (sh, tw_cwf μ (b + 140) i4 w4, la, n) = K (nI s) (sh, tw_cwf μ (b + 140) i5 w4, la, n) := fun K => by
              rw [cb_W hA hG (by omega) cis GS ks_RX9_70 wsw a5]
              rcases (by omega : s = 0 ∨ s = 1) with g | g
              · obtain ⟨g1, g2⟩ := s2 g
                rw [if_neg g1, g2, g]
              · obtain ⟨g1, g2⟩ := s1 g
                rw [if_pos g1, g2, g]
            unfold f_X9_takePersonLine
            rw [cb_W hA hG (by omega) cis GS ks_RX9_56 wat hi, if_pos q0, A_if, if_neg n10, TxV0 hX, cb_N0 hA i1, if_pos q1, A_if, if_neg n10, TxV0 hX, cb_last hA, E3, if_pos rfl, E4, if_pos rfl, TxG0_53 hX, hsw, hiv, E5, hz1]
            rfl
          · obtain ⟨p3, q3, b1, b2, E3⟩ := M3 ν _ (tw_tg B e (i + 1)) hM hG (tw_on_p B e (i + 1 + 1))
            obtain ⟨p4, q4, b3, b4, E4⟩ := M4 ν p3 q3 hM hG (b1 rfl)
            obtain ⟨p5, c5, hsw⟩ : ∃ p5, tw_on B e i5 p5 ∧ ∀ (S : Nat → Int32) la n (K : Int32 → tw_Mem → Prop), tw_ls g RX12 131 "sworn" (fun a => tw_iv 11 (b + 168) (f_X12_passes (b + 168) a K)) (sh, tw_pb (tw_ra ν (b + 168 + 1) S) (b + 168) p4 q4, la, n) = K (nI s) (sh, tw_pb (tw_ra ν (b + 168 + 1) S) (b + 168) p5 (tw_tg B e i4), la, n) := by
              rcases (by omega : s = 0 ∨ s = 1) with g | g
              · obtain ⟨g1, g2⟩ := s2 g
                refine ⟨tw_tg B e i4, by rw [g2]; exact tw_on_g _ _ _, fun S la n K => ?_⟩
                rw [mb_Wp (tw_Mt_ra hM) (tw_GH_ra hG (by omega)) (by omega) GS ks_RX12_131 wsw (b3 rfl), if_neg g1, g]
              · obtain ⟨g1, g2⟩ := s1 g
                refine ⟨tw_tp B e (i4 + 1), by rw [g2]; exact tw_on_p _ _ _, fun S la n K => ?_⟩
                rw [mb_Wp (tw_Mt_ra hM) (tw_GH_ra hG (by omega)) (by omega) GS ks_RX12_131 wsw (b3 rfl), if_pos g1, g]
            refine ⟨p5, tw_tg B e i4, fun _ => c5, fun h => Bool.noConfusion h, fun la n k => ?_⟩
            have hm := hM.1
            unfold f_X12_readPerson
            rw [MoV0 hm, hPm ν _ _ _ _ _ hM hT1, A_if, if_neg hP8, mb_Wa hM hG (by omega) GS ks_RX12_119 wat (tw_on_p _ _ _) h7, if_pos q0, if_pos q1, A_if, if_neg (nn _ (by omega)), E3, if_pos rfl, A_if, if_neg (nn _ (by omega)), E4, if_pos rfl, A_if, if_neg (nn _ (by omega))]
            refine tw_lp_for 20 (fun j => nI j) (fun j => (sh, tw_pb (tw_ra ν (b + 168 + 1) (tw_z1 T P j)) (b + 168) p4 q4, la, n)) rfl ?_ (fun j hj rec => ?_) (fun rec => ?_)
            · have e0 : tw_z1 T P 0 = T := by funext c; exact if_neg (by omega)
              show (sh, tw_pb (tw_ra ν (b + 168 + 1) (tw_z1 T P 0)) (b + 168) p4 q4, la, n) = _
              rw [e0, ← hT1, tw_ra_s]
            · have hlt : nI j < (20 : Int32) := by show nI j < nI 20; rw [nz_lt (by omega) (by omega)]; exact hj
              have e1 : nI j + (1 : Int32) = nI (j + 1) := nI_add j 1
              rw [A_if, if_pos hlt, MoG0_71 hm, f_at1 P rfl, mb_si hm (by omega), e1]
              show rec _ (sh, tw_pb (tw_ra ν (b + 168 + 1) (tw_u1 _ _ (nI 0))) _ _ _, _, _) = _
              rw [tw_z1_s]
            · have hlt : ¬ nI 20 < (20 : Int32) := by decide
              rw [A_if, if_neg hlt]
              refine tw_lp_for P (fun j => nI j) (fun _ => (sh, tw_pb (tw_ra ν (b + 168 + 1) (tw_z1 T P 20)) (b + 168) p4 q4, la, n)) rfl rfl (fun j hj rec => ?_) (fun rec => ?_)
              · have hlt : nI j < nI P := by rw [nz_lt (by omega) (by omega)]; exact hj
                have e1 : nI j + (1 : Int32) = nI (j + 1) := nI_add j 1
                obtain ⟨⟨x1, _, y1, y2⟩, ⟨x2, _, y3, y4⟩, _⟩ := W.2.2.2.2.2.2.2.2.1 j P (by omega) h8
                have z1 : tw_u1 (tw_z1 T P 20) (32 + 20 * j + (4 + P)) (0 : Int32) = tw_z1 T P 20 := by
                  have : (0 : Int32) = tw_z1 T P 20 (32 + 20 * j + (4 + P)) := by
                    unfold tw_z1
                    rw [if_neg (by omega), y1, y2 (by omega)]
                    rfl
                  rw [this, tw_u1_self]
                have z2 : tw_u1 (tw_z1 T P 20) (32 + 20 * j + (12 + P)) (0 : Int32) = tw_z1 T P 20 := by
                  have : (0 : Int32) = tw_z1 T P 20 (32 + 20 * j + (12 + P)) := by
                    unfold tw_z1
                    rw [if_neg (by omega), y3, y4 (by omega)]
                    rfl
                  rw [this, tw_u1_self]
                rw [A_if, if_pos hlt, MoG0_71 hm, f_at1 (v := (4 : Int32) + nI P) j (c := 4 + P) (nI_add 4 P), mb_si hm (by omega), z1, MoG0_71 hm, f_at1 (v := (12 : Int32) + nI P) j (c := 12 + P) (nI_add 12 P), mb_si hm (by omega), z2, e1]
              · have hlt : ¬ nI P < nI P := by rw [nz_lt (by omega) (by omega)]; omega
                rw [A_if, if_neg hlt, MoG0_71 hm, f_at1 (v := (0 : Int32)) P (c := 0) rfl, mb_si hm (by omega), MoG0_71 hm, f_at1 (v := (1 : Int32)) P (c := 1) rfl, mb_si hm (by omega), MoG0_71 hm, f_at1 (v := (2 : Int32)) P (c := 2) rfl, mb_si hm (by omega), MoG0_71 hm, f_at1 (v := (3 : Int32)) P (c := 3) rfl, hsw, A_jn]
                have es : ∀ K : Int32 → tw_Mem → Prop, tw_if (nI s = 0) (K 0) (K 1) = K (nI s) := fun K => by
                  funext M
                  rw [A_if]
                  rcases (by omega : s = 0 ∨ s = 1) with g | g
                  · rw [g, if_pos e00]; rfl
                  · rw [g, if_neg n10]; rfl
                refine (congrFun (es (fun s27 => tw_si (b + 168 + 1) (nI (32 + 20 * P + 3)) s27 (tw_gr 71 (b + 168) fun x28 => tw_li x28 0 fun x29 => tw_si x28 0 (x29 + 1) (tw_rz 1 (k 1))))) _).trans ?_
                show tw_si (b + 168 + 1) (nI (32 + 20 * P + 3)) (nI s) (tw_gr 71 (b + 168) fun x28 => tw_li x28 0 fun x29 => tw_si x28 0 (x29 + 1) (tw_rz 1 (k 1))) _ = _
                have e0 : (0 : Int32) = nI 0 := rfl
                rw [mb_si hm (by omega), MoG0_71 hm, e0, X_li hm.2.1 (by omega) (by decide), tw_pb_n (by omega), tw_ra_aj, tw_u1n (by omega), tw_u1n (by omega), tw_u1n (by omega), tw_u1n (by omega)]
                have ez : tw_z1 T P 20 0 = nI P := by unfold tw_z1; rw [if_neg (by omega)]; exact W.1
                have eP : nI P + (1 : Int32) = nI (P + 1) := nI_add P 1
                rw [ez, mb_si hm (by omega), eP, hz1, ← tw_z1_e (h := tw_vd B e (i + 1)) (r := r) (y := y) (s := s) W h8]
                rfl
    · refine ⟨false, i + 1, T, P, by omega, i1, tw_Li_r W, fun μ w hA hG H => ⟨μ, w, tw_fx_r, H, fun la n k => ?_⟩, fun ν q hM hG hT1 => ⟨tw_tde B e (tw_tg B e (i + 1)), tw_tg B e (i + 1), fun h => Bool.noConfusion h, fun _ => rfl, fun la n k => ?_⟩⟩
      · unfold f_X9_takePersonLine
        rw [cb_W hA hG (by omega) cis GS ks_RX9_56 wat hi, if_pos q0, A_if, if_neg n10, TxV0 hX, cb_N0 hA i1, if_neg q1, A_if, if_pos e00, hz0]
        rfl
      · unfold f_X12_readPerson
        rw [← hT1, tw_ra_s, MoV0 hM.1, hPm ν _ _ _ _ _ hM hT1, A_if, if_neg hP8, mb_Wa hM hG (by omega) GS ks_RX12_119 wat (tw_on_p _ _ _) h7, if_pos q0, if_neg q1, A_if, if_pos hmI, hz0]
        rfl
  · refine ⟨false, i, T, P, by omega, hi, tw_Li_r W, fun μ w hA hG H => ⟨μ, w, tw_fx_r, H, fun la n k => ?_⟩, fun ν q hM hG hT1 => ⟨tw_tle B e (tw_tg B e i), tw_tg B e i, fun h => Bool.noConfusion h, fun _ => rfl, fun la n k => ?_⟩⟩
    · unfold f_X9_takePersonLine
      rw [cb_W hA hG (by omega) cis GS ks_RX9_56 wat hi, if_neg q0, A_if, if_pos e00, hz0]
      rfl
    · unfold f_X12_readPerson
      rw [← hT1, tw_ra_s, MoV0 hM.1, hPm ν _ _ _ _ _ hM hT1, A_if, if_neg hP8, mb_Wa hM hG (by omega) GS ks_RX12_119 wat (tw_on_p _ _ _) h7, if_neg q0, A_if, if_pos hmI, hz0]
      rfl
end P99h
