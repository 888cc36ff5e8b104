/-! ===== pure: the law's steps, town ===== -/
def tw_cj (s T : Nat → Int32) (j : Nat) : Nat → Int32 := fun q => if q < j then T q else s q
theorem tw_cj_s (s T : Nat → Int32) (j : Nat) : tw_u1 (tw_cj s T j) j (T j) = tw_cj s T (j + 1) := by
  funext q
  unfold tw_u1 tw_cj
  by_cases h : q = j
  · rw [if_pos h, if_pos (by omega), h]
  · rw [if_neg h]
    by_cases h2 : q < j
    · rw [if_pos h2, if_pos (by omega)]
    · rw [if_neg h2, if_neg (by omega)]
theorem tw_cj_0 (s T : Nat → Int32) : tw_cj s T 0 = s := by funext q; exact if_neg (by omega)
theorem tw_TP_B {μ : Nat → Nat → Int32} {b : Nat} (h : tw_TP μ b) : ∃ (e : Nat) (B : Nat → Nat), e ≤ 400 ∧ μ (b + 1) 38 = nI e ∧ μ (b + 168) 79 = nI e ∧ (∀ j, B j < 256) ∧ (∀ j, j < e → μ (b + 1 + 1) j = nI (B j)) ∧ ∀ j, j < e → μ (b + 168 + 6) j = vp_nar .byte (nI (B j)) := by
  obtain ⟨e, he, e38, e79, hBB⟩ := h
  refine ⟨e, fun j => if h : j < e then Classical.choose (hBB j h) else 0, he, e38, e79, fun j => ?_, fun j hj => ?_, fun j hj => ?_⟩
  · by_cases h : j < e
    · simp only [h, dif_pos]; exact (Classical.choose_spec (hBB j h)).1
    · simp only [h, dif_neg, not_false_eq_true]; omega
  · simp only [hj, dif_pos]; exact (Classical.choose_spec (hBB j hj)).2.1
  · simp only [hj, dif_pos]; exact (Classical.choose_spec (hBB j hj)).2.2
section P99l
variable {sh : tw_Sh} {μ ν μ' : Nat → Nat → Int32} {la : Nat → Nat → Int64} {n a b w m lw P N L a0 e : Nat} {p o l h i z c x y q kd t r s f : Nat} {T T' : Nat → Int32} {v u rg tn : Int32} {j : Unit → tw_Mem → Prop} {G : tw_Gm} {g : tw_Gx}
/-- the model's cells one after another, from one row to another -/
theorem m_save (hM : tw_Mo sh m) (hT : ν (m + 1) = T) (K : tw_Mem → Prop) : tw_lp (fun (r1 : Int32 → tw_Mem → Prop) (s2 : Int32) => tw_if (s2 < (1341 : Int32)) (tw_gr 73 m fun x26 => tw_gr 71 m fun x27 => tw_li x27 s2 fun x28 => tw_si x26 s2 x28 (r1 (s2 + (1 : Int32)))) K) (0 : Int32) (sh, ν, la, n) = K (sh, tw_ra ν (m + 3) (tw_cj (ν (m + 3)) T 1341), la, n) := by
  refine tw_lp_for 1341 (fun j => nI j) (fun j => (sh, tw_ra ν (m + 3) (tw_cj (ν (m + 3)) T j), la, n)) rfl (by show (sh, tw_ra ν (m + 3) (tw_cj (ν (m + 3)) T 0), la, n) = _; rw [tw_cj_0, tw_ra_s]) (fun j hj rec => ?_) (fun rec => ?_)
  · have hlt : nI j < (1341 : Int32) := by show nI j < nI 1341; rw [nz_lt (by omega) (by omega)]; exact hj
    have e1 : nI j + (1 : Int32) = nI (j + 1) := nI_add j 1
    rw [A_if, if_pos hlt, MoG0_73 hM, MoG0_71 hM, X_li hM.2.1 (by omega) (by decide), tw_ra_nj (by omega), hT, X_si hM.2.2.2.1 hj (by decide), tw_up_ra, tw_cj_s, e1]
  · have hlt : ¬ nI 1341 < (1341 : Int32) := by decide
    rw [A_if, if_neg hlt]
theorem m_restore (hM : tw_Mo sh m) {S : Nat → Int32} (hS : ν (m + 3) = S) (K : tw_Mem → Prop) : tw_lp (fun (r11 : Int32 → tw_Mem → Prop) (s12 : Int32) => tw_if (s12 < (1341 : Int32)) (tw_gr 71 m fun x13 => tw_gr 73 m fun x14 => tw_li x14 s12 fun x15 => tw_si x13 s12 x15 (r11 (s12 + (1 : Int32)))) K) (0 : Int32) (sh, ν, la, n) = K (sh, tw_ra ν (m + 1) (tw_cj (ν (m + 1)) S 1341), la, n) := by
  refine tw_lp_for 1341 (fun j => nI j) (fun j => (sh, tw_ra ν (m + 1) (tw_cj (ν (m + 1)) S j), la, n)) rfl (by show (sh, tw_ra ν (m + 1) (tw_cj (ν (m + 1)) S 0), la, n) = _; rw [tw_cj_0, tw_ra_s]) (fun j hj rec => ?_) (fun rec => ?_)
  · have hlt : nI j < (1341 : Int32) := by show nI j < nI 1341; rw [nz_lt (by omega) (by omega)]; exact hj
    have e1 : nI j + (1 : Int32) = nI (j + 1) := nI_add j 1
    rw [A_if, if_pos hlt, MoG0_71 hM, MoG0_73 hM, X_li hM.2.2.2.1 hj (by decide), tw_ra_nj (by omega), hS, X_si hM.2.1 (by omega) (by decide), tw_up_ra, tw_cj_s, e1]
  · have hlt : ¬ nI 1341 < (1341 : Int32) := by decide
    rw [A_if, if_neg hlt]
/-- what the model makes of a town's text -/
theorem m_town (hM : tw_Mo sh m) (hT : ν (m + 1) = T) {t : Nat} (ht : T 1 = nI t) (ht2 : t < 13) (hLi : tw_Li T T' P) {ok : Bool} (hN : N ≤ 14) {ν' : Nat → Nat → Int32} (hR : ∀ la n (k : Int32 → tw_Mem → Prop), f_X12_readAll g m 1 k (sh, tw_ra ν (m + 3) (tw_cj (ν (m + 3)) T 1341), la, n) = k (if ok = true then nI N else mI) (sh, ν', la, n)) (r1 : ν' (m + 1) = T') (r2 : ∀ y, y ≠ m → y ≠ m + 1 → ν' y = tw_ra ν (m + 3) (tw_cj (ν (m + 3)) T 1341) y) (r70 : ν' m 70 = nI 0) (r82 : ok = false → ν' m 82 = nI f) : ∃ ν2, (∀ y, y ≠ m → y ≠ m + 1 → ν2 y = ν' y) ∧ (∀ q, q ≠ 70 → q ≠ 77 → q ≠ 84 → ν2 m q = ν' m q) ∧ ν2 (m + 1) = (if ok = true ∧ t < 12 then tw_u1 T' 1 (nI (t + 1)) else T) ∧ ν2 m 84 = (if ok = true then mI else nI f) ∧ ν2 m 77 = (if ok = true ∧ t < 12 then nI 0 else ν' m 77) ∧ ν2 m 70 = (if ok = true then (if t < 12 then nI 0 else nI 2) else nI 1) ∧ ∀ la n (k : Int32 → tw_Mem → Prop), f_X12_town g m k (sh, ν, la, n) = k (if ok = true ∧ t < 12 then nI (t + 1) else nI 0) (sh, ν2, la, n) := by
  have n10 : ¬ (1 : Int32) = 0 := by decide
  have n10' : ¬ (nI 1) = (0 : Int32) := by decide
  have hmI : mI < (0 : Int32) := by decide
  have hN0 : ¬ nI N < (0 : Int32) := by show ¬ nI N < nI 0; rw [nz_lt (by omega) (by omega)]; omega
  have hz0 : ∀ F M, tw_rz (0 : Int32) F M = F M := fun F M => tw_rz_b (ok := false) F M
  have hz1 : ∀ F M, tw_rz (1 : Int32) F M = F M := fun F M => tw_rz_b (ok := true) F M
  have th0 : ∀ ν v la n (K : Int32 → tw_Mem → Prop), f_X12_throwsIf m 0 v K (sh, ν, la, n) = K 0 (sh, ν, la, n) := fun ν v la n K => by
    unfold f_X12_throwsIf
    rw [A_if, if_pos rfl, hz0]
  have th1 : ∀ ν v la n (K : Int32 → tw_Mem → Prop), f_X12_throwsIf m 1 v K (sh, ν, la, n) = K 1 (sh, tw_up ν m 70 v, la, n) := fun ν v la n K => by
    unfold f_X12_throwsIf
    rw [A_if, if_neg n10, MoP0_70 hM, hz1]
  have li1 : ∀ ν la n (k : Int32 → tw_Mem → Prop), tw_li (m + 1) (1 : Int32) k (sh, ν, la, n) = k (ν (m + 1) 1) (sh, ν, la, n) := fun ν la n k => X_li (i := 1) hM.2.1 (by omega) (by decide) k
  have si1 : ∀ ν v la n (k : tw_Mem → Prop), tw_si (m + 1) (1 : Int32) v k (sh, ν, la, n) = k (sh, tw_up ν (m + 1) 1 v, la, n) := fun ν v la n k => X_si (i := 1) hM.2.1 (by omega) (by decide) v k
  have hback : ∀ ν3 : Nat → Nat → Int32, ν3 (m + 1) = T' → tw_cj (ν3 (m + 1)) (tw_cj (ν (m + 3)) T 1341) 1341 = T := fun ν3 h3 => by
    funext q
    rw [h3]
    unfold tw_cj
    by_cases h : q < 1341
    · rw [if_pos h, if_pos h]
    · rw [if_neg h]; exact hLi.2.2.2 q (by omega)
  have r3 : ν' (m + 3) = tw_cj (ν (m + 3)) T 1341 := by rw [r2 _ (by omega) (by omega)]; exact tw_ra_a
  cases ok with
  | false =>
    refine ⟨tw_ra (tw_up (tw_up ν' m 84 (nI f)) m 70 (1 : Int32)) (m + 1) T, fun y h1 h2 => by rw [tw_ra_n (by omega), tw_up_ne h1, tw_up_ne h1], fun q h1 h2 h3 => by rw [tw_ra_nj (by omega), tw_uk (by omega), tw_uk (by omega)], by rw [if_neg (by simp)]; exact tw_ra_a, by rw [if_neg (by simp), tw_ra_nj (by omega), tw_uk (by omega)]; exact tw_ua, by rw [if_neg (by simp), tw_ra_nj (by omega), tw_uk (by omega), tw_uk (by omega)], by rw [if_neg (by simp), tw_ra_nj (by omega)]; exact tw_ua, fun la n k => ?_⟩
    unfold f_X12_town
    rw [m_save hM hT, MoV0 hM, hR, if_neg (by decide), A_jn, A_if, if_pos hmI, MoI0_82 hM, r82 rfl]
    show tw_pi 84 m (nI f) _ _ = _
    rw [MoP0_84 hM, A_jn, A_if, if_pos hmI]
    show tw_iv 11 m (f_X12_throwsIf m 1 1 _) _ = _
    rw [MoV0 hM, th1, A_jn, A_if, if_neg n10]
    show tw_lp _ _ _ = _
    rw [m_restore hM (S := tw_cj (ν (m + 3)) T 1341) (by rw [tw_up_ne (by omega), tw_up_ne (by omega)]; exact r3), hback _ (by rw [tw_up_ne (by omega), tw_up_ne (by omega)]; exact r1)]
    rfl
  | true =>
    by_cases h12 : t < 12
    · have h12' : ¬ nI t = (12 : Int32) := by show ¬ nI t = nI 12; rw [nz_eq (by omega) (by omega)]; omega
      have ht' : T' 1 = nI t := hLi.2.1.trans ht
      have e1 : nI t + (1 : Int32) = nI (t + 1) := nI_add t 1
      have em1 : (-1 : Int32) = mI := rfl
      have g1 : tw_up ν' m 84 mI (m + 1) 1 = nI t := by rw [tw_up_ne (by omega), r1, ht']
      refine ⟨tw_up (tw_up (tw_up ν' m 84 mI) (m + 1) 1 (nI (t + 1))) m 77 (0 : Int32), fun y h1 h2 => by rw [tw_up_ne h1, tw_up_ne h2, tw_up_ne h1], fun q h1 h2 h3 => by rw [tw_uk (by omega), tw_up_ne (by omega), tw_uk (by omega)], ?_, by rw [if_pos rfl, tw_uk (by omega), tw_up_ne (by omega)]; exact tw_ua, by rw [if_pos ⟨rfl, h12⟩]; exact tw_ua, by rw [if_pos rfl, if_pos h12, tw_uk (by omega), tw_up_ne (by omega), tw_uk (by omega)]; exact r70, fun la n k => ?_⟩
      · rw [if_pos ⟨rfl, h12⟩, tw_up_ne (by omega), tw_up_as, tw_ra_a, tw_up_ne (by omega), r1]
      · unfold f_X12_town
        rw [m_save hM hT, MoV0 hM, hR, if_pos rfl, A_jn, A_if, if_neg hN0]
        show tw_pi 84 m (-1 : Int32) _ _ = _
        rw [MoP0_84 hM, A_jn, A_if, if_neg hN0]
        show tw_iv 11 m (f_X12_throwsIf m 0 1 _) _ = _
        rw [MoV0 hM, th0, A_jn, A_if, if_pos rfl, MoG0_71 hM, li1, em1, g1, A_jn, A_if, if_neg h12']
        show tw_iv 11 m (f_X12_throwsIf m 0 2 _) _ = _
        rw [MoV0 hM, th0, A_if, if_pos rfl, MoG0_71 hM, li1, g1, si1, MoP0_77 hM, MoG0_71 hM, li1, tw_up_ne (by omega), e1, tw_ua, if_pos ⟨rfl, h12⟩]
    · have h12' : nI t = (12 : Int32) := by show nI t = nI 12; congr 1; omega
      have ht' : T' 1 = nI t := hLi.2.1.trans ht
      have em1 : (-1 : Int32) = mI := rfl
      have g1 : tw_up ν' m 84 mI (m + 1) 1 = nI t := by rw [tw_up_ne (by omega), r1, ht']
      have nc : ¬ (true = true ∧ t < 12) := fun g => h12 g.2
      refine ⟨tw_ra (tw_up (tw_up ν' m 84 mI) m 70 (2 : Int32)) (m + 1) T, fun y h1 h2 => by rw [tw_ra_n (by omega), tw_up_ne h1, tw_up_ne h1], fun q h1 h2 h3 => by rw [tw_ra_nj (by omega), tw_uk (by omega), tw_uk (by omega)], by rw [if_neg nc]; exact tw_ra_a, by rw [if_pos rfl, tw_ra_nj (by omega), tw_uk (by omega)]; exact tw_ua, by rw [if_neg nc, tw_ra_nj (by omega), tw_uk (by omega), tw_uk (by omega)], by rw [if_pos rfl, if_neg h12, tw_ra_nj (by omega)]; exact tw_ua, fun la n k => ?_⟩
      unfold f_X12_town
      rw [m_save hM hT, MoV0 hM, hR, if_pos rfl, A_jn, A_if, if_neg hN0]
      show tw_pi 84 m (-1 : Int32) _ _ = _
      rw [MoP0_84 hM, A_jn, A_if, if_neg hN0]
      show tw_iv 11 m (f_X12_throwsIf m 0 1 _) _ = _
      rw [MoV0 hM, th0, A_jn, A_if, if_pos rfl, MoG0_71 hM, li1, em1, g1, A_jn, A_if, if_pos h12']
      show tw_iv 11 m (f_X12_throwsIf m 1 2 _) _ = _
      rw [MoV0 hM, th1, A_if, if_neg n10]
      show tw_lp _ _ _ = _
      rw [m_restore hM (S := tw_cj (ν (m + 3)) T 1341) (by rw [tw_up_ne (by omega), tw_up_ne (by omega)]; exact r3), hback _ (by rw [tw_up_ne (by omega), tw_up_ne (by omega)]; exact r1), if_neg nc]
      rfl
end P99l
