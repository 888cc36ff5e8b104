/-! ===== the law: its loop, its beginning ===== -/
def tw_LB (g : tw_Gx) (a0 b : Nat) (k : Int32 → tw_Mem → Prop) : (Int32 → tw_Mem → Prop) → Int32 → tw_Mem → Prop := fun (r6 : Int32 → tw_Mem → Prop) (s7 : Int32) (M : tw_Mem) => tw_lawP s7 ∧ (tw_al a0 fun x8 => tw_if ((x8 - (6 : Int32)) < s7) (tw_rz (1 : Int32) (k (1 : Int32))) (tw_li a0 s7 fun x9 => tw_jn (fun (s11 : Unit) => r6 (s7 + (6 : Int32))) (fun j10 => tw_if ((x9 &&& (63 : Int32)) = (0 : Int32)) (f_Lc0 a0 b (b + 168) (b + 181) s7 j10 k) (tw_if ((x9 &&& (63 : Int32)) = (1 : Int32)) (f_Lc1 a0 b (b + 168) (b + 181) s7 j10 k) (tw_if ((x9 &&& (63 : Int32)) = (2 : Int32)) (f_Lc2 g a0 b (b + 168) (b + 181) s7 j10 k) (tw_if ((x9 &&& (63 : Int32)) = (3 : Int32)) (f_Lc3 g a0 b (b + 168) (b + 181) s7 j10 k) (tw_if ((x9 &&& (63 : Int32)) = (4 : Int32)) (f_Lc4 a0 b (b + 168) (b + 181) s7 j10 k) (tw_if ((x9 &&& (63 : Int32)) = (5 : Int32)) (f_Lc5 a0 b (b + 168) (b + 181) s7 j10 k) (tw_if ((x9 &&& (63 : Int32)) = (6 : Int32)) (f_Lc6 a0 b (b + 168) (b + 181) s7 j10 k) (tw_if ((x9 &&& (63 : Int32)) = (7 : Int32)) (f_Lc7 a0 b (b + 168) (b + 181) s7 j10 k) (tw_if ((x9 &&& (63 : Int32)) = (8 : Int32)) (f_Lc8 a0 b (b + 168) (b + 181) s7 j10 k) (tw_if ((x9 &&& (63 : Int32)) = (9 : Int32)) (f_Lc9 a0 b (b + 168) (b + 181) s7 j10 k) (tw_if ((x9 &&& (63 : Int32)) = (10 : Int32)) (f_Lc10 a0 b (b + 168) (b + 181) s7 j10 k) (tw_if ((x9 &&& (63 : Int32)) = (11 : Int32)) (f_Lc11 a0 b (b + 168) (b + 181) s7 j10 k) (tw_if ((x9 &&& (63 : Int32)) = (12 : Int32)) (f_Lc12 a0 b (b + 168) (b + 181) s7 j10 k) (tw_if ((x9 &&& (63 : Int32)) = (13 : Int32)) (f_Lc13 a0 b (b + 168) (b + 181) s7 j10 k) (tw_if ((x9 &&& (63 : Int32)) = (14 : Int32)) (f_Lc14 a0 b (b + 168) (b + 181) s7 j10 k) (tw_if ((x9 &&& (63 : Int32)) = (15 : Int32)) (f_Lc15 a0 b (b + 168) (b + 181) s7 j10 k) (tw_if ((x9 &&& (63 : Int32)) = (16 : Int32)) (f_Lc16 a0 b (b + 168) (b + 181) s7 j10 k) (tw_if ((x9 &&& (63 : Int32)) = (17 : Int32)) (f_Lc17 a0 b (b + 168) (b + 181) s7 j10 k) (tw_if ((x9 &&& (63 : Int32)) = (18 : Int32)) (f_Lc18 a0 b (b + 168) (b + 181) s7 j10 k) (tw_if ((x9 &&& (63 : Int32)) = (19 : Int32)) (f_Lc19 a0 b (b + 168) (b + 181) s7 j10 k) (tw_if ((x9 &&& (63 : Int32)) = (20 : Int32)) (f_Lc20 a0 b (b + 168) (b + 181) s7 j10 k) (tw_if ((x9 &&& (63 : Int32)) = (21 : Int32)) (f_Lc21 a0 b (b + 168) (b + 181) s7 j10 k) (tw_if ((x9 &&& (63 : Int32)) = (22 : Int32)) (f_Lc22 a0 b (b + 168) (b + 181) s7 j10 k) (tw_if ((x9 &&& (63 : Int32)) = (23 : Int32)) (f_Lc23 a0 b (b + 168) (b + 181) s7 j10 k) (tw_if ((x9 &&& (63 : Int32)) = (24 : Int32)) (f_Lc24 a0 b (b + 168) (b + 181) s7 j10 k) (tw_if ((x9 &&& (63 : Int32)) = (25 : Int32)) (f_Lc25 a0 b (b + 168) (b + 181) s7 j10 k) (tw_if ((x9 &&& (63 : Int32)) = (26 : Int32)) (f_Lc26 a0 b (b + 168) (b + 181) s7 j10 k) (tw_if ((x9 &&& (63 : Int32)) = (27 : Int32)) (f_Lc27 a0 b (b + 168) (b + 181) s7 j10 k) (tw_if ((x9 &&& (63 : Int32)) = (28 : Int32)) (f_Lc28 a0 b (b + 168) (b + 181) s7 j10 k) (tw_if ((x9 &&& (63 : Int32)) = (29 : Int32)) (f_Lc29 a0 b (b + 168) (b + 181) s7 j10 k) (tw_if ((x9 &&& (63 : Int32)) = (30 : Int32)) (f_Lc30 a0 b (b + 168) (b + 181) s7 j10 k) (tw_if ((x9 &&& (63 : Int32)) = (31 : Int32)) (f_Lc31 a0 b (b + 168) (b + 181) s7 j10 k) (tw_if ((x9 &&& (63 : Int32)) = (32 : Int32)) (f_Lc32 a0 b (b + 168) (b + 181) s7 j10 k) (tw_if ((x9 &&& (63 : Int32)) = (33 : Int32)) (f_Lc33 a0 b (b + 168) (b + 181) s7 j10 k) (tw_if ((x9 &&& (63 : Int32)) = (34 : Int32)) (f_Lc34 a0 b (b + 168) (b + 181) s7 j10 k) (tw_if ((x9 &&& (63 : Int32)) = (35 : Int32)) (f_Lc35 a0 b (b + 168) (b + 181) s7 j10 k) (tw_if ((x9 &&& (63 : Int32)) = (36 : Int32)) (f_Lc36 a0 b (b + 168) (b + 181) s7 j10 k) (tw_if ((x9 &&& (63 : Int32)) = (37 : Int32)) (f_Lc37 a0 b (b + 168) (b + 181) s7 j10 k) (tw_if ((x9 &&& (63 : Int32)) = (38 : Int32)) (f_Lc38 a0 b (b + 168) (b + 181) s7 j10 k) (tw_if ((x9 &&& (63 : Int32)) = (39 : Int32)) (f_Lc39 a0 b (b + 168) (b + 181) s7 j10 k) (tw_if ((x9 &&& (63 : Int32)) = (40 : Int32)) (f_Lc40 a0 b (b + 168) (b + 181) s7 j10 k) (tw_if ((x9 &&& (63 : Int32)) = (41 : Int32)) (f_Lc41 a0 b (b + 168) (b + 181) s7 j10 k) (tw_if ((x9 &&& (63 : Int32)) = (42 : Int32)) (f_Lc42 a0 b (b + 168) (b + 181) s7 j10 k) (tw_if ((x9 &&& (63 : Int32)) = (43 : Int32)) (f_Lc43 a0 b (b + 168) (b + 181) s7 j10 k) (tw_if ((x9 &&& (63 : Int32)) = (44 : Int32)) (f_Lc44 a0 b (b + 168) (b + 181) s7 j10 k) (tw_if ((x9 &&& (63 : Int32)) = (45 : Int32)) (f_Lc45 a0 b (b + 168) (b + 181) s7 j10 k) (tw_if ((x9 &&& (63 : Int32)) = (46 : Int32)) (f_Lc46 a0 b (b + 168) (b + 181) s7 j10 k) (tw_if ((x9 &&& (63 : Int32)) = (47 : Int32)) (f_Lc47 a0 b (b + 168) (b + 181) s7 j10 k) (tw_if ((x9 &&& (63 : Int32)) = (48 : Int32)) (f_Lc48 a0 b (b + 168) (b + 181) s7 j10 k) (tw_if ((x9 &&& (63 : Int32)) = (49 : Int32)) (f_Lc49 a0 b (b + 168) (b + 181) s7 j10 k) (tw_if ((x9 &&& (63 : Int32)) = (50 : Int32)) (f_Lc50 a0 b (b + 168) (b + 181) s7 j10 k) (tw_if ((x9 &&& (63 : Int32)) = (51 : Int32)) (f_Lc51 a0 b (b + 168) (b + 181) s7 j10 k) (tw_if ((x9 &&& (63 : Int32)) = (52 : Int32)) (f_Lc52 a0 b (b + 168) (b + 181) s7 j10 k) (tw_if ((x9 &&& (63 : Int32)) = (53 : Int32)) (f_Lc53 a0 b (b + 168) (b + 181) s7 j10 k) (tw_if ((x9 &&& (63 : Int32)) = (54 : Int32)) (f_Lc54 a0 b (b + 168) (b + 181) s7 j10 k) (j10 ())))))))))))))))))))))))))))))))))))))))))))))))))))))))))) M
theorem tw_ifc {c : Prop} [Decidable c] {F G : tw_Mem → Prop} {M : tw_Mem} (h1 : c → F M) (h2 : ¬ c → G M) : tw_if c F G M := by
  show if c then F M else G M
  by_cases h : c
  · rw [if_pos h]; exact h1 h
  · rw [if_neg h]; exact h2 h
theorem tw_L6 {L i : Nat} (hL : L < 3073) (hi : i ≤ L) : (nI L - (6 : Int32) < nI i) = (L < i + 6) := by
  have e6 : ((6 : Int32)).toInt = 6 := by decide
  rw [Int32.lt_iff_toInt_lt, Int32.toInt_sub, nI_toInt (by omega), nI_toInt (by omega), e6, Int.bmod_def]
  apply propext
  constructor
  · intro h; split at h <;> omega
  · intro h; split <;> omega
section P99z
variable {sh : tw_Sh} {μ : Nat → Nat → Int32} {la : Nat → Nat → Int64} {n a0 b L i : Nat} {G : tw_Gm} {g : tw_Gx} {k : Int32 → tw_Mem → Prop}
theorem law_step (GS : tw_GS g G b) (hk : ∀ M, k 1 M) {r : Int32 → tw_Mem → Prop} (hI : tw_IV G a0 b L (sh, μ, la, n)) (hiL : i ≤ L) (hr : i + 6 ≤ L → ∀ M, tw_IV G a0 b L M → r (nI (i + 6)) M) : tw_LB g a0 b k r (nI i) (sh, μ, la, n) := by
  obtain ⟨lw, kl, P, hS, W, H, HL, HR, HI, HT, hf⟩ := tw_IV_e hI
  have hSc := hS.2.2.2.2.2.2.2.2.2.2.2.2.2.2.2.1
  have hL3 := hS.2.2.2.2.2.2.2.2.2.2.2.2.2.2.2.2.1
  have hSc' : tw_ar sh a0 4 L := hSc
  have e6 : nI i + (6 : Int32) = nI (i + 6) := nI_add i 6
  have hnl : ¬ nI i < (0 : Int32) := by
    show ¬ nI i < nI 0
    rw [nz_lt (by omega) (by omega)]; omega
  have hcl : (nI i).toNatClampNeg = i := nz_cl (by omega)
  refine ⟨⟨hnl, by rw [hcl]; omega⟩, ?_⟩
  rw [tw_al_ar hSc' (by decide)]
  refine tw_ifc (fun _ => ⟨Or.inr rfl, hk _⟩) (fun hx => ?_)
  rw [tw_L6 hL3 hiL] at hx
  have hi : i + 6 ≤ L := by omega
  rw [tw_scr hSc hL3 (by omega), A_jn]
  have hj : ∀ M, tw_IV G a0 b L M → (fun s11 : Unit => r (nI i + (6 : Int32))) () M := fun M hM => by
    show r (nI i + (6 : Int32)) M
    rw [e6]
    exact hr hi M hM
  generalize μ a0 i &&& (63 : Int32) = z
  refine tw_ifc (fun _ => L0 hI hi hj k) (fun _ => ?_)
  refine tw_ifc (fun _ => L1 hI hi hj k) (fun _ => ?_)
  refine tw_ifc (fun _ => L2 GS hI hi hj k) (fun _ => ?_)
  refine tw_ifc (fun _ => L3 GS hI hi hj k) (fun _ => ?_)
  refine tw_ifc (fun _ => L4 hI hi hj k) (fun _ => ?_)
  refine tw_ifc (fun _ => L5 hI hi hj k) (fun _ => ?_)
  refine tw_ifc (fun _ => L6 hI hi hj k) (fun _ => ?_)
  refine tw_ifc (fun _ => L7 hI hi hj k) (fun _ => ?_)
  refine tw_ifc (fun _ => L8 hI hi hj k) (fun _ => ?_)
  refine tw_ifc (fun _ => L9 hI hi hj k) (fun _ => ?_)
  refine tw_ifc (fun _ => L10 hI hi hj k) (fun _ => ?_)
  refine tw_ifc (fun _ => L11 hI hi hj k) (fun _ => ?_)
  refine tw_ifc (fun _ => L12 hI hi hj k) (fun _ => ?_)
  refine tw_ifc (fun _ => L13 hI hi hj k) (fun _ => ?_)
  refine tw_ifc (fun _ => L14 hI hi hj k) (fun _ => ?_)
  refine tw_ifc (fun _ => L15 hI hi hj k) (fun _ => ?_)
  refine tw_ifc (fun _ => L16 hI hi hj k) (fun _ => ?_)
  refine tw_ifc (fun _ => L17 hI hi hj k) (fun _ => ?_)
  refine tw_ifc (fun _ => L18 hI hi hj k) (fun _ => ?_)
  refine tw_ifc (fun _ => L19 hI hi hj k) (fun _ => ?_)
  refine tw_ifc (fun _ => L20 hI hi hj k) (fun _ => ?_)
  refine tw_ifc (fun _ => L21 hI hi hj k) (fun _ => ?_)
  refine tw_ifc (fun _ => L22 hI hi hj k) (fun _ => ?_)
  refine tw_ifc (fun _ => L23 hI hi hj k) (fun _ => ?_)
  refine tw_ifc (fun _ => L24 hI hi hj k) (fun _ => ?_)
  refine tw_ifc (fun _ => L25 hI hi hj k) (fun _ => ?_)
  refine tw_ifc (fun _ => L26 hI hi hj k) (fun _ => ?_)
  refine tw_ifc (fun _ => L27 hI hi hj k) (fun _ => ?_)
  refine tw_ifc (fun _ => L28 hI hi hj k) (fun _ => ?_)
  refine tw_ifc (fun _ => L29 hI hi hj k) (fun _ => ?_)
  refine tw_ifc (fun _ => L30 hI hi hj k) (fun _ => ?_)
  refine tw_ifc (fun _ => L31 hI hi hj k) (fun _ => ?_)
  refine tw_ifc (fun _ => L32 hI hi hj k) (fun _ => ?_)
  refine tw_ifc (fun _ => L33 hI hi hj k) (fun _ => ?_)
  refine tw_ifc (fun _ => L34 hI hi hj k) (fun _ => ?_)
  refine tw_ifc (fun _ => L35 hI hi hj k) (fun _ => ?_)
  refine tw_ifc (fun _ => L36 hI hi hj k) (fun _ => ?_)
  refine tw_ifc (fun _ => L37 hI hi hj k) (fun _ => ?_)
  refine tw_ifc (fun _ => L38 hI hi hj k) (fun _ => ?_)
  refine tw_ifc (fun _ => L39 hI hi hj k) (fun _ => ?_)
  refine tw_ifc (fun _ => L40 hI hi hj k) (fun _ => ?_)
  refine tw_ifc (fun _ => L41 hI hi hj k) (fun _ => ?_)
  refine tw_ifc (fun _ => L42 hI hi hj k) (fun _ => ?_)
  refine tw_ifc (fun _ => L43 hI hi hj k) (fun _ => ?_)
  refine tw_ifc (fun _ => L44 hI hi hj k) (fun _ => ?_)
  refine tw_ifc (fun _ => L45 hI hi hj k) (fun _ => ?_)
  refine tw_ifc (fun _ => L46 hI hi hj k) (fun _ => ?_)
  refine tw_ifc (fun _ => L47 hI hi hj k) (fun _ => ?_)
  refine tw_ifc (fun _ => L48 hI hi hj k) (fun _ => ?_)
  refine tw_ifc (fun _ => L49 hI hi hj k) (fun _ => ?_)
  refine tw_ifc (fun _ => L50 hI hi hj k) (fun _ => ?_)
  refine tw_ifc (fun _ => L51 hI hi hj k) (fun _ => ?_)
  refine tw_ifc (fun _ => L52 hI hi hj k) (fun _ => ?_)
  refine tw_ifc (fun _ => L53 hI hi hj k) (fun _ => ?_)
  refine tw_ifc (fun _ => L54 hI hi hj k) (fun _ => ?_)
  exact hj _ hI
theorem law_whl (GS : tw_GS g G b) (hk : ∀ M, k 1 M) : ∀ d i M, tw_IV G a0 b L M → i ≤ L → L < i + 6 * (d + 1) → tw_whl (tw_LB g a0 b k) (d + 1) (nI i) M
  | 0, i, M, hI, h1, h2 => by
    obtain ⟨sh, μ, la, n⟩ := M
    exact law_step GS hk hI h1 (fun h => by omega)
  | d + 1, i, M, hI, h1, h2 => by
    obtain ⟨sh, μ, la, n⟩ := M
    exact law_step GS hk hI h1 (fun h M hM => law_whl GS hk d (i + 6) M hM (by omega) (by omega))
theorem law_run (hsc : ∃ r, sh a0 = some (4, L, r)) (hL : L ≤ 3072) (hab : a0 < b) (GS : tw_GS g (sh, μ) b) (hk : ∀ M, k 1 M) : f_L_law_ g a0 k (sh, μ, la, b) := by
  obtain ⟨s1, m1, l1, c1, c2, ⟨x1, x2, x3, ⟨x4, x5⟩, x6, x7, x8, x9, x10, x11, x12, x13, x14⟩, x15, x16, x17, x18, x19, x20, x21, x22, E1⟩ := s_class sh μ la b
  obtain ⟨s2, m2, l2, d1, d2, ⟨MO, d3, d4, d5⟩, E2⟩ := s_model s1 m1 l1 (b + 168)
  obtain ⟨s3, es3⟩ : ∃ S, S = tw_xkS s2 (b + 168 + 13) (1, 1, fun _ => none) := ⟨_, rfl⟩
  obtain ⟨m3, em3⟩ : ∃ M, M = tw_xkI m2 (b + 168 + 13) := ⟨_, rfl⟩
  have e2 : ∀ y, y < b + 181 → s3 y = s2 y := fun y hy => by rw [es3, tw_xkS_n (by omega)]
  have e : ∀ y, y < b + 168 → s3 y = s1 y := fun y hy => (e2 y (by omega)).trans (d1 y hy)
  have i2 : ∀ y, y < b + 181 → m3 y = m2 y := fun y hy => by rw [em3, tw_xkI_n (by omega)]
  have ii : ∀ y, y < b + 168 → m3 y = m1 y := fun y hy => (i2 y (by omega)).trans (d2 y hy)
  have T169 : m3 (b + 169) = tw_T0 := (i2 _ (by omega)).trans d3
  obtain ⟨r, hr⟩ := hsc
  have SH : tw_SH s3 a0 b (b + 162) (b + 162) L (b + 182) := by
    refine ⟨?_, ?_, ?_, ⟨?_, ?_⟩, ?_, ?_, ?_, ?_, fun j hj => ?_, fun j hj => ?_, ?_, ?_, ?_, ?_, ?_, ⟨r, ?_⟩, by omega, hab, Or.inl rfl, Or.inl rfl, by omega, by omega, Nat.le_refl _, Or.inl rfl⟩
    · unfold tw_Cx tw_is tw_rr at x1 ⊢; simp (disch := omega) only [e]; exact x1
    · rw [tw_rr_c (e _ (by omega))]; exact x2
    · rw [tw_rr_c (e _ (by omega))]; exact x3
    · unfold tw_Ta tw_is tw_ar tw_rr at x4 ⊢; simp (disch := omega) only [e]; exact x4
    · unfold tw_Tx tw_is tw_ar tw_rr at x5 ⊢; simp (disch := omega) only [e]; exact x5
    · exact tw_Town_sh x6 (fun y h1 h2 => e y (by omega))
    · exact tw_Town_sh x7 (fun y h1 h2 => e y (by omega))
    · exact tw_Town_sh x8 (fun y h1 h2 => e y (by omega))
    · unfold tw_Me tw_is tw_rr at x9 ⊢; simp (disch := omega) only [e]; exact x9
    · have h := x10 j hj
      unfold tw_ai tw_rr at h ⊢; simp (disch := omega) only [e]; exact h
    · exact tw_Town_sh (x11 j hj) (fun y h1 h2 => e y (by omega))
    · unfold tw_Tw tw_is tw_ar tw_rr at x12 ⊢; simp (disch := omega) only [e]; exact x12
    · unfold tw_Pa tw_is tw_ar tw_rr at x13 ⊢; simp (disch := omega) only [e]; exact x13
    · unfold tw_Se tw_is tw_ar tw_rr at x14 ⊢; simp (disch := omega) only [e]; exact x14
    · unfold tw_Mo tw_is tw_ar tw_rr at MO ⊢; simp (disch := omega) only [e2]; exact MO
    · exact ⟨fun _ => none, by rw [es3]; exact tw_xkS_a⟩
    · rw [e _ (by omega), c1 _ hab]; exact hr
  have IV : tw_IV (sh, μ) a0 b L (s3, m3, tw_xkL l2 (b + 168 + 13), b + 182) := by
    refine ⟨b + 162, b + 162, 0, SH, ?_, ?_, ⟨tw_is_c x16 (e _ (by omega)), Or.inl ⟨?_, ?_⟩⟩, ⟨0, 0, fun _ => tw_T0, ⟨by omega, by omega, ?_, ?_, fun k hk => absurd hk (Nat.not_lt_zero k)⟩, ⟨?_, fun k hk => absurd hk (Nat.not_lt_zero k)⟩, fun k hk => absurd hk (Nat.not_lt_zero k)⟩, Or.inl ⟨?_, ?_⟩, ⟨0, by omega, ?_, ?_, fun k hk => absurd hk (Nat.not_lt_zero k)⟩, ?_, fun y hy => ⟨?_, ?_⟩⟩
    · show tw_WF (m3 (b + 169)) 0
      rw [T169]; exact tw_T0_W
    · show tw_RC s3 m3 (b + 3) (m3 (b + 169))
      rw [T169]
      exact tw_RC_sh (Rc_same x15 (fun y h1 h2 => ii y (by omega))) (fun y h1 h2 => e y (by omega))
    · show m3 (b + 169) 2 = nI 0
      rw [T169]; exact tw_T0_z (by omega)
    · show m3 (b + 162) 0 = mI
      rw [ii _ (by omega)]; exact x17
    · show m3 (b + 30) 23 = nI 0
      rw [ii _ (by omega)]; exact x21
    · show m3 (b + 30) 24 = nI 0
      rw [ii _ (by omega)]; exact x22
    · show m3 (b + 168) 77 = nI 0
      rw [i2 _ (by omega)]; exact d5 77 (by omega)
    · show m3 b 68 = nI 0
      rw [ii _ (by omega)]; exact x19
    · show m3 (b + 168) 76 = nI 0
      rw [i2 _ (by omega)]; exact d5 76 (by omega)
    · show m3 (b + 1) 38 = nI 0
      rw [ii _ (by omega)]; exact x18
    · show m3 (b + 168) 79 = nI 0
      rw [i2 _ (by omega)]; exact d5 79 (by omega)
    · show m3 b 69 = m3 (b + 168) 84
      rw [ii _ (by omega), i2 _ (by omega), x20, d4]
    · show s3 y = sh y
      rw [e _ (by omega), c1 _ hy]
    · show m3 y = μ y
      rw [ii _ (by omega), c2 _ hy]
  unfold f_L_law_
  refine Eq.mpr (E1 _) ?_
  refine Eq.mpr (E2 _) ?_
  refine Eq.mpr (A_na1 (c := 1) (by omega) (by omega) _) ?_
  rw [← es3, ← em3]
  exact ⟨L + 1, law_whl GS hk L 0 _ IV (by omega) (by omega)⟩
end P99z
