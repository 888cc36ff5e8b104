/-! ===== pure: the first memory: the class ===== -/
section P99y2
variable {sh : tw_Sh} {μ ν : Nat → Nat → Int32} {la : Nat → Nat → Int64} {n a b m t x c : Nat} {v : Int32}
theorem s_class (sh : tw_Sh) (μ : Nat → Nat → Int32) (la : Nat → Nat → Int64) (b : Nat) : ∃ sh' μ' la', (∀ y, y < b → sh' y = sh y) ∧ (∀ y, y < b → μ' y = μ y) ∧ (tw_Cx sh' b ∧ tw_rr sh' b 66 = some (b + 162) ∧ tw_rr sh' b 67 = some (b + 162) ∧ (tw_Ta sh' (b + 1) ∧ tw_Tx sh' b) ∧ tw_Town sh' (b + 3) ∧ tw_Town sh' (b + 12) ∧ tw_Town sh' (b + 21) ∧ tw_Me sh' b ∧ (∀ i, i < 12 → tw_ai sh' [3] (b + 31) (nI i) ∧ tw_rr sh' (b + 31) i = some (b + 32 + 9 * i)) ∧ (∀ i, i < 12 → tw_Town sh' (b + 32 + 9 * i)) ∧ tw_Tw sh' (b + 152) ∧ tw_Pa sh' b ∧ tw_Se sh' (b + 157)) ∧ tw_RC sh' μ' (b + 3) tw_T0 ∧ tw_is sh' (b + 162) 0 ∧ μ' (b + 162) 0 = mI ∧ μ' (b + 1) 38 = nI 0 ∧ μ' b 68 = nI 0 ∧ μ' b 69 = mI ∧ μ' (b + 30) 23 = nI 0 ∧ μ' (b + 30) 24 = nI 0 ∧ ∀ K : Nat → tw_Mem → Prop, tw_nw 10 (fun b1 => f_X11_init b1 (fun _ => K b1)) (sh, μ, la, b) = K b (sh', μ', la', b + 168) := by
  obtain ⟨S0, eS0⟩ : ∃ S, S = tw_xkS sh b (20, 0, fun _ => none) := ⟨_, rfl⟩
  have isb0 : tw_is S0 b 10 := by rw [eS0]; exact ⟨0, fun _ => none, tw_xkS_a⟩
  have w0 : ∀ y, y < b → S0 y = sh y := fun y hy => by rw [eS0, tw_xkS_n (by omega)]
  obtain ⟨I0, eI0⟩ : ∃ I, I = tw_xkI μ b := ⟨_, rfl⟩
  have z0 : ∀ y, y < b → I0 y = μ y := fun y hy => by rw [eI0, tw_xkI_n (by omega)]
  have zb0 : ∀ j, I0 b j = nI 0 := fun j => by rw [eI0]; exact if_pos rfl
  obtain ⟨L0, eL0⟩ : ∃ l, l = tw_xkL la b := ⟨_, rfl⟩
  obtain ⟨U1, I1, L1, u1, v1, X1, E1⟩ := s_tape S0 I0 L0 (b + 1)
  obtain ⟨S1, eS1⟩ : ∃ S, S = tw_upR U1 b 56 (some (b + 1)) := ⟨_, rfl⟩
  have isu1 : tw_is U1 b 10 := tw_is_c isb0 (u1 b (by omega))
  have isb1 : tw_is S1 b 10 := by rw [eS1]; exact tw_is_up isu1
  have r1 : tw_rr S1 b 56 = some (b + 1) := by rw [eS1]; exact tw_rr_ups isu1
  have r1o : ∀ q', q' ≠ 56 → tw_rr S1 b q' = tw_rr S0 b q' := fun q' hq => by rw [eS1, tw_rr_upn hq, tw_rr_c (u1 b (by omega))]
  have n1 : ∀ y, y ≠ b → S1 y = U1 y := fun y hy => by rw [eS1]; exact tw_upR_ne hy
  have w1 : ∀ y, y < b + 1 → y ≠ b → S1 y = S0 y := fun y hy hb => (n1 y hb).trans (u1 y hy)
  obtain ⟨U2, I2, L2, u2, v2, X2, E2⟩ := s_town S1 I1 L1 (b + 3)
  obtain ⟨S2, eS2⟩ : ∃ S, S = tw_upR U2 b 57 (some (b + 3)) := ⟨_, rfl⟩
  have isu2 : tw_is U2 b 10 := tw_is_c isb1 (u2 b (by omega))
  have isb2 : tw_is S2 b 10 := by rw [eS2]; exact tw_is_up isu2
  have r2 : tw_rr S2 b 57 = some (b + 3) := by rw [eS2]; exact tw_rr_ups isu2
  have r2o : ∀ q', q' ≠ 57 → tw_rr S2 b q' = tw_rr S1 b q' := fun q' hq => by rw [eS2, tw_rr_upn hq, tw_rr_c (u2 b (by omega))]
  have n2 : ∀ y, y ≠ b → S2 y = U2 y := fun y hy => by rw [eS2]; exact tw_upR_ne hy
  have w2 : ∀ y, y < b + 3 → y ≠ b → S2 y = S1 y := fun y hy hb => (n2 y hb).trans (u2 y hy)
  obtain ⟨U3, I3, L3, u3, v3, X3, E3⟩ := s_town S2 I2 L2 (b + 12)
  obtain ⟨S3, eS3⟩ : ∃ S, S = tw_upR U3 b 58 (some (b + 12)) := ⟨_, rfl⟩
  have isu3 : tw_is U3 b 10 := tw_is_c isb2 (u3 b (by omega))
  have isb3 : tw_is S3 b 10 := by rw [eS3]; exact tw_is_up isu3
  have r3 : tw_rr S3 b 58 = some (b + 12) := by rw [eS3]; exact tw_rr_ups isu3
  have r3o : ∀ q', q' ≠ 58 → tw_rr S3 b q' = tw_rr S2 b q' := fun q' hq => by rw [eS3, tw_rr_upn hq, tw_rr_c (u3 b (by omega))]
  have n3 : ∀ y, y ≠ b → S3 y = U3 y := fun y hy => by rw [eS3]; exact tw_upR_ne hy
  have w3 : ∀ y, y < b + 12 → y ≠ b → S3 y = S2 y := fun y hy hb => (n3 y hb).trans (u3 y hy)
  obtain ⟨U4, I4, L4, u4, v4, X4, E4⟩ := s_town S3 I3 L3 (b + 21)
  obtain ⟨S4, eS4⟩ : ∃ S, S = tw_upR U4 b 59 (some (b + 21)) := ⟨_, rfl⟩
  have isu4 : tw_is U4 b 10 := tw_is_c isb3 (u4 b (by omega))
  have isb4 : tw_is S4 b 10 := by rw [eS4]; exact tw_is_up isu4
  have r4 : tw_rr S4 b 59 = some (b + 21) := by rw [eS4]; exact tw_rr_ups isu4
  have r4o : ∀ q', q' ≠ 59 → tw_rr S4 b q' = tw_rr S3 b q' := fun q' hq => by rw [eS4, tw_rr_upn hq, tw_rr_c (u4 b (by omega))]
  have n4 : ∀ y, y ≠ b → S4 y = U4 y := fun y hy => by rw [eS4]; exact tw_upR_ne hy
  have w4 : ∀ y, y < b + 21 → y ≠ b → S4 y = S3 y := fun y hy hb => (n4 y hb).trans (u4 y hy)
  obtain ⟨U5, I5, L5, u5, v5, X5, E5⟩ := s_mem S4 I4 L4 (b + 30)
  obtain ⟨S5, eS5⟩ : ∃ S, S = tw_upR U5 b 60 (some (b + 30)) := ⟨_, rfl⟩
  have isu5 : tw_is U5 b 10 := tw_is_c isb4 (u5 b (by omega))
  have isb5 : tw_is S5 b 10 := by rw [eS5]; exact tw_is_up isu5
  have r5 : tw_rr S5 b 60 = some (b + 30) := by rw [eS5]; exact tw_rr_ups isu5
  have r5o : ∀ q', q' ≠ 60 → tw_rr S5 b q' = tw_rr S4 b q' := fun q' hq => by rw [eS5, tw_rr_upn hq, tw_rr_c (u5 b (by omega))]
  have n5 : ∀ y, y ≠ b → S5 y = U5 y := fun y hy => by rw [eS5]; exact tw_upR_ne hy
  have w5 : ∀ y, y < b + 30 → y ≠ b → S5 y = S4 y := fun y hy hb => (n5 y hb).trans (u5 y hy)
  have g56 : tw_rr S5 b 56 = some (b + 1) := by rw [r5o _ (by omega), r4o _ (by omega), r3o _ (by omega), r2o _ (by omega)]; exact r1
  have g58 : tw_rr S5 b 58 = some (b + 12) := by rw [r5o _ (by omega), r4o _ (by omega)]; exact r3
  obtain ⟨U6, I6, L6, u6, v6, X6, E6⟩ := s_ttext S5 I5 L5 (b + 140) (b := b) (p := b + 1) (q := b + 12) isb5 (by omega) g56 g58
  obtain ⟨S6, eS6⟩ : ∃ S, S = tw_upR U6 b 61 (some (b + 140)) := ⟨_, rfl⟩
  have isu6 : tw_is U6 b 10 := tw_is_c isb5 (u6 b (by omega))
  have isb6 : tw_is S6 b 10 := by rw [eS6]; exact tw_is_up isu6
  have r6 : tw_rr S6 b 61 = some (b + 140) := by rw [eS6]; exact tw_rr_ups isu6
  have r6o : ∀ q', q' ≠ 61 → tw_rr S6 b q' = tw_rr S5 b q' := fun q' hq => by rw [eS6, tw_rr_upn hq, tw_rr_c (u6 b (by omega))]
  have n6 : ∀ y, y ≠ b → S6 y = U6 y := fun y hy => by rw [eS6]; exact tw_upR_ne hy
  have w6 : ∀ y, y < b + 140 → y ≠ b → S6 y = S5 y := fun y hy hb => (n6 y hb).trans (u6 y hy)
  have h56 : tw_rr S6 b 56 = some (b + 1) := by rw [r6o _ (by omega)]; exact g56
  obtain ⟨U7, I7, L7, u7, v7, X7, E7⟩ := s_ltext S6 I6 L6 (b + 144) (b := b) (p := b + 1) isb6 (by omega) h56
  obtain ⟨S7, eS7⟩ : ∃ S, S = tw_upR U7 b 62 (some (b + 144)) := ⟨_, rfl⟩
  have isu7 : tw_is U7 b 10 := tw_is_c isb6 (u7 b (by omega))
  have isb7 : tw_is S7 b 10 := by rw [eS7]; exact tw_is_up isu7
  have r7 : tw_rr S7 b 62 = some (b + 144) := by rw [eS7]; exact tw_rr_ups isu7
  have r7o : ∀ q', q' ≠ 62 → tw_rr S7 b q' = tw_rr S6 b q' := fun q' hq => by rw [eS7, tw_rr_upn hq, tw_rr_c (u7 b (by omega))]
  have n7 : ∀ y, y ≠ b → S7 y = U7 y := fun y hy => by rw [eS7]; exact tw_upR_ne hy
  have w7 : ∀ y, y < b + 144 → y ≠ b → S7 y = S6 y := fun y hy hb => (n7 y hb).trans (u7 y hy)
  obtain ⟨U8, I8, L8, u8, v8, X8, E8⟩ := s_two S7 I7 L7 (b + 152)
  obtain ⟨S8, eS8⟩ : ∃ S, S = tw_upR U8 b 63 (some (b + 152)) := ⟨_, rfl⟩
  have isu8 : tw_is U8 b 10 := tw_is_c isb7 (u8 b (by omega))
  have isb8 : tw_is S8 b 10 := by rw [eS8]; exact tw_is_up isu8
  have r8 : tw_rr S8 b 63 = some (b + 152) := by rw [eS8]; exact tw_rr_ups isu8
  have r8o : ∀ q', q' ≠ 63 → tw_rr S8 b q' = tw_rr S7 b q' := fun q' hq => by rw [eS8, tw_rr_upn hq, tw_rr_c (u8 b (by omega))]
  have n8 : ∀ y, y ≠ b → S8 y = U8 y := fun y hy => by rw [eS8]; exact tw_upR_ne hy
  have w8 : ∀ y, y < b + 152 → y ≠ b → S8 y = S7 y := fun y hy hb => (n8 y hb).trans (u8 y hy)
  have g57 : tw_rr S8 b 57 = some (b + 3) := by rw [r8o _ (by omega), r7o _ (by omega), r6o _ (by omega), r5o _ (by omega), r4o _ (by omega), r3o _ (by omega)]; exact r2
  have g63 : tw_rr S8 b 63 = some (b + 152) := r8
  obtain ⟨U9, I9, L9, u9, v9, X9, E9⟩ := s_pairs S8 I8 L8 (b + 154) (b := b) (p := b + 3) (q := b + 152) isb8 (by omega) g57 g63
  obtain ⟨S9, eS9⟩ : ∃ S, S = tw_upR U9 b 64 (some (b + 154)) := ⟨_, rfl⟩
  have isu9 : tw_is U9 b 10 := tw_is_c isb8 (u9 b (by omega))
  have isb9 : tw_is S9 b 10 := by rw [eS9]; exact tw_is_up isu9
  have r9 : tw_rr S9 b 64 = some (b + 154) := by rw [eS9]; exact tw_rr_ups isu9
  have r9o : ∀ q', q' ≠ 64 → tw_rr S9 b q' = tw_rr S8 b q' := fun q' hq => by rw [eS9, tw_rr_upn hq, tw_rr_c (u9 b (by omega))]
  have n9 : ∀ y, y ≠ b → S9 y = U9 y := fun y hy => by rw [eS9]; exact tw_upR_ne hy
  have w9 : ∀ y, y < b + 154 → y ≠ b → S9 y = S8 y := fun y hy hb => (n9 y hb).trans (u9 y hy)
  obtain ⟨U10, I10, L10, u10, v10, X10, E10⟩ := s_sets S9 I9 L9 (b + 157)
  obtain ⟨S10, eS10⟩ : ∃ S, S = tw_upR U10 b 65 (some (b + 157)) := ⟨_, rfl⟩
  have isu10 : tw_is U10 b 10 := tw_is_c isb9 (u10 b (by omega))
  have isb10 : tw_is S10 b 10 := by rw [eS10]; exact tw_is_up isu10
  have r10 : tw_rr S10 b 65 = some (b + 157) := by rw [eS10]; exact tw_rr_ups isu10
  have r10o : ∀ q', q' ≠ 65 → tw_rr S10 b q' = tw_rr S9 b q' := fun q' hq => by rw [eS10, tw_rr_upn hq, tw_rr_c (u10 b (by omega))]
  have n10 : ∀ y, y ≠ b → S10 y = U10 y := fun y hy => by rw [eS10]; exact tw_upR_ne hy
  have w10 : ∀ y, y < b + 157 → y ≠ b → S10 y = S9 y := fun y hy hb => (n10 y hb).trans (u10 y hy)
  obtain ⟨U11, I11, L11, u11, v11, X11, E11⟩ := s_law S10 I10 L10 (b + 162)
  obtain ⟨S11, eS11⟩ : ∃ S, S = tw_upR U11 b 66 (some (b + 162)) := ⟨_, rfl⟩
  have isu11 : tw_is U11 b 10 := tw_is_c isb10 (u11 b (by omega))
  have isb11 : tw_is S11 b 10 := by rw [eS11]; exact tw_is_up isu11
  have r11 : tw_rr S11 b 66 = some (b + 162) := by rw [eS11]; exact tw_rr_ups isu11
  have r11o : ∀ q', q' ≠ 66 → tw_rr S11 b q' = tw_rr S10 b q' := fun q' hq => by rw [eS11, tw_rr_upn hq, tw_rr_c (u11 b (by omega))]
  have n11 : ∀ y, y ≠ b → S11 y = U11 y := fun y hy => by rw [eS11]; exact tw_upR_ne hy
  have w11 : ∀ y, y < b + 162 → y ≠ b → S11 y = S10 y := fun y hy hb => (n11 y hb).trans (u11 y hy)
  obtain ⟨SF, eSF⟩ : ∃ S, S = tw_upR S11 b 67 (some (b + 162)) := ⟨_, rfl⟩
  have isF : tw_is SF b 10 := by rw [eSF]; exact tw_is_up isb11
  have rFo : ∀ q', q' ≠ 67 → tw_rr SF b q' = tw_rr S11 b q' := fun q' hq => by rw [eSF, tw_rr_upn hq]
  have nF : ∀ y, y ≠ b → SF y = S11 y := fun y hy => by rw [eSF]; exact tw_upR_ne hy
  obtain ⟨IF, eIF⟩ : ∃ I, I = tw_up I11 b 69 (-1 : Int32) := ⟨_, rfl⟩
  have t11 : ∀ y, y ≠ b → SF y = U11 y := fun y hb => (nF y hb).trans (n11 y hb)
  have k11 : ∀ y, y ≠ b → SF y = S11 y := nF
  have k10 : ∀ y, y < b + 162 → y ≠ b → SF y = S10 y := fun y hy hb => (k11 y hb).trans (w11 y hy hb)
  have k9 : ∀ y, y < b + 157 → y ≠ b → SF y = S9 y := fun y hy hb => (k10 y (by omega) hb).trans (w10 y hy hb)
  have k8 : ∀ y, y < b + 154 → y ≠ b → SF y = S8 y := fun y hy hb => (k9 y (by omega) hb).trans (w9 y hy hb)
  have k7 : ∀ y, y < b + 152 → y ≠ b → SF y = S7 y := fun y hy hb => (k8 y (by omega) hb).trans (w8 y hy hb)
  have k6 : ∀ y, y < b + 144 → y ≠ b → SF y = S6 y := fun y hy hb => (k7 y (by omega) hb).trans (w7 y hy hb)
  have k5 : ∀ y, y < b + 140 → y ≠ b → SF y = S5 y := fun y hy hb => (k6 y (by omega) hb).trans (w6 y hy hb)
  have k4 : ∀ y, y < b + 30 → y ≠ b → SF y = S4 y := fun y hy hb => (k5 y (by omega) hb).trans (w5 y hy hb)
  have k3 : ∀ y, y < b + 21 → y ≠ b → SF y = S3 y := fun y hy hb => (k4 y (by omega) hb).trans (w4 y hy hb)
  have k2 : ∀ y, y < b + 12 → y ≠ b → SF y = S2 y := fun y hy hb => (k3 y (by omega) hb).trans (w3 y hy hb)
  have k1 : ∀ y, y < b + 3 → y ≠ b → SF y = S1 y := fun y hy hb => (k2 y (by omega) hb).trans (w2 y hy hb)
  have k0 : ∀ y, y < b + 1 → y ≠ b → SF y = S0 y := fun y hy hb => (k1 y (by omega) hb).trans (w1 y hy hb)
  have t1 : ∀ y, y < b + 3 → y ≠ b → SF y = U1 y := fun y hy hb => (k1 y hy hb).trans (n1 y hb)
  have t2 : ∀ y, y < b + 12 → y ≠ b → SF y = U2 y := fun y hy hb => (k2 y hy hb).trans (n2 y hb)
  have t3 : ∀ y, y < b + 21 → y ≠ b → SF y = U3 y := fun y hy hb => (k3 y hy hb).trans (n3 y hb)
  have t4 : ∀ y, y < b + 30 → y ≠ b → SF y = U4 y := fun y hy hb => (k4 y hy hb).trans (n4 y hb)
  have t5 : ∀ y, y < b + 140 → y ≠ b → SF y = U5 y := fun y hy hb => (k5 y hy hb).trans (n5 y hb)
  have t6 : ∀ y, y < b + 144 → y ≠ b → SF y = U6 y := fun y hy hb => (k6 y hy hb).trans (n6 y hb)
  have t7 : ∀ y, y < b + 152 → y ≠ b → SF y = U7 y := fun y hy hb => (k7 y hy hb).trans (n7 y hb)
  have t8 : ∀ y, y < b + 154 → y ≠ b → SF y = U8 y := fun y hy hb => (k8 y hy hb).trans (n8 y hb)
  have t9 : ∀ y, y < b + 157 → y ≠ b → SF y = U9 y := fun y hy hb => (k9 y hy hb).trans (n9 y hb)
  have t10 : ∀ y, y < b + 162 → y ≠ b → SF y = U10 y := fun y hy hb => (k10 y hy hb).trans (n10 y hb)
  have j11 : ∀ y, y ≠ b → IF y = I11 y := fun y hb => by rw [eIF]; exact tw_up_ne hb
  have j10 : ∀ y, y < b + 162 → y ≠ b → IF y = I10 y := fun y hy hb => (j11 y hb).trans (v11 y hy)
  have j9 : ∀ y, y < b + 157 → y ≠ b → IF y = I9 y := fun y hy hb => (j10 y (by omega) hb).trans (v10 y hy)
  have j8 : ∀ y, y < b + 154 → y ≠ b → IF y = I8 y := fun y hy hb => (j9 y (by omega) hb).trans (v9 y hy)
  have j7 : ∀ y, y < b + 152 → y ≠ b → IF y = I7 y := fun y hy hb => (j8 y (by omega) hb).trans (v8 y hy)
  have j6 : ∀ y, y < b + 144 → y ≠ b → IF y = I6 y := fun y hy hb => (j7 y (by omega) hb).trans (v7 y hy)
  have j5 : ∀ y, y < b + 140 → y ≠ b → IF y = I5 y := fun y hy hb => (j6 y (by omega) hb).trans (v6 y hy)
  have j4 : ∀ y, y < b + 30 → y ≠ b → IF y = I4 y := fun y hy hb => (j5 y (by omega) hb).trans (v5 y hy)
  have j3 : ∀ y, y < b + 21 → y ≠ b → IF y = I3 y := fun y hy hb => (j4 y (by omega) hb).trans (v4 y hy)
  have j2 : ∀ y, y < b + 12 → y ≠ b → IF y = I2 y := fun y hy hb => (j3 y (by omega) hb).trans (v3 y hy)
  have j1 : ∀ y, y < b + 3 → y ≠ b → IF y = I1 y := fun y hy hb => (j2 y (by omega) hb).trans (v2 y hy)
  have j0 : ∀ y, y < b + 1 → y ≠ b → IF y = I0 y := fun y hy hb => (j1 y (by omega) hb).trans (v1 y hy)
  have ib : I11 b = I0 b := by rw [v11 _ (by omega), v10 _ (by omega), v9 _ (by omega), v8 _ (by omega), v7 _ (by omega), v6 _ (by omega), v5 _ (by omega), v4 _ (by omega), v3 _ (by omega), v2 _ (by omega), v1 _ (by omega)]
  have CX : tw_Cx SF b := ⟨isF, by rw [rFo _ (by omega), r11o _ (by omega), r10o _ (by omega), r9o _ (by omega), r8o _ (by omega), r7o _ (by omega), r6o _ (by omega), r5o _ (by omega), r4o _ (by omega), r3o _ (by omega), r2o _ (by omega)]; exact r1, by rw [rFo _ (by omega), r11o _ (by omega), r10o _ (by omega), r9o _ (by omega), r8o _ (by omega), r7o _ (by omega), r6o _ (by omega), r5o _ (by omega), r4o _ (by omega), r3o _ (by omega)]; exact r2, by rw [rFo _ (by omega), r11o _ (by omega), r10o _ (by omega), r9o _ (by omega), r8o _ (by omega), r7o _ (by omega), r6o _ (by omega), r5o _ (by omega), r4o _ (by omega)]; exact r3, by rw [rFo _ (by omega), r11o _ (by omega), r10o _ (by omega), r9o _ (by omega), r8o _ (by omega), r7o _ (by omega), r6o _ (by omega), r5o _ (by omega)]; exact r4, by rw [rFo _ (by omega), r11o _ (by omega), r10o _ (by omega), r9o _ (by omega), r8o _ (by omega), r7o _ (by omega), r6o _ (by omega)]; exact r5, by rw [rFo _ (by omega), r11o _ (by omega), r10o _ (by omega), r9o _ (by omega), r8o _ (by omega), r7o _ (by omega)]; exact r6, by rw [rFo _ (by omega), r11o _ (by omega), r10o _ (by omega), r9o _ (by omega), r8o _ (by omega)]; exact r7, by rw [rFo _ (by omega), r11o _ (by omega), r10o _ (by omega), r9o _ (by omega)]; exact r8, by rw [rFo _ (by omega), r11o _ (by omega), r10o _ (by omega)]; exact r9, by rw [rFo _ (by omega), r11o _ (by omega)]; exact r10⟩
  obtain ⟨x1, x2⟩ := X1
  obtain ⟨x3, x4⟩ := X2
  obtain ⟨x5, _⟩ := X3
  obtain ⟨x6, _⟩ := X4
  obtain ⟨y1, y2, ⟨y3r, y3⟩, y4, y5, y6⟩ := X5
  obtain ⟨p1, p2, p3, p4, p5, p6, p7, p8, p9⟩ := X6
  obtain ⟨q1, q2, q3, q4, q5, q6, q7, q8, q9, q10, q11, q12, q13, q14, q15, q16⟩ := X7
  obtain ⟨o1, o2, o3, o4, o5, o6, o7⟩ := X9
  obtain ⟨d1, d2⟩ := X11
  have TA : tw_Ta SF (b + 1) := by
    have h := x1
    unfold tw_Ta tw_is tw_ar tw_rr at h ⊢
    simp (disch := omega) only [t1]
    exact h
  have TX : tw_Tx SF b := ⟨tw_is_c p1 (t6 _ (by omega) (by omega)), tw_is_c q1 (t7 _ (by omega) (by omega)), tw_ar_c p2 (t6 _ (by omega) (by omega)), tw_ar_c p3 (t6 _ (by omega) (by omega)), tw_ar_c p4 (t6 _ (by omega) (by omega)), tw_ar_c q2 (t7 _ (by omega) (by omega)), tw_ar_c q3 (t7 _ (by omega) (by omega)), tw_ar_c q4 (t7 _ (by omega) (by omega)), tw_ar_c q5 (t7 _ (by omega) (by omega)), tw_ar_c q6 (t7 _ (by omega) (by omega)), tw_ar_c q7 (t7 _ (by omega) (by omega)), tw_ar_c q8 (t7 _ (by omega) (by omega)), (tw_rr_c (t6 _ (by omega) (by omega))).trans p5, (tw_rr_c (t6 _ (by omega) (by omega))).trans p6, (tw_rr_c (t6 _ (by omega) (by omega))).trans p7, (tw_rr_c (t6 _ (by omega) (by omega))).trans p8, (tw_rr_c (t6 _ (by omega) (by omega))).trans p9, (tw_rr_c (t7 _ (by omega) (by omega))).trans q9, (tw_rr_c (t7 _ (by omega) (by omega))).trans q10, (tw_rr_c (t7 _ (by omega) (by omega))).trans q11, (tw_rr_c (t7 _ (by omega) (by omega))).trans q12, (tw_rr_c (t7 _ (by omega) (by omega))).trans q13, (tw_rr_c (t7 _ (by omega) (by omega))).trans q14, (tw_rr_c (t7 _ (by omega) (by omega))).trans q15, (tw_rr_c (t7 _ (by omega) (by omega))).trans q16⟩
  have T3 : tw_Town SF (b + 3) := tw_Town_sh x3 (fun y h1 h2 => t2 y (by omega) (by omega))
  have MEM31 : SF (b + 31) = some (3, 12, y3r) := (t5 _ (by omega) (by omega)).trans y3
  have TWO : tw_Tw SF (b + 152) := by
    have h := X8
    unfold tw_Tw tw_is tw_ar tw_rr at h ⊢
    simp (disch := omega) only [t8]
    exact h
  have PAI : tw_Pa SF b := ⟨tw_is_c o1 (t9 _ (by omega) (by omega)), tw_ar_c o2 (t9 _ (by omega) (by omega)), tw_ar_c o3 (t9 _ (by omega) (by omega)), (tw_rr_c (t9 _ (by omega) (by omega))).trans o4, (tw_rr_c (t9 _ (by omega) (by omega))).trans o5, (tw_rr_c (t9 _ (by omega) (by omega))).trans o6, (tw_rr_c (t9 _ (by omega) (by omega))).trans o7⟩
  have SET : tw_Se SF (b + 157) := by
    have h := X10
    unfold tw_Se tw_is tw_ar tw_rr at h ⊢
    simp (disch := omega) only [t10]
    exact h
  refine ⟨SF, IF, L11, fun y hy => by rw [k0 y (by omega) (by omega), w0 y hy], fun y hy => by rw [j0 y (by omega) (by omega), z0 y hy], ⟨CX, ?_, ?_, ⟨TA, TX⟩, T3, tw_Town_sh x5 (fun y h1 h2 => t3 y (by omega) (by omega)), tw_Town_sh x6 (fun y h1 h2 => t4 y (by omega) (by omega)), ⟨tw_is_c y1 (t5 _ (by omega) (by omega)), (tw_rr_c (t5 _ (by omega) (by omega))).trans y2⟩, fun i hi => ⟨of_eq_true (tw_ar_ai (tag := 3) ⟨y3r, MEM31⟩ (by decide) hi (by decide)), (tw_rr_c (t5 _ (by omega) (by omega))).trans (y4 i hi)⟩, fun i hi => tw_Town_sh (y5 i hi) (fun y h1 h2 => t5 y (by omega) (by omega)), TWO, PAI, SET⟩, ?_, tw_is_c d1 (t11 _ (by omega)), ?_, ?_, ?_, ?_, ?_, ?_, fun K => ?_⟩
  · rw [rFo _ (by omega)]; exact r11
  · rw [eSF]; exact tw_rr_ups isb11
  · exact tw_RC_sh (Rc_same x4 (fun y h1 h2 => j2 y (by omega) (by omega))) (fun y h1 h2 => t2 y (by omega) (by omega))
  · rw [j11 _ (by omega)]; exact d2
  · rw [j1 _ (by omega) (by omega)]; exact x2 38
  · rw [eIF, tw_uk (by omega), ib]; exact zb0 68
  · rw [eIF]; exact tw_ua
  · rw [j5 _ (by omega) (by omega)]; exact y6 23
  · rw [j5 _ (by omega) (by omega)]; exact y6 24
  · have g66 : tw_fo S11 b 66 true ∧ tw_rr S11 b 66 = some (b + 162) := ⟨of_eq_true (tw_is_fo isb11 rfl rfl), r11⟩
    rw [A_nw1, ← eI0, ← eL0, show tw_xkS sh b (10 + 10, 0, fun _ => none) = S0 from eS0.symm]
    unfold f_X11_init
    refine (E1 _).trans ?_
    rw [tw_pr_is isu1 rfl rfl, ← eS1]
    refine (E2 _).trans ?_
    rw [tw_pr_is isu2 rfl rfl, ← eS2]
    refine (E3 _).trans ?_
    rw [tw_pr_is isu3 rfl rfl, ← eS3]
    refine (E4 _).trans ?_
    rw [tw_pr_is isu4 rfl rfl, ← eS4]
    refine (E5 _).trans ?_
    rw [tw_pr_is isu5 rfl rfl, ← eS5]
    refine (E6 _).trans ?_
    rw [tw_pr_is isu6 rfl rfl, ← eS6]
    refine (E7 _).trans ?_
    rw [tw_pr_is isu7 rfl rfl, ← eS7]
    refine (E8 _).trans ?_
    rw [tw_pr_is isu8 rfl rfl, ← eS8]
    refine (E9 _).trans ?_
    rw [tw_pr_is isu9 rfl rfl, ← eS9]
    refine (E10 _).trans ?_
    rw [tw_pr_is isu10 rfl rfl, ← eS10]
    refine (E11 _).trans ?_
    rw [tw_pr_is isu11 rfl rfl, ← eS11]
    rw [tw_gr_is g66, tw_pr_is isb11 rfl rfl, ← eSF, tw_pi_is (of_eq_true (tw_is_fo isF rfl rfl)), ← eIF]
end P99y2
