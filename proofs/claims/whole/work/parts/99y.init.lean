/-! ===== pure: the first memory: how objects are made ===== -/
def tw_oi (a : Nat) (K : tw_Mem → Prop) : List (Nat × Nat × Nat × Nat) → tw_Mem → Prop
  | [] => K
  | x :: l => tw_na x.1 x.2.1 (nI x.2.2.1) fun b => tw_pr x.2.2.2 a b (tw_oi a K l)
/-- the towns of a memory of acts -/
def tw_mst (a : Nat) (K : tw_Mem → Prop) : Nat → Nat → tw_Mem → Prop
  | 0, _ => K
  | d + 1, i => tw_gr 22 a fun x => tw_nw 7 fun b3 => f_X8_init b3 (fun _ => tw_sa 7 x (nI i) b3 (tw_mst a K d (i + 1)))
/-- an empty town -/
def tw_T0 : Nat → Int32 := fun q => if q = 5 then nI 5 else if q = 7 then nI 1 else if 8 ≤ q ∧ q < 32 then mI else nI 0
theorem tw_T0_z {q : Nat} (h : q < 5 ∨ q = 6 ∨ 32 ≤ q) : tw_T0 q = nI 0 := by
  unfold tw_T0
  rw [if_neg (by omega), if_neg (by omega), if_neg (by omega)]
theorem tw_T0_p {q : Nat} (h : 8 ≤ q) (h2 : q < 32) : tw_T0 q = mI := by
  unfold tw_T0
  rw [if_neg (by omega), if_neg (by omega), if_pos (by omega)]
theorem tw_T0_W : tw_WF tw_T0 0 := by
  have z : ∀ q, 32 ≤ q → tw_T0 q = nI 0 := fun q h => tw_T0_z (by omega)
  refine ⟨tw_T0_z (by omega), by omega, ⟨5, by omega, by omega, rfl⟩, ⟨0, by omega, tw_T0_z (by omega)⟩, ⟨0, by omega, tw_T0_z (by omega)⟩, ⟨0, by omega, tw_T0_z (by omega)⟩, ⟨0, by omega, tw_T0_z (by omega)⟩, fun p hp => ⟨⟨0, by omega, z _ (by omega)⟩, ⟨0, by omega, z _ (by omega)⟩, ⟨0, by omega, z _ (by omega)⟩, ⟨0, by omega, z _ (by omega), fun _ => rfl⟩⟩, fun p o hp ho => ⟨⟨0, by omega, z _ (by omega), fun _ => rfl⟩, ⟨0, by omega, z _ (by omega), fun _ => rfl⟩, by rw [z _ (by omega), z _ (by omega)]⟩, fun h hh => ⟨Or.inl (tw_T0_p (by omega) (by omega)), Or.inl (tw_T0_p (by omega) (by omega)), fun _ => tw_T0_p (by omega) (by omega)⟩, fun k z' h61 hz hk => ?_⟩
  rw [tw_T0_z (by omega), nz_eq (by omega) (by omega)] at hz
  omega
section P99y
variable {sh : tw_Sh} {μ ν : Nat → Nat → Int32} {la : Nat → Nat → Int64} {n a b m t x c : Nat} {v : Int32}
theorem s_oi : ∀ (l : List (Nat × Nat × Nat × Nat)) (sh : tw_Sh) (μ : Nat → Nat → Int32) (la : Nat → Nat → Int64) (n : Nat), tw_is sh a t → a < n → (∀ x ∈ l, (tw_ix t x.2.2.2).isSome = true ∧ tw_rf x.2.2.2 = true ∧ x.2.2.1 < 2 ^ 31 ∧ x.2.2.1 ≤ x.2.1) → (l.map (fun x => x.2.2.2)).Nodup → ∃ sh' μ' la', (∀ y, y < n → y ≠ a → sh' y = sh y) ∧ tw_is sh' a t ∧ (∀ q, (∀ x ∈ l, x.2.2.2 ≠ q) → tw_rr sh' a q = tw_rr sh a q) ∧ (∀ i x, l[i]? = some x → sh' (n + i) = some (x.1, x.2.2.1, fun _ => none) ∧ tw_rr sh' a x.2.2.2 = some (n + i)) ∧ (∀ y, y < n → μ' y = μ y) ∧ (∀ y j, n ≤ y → y < n + l.length → μ' y j = nI 0) ∧ ∀ K, tw_oi a K l (sh, μ, la, n) = K (sh', μ', la', n + l.length)
  | [], sh, μ, la, n, h, ha, _, _ => ⟨sh, μ, la, fun _ _ _ => rfl, h, fun _ _ => rfl, fun i x hx => by simp at hx, fun _ _ => rfl, fun y j h1 h2 => by simp only [List.length_nil] at h2; omega, fun K => rfl⟩
  | x :: l, sh, μ, la, n, h, ha, hl, hd => by
    obtain ⟨x1, x2, x3, x4⟩ := hl x (List.mem_cons_self)
    have his : tw_is (tw_xkS sh n (x.1, x.2.2.1, fun _ => none)) a t := tw_is_c h (tw_xkS_n (by omega))
    have his2 : tw_is (tw_upR (tw_xkS sh n (x.1, x.2.2.1, fun _ => none)) a x.2.2.2 (some n)) a t := tw_is_up his
    rw [List.map_cons, List.nodup_cons] at hd
    obtain ⟨sh', μ', la', f1, f2, f3, f4, f5, f6, f7⟩ := s_oi l (tw_upR (tw_xkS sh n (x.1, x.2.2.1, fun _ => none)) a x.2.2.2 (some n)) (tw_xkI μ n) (tw_xkL la n) (n + 1) his2 (by omega) (fun y hy => hl y (List.mem_cons_of_mem _ hy)) hd.2
    have hne : ∀ y ∈ l, y.2.2.2 ≠ x.2.2.2 := fun y hy e => hd.1 (List.mem_map.mpr ⟨y, hy, e⟩)
    refine ⟨sh', μ', la', fun y h1 h2 => ?_, f2, fun q hq => ?_, fun i z hz => ?_, fun y hy => ?_, fun y j h1 h2 => ?_, fun K => ?_⟩
    · rw [f1 y (by omega) h2, tw_upR_n (by omega), tw_xkS_n (by omega)]
    · rw [f3 q (fun y hy => hq y (List.mem_cons_of_mem _ hy)), tw_rr_upn (fun e => hq x (List.mem_cons_self) e.symm), tw_rr_c (tw_xkS_n (by omega))]
    · cases i with
      | zero =>
        have e : z = x := by simpa using hz.symm
        subst e
        refine ⟨?_, ?_⟩
        · rw [Nat.add_zero, f1 n (by omega) (by omega), tw_upR_n (by omega)]; exact tw_xkS_a
        · rw [f3 _ hne, Nat.add_zero]; exact tw_rr_ups his
      | succ i =>
        have e := f4 i z (by simpa using hz)
        rw [show n + (i + 1) = n + 1 + i by omega]
        exact e
    · rw [f5 y (by omega), tw_xkI_n (by omega)]
    · rcases Nat.eq_or_lt_of_le h1 with e | e
      · subst e; rw [f5 _ (by omega)]; exact if_pos rfl
      · exact f6 y j (by omega) (by simp only [List.length_cons] at h2; omega)
    · show tw_na x.1 x.2.1 (nI x.2.2.1) (fun b => tw_pr x.2.2.2 a b (tw_oi a K l)) (sh, μ, la, n) = _
      rw [A_na1 x3 x4, tw_pr_is his x1 x2, f7 K, List.length_cons, show n + 1 + l.length = n + (l.length + 1) by omega]
/-- an object and its rows -/
theorem s_obj (t : Nat) (l : List (Nat × Nat × Nat × Nat)) (sh : tw_Sh) (μ : Nat → Nat → Int32) (la : Nat → Nat → Int64) (n : Nat) (hl : ∀ x ∈ l, (tw_ix t x.2.2.2).isSome = true ∧ tw_rf x.2.2.2 = true ∧ x.2.2.1 < 2 ^ 31 ∧ x.2.2.1 ≤ x.2.1) (hd : (l.map (fun x => x.2.2.2)).Nodup) : ∃ sh' μ' la', (∀ y, y < n → sh' y = sh y) ∧ (∀ y, y < n → μ' y = μ y) ∧ tw_is sh' n t ∧ (∀ i x, l[i]? = some x → sh' (n + 1 + i) = some (x.1, x.2.2.1, fun _ => none) ∧ tw_rr sh' n x.2.2.2 = some (n + 1 + i)) ∧ (∀ y j, n ≤ y → y < n + 1 + l.length → μ' y j = nI 0) ∧ ∀ F : Nat → tw_Mem → Prop, tw_nw t (fun b => tw_oi b (F b) l) (sh, μ, la, n) = F n (sh', μ', la', n + 1 + l.length) := by
  have his : tw_is (tw_xkS sh n (t + 10, 0, fun _ => none)) n t := ⟨0, fun _ => none, tw_xkS_a⟩
  obtain ⟨sh', μ', la', f1, f2, f3, f4, f5, f6, f7⟩ := s_oi l (tw_xkS sh n (t + 10, 0, fun _ => none)) (tw_xkI μ n) (tw_xkL la n) (n + 1) his (by omega) hl hd
  refine ⟨sh', μ', la', fun y hy => ?_, fun y hy => ?_, f2, f4, fun y j h1 h2 => ?_, fun F => ?_⟩
  · rw [f1 y (by omega) (by omega), tw_xkS_n (by omega)]
  · rw [f5 y (by omega), tw_xkI_n (by omega)]
  · rcases Nat.eq_or_lt_of_le h1 with e | e
    · subst e; rw [f5 _ (by omega)]; exact if_pos rfl
    · exact f6 y j (by omega) (by omega)
  · rw [A_nw1]; exact f7 (F n)
theorem s_fill (har : tw_ar sh a 0 c) (hc : c < 2 ^ 31) (v : Int32) (k : Unit → tw_Mem → Prop) : f_J7_fill_53178 a v k (sh, μ, la, n) = k () (sh, tw_ra μ a (fun j => if j < c then v else μ a j), la, n) := by
  have st : ∀ i, tw_u1 (fun j => if j < i then v else μ a j) i v = fun j => if j < i + 1 then v else μ a j := fun i => by
    funext j
    unfold tw_u1
    by_cases e : j = i
    · subst e; rw [if_pos rfl, if_pos (by omega)]
    · rw [if_neg e]
      dsimp only
      by_cases e2 : j < i
      · rw [if_pos e2, if_pos (by omega)]
      · rw [if_neg e2, if_neg (by omega)]
  have s0 : (fun j => if j < 0 then v else μ a j) = μ a := by
    funext j
    exact if_neg (by omega)
  unfold f_J7_fill_53178
  rw [tw_al_ar har (by decide)]
  refine tw_lp_for c (fun i => nI i) (fun i => (sh, tw_ra μ a (fun j => if j < i then v else μ a j), la, n)) rfl ?_ (fun i hi rec => ?_) (fun rec => ?_)
  · show (sh, tw_ra μ a (fun j => if j < 0 then v else μ a j), la, n) = _
    rw [s0, tw_ra_s]
  · have hlt : nI i < nI c := by rw [nz_lt (by omega) (by omega)]; exact hi
    have e1 : nI i + (1 : Int32) = nI (i + 1) := nI_add i 1
    rw [A_if, if_pos hlt, X_si har hi (by omega), tw_up_ra, st, e1]
  · have hlt : ¬ nI c < nI c := by rw [nz_lt (by omega) (by omega)]; omega
    rw [A_if, if_neg hlt]
theorem s_tape (sh : tw_Sh) (μ : Nat → Nat → Int32) (la : Nat → Nat → Int64) (n : Nat) : ∃ sh' μ' la', (∀ y, y < n → sh' y = sh y) ∧ (∀ y, y < n → μ' y = μ y) ∧ (tw_Ta sh' n ∧ ∀ j, μ' n j = nI 0) ∧ ∀ K : Nat → tw_Mem → Prop, tw_nw 6 (fun b => f_X6_init b (fun _ => K b)) (sh, μ, la, n) = K n (sh', μ', la', n + 2) := by
  obtain ⟨s1, m1, l1, a1, a2, a3, a4, a6, a7⟩ := s_obj 6 [(0, 400, 400, 37)] sh μ la n (by decide +kernel) (by decide)
  exact ⟨s1, m1, l1, a1, a2, ⟨⟨a3, ⟨_, (a4 0 _ rfl).1⟩, (a4 0 _ rfl).2⟩, fun j => a6 n j (Nat.le_refl _) (by omega)⟩, fun K => a7 K⟩
theorem s_town (sh : tw_Sh) (μ : Nat → Nat → Int32) (la : Nat → Nat → Int64) (n : Nat) : ∃ sh' μ' la', (∀ y, y < n → sh' y = sh y) ∧ (∀ y, y < n → μ' y = μ y) ∧ (tw_Town sh' n ∧ tw_RC sh' μ' n tw_T0) ∧ ∀ K : Nat → tw_Mem → Prop, tw_nw 7 (fun b => f_X8_init b (fun _ => K b)) (sh, μ, la, n) = K n (sh', μ', la', n + 9) := by
  obtain ⟨s1, m1, l1, a1, a2, a3, a4, a6, a7⟩ := s_obj 7 [(0, 8, 8, 39), (0, 8, 8, 40), (0, 8, 8, 41), (0, 64, 64, 42), (0, 64, 64, 43), (0, 24, 24, 44)] sh μ la n (by decide +kernel) (by decide)
  obtain ⟨s2, m2, l2, c1, c2, c3, c4, c6, c7⟩ := s_obj 2 [(0, 60, 60, 19)] s1 m1 l1 (n + 7) (by decide +kernel) (by decide)
  have is2 : tw_is s2 n 7 := tw_is_c a3 (c1 n (by omega))
  obtain ⟨s3, es3⟩ : ∃ S, S = tw_upR s2 n 45 (some (n + 7)) := ⟨_, rfl⟩
  have is3 : tw_is s3 n 7 := by rw [es3]; exact tw_is_up is2
  have ne3 : ∀ y, y ≠ n → s3 y = s2 y := fun y hy => by rw [es3]; exact tw_upR_ne hy
  have rr3 : ∀ q, q ≠ 45 → tw_rr s3 n q = tw_rr s1 n q := fun q hq => by rw [es3, tw_rr_upn hq, tw_rr_c (c1 n (by omega))]
  have ar6 : tw_ar s3 (n + 6) 0 24 := ⟨fun _ => none, by rw [ne3 _ (by omega), c1 _ (by omega)]; exact (a4 5 _ rfl).1⟩
  have TOWN : tw_Town s3 n := by
    refine ⟨is3, tw_is_c c3 (ne3 _ (by omega)), ⟨fun _ => none, ?_⟩, ⟨fun _ => none, ?_⟩, ⟨fun _ => none, ?_⟩, ⟨fun _ => none, ?_⟩, ⟨fun _ => none, ?_⟩, ar6, ⟨fun _ => none, ?_⟩, ?_, ?_, ?_, ?_, ?_, ?_, ?_, ?_⟩
    · rw [ne3 _ (by omega), c1 _ (by omega)]; exact (a4 0 _ rfl).1
    · rw [ne3 _ (by omega), c1 _ (by omega)]; exact (a4 1 _ rfl).1
    · rw [ne3 _ (by omega), c1 _ (by omega)]; exact (a4 2 _ rfl).1
    · rw [ne3 _ (by omega), c1 _ (by omega)]; exact (a4 3 _ rfl).1
    · rw [ne3 _ (by omega), c1 _ (by omega)]; exact (a4 4 _ rfl).1
    · rw [ne3 _ (by omega)]; exact (c4 0 _ rfl).1
    · rw [rr3 _ (by omega)]; exact (a4 0 _ rfl).2
    · rw [rr3 _ (by omega)]; exact (a4 1 _ rfl).2
    · rw [rr3 _ (by omega)]; exact (a4 2 _ rfl).2
    · rw [rr3 _ (by omega)]; exact (a4 3 _ rfl).2
    · rw [rr3 _ (by omega)]; exact (a4 4 _ rfl).2
    · rw [rr3 _ (by omega)]; exact (a4 5 _ rfl).2
    · rw [es3]; exact tw_rr_ups is2
    · rw [tw_rr_c (ne3 _ (by omega))]; exact (c4 0 _ rfl).2
  obtain ⟨m3, em3⟩ : ∃ M, M = tw_up (tw_up m2 n 50 (5 : Int32)) n 51 (1 : Int32) := ⟨_, rfl⟩
  obtain ⟨m4, em4⟩ : ∃ M, M = tw_ra m3 (n + 6) (fun j => if j < 24 then (-1 : Int32) else m3 (n + 6) j) := ⟨_, rfl⟩
  have mlt : ∀ y, y < n → m4 y = μ y := fun y hy => by rw [em4, tw_ra_n (by omega), em3, tw_up_ne (by omega), tw_up_ne (by omega), c2 _ (by omega), a2 _ hy]
  have mz : ∀ y j, n < y → y < n + 9 → y ≠ n + 6 → m4 y j = nI 0 := fun y j h1 h2 h3 => by
    rw [em4, tw_ra_n (by omega), em3, tw_up_ne (by omega), tw_up_ne (by omega)]
    rcases Nat.lt_or_ge y (n + 7) with h | h
    · rw [c2 _ h]; exact a6 y j (by omega) (by show y < n + 1 + 6; omega)
    · exact c6 y j h (by show y < n + 7 + 1 + 1; omega)
  have mn : ∀ j, j ≠ 50 → j ≠ 51 → m4 n j = nI 0 := fun j h1 h2 => by
    rw [em4, tw_ra_n (by omega), em3, tw_uk (by omega), tw_uk (by omega), c2 _ (by omega)]
    exact a6 n j (by omega) (by show n < n + 1 + 6; omega)
  have T : ∀ q, q < 5 ∨ q = 6 ∨ 32 ≤ q → tw_T0 q = nI 0 := fun q h => tw_T0_z h
  refine ⟨s3, m4, l2, fun y hy => ?_, mlt, ⟨TOWN, TOWN, ⟨?_, ?_, ?_, ?_, ?_, ?_, ?_⟩, fun p hp => ⟨?_, ?_, ?_⟩, ⟨0, by omega, ?_, fun p hp => ?_⟩, fun p o hp ho => ⟨?_, ?_⟩, fun l h hl hh => ?_, ⟨0, by omega, ?_, fun k z h61 hz hk => ?_⟩⟩, fun K => ?_⟩
  · rw [ne3 _ (by omega), c1 _ (by omega), a1 _ hy]
  · rw [mn _ (by omega) (by omega), T _ (by omega)]
  · rw [mn _ (by omega) (by omega), T _ (by omega)]
  · rw [mn _ (by omega) (by omega), T _ (by omega)]
  · rw [mn _ (by omega) (by omega), T _ (by omega)]
  · rw [em4, tw_ra_n (by omega), em3, tw_uk (by omega)]; exact tw_ua
  · rw [em4, tw_ra_n (by omega), em3]; exact tw_ua
  · rw [mz _ _ (by omega) (by omega) (by omega), T _ (by omega)]
  · rw [mz _ _ (by omega) (by omega) (by omega), T _ (by omega)]
  · rw [mz _ _ (by omega) (by omega) (by omega), T _ (by omega)]
  · rw [mz _ _ (by omega) (by omega) (by omega), T _ (by omega)]
  · exact mn _ (by omega) (by omega)
  · rw [T _ (by omega), Nat.zero_div, Nat.zero_mod]
  · rw [mz _ _ (by omega) (by omega) (by omega), T _ (by omega)]
  · rw [mz _ _ (by omega) (by omega) (by omega), T _ (by omega)]
  · rw [em4, tw_ra_aj, if_pos (by omega), tw_T0_p (by omega) (by omega)]
    rfl
  · exact mz _ _ (by omega) (by omega) (by omega)
  · rw [T _ (by omega), nz_eq (by omega) (by omega)] at hz
    omega
  · have e1 : ∀ K : Nat → tw_Mem → Prop, tw_nw 7 (fun b => f_X8_init b (fun _ => K b)) (sh, μ, la, n) = (tw_nw 2 fun b7 => tw_oi b7 (tw_pr 45 n b7 (tw_pi 50 n (5 : Int32) (tw_pi 51 n (1 : Int32) (tw_gr 44 n fun x9 => f_J7_fill_53178 x9 (-1 : Int32) (fun _ => K n))))) [(0, 60, 60, 19)]) (s1, m1, l1, n + 7) := fun K => a7 (fun b => tw_nw 2 fun b7 => tw_oi b7 (tw_pr 45 b b7 (tw_pi 50 b (5 : Int32) (tw_pi 51 b (1 : Int32) (tw_gr 44 b fun x9 => f_J7_fill_53178 x9 (-1 : Int32) (fun _ => K b))))) [(0, 60, 60, 19)])
    have e2 := c7 (fun b7 => tw_pr 45 n b7 (tw_pi 50 n (5 : Int32) (tw_pi 51 n (1 : Int32) (tw_gr 44 n fun x9 => f_J7_fill_53178 x9 (-1 : Int32) (fun _ => K n)))))
    have g44 : tw_fo s3 n 44 true ∧ tw_rr s3 n 44 = some (n + 6) := ⟨of_eq_true (tw_is_fo is3 rfl rfl), by rw [rr3 _ (by omega)]; exact (a4 5 _ rfl).2⟩
    rw [e1]
    refine e2.trans ?_
    rw [tw_pr_is is2 rfl rfl, ← es3, tw_pi_is (of_eq_true (tw_is_fo is3 rfl rfl)), tw_pi_is (of_eq_true (tw_is_fo is3 rfl rfl)), ← em3, tw_gr_is g44, s_fill ar6 (by omega), ← em4]
    rfl
theorem s_rru {r0 : Nat → Option Nat} {i N : Nat} {v : Option Nat} (h : sh x = some (3, N, r0)) : tw_rr (tw_upR sh x i v) x i = v ∧ ∃ r, tw_upR sh x i v x = some (3, N, r) := by
  have e : tw_upR sh x i v x = some (3, N, fun j => if j = i then v else r0 j) := by
    unfold tw_upR
    rw [if_pos rfl, h]
    rfl
  refine ⟨?_, _, e⟩
  unfold tw_rr
  rw [e]
  exact if_pos rfl
theorem s_ms (hax : a ≠ x) (hac : a < c) (hxc : x < c) : ∀ d i (sh : tw_Sh) (μ : Nat → Nat → Int32) (la : Nat → Nat → Int64) (n : Nat), i + d = 12 → n = c + 9 * i → tw_is sh a 3 → tw_rr sh a 22 = some x → (∃ r, sh x = some (3, 12, r)) → ∃ sh' μ' la', (∀ y, y < n → y ≠ x → sh' y = sh y) ∧ (∀ y, y < n → μ' y = μ y) ∧ (∃ r, sh' x = some (3, 12, r)) ∧ (∀ j, j < i → tw_rr sh' x j = tw_rr sh x j) ∧ (∀ j, i ≤ j → j < 12 → tw_rr sh' x j = some (c + 9 * j)) ∧ (∀ j, i ≤ j → j < 12 → tw_Town sh' (c + 9 * j)) ∧ ∀ K, tw_mst a K d i (sh, μ, la, n) = K (sh', μ', la', c + 108)
  | 0, i, sh, μ, la, n, hi, hn, h1, h2, h3 => ⟨sh, μ, la, fun _ _ _ => rfl, fun _ _ => rfl, h3, fun _ _ => rfl, fun j a1 a2 => by omega, fun j a1 a2 => by omega, fun K => by rw [show c + 108 = n by omega]; rfl⟩
  | d + 1, i, sh, μ, la, n, hi, hn, h1, h2, h3 => by
    obtain ⟨s1, m1, l1, a1, a2, ⟨a3, _⟩, a4⟩ := s_town sh μ la n
    obtain ⟨r0, hr0⟩ := h3
    have hx1 : s1 x = some (3, 12, r0) := (a1 x (by omega)).trans hr0
    obtain ⟨u1, u2⟩ := s_rru (i := i) (v := some n) hx1
    have is1 : tw_is (tw_upR s1 x i (some n)) a 3 := tw_is_c h1 ((tw_upR_ne hax).trans (a1 a (by omega)))
    have rr1 : tw_rr (tw_upR s1 x i (some n)) a 22 = some x := (tw_rr_c ((tw_upR_ne hax).trans (a1 a (by omega)))).trans h2
    obtain ⟨s2, m2, l2, b1, b2, b3, b4, b5, b6, b7⟩ := s_ms hax hac hxc d (i + 1) (tw_upR s1 x i (some n)) m1 l1 (n + 9) (by omega) (by omega) is1 rr1 u2
    refine ⟨s2, m2, l2, fun y h4 h5 => ?_, fun y h4 => ?_, b3, fun j h4 => ?_, fun j h4 h5 => ?_, fun j h4 h5 => ?_, fun K => ?_⟩
    · rw [b1 y (by omega) h5, tw_upR_ne h5, a1 y h4]
    · rw [b2 y (by omega), a2 y h4]
    · rw [b4 j (by omega), tw_rr_upn (by omega), tw_rr_c (a1 x (by omega))]
    · rcases Nat.eq_or_lt_of_le h4 with e | e
      · subst e; rw [b4 i (by omega), u1, hn]
      · exact b5 j e h5
    · rcases Nat.eq_or_lt_of_le h4 with e | e
      · subst e
        rw [← hn]
        exact tw_Town_sh a3 (fun y g1 g2 => by rw [b1 y (by omega) (by omega), tw_upR_ne (by omega)])
      · exact b6 j e h5
    · have g22 : tw_fo sh a 22 true ∧ tw_rr sh a 22 = some x := ⟨of_eq_true (tw_is_fo h1 rfl rfl), h2⟩
      have ai : tw_ai s1 [3] x (nI i) := of_eq_true (tw_ar_ai (tag := 3) ⟨r0, hx1⟩ (by decide) (show i < 12 by omega) (by decide))
      have ei : (nI i).toNatClampNeg = i := nz_cl (by omega)
      have sa : ∀ K : tw_Mem → Prop, tw_sa 7 x (nI i) n K (s1, m1, l1, n + 9) = K (tw_upR s1 x i (some n), m1, l1, n + 9) := fun K => by
        apply propext
        constructor
        · rintro ⟨_, _, h⟩
          rw [ei] at h
          exact h
        · intro h
          refine ⟨ai, a3.1, ?_⟩
          rw [ei]
          exact h
      show (tw_gr 22 a fun x => tw_nw 7 fun b3 => f_X8_init b3 (fun _ => tw_sa 7 x (nI i) b3 (tw_mst a K d (i + 1)))) (sh, μ, la, n) = _
      rw [tw_gr_is g22, a4 (fun b3 => tw_sa 7 x (nI i) b3 (tw_mst a K d (i + 1))), sa, b7 K]
theorem f_X3_init_e (a : Nat) (k : Unit → tw_Mem → Prop) : f_X3_init a k = tw_oi a (tw_mst a (k ()) 12 0) [(3, 12, 12, 22)] := by
  unfold f_X3_init
  simp only [show (0 : Int32) + 1 = nI 1 from by decide, show nI 1 + (1 : Int32) = nI 2 from by decide, show nI 2 + (1 : Int32) = nI 3 from by decide, show nI 3 + (1 : Int32) = nI 4 from by decide, show nI 4 + (1 : Int32) = nI 5 from by decide, show nI 5 + (1 : Int32) = nI 6 from by decide, show nI 6 + (1 : Int32) = nI 7 from by decide, show nI 7 + (1 : Int32) = nI 8 from by decide, show nI 8 + (1 : Int32) = nI 9 from by decide, show nI 9 + (1 : Int32) = nI 10 from by decide, show nI 10 + (1 : Int32) = nI 11 from by decide]
  rfl
theorem s_mem (sh : tw_Sh) (μ : Nat → Nat → Int32) (la : Nat → Nat → Int64) (n : Nat) : ∃ sh' μ' la', (∀ y, y < n → sh' y = sh y) ∧ (∀ y, y < n → μ' y = μ y) ∧ (tw_is sh' n 3 ∧ tw_rr sh' n 22 = some (n + 1) ∧ (∃ r, sh' (n + 1) = some (3, 12, r)) ∧ (∀ j, j < 12 → tw_rr sh' (n + 1) j = some (n + 2 + 9 * j)) ∧ (∀ j, j < 12 → tw_Town sh' (n + 2 + 9 * j)) ∧ ∀ j, μ' n j = nI 0) ∧ ∀ K : Nat → tw_Mem → Prop, tw_nw 3 (fun b => f_X3_init b (fun _ => K b)) (sh, μ, la, n) = K n (sh', μ', la', n + 110) := by
  obtain ⟨s1, m1, l1, a1, a2, a3, a4, a6, a7⟩ := s_obj 3 [(3, 12, 12, 22)] sh μ la n (by decide +kernel) (by decide)
  obtain ⟨s2, m2, l2, b1, b2, b3, b4, b5, b6, b7⟩ := s_ms (a := n) (x := n + 1) (c := n + 2) (by omega) (by omega) (by omega) 12 0 s1 m1 l1 (n + 2) rfl rfl a3 (a4 0 _ rfl).2 ⟨_, (a4 0 _ rfl).1⟩
  refine ⟨s2, m2, l2, fun y hy => ?_, fun y hy => ?_, ⟨tw_is_c a3 (b1 n (by omega) (by omega)), (tw_rr_c (b1 n (by omega) (by omega))).trans (a4 0 _ rfl).2, b3, fun j hj => b5 j (Nat.zero_le _) hj, fun j hj => b6 j (Nat.zero_le _) hj, fun j => ?_⟩, fun K => ?_⟩
  · rw [b1 y (by omega) (by omega), a1 y hy]
  · rw [b2 y (by omega), a2 y hy]
  · rw [b2 n (by omega)]; exact a6 n j (by omega) (by show n < n + 1 + 1; omega)
  · have e1 : tw_nw 3 (fun b => f_X3_init b (fun _ => K b)) (sh, μ, la, n) = tw_nw 3 (fun b => tw_oi b (tw_mst b (K b) 12 0) [(3, 12, 12, 22)]) (sh, μ, la, n) := by
      simp only [f_X3_init_e]
    rw [e1, a7 (fun b => tw_mst b (K b) 12 0)]
    exact b7 (K n)
theorem s_ttext (sh : tw_Sh) (μ : Nat → Nat → Int32) (la : Nat → Nat → Int64) (n : Nat) {b p q : Nat} (hb : tw_is sh b 10) (hbn : b < n) (h56 : tw_rr sh b 56 = some p) (h58 : tw_rr sh b 58 = some q) : ∃ sh' μ' la', (∀ y, y < n → sh' y = sh y) ∧ (∀ y, y < n → μ' y = μ y) ∧ (tw_is sh' n 8 ∧ tw_ar sh' (n + 1) 0 401 ∧ tw_ar sh' (n + 2) 0 401 ∧ tw_ar sh' (n + 3) 0 401 ∧ tw_rr sh' n 6 = some p ∧ tw_rr sh' n 7 = some (n + 1) ∧ tw_rr sh' n 8 = some (n + 2) ∧ tw_rr sh' n 9 = some (n + 3) ∧ tw_rr sh' n 53 = some q) ∧ ∀ K : Nat → tw_Mem → Prop, tw_nw 8 (fun b11 => tw_gr 56 b fun x12 => tw_gr 58 b fun x13 => f_X9_init b11 x12 x13 (fun _ => K b11)) (sh, μ, la, n) = K n (sh', μ', la', n + 4) := by
  obtain ⟨s1, m1, l1, a1, a2, a3, a4, a6, a7⟩ := s_obj 8 [(0, 401, 401, 7), (0, 401, 401, 8), (0, 401, 401, 9)] sh μ la n (by decide +kernel) (by decide)
  obtain ⟨s2, es2⟩ : ∃ S, S = tw_upR s1 n 6 (some p) := ⟨_, rfl⟩
  have is2 : tw_is s2 n 8 := by rw [es2]; exact tw_is_up a3
  obtain ⟨s3, es3⟩ : ∃ S, S = tw_upR s2 n 53 (some q) := ⟨_, rfl⟩
  have is3 : tw_is s3 n 8 := by rw [es3]; exact tw_is_up is2
  have ne3 : ∀ y, y ≠ n → s3 y = s1 y := fun y hy => by rw [es3, tw_upR_ne hy, es2, tw_upR_ne hy]
  have rr3 : ∀ q', q' ≠ 6 → q' ≠ 53 → tw_rr s3 n q' = tw_rr s1 n q' := fun q' h1 h2 => by rw [es3, tw_rr_upn h2, es2, tw_rr_upn h1]
  have hbk : tw_is (tw_xkS sh n (18, 0, fun _ => none)) b 10 := tw_is_c hb (tw_xkS_n (by omega))
  refine ⟨s3, m1, l1, fun y hy => by rw [ne3 y (by omega), a1 y hy], a2, ⟨is3, ⟨fun _ => none, ?_⟩, ⟨fun _ => none, ?_⟩, ⟨fun _ => none, ?_⟩, ?_, ?_, ?_, ?_, ?_⟩, fun K => ?_⟩
  · rw [ne3 _ (by omega)]; exact (a4 0 _ rfl).1
  · rw [ne3 _ (by omega)]; exact (a4 1 _ rfl).1
  · rw [ne3 _ (by omega)]; exact (a4 2 _ rfl).1
  · rw [es3, tw_rr_upn (by omega), es2]; exact tw_rr_ups a3
  · rw [rr3 _ (by omega) (by omega)]; exact (a4 0 _ rfl).2
  · rw [rr3 _ (by omega) (by omega)]; exact (a4 1 _ rfl).2
  · rw [rr3 _ (by omega) (by omega)]; exact (a4 2 _ rfl).2
  · rw [es3]; exact tw_rr_ups is2
  · have e1 : ∀ K : Nat → tw_Mem → Prop, tw_nw 8 (fun b11 => tw_gr 56 b fun x12 => tw_gr 58 b fun x13 => f_X9_init b11 x12 x13 (fun _ => K b11)) (sh, μ, la, n) = tw_nw 8 (fun b11 => tw_oi b11 (tw_pr 6 b11 p (tw_pr 53 b11 q (K b11))) [(0, 401, 401, 7), (0, 401, 401, 8), (0, 401, 401, 9)]) (sh, μ, la, n) := fun K => by
      rw [A_nw1, A_nw1, tw_gr_is (z := p) ⟨of_eq_true (tw_is_fo hbk rfl rfl), (tw_rr_c (tw_xkS_n (by omega))).trans h56⟩, tw_gr_is (z := q) ⟨of_eq_true (tw_is_fo hbk rfl rfl), (tw_rr_c (tw_xkS_n (by omega))).trans h58⟩]
      rfl
    rw [e1, a7 (fun b11 => tw_pr 6 b11 p (tw_pr 53 b11 q (K b11))), tw_pr_is a3 rfl rfl, ← es2, tw_pr_is is2 rfl rfl, ← es3]
    rfl
theorem s_ltext (sh : tw_Sh) (μ : Nat → Nat → Int32) (la : Nat → Nat → Int64) (n : Nat) {b p : Nat} (hb : tw_is sh b 10) (hbn : b < n) (h56 : tw_rr sh b 56 = some p) : ∃ sh' μ' la', (∀ y, y < n → sh' y = sh y) ∧ (∀ y, y < n → μ' y = μ y) ∧ (tw_is sh' n 1 ∧ tw_ar sh' (n + 1) 0 401 ∧ tw_ar sh' (n + 2) 0 401 ∧ tw_ar sh' (n + 3) 0 401 ∧ tw_ar sh' (n + 4) 0 12 ∧ tw_ar sh' (n + 5) 0 12 ∧ tw_ar sh' (n + 6) 0 12 ∧ tw_ar sh' (n + 7) 0 400 ∧ tw_rr sh' n 6 = some p ∧ tw_rr sh' n 7 = some (n + 1) ∧ tw_rr sh' n 8 = some (n + 2) ∧ tw_rr sh' n 9 = some (n + 3) ∧ tw_rr sh' n 13 = some (n + 4) ∧ tw_rr sh' n 14 = some (n + 5) ∧ tw_rr sh' n 15 = some (n + 6) ∧ tw_rr sh' n 16 = some (n + 7)) ∧ ∀ K : Nat → tw_Mem → Prop, tw_nw 1 (fun b15 => tw_gr 56 b fun x16 => f_X1_init b15 x16 (fun _ => K b15)) (sh, μ, la, n) = K n (sh', μ', la', n + 8) := by
  obtain ⟨s1, m1, l1, a1, a2, a3, a4, a6, a7⟩ := s_obj 1 [(0, 401, 401, 7), (0, 401, 401, 8), (0, 401, 401, 9)] sh μ la n (by decide +kernel) (by decide)
  obtain ⟨s2, es2⟩ : ∃ S, S = tw_upR s1 n 6 (some p) := ⟨_, rfl⟩
  have is2 : tw_is s2 n 1 := by rw [es2]; exact tw_is_up a3
  have ne2 : ∀ y, y ≠ n → s2 y = s1 y := fun y hy => by rw [es2]; exact tw_upR_ne hy
  have rr2 : ∀ q', q' ≠ 6 → tw_rr s2 n q' = tw_rr s1 n q' := fun q' h1 => by rw [es2, tw_rr_upn h1]
  obtain ⟨s3, m3, l3, f1, f2, f3, f4, f5, f6, f7⟩ := s_oi [(0, 12, 12, 13), (0, 12, 12, 14), (0, 12, 12, 15), (0, 400, 400, 16)] s2 m1 l1 (n + 4) is2 (by omega) (by decide +kernel) (by decide)
  have hbk : tw_is (tw_xkS sh n (11, 0, fun _ => none)) b 10 := tw_is_c hb (tw_xkS_n (by omega))
  refine ⟨s3, m3, l3, fun y hy => by rw [f1 y (by omega) (by omega), ne2 y (by omega), a1 y hy], fun y hy => by rw [f5 y (by omega), a2 y hy], ⟨f2, ⟨fun _ => none, ?_⟩, ⟨fun _ => none, ?_⟩, ⟨fun _ => none, ?_⟩, ⟨_, (f4 0 _ rfl).1⟩, ⟨_, (f4 1 _ rfl).1⟩, ⟨_, (f4 2 _ rfl).1⟩, ⟨_, (f4 3 _ rfl).1⟩, ?_, ?_, ?_, ?_, (f4 0 _ rfl).2, (f4 1 _ rfl).2, (f4 2 _ rfl).2, (f4 3 _ rfl).2⟩, fun K => ?_⟩
  · rw [f1 _ (by omega) (by omega), ne2 _ (by omega)]; exact (a4 0 _ rfl).1
  · rw [f1 _ (by omega) (by omega), ne2 _ (by omega)]; exact (a4 1 _ rfl).1
  · rw [f1 _ (by omega) (by omega), ne2 _ (by omega)]; exact (a4 2 _ rfl).1
  · rw [f3 6 (by decide), es2]; exact tw_rr_ups a3
  · rw [f3 7 (by decide), rr2 _ (by omega)]; exact (a4 0 _ rfl).2
  · rw [f3 8 (by decide), rr2 _ (by omega)]; exact (a4 1 _ rfl).2
  · rw [f3 9 (by decide), rr2 _ (by omega)]; exact (a4 2 _ rfl).2
  · have e1 : ∀ K : Nat → tw_Mem → Prop, tw_nw 1 (fun b15 => tw_gr 56 b fun x16 => f_X1_init b15 x16 (fun _ => K b15)) (sh, μ, la, n) = tw_nw 1 (fun b15 => tw_oi b15 (tw_pr 6 b15 p (tw_oi b15 (K b15) [(0, 12, 12, 13), (0, 12, 12, 14), (0, 12, 12, 15), (0, 400, 400, 16)])) [(0, 401, 401, 7), (0, 401, 401, 8), (0, 401, 401, 9)]) (sh, μ, la, n) := fun K => by
      rw [A_nw1, A_nw1, tw_gr_is (z := p) ⟨of_eq_true (tw_is_fo hbk rfl rfl), (tw_rr_c (tw_xkS_n (by omega))).trans h56⟩]
      rfl
    rw [e1, a7 (fun b15 => tw_pr 6 b15 p (tw_oi b15 (K b15) [(0, 12, 12, 13), (0, 12, 12, 14), (0, 12, 12, 15), (0, 400, 400, 16)])), tw_pr_is a3 rfl rfl, ← es2]
    exact f7 (K n)
theorem s_two (sh : tw_Sh) (μ : Nat → Nat → Int32) (la : Nat → Nat → Int64) (n : Nat) : ∃ sh' μ' la', (∀ y, y < n → sh' y = sh y) ∧ (∀ y, y < n → μ' y = μ y) ∧ tw_Tw sh' n ∧ ∀ K : Nat → tw_Mem → Prop, tw_nw 9 (fun b => f_X10_init b (fun _ => K b)) (sh, μ, la, n) = K n (sh', μ', la', n + 2) := by
  obtain ⟨s1, m1, l1, a1, a2, a3, a4, a6, a7⟩ := s_obj 9 [(0, 11, 11, 54)] sh μ la n (by decide +kernel) (by decide)
  exact ⟨s1, m1, l1, a1, a2, ⟨a3, ⟨_, (a4 0 _ rfl).1⟩, (a4 0 _ rfl).2⟩, fun K => a7 K⟩
theorem s_pairs (sh : tw_Sh) (μ : Nat → Nat → Int32) (la : Nat → Nat → Int64) (n : Nat) {b p q : Nat} (hb : tw_is sh b 10) (hbn : b < n) (h57 : tw_rr sh b 57 = some p) (h63 : tw_rr sh b 63 = some q) : ∃ sh' μ' la', (∀ y, y < n → sh' y = sh y) ∧ (∀ y, y < n → μ' y = μ y) ∧ (tw_is sh' n 4 ∧ tw_ar sh' (n + 1) 0 64 ∧ tw_ar sh' (n + 2) 0 64 ∧ tw_rr sh' n 25 = some p ∧ tw_rr sh' n 26 = some q ∧ tw_rr sh' n 27 = some (n + 1) ∧ tw_rr sh' n 28 = some (n + 2)) ∧ ∀ K : Nat → tw_Mem → Prop, tw_nw 4 (fun b20 => tw_gr 57 b fun x21 => tw_gr 63 b fun x22 => f_X4_init b20 x21 x22 (fun _ => K b20)) (sh, μ, la, n) = K n (sh', μ', la', n + 3) := by
  obtain ⟨s1, m1, l1, a1, a2, a3, a4, a6, a7⟩ := s_obj 4 [(0, 64, 64, 27), (0, 64, 64, 28)] sh μ la n (by decide +kernel) (by decide)
  obtain ⟨s2, es2⟩ : ∃ S, S = tw_upR s1 n 25 (some p) := ⟨_, rfl⟩
  have is2 : tw_is s2 n 4 := by rw [es2]; exact tw_is_up a3
  obtain ⟨s3, es3⟩ : ∃ S, S = tw_upR s2 n 26 (some q) := ⟨_, rfl⟩
  have is3 : tw_is s3 n 4 := by rw [es3]; exact tw_is_up is2
  have ne3 : ∀ y, y ≠ n → s3 y = s1 y := fun y hy => by rw [es3, tw_upR_ne hy, es2, tw_upR_ne hy]
  have rr3 : ∀ q', q' ≠ 25 → q' ≠ 26 → tw_rr s3 n q' = tw_rr s1 n q' := fun q' h1 h2 => by rw [es3, tw_rr_upn h2, es2, tw_rr_upn h1]
  have hbk : tw_is (tw_xkS sh n (14, 0, fun _ => none)) b 10 := tw_is_c hb (tw_xkS_n (by omega))
  refine ⟨s3, m1, l1, fun y hy => by rw [ne3 y (by omega), a1 y hy], a2, ⟨is3, ⟨fun _ => none, ?_⟩, ⟨fun _ => none, ?_⟩, ?_, ?_, ?_, ?_⟩, fun K => ?_⟩
  · rw [ne3 _ (by omega)]; exact (a4 0 _ rfl).1
  · rw [ne3 _ (by omega)]; exact (a4 1 _ rfl).1
  · rw [es3, tw_rr_upn (by omega), es2]; exact tw_rr_ups a3
  · rw [es3]; exact tw_rr_ups is2
  · rw [rr3 _ (by omega) (by omega)]; exact (a4 0 _ rfl).2
  · rw [rr3 _ (by omega) (by omega)]; exact (a4 1 _ rfl).2
  · have e1 : ∀ K : Nat → tw_Mem → Prop, tw_nw 4 (fun b20 => tw_gr 57 b fun x21 => tw_gr 63 b fun x22 => f_X4_init b20 x21 x22 (fun _ => K b20)) (sh, μ, la, n) = tw_nw 4 (fun b20 => tw_oi b20 (tw_pr 25 b20 p (tw_pr 26 b20 q (K b20))) [(0, 64, 64, 27), (0, 64, 64, 28)]) (sh, μ, la, n) := fun K => by
      rw [A_nw1, A_nw1, tw_gr_is (z := p) ⟨of_eq_true (tw_is_fo hbk rfl rfl), (tw_rr_c (tw_xkS_n (by omega))).trans h57⟩, tw_gr_is (z := q) ⟨of_eq_true (tw_is_fo hbk rfl rfl), (tw_rr_c (tw_xkS_n (by omega))).trans h63⟩]
      rfl
    rw [e1, a7 (fun b20 => tw_pr 25 b20 p (tw_pr 26 b20 q (K b20))), tw_pr_is a3 rfl rfl, ← es2, tw_pr_is is2 rfl rfl, ← es3]
    rfl
theorem s_sets (sh : tw_Sh) (μ : Nat → Nat → Int32) (la : Nat → Nat → Int64) (n : Nat) : ∃ sh' μ' la', (∀ y, y < n → sh' y = sh y) ∧ (∀ y, y < n → μ' y = μ y) ∧ tw_Se sh' n ∧ ∀ K : Nat → tw_Mem → Prop, tw_nw 5 (fun b => f_X5_init b (fun _ => K b)) (sh, μ, la, n) = K n (sh', μ', la', n + 5) := by
  obtain ⟨s1, m1, l1, a1, a2, a3, a4, a6, a7⟩ := s_obj 5 [(0, 8, 8, 32), (0, 64, 64, 33), (0, 256, 256, 34), (0, 8, 8, 35)] sh μ la n (by decide +kernel) (by decide)
  exact ⟨s1, m1, l1, a1, a2, ⟨a3, ⟨_, (a4 0 _ rfl).1⟩, ⟨_, (a4 1 _ rfl).1⟩, ⟨_, (a4 2 _ rfl).1⟩, ⟨_, (a4 3 _ rfl).1⟩, (a4 0 _ rfl).2, (a4 1 _ rfl).2, (a4 2 _ rfl).2, (a4 3 _ rfl).2⟩, fun K => a7 K⟩
theorem s_law (sh : tw_Sh) (μ : Nat → Nat → Int32) (la : Nat → Nat → Int64) (n : Nat) : ∃ sh' μ' la', (∀ y, y < n → sh' y = sh y) ∧ (∀ y, y < n → μ' y = μ y) ∧ (tw_is sh' n 0 ∧ μ' n 0 = mI) ∧ ∀ K : Nat → tw_Mem → Prop, tw_nw 0 (fun b => f_X0_init b (fun _ => K b)) (sh, μ, la, n) = K n (sh', μ', la', n + 6) := by
  obtain ⟨s1, m1, l1, a1, a2, a3, a4, a6, a7⟩ := s_obj 0 [(0, 20, 20, 5)] sh μ la n (by decide +kernel) (by decide)
  obtain ⟨s3, m3, l3, f1, f2, f3, f4, f5, f6, f7⟩ := s_oi [(0, 12, 12, 1), (0, 12, 12, 2), (0, 12, 12, 3), (0, 0, 0, 4)] s1 (tw_up m1 n 0 (-1 : Int32)) l1 (n + 2) a3 (by omega) (by decide +kernel) (by decide)
  refine ⟨s3, m3, l3, fun y hy => by rw [f1 y (by omega) (by omega), a1 y hy], fun y hy => by rw [f5 y (by omega), tw_up_ne (by omega), a2 y hy], ⟨f2, by rw [f5 n (by omega)]; exact tw_ua⟩, fun K => ?_⟩
  have e1 := a7 (fun b => tw_pi 0 b (-1 : Int32) (tw_oi b (K b) [(0, 12, 12, 1), (0, 12, 12, 2), (0, 12, 12, 3), (0, 0, 0, 4)]))
  refine Eq.trans ?_ (e1.trans ?_)
  · rfl
  · rw [tw_pi_is (of_eq_true (tw_is_fo a3 rfl rfl))]
    exact f7 (K n)
theorem s_model (sh : tw_Sh) (μ : Nat → Nat → Int32) (la : Nat → Nat → Int64) (m : Nat) : ∃ sh' μ' la', (∀ y, y < m → sh' y = sh y) ∧ (∀ y, y < m → μ' y = μ y) ∧ (tw_Mo sh' m ∧ μ' (m + 1) = tw_T0 ∧ μ' m 84 = mI ∧ ∀ j, j ≠ 84 → μ' m j = nI 0) ∧ ∀ K : Nat → tw_Mem → Prop, tw_nw 11 (fun b => f_X12_init b (fun _ => K b)) (sh, μ, la, m) = K m (sh', μ', la', m + 13) := by
  obtain ⟨s1, m1, l1, a1, a2, a3, a4, a6, a7⟩ := s_obj 11 [(0, 2190, 2190, 71), (0, 1341, 1341, 72), (0, 1341, 1341, 73), (0, 492, 492, 74), (0, 5904, 5904, 75), (2, 400, 400, 78)] sh μ la m (by decide +kernel) (by decide)
  obtain ⟨s3, m3, l3, f1, f2, f3, f4, f5, f6, f7⟩ := s_oi [(0, 5, 5, 85), (0, 400, 400, 87), (0, 64, 64, 89), (0, 256, 256, 90), (0, 64, 64, 91), (1, 4, 4, 92)] s1 (tw_up m1 m 84 (-1 : Int32)) l1 (m + 7) a3 (by omega) (by decide +kernel) (by decide)
  have MO : tw_Mo s3 m := by
    refine ⟨f2, ⟨fun _ => none, ?_⟩, ⟨fun _ => none, ?_⟩, ⟨fun _ => none, ?_⟩, ⟨fun _ => none, ?_⟩, ⟨fun _ => none, ?_⟩, ⟨fun _ => none, ?_⟩, ⟨_, (f4 0 _ rfl).1⟩, ⟨_, (f4 1 _ rfl).1⟩, ⟨_, (f4 2 _ rfl).1⟩, ⟨_, (f4 3 _ rfl).1⟩, ⟨_, (f4 4 _ rfl).1⟩, ⟨_, (f4 5 _ rfl).1⟩, ?_, ?_, ?_, ?_, ?_, ?_, (f4 0 _ rfl).2, (f4 1 _ rfl).2, (f4 2 _ rfl).2, (f4 3 _ rfl).2, (f4 4 _ rfl).2, (f4 5 _ rfl).2⟩
    · rw [f1 _ (by omega) (by omega)]; exact (a4 0 _ rfl).1
    · rw [f1 _ (by omega) (by omega)]; exact (a4 1 _ rfl).1
    · rw [f1 _ (by omega) (by omega)]; exact (a4 2 _ rfl).1
    · rw [f1 _ (by omega) (by omega)]; exact (a4 3 _ rfl).1
    · rw [f1 _ (by omega) (by omega)]; exact (a4 4 _ rfl).1
    · rw [f1 _ (by omega) (by omega)]; exact (a4 5 _ rfl).1
    · rw [f3 71 (by decide)]; exact (a4 0 _ rfl).2
    · rw [f3 72 (by decide)]; exact (a4 1 _ rfl).2
    · rw [f3 73 (by decide)]; exact (a4 2 _ rfl).2
    · rw [f3 74 (by decide)]; exact (a4 3 _ rfl).2
    · rw [f3 75 (by decide)]; exact (a4 4 _ rfl).2
    · rw [f3 78 (by decide)]; exact (a4 5 _ rfl).2
  obtain ⟨m4, em4⟩ : ∃ M, M = tw_up (tw_up m3 (m + 1) 5 (5 : Int32)) (m + 1) 7 (1 : Int32) := ⟨_, rfl⟩
  have st : ∀ i, tw_u1 (fun q => if 8 ≤ q ∧ q < 8 + i then (-1 : Int32) else m4 (m + 1) q) (8 + i) (-1 : Int32) = fun q => if 8 ≤ q ∧ q < 8 + (i + 1) then (-1 : Int32) else m4 (m + 1) q := fun i => by
    funext q
    unfold tw_u1
    by_cases e : q = 8 + i
    · subst e; rw [if_pos rfl, if_pos (by omega)]
    · rw [if_neg e]
      dsimp only
      by_cases e2 : 8 ≤ q ∧ q < 8 + i
      · rw [if_pos e2, if_pos (by omega)]
      · rw [if_neg e2, if_neg (by omega)]
  have s0 : (fun q => if 8 ≤ q ∧ q < 8 + 0 then (-1 : Int32) else m4 (m + 1) q) = m4 (m + 1) := by
    funext q
    exact if_neg (by omega)
  have row0 : ∀ q, m3 (m + 1) q = nI 0 := fun q => by
    rw [f5 _ (by omega), tw_up_ne (by omega)]
    exact a6 (m + 1) q (by omega) (by show m + 1 < m + 1 + 6; omega)
  refine ⟨s3, tw_ra m4 (m + 1) (fun q => if 8 ≤ q ∧ q < 8 + 24 then (-1 : Int32) else m4 (m + 1) q), l3, fun y hy => by rw [f1 y (by omega) (by omega), a1 y hy], fun y hy => by rw [tw_ra_n (by omega), em4, tw_up_ne (by omega), tw_up_ne (by omega), f5 y (by omega), tw_up_ne (by omega), a2 y hy], ⟨MO, ?_, ?_, fun j hj => ?_⟩, fun K => ?_⟩
  · rw [tw_ra_a]
    funext q
    unfold tw_T0
    by_cases h5 : q = 5
    · subst h5
      rw [if_neg (by omega), if_pos rfl, em4, tw_uk (by omega)]; exact tw_ua
    · by_cases h7 : q = 7
      · subst h7
        rw [if_neg (by omega), if_neg (by omega), if_pos rfl, em4]; exact tw_ua
      · rw [if_neg h5, if_neg h7]
        by_cases h8 : 8 ≤ q ∧ q < 32
        · rw [if_pos (by omega), if_pos h8]; rfl
        · rw [if_neg (by omega), if_neg h8, em4, tw_uk (by omega), tw_uk (by omega)]; exact row0 q
  · rw [tw_ra_n (by omega), em4, tw_up_ne (by omega), tw_up_ne (by omega), f5 _ (by omega)]; exact tw_ua
  · rw [tw_ra_n (by omega), em4, tw_up_ne (by omega), tw_up_ne (by omega), f5 _ (by omega), tw_uk (by omega)]
    exact a6 m j (by omega) (by show m < m + 1 + 6; omega)
  · have e1 := a7 (fun b => tw_pi 84 b (-1 : Int32) (tw_oi b (tw_gr 71 b fun x13 => tw_si x13 (5 : Int32) (5 : Int32) (tw_gr 71 b fun x14 => tw_si x14 (7 : Int32) (1 : Int32) (tw_lp (fun (r15 : Int32 → tw_Mem → Prop) (s16 : Int32) => tw_if (s16 < (24 : Int32)) (tw_gr 71 b fun x17 => tw_si x17 ((8 : Int32) + s16) (-1 : Int32) (r15 (s16 + (1 : Int32)))) (K b)) (0 : Int32)))) [(0, 5, 5, 85), (0, 400, 400, 87), (0, 64, 64, 89), (0, 256, 256, 90), (0, 64, 64, 91), (1, 4, 4, 92)]))
    refine Eq.trans ?_ (e1.trans ?_)
    · rfl
    · have si5 : ∀ (ν : Nat → Nat → Int32) (v : Int32) (K : tw_Mem → Prop), tw_si (m + 1) (5 : Int32) v K (s3, ν, l3, m + 13) = K (s3, tw_up ν (m + 1) 5 v, l3, m + 13) := fun ν v K => X_si (i := 5) MO.2.1 (by omega) (by decide) v K
      have si7 : ∀ (ν : Nat → Nat → Int32) (v : Int32) (K : tw_Mem → Prop), tw_si (m + 1) (7 : Int32) v K (s3, ν, l3, m + 13) = K (s3, tw_up ν (m + 1) 7 v, l3, m + 13) := fun ν v K => X_si (i := 7) MO.2.1 (by omega) (by decide) v K
      rw [tw_pi_is (of_eq_true (tw_is_fo a3 rfl rfl))]
      refine (f7 _).trans ?_
      show (tw_gr 71 m fun x13 => tw_si x13 (5 : Int32) (5 : Int32) _) (s3, m3, l3, m + 13) = _
      rw [MoG0_71 MO, si5, MoG0_71 MO, si7, ← em4]
      refine tw_lp_for 24 (fun i => nI i) (fun i => (s3, tw_ra m4 (m + 1) (fun q => if 8 ≤ q ∧ q < 8 + i then (-1 : Int32) else m4 (m + 1) q), l3, m + 13)) rfl ?_ (fun i hi rec => ?_) (fun rec => ?_)
      · show (s3, tw_ra m4 (m + 1) (fun q => if 8 ≤ q ∧ q < 8 + 0 then (-1 : Int32) else m4 (m + 1) q), l3, m + 13) = _
        rw [s0, tw_ra_s]
      · have hlt : nI i < (24 : Int32) := by show nI i < nI 24; rw [nz_lt (by omega) (by omega)]; exact hi
        have g1 : nI i + (1 : Int32) = nI (i + 1) := nI_add i 1
        have g2 : (8 : Int32) + nI i = nI (8 + i) := nI_add 8 i
        rw [A_if, if_pos hlt, MoG0_71 MO, g2, X_si MO.2.1 (by omega) (by decide), tw_up_ra, st, g1]
      · have hlt : ¬ nI 24 < (24 : Int32) := by decide
        rw [A_if, if_neg hlt]
end P99y
