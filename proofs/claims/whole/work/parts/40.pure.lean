/-! ===== pure: numbers ===== -/
theorem nz_lt {a b : Nat} (ha : a < 2147483648) (hb : b < 2147483648) : (nI a < nI b) = (a < b) := propext (nI_ltI ha hb)
theorem nz_le {a b : Nat} (ha : a < 2147483648) (hb : b < 2147483648) : (nI a ≤ nI b) = (a ≤ b) := propext (nI_leI ha hb)
theorem nz_eq {a b : Nat} (ha : a < 2147483648) (hb : b < 2147483648) : (nI a = nI b) = (a = b) := propext (nI_eq ha hb)
theorem nz_m1 {a : Nat} (ha : a < 2147483648) : (nI a = (-1 : Int32)) = False := by
  apply propext; constructor
  · intro h
    have := congrArg Int32.toInt h
    rw [nI_toInt ha] at this
    have h2 : (-1 : Int32).toInt = -1 := by decide
    omega
  · exact False.elim
theorem nz_m1' {a : Nat} (ha : a < 2147483648) : ((-1 : Int32) = nI a) = False := by rw [show ((-1 : Int32) = nI a) = (nI a = -1) from propext eq_comm, nz_m1 ha]
theorem nz_m1l {a : Nat} (ha : a < 2147483648) : ((-1 : Int32) < nI a) = True := by
  apply propext; constructor
  · intro _; trivial
  · intro _
    rw [Int32.lt_iff_toInt_lt, nI_toInt ha]
    have h2 : (-1 : Int32).toInt = -1 := by decide
    omega
theorem nz_m1r {a : Nat} (ha : a < 2147483648) : (nI a < (-1 : Int32)) = False := by
  apply propext; constructor
  · intro h
    rw [Int32.lt_iff_toInt_lt, nI_toInt ha] at h
    have h2 : (-1 : Int32).toInt = -1 := by decide
    omega
  · exact False.elim
theorem nz_cl {a : Nat} (ha : a < 2147483648) : (nI a).toNatClampNeg = a := nI_clamp ha
theorem nz_sub {a b : Nat} (h : b ≤ a) : nI a - nI b = nI (a - b) := pk_sub h
/-- a place of an array -/
def tw_ar (sh : tw_Sh) (a tag n : Nat) : Prop := ∃ r, sh a = some (tag, n, r)
theorem tw_ar_ai {sh : tw_Sh} {a tag n : Nat} {T : List Nat} (h : tw_ar sh a tag n) (hT : tag ∈ T) {i : Nat} (hi : i < n) (hn : n < 2147483648) : tw_ai sh T a (nI i) = True := by
  obtain ⟨r, hr⟩ := h
  exact propext ⟨fun _ => trivial, fun _ => ⟨_, hr, hT, vp_in_nI hi hn⟩⟩
theorem tw_is_fo {sh : tw_Sh} {a t q : Nat} {b : Bool} (h : tw_is sh a t) (h1 : (tw_ix t q).isSome = true) (h2 : tw_rf q = b) : tw_fo sh a q b = True := by
  obtain ⟨n, r, hr⟩ := h
  exact propext ⟨fun _ => trivial, fun _ => ⟨_, hr, Nat.le_add_left _ _, by simpa using h1, h2⟩⟩
theorem tw_is_T {sh : tw_Sh} {a t : Nat} (h : tw_is sh a t) : tw_is sh a t = True := propext ⟨fun _ => trivial, fun _ => h⟩
theorem tw_ex1 {P : Nat → Prop} {x : Option Nat} {b : Nat} (h : x = some b) : (∃ c, x = some c ∧ P c) = P b := by
  subst h
  apply propext; constructor
  · rintro ⟨c, h1, h2⟩; cases h1; exact h2
  · intro h; exact ⟨b, rfl, h⟩
/-- a loop that runs its course -/
theorem tw_lp_for {σ : Type} {b : (σ → tw_Mem → Prop) → σ → tw_Mem → Prop} (N : Nat) (S : Nat → σ) (Mf : Nat → tw_Mem) {R : Prop} {s0 : σ} {M0 : tw_Mem} (h0 : S 0 = s0) (hM : Mf 0 = M0) (hstep : ∀ i, i < N → ∀ rec, b rec (S i) (Mf i) = rec (S (i + 1)) (Mf (i + 1))) (hexit : ∀ rec, b rec (S N) (Mf N) = R) : tw_lp b s0 M0 = R := by
  subst h0; subst hM
  have key : ∀ k i, i + k = N → ∀ n, tw_whl b n (S i) (Mf i) = if k < n then R else False := by
    intro k
    induction k with
    | zero =>
      intro i hi n
      have : i = N := by omega
      subst this
      cases n with
      | zero => rfl
      | succ n => simp only [tw_whl, hexit]; simp
    | succ k ih =>
      intro i hi n
      cases n with
      | zero => rfl
      | succ n =>
        simp only [tw_whl]
        rw [hstep i (by omega), ih (i + 1) (by omega) n]
        simp
  unfold tw_lp
  apply propext; constructor
  · rintro ⟨n, hn⟩
    rw [key N 0 (by omega) n] at hn
    split at hn
    · exact hn
    · exact hn.elim
  · intro h
    exact ⟨N + 1, by rw [key N 0 (by omega) (N + 1), if_pos (by omega)]; exact h⟩
/-- a loop that may be left early: at the first i below N where it leaves -/
theorem tw_lp_brk {σ : Type} {b : (σ → tw_Mem → Prop) → σ → tw_Mem → Prop} (N : Nat) (S : Nat → σ) (Mf : Nat → tw_Mem) {R : Prop} {s0 : σ} {M0 : tw_Mem} (h0 : S 0 = s0) (hM : Mf 0 = M0) (k : Nat) (hk : k ≤ N) (hstep : ∀ i, i < k → ∀ rec, b rec (S i) (Mf i) = rec (S (i + 1)) (Mf (i + 1))) (hexit : ∀ rec, b rec (S k) (Mf k) = R) : tw_lp b s0 M0 = R := tw_lp_for k S Mf h0 hM hstep hexit
/-- folding over 0, 1 .. n - 1 -/
def tw_it {α : Type} (f : Nat → α → α) : Nat → α → α
  | 0, x => x
  | n + 1, x => f n (tw_it f n x)
theorem tw_it_congr {α : Type} {f g : Nat → α → α} : ∀ (n : Nat) (x : α), (∀ i, i < n → ∀ y, f i y = g i y) → tw_it f n x = tw_it g n x
  | 0, _, _ => rfl
  | n + 1, x, h => by
    show f n (tw_it f n x) = g n (tw_it g n x)
    rw [tw_it_congr n x (fun i hi => h i (by omega)), h n (by omega)]
/-- the written numbers -/
theorem tl_0 : (0 : Int32) = nI 0 := rfl
theorem tl_1 : (1 : Int32) = nI 1 := rfl
theorem tl_2 : (2 : Int32) = nI 2 := rfl
theorem tl_3 : (3 : Int32) = nI 3 := rfl
theorem tl_4 : (4 : Int32) = nI 4 := rfl
theorem tl_5 : (5 : Int32) = nI 5 := rfl
theorem tl_6 : (6 : Int32) = nI 6 := rfl
theorem tl_7 : (7 : Int32) = nI 7 := rfl
theorem tl_8 : (8 : Int32) = nI 8 := rfl
theorem tl_9 : (9 : Int32) = nI 9 := rfl
theorem tl_10 : (10 : Int32) = nI 10 := rfl
theorem tl_11 : (11 : Int32) = nI 11 := rfl
theorem tl_12 : (12 : Int32) = nI 12 := rfl
theorem tl_13 : (13 : Int32) = nI 13 := rfl
theorem tl_14 : (14 : Int32) = nI 14 := rfl
theorem tl_15 : (15 : Int32) = nI 15 := rfl
theorem tl_16 : (16 : Int32) = nI 16 := rfl
theorem tl_17 : (17 : Int32) = nI 17 := rfl
theorem tl_18 : (18 : Int32) = nI 18 := rfl
theorem tl_19 : (19 : Int32) = nI 19 := rfl
theorem tl_20 : (20 : Int32) = nI 20 := rfl
theorem tl_21 : (21 : Int32) = nI 21 := rfl
theorem tl_22 : (22 : Int32) = nI 22 := rfl
theorem tl_23 : (23 : Int32) = nI 23 := rfl
theorem tl_24 : (24 : Int32) = nI 24 := rfl
theorem tl_25 : (25 : Int32) = nI 25 := rfl
theorem tl_26 : (26 : Int32) = nI 26 := rfl
theorem tl_27 : (27 : Int32) = nI 27 := rfl
theorem tl_28 : (28 : Int32) = nI 28 := rfl
theorem tl_29 : (29 : Int32) = nI 29 := rfl
theorem tl_30 : (30 : Int32) = nI 30 := rfl
theorem tl_31 : (31 : Int32) = nI 31 := rfl
theorem tl_32 : (32 : Int32) = nI 32 := rfl
theorem tl_33 : (33 : Int32) = nI 33 := rfl
theorem tl_34 : (34 : Int32) = nI 34 := rfl
theorem tl_35 : (35 : Int32) = nI 35 := rfl
theorem tl_36 : (36 : Int32) = nI 36 := rfl
theorem tl_37 : (37 : Int32) = nI 37 := rfl
theorem tl_38 : (38 : Int32) = nI 38 := rfl
theorem tl_39 : (39 : Int32) = nI 39 := rfl
theorem tl_40 : (40 : Int32) = nI 40 := rfl
theorem tl_41 : (41 : Int32) = nI 41 := rfl
theorem tl_42 : (42 : Int32) = nI 42 := rfl
theorem tl_43 : (43 : Int32) = nI 43 := rfl
theorem tl_44 : (44 : Int32) = nI 44 := rfl
theorem tl_45 : (45 : Int32) = nI 45 := rfl
theorem tl_46 : (46 : Int32) = nI 46 := rfl
theorem tl_47 : (47 : Int32) = nI 47 := rfl
theorem tl_48 : (48 : Int32) = nI 48 := rfl
theorem tl_49 : (49 : Int32) = nI 49 := rfl
theorem tl_50 : (50 : Int32) = nI 50 := rfl
theorem tl_51 : (51 : Int32) = nI 51 := rfl
theorem tl_52 : (52 : Int32) = nI 52 := rfl
theorem tl_53 : (53 : Int32) = nI 53 := rfl
theorem tl_54 : (54 : Int32) = nI 54 := rfl
theorem tl_57 : (57 : Int32) = nI 57 := rfl
theorem tl_59 : (59 : Int32) = nI 59 := rfl
theorem tl_60 : (60 : Int32) = nI 60 := rfl
theorem tl_62 : (62 : Int32) = nI 62 := rfl
theorem tl_63 : (63 : Int32) = nI 63 := rfl
theorem tl_64 : (64 : Int32) = nI 64 := rfl
theorem tl_97 : (97 : Int32) = nI 97 := rfl
theorem tl_99 : (99 : Int32) = nI 99 := rfl
theorem tl_100 : (100 : Int32) = nI 100 := rfl
theorem tl_120 : (120 : Int32) = nI 120 := rfl
theorem tl_122 : (122 : Int32) = nI 122 := rfl
theorem tl_192 : (192 : Int32) = nI 192 := rfl
theorem tl_193 : (193 : Int32) = nI 193 := rfl
theorem tl_194 : (194 : Int32) = nI 194 := rfl
theorem tl_195 : (195 : Int32) = nI 195 := rfl
theorem tl_196 : (196 : Int32) = nI 196 := rfl
theorem tl_255 : (255 : Int32) = nI 255 := rfl
theorem tl_256 : (256 : Int32) = nI 256 := rfl
theorem tl_299 : (299 : Int32) = nI 299 := rfl
theorem tl_400 : (400 : Int32) = nI 400 := rfl
theorem tl_401 : (401 : Int32) = nI 401 := rfl
theorem tl_492 : (492 : Int32) = nI 492 := rfl
theorem tl_493 : (493 : Int32) = nI 493 := rfl
theorem tl_541 : (541 : Int32) = nI 541 := rfl
theorem tl_849 : (849 : Int32) = nI 849 := rfl
theorem tl_999 : (999 : Int32) = nI 999 := rfl
theorem tl_1000 : (1000 : Int32) = nI 1000 := rfl
theorem tl_1341 : (1341 : Int32) = nI 1341 := rfl
theorem tl_1342 : (1342 : Int32) = nI 1342 := rfl
theorem tl_1390 : (1390 : Int32) = nI 1390 := rfl
theorem tl_2190 : (2190 : Int32) = nI 2190 := rfl
theorem tl_5412 : (5412 : Int32) = nI 5412 := rfl
theorem tl_5904 : (5904 : Int32) = nI 5904 := rfl
theorem tl_9999 : (9999 : Int32) = nI 9999 := rfl
theorem tl_12345 : (12345 : Int32) = nI 12345 := rfl
theorem tl_32767 : (32767 : Int32) = nI 32767 := rfl
theorem tl_65536 : (65536 : Int32) = nI 65536 := rfl
theorem tl_1000000 : (1000000 : Int32) = nI 1000000 := rfl
theorem tl_252645135 : (252645135 : Int32) = nI 252645135 := rfl
theorem tl_858993459 : (858993459 : Int32) = nI 858993459 := rfl
theorem tl_1103515245 : (1103515245 : Int32) = nI 1103515245 := rfl
theorem tl_1431655765 : (1431655765 : Int32) = nI 1431655765 := rfl
theorem nt_lt {a b : Nat} (h : a < b) : (a < b) = True := eq_true h
theorem nf_lt {a b : Nat} (h : b ≤ a) : (a < b) = False := eq_false (by omega)
theorem nf_eq {a b : Nat} (h : a < b ∨ b < a) : (a = b) = False := eq_false (by omega)
theorem nz_31 {a : Nat} (h : a < 32) : nI a &&& nI 31 = nI a := by
  rw [pk_andN (by omega) 5 (by decide), Nat.mod_eq_of_lt h]
theorem nz_c31 {a : Nat} (h : a < 32) : nI a &&& 31 = nI a := nz_31 h
theorem tw_it_s {α : Type} (f : Nat → α → α) (n : Nat) (x : α) : tw_it f (n + 1) x = f n (tw_it f n x) := rfl
/-- a number of a range -/
theorem nz_rng {x : Int32} {P : Nat} (hP : P < 2147483648) (h0 : ¬ x < 0) (h1 : x < nI P) : ∃ p, p < P ∧ x = nI p := by
  obtain ⟨j, hj, rfl⟩ := nI_of h0
  rw [nz_lt hj hP] at h1
  exact ⟨j, h1, rfl⟩
def mI : Int32 := -1
theorem nz_mI : -nI 1 = mI := rfl
theorem mI_eq {a : Nat} (ha : a < 2147483648) : (nI a = mI) = False := nz_m1 ha
theorem mI_eq' {a : Nat} (ha : a < 2147483648) : (mI = nI a) = False := nz_m1' ha
theorem mI_lt {a : Nat} (ha : a < 2147483648) : (mI < nI a) = True := nz_m1l ha
theorem mI_gt {a : Nat} (ha : a < 2147483648) : (nI a < mI) = False := nz_m1r ha
