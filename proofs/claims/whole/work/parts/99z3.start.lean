/-! ===== the law's beginning: its first state ===== -/
theorem tw_room {p : Program} {l : Launch} {e : Env} {R R' : Room} {s : State} {m : MethodId} {args : Array Value} {below : List Frame} {meth : Method} {c : Code} {H : Heap} {locs : List Loc} {cells slots : Nat} {Q : State → Prop} {gg : JFrame} (hf : R'.frames ≤ R.frames) (hl : R'.locals ≤ R.locals) (hc : R'.cells ≤ R.cells) (hs : R'.slots ≤ R.slots) (k : W p l e R' s m args below meth c H locs cells slots Q gg) : W p l e R s m args below meth c H locs cells slots Q gg := by
  intro T hT X
  refine k T hT { X with room := ?_ }
  have h := X.room
  simp only [State.hasRoom, Bool.and_eq_true, decide_eq_true_eq] at h ⊢
  obtain ⟨⟨⟨⟨h1, h2, h3, h4, h5, h6⟩, h7⟩, h8⟩, h9⟩ := h
  refine ⟨⟨⟨⟨by omega, by omega, by omega, by omega, by omega, h6⟩, by omega⟩, by omega⟩, h9⟩
theorem tw_imp {p : Program} {l : Launch} {e : Env} {R : Room} {s : State} {m : MethodId} {args : Array Value} {below : List Frame} {meth : Method} {c : Code} {H : Heap} {locs : List Loc} {cells slots : Nat} {Q Q' : State → Prop} {gg : JFrame} (h : ∀ t, Q t → Q' t) (k : W p l e R s m args below meth c H locs cells slots Q gg) : W p l e R s m args below meth c H locs cells slots Q' gg := by
  intro T hT X
  obtain ⟨t, h1, h2⟩ := k T hT X
  exact ⟨t, h1, h t h2⟩
/-- classes and rows have their numbers -/
theorem tw_K0 {s : State} {args : Array Value} (hts : ∀ w ∈ lw_tbl, w.before args s = true) : ∃ (dC : Nat → ClassId) (dI : Nat → Nat → Nat) (cA : Nat → ClassId), va_K (dC, dI) tw_cl [(cA 0, .int), (cA 1, .long), (cA 2, .byte), (cA 3, .object RX8)] s := by
  have h0 : ∀ t : Nat, ∃ q : ClassId × (Nat → Nat), ∀ Cq : vw_C, tw_cl[t]? = some Cq → u_Kn s Cq.1 Cq.2.1 Cq.2.2 q.1 q.2 := by
    intro t
    by_cases ht : t < 12
    · obtain ⟨Cq, hCq⟩ : ∃ Cq, tw_cl[t]? = some Cq := ⟨tw_cl[t]'(by simpa using ht), List.getElem?_eq_getElem _⟩
      obtain ⟨a, b, h⟩ := u_known (n := Cq.2.2) hts (tw_uws t ht Cq hCq) (hts _ (tw_inst t ht Cq hCq).1)
      refine ⟨(a, b), fun Cq' h' => ?_⟩
      cases hCq.symm.trans h'
      exact h
    · refine ⟨(0, fun _ => 0), fun Cq h' => ?_⟩
      have := (List.getElem?_eq_some_iff.mp h').1
      have : t < 12 := by simpa using this
      omega
  obtain ⟨f, hf⟩ := Classical.axiomOfChoice h0
  obtain ⟨c0, k0, p0, a1, a2, a3⟩ := Cond.arrayClass_spec (hts _ ka_int)
  obtain ⟨c1, k1, p1, b1, b2, b3⟩ := Cond.arrayClass_spec (hts _ ka_long)
  obtain ⟨c2, k2, p2, e1, e2, e3⟩ := Cond.arrayClass_spec (hts _ ka_byte)
  obtain ⟨p3, c3, k3, d1, d2, d3, d4, d5⟩ := Cond.arrayOver_spec (hts _ kov)
  refine ⟨fun t => (f t).1, fun t => (f t).2, fun i => if i = 0 then c0 else if i = 1 then c1 else if i = 2 then c2 else c3, fun c q h => hf c q h, fun k q h => ?_⟩
  match k, h with
  | 0, h => cases h; exact ⟨fun N z => ⟨(fun k h => by cases h), k0, a2, p0, a3⟩, a1⟩
  | 1, h => cases h; exact ⟨fun N z => ⟨(fun k h => by cases h), k1, b2, p1, b3⟩, b1⟩
  | 2, h => cases h; exact ⟨fun N z => ⟨(fun k h => by cases h), k2, e2, p2, e3⟩, e1⟩
  | 3, h => cases h; exact ⟨fun N z => ⟨(fun k h => by cases h), k3, d3, p3, d4⟩, k3, p3, d3, d4, d1, d5⟩
  | k + 4, h => simp at h
theorem tw_vkR {s : State} {args : Array Value} (hts : ∀ w ∈ lw_tbl, w.before args s = true) {own tx : String} {ix : Nat} (h : Cond.stringRef own ix tx ∈ lw_tbl) : ∃ a, vk_R own ix tx a s := by
  have h1 := hts _ h
  have hcur : ∃ cur, s.vm.findClass own = some cur := by
    have h2 := h1
    simp only [Cond.before, Cond.holds, Cond.value] at h2
    cases hc : s.vm.findClass own with
    | none => simp [hc] at h2
    | some cur => exact ⟨cur, rfl⟩
  obtain ⟨cur, hcur⟩ := hcur
  obtain ⟨k, cf, i, a, -, -, -, -, -, hev⟩ := Cond.stringRef_spec hcur h1
  exact ⟨a, vk_R.of h1 hev⟩
theorem tw_ok0 {l : Launch} (hflags : l.flags = flags0) {s : State} {b : Addr} (hts : ∀ w ∈ lw_tbl, w.before #[Value.ref b] s = true) (hgv : (Jvm.Cond.and given_1 narrow_1).before #[Value.ref b] s = true) {dC : Nat → ClassId} {dI : Nat → Nat → Nat} {cA : Nat → ClassId} (hK : va_K (dC, dI) tw_cl [(cA 0, .int), (cA 1, .long), (cA 2, .byte), (cA 3, .object RX8)] s) : tw_ok (l, s, b, dC, dI, cA) := by
  have hs : ∀ c ∈ tw_prm, c.before #[Value.ref b] s = true := flat_of_before _ hgv
  have hA : ∀ a : Nat, a < s.heap.size → ¬ tw_A (l, s, b, dC, dI, cA) a := fun a ha h => Nat.not_le.mpr ha h
  refine ⟨?_, hts, hK, vx_Zqof (hts _ tw_tb_1) (hts _ tw_tb_5) (hs _ tw_prm_1) hA, vx_Zqof (hts _ tw_tb_2) (hts _ tw_tb_5) (hs _ tw_prm_2) hA, va_Zof (hts _ tw_tb_3) (hts _ tw_tb_6) (va_eqt (hs _ tw_prm_3)) hA, va_Zqof (hts _ tw_tb_4) (hts _ tw_tb_7) (hs _ tw_prm_4) hA, fun own k tx h => tw_vkR hts h, fun E hE n hn hne => va_Nc.of (hs _ (tw_cast_ok E hE n hn hne))⟩
  show (!l.flags.contains noTraceFlag) = false
  rw [hflags]
  decide +kernel
/-- a constant of the texts, as it lies there -/
def tw_Ps (A : Nat → Prop) (s : State) (a v : Nat) (tx : String) : Prop := tx ∈ tw_words ∧ va_O "java/lang/String" a A s s.heap ∧ va_OF "java/lang/String" "coder" "B" (.int 0) a A s s.heap ∧ va_OF "java/lang/String" "value" "[B" (.ref v) a A s s.heap ∧ va_T .byte v (tw_wln tx) (fun j => .int (nI (tw_ch tx j))) A s s.heap
theorem tw_Ps_of {s : State} {args : Array Value} {A : Nat → Prop} (hs : narrow_1.before args s = true) (hA : ∀ a : Nat, a < s.heap.size → ¬ A a) {own tx : String} {ix : Nat} (h1 : Cond.stringRef own ix tx ∈ lw_tbl) (h2 : tx ∈ tw_words) : ∃ a v, (Term.string own ix).eval args s none [] s = some (.ref a) ∧ tw_Ps A s a v tx := by
  have hall : ∀ c ∈ tw_scs (own, ix, tx), c.before args s = true := tw_scs_b hs h1 h2
  have hw := tw_words_s tx h2
  have g1 : (Cond.exactly (.string own ix) "java/lang/String").before args s = true := hall _ (by simp [tw_scs])
  have g2 : (Cond.eq (.field (.string own ix) "java/lang/String" "coder" "B") (.int 0)).before args s = true := hall _ (by simp [tw_scs])
  have g3 : (Cond.arrayOf (tw_val own ix) .byte).before args s = true := hall _ (by simp [tw_scs])
  have g4 : (Cond.eq (.length (tw_val own ix)) (.int (Int32.ofNat (tw_wln tx)))).before args s = true := hall _ (by simp [tw_scs])
  have g5 : ∀ j, j < tw_wln tx → (Cond.eq (.elem (tw_val own ix) (.int (Int32.ofNat j))) (.int (nI (tw_ch tx j)))).before args s = true := fun j hj => hall _ (by
    unfold tw_scs
    refine List.mem_append.mpr (Or.inr (List.mem_map.mpr ⟨j, List.mem_range.mpr hj, rfl⟩)))
  obtain ⟨a, c, cA, kA, q1, q2, q3, q4, q5, q6, -⟩ := Cond.exactly_spec (args := args) (first := s) (o := none) (s := s) (idx := []) (t := Term.string own ix) (cls := "java/lang/String") g1
  obtain ⟨t, ht, hT⟩ := va_Tof (f := fun j => .int (nI (tw_ch tx j))) (A := A) (by omega) g3 (va_eqt g4) (fun j hj => va_eqt (g5 j hj)) hA
  exact ⟨a, t, q1, h2, ⟨cA, q3, q5, by rw [q6]; exact q2, hA a (Array.getElem?_eq_some_iff.mp q3).1⟩, vk_OFof q1 (va_eqt g2) hA, vk_OFof q1 ht hA, hT⟩
/-- where it lies is told by its own cell -/
theorem tw_OF_u {o nm d : String} {u v : Value} {a : Nat} {A : Nat → Prop} {s : State} {H : Heap} (h1 : va_OF o nm d u a A s H) (h2 : va_OF o nm d v a A s H) : u = v := by
  obtain ⟨cf, k, i, f, cell, a1, a2, a3, a4, a5, a6⟩ := h1
  obtain ⟨cf', k', i', f', cell', b1, b2, b3, b4, b5, b6⟩ := h2
  cases a1.symm.trans b1
  cases a3.symm.trans b3
  exact Option.some.inj (a5.symm.trans b5)
theorem tw_T_u {v N N' : Nat} {f f' : Nat → Int32} {A : Nat → Prop} {s : State} {H : Heap} (hN : N < 7) (hN' : N' < 7) (h1 : va_T .byte v N (fun j => .int (f j)) A s H) (h2 : va_T .byte v N' (fun j => .int (f' j)) A s H) : N = N' ∧ ∀ j, j < N → f j = f' j := by
  obtain ⟨cell, a1, a2, a3, a4, a5, a6, a7⟩ := h1
  obtain ⟨cell', b1, b2, b3, b4, b5, b6, b7⟩ := h2
  cases a1.symm.trans b1
  have e : N = N' := by
    have : nI N = nI N' := a5.symm.trans b5
    rw [nz_eq (by omega) (by omega)] at this
    exact this
  subst e
  refine ⟨rfl, fun j hj => ?_⟩
  have := (a6 j hj).symm.trans (b6 j hj)
  injection this with h
  injection h
theorem tw_Ps_v {A : Nat → Prop} {s : State} {a v v' : Nat} {tx tx' : String} (h : tw_Ps A s a v tx) (h' : tw_Ps A s a v' tx') : v = v' := by
  have := tw_OF_u h.2.2.2.1 h'.2.2.2.1
  injection this
theorem tw_Ps_t {A : Nat → Prop} {s : State} {a a' v : Nat} {tx tx' : String} (h : tw_Ps A s a v tx) (h' : tw_Ps A s a' v tx') : tw_wln tx = tw_wln tx' ∧ ∀ j, j < tw_wln tx → nI (tw_ch tx j) = nI (tw_ch tx' j) := by
  have w1 := tw_words_s tx h.1
  have w2 := tw_words_s tx' h'.1
  exact tw_T_u (by omega) (by omega) h.2.2.2.2 h'.2.2.2.2
/-- a word's object is no row of bytes: its heap fits -/
theorem tw_Ps_n {A : Nat → Prop} {s : State} (hfit : heapFits s = true) {a v v' : Nat} {tx tx' : String} (h : tw_Ps A s a v tx) {a' : Nat} (h' : tw_Ps A s a' v' tx') : a ≠ v' := by
  intro e
  subst e
  obtain ⟨cf, k, i, f, cell, a1, a2, a3, a4, a5, a6⟩ := h.2.2.2.1
  obtain ⟨cell', b1, ⟨b2, kA, b3, comp, b4⟩, b5, b6, b7, b8, b9⟩ := h'.2.2.2.2
  cases a3.symm.trans b1
  obtain ⟨hlt, hc⟩ := Array.getElem?_eq_some_iff.mp a3
  have h1 : cellFits s cell = true := by
    have := (Array.all_eq_true_iff_forall_mem.mp hfit) _ (Array.getElem_mem hlt)
    rw [hc] at this
    exact this
  have hi : f.slot < cell.slots.size := (Array.getElem?_eq_some_iff.mp a5).1
  have h2 := (List.all_eq_true.mp h1) f.slot (List.mem_range.mpr hi)
  have h3 : s.fitsSlot cell.cls cell.vm f.slot (.ref v) = true := by simpa [a5] using h2
  have h4 : s.slotType? cell.cls cell.vm f.slot = some .byte := by
    cases hvm : cell.vm <;> first | exact absurd hvm (b2 _) | simp [State.slotType?, b3, b4]
  unfold State.fitsSlot at h3
  rw [h4] at h3
  exact absurd (show (false : Bool) = true from h3) (by decide)
theorem tw_Ps_a {A : Nat → Prop} {s : State} {a v b L : Nat} {tx : String} {xs : Nat → Int32} (h : tw_Ps A s a v tx) (hX : va_X b L xs s s.heap) : a ≠ b ∧ v ≠ b := by
  obtain ⟨scr, c1, ⟨c2, kI, c3, comp, c4⟩, c5, c6, c7⟩ := hX
  constructor
  · intro e
    subst e
    obtain ⟨cf, k, i, f, cell, a1, a2, a3, a4, a5, a6⟩ := h.2.2.2.1
    cases a3.symm.trans c1
    have hi : f.slot < L := by rw [← c6]; exact (Array.getElem?_eq_some_iff.mp a5).1
    have := a5.symm.trans (c7 _ hi)
    injection this with h
    cases h
  · intro e
    subst e
    obtain ⟨cell', b1, ⟨b2, kA, b3, comp', b4⟩, b5, b6, b7, b8, b9⟩ := h.2.2.2.2
    cases b1.symm.trans c1
    cases b3.symm.trans c3
    rw [b4] at c4
    injection c4 with _ h
    cases h
/-- the first small memory -/
theorem tw_M0 {g : tw_Gx} {b L : Nat} {xs : Nat → Int32} (hfit : heapFits (tw_s0 g) = true) (hX : va_X b L xs (tw_s0 g) (tw_s0 g).heap) (hL : L ≤ 3072) (hbl : b < (tw_s0 g).heap.size) {args : Array Value} (hts : ∀ w ∈ lw_tbl, w.before args (tw_s0 g) = true) (hs : narrow_1.before args (tw_s0 g) = true) : ∃ (sh : tw_Sh) (μ : Nat → Nat → Int32), (∃ r, sh b = some (4, L, r)) ∧ tw_GS g (sh, μ) (tw_s0 g).heap.size ∧ tw_R g (sh, μ, fun _ _ => 0, (tw_s0 g).heap.size) (tw_s0 g) (tw_s0 g).heap := by
  have hA : ∀ a : Nat, a < (tw_s0 g).heap.size → ¬ tw_A g a := fun a ha h => Nat.not_le.mpr ha h
  have key : ∀ y : Nat, ∃ z : Option (Nat × Nat × (Nat → Option Nat)) × (Nat → Int32), (y = b → z.1 = some (4, L, fun _ => none) ∧ z.2 = xs) ∧ (∀ v tx, tw_Ps (tw_A g) (tw_s0 g) y v tx → z.1 = some (6, 0, fun j => if j = 1 then some v else none) ∧ z.2 0 = nI 0) ∧ (∀ a tx, tw_Ps (tw_A g) (tw_s0 g) a y tx → z.1 = some (5, tw_wln tx, fun _ => none) ∧ ∀ j, j < tw_wln tx → z.2 j = nI (tw_ch tx j)) ∧ ∀ q, z.1 = some q → (y = b ∧ q = (4, L, fun _ => none)) ∨ (∃ v tx, tw_Ps (tw_A g) (tw_s0 g) y v tx ∧ q = (6, 0, fun j => if j = 1 then some v else none)) ∨ ∃ a tx, tw_Ps (tw_A g) (tw_s0 g) a y tx ∧ q = (5, tw_wln tx, fun _ => none) := by
    intro y
    by_cases h1 : y = b
    · refine ⟨(some (4, L, fun _ => none), xs), fun _ => ⟨rfl, rfl⟩, fun v tx h => absurd h1 (tw_Ps_a h hX).1, fun a tx h => absurd h1 (tw_Ps_a h hX).2, fun q hq => Or.inl ⟨h1, (Option.some.inj hq).symm⟩⟩
    · by_cases h2 : ∃ v tx, tw_Ps (tw_A g) (tw_s0 g) y v tx
      · obtain ⟨v, tx, h⟩ := h2
        refine ⟨(some (6, 0, fun j => if j = 1 then some v else none), fun _ => nI 0), fun e => absurd e h1, fun v' tx' h' => ?_, fun a tx' h' => absurd rfl (tw_Ps_n hfit h h'), fun q hq => Or.inr (Or.inl ⟨v, tx, h, (Option.some.inj hq).symm⟩)⟩
        rw [tw_Ps_v h h']
        exact ⟨rfl, rfl⟩
      · by_cases h3 : ∃ a tx, tw_Ps (tw_A g) (tw_s0 g) a y tx
        · obtain ⟨a, tx, h⟩ := h3
          refine ⟨(some (5, tw_wln tx, fun _ => none), fun j => nI (tw_ch tx j)), fun e => absurd e h1, fun v' tx' h' => absurd ⟨v', tx', h'⟩ h2, fun a' tx' h' => ?_, fun q hq => Or.inr (Or.inr ⟨a, tx, h, (Option.some.inj hq).symm⟩)⟩
          obtain ⟨e1, e2⟩ := tw_Ps_t h h'
          exact ⟨by rw [e1], fun j hj => e2 j (by omega)⟩
        · exact ⟨(none, fun _ => 0), fun e => absurd e h1, fun v' tx' h' => absurd ⟨v', tx', h'⟩ h2, fun a' tx' h' => absurd ⟨a', tx', h'⟩ h3, fun q hq => by cases hq⟩
  obtain ⟨F, hF⟩ := Classical.axiomOfChoice key
  refine ⟨fun y => (F y).1, fun y => (F y).2, ⟨_, ((hF b).1 rfl).1⟩, fun own ix tx h1 h2 => ⟨tw_vkR hts h1, fun a ha => ?_⟩, Nat.le_refl _, rfl, fun q _ => rfl, fun a q hq => ?_⟩
  · obtain ⟨a', v, hev, hP⟩ := tw_Ps_of (A := tw_A g) hs hA h1 h2
    have e : a = a' := by
      have h3 : (some (.ref a) : Option Value) = some (.ref a') := ha.2.symm.trans hev
      injection h3 with h4
      injection h4
    subst e
    have hla : a < (tw_s0 g).heap.size := by obtain ⟨cell, c1, -⟩ := hP.2.1; exact (Array.getElem?_eq_some_iff.mp c1).1
    have hlv : v < (tw_s0 g).heap.size := by obtain ⟨cell, c1, -⟩ := hP.2.2.2.2; exact (Array.getElem?_eq_some_iff.mp c1).1
    obtain ⟨s1, s2⟩ := (hF a).2.1 v tx hP
    obtain ⟨t1, t2⟩ := (hF v).2.2.1 a tx hP
    exact ⟨hla, h2, 0, _, v, s1, (show (if (1 : Nat) = 1 then some v else none) = some v from if_pos rfl), hlv, ⟨_, t1⟩, s2, t2⟩
  · rcases (hF a).2.2.2 q hq with ⟨e1, e2⟩ | ⟨v, tx, hP, e2⟩ | ⟨a', tx, hP, e2⟩
    · subst e1
      subst e2
      have ex := ((hF a).1 rfl).2
      obtain ⟨scr, c1, c2, c5, c6, c7⟩ := hX
      refine ⟨scr, c1, c2, c5, Nat.le_of_eq c6.symm, by rw [c6], fun j hj => ?_, hA a hbl⟩
      rw [c7 j hj]
      show some (Value.int (xs j)) = some (Value.int ((F a).2 j))
      rw [ex]
    · subst e2
      obtain ⟨s1, s2⟩ := (hF a).2.1 v tx hP
      refine ⟨hP.2.1, ?_, v, (show (if (1 : Nat) = 1 then some v else none) = some v from if_pos rfl), hP.2.2.2.1⟩
      show va_OF "java/lang/String" "coder" "B" (.int ((F a).2 0)) a _ _ _
      rw [s2]
      exact hP.2.2.1
    · subst e2
      obtain ⟨t1, t2⟩ := (hF a).2.2.1 a' tx hP
      obtain ⟨cell, c1, c2, c3, c4, c5, c6, c7⟩ := hP.2.2.2.2
      refine ⟨cell, c1, c2, c3, c4, c5, fun j hj => ?_, c7⟩
      rw [c6 j hj]
      show some (Value.int (nI (tw_ch tx j))) = some (Value.int ((F a).2 j))
      rw [t2 j hj]
