/-! ===== arrays, new objects, returns, loops and joins ===== -/
theorem tw_over {g : tw_Gx} {y : tw_MD} {p : Program} {s : State} {m : MethodId} {meth : Method} {c : Code} (X : tw_Fx g y p s m meth c) {C : String} (hw : Cond.arrayOver (.object C) ∈ lw_tbl) (args : Array Value) : (Cond.arrayOver (.object C)).before args s = true := by
  obtain ⟨-, h0, -⟩ := tw_gk X
  exact (va_AO.moved (tw_wm X).alike (va_AO.of (h0 _ hw))).use
section TWA
variable {g : tw_Gx} {y : tw_MD} {d mc ms : Nat} {Q : tw_Rs → tw_Mem → Prop} {pc npc : Nat} {L : List (Option Value)} {st : List Value} {kc ks : Nat} {F : tw_Mem → Prop}
theorem tw_iaload {k a : Nat} {i : Int32} {G : Int32 → tw_Mem → Prop} (hd : (tw_tb y)[k]? = some (pc, .iaload, 1, npc)) (n : ∀ x, tw_C g y d mc ms Q npc L (.int x :: st) kc ks (G x)) : tw_C g y d mc ms Q pc L (.int i :: .ref a :: st) kc ks (tw_li a i G) := by
  intro M hF p e s m args below meth c H locs ls X hR hS hL
  obtain ⟨hdec, rfl⟩ := tw_dec X hd
  obtain ⟨⟨⟨t, nn, r⟩, h1, h2, h3⟩, h4⟩ := hF
  have hlt : i.toNatClampNeg < nn := Nat.not_le.mp fun q => h3 (Or.inr q)
  have hc := hR.2.2.2 a _ h1
  have kk := n _ M h4 p e s m args below meth c H locs ls X hR hS hL
  simp only [List.mem_cons, List.not_mem_nil, or_false] at h2
  rcases h2 with rfl | rfl
  · exact W.iald (tw_ex X) (tw_cd X) hc.2 ((tw_arr X (k := 0) rfl).1 nn _) (fun q => by cases q) (by show ¬ (i < 0 ∨ (arrV _ _ _).slots.size ≤ _); rw [arrV_size]; exact h3) (by show (arrV _ _ _).slots[_]? = _; rw [arrV_read _ _ hlt]) rfl rfl hdec kk
  · obtain ⟨cell, c1, c2, c3, c4, c5, c6, c7⟩ : va_T .int a nn (fun j => .int (M.2.1 a j)) (tw_A g) s H := hc
    exact W.iald (tw_ex X) (tw_cd X) c1 c2 c3 (fun q => h3 (q.imp id (fun z => Nat.le_trans c4 z))) (c6 _ hlt) rfl rfl hdec kk
theorem tw_baload {k a : Nat} {i : Int32} {G : Int32 → tw_Mem → Prop} (hd : (tw_tb y)[k]? = some (pc, .baload, 1, npc)) (n : ∀ x, tw_C g y d mc ms Q npc L (.int x :: st) kc ks (G x)) : tw_C g y d mc ms Q pc L (.int i :: .ref a :: st) kc ks (tw_lb a i G) := by
  intro M hF p e s m args below meth c H locs ls X hR hS hL
  obtain ⟨hdec, rfl⟩ := tw_dec X hd
  obtain ⟨⟨⟨t, nn, r⟩, h1, h2, h3⟩, h4⟩ := hF
  have hlt : i.toNatClampNeg < nn := Nat.not_le.mp fun q => h3 (Or.inr q)
  have hc := hR.2.2.2 a _ h1
  have kk := n _ M h4 p e s m args below meth c H locs ls X hR hS hL
  simp only [List.mem_cons, List.not_mem_nil, or_false] at h2
  rcases h2 with rfl | rfl
  · exact W.bald (tw_ex X) (tw_cd X) hc.2 ((tw_arr X (k := 2) rfl).1 nn _) (fun q => by cases q) (by show ¬ (i < 0 ∨ (arrV _ _ _).slots.size ≤ _); rw [arrV_size]; exact h3) (by show (arrV _ _ _).slots[_]? = _; rw [arrV_read _ _ hlt]) rfl rfl hdec kk
  · obtain ⟨cell, c1, c2, c3, c4, c5, c6, c7⟩ : va_T .byte a nn (fun j => .int (M.2.1 a j)) (tw_A g) s H := hc
    exact W.bald (tw_ex X) (tw_cd X) c1 c2 c3 (fun q => h3 (q.imp id (fun z => Nat.le_trans c4 z))) (c6 _ hlt) rfl rfl hdec kk
theorem tw_laload {k a : Nat} {i : Int32} {G : Int64 → tw_Mem → Prop} (hd : (tw_tb y)[k]? = some (pc, .laload, 1, npc)) (n : ∀ x, tw_C g y d mc ms Q npc L (.long x :: st) kc ks (G x)) : tw_C g y d mc ms Q pc L (.int i :: .ref a :: st) kc ks (tw_ll a i G) := by
  intro M hF p e s m args below meth c H locs ls X hR hS hL
  obtain ⟨hdec, rfl⟩ := tw_dec X hd
  obtain ⟨⟨⟨t, nn, r⟩, h1, h2, h3⟩, h4⟩ := hF
  have hlt : i.toNatClampNeg < nn := Nat.not_le.mp fun q => h3 (Or.inr q)
  have hc := hR.2.2.2 a _ h1
  have kk := n _ M h4 p e s m args below meth c H locs ls X hR hS hL
  simp only [List.mem_cons, List.not_mem_nil, or_false] at h2
  subst h2
  exact W.lald (tw_ex X) (tw_cd X) hc.2 ((tw_arr X (k := 1) rfl).1 nn _) (fun q => by cases q) (by show ¬ (i < 0 ∨ (arrV _ _ _).slots.size ≤ _); rw [arrV_size]; exact h3) (by show (arrV _ _ _).slots[_]? = _; rw [arrV_read _ _ hlt]) rfl rfl hdec kk
theorem tw_aaload {k a : Nat} {i : Int32} {G : Option Nat → tw_Mem → Prop} (hd : (tw_tb y)[k]? = some (pc, .aaload, 1, npc)) (n : ∀ x, tw_C g y d mc ms Q npc L (va_rf x :: st) kc ks (G x)) : tw_C g y d mc ms Q pc L (.int i :: .ref a :: st) kc ks (tw_la a i G) := by
  intro M hF p e s m args below meth c H locs ls X hR hS hL
  obtain ⟨hdec, rfl⟩ := tw_dec X hd
  obtain ⟨⟨⟨t, nn, r⟩, h1, h2, h3⟩, h4⟩ := hF
  have hlt : i.toNatClampNeg < nn := Nat.not_le.mp fun q => h3 (Or.inr q)
  have hc := hR.2.2.2 a _ h1
  have kk := n _ M h4 p e s m args below meth c H locs ls X hR hS hL
  simp only [List.mem_cons, List.not_mem_nil, or_false] at h2
  subst h2
  refine W.aald (tw_ex X) (tw_cd X) hc.2 ((tw_arr X (k := 3) rfl).1 nn _) rfl (fun q => by cases q) (by show ¬ (i < 0 ∨ (arrV _ _ _).slots.size ≤ _); rw [arrV_size]; exact h3) (by show (arrV _ _ _).slots[_]? = _; rw [arrV_read _ _ hlt]) rfl rfl hdec ?_
  have : tw_rr M.1 a i.toNatClampNeg = r i.toNatClampNeg := by unfold tw_rr; rw [h1]; rfl
  rw [this] at kk
  exact kk
theorem tw_iastore {k a : Nat} {i v : Int32} (hd : (tw_tb y)[k]? = some (pc, .iastore, 1, npc)) (n : tw_C g y d mc ms Q npc L st kc ks F) : tw_C g y d mc ms Q pc L (.int v :: .int i :: .ref a :: st) kc ks (tw_si a i v F) := by
  intro M hF p e s m args below meth c H locs ls X hR hS hL
  obtain ⟨hdec, rfl⟩ := tw_dec X hd
  obtain ⟨⟨⟨t, nn, r⟩, h1, h2, h3⟩, h4⟩ := hF
  have hc := hR.2.2.2 a _ h1
  simp only [List.mem_cons, List.not_mem_nil, or_false] at h2
  subst h2
  refine W.iast (tw_ex X) (tw_cd X) hc.2 ((tw_arr X (k := 0) rfl).1 nn _) (fun q => by cases q) (by show ¬ (i < 0 ∨ (arrV _ _ _).slots.size ≤ _); rw [arrV_size]; exact h3) rfl rfl hdec fun H1 e1 z oq => ?_
  refine n _ h4 p e s m args below meth c H1 _ ls X (hR.put hc.1 z oq rfl (fun b hb => ⟨rfl, tw_up_ne hb, rfl⟩) fun x hx => ?_) (hS.put z oq hc.1) hL
  cases h1.symm.trans hx
  refine ⟨hc.1, ?_⟩
  rw [e1]
  show some ((arrV _ _ _).setSlot _ _) = _
  rw [arrV_store]
  congr 2
  funext q
  by_cases hq : q = i.toNatClampNeg <;> simp [updV, tw_up, hq]
theorem tw_bastore {k a : Nat} {i v : Int32} (hd : (tw_tb y)[k]? = some (pc, .bastore, 1, npc)) (n : tw_C g y d mc ms Q npc L st kc ks F) : tw_C g y d mc ms Q pc L (.int v :: .int i :: .ref a :: st) kc ks (tw_sb a i v F) := by
  intro M hF p e s m args below meth c H locs ls X hR hS hL
  obtain ⟨hdec, rfl⟩ := tw_dec X hd
  obtain ⟨⟨⟨t, nn, r⟩, h1, h2, h3⟩, h4⟩ := hF
  have hc := hR.2.2.2 a _ h1
  simp only [List.mem_cons, List.not_mem_nil, or_false] at h2
  subst h2
  refine W.bast (tw_ex X) (tw_cd X) hc.2 ((tw_arr X (k := 2) rfl).1 nn _) (fun q => by cases q) (by show ¬ (i < 0 ∨ (arrV _ _ _).slots.size ≤ _); rw [arrV_size]; exact h3) rfl rfl hdec fun H1 e1 z oq => ?_
  refine n _ h4 p e s m args below meth c H1 _ ls X (hR.put hc.1 z oq rfl (fun b hb => ⟨rfl, tw_up_ne hb, rfl⟩) fun x hx => ?_) (hS.put z oq hc.1) hL
  cases h1.symm.trans hx
  refine ⟨hc.1, ?_⟩
  rw [e1]
  show some ((arrV _ _ _).setSlot _ _) = _
  rw [arrV_store]
  congr 2
  funext q
  by_cases hq : q = i.toNatClampNeg
  · subst hq; simp only [updV, tw_up, if_true]; rfl
  · simp [updV, tw_up, hq]
theorem tw_lastore {k a : Nat} {i : Int32} {v : Int64} (hd : (tw_tb y)[k]? = some (pc, .lastore, 1, npc)) (n : tw_C g y d mc ms Q npc L st kc ks F) : tw_C g y d mc ms Q pc L (.long v :: .int i :: .ref a :: st) kc ks (tw_sl a i v F) := by
  intro M hF p e s m args below meth c H locs ls X hR hS hL
  obtain ⟨hdec, rfl⟩ := tw_dec X hd
  obtain ⟨⟨⟨t, nn, r⟩, h1, h2, h3⟩, h4⟩ := hF
  have hc := hR.2.2.2 a _ h1
  simp only [List.mem_cons, List.not_mem_nil, or_false] at h2
  subst h2
  refine W.last (tw_ex X) (tw_cd X) hc.2 ((tw_arr X (k := 1) rfl).1 nn _) (fun q => by cases q) (by show ¬ (i < 0 ∨ (arrV _ _ _).slots.size ≤ _); rw [arrV_size]; exact h3) rfl rfl hdec fun H1 e1 z oq => ?_
  refine n _ h4 p e s m args below meth c H1 _ ls X (hR.put hc.1 z oq rfl (fun b hb => ⟨rfl, rfl, tw_upL_ne hb⟩) fun x hx => ?_) (hS.put z oq hc.1) hL
  cases h1.symm.trans hx
  refine ⟨hc.1, ?_⟩
  rw [e1]
  show some ((arrV _ _ _).setSlot _ _) = _
  rw [arrV_store]
  congr 2
  funext q
  by_cases hq : q = i.toNatClampNeg <;> simp [updV, tw_upL, hq]
/-- a Town (class 7 of the list) into an array of Towns -/
theorem tw_aastore {k a b : Nat} {i : Int32} (hd : (tw_tb y)[k]? = some (pc, .aastore, 1, npc)) (n : tw_C g y d mc ms Q npc L st kc ks F) : tw_C g y d mc ms Q pc L (.ref b :: .int i :: .ref a :: st) kc ks (tw_sa 7 a i b F) := by
  intro M hF p e s m args below meth c H locs ls X hR hS hL
  obtain ⟨hdec, rfl⟩ := tw_dec X hd
  obtain ⟨⟨⟨t, nn, r⟩, h1, h2, h3⟩, ⟨n2, r2, hb⟩, h4⟩ := hF
  have hlt : i.toNatClampNeg < nn := Nat.not_le.mp fun q => h3 (Or.inr q)
  have h0 : ¬ i < 0 := fun q => h3 (Or.inl q)
  have hc := hR.2.2.2 a _ h1
  simp only [List.mem_cons, List.not_mem_nil, or_false] at h2
  subst h2
  obtain ⟨-, Cq, hcq, cellV, g1, g2, g3, -⟩ : tw_ce g M s H b (7 + 10, n2, r2) := hR.2.2.2 b _ hb
  cases hcq
  have hcls := ((tw_Kof X).1 7 _ rfl).2
  obtain ⟨kA, comp, k1, k2, k3, -⟩ := (tw_arr X (k := 3) rfl).2
  have hcomp : comp = g.2.2.2.1 7 := Option.some.inj (k3.symm.trans hcls.1)
  subst hcomp
  obtain ⟨kC, hkC, -⟩ := id hcls.2
  refine W.aast (tw_ex X) (tw_cd X) hc.2 (fun q h => by cases h) (fun h => by cases h) k1 k2 rfl hkC ⟨h0, by show _ < (arrV _ _ _).slots.size; rw [arrV_size]; exact hlt⟩ g1 (fun q h => by rw [g3] at h; cases h) (by rw [g2]; exact hkC) (by rw [g2]; exact va_assign hcls) rfl rfl hdec fun H1 e1 z oq => ?_
  refine n _ h4 p e s m args below meth c H1 _ ls X (hR.put hc.1 z oq rfl (fun b hb => ⟨by simp [tw_upR, hb], rfl, rfl⟩) fun x hx => ?_) (hS.put z oq hc.1) hL
  simp only [tw_upR, if_true, h1, Option.map_some] at hx
  cases hx
  refine ⟨hc.1, ?_⟩
  rw [e1]
  show some ((arrV _ _ _).setSlot _ _) = _
  rw [arrV_store]
  congr 2
  funext q
  by_cases hq : q = i.toNatClampNeg <;> simp [updV, hq, va_rf]
theorem tw_alength {k a : Nat} {G : Int32 → tw_Mem → Prop} (hd : (tw_tb y)[k]? = some (pc, .arraylength, 1, npc)) (n : ∀ x, tw_C g y d mc ms Q npc L (.int x :: st) kc ks (G x)) : tw_C g y d mc ms Q pc L (.ref a :: st) kc ks (tw_al a G) := by
  intro M hF p e s m args below meth c H locs ls X hR hS hL
  obtain ⟨hdec, rfl⟩ := tw_dec X hd
  obtain ⟨⟨t, nn, r⟩, h1, h2, h4⟩ := hF
  have hc := hR.2.2.2 a _ h1
  have kk := n _ M h4 p e s m args below meth c H locs ls X hR hS hL
  dsimp only at h2 kk
  match t, h2, hc with
  | 0, _, hc => exact W.alen (n := Int32.ofNat nn) (tw_ex X) (tw_cd X) hc.2 ((tw_arr X (k := 0) rfl).1 nn _) (by rw [arrV_size] <;> rfl) rfl rfl hdec kk
  | 1, _, hc => exact W.alen (n := Int32.ofNat nn) (tw_ex X) (tw_cd X) hc.2 ((tw_arr X (k := 1) rfl).1 nn _) (by rw [arrV_size] <;> rfl) rfl rfl hdec kk
  | 2, _, hc => exact W.alen (n := Int32.ofNat nn) (tw_ex X) (tw_cd X) hc.2 ((tw_arr X (k := 2) rfl).1 nn _) (by rw [arrV_size] <;> rfl) rfl rfl hdec kk
  | 3, _, hc => exact W.alen (n := Int32.ofNat nn) (tw_ex X) (tw_cd X) hc.2 ((tw_arr X (k := 3) rfl).1 nn _) (by rw [arrV_size] <;> rfl) rfl rfl hdec kk
  | 4, _, hc =>
    obtain ⟨cell, c1, c2, c3, c4, c5, c6, c7⟩ : va_T .int a nn (fun j => .int (M.2.1 a j)) (tw_A g) s H := hc
    exact W.alen (n := Int32.ofNat nn) (tw_ex X) (tw_cd X) c1 c2 c5 rfl rfl hdec kk
  | 5, _, hc =>
    obtain ⟨cell, c1, c2, c3, c4, c5, c6, c7⟩ : va_T .byte a nn (fun j => .int (M.2.1 a j)) (tw_A g) s H := hc
    exact W.alen (n := Int32.ofNat nn) (tw_ex X) (tw_cd X) c1 c2 c5 rfl rfl hdec kk
  | t + 6, h2, _ => exact absurd h2 (by omega)
theorem tw_rmc {d mc ms : Nat} : (tw_rm d mc ms).cells = mc ∧ (tw_rm d mc ms).slots = ms ∧ (tw_rm d mc ms).frames = d ∧ (tw_rm d mc ms).locals = 64 * d := ⟨rfl, rfl, rfl, rfl⟩
/-- behind a making of an array -/
theorem tw_mkS {s : State} {H H1 : Heap} {locs : List Loc} {A : Nat → Prop} (hS : va_S A s.heap H locs) (z : H1.size = H.size + 1) (oq : ∀ q, q < H.size → H1[q]? = H[q]?) : va_S A s.heap H1 locs :=
  ⟨Nat.le_trans hS.1 (by omega), fun x h1 h2 => (oq x (Nat.lt_of_lt_of_le h1 hS.1)).trans (hS.2.1 x h1 h2), hS.2.2⟩
theorem tw_newI {k : Nat} {n0 : Int32} (N : Nat) {G : Nat → tw_Mem → Prop} (hd : (tw_tb y)[k]? = some (pc, .newarray .int, 2, npc)) (hw : Cond.arrayClass .int ∈ lw_tbl) (hN : N * 8 ≤ 536870912) (h1 : kc + 1 ≤ mc) (h2 : ks + N ≤ ms) (n : ∀ a, tw_C g y d mc ms Q npc L (.ref a :: st) (kc + 1) (ks + N) (G a)) : tw_C g y d mc ms Q pc L (.int n0 :: st) kc ks (tw_na 0 N n0 G) := by
  intro M hF p e s m args below meth c H locs ls X hR hS hL
  obtain ⟨hdec, rfl⟩ := tw_dec X hd
  obtain ⟨h3, h4, h5⟩ := hF
  refine va_newaK (atype := .int) (tw_ex X) (tw_cd X) (tw_wd X hw rfl args) rfl hdec rfl h3 rfl (by show n0.toNatClampNeg * 4 ≤ _; omega) h1 (by show ks + n0.toNatClampNeg ≤ ms; omega) rfl fun H1 cA e1 z o1 hAr hNm => ?_
  have hcA : cA = g.2.2.2.2.2 0 := Option.some.inj (hNm.symm.trans (tw_arr X (k := 0) rfl).2)
  subst hcA
  rw [hR.2.1] at e1 ⊢
  refine W.widen (Nat.le_refl _) (show ks + n0.toNatClampNeg ≤ ks + N by omega) (n _ _ h5 p e s m args below meth c H1 locs ls X (hR.make z o1 rfl (fun b hb => tw_mk_at hb) fun x hx => ?_) (tw_mkS hS z o1) hL)
  simp only [tw_mk, if_true] at hx
  cases hx
  refine ⟨by show (tw_s0 g).heap.size ≤ _; rw [← hR.2.1]; exact hR.1, ?_⟩
  rw [e1]
  simp [tw_mk, newarray.typeOf, defaultValue]
theorem tw_newL {k : Nat} {n0 : Int32} (N : Nat) {G : Nat → tw_Mem → Prop} (hd : (tw_tb y)[k]? = some (pc, .newarray .long, 2, npc)) (hw : Cond.arrayClass .long ∈ lw_tbl) (hN : N * 8 ≤ 536870912) (h1 : kc + 1 ≤ mc) (h2 : ks + N ≤ ms) (n : ∀ a, tw_C g y d mc ms Q npc L (.ref a :: st) (kc + 1) (ks + N) (G a)) : tw_C g y d mc ms Q pc L (.int n0 :: st) kc ks (tw_na 1 N n0 G) := by
  intro M hF p e s m args below meth c H locs ls X hR hS hL
  obtain ⟨hdec, rfl⟩ := tw_dec X hd
  obtain ⟨h3, h4, h5⟩ := hF
  refine va_newaK (atype := .long) (tw_ex X) (tw_cd X) (tw_wd X hw rfl args) rfl hdec rfl h3 rfl (by show n0.toNatClampNeg * 8 ≤ _; omega) h1 (by show ks + n0.toNatClampNeg ≤ ms; omega) rfl fun H1 cA e1 z o1 hAr hNm => ?_
  have hcA : cA = g.2.2.2.2.2 1 := Option.some.inj (hNm.symm.trans (tw_arr X (k := 1) rfl).2)
  subst hcA
  rw [hR.2.1] at e1 ⊢
  refine W.widen (Nat.le_refl _) (show ks + n0.toNatClampNeg ≤ ks + N by omega) (n _ _ h5 p e s m args below meth c H1 locs ls X (hR.make z o1 rfl (fun b hb => tw_mk_at hb) fun x hx => ?_) (tw_mkS hS z o1) hL)
  simp only [tw_mk, if_true] at hx
  cases hx
  refine ⟨by show (tw_s0 g).heap.size ≤ _; rw [← hR.2.1]; exact hR.1, ?_⟩
  rw [e1]
  simp [tw_mk, newarray.typeOf, defaultValue]
theorem tw_newB {k : Nat} {n0 : Int32} (N : Nat) {G : Nat → tw_Mem → Prop} (hd : (tw_tb y)[k]? = some (pc, .newarray .byte, 2, npc)) (hw : Cond.arrayClass .byte ∈ lw_tbl) (hN : N * 8 ≤ 536870912) (h1 : kc + 1 ≤ mc) (h2 : ks + N ≤ ms) (n : ∀ a, tw_C g y d mc ms Q npc L (.ref a :: st) (kc + 1) (ks + N) (G a)) : tw_C g y d mc ms Q pc L (.int n0 :: st) kc ks (tw_na 2 N n0 G) := by
  intro M hF p e s m args below meth c H locs ls X hR hS hL
  obtain ⟨hdec, rfl⟩ := tw_dec X hd
  obtain ⟨h3, h4, h5⟩ := hF
  refine va_newaK (atype := .byte) (tw_ex X) (tw_cd X) (tw_wd X hw rfl args) rfl hdec rfl h3 rfl (by show n0.toNatClampNeg * 1 ≤ _; omega) h1 (by show ks + n0.toNatClampNeg ≤ ms; omega) rfl fun H1 cA e1 z o1 hAr hNm => ?_
  have hcA : cA = g.2.2.2.2.2 2 := Option.some.inj (hNm.symm.trans (tw_arr X (k := 2) rfl).2)
  subst hcA
  rw [hR.2.1] at e1 ⊢
  refine W.widen (Nat.le_refl _) (show ks + n0.toNatClampNeg ≤ ks + N by omega) (n _ _ h5 p e s m args below meth c H1 locs ls X (hR.make z o1 rfl (fun b hb => tw_mk_at hb) fun x hx => ?_) (tw_mkS hS z o1) hL)
  simp only [tw_mk, if_true] at hx
  cases hx
  refine ⟨by show (tw_s0 g).heap.size ≤ _; rw [← hR.2.1]; exact hR.1, ?_⟩
  rw [e1]
  simp [tw_mk, newarray.typeOf, defaultValue]
theorem tw_newT {k ix : Nat} {n0 : Int32} (N : Nat) {G : Nat → tw_Mem → Prop} (hd : (tw_tb y)[k]? = some (pc, .anewarray ix, 3, npc)) (hw : Cond.classLink y.1.cls ix RX8 ∈ lw_tbl) (hN : N * 8 ≤ 536870912) (h1 : kc + 1 ≤ mc) (h2 : ks + N ≤ ms) (hov : Cond.arrayOver (.object RX8) ∈ lw_tbl) (n : ∀ a, tw_C g y d mc ms Q npc L (.ref a :: st) (kc + 1) (ks + N) (G a)) : tw_C g y d mc ms Q pc L (.int n0 :: st) kc ks (tw_na 3 N n0 G) := by
  intro M hF p e s m args below meth c H locs ls X hR hS hL
  obtain ⟨hdec, rfl⟩ := tw_dec X hd
  obtain ⟨h3, h4, h5⟩ := hF
  have hov' : (Cond.arrayOver (.object RX8)).before args s = true := tw_over X hov args
  refine W.anew (C := RX8) (tw_ex X) (tw_cd X) (tw_ow X) (tw_wd X hw rfl args) hov' rfl hdec rfl h3 (by omega) h1 (by show ks + n0.toNatClampNeg ≤ ms; omega) fun cA kA comp q1 q2 q3 q4 => ?_
  have hcA : cA = g.2.2.2.2.2 3 := by
    obtain ⟨_, _, _, _, _, z⟩ := (tw_arr X (k := 3) rfl).2
    exact Option.some.inj (q1.symm.trans z)
  subst hcA
  have z : (H.push { cls := g.2.2.2.2.2 3, slots := Array.replicate n0.toNatClampNeg .null, vm := .none }).size = H.size + 1 := by simp
  have o1 : ∀ q, q < H.size → (H.push { cls := g.2.2.2.2.2 3, slots := Array.replicate n0.toNatClampNeg .null, vm := .none })[q]? = H[q]? := fun q hq => by rw [Array.getElem?_push, if_neg (Nat.ne_of_lt hq)]
  have e1 : (H.push { cls := g.2.2.2.2.2 3, slots := Array.replicate n0.toNatClampNeg .null, vm := .none })[H.size]? = some (arrV (g.2.2.2.2.2 3) n0.toNatClampNeg (fun _ => .null)) := by rw [← arrV_new]; simp
  generalize H.push { cls := g.2.2.2.2.2 3, slots := Array.replicate n0.toNatClampNeg .null, vm := .none } = H1 at z o1 e1 ⊢
  rw [hR.2.1] at e1 ⊢
  refine W.widen (Nat.le_refl _) (show ks + n0.toNatClampNeg ≤ ks + N by omega) (n _ _ h5 p e s m args below meth c H1 locs ls X (hR.make z o1 rfl (fun b hb => tw_mk_at hb) fun x hx => ?_) (tw_mkS hS z o1) hL)
  simp only [tw_mk, if_true] at hx
  cases hx
  refine ⟨by show (tw_s0 g).heap.size ≤ _; rw [← hR.2.1]; exact hR.1, ?_⟩
  rw [e1]
  rfl
/-- a new object of class t of the list -/
theorem tw_new {k ix : Nat} (t : Nat) {Cq : vw_C} {G : Nat → tw_Mem → Prop} (hd : (tw_tb y)[k]? = some (pc, .new ix, 3, npc)) (hq : tw_cl[t]? = some Cq) (hw : Cond.classLink y.1.cls ix Cq.1 ∈ lw_tbl) (h1 : kc + 1 ≤ mc) (h2 : ks + Cq.2.2 ≤ ms) (n : ∀ a, tw_C g y d mc ms Q npc L (.ref a :: st) (kc + 1) (ks + Cq.2.2) (G a)) : tw_C g y d mc ms Q pc L st kc ks (tw_nw t G) := by
  intro M hF p e s m args below meth c H locs ls X hR hS hL
  obtain ⟨hdec, rfl⟩ := tw_dec X hd
  have ht := tw_cl_lt hq
  obtain ⟨w1, w2⟩ := tw_inst t ht Cq hq
  have hKn := (tw_Kof X).1 t _ hq
  refine W.newcK (tw_ex X) (tw_cd X) (tw_ow X) (tw_wd X hw rfl args) (tw_wd X w1 rfl args) (tw_wd X w2 rfl args) rfl hdec h1 h2 hKn.2.1 rfl fun H1 kC hkC e1 z o1 => ?_
  rw [hR.2.1] at e1 ⊢
  refine n _ _ hF p e s m args below meth c H1 locs ls X (hR.make z o1 rfl (fun b hb => tw_mk_at hb) fun x hx => ?_) (tw_mkS hS z o1) hL
  simp only [tw_mk, if_true] at hx
  cases hx
  obtain ⟨ty0, f1, f2⟩ := tw_def t ht Cq hq
  refine ⟨by show (tw_s0 g).heap.size ≤ _; rw [← hR.2.1]; exact hR.1, Cq, hq, (u_born (args := args) ty0 (tw_tsOf X args) (tw_uig t ht Cq hq) hKn hkC e1 f1).to fun k hk => ?_⟩
  rw [f2 k hk]
  unfold tw_fv
  simp [tw_mk, va_rf]
end TWA
