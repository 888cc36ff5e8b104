/-! ===== the rules that touch the memory ===== -/
theorem tw_gl_nd : ∀ t, t < 12 → (tw_gl.getD t []).Nodup := by decide +kernel
theorem tw_cl_lt {t : Nat} {q : vw_C} (h : tw_cl[t]? = some q) : t < 12 := (List.getElem?_eq_some_iff.mp h).1
theorem tw_gl_ok : ∀ t, t < 12 → ∀ q, tw_cl[t]? = some q → (tw_gl.getD t []).length = q.2.2 ∧ ∀ j, j < q.2.2 → tw_fq (tw_gid t j) = ((q.2.1 j).1, (q.2.1 j).2.1, (q.2.1 j).2.2.1) := by
  intro t ht q hq
  match t, ht, hq with
  | 0, _, hq => cases hq; decide +kernel
  | 1, _, hq => cases hq; decide +kernel
  | 2, _, hq => cases hq; decide +kernel
  | 3, _, hq => cases hq; decide +kernel
  | 4, _, hq => cases hq; decide +kernel
  | 5, _, hq => cases hq; decide +kernel
  | 6, _, hq => cases hq; decide +kernel
  | 7, _, hq => cases hq; decide +kernel
  | 8, _, hq => cases hq; decide +kernel
  | 9, _, hq => cases hq; decide +kernel
  | 10, _, hq => cases hq; decide +kernel
  | 11, _, hq => cases hq; decide +kernel
theorem tw_ix_spec {t q j : Nat} (h : tw_ix t q = some j) : j < (tw_gl.getD t []).length ∧ tw_gid t j = q := by
  unfold tw_ix at h
  obtain ⟨hj, hb⟩ := List.findIdx?_eq_some_iff_getElem.mp h
  refine ⟨hj, ?_⟩
  unfold tw_gid
  rw [List.getD_eq_getElem?_getD, List.getElem?_eq_getElem hj]
  simpa using hb.1
/-- the words of a class's fields are words of the table -/
theorem tw_ui : ∀ t, t < 12 → ∀ q, tw_cl[t]? = some q → ∀ w ∈ u_ws q.1 q.2.1 q.2.2, w ∈ lw_tbl := by
  intro t ht q hq
  match t, ht, hq with
  | 0, _, hq => cases hq; decide +kernel
  | 1, _, hq => cases hq; decide +kernel
  | 2, _, hq => cases hq; decide +kernel
  | 3, _, hq => cases hq; decide +kernel
  | 4, _, hq => cases hq; decide +kernel
  | 5, _, hq => cases hq; decide +kernel
  | 6, _, hq => cases hq; decide +kernel
  | 7, _, hq => cases hq; decide +kernel
  | 8, _, hq => cases hq; decide +kernel
  | 9, _, hq => cases hq; decide +kernel
  | 10, _, hq => cases hq; decide +kernel
  | 11, _, hq => cases hq; decide +kernel
theorem tw_ty : ∀ t, t < 12 → ∀ q, tw_cl[t]? = some q → ∃ ty0 : Nat → FieldType, (∀ k, k < q.2.2 → parseFieldDescriptor (q.2.1 k).2.2.1 = some (ty0 k)) ∧ (∀ a, a < q.2.2 → ∀ b, b < q.2.2 → a ≠ b → (q.2.1 a).2.1 ≠ (q.2.1 b).2.1) := by
  intro t ht q hq
  match t, ht, hq with
  | 0, _, hq => cases hq; exact ⟨tyX0, tyX0_ok, nmX0⟩
  | 1, _, hq => cases hq; exact ⟨tyX1, tyX1_ok, nmX1⟩
  | 2, _, hq => cases hq; exact ⟨tyX2, tyX2_ok, nmX2⟩
  | 3, _, hq => cases hq; exact ⟨tyX3, tyX3_ok, nmX3⟩
  | 4, _, hq => cases hq; exact ⟨tyX4, tyX4_ok, nmX4⟩
  | 5, _, hq => cases hq; exact ⟨tyX5, tyX5_ok, nmX5⟩
  | 6, _, hq => cases hq; exact ⟨tyX6, tyX6_ok, nmX6⟩
  | 7, _, hq => cases hq; exact ⟨tyX8, tyX8_ok, nmX8⟩
  | 8, _, hq => cases hq; exact ⟨tyX9, tyX9_ok, nmX9⟩
  | 9, _, hq => cases hq; exact ⟨tyX10, tyX10_ok, nmX10⟩
  | 10, _, hq => cases hq; exact ⟨tyX11, tyX11_ok, nmX11⟩
  | 11, _, hq => cases hq; exact ⟨tyX12, tyX12_ok, nmX12⟩
theorem tw_Kof {g : tw_Gx} {y : tw_MD} {p : Program} {s : State} {m : MethodId} {meth : Method} {c : Code} (X : tw_Fx g y p s m meth c) : tw_K g s := by
  obtain ⟨-, -, h, -⟩ := tw_gk X
  exact va_K.moved (tw_wm X).alike h
theorem tw_tsOf {g : tw_Gx} {y : tw_MD} {p : Program} {s : State} {m : MethodId} {meth : Method} {c : Code} (X : tw_Fx g y p s m meth c) (args : Array Value) : ∀ w ∈ lw_tbl.filter goodWord, w.before args s = true := fun w hw => tw_wd X (List.mem_filter.mp hw).1 (List.mem_filter.mp hw).2 args
theorem tw_uig : ∀ t, t < 12 → ∀ q, tw_cl[t]? = some q → ∀ w ∈ u_ws q.1 q.2.1 q.2.2, w ∈ lw_tbl.filter goodWord := by
  intro t ht q hq w hw
  refine List.mem_filter.mpr ⟨tw_ui t ht q hq w hw, ?_⟩
  unfold u_ws at hw
  obtain ⟨k, -, rfl⟩ := List.mem_map.mp hw
  unfold u_lay
  split <;> rfl
/-- a field's link from a class -/
def tw_fl (own : String) (ix q : Nat) : Prop := Cond.fieldLink own ix (tw_fq q).1 (tw_fq q).2.1 (tw_fq q).2.2 ∈ lw_tbl ∨ ∃ h, Cond.fieldLinkNest own ix (tw_fq q).1 (tw_fq q).2.1 (tw_fq q).2.2 h ∈ lw_tbl
/-- an object with that field lies there -/
def tw_fo (sh : tw_Sh) (a q : Nat) (b : Bool) : Prop := ∃ x, sh a = some x ∧ 10 ≤ x.1 ∧ (tw_ix (x.1 - 10) q).isSome = true ∧ tw_rf q = b
def tw_gi (q a : Nat) (k : Int32 → tw_Mem → Prop) : tw_Mem → Prop := fun M => tw_fo M.1 a q false ∧ k (M.2.1 a q) M
def tw_rr (sh : tw_Sh) (a q : Nat) : Option Nat := (sh a).bind (fun x => x.2.2 q)
def tw_gr (q a : Nat) (k : Nat → tw_Mem → Prop) : tw_Mem → Prop := fun M => tw_fo M.1 a q true ∧ ∃ b, tw_rr M.1 a q = some b ∧ k b M
section TWM
variable {g : tw_Gx} {y : tw_MD} {d mc ms : Nat} {Q : tw_Rs → tw_Mem → Prop} {pc npc : Nat} {L : List (Option Value)} {st : List Value} {kc ks : Nat} {F : tw_Mem → Prop}
/-- what is known of an object's field -/
theorem tw_fieldAt {p : Program} {s : State} {m : MethodId} {meth : Method} {c : Code} {H : Heap} {M : tw_Mem} {a q : Nat} {b : Bool} (X : tw_Fx g y p s m meth c) (args : Array Value) (hR : tw_R g M s H) (h : tw_fo M.1 a q b) :
    ∃ (t n j : Nat) (r : Nat → Option Nat) (Cq : vw_C) (cell : Cell) (cf i : Nat) (kC kf : Class) (f : Field), M.1 a = some (t + 10, n, r) ∧ tw_rf q = b ∧ tw_A g a ∧ tw_cl[t]? = some Cq ∧ j < Cq.2.2 ∧ tw_gid t j = q ∧ tw_fq q = ((Cq.2.1 j).1, (Cq.2.1 j).2.1, (Cq.2.1 j).2.2.1) ∧
      H[a]? = some cell ∧ cell.cls = g.2.2.2.1 t ∧ cell.vm = .none ∧ (∀ k, k < Cq.2.2 → cell.slots[g.2.2.2.2.1 t k]? = some (tw_fv M a r t k)) ∧ s.vm.findClass Cq.1 = some (g.2.2.2.1 t) ∧ s.vm.classes[g.2.2.2.1 t]? = some kC ∧ kC.kind = .ordinary ∧
      s.fieldFound? (tw_fq q).1 (tw_fq q).2.1 (tw_fq q).2.2 = some (cf, kf, i, f) ∧ f.slot = g.2.2.2.2.1 t j ∧ f.isStatic = false := by
  obtain ⟨⟨t0, n, r⟩, h1, h2, h3, h4⟩ := h
  dsimp only at h2 h3
  obtain ⟨t, rfl⟩ : ∃ t, t0 = t + 10 := ⟨t0 - 10, by omega⟩
  rw [Nat.add_sub_cancel] at h3
  obtain ⟨j, hj⟩ := Option.isSome_iff_exists.mp h3
  obtain ⟨hj1, hj2⟩ := tw_ix_spec hj
  obtain ⟨hA, Cq, hc, cell, q1, q2, q3, q4⟩ : tw_ce g M s H a (t + 10, n, r) := hR.2.2.2 a _ h1
  have ht := tw_cl_lt hc
  obtain ⟨hlen, hnm⟩ := tw_gl_ok t ht Cq hc
  rw [hlen] at hj1
  have hq := hnm j hj1
  rw [hj2] at hq
  obtain ⟨hS, hfc, kC, hkC, hkind⟩ := (tw_Kof X).1 t _ hc
  obtain ⟨cf, kf, fi, f, hi, hsl⟩ := hS j hj1
  refine ⟨t, n, j, r, Cq, cell, cf, fi, kC, kf, f, h1, h4, hA, hc, hj1, hj2, hq, q1, q2, q3, q4, hfc, hkC, hkind, by rw [hq]; exact hi, hsl, ?_⟩
  exact (u_facts hfc hkC (u_lays (tw_tsOf X args) (tw_uig t ht Cq hc) hj1) hi).1
theorem tw_getf {p : Program} {e : Env} {s : State} {m : MethodId} {args : Array Value} {below : List Frame} {meth : Method} {c : Code} {H : Heap} {locs : List Loc} {ls : Array Slot} {R : Room} {Z : State → Prop} {ix q a : Nat} {v : Value} {cf i : Nat} {kf : Class} {f : Field} {cell : Cell}
    (X : tw_Fx g y p s m meth c) (hw : tw_fl y.1.cls ix q) (hi : s.fieldFound? (tw_fq q).1 (tw_fq q).2.1 (tw_fq q).2.2 = some (cf, kf, i, f)) (hst : f.isStatic = false) (hcell : H[a]? = some cell) (hvm : cell.vm = .none) (hv : cell.slots[f.slot]? = some v) (hdec : decode y.2.1 pc = .ok (.getfield ix, 3))
    (n : W p g.1 e R s m args below meth c H locs kc ks Z (F0 m (pc + 3) ls (v :: st))) : W p g.1 e R s m args below meth c H locs kc ks Z (F0 m pc ls (.ref a :: st)) := by
  rcases hw with hw | ⟨h, hw⟩
  · exact W.getf (tw_ex X) (tw_cd X) (tw_ow X) (tw_wd X hw rfl args) hi hst hcell (by rw [hvm]; exact fun z => by cases z) hv rfl rfl hdec n
  · obtain ⟨-, h0, -⟩ := tw_gk X
    exact va_Wgetf (tw_ex X) (tw_cd X) (tw_ow X) (va_Nw.use rfl (va_Nw.warmF (tw_wm X) (va_Nw.of rfl (h0 _ hw)))) hi hst hcell (by rw [hvm]; exact fun z => by cases z) hv rfl rfl hdec n
theorem tw_getI {k ix q a : Nat} {G : Int32 → tw_Mem → Prop} (hd : (tw_tb y)[k]? = some (pc, .getfield ix, 3, npc)) (hw : tw_fl y.1.cls ix q) (n : ∀ x, tw_C g y d mc ms Q npc L (.int x :: st) kc ks (G x)) : tw_C g y d mc ms Q pc L (.ref a :: st) kc ks (tw_gi q a G) := by
  intro M hF p e s m args below meth c H locs ls X hR hS hL
  obtain ⟨hdec, rfl⟩ := tw_dec X hd
  obtain ⟨h1, h2⟩ := hF
  obtain ⟨t, nn, j, r, Cq, cell, cf, i, kC, kf, f, e1, e2, e3, e4, e5, e6, e7, e8, e9, e10, e11, e12, e13, e14, e15, e16, e17⟩ := tw_fieldAt X args hR h1
  refine tw_getf X hw e15 e17 e8 e10 (v := .int (M.2.1 a q)) ?_ hdec (n _ M h2 p e s m args below meth c H locs ls X hR hS hL)
  rw [e16, e11 j e5]
  unfold tw_fv
  rw [e6, e2]
  rfl
theorem tw_getR {k ix q a : Nat} {G : Nat → tw_Mem → Prop} (hd : (tw_tb y)[k]? = some (pc, .getfield ix, 3, npc)) (hw : tw_fl y.1.cls ix q) (n : ∀ x, tw_C g y d mc ms Q npc L (.ref x :: st) kc ks (G x)) : tw_C g y d mc ms Q pc L (.ref a :: st) kc ks (tw_gr q a G) := by
  intro M hF p e s m args below meth c H locs ls X hR hS hL
  obtain ⟨hdec, rfl⟩ := tw_dec X hd
  obtain ⟨h1, b, h3, h2⟩ := hF
  obtain ⟨t, nn, j, r, Cq, cell, cf, i, kC, kf, f, e1, e2, e3, e4, e5, e6, e7, e8, e9, e10, e11, e12, e13, e14, e15, e16, e17⟩ := tw_fieldAt X args hR h1
  refine tw_getf X hw e15 e17 e8 e10 (v := .ref b) ?_ hdec (n _ M h2 p e s m args below meth c H locs ls X hR hS hL)
  rw [e16, e11 j e5]
  unfold tw_fv
  rw [e6, e2]
  have h4 : r q = some b := by
    unfold tw_rr at h3
    rw [e1] at h3
    exact h3
  rw [h4]
  rfl
end TWM
