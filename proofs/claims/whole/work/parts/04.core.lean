/-! ===== core: a small memory, and what a run of bytecode says of it ===== -/
abbrev tw_Sh : Type := Nat → Option (Nat × Nat × (Nat → Option Nat))
abbrev tw_Mem : Type := tw_Sh × (Nat → Nat → Int32) × (Nat → Nat → Int64) × Nat
/-- a method: its name, bytes, locals, return, decoded rows (pc, instruction, length, next pc), handlers -/
abbrev tw_MD : Type := MethodName × ByteArray × Nat × Option FieldType × List (Nat × Instr × Nat × Nat) × List (Nat × Nat × Nat × Nat)
abbrev tw_Rs : Type := Option Value ⊕ String
/-- the launch, the law's first state, the script's address, the classes' numbers, their slots, the arrays' classes -/
abbrev tw_Gx : Type := Launch × State × Addr × (Nat → ClassId) × (Nat → Nat → Nat) × (Nat → ClassId)
abbrev tw_s0 (g : tw_Gx) : State := g.2.1
abbrev tw_tb (y : tw_MD) : List (Nat × Instr × Nat × Nat) := y.2.2.2.2.1
abbrev tw_cl : List vw_C := [(RX0, TX0, 6), (RX1, TX1, 13), (RX2, TX2, 3), (RX3, TX3, 3), (RX4, TX4, 7), (RX5, TX5, 5), (RX6, TX6, 2), (RX8, TX8, 14), (RX9, TX9, 8), (RX10, TX10, 2), (RX11, TX11, 14), (RX12, TX12, 23)]
/-- the number of field j of class t: one number a declared field, wherever it is inherited -/
def tw_gl : List (List Nat) := [[0, 1, 2, 3, 4, 5], [6, 7, 8, 9, 10, 11, 12, 13, 14, 15, 16, 17, 18], [19, 20, 21], [22, 23, 24], [25, 26, 27, 28, 29, 30, 31], [32, 33, 34, 35, 36], [37, 38], [39, 40, 41, 42, 43, 44, 45, 46, 47, 48, 49, 50, 51, 52], [6, 7, 8, 9, 10, 11, 12, 53], [54, 55], [56, 57, 58, 59, 60, 61, 62, 63, 64, 65, 66, 67, 68, 69], [70, 71, 72, 73, 74, 75, 76, 77, 78, 79, 80, 81, 82, 83, 84, 85, 86, 87, 88, 89, 90, 91, 92]]
def tw_gid (t j : Nat) : Nat := (tw_gl.getD t []).getD j 0
def tw_ix (t q : Nat) : Option Nat := (tw_gl.getD t []).findIdx? (fun x => x == q)
/-- owner, name, descriptor of a numbered field -/
def tw_fq (q : Nat) : String × String × String := (([("TwinRopes$Law", "lines", "I"), ("TwinRopes$Law", "kinds", "[I"), ("TwinRopes$Law", "amounts", "[I"), ("TwinRopes$Law", "ends", "[I"), ("TwinRopes$Law", "steps", "[I"), ("TwinRopes$Law", "waiting", "[I"), ("TwinRopes$Text", "tape", "LTwinRopes$Tape;"), ("TwinRopes$Text", "kinds", "[I"), ("TwinRopes$Text", "values", "[I"), ("TwinRopes$Text", "begins", "[I"), ("TwinRopes$Text", "things", "I"), ("TwinRopes$Text", "next", "I"), ("TwinRopes$Text", "taken", "I"), ("TwinRopes$LawText", "lineKinds", "[I"), ("TwinRopes$LawText", "amounts", "[I"), ("TwinRopes$LawText", "ends", "[I"), ("TwinRopes$LawText", "steps", "[I"), ("TwinRopes$LawText", "lines", "I"), ("TwinRopes$LawText", "length", "I"), ("TwinRopes$Log", "rows", "[I"), ("TwinRopes$Log", "size", "I"), ("TwinRopes$Log", "next", "I"), ("TwinRopes$Memory", "towns", "[LTwinRopes$Town;"), ("TwinRopes$Memory", "size", "I"), ("TwinRopes$Memory", "next", "I"), ("TwinRopes$Pairs", "town", "LTwinRopes$Town;"), ("TwinRopes$Pairs", "two", "LTwinRopes$Two;"), ("TwinRopes$Pairs", "fitRings", "[I"), ("TwinRopes$Pairs", "fitPeople", "[I"), ("TwinRopes$Pairs", "fits", "I"), ("TwinRopes$Pairs", "heard", "I"), ("TwinRopes$Pairs", "unheard", "I"), ("TwinRopes$Sets", "rows", "[I"), ("TwinRopes$Sets", "worths", "[I"), ("TwinRopes$Sets", "most", "[I"), ("TwinRopes$Sets", "mates", "[I"), ("TwinRopes$Sets", "people", "I"), ("TwinRopes$Tape", "bytes", "[I"), ("TwinRopes$Tape", "length", "I"), ("TwinRopes$Town", "haunts", "[I"), ("TwinRopes$Town", "roams", "[I"), ("TwinRopes$Town", "pays", "[I"), ("TwinRopes$Town", "guesses", "[I"), ("TwinRopes$Town", "rungs", "[I"), ("TwinRopes$Town", "plan", "[I"), ("TwinRopes$Town", "log", "LTwinRopes$Log;"), ("TwinRopes$Town", "people", "I"), ("TwinRopes$Town", "sworn", "I"), ("TwinRopes$Town", "hour", "I"), ("TwinRopes$Town", "day", "I"), ("TwinRopes$Town", "doubt", "I"), ("TwinRopes$Town", "seed", "I"), ("TwinRopes$Town", "texts", "I"), ("TwinRopes$TownText", "town", "LTwinRopes$Town;"), ("TwinRopes$Two", "values", "[I"), ("TwinRopes$Two", "doubt", "I"), ("TwinRopes", "tape", "LTwinRopes$Tape;"), ("TwinRopes", "town", "LTwinRopes$Town;"), ("TwinRopes", "scratch", "LTwinRopes$Town;"), ("TwinRopes", "kept", "LTwinRopes$Town;"), ("TwinRopes", "memory", "LTwinRopes$Memory;"), ("TwinRopes", "townText", "LTwinRopes$TownText;"), ("TwinRopes", "lawText", "LTwinRopes$LawText;"), ("TwinRopes", "two", "LTwinRopes$Two;"), ("TwinRopes", "pairs", "LTwinRopes$Pairs;"), ("TwinRopes", "sets", "LTwinRopes$Sets;"), ("TwinRopes", "law", "LTwinRopes$Law;"), ("TwinRopes", "keptLaw", "LTwinRopes$Law;"), ("TwinRopes", "hasImage", "Z"), ("TwinRopes", "fault", "I"), ("TwinRopesModel", "thrown", "I"), ("TwinRopesModel", "world", "[I"), ("TwinRopesModel", "image", "[I"), ("TwinRopesModel", "earlier", "[I"), ("TwinRopesModel", "trial", "[I"), ("TwinRopesModel", "acts", "[I"), ("TwinRopesModel", "hasImage", "Z"), ("TwinRopesModel", "remembered", "I"), ("TwinRopesModel", "tape", "[B"), ("TwinRopesModel", "taped", "I"), ("TwinRopesModel", "point", "I"), ("TwinRopesModel", "end", "I"), ("TwinRopesModel", "begin", "I"), ("TwinRopesModel", "deep", "I"), ("TwinRopesModel", "faultAt", "I"), ("TwinRopesModel", "five", "[I"), ("TwinRopesModel", "steps", "I"), ("TwinRopesModel", "value", "[I"), ("TwinRopesModel", "rang", "Z"), ("TwinRopesModel", "lasting", "[I"), ("TwinRopesModel", "together", "[I"), ("TwinRopesModel", "ringing", "[I"), ("TwinRopesModel", "ways", "[J")] : List (String × String × String)).getD q ("", "", ""))
/-- whether a numbered field holds a reference -/
def tw_rf (q : Nat) : Bool := ([false, true, true, true, true, true, true, true, true, true, false, false, false, true, true, true, true, false, false, true, false, false, true, false, false, true, true, true, true, false, false, false, true, true, true, true, false, true, false, true, true, true, true, true, true, true, false, false, false, false, false, false, false, true, true, false, true, true, true, true, true, true, true, true, true, true, true, true, false, false, false, true, true, true, true, true, false, false, true, false, false, false, false, false, false, true, false, true, false, true, true, true, true] : List Bool).getD q false
def tw_A (g : tw_Gx) : Nat → Prop := fun q => (tw_s0 g).heap.size ≤ q
def tw_K (g : tw_Gx) (U : State) : Prop := va_K (g.2.2.2.1, g.2.2.2.2.1) tw_cl [(g.2.2.2.2.2 0, .int), (g.2.2.2.2.2 1, .long), (g.2.2.2.2.2 2, .byte), (g.2.2.2.2.2 3, .object RX8)] U
/-- what a field of an object holds -/
def tw_fv (M : tw_Mem) (a : Nat) (r : Nat → Option Nat) (t j : Nat) : Value := if tw_rf (tw_gid t j) = true then va_rf (r (tw_gid t j)) else .int (M.2.1 a (tw_gid t j))
/-- a cell of the small memory, in the machine's heap -/
def tw_ce (g : tw_Gx) (M : tw_Mem) (U : State) (H : Heap) (a : Nat) (x : Nat × Nat × (Nat → Option Nat)) : Prop := match x.1 with
  | 0 => tw_A g a ∧ H[a]? = some (arrV (g.2.2.2.2.2 0) x.2.1 (fun j => .int (M.2.1 a j)))
  | 1 => tw_A g a ∧ H[a]? = some (arrV (g.2.2.2.2.2 1) x.2.1 (fun j => .long (M.2.2.1 a j)))
  | 2 => tw_A g a ∧ H[a]? = some (arrV (g.2.2.2.2.2 2) x.2.1 (fun j => .int (M.2.1 a j)))
  | 3 => tw_A g a ∧ H[a]? = some (arrV (g.2.2.2.2.2 3) x.2.1 (fun j => va_rf (x.2.2 j)))
  | 4 => va_T .int a x.2.1 (fun j => .int (M.2.1 a j)) (tw_A g) U H
  | 5 => va_T .byte a x.2.1 (fun j => .int (M.2.1 a j)) (tw_A g) U H
  | 6 => va_O "java/lang/String" a (tw_A g) U H ∧ va_OF "java/lang/String" "coder" "B" (.int (M.2.1 a 0)) a (tw_A g) U H ∧ ∃ v : Nat, x.2.2 1 = some v ∧ va_OF "java/lang/String" "value" "[B" (.ref v) a (tw_A g) U H
  | 7 => True
  | 8 => True
  | 9 => True
  | t + 10 => tw_A g a ∧ ∃ q : vw_C, tw_cl[t]? = some q ∧ t_OB a (g.2.2.2.1 t) q.2.2 (g.2.2.2.2.1 t) H (tw_fv M a x.2.2 t)
/-- the small memory, in the machine's heap -/
def tw_R (g : tw_Gx) (M : tw_Mem) (U : State) (H : Heap) : Prop :=
  (tw_s0 g).heap.size ≤ H.size ∧ H.size = M.2.2.2 ∧ (∀ q, q < (tw_s0 g).heap.size → H[q]? = (tw_s0 g).heap[q]?) ∧ ∀ a x, M.1 a = some x → tw_ce g M U H a x
def tw_xs : List String := ["java/lang/IllegalArgumentException", "java/lang/IllegalStateException", "java/lang/IndexOutOfBoundsException", "java/lang/UnsupportedOperationException", "java/util/NoSuchElementException"]
/-- what holds of the law's first state -/
def tw_ok (g : tw_Gx) : Prop :=
  g.1.stackTraces = false ∧ (∀ w ∈ lw_tbl, w.before #[.ref g.2.2.1] (tw_s0 g) = true) ∧ tw_K g (tw_s0 g) ∧
  vx_Zq Bundle.tN "UNASSIGNED_STACK" Bundle.steD (tw_A g) (tw_s0 g) (tw_s0 g).heap ∧ vx_Zq Bundle.tN "SUPPRESSED_SENTINEL" Bundle.listD (tw_A g) (tw_s0 g) (tw_s0 g).heap ∧
  va_Z "java/lang/String" "COMPACT_STRINGS" "Z" (.int 1) (tw_A g) (tw_s0 g) (tw_s0 g).heap ∧ va_Zq "jdk/internal/util/Preconditions" "SIOOBE_FORMATTER" "Ljava/util/function/BiFunction;" (tw_A g) (tw_s0 g) (tw_s0 g).heap ∧
  (∀ own k tx, Cond.stringRef own k tx ∈ lw_tbl → ∃ a, vk_R own k tx a (tw_s0 g)) ∧ ∀ E ∈ tw_xs, ∀ n ∈ tw_xs, E ≠ n → va_Nc E n (tw_s0 g)
def tw_rm (d mc ms : Nat) : Room := { frames := d, cells := mc, slots := ms, locals := 64 * d }
/-- the locals, by their places -/
def tw_lv (ls : Array Slot) (n : Nat) (L : List (Option Value)) : Prop := ls.size = n ∧ lv_wf ls ∧ L.length = n ∧ ∀ (i : Nat) (v : Value), L[i]? = some (some v) → ls[i]? = some (Slot.val v)
def tw_Fx (g : tw_Gx) (y : tw_MD) (p : Program) (s : State) (m : MethodId) (meth : Method) (c : Code) : Prop :=
  tw_ok g ∧ p.tables.exec = Jvm.exec ∧ c.code = y.2.1 ∧ c.maxLocals = y.2.2.1 ∧ meth.sig.returnType = y.2.2.2.1 ∧ meth.locks = false ∧ s.vm.findClass y.1.cls = some m.cls ∧ meth.name = y.1.name ∧ ((tw_s0 g).WarmedH s.vm ∧ (tw_s0 g).heap.size ≤ s.heap.size ∧ ∀ q, q < (tw_s0 g).heap.size → s.heap[q]? = (tw_s0 g).heap[q]?) ∧
  c.exceptionTable.toList = tableOf y.2.2.2.2.2 ∧ ∀ q ∈ tw_tb y, decode y.2.1 q.1 = .ok (q.2.1, q.2.2.1) ∧ q.2.2.2 = q.1 + q.2.2.1
def tw_Qc (g : tw_Gx) (Q : tw_Rs → tw_Mem → Prop) : Array Value → State → Outcome → State → Prop := fun _ st oc t => (∃ v M, oc = .returned v ∧ Q (.inl v) M ∧ tw_R g M t t.heap) ∧ va_F (tw_A g) st t
def tw_Xc (g : tw_Gx) (Q : tw_Rs → tw_Mem → Prop) : String → State → State → Prop := fun E st t => (∃ M, Q (.inr E) M ∧ tw_R g M t t.heap) ∧ va_F (tw_A g) st t
/-- from pc with these locals and this stack, kc cells and ks slots made so far: F of the memory is enough for Q at the method's end -/
def tw_C (g : tw_Gx) (y : tw_MD) (d mc ms : Nat) (Q : tw_Rs → tw_Mem → Prop) (pc : Nat) (L : List (Option Value)) (st : List Value) (kc ks : Nat) (F : tw_Mem → Prop) : Prop :=
  ∀ M : tw_Mem, F M → ∀ (p : Program) (e : Env) (s : State) (m : MethodId) (args : Array Value) (below : List Frame) (meth : Method) (c : Code) (H : Heap) (locs : List Loc) (ls : Array Slot),
    tw_Fx g y p s m meth c → tw_R g M s H → va_S (tw_A g) s.heap H locs → tw_lv ls y.2.2.1 L →
    W p g.1 e (tw_rm d mc ms) s m args below meth c H locs kc ks (vx_MQ below (tw_Qc g Q) (tw_Xc g Q) args s mc ms (tw_A g)) (F0 m pc ls st)
/-- .. and where an exception of class E is thrown over the frame at pc -/
def tw_CX (g : tw_Gx) (y : tw_MD) (d mc ms : Nat) (Q : tw_Rs → tw_Mem → Prop) (pc : Nat) (L : List (Option Value)) (st : List Value) (kc ks : Nat) (E : String) (F : tw_Mem → Prop) : Prop :=
  ∀ M : tw_Mem, F M → ∀ (p : Program) (e : Env) (s : State) (m : MethodId) (args : Array Value) (below : List Frame) (meth : Method) (c : Code) (H : Heap) (locs : List Loc) (ls : Array Slot) (q : Addr) (ce : Cell),
    tw_Fx g y p s m meth c → tw_R g M s H → va_S (tw_A g) s.heap H locs → tw_lv ls y.2.2.1 L → H[q]? = some ce → ce.vm = .none → s.vm.findClass E = some ce.cls →
    vx_W p g.1 e (tw_rm d mc ms) s m args below meth c H locs kc ks (vx_MQ below (tw_Qc g Q) (tw_Xc g Q) args s mc ms (tw_A g)) (F0 m pc ls st) q
/-- a method's contract -/
def tw_Kt (g : tw_Gx) (y : tw_MD) (d mc ms : Nat) (av : List Value) (Q : tw_Rs → tw_Mem → Prop) (P : tw_Mem → Prop) : Prop :=
  tw_ok g → ∀ M, P M → vx_Met g.1 y.1 [.code y.1 y.2.1 y.2.2.1 y.2.2.2.1] (tw_rm d mc ms) (va_Pc av (fun U => (tw_s0 g).WarmedH U.vm ∧ tw_R g M U U.heap)) (tw_Qc g Q) (tw_Xc g Q) mc ms (tw_A g)
/-! small facts -/
theorem tw_word {g : tw_Gx} (hk : tw_ok g) {w : Cond} (hw : w ∈ lw_tbl) (hg : goodWord w = true) {U : State} (hW : (tw_s0 g).WarmedH U.vm) (args : Array Value) : w.before args U = true :=
  word_at hW (good_of_word hg) (hk.2.1 w hw)
theorem tw_ce.moved {g : tw_Gx} {M : tw_Mem} {u U : State} {H : Heap} {a : Nat} {x : Nat × Nat × (Nat → Option Nat)} (hvm : u.vm.Alike U.vm) (h : tw_ce g M u H a x) : tw_ce g M U H a x := by
  obtain ⟨t, n, r⟩ := x
  match t, h with
  | 0, h => exact h
  | 1, h => exact h
  | 2, h => exact h
  | 3, h => exact h
  | 4, h => exact va_T.moved hvm h
  | 5, h => exact va_T.moved hvm h
  | 6, h => obtain ⟨h1, h2, v, h3, h4⟩ := h; exact ⟨h1.moved hvm, h2.moved hvm, v, h3, h4.moved hvm⟩
  | 7, h => exact h
  | 8, h => exact h
  | 9, h => exact h
  | t + 10, h => exact h
theorem tw_R.moved {g : tw_Gx} {M : tw_Mem} {u U : State} {H : Heap} (hvm : u.vm.Alike U.vm) (h : tw_R g M u H) : tw_R g M U H := ⟨h.1, h.2.1, h.2.2.1, fun a x hx => (h.2.2.2 a x hx).moved hvm⟩
/-- a cell that lies as it lay, of a memory that is the same there -/
theorem tw_ce.kept {g : tw_Gx} {M M' : tw_Mem} {U : State} {H H' : Heap} {a : Nat} {x : Nat × Nat × (Nat → Option Nat)} (h : tw_ce g M U H a x) (h1 : H'[a]? = H[a]?) (h2 : M'.2.1 a = M.2.1 a) (h3 : M'.2.2.1 a = M.2.2.1 a) (hq : ∀ q : Nat, q < H.size → ¬ tw_A g q → H'[q]? = H[q]?) : tw_ce g M' U H' a x := by
  obtain ⟨t, n, r⟩ := x
  match t, h with
  | 0, h => obtain ⟨ha, h⟩ := h; refine ⟨ha, ?_⟩; show _ = some (arrV _ _ (fun j => .int (M'.2.1 a j))); rw [h1, h2]; exact h
  | 1, h => obtain ⟨ha, h⟩ := h; refine ⟨ha, ?_⟩; show _ = some (arrV _ _ (fun j => .long (M'.2.2.1 a j))); rw [h1, h3]; exact h
  | 2, h => obtain ⟨ha, h⟩ := h; refine ⟨ha, ?_⟩; show _ = some (arrV _ _ (fun j => .int (M'.2.1 a j))); rw [h1, h2]; exact h
  | 3, h => obtain ⟨ha, h⟩ := h; refine ⟨ha, ?_⟩; show _ = some (arrV _ _ (fun j => va_rf (r j))); rw [h1]; exact h
  | 4, h => show va_T .int a n (fun j => .int (M'.2.1 a j)) (tw_A g) U H'; rw [h2]; exact va_T.kept h hq
  | 5, h => show va_T .byte a n (fun j => .int (M'.2.1 a j)) (tw_A g) U H'; rw [h2]; exact va_T.kept h hq
  | 6, h =>
    obtain ⟨g1, g2, v, g3, g4⟩ := h
    refine ⟨g1.kept hq, ?_, v, g3, g4.kept hq⟩
    rw [h2]; exact g2.kept hq
  | 7, h => exact h
  | 8, h => exact h
  | 9, h => exact h
  | t + 10, h =>
    obtain ⟨ha, q, g1, g2⟩ := h
    refine ⟨ha, q, g1, (g2.kept h1).to fun k _ => ?_⟩
    unfold tw_fv
    rw [h2]
theorem tw_ce.lt {g : tw_Gx} {M : tw_Mem} {U : State} {H : Heap} {a : Nat} {x : Nat × Nat × (Nat → Option Nat)} (h : tw_ce g M U H a x) (h7 : x.1 ≠ 7) (h8 : x.1 ≠ 8) (h9 : x.1 ≠ 9) : a < H.size := by
  obtain ⟨t, n, r⟩ := x
  match t, h, h7, h8, h9 with
  | 0, h, _, _, _ => exact (Array.getElem?_eq_some_iff.mp h.2).1
  | 1, h, _, _, _ => exact (Array.getElem?_eq_some_iff.mp h.2).1
  | 2, h, _, _, _ => exact (Array.getElem?_eq_some_iff.mp h.2).1
  | 3, h, _, _, _ => exact (Array.getElem?_eq_some_iff.mp h.2).1
  | 4, h, _, _, _ => obtain ⟨c, h, -⟩ := h; exact (Array.getElem?_eq_some_iff.mp h).1
  | 5, h, _, _, _ => obtain ⟨c, h, -⟩ := h; exact (Array.getElem?_eq_some_iff.mp h).1
  | 6, h, _, _, _ => obtain ⟨⟨c, h, -⟩, -⟩ := h; exact (Array.getElem?_eq_some_iff.mp h).1
  | 7, h, h7, _, _ => exact absurd rfl h7
  | 8, h, _, h8, _ => exact absurd rfl h8
  | 9, h, _, _, h9 => exact absurd rfl h9
  | t + 10, h, _, _, _ => obtain ⟨_, q, _, c, h, -⟩ := h; exact (Array.getElem?_eq_some_iff.mp h).1
/-- storing: the memory with one int changed -/
def tw_up (f : Nat → Nat → Int32) (a k : Nat) (v : Int32) : Nat → Nat → Int32 := fun b j => if b = a then (if j = k then v else f b j) else f b j
def tw_upL (f : Nat → Nat → Int64) (a k : Nat) (v : Int64) : Nat → Nat → Int64 := fun b j => if b = a then (if j = k then v else f b j) else f b j
def tw_upR (sh : tw_Sh) (a k : Nat) (v : Option Nat) : tw_Sh := fun b => if b = a then (sh b).map (fun x => (x.1, x.2.1, fun j => if j = k then v else x.2.2 j)) else sh b
theorem tw_up_ne {f : Nat → Nat → Int32} {a k b : Nat} {v : Int32} (h : b ≠ a) : tw_up f a k v b = f b := by funext j; simp [tw_up, h]
theorem tw_upL_ne {f : Nat → Nat → Int64} {a k b : Nat} {v : Int64} (h : b ≠ a) : tw_upL f a k v b = f b := by funext j; simp [tw_upL, h]
/-- the rest of the memory behind a write at a -/
theorem tw_R.put {g : tw_Gx} {M M' : tw_Mem} {U : State} {H H' : Heap} {a : Nat} (h : tw_R g M U H) (hA : tw_A g a) (hsz : H'.size = H.size) (hoq : ∀ q : Nat, q ≠ a → H'[q]? = H[q]?) (hn : M'.2.2.2 = M.2.2.2)
    (h1 : ∀ b, b ≠ a → M'.1 b = M.1 b ∧ M'.2.1 b = M.2.1 b ∧ M'.2.2.1 b = M.2.2.1 b) (ha : ∀ x, M'.1 a = some x → tw_ce g M' U H' a x) : tw_R g M' U H' := by
  obtain ⟨r1, r2, r3, r4⟩ := h
  have hq : ∀ q : Nat, ¬ tw_A g q → H'[q]? = H[q]? := fun q hq => hoq q (fun e => hq (by rw [e]; exact hA))
  refine ⟨by rw [hsz]; exact r1, by rw [hsz, hn]; exact r2, fun q h => (hq q (Nat.not_le.mpr h)).trans (r3 q h), fun b x hx => ?_⟩
  by_cases e : b = a
  · subst e; exact ha x hx
  · obtain ⟨e1, e2, e3⟩ := h1 b e
    rw [e1] at hx
    exact (r4 b x hx).kept (hoq b e) e2 e3 (fun q _ => hq q)
/-- behind a making at the heap's end -/
theorem tw_R.make {g : tw_Gx} {M M' : tw_Mem} {U : State} {H H' : Heap} (h : tw_R g M U H) (hsz : H'.size = H.size + 1) (hoq : ∀ q : Nat, q < H.size → H'[q]? = H[q]?) (hn : M'.2.2.2 = M.2.2.2 + 1)
    (h1 : ∀ b, b ≠ M.2.2.2 → M'.1 b = M.1 b ∧ M'.2.1 b = M.2.1 b ∧ M'.2.2.1 b = M.2.2.1 b) (ha : ∀ x, M'.1 M.2.2.2 = some x → tw_ce g M' U H' M.2.2.2 x) : tw_R g M' U H' := by
  obtain ⟨r1, r2, r3, r4⟩ := h
  refine ⟨by omega, by omega, fun q h => (hoq q (by omega)).trans (r3 q h), fun b x hx => ?_⟩
  by_cases e : b = M.2.2.2
  · subst e; exact ha x hx
  · obtain ⟨e1, e2, e3⟩ := h1 b e
    rw [e1] at hx
    have hc := r4 b x hx
    by_cases e7 : x.1 = 7 ∨ x.1 = 8 ∨ x.1 = 9
    · obtain ⟨t, n, r⟩ := x
      rcases e7 with rfl | rfl | rfl <;> exact hc
    · have hlt := hc.lt (fun z => e7 (Or.inl z)) (fun z => e7 (Or.inr (Or.inl z))) (fun z => e7 (Or.inr (Or.inr z)))
      exact hc.kept (hoq b hlt) e2 e3 (fun q hq _ => hoq q hq)
theorem tw_lv.get {ls : Array Slot} {n : Nat} {L : List (Option Value)} (h : tw_lv ls n L) {i : Nat} {v : Value} (hi : L[i]? = some (some v)) : ls[i]? = some (Slot.val v) := h.2.2.2 i v hi
/-- L as a list of places and values -/
def tw_pl (L : List (Option Value)) : List (Nat × Value) := (List.range L.length).filterMap (fun i => (L[i]?.join).map (fun v => (i, v)))
theorem tw_pl_mem {L : List (Option Value)} {i : Nat} {v : Value} : (i, v) ∈ tw_pl L ↔ L[i]? = some (some v) := by
  unfold tw_pl
  rw [List.mem_filterMap]
  constructor
  · rintro ⟨j, hj, h⟩
    cases hv : L[j]? with
    | none => rw [hv] at h; simp at h
    | some o =>
      rw [hv] at h
      cases o with
      | none => simp at h
      | some w =>
        simp at h
        obtain ⟨rfl, rfl⟩ := h
        exact hv
  · intro h
    have hlt : i < L.length := (List.getElem?_eq_some_iff.mp h).1
    exact ⟨i, List.mem_range.mpr hlt, by rw [h]; rfl⟩
theorem tw_lv.has {ls : Array Slot} {n : Nat} {L : List (Option Value)} (h : tw_lv ls n L) : lv_has ls n (tw_pl L) := ⟨h.1, h.2.1, fun q hq => h.2.2.2 q.1 q.2 (tw_pl_mem.mp hq)⟩
/-- the place ahead of i holds no long -/
def tw_okL (L : List (Option Value)) (i : Nat) : Bool := match i with
  | 0 => true
  | i + 1 => match L[i]? with
    | some (some (.long _)) => false
    | some (some (.double _)) => false
    | _ => true
theorem tw_okL_spec {L : List (Option Value)} {i j : Nat} {w : Value} (h : tw_okL L i = true) (hj : L[j]? = some (some w)) (hji : j + 1 = i) : ¬ w.category = 2 := by
  subst hji
  unfold tw_okL at h
  simp only [hj] at h
  cases w <;> simp [Value.category] at h ⊢
theorem tw_lv.set1 {ls ls' : Array Slot} {n i : Nat} {L : List (Option Value)} {v : Value} (h : tw_lv ls n L) (ho : tw_okL L i = true) (h' : lv_has ls' n ((i, v) :: (tw_pl L).filter (fun q => !(q.1 == i) && !(q.1 + 1 == i && q.2.category == 2)))) : tw_lv ls' n (L.set i (some v)) := by
  obtain ⟨h1, h2, h3⟩ := h'
  refine ⟨h1, h2, by rw [List.length_set]; exact h.2.2.1, fun j w hj => ?_⟩
  rw [List.getElem?_set] at hj
  by_cases e : i = j
  · subst e
    simp only [if_true] at hj
    split at hj
    · cases hj; exact h3 (i, v) List.mem_cons_self
    · cases hj
  · rw [if_neg e] at hj
    refine h3 (j, w) (List.mem_cons_of_mem _ (List.mem_filter.mpr ⟨tw_pl_mem.mpr hj, ?_⟩))
    have hne : ¬ j = i := fun q => e q.symm
    by_cases e2 : j + 1 = i
    · have := tw_okL_spec ho hj e2
      simp [hne, this]
    · simp [hne, e2]
theorem tw_lv.set2 {ls ls' : Array Slot} {n i : Nat} {L : List (Option Value)} {v : Value} (h : tw_lv ls n L) (ho : tw_okL L i = true) (h' : lv_has ls' n ((i, v) :: (tw_pl L).filter (fun q => !(q.1 == i) && (!(q.1 == i + 1) && !(q.1 + 1 == i && q.2.category == 2))))) : tw_lv ls' n ((L.set i (some v)).set (i + 1) none) := by
  obtain ⟨h1, h2, h3⟩ := h'
  refine ⟨h1, h2, by rw [List.length_set, List.length_set]; exact h.2.2.1, fun j w hj => ?_⟩
  rw [List.getElem?_set, List.getElem?_set] at hj
  by_cases e : i + 1 = j
  · subst e
    simp only [if_true] at hj
    split at hj <;> cases hj
  · rw [if_neg e] at hj
    by_cases e1 : i = j
    · subst e1
      simp only [if_true] at hj
      split at hj
      · cases hj; exact h3 (i, v) List.mem_cons_self
      · cases hj
    · rw [if_neg e1] at hj
      refine h3 (j, w) (List.mem_cons_of_mem _ (List.mem_filter.mpr ⟨tw_pl_mem.mpr hj, ?_⟩))
      have hne : ¬ j = i := fun q => e1 q.symm
      have hne2 : ¬ j = i + 1 := fun q => e q.symm
      by_cases e2 : j + 1 = i
      · have := tw_okL_spec ho hj e2
        simp [hne, hne2, this]
      · simp [hne, hne2, e2]
