theorem tw_nne {x z : Int32} (h : ¬ x = z) : ¬ x = z := h
theorem tw_pne {x z : Int32} (h : x = z) : x = z := h
theorem tw_nge {x z : Int32} (h : z ≤ x) : ¬ x < z := Int32.not_lt.mpr h
theorem tw_pge {x z : Int32} (h : ¬ z ≤ x) : x < z := Int32.not_le.mp h
theorem tw_nle {x z : Int32} (h : x ≤ z) : ¬ z < x := Int32.not_lt.mpr h
theorem tw_ple {x z : Int32} (h : ¬ x ≤ z) : z < x := Int32.not_le.mp h
section TWR
variable {g : tw_Gx} {y : tw_MD} {d mc ms : Nat} {Q : tw_Rs → tw_Mem → Prop} {pc npc : Nat} {L : List (Option Value)} {st : List Value} {kc ks : Nat} {F : tw_Mem → Prop}
theorem tw_dec {p : Program} {s : State} {m : MethodId} {meth : Method} {c : Code} (X : tw_Fx g y p s m meth c) {k pc : Nat} {i : Instr} {len npc : Nat} (hd : (tw_tb y)[k]? = some (pc, i, len, npc)) : decode y.2.1 pc = .ok (i, len) ∧ npc = pc + len := by
  obtain ⟨-, -, -, -, -, -, -, -, -, -, h⟩ := X
  have h1 := h _ (List.mem_of_getElem? hd)
  dsimp only at h1
  exact h1
theorem tw_ex {p : Program} {s : State} {m : MethodId} {meth : Method} {c : Code} (X : tw_Fx g y p s m meth c) : p.tables.exec = Jvm.exec := by obtain ⟨-, h, -⟩ := X; exact h
theorem tw_cd {p : Program} {s : State} {m : MethodId} {meth : Method} {c : Code} (X : tw_Fx g y p s m meth c) : c.code = y.2.1 := by obtain ⟨-, -, h, -⟩ := X; exact h
theorem tw_ow {p : Program} {s : State} {m : MethodId} {meth : Method} {c : Code} (X : tw_Fx g y p s m meth c) : s.vm.findClass y.1.cls = some m.cls := by obtain ⟨-, -, -, -, -, -, h, -⟩ := X; exact h
theorem tw_gk {p : Program} {s : State} {m : MethodId} {meth : Method} {c : Code} (X : tw_Fx g y p s m meth c) : tw_ok g := by obtain ⟨h, -⟩ := X; exact h
theorem tw_wm {p : Program} {s : State} {m : MethodId} {meth : Method} {c : Code} (X : tw_Fx g y p s m meth c) : (tw_s0 g).WarmedH s.vm := by obtain ⟨-, -, -, -, -, -, -, -, h, -⟩ := X; exact h.1
theorem tw_sz {p : Program} {s : State} {m : MethodId} {meth : Method} {c : Code} (X : tw_Fx g y p s m meth c) : (tw_s0 g).heap.size ≤ s.heap.size ∧ ∀ q, q < (tw_s0 g).heap.size → s.heap[q]? = (tw_s0 g).heap[q]? := by obtain ⟨-, -, -, -, -, -, -, -, h, -⟩ := X; exact h.2
theorem tw_wd {p : Program} {s : State} {m : MethodId} {meth : Method} {c : Code} (X : tw_Fx g y p s m meth c) {w : Cond} (hw : w ∈ lw_tbl) (hg : goodWord w = true) (args : Array Value) : w.before args s = true := tw_word (tw_gk X) hw hg (tw_wm X) args

theorem tw_iadd {k : Nat} {x z : Int32} (hd : (tw_tb y)[k]? = some (pc, .iadd, 1, npc)) (n : tw_C g y d mc ms Q npc L (.int (x + z) :: st) kc ks F) : tw_C g y d mc ms Q pc L (.int z :: .int x :: st) kc ks F := by
  intro M hF p e s m args below meth c H locs ls X hR hS hL
  obtain ⟨hdec, rfl⟩ := tw_dec X hd
  exact lv_iadd (tw_ex X) (tw_cd X) hdec (n M hF p e s m args below meth c H locs ls X hR hS hL)
theorem tw_isub {k : Nat} {x z : Int32} (hd : (tw_tb y)[k]? = some (pc, .isub, 1, npc)) (n : tw_C g y d mc ms Q npc L (.int (x - z) :: st) kc ks F) : tw_C g y d mc ms Q pc L (.int z :: .int x :: st) kc ks F := by
  intro M hF p e s m args below meth c H locs ls X hR hS hL
  obtain ⟨hdec, rfl⟩ := tw_dec X hd
  exact lv_isub (tw_ex X) (tw_cd X) hdec (n M hF p e s m args below meth c H locs ls X hR hS hL)
theorem tw_imul {k : Nat} {x z : Int32} (hd : (tw_tb y)[k]? = some (pc, .imul, 1, npc)) (n : tw_C g y d mc ms Q npc L (.int (x * z) :: st) kc ks F) : tw_C g y d mc ms Q pc L (.int z :: .int x :: st) kc ks F := by
  intro M hF p e s m args below meth c H locs ls X hR hS hL
  obtain ⟨hdec, rfl⟩ := tw_dec X hd
  exact lv_imul (tw_ex X) (tw_cd X) hdec (n M hF p e s m args below meth c H locs ls X hR hS hL)
theorem tw_iand {k : Nat} {x z : Int32} (hd : (tw_tb y)[k]? = some (pc, .iand, 1, npc)) (n : tw_C g y d mc ms Q npc L (.int (x &&& z) :: st) kc ks F) : tw_C g y d mc ms Q pc L (.int z :: .int x :: st) kc ks F := by
  intro M hF p e s m args below meth c H locs ls X hR hS hL
  obtain ⟨hdec, rfl⟩ := tw_dec X hd
  exact lv_iand (tw_ex X) (tw_cd X) hdec (n M hF p e s m args below meth c H locs ls X hR hS hL)
theorem tw_ior {k : Nat} {x z : Int32} (hd : (tw_tb y)[k]? = some (pc, .ior, 1, npc)) (n : tw_C g y d mc ms Q npc L (.int (x ||| z) :: st) kc ks F) : tw_C g y d mc ms Q pc L (.int z :: .int x :: st) kc ks F := by
  intro M hF p e s m args below meth c H locs ls X hR hS hL
  obtain ⟨hdec, rfl⟩ := tw_dec X hd
  exact lv_ior (tw_ex X) (tw_cd X) hdec (n M hF p e s m args below meth c H locs ls X hR hS hL)
theorem tw_ixor {k : Nat} {x z : Int32} (hd : (tw_tb y)[k]? = some (pc, .ixor, 1, npc)) (n : tw_C g y d mc ms Q npc L (.int (x ^^^ z) :: st) kc ks F) : tw_C g y d mc ms Q pc L (.int z :: .int x :: st) kc ks F := by
  intro M hF p e s m args below meth c H locs ls X hR hS hL
  obtain ⟨hdec, rfl⟩ := tw_dec X hd
  exact lv_ixor (tw_ex X) (tw_cd X) hdec (n M hF p e s m args below meth c H locs ls X hR hS hL)
theorem tw_ishl {k : Nat} {x z : Int32} (hd : (tw_tb y)[k]? = some (pc, .ishl, 1, npc)) (n : tw_C g y d mc ms Q npc L (.int (x <<< (z &&& 31)) :: st) kc ks F) : tw_C g y d mc ms Q pc L (.int z :: .int x :: st) kc ks F := by
  intro M hF p e s m args below meth c H locs ls X hR hS hL
  obtain ⟨hdec, rfl⟩ := tw_dec X hd
  exact lv_ishl (tw_ex X) (tw_cd X) hdec (n M hF p e s m args below meth c H locs ls X hR hS hL)
theorem tw_ishr {k : Nat} {x z : Int32} (hd : (tw_tb y)[k]? = some (pc, .ishr, 1, npc)) (n : tw_C g y d mc ms Q npc L (.int (x >>> (z &&& 31)) :: st) kc ks F) : tw_C g y d mc ms Q pc L (.int z :: .int x :: st) kc ks F := by
  intro M hF p e s m args below meth c H locs ls X hR hS hL
  obtain ⟨hdec, rfl⟩ := tw_dec X hd
  exact lv_ishr (tw_ex X) (tw_cd X) hdec (n M hF p e s m args below meth c H locs ls X hR hS hL)
theorem tw_ladd {k : Nat} {x z : Int64} (hd : (tw_tb y)[k]? = some (pc, .ladd, 1, npc)) (n : tw_C g y d mc ms Q npc L (.long (x + z) :: st) kc ks F) : tw_C g y d mc ms Q pc L (.long z :: .long x :: st) kc ks F := by
  intro M hF p e s m args below meth c H locs ls X hR hS hL
  obtain ⟨hdec, rfl⟩ := tw_dec X hd
  exact lv_ladd (tw_ex X) (tw_cd X) hdec (n M hF p e s m args below meth c H locs ls X hR hS hL)
theorem tw_lsub {k : Nat} {x z : Int64} (hd : (tw_tb y)[k]? = some (pc, .lsub, 1, npc)) (n : tw_C g y d mc ms Q npc L (.long (x - z) :: st) kc ks F) : tw_C g y d mc ms Q pc L (.long z :: .long x :: st) kc ks F := by
  intro M hF p e s m args below meth c H locs ls X hR hS hL
  obtain ⟨hdec, rfl⟩ := tw_dec X hd
  exact lv_lsub (tw_ex X) (tw_cd X) hdec (n M hF p e s m args below meth c H locs ls X hR hS hL)
theorem tw_lmul {k : Nat} {x z : Int64} (hd : (tw_tb y)[k]? = some (pc, .lmul, 1, npc)) (n : tw_C g y d mc ms Q npc L (.long (x * z) :: st) kc ks F) : tw_C g y d mc ms Q pc L (.long z :: .long x :: st) kc ks F := by
  intro M hF p e s m args below meth c H locs ls X hR hS hL
  obtain ⟨hdec, rfl⟩ := tw_dec X hd
  exact lv_lmul (tw_ex X) (tw_cd X) hdec (n M hF p e s m args below meth c H locs ls X hR hS hL)
theorem tw_lcmp {k : Nat} {x z : Int64} (hd : (tw_tb y)[k]? = some (pc, .lcmp, 1, npc)) (n : tw_C g y d mc ms Q npc L (.int (lg_cmp x z) :: st) kc ks F) : tw_C g y d mc ms Q pc L (.long z :: .long x :: st) kc ks F := by
  intro M hF p e s m args below meth c H locs ls X hR hS hL
  obtain ⟨hdec, rfl⟩ := tw_dec X hd
  exact W.lcmp (tw_ex X) (tw_cd X) hdec (n M hF p e s m args below meth c H locs ls X hR hS hL)
theorem tw_ineg {k : Nat} {x : Int32} (hd : (tw_tb y)[k]? = some (pc, .ineg, 1, npc)) (n : tw_C g y d mc ms Q npc L (.int (-x) :: st) kc ks F) : tw_C g y d mc ms Q pc L (.int x :: st) kc ks F := by
  intro M hF p e s m args below meth c H locs ls X hR hS hL
  obtain ⟨hdec, rfl⟩ := tw_dec X hd
  exact lv_ineg (tw_ex X) (tw_cd X) hdec (n M hF p e s m args below meth c H locs ls X hR hS hL)
theorem tw_i2l {k : Nat} {x : Int32} (hd : (tw_tb y)[k]? = some (pc, .i2l, 1, npc)) (n : tw_C g y d mc ms Q npc L (.long (x.toInt64) :: st) kc ks F) : tw_C g y d mc ms Q pc L (.int x :: st) kc ks F := by
  intro M hF p e s m args below meth c H locs ls X hR hS hL
  obtain ⟨hdec, rfl⟩ := tw_dec X hd
  exact lv_i2l (tw_ex X) (tw_cd X) hdec rfl (n M hF p e s m args below meth c H locs ls X hR hS hL)
theorem tw_l2i {k : Nat} {x : Int64} (hd : (tw_tb y)[k]? = some (pc, .l2i, 1, npc)) (n : tw_C g y d mc ms Q npc L (.int (x.toInt32) :: st) kc ks F) : tw_C g y d mc ms Q pc L (.long x :: st) kc ks F := by
  intro M hF p e s m args below meth c H locs ls X hR hS hL
  obtain ⟨hdec, rfl⟩ := tw_dec X hd
  exact lv_l2i (tw_ex X) (tw_cd X) hdec rfl (n M hF p e s m args below meth c H locs ls X hR hS hL)
theorem tw_i2b {k : Nat} {x : Int32} (hd : (tw_tb y)[k]? = some (pc, .i2b, 1, npc)) (n : tw_C g y d mc ms Q npc L (.int (x.toInt8.toInt32) :: st) kc ks F) : tw_C g y d mc ms Q pc L (.int x :: st) kc ks F := by
  intro M hF p e s m args below meth c H locs ls X hR hS hL
  obtain ⟨hdec, rfl⟩ := tw_dec X hd
  exact lv_i2b (tw_ex X) (tw_cd X) hdec rfl (n M hF p e s m args below meth c H locs ls X hR hS hL)
theorem tw_iushr {k : Nat} {x z : Int32} (hd : (tw_tb y)[k]? = some (pc, .iushr, 1, npc)) (n : tw_C g y d mc ms Q npc L (.int ((x.toUInt32 >>> (z.toUInt32 &&& Int32.toUInt32 31)).toInt32) :: st) kc ks F) : tw_C g y d mc ms Q pc L (.int z :: .int x :: st) kc ks F := by
  intro M hF p e s m args below meth c H locs ls X hR hS hL
  obtain ⟨hdec, rfl⟩ := tw_dec X hd
  exact lv_iushr (tw_ex X) (tw_cd X) hdec rfl (n M hF p e s m args below meth c H locs ls X hR hS hL)
def tw_nzi (z : Int32) (G : tw_Mem → Prop) : tw_Mem → Prop := fun M => ¬ z = 0 ∧ G M
theorem tw_idiv {k : Nat} {x z : Int32} (hd : (tw_tb y)[k]? = some (pc, .idiv, 1, npc)) (n : tw_C g y d mc ms Q npc L (.int (x / z) :: st) kc ks F) : tw_C g y d mc ms Q pc L (.int z :: .int x :: st) kc ks (tw_nzi z F) := by
  intro M hF p e s m args below meth c H locs ls X hR hS hL
  obtain ⟨hdec, rfl⟩ := tw_dec X hd
  obtain ⟨hz, hF⟩ := hF
  exact lv_idiv (tw_ex X) (tw_cd X) hdec hz (n M hF p e s m args below meth c H locs ls X hR hS hL)
theorem tw_irem {k : Nat} {x z : Int32} (hd : (tw_tb y)[k]? = some (pc, .irem, 1, npc)) (n : tw_C g y d mc ms Q npc L (.int (x - x / z * z) :: st) kc ks F) : tw_C g y d mc ms Q pc L (.int z :: .int x :: st) kc ks (tw_nzi z F) := by
  intro M hF p e s m args below meth c H locs ls X hR hS hL
  obtain ⟨hdec, rfl⟩ := tw_dec X hd
  obtain ⟨hz, hF⟩ := hF
  exact lv_irem (tw_ex X) (tw_cd X) hdec hz (n M hF p e s m args below meth c H locs ls X hR hS hL)
def tw_nzl (z : Int64) (G : tw_Mem → Prop) : tw_Mem → Prop := fun M => ¬ z = 0 ∧ G M
theorem tw_ldiv {k : Nat} {x z : Int64} (hd : (tw_tb y)[k]? = some (pc, .ldiv, 1, npc)) (n : tw_C g y d mc ms Q npc L (.long (x / z) :: st) kc ks F) : tw_C g y d mc ms Q pc L (.long z :: .long x :: st) kc ks (tw_nzl z F) := by
  intro M hF p e s m args below meth c H locs ls X hR hS hL
  obtain ⟨hdec, rfl⟩ := tw_dec X hd
  obtain ⟨hz, hF⟩ := hF
  exact lv_ldiv (tw_ex X) (tw_cd X) hdec hz (n M hF p e s m args below meth c H locs ls X hR hS hL)
theorem tw_iconst {k : Nat} {i : Int} (v : Int32) (hd : (tw_tb y)[k]? = some (pc, .iconst i, 1, npc)) (hv : Int32.ofInt i = v) (n : tw_C g y d mc ms Q npc L (.int v :: st) kc ks F) : tw_C g y d mc ms Q pc L st kc ks F := by
  intro M hF p e s m args below meth c H locs ls X hR hS hL
  obtain ⟨hdec, rfl⟩ := tw_dec X hd
  exact lv_iconst (tw_ex X) (tw_cd X) hdec hv (n M hF p e s m args below meth c H locs ls X hR hS hL)
theorem tw_bipush {k : Nat} {i : Int} (v : Int32) (hd : (tw_tb y)[k]? = some (pc, .bipush i, 2, npc)) (hv : (Int8.ofInt i).toInt32 = v) (n : tw_C g y d mc ms Q npc L (.int v :: st) kc ks F) : tw_C g y d mc ms Q pc L st kc ks F := by
  intro M hF p e s m args below meth c H locs ls X hR hS hL
  obtain ⟨hdec, rfl⟩ := tw_dec X hd
  exact lv_bipush (tw_ex X) (tw_cd X) hdec hv (n M hF p e s m args below meth c H locs ls X hR hS hL)
theorem tw_sipush {k : Nat} {i : Int} (v : Int32) (hd : (tw_tb y)[k]? = some (pc, .sipush i, 3, npc)) (hv : (Int16.ofInt i).toInt32 = v) (n : tw_C g y d mc ms Q npc L (.int v :: st) kc ks F) : tw_C g y d mc ms Q pc L st kc ks F := by
  intro M hF p e s m args below meth c H locs ls X hR hS hL
  obtain ⟨hdec, rfl⟩ := tw_dec X hd
  exact lv_sipush (tw_ex X) (tw_cd X) hdec hv (n M hF p e s m args below meth c H locs ls X hR hS hL)
theorem tw_lconst {k : Nat} {i : Fin 2} (v : Int64) (hd : (tw_tb y)[k]? = some (pc, .lconst i, 1, npc)) (hv : Int64.ofNat (i : Nat) = v) (n : tw_C g y d mc ms Q npc L (.long v :: st) kc ks F) : tw_C g y d mc ms Q pc L st kc ks F := by
  intro M hF p e s m args below meth c H locs ls X hR hS hL
  obtain ⟨hdec, rfl⟩ := tw_dec X hd
  exact lv_lconst (tw_ex X) (tw_cd X) hdec hv (n M hF p e s m args below meth c H locs ls X hR hS hL)
theorem tw_ldc {k ix : Nat} {v : Int32} (hw : Cond.constant y.1.cls ix v ∈ lw_tbl) (hd : (tw_tb y)[k]? = some (pc, .ldc ix, 2, npc)) (n : tw_C g y d mc ms Q npc L (.int v :: st) kc ks F) : tw_C g y d mc ms Q pc L st kc ks F := by
  intro M hF p e s m args below meth c H locs ls X hR hS hL
  obtain ⟨hdec, rfl⟩ := tw_dec X hd
  exact lv_ldc (tw_ex X) (tw_cd X) (tw_ow X) (tw_wd X hw rfl args) hdec (n M hF p e s m args below meth c H locs ls X hR hS hL)
theorem tw_ldcw {k ix : Nat} {v : Int32} (hw : Cond.constant y.1.cls ix v ∈ lw_tbl) (hd : (tw_tb y)[k]? = some (pc, .ldc_w ix, 3, npc)) (n : tw_C g y d mc ms Q npc L (.int v :: st) kc ks F) : tw_C g y d mc ms Q pc L st kc ks F := by
  intro M hF p e s m args below meth c H locs ls X hR hS hL
  obtain ⟨hdec, rfl⟩ := tw_dec X hd
  exact lv_ldcw (tw_ex X) (tw_cd X) (tw_ow X) (tw_wd X hw rfl args) hdec (n M hF p e s m args below meth c H locs ls X hR hS hL)
theorem tw_ldc2 {k ix : Nat} {v : Int64} (hw : Cond.constantLong y.1.cls ix v ∈ lw_tbl) (hd : (tw_tb y)[k]? = some (pc, .ldc2_w ix, 3, npc)) (n : tw_C g y d mc ms Q npc L (.long v :: st) kc ks F) : tw_C g y d mc ms Q pc L st kc ks F := by
  intro M hF p e s m args below meth c H locs ls X hR hS hL
  obtain ⟨hdec, rfl⟩ := tw_dec X hd
  exact lv_ldc2 (tw_ex X) (tw_cd X) (tw_ow X) (tw_wd X hw rfl args) hdec (n M hF p e s m args below meth c H locs ls X hR hS hL)
theorem tw_iload_n {k : Nat} {i : Fin 4} {x : Int32} (hd : (tw_tb y)[k]? = some (pc, .iload_n i, 1, npc)) (hl : L[(i : Nat)]? = some (some (.int x))) (n : tw_C g y d mc ms Q npc L (.int x :: st) kc ks F) : tw_C g y d mc ms Q pc L st kc ks F := by
  intro M hF p e s m args below meth c H locs ls X hR hS hL
  obtain ⟨hdec, rfl⟩ := tw_dec X hd
  exact lv_iload_n (tw_ex X) (tw_cd X) hdec rfl (hL.get hl) (n M hF p e s m args below meth c H locs ls X hR hS hL)
theorem tw_iload {k i : Nat} {x : Int32} (hd : (tw_tb y)[k]? = some (pc, .iload i, 2, npc)) (hl : L[i]? = some (some (.int x))) (n : tw_C g y d mc ms Q npc L (.int x :: st) kc ks F) : tw_C g y d mc ms Q pc L st kc ks F := by
  intro M hF p e s m args below meth c H locs ls X hR hS hL
  obtain ⟨hdec, rfl⟩ := tw_dec X hd
  exact lv_iload (tw_ex X) (tw_cd X) hdec (hL.get hl) (n M hF p e s m args below meth c H locs ls X hR hS hL)
theorem tw_lload_n {k : Nat} {i : Fin 4} {x : Int64} (hd : (tw_tb y)[k]? = some (pc, .lload_n i, 1, npc)) (hl : L[(i : Nat)]? = some (some (.long x))) (n : tw_C g y d mc ms Q npc L (.long x :: st) kc ks F) : tw_C g y d mc ms Q pc L st kc ks F := by
  intro M hF p e s m args below meth c H locs ls X hR hS hL
  obtain ⟨hdec, rfl⟩ := tw_dec X hd
  exact lv_lload_n (tw_ex X) (tw_cd X) hdec rfl (hL.get hl) (n M hF p e s m args below meth c H locs ls X hR hS hL)
theorem tw_lload {k i : Nat} {x : Int64} (hd : (tw_tb y)[k]? = some (pc, .lload i, 2, npc)) (hl : L[i]? = some (some (.long x))) (n : tw_C g y d mc ms Q npc L (.long x :: st) kc ks F) : tw_C g y d mc ms Q pc L st kc ks F := by
  intro M hF p e s m args below meth c H locs ls X hR hS hL
  obtain ⟨hdec, rfl⟩ := tw_dec X hd
  exact lv_lload (tw_ex X) (tw_cd X) hdec (hL.get hl) (n M hF p e s m args below meth c H locs ls X hR hS hL)
theorem tw_aload_n {k : Nat} {i : Fin 4} {x : Nat} (hd : (tw_tb y)[k]? = some (pc, .aload_n i, 1, npc)) (hl : L[(i : Nat)]? = some (some (.ref x))) (n : tw_C g y d mc ms Q npc L (.ref x :: st) kc ks F) : tw_C g y d mc ms Q pc L st kc ks F := by
  intro M hF p e s m args below meth c H locs ls X hR hS hL
  obtain ⟨hdec, rfl⟩ := tw_dec X hd
  exact lv_aload_n (tw_ex X) (tw_cd X) hdec rfl (hL.get hl) (n M hF p e s m args below meth c H locs ls X hR hS hL)
theorem tw_aload {k i : Nat} {x : Nat} (hd : (tw_tb y)[k]? = some (pc, .aload i, 2, npc)) (hl : L[i]? = some (some (.ref x))) (n : tw_C g y d mc ms Q npc L (.ref x :: st) kc ks F) : tw_C g y d mc ms Q pc L st kc ks F := by
  intro M hF p e s m args below meth c H locs ls X hR hS hL
  obtain ⟨hdec, rfl⟩ := tw_dec X hd
  exact lv_aload (tw_ex X) (tw_cd X) hdec (hL.get hl) (n M hF p e s m args below meth c H locs ls X hR hS hL)
theorem tw_istore_n {k : Nat} {i : Fin 4} {x : Int32} (hd : (tw_tb y)[k]? = some (pc, .istore_n i, 1, npc)) (hi : (i : Nat) < y.2.2.1) (ho : tw_okL L i = true) (n : tw_C g y d mc ms Q npc (L.set i (some (.int x))) st kc ks F) : tw_C g y d mc ms Q pc L (.int x :: st) kc ks F := by
  intro M hF p e s m args below meth c H locs ls X hR hS hL
  obtain ⟨hdec, rfl⟩ := tw_dec X hd
  exact lv_istore_n (tw_ex X) (tw_cd X) hdec rfl hL.has hi rfl (fun ls9 h9 => n M hF p e s m args below meth c H locs ls9 X hR hS (hL.set1 ho h9))
theorem tw_istore {k i : Nat} {x : Int32} (hd : (tw_tb y)[k]? = some (pc, .istore i, 2, npc)) (hi : i < y.2.2.1) (ho : tw_okL L i = true) (n : tw_C g y d mc ms Q npc (L.set i (some (.int x))) st kc ks F) : tw_C g y d mc ms Q pc L (.int x :: st) kc ks F := by
  intro M hF p e s m args below meth c H locs ls X hR hS hL
  obtain ⟨hdec, rfl⟩ := tw_dec X hd
  exact lv_istore (tw_ex X) (tw_cd X) hdec hL.has hi rfl (fun ls9 h9 => n M hF p e s m args below meth c H locs ls9 X hR hS (hL.set1 ho h9))
theorem tw_astore_n {k : Nat} {i : Fin 4} {x : Nat} (hd : (tw_tb y)[k]? = some (pc, .astore_n i, 1, npc)) (hi : (i : Nat) < y.2.2.1) (ho : tw_okL L i = true) (n : tw_C g y d mc ms Q npc (L.set i (some (.ref x))) st kc ks F) : tw_C g y d mc ms Q pc L (.ref x :: st) kc ks F := by
  intro M hF p e s m args below meth c H locs ls X hR hS hL
  obtain ⟨hdec, rfl⟩ := tw_dec X hd
  exact lv_astore_n (tw_ex X) (tw_cd X) hdec rfl hL.has hi rfl (fun ls9 h9 => n M hF p e s m args below meth c H locs ls9 X hR hS (hL.set1 ho h9))
theorem tw_astore {k i : Nat} {x : Nat} (hd : (tw_tb y)[k]? = some (pc, .astore i, 2, npc)) (hi : i < y.2.2.1) (ho : tw_okL L i = true) (n : tw_C g y d mc ms Q npc (L.set i (some (.ref x))) st kc ks F) : tw_C g y d mc ms Q pc L (.ref x :: st) kc ks F := by
  intro M hF p e s m args below meth c H locs ls X hR hS hL
  obtain ⟨hdec, rfl⟩ := tw_dec X hd
  exact lv_astore (tw_ex X) (tw_cd X) hdec hL.has hi rfl (fun ls9 h9 => n M hF p e s m args below meth c H locs ls9 X hR hS (hL.set1 ho h9))
theorem tw_lstore_n {k : Nat} {i : Fin 4} {x : Int64} (hd : (tw_tb y)[k]? = some (pc, .lstore_n i, 1, npc)) (hi : (i : Nat) + 1 < y.2.2.1) (ho : tw_okL L i = true) (n : tw_C g y d mc ms Q npc ((L.set i (some (.long x))).set (i + 1) none) st kc ks F) : tw_C g y d mc ms Q pc L (.long x :: st) kc ks F := by
  intro M hF p e s m args below meth c H locs ls X hR hS hL
  obtain ⟨hdec, rfl⟩ := tw_dec X hd
  exact lv_lstore_n (tw_ex X) (tw_cd X) hdec rfl hL.has hi rfl (fun ls9 h9 => n M hF p e s m args below meth c H locs ls9 X hR hS (hL.set2 ho h9))
theorem tw_lstore {k i : Nat} {x : Int64} (hd : (tw_tb y)[k]? = some (pc, .lstore i, 2, npc)) (hi : i + 1 < y.2.2.1) (ho : tw_okL L i = true) (n : tw_C g y d mc ms Q npc ((L.set i (some (.long x))).set (i + 1) none) st kc ks F) : tw_C g y d mc ms Q pc L (.long x :: st) kc ks F := by
  intro M hF p e s m args below meth c H locs ls X hR hS hL
  obtain ⟨hdec, rfl⟩ := tw_dec X hd
  exact lv_lstore (tw_ex X) (tw_cd X) hdec hL.has hi rfl (fun ls9 h9 => n M hF p e s m args below meth c H locs ls9 X hR hS (hL.set2 ho h9))
theorem tw_iinc {k i : Nat} {z : Int} {x : Int32} (v : Int32) (hd : (tw_tb y)[k]? = some (pc, .iinc i z, 3, npc)) (hl : L[i]? = some (some (.int x))) (hv : Int32.ofInt z = v) (hi : i < y.2.2.1) (ho : tw_okL L i = true) (n : tw_C g y d mc ms Q npc (L.set i (some (.int (x + v)))) st kc ks F) : tw_C g y d mc ms Q pc L st kc ks F := by
  intro M hF p e s m args below meth c H locs ls X hR hS hL
  obtain ⟨hdec, rfl⟩ := tw_dec X hd
  subst hv
  obtain ⟨j, hj⟩ := List.getElem?_of_mem (tw_pl_mem.mpr hl)
  exact lv_iinc (tw_ex X) (tw_cd X) hdec hL.has hj rfl hi rfl (fun ls9 h9 => n M hF p e s m args below meth c H locs ls9 X hR hS (hL.set1 ho h9))
theorem tw_dup {k : Nat} {v : Value} (hd : (tw_tb y)[k]? = some (pc, .dup, 1, npc)) (hv : v.category = 1) (n : tw_C g y d mc ms Q npc L (v :: v :: st) kc ks F) : tw_C g y d mc ms Q pc L (v :: st) kc ks F := by
  intro M hF p e s m args below meth c H locs ls X hR hS hL
  obtain ⟨hdec, rfl⟩ := tw_dec X hd
  exact lv_dup (tw_ex X) (tw_cd X) hdec hv (n M hF p e s m args below meth c H locs ls X hR hS hL)
theorem tw_dup2 {k : Nat} {u v : Value} (hd : (tw_tb y)[k]? = some (pc, .dup2, 1, npc)) (hv : v.category = 1) (hu : u.category = 1) (n : tw_C g y d mc ms Q npc L (v :: u :: v :: u :: st) kc ks F) : tw_C g y d mc ms Q pc L (v :: u :: st) kc ks F := by
  intro M hF p e s m args below meth c H locs ls X hR hS hL
  obtain ⟨hdec, rfl⟩ := tw_dec X hd
  exact lv_dup2_11 (tw_ex X) (tw_cd X) hdec hv hu (n M hF p e s m args below meth c H locs ls X hR hS hL)
theorem tw_pop {k : Nat} {v : Value} (hd : (tw_tb y)[k]? = some (pc, .pop, 1, npc)) (hv : v.category = 1) (n : tw_C g y d mc ms Q npc L st kc ks F) : tw_C g y d mc ms Q pc L (v :: st) kc ks F := by
  intro M hF p e s m args below meth c H locs ls X hR hS hL
  obtain ⟨hdec, rfl⟩ := tw_dec X hd
  exact lv_pop (tw_ex X) (tw_cd X) hdec hv (n M hF p e s m args below meth c H locs ls X hR hS hL)
theorem tw_goto {k : Nat} {off : Int} (tgt : Nat) (hd : (tw_tb y)[k]? = some (pc, .goto off, 3, npc)) (ht : (pc : Int) + off = (tgt : Int)) (n : tw_C g y d mc ms Q tgt L st kc ks F) : tw_C g y d mc ms Q pc L st kc ks F := by
  intro M hF p e s m args below meth c H locs ls X hR hS hL
  obtain ⟨hdec, rfl⟩ := tw_dec X hd
  exact lv_goto (tw_ex X) (tw_cd X) hdec ht (n M hF p e s m args below meth c H locs ls X hR hS hL)
/-- a branch -/
def tw_if (c : Prop) [Decidable c] (F G : tw_Mem → Prop) : tw_Mem → Prop := fun M => if c then F M else G M
theorem tw_icmp_eq {k : Nat} {x z : Int32} {off : Int} {G : tw_Mem → Prop} (tgt : Nat) (hd : (tw_tb y)[k]? = some (pc, .if_icmp .eq off, 3, npc)) (ht : (pc : Int) + off = (tgt : Int)) (kt : tw_C g y d mc ms Q tgt L st kc ks F) (kf : tw_C g y d mc ms Q npc L st kc ks G) : tw_C g y d mc ms Q pc L (.int z :: .int x :: st) kc ks (tw_if (x = z) F G) := by
  intro M hF p e s m args below meth c H locs ls X hR hS hL
  obtain ⟨hdec, rfl⟩ := tw_dec X hd
  unfold tw_if at hF
  refine lv_icmp_eq (tw_ex X) (tw_cd X) hdec ht (fun hc => ?_) (fun hc => ?_)
  · have hc2 := hc
    rw [if_pos hc2] at hF
    exact kt M hF p e s m args below meth c H locs ls X hR hS hL
  · have hc2 := hc
    rw [if_neg hc2] at hF
    exact kf M hF p e s m args below meth c H locs ls X hR hS hL
theorem tw_if_eq {k : Nat} {x : Int32} {off : Int} {G : tw_Mem → Prop} (tgt : Nat) (hd : (tw_tb y)[k]? = some (pc, .ifCond .eq off, 3, npc)) (ht : (pc : Int) + off = (tgt : Int)) (kt : tw_C g y d mc ms Q tgt L st kc ks F) (kf : tw_C g y d mc ms Q npc L st kc ks G) : tw_C g y d mc ms Q pc L (.int x :: st) kc ks (tw_if (x = 0) F G) := by
  intro M hF p e s m args below meth c H locs ls X hR hS hL
  obtain ⟨hdec, rfl⟩ := tw_dec X hd
  unfold tw_if at hF
  refine lv_if_eq (tw_ex X) (tw_cd X) hdec ht (fun hc => ?_) (fun hc => ?_)
  · have hc2 := hc
    rw [if_pos hc2] at hF
    exact kt M hF p e s m args below meth c H locs ls X hR hS hL
  · have hc2 := hc
    rw [if_neg hc2] at hF
    exact kf M hF p e s m args below meth c H locs ls X hR hS hL
theorem tw_icmp_ne {k : Nat} {x z : Int32} {off : Int} {G : tw_Mem → Prop} (tgt : Nat) (hd : (tw_tb y)[k]? = some (pc, .if_icmp .ne off, 3, npc)) (ht : (pc : Int) + off = (tgt : Int)) (kt : tw_C g y d mc ms Q tgt L st kc ks G) (kf : tw_C g y d mc ms Q npc L st kc ks F) : tw_C g y d mc ms Q pc L (.int z :: .int x :: st) kc ks (tw_if (x = z) F G) := by
  intro M hF p e s m args below meth c H locs ls X hR hS hL
  obtain ⟨hdec, rfl⟩ := tw_dec X hd
  unfold tw_if at hF
  refine lv_icmp_ne (tw_ex X) (tw_cd X) hdec ht (fun hc => ?_) (fun hc => ?_)
  · have hc2 := tw_nne hc
    rw [if_neg hc2] at hF
    exact kt M hF p e s m args below meth c H locs ls X hR hS hL
  · have hc2 := tw_pne hc
    rw [if_pos hc2] at hF
    exact kf M hF p e s m args below meth c H locs ls X hR hS hL
theorem tw_if_ne {k : Nat} {x : Int32} {off : Int} {G : tw_Mem → Prop} (tgt : Nat) (hd : (tw_tb y)[k]? = some (pc, .ifCond .ne off, 3, npc)) (ht : (pc : Int) + off = (tgt : Int)) (kt : tw_C g y d mc ms Q tgt L st kc ks G) (kf : tw_C g y d mc ms Q npc L st kc ks F) : tw_C g y d mc ms Q pc L (.int x :: st) kc ks (tw_if (x = 0) F G) := by
  intro M hF p e s m args below meth c H locs ls X hR hS hL
  obtain ⟨hdec, rfl⟩ := tw_dec X hd
  unfold tw_if at hF
  refine lv_if_ne (tw_ex X) (tw_cd X) hdec ht (fun hc => ?_) (fun hc => ?_)
  · have hc2 := tw_nne hc
    rw [if_neg hc2] at hF
    exact kt M hF p e s m args below meth c H locs ls X hR hS hL
  · have hc2 := tw_pne hc
    rw [if_pos hc2] at hF
    exact kf M hF p e s m args below meth c H locs ls X hR hS hL
theorem tw_icmp_lt {k : Nat} {x z : Int32} {off : Int} {G : tw_Mem → Prop} (tgt : Nat) (hd : (tw_tb y)[k]? = some (pc, .if_icmp .lt off, 3, npc)) (ht : (pc : Int) + off = (tgt : Int)) (kt : tw_C g y d mc ms Q tgt L st kc ks F) (kf : tw_C g y d mc ms Q npc L st kc ks G) : tw_C g y d mc ms Q pc L (.int z :: .int x :: st) kc ks (tw_if (x < z) F G) := by
  intro M hF p e s m args below meth c H locs ls X hR hS hL
  obtain ⟨hdec, rfl⟩ := tw_dec X hd
  unfold tw_if at hF
  refine lv_icmp_lt (tw_ex X) (tw_cd X) hdec ht (fun hc => ?_) (fun hc => ?_)
  · have hc2 := hc
    rw [if_pos hc2] at hF
    exact kt M hF p e s m args below meth c H locs ls X hR hS hL
  · have hc2 := hc
    rw [if_neg hc2] at hF
    exact kf M hF p e s m args below meth c H locs ls X hR hS hL
theorem tw_if_lt {k : Nat} {x : Int32} {off : Int} {G : tw_Mem → Prop} (tgt : Nat) (hd : (tw_tb y)[k]? = some (pc, .ifCond .lt off, 3, npc)) (ht : (pc : Int) + off = (tgt : Int)) (kt : tw_C g y d mc ms Q tgt L st kc ks F) (kf : tw_C g y d mc ms Q npc L st kc ks G) : tw_C g y d mc ms Q pc L (.int x :: st) kc ks (tw_if (x < 0) F G) := by
  intro M hF p e s m args below meth c H locs ls X hR hS hL
  obtain ⟨hdec, rfl⟩ := tw_dec X hd
  unfold tw_if at hF
  refine lv_if_lt (tw_ex X) (tw_cd X) hdec ht (fun hc => ?_) (fun hc => ?_)
  · have hc2 := hc
    rw [if_pos hc2] at hF
    exact kt M hF p e s m args below meth c H locs ls X hR hS hL
  · have hc2 := hc
    rw [if_neg hc2] at hF
    exact kf M hF p e s m args below meth c H locs ls X hR hS hL
theorem tw_icmp_ge {k : Nat} {x z : Int32} {off : Int} {G : tw_Mem → Prop} (tgt : Nat) (hd : (tw_tb y)[k]? = some (pc, .if_icmp .ge off, 3, npc)) (ht : (pc : Int) + off = (tgt : Int)) (kt : tw_C g y d mc ms Q tgt L st kc ks G) (kf : tw_C g y d mc ms Q npc L st kc ks F) : tw_C g y d mc ms Q pc L (.int z :: .int x :: st) kc ks (tw_if (x < z) F G) := by
  intro M hF p e s m args below meth c H locs ls X hR hS hL
  obtain ⟨hdec, rfl⟩ := tw_dec X hd
  unfold tw_if at hF
  refine lv_icmp_ge (tw_ex X) (tw_cd X) hdec ht (fun hc => ?_) (fun hc => ?_)
  · have hc2 := tw_nge hc
    rw [if_neg hc2] at hF
    exact kt M hF p e s m args below meth c H locs ls X hR hS hL
  · have hc2 := tw_pge hc
    rw [if_pos hc2] at hF
    exact kf M hF p e s m args below meth c H locs ls X hR hS hL
theorem tw_if_ge {k : Nat} {x : Int32} {off : Int} {G : tw_Mem → Prop} (tgt : Nat) (hd : (tw_tb y)[k]? = some (pc, .ifCond .ge off, 3, npc)) (ht : (pc : Int) + off = (tgt : Int)) (kt : tw_C g y d mc ms Q tgt L st kc ks G) (kf : tw_C g y d mc ms Q npc L st kc ks F) : tw_C g y d mc ms Q pc L (.int x :: st) kc ks (tw_if (x < 0) F G) := by
  intro M hF p e s m args below meth c H locs ls X hR hS hL
  obtain ⟨hdec, rfl⟩ := tw_dec X hd
  unfold tw_if at hF
  refine lv_if_ge (tw_ex X) (tw_cd X) hdec ht (fun hc => ?_) (fun hc => ?_)
  · have hc2 := tw_nge hc
    rw [if_neg hc2] at hF
    exact kt M hF p e s m args below meth c H locs ls X hR hS hL
  · have hc2 := tw_pge hc
    rw [if_pos hc2] at hF
    exact kf M hF p e s m args below meth c H locs ls X hR hS hL
theorem tw_icmp_gt {k : Nat} {x z : Int32} {off : Int} {G : tw_Mem → Prop} (tgt : Nat) (hd : (tw_tb y)[k]? = some (pc, .if_icmp .gt off, 3, npc)) (ht : (pc : Int) + off = (tgt : Int)) (kt : tw_C g y d mc ms Q tgt L st kc ks F) (kf : tw_C g y d mc ms Q npc L st kc ks G) : tw_C g y d mc ms Q pc L (.int z :: .int x :: st) kc ks (tw_if (z < x) F G) := by
  intro M hF p e s m args below meth c H locs ls X hR hS hL
  obtain ⟨hdec, rfl⟩ := tw_dec X hd
  unfold tw_if at hF
  refine lv_icmp_gt (tw_ex X) (tw_cd X) hdec ht (fun hc => ?_) (fun hc => ?_)
  · have hc2 := hc
    rw [if_pos hc2] at hF
    exact kt M hF p e s m args below meth c H locs ls X hR hS hL
  · have hc2 := hc
    rw [if_neg hc2] at hF
    exact kf M hF p e s m args below meth c H locs ls X hR hS hL
theorem tw_if_gt {k : Nat} {x : Int32} {off : Int} {G : tw_Mem → Prop} (tgt : Nat) (hd : (tw_tb y)[k]? = some (pc, .ifCond .gt off, 3, npc)) (ht : (pc : Int) + off = (tgt : Int)) (kt : tw_C g y d mc ms Q tgt L st kc ks F) (kf : tw_C g y d mc ms Q npc L st kc ks G) : tw_C g y d mc ms Q pc L (.int x :: st) kc ks (tw_if (0 < x) F G) := by
  intro M hF p e s m args below meth c H locs ls X hR hS hL
  obtain ⟨hdec, rfl⟩ := tw_dec X hd
  unfold tw_if at hF
  refine lv_if_gt (tw_ex X) (tw_cd X) hdec ht (fun hc => ?_) (fun hc => ?_)
  · have hc2 := hc
    rw [if_pos hc2] at hF
    exact kt M hF p e s m args below meth c H locs ls X hR hS hL
  · have hc2 := hc
    rw [if_neg hc2] at hF
    exact kf M hF p e s m args below meth c H locs ls X hR hS hL
theorem tw_icmp_le {k : Nat} {x z : Int32} {off : Int} {G : tw_Mem → Prop} (tgt : Nat) (hd : (tw_tb y)[k]? = some (pc, .if_icmp .le off, 3, npc)) (ht : (pc : Int) + off = (tgt : Int)) (kt : tw_C g y d mc ms Q tgt L st kc ks G) (kf : tw_C g y d mc ms Q npc L st kc ks F) : tw_C g y d mc ms Q pc L (.int z :: .int x :: st) kc ks (tw_if (z < x) F G) := by
  intro M hF p e s m args below meth c H locs ls X hR hS hL
  obtain ⟨hdec, rfl⟩ := tw_dec X hd
  unfold tw_if at hF
  refine lv_icmp_le (tw_ex X) (tw_cd X) hdec ht (fun hc => ?_) (fun hc => ?_)
  · have hc2 := tw_nle hc
    rw [if_neg hc2] at hF
    exact kt M hF p e s m args below meth c H locs ls X hR hS hL
  · have hc2 := tw_ple hc
    rw [if_pos hc2] at hF
    exact kf M hF p e s m args below meth c H locs ls X hR hS hL
theorem tw_if_le {k : Nat} {x : Int32} {off : Int} {G : tw_Mem → Prop} (tgt : Nat) (hd : (tw_tb y)[k]? = some (pc, .ifCond .le off, 3, npc)) (ht : (pc : Int) + off = (tgt : Int)) (kt : tw_C g y d mc ms Q tgt L st kc ks G) (kf : tw_C g y d mc ms Q npc L st kc ks F) : tw_C g y d mc ms Q pc L (.int x :: st) kc ks (tw_if (0 < x) F G) := by
  intro M hF p e s m args below meth c H locs ls X hR hS hL
  obtain ⟨hdec, rfl⟩ := tw_dec X hd
  unfold tw_if at hF
  refine lv_if_le (tw_ex X) (tw_cd X) hdec ht (fun hc => ?_) (fun hc => ?_)
  · have hc2 := tw_nle hc
    rw [if_neg hc2] at hF
    exact kt M hF p e s m args below meth c H locs ls X hR hS hL
  · have hc2 := tw_ple hc
    rw [if_pos hc2] at hF
    exact kf M hF p e s m args below meth c H locs ls X hR hS hL
end TWR
