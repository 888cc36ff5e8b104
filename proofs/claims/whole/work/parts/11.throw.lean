/-! ===== throws, constructors, inherited calls, copies, texts ===== -/
def tw_mv (w : Cond) : Bool := goodWord w || (w.onTables && w.faceAtom)
theorem tw_wd2 {g : tw_Gx} {y : tw_MD} {p : Program} {s : State} {m : MethodId} {meth : Method} {c : Code} (X : tw_Fx g y p s m meth c) {w : Cond} (hw : w ∈ lw_tbl) (hg : tw_mv w = true) (args : Array Value) : w.before args s = true := by
  unfold tw_mv at hg
  rw [Bool.or_eq_true] at hg
  rcases hg with hg | hg
  · exact tw_wd X hw hg args
  · rw [Bool.and_eq_true] at hg
    obtain ⟨-, h0, -⟩ := tw_gk X
    have h1 : w.before #[.ref g.2.2.1] ((tw_s0 g).setVm s.vm) = true := Cond.faceAtom_setVm (State.Shifted.of_warmed (tw_wm X)).1 w hg.2 (h0 w hw)
    exact va_tabs hg.1 (rfl : ((tw_s0 g).setVm s.vm).vm = s.vm) h1
/-- 'throw new E("text")' -/
def tw_th (E : String) (x : String → tw_Mem → Prop) : tw_Mem → Prop := fun M => ∀ n, M.2.2.2 ≤ n → x E (M.1, M.2.1, M.2.2.1, n)
def tw_tw (own : String) (ik is ic : Nat) (cls tx : String) : Prop := Cond.classLink own ik cls ∈ lw_tbl ∧ Cond.initialized cls ∈ lw_tbl ∧ Cond.stringRef own is tx ∈ lw_tbl ∧ ∀ w ∈ vx_atS own ic cls ["java/lang/RuntimeException", "java/lang/Exception"], w ∈ lw_tbl ∧ tw_mv w = true ∧ vx_ot w = true
theorem tw_R.junk {g : tw_Gx} {M : tw_Mem} {U : State} {H H1 : Heap} (h : tw_R g M U H) (hsz : H.size ≤ H1.size) (hoq : ∀ q : Nat, q < H.size → H1[q]? = H[q]?) : tw_R g (M.1, M.2.1, M.2.2.1, H1.size) U H1 := by
  obtain ⟨r1, r2, r3, r4⟩ := h
  refine ⟨by omega, rfl, fun q h => (hoq q (by omega)).trans (r3 q h), fun b x hx => ?_⟩
  have hc := r4 b x hx
  by_cases e7 : x.1 = 7 ∨ x.1 = 8 ∨ x.1 = 9
  · obtain ⟨t, n, r⟩ := x
    rcases e7 with rfl | rfl | rfl <;> exact hc
  · have hlt := hc.lt (fun z => e7 (Or.inl z)) (fun z => e7 (Or.inr (Or.inl z))) (fun z => e7 (Or.inr (Or.inr z)))
    exact hc.kept (hoq b hlt) rfl rfl (fun q hq _ => hoq q hq)
section TWT
variable {g : tw_Gx} {y : tw_MD} {d mc ms : Nat} {Q : tw_Rs → tw_Mem → Prop} {pc npc : Nat} {L : List (Option Value)} {st : List Value} {kc ks : Nat} {F : tw_Mem → Prop}
theorem tw_throwS {k ik is ic : Nat} {cls tx : String} (hcls : Bundle.fit cls = true) (d0 : (tw_tb y)[k]? = some (pc, .new ik, 3, pc + 3)) (d3 : (tw_tb y)[k + 1]? = some (pc + 3, .dup, 1, pc + 4)) (d4 : (tw_tb y)[k + 2]? = some (pc + 4, .ldc is, 2, pc + 6)) (d6 : (tw_tb y)[k + 3]? = some (pc + 6, .invokespecial ic, 3, pc + 9)) (d9 : (tw_tb y)[k + 4]? = some (pc + 9, .athrow, 1, npc))
    (hw : tw_tw y.1.cls ik is ic cls tx) (hh : y.2.2.2.2.2 = []) (hd : 6 ≤ d) (h1 : kc + 1 ≤ mc) (h2 : ks + 6 ≤ ms) (hst : (st.map fun v => v.category).sum ≤ 8) : tw_C g y d mc ms Q pc L st kc ks (tw_th cls (fun E => Q (.inr E))) := by
  intro M hF p e s m args below meth c H locs ls X hR hS hL
  obtain ⟨w1, w2, w3, w4⟩ := hw
  have ht : c.exceptionTable.toList = [] := by
    obtain ⟨-, -, -, -, -, -, -, -, -, h, -⟩ := X
    rw [hh] at h
    exact h
  obtain ⟨o1, o2, o3, o4, o5, -, -, o8, -⟩ := tw_gk X
  obtain ⟨sa, hsa⟩ := o8 _ _ _ w3
  have hbl : ∀ a : Nat, a < (tw_s0 g).heap.size → ¬ tw_A g a → s.heap[a]? = (tw_s0 g).heap[a]? := fun a h1 _ => (tw_sz X).2 a h1
  have hU := (vx_Zq.moved (tw_wm X).alike (o4.kept hbl))
  have hN := (vx_Zq.moved (tw_wm X).alike (o5.kept hbl))
  have hml : ls.size = c.maxLocals := by
    obtain ⟨-, -, -, h, -⟩ := X
    rw [h]; exact hL.1
  refine vx_throwS (names := ["java/lang/RuntimeException", "java/lang/Exception"]) (A := tw_A g) (text := tx) (sa := sa) (tw_ex X) (tw_cd X) o1 (tw_ow X) hcls (by decide +kernel) (tw_wd X w1 rfl args) (tw_wd X w2 rfl args) (vk_R.warm (tw_wm X) hsa) (fun w hw9 => tw_wd2 X (w4 w hw9).1 (w4 w hw9).2.1 args) ?_ hU hN hS hml (tw_dec X d0).1 (tw_dec X d3).1 (tw_dec X d4).1 (tw_dec X d6).1 (tw_dec X d9).1 (fun x hx => by rw [ht] at hx; cases hx) (by show 5 < d; omega) (by show _ + 82 ≤ 64 * d; omega) (by show kc + 1 ≤ mc; exact h1) (by show ks + 6 ≤ ms; exact h2) (tw_hr X).2 (fun t hal z1 z2 => ⟨⟨_, hF t.heap.size (by rw [← hR.2.1]; exact z1), (hR.junk z1 z2).moved hal⟩, ?_⟩) hS.2.2 h1 h2
  · intro w hw9
    rcases List.mem_cons.mp hw9 with rfl | hw9
    · rfl
    · rcases List.mem_cons.mp hw9 with rfl | hw9
      · rfl
      · exact (w4 w hw9).2.2
  · exact ⟨Nat.le_trans hS.1 z1, fun q h8 h9 => (z2 q (Nat.lt_of_lt_of_le h8 hS.1)).trans (hS.2.1 q h8 h9)⟩
theorem tw_throwSW {k ik is ic : Nat} {cls tx : String} (hcls : Bundle.fit cls = true) (d0 : (tw_tb y)[k]? = some (pc, .new ik, 3, pc + 3)) (d3 : (tw_tb y)[k + 1]? = some (pc + 3, .dup, 1, pc + 4)) (d4 : (tw_tb y)[k + 2]? = some (pc + 4, .ldc_w is, 3, pc + 7)) (d6 : (tw_tb y)[k + 3]? = some (pc + 7, .invokespecial ic, 3, pc + 10)) (d9 : (tw_tb y)[k + 4]? = some (pc + 10, .athrow, 1, npc))
    (hw : tw_tw y.1.cls ik is ic cls tx) (hh : y.2.2.2.2.2 = []) (hd : 6 ≤ d) (h1 : kc + 1 ≤ mc) (h2 : ks + 6 ≤ ms) (hst : (st.map fun v => v.category).sum ≤ 8) : tw_C g y d mc ms Q pc L st kc ks (tw_th cls (fun E => Q (.inr E))) := by
  intro M hF p e s m args below meth c H locs ls X hR hS hL
  obtain ⟨w1, w2, w3, w4⟩ := hw
  have ht : c.exceptionTable.toList = [] := by
    obtain ⟨-, -, -, -, -, -, -, -, -, h, -⟩ := X
    rw [hh] at h
    exact h
  obtain ⟨o1, o2, o3, o4, o5, -, -, o8, -⟩ := tw_gk X
  obtain ⟨sa, hsa⟩ := o8 _ _ _ w3
  have hbl : ∀ a : Nat, a < (tw_s0 g).heap.size → ¬ tw_A g a → s.heap[a]? = (tw_s0 g).heap[a]? := fun a h1 _ => (tw_sz X).2 a h1
  have hU := (vx_Zq.moved (tw_wm X).alike (o4.kept hbl))
  have hN := (vx_Zq.moved (tw_wm X).alike (o5.kept hbl))
  have hml : ls.size = c.maxLocals := by
    obtain ⟨-, -, -, h, -⟩ := X
    rw [h]; exact hL.1
  refine vx_throwSW (names := ["java/lang/RuntimeException", "java/lang/Exception"]) (A := tw_A g) (text := tx) (sa := sa) (tw_ex X) (tw_cd X) o1 (tw_ow X) hcls (by decide +kernel) (tw_wd X w1 rfl args) (tw_wd X w2 rfl args) (vk_R.warm (tw_wm X) hsa) (fun w hw9 => tw_wd2 X (w4 w hw9).1 (w4 w hw9).2.1 args) ?_ hU hN hS hml (tw_dec X d0).1 (tw_dec X d3).1 (tw_dec X d4).1 (tw_dec X d6).1 (tw_dec X d9).1 (fun x hx => by rw [ht] at hx; cases hx) (by show 5 < d; omega) (by show _ + 82 ≤ 64 * d; omega) (by show kc + 1 ≤ mc; exact h1) (by show ks + 6 ≤ ms; exact h2) (tw_hr X).2 (fun t hal z1 z2 => ⟨⟨_, hF t.heap.size (by rw [← hR.2.1]; exact z1), (hR.junk z1 z2).moved hal⟩, ?_⟩) hS.2.2 h1 h2
  · intro w hw9
    rcases List.mem_cons.mp hw9 with rfl | hw9
    · rfl
    · rcases List.mem_cons.mp hw9 with rfl | hw9
      · rfl
      · exact (w4 w hw9).2.2
  · exact ⟨Nat.le_trans hS.1 z1, fun q h8 h9 => (z2 q (Nat.lt_of_lt_of_le h8 hS.1)).trans (hS.2.1 q h8 h9)⟩
end TWT
