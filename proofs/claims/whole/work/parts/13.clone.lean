def tw_mkc (M : tw_Mem) (a n : Nat) : tw_Mem := (fun b => if b = M.2.2.2 then some (0, n, fun _ => none) else M.1 b, fun b j => if b = M.2.2.2 then M.2.1 a j else M.2.1 b j, M.2.2.1, M.2.2.2 + 1)
/-- an array of ints is cloned -/
def tw_cn (N a : Nat) (G : Nat → tw_Mem → Prop) : tw_Mem → Prop := fun M => ∃ x, M.1 a = some x ∧ x.1 = 0 ∧ x.2.1 ≤ N ∧ G M.2.2.2 (tw_mkc M a x.2.1)
section TWNC
variable {g : tw_Gx} {y : tw_MD} {d mc ms : Nat} {Q : tw_Rs → tw_Mem → Prop} {pc npc : Nat} {L : List (Option Value)} {st : List Value} {kc ks : Nat} {F : tw_Mem → Prop}
theorem tw_clone {k ix a : Nat} (N : Nat) {G : Nat → tw_Mem → Prop} (hd : (tw_tb y)[k]? = some (pc, .invokevirtual ix, 3, npc)) (w1 : Cond.methodLink y.1.cls ix ⟨"[I", "clone", "()Ljava/lang/Object;"⟩ ∈ lw_tbl) (w2 : Cond.sameMethod "[I" "java/lang/Object" "clone" "()Ljava/lang/Object;" ∈ lw_tbl) (w3 : Cond.native ⟨"java/lang/Object", "clone", "()Ljava/lang/Object;"⟩ ∈ lw_tbl) (w4 : Cond.instanceMethod ⟨"java/lang/Object", "clone", "()Ljava/lang/Object;"⟩ ∈ lw_tbl) (w5 : Cond.selects "[I" ⟨"[I", "clone", "()Ljava/lang/Object;"⟩ ⟨"java/lang/Object", "clone", "()Ljava/lang/Object;"⟩ ∈ lw_tbl) (w6 : Cond.castable "[I" "java/lang/Cloneable" ∈ lw_tbl)
    (hdd : 1 ≤ d) (hst : (st.map fun v => v.category).sum ≤ 8) (h1 : kc + 1 ≤ mc) (h2 : ks + N ≤ ms) (n : ∀ x, tw_C g y d mc ms Q npc L (.ref x :: st) (kc + 1) (ks + N) (G x)) : tw_C g y d mc ms Q pc L (.ref a :: st) kc ks (tw_cn N a G) := by
  intro M hF p e s m args below meth c H locs ls X hR hS hL
  obtain ⟨hdec, rfl⟩ := tw_dec X hd
  obtain ⟨⟨t1, n1, r1⟩, e1, e2, e3, hF⟩ := hF
  dsimp only at e2 e3 hF
  subst e2
  have hc := hR.2.2.2 a _ e1
  have hml : ls.size = c.maxLocals := by
    obtain ⟨-, -, -, h, -⟩ := X
    rw [h]; exact hL.1
  have hnm : s.vm.findClass "[I" = some (g.2.2.2.2.2 0) := (tw_arr X (k := 0) rfl).2
  obtain ⟨c0, t0', f1, f2, f3⟩ := Cond.castable_spec (tw_wd2 X w6 rfl args)
  cases hnm.symm.trans f1
  obtain ⟨-, kS, hkS, compS, hkindS⟩ := (tw_arr X (k := 0) rfl).1 0 (fun _ => .null)
  have hlw : 2 * (F0 m pc ls (.ref a :: st)).monitorRoom + (st.map fun v => v.category).sum + 14 ≤ (tw_rm d mc ms).locals := by
    show 2 * 0 + _ + _ ≤ 64 * d
    omega
  intro T hT XT
  obtain ⟨-, kA, hkA, comp, hkind⟩ := State.isArrayOf_alike XT.warmed.alike ((tw_arr X (k := 0) rfl).1 0 (fun _ => .null))
  have hcell : T.heap[a]? = some (arrV (g.2.2.2.2.2 0) n1 (fun j => .int (M.2.1 a j))) := by rw [hT]; exact hc.2
  obtain ⟨vm', X', step⟩ := XT.cloneArray (tw_ex X) (tw_ow X) (tw_wd X w1 rfl args) (tw_wd X w2 rfl args) (tw_wd X w3 rfl args) (tw_wd X w4 rfl args) (tw_wd X w5 rfl args) (a := a) hcell (fun k h => by cases h) (fun h => by cases h) hnm f2 f3
    (fun i v hv => by
      have hk' : T.vm.classes[g.2.2.2.2.2 0]? = some kA := hkA
      have hv' : fits .int v = true := by
        rw [show (arrV (g.2.2.2.2.2 0) n1 (fun j => Value.int (M.2.1 a j))).slots[i]? = if i < n1 then some (Value.int (M.2.1 a i)) else none from by
          by_cases hi : i < n1
          · rw [if_pos hi, arrV_read _ _ hi]
          · rw [if_neg hi]; simp [arrV]; omega] at hv
        split at hv
        · cases hv; rfl
        · cases hv
      simpa [arrV, State.fitsSlot, State.slotType?, hk', hkind] using hv')
    (g := F0 m pc ls (.ref a :: st)) rfl hml rfl (by rw [tw_cd X]; exact hdec) hdd hlw h1 (by rw [arrV_size]; show ks + n1 ≤ ms; omega) (hloader := Vm.clonesLoader_of_array hkS hkindS)
  rw [show ({ cls := (arrV (g.2.2.2.2.2 0) n1 (fun j => Value.int (M.2.1 a j))).cls, slots := (arrV (g.2.2.2.2.2 0) n1 (fun j => Value.int (M.2.1 a j))).slots } : Cell) = arrV (g.2.2.2.2.2 0) n1 (fun j => Value.int (M.2.1 a j)) from rfl, arrV_size] at X'
  generalize hH1 : H.push (arrV (g.2.2.2.2.2 0) n1 (fun j => Value.int (M.2.1 a j))) = H1
  have z1 : H1.size = H.size + 1 := by rw [← hH1, Array.size_push]
  have e9 : H1[H.size]? = some (arrV (g.2.2.2.2.2 0) n1 (fun j => Value.int (M.2.1 a j))) := by rw [← hH1, Array.getElem?_push_size]
  have e8 : H1[M.2.2.2]? = some (arrV (g.2.2.2.2.2 0) n1 (fun j => Value.int (M.2.1 a j))) := by rw [← hR.2.1]; exact e9
  have o1 : ∀ q : Nat, q < H.size → H1[q]? = H[q]? := fun q hq => by rw [← hH1, Array.getElem?_push, if_neg (Nat.ne_of_lt hq)]
  have kk := tw_wide (Nat.le_refl (kc + 1)) (show ks + n1 ≤ ks + N by omega) (n M.2.2.2) _ hF p e s m args below meth c H1 locs ls X (hR.make z1 o1 rfl (fun b hb => ⟨by simp [tw_mkc, hb], by funext j; simp [tw_mkc, hb], rfl⟩) fun x hx => by
      simp only [tw_mkc, if_true] at hx
      cases hx
      refine ⟨by show (tw_s0 g).heap.size ≤ _; rw [← hR.2.1]; exact hR.1, ?_⟩
      rw [e8]
      simp [tw_mkc]) (tw_mkS hS z1 o1) hL
  rw [← hR.2.1] at kk
  obtain ⟨t, b1, b2⟩ := kk _ (by rw [← hH1, ← hT]; rfl) X'
  exact ⟨t, step t (by rw [← hT] at b1; exact b1), b2⟩
end TWNC
