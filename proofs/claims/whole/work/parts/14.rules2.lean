/-! ===== stores with the new locals spelt out ===== -/
section TWR2
variable {g : tw_Gx} {y : tw_MD} {d mc ms : Nat} {Q : tw_Rs → tw_Mem → Prop} {pc npc : Nat} {L : List (Option Value)} {st : List Value} {kc ks : Nat} {F : tw_Mem → Prop}
theorem tw_ist_n {k : Nat} {i : Fin 4} {x : Int32} (L' : List (Option Value)) (hd : (tw_tb y)[k]? = some (pc, .istore_n i, 1, npc)) (hi : (i : Nat) < y.2.2.1) (ho : tw_okL L i = true) (hL : L.set i (some (.int x)) = L') (n : tw_C g y d mc ms Q npc L' st kc ks F) : tw_C g y d mc ms Q pc L (.int x :: st) kc ks F := by subst hL; exact tw_istore_n hd hi ho n
theorem tw_ist {k i : Nat} {x : Int32} (L' : List (Option Value)) (hd : (tw_tb y)[k]? = some (pc, .istore i, 2, npc)) (hi : i < y.2.2.1) (ho : tw_okL L i = true) (hL : L.set i (some (.int x)) = L') (n : tw_C g y d mc ms Q npc L' st kc ks F) : tw_C g y d mc ms Q pc L (.int x :: st) kc ks F := by subst hL; exact tw_istore hd hi ho n
theorem tw_ast_n {k : Nat} {i : Fin 4} {x : Nat} (L' : List (Option Value)) (hd : (tw_tb y)[k]? = some (pc, .astore_n i, 1, npc)) (hi : (i : Nat) < y.2.2.1) (ho : tw_okL L i = true) (hL : L.set i (some (.ref x)) = L') (n : tw_C g y d mc ms Q npc L' st kc ks F) : tw_C g y d mc ms Q pc L (.ref x :: st) kc ks F := by subst hL; exact tw_astore_n hd hi ho n
theorem tw_ast {k i : Nat} {x : Nat} (L' : List (Option Value)) (hd : (tw_tb y)[k]? = some (pc, .astore i, 2, npc)) (hi : i < y.2.2.1) (ho : tw_okL L i = true) (hL : L.set i (some (.ref x)) = L') (n : tw_C g y d mc ms Q npc L' st kc ks F) : tw_C g y d mc ms Q pc L (.ref x :: st) kc ks F := by subst hL; exact tw_astore hd hi ho n
theorem tw_astV_n {k : Nat} {i : Fin 4} {x : Option Nat} (L' : List (Option Value)) (hd : (tw_tb y)[k]? = some (pc, .astore_n i, 1, npc)) (hi : (i : Nat) < y.2.2.1) (ho : tw_okL L i = true) (hL : L.set i (some (va_rf x)) = L') (n : tw_C g y d mc ms Q npc L' st kc ks F) : tw_C g y d mc ms Q pc L (va_rf x :: st) kc ks F := by subst hL; exact tw_astoreV_n hd hi ho n
theorem tw_lst_n {k : Nat} {i : Fin 4} {x : Int64} (L' : List (Option Value)) (hd : (tw_tb y)[k]? = some (pc, .lstore_n i, 1, npc)) (hi : (i : Nat) + 1 < y.2.2.1) (ho : tw_okL L i = true) (hL : (L.set i (some (.long x))).set (i + 1) none = L') (n : tw_C g y d mc ms Q npc L' st kc ks F) : tw_C g y d mc ms Q pc L (.long x :: st) kc ks F := by subst hL; exact tw_lstore_n hd hi ho n
theorem tw_lst {k i : Nat} {x : Int64} (L' : List (Option Value)) (hd : (tw_tb y)[k]? = some (pc, .lstore i, 2, npc)) (hi : i + 1 < y.2.2.1) (ho : tw_okL L i = true) (hL : (L.set i (some (.long x))).set (i + 1) none = L') (n : tw_C g y d mc ms Q npc L' st kc ks F) : tw_C g y d mc ms Q pc L (.long x :: st) kc ks F := by subst hL; exact tw_lstore hd hi ho n
theorem tw_inc {k i : Nat} {z : Int} {x : Int32} (v : Int32) (L' : List (Option Value)) (hd : (tw_tb y)[k]? = some (pc, .iinc i z, 3, npc)) (hl : L[i]? = some (some (.int x))) (hv : Int32.ofInt z = v) (hi : i < y.2.2.1) (ho : tw_okL L i = true) (hL : L.set i (some (.int (x + v))) = L') (n : tw_C g y d mc ms Q npc L' st kc ks F) : tw_C g y d mc ms Q pc L st kc ks F := by subst hL; exact tw_iinc v hd hl hv hi ho n
/-- the value of a switch is looked at, case by case -/
theorem tw_case {x c : Int32} {F G : tw_Mem → Prop} (h1 : tw_C g y d mc ms Q pc L (.int c :: st) kc ks F) (h2 : ¬ x = c → tw_C g y d mc ms Q pc L (.int x :: st) kc ks G) : tw_C g y d mc ms Q pc L (.int x :: st) kc ks (tw_if (x = c) F G) := by
  intro M hF
  unfold tw_if at hF
  by_cases hx : x = c
  · rw [if_pos hx] at hF
    subst hx
    exact h1 M hF
  · rw [if_neg hx] at hF
    exact h2 hx M hF
end TWR2
/-- the model has rows of its own only for Math's methods on floats and doubles: one pass of the kernel over the table -/
theorem tw_mathRows : (Jvm.natives.all fun r => r.cls != "java/lang/Math" || (["(D)D", "(DD)D", "(DDD)D", "(F)F", "(FF)F", "(FFF)F"] : List String).contains r.desc) = true := by decide +kernel
theorem tw_mathPlain {x : MethodName} (hc : x.cls = "java/lang/Math") (hd : (["(D)D", "(DD)D", "(DDD)D", "(F)F", "(FF)F", "(FFF)F"] : List String).contains x.desc = false) : plainFor x = true := by
  unfold plainFor
  rw [Bool.or_eq_true]; right
  rw [Option.isNone_iff_eq_none, NativeRow.find?, List.find?_eq_none]
  intro r hr h
  have := List.all_eq_true.mp tw_mathRows r hr
  simp only [Bool.and_eq_true, beq_iff_eq] at h
  rw [h.1.2, h.2, hc, hd] at this
  simp at this
/-- a switch past its cases -/
theorem tw_dfl {pc tgt : Nat} {dflt lo hi : Int} {offs : Array Int} {x : Int32} (h1 : (pc : Int) + dflt = (tgt : Int)) (h : ∀ v : Int, lo ≤ v → v ≤ hi → ¬ x = Int32.ofInt v) : (pc : Int) + tw_to dflt lo hi offs x.toInt = (tgt : Int) := by
  unfold tw_to
  rw [if_pos, h1]
  by_cases g : x.toInt < lo ∨ hi < x.toInt
  · exact g
  · exfalso
    refine h x.toInt (by omega) (by omega) ?_
    simp
theorem tw_xcs {g : tw_Gx} {y : tw_MD} {d mc ms : Nat} {Q : tw_Rs → tw_Mem → Prop} {pc : Nat} {L : List (Option Value)} {st : List Value} {kc ks : Nat} {E cls : String} {F G : tw_Mem → Prop} (h1 : E = cls → tw_CX g y d mc ms Q pc L st kc ks E F) (h2 : ¬ E = cls → tw_CX g y d mc ms Q pc L st kc ks E G) : tw_CX g y d mc ms Q pc L st kc ks E (tw_xc E cls F G) := by
  intro M hF
  unfold tw_xc at hF
  by_cases hx : E = cls
  · rw [if_pos hx] at hF
    exact h1 hx M hF
  · rw [if_neg hx] at hF
    exact h2 hx M hF
/-- a private method of a class that the receiver's class extends -/
theorem tw_selP {s : State} {args : Array Value} {C : String} {y z : MethodName} (hyz : y.cls = z.cls) (hy : y.cls ≠ "java/lang/invoke/MethodHandle" ∧ y.cls ≠ "java/lang/invoke/VarHandle") (hz : (Cond.selects C z z).before args s = true) (hpriv : (Cond.privateMethod y).before args s = true) (hinst : (Cond.instanceMethod y).before args s = true) : (Cond.selects C y y).before args s = true := by
  obtain ⟨c, r, m, h1, h2, h3, h4, mk, h5, h6⟩ := Cond.selects_spec hz
  obtain ⟨mk', methM, hnamed, hmethM, -, -⟩ := Cond.instanceMethod_spec hinst
  have hcls : mk'.cls = m.cls := by
    have e1 := findClass_of_methodNamed hnamed
    have e2 := findClass_of_methodNamed h3
    rw [hyz] at e1
    exact Option.some.inj (e1.symm.trans e2)
  have hfound : s.methodFound? y.cls y.name y.desc = some mk' := State.methodFound?_of_named hnamed hy
  have hsel : selectMethod {} s.vm c mk' = .method mk' := selectMethod_private hmethM (Cond.privateMethod_at hpriv mk' methM hnamed hmethM)
  simp only [Cond.before, Cond.holds, Cond.value, h1, hfound, hnamed, hsel, hcls, h5]
  simp; exact h6
/-- the receiver is a text of the law or of the town (classes 1 and 8 of the list) -/
def tw_iw (b : Nat) (F : tw_Mem → Prop) : tw_Mem → Prop := fun M => (tw_is M.1 b 1 ∨ tw_is M.1 b 8) ∧ F M
def tw_wT (own : String) (ix : Nat) (y : tw_MD) : Prop := Cond.methodLink own ix y.1 ∈ lw_tbl ∧ Cond.instanceMethod y.1 ∈ lw_tbl ∧ (Cond.privateMethod y.1 ∈ lw_tbl ∨ Cond.selects RX1 y.1 y.1 ∈ lw_tbl ∧ Cond.selects RX9 y.1 y.1 ∈ lw_tbl) ∧ Cond.initialized y.1.cls ∈ lw_tbl ∧ Cond.code y.1 y.2.1 y.2.2.1 y.2.2.2.1 ∈ lw_tbl
theorem tw_sgL : Cond.selects RX1 yX7_takeSign yX7_takeSign ∈ lw_tbl := List.mem_of_getElem? (i := 2463) (by decide +kernel)
theorem tw_sgT : Cond.selects RX9 yX7_takeSign yX7_takeSign ∈ lw_tbl := List.mem_of_getElem? (i := 2464) (by decide +kernel)
section TWTX
variable {g : tw_Gx} {y : tw_MD} {d mc ms : Nat} {Q : tw_Rs → tw_Mem → Prop} {pc npc : Nat} {L : List (Option Value)} {st : List Value} {kc ks : Nat}
theorem tw_callT {y' : tw_MD} {k ix d' mc' ms' n b : Nat} {α : Type} (cv : α → Option Value) (hcv : ∀ a b, cv a = cv b → a = b) {f : (α → tw_Mem → Prop) → tw_Mem → Prop} {G : α → tw_Mem → Prop} (As : List Value) {As' : List Value} (hAs : As' = As.reverse ++ .ref b :: st) (hd : (tw_tb y)[k]? = some (pc, .invokevirtual ix, 3, npc)) (hw : tw_wT y.1.cls ix y') (hm : tw_mok y' n) (hcl : y'.1.cls = RX7) (hn : As.length = n)
    (hK : ∀ Q', tw_Kt g y' d' mc' ms' (.ref b :: As) Q' (f (fun v => Q' (.inl (cv v))))) (hdd : d' + 1 ≤ d) (h1 : kc + mc' ≤ mc) (h2 : ks + ms' ≤ ms) (hst : (st.map fun v => v.category).sum ≤ 8)
    (nn : ∀ v, tw_C g y d mc ms Q npc L ((cv v).toList ++ st) (kc + mc') (ks + ms') (G v)) : tw_C g y d mc ms Q pc L As' kc ks (tw_iw b (f G)) := by
  subst hAs
  intro M hF p e s m args below meth c H locs ls X hR hS hL
  obtain ⟨hdec, rfl⟩ := tw_dec X hd
  obtain ⟨his, hF⟩ := hF
  obtain ⟨w1, w2, w3, w4, w5⟩ := hw
  have hM := hK (tw_Qp cv G (fun _ _ => False)) (tw_gk X) M (by rw [tw_Qp_l hcv]; exact hF)
  have key : ∀ (t : Nat) (Cq : vw_C), tw_cl[t]? = some Cq → tw_is M.1 b t → (Cond.selects Cq.1 y'.1 y'.1).before args s = true → W p g.1 e (tw_rm d mc ms) s m args below meth c H locs kc ks (vx_MQ below (tw_Qc g Q) (tw_Xc g Q) args s mc ms (tw_A g)) (F0 m pc ls (As.reverse ++ .ref b :: st)) := fun t Cq hq hi hsel =>
    tw_after (XF := fun _ _ => False) X hS hL (vx_runV (rest := st) (n := n) (As := As) (b := b) (C := Cq.1) (tw_cf X args) hM ⟨tw_cb X args hm hdd w1 w4 w5, tw_wd X w2 rfl args, hsel⟩ ⟨tw_blind, tw_recv X hR hq hi, tw_pre X hR _⟩ rfl hn hL.1 rfl (by show 2 * 0 + _ ≤ 8; omega) hdec ⟨h1, h2⟩) nn (fun _ => tw_never)
  rcases his with hi | hi
  · refine key 1 _ rfl hi ?_
    rcases w3 with w3 | ⟨w3, -⟩
    · exact tw_selP (z := yX7_takeSign) hcl ⟨hm.2.1, hm.2.2.1⟩ (tw_wd X tw_sgL rfl args) (tw_wd2 X w3 rfl args) (tw_wd X w2 rfl args)
    · exact tw_wd X w3 rfl args
  · refine key 8 _ rfl hi ?_
    rcases w3 with w3 | ⟨-, w3⟩
    · exact tw_selP (z := yX7_takeSign) hcl ⟨hm.2.1, hm.2.2.1⟩ (tw_wd X tw_sgT rfl args) (tw_wd2 X w3 rfl args) (tw_wd X w2 rfl args)
    · exact tw_wd X w3 rfl args
/-- a method of a text constant -/
def tw_ij (b : Nat) (F : tw_Mem → Prop) : tw_Mem → Prop := fun M => (∃ n r, M.1 b = some (6, n, r)) ∧ F M
theorem tw_callJ {y' : tw_MD} {k ix d' mc' ms' n b : Nat} {α : Type} (cv : α → Option Value) (hcv : ∀ a b, cv a = cv b → a = b) {f : (α → tw_Mem → Prop) → tw_Mem → Prop} {G : α → tw_Mem → Prop} (As : List Value) {As' : List Value} (hAs : As' = As.reverse ++ .ref b :: st) (hd : (tw_tb y)[k]? = some (pc, .invokevirtual ix, 3, npc)) (hw : tw_wV y.1.cls ix y') (hm : tw_mok y' n) (hcl : "java/lang/String" = y'.1.cls) (hn : As.length = n)
    (hK : ∀ Q', tw_Kt g y' d' mc' ms' (.ref b :: As) Q' (f (fun v => Q' (.inl (cv v))))) (hdd : d' + 1 ≤ d) (h1 : kc + mc' ≤ mc) (h2 : ks + ms' ≤ ms) (hst : (st.map fun v => v.category).sum ≤ 8)
    (nn : ∀ v, tw_C g y d mc ms Q npc L ((cv v).toList ++ st) (kc + mc') (ks + ms') (G v)) : tw_C g y d mc ms Q pc L As' kc ks (tw_ij b (f G)) := by
  subst hAs
  intro M hF p e s m args below meth c H locs ls X hR hS hL
  obtain ⟨hdec, rfl⟩ := tw_dec X hd
  obtain ⟨⟨n0, r0, his⟩, hF⟩ := hF
  obtain ⟨w1, w2, w3, w4, w5⟩ := hw
  have hM := hK (tw_Qp cv G (fun _ _ => False)) (tw_gk X) M (by rw [tw_Qp_l hcv]; exact hF)
  obtain ⟨⟨cell, q1, q2, q3, q4⟩, -⟩ : tw_ce g M s H b (6, n0, r0) := hR.2.2.2 b _ his
  refine tw_after (XF := fun _ _ => False) X hS hL (vx_runV (rest := st) (n := n) (As := As) (b := b) (C := y'.1.cls) (tw_cf X args) hM ⟨tw_cb X args hm hdd w1 w4 w5, tw_wd X w2 rfl args, tw_wd X w3 rfl args⟩ ⟨tw_blind, ⟨cell, q1, q2, by rw [← hcl]; exact q3⟩, tw_pre X hR _⟩ rfl hn hL.1 rfl (by show 2 * 0 + _ ≤ 8; omega) hdec ⟨h1, h2⟩) nn (fun _ => tw_never)
/-- a branch whose way is known -/
theorem tw_icmp_ge_t {k : Nat} {x z : Int32} {off : Int} {F : tw_Mem → Prop} (tgt : Nat) (hd : (tw_tb y)[k]? = some (pc, .if_icmp .ge off, 3, npc)) (ht : (pc : Int) + off = (tgt : Int)) (hc : ¬ x < z) (n : tw_C g y d mc ms Q tgt L st kc ks F) : tw_C g y d mc ms Q pc L (.int z :: .int x :: st) kc ks F := by
  intro M hF
  exact tw_icmp_ge (F := fun _ => False) tgt hd ht n (fun _ h => h.elim) M (by unfold tw_if; rw [if_neg hc]; exact hF)
theorem tw_icmp_ge_f {k : Nat} {x z : Int32} {off : Int} {F : tw_Mem → Prop} (tgt : Nat) (hd : (tw_tb y)[k]? = some (pc, .if_icmp .ge off, 3, npc)) (ht : (pc : Int) + off = (tgt : Int)) (hc : x < z) (n : tw_C g y d mc ms Q npc L st kc ks F) : tw_C g y d mc ms Q pc L (.int z :: .int x :: st) kc ks F := by
  intro M hF
  exact tw_icmp_ge (G := fun _ => False) tgt hd ht (fun _ h => h.elim) n M (by unfold tw_if; rw [if_pos hc]; exact hF)
theorem tw_i2c {k : Nat} {x : Int32} {F : tw_Mem → Prop} (hd : (tw_tb y)[k]? = some (pc, .i2c, 1, npc)) (n : tw_C g y d mc ms Q npc L (.int ((x.toUInt32 % 65536).toInt32) :: st) kc ks F) : tw_C g y d mc ms Q pc L (.int x :: st) kc ks F := by
  intro M hF p e s m args below meth c H locs ls X hR hS hL
  obtain ⟨hdec, rfl⟩ := tw_dec X hd
  exact lv_i2c (tw_ex X) (tw_cd X) hdec rfl (n M hF p e s m args below meth c H locs ls X hR hS hL)
/-- an array of ints lies there -/
def tw_ck (b : Nat) (F : tw_Mem → Prop) : tw_Mem → Prop := fun M => (∃ n r, M.1 b = some (0, n, r)) ∧ F M
theorem tw_castI {k ix b : Nat} {F : tw_Mem → Prop} (hd : (tw_tb y)[k]? = some (pc, .checkcast ix, 3, npc)) (hw : Cond.classLink y.1.cls ix "[I" ∈ lw_tbl) (n : tw_C g y d mc ms Q npc L (.ref b :: st) kc ks F) : tw_C g y d mc ms Q pc L (.ref b :: st) kc ks (tw_ck b F) := by
  intro M hF p e s m args below meth c H locs ls X hR hS hL
  obtain ⟨hdec, rfl⟩ := tw_dec X hd
  obtain ⟨⟨n0, r0, h1⟩, hF⟩ := hF
  have hc := hR.2.2.2 b _ h1
  have hP : va_P (g.2.2.2.1, g.2.2.2.2.1) tw_cl [(b, .inl (g.2.2.2.2.2 0, (n0, .inl (M.2.1 b))))] H := by
    intro j q hq
    cases j with
    | zero => cases hq; exact hc.2
    | succ j => simp at hq
  exact va_castA (tw_ex X) (tw_cd X) (tw_ow X) (tw_wd X hw rfl args) hP 0 rfl (tw_arr X (k := 0) rfl).2 hdec (n M hF p e s m args below meth c H locs ls X hR hS hL)
end TWTX
