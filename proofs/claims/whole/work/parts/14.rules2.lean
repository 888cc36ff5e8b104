/-! ===== stores with the new locals spelt out ===== -/
section TWR2
variable {g : tw_Gx} {y : tw_MD} {d mc ms : Nat} {Q : tw_Rs → tw_Mem → Prop} {pc npc : Nat} {L : List (Option Value)} {st : List Value} {kc ks : Nat} {F : tw_Mem → Prop}
theorem tw_ist_n {k : Nat} {i : Fin 4} {x : Int32} (L' : List (Option Value)) (hd : (tw_tb y)[k]? = some (pc, .istore_n i, 1, npc)) (hi : (i : Nat) < y.2.2.1) (ho : tw_okL L i = true) (hL : L.set i (some (.int x)) = L') (n : tw_C g y d mc ms Q npc L' st kc ks F) : tw_C g y d mc ms Q pc L (.int x :: st) kc ks F := by subst hL; exact tw_istore_n hd hi ho n
theorem tw_ist {k i : Nat} {x : Int32} (L' : List (Option Value)) (hd : (tw_tb y)[k]? = some (pc, .istore i, 2, npc)) (hi : i < y.2.2.1) (ho : tw_okL L i = true) (hL : L.set i (some (.int x)) = L') (n : tw_C g y d mc ms Q npc L' st kc ks F) : tw_C g y d mc ms Q pc L (.int x :: st) kc ks F := by subst hL; exact tw_istore hd hi ho n
theorem tw_ast_n {k : Nat} {i : Fin 4} {x : Nat} (L' : List (Option Value)) (hd : (tw_tb y)[k]? = some (pc, .astore_n i, 1, npc)) (hi : (i : Nat) < y.2.2.1) (ho : tw_okL L i = true) (hL : L.set i (some (.ref x)) = L') (n : tw_C g y d mc ms Q npc L' st kc ks F) : tw_C g y d mc ms Q pc L (.ref x :: st) kc ks F := by subst hL; exact tw_astore_n hd hi ho n
theorem tw_ast {k i : Nat} {x : Nat} (L' : List (Option Value)) (hd : (tw_tb y)[k]? = some (pc, .astore i, 2, npc)) (hi : i < y.2.2.1) (ho : tw_okL L i = true) (hL : L.set i (some (.ref x)) = L') (n : tw_C g y d mc ms Q npc L' st kc ks F) : tw_C g y d mc ms Q pc L (.ref x :: st) kc ks F := by subst hL; exact tw_astore hd hi ho n
theorem tw_astV_n {k : Nat} {i : Fin 4} {x : Option Nat} (L' : List (Option Value)) (hd : (tw_tb y)[k]? = some (pc, .astore_n i, 1, npc)) (hi : (i : Nat) < y.2.2.1) (ho : tw_okL L i = true) (hL : L.set i (some (va_rf x)) = L') (n : tw_C g y d mc ms Q npc L' st kc ks F) : tw_C g y d mc ms Q pc L (va_rf x :: st) kc ks F := by subst hL; exact tw_astoreV_n hd hi ho n
theorem tw_lst_n {k : Nat} {i : Fin 4} {x : Int64} (L' : List (Option Value)) (hd : (tw_tb y)[k]? = some (pc, .lstore_n i, 1, npc)) (hi : (i : Nat) + 1 < y.2.2.1) (ho : tw_okL L i = true) (hL : (L.set i (some (.long x))).set (i + 1) none = L') (n : tw_C g y d mc ms Q npc L' st kc ks F) : tw_C g y d mc ms Q pc L (.long x :: st) kc ks F := by subst hL; exact tw_lstore_n hd hi ho n
theorem tw_lst {k i : Nat} {x : Int64} (L' : List (Option Value)) (hd : (tw_tb y)[k]? = some (pc, .lstore i, 2, npc)) (hi : i + 1 < y.2.2.1) (ho : tw_okL L i = true) (hL : (L.set i (some (.long x))).set (i + 1) none = L') (n : tw_C g y d mc ms Q npc L' st kc ks F) : tw_C g y d mc ms Q pc L (.long x :: st) kc ks F := by subst hL; exact tw_lstore hd hi ho n
theorem tw_inc {k i : Nat} {z : Int} {x : Int32} (v : Int32) (L' : List (Option Value)) (hd : (tw_tb y)[k]? = some (pc, .iinc i z, 3, npc)) (hl : L[i]? = some (some (.int x))) (hv : Int32.ofInt z = v) (hi : i < y.2.2.1) (ho : tw_okL L i = true) (hL : L.set i (some (.int (x + v))) = L') (n : tw_C g y d mc ms Q npc L' st kc ks F) : tw_C g y d mc ms Q pc L st kc ks F := by subst hL; exact tw_iinc v hd hl hv hi ho n
/-- the value of a switch is looked at, case by case -/
theorem tw_case {x c : Int32} {F G : tw_Mem → Prop} (h1 : tw_C g y d mc ms Q pc L (.int c :: st) kc ks F) (h2 : ¬ x = c → tw_C g y d mc ms Q pc L (.int x :: st) kc ks G) : tw_C g y d mc ms Q pc L (.int x :: st) kc ks (tw_if (x = c) F G) := by
  intro M hF
  unfold tw_if at hF
  by_cases hx : x = c
  · rw [if_pos hx] at hF
    subst hx
    exact h1 M hF
  · rw [if_neg hx] at hF
    exact h2 hx M hF
end TWR2
/-- the model has rows of its own only for Math's methods on floats and doubles: one pass of the kernel over the table -/
theorem tw_mathRows : (Jvm.natives.all fun r => r.cls != "java/lang/Math" || (["(D)D", "(DD)D", "(DDD)D", "(F)F", "(FF)F", "(FFF)F"] : List String).contains r.desc) = true := by decide +kernel
theorem tw_mathPlain {x : MethodName} (hc : x.cls = "java/lang/Math") (hd : (["(D)D", "(DD)D", "(DDD)D", "(F)F", "(FF)F", "(FFF)F"] : List String).contains x.desc = false) : plainFor x = true := by
  unfold plainFor
  rw [Bool.or_eq_true]; right
  rw [Option.isNone_iff_eq_none, NativeRow.find?, List.find?_eq_none]
  intro r hr h
  have := List.all_eq_true.mp tw_mathRows r hr
  simp only [Bool.and_eq_true, beq_iff_eq] at h
  rw [h.1.2, h.2, hc, hd] at this
  simp at this
/-- a switch past its cases -/
theorem tw_dfl {pc tgt : Nat} {dflt lo hi : Int} {offs : Array Int} {x : Int32} (h1 : (pc : Int) + dflt = (tgt : Int)) (h : ∀ v : Int, lo ≤ v → v ≤ hi → ¬ x = Int32.ofInt v) : (pc : Int) + tw_to dflt lo hi offs x.toInt = (tgt : Int) := by
  unfold tw_to
  rw [if_pos, h1]
  by_cases g : x.toInt < lo ∨ hi < x.toInt
  · exact g
  · exfalso
    refine h x.toInt (by omega) (by omega) ?_
    simp
theorem tw_xcs {g : tw_Gx} {y : tw_MD} {d mc ms : Nat} {Q : tw_Rs → tw_Mem → Prop} {pc : Nat} {L : List (Option Value)} {st : List Value} {kc ks : Nat} {E cls : String} {F G : tw_Mem → Prop} (h1 : E = cls → tw_CX g y d mc ms Q pc L st kc ks E F) (h2 : ¬ E = cls → tw_CX g y d mc ms Q pc L st kc ks E G) : tw_CX g y d mc ms Q pc L st kc ks E (tw_xc E cls F G) := by
  intro M hF
  unfold tw_xc at hF
  by_cases hx : E = cls
  · rw [if_pos hx] at hF
    exact h1 hx M hF
  · rw [if_neg hx] at hF
    exact h2 hx M hF
