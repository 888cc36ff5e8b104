/-! ===== returns, loops, joins ===== -/
/-- a loop: at most n rounds -/
def tw_whl {σ : Type} (b : (σ → tw_Mem → Prop) → σ → tw_Mem → Prop) : Nat → σ → tw_Mem → Prop
  | 0 => fun _ _ => False
  | n + 1 => b (tw_whl b n)
def tw_lp {σ : Type} (b : (σ → tw_Mem → Prop) → σ → tw_Mem → Prop) (s : σ) : tw_Mem → Prop := fun M => ∃ n, tw_whl b n s M
/-- a join: what lies behind it is said once -/
def tw_jn {σ : Type} (J : σ → tw_Mem → Prop) (B : (σ → tw_Mem → Prop) → tw_Mem → Prop) : tw_Mem → Prop := B J
/-- a value by a name -/
def tw_lt {α : Type} (v : α) (G : α → tw_Mem → Prop) : tw_Mem → Prop := G v
section TWF
variable {g : tw_Gx} {y : tw_MD} {d mc ms : Nat} {Q : tw_Rs → tw_Mem → Prop} {pc npc : Nat} {L : List (Option Value)} {st : List Value} {kc ks : Nat} {F : tw_Mem → Prop}
theorem tw_loop {σ : Type} {b : (σ → tw_Mem → Prop) → σ → tw_Mem → Prop} (Lf : σ → List (Option Value)) (sf : σ → List Value) (h : ∀ rec : σ → tw_Mem → Prop, (∀ s, tw_C g y d mc ms Q pc (Lf s) (sf s) kc ks (rec s)) → ∀ s, tw_C g y d mc ms Q pc (Lf s) (sf s) kc ks (b rec s)) (s0 : σ) (hL : L = Lf s0) (hs : st = sf s0) : tw_C g y d mc ms Q pc L st kc ks (tw_lp b s0) := by
  subst hL; subst hs
  have key : ∀ (n : Nat) (s : σ), tw_C g y d mc ms Q pc (Lf s) (sf s) kc ks (tw_whl b n s) := by
    intro n
    induction n with
    | zero => intro s M hF; exact hF.elim
    | succ n ih => exact h (tw_whl b n) ih
  intro M hF
  obtain ⟨n, hn⟩ := hF
  exact key n s0 M hn
theorem tw_join {σ : Type} {J : σ → tw_Mem → Prop} {B : (σ → tw_Mem → Prop) → tw_Mem → Prop} (pj : Nat) (Lf : σ → List (Option Value)) (sf : σ → List Value) (kj sj : Nat) (hJ : ∀ s, tw_C g y d mc ms Q pj (Lf s) (sf s) kj sj (J s)) (hB : ∀ K : σ → tw_Mem → Prop, (∀ s, tw_C g y d mc ms Q pj (Lf s) (sf s) kj sj (K s)) → tw_C g y d mc ms Q pc L st kc ks (B K)) : tw_C g y d mc ms Q pc L st kc ks (tw_jn J B) := hB J hJ
theorem tw_let {α : Type} {v : α} {G : α → tw_Mem → Prop} (Lf : α → List (Option Value)) (sf : α → List Value) (hL : L = Lf v) (hs : st = sf v) (n : ∀ x, tw_C g y d mc ms Q pc (Lf x) (sf x) kc ks (G x)) : tw_C g y d mc ms Q pc L st kc ks (tw_lt v G) := by
  subst hL; subst hs; exact n v
/-- fewer known locals -/
def tw_sub : List (Option Value) → List (Option Value) → Prop
  | [], [] => True
  | a :: l, b :: k => (a = none ∨ a = b) ∧ tw_sub l k
  | _, _ => False
theorem tw_sub_at : ∀ {l k : List (Option Value)}, tw_sub l k → l.length = k.length ∧ ∀ (i : Nat) (v : Value), l[i]? = some (some v) → k[i]? = some (some v)
  | [], [], _ => ⟨rfl, fun _ _ h => h⟩
  | a :: l, b :: k, h => by
    obtain ⟨h1, h2⟩ := h
    obtain ⟨e1, e2⟩ := tw_sub_at h2
    refine ⟨by simp [e1], fun i v hi => ?_⟩
    cases i with
    | zero =>
      simp only [List.getElem?_cons_zero, Option.some.injEq] at hi ⊢
      rcases h1 with h1 | h1
      · rw [h1] at hi; cases hi
      · rw [← h1]; exact hi
    | succ i => simp only [List.getElem?_cons_succ] at hi ⊢; exact e2 i v hi
  | [], _ :: _, h => h.elim
  | _ :: _, [], h => h.elim
theorem tw_wk {L' : List (Option Value)} (h : tw_sub L' L) (n : tw_C g y d mc ms Q pc L' st kc ks F) : tw_C g y d mc ms Q pc L st kc ks F := by
  intro M hF p e s m args below meth c H locs ls X hR hS hL
  obtain ⟨e1, e2⟩ := tw_sub_at h
  exact n M hF p e s m args below meth c H locs ls X hR hS ⟨hL.1, hL.2.1, by rw [e1]; exact hL.2.2.1, fun i v hi => hL.2.2.2 i v (e2 i v hi)⟩
theorem tw_wide {k2 s2 : Nat} (h1 : kc ≤ k2) (h2 : ks ≤ s2) (n : tw_C g y d mc ms Q pc L st k2 s2 F) : tw_C g y d mc ms Q pc L st kc ks F := by
  intro M hF p e s m args below meth c H locs ls X hR hS hL
  exact W.widen h1 h2 (n M hF p e s m args below meth c H locs ls X hR hS hL)
theorem tw_hr {p : Program} {s : State} {m : MethodId} {meth : Method} {c : Code} (X : tw_Fx g y p s m meth c) : meth.sig.returnType = y.2.2.2.1 ∧ meth.locks = false := by obtain ⟨-, -, -, -, h, h2, -⟩ := X; exact ⟨h, h2⟩
theorem tw_endQ {s t : State} {H : Heap} {locs : List Loc} {M : tw_Mem} {v : Option Value} {a : Array Value} (hR : tw_R g M s H) (hS : va_S (tw_A g) s.heap H locs) (hQ : Q (.inl v) M) (ht : t.heap = H) (hW : s.WarmedH t.vm) : tw_Qc g Q a s (.returned v) t := by
  refine ⟨⟨v, M, rfl, hQ, ?_⟩, hS.F ht⟩
  rw [ht]; exact hR.moved hW.alike
theorem tw_ireturn {k : Nat} {v : Int32} (hd : (tw_tb y)[k]? = some (pc, .ireturn, 1, npc)) (hr : y.2.2.2.1 = some .int) (h1 : kc ≤ mc) (h2 : ks ≤ ms) : tw_C g y d mc ms Q pc L [.int v] kc ks (Q (.inl (some (.int v)))) := by
  intro M hF p e s m args below meth c H locs ls X hR hS hL
  obtain ⟨hdec, rfl⟩ := tw_dec X hd
  refine W.widen h1 h2 (vx_ret ?_)
  exact W.iret (tw_ex X) (tw_cd X) ((tw_hr X).1.trans hr) (fun t ht hW => tw_endQ hR hS hF ht hW) hS.2.2 hdec (tw_hr X).2
theorem tw_nreturn {k : Nat} {v : Int32} {ty : FieldType} (hd : (tw_tb y)[k]? = some (pc, .ireturn, 1, npc)) (hr : y.2.2.2.1 = some ty) (h1 : kc ≤ mc) (h2 : ks ≤ ms) : tw_C g y d mc ms Q pc L [.int v] kc ks (tw_rn ty v (Q (.inl (some (.int v))))) := by
  intro M hF p e s m args below meth c H locs ls X hR hS hL
  obtain ⟨hdec, rfl⟩ := tw_dec X hd
  obtain ⟨hn, hF⟩ := hF
  refine W.widen h1 h2 (vx_ret ?_)
  exact W.zret (tw_ex X) (tw_cd X) ((tw_hr X).1.trans hr) hn (fun t ht hW => tw_endQ hR hS hF ht hW) hS.2.2 hdec (tw_hr X).2
theorem tw_zreturn {k : Nat} {v : Int32} (hd : (tw_tb y)[k]? = some (pc, .ireturn, 1, npc)) (hr : y.2.2.2.1 = some .boolean) (h1 : kc ≤ mc) (h2 : ks ≤ ms) : tw_C g y d mc ms Q pc L [.int v] kc ks (tw_rz v (Q (.inl (some (.int v))))) := by
  intro M hF
  exact tw_nreturn (ty := .boolean) hd hr h1 h2 M ⟨tw_nbool hF.1, hF.2⟩
theorem tw_lreturn {k : Nat} {v : Int64} (hd : (tw_tb y)[k]? = some (pc, .lreturn, 1, npc)) (hr : y.2.2.2.1 = some .long) (h1 : kc ≤ mc) (h2 : ks ≤ ms) : tw_C g y d mc ms Q pc L [.long v] kc ks (Q (.inl (some (.long v)))) := by
  intro M hF p e s m args below meth c H locs ls X hR hS hL
  obtain ⟨hdec, rfl⟩ := tw_dec X hd
  refine W.widen h1 h2 (vx_ret ?_)
  exact W.lret (tw_ex X) (tw_cd X) ((tw_hr X).1.trans hr) (fun t ht hW => tw_endQ hR hS hF ht hW) hS.2.2 hdec (tw_hr X).2
theorem tw_return {k : Nat} (hd : (tw_tb y)[k]? = some (pc, .return_, 1, npc)) (hr : y.2.2.2.1 = none) (h1 : kc ≤ mc) (h2 : ks ≤ ms) : tw_C g y d mc ms Q pc L [] kc ks (Q (.inl none)) := by
  intro M hF p e s m args below meth c H locs ls X hR hS hL
  obtain ⟨hdec, rfl⟩ := tw_dec X hd
  refine W.widen h1 h2 (vx_ret ?_)
  exact W.vret (tw_ex X) (tw_cd X) ((tw_hr X).1.trans hr) (fun t ht hW => tw_endQ hR hS hF ht hW) hS.2.2 hdec (tw_hr X).2
theorem tw_areturn {k : Nat} {v : Option Nat} {rt : FieldType} (hd : (tw_tb y)[k]? = some (pc, .areturn, 1, npc)) (hr : y.2.2.2.1 = some rt) (hrt : (∃ n, rt = .object n) ∨ ∃ t, rt = .array t) (h1 : kc ≤ mc) (h2 : ks ≤ ms) : tw_C g y d mc ms Q pc L [va_rf v] kc ks (Q (.inl (some (va_rf v)))) := by
  intro M hF p e s m args below meth c H locs ls X hR hS hL
  obtain ⟨hdec, rfl⟩ := tw_dec X hd
  refine W.widen h1 h2 (vx_ret ?_)
  exact W.aret (tw_ex X) (tw_cd X) ((tw_hr X).1.trans hr) hrt (by cases v with
    | none => exact Or.inl rfl
    | some a => exact Or.inr ⟨a, rfl⟩) (fun t ht hW => tw_endQ hR hS hF ht hW) hS.2.2 hdec (tw_hr X).2
/-- null or not -/
def tw_nn (x : Option Nat) (G : Nat → tw_Mem → Prop) (N : tw_Mem → Prop) : tw_Mem → Prop := fun M => match x with
  | some a => G a M
  | none => N M
theorem tw_ifnonnull {k : Nat} {off : Int} {x : Option Nat} {G : Nat → tw_Mem → Prop} {N : tw_Mem → Prop} (Lf : Option Nat → List (Option Value)) (tgt : Nat) (hd : (tw_tb y)[k]? = some (pc, .ifnonnull off, 3, npc)) (ht : (pc : Int) + off = (tgt : Int)) (hL' : L = Lf x) (ks1 : ∀ a, tw_C g y d mc ms Q tgt (Lf (some a)) st kc ks (G a)) (kn : tw_C g y d mc ms Q npc (Lf none) st kc ks N) : tw_C g y d mc ms Q pc L (va_rf x :: st) kc ks (tw_nn x G N) := by
  subst hL'
  intro M hF p e s m args below meth c H locs ls X hR hS hL
  obtain ⟨hdec, rfl⟩ := tw_dec X hd
  cases x with
  | some a => exact lv_ifnonnull (tw_ex X) (tw_cd X) hdec ht (ks1 a M hF p e s m args below meth c H locs ls X hR hS hL)
  | none => exact lv_ifnonnullN (tw_ex X) (tw_cd X) hdec (kn M hF p e s m args below meth c H locs ls X hR hS hL)
theorem tw_aloadV {k i : Nat} {x : Option Nat} (hd : (tw_tb y)[k]? = some (pc, .aload i, 2, npc)) (hl : L[i]? = some (some (va_rf x))) (n : tw_C g y d mc ms Q npc L (va_rf x :: st) kc ks F) : tw_C g y d mc ms Q pc L st kc ks F := by
  intro M hF p e s m args below meth c H locs ls X hR hS hL
  obtain ⟨hdec, rfl⟩ := tw_dec X hd
  have kk := n M hF p e s m args below meth c H locs ls X hR hS hL
  cases x with
  | some a => exact lv_aload (tw_ex X) (tw_cd X) hdec (hL.get hl) kk
  | none => exact lv_aloadN (tw_ex X) (tw_cd X) hdec (hL.get hl) kk
theorem tw_aloadV_n {k : Nat} {i : Fin 4} {x : Option Nat} (hd : (tw_tb y)[k]? = some (pc, .aload_n i, 1, npc)) (hl : L[(i : Nat)]? = some (some (va_rf x))) (n : tw_C g y d mc ms Q npc L (va_rf x :: st) kc ks F) : tw_C g y d mc ms Q pc L st kc ks F := by
  intro M hF p e s m args below meth c H locs ls X hR hS hL
  obtain ⟨hdec, rfl⟩ := tw_dec X hd
  have kk := n M hF p e s m args below meth c H locs ls X hR hS hL
  cases x with
  | some a => exact lv_aload_n (tw_ex X) (tw_cd X) hdec rfl (hL.get hl) kk
  | none => exact lv_aload_nN (tw_ex X) (tw_cd X) hdec rfl (hL.get hl) kk
theorem tw_astoreV_n {k : Nat} {i : Fin 4} {x : Option Nat} (hd : (tw_tb y)[k]? = some (pc, .astore_n i, 1, npc)) (hi : (i : Nat) < y.2.2.1) (ho : tw_okL L i = true) (n : tw_C g y d mc ms Q npc (L.set i (some (va_rf x))) st kc ks F) : tw_C g y d mc ms Q pc L (va_rf x :: st) kc ks F := by
  intro M hF p e s m args below meth c H locs ls X hR hS hL
  obtain ⟨hdec, rfl⟩ := tw_dec X hd
  cases x with
  | some a => exact lv_astore_n (tw_ex X) (tw_cd X) hdec rfl hL.has hi rfl (fun ls9 h9 => n M hF p e s m args below meth c H locs ls9 X hR hS (hL.set1 ho h9))
  | none => exact lv_astore_nN (tw_ex X) (tw_cd X) hdec rfl hL.has hi rfl (fun ls9 h9 => n M hF p e s m args below meth c H locs ls9 X hR hS (hL.set1 ho h9))
theorem tw_null {k : Nat} (hd : (tw_tb y)[k]? = some (pc, .aconst_null, 1, npc)) (n : tw_C g y d mc ms Q npc L (va_rf none :: st) kc ks F) : tw_C g y d mc ms Q pc L st kc ks F := by
  intro M hF p e s m args below meth c H locs ls X hR hS hL
  obtain ⟨hdec, rfl⟩ := tw_dec X hd
  exact lv_null (tw_ex X) (tw_cd X) hdec (n M hF p e s m args below meth c H locs ls X hR hS hL)
/-- the table of a switch: where it goes -/
def tw_to (dflt lo hi : Int) (offs : Array Int) (x : Int) : Int := if x < lo ∨ hi < x then dflt else offs.getD (x - lo).toNat 0
theorem tw_switch {k len : Nat} {dflt lo hi : Int} {offs : Array Int} {x : Int32} (tgt : Nat) (hd : (tw_tb y)[k]? = some (pc, .tableswitch dflt lo hi offs, len, npc)) (hsz : (offs.size : Int) = hi - lo + 1) (ht : (pc : Int) + tw_to dflt lo hi offs x.toInt = (tgt : Int)) (n : tw_C g y d mc ms Q tgt L st kc ks F) : tw_C g y d mc ms Q pc L (.int x :: st) kc ks F := by
  intro M hF p e s m args below meth c H locs ls X hR hS hL
  obtain ⟨hdec, rfl⟩ := tw_dec X hd
  have kk := n M hF p e s m args below meth c H locs ls X hR hS hL
  unfold tw_to at ht
  by_cases hx : x.toInt < lo ∨ hi < x.toInt
  · rw [if_pos hx] at ht
    exact lv_tableOut (tw_ex X) (tw_cd X) hdec hx ht kk
  · rw [if_neg hx] at ht
    have hlt : (x.toInt - lo).toNat < offs.size := by omega
    refine lv_tableIn (tw_ex X) (tw_cd X) hdec (fun z => hx (Or.inl z)) (fun z => hx (Or.inr z)) (Array.getElem?_eq_getElem hlt) ?_ kk
    rw [Array.getD_eq_getD_getElem?, Array.getElem?_eq_getElem hlt] at ht
    exact ht
end TWF
