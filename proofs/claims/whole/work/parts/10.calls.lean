/-! ===== contracts, and calls by contract ===== -/
def tw_fl2 : List Value → List (Option Value)
  | [] => []
  | v :: vs => if v.category = 2 then some v :: none :: tw_fl2 vs else some v :: tw_fl2 vs
/-- the locals at a method's entry -/
def tw_en (n : Nat) (av : List Value) : List (Option Value) := tw_fl2 av ++ List.replicate (n - (tw_fl2 av).length) none
theorem tw_fl2_len : ∀ av : List Value, (lg_sl av).length = (tw_fl2 av).length
  | [] => rfl
  | v :: vs => by
    have ih := tw_fl2_len vs
    unfold lg_sl at ih ⊢
    unfold tw_fl2
    rw [List.flatMap_cons, List.length_append, ih]
    split <;> simp <;> omega
theorem tw_fl2_at : ∀ (av : List Value) (b i : Nat) (v : Value), (tw_fl2 av)[i]? = some (some v) → (b + i, v) ∈ lv_args b av
  | [], b, i, v, h => by simp [tw_fl2] at h
  | w :: vs, b, i, v, h => by
    unfold tw_fl2 at h
    unfold lv_args
    split at h
    · next hc =>
      rw [if_pos hc]
      match i, h with
      | 0, h => simp at h; subst h; exact List.mem_cons_self
      | 1, h => simp at h
      | i + 2, h =>
        simp only [List.getElem?_cons_succ] at h
        have := tw_fl2_at vs (b + 2) i v h
        rw [show b + 2 + i = b + (i + 2) by omega] at this
        exact List.mem_cons_of_mem _ this
    · next hc =>
      rw [if_neg hc]
      match i, h with
      | 0, h => simp at h; subst h; exact List.mem_cons_self
      | i + 1, h =>
        simp only [List.getElem?_cons_succ] at h
        have := tw_fl2_at vs (b + 1) i v h
        rw [show b + 1 + i = b + (i + 1) by omega] at this
        exact List.mem_cons_of_mem _ this
theorem tw_en_lv {n : Nat} {av : List Value} {ls : Array Slot} (hn : (tw_fl2 av).length ≤ n) (h : lv_has ls n (lv_args 0 av)) : tw_lv ls n (tw_en n av) := by
  refine ⟨h.1, h.2.1, by unfold tw_en; simp; omega, fun i v hi => ?_⟩
  unfold tw_en at hi
  rw [List.getElem?_append] at hi
  split at hi
  · have := tw_fl2_at av 0 i v hi
    rw [Nat.zero_add] at this
    exact h.2.2 _ this
  · rw [List.getElem?_replicate] at hi
    split at hi <;> simp at hi
theorem tw_blind {g : tw_Gx} {M : tw_Mem} {av : List Value} : FrameBlind (va_Pc av (fun U => (tw_s0 g).WarmedH U.vm ∧ tw_R g M U U.heap)) := by
  intro a U gg mk h
  exact ⟨h.1, h.2.1, h.2.2.moved (Vm.Alike.refl U.vm)⟩
theorem tw_ofW {l : Launch} {y : MethodName} {ws ws' : List Cond} {rm : Room} {Pc : Array Value → State → Prop} {Qc : Array Value → State → Outcome → State → Prop} {XC : String → State → State → Prop} {mc ms : Nat} {free : Addr → Prop} {cc : ByteArray} {maxL : Nat} {ret : Option FieldType}
    (hy : plainFor y = true) (hw : ws = Cond.code y cc maxL ret :: ws')
    (body : ∀ p e s m args below meth c s₁, BodyLoose p l y (headSpec ws rm) cc maxL ret e s m args below meth c s₁ → c.maxLocals = maxL → (∀ x ∈ c.exceptionTable.toList, False) → Pc args s →
      W p l e (headSpec ws rm).room s m args below meth c s.heap [] 0 0 (vx_MQ below Qc XC args s mc ms free) (entryFrame m args maxL)) : vx_Met l y ws rm Pc Qc XC mc ms free := by
  refine MetFree.of_bodySF (code := cc) (maxLocals := maxL) (ret := ret) hy ?_ ?_
  · intro args s m h hn
    obtain ⟨meth, c, h1, h2, h3, h4, h5, h6, -, -⟩ := Cond.code_spec hn (atoms_spec (ws := ws) h _ (by rw [hw]; exact List.mem_cons_self))
    exact ⟨meth, c, h1, h2, h3, h4, h5, h6⟩
  · intro p e s m args below meth c s₁ B hml hP _
    have hh0 : s₁.heap = s.heap := by rw [B.state]; rfl
    have ht : ∀ x ∈ c.exceptionTable.toList, False := by
      obtain ⟨meth9, c9, h1, h2, -, -, -, -, h7, -⟩ := Cond.code_spec B.named (atoms_spec (ws := ws) B.pre _ (by rw [hw]; exact List.mem_cons_self))
      cases Option.some.inj (h1.symm.trans B.method)
      cases Option.some.inj (h2.symm.trans (Stand.of_body B).code)
      intro x hx
      rw [Array.isEmpty_iff.mp h7] at hx
      cases hx
    obtain ⟨t, a1, o, b1, b2, b3⟩ := body p e s m args below meth c s₁ B hml ht hP s₁ hh0 (Stand.of_body B)
    exact ⟨t, o, a1, b1, b2, b3⟩
/-- a method's rows are its code's -/
def tw_dk (y : tw_MD) : Prop := ∀ q ∈ tw_tb y, decode y.2.1 q.1 = .ok (q.2.1, q.2.2.1) ∧ q.2.2.2 = q.1 + q.2.2.1
def tw_mok (y : tw_MD) (n : Nat) : Prop := plainFor y.1 = true ∧ y.1.cls ≠ "java/lang/invoke/MethodHandle" ∧ y.1.cls ≠ "java/lang/invoke/VarHandle" ∧ (parseMethodDescriptor y.1.desc).map (fun d => d.parameters.length) = some n ∧ y.2.2.1 ≤ 40
theorem tw_mkK {g : tw_Gx} {y : tw_MD} {d mc ms : Nat} {Q : tw_Rs → tw_Mem → Prop} {av : List Value} {F : tw_Mem → Prop} {n : Nat} {L : List (Option Value)} (hm : tw_mok y n) (hd : tw_dk y) (hh : y.2.2.2.2.2 = []) (hn : (tw_fl2 av).length ≤ y.2.2.1) (hL : tw_en y.2.2.1 av = L) (h : tw_C g y d mc ms Q 0 L [] 0 0 F) : tw_Kt g y d mc ms av Q F := by
  subst hL
  intro hok M hF
  refine tw_ofW (cc := y.2.1) (maxL := y.2.2.1) (ret := y.2.2.2.1) hm.1 rfl ?_
  intro p e s m args below meth c s₁ B hml hex hv
  obtain ⟨rfl, hW, hR⟩ := hv
  have hl := lv_entry av (n := y.2.2.1) (by rw [tw_fl2_len]; exact hn)
  rw [lg_entry_eq]
  generalize (lg_sl av ++ List.replicate (y.2.2.1 - (lg_sl av).length) Slot.unset).toArray = ls at hl ⊢
  have ht : c.exceptionTable.toList = tableOf y.2.2.2.2.2 := by
    rw [hh]
    cases hz : c.exceptionTable.toList with
    | nil => rfl
    | cons x l => exact (hex x (by rw [hz]; exact List.mem_cons_self)).elim
  exact h M hF p e s m _ below meth c s.heap [] ls ⟨hok, B.exec, B.bytes, hml, B.returns, B.notSynchronized, findClass_of_methodNamed B.named, (name_of_methodNamed B.named B.method).1, ⟨hW, hR.1, hR.2.2.1⟩, ht, hd⟩ hR va_S.rf (tw_en_lv hn hl)
/-- what a call's end asks, by a way to make answers of values -/
def tw_Qp {α : Type} (cv : α → Option Value) (G : α → tw_Mem → Prop) (X : String → tw_Mem → Prop) : tw_Rs → tw_Mem → Prop := fun r M => match r with
  | .inl w => ∃ v, w = cv v ∧ G v M
  | .inr E => X E M
theorem tw_Qp_l {α : Type} {cv : α → Option Value} (hcv : ∀ a b, cv a = cv b → a = b) {G : α → tw_Mem → Prop} {X : String → tw_Mem → Prop} : (fun v => tw_Qp cv G X (.inl (cv v))) = G := by
  funext v M
  refine propext ⟨fun ⟨w, e, h⟩ => by rw [hcv _ _ e]; exact h, fun h => ⟨v, rfl, h⟩⟩
theorem tw_Qp_r {α : Type} {cv : α → Option Value} {G : α → tw_Mem → Prop} {X : String → tw_Mem → Prop} : (fun E => tw_Qp cv G X (.inr E)) = X := rfl
abbrev tw_cI : Int32 → Option Value := fun v => some (.int v)
abbrev tw_cL : Int64 → Option Value := fun v => some (.long v)
abbrev tw_cU : Unit → Option Value := fun _ => none
abbrev tw_cA : Nat → Option Value := fun v => some (.ref v)
abbrev tw_cV : Option Nat → Option Value := fun v => some (va_rf v)
theorem tw_cIi : ∀ a b, tw_cI a = tw_cI b → a = b := fun a b h => by injection h with h; injection h
theorem tw_cLi : ∀ a b, tw_cL a = tw_cL b → a = b := fun a b h => by injection h with h; injection h
theorem tw_cUi : ∀ a b, tw_cU a = tw_cU b → a = b := fun _ _ _ => rfl
theorem tw_cAi : ∀ a b, tw_cA a = tw_cA b → a = b := fun a b h => by injection h with h; injection h
theorem tw_cVi : ∀ a b, tw_cV a = tw_cV b → a = b := fun a b h => by
  injection h with h
  cases a <;> cases b <;> simp [va_rf] at h ⊢
  exact h
/-- the receiver is of class t -/
def tw_iv (t b : Nat) (F : tw_Mem → Prop) : tw_Mem → Prop := fun M => tw_is M.1 b t ∧ F M
def tw_wV (own : String) (ix : Nat) (y : tw_MD) : Prop := Cond.methodLink own ix y.1 ∈ lw_tbl ∧ Cond.instanceMethod y.1 ∈ lw_tbl ∧ Cond.selects y.1.cls y.1 y.1 ∈ lw_tbl ∧ Cond.initialized y.1.cls ∈ lw_tbl ∧ Cond.code y.1 y.2.1 y.2.2.1 y.2.2.2.1 ∈ lw_tbl
def tw_wS (own : String) (ix : Nat) (y : tw_MD) : Prop := Cond.methodLink own ix y.1 ∈ lw_tbl ∧ Cond.static y.1 ∈ lw_tbl ∧ Cond.initialized y.1.cls ∈ lw_tbl ∧ Cond.code y.1 y.2.1 y.2.2.1 y.2.2.2.1 ∈ lw_tbl
def tw_wSN (own : String) (ix : Nat) (y : tw_MD) (h : String) : Prop := Cond.methodLinkNest own ix y.1 h ∈ lw_tbl ∧ Cond.static y.1 ∈ lw_tbl ∧ Cond.initialized y.1.cls ∈ lw_tbl ∧ Cond.code y.1 y.2.1 y.2.2.1 y.2.2.2.1 ∈ lw_tbl
def tw_wI (own : String) (ix : Nat) (y : tw_MD) : Prop := Cond.methodLink own ix y.1 ∈ lw_tbl ∧ Cond.instanceMethod y.1 ∈ lw_tbl ∧ Cond.initialized y.1.cls ∈ lw_tbl ∧ Cond.code y.1 y.2.1 y.2.2.1 y.2.2.2.1 ∈ lw_tbl
def tw_wIN (own : String) (ix : Nat) (y : tw_MD) (h : String) : Prop := Cond.methodLinkNest own ix y.1 h ∈ lw_tbl ∧ Cond.instanceMethod y.1 ∈ lw_tbl ∧ Cond.initialized y.1.cls ∈ lw_tbl ∧ Cond.code y.1 y.2.1 y.2.2.1 y.2.2.2.1 ∈ lw_tbl
/-- named x in class owner, chosen y for an object of class C -/
def tw_wU (own : String) (ix : Nat) (C owner : String) (x : MethodName) (y : tw_MD) : Prop := Cond.methodLink own ix x ∈ lw_tbl ∧ Cond.instanceMethod y.1 ∈ lw_tbl ∧ Cond.selects C x y.1 ∈ lw_tbl ∧ Cond.initialized y.1.cls ∈ lw_tbl ∧ Cond.code y.1 y.2.1 y.2.2.1 y.2.2.2.1 ∈ lw_tbl ∧ Cond.sameMethod x.cls owner x.name x.desc ∈ lw_tbl ∧ Cond.declares ⟨owner, x.name, x.desc⟩ ∈ lw_tbl ∧ owner ≠ "java/lang/invoke/MethodHandle" ∧ owner ≠ "java/lang/invoke/VarHandle"
section TWC
variable {g : tw_Gx} {y : tw_MD} {d mc ms : Nat} {Q : tw_Rs → tw_Mem → Prop} {pc npc : Nat} {L : List (Option Value)} {st : List Value} {kc ks : Nat}
/-- behind a call: either way -/
theorem tw_after {α : Type} {cv : α → Option Value} {G : α → tw_Mem → Prop} {XF : String → tw_Mem → Prop} {mc' ms' : Nat} {p : Program} {e : Env} {s : State} {m : MethodId} {args a' : Array Value} {below : List Frame} {meth : Method} {c : Code} {H : Heap} {locs : List Loc} {ls : Array Slot} {st0 : List Value} (X : tw_Fx g y p s m meth c) (hS : va_S (tw_A g) s.heap H locs) (hL : tw_lv ls y.2.2.1 L)
    (hr : vx_Run p g.1 e (tw_rm d mc ms) s m args below meth c H locs kc ks mc' ms' (F0 m pc ls st0) st (tw_Qc g (tw_Qp cv G XF) a') (tw_Xc g (tw_Qp cv G XF)) (tw_A g))
    (n : ∀ v, tw_C g y d mc ms Q (pc + 3) L ((cv v).toList ++ st) (kc + mc') (ks + ms') (G v)) (nx : ∀ E, tw_CX g y d mc ms Q pc L st (kc + mc') (ks + ms') E (XF E)) :
    W p g.1 e (tw_rm d mc ms) s m args below meth c H locs kc ks (vx_MQ below (tw_Qc g Q) (tw_Xc g Q) args s mc ms (tw_A g)) (F0 m pc ls st0) := by
  intro T hT XT
  rcases hr T hT XT with ⟨v, st₀, t, T', L2, h0, X', hL2, e1, e2, ⟨⟨w, M', hw, ⟨v', hv', hG⟩, hR'⟩, hF⟩, go⟩ | ⟨q, st₀, t, T', L2, E, ce, h0, X', hL2, e1, e2, ⟨⟨M', hQ, hR'⟩, hF⟩, hce, hcv, hcl, go⟩
  · cases hw
    subst hv'
    obtain ⟨k1, k2, k3⟩ := vx_keep h0 e1 hS (fun q _ h => h) (fun q h => h) hL2 hF
    have hal : t.vm.Alike s.vm := by rw [← e2]; exact X'.warmed.alike.symm
    have kk := n v' M' hG p e s m args below meth c T'.heap (locs ++ L2) ls X (by rw [e1]; exact hR'.moved hal) k3 hL
    obtain ⟨t2, a1, b1⟩ := kk T' rfl X'
    exact ⟨t2, go t2 a1, b1⟩
  · obtain ⟨k1, k2, k3⟩ := vx_keep h0 e1 hS (fun q _ h => h) (fun q h => h) hL2 hF
    have hal : t.vm.Alike s.vm := by rw [← e2]; exact X'.warmed.alike.symm
    have kk := nx E M' hQ p e s m args below meth c T'.heap (locs ++ L2) ls q ce X (by rw [e1]; exact hR'.moved hal) k3 hL (by rw [e1]; exact hce) hcv hcl
    obtain ⟨t2, a1, b1⟩ := kk T' rfl X'
    exact ⟨t2, go.trans a1, b1⟩
/-- not caught here -/
theorem tw_out {E : String} (hh : y.2.2.2.2.2 = []) (h1 : kc ≤ mc) (h2 : ks ≤ ms) : tw_CX g y d mc ms Q pc L st kc ks E (Q (.inr E)) := by
  intro M hF p e s m args below meth c H locs ls q ce X hR hS hL hce hcv hcl
  have ht : c.exceptionTable.toList = [] := by
    obtain ⟨-, -, -, -, -, -, -, -, -, h, -⟩ := X
    rw [hh] at h
    exact h
  refine vx_out (fun x hx => by rw [ht] at hx; cases hx) (tw_hr X).2 hce hcv hcl (fun t ht2 hal => ⟨⟨M, hF, ?_⟩, hS.F ht2⟩) hS.2.2 h1 h2
  rw [ht2]; exact hR.moved hal
theorem tw_never {E : String} : tw_CX g y d mc ms Q pc L st kc ks E (fun _ => False) := fun _ h => h.elim
theorem tw_cb {p : Program} {s : State} {m : MethodId} {meth : Method} {c : Code} (X : tw_Fx g y p s m meth c) {y' : tw_MD} {n d' mc' ms' ix : Nat} (args : Array Value) (hm : tw_mok y' n) (hd : d' + 1 ≤ d) (hl : Cond.methodLink y.1.cls ix y'.1 ∈ lw_tbl) (hi : Cond.initialized y'.1.cls ∈ lw_tbl) (hc : Cond.code y'.1 y'.2.1 y'.2.2.1 y'.2.2.2.1 ∈ lw_tbl) :
    CallB (tw_rm d mc ms) s args y.1.cls ix y'.1 y'.2.1 y'.2.2.1 y'.2.2.2.1 [.code y'.1 y'.2.1 y'.2.2.1 y'.2.2.2.1] (tw_rm d' mc' ms') mc' ms' n := by
  refine ⟨rfl, rfl, hd, ?_, fun w hw a' U hW => ?_, List.mem_singleton.mpr rfl, tw_wd X hc rfl args, tw_wd X hi rfl args, ⟨hm.2.1, hm.2.2.1⟩, fun sig h => ?_, tw_wd X hl rfl args⟩
  · have := hm.2.2.2.2
    show 8 + (y'.2.2.1 + 11) + 64 * d' ≤ 64 * d
    omega
  · rw [List.mem_singleton.mp hw]
    exact tw_word (tw_gk X) hc rfl (State.WarmedH.trans (tw_wm X) hW) a'
  · have h2 := hm.2.2.2.1
    rw [h] at h2
    exact (Option.some.inj h2).symm
theorem tw_cf {p : Program} {s : State} {m : MethodId} {meth : Method} {c : Code} (X : tw_Fx g y p s m meth c) (args : Array Value) : CallFix p m c y.2.1 y.2.2.1 s args [] y.1.cls := by
  refine ⟨tw_ex X, tw_cd X, ?_, tw_ow X, fun w hw => nomatch hw⟩
  obtain ⟨-, -, -, h, -⟩ := X
  exact h
theorem tw_recv {p : Program} {s : State} {m : MethodId} {meth : Method} {c : Code} {H : Heap} {M : tw_Mem} (X : tw_Fx g y p s m meth c) (hR : tw_R g M s H) {b t : Nat} {Cq : vw_C} (hq : tw_cl[t]? = some Cq) (h : tw_is M.1 b t) : ∃ cell : Cell, H[b]? = some cell ∧ cell.vm.isStatics = false ∧ s.vm.findClass Cq.1 = some cell.cls := by
  obtain ⟨n0, r0, hb⟩ := h
  obtain ⟨-, C2, hc, cell, g1, g2, g3, -⟩ : tw_ce g M s H b (t + 10, n0, r0) := hR.2.2.2 b _ hb
  cases hq.symm.trans hc
  exact ⟨cell, g1, by rw [g3]; rfl, by rw [g2]; exact ((tw_Kof X).1 t _ hq).2.1⟩
theorem tw_Met {l : Launch} {y : MethodName} {ws : List Cond} {rm : Room} {Pc : Array Value → State → Prop} {Qc : Array Value → State → Outcome → State → Prop} {XC : String → State → State → Prop} {mc ms : Nat} {free : Addr → Prop} (h : vx_Met l y ws rm Pc Qc XC mc ms free) (hx : ∀ E s t, ¬ XC E s t) : Met l y ws rm Pc Qc mc ms free := by
  intro p e ha hc hk s m args below hf happ hP hK
  obtain ⟨n, o, h1, h2, h3, h4⟩ := h p e ha hc hk s m args below hf happ hP hK
  refine ⟨n, o, h1, h2, h3, ?_⟩
  rcases h4 with h4 | ⟨q, -, E, ce, L9, h5, -⟩
  · exact h4
  · exact (hx _ _ _ h5).elim
theorem tw_runX {p : Program} {l : Launch} {e : Env} {R : Room} {s : State} {m : MethodId} {args : Array Value} {below : List Frame} {meth : Method} {c : Code} {H : Heap} {locs : List Loc} {cells slots mc ms : Nat} {gg : JFrame} {rest : List Value} {Qa : State → Outcome → State → Prop} {XC : String → State → State → Prop} {free : Addr → Prop} (h : va_Run p l e R s m args below meth c H locs cells slots mc ms gg rest Qa free) : vx_Run p l e R s m args below meth c H locs cells slots mc ms gg rest Qa XC free := fun T hT X => Or.inl (h T hT X)
theorem tw_pre {s : State} {p : Program} {m : MethodId} {meth : Method} {c : Code} {H : Heap} {M : tw_Mem} (X : tw_Fx g y p s m meth c) (hR : tw_R g M s H) (av : List Value) : ∀ U : State, U.heap = H → s.WarmedH U.vm → va_Pc av (fun U => (tw_s0 g).WarmedH U.vm ∧ tw_R g M U U.heap) av.toArray U := by
  intro U hU hW
  refine ⟨rfl, State.WarmedH.trans (tw_wm X) hW, ?_⟩
  rw [hU]; exact hR.moved hW.alike
theorem tw_noX {α : Type} {cv : α → Option Value} {G : α → tw_Mem → Prop} : ∀ E s t, ¬ tw_Xc g (tw_Qp cv G (fun _ _ => False)) E s t := fun E s t h => by
  obtain ⟨⟨M, h, -⟩, -⟩ := h
  exact h
/-- a virtual call of a method of the receiver's own class, that may throw -/
theorem tw_callVX {y' : tw_MD} {k ix d' mc' ms' n t b : Nat} {Cq : vw_C} {α : Type} (cv : α → Option Value) (hcv : ∀ a b, cv a = cv b → a = b) {f : (α → tw_Mem → Prop) → (String → tw_Mem → Prop) → tw_Mem → Prop} {G : α → tw_Mem → Prop} {XF : String → tw_Mem → Prop} (As : List Value) {As' : List Value} (hAs : As' = As.reverse ++ .ref b :: st) (hd : (tw_tb y)[k]? = some (pc, .invokevirtual ix, 3, npc)) (hw : tw_wV y.1.cls ix y') (hm : tw_mok y' n) (hq : tw_cl[t]? = some Cq) (hcl : Cq.1 = y'.1.cls) (hn : As.length = n)
    (hK : ∀ Q', tw_Kt g y' d' mc' ms' (.ref b :: As) Q' (f (fun v => Q' (.inl (cv v))) (fun E => Q' (.inr E)))) (hdd : d' + 1 ≤ d) (h1 : kc + mc' ≤ mc) (h2 : ks + ms' ≤ ms) (hst : (st.map fun v => v.category).sum ≤ 8)
    (nn : ∀ v, tw_C g y d mc ms Q npc L ((cv v).toList ++ st) (kc + mc') (ks + ms') (G v)) (nx : ∀ E, tw_CX g y d mc ms Q pc L st (kc + mc') (ks + ms') E (XF E)) : tw_C g y d mc ms Q pc L As' kc ks (tw_iv t b (f G XF)) := by
  subst hAs
  intro M hF p e s m args below meth c H locs ls X hR hS hL
  obtain ⟨hdec, rfl⟩ := tw_dec X hd
  obtain ⟨his, hF⟩ := hF
  obtain ⟨w1, w2, w3, w4, w5⟩ := hw
  have hM := hK (tw_Qp cv G XF) (tw_gk X) M (by rw [tw_Qp_l hcv, tw_Qp_r]; exact hF)
  refine tw_after X hS hL (vx_runV (rest := st) (n := n) (As := As) (b := b) (C := Cq.1) (tw_cf X args) hM ⟨tw_cb X args hm hdd w1 w4 w5, tw_wd X w2 rfl args, by rw [hcl]; exact tw_wd X w3 rfl args⟩ ⟨tw_blind, tw_recv X hR hq his, tw_pre X hR _⟩ rfl hn hL.1 rfl (by show 2 * 0 + _ ≤ 8; omega) hdec ⟨h1, h2⟩) nn nx
/-- .. that never throws -/
theorem tw_callV {y' : tw_MD} {k ix d' mc' ms' n t b : Nat} {Cq : vw_C} {α : Type} (cv : α → Option Value) (hcv : ∀ a b, cv a = cv b → a = b) {f : (α → tw_Mem → Prop) → tw_Mem → Prop} {G : α → tw_Mem → Prop} (As : List Value) {As' : List Value} (hAs : As' = As.reverse ++ .ref b :: st) (hd : (tw_tb y)[k]? = some (pc, .invokevirtual ix, 3, npc)) (hw : tw_wV y.1.cls ix y') (hm : tw_mok y' n) (hq : tw_cl[t]? = some Cq) (hcl : Cq.1 = y'.1.cls) (hn : As.length = n)
    (hK : ∀ Q', tw_Kt g y' d' mc' ms' (.ref b :: As) Q' (f (fun v => Q' (.inl (cv v))))) (hdd : d' + 1 ≤ d) (h1 : kc + mc' ≤ mc) (h2 : ks + ms' ≤ ms) (hst : (st.map fun v => v.category).sum ≤ 8)
    (nn : ∀ v, tw_C g y d mc ms Q npc L ((cv v).toList ++ st) (kc + mc') (ks + ms') (G v)) : tw_C g y d mc ms Q pc L As' kc ks (tw_iv t b (f G)) :=
  tw_callVX (f := fun G _ => f G) (XF := fun _ _ => False) cv hcv As hAs hd hw hm hq hcl hn hK hdd h1 h2 hst nn (fun _ => tw_never)
theorem tw_callSX {y' : tw_MD} {k ix d' mc' ms' n : Nat} {α : Type} (cv : α → Option Value) (hcv : ∀ a b, cv a = cv b → a = b) {f : (α → tw_Mem → Prop) → (String → tw_Mem → Prop) → tw_Mem → Prop} {G : α → tw_Mem → Prop} {XF : String → tw_Mem → Prop} (As : List Value) {As' : List Value} (hAs : As' = As.reverse ++ st) (hd : (tw_tb y)[k]? = some (pc, .invokestatic ix, 3, npc)) (hw : tw_wS y.1.cls ix y') (hm : tw_mok y' n) (hn : As.length = n)
    (hK : ∀ Q', tw_Kt g y' d' mc' ms' As Q' (f (fun v => Q' (.inl (cv v))) (fun E => Q' (.inr E)))) (hdd : d' + 1 ≤ d) (h1 : kc + mc' ≤ mc) (h2 : ks + ms' ≤ ms) (hst : (st.map fun v => v.category).sum ≤ 8)
    (nn : ∀ v, tw_C g y d mc ms Q npc L ((cv v).toList ++ st) (kc + mc') (ks + ms') (G v)) (nx : ∀ E, tw_CX g y d mc ms Q pc L st (kc + mc') (ks + ms') E (XF E)) : tw_C g y d mc ms Q pc L As' kc ks (f G XF) := by
  subst hAs
  intro M hF p e s m args below meth c H locs ls X hR hS hL
  obtain ⟨hdec, rfl⟩ := tw_dec X hd
  obtain ⟨w1, w2, w4, w5⟩ := hw
  have hM := hK (tw_Qp cv G XF) (tw_gk X) M (by rw [tw_Qp_l hcv, tw_Qp_r]; exact hF)
  refine tw_after X hS hL (vx_runS (rest := st) (n := n) (As := As) (tw_cf X args) hM ⟨tw_cb X args hm hdd w1 w4 w5, tw_wd X w2 rfl args⟩ ⟨tw_blind, tw_pre X hR _⟩ rfl hn hL.1 rfl (by show 2 * 0 + _ ≤ 8; omega) hdec ⟨h1, h2⟩) nn nx
theorem tw_callS {y' : tw_MD} {k ix d' mc' ms' n : Nat} {α : Type} (cv : α → Option Value) (hcv : ∀ a b, cv a = cv b → a = b) {f : (α → tw_Mem → Prop) → tw_Mem → Prop} {G : α → tw_Mem → Prop} (As : List Value) {As' : List Value} (hAs : As' = As.reverse ++ st) (hd : (tw_tb y)[k]? = some (pc, .invokestatic ix, 3, npc)) (hw : tw_wS y.1.cls ix y') (hm : tw_mok y' n) (hn : As.length = n)
    (hK : ∀ Q', tw_Kt g y' d' mc' ms' As Q' (f (fun v => Q' (.inl (cv v))))) (hdd : d' + 1 ≤ d) (h1 : kc + mc' ≤ mc) (h2 : ks + ms' ≤ ms) (hst : (st.map fun v => v.category).sum ≤ 8)
    (nn : ∀ v, tw_C g y d mc ms Q npc L ((cv v).toList ++ st) (kc + mc') (ks + ms') (G v)) : tw_C g y d mc ms Q pc L As' kc ks (f G) :=
  tw_callSX (f := fun G _ => f G) (XF := fun _ _ => False) cv hcv As hAs hd hw hm hn hK hdd h1 h2 hst nn (fun _ => tw_never)
theorem tw_callSN {y' : tw_MD} {k ix d' mc' ms' n : Nat} {ho : String} {α : Type} (cv : α → Option Value) (hcv : ∀ a b, cv a = cv b → a = b) {f : (α → tw_Mem → Prop) → tw_Mem → Prop} {G : α → tw_Mem → Prop} (As : List Value) {As' : List Value} (hAs : As' = As.reverse ++ st) (hd : (tw_tb y)[k]? = some (pc, .invokestatic ix, 3, npc)) (hw : tw_wSN y.1.cls ix y' ho) (hm : tw_mok y' n) (hn : As.length = n)
    (hK : ∀ Q', tw_Kt g y' d' mc' ms' As Q' (f (fun v => Q' (.inl (cv v))))) (hdd : d' + 1 ≤ d) (h1 : kc + mc' ≤ mc) (h2 : ks + ms' ≤ ms) (hst : (st.map fun v => v.category).sum ≤ 8)
    (nn : ∀ v, tw_C g y d mc ms Q npc L ((cv v).toList ++ st) (kc + mc') (ks + ms') (G v)) : tw_C g y d mc ms Q pc L As' kc ks (f G) := by
  subst hAs
  intro M hF p e s m args below meth c H locs ls X hR hS hL
  obtain ⟨hdec, rfl⟩ := tw_dec X hd
  obtain ⟨w1, w2, w4, w5⟩ := hw
  have hM := tw_Met (hK (tw_Qp cv G (fun _ _ => False)) (tw_gk X) M (by rw [tw_Qp_l hcv]; exact hF)) tw_noX
  obtain ⟨-, h0, -⟩ := tw_gk X
  have hln : (Cond.methodLinkNest y.1.cls ix y'.1 ho).before args s = true := va_Nw.use rfl (va_Nw.warmM (tw_wm X) (va_Nw.of rfl (h0 _ w1)))
  refine tw_after (XF := fun _ _ => False) X hS hL (tw_runX (va_runSN (rest := st) (n := n) (As := As) (host := ho) (tw_cf X args) hM ⟨⟨⟨rfl, rfl, hdd, ?_, fun w hw a' U hW => ?_, List.mem_singleton.mpr rfl⟩, tw_wd X w5 rfl args, tw_wd X w4 rfl args, ⟨hm.2.1, hm.2.2.1⟩, fun sig h => ?_, hln⟩, tw_wd X w2 rfl args, trivial⟩ ⟨tw_blind, tw_pre X hR _⟩ rfl hn hL.1 rfl (by show 2 * 0 + _ ≤ 8; omega) hdec ⟨h1, h2⟩)) nn (fun _ => tw_never)
  · have := hm.2.2.2.2
    show 8 + (y'.2.2.1 + 11) + 64 * d' ≤ 64 * d
    omega
  · rw [List.mem_singleton.mp hw]
    exact tw_word (tw_gk X) w5 rfl (State.WarmedH.trans (tw_wm X) hW) a'
  · have h2 := hm.2.2.2.1
    rw [h] at h2
    exact (Option.some.inj h2).symm
end TWC
