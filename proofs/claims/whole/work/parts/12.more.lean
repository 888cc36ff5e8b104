section TWN
variable {g : tw_Gx} {y : tw_MD} {d mc ms : Nat} {Q : tw_Rs → tw_Mem → Prop} {pc npc : Nat} {L : List (Option Value)} {st : List Value} {kc ks : Nat} {F : tw_Mem → Prop}
theorem tw_callI {y' : tw_MD} {k ix d' mc' ms' n b : Nat} {f : (Unit → tw_Mem → Prop) → tw_Mem → Prop} {G : Unit → tw_Mem → Prop} (As : List Value) {As' : List Value} (hAs : As' = As.reverse ++ .ref b :: st) (hd : (tw_tb y)[k]? = some (pc, .invokespecial ix, 3, npc)) (hw : tw_wI y.1.cls ix y') (hm : tw_mok y' n) (hi : y'.1.name = "<init>") (hv : y'.2.2.2.1 = none) (hn : As.length = n)
    (hK : ∀ Q', tw_Kt g y' d' mc' ms' (.ref b :: As) Q' (f (fun v => Q' (.inl none)))) (hdd : d' + 1 ≤ d) (h1 : kc + mc' ≤ mc) (h2 : ks + ms' ≤ ms) (hst : (st.map fun v => v.category).sum ≤ 8)
    (nn : tw_C g y d mc ms Q npc L st (kc + mc') (ks + ms') (G ())) : tw_C g y d mc ms Q pc L As' kc ks (f G) := by
  subst hAs
  intro M hF p e s m args below meth c H locs ls X hR hS hL
  obtain ⟨hdec, rfl⟩ := tw_dec X hd
  obtain ⟨w1, w2, w4, w5⟩ := hw
  have hM := tw_Met (hK (tw_Qp tw_cU G (fun _ _ => False)) (tw_gk X) M (by rw [show (fun v : Unit => tw_Qp tw_cU G (fun _ _ => False) (.inl none)) = G from tw_Qp_l tw_cUi]; exact hF)) tw_noX
  have hcb := tw_cb (mc := mc) (ms := ms) (mc' := mc') (ms' := ms') X args hm hdd w1 w4 w5
  rw [hv] at hcb hM
  exact tw_after (XF := fun _ _ => False) X hS hL (tw_runX (va_runI (rest := st) (n := n) (As := As) (b := b) (tw_cf X args) hM ⟨hcb, hi, tw_wd X w2 rfl args⟩ ⟨tw_blind, tw_pre X hR _⟩ rfl hn hL.1 rfl (by show 2 * 0 + _ ≤ 8; omega) hdec ⟨h1, h2⟩)) (fun _ => nn) (fun _ => tw_never)
theorem tw_callIN {y' : tw_MD} {k ix d' mc' ms' n b : Nat} {ho : String} {f : (Unit → tw_Mem → Prop) → tw_Mem → Prop} {G : Unit → tw_Mem → Prop} (As : List Value) {As' : List Value} (hAs : As' = As.reverse ++ .ref b :: st) (hd : (tw_tb y)[k]? = some (pc, .invokespecial ix, 3, npc)) (hw : tw_wIN y.1.cls ix y' ho) (hm : tw_mok y' n) (hi : y'.1.name = "<init>") (hv : y'.2.2.2.1 = none) (hn : As.length = n)
    (hK : ∀ Q', tw_Kt g y' d' mc' ms' (.ref b :: As) Q' (f (fun v => Q' (.inl none)))) (hdd : d' + 1 ≤ d) (h1 : kc + mc' ≤ mc) (h2 : ks + ms' ≤ ms) (hst : (st.map fun v => v.category).sum ≤ 8)
    (nn : tw_C g y d mc ms Q npc L st (kc + mc') (ks + ms') (G ())) : tw_C g y d mc ms Q pc L As' kc ks (f G) := by
  subst hAs
  intro M hF p e s m args below meth c H locs ls X hR hS hL
  obtain ⟨hdec, rfl⟩ := tw_dec X hd
  obtain ⟨w1, w2, w4, w5⟩ := hw
  have hM := tw_Met (hK (tw_Qp tw_cU G (fun _ _ => False)) (tw_gk X) M (by rw [show (fun v : Unit => tw_Qp tw_cU G (fun _ _ => False) (.inl none)) = G from tw_Qp_l tw_cUi]; exact hF)) tw_noX
  obtain ⟨-, h0, -⟩ := tw_gk X
  have hln : (Cond.methodLinkNest y.1.cls ix y'.1 ho).before args s = true := va_Nw.use rfl (va_Nw.warmM (tw_wm X) (va_Nw.of rfl (h0 _ w1)))
  rw [hv] at hM w5
  refine tw_after (XF := fun _ _ => False) X hS hL (tw_runX (va_runIN (rest := st) (n := n) (As := As) (b := b) (host := ho) (tw_cf X args) hM ⟨⟨⟨rfl, rfl, hdd, ?_, fun w hw a' U hW => ?_, List.mem_singleton.mpr rfl⟩, tw_wd X w5 rfl args, tw_wd X w4 rfl args, ⟨hm.2.1, hm.2.2.1⟩, fun sig h => ?_, hln⟩, hi, tw_wd X w2 rfl args⟩ ⟨tw_blind, tw_pre X hR _⟩ rfl hn hL.1 rfl (by show 2 * 0 + _ ≤ 8; omega) hdec ⟨h1, h2⟩)) (fun _ => nn) (fun _ => tw_never)
  · have := hm.2.2.2.2
    show 8 + (y'.2.2.1 + 11) + 64 * d' ≤ 64 * d
    omega
  · rw [List.mem_singleton.mp hw]
    exact tw_word (tw_gk X) w5 rfl (State.WarmedH.trans (tw_wm X) hW) a'
  · have h2 := hm.2.2.2.1
    rw [h] at h2
    exact (Option.some.inj h2).symm
/-- a call whose method is named in one class and chosen in another: for each class that the receiver may have -/
theorem tw_callU {y' : tw_MD} {x : MethodName} {owner : String} {k ix d' mc' ms' n t b : Nat} {Cq : vw_C} {α : Type} (cv : α → Option Value) (hcv : ∀ a b, cv a = cv b → a = b) {f : (α → tw_Mem → Prop) → tw_Mem → Prop} {G : α → tw_Mem → Prop} (As : List Value) {As' : List Value} (hAs : As' = As.reverse ++ .ref b :: st) (hd : (tw_tb y)[k]? = some (pc, .invokevirtual ix, 3, npc)) (hq : tw_cl[t]? = some Cq) (hw : tw_wU y.1.cls ix Cq.1 owner x y') (hm : tw_mok y' n) (hxd : (parseMethodDescriptor x.desc).map (fun d => d.parameters.length) = some n) (hn : As.length = n)
    (hK : ∀ Q', tw_Kt g y' d' mc' ms' (.ref b :: As) Q' (f (fun v => Q' (.inl (cv v))))) (hdd : d' + 1 ≤ d) (h1 : kc + mc' ≤ mc) (h2 : ks + ms' ≤ ms) (hst : (st.map fun v => v.category).sum ≤ 8)
    (nn : ∀ v, tw_C g y d mc ms Q npc L ((cv v).toList ++ st) (kc + mc') (ks + ms') (G v)) : tw_C g y d mc ms Q pc L As' kc ks (tw_iv t b (f G)) := by
  subst hAs
  intro M hF p e s m args below meth c H locs ls X hR hS hL
  obtain ⟨hdec, rfl⟩ := tw_dec X hd
  obtain ⟨his, hF⟩ := hF
  obtain ⟨w1, w2, w3, w4, w5, w6, w7, w8, w9⟩ := hw
  have hM := tw_Met (hK (tw_Qp cv G (fun _ _ => False)) (tw_gk X) M (by rw [tw_Qp_l hcv]; exact hF)) tw_noX
  have hcb := tw_wd2 X w7 rfl args
  refine tw_after (XF := fun _ _ => False) X hS hL (tw_runX (va_runU (rest := st) (n := n) (As := As) (b := b) (C := Cq.1) (owner := owner) (x := x) (bytes := y'.2.1) (maxL := y'.2.2.1) (ret := y'.2.2.2.1) (tw_cf X args) hM ⟨⟨rfl, rfl, hdd, ?_, fun w hw a' U hW => ?_, List.mem_singleton.mpr rfl⟩, tw_wd X w5 rfl args, tw_wd X w4 rfl args, ⟨w8, w9⟩, fun sig h => ?_, tw_wd X w1 rfl args, tw_wd X w6 rfl args, va_Decl.abs (va_Nw.of rfl hcb), tw_wd X w3 rfl args, tw_wd X w2 rfl args⟩ ⟨tw_blind, tw_recv X hR hq his, tw_pre X hR _⟩ rfl hn hL.1 rfl (by show 2 * 0 + _ ≤ 8; omega) hdec ⟨h1, h2⟩)) nn (fun _ => tw_never)
  · have := hm.2.2.2.2
    show 8 + (y'.2.2.1 + 11) + 64 * d' ≤ 64 * d
    omega
  · rw [List.mem_singleton.mp hw]
    exact tw_word (tw_gk X) w5 rfl (State.WarmedH.trans (tw_wm X) hW) a'
  · rw [h] at hxd
    exact (Option.some.inj hxd).symm
theorem tw_objInit {k ix a : Nat} (hd : (tw_tb y)[k]? = some (pc, .invokespecial ix, 3, npc)) (hw : Cond.methodLink y.1.cls ix Lib.objectInit ∈ lw_tbl) (hw2 : Cond.instanceMethod Lib.objectInit ∈ lw_tbl) (hw3 : Cond.code Lib.objectInit ⟨#[0xb1]⟩ 1 none ∈ lw_tbl) (hdd : 1 ≤ d) (hst : (st.map fun v => v.category).sum ≤ 8) (n : tw_C g y d mc ms Q npc L st kc ks F) : tw_C g y d mc ms Q pc L (.ref a :: st) kc ks F := by
  intro M hF p e s m args below meth c H locs ls X hR hS hL
  obtain ⟨hdec, rfl⟩ := tw_dec X hd
  have hml : ls.size = c.maxLocals := by
    obtain ⟨-, -, -, h, -⟩ := X
    rw [h]; exact hL.1
  exact W.objInit (tw_ex X) (tw_cd X) (tw_ow X) (tw_wd X hw rfl args) (tw_wd X hw2 rfl args) (tw_wd X hw3 rfl args) rfl hml rfl hdec hdd (by show 2 * 0 + _ + 12 ≤ 64 * d; omega) (n M hF p e s m args below meth c H locs ls X hR hS hL)
/-- a text -/
def tw_ls (g : tw_Gx) (own : String) (ix : Nat) (tx : String) (G : Nat → tw_Mem → Prop) : tw_Mem → Prop := fun M => ∀ a, vk_R own ix tx a (tw_s0 g) → G a M
theorem tw_ldcS {k ix : Nat} {tx : String} {G : Nat → tw_Mem → Prop} (hd : (tw_tb y)[k]? = some (pc, .ldc ix, 2, npc)) (hw : Cond.stringRef y.1.cls ix tx ∈ lw_tbl) (n : ∀ a, tw_C g y d mc ms Q npc L (.ref a :: st) kc ks (G a)) : tw_C g y d mc ms Q pc L st kc ks (tw_ls g y.1.cls ix tx G) := by
  intro M hF p e s m args below meth c H locs ls X hR hS hL
  obtain ⟨hdec, rfl⟩ := tw_dec X hd
  obtain ⟨-, -, -, -, -, -, -, o8, -⟩ := tw_gk X
  obtain ⟨sa, hsa⟩ := o8 _ _ _ hw
  exact va_ldcS (tw_ex X) (tw_cd X) (tw_ow X) (vk_R.warm (tw_wm X) hsa) hdec (n sa M (hF sa hsa) p e s m args below meth c H locs ls X hR hS hL)
def tw_sv (a : Nat) (G : Nat → tw_Mem → Prop) : tw_Mem → Prop := fun M => ∃ n r, M.1 a = some (6, n, r) ∧ ∀ v, r 1 = some v → G v M
def tw_sc (a : Nat) (G : Int32 → tw_Mem → Prop) : tw_Mem → Prop := fun M => ∃ n r, M.1 a = some (6, n, r) ∧ G (M.2.1 a 0) M
theorem tw_strV {k ix a : Nat} {G : Nat → tw_Mem → Prop} (hd : (tw_tb y)[k]? = some (pc, .getfield ix, 3, npc)) (hw : Cond.fieldLink y.1.cls ix "java/lang/String" "value" "[B" ∈ lw_tbl) (n : ∀ x, tw_C g y d mc ms Q npc L (.ref x :: st) kc ks (G x)) : tw_C g y d mc ms Q pc L (.ref a :: st) kc ks (tw_sv a G) := by
  intro M hF p e s m args below meth c H locs ls X hR hS hL
  obtain ⟨hdec, rfl⟩ := tw_dec X hd
  obtain ⟨n0, r, h1, h2⟩ := hF
  obtain ⟨-, -, v, h3, cf, kk, fi, f, cell, q1, q2, q3, q4, q5, q6⟩ : tw_ce g M s H a (6, n0, r) := hR.2.2.2 a _ h1
  exact W.getf (tw_ex X) (tw_cd X) (tw_ow X) (tw_wd X hw rfl args) q1 q2 q3 q4 (v := .ref v) q5 rfl rfl hdec (n v M (h2 v h3) p e s m args below meth c H locs ls X hR hS hL)
theorem tw_strC {k ix a : Nat} {G : Int32 → tw_Mem → Prop} (hd : (tw_tb y)[k]? = some (pc, .getfield ix, 3, npc)) (hw : Cond.fieldLink y.1.cls ix "java/lang/String" "coder" "B" ∈ lw_tbl) (n : ∀ x, tw_C g y d mc ms Q npc L (.int x :: st) kc ks (G x)) : tw_C g y d mc ms Q pc L (.ref a :: st) kc ks (tw_sc a G) := by
  intro M hF p e s m args below meth c H locs ls X hR hS hL
  obtain ⟨hdec, rfl⟩ := tw_dec X hd
  obtain ⟨n0, r, h1, h2⟩ := hF
  obtain ⟨-, ⟨cf, kk, fi, f, cell, q1, q2, q3, q4, q5, q6⟩, -⟩ : tw_ce g M s H a (6, n0, r) := hR.2.2.2 a _ h1
  exact W.getf (tw_ex X) (tw_cd X) (tw_ow X) (tw_wd X hw rfl args) q1 q2 q3 q4 (v := .int (M.2.1 a 0)) q5 rfl rfl hdec (n _ M h2 p e s m args below meth c H locs ls X hR hS hL)
theorem tw_hbl {p : Program} {s : State} {m : MethodId} {meth : Method} {c : Code} (X : tw_Fx g y p s m meth c) : ∀ a : Nat, a < (tw_s0 g).heap.size → ¬ tw_A g a → s.heap[a]? = (tw_s0 g).heap[a]? := fun a h1 _ => (tw_sz X).2 a h1
theorem tw_getsC {k ix : Nat} (hd : (tw_tb y)[k]? = some (pc, .getstatic ix, 3, npc)) (hw : Cond.fieldLink y.1.cls ix "java/lang/String" "COMPACT_STRINGS" "Z" ∈ lw_tbl) (n : tw_C g y d mc ms Q npc L (.int 1 :: st) kc ks F) : tw_C g y d mc ms Q pc L st kc ks F := by
  intro M hF p e s m args below meth c H locs ls X hR hS hL
  obtain ⟨hdec, rfl⟩ := tw_dec X hd
  obtain ⟨-, -, -, -, -, o6, -⟩ := tw_gk X
  exact va_gets (tw_ex X) (tw_cd X) (va_Z.moved (tw_wm X).alike (o6.kept (tw_hbl X))) hS (tw_ow X) (tw_wd X hw rfl args) (fun _ h => h) hdec (n M hF p e s m args below meth c H locs ls X hR hS hL)
theorem tw_getsF {k ix : Nat} {G : Option Nat → tw_Mem → Prop} (hd : (tw_tb y)[k]? = some (pc, .getstatic ix, 3, npc)) (hw : Cond.fieldLink y.1.cls ix "jdk/internal/util/Preconditions" "SIOOBE_FORMATTER" "Ljava/util/function/BiFunction;" ∈ lw_tbl) (n : ∀ x, tw_C g y d mc ms Q npc L (va_rf x :: st) kc ks (G x)) : tw_C g y d mc ms Q pc L st kc ks (fun M => ∀ x, G x M) := by
  intro M hF p e s m args below meth c H locs ls X hR hS hL
  obtain ⟨hdec, rfl⟩ := tw_dec X hd
  obtain ⟨-, -, -, -, -, -, o7, -⟩ := tw_gk X
  rcases va_Zq.moved (tw_wm X).alike (va_Zq.kept o7 (tw_hbl X)) with h | ⟨t, h⟩
  · exact va_gets (tw_ex X) (tw_cd X) h hS (tw_ow X) (tw_wd X hw rfl args) (fun _ h => h) hdec (n none M (hF none) p e s m args below meth c H locs ls X hR hS hL)
  · exact va_gets (tw_ex X) (tw_cd X) h hS (tw_ow X) (tw_wd X hw rfl args) (fun _ h => h) hdec (n (some t) M (hF (some t)) p e s m args below meth c H locs ls X hR hS hL)
/-- the class of what was thrown -/
def tw_xc (E cls : String) (F G : tw_Mem → Prop) : tw_Mem → Prop := fun M => if E = cls then F M else G M
theorem tw_catch {E : String} {f t hp ct : Nat} (pre suf : List (Nat × Nat × Nat × Nat)) (hh : y.2.2.2.2.2 = pre ++ (f, t, hp, ct) :: suf) (hpre : ∀ z ∈ pre, z.2.2.2 ≠ 0 ∧ ∃ nm, Cond.classLink y.1.cls z.2.2.2 nm ∈ lw_tbl ∧ nm ∈ tw_xs ∧ E ≠ nm) (hE : E ∈ tw_xs) (h1 : f ≤ pc) (h2 : pc < t) (h0 : ct ≠ 0) (hl : Cond.classLink y.1.cls ct E ∈ lw_tbl) (hc : Cond.castable E E ∈ lw_tbl) (n : ∀ q, tw_C g y d mc ms Q hp L [.ref q] kc ks F) : tw_CX g y d mc ms Q pc L st kc ks E F := by
  intro M hF p e s m args below meth c H locs ls q ce X hR hS hL hce hcv hcl
  have ht : c.exceptionTable.toList = tableOf pre ++ ⟨f, t, hp, ct⟩ :: tableOf suf := by
    obtain ⟨-, -, -, -, -, -, -, -, -, h, -⟩ := X
    rw [hh] at h
    rw [h]
    simp [tableOf]
  obtain ⟨-, -, -, -, -, -, -, -, o9⟩ := tw_gk X
  refine vx_catch (tw_ow X) (tableOf pre) ⟨f, t, hp, ct⟩ (tableOf suf) ht (fun z hz => ?_) (by simp [covers, h1, h2]) h0 (tw_wd X hl rfl args) (tw_wd2 X hc rfl args) hce hcv hcl (n q M hF p e s m args below meth c H locs ls X hR hS hL)
  unfold tableOf at hz
  obtain ⟨w, hw, rfl⟩ := List.mem_map.mp hz
  obtain ⟨g1, nm, g2, g3, g4⟩ := hpre w hw
  exact Or.inr ⟨g1, nm, tw_wd X g2 rfl args, va_Nc.moved (tw_wm X).alike (o9 E hE nm g3 g4)⟩
/-- a static method with handlers, by its contract -/
def tw_KtW (g : tw_Gx) (y : tw_MD) (d mc ms : Nat) (av : List Value) (Q : tw_Rs → tw_Mem → Prop) (P : tw_Mem → Prop) : Prop :=
  tw_ok g → ∀ M, P M → vx_Met g.1 y.1 [.codeWith y.1 y.2.1 y.2.2.1 y.2.2.2.1 y.2.2.2.2.2] (tw_rm d mc ms) (va_Pc av (fun U => (tw_s0 g).WarmedH U.vm ∧ tw_R g M U U.heap)) (tw_Qc g Q) (tw_Xc g Q) mc ms (tw_A g)
theorem tw_mkKW {av : List Value} {n : Nat} {L : List (Option Value)} (hpl : plainName y.1.cls = true) (hm : tw_mok y n) (hd : tw_dk y) (hn : (tw_fl2 av).length ≤ y.2.2.1) (hL : tw_en y.2.2.1 av = L) (h : tw_C g y d mc ms Q 0 L [] 0 0 F) : tw_KtW g y d mc ms av Q F := by
  subst hL
  intro hok M hF
  refine vx_ofWH (cc := y.2.1) (maxL := y.2.2.1) (ret := y.2.2.2.1) (hh := y.2.2.2.2.2) hpl rfl ?_
  intro p e s m args below meth c s₁ B hml hv
  obtain ⟨rfl, hW, hR⟩ := hv
  have hl := lv_entry av (n := y.2.2.1) (by rw [tw_fl2_len]; exact hn)
  rw [lg_entry_eq]
  generalize (lg_sl av ++ List.replicate (y.2.2.1 - (lg_sl av).length) Slot.unset).toArray = ls at hl ⊢
  have ht : c.exceptionTable.toList = tableOf y.2.2.2.2.2 := vx_table (x := y.1) B (atoms_spec (ws := [Cond.codeWith y.1 y.2.1 y.2.2.1 y.2.2.2.1 y.2.2.2.2.2]) B.pre _ List.mem_cons_self)
  exact h M hF p e s m _ below meth c s.heap [] ls ⟨hok, B.exec, B.bytes, hml, B.returns, B.notSynchronized, findClass_of_methodNamed B.named, (name_of_methodNamed B.named B.method).1, ⟨hW, hR.1, hR.2.2.1⟩, ht, hd⟩ hR va_S.rf (tw_en_lv hn hl)
def tw_wSW (own : String) (ix : Nat) (y : tw_MD) : Prop := Cond.methodLink own ix y.1 ∈ lw_tbl ∧ Cond.static y.1 ∈ lw_tbl ∧ Cond.initialized y.1.cls ∈ lw_tbl ∧ Cond.codeWith y.1 y.2.1 y.2.2.1 y.2.2.2.1 y.2.2.2.2.2 ∈ lw_tbl
theorem tw_callSW {y' : tw_MD} {k ix d' mc' ms' n : Nat} {α : Type} (cv : α → Option Value) (hcv : ∀ a b, cv a = cv b → a = b) {f : (α → tw_Mem → Prop) → tw_Mem → Prop} {G : α → tw_Mem → Prop} (As : List Value) {As' : List Value} (hAs : As' = As.reverse ++ st) (hd : (tw_tb y)[k]? = some (pc, .invokestatic ix, 3, npc)) (hw : tw_wSW y.1.cls ix y') (hm : tw_mok y' n) (hn : As.length = n)
    (hK : ∀ Q', tw_KtW g y' d' mc' ms' As Q' (f (fun v => Q' (.inl (cv v))))) (hdd : d' + 1 ≤ d) (h1 : kc + mc' ≤ mc) (h2 : ks + ms' ≤ ms) (hst : (st.map fun v => v.category).sum ≤ 8)
    (nn : ∀ v, tw_C g y d mc ms Q npc L ((cv v).toList ++ st) (kc + mc') (ks + ms') (G v)) : tw_C g y d mc ms Q pc L As' kc ks (f G) := by
  subst hAs
  intro M hF p e s m args below meth c H locs ls X hR hS hL
  obtain ⟨hdec, rfl⟩ := tw_dec X hd
  obtain ⟨w1, w2, w4, w5⟩ := hw
  have hM := tw_Met (hK (tw_Qp cv G (fun _ _ => False)) (tw_gk X) M (by rw [tw_Qp_l hcv]; exact hF)) tw_noX
  refine tw_after (XF := fun _ _ => False) X hS hL (tw_runX (vx_runSW (rest := st) (n := n) (As := As) (tw_cf X args) hM ⟨⟨rfl, rfl, hdd, ?_, fun w hw a' U hW => ?_, List.mem_singleton.mpr rfl⟩, tw_wd X w5 rfl args, tw_wd X w4 rfl args, ⟨hm.2.1, hm.2.2.1⟩, fun sig h => ?_, tw_wd X w1 rfl args, tw_wd X w2 rfl args⟩ ⟨tw_blind, tw_pre X hR _⟩ rfl hn hL.1 rfl (by show 2 * 0 + _ ≤ 8; omega) hdec ⟨h1, h2⟩)) nn (fun _ => tw_never)
  · have := hm.2.2.2.2
    show 8 + (y'.2.2.1 + 11) + 64 * d' ≤ 64 * d
    omega
  · rw [List.mem_singleton.mp hw]
    exact tw_word (tw_gk X) w5 rfl (State.WarmedH.trans (tw_wm X) hW) a'
  · have h2 := hm.2.2.2.1
    rw [h] at h2
    exact (Option.some.inj h2).symm
/-- System.arraycopy of ints, from one array into another one -/
def tw_cpf (μ : Nat → Nat → Int32) (a sp b dp n : Nat) : Nat → Nat → Int32 := fun x j => if x = b then (if dp ≤ j ∧ j < dp + n then μ a (sp + (j - dp)) else μ b j) else μ x j
def tw_cp (a : Nat) (sp : Int32) (b : Nat) (dp n : Int32) (k : tw_Mem → Prop) : tw_Mem → Prop := fun M => a ≠ b ∧ ¬ sp < 0 ∧ ¬ dp < 0 ∧ ¬ n < 0 ∧ (∃ x, M.1 a = some x ∧ x.1 = 0 ∧ sp.toNatClampNeg + n.toNatClampNeg ≤ x.2.1) ∧ (∃ x, M.1 b = some x ∧ x.1 = 0 ∧ dp.toNatClampNeg + n.toNatClampNeg ≤ x.2.1) ∧ k (M.1, tw_cpf M.2.1 a sp.toNatClampNeg b dp.toNatClampNeg n.toNatClampNeg, M.2.2)
theorem tw_nn32 (z : Int32) (hz : ¬ z < 0) : z.toInt = (z.toNatClampNeg : Int) := by
  have hz0 : (0 : Int) ≤ z.toInt := by
    have := Int32.not_lt.mp hz
    simpa using Int32.le_iff_toInt_le.mp this
  show z.toInt = ((z.toInt.toNat : Nat) : Int)
  omega
theorem tw_copy {k ix a b : Nat} {sp dp n0 : Int32} (hd : (tw_tb y)[k]? = some (pc, .invokestatic ix, 3, npc)) (w1 : Cond.methodLink y.1.cls ix arraycopyName ∈ lw_tbl) (w2 : Cond.native arraycopyName ∈ lw_tbl) (w3 : Cond.static arraycopyName ∈ lw_tbl) (w4 : Cond.initialized "java/lang/System" ∈ lw_tbl) (hdd : 1 ≤ d) (hst : (st.map fun v => v.category).sum ≤ 8) (n : tw_C g y d mc ms Q npc L st kc ks F) : tw_C g y d mc ms Q pc L (.int n0 :: .int dp :: .ref b :: .int sp :: .ref a :: st) kc ks (tw_cp a sp b dp n0 F) := by
  intro M hF p e s m args below meth c H locs ls X hR hS hL
  obtain ⟨hdec, rfl⟩ := tw_dec X hd
  obtain ⟨hab, g1, g2, g3, ⟨⟨t1, n1, r1⟩, e1, e2, e3⟩, ⟨⟨t2, n2, r2⟩, f1, f2, f3⟩, hF⟩ := hF
  dsimp only at e2 e3 f2 f3
  subst e2; subst f2
  have hc0 := hR.2.2.2 a _ e1
  have hc1 := hR.2.2.2 b _ f1
  obtain ⟨-, k0, hk0, cm0, hkk0⟩ := (tw_arr X (k := 0) rfl).1 n1 (fun j => .int (M.2.1 a j))
  have hml : ls.size = c.maxLocals := by
    obtain ⟨-, -, -, h, -⟩ := X
    rw [h]; exact hL.1
  have hlw : 2 * (F0 m pc ls (.int n0 :: .int dp :: .ref b :: .int sp :: .ref a :: st)).monitorRoom + (st.map fun v => v.category).sum + (nativeFrameWords "java/lang/System" "arraycopy" 5 + 11) ≤ (tw_rm d mc ms).locals := by
    have h9 : nativeFrameWords "java/lang/System" "arraycopy" 5 ≤ 40 := by decide +kernel
    show 2 * 0 + _ + _ ≤ 64 * d
    omega
  intro T hT XT
  obtain ⟨vm', X', step⟩ := XT.arraycopy (tw_ex X) (tw_ow X) (tw_wd X w1 rfl args) (tw_wd X w2 rfl args) (tw_wd X w3 rfl args) (tw_wd X w4 rfl args) (src := a) (dst := b) (cs := arrV (g.2.2.2.2.2 0) n1 (fun j => .int (M.2.1 a j))) (cd := arrV (g.2.2.2.2.2 0) n2 (fun j => .int (M.2.1 b j))) (srcPos := sp) (destPos := dp) (n := n0) (by rw [hT]; exact hc0.2) (by rw [hT]; exact hc1.2)
    (fun _ h => by cases h) (fun _ h => by cases h) (fun h => by cases h) (fun h => by cases h) hk0 hk0 hkk0 hkk0 (by simp [refKind]) g1 g2 g3
    (by rw [tw_nn32 sp g1, tw_nn32 n0 g3]; show ¬ _ > ((arrV _ n1 _).slots.size : Int); rw [arrV_size]; omega)
    (by rw [tw_nn32 dp g2, tw_nn32 n0 g3]; show ¬ _ > ((arrV _ n2 _).slots.size : Int); rw [arrV_size]; omega)
    (fun vm₁ _ i hi => by
      have e : (arrV (g.2.2.2.2.2 0) n1 (fun j => .int (M.2.1 a j))).slots.getD (sp.toNatClampNeg + i) .null = .int (M.2.1 a (sp.toNatClampNeg + i)) := by
        rw [Array.getD_eq_getD_getElem?, arrV_read _ _ (by omega)]
        rfl
      refine ⟨?_, ?_⟩
      · rw [e]; rfl
      · rw [e]; exact trivial)
    (g := F0 m pc ls (.int n0 :: .int dp :: .ref b :: .int sp :: .ref a :: st)) rfl hml (rest := st) rfl (by rw [tw_cd X]; exact hdec) hdd hlw
  have e9 : copied (arrV (g.2.2.2.2.2 0) n1 (fun j => .int (M.2.1 a j))) (arrV (g.2.2.2.2.2 0) n2 (fun j => .int (M.2.1 b j))) sp dp n0 = arrV (g.2.2.2.2.2 0) n2 (fun j => .int (va_cpy (M.2.1 a) (M.2.1 b) sp.toNatClampNeg dp.toNatClampNeg n0.toNatClampNeg j)) := va_copied (fun z => .int z) _ _ _ _ e3
  rw [e9] at X' step
  have hl : b < H.size := (Array.getElem?_eq_some_iff.mp hc1.2).1
  have hheap : ((T.setVm vm').setCell b (arrV (g.2.2.2.2.2 0) n2 (fun j => .int (va_cpy (M.2.1 a) (M.2.1 b) sp.toNatClampNeg dp.toNatClampNeg n0.toNatClampNeg j)))).heap = H.setIfInBounds b (arrV (g.2.2.2.2.2 0) n2 (fun j => .int (va_cpy (M.2.1 a) (M.2.1 b) sp.toNatClampNeg dp.toNatClampNeg n0.toNatClampNeg j))) := by rw [← hT]; rfl
  have hat : (H.setIfInBounds b (arrV (g.2.2.2.2.2 0) n2 (fun j => .int (va_cpy (M.2.1 a) (M.2.1 b) sp.toNatClampNeg dp.toNatClampNeg n0.toNatClampNeg j))))[b]? = some (arrV (g.2.2.2.2.2 0) n2 (fun j => .int (va_cpy (M.2.1 a) (M.2.1 b) sp.toNatClampNeg dp.toNatClampNeg n0.toNatClampNeg j))) := by simp [Array.getElem?_setIfInBounds, hl]
  have oq : ∀ q : Nat, q ≠ b → (H.setIfInBounds b (arrV (g.2.2.2.2.2 0) n2 (fun j => .int (va_cpy (M.2.1 a) (M.2.1 b) sp.toNatClampNeg dp.toNatClampNeg n0.toNatClampNeg j))))[q]? = H[q]? := fun q hq => by simp [Array.getElem?_setIfInBounds, Ne.symm hq]
  have hsz : (H.setIfInBounds b (arrV (g.2.2.2.2.2 0) n2 (fun j => .int (va_cpy (M.2.1 a) (M.2.1 b) sp.toNatClampNeg dp.toNatClampNeg n0.toNatClampNeg j)))).size = H.size := by simp
  generalize H.setIfInBounds b (arrV (g.2.2.2.2.2 0) n2 (fun j => .int (va_cpy (M.2.1 a) (M.2.1 b) sp.toNatClampNeg dp.toNatClampNeg n0.toNatClampNeg j))) = H1 at hheap hat oq hsz
  obtain ⟨t, a1, b1⟩ := n _ hF p e s m args below meth c H1 _ ls X (hR.put hc1.1 hsz oq rfl (fun x hx => ⟨rfl, by funext j; simp [tw_cpf, hx], rfl⟩) fun x hx => by
      cases f1.symm.trans hx
      refine ⟨hc1.1, ?_⟩
      rw [hat]
      congr 2
      funext j
      simp [tw_cpf, va_cpy]) ⟨by rw [hsz]; exact hS.1, fun q z1 z2 => by
      rw [oq q (fun e => z2 (by rw [e]; exact hc1.1))]
      exact hS.2.1 q z1 z2, fun q hq => by
      rcases List.mem_append.mp hq with h | h
      · exact hS.2.2 q h
      · obtain ⟨z, -, hz⟩ := List.mem_map.mp h
        rw [← hz]
        exact hc1.1⟩ hL _ hheap X'
  exact ⟨t, step t a1, b1⟩
end TWN
