/-! ===== writing, making, leaving ===== -/
def tw_fn (q : Nat) : Bool := ([true, true, true, true, true, true, true, true, true, true, false, false, false, true, true, true, true, false, false, true, false, false, true, false, false, true, true, true, true, false, false, false, true, true, true, true, false, true, false, true, true, true, true, true, true, true, false, false, false, false, false, false, false, true, true, false, true, true, true, true, true, true, true, true, true, true, false, false, false, false, false, true, true, true, true, true, false, false, true, false, false, false, false, false, false, true, false, true, false, true, true, true, true] : List Bool).getD q false
theorem tw_fn_ok : ∀ t, t < 12 → ∀ q, tw_cl[t]? = some q → ∀ j, j < q.2.2 → (q.2.1 j).2.2.2 = tw_fn (tw_gid t j) := by
  intro t ht q hq
  match t, ht, hq with
  | 0, _, hq => cases hq; decide +kernel
  | 1, _, hq => cases hq; decide +kernel
  | 2, _, hq => cases hq; decide +kernel
  | 3, _, hq => cases hq; decide +kernel
  | 4, _, hq => cases hq; decide +kernel
  | 5, _, hq => cases hq; decide +kernel
  | 6, _, hq => cases hq; decide +kernel
  | 7, _, hq => cases hq; decide +kernel
  | 8, _, hq => cases hq; decide +kernel
  | 9, _, hq => cases hq; decide +kernel
  | 10, _, hq => cases hq; decide +kernel
  | 11, _, hq => cases hq; decide +kernel
theorem tw_def : ∀ t, t < 12 → ∀ q, tw_cl[t]? = some q → ∃ ty0 : Nat → FieldType, (∀ k, k < q.2.2 → parseFieldDescriptor (q.2.1 k).2.2.1 = some (ty0 k)) ∧ ∀ k, k < q.2.2 → defaultValue (ty0 k) = if tw_rf (tw_gid t k) = true then .null else .int 0 := by
  intro t ht q hq
  match t, ht, hq with
  | 0, _, hq => cases hq; exact ⟨tyX0, tyX0_ok, by decide +kernel⟩
  | 1, _, hq => cases hq; exact ⟨tyX1, tyX1_ok, by decide +kernel⟩
  | 2, _, hq => cases hq; exact ⟨tyX2, tyX2_ok, by decide +kernel⟩
  | 3, _, hq => cases hq; exact ⟨tyX3, tyX3_ok, by decide +kernel⟩
  | 4, _, hq => cases hq; exact ⟨tyX4, tyX4_ok, by decide +kernel⟩
  | 5, _, hq => cases hq; exact ⟨tyX5, tyX5_ok, by decide +kernel⟩
  | 6, _, hq => cases hq; exact ⟨tyX6, tyX6_ok, by decide +kernel⟩
  | 7, _, hq => cases hq; exact ⟨tyX8, tyX8_ok, by decide +kernel⟩
  | 8, _, hq => cases hq; exact ⟨tyX9, tyX9_ok, by decide +kernel⟩
  | 9, _, hq => cases hq; exact ⟨tyX10, tyX10_ok, by decide +kernel⟩
  | 10, _, hq => cases hq; exact ⟨tyX11, tyX11_ok, by decide +kernel⟩
  | 11, _, hq => cases hq; exact ⟨tyX12, tyX12_ok, by decide +kernel⟩
theorem tw_inst : ∀ t, t < 12 → ∀ q, tw_cl[t]? = some q → Cond.instantiable q.1 q.2.2 ∈ lw_tbl ∧ Cond.initialized q.1 ∈ lw_tbl := by
  intro t ht q hq
  match t, ht, hq with
  | 0, _, hq => cases hq; decide +kernel
  | 1, _, hq => cases hq; decide +kernel
  | 2, _, hq => cases hq; decide +kernel
  | 3, _, hq => cases hq; decide +kernel
  | 4, _, hq => cases hq; decide +kernel
  | 5, _, hq => cases hq; decide +kernel
  | 6, _, hq => cases hq; decide +kernel
  | 7, _, hq => cases hq; decide +kernel
  | 8, _, hq => cases hq; decide +kernel
  | 9, _, hq => cases hq; decide +kernel
  | 10, _, hq => cases hq; decide +kernel
  | 11, _, hq => cases hq; decide +kernel
theorem tw_gid_ne {t : Nat} (ht : t < 12) {i j : Nat} (hi : i < (tw_gl.getD t []).length) (hj : j < (tw_gl.getD t []).length) (h : i ≠ j) : tw_gid t i ≠ tw_gid t j := by
  intro e
  unfold tw_gid at e
  rw [List.getD_eq_getElem?_getD, List.getD_eq_getElem?_getD (l := tw_gl.getD t []) (i := j), List.getElem?_eq_getElem hi, List.getElem?_eq_getElem hj] at e
  have hp := List.pairwise_iff_getElem.mp (tw_gl_nd t ht)
  simp only [Option.getD_some] at e
  rcases Nat.lt_or_gt_of_ne h with hl | hl
  · exact hp i j hi hj hl e
  · exact hp j i hj hi hl e.symm
/-- a field may be written there -/
def tw_wf (y : tw_MD) (ix q : Nat) : Prop := tw_fn q = false ∨ (y.1.name = "<init>" ∧ (tw_fq q).1 = y.1.cls ∧ Cond.fieldLink y.1.cls ix (tw_fq q).1 (tw_fq q).2.1 (tw_fq q).2.2 ∈ lw_tbl)
def tw_ai (sh : tw_Sh) (T : List Nat) (a : Nat) (i : Int32) : Prop := ∃ x, sh a = some x ∧ x.1 ∈ T ∧ vp_in i x.2.1
def tw_pi (q a : Nat) (v : Int32) (k : tw_Mem → Prop) : tw_Mem → Prop := fun M => tw_fo M.1 a q false ∧ k (M.1, tw_up M.2.1 a q v, M.2.2)
def tw_pz (q a : Nat) (v : Int32) (k : tw_Mem → Prop) : tw_Mem → Prop := fun M => tw_fo M.1 a q false ∧ (v = 0 ∨ v = 1) ∧ k (M.1, tw_up M.2.1 a q v, M.2.2)
def tw_pr (q a b : Nat) (k : tw_Mem → Prop) : tw_Mem → Prop := fun M => tw_fo M.1 a q true ∧ k (tw_upR M.1 a q (some b), M.2)
def tw_li (a : Nat) (i : Int32) (k : Int32 → tw_Mem → Prop) : tw_Mem → Prop := fun M => tw_ai M.1 [0, 4] a i ∧ k (M.2.1 a i.toNatClampNeg) M
def tw_lb (a : Nat) (i : Int32) (k : Int32 → tw_Mem → Prop) : tw_Mem → Prop := fun M => tw_ai M.1 [2, 5] a i ∧ k (M.2.1 a i.toNatClampNeg) M
def tw_ll (a : Nat) (i : Int32) (k : Int64 → tw_Mem → Prop) : tw_Mem → Prop := fun M => tw_ai M.1 [1] a i ∧ k (M.2.2.1 a i.toNatClampNeg) M
def tw_la (a : Nat) (i : Int32) (k : Option Nat → tw_Mem → Prop) : tw_Mem → Prop := fun M => tw_ai M.1 [3] a i ∧ k (tw_rr M.1 a i.toNatClampNeg) M
def tw_si (a : Nat) (i v : Int32) (k : tw_Mem → Prop) : tw_Mem → Prop := fun M => tw_ai M.1 [0] a i ∧ k (M.1, tw_up M.2.1 a i.toNatClampNeg v, M.2.2)
def tw_sb (a : Nat) (i v : Int32) (k : tw_Mem → Prop) : tw_Mem → Prop := fun M => tw_ai M.1 [2] a i ∧ k (M.1, tw_up M.2.1 a i.toNatClampNeg (vp_nar .byte v), M.2.2)
def tw_sl (a : Nat) (i : Int32) (v : Int64) (k : tw_Mem → Prop) : tw_Mem → Prop := fun M => tw_ai M.1 [1] a i ∧ k (M.1, M.2.1, tw_upL M.2.2.1 a i.toNatClampNeg v, M.2.2.2)
/-- an object of class t lies there -/
def tw_is (sh : tw_Sh) (a t : Nat) : Prop := ∃ n r, sh a = some (t + 10, n, r)
def tw_sa (t a : Nat) (i : Int32) (b : Nat) (k : tw_Mem → Prop) : tw_Mem → Prop := fun M => tw_ai M.1 [3] a i ∧ tw_is M.1 b t ∧ k (tw_upR M.1 a i.toNatClampNeg (some b), M.2)
def tw_al (a : Nat) (k : Int32 → tw_Mem → Prop) : tw_Mem → Prop := fun M => ∃ x, M.1 a = some x ∧ x.1 < 6 ∧ k (Int32.ofNat x.2.1) M
def tw_mk (M : tw_Mem) (x : Nat × Nat × (Nat → Option Nat)) : tw_Mem := (fun b => if b = M.2.2.2 then some x else M.1 b, fun b j => if b = M.2.2.2 then 0 else M.2.1 b j, fun b j => if b = M.2.2.2 then 0 else M.2.2.1 b j, M.2.2.2 + 1)
def tw_na (tag N : Nat) (n : Int32) (k : Nat → tw_Mem → Prop) : tw_Mem → Prop := fun M => ¬ n < 0 ∧ n.toNatClampNeg ≤ N ∧ k M.2.2.2 (tw_mk M (tag, n.toNatClampNeg, fun _ => none))
def tw_nw (t : Nat) (k : Nat → tw_Mem → Prop) : tw_Mem → Prop := fun M => k M.2.2.2 (tw_mk M (t + 10, 0, fun _ => none))
def tw_rz (v : Int32) (k : tw_Mem → Prop) : tw_Mem → Prop := fun M => (v = 0 ∨ v = 1) ∧ k M
def tw_rn (ty : FieldType) (v : Int32) (k : tw_Mem → Prop) : tw_Mem → Prop := fun M => narrow ty (.int v) = .int v ∧ k M
theorem tw_arr {g : tw_Gx} {y : tw_MD} {p : Program} {s : State} {m : MethodId} {meth : Method} {c : Code} (X : tw_Fx g y p s m meth c) {k : Nat} {q : ClassId × FieldType} (h : [(g.2.2.2.2.2 0, FieldType.int), (g.2.2.2.2.2 1, .long), (g.2.2.2.2.2 2, .byte), (g.2.2.2.2.2 3, .object RX8)][k]? = some q) : ArrOfT s q.1 q.2 ∧ va_RA s q.1 q.2 := (tw_Kof X).2 k q h
theorem tw_mk_at {M : tw_Mem} {x : Nat × Nat × (Nat → Option Nat)} {b : Nat} (h : b ≠ M.2.2.2) : (tw_mk M x).1 b = M.1 b ∧ (tw_mk M x).2.1 b = M.2.1 b ∧ (tw_mk M x).2.2.1 b = M.2.2.1 b := by
  refine ⟨?_, ?_, ?_⟩
  · simp [tw_mk, h]
  · funext j; simp [tw_mk, h]
  · funext j; simp [tw_mk, h]
section TWS
variable {g : tw_Gx} {y : tw_MD} {d mc ms : Nat} {Q : tw_Rs → tw_Mem → Prop} {pc npc : Nat} {L : List (Option Value)} {st : List Value} {kc ks : Nat} {F : tw_Mem → Prop}
/-- a field is written -/
theorem tw_putV {p : Program} {e : Env} {s : State} {m : MethodId} {args : Array Value} {below : List Frame} {meth : Method} {c : Code} {H : Heap} {locs : List Loc} {ls : Array Slot} {R : Room} {Z : State → Prop} {ix q a : Nat} {b : Bool} {v : Value} {ty : FieldType} {M M' : tw_Mem}
    (X : tw_Fx g y p s m meth c) (hw : tw_fl y.1.cls ix q) (hf : tw_wf y ix q) (hty : parseFieldDescriptor (tw_fq q).2.2 = some ty) (hn : narrow ty v = v) (hfit : fits ty v = true) (hR : tw_R g M s H) (hS : va_S (tw_A g) s.heap H locs) (hfo : tw_fo M.1 a q b) (hdec : decode y.2.1 pc = .ok (.putfield ix, 3))
    (h0 : M'.2.2.2 = M.2.2.2) (h1 : ∀ z, z ≠ a → M'.1 z = M.1 z ∧ M'.2.1 z = M.2.1 z ∧ M'.2.2.1 z = M.2.2.1 z) (h2 : ∀ t n r, M.1 a = some (t, n, r) → ∃ r', M'.1 a = some (t, n, r') ∧ (∀ j, j ≠ q → r' j = r j ∧ M'.2.1 a j = M.2.1 a j) ∧ v = (if tw_rf q = true then va_rf (r' q) else .int (M'.2.1 a q)))
    (n : ∀ (H1 : Heap) (locs1 : List Loc), tw_R g M' s H1 → va_S (tw_A g) s.heap H1 locs1 → W p g.1 e R s m args below meth c H1 locs1 kc ks Z (F0 m (pc + 3) ls st)) : W p g.1 e R s m args below meth c H locs kc ks Z (F0 m pc ls (v :: .ref a :: st)) := by
  obtain ⟨t, nn, j, r, Cq, cell, cf, i, kC, kf, f, e1, e2, e3, e4, e5, e6, e7, e8, e9, e10, e11, e12, e13, e14, e15, e16, e17⟩ := tw_fieldAt X args hR hfo
  have ht := tw_cl_lt e4
  obtain ⟨ty0, ty1, ty2⟩ := tw_ty t ht Cq e4
  have hlen := (tw_gl_ok t ht Cq e4).1
  have hap := va_apart (args := args) (own := y.1.cls) (tw_tsOf X args) (tw_uig t ht Cq e4) ty0 ty1 ty2 (tw_Kof X) e4
  have hlays := u_lays (tw_tsOf X args) (tw_uig t ht Cq e4) e5
  have hi : s.fieldFound? (Cq.2.1 j).1 (Cq.2.1 j).2.1 (Cq.2.1 j).2.2.1 = some (cf, kf, i, f) := by rw [e7] at e15; exact e15
  have hty' : parseFieldDescriptor (Cq.2.1 j).2.2.1 = some ty := by rw [e7] at hty; exact hty
  obtain ⟨r', g1, g2, g3⟩ := h2 _ _ _ e1
  have hlt : f.slot < cell.slots.size := by rw [e16]; exact k2_hasslot (e11 j e5)
  have fin : ∀ H1 : Heap, H1[a]? = some (cell.setSlot f.slot v) → H1.size = H.size → (∀ z, z ≠ a → H1[z]? = H[z]?) → tw_R g M' s H1 ∧ va_S (tw_A g) s.heap H1 (locs ++ [⟨a, f.slot⟩]) := by
    intro H1 o1 o2 o3
    refine ⟨hR.put e3 o2 o3 h0 h1 fun x hx => ?_, hS.put o2 o3 e3⟩
    rw [g1] at hx
    cases hx
    refine ⟨e3, Cq, e4, cell.setSlot f.slot v, o1, e9, e10, fun k hk => ?_⟩
    rw [e16]
    rw [t_set e11 hap e5 v k hk]
    by_cases hkj : k = j
    · subst hkj
      simp only [updV, if_true]
      unfold tw_fv
      rw [e6, ← g3]
    · simp only [updV, if_neg hkj]
      have hne : tw_gid t k ≠ q := by rw [← e6]; exact tw_gid_ne ht (by rw [hlen]; exact hk) (by rw [hlen]; exact e5) hkj
      unfold tw_fv
      rw [(g2 _ hne).1, (g2 _ hne).2]
  by_cases hfin : tw_fn q = true
  · rcases hf with hf | ⟨hin, hcls, hw⟩
    · rw [hf] at hfin; cases hfin
    have hlay := tw_tsOf X args _ (tw_uig t ht Cq e4 _ (u_in_lay e5))
    unfold u_lay at hlay
    rw [if_pos (by rw [tw_fn_ok t ht Cq e4 j e5, e6]; exact hfin)] at hlay
    have hcf : m.cls = cf := by
      obtain ⟨_, _, c', _, _, _, -, -, hf', -, -, -, hown2, -⟩ := Cond.laysFinal_spec hlay
      have z1 : c' = cf := by have := hi.symm.trans hf'; simp at this; exact this.1.symm
      have z2 : (Cq.2.1 j).1 = y.1.cls := by rw [e7] at hcls; exact hcls
      rw [z2] at hown2
      rw [← z1]; exact Option.some.inj ((tw_ow X).symm.trans hown2)
    have h6 := u_fits e12 e13 e14 (Or.inr hlay) hi hty' hn hfit
    have hnm : meth.name = "<init>" := by obtain ⟨-, -, -, -, -, -, -, h, -⟩ := X; rw [h]; exact hin
    exact W.putFinK (tw_ex X) (tw_cd X) (tw_ow X) (tw_wd X hw rfl args) e15 e17 hcf hnm (by rw [e9]; exact h6) e8 e10 hlt rfl rfl hdec fun H1 o1 o2 o3 => n H1 _ (fin H1 o1 o2 o3).1 (fin H1 o1 o2 o3).2
  · have hfin' : tw_fn q = false := by cases hz : tw_fn q with
      | false => rfl
      | true => exact absurd hz hfin
    have hlay := tw_tsOf X args _ (tw_uig t ht Cq e4 _ (u_in_lay e5))
    unfold u_lay at hlay
    rw [if_neg (by rw [tw_fn_ok t ht Cq e4 j e5, e6, hfin']; decide)] at hlay
    have h6 := u_store e12 e13 e14 hlay hi hty' hn hfit
    rcases hw with hw | ⟨h, hw⟩
    · exact W.putK (tw_ex X) (tw_cd X) (f := f) ⟨tw_ow X, tw_wd X hw rfl args, ⟨_, _, _, e15⟩, e17⟩ (by rw [e9]; exact h6) e8 e10 hlt rfl rfl hdec fun H1 o1 o2 o3 => n H1 _ (fin H1 o1 o2 o3).1 (fin H1 o1 o2 o3).2
    · obtain ⟨-, h0', -⟩ := tw_gk X
      exact va_WputK (tw_ex X) (tw_cd X) (f := f) (tw_ow X) (va_Nw.use rfl (va_Nw.warmF (tw_wm X) (va_Nw.of rfl (h0' _ hw)))) e15 e17 (by rw [e9]; exact h6) e8 e10 hlt rfl rfl hdec fun H1 o1 o2 o3 => n H1 _ (fin H1 o1 o2 o3).1 (fin H1 o1 o2 o3).2
theorem tw_putI {k ix q a : Nat} {v : Int32} (hd : (tw_tb y)[k]? = some (pc, .putfield ix, 3, npc)) (hw : tw_fl y.1.cls ix q) (hf : tw_wf y ix q) (hty : parseFieldDescriptor (tw_fq q).2.2 = some .int) (n : tw_C g y d mc ms Q npc L st kc ks F) : tw_C g y d mc ms Q pc L (.int v :: .ref a :: st) kc ks (tw_pi q a v F) := by
  intro M hF p e s m args below meth c H locs ls X hR hS hL
  obtain ⟨hdec, rfl⟩ := tw_dec X hd
  obtain ⟨h1, h2⟩ := hF
  have hrf : tw_rf q = false := by obtain ⟨x, -, -, -, h⟩ := h1; exact h
  refine tw_putV (M' := (M.1, tw_up M.2.1 a q v, M.2.2)) X hw hf hty rfl rfl hR hS h1 hdec rfl (fun z hz => ⟨rfl, tw_up_ne hz, rfl⟩) (fun t nn r hr => ⟨r, hr, fun j hj => ⟨rfl, by simp [tw_up, hj]⟩, by rw [hrf]; simp [tw_up]⟩) fun H1 locs1 r1 s1 => n _ h2 p e s m args below meth c H1 locs1 ls X r1 s1 hL
theorem tw_nbool {v : Int32} (h : v = 0 ∨ v = 1) : narrow .boolean (.int v) = .int v := by rcases h with rfl | rfl <;> rfl
theorem tw_fbool {v : Int32} (h : v = 0 ∨ v = 1) : fits .boolean (.int v) = true := by rcases h with rfl | rfl <;> rfl
theorem tw_putZ {k ix q a : Nat} {v : Int32} (hd : (tw_tb y)[k]? = some (pc, .putfield ix, 3, npc)) (hw : tw_fl y.1.cls ix q) (hf : tw_wf y ix q) (hty : parseFieldDescriptor (tw_fq q).2.2 = some .boolean) (n : tw_C g y d mc ms Q npc L st kc ks F) : tw_C g y d mc ms Q pc L (.int v :: .ref a :: st) kc ks (tw_pz q a v F) := by
  intro M hF p e s m args below meth c H locs ls X hR hS hL
  obtain ⟨hdec, rfl⟩ := tw_dec X hd
  obtain ⟨h1, hv, h2⟩ := hF
  have hrf : tw_rf q = false := by obtain ⟨x, -, -, -, h⟩ := h1; exact h
  refine tw_putV (M' := (M.1, tw_up M.2.1 a q v, M.2.2)) X hw hf hty (tw_nbool hv) (tw_fbool hv) hR hS h1 hdec rfl (fun z hz => ⟨rfl, tw_up_ne hz, rfl⟩) (fun t nn r hr => ⟨r, hr, fun j hj => ⟨rfl, by simp [tw_up, hj]⟩, by rw [hrf]; simp [tw_up]⟩) fun H1 locs1 r1 s1 => n _ h2 p e s m args below meth c H1 locs1 ls X r1 s1 hL
theorem tw_putR {k ix q a b : Nat} {ty : FieldType} (hd : (tw_tb y)[k]? = some (pc, .putfield ix, 3, npc)) (hw : tw_fl y.1.cls ix q) (hf : tw_wf y ix q) (hty : parseFieldDescriptor (tw_fq q).2.2 = some ty) (hn : narrow ty (.ref b) = .ref b) (hfit : fits ty (.ref b) = true) (n : tw_C g y d mc ms Q npc L st kc ks F) : tw_C g y d mc ms Q pc L (.ref b :: .ref a :: st) kc ks (tw_pr q a b F) := by
  intro M hF p e s m args below meth c H locs ls X hR hS hL
  obtain ⟨hdec, rfl⟩ := tw_dec X hd
  obtain ⟨h1, h2⟩ := hF
  have hrf : tw_rf q = true := by obtain ⟨x, -, -, -, h⟩ := h1; exact h
  refine tw_putV (M' := (tw_upR M.1 a q (some b), M.2)) X hw hf hty hn hfit hR hS h1 hdec rfl (fun z hz => ⟨by simp [tw_upR, hz], rfl, rfl⟩) (fun t nn r hr => ⟨fun j => if j = q then some b else r j, by simp [tw_upR, hr], fun j hj => ⟨by simp [hj], rfl⟩, by rw [hrf]; simp [va_rf]⟩) fun H1 locs1 r1 s1 => n _ h2 p e s m args below meth c H1 locs1 ls X r1 s1 hL
end TWS
