def mX5_init : tw_MD := (yX5_init, cX5_init, 1, none, [(0, .aload_n 0, 1, 1), (1, .invokespecial 3, 3, 4), (4, .aload_n 0, 1, 5), (5, .bipush 8, 2, 7), (7, .newarray .int, 2, 9), (9, .putfield 9, 3, 12), (12, .aload_n 0, 1, 13), (13, .bipush 64, 2, 15), (15, .newarray .int, 2, 17), (17, .putfield 15, 3, 20), (20, .aload_n 0, 1, 21), (21, .sipush 256, 3, 24), (24, .newarray .int, 2, 26), (26, .putfield 18, 3, 29), (29, .aload_n 0, 1, 30), (30, .bipush 8, 2, 32), (32, .newarray .int, 2, 34), (34, .putfield 21, 3, 37), (37, .return_, 1, 38)], [])
theorem mo_X5_init : tw_mok mX5_init 0 := ⟨plainFor_of_name (by decide +kernel), by decide +kernel, by decide +kernel, by decide +kernel, by decide +kernel⟩
theorem dk_X5_init : tw_dk mX5_init := by unfold tw_dk; decide +kernel
theorem km_RX5_3 : Cond.methodLink RX5 3 Lib.objectInit ∈ lw_tbl := List.mem_of_getElem? (i := 399) (by decide +kernel)
theorem fl_RX5_9 : tw_fl RX5 9 32 := Or.inl (List.mem_of_getElem? (i := 400) (by decide +kernel))
theorem fl_RX5_15 : tw_fl RX5 15 33 := Or.inl (List.mem_of_getElem? (i := 401) (by decide +kernel))
theorem fl_RX5_18 : tw_fl RX5 18 34 := Or.inl (List.mem_of_getElem? (i := 402) (by decide +kernel))
theorem fl_RX5_21 : tw_fl RX5 21 35 := Or.inl (List.mem_of_getElem? (i := 403) (by decide +kernel))
theorem wf_X5_init_21 : tw_wf mX5_init 21 35 := Or.inr ⟨by decide +kernel, by decide +kernel, List.mem_of_getElem? (i := 403) (by decide +kernel)⟩
theorem wf_X5_init_18 : tw_wf mX5_init 18 34 := Or.inr ⟨by decide +kernel, by decide +kernel, List.mem_of_getElem? (i := 402) (by decide +kernel)⟩
theorem wf_X5_init_15 : tw_wf mX5_init 15 33 := Or.inr ⟨by decide +kernel, by decide +kernel, List.mem_of_getElem? (i := 401) (by decide +kernel)⟩
theorem wf_X5_init_9 : tw_wf mX5_init 9 32 := Or.inr ⟨by decide +kernel, by decide +kernel, List.mem_of_getElem? (i := 400) (by decide +kernel)⟩
set_option maxRecDepth 20000 in
theorem K_X5_init {g : tw_Gx} (Q : tw_Rs → tw_Mem → Prop) (a0 : Nat) : tw_Kt g mX5_init 1 4 336 [.ref a0] Q (f_X5_init a0 (fun v => Q (.inl none))) := by
  refine tw_mkK (L := [some (.ref a0)]) mo_X5_init dk_X5_init rfl (Nat.le_of_ble_eq_true rfl) rfl ?_
  unfold f_X5_init
  refine tw_aload_n (k := 0) rfl rfl ?_
  refine tw_objInit (k := 1) rfl km_RX5_3 koi koc (by omega) (Nat.le_of_ble_eq_true rfl) ?_
  refine tw_aload_n (k := 2) rfl rfl ?_
  refine tw_bipush (k := 3) (8 : Int32) rfl (by decide) ?_
  refine tw_newI (k := 4) 8 rfl ka_int (by decide) (by decide) (by decide) (fun b1 => ?_)
  refine tw_putR (k := 5) (ty := (.array .int)) rfl fl_RX5_9 wf_X5_init_9 (by decide +kernel) rfl rfl ?_
  refine tw_aload_n (k := 6) rfl rfl ?_
  refine tw_bipush (k := 7) (64 : Int32) rfl (by decide) ?_
  refine tw_newI (k := 8) 64 rfl ka_int (by decide) (by decide) (by decide) (fun b2 => ?_)
  refine tw_putR (k := 9) (ty := (.array .int)) rfl fl_RX5_15 wf_X5_init_15 (by decide +kernel) rfl rfl ?_
  refine tw_aload_n (k := 10) rfl rfl ?_
  refine tw_sipush (k := 11) (256 : Int32) rfl (by decide) ?_
  refine tw_newI (k := 12) 256 rfl ka_int (by decide) (by decide) (by decide) (fun b3 => ?_)
  refine tw_putR (k := 13) (ty := (.array .int)) rfl fl_RX5_18 wf_X5_init_18 (by decide +kernel) rfl rfl ?_
  refine tw_aload_n (k := 14) rfl rfl ?_
  refine tw_bipush (k := 15) (8 : Int32) rfl (by decide) ?_
  refine tw_newI (k := 16) 8 rfl ka_int (by decide) (by decide) (by decide) (fun b4 => ?_)
  refine tw_putR (k := 17) (ty := (.array .int)) rfl fl_RX5_21 wf_X5_init_21 (by decide +kernel) rfl rfl ?_
  exact tw_return (k := 18) rfl rfl (by decide) (by decide)
def mX5_guessRows : tw_MD := (yX5_guessRows, cX5_guessRows, 4, none, [(0, .aload_n 0, 1, 1), (1, .aload_n 1, 1, 2), (2, .getfield 24, 3, 5), (5, .bipush 8, 2, 7), (7, .invokestatic 30, 3, 10), (10, .putfield 36, 3, 13), (13, .iconst 0, 1, 14), (14, .istore_n 3, 1, 15), (15, .iload_n 3, 1, 16), (16, .aload_n 0, 1, 17), (17, .getfield 36, 3, 20), (20, .if_icmp .ge 21, 3, 23), (23, .aload_n 0, 1, 24), (24, .getfield 9, 3, 27), (27, .iload_n 3, 1, 28), (28, .aload_n 1, 1, 29), (29, .iload_n 3, 1, 30), (30, .iload_n 2, 1, 31), (31, .invokevirtual 37, 3, 34), (34, .iastore, 1, 35), (35, .iinc 3 1, 3, 38), (38, .goto (-23), 3, 41), (41, .return_, 1, 42)], [])
theorem mo_X5_guessRows : tw_mok mX5_guessRows 2 := ⟨plainFor_of_name (by decide +kernel), by decide +kernel, by decide +kernel, by decide +kernel, by decide +kernel⟩
theorem dk_X5_guessRows : tw_dk mX5_guessRows := by unfold tw_dk; decide +kernel
theorem fl_RX5_24 : tw_fl RX5 24 46 := Or.inr ⟨"TwinRopes", List.mem_of_getElem? (i := 209) (by decide +kernel)⟩
theorem fl_RX5_36 : tw_fl RX5 36 36 := Or.inl (List.mem_of_getElem? (i := 404) (by decide +kernel))
theorem wv_RX5_37_X8_guessedBits : tw_wV RX5 37 mX8_guessedBits := ⟨List.mem_of_getElem? (i := 634) (by decide +kernel), List.mem_of_getElem? (i := 635) (by decide +kernel), List.mem_of_getElem? (i := 636) (by decide +kernel), List.mem_of_getElem? (i := 126) (by decide +kernel), List.mem_of_getElem? (i := 637) (by decide +kernel)⟩
theorem wf_X5_guessRows_36 : tw_wf mX5_guessRows 36 36 := Or.inl rfl
theorem ws_RX5_30_J9_min_7cf53 : tw_wS RX5 30 mJ9_min_7cf53 := ⟨List.mem_of_getElem? (i := 633) (by decide +kernel), List.mem_of_getElem? (i := 609) (by decide +kernel), List.mem_of_getElem? (i := 148) (by decide +kernel), List.mem_of_getElem? (i := 610) (by decide +kernel)⟩
set_option maxRecDepth 20000 in
theorem K_X5_guessRows {g : tw_Gx} (Q : tw_Rs → tw_Mem → Prop) (a0 : Nat) (a1 : Nat) (a2 : Int32) : tw_Kt g mX5_guessRows 4 0 0 [.ref a0, .ref a1, .int a2] Q (f_X5_guessRows a0 a1 a2 (fun v => Q (.inl none))) := by
  refine tw_mkK (L := [some (.ref a0), some (.ref a1), some (.int a2), none]) mo_X5_guessRows dk_X5_guessRows rfl (Nat.le_of_ble_eq_true rfl) rfl ?_
  unfold f_X5_guessRows
  refine tw_aload_n (k := 0) rfl rfl ?_
  refine tw_aload_n (k := 1) rfl rfl ?_
  refine tw_getI (k := 2) rfl fl_RX5_24 (fun x1 => ?_)
  refine tw_bipush (k := 3) (8 : Int32) rfl (by decide) ?_
  refine tw_callS (k := 4) (d' := 1) (mc' := 0) (ms' := 0) tw_cI tw_cIi [.int x1, .int (8 : Int32)] rfl rfl ws_RX5_30_J9_min_7cf53 mo_J9_min_7cf53 rfl (fun Q9 => K_J9_min_7cf53 Q9 x1 (8 : Int32)) (by omega) (by decide) (by decide) (Nat.le_of_ble_eq_true rfl) (fun x2 => ?_)
  refine tw_putI (k := 5) rfl fl_RX5_36 wf_X5_guessRows_36 (by decide +kernel) ?_
  refine tw_iconst (k := 6) (0 : Int32) rfl (by decide) ?_
  refine tw_ist_n (k := 7) [some (.ref a0), some (.ref a1), some (.int a2), some (.int (0 : Int32))] rfl (Nat.le_of_ble_eq_true rfl) rfl rfl ?_
  refine tw_loop (fun s4 => [some (.ref a0), some (.ref a1), some (.int a2), some (.int s4)]) (fun s4 => []) (fun r3 h3 s4 => ?_) _ rfl rfl
  refine tw_iload_n (k := 8) rfl rfl ?_
  refine tw_aload_n (k := 9) rfl rfl ?_
  refine tw_getI (k := 10) rfl fl_RX5_36 (fun x5 => ?_)
  refine tw_icmp_ge (k := 11) 41 rfl (by decide) ?_ ?_
  · exact tw_return (k := 22) rfl rfl (by decide) (by decide)
  · refine tw_aload_n (k := 12) rfl rfl ?_
    refine tw_getR (k := 13) rfl fl_RX5_9 (fun x6 => ?_)
    refine tw_iload_n (k := 14) rfl rfl ?_
    refine tw_aload_n (k := 15) rfl rfl ?_
    refine tw_iload_n (k := 16) rfl rfl ?_
    refine tw_iload_n (k := 17) rfl rfl ?_
    refine tw_callV (k := 18) (d' := 3) (mc' := 0) (ms' := 0) tw_cI tw_cIi [.int s4, .int a2] rfl rfl wv_RX5_37_X8_guessedBits mo_X8_guessedBits (t := 7) rfl rfl rfl (fun Q9 => K_X8_guessedBits Q9 a1 s4 a2) (by omega) (by decide) (by decide) (Nat.le_of_ble_eq_true rfl) (fun x7 => ?_)
    refine tw_iastore (k := 19) rfl ?_
    refine tw_inc (k := 20) (1 : Int32) [some (.ref a0), some (.ref a1), some (.int a2), some (.int (s4 + (1 : Int32)))] rfl rfl (by decide) (Nat.le_of_ble_eq_true rfl) rfl rfl ?_
    refine tw_goto (k := 21) 15 rfl (by decide) ?_
    exact h3 (s4 + (1 : Int32))
def mX5_ringRows : tw_MD := (yX5_ringRows, cX5_ringRows, 3, none, [(0, .aload_n 0, 1, 1), (1, .aload_n 1, 1, 2), (2, .getfield 24, 3, 5), (5, .bipush 8, 2, 7), (7, .invokestatic 30, 3, 10), (10, .putfield 36, 3, 13), (13, .iconst 0, 1, 14), (14, .istore_n 2, 1, 15), (15, .iload_n 2, 1, 16), (16, .aload_n 0, 1, 17), (17, .getfield 36, 3, 20), (20, .if_icmp .ge 20, 3, 23), (23, .aload_n 0, 1, 24), (24, .getfield 9, 3, 27), (27, .iload_n 2, 1, 28), (28, .aload_n 1, 1, 29), (29, .iload_n 2, 1, 30), (30, .invokevirtual 40, 3, 33), (33, .iastore, 1, 34), (34, .iinc 2 1, 3, 37), (37, .goto (-22), 3, 40), (40, .return_, 1, 41)], [])
theorem mo_X5_ringRows : tw_mok mX5_ringRows 1 := ⟨plainFor_of_name (by decide +kernel), by decide +kernel, by decide +kernel, by decide +kernel, by decide +kernel⟩
theorem dk_X5_ringRows : tw_dk mX5_ringRows := by unfold tw_dk; decide +kernel
theorem wv_RX5_40_X8_ringingBits : tw_wV RX5 40 mX8_ringingBits := ⟨List.mem_of_getElem? (i := 682) (by decide +kernel), List.mem_of_getElem? (i := 683) (by decide +kernel), List.mem_of_getElem? (i := 684) (by decide +kernel), List.mem_of_getElem? (i := 126) (by decide +kernel), List.mem_of_getElem? (i := 685) (by decide +kernel)⟩
theorem wf_X5_ringRows_36 : tw_wf mX5_ringRows 36 36 := Or.inl rfl
set_option maxRecDepth 20000 in
theorem K_X5_ringRows {g : tw_Gx} (Q : tw_Rs → tw_Mem → Prop) (a0 : Nat) (a1 : Nat) : tw_Kt g mX5_ringRows 5 0 0 [.ref a0, .ref a1] Q (f_X5_ringRows a0 a1 (fun v => Q (.inl none))) := by
  refine tw_mkK (L := [some (.ref a0), some (.ref a1), none]) mo_X5_ringRows dk_X5_ringRows rfl (Nat.le_of_ble_eq_true rfl) rfl ?_
  unfold f_X5_ringRows
  refine tw_aload_n (k := 0) rfl rfl ?_
  refine tw_aload_n (k := 1) rfl rfl ?_
  refine tw_getI (k := 2) rfl fl_RX5_24 (fun x1 => ?_)
  refine tw_bipush (k := 3) (8 : Int32) rfl (by decide) ?_
  refine tw_callS (k := 4) (d' := 1) (mc' := 0) (ms' := 0) tw_cI tw_cIi [.int x1, .int (8 : Int32)] rfl rfl ws_RX5_30_J9_min_7cf53 mo_J9_min_7cf53 rfl (fun Q9 => K_J9_min_7cf53 Q9 x1 (8 : Int32)) (by omega) (by decide) (by decide) (Nat.le_of_ble_eq_true rfl) (fun x2 => ?_)
  refine tw_putI (k := 5) rfl fl_RX5_36 wf_X5_ringRows_36 (by decide +kernel) ?_
  refine tw_iconst (k := 6) (0 : Int32) rfl (by decide) ?_
  refine tw_ist_n (k := 7) [some (.ref a0), some (.ref a1), some (.int (0 : Int32))] rfl (Nat.le_of_ble_eq_true rfl) rfl rfl ?_
  refine tw_loop (fun s4 => [some (.ref a0), some (.ref a1), some (.int s4)]) (fun s4 => []) (fun r3 h3 s4 => ?_) _ rfl rfl
  refine tw_iload_n (k := 8) rfl rfl ?_
  refine tw_aload_n (k := 9) rfl rfl ?_
  refine tw_getI (k := 10) rfl fl_RX5_36 (fun x5 => ?_)
  refine tw_icmp_ge (k := 11) 40 rfl (by decide) ?_ ?_
  · exact tw_return (k := 21) rfl rfl (by decide) (by decide)
  · refine tw_aload_n (k := 12) rfl rfl ?_
    refine tw_getR (k := 13) rfl fl_RX5_9 (fun x6 => ?_)
    refine tw_iload_n (k := 14) rfl rfl ?_
    refine tw_aload_n (k := 15) rfl rfl ?_
    refine tw_iload_n (k := 16) rfl rfl ?_
    refine tw_callV (k := 17) (d' := 4) (mc' := 0) (ms' := 0) tw_cI tw_cIi [.int s4] rfl rfl wv_RX5_40_X8_ringingBits mo_X8_ringingBits (t := 7) rfl rfl rfl (fun Q9 => K_X8_ringingBits Q9 a1 s4) (by omega) (by decide) (by decide) (Nat.le_of_ble_eq_true rfl) (fun x7 => ?_)
    refine tw_iastore (k := 18) rfl ?_
    refine tw_inc (k := 19) (1 : Int32) [some (.ref a0), some (.ref a1), some (.int (s4 + (1 : Int32)))] rfl rfl (by decide) (Nat.le_of_ble_eq_true rfl) rfl rfl ?_
    refine tw_goto (k := 20) 15 rfl (by decide) ?_
    exact h3 (s4 + (1 : Int32))
def mX5_rowOf : tw_MD := (yX5_rowOf, cX5_rowOf, 2, (some FieldType.int), [(0, .iload_n 1, 1, 1), (1, .ifCond .lt 18, 3, 4), (4, .iload_n 1, 1, 5), (5, .bipush 8, 2, 7), (7, .if_icmp .ge 12, 3, 10), (10, .aload_n 0, 1, 11), (11, .getfield 9, 3, 14), (14, .iload_n 1, 1, 15), (15, .iaload, 1, 16), (16, .goto 4, 3, 19), (19, .iconst 0, 1, 20), (20, .ireturn, 1, 21)], [])
theorem mo_X5_rowOf : tw_mok mX5_rowOf 1 := ⟨plainFor_of_name (by decide +kernel), by decide +kernel, by decide +kernel, by decide +kernel, by decide +kernel⟩
theorem dk_X5_rowOf : tw_dk mX5_rowOf := by unfold tw_dk; decide +kernel
set_option maxRecDepth 20000 in
theorem K_X5_rowOf {g : tw_Gx} (Q : tw_Rs → tw_Mem → Prop) (a0 : Nat) (a1 : Int32) : tw_Kt g mX5_rowOf 1 0 0 [.ref a0, .int a1] Q (f_X5_rowOf a0 a1 (fun v => Q (.inl (some (.int v))))) := by
  refine tw_mkK (L := [some (.ref a0), some (.int a1)]) mo_X5_rowOf dk_X5_rowOf rfl (Nat.le_of_ble_eq_true rfl) rfl ?_
  unfold f_X5_rowOf
  refine tw_iload_n (k := 0) rfl rfl ?_
  refine tw_if_lt (k := 1) 19 rfl (by decide) ?_ ?_
  · refine tw_iconst (k := 10) (0 : Int32) rfl (by decide) ?_
    exact tw_ireturn (k := 11) rfl rfl (by decide) (by decide)
  · refine tw_iload_n (k := 2) rfl rfl ?_
    refine tw_bipush (k := 3) (8 : Int32) rfl (by decide) ?_
    refine tw_icmp_ge (k := 4) 19 rfl (by decide) ?_ ?_
    · refine tw_iconst (k := 10) (0 : Int32) rfl (by decide) ?_
      exact tw_ireturn (k := 11) rfl rfl (by decide) (by decide)
    · refine tw_aload_n (k := 5) rfl rfl ?_
      refine tw_getR (k := 6) rfl fl_RX5_9 (fun x1 => ?_)
      refine tw_iload_n (k := 7) rfl rfl ?_
      refine tw_iaload (k := 8) rfl (fun x2 => ?_)
      refine tw_goto (k := 9) 20 rfl (by decide) ?_
      exact tw_ireturn (k := 11) rfl rfl (by decide) (by decide)
def mX5_all : tw_MD := (yX5_all, cX5_all, 1, (some FieldType.int), [(0, .iconst 1, 1, 1), (1, .aload_n 0, 1, 2), (2, .getfield 36, 3, 5), (5, .ishl, 1, 6), (6, .iconst 1, 1, 7), (7, .isub, 1, 8), (8, .ireturn, 1, 9)], [])
theorem mo_X5_all : tw_mok mX5_all 0 := ⟨plainFor_of_name (by decide +kernel), by decide +kernel, by decide +kernel, by decide +kernel, by decide +kernel⟩
theorem dk_X5_all : tw_dk mX5_all := by unfold tw_dk; decide +kernel
set_option maxRecDepth 20000 in
theorem K_X5_all {g : tw_Gx} (Q : tw_Rs → tw_Mem → Prop) (a0 : Nat) : tw_Kt g mX5_all 1 0 0 [.ref a0] Q (f_X5_all a0 (fun v => Q (.inl (some (.int v))))) := by
  refine tw_mkK (L := [some (.ref a0)]) mo_X5_all dk_X5_all rfl (Nat.le_of_ble_eq_true rfl) rfl ?_
  unfold f_X5_all
  refine tw_iconst (k := 0) (1 : Int32) rfl (by decide) ?_
  refine tw_aload_n (k := 1) rfl rfl ?_
  refine tw_getI (k := 2) rfl fl_RX5_36 (fun x1 => ?_)
  refine tw_ishl (k := 3) rfl ?_
  refine tw_iconst (k := 4) (1 : Int32) rfl (by decide) ?_
  refine tw_isub (k := 5) rfl ?_
  exact tw_ireturn (k := 6) rfl rfl (by decide) (by decide)
def mX5_toldBy : tw_MD := (yX5_toldBy, cX5_toldBy, 4, (some FieldType.int), [(0, .iconst 0, 1, 1), (1, .istore_n 2, 1, 2), (2, .iconst 0, 1, 3), (3, .istore_n 3, 1, 4), (4, .iload_n 3, 1, 5), (5, .aload_n 0, 1, 6), (6, .getfield 36, 3, 9), (9, .if_icmp .ge 25, 3, 12), (12, .iload_n 1, 1, 13), (13, .iload_n 3, 1, 14), (14, .invokestatic 44, 3, 17), (17, .ifCond .eq 11, 3, 20), (20, .iload_n 2, 1, 21), (21, .aload_n 0, 1, 22), (22, .iload_n 3, 1, 23), (23, .invokevirtual 48, 3, 26), (26, .ior, 1, 27), (27, .istore_n 2, 1, 28), (28, .iinc 3 1, 3, 31), (31, .goto (-27), 3, 34), (34, .iload_n 2, 1, 35), (35, .ireturn, 1, 36)], [])
theorem mo_X5_toldBy : tw_mok mX5_toldBy 1 := ⟨plainFor_of_name (by decide +kernel), by decide +kernel, by decide +kernel, by decide +kernel, by decide +kernel⟩
theorem dk_X5_toldBy : tw_dk mX5_toldBy := by unfold tw_dk; decide +kernel
theorem wv_RX5_48_X5_rowOf : tw_wV RX5 48 mX5_rowOf := ⟨List.mem_of_getElem? (i := 662) (by decide +kernel), List.mem_of_getElem? (i := 664) (by decide +kernel), List.mem_of_getElem? (i := 6) (by decide +kernel), List.mem_of_getElem? (i := 135) (by decide +kernel), List.mem_of_getElem? (i := 665) (by decide +kernel)⟩
theorem wn_RX5_44_X11_isIn : tw_wSN RX5 44 mX11_isIn "TwinRopes" := ⟨List.mem_of_getElem? (i := 661) (by decide +kernel), List.mem_of_getElem? (i := 556) (by decide +kernel), List.mem_of_getElem? (i := 124) (by decide +kernel), List.mem_of_getElem? (i := 557) (by decide +kernel)⟩
set_option maxRecDepth 20000 in
theorem K_X5_toldBy {g : tw_Gx} (Q : tw_Rs → tw_Mem → Prop) (a0 : Nat) (a1 : Int32) : tw_Kt g mX5_toldBy 2 0 0 [.ref a0, .int a1] Q (f_X5_toldBy a0 a1 (fun v => Q (.inl (some (.int v))))) := by
  refine tw_mkK (L := [some (.ref a0), some (.int a1), none, none]) mo_X5_toldBy dk_X5_toldBy rfl (Nat.le_of_ble_eq_true rfl) rfl ?_
  unfold f_X5_toldBy
  refine tw_iconst (k := 0) (0 : Int32) rfl (by decide) ?_
  refine tw_ist_n (k := 1) [some (.ref a0), some (.int a1), some (.int (0 : Int32)), none] rfl (Nat.le_of_ble_eq_true rfl) rfl rfl ?_
  refine tw_iconst (k := 2) (0 : Int32) rfl (by decide) ?_
  refine tw_ist_n (k := 3) [some (.ref a0), some (.int a1), some (.int (0 : Int32)), some (.int (0 : Int32))] rfl (Nat.le_of_ble_eq_true rfl) rfl rfl ?_
  refine tw_loop (fun s2 => [some (.ref a0), some (.int a1), some (.int s2.1), some (.int s2.2)]) (fun s2 => []) (fun r1 h1 s2 => ?_) _ rfl rfl
  refine tw_iload_n (k := 4) rfl rfl ?_
  refine tw_aload_n (k := 5) rfl rfl ?_
  refine tw_getI (k := 6) rfl fl_RX5_36 (fun x3 => ?_)
  refine tw_icmp_ge (k := 7) 34 rfl (by decide) ?_ ?_
  · refine tw_iload_n (k := 20) rfl rfl ?_
    exact tw_ireturn (k := 21) rfl rfl (by decide) (by decide)
  · refine tw_iload_n (k := 8) rfl rfl ?_
    refine tw_iload_n (k := 9) rfl rfl ?_
    refine tw_callSN (k := 10) (d' := 1) (mc' := 0) (ms' := 0) tw_cI tw_cIi [.int a1, .int s2.2] rfl rfl wn_RX5_44_X11_isIn mo_X11_isIn rfl (fun Q9 => K_X11_isIn Q9 a1 s2.2) (by omega) (by decide) (by decide) (Nat.le_of_ble_eq_true rfl) (fun x4 => ?_)
    refine tw_join 28 (fun s6 => [some (.ref a0), some (.int a1), some (.int s6), some (.int s2.2)]) (fun s6 => []) 0 0 (fun s6 => ?_) (fun j5 g5 => ?_)
    · refine tw_inc (k := 18) (1 : Int32) [some (.ref a0), some (.int a1), some (.int s6), some (.int (s2.2 + (1 : Int32)))] rfl rfl (by decide) (Nat.le_of_ble_eq_true rfl) rfl rfl ?_
      refine tw_goto (k := 19) 4 rfl (by decide) ?_
      exact h1 (s6, s2.2 + (1 : Int32))
    · refine tw_if_eq (k := 11) 28 rfl (by decide) ?_ ?_
      · exact g5 s2.1
      · refine tw_iload_n (k := 12) rfl rfl ?_
        refine tw_aload_n (k := 13) rfl rfl ?_
        refine tw_iload_n (k := 14) rfl rfl ?_
        refine tw_callV (k := 15) (d' := 1) (mc' := 0) (ms' := 0) tw_cI tw_cIi [.int s2.2] rfl rfl wv_RX5_48_X5_rowOf mo_X5_rowOf (t := 5) rfl rfl rfl (fun Q9 => K_X5_rowOf Q9 a0 s2.2) (by omega) (by decide) (by decide) (Nat.le_of_ble_eq_true rfl) (fun x7 => ?_)
        refine tw_ior (k := 16) rfl ?_
        refine tw_let (fun x8 => [some (.ref a0), some (.int a1), some (.int s2.1), some (.int s2.2)]) (fun x8 => .int x8 :: []) rfl rfl (fun x8 => ?_)
        refine tw_ist_n (k := 17) [some (.ref a0), some (.int a1), some (.int x8), some (.int s2.2)] rfl (Nat.le_of_ble_eq_true rfl) rfl rfl ?_
        exact g5 x8
def mX5_isApart : tw_MD := (yX5_isApart, cX5_isApart, 2, (some FieldType.boolean), [(0, .aload_n 0, 1, 1), (1, .iload_n 1, 1, 2), (2, .invokevirtual 51, 3, 5), (5, .iload_n 1, 1, 6), (6, .iand, 1, 7), (7, .ifCond .ne 7, 3, 10), (10, .iconst 1, 1, 11), (11, .goto 4, 3, 14), (14, .iconst 0, 1, 15), (15, .ireturn, 1, 16)], [])
theorem mo_X5_isApart : tw_mok mX5_isApart 1 := ⟨plainFor_of_name (by decide +kernel), by decide +kernel, by decide +kernel, by decide +kernel, by decide +kernel⟩
theorem dk_X5_isApart : tw_dk mX5_isApart := by unfold tw_dk; decide +kernel
theorem wv_RX5_51_X5_toldBy : tw_wV RX5 51 mX5_toldBy := ⟨List.mem_of_getElem? (i := 657) (by decide +kernel), List.mem_of_getElem? (i := 659) (by decide +kernel), List.mem_of_getElem? (i := 5) (by decide +kernel), List.mem_of_getElem? (i := 135) (by decide +kernel), List.mem_of_getElem? (i := 660) (by decide +kernel)⟩
set_option maxRecDepth 20000 in
theorem K_X5_isApart {g : tw_Gx} (Q : tw_Rs → tw_Mem → Prop) (a0 : Nat) (a1 : Int32) : tw_Kt g mX5_isApart 3 0 0 [.ref a0, .int a1] Q (f_X5_isApart a0 a1 (fun v => Q (.inl (some (.int v))))) := by
  refine tw_mkK (L := [some (.ref a0), some (.int a1)]) mo_X5_isApart dk_X5_isApart rfl (Nat.le_of_ble_eq_true rfl) rfl ?_
  unfold f_X5_isApart
  refine tw_aload_n (k := 0) rfl rfl ?_
  refine tw_iload_n (k := 1) rfl rfl ?_
  refine tw_callV (k := 2) (d' := 2) (mc' := 0) (ms' := 0) tw_cI tw_cIi [.int a1] rfl rfl wv_RX5_51_X5_toldBy mo_X5_toldBy (t := 5) rfl rfl rfl (fun Q9 => K_X5_toldBy Q9 a0 a1) (by omega) (by decide) (by decide) (Nat.le_of_ble_eq_true rfl) (fun x1 => ?_)
  refine tw_iload_n (k := 3) rfl rfl ?_
  refine tw_iand (k := 4) rfl ?_
  refine tw_if_ne (k := 5) 14 rfl (by decide) ?_ ?_
  · refine tw_iconst (k := 8) (0 : Int32) rfl (by decide) ?_
    exact tw_zreturn (k := 9) rfl rfl (by decide) (by decide)
  · refine tw_iconst (k := 6) (1 : Int32) rfl (by decide) ?_
    refine tw_goto (k := 7) 15 rfl (by decide) ?_
    exact tw_zreturn (k := 9) rfl rfl (by decide) (by decide)
def mX5_greatestApart : tw_MD := (yX5_greatestApart, cX5_greatestApart, 3, (some FieldType.int), [(0, .iconst 0, 1, 1), (1, .istore_n 1, 1, 2), (2, .iconst 1, 1, 3), (3, .istore_n 2, 1, 4), (4, .iload_n 2, 1, 5), (5, .aload_n 0, 1, 6), (6, .invokevirtual 54, 3, 9), (9, .if_icmp .gt 37, 3, 12), (12, .iload_n 2, 1, 13), (13, .sipush 256, 3, 16), (16, .if_icmp .ge 30, 3, 19), (19, .iload_n 2, 1, 20), (20, .invokestatic 58, 3, 23), (23, .iload_n 1, 1, 24), (24, .invokestatic 58, 3, 27), (27, .if_icmp .le 13, 3, 30), (30, .aload_n 0, 1, 31), (31, .iload_n 2, 1, 32), (32, .invokevirtual 63, 3, 35), (35, .ifCond .eq 5, 3, 38), (38, .iload_n 2, 1, 39), (39, .istore_n 1, 1, 40), (40, .iinc 2 1, 3, 43), (43, .goto (-39), 3, 46), (46, .iload_n 1, 1, 47), (47, .ireturn, 1, 48)], [])
theorem mo_X5_greatestApart : tw_mok mX5_greatestApart 0 := ⟨plainFor_of_name (by decide +kernel), by decide +kernel, by decide +kernel, by decide +kernel, by decide +kernel⟩
theorem dk_X5_greatestApart : tw_dk mX5_greatestApart := by unfold tw_dk; decide +kernel
theorem wv_RX5_63_X5_isApart : tw_wV RX5 63 mX5_isApart := ⟨List.mem_of_getElem? (i := 653) (by decide +kernel), List.mem_of_getElem? (i := 655) (by decide +kernel), List.mem_of_getElem? (i := 4) (by decide +kernel), List.mem_of_getElem? (i := 135) (by decide +kernel), List.mem_of_getElem? (i := 656) (by decide +kernel)⟩
theorem ws_RX5_58_J6_bitCount_0f7a4 : tw_wS RX5 58 mJ6_bitCount_0f7a4 := ⟨List.mem_of_getElem? (i := 647) (by decide +kernel), List.mem_of_getElem? (i := 648) (by decide +kernel), List.mem_of_getElem? (i := 150) (by decide +kernel), List.mem_of_getElem? (i := 649) (by decide +kernel)⟩
theorem wv_RX5_54_X5_all : tw_wV RX5 54 mX5_all := ⟨List.mem_of_getElem? (i := 643) (by decide +kernel), List.mem_of_getElem? (i := 645) (by decide +kernel), List.mem_of_getElem? (i := 3) (by decide +kernel), List.mem_of_getElem? (i := 135) (by decide +kernel), List.mem_of_getElem? (i := 646) (by decide +kernel)⟩
set_option maxRecDepth 20000 in
theorem K_X5_greatestApart {g : tw_Gx} (Q : tw_Rs → tw_Mem → Prop) (a0 : Nat) : tw_Kt g mX5_greatestApart 4 0 0 [.ref a0] Q (f_X5_greatestApart a0 (fun v => Q (.inl (some (.int v))))) := by
  refine tw_mkK (L := [some (.ref a0), none, none]) mo_X5_greatestApart dk_X5_greatestApart rfl (Nat.le_of_ble_eq_true rfl) rfl ?_
  unfold f_X5_greatestApart
  refine tw_iconst (k := 0) (0 : Int32) rfl (by decide) ?_
  refine tw_ist_n (k := 1) [some (.ref a0), some (.int (0 : Int32)), none] rfl (Nat.le_of_ble_eq_true rfl) rfl rfl ?_
  refine tw_iconst (k := 2) (1 : Int32) rfl (by decide) ?_
  refine tw_ist_n (k := 3) [some (.ref a0), some (.int (0 : Int32)), some (.int (1 : Int32))] rfl (Nat.le_of_ble_eq_true rfl) rfl rfl ?_
  refine tw_loop (fun s2 => [some (.ref a0), some (.int s2.1), some (.int s2.2)]) (fun s2 => []) (fun r1 h1 s2 => ?_) _ rfl rfl
  refine tw_iload_n (k := 4) rfl rfl ?_
  refine tw_aload_n (k := 5) rfl rfl ?_
  refine tw_callV (k := 6) (d' := 1) (mc' := 0) (ms' := 0) tw_cI tw_cIi [] rfl rfl wv_RX5_54_X5_all mo_X5_all (t := 5) rfl rfl rfl (fun Q9 => K_X5_all Q9 a0) (by omega) (by decide) (by decide) (Nat.le_of_ble_eq_true rfl) (fun x3 => ?_)
  refine tw_icmp_gt (k := 7) 46 rfl (by decide) ?_ ?_
  · refine tw_iload_n (k := 24) rfl rfl ?_
    exact tw_ireturn (k := 25) rfl rfl (by decide) (by decide)
  · refine tw_iload_n (k := 8) rfl rfl ?_
    refine tw_sipush (k := 9) (256 : Int32) rfl (by decide) ?_
    refine tw_icmp_ge (k := 10) 46 rfl (by decide) ?_ ?_
    · refine tw_iload_n (k := 24) rfl rfl ?_
      exact tw_ireturn (k := 25) rfl rfl (by decide) (by decide)
    · refine tw_iload_n (k := 11) rfl rfl ?_
      refine tw_callS (k := 12) (d' := 1) (mc' := 0) (ms' := 0) tw_cI tw_cIi [.int s2.2] rfl rfl ws_RX5_58_J6_bitCount_0f7a4 mo_J6_bitCount_0f7a4 rfl (fun Q9 => K_J6_bitCount_0f7a4 Q9 s2.2) (by omega) (by decide) (by decide) (Nat.le_of_ble_eq_true rfl) (fun x4 => ?_)
      refine tw_iload_n (k := 13) rfl rfl ?_
      refine tw_callS (k := 14) (d' := 1) (mc' := 0) (ms' := 0) tw_cI tw_cIi [.int s2.1] rfl rfl ws_RX5_58_J6_bitCount_0f7a4 mo_J6_bitCount_0f7a4 rfl (fun Q9 => K_J6_bitCount_0f7a4 Q9 s2.1) (by omega) (by decide) (by decide) (Nat.le_of_ble_eq_true rfl) (fun x5 => ?_)
      refine tw_join 40 (fun s7 => [some (.ref a0), some (.int s7), some (.int s2.2)]) (fun s7 => []) 0 0 (fun s7 => ?_) (fun j6 g6 => ?_)
      · refine tw_inc (k := 22) (1 : Int32) [some (.ref a0), some (.int s7), some (.int (s2.2 + (1 : Int32)))] rfl rfl (by decide) (Nat.le_of_ble_eq_true rfl) rfl rfl ?_
        refine tw_goto (k := 23) 4 rfl (by decide) ?_
        exact h1 (s7, s2.2 + (1 : Int32))
      · refine tw_icmp_le (k := 15) 40 rfl (by decide) ?_ ?_
        · exact g6 s2.1
        · refine tw_aload_n (k := 16) rfl rfl ?_
          refine tw_iload_n (k := 17) rfl rfl ?_
          refine tw_callV (k := 18) (d' := 3) (mc' := 0) (ms' := 0) tw_cI tw_cIi [.int s2.2] rfl rfl wv_RX5_63_X5_isApart mo_X5_isApart (t := 5) rfl rfl rfl (fun Q9 => K_X5_isApart Q9 a0 s2.2) (by omega) (by decide) (by decide) (Nat.le_of_ble_eq_true rfl) (fun x8 => ?_)
          refine tw_if_eq (k := 19) 40 rfl (by decide) ?_ ?_
          · exact g6 s2.1
          · refine tw_iload_n (k := 20) rfl rfl ?_
            refine tw_ist_n (k := 21) [some (.ref a0), some (.int s2.2), some (.int s2.2)] rfl (Nat.le_of_ble_eq_true rfl) rfl rfl ?_
            exact g6 s2.2
def mX5_fewestGone : tw_MD := (yX5_fewestGone, cX5_fewestGone, 3, (some FieldType.int), [(0, .aload_n 0, 1, 1), (1, .invokevirtual 54, 3, 4), (4, .istore_n 1, 1, 5), (5, .iconst 0, 1, 6), (6, .istore_n 2, 1, 7), (7, .iload_n 2, 1, 8), (8, .aload_n 0, 1, 9), (9, .invokevirtual 54, 3, 12), (12, .if_icmp .ge 44, 3, 15), (15, .iload_n 2, 1, 16), (16, .sipush 256, 3, 19), (19, .if_icmp .ge 37, 3, 22), (22, .iload_n 2, 1, 23), (23, .invokestatic 58, 3, 26), (26, .iload_n 1, 1, 27), (27, .invokestatic 58, 3, 30), (30, .if_icmp .ge 20, 3, 33), (33, .aload_n 0, 1, 34), (34, .aload_n 0, 1, 35), (35, .invokevirtual 54, 3, 38), (38, .iload_n 2, 1, 39), (39, .iconst (-1), 1, 40), (40, .ixor, 1, 41), (41, .iand, 1, 42), (42, .invokevirtual 63, 3, 45), (45, .ifCond .eq 5, 3, 48), (48, .iload_n 2, 1, 49), (49, .istore_n 1, 1, 50), (50, .iinc 2 1, 3, 53), (53, .goto (-46), 3, 56), (56, .iload_n 1, 1, 57), (57, .ireturn, 1, 58)], [])
theorem mo_X5_fewestGone : tw_mok mX5_fewestGone 0 := ⟨plainFor_of_name (by decide +kernel), by decide +kernel, by decide +kernel, by decide +kernel, by decide +kernel⟩
theorem dk_X5_fewestGone : tw_dk mX5_fewestGone := by unfold tw_dk; decide +kernel
set_option maxRecDepth 20000 in
theorem K_X5_fewestGone {g : tw_Gx} (Q : tw_Rs → tw_Mem → Prop) (a0 : Nat) : tw_Kt g mX5_fewestGone 4 0 0 [.ref a0] Q (f_X5_fewestGone a0 (fun v => Q (.inl (some (.int v))))) := by
  refine tw_mkK (L := [some (.ref a0), none, none]) mo_X5_fewestGone dk_X5_fewestGone rfl (Nat.le_of_ble_eq_true rfl) rfl ?_
  unfold f_X5_fewestGone
  refine tw_aload_n (k := 0) rfl rfl ?_
  refine tw_callV (k := 1) (d' := 1) (mc' := 0) (ms' := 0) tw_cI tw_cIi [] rfl rfl wv_RX5_54_X5_all mo_X5_all (t := 5) rfl rfl rfl (fun Q9 => K_X5_all Q9 a0) (by omega) (by decide) (by decide) (Nat.le_of_ble_eq_true rfl) (fun x1 => ?_)
  refine tw_ist_n (k := 2) [some (.ref a0), some (.int x1), none] rfl (Nat.le_of_ble_eq_true rfl) rfl rfl ?_
  refine tw_iconst (k := 3) (0 : Int32) rfl (by decide) ?_
  refine tw_ist_n (k := 4) [some (.ref a0), some (.int x1), some (.int (0 : Int32))] rfl (Nat.le_of_ble_eq_true rfl) rfl rfl ?_
  refine tw_loop (fun s3 => [some (.ref a0), some (.int s3.1), some (.int s3.2)]) (fun s3 => []) (fun r2 h2 s3 => ?_) _ rfl rfl
  refine tw_iload_n (k := 5) rfl rfl ?_
  refine tw_aload_n (k := 6) rfl rfl ?_
  refine tw_callV (k := 7) (d' := 1) (mc' := 0) (ms' := 0) tw_cI tw_cIi [] rfl rfl wv_RX5_54_X5_all mo_X5_all (t := 5) rfl rfl rfl (fun Q9 => K_X5_all Q9 a0) (by omega) (by decide) (by decide) (Nat.le_of_ble_eq_true rfl) (fun x4 => ?_)
  refine tw_icmp_ge (k := 8) 56 rfl (by decide) ?_ ?_
  · refine tw_iload_n (k := 30) rfl rfl ?_
    exact tw_ireturn (k := 31) rfl rfl (by decide) (by decide)
  · refine tw_iload_n (k := 9) rfl rfl ?_
    refine tw_sipush (k := 10) (256 : Int32) rfl (by decide) ?_
    refine tw_icmp_ge (k := 11) 56 rfl (by decide) ?_ ?_
    · refine tw_iload_n (k := 30) rfl rfl ?_
      exact tw_ireturn (k := 31) rfl rfl (by decide) (by decide)
    · refine tw_iload_n (k := 12) rfl rfl ?_
      refine tw_callS (k := 13) (d' := 1) (mc' := 0) (ms' := 0) tw_cI tw_cIi [.int s3.2] rfl rfl ws_RX5_58_J6_bitCount_0f7a4 mo_J6_bitCount_0f7a4 rfl (fun Q9 => K_J6_bitCount_0f7a4 Q9 s3.2) (by omega) (by decide) (by decide) (Nat.le_of_ble_eq_true rfl) (fun x5 => ?_)
      refine tw_iload_n (k := 14) rfl rfl ?_
      refine tw_callS (k := 15) (d' := 1) (mc' := 0) (ms' := 0) tw_cI tw_cIi [.int s3.1] rfl rfl ws_RX5_58_J6_bitCount_0f7a4 mo_J6_bitCount_0f7a4 rfl (fun Q9 => K_J6_bitCount_0f7a4 Q9 s3.1) (by omega) (by decide) (by decide) (Nat.le_of_ble_eq_true rfl) (fun x6 => ?_)
      refine tw_join 50 (fun s8 => [some (.ref a0), some (.int s8), some (.int s3.2)]) (fun s8 => []) 0 0 (fun s8 => ?_) (fun j7 g7 => ?_)
      · refine tw_inc (k := 28) (1 : Int32) [some (.ref a0), some (.int s8), some (.int (s3.2 + (1 : Int32)))] rfl rfl (by decide) (Nat.le_of_ble_eq_true rfl) rfl rfl ?_
        refine tw_goto (k := 29) 7 rfl (by decide) ?_
        exact h2 (s8, s3.2 + (1 : Int32))
      · refine tw_icmp_ge (k := 16) 50 rfl (by decide) ?_ ?_
        · exact g7 s3.1
        · refine tw_aload_n (k := 17) rfl rfl ?_
          refine tw_aload_n (k := 18) rfl rfl ?_
          refine tw_callV (k := 19) (d' := 1) (mc' := 0) (ms' := 0) tw_cI tw_cIi [] rfl rfl wv_RX5_54_X5_all mo_X5_all (t := 5) rfl rfl rfl (fun Q9 => K_X5_all Q9 a0) (by omega) (by decide) (by decide) (Nat.le_of_ble_eq_true rfl) (fun x9 => ?_)
          refine tw_iload_n (k := 20) rfl rfl ?_
          refine tw_iconst (k := 21) (-1 : Int32) rfl (by decide) ?_
          refine tw_ixor (k := 22) rfl ?_
          refine tw_iand (k := 23) rfl ?_
          refine tw_callV (k := 24) (d' := 3) (mc' := 0) (ms' := 0) tw_cI tw_cIi [.int (x9 &&& (s3.2 ^^^ (-1 : Int32)))] rfl rfl wv_RX5_63_X5_isApart mo_X5_isApart (t := 5) rfl rfl rfl (fun Q9 => K_X5_isApart Q9 a0 (x9 &&& (s3.2 ^^^ (-1 : Int32)))) (by omega) (by decide) (by decide) (Nat.le_of_ble_eq_true rfl) (fun x10 => ?_)
          refine tw_if_eq (k := 25) 50 rfl (by decide) ?_ ?_
          · exact g7 s3.1
          · refine tw_iload_n (k := 26) rfl rfl ?_
            refine tw_ist_n (k := 27) [some (.ref a0), some (.int s3.2), some (.int s3.2)] rfl (Nat.le_of_ble_eq_true rfl) rfl rfl ?_
            exact g7 s3.2
def mX5_fewestHeads : tw_MD := (yX5_fewestHeads, cX5_fewestHeads, 3, (some FieldType.int), [(0, .aload_n 0, 1, 1), (1, .invokevirtual 54, 3, 4), (4, .istore_n 1, 1, 5), (5, .iconst 0, 1, 6), (6, .istore_n 2, 1, 7), (7, .iload_n 2, 1, 8), (8, .aload_n 0, 1, 9), (9, .invokevirtual 54, 3, 12), (12, .if_icmp .ge 43, 3, 15), (15, .iload_n 2, 1, 16), (16, .sipush 256, 3, 19), (19, .if_icmp .ge 36, 3, 22), (22, .iload_n 2, 1, 23), (23, .invokestatic 58, 3, 26), (26, .iload_n 1, 1, 27), (27, .invokestatic 58, 3, 30), (30, .if_icmp .ge 19, 3, 33), (33, .aload_n 0, 1, 34), (34, .iload_n 2, 1, 35), (35, .invokevirtual 51, 3, 38), (38, .iload_n 2, 1, 39), (39, .ior, 1, 40), (40, .aload_n 0, 1, 41), (41, .invokevirtual 54, 3, 44), (44, .if_icmp .ne 5, 3, 47), (47, .iload_n 2, 1, 48), (48, .istore_n 1, 1, 49), (49, .iinc 2 1, 3, 52), (52, .goto (-45), 3, 55), (55, .iload_n 1, 1, 56), (56, .ireturn, 1, 57)], [])
theorem mo_X5_fewestHeads : tw_mok mX5_fewestHeads 0 := ⟨plainFor_of_name (by decide +kernel), by decide +kernel, by decide +kernel, by decide +kernel, by decide +kernel⟩
theorem dk_X5_fewestHeads : tw_dk mX5_fewestHeads := by unfold tw_dk; decide +kernel
set_option maxRecDepth 20000 in
theorem K_X5_fewestHeads {g : tw_Gx} (Q : tw_Rs → tw_Mem → Prop) (a0 : Nat) : tw_Kt g mX5_fewestHeads 3 0 0 [.ref a0] Q (f_X5_fewestHeads a0 (fun v => Q (.inl (some (.int v))))) := by
  refine tw_mkK (L := [some (.ref a0), none, none]) mo_X5_fewestHeads dk_X5_fewestHeads rfl (Nat.le_of_ble_eq_true rfl) rfl ?_
  unfold f_X5_fewestHeads
  refine tw_aload_n (k := 0) rfl rfl ?_
  refine tw_callV (k := 1) (d' := 1) (mc' := 0) (ms' := 0) tw_cI tw_cIi [] rfl rfl wv_RX5_54_X5_all mo_X5_all (t := 5) rfl rfl rfl (fun Q9 => K_X5_all Q9 a0) (by omega) (by decide) (by decide) (Nat.le_of_ble_eq_true rfl) (fun x1 => ?_)
  refine tw_ist_n (k := 2) [some (.ref a0), some (.int x1), none] rfl (Nat.le_of_ble_eq_true rfl) rfl rfl ?_
  refine tw_iconst (k := 3) (0 : Int32) rfl (by decide) ?_
  refine tw_ist_n (k := 4) [some (.ref a0), some (.int x1), some (.int (0 : Int32))] rfl (Nat.le_of_ble_eq_true rfl) rfl rfl ?_
  refine tw_loop (fun s3 => [some (.ref a0), some (.int s3.1), some (.int s3.2)]) (fun s3 => []) (fun r2 h2 s3 => ?_) _ rfl rfl
  refine tw_iload_n (k := 5) rfl rfl ?_
  refine tw_aload_n (k := 6) rfl rfl ?_
  refine tw_callV (k := 7) (d' := 1) (mc' := 0) (ms' := 0) tw_cI tw_cIi [] rfl rfl wv_RX5_54_X5_all mo_X5_all (t := 5) rfl rfl rfl (fun Q9 => K_X5_all Q9 a0) (by omega) (by decide) (by decide) (Nat.le_of_ble_eq_true rfl) (fun x4 => ?_)
  refine tw_icmp_ge (k := 8) 55 rfl (by decide) ?_ ?_
  · refine tw_iload_n (k := 29) rfl rfl ?_
    exact tw_ireturn (k := 30) rfl rfl (by decide) (by decide)
  · refine tw_iload_n (k := 9) rfl rfl ?_
    refine tw_sipush (k := 10) (256 : Int32) rfl (by decide) ?_
    refine tw_icmp_ge (k := 11) 55 rfl (by decide) ?_ ?_
    · refine tw_iload_n (k := 29) rfl rfl ?_
      exact tw_ireturn (k := 30) rfl rfl (by decide) (by decide)
    · refine tw_iload_n (k := 12) rfl rfl ?_
      refine tw_callS (k := 13) (d' := 1) (mc' := 0) (ms' := 0) tw_cI tw_cIi [.int s3.2] rfl rfl ws_RX5_58_J6_bitCount_0f7a4 mo_J6_bitCount_0f7a4 rfl (fun Q9 => K_J6_bitCount_0f7a4 Q9 s3.2) (by omega) (by decide) (by decide) (Nat.le_of_ble_eq_true rfl) (fun x5 => ?_)
      refine tw_iload_n (k := 14) rfl rfl ?_
      refine tw_callS (k := 15) (d' := 1) (mc' := 0) (ms' := 0) tw_cI tw_cIi [.int s3.1] rfl rfl ws_RX5_58_J6_bitCount_0f7a4 mo_J6_bitCount_0f7a4 rfl (fun Q9 => K_J6_bitCount_0f7a4 Q9 s3.1) (by omega) (by decide) (by decide) (Nat.le_of_ble_eq_true rfl) (fun x6 => ?_)
      refine tw_join 49 (fun s8 => [some (.ref a0), some (.int s8), some (.int s3.2)]) (fun s8 => []) 0 0 (fun s8 => ?_) (fun j7 g7 => ?_)
      · refine tw_inc (k := 27) (1 : Int32) [some (.ref a0), some (.int s8), some (.int (s3.2 + (1 : Int32)))] rfl rfl (by decide) (Nat.le_of_ble_eq_true rfl) rfl rfl ?_
        refine tw_goto (k := 28) 7 rfl (by decide) ?_
        exact h2 (s8, s3.2 + (1 : Int32))
      · refine tw_icmp_ge (k := 16) 49 rfl (by decide) ?_ ?_
        · exact g7 s3.1
        · refine tw_aload_n (k := 17) rfl rfl ?_
          refine tw_iload_n (k := 18) rfl rfl ?_
          refine tw_callV (k := 19) (d' := 2) (mc' := 0) (ms' := 0) tw_cI tw_cIi [.int s3.2] rfl rfl wv_RX5_51_X5_toldBy mo_X5_toldBy (t := 5) rfl rfl rfl (fun Q9 => K_X5_toldBy Q9 a0 s3.2) (by omega) (by decide) (by decide) (Nat.le_of_ble_eq_true rfl) (fun x9 => ?_)
          refine tw_iload_n (k := 20) rfl rfl ?_
          refine tw_ior (k := 21) rfl ?_
          refine tw_aload_n (k := 22) rfl rfl ?_
          refine tw_callV (k := 23) (d' := 1) (mc' := 0) (ms' := 0) tw_cI tw_cIi [] rfl rfl wv_RX5_54_X5_all mo_X5_all (t := 5) rfl rfl rfl (fun Q9 => K_X5_all Q9 a0) (by omega) (by decide) (by decide) (Nat.le_of_ble_eq_true rfl) (fun x10 => ?_)
          refine tw_icmp_ne (k := 24) 49 rfl (by decide) ?_ ?_
          · exact g7 s3.1
          · refine tw_iload_n (k := 25) rfl rfl ?_
            refine tw_ist_n (k := 26) [some (.ref a0), some (.int s3.2), some (.int s3.2)] rfl (Nat.le_of_ble_eq_true rfl) rfl rfl ?_
            exact g7 s3.2
def mX5_across : tw_MD := (yX5_across, cX5_across, 4, (some FieldType.int), [(0, .iconst 0, 1, 1), (1, .istore_n 2, 1, 2), (2, .iconst 0, 1, 3), (3, .istore_n 3, 1, 4), (4, .iload_n 3, 1, 5), (5, .aload_n 0, 1, 6), (6, .getfield 36, 3, 9), (9, .if_icmp .ge 32, 3, 12), (12, .iload_n 1, 1, 13), (13, .iload_n 3, 1, 14), (14, .invokestatic 44, 3, 17), (17, .ifCond .eq 18, 3, 20), (20, .iload_n 2, 1, 21), (21, .aload_n 0, 1, 22), (22, .iload_n 3, 1, 23), (23, .invokevirtual 48, 3, 26), (26, .iload_n 1, 1, 27), (27, .iconst (-1), 1, 28), (28, .ixor, 1, 29), (29, .iand, 1, 30), (30, .invokestatic 58, 3, 33), (33, .iadd, 1, 34), (34, .istore_n 2, 1, 35), (35, .iinc 3 1, 3, 38), (38, .goto (-34), 3, 41), (41, .iload_n 2, 1, 42), (42, .ireturn, 1, 43)], [])
theorem mo_X5_across : tw_mok mX5_across 1 := ⟨plainFor_of_name (by decide +kernel), by decide +kernel, by decide +kernel, by decide +kernel, by decide +kernel⟩
theorem dk_X5_across : tw_dk mX5_across := by unfold tw_dk; decide +kernel
set_option maxRecDepth 20000 in
theorem K_X5_across {g : tw_Gx} (Q : tw_Rs → tw_Mem → Prop) (a0 : Nat) (a1 : Int32) : tw_Kt g mX5_across 2 0 0 [.ref a0, .int a1] Q (f_X5_across a0 a1 (fun v => Q (.inl (some (.int v))))) := by
  refine tw_mkK (L := [some (.ref a0), some (.int a1), none, none]) mo_X5_across dk_X5_across rfl (Nat.le_of_ble_eq_true rfl) rfl ?_
  unfold f_X5_across
  refine tw_iconst (k := 0) (0 : Int32) rfl (by decide) ?_
  refine tw_ist_n (k := 1) [some (.ref a0), some (.int a1), some (.int (0 : Int32)), none] rfl (Nat.le_of_ble_eq_true rfl) rfl rfl ?_
  refine tw_iconst (k := 2) (0 : Int32) rfl (by decide) ?_
  refine tw_ist_n (k := 3) [some (.ref a0), some (.int a1), some (.int (0 : Int32)), some (.int (0 : Int32))] rfl (Nat.le_of_ble_eq_true rfl) rfl rfl ?_
  refine tw_loop (fun s2 => [some (.ref a0), some (.int a1), some (.int s2.1), some (.int s2.2)]) (fun s2 => []) (fun r1 h1 s2 => ?_) _ rfl rfl
  refine tw_iload_n (k := 4) rfl rfl ?_
  refine tw_aload_n (k := 5) rfl rfl ?_
  refine tw_getI (k := 6) rfl fl_RX5_36 (fun x3 => ?_)
  refine tw_icmp_ge (k := 7) 41 rfl (by decide) ?_ ?_
  · refine tw_iload_n (k := 25) rfl rfl ?_
    exact tw_ireturn (k := 26) rfl rfl (by decide) (by decide)
  · refine tw_iload_n (k := 8) rfl rfl ?_
    refine tw_iload_n (k := 9) rfl rfl ?_
    refine tw_callSN (k := 10) (d' := 1) (mc' := 0) (ms' := 0) tw_cI tw_cIi [.int a1, .int s2.2] rfl rfl wn_RX5_44_X11_isIn mo_X11_isIn rfl (fun Q9 => K_X11_isIn Q9 a1 s2.2) (by omega) (by decide) (by decide) (Nat.le_of_ble_eq_true rfl) (fun x4 => ?_)
    refine tw_join 35 (fun s6 => [some (.ref a0), some (.int a1), some (.int s6), some (.int s2.2)]) (fun s6 => []) 0 0 (fun s6 => ?_) (fun j5 g5 => ?_)
    · refine tw_inc (k := 23) (1 : Int32) [some (.ref a0), some (.int a1), some (.int s6), some (.int (s2.2 + (1 : Int32)))] rfl rfl (by decide) (Nat.le_of_ble_eq_true rfl) rfl rfl ?_
      refine tw_goto (k := 24) 4 rfl (by decide) ?_
      exact h1 (s6, s2.2 + (1 : Int32))
    · refine tw_if_eq (k := 11) 35 rfl (by decide) ?_ ?_
      · exact g5 s2.1
      · refine tw_iload_n (k := 12) rfl rfl ?_
        refine tw_aload_n (k := 13) rfl rfl ?_
        refine tw_iload_n (k := 14) rfl rfl ?_
        refine tw_callV (k := 15) (d' := 1) (mc' := 0) (ms' := 0) tw_cI tw_cIi [.int s2.2] rfl rfl wv_RX5_48_X5_rowOf mo_X5_rowOf (t := 5) rfl rfl rfl (fun Q9 => K_X5_rowOf Q9 a0 s2.2) (by omega) (by decide) (by decide) (Nat.le_of_ble_eq_true rfl) (fun x7 => ?_)
        refine tw_iload_n (k := 16) rfl rfl ?_
        refine tw_iconst (k := 17) (-1 : Int32) rfl (by decide) ?_
        refine tw_ixor (k := 18) rfl ?_
        refine tw_iand (k := 19) rfl ?_
        refine tw_callS (k := 20) (d' := 1) (mc' := 0) (ms' := 0) tw_cI tw_cIi [.int (x7 &&& (a1 ^^^ (-1 : Int32)))] rfl rfl ws_RX5_58_J6_bitCount_0f7a4 mo_J6_bitCount_0f7a4 rfl (fun Q9 => K_J6_bitCount_0f7a4 Q9 (x7 &&& (a1 ^^^ (-1 : Int32)))) (by omega) (by decide) (by decide) (Nat.le_of_ble_eq_true rfl) (fun x8 => ?_)
        refine tw_iadd (k := 21) rfl ?_
        refine tw_let (fun x9 => [some (.ref a0), some (.int a1), some (.int s2.1), some (.int s2.2)]) (fun x9 => .int x9 :: []) rfl rfl (fun x9 => ?_)
        refine tw_ist_n (k := 22) [some (.ref a0), some (.int a1), some (.int x9), some (.int s2.2)] rfl (Nat.le_of_ble_eq_true rfl) rfl rfl ?_
        exact g5 x9
def mX5_bestParting : tw_MD := (yX5_bestParting, cX5_bestParting, 3, (some FieldType.int), [(0, .iconst 0, 1, 1), (1, .istore_n 1, 1, 2), (2, .iconst 1, 1, 3), (3, .istore_n 2, 1, 4), (4, .iload_n 2, 1, 5), (5, .aload_n 0, 1, 6), (6, .invokevirtual 54, 3, 9), (9, .if_icmp .gt 31, 3, 12), (12, .iload_n 2, 1, 13), (13, .sipush 256, 3, 16), (16, .if_icmp .ge 24, 3, 19), (19, .aload_n 0, 1, 20), (20, .iload_n 2, 1, 21), (21, .invokevirtual 67, 3, 24), (24, .aload_n 0, 1, 25), (25, .iload_n 1, 1, 26), (26, .invokevirtual 67, 3, 29), (29, .if_icmp .le 5, 3, 32), (32, .iload_n 2, 1, 33), (33, .istore_n 1, 1, 34), (34, .iinc 2 1, 3, 37), (37, .goto (-33), 3, 40), (40, .iload_n 1, 1, 41), (41, .ireturn, 1, 42)], [])
theorem mo_X5_bestParting : tw_mok mX5_bestParting 0 := ⟨plainFor_of_name (by decide +kernel), by decide +kernel, by decide +kernel, by decide +kernel, by decide +kernel⟩
theorem dk_X5_bestParting : tw_dk mX5_bestParting := by unfold tw_dk; decide +kernel
theorem wv_RX5_67_X5_across : tw_wV RX5 67 mX5_across := ⟨List.mem_of_getElem? (i := 695) (by decide +kernel), List.mem_of_getElem? (i := 696) (by decide +kernel), List.mem_of_getElem? (i := 697) (by decide +kernel), List.mem_of_getElem? (i := 135) (by decide +kernel), List.mem_of_getElem? (i := 698) (by decide +kernel)⟩
set_option maxRecDepth 20000 in
theorem K_X5_bestParting {g : tw_Gx} (Q : tw_Rs → tw_Mem → Prop) (a0 : Nat) : tw_Kt g mX5_bestParting 3 0 0 [.ref a0] Q (f_X5_bestParting a0 (fun v => Q (.inl (some (.int v))))) := by
  refine tw_mkK (L := [some (.ref a0), none, none]) mo_X5_bestParting dk_X5_bestParting rfl (Nat.le_of_ble_eq_true rfl) rfl ?_
  unfold f_X5_bestParting
  refine tw_iconst (k := 0) (0 : Int32) rfl (by decide) ?_
  refine tw_ist_n (k := 1) [some (.ref a0), some (.int (0 : Int32)), none] rfl (Nat.le_of_ble_eq_true rfl) rfl rfl ?_
  refine tw_iconst (k := 2) (1 : Int32) rfl (by decide) ?_
  refine tw_ist_n (k := 3) [some (.ref a0), some (.int (0 : Int32)), some (.int (1 : Int32))] rfl (Nat.le_of_ble_eq_true rfl) rfl rfl ?_
  refine tw_loop (fun s2 => [some (.ref a0), some (.int s2.1), some (.int s2.2)]) (fun s2 => []) (fun r1 h1 s2 => ?_) _ rfl rfl
  refine tw_iload_n (k := 4) rfl rfl ?_
  refine tw_aload_n (k := 5) rfl rfl ?_
  refine tw_callV (k := 6) (d' := 1) (mc' := 0) (ms' := 0) tw_cI tw_cIi [] rfl rfl wv_RX5_54_X5_all mo_X5_all (t := 5) rfl rfl rfl (fun Q9 => K_X5_all Q9 a0) (by omega) (by decide) (by decide) (Nat.le_of_ble_eq_true rfl) (fun x3 => ?_)
  refine tw_icmp_gt (k := 7) 40 rfl (by decide) ?_ ?_
  · refine tw_iload_n (k := 22) rfl rfl ?_
    exact tw_ireturn (k := 23) rfl rfl (by decide) (by decide)
  · refine tw_iload_n (k := 8) rfl rfl ?_
    refine tw_sipush (k := 9) (256 : Int32) rfl (by decide) ?_
    refine tw_icmp_ge (k := 10) 40 rfl (by decide) ?_ ?_
    · refine tw_iload_n (k := 22) rfl rfl ?_
      exact tw_ireturn (k := 23) rfl rfl (by decide) (by decide)
    · refine tw_aload_n (k := 11) rfl rfl ?_
      refine tw_iload_n (k := 12) rfl rfl ?_
      refine tw_callV (k := 13) (d' := 2) (mc' := 0) (ms' := 0) tw_cI tw_cIi [.int s2.2] rfl rfl wv_RX5_67_X5_across mo_X5_across (t := 5) rfl rfl rfl (fun Q9 => K_X5_across Q9 a0 s2.2) (by omega) (by decide) (by decide) (Nat.le_of_ble_eq_true rfl) (fun x4 => ?_)
      refine tw_aload_n (k := 14) rfl rfl ?_
      refine tw_iload_n (k := 15) rfl rfl ?_
      refine tw_callV (k := 16) (d' := 2) (mc' := 0) (ms' := 0) tw_cI tw_cIi [.int s2.1] rfl rfl wv_RX5_67_X5_across mo_X5_across (t := 5) rfl rfl rfl (fun Q9 => K_X5_across Q9 a0 s2.1) (by omega) (by decide) (by decide) (Nat.le_of_ble_eq_true rfl) (fun x5 => ?_)
      refine tw_join 34 (fun s7 => [some (.ref a0), some (.int s7), some (.int s2.2)]) (fun s7 => []) 0 0 (fun s7 => ?_) (fun j6 g6 => ?_)
      · refine tw_inc (k := 20) (1 : Int32) [some (.ref a0), some (.int s7), some (.int (s2.2 + (1 : Int32)))] rfl rfl (by decide) (Nat.le_of_ble_eq_true rfl) rfl rfl ?_
        refine tw_goto (k := 21) 4 rfl (by decide) ?_
        exact h1 (s7, s2.2 + (1 : Int32))
      · refine tw_icmp_le (k := 17) 34 rfl (by decide) ?_ ?_
        · exact g6 s2.1
        · refine tw_iload_n (k := 18) rfl rfl ?_
          refine tw_ist_n (k := 19) [some (.ref a0), some (.int s2.2), some (.int s2.2)] rfl (Nat.le_of_ble_eq_true rfl) rfl rfl ?_
          exact g6 s2.2
def mX5_reached : tw_MD := (yX5_reached, cX5_reached, 6, (some FieldType.int), [(0, .iconst 0, 1, 1), (1, .istore_n 3, 1, 2), (2, .iconst 1, 1, 3), (3, .iload_n 1, 1, 4), (4, .ishl, 1, 5), (5, .istore 4, 2, 7), (7, .iconst 0, 1, 8), (8, .istore 5, 2, 10), (10, .iload 5, 2, 12), (12, .iload_n 2, 1, 13), (13, .if_icmp .ge 22, 3, 16), (16, .aload_n 0, 1, 17), (17, .iload 4, 2, 19), (19, .invokevirtual 51, 3, 22), (22, .istore 4, 2, 24), (24, .iload_n 3, 1, 25), (25, .iload 4, 2, 27), (27, .ior, 1, 28), (28, .istore_n 3, 1, 29), (29, .iinc 5 1, 3, 32), (32, .goto (-22), 3, 35), (35, .iload_n 3, 1, 36), (36, .ireturn, 1, 37)], [])
theorem mo_X5_reached : tw_mok mX5_reached 2 := ⟨plainFor_of_name (by decide +kernel), by decide +kernel, by decide +kernel, by decide +kernel, by decide +kernel⟩
theorem dk_X5_reached : tw_dk mX5_reached := by unfold tw_dk; decide +kernel
set_option maxRecDepth 20000 in
theorem K_X5_reached {g : tw_Gx} (Q : tw_Rs → tw_Mem → Prop) (a0 : Nat) (a1 : Int32) (a2 : Int32) : tw_Kt g mX5_reached 3 0 0 [.ref a0, .int a1, .int a2] Q (f_X5_reached a0 a1 a2 (fun v => Q (.inl (some (.int v))))) := by
  refine tw_mkK (L := [some (.ref a0), some (.int a1), some (.int a2), none, none, none]) mo_X5_reached dk_X5_reached rfl (Nat.le_of_ble_eq_true rfl) rfl ?_
  unfold f_X5_reached
  refine tw_iconst (k := 0) (0 : Int32) rfl (by decide) ?_
  refine tw_ist_n (k := 1) [some (.ref a0), some (.int a1), some (.int a2), some (.int (0 : Int32)), none, none] rfl (Nat.le_of_ble_eq_true rfl) rfl rfl ?_
  refine tw_iconst (k := 2) (1 : Int32) rfl (by decide) ?_
  refine tw_iload_n (k := 3) rfl rfl ?_
  refine tw_ishl (k := 4) rfl ?_
  refine tw_let (fun x1 => [some (.ref a0), some (.int a1), some (.int a2), some (.int (0 : Int32)), none, none]) (fun x1 => .int x1 :: []) rfl rfl (fun x1 => ?_)
  refine tw_ist (k := 5) [some (.ref a0), some (.int a1), some (.int a2), some (.int (0 : Int32)), some (.int x1), none] rfl (Nat.le_of_ble_eq_true rfl) rfl rfl ?_
  refine tw_iconst (k := 6) (0 : Int32) rfl (by decide) ?_
  refine tw_ist (k := 7) [some (.ref a0), some (.int a1), some (.int a2), some (.int (0 : Int32)), some (.int x1), some (.int (0 : Int32))] rfl (Nat.le_of_ble_eq_true rfl) rfl rfl ?_
  refine tw_loop (fun s3 => [some (.ref a0), some (.int a1), some (.int a2), some (.int s3.1), some (.int s3.2.1), some (.int s3.2.2)]) (fun s3 => []) (fun r2 h2 s3 => ?_) _ rfl rfl
  refine tw_iload (k := 8) rfl rfl ?_
  refine tw_iload_n (k := 9) rfl rfl ?_
  refine tw_icmp_ge (k := 10) 35 rfl (by decide) ?_ ?_
  · refine tw_iload_n (k := 21) rfl rfl ?_
    exact tw_ireturn (k := 22) rfl rfl (by decide) (by decide)
  · refine tw_aload_n (k := 11) rfl rfl ?_
    refine tw_iload (k := 12) rfl rfl ?_
    refine tw_callV (k := 13) (d' := 2) (mc' := 0) (ms' := 0) tw_cI tw_cIi [.int s3.2.1] rfl rfl wv_RX5_51_X5_toldBy mo_X5_toldBy (t := 5) rfl rfl rfl (fun Q9 => K_X5_toldBy Q9 a0 s3.2.1) (by omega) (by decide) (by decide) (Nat.le_of_ble_eq_true rfl) (fun x4 => ?_)
    refine tw_ist (k := 14) [some (.ref a0), some (.int a1), some (.int a2), some (.int s3.1), some (.int x4), some (.int s3.2.2)] rfl (Nat.le_of_ble_eq_true rfl) rfl rfl ?_
    refine tw_iload_n (k := 15) rfl rfl ?_
    refine tw_iload (k := 16) rfl rfl ?_
    refine tw_ior (k := 17) rfl ?_
    refine tw_let (fun x5 => [some (.ref a0), some (.int a1), some (.int a2), some (.int s3.1), some (.int x4), some (.int s3.2.2)]) (fun x5 => .int x5 :: []) rfl rfl (fun x5 => ?_)
    refine tw_ist_n (k := 18) [some (.ref a0), some (.int a1), some (.int a2), some (.int x5), some (.int x4), some (.int s3.2.2)] rfl (Nat.le_of_ble_eq_true rfl) rfl rfl ?_
    refine tw_inc (k := 19) (1 : Int32) [some (.ref a0), some (.int a1), some (.int a2), some (.int x5), some (.int x4), some (.int (s3.2.2 + (1 : Int32)))] rfl rfl (by decide) (Nat.le_of_ble_eq_true rfl) rfl rfl ?_
    refine tw_goto (k := 20) 10 rfl (by decide) ?_
    exact h2 (x5, x4, s3.2.2 + (1 : Int32))
def mX5_stepsBack : tw_MD := (yX5_stepsBack, cX5_stepsBack, 4, (some FieldType.int), [(0, .iconst 1, 1, 1), (1, .iload_n 1, 1, 2), (2, .ishl, 1, 3), (3, .istore_n 2, 1, 4), (4, .iconst 1, 1, 5), (5, .istore_n 3, 1, 6), (6, .iload_n 3, 1, 7), (7, .aload_n 0, 1, 8), (8, .getfield 36, 3, 11), (11, .if_icmp .gt 25, 3, 14), (14, .aload_n 0, 1, 15), (15, .iload_n 2, 1, 16), (16, .invokevirtual 51, 3, 19), (19, .istore_n 2, 1, 20), (20, .iload_n 2, 1, 21), (21, .iload_n 1, 1, 22), (22, .invokestatic 44, 3, 25), (25, .ifCond .eq 5, 3, 28), (28, .iload_n 3, 1, 29), (29, .ireturn, 1, 30), (30, .iinc 3 1, 3, 33), (33, .goto (-27), 3, 36), (36, .iconst (-1), 1, 37), (37, .ireturn, 1, 38)], [])
theorem mo_X5_stepsBack : tw_mok mX5_stepsBack 1 := ⟨plainFor_of_name (by decide +kernel), by decide +kernel, by decide +kernel, by decide +kernel, by decide +kernel⟩
theorem dk_X5_stepsBack : tw_dk mX5_stepsBack := by unfold tw_dk; decide +kernel
set_option maxRecDepth 20000 in
theorem K_X5_stepsBack {g : tw_Gx} (Q : tw_Rs → tw_Mem → Prop) (a0 : Nat) (a1 : Int32) : tw_Kt g mX5_stepsBack 3 0 0 [.ref a0, .int a1] Q (f_X5_stepsBack a0 a1 (fun v => Q (.inl (some (.int v))))) := by
  refine tw_mkK (L := [some (.ref a0), some (.int a1), none, none]) mo_X5_stepsBack dk_X5_stepsBack rfl (Nat.le_of_ble_eq_true rfl) rfl ?_
  unfold f_X5_stepsBack
  refine tw_iconst (k := 0) (1 : Int32) rfl (by decide) ?_
  refine tw_iload_n (k := 1) rfl rfl ?_
  refine tw_ishl (k := 2) rfl ?_
  refine tw_let (fun x1 => [some (.ref a0), some (.int a1), none, none]) (fun x1 => .int x1 :: []) rfl rfl (fun x1 => ?_)
  refine tw_ist_n (k := 3) [some (.ref a0), some (.int a1), some (.int x1), none] rfl (Nat.le_of_ble_eq_true rfl) rfl rfl ?_
  refine tw_iconst (k := 4) (1 : Int32) rfl (by decide) ?_
  refine tw_ist_n (k := 5) [some (.ref a0), some (.int a1), some (.int x1), some (.int (1 : Int32))] rfl (Nat.le_of_ble_eq_true rfl) rfl rfl ?_
  refine tw_loop (fun s3 => [some (.ref a0), some (.int a1), some (.int s3.1), some (.int s3.2)]) (fun s3 => []) (fun r2 h2 s3 => ?_) _ rfl rfl
  refine tw_iload_n (k := 6) rfl rfl ?_
  refine tw_aload_n (k := 7) rfl rfl ?_
  refine tw_getI (k := 8) rfl fl_RX5_36 (fun x4 => ?_)
  refine tw_icmp_gt (k := 9) 36 rfl (by decide) ?_ ?_
  · refine tw_iconst (k := 22) (-1 : Int32) rfl (by decide) ?_
    exact tw_ireturn (k := 23) rfl rfl (by decide) (by decide)
  · refine tw_aload_n (k := 10) rfl rfl ?_
    refine tw_iload_n (k := 11) rfl rfl ?_
    refine tw_callV (k := 12) (d' := 2) (mc' := 0) (ms' := 0) tw_cI tw_cIi [.int s3.1] rfl rfl wv_RX5_51_X5_toldBy mo_X5_toldBy (t := 5) rfl rfl rfl (fun Q9 => K_X5_toldBy Q9 a0 s3.1) (by omega) (by decide) (by decide) (Nat.le_of_ble_eq_true rfl) (fun x5 => ?_)
    refine tw_ist_n (k := 13) [some (.ref a0), some (.int a1), some (.int x5), some (.int s3.2)] rfl (Nat.le_of_ble_eq_true rfl) rfl rfl ?_
    refine tw_iload_n (k := 14) rfl rfl ?_
    refine tw_iload_n (k := 15) rfl rfl ?_
    refine tw_callSN (k := 16) (d' := 1) (mc' := 0) (ms' := 0) tw_cI tw_cIi [.int x5, .int a1] rfl rfl wn_RX5_44_X11_isIn mo_X11_isIn rfl (fun Q9 => K_X11_isIn Q9 x5 a1) (by omega) (by decide) (by decide) (Nat.le_of_ble_eq_true rfl) (fun x6 => ?_)
    refine tw_if_eq (k := 17) 30 rfl (by decide) ?_ ?_
    · refine tw_inc (k := 20) (1 : Int32) [some (.ref a0), some (.int a1), some (.int x5), some (.int (s3.2 + (1 : Int32)))] rfl rfl (by decide) (Nat.le_of_ble_eq_true rfl) rfl rfl ?_
      refine tw_goto (k := 21) 6 rfl (by decide) ?_
      exact h2 (x5, s3.2 + (1 : Int32))
    · refine tw_iload_n (k := 18) rfl rfl ?_
      exact tw_ireturn (k := 19) rfl rfl (by decide) (by decide)
def mX5_setWorth : tw_MD := (yX5_setWorth, cX5_setWorth, 5, none, [(0, .iload_n 1, 1, 1), (1, .iload_n 2, 1, 2), (2, .invokestatic 70, 3, 5), (5, .istore 4, 2, 7), (7, .iload 4, 2, 9), (9, .ifCond .lt 11, 3, 12), (12, .aload_n 0, 1, 13), (13, .getfield 15, 3, 16), (16, .iload 4, 2, 18), (18, .iload_n 3, 1, 19), (19, .iastore, 1, 20), (20, .return_, 1, 21)], [])
theorem mo_X5_setWorth : tw_mok mX5_setWorth 3 := ⟨plainFor_of_name (by decide +kernel), by decide +kernel, by decide +kernel, by decide +kernel, by decide +kernel⟩
theorem dk_X5_setWorth : tw_dk mX5_setWorth := by unfold tw_dk; decide +kernel
theorem wn_RX5_70_X8_cell : tw_wSN RX5 70 mX8_cell "TwinRopes" := ⟨List.mem_of_getElem? (i := 1561) (by decide +kernel), List.mem_of_getElem? (i := 548) (by decide +kernel), List.mem_of_getElem? (i := 126) (by decide +kernel), List.mem_of_getElem? (i := 549) (by decide +kernel)⟩
set_option maxRecDepth 20000 in
theorem K_X5_setWorth {g : tw_Gx} (Q : tw_Rs → tw_Mem → Prop) (a0 : Nat) (a1 : Int32) (a2 : Int32) (a3 : Int32) : tw_Kt g mX5_setWorth 2 0 0 [.ref a0, .int a1, .int a2, .int a3] Q (f_X5_setWorth a0 a1 a2 a3 (fun v => Q (.inl none))) := by
  refine tw_mkK (L := [some (.ref a0), some (.int a1), some (.int a2), some (.int a3), none]) mo_X5_setWorth dk_X5_setWorth rfl (Nat.le_of_ble_eq_true rfl) rfl ?_
  unfold f_X5_setWorth
  refine tw_iload_n (k := 0) rfl rfl ?_
  refine tw_iload_n (k := 1) rfl rfl ?_
  refine tw_callSN (k := 2) (d' := 1) (mc' := 0) (ms' := 0) tw_cI tw_cIi [.int a1, .int a2] rfl rfl wn_RX5_70_X8_cell mo_X8_cell rfl (fun Q9 => K_X8_cell Q9 a1 a2) (by omega) (by decide) (by decide) (Nat.le_of_ble_eq_true rfl) (fun x1 => ?_)
  refine tw_ist (k := 3) [some (.ref a0), some (.int a1), some (.int a2), some (.int a3), some (.int x1)] rfl (Nat.le_of_ble_eq_true rfl) rfl rfl ?_
  refine tw_iload (k := 4) rfl rfl ?_
  refine tw_if_lt (k := 5) 20 rfl (by decide) ?_ ?_
  · exact tw_return (k := 11) rfl rfl (by decide) (by decide)
  · refine tw_aload_n (k := 6) rfl rfl ?_
    refine tw_getR (k := 7) rfl fl_RX5_15 (fun x2 => ?_)
    refine tw_iload (k := 8) rfl rfl ?_
    refine tw_iload_n (k := 9) rfl rfl ?_
    refine tw_iastore (k := 10) rfl ?_
    exact tw_return (k := 11) rfl rfl (by decide) (by decide)
def mX5_without : tw_MD := (yX5_without, cX5_without, 2, (some FieldType.int), [(0, .iload_n 0, 1, 1), (1, .iconst 1, 1, 2), (2, .iload_n 1, 1, 3), (3, .ishl, 1, 4), (4, .iconst (-1), 1, 5), (5, .ixor, 1, 6), (6, .iand, 1, 7), (7, .ireturn, 1, 8)], [])
theorem mo_X5_without : tw_mok mX5_without 2 := ⟨plainFor_of_name (by decide +kernel), by decide +kernel, by decide +kernel, by decide +kernel, by decide +kernel⟩
theorem dk_X5_without : tw_dk mX5_without := by unfold tw_dk; decide +kernel
set_option maxRecDepth 20000 in
theorem K_X5_without {g : tw_Gx} (Q : tw_Rs → tw_Mem → Prop) (a0 : Int32) (a1 : Int32) : tw_Kt g mX5_without 1 0 0 [.int a0, .int a1] Q (f_X5_without a0 a1 (fun v => Q (.inl (some (.int v))))) := by
  refine tw_mkK (L := [some (.int a0), some (.int a1)]) mo_X5_without dk_X5_without rfl (Nat.le_of_ble_eq_true rfl) rfl ?_
  unfold f_X5_without
  refine tw_iload_n (k := 0) rfl rfl ?_
  refine tw_iconst (k := 1) (1 : Int32) rfl (by decide) ?_
  refine tw_iload_n (k := 2) rfl rfl ?_
  refine tw_ishl (k := 3) rfl ?_
  refine tw_iconst (k := 4) (-1 : Int32) rfl (by decide) ?_
  refine tw_ixor (k := 5) rfl ?_
  refine tw_iand (k := 6) rfl ?_
  exact tw_ireturn (k := 7) rfl rfl (by decide) (by decide)
def mX5_mostIn : tw_MD := (yX5_mostIn, cX5_mostIn, 2, (some FieldType.int), [(0, .iload_n 1, 1, 1), (1, .ifCond .lt 19, 3, 4), (4, .iload_n 1, 1, 5), (5, .sipush 256, 3, 8), (8, .if_icmp .ge 12, 3, 11), (11, .aload_n 0, 1, 12), (12, .getfield 18, 3, 15), (15, .iload_n 1, 1, 16), (16, .iaload, 1, 17), (17, .goto 4, 3, 20), (20, .iconst 0, 1, 21), (21, .ireturn, 1, 22)], [])
theorem mo_X5_mostIn : tw_mok mX5_mostIn 1 := ⟨plainFor_of_name (by decide +kernel), by decide +kernel, by decide +kernel, by decide +kernel, by decide +kernel⟩
theorem dk_X5_mostIn : tw_dk mX5_mostIn := by unfold tw_dk; decide +kernel
set_option maxRecDepth 20000 in
theorem K_X5_mostIn {g : tw_Gx} (Q : tw_Rs → tw_Mem → Prop) (a0 : Nat) (a1 : Int32) : tw_Kt g mX5_mostIn 1 0 0 [.ref a0, .int a1] Q (f_X5_mostIn a0 a1 (fun v => Q (.inl (some (.int v))))) := by
  refine tw_mkK (L := [some (.ref a0), some (.int a1)]) mo_X5_mostIn dk_X5_mostIn rfl (Nat.le_of_ble_eq_true rfl) rfl ?_
  unfold f_X5_mostIn
  refine tw_iload_n (k := 0) rfl rfl ?_
  refine tw_if_lt (k := 1) 20 rfl (by decide) ?_ ?_
  · refine tw_iconst (k := 10) (0 : Int32) rfl (by decide) ?_
    exact tw_ireturn (k := 11) rfl rfl (by decide) (by decide)
  · refine tw_iload_n (k := 2) rfl rfl ?_
    refine tw_sipush (k := 3) (256 : Int32) rfl (by decide) ?_
    refine tw_icmp_ge (k := 4) 20 rfl (by decide) ?_ ?_
    · refine tw_iconst (k := 10) (0 : Int32) rfl (by decide) ?_
      exact tw_ireturn (k := 11) rfl rfl (by decide) (by decide)
    · refine tw_aload_n (k := 5) rfl rfl ?_
      refine tw_getR (k := 6) rfl fl_RX5_18 (fun x1 => ?_)
      refine tw_iload_n (k := 7) rfl rfl ?_
      refine tw_iaload (k := 8) rfl (fun x2 => ?_)
      refine tw_goto (k := 9) 21 rfl (by decide) ?_
      exact tw_ireturn (k := 11) rfl rfl (by decide) (by decide)
def mX5_mostWith : tw_MD := (yX5_mostWith, cX5_mostWith, 5, (some FieldType.int), [(0, .iload_n 2, 1, 1), (1, .iload_n 3, 1, 2), (2, .invokestatic 70, 3, 5), (5, .istore 4, 2, 7), (7, .iload 4, 2, 9), (9, .ifCond .lt 11, 3, 12), (12, .iload_n 1, 1, 13), (13, .iload_n 3, 1, 14), (14, .invokestatic 44, 3, 17), (17, .ifCond .ne 5, 3, 20), (20, .iconst (-1), 1, 21), (21, .ireturn, 1, 22), (22, .aload_n 0, 1, 23), (23, .getfield 15, 3, 26), (26, .iload 4, 2, 28), (28, .iaload, 1, 29), (29, .aload_n 0, 1, 30), (30, .iload_n 1, 1, 31), (31, .iload_n 2, 1, 32), (32, .invokestatic 85, 3, 35), (35, .iload_n 3, 1, 36), (36, .invokestatic 85, 3, 39), (39, .invokevirtual 88, 3, 42), (42, .iadd, 1, 43), (43, .ireturn, 1, 44)], [])
theorem mo_X5_mostWith : tw_mok mX5_mostWith 3 := ⟨plainFor_of_name (by decide +kernel), by decide +kernel, by decide +kernel, by decide +kernel, by decide +kernel⟩
theorem dk_X5_mostWith : tw_dk mX5_mostWith := by unfold tw_dk; decide +kernel
theorem wv_RX5_88_X5_mostIn : tw_wV RX5 88 mX5_mostIn := ⟨List.mem_of_getElem? (i := 1573) (by decide +kernel), List.mem_of_getElem? (i := 1575) (by decide +kernel), List.mem_of_getElem? (i := 37) (by decide +kernel), List.mem_of_getElem? (i := 135) (by decide +kernel), List.mem_of_getElem? (i := 1576) (by decide +kernel)⟩
theorem ws_RX5_85_X5_without : tw_wS RX5 85 mX5_without := ⟨List.mem_of_getElem? (i := 1570) (by decide +kernel), List.mem_of_getElem? (i := 1571) (by decide +kernel), List.mem_of_getElem? (i := 135) (by decide +kernel), List.mem_of_getElem? (i := 1572) (by decide +kernel)⟩
set_option maxRecDepth 20000 in
theorem K_X5_mostWith {g : tw_Gx} (Q : tw_Rs → tw_Mem → Prop) (a0 : Nat) (a1 : Int32) (a2 : Int32) (a3 : Int32) : tw_Kt g mX5_mostWith 2 0 0 [.ref a0, .int a1, .int a2, .int a3] Q (f_X5_mostWith a0 a1 a2 a3 (fun v => Q (.inl (some (.int v))))) := by
  refine tw_mkK (L := [some (.ref a0), some (.int a1), some (.int a2), some (.int a3), none]) mo_X5_mostWith dk_X5_mostWith rfl (Nat.le_of_ble_eq_true rfl) rfl ?_
  unfold f_X5_mostWith
  refine tw_iload_n (k := 0) rfl rfl ?_
  refine tw_iload_n (k := 1) rfl rfl ?_
  refine tw_callSN (k := 2) (d' := 1) (mc' := 0) (ms' := 0) tw_cI tw_cIi [.int a2, .int a3] rfl rfl wn_RX5_70_X8_cell mo_X8_cell rfl (fun Q9 => K_X8_cell Q9 a2 a3) (by omega) (by decide) (by decide) (Nat.le_of_ble_eq_true rfl) (fun x1 => ?_)
  refine tw_ist (k := 3) [some (.ref a0), some (.int a1), some (.int a2), some (.int a3), some (.int x1)] rfl (Nat.le_of_ble_eq_true rfl) rfl rfl ?_
  refine tw_iload (k := 4) rfl rfl ?_
  refine tw_if_lt (k := 5) 20 rfl (by decide) ?_ ?_
  · refine tw_iconst (k := 10) (-1 : Int32) rfl (by decide) ?_
    exact tw_ireturn (k := 11) rfl rfl (by decide) (by decide)
  · refine tw_iload_n (k := 6) rfl rfl ?_
    refine tw_iload_n (k := 7) rfl rfl ?_
    refine tw_callSN (k := 8) (d' := 1) (mc' := 0) (ms' := 0) tw_cI tw_cIi [.int a1, .int a3] rfl rfl wn_RX5_44_X11_isIn mo_X11_isIn rfl (fun Q9 => K_X11_isIn Q9 a1 a3) (by omega) (by decide) (by decide) (Nat.le_of_ble_eq_true rfl) (fun x2 => ?_)
    refine tw_if_ne (k := 9) 22 rfl (by decide) ?_ ?_
    · refine tw_aload_n (k := 12) rfl rfl ?_
      refine tw_getR (k := 13) rfl fl_RX5_15 (fun x3 => ?_)
      refine tw_iload (k := 14) rfl rfl ?_
      refine tw_iaload (k := 15) rfl (fun x4 => ?_)
      refine tw_aload_n (k := 16) rfl rfl ?_
      refine tw_iload_n (k := 17) rfl rfl ?_
      refine tw_iload_n (k := 18) rfl rfl ?_
      refine tw_callS (k := 19) (d' := 1) (mc' := 0) (ms' := 0) tw_cI tw_cIi [.int a1, .int a2] rfl rfl ws_RX5_85_X5_without mo_X5_without rfl (fun Q9 => K_X5_without Q9 a1 a2) (by omega) (by decide) (by decide) (Nat.le_of_ble_eq_true rfl) (fun x5 => ?_)
      refine tw_iload_n (k := 20) rfl rfl ?_
      refine tw_callS (k := 21) (d' := 1) (mc' := 0) (ms' := 0) tw_cI tw_cIi [.int x5, .int a3] rfl rfl ws_RX5_85_X5_without mo_X5_without rfl (fun Q9 => K_X5_without Q9 x5 a3) (by omega) (by decide) (by decide) (Nat.le_of_ble_eq_true rfl) (fun x6 => ?_)
      refine tw_callV (k := 22) (d' := 1) (mc' := 0) (ms' := 0) tw_cI tw_cIi [.int x6] rfl rfl wv_RX5_88_X5_mostIn mo_X5_mostIn (t := 5) rfl rfl rfl (fun Q9 => K_X5_mostIn Q9 a0 x6) (by omega) (by decide) (by decide) (Nat.le_of_ble_eq_true rfl) (fun x7 => ?_)
      refine tw_iadd (k := 23) rfl ?_
      exact tw_ireturn (k := 24) rfl rfl (by decide) (by decide)
    · refine tw_iconst (k := 10) (-1 : Int32) rfl (by decide) ?_
      exact tw_ireturn (k := 11) rfl rfl (by decide) (by decide)
def mX5_mostOf : tw_MD := (yX5_mostOf, cX5_mostOf, 5, (some FieldType.int), [(0, .iconst 0, 1, 1), (1, .istore_n 2, 1, 2), (2, .iload_n 2, 1, 3), (3, .aload_n 0, 1, 4), (4, .getfield 36, 3, 7), (7, .if_icmp .ge 62, 3, 10), (10, .iload_n 1, 1, 11), (11, .iload_n 2, 1, 12), (12, .invokestatic 44, 3, 15), (15, .ifCond .eq 48, 3, 18), (18, .aload_n 0, 1, 19), (19, .iload_n 1, 1, 20), (20, .iload_n 2, 1, 21), (21, .invokestatic 85, 3, 24), (24, .invokevirtual 88, 3, 27), (27, .istore_n 3, 1, 28), (28, .iload_n 2, 1, 29), (29, .iconst 1, 1, 30), (30, .iadd, 1, 31), (31, .istore 4, 2, 33), (33, .iload 4, 2, 35), (35, .aload_n 0, 1, 36), (36, .getfield 36, 3, 39), (39, .if_icmp .ge 22, 3, 42), (42, .iload_n 3, 1, 43), (43, .aload_n 0, 1, 44), (44, .iload_n 1, 1, 45), (45, .iload_n 2, 1, 46), (46, .iload 4, 2, 48), (48, .invokevirtual 91, 3, 51), (51, .invokestatic 95, 3, 54), (54, .istore_n 3, 1, 55), (55, .iinc 4 1, 3, 58), (58, .goto (-25), 3, 61), (61, .iload_n 3, 1, 62), (62, .ireturn, 1, 63), (63, .iinc 2 1, 3, 66), (66, .goto (-64), 3, 69), (69, .iconst 0, 1, 70), (70, .ireturn, 1, 71)], [])
theorem mo_X5_mostOf : tw_mok mX5_mostOf 1 := ⟨plainFor_of_name (by decide +kernel), by decide +kernel, by decide +kernel, by decide +kernel, by decide +kernel⟩
theorem dk_X5_mostOf : tw_dk mX5_mostOf := by unfold tw_dk; decide +kernel
theorem ws_RX5_95_J9_max_7cf53 : tw_wS RX5 95 mJ9_max_7cf53 := ⟨List.mem_of_getElem? (i := 1581) (by decide +kernel), List.mem_of_getElem? (i := 582) (by decide +kernel), List.mem_of_getElem? (i := 148) (by decide +kernel), List.mem_of_getElem? (i := 583) (by decide +kernel)⟩
theorem wv_RX5_91_X5_mostWith : tw_wV RX5 91 mX5_mostWith := ⟨List.mem_of_getElem? (i := 1577) (by decide +kernel), List.mem_of_getElem? (i := 1579) (by decide +kernel), List.mem_of_getElem? (i := 38) (by decide +kernel), List.mem_of_getElem? (i := 135) (by decide +kernel), List.mem_of_getElem? (i := 1580) (by decide +kernel)⟩
set_option maxRecDepth 20000 in
theorem K_X5_mostOf {g : tw_Gx} (Q : tw_Rs → tw_Mem → Prop) (a0 : Nat) (a1 : Int32) : tw_Kt g mX5_mostOf 3 0 0 [.ref a0, .int a1] Q (f_X5_mostOf a0 a1 (fun v => Q (.inl (some (.int v))))) := by
  refine tw_mkK (L := [some (.ref a0), some (.int a1), none, none, none]) mo_X5_mostOf dk_X5_mostOf rfl (Nat.le_of_ble_eq_true rfl) rfl ?_
  unfold f_X5_mostOf
  refine tw_iconst (k := 0) (0 : Int32) rfl (by decide) ?_
  refine tw_ist_n (k := 1) [some (.ref a0), some (.int a1), some (.int (0 : Int32)), none, none] rfl (Nat.le_of_ble_eq_true rfl) rfl rfl ?_
  refine tw_loop (fun s2 => [some (.ref a0), some (.int a1), some (.int s2), none, none]) (fun s2 => []) (fun r1 h1 s2 => ?_) _ rfl rfl
  refine tw_iload_n (k := 2) rfl rfl ?_
  refine tw_aload_n (k := 3) rfl rfl ?_
  refine tw_getI (k := 4) rfl fl_RX5_36 (fun x3 => ?_)
  refine tw_icmp_ge (k := 5) 69 rfl (by decide) ?_ ?_
  · refine tw_iconst (k := 38) (0 : Int32) rfl (by decide) ?_
    exact tw_ireturn (k := 39) rfl rfl (by decide) (by decide)
  · refine tw_iload_n (k := 6) rfl rfl ?_
    refine tw_iload_n (k := 7) rfl rfl ?_
    refine tw_callSN (k := 8) (d' := 1) (mc' := 0) (ms' := 0) tw_cI tw_cIi [.int a1, .int s2] rfl rfl wn_RX5_44_X11_isIn mo_X11_isIn rfl (fun Q9 => K_X11_isIn Q9 a1 s2) (by omega) (by decide) (by decide) (Nat.le_of_ble_eq_true rfl) (fun x4 => ?_)
    refine tw_if_eq (k := 9) 63 rfl (by decide) ?_ ?_
    · refine tw_inc (k := 36) (1 : Int32) [some (.ref a0), some (.int a1), some (.int (s2 + (1 : Int32))), none, none] rfl rfl (by decide) (Nat.le_of_ble_eq_true rfl) rfl rfl ?_
      refine tw_goto (k := 37) 2 rfl (by decide) ?_
      exact h1 (s2 + (1 : Int32))
    · refine tw_aload_n (k := 10) rfl rfl ?_
      refine tw_iload_n (k := 11) rfl rfl ?_
      refine tw_iload_n (k := 12) rfl rfl ?_
      refine tw_callS (k := 13) (d' := 1) (mc' := 0) (ms' := 0) tw_cI tw_cIi [.int a1, .int s2] rfl rfl ws_RX5_85_X5_without mo_X5_without rfl (fun Q9 => K_X5_without Q9 a1 s2) (by omega) (by decide) (by decide) (Nat.le_of_ble_eq_true rfl) (fun x5 => ?_)
      refine tw_callV (k := 14) (d' := 1) (mc' := 0) (ms' := 0) tw_cI tw_cIi [.int x5] rfl rfl wv_RX5_88_X5_mostIn mo_X5_mostIn (t := 5) rfl rfl rfl (fun Q9 => K_X5_mostIn Q9 a0 x5) (by omega) (by decide) (by decide) (Nat.le_of_ble_eq_true rfl) (fun x6 => ?_)
      refine tw_ist_n (k := 15) [some (.ref a0), some (.int a1), some (.int s2), some (.int x6), none] rfl (Nat.le_of_ble_eq_true rfl) rfl rfl ?_
      refine tw_iload_n (k := 16) rfl rfl ?_
      refine tw_iconst (k := 17) (1 : Int32) rfl (by decide) ?_
      refine tw_iadd (k := 18) rfl ?_
      refine tw_let (fun x7 => [some (.ref a0), some (.int a1), some (.int s2), some (.int x6), none]) (fun x7 => .int x7 :: []) rfl rfl (fun x7 => ?_)
      refine tw_ist (k := 19) [some (.ref a0), some (.int a1), some (.int s2), some (.int x6), some (.int x7)] rfl (Nat.le_of_ble_eq_true rfl) rfl rfl ?_
      refine tw_loop (fun s9 => [some (.ref a0), some (.int a1), some (.int s2), some (.int s9.1), some (.int s9.2)]) (fun s9 => []) (fun r8 h8 s9 => ?_) _ rfl rfl
      refine tw_iload (k := 20) rfl rfl ?_
      refine tw_aload_n (k := 21) rfl rfl ?_
      refine tw_getI (k := 22) rfl fl_RX5_36 (fun x10 => ?_)
      refine tw_icmp_ge (k := 23) 61 rfl (by decide) ?_ ?_
      · refine tw_iload_n (k := 34) rfl rfl ?_
        exact tw_ireturn (k := 35) rfl rfl (by decide) (by decide)
      · refine tw_iload_n (k := 24) rfl rfl ?_
        refine tw_aload_n (k := 25) rfl rfl ?_
        refine tw_iload_n (k := 26) rfl rfl ?_
        refine tw_iload_n (k := 27) rfl rfl ?_
        refine tw_iload (k := 28) rfl rfl ?_
        refine tw_callV (k := 29) (d' := 2) (mc' := 0) (ms' := 0) tw_cI tw_cIi [.int a1, .int s2, .int s9.2] rfl rfl wv_RX5_91_X5_mostWith mo_X5_mostWith (t := 5) rfl rfl rfl (fun Q9 => K_X5_mostWith Q9 a0 a1 s2 s9.2) (by omega) (by decide) (by decide) (Nat.le_of_ble_eq_true rfl) (fun x11 => ?_)
        refine tw_callS (k := 30) (d' := 1) (mc' := 0) (ms' := 0) tw_cI tw_cIi [.int s9.1, .int x11] rfl rfl ws_RX5_95_J9_max_7cf53 mo_J9_max_7cf53 rfl (fun Q9 => K_J9_max_7cf53 Q9 s9.1 x11) (by omega) (by decide) (by decide) (Nat.le_of_ble_eq_true rfl) (fun x12 => ?_)
        refine tw_ist_n (k := 31) [some (.ref a0), some (.int a1), some (.int s2), some (.int x12), some (.int s9.2)] rfl (Nat.le_of_ble_eq_true rfl) rfl rfl ?_
        refine tw_inc (k := 32) (1 : Int32) [some (.ref a0), some (.int a1), some (.int s2), some (.int x12), some (.int (s9.2 + (1 : Int32)))] rfl rfl (by decide) (Nat.le_of_ble_eq_true rfl) rfl rfl ?_
        refine tw_goto (k := 33) 33 rfl (by decide) ?_
        exact h8 (x12, s9.2 + (1 : Int32))
def mX5_leastMate : tw_MD := (yX5_leastMate, cX5_leastMate, 4, (some FieldType.int), [(0, .aload_n 0, 1, 1), (1, .iload_n 1, 1, 2), (2, .iload_n 2, 1, 3), (3, .invokestatic 85, 3, 6), (6, .invokevirtual 88, 3, 9), (9, .aload_n 0, 1, 10), (10, .iload_n 1, 1, 11), (11, .invokevirtual 88, 3, 14), (14, .if_icmp .ne 5, 3, 17), (17, .iconst (-1), 1, 18), (18, .ireturn, 1, 19), (19, .iload_n 2, 1, 20), (20, .iconst 1, 1, 21), (21, .iadd, 1, 22), (22, .istore_n 3, 1, 23), (23, .iload_n 3, 1, 24), (24, .aload_n 0, 1, 25), (25, .getfield 36, 3, 28), (28, .if_icmp .ge 26, 3, 31), (31, .aload_n 0, 1, 32), (32, .iload_n 1, 1, 33), (33, .iload_n 2, 1, 34), (34, .iload_n 3, 1, 35), (35, .invokevirtual 91, 3, 38), (38, .aload_n 0, 1, 39), (39, .iload_n 1, 1, 40), (40, .invokevirtual 88, 3, 43), (43, .if_icmp .ne 5, 3, 46), (46, .iload_n 3, 1, 47), (47, .ireturn, 1, 48), (48, .iinc 3 1, 3, 51), (51, .goto (-28), 3, 54), (54, .iconst (-1), 1, 55), (55, .ireturn, 1, 56)], [])
theorem mo_X5_leastMate : tw_mok mX5_leastMate 2 := ⟨plainFor_of_name (by decide +kernel), by decide +kernel, by decide +kernel, by decide +kernel, by decide +kernel⟩
theorem dk_X5_leastMate : tw_dk mX5_leastMate := by unfold tw_dk; decide +kernel
set_option maxRecDepth 20000 in
theorem K_X5_leastMate {g : tw_Gx} (Q : tw_Rs → tw_Mem → Prop) (a0 : Nat) (a1 : Int32) (a2 : Int32) : tw_Kt g mX5_leastMate 3 0 0 [.ref a0, .int a1, .int a2] Q (f_X5_leastMate a0 a1 a2 (fun v => Q (.inl (some (.int v))))) := by
  refine tw_mkK (L := [some (.ref a0), some (.int a1), some (.int a2), none]) mo_X5_leastMate dk_X5_leastMate rfl (Nat.le_of_ble_eq_true rfl) rfl ?_
  unfold f_X5_leastMate
  refine tw_aload_n (k := 0) rfl rfl ?_
  refine tw_iload_n (k := 1) rfl rfl ?_
  refine tw_iload_n (k := 2) rfl rfl ?_
  refine tw_callS (k := 3) (d' := 1) (mc' := 0) (ms' := 0) tw_cI tw_cIi [.int a1, .int a2] rfl rfl ws_RX5_85_X5_without mo_X5_without rfl (fun Q9 => K_X5_without Q9 a1 a2) (by omega) (by decide) (by decide) (Nat.le_of_ble_eq_true rfl) (fun x1 => ?_)
  refine tw_callV (k := 4) (d' := 1) (mc' := 0) (ms' := 0) tw_cI tw_cIi [.int x1] rfl rfl wv_RX5_88_X5_mostIn mo_X5_mostIn (t := 5) rfl rfl rfl (fun Q9 => K_X5_mostIn Q9 a0 x1) (by omega) (by decide) (by decide) (Nat.le_of_ble_eq_true rfl) (fun x2 => ?_)
  refine tw_aload_n (k := 5) rfl rfl ?_
  refine tw_iload_n (k := 6) rfl rfl ?_
  refine tw_callV (k := 7) (d' := 1) (mc' := 0) (ms' := 0) tw_cI tw_cIi [.int a1] rfl rfl wv_RX5_88_X5_mostIn mo_X5_mostIn (t := 5) rfl rfl rfl (fun Q9 => K_X5_mostIn Q9 a0 a1) (by omega) (by decide) (by decide) (Nat.le_of_ble_eq_true rfl) (fun x3 => ?_)
  refine tw_icmp_ne (k := 8) 19 rfl (by decide) ?_ ?_
  · refine tw_iload_n (k := 11) rfl rfl ?_
    refine tw_iconst (k := 12) (1 : Int32) rfl (by decide) ?_
    refine tw_iadd (k := 13) rfl ?_
    refine tw_let (fun x4 => [some (.ref a0), some (.int a1), some (.int a2), none]) (fun x4 => .int x4 :: []) rfl rfl (fun x4 => ?_)
    refine tw_ist_n (k := 14) [some (.ref a0), some (.int a1), some (.int a2), some (.int x4)] rfl (Nat.le_of_ble_eq_true rfl) rfl rfl ?_
    refine tw_loop (fun s6 => [some (.ref a0), some (.int a1), some (.int a2), some (.int s6)]) (fun s6 => []) (fun r5 h5 s6 => ?_) _ rfl rfl
    refine tw_iload_n (k := 15) rfl rfl ?_
    refine tw_aload_n (k := 16) rfl rfl ?_
    refine tw_getI (k := 17) rfl fl_RX5_36 (fun x7 => ?_)
    refine tw_icmp_ge (k := 18) 54 rfl (by decide) ?_ ?_
    · refine tw_iconst (k := 32) (-1 : Int32) rfl (by decide) ?_
      exact tw_ireturn (k := 33) rfl rfl (by decide) (by decide)
    · refine tw_aload_n (k := 19) rfl rfl ?_
      refine tw_iload_n (k := 20) rfl rfl ?_
      refine tw_iload_n (k := 21) rfl rfl ?_
      refine tw_iload_n (k := 22) rfl rfl ?_
      refine tw_callV (k := 23) (d' := 2) (mc' := 0) (ms' := 0) tw_cI tw_cIi [.int a1, .int a2, .int s6] rfl rfl wv_RX5_91_X5_mostWith mo_X5_mostWith (t := 5) rfl rfl rfl (fun Q9 => K_X5_mostWith Q9 a0 a1 a2 s6) (by omega) (by decide) (by decide) (Nat.le_of_ble_eq_true rfl) (fun x8 => ?_)
      refine tw_aload_n (k := 24) rfl rfl ?_
      refine tw_iload_n (k := 25) rfl rfl ?_
      refine tw_callV (k := 26) (d' := 1) (mc' := 0) (ms' := 0) tw_cI tw_cIi [.int a1] rfl rfl wv_RX5_88_X5_mostIn mo_X5_mostIn (t := 5) rfl rfl rfl (fun Q9 => K_X5_mostIn Q9 a0 a1) (by omega) (by decide) (by decide) (Nat.le_of_ble_eq_true rfl) (fun x9 => ?_)
      refine tw_icmp_ne (k := 27) 48 rfl (by decide) ?_ ?_
      · refine tw_inc (k := 30) (1 : Int32) [some (.ref a0), some (.int a1), some (.int a2), some (.int (s6 + (1 : Int32)))] rfl rfl (by decide) (Nat.le_of_ble_eq_true rfl) rfl rfl ?_
        refine tw_goto (k := 31) 23 rfl (by decide) ?_
        exact h5 (s6 + (1 : Int32))
      · refine tw_iload_n (k := 28) rfl rfl ?_
        exact tw_ireturn (k := 29) rfl rfl (by decide) (by decide)
  · refine tw_iconst (k := 9) (-1 : Int32) rfl (by decide) ?_
    exact tw_ireturn (k := 10) rfl rfl (by decide) (by decide)
def mX5_putTogether : tw_MD := (yX5_putTogether, cX5_putTogether, 5, none, [(0, .aload_n 0, 1, 1), (1, .aload_n 1, 1, 2), (2, .getfield 24, 3, 5), (5, .bipush 8, 2, 7), (7, .invokestatic 30, 3, 10), (10, .putfield 36, 3, 13), (13, .iconst 0, 1, 14), (14, .istore_n 2, 1, 15), (15, .iload_n 2, 1, 16), (16, .aload_n 0, 1, 17), (17, .invokevirtual 54, 3, 20), (20, .if_icmp .gt 27, 3, 23), (23, .iload_n 2, 1, 24), (24, .sipush 256, 3, 27), (27, .if_icmp .ge 20, 3, 30), (30, .aload_n 0, 1, 31), (31, .getfield 18, 3, 34), (34, .iload_n 2, 1, 35), (35, .aload_n 0, 1, 36), (36, .iload_n 2, 1, 37), (37, .invokevirtual 73, 3, 40), (40, .iastore, 1, 41), (41, .iinc 2 1, 3, 44), (44, .goto (-29), 3, 47), (47, .aload_n 0, 1, 48), (48, .getfield 21, 3, 51), (51, .iconst (-1), 1, 52), (52, .invokestatic 76, 3, 55), (55, .aload_n 0, 1, 56), (56, .invokevirtual 54, 3, 59), (59, .istore_n 2, 1, 60), (60, .iconst 0, 1, 61), (61, .istore_n 3, 1, 62), (62, .iload_n 3, 1, 63), (63, .aload_n 0, 1, 64), (64, .getfield 36, 3, 67), (67, .if_icmp .ge 70, 3, 70), (70, .iload_n 2, 1, 71), (71, .iload_n 3, 1, 72), (72, .invokestatic 44, 3, 75), (75, .ifCond .eq 12, 3, 78), (78, .aload_n 0, 1, 79), (79, .iload_n 2, 1, 80), (80, .iload_n 3, 1, 81), (81, .invokevirtual 82, 3, 84), (84, .goto 4, 3, 87), (87, .iconst (-1), 1, 88), (88, .istore 4, 2, 90), (90, .iload_n 2, 1, 91), (91, .iload_n 3, 1, 92), (92, .invokestatic 85, 3, 95), (95, .istore_n 2, 1, 96), (96, .iload 4, 2, 98), (98, .ifCond .lt 33, 3, 101), (101, .iload 4, 2, 103), (103, .bipush 8, 2, 105), (105, .if_icmp .ge 26, 3, 108), (108, .aload_n 0, 1, 109), (109, .getfield 21, 3, 112), (112, .iload_n 3, 1, 113), (113, .iload 4, 2, 115), (115, .iastore, 1, 116), (116, .aload_n 0, 1, 117), (117, .getfield 21, 3, 120), (120, .iload 4, 2, 122), (122, .iload_n 3, 1, 123), (123, .iastore, 1, 124), (124, .iload_n 2, 1, 125), (125, .iload 4, 2, 127), (127, .invokestatic 85, 3, 130), (130, .istore_n 2, 1, 131), (131, .iinc 3 1, 3, 134), (134, .goto (-72), 3, 137), (137, .return_, 1, 138)], [])
theorem mo_X5_putTogether : tw_mok mX5_putTogether 1 := ⟨plainFor_of_name (by decide +kernel), by decide +kernel, by decide +kernel, by decide +kernel, by decide +kernel⟩
theorem dk_X5_putTogether : tw_dk mX5_putTogether := by unfold tw_dk; decide +kernel
theorem wv_RX5_82_X5_leastMate : tw_wV RX5 82 mX5_leastMate := ⟨List.mem_of_getElem? (i := 1583) (by decide +kernel), List.mem_of_getElem? (i := 1585) (by decide +kernel), List.mem_of_getElem? (i := 39) (by decide +kernel), List.mem_of_getElem? (i := 135) (by decide +kernel), List.mem_of_getElem? (i := 1586) (by decide +kernel)⟩
theorem ws_RX5_76_J7_fill_53178 : tw_wS RX5 76 mJ7_fill_53178 := ⟨List.mem_of_getElem? (i := 1582) (by decide +kernel), List.mem_of_getElem? (i := 199) (by decide +kernel), List.mem_of_getElem? (i := 128) (by decide +kernel), List.mem_of_getElem? (i := 200) (by decide +kernel)⟩
theorem wv_RX5_73_X5_mostOf : tw_wV RX5 73 mX5_mostOf := ⟨List.mem_of_getElem? (i := 1566) (by decide +kernel), List.mem_of_getElem? (i := 1568) (by decide +kernel), List.mem_of_getElem? (i := 36) (by decide +kernel), List.mem_of_getElem? (i := 135) (by decide +kernel), List.mem_of_getElem? (i := 1569) (by decide +kernel)⟩
theorem wf_X5_putTogether_36 : tw_wf mX5_putTogether 36 36 := Or.inl rfl
set_option maxRecDepth 20000 in
theorem K_X5_putTogether {g : tw_Gx} (Q : tw_Rs → tw_Mem → Prop) (a0 : Nat) (a1 : Nat) : tw_Kt g mX5_putTogether 4 0 0 [.ref a0, .ref a1] Q (f_X5_putTogether a0 a1 (fun v => Q (.inl none))) := by
  refine tw_mkK (L := [some (.ref a0), some (.ref a1), none, none, none]) mo_X5_putTogether dk_X5_putTogether rfl (Nat.le_of_ble_eq_true rfl) rfl ?_
  unfold f_X5_putTogether
  refine tw_aload_n (k := 0) rfl rfl ?_
  refine tw_aload_n (k := 1) rfl rfl ?_
  refine tw_getI (k := 2) rfl fl_RX5_24 (fun x1 => ?_)
  refine tw_bipush (k := 3) (8 : Int32) rfl (by decide) ?_
  refine tw_callS (k := 4) (d' := 1) (mc' := 0) (ms' := 0) tw_cI tw_cIi [.int x1, .int (8 : Int32)] rfl rfl ws_RX5_30_J9_min_7cf53 mo_J9_min_7cf53 rfl (fun Q9 => K_J9_min_7cf53 Q9 x1 (8 : Int32)) (by omega) (by decide) (by decide) (Nat.le_of_ble_eq_true rfl) (fun x2 => ?_)
  refine tw_putI (k := 5) rfl fl_RX5_36 wf_X5_putTogether_36 (by decide +kernel) ?_
  refine tw_iconst (k := 6) (0 : Int32) rfl (by decide) ?_
  refine tw_ist_n (k := 7) [some (.ref a0), some (.ref a1), some (.int (0 : Int32)), none, none] rfl (Nat.le_of_ble_eq_true rfl) rfl rfl ?_
  refine tw_loop (fun s4 => [some (.ref a0), some (.ref a1), some (.int s4), none, none]) (fun s4 => []) (fun r3 h3 s4 => ?_) _ rfl rfl
  refine tw_iload_n (k := 8) rfl rfl ?_
  refine tw_aload_n (k := 9) rfl rfl ?_
  refine tw_callV (k := 10) (d' := 1) (mc' := 0) (ms' := 0) tw_cI tw_cIi [] rfl rfl wv_RX5_54_X5_all mo_X5_all (t := 5) rfl rfl rfl (fun Q9 => K_X5_all Q9 a0) (by omega) (by decide) (by decide) (Nat.le_of_ble_eq_true rfl) (fun x5 => ?_)
  refine tw_join 47 (fun s7 => [some (.ref a0), some (.ref a1), some (.int s4), none, none]) (fun s7 => []) 0 0 (fun s7 => ?_) (fun j6 g6 => ?_)
  · refine tw_aload_n (k := 24) rfl rfl ?_
    refine tw_getR (k := 25) rfl fl_RX5_21 (fun x8 => ?_)
    refine tw_iconst (k := 26) (-1 : Int32) rfl (by decide) ?_
    refine tw_callS (k := 27) (d' := 1) (mc' := 0) (ms' := 0) tw_cU tw_cUi [.ref x8, .int (-1 : Int32)] rfl rfl ws_RX5_76_J7_fill_53178 mo_J7_fill_53178 rfl (fun Q9 => K_J7_fill_53178 Q9 x8 (-1 : Int32)) (by omega) (by decide) (by decide) (Nat.le_of_ble_eq_true rfl) (fun u9 => ?_)
    refine tw_aload_n (k := 28) rfl rfl ?_
    refine tw_callV (k := 29) (d' := 1) (mc' := 0) (ms' := 0) tw_cI tw_cIi [] rfl rfl wv_RX5_54_X5_all mo_X5_all (t := 5) rfl rfl rfl (fun Q9 => K_X5_all Q9 a0) (by omega) (by decide) (by decide) (Nat.le_of_ble_eq_true rfl) (fun x10 => ?_)
    refine tw_ist_n (k := 30) [some (.ref a0), some (.ref a1), some (.int x10), none, none] rfl (Nat.le_of_ble_eq_true rfl) rfl rfl ?_
    refine tw_iconst (k := 31) (0 : Int32) rfl (by decide) ?_
    refine tw_ist_n (k := 32) [some (.ref a0), some (.ref a1), some (.int x10), some (.int (0 : Int32)), none] rfl (Nat.le_of_ble_eq_true rfl) rfl rfl ?_
    refine tw_loop (fun s12 => [some (.ref a0), some (.ref a1), some (.int s12.1), some (.int s12.2), none]) (fun s12 => []) (fun r11 h11 s12 => ?_) _ rfl rfl
    refine tw_iload_n (k := 33) rfl rfl ?_
    refine tw_aload_n (k := 34) rfl rfl ?_
    refine tw_getI (k := 35) rfl fl_RX5_36 (fun x13 => ?_)
    refine tw_icmp_ge (k := 36) 137 rfl (by decide) ?_ ?_
    · exact tw_return (k := 73) rfl rfl (by decide) (by decide)
    · refine tw_iload_n (k := 37) rfl rfl ?_
      refine tw_iload_n (k := 38) rfl rfl ?_
      refine tw_callSN (k := 39) (d' := 1) (mc' := 0) (ms' := 0) tw_cI tw_cIi [.int s12.1, .int s12.2] rfl rfl wn_RX5_44_X11_isIn mo_X11_isIn rfl (fun Q9 => K_X11_isIn Q9 s12.1 s12.2) (by omega) (by decide) (by decide) (Nat.le_of_ble_eq_true rfl) (fun x14 => ?_)
      refine tw_join 88 (fun s16 => [some (.ref a0), some (.ref a1), some (.int s12.1), some (.int s12.2), none]) (fun s16 => .int s16 :: []) 0 0 (fun s16 => ?_) (fun j15 g15 => ?_)
      · refine tw_ist (k := 47) [some (.ref a0), some (.ref a1), some (.int s12.1), some (.int s12.2), some (.int s16)] rfl (Nat.le_of_ble_eq_true rfl) rfl rfl ?_
        refine tw_iload_n (k := 48) rfl rfl ?_
        refine tw_iload_n (k := 49) rfl rfl ?_
        refine tw_callS (k := 50) (d' := 1) (mc' := 0) (ms' := 0) tw_cI tw_cIi [.int s12.1, .int s12.2] rfl rfl ws_RX5_85_X5_without mo_X5_without rfl (fun Q9 => K_X5_without Q9 s12.1 s12.2) (by omega) (by decide) (by decide) (Nat.le_of_ble_eq_true rfl) (fun x17 => ?_)
        refine tw_ist_n (k := 51) [some (.ref a0), some (.ref a1), some (.int x17), some (.int s12.2), some (.int s16)] rfl (Nat.le_of_ble_eq_true rfl) rfl rfl ?_
        refine tw_iload (k := 52) rfl rfl ?_
        refine tw_join 131 (fun s19 => [some (.ref a0), some (.ref a1), some (.int s19), some (.int s12.2), some (.int s16)]) (fun s19 => []) 0 0 (fun s19 => ?_) (fun j18 g18 => ?_)
        · refine tw_inc (k := 71) (1 : Int32) [some (.ref a0), some (.ref a1), some (.int s19), some (.int (s12.2 + (1 : Int32))), some (.int s16)] rfl rfl (by decide) (Nat.le_of_ble_eq_true rfl) rfl rfl ?_
          refine tw_goto (k := 72) 62 rfl (by decide) ?_
          exact tw_wk (L' := [some (.ref a0), some (.ref a1), some (.int s19), some (.int (s12.2 + (1 : Int32))), none]) ⟨Or.inr rfl, Or.inr rfl, Or.inr rfl, Or.inr rfl, Or.inl rfl, trivial⟩ (h11 (s19, s12.2 + (1 : Int32)))
        · refine tw_if_lt (k := 53) 131 rfl (by decide) ?_ ?_
          · exact g18 x17
          · refine tw_iload (k := 54) rfl rfl ?_
            refine tw_bipush (k := 55) (8 : Int32) rfl (by decide) ?_
            refine tw_icmp_ge (k := 56) 131 rfl (by decide) ?_ ?_
            · exact g18 x17
            · refine tw_aload_n (k := 57) rfl rfl ?_
              refine tw_getR (k := 58) rfl fl_RX5_21 (fun x20 => ?_)
              refine tw_iload_n (k := 59) rfl rfl ?_
              refine tw_iload (k := 60) rfl rfl ?_
              refine tw_iastore (k := 61) rfl ?_
              refine tw_aload_n (k := 62) rfl rfl ?_
              refine tw_getR (k := 63) rfl fl_RX5_21 (fun x21 => ?_)
              refine tw_iload (k := 64) rfl rfl ?_
              refine tw_iload_n (k := 65) rfl rfl ?_
              refine tw_iastore (k := 66) rfl ?_
              refine tw_iload_n (k := 67) rfl rfl ?_
              refine tw_iload (k := 68) rfl rfl ?_
              refine tw_callS (k := 69) (d' := 1) (mc' := 0) (ms' := 0) tw_cI tw_cIi [.int x17, .int s16] rfl rfl ws_RX5_85_X5_without mo_X5_without rfl (fun Q9 => K_X5_without Q9 x17 s16) (by omega) (by decide) (by decide) (Nat.le_of_ble_eq_true rfl) (fun x22 => ?_)
              refine tw_ist_n (k := 70) [some (.ref a0), some (.ref a1), some (.int x22), some (.int s12.2), some (.int s16)] rfl (Nat.le_of_ble_eq_true rfl) rfl rfl ?_
              exact g18 x22
      · refine tw_if_eq (k := 40) 87 rfl (by decide) ?_ ?_
        · refine tw_iconst (k := 46) (-1 : Int32) rfl (by decide) ?_
          exact g15 (-1 : Int32)
        · refine tw_aload_n (k := 41) rfl rfl ?_
          refine tw_iload_n (k := 42) rfl rfl ?_
          refine tw_iload_n (k := 43) rfl rfl ?_
          refine tw_callV (k := 44) (d' := 3) (mc' := 0) (ms' := 0) tw_cI tw_cIi [.int s12.1, .int s12.2] rfl rfl wv_RX5_82_X5_leastMate mo_X5_leastMate (t := 5) rfl rfl rfl (fun Q9 => K_X5_leastMate Q9 a0 s12.1 s12.2) (by omega) (by decide) (by decide) (Nat.le_of_ble_eq_true rfl) (fun x23 => ?_)
          refine tw_goto (k := 45) 88 rfl (by decide) ?_
          exact g15 x23
  · refine tw_icmp_gt (k := 11) 47 rfl (by decide) ?_ ?_
    · exact g6 ()
    · refine tw_iload_n (k := 12) rfl rfl ?_
      refine tw_sipush (k := 13) (256 : Int32) rfl (by decide) ?_
      refine tw_icmp_ge (k := 14) 47 rfl (by decide) ?_ ?_
      · exact g6 ()
      · refine tw_aload_n (k := 15) rfl rfl ?_
        refine tw_getR (k := 16) rfl fl_RX5_18 (fun x24 => ?_)
        refine tw_iload_n (k := 17) rfl rfl ?_
        refine tw_aload_n (k := 18) rfl rfl ?_
        refine tw_iload_n (k := 19) rfl rfl ?_
        refine tw_callV (k := 20) (d' := 3) (mc' := 0) (ms' := 0) tw_cI tw_cIi [.int s4] rfl rfl wv_RX5_73_X5_mostOf mo_X5_mostOf (t := 5) rfl rfl rfl (fun Q9 => K_X5_mostOf Q9 a0 s4) (by omega) (by decide) (by decide) (Nat.le_of_ble_eq_true rfl) (fun x25 => ?_)
        refine tw_iastore (k := 21) rfl ?_
        refine tw_inc (k := 22) (1 : Int32) [some (.ref a0), some (.ref a1), some (.int (s4 + (1 : Int32))), none, none] rfl rfl (by decide) (Nat.le_of_ble_eq_true rfl) rfl rfl ?_
        refine tw_goto (k := 23) 15 rfl (by decide) ?_
        exact h3 (s4 + (1 : Int32))
def mX5_mostTogether : tw_MD := (yX5_mostTogether, cX5_mostTogether, 1, (some FieldType.int), [(0, .aload_n 0, 1, 1), (1, .aload_n 0, 1, 2), (2, .invokevirtual 54, 3, 5), (5, .invokevirtual 88, 3, 8), (8, .ireturn, 1, 9)], [])
theorem mo_X5_mostTogether : tw_mok mX5_mostTogether 0 := ⟨plainFor_of_name (by decide +kernel), by decide +kernel, by decide +kernel, by decide +kernel, by decide +kernel⟩
theorem dk_X5_mostTogether : tw_dk mX5_mostTogether := by unfold tw_dk; decide +kernel
set_option maxRecDepth 20000 in
theorem K_X5_mostTogether {g : tw_Gx} (Q : tw_Rs → tw_Mem → Prop) (a0 : Nat) : tw_Kt g mX5_mostTogether 2 0 0 [.ref a0] Q (f_X5_mostTogether a0 (fun v => Q (.inl (some (.int v))))) := by
  refine tw_mkK (L := [some (.ref a0)]) mo_X5_mostTogether dk_X5_mostTogether rfl (Nat.le_of_ble_eq_true rfl) rfl ?_
  unfold f_X5_mostTogether
  refine tw_aload_n (k := 0) rfl rfl ?_
  refine tw_aload_n (k := 1) rfl rfl ?_
  refine tw_callV (k := 2) (d' := 1) (mc' := 0) (ms' := 0) tw_cI tw_cIi [] rfl rfl wv_RX5_54_X5_all mo_X5_all (t := 5) rfl rfl rfl (fun Q9 => K_X5_all Q9 a0) (by omega) (by decide) (by decide) (Nat.le_of_ble_eq_true rfl) (fun x1 => ?_)
  refine tw_callV (k := 3) (d' := 1) (mc' := 0) (ms' := 0) tw_cI tw_cIi [.int x1] rfl rfl wv_RX5_88_X5_mostIn mo_X5_mostIn (t := 5) rfl rfl rfl (fun Q9 => K_X5_mostIn Q9 a0 x1) (by omega) (by decide) (by decide) (Nat.le_of_ble_eq_true rfl) (fun x2 => ?_)
  exact tw_ireturn (k := 4) rfl rfl (by decide) (by decide)
def mX5_mateOf : tw_MD := (yX5_mateOf, cX5_mateOf, 2, (some FieldType.int), [(0, .iload_n 1, 1, 1), (1, .ifCond .lt 18, 3, 4), (4, .iload_n 1, 1, 5), (5, .bipush 8, 2, 7), (7, .if_icmp .ge 12, 3, 10), (10, .aload_n 0, 1, 11), (11, .getfield 21, 3, 14), (14, .iload_n 1, 1, 15), (15, .iaload, 1, 16), (16, .goto 4, 3, 19), (19, .iconst (-1), 1, 20), (20, .ireturn, 1, 21)], [])
theorem mo_X5_mateOf : tw_mok mX5_mateOf 1 := ⟨plainFor_of_name (by decide +kernel), by decide +kernel, by decide +kernel, by decide +kernel, by decide +kernel⟩
theorem dk_X5_mateOf : tw_dk mX5_mateOf := by unfold tw_dk; decide +kernel
set_option maxRecDepth 20000 in
theorem K_X5_mateOf {g : tw_Gx} (Q : tw_Rs → tw_Mem → Prop) (a0 : Nat) (a1 : Int32) : tw_Kt g mX5_mateOf 1 0 0 [.ref a0, .int a1] Q (f_X5_mateOf a0 a1 (fun v => Q (.inl (some (.int v))))) := by
  refine tw_mkK (L := [some (.ref a0), some (.int a1)]) mo_X5_mateOf dk_X5_mateOf rfl (Nat.le_of_ble_eq_true rfl) rfl ?_
  unfold f_X5_mateOf
  refine tw_iload_n (k := 0) rfl rfl ?_
  refine tw_if_lt (k := 1) 19 rfl (by decide) ?_ ?_
  · refine tw_iconst (k := 10) (-1 : Int32) rfl (by decide) ?_
    exact tw_ireturn (k := 11) rfl rfl (by decide) (by decide)
  · refine tw_iload_n (k := 2) rfl rfl ?_
    refine tw_bipush (k := 3) (8 : Int32) rfl (by decide) ?_
    refine tw_icmp_ge (k := 4) 19 rfl (by decide) ?_ ?_
    · refine tw_iconst (k := 10) (-1 : Int32) rfl (by decide) ?_
      exact tw_ireturn (k := 11) rfl rfl (by decide) (by decide)
    · refine tw_aload_n (k := 5) rfl rfl ?_
      refine tw_getR (k := 6) rfl fl_RX5_21 (fun x1 => ?_)
      refine tw_iload_n (k := 7) rfl rfl ?_
      refine tw_iaload (k := 8) rfl (fun x2 => ?_)
      refine tw_goto (k := 9) 20 rfl (by decide) ?_
      exact tw_ireturn (k := 11) rfl rfl (by decide) (by decide)
