def mX0_init : tw_MD := (yX0_init, cX0_init, 1, none, [(0, .aload_n 0, 1, 1), (1, .invokespecial 3, 3, 4), (4, .aload_n 0, 1, 5), (5, .bipush 20, 2, 7), (7, .newarray .int, 2, 9), (9, .putfield 11, 3, 12), (12, .aload_n 0, 1, 13), (13, .iconst (-1), 1, 14), (14, .putfield 15, 3, 17), (17, .aload_n 0, 1, 18), (18, .bipush 12, 2, 20), (20, .newarray .int, 2, 22), (22, .putfield 21, 3, 25), (25, .aload_n 0, 1, 26), (26, .bipush 12, 2, 28), (28, .newarray .int, 2, 30), (30, .putfield 24, 3, 33), (33, .aload_n 0, 1, 34), (34, .bipush 12, 2, 36), (36, .newarray .int, 2, 38), (38, .putfield 27, 3, 41), (41, .aload_n 0, 1, 42), (42, .iconst 0, 1, 43), (43, .newarray .int, 2, 45), (45, .putfield 30, 3, 48), (48, .return_, 1, 49)], [])
theorem mo_X0_init : tw_mok mX0_init 0 := ⟨plainFor_of_name (by decide +kernel), by decide +kernel, by decide +kernel, by decide +kernel, by decide +kernel⟩
theorem dk_X0_init : tw_dk mX0_init := by unfold tw_dk; decide +kernel
theorem km_RX0_3 : Cond.methodLink RX0 3 Lib.objectInit ∈ lw_tbl := List.mem_of_getElem? (i := 421) (by decide +kernel)
theorem wf_X0_init_30 : tw_wf mX0_init 30 4 := Or.inr ⟨by decide +kernel, by decide +kernel, List.mem_of_getElem? (i := 427) (by decide +kernel)⟩
theorem wf_X0_init_27 : tw_wf mX0_init 27 3 := Or.inr ⟨by decide +kernel, by decide +kernel, List.mem_of_getElem? (i := 426) (by decide +kernel)⟩
theorem wf_X0_init_24 : tw_wf mX0_init 24 2 := Or.inr ⟨by decide +kernel, by decide +kernel, List.mem_of_getElem? (i := 425) (by decide +kernel)⟩
theorem wf_X0_init_21 : tw_wf mX0_init 21 1 := Or.inr ⟨by decide +kernel, by decide +kernel, List.mem_of_getElem? (i := 424) (by decide +kernel)⟩
theorem wf_X0_init_15 : tw_wf mX0_init 15 0 := Or.inr ⟨by decide +kernel, by decide +kernel, List.mem_of_getElem? (i := 422) (by decide +kernel)⟩
theorem wf_X0_init_11 : tw_wf mX0_init 11 5 := Or.inr ⟨by decide +kernel, by decide +kernel, List.mem_of_getElem? (i := 428) (by decide +kernel)⟩
set_option maxRecDepth 20000 in
theorem K_X0_init {g : tw_Gx} (Q : tw_Rs → tw_Mem → Prop) (a0 : Nat) : tw_Kt g mX0_init 1 5 56 [.ref a0] Q (f_X0_init a0 (fun v => Q (.inl none))) := by
  refine tw_mkK (L := [some (.ref a0)]) mo_X0_init dk_X0_init rfl (Nat.le_of_ble_eq_true rfl) rfl ?_
  unfold f_X0_init
  refine tw_aload_n (k := 0) rfl rfl ?_
  refine tw_objInit (k := 1) rfl km_RX0_3 koi koc (by omega) (Nat.le_of_ble_eq_true rfl) ?_
  refine tw_aload_n (k := 2) rfl rfl ?_
  refine tw_bipush (k := 3) (20 : Int32) rfl (by decide) ?_
  refine tw_newI (k := 4) 20 rfl ka_int (by decide) (by decide) (by decide) (fun b1 => ?_)
  refine tw_putR (k := 5) (ty := (.array .int)) rfl fl_RX0_11 wf_X0_init_11 (by decide +kernel) rfl rfl ?_
  refine tw_aload_n (k := 6) rfl rfl ?_
  refine tw_iconst (k := 7) (-1 : Int32) rfl (by decide) ?_
  refine tw_putI (k := 8) rfl fl_RX0_15 wf_X0_init_15 (by decide +kernel) ?_
  refine tw_aload_n (k := 9) rfl rfl ?_
  refine tw_bipush (k := 10) (12 : Int32) rfl (by decide) ?_
  refine tw_newI (k := 11) 12 rfl ka_int (by decide) (by decide) (by decide) (fun b2 => ?_)
  refine tw_putR (k := 12) (ty := (.array .int)) rfl fl_RX0_21 wf_X0_init_21 (by decide +kernel) rfl rfl ?_
  refine tw_aload_n (k := 13) rfl rfl ?_
  refine tw_bipush (k := 14) (12 : Int32) rfl (by decide) ?_
  refine tw_newI (k := 15) 12 rfl ka_int (by decide) (by decide) (by decide) (fun b3 => ?_)
  refine tw_putR (k := 16) (ty := (.array .int)) rfl fl_RX0_24 wf_X0_init_24 (by decide +kernel) rfl rfl ?_
  refine tw_aload_n (k := 17) rfl rfl ?_
  refine tw_bipush (k := 18) (12 : Int32) rfl (by decide) ?_
  refine tw_newI (k := 19) 12 rfl ka_int (by decide) (by decide) (by decide) (fun b4 => ?_)
  refine tw_putR (k := 20) (ty := (.array .int)) rfl fl_RX0_27 wf_X0_init_27 (by decide +kernel) rfl rfl ?_
  refine tw_aload_n (k := 21) rfl rfl ?_
  refine tw_iconst (k := 22) (0 : Int32) rfl (by decide) ?_
  refine tw_newI (k := 23) 0 rfl ka_int (by decide) (by decide) (by decide) (fun b5 => ?_)
  refine tw_putR (k := 24) (ty := (.array .int)) rfl fl_RX0_30 wf_X0_init_30 (by decide +kernel) rfl rfl ?_
  exact tw_return (k := 25) rfl rfl (by decide) (by decide)
def mX0_init_ : tw_MD := (yX0_init_, cX0_init_, 2, none, [(0, .aload_n 0, 1, 1), (1, .invokespecial 3, 3, 4), (4, .aload_n 0, 1, 5), (5, .bipush 20, 2, 7), (7, .newarray .int, 2, 9), (9, .putfield 11, 3, 12), (12, .aload_n 0, 1, 13), (13, .aload_n 1, 1, 14), (14, .getfield 33, 3, 17), (17, .putfield 15, 3, 20), (20, .aload_n 0, 1, 21), (21, .aload_n 1, 1, 22), (22, .getfield 34, 3, 25), (25, .bipush 12, 2, 27), (27, .invokestatic 37, 3, 30), (30, .putfield 21, 3, 33), (33, .aload_n 0, 1, 34), (34, .aload_n 1, 1, 35), (35, .getfield 43, 3, 38), (38, .bipush 12, 2, 40), (40, .invokestatic 37, 3, 43), (43, .putfield 24, 3, 46), (46, .aload_n 0, 1, 47), (47, .aload_n 1, 1, 48), (48, .getfield 44, 3, 51), (51, .bipush 12, 2, 53), (53, .invokestatic 37, 3, 56), (56, .putfield 27, 3, 59), (59, .aload_n 0, 1, 60), (60, .aload_n 1, 1, 61), (61, .getfield 45, 3, 64), (64, .aload_n 1, 1, 65), (65, .getfield 46, 3, 68), (68, .iconst 0, 1, 69), (69, .invokestatic 49, 3, 72), (72, .invokestatic 37, 3, 75), (75, .putfield 30, 3, 78), (78, .return_, 1, 79)], [])
theorem mo_X0_init_ : tw_mok mX0_init_ 1 := ⟨plainFor_of_name (by decide +kernel), by decide +kernel, by decide +kernel, by decide +kernel, by decide +kernel⟩
theorem dk_X0_init_ : tw_dk mX0_init_ := by unfold tw_dk; decide +kernel
theorem fl_RX0_33 : tw_fl RX0 33 17 := Or.inr ⟨"TwinRopes", List.mem_of_getElem? (i := 330) (by decide +kernel)⟩
theorem fl_RX0_34 : tw_fl RX0 34 13 := Or.inr ⟨"TwinRopes", List.mem_of_getElem? (i := 322) (by decide +kernel)⟩
theorem fl_RX0_43 : tw_fl RX0 43 14 := Or.inr ⟨"TwinRopes", List.mem_of_getElem? (i := 324) (by decide +kernel)⟩
theorem fl_RX0_44 : tw_fl RX0 44 15 := Or.inr ⟨"TwinRopes", List.mem_of_getElem? (i := 326) (by decide +kernel)⟩
theorem fl_RX0_45 : tw_fl RX0 45 16 := Or.inr ⟨"TwinRopes", List.mem_of_getElem? (i := 328) (by decide +kernel)⟩
theorem fl_RX0_46 : tw_fl RX0 46 18 := Or.inr ⟨"TwinRopes", List.mem_of_getElem? (i := 332) (by decide +kernel)⟩
theorem wf_X0_init__30 : tw_wf mX0_init_ 30 4 := Or.inr ⟨by decide +kernel, by decide +kernel, List.mem_of_getElem? (i := 427) (by decide +kernel)⟩
theorem ws_RX0_37_J7_copyOf_59c91 : tw_wS RX0 37 mJ7_copyOf_59c91 := ⟨List.mem_of_getElem? (i := 1229) (by decide +kernel), List.mem_of_getElem? (i := 1230) (by decide +kernel), List.mem_of_getElem? (i := 128) (by decide +kernel), List.mem_of_getElem? (i := 1231) (by decide +kernel)⟩
theorem wf_X0_init__27 : tw_wf mX0_init_ 27 3 := Or.inr ⟨by decide +kernel, by decide +kernel, List.mem_of_getElem? (i := 426) (by decide +kernel)⟩
theorem wf_X0_init__24 : tw_wf mX0_init_ 24 2 := Or.inr ⟨by decide +kernel, by decide +kernel, List.mem_of_getElem? (i := 425) (by decide +kernel)⟩
theorem wf_X0_init__21 : tw_wf mX0_init_ 21 1 := Or.inr ⟨by decide +kernel, by decide +kernel, List.mem_of_getElem? (i := 424) (by decide +kernel)⟩
theorem wf_X0_init__15 : tw_wf mX0_init_ 15 0 := Or.inr ⟨by decide +kernel, by decide +kernel, List.mem_of_getElem? (i := 422) (by decide +kernel)⟩
theorem wf_X0_init__11 : tw_wf mX0_init_ 11 5 := Or.inr ⟨by decide +kernel, by decide +kernel, List.mem_of_getElem? (i := 428) (by decide +kernel)⟩
set_option maxRecDepth 20000 in
theorem K_X0_init_ {g : tw_Gx} (Q : tw_Rs → tw_Mem → Prop) (a0 : Nat) (a1 : Nat) : tw_Kt g mX0_init_ 3 5 1620 [.ref a0, .ref a1] Q (f_X0_init_ a0 a1 (fun v => Q (.inl none))) := by
  refine tw_mkK (L := [some (.ref a0), some (.ref a1)]) mo_X0_init_ dk_X0_init_ rfl (Nat.le_of_ble_eq_true rfl) rfl ?_
  unfold f_X0_init_
  refine tw_aload_n (k := 0) rfl rfl ?_
  refine tw_objInit (k := 1) rfl km_RX0_3 koi koc (by omega) (Nat.le_of_ble_eq_true rfl) ?_
  refine tw_aload_n (k := 2) rfl rfl ?_
  refine tw_bipush (k := 3) (20 : Int32) rfl (by decide) ?_
  refine tw_newI (k := 4) 20 rfl ka_int (by decide) (by decide) (by decide) (fun b1 => ?_)
  refine tw_putR (k := 5) (ty := (.array .int)) rfl fl_RX0_11 wf_X0_init__11 (by decide +kernel) rfl rfl ?_
  refine tw_aload_n (k := 6) rfl rfl ?_
  refine tw_aload_n (k := 7) rfl rfl ?_
  refine tw_getI (k := 8) rfl fl_RX0_33 (fun x2 => ?_)
  refine tw_putI (k := 9) rfl fl_RX0_15 wf_X0_init__15 (by decide +kernel) ?_
  refine tw_aload_n (k := 10) rfl rfl ?_
  refine tw_aload_n (k := 11) rfl rfl ?_
  refine tw_getR (k := 12) rfl fl_RX0_34 (fun x3 => ?_)
  refine tw_bipush (k := 13) (12 : Int32) rfl (by decide) ?_
  refine tw_callS (k := 14) (d' := 2) (mc' := 1) (ms' := 400) tw_cA tw_cAi [.ref x3, .int (12 : Int32)] rfl rfl ws_RX0_37_J7_copyOf_59c91 mo_J7_copyOf_59c91 rfl (fun Q9 => K_J7_copyOf_59c91 Q9 x3 (12 : Int32)) (by omega) (by decide) (by decide) (Nat.le_of_ble_eq_true rfl) (fun b4 => ?_)
  refine tw_putR (k := 15) (ty := (.array .int)) rfl fl_RX0_21 wf_X0_init__21 (by decide +kernel) rfl rfl ?_
  refine tw_aload_n (k := 16) rfl rfl ?_
  refine tw_aload_n (k := 17) rfl rfl ?_
  refine tw_getR (k := 18) rfl fl_RX0_43 (fun x5 => ?_)
  refine tw_bipush (k := 19) (12 : Int32) rfl (by decide) ?_
  refine tw_callS (k := 20) (d' := 2) (mc' := 1) (ms' := 400) tw_cA tw_cAi [.ref x5, .int (12 : Int32)] rfl rfl ws_RX0_37_J7_copyOf_59c91 mo_J7_copyOf_59c91 rfl (fun Q9 => K_J7_copyOf_59c91 Q9 x5 (12 : Int32)) (by omega) (by decide) (by decide) (Nat.le_of_ble_eq_true rfl) (fun b6 => ?_)
  refine tw_putR (k := 21) (ty := (.array .int)) rfl fl_RX0_24 wf_X0_init__24 (by decide +kernel) rfl rfl ?_
  refine tw_aload_n (k := 22) rfl rfl ?_
  refine tw_aload_n (k := 23) rfl rfl ?_
  refine tw_getR (k := 24) rfl fl_RX0_44 (fun x7 => ?_)
  refine tw_bipush (k := 25) (12 : Int32) rfl (by decide) ?_
  refine tw_callS (k := 26) (d' := 2) (mc' := 1) (ms' := 400) tw_cA tw_cAi [.ref x7, .int (12 : Int32)] rfl rfl ws_RX0_37_J7_copyOf_59c91 mo_J7_copyOf_59c91 rfl (fun Q9 => K_J7_copyOf_59c91 Q9 x7 (12 : Int32)) (by omega) (by decide) (by decide) (Nat.le_of_ble_eq_true rfl) (fun b8 => ?_)
  refine tw_putR (k := 27) (ty := (.array .int)) rfl fl_RX0_27 wf_X0_init__27 (by decide +kernel) rfl rfl ?_
  refine tw_aload_n (k := 28) rfl rfl ?_
  refine tw_aload_n (k := 29) rfl rfl ?_
  refine tw_getR (k := 30) rfl fl_RX0_45 (fun x9 => ?_)
  refine tw_aload_n (k := 31) rfl rfl ?_
  refine tw_getI (k := 32) rfl fl_RX0_46 (fun x10 => ?_)
  refine tw_iconst (k := 33) (0 : Int32) rfl (by decide) ?_
  refine tw_callS (k := 34) (d' := 1) (mc' := 0) (ms' := 0) tw_cI tw_cIi [.int x10, .int (0 : Int32)] rfl rfl ws_RX0_49_J9_max_7cf53 mo_J9_max_7cf53 rfl (fun Q9 => K_J9_max_7cf53 Q9 x10 (0 : Int32)) (by omega) (by decide) (by decide) (Nat.le_of_ble_eq_true rfl) (fun x11 => ?_)
  refine tw_callS (k := 35) (d' := 2) (mc' := 1) (ms' := 400) tw_cA tw_cAi [.ref x9, .int x11] rfl rfl ws_RX0_37_J7_copyOf_59c91 mo_J7_copyOf_59c91 rfl (fun Q9 => K_J7_copyOf_59c91 Q9 x9 x11) (by omega) (by decide) (by decide) (Nat.le_of_ble_eq_true rfl) (fun b12 => ?_)
  refine tw_putR (k := 36) (ty := (.array .int)) rfl fl_RX0_30 wf_X0_init__30 (by decide +kernel) rfl rfl ?_
  exact tw_return (k := 37) rfl rfl (by decide) (by decide)
def mX11_init : tw_MD := (yX11_init, cX11_init, 1, none, [(0, .aload_n 0, 1, 1), (1, .invokespecial 1, 3, 4), (4, .aload_n 0, 1, 5), (5, .new 7, 3, 8), (8, .dup, 1, 9), (9, .invokespecial 9, 3, 12), (12, .putfield 10, 3, 15), (15, .aload_n 0, 1, 16), (16, .new 16, 3, 19), (19, .dup, 1, 20), (20, .invokespecial 18, 3, 23), (23, .putfield 19, 3, 26), (26, .aload_n 0, 1, 27), (27, .new 16, 3, 30), (30, .dup, 1, 31), (31, .invokespecial 18, 3, 34), (34, .putfield 23, 3, 37), (37, .aload_n 0, 1, 38), (38, .new 16, 3, 41), (41, .dup, 1, 42), (42, .invokespecial 18, 3, 45), (45, .putfield 26, 3, 48), (48, .aload_n 0, 1, 49), (49, .new 29, 3, 52), (52, .dup, 1, 53), (53, .invokespecial 31, 3, 56), (56, .putfield 32, 3, 59), (59, .aload_n 0, 1, 60), (60, .new 36, 3, 63), (63, .dup, 1, 64), (64, .aload_n 0, 1, 65), (65, .getfield 10, 3, 68), (68, .aload_n 0, 1, 69), (69, .getfield 23, 3, 72), (72, .invokespecial 38, 3, 75), (75, .putfield 41, 3, 78), (78, .aload_n 0, 1, 79), (79, .new 45, 3, 82), (82, .dup, 1, 83), (83, .aload_n 0, 1, 84), (84, .getfield 10, 3, 87), (87, .invokespecial 47, 3, 90), (90, .putfield 50, 3, 93), (93, .aload_n 0, 1, 94), (94, .new 54, 3, 97), (97, .dup, 1, 98), (98, .invokespecial 56, 3, 101), (101, .putfield 57, 3, 104), (104, .aload_n 0, 1, 105), (105, .new 61, 3, 108), (108, .dup, 1, 109), (109, .aload_n 0, 1, 110), (110, .getfield 19, 3, 113), (113, .aload_n 0, 1, 114), (114, .getfield 57, 3, 117), (117, .invokespecial 63, 3, 120), (120, .putfield 66, 3, 123), (123, .aload_n 0, 1, 124), (124, .new 70, 3, 127), (127, .dup, 1, 128), (128, .invokespecial 72, 3, 131), (131, .putfield 73, 3, 134), (134, .aload_n 0, 1, 135), (135, .new 77, 3, 138), (138, .dup, 1, 139), (139, .invokespecial 79, 3, 142), (142, .putfield 80, 3, 145), (145, .aload_n 0, 1, 146), (146, .aload_n 0, 1, 147), (147, .getfield 80, 3, 150), (150, .putfield 84, 3, 153), (153, .aload_n 0, 1, 154), (154, .iconst (-1), 1, 155), (155, .putfield 87, 3, 158), (158, .return_, 1, 159)], [])
theorem mo_X11_init : tw_mok mX11_init 0 := ⟨plainFor_of_name (by decide +kernel), by decide +kernel, by decide +kernel, by decide +kernel, by decide +kernel⟩
theorem dk_X11_init : tw_dk mX11_init := by unfold tw_dk; decide +kernel
theorem km_RX11_1 : Cond.methodLink RX11 1 Lib.objectInit ∈ lw_tbl := List.mem_of_getElem? (i := 158) (by decide +kernel)
theorem fl_RX11_10 : tw_fl RX11 10 56 := Or.inl (List.mem_of_getElem? (i := 442) (by decide +kernel))
theorem fl_RX11_19 : tw_fl RX11 19 57 := Or.inl (List.mem_of_getElem? (i := 443) (by decide +kernel))
theorem fl_RX11_23 : tw_fl RX11 23 58 := Or.inl (List.mem_of_getElem? (i := 444) (by decide +kernel))
theorem fl_RX11_26 : tw_fl RX11 26 59 := Or.inl (List.mem_of_getElem? (i := 445) (by decide +kernel))
theorem fl_RX11_32 : tw_fl RX11 32 60 := Or.inl (List.mem_of_getElem? (i := 446) (by decide +kernel))
theorem fl_RX11_41 : tw_fl RX11 41 61 := Or.inl (List.mem_of_getElem? (i := 447) (by decide +kernel))
theorem fl_RX11_50 : tw_fl RX11 50 62 := Or.inl (List.mem_of_getElem? (i := 448) (by decide +kernel))
theorem fl_RX11_57 : tw_fl RX11 57 63 := Or.inl (List.mem_of_getElem? (i := 449) (by decide +kernel))
theorem fl_RX11_66 : tw_fl RX11 66 64 := Or.inl (List.mem_of_getElem? (i := 450) (by decide +kernel))
theorem fl_RX11_73 : tw_fl RX11 73 65 := Or.inl (List.mem_of_getElem? (i := 451) (by decide +kernel))
theorem fl_RX11_80 : tw_fl RX11 80 66 := Or.inl (List.mem_of_getElem? (i := 452) (by decide +kernel))
theorem fl_RX11_84 : tw_fl RX11 84 67 := Or.inl (List.mem_of_getElem? (i := 453) (by decide +kernel))
theorem fl_RX11_87 : tw_fl RX11 87 69 := Or.inl (List.mem_of_getElem? (i := 455) (by decide +kernel))
theorem wf_X11_init_87 : tw_wf mX11_init 87 69 := Or.inl rfl
theorem wf_X11_init_84 : tw_wf mX11_init 84 67 := Or.inl rfl
theorem wf_X11_init_80 : tw_wf mX11_init 80 66 := Or.inl rfl
theorem wi_RX11_79_X0_init : tw_wI RX11 79 mX0_init := ⟨List.mem_of_getElem? (i := 418) (by decide +kernel), List.mem_of_getElem? (i := 419) (by decide +kernel), List.mem_of_getElem? (i := 136) (by decide +kernel), List.mem_of_getElem? (i := 420) (by decide +kernel)⟩
theorem kcl_RX11_77 : Cond.classLink RX11 77 RX0 ∈ lw_tbl := List.mem_of_getElem? (i := 416) (by decide +kernel)
theorem wf_X11_init_73 : tw_wf mX11_init 73 65 := Or.inr ⟨by decide +kernel, by decide +kernel, List.mem_of_getElem? (i := 451) (by decide +kernel)⟩
theorem wn_RX11_72_X5_init : tw_wIN RX11 72 mX5_init "TwinRopes" := ⟨List.mem_of_getElem? (i := 396) (by decide +kernel), List.mem_of_getElem? (i := 397) (by decide +kernel), List.mem_of_getElem? (i := 135) (by decide +kernel), List.mem_of_getElem? (i := 398) (by decide +kernel)⟩
theorem kcl_RX11_70 : Cond.classLink RX11 70 RX5 ∈ lw_tbl := List.mem_of_getElem? (i := 394) (by decide +kernel)
theorem wf_X11_init_66 : tw_wf mX11_init 66 64 := Or.inr ⟨by decide +kernel, by decide +kernel, List.mem_of_getElem? (i := 450) (by decide +kernel)⟩
theorem wi_RX11_63_X4_init : tw_wI RX11 63 mX4_init := ⟨List.mem_of_getElem? (i := 368) (by decide +kernel), List.mem_of_getElem? (i := 369) (by decide +kernel), List.mem_of_getElem? (i := 134) (by decide +kernel), List.mem_of_getElem? (i := 370) (by decide +kernel)⟩
theorem kcl_RX11_61 : Cond.classLink RX11 61 RX4 ∈ lw_tbl := List.mem_of_getElem? (i := 366) (by decide +kernel)
theorem wf_X11_init_57 : tw_wf mX11_init 57 63 := Or.inr ⟨by decide +kernel, by decide +kernel, List.mem_of_getElem? (i := 449) (by decide +kernel)⟩
theorem wn_RX11_56_X10_init : tw_wIN RX11 56 mX10_init "TwinRopes" := ⟨List.mem_of_getElem? (i := 355) (by decide +kernel), List.mem_of_getElem? (i := 356) (by decide +kernel), List.mem_of_getElem? (i := 133) (by decide +kernel), List.mem_of_getElem? (i := 357) (by decide +kernel)⟩
theorem kcl_RX11_54 : Cond.classLink RX11 54 RX10 ∈ lw_tbl := List.mem_of_getElem? (i := 353) (by decide +kernel)
theorem wf_X11_init_50 : tw_wf mX11_init 50 62 := Or.inr ⟨by decide +kernel, by decide +kernel, List.mem_of_getElem? (i := 448) (by decide +kernel)⟩
theorem wi_RX11_47_X1_init : tw_wI RX11 47 mX1_init := ⟨List.mem_of_getElem? (i := 317) (by decide +kernel), List.mem_of_getElem? (i := 318) (by decide +kernel), List.mem_of_getElem? (i := 132) (by decide +kernel), List.mem_of_getElem? (i := 319) (by decide +kernel)⟩
theorem kcl_RX11_45 : Cond.classLink RX11 45 RX1 ∈ lw_tbl := List.mem_of_getElem? (i := 315) (by decide +kernel)
theorem wf_X11_init_41 : tw_wf mX11_init 41 61 := Or.inr ⟨by decide +kernel, by decide +kernel, List.mem_of_getElem? (i := 447) (by decide +kernel)⟩
theorem wi_RX11_38_X9_init : tw_wI RX11 38 mX9_init := ⟨List.mem_of_getElem? (i := 283) (by decide +kernel), List.mem_of_getElem? (i := 284) (by decide +kernel), List.mem_of_getElem? (i := 131) (by decide +kernel), List.mem_of_getElem? (i := 285) (by decide +kernel)⟩
theorem kcl_RX11_36 : Cond.classLink RX11 36 RX9 ∈ lw_tbl := List.mem_of_getElem? (i := 281) (by decide +kernel)
theorem wf_X11_init_32 : tw_wf mX11_init 32 60 := Or.inr ⟨by decide +kernel, by decide +kernel, List.mem_of_getElem? (i := 446) (by decide +kernel)⟩
theorem wi_RX11_31_X3_init : tw_wI RX11 31 mX3_init := ⟨List.mem_of_getElem? (i := 263) (by decide +kernel), List.mem_of_getElem? (i := 264) (by decide +kernel), List.mem_of_getElem? (i := 129) (by decide +kernel), List.mem_of_getElem? (i := 265) (by decide +kernel)⟩
theorem kcl_RX11_29 : Cond.classLink RX11 29 RX3 ∈ lw_tbl := List.mem_of_getElem? (i := 261) (by decide +kernel)
theorem wf_X11_init_26 : tw_wf mX11_init 26 59 := Or.inr ⟨by decide +kernel, by decide +kernel, List.mem_of_getElem? (i := 445) (by decide +kernel)⟩
theorem wi_RX11_18_X8_init : tw_wI RX11 18 mX8_init := ⟨List.mem_of_getElem? (i := 177) (by decide +kernel), List.mem_of_getElem? (i := 178) (by decide +kernel), List.mem_of_getElem? (i := 126) (by decide +kernel), List.mem_of_getElem? (i := 179) (by decide +kernel)⟩
theorem kcl_RX11_16 : Cond.classLink RX11 16 RX8 ∈ lw_tbl := List.mem_of_getElem? (i := 175) (by decide +kernel)
theorem wf_X11_init_23 : tw_wf mX11_init 23 58 := Or.inr ⟨by decide +kernel, by decide +kernel, List.mem_of_getElem? (i := 444) (by decide +kernel)⟩
theorem wf_X11_init_19 : tw_wf mX11_init 19 57 := Or.inr ⟨by decide +kernel, by decide +kernel, List.mem_of_getElem? (i := 443) (by decide +kernel)⟩
theorem wf_X11_init_10 : tw_wf mX11_init 10 56 := Or.inr ⟨by decide +kernel, by decide +kernel, List.mem_of_getElem? (i := 442) (by decide +kernel)⟩
theorem wn_RX11_9_X6_init : tw_wIN RX11 9 mX6_init "TwinRopes" := ⟨List.mem_of_getElem? (i := 163) (by decide +kernel), List.mem_of_getElem? (i := 164) (by decide +kernel), List.mem_of_getElem? (i := 125) (by decide +kernel), List.mem_of_getElem? (i := 165) (by decide +kernel)⟩
theorem kcl_RX11_7 : Cond.classLink RX11 7 RX6 ∈ lw_tbl := List.mem_of_getElem? (i := 161) (by decide +kernel)
set_option maxRecDepth 20000 in
theorem K_X11_init {g : tw_Gx} (Q : tw_Rs → tw_Mem → Prop) (a0 : Nat) : tw_Kt g mX11_init 4 167 7626 [.ref a0] Q (f_X11_init a0 (fun v => Q (.inl none))) := by
  refine tw_mkK (L := [some (.ref a0)]) mo_X11_init dk_X11_init rfl (Nat.le_of_ble_eq_true rfl) rfl ?_
  unfold f_X11_init
  refine tw_aload_n (k := 0) rfl rfl ?_
  refine tw_objInit (k := 1) rfl km_RX11_1 koi koc (by omega) (Nat.le_of_ble_eq_true rfl) ?_
  refine tw_aload_n (k := 2) rfl rfl ?_
  refine tw_new (k := 3) 6 rfl rfl kcl_RX11_7 (by decide) (by decide) (fun b1 => ?_)
  refine tw_dup (k := 4) rfl rfl ?_
  refine tw_callIN (k := 5) (d' := 1) (mc' := 1) (ms' := 400) [] rfl rfl wn_RX11_9_X6_init mo_X6_init rfl rfl rfl (fun Q9 => K_X6_init Q9 b1) (by omega) (by decide) (by decide) (Nat.le_of_ble_eq_true rfl) ?_
  refine tw_putR (k := 6) (ty := (.object "TwinRopes$Tape")) rfl fl_RX11_10 wf_X11_init_10 (by decide +kernel) rfl rfl ?_
  refine tw_aload_n (k := 7) rfl rfl ?_
  refine tw_new (k := 8) 7 rfl rfl kcl_RX11_16 (by decide) (by decide) (fun b3 => ?_)
  refine tw_dup (k := 9) rfl rfl ?_
  refine tw_callI (k := 10) (d' := 2) (mc' := 8) (ms' := 239) [] rfl rfl wi_RX11_18_X8_init mo_X8_init rfl rfl rfl (fun Q9 => K_X8_init Q9 b3) (by omega) (by decide) (by decide) (Nat.le_of_ble_eq_true rfl) ?_
  refine tw_putR (k := 11) (ty := (.object "TwinRopes$Town")) rfl fl_RX11_19 wf_X11_init_19 (by decide +kernel) rfl rfl ?_
  refine tw_aload_n (k := 12) rfl rfl ?_
  refine tw_new (k := 13) 7 rfl rfl kcl_RX11_16 (by decide) (by decide) (fun b5 => ?_)
  refine tw_dup (k := 14) rfl rfl ?_
  refine tw_callI (k := 15) (d' := 2) (mc' := 8) (ms' := 239) [] rfl rfl wi_RX11_18_X8_init mo_X8_init rfl rfl rfl (fun Q9 => K_X8_init Q9 b5) (by omega) (by decide) (by decide) (Nat.le_of_ble_eq_true rfl) ?_
  refine tw_putR (k := 16) (ty := (.object "TwinRopes$Town")) rfl fl_RX11_23 wf_X11_init_23 (by decide +kernel) rfl rfl ?_
  refine tw_aload_n (k := 17) rfl rfl ?_
  refine tw_new (k := 18) 7 rfl rfl kcl_RX11_16 (by decide) (by decide) (fun b7 => ?_)
  refine tw_dup (k := 19) rfl rfl ?_
  refine tw_callI (k := 20) (d' := 2) (mc' := 8) (ms' := 239) [] rfl rfl wi_RX11_18_X8_init mo_X8_init rfl rfl rfl (fun Q9 => K_X8_init Q9 b7) (by omega) (by decide) (by decide) (Nat.le_of_ble_eq_true rfl) ?_
  refine tw_putR (k := 21) (ty := (.object "TwinRopes$Town")) rfl fl_RX11_26 wf_X11_init_26 (by decide +kernel) rfl rfl ?_
  refine tw_aload_n (k := 22) rfl rfl ?_
  refine tw_new (k := 23) 3 rfl rfl kcl_RX11_29 (by decide) (by decide) (fun b9 => ?_)
  refine tw_dup (k := 24) rfl rfl ?_
  refine tw_callI (k := 25) (d' := 3) (mc' := 109) (ms' := 3048) [] rfl rfl wi_RX11_31_X3_init mo_X3_init rfl rfl rfl (fun Q9 => K_X3_init Q9 b9) (by omega) (by decide) (by decide) (Nat.le_of_ble_eq_true rfl) ?_
  refine tw_putR (k := 26) (ty := (.object "TwinRopes$Memory")) rfl fl_RX11_32 wf_X11_init_32 (by decide +kernel) rfl rfl ?_
  refine tw_aload_n (k := 27) rfl rfl ?_
  refine tw_new (k := 28) 8 rfl rfl kcl_RX11_36 (by decide) (by decide) (fun b11 => ?_)
  refine tw_dup (k := 29) rfl rfl ?_
  refine tw_aload_n (k := 30) rfl rfl ?_
  refine tw_getR (k := 31) rfl fl_RX11_10 (fun x12 => ?_)
  refine tw_aload_n (k := 32) rfl rfl ?_
  refine tw_getR (k := 33) rfl fl_RX11_23 (fun x13 => ?_)
  refine tw_callI (k := 34) (d' := 2) (mc' := 3) (ms' := 1203) [.ref x12, .ref x13] rfl rfl wi_RX11_38_X9_init mo_X9_init rfl rfl rfl (fun Q9 => K_X9_init Q9 b11 x12 x13) (by omega) (by decide) (by decide) (Nat.le_of_ble_eq_true rfl) ?_
  refine tw_putR (k := 35) (ty := (.object "TwinRopes$TownText")) rfl fl_RX11_41 wf_X11_init_41 (by decide +kernel) rfl rfl ?_
  refine tw_aload_n (k := 36) rfl rfl ?_
  refine tw_new (k := 37) 1 rfl rfl kcl_RX11_45 (by decide) (by decide) (fun b15 => ?_)
  refine tw_dup (k := 38) rfl rfl ?_
  refine tw_aload_n (k := 39) rfl rfl ?_
  refine tw_getR (k := 40) rfl fl_RX11_10 (fun x16 => ?_)
  refine tw_callI (k := 41) (d' := 2) (mc' := 7) (ms' := 1639) [.ref x16] rfl rfl wi_RX11_47_X1_init mo_X1_init rfl rfl rfl (fun Q9 => K_X1_init Q9 b15 x16) (by omega) (by decide) (by decide) (Nat.le_of_ble_eq_true rfl) ?_
  refine tw_putR (k := 42) (ty := (.object "TwinRopes$LawText")) rfl fl_RX11_50 wf_X11_init_50 (by decide +kernel) rfl rfl ?_
  refine tw_aload_n (k := 43) rfl rfl ?_
  refine tw_new (k := 44) 9 rfl rfl kcl_RX11_54 (by decide) (by decide) (fun b18 => ?_)
  refine tw_dup (k := 45) rfl rfl ?_
  refine tw_callIN (k := 46) (d' := 1) (mc' := 1) (ms' := 11) [] rfl rfl wn_RX11_56_X10_init mo_X10_init rfl rfl rfl (fun Q9 => K_X10_init Q9 b18) (by omega) (by decide) (by decide) (Nat.le_of_ble_eq_true rfl) ?_
  refine tw_putR (k := 47) (ty := (.object "TwinRopes$Two")) rfl fl_RX11_57 wf_X11_init_57 (by decide +kernel) rfl rfl ?_
  refine tw_aload_n (k := 48) rfl rfl ?_
  refine tw_new (k := 49) 4 rfl rfl kcl_RX11_61 (by decide) (by decide) (fun b20 => ?_)
  refine tw_dup (k := 50) rfl rfl ?_
  refine tw_aload_n (k := 51) rfl rfl ?_
  refine tw_getR (k := 52) rfl fl_RX11_19 (fun x21 => ?_)
  refine tw_aload_n (k := 53) rfl rfl ?_
  refine tw_getR (k := 54) rfl fl_RX11_57 (fun x22 => ?_)
  refine tw_callI (k := 55) (d' := 1) (mc' := 2) (ms' := 128) [.ref x21, .ref x22] rfl rfl wi_RX11_63_X4_init mo_X4_init rfl rfl rfl (fun Q9 => K_X4_init Q9 b20 x21 x22) (by omega) (by decide) (by decide) (Nat.le_of_ble_eq_true rfl) ?_
  refine tw_putR (k := 56) (ty := (.object "TwinRopes$Pairs")) rfl fl_RX11_66 wf_X11_init_66 (by decide +kernel) rfl rfl ?_
  refine tw_aload_n (k := 57) rfl rfl ?_
  refine tw_new (k := 58) 5 rfl rfl kcl_RX11_70 (by decide) (by decide) (fun b24 => ?_)
  refine tw_dup (k := 59) rfl rfl ?_
  refine tw_callIN (k := 60) (d' := 1) (mc' := 4) (ms' := 336) [] rfl rfl wn_RX11_72_X5_init mo_X5_init rfl rfl rfl (fun Q9 => K_X5_init Q9 b24) (by omega) (by decide) (by decide) (Nat.le_of_ble_eq_true rfl) ?_
  refine tw_putR (k := 61) (ty := (.object "TwinRopes$Sets")) rfl fl_RX11_73 wf_X11_init_73 (by decide +kernel) rfl rfl ?_
  refine tw_aload_n (k := 62) rfl rfl ?_
  refine tw_new (k := 63) 0 rfl rfl kcl_RX11_77 (by decide) (by decide) (fun b26 => ?_)
  refine tw_dup (k := 64) rfl rfl ?_
  refine tw_callI (k := 65) (d' := 1) (mc' := 5) (ms' := 56) [] rfl rfl wi_RX11_79_X0_init mo_X0_init rfl rfl rfl (fun Q9 => K_X0_init Q9 b26) (by omega) (by decide) (by decide) (Nat.le_of_ble_eq_true rfl) ?_
  refine tw_putR (k := 66) (ty := (.object "TwinRopes$Law")) rfl fl_RX11_80 wf_X11_init_80 (by decide +kernel) rfl rfl ?_
  refine tw_aload_n (k := 67) rfl rfl ?_
  refine tw_aload_n (k := 68) rfl rfl ?_
  refine tw_getR (k := 69) rfl fl_RX11_80 (fun x28 => ?_)
  refine tw_putR (k := 70) (ty := (.object "TwinRopes$Law")) rfl fl_RX11_84 wf_X11_init_84 (by decide +kernel) rfl rfl ?_
  refine tw_aload_n (k := 71) rfl rfl ?_
  refine tw_iconst (k := 72) (-1 : Int32) rfl (by decide) ?_
  refine tw_putI (k := 73) rfl fl_RX11_87 wf_X11_init_87 (by decide +kernel) ?_
  exact tw_return (k := 74) rfl rfl (by decide) (by decide)
def mX11_feed : tw_MD := (yX11_feed, cX11_feed, 6, (some FieldType.int), [(0, .aload_n 0, 1, 1), (1, .getfield 10, 3, 4), (4, .invokevirtual 91, 3, 7), (7, .ifCond .ne 5, 3, 10), (10, .iconst (-1), 1, 11), (11, .ireturn, 1, 12), (12, .aload_n 0, 1, 13), (13, .getfield 10, 3, 16), (16, .iload_n 1, 1, 17), (17, .invokevirtual 95, 3, 20), (20, .aload_n 0, 1, 21), (21, .getfield 10, 3, 24), (24, .iload_n 2, 1, 25), (25, .invokevirtual 95, 3, 28), (28, .aload_n 0, 1, 29), (29, .getfield 10, 3, 32), (32, .iload_n 3, 1, 33), (33, .invokevirtual 95, 3, 36), (36, .aload_n 0, 1, 37), (37, .getfield 10, 3, 40), (40, .iload 4, 2, 42), (42, .invokevirtual 95, 3, 45), (45, .aload_n 0, 1, 46), (46, .getfield 10, 3, 49), (49, .iload 5, 2, 51), (51, .invokevirtual 95, 3, 54), (54, .aload_n 0, 1, 55), (55, .getfield 10, 3, 58), (58, .invokevirtual 99, 3, 61), (61, .ireturn, 1, 62)], [])
theorem mo_X11_feed : tw_mok mX11_feed 5 := ⟨plainFor_of_name (by decide +kernel), by decide +kernel, by decide +kernel, by decide +kernel, by decide +kernel⟩
theorem dk_X11_feed : tw_dk mX11_feed := by unfold tw_dk; decide +kernel
theorem wv_RX11_99_X6_size : tw_wV RX11 99 mX6_size := ⟨List.mem_of_getElem? (i := 497) (by decide +kernel), List.mem_of_getElem? (i := 498) (by decide +kernel), List.mem_of_getElem? (i := 499) (by decide +kernel), List.mem_of_getElem? (i := 125) (by decide +kernel), List.mem_of_getElem? (i := 500) (by decide +kernel)⟩
theorem wv_RX11_95_X6_add : tw_wV RX11 95 mX6_add := ⟨List.mem_of_getElem? (i := 493) (by decide +kernel), List.mem_of_getElem? (i := 494) (by decide +kernel), List.mem_of_getElem? (i := 495) (by decide +kernel), List.mem_of_getElem? (i := 125) (by decide +kernel), List.mem_of_getElem? (i := 496) (by decide +kernel)⟩
theorem wv_RX11_91_X6_hasRoomForFive : tw_wV RX11 91 mX6_hasRoomForFive := ⟨List.mem_of_getElem? (i := 489) (by decide +kernel), List.mem_of_getElem? (i := 490) (by decide +kernel), List.mem_of_getElem? (i := 491) (by decide +kernel), List.mem_of_getElem? (i := 125) (by decide +kernel), List.mem_of_getElem? (i := 492) (by decide +kernel)⟩
set_option maxRecDepth 20000 in
theorem K_X11_feed {g : tw_Gx} (Q : tw_Rs → tw_Mem → Prop) (a0 : Nat) (a1 : Int32) (a2 : Int32) (a3 : Int32) (a4 : Int32) (a5 : Int32) : tw_Kt g mX11_feed 2 0 0 [.ref a0, .int a1, .int a2, .int a3, .int a4, .int a5] Q (f_X11_feed a0 a1 a2 a3 a4 a5 (fun v => Q (.inl (some (.int v))))) := by
  refine tw_mkK (L := [some (.ref a0), some (.int a1), some (.int a2), some (.int a3), some (.int a4), some (.int a5)]) mo_X11_feed dk_X11_feed rfl (Nat.le_of_ble_eq_true rfl) rfl ?_
  unfold f_X11_feed
  refine tw_aload_n (k := 0) rfl rfl ?_
  refine tw_getR (k := 1) rfl fl_RX11_10 (fun x1 => ?_)
  refine tw_callV (k := 2) (d' := 1) (mc' := 0) (ms' := 0) tw_cI tw_cIi [] rfl rfl wv_RX11_91_X6_hasRoomForFive mo_X6_hasRoomForFive (t := 6) rfl rfl rfl (fun Q9 => K_X6_hasRoomForFive Q9 x1) (by omega) (by decide) (by decide) (Nat.le_of_ble_eq_true rfl) (fun x2 => ?_)
  refine tw_if_ne (k := 3) 12 rfl (by decide) ?_ ?_
  · refine tw_aload_n (k := 6) rfl rfl ?_
    refine tw_getR (k := 7) rfl fl_RX11_10 (fun x3 => ?_)
    refine tw_iload_n (k := 8) rfl rfl ?_
    refine tw_callV (k := 9) (d' := 1) (mc' := 0) (ms' := 0) tw_cU tw_cUi [.int a1] rfl rfl wv_RX11_95_X6_add mo_X6_add (t := 6) rfl rfl rfl (fun Q9 => K_X6_add Q9 x3 a1) (by omega) (by decide) (by decide) (Nat.le_of_ble_eq_true rfl) (fun u4 => ?_)
    refine tw_aload_n (k := 10) rfl rfl ?_
    refine tw_getR (k := 11) rfl fl_RX11_10 (fun x5 => ?_)
    refine tw_iload_n (k := 12) rfl rfl ?_
    refine tw_callV (k := 13) (d' := 1) (mc' := 0) (ms' := 0) tw_cU tw_cUi [.int a2] rfl rfl wv_RX11_95_X6_add mo_X6_add (t := 6) rfl rfl rfl (fun Q9 => K_X6_add Q9 x5 a2) (by omega) (by decide) (by decide) (Nat.le_of_ble_eq_true rfl) (fun u6 => ?_)
    refine tw_aload_n (k := 14) rfl rfl ?_
    refine tw_getR (k := 15) rfl fl_RX11_10 (fun x7 => ?_)
    refine tw_iload_n (k := 16) rfl rfl ?_
    refine tw_callV (k := 17) (d' := 1) (mc' := 0) (ms' := 0) tw_cU tw_cUi [.int a3] rfl rfl wv_RX11_95_X6_add mo_X6_add (t := 6) rfl rfl rfl (fun Q9 => K_X6_add Q9 x7 a3) (by omega) (by decide) (by decide) (Nat.le_of_ble_eq_true rfl) (fun u8 => ?_)
    refine tw_aload_n (k := 18) rfl rfl ?_
    refine tw_getR (k := 19) rfl fl_RX11_10 (fun x9 => ?_)
    refine tw_iload (k := 20) rfl rfl ?_
    refine tw_callV (k := 21) (d' := 1) (mc' := 0) (ms' := 0) tw_cU tw_cUi [.int a4] rfl rfl wv_RX11_95_X6_add mo_X6_add (t := 6) rfl rfl rfl (fun Q9 => K_X6_add Q9 x9 a4) (by omega) (by decide) (by decide) (Nat.le_of_ble_eq_true rfl) (fun u10 => ?_)
    refine tw_aload_n (k := 22) rfl rfl ?_
    refine tw_getR (k := 23) rfl fl_RX11_10 (fun x11 => ?_)
    refine tw_iload (k := 24) rfl rfl ?_
    refine tw_callV (k := 25) (d' := 1) (mc' := 0) (ms' := 0) tw_cU tw_cUi [.int a5] rfl rfl wv_RX11_95_X6_add mo_X6_add (t := 6) rfl rfl rfl (fun Q9 => K_X6_add Q9 x11 a5) (by omega) (by decide) (by decide) (Nat.le_of_ble_eq_true rfl) (fun u12 => ?_)
    refine tw_aload_n (k := 26) rfl rfl ?_
    refine tw_getR (k := 27) rfl fl_RX11_10 (fun x13 => ?_)
    refine tw_callV (k := 28) (d' := 1) (mc' := 0) (ms' := 0) tw_cI tw_cIi [] rfl rfl wv_RX11_99_X6_size mo_X6_size (t := 6) rfl rfl rfl (fun Q9 => K_X6_size Q9 x13) (by omega) (by decide) (by decide) (Nat.le_of_ble_eq_true rfl) (fun x14 => ?_)
    exact tw_ireturn (k := 29) rfl rfl (by decide) (by decide)
  · refine tw_iconst (k := 4) (-1 : Int32) rfl (by decide) ?_
    exact tw_ireturn (k := 5) rfl rfl (by decide) (by decide)
def mX11_end : tw_MD := (yX11_end, cX11_end, 2, (some FieldType.boolean), [(0, .aload_n 0, 1, 1), (1, .getfield 10, 3, 4), (4, .iload_n 1, 1, 5), (5, .invokevirtual 103, 3, 8), (8, .ireturn, 1, 9)], [])
theorem mo_X11_end : tw_mok mX11_end 1 := ⟨plainFor_of_name (by decide +kernel), by decide +kernel, by decide +kernel, by decide +kernel, by decide +kernel⟩
theorem dk_X11_end : tw_dk mX11_end := by unfold tw_dk; decide +kernel
theorem wv_RX11_103_X6_shorten : tw_wV RX11 103 mX6_shorten := ⟨List.mem_of_getElem? (i := 505) (by decide +kernel), List.mem_of_getElem? (i := 506) (by decide +kernel), List.mem_of_getElem? (i := 507) (by decide +kernel), List.mem_of_getElem? (i := 125) (by decide +kernel), List.mem_of_getElem? (i := 508) (by decide +kernel)⟩
set_option maxRecDepth 20000 in
theorem K_X11_end {g : tw_Gx} (Q : tw_Rs → tw_Mem → Prop) (a0 : Nat) (a1 : Int32) : tw_Kt g mX11_end 2 0 0 [.ref a0, .int a1] Q (f_X11_end a0 a1 (fun v => Q (.inl (some (.int v))))) := by
  refine tw_mkK (L := [some (.ref a0), some (.int a1)]) mo_X11_end dk_X11_end rfl (Nat.le_of_ble_eq_true rfl) rfl ?_
  unfold f_X11_end
  refine tw_aload_n (k := 0) rfl rfl ?_
  refine tw_getR (k := 1) rfl fl_RX11_10 (fun x1 => ?_)
  refine tw_iload_n (k := 2) rfl rfl ?_
  refine tw_callV (k := 3) (d' := 1) (mc' := 0) (ms' := 0) tw_cI tw_cIi [.int a1] rfl rfl wv_RX11_103_X6_shorten mo_X6_shorten (t := 6) rfl rfl rfl (fun Q9 => K_X6_shorten Q9 x1 a1) (by omega) (by decide) (by decide) (Nat.le_of_ble_eq_true rfl) (fun x2 => ?_)
  exact tw_zreturn (k := 4) rfl rfl (by decide) (by decide)
def mX11_town : tw_MD := (yX11_town, cX11_town, 1, (some FieldType.int), [(0, .aload_n 0, 1, 1), (1, .getfield 23, 3, 4), (4, .aload_n 0, 1, 5), (5, .getfield 19, 3, 8), (8, .invokevirtual 107, 3, 11), (11, .aload_n 0, 1, 12), (12, .aload_n 0, 1, 13), (13, .getfield 41, 3, 16), (16, .bipush 14, 2, 18), (18, .invokevirtual 111, 3, 21), (21, .putfield 87, 3, 24), (24, .aload_n 0, 1, 25), (25, .getfield 10, 3, 28), (28, .invokevirtual 115, 3, 31), (31, .aload_n 0, 1, 32), (32, .getfield 87, 3, 35), (35, .iconst (-1), 1, 36), (36, .if_icmp .eq 13, 3, 39), (39, .new 118, 3, 42), (42, .dup, 1, 43), (43, .ldc 120, 2, 45), (45, .invokespecial 122, 3, 48), (48, .athrow, 1, 49), (49, .aload_n 0, 1, 50), (50, .getfield 19, 3, 53), (53, .getfield 125, 3, 56), (56, .bipush 12, 2, 58), (58, .if_icmp .lt 13, 3, 61), (61, .new 128, 3, 64), (64, .dup, 1, 65), (65, .ldc 130, 2, 67), (67, .invokespecial 132, 3, 70), (70, .athrow, 1, 71), (71, .aload_n 0, 1, 72), (72, .getfield 19, 3, 75), (75, .aload_n 0, 1, 76), (76, .getfield 23, 3, 79), (79, .invokevirtual 107, 3, 82), (82, .aload_n 0, 1, 83), (83, .getfield 19, 3, 86), (86, .dup, 1, 87), (87, .getfield 125, 3, 90), (90, .iconst 1, 1, 91), (91, .iadd, 1, 92), (92, .putfield 125, 3, 95), (95, .aload_n 0, 1, 96), (96, .getfield 32, 3, 99), (99, .invokevirtual 133, 3, 102), (102, .aload_n 0, 1, 103), (103, .getfield 19, 3, 106), (106, .getfield 125, 3, 109), (109, .ireturn, 1, 110)], [])
theorem mo_X11_town : tw_mok mX11_town 0 := ⟨plainFor_of_name (by decide +kernel), by decide +kernel, by decide +kernel, by decide +kernel, by decide +kernel⟩
theorem dk_X11_town : tw_dk mX11_town := by unfold tw_dk; decide +kernel
theorem tw_at_RX11_122 : ∀ w ∈ vx_atS RX11 122 "java/lang/IllegalArgumentException" ["java/lang/RuntimeException", "java/lang/Exception"], w ∈ lw_tbl ∧ tw_mv w = true ∧ vx_ot w = true := fun w hw =>
  have h := (by decide +kernel : ∀ w ∈ vx_atS RX11 122 "java/lang/IllegalArgumentException" ["java/lang/RuntimeException", "java/lang/Exception"], w ∈ tw_exw ∧ tw_mv w = true ∧ vx_ot w = true) w hw
  ⟨tw_exw_in w h.1, h.2⟩
theorem tw_at_RX11_132 : ∀ w ∈ vx_atS RX11 132 "java/lang/UnsupportedOperationException" ["java/lang/RuntimeException", "java/lang/Exception"], w ∈ lw_tbl ∧ tw_mv w = true ∧ vx_ot w = true := fun w hw =>
  have h := (by decide +kernel : ∀ w ∈ vx_atS RX11 132 "java/lang/UnsupportedOperationException" ["java/lang/RuntimeException", "java/lang/Exception"], w ∈ tw_exw ∧ tw_mv w = true ∧ vx_ot w = true) w hw
  ⟨tw_exw_in w h.1, h.2⟩
theorem fl_RX11_125 : tw_fl RX11 125 52 := Or.inr ⟨"TwinRopes", List.mem_of_getElem? (i := 231) (by decide +kernel)⟩
theorem wv_RX11_133_X3_clear : tw_wV RX11 133 mX3_clear := ⟨List.mem_of_getElem? (i := 848) (by decide +kernel), List.mem_of_getElem? (i := 849) (by decide +kernel), List.mem_of_getElem? (i := 850) (by decide +kernel), List.mem_of_getElem? (i := 129) (by decide +kernel), List.mem_of_getElem? (i := 851) (by decide +kernel)⟩
theorem wf_X11_town_125 : tw_wf mX11_town 125 52 := Or.inl rfl
theorem wv_RX11_107_X8_take : tw_wV RX11 107 mX8_take := ⟨List.mem_of_getElem? (i := 843) (by decide +kernel), List.mem_of_getElem? (i := 828) (by decide +kernel), List.mem_of_getElem? (i := 829) (by decide +kernel), List.mem_of_getElem? (i := 126) (by decide +kernel), List.mem_of_getElem? (i := 830) (by decide +kernel)⟩
theorem tw_RX11_128_130_132 : tw_tw RX11 128 130 132 "java/lang/UnsupportedOperationException" "there are 12 texts" := ⟨List.mem_of_getElem? (i := 1196) (by decide +kernel), List.mem_of_getElem? (i := 147) (by decide +kernel), List.mem_of_getElem? (i := 1205) (by decide +kernel), tw_at_RX11_132⟩
theorem tw_RX11_118_120_122 : tw_tw RX11 118 120 122 "java/lang/IllegalArgumentException" "the text is wrong" := ⟨List.mem_of_getElem? (i := 1126) (by decide +kernel), List.mem_of_getElem? (i := 146) (by decide +kernel), List.mem_of_getElem? (i := 1169) (by decide +kernel), tw_at_RX11_122⟩
theorem wv_RX11_115_X6_clear : tw_wV RX11 115 mX6_clear := ⟨List.mem_of_getElem? (i := 1122) (by decide +kernel), List.mem_of_getElem? (i := 1123) (by decide +kernel), List.mem_of_getElem? (i := 1124) (by decide +kernel), List.mem_of_getElem? (i := 125) (by decide +kernel), List.mem_of_getElem? (i := 1125) (by decide +kernel)⟩
theorem wf_X11_town_87 : tw_wf mX11_town 87 69 := Or.inl rfl
theorem wu_RX11_111_X7_firstWrong8_8 : tw_wU RX11 111 RX9 "TwinRopes$Text" ⟨"TwinRopes$TownText", "firstWrong", "(I)I"⟩ mX7_firstWrong8 := ⟨List.mem_of_getElem? (i := 877) (by decide +kernel), List.mem_of_getElem? (i := 881) (by decide +kernel), List.mem_of_getElem? (i := 880) (by decide +kernel), List.mem_of_getElem? (i := 130) (by decide +kernel), List.mem_of_getElem? (i := 882) (by decide +kernel), List.mem_of_getElem? (i := 878) (by decide +kernel), List.mem_of_getElem? (i := 879) (by decide +kernel), by decide, by decide⟩
set_option maxRecDepth 20000 in
theorem K_X11_town {g : tw_Gx} (Q : tw_Rs → tw_Mem → Prop) (a0 : Nat) : tw_Kt g mX11_town 9 1 6 [.ref a0] Q (f_X11_town g a0 (fun v => Q (.inl (some (.int v)))) (fun E => Q (.inr E))) := by
  refine tw_mkK (L := [some (.ref a0)]) mo_X11_town dk_X11_town rfl (Nat.le_of_ble_eq_true rfl) rfl ?_
  unfold f_X11_town
  refine tw_aload_n (k := 0) rfl rfl ?_
  refine tw_getR (k := 1) rfl fl_RX11_23 (fun x1 => ?_)
  refine tw_aload_n (k := 2) rfl rfl ?_
  refine tw_getR (k := 3) rfl fl_RX11_19 (fun x2 => ?_)
  refine tw_callV (k := 4) (d' := 2) (mc' := 0) (ms' := 0) tw_cU tw_cUi [.ref x2] rfl rfl wv_RX11_107_X8_take mo_X8_take (t := 7) rfl rfl rfl (fun Q9 => K_X8_take Q9 x1 x2) (by omega) (by decide) (by decide) (Nat.le_of_ble_eq_true rfl) (fun u3 => ?_)
  refine tw_aload_n (k := 5) rfl rfl ?_
  refine tw_aload_n (k := 6) rfl rfl ?_
  refine tw_getR (k := 7) rfl fl_RX11_41 (fun x4 => ?_)
  refine tw_bipush (k := 8) (14 : Int32) rfl (by decide) ?_
  refine tw_callU (k := 9) (d' := 8) (mc' := 0) (ms' := 0) tw_cI tw_cIi [.int (14 : Int32)] rfl rfl (t := 8) rfl wu_RX11_111_X7_firstWrong8_8 mo_X7_firstWrong8 (by decide +kernel) rfl (fun Q9 => K_X7_firstWrong8 Q9 x4 (14 : Int32)) (by omega) (by decide) (by decide) (Nat.le_of_ble_eq_true rfl) (fun x5 => ?_)
  refine tw_putI (k := 10) rfl fl_RX11_87 wf_X11_town_87 (by decide +kernel) ?_
  refine tw_aload_n (k := 11) rfl rfl ?_
  refine tw_getR (k := 12) rfl fl_RX11_10 (fun x6 => ?_)
  refine tw_callV (k := 13) (d' := 1) (mc' := 0) (ms' := 0) tw_cU tw_cUi [] rfl rfl wv_RX11_115_X6_clear mo_X6_clear (t := 6) rfl rfl rfl (fun Q9 => K_X6_clear Q9 x6) (by omega) (by decide) (by decide) (Nat.le_of_ble_eq_true rfl) (fun u7 => ?_)
  refine tw_aload_n (k := 14) rfl rfl ?_
  refine tw_getI (k := 15) rfl fl_RX11_87 (fun x8 => ?_)
  refine tw_iconst (k := 16) (-1 : Int32) rfl (by decide) ?_
  refine tw_icmp_eq (k := 17) 49 rfl (by decide) ?_ ?_
  · refine tw_aload_n (k := 23) rfl rfl ?_
    refine tw_getR (k := 24) rfl fl_RX11_19 (fun x9 => ?_)
    refine tw_getI (k := 25) rfl fl_RX11_125 (fun x10 => ?_)
    refine tw_bipush (k := 26) (12 : Int32) rfl (by decide) ?_
    refine tw_icmp_lt (k := 27) 71 rfl (by decide) ?_ ?_
    · refine tw_aload_n (k := 33) rfl rfl ?_
      refine tw_getR (k := 34) rfl fl_RX11_19 (fun x11 => ?_)
      refine tw_aload_n (k := 35) rfl rfl ?_
      refine tw_getR (k := 36) rfl fl_RX11_23 (fun x12 => ?_)
      refine tw_callV (k := 37) (d' := 2) (mc' := 0) (ms' := 0) tw_cU tw_cUi [.ref x12] rfl rfl wv_RX11_107_X8_take mo_X8_take (t := 7) rfl rfl rfl (fun Q9 => K_X8_take Q9 x11 x12) (by omega) (by decide) (by decide) (Nat.le_of_ble_eq_true rfl) (fun u13 => ?_)
      refine tw_aload_n (k := 38) rfl rfl ?_
      refine tw_getR (k := 39) rfl fl_RX11_19 (fun x14 => ?_)
      refine tw_dup (k := 40) rfl rfl ?_
      refine tw_getI (k := 41) rfl fl_RX11_125 (fun x15 => ?_)
      refine tw_iconst (k := 42) (1 : Int32) rfl (by decide) ?_
      refine tw_iadd (k := 43) rfl ?_
      refine tw_putI (k := 44) rfl fl_RX11_125 wf_X11_town_125 (by decide +kernel) ?_
      refine tw_aload_n (k := 45) rfl rfl ?_
      refine tw_getR (k := 46) rfl fl_RX11_32 (fun x16 => ?_)
      refine tw_callV (k := 47) (d' := 1) (mc' := 0) (ms' := 0) tw_cU tw_cUi [] rfl rfl wv_RX11_133_X3_clear mo_X3_clear (t := 3) rfl rfl rfl (fun Q9 => K_X3_clear Q9 x16) (by omega) (by decide) (by decide) (Nat.le_of_ble_eq_true rfl) (fun u17 => ?_)
      refine tw_aload_n (k := 48) rfl rfl ?_
      refine tw_getR (k := 49) rfl fl_RX11_19 (fun x18 => ?_)
      refine tw_getI (k := 50) rfl fl_RX11_125 (fun x19 => ?_)
      exact tw_ireturn (k := 51) rfl rfl (by decide) (by decide)
    · exact tw_throwS (k := 28) (by decide +kernel) rfl rfl rfl rfl rfl tw_RX11_128_130_132 rfl (by omega) (by decide) (by decide) (Nat.le_of_ble_eq_true rfl)
  · exact tw_throwS (k := 18) (by decide +kernel) rfl rfl rfl rfl rfl tw_RX11_118_120_122 rfl (by omega) (by decide) (by decide) (Nat.le_of_ble_eq_true rfl)
def mX11_law : tw_MD := (yX11_law, cX11_law, 1, (some FieldType.int), [(0, .aload_n 0, 1, 1), (1, .getfield 50, 3, 4), (4, .invokevirtual 134, 3, 7), (7, .aload_n 0, 1, 8), (8, .aload_n 0, 1, 9), (9, .getfield 50, 3, 12), (12, .bipush 12, 2, 14), (14, .invokevirtual 135, 3, 17), (17, .putfield 87, 3, 20), (20, .aload_n 0, 1, 21), (21, .getfield 10, 3, 24), (24, .invokevirtual 115, 3, 27), (27, .aload_n 0, 1, 28), (28, .getfield 87, 3, 31), (31, .iconst (-1), 1, 32), (32, .if_icmp .eq 13, 3, 35), (35, .new 118, 3, 38), (38, .dup, 1, 39), (39, .ldc 120, 2, 41), (41, .invokespecial 122, 3, 44), (44, .athrow, 1, 45), (45, .aload_n 0, 1, 46), (46, .new 77, 3, 49), (49, .dup, 1, 50), (50, .aload_n 0, 1, 51), (51, .getfield 50, 3, 54), (54, .invokespecial 136, 3, 57), (57, .putfield 80, 3, 60), (60, .aload_n 0, 1, 61), (61, .getfield 32, 3, 64), (64, .invokevirtual 133, 3, 67), (67, .aload_n 0, 1, 68), (68, .getfield 80, 3, 71), (71, .getfield 139, 3, 74), (74, .ireturn, 1, 75)], [])
theorem mo_X11_law : tw_mok mX11_law 0 := ⟨plainFor_of_name (by decide +kernel), by decide +kernel, by decide +kernel, by decide +kernel, by decide +kernel⟩
theorem dk_X11_law : tw_dk mX11_law := by unfold tw_dk; decide +kernel
theorem fl_RX11_139 : tw_fl RX11 139 0 := Or.inr ⟨"TwinRopes", List.mem_of_getElem? (i := 423) (by decide +kernel)⟩
theorem wf_X11_law_80 : tw_wf mX11_law 80 66 := Or.inl rfl
theorem wi_RX11_136_X0_init_ : tw_wI RX11 136 mX0_init_ := ⟨List.mem_of_getElem? (i := 1226) (by decide +kernel), List.mem_of_getElem? (i := 1227) (by decide +kernel), List.mem_of_getElem? (i := 136) (by decide +kernel), List.mem_of_getElem? (i := 1228) (by decide +kernel)⟩
theorem wf_X11_law_87 : tw_wf mX11_law 87 69 := Or.inl rfl
theorem wu_RX11_135_X7_firstWrong1_1 : tw_wU RX11 135 RX1 "TwinRopes$Text" ⟨"TwinRopes$LawText", "firstWrong", "(I)I"⟩ mX7_firstWrong1 := ⟨List.mem_of_getElem? (i := 1223) (by decide +kernel), List.mem_of_getElem? (i := 881) (by decide +kernel), List.mem_of_getElem? (i := 1225) (by decide +kernel), List.mem_of_getElem? (i := 130) (by decide +kernel), List.mem_of_getElem? (i := 882) (by decide +kernel), List.mem_of_getElem? (i := 1224) (by decide +kernel), List.mem_of_getElem? (i := 879) (by decide +kernel), by decide, by decide⟩
theorem wv_RX11_134_X1_clear : tw_wV RX11 134 mX1_clear := ⟨List.mem_of_getElem? (i := 1219) (by decide +kernel), List.mem_of_getElem? (i := 1220) (by decide +kernel), List.mem_of_getElem? (i := 1221) (by decide +kernel), List.mem_of_getElem? (i := 132) (by decide +kernel), List.mem_of_getElem? (i := 1222) (by decide +kernel)⟩
set_option maxRecDepth 20000 in
theorem K_X11_law {g : tw_Gx} (Q : tw_Rs → tw_Mem → Prop) (a0 : Nat) : tw_Kt g mX11_law 75 6 1626 [.ref a0] Q (f_X11_law g a0 (fun v => Q (.inl (some (.int v)))) (fun E => Q (.inr E))) := by
  refine tw_mkK (L := [some (.ref a0)]) mo_X11_law dk_X11_law rfl (Nat.le_of_ble_eq_true rfl) rfl ?_
  unfold f_X11_law
  refine tw_aload_n (k := 0) rfl rfl ?_
  refine tw_getR (k := 1) rfl fl_RX11_50 (fun x1 => ?_)
  refine tw_callV (k := 2) (d' := 1) (mc' := 0) (ms' := 0) tw_cU tw_cUi [] rfl rfl wv_RX11_134_X1_clear mo_X1_clear (t := 1) rfl rfl rfl (fun Q9 => K_X1_clear Q9 x1) (by omega) (by decide) (by decide) (Nat.le_of_ble_eq_true rfl) (fun u2 => ?_)
  refine tw_aload_n (k := 3) rfl rfl ?_
  refine tw_aload_n (k := 4) rfl rfl ?_
  refine tw_getR (k := 5) rfl fl_RX11_50 (fun x3 => ?_)
  refine tw_bipush (k := 6) (12 : Int32) rfl (by decide) ?_
  refine tw_callU (k := 7) (d' := 74) (mc' := 0) (ms' := 0) tw_cI tw_cIi [.int (12 : Int32)] rfl rfl (t := 1) rfl wu_RX11_135_X7_firstWrong1_1 mo_X7_firstWrong1 (by decide +kernel) rfl (fun Q9 => K_X7_firstWrong1 Q9 x3 (12 : Int32)) (by omega) (by decide) (by decide) (Nat.le_of_ble_eq_true rfl) (fun x4 => ?_)
  refine tw_putI (k := 8) rfl fl_RX11_87 wf_X11_law_87 (by decide +kernel) ?_
  refine tw_aload_n (k := 9) rfl rfl ?_
  refine tw_getR (k := 10) rfl fl_RX11_10 (fun x5 => ?_)
  refine tw_callV (k := 11) (d' := 1) (mc' := 0) (ms' := 0) tw_cU tw_cUi [] rfl rfl wv_RX11_115_X6_clear mo_X6_clear (t := 6) rfl rfl rfl (fun Q9 => K_X6_clear Q9 x5) (by omega) (by decide) (by decide) (Nat.le_of_ble_eq_true rfl) (fun u6 => ?_)
  refine tw_aload_n (k := 12) rfl rfl ?_
  refine tw_getI (k := 13) rfl fl_RX11_87 (fun x7 => ?_)
  refine tw_iconst (k := 14) (-1 : Int32) rfl (by decide) ?_
  refine tw_icmp_eq (k := 15) 45 rfl (by decide) ?_ ?_
  · refine tw_aload_n (k := 21) rfl rfl ?_
    refine tw_new (k := 22) 0 rfl rfl kcl_RX11_77 (by decide) (by decide) (fun b8 => ?_)
    refine tw_dup (k := 23) rfl rfl ?_
    refine tw_aload_n (k := 24) rfl rfl ?_
    refine tw_getR (k := 25) rfl fl_RX11_50 (fun x9 => ?_)
    refine tw_callI (k := 26) (d' := 3) (mc' := 5) (ms' := 1620) [.ref x9] rfl rfl wi_RX11_136_X0_init_ mo_X0_init_ rfl rfl rfl (fun Q9 => K_X0_init_ Q9 b8 x9) (by omega) (by decide) (by decide) (Nat.le_of_ble_eq_true rfl) ?_
    refine tw_putR (k := 27) (ty := (.object "TwinRopes$Law")) rfl fl_RX11_80 wf_X11_law_80 (by decide +kernel) rfl rfl ?_
    refine tw_aload_n (k := 28) rfl rfl ?_
    refine tw_getR (k := 29) rfl fl_RX11_32 (fun x11 => ?_)
    refine tw_callV (k := 30) (d' := 1) (mc' := 0) (ms' := 0) tw_cU tw_cUi [] rfl rfl wv_RX11_133_X3_clear mo_X3_clear (t := 3) rfl rfl rfl (fun Q9 => K_X3_clear Q9 x11) (by omega) (by decide) (by decide) (Nat.le_of_ble_eq_true rfl) (fun u12 => ?_)
    refine tw_aload_n (k := 31) rfl rfl ?_
    refine tw_getR (k := 32) rfl fl_RX11_80 (fun x13 => ?_)
    refine tw_getI (k := 33) rfl fl_RX11_139 (fun x14 => ?_)
    exact tw_ireturn (k := 34) rfl rfl (by decide) (by decide)
  · exact tw_throwS (k := 16) (by decide +kernel) rfl rfl rfl rfl rfl tw_RX11_118_120_122 rfl (by omega) (by decide) (by decide) (Nat.le_of_ble_eq_true rfl)
def mX11_fault : tw_MD := (yX11_fault, cX11_fault, 1, (some FieldType.int), [(0, .aload_n 0, 1, 1), (1, .getfield 87, 3, 4), (4, .ireturn, 1, 5)], [])
theorem mo_X11_fault : tw_mok mX11_fault 0 := ⟨plainFor_of_name (by decide +kernel), by decide +kernel, by decide +kernel, by decide +kernel, by decide +kernel⟩
theorem dk_X11_fault : tw_dk mX11_fault := by unfold tw_dk; decide +kernel
set_option maxRecDepth 20000 in
theorem K_X11_fault {g : tw_Gx} (Q : tw_Rs → tw_Mem → Prop) (a0 : Nat) : tw_Kt g mX11_fault 1 0 0 [.ref a0] Q (f_X11_fault a0 (fun v => Q (.inl (some (.int v))))) := by
  refine tw_mkK (L := [some (.ref a0)]) mo_X11_fault dk_X11_fault rfl (Nat.le_of_ble_eq_true rfl) rfl ?_
  unfold f_X11_fault
  refine tw_aload_n (k := 0) rfl rfl ?_
  refine tw_getI (k := 1) rfl fl_RX11_87 (fun x1 => ?_)
  exact tw_ireturn (k := 2) rfl rfl (by decide) (by decide)
def mX11_needPerson : tw_MD := (yX11_needPerson, cX11_needPerson, 2, none, [(0, .aload_n 0, 1, 1), (1, .getfield 19, 3, 4), (4, .iload_n 1, 1, 5), (5, .invokevirtual 423, 3, 8), (8, .ifCond .ne 14, 3, 11), (11, .new 242, 3, 14), (14, .dup, 1, 15), (15, .ldc_w 426, 3, 18), (18, .invokespecial 246, 3, 21), (21, .athrow, 1, 22), (22, .return_, 1, 23)], [])
theorem mo_X11_needPerson : tw_mok mX11_needPerson 1 := ⟨plainFor_of_name (by decide +kernel), by decide +kernel, by decide +kernel, by decide +kernel, by decide +kernel⟩
theorem dk_X11_needPerson : tw_dk mX11_needPerson := by unfold tw_dk; decide +kernel
theorem tw_at_RX11_246 : ∀ w ∈ vx_atS RX11 246 "java/lang/IndexOutOfBoundsException" ["java/lang/RuntimeException", "java/lang/Exception"], w ∈ lw_tbl ∧ tw_mv w = true ∧ vx_ot w = true := fun w hw =>
  have h := (by decide +kernel : ∀ w ∈ vx_atS RX11 246 "java/lang/IndexOutOfBoundsException" ["java/lang/RuntimeException", "java/lang/Exception"], w ∈ tw_exw ∧ tw_mv w = true ∧ vx_ot w = true) w hw
  ⟨tw_exw_in w h.1, h.2⟩
theorem tw_RX11_242_426_246 : tw_tw RX11 242 426 246 "java/lang/IndexOutOfBoundsException" "there is no such person" := ⟨List.mem_of_getElem? (i := 1255) (by decide +kernel), List.mem_of_getElem? (i := 149) (by decide +kernel), List.mem_of_getElem? (i := 1264) (by decide +kernel), tw_at_RX11_246⟩
theorem wv_RX11_423_X8_has : tw_wV RX11 423 mX8_has := ⟨List.mem_of_getElem? (i := 1254) (by decide +kernel), List.mem_of_getElem? (i := 532) (by decide +kernel), List.mem_of_getElem? (i := 533) (by decide +kernel), List.mem_of_getElem? (i := 126) (by decide +kernel), List.mem_of_getElem? (i := 534) (by decide +kernel)⟩
set_option maxRecDepth 20000 in
theorem K_X11_needPerson {g : tw_Gx} (Q : tw_Rs → tw_Mem → Prop) (a0 : Nat) (a1 : Int32) : tw_Kt g mX11_needPerson 6 1 6 [.ref a0, .int a1] Q (f_X11_needPerson a0 a1 (fun v => Q (.inl none)) (fun E => Q (.inr E))) := by
  refine tw_mkK (L := [some (.ref a0), some (.int a1)]) mo_X11_needPerson dk_X11_needPerson rfl (Nat.le_of_ble_eq_true rfl) rfl ?_
  unfold f_X11_needPerson
  refine tw_aload_n (k := 0) rfl rfl ?_
  refine tw_getR (k := 1) rfl fl_RX11_19 (fun x1 => ?_)
  refine tw_iload_n (k := 2) rfl rfl ?_
  refine tw_callV (k := 3) (d' := 1) (mc' := 0) (ms' := 0) tw_cI tw_cIi [.int a1] rfl rfl wv_RX11_423_X8_has mo_X8_has (t := 7) rfl rfl rfl (fun Q9 => K_X8_has Q9 x1 a1) (by omega) (by decide) (by decide) (Nat.le_of_ble_eq_true rfl) (fun x2 => ?_)
  refine tw_if_ne (k := 4) 22 rfl (by decide) ?_ ?_
  · exact tw_return (k := 10) rfl rfl (by decide) (by decide)
  · exact tw_throwSW (k := 5) (by decide +kernel) rfl rfl rfl rfl rfl tw_RX11_242_426_246 rfl (by omega) (by decide) (by decide) (Nat.le_of_ble_eq_true rfl)
def mX11_person : tw_MD := (yX11_person, cX11_person, 3, (some FieldType.int), [(0, .aload_n 0, 1, 1), (1, .iload_n 1, 1, 2), (2, .invokevirtual 142, 3, 5), (5, .iload_n 2, 1, 6), (6, .tableswitch 157 0 9 #[54, 63, 72, 81, 98, 107, 116, 125, 137, 146], 54, 60), (60, .aload_n 0, 1, 61), (61, .getfield 19, 3, 64), (64, .iload_n 1, 1, 65), (65, .invokevirtual 145, 3, 68), (68, .ireturn, 1, 69), (69, .aload_n 0, 1, 70), (70, .getfield 19, 3, 73), (73, .iload_n 1, 1, 74), (74, .invokevirtual 148, 3, 77), (77, .ireturn, 1, 78), (78, .aload_n 0, 1, 79), (79, .getfield 19, 3, 82), (82, .iload_n 1, 1, 83), (83, .invokevirtual 151, 3, 86), (86, .ireturn, 1, 87), (87, .aload_n 0, 1, 88), (88, .getfield 19, 3, 91), (91, .iload_n 1, 1, 92), (92, .invokevirtual 154, 3, 95), (95, .ifCond .eq 7, 3, 98), (98, .iconst 1, 1, 99), (99, .goto 4, 3, 102), (102, .iconst 0, 1, 103), (103, .ireturn, 1, 104), (104, .aload_n 0, 1, 105), (105, .getfield 19, 3, 108), (108, .iload_n 1, 1, 109), (109, .invokevirtual 157, 3, 112), (112, .ireturn, 1, 113), (113, .aload_n 0, 1, 114), (114, .getfield 19, 3, 117), (117, .iload_n 1, 1, 118), (118, .invokevirtual 160, 3, 121), (121, .ireturn, 1, 122), (122, .aload_n 0, 1, 123), (123, .getfield 19, 3, 126), (126, .iload_n 1, 1, 127), (127, .invokevirtual 163, 3, 130), (130, .ireturn, 1, 131), (131, .aload_n 0, 1, 132), (132, .getfield 19, 3, 135), (135, .getfield 166, 3, 138), (138, .iload_n 1, 1, 139), (139, .invokevirtual 170, 3, 142), (142, .ireturn, 1, 143), (143, .aload_n 0, 1, 144), (144, .getfield 19, 3, 147), (147, .iload_n 1, 1, 148), (148, .invokevirtual 175, 3, 151), (151, .ireturn, 1, 152), (152, .aload_n 0, 1, 153), (153, .getfield 19, 3, 156), (156, .iload_n 1, 1, 157), (157, .bipush 9, 2, 159), (159, .invokevirtual 178, 3, 162), (162, .ireturn, 1, 163), (163, .new 182, 3, 166), (166, .dup, 1, 167), (167, .ldc 184, 2, 169), (169, .invokespecial 186, 3, 172), (172, .athrow, 1, 173)], [])
theorem mo_X11_person : tw_mok mX11_person 2 := ⟨plainFor_of_name (by decide +kernel), by decide +kernel, by decide +kernel, by decide +kernel, by decide +kernel⟩
theorem dk_X11_person : tw_dk mX11_person := by unfold tw_dk; decide +kernel
theorem tw_at_RX11_186 : ∀ w ∈ tw_atX RX11 186 "java/util/NoSuchElementException" 13 prog_35_method_4_code ["java/lang/RuntimeException", "java/lang/Exception"], w ∈ lw_tbl ∧ tw_mv w = true ∧ vx_ot w = true := fun w hw =>
  have h := (by decide +kernel : ∀ w ∈ tw_atX RX11 186 "java/util/NoSuchElementException" 13 prog_35_method_4_code ["java/lang/RuntimeException", "java/lang/Exception"], w ∈ tw_exw ∧ tw_mv w = true ∧ vx_ot w = true) w hw
  ⟨tw_exw_in w h.1, h.2⟩
theorem wv_RX11_145_X8_hauntOf : tw_wV RX11 145 mX8_hauntOf := ⟨List.mem_of_getElem? (i := 1271) (by decide +kernel), List.mem_of_getElem? (i := 567) (by decide +kernel), List.mem_of_getElem? (i := 568) (by decide +kernel), List.mem_of_getElem? (i := 126) (by decide +kernel), List.mem_of_getElem? (i := 569) (by decide +kernel)⟩
theorem wv_RX11_148_X8_roamsOf : tw_wV RX11 148 mX8_roamsOf := ⟨List.mem_of_getElem? (i := 1272) (by decide +kernel), List.mem_of_getElem? (i := 808) (by decide +kernel), List.mem_of_getElem? (i := 809) (by decide +kernel), List.mem_of_getElem? (i := 126) (by decide +kernel), List.mem_of_getElem? (i := 810) (by decide +kernel)⟩
theorem wv_RX11_151_X8_payOf : tw_wV RX11 151 mX8_payOf := ⟨List.mem_of_getElem? (i := 1273) (by decide +kernel), List.mem_of_getElem? (i := 726) (by decide +kernel), List.mem_of_getElem? (i := 727) (by decide +kernel), List.mem_of_getElem? (i := 126) (by decide +kernel), List.mem_of_getElem? (i := 728) (by decide +kernel)⟩
theorem wv_RX11_154_X8_isSworn : tw_wV RX11 154 mX8_isSworn := ⟨List.mem_of_getElem? (i := 1274) (by decide +kernel), List.mem_of_getElem? (i := 551) (by decide +kernel), List.mem_of_getElem? (i := 552) (by decide +kernel), List.mem_of_getElem? (i := 126) (by decide +kernel), List.mem_of_getElem? (i := 553) (by decide +kernel)⟩
theorem wv_RX11_157_X8_busyHours : tw_wV RX11 157 mX8_busyHours := ⟨List.mem_of_getElem? (i := 1275) (by decide +kernel), List.mem_of_getElem? (i := 765) (by decide +kernel), List.mem_of_getElem? (i := 766) (by decide +kernel), List.mem_of_getElem? (i := 126) (by decide +kernel), List.mem_of_getElem? (i := 767) (by decide +kernel)⟩
theorem wv_RX11_160_X8_dueOf : tw_wV RX11 160 mX8_dueOf := ⟨List.mem_of_getElem? (i := 1276) (by decide +kernel), List.mem_of_getElem? (i := 761) (by decide +kernel), List.mem_of_getElem? (i := 762) (by decide +kernel), List.mem_of_getElem? (i := 126) (by decide +kernel), List.mem_of_getElem? (i := 763) (by decide +kernel)⟩
theorem wv_RX11_163_X8_keptFrom : tw_wV RX11 163 mX8_keptFrom := ⟨List.mem_of_getElem? (i := 1277) (by decide +kernel), List.mem_of_getElem? (i := 1278) (by decide +kernel), List.mem_of_getElem? (i := 1279) (by decide +kernel), List.mem_of_getElem? (i := 126) (by decide +kernel), List.mem_of_getElem? (i := 1280) (by decide +kernel)⟩
theorem fl_RX11_166 : tw_fl RX11 166 45 := Or.inr ⟨"TwinRopes", List.mem_of_getElem? (i := 208) (by decide +kernel)⟩
theorem wv_RX11_170_X2_shareOf : tw_wV RX11 170 mX2_shareOf := ⟨List.mem_of_getElem? (i := 1281) (by decide +kernel), List.mem_of_getElem? (i := 1282) (by decide +kernel), List.mem_of_getElem? (i := 1283) (by decide +kernel), List.mem_of_getElem? (i := 127) (by decide +kernel), List.mem_of_getElem? (i := 1284) (by decide +kernel)⟩
theorem wv_RX11_175_X8_nearBits : tw_wV RX11 175 mX8_nearBits := ⟨List.mem_of_getElem? (i := 1300) (by decide +kernel), List.mem_of_getElem? (i := 1301) (by decide +kernel), List.mem_of_getElem? (i := 1302) (by decide +kernel), List.mem_of_getElem? (i := 126) (by decide +kernel), List.mem_of_getElem? (i := 1303) (by decide +kernel)⟩
theorem wv_RX11_178_X8_guessedBits : tw_wV RX11 178 mX8_guessedBits := ⟨List.mem_of_getElem? (i := 1304) (by decide +kernel), List.mem_of_getElem? (i := 635) (by decide +kernel), List.mem_of_getElem? (i := 636) (by decide +kernel), List.mem_of_getElem? (i := 126) (by decide +kernel), List.mem_of_getElem? (i := 637) (by decide +kernel)⟩
theorem tw_RX11_182_184_186 : tw_twX RX11 182 184 186 "java/util/NoSuchElementException" "there is no such thing of a person" 13 prog_35_method_4_code := ⟨List.mem_of_getElem? (i := 1305) (by decide +kernel), List.mem_of_getElem? (i := 151) (by decide +kernel), List.mem_of_getElem? (i := 1314) (by decide +kernel), tw_at_RX11_186⟩
theorem wv_RX11_142_X11_needPerson : tw_wV RX11 142 mX11_needPerson := ⟨List.mem_of_getElem? (i := 1250) (by decide +kernel), List.mem_of_getElem? (i := 1252) (by decide +kernel), List.mem_of_getElem? (i := 26) (by decide +kernel), List.mem_of_getElem? (i := 124) (by decide +kernel), List.mem_of_getElem? (i := 1253) (by decide +kernel)⟩
set_option maxRecDepth 20000 in
theorem K_X11_person {g : tw_Gx} (Q : tw_Rs → tw_Mem → Prop) (a0 : Nat) (a1 : Int32) (a2 : Int32) : tw_Kt g mX11_person 7 2 12 [.ref a0, .int a1, .int a2] Q (f_X11_person a0 a1 a2 (fun v => Q (.inl (some (.int v)))) (fun E => Q (.inr E))) := by
  refine tw_mkK (L := [some (.ref a0), some (.int a1), some (.int a2)]) mo_X11_person dk_X11_person rfl (Nat.le_of_ble_eq_true rfl) rfl ?_
  unfold f_X11_person
  refine tw_aload_n (k := 0) rfl rfl ?_
  refine tw_iload_n (k := 1) rfl rfl ?_
  refine tw_callVX (k := 2) (d' := 6) (mc' := 1) (ms' := 6) tw_cU tw_cUi [.int a1] rfl rfl wv_RX11_142_X11_needPerson mo_X11_needPerson (t := 10) rfl rfl rfl (fun Q9 => K_X11_needPerson Q9 a0 a1) (by omega) (by decide) (by decide) (Nat.le_of_ble_eq_true rfl) (fun u1 => ?_) (fun E => tw_out rfl (by decide) (by decide))
  refine tw_iload_n (k := 3) rfl rfl ?_
  refine tw_case ?_ (fun c23 => ?_)
  · refine tw_switch (k := 4) 60 rfl (by decide) (by decide) ?_
    refine tw_aload_n (k := 5) rfl rfl ?_
    refine tw_getR (k := 6) rfl fl_RX11_19 (fun x2 => ?_)
    refine tw_iload_n (k := 7) rfl rfl ?_
    refine tw_callV (k := 8) (d' := 2) (mc' := 0) (ms' := 0) tw_cI tw_cIi [.int a1] rfl rfl wv_RX11_145_X8_hauntOf mo_X8_hauntOf (t := 7) rfl rfl rfl (fun Q9 => K_X8_hauntOf Q9 x2 a1) (by omega) (by decide) (by decide) (Nat.le_of_ble_eq_true rfl) (fun x3 => ?_)
    exact tw_ireturn (k := 9) rfl rfl (by decide) (by decide)
  refine tw_case ?_ (fun c24 => ?_)
  · refine tw_switch (k := 4) 69 rfl (by decide) (by decide) ?_
    refine tw_aload_n (k := 10) rfl rfl ?_
    refine tw_getR (k := 11) rfl fl_RX11_19 (fun x4 => ?_)
    refine tw_iload_n (k := 12) rfl rfl ?_
    refine tw_callV (k := 13) (d' := 2) (mc' := 0) (ms' := 0) tw_cI tw_cIi [.int a1] rfl rfl wv_RX11_148_X8_roamsOf mo_X8_roamsOf (t := 7) rfl rfl rfl (fun Q9 => K_X8_roamsOf Q9 x4 a1) (by omega) (by decide) (by decide) (Nat.le_of_ble_eq_true rfl) (fun x5 => ?_)
    exact tw_ireturn (k := 14) rfl rfl (by decide) (by decide)
  refine tw_case ?_ (fun c25 => ?_)
  · refine tw_switch (k := 4) 78 rfl (by decide) (by decide) ?_
    refine tw_aload_n (k := 15) rfl rfl ?_
    refine tw_getR (k := 16) rfl fl_RX11_19 (fun x6 => ?_)
    refine tw_iload_n (k := 17) rfl rfl ?_
    refine tw_callV (k := 18) (d' := 2) (mc' := 0) (ms' := 0) tw_cI tw_cIi [.int a1] rfl rfl wv_RX11_151_X8_payOf mo_X8_payOf (t := 7) rfl rfl rfl (fun Q9 => K_X8_payOf Q9 x6 a1) (by omega) (by decide) (by decide) (Nat.le_of_ble_eq_true rfl) (fun x7 => ?_)
    exact tw_ireturn (k := 19) rfl rfl (by decide) (by decide)
  refine tw_case ?_ (fun c26 => ?_)
  · refine tw_switch (k := 4) 87 rfl (by decide) (by decide) ?_
    refine tw_aload_n (k := 20) rfl rfl ?_
    refine tw_getR (k := 21) rfl fl_RX11_19 (fun x8 => ?_)
    refine tw_iload_n (k := 22) rfl rfl ?_
    refine tw_callV (k := 23) (d' := 2) (mc' := 0) (ms' := 0) tw_cI tw_cIi [.int a1] rfl rfl wv_RX11_154_X8_isSworn mo_X8_isSworn (t := 7) rfl rfl rfl (fun Q9 => K_X8_isSworn Q9 x8 a1) (by omega) (by decide) (by decide) (Nat.le_of_ble_eq_true rfl) (fun x9 => ?_)
    refine tw_if_eq (k := 24) 102 rfl (by decide) ?_ ?_
    · refine tw_iconst (k := 27) (0 : Int32) rfl (by decide) ?_
      exact tw_ireturn (k := 28) rfl rfl (by decide) (by decide)
    · refine tw_iconst (k := 25) (1 : Int32) rfl (by decide) ?_
      refine tw_goto (k := 26) 103 rfl (by decide) ?_
      exact tw_ireturn (k := 28) rfl rfl (by decide) (by decide)
  refine tw_case ?_ (fun c27 => ?_)
  · refine tw_switch (k := 4) 104 rfl (by decide) (by decide) ?_
    refine tw_aload_n (k := 29) rfl rfl ?_
    refine tw_getR (k := 30) rfl fl_RX11_19 (fun x10 => ?_)
    refine tw_iload_n (k := 31) rfl rfl ?_
    refine tw_callV (k := 32) (d' := 3) (mc' := 0) (ms' := 0) tw_cI tw_cIi [.int a1] rfl rfl wv_RX11_157_X8_busyHours mo_X8_busyHours (t := 7) rfl rfl rfl (fun Q9 => K_X8_busyHours Q9 x10 a1) (by omega) (by decide) (by decide) (Nat.le_of_ble_eq_true rfl) (fun x11 => ?_)
    exact tw_ireturn (k := 33) rfl rfl (by decide) (by decide)
  refine tw_case ?_ (fun c28 => ?_)
  · refine tw_switch (k := 4) 113 rfl (by decide) (by decide) ?_
    refine tw_aload_n (k := 34) rfl rfl ?_
    refine tw_getR (k := 35) rfl fl_RX11_19 (fun x12 => ?_)
    refine tw_iload_n (k := 36) rfl rfl ?_
    refine tw_callV (k := 37) (d' := 4) (mc' := 0) (ms' := 0) tw_cI tw_cIi [.int a1] rfl rfl wv_RX11_160_X8_dueOf mo_X8_dueOf (t := 7) rfl rfl rfl (fun Q9 => K_X8_dueOf Q9 x12 a1) (by omega) (by decide) (by decide) (Nat.le_of_ble_eq_true rfl) (fun x13 => ?_)
    exact tw_ireturn (k := 38) rfl rfl (by decide) (by decide)
  refine tw_case ?_ (fun c29 => ?_)
  · refine tw_switch (k := 4) 122 rfl (by decide) (by decide) ?_
    refine tw_aload_n (k := 39) rfl rfl ?_
    refine tw_getR (k := 40) rfl fl_RX11_19 (fun x14 => ?_)
    refine tw_iload_n (k := 41) rfl rfl ?_
    refine tw_callV (k := 42) (d' := 3) (mc' := 0) (ms' := 0) tw_cI tw_cIi [.int a1] rfl rfl wv_RX11_163_X8_keptFrom mo_X8_keptFrom (t := 7) rfl rfl rfl (fun Q9 => K_X8_keptFrom Q9 x14 a1) (by omega) (by decide) (by decide) (Nat.le_of_ble_eq_true rfl) (fun x15 => ?_)
    exact tw_ireturn (k := 43) rfl rfl (by decide) (by decide)
  refine tw_case ?_ (fun c30 => ?_)
  · refine tw_switch (k := 4) 131 rfl (by decide) (by decide) ?_
    refine tw_aload_n (k := 44) rfl rfl ?_
    refine tw_getR (k := 45) rfl fl_RX11_19 (fun x16 => ?_)
    refine tw_getR (k := 46) rfl fl_RX11_166 (fun x17 => ?_)
    refine tw_iload_n (k := 47) rfl rfl ?_
    refine tw_callV (k := 48) (d' := 5) (mc' := 0) (ms' := 0) tw_cI tw_cIi [.int a1] rfl rfl wv_RX11_170_X2_shareOf mo_X2_shareOf (t := 2) rfl rfl rfl (fun Q9 => K_X2_shareOf Q9 x17 a1) (by omega) (by decide) (by decide) (Nat.le_of_ble_eq_true rfl) (fun x18 => ?_)
    exact tw_ireturn (k := 49) rfl rfl (by decide) (by decide)
  refine tw_case ?_ (fun c31 => ?_)
  · refine tw_switch (k := 4) 143 rfl (by decide) (by decide) ?_
    refine tw_aload_n (k := 50) rfl rfl ?_
    refine tw_getR (k := 51) rfl fl_RX11_19 (fun x19 => ?_)
    refine tw_iload_n (k := 52) rfl rfl ?_
    refine tw_callV (k := 53) (d' := 4) (mc' := 0) (ms' := 0) tw_cI tw_cIi [.int a1] rfl rfl wv_RX11_175_X8_nearBits mo_X8_nearBits (t := 7) rfl rfl rfl (fun Q9 => K_X8_nearBits Q9 x19 a1) (by omega) (by decide) (by decide) (Nat.le_of_ble_eq_true rfl) (fun x20 => ?_)
    exact tw_ireturn (k := 54) rfl rfl (by decide) (by decide)
  refine tw_case ?_ (fun c32 => ?_)
  · refine tw_switch (k := 4) 152 rfl (by decide) (by decide) ?_
    refine tw_aload_n (k := 55) rfl rfl ?_
    refine tw_getR (k := 56) rfl fl_RX11_19 (fun x21 => ?_)
    refine tw_iload_n (k := 57) rfl rfl ?_
    refine tw_bipush (k := 58) (9 : Int32) rfl (by decide) ?_
    refine tw_callV (k := 59) (d' := 3) (mc' := 0) (ms' := 0) tw_cI tw_cIi [.int a1, .int (9 : Int32)] rfl rfl wv_RX11_178_X8_guessedBits mo_X8_guessedBits (t := 7) rfl rfl rfl (fun Q9 => K_X8_guessedBits Q9 x21 a1 (9 : Int32)) (by omega) (by decide) (by decide) (Nat.le_of_ble_eq_true rfl) (fun x22 => ?_)
    exact tw_ireturn (k := 60) rfl rfl (by decide) (by decide)
  refine tw_switch (k := 4) 163 rfl (by decide) (tw_dfl (by decide) (fun v e1 e2 e3 => ?_)) ?_
  · have e4 : v = 0 ∨ v = 1 ∨ v = 2 ∨ v = 3 ∨ v = 4 ∨ v = 5 ∨ v = 6 ∨ v = 7 ∨ v = 8 ∨ v = 9 := by omega
    rcases e4 with rfl | rfl | rfl | rfl | rfl | rfl | rfl | rfl | rfl | rfl
    · exact c23 (e3.trans (by decide))
    · exact c24 (e3.trans (by decide))
    · exact c25 (e3.trans (by decide))
    · exact c26 (e3.trans (by decide))
    · exact c27 (e3.trans (by decide))
    · exact c28 (e3.trans (by decide))
    · exact c29 (e3.trans (by decide))
    · exact c30 (e3.trans (by decide))
    · exact c31 (e3.trans (by decide))
    · exact c32 (e3.trans (by decide))
  · exact tw_throwX (k := 61) tw_nse0 tw_nse1 tw_nse2 tw_nse5 (by decide +kernel) rfl rfl rfl rfl rfl tw_RX11_182_184_186 rfl (by omega) (by decide) (by decide) (Nat.le_of_ble_eq_true rfl)
def mX11_needTwo : tw_MD := (yX11_needTwo, cX11_needTwo, 3, none, [(0, .aload_n 0, 1, 1), (1, .iload_n 1, 1, 2), (2, .invokevirtual 142, 3, 5), (5, .aload_n 0, 1, 6), (6, .iload_n 2, 1, 7), (7, .invokevirtual 142, 3, 10), (10, .iload_n 1, 1, 11), (11, .iload_n 2, 1, 12), (12, .if_icmp .ne 14, 3, 15), (15, .new 118, 3, 18), (18, .dup, 1, 19), (19, .ldc_w 428, 3, 22), (22, .invokespecial 122, 3, 25), (25, .athrow, 1, 26), (26, .return_, 1, 27)], [])
theorem mo_X11_needTwo : tw_mok mX11_needTwo 2 := ⟨plainFor_of_name (by decide +kernel), by decide +kernel, by decide +kernel, by decide +kernel, by decide +kernel⟩
theorem dk_X11_needTwo : tw_dk mX11_needTwo := by unfold tw_dk; decide +kernel
theorem tw_RX11_118_428_122 : tw_tw RX11 118 428 122 "java/lang/IllegalArgumentException" "both are one" := ⟨List.mem_of_getElem? (i := 1126) (by decide +kernel), List.mem_of_getElem? (i := 146) (by decide +kernel), List.mem_of_getElem? (i := 1332) (by decide +kernel), tw_at_RX11_122⟩
set_option maxRecDepth 20000 in
theorem K_X11_needTwo {g : tw_Gx} (Q : tw_Rs → tw_Mem → Prop) (a0 : Nat) (a1 : Int32) (a2 : Int32) : tw_Kt g mX11_needTwo 7 3 18 [.ref a0, .int a1, .int a2] Q (f_X11_needTwo a0 a1 a2 (fun v => Q (.inl none)) (fun E => Q (.inr E))) := by
  refine tw_mkK (L := [some (.ref a0), some (.int a1), some (.int a2)]) mo_X11_needTwo dk_X11_needTwo rfl (Nat.le_of_ble_eq_true rfl) rfl ?_
  unfold f_X11_needTwo
  refine tw_aload_n (k := 0) rfl rfl ?_
  refine tw_iload_n (k := 1) rfl rfl ?_
  refine tw_callVX (k := 2) (d' := 6) (mc' := 1) (ms' := 6) tw_cU tw_cUi [.int a1] rfl rfl wv_RX11_142_X11_needPerson mo_X11_needPerson (t := 10) rfl rfl rfl (fun Q9 => K_X11_needPerson Q9 a0 a1) (by omega) (by decide) (by decide) (Nat.le_of_ble_eq_true rfl) (fun u1 => ?_) (fun E => tw_out rfl (by decide) (by decide))
  refine tw_aload_n (k := 3) rfl rfl ?_
  refine tw_iload_n (k := 4) rfl rfl ?_
  refine tw_callVX (k := 5) (d' := 6) (mc' := 1) (ms' := 6) tw_cU tw_cUi [.int a2] rfl rfl wv_RX11_142_X11_needPerson mo_X11_needPerson (t := 10) rfl rfl rfl (fun Q9 => K_X11_needPerson Q9 a0 a2) (by omega) (by decide) (by decide) (Nat.le_of_ble_eq_true rfl) (fun u2 => ?_) (fun E => tw_out rfl (by decide) (by decide))
  refine tw_iload_n (k := 6) rfl rfl ?_
  refine tw_iload_n (k := 7) rfl rfl ?_
  refine tw_icmp_ne (k := 8) 26 rfl (by decide) ?_ ?_
  · exact tw_return (k := 14) rfl rfl (by decide) (by decide)
  · exact tw_throwSW (k := 9) (by decide +kernel) rfl rfl rfl rfl rfl tw_RX11_118_428_122 rfl (by omega) (by decide) (by decide) (Nat.le_of_ble_eq_true rfl)
def mX11_guessed : tw_MD := (yX11_guessed, cX11_guessed, 3, (some FieldType.int), [(0, .aload_n 0, 1, 1), (1, .iload_n 1, 1, 2), (2, .iload_n 2, 1, 3), (3, .invokevirtual 187, 3, 6), (6, .aload_n 0, 1, 7), (7, .getfield 19, 3, 10), (10, .iload_n 1, 1, 11), (11, .iload_n 2, 1, 12), (12, .invokevirtual 191, 3, 15), (15, .ireturn, 1, 16)], [])
theorem mo_X11_guessed : tw_mok mX11_guessed 2 := ⟨plainFor_of_name (by decide +kernel), by decide +kernel, by decide +kernel, by decide +kernel, by decide +kernel⟩
theorem dk_X11_guessed : tw_dk mX11_guessed := by unfold tw_dk; decide +kernel
theorem wv_RX11_191_X8_guessOf : tw_wV RX11 191 mX8_guessOf := ⟨List.mem_of_getElem? (i := 1333) (by decide +kernel), List.mem_of_getElem? (i := 544) (by decide +kernel), List.mem_of_getElem? (i := 545) (by decide +kernel), List.mem_of_getElem? (i := 126) (by decide +kernel), List.mem_of_getElem? (i := 546) (by decide +kernel)⟩
theorem wv_RX11_187_X11_needTwo : tw_wV RX11 187 mX11_needTwo := ⟨List.mem_of_getElem? (i := 1328) (by decide +kernel), List.mem_of_getElem? (i := 1330) (by decide +kernel), List.mem_of_getElem? (i := 29) (by decide +kernel), List.mem_of_getElem? (i := 124) (by decide +kernel), List.mem_of_getElem? (i := 1331) (by decide +kernel)⟩
set_option maxRecDepth 20000 in
theorem K_X11_guessed {g : tw_Gx} (Q : tw_Rs → tw_Mem → Prop) (a0 : Nat) (a1 : Int32) (a2 : Int32) : tw_Kt g mX11_guessed 8 3 18 [.ref a0, .int a1, .int a2] Q (f_X11_guessed a0 a1 a2 (fun v => Q (.inl (some (.int v)))) (fun E => Q (.inr E))) := by
  refine tw_mkK (L := [some (.ref a0), some (.int a1), some (.int a2)]) mo_X11_guessed dk_X11_guessed rfl (Nat.le_of_ble_eq_true rfl) rfl ?_
  unfold f_X11_guessed
  refine tw_aload_n (k := 0) rfl rfl ?_
  refine tw_iload_n (k := 1) rfl rfl ?_
  refine tw_iload_n (k := 2) rfl rfl ?_
  refine tw_callVX (k := 3) (d' := 7) (mc' := 3) (ms' := 18) tw_cU tw_cUi [.int a1, .int a2] rfl rfl wv_RX11_187_X11_needTwo mo_X11_needTwo (t := 10) rfl rfl rfl (fun Q9 => K_X11_needTwo Q9 a0 a1 a2) (by omega) (by decide) (by decide) (Nat.le_of_ble_eq_true rfl) (fun u1 => ?_) (fun E => tw_out rfl (by decide) (by decide))
  refine tw_aload_n (k := 4) rfl rfl ?_
  refine tw_getR (k := 5) rfl fl_RX11_19 (fun x2 => ?_)
  refine tw_iload_n (k := 6) rfl rfl ?_
  refine tw_iload_n (k := 7) rfl rfl ?_
  refine tw_callV (k := 8) (d' := 2) (mc' := 0) (ms' := 0) tw_cI tw_cIi [.int a1, .int a2] rfl rfl wv_RX11_191_X8_guessOf mo_X8_guessOf (t := 7) rfl rfl rfl (fun Q9 => K_X8_guessOf Q9 x2 a1 a2) (by omega) (by decide) (by decide) (Nat.le_of_ble_eq_true rfl) (fun x3 => ?_)
  exact tw_ireturn (k := 9) rfl rfl (by decide) (by decide)
def mX11_rung : tw_MD := (yX11_rung, cX11_rung, 3, (some FieldType.int), [(0, .aload_n 0, 1, 1), (1, .iload_n 1, 1, 2), (2, .iload_n 2, 1, 3), (3, .invokevirtual 187, 3, 6), (6, .aload_n 0, 1, 7), (7, .getfield 19, 3, 10), (10, .iload_n 1, 1, 11), (11, .iload_n 2, 1, 12), (12, .invokevirtual 194, 3, 15), (15, .ireturn, 1, 16)], [])
theorem mo_X11_rung : tw_mok mX11_rung 2 := ⟨plainFor_of_name (by decide +kernel), by decide +kernel, by decide +kernel, by decide +kernel, by decide +kernel⟩
theorem dk_X11_rung : tw_dk mX11_rung := by unfold tw_dk; decide +kernel
theorem wv_RX11_194_X8_rungOf : tw_wV RX11 194 mX8_rungOf := ⟨List.mem_of_getElem? (i := 1341) (by decide +kernel), List.mem_of_getElem? (i := 559) (by decide +kernel), List.mem_of_getElem? (i := 560) (by decide +kernel), List.mem_of_getElem? (i := 126) (by decide +kernel), List.mem_of_getElem? (i := 561) (by decide +kernel)⟩
set_option maxRecDepth 20000 in
theorem K_X11_rung {g : tw_Gx} (Q : tw_Rs → tw_Mem → Prop) (a0 : Nat) (a1 : Int32) (a2 : Int32) : tw_Kt g mX11_rung 8 3 18 [.ref a0, .int a1, .int a2] Q (f_X11_rung a0 a1 a2 (fun v => Q (.inl (some (.int v)))) (fun E => Q (.inr E))) := by
  refine tw_mkK (L := [some (.ref a0), some (.int a1), some (.int a2)]) mo_X11_rung dk_X11_rung rfl (Nat.le_of_ble_eq_true rfl) rfl ?_
  unfold f_X11_rung
  refine tw_aload_n (k := 0) rfl rfl ?_
  refine tw_iload_n (k := 1) rfl rfl ?_
  refine tw_iload_n (k := 2) rfl rfl ?_
  refine tw_callVX (k := 3) (d' := 7) (mc' := 3) (ms' := 18) tw_cU tw_cUi [.int a1, .int a2] rfl rfl wv_RX11_187_X11_needTwo mo_X11_needTwo (t := 10) rfl rfl rfl (fun Q9 => K_X11_needTwo Q9 a0 a1 a2) (by omega) (by decide) (by decide) (Nat.le_of_ble_eq_true rfl) (fun u1 => ?_) (fun E => tw_out rfl (by decide) (by decide))
  refine tw_aload_n (k := 4) rfl rfl ?_
  refine tw_getR (k := 5) rfl fl_RX11_19 (fun x2 => ?_)
  refine tw_iload_n (k := 6) rfl rfl ?_
  refine tw_iload_n (k := 7) rfl rfl ?_
  refine tw_callV (k := 8) (d' := 2) (mc' := 0) (ms' := 0) tw_cI tw_cIi [.int a1, .int a2] rfl rfl wv_RX11_194_X8_rungOf mo_X8_rungOf (t := 7) rfl rfl rfl (fun Q9 => K_X8_rungOf Q9 x2 a1 a2) (by omega) (by decide) (by decide) (Nat.le_of_ble_eq_true rfl) (fun x3 => ?_)
  exact tw_ireturn (k := 9) rfl rfl (by decide) (by decide)
def mX11_sounds : tw_MD := (yX11_sounds, cX11_sounds, 3, (some FieldType.int), [(0, .aload_n 0, 1, 1), (1, .iload_n 1, 1, 2), (2, .iload_n 2, 1, 3), (3, .invokevirtual 187, 3, 6), (6, .aload_n 0, 1, 7), (7, .getfield 57, 3, 10), (10, .aload_n 0, 1, 11), (11, .getfield 19, 3, 14), (14, .iload_n 1, 1, 15), (15, .iload_n 2, 1, 16), (16, .invokevirtual 197, 3, 19), (19, .aload_n 0, 1, 20), (20, .getfield 57, 3, 23), (23, .aload_n 0, 1, 24), (24, .getfield 80, 3, 27), (27, .iconst 0, 1, 28), (28, .invokevirtual 201, 3, 31), (31, .ireturn, 1, 32)], [])
theorem mo_X11_sounds : tw_mok mX11_sounds 2 := ⟨plainFor_of_name (by decide +kernel), by decide +kernel, by decide +kernel, by decide +kernel, by decide +kernel⟩
theorem dk_X11_sounds : tw_dk mX11_sounds := by unfold tw_dk; decide +kernel
theorem wv_RX11_201_X10_heardBy : tw_wV RX11 201 mX10_heardBy := ⟨List.mem_of_getElem? (i := 1350) (by decide +kernel), List.mem_of_getElem? (i := 585) (by decide +kernel), List.mem_of_getElem? (i := 586) (by decide +kernel), List.mem_of_getElem? (i := 133) (by decide +kernel), List.mem_of_getElem? (i := 587) (by decide +kernel)⟩
theorem wv_RX11_197_X10_see : tw_wV RX11 197 mX10_see := ⟨List.mem_of_getElem? (i := 1349) (by decide +kernel), List.mem_of_getElem? (i := 540) (by decide +kernel), List.mem_of_getElem? (i := 541) (by decide +kernel), List.mem_of_getElem? (i := 133) (by decide +kernel), List.mem_of_getElem? (i := 542) (by decide +kernel)⟩
set_option maxRecDepth 20000 in
theorem K_X11_sounds {g : tw_Gx} (Q : tw_Rs → tw_Mem → Prop) (a0 : Nat) (a1 : Int32) (a2 : Int32) : tw_Kt g mX11_sounds 8 3 18 [.ref a0, .int a1, .int a2] Q (f_X11_sounds a0 a1 a2 (fun v => Q (.inl (some (.int v)))) (fun E => Q (.inr E))) := by
  refine tw_mkK (L := [some (.ref a0), some (.int a1), some (.int a2)]) mo_X11_sounds dk_X11_sounds rfl (Nat.le_of_ble_eq_true rfl) rfl ?_
  unfold f_X11_sounds
  refine tw_aload_n (k := 0) rfl rfl ?_
  refine tw_iload_n (k := 1) rfl rfl ?_
  refine tw_iload_n (k := 2) rfl rfl ?_
  refine tw_callVX (k := 3) (d' := 7) (mc' := 3) (ms' := 18) tw_cU tw_cUi [.int a1, .int a2] rfl rfl wv_RX11_187_X11_needTwo mo_X11_needTwo (t := 10) rfl rfl rfl (fun Q9 => K_X11_needTwo Q9 a0 a1 a2) (by omega) (by decide) (by decide) (Nat.le_of_ble_eq_true rfl) (fun u1 => ?_) (fun E => tw_out rfl (by decide) (by decide))
  refine tw_aload_n (k := 4) rfl rfl ?_
  refine tw_getR (k := 5) rfl fl_RX11_57 (fun x2 => ?_)
  refine tw_aload_n (k := 6) rfl rfl ?_
  refine tw_getR (k := 7) rfl fl_RX11_19 (fun x3 => ?_)
  refine tw_iload_n (k := 8) rfl rfl ?_
  refine tw_iload_n (k := 9) rfl rfl ?_
  refine tw_callV (k := 10) (d' := 4) (mc' := 0) (ms' := 0) tw_cU tw_cUi [.ref x3, .int a1, .int a2] rfl rfl wv_RX11_197_X10_see mo_X10_see (t := 9) rfl rfl rfl (fun Q9 => K_X10_see Q9 x2 x3 a1 a2) (by omega) (by decide) (by decide) (Nat.le_of_ble_eq_true rfl) (fun u4 => ?_)
  refine tw_aload_n (k := 11) rfl rfl ?_
  refine tw_getR (k := 12) rfl fl_RX11_57 (fun x5 => ?_)
  refine tw_aload_n (k := 13) rfl rfl ?_
  refine tw_getR (k := 14) rfl fl_RX11_80 (fun x6 => ?_)
  refine tw_iconst (k := 15) (0 : Int32) rfl (by decide) ?_
  refine tw_callV (k := 16) (d' := 4) (mc' := 0) (ms' := 0) tw_cI tw_cIi [.ref x6, .int (0 : Int32)] rfl rfl wv_RX11_201_X10_heardBy mo_X10_heardBy (t := 9) rfl rfl rfl (fun Q9 => K_X10_heardBy Q9 x5 x6 (0 : Int32)) (by omega) (by decide) (by decide) (Nat.le_of_ble_eq_true rfl) (fun x7 => ?_)
  exact tw_ireturn (k := 17) rfl rfl (by decide) (by decide)
def mX11_lets : tw_MD := (yX11_lets, cX11_lets, 3, (some FieldType.int), [(0, .aload_n 0, 1, 1), (1, .iload_n 1, 1, 2), (2, .iload_n 2, 1, 3), (3, .invokevirtual 187, 3, 6), (6, .aload_n 0, 1, 7), (7, .getfield 57, 3, 10), (10, .aload_n 0, 1, 11), (11, .getfield 19, 3, 14), (14, .iload_n 1, 1, 15), (15, .iload_n 2, 1, 16), (16, .invokevirtual 197, 3, 19), (19, .aload_n 0, 1, 20), (20, .getfield 80, 3, 23), (23, .iconst 2, 1, 24), (24, .aload_n 0, 1, 25), (25, .getfield 57, 3, 28), (28, .iconst 0, 1, 29), (29, .invokevirtual 205, 3, 32), (32, .ireturn, 1, 33)], [])
theorem mo_X11_lets : tw_mok mX11_lets 2 := ⟨plainFor_of_name (by decide +kernel), by decide +kernel, by decide +kernel, by decide +kernel, by decide +kernel⟩
theorem dk_X11_lets : tw_dk mX11_lets := by unfold tw_dk; decide +kernel
theorem wv_RX11_205_X0_amountFor : tw_wV RX11 205 mX0_amountFor := ⟨List.mem_of_getElem? (i := 1358) (by decide +kernel), List.mem_of_getElem? (i := 589) (by decide +kernel), List.mem_of_getElem? (i := 590) (by decide +kernel), List.mem_of_getElem? (i := 136) (by decide +kernel), List.mem_of_getElem? (i := 591) (by decide +kernel)⟩
set_option maxRecDepth 20000 in
theorem K_X11_lets {g : tw_Gx} (Q : tw_Rs → tw_Mem → Prop) (a0 : Nat) (a1 : Int32) (a2 : Int32) : tw_Kt g mX11_lets 8 3 18 [.ref a0, .int a1, .int a2] Q (f_X11_lets a0 a1 a2 (fun v => Q (.inl (some (.int v)))) (fun E => Q (.inr E))) := by
  refine tw_mkK (L := [some (.ref a0), some (.int a1), some (.int a2)]) mo_X11_lets dk_X11_lets rfl (Nat.le_of_ble_eq_true rfl) rfl ?_
  unfold f_X11_lets
  refine tw_aload_n (k := 0) rfl rfl ?_
  refine tw_iload_n (k := 1) rfl rfl ?_
  refine tw_iload_n (k := 2) rfl rfl ?_
  refine tw_callVX (k := 3) (d' := 7) (mc' := 3) (ms' := 18) tw_cU tw_cUi [.int a1, .int a2] rfl rfl wv_RX11_187_X11_needTwo mo_X11_needTwo (t := 10) rfl rfl rfl (fun Q9 => K_X11_needTwo Q9 a0 a1 a2) (by omega) (by decide) (by decide) (Nat.le_of_ble_eq_true rfl) (fun u1 => ?_) (fun E => tw_out rfl (by decide) (by decide))
  refine tw_aload_n (k := 4) rfl rfl ?_
  refine tw_getR (k := 5) rfl fl_RX11_57 (fun x2 => ?_)
  refine tw_aload_n (k := 6) rfl rfl ?_
  refine tw_getR (k := 7) rfl fl_RX11_19 (fun x3 => ?_)
  refine tw_iload_n (k := 8) rfl rfl ?_
  refine tw_iload_n (k := 9) rfl rfl ?_
  refine tw_callV (k := 10) (d' := 4) (mc' := 0) (ms' := 0) tw_cU tw_cUi [.ref x3, .int a1, .int a2] rfl rfl wv_RX11_197_X10_see mo_X10_see (t := 9) rfl rfl rfl (fun Q9 => K_X10_see Q9 x2 x3 a1 a2) (by omega) (by decide) (by decide) (Nat.le_of_ble_eq_true rfl) (fun u4 => ?_)
  refine tw_aload_n (k := 11) rfl rfl ?_
  refine tw_getR (k := 12) rfl fl_RX11_80 (fun x5 => ?_)
  refine tw_iconst (k := 13) (2 : Int32) rfl (by decide) ?_
  refine tw_aload_n (k := 14) rfl rfl ?_
  refine tw_getR (k := 15) rfl fl_RX11_57 (fun x6 => ?_)
  refine tw_iconst (k := 16) (0 : Int32) rfl (by decide) ?_
  refine tw_callV (k := 17) (d' := 3) (mc' := 0) (ms' := 0) tw_cI tw_cIi [.int (2 : Int32), .ref x6, .int (0 : Int32)] rfl rfl wv_RX11_205_X0_amountFor mo_X0_amountFor (t := 0) rfl rfl rfl (fun Q9 => K_X0_amountFor Q9 x5 (2 : Int32) x6 (0 : Int32)) (by omega) (by decide) (by decide) (Nat.le_of_ble_eq_true rfl) (fun x7 => ?_)
  exact tw_ireturn (k := 18) rfl rfl (by decide) (by decide)
def mX11_both : tw_MD := (yX11_both, cX11_both, 3, (some FieldType.int), [(0, .aload_n 0, 1, 1), (1, .iload_n 1, 1, 2), (2, .iload_n 2, 1, 3), (3, .invokevirtual 187, 3, 6), (6, .aload_n 0, 1, 7), (7, .getfield 19, 3, 10), (10, .iload_n 1, 1, 11), (11, .iload_n 2, 1, 12), (12, .invokevirtual 209, 3, 15), (15, .ireturn, 1, 16)], [])
theorem mo_X11_both : tw_mok mX11_both 2 := ⟨plainFor_of_name (by decide +kernel), by decide +kernel, by decide +kernel, by decide +kernel, by decide +kernel⟩
theorem dk_X11_both : tw_dk mX11_both := by unfold tw_dk; decide +kernel
theorem wv_RX11_209_X8_toneOf : tw_wV RX11 209 mX8_toneOf := ⟨List.mem_of_getElem? (i := 1366) (by decide +kernel), List.mem_of_getElem? (i := 687) (by decide +kernel), List.mem_of_getElem? (i := 688) (by decide +kernel), List.mem_of_getElem? (i := 126) (by decide +kernel), List.mem_of_getElem? (i := 689) (by decide +kernel)⟩
set_option maxRecDepth 20000 in
theorem K_X11_both {g : tw_Gx} (Q : tw_Rs → tw_Mem → Prop) (a0 : Nat) (a1 : Int32) (a2 : Int32) : tw_Kt g mX11_both 8 3 18 [.ref a0, .int a1, .int a2] Q (f_X11_both a0 a1 a2 (fun v => Q (.inl (some (.int v)))) (fun E => Q (.inr E))) := by
  refine tw_mkK (L := [some (.ref a0), some (.int a1), some (.int a2)]) mo_X11_both dk_X11_both rfl (Nat.le_of_ble_eq_true rfl) rfl ?_
  unfold f_X11_both
  refine tw_aload_n (k := 0) rfl rfl ?_
  refine tw_iload_n (k := 1) rfl rfl ?_
  refine tw_iload_n (k := 2) rfl rfl ?_
  refine tw_callVX (k := 3) (d' := 7) (mc' := 3) (ms' := 18) tw_cU tw_cUi [.int a1, .int a2] rfl rfl wv_RX11_187_X11_needTwo mo_X11_needTwo (t := 10) rfl rfl rfl (fun Q9 => K_X11_needTwo Q9 a0 a1 a2) (by omega) (by decide) (by decide) (Nat.le_of_ble_eq_true rfl) (fun u1 => ?_) (fun E => tw_out rfl (by decide) (by decide))
  refine tw_aload_n (k := 4) rfl rfl ?_
  refine tw_getR (k := 5) rfl fl_RX11_19 (fun x2 => ?_)
  refine tw_iload_n (k := 6) rfl rfl ?_
  refine tw_iload_n (k := 7) rfl rfl ?_
  refine tw_callV (k := 8) (d' := 3) (mc' := 0) (ms' := 0) tw_cI tw_cIi [.int a1, .int a2] rfl rfl wv_RX11_209_X8_toneOf mo_X8_toneOf (t := 7) rfl rfl rfl (fun Q9 => K_X8_toneOf Q9 x2 a1 a2) (by omega) (by decide) (by decide) (Nat.le_of_ble_eq_true rfl) (fun x3 => ?_)
  exact tw_ireturn (k := 9) rfl rfl (by decide) (by decide)
def mX11_needLoft : tw_MD := (yX11_needLoft, cX11_needLoft, 1, none, [(0, .iload_n 0, 1, 1), (1, .ifCond .lt 8, 3, 4), (4, .iload_n 0, 1, 5), (5, .iconst 2, 1, 6), (6, .if_icmp .lt 14, 3, 9), (9, .new 242, 3, 12), (12, .dup, 1, 13), (13, .ldc_w 430, 3, 16), (16, .invokespecial 246, 3, 19), (19, .athrow, 1, 20), (20, .return_, 1, 21)], [])
theorem mo_X11_needLoft : tw_mok mX11_needLoft 1 := ⟨plainFor_of_name (by decide +kernel), by decide +kernel, by decide +kernel, by decide +kernel, by decide +kernel⟩
theorem dk_X11_needLoft : tw_dk mX11_needLoft := by unfold tw_dk; decide +kernel
theorem tw_RX11_242_430_246 : tw_tw RX11 242 430 246 "java/lang/IndexOutOfBoundsException" "there is no such loft" := ⟨List.mem_of_getElem? (i := 1255) (by decide +kernel), List.mem_of_getElem? (i := 149) (by decide +kernel), List.mem_of_getElem? (i := 1377) (by decide +kernel), tw_at_RX11_246⟩
set_option maxRecDepth 20000 in
theorem K_X11_needLoft {g : tw_Gx} (Q : tw_Rs → tw_Mem → Prop) (a0 : Int32) : tw_Kt g mX11_needLoft 6 1 6 [.int a0] Q (f_X11_needLoft a0 (fun v => Q (.inl none)) (fun E => Q (.inr E))) := by
  refine tw_mkK (L := [some (.int a0)]) mo_X11_needLoft dk_X11_needLoft rfl (Nat.le_of_ble_eq_true rfl) rfl ?_
  unfold f_X11_needLoft
  refine tw_iload_n (k := 0) rfl rfl ?_
  refine tw_join 9 (fun s2 => [some (.int a0)]) (fun s2 => []) 0 0 (fun s2 => ?_) (fun j1 g1 => ?_)
  · exact tw_throwSW (k := 5) (by decide +kernel) rfl rfl rfl rfl rfl tw_RX11_242_430_246 rfl (by omega) (by decide) (by decide) (Nat.le_of_ble_eq_true rfl)
  · refine tw_if_lt (k := 1) 9 rfl (by decide) ?_ ?_
    · exact g1 ()
    · refine tw_iload_n (k := 2) rfl rfl ?_
      refine tw_iconst (k := 3) (2 : Int32) rfl (by decide) ?_
      refine tw_icmp_lt (k := 4) 20 rfl (by decide) ?_ ?_
      · exact tw_return (k := 10) rfl rfl (by decide) (by decide)
      · exact g1 ()
def mX11_needHour : tw_MD := (yX11_needHour, cX11_needHour, 1, none, [(0, .iload_n 0, 1, 1), (1, .ifCond .lt 9, 3, 4), (4, .iload_n 0, 1, 5), (5, .bipush 12, 2, 7), (7, .if_icmp .lt 14, 3, 10), (10, .new 242, 3, 13), (13, .dup, 1, 14), (14, .ldc_w 432, 3, 17), (17, .invokespecial 246, 3, 20), (20, .athrow, 1, 21), (21, .return_, 1, 22)], [])
theorem mo_X11_needHour : tw_mok mX11_needHour 1 := ⟨plainFor_of_name (by decide +kernel), by decide +kernel, by decide +kernel, by decide +kernel, by decide +kernel⟩
theorem dk_X11_needHour : tw_dk mX11_needHour := by unfold tw_dk; decide +kernel
theorem tw_RX11_242_432_246 : tw_tw RX11 242 432 246 "java/lang/IndexOutOfBoundsException" "there is no such hour" := ⟨List.mem_of_getElem? (i := 1255) (by decide +kernel), List.mem_of_getElem? (i := 149) (by decide +kernel), List.mem_of_getElem? (i := 1381) (by decide +kernel), tw_at_RX11_246⟩
set_option maxRecDepth 20000 in
theorem K_X11_needHour {g : tw_Gx} (Q : tw_Rs → tw_Mem → Prop) (a0 : Int32) : tw_Kt g mX11_needHour 6 1 6 [.int a0] Q (f_X11_needHour a0 (fun v => Q (.inl none)) (fun E => Q (.inr E))) := by
  refine tw_mkK (L := [some (.int a0)]) mo_X11_needHour dk_X11_needHour rfl (Nat.le_of_ble_eq_true rfl) rfl ?_
  unfold f_X11_needHour
  refine tw_iload_n (k := 0) rfl rfl ?_
  refine tw_join 10 (fun s2 => [some (.int a0)]) (fun s2 => []) 0 0 (fun s2 => ?_) (fun j1 g1 => ?_)
  · exact tw_throwSW (k := 5) (by decide +kernel) rfl rfl rfl rfl rfl tw_RX11_242_432_246 rfl (by omega) (by decide) (by decide) (Nat.le_of_ble_eq_true rfl)
  · refine tw_if_lt (k := 1) 10 rfl (by decide) ?_ ?_
    · exact g1 ()
    · refine tw_iload_n (k := 2) rfl rfl ?_
      refine tw_bipush (k := 3) (12 : Int32) rfl (by decide) ?_
      refine tw_icmp_lt (k := 4) 21 rfl (by decide) ?_ ?_
      · exact tw_return (k := 10) rfl rfl (by decide) (by decide)
      · exact g1 ()
def mX11_plan : tw_MD := (yX11_plan, cX11_plan, 3, (some FieldType.int), [(0, .iload_n 1, 1, 1), (1, .invokestatic 212, 3, 4), (4, .iload_n 2, 1, 5), (5, .invokestatic 215, 3, 8), (8, .aload_n 0, 1, 9), (9, .getfield 19, 3, 12), (12, .iload_n 1, 1, 13), (13, .iload_n 2, 1, 14), (14, .invokevirtual 218, 3, 17), (17, .ireturn, 1, 18)], [])
theorem mo_X11_plan : tw_mok mX11_plan 2 := ⟨plainFor_of_name (by decide +kernel), by decide +kernel, by decide +kernel, by decide +kernel, by decide +kernel⟩
theorem dk_X11_plan : tw_dk mX11_plan := by unfold tw_dk; decide +kernel
theorem wv_RX11_218_X8_planned : tw_wV RX11 218 mX8_planned := ⟨List.mem_of_getElem? (i := 1382) (by decide +kernel), List.mem_of_getElem? (i := 746) (by decide +kernel), List.mem_of_getElem? (i := 747) (by decide +kernel), List.mem_of_getElem? (i := 126) (by decide +kernel), List.mem_of_getElem? (i := 748) (by decide +kernel)⟩
theorem ws_RX11_215_X11_needHour : tw_wS RX11 215 mX11_needHour := ⟨List.mem_of_getElem? (i := 1378) (by decide +kernel), List.mem_of_getElem? (i := 1379) (by decide +kernel), List.mem_of_getElem? (i := 124) (by decide +kernel), List.mem_of_getElem? (i := 1380) (by decide +kernel)⟩
theorem ws_RX11_212_X11_needLoft : tw_wS RX11 212 mX11_needLoft := ⟨List.mem_of_getElem? (i := 1374) (by decide +kernel), List.mem_of_getElem? (i := 1375) (by decide +kernel), List.mem_of_getElem? (i := 124) (by decide +kernel), List.mem_of_getElem? (i := 1376) (by decide +kernel)⟩
set_option maxRecDepth 20000 in
theorem K_X11_plan {g : tw_Gx} (Q : tw_Rs → tw_Mem → Prop) (a0 : Nat) (a1 : Int32) (a2 : Int32) : tw_Kt g mX11_plan 7 2 12 [.ref a0, .int a1, .int a2] Q (f_X11_plan a0 a1 a2 (fun v => Q (.inl (some (.int v)))) (fun E => Q (.inr E))) := by
  refine tw_mkK (L := [some (.ref a0), some (.int a1), some (.int a2)]) mo_X11_plan dk_X11_plan rfl (Nat.le_of_ble_eq_true rfl) rfl ?_
  unfold f_X11_plan
  refine tw_iload_n (k := 0) rfl rfl ?_
  refine tw_callSX (k := 1) (d' := 6) (mc' := 1) (ms' := 6) tw_cU tw_cUi [.int a1] rfl rfl ws_RX11_212_X11_needLoft mo_X11_needLoft rfl (fun Q9 => K_X11_needLoft Q9 a1) (by omega) (by decide) (by decide) (Nat.le_of_ble_eq_true rfl) (fun u1 => ?_) (fun E => tw_out rfl (by decide) (by decide))
  refine tw_iload_n (k := 2) rfl rfl ?_
  refine tw_callSX (k := 3) (d' := 6) (mc' := 1) (ms' := 6) tw_cU tw_cUi [.int a2] rfl rfl ws_RX11_215_X11_needHour mo_X11_needHour rfl (fun Q9 => K_X11_needHour Q9 a2) (by omega) (by decide) (by decide) (Nat.le_of_ble_eq_true rfl) (fun u2 => ?_) (fun E => tw_out rfl (by decide) (by decide))
  refine tw_aload_n (k := 4) rfl rfl ?_
  refine tw_getR (k := 5) rfl fl_RX11_19 (fun x3 => ?_)
  refine tw_iload_n (k := 6) rfl rfl ?_
  refine tw_iload_n (k := 7) rfl rfl ?_
  refine tw_callV (k := 8) (d' := 2) (mc' := 0) (ms' := 0) tw_cI tw_cIi [.int a1, .int a2] rfl rfl wv_RX11_218_X8_planned mo_X8_planned (t := 7) rfl rfl rfl (fun Q9 => K_X8_planned Q9 x3 a1 a2) (by omega) (by decide) (by decide) (Nat.le_of_ble_eq_true rfl) (fun x4 => ?_)
  exact tw_ireturn (k := 9) rfl rfl (by decide) (by decide)
def mX11_tone : tw_MD := (yX11_tone, cX11_tone, 2, (some FieldType.int), [(0, .iload_n 1, 1, 1), (1, .invokestatic 215, 3, 4), (4, .aload_n 0, 1, 5), (5, .getfield 19, 3, 8), (8, .iload_n 1, 1, 9), (9, .invokevirtual 221, 3, 12), (12, .ireturn, 1, 13)], [])
theorem mo_X11_tone : tw_mok mX11_tone 1 := ⟨plainFor_of_name (by decide +kernel), by decide +kernel, by decide +kernel, by decide +kernel, by decide +kernel⟩
theorem dk_X11_tone : tw_dk mX11_tone := by unfold tw_dk; decide +kernel
theorem wv_RX11_221_X8_plannedTone : tw_wV RX11 221 mX8_plannedTone := ⟨List.mem_of_getElem? (i := 1390) (by decide +kernel), List.mem_of_getElem? (i := 742) (by decide +kernel), List.mem_of_getElem? (i := 743) (by decide +kernel), List.mem_of_getElem? (i := 126) (by decide +kernel), List.mem_of_getElem? (i := 744) (by decide +kernel)⟩
set_option maxRecDepth 20000 in
theorem K_X11_tone {g : tw_Gx} (Q : tw_Rs → tw_Mem → Prop) (a0 : Nat) (a1 : Int32) : tw_Kt g mX11_tone 7 1 6 [.ref a0, .int a1] Q (f_X11_tone a0 a1 (fun v => Q (.inl (some (.int v)))) (fun E => Q (.inr E))) := by
  refine tw_mkK (L := [some (.ref a0), some (.int a1)]) mo_X11_tone dk_X11_tone rfl (Nat.le_of_ble_eq_true rfl) rfl ?_
  unfold f_X11_tone
  refine tw_iload_n (k := 0) rfl rfl ?_
  refine tw_callSX (k := 1) (d' := 6) (mc' := 1) (ms' := 6) tw_cU tw_cUi [.int a1] rfl rfl ws_RX11_215_X11_needHour mo_X11_needHour rfl (fun Q9 => K_X11_needHour Q9 a1) (by omega) (by decide) (by decide) (Nat.le_of_ble_eq_true rfl) (fun u1 => ?_) (fun E => tw_out rfl (by decide) (by decide))
  refine tw_aload_n (k := 2) rfl rfl ?_
  refine tw_getR (k := 3) rfl fl_RX11_19 (fun x2 => ?_)
  refine tw_iload_n (k := 4) rfl rfl ?_
  refine tw_callV (k := 5) (d' := 4) (mc' := 0) (ms' := 0) tw_cI tw_cIi [.int a1] rfl rfl wv_RX11_221_X8_plannedTone mo_X8_plannedTone (t := 7) rfl rfl rfl (fun Q9 => K_X8_plannedTone Q9 x2 a1) (by omega) (by decide) (by decide) (Nat.le_of_ble_eq_true rfl) (fun x3 => ?_)
  exact tw_ireturn (k := 6) rfl rfl (by decide) (by decide)
def mX11_rope : tw_MD := (yX11_rope, cX11_rope, 5, (some FieldType.int), [(0, .iload_n 1, 1, 1), (1, .invokestatic 212, 3, 4), (4, .iload_n 2, 1, 5), (5, .invokestatic 215, 3, 8), (8, .aload_n 0, 1, 9), (9, .iload_n 3, 1, 10), (10, .invokevirtual 142, 3, 13), (13, .aload_n 0, 1, 14), (14, .getfield 19, 3, 17), (17, .iconst 1, 1, 18), (18, .iload_n 1, 1, 19), (19, .isub, 1, 20), (20, .iload_n 2, 1, 21), (21, .invokevirtual 218, 3, 24), (24, .iload_n 3, 1, 25), (25, .if_icmp .ne 13, 3, 28), (28, .new 224, 3, 31), (31, .dup, 1, 32), (32, .ldc 226, 2, 34), (34, .invokespecial 228, 3, 37), (37, .athrow, 1, 38), (38, .aload_n 0, 1, 39), (39, .getfield 32, 3, 42), (42, .aload_n 0, 1, 43), (43, .getfield 19, 3, 46), (46, .invokevirtual 229, 3, 49), (49, .aload_n 0, 1, 50), (50, .getfield 19, 3, 53), (53, .iload_n 1, 1, 54), (54, .iload_n 2, 1, 55), (55, .invokevirtual 218, 3, 58), (58, .istore 4, 2, 60), (60, .aload_n 0, 1, 61), (61, .getfield 19, 3, 64), (64, .iload_n 1, 1, 65), (65, .iload_n 2, 1, 66), (66, .iload_n 3, 1, 67), (67, .invokevirtual 232, 3, 70), (70, .iload 4, 2, 72), (72, .ireturn, 1, 73)], [])
theorem mo_X11_rope : tw_mok mX11_rope 3 := ⟨plainFor_of_name (by decide +kernel), by decide +kernel, by decide +kernel, by decide +kernel, by decide +kernel⟩
theorem dk_X11_rope : tw_dk mX11_rope := by unfold tw_dk; decide +kernel
theorem tw_at_RX11_228 : ∀ w ∈ vx_atS RX11 228 "java/lang/IllegalStateException" ["java/lang/RuntimeException", "java/lang/Exception"], w ∈ lw_tbl ∧ tw_mv w = true ∧ vx_ot w = true := fun w hw =>
  have h := (by decide +kernel : ∀ w ∈ vx_atS RX11 228 "java/lang/IllegalStateException" ["java/lang/RuntimeException", "java/lang/Exception"], w ∈ tw_exw ∧ tw_mv w = true ∧ vx_ot w = true) w hw
  ⟨tw_exw_in w h.1, h.2⟩
theorem wv_RX11_232_X8_put : tw_wV RX11 232 mX8_put := ⟨List.mem_of_getElem? (i := 1420) (by decide +kernel), List.mem_of_getElem? (i := 1099) (by decide +kernel), List.mem_of_getElem? (i := 1100) (by decide +kernel), List.mem_of_getElem? (i := 126) (by decide +kernel), List.mem_of_getElem? (i := 1101) (by decide +kernel)⟩
theorem wv_RX11_229_X3_remember : tw_wV RX11 229 mX3_remember := ⟨List.mem_of_getElem? (i := 1415) (by decide +kernel), List.mem_of_getElem? (i := 1416) (by decide +kernel), List.mem_of_getElem? (i := 1417) (by decide +kernel), List.mem_of_getElem? (i := 129) (by decide +kernel), List.mem_of_getElem? (i := 1418) (by decide +kernel)⟩
theorem tw_RX11_224_226_228 : tw_tw RX11 224 226 228 "java/lang/IllegalStateException" "that one is at the other rope" := ⟨List.mem_of_getElem? (i := 1399) (by decide +kernel), List.mem_of_getElem? (i := 152) (by decide +kernel), List.mem_of_getElem? (i := 1408) (by decide +kernel), tw_at_RX11_228⟩
set_option maxRecDepth 20000 in
theorem K_X11_rope {g : tw_Gx} (Q : tw_Rs → tw_Mem → Prop) (a0 : Nat) (a1 : Int32) (a2 : Int32) (a3 : Int32) : tw_Kt g mX11_rope 7 4 24 [.ref a0, .int a1, .int a2, .int a3] Q (f_X11_rope a0 a1 a2 a3 (fun v => Q (.inl (some (.int v)))) (fun E => Q (.inr E))) := by
  refine tw_mkK (L := [some (.ref a0), some (.int a1), some (.int a2), some (.int a3), none]) mo_X11_rope dk_X11_rope rfl (Nat.le_of_ble_eq_true rfl) rfl ?_
  unfold f_X11_rope
  refine tw_iload_n (k := 0) rfl rfl ?_
  refine tw_callSX (k := 1) (d' := 6) (mc' := 1) (ms' := 6) tw_cU tw_cUi [.int a1] rfl rfl ws_RX11_212_X11_needLoft mo_X11_needLoft rfl (fun Q9 => K_X11_needLoft Q9 a1) (by omega) (by decide) (by decide) (Nat.le_of_ble_eq_true rfl) (fun u1 => ?_) (fun E => tw_out rfl (by decide) (by decide))
  refine tw_iload_n (k := 2) rfl rfl ?_
  refine tw_callSX (k := 3) (d' := 6) (mc' := 1) (ms' := 6) tw_cU tw_cUi [.int a2] rfl rfl ws_RX11_215_X11_needHour mo_X11_needHour rfl (fun Q9 => K_X11_needHour Q9 a2) (by omega) (by decide) (by decide) (Nat.le_of_ble_eq_true rfl) (fun u2 => ?_) (fun E => tw_out rfl (by decide) (by decide))
  refine tw_aload_n (k := 4) rfl rfl ?_
  refine tw_iload_n (k := 5) rfl rfl ?_
  refine tw_callVX (k := 6) (d' := 6) (mc' := 1) (ms' := 6) tw_cU tw_cUi [.int a3] rfl rfl wv_RX11_142_X11_needPerson mo_X11_needPerson (t := 10) rfl rfl rfl (fun Q9 => K_X11_needPerson Q9 a0 a3) (by omega) (by decide) (by decide) (Nat.le_of_ble_eq_true rfl) (fun u3 => ?_) (fun E => tw_out rfl (by decide) (by decide))
  refine tw_aload_n (k := 7) rfl rfl ?_
  refine tw_getR (k := 8) rfl fl_RX11_19 (fun x4 => ?_)
  refine tw_iconst (k := 9) (1 : Int32) rfl (by decide) ?_
  refine tw_iload_n (k := 10) rfl rfl ?_
  refine tw_isub (k := 11) rfl ?_
  refine tw_iload_n (k := 12) rfl rfl ?_
  refine tw_callV (k := 13) (d' := 2) (mc' := 0) (ms' := 0) tw_cI tw_cIi [.int ((1 : Int32) - a1), .int a2] rfl rfl wv_RX11_218_X8_planned mo_X8_planned (t := 7) rfl rfl rfl (fun Q9 => K_X8_planned Q9 x4 ((1 : Int32) - a1) a2) (by omega) (by decide) (by decide) (Nat.le_of_ble_eq_true rfl) (fun x5 => ?_)
  refine tw_iload_n (k := 14) rfl rfl ?_
  refine tw_icmp_ne (k := 15) 38 rfl (by decide) ?_ ?_
  · refine tw_aload_n (k := 21) rfl rfl ?_
    refine tw_getR (k := 22) rfl fl_RX11_32 (fun x6 => ?_)
    refine tw_aload_n (k := 23) rfl rfl ?_
    refine tw_getR (k := 24) rfl fl_RX11_19 (fun x7 => ?_)
    refine tw_callV (k := 25) (d' := 3) (mc' := 0) (ms' := 0) tw_cU tw_cUi [.ref x7] rfl rfl wv_RX11_229_X3_remember mo_X3_remember (t := 3) rfl rfl rfl (fun Q9 => K_X3_remember Q9 x6 x7) (by omega) (by decide) (by decide) (Nat.le_of_ble_eq_true rfl) (fun u8 => ?_)
    refine tw_aload_n (k := 26) rfl rfl ?_
    refine tw_getR (k := 27) rfl fl_RX11_19 (fun x9 => ?_)
    refine tw_iload_n (k := 28) rfl rfl ?_
    refine tw_iload_n (k := 29) rfl rfl ?_
    refine tw_callV (k := 30) (d' := 2) (mc' := 0) (ms' := 0) tw_cI tw_cIi [.int a1, .int a2] rfl rfl wv_RX11_218_X8_planned mo_X8_planned (t := 7) rfl rfl rfl (fun Q9 => K_X8_planned Q9 x9 a1 a2) (by omega) (by decide) (by decide) (Nat.le_of_ble_eq_true rfl) (fun x10 => ?_)
    refine tw_ist (k := 31) [some (.ref a0), some (.int a1), some (.int a2), some (.int a3), some (.int x10)] rfl (Nat.le_of_ble_eq_true rfl) rfl rfl ?_
    refine tw_aload_n (k := 32) rfl rfl ?_
    refine tw_getR (k := 33) rfl fl_RX11_19 (fun x11 => ?_)
    refine tw_iload_n (k := 34) rfl rfl ?_
    refine tw_iload_n (k := 35) rfl rfl ?_
    refine tw_iload_n (k := 36) rfl rfl ?_
    refine tw_callV (k := 37) (d' := 2) (mc' := 0) (ms' := 0) tw_cU tw_cUi [.int a1, .int a2, .int a3] rfl rfl wv_RX11_232_X8_put mo_X8_put (t := 7) rfl rfl rfl (fun Q9 => K_X8_put Q9 x11 a1 a2 a3) (by omega) (by decide) (by decide) (Nat.le_of_ble_eq_true rfl) (fun u12 => ?_)
    refine tw_iload (k := 38) rfl rfl ?_
    exact tw_ireturn (k := 39) rfl rfl (by decide) (by decide)
  · exact tw_throwS (k := 16) (by decide +kernel) rfl rfl rfl rfl rfl tw_RX11_224_226_228 rfl (by omega) (by decide) (by decide) (Nat.le_of_ble_eq_true rfl)
def mX11_off : tw_MD := (yX11_off, cX11_off, 4, (some FieldType.int), [(0, .iload_n 1, 1, 1), (1, .invokestatic 212, 3, 4), (4, .iload_n 2, 1, 5), (5, .invokestatic 215, 3, 8), (8, .aload_n 0, 1, 9), (9, .getfield 19, 3, 12), (12, .iload_n 1, 1, 13), (13, .iload_n 2, 1, 14), (14, .invokevirtual 218, 3, 17), (17, .istore_n 3, 1, 18), (18, .iload_n 3, 1, 19), (19, .iconst (-1), 1, 20), (20, .if_icmp .ne 13, 3, 23), (23, .new 224, 3, 26), (26, .dup, 1, 27), (27, .ldc 236, 2, 29), (29, .invokespecial 228, 3, 32), (32, .athrow, 1, 33), (33, .aload_n 0, 1, 34), (34, .getfield 32, 3, 37), (37, .aload_n 0, 1, 38), (38, .getfield 19, 3, 41), (41, .invokevirtual 229, 3, 44), (44, .aload_n 0, 1, 45), (45, .getfield 19, 3, 48), (48, .iload_n 1, 1, 49), (49, .iload_n 2, 1, 50), (50, .iconst (-1), 1, 51), (51, .invokevirtual 232, 3, 54), (54, .iload_n 3, 1, 55), (55, .ireturn, 1, 56)], [])
theorem mo_X11_off : tw_mok mX11_off 2 := ⟨plainFor_of_name (by decide +kernel), by decide +kernel, by decide +kernel, by decide +kernel, by decide +kernel⟩
theorem dk_X11_off : tw_dk mX11_off := by unfold tw_dk; decide +kernel
theorem tw_RX11_224_236_228 : tw_tw RX11 224 236 228 "java/lang/IllegalStateException" "nobody is at that rope" := ⟨List.mem_of_getElem? (i := 1399) (by decide +kernel), List.mem_of_getElem? (i := 152) (by decide +kernel), List.mem_of_getElem? (i := 1428) (by decide +kernel), tw_at_RX11_228⟩
set_option maxRecDepth 20000 in
theorem K_X11_off {g : tw_Gx} (Q : tw_Rs → tw_Mem → Prop) (a0 : Nat) (a1 : Int32) (a2 : Int32) : tw_Kt g mX11_off 7 3 18 [.ref a0, .int a1, .int a2] Q (f_X11_off a0 a1 a2 (fun v => Q (.inl (some (.int v)))) (fun E => Q (.inr E))) := by
  refine tw_mkK (L := [some (.ref a0), some (.int a1), some (.int a2), none]) mo_X11_off dk_X11_off rfl (Nat.le_of_ble_eq_true rfl) rfl ?_
  unfold f_X11_off
  refine tw_iload_n (k := 0) rfl rfl ?_
  refine tw_callSX (k := 1) (d' := 6) (mc' := 1) (ms' := 6) tw_cU tw_cUi [.int a1] rfl rfl ws_RX11_212_X11_needLoft mo_X11_needLoft rfl (fun Q9 => K_X11_needLoft Q9 a1) (by omega) (by decide) (by decide) (Nat.le_of_ble_eq_true rfl) (fun u1 => ?_) (fun E => tw_out rfl (by decide) (by decide))
  refine tw_iload_n (k := 2) rfl rfl ?_
  refine tw_callSX (k := 3) (d' := 6) (mc' := 1) (ms' := 6) tw_cU tw_cUi [.int a2] rfl rfl ws_RX11_215_X11_needHour mo_X11_needHour rfl (fun Q9 => K_X11_needHour Q9 a2) (by omega) (by decide) (by decide) (Nat.le_of_ble_eq_true rfl) (fun u2 => ?_) (fun E => tw_out rfl (by decide) (by decide))
  refine tw_aload_n (k := 4) rfl rfl ?_
  refine tw_getR (k := 5) rfl fl_RX11_19 (fun x3 => ?_)
  refine tw_iload_n (k := 6) rfl rfl ?_
  refine tw_iload_n (k := 7) rfl rfl ?_
  refine tw_callV (k := 8) (d' := 2) (mc' := 0) (ms' := 0) tw_cI tw_cIi [.int a1, .int a2] rfl rfl wv_RX11_218_X8_planned mo_X8_planned (t := 7) rfl rfl rfl (fun Q9 => K_X8_planned Q9 x3 a1 a2) (by omega) (by decide) (by decide) (Nat.le_of_ble_eq_true rfl) (fun x4 => ?_)
  refine tw_ist_n (k := 9) [some (.ref a0), some (.int a1), some (.int a2), some (.int x4)] rfl (Nat.le_of_ble_eq_true rfl) rfl rfl ?_
  refine tw_iload_n (k := 10) rfl rfl ?_
  refine tw_iconst (k := 11) (-1 : Int32) rfl (by decide) ?_
  refine tw_icmp_ne (k := 12) 33 rfl (by decide) ?_ ?_
  · refine tw_aload_n (k := 18) rfl rfl ?_
    refine tw_getR (k := 19) rfl fl_RX11_32 (fun x5 => ?_)
    refine tw_aload_n (k := 20) rfl rfl ?_
    refine tw_getR (k := 21) rfl fl_RX11_19 (fun x6 => ?_)
    refine tw_callV (k := 22) (d' := 3) (mc' := 0) (ms' := 0) tw_cU tw_cUi [.ref x6] rfl rfl wv_RX11_229_X3_remember mo_X3_remember (t := 3) rfl rfl rfl (fun Q9 => K_X3_remember Q9 x5 x6) (by omega) (by decide) (by decide) (Nat.le_of_ble_eq_true rfl) (fun u7 => ?_)
    refine tw_aload_n (k := 23) rfl rfl ?_
    refine tw_getR (k := 24) rfl fl_RX11_19 (fun x8 => ?_)
    refine tw_iload_n (k := 25) rfl rfl ?_
    refine tw_iload_n (k := 26) rfl rfl ?_
    refine tw_iconst (k := 27) (-1 : Int32) rfl (by decide) ?_
    refine tw_callV (k := 28) (d' := 2) (mc' := 0) (ms' := 0) tw_cU tw_cUi [.int a1, .int a2, .int (-1 : Int32)] rfl rfl wv_RX11_232_X8_put mo_X8_put (t := 7) rfl rfl rfl (fun Q9 => K_X8_put Q9 x8 a1 a2 (-1 : Int32)) (by omega) (by decide) (by decide) (Nat.le_of_ble_eq_true rfl) (fun u9 => ?_)
    refine tw_iload_n (k := 29) rfl rfl ?_
    exact tw_ireturn (k := 30) rfl rfl (by decide) (by decide)
  · exact tw_throwS (k := 13) (by decide +kernel) rfl rfl rfl rfl rfl tw_RX11_224_236_228 rfl (by omega) (by decide) (by decide) (Nat.le_of_ble_eq_true rfl)
def mX11_change : tw_MD := (yX11_change, cX11_change, 3, (some FieldType.int), [(0, .iload_n 1, 1, 1), (1, .invokestatic 215, 3, 4), (4, .aload_n 0, 1, 5), (5, .getfield 32, 3, 8), (8, .aload_n 0, 1, 9), (9, .getfield 19, 3, 12), (12, .invokevirtual 229, 3, 15), (15, .aload_n 0, 1, 16), (16, .getfield 19, 3, 19), (19, .iconst 0, 1, 20), (20, .iload_n 1, 1, 21), (21, .invokevirtual 218, 3, 24), (24, .istore_n 2, 1, 25), (25, .aload_n 0, 1, 26), (26, .getfield 19, 3, 29), (29, .iconst 0, 1, 30), (30, .iload_n 1, 1, 31), (31, .aload_n 0, 1, 32), (32, .getfield 19, 3, 35), (35, .iconst 1, 1, 36), (36, .iload_n 1, 1, 37), (37, .invokevirtual 218, 3, 40), (40, .invokevirtual 232, 3, 43), (43, .aload_n 0, 1, 44), (44, .getfield 19, 3, 47), (47, .iconst 1, 1, 48), (48, .iload_n 1, 1, 49), (49, .iload_n 2, 1, 50), (50, .invokevirtual 232, 3, 53), (53, .aload_n 0, 1, 54), (54, .getfield 19, 3, 57), (57, .iconst 0, 1, 58), (58, .iload_n 1, 1, 59), (59, .invokevirtual 218, 3, 62), (62, .ireturn, 1, 63)], [])
theorem mo_X11_change : tw_mok mX11_change 1 := ⟨plainFor_of_name (by decide +kernel), by decide +kernel, by decide +kernel, by decide +kernel, by decide +kernel⟩
theorem dk_X11_change : tw_dk mX11_change := by unfold tw_dk; decide +kernel
set_option maxRecDepth 20000 in
theorem K_X11_change {g : tw_Gx} (Q : tw_Rs → tw_Mem → Prop) (a0 : Nat) (a1 : Int32) : tw_Kt g mX11_change 7 1 6 [.ref a0, .int a1] Q (f_X11_change a0 a1 (fun v => Q (.inl (some (.int v)))) (fun E => Q (.inr E))) := by
  refine tw_mkK (L := [some (.ref a0), some (.int a1), none]) mo_X11_change dk_X11_change rfl (Nat.le_of_ble_eq_true rfl) rfl ?_
  unfold f_X11_change
  refine tw_iload_n (k := 0) rfl rfl ?_
  refine tw_callSX (k := 1) (d' := 6) (mc' := 1) (ms' := 6) tw_cU tw_cUi [.int a1] rfl rfl ws_RX11_215_X11_needHour mo_X11_needHour rfl (fun Q9 => K_X11_needHour Q9 a1) (by omega) (by decide) (by decide) (Nat.le_of_ble_eq_true rfl) (fun u1 => ?_) (fun E => tw_out rfl (by decide) (by decide))
  refine tw_aload_n (k := 2) rfl rfl ?_
  refine tw_getR (k := 3) rfl fl_RX11_32 (fun x2 => ?_)
  refine tw_aload_n (k := 4) rfl rfl ?_
  refine tw_getR (k := 5) rfl fl_RX11_19 (fun x3 => ?_)
  refine tw_callV (k := 6) (d' := 3) (mc' := 0) (ms' := 0) tw_cU tw_cUi [.ref x3] rfl rfl wv_RX11_229_X3_remember mo_X3_remember (t := 3) rfl rfl rfl (fun Q9 => K_X3_remember Q9 x2 x3) (by omega) (by decide) (by decide) (Nat.le_of_ble_eq_true rfl) (fun u4 => ?_)
  refine tw_aload_n (k := 7) rfl rfl ?_
  refine tw_getR (k := 8) rfl fl_RX11_19 (fun x5 => ?_)
  refine tw_iconst (k := 9) (0 : Int32) rfl (by decide) ?_
  refine tw_iload_n (k := 10) rfl rfl ?_
  refine tw_callV (k := 11) (d' := 2) (mc' := 0) (ms' := 0) tw_cI tw_cIi [.int (0 : Int32), .int a1] rfl rfl wv_RX11_218_X8_planned mo_X8_planned (t := 7) rfl rfl rfl (fun Q9 => K_X8_planned Q9 x5 (0 : Int32) a1) (by omega) (by decide) (by decide) (Nat.le_of_ble_eq_true rfl) (fun x6 => ?_)
  refine tw_ist_n (k := 12) [some (.ref a0), some (.int a1), some (.int x6)] rfl (Nat.le_of_ble_eq_true rfl) rfl rfl ?_
  refine tw_aload_n (k := 13) rfl rfl ?_
  refine tw_getR (k := 14) rfl fl_RX11_19 (fun x7 => ?_)
  refine tw_iconst (k := 15) (0 : Int32) rfl (by decide) ?_
  refine tw_iload_n (k := 16) rfl rfl ?_
  refine tw_aload_n (k := 17) rfl rfl ?_
  refine tw_getR (k := 18) rfl fl_RX11_19 (fun x8 => ?_)
  refine tw_iconst (k := 19) (1 : Int32) rfl (by decide) ?_
  refine tw_iload_n (k := 20) rfl rfl ?_
  refine tw_callV (k := 21) (d' := 2) (mc' := 0) (ms' := 0) tw_cI tw_cIi [.int (1 : Int32), .int a1] rfl rfl wv_RX11_218_X8_planned mo_X8_planned (t := 7) rfl rfl rfl (fun Q9 => K_X8_planned Q9 x8 (1 : Int32) a1) (by omega) (by decide) (by decide) (Nat.le_of_ble_eq_true rfl) (fun x9 => ?_)
  refine tw_callV (k := 22) (d' := 2) (mc' := 0) (ms' := 0) tw_cU tw_cUi [.int (0 : Int32), .int a1, .int x9] rfl rfl wv_RX11_232_X8_put mo_X8_put (t := 7) rfl rfl rfl (fun Q9 => K_X8_put Q9 x7 (0 : Int32) a1 x9) (by omega) (by decide) (by decide) (Nat.le_of_ble_eq_true rfl) (fun u10 => ?_)
  refine tw_aload_n (k := 23) rfl rfl ?_
  refine tw_getR (k := 24) rfl fl_RX11_19 (fun x11 => ?_)
  refine tw_iconst (k := 25) (1 : Int32) rfl (by decide) ?_
  refine tw_iload_n (k := 26) rfl rfl ?_
  refine tw_iload_n (k := 27) rfl rfl ?_
  refine tw_callV (k := 28) (d' := 2) (mc' := 0) (ms' := 0) tw_cU tw_cUi [.int (1 : Int32), .int a1, .int x6] rfl rfl wv_RX11_232_X8_put mo_X8_put (t := 7) rfl rfl rfl (fun Q9 => K_X8_put Q9 x11 (1 : Int32) a1 x6) (by omega) (by decide) (by decide) (Nat.le_of_ble_eq_true rfl) (fun u12 => ?_)
  refine tw_aload_n (k := 29) rfl rfl ?_
  refine tw_getR (k := 30) rfl fl_RX11_19 (fun x13 => ?_)
  refine tw_iconst (k := 31) (0 : Int32) rfl (by decide) ?_
  refine tw_iload_n (k := 32) rfl rfl ?_
  refine tw_callV (k := 33) (d' := 2) (mc' := 0) (ms' := 0) tw_cI tw_cIi [.int (0 : Int32), .int a1] rfl rfl wv_RX11_218_X8_planned mo_X8_planned (t := 7) rfl rfl rfl (fun Q9 => K_X8_planned Q9 x13 (0 : Int32) a1) (by omega) (by decide) (by decide) (Nat.le_of_ble_eq_true rfl) (fun x14 => ?_)
  exact tw_ireturn (k := 34) rfl rfl (by decide) (by decide)
def mX11_swear : tw_MD := (yX11_swear, cX11_swear, 4, (some FieldType.boolean), [(0, .aload_n 0, 1, 1), (1, .iload_n 1, 1, 2), (2, .invokevirtual 142, 3, 5), (5, .aload_n 0, 1, 6), (6, .getfield 32, 3, 9), (9, .aload_n 0, 1, 10), (10, .getfield 19, 3, 13), (13, .invokevirtual 229, 3, 16), (16, .aload_n 0, 1, 17), (17, .getfield 19, 3, 20), (20, .iload_n 1, 1, 21), (21, .invokevirtual 154, 3, 24), (24, .istore_n 3, 1, 25), (25, .aload_n 0, 1, 26), (26, .getfield 19, 3, 29), (29, .iload_n 1, 1, 30), (30, .iload_n 2, 1, 31), (31, .invokevirtual 238, 3, 34), (34, .iload_n 3, 1, 35), (35, .iload_n 2, 1, 36), (36, .if_icmp .eq 7, 3, 39), (39, .iconst 1, 1, 40), (40, .goto 4, 3, 43), (43, .iconst 0, 1, 44), (44, .ireturn, 1, 45)], [])
theorem mo_X11_swear : tw_mok mX11_swear 2 := ⟨plainFor_of_name (by decide +kernel), by decide +kernel, by decide +kernel, by decide +kernel, by decide +kernel⟩
theorem dk_X11_swear : tw_dk mX11_swear := by unfold tw_dk; decide +kernel
theorem wv_RX11_238_X8_setSworn : tw_wV RX11 238 mX8_setSworn := ⟨List.mem_of_getElem? (i := 1443) (by decide +kernel), List.mem_of_getElem? (i := 1070) (by decide +kernel), List.mem_of_getElem? (i := 1071) (by decide +kernel), List.mem_of_getElem? (i := 126) (by decide +kernel), List.mem_of_getElem? (i := 1072) (by decide +kernel)⟩
set_option maxRecDepth 20000 in
theorem K_X11_swear {g : tw_Gx} (Q : tw_Rs → tw_Mem → Prop) (a0 : Nat) (a1 : Int32) (a2 : Int32) : tw_Kt g mX11_swear 7 1 6 [.ref a0, .int a1, .int a2] Q (f_X11_swear a0 a1 a2 (fun v => Q (.inl (some (.int v)))) (fun E => Q (.inr E))) := by
  refine tw_mkK (L := [some (.ref a0), some (.int a1), some (.int a2), none]) mo_X11_swear dk_X11_swear rfl (Nat.le_of_ble_eq_true rfl) rfl ?_
  unfold f_X11_swear
  refine tw_aload_n (k := 0) rfl rfl ?_
  refine tw_iload_n (k := 1) rfl rfl ?_
  refine tw_callVX (k := 2) (d' := 6) (mc' := 1) (ms' := 6) tw_cU tw_cUi [.int a1] rfl rfl wv_RX11_142_X11_needPerson mo_X11_needPerson (t := 10) rfl rfl rfl (fun Q9 => K_X11_needPerson Q9 a0 a1) (by omega) (by decide) (by decide) (Nat.le_of_ble_eq_true rfl) (fun u1 => ?_) (fun E => tw_out rfl (by decide) (by decide))
  refine tw_aload_n (k := 3) rfl rfl ?_
  refine tw_getR (k := 4) rfl fl_RX11_32 (fun x2 => ?_)
  refine tw_aload_n (k := 5) rfl rfl ?_
  refine tw_getR (k := 6) rfl fl_RX11_19 (fun x3 => ?_)
  refine tw_callV (k := 7) (d' := 3) (mc' := 0) (ms' := 0) tw_cU tw_cUi [.ref x3] rfl rfl wv_RX11_229_X3_remember mo_X3_remember (t := 3) rfl rfl rfl (fun Q9 => K_X3_remember Q9 x2 x3) (by omega) (by decide) (by decide) (Nat.le_of_ble_eq_true rfl) (fun u4 => ?_)
  refine tw_aload_n (k := 8) rfl rfl ?_
  refine tw_getR (k := 9) rfl fl_RX11_19 (fun x5 => ?_)
  refine tw_iload_n (k := 10) rfl rfl ?_
  refine tw_callV (k := 11) (d' := 2) (mc' := 0) (ms' := 0) tw_cI tw_cIi [.int a1] rfl rfl wv_RX11_154_X8_isSworn mo_X8_isSworn (t := 7) rfl rfl rfl (fun Q9 => K_X8_isSworn Q9 x5 a1) (by omega) (by decide) (by decide) (Nat.le_of_ble_eq_true rfl) (fun x6 => ?_)
  refine tw_ist_n (k := 12) [some (.ref a0), some (.int a1), some (.int a2), some (.int x6)] rfl (Nat.le_of_ble_eq_true rfl) rfl rfl ?_
  refine tw_aload_n (k := 13) rfl rfl ?_
  refine tw_getR (k := 14) rfl fl_RX11_19 (fun x7 => ?_)
  refine tw_iload_n (k := 15) rfl rfl ?_
  refine tw_iload_n (k := 16) rfl rfl ?_
  refine tw_callV (k := 17) (d' := 2) (mc' := 0) (ms' := 0) tw_cU tw_cUi [.int a1, .int a2] rfl rfl wv_RX11_238_X8_setSworn mo_X8_setSworn (t := 7) rfl rfl rfl (fun Q9 => K_X8_setSworn Q9 x7 a1 a2) (by omega) (by decide) (by decide) (Nat.le_of_ble_eq_true rfl) (fun u8 => ?_)
  refine tw_iload_n (k := 18) rfl rfl ?_
  refine tw_iload_n (k := 19) rfl rfl ?_
  refine tw_icmp_eq (k := 20) 43 rfl (by decide) ?_ ?_
  · refine tw_iconst (k := 23) (0 : Int32) rfl (by decide) ?_
    exact tw_zreturn (k := 24) rfl rfl (by decide) (by decide)
  · refine tw_iconst (k := 21) (1 : Int32) rfl (by decide) ?_
    refine tw_goto (k := 22) 44 rfl (by decide) ?_
    exact tw_zreturn (k := 24) rfl rfl (by decide) (by decide)
def mX11_move : tw_MD := (yX11_move, cX11_move, 4, (some FieldType.int), [(0, .aload_n 0, 1, 1), (1, .iload_n 1, 1, 2), (2, .invokevirtual 142, 3, 5), (5, .iload_n 2, 1, 6), (6, .ifCond .lt 9, 3, 9), (9, .iload_n 2, 1, 10), (10, .bipush 8, 2, 12), (12, .if_icmp .lt 13, 3, 15), (15, .new 242, 3, 18), (18, .dup, 1, 19), (19, .ldc 244, 2, 21), (21, .invokespecial 246, 3, 24), (24, .athrow, 1, 25), (25, .aload_n 0, 1, 26), (26, .getfield 32, 3, 29), (29, .aload_n 0, 1, 30), (30, .getfield 19, 3, 33), (33, .invokevirtual 229, 3, 36), (36, .aload_n 0, 1, 37), (37, .getfield 19, 3, 40), (40, .iload_n 1, 1, 41), (41, .invokevirtual 145, 3, 44), (44, .istore_n 3, 1, 45), (45, .aload_n 0, 1, 46), (46, .getfield 19, 3, 49), (49, .iload_n 1, 1, 50), (50, .iload_n 2, 1, 51), (51, .invokevirtual 247, 3, 54), (54, .iload_n 3, 1, 55), (55, .ireturn, 1, 56)], [])
theorem mo_X11_move : tw_mok mX11_move 2 := ⟨plainFor_of_name (by decide +kernel), by decide +kernel, by decide +kernel, by decide +kernel, by decide +kernel⟩
theorem dk_X11_move : tw_dk mX11_move := by unfold tw_dk; decide +kernel
theorem tw_RX11_242_244_246 : tw_tw RX11 242 244 246 "java/lang/IndexOutOfBoundsException" "there is no such haunt" := ⟨List.mem_of_getElem? (i := 1255) (by decide +kernel), List.mem_of_getElem? (i := 149) (by decide +kernel), List.mem_of_getElem? (i := 1451) (by decide +kernel), tw_at_RX11_246⟩
theorem wv_RX11_247_X8_setHaunt : tw_wV RX11 247 mX8_setHaunt := ⟨List.mem_of_getElem? (i := 1452) (by decide +kernel), List.mem_of_getElem? (i := 1453) (by decide +kernel), List.mem_of_getElem? (i := 1454) (by decide +kernel), List.mem_of_getElem? (i := 126) (by decide +kernel), List.mem_of_getElem? (i := 1455) (by decide +kernel)⟩
set_option maxRecDepth 20000 in
theorem K_X11_move {g : tw_Gx} (Q : tw_Rs → tw_Mem → Prop) (a0 : Nat) (a1 : Int32) (a2 : Int32) : tw_Kt g mX11_move 7 2 12 [.ref a0, .int a1, .int a2] Q (f_X11_move a0 a1 a2 (fun v => Q (.inl (some (.int v)))) (fun E => Q (.inr E))) := by
  refine tw_mkK (L := [some (.ref a0), some (.int a1), some (.int a2), none]) mo_X11_move dk_X11_move rfl (Nat.le_of_ble_eq_true rfl) rfl ?_
  unfold f_X11_move
  refine tw_aload_n (k := 0) rfl rfl ?_
  refine tw_iload_n (k := 1) rfl rfl ?_
  refine tw_callVX (k := 2) (d' := 6) (mc' := 1) (ms' := 6) tw_cU tw_cUi [.int a1] rfl rfl wv_RX11_142_X11_needPerson mo_X11_needPerson (t := 10) rfl rfl rfl (fun Q9 => K_X11_needPerson Q9 a0 a1) (by omega) (by decide) (by decide) (Nat.le_of_ble_eq_true rfl) (fun u1 => ?_) (fun E => tw_out rfl (by decide) (by decide))
  refine tw_iload_n (k := 3) rfl rfl ?_
  refine tw_join 15 (fun s3 => [some (.ref a0), some (.int a1), some (.int a2), none]) (fun s3 => []) 1 6 (fun s3 => ?_) (fun j2 g2 => ?_)
  · exact tw_throwS (k := 8) (by decide +kernel) rfl rfl rfl rfl rfl tw_RX11_242_244_246 rfl (by omega) (by decide) (by decide) (Nat.le_of_ble_eq_true rfl)
  · refine tw_if_lt (k := 4) 15 rfl (by decide) ?_ ?_
    · exact g2 ()
    · refine tw_iload_n (k := 5) rfl rfl ?_
      refine tw_bipush (k := 6) (8 : Int32) rfl (by decide) ?_
      refine tw_icmp_lt (k := 7) 25 rfl (by decide) ?_ ?_
      · refine tw_aload_n (k := 13) rfl rfl ?_
        refine tw_getR (k := 14) rfl fl_RX11_32 (fun x4 => ?_)
        refine tw_aload_n (k := 15) rfl rfl ?_
        refine tw_getR (k := 16) rfl fl_RX11_19 (fun x5 => ?_)
        refine tw_callV (k := 17) (d' := 3) (mc' := 0) (ms' := 0) tw_cU tw_cUi [.ref x5] rfl rfl wv_RX11_229_X3_remember mo_X3_remember (t := 3) rfl rfl rfl (fun Q9 => K_X3_remember Q9 x4 x5) (by omega) (by decide) (by decide) (Nat.le_of_ble_eq_true rfl) (fun u6 => ?_)
        refine tw_aload_n (k := 18) rfl rfl ?_
        refine tw_getR (k := 19) rfl fl_RX11_19 (fun x7 => ?_)
        refine tw_iload_n (k := 20) rfl rfl ?_
        refine tw_callV (k := 21) (d' := 2) (mc' := 0) (ms' := 0) tw_cI tw_cIi [.int a1] rfl rfl wv_RX11_145_X8_hauntOf mo_X8_hauntOf (t := 7) rfl rfl rfl (fun Q9 => K_X8_hauntOf Q9 x7 a1) (by omega) (by decide) (by decide) (Nat.le_of_ble_eq_true rfl) (fun x8 => ?_)
        refine tw_ist_n (k := 22) [some (.ref a0), some (.int a1), some (.int a2), some (.int x8)] rfl (Nat.le_of_ble_eq_true rfl) rfl rfl ?_
        refine tw_aload_n (k := 23) rfl rfl ?_
        refine tw_getR (k := 24) rfl fl_RX11_19 (fun x9 => ?_)
        refine tw_iload_n (k := 25) rfl rfl ?_
        refine tw_iload_n (k := 26) rfl rfl ?_
        refine tw_callV (k := 27) (d' := 2) (mc' := 0) (ms' := 0) tw_cU tw_cUi [.int a1, .int a2] rfl rfl wv_RX11_247_X8_setHaunt mo_X8_setHaunt (t := 7) rfl rfl rfl (fun Q9 => K_X8_setHaunt Q9 x9 a1 a2) (by omega) (by decide) (by decide) (Nat.le_of_ble_eq_true rfl) (fun u10 => ?_)
        refine tw_iload_n (k := 28) rfl rfl ?_
        exact tw_ireturn (k := 29) rfl rfl (by decide) (by decide)
      · exact g2 ()
def mX11_needNumber : tw_MD := (yX11_needNumber, cX11_needNumber, 3, none, [(0, .iload_n 0, 1, 1), (1, .iload_n 1, 1, 2), (2, .if_icmp .lt 8, 3, 5), (5, .iload_n 0, 1, 6), (6, .iload_n 2, 1, 7), (7, .if_icmp .le 14, 3, 10), (10, .new 118, 3, 13), (13, .dup, 1, 14), (14, .ldc_w 434, 3, 17), (17, .invokespecial 122, 3, 20), (20, .athrow, 1, 21), (21, .return_, 1, 22)], [])
theorem mo_X11_needNumber : tw_mok mX11_needNumber 3 := ⟨plainFor_of_name (by decide +kernel), by decide +kernel, by decide +kernel, by decide +kernel, by decide +kernel⟩
theorem dk_X11_needNumber : tw_dk mX11_needNumber := by unfold tw_dk; decide +kernel
theorem tw_RX11_118_434_122 : tw_tw RX11 118 434 122 "java/lang/IllegalArgumentException" "the number is none" := ⟨List.mem_of_getElem? (i := 1126) (by decide +kernel), List.mem_of_getElem? (i := 146) (by decide +kernel), List.mem_of_getElem? (i := 1466) (by decide +kernel), tw_at_RX11_122⟩
set_option maxRecDepth 20000 in
theorem K_X11_needNumber {g : tw_Gx} (Q : tw_Rs → tw_Mem → Prop) (a0 : Int32) (a1 : Int32) (a2 : Int32) : tw_Kt g mX11_needNumber 6 1 6 [.int a0, .int a1, .int a2] Q (f_X11_needNumber a0 a1 a2 (fun v => Q (.inl none)) (fun E => Q (.inr E))) := by
  refine tw_mkK (L := [some (.int a0), some (.int a1), some (.int a2)]) mo_X11_needNumber dk_X11_needNumber rfl (Nat.le_of_ble_eq_true rfl) rfl ?_
  unfold f_X11_needNumber
  refine tw_iload_n (k := 0) rfl rfl ?_
  refine tw_iload_n (k := 1) rfl rfl ?_
  refine tw_join 10 (fun s2 => [some (.int a0), some (.int a1), some (.int a2)]) (fun s2 => []) 0 0 (fun s2 => ?_) (fun j1 g1 => ?_)
  · exact tw_throwSW (k := 6) (by decide +kernel) rfl rfl rfl rfl rfl tw_RX11_118_434_122 rfl (by omega) (by decide) (by decide) (Nat.le_of_ble_eq_true rfl)
  · refine tw_icmp_lt (k := 2) 10 rfl (by decide) ?_ ?_
    · exact g1 ()
    · refine tw_iload_n (k := 3) rfl rfl ?_
      refine tw_iload_n (k := 4) rfl rfl ?_
      refine tw_icmp_le (k := 5) 21 rfl (by decide) ?_ ?_
      · exact tw_return (k := 11) rfl rfl (by decide) (by decide)
      · exact g1 ()
def mX11_guess : tw_MD := (yX11_guess, cX11_guess, 5, (some FieldType.int), [(0, .aload_n 0, 1, 1), (1, .iload_n 1, 1, 2), (2, .iload_n 2, 1, 3), (3, .invokevirtual 187, 3, 6), (6, .iload_n 3, 1, 7), (7, .iconst 0, 1, 8), (8, .bipush 9, 2, 10), (10, .invokestatic 250, 3, 13), (13, .aload_n 0, 1, 14), (14, .getfield 32, 3, 17), (17, .aload_n 0, 1, 18), (18, .getfield 19, 3, 21), (21, .invokevirtual 229, 3, 24), (24, .aload_n 0, 1, 25), (25, .getfield 19, 3, 28), (28, .iload_n 1, 1, 29), (29, .iload_n 2, 1, 30), (30, .invokevirtual 191, 3, 33), (33, .istore 4, 2, 35), (35, .aload_n 0, 1, 36), (36, .getfield 19, 3, 39), (39, .iload_n 1, 1, 40), (40, .iload_n 2, 1, 41), (41, .iload_n 3, 1, 42), (42, .invokevirtual 253, 3, 45), (45, .iload 4, 2, 47), (47, .ireturn, 1, 48)], [])
theorem mo_X11_guess : tw_mok mX11_guess 3 := ⟨plainFor_of_name (by decide +kernel), by decide +kernel, by decide +kernel, by decide +kernel, by decide +kernel⟩
theorem dk_X11_guess : tw_dk mX11_guess := by unfold tw_dk; decide +kernel
theorem wv_RX11_253_X8_setGuess : tw_wV RX11 253 mX8_setGuess := ⟨List.mem_of_getElem? (i := 1467) (by decide +kernel), List.mem_of_getElem? (i := 1089) (by decide +kernel), List.mem_of_getElem? (i := 1090) (by decide +kernel), List.mem_of_getElem? (i := 126) (by decide +kernel), List.mem_of_getElem? (i := 1091) (by decide +kernel)⟩
theorem ws_RX11_250_X11_needNumber : tw_wS RX11 250 mX11_needNumber := ⟨List.mem_of_getElem? (i := 1463) (by decide +kernel), List.mem_of_getElem? (i := 1464) (by decide +kernel), List.mem_of_getElem? (i := 124) (by decide +kernel), List.mem_of_getElem? (i := 1465) (by decide +kernel)⟩
set_option maxRecDepth 20000 in
theorem K_X11_guess {g : tw_Gx} (Q : tw_Rs → tw_Mem → Prop) (a0 : Nat) (a1 : Int32) (a2 : Int32) (a3 : Int32) : tw_Kt g mX11_guess 8 4 24 [.ref a0, .int a1, .int a2, .int a3] Q (f_X11_guess a0 a1 a2 a3 (fun v => Q (.inl (some (.int v)))) (fun E => Q (.inr E))) := by
  refine tw_mkK (L := [some (.ref a0), some (.int a1), some (.int a2), some (.int a3), none]) mo_X11_guess dk_X11_guess rfl (Nat.le_of_ble_eq_true rfl) rfl ?_
  unfold f_X11_guess
  refine tw_aload_n (k := 0) rfl rfl ?_
  refine tw_iload_n (k := 1) rfl rfl ?_
  refine tw_iload_n (k := 2) rfl rfl ?_
  refine tw_callVX (k := 3) (d' := 7) (mc' := 3) (ms' := 18) tw_cU tw_cUi [.int a1, .int a2] rfl rfl wv_RX11_187_X11_needTwo mo_X11_needTwo (t := 10) rfl rfl rfl (fun Q9 => K_X11_needTwo Q9 a0 a1 a2) (by omega) (by decide) (by decide) (Nat.le_of_ble_eq_true rfl) (fun u1 => ?_) (fun E => tw_out rfl (by decide) (by decide))
  refine tw_iload_n (k := 4) rfl rfl ?_
  refine tw_iconst (k := 5) (0 : Int32) rfl (by decide) ?_
  refine tw_bipush (k := 6) (9 : Int32) rfl (by decide) ?_
  refine tw_callSX (k := 7) (d' := 6) (mc' := 1) (ms' := 6) tw_cU tw_cUi [.int a3, .int (0 : Int32), .int (9 : Int32)] rfl rfl ws_RX11_250_X11_needNumber mo_X11_needNumber rfl (fun Q9 => K_X11_needNumber Q9 a3 (0 : Int32) (9 : Int32)) (by omega) (by decide) (by decide) (Nat.le_of_ble_eq_true rfl) (fun u2 => ?_) (fun E => tw_out rfl (by decide) (by decide))
  refine tw_aload_n (k := 8) rfl rfl ?_
  refine tw_getR (k := 9) rfl fl_RX11_32 (fun x3 => ?_)
  refine tw_aload_n (k := 10) rfl rfl ?_
  refine tw_getR (k := 11) rfl fl_RX11_19 (fun x4 => ?_)
  refine tw_callV (k := 12) (d' := 3) (mc' := 0) (ms' := 0) tw_cU tw_cUi [.ref x4] rfl rfl wv_RX11_229_X3_remember mo_X3_remember (t := 3) rfl rfl rfl (fun Q9 => K_X3_remember Q9 x3 x4) (by omega) (by decide) (by decide) (Nat.le_of_ble_eq_true rfl) (fun u5 => ?_)
  refine tw_aload_n (k := 13) rfl rfl ?_
  refine tw_getR (k := 14) rfl fl_RX11_19 (fun x6 => ?_)
  refine tw_iload_n (k := 15) rfl rfl ?_
  refine tw_iload_n (k := 16) rfl rfl ?_
  refine tw_callV (k := 17) (d' := 2) (mc' := 0) (ms' := 0) tw_cI tw_cIi [.int a1, .int a2] rfl rfl wv_RX11_191_X8_guessOf mo_X8_guessOf (t := 7) rfl rfl rfl (fun Q9 => K_X8_guessOf Q9 x6 a1 a2) (by omega) (by decide) (by decide) (Nat.le_of_ble_eq_true rfl) (fun x7 => ?_)
  refine tw_ist (k := 18) [some (.ref a0), some (.int a1), some (.int a2), some (.int a3), some (.int x7)] rfl (Nat.le_of_ble_eq_true rfl) rfl rfl ?_
  refine tw_aload_n (k := 19) rfl rfl ?_
  refine tw_getR (k := 20) rfl fl_RX11_19 (fun x8 => ?_)
  refine tw_iload_n (k := 21) rfl rfl ?_
  refine tw_iload_n (k := 22) rfl rfl ?_
  refine tw_iload_n (k := 23) rfl rfl ?_
  refine tw_callV (k := 24) (d' := 2) (mc' := 0) (ms' := 0) tw_cU tw_cUi [.int a1, .int a2, .int a3] rfl rfl wv_RX11_253_X8_setGuess mo_X8_setGuess (t := 7) rfl rfl rfl (fun Q9 => K_X8_setGuess Q9 x8 a1 a2 a3) (by omega) (by decide) (by decide) (Nat.le_of_ble_eq_true rfl) (fun u9 => ?_)
  refine tw_iload (k := 25) rfl rfl ?_
  exact tw_ireturn (k := 26) rfl rfl (by decide) (by decide)
def mX11_forget : tw_MD := (yX11_forget, cX11_forget, 3, (some FieldType.int), [(0, .aload_n 0, 1, 1), (1, .iload_n 1, 1, 2), (2, .invokevirtual 142, 3, 5), (5, .aload_n 0, 1, 6), (6, .getfield 32, 3, 9), (9, .aload_n 0, 1, 10), (10, .getfield 19, 3, 13), (13, .invokevirtual 229, 3, 16), (16, .aload_n 0, 1, 17), (17, .getfield 19, 3, 20), (20, .iload_n 1, 1, 21), (21, .invokevirtual 256, 3, 24), (24, .aload_n 0, 1, 25), (25, .getfield 19, 3, 28), (28, .iload_n 1, 1, 29), (29, .invokevirtual 259, 3, 32), (32, .iadd, 1, 33), (33, .istore_n 2, 1, 34), (34, .aload_n 0, 1, 35), (35, .getfield 19, 3, 38), (38, .iload_n 1, 1, 39), (39, .invokevirtual 262, 3, 42), (42, .iload_n 2, 1, 43), (43, .ireturn, 1, 44)], [])
theorem mo_X11_forget : tw_mok mX11_forget 1 := ⟨plainFor_of_name (by decide +kernel), by decide +kernel, by decide +kernel, by decide +kernel, by decide +kernel⟩
theorem dk_X11_forget : tw_dk mX11_forget := by unfold tw_dk; decide +kernel
theorem wv_RX11_262_X8_clearGuesses : tw_wV RX11 262 mX8_clearGuesses := ⟨List.mem_of_getElem? (i := 1477) (by decide +kernel), List.mem_of_getElem? (i := 1478) (by decide +kernel), List.mem_of_getElem? (i := 1479) (by decide +kernel), List.mem_of_getElem? (i := 126) (by decide +kernel), List.mem_of_getElem? (i := 1480) (by decide +kernel)⟩
theorem wv_RX11_259_X8_guessesOn : tw_wV RX11 259 mX8_guessesOn := ⟨List.mem_of_getElem? (i := 1476) (by decide +kernel), List.mem_of_getElem? (i := 779) (by decide +kernel), List.mem_of_getElem? (i := 780) (by decide +kernel), List.mem_of_getElem? (i := 126) (by decide +kernel), List.mem_of_getElem? (i := 781) (by decide +kernel)⟩
theorem wv_RX11_256_X8_guessesBy : tw_wV RX11 256 mX8_guessesBy := ⟨List.mem_of_getElem? (i := 1475) (by decide +kernel), List.mem_of_getElem? (i := 791) (by decide +kernel), List.mem_of_getElem? (i := 792) (by decide +kernel), List.mem_of_getElem? (i := 126) (by decide +kernel), List.mem_of_getElem? (i := 793) (by decide +kernel)⟩
set_option maxRecDepth 20000 in
theorem K_X11_forget {g : tw_Gx} (Q : tw_Rs → tw_Mem → Prop) (a0 : Nat) (a1 : Int32) : tw_Kt g mX11_forget 7 1 6 [.ref a0, .int a1] Q (f_X11_forget a0 a1 (fun v => Q (.inl (some (.int v)))) (fun E => Q (.inr E))) := by
  refine tw_mkK (L := [some (.ref a0), some (.int a1), none]) mo_X11_forget dk_X11_forget rfl (Nat.le_of_ble_eq_true rfl) rfl ?_
  unfold f_X11_forget
  refine tw_aload_n (k := 0) rfl rfl ?_
  refine tw_iload_n (k := 1) rfl rfl ?_
  refine tw_callVX (k := 2) (d' := 6) (mc' := 1) (ms' := 6) tw_cU tw_cUi [.int a1] rfl rfl wv_RX11_142_X11_needPerson mo_X11_needPerson (t := 10) rfl rfl rfl (fun Q9 => K_X11_needPerson Q9 a0 a1) (by omega) (by decide) (by decide) (Nat.le_of_ble_eq_true rfl) (fun u1 => ?_) (fun E => tw_out rfl (by decide) (by decide))
  refine tw_aload_n (k := 3) rfl rfl ?_
  refine tw_getR (k := 4) rfl fl_RX11_32 (fun x2 => ?_)
  refine tw_aload_n (k := 5) rfl rfl ?_
  refine tw_getR (k := 6) rfl fl_RX11_19 (fun x3 => ?_)
  refine tw_callV (k := 7) (d' := 3) (mc' := 0) (ms' := 0) tw_cU tw_cUi [.ref x3] rfl rfl wv_RX11_229_X3_remember mo_X3_remember (t := 3) rfl rfl rfl (fun Q9 => K_X3_remember Q9 x2 x3) (by omega) (by decide) (by decide) (Nat.le_of_ble_eq_true rfl) (fun u4 => ?_)
  refine tw_aload_n (k := 8) rfl rfl ?_
  refine tw_getR (k := 9) rfl fl_RX11_19 (fun x5 => ?_)
  refine tw_iload_n (k := 10) rfl rfl ?_
  refine tw_callV (k := 11) (d' := 3) (mc' := 0) (ms' := 0) tw_cI tw_cIi [.int a1] rfl rfl wv_RX11_256_X8_guessesBy mo_X8_guessesBy (t := 7) rfl rfl rfl (fun Q9 => K_X8_guessesBy Q9 x5 a1) (by omega) (by decide) (by decide) (Nat.le_of_ble_eq_true rfl) (fun x6 => ?_)
  refine tw_aload_n (k := 12) rfl rfl ?_
  refine tw_getR (k := 13) rfl fl_RX11_19 (fun x7 => ?_)
  refine tw_iload_n (k := 14) rfl rfl ?_
  refine tw_callV (k := 15) (d' := 3) (mc' := 0) (ms' := 0) tw_cI tw_cIi [.int a1] rfl rfl wv_RX11_259_X8_guessesOn mo_X8_guessesOn (t := 7) rfl rfl rfl (fun Q9 => K_X8_guessesOn Q9 x7 a1) (by omega) (by decide) (by decide) (Nat.le_of_ble_eq_true rfl) (fun x8 => ?_)
  refine tw_iadd (k := 16) rfl ?_
  refine tw_let (fun x9 => [some (.ref a0), some (.int a1), none]) (fun x9 => .int x9 :: []) rfl rfl (fun x9 => ?_)
  refine tw_ist_n (k := 17) [some (.ref a0), some (.int a1), some (.int x9)] rfl (Nat.le_of_ble_eq_true rfl) rfl rfl ?_
  refine tw_aload_n (k := 18) rfl rfl ?_
  refine tw_getR (k := 19) rfl fl_RX11_19 (fun x10 => ?_)
  refine tw_iload_n (k := 20) rfl rfl ?_
  refine tw_callV (k := 21) (d' := 3) (mc' := 0) (ms' := 0) tw_cU tw_cUi [.int a1] rfl rfl wv_RX11_262_X8_clearGuesses mo_X8_clearGuesses (t := 7) rfl rfl rfl (fun Q9 => K_X8_clearGuesses Q9 x10 a1) (by omega) (by decide) (by decide) (Nat.le_of_ble_eq_true rfl) (fun u11 => ?_)
  refine tw_iload_n (k := 22) rfl rfl ?_
  exact tw_ireturn (k := 23) rfl rfl (by decide) (by decide)
def mX11_hours : tw_MD := (yX11_hours, cX11_hours, 2, (some FieldType.int), [(0, .iload_n 1, 1, 1), (1, .iconst 1, 1, 2), (2, .bipush 120, 2, 4), (4, .invokestatic 250, 3, 7), (7, .aload_n 0, 1, 8), (8, .getfield 32, 3, 11), (11, .aload_n 0, 1, 12), (12, .getfield 19, 3, 15), (15, .invokevirtual 229, 3, 18), (18, .aload_n 0, 1, 19), (19, .getfield 19, 3, 22), (22, .iload_n 1, 1, 23), (23, .iconst 1, 1, 24), (24, .aload_n 0, 1, 25), (25, .getfield 80, 3, 28), (28, .aload_n 0, 1, 29), (29, .getfield 57, 3, 32), (32, .invokevirtual 265, 3, 35), (35, .ireturn, 1, 36)], [])
theorem mo_X11_hours : tw_mok mX11_hours 1 := ⟨plainFor_of_name (by decide +kernel), by decide +kernel, by decide +kernel, by decide +kernel, by decide +kernel⟩
theorem dk_X11_hours : tw_dk mX11_hours := by unfold tw_dk; decide +kernel
theorem wv_RX11_265_X8_passHours : tw_wV RX11 265 mX8_passHours := ⟨List.mem_of_getElem? (i := 1489) (by decide +kernel), List.mem_of_getElem? (i := 1490) (by decide +kernel), List.mem_of_getElem? (i := 1491) (by decide +kernel), List.mem_of_getElem? (i := 126) (by decide +kernel), List.mem_of_getElem? (i := 1492) (by decide +kernel)⟩
set_option maxRecDepth 20000 in
theorem K_X11_hours {g : tw_Gx} (Q : tw_Rs → tw_Mem → Prop) (a0 : Nat) (a1 : Int32) : tw_Kt g mX11_hours 8 1 6 [.ref a0, .int a1] Q (f_X11_hours a0 a1 (fun v => Q (.inl (some (.int v)))) (fun E => Q (.inr E))) := by
  refine tw_mkK (L := [some (.ref a0), some (.int a1)]) mo_X11_hours dk_X11_hours rfl (Nat.le_of_ble_eq_true rfl) rfl ?_
  unfold f_X11_hours
  refine tw_iload_n (k := 0) rfl rfl ?_
  refine tw_iconst (k := 1) (1 : Int32) rfl (by decide) ?_
  refine tw_bipush (k := 2) (120 : Int32) rfl (by decide) ?_
  refine tw_callSX (k := 3) (d' := 6) (mc' := 1) (ms' := 6) tw_cU tw_cUi [.int a1, .int (1 : Int32), .int (120 : Int32)] rfl rfl ws_RX11_250_X11_needNumber mo_X11_needNumber rfl (fun Q9 => K_X11_needNumber Q9 a1 (1 : Int32) (120 : Int32)) (by omega) (by decide) (by decide) (Nat.le_of_ble_eq_true rfl) (fun u1 => ?_) (fun E => tw_out rfl (by decide) (by decide))
  refine tw_aload_n (k := 4) rfl rfl ?_
  refine tw_getR (k := 5) rfl fl_RX11_32 (fun x2 => ?_)
  refine tw_aload_n (k := 6) rfl rfl ?_
  refine tw_getR (k := 7) rfl fl_RX11_19 (fun x3 => ?_)
  refine tw_callV (k := 8) (d' := 3) (mc' := 0) (ms' := 0) tw_cU tw_cUi [.ref x3] rfl rfl wv_RX11_229_X3_remember mo_X3_remember (t := 3) rfl rfl rfl (fun Q9 => K_X3_remember Q9 x2 x3) (by omega) (by decide) (by decide) (Nat.le_of_ble_eq_true rfl) (fun u4 => ?_)
  refine tw_aload_n (k := 9) rfl rfl ?_
  refine tw_getR (k := 10) rfl fl_RX11_19 (fun x5 => ?_)
  refine tw_iload_n (k := 11) rfl rfl ?_
  refine tw_iconst (k := 12) (1 : Int32) rfl (by decide) ?_
  refine tw_aload_n (k := 13) rfl rfl ?_
  refine tw_getR (k := 14) rfl fl_RX11_80 (fun x6 => ?_)
  refine tw_aload_n (k := 15) rfl rfl ?_
  refine tw_getR (k := 16) rfl fl_RX11_57 (fun x7 => ?_)
  refine tw_callV (k := 17) (d' := 7) (mc' := 0) (ms' := 0) tw_cI tw_cIi [.int a1, .int (1 : Int32), .ref x6, .ref x7] rfl rfl wv_RX11_265_X8_passHours mo_X8_passHours (t := 7) rfl rfl rfl (fun Q9 => K_X8_passHours Q9 x5 a1 (1 : Int32) x6 x7) (by omega) (by decide) (by decide) (Nat.le_of_ble_eq_true rfl) (fun x8 => ?_)
  exact tw_ireturn (k := 18) rfl rfl (by decide) (by decide)
def mX11_chimes : tw_MD := (yX11_chimes, cX11_chimes, 2, (some FieldType.int), [(0, .iload_n 1, 1, 1), (1, .iconst 0, 1, 2), (2, .bipush 100, 2, 4), (4, .invokestatic 250, 3, 7), (7, .aload_n 0, 1, 8), (8, .getfield 23, 3, 11), (11, .aload_n 0, 1, 12), (12, .getfield 19, 3, 15), (15, .invokevirtual 107, 3, 18), (18, .aload_n 0, 1, 19), (19, .getfield 23, 3, 22), (22, .iload_n 1, 1, 23), (23, .iconst 0, 1, 24), (24, .aload_n 0, 1, 25), (25, .getfield 80, 3, 28), (28, .aload_n 0, 1, 29), (29, .getfield 57, 3, 32), (32, .invokevirtual 265, 3, 35), (35, .ireturn, 1, 36)], [])
theorem mo_X11_chimes : tw_mok mX11_chimes 1 := ⟨plainFor_of_name (by decide +kernel), by decide +kernel, by decide +kernel, by decide +kernel, by decide +kernel⟩
theorem dk_X11_chimes : tw_dk mX11_chimes := by unfold tw_dk; decide +kernel
set_option maxRecDepth 20000 in
theorem K_X11_chimes {g : tw_Gx} (Q : tw_Rs → tw_Mem → Prop) (a0 : Nat) (a1 : Int32) : tw_Kt g mX11_chimes 8 1 6 [.ref a0, .int a1] Q (f_X11_chimes a0 a1 (fun v => Q (.inl (some (.int v)))) (fun E => Q (.inr E))) := by
  refine tw_mkK (L := [some (.ref a0), some (.int a1)]) mo_X11_chimes dk_X11_chimes rfl (Nat.le_of_ble_eq_true rfl) rfl ?_
  unfold f_X11_chimes
  refine tw_iload_n (k := 0) rfl rfl ?_
  refine tw_iconst (k := 1) (0 : Int32) rfl (by decide) ?_
  refine tw_bipush (k := 2) (100 : Int32) rfl (by decide) ?_
  refine tw_callSX (k := 3) (d' := 6) (mc' := 1) (ms' := 6) tw_cU tw_cUi [.int a1, .int (0 : Int32), .int (100 : Int32)] rfl rfl ws_RX11_250_X11_needNumber mo_X11_needNumber rfl (fun Q9 => K_X11_needNumber Q9 a1 (0 : Int32) (100 : Int32)) (by omega) (by decide) (by decide) (Nat.le_of_ble_eq_true rfl) (fun u1 => ?_) (fun E => tw_out rfl (by decide) (by decide))
  refine tw_aload_n (k := 4) rfl rfl ?_
  refine tw_getR (k := 5) rfl fl_RX11_23 (fun x2 => ?_)
  refine tw_aload_n (k := 6) rfl rfl ?_
  refine tw_getR (k := 7) rfl fl_RX11_19 (fun x3 => ?_)
  refine tw_callV (k := 8) (d' := 2) (mc' := 0) (ms' := 0) tw_cU tw_cUi [.ref x3] rfl rfl wv_RX11_107_X8_take mo_X8_take (t := 7) rfl rfl rfl (fun Q9 => K_X8_take Q9 x2 x3) (by omega) (by decide) (by decide) (Nat.le_of_ble_eq_true rfl) (fun u4 => ?_)
  refine tw_aload_n (k := 9) rfl rfl ?_
  refine tw_getR (k := 10) rfl fl_RX11_23 (fun x5 => ?_)
  refine tw_iload_n (k := 11) rfl rfl ?_
  refine tw_iconst (k := 12) (0 : Int32) rfl (by decide) ?_
  refine tw_aload_n (k := 13) rfl rfl ?_
  refine tw_getR (k := 14) rfl fl_RX11_80 (fun x6 => ?_)
  refine tw_aload_n (k := 15) rfl rfl ?_
  refine tw_getR (k := 16) rfl fl_RX11_57 (fun x7 => ?_)
  refine tw_callV (k := 17) (d' := 7) (mc' := 0) (ms' := 0) tw_cI tw_cIi [.int a1, .int (0 : Int32), .ref x6, .ref x7] rfl rfl wv_RX11_265_X8_passHours mo_X8_passHours (t := 7) rfl rfl rfl (fun Q9 => K_X8_passHours Q9 x5 a1 (0 : Int32) x6 x7) (by omega) (by decide) (by decide) (Nat.le_of_ble_eq_true rfl) (fun x8 => ?_)
  exact tw_ireturn (k := 18) rfl rfl (by decide) (by decide)
def mX11_lasts : tw_MD := (yX11_lasts, cX11_lasts, 3, (some FieldType.int), [(0, .aload_n 0, 1, 1), (1, .iload_n 1, 1, 2), (2, .iload_n 2, 1, 3), (3, .invokevirtual 187, 3, 6), (6, .aload_n 0, 1, 7), (7, .getfield 66, 3, 10), (10, .iload_n 1, 1, 11), (11, .iload_n 2, 1, 12), (12, .aload_n 0, 1, 13), (13, .getfield 80, 3, 16), (16, .invokevirtual 269, 3, 19), (19, .ireturn, 1, 20)], [])
theorem mo_X11_lasts : tw_mok mX11_lasts 2 := ⟨plainFor_of_name (by decide +kernel), by decide +kernel, by decide +kernel, by decide +kernel, by decide +kernel⟩
theorem dk_X11_lasts : tw_dk mX11_lasts := by unfold tw_dk; decide +kernel
theorem wv_RX11_269_X4_timesOf : tw_wV RX11 269 mX4_timesOf := ⟨List.mem_of_getElem? (i := 1545) (by decide +kernel), List.mem_of_getElem? (i := 536) (by decide +kernel), List.mem_of_getElem? (i := 537) (by decide +kernel), List.mem_of_getElem? (i := 134) (by decide +kernel), List.mem_of_getElem? (i := 538) (by decide +kernel)⟩
set_option maxRecDepth 20000 in
theorem K_X11_lasts {g : tw_Gx} (Q : tw_Rs → tw_Mem → Prop) (a0 : Nat) (a1 : Int32) (a2 : Int32) : tw_Kt g mX11_lasts 8 3 18 [.ref a0, .int a1, .int a2] Q (f_X11_lasts a0 a1 a2 (fun v => Q (.inl (some (.int v)))) (fun E => Q (.inr E))) := by
  refine tw_mkK (L := [some (.ref a0), some (.int a1), some (.int a2)]) mo_X11_lasts dk_X11_lasts rfl (Nat.le_of_ble_eq_true rfl) rfl ?_
  unfold f_X11_lasts
  refine tw_aload_n (k := 0) rfl rfl ?_
  refine tw_iload_n (k := 1) rfl rfl ?_
  refine tw_iload_n (k := 2) rfl rfl ?_
  refine tw_callVX (k := 3) (d' := 7) (mc' := 3) (ms' := 18) tw_cU tw_cUi [.int a1, .int a2] rfl rfl wv_RX11_187_X11_needTwo mo_X11_needTwo (t := 10) rfl rfl rfl (fun Q9 => K_X11_needTwo Q9 a0 a1 a2) (by omega) (by decide) (by decide) (Nat.le_of_ble_eq_true rfl) (fun u1 => ?_) (fun E => tw_out rfl (by decide) (by decide))
  refine tw_aload_n (k := 4) rfl rfl ?_
  refine tw_getR (k := 5) rfl fl_RX11_66 (fun x2 => ?_)
  refine tw_iload_n (k := 6) rfl rfl ?_
  refine tw_iload_n (k := 7) rfl rfl ?_
  refine tw_aload_n (k := 8) rfl rfl ?_
  refine tw_getR (k := 9) rfl fl_RX11_80 (fun x3 => ?_)
  refine tw_callV (k := 10) (d' := 6) (mc' := 0) (ms' := 0) tw_cI tw_cIi [.int a1, .int a2, .ref x3] rfl rfl wv_RX11_269_X4_timesOf mo_X4_timesOf (t := 4) rfl rfl rfl (fun Q9 => K_X4_timesOf Q9 x2 a1 a2 x3) (by omega) (by decide) (by decide) (Nat.le_of_ble_eq_true rfl) (fun x4 => ?_)
  exact tw_ireturn (k := 11) rfl rfl (by decide) (by decide)
def mX11_longest : tw_MD := (yX11_longest, cX11_longest, 1, (some FieldType.int), [(0, .aload_n 0, 1, 1), (1, .getfield 66, 3, 4), (4, .aload_n 0, 1, 5), (5, .getfield 80, 3, 8), (8, .invokevirtual 273, 3, 11), (11, .ireturn, 1, 12)], [])
theorem mo_X11_longest : tw_mok mX11_longest 0 := ⟨plainFor_of_name (by decide +kernel), by decide +kernel, by decide +kernel, by decide +kernel, by decide +kernel⟩
theorem dk_X11_longest : tw_dk mX11_longest := by unfold tw_dk; decide +kernel
theorem wv_RX11_273_X4_longestPair : tw_wV RX11 273 mX4_longestPair := ⟨List.mem_of_getElem? (i := 517) (by decide +kernel), List.mem_of_getElem? (i := 518) (by decide +kernel), List.mem_of_getElem? (i := 519) (by decide +kernel), List.mem_of_getElem? (i := 134) (by decide +kernel), List.mem_of_getElem? (i := 520) (by decide +kernel)⟩
set_option maxRecDepth 20000 in
theorem K_X11_longest {g : tw_Gx} (Q : tw_Rs → tw_Mem → Prop) (a0 : Nat) : tw_Kt g mX11_longest 8 0 0 [.ref a0] Q (f_X11_longest a0 (fun v => Q (.inl (some (.int v))))) := by
  refine tw_mkK (L := [some (.ref a0)]) mo_X11_longest dk_X11_longest rfl (Nat.le_of_ble_eq_true rfl) rfl ?_
  unfold f_X11_longest
  refine tw_aload_n (k := 0) rfl rfl ?_
  refine tw_getR (k := 1) rfl fl_RX11_66 (fun x1 => ?_)
  refine tw_aload_n (k := 2) rfl rfl ?_
  refine tw_getR (k := 3) rfl fl_RX11_80 (fun x2 => ?_)
  refine tw_callV (k := 4) (d' := 7) (mc' := 0) (ms' := 0) tw_cI tw_cIi [.ref x2] rfl rfl wv_RX11_273_X4_longestPair mo_X4_longestPair (t := 4) rfl rfl rfl (fun Q9 => K_X4_longestPair Q9 x1 x2) (by omega) (by decide) (by decide) (Nat.le_of_ble_eq_true rfl) (fun x3 => ?_)
  exact tw_ireturn (k := 5) rfl rfl (by decide) (by decide)
def mX11_teams : tw_MD := (yX11_teams, cX11_teams, 2, (some FieldType.int), [(0, .iload_n 1, 1, 1), (1, .iconst (-1), 1, 2), (2, .if_icmp .eq 8, 3, 5), (5, .aload_n 0, 1, 6), (6, .iload_n 1, 1, 7), (7, .invokevirtual 142, 3, 10), (10, .aload_n 0, 1, 11), (11, .getfield 66, 3, 14), (14, .aload_n 0, 1, 15), (15, .getfield 73, 3, 18), (18, .aload_n 0, 1, 19), (19, .getfield 80, 3, 22), (22, .invokevirtual 277, 3, 25), (25, .aload_n 0, 1, 26), (26, .getfield 73, 3, 29), (29, .aload_n 0, 1, 30), (30, .getfield 19, 3, 33), (33, .invokevirtual 281, 3, 36), (36, .iload_n 1, 1, 37), (37, .iconst (-1), 1, 38), (38, .if_icmp .ne 13, 3, 41), (41, .aload_n 0, 1, 42), (42, .getfield 73, 3, 45), (45, .invokevirtual 284, 3, 48), (48, .goto 11, 3, 51), (51, .aload_n 0, 1, 52), (52, .getfield 73, 3, 55), (55, .iload_n 1, 1, 56), (56, .invokevirtual 287, 3, 59), (59, .ireturn, 1, 60)], [])
theorem mo_X11_teams : tw_mok mX11_teams 1 := ⟨plainFor_of_name (by decide +kernel), by decide +kernel, by decide +kernel, by decide +kernel, by decide +kernel⟩
theorem dk_X11_teams : tw_dk mX11_teams := by unfold tw_dk; decide +kernel
theorem wv_RX11_287_X5_mateOf : tw_wV RX11 287 mX5_mateOf := ⟨List.mem_of_getElem? (i := 1591) (by decide +kernel), List.mem_of_getElem? (i := 1592) (by decide +kernel), List.mem_of_getElem? (i := 1593) (by decide +kernel), List.mem_of_getElem? (i := 135) (by decide +kernel), List.mem_of_getElem? (i := 1594) (by decide +kernel)⟩
theorem wv_RX11_284_X5_mostTogether : tw_wV RX11 284 mX5_mostTogether := ⟨List.mem_of_getElem? (i := 1587) (by decide +kernel), List.mem_of_getElem? (i := 1588) (by decide +kernel), List.mem_of_getElem? (i := 1589) (by decide +kernel), List.mem_of_getElem? (i := 135) (by decide +kernel), List.mem_of_getElem? (i := 1590) (by decide +kernel)⟩
theorem wv_RX11_281_X5_putTogether : tw_wV RX11 281 mX5_putTogether := ⟨List.mem_of_getElem? (i := 1562) (by decide +kernel), List.mem_of_getElem? (i := 1563) (by decide +kernel), List.mem_of_getElem? (i := 1564) (by decide +kernel), List.mem_of_getElem? (i := 135) (by decide +kernel), List.mem_of_getElem? (i := 1565) (by decide +kernel)⟩
theorem wv_RX11_277_X4_weighFor : tw_wV RX11 277 mX4_weighFor := ⟨List.mem_of_getElem? (i := 1553) (by decide +kernel), List.mem_of_getElem? (i := 1554) (by decide +kernel), List.mem_of_getElem? (i := 1555) (by decide +kernel), List.mem_of_getElem? (i := 134) (by decide +kernel), List.mem_of_getElem? (i := 1556) (by decide +kernel)⟩
set_option maxRecDepth 20000 in
theorem K_X11_teams {g : tw_Gx} (Q : tw_Rs → tw_Mem → Prop) (a0 : Nat) (a1 : Int32) : tw_Kt g mX11_teams 8 1 6 [.ref a0, .int a1] Q (f_X11_teams a0 a1 (fun v => Q (.inl (some (.int v)))) (fun E => Q (.inr E))) := by
  refine tw_mkK (L := [some (.ref a0), some (.int a1)]) mo_X11_teams dk_X11_teams rfl (Nat.le_of_ble_eq_true rfl) rfl ?_
  unfold f_X11_teams
  refine tw_iload_n (k := 0) rfl rfl ?_
  refine tw_iconst (k := 1) (-1 : Int32) rfl (by decide) ?_
  refine tw_join 10 (fun s2 => [some (.ref a0), some (.int a1)]) (fun s2 => []) 1 6 (fun s2 => ?_) (fun j1 g1 => ?_)
  · refine tw_aload_n (k := 6) rfl rfl ?_
    refine tw_getR (k := 7) rfl fl_RX11_66 (fun x3 => ?_)
    refine tw_aload_n (k := 8) rfl rfl ?_
    refine tw_getR (k := 9) rfl fl_RX11_73 (fun x4 => ?_)
    refine tw_aload_n (k := 10) rfl rfl ?_
    refine tw_getR (k := 11) rfl fl_RX11_80 (fun x5 => ?_)
    refine tw_callV (k := 12) (d' := 7) (mc' := 0) (ms' := 0) tw_cU tw_cUi [.ref x4, .ref x5] rfl rfl wv_RX11_277_X4_weighFor mo_X4_weighFor (t := 4) rfl rfl rfl (fun Q9 => K_X4_weighFor Q9 x3 x4 x5) (by omega) (by decide) (by decide) (Nat.le_of_ble_eq_true rfl) (fun u6 => ?_)
    refine tw_aload_n (k := 13) rfl rfl ?_
    refine tw_getR (k := 14) rfl fl_RX11_73 (fun x7 => ?_)
    refine tw_aload_n (k := 15) rfl rfl ?_
    refine tw_getR (k := 16) rfl fl_RX11_19 (fun x8 => ?_)
    refine tw_callV (k := 17) (d' := 4) (mc' := 0) (ms' := 0) tw_cU tw_cUi [.ref x8] rfl rfl wv_RX11_281_X5_putTogether mo_X5_putTogether (t := 5) rfl rfl rfl (fun Q9 => K_X5_putTogether Q9 x7 x8) (by omega) (by decide) (by decide) (Nat.le_of_ble_eq_true rfl) (fun u9 => ?_)
    refine tw_iload_n (k := 18) rfl rfl ?_
    refine tw_iconst (k := 19) (-1 : Int32) rfl (by decide) ?_
    refine tw_icmp_ne (k := 20) 51 rfl (by decide) ?_ ?_
    · refine tw_aload_n (k := 25) rfl rfl ?_
      refine tw_getR (k := 26) rfl fl_RX11_73 (fun x10 => ?_)
      refine tw_iload_n (k := 27) rfl rfl ?_
      refine tw_callV (k := 28) (d' := 1) (mc' := 0) (ms' := 0) tw_cI tw_cIi [.int a1] rfl rfl wv_RX11_287_X5_mateOf mo_X5_mateOf (t := 5) rfl rfl rfl (fun Q9 => K_X5_mateOf Q9 x10 a1) (by omega) (by decide) (by decide) (Nat.le_of_ble_eq_true rfl) (fun x11 => ?_)
      exact tw_ireturn (k := 29) rfl rfl (by decide) (by decide)
    · refine tw_aload_n (k := 21) rfl rfl ?_
      refine tw_getR (k := 22) rfl fl_RX11_73 (fun x12 => ?_)
      refine tw_callV (k := 23) (d' := 2) (mc' := 0) (ms' := 0) tw_cI tw_cIi [] rfl rfl wv_RX11_284_X5_mostTogether mo_X5_mostTogether (t := 5) rfl rfl rfl (fun Q9 => K_X5_mostTogether Q9 x12) (by omega) (by decide) (by decide) (Nat.le_of_ble_eq_true rfl) (fun x13 => ?_)
      refine tw_goto (k := 24) 59 rfl (by decide) ?_
      exact tw_ireturn (k := 29) rfl rfl (by decide) (by decide)
  · refine tw_icmp_eq (k := 2) 10 rfl (by decide) ?_ ?_
    · refine tw_wide (k2 := 1) (s2 := 6) (by decide) (by decide) ?_
      exact g1 ()
    · refine tw_aload_n (k := 3) rfl rfl ?_
      refine tw_iload_n (k := 4) rfl rfl ?_
      refine tw_callVX (k := 5) (d' := 6) (mc' := 1) (ms' := 6) tw_cU tw_cUi [.int a1] rfl rfl wv_RX11_142_X11_needPerson mo_X11_needPerson (t := 10) rfl rfl rfl (fun Q9 => K_X11_needPerson Q9 a0 a1) (by omega) (by decide) (by decide) (Nat.le_of_ble_eq_true rfl) (fun u14 => ?_) (fun E => tw_out rfl (by decide) (by decide))
      exact g1 ()
def mX11_fresh : tw_MD := (yX11_fresh, cX11_fresh, 1, (some FieldType.int), [(0, .aload_n 0, 1, 1), (1, .getfield 66, 3, 4), (4, .invokevirtual 290, 3, 7), (7, .ireturn, 1, 8)], [])
theorem mo_X11_fresh : tw_mok mX11_fresh 0 := ⟨plainFor_of_name (by decide +kernel), by decide +kernel, by decide +kernel, by decide +kernel, by decide +kernel⟩
theorem dk_X11_fresh : tw_dk mX11_fresh := by unfold tw_dk; decide +kernel
theorem wv_RX11_290_X4_freshPairs : tw_wV RX11 290 mX4_freshPairs := ⟨List.mem_of_getElem? (i := 620) (by decide +kernel), List.mem_of_getElem? (i := 621) (by decide +kernel), List.mem_of_getElem? (i := 622) (by decide +kernel), List.mem_of_getElem? (i := 134) (by decide +kernel), List.mem_of_getElem? (i := 623) (by decide +kernel)⟩
set_option maxRecDepth 20000 in
theorem K_X11_fresh {g : tw_Gx} (Q : tw_Rs → tw_Mem → Prop) (a0 : Nat) : tw_Kt g mX11_fresh 4 0 0 [.ref a0] Q (f_X11_fresh a0 (fun v => Q (.inl (some (.int v))))) := by
  refine tw_mkK (L := [some (.ref a0)]) mo_X11_fresh dk_X11_fresh rfl (Nat.le_of_ble_eq_true rfl) rfl ?_
  unfold f_X11_fresh
  refine tw_aload_n (k := 0) rfl rfl ?_
  refine tw_getR (k := 1) rfl fl_RX11_66 (fun x1 => ?_)
  refine tw_callV (k := 2) (d' := 3) (mc' := 0) (ms' := 0) tw_cI tw_cIi [] rfl rfl wv_RX11_290_X4_freshPairs mo_X4_freshPairs (t := 4) rfl rfl rfl (fun Q9 => K_X4_freshPairs Q9 x1) (by omega) (by decide) (by decide) (Nat.le_of_ble_eq_true rfl) (fun x2 => ?_)
  exact tw_ireturn (k := 3) rfl rfl (by decide) (by decide)
def mX11_crowd : tw_MD := (yX11_crowd, cX11_crowd, 1, (some FieldType.int), [(0, .aload_n 0, 1, 1), (1, .getfield 73, 3, 4), (4, .aload_n 0, 1, 5), (5, .getfield 19, 3, 8), (8, .bipush 9, 2, 10), (10, .invokevirtual 293, 3, 13), (13, .aload_n 0, 1, 14), (14, .getfield 73, 3, 17), (17, .invokevirtual 297, 3, 20), (20, .ireturn, 1, 21)], [])
theorem mo_X11_crowd : tw_mok mX11_crowd 0 := ⟨plainFor_of_name (by decide +kernel), by decide +kernel, by decide +kernel, by decide +kernel, by decide +kernel⟩
theorem dk_X11_crowd : tw_dk mX11_crowd := by unfold tw_dk; decide +kernel
theorem wv_RX11_297_X5_greatestApart : tw_wV RX11 297 mX5_greatestApart := ⟨List.mem_of_getElem? (i := 639) (by decide +kernel), List.mem_of_getElem? (i := 640) (by decide +kernel), List.mem_of_getElem? (i := 641) (by decide +kernel), List.mem_of_getElem? (i := 135) (by decide +kernel), List.mem_of_getElem? (i := 642) (by decide +kernel)⟩
theorem wv_RX11_293_X5_guessRows : tw_wV RX11 293 mX5_guessRows := ⟨List.mem_of_getElem? (i := 629) (by decide +kernel), List.mem_of_getElem? (i := 630) (by decide +kernel), List.mem_of_getElem? (i := 631) (by decide +kernel), List.mem_of_getElem? (i := 135) (by decide +kernel), List.mem_of_getElem? (i := 632) (by decide +kernel)⟩
set_option maxRecDepth 20000 in
theorem K_X11_crowd {g : tw_Gx} (Q : tw_Rs → tw_Mem → Prop) (a0 : Nat) : tw_Kt g mX11_crowd 5 0 0 [.ref a0] Q (f_X11_crowd a0 (fun v => Q (.inl (some (.int v))))) := by
  refine tw_mkK (L := [some (.ref a0)]) mo_X11_crowd dk_X11_crowd rfl (Nat.le_of_ble_eq_true rfl) rfl ?_
  unfold f_X11_crowd
  refine tw_aload_n (k := 0) rfl rfl ?_
  refine tw_getR (k := 1) rfl fl_RX11_73 (fun x1 => ?_)
  refine tw_aload_n (k := 2) rfl rfl ?_
  refine tw_getR (k := 3) rfl fl_RX11_19 (fun x2 => ?_)
  refine tw_bipush (k := 4) (9 : Int32) rfl (by decide) ?_
  refine tw_callV (k := 5) (d' := 4) (mc' := 0) (ms' := 0) tw_cU tw_cUi [.ref x2, .int (9 : Int32)] rfl rfl wv_RX11_293_X5_guessRows mo_X5_guessRows (t := 5) rfl rfl rfl (fun Q9 => K_X5_guessRows Q9 x1 x2 (9 : Int32)) (by omega) (by decide) (by decide) (Nat.le_of_ble_eq_true rfl) (fun u3 => ?_)
  refine tw_aload_n (k := 6) rfl rfl ?_
  refine tw_getR (k := 7) rfl fl_RX11_73 (fun x4 => ?_)
  refine tw_callV (k := 8) (d' := 4) (mc' := 0) (ms' := 0) tw_cI tw_cIi [] rfl rfl wv_RX11_297_X5_greatestApart mo_X5_greatestApart (t := 5) rfl rfl rfl (fun Q9 => K_X5_greatestApart Q9 x4) (by omega) (by decide) (by decide) (Nat.le_of_ble_eq_true rfl) (fun x5 => ?_)
  exact tw_ireturn (k := 9) rfl rfl (by decide) (by decide)
def mX11_go : tw_MD := (yX11_go, cX11_go, 1, (some FieldType.int), [(0, .aload_n 0, 1, 1), (1, .getfield 73, 3, 4), (4, .aload_n 0, 1, 5), (5, .getfield 19, 3, 8), (8, .bipush 9, 2, 10), (10, .invokevirtual 293, 3, 13), (13, .aload_n 0, 1, 14), (14, .getfield 73, 3, 17), (17, .invokevirtual 300, 3, 20), (20, .ireturn, 1, 21)], [])
theorem mo_X11_go : tw_mok mX11_go 0 := ⟨plainFor_of_name (by decide +kernel), by decide +kernel, by decide +kernel, by decide +kernel, by decide +kernel⟩
theorem dk_X11_go : tw_dk mX11_go := by unfold tw_dk; decide +kernel
theorem wv_RX11_300_X5_fewestGone : tw_wV RX11 300 mX5_fewestGone := ⟨List.mem_of_getElem? (i := 670) (by decide +kernel), List.mem_of_getElem? (i := 671) (by decide +kernel), List.mem_of_getElem? (i := 672) (by decide +kernel), List.mem_of_getElem? (i := 135) (by decide +kernel), List.mem_of_getElem? (i := 673) (by decide +kernel)⟩
set_option maxRecDepth 20000 in
theorem K_X11_go {g : tw_Gx} (Q : tw_Rs → tw_Mem → Prop) (a0 : Nat) : tw_Kt g mX11_go 5 0 0 [.ref a0] Q (f_X11_go a0 (fun v => Q (.inl (some (.int v))))) := by
  refine tw_mkK (L := [some (.ref a0)]) mo_X11_go dk_X11_go rfl (Nat.le_of_ble_eq_true rfl) rfl ?_
  unfold f_X11_go
  refine tw_aload_n (k := 0) rfl rfl ?_
  refine tw_getR (k := 1) rfl fl_RX11_73 (fun x1 => ?_)
  refine tw_aload_n (k := 2) rfl rfl ?_
  refine tw_getR (k := 3) rfl fl_RX11_19 (fun x2 => ?_)
  refine tw_bipush (k := 4) (9 : Int32) rfl (by decide) ?_
  refine tw_callV (k := 5) (d' := 4) (mc' := 0) (ms' := 0) tw_cU tw_cUi [.ref x2, .int (9 : Int32)] rfl rfl wv_RX11_293_X5_guessRows mo_X5_guessRows (t := 5) rfl rfl rfl (fun Q9 => K_X5_guessRows Q9 x1 x2 (9 : Int32)) (by omega) (by decide) (by decide) (Nat.le_of_ble_eq_true rfl) (fun u3 => ?_)
  refine tw_aload_n (k := 6) rfl rfl ?_
  refine tw_getR (k := 7) rfl fl_RX11_73 (fun x4 => ?_)
  refine tw_callV (k := 8) (d' := 4) (mc' := 0) (ms' := 0) tw_cI tw_cIi [] rfl rfl wv_RX11_300_X5_fewestGone mo_X5_fewestGone (t := 5) rfl rfl rfl (fun Q9 => K_X5_fewestGone Q9 x4) (by omega) (by decide) (by decide) (Nat.le_of_ble_eq_true rfl) (fun x5 => ?_)
  exact tw_ireturn (k := 9) rfl rfl (by decide) (by decide)
def mX11_cut : tw_MD := (yX11_cut, cX11_cut, 3, (some FieldType.int), [(0, .aload_n 0, 1, 1), (1, .getfield 73, 3, 4), (4, .aload_n 0, 1, 5), (5, .getfield 19, 3, 8), (8, .invokevirtual 303, 3, 11), (11, .aload_n 0, 1, 12), (12, .getfield 73, 3, 15), (15, .invokevirtual 306, 3, 18), (18, .istore_n 2, 1, 19), (19, .iload_n 1, 1, 20), (20, .ifCond .eq 14, 3, 23), (23, .aload_n 0, 1, 24), (24, .getfield 73, 3, 27), (27, .iload_n 2, 1, 28), (28, .invokevirtual 309, 3, 31), (31, .goto 4, 3, 34), (34, .iload_n 2, 1, 35), (35, .ireturn, 1, 36)], [])
theorem mo_X11_cut : tw_mok mX11_cut 1 := ⟨plainFor_of_name (by decide +kernel), by decide +kernel, by decide +kernel, by decide +kernel, by decide +kernel⟩
theorem dk_X11_cut : tw_dk mX11_cut := by unfold tw_dk; decide +kernel
theorem wv_RX11_309_X5_across : tw_wV RX11 309 mX5_across := ⟨List.mem_of_getElem? (i := 699) (by decide +kernel), List.mem_of_getElem? (i := 696) (by decide +kernel), List.mem_of_getElem? (i := 697) (by decide +kernel), List.mem_of_getElem? (i := 135) (by decide +kernel), List.mem_of_getElem? (i := 698) (by decide +kernel)⟩
theorem wv_RX11_306_X5_bestParting : tw_wV RX11 306 mX5_bestParting := ⟨List.mem_of_getElem? (i := 691) (by decide +kernel), List.mem_of_getElem? (i := 692) (by decide +kernel), List.mem_of_getElem? (i := 693) (by decide +kernel), List.mem_of_getElem? (i := 135) (by decide +kernel), List.mem_of_getElem? (i := 694) (by decide +kernel)⟩
theorem wv_RX11_303_X5_ringRows : tw_wV RX11 303 mX5_ringRows := ⟨List.mem_of_getElem? (i := 678) (by decide +kernel), List.mem_of_getElem? (i := 679) (by decide +kernel), List.mem_of_getElem? (i := 680) (by decide +kernel), List.mem_of_getElem? (i := 135) (by decide +kernel), List.mem_of_getElem? (i := 681) (by decide +kernel)⟩
set_option maxRecDepth 20000 in
theorem K_X11_cut {g : tw_Gx} (Q : tw_Rs → tw_Mem → Prop) (a0 : Nat) (a1 : Int32) : tw_Kt g mX11_cut 6 0 0 [.ref a0, .int a1] Q (f_X11_cut a0 a1 (fun v => Q (.inl (some (.int v))))) := by
  refine tw_mkK (L := [some (.ref a0), some (.int a1), none]) mo_X11_cut dk_X11_cut rfl (Nat.le_of_ble_eq_true rfl) rfl ?_
  unfold f_X11_cut
  refine tw_aload_n (k := 0) rfl rfl ?_
  refine tw_getR (k := 1) rfl fl_RX11_73 (fun x1 => ?_)
  refine tw_aload_n (k := 2) rfl rfl ?_
  refine tw_getR (k := 3) rfl fl_RX11_19 (fun x2 => ?_)
  refine tw_callV (k := 4) (d' := 5) (mc' := 0) (ms' := 0) tw_cU tw_cUi [.ref x2] rfl rfl wv_RX11_303_X5_ringRows mo_X5_ringRows (t := 5) rfl rfl rfl (fun Q9 => K_X5_ringRows Q9 x1 x2) (by omega) (by decide) (by decide) (Nat.le_of_ble_eq_true rfl) (fun u3 => ?_)
  refine tw_aload_n (k := 5) rfl rfl ?_
  refine tw_getR (k := 6) rfl fl_RX11_73 (fun x4 => ?_)
  refine tw_callV (k := 7) (d' := 3) (mc' := 0) (ms' := 0) tw_cI tw_cIi [] rfl rfl wv_RX11_306_X5_bestParting mo_X5_bestParting (t := 5) rfl rfl rfl (fun Q9 => K_X5_bestParting Q9 x4) (by omega) (by decide) (by decide) (Nat.le_of_ble_eq_true rfl) (fun x5 => ?_)
  refine tw_ist_n (k := 8) [some (.ref a0), some (.int a1), some (.int x5)] rfl (Nat.le_of_ble_eq_true rfl) rfl rfl ?_
  refine tw_iload_n (k := 9) rfl rfl ?_
  refine tw_if_eq (k := 10) 34 rfl (by decide) ?_ ?_
  · refine tw_iload_n (k := 16) rfl rfl ?_
    exact tw_ireturn (k := 17) rfl rfl (by decide) (by decide)
  · refine tw_aload_n (k := 11) rfl rfl ?_
    refine tw_getR (k := 12) rfl fl_RX11_73 (fun x6 => ?_)
    refine tw_iload_n (k := 13) rfl rfl ?_
    refine tw_callV (k := 14) (d' := 2) (mc' := 0) (ms' := 0) tw_cI tw_cIi [.int x5] rfl rfl wv_RX11_309_X5_across mo_X5_across (t := 5) rfl rfl rfl (fun Q9 => K_X5_across Q9 x6 x5) (by omega) (by decide) (by decide) (Nat.le_of_ble_eq_true rfl) (fun x7 => ?_)
    refine tw_goto (k := 15) 35 rfl (by decide) ?_
    exact tw_ireturn (k := 17) rfl rfl (by decide) (by decide)
def mX11_heads : tw_MD := (yX11_heads, cX11_heads, 1, (some FieldType.int), [(0, .aload_n 0, 1, 1), (1, .getfield 73, 3, 4), (4, .aload_n 0, 1, 5), (5, .getfield 19, 3, 8), (8, .aload_n 0, 1, 9), (9, .getfield 19, 3, 12), (12, .getfield 312, 3, 15), (15, .invokevirtual 293, 3, 18), (18, .aload_n 0, 1, 19), (19, .getfield 73, 3, 22), (22, .invokevirtual 315, 3, 25), (25, .ireturn, 1, 26)], [])
theorem mo_X11_heads : tw_mok mX11_heads 0 := ⟨plainFor_of_name (by decide +kernel), by decide +kernel, by decide +kernel, by decide +kernel, by decide +kernel⟩
theorem dk_X11_heads : tw_dk mX11_heads := by unfold tw_dk; decide +kernel
theorem fl_RX11_312 : tw_fl RX11 312 50 := Or.inr ⟨"TwinRopes", List.mem_of_getElem? (i := 227) (by decide +kernel)⟩
theorem wv_RX11_315_X5_fewestHeads : tw_wV RX11 315 mX5_fewestHeads := ⟨List.mem_of_getElem? (i := 704) (by decide +kernel), List.mem_of_getElem? (i := 705) (by decide +kernel), List.mem_of_getElem? (i := 706) (by decide +kernel), List.mem_of_getElem? (i := 135) (by decide +kernel), List.mem_of_getElem? (i := 707) (by decide +kernel)⟩
set_option maxRecDepth 20000 in
theorem K_X11_heads {g : tw_Gx} (Q : tw_Rs → tw_Mem → Prop) (a0 : Nat) : tw_Kt g mX11_heads 5 0 0 [.ref a0] Q (f_X11_heads a0 (fun v => Q (.inl (some (.int v))))) := by
  refine tw_mkK (L := [some (.ref a0)]) mo_X11_heads dk_X11_heads rfl (Nat.le_of_ble_eq_true rfl) rfl ?_
  unfold f_X11_heads
  refine tw_aload_n (k := 0) rfl rfl ?_
  refine tw_getR (k := 1) rfl fl_RX11_73 (fun x1 => ?_)
  refine tw_aload_n (k := 2) rfl rfl ?_
  refine tw_getR (k := 3) rfl fl_RX11_19 (fun x2 => ?_)
  refine tw_aload_n (k := 4) rfl rfl ?_
  refine tw_getR (k := 5) rfl fl_RX11_19 (fun x3 => ?_)
  refine tw_getI (k := 6) rfl fl_RX11_312 (fun x4 => ?_)
  refine tw_callV (k := 7) (d' := 4) (mc' := 0) (ms' := 0) tw_cU tw_cUi [.ref x2, .int x4] rfl rfl wv_RX11_293_X5_guessRows mo_X5_guessRows (t := 5) rfl rfl rfl (fun Q9 => K_X5_guessRows Q9 x1 x2 x4) (by omega) (by decide) (by decide) (Nat.le_of_ble_eq_true rfl) (fun u5 => ?_)
  refine tw_aload_n (k := 8) rfl rfl ?_
  refine tw_getR (k := 9) rfl fl_RX11_73 (fun x6 => ?_)
  refine tw_callV (k := 10) (d' := 3) (mc' := 0) (ms' := 0) tw_cI tw_cIi [] rfl rfl wv_RX11_315_X5_fewestHeads mo_X5_fewestHeads (t := 5) rfl rfl rfl (fun Q9 => K_X5_fewestHeads Q9 x6) (by omega) (by decide) (by decide) (Nat.le_of_ble_eq_true rfl) (fun x7 => ?_)
  exact tw_ireturn (k := 11) rfl rfl (by decide) (by decide)
def mX11_depth : tw_MD := (yX11_depth, cX11_depth, 3, (some FieldType.int), [(0, .aload_n 0, 1, 1), (1, .iload_n 1, 1, 2), (2, .invokevirtual 142, 3, 5), (5, .iload_n 2, 1, 6), (6, .iconst 0, 1, 7), (7, .bipush 8, 2, 9), (9, .invokestatic 250, 3, 12), (12, .aload_n 0, 1, 13), (13, .getfield 73, 3, 16), (16, .aload_n 0, 1, 17), (17, .getfield 19, 3, 20), (20, .iconst 1, 1, 21), (21, .invokevirtual 293, 3, 24), (24, .aload_n 0, 1, 25), (25, .getfield 73, 3, 28), (28, .iload_n 1, 1, 29), (29, .iload_n 2, 1, 30), (30, .invokevirtual 318, 3, 33), (33, .ireturn, 1, 34)], [])
theorem mo_X11_depth : tw_mok mX11_depth 2 := ⟨plainFor_of_name (by decide +kernel), by decide +kernel, by decide +kernel, by decide +kernel, by decide +kernel⟩
theorem dk_X11_depth : tw_dk mX11_depth := by unfold tw_dk; decide +kernel
theorem wv_RX11_318_X5_reached : tw_wV RX11 318 mX5_reached := ⟨List.mem_of_getElem? (i := 1602) (by decide +kernel), List.mem_of_getElem? (i := 1603) (by decide +kernel), List.mem_of_getElem? (i := 1604) (by decide +kernel), List.mem_of_getElem? (i := 135) (by decide +kernel), List.mem_of_getElem? (i := 1605) (by decide +kernel)⟩
set_option maxRecDepth 20000 in
theorem K_X11_depth {g : tw_Gx} (Q : tw_Rs → tw_Mem → Prop) (a0 : Nat) (a1 : Int32) (a2 : Int32) : tw_Kt g mX11_depth 7 2 12 [.ref a0, .int a1, .int a2] Q (f_X11_depth a0 a1 a2 (fun v => Q (.inl (some (.int v)))) (fun E => Q (.inr E))) := by
  refine tw_mkK (L := [some (.ref a0), some (.int a1), some (.int a2)]) mo_X11_depth dk_X11_depth rfl (Nat.le_of_ble_eq_true rfl) rfl ?_
  unfold f_X11_depth
  refine tw_aload_n (k := 0) rfl rfl ?_
  refine tw_iload_n (k := 1) rfl rfl ?_
  refine tw_callVX (k := 2) (d' := 6) (mc' := 1) (ms' := 6) tw_cU tw_cUi [.int a1] rfl rfl wv_RX11_142_X11_needPerson mo_X11_needPerson (t := 10) rfl rfl rfl (fun Q9 => K_X11_needPerson Q9 a0 a1) (by omega) (by decide) (by decide) (Nat.le_of_ble_eq_true rfl) (fun u1 => ?_) (fun E => tw_out rfl (by decide) (by decide))
  refine tw_iload_n (k := 3) rfl rfl ?_
  refine tw_iconst (k := 4) (0 : Int32) rfl (by decide) ?_
  refine tw_bipush (k := 5) (8 : Int32) rfl (by decide) ?_
  refine tw_callSX (k := 6) (d' := 6) (mc' := 1) (ms' := 6) tw_cU tw_cUi [.int a2, .int (0 : Int32), .int (8 : Int32)] rfl rfl ws_RX11_250_X11_needNumber mo_X11_needNumber rfl (fun Q9 => K_X11_needNumber Q9 a2 (0 : Int32) (8 : Int32)) (by omega) (by decide) (by decide) (Nat.le_of_ble_eq_true rfl) (fun u2 => ?_) (fun E => tw_out rfl (by decide) (by decide))
  refine tw_aload_n (k := 7) rfl rfl ?_
  refine tw_getR (k := 8) rfl fl_RX11_73 (fun x3 => ?_)
  refine tw_aload_n (k := 9) rfl rfl ?_
  refine tw_getR (k := 10) rfl fl_RX11_19 (fun x4 => ?_)
  refine tw_iconst (k := 11) (1 : Int32) rfl (by decide) ?_
  refine tw_callV (k := 12) (d' := 4) (mc' := 0) (ms' := 0) tw_cU tw_cUi [.ref x4, .int (1 : Int32)] rfl rfl wv_RX11_293_X5_guessRows mo_X5_guessRows (t := 5) rfl rfl rfl (fun Q9 => K_X5_guessRows Q9 x3 x4 (1 : Int32)) (by omega) (by decide) (by decide) (Nat.le_of_ble_eq_true rfl) (fun u5 => ?_)
  refine tw_aload_n (k := 13) rfl rfl ?_
  refine tw_getR (k := 14) rfl fl_RX11_73 (fun x6 => ?_)
  refine tw_iload_n (k := 15) rfl rfl ?_
  refine tw_iload_n (k := 16) rfl rfl ?_
  refine tw_callV (k := 17) (d' := 3) (mc' := 0) (ms' := 0) tw_cI tw_cIi [.int a1, .int a2] rfl rfl wv_RX11_318_X5_reached mo_X5_reached (t := 5) rfl rfl rfl (fun Q9 => K_X5_reached Q9 x6 a1 a2) (by omega) (by decide) (by decide) (Nat.le_of_ble_eq_true rfl) (fun x7 => ?_)
  exact tw_ireturn (k := 18) rfl rfl (by decide) (by decide)
def mX11_circle : tw_MD := (yX11_circle, cX11_circle, 2, (some FieldType.int), [(0, .aload_n 0, 1, 1), (1, .iload_n 1, 1, 2), (2, .invokevirtual 142, 3, 5), (5, .aload_n 0, 1, 6), (6, .getfield 73, 3, 9), (9, .aload_n 0, 1, 10), (10, .getfield 19, 3, 13), (13, .iconst 1, 1, 14), (14, .invokevirtual 293, 3, 17), (17, .aload_n 0, 1, 18), (18, .getfield 73, 3, 21), (21, .iload_n 1, 1, 22), (22, .invokevirtual 321, 3, 25), (25, .ireturn, 1, 26)], [])
theorem mo_X11_circle : tw_mok mX11_circle 1 := ⟨plainFor_of_name (by decide +kernel), by decide +kernel, by decide +kernel, by decide +kernel, by decide +kernel⟩
theorem dk_X11_circle : tw_dk mX11_circle := by unfold tw_dk; decide +kernel
theorem wv_RX11_321_X5_stepsBack : tw_wV RX11 321 mX5_stepsBack := ⟨List.mem_of_getElem? (i := 1613) (by decide +kernel), List.mem_of_getElem? (i := 1614) (by decide +kernel), List.mem_of_getElem? (i := 1615) (by decide +kernel), List.mem_of_getElem? (i := 135) (by decide +kernel), List.mem_of_getElem? (i := 1616) (by decide +kernel)⟩
set_option maxRecDepth 20000 in
theorem K_X11_circle {g : tw_Gx} (Q : tw_Rs → tw_Mem → Prop) (a0 : Nat) (a1 : Int32) : tw_Kt g mX11_circle 7 1 6 [.ref a0, .int a1] Q (f_X11_circle a0 a1 (fun v => Q (.inl (some (.int v)))) (fun E => Q (.inr E))) := by
  refine tw_mkK (L := [some (.ref a0), some (.int a1)]) mo_X11_circle dk_X11_circle rfl (Nat.le_of_ble_eq_true rfl) rfl ?_
  unfold f_X11_circle
  refine tw_aload_n (k := 0) rfl rfl ?_
  refine tw_iload_n (k := 1) rfl rfl ?_
  refine tw_callVX (k := 2) (d' := 6) (mc' := 1) (ms' := 6) tw_cU tw_cUi [.int a1] rfl rfl wv_RX11_142_X11_needPerson mo_X11_needPerson (t := 10) rfl rfl rfl (fun Q9 => K_X11_needPerson Q9 a0 a1) (by omega) (by decide) (by decide) (Nat.le_of_ble_eq_true rfl) (fun u1 => ?_) (fun E => tw_out rfl (by decide) (by decide))
  refine tw_aload_n (k := 3) rfl rfl ?_
  refine tw_getR (k := 4) rfl fl_RX11_73 (fun x2 => ?_)
  refine tw_aload_n (k := 5) rfl rfl ?_
  refine tw_getR (k := 6) rfl fl_RX11_19 (fun x3 => ?_)
  refine tw_iconst (k := 7) (1 : Int32) rfl (by decide) ?_
  refine tw_callV (k := 8) (d' := 4) (mc' := 0) (ms' := 0) tw_cU tw_cUi [.ref x3, .int (1 : Int32)] rfl rfl wv_RX11_293_X5_guessRows mo_X5_guessRows (t := 5) rfl rfl rfl (fun Q9 => K_X5_guessRows Q9 x2 x3 (1 : Int32)) (by omega) (by decide) (by decide) (Nat.le_of_ble_eq_true rfl) (fun u4 => ?_)
  refine tw_aload_n (k := 9) rfl rfl ?_
  refine tw_getR (k := 10) rfl fl_RX11_73 (fun x5 => ?_)
  refine tw_iload_n (k := 11) rfl rfl ?_
  refine tw_callV (k := 12) (d' := 3) (mc' := 0) (ms' := 0) tw_cI tw_cIi [.int a1] rfl rfl wv_RX11_321_X5_stepsBack mo_X5_stepsBack (t := 5) rfl rfl rfl (fun Q9 => K_X5_stepsBack Q9 x5 a1) (by omega) (by decide) (by decide) (Nat.le_of_ble_eq_true rfl) (fun x6 => ?_)
  exact tw_ireturn (k := 13) rfl rfl (by decide) (by decide)
def mX11_takeTold : tw_MD := (yX11_takeTold, cX11_takeTold, 2, none, [(0, .aload_n 0, 1, 1), (1, .getfield 66, 3, 4), (4, .aload_n 0, 1, 5), (5, .getfield 10, 3, 8), (8, .invokevirtual 436, 3, 11), (11, .istore_n 1, 1, 12), (12, .aload_n 0, 1, 13), (13, .getfield 10, 3, 16), (16, .invokevirtual 115, 3, 19), (19, .iload_n 1, 1, 20), (20, .ifCond .ne 14, 3, 23), (23, .new 118, 3, 26), (26, .dup, 1, 27), (27, .ldc_w 439, 3, 30), (30, .invokespecial 122, 3, 33), (33, .athrow, 1, 34), (34, .return_, 1, 35)], [])
theorem mo_X11_takeTold : tw_mok mX11_takeTold 0 := ⟨plainFor_of_name (by decide +kernel), by decide +kernel, by decide +kernel, by decide +kernel, by decide +kernel⟩
theorem dk_X11_takeTold : tw_dk mX11_takeTold := by unfold tw_dk; decide +kernel
theorem tw_RX11_118_439_122 : tw_tw RX11 118 439 122 "java/lang/IllegalArgumentException" "the tape does not tell hours" := ⟨List.mem_of_getElem? (i := 1126) (by decide +kernel), List.mem_of_getElem? (i := 146) (by decide +kernel), List.mem_of_getElem? (i := 1634) (by decide +kernel), tw_at_RX11_122⟩
theorem wv_RX11_436_X4_takeTold : tw_wV RX11 436 mX4_takeTold := ⟨List.mem_of_getElem? (i := 1628) (by decide +kernel), List.mem_of_getElem? (i := 1629) (by decide +kernel), List.mem_of_getElem? (i := 1630) (by decide +kernel), List.mem_of_getElem? (i := 134) (by decide +kernel), List.mem_of_getElem? (i := 1631) (by decide +kernel)⟩
set_option maxRecDepth 20000 in
theorem K_X11_takeTold {g : tw_Gx} (Q : tw_Rs → tw_Mem → Prop) (a0 : Nat) : tw_Kt g mX11_takeTold 6 1 6 [.ref a0] Q (f_X11_takeTold a0 (fun v => Q (.inl none)) (fun E => Q (.inr E))) := by
  refine tw_mkK (L := [some (.ref a0), none]) mo_X11_takeTold dk_X11_takeTold rfl (Nat.le_of_ble_eq_true rfl) rfl ?_
  unfold f_X11_takeTold
  refine tw_aload_n (k := 0) rfl rfl ?_
  refine tw_getR (k := 1) rfl fl_RX11_66 (fun x1 => ?_)
  refine tw_aload_n (k := 2) rfl rfl ?_
  refine tw_getR (k := 3) rfl fl_RX11_10 (fun x2 => ?_)
  refine tw_callV (k := 4) (d' := 2) (mc' := 0) (ms' := 0) tw_cI tw_cIi [.ref x2] rfl rfl wv_RX11_436_X4_takeTold mo_X4_takeTold (t := 4) rfl rfl rfl (fun Q9 => K_X4_takeTold Q9 x1 x2) (by omega) (by decide) (by decide) (Nat.le_of_ble_eq_true rfl) (fun x3 => ?_)
  refine tw_ist_n (k := 5) [some (.ref a0), some (.int x3)] rfl (Nat.le_of_ble_eq_true rfl) rfl rfl ?_
  refine tw_aload_n (k := 6) rfl rfl ?_
  refine tw_getR (k := 7) rfl fl_RX11_10 (fun x4 => ?_)
  refine tw_callV (k := 8) (d' := 1) (mc' := 0) (ms' := 0) tw_cU tw_cUi [] rfl rfl wv_RX11_115_X6_clear mo_X6_clear (t := 6) rfl rfl rfl (fun Q9 => K_X6_clear Q9 x4) (by omega) (by decide) (by decide) (Nat.le_of_ble_eq_true rfl) (fun u5 => ?_)
  refine tw_iload_n (k := 9) rfl rfl ?_
  refine tw_if_ne (k := 10) 34 rfl (by decide) ?_ ?_
  · exact tw_return (k := 16) rfl rfl (by decide) (by decide)
  · exact tw_throwSW (k := 11) (by decide +kernel) rfl rfl rfl rfl rfl tw_RX11_118_439_122 rfl (by omega) (by decide) (by decide) (Nat.le_of_ble_eq_true rfl)
def mX11_pulled : tw_MD := (yX11_pulled, cX11_pulled, 2, (some FieldType.int), [(0, .aload_n 0, 1, 1), (1, .invokevirtual 324, 3, 4), (4, .aload_n 0, 1, 5), (5, .getfield 66, 3, 8), (8, .aload_n 0, 1, 9), (9, .getfield 80, 3, 12), (12, .invokevirtual 327, 3, 15), (15, .iload_n 1, 1, 16), (16, .ifCond .eq 13, 3, 19), (19, .aload_n 0, 1, 20), (20, .getfield 66, 3, 23), (23, .invokevirtual 331, 3, 26), (26, .goto 10, 3, 29), (29, .aload_n 0, 1, 30), (30, .getfield 66, 3, 33), (33, .invokevirtual 334, 3, 36), (36, .ireturn, 1, 37)], [])
theorem mo_X11_pulled : tw_mok mX11_pulled 1 := ⟨plainFor_of_name (by decide +kernel), by decide +kernel, by decide +kernel, by decide +kernel, by decide +kernel⟩
theorem dk_X11_pulled : tw_dk mX11_pulled := by unfold tw_dk; decide +kernel
theorem wv_RX11_334_X4_fitting : tw_wV RX11 334 mX4_fitting := ⟨List.mem_of_getElem? (i := 1647) (by decide +kernel), List.mem_of_getElem? (i := 1648) (by decide +kernel), List.mem_of_getElem? (i := 1649) (by decide +kernel), List.mem_of_getElem? (i := 134) (by decide +kernel), List.mem_of_getElem? (i := 1650) (by decide +kernel)⟩
theorem wv_RX11_331_X4_inAllFitting : tw_wV RX11 331 mX4_inAllFitting := ⟨List.mem_of_getElem? (i := 1643) (by decide +kernel), List.mem_of_getElem? (i := 1644) (by decide +kernel), List.mem_of_getElem? (i := 1645) (by decide +kernel), List.mem_of_getElem? (i := 134) (by decide +kernel), List.mem_of_getElem? (i := 1646) (by decide +kernel)⟩
theorem wv_RX11_327_X4_findFitting : tw_wV RX11 327 mX4_findFitting := ⟨List.mem_of_getElem? (i := 1635) (by decide +kernel), List.mem_of_getElem? (i := 1636) (by decide +kernel), List.mem_of_getElem? (i := 1637) (by decide +kernel), List.mem_of_getElem? (i := 134) (by decide +kernel), List.mem_of_getElem? (i := 1638) (by decide +kernel)⟩
theorem wv_RX11_324_X11_takeTold : tw_wV RX11 324 mX11_takeTold := ⟨List.mem_of_getElem? (i := 1624) (by decide +kernel), List.mem_of_getElem? (i := 1626) (by decide +kernel), List.mem_of_getElem? (i := 40) (by decide +kernel), List.mem_of_getElem? (i := 124) (by decide +kernel), List.mem_of_getElem? (i := 1627) (by decide +kernel)⟩
set_option maxRecDepth 20000 in
theorem K_X11_pulled {g : tw_Gx} (Q : tw_Rs → tw_Mem → Prop) (a0 : Nat) (a1 : Int32) : tw_Kt g mX11_pulled 8 1 6 [.ref a0, .int a1] Q (f_X11_pulled a0 a1 (fun v => Q (.inl (some (.int v)))) (fun E => Q (.inr E))) := by
  refine tw_mkK (L := [some (.ref a0), some (.int a1)]) mo_X11_pulled dk_X11_pulled rfl (Nat.le_of_ble_eq_true rfl) rfl ?_
  unfold f_X11_pulled
  refine tw_aload_n (k := 0) rfl rfl ?_
  refine tw_callVX (k := 1) (d' := 6) (mc' := 1) (ms' := 6) tw_cU tw_cUi [] rfl rfl wv_RX11_324_X11_takeTold mo_X11_takeTold (t := 10) rfl rfl rfl (fun Q9 => K_X11_takeTold Q9 a0) (by omega) (by decide) (by decide) (Nat.le_of_ble_eq_true rfl) (fun u1 => ?_) (fun E => tw_out rfl (by decide) (by decide))
  refine tw_aload_n (k := 2) rfl rfl ?_
  refine tw_getR (k := 3) rfl fl_RX11_66 (fun x2 => ?_)
  refine tw_aload_n (k := 4) rfl rfl ?_
  refine tw_getR (k := 5) rfl fl_RX11_80 (fun x3 => ?_)
  refine tw_callV (k := 6) (d' := 7) (mc' := 0) (ms' := 0) tw_cU tw_cUi [.ref x3] rfl rfl wv_RX11_327_X4_findFitting mo_X4_findFitting (t := 4) rfl rfl rfl (fun Q9 => K_X4_findFitting Q9 x2 x3) (by omega) (by decide) (by decide) (Nat.le_of_ble_eq_true rfl) (fun u4 => ?_)
  refine tw_iload_n (k := 7) rfl rfl ?_
  refine tw_if_eq (k := 8) 29 rfl (by decide) ?_ ?_
  · refine tw_aload_n (k := 13) rfl rfl ?_
    refine tw_getR (k := 14) rfl fl_RX11_66 (fun x5 => ?_)
    refine tw_callV (k := 15) (d' := 1) (mc' := 0) (ms' := 0) tw_cI tw_cIi [] rfl rfl wv_RX11_334_X4_fitting mo_X4_fitting (t := 4) rfl rfl rfl (fun Q9 => K_X4_fitting Q9 x5) (by omega) (by decide) (by decide) (Nat.le_of_ble_eq_true rfl) (fun x6 => ?_)
    exact tw_ireturn (k := 16) rfl rfl (by decide) (by decide)
  · refine tw_aload_n (k := 9) rfl rfl ?_
    refine tw_getR (k := 10) rfl fl_RX11_66 (fun x7 => ?_)
    refine tw_callV (k := 11) (d' := 1) (mc' := 0) (ms' := 0) tw_cI tw_cIi [] rfl rfl wv_RX11_331_X4_inAllFitting mo_X4_inAllFitting (t := 4) rfl rfl rfl (fun Q9 => K_X4_inAllFitting Q9 x7) (by omega) (by decide) (by decide) (Nat.le_of_ble_eq_true rfl) (fun x8 => ?_)
    refine tw_goto (k := 12) 36 rfl (by decide) ?_
    exact tw_ireturn (k := 16) rfl rfl (by decide) (by decide)
def mX11_listen : tw_MD := (yX11_listen, cX11_listen, 1, (some FieldType.int), [(0, .aload_n 0, 1, 1), (1, .invokevirtual 324, 3, 4), (4, .aload_n 0, 1, 5), (5, .getfield 66, 3, 8), (8, .aload_n 0, 1, 9), (9, .getfield 80, 3, 12), (12, .invokevirtual 327, 3, 15), (15, .aload_n 0, 1, 16), (16, .getfield 66, 3, 19), (19, .invokevirtual 337, 3, 22), (22, .ireturn, 1, 23)], [])
theorem mo_X11_listen : tw_mok mX11_listen 0 := ⟨plainFor_of_name (by decide +kernel), by decide +kernel, by decide +kernel, by decide +kernel, by decide +kernel⟩
theorem dk_X11_listen : tw_dk mX11_listen := by unfold tw_dk; decide +kernel
theorem wv_RX11_337_X4_bestHour : tw_wV RX11 337 mX4_bestHour := ⟨List.mem_of_getElem? (i := 1658) (by decide +kernel), List.mem_of_getElem? (i := 1659) (by decide +kernel), List.mem_of_getElem? (i := 1660) (by decide +kernel), List.mem_of_getElem? (i := 134) (by decide +kernel), List.mem_of_getElem? (i := 1661) (by decide +kernel)⟩
set_option maxRecDepth 20000 in
theorem K_X11_listen {g : tw_Gx} (Q : tw_Rs → tw_Mem → Prop) (a0 : Nat) : tw_Kt g mX11_listen 8 1 6 [.ref a0] Q (f_X11_listen a0 (fun v => Q (.inl (some (.int v)))) (fun E => Q (.inr E))) := by
  refine tw_mkK (L := [some (.ref a0)]) mo_X11_listen dk_X11_listen rfl (Nat.le_of_ble_eq_true rfl) rfl ?_
  unfold f_X11_listen
  refine tw_aload_n (k := 0) rfl rfl ?_
  refine tw_callVX (k := 1) (d' := 6) (mc' := 1) (ms' := 6) tw_cU tw_cUi [] rfl rfl wv_RX11_324_X11_takeTold mo_X11_takeTold (t := 10) rfl rfl rfl (fun Q9 => K_X11_takeTold Q9 a0) (by omega) (by decide) (by decide) (Nat.le_of_ble_eq_true rfl) (fun u1 => ?_) (fun E => tw_out rfl (by decide) (by decide))
  refine tw_aload_n (k := 2) rfl rfl ?_
  refine tw_getR (k := 3) rfl fl_RX11_66 (fun x2 => ?_)
  refine tw_aload_n (k := 4) rfl rfl ?_
  refine tw_getR (k := 5) rfl fl_RX11_80 (fun x3 => ?_)
  refine tw_callV (k := 6) (d' := 7) (mc' := 0) (ms' := 0) tw_cU tw_cUi [.ref x3] rfl rfl wv_RX11_327_X4_findFitting mo_X4_findFitting (t := 4) rfl rfl rfl (fun Q9 => K_X4_findFitting Q9 x2 x3) (by omega) (by decide) (by decide) (Nat.le_of_ble_eq_true rfl) (fun u4 => ?_)
  refine tw_aload_n (k := 7) rfl rfl ?_
  refine tw_getR (k := 8) rfl fl_RX11_66 (fun x5 => ?_)
  refine tw_callV (k := 9) (d' := 3) (mc' := 0) (ms' := 0) tw_cI tw_cIi [] rfl rfl wv_RX11_337_X4_bestHour mo_X4_bestHour (t := 4) rfl rfl rfl (fun Q9 => K_X4_bestHour Q9 x5) (by omega) (by decide) (by decide) (Nat.le_of_ble_eq_true rfl) (fun x6 => ?_)
  exact tw_ireturn (k := 10) rfl rfl (by decide) (by decide)
def mX11_cheap : tw_MD := (yX11_cheap, cX11_cheap, 2, (some FieldType.int), [(0, .iload_n 1, 1, 1), (1, .iconst 0, 1, 2), (2, .bipush 99, 2, 4), (4, .invokestatic 250, 3, 7), (7, .aload_n 0, 1, 8), (8, .getfield 66, 3, 11), (11, .iload_n 1, 1, 12), (12, .invokevirtual 340, 3, 15), (15, .ireturn, 1, 16)], [])
theorem mo_X11_cheap : tw_mok mX11_cheap 1 := ⟨plainFor_of_name (by decide +kernel), by decide +kernel, by decide +kernel, by decide +kernel, by decide +kernel⟩
theorem dk_X11_cheap : tw_dk mX11_cheap := by unfold tw_dk; decide +kernel
theorem wv_RX11_340_X4_cheapPairs : tw_wV RX11 340 mX4_cheapPairs := ⟨List.mem_of_getElem? (i := 1675) (by decide +kernel), List.mem_of_getElem? (i := 1676) (by decide +kernel), List.mem_of_getElem? (i := 1677) (by decide +kernel), List.mem_of_getElem? (i := 134) (by decide +kernel), List.mem_of_getElem? (i := 1678) (by decide +kernel)⟩
set_option maxRecDepth 20000 in
theorem K_X11_cheap {g : tw_Gx} (Q : tw_Rs → tw_Mem → Prop) (a0 : Nat) (a1 : Int32) : tw_Kt g mX11_cheap 7 1 6 [.ref a0, .int a1] Q (f_X11_cheap a0 a1 (fun v => Q (.inl (some (.int v)))) (fun E => Q (.inr E))) := by
  refine tw_mkK (L := [some (.ref a0), some (.int a1)]) mo_X11_cheap dk_X11_cheap rfl (Nat.le_of_ble_eq_true rfl) rfl ?_
  unfold f_X11_cheap
  refine tw_iload_n (k := 0) rfl rfl ?_
  refine tw_iconst (k := 1) (0 : Int32) rfl (by decide) ?_
  refine tw_bipush (k := 2) (99 : Int32) rfl (by decide) ?_
  refine tw_callSX (k := 3) (d' := 6) (mc' := 1) (ms' := 6) tw_cU tw_cUi [.int a1, .int (0 : Int32), .int (99 : Int32)] rfl rfl ws_RX11_250_X11_needNumber mo_X11_needNumber rfl (fun Q9 => K_X11_needNumber Q9 a1 (0 : Int32) (99 : Int32)) (by omega) (by decide) (by decide) (Nat.le_of_ble_eq_true rfl) (fun u1 => ?_) (fun E => tw_out rfl (by decide) (by decide))
  refine tw_aload_n (k := 4) rfl rfl ?_
  refine tw_getR (k := 5) rfl fl_RX11_66 (fun x2 => ?_)
  refine tw_iload_n (k := 6) rfl rfl ?_
  refine tw_callV (k := 7) (d' := 5) (mc' := 0) (ms' := 0) tw_cI tw_cIi [.int a1] rfl rfl wv_RX11_340_X4_cheapPairs mo_X4_cheapPairs (t := 4) rfl rfl rfl (fun Q9 => K_X4_cheapPairs Q9 x2 a1) (by omega) (by decide) (by decide) (Nat.le_of_ble_eq_true rfl) (fun x3 => ?_)
  exact tw_ireturn (k := 8) rfl rfl (by decide) (by decide)
def mX11_cheapest : tw_MD := (yX11_cheapest, cX11_cheapest, 1, (some FieldType.int), [(0, .aload_n 0, 1, 1), (1, .getfield 66, 3, 4), (4, .invokevirtual 343, 3, 7), (7, .ireturn, 1, 8)], [])
theorem mo_X11_cheapest : tw_mok mX11_cheapest 0 := ⟨plainFor_of_name (by decide +kernel), by decide +kernel, by decide +kernel, by decide +kernel, by decide +kernel⟩
theorem dk_X11_cheapest : tw_dk mX11_cheapest := by unfold tw_dk; decide +kernel
theorem wv_RX11_343_X4_cheapestPair : tw_wV RX11 343 mX4_cheapestPair := ⟨List.mem_of_getElem? (i := 712) (by decide +kernel), List.mem_of_getElem? (i := 713) (by decide +kernel), List.mem_of_getElem? (i := 714) (by decide +kernel), List.mem_of_getElem? (i := 134) (by decide +kernel), List.mem_of_getElem? (i := 715) (by decide +kernel)⟩
set_option maxRecDepth 20000 in
theorem K_X11_cheapest {g : tw_Gx} (Q : tw_Rs → tw_Mem → Prop) (a0 : Nat) : tw_Kt g mX11_cheapest 6 0 0 [.ref a0] Q (f_X11_cheapest a0 (fun v => Q (.inl (some (.int v))))) := by
  refine tw_mkK (L := [some (.ref a0)]) mo_X11_cheapest dk_X11_cheapest rfl (Nat.le_of_ble_eq_true rfl) rfl ?_
  unfold f_X11_cheapest
  refine tw_aload_n (k := 0) rfl rfl ?_
  refine tw_getR (k := 1) rfl fl_RX11_66 (fun x1 => ?_)
  refine tw_callV (k := 2) (d' := 5) (mc' := 0) (ms' := 0) tw_cI tw_cIi [] rfl rfl wv_RX11_343_X4_cheapestPair mo_X4_cheapestPair (t := 4) rfl rfl rfl (fun Q9 => K_X4_cheapestPair Q9 x1) (by omega) (by decide) (by decide) (Nat.le_of_ble_eq_true rfl) (fun x2 => ?_)
  exact tw_ireturn (k := 3) rfl rfl (by decide) (by decide)
def mX11_spoilt : tw_MD := (yX11_spoilt, cX11_spoilt, 1, (some FieldType.int), [(0, .aload_n 0, 1, 1), (1, .getfield 19, 3, 4), (4, .invokevirtual 346, 3, 7), (7, .ireturn, 1, 8)], [])
theorem mo_X11_spoilt : tw_mok mX11_spoilt 0 := ⟨plainFor_of_name (by decide +kernel), by decide +kernel, by decide +kernel, by decide +kernel, by decide +kernel⟩
theorem dk_X11_spoilt : tw_dk mX11_spoilt := by unfold tw_dk; decide +kernel
theorem wv_RX11_346_X8_spoiltHours : tw_wV RX11 346 mX8_spoiltHours := ⟨List.mem_of_getElem? (i := 733) (by decide +kernel), List.mem_of_getElem? (i := 734) (by decide +kernel), List.mem_of_getElem? (i := 735) (by decide +kernel), List.mem_of_getElem? (i := 126) (by decide +kernel), List.mem_of_getElem? (i := 736) (by decide +kernel)⟩
set_option maxRecDepth 20000 in
theorem K_X11_spoilt {g : tw_Gx} (Q : tw_Rs → tw_Mem → Prop) (a0 : Nat) : tw_Kt g mX11_spoilt 7 0 0 [.ref a0] Q (f_X11_spoilt a0 (fun v => Q (.inl (some (.int v))))) := by
  refine tw_mkK (L := [some (.ref a0)]) mo_X11_spoilt dk_X11_spoilt rfl (Nat.le_of_ble_eq_true rfl) rfl ?_
  unfold f_X11_spoilt
  refine tw_aload_n (k := 0) rfl rfl ?_
  refine tw_getR (k := 1) rfl fl_RX11_19 (fun x1 => ?_)
  refine tw_callV (k := 2) (d' := 6) (mc' := 0) (ms' := 0) tw_cI tw_cIi [] rfl rfl wv_RX11_346_X8_spoiltHours mo_X8_spoiltHours (t := 7) rfl rfl rfl (fun Q9 => K_X8_spoiltHours Q9 x1) (by omega) (by decide) (by decide) (Nat.le_of_ble_eq_true rfl) (fun x2 => ?_)
  exact tw_ireturn (k := 3) rfl rfl (by decide) (by decide)
def mX11_mend : tw_MD := (yX11_mend, cX11_mend, 2, (some FieldType.int), [(0, .iload_n 1, 1, 1), (1, .invokestatic 215, 3, 4), (4, .aload_n 0, 1, 5), (5, .getfield 19, 3, 8), (8, .iload_n 1, 1, 9), (9, .invokevirtual 349, 3, 12), (12, .ifCond .eq 14, 3, 15), (15, .aload_n 0, 1, 16), (16, .getfield 19, 3, 19), (19, .iload_n 1, 1, 20), (20, .invokevirtual 352, 3, 23), (23, .goto 4, 3, 26), (26, .iconst (-1), 1, 27), (27, .ireturn, 1, 28)], [])
theorem mo_X11_mend : tw_mok mX11_mend 1 := ⟨plainFor_of_name (by decide +kernel), by decide +kernel, by decide +kernel, by decide +kernel, by decide +kernel⟩
theorem dk_X11_mend : tw_dk mX11_mend := by unfold tw_dk; decide +kernel
theorem wv_RX11_352_X8_leastMend : tw_wV RX11 352 mX8_leastMend := ⟨List.mem_of_getElem? (i := 1687) (by decide +kernel), List.mem_of_getElem? (i := 1688) (by decide +kernel), List.mem_of_getElem? (i := 1689) (by decide +kernel), List.mem_of_getElem? (i := 126) (by decide +kernel), List.mem_of_getElem? (i := 1690) (by decide +kernel)⟩
theorem wv_RX11_349_X8_isSpoilt : tw_wV RX11 349 mX8_isSpoilt := ⟨List.mem_of_getElem? (i := 1686) (by decide +kernel), List.mem_of_getElem? (i := 738) (by decide +kernel), List.mem_of_getElem? (i := 739) (by decide +kernel), List.mem_of_getElem? (i := 126) (by decide +kernel), List.mem_of_getElem? (i := 740) (by decide +kernel)⟩
set_option maxRecDepth 20000 in
theorem K_X11_mend {g : tw_Gx} (Q : tw_Rs → tw_Mem → Prop) (a0 : Nat) (a1 : Int32) : tw_Kt g mX11_mend 7 1 6 [.ref a0, .int a1] Q (f_X11_mend a0 a1 (fun v => Q (.inl (some (.int v)))) (fun E => Q (.inr E))) := by
  refine tw_mkK (L := [some (.ref a0), some (.int a1)]) mo_X11_mend dk_X11_mend rfl (Nat.le_of_ble_eq_true rfl) rfl ?_
  unfold f_X11_mend
  refine tw_iload_n (k := 0) rfl rfl ?_
  refine tw_callSX (k := 1) (d' := 6) (mc' := 1) (ms' := 6) tw_cU tw_cUi [.int a1] rfl rfl ws_RX11_215_X11_needHour mo_X11_needHour rfl (fun Q9 => K_X11_needHour Q9 a1) (by omega) (by decide) (by decide) (Nat.le_of_ble_eq_true rfl) (fun u1 => ?_) (fun E => tw_out rfl (by decide) (by decide))
  refine tw_aload_n (k := 2) rfl rfl ?_
  refine tw_getR (k := 3) rfl fl_RX11_19 (fun x2 => ?_)
  refine tw_iload_n (k := 4) rfl rfl ?_
  refine tw_callV (k := 5) (d' := 5) (mc' := 0) (ms' := 0) tw_cI tw_cIi [.int a1] rfl rfl wv_RX11_349_X8_isSpoilt mo_X8_isSpoilt (t := 7) rfl rfl rfl (fun Q9 => K_X8_isSpoilt Q9 x2 a1) (by omega) (by decide) (by decide) (Nat.le_of_ble_eq_true rfl) (fun x3 => ?_)
  refine tw_if_eq (k := 6) 26 rfl (by decide) ?_ ?_
  · refine tw_iconst (k := 12) (-1 : Int32) rfl (by decide) ?_
    exact tw_ireturn (k := 13) rfl rfl (by decide) (by decide)
  · refine tw_aload_n (k := 7) rfl rfl ?_
    refine tw_getR (k := 8) rfl fl_RX11_19 (fun x4 => ?_)
    refine tw_iload_n (k := 9) rfl rfl ?_
    refine tw_callV (k := 10) (d' := 4) (mc' := 0) (ms' := 0) tw_cI tw_cIi [.int a1] rfl rfl wv_RX11_352_X8_leastMend mo_X8_leastMend (t := 7) rfl rfl rfl (fun Q9 => K_X8_leastMend Q9 x4 a1) (by omega) (by decide) (by decide) (Nat.le_of_ble_eq_true rfl) (fun x5 => ?_)
    refine tw_goto (k := 11) 27 rfl (by decide) ?_
    exact tw_ireturn (k := 13) rfl rfl (by decide) (by decide)
def mX11_bill : tw_MD := (yX11_bill, cX11_bill, 1, (some FieldType.int), [(0, .aload_n 0, 1, 1), (1, .getfield 19, 3, 4), (4, .invokevirtual 355, 3, 7), (7, .ireturn, 1, 8)], [])
theorem mo_X11_bill : tw_mok mX11_bill 0 := ⟨plainFor_of_name (by decide +kernel), by decide +kernel, by decide +kernel, by decide +kernel, by decide +kernel⟩
theorem dk_X11_bill : tw_dk mX11_bill := by unfold tw_dk; decide +kernel
theorem wv_RX11_355_X8_dueOfAll : tw_wV RX11 355 mX8_dueOfAll := ⟨List.mem_of_getElem? (i := 756) (by decide +kernel), List.mem_of_getElem? (i := 757) (by decide +kernel), List.mem_of_getElem? (i := 758) (by decide +kernel), List.mem_of_getElem? (i := 126) (by decide +kernel), List.mem_of_getElem? (i := 759) (by decide +kernel)⟩
set_option maxRecDepth 20000 in
theorem K_X11_bill {g : tw_Gx} (Q : tw_Rs → tw_Mem → Prop) (a0 : Nat) : tw_Kt g mX11_bill 6 0 0 [.ref a0] Q (f_X11_bill a0 (fun v => Q (.inl (some (.int v))))) := by
  refine tw_mkK (L := [some (.ref a0)]) mo_X11_bill dk_X11_bill rfl (Nat.le_of_ble_eq_true rfl) rfl ?_
  unfold f_X11_bill
  refine tw_aload_n (k := 0) rfl rfl ?_
  refine tw_getR (k := 1) rfl fl_RX11_19 (fun x1 => ?_)
  refine tw_callV (k := 2) (d' := 5) (mc' := 0) (ms' := 0) tw_cI tw_cIi [] rfl rfl wv_RX11_355_X8_dueOfAll mo_X8_dueOfAll (t := 7) rfl rfl rfl (fun Q9 => K_X8_dueOfAll Q9 x1) (by omega) (by decide) (by decide) (Nat.le_of_ble_eq_true rfl) (fun x2 => ?_)
  exact tw_ireturn (k := 3) rfl rfl (by decide) (by decide)
def mX11_most : tw_MD := (yX11_most, cX11_most, 1, (some FieldType.int), [(0, .aload_n 0, 1, 1), (1, .getfield 19, 3, 4), (4, .invokevirtual 358, 3, 7), (7, .ireturn, 1, 8)], [])
theorem mo_X11_most : tw_mok mX11_most 0 := ⟨plainFor_of_name (by decide +kernel), by decide +kernel, by decide +kernel, by decide +kernel, by decide +kernel⟩
theorem dk_X11_most : tw_dk mX11_most := by unfold tw_dk; decide +kernel
theorem wv_RX11_358_X8_greatestGuessed : tw_wV RX11 358 mX8_greatestGuessed := ⟨List.mem_of_getElem? (i := 774) (by decide +kernel), List.mem_of_getElem? (i := 775) (by decide +kernel), List.mem_of_getElem? (i := 776) (by decide +kernel), List.mem_of_getElem? (i := 126) (by decide +kernel), List.mem_of_getElem? (i := 777) (by decide +kernel)⟩
set_option maxRecDepth 20000 in
theorem K_X11_most {g : tw_Gx} (Q : tw_Rs → tw_Mem → Prop) (a0 : Nat) : tw_Kt g mX11_most 5 0 0 [.ref a0] Q (f_X11_most a0 (fun v => Q (.inl (some (.int v))))) := by
  refine tw_mkK (L := [some (.ref a0)]) mo_X11_most dk_X11_most rfl (Nat.le_of_ble_eq_true rfl) rfl ?_
  unfold f_X11_most
  refine tw_aload_n (k := 0) rfl rfl ?_
  refine tw_getR (k := 1) rfl fl_RX11_19 (fun x1 => ?_)
  refine tw_callV (k := 2) (d' := 4) (mc' := 0) (ms' := 0) tw_cI tw_cIi [] rfl rfl wv_RX11_358_X8_greatestGuessed mo_X8_greatestGuessed (t := 7) rfl rfl rfl (fun Q9 => K_X8_greatestGuessed Q9 x1) (by omega) (by decide) (by decide) (Nat.le_of_ble_eq_true rfl) (fun x2 => ?_)
  exact tw_ireturn (k := 3) rfl rfl (by decide) (by decide)
def mX11_nosy : tw_MD := (yX11_nosy, cX11_nosy, 1, (some FieldType.int), [(0, .aload_n 0, 1, 1), (1, .getfield 19, 3, 4), (4, .invokevirtual 361, 3, 7), (7, .ireturn, 1, 8)], [])
theorem mo_X11_nosy : tw_mok mX11_nosy 0 := ⟨plainFor_of_name (by decide +kernel), by decide +kernel, by decide +kernel, by decide +kernel, by decide +kernel⟩
theorem dk_X11_nosy : tw_dk mX11_nosy := by unfold tw_dk; decide +kernel
theorem wv_RX11_361_X8_greatestGuesser : tw_wV RX11 361 mX8_greatestGuesser := ⟨List.mem_of_getElem? (i := 786) (by decide +kernel), List.mem_of_getElem? (i := 787) (by decide +kernel), List.mem_of_getElem? (i := 788) (by decide +kernel), List.mem_of_getElem? (i := 126) (by decide +kernel), List.mem_of_getElem? (i := 789) (by decide +kernel)⟩
set_option maxRecDepth 20000 in
theorem K_X11_nosy {g : tw_Gx} (Q : tw_Rs → tw_Mem → Prop) (a0 : Nat) : tw_Kt g mX11_nosy 5 0 0 [.ref a0] Q (f_X11_nosy a0 (fun v => Q (.inl (some (.int v))))) := by
  refine tw_mkK (L := [some (.ref a0)]) mo_X11_nosy dk_X11_nosy rfl (Nat.le_of_ble_eq_true rfl) rfl ?_
  unfold f_X11_nosy
  refine tw_aload_n (k := 0) rfl rfl ?_
  refine tw_getR (k := 1) rfl fl_RX11_19 (fun x1 => ?_)
  refine tw_callV (k := 2) (d' := 4) (mc' := 0) (ms' := 0) tw_cI tw_cIi [] rfl rfl wv_RX11_361_X8_greatestGuesser mo_X8_greatestGuesser (t := 7) rfl rfl rfl (fun Q9 => K_X8_greatestGuesser Q9 x1) (by omega) (by decide) (by decide) (Nat.le_of_ble_eq_true rfl) (fun x2 => ?_)
  exact tw_ireturn (k := 3) rfl rfl (by decide) (by decide)
def mX11_secret : tw_MD := (yX11_secret, cX11_secret, 4, (some FieldType.int), [(0, .aload_n 0, 1, 1), (1, .iload_n 1, 1, 2), (2, .iload_n 2, 1, 3), (3, .invokevirtual 187, 3, 6), (6, .aload_n 0, 1, 7), (7, .getfield 23, 3, 10), (10, .aload_n 0, 1, 11), (11, .getfield 19, 3, 14), (14, .invokevirtual 107, 3, 17), (17, .iconst 0, 1, 18), (18, .istore_n 3, 1, 19), (19, .iload_n 3, 1, 20), (20, .bipush 100, 2, 22), (22, .if_icmp .gt 42, 3, 25), (25, .aload_n 0, 1, 26), (26, .getfield 23, 3, 29), (29, .iload_n 1, 1, 30), (30, .iload_n 2, 1, 31), (31, .invokevirtual 209, 3, 34), (34, .iconst 2, 1, 35), (35, .if_icmp .ne 5, 3, 38), (38, .iload_n 3, 1, 39), (39, .ireturn, 1, 40), (40, .aload_n 0, 1, 41), (41, .getfield 23, 3, 44), (44, .iconst 1, 1, 45), (45, .iconst 0, 1, 46), (46, .aload_n 0, 1, 47), (47, .getfield 80, 3, 50), (50, .aload_n 0, 1, 51), (51, .getfield 57, 3, 54), (54, .invokevirtual 265, 3, 57), (57, .pop, 1, 58), (58, .iinc 3 1, 3, 61), (61, .goto (-42), 3, 64), (64, .iconst (-1), 1, 65), (65, .ireturn, 1, 66)], [])
theorem mo_X11_secret : tw_mok mX11_secret 2 := ⟨plainFor_of_name (by decide +kernel), by decide +kernel, by decide +kernel, by decide +kernel, by decide +kernel⟩
theorem dk_X11_secret : tw_dk mX11_secret := by unfold tw_dk; decide +kernel
set_option maxRecDepth 20000 in
theorem K_X11_secret {g : tw_Gx} (Q : tw_Rs → tw_Mem → Prop) (a0 : Nat) (a1 : Int32) (a2 : Int32) : tw_Kt g mX11_secret 8 3 18 [.ref a0, .int a1, .int a2] Q (f_X11_secret a0 a1 a2 (fun v => Q (.inl (some (.int v)))) (fun E => Q (.inr E))) := by
  refine tw_mkK (L := [some (.ref a0), some (.int a1), some (.int a2), none]) mo_X11_secret dk_X11_secret rfl (Nat.le_of_ble_eq_true rfl) rfl ?_
  unfold f_X11_secret
  refine tw_aload_n (k := 0) rfl rfl ?_
  refine tw_iload_n (k := 1) rfl rfl ?_
  refine tw_iload_n (k := 2) rfl rfl ?_
  refine tw_callVX (k := 3) (d' := 7) (mc' := 3) (ms' := 18) tw_cU tw_cUi [.int a1, .int a2] rfl rfl wv_RX11_187_X11_needTwo mo_X11_needTwo (t := 10) rfl rfl rfl (fun Q9 => K_X11_needTwo Q9 a0 a1 a2) (by omega) (by decide) (by decide) (Nat.le_of_ble_eq_true rfl) (fun u1 => ?_) (fun E => tw_out rfl (by decide) (by decide))
  refine tw_aload_n (k := 4) rfl rfl ?_
  refine tw_getR (k := 5) rfl fl_RX11_23 (fun x2 => ?_)
  refine tw_aload_n (k := 6) rfl rfl ?_
  refine tw_getR (k := 7) rfl fl_RX11_19 (fun x3 => ?_)
  refine tw_callV (k := 8) (d' := 2) (mc' := 0) (ms' := 0) tw_cU tw_cUi [.ref x3] rfl rfl wv_RX11_107_X8_take mo_X8_take (t := 7) rfl rfl rfl (fun Q9 => K_X8_take Q9 x2 x3) (by omega) (by decide) (by decide) (Nat.le_of_ble_eq_true rfl) (fun u4 => ?_)
  refine tw_iconst (k := 9) (0 : Int32) rfl (by decide) ?_
  refine tw_ist_n (k := 10) [some (.ref a0), some (.int a1), some (.int a2), some (.int (0 : Int32))] rfl (Nat.le_of_ble_eq_true rfl) rfl rfl ?_
  refine tw_loop (fun s6 => [some (.ref a0), some (.int a1), some (.int a2), some (.int s6)]) (fun s6 => []) (fun r5 h5 s6 => ?_) _ rfl rfl
  refine tw_iload_n (k := 11) rfl rfl ?_
  refine tw_bipush (k := 12) (100 : Int32) rfl (by decide) ?_
  refine tw_icmp_gt (k := 13) 64 rfl (by decide) ?_ ?_
  · refine tw_iconst (k := 35) (-1 : Int32) rfl (by decide) ?_
    exact tw_ireturn (k := 36) rfl rfl (by decide) (by decide)
  · refine tw_aload_n (k := 14) rfl rfl ?_
    refine tw_getR (k := 15) rfl fl_RX11_23 (fun x7 => ?_)
    refine tw_iload_n (k := 16) rfl rfl ?_
    refine tw_iload_n (k := 17) rfl rfl ?_
    refine tw_callV (k := 18) (d' := 3) (mc' := 0) (ms' := 0) tw_cI tw_cIi [.int a1, .int a2] rfl rfl wv_RX11_209_X8_toneOf mo_X8_toneOf (t := 7) rfl rfl rfl (fun Q9 => K_X8_toneOf Q9 x7 a1 a2) (by omega) (by decide) (by decide) (Nat.le_of_ble_eq_true rfl) (fun x8 => ?_)
    refine tw_iconst (k := 19) (2 : Int32) rfl (by decide) ?_
    refine tw_icmp_ne (k := 20) 40 rfl (by decide) ?_ ?_
    · refine tw_aload_n (k := 23) rfl rfl ?_
      refine tw_getR (k := 24) rfl fl_RX11_23 (fun x9 => ?_)
      refine tw_iconst (k := 25) (1 : Int32) rfl (by decide) ?_
      refine tw_iconst (k := 26) (0 : Int32) rfl (by decide) ?_
      refine tw_aload_n (k := 27) rfl rfl ?_
      refine tw_getR (k := 28) rfl fl_RX11_80 (fun x10 => ?_)
      refine tw_aload_n (k := 29) rfl rfl ?_
      refine tw_getR (k := 30) rfl fl_RX11_57 (fun x11 => ?_)
      refine tw_callV (k := 31) (d' := 7) (mc' := 0) (ms' := 0) tw_cI tw_cIi [.int (1 : Int32), .int (0 : Int32), .ref x10, .ref x11] rfl rfl wv_RX11_265_X8_passHours mo_X8_passHours (t := 7) rfl rfl rfl (fun Q9 => K_X8_passHours Q9 x9 (1 : Int32) (0 : Int32) x10 x11) (by omega) (by decide) (by decide) (Nat.le_of_ble_eq_true rfl) (fun x12 => ?_)
      refine tw_pop (k := 32) rfl rfl ?_
      refine tw_inc (k := 33) (1 : Int32) [some (.ref a0), some (.int a1), some (.int a2), some (.int (s6 + (1 : Int32)))] rfl rfl (by decide) (Nat.le_of_ble_eq_true rfl) rfl rfl ?_
      refine tw_goto (k := 34) 19 rfl (by decide) ?_
      exact h5 (s6 + (1 : Int32))
    · refine tw_iload_n (k := 21) rfl rfl ?_
      exact tw_ireturn (k := 22) rfl rfl (by decide) (by decide)
def mX11_odds : tw_MD := (yX11_odds, cX11_odds, 5, (some FieldType.int), [(0, .aload_n 0, 1, 1), (1, .iload_n 1, 1, 2), (2, .iload_n 2, 1, 3), (3, .invokevirtual 187, 3, 6), (6, .iload_n 3, 1, 7), (7, .iconst 0, 1, 8), (8, .iconst 3, 1, 9), (9, .invokestatic 250, 3, 12), (12, .iload 4, 2, 14), (14, .iconst 0, 1, 15), (15, .iconst 3, 1, 16), (16, .invokestatic 250, 3, 19), (19, .aload_n 0, 1, 20), (20, .getfield 66, 3, 23), (23, .iload_n 1, 1, 24), (24, .iload_n 2, 1, 25), (25, .iload_n 3, 1, 26), (26, .iload 4, 2, 28), (28, .invokevirtual 364, 3, 31), (31, .ireturn, 1, 32)], [])
theorem mo_X11_odds : tw_mok mX11_odds 4 := ⟨plainFor_of_name (by decide +kernel), by decide +kernel, by decide +kernel, by decide +kernel, by decide +kernel⟩
theorem dk_X11_odds : tw_dk mX11_odds := by unfold tw_dk; decide +kernel
theorem wv_RX11_364_X4_oddsOf : tw_wV RX11 364 mX4_oddsOf := ⟨List.mem_of_getElem? (i := 1705) (by decide +kernel), List.mem_of_getElem? (i := 1706) (by decide +kernel), List.mem_of_getElem? (i := 1707) (by decide +kernel), List.mem_of_getElem? (i := 134) (by decide +kernel), List.mem_of_getElem? (i := 1708) (by decide +kernel)⟩
set_option maxRecDepth 20000 in
theorem K_X11_odds {g : tw_Gx} (Q : tw_Rs → tw_Mem → Prop) (a0 : Nat) (a1 : Int32) (a2 : Int32) (a3 : Int32) (a4 : Int32) : tw_Kt g mX11_odds 8 5 30 [.ref a0, .int a1, .int a2, .int a3, .int a4] Q (f_X11_odds a0 a1 a2 a3 a4 (fun v => Q (.inl (some (.int v)))) (fun E => Q (.inr E))) := by
  refine tw_mkK (L := [some (.ref a0), some (.int a1), some (.int a2), some (.int a3), some (.int a4)]) mo_X11_odds dk_X11_odds rfl (Nat.le_of_ble_eq_true rfl) rfl ?_
  unfold f_X11_odds
  refine tw_aload_n (k := 0) rfl rfl ?_
  refine tw_iload_n (k := 1) rfl rfl ?_
  refine tw_iload_n (k := 2) rfl rfl ?_
  refine tw_callVX (k := 3) (d' := 7) (mc' := 3) (ms' := 18) tw_cU tw_cUi [.int a1, .int a2] rfl rfl wv_RX11_187_X11_needTwo mo_X11_needTwo (t := 10) rfl rfl rfl (fun Q9 => K_X11_needTwo Q9 a0 a1 a2) (by omega) (by decide) (by decide) (Nat.le_of_ble_eq_true rfl) (fun u1 => ?_) (fun E => tw_out rfl (by decide) (by decide))
  refine tw_iload_n (k := 4) rfl rfl ?_
  refine tw_iconst (k := 5) (0 : Int32) rfl (by decide) ?_
  refine tw_iconst (k := 6) (3 : Int32) rfl (by decide) ?_
  refine tw_callSX (k := 7) (d' := 6) (mc' := 1) (ms' := 6) tw_cU tw_cUi [.int a3, .int (0 : Int32), .int (3 : Int32)] rfl rfl ws_RX11_250_X11_needNumber mo_X11_needNumber rfl (fun Q9 => K_X11_needNumber Q9 a3 (0 : Int32) (3 : Int32)) (by omega) (by decide) (by decide) (Nat.le_of_ble_eq_true rfl) (fun u2 => ?_) (fun E => tw_out rfl (by decide) (by decide))
  refine tw_iload (k := 8) rfl rfl ?_
  refine tw_iconst (k := 9) (0 : Int32) rfl (by decide) ?_
  refine tw_iconst (k := 10) (3 : Int32) rfl (by decide) ?_
  refine tw_callSX (k := 11) (d' := 6) (mc' := 1) (ms' := 6) tw_cU tw_cUi [.int a4, .int (0 : Int32), .int (3 : Int32)] rfl rfl ws_RX11_250_X11_needNumber mo_X11_needNumber rfl (fun Q9 => K_X11_needNumber Q9 a4 (0 : Int32) (3 : Int32)) (by omega) (by decide) (by decide) (Nat.le_of_ble_eq_true rfl) (fun u3 => ?_) (fun E => tw_out rfl (by decide) (by decide))
  refine tw_aload_n (k := 12) rfl rfl ?_
  refine tw_getR (k := 13) rfl fl_RX11_66 (fun x4 => ?_)
  refine tw_iload_n (k := 14) rfl rfl ?_
  refine tw_iload_n (k := 15) rfl rfl ?_
  refine tw_iload_n (k := 16) rfl rfl ?_
  refine tw_iload (k := 17) rfl rfl ?_
  refine tw_callV (k := 18) (d' := 4) (mc' := 0) (ms' := 0) tw_cI tw_cIi [.int a1, .int a2, .int a3, .int a4] rfl rfl wv_RX11_364_X4_oddsOf mo_X4_oddsOf (t := 4) rfl rfl rfl (fun Q9 => K_X4_oddsOf Q9 x4 a1 a2 a3 a4) (by omega) (by decide) (by decide) (Nat.le_of_ble_eq_true rfl) (fun x5 => ?_)
  exact tw_ireturn (k := 19) rfl rfl (by decide) (by decide)
def mX11_twins : tw_MD := (yX11_twins, cX11_twins, 1, (some FieldType.int), [(0, .aload_n 0, 1, 1), (1, .getfield 66, 3, 4), (4, .invokevirtual 368, 3, 7), (7, .ireturn, 1, 8)], [])
theorem mo_X11_twins : tw_mok mX11_twins 0 := ⟨plainFor_of_name (by decide +kernel), by decide +kernel, by decide +kernel, by decide +kernel, by decide +kernel⟩
theorem dk_X11_twins : tw_dk mX11_twins := by unfold tw_dk; decide +kernel
theorem wv_RX11_368_X4_alikePairs : tw_wV RX11 368 mX4_alikePairs := ⟨List.mem_of_getElem? (i := 798) (by decide +kernel), List.mem_of_getElem? (i := 799) (by decide +kernel), List.mem_of_getElem? (i := 800) (by decide +kernel), List.mem_of_getElem? (i := 134) (by decide +kernel), List.mem_of_getElem? (i := 801) (by decide +kernel)⟩
set_option maxRecDepth 20000 in
theorem K_X11_twins {g : tw_Gx} (Q : tw_Rs → tw_Mem → Prop) (a0 : Nat) : tw_Kt g mX11_twins 6 0 0 [.ref a0] Q (f_X11_twins a0 (fun v => Q (.inl (some (.int v))))) := by
  refine tw_mkK (L := [some (.ref a0)]) mo_X11_twins dk_X11_twins rfl (Nat.le_of_ble_eq_true rfl) rfl ?_
  unfold f_X11_twins
  refine tw_aload_n (k := 0) rfl rfl ?_
  refine tw_getR (k := 1) rfl fl_RX11_66 (fun x1 => ?_)
  refine tw_callV (k := 2) (d' := 5) (mc' := 0) (ms' := 0) tw_cI tw_cIi [] rfl rfl wv_RX11_368_X4_alikePairs mo_X4_alikePairs (t := 4) rfl rfl rfl (fun Q9 => K_X4_alikePairs Q9 x1) (by omega) (by decide) (by decide) (Nat.le_of_ble_eq_true rfl) (fun x2 => ?_)
  exact tw_ireturn (k := 3) rfl rfl (by decide) (by decide)
def mX11_rests : tw_MD := (yX11_rests, cX11_rests, 3, (some FieldType.int), [(0, .aload_n 0, 1, 1), (1, .iload_n 1, 1, 2), (2, .iload_n 2, 1, 3), (3, .invokevirtual 187, 3, 6), (6, .aload_n 0, 1, 7), (7, .getfield 66, 3, 10), (10, .iload_n 1, 1, 11), (11, .iload_n 2, 1, 12), (12, .invokevirtual 371, 3, 15), (15, .ireturn, 1, 16)], [])
theorem mo_X11_rests : tw_mok mX11_rests 2 := ⟨plainFor_of_name (by decide +kernel), by decide +kernel, by decide +kernel, by decide +kernel, by decide +kernel⟩
theorem dk_X11_rests : tw_dk mX11_rests := by unfold tw_dk; decide +kernel
theorem wv_RX11_371_X4_restingChoices : tw_wV RX11 371 mX4_restingChoices := ⟨List.mem_of_getElem? (i := 1723) (by decide +kernel), List.mem_of_getElem? (i := 1724) (by decide +kernel), List.mem_of_getElem? (i := 1725) (by decide +kernel), List.mem_of_getElem? (i := 134) (by decide +kernel), List.mem_of_getElem? (i := 1726) (by decide +kernel)⟩
set_option maxRecDepth 20000 in
theorem K_X11_rests {g : tw_Gx} (Q : tw_Rs → tw_Mem → Prop) (a0 : Nat) (a1 : Int32) (a2 : Int32) : tw_Kt g mX11_rests 8 3 18 [.ref a0, .int a1, .int a2] Q (f_X11_rests a0 a1 a2 (fun v => Q (.inl (some (.int v)))) (fun E => Q (.inr E))) := by
  refine tw_mkK (L := [some (.ref a0), some (.int a1), some (.int a2)]) mo_X11_rests dk_X11_rests rfl (Nat.le_of_ble_eq_true rfl) rfl ?_
  unfold f_X11_rests
  refine tw_aload_n (k := 0) rfl rfl ?_
  refine tw_iload_n (k := 1) rfl rfl ?_
  refine tw_iload_n (k := 2) rfl rfl ?_
  refine tw_callVX (k := 3) (d' := 7) (mc' := 3) (ms' := 18) tw_cU tw_cUi [.int a1, .int a2] rfl rfl wv_RX11_187_X11_needTwo mo_X11_needTwo (t := 10) rfl rfl rfl (fun Q9 => K_X11_needTwo Q9 a0 a1 a2) (by omega) (by decide) (by decide) (Nat.le_of_ble_eq_true rfl) (fun u1 => ?_) (fun E => tw_out rfl (by decide) (by decide))
  refine tw_aload_n (k := 4) rfl rfl ?_
  refine tw_getR (k := 5) rfl fl_RX11_66 (fun x2 => ?_)
  refine tw_iload_n (k := 6) rfl rfl ?_
  refine tw_iload_n (k := 7) rfl rfl ?_
  refine tw_callV (k := 8) (d' := 4) (mc' := 0) (ms' := 0) tw_cI tw_cIi [.int a1, .int a2] rfl rfl wv_RX11_371_X4_restingChoices mo_X4_restingChoices (t := 4) rfl rfl rfl (fun Q9 => K_X4_restingChoices Q9 x2 a1 a2) (by omega) (by decide) (by decide) (Nat.le_of_ble_eq_true rfl) (fun x3 => ?_)
  exact tw_ireturn (k := 9) rfl rfl (by decide) (by decide)
def mX11_ahead : tw_MD := (yX11_ahead, cX11_ahead, 4, (some FieldType.int), [(0, .aload_n 0, 1, 1), (1, .iload_n 1, 1, 2), (2, .iload_n 2, 1, 3), (3, .invokevirtual 187, 3, 6), (6, .iload_n 3, 1, 7), (7, .iconst 0, 1, 8), (8, .bipush 100, 2, 10), (10, .invokestatic 250, 3, 13), (13, .aload_n 0, 1, 14), (14, .getfield 23, 3, 17), (17, .aload_n 0, 1, 18), (18, .getfield 19, 3, 21), (21, .invokevirtual 107, 3, 24), (24, .aload_n 0, 1, 25), (25, .getfield 23, 3, 28), (28, .iload_n 3, 1, 29), (29, .iconst 0, 1, 30), (30, .aload_n 0, 1, 31), (31, .getfield 80, 3, 34), (34, .aload_n 0, 1, 35), (35, .getfield 57, 3, 38), (38, .invokevirtual 265, 3, 41), (41, .pop, 1, 42), (42, .aload_n 0, 1, 43), (43, .getfield 23, 3, 46), (46, .iload_n 1, 1, 47), (47, .iload_n 2, 1, 48), (48, .invokevirtual 191, 3, 51), (51, .ireturn, 1, 52)], [])
theorem mo_X11_ahead : tw_mok mX11_ahead 3 := ⟨plainFor_of_name (by decide +kernel), by decide +kernel, by decide +kernel, by decide +kernel, by decide +kernel⟩
theorem dk_X11_ahead : tw_dk mX11_ahead := by unfold tw_dk; decide +kernel
set_option maxRecDepth 20000 in
theorem K_X11_ahead {g : tw_Gx} (Q : tw_Rs → tw_Mem → Prop) (a0 : Nat) (a1 : Int32) (a2 : Int32) (a3 : Int32) : tw_Kt g mX11_ahead 8 4 24 [.ref a0, .int a1, .int a2, .int a3] Q (f_X11_ahead a0 a1 a2 a3 (fun v => Q (.inl (some (.int v)))) (fun E => Q (.inr E))) := by
  refine tw_mkK (L := [some (.ref a0), some (.int a1), some (.int a2), some (.int a3)]) mo_X11_ahead dk_X11_ahead rfl (Nat.le_of_ble_eq_true rfl) rfl ?_
  unfold f_X11_ahead
  refine tw_aload_n (k := 0) rfl rfl ?_
  refine tw_iload_n (k := 1) rfl rfl ?_
  refine tw_iload_n (k := 2) rfl rfl ?_
  refine tw_callVX (k := 3) (d' := 7) (mc' := 3) (ms' := 18) tw_cU tw_cUi [.int a1, .int a2] rfl rfl wv_RX11_187_X11_needTwo mo_X11_needTwo (t := 10) rfl rfl rfl (fun Q9 => K_X11_needTwo Q9 a0 a1 a2) (by omega) (by decide) (by decide) (Nat.le_of_ble_eq_true rfl) (fun u1 => ?_) (fun E => tw_out rfl (by decide) (by decide))
  refine tw_iload_n (k := 4) rfl rfl ?_
  refine tw_iconst (k := 5) (0 : Int32) rfl (by decide) ?_
  refine tw_bipush (k := 6) (100 : Int32) rfl (by decide) ?_
  refine tw_callSX (k := 7) (d' := 6) (mc' := 1) (ms' := 6) tw_cU tw_cUi [.int a3, .int (0 : Int32), .int (100 : Int32)] rfl rfl ws_RX11_250_X11_needNumber mo_X11_needNumber rfl (fun Q9 => K_X11_needNumber Q9 a3 (0 : Int32) (100 : Int32)) (by omega) (by decide) (by decide) (Nat.le_of_ble_eq_true rfl) (fun u2 => ?_) (fun E => tw_out rfl (by decide) (by decide))
  refine tw_aload_n (k := 8) rfl rfl ?_
  refine tw_getR (k := 9) rfl fl_RX11_23 (fun x3 => ?_)
  refine tw_aload_n (k := 10) rfl rfl ?_
  refine tw_getR (k := 11) rfl fl_RX11_19 (fun x4 => ?_)
  refine tw_callV (k := 12) (d' := 2) (mc' := 0) (ms' := 0) tw_cU tw_cUi [.ref x4] rfl rfl wv_RX11_107_X8_take mo_X8_take (t := 7) rfl rfl rfl (fun Q9 => K_X8_take Q9 x3 x4) (by omega) (by decide) (by decide) (Nat.le_of_ble_eq_true rfl) (fun u5 => ?_)
  refine tw_aload_n (k := 13) rfl rfl ?_
  refine tw_getR (k := 14) rfl fl_RX11_23 (fun x6 => ?_)
  refine tw_iload_n (k := 15) rfl rfl ?_
  refine tw_iconst (k := 16) (0 : Int32) rfl (by decide) ?_
  refine tw_aload_n (k := 17) rfl rfl ?_
  refine tw_getR (k := 18) rfl fl_RX11_80 (fun x7 => ?_)
  refine tw_aload_n (k := 19) rfl rfl ?_
  refine tw_getR (k := 20) rfl fl_RX11_57 (fun x8 => ?_)
  refine tw_callV (k := 21) (d' := 7) (mc' := 0) (ms' := 0) tw_cI tw_cIi [.int a3, .int (0 : Int32), .ref x7, .ref x8] rfl rfl wv_RX11_265_X8_passHours mo_X8_passHours (t := 7) rfl rfl rfl (fun Q9 => K_X8_passHours Q9 x6 a3 (0 : Int32) x7 x8) (by omega) (by decide) (by decide) (Nat.le_of_ble_eq_true rfl) (fun x9 => ?_)
  refine tw_pop (k := 22) rfl rfl ?_
  refine tw_aload_n (k := 23) rfl rfl ?_
  refine tw_getR (k := 24) rfl fl_RX11_23 (fun x10 => ?_)
  refine tw_iload_n (k := 25) rfl rfl ?_
  refine tw_iload_n (k := 26) rfl rfl ?_
  refine tw_callV (k := 27) (d' := 2) (mc' := 0) (ms' := 0) tw_cI tw_cIi [.int a1, .int a2] rfl rfl wv_RX11_191_X8_guessOf mo_X8_guessOf (t := 7) rfl rfl rfl (fun Q9 => K_X8_guessOf Q9 x10 a1 a2) (by omega) (by decide) (by decide) (Nat.le_of_ble_eq_true rfl) (fun x11 => ?_)
  exact tw_ireturn (k := 28) rfl rfl (by decide) (by decide)
def mX11_trial : tw_MD := (yX11_trial, cX11_trial, 4, (some FieldType.int), [(0, .iload_n 1, 1, 1), (1, .iconst 0, 1, 2), (2, .bipush 100, 2, 4), (4, .invokestatic 250, 3, 7), (7, .aload_n 0, 1, 8), (8, .getfield 23, 3, 11), (11, .aload_n 0, 1, 12), (12, .getfield 19, 3, 15), (15, .invokevirtual 107, 3, 18), (18, .aload_n 0, 1, 19), (19, .getfield 23, 3, 22), (22, .iload_n 1, 1, 23), (23, .iconst 1, 1, 24), (24, .aload_n 0, 1, 25), (25, .getfield 80, 3, 28), (28, .aload_n 0, 1, 29), (29, .getfield 57, 3, 32), (32, .invokevirtual 265, 3, 35), (35, .istore_n 3, 1, 36), (36, .iload_n 2, 1, 37), (37, .ifCond .eq 7, 3, 40), (40, .iload_n 3, 1, 41), (41, .goto 10, 3, 44), (44, .aload_n 0, 1, 45), (45, .getfield 23, 3, 48), (48, .invokevirtual 374, 3, 51), (51, .ireturn, 1, 52)], [])
theorem mo_X11_trial : tw_mok mX11_trial 2 := ⟨plainFor_of_name (by decide +kernel), by decide +kernel, by decide +kernel, by decide +kernel, by decide +kernel⟩
theorem dk_X11_trial : tw_dk mX11_trial := by unfold tw_dk; decide +kernel
theorem wv_RX11_374_X8_knowingPairs : tw_wV RX11 374 mX8_knowingPairs := ⟨List.mem_of_getElem? (i := 856) (by decide +kernel), List.mem_of_getElem? (i := 857) (by decide +kernel), List.mem_of_getElem? (i := 858) (by decide +kernel), List.mem_of_getElem? (i := 126) (by decide +kernel), List.mem_of_getElem? (i := 859) (by decide +kernel)⟩
set_option maxRecDepth 20000 in
theorem K_X11_trial {g : tw_Gx} (Q : tw_Rs → tw_Mem → Prop) (a0 : Nat) (a1 : Int32) (a2 : Int32) : tw_Kt g mX11_trial 8 1 6 [.ref a0, .int a1, .int a2] Q (f_X11_trial a0 a1 a2 (fun v => Q (.inl (some (.int v)))) (fun E => Q (.inr E))) := by
  refine tw_mkK (L := [some (.ref a0), some (.int a1), some (.int a2), none]) mo_X11_trial dk_X11_trial rfl (Nat.le_of_ble_eq_true rfl) rfl ?_
  unfold f_X11_trial
  refine tw_iload_n (k := 0) rfl rfl ?_
  refine tw_iconst (k := 1) (0 : Int32) rfl (by decide) ?_
  refine tw_bipush (k := 2) (100 : Int32) rfl (by decide) ?_
  refine tw_callSX (k := 3) (d' := 6) (mc' := 1) (ms' := 6) tw_cU tw_cUi [.int a1, .int (0 : Int32), .int (100 : Int32)] rfl rfl ws_RX11_250_X11_needNumber mo_X11_needNumber rfl (fun Q9 => K_X11_needNumber Q9 a1 (0 : Int32) (100 : Int32)) (by omega) (by decide) (by decide) (Nat.le_of_ble_eq_true rfl) (fun u1 => ?_) (fun E => tw_out rfl (by decide) (by decide))
  refine tw_aload_n (k := 4) rfl rfl ?_
  refine tw_getR (k := 5) rfl fl_RX11_23 (fun x2 => ?_)
  refine tw_aload_n (k := 6) rfl rfl ?_
  refine tw_getR (k := 7) rfl fl_RX11_19 (fun x3 => ?_)
  refine tw_callV (k := 8) (d' := 2) (mc' := 0) (ms' := 0) tw_cU tw_cUi [.ref x3] rfl rfl wv_RX11_107_X8_take mo_X8_take (t := 7) rfl rfl rfl (fun Q9 => K_X8_take Q9 x2 x3) (by omega) (by decide) (by decide) (Nat.le_of_ble_eq_true rfl) (fun u4 => ?_)
  refine tw_aload_n (k := 9) rfl rfl ?_
  refine tw_getR (k := 10) rfl fl_RX11_23 (fun x5 => ?_)
  refine tw_iload_n (k := 11) rfl rfl ?_
  refine tw_iconst (k := 12) (1 : Int32) rfl (by decide) ?_
  refine tw_aload_n (k := 13) rfl rfl ?_
  refine tw_getR (k := 14) rfl fl_RX11_80 (fun x6 => ?_)
  refine tw_aload_n (k := 15) rfl rfl ?_
  refine tw_getR (k := 16) rfl fl_RX11_57 (fun x7 => ?_)
  refine tw_callV (k := 17) (d' := 7) (mc' := 0) (ms' := 0) tw_cI tw_cIi [.int a1, .int (1 : Int32), .ref x6, .ref x7] rfl rfl wv_RX11_265_X8_passHours mo_X8_passHours (t := 7) rfl rfl rfl (fun Q9 => K_X8_passHours Q9 x5 a1 (1 : Int32) x6 x7) (by omega) (by decide) (by decide) (Nat.le_of_ble_eq_true rfl) (fun x8 => ?_)
  refine tw_ist_n (k := 18) [some (.ref a0), some (.int a1), some (.int a2), some (.int x8)] rfl (Nat.le_of_ble_eq_true rfl) rfl rfl ?_
  refine tw_iload_n (k := 19) rfl rfl ?_
  refine tw_if_eq (k := 20) 44 rfl (by decide) ?_ ?_
  · refine tw_aload_n (k := 23) rfl rfl ?_
    refine tw_getR (k := 24) rfl fl_RX11_23 (fun x9 => ?_)
    refine tw_callV (k := 25) (d' := 4) (mc' := 0) (ms' := 0) tw_cI tw_cIi [] rfl rfl wv_RX11_374_X8_knowingPairs mo_X8_knowingPairs (t := 7) rfl rfl rfl (fun Q9 => K_X8_knowingPairs Q9 x9) (by omega) (by decide) (by decide) (Nat.le_of_ble_eq_true rfl) (fun x10 => ?_)
    exact tw_ireturn (k := 26) rfl rfl (by decide) (by decide)
  · refine tw_iload_n (k := 21) rfl rfl ?_
    refine tw_goto (k := 22) 51 rfl (by decide) ?_
    exact tw_ireturn (k := 26) rfl rfl (by decide) (by decide)
def mX11_span : tw_MD := (yX11_span, cX11_span, 6, (some FieldType.int), [(0, .iload_n 1, 1, 1), (1, .iconst 0, 1, 2), (2, .bipush 100, 2, 4), (4, .invokestatic 250, 3, 7), (7, .iconst (-1), 1, 8), (8, .istore_n 3, 1, 9), (9, .iconst 1, 1, 10), (10, .istore 4, 2, 12), (12, .iload 4, 2, 14), (14, .bipush 6, 2, 16), (16, .if_icmp .gt 83, 3, 19), (19, .aload_n 0, 1, 20), (20, .getfield 23, 3, 23), (23, .aload_n 0, 1, 24), (24, .getfield 19, 3, 27), (27, .invokevirtual 107, 3, 30), (30, .aload_n 0, 1, 31), (31, .getfield 23, 3, 34), (34, .iload 4, 2, 36), (36, .putfield 377, 3, 39), (39, .aload_n 0, 1, 40), (40, .getfield 23, 3, 43), (43, .iload_n 1, 1, 44), (44, .iconst 1, 1, 45), (45, .aload_n 0, 1, 46), (46, .getfield 80, 3, 49), (49, .aload_n 0, 1, 50), (50, .getfield 57, 3, 53), (53, .invokevirtual 265, 3, 56), (56, .pop, 1, 57), (57, .aload_n 0, 1, 58), (58, .getfield 23, 3, 61), (61, .invokevirtual 374, 3, 64), (64, .istore 5, 2, 66), (66, .iload_n 3, 1, 67), (67, .iconst (-1), 1, 68), (68, .if_icmp .eq 22, 3, 71), (71, .iload_n 2, 1, 72), (72, .ifCond .eq 12, 3, 75), (75, .iload 5, 2, 77), (77, .iload_n 3, 1, 78), (78, .if_icmp .le 15, 3, 81), (81, .goto 9, 3, 84), (84, .iload 5, 2, 86), (86, .iload_n 3, 1, 87), (87, .if_icmp .ge 6, 3, 90), (90, .iload 5, 2, 92), (92, .istore_n 3, 1, 93), (93, .iinc 4 1, 3, 96), (96, .goto (-84), 3, 99), (99, .iload_n 3, 1, 100), (100, .ireturn, 1, 101)], [])
theorem mo_X11_span : tw_mok mX11_span 2 := ⟨plainFor_of_name (by decide +kernel), by decide +kernel, by decide +kernel, by decide +kernel, by decide +kernel⟩
theorem dk_X11_span : tw_dk mX11_span := by unfold tw_dk; decide +kernel
theorem fl_RX11_377 : tw_fl RX11 377 51 := Or.inr ⟨"TwinRopes", List.mem_of_getElem? (i := 229) (by decide +kernel)⟩
theorem wf_X11_span_377 : tw_wf mX11_span 377 51 := Or.inl rfl
set_option maxRecDepth 20000 in
theorem K_X11_span {g : tw_Gx} (Q : tw_Rs → tw_Mem → Prop) (a0 : Nat) (a1 : Int32) (a2 : Int32) : tw_Kt g mX11_span 8 1 6 [.ref a0, .int a1, .int a2] Q (f_X11_span a0 a1 a2 (fun v => Q (.inl (some (.int v)))) (fun E => Q (.inr E))) := by
  refine tw_mkK (L := [some (.ref a0), some (.int a1), some (.int a2), none, none, none]) mo_X11_span dk_X11_span rfl (Nat.le_of_ble_eq_true rfl) rfl ?_
  unfold f_X11_span
  refine tw_iload_n (k := 0) rfl rfl ?_
  refine tw_iconst (k := 1) (0 : Int32) rfl (by decide) ?_
  refine tw_bipush (k := 2) (100 : Int32) rfl (by decide) ?_
  refine tw_callSX (k := 3) (d' := 6) (mc' := 1) (ms' := 6) tw_cU tw_cUi [.int a1, .int (0 : Int32), .int (100 : Int32)] rfl rfl ws_RX11_250_X11_needNumber mo_X11_needNumber rfl (fun Q9 => K_X11_needNumber Q9 a1 (0 : Int32) (100 : Int32)) (by omega) (by decide) (by decide) (Nat.le_of_ble_eq_true rfl) (fun u1 => ?_) (fun E => tw_out rfl (by decide) (by decide))
  refine tw_iconst (k := 4) (-1 : Int32) rfl (by decide) ?_
  refine tw_ist_n (k := 5) [some (.ref a0), some (.int a1), some (.int a2), some (.int (-1 : Int32)), none, none] rfl (Nat.le_of_ble_eq_true rfl) rfl rfl ?_
  refine tw_iconst (k := 6) (1 : Int32) rfl (by decide) ?_
  refine tw_ist (k := 7) [some (.ref a0), some (.int a1), some (.int a2), some (.int (-1 : Int32)), some (.int (1 : Int32)), none] rfl (Nat.le_of_ble_eq_true rfl) rfl rfl ?_
  refine tw_loop (fun s3 => [some (.ref a0), some (.int a1), some (.int a2), some (.int s3.1), some (.int s3.2), none]) (fun s3 => []) (fun r2 h2 s3 => ?_) _ rfl rfl
  refine tw_iload (k := 8) rfl rfl ?_
  refine tw_bipush (k := 9) (6 : Int32) rfl (by decide) ?_
  refine tw_icmp_gt (k := 10) 99 rfl (by decide) ?_ ?_
  · refine tw_iload_n (k := 50) rfl rfl ?_
    exact tw_ireturn (k := 51) rfl rfl (by decide) (by decide)
  · refine tw_aload_n (k := 11) rfl rfl ?_
    refine tw_getR (k := 12) rfl fl_RX11_23 (fun x4 => ?_)
    refine tw_aload_n (k := 13) rfl rfl ?_
    refine tw_getR (k := 14) rfl fl_RX11_19 (fun x5 => ?_)
    refine tw_callV (k := 15) (d' := 2) (mc' := 0) (ms' := 0) tw_cU tw_cUi [.ref x5] rfl rfl wv_RX11_107_X8_take mo_X8_take (t := 7) rfl rfl rfl (fun Q9 => K_X8_take Q9 x4 x5) (by omega) (by decide) (by decide) (Nat.le_of_ble_eq_true rfl) (fun u6 => ?_)
    refine tw_aload_n (k := 16) rfl rfl ?_
    refine tw_getR (k := 17) rfl fl_RX11_23 (fun x7 => ?_)
    refine tw_iload (k := 18) rfl rfl ?_
    refine tw_putI (k := 19) rfl fl_RX11_377 wf_X11_span_377 (by decide +kernel) ?_
    refine tw_aload_n (k := 20) rfl rfl ?_
    refine tw_getR (k := 21) rfl fl_RX11_23 (fun x8 => ?_)
    refine tw_iload_n (k := 22) rfl rfl ?_
    refine tw_iconst (k := 23) (1 : Int32) rfl (by decide) ?_
    refine tw_aload_n (k := 24) rfl rfl ?_
    refine tw_getR (k := 25) rfl fl_RX11_80 (fun x9 => ?_)
    refine tw_aload_n (k := 26) rfl rfl ?_
    refine tw_getR (k := 27) rfl fl_RX11_57 (fun x10 => ?_)
    refine tw_callV (k := 28) (d' := 7) (mc' := 0) (ms' := 0) tw_cI tw_cIi [.int a1, .int (1 : Int32), .ref x9, .ref x10] rfl rfl wv_RX11_265_X8_passHours mo_X8_passHours (t := 7) rfl rfl rfl (fun Q9 => K_X8_passHours Q9 x8 a1 (1 : Int32) x9 x10) (by omega) (by decide) (by decide) (Nat.le_of_ble_eq_true rfl) (fun x11 => ?_)
    refine tw_pop (k := 29) rfl rfl ?_
    refine tw_aload_n (k := 30) rfl rfl ?_
    refine tw_getR (k := 31) rfl fl_RX11_23 (fun x12 => ?_)
    refine tw_callV (k := 32) (d' := 4) (mc' := 0) (ms' := 0) tw_cI tw_cIi [] rfl rfl wv_RX11_374_X8_knowingPairs mo_X8_knowingPairs (t := 7) rfl rfl rfl (fun Q9 => K_X8_knowingPairs Q9 x12) (by omega) (by decide) (by decide) (Nat.le_of_ble_eq_true rfl) (fun x13 => ?_)
    refine tw_ist (k := 33) [some (.ref a0), some (.int a1), some (.int a2), some (.int s3.1), some (.int s3.2), some (.int x13)] rfl (Nat.le_of_ble_eq_true rfl) rfl rfl ?_
    refine tw_iload_n (k := 34) rfl rfl ?_
    refine tw_iconst (k := 35) (-1 : Int32) rfl (by decide) ?_
    refine tw_join 93 (fun s15 => [some (.ref a0), some (.int a1), some (.int a2), some (.int s15), some (.int s3.2), some (.int x13)]) (fun s15 => []) 1 6 (fun s15 => ?_) (fun j14 g14 => ?_)
    · refine tw_inc (k := 48) (1 : Int32) [some (.ref a0), some (.int a1), some (.int a2), some (.int s15), some (.int (s3.2 + (1 : Int32))), some (.int x13)] rfl rfl (by decide) (Nat.le_of_ble_eq_true rfl) rfl rfl ?_
      refine tw_goto (k := 49) 12 rfl (by decide) ?_
      exact tw_wk (L' := [some (.ref a0), some (.int a1), some (.int a2), some (.int s15), some (.int (s3.2 + (1 : Int32))), none]) ⟨Or.inr rfl, Or.inr rfl, Or.inr rfl, Or.inr rfl, Or.inr rfl, Or.inl rfl, trivial⟩ (h2 (s15, s3.2 + (1 : Int32)))
    · refine tw_join 90 (fun s17 => [some (.ref a0), some (.int a1), some (.int a2), some (.int s3.1), some (.int s3.2), some (.int x13)]) (fun s17 => []) 1 6 (fun s17 => ?_) (fun j16 g16 => ?_)
      · refine tw_iload (k := 46) rfl rfl ?_
        refine tw_ist_n (k := 47) [some (.ref a0), some (.int a1), some (.int a2), some (.int x13), some (.int s3.2), some (.int x13)] rfl (Nat.le_of_ble_eq_true rfl) rfl rfl ?_
        exact g14 x13
      · refine tw_icmp_eq (k := 36) 90 rfl (by decide) ?_ ?_
        · exact g16 ()
        · refine tw_iload_n (k := 37) rfl rfl ?_
          refine tw_if_eq (k := 38) 84 rfl (by decide) ?_ ?_
          · refine tw_iload (k := 43) rfl rfl ?_
            refine tw_iload_n (k := 44) rfl rfl ?_
            refine tw_icmp_ge (k := 45) 93 rfl (by decide) ?_ ?_
            · exact g14 s3.1
            · exact g16 ()
          · refine tw_iload (k := 39) rfl rfl ?_
            refine tw_iload_n (k := 40) rfl rfl ?_
            refine tw_icmp_le (k := 41) 93 rfl (by decide) ?_ ?_
            · exact g14 s3.1
            · refine tw_goto (k := 42) 90 rfl (by decide) ?_
              exact g16 ()
def mX11_led : tw_MD := (yX11_led, cX11_led, 3, (some FieldType.int), [(0, .aload_n 0, 1, 1), (1, .iload_n 1, 1, 2), (2, .invokevirtual 142, 3, 5), (5, .iload_n 2, 1, 6), (6, .ifCond .eq 17, 3, 9), (9, .aload_n 0, 1, 10), (10, .getfield 19, 3, 13), (13, .getfield 166, 3, 16), (16, .iload_n 1, 1, 17), (17, .invokevirtual 380, 3, 20), (20, .goto 14, 3, 23), (23, .aload_n 0, 1, 24), (24, .getfield 19, 3, 27), (27, .getfield 166, 3, 30), (30, .iload_n 1, 1, 31), (31, .invokevirtual 383, 3, 34), (34, .ireturn, 1, 35)], [])
theorem mo_X11_led : tw_mok mX11_led 2 := ⟨plainFor_of_name (by decide +kernel), by decide +kernel, by decide +kernel, by decide +kernel, by decide +kernel⟩
theorem dk_X11_led : tw_dk mX11_led := by unfold tw_dk; decide +kernel
theorem wv_RX11_383_X2_rowsOf : tw_wV RX11 383 mX2_rowsOf := ⟨List.mem_of_getElem? (i := 1763) (by decide +kernel), List.mem_of_getElem? (i := 1764) (by decide +kernel), List.mem_of_getElem? (i := 1765) (by decide +kernel), List.mem_of_getElem? (i := 127) (by decide +kernel), List.mem_of_getElem? (i := 1766) (by decide +kernel)⟩
theorem wv_RX11_380_X2_latestDayOf : tw_wV RX11 380 mX2_latestDayOf := ⟨List.mem_of_getElem? (i := 1759) (by decide +kernel), List.mem_of_getElem? (i := 1760) (by decide +kernel), List.mem_of_getElem? (i := 1761) (by decide +kernel), List.mem_of_getElem? (i := 127) (by decide +kernel), List.mem_of_getElem? (i := 1762) (by decide +kernel)⟩
set_option maxRecDepth 20000 in
theorem K_X11_led {g : tw_Gx} (Q : tw_Rs → tw_Mem → Prop) (a0 : Nat) (a1 : Int32) (a2 : Int32) : tw_Kt g mX11_led 7 1 6 [.ref a0, .int a1, .int a2] Q (f_X11_led a0 a1 a2 (fun v => Q (.inl (some (.int v)))) (fun E => Q (.inr E))) := by
  refine tw_mkK (L := [some (.ref a0), some (.int a1), some (.int a2)]) mo_X11_led dk_X11_led rfl (Nat.le_of_ble_eq_true rfl) rfl ?_
  unfold f_X11_led
  refine tw_aload_n (k := 0) rfl rfl ?_
  refine tw_iload_n (k := 1) rfl rfl ?_
  refine tw_callVX (k := 2) (d' := 6) (mc' := 1) (ms' := 6) tw_cU tw_cUi [.int a1] rfl rfl wv_RX11_142_X11_needPerson mo_X11_needPerson (t := 10) rfl rfl rfl (fun Q9 => K_X11_needPerson Q9 a0 a1) (by omega) (by decide) (by decide) (Nat.le_of_ble_eq_true rfl) (fun u1 => ?_) (fun E => tw_out rfl (by decide) (by decide))
  refine tw_iload_n (k := 3) rfl rfl ?_
  refine tw_if_eq (k := 4) 23 rfl (by decide) ?_ ?_
  · refine tw_aload_n (k := 11) rfl rfl ?_
    refine tw_getR (k := 12) rfl fl_RX11_19 (fun x2 => ?_)
    refine tw_getR (k := 13) rfl fl_RX11_166 (fun x3 => ?_)
    refine tw_iload_n (k := 14) rfl rfl ?_
    refine tw_callV (k := 15) (d' := 5) (mc' := 0) (ms' := 0) tw_cI tw_cIi [.int a1] rfl rfl wv_RX11_383_X2_rowsOf mo_X2_rowsOf (t := 2) rfl rfl rfl (fun Q9 => K_X2_rowsOf Q9 x3 a1) (by omega) (by decide) (by decide) (Nat.le_of_ble_eq_true rfl) (fun x4 => ?_)
    exact tw_ireturn (k := 16) rfl rfl (by decide) (by decide)
  · refine tw_aload_n (k := 5) rfl rfl ?_
    refine tw_getR (k := 6) rfl fl_RX11_19 (fun x5 => ?_)
    refine tw_getR (k := 7) rfl fl_RX11_166 (fun x6 => ?_)
    refine tw_iload_n (k := 8) rfl rfl ?_
    refine tw_callV (k := 9) (d' := 5) (mc' := 0) (ms' := 0) tw_cI tw_cIi [.int a1] rfl rfl wv_RX11_380_X2_latestDayOf mo_X2_latestDayOf (t := 2) rfl rfl rfl (fun Q9 => K_X2_latestDayOf Q9 x6 a1) (by omega) (by decide) (by decide) (Nat.le_of_ble_eq_true rfl) (fun x7 => ?_)
    refine tw_goto (k := 10) 34 rfl (by decide) ?_
    exact tw_ireturn (k := 16) rfl rfl (by decide) (by decide)
def mX11_log : tw_MD := (yX11_log, cX11_log, 3, (some FieldType.int), [(0, .iload_n 2, 1, 1), (1, .ifCond .lt 8, 3, 4), (4, .iload_n 2, 1, 5), (5, .iconst 4, 1, 6), (6, .if_icmp .le 14, 3, 9), (9, .new 182, 3, 12), (12, .dup, 1, 13), (13, .ldc_w 386, 3, 16), (16, .invokespecial 186, 3, 19), (19, .athrow, 1, 20), (20, .aload_n 0, 1, 21), (21, .getfield 19, 3, 24), (24, .getfield 166, 3, 27), (27, .iload_n 1, 1, 28), (28, .invokevirtual 388, 3, 31), (31, .ifCond .eq 18, 3, 34), (34, .aload_n 0, 1, 35), (35, .getfield 19, 3, 38), (38, .getfield 166, 3, 41), (41, .iload_n 1, 1, 42), (42, .iload_n 2, 1, 43), (43, .invokevirtual 391, 3, 46), (46, .goto 5, 3, 49), (49, .bipush (-2), 2, 51), (51, .ireturn, 1, 52)], [])
theorem mo_X11_log : tw_mok mX11_log 2 := ⟨plainFor_of_name (by decide +kernel), by decide +kernel, by decide +kernel, by decide +kernel, by decide +kernel⟩
theorem dk_X11_log : tw_dk mX11_log := by unfold tw_dk; decide +kernel
theorem tw_RX11_182_386_186 : tw_twX RX11 182 386 186 "java/util/NoSuchElementException" "there is no such thing of a row" 13 prog_35_method_4_code := ⟨List.mem_of_getElem? (i := 1305) (by decide +kernel), List.mem_of_getElem? (i := 151) (by decide +kernel), List.mem_of_getElem? (i := 1774) (by decide +kernel), tw_at_RX11_186⟩
theorem wv_RX11_391_X2_partOf : tw_wV RX11 391 mX2_partOf := ⟨List.mem_of_getElem? (i := 1779) (by decide +kernel), List.mem_of_getElem? (i := 1286) (by decide +kernel), List.mem_of_getElem? (i := 1287) (by decide +kernel), List.mem_of_getElem? (i := 127) (by decide +kernel), List.mem_of_getElem? (i := 1288) (by decide +kernel)⟩
theorem wv_RX11_388_X2_hasRow : tw_wV RX11 388 mX2_hasRow := ⟨List.mem_of_getElem? (i := 1775) (by decide +kernel), List.mem_of_getElem? (i := 1776) (by decide +kernel), List.mem_of_getElem? (i := 1777) (by decide +kernel), List.mem_of_getElem? (i := 127) (by decide +kernel), List.mem_of_getElem? (i := 1778) (by decide +kernel)⟩
set_option maxRecDepth 20000 in
theorem K_X11_log {g : tw_Gx} (Q : tw_Rs → tw_Mem → Prop) (a0 : Nat) (a1 : Int32) (a2 : Int32) : tw_Kt g mX11_log 6 1 6 [.ref a0, .int a1, .int a2] Q (f_X11_log a0 a1 a2 (fun v => Q (.inl (some (.int v)))) (fun E => Q (.inr E))) := by
  refine tw_mkK (L := [some (.ref a0), some (.int a1), some (.int a2)]) mo_X11_log dk_X11_log rfl (Nat.le_of_ble_eq_true rfl) rfl ?_
  unfold f_X11_log
  refine tw_iload_n (k := 0) rfl rfl ?_
  refine tw_join 9 (fun s2 => [some (.ref a0), some (.int a1), some (.int a2)]) (fun s2 => []) 0 0 (fun s2 => ?_) (fun j1 g1 => ?_)
  · exact tw_throwXW (k := 5) tw_nse0 tw_nse1 tw_nse2 tw_nse5 (by decide +kernel) rfl rfl rfl rfl rfl tw_RX11_182_386_186 rfl (by omega) (by decide) (by decide) (Nat.le_of_ble_eq_true rfl)
  · refine tw_if_lt (k := 1) 9 rfl (by decide) ?_ ?_
    · exact g1 ()
    · refine tw_iload_n (k := 2) rfl rfl ?_
      refine tw_iconst (k := 3) (4 : Int32) rfl (by decide) ?_
      refine tw_icmp_le (k := 4) 20 rfl (by decide) ?_ ?_
      · refine tw_aload_n (k := 10) rfl rfl ?_
        refine tw_getR (k := 11) rfl fl_RX11_19 (fun x3 => ?_)
        refine tw_getR (k := 12) rfl fl_RX11_166 (fun x4 => ?_)
        refine tw_iload_n (k := 13) rfl rfl ?_
        refine tw_callV (k := 14) (d' := 1) (mc' := 0) (ms' := 0) tw_cI tw_cIi [.int a1] rfl rfl wv_RX11_388_X2_hasRow mo_X2_hasRow (t := 2) rfl rfl rfl (fun Q9 => K_X2_hasRow Q9 x4 a1) (by omega) (by decide) (by decide) (Nat.le_of_ble_eq_true rfl) (fun x5 => ?_)
        refine tw_if_eq (k := 15) 49 rfl (by decide) ?_ ?_
        · refine tw_bipush (k := 23) (-2 : Int32) rfl (by decide) ?_
          exact tw_ireturn (k := 24) rfl rfl (by decide) (by decide)
        · refine tw_aload_n (k := 16) rfl rfl ?_
          refine tw_getR (k := 17) rfl fl_RX11_19 (fun x6 => ?_)
          refine tw_getR (k := 18) rfl fl_RX11_166 (fun x7 => ?_)
          refine tw_iload_n (k := 19) rfl rfl ?_
          refine tw_iload_n (k := 20) rfl rfl ?_
          refine tw_callV (k := 21) (d' := 3) (mc' := 0) (ms' := 0) tw_cI tw_cIi [.int a1, .int a2] rfl rfl wv_RX11_391_X2_partOf mo_X2_partOf (t := 2) rfl rfl rfl (fun Q9 => K_X2_partOf Q9 x7 a1 a2) (by omega) (by decide) (by decide) (Nat.le_of_ble_eq_true rfl) (fun x8 => ?_)
          refine tw_goto (k := 22) 51 rfl (by decide) ?_
          exact tw_ireturn (k := 24) rfl rfl (by decide) (by decide)
      · exact g1 ()
def mX11_seed : tw_MD := (yX11_seed, cX11_seed, 3, (some FieldType.int), [(0, .aload_n 0, 1, 1), (1, .getfield 19, 3, 4), (4, .getfield 377, 3, 7), (7, .istore_n 2, 1, 8), (8, .aload_n 0, 1, 9), (9, .getfield 19, 3, 12), (12, .iload_n 1, 1, 13), (13, .putfield 377, 3, 16), (16, .iload_n 2, 1, 17), (17, .ireturn, 1, 18)], [])
theorem mo_X11_seed : tw_mok mX11_seed 1 := ⟨plainFor_of_name (by decide +kernel), by decide +kernel, by decide +kernel, by decide +kernel, by decide +kernel⟩
theorem dk_X11_seed : tw_dk mX11_seed := by unfold tw_dk; decide +kernel
theorem wf_X11_seed_377 : tw_wf mX11_seed 377 51 := Or.inl rfl
set_option maxRecDepth 20000 in
theorem K_X11_seed {g : tw_Gx} (Q : tw_Rs → tw_Mem → Prop) (a0 : Nat) (a1 : Int32) : tw_Kt g mX11_seed 1 0 0 [.ref a0, .int a1] Q (f_X11_seed a0 a1 (fun v => Q (.inl (some (.int v))))) := by
  refine tw_mkK (L := [some (.ref a0), some (.int a1), none]) mo_X11_seed dk_X11_seed rfl (Nat.le_of_ble_eq_true rfl) rfl ?_
  unfold f_X11_seed
  refine tw_aload_n (k := 0) rfl rfl ?_
  refine tw_getR (k := 1) rfl fl_RX11_19 (fun x1 => ?_)
  refine tw_getI (k := 2) rfl fl_RX11_377 (fun x2 => ?_)
  refine tw_ist_n (k := 3) [some (.ref a0), some (.int a1), some (.int x2)] rfl (Nat.le_of_ble_eq_true rfl) rfl rfl ?_
  refine tw_aload_n (k := 4) rfl rfl ?_
  refine tw_getR (k := 5) rfl fl_RX11_19 (fun x3 => ?_)
  refine tw_iload_n (k := 6) rfl rfl ?_
  refine tw_putI (k := 7) rfl fl_RX11_377 wf_X11_seed_377 (by decide +kernel) ?_
  refine tw_iload_n (k := 8) rfl rfl ?_
  exact tw_ireturn (k := 9) rfl rfl (by decide) (by decide)
def mX11_undo : tw_MD := (yX11_undo, cX11_undo, 1, (some FieldType.boolean), [(0, .aload_n 0, 1, 1), (1, .getfield 32, 3, 4), (4, .aload_n 0, 1, 5), (5, .getfield 19, 3, 8), (8, .invokevirtual 394, 3, 11), (11, .ireturn, 1, 12)], [])
theorem mo_X11_undo : tw_mok mX11_undo 0 := ⟨plainFor_of_name (by decide +kernel), by decide +kernel, by decide +kernel, by decide +kernel, by decide +kernel⟩
theorem dk_X11_undo : tw_dk mX11_undo := by unfold tw_dk; decide +kernel
theorem wv_RX11_394_X3_recall : tw_wV RX11 394 mX3_recall := ⟨List.mem_of_getElem? (i := 819) (by decide +kernel), List.mem_of_getElem? (i := 820) (by decide +kernel), List.mem_of_getElem? (i := 821) (by decide +kernel), List.mem_of_getElem? (i := 129) (by decide +kernel), List.mem_of_getElem? (i := 822) (by decide +kernel)⟩
set_option maxRecDepth 20000 in
theorem K_X11_undo {g : tw_Gx} (Q : tw_Rs → tw_Mem → Prop) (a0 : Nat) : tw_Kt g mX11_undo 4 0 0 [.ref a0] Q (f_X11_undo a0 (fun v => Q (.inl (some (.int v))))) := by
  refine tw_mkK (L := [some (.ref a0)]) mo_X11_undo dk_X11_undo rfl (Nat.le_of_ble_eq_true rfl) rfl ?_
  unfold f_X11_undo
  refine tw_aload_n (k := 0) rfl rfl ?_
  refine tw_getR (k := 1) rfl fl_RX11_32 (fun x1 => ?_)
  refine tw_aload_n (k := 2) rfl rfl ?_
  refine tw_getR (k := 3) rfl fl_RX11_19 (fun x2 => ?_)
  refine tw_callV (k := 4) (d' := 3) (mc' := 0) (ms' := 0) tw_cI tw_cIi [.ref x2] rfl rfl wv_RX11_394_X3_recall mo_X3_recall (t := 3) rfl rfl rfl (fun Q9 => K_X3_recall Q9 x1 x2) (by omega) (by decide) (by decide) (Nat.le_of_ble_eq_true rfl) (fun x3 => ?_)
  exact tw_zreturn (k := 5) rfl rfl (by decide) (by decide)
def mX11_image : tw_MD := (yX11_image, cX11_image, 1, none, [(0, .aload_n 0, 1, 1), (1, .getfield 26, 3, 4), (4, .aload_n 0, 1, 5), (5, .getfield 19, 3, 8), (8, .invokevirtual 107, 3, 11), (11, .aload_n 0, 1, 12), (12, .aload_n 0, 1, 13), (13, .getfield 80, 3, 16), (16, .putfield 84, 3, 19), (19, .aload_n 0, 1, 20), (20, .iconst 1, 1, 21), (21, .putfield 398, 3, 24), (24, .return_, 1, 25)], [])
theorem mo_X11_image : tw_mok mX11_image 0 := ⟨plainFor_of_name (by decide +kernel), by decide +kernel, by decide +kernel, by decide +kernel, by decide +kernel⟩
theorem dk_X11_image : tw_dk mX11_image := by unfold tw_dk; decide +kernel
theorem fl_RX11_398 : tw_fl RX11 398 68 := Or.inl (List.mem_of_getElem? (i := 454) (by decide +kernel))
theorem wf_X11_image_398 : tw_wf mX11_image 398 68 := Or.inl rfl
theorem wf_X11_image_84 : tw_wf mX11_image 84 67 := Or.inl rfl
set_option maxRecDepth 20000 in
theorem K_X11_image {g : tw_Gx} (Q : tw_Rs → tw_Mem → Prop) (a0 : Nat) : tw_Kt g mX11_image 3 0 0 [.ref a0] Q (f_X11_image a0 (fun v => Q (.inl none))) := by
  refine tw_mkK (L := [some (.ref a0)]) mo_X11_image dk_X11_image rfl (Nat.le_of_ble_eq_true rfl) rfl ?_
  unfold f_X11_image
  refine tw_aload_n (k := 0) rfl rfl ?_
  refine tw_getR (k := 1) rfl fl_RX11_26 (fun x1 => ?_)
  refine tw_aload_n (k := 2) rfl rfl ?_
  refine tw_getR (k := 3) rfl fl_RX11_19 (fun x2 => ?_)
  refine tw_callV (k := 4) (d' := 2) (mc' := 0) (ms' := 0) tw_cU tw_cUi [.ref x2] rfl rfl wv_RX11_107_X8_take mo_X8_take (t := 7) rfl rfl rfl (fun Q9 => K_X8_take Q9 x1 x2) (by omega) (by decide) (by decide) (Nat.le_of_ble_eq_true rfl) (fun u3 => ?_)
  refine tw_aload_n (k := 5) rfl rfl ?_
  refine tw_aload_n (k := 6) rfl rfl ?_
  refine tw_getR (k := 7) rfl fl_RX11_80 (fun x4 => ?_)
  refine tw_putR (k := 8) (ty := (.object "TwinRopes$Law")) rfl fl_RX11_84 wf_X11_image_84 (by decide +kernel) rfl rfl ?_
  refine tw_aload_n (k := 9) rfl rfl ?_
  refine tw_iconst (k := 10) (1 : Int32) rfl (by decide) ?_
  refine tw_putZ (k := 11) rfl fl_RX11_398 wf_X11_image_398 (by decide +kernel) ?_
  exact tw_return (k := 12) rfl rfl (by decide) (by decide)
def mX11_back : tw_MD := (yX11_back, cX11_back, 1, (some FieldType.boolean), [(0, .aload_n 0, 1, 1), (1, .getfield 398, 3, 4), (4, .ifCond .ne 5, 3, 7), (7, .iconst 0, 1, 8), (8, .ireturn, 1, 9), (9, .aload_n 0, 1, 10), (10, .getfield 19, 3, 13), (13, .aload_n 0, 1, 14), (14, .getfield 26, 3, 17), (17, .invokevirtual 107, 3, 20), (20, .aload_n 0, 1, 21), (21, .aload_n 0, 1, 22), (22, .getfield 84, 3, 25), (25, .putfield 80, 3, 28), (28, .aload_n 0, 1, 29), (29, .getfield 32, 3, 32), (32, .invokevirtual 133, 3, 35), (35, .iconst 1, 1, 36), (36, .ireturn, 1, 37)], [])
theorem mo_X11_back : tw_mok mX11_back 0 := ⟨plainFor_of_name (by decide +kernel), by decide +kernel, by decide +kernel, by decide +kernel, by decide +kernel⟩
theorem dk_X11_back : tw_dk mX11_back := by unfold tw_dk; decide +kernel
theorem wf_X11_back_80 : tw_wf mX11_back 80 66 := Or.inl rfl
set_option maxRecDepth 20000 in
theorem K_X11_back {g : tw_Gx} (Q : tw_Rs → tw_Mem → Prop) (a0 : Nat) : tw_Kt g mX11_back 3 0 0 [.ref a0] Q (f_X11_back a0 (fun v => Q (.inl (some (.int v))))) := by
  refine tw_mkK (L := [some (.ref a0)]) mo_X11_back dk_X11_back rfl (Nat.le_of_ble_eq_true rfl) rfl ?_
  unfold f_X11_back
  refine tw_aload_n (k := 0) rfl rfl ?_
  refine tw_getI (k := 1) rfl fl_RX11_398 (fun x1 => ?_)
  refine tw_if_ne (k := 2) 9 rfl (by decide) ?_ ?_
  · refine tw_aload_n (k := 5) rfl rfl ?_
    refine tw_getR (k := 6) rfl fl_RX11_19 (fun x2 => ?_)
    refine tw_aload_n (k := 7) rfl rfl ?_
    refine tw_getR (k := 8) rfl fl_RX11_26 (fun x3 => ?_)
    refine tw_callV (k := 9) (d' := 2) (mc' := 0) (ms' := 0) tw_cU tw_cUi [.ref x3] rfl rfl wv_RX11_107_X8_take mo_X8_take (t := 7) rfl rfl rfl (fun Q9 => K_X8_take Q9 x2 x3) (by omega) (by decide) (by decide) (Nat.le_of_ble_eq_true rfl) (fun u4 => ?_)
    refine tw_aload_n (k := 10) rfl rfl ?_
    refine tw_aload_n (k := 11) rfl rfl ?_
    refine tw_getR (k := 12) rfl fl_RX11_84 (fun x5 => ?_)
    refine tw_putR (k := 13) (ty := (.object "TwinRopes$Law")) rfl fl_RX11_80 wf_X11_back_80 (by decide +kernel) rfl rfl ?_
    refine tw_aload_n (k := 14) rfl rfl ?_
    refine tw_getR (k := 15) rfl fl_RX11_32 (fun x6 => ?_)
    refine tw_callV (k := 16) (d' := 1) (mc' := 0) (ms' := 0) tw_cU tw_cUi [] rfl rfl wv_RX11_133_X3_clear mo_X3_clear (t := 3) rfl rfl rfl (fun Q9 => K_X3_clear Q9 x6) (by omega) (by decide) (by decide) (Nat.le_of_ble_eq_true rfl) (fun u7 => ?_)
    refine tw_iconst (k := 17) (1 : Int32) rfl (by decide) ?_
    exact tw_zreturn (k := 18) rfl rfl (by decide) (by decide)
  · refine tw_iconst (k := 3) (0 : Int32) rfl (by decide) ?_
    exact tw_zreturn (k := 4) rfl rfl (by decide) (by decide)
def mX11_count : tw_MD := (yX11_count, cX11_count, 2, (some FieldType.int), [(0, .iload_n 1, 1, 1), (1, .tableswitch 162 0 11 #[63, 71, 79, 87, 95, 103, 111, 119, 127, 135, 143, 154], 63, 64), (64, .aload_n 0, 1, 65), (65, .getfield 19, 3, 68), (68, .getfield 402, 3, 71), (71, .ireturn, 1, 72), (72, .aload_n 0, 1, 73), (73, .getfield 19, 3, 76), (76, .getfield 125, 3, 79), (79, .ireturn, 1, 80), (80, .aload_n 0, 1, 81), (81, .getfield 80, 3, 84), (84, .getfield 139, 3, 87), (87, .ireturn, 1, 88), (88, .aload_n 0, 1, 89), (89, .getfield 19, 3, 92), (92, .getfield 405, 3, 95), (95, .ireturn, 1, 96), (96, .aload_n 0, 1, 97), (97, .getfield 19, 3, 100), (100, .getfield 408, 3, 103), (103, .ireturn, 1, 104), (104, .aload_n 0, 1, 105), (105, .getfield 19, 3, 108), (108, .getfield 312, 3, 111), (111, .ireturn, 1, 112), (112, .aload_n 0, 1, 113), (113, .getfield 19, 3, 116), (116, .invokevirtual 374, 3, 119), (119, .ireturn, 1, 120), (120, .aload_n 0, 1, 121), (121, .getfield 19, 3, 124), (124, .getfield 411, 3, 127), (127, .ireturn, 1, 128), (128, .aload_n 0, 1, 129), (129, .getfield 19, 3, 132), (132, .invokevirtual 414, 3, 135), (135, .ireturn, 1, 136), (136, .aload_n 0, 1, 137), (137, .getfield 19, 3, 140), (140, .invokevirtual 417, 3, 143), (143, .ireturn, 1, 144), (144, .aload_n 0, 1, 145), (145, .getfield 19, 3, 148), (148, .getfield 166, 3, 151), (151, .getfield 420, 3, 154), (154, .ireturn, 1, 155), (155, .aload_n 0, 1, 156), (156, .getfield 32, 3, 159), (159, .getfield 422, 3, 162), (162, .ireturn, 1, 163), (163, .iconst (-1), 1, 164), (164, .ireturn, 1, 165)], [])
theorem mo_X11_count : tw_mok mX11_count 1 := ⟨plainFor_of_name (by decide +kernel), by decide +kernel, by decide +kernel, by decide +kernel, by decide +kernel⟩
theorem dk_X11_count : tw_dk mX11_count := by unfold tw_dk; decide +kernel
theorem fl_RX11_402 : tw_fl RX11 402 46 := Or.inr ⟨"TwinRopes", List.mem_of_getElem? (i := 212) (by decide +kernel)⟩
theorem fl_RX11_405 : tw_fl RX11 405 48 := Or.inr ⟨"TwinRopes", List.mem_of_getElem? (i := 218) (by decide +kernel)⟩
theorem fl_RX11_408 : tw_fl RX11 408 49 := Or.inr ⟨"TwinRopes", List.mem_of_getElem? (i := 222) (by decide +kernel)⟩
theorem fl_RX11_411 : tw_fl RX11 411 47 := Or.inr ⟨"TwinRopes", List.mem_of_getElem? (i := 214) (by decide +kernel)⟩
theorem wv_RX11_414_X8_timesPlanned : tw_wV RX11 414 mX8_timesPlanned := ⟨List.mem_of_getElem? (i := 860) (by decide +kernel), List.mem_of_getElem? (i := 861) (by decide +kernel), List.mem_of_getElem? (i := 862) (by decide +kernel), List.mem_of_getElem? (i := 126) (by decide +kernel), List.mem_of_getElem? (i := 863) (by decide +kernel)⟩
theorem wv_RX11_417_X8_guessesOfAll : tw_wV RX11 417 mX8_guessesOfAll := ⟨List.mem_of_getElem? (i := 864) (by decide +kernel), List.mem_of_getElem? (i := 865) (by decide +kernel), List.mem_of_getElem? (i := 866) (by decide +kernel), List.mem_of_getElem? (i := 126) (by decide +kernel), List.mem_of_getElem? (i := 867) (by decide +kernel)⟩
theorem fl_RX11_420 : tw_fl RX11 420 20 := Or.inr ⟨"TwinRopes", List.mem_of_getElem? (i := 189) (by decide +kernel)⟩
theorem fl_RX11_422 : tw_fl RX11 422 23 := Or.inr ⟨"TwinRopes", List.mem_of_getElem? (i := 272) (by decide +kernel)⟩
set_option maxRecDepth 20000 in
theorem K_X11_count {g : tw_Gx} (Q : tw_Rs → tw_Mem → Prop) (a0 : Nat) (a1 : Int32) : tw_Kt g mX11_count 5 0 0 [.ref a0, .int a1] Q (f_X11_count a0 a1 (fun v => Q (.inl (some (.int v))))) := by
  refine tw_mkK (L := [some (.ref a0), some (.int a1)]) mo_X11_count dk_X11_count rfl (Nat.le_of_ble_eq_true rfl) rfl ?_
  unfold f_X11_count
  refine tw_iload_n (k := 0) rfl rfl ?_
  refine tw_case ?_ (fun c26 => ?_)
  · refine tw_switch (k := 1) 64 rfl (by decide) (by decide) ?_
    refine tw_aload_n (k := 2) rfl rfl ?_
    refine tw_getR (k := 3) rfl fl_RX11_19 (fun x1 => ?_)
    refine tw_getI (k := 4) rfl fl_RX11_402 (fun x2 => ?_)
    exact tw_ireturn (k := 5) rfl rfl (by decide) (by decide)
  refine tw_case ?_ (fun c27 => ?_)
  · refine tw_switch (k := 1) 72 rfl (by decide) (by decide) ?_
    refine tw_aload_n (k := 6) rfl rfl ?_
    refine tw_getR (k := 7) rfl fl_RX11_19 (fun x3 => ?_)
    refine tw_getI (k := 8) rfl fl_RX11_125 (fun x4 => ?_)
    exact tw_ireturn (k := 9) rfl rfl (by decide) (by decide)
  refine tw_case ?_ (fun c28 => ?_)
  · refine tw_switch (k := 1) 80 rfl (by decide) (by decide) ?_
    refine tw_aload_n (k := 10) rfl rfl ?_
    refine tw_getR (k := 11) rfl fl_RX11_80 (fun x5 => ?_)
    refine tw_getI (k := 12) rfl fl_RX11_139 (fun x6 => ?_)
    exact tw_ireturn (k := 13) rfl rfl (by decide) (by decide)
  refine tw_case ?_ (fun c29 => ?_)
  · refine tw_switch (k := 1) 88 rfl (by decide) (by decide) ?_
    refine tw_aload_n (k := 14) rfl rfl ?_
    refine tw_getR (k := 15) rfl fl_RX11_19 (fun x7 => ?_)
    refine tw_getI (k := 16) rfl fl_RX11_405 (fun x8 => ?_)
    exact tw_ireturn (k := 17) rfl rfl (by decide) (by decide)
  refine tw_case ?_ (fun c30 => ?_)
  · refine tw_switch (k := 1) 96 rfl (by decide) (by decide) ?_
    refine tw_aload_n (k := 18) rfl rfl ?_
    refine tw_getR (k := 19) rfl fl_RX11_19 (fun x9 => ?_)
    refine tw_getI (k := 20) rfl fl_RX11_408 (fun x10 => ?_)
    exact tw_ireturn (k := 21) rfl rfl (by decide) (by decide)
  refine tw_case ?_ (fun c31 => ?_)
  · refine tw_switch (k := 1) 104 rfl (by decide) (by decide) ?_
    refine tw_aload_n (k := 22) rfl rfl ?_
    refine tw_getR (k := 23) rfl fl_RX11_19 (fun x11 => ?_)
    refine tw_getI (k := 24) rfl fl_RX11_312 (fun x12 => ?_)
    exact tw_ireturn (k := 25) rfl rfl (by decide) (by decide)
  refine tw_case ?_ (fun c32 => ?_)
  · refine tw_switch (k := 1) 112 rfl (by decide) (by decide) ?_
    refine tw_aload_n (k := 26) rfl rfl ?_
    refine tw_getR (k := 27) rfl fl_RX11_19 (fun x13 => ?_)
    refine tw_callV (k := 28) (d' := 4) (mc' := 0) (ms' := 0) tw_cI tw_cIi [] rfl rfl wv_RX11_374_X8_knowingPairs mo_X8_knowingPairs (t := 7) rfl rfl rfl (fun Q9 => K_X8_knowingPairs Q9 x13) (by omega) (by decide) (by decide) (Nat.le_of_ble_eq_true rfl) (fun x14 => ?_)
    exact tw_ireturn (k := 29) rfl rfl (by decide) (by decide)
  refine tw_case ?_ (fun c33 => ?_)
  · refine tw_switch (k := 1) 120 rfl (by decide) (by decide) ?_
    refine tw_aload_n (k := 30) rfl rfl ?_
    refine tw_getR (k := 31) rfl fl_RX11_19 (fun x15 => ?_)
    refine tw_getI (k := 32) rfl fl_RX11_411 (fun x16 => ?_)
    exact tw_ireturn (k := 33) rfl rfl (by decide) (by decide)
  refine tw_case ?_ (fun c34 => ?_)
  · refine tw_switch (k := 1) 128 rfl (by decide) (by decide) ?_
    refine tw_aload_n (k := 34) rfl rfl ?_
    refine tw_getR (k := 35) rfl fl_RX11_19 (fun x17 => ?_)
    refine tw_callV (k := 36) (d' := 1) (mc' := 0) (ms' := 0) tw_cI tw_cIi [] rfl rfl wv_RX11_414_X8_timesPlanned mo_X8_timesPlanned (t := 7) rfl rfl rfl (fun Q9 => K_X8_timesPlanned Q9 x17) (by omega) (by decide) (by decide) (Nat.le_of_ble_eq_true rfl) (fun x18 => ?_)
    exact tw_ireturn (k := 37) rfl rfl (by decide) (by decide)
  refine tw_case ?_ (fun c35 => ?_)
  · refine tw_switch (k := 1) 136 rfl (by decide) (by decide) ?_
    refine tw_aload_n (k := 38) rfl rfl ?_
    refine tw_getR (k := 39) rfl fl_RX11_19 (fun x19 => ?_)
    refine tw_callV (k := 40) (d' := 4) (mc' := 0) (ms' := 0) tw_cI tw_cIi [] rfl rfl wv_RX11_417_X8_guessesOfAll mo_X8_guessesOfAll (t := 7) rfl rfl rfl (fun Q9 => K_X8_guessesOfAll Q9 x19) (by omega) (by decide) (by decide) (Nat.le_of_ble_eq_true rfl) (fun x20 => ?_)
    exact tw_ireturn (k := 41) rfl rfl (by decide) (by decide)
  refine tw_case ?_ (fun c36 => ?_)
  · refine tw_switch (k := 1) 144 rfl (by decide) (by decide) ?_
    refine tw_aload_n (k := 42) rfl rfl ?_
    refine tw_getR (k := 43) rfl fl_RX11_19 (fun x21 => ?_)
    refine tw_getR (k := 44) rfl fl_RX11_166 (fun x22 => ?_)
    refine tw_getI (k := 45) rfl fl_RX11_420 (fun x23 => ?_)
    exact tw_ireturn (k := 46) rfl rfl (by decide) (by decide)
  refine tw_case ?_ (fun c37 => ?_)
  · refine tw_switch (k := 1) 155 rfl (by decide) (by decide) ?_
    refine tw_aload_n (k := 47) rfl rfl ?_
    refine tw_getR (k := 48) rfl fl_RX11_32 (fun x24 => ?_)
    refine tw_getI (k := 49) rfl fl_RX11_422 (fun x25 => ?_)
    exact tw_ireturn (k := 50) rfl rfl (by decide) (by decide)
  refine tw_switch (k := 1) 163 rfl (by decide) (tw_dfl (by decide) (fun v e1 e2 e3 => ?_)) ?_
  · have e4 : v = 0 ∨ v = 1 ∨ v = 2 ∨ v = 3 ∨ v = 4 ∨ v = 5 ∨ v = 6 ∨ v = 7 ∨ v = 8 ∨ v = 9 ∨ v = 10 ∨ v = 11 := by omega
    rcases e4 with rfl | rfl | rfl | rfl | rfl | rfl | rfl | rfl | rfl | rfl | rfl | rfl
    · exact c26 (e3.trans (by decide))
    · exact c27 (e3.trans (by decide))
    · exact c28 (e3.trans (by decide))
    · exact c29 (e3.trans (by decide))
    · exact c30 (e3.trans (by decide))
    · exact c31 (e3.trans (by decide))
    · exact c32 (e3.trans (by decide))
    · exact c33 (e3.trans (by decide))
    · exact c34 (e3.trans (by decide))
    · exact c35 (e3.trans (by decide))
    · exact c36 (e3.trans (by decide))
    · exact c37 (e3.trans (by decide))
  · refine tw_iconst (k := 51) (-1 : Int32) rfl (by decide) ?_
    exact tw_ireturn (k := 52) rfl rfl (by decide) (by decide)
