def mX1_addStep : tw_MD := (yX1_addStep, cX1_addStep, 2, none, [(0, .aload_n 0, 1, 1), (1, .getfield 30, 3, 4), (4, .ifCond .lt 35, 3, 7), (7, .aload_n 0, 1, 8), (8, .getfield 30, 3, 11), (11, .aload_n 0, 1, 12), (12, .getfield 23, 3, 15), (15, .arraylength, 1, 16), (16, .if_icmp .ge 23, 3, 19), (19, .aload_n 0, 1, 20), (20, .getfield 23, 3, 23), (23, .aload_n 0, 1, 24), (24, .getfield 30, 3, 27), (27, .iload_n 1, 1, 28), (28, .iastore, 1, 29), (29, .aload_n 0, 1, 30), (30, .dup, 1, 31), (31, .getfield 30, 3, 34), (34, .iconst 1, 1, 35), (35, .iadd, 1, 36), (36, .putfield 30, 3, 39), (39, .return_, 1, 40)], [])
theorem mo_X1_addStep : tw_mok mX1_addStep 1 := ⟨plainFor_of_name (by decide +kernel), by decide +kernel, by decide +kernel, by decide +kernel, by decide +kernel⟩
theorem dk_X1_addStep : tw_dk mX1_addStep := by unfold tw_dk; decide +kernel
theorem fl_RX1_30 : tw_fl RX1 30 18 := Or.inl (List.mem_of_getElem? (i := 331) (by decide +kernel))
theorem fl_RX1_23 : tw_fl RX1 23 16 := Or.inl (List.mem_of_getElem? (i := 327) (by decide +kernel))
theorem wf_X1_addStep_30 : tw_wf mX1_addStep 30 18 := Or.inl rfl
set_option maxRecDepth 20000 in
theorem K_X1_addStep {g : tw_Gx} (Q : tw_Rs → tw_Mem → Prop) (a0 : Nat) (a1 : Int32) : tw_Kt g mX1_addStep 1 0 0 [.ref a0, .int a1] Q (f_X1_addStep a0 a1 (fun v => Q (.inl none))) := by
  refine tw_mkK (L := [some (.ref a0), some (.int a1)]) mo_X1_addStep dk_X1_addStep rfl (Nat.le_of_ble_eq_true rfl) rfl ?_
  unfold f_X1_addStep
  refine tw_aload_n (k := 0) rfl rfl ?_
  refine tw_getI (k := 1) rfl fl_RX1_30 (fun x1 => ?_)
  refine tw_if_lt (k := 2) 39 rfl (by decide) ?_ ?_
  · exact tw_return (k := 21) rfl rfl (by decide) (by decide)
  · refine tw_aload_n (k := 3) rfl rfl ?_
    refine tw_getI (k := 4) rfl fl_RX1_30 (fun x2 => ?_)
    refine tw_aload_n (k := 5) rfl rfl ?_
    refine tw_getR (k := 6) rfl fl_RX1_23 (fun x3 => ?_)
    refine tw_alength (k := 7) rfl (fun x4 => ?_)
    refine tw_icmp_ge (k := 8) 39 rfl (by decide) ?_ ?_
    · exact tw_return (k := 21) rfl rfl (by decide) (by decide)
    · refine tw_aload_n (k := 9) rfl rfl ?_
      refine tw_getR (k := 10) rfl fl_RX1_23 (fun x5 => ?_)
      refine tw_aload_n (k := 11) rfl rfl ?_
      refine tw_getI (k := 12) rfl fl_RX1_30 (fun x6 => ?_)
      refine tw_iload_n (k := 13) rfl rfl ?_
      refine tw_iastore (k := 14) rfl ?_
      refine tw_aload_n (k := 15) rfl rfl ?_
      refine tw_dup (k := 16) rfl rfl ?_
      refine tw_getI (k := 17) rfl fl_RX1_30 (fun x7 => ?_)
      refine tw_iconst (k := 18) (1 : Int32) rfl (by decide) ?_
      refine tw_iadd (k := 19) rfl ?_
      refine tw_putI (k := 20) rfl fl_RX1_30 wf_X1_addStep_30 (by decide +kernel) ?_
      exact tw_return (k := 21) rfl rfl (by decide) (by decide)
def mX1_takeFlag : tw_MD := (yX1_takeFlag, cX1_takeFlag, 1, (some FieldType.boolean), [(0, .aload_n 0, 1, 1), (1, .ldc 90, 2, 3), (3, .invokevirtual 46, 3, 6), (6, .ifCond .eq 11, 3, 9), (9, .aload_n 0, 1, 10), (10, .iconst 4, 1, 11), (11, .invokevirtual 67, 3, 14), (14, .goto 41, 3, 17), (17, .aload_n 0, 1, 18), (18, .ldc 94, 2, 20), (20, .invokevirtual 46, 3, 23), (23, .ifCond .eq 12, 3, 26), (26, .aload_n 0, 1, 27), (27, .bipush 9, 2, 29), (29, .invokevirtual 67, 3, 32), (32, .goto 23, 3, 35), (35, .aload_n 0, 1, 36), (36, .ldc 96, 2, 38), (38, .invokevirtual 46, 3, 41), (41, .ifCond .eq 12, 3, 44), (44, .aload_n 0, 1, 45), (45, .bipush 10, 2, 47), (47, .invokevirtual 67, 3, 50), (50, .goto 5, 3, 53), (53, .iconst 0, 1, 54), (54, .ireturn, 1, 55), (55, .iconst 1, 1, 56), (56, .ireturn, 1, 57)], [])
theorem mo_X1_takeFlag : tw_mok mX1_takeFlag 0 := ⟨plainFor_of_name (by decide +kernel), by decide +kernel, by decide +kernel, by decide +kernel, by decide +kernel⟩
theorem dk_X1_takeFlag : tw_dk mX1_takeFlag := by unfold tw_dk; decide +kernel
theorem ks_RX1_90 : Cond.stringRef RX1 90 "sworn" ∈ lw_tbl := List.mem_of_getElem? (i := 1017) (by decide +kernel)
theorem ks_RX1_94 : Cond.stringRef RX1 94 "near" ∈ lw_tbl := List.mem_of_getElem? (i := 1022) (by decide +kernel)
theorem ks_RX1_96 : Cond.stringRef RX1 96 "rang" ∈ lw_tbl := List.mem_of_getElem? (i := 1023) (by decide +kernel)
theorem wv_RX1_67_X1_addStep : tw_wV RX1 67 mX1_addStep := ⟨List.mem_of_getElem? (i := 1018) (by decide +kernel), List.mem_of_getElem? (i := 1020) (by decide +kernel), List.mem_of_getElem? (i := 14) (by decide +kernel), List.mem_of_getElem? (i := 132) (by decide +kernel), List.mem_of_getElem? (i := 1021) (by decide +kernel)⟩
theorem wu_RX1_46_X7_takeWord_1 : tw_wU RX1 46 RX1 "TwinRopes$Text" ⟨"TwinRopes$LawText", "takeWord", "(Ljava/lang/String;)Z"⟩ mX7_takeWord := ⟨List.mem_of_getElem? (i := 929) (by decide +kernel), List.mem_of_getElem? (i := 933) (by decide +kernel), List.mem_of_getElem? (i := 932) (by decide +kernel), List.mem_of_getElem? (i := 130) (by decide +kernel), List.mem_of_getElem? (i := 934) (by decide +kernel), List.mem_of_getElem? (i := 930) (by decide +kernel), List.mem_of_getElem? (i := 931) (by decide +kernel), by decide, by decide⟩
set_option maxRecDepth 20000 in
theorem K_X1_takeFlag {g : tw_Gx} (Q : tw_Rs → tw_Mem → Prop) (a0 : Nat) : tw_Kt g mX1_takeFlag 6 0 0 [.ref a0] Q (f_X1_takeFlag g a0 (fun v => Q (.inl (some (.int v))))) := by
  refine tw_mkK (L := [some (.ref a0)]) mo_X1_takeFlag dk_X1_takeFlag rfl (Nat.le_of_ble_eq_true rfl) rfl ?_
  unfold f_X1_takeFlag
  refine tw_aload_n (k := 0) rfl rfl ?_
  refine tw_ldcS (k := 1) rfl ks_RX1_90 (fun t1 => ?_)
  refine tw_callU (k := 2) (d' := 5) (mc' := 0) (ms' := 0) tw_cI tw_cIi [.ref t1] rfl rfl (t := 1) rfl wu_RX1_46_X7_takeWord_1 mo_X7_takeWord (by decide +kernel) rfl (fun Q9 => K_X7_takeWord Q9 a0 t1) (by omega) (by decide) (by decide) (Nat.le_of_ble_eq_true rfl) (fun x2 => ?_)
  refine tw_if_eq (k := 3) 17 rfl (by decide) ?_ ?_
  · refine tw_aload_n (k := 8) rfl rfl ?_
    refine tw_ldcS (k := 9) rfl ks_RX1_94 (fun t3 => ?_)
    refine tw_callU (k := 10) (d' := 5) (mc' := 0) (ms' := 0) tw_cI tw_cIi [.ref t3] rfl rfl (t := 1) rfl wu_RX1_46_X7_takeWord_1 mo_X7_takeWord (by decide +kernel) rfl (fun Q9 => K_X7_takeWord Q9 a0 t3) (by omega) (by decide) (by decide) (Nat.le_of_ble_eq_true rfl) (fun x4 => ?_)
    refine tw_if_eq (k := 11) 35 rfl (by decide) ?_ ?_
    · refine tw_aload_n (k := 16) rfl rfl ?_
      refine tw_ldcS (k := 17) rfl ks_RX1_96 (fun t5 => ?_)
      refine tw_callU (k := 18) (d' := 5) (mc' := 0) (ms' := 0) tw_cI tw_cIi [.ref t5] rfl rfl (t := 1) rfl wu_RX1_46_X7_takeWord_1 mo_X7_takeWord (by decide +kernel) rfl (fun Q9 => K_X7_takeWord Q9 a0 t5) (by omega) (by decide) (by decide) (Nat.le_of_ble_eq_true rfl) (fun x6 => ?_)
      refine tw_if_eq (k := 19) 53 rfl (by decide) ?_ ?_
      · refine tw_iconst (k := 24) (0 : Int32) rfl (by decide) ?_
        exact tw_zreturn (k := 25) rfl rfl (by decide) (by decide)
      · refine tw_aload_n (k := 20) rfl rfl ?_
        refine tw_bipush (k := 21) (10 : Int32) rfl (by decide) ?_
        refine tw_callV (k := 22) (d' := 1) (mc' := 0) (ms' := 0) tw_cU tw_cUi [.int (10 : Int32)] rfl rfl wv_RX1_67_X1_addStep mo_X1_addStep (t := 1) rfl rfl rfl (fun Q9 => K_X1_addStep Q9 a0 (10 : Int32)) (by omega) (by decide) (by decide) (Nat.le_of_ble_eq_true rfl) (fun u7 => ?_)
        refine tw_goto (k := 23) 55 rfl (by decide) ?_
        refine tw_iconst (k := 26) (1 : Int32) rfl (by decide) ?_
        exact tw_zreturn (k := 27) rfl rfl (by decide) (by decide)
    · refine tw_aload_n (k := 12) rfl rfl ?_
      refine tw_bipush (k := 13) (9 : Int32) rfl (by decide) ?_
      refine tw_callV (k := 14) (d' := 1) (mc' := 0) (ms' := 0) tw_cU tw_cUi [.int (9 : Int32)] rfl rfl wv_RX1_67_X1_addStep mo_X1_addStep (t := 1) rfl rfl rfl (fun Q9 => K_X1_addStep Q9 a0 (9 : Int32)) (by omega) (by decide) (by decide) (Nat.le_of_ble_eq_true rfl) (fun u8 => ?_)
      refine tw_goto (k := 15) 55 rfl (by decide) ?_
      refine tw_iconst (k := 26) (1 : Int32) rfl (by decide) ?_
      exact tw_zreturn (k := 27) rfl rfl (by decide) (by decide)
  · refine tw_aload_n (k := 4) rfl rfl ?_
    refine tw_iconst (k := 5) (4 : Int32) rfl (by decide) ?_
    refine tw_callV (k := 6) (d' := 1) (mc' := 0) (ms' := 0) tw_cU tw_cUi [.int (4 : Int32)] rfl rfl wv_RX1_67_X1_addStep mo_X1_addStep (t := 1) rfl rfl rfl (fun Q9 => K_X1_addStep Q9 a0 (4 : Int32)) (by omega) (by decide) (by decide) (Nat.le_of_ble_eq_true rfl) (fun u9 => ?_)
    refine tw_goto (k := 7) 55 rfl (by decide) ?_
    refine tw_iconst (k := 26) (1 : Int32) rfl (by decide) ?_
    exact tw_zreturn (k := 27) rfl rfl (by decide) (by decide)
def mX1_takePart : tw_MD := (yX1_takePart, cX1_takePart, 1, (some FieldType.boolean), [(0, .aload_n 0, 1, 1), (1, .iconst 0, 1, 2), (2, .sipush 999, 3, 5), (5, .invokevirtual 37, 3, 8), (8, .ifCond .eq 17, 3, 11), (11, .aload_n 0, 1, 12), (12, .bipush 32, 2, 14), (14, .aload_n 0, 1, 15), (15, .invokevirtual 41, 3, 18), (18, .iadd, 1, 19), (19, .invokevirtual 67, 3, 22), (22, .goto 127, 3, 25), (25, .aload_n 0, 1, 26), (26, .ldc 101, 2, 28), (28, .invokevirtual 46, 3, 31), (31, .ifCond .eq 11, 3, 34), (34, .aload_n 0, 1, 35), (35, .iconst 0, 1, 36), (36, .invokevirtual 67, 3, 39), (39, .goto 110, 3, 42), (42, .aload_n 0, 1, 43), (43, .ldc 103, 2, 45), (45, .invokevirtual 46, 3, 48), (48, .ifCond .eq 11, 3, 51), (51, .aload_n 0, 1, 52), (52, .iconst 1, 1, 53), (53, .invokevirtual 67, 3, 56), (56, .goto 93, 3, 59), (59, .aload_n 0, 1, 60), (60, .ldc 54, 2, 62), (62, .invokevirtual 46, 3, 65), (65, .ifCond .eq 11, 3, 68), (68, .aload_n 0, 1, 69), (69, .iconst 2, 1, 70), (70, .invokevirtual 67, 3, 73), (73, .goto 76, 3, 76), (76, .aload_n 0, 1, 77), (77, .ldc 105, 2, 79), (79, .invokevirtual 46, 3, 82), (82, .ifCond .eq 11, 3, 85), (85, .aload_n 0, 1, 86), (86, .iconst 3, 1, 87), (87, .invokevirtual 67, 3, 90), (90, .goto 59, 3, 93), (93, .aload_n 0, 1, 94), (94, .ldc 107, 2, 96), (96, .invokevirtual 46, 3, 99), (99, .ifCond .eq 12, 3, 102), (102, .aload_n 0, 1, 103), (103, .bipush 6, 2, 105), (105, .invokevirtual 67, 3, 108), (108, .goto 41, 3, 111), (111, .aload_n 0, 1, 112), (112, .ldc 109, 2, 114), (114, .invokevirtual 46, 3, 117), (117, .ifCond .eq 12, 3, 120), (120, .aload_n 0, 1, 121), (121, .bipush 7, 2, 123), (123, .invokevirtual 67, 3, 126), (126, .goto 23, 3, 129), (129, .aload_n 0, 1, 130), (130, .ldc 111, 2, 132), (132, .invokevirtual 46, 3, 135), (135, .ifCond .eq 12, 3, 138), (138, .aload_n 0, 1, 139), (139, .bipush 8, 2, 141), (141, .invokevirtual 67, 3, 144), (144, .goto 5, 3, 147), (147, .iconst 0, 1, 148), (148, .ireturn, 1, 149), (149, .iconst 1, 1, 150), (150, .ireturn, 1, 151)], [])
theorem mo_X1_takePart : tw_mok mX1_takePart 0 := ⟨plainFor_of_name (by decide +kernel), by decide +kernel, by decide +kernel, by decide +kernel, by decide +kernel⟩
theorem dk_X1_takePart : tw_dk mX1_takePart := by unfold tw_dk; decide +kernel
theorem ks_RX1_101 : Cond.stringRef RX1 101 "one" ∈ lw_tbl := List.mem_of_getElem? (i := 1032) (by decide +kernel)
theorem ks_RX1_103 : Cond.stringRef RX1 103 "other" ∈ lw_tbl := List.mem_of_getElem? (i := 1033) (by decide +kernel)
theorem ks_RX1_54 : Cond.stringRef RX1 54 "guess" ∈ lw_tbl := List.mem_of_getElem? (i := 928) (by decide +kernel)
theorem ks_RX1_105 : Cond.stringRef RX1 105 "back" ∈ lw_tbl := List.mem_of_getElem? (i := 1034) (by decide +kernel)
theorem ks_RX1_107 : Cond.stringRef RX1 107 "rung" ∈ lw_tbl := List.mem_of_getElem? (i := 1035) (by decide +kernel)
theorem ks_RX1_109 : Cond.stringRef RX1 109 "hour" ∈ lw_tbl := List.mem_of_getElem? (i := 1036) (by decide +kernel)
theorem ks_RX1_111 : Cond.stringRef RX1 111 "day" ∈ lw_tbl := List.mem_of_getElem? (i := 1037) (by decide +kernel)
theorem wu_RX1_41_X7_lastTaken_1 : tw_wU RX1 41 RX1 "TwinRopes$Text" ⟨"TwinRopes$LawText", "lastTaken", "()I"⟩ mX7_lastTaken := ⟨List.mem_of_getElem? (i := 991) (by decide +kernel), List.mem_of_getElem? (i := 995) (by decide +kernel), List.mem_of_getElem? (i := 994) (by decide +kernel), List.mem_of_getElem? (i := 130) (by decide +kernel), List.mem_of_getElem? (i := 996) (by decide +kernel), List.mem_of_getElem? (i := 992) (by decide +kernel), List.mem_of_getElem? (i := 993) (by decide +kernel), by decide, by decide⟩
theorem wu_RX1_37_X7_takeNumber_1 : tw_wU RX1 37 RX1 "TwinRopes$Text" ⟨"TwinRopes$LawText", "takeNumber", "(II)Z"⟩ mX7_takeNumber := ⟨List.mem_of_getElem? (i := 985) (by decide +kernel), List.mem_of_getElem? (i := 989) (by decide +kernel), List.mem_of_getElem? (i := 988) (by decide +kernel), List.mem_of_getElem? (i := 130) (by decide +kernel), List.mem_of_getElem? (i := 990) (by decide +kernel), List.mem_of_getElem? (i := 986) (by decide +kernel), List.mem_of_getElem? (i := 987) (by decide +kernel), by decide, by decide⟩
set_option maxRecDepth 20000 in
theorem K_X1_takePart {g : tw_Gx} (Q : tw_Rs → tw_Mem → Prop) (a0 : Nat) : tw_Kt g mX1_takePart 6 0 0 [.ref a0] Q (f_X1_takePart g a0 (fun v => Q (.inl (some (.int v))))) := by
  refine tw_mkK (L := [some (.ref a0)]) mo_X1_takePart dk_X1_takePart rfl (Nat.le_of_ble_eq_true rfl) rfl ?_
  unfold f_X1_takePart
  refine tw_aload_n (k := 0) rfl rfl ?_
  refine tw_iconst (k := 1) (0 : Int32) rfl (by decide) ?_
  refine tw_sipush (k := 2) (999 : Int32) rfl (by decide) ?_
  refine tw_callU (k := 3) (d' := 1) (mc' := 0) (ms' := 0) tw_cI tw_cIi [.int (0 : Int32), .int (999 : Int32)] rfl rfl (t := 1) rfl wu_RX1_37_X7_takeNumber_1 mo_X7_takeNumber (by decide +kernel) rfl (fun Q9 => K_X7_takeNumber Q9 a0 (0 : Int32) (999 : Int32)) (by omega) (by decide) (by decide) (Nat.le_of_ble_eq_true rfl) (fun x1 => ?_)
  refine tw_if_eq (k := 4) 25 rfl (by decide) ?_ ?_
  · refine tw_aload_n (k := 12) rfl rfl ?_
    refine tw_ldcS (k := 13) rfl ks_RX1_101 (fun t2 => ?_)
    refine tw_callU (k := 14) (d' := 5) (mc' := 0) (ms' := 0) tw_cI tw_cIi [.ref t2] rfl rfl (t := 1) rfl wu_RX1_46_X7_takeWord_1 mo_X7_takeWord (by decide +kernel) rfl (fun Q9 => K_X7_takeWord Q9 a0 t2) (by omega) (by decide) (by decide) (Nat.le_of_ble_eq_true rfl) (fun x3 => ?_)
    refine tw_if_eq (k := 15) 42 rfl (by decide) ?_ ?_
    · refine tw_aload_n (k := 20) rfl rfl ?_
      refine tw_ldcS (k := 21) rfl ks_RX1_103 (fun t4 => ?_)
      refine tw_callU (k := 22) (d' := 5) (mc' := 0) (ms' := 0) tw_cI tw_cIi [.ref t4] rfl rfl (t := 1) rfl wu_RX1_46_X7_takeWord_1 mo_X7_takeWord (by decide +kernel) rfl (fun Q9 => K_X7_takeWord Q9 a0 t4) (by omega) (by decide) (by decide) (Nat.le_of_ble_eq_true rfl) (fun x5 => ?_)
      refine tw_if_eq (k := 23) 59 rfl (by decide) ?_ ?_
      · refine tw_aload_n (k := 28) rfl rfl ?_
        refine tw_ldcS (k := 29) rfl ks_RX1_54 (fun t6 => ?_)
        refine tw_callU (k := 30) (d' := 5) (mc' := 0) (ms' := 0) tw_cI tw_cIi [.ref t6] rfl rfl (t := 1) rfl wu_RX1_46_X7_takeWord_1 mo_X7_takeWord (by decide +kernel) rfl (fun Q9 => K_X7_takeWord Q9 a0 t6) (by omega) (by decide) (by decide) (Nat.le_of_ble_eq_true rfl) (fun x7 => ?_)
        refine tw_if_eq (k := 31) 76 rfl (by decide) ?_ ?_
        · refine tw_aload_n (k := 36) rfl rfl ?_
          refine tw_ldcS (k := 37) rfl ks_RX1_105 (fun t8 => ?_)
          refine tw_callU (k := 38) (d' := 5) (mc' := 0) (ms' := 0) tw_cI tw_cIi [.ref t8] rfl rfl (t := 1) rfl wu_RX1_46_X7_takeWord_1 mo_X7_takeWord (by decide +kernel) rfl (fun Q9 => K_X7_takeWord Q9 a0 t8) (by omega) (by decide) (by decide) (Nat.le_of_ble_eq_true rfl) (fun x9 => ?_)
          refine tw_if_eq (k := 39) 93 rfl (by decide) ?_ ?_
          · refine tw_aload_n (k := 44) rfl rfl ?_
            refine tw_ldcS (k := 45) rfl ks_RX1_107 (fun t10 => ?_)
            refine tw_callU (k := 46) (d' := 5) (mc' := 0) (ms' := 0) tw_cI tw_cIi [.ref t10] rfl rfl (t := 1) rfl wu_RX1_46_X7_takeWord_1 mo_X7_takeWord (by decide +kernel) rfl (fun Q9 => K_X7_takeWord Q9 a0 t10) (by omega) (by decide) (by decide) (Nat.le_of_ble_eq_true rfl) (fun x11 => ?_)
            refine tw_if_eq (k := 47) 111 rfl (by decide) ?_ ?_
            · refine tw_aload_n (k := 52) rfl rfl ?_
              refine tw_ldcS (k := 53) rfl ks_RX1_109 (fun t12 => ?_)
              refine tw_callU (k := 54) (d' := 5) (mc' := 0) (ms' := 0) tw_cI tw_cIi [.ref t12] rfl rfl (t := 1) rfl wu_RX1_46_X7_takeWord_1 mo_X7_takeWord (by decide +kernel) rfl (fun Q9 => K_X7_takeWord Q9 a0 t12) (by omega) (by decide) (by decide) (Nat.le_of_ble_eq_true rfl) (fun x13 => ?_)
              refine tw_if_eq (k := 55) 129 rfl (by decide) ?_ ?_
              · refine tw_aload_n (k := 60) rfl rfl ?_
                refine tw_ldcS (k := 61) rfl ks_RX1_111 (fun t14 => ?_)
                refine tw_callU (k := 62) (d' := 5) (mc' := 0) (ms' := 0) tw_cI tw_cIi [.ref t14] rfl rfl (t := 1) rfl wu_RX1_46_X7_takeWord_1 mo_X7_takeWord (by decide +kernel) rfl (fun Q9 => K_X7_takeWord Q9 a0 t14) (by omega) (by decide) (by decide) (Nat.le_of_ble_eq_true rfl) (fun x15 => ?_)
                refine tw_if_eq (k := 63) 147 rfl (by decide) ?_ ?_
                · refine tw_iconst (k := 68) (0 : Int32) rfl (by decide) ?_
                  exact tw_zreturn (k := 69) rfl rfl (by decide) (by decide)
                · refine tw_aload_n (k := 64) rfl rfl ?_
                  refine tw_bipush (k := 65) (8 : Int32) rfl (by decide) ?_
                  refine tw_callV (k := 66) (d' := 1) (mc' := 0) (ms' := 0) tw_cU tw_cUi [.int (8 : Int32)] rfl rfl wv_RX1_67_X1_addStep mo_X1_addStep (t := 1) rfl rfl rfl (fun Q9 => K_X1_addStep Q9 a0 (8 : Int32)) (by omega) (by decide) (by decide) (Nat.le_of_ble_eq_true rfl) (fun u16 => ?_)
                  refine tw_goto (k := 67) 149 rfl (by decide) ?_
                  refine tw_iconst (k := 70) (1 : Int32) rfl (by decide) ?_
                  exact tw_zreturn (k := 71) rfl rfl (by decide) (by decide)
              · refine tw_aload_n (k := 56) rfl rfl ?_
                refine tw_bipush (k := 57) (7 : Int32) rfl (by decide) ?_
                refine tw_callV (k := 58) (d' := 1) (mc' := 0) (ms' := 0) tw_cU tw_cUi [.int (7 : Int32)] rfl rfl wv_RX1_67_X1_addStep mo_X1_addStep (t := 1) rfl rfl rfl (fun Q9 => K_X1_addStep Q9 a0 (7 : Int32)) (by omega) (by decide) (by decide) (Nat.le_of_ble_eq_true rfl) (fun u17 => ?_)
                refine tw_goto (k := 59) 149 rfl (by decide) ?_
                refine tw_iconst (k := 70) (1 : Int32) rfl (by decide) ?_
                exact tw_zreturn (k := 71) rfl rfl (by decide) (by decide)
            · refine tw_aload_n (k := 48) rfl rfl ?_
              refine tw_bipush (k := 49) (6 : Int32) rfl (by decide) ?_
              refine tw_callV (k := 50) (d' := 1) (mc' := 0) (ms' := 0) tw_cU tw_cUi [.int (6 : Int32)] rfl rfl wv_RX1_67_X1_addStep mo_X1_addStep (t := 1) rfl rfl rfl (fun Q9 => K_X1_addStep Q9 a0 (6 : Int32)) (by omega) (by decide) (by decide) (Nat.le_of_ble_eq_true rfl) (fun u18 => ?_)
              refine tw_goto (k := 51) 149 rfl (by decide) ?_
              refine tw_iconst (k := 70) (1 : Int32) rfl (by decide) ?_
              exact tw_zreturn (k := 71) rfl rfl (by decide) (by decide)
          · refine tw_aload_n (k := 40) rfl rfl ?_
            refine tw_iconst (k := 41) (3 : Int32) rfl (by decide) ?_
            refine tw_callV (k := 42) (d' := 1) (mc' := 0) (ms' := 0) tw_cU tw_cUi [.int (3 : Int32)] rfl rfl wv_RX1_67_X1_addStep mo_X1_addStep (t := 1) rfl rfl rfl (fun Q9 => K_X1_addStep Q9 a0 (3 : Int32)) (by omega) (by decide) (by decide) (Nat.le_of_ble_eq_true rfl) (fun u19 => ?_)
            refine tw_goto (k := 43) 149 rfl (by decide) ?_
            refine tw_iconst (k := 70) (1 : Int32) rfl (by decide) ?_
            exact tw_zreturn (k := 71) rfl rfl (by decide) (by decide)
        · refine tw_aload_n (k := 32) rfl rfl ?_
          refine tw_iconst (k := 33) (2 : Int32) rfl (by decide) ?_
          refine tw_callV (k := 34) (d' := 1) (mc' := 0) (ms' := 0) tw_cU tw_cUi [.int (2 : Int32)] rfl rfl wv_RX1_67_X1_addStep mo_X1_addStep (t := 1) rfl rfl rfl (fun Q9 => K_X1_addStep Q9 a0 (2 : Int32)) (by omega) (by decide) (by decide) (Nat.le_of_ble_eq_true rfl) (fun u20 => ?_)
          refine tw_goto (k := 35) 149 rfl (by decide) ?_
          refine tw_iconst (k := 70) (1 : Int32) rfl (by decide) ?_
          exact tw_zreturn (k := 71) rfl rfl (by decide) (by decide)
      · refine tw_aload_n (k := 24) rfl rfl ?_
        refine tw_iconst (k := 25) (1 : Int32) rfl (by decide) ?_
        refine tw_callV (k := 26) (d' := 1) (mc' := 0) (ms' := 0) tw_cU tw_cUi [.int (1 : Int32)] rfl rfl wv_RX1_67_X1_addStep mo_X1_addStep (t := 1) rfl rfl rfl (fun Q9 => K_X1_addStep Q9 a0 (1 : Int32)) (by omega) (by decide) (by decide) (Nat.le_of_ble_eq_true rfl) (fun u21 => ?_)
        refine tw_goto (k := 27) 149 rfl (by decide) ?_
        refine tw_iconst (k := 70) (1 : Int32) rfl (by decide) ?_
        exact tw_zreturn (k := 71) rfl rfl (by decide) (by decide)
    · refine tw_aload_n (k := 16) rfl rfl ?_
      refine tw_iconst (k := 17) (0 : Int32) rfl (by decide) ?_
      refine tw_callV (k := 18) (d' := 1) (mc' := 0) (ms' := 0) tw_cU tw_cUi [.int (0 : Int32)] rfl rfl wv_RX1_67_X1_addStep mo_X1_addStep (t := 1) rfl rfl rfl (fun Q9 => K_X1_addStep Q9 a0 (0 : Int32)) (by omega) (by decide) (by decide) (Nat.le_of_ble_eq_true rfl) (fun u22 => ?_)
      refine tw_goto (k := 19) 149 rfl (by decide) ?_
      refine tw_iconst (k := 70) (1 : Int32) rfl (by decide) ?_
      exact tw_zreturn (k := 71) rfl rfl (by decide) (by decide)
  · refine tw_aload_n (k := 5) rfl rfl ?_
    refine tw_bipush (k := 6) (32 : Int32) rfl (by decide) ?_
    refine tw_aload_n (k := 7) rfl rfl ?_
    refine tw_callU (k := 8) (d' := 1) (mc' := 0) (ms' := 0) tw_cI tw_cIi [] rfl rfl (t := 1) rfl wu_RX1_41_X7_lastTaken_1 mo_X7_lastTaken (by decide +kernel) rfl (fun Q9 => K_X7_lastTaken Q9 a0) (by omega) (by decide) (by decide) (Nat.le_of_ble_eq_true rfl) (fun x23 => ?_)
    refine tw_iadd (k := 9) rfl ?_
    refine tw_callV (k := 10) (d' := 1) (mc' := 0) (ms' := 0) tw_cU tw_cUi [.int ((32 : Int32) + x23)] rfl rfl wv_RX1_67_X1_addStep mo_X1_addStep (t := 1) rfl rfl rfl (fun Q9 => K_X1_addStep Q9 a0 ((32 : Int32) + x23)) (by omega) (by decide) (by decide) (Nat.le_of_ble_eq_true rfl) (fun u24 => ?_)
    refine tw_goto (k := 11) 149 rfl (by decide) ?_
    refine tw_iconst (k := 70) (1 : Int32) rfl (by decide) ?_
    exact tw_zreturn (k := 71) rfl rfl (by decide) (by decide)
def mX1_takeSum : tw_MD := (yX1_takeSum, cX1_takeSum, 3, (some FieldType.boolean), [(0, .aload_n 0, 1, 1), (1, .invokevirtual 98, 3, 4), (4, .istore_n 1, 1, 5), (5, .iconst 0, 1, 6), (6, .istore_n 2, 1, 7), (7, .iload_n 1, 1, 8), (8, .ifCond .eq 36, 3, 11), (11, .iload_n 2, 1, 12), (12, .sipush 400, 3, 15), (15, .if_icmp .ge 29, 3, 18), (18, .aload_n 0, 1, 19), (19, .bipush 43, 2, 21), (21, .invokevirtual 79, 3, 24), (24, .ifCond .eq 20, 3, 27), (27, .aload_n 0, 1, 28), (28, .invokevirtual 98, 3, 31), (31, .istore_n 1, 1, 32), (32, .aload_n 0, 1, 33), (33, .bipush 16, 2, 35), (35, .invokevirtual 67, 3, 38), (38, .iinc 2 1, 3, 41), (41, .goto (-34), 3, 44), (44, .iload_n 1, 1, 45), (45, .ireturn, 1, 46)], [])
theorem mo_X1_takeSum : tw_mok mX1_takeSum 0 := ⟨plainFor_of_name (by decide +kernel), by decide +kernel, by decide +kernel, by decide +kernel, by decide +kernel⟩
theorem dk_X1_takeSum : tw_dk mX1_takeSum := by unfold tw_dk; decide +kernel
theorem wv_RX1_98_X1_takePart : tw_wV RX1 98 mX1_takePart := ⟨List.mem_of_getElem? (i := 1028) (by decide +kernel), List.mem_of_getElem? (i := 1030) (by decide +kernel), List.mem_of_getElem? (i := 16) (by decide +kernel), List.mem_of_getElem? (i := 132) (by decide +kernel), List.mem_of_getElem? (i := 1031) (by decide +kernel)⟩
theorem wu_RX1_79_X7_takeSign_1 : tw_wU RX1 79 RX1 "TwinRopes$Text" ⟨"TwinRopes$LawText", "takeSign", "(C)Z"⟩ mX7_takeSign := ⟨List.mem_of_getElem? (i := 1007) (by decide +kernel), List.mem_of_getElem? (i := 1011) (by decide +kernel), List.mem_of_getElem? (i := 1010) (by decide +kernel), List.mem_of_getElem? (i := 130) (by decide +kernel), List.mem_of_getElem? (i := 1012) (by decide +kernel), List.mem_of_getElem? (i := 1008) (by decide +kernel), List.mem_of_getElem? (i := 1009) (by decide +kernel), by decide, by decide⟩
set_option maxRecDepth 20000 in
theorem K_X1_takeSum {g : tw_Gx} (Q : tw_Rs → tw_Mem → Prop) (a0 : Nat) : tw_Kt g mX1_takeSum 7 0 0 [.ref a0] Q (f_X1_takeSum g a0 (fun v => Q (.inl (some (.int v))))) := by
  refine tw_mkK (L := [some (.ref a0), none, none]) mo_X1_takeSum dk_X1_takeSum rfl (Nat.le_of_ble_eq_true rfl) rfl ?_
  unfold f_X1_takeSum
  refine tw_aload_n (k := 0) rfl rfl ?_
  refine tw_callV (k := 1) (d' := 6) (mc' := 0) (ms' := 0) tw_cI tw_cIi [] rfl rfl wv_RX1_98_X1_takePart mo_X1_takePart (t := 1) rfl rfl rfl (fun Q9 => K_X1_takePart Q9 a0) (by omega) (by decide) (by decide) (Nat.le_of_ble_eq_true rfl) (fun x1 => ?_)
  refine tw_ist_n (k := 2) [some (.ref a0), some (.int x1), none] rfl (Nat.le_of_ble_eq_true rfl) rfl rfl ?_
  refine tw_iconst (k := 3) (0 : Int32) rfl (by decide) ?_
  refine tw_ist_n (k := 4) [some (.ref a0), some (.int x1), some (.int (0 : Int32))] rfl (Nat.le_of_ble_eq_true rfl) rfl rfl ?_
  refine tw_loop (fun s3 => [some (.ref a0), some (.int s3.1), some (.int s3.2)]) (fun s3 => []) (fun r2 h2 s3 => ?_) _ rfl rfl
  refine tw_iload_n (k := 5) rfl rfl ?_
  refine tw_if_eq (k := 6) 44 rfl (by decide) ?_ ?_
  · refine tw_iload_n (k := 22) rfl rfl ?_
    exact tw_zreturn (k := 23) rfl rfl (by decide) (by decide)
  · refine tw_iload_n (k := 7) rfl rfl ?_
    refine tw_sipush (k := 8) (400 : Int32) rfl (by decide) ?_
    refine tw_icmp_ge (k := 9) 44 rfl (by decide) ?_ ?_
    · refine tw_iload_n (k := 22) rfl rfl ?_
      exact tw_zreturn (k := 23) rfl rfl (by decide) (by decide)
    · refine tw_aload_n (k := 10) rfl rfl ?_
      refine tw_bipush (k := 11) (43 : Int32) rfl (by decide) ?_
      refine tw_callU (k := 12) (d' := 1) (mc' := 0) (ms' := 0) tw_cI tw_cIi [.int (43 : Int32)] rfl rfl (t := 1) rfl wu_RX1_79_X7_takeSign_1 mo_X7_takeSign (by decide +kernel) rfl (fun Q9 => K_X7_takeSign Q9 a0 (43 : Int32)) (by omega) (by decide) (by decide) (Nat.le_of_ble_eq_true rfl) (fun x4 => ?_)
      refine tw_if_eq (k := 13) 44 rfl (by decide) ?_ ?_
      · refine tw_iload_n (k := 22) rfl rfl ?_
        exact tw_zreturn (k := 23) rfl rfl (by decide) (by decide)
      · refine tw_aload_n (k := 14) rfl rfl ?_
        refine tw_callV (k := 15) (d' := 6) (mc' := 0) (ms' := 0) tw_cI tw_cIi [] rfl rfl wv_RX1_98_X1_takePart mo_X1_takePart (t := 1) rfl rfl rfl (fun Q9 => K_X1_takePart Q9 a0) (by omega) (by decide) (by decide) (Nat.le_of_ble_eq_true rfl) (fun x5 => ?_)
        refine tw_ist_n (k := 16) [some (.ref a0), some (.int x5), some (.int s3.2)] rfl (Nat.le_of_ble_eq_true rfl) rfl rfl ?_
        refine tw_aload_n (k := 17) rfl rfl ?_
        refine tw_bipush (k := 18) (16 : Int32) rfl (by decide) ?_
        refine tw_callV (k := 19) (d' := 1) (mc' := 0) (ms' := 0) tw_cU tw_cUi [.int (16 : Int32)] rfl rfl wv_RX1_67_X1_addStep mo_X1_addStep (t := 1) rfl rfl rfl (fun Q9 => K_X1_addStep Q9 a0 (16 : Int32)) (by omega) (by decide) (by decide) (Nat.le_of_ble_eq_true rfl) (fun u6 => ?_)
        refine tw_inc (k := 20) (1 : Int32) [some (.ref a0), some (.int x5), some (.int (s3.2 + (1 : Int32)))] rfl rfl (by decide) (Nat.le_of_ble_eq_true rfl) rfl rfl ?_
        refine tw_goto (k := 21) 7 rfl (by decide) ?_
        exact h2 (x5, s3.2 + (1 : Int32))
def mX1_addStepIf : tw_MD := (yX1_addStepIf, cX1_addStepIf, 3, none, [(0, .iload_n 1, 1, 1), (1, .ifCond .eq 8, 3, 4), (4, .aload_n 0, 1, 5), (5, .iload_n 2, 1, 6), (6, .invokevirtual 67, 3, 9), (9, .return_, 1, 10)], [])
theorem mo_X1_addStepIf : tw_mok mX1_addStepIf 2 := ⟨plainFor_of_name (by decide +kernel), by decide +kernel, by decide +kernel, by decide +kernel, by decide +kernel⟩
theorem dk_X1_addStepIf : tw_dk mX1_addStepIf := by unfold tw_dk; decide +kernel
set_option maxRecDepth 20000 in
theorem K_X1_addStepIf {g : tw_Gx} (Q : tw_Rs → tw_Mem → Prop) (a0 : Nat) (a1 : Int32) (a2 : Int32) : tw_Kt g mX1_addStepIf 2 0 0 [.ref a0, .int a1, .int a2] Q (f_X1_addStepIf a0 a1 a2 (fun v => Q (.inl none))) := by
  refine tw_mkK (L := [some (.ref a0), some (.int a1), some (.int a2)]) mo_X1_addStepIf dk_X1_addStepIf rfl (Nat.le_of_ble_eq_true rfl) rfl ?_
  unfold f_X1_addStepIf
  refine tw_iload_n (k := 0) rfl rfl ?_
  refine tw_if_eq (k := 1) 9 rfl (by decide) ?_ ?_
  · exact tw_return (k := 5) rfl rfl (by decide) (by decide)
  · refine tw_aload_n (k := 2) rfl rfl ?_
    refine tw_iload_n (k := 3) rfl rfl ?_
    refine tw_callV (k := 4) (d' := 1) (mc' := 0) (ms' := 0) tw_cU tw_cUi [.int a2] rfl rfl wv_RX1_67_X1_addStep mo_X1_addStep (t := 1) rfl rfl rfl (fun Q9 => K_X1_addStep Q9 a0 a2) (by omega) (by decide) (by decide) (Nat.le_of_ble_eq_true rfl) (fun u1 => ?_)
    exact tw_return (k := 5) rfl rfl (by decide) (by decide)
def mX1_takeKind : tw_MD := (yX1_takeKind, cX1_takeKind, 1, (some FieldType.int), [(0, .aload_n 0, 1, 1), (1, .ldc 54, 2, 3), (3, .invokevirtual 46, 3, 6), (6, .ifCond .eq 5, 3, 9), (9, .iconst 0, 1, 10), (10, .ireturn, 1, 11), (11, .aload_n 0, 1, 12), (12, .ldc 58, 2, 14), (14, .invokevirtual 46, 3, 17), (17, .ifCond .eq 5, 3, 20), (20, .iconst 1, 1, 21), (21, .ireturn, 1, 22), (22, .aload_n 0, 1, 23), (23, .ldc 60, 2, 25), (25, .invokevirtual 46, 3, 28), (28, .ifCond .eq 7, 3, 31), (31, .iconst 2, 1, 32), (32, .goto 4, 3, 35), (35, .iconst (-1), 1, 36), (36, .ireturn, 1, 37)], [])
theorem mo_X1_takeKind : tw_mok mX1_takeKind 0 := ⟨plainFor_of_name (by decide +kernel), by decide +kernel, by decide +kernel, by decide +kernel, by decide +kernel⟩
theorem dk_X1_takeKind : tw_dk mX1_takeKind := by unfold tw_dk; decide +kernel
theorem ks_RX1_58 : Cond.stringRef RX1 58 "hush" ∈ lw_tbl := List.mem_of_getElem? (i := 983) (by decide +kernel)
theorem ks_RX1_60 : Cond.stringRef RX1 60 "tell" ∈ lw_tbl := List.mem_of_getElem? (i := 984) (by decide +kernel)
set_option maxRecDepth 20000 in
theorem K_X1_takeKind {g : tw_Gx} (Q : tw_Rs → tw_Mem → Prop) (a0 : Nat) : tw_Kt g mX1_takeKind 6 0 0 [.ref a0] Q (f_X1_takeKind g a0 (fun v => Q (.inl (some (.int v))))) := by
  refine tw_mkK (L := [some (.ref a0)]) mo_X1_takeKind dk_X1_takeKind rfl (Nat.le_of_ble_eq_true rfl) rfl ?_
  unfold f_X1_takeKind
  refine tw_aload_n (k := 0) rfl rfl ?_
  refine tw_ldcS (k := 1) rfl ks_RX1_54 (fun t1 => ?_)
  refine tw_callU (k := 2) (d' := 5) (mc' := 0) (ms' := 0) tw_cI tw_cIi [.ref t1] rfl rfl (t := 1) rfl wu_RX1_46_X7_takeWord_1 mo_X7_takeWord (by decide +kernel) rfl (fun Q9 => K_X7_takeWord Q9 a0 t1) (by omega) (by decide) (by decide) (Nat.le_of_ble_eq_true rfl) (fun x2 => ?_)
  refine tw_if_eq (k := 3) 11 rfl (by decide) ?_ ?_
  · refine tw_aload_n (k := 6) rfl rfl ?_
    refine tw_ldcS (k := 7) rfl ks_RX1_58 (fun t3 => ?_)
    refine tw_callU (k := 8) (d' := 5) (mc' := 0) (ms' := 0) tw_cI tw_cIi [.ref t3] rfl rfl (t := 1) rfl wu_RX1_46_X7_takeWord_1 mo_X7_takeWord (by decide +kernel) rfl (fun Q9 => K_X7_takeWord Q9 a0 t3) (by omega) (by decide) (by decide) (Nat.le_of_ble_eq_true rfl) (fun x4 => ?_)
    refine tw_if_eq (k := 9) 22 rfl (by decide) ?_ ?_
    · refine tw_aload_n (k := 12) rfl rfl ?_
      refine tw_ldcS (k := 13) rfl ks_RX1_60 (fun t5 => ?_)
      refine tw_callU (k := 14) (d' := 5) (mc' := 0) (ms' := 0) tw_cI tw_cIi [.ref t5] rfl rfl (t := 1) rfl wu_RX1_46_X7_takeWord_1 mo_X7_takeWord (by decide +kernel) rfl (fun Q9 => K_X7_takeWord Q9 a0 t5) (by omega) (by decide) (by decide) (Nat.le_of_ble_eq_true rfl) (fun x6 => ?_)
      refine tw_if_eq (k := 15) 35 rfl (by decide) ?_ ?_
      · refine tw_iconst (k := 18) (-1 : Int32) rfl (by decide) ?_
        exact tw_ireturn (k := 19) rfl rfl (by decide) (by decide)
      · refine tw_iconst (k := 16) (2 : Int32) rfl (by decide) ?_
        refine tw_goto (k := 17) 36 rfl (by decide) ?_
        exact tw_ireturn (k := 19) rfl rfl (by decide) (by decide)
    · refine tw_iconst (k := 10) (1 : Int32) rfl (by decide) ?_
      exact tw_ireturn (k := 11) rfl rfl (by decide) (by decide)
  · refine tw_iconst (k := 4) (0 : Int32) rfl (by decide) ?_
    exact tw_ireturn (k := 5) rfl rfl (by decide) (by decide)
def mX1_clear : tw_MD := (yX1_clear, cX1_clear, 1, none, [(0, .aload_n 0, 1, 1), (1, .iconst 0, 1, 2), (2, .putfield 26, 3, 5), (5, .aload_n 0, 1, 6), (6, .iconst 0, 1, 7), (7, .putfield 30, 3, 10), (10, .return_, 1, 11)], [])
theorem mo_X1_clear : tw_mok mX1_clear 0 := ⟨plainFor_of_name (by decide +kernel), by decide +kernel, by decide +kernel, by decide +kernel, by decide +kernel⟩
theorem dk_X1_clear : tw_dk mX1_clear := by unfold tw_dk; decide +kernel
theorem fl_RX1_26 : tw_fl RX1 26 17 := Or.inl (List.mem_of_getElem? (i := 329) (by decide +kernel))
theorem wf_X1_clear_30 : tw_wf mX1_clear 30 18 := Or.inl rfl
theorem wf_X1_clear_26 : tw_wf mX1_clear 26 17 := Or.inl rfl
set_option maxRecDepth 20000 in
theorem K_X1_clear {g : tw_Gx} (Q : tw_Rs → tw_Mem → Prop) (a0 : Nat) : tw_Kt g mX1_clear 1 0 0 [.ref a0] Q (f_X1_clear a0 (fun v => Q (.inl none))) := by
  refine tw_mkK (L := [some (.ref a0)]) mo_X1_clear dk_X1_clear rfl (Nat.le_of_ble_eq_true rfl) rfl ?_
  unfold f_X1_clear
  refine tw_aload_n (k := 0) rfl rfl ?_
  refine tw_iconst (k := 1) (0 : Int32) rfl (by decide) ?_
  refine tw_putI (k := 2) rfl fl_RX1_26 wf_X1_clear_26 (by decide +kernel) ?_
  refine tw_aload_n (k := 3) rfl rfl ?_
  refine tw_iconst (k := 4) (0 : Int32) rfl (by decide) ?_
  refine tw_putI (k := 5) rfl fl_RX1_30 wf_X1_clear_30 (by decide +kernel) ?_
  exact tw_return (k := 6) rfl rfl (by decide) (by decide)
def mX1_init : tw_MD := (yX1_init, cX1_init, 2, none, [(0, .aload_n 0, 1, 1), (1, .aload_n 1, 1, 2), (2, .invokespecial 3, 3, 5), (5, .aload_n 0, 1, 6), (6, .bipush 12, 2, 8), (8, .newarray .int, 2, 10), (10, .putfield 11, 3, 13), (13, .aload_n 0, 1, 14), (14, .bipush 12, 2, 16), (16, .newarray .int, 2, 18), (18, .putfield 15, 3, 21), (21, .aload_n 0, 1, 22), (22, .bipush 12, 2, 24), (24, .newarray .int, 2, 26), (26, .putfield 18, 3, 29), (29, .aload_n 0, 1, 30), (30, .sipush 400, 3, 33), (33, .newarray .int, 2, 35), (35, .putfield 23, 3, 38), (38, .return_, 1, 39)], [])
theorem mo_X1_init : tw_mok mX1_init 1 := ⟨plainFor_of_name (by decide +kernel), by decide +kernel, by decide +kernel, by decide +kernel, by decide +kernel⟩
theorem dk_X1_init : tw_dk mX1_init := by unfold tw_dk; decide +kernel
theorem fl_RX1_11 : tw_fl RX1 11 13 := Or.inl (List.mem_of_getElem? (i := 321) (by decide +kernel))
theorem fl_RX1_15 : tw_fl RX1 15 14 := Or.inl (List.mem_of_getElem? (i := 323) (by decide +kernel))
theorem fl_RX1_18 : tw_fl RX1 18 15 := Or.inl (List.mem_of_getElem? (i := 325) (by decide +kernel))
theorem wf_X1_init_23 : tw_wf mX1_init 23 16 := Or.inr ⟨by decide +kernel, by decide +kernel, List.mem_of_getElem? (i := 327) (by decide +kernel)⟩
theorem wf_X1_init_18 : tw_wf mX1_init 18 15 := Or.inr ⟨by decide +kernel, by decide +kernel, List.mem_of_getElem? (i := 325) (by decide +kernel)⟩
theorem wf_X1_init_15 : tw_wf mX1_init 15 14 := Or.inr ⟨by decide +kernel, by decide +kernel, List.mem_of_getElem? (i := 323) (by decide +kernel)⟩
theorem wf_X1_init_11 : tw_wf mX1_init 11 13 := Or.inr ⟨by decide +kernel, by decide +kernel, List.mem_of_getElem? (i := 321) (by decide +kernel)⟩
theorem wi_RX1_3_X7_init : tw_wI RX1 3 mX7_init := ⟨List.mem_of_getElem? (i := 320) (by decide +kernel), List.mem_of_getElem? (i := 287) (by decide +kernel), List.mem_of_getElem? (i := 130) (by decide +kernel), List.mem_of_getElem? (i := 288) (by decide +kernel)⟩
set_option maxRecDepth 20000 in
theorem K_X1_init {g : tw_Gx} (Q : tw_Rs → tw_Mem → Prop) (a0 : Nat) (a1 : Nat) : tw_Kt g mX1_init 2 7 1639 [.ref a0, .ref a1] Q (f_X1_init a0 a1 (fun v => Q (.inl none))) := by
  refine tw_mkK (L := [some (.ref a0), some (.ref a1)]) mo_X1_init dk_X1_init rfl (Nat.le_of_ble_eq_true rfl) rfl ?_
  unfold f_X1_init
  refine tw_aload_n (k := 0) rfl rfl ?_
  refine tw_aload_n (k := 1) rfl rfl ?_
  refine tw_callI (k := 2) (d' := 1) (mc' := 3) (ms' := 1203) [.ref a1] rfl rfl wi_RX1_3_X7_init mo_X7_init rfl rfl rfl (fun Q9 => K_X7_init Q9 a0 a1) (by omega) (by decide) (by decide) (Nat.le_of_ble_eq_true rfl) ?_
  refine tw_aload_n (k := 3) rfl rfl ?_
  refine tw_bipush (k := 4) (12 : Int32) rfl (by decide) ?_
  refine tw_newI (k := 5) 12 rfl ka_int (by decide) (by decide) (by decide) (fun b2 => ?_)
  refine tw_putR (k := 6) (ty := (.array .int)) rfl fl_RX1_11 wf_X1_init_11 (by decide +kernel) rfl rfl ?_
  refine tw_aload_n (k := 7) rfl rfl ?_
  refine tw_bipush (k := 8) (12 : Int32) rfl (by decide) ?_
  refine tw_newI (k := 9) 12 rfl ka_int (by decide) (by decide) (by decide) (fun b3 => ?_)
  refine tw_putR (k := 10) (ty := (.array .int)) rfl fl_RX1_15 wf_X1_init_15 (by decide +kernel) rfl rfl ?_
  refine tw_aload_n (k := 11) rfl rfl ?_
  refine tw_bipush (k := 12) (12 : Int32) rfl (by decide) ?_
  refine tw_newI (k := 13) 12 rfl ka_int (by decide) (by decide) (by decide) (fun b4 => ?_)
  refine tw_putR (k := 14) (ty := (.array .int)) rfl fl_RX1_18 wf_X1_init_18 (by decide +kernel) rfl rfl ?_
  refine tw_aload_n (k := 15) rfl rfl ?_
  refine tw_sipush (k := 16) (400 : Int32) rfl (by decide) ?_
  refine tw_newI (k := 17) 400 rfl ka_int (by decide) (by decide) (by decide) (fun b5 => ?_)
  refine tw_putR (k := 18) (ty := (.array .int)) rfl fl_RX1_23 wf_X1_init_23 (by decide +kernel) rfl rfl ?_
  exact tw_return (k := 19) rfl rfl (by decide) (by decide)
def mX1_takeCondition : tw_MD := (yX1_takeCondition, cX1_takeCondition, 5, (some FieldType.boolean), [(0, .aload_n 0, 1, 1), (1, .iload_n 1, 1, 2), (2, .invokevirtual 62, 3, 5), (5, .istore_n 2, 1, 6), (6, .iconst 0, 1, 7), (7, .istore_n 3, 1, 8), (8, .iconst 0, 1, 9), (9, .istore 4, 2, 11), (11, .iload_n 2, 1, 12), (12, .ifCond .eq 65, 3, 15), (15, .iload 4, 2, 17), (17, .sipush 400, 3, 20), (20, .if_icmp .ge 57, 3, 23), (23, .aload_n 0, 1, 24), (24, .ldc 65, 2, 26), (26, .invokevirtual 46, 3, 29), (29, .ifCond .eq 18, 3, 32), (32, .aload_n 0, 1, 33), (33, .iload_n 1, 1, 34), (34, .invokevirtual 62, 3, 37), (37, .istore_n 2, 1, 38), (38, .aload_n 0, 1, 39), (39, .bipush 19, 2, 41), (41, .invokevirtual 67, 3, 44), (44, .goto 27, 3, 47), (47, .aload_n 0, 1, 48), (48, .ldc 71, 2, 50), (50, .invokevirtual 46, 3, 53), (53, .ifCond .eq 24, 3, 56), (56, .aload_n 0, 1, 57), (57, .iload_n 3, 1, 58), (58, .bipush 20, 2, 60), (60, .invokevirtual 73, 3, 63), (63, .iconst 1, 1, 64), (64, .istore_n 3, 1, 65), (65, .aload_n 0, 1, 66), (66, .iload_n 1, 1, 67), (67, .invokevirtual 62, 3, 70), (70, .istore_n 2, 1, 71), (71, .iinc 4 1, 3, 74), (74, .goto (-63), 3, 77), (77, .aload_n 0, 1, 78), (78, .iload_n 3, 1, 79), (79, .bipush 20, 2, 81), (81, .invokevirtual 73, 3, 84), (84, .iload_n 2, 1, 85), (85, .ireturn, 1, 86)], [])
theorem mo_X1_takeCondition : tw_mok mX1_takeCondition 1 := ⟨plainFor_of_name (by decide +kernel), by decide +kernel, by decide +kernel, by decide +kernel, by decide +kernel⟩
theorem dk_X1_takeCondition : tw_dk mX1_takeCondition := by unfold tw_dk; decide +kernel
def mX1_takeAtom : tw_MD := (yX1_takeAtom, cX1_takeAtom, 5, (some FieldType.boolean), [(0, .iload_n 1, 1, 1), (1, .istore_n 2, 1, 2), (2, .iload_n 2, 1, 3), (3, .bipush 6, 2, 5), (5, .if_icmp .ge 18, 3, 8), (8, .aload_n 0, 1, 9), (9, .ldc 77, 2, 11), (11, .invokevirtual 46, 3, 14), (14, .ifCond .eq 9, 3, 17), (17, .iinc 2 1, 3, 20), (20, .goto (-18), 3, 23), (23, .iload_n 2, 1, 24), (24, .bipush 6, 2, 26), (26, .if_icmp .ge 40, 3, 29), (29, .aload_n 0, 1, 30), (30, .bipush 40, 2, 32), (32, .invokevirtual 79, 3, 35), (35, .ifCond .eq 31, 3, 38), (38, .aload_n 0, 1, 39), (39, .iload_n 2, 1, 40), (40, .iconst 1, 1, 41), (41, .iadd, 1, 42), (42, .invokevirtual 50, 3, 45), (45, .ifCond .eq 16, 3, 48), (48, .aload_n 0, 1, 49), (49, .bipush 41, 2, 51), (51, .invokevirtual 79, 3, 54), (54, .ifCond .eq 7, 3, 57), (57, .iconst 1, 1, 58), (58, .goto 4, 3, 61), (61, .iconst 0, 1, 62), (62, .istore_n 3, 1, 63), (63, .goto 87, 3, 66), (66, .aload_n 0, 1, 67), (67, .invokevirtual 83, 3, 70), (70, .ifCond .eq 8, 3, 73), (73, .iconst 1, 1, 74), (74, .istore_n 3, 1, 75), (75, .goto 75, 3, 78), (78, .aload_n 0, 1, 79), (79, .invokevirtual 87, 3, 82), (82, .istore_n 3, 1, 83), (83, .iload_n 3, 1, 84), (84, .ifCond .eq 16, 3, 87), (87, .aload_n 0, 1, 88), (88, .bipush 60, 2, 90), (90, .invokevirtual 79, 3, 93), (93, .ifCond .eq 7, 3, 96), (96, .iconst 1, 1, 97), (97, .goto 4, 3, 100), (100, .iconst 0, 1, 101), (101, .istore 4, 2, 103), (103, .iload_n 3, 1, 104), (104, .ifCond .eq 28, 3, 107), (107, .iload 4, 2, 109), (109, .ifCond .ne 12, 3, 112), (112, .aload_n 0, 1, 113), (113, .bipush 62, 2, 115), (115, .invokevirtual 79, 3, 118), (118, .ifCond .eq 14, 3, 121), (121, .aload_n 0, 1, 122), (122, .invokevirtual 87, 3, 125), (125, .ifCond .eq 7, 3, 128), (128, .iconst 1, 1, 129), (129, .goto 4, 3, 132), (132, .iconst 0, 1, 133), (133, .istore_n 3, 1, 134), (134, .aload_n 0, 1, 135), (135, .iload 4, 2, 137), (137, .ifCond .eq 8, 3, 140), (140, .bipush 17, 2, 142), (142, .goto 5, 3, 145), (145, .bipush 18, 2, 147), (147, .invokevirtual 67, 3, 150), (150, .iload_n 1, 1, 151), (151, .istore 4, 2, 153), (153, .iload 4, 2, 155), (155, .iload_n 2, 1, 156), (156, .if_icmp .ge 15, 3, 159), (159, .aload_n 0, 1, 160), (160, .bipush 21, 2, 162), (162, .invokevirtual 67, 3, 165), (165, .iinc 4 1, 3, 168), (168, .goto (-15), 3, 171), (171, .iload_n 3, 1, 172), (172, .ireturn, 1, 173)], [])
theorem mo_X1_takeAtom : tw_mok mX1_takeAtom 1 := ⟨plainFor_of_name (by decide +kernel), by decide +kernel, by decide +kernel, by decide +kernel, by decide +kernel⟩
theorem dk_X1_takeAtom : tw_dk mX1_takeAtom := by unfold tw_dk; decide +kernel
theorem wv_RX1_87_X1_takeSum : tw_wV RX1 87 mX1_takeSum := ⟨List.mem_of_getElem? (i := 1024) (by decide +kernel), List.mem_of_getElem? (i := 1026) (by decide +kernel), List.mem_of_getElem? (i := 15) (by decide +kernel), List.mem_of_getElem? (i := 132) (by decide +kernel), List.mem_of_getElem? (i := 1027) (by decide +kernel)⟩
theorem wv_RX1_83_X1_takeFlag : tw_wV RX1 83 mX1_takeFlag := ⟨List.mem_of_getElem? (i := 1013) (by decide +kernel), List.mem_of_getElem? (i := 1015) (by decide +kernel), List.mem_of_getElem? (i := 13) (by decide +kernel), List.mem_of_getElem? (i := 132) (by decide +kernel), List.mem_of_getElem? (i := 1016) (by decide +kernel)⟩
theorem wv_RX1_50_X1_takeCondition : tw_wV RX1 50 mX1_takeCondition := ⟨List.mem_of_getElem? (i := 998) (by decide +kernel), List.mem_of_getElem? (i := 1000) (by decide +kernel), List.mem_of_getElem? (i := 11) (by decide +kernel), List.mem_of_getElem? (i := 132) (by decide +kernel), List.mem_of_getElem? (i := 1001) (by decide +kernel)⟩
theorem ks_RX1_77 : Cond.stringRef RX1 77 "not" ∈ lw_tbl := List.mem_of_getElem? (i := 1006) (by decide +kernel)
set_option maxRecDepth 20000 in
theorem K_X1_takeAtom {g : tw_Gx} {dr : Nat} (rR : Nat → Int32 → (Int32 → tw_Mem → Prop) → tw_Mem → Prop) (hR : ∀ (Q : tw_Rs → tw_Mem → Prop) (b0 : Nat) (b1 : Int32), tw_Kt g mX1_takeCondition dr 0 0 [.ref b0, .int b1] Q (rR b0 b1 (fun v => Q (.inl (some (.int v)))))) (Q : tw_Rs → tw_Mem → Prop) (a0 : Nat) (a1 : Int32) : tw_Kt g mX1_takeAtom (dr + 8) 0 0 [.ref a0, .int a1] Q (f_X1_takeAtom g rR a0 a1 (fun v => Q (.inl (some (.int v))))) := by
  refine tw_mkK (L := [some (.ref a0), some (.int a1), none, none, none]) mo_X1_takeAtom dk_X1_takeAtom rfl (Nat.le_of_ble_eq_true rfl) rfl ?_
  unfold f_X1_takeAtom
  refine tw_iload_n (k := 0) rfl rfl ?_
  refine tw_ist_n (k := 1) [some (.ref a0), some (.int a1), some (.int a1), none, none] rfl (Nat.le_of_ble_eq_true rfl) rfl rfl ?_
  refine tw_loop (fun s2 => [some (.ref a0), some (.int a1), some (.int s2), none, none]) (fun s2 => []) (fun r1 h1 s2 => ?_) _ rfl rfl
  refine tw_iload_n (k := 2) rfl rfl ?_
  refine tw_bipush (k := 3) (6 : Int32) rfl (by decide) ?_
  refine tw_join 23 (fun s4 => [some (.ref a0), some (.int a1), some (.int s2), none, none]) (fun s4 => []) 0 0 (fun s4 => ?_) (fun j3 g3 => ?_)
  · refine tw_iload_n (k := 11) rfl rfl ?_
    refine tw_bipush (k := 12) (6 : Int32) rfl (by decide) ?_
    refine tw_join 150 (fun s6 => [some (.ref a0), some (.int a1), some (.int s2), some (.int s6), none]) (fun s6 => []) 0 0 (fun s6 => ?_) (fun j5 g5 => ?_)
    · refine tw_iload_n (k := 74) rfl rfl ?_
      refine tw_ist (k := 75) [some (.ref a0), some (.int a1), some (.int s2), some (.int s6), some (.int a1)] rfl (Nat.le_of_ble_eq_true rfl) rfl rfl ?_
      refine tw_loop (fun s8 => [some (.ref a0), some (.int a1), some (.int s2), some (.int s6), some (.int s8)]) (fun s8 => []) (fun r7 h7 s8 => ?_) _ rfl rfl
      refine tw_iload (k := 76) rfl rfl ?_
      refine tw_iload_n (k := 77) rfl rfl ?_
      refine tw_icmp_ge (k := 78) 171 rfl (by decide) ?_ ?_
      · refine tw_iload_n (k := 84) rfl rfl ?_
        exact tw_zreturn (k := 85) rfl rfl (by decide) (by decide)
      · refine tw_aload_n (k := 79) rfl rfl ?_
        refine tw_bipush (k := 80) (21 : Int32) rfl (by decide) ?_
        refine tw_callV (k := 81) (d' := 1) (mc' := 0) (ms' := 0) tw_cU tw_cUi [.int (21 : Int32)] rfl rfl wv_RX1_67_X1_addStep mo_X1_addStep (t := 1) rfl rfl rfl (fun Q9 => K_X1_addStep Q9 a0 (21 : Int32)) (by omega) (by decide) (by decide) (Nat.le_of_ble_eq_true rfl) (fun u9 => ?_)
        refine tw_inc (k := 82) (1 : Int32) [some (.ref a0), some (.int a1), some (.int s2), some (.int s6), some (.int (s8 + (1 : Int32)))] rfl rfl (by decide) (Nat.le_of_ble_eq_true rfl) rfl rfl ?_
        refine tw_goto (k := 83) 153 rfl (by decide) ?_
        exact h7 (s8 + (1 : Int32))
    · refine tw_join 66 (fun s11 => [some (.ref a0), some (.int a1), some (.int s2), none, none]) (fun s11 => []) 0 0 (fun s11 => ?_) (fun j10 g10 => ?_)
      · refine tw_aload_n (k := 33) rfl rfl ?_
        refine tw_callV (k := 34) (d' := 6) (mc' := 0) (ms' := 0) tw_cI tw_cIi [] rfl rfl wv_RX1_83_X1_takeFlag mo_X1_takeFlag (t := 1) rfl rfl rfl (fun Q9 => K_X1_takeFlag Q9 a0) (by omega) (by decide) (by decide) (Nat.le_of_ble_eq_true rfl) (fun x12 => ?_)
        refine tw_if_eq (k := 35) 78 rfl (by decide) ?_ ?_
        · refine tw_aload_n (k := 39) rfl rfl ?_
          refine tw_callV (k := 40) (d' := 7) (mc' := 0) (ms' := 0) tw_cI tw_cIi [] rfl rfl wv_RX1_87_X1_takeSum mo_X1_takeSum (t := 1) rfl rfl rfl (fun Q9 => K_X1_takeSum Q9 a0) (by omega) (by decide) (by decide) (Nat.le_of_ble_eq_true rfl) (fun x13 => ?_)
          refine tw_ist_n (k := 41) [some (.ref a0), some (.int a1), some (.int s2), some (.int x13), none] rfl (Nat.le_of_ble_eq_true rfl) rfl rfl ?_
          refine tw_iload_n (k := 42) rfl rfl ?_
          refine tw_join 101 (fun s15 => [some (.ref a0), some (.int a1), some (.int s2), some (.int x13), none]) (fun s15 => .int s15 :: []) 0 0 (fun s15 => ?_) (fun j14 g14 => ?_)
          · refine tw_ist (k := 51) [some (.ref a0), some (.int a1), some (.int s2), some (.int x13), some (.int s15)] rfl (Nat.le_of_ble_eq_true rfl) rfl rfl ?_
            refine tw_iload_n (k := 52) rfl rfl ?_
            refine tw_join 133 (fun s17 => [some (.ref a0), some (.int a1), some (.int s2), some (.int x13), some (.int s15)]) (fun s17 => .int s17 :: []) 0 0 (fun s17 => ?_) (fun j16 g16 => ?_)
            · refine tw_ist_n (k := 66) [some (.ref a0), some (.int a1), some (.int s2), some (.int s17), some (.int s15)] rfl (Nat.le_of_ble_eq_true rfl) rfl rfl ?_
              refine tw_aload_n (k := 67) rfl rfl ?_
              refine tw_iload (k := 68) rfl rfl ?_
              refine tw_join 147 (fun s19 => [some (.ref a0), some (.int a1), some (.int s2), some (.int s17), some (.int s15)]) (fun s19 => .int s19 :: .ref a0 :: []) 0 0 (fun s19 => ?_) (fun j18 g18 => ?_)
              · refine tw_callV (k := 73) (d' := 1) (mc' := 0) (ms' := 0) tw_cU tw_cUi [.int s19] rfl rfl wv_RX1_67_X1_addStep mo_X1_addStep (t := 1) rfl rfl rfl (fun Q9 => K_X1_addStep Q9 a0 s19) (by omega) (by decide) (by decide) (Nat.le_of_ble_eq_true rfl) (fun u20 => ?_)
                exact tw_wk (L' := [some (.ref a0), some (.int a1), some (.int s2), some (.int s17), none]) ⟨Or.inr rfl, Or.inr rfl, Or.inr rfl, Or.inr rfl, Or.inl rfl, trivial⟩ (g5 s17)
              · refine tw_if_eq (k := 69) 145 rfl (by decide) ?_ ?_
                · refine tw_bipush (k := 72) (18 : Int32) rfl (by decide) ?_
                  exact g18 (18 : Int32)
                · refine tw_bipush (k := 70) (17 : Int32) rfl (by decide) ?_
                  refine tw_goto (k := 71) 147 rfl (by decide) ?_
                  exact g18 (17 : Int32)
            · refine tw_join 132 (fun s22 => [some (.ref a0), some (.int a1), some (.int s2), some (.int x13), some (.int s15)]) (fun s22 => []) 0 0 (fun s22 => ?_) (fun j21 g21 => ?_)
              · refine tw_iconst (k := 65) (0 : Int32) rfl (by decide) ?_
                exact g16 (0 : Int32)
              · refine tw_if_eq (k := 53) 132 rfl (by decide) ?_ ?_
                · exact g21 ()
                · refine tw_iload (k := 54) rfl rfl ?_
                  refine tw_join 121 (fun s24 => [some (.ref a0), some (.int a1), some (.int s2), some (.int x13), some (.int s15)]) (fun s24 => []) 0 0 (fun s24 => ?_) (fun j23 g23 => ?_)
                  · refine tw_aload_n (k := 60) rfl rfl ?_
                    refine tw_callV (k := 61) (d' := 7) (mc' := 0) (ms' := 0) tw_cI tw_cIi [] rfl rfl wv_RX1_87_X1_takeSum mo_X1_takeSum (t := 1) rfl rfl rfl (fun Q9 => K_X1_takeSum Q9 a0) (by omega) (by decide) (by decide) (Nat.le_of_ble_eq_true rfl) (fun x25 => ?_)
                    refine tw_if_eq (k := 62) 132 rfl (by decide) ?_ ?_
                    · exact g21 ()
                    · refine tw_iconst (k := 63) (1 : Int32) rfl (by decide) ?_
                      refine tw_goto (k := 64) 133 rfl (by decide) ?_
                      exact g16 (1 : Int32)
                  · refine tw_if_ne (k := 55) 121 rfl (by decide) ?_ ?_
                    · exact g23 ()
                    · refine tw_aload_n (k := 56) rfl rfl ?_
                      refine tw_bipush (k := 57) (62 : Int32) rfl (by decide) ?_
                      refine tw_callU (k := 58) (d' := 1) (mc' := 0) (ms' := 0) tw_cI tw_cIi [.int (62 : Int32)] rfl rfl (t := 1) rfl wu_RX1_79_X7_takeSign_1 mo_X7_takeSign (by decide +kernel) rfl (fun Q9 => K_X7_takeSign Q9 a0 (62 : Int32)) (by omega) (by decide) (by decide) (Nat.le_of_ble_eq_true rfl) (fun x26 => ?_)
                      refine tw_if_eq (k := 59) 132 rfl (by decide) ?_ ?_
                      · exact g21 ()
                      · exact g23 ()
          · refine tw_join 100 (fun s28 => [some (.ref a0), some (.int a1), some (.int s2), some (.int x13), none]) (fun s28 => []) 0 0 (fun s28 => ?_) (fun j27 g27 => ?_)
            · refine tw_iconst (k := 50) (0 : Int32) rfl (by decide) ?_
              exact g14 (0 : Int32)
            · refine tw_if_eq (k := 43) 100 rfl (by decide) ?_ ?_
              · exact g27 ()
              · refine tw_aload_n (k := 44) rfl rfl ?_
                refine tw_bipush (k := 45) (60 : Int32) rfl (by decide) ?_
                refine tw_callU (k := 46) (d' := 1) (mc' := 0) (ms' := 0) tw_cI tw_cIi [.int (60 : Int32)] rfl rfl (t := 1) rfl wu_RX1_79_X7_takeSign_1 mo_X7_takeSign (by decide +kernel) rfl (fun Q9 => K_X7_takeSign Q9 a0 (60 : Int32)) (by omega) (by decide) (by decide) (Nat.le_of_ble_eq_true rfl) (fun x29 => ?_)
                refine tw_if_eq (k := 47) 100 rfl (by decide) ?_ ?_
                · exact g27 ()
                · refine tw_iconst (k := 48) (1 : Int32) rfl (by decide) ?_
                  refine tw_goto (k := 49) 101 rfl (by decide) ?_
                  exact g14 (1 : Int32)
        · refine tw_iconst (k := 36) (1 : Int32) rfl (by decide) ?_
          refine tw_ist_n (k := 37) [some (.ref a0), some (.int a1), some (.int s2), some (.int (1 : Int32)), none] rfl (Nat.le_of_ble_eq_true rfl) rfl rfl ?_
          refine tw_goto (k := 38) 150 rfl (by decide) ?_
          exact g5 (1 : Int32)
      · refine tw_icmp_ge (k := 13) 66 rfl (by decide) ?_ ?_
        · exact g10 ()
        · refine tw_aload_n (k := 14) rfl rfl ?_
          refine tw_bipush (k := 15) (40 : Int32) rfl (by decide) ?_
          refine tw_callU (k := 16) (d' := 1) (mc' := 0) (ms' := 0) tw_cI tw_cIi [.int (40 : Int32)] rfl rfl (t := 1) rfl wu_RX1_79_X7_takeSign_1 mo_X7_takeSign (by decide +kernel) rfl (fun Q9 => K_X7_takeSign Q9 a0 (40 : Int32)) (by omega) (by decide) (by decide) (Nat.le_of_ble_eq_true rfl) (fun x30 => ?_)
          refine tw_if_eq (k := 17) 66 rfl (by decide) ?_ ?_
          · exact g10 ()
          · refine tw_aload_n (k := 18) rfl rfl ?_
            refine tw_iload_n (k := 19) rfl rfl ?_
            refine tw_iconst (k := 20) (1 : Int32) rfl (by decide) ?_
            refine tw_iadd (k := 21) rfl ?_
            refine tw_callV (k := 22) (d' := dr) (mc' := 0) (ms' := 0) tw_cI tw_cIi [.int (s2 + (1 : Int32))] rfl rfl wv_RX1_50_X1_takeCondition mo_X1_takeCondition (t := 1) rfl rfl rfl (fun Q9 => hR Q9 a0 (s2 + (1 : Int32))) (by omega) (by decide) (by decide) (Nat.le_of_ble_eq_true rfl) (fun x31 => ?_)
            refine tw_join 62 (fun s33 => [some (.ref a0), some (.int a1), some (.int s2), none, none]) (fun s33 => .int s33 :: []) 0 0 (fun s33 => ?_) (fun j32 g32 => ?_)
            · refine tw_ist_n (k := 31) [some (.ref a0), some (.int a1), some (.int s2), some (.int s33), none] rfl (Nat.le_of_ble_eq_true rfl) rfl rfl ?_
              refine tw_goto (k := 32) 150 rfl (by decide) ?_
              exact g5 s33
            · refine tw_join 61 (fun s35 => [some (.ref a0), some (.int a1), some (.int s2), none, none]) (fun s35 => []) 0 0 (fun s35 => ?_) (fun j34 g34 => ?_)
              · refine tw_iconst (k := 30) (0 : Int32) rfl (by decide) ?_
                exact g32 (0 : Int32)
              · refine tw_if_eq (k := 23) 61 rfl (by decide) ?_ ?_
                · exact g34 ()
                · refine tw_aload_n (k := 24) rfl rfl ?_
                  refine tw_bipush (k := 25) (41 : Int32) rfl (by decide) ?_
                  refine tw_callU (k := 26) (d' := 1) (mc' := 0) (ms' := 0) tw_cI tw_cIi [.int (41 : Int32)] rfl rfl (t := 1) rfl wu_RX1_79_X7_takeSign_1 mo_X7_takeSign (by decide +kernel) rfl (fun Q9 => K_X7_takeSign Q9 a0 (41 : Int32)) (by omega) (by decide) (by decide) (Nat.le_of_ble_eq_true rfl) (fun x36 => ?_)
                  refine tw_if_eq (k := 27) 61 rfl (by decide) ?_ ?_
                  · exact g34 ()
                  · refine tw_iconst (k := 28) (1 : Int32) rfl (by decide) ?_
                    refine tw_goto (k := 29) 62 rfl (by decide) ?_
                    exact g32 (1 : Int32)
  · refine tw_icmp_ge (k := 4) 23 rfl (by decide) ?_ ?_
    · exact g3 ()
    · refine tw_aload_n (k := 5) rfl rfl ?_
      refine tw_ldcS (k := 6) rfl ks_RX1_77 (fun t37 => ?_)
      refine tw_callU (k := 7) (d' := 5) (mc' := 0) (ms' := 0) tw_cI tw_cIi [.ref t37] rfl rfl (t := 1) rfl wu_RX1_46_X7_takeWord_1 mo_X7_takeWord (by decide +kernel) rfl (fun Q9 => K_X7_takeWord Q9 a0 t37) (by omega) (by decide) (by decide) (Nat.le_of_ble_eq_true rfl) (fun x38 => ?_)
      refine tw_if_eq (k := 8) 23 rfl (by decide) ?_ ?_
      · exact g3 ()
      · refine tw_inc (k := 9) (1 : Int32) [some (.ref a0), some (.int a1), some (.int (s2 + (1 : Int32))), none, none] rfl rfl (by decide) (Nat.le_of_ble_eq_true rfl) rfl rfl ?_
        refine tw_goto (k := 10) 2 rfl (by decide) ?_
        exact h1 (s2 + (1 : Int32))
theorem wv_RX1_73_X1_addStepIf : tw_wV RX1 73 mX1_addStepIf := ⟨List.mem_of_getElem? (i := 1040) (by decide +kernel), List.mem_of_getElem? (i := 1042) (by decide +kernel), List.mem_of_getElem? (i := 17) (by decide +kernel), List.mem_of_getElem? (i := 132) (by decide +kernel), List.mem_of_getElem? (i := 1043) (by decide +kernel)⟩
theorem ks_RX1_65 : Cond.stringRef RX1 65 "and" ∈ lw_tbl := List.mem_of_getElem? (i := 1038) (by decide +kernel)
theorem ks_RX1_71 : Cond.stringRef RX1 71 "or" ∈ lw_tbl := List.mem_of_getElem? (i := 1039) (by decide +kernel)
theorem wv_RX1_62_X1_takeAtom : tw_wV RX1 62 mX1_takeAtom := ⟨List.mem_of_getElem? (i := 1002) (by decide +kernel), List.mem_of_getElem? (i := 1004) (by decide +kernel), List.mem_of_getElem? (i := 12) (by decide +kernel), List.mem_of_getElem? (i := 132) (by decide +kernel), List.mem_of_getElem? (i := 1005) (by decide +kernel)⟩
set_option maxRecDepth 20000 in
theorem K_X1_takeCondition {g : tw_Gx} {dr : Nat} (rR : Nat → Int32 → (Int32 → tw_Mem → Prop) → tw_Mem → Prop) (hR : ∀ (Q : tw_Rs → tw_Mem → Prop) (b0 : Nat) (b1 : Int32), tw_Kt g mX1_takeCondition dr 0 0 [.ref b0, .int b1] Q (rR b0 b1 (fun v => Q (.inl (some (.int v)))))) (Q : tw_Rs → tw_Mem → Prop) (a0 : Nat) (a1 : Int32) : tw_Kt g mX1_takeCondition (dr + 9) 0 0 [.ref a0, .int a1] Q (f_X1_takeCondition g rR a0 a1 (fun v => Q (.inl (some (.int v))))) := by
  refine tw_mkK (L := [some (.ref a0), some (.int a1), none, none, none]) mo_X1_takeCondition dk_X1_takeCondition rfl (Nat.le_of_ble_eq_true rfl) rfl ?_
  unfold f_X1_takeCondition
  refine tw_aload_n (k := 0) rfl rfl ?_
  refine tw_iload_n (k := 1) rfl rfl ?_
  refine tw_callV (k := 2) (d' := (dr + 8)) (mc' := 0) (ms' := 0) tw_cI tw_cIi [.int a1] rfl rfl wv_RX1_62_X1_takeAtom mo_X1_takeAtom (t := 1) rfl rfl rfl (fun Q9 => K_X1_takeAtom rR hR Q9 a0 a1) (by omega) (by decide) (by decide) (Nat.le_of_ble_eq_true rfl) (fun x1 => ?_)
  refine tw_ist_n (k := 3) [some (.ref a0), some (.int a1), some (.int x1), none, none] rfl (Nat.le_of_ble_eq_true rfl) rfl rfl ?_
  refine tw_iconst (k := 4) (0 : Int32) rfl (by decide) ?_
  refine tw_ist_n (k := 5) [some (.ref a0), some (.int a1), some (.int x1), some (.int (0 : Int32)), none] rfl (Nat.le_of_ble_eq_true rfl) rfl rfl ?_
  refine tw_iconst (k := 6) (0 : Int32) rfl (by decide) ?_
  refine tw_ist (k := 7) [some (.ref a0), some (.int a1), some (.int x1), some (.int (0 : Int32)), some (.int (0 : Int32))] rfl (Nat.le_of_ble_eq_true rfl) rfl rfl ?_
  refine tw_loop (fun s3 => [some (.ref a0), some (.int a1), some (.int s3.1), some (.int s3.2.1), some (.int s3.2.2)]) (fun s3 => []) (fun r2 h2 s3 => ?_) _ rfl rfl
  refine tw_iload_n (k := 8) rfl rfl ?_
  refine tw_join 77 (fun s5 => [some (.ref a0), some (.int a1), some (.int s3.1), some (.int s3.2.1), some (.int s3.2.2)]) (fun s5 => []) 0 0 (fun s5 => ?_) (fun j4 g4 => ?_)
  · refine tw_aload_n (k := 41) rfl rfl ?_
    refine tw_iload_n (k := 42) rfl rfl ?_
    refine tw_bipush (k := 43) (20 : Int32) rfl (by decide) ?_
    refine tw_callV (k := 44) (d' := 2) (mc' := 0) (ms' := 0) tw_cU tw_cUi [.int s3.2.1, .int (20 : Int32)] rfl rfl wv_RX1_73_X1_addStepIf mo_X1_addStepIf (t := 1) rfl rfl rfl (fun Q9 => K_X1_addStepIf Q9 a0 s3.2.1 (20 : Int32)) (by omega) (by decide) (by decide) (Nat.le_of_ble_eq_true rfl) (fun u6 => ?_)
    refine tw_iload_n (k := 45) rfl rfl ?_
    exact tw_zreturn (k := 46) rfl rfl (by decide) (by decide)
  · refine tw_if_eq (k := 9) 77 rfl (by decide) ?_ ?_
    · exact g4 ()
    · refine tw_iload (k := 10) rfl rfl ?_
      refine tw_sipush (k := 11) (400 : Int32) rfl (by decide) ?_
      refine tw_icmp_ge (k := 12) 77 rfl (by decide) ?_ ?_
      · exact g4 ()
      · refine tw_aload_n (k := 13) rfl rfl ?_
        refine tw_ldcS (k := 14) rfl ks_RX1_65 (fun t7 => ?_)
        refine tw_callU (k := 15) (d' := 5) (mc' := 0) (ms' := 0) tw_cI tw_cIi [.ref t7] rfl rfl (t := 1) rfl wu_RX1_46_X7_takeWord_1 mo_X7_takeWord (by decide +kernel) rfl (fun Q9 => K_X7_takeWord Q9 a0 t7) (by omega) (by decide) (by decide) (Nat.le_of_ble_eq_true rfl) (fun x8 => ?_)
        refine tw_join 71 (fun s10 => [some (.ref a0), some (.int a1), some (.int s10.1), some (.int s10.2), some (.int s3.2.2)]) (fun s10 => []) 0 0 (fun s10 => ?_) (fun j9 g9 => ?_)
        · refine tw_inc (k := 39) (1 : Int32) [some (.ref a0), some (.int a1), some (.int s10.1), some (.int s10.2), some (.int (s3.2.2 + (1 : Int32)))] rfl rfl (by decide) (Nat.le_of_ble_eq_true rfl) rfl rfl ?_
          refine tw_goto (k := 40) 11 rfl (by decide) ?_
          exact h2 (s10.1, s10.2, s3.2.2 + (1 : Int32))
        · refine tw_if_eq (k := 16) 47 rfl (by decide) ?_ ?_
          · refine tw_aload_n (k := 25) rfl rfl ?_
            refine tw_ldcS (k := 26) rfl ks_RX1_71 (fun t11 => ?_)
            refine tw_callU (k := 27) (d' := 5) (mc' := 0) (ms' := 0) tw_cI tw_cIi [.ref t11] rfl rfl (t := 1) rfl wu_RX1_46_X7_takeWord_1 mo_X7_takeWord (by decide +kernel) rfl (fun Q9 => K_X7_takeWord Q9 a0 t11) (by omega) (by decide) (by decide) (Nat.le_of_ble_eq_true rfl) (fun x12 => ?_)
            refine tw_if_eq (k := 28) 77 rfl (by decide) ?_ ?_
            · exact g4 ()
            · refine tw_aload_n (k := 29) rfl rfl ?_
              refine tw_iload_n (k := 30) rfl rfl ?_
              refine tw_bipush (k := 31) (20 : Int32) rfl (by decide) ?_
              refine tw_callV (k := 32) (d' := 2) (mc' := 0) (ms' := 0) tw_cU tw_cUi [.int s3.2.1, .int (20 : Int32)] rfl rfl wv_RX1_73_X1_addStepIf mo_X1_addStepIf (t := 1) rfl rfl rfl (fun Q9 => K_X1_addStepIf Q9 a0 s3.2.1 (20 : Int32)) (by omega) (by decide) (by decide) (Nat.le_of_ble_eq_true rfl) (fun u13 => ?_)
              refine tw_iconst (k := 33) (1 : Int32) rfl (by decide) ?_
              refine tw_ist_n (k := 34) [some (.ref a0), some (.int a1), some (.int s3.1), some (.int (1 : Int32)), some (.int s3.2.2)] rfl (Nat.le_of_ble_eq_true rfl) rfl rfl ?_
              refine tw_aload_n (k := 35) rfl rfl ?_
              refine tw_iload_n (k := 36) rfl rfl ?_
              refine tw_callV (k := 37) (d' := (dr + 8)) (mc' := 0) (ms' := 0) tw_cI tw_cIi [.int a1] rfl rfl wv_RX1_62_X1_takeAtom mo_X1_takeAtom (t := 1) rfl rfl rfl (fun Q9 => K_X1_takeAtom rR hR Q9 a0 a1) (by omega) (by decide) (by decide) (Nat.le_of_ble_eq_true rfl) (fun x14 => ?_)
              refine tw_ist_n (k := 38) [some (.ref a0), some (.int a1), some (.int x14), some (.int (1 : Int32)), some (.int s3.2.2)] rfl (Nat.le_of_ble_eq_true rfl) rfl rfl ?_
              exact g9 (x14, (1 : Int32))
          · refine tw_aload_n (k := 17) rfl rfl ?_
            refine tw_iload_n (k := 18) rfl rfl ?_
            refine tw_callV (k := 19) (d' := (dr + 8)) (mc' := 0) (ms' := 0) tw_cI tw_cIi [.int a1] rfl rfl wv_RX1_62_X1_takeAtom mo_X1_takeAtom (t := 1) rfl rfl rfl (fun Q9 => K_X1_takeAtom rR hR Q9 a0 a1) (by omega) (by decide) (by decide) (Nat.le_of_ble_eq_true rfl) (fun x15 => ?_)
            refine tw_ist_n (k := 20) [some (.ref a0), some (.int a1), some (.int x15), some (.int s3.2.1), some (.int s3.2.2)] rfl (Nat.le_of_ble_eq_true rfl) rfl rfl ?_
            refine tw_aload_n (k := 21) rfl rfl ?_
            refine tw_bipush (k := 22) (19 : Int32) rfl (by decide) ?_
            refine tw_callV (k := 23) (d' := 1) (mc' := 0) (ms' := 0) tw_cU tw_cUi [.int (19 : Int32)] rfl rfl wv_RX1_67_X1_addStep mo_X1_addStep (t := 1) rfl rfl rfl (fun Q9 => K_X1_addStep Q9 a0 (19 : Int32)) (by omega) (by decide) (by decide) (Nat.le_of_ble_eq_true rfl) (fun u16 => ?_)
            refine tw_goto (k := 24) 71 rfl (by decide) ?_
            exact g9 (x15, s3.2.1)
theorem KN_X1_takeCondition {g : tw_Gx} : ∀ (n : Nat) (Q : tw_Rs → tw_Mem → Prop) (b0 : Nat) (b1 : Int32), tw_Kt g mX1_takeCondition (9 * n) 0 0 [.ref b0, .int b1] Q (fN_X1_takeCondition g n b0 b1 (fun v => Q (.inl (some (.int v)))))
  | 0, Q, b0, b1 => fun _ M h => h.elim
  | n + 1, Q, b0, b1 => by
    have h := K_X1_takeCondition (fN_X1_takeCondition g n) (KN_X1_takeCondition n) Q b0 b1
    rw [Nat.mul_succ]
    exact h
def mX1_takeLine : tw_MD := (yX1_takeLine, cX1_takeLine, 3, (some FieldType.boolean), [(0, .aload_n 0, 1, 1), (1, .getfield 26, 3, 4), (4, .istore_n 1, 1, 5), (5, .aload_n 0, 1, 6), (6, .invokevirtual 33, 3, 9), (9, .istore_n 2, 1, 10), (10, .iload_n 2, 1, 11), (11, .iconst (-1), 1, 12), (12, .if_icmp .eq 23, 3, 15), (15, .iload_n 1, 1, 16), (16, .ifCond .lt 19, 3, 19), (19, .iload_n 1, 1, 20), (20, .bipush 12, 2, 22), (22, .if_icmp .ge 13, 3, 25), (25, .aload_n 0, 1, 26), (26, .iconst 0, 1, 27), (27, .bipush 30, 2, 29), (29, .invokevirtual 37, 3, 32), (32, .ifCond .ne 5, 3, 35), (35, .iconst 0, 1, 36), (36, .ireturn, 1, 37), (37, .aload_n 0, 1, 38), (38, .getfield 11, 3, 41), (41, .iload_n 1, 1, 42), (42, .iload_n 2, 1, 43), (43, .iastore, 1, 44), (44, .aload_n 0, 1, 45), (45, .getfield 15, 3, 48), (48, .iload_n 1, 1, 49), (49, .aload_n 0, 1, 50), (50, .invokevirtual 41, 3, 53), (53, .iastore, 1, 54), (54, .aload_n 0, 1, 55), (55, .ldc 44, 2, 57), (57, .invokevirtual 46, 3, 60), (60, .ifCond .eq 13, 3, 63), (63, .aload_n 0, 1, 64), (64, .iconst 0, 1, 65), (65, .invokevirtual 50, 3, 68), (68, .ifCond .ne 5, 3, 71), (71, .iconst 0, 1, 72), (72, .ireturn, 1, 73), (73, .aload_n 0, 1, 74), (74, .getfield 18, 3, 77), (77, .iload_n 1, 1, 78), (78, .aload_n 0, 1, 79), (79, .getfield 30, 3, 82), (82, .iastore, 1, 83), (83, .aload_n 0, 1, 84), (84, .iload_n 1, 1, 85), (85, .iconst 1, 1, 86), (86, .iadd, 1, 87), (87, .putfield 26, 3, 90), (90, .iconst 1, 1, 91), (91, .ireturn, 1, 92)], [])
theorem mo_X1_takeLine : tw_mok mX1_takeLine 0 := ⟨plainFor_of_name (by decide +kernel), by decide +kernel, by decide +kernel, by decide +kernel, by decide +kernel⟩
theorem dk_X1_takeLine : tw_dk mX1_takeLine := by unfold tw_dk; decide +kernel
theorem ks_RX1_44 : Cond.stringRef RX1 44 "if" ∈ lw_tbl := List.mem_of_getElem? (i := 997) (by decide +kernel)
theorem wf_X1_takeLine_26 : tw_wf mX1_takeLine 26 17 := Or.inl rfl
theorem wv_RX1_33_X1_takeKind : tw_wV RX1 33 mX1_takeKind := ⟨List.mem_of_getElem? (i := 924) (by decide +kernel), List.mem_of_getElem? (i := 926) (by decide +kernel), List.mem_of_getElem? (i := 10) (by decide +kernel), List.mem_of_getElem? (i := 132) (by decide +kernel), List.mem_of_getElem? (i := 927) (by decide +kernel)⟩
set_option maxRecDepth 20000 in
theorem K_X1_takeLine {g : tw_Gx} (Q : tw_Rs → tw_Mem → Prop) (a0 : Nat) : tw_Kt g mX1_takeLine 73 0 0 [.ref a0] Q (f_X1_takeLine g a0 (fun v => Q (.inl (some (.int v))))) := by
  refine tw_mkK (L := [some (.ref a0), none, none]) mo_X1_takeLine dk_X1_takeLine rfl (Nat.le_of_ble_eq_true rfl) rfl ?_
  unfold f_X1_takeLine
  refine tw_aload_n (k := 0) rfl rfl ?_
  refine tw_getI (k := 1) rfl fl_RX1_26 (fun x1 => ?_)
  refine tw_ist_n (k := 2) [some (.ref a0), some (.int x1), none] rfl (Nat.le_of_ble_eq_true rfl) rfl rfl ?_
  refine tw_aload_n (k := 3) rfl rfl ?_
  refine tw_callV (k := 4) (d' := 6) (mc' := 0) (ms' := 0) tw_cI tw_cIi [] rfl rfl wv_RX1_33_X1_takeKind mo_X1_takeKind (t := 1) rfl rfl rfl (fun Q9 => K_X1_takeKind Q9 a0) (by omega) (by decide) (by decide) (Nat.le_of_ble_eq_true rfl) (fun x2 => ?_)
  refine tw_ist_n (k := 5) [some (.ref a0), some (.int x1), some (.int x2)] rfl (Nat.le_of_ble_eq_true rfl) rfl rfl ?_
  refine tw_iload_n (k := 6) rfl rfl ?_
  refine tw_iconst (k := 7) (-1 : Int32) rfl (by decide) ?_
  refine tw_icmp_eq (k := 8) 35 rfl (by decide) ?_ ?_
  · refine tw_iconst (k := 19) (0 : Int32) rfl (by decide) ?_
    exact tw_zreturn (k := 20) rfl rfl (by decide) (by decide)
  · refine tw_iload_n (k := 9) rfl rfl ?_
    refine tw_if_lt (k := 10) 35 rfl (by decide) ?_ ?_
    · refine tw_iconst (k := 19) (0 : Int32) rfl (by decide) ?_
      exact tw_zreturn (k := 20) rfl rfl (by decide) (by decide)
    · refine tw_iload_n (k := 11) rfl rfl ?_
      refine tw_bipush (k := 12) (12 : Int32) rfl (by decide) ?_
      refine tw_icmp_ge (k := 13) 35 rfl (by decide) ?_ ?_
      · refine tw_iconst (k := 19) (0 : Int32) rfl (by decide) ?_
        exact tw_zreturn (k := 20) rfl rfl (by decide) (by decide)
      · refine tw_aload_n (k := 14) rfl rfl ?_
        refine tw_iconst (k := 15) (0 : Int32) rfl (by decide) ?_
        refine tw_bipush (k := 16) (30 : Int32) rfl (by decide) ?_
        refine tw_callU (k := 17) (d' := 1) (mc' := 0) (ms' := 0) tw_cI tw_cIi [.int (0 : Int32), .int (30 : Int32)] rfl rfl (t := 1) rfl wu_RX1_37_X7_takeNumber_1 mo_X7_takeNumber (by decide +kernel) rfl (fun Q9 => K_X7_takeNumber Q9 a0 (0 : Int32) (30 : Int32)) (by omega) (by decide) (by decide) (Nat.le_of_ble_eq_true rfl) (fun x3 => ?_)
        refine tw_if_ne (k := 18) 37 rfl (by decide) ?_ ?_
        · refine tw_aload_n (k := 21) rfl rfl ?_
          refine tw_getR (k := 22) rfl fl_RX1_11 (fun x4 => ?_)
          refine tw_iload_n (k := 23) rfl rfl ?_
          refine tw_iload_n (k := 24) rfl rfl ?_
          refine tw_iastore (k := 25) rfl ?_
          refine tw_aload_n (k := 26) rfl rfl ?_
          refine tw_getR (k := 27) rfl fl_RX1_15 (fun x5 => ?_)
          refine tw_iload_n (k := 28) rfl rfl ?_
          refine tw_aload_n (k := 29) rfl rfl ?_
          refine tw_callU (k := 30) (d' := 1) (mc' := 0) (ms' := 0) tw_cI tw_cIi [] rfl rfl (t := 1) rfl wu_RX1_41_X7_lastTaken_1 mo_X7_lastTaken (by decide +kernel) rfl (fun Q9 => K_X7_lastTaken Q9 a0) (by omega) (by decide) (by decide) (Nat.le_of_ble_eq_true rfl) (fun x6 => ?_)
          refine tw_iastore (k := 31) rfl ?_
          refine tw_aload_n (k := 32) rfl rfl ?_
          refine tw_ldcS (k := 33) rfl ks_RX1_44 (fun t7 => ?_)
          refine tw_callU (k := 34) (d' := 5) (mc' := 0) (ms' := 0) tw_cI tw_cIi [.ref t7] rfl rfl (t := 1) rfl wu_RX1_46_X7_takeWord_1 mo_X7_takeWord (by decide +kernel) rfl (fun Q9 => K_X7_takeWord Q9 a0 t7) (by omega) (by decide) (by decide) (Nat.le_of_ble_eq_true rfl) (fun x8 => ?_)
          refine tw_join 73 (fun s10 => [some (.ref a0), some (.int x1), some (.int x2)]) (fun s10 => []) 0 0 (fun s10 => ?_) (fun j9 g9 => ?_)
          · refine tw_aload_n (k := 42) rfl rfl ?_
            refine tw_getR (k := 43) rfl fl_RX1_18 (fun x11 => ?_)
            refine tw_iload_n (k := 44) rfl rfl ?_
            refine tw_aload_n (k := 45) rfl rfl ?_
            refine tw_getI (k := 46) rfl fl_RX1_30 (fun x12 => ?_)
            refine tw_iastore (k := 47) rfl ?_
            refine tw_aload_n (k := 48) rfl rfl ?_
            refine tw_iload_n (k := 49) rfl rfl ?_
            refine tw_iconst (k := 50) (1 : Int32) rfl (by decide) ?_
            refine tw_iadd (k := 51) rfl ?_
            refine tw_putI (k := 52) rfl fl_RX1_26 wf_X1_takeLine_26 (by decide +kernel) ?_
            refine tw_iconst (k := 53) (1 : Int32) rfl (by decide) ?_
            exact tw_zreturn (k := 54) rfl rfl (by decide) (by decide)
          · refine tw_if_eq (k := 35) 73 rfl (by decide) ?_ ?_
            · exact g9 ()
            · refine tw_aload_n (k := 36) rfl rfl ?_
              refine tw_iconst (k := 37) (0 : Int32) rfl (by decide) ?_
              refine tw_callV (k := 38) (d' := (9 * 8)) (mc' := 0) (ms' := 0) tw_cI tw_cIi [.int (0 : Int32)] rfl rfl wv_RX1_50_X1_takeCondition mo_X1_takeCondition (t := 1) rfl rfl rfl (fun Q9 => KN_X1_takeCondition 8 Q9 a0 (0 : Int32)) (by omega) (by decide) (by decide) (Nat.le_of_ble_eq_true rfl) (fun x13 => ?_)
              refine tw_if_ne (k := 39) 73 rfl (by decide) ?_ ?_
              · exact g9 ()
              · refine tw_iconst (k := 40) (0 : Int32) rfl (by decide) ?_
                exact tw_zreturn (k := 41) rfl rfl (by decide) (by decide)
        · refine tw_iconst (k := 19) (0 : Int32) rfl (by decide) ?_
          exact tw_zreturn (k := 20) rfl rfl (by decide) (by decide)
def mX7_firstWrong1 : tw_MD := (yX7_firstWrong, cX7_firstWrong, 3, (some FieldType.int), [(0, .aload_n 0, 1, 1), (1, .invokevirtual 27, 3, 4), (4, .aload_n 0, 1, 5), (5, .invokevirtual 30, 3, 8), (8, .ifCond .eq 5, 3, 11), (11, .iconst (-1), 1, 12), (12, .ireturn, 1, 13), (13, .iconst 0, 1, 14), (14, .istore_n 2, 1, 15), (15, .iload_n 2, 1, 16), (16, .iload_n 1, 1, 17), (17, .if_icmp .ge 44, 3, 20), (20, .aload_n 0, 1, 21), (21, .invokevirtual 34, 3, 24), (24, .ifCond .ne 8, 3, 27), (27, .aload_n 0, 1, 28), (28, .invokevirtual 37, 3, 31), (31, .ireturn, 1, 32), (32, .aload_n 0, 1, 33), (33, .invokevirtual 30, 3, 36), (36, .ifCond .eq 5, 3, 39), (39, .iconst (-1), 1, 40), (40, .ireturn, 1, 41), (41, .aload_n 0, 1, 42), (42, .bipush 59, 2, 44), (44, .invokevirtual 41, 3, 47), (47, .ifCond .ne 8, 3, 50), (50, .aload_n 0, 1, 51), (51, .invokevirtual 37, 3, 54), (54, .ireturn, 1, 55), (55, .iinc 2 1, 3, 58), (58, .goto (-43), 3, 61), (61, .aload_n 0, 1, 62), (62, .invokevirtual 37, 3, 65), (65, .ireturn, 1, 66)], [])
theorem mo_X7_firstWrong1 : tw_mok mX7_firstWrong1 1 := ⟨plainFor_of_name (by decide +kernel), by decide +kernel, by decide +kernel, by decide +kernel, by decide +kernel⟩
theorem dk_X7_firstWrong1 : tw_dk mX7_firstWrong1 := by unfold tw_dk; decide +kernel
theorem wu_RX7_34_X1_takeLine_1 : tw_wU RX7 34 RX1 "TwinRopes$Text" ⟨"TwinRopes$Text", "takeLine", "()Z"⟩ mX1_takeLine := ⟨List.mem_of_getElem? (i := 918) (by decide +kernel), List.mem_of_getElem? (i := 922) (by decide +kernel), List.mem_of_getElem? (i := 921) (by decide +kernel), List.mem_of_getElem? (i := 132) (by decide +kernel), List.mem_of_getElem? (i := 923) (by decide +kernel), List.mem_of_getElem? (i := 920) (by decide +kernel), List.mem_of_getElem? (i := 919) (by decide +kernel), by decide, by decide⟩
set_option maxRecDepth 20000 in
theorem K_X7_firstWrong1 {g : tw_Gx} (Q : tw_Rs → tw_Mem → Prop) (a0 : Nat) (a1 : Int32) : tw_Kt g mX7_firstWrong1 74 0 0 [.ref a0, .int a1] Q (f_X7_firstWrong1 g a0 a1 (fun v => Q (.inl (some (.int v))))) := by
  refine tw_mkK (L := [some (.ref a0), some (.int a1), none]) mo_X7_firstWrong1 dk_X7_firstWrong1 rfl (Nat.le_of_ble_eq_true rfl) rfl ?_
  unfold f_X7_firstWrong1
  refine tw_aload_n (k := 0) rfl rfl ?_
  refine tw_callT (k := 1) (d' := 4) (mc' := 0) (ms' := 0) tw_cU tw_cUi [] rfl rfl wt_RX7_27_X7_split mo_X7_split rfl rfl (fun Q9 => K_X7_split Q9 a0) (by omega) (by decide) (by decide) (Nat.le_of_ble_eq_true rfl) (fun u1 => ?_)
  refine tw_aload_n (k := 2) rfl rfl ?_
  refine tw_callT (k := 3) (d' := 1) (mc' := 0) (ms' := 0) tw_cI tw_cIi [] rfl rfl wt_RX7_30_X7_isAtEnd mo_X7_isAtEnd rfl rfl (fun Q9 => K_X7_isAtEnd Q9 a0) (by omega) (by decide) (by decide) (Nat.le_of_ble_eq_true rfl) (fun x2 => ?_)
  refine tw_if_eq (k := 4) 13 rfl (by decide) ?_ ?_
  · refine tw_iconst (k := 7) (0 : Int32) rfl (by decide) ?_
    refine tw_ist_n (k := 8) [some (.ref a0), some (.int a1), some (.int (0 : Int32))] rfl (Nat.le_of_ble_eq_true rfl) rfl rfl ?_
    refine tw_loop (fun s4 => [some (.ref a0), some (.int a1), some (.int s4)]) (fun s4 => []) (fun r3 h3 s4 => ?_) _ rfl rfl
    refine tw_iload_n (k := 9) rfl rfl ?_
    refine tw_iload_n (k := 10) rfl rfl ?_
    refine tw_icmp_ge (k := 11) 61 rfl (by decide) ?_ ?_
    · refine tw_aload_n (k := 32) rfl rfl ?_
      refine tw_callT (k := 33) (d' := 1) (mc' := 0) (ms' := 0) tw_cI tw_cIi [] rfl rfl wt_RX7_37_X7_place mo_X7_place rfl rfl (fun Q9 => K_X7_place Q9 a0) (by omega) (by decide) (by decide) (Nat.le_of_ble_eq_true rfl) (fun x5 => ?_)
      exact tw_ireturn (k := 34) rfl rfl (by decide) (by decide)
    · refine tw_aload_n (k := 12) rfl rfl ?_
      refine tw_callU (k := 13) (d' := 73) (mc' := 0) (ms' := 0) tw_cI tw_cIi [] rfl rfl (t := 1) rfl wu_RX7_34_X1_takeLine_1 mo_X1_takeLine (by decide +kernel) rfl (fun Q9 => K_X1_takeLine Q9 a0) (by omega) (by decide) (by decide) (Nat.le_of_ble_eq_true rfl) (fun x6 => ?_)
      refine tw_if_ne (k := 14) 32 rfl (by decide) ?_ ?_
      · refine tw_aload_n (k := 18) rfl rfl ?_
        refine tw_callT (k := 19) (d' := 1) (mc' := 0) (ms' := 0) tw_cI tw_cIi [] rfl rfl wt_RX7_30_X7_isAtEnd mo_X7_isAtEnd rfl rfl (fun Q9 => K_X7_isAtEnd Q9 a0) (by omega) (by decide) (by decide) (Nat.le_of_ble_eq_true rfl) (fun x7 => ?_)
        refine tw_if_eq (k := 20) 41 rfl (by decide) ?_ ?_
        · refine tw_aload_n (k := 23) rfl rfl ?_
          refine tw_bipush (k := 24) (59 : Int32) rfl (by decide) ?_
          refine tw_callT (k := 25) (d' := 1) (mc' := 0) (ms' := 0) tw_cI tw_cIi [.int (59 : Int32)] rfl rfl wt_RX7_41_X7_takeSign mo_X7_takeSign rfl rfl (fun Q9 => K_X7_takeSign Q9 a0 (59 : Int32)) (by omega) (by decide) (by decide) (Nat.le_of_ble_eq_true rfl) (fun x8 => ?_)
          refine tw_if_ne (k := 26) 55 rfl (by decide) ?_ ?_
          · refine tw_inc (k := 30) (1 : Int32) [some (.ref a0), some (.int a1), some (.int (s4 + (1 : Int32)))] rfl rfl (by decide) (Nat.le_of_ble_eq_true rfl) rfl rfl ?_
            refine tw_goto (k := 31) 15 rfl (by decide) ?_
            exact h3 (s4 + (1 : Int32))
          · refine tw_aload_n (k := 27) rfl rfl ?_
            refine tw_callT (k := 28) (d' := 1) (mc' := 0) (ms' := 0) tw_cI tw_cIi [] rfl rfl wt_RX7_37_X7_place mo_X7_place rfl rfl (fun Q9 => K_X7_place Q9 a0) (by omega) (by decide) (by decide) (Nat.le_of_ble_eq_true rfl) (fun x9 => ?_)
            exact tw_ireturn (k := 29) rfl rfl (by decide) (by decide)
        · refine tw_iconst (k := 21) (-1 : Int32) rfl (by decide) ?_
          exact tw_ireturn (k := 22) rfl rfl (by decide) (by decide)
      · refine tw_aload_n (k := 15) rfl rfl ?_
        refine tw_callT (k := 16) (d' := 1) (mc' := 0) (ms' := 0) tw_cI tw_cIi [] rfl rfl wt_RX7_37_X7_place mo_X7_place rfl rfl (fun Q9 => K_X7_place Q9 a0) (by omega) (by decide) (by decide) (Nat.le_of_ble_eq_true rfl) (fun x10 => ?_)
        exact tw_ireturn (k := 17) rfl rfl (by decide) (by decide)
  · refine tw_iconst (k := 5) (-1 : Int32) rfl (by decide) ?_
    exact tw_ireturn (k := 6) rfl rfl (by decide) (by decide)
