def mX12_factOf : tw_MD := (yX12_factOf, cX12_factOf, 5, (some FieldType.int), [(0, .iload_n 1, 1, 1), (1, .tableswitch 137 0 9 #[55, 57, 60, 68, 76, 87, 94, 101, 108, 124], 55, 56), (56, .iload_n 3, 1, 57), (57, .ireturn, 1, 58), (58, .iload 4, 2, 60), (60, .ireturn, 1, 61), (61, .aload_n 0, 1, 62), (62, .iload_n 3, 1, 63), (63, .iload 4, 2, 65), (65, .invokevirtual 243, 3, 68), (68, .ireturn, 1, 69), (69, .aload_n 0, 1, 70), (70, .iload 4, 2, 72), (72, .iload_n 3, 1, 73), (73, .invokevirtual 243, 3, 76), (76, .ireturn, 1, 77), (77, .aload_n 0, 1, 78), (78, .iload_n 3, 1, 79), (79, .bipush 12, 2, 81), (81, .iload 4, 2, 83), (83, .iadd, 1, 84), (84, .invokevirtual 70, 3, 87), (87, .ireturn, 1, 88), (88, .aload_n 0, 1, 89), (89, .getfield 13, 3, 92), (92, .iconst 3, 1, 93), (93, .iaload, 1, 94), (94, .ireturn, 1, 95), (95, .aload_n 0, 1, 96), (96, .getfield 13, 3, 99), (99, .iconst 4, 1, 100), (100, .iaload, 1, 101), (101, .ireturn, 1, 102), (102, .aload_n 0, 1, 103), (103, .iload_n 3, 1, 104), (104, .iconst 3, 1, 105), (105, .invokevirtual 70, 3, 108), (108, .ireturn, 1, 109), (109, .aload_n 0, 1, 110), (110, .iload_n 3, 1, 111), (111, .iload 4, 2, 113), (113, .invokevirtual 246, 3, 116), (116, .ifCond .eq 7, 3, 119), (119, .iconst 1, 1, 120), (120, .goto 4, 3, 123), (123, .iconst 0, 1, 124), (124, .ireturn, 1, 125), (125, .aload_n 0, 1, 126), (126, .getfield 249, 3, 129), (129, .ifCond .eq 7, 3, 132), (132, .iconst 1, 1, 133), (133, .goto 4, 3, 136), (136, .iconst 0, 1, 137), (137, .ireturn, 1, 138), (138, .iload_n 2, 1, 139), (139, .ireturn, 1, 140)], [])
theorem mo_X12_factOf : tw_mok mX12_factOf 4 := ⟨plainFor_of_name (by decide +kernel), by decide +kernel, by decide +kernel, by decide +kernel, by decide +kernel⟩
theorem dk_X12_factOf : tw_dk mX12_factOf := by unfold tw_dk; decide +kernel
theorem wv_RX12_243_X12_guessOf : tw_wV RX12 243 mX12_guessOf := ⟨List.mem_of_getElem? (i := 2067) (by decide +kernel), List.mem_of_getElem? (i := 2069) (by decide +kernel), List.mem_of_getElem? (i := 78) (by decide +kernel), List.mem_of_getElem? (i := 137) (by decide +kernel), List.mem_of_getElem? (i := 2070) (by decide +kernel)⟩
theorem wv_RX12_246_X12_isNear : tw_wV RX12 246 mX12_isNear := ⟨List.mem_of_getElem? (i := 2083) (by decide +kernel), List.mem_of_getElem? (i := 2085) (by decide +kernel), List.mem_of_getElem? (i := 82) (by decide +kernel), List.mem_of_getElem? (i := 137) (by decide +kernel), List.mem_of_getElem? (i := 2086) (by decide +kernel)⟩
theorem fl_RX12_249 : tw_fl RX12 249 88 := Or.inl (List.mem_of_getElem? (i := 1808) (by decide +kernel))
set_option maxRecDepth 20000 in
theorem K_X12_factOf {g : tw_Gx} (Q : tw_Rs → tw_Mem → Prop) (a0 : Nat) (a1 : Int32) (a2 : Int32) (a3 : Int32) (a4 : Int32) : tw_Kt g mX12_factOf 4 0 0 [.ref a0, .int a1, .int a2, .int a3, .int a4] Q (f_X12_factOf a0 a1 a2 a3 a4 (fun v => Q (.inl (some (.int v))))) := by
  refine tw_mkK (L := [some (.ref a0), some (.int a1), some (.int a2), some (.int a3), some (.int a4)]) mo_X12_factOf dk_X12_factOf rfl (Nat.le_of_ble_eq_true rfl) rfl ?_
  unfold f_X12_factOf
  refine tw_iload_n (k := 0) rfl rfl ?_
  refine tw_case ?_ (fun c11 => ?_)
  · refine tw_switch (k := 1) 56 rfl (by decide) (by decide) ?_
    refine tw_iload_n (k := 2) rfl rfl ?_
    exact tw_ireturn (k := 3) rfl rfl (by decide) (by decide)
  refine tw_case ?_ (fun c12 => ?_)
  · refine tw_switch (k := 1) 58 rfl (by decide) (by decide) ?_
    refine tw_iload (k := 4) rfl rfl ?_
    exact tw_ireturn (k := 5) rfl rfl (by decide) (by decide)
  refine tw_case ?_ (fun c13 => ?_)
  · refine tw_switch (k := 1) 61 rfl (by decide) (by decide) ?_
    refine tw_aload_n (k := 6) rfl rfl ?_
    refine tw_iload_n (k := 7) rfl rfl ?_
    refine tw_iload (k := 8) rfl rfl ?_
    refine tw_callV (k := 9) (d' := 3) (mc' := 0) (ms' := 0) tw_cI tw_cIi [.int a3, .int a4] rfl rfl wv_RX12_243_X12_guessOf mo_X12_guessOf (t := 11) rfl rfl rfl (fun Q9 => K_X12_guessOf Q9 a0 a3 a4) (by omega) (by decide) (by decide) (Nat.le_of_ble_eq_true rfl) (fun x1 => ?_)
    exact tw_ireturn (k := 10) rfl rfl (by decide) (by decide)
  refine tw_case ?_ (fun c14 => ?_)
  · refine tw_switch (k := 1) 69 rfl (by decide) (by decide) ?_
    refine tw_aload_n (k := 11) rfl rfl ?_
    refine tw_iload (k := 12) rfl rfl ?_
    refine tw_iload_n (k := 13) rfl rfl ?_
    refine tw_callV (k := 14) (d' := 3) (mc' := 0) (ms' := 0) tw_cI tw_cIi [.int a4, .int a3] rfl rfl wv_RX12_243_X12_guessOf mo_X12_guessOf (t := 11) rfl rfl rfl (fun Q9 => K_X12_guessOf Q9 a0 a4 a3) (by omega) (by decide) (by decide) (Nat.le_of_ble_eq_true rfl) (fun x2 => ?_)
    exact tw_ireturn (k := 15) rfl rfl (by decide) (by decide)
  refine tw_case ?_ (fun c15 => ?_)
  · refine tw_switch (k := 1) 77 rfl (by decide) (by decide) ?_
    refine tw_aload_n (k := 16) rfl rfl ?_
    refine tw_iload_n (k := 17) rfl rfl ?_
    refine tw_bipush (k := 18) (12 : Int32) rfl (by decide) ?_
    refine tw_iload (k := 19) rfl rfl ?_
    refine tw_iadd (k := 20) rfl ?_
    refine tw_callV (k := 21) (d' := 2) (mc' := 0) (ms' := 0) tw_cI tw_cIi [.int a3, .int ((12 : Int32) + a4)] rfl rfl wv_RX12_70_X12_of mo_X12_of (t := 11) rfl rfl rfl (fun Q9 => K_X12_of Q9 a0 a3 ((12 : Int32) + a4)) (by omega) (by decide) (by decide) (Nat.le_of_ble_eq_true rfl) (fun x3 => ?_)
    exact tw_ireturn (k := 22) rfl rfl (by decide) (by decide)
  refine tw_case ?_ (fun c16 => ?_)
  · refine tw_switch (k := 1) 88 rfl (by decide) (by decide) ?_
    refine tw_aload_n (k := 23) rfl rfl ?_
    refine tw_getR (k := 24) rfl fl_RX12_13 (fun x4 => ?_)
    refine tw_iconst (k := 25) (3 : Int32) rfl (by decide) ?_
    refine tw_iaload (k := 26) rfl (fun x5 => ?_)
    exact tw_ireturn (k := 27) rfl rfl (by decide) (by decide)
  refine tw_case ?_ (fun c17 => ?_)
  · refine tw_switch (k := 1) 95 rfl (by decide) (by decide) ?_
    refine tw_aload_n (k := 28) rfl rfl ?_
    refine tw_getR (k := 29) rfl fl_RX12_13 (fun x6 => ?_)
    refine tw_iconst (k := 30) (4 : Int32) rfl (by decide) ?_
    refine tw_iaload (k := 31) rfl (fun x7 => ?_)
    exact tw_ireturn (k := 32) rfl rfl (by decide) (by decide)
  refine tw_case ?_ (fun c18 => ?_)
  · refine tw_switch (k := 1) 102 rfl (by decide) (by decide) ?_
    refine tw_aload_n (k := 33) rfl rfl ?_
    refine tw_iload_n (k := 34) rfl rfl ?_
    refine tw_iconst (k := 35) (3 : Int32) rfl (by decide) ?_
    refine tw_callV (k := 36) (d' := 2) (mc' := 0) (ms' := 0) tw_cI tw_cIi [.int a3, .int (3 : Int32)] rfl rfl wv_RX12_70_X12_of mo_X12_of (t := 11) rfl rfl rfl (fun Q9 => K_X12_of Q9 a0 a3 (3 : Int32)) (by omega) (by decide) (by decide) (Nat.le_of_ble_eq_true rfl) (fun x8 => ?_)
    exact tw_ireturn (k := 37) rfl rfl (by decide) (by decide)
  refine tw_case ?_ (fun c19 => ?_)
  · refine tw_switch (k := 1) 109 rfl (by decide) (by decide) ?_
    refine tw_aload_n (k := 38) rfl rfl ?_
    refine tw_iload_n (k := 39) rfl rfl ?_
    refine tw_iload (k := 40) rfl rfl ?_
    refine tw_callV (k := 41) (d' := 3) (mc' := 0) (ms' := 0) tw_cI tw_cIi [.int a3, .int a4] rfl rfl wv_RX12_246_X12_isNear mo_X12_isNear (t := 11) rfl rfl rfl (fun Q9 => K_X12_isNear Q9 a0 a3 a4) (by omega) (by decide) (by decide) (Nat.le_of_ble_eq_true rfl) (fun x9 => ?_)
    refine tw_if_eq (k := 42) 123 rfl (by decide) ?_ ?_
    · refine tw_iconst (k := 45) (0 : Int32) rfl (by decide) ?_
      exact tw_ireturn (k := 46) rfl rfl (by decide) (by decide)
    · refine tw_iconst (k := 43) (1 : Int32) rfl (by decide) ?_
      refine tw_goto (k := 44) 124 rfl (by decide) ?_
      exact tw_ireturn (k := 46) rfl rfl (by decide) (by decide)
  refine tw_case ?_ (fun c20 => ?_)
  · refine tw_switch (k := 1) 125 rfl (by decide) (by decide) ?_
    refine tw_aload_n (k := 47) rfl rfl ?_
    refine tw_getI (k := 48) rfl fl_RX12_249 (fun x10 => ?_)
    refine tw_if_eq (k := 49) 136 rfl (by decide) ?_ ?_
    · refine tw_iconst (k := 52) (0 : Int32) rfl (by decide) ?_
      exact tw_ireturn (k := 53) rfl rfl (by decide) (by decide)
    · refine tw_iconst (k := 50) (1 : Int32) rfl (by decide) ?_
      refine tw_goto (k := 51) 137 rfl (by decide) ?_
      exact tw_ireturn (k := 53) rfl rfl (by decide) (by decide)
  refine tw_switch (k := 1) 138 rfl (by decide) (tw_dfl (by decide) (fun v e1 e2 e3 => ?_)) ?_
  · have e4 : v = 0 ∨ v = 1 ∨ v = 2 ∨ v = 3 ∨ v = 4 ∨ v = 5 ∨ v = 6 ∨ v = 7 ∨ v = 8 ∨ v = 9 := by omega
    rcases e4 with rfl | rfl | rfl | rfl | rfl | rfl | rfl | rfl | rfl | rfl
    · exact c11 (e3.trans (by decide))
    · exact c12 (e3.trans (by decide))
    · exact c13 (e3.trans (by decide))
    · exact c14 (e3.trans (by decide))
    · exact c15 (e3.trans (by decide))
    · exact c16 (e3.trans (by decide))
    · exact c17 (e3.trans (by decide))
    · exact c18 (e3.trans (by decide))
    · exact c19 (e3.trans (by decide))
    · exact c20 (e3.trans (by decide))
  · refine tw_iload_n (k := 54) rfl rfl ?_
    exact tw_ireturn (k := 55) rfl rfl (by decide) (by decide)
def mX12_holdsLine : tw_MD := (yX12_holdsLine, cX12_holdsLine, 11, (some FieldType.boolean), [(0, .iconst 0, 1, 1), (1, .istore 4, 2, 3), (3, .sipush 493, 3, 6), (6, .iconst 4, 1, 7), (7, .iload_n 1, 1, 8), (8, .imul, 1, 9), (9, .iadd, 1, 10), (10, .istore 5, 2, 12), (12, .aload_n 0, 1, 13), (13, .getfield 13, 3, 16), (16, .iload 5, 2, 18), (18, .iconst 2, 1, 19), (19, .iadd, 1, 20), (20, .iaload, 1, 21), (21, .istore 6, 2, 23), (23, .iload 6, 2, 25), (25, .aload_n 0, 1, 26), (26, .getfield 13, 3, 29), (29, .iload 5, 2, 31), (31, .iconst 3, 1, 32), (32, .iadd, 1, 33), (33, .iaload, 1, 34), (34, .if_icmp .ge 237, 3, 37), (37, .aload_n 0, 1, 38), (38, .getfield 13, 3, 41), (41, .sipush 541, 3, 44), (44, .iconst 2, 1, 45), (45, .iload 6, 2, 47), (47, .imul, 1, 48), (48, .iadd, 1, 49), (49, .iaload, 1, 50), (50, .istore 7, 2, 52), (52, .iload 7, 2, 54), (54, .bipush 10, 2, 56), (56, .if_icmp .gt 39, 3, 59), (59, .aload_n 0, 1, 60), (60, .getfield 39, 3, 63), (63, .iload 4, 2, 65), (65, .aload_n 0, 1, 66), (66, .iload 7, 2, 68), (68, .aload_n 0, 1, 69), (69, .getfield 13, 3, 72), (72, .sipush 541, 3, 75), (75, .iconst 2, 1, 76), (76, .iload 6, 2, 78), (78, .imul, 1, 79), (79, .iadd, 1, 80), (80, .iconst 1, 1, 81), (81, .iadd, 1, 82), (82, .iaload, 1, 83), (83, .iload_n 2, 1, 84), (84, .iload_n 3, 1, 85), (85, .invokevirtual 251, 3, 88), (88, .iastore, 1, 89), (89, .iinc 4 1, 3, 92), (92, .goto 173, 3, 95), (95, .iload 7, 2, 97), (97, .bipush 14, 2, 99), (99, .if_icmp .ne 26, 3, 102), (102, .aload_n 0, 1, 103), (103, .getfield 39, 3, 106), (106, .iload 4, 2, 108), (108, .iconst 1, 1, 109), (109, .isub, 1, 110), (110, .iconst 1, 1, 111), (111, .aload_n 0, 1, 112), (112, .getfield 39, 3, 115), (115, .iload 4, 2, 117), (117, .iconst 1, 1, 118), (118, .isub, 1, 119), (119, .iaload, 1, 120), (120, .isub, 1, 121), (121, .iastore, 1, 122), (122, .goto 143, 3, 125), (125, .iinc 4 (-1), 3, 128), (128, .aload_n 0, 1, 129), (129, .getfield 39, 3, 132), (132, .iload 4, 2, 134), (134, .iconst 1, 1, 135), (135, .isub, 1, 136), (136, .iaload, 1, 137), (137, .istore 8, 2, 139), (139, .aload_n 0, 1, 140), (140, .getfield 39, 3, 143), (143, .iload 4, 2, 145), (145, .iaload, 1, 146), (146, .istore 9, 2, 148), (148, .iload 7, 2, 150), (150, .bipush 12, 2, 152), (152, .if_icmp .ne 18, 3, 155), (155, .iload 8, 2, 157), (157, .iload 9, 2, 159), (159, .if_icmp .ge 7, 3, 162), (162, .iconst 1, 1, 163), (163, .goto 66, 3, 166), (166, .iconst 0, 1, 167), (167, .goto 62, 3, 170), (170, .iload 7, 2, 172), (172, .bipush 13, 2, 174), (174, .if_icmp .ne 18, 3, 177), (177, .iload 8, 2, 179), (179, .iload 9, 2, 181), (181, .if_icmp .le 7, 3, 184), (184, .iconst 1, 1, 185), (185, .goto 44, 3, 188), (188, .iconst 0, 1, 189), (189, .goto 40, 3, 192), (192, .iload 7, 2, 194), (194, .bipush 15, 2, 196), (196, .if_icmp .ne 20, 3, 199), (199, .iload 8, 2, 201), (201, .iload 9, 2, 203), (203, .iadd, 1, 204), (204, .iconst 2, 1, 205), (205, .if_icmp .ne 7, 3, 208), (208, .iconst 1, 1, 209), (209, .goto 20, 3, 212), (212, .iconst 0, 1, 213), (213, .goto 16, 3, 216), (216, .iload 8, 2, 218), (218, .iload 9, 2, 220), (220, .iadd, 1, 221), (221, .ifCond .le 7, 3, 224), (224, .iconst 1, 1, 225), (225, .goto 4, 3, 228), (228, .iconst 0, 1, 229), (229, .istore 10, 2, 231), (231, .aload_n 0, 1, 232), (232, .getfield 39, 3, 235), (235, .iload 4, 2, 237), (237, .iconst 1, 1, 238), (238, .isub, 1, 239), (239, .iload 7, 2, 241), (241, .bipush 11, 2, 243), (243, .if_icmp .ne 11, 3, 246), (246, .iload 8, 2, 248), (248, .iload 9, 2, 250), (250, .iadd, 1, 251), (251, .goto 13, 3, 254), (254, .iload 10, 2, 256), (256, .ifCond .eq 7, 3, 259), (259, .iconst 1, 1, 260), (260, .goto 4, 3, 263), (263, .iconst 0, 1, 264), (264, .iastore, 1, 265), (265, .iinc 6 1, 3, 268), (268, .goto (-245), 3, 271), (271, .iload 4, 2, 273), (273, .ifCond .eq 13, 3, 276), (276, .aload_n 0, 1, 277), (277, .getfield 39, 3, 280), (280, .iconst 0, 1, 281), (281, .iaload, 1, 282), (282, .iconst 1, 1, 283), (283, .if_icmp .ne 7, 3, 286), (286, .iconst 1, 1, 287), (287, .goto 4, 3, 290), (290, .iconst 0, 1, 291), (291, .ireturn, 1, 292)], [])
theorem mo_X12_holdsLine : tw_mok mX12_holdsLine 3 := ⟨plainFor_of_name (by decide +kernel), by decide +kernel, by decide +kernel, by decide +kernel, by decide +kernel⟩
theorem dk_X12_holdsLine : tw_dk mX12_holdsLine := by unfold tw_dk; decide +kernel
theorem wv_RX12_251_X12_factOf : tw_wV RX12 251 mX12_factOf := ⟨List.mem_of_getElem? (i := 2128) (by decide +kernel), List.mem_of_getElem? (i := 2130) (by decide +kernel), List.mem_of_getElem? (i := 90) (by decide +kernel), List.mem_of_getElem? (i := 137) (by decide +kernel), List.mem_of_getElem? (i := 2131) (by decide +kernel)⟩
set_option maxRecDepth 20000 in
theorem K_X12_holdsLine {g : tw_Gx} (Q : tw_Rs → tw_Mem → Prop) (a0 : Nat) (a1 : Int32) (a2 : Int32) (a3 : Int32) : tw_Kt g mX12_holdsLine 5 0 0 [.ref a0, .int a1, .int a2, .int a3] Q (f_X12_holdsLine a0 a1 a2 a3 (fun v => Q (.inl (some (.int v))))) := by
  refine tw_mkK (L := [some (.ref a0), some (.int a1), some (.int a2), some (.int a3), none, none, none, none, none, none, none]) mo_X12_holdsLine dk_X12_holdsLine rfl (Nat.le_of_ble_eq_true rfl) rfl ?_
  unfold f_X12_holdsLine
  refine tw_iconst (k := 0) (0 : Int32) rfl (by decide) ?_
  refine tw_ist (k := 1) [some (.ref a0), some (.int a1), some (.int a2), some (.int a3), some (.int (0 : Int32)), none, none, none, none, none, none] rfl (Nat.le_of_ble_eq_true rfl) rfl rfl ?_
  refine tw_sipush (k := 2) (493 : Int32) rfl (by decide) ?_
  refine tw_iconst (k := 3) (4 : Int32) rfl (by decide) ?_
  refine tw_iload_n (k := 4) rfl rfl ?_
  refine tw_imul (k := 5) rfl ?_
  refine tw_iadd (k := 6) rfl ?_
  refine tw_let (fun x1 => [some (.ref a0), some (.int a1), some (.int a2), some (.int a3), some (.int (0 : Int32)), none, none, none, none, none, none]) (fun x1 => .int x1 :: []) rfl rfl (fun x1 => ?_)
  refine tw_ist (k := 7) [some (.ref a0), some (.int a1), some (.int a2), some (.int a3), some (.int (0 : Int32)), some (.int x1), none, none, none, none, none] rfl (Nat.le_of_ble_eq_true rfl) rfl rfl ?_
  refine tw_aload_n (k := 8) rfl rfl ?_
  refine tw_getR (k := 9) rfl fl_RX12_13 (fun x2 => ?_)
  refine tw_iload (k := 10) rfl rfl ?_
  refine tw_iconst (k := 11) (2 : Int32) rfl (by decide) ?_
  refine tw_iadd (k := 12) rfl ?_
  refine tw_iaload (k := 13) rfl (fun x3 => ?_)
  refine tw_ist (k := 14) [some (.ref a0), some (.int a1), some (.int a2), some (.int a3), some (.int (0 : Int32)), some (.int x1), some (.int x3), none, none, none, none] rfl (Nat.le_of_ble_eq_true rfl) rfl rfl ?_
  refine tw_loop (fun s5 => [some (.ref a0), some (.int a1), some (.int a2), some (.int a3), some (.int s5.1), some (.int x1), some (.int s5.2), none, none, none, none]) (fun s5 => []) (fun r4 h4 s5 => ?_) _ rfl rfl
  refine tw_iload (k := 15) rfl rfl ?_
  refine tw_aload_n (k := 16) rfl rfl ?_
  refine tw_getR (k := 17) rfl fl_RX12_13 (fun x6 => ?_)
  refine tw_iload (k := 18) rfl rfl ?_
  refine tw_iconst (k := 19) (3 : Int32) rfl (by decide) ?_
  refine tw_iadd (k := 20) rfl ?_
  refine tw_iaload (k := 21) rfl (fun x7 => ?_)
  refine tw_icmp_ge (k := 22) 271 rfl (by decide) ?_ ?_
  · refine tw_iload (k := 147) rfl rfl ?_
    refine tw_if_eq (k := 148) 286 rfl (by decide) ?_ ?_
    · refine tw_iconst (k := 155) (1 : Int32) rfl (by decide) ?_
      refine tw_goto (k := 156) 291 rfl (by decide) ?_
      exact tw_zreturn (k := 158) rfl rfl (by decide) (by decide)
    · refine tw_aload_n (k := 149) rfl rfl ?_
      refine tw_getR (k := 150) rfl fl_RX12_39 (fun x8 => ?_)
      refine tw_iconst (k := 151) (0 : Int32) rfl (by decide) ?_
      refine tw_iaload (k := 152) rfl (fun x9 => ?_)
      refine tw_iconst (k := 153) (1 : Int32) rfl (by decide) ?_
      refine tw_icmp_ne (k := 154) 290 rfl (by decide) ?_ ?_
      · refine tw_iconst (k := 157) (0 : Int32) rfl (by decide) ?_
        exact tw_zreturn (k := 158) rfl rfl (by decide) (by decide)
      · refine tw_iconst (k := 155) (1 : Int32) rfl (by decide) ?_
        refine tw_goto (k := 156) 291 rfl (by decide) ?_
        exact tw_zreturn (k := 158) rfl rfl (by decide) (by decide)
  · refine tw_aload_n (k := 23) rfl rfl ?_
    refine tw_getR (k := 24) rfl fl_RX12_13 (fun x10 => ?_)
    refine tw_sipush (k := 25) (541 : Int32) rfl (by decide) ?_
    refine tw_iconst (k := 26) (2 : Int32) rfl (by decide) ?_
    refine tw_iload (k := 27) rfl rfl ?_
    refine tw_imul (k := 28) rfl ?_
    refine tw_iadd (k := 29) rfl ?_
    refine tw_iaload (k := 30) rfl (fun x11 => ?_)
    refine tw_ist (k := 31) [some (.ref a0), some (.int a1), some (.int a2), some (.int a3), some (.int s5.1), some (.int x1), some (.int s5.2), some (.int x11), none, none, none] rfl (Nat.le_of_ble_eq_true rfl) rfl rfl ?_
    refine tw_iload (k := 32) rfl rfl ?_
    refine tw_bipush (k := 33) (10 : Int32) rfl (by decide) ?_
    refine tw_join 265 (fun s13 => [some (.ref a0), some (.int a1), some (.int a2), some (.int a3), some (.int s13), some (.int x1), some (.int s5.2), some (.int x11), none, none, none]) (fun s13 => []) 0 0 (fun s13 => ?_) (fun j12 g12 => ?_)
    · refine tw_inc (k := 145) (1 : Int32) [some (.ref a0), some (.int a1), some (.int a2), some (.int a3), some (.int s13), some (.int x1), some (.int (s5.2 + (1 : Int32))), some (.int x11), none, none, none] rfl rfl (by decide) (Nat.le_of_ble_eq_true rfl) rfl rfl ?_
      refine tw_goto (k := 146) 23 rfl (by decide) ?_
      exact tw_wk (L' := [some (.ref a0), some (.int a1), some (.int a2), some (.int a3), some (.int s13), some (.int x1), some (.int (s5.2 + (1 : Int32))), none, none, none, none]) ⟨Or.inr rfl, Or.inr rfl, Or.inr rfl, Or.inr rfl, Or.inr rfl, Or.inr rfl, Or.inr rfl, Or.inl rfl, Or.inl rfl, Or.inl rfl, Or.inl rfl, trivial⟩ (h4 (s13, s5.2 + (1 : Int32)))
    · refine tw_icmp_gt (k := 34) 95 rfl (by decide) ?_ ?_
      · refine tw_iload (k := 56) rfl rfl ?_
        refine tw_bipush (k := 57) (14 : Int32) rfl (by decide) ?_
        refine tw_icmp_ne (k := 58) 125 rfl (by decide) ?_ ?_
        · refine tw_inc (k := 74) (-1 : Int32) [some (.ref a0), some (.int a1), some (.int a2), some (.int a3), some (.int (s5.1 + (-1 : Int32))), some (.int x1), some (.int s5.2), some (.int x11), none, none, none] rfl rfl (by decide) (Nat.le_of_ble_eq_true rfl) rfl rfl ?_
          refine tw_aload_n (k := 75) rfl rfl ?_
          refine tw_getR (k := 76) rfl fl_RX12_39 (fun x14 => ?_)
          refine tw_iload (k := 77) rfl rfl ?_
          refine tw_iconst (k := 78) (1 : Int32) rfl (by decide) ?_
          refine tw_isub (k := 79) rfl ?_
          refine tw_iaload (k := 80) rfl (fun x15 => ?_)
          refine tw_ist (k := 81) [some (.ref a0), some (.int a1), some (.int a2), some (.int a3), some (.int (s5.1 + (-1 : Int32))), some (.int x1), some (.int s5.2), some (.int x11), some (.int x15), none, none] rfl (Nat.le_of_ble_eq_true rfl) rfl rfl ?_
          refine tw_aload_n (k := 82) rfl rfl ?_
          refine tw_getR (k := 83) rfl fl_RX12_39 (fun x16 => ?_)
          refine tw_iload (k := 84) rfl rfl ?_
          refine tw_iaload (k := 85) rfl (fun x17 => ?_)
          refine tw_ist (k := 86) [some (.ref a0), some (.int a1), some (.int a2), some (.int a3), some (.int (s5.1 + (-1 : Int32))), some (.int x1), some (.int s5.2), some (.int x11), some (.int x15), some (.int x17), none] rfl (Nat.le_of_ble_eq_true rfl) rfl rfl ?_
          refine tw_iload (k := 87) rfl rfl ?_
          refine tw_bipush (k := 88) (12 : Int32) rfl (by decide) ?_
          refine tw_join 229 (fun s19 => [some (.ref a0), some (.int a1), some (.int a2), some (.int a3), some (.int (s5.1 + (-1 : Int32))), some (.int x1), some (.int s5.2), some (.int x11), some (.int x15), some (.int x17), none]) (fun s19 => .int s19 :: []) 0 0 (fun s19 => ?_) (fun j18 g18 => ?_)
          · refine tw_ist (k := 126) [some (.ref a0), some (.int a1), some (.int a2), some (.int a3), some (.int (s5.1 + (-1 : Int32))), some (.int x1), some (.int s5.2), some (.int x11), some (.int x15), some (.int x17), some (.int s19)] rfl (Nat.le_of_ble_eq_true rfl) rfl rfl ?_
            refine tw_aload_n (k := 127) rfl rfl ?_
            refine tw_getR (k := 128) rfl fl_RX12_39 (fun x20 => ?_)
            refine tw_iload (k := 129) rfl rfl ?_
            refine tw_iconst (k := 130) (1 : Int32) rfl (by decide) ?_
            refine tw_isub (k := 131) rfl ?_
            refine tw_iload (k := 132) rfl rfl ?_
            refine tw_bipush (k := 133) (11 : Int32) rfl (by decide) ?_
            refine tw_join 264 (fun s22 => [some (.ref a0), some (.int a1), some (.int a2), some (.int a3), some (.int (s5.1 + (-1 : Int32))), some (.int x1), some (.int s5.2), some (.int x11), some (.int x15), some (.int x17), some (.int s19)]) (fun s22 => .int s22 :: .int ((s5.1 + (-1 : Int32)) - (1 : Int32)) :: .ref x20 :: []) 0 0 (fun s22 => ?_) (fun j21 g21 => ?_)
            · refine tw_iastore (k := 144) rfl ?_
              exact tw_wk (L' := [some (.ref a0), some (.int a1), some (.int a2), some (.int a3), some (.int (s5.1 + (-1 : Int32))), some (.int x1), some (.int s5.2), some (.int x11), none, none, none]) ⟨Or.inr rfl, Or.inr rfl, Or.inr rfl, Or.inr rfl, Or.inr rfl, Or.inr rfl, Or.inr rfl, Or.inr rfl, Or.inl rfl, Or.inl rfl, Or.inl rfl, trivial⟩ (g12 (s5.1 + (-1 : Int32)))
            · refine tw_icmp_ne (k := 134) 254 rfl (by decide) ?_ ?_
              · refine tw_iload (k := 139) rfl rfl ?_
                refine tw_if_eq (k := 140) 263 rfl (by decide) ?_ ?_
                · refine tw_iconst (k := 143) (0 : Int32) rfl (by decide) ?_
                  exact g21 (0 : Int32)
                · refine tw_iconst (k := 141) (1 : Int32) rfl (by decide) ?_
                  refine tw_goto (k := 142) 264 rfl (by decide) ?_
                  exact g21 (1 : Int32)
              · refine tw_iload (k := 135) rfl rfl ?_
                refine tw_iload (k := 136) rfl rfl ?_
                refine tw_iadd (k := 137) rfl ?_
                refine tw_goto (k := 138) 264 rfl (by decide) ?_
                exact g21 (x15 + x17)
          · refine tw_icmp_ne (k := 89) 170 rfl (by decide) ?_ ?_
            · refine tw_iload (k := 97) rfl rfl ?_
              refine tw_bipush (k := 98) (13 : Int32) rfl (by decide) ?_
              refine tw_icmp_ne (k := 99) 192 rfl (by decide) ?_ ?_
              · refine tw_iload (k := 107) rfl rfl ?_
                refine tw_bipush (k := 108) (15 : Int32) rfl (by decide) ?_
                refine tw_icmp_ne (k := 109) 216 rfl (by decide) ?_ ?_
                · refine tw_iload (k := 119) rfl rfl ?_
                  refine tw_iload (k := 120) rfl rfl ?_
                  refine tw_iadd (k := 121) rfl ?_
                  refine tw_if_le (k := 122) 228 rfl (by decide) ?_ ?_
                  · refine tw_iconst (k := 125) (0 : Int32) rfl (by decide) ?_
                    exact g18 (0 : Int32)
                  · refine tw_iconst (k := 123) (1 : Int32) rfl (by decide) ?_
                    refine tw_goto (k := 124) 229 rfl (by decide) ?_
                    exact g18 (1 : Int32)
                · refine tw_iload (k := 110) rfl rfl ?_
                  refine tw_iload (k := 111) rfl rfl ?_
                  refine tw_iadd (k := 112) rfl ?_
                  refine tw_iconst (k := 113) (2 : Int32) rfl (by decide) ?_
                  refine tw_icmp_ne (k := 114) 212 rfl (by decide) ?_ ?_
                  · refine tw_iconst (k := 117) (0 : Int32) rfl (by decide) ?_
                    refine tw_goto (k := 118) 229 rfl (by decide) ?_
                    exact g18 (0 : Int32)
                  · refine tw_iconst (k := 115) (1 : Int32) rfl (by decide) ?_
                    refine tw_goto (k := 116) 229 rfl (by decide) ?_
                    exact g18 (1 : Int32)
              · refine tw_iload (k := 100) rfl rfl ?_
                refine tw_iload (k := 101) rfl rfl ?_
                refine tw_icmp_le (k := 102) 188 rfl (by decide) ?_ ?_
                · refine tw_iconst (k := 105) (0 : Int32) rfl (by decide) ?_
                  refine tw_goto (k := 106) 229 rfl (by decide) ?_
                  exact g18 (0 : Int32)
                · refine tw_iconst (k := 103) (1 : Int32) rfl (by decide) ?_
                  refine tw_goto (k := 104) 229 rfl (by decide) ?_
                  exact g18 (1 : Int32)
            · refine tw_iload (k := 90) rfl rfl ?_
              refine tw_iload (k := 91) rfl rfl ?_
              refine tw_icmp_ge (k := 92) 166 rfl (by decide) ?_ ?_
              · refine tw_iconst (k := 95) (0 : Int32) rfl (by decide) ?_
                refine tw_goto (k := 96) 229 rfl (by decide) ?_
                exact g18 (0 : Int32)
              · refine tw_iconst (k := 93) (1 : Int32) rfl (by decide) ?_
                refine tw_goto (k := 94) 229 rfl (by decide) ?_
                exact g18 (1 : Int32)
        · refine tw_aload_n (k := 59) rfl rfl ?_
          refine tw_getR (k := 60) rfl fl_RX12_39 (fun x23 => ?_)
          refine tw_iload (k := 61) rfl rfl ?_
          refine tw_iconst (k := 62) (1 : Int32) rfl (by decide) ?_
          refine tw_isub (k := 63) rfl ?_
          refine tw_iconst (k := 64) (1 : Int32) rfl (by decide) ?_
          refine tw_aload_n (k := 65) rfl rfl ?_
          refine tw_getR (k := 66) rfl fl_RX12_39 (fun x24 => ?_)
          refine tw_iload (k := 67) rfl rfl ?_
          refine tw_iconst (k := 68) (1 : Int32) rfl (by decide) ?_
          refine tw_isub (k := 69) rfl ?_
          refine tw_iaload (k := 70) rfl (fun x25 => ?_)
          refine tw_isub (k := 71) rfl ?_
          refine tw_iastore (k := 72) rfl ?_
          refine tw_goto (k := 73) 265 rfl (by decide) ?_
          exact g12 s5.1
      · refine tw_aload_n (k := 35) rfl rfl ?_
        refine tw_getR (k := 36) rfl fl_RX12_39 (fun x26 => ?_)
        refine tw_iload (k := 37) rfl rfl ?_
        refine tw_aload_n (k := 38) rfl rfl ?_
        refine tw_iload (k := 39) rfl rfl ?_
        refine tw_aload_n (k := 40) rfl rfl ?_
        refine tw_getR (k := 41) rfl fl_RX12_13 (fun x27 => ?_)
        refine tw_sipush (k := 42) (541 : Int32) rfl (by decide) ?_
        refine tw_iconst (k := 43) (2 : Int32) rfl (by decide) ?_
        refine tw_iload (k := 44) rfl rfl ?_
        refine tw_imul (k := 45) rfl ?_
        refine tw_iadd (k := 46) rfl ?_
        refine tw_iconst (k := 47) (1 : Int32) rfl (by decide) ?_
        refine tw_iadd (k := 48) rfl ?_
        refine tw_iaload (k := 49) rfl (fun x28 => ?_)
        refine tw_iload_n (k := 50) rfl rfl ?_
        refine tw_iload_n (k := 51) rfl rfl ?_
        refine tw_callV (k := 52) (d' := 4) (mc' := 0) (ms' := 0) tw_cI tw_cIi [.int x11, .int x28, .int a2, .int a3] rfl rfl wv_RX12_251_X12_factOf mo_X12_factOf (t := 11) rfl rfl rfl (fun Q9 => K_X12_factOf Q9 a0 x11 x28 a2 a3) (by omega) (by decide) (by decide) (Nat.le_of_ble_eq_true rfl) (fun x29 => ?_)
        refine tw_iastore (k := 53) rfl ?_
        refine tw_inc (k := 54) (1 : Int32) [some (.ref a0), some (.int a1), some (.int a2), some (.int a3), some (.int (s5.1 + (1 : Int32))), some (.int x1), some (.int s5.2), some (.int x11), none, none, none] rfl rfl (by decide) (Nat.le_of_ble_eq_true rfl) rfl rfl ?_
        refine tw_goto (k := 55) 265 rfl (by decide) ?_
        exact g12 (s5.1 + (1 : Int32))
def mX12_sumOf : tw_MD := (yX12_sumOf, cX12_sumOf, 6, (some FieldType.int), [(0, .iconst 0, 1, 1), (1, .istore 4, 2, 3), (3, .iconst 0, 1, 4), (4, .istore 5, 2, 6), (6, .iload 5, 2, 8), (8, .aload_n 0, 1, 9), (9, .getfield 13, 3, 12), (12, .sipush 492, 3, 15), (15, .iaload, 1, 16), (16, .if_icmp .ge 57, 3, 19), (19, .aload_n 0, 1, 20), (20, .getfield 13, 3, 23), (23, .sipush 493, 3, 26), (26, .iconst 4, 1, 27), (27, .iload 5, 2, 29), (29, .imul, 1, 30), (30, .iadd, 1, 31), (31, .iaload, 1, 32), (32, .iload_n 1, 1, 33), (33, .if_icmp .ne 34, 3, 36), (36, .aload_n 0, 1, 37), (37, .iload 5, 2, 39), (39, .iload_n 2, 1, 40), (40, .iload_n 3, 1, 41), (41, .invokevirtual 255, 3, 44), (44, .ifCond .eq 23, 3, 47), (47, .iload 4, 2, 49), (49, .aload_n 0, 1, 50), (50, .getfield 13, 3, 53), (53, .sipush 493, 3, 56), (56, .iconst 4, 1, 57), (57, .iload 5, 2, 59), (59, .imul, 1, 60), (60, .iadd, 1, 61), (61, .iconst 1, 1, 62), (62, .iadd, 1, 63), (63, .iaload, 1, 64), (64, .iadd, 1, 65), (65, .istore 4, 2, 67), (67, .iinc 5 1, 3, 70), (70, .goto (-64), 3, 73), (73, .iload 4, 2, 75), (75, .ireturn, 1, 76)], [])
theorem mo_X12_sumOf : tw_mok mX12_sumOf 3 := ⟨plainFor_of_name (by decide +kernel), by decide +kernel, by decide +kernel, by decide +kernel, by decide +kernel⟩
theorem dk_X12_sumOf : tw_dk mX12_sumOf := by unfold tw_dk; decide +kernel
theorem wv_RX12_255_X12_holdsLine : tw_wV RX12 255 mX12_holdsLine := ⟨List.mem_of_getElem? (i := 2124) (by decide +kernel), List.mem_of_getElem? (i := 2126) (by decide +kernel), List.mem_of_getElem? (i := 89) (by decide +kernel), List.mem_of_getElem? (i := 137) (by decide +kernel), List.mem_of_getElem? (i := 2127) (by decide +kernel)⟩
set_option maxRecDepth 20000 in
theorem K_X12_sumOf {g : tw_Gx} (Q : tw_Rs → tw_Mem → Prop) (a0 : Nat) (a1 : Int32) (a2 : Int32) (a3 : Int32) : tw_Kt g mX12_sumOf 6 0 0 [.ref a0, .int a1, .int a2, .int a3] Q (f_X12_sumOf a0 a1 a2 a3 (fun v => Q (.inl (some (.int v))))) := by
  refine tw_mkK (L := [some (.ref a0), some (.int a1), some (.int a2), some (.int a3), none, none]) mo_X12_sumOf dk_X12_sumOf rfl (Nat.le_of_ble_eq_true rfl) rfl ?_
  unfold f_X12_sumOf
  refine tw_iconst (k := 0) (0 : Int32) rfl (by decide) ?_
  refine tw_ist (k := 1) [some (.ref a0), some (.int a1), some (.int a2), some (.int a3), some (.int (0 : Int32)), none] rfl (Nat.le_of_ble_eq_true rfl) rfl rfl ?_
  refine tw_iconst (k := 2) (0 : Int32) rfl (by decide) ?_
  refine tw_ist (k := 3) [some (.ref a0), some (.int a1), some (.int a2), some (.int a3), some (.int (0 : Int32)), some (.int (0 : Int32))] rfl (Nat.le_of_ble_eq_true rfl) rfl rfl ?_
  refine tw_loop (fun s2 => [some (.ref a0), some (.int a1), some (.int a2), some (.int a3), some (.int s2.1), some (.int s2.2)]) (fun s2 => []) (fun r1 h1 s2 => ?_) _ rfl rfl
  refine tw_iload (k := 4) rfl rfl ?_
  refine tw_aload_n (k := 5) rfl rfl ?_
  refine tw_getR (k := 6) rfl fl_RX12_13 (fun x3 => ?_)
  refine tw_sipush (k := 7) (492 : Int32) rfl (by decide) ?_
  refine tw_iaload (k := 8) rfl (fun x4 => ?_)
  refine tw_icmp_ge (k := 9) 73 rfl (by decide) ?_ ?_
  · refine tw_iload (k := 41) rfl rfl ?_
    exact tw_ireturn (k := 42) rfl rfl (by decide) (by decide)
  · refine tw_aload_n (k := 10) rfl rfl ?_
    refine tw_getR (k := 11) rfl fl_RX12_13 (fun x5 => ?_)
    refine tw_sipush (k := 12) (493 : Int32) rfl (by decide) ?_
    refine tw_iconst (k := 13) (4 : Int32) rfl (by decide) ?_
    refine tw_iload (k := 14) rfl rfl ?_
    refine tw_imul (k := 15) rfl ?_
    refine tw_iadd (k := 16) rfl ?_
    refine tw_iaload (k := 17) rfl (fun x6 => ?_)
    refine tw_iload_n (k := 18) rfl rfl ?_
    refine tw_join 67 (fun s8 => [some (.ref a0), some (.int a1), some (.int a2), some (.int a3), some (.int s8), some (.int s2.2)]) (fun s8 => []) 0 0 (fun s8 => ?_) (fun j7 g7 => ?_)
    · refine tw_inc (k := 39) (1 : Int32) [some (.ref a0), some (.int a1), some (.int a2), some (.int a3), some (.int s8), some (.int (s2.2 + (1 : Int32)))] rfl rfl (by decide) (Nat.le_of_ble_eq_true rfl) rfl rfl ?_
      refine tw_goto (k := 40) 6 rfl (by decide) ?_
      exact h1 (s8, s2.2 + (1 : Int32))
    · refine tw_icmp_ne (k := 19) 67 rfl (by decide) ?_ ?_
      · exact g7 s2.1
      · refine tw_aload_n (k := 20) rfl rfl ?_
        refine tw_iload (k := 21) rfl rfl ?_
        refine tw_iload_n (k := 22) rfl rfl ?_
        refine tw_iload_n (k := 23) rfl rfl ?_
        refine tw_callV (k := 24) (d' := 5) (mc' := 0) (ms' := 0) tw_cI tw_cIi [.int s2.2, .int a2, .int a3] rfl rfl wv_RX12_255_X12_holdsLine mo_X12_holdsLine (t := 11) rfl rfl rfl (fun Q9 => K_X12_holdsLine Q9 a0 s2.2 a2 a3) (by omega) (by decide) (by decide) (Nat.le_of_ble_eq_true rfl) (fun x9 => ?_)
        refine tw_if_eq (k := 25) 67 rfl (by decide) ?_ ?_
        · exact g7 s2.1
        · refine tw_iload (k := 26) rfl rfl ?_
          refine tw_aload_n (k := 27) rfl rfl ?_
          refine tw_getR (k := 28) rfl fl_RX12_13 (fun x10 => ?_)
          refine tw_sipush (k := 29) (493 : Int32) rfl (by decide) ?_
          refine tw_iconst (k := 30) (4 : Int32) rfl (by decide) ?_
          refine tw_iload (k := 31) rfl rfl ?_
          refine tw_imul (k := 32) rfl ?_
          refine tw_iadd (k := 33) rfl ?_
          refine tw_iconst (k := 34) (1 : Int32) rfl (by decide) ?_
          refine tw_iadd (k := 35) rfl ?_
          refine tw_iaload (k := 36) rfl (fun x11 => ?_)
          refine tw_iadd (k := 37) rfl ?_
          refine tw_let (fun x12 => [some (.ref a0), some (.int a1), some (.int a2), some (.int a3), some (.int s2.1), some (.int s2.2)]) (fun x12 => .int x12 :: []) rfl rfl (fun x12 => ?_)
          refine tw_ist (k := 38) [some (.ref a0), some (.int a1), some (.int a2), some (.int a3), some (.int x12), some (.int s2.2)] rfl (Nat.le_of_ble_eq_true rfl) rfl rfl ?_
          exact g7 x12
def mX12_toneOf : tw_MD := (yX12_toneOf, cX12_toneOf, 4, (some FieldType.int), [(0, .aload_n 0, 1, 1), (1, .iload_n 1, 1, 2), (2, .iload_n 2, 1, 3), (3, .invokevirtual 243, 3, 6), (6, .aload_n 0, 1, 7), (7, .iload_n 2, 1, 8), (8, .iload_n 1, 1, 9), (9, .invokevirtual 243, 3, 12), (12, .invokestatic 258, 3, 15), (15, .istore_n 3, 1, 16), (16, .iload_n 3, 1, 17), (17, .bipush 9, 2, 19), (19, .if_icmp .ne 7, 3, 22), (22, .iconst 2, 1, 23), (23, .goto 18, 3, 26), (26, .iload_n 3, 1, 27), (27, .aload_n 0, 1, 28), (28, .getfield 13, 3, 31), (31, .iconst 5, 1, 32), (32, .iaload, 1, 33), (33, .if_icmp .lt 7, 3, 36), (36, .iconst 3, 1, 37), (37, .goto 4, 3, 40), (40, .iconst 4, 1, 41), (41, .ireturn, 1, 42)], [])
theorem mo_X12_toneOf : tw_mok mX12_toneOf 2 := ⟨plainFor_of_name (by decide +kernel), by decide +kernel, by decide +kernel, by decide +kernel, by decide +kernel⟩
theorem dk_X12_toneOf : tw_dk mX12_toneOf := by unfold tw_dk; decide +kernel
theorem ws_RX12_258_J9_max_7cf53 : tw_wS RX12 258 mJ9_max_7cf53 := ⟨List.mem_of_getElem? (i := 2119) (by decide +kernel), List.mem_of_getElem? (i := 582) (by decide +kernel), List.mem_of_getElem? (i := 148) (by decide +kernel), List.mem_of_getElem? (i := 583) (by decide +kernel)⟩
set_option maxRecDepth 20000 in
theorem K_X12_toneOf {g : tw_Gx} (Q : tw_Rs → tw_Mem → Prop) (a0 : Nat) (a1 : Int32) (a2 : Int32) : tw_Kt g mX12_toneOf 4 0 0 [.ref a0, .int a1, .int a2] Q (f_X12_toneOf a0 a1 a2 (fun v => Q (.inl (some (.int v))))) := by
  refine tw_mkK (L := [some (.ref a0), some (.int a1), some (.int a2), none]) mo_X12_toneOf dk_X12_toneOf rfl (Nat.le_of_ble_eq_true rfl) rfl ?_
  unfold f_X12_toneOf
  refine tw_aload_n (k := 0) rfl rfl ?_
  refine tw_iload_n (k := 1) rfl rfl ?_
  refine tw_iload_n (k := 2) rfl rfl ?_
  refine tw_callV (k := 3) (d' := 3) (mc' := 0) (ms' := 0) tw_cI tw_cIi [.int a1, .int a2] rfl rfl wv_RX12_243_X12_guessOf mo_X12_guessOf (t := 11) rfl rfl rfl (fun Q9 => K_X12_guessOf Q9 a0 a1 a2) (by omega) (by decide) (by decide) (Nat.le_of_ble_eq_true rfl) (fun x1 => ?_)
  refine tw_aload_n (k := 4) rfl rfl ?_
  refine tw_iload_n (k := 5) rfl rfl ?_
  refine tw_iload_n (k := 6) rfl rfl ?_
  refine tw_callV (k := 7) (d' := 3) (mc' := 0) (ms' := 0) tw_cI tw_cIi [.int a2, .int a1] rfl rfl wv_RX12_243_X12_guessOf mo_X12_guessOf (t := 11) rfl rfl rfl (fun Q9 => K_X12_guessOf Q9 a0 a2 a1) (by omega) (by decide) (by decide) (Nat.le_of_ble_eq_true rfl) (fun x2 => ?_)
  refine tw_callS (k := 8) (d' := 1) (mc' := 0) (ms' := 0) tw_cI tw_cIi [.int x1, .int x2] rfl rfl ws_RX12_258_J9_max_7cf53 mo_J9_max_7cf53 rfl (fun Q9 => K_J9_max_7cf53 Q9 x1 x2) (by omega) (by decide) (by decide) (Nat.le_of_ble_eq_true rfl) (fun x3 => ?_)
  refine tw_ist_n (k := 9) [some (.ref a0), some (.int a1), some (.int a2), some (.int x3)] rfl (Nat.le_of_ble_eq_true rfl) rfl rfl ?_
  refine tw_iload_n (k := 10) rfl rfl ?_
  refine tw_bipush (k := 11) (9 : Int32) rfl (by decide) ?_
  refine tw_icmp_ne (k := 12) 26 rfl (by decide) ?_ ?_
  · refine tw_iload_n (k := 15) rfl rfl ?_
    refine tw_aload_n (k := 16) rfl rfl ?_
    refine tw_getR (k := 17) rfl fl_RX12_13 (fun x4 => ?_)
    refine tw_iconst (k := 18) (5 : Int32) rfl (by decide) ?_
    refine tw_iaload (k := 19) rfl (fun x5 => ?_)
    refine tw_icmp_lt (k := 20) 40 rfl (by decide) ?_ ?_
    · refine tw_iconst (k := 23) (4 : Int32) rfl (by decide) ?_
      exact tw_ireturn (k := 24) rfl rfl (by decide) (by decide)
    · refine tw_iconst (k := 21) (3 : Int32) rfl (by decide) ?_
      refine tw_goto (k := 22) 41 rfl (by decide) ?_
      exact tw_ireturn (k := 24) rfl rfl (by decide) (by decide)
  · refine tw_iconst (k := 13) (2 : Int32) rfl (by decide) ?_
    refine tw_goto (k := 14) 41 rfl (by decide) ?_
    exact tw_ireturn (k := 24) rfl rfl (by decide) (by decide)
def mX12_bothRing : tw_MD := (yX12_bothRing, cX12_bothRing, 3, (some FieldType.boolean), [(0, .aload_n 0, 1, 1), (1, .iload_n 1, 1, 2), (2, .iload_n 2, 1, 3), (3, .invokevirtual 263, 3, 6), (6, .iconst 4, 1, 7), (7, .if_icmp .ne 7, 3, 10), (10, .iconst 1, 1, 11), (11, .goto 4, 3, 14), (14, .iconst 0, 1, 15), (15, .ireturn, 1, 16)], [])
theorem mo_X12_bothRing : tw_mok mX12_bothRing 2 := ⟨plainFor_of_name (by decide +kernel), by decide +kernel, by decide +kernel, by decide +kernel, by decide +kernel⟩
theorem dk_X12_bothRing : tw_dk mX12_bothRing := by unfold tw_dk; decide +kernel
theorem wv_RX12_263_X12_toneOf : tw_wV RX12 263 mX12_toneOf := ⟨List.mem_of_getElem? (i := 2115) (by decide +kernel), List.mem_of_getElem? (i := 2117) (by decide +kernel), List.mem_of_getElem? (i := 87) (by decide +kernel), List.mem_of_getElem? (i := 137) (by decide +kernel), List.mem_of_getElem? (i := 2118) (by decide +kernel)⟩
set_option maxRecDepth 20000 in
theorem K_X12_bothRing {g : tw_Gx} (Q : tw_Rs → tw_Mem → Prop) (a0 : Nat) (a1 : Int32) (a2 : Int32) : tw_Kt g mX12_bothRing 5 0 0 [.ref a0, .int a1, .int a2] Q (f_X12_bothRing a0 a1 a2 (fun v => Q (.inl (some (.int v))))) := by
  refine tw_mkK (L := [some (.ref a0), some (.int a1), some (.int a2)]) mo_X12_bothRing dk_X12_bothRing rfl (Nat.le_of_ble_eq_true rfl) rfl ?_
  unfold f_X12_bothRing
  refine tw_aload_n (k := 0) rfl rfl ?_
  refine tw_iload_n (k := 1) rfl rfl ?_
  refine tw_iload_n (k := 2) rfl rfl ?_
  refine tw_callV (k := 3) (d' := 4) (mc' := 0) (ms' := 0) tw_cI tw_cIi [.int a1, .int a2] rfl rfl wv_RX12_263_X12_toneOf mo_X12_toneOf (t := 11) rfl rfl rfl (fun Q9 => K_X12_toneOf Q9 a0 a1 a2) (by omega) (by decide) (by decide) (Nat.le_of_ble_eq_true rfl) (fun x1 => ?_)
  refine tw_iconst (k := 4) (4 : Int32) rfl (by decide) ?_
  refine tw_icmp_ne (k := 5) 14 rfl (by decide) ?_ ?_
  · refine tw_iconst (k := 8) (0 : Int32) rfl (by decide) ?_
    exact tw_zreturn (k := 9) rfl rfl (by decide) (by decide)
  · refine tw_iconst (k := 6) (1 : Int32) rfl (by decide) ?_
    refine tw_goto (k := 7) 15 rfl (by decide) ?_
    exact tw_zreturn (k := 9) rfl rfl (by decide) (by decide)
def mX12_soundsTo : tw_MD := (yX12_soundsTo, cX12_soundsTo, 3, (some FieldType.int), [(0, .aload_n 0, 1, 1), (1, .getfield 13, 3, 4), (4, .iconst 2, 1, 5), (5, .iaload, 1, 6), (6, .ifCond .ne 5, 3, 9), (9, .iconst 1, 1, 10), (10, .ireturn, 1, 11), (11, .aload_n 0, 1, 12), (12, .aload_n 0, 1, 13), (13, .iload_n 1, 1, 14), (14, .iload_n 2, 1, 15), (15, .invokevirtual 266, 3, 18), (18, .putfield 249, 3, 21), (21, .aload_n 0, 1, 22), (22, .iconst 0, 1, 23), (23, .iload_n 1, 1, 24), (24, .iload_n 2, 1, 25), (25, .invokevirtual 269, 3, 28), (28, .aload_n 0, 1, 29), (29, .iconst 1, 1, 30), (30, .iload_n 1, 1, 31), (31, .iload_n 2, 1, 32), (32, .invokevirtual 269, 3, 35), (35, .isub, 1, 36), (36, .ireturn, 1, 37)], [])
theorem mo_X12_soundsTo : tw_mok mX12_soundsTo 2 := ⟨plainFor_of_name (by decide +kernel), by decide +kernel, by decide +kernel, by decide +kernel, by decide +kernel⟩
theorem dk_X12_soundsTo : tw_dk mX12_soundsTo := by unfold tw_dk; decide +kernel
theorem wv_RX12_269_X12_sumOf : tw_wV RX12 269 mX12_sumOf := ⟨List.mem_of_getElem? (i := 2120) (by decide +kernel), List.mem_of_getElem? (i := 2122) (by decide +kernel), List.mem_of_getElem? (i := 88) (by decide +kernel), List.mem_of_getElem? (i := 137) (by decide +kernel), List.mem_of_getElem? (i := 2123) (by decide +kernel)⟩
theorem wf_X12_soundsTo_249 : tw_wf mX12_soundsTo 249 88 := Or.inl rfl
theorem wv_RX12_266_X12_bothRing : tw_wV RX12 266 mX12_bothRing := ⟨List.mem_of_getElem? (i := 2111) (by decide +kernel), List.mem_of_getElem? (i := 2113) (by decide +kernel), List.mem_of_getElem? (i := 86) (by decide +kernel), List.mem_of_getElem? (i := 137) (by decide +kernel), List.mem_of_getElem? (i := 2114) (by decide +kernel)⟩
set_option maxRecDepth 20000 in
theorem K_X12_soundsTo {g : tw_Gx} (Q : tw_Rs → tw_Mem → Prop) (a0 : Nat) (a1 : Int32) (a2 : Int32) : tw_Kt g mX12_soundsTo 7 0 0 [.ref a0, .int a1, .int a2] Q (f_X12_soundsTo a0 a1 a2 (fun v => Q (.inl (some (.int v))))) := by
  refine tw_mkK (L := [some (.ref a0), some (.int a1), some (.int a2)]) mo_X12_soundsTo dk_X12_soundsTo rfl (Nat.le_of_ble_eq_true rfl) rfl ?_
  unfold f_X12_soundsTo
  refine tw_aload_n (k := 0) rfl rfl ?_
  refine tw_getR (k := 1) rfl fl_RX12_13 (fun x1 => ?_)
  refine tw_iconst (k := 2) (2 : Int32) rfl (by decide) ?_
  refine tw_iaload (k := 3) rfl (fun x2 => ?_)
  refine tw_if_ne (k := 4) 11 rfl (by decide) ?_ ?_
  · refine tw_aload_n (k := 7) rfl rfl ?_
    refine tw_aload_n (k := 8) rfl rfl ?_
    refine tw_iload_n (k := 9) rfl rfl ?_
    refine tw_iload_n (k := 10) rfl rfl ?_
    refine tw_callV (k := 11) (d' := 5) (mc' := 0) (ms' := 0) tw_cI tw_cIi [.int a1, .int a2] rfl rfl wv_RX12_266_X12_bothRing mo_X12_bothRing (t := 11) rfl rfl rfl (fun Q9 => K_X12_bothRing Q9 a0 a1 a2) (by omega) (by decide) (by decide) (Nat.le_of_ble_eq_true rfl) (fun x3 => ?_)
    refine tw_putZ (k := 12) rfl fl_RX12_249 wf_X12_soundsTo_249 (by decide +kernel) ?_
    refine tw_aload_n (k := 13) rfl rfl ?_
    refine tw_iconst (k := 14) (0 : Int32) rfl (by decide) ?_
    refine tw_iload_n (k := 15) rfl rfl ?_
    refine tw_iload_n (k := 16) rfl rfl ?_
    refine tw_callV (k := 17) (d' := 6) (mc' := 0) (ms' := 0) tw_cI tw_cIi [.int (0 : Int32), .int a1, .int a2] rfl rfl wv_RX12_269_X12_sumOf mo_X12_sumOf (t := 11) rfl rfl rfl (fun Q9 => K_X12_sumOf Q9 a0 (0 : Int32) a1 a2) (by omega) (by decide) (by decide) (Nat.le_of_ble_eq_true rfl) (fun x4 => ?_)
    refine tw_aload_n (k := 18) rfl rfl ?_
    refine tw_iconst (k := 19) (1 : Int32) rfl (by decide) ?_
    refine tw_iload_n (k := 20) rfl rfl ?_
    refine tw_iload_n (k := 21) rfl rfl ?_
    refine tw_callV (k := 22) (d' := 6) (mc' := 0) (ms' := 0) tw_cI tw_cIi [.int (1 : Int32), .int a1, .int a2] rfl rfl wv_RX12_269_X12_sumOf mo_X12_sumOf (t := 11) rfl rfl rfl (fun Q9 => K_X12_sumOf Q9 a0 (1 : Int32) a1 a2) (by omega) (by decide) (by decide) (Nat.le_of_ble_eq_true rfl) (fun x5 => ?_)
    refine tw_isub (k := 23) rfl ?_
    exact tw_ireturn (k := 24) rfl rfl (by decide) (by decide)
  · refine tw_iconst (k := 5) (1 : Int32) rfl (by decide) ?_
    exact tw_ireturn (k := 6) rfl rfl (by decide) (by decide)
def mX12_letsOutTo : tw_MD := (yX12_letsOutTo, cX12_letsOutTo, 3, (some FieldType.int), [(0, .aload_n 0, 1, 1), (1, .getfield 13, 3, 4), (4, .iconst 2, 1, 5), (5, .iaload, 1, 6), (6, .ifCond .ne 5, 3, 9), (9, .iconst 2, 1, 10), (10, .ireturn, 1, 11), (11, .aload_n 0, 1, 12), (12, .iconst 0, 1, 13), (13, .putfield 249, 3, 16), (16, .aload_n 0, 1, 17), (17, .iconst 2, 1, 18), (18, .iload_n 1, 1, 19), (19, .iload_n 2, 1, 20), (20, .invokevirtual 269, 3, 23), (23, .aload_n 0, 1, 24), (24, .iconst 1, 1, 25), (25, .iload_n 1, 1, 26), (26, .iload_n 2, 1, 27), (27, .invokevirtual 269, 3, 30), (30, .isub, 1, 31), (31, .ireturn, 1, 32)], [])
theorem mo_X12_letsOutTo : tw_mok mX12_letsOutTo 2 := ⟨plainFor_of_name (by decide +kernel), by decide +kernel, by decide +kernel, by decide +kernel, by decide +kernel⟩
theorem dk_X12_letsOutTo : tw_dk mX12_letsOutTo := by unfold tw_dk; decide +kernel
theorem wf_X12_letsOutTo_249 : tw_wf mX12_letsOutTo 249 88 := Or.inl rfl
set_option maxRecDepth 20000 in
theorem K_X12_letsOutTo {g : tw_Gx} (Q : tw_Rs → tw_Mem → Prop) (a0 : Nat) (a1 : Int32) (a2 : Int32) : tw_Kt g mX12_letsOutTo 7 0 0 [.ref a0, .int a1, .int a2] Q (f_X12_letsOutTo a0 a1 a2 (fun v => Q (.inl (some (.int v))))) := by
  refine tw_mkK (L := [some (.ref a0), some (.int a1), some (.int a2)]) mo_X12_letsOutTo dk_X12_letsOutTo rfl (Nat.le_of_ble_eq_true rfl) rfl ?_
  unfold f_X12_letsOutTo
  refine tw_aload_n (k := 0) rfl rfl ?_
  refine tw_getR (k := 1) rfl fl_RX12_13 (fun x1 => ?_)
  refine tw_iconst (k := 2) (2 : Int32) rfl (by decide) ?_
  refine tw_iaload (k := 3) rfl (fun x2 => ?_)
  refine tw_if_ne (k := 4) 11 rfl (by decide) ?_ ?_
  · refine tw_aload_n (k := 7) rfl rfl ?_
    refine tw_iconst (k := 8) (0 : Int32) rfl (by decide) ?_
    refine tw_putZ (k := 9) rfl fl_RX12_249 wf_X12_letsOutTo_249 (by decide +kernel) ?_
    refine tw_aload_n (k := 10) rfl rfl ?_
    refine tw_iconst (k := 11) (2 : Int32) rfl (by decide) ?_
    refine tw_iload_n (k := 12) rfl rfl ?_
    refine tw_iload_n (k := 13) rfl rfl ?_
    refine tw_callV (k := 14) (d' := 6) (mc' := 0) (ms' := 0) tw_cI tw_cIi [.int (2 : Int32), .int a1, .int a2] rfl rfl wv_RX12_269_X12_sumOf mo_X12_sumOf (t := 11) rfl rfl rfl (fun Q9 => K_X12_sumOf Q9 a0 (2 : Int32) a1 a2) (by omega) (by decide) (by decide) (Nat.le_of_ble_eq_true rfl) (fun x3 => ?_)
    refine tw_aload_n (k := 15) rfl rfl ?_
    refine tw_iconst (k := 16) (1 : Int32) rfl (by decide) ?_
    refine tw_iload_n (k := 17) rfl rfl ?_
    refine tw_iload_n (k := 18) rfl rfl ?_
    refine tw_callV (k := 19) (d' := 6) (mc' := 0) (ms' := 0) tw_cI tw_cIi [.int (1 : Int32), .int a1, .int a2] rfl rfl wv_RX12_269_X12_sumOf mo_X12_sumOf (t := 11) rfl rfl rfl (fun Q9 => K_X12_sumOf Q9 a0 (1 : Int32) a1 a2) (by omega) (by decide) (by decide) (Nat.le_of_ble_eq_true rfl) (fun x4 => ?_)
    refine tw_isub (k := 20) rfl ?_
    exact tw_ireturn (k := 21) rfl rfl (by decide) (by decide)
  · refine tw_iconst (k := 5) (2 : Int32) rfl (by decide) ?_
    exact tw_ireturn (k := 6) rfl rfl (by decide) (by decide)
def mX12_guesses : tw_MD := (yX12_guesses, cX12_guesses, 4, none, [(0, .aload_n 0, 1, 1), (1, .getfield 13, 3, 4), (4, .iload_n 1, 1, 5), (5, .iconst 4, 1, 6), (6, .iload_n 2, 1, 7), (7, .iadd, 1, 8), (8, .invokestatic 66, 3, 11), (11, .iconst 0, 1, 12), (12, .bipush 9, 2, 14), (14, .iload_n 3, 1, 15), (15, .invokestatic 273, 3, 18), (18, .invokestatic 258, 3, 21), (21, .iastore, 1, 22), (22, .return_, 1, 23)], [])
theorem mo_X12_guesses : tw_mok mX12_guesses 3 := ⟨plainFor_of_name (by decide +kernel), by decide +kernel, by decide +kernel, by decide +kernel, by decide +kernel⟩
theorem dk_X12_guesses : tw_dk mX12_guesses := by unfold tw_dk; decide +kernel
theorem ws_RX12_273_J9_min_7cf53 : tw_wS RX12 273 mJ9_min_7cf53 := ⟨List.mem_of_getElem? (i := 2194) (by decide +kernel), List.mem_of_getElem? (i := 609) (by decide +kernel), List.mem_of_getElem? (i := 148) (by decide +kernel), List.mem_of_getElem? (i := 610) (by decide +kernel)⟩
set_option maxRecDepth 20000 in
theorem K_X12_guesses {g : tw_Gx} (Q : tw_Rs → tw_Mem → Prop) (a0 : Nat) (a1 : Int32) (a2 : Int32) (a3 : Int32) : tw_Kt g mX12_guesses 2 0 0 [.ref a0, .int a1, .int a2, .int a3] Q (f_X12_guesses a0 a1 a2 a3 (fun v => Q (.inl none))) := by
  refine tw_mkK (L := [some (.ref a0), some (.int a1), some (.int a2), some (.int a3)]) mo_X12_guesses dk_X12_guesses rfl (Nat.le_of_ble_eq_true rfl) rfl ?_
  unfold f_X12_guesses
  refine tw_aload_n (k := 0) rfl rfl ?_
  refine tw_getR (k := 1) rfl fl_RX12_13 (fun x1 => ?_)
  refine tw_iload_n (k := 2) rfl rfl ?_
  refine tw_iconst (k := 3) (4 : Int32) rfl (by decide) ?_
  refine tw_iload_n (k := 4) rfl rfl ?_
  refine tw_iadd (k := 5) rfl ?_
  refine tw_callS (k := 6) (d' := 1) (mc' := 0) (ms' := 0) tw_cI tw_cIi [.int a1, .int ((4 : Int32) + a2)] rfl rfl ws_RX12_66_X12_at mo_X12_at rfl (fun Q9 => K_X12_at Q9 a1 ((4 : Int32) + a2)) (by omega) (by decide) (by decide) (Nat.le_of_ble_eq_true rfl) (fun x2 => ?_)
  refine tw_iconst (k := 7) (0 : Int32) rfl (by decide) ?_
  refine tw_bipush (k := 8) (9 : Int32) rfl (by decide) ?_
  refine tw_iload_n (k := 9) rfl rfl ?_
  refine tw_callS (k := 10) (d' := 1) (mc' := 0) (ms' := 0) tw_cI tw_cIi [.int (9 : Int32), .int a3] rfl rfl ws_RX12_273_J9_min_7cf53 mo_J9_min_7cf53 rfl (fun Q9 => K_J9_min_7cf53 Q9 (9 : Int32) a3) (by omega) (by decide) (by decide) (Nat.le_of_ble_eq_true rfl) (fun x3 => ?_)
  refine tw_callS (k := 11) (d' := 1) (mc' := 0) (ms' := 0) tw_cI tw_cIi [.int (0 : Int32), .int x3] rfl rfl ws_RX12_258_J9_max_7cf53 mo_J9_max_7cf53 rfl (fun Q9 => K_J9_max_7cf53 Q9 (0 : Int32) x3) (by omega) (by decide) (by decide) (Nat.le_of_ble_eq_true rfl) (fun x4 => ?_)
  refine tw_iastore (k := 12) rfl ?_
  exact tw_return (k := 13) rfl rfl (by decide) (by decide)
def mX12_knowOf : tw_MD := (yX12_knowOf, cX12_knowOf, 3, (some FieldType.boolean), [(0, .aload_n 0, 1, 1), (1, .iload_n 1, 1, 2), (2, .iload_n 2, 1, 3), (3, .invokevirtual 243, 3, 6), (6, .bipush 9, 2, 8), (8, .if_icmp .eq 14, 3, 11), (11, .aload_n 0, 1, 12), (12, .iload_n 2, 1, 13), (13, .iload_n 1, 1, 14), (14, .invokevirtual 243, 3, 17), (17, .bipush 9, 2, 19), (19, .if_icmp .ne 7, 3, 22), (22, .iconst 1, 1, 23), (23, .goto 4, 3, 26), (26, .iconst 0, 1, 27), (27, .ireturn, 1, 28)], [])
theorem mo_X12_knowOf : tw_mok mX12_knowOf 2 := ⟨plainFor_of_name (by decide +kernel), by decide +kernel, by decide +kernel, by decide +kernel, by decide +kernel⟩
theorem dk_X12_knowOf : tw_dk mX12_knowOf := by unfold tw_dk; decide +kernel
set_option maxRecDepth 20000 in
theorem K_X12_knowOf {g : tw_Gx} (Q : tw_Rs → tw_Mem → Prop) (a0 : Nat) (a1 : Int32) (a2 : Int32) : tw_Kt g mX12_knowOf 4 0 0 [.ref a0, .int a1, .int a2] Q (f_X12_knowOf a0 a1 a2 (fun v => Q (.inl (some (.int v))))) := by
  refine tw_mkK (L := [some (.ref a0), some (.int a1), some (.int a2)]) mo_X12_knowOf dk_X12_knowOf rfl (Nat.le_of_ble_eq_true rfl) rfl ?_
  unfold f_X12_knowOf
  refine tw_aload_n (k := 0) rfl rfl ?_
  refine tw_iload_n (k := 1) rfl rfl ?_
  refine tw_iload_n (k := 2) rfl rfl ?_
  refine tw_callV (k := 3) (d' := 3) (mc' := 0) (ms' := 0) tw_cI tw_cIi [.int a1, .int a2] rfl rfl wv_RX12_243_X12_guessOf mo_X12_guessOf (t := 11) rfl rfl rfl (fun Q9 => K_X12_guessOf Q9 a0 a1 a2) (by omega) (by decide) (by decide) (Nat.le_of_ble_eq_true rfl) (fun x1 => ?_)
  refine tw_bipush (k := 4) (9 : Int32) rfl (by decide) ?_
  refine tw_icmp_eq (k := 5) 22 rfl (by decide) ?_ ?_
  · refine tw_iconst (k := 12) (1 : Int32) rfl (by decide) ?_
    refine tw_goto (k := 13) 27 rfl (by decide) ?_
    exact tw_zreturn (k := 15) rfl rfl (by decide) (by decide)
  · refine tw_aload_n (k := 6) rfl rfl ?_
    refine tw_iload_n (k := 7) rfl rfl ?_
    refine tw_iload_n (k := 8) rfl rfl ?_
    refine tw_callV (k := 9) (d' := 3) (mc' := 0) (ms' := 0) tw_cI tw_cIi [.int a2, .int a1] rfl rfl wv_RX12_243_X12_guessOf mo_X12_guessOf (t := 11) rfl rfl rfl (fun Q9 => K_X12_guessOf Q9 a0 a2 a1) (by omega) (by decide) (by decide) (Nat.le_of_ble_eq_true rfl) (fun x2 => ?_)
    refine tw_bipush (k := 10) (9 : Int32) rfl (by decide) ?_
    refine tw_icmp_ne (k := 11) 26 rfl (by decide) ?_ ?_
    · refine tw_iconst (k := 14) (0 : Int32) rfl (by decide) ?_
      exact tw_zreturn (k := 15) rfl rfl (by decide) (by decide)
    · refine tw_iconst (k := 12) (1 : Int32) rfl (by decide) ?_
      refine tw_goto (k := 13) 27 rfl (by decide) ?_
      exact tw_zreturn (k := 15) rfl rfl (by decide) (by decide)
def mX12_knownBy : tw_MD := (yX12_knownBy, cX12_knownBy, 4, (some FieldType.int), [(0, .iconst 0, 1, 1), (1, .istore_n 2, 1, 2), (2, .iconst 0, 1, 3), (3, .istore_n 3, 1, 4), (4, .iload_n 3, 1, 5), (5, .aload_n 0, 1, 6), (6, .invokevirtual 62, 3, 9), (9, .if_icmp .ge 35, 3, 12), (12, .iload_n 2, 1, 13), (13, .iload_n 3, 1, 14), (14, .iload_n 1, 1, 15), (15, .if_icmp .eq 20, 3, 18), (18, .aload_n 0, 1, 19), (19, .iload_n 1, 1, 20), (20, .iload_n 3, 1, 21), (21, .invokevirtual 243, 3, 24), (24, .bipush 9, 2, 26), (26, .if_icmp .ne 9, 3, 29), (29, .iconst 1, 1, 30), (30, .iload_n 3, 1, 31), (31, .ishl, 1, 32), (32, .goto 4, 3, 35), (35, .iconst 0, 1, 36), (36, .ior, 1, 37), (37, .istore_n 2, 1, 38), (38, .iinc 3 1, 3, 41), (41, .goto (-37), 3, 44), (44, .iload_n 2, 1, 45), (45, .ireturn, 1, 46)], [])
theorem mo_X12_knownBy : tw_mok mX12_knownBy 1 := ⟨plainFor_of_name (by decide +kernel), by decide +kernel, by decide +kernel, by decide +kernel, by decide +kernel⟩
theorem dk_X12_knownBy : tw_dk mX12_knownBy := by unfold tw_dk; decide +kernel
set_option maxRecDepth 20000 in
theorem K_X12_knownBy {g : tw_Gx} (Q : tw_Rs → tw_Mem → Prop) (a0 : Nat) (a1 : Int32) : tw_Kt g mX12_knownBy 4 0 0 [.ref a0, .int a1] Q (f_X12_knownBy a0 a1 (fun v => Q (.inl (some (.int v))))) := by
  refine tw_mkK (L := [some (.ref a0), some (.int a1), none, none]) mo_X12_knownBy dk_X12_knownBy rfl (Nat.le_of_ble_eq_true rfl) rfl ?_
  unfold f_X12_knownBy
  refine tw_iconst (k := 0) (0 : Int32) rfl (by decide) ?_
  refine tw_ist_n (k := 1) [some (.ref a0), some (.int a1), some (.int (0 : Int32)), none] rfl (Nat.le_of_ble_eq_true rfl) rfl rfl ?_
  refine tw_iconst (k := 2) (0 : Int32) rfl (by decide) ?_
  refine tw_ist_n (k := 3) [some (.ref a0), some (.int a1), some (.int (0 : Int32)), some (.int (0 : Int32))] rfl (Nat.le_of_ble_eq_true rfl) rfl rfl ?_
  refine tw_loop (fun s2 => [some (.ref a0), some (.int a1), some (.int s2.1), some (.int s2.2)]) (fun s2 => []) (fun r1 h1 s2 => ?_) _ rfl rfl
  refine tw_iload_n (k := 4) rfl rfl ?_
  refine tw_aload_n (k := 5) rfl rfl ?_
  refine tw_callV (k := 6) (d' := 1) (mc' := 0) (ms' := 0) tw_cI tw_cIi [] rfl rfl wv_RX12_62_X12_people mo_X12_people (t := 11) rfl rfl rfl (fun Q9 => K_X12_people Q9 a0) (by omega) (by decide) (by decide) (Nat.le_of_ble_eq_true rfl) (fun x3 => ?_)
  refine tw_icmp_ge (k := 7) 44 rfl (by decide) ?_ ?_
  · refine tw_iload_n (k := 27) rfl rfl ?_
    exact tw_ireturn (k := 28) rfl rfl (by decide) (by decide)
  · refine tw_iload_n (k := 8) rfl rfl ?_
    refine tw_iload_n (k := 9) rfl rfl ?_
    refine tw_iload_n (k := 10) rfl rfl ?_
    refine tw_join 36 (fun s5 => [some (.ref a0), some (.int a1), some (.int s2.1), some (.int s2.2)]) (fun s5 => .int s5 :: .int s2.1 :: []) 0 0 (fun s5 => ?_) (fun j4 g4 => ?_)
    · refine tw_ior (k := 23) rfl ?_
      refine tw_let (fun x6 => [some (.ref a0), some (.int a1), some (.int s2.1), some (.int s2.2)]) (fun x6 => .int x6 :: []) rfl rfl (fun x6 => ?_)
      refine tw_ist_n (k := 24) [some (.ref a0), some (.int a1), some (.int x6), some (.int s2.2)] rfl (Nat.le_of_ble_eq_true rfl) rfl rfl ?_
      refine tw_inc (k := 25) (1 : Int32) [some (.ref a0), some (.int a1), some (.int x6), some (.int (s2.2 + (1 : Int32)))] rfl rfl (by decide) (Nat.le_of_ble_eq_true rfl) rfl rfl ?_
      refine tw_goto (k := 26) 4 rfl (by decide) ?_
      exact h1 (x6, s2.2 + (1 : Int32))
    · refine tw_join 35 (fun s8 => [some (.ref a0), some (.int a1), some (.int s2.1), some (.int s2.2)]) (fun s8 => .int s2.1 :: []) 0 0 (fun s8 => ?_) (fun j7 g7 => ?_)
      · refine tw_iconst (k := 22) (0 : Int32) rfl (by decide) ?_
        exact g4 (0 : Int32)
      · refine tw_icmp_eq (k := 11) 35 rfl (by decide) ?_ ?_
        · exact g7 ()
        · refine tw_aload_n (k := 12) rfl rfl ?_
          refine tw_iload_n (k := 13) rfl rfl ?_
          refine tw_iload_n (k := 14) rfl rfl ?_
          refine tw_callV (k := 15) (d' := 3) (mc' := 0) (ms' := 0) tw_cI tw_cIi [.int a1, .int s2.2] rfl rfl wv_RX12_243_X12_guessOf mo_X12_guessOf (t := 11) rfl rfl rfl (fun Q9 => K_X12_guessOf Q9 a0 a1 s2.2) (by omega) (by decide) (by decide) (Nat.le_of_ble_eq_true rfl) (fun x9 => ?_)
          refine tw_bipush (k := 16) (9 : Int32) rfl (by decide) ?_
          refine tw_icmp_ne (k := 17) 35 rfl (by decide) ?_ ?_
          · exact g7 ()
          · refine tw_iconst (k := 18) (1 : Int32) rfl (by decide) ?_
            refine tw_iload_n (k := 19) rfl rfl ?_
            refine tw_ishl (k := 20) rfl ?_
            refine tw_goto (k := 21) 36 rfl (by decide) ?_
            exact g4 ((1 : Int32) <<< (s2.2 &&& 31))
def mX12_toneAt : tw_MD := (yX12_toneAt, cX12_toneAt, 4, (some FieldType.int), [(0, .aload_n 0, 1, 1), (1, .iconst 0, 1, 2), (2, .iload_n 1, 1, 3), (3, .invokevirtual 139, 3, 6), (6, .istore_n 2, 1, 7), (7, .aload_n 0, 1, 8), (8, .iconst 1, 1, 9), (9, .iload_n 1, 1, 10), (10, .invokevirtual 139, 3, 13), (13, .istore_n 3, 1, 14), (14, .iload_n 2, 1, 15), (15, .iconst (-1), 1, 16), (16, .if_icmp .ne 10, 3, 19), (19, .iload_n 3, 1, 20), (20, .iconst (-1), 1, 21), (21, .if_icmp .ne 5, 3, 24), (24, .iconst 0, 1, 25), (25, .ireturn, 1, 26), (26, .iload_n 2, 1, 27), (27, .iconst (-1), 1, 28), (28, .if_icmp .eq 8, 3, 31), (31, .iload_n 3, 1, 32), (32, .iconst (-1), 1, 33), (33, .if_icmp .ne 7, 3, 36), (36, .iconst 1, 1, 37), (37, .goto 9, 3, 40), (40, .aload_n 0, 1, 41), (41, .iload_n 2, 1, 42), (42, .iload_n 3, 1, 43), (43, .invokevirtual 263, 3, 46), (46, .ireturn, 1, 47)], [])
theorem mo_X12_toneAt : tw_mok mX12_toneAt 1 := ⟨plainFor_of_name (by decide +kernel), by decide +kernel, by decide +kernel, by decide +kernel, by decide +kernel⟩
theorem dk_X12_toneAt : tw_dk mX12_toneAt := by unfold tw_dk; decide +kernel
set_option maxRecDepth 20000 in
theorem K_X12_toneAt {g : tw_Gx} (Q : tw_Rs → tw_Mem → Prop) (a0 : Nat) (a1 : Int32) : tw_Kt g mX12_toneAt 5 0 0 [.ref a0, .int a1] Q (f_X12_toneAt a0 a1 (fun v => Q (.inl (some (.int v))))) := by
  refine tw_mkK (L := [some (.ref a0), some (.int a1), none, none]) mo_X12_toneAt dk_X12_toneAt rfl (Nat.le_of_ble_eq_true rfl) rfl ?_
  unfold f_X12_toneAt
  refine tw_aload_n (k := 0) rfl rfl ?_
  refine tw_iconst (k := 1) (0 : Int32) rfl (by decide) ?_
  refine tw_iload_n (k := 2) rfl rfl ?_
  refine tw_callV (k := 3) (d' := 2) (mc' := 0) (ms' := 0) tw_cI tw_cIi [.int (0 : Int32), .int a1] rfl rfl wv_RX12_139_X12_inPlan mo_X12_inPlan (t := 11) rfl rfl rfl (fun Q9 => K_X12_inPlan Q9 a0 (0 : Int32) a1) (by omega) (by decide) (by decide) (Nat.le_of_ble_eq_true rfl) (fun x1 => ?_)
  refine tw_ist_n (k := 4) [some (.ref a0), some (.int a1), some (.int x1), none] rfl (Nat.le_of_ble_eq_true rfl) rfl rfl ?_
  refine tw_aload_n (k := 5) rfl rfl ?_
  refine tw_iconst (k := 6) (1 : Int32) rfl (by decide) ?_
  refine tw_iload_n (k := 7) rfl rfl ?_
  refine tw_callV (k := 8) (d' := 2) (mc' := 0) (ms' := 0) tw_cI tw_cIi [.int (1 : Int32), .int a1] rfl rfl wv_RX12_139_X12_inPlan mo_X12_inPlan (t := 11) rfl rfl rfl (fun Q9 => K_X12_inPlan Q9 a0 (1 : Int32) a1) (by omega) (by decide) (by decide) (Nat.le_of_ble_eq_true rfl) (fun x2 => ?_)
  refine tw_ist_n (k := 9) [some (.ref a0), some (.int a1), some (.int x1), some (.int x2)] rfl (Nat.le_of_ble_eq_true rfl) rfl rfl ?_
  refine tw_iload_n (k := 10) rfl rfl ?_
  refine tw_iconst (k := 11) (-1 : Int32) rfl (by decide) ?_
  refine tw_join 26 (fun s4 => [some (.ref a0), some (.int a1), some (.int x1), some (.int x2)]) (fun s4 => []) 0 0 (fun s4 => ?_) (fun j3 g3 => ?_)
  · refine tw_iload_n (k := 18) rfl rfl ?_
    refine tw_iconst (k := 19) (-1 : Int32) rfl (by decide) ?_
    refine tw_icmp_eq (k := 20) 36 rfl (by decide) ?_ ?_
    · refine tw_iconst (k := 24) (1 : Int32) rfl (by decide) ?_
      refine tw_goto (k := 25) 46 rfl (by decide) ?_
      exact tw_ireturn (k := 30) rfl rfl (by decide) (by decide)
    · refine tw_iload_n (k := 21) rfl rfl ?_
      refine tw_iconst (k := 22) (-1 : Int32) rfl (by decide) ?_
      refine tw_icmp_ne (k := 23) 40 rfl (by decide) ?_ ?_
      · refine tw_aload_n (k := 26) rfl rfl ?_
        refine tw_iload_n (k := 27) rfl rfl ?_
        refine tw_iload_n (k := 28) rfl rfl ?_
        refine tw_callV (k := 29) (d' := 4) (mc' := 0) (ms' := 0) tw_cI tw_cIi [.int x1, .int x2] rfl rfl wv_RX12_263_X12_toneOf mo_X12_toneOf (t := 11) rfl rfl rfl (fun Q9 => K_X12_toneOf Q9 a0 x1 x2) (by omega) (by decide) (by decide) (Nat.le_of_ble_eq_true rfl) (fun x5 => ?_)
        exact tw_ireturn (k := 30) rfl rfl (by decide) (by decide)
      · refine tw_iconst (k := 24) (1 : Int32) rfl (by decide) ?_
        refine tw_goto (k := 25) 46 rfl (by decide) ?_
        exact tw_ireturn (k := 30) rfl rfl (by decide) (by decide)
  · refine tw_icmp_ne (k := 12) 26 rfl (by decide) ?_ ?_
    · exact g3 ()
    · refine tw_iload_n (k := 13) rfl rfl ?_
      refine tw_iconst (k := 14) (-1 : Int32) rfl (by decide) ?_
      refine tw_icmp_ne (k := 15) 26 rfl (by decide) ?_ ?_
      · exact g3 ()
      · refine tw_iconst (k := 16) (0 : Int32) rfl (by decide) ?_
        exact tw_ireturn (k := 17) rfl rfl (by decide) (by decide)
def mX12_busyOf : tw_MD := (yX12_busyOf, cX12_busyOf, 4, (some FieldType.int), [(0, .iconst 0, 1, 1), (1, .istore_n 2, 1, 2), (2, .iconst 0, 1, 3), (3, .istore_n 3, 1, 4), (4, .iload_n 3, 1, 5), (5, .bipush 12, 2, 7), (7, .if_icmp .ge 39, 3, 10), (10, .iload_n 2, 1, 11), (11, .aload_n 0, 1, 12), (12, .iconst 0, 1, 13), (13, .iload_n 3, 1, 14), (14, .invokevirtual 139, 3, 17), (17, .iload_n 1, 1, 18), (18, .if_icmp .eq 13, 3, 21), (21, .aload_n 0, 1, 22), (22, .iconst 1, 1, 23), (23, .iload_n 3, 1, 24), (24, .invokevirtual 139, 3, 27), (27, .iload_n 1, 1, 28), (28, .if_icmp .ne 9, 3, 31), (31, .iconst 1, 1, 32), (32, .iload_n 3, 1, 33), (33, .ishl, 1, 34), (34, .goto 4, 3, 37), (37, .iconst 0, 1, 38), (38, .ior, 1, 39), (39, .istore_n 2, 1, 40), (40, .iinc 3 1, 3, 43), (43, .goto (-39), 3, 46), (46, .iload_n 2, 1, 47), (47, .ireturn, 1, 48)], [])
theorem mo_X12_busyOf : tw_mok mX12_busyOf 1 := ⟨plainFor_of_name (by decide +kernel), by decide +kernel, by decide +kernel, by decide +kernel, by decide +kernel⟩
theorem dk_X12_busyOf : tw_dk mX12_busyOf := by unfold tw_dk; decide +kernel
set_option maxRecDepth 20000 in
theorem K_X12_busyOf {g : tw_Gx} (Q : tw_Rs → tw_Mem → Prop) (a0 : Nat) (a1 : Int32) : tw_Kt g mX12_busyOf 3 0 0 [.ref a0, .int a1] Q (f_X12_busyOf a0 a1 (fun v => Q (.inl (some (.int v))))) := by
  refine tw_mkK (L := [some (.ref a0), some (.int a1), none, none]) mo_X12_busyOf dk_X12_busyOf rfl (Nat.le_of_ble_eq_true rfl) rfl ?_
  unfold f_X12_busyOf
  refine tw_iconst (k := 0) (0 : Int32) rfl (by decide) ?_
  refine tw_ist_n (k := 1) [some (.ref a0), some (.int a1), some (.int (0 : Int32)), none] rfl (Nat.le_of_ble_eq_true rfl) rfl rfl ?_
  refine tw_iconst (k := 2) (0 : Int32) rfl (by decide) ?_
  refine tw_ist_n (k := 3) [some (.ref a0), some (.int a1), some (.int (0 : Int32)), some (.int (0 : Int32))] rfl (Nat.le_of_ble_eq_true rfl) rfl rfl ?_
  refine tw_loop (fun s2 => [some (.ref a0), some (.int a1), some (.int s2.1), some (.int s2.2)]) (fun s2 => []) (fun r1 h1 s2 => ?_) _ rfl rfl
  refine tw_iload_n (k := 4) rfl rfl ?_
  refine tw_bipush (k := 5) (12 : Int32) rfl (by decide) ?_
  refine tw_icmp_ge (k := 6) 46 rfl (by decide) ?_ ?_
  · refine tw_iload_n (k := 29) rfl rfl ?_
    exact tw_ireturn (k := 30) rfl rfl (by decide) (by decide)
  · refine tw_iload_n (k := 7) rfl rfl ?_
    refine tw_aload_n (k := 8) rfl rfl ?_
    refine tw_iconst (k := 9) (0 : Int32) rfl (by decide) ?_
    refine tw_iload_n (k := 10) rfl rfl ?_
    refine tw_callV (k := 11) (d' := 2) (mc' := 0) (ms' := 0) tw_cI tw_cIi [.int (0 : Int32), .int s2.2] rfl rfl wv_RX12_139_X12_inPlan mo_X12_inPlan (t := 11) rfl rfl rfl (fun Q9 => K_X12_inPlan Q9 a0 (0 : Int32) s2.2) (by omega) (by decide) (by decide) (Nat.le_of_ble_eq_true rfl) (fun x3 => ?_)
    refine tw_iload_n (k := 12) rfl rfl ?_
    refine tw_join 38 (fun s5 => [some (.ref a0), some (.int a1), some (.int s2.1), some (.int s2.2)]) (fun s5 => .int s5 :: .int s2.1 :: []) 0 0 (fun s5 => ?_) (fun j4 g4 => ?_)
    · refine tw_ior (k := 25) rfl ?_
      refine tw_let (fun x6 => [some (.ref a0), some (.int a1), some (.int s2.1), some (.int s2.2)]) (fun x6 => .int x6 :: []) rfl rfl (fun x6 => ?_)
      refine tw_ist_n (k := 26) [some (.ref a0), some (.int a1), some (.int x6), some (.int s2.2)] rfl (Nat.le_of_ble_eq_true rfl) rfl rfl ?_
      refine tw_inc (k := 27) (1 : Int32) [some (.ref a0), some (.int a1), some (.int x6), some (.int (s2.2 + (1 : Int32)))] rfl rfl (by decide) (Nat.le_of_ble_eq_true rfl) rfl rfl ?_
      refine tw_goto (k := 28) 4 rfl (by decide) ?_
      exact h1 (x6, s2.2 + (1 : Int32))
    · refine tw_join 31 (fun s8 => [some (.ref a0), some (.int a1), some (.int s2.1), some (.int s2.2)]) (fun s8 => .int s2.1 :: []) 0 0 (fun s8 => ?_) (fun j7 g7 => ?_)
      · refine tw_iconst (k := 20) (1 : Int32) rfl (by decide) ?_
        refine tw_iload_n (k := 21) rfl rfl ?_
        refine tw_ishl (k := 22) rfl ?_
        refine tw_goto (k := 23) 38 rfl (by decide) ?_
        exact g4 ((1 : Int32) <<< (s2.2 &&& 31))
      · refine tw_icmp_eq (k := 13) 31 rfl (by decide) ?_ ?_
        · exact g7 ()
        · refine tw_aload_n (k := 14) rfl rfl ?_
          refine tw_iconst (k := 15) (1 : Int32) rfl (by decide) ?_
          refine tw_iload_n (k := 16) rfl rfl ?_
          refine tw_callV (k := 17) (d' := 2) (mc' := 0) (ms' := 0) tw_cI tw_cIi [.int (1 : Int32), .int s2.2] rfl rfl wv_RX12_139_X12_inPlan mo_X12_inPlan (t := 11) rfl rfl rfl (fun Q9 => K_X12_inPlan Q9 a0 (1 : Int32) s2.2) (by omega) (by decide) (by decide) (Nat.le_of_ble_eq_true rfl) (fun x9 => ?_)
          refine tw_iload_n (k := 18) rfl rfl ?_
          refine tw_icmp_ne (k := 19) 37 rfl (by decide) ?_ ?_
          · refine tw_iconst (k := 24) (0 : Int32) rfl (by decide) ?_
            exact g4 (0 : Int32)
          · exact g7 ()
def mX12_dueOf : tw_MD := (yX12_dueOf, cX12_dueOf, 2, (some FieldType.int), [(0, .aload_n 0, 1, 1), (1, .iload_n 1, 1, 2), (2, .invokevirtual 276, 3, 5), (5, .invokestatic 280, 3, 8), (8, .aload_n 0, 1, 9), (9, .iload_n 1, 1, 10), (10, .iconst 2, 1, 11), (11, .invokevirtual 70, 3, 14), (14, .imul, 1, 15), (15, .ireturn, 1, 16)], [])
theorem mo_X12_dueOf : tw_mok mX12_dueOf 1 := ⟨plainFor_of_name (by decide +kernel), by decide +kernel, by decide +kernel, by decide +kernel, by decide +kernel⟩
theorem dk_X12_dueOf : tw_dk mX12_dueOf := by unfold tw_dk; decide +kernel
theorem ws_RX12_280_J6_bitCount_0f7a4 : tw_wS RX12 280 mJ6_bitCount_0f7a4 := ⟨List.mem_of_getElem? (i := 2058) (by decide +kernel), List.mem_of_getElem? (i := 648) (by decide +kernel), List.mem_of_getElem? (i := 150) (by decide +kernel), List.mem_of_getElem? (i := 649) (by decide +kernel)⟩
theorem wv_RX12_276_X12_busyOf : tw_wV RX12 276 mX12_busyOf := ⟨List.mem_of_getElem? (i := 2050) (by decide +kernel), List.mem_of_getElem? (i := 2052) (by decide +kernel), List.mem_of_getElem? (i := 74) (by decide +kernel), List.mem_of_getElem? (i := 137) (by decide +kernel), List.mem_of_getElem? (i := 2053) (by decide +kernel)⟩
set_option maxRecDepth 20000 in
theorem K_X12_dueOf {g : tw_Gx} (Q : tw_Rs → tw_Mem → Prop) (a0 : Nat) (a1 : Int32) : tw_Kt g mX12_dueOf 4 0 0 [.ref a0, .int a1] Q (f_X12_dueOf a0 a1 (fun v => Q (.inl (some (.int v))))) := by
  refine tw_mkK (L := [some (.ref a0), some (.int a1)]) mo_X12_dueOf dk_X12_dueOf rfl (Nat.le_of_ble_eq_true rfl) rfl ?_
  unfold f_X12_dueOf
  refine tw_aload_n (k := 0) rfl rfl ?_
  refine tw_iload_n (k := 1) rfl rfl ?_
  refine tw_callV (k := 2) (d' := 3) (mc' := 0) (ms' := 0) tw_cI tw_cIi [.int a1] rfl rfl wv_RX12_276_X12_busyOf mo_X12_busyOf (t := 11) rfl rfl rfl (fun Q9 => K_X12_busyOf Q9 a0 a1) (by omega) (by decide) (by decide) (Nat.le_of_ble_eq_true rfl) (fun x1 => ?_)
  refine tw_callS (k := 3) (d' := 1) (mc' := 0) (ms' := 0) tw_cI tw_cIi [.int x1] rfl rfl ws_RX12_280_J6_bitCount_0f7a4 mo_J6_bitCount_0f7a4 rfl (fun Q9 => K_J6_bitCount_0f7a4 Q9 x1) (by omega) (by decide) (by decide) (Nat.le_of_ble_eq_true rfl) (fun x2 => ?_)
  refine tw_aload_n (k := 4) rfl rfl ?_
  refine tw_iload_n (k := 5) rfl rfl ?_
  refine tw_iconst (k := 6) (2 : Int32) rfl (by decide) ?_
  refine tw_callV (k := 7) (d' := 2) (mc' := 0) (ms' := 0) tw_cI tw_cIi [.int a1, .int (2 : Int32)] rfl rfl wv_RX12_70_X12_of mo_X12_of (t := 11) rfl rfl rfl (fun Q9 => K_X12_of Q9 a0 a1 (2 : Int32)) (by omega) (by decide) (by decide) (Nat.le_of_ble_eq_true rfl) (fun x3 => ?_)
  refine tw_imul (k := 8) rfl ?_
  exact tw_ireturn (k := 9) rfl rfl (by decide) (by decide)
def mX12_keptBy : tw_MD := (yX12_keptBy, cX12_keptBy, 4, (some FieldType.int), [(0, .iconst 0, 1, 1), (1, .istore_n 2, 1, 2), (2, .iconst 0, 1, 3), (3, .istore_n 3, 1, 4), (4, .iload_n 3, 1, 5), (5, .aload_n 0, 1, 6), (6, .invokevirtual 62, 3, 9), (9, .if_icmp .ge 31, 3, 12), (12, .iload_n 2, 1, 13), (13, .iload_n 3, 1, 14), (14, .iload_n 1, 1, 15), (15, .if_icmp .eq 16, 3, 18), (18, .aload_n 0, 1, 19), (19, .iload_n 3, 1, 20), (20, .iload_n 1, 1, 21), (21, .invokevirtual 243, 3, 24), (24, .ifCond .ne 7, 3, 27), (27, .iconst 1, 1, 28), (28, .goto 4, 3, 31), (31, .iconst 0, 1, 32), (32, .iadd, 1, 33), (33, .istore_n 2, 1, 34), (34, .iinc 3 1, 3, 37), (37, .goto (-33), 3, 40), (40, .iload_n 2, 1, 41), (41, .ireturn, 1, 42)], [])
theorem mo_X12_keptBy : tw_mok mX12_keptBy 1 := ⟨plainFor_of_name (by decide +kernel), by decide +kernel, by decide +kernel, by decide +kernel, by decide +kernel⟩
theorem dk_X12_keptBy : tw_dk mX12_keptBy := by unfold tw_dk; decide +kernel
set_option maxRecDepth 20000 in
theorem K_X12_keptBy {g : tw_Gx} (Q : tw_Rs → tw_Mem → Prop) (a0 : Nat) (a1 : Int32) : tw_Kt g mX12_keptBy 4 0 0 [.ref a0, .int a1] Q (f_X12_keptBy a0 a1 (fun v => Q (.inl (some (.int v))))) := by
  refine tw_mkK (L := [some (.ref a0), some (.int a1), none, none]) mo_X12_keptBy dk_X12_keptBy rfl (Nat.le_of_ble_eq_true rfl) rfl ?_
  unfold f_X12_keptBy
  refine tw_iconst (k := 0) (0 : Int32) rfl (by decide) ?_
  refine tw_ist_n (k := 1) [some (.ref a0), some (.int a1), some (.int (0 : Int32)), none] rfl (Nat.le_of_ble_eq_true rfl) rfl rfl ?_
  refine tw_iconst (k := 2) (0 : Int32) rfl (by decide) ?_
  refine tw_ist_n (k := 3) [some (.ref a0), some (.int a1), some (.int (0 : Int32)), some (.int (0 : Int32))] rfl (Nat.le_of_ble_eq_true rfl) rfl rfl ?_
  refine tw_loop (fun s2 => [some (.ref a0), some (.int a1), some (.int s2.1), some (.int s2.2)]) (fun s2 => []) (fun r1 h1 s2 => ?_) _ rfl rfl
  refine tw_iload_n (k := 4) rfl rfl ?_
  refine tw_aload_n (k := 5) rfl rfl ?_
  refine tw_callV (k := 6) (d' := 1) (mc' := 0) (ms' := 0) tw_cI tw_cIi [] rfl rfl wv_RX12_62_X12_people mo_X12_people (t := 11) rfl rfl rfl (fun Q9 => K_X12_people Q9 a0) (by omega) (by decide) (by decide) (Nat.le_of_ble_eq_true rfl) (fun x3 => ?_)
  refine tw_icmp_ge (k := 7) 40 rfl (by decide) ?_ ?_
  · refine tw_iload_n (k := 24) rfl rfl ?_
    exact tw_ireturn (k := 25) rfl rfl (by decide) (by decide)
  · refine tw_iload_n (k := 8) rfl rfl ?_
    refine tw_iload_n (k := 9) rfl rfl ?_
    refine tw_iload_n (k := 10) rfl rfl ?_
    refine tw_join 32 (fun s5 => [some (.ref a0), some (.int a1), some (.int s2.1), some (.int s2.2)]) (fun s5 => .int s5 :: .int s2.1 :: []) 0 0 (fun s5 => ?_) (fun j4 g4 => ?_)
    · refine tw_iadd (k := 20) rfl ?_
      refine tw_let (fun x6 => [some (.ref a0), some (.int a1), some (.int s2.1), some (.int s2.2)]) (fun x6 => .int x6 :: []) rfl rfl (fun x6 => ?_)
      refine tw_ist_n (k := 21) [some (.ref a0), some (.int a1), some (.int x6), some (.int s2.2)] rfl (Nat.le_of_ble_eq_true rfl) rfl rfl ?_
      refine tw_inc (k := 22) (1 : Int32) [some (.ref a0), some (.int a1), some (.int x6), some (.int (s2.2 + (1 : Int32)))] rfl rfl (by decide) (Nat.le_of_ble_eq_true rfl) rfl rfl ?_
      refine tw_goto (k := 23) 4 rfl (by decide) ?_
      exact h1 (x6, s2.2 + (1 : Int32))
    · refine tw_join 31 (fun s8 => [some (.ref a0), some (.int a1), some (.int s2.1), some (.int s2.2)]) (fun s8 => .int s2.1 :: []) 0 0 (fun s8 => ?_) (fun j7 g7 => ?_)
      · refine tw_iconst (k := 19) (0 : Int32) rfl (by decide) ?_
        exact g4 (0 : Int32)
      · refine tw_icmp_eq (k := 11) 31 rfl (by decide) ?_ ?_
        · exact g7 ()
        · refine tw_aload_n (k := 12) rfl rfl ?_
          refine tw_iload_n (k := 13) rfl rfl ?_
          refine tw_iload_n (k := 14) rfl rfl ?_
          refine tw_callV (k := 15) (d' := 3) (mc' := 0) (ms' := 0) tw_cI tw_cIi [.int s2.2, .int a1] rfl rfl wv_RX12_243_X12_guessOf mo_X12_guessOf (t := 11) rfl rfl rfl (fun Q9 => K_X12_guessOf Q9 a0 s2.2 a1) (by omega) (by decide) (by decide) (Nat.le_of_ble_eq_true rfl) (fun x9 => ?_)
          refine tw_if_ne (k := 16) 31 rfl (by decide) ?_ ?_
          · exact g7 ()
          · refine tw_iconst (k := 17) (1 : Int32) rfl (by decide) ?_
            refine tw_goto (k := 18) 32 rfl (by decide) ?_
            exact g4 (1 : Int32)
def mX12_ofLog : tw_MD := (yX12_ofLog, cX12_ofLog, 3, (some FieldType.int), [(0, .aload_n 0, 1, 1), (1, .getfield 13, 3, 4), (4, .sipush 192, 3, 7), (7, .iconst 5, 1, 8), (8, .iload_n 1, 1, 9), (9, .imul, 1, 10), (10, .iadd, 1, 11), (11, .iload_n 2, 1, 12), (12, .iadd, 1, 13), (13, .iaload, 1, 14), (14, .ireturn, 1, 15)], [])
theorem mo_X12_ofLog : tw_mok mX12_ofLog 2 := ⟨plainFor_of_name (by decide +kernel), by decide +kernel, by decide +kernel, by decide +kernel, by decide +kernel⟩
theorem dk_X12_ofLog : tw_dk mX12_ofLog := by unfold tw_dk; decide +kernel
set_option maxRecDepth 20000 in
theorem K_X12_ofLog {g : tw_Gx} (Q : tw_Rs → tw_Mem → Prop) (a0 : Nat) (a1 : Int32) (a2 : Int32) : tw_Kt g mX12_ofLog 1 0 0 [.ref a0, .int a1, .int a2] Q (f_X12_ofLog a0 a1 a2 (fun v => Q (.inl (some (.int v))))) := by
  refine tw_mkK (L := [some (.ref a0), some (.int a1), some (.int a2)]) mo_X12_ofLog dk_X12_ofLog rfl (Nat.le_of_ble_eq_true rfl) rfl ?_
  unfold f_X12_ofLog
  refine tw_aload_n (k := 0) rfl rfl ?_
  refine tw_getR (k := 1) rfl fl_RX12_13 (fun x1 => ?_)
  refine tw_sipush (k := 2) (192 : Int32) rfl (by decide) ?_
  refine tw_iconst (k := 3) (5 : Int32) rfl (by decide) ?_
  refine tw_iload_n (k := 4) rfl rfl ?_
  refine tw_imul (k := 5) rfl ?_
  refine tw_iadd (k := 6) rfl ?_
  refine tw_iload_n (k := 7) rfl rfl ?_
  refine tw_iadd (k := 8) rfl ?_
  refine tw_iaload (k := 9) rfl (fun x2 => ?_)
  exact tw_ireturn (k := 10) rfl rfl (by decide) (by decide)
def mX12_shareOf : tw_MD := (yX12_shareOf, cX12_shareOf, 5, (some FieldType.int), [(0, .iconst 0, 1, 1), (1, .istore_n 2, 1, 2), (2, .iconst 0, 1, 3), (3, .istore_n 3, 1, 4), (4, .iconst 0, 1, 5), (5, .istore 4, 2, 7), (7, .iload 4, 2, 9), (9, .aload_n 0, 1, 10), (10, .getfield 13, 3, 13), (13, .bipush 6, 2, 15), (15, .iaload, 1, 16), (16, .if_icmp .ge 56, 3, 19), (19, .aload_n 0, 1, 20), (20, .iload 4, 2, 22), (22, .iconst 4, 1, 23), (23, .invokevirtual 285, 3, 26), (26, .iconst 4, 1, 27), (27, .if_icmp .eq 6, 3, 30), (30, .goto 36, 3, 33), (33, .iinc 2 1, 3, 36), (36, .iload_n 3, 1, 37), (37, .aload_n 0, 1, 38), (38, .iload 4, 2, 40), (40, .iconst 2, 1, 41), (41, .invokevirtual 285, 3, 44), (44, .iload_n 1, 1, 45), (45, .if_icmp .eq 14, 3, 48), (48, .aload_n 0, 1, 49), (49, .iload 4, 2, 51), (51, .iconst 3, 1, 52), (52, .invokevirtual 285, 3, 55), (55, .iload_n 1, 1, 56), (56, .if_icmp .ne 7, 3, 59), (59, .iconst 1, 1, 60), (60, .goto 4, 3, 63), (63, .iconst 0, 1, 64), (64, .iadd, 1, 65), (65, .istore_n 3, 1, 66), (66, .iinc 4 1, 3, 69), (69, .goto (-62), 3, 72), (72, .iload_n 2, 1, 73), (73, .ifCond .ne 7, 3, 76), (76, .iconst 0, 1, 77), (77, .goto 9, 3, 80), (80, .bipush 100, 2, 82), (82, .iload_n 3, 1, 83), (83, .imul, 1, 84), (84, .iload_n 2, 1, 85), (85, .idiv, 1, 86), (86, .ireturn, 1, 87)], [])
theorem mo_X12_shareOf : tw_mok mX12_shareOf 1 := ⟨plainFor_of_name (by decide +kernel), by decide +kernel, by decide +kernel, by decide +kernel, by decide +kernel⟩
theorem dk_X12_shareOf : tw_dk mX12_shareOf := by unfold tw_dk; decide +kernel
theorem wv_RX12_285_X12_ofLog : tw_wV RX12 285 mX12_ofLog := ⟨List.mem_of_getElem? (i := 2075) (by decide +kernel), List.mem_of_getElem? (i := 2077) (by decide +kernel), List.mem_of_getElem? (i := 80) (by decide +kernel), List.mem_of_getElem? (i := 137) (by decide +kernel), List.mem_of_getElem? (i := 2078) (by decide +kernel)⟩
set_option maxRecDepth 20000 in
theorem K_X12_shareOf {g : tw_Gx} (Q : tw_Rs → tw_Mem → Prop) (a0 : Nat) (a1 : Int32) : tw_Kt g mX12_shareOf 2 0 0 [.ref a0, .int a1] Q (f_X12_shareOf a0 a1 (fun v => Q (.inl (some (.int v))))) := by
  refine tw_mkK (L := [some (.ref a0), some (.int a1), none, none, none]) mo_X12_shareOf dk_X12_shareOf rfl (Nat.le_of_ble_eq_true rfl) rfl ?_
  unfold f_X12_shareOf
  refine tw_iconst (k := 0) (0 : Int32) rfl (by decide) ?_
  refine tw_ist_n (k := 1) [some (.ref a0), some (.int a1), some (.int (0 : Int32)), none, none] rfl (Nat.le_of_ble_eq_true rfl) rfl rfl ?_
  refine tw_iconst (k := 2) (0 : Int32) rfl (by decide) ?_
  refine tw_ist_n (k := 3) [some (.ref a0), some (.int a1), some (.int (0 : Int32)), some (.int (0 : Int32)), none] rfl (Nat.le_of_ble_eq_true rfl) rfl rfl ?_
  refine tw_iconst (k := 4) (0 : Int32) rfl (by decide) ?_
  refine tw_ist (k := 5) [some (.ref a0), some (.int a1), some (.int (0 : Int32)), some (.int (0 : Int32)), some (.int (0 : Int32))] rfl (Nat.le_of_ble_eq_true rfl) rfl rfl ?_
  refine tw_loop (fun s2 => [some (.ref a0), some (.int a1), some (.int s2.1), some (.int s2.2.1), some (.int s2.2.2)]) (fun s2 => []) (fun r1 h1 s2 => ?_) _ rfl rfl
  refine tw_iload (k := 6) rfl rfl ?_
  refine tw_aload_n (k := 7) rfl rfl ?_
  refine tw_getR (k := 8) rfl fl_RX12_13 (fun x3 => ?_)
  refine tw_bipush (k := 9) (6 : Int32) rfl (by decide) ?_
  refine tw_iaload (k := 10) rfl (fun x4 => ?_)
  refine tw_icmp_ge (k := 11) 72 rfl (by decide) ?_ ?_
  · refine tw_iload_n (k := 40) rfl rfl ?_
    refine tw_if_ne (k := 41) 80 rfl (by decide) ?_ ?_
    · refine tw_bipush (k := 44) (100 : Int32) rfl (by decide) ?_
      refine tw_iload_n (k := 45) rfl rfl ?_
      refine tw_imul (k := 46) rfl ?_
      refine tw_iload_n (k := 47) rfl rfl ?_
      refine tw_idiv (k := 48) rfl ?_
      exact tw_ireturn (k := 49) rfl rfl (by decide) (by decide)
    · refine tw_iconst (k := 42) (0 : Int32) rfl (by decide) ?_
      refine tw_goto (k := 43) 86 rfl (by decide) ?_
      exact tw_ireturn (k := 49) rfl rfl (by decide) (by decide)
  · refine tw_aload_n (k := 12) rfl rfl ?_
    refine tw_iload (k := 13) rfl rfl ?_
    refine tw_iconst (k := 14) (4 : Int32) rfl (by decide) ?_
    refine tw_callV (k := 15) (d' := 1) (mc' := 0) (ms' := 0) tw_cI tw_cIi [.int s2.2.2, .int (4 : Int32)] rfl rfl wv_RX12_285_X12_ofLog mo_X12_ofLog (t := 11) rfl rfl rfl (fun Q9 => K_X12_ofLog Q9 a0 s2.2.2 (4 : Int32)) (by omega) (by decide) (by decide) (Nat.le_of_ble_eq_true rfl) (fun x5 => ?_)
    refine tw_iconst (k := 16) (4 : Int32) rfl (by decide) ?_
    refine tw_join 66 (fun s7 => [some (.ref a0), some (.int a1), some (.int s7.1), some (.int s7.2), some (.int s2.2.2)]) (fun s7 => []) 0 0 (fun s7 => ?_) (fun j6 g6 => ?_)
    · refine tw_inc (k := 38) (1 : Int32) [some (.ref a0), some (.int a1), some (.int s7.1), some (.int s7.2), some (.int (s2.2.2 + (1 : Int32)))] rfl rfl (by decide) (Nat.le_of_ble_eq_true rfl) rfl rfl ?_
      refine tw_goto (k := 39) 7 rfl (by decide) ?_
      exact h1 (s7.1, s7.2, s2.2.2 + (1 : Int32))
    · refine tw_icmp_eq (k := 17) 33 rfl (by decide) ?_ ?_
      · refine tw_inc (k := 19) (1 : Int32) [some (.ref a0), some (.int a1), some (.int (s2.1 + (1 : Int32))), some (.int s2.2.1), some (.int s2.2.2)] rfl rfl (by decide) (Nat.le_of_ble_eq_true rfl) rfl rfl ?_
        refine tw_iload_n (k := 20) rfl rfl ?_
        refine tw_aload_n (k := 21) rfl rfl ?_
        refine tw_iload (k := 22) rfl rfl ?_
        refine tw_iconst (k := 23) (2 : Int32) rfl (by decide) ?_
        refine tw_callV (k := 24) (d' := 1) (mc' := 0) (ms' := 0) tw_cI tw_cIi [.int s2.2.2, .int (2 : Int32)] rfl rfl wv_RX12_285_X12_ofLog mo_X12_ofLog (t := 11) rfl rfl rfl (fun Q9 => K_X12_ofLog Q9 a0 s2.2.2 (2 : Int32)) (by omega) (by decide) (by decide) (Nat.le_of_ble_eq_true rfl) (fun x8 => ?_)
        refine tw_iload_n (k := 25) rfl rfl ?_
        refine tw_join 64 (fun s10 => [some (.ref a0), some (.int a1), some (.int (s2.1 + (1 : Int32))), some (.int s2.2.1), some (.int s2.2.2)]) (fun s10 => .int s10 :: .int s2.2.1 :: []) 0 0 (fun s10 => ?_) (fun j9 g9 => ?_)
        · refine tw_iadd (k := 36) rfl ?_
          refine tw_let (fun x11 => [some (.ref a0), some (.int a1), some (.int (s2.1 + (1 : Int32))), some (.int s2.2.1), some (.int s2.2.2)]) (fun x11 => .int x11 :: []) rfl rfl (fun x11 => ?_)
          refine tw_ist_n (k := 37) [some (.ref a0), some (.int a1), some (.int (s2.1 + (1 : Int32))), some (.int x11), some (.int s2.2.2)] rfl (Nat.le_of_ble_eq_true rfl) rfl rfl ?_
          exact g6 (s2.1 + (1 : Int32), x11)
        · refine tw_join 59 (fun s13 => [some (.ref a0), some (.int a1), some (.int (s2.1 + (1 : Int32))), some (.int s2.2.1), some (.int s2.2.2)]) (fun s13 => .int s2.2.1 :: []) 0 0 (fun s13 => ?_) (fun j12 g12 => ?_)
          · refine tw_iconst (k := 33) (1 : Int32) rfl (by decide) ?_
            refine tw_goto (k := 34) 64 rfl (by decide) ?_
            exact g9 (1 : Int32)
          · refine tw_icmp_eq (k := 26) 59 rfl (by decide) ?_ ?_
            · exact g12 ()
            · refine tw_aload_n (k := 27) rfl rfl ?_
              refine tw_iload (k := 28) rfl rfl ?_
              refine tw_iconst (k := 29) (3 : Int32) rfl (by decide) ?_
              refine tw_callV (k := 30) (d' := 1) (mc' := 0) (ms' := 0) tw_cI tw_cIi [.int s2.2.2, .int (3 : Int32)] rfl rfl wv_RX12_285_X12_ofLog mo_X12_ofLog (t := 11) rfl rfl rfl (fun Q9 => K_X12_ofLog Q9 a0 s2.2.2 (3 : Int32)) (by omega) (by decide) (by decide) (Nat.le_of_ble_eq_true rfl) (fun x14 => ?_)
              refine tw_iload_n (k := 31) rfl rfl ?_
              refine tw_icmp_ne (k := 32) 63 rfl (by decide) ?_ ?_
              · refine tw_iconst (k := 35) (0 : Int32) rfl (by decide) ?_
                exact g9 (0 : Int32)
              · exact g12 ()
      · refine tw_goto (k := 18) 66 rfl (by decide) ?_
        exact g6 (s2.1, s2.2.1)
def mX12_nearTo : tw_MD := (yX12_nearTo, cX12_nearTo, 4, (some FieldType.int), [(0, .iconst 0, 1, 1), (1, .istore_n 2, 1, 2), (2, .iconst 0, 1, 3), (3, .istore_n 3, 1, 4), (4, .iload_n 3, 1, 5), (5, .aload_n 0, 1, 6), (6, .invokevirtual 62, 3, 9), (9, .if_icmp .ge 33, 3, 12), (12, .iload_n 2, 1, 13), (13, .iload_n 3, 1, 14), (14, .iload_n 1, 1, 15), (15, .if_icmp .eq 18, 3, 18), (18, .aload_n 0, 1, 19), (19, .iload_n 1, 1, 20), (20, .iload_n 3, 1, 21), (21, .invokevirtual 246, 3, 24), (24, .ifCond .eq 9, 3, 27), (27, .iconst 1, 1, 28), (28, .iload_n 3, 1, 29), (29, .ishl, 1, 30), (30, .goto 4, 3, 33), (33, .iconst 0, 1, 34), (34, .ior, 1, 35), (35, .istore_n 2, 1, 36), (36, .iinc 3 1, 3, 39), (39, .goto (-35), 3, 42), (42, .iload_n 2, 1, 43), (43, .ireturn, 1, 44)], [])
theorem mo_X12_nearTo : tw_mok mX12_nearTo 1 := ⟨plainFor_of_name (by decide +kernel), by decide +kernel, by decide +kernel, by decide +kernel, by decide +kernel⟩
theorem dk_X12_nearTo : tw_dk mX12_nearTo := by unfold tw_dk; decide +kernel
set_option maxRecDepth 20000 in
theorem K_X12_nearTo {g : tw_Gx} (Q : tw_Rs → tw_Mem → Prop) (a0 : Nat) (a1 : Int32) : tw_Kt g mX12_nearTo 4 0 0 [.ref a0, .int a1] Q (f_X12_nearTo a0 a1 (fun v => Q (.inl (some (.int v))))) := by
  refine tw_mkK (L := [some (.ref a0), some (.int a1), none, none]) mo_X12_nearTo dk_X12_nearTo rfl (Nat.le_of_ble_eq_true rfl) rfl ?_
  unfold f_X12_nearTo
  refine tw_iconst (k := 0) (0 : Int32) rfl (by decide) ?_
  refine tw_ist_n (k := 1) [some (.ref a0), some (.int a1), some (.int (0 : Int32)), none] rfl (Nat.le_of_ble_eq_true rfl) rfl rfl ?_
  refine tw_iconst (k := 2) (0 : Int32) rfl (by decide) ?_
  refine tw_ist_n (k := 3) [some (.ref a0), some (.int a1), some (.int (0 : Int32)), some (.int (0 : Int32))] rfl (Nat.le_of_ble_eq_true rfl) rfl rfl ?_
  refine tw_loop (fun s2 => [some (.ref a0), some (.int a1), some (.int s2.1), some (.int s2.2)]) (fun s2 => []) (fun r1 h1 s2 => ?_) _ rfl rfl
  refine tw_iload_n (k := 4) rfl rfl ?_
  refine tw_aload_n (k := 5) rfl rfl ?_
  refine tw_callV (k := 6) (d' := 1) (mc' := 0) (ms' := 0) tw_cI tw_cIi [] rfl rfl wv_RX12_62_X12_people mo_X12_people (t := 11) rfl rfl rfl (fun Q9 => K_X12_people Q9 a0) (by omega) (by decide) (by decide) (Nat.le_of_ble_eq_true rfl) (fun x3 => ?_)
  refine tw_icmp_ge (k := 7) 42 rfl (by decide) ?_ ?_
  · refine tw_iload_n (k := 26) rfl rfl ?_
    exact tw_ireturn (k := 27) rfl rfl (by decide) (by decide)
  · refine tw_iload_n (k := 8) rfl rfl ?_
    refine tw_iload_n (k := 9) rfl rfl ?_
    refine tw_iload_n (k := 10) rfl rfl ?_
    refine tw_join 34 (fun s5 => [some (.ref a0), some (.int a1), some (.int s2.1), some (.int s2.2)]) (fun s5 => .int s5 :: .int s2.1 :: []) 0 0 (fun s5 => ?_) (fun j4 g4 => ?_)
    · refine tw_ior (k := 22) rfl ?_
      refine tw_let (fun x6 => [some (.ref a0), some (.int a1), some (.int s2.1), some (.int s2.2)]) (fun x6 => .int x6 :: []) rfl rfl (fun x6 => ?_)
      refine tw_ist_n (k := 23) [some (.ref a0), some (.int a1), some (.int x6), some (.int s2.2)] rfl (Nat.le_of_ble_eq_true rfl) rfl rfl ?_
      refine tw_inc (k := 24) (1 : Int32) [some (.ref a0), some (.int a1), some (.int x6), some (.int (s2.2 + (1 : Int32)))] rfl rfl (by decide) (Nat.le_of_ble_eq_true rfl) rfl rfl ?_
      refine tw_goto (k := 25) 4 rfl (by decide) ?_
      exact h1 (x6, s2.2 + (1 : Int32))
    · refine tw_join 33 (fun s8 => [some (.ref a0), some (.int a1), some (.int s2.1), some (.int s2.2)]) (fun s8 => .int s2.1 :: []) 0 0 (fun s8 => ?_) (fun j7 g7 => ?_)
      · refine tw_iconst (k := 21) (0 : Int32) rfl (by decide) ?_
        exact g4 (0 : Int32)
      · refine tw_icmp_eq (k := 11) 33 rfl (by decide) ?_ ?_
        · exact g7 ()
        · refine tw_aload_n (k := 12) rfl rfl ?_
          refine tw_iload_n (k := 13) rfl rfl ?_
          refine tw_iload_n (k := 14) rfl rfl ?_
          refine tw_callV (k := 15) (d' := 3) (mc' := 0) (ms' := 0) tw_cI tw_cIi [.int a1, .int s2.2] rfl rfl wv_RX12_246_X12_isNear mo_X12_isNear (t := 11) rfl rfl rfl (fun Q9 => K_X12_isNear Q9 a0 a1 s2.2) (by omega) (by decide) (by decide) (Nat.le_of_ble_eq_true rfl) (fun x9 => ?_)
          refine tw_if_eq (k := 16) 33 rfl (by decide) ?_ ?_
          · exact g7 ()
          · refine tw_iconst (k := 17) (1 : Int32) rfl (by decide) ?_
            refine tw_iload_n (k := 18) rfl rfl ?_
            refine tw_ishl (k := 19) rfl ?_
            refine tw_goto (k := 20) 34 rfl (by decide) ?_
            exact g4 ((1 : Int32) <<< (s2.2 &&& 31))
def mX12_person : tw_MD := (yX12_person, cX12_person, 3, (some FieldType.int), [(0, .aload_n 0, 1, 1), (1, .iconst 0, 1, 2), (2, .putfield 3, 3, 5), (5, .aload_n 0, 1, 6), (6, .aload_n 0, 1, 7), (7, .iload_n 1, 1, 8), (8, .invokevirtual 288, 3, 11), (11, .iconst 1, 1, 12), (12, .invokevirtual 240, 3, 15), (15, .ifCond .ne 26, 3, 18), (18, .aload_n 0, 1, 19), (19, .iload_n 2, 1, 20), (20, .iconst 0, 1, 21), (21, .bipush 9, 2, 23), (23, .invokestatic 76, 3, 26), (26, .ifCond .ne 7, 3, 29), (29, .iconst 1, 1, 30), (30, .goto 4, 3, 33), (33, .iconst 0, 1, 34), (34, .iconst 2, 1, 35), (35, .invokevirtual 240, 3, 38), (38, .ifCond .eq 5, 3, 41), (41, .iconst 0, 1, 42), (42, .ireturn, 1, 43), (43, .iload_n 2, 1, 44), (44, .tableswitch 76 4 9 #[40, 46, 52, 58, 64, 70], 40, 84), (84, .aload_n 0, 1, 85), (85, .iload_n 1, 1, 86), (86, .invokevirtual 276, 3, 89), (89, .ireturn, 1, 90), (90, .aload_n 0, 1, 91), (91, .iload_n 1, 1, 92), (92, .invokevirtual 291, 3, 95), (95, .ireturn, 1, 96), (96, .aload_n 0, 1, 97), (97, .iload_n 1, 1, 98), (98, .invokevirtual 294, 3, 101), (101, .ireturn, 1, 102), (102, .aload_n 0, 1, 103), (103, .iload_n 1, 1, 104), (104, .invokevirtual 297, 3, 107), (107, .ireturn, 1, 108), (108, .aload_n 0, 1, 109), (109, .iload_n 1, 1, 110), (110, .invokevirtual 300, 3, 113), (113, .ireturn, 1, 114), (114, .aload_n 0, 1, 115), (115, .iload_n 1, 1, 116), (116, .invokevirtual 303, 3, 119), (119, .ireturn, 1, 120), (120, .aload_n 0, 1, 121), (121, .iload_n 1, 1, 122), (122, .iload_n 2, 1, 123), (123, .invokevirtual 70, 3, 126), (126, .ireturn, 1, 127)], [])
theorem mo_X12_person : tw_mok mX12_person 2 := ⟨plainFor_of_name (by decide +kernel), by decide +kernel, by decide +kernel, by decide +kernel, by decide +kernel⟩
theorem dk_X12_person : tw_dk mX12_person := by unfold tw_dk; decide +kernel
theorem wv_RX12_291_X12_dueOf : tw_wV RX12 291 mX12_dueOf := ⟨List.mem_of_getElem? (i := 2054) (by decide +kernel), List.mem_of_getElem? (i := 2056) (by decide +kernel), List.mem_of_getElem? (i := 75) (by decide +kernel), List.mem_of_getElem? (i := 137) (by decide +kernel), List.mem_of_getElem? (i := 2057) (by decide +kernel)⟩
theorem wv_RX12_294_X12_keptBy : tw_wV RX12 294 mX12_keptBy := ⟨List.mem_of_getElem? (i := 2063) (by decide +kernel), List.mem_of_getElem? (i := 2065) (by decide +kernel), List.mem_of_getElem? (i := 77) (by decide +kernel), List.mem_of_getElem? (i := 137) (by decide +kernel), List.mem_of_getElem? (i := 2066) (by decide +kernel)⟩
theorem wv_RX12_297_X12_shareOf : tw_wV RX12 297 mX12_shareOf := ⟨List.mem_of_getElem? (i := 2071) (by decide +kernel), List.mem_of_getElem? (i := 2073) (by decide +kernel), List.mem_of_getElem? (i := 79) (by decide +kernel), List.mem_of_getElem? (i := 137) (by decide +kernel), List.mem_of_getElem? (i := 2074) (by decide +kernel)⟩
theorem wv_RX12_300_X12_nearTo : tw_wV RX12 300 mX12_nearTo := ⟨List.mem_of_getElem? (i := 2079) (by decide +kernel), List.mem_of_getElem? (i := 2081) (by decide +kernel), List.mem_of_getElem? (i := 81) (by decide +kernel), List.mem_of_getElem? (i := 137) (by decide +kernel), List.mem_of_getElem? (i := 2082) (by decide +kernel)⟩
theorem wv_RX12_303_X12_knownBy : tw_wV RX12 303 mX12_knownBy := ⟨List.mem_of_getElem? (i := 2087) (by decide +kernel), List.mem_of_getElem? (i := 2089) (by decide +kernel), List.mem_of_getElem? (i := 83) (by decide +kernel), List.mem_of_getElem? (i := 137) (by decide +kernel), List.mem_of_getElem? (i := 2090) (by decide +kernel)⟩
theorem wv_RX12_288_X12_nobody : tw_wV RX12 288 mX12_nobody := ⟨List.mem_of_getElem? (i := 2043) (by decide +kernel), List.mem_of_getElem? (i := 2045) (by decide +kernel), List.mem_of_getElem? (i := 73) (by decide +kernel), List.mem_of_getElem? (i := 137) (by decide +kernel), List.mem_of_getElem? (i := 2046) (by decide +kernel)⟩
theorem wf_X12_person_3 : tw_wf mX12_person 3 70 := Or.inl rfl
set_option maxRecDepth 20000 in
theorem K_X12_person {g : tw_Gx} (Q : tw_Rs → tw_Mem → Prop) (a0 : Nat) (a1 : Int32) (a2 : Int32) : tw_Kt g mX12_person 5 0 0 [.ref a0, .int a1, .int a2] Q (f_X12_person a0 a1 a2 (fun v => Q (.inl (some (.int v))))) := by
  refine tw_mkK (L := [some (.ref a0), some (.int a1), some (.int a2)]) mo_X12_person dk_X12_person rfl (Nat.le_of_ble_eq_true rfl) rfl ?_
  unfold f_X12_person
  refine tw_aload_n (k := 0) rfl rfl ?_
  refine tw_iconst (k := 1) (0 : Int32) rfl (by decide) ?_
  refine tw_putI (k := 2) rfl fl_RX12_3 wf_X12_person_3 (by decide +kernel) ?_
  refine tw_aload_n (k := 3) rfl rfl ?_
  refine tw_aload_n (k := 4) rfl rfl ?_
  refine tw_iload_n (k := 5) rfl rfl ?_
  refine tw_callV (k := 6) (d' := 2) (mc' := 0) (ms' := 0) tw_cI tw_cIi [.int a1] rfl rfl wv_RX12_288_X12_nobody mo_X12_nobody (t := 11) rfl rfl rfl (fun Q9 => K_X12_nobody Q9 a0 a1) (by omega) (by decide) (by decide) (Nat.le_of_ble_eq_true rfl) (fun x1 => ?_)
  refine tw_iconst (k := 7) (1 : Int32) rfl (by decide) ?_
  refine tw_callV (k := 8) (d' := 1) (mc' := 0) (ms' := 0) tw_cI tw_cIi [.int x1, .int (1 : Int32)] rfl rfl wv_RX12_240_X12_throwsIf mo_X12_throwsIf (t := 11) rfl rfl rfl (fun Q9 => K_X12_throwsIf Q9 a0 x1 (1 : Int32)) (by omega) (by decide) (by decide) (Nat.le_of_ble_eq_true rfl) (fun x2 => ?_)
  refine tw_if_ne (k := 9) 41 rfl (by decide) ?_ ?_
  · refine tw_iconst (k := 22) (0 : Int32) rfl (by decide) ?_
    exact tw_ireturn (k := 23) rfl rfl (by decide) (by decide)
  · refine tw_aload_n (k := 10) rfl rfl ?_
    refine tw_iload_n (k := 11) rfl rfl ?_
    refine tw_iconst (k := 12) (0 : Int32) rfl (by decide) ?_
    refine tw_bipush (k := 13) (9 : Int32) rfl (by decide) ?_
    refine tw_callS (k := 14) (d' := 1) (mc' := 0) (ms' := 0) tw_cI tw_cIi [.int a2, .int (0 : Int32), .int (9 : Int32)] rfl rfl ws_RX12_76_X12_in mo_X12_in rfl (fun Q9 => K_X12_in Q9 a2 (0 : Int32) (9 : Int32)) (by omega) (by decide) (by decide) (Nat.le_of_ble_eq_true rfl) (fun x3 => ?_)
    refine tw_join 34 (fun s5 => [some (.ref a0), some (.int a1), some (.int a2)]) (fun s5 => .int s5 :: .ref a0 :: []) 0 0 (fun s5 => ?_) (fun j4 g4 => ?_)
    · refine tw_iconst (k := 19) (2 : Int32) rfl (by decide) ?_
      refine tw_callV (k := 20) (d' := 1) (mc' := 0) (ms' := 0) tw_cI tw_cIi [.int s5, .int (2 : Int32)] rfl rfl wv_RX12_240_X12_throwsIf mo_X12_throwsIf (t := 11) rfl rfl rfl (fun Q9 => K_X12_throwsIf Q9 a0 s5 (2 : Int32)) (by omega) (by decide) (by decide) (Nat.le_of_ble_eq_true rfl) (fun x6 => ?_)
      refine tw_if_eq (k := 21) 43 rfl (by decide) ?_ ?_
      · refine tw_iload_n (k := 24) rfl rfl ?_
        refine tw_case ?_ (fun c14 => ?_)
        · refine tw_switch (k := 25) 84 rfl (by decide) (by decide) ?_
          refine tw_aload_n (k := 26) rfl rfl ?_
          refine tw_iload_n (k := 27) rfl rfl ?_
          refine tw_callV (k := 28) (d' := 3) (mc' := 0) (ms' := 0) tw_cI tw_cIi [.int a1] rfl rfl wv_RX12_276_X12_busyOf mo_X12_busyOf (t := 11) rfl rfl rfl (fun Q9 => K_X12_busyOf Q9 a0 a1) (by omega) (by decide) (by decide) (Nat.le_of_ble_eq_true rfl) (fun x7 => ?_)
          exact tw_ireturn (k := 29) rfl rfl (by decide) (by decide)
        refine tw_case ?_ (fun c15 => ?_)
        · refine tw_switch (k := 25) 90 rfl (by decide) (by decide) ?_
          refine tw_aload_n (k := 30) rfl rfl ?_
          refine tw_iload_n (k := 31) rfl rfl ?_
          refine tw_callV (k := 32) (d' := 4) (mc' := 0) (ms' := 0) tw_cI tw_cIi [.int a1] rfl rfl wv_RX12_291_X12_dueOf mo_X12_dueOf (t := 11) rfl rfl rfl (fun Q9 => K_X12_dueOf Q9 a0 a1) (by omega) (by decide) (by decide) (Nat.le_of_ble_eq_true rfl) (fun x8 => ?_)
          exact tw_ireturn (k := 33) rfl rfl (by decide) (by decide)
        refine tw_case ?_ (fun c16 => ?_)
        · refine tw_switch (k := 25) 96 rfl (by decide) (by decide) ?_
          refine tw_aload_n (k := 34) rfl rfl ?_
          refine tw_iload_n (k := 35) rfl rfl ?_
          refine tw_callV (k := 36) (d' := 4) (mc' := 0) (ms' := 0) tw_cI tw_cIi [.int a1] rfl rfl wv_RX12_294_X12_keptBy mo_X12_keptBy (t := 11) rfl rfl rfl (fun Q9 => K_X12_keptBy Q9 a0 a1) (by omega) (by decide) (by decide) (Nat.le_of_ble_eq_true rfl) (fun x9 => ?_)
          exact tw_ireturn (k := 37) rfl rfl (by decide) (by decide)
        refine tw_case ?_ (fun c17 => ?_)
        · refine tw_switch (k := 25) 102 rfl (by decide) (by decide) ?_
          refine tw_aload_n (k := 38) rfl rfl ?_
          refine tw_iload_n (k := 39) rfl rfl ?_
          refine tw_callV (k := 40) (d' := 2) (mc' := 0) (ms' := 0) tw_cI tw_cIi [.int a1] rfl rfl wv_RX12_297_X12_shareOf mo_X12_shareOf (t := 11) rfl rfl rfl (fun Q9 => K_X12_shareOf Q9 a0 a1) (by omega) (by decide) (by decide) (Nat.le_of_ble_eq_true rfl) (fun x10 => ?_)
          exact tw_ireturn (k := 41) rfl rfl (by decide) (by decide)
        refine tw_case ?_ (fun c18 => ?_)
        · refine tw_switch (k := 25) 108 rfl (by decide) (by decide) ?_
          refine tw_aload_n (k := 42) rfl rfl ?_
          refine tw_iload_n (k := 43) rfl rfl ?_
          refine tw_callV (k := 44) (d' := 4) (mc' := 0) (ms' := 0) tw_cI tw_cIi [.int a1] rfl rfl wv_RX12_300_X12_nearTo mo_X12_nearTo (t := 11) rfl rfl rfl (fun Q9 => K_X12_nearTo Q9 a0 a1) (by omega) (by decide) (by decide) (Nat.le_of_ble_eq_true rfl) (fun x11 => ?_)
          exact tw_ireturn (k := 45) rfl rfl (by decide) (by decide)
        refine tw_case ?_ (fun c19 => ?_)
        · refine tw_switch (k := 25) 114 rfl (by decide) (by decide) ?_
          refine tw_aload_n (k := 46) rfl rfl ?_
          refine tw_iload_n (k := 47) rfl rfl ?_
          refine tw_callV (k := 48) (d' := 4) (mc' := 0) (ms' := 0) tw_cI tw_cIi [.int a1] rfl rfl wv_RX12_303_X12_knownBy mo_X12_knownBy (t := 11) rfl rfl rfl (fun Q9 => K_X12_knownBy Q9 a0 a1) (by omega) (by decide) (by decide) (Nat.le_of_ble_eq_true rfl) (fun x12 => ?_)
          exact tw_ireturn (k := 49) rfl rfl (by decide) (by decide)
        refine tw_switch (k := 25) 120 rfl (by decide) (tw_dfl (by decide) (fun v e1 e2 e3 => ?_)) ?_
        · have e4 : v = 4 ∨ v = 5 ∨ v = 6 ∨ v = 7 ∨ v = 8 ∨ v = 9 := by omega
          rcases e4 with rfl | rfl | rfl | rfl | rfl | rfl
          · exact c14 (e3.trans (by decide))
          · exact c15 (e3.trans (by decide))
          · exact c16 (e3.trans (by decide))
          · exact c17 (e3.trans (by decide))
          · exact c18 (e3.trans (by decide))
          · exact c19 (e3.trans (by decide))
        · refine tw_aload_n (k := 50) rfl rfl ?_
          refine tw_iload_n (k := 51) rfl rfl ?_
          refine tw_iload_n (k := 52) rfl rfl ?_
          refine tw_callV (k := 53) (d' := 2) (mc' := 0) (ms' := 0) tw_cI tw_cIi [.int a1, .int a2] rfl rfl wv_RX12_70_X12_of mo_X12_of (t := 11) rfl rfl rfl (fun Q9 => K_X12_of Q9 a0 a1 a2) (by omega) (by decide) (by decide) (Nat.le_of_ble_eq_true rfl) (fun x13 => ?_)
          exact tw_ireturn (k := 54) rfl rfl (by decide) (by decide)
      · refine tw_iconst (k := 22) (0 : Int32) rfl (by decide) ?_
        exact tw_ireturn (k := 23) rfl rfl (by decide) (by decide)
    · refine tw_if_ne (k := 15) 33 rfl (by decide) ?_ ?_
      · refine tw_iconst (k := 18) (0 : Int32) rfl (by decide) ?_
        exact g4 (0 : Int32)
      · refine tw_iconst (k := 16) (1 : Int32) rfl (by decide) ?_
        refine tw_goto (k := 17) 34 rfl (by decide) ?_
        exact g4 (1 : Int32)
def mX12_noTwo : tw_MD := (yX12_noTwo, cX12_noTwo, 3, (some FieldType.boolean), [(0, .aload_n 0, 1, 1), (1, .iconst 0, 1, 2), (2, .putfield 3, 3, 5), (5, .aload_n 0, 1, 6), (6, .aload_n 0, 1, 7), (7, .iload_n 1, 1, 8), (8, .invokevirtual 288, 3, 11), (11, .ifCond .ne 11, 3, 14), (14, .aload_n 0, 1, 15), (15, .iload_n 2, 1, 16), (16, .invokevirtual 288, 3, 19), (19, .ifCond .eq 7, 3, 22), (22, .iconst 1, 1, 23), (23, .goto 4, 3, 26), (26, .iconst 0, 1, 27), (27, .iconst 1, 1, 28), (28, .invokevirtual 240, 3, 31), (31, .ifCond .ne 21, 3, 34), (34, .aload_n 0, 1, 35), (35, .iload_n 1, 1, 36), (36, .iload_n 2, 1, 37), (37, .if_icmp .ne 7, 3, 40), (40, .iconst 1, 1, 41), (41, .goto 4, 3, 44), (44, .iconst 0, 1, 45), (45, .iconst 2, 1, 46), (46, .invokevirtual 240, 3, 49), (49, .ifCond .eq 7, 3, 52), (52, .iconst 1, 1, 53), (53, .goto 4, 3, 56), (56, .iconst 0, 1, 57), (57, .ireturn, 1, 58)], [])
theorem mo_X12_noTwo : tw_mok mX12_noTwo 2 := ⟨plainFor_of_name (by decide +kernel), by decide +kernel, by decide +kernel, by decide +kernel, by decide +kernel⟩
theorem dk_X12_noTwo : tw_dk mX12_noTwo := by unfold tw_dk; decide +kernel
theorem wf_X12_noTwo_3 : tw_wf mX12_noTwo 3 70 := Or.inl rfl
set_option maxRecDepth 20000 in
theorem K_X12_noTwo {g : tw_Gx} (Q : tw_Rs → tw_Mem → Prop) (a0 : Nat) (a1 : Int32) (a2 : Int32) : tw_Kt g mX12_noTwo 3 0 0 [.ref a0, .int a1, .int a2] Q (f_X12_noTwo a0 a1 a2 (fun v => Q (.inl (some (.int v))))) := by
  refine tw_mkK (L := [some (.ref a0), some (.int a1), some (.int a2)]) mo_X12_noTwo dk_X12_noTwo rfl (Nat.le_of_ble_eq_true rfl) rfl ?_
  unfold f_X12_noTwo
  refine tw_aload_n (k := 0) rfl rfl ?_
  refine tw_iconst (k := 1) (0 : Int32) rfl (by decide) ?_
  refine tw_putI (k := 2) rfl fl_RX12_3 wf_X12_noTwo_3 (by decide +kernel) ?_
  refine tw_aload_n (k := 3) rfl rfl ?_
  refine tw_aload_n (k := 4) rfl rfl ?_
  refine tw_iload_n (k := 5) rfl rfl ?_
  refine tw_callV (k := 6) (d' := 2) (mc' := 0) (ms' := 0) tw_cI tw_cIi [.int a1] rfl rfl wv_RX12_288_X12_nobody mo_X12_nobody (t := 11) rfl rfl rfl (fun Q9 => K_X12_nobody Q9 a0 a1) (by omega) (by decide) (by decide) (Nat.le_of_ble_eq_true rfl) (fun x1 => ?_)
  refine tw_join 27 (fun s3 => [some (.ref a0), some (.int a1), some (.int a2)]) (fun s3 => .int s3 :: .ref a0 :: []) 0 0 (fun s3 => ?_) (fun j2 g2 => ?_)
  · refine tw_iconst (k := 15) (1 : Int32) rfl (by decide) ?_
    refine tw_callV (k := 16) (d' := 1) (mc' := 0) (ms' := 0) tw_cI tw_cIi [.int s3, .int (1 : Int32)] rfl rfl wv_RX12_240_X12_throwsIf mo_X12_throwsIf (t := 11) rfl rfl rfl (fun Q9 => K_X12_throwsIf Q9 a0 s3 (1 : Int32)) (by omega) (by decide) (by decide) (Nat.le_of_ble_eq_true rfl) (fun x4 => ?_)
    refine tw_if_ne (k := 17) 52 rfl (by decide) ?_ ?_
    · refine tw_iconst (k := 28) (1 : Int32) rfl (by decide) ?_
      refine tw_goto (k := 29) 57 rfl (by decide) ?_
      exact tw_zreturn (k := 31) rfl rfl (by decide) (by decide)
    · refine tw_aload_n (k := 18) rfl rfl ?_
      refine tw_iload_n (k := 19) rfl rfl ?_
      refine tw_iload_n (k := 20) rfl rfl ?_
      refine tw_join 45 (fun s6 => [some (.ref a0), some (.int a1), some (.int a2)]) (fun s6 => .int s6 :: .ref a0 :: []) 0 0 (fun s6 => ?_) (fun j5 g5 => ?_)
      · refine tw_iconst (k := 25) (2 : Int32) rfl (by decide) ?_
        refine tw_callV (k := 26) (d' := 1) (mc' := 0) (ms' := 0) tw_cI tw_cIi [.int s6, .int (2 : Int32)] rfl rfl wv_RX12_240_X12_throwsIf mo_X12_throwsIf (t := 11) rfl rfl rfl (fun Q9 => K_X12_throwsIf Q9 a0 s6 (2 : Int32)) (by omega) (by decide) (by decide) (Nat.le_of_ble_eq_true rfl) (fun x7 => ?_)
        refine tw_if_eq (k := 27) 56 rfl (by decide) ?_ ?_
        · refine tw_iconst (k := 30) (0 : Int32) rfl (by decide) ?_
          exact tw_zreturn (k := 31) rfl rfl (by decide) (by decide)
        · refine tw_iconst (k := 28) (1 : Int32) rfl (by decide) ?_
          refine tw_goto (k := 29) 57 rfl (by decide) ?_
          exact tw_zreturn (k := 31) rfl rfl (by decide) (by decide)
      · refine tw_icmp_ne (k := 21) 44 rfl (by decide) ?_ ?_
        · refine tw_iconst (k := 24) (0 : Int32) rfl (by decide) ?_
          exact g5 (0 : Int32)
        · refine tw_iconst (k := 22) (1 : Int32) rfl (by decide) ?_
          refine tw_goto (k := 23) 45 rfl (by decide) ?_
          exact g5 (1 : Int32)
  · refine tw_join 22 (fun s9 => [some (.ref a0), some (.int a1), some (.int a2)]) (fun s9 => .ref a0 :: []) 0 0 (fun s9 => ?_) (fun j8 g8 => ?_)
    · refine tw_iconst (k := 12) (1 : Int32) rfl (by decide) ?_
      refine tw_goto (k := 13) 27 rfl (by decide) ?_
      exact g2 (1 : Int32)
    · refine tw_if_ne (k := 7) 22 rfl (by decide) ?_ ?_
      · exact g8 ()
      · refine tw_aload_n (k := 8) rfl rfl ?_
        refine tw_iload_n (k := 9) rfl rfl ?_
        refine tw_callV (k := 10) (d' := 2) (mc' := 0) (ms' := 0) tw_cI tw_cIi [.int a2] rfl rfl wv_RX12_288_X12_nobody mo_X12_nobody (t := 11) rfl rfl rfl (fun Q9 => K_X12_nobody Q9 a0 a2) (by omega) (by decide) (by decide) (Nat.le_of_ble_eq_true rfl) (fun x10 => ?_)
        refine tw_if_eq (k := 11) 26 rfl (by decide) ?_ ?_
        · refine tw_iconst (k := 14) (0 : Int32) rfl (by decide) ?_
          exact g2 (0 : Int32)
        · exact g8 ()
def mX12_guessed : tw_MD := (yX12_guessed, cX12_guessed, 3, (some FieldType.int), [(0, .aload_n 0, 1, 1), (1, .iload_n 1, 1, 2), (2, .iload_n 2, 1, 3), (3, .invokevirtual 306, 3, 6), (6, .ifCond .eq 7, 3, 9), (9, .iconst 0, 1, 10), (10, .goto 9, 3, 13), (13, .aload_n 0, 1, 14), (14, .iload_n 1, 1, 15), (15, .iload_n 2, 1, 16), (16, .invokevirtual 243, 3, 19), (19, .ireturn, 1, 20)], [])
theorem mo_X12_guessed : tw_mok mX12_guessed 2 := ⟨plainFor_of_name (by decide +kernel), by decide +kernel, by decide +kernel, by decide +kernel, by decide +kernel⟩
theorem dk_X12_guessed : tw_dk mX12_guessed := by unfold tw_dk; decide +kernel
theorem wv_RX12_306_X12_noTwo : tw_wV RX12 306 mX12_noTwo := ⟨List.mem_of_getElem? (i := 2095) (by decide +kernel), List.mem_of_getElem? (i := 2097) (by decide +kernel), List.mem_of_getElem? (i := 84) (by decide +kernel), List.mem_of_getElem? (i := 137) (by decide +kernel), List.mem_of_getElem? (i := 2098) (by decide +kernel)⟩
set_option maxRecDepth 20000 in
theorem K_X12_guessed {g : tw_Gx} (Q : tw_Rs → tw_Mem → Prop) (a0 : Nat) (a1 : Int32) (a2 : Int32) : tw_Kt g mX12_guessed 4 0 0 [.ref a0, .int a1, .int a2] Q (f_X12_guessed a0 a1 a2 (fun v => Q (.inl (some (.int v))))) := by
  refine tw_mkK (L := [some (.ref a0), some (.int a1), some (.int a2)]) mo_X12_guessed dk_X12_guessed rfl (Nat.le_of_ble_eq_true rfl) rfl ?_
  unfold f_X12_guessed
  refine tw_aload_n (k := 0) rfl rfl ?_
  refine tw_iload_n (k := 1) rfl rfl ?_
  refine tw_iload_n (k := 2) rfl rfl ?_
  refine tw_callV (k := 3) (d' := 3) (mc' := 0) (ms' := 0) tw_cI tw_cIi [.int a1, .int a2] rfl rfl wv_RX12_306_X12_noTwo mo_X12_noTwo (t := 11) rfl rfl rfl (fun Q9 => K_X12_noTwo Q9 a0 a1 a2) (by omega) (by decide) (by decide) (Nat.le_of_ble_eq_true rfl) (fun x1 => ?_)
  refine tw_if_eq (k := 4) 13 rfl (by decide) ?_ ?_
  · refine tw_aload_n (k := 7) rfl rfl ?_
    refine tw_iload_n (k := 8) rfl rfl ?_
    refine tw_iload_n (k := 9) rfl rfl ?_
    refine tw_callV (k := 10) (d' := 3) (mc' := 0) (ms' := 0) tw_cI tw_cIi [.int a1, .int a2] rfl rfl wv_RX12_243_X12_guessOf mo_X12_guessOf (t := 11) rfl rfl rfl (fun Q9 => K_X12_guessOf Q9 a0 a1 a2) (by omega) (by decide) (by decide) (Nat.le_of_ble_eq_true rfl) (fun x2 => ?_)
    exact tw_ireturn (k := 11) rfl rfl (by decide) (by decide)
  · refine tw_iconst (k := 5) (0 : Int32) rfl (by decide) ?_
    refine tw_goto (k := 6) 19 rfl (by decide) ?_
    exact tw_ireturn (k := 11) rfl rfl (by decide) (by decide)
def mX12_rung : tw_MD := (yX12_rung, cX12_rung, 3, (some FieldType.int), [(0, .aload_n 0, 1, 1), (1, .iload_n 1, 1, 2), (2, .iload_n 2, 1, 3), (3, .invokevirtual 306, 3, 6), (6, .ifCond .eq 7, 3, 9), (9, .iconst 0, 1, 10), (10, .goto 12, 3, 13), (13, .aload_n 0, 1, 14), (14, .iload_n 1, 1, 15), (15, .bipush 12, 2, 17), (17, .iload_n 2, 1, 18), (18, .iadd, 1, 19), (19, .invokevirtual 70, 3, 22), (22, .ireturn, 1, 23)], [])
theorem mo_X12_rung : tw_mok mX12_rung 2 := ⟨plainFor_of_name (by decide +kernel), by decide +kernel, by decide +kernel, by decide +kernel, by decide +kernel⟩
theorem dk_X12_rung : tw_dk mX12_rung := by unfold tw_dk; decide +kernel
set_option maxRecDepth 20000 in
theorem K_X12_rung {g : tw_Gx} (Q : tw_Rs → tw_Mem → Prop) (a0 : Nat) (a1 : Int32) (a2 : Int32) : tw_Kt g mX12_rung 4 0 0 [.ref a0, .int a1, .int a2] Q (f_X12_rung a0 a1 a2 (fun v => Q (.inl (some (.int v))))) := by
  refine tw_mkK (L := [some (.ref a0), some (.int a1), some (.int a2)]) mo_X12_rung dk_X12_rung rfl (Nat.le_of_ble_eq_true rfl) rfl ?_
  unfold f_X12_rung
  refine tw_aload_n (k := 0) rfl rfl ?_
  refine tw_iload_n (k := 1) rfl rfl ?_
  refine tw_iload_n (k := 2) rfl rfl ?_
  refine tw_callV (k := 3) (d' := 3) (mc' := 0) (ms' := 0) tw_cI tw_cIi [.int a1, .int a2] rfl rfl wv_RX12_306_X12_noTwo mo_X12_noTwo (t := 11) rfl rfl rfl (fun Q9 => K_X12_noTwo Q9 a0 a1 a2) (by omega) (by decide) (by decide) (Nat.le_of_ble_eq_true rfl) (fun x1 => ?_)
  refine tw_if_eq (k := 4) 13 rfl (by decide) ?_ ?_
  · refine tw_aload_n (k := 7) rfl rfl ?_
    refine tw_iload_n (k := 8) rfl rfl ?_
    refine tw_bipush (k := 9) (12 : Int32) rfl (by decide) ?_
    refine tw_iload_n (k := 10) rfl rfl ?_
    refine tw_iadd (k := 11) rfl ?_
    refine tw_callV (k := 12) (d' := 2) (mc' := 0) (ms' := 0) tw_cI tw_cIi [.int a1, .int ((12 : Int32) + a2)] rfl rfl wv_RX12_70_X12_of mo_X12_of (t := 11) rfl rfl rfl (fun Q9 => K_X12_of Q9 a0 a1 ((12 : Int32) + a2)) (by omega) (by decide) (by decide) (Nat.le_of_ble_eq_true rfl) (fun x2 => ?_)
    exact tw_ireturn (k := 13) rfl rfl (by decide) (by decide)
  · refine tw_iconst (k := 5) (0 : Int32) rfl (by decide) ?_
    refine tw_goto (k := 6) 22 rfl (by decide) ?_
    exact tw_ireturn (k := 13) rfl rfl (by decide) (by decide)
def mX12_sounds : tw_MD := (yX12_sounds, cX12_sounds, 3, (some FieldType.int), [(0, .aload_n 0, 1, 1), (1, .iload_n 1, 1, 2), (2, .iload_n 2, 1, 3), (3, .invokevirtual 306, 3, 6), (6, .ifCond .eq 7, 3, 9), (9, .iconst 0, 1, 10), (10, .goto 9, 3, 13), (13, .aload_n 0, 1, 14), (14, .iload_n 1, 1, 15), (15, .iload_n 2, 1, 16), (16, .invokevirtual 309, 3, 19), (19, .ireturn, 1, 20)], [])
theorem mo_X12_sounds : tw_mok mX12_sounds 2 := ⟨plainFor_of_name (by decide +kernel), by decide +kernel, by decide +kernel, by decide +kernel, by decide +kernel⟩
theorem dk_X12_sounds : tw_dk mX12_sounds := by unfold tw_dk; decide +kernel
theorem wv_RX12_309_X12_soundsTo : tw_wV RX12 309 mX12_soundsTo := ⟨List.mem_of_getElem? (i := 2107) (by decide +kernel), List.mem_of_getElem? (i := 2109) (by decide +kernel), List.mem_of_getElem? (i := 85) (by decide +kernel), List.mem_of_getElem? (i := 137) (by decide +kernel), List.mem_of_getElem? (i := 2110) (by decide +kernel)⟩
set_option maxRecDepth 20000 in
theorem K_X12_sounds {g : tw_Gx} (Q : tw_Rs → tw_Mem → Prop) (a0 : Nat) (a1 : Int32) (a2 : Int32) : tw_Kt g mX12_sounds 8 0 0 [.ref a0, .int a1, .int a2] Q (f_X12_sounds a0 a1 a2 (fun v => Q (.inl (some (.int v))))) := by
  refine tw_mkK (L := [some (.ref a0), some (.int a1), some (.int a2)]) mo_X12_sounds dk_X12_sounds rfl (Nat.le_of_ble_eq_true rfl) rfl ?_
  unfold f_X12_sounds
  refine tw_aload_n (k := 0) rfl rfl ?_
  refine tw_iload_n (k := 1) rfl rfl ?_
  refine tw_iload_n (k := 2) rfl rfl ?_
  refine tw_callV (k := 3) (d' := 3) (mc' := 0) (ms' := 0) tw_cI tw_cIi [.int a1, .int a2] rfl rfl wv_RX12_306_X12_noTwo mo_X12_noTwo (t := 11) rfl rfl rfl (fun Q9 => K_X12_noTwo Q9 a0 a1 a2) (by omega) (by decide) (by decide) (Nat.le_of_ble_eq_true rfl) (fun x1 => ?_)
  refine tw_if_eq (k := 4) 13 rfl (by decide) ?_ ?_
  · refine tw_aload_n (k := 7) rfl rfl ?_
    refine tw_iload_n (k := 8) rfl rfl ?_
    refine tw_iload_n (k := 9) rfl rfl ?_
    refine tw_callV (k := 10) (d' := 7) (mc' := 0) (ms' := 0) tw_cI tw_cIi [.int a1, .int a2] rfl rfl wv_RX12_309_X12_soundsTo mo_X12_soundsTo (t := 11) rfl rfl rfl (fun Q9 => K_X12_soundsTo Q9 a0 a1 a2) (by omega) (by decide) (by decide) (Nat.le_of_ble_eq_true rfl) (fun x2 => ?_)
    exact tw_ireturn (k := 11) rfl rfl (by decide) (by decide)
  · refine tw_iconst (k := 5) (0 : Int32) rfl (by decide) ?_
    refine tw_goto (k := 6) 19 rfl (by decide) ?_
    exact tw_ireturn (k := 11) rfl rfl (by decide) (by decide)
def mX12_lets : tw_MD := (yX12_lets, cX12_lets, 3, (some FieldType.int), [(0, .aload_n 0, 1, 1), (1, .iload_n 1, 1, 2), (2, .iload_n 2, 1, 3), (3, .invokevirtual 306, 3, 6), (6, .ifCond .eq 7, 3, 9), (9, .iconst 0, 1, 10), (10, .goto 9, 3, 13), (13, .aload_n 0, 1, 14), (14, .iload_n 1, 1, 15), (15, .iload_n 2, 1, 16), (16, .invokevirtual 312, 3, 19), (19, .ireturn, 1, 20)], [])
theorem mo_X12_lets : tw_mok mX12_lets 2 := ⟨plainFor_of_name (by decide +kernel), by decide +kernel, by decide +kernel, by decide +kernel, by decide +kernel⟩
theorem dk_X12_lets : tw_dk mX12_lets := by unfold tw_dk; decide +kernel
theorem wv_RX12_312_X12_letsOutTo : tw_wV RX12 312 mX12_letsOutTo := ⟨List.mem_of_getElem? (i := 2136) (by decide +kernel), List.mem_of_getElem? (i := 2138) (by decide +kernel), List.mem_of_getElem? (i := 91) (by decide +kernel), List.mem_of_getElem? (i := 137) (by decide +kernel), List.mem_of_getElem? (i := 2139) (by decide +kernel)⟩
set_option maxRecDepth 20000 in
theorem K_X12_lets {g : tw_Gx} (Q : tw_Rs → tw_Mem → Prop) (a0 : Nat) (a1 : Int32) (a2 : Int32) : tw_Kt g mX12_lets 8 0 0 [.ref a0, .int a1, .int a2] Q (f_X12_lets a0 a1 a2 (fun v => Q (.inl (some (.int v))))) := by
  refine tw_mkK (L := [some (.ref a0), some (.int a1), some (.int a2)]) mo_X12_lets dk_X12_lets rfl (Nat.le_of_ble_eq_true rfl) rfl ?_
  unfold f_X12_lets
  refine tw_aload_n (k := 0) rfl rfl ?_
  refine tw_iload_n (k := 1) rfl rfl ?_
  refine tw_iload_n (k := 2) rfl rfl ?_
  refine tw_callV (k := 3) (d' := 3) (mc' := 0) (ms' := 0) tw_cI tw_cIi [.int a1, .int a2] rfl rfl wv_RX12_306_X12_noTwo mo_X12_noTwo (t := 11) rfl rfl rfl (fun Q9 => K_X12_noTwo Q9 a0 a1 a2) (by omega) (by decide) (by decide) (Nat.le_of_ble_eq_true rfl) (fun x1 => ?_)
  refine tw_if_eq (k := 4) 13 rfl (by decide) ?_ ?_
  · refine tw_aload_n (k := 7) rfl rfl ?_
    refine tw_iload_n (k := 8) rfl rfl ?_
    refine tw_iload_n (k := 9) rfl rfl ?_
    refine tw_callV (k := 10) (d' := 7) (mc' := 0) (ms' := 0) tw_cI tw_cIi [.int a1, .int a2] rfl rfl wv_RX12_312_X12_letsOutTo mo_X12_letsOutTo (t := 11) rfl rfl rfl (fun Q9 => K_X12_letsOutTo Q9 a0 a1 a2) (by omega) (by decide) (by decide) (Nat.le_of_ble_eq_true rfl) (fun x2 => ?_)
    exact tw_ireturn (k := 11) rfl rfl (by decide) (by decide)
  · refine tw_iconst (k := 5) (0 : Int32) rfl (by decide) ?_
    refine tw_goto (k := 6) 19 rfl (by decide) ?_
    exact tw_ireturn (k := 11) rfl rfl (by decide) (by decide)
def mX12_both : tw_MD := (yX12_both, cX12_both, 3, (some FieldType.int), [(0, .aload_n 0, 1, 1), (1, .iload_n 1, 1, 2), (2, .iload_n 2, 1, 3), (3, .invokevirtual 306, 3, 6), (6, .ifCond .eq 7, 3, 9), (9, .iconst 0, 1, 10), (10, .goto 9, 3, 13), (13, .aload_n 0, 1, 14), (14, .iload_n 1, 1, 15), (15, .iload_n 2, 1, 16), (16, .invokevirtual 263, 3, 19), (19, .ireturn, 1, 20)], [])
theorem mo_X12_both : tw_mok mX12_both 2 := ⟨plainFor_of_name (by decide +kernel), by decide +kernel, by decide +kernel, by decide +kernel, by decide +kernel⟩
theorem dk_X12_both : tw_dk mX12_both := by unfold tw_dk; decide +kernel
set_option maxRecDepth 20000 in
theorem K_X12_both {g : tw_Gx} (Q : tw_Rs → tw_Mem → Prop) (a0 : Nat) (a1 : Int32) (a2 : Int32) : tw_Kt g mX12_both 5 0 0 [.ref a0, .int a1, .int a2] Q (f_X12_both a0 a1 a2 (fun v => Q (.inl (some (.int v))))) := by
  refine tw_mkK (L := [some (.ref a0), some (.int a1), some (.int a2)]) mo_X12_both dk_X12_both rfl (Nat.le_of_ble_eq_true rfl) rfl ?_
  unfold f_X12_both
  refine tw_aload_n (k := 0) rfl rfl ?_
  refine tw_iload_n (k := 1) rfl rfl ?_
  refine tw_iload_n (k := 2) rfl rfl ?_
  refine tw_callV (k := 3) (d' := 3) (mc' := 0) (ms' := 0) tw_cI tw_cIi [.int a1, .int a2] rfl rfl wv_RX12_306_X12_noTwo mo_X12_noTwo (t := 11) rfl rfl rfl (fun Q9 => K_X12_noTwo Q9 a0 a1 a2) (by omega) (by decide) (by decide) (Nat.le_of_ble_eq_true rfl) (fun x1 => ?_)
  refine tw_if_eq (k := 4) 13 rfl (by decide) ?_ ?_
  · refine tw_aload_n (k := 7) rfl rfl ?_
    refine tw_iload_n (k := 8) rfl rfl ?_
    refine tw_iload_n (k := 9) rfl rfl ?_
    refine tw_callV (k := 10) (d' := 4) (mc' := 0) (ms' := 0) tw_cI tw_cIi [.int a1, .int a2] rfl rfl wv_RX12_263_X12_toneOf mo_X12_toneOf (t := 11) rfl rfl rfl (fun Q9 => K_X12_toneOf Q9 a0 a1 a2) (by omega) (by decide) (by decide) (Nat.le_of_ble_eq_true rfl) (fun x2 => ?_)
    exact tw_ireturn (k := 11) rfl rfl (by decide) (by decide)
  · refine tw_iconst (k := 5) (0 : Int32) rfl (by decide) ?_
    refine tw_goto (k := 6) 19 rfl (by decide) ?_
    exact tw_ireturn (k := 11) rfl rfl (by decide) (by decide)
def mX12_plan : tw_MD := (yX12_plan, cX12_plan, 3, (some FieldType.int), [(0, .aload_n 0, 1, 1), (1, .iconst 0, 1, 2), (2, .putfield 3, 3, 5), (5, .aload_n 0, 1, 6), (6, .iload_n 1, 1, 7), (7, .invokestatic 315, 3, 10), (10, .ifCond .ne 10, 3, 13), (13, .iload_n 2, 1, 14), (14, .invokestatic 318, 3, 17), (17, .ifCond .eq 7, 3, 20), (20, .iconst 1, 1, 21), (21, .goto 4, 3, 24), (24, .iconst 0, 1, 25), (25, .iconst 1, 1, 26), (26, .invokevirtual 240, 3, 29), (29, .ifCond .eq 7, 3, 32), (32, .iconst 0, 1, 33), (33, .goto 9, 3, 36), (36, .aload_n 0, 1, 37), (37, .iload_n 1, 1, 38), (38, .iload_n 2, 1, 39), (39, .invokevirtual 139, 3, 42), (42, .ireturn, 1, 43)], [])
theorem mo_X12_plan : tw_mok mX12_plan 2 := ⟨plainFor_of_name (by decide +kernel), by decide +kernel, by decide +kernel, by decide +kernel, by decide +kernel⟩
theorem dk_X12_plan : tw_dk mX12_plan := by unfold tw_dk; decide +kernel
theorem ws_RX12_318_X12_noHour : tw_wS RX12 318 mX12_noHour := ⟨List.mem_of_getElem? (i := 2151) (by decide +kernel), List.mem_of_getElem? (i := 2152) (by decide +kernel), List.mem_of_getElem? (i := 137) (by decide +kernel), List.mem_of_getElem? (i := 2153) (by decide +kernel)⟩
theorem ws_RX12_315_X12_noLoft : tw_wS RX12 315 mX12_noLoft := ⟨List.mem_of_getElem? (i := 2148) (by decide +kernel), List.mem_of_getElem? (i := 2149) (by decide +kernel), List.mem_of_getElem? (i := 137) (by decide +kernel), List.mem_of_getElem? (i := 2150) (by decide +kernel)⟩
theorem wf_X12_plan_3 : tw_wf mX12_plan 3 70 := Or.inl rfl
set_option maxRecDepth 20000 in
theorem K_X12_plan {g : tw_Gx} (Q : tw_Rs → tw_Mem → Prop) (a0 : Nat) (a1 : Int32) (a2 : Int32) : tw_Kt g mX12_plan 3 0 0 [.ref a0, .int a1, .int a2] Q (f_X12_plan a0 a1 a2 (fun v => Q (.inl (some (.int v))))) := by
  refine tw_mkK (L := [some (.ref a0), some (.int a1), some (.int a2)]) mo_X12_plan dk_X12_plan rfl (Nat.le_of_ble_eq_true rfl) rfl ?_
  unfold f_X12_plan
  refine tw_aload_n (k := 0) rfl rfl ?_
  refine tw_iconst (k := 1) (0 : Int32) rfl (by decide) ?_
  refine tw_putI (k := 2) rfl fl_RX12_3 wf_X12_plan_3 (by decide +kernel) ?_
  refine tw_aload_n (k := 3) rfl rfl ?_
  refine tw_iload_n (k := 4) rfl rfl ?_
  refine tw_callS (k := 5) (d' := 2) (mc' := 0) (ms' := 0) tw_cI tw_cIi [.int a1] rfl rfl ws_RX12_315_X12_noLoft mo_X12_noLoft rfl (fun Q9 => K_X12_noLoft Q9 a1) (by omega) (by decide) (by decide) (Nat.le_of_ble_eq_true rfl) (fun x1 => ?_)
  refine tw_join 25 (fun s3 => [some (.ref a0), some (.int a1), some (.int a2)]) (fun s3 => .int s3 :: .ref a0 :: []) 0 0 (fun s3 => ?_) (fun j2 g2 => ?_)
  · refine tw_iconst (k := 13) (1 : Int32) rfl (by decide) ?_
    refine tw_callV (k := 14) (d' := 1) (mc' := 0) (ms' := 0) tw_cI tw_cIi [.int s3, .int (1 : Int32)] rfl rfl wv_RX12_240_X12_throwsIf mo_X12_throwsIf (t := 11) rfl rfl rfl (fun Q9 => K_X12_throwsIf Q9 a0 s3 (1 : Int32)) (by omega) (by decide) (by decide) (Nat.le_of_ble_eq_true rfl) (fun x4 => ?_)
    refine tw_if_eq (k := 15) 36 rfl (by decide) ?_ ?_
    · refine tw_aload_n (k := 18) rfl rfl ?_
      refine tw_iload_n (k := 19) rfl rfl ?_
      refine tw_iload_n (k := 20) rfl rfl ?_
      refine tw_callV (k := 21) (d' := 2) (mc' := 0) (ms' := 0) tw_cI tw_cIi [.int a1, .int a2] rfl rfl wv_RX12_139_X12_inPlan mo_X12_inPlan (t := 11) rfl rfl rfl (fun Q9 => K_X12_inPlan Q9 a0 a1 a2) (by omega) (by decide) (by decide) (Nat.le_of_ble_eq_true rfl) (fun x5 => ?_)
      exact tw_ireturn (k := 22) rfl rfl (by decide) (by decide)
    · refine tw_iconst (k := 16) (0 : Int32) rfl (by decide) ?_
      refine tw_goto (k := 17) 42 rfl (by decide) ?_
      exact tw_ireturn (k := 22) rfl rfl (by decide) (by decide)
  · refine tw_join 20 (fun s7 => [some (.ref a0), some (.int a1), some (.int a2)]) (fun s7 => .ref a0 :: []) 0 0 (fun s7 => ?_) (fun j6 g6 => ?_)
    · refine tw_iconst (k := 10) (1 : Int32) rfl (by decide) ?_
      refine tw_goto (k := 11) 25 rfl (by decide) ?_
      exact g2 (1 : Int32)
    · refine tw_if_ne (k := 6) 20 rfl (by decide) ?_ ?_
      · exact g6 ()
      · refine tw_iload_n (k := 7) rfl rfl ?_
        refine tw_callS (k := 8) (d' := 2) (mc' := 0) (ms' := 0) tw_cI tw_cIi [.int a2] rfl rfl ws_RX12_318_X12_noHour mo_X12_noHour rfl (fun Q9 => K_X12_noHour Q9 a2) (by omega) (by decide) (by decide) (Nat.le_of_ble_eq_true rfl) (fun x8 => ?_)
        refine tw_if_eq (k := 9) 24 rfl (by decide) ?_ ?_
        · refine tw_iconst (k := 12) (0 : Int32) rfl (by decide) ?_
          exact g2 (0 : Int32)
        · exact g6 ()
def mX12_tone : tw_MD := (yX12_tone, cX12_tone, 2, (some FieldType.int), [(0, .aload_n 0, 1, 1), (1, .iconst 0, 1, 2), (2, .putfield 3, 3, 5), (5, .aload_n 0, 1, 6), (6, .iload_n 1, 1, 7), (7, .invokestatic 318, 3, 10), (10, .iconst 1, 1, 11), (11, .invokevirtual 240, 3, 14), (14, .ifCond .eq 7, 3, 17), (17, .iconst 0, 1, 18), (18, .goto 8, 3, 21), (21, .aload_n 0, 1, 22), (22, .iload_n 1, 1, 23), (23, .invokevirtual 321, 3, 26), (26, .ireturn, 1, 27)], [])
theorem mo_X12_tone : tw_mok mX12_tone 1 := ⟨plainFor_of_name (by decide +kernel), by decide +kernel, by decide +kernel, by decide +kernel, by decide +kernel⟩
theorem dk_X12_tone : tw_dk mX12_tone := by unfold tw_dk; decide +kernel
theorem wv_RX12_321_X12_toneAt : tw_wV RX12 321 mX12_toneAt := ⟨List.mem_of_getElem? (i := 2158) (by decide +kernel), List.mem_of_getElem? (i := 2160) (by decide +kernel), List.mem_of_getElem? (i := 92) (by decide +kernel), List.mem_of_getElem? (i := 137) (by decide +kernel), List.mem_of_getElem? (i := 2161) (by decide +kernel)⟩
theorem wf_X12_tone_3 : tw_wf mX12_tone 3 70 := Or.inl rfl
set_option maxRecDepth 20000 in
theorem K_X12_tone {g : tw_Gx} (Q : tw_Rs → tw_Mem → Prop) (a0 : Nat) (a1 : Int32) : tw_Kt g mX12_tone 6 0 0 [.ref a0, .int a1] Q (f_X12_tone a0 a1 (fun v => Q (.inl (some (.int v))))) := by
  refine tw_mkK (L := [some (.ref a0), some (.int a1)]) mo_X12_tone dk_X12_tone rfl (Nat.le_of_ble_eq_true rfl) rfl ?_
  unfold f_X12_tone
  refine tw_aload_n (k := 0) rfl rfl ?_
  refine tw_iconst (k := 1) (0 : Int32) rfl (by decide) ?_
  refine tw_putI (k := 2) rfl fl_RX12_3 wf_X12_tone_3 (by decide +kernel) ?_
  refine tw_aload_n (k := 3) rfl rfl ?_
  refine tw_iload_n (k := 4) rfl rfl ?_
  refine tw_callS (k := 5) (d' := 2) (mc' := 0) (ms' := 0) tw_cI tw_cIi [.int a1] rfl rfl ws_RX12_318_X12_noHour mo_X12_noHour rfl (fun Q9 => K_X12_noHour Q9 a1) (by omega) (by decide) (by decide) (Nat.le_of_ble_eq_true rfl) (fun x1 => ?_)
  refine tw_iconst (k := 6) (1 : Int32) rfl (by decide) ?_
  refine tw_callV (k := 7) (d' := 1) (mc' := 0) (ms' := 0) tw_cI tw_cIi [.int x1, .int (1 : Int32)] rfl rfl wv_RX12_240_X12_throwsIf mo_X12_throwsIf (t := 11) rfl rfl rfl (fun Q9 => K_X12_throwsIf Q9 a0 x1 (1 : Int32)) (by omega) (by decide) (by decide) (Nat.le_of_ble_eq_true rfl) (fun x2 => ?_)
  refine tw_if_eq (k := 8) 21 rfl (by decide) ?_ ?_
  · refine tw_aload_n (k := 11) rfl rfl ?_
    refine tw_iload_n (k := 12) rfl rfl ?_
    refine tw_callV (k := 13) (d' := 5) (mc' := 0) (ms' := 0) tw_cI tw_cIi [.int a1] rfl rfl wv_RX12_321_X12_toneAt mo_X12_toneAt (t := 11) rfl rfl rfl (fun Q9 => K_X12_toneAt Q9 a0 a1) (by omega) (by decide) (by decide) (Nat.le_of_ble_eq_true rfl) (fun x3 => ?_)
    exact tw_ireturn (k := 14) rfl rfl (by decide) (by decide)
  · refine tw_iconst (k := 9) (0 : Int32) rfl (by decide) ?_
    refine tw_goto (k := 10) 26 rfl (by decide) ?_
    exact tw_ireturn (k := 14) rfl rfl (by decide) (by decide)
def mX12_rope : tw_MD := (yX12_rope, cX12_rope, 5, (some FieldType.int), [(0, .aload_n 0, 1, 1), (1, .iconst 0, 1, 2), (2, .putfield 3, 3, 5), (5, .aload_n 0, 1, 6), (6, .iload_n 1, 1, 7), (7, .invokestatic 315, 3, 10), (10, .ifCond .ne 18, 3, 13), (13, .iload_n 2, 1, 14), (14, .invokestatic 318, 3, 17), (17, .ifCond .ne 11, 3, 20), (20, .aload_n 0, 1, 21), (21, .iload_n 3, 1, 22), (22, .invokevirtual 288, 3, 25), (25, .ifCond .eq 7, 3, 28), (28, .iconst 1, 1, 29), (29, .goto 4, 3, 32), (32, .iconst 0, 1, 33), (33, .iconst 1, 1, 34), (34, .invokevirtual 240, 3, 37), (37, .ifCond .ne 28, 3, 40), (40, .aload_n 0, 1, 41), (41, .aload_n 0, 1, 42), (42, .iconst 1, 1, 43), (43, .iload_n 1, 1, 44), (44, .isub, 1, 45), (45, .iload_n 2, 1, 46), (46, .invokevirtual 139, 3, 49), (49, .iload_n 3, 1, 50), (50, .if_icmp .ne 7, 3, 53), (53, .iconst 1, 1, 54), (54, .goto 4, 3, 57), (57, .iconst 0, 1, 58), (58, .iconst 2, 1, 59), (59, .invokevirtual 240, 3, 62), (62, .ifCond .eq 5, 3, 65), (65, .iconst 0, 1, 66), (66, .ireturn, 1, 67), (67, .aload_n 0, 1, 68), (68, .invokevirtual 324, 3, 71), (71, .aload_n 0, 1, 72), (72, .iload_n 1, 1, 73), (73, .iload_n 2, 1, 74), (74, .invokevirtual 139, 3, 77), (77, .istore 4, 2, 79), (79, .aload_n 0, 1, 80), (80, .getfield 13, 3, 83), (83, .iload_n 1, 1, 84), (84, .iload_n 2, 1, 85), (85, .invokestatic 73, 3, 88), (88, .iload_n 3, 1, 89), (89, .iastore, 1, 90), (90, .iload 4, 2, 92), (92, .ireturn, 1, 93)], [])
theorem mo_X12_rope : tw_mok mX12_rope 3 := ⟨plainFor_of_name (by decide +kernel), by decide +kernel, by decide +kernel, by decide +kernel, by decide +kernel⟩
theorem dk_X12_rope : tw_dk mX12_rope := by unfold tw_dk; decide +kernel
theorem wv_RX12_324_X12_remembers : tw_wV RX12 324 mX12_remembers := ⟨List.mem_of_getElem? (i := 2166) (by decide +kernel), List.mem_of_getElem? (i := 2168) (by decide +kernel), List.mem_of_getElem? (i := 93) (by decide +kernel), List.mem_of_getElem? (i := 137) (by decide +kernel), List.mem_of_getElem? (i := 2169) (by decide +kernel)⟩
theorem wf_X12_rope_3 : tw_wf mX12_rope 3 70 := Or.inl rfl
set_option maxRecDepth 20000 in
theorem K_X12_rope {g : tw_Gx} (Q : tw_Rs → tw_Mem → Prop) (a0 : Nat) (a1 : Int32) (a2 : Int32) (a3 : Int32) : tw_Kt g mX12_rope 3 0 0 [.ref a0, .int a1, .int a2, .int a3] Q (f_X12_rope a0 a1 a2 a3 (fun v => Q (.inl (some (.int v))))) := by
  refine tw_mkK (L := [some (.ref a0), some (.int a1), some (.int a2), some (.int a3), none]) mo_X12_rope dk_X12_rope rfl (Nat.le_of_ble_eq_true rfl) rfl ?_
  unfold f_X12_rope
  refine tw_aload_n (k := 0) rfl rfl ?_
  refine tw_iconst (k := 1) (0 : Int32) rfl (by decide) ?_
  refine tw_putI (k := 2) rfl fl_RX12_3 wf_X12_rope_3 (by decide +kernel) ?_
  refine tw_aload_n (k := 3) rfl rfl ?_
  refine tw_iload_n (k := 4) rfl rfl ?_
  refine tw_callS (k := 5) (d' := 2) (mc' := 0) (ms' := 0) tw_cI tw_cIi [.int a1] rfl rfl ws_RX12_315_X12_noLoft mo_X12_noLoft rfl (fun Q9 => K_X12_noLoft Q9 a1) (by omega) (by decide) (by decide) (Nat.le_of_ble_eq_true rfl) (fun x1 => ?_)
  refine tw_join 33 (fun s3 => [some (.ref a0), some (.int a1), some (.int a2), some (.int a3), none]) (fun s3 => .int s3 :: .ref a0 :: []) 0 0 (fun s3 => ?_) (fun j2 g2 => ?_)
  · refine tw_iconst (k := 17) (1 : Int32) rfl (by decide) ?_
    refine tw_callV (k := 18) (d' := 1) (mc' := 0) (ms' := 0) tw_cI tw_cIi [.int s3, .int (1 : Int32)] rfl rfl wv_RX12_240_X12_throwsIf mo_X12_throwsIf (t := 11) rfl rfl rfl (fun Q9 => K_X12_throwsIf Q9 a0 s3 (1 : Int32)) (by omega) (by decide) (by decide) (Nat.le_of_ble_eq_true rfl) (fun x4 => ?_)
    refine tw_if_ne (k := 19) 65 rfl (by decide) ?_ ?_
    · refine tw_iconst (k := 35) (0 : Int32) rfl (by decide) ?_
      exact tw_ireturn (k := 36) rfl rfl (by decide) (by decide)
    · refine tw_aload_n (k := 20) rfl rfl ?_
      refine tw_aload_n (k := 21) rfl rfl ?_
      refine tw_iconst (k := 22) (1 : Int32) rfl (by decide) ?_
      refine tw_iload_n (k := 23) rfl rfl ?_
      refine tw_isub (k := 24) rfl ?_
      refine tw_iload_n (k := 25) rfl rfl ?_
      refine tw_callV (k := 26) (d' := 2) (mc' := 0) (ms' := 0) tw_cI tw_cIi [.int ((1 : Int32) - a1), .int a2] rfl rfl wv_RX12_139_X12_inPlan mo_X12_inPlan (t := 11) rfl rfl rfl (fun Q9 => K_X12_inPlan Q9 a0 ((1 : Int32) - a1) a2) (by omega) (by decide) (by decide) (Nat.le_of_ble_eq_true rfl) (fun x5 => ?_)
      refine tw_iload_n (k := 27) rfl rfl ?_
      refine tw_join 58 (fun s7 => [some (.ref a0), some (.int a1), some (.int a2), some (.int a3), none]) (fun s7 => .int s7 :: .ref a0 :: []) 0 0 (fun s7 => ?_) (fun j6 g6 => ?_)
      · refine tw_iconst (k := 32) (2 : Int32) rfl (by decide) ?_
        refine tw_callV (k := 33) (d' := 1) (mc' := 0) (ms' := 0) tw_cI tw_cIi [.int s7, .int (2 : Int32)] rfl rfl wv_RX12_240_X12_throwsIf mo_X12_throwsIf (t := 11) rfl rfl rfl (fun Q9 => K_X12_throwsIf Q9 a0 s7 (2 : Int32)) (by omega) (by decide) (by decide) (Nat.le_of_ble_eq_true rfl) (fun x8 => ?_)
        refine tw_if_eq (k := 34) 67 rfl (by decide) ?_ ?_
        · refine tw_aload_n (k := 37) rfl rfl ?_
          refine tw_callV (k := 38) (d' := 1) (mc' := 0) (ms' := 0) tw_cU tw_cUi [] rfl rfl wv_RX12_324_X12_remembers mo_X12_remembers (t := 11) rfl rfl rfl (fun Q9 => K_X12_remembers Q9 a0) (by omega) (by decide) (by decide) (Nat.le_of_ble_eq_true rfl) (fun u9 => ?_)
          refine tw_aload_n (k := 39) rfl rfl ?_
          refine tw_iload_n (k := 40) rfl rfl ?_
          refine tw_iload_n (k := 41) rfl rfl ?_
          refine tw_callV (k := 42) (d' := 2) (mc' := 0) (ms' := 0) tw_cI tw_cIi [.int a1, .int a2] rfl rfl wv_RX12_139_X12_inPlan mo_X12_inPlan (t := 11) rfl rfl rfl (fun Q9 => K_X12_inPlan Q9 a0 a1 a2) (by omega) (by decide) (by decide) (Nat.le_of_ble_eq_true rfl) (fun x10 => ?_)
          refine tw_ist (k := 43) [some (.ref a0), some (.int a1), some (.int a2), some (.int a3), some (.int x10)] rfl (Nat.le_of_ble_eq_true rfl) rfl rfl ?_
          refine tw_aload_n (k := 44) rfl rfl ?_
          refine tw_getR (k := 45) rfl fl_RX12_13 (fun x11 => ?_)
          refine tw_iload_n (k := 46) rfl rfl ?_
          refine tw_iload_n (k := 47) rfl rfl ?_
          refine tw_callS (k := 48) (d' := 1) (mc' := 0) (ms' := 0) tw_cI tw_cIi [.int a1, .int a2] rfl rfl ws_RX12_73_X12_planAt mo_X12_planAt rfl (fun Q9 => K_X12_planAt Q9 a1 a2) (by omega) (by decide) (by decide) (Nat.le_of_ble_eq_true rfl) (fun x12 => ?_)
          refine tw_iload_n (k := 49) rfl rfl ?_
          refine tw_iastore (k := 50) rfl ?_
          refine tw_iload (k := 51) rfl rfl ?_
          exact tw_ireturn (k := 52) rfl rfl (by decide) (by decide)
        · refine tw_iconst (k := 35) (0 : Int32) rfl (by decide) ?_
          exact tw_ireturn (k := 36) rfl rfl (by decide) (by decide)
      · refine tw_icmp_ne (k := 28) 57 rfl (by decide) ?_ ?_
        · refine tw_iconst (k := 31) (0 : Int32) rfl (by decide) ?_
          exact g6 (0 : Int32)
        · refine tw_iconst (k := 29) (1 : Int32) rfl (by decide) ?_
          refine tw_goto (k := 30) 58 rfl (by decide) ?_
          exact g6 (1 : Int32)
  · refine tw_join 28 (fun s14 => [some (.ref a0), some (.int a1), some (.int a2), some (.int a3), none]) (fun s14 => .ref a0 :: []) 0 0 (fun s14 => ?_) (fun j13 g13 => ?_)
    · refine tw_iconst (k := 14) (1 : Int32) rfl (by decide) ?_
      refine tw_goto (k := 15) 33 rfl (by decide) ?_
      exact g2 (1 : Int32)
    · refine tw_if_ne (k := 6) 28 rfl (by decide) ?_ ?_
      · exact g13 ()
      · refine tw_iload_n (k := 7) rfl rfl ?_
        refine tw_callS (k := 8) (d' := 2) (mc' := 0) (ms' := 0) tw_cI tw_cIi [.int a2] rfl rfl ws_RX12_318_X12_noHour mo_X12_noHour rfl (fun Q9 => K_X12_noHour Q9 a2) (by omega) (by decide) (by decide) (Nat.le_of_ble_eq_true rfl) (fun x15 => ?_)
        refine tw_if_ne (k := 9) 28 rfl (by decide) ?_ ?_
        · exact g13 ()
        · refine tw_aload_n (k := 10) rfl rfl ?_
          refine tw_iload_n (k := 11) rfl rfl ?_
          refine tw_callV (k := 12) (d' := 2) (mc' := 0) (ms' := 0) tw_cI tw_cIi [.int a3] rfl rfl wv_RX12_288_X12_nobody mo_X12_nobody (t := 11) rfl rfl rfl (fun Q9 => K_X12_nobody Q9 a0 a3) (by omega) (by decide) (by decide) (Nat.le_of_ble_eq_true rfl) (fun x16 => ?_)
          refine tw_if_eq (k := 13) 32 rfl (by decide) ?_ ?_
          · refine tw_iconst (k := 16) (0 : Int32) rfl (by decide) ?_
            exact g2 (0 : Int32)
          · exact g13 ()
def mX12_off : tw_MD := (yX12_off, cX12_off, 4, (some FieldType.int), [(0, .aload_n 0, 1, 1), (1, .iconst 0, 1, 2), (2, .putfield 3, 3, 5), (5, .aload_n 0, 1, 6), (6, .iload_n 1, 1, 7), (7, .invokestatic 315, 3, 10), (10, .ifCond .ne 10, 3, 13), (13, .iload_n 2, 1, 14), (14, .invokestatic 318, 3, 17), (17, .ifCond .eq 7, 3, 20), (20, .iconst 1, 1, 21), (21, .goto 4, 3, 24), (24, .iconst 0, 1, 25), (25, .iconst 1, 1, 26), (26, .invokevirtual 240, 3, 29), (29, .ifCond .ne 26, 3, 32), (32, .aload_n 0, 1, 33), (33, .aload_n 0, 1, 34), (34, .iload_n 1, 1, 35), (35, .iload_n 2, 1, 36), (36, .invokevirtual 139, 3, 39), (39, .iconst (-1), 1, 40), (40, .if_icmp .ne 7, 3, 43), (43, .iconst 1, 1, 44), (44, .goto 4, 3, 47), (47, .iconst 0, 1, 48), (48, .iconst 2, 1, 49), (49, .invokevirtual 240, 3, 52), (52, .ifCond .eq 5, 3, 55), (55, .iconst 0, 1, 56), (56, .ireturn, 1, 57), (57, .aload_n 0, 1, 58), (58, .invokevirtual 324, 3, 61), (61, .aload_n 0, 1, 62), (62, .iload_n 1, 1, 63), (63, .iload_n 2, 1, 64), (64, .invokevirtual 139, 3, 67), (67, .istore_n 3, 1, 68), (68, .aload_n 0, 1, 69), (69, .getfield 13, 3, 72), (72, .iload_n 1, 1, 73), (73, .iload_n 2, 1, 74), (74, .invokestatic 73, 3, 77), (77, .iconst (-1), 1, 78), (78, .iastore, 1, 79), (79, .iload_n 3, 1, 80), (80, .ireturn, 1, 81)], [])
theorem mo_X12_off : tw_mok mX12_off 2 := ⟨plainFor_of_name (by decide +kernel), by decide +kernel, by decide +kernel, by decide +kernel, by decide +kernel⟩
theorem dk_X12_off : tw_dk mX12_off := by unfold tw_dk; decide +kernel
theorem wf_X12_off_3 : tw_wf mX12_off 3 70 := Or.inl rfl
set_option maxRecDepth 20000 in
theorem K_X12_off {g : tw_Gx} (Q : tw_Rs → tw_Mem → Prop) (a0 : Nat) (a1 : Int32) (a2 : Int32) : tw_Kt g mX12_off 3 0 0 [.ref a0, .int a1, .int a2] Q (f_X12_off a0 a1 a2 (fun v => Q (.inl (some (.int v))))) := by
  refine tw_mkK (L := [some (.ref a0), some (.int a1), some (.int a2), none]) mo_X12_off dk_X12_off rfl (Nat.le_of_ble_eq_true rfl) rfl ?_
  unfold f_X12_off
  refine tw_aload_n (k := 0) rfl rfl ?_
  refine tw_iconst (k := 1) (0 : Int32) rfl (by decide) ?_
  refine tw_putI (k := 2) rfl fl_RX12_3 wf_X12_off_3 (by decide +kernel) ?_
  refine tw_aload_n (k := 3) rfl rfl ?_
  refine tw_iload_n (k := 4) rfl rfl ?_
  refine tw_callS (k := 5) (d' := 2) (mc' := 0) (ms' := 0) tw_cI tw_cIi [.int a1] rfl rfl ws_RX12_315_X12_noLoft mo_X12_noLoft rfl (fun Q9 => K_X12_noLoft Q9 a1) (by omega) (by decide) (by decide) (Nat.le_of_ble_eq_true rfl) (fun x1 => ?_)
  refine tw_join 25 (fun s3 => [some (.ref a0), some (.int a1), some (.int a2), none]) (fun s3 => .int s3 :: .ref a0 :: []) 0 0 (fun s3 => ?_) (fun j2 g2 => ?_)
  · refine tw_iconst (k := 13) (1 : Int32) rfl (by decide) ?_
    refine tw_callV (k := 14) (d' := 1) (mc' := 0) (ms' := 0) tw_cI tw_cIi [.int s3, .int (1 : Int32)] rfl rfl wv_RX12_240_X12_throwsIf mo_X12_throwsIf (t := 11) rfl rfl rfl (fun Q9 => K_X12_throwsIf Q9 a0 s3 (1 : Int32)) (by omega) (by decide) (by decide) (Nat.le_of_ble_eq_true rfl) (fun x4 => ?_)
    refine tw_if_ne (k := 15) 55 rfl (by decide) ?_ ?_
    · refine tw_iconst (k := 29) (0 : Int32) rfl (by decide) ?_
      exact tw_ireturn (k := 30) rfl rfl (by decide) (by decide)
    · refine tw_aload_n (k := 16) rfl rfl ?_
      refine tw_aload_n (k := 17) rfl rfl ?_
      refine tw_iload_n (k := 18) rfl rfl ?_
      refine tw_iload_n (k := 19) rfl rfl ?_
      refine tw_callV (k := 20) (d' := 2) (mc' := 0) (ms' := 0) tw_cI tw_cIi [.int a1, .int a2] rfl rfl wv_RX12_139_X12_inPlan mo_X12_inPlan (t := 11) rfl rfl rfl (fun Q9 => K_X12_inPlan Q9 a0 a1 a2) (by omega) (by decide) (by decide) (Nat.le_of_ble_eq_true rfl) (fun x5 => ?_)
      refine tw_iconst (k := 21) (-1 : Int32) rfl (by decide) ?_
      refine tw_join 48 (fun s7 => [some (.ref a0), some (.int a1), some (.int a2), none]) (fun s7 => .int s7 :: .ref a0 :: []) 0 0 (fun s7 => ?_) (fun j6 g6 => ?_)
      · refine tw_iconst (k := 26) (2 : Int32) rfl (by decide) ?_
        refine tw_callV (k := 27) (d' := 1) (mc' := 0) (ms' := 0) tw_cI tw_cIi [.int s7, .int (2 : Int32)] rfl rfl wv_RX12_240_X12_throwsIf mo_X12_throwsIf (t := 11) rfl rfl rfl (fun Q9 => K_X12_throwsIf Q9 a0 s7 (2 : Int32)) (by omega) (by decide) (by decide) (Nat.le_of_ble_eq_true rfl) (fun x8 => ?_)
        refine tw_if_eq (k := 28) 57 rfl (by decide) ?_ ?_
        · refine tw_aload_n (k := 31) rfl rfl ?_
          refine tw_callV (k := 32) (d' := 1) (mc' := 0) (ms' := 0) tw_cU tw_cUi [] rfl rfl wv_RX12_324_X12_remembers mo_X12_remembers (t := 11) rfl rfl rfl (fun Q9 => K_X12_remembers Q9 a0) (by omega) (by decide) (by decide) (Nat.le_of_ble_eq_true rfl) (fun u9 => ?_)
          refine tw_aload_n (k := 33) rfl rfl ?_
          refine tw_iload_n (k := 34) rfl rfl ?_
          refine tw_iload_n (k := 35) rfl rfl ?_
          refine tw_callV (k := 36) (d' := 2) (mc' := 0) (ms' := 0) tw_cI tw_cIi [.int a1, .int a2] rfl rfl wv_RX12_139_X12_inPlan mo_X12_inPlan (t := 11) rfl rfl rfl (fun Q9 => K_X12_inPlan Q9 a0 a1 a2) (by omega) (by decide) (by decide) (Nat.le_of_ble_eq_true rfl) (fun x10 => ?_)
          refine tw_ist_n (k := 37) [some (.ref a0), some (.int a1), some (.int a2), some (.int x10)] rfl (Nat.le_of_ble_eq_true rfl) rfl rfl ?_
          refine tw_aload_n (k := 38) rfl rfl ?_
          refine tw_getR (k := 39) rfl fl_RX12_13 (fun x11 => ?_)
          refine tw_iload_n (k := 40) rfl rfl ?_
          refine tw_iload_n (k := 41) rfl rfl ?_
          refine tw_callS (k := 42) (d' := 1) (mc' := 0) (ms' := 0) tw_cI tw_cIi [.int a1, .int a2] rfl rfl ws_RX12_73_X12_planAt mo_X12_planAt rfl (fun Q9 => K_X12_planAt Q9 a1 a2) (by omega) (by decide) (by decide) (Nat.le_of_ble_eq_true rfl) (fun x12 => ?_)
          refine tw_iconst (k := 43) (-1 : Int32) rfl (by decide) ?_
          refine tw_iastore (k := 44) rfl ?_
          refine tw_iload_n (k := 45) rfl rfl ?_
          exact tw_ireturn (k := 46) rfl rfl (by decide) (by decide)
        · refine tw_iconst (k := 29) (0 : Int32) rfl (by decide) ?_
          exact tw_ireturn (k := 30) rfl rfl (by decide) (by decide)
      · refine tw_icmp_ne (k := 22) 47 rfl (by decide) ?_ ?_
        · refine tw_iconst (k := 25) (0 : Int32) rfl (by decide) ?_
          exact g6 (0 : Int32)
        · refine tw_iconst (k := 23) (1 : Int32) rfl (by decide) ?_
          refine tw_goto (k := 24) 48 rfl (by decide) ?_
          exact g6 (1 : Int32)
  · refine tw_join 20 (fun s14 => [some (.ref a0), some (.int a1), some (.int a2), none]) (fun s14 => .ref a0 :: []) 0 0 (fun s14 => ?_) (fun j13 g13 => ?_)
    · refine tw_iconst (k := 10) (1 : Int32) rfl (by decide) ?_
      refine tw_goto (k := 11) 25 rfl (by decide) ?_
      exact g2 (1 : Int32)
    · refine tw_if_ne (k := 6) 20 rfl (by decide) ?_ ?_
      · exact g13 ()
      · refine tw_iload_n (k := 7) rfl rfl ?_
        refine tw_callS (k := 8) (d' := 2) (mc' := 0) (ms' := 0) tw_cI tw_cIi [.int a2] rfl rfl ws_RX12_318_X12_noHour mo_X12_noHour rfl (fun Q9 => K_X12_noHour Q9 a2) (by omega) (by decide) (by decide) (Nat.le_of_ble_eq_true rfl) (fun x15 => ?_)
        refine tw_if_eq (k := 9) 24 rfl (by decide) ?_ ?_
        · refine tw_iconst (k := 12) (0 : Int32) rfl (by decide) ?_
          exact g2 (0 : Int32)
        · exact g13 ()
def mX12_change : tw_MD := (yX12_change, cX12_change, 3, (some FieldType.int), [(0, .aload_n 0, 1, 1), (1, .iconst 0, 1, 2), (2, .putfield 3, 3, 5), (5, .aload_n 0, 1, 6), (6, .iload_n 1, 1, 7), (7, .invokestatic 318, 3, 10), (10, .iconst 1, 1, 11), (11, .invokevirtual 240, 3, 14), (14, .ifCond .eq 5, 3, 17), (17, .iconst 0, 1, 18), (18, .ireturn, 1, 19), (19, .aload_n 0, 1, 20), (20, .invokevirtual 324, 3, 23), (23, .aload_n 0, 1, 24), (24, .iconst 0, 1, 25), (25, .iload_n 1, 1, 26), (26, .invokevirtual 139, 3, 29), (29, .istore_n 2, 1, 30), (30, .aload_n 0, 1, 31), (31, .getfield 13, 3, 34), (34, .iconst 0, 1, 35), (35, .iload_n 1, 1, 36), (36, .invokestatic 73, 3, 39), (39, .aload_n 0, 1, 40), (40, .iconst 1, 1, 41), (41, .iload_n 1, 1, 42), (42, .invokevirtual 139, 3, 45), (45, .iastore, 1, 46), (46, .aload_n 0, 1, 47), (47, .getfield 13, 3, 50), (50, .iconst 1, 1, 51), (51, .iload_n 1, 1, 52), (52, .invokestatic 73, 3, 55), (55, .iload_n 2, 1, 56), (56, .iastore, 1, 57), (57, .aload_n 0, 1, 58), (58, .iconst 0, 1, 59), (59, .iload_n 1, 1, 60), (60, .invokevirtual 139, 3, 63), (63, .ireturn, 1, 64)], [])
theorem mo_X12_change : tw_mok mX12_change 1 := ⟨plainFor_of_name (by decide +kernel), by decide +kernel, by decide +kernel, by decide +kernel, by decide +kernel⟩
theorem dk_X12_change : tw_dk mX12_change := by unfold tw_dk; decide +kernel
theorem wf_X12_change_3 : tw_wf mX12_change 3 70 := Or.inl rfl
set_option maxRecDepth 20000 in
theorem K_X12_change {g : tw_Gx} (Q : tw_Rs → tw_Mem → Prop) (a0 : Nat) (a1 : Int32) : tw_Kt g mX12_change 3 0 0 [.ref a0, .int a1] Q (f_X12_change a0 a1 (fun v => Q (.inl (some (.int v))))) := by
  refine tw_mkK (L := [some (.ref a0), some (.int a1), none]) mo_X12_change dk_X12_change rfl (Nat.le_of_ble_eq_true rfl) rfl ?_
  unfold f_X12_change
  refine tw_aload_n (k := 0) rfl rfl ?_
  refine tw_iconst (k := 1) (0 : Int32) rfl (by decide) ?_
  refine tw_putI (k := 2) rfl fl_RX12_3 wf_X12_change_3 (by decide +kernel) ?_
  refine tw_aload_n (k := 3) rfl rfl ?_
  refine tw_iload_n (k := 4) rfl rfl ?_
  refine tw_callS (k := 5) (d' := 2) (mc' := 0) (ms' := 0) tw_cI tw_cIi [.int a1] rfl rfl ws_RX12_318_X12_noHour mo_X12_noHour rfl (fun Q9 => K_X12_noHour Q9 a1) (by omega) (by decide) (by decide) (Nat.le_of_ble_eq_true rfl) (fun x1 => ?_)
  refine tw_iconst (k := 6) (1 : Int32) rfl (by decide) ?_
  refine tw_callV (k := 7) (d' := 1) (mc' := 0) (ms' := 0) tw_cI tw_cIi [.int x1, .int (1 : Int32)] rfl rfl wv_RX12_240_X12_throwsIf mo_X12_throwsIf (t := 11) rfl rfl rfl (fun Q9 => K_X12_throwsIf Q9 a0 x1 (1 : Int32)) (by omega) (by decide) (by decide) (Nat.le_of_ble_eq_true rfl) (fun x2 => ?_)
  refine tw_if_eq (k := 8) 19 rfl (by decide) ?_ ?_
  · refine tw_aload_n (k := 11) rfl rfl ?_
    refine tw_callV (k := 12) (d' := 1) (mc' := 0) (ms' := 0) tw_cU tw_cUi [] rfl rfl wv_RX12_324_X12_remembers mo_X12_remembers (t := 11) rfl rfl rfl (fun Q9 => K_X12_remembers Q9 a0) (by omega) (by decide) (by decide) (Nat.le_of_ble_eq_true rfl) (fun u3 => ?_)
    refine tw_aload_n (k := 13) rfl rfl ?_
    refine tw_iconst (k := 14) (0 : Int32) rfl (by decide) ?_
    refine tw_iload_n (k := 15) rfl rfl ?_
    refine tw_callV (k := 16) (d' := 2) (mc' := 0) (ms' := 0) tw_cI tw_cIi [.int (0 : Int32), .int a1] rfl rfl wv_RX12_139_X12_inPlan mo_X12_inPlan (t := 11) rfl rfl rfl (fun Q9 => K_X12_inPlan Q9 a0 (0 : Int32) a1) (by omega) (by decide) (by decide) (Nat.le_of_ble_eq_true rfl) (fun x4 => ?_)
    refine tw_ist_n (k := 17) [some (.ref a0), some (.int a1), some (.int x4)] rfl (Nat.le_of_ble_eq_true rfl) rfl rfl ?_
    refine tw_aload_n (k := 18) rfl rfl ?_
    refine tw_getR (k := 19) rfl fl_RX12_13 (fun x5 => ?_)
    refine tw_iconst (k := 20) (0 : Int32) rfl (by decide) ?_
    refine tw_iload_n (k := 21) rfl rfl ?_
    refine tw_callS (k := 22) (d' := 1) (mc' := 0) (ms' := 0) tw_cI tw_cIi [.int (0 : Int32), .int a1] rfl rfl ws_RX12_73_X12_planAt mo_X12_planAt rfl (fun Q9 => K_X12_planAt Q9 (0 : Int32) a1) (by omega) (by decide) (by decide) (Nat.le_of_ble_eq_true rfl) (fun x6 => ?_)
    refine tw_aload_n (k := 23) rfl rfl ?_
    refine tw_iconst (k := 24) (1 : Int32) rfl (by decide) ?_
    refine tw_iload_n (k := 25) rfl rfl ?_
    refine tw_callV (k := 26) (d' := 2) (mc' := 0) (ms' := 0) tw_cI tw_cIi [.int (1 : Int32), .int a1] rfl rfl wv_RX12_139_X12_inPlan mo_X12_inPlan (t := 11) rfl rfl rfl (fun Q9 => K_X12_inPlan Q9 a0 (1 : Int32) a1) (by omega) (by decide) (by decide) (Nat.le_of_ble_eq_true rfl) (fun x7 => ?_)
    refine tw_iastore (k := 27) rfl ?_
    refine tw_aload_n (k := 28) rfl rfl ?_
    refine tw_getR (k := 29) rfl fl_RX12_13 (fun x8 => ?_)
    refine tw_iconst (k := 30) (1 : Int32) rfl (by decide) ?_
    refine tw_iload_n (k := 31) rfl rfl ?_
    refine tw_callS (k := 32) (d' := 1) (mc' := 0) (ms' := 0) tw_cI tw_cIi [.int (1 : Int32), .int a1] rfl rfl ws_RX12_73_X12_planAt mo_X12_planAt rfl (fun Q9 => K_X12_planAt Q9 (1 : Int32) a1) (by omega) (by decide) (by decide) (Nat.le_of_ble_eq_true rfl) (fun x9 => ?_)
    refine tw_iload_n (k := 33) rfl rfl ?_
    refine tw_iastore (k := 34) rfl ?_
    refine tw_aload_n (k := 35) rfl rfl ?_
    refine tw_iconst (k := 36) (0 : Int32) rfl (by decide) ?_
    refine tw_iload_n (k := 37) rfl rfl ?_
    refine tw_callV (k := 38) (d' := 2) (mc' := 0) (ms' := 0) tw_cI tw_cIi [.int (0 : Int32), .int a1] rfl rfl wv_RX12_139_X12_inPlan mo_X12_inPlan (t := 11) rfl rfl rfl (fun Q9 => K_X12_inPlan Q9 a0 (0 : Int32) a1) (by omega) (by decide) (by decide) (Nat.le_of_ble_eq_true rfl) (fun x10 => ?_)
    exact tw_ireturn (k := 39) rfl rfl (by decide) (by decide)
  · refine tw_iconst (k := 9) (0 : Int32) rfl (by decide) ?_
    exact tw_ireturn (k := 10) rfl rfl (by decide) (by decide)
def mX12_swear : tw_MD := (yX12_swear, cX12_swear, 4, (some FieldType.boolean), [(0, .aload_n 0, 1, 1), (1, .iconst 0, 1, 2), (2, .putfield 3, 3, 5), (5, .aload_n 0, 1, 6), (6, .aload_n 0, 1, 7), (7, .iload_n 1, 1, 8), (8, .invokevirtual 288, 3, 11), (11, .iconst 1, 1, 12), (12, .invokevirtual 240, 3, 15), (15, .ifCond .eq 5, 3, 18), (18, .iconst 0, 1, 19), (19, .ireturn, 1, 20), (20, .aload_n 0, 1, 21), (21, .invokevirtual 324, 3, 24), (24, .aload_n 0, 1, 25), (25, .iload_n 1, 1, 26), (26, .iconst 3, 1, 27), (27, .invokevirtual 70, 3, 30), (30, .iconst 1, 1, 31), (31, .if_icmp .ne 7, 3, 34), (34, .iconst 1, 1, 35), (35, .goto 4, 3, 38), (38, .iconst 0, 1, 39), (39, .istore_n 3, 1, 40), (40, .aload_n 0, 1, 41), (41, .getfield 13, 3, 44), (44, .iload_n 1, 1, 45), (45, .iconst 3, 1, 46), (46, .invokestatic 66, 3, 49), (49, .iload_n 2, 1, 50), (50, .ifCond .eq 7, 3, 53), (53, .iconst 1, 1, 54), (54, .goto 4, 3, 57), (57, .iconst 0, 1, 58), (58, .iastore, 1, 59), (59, .iload_n 3, 1, 60), (60, .iload_n 2, 1, 61), (61, .if_icmp .eq 7, 3, 64), (64, .iconst 1, 1, 65), (65, .goto 4, 3, 68), (68, .iconst 0, 1, 69), (69, .ireturn, 1, 70)], [])
theorem mo_X12_swear : tw_mok mX12_swear 2 := ⟨plainFor_of_name (by decide +kernel), by decide +kernel, by decide +kernel, by decide +kernel, by decide +kernel⟩
theorem dk_X12_swear : tw_dk mX12_swear := by unfold tw_dk; decide +kernel
theorem wf_X12_swear_3 : tw_wf mX12_swear 3 70 := Or.inl rfl
set_option maxRecDepth 20000 in
theorem K_X12_swear {g : tw_Gx} (Q : tw_Rs → tw_Mem → Prop) (a0 : Nat) (a1 : Int32) (a2 : Int32) : tw_Kt g mX12_swear 3 0 0 [.ref a0, .int a1, .int a2] Q (f_X12_swear a0 a1 a2 (fun v => Q (.inl (some (.int v))))) := by
  refine tw_mkK (L := [some (.ref a0), some (.int a1), some (.int a2), none]) mo_X12_swear dk_X12_swear rfl (Nat.le_of_ble_eq_true rfl) rfl ?_
  unfold f_X12_swear
  refine tw_aload_n (k := 0) rfl rfl ?_
  refine tw_iconst (k := 1) (0 : Int32) rfl (by decide) ?_
  refine tw_putI (k := 2) rfl fl_RX12_3 wf_X12_swear_3 (by decide +kernel) ?_
  refine tw_aload_n (k := 3) rfl rfl ?_
  refine tw_aload_n (k := 4) rfl rfl ?_
  refine tw_iload_n (k := 5) rfl rfl ?_
  refine tw_callV (k := 6) (d' := 2) (mc' := 0) (ms' := 0) tw_cI tw_cIi [.int a1] rfl rfl wv_RX12_288_X12_nobody mo_X12_nobody (t := 11) rfl rfl rfl (fun Q9 => K_X12_nobody Q9 a0 a1) (by omega) (by decide) (by decide) (Nat.le_of_ble_eq_true rfl) (fun x1 => ?_)
  refine tw_iconst (k := 7) (1 : Int32) rfl (by decide) ?_
  refine tw_callV (k := 8) (d' := 1) (mc' := 0) (ms' := 0) tw_cI tw_cIi [.int x1, .int (1 : Int32)] rfl rfl wv_RX12_240_X12_throwsIf mo_X12_throwsIf (t := 11) rfl rfl rfl (fun Q9 => K_X12_throwsIf Q9 a0 x1 (1 : Int32)) (by omega) (by decide) (by decide) (Nat.le_of_ble_eq_true rfl) (fun x2 => ?_)
  refine tw_if_eq (k := 9) 20 rfl (by decide) ?_ ?_
  · refine tw_aload_n (k := 12) rfl rfl ?_
    refine tw_callV (k := 13) (d' := 1) (mc' := 0) (ms' := 0) tw_cU tw_cUi [] rfl rfl wv_RX12_324_X12_remembers mo_X12_remembers (t := 11) rfl rfl rfl (fun Q9 => K_X12_remembers Q9 a0) (by omega) (by decide) (by decide) (Nat.le_of_ble_eq_true rfl) (fun u3 => ?_)
    refine tw_aload_n (k := 14) rfl rfl ?_
    refine tw_iload_n (k := 15) rfl rfl ?_
    refine tw_iconst (k := 16) (3 : Int32) rfl (by decide) ?_
    refine tw_callV (k := 17) (d' := 2) (mc' := 0) (ms' := 0) tw_cI tw_cIi [.int a1, .int (3 : Int32)] rfl rfl wv_RX12_70_X12_of mo_X12_of (t := 11) rfl rfl rfl (fun Q9 => K_X12_of Q9 a0 a1 (3 : Int32)) (by omega) (by decide) (by decide) (Nat.le_of_ble_eq_true rfl) (fun x4 => ?_)
    refine tw_iconst (k := 18) (1 : Int32) rfl (by decide) ?_
    refine tw_join 39 (fun s6 => [some (.ref a0), some (.int a1), some (.int a2), none]) (fun s6 => .int s6 :: []) 0 0 (fun s6 => ?_) (fun j5 g5 => ?_)
    · refine tw_ist_n (k := 23) [some (.ref a0), some (.int a1), some (.int a2), some (.int s6)] rfl (Nat.le_of_ble_eq_true rfl) rfl rfl ?_
      refine tw_aload_n (k := 24) rfl rfl ?_
      refine tw_getR (k := 25) rfl fl_RX12_13 (fun x7 => ?_)
      refine tw_iload_n (k := 26) rfl rfl ?_
      refine tw_iconst (k := 27) (3 : Int32) rfl (by decide) ?_
      refine tw_callS (k := 28) (d' := 1) (mc' := 0) (ms' := 0) tw_cI tw_cIi [.int a1, .int (3 : Int32)] rfl rfl ws_RX12_66_X12_at mo_X12_at rfl (fun Q9 => K_X12_at Q9 a1 (3 : Int32)) (by omega) (by decide) (by decide) (Nat.le_of_ble_eq_true rfl) (fun x8 => ?_)
      refine tw_iload_n (k := 29) rfl rfl ?_
      refine tw_join 58 (fun s10 => [some (.ref a0), some (.int a1), some (.int a2), some (.int s6)]) (fun s10 => .int s10 :: .int x8 :: .ref x7 :: []) 0 0 (fun s10 => ?_) (fun j9 g9 => ?_)
      · refine tw_iastore (k := 34) rfl ?_
        refine tw_iload_n (k := 35) rfl rfl ?_
        refine tw_iload_n (k := 36) rfl rfl ?_
        refine tw_icmp_eq (k := 37) 68 rfl (by decide) ?_ ?_
        · refine tw_iconst (k := 40) (0 : Int32) rfl (by decide) ?_
          exact tw_zreturn (k := 41) rfl rfl (by decide) (by decide)
        · refine tw_iconst (k := 38) (1 : Int32) rfl (by decide) ?_
          refine tw_goto (k := 39) 69 rfl (by decide) ?_
          exact tw_zreturn (k := 41) rfl rfl (by decide) (by decide)
      · refine tw_if_eq (k := 30) 57 rfl (by decide) ?_ ?_
        · refine tw_iconst (k := 33) (0 : Int32) rfl (by decide) ?_
          exact g9 (0 : Int32)
        · refine tw_iconst (k := 31) (1 : Int32) rfl (by decide) ?_
          refine tw_goto (k := 32) 58 rfl (by decide) ?_
          exact g9 (1 : Int32)
    · refine tw_icmp_ne (k := 19) 38 rfl (by decide) ?_ ?_
      · refine tw_iconst (k := 22) (0 : Int32) rfl (by decide) ?_
        exact g5 (0 : Int32)
      · refine tw_iconst (k := 20) (1 : Int32) rfl (by decide) ?_
        refine tw_goto (k := 21) 39 rfl (by decide) ?_
        exact g5 (1 : Int32)
  · refine tw_iconst (k := 10) (0 : Int32) rfl (by decide) ?_
    exact tw_zreturn (k := 11) rfl rfl (by decide) (by decide)
def mX12_move : tw_MD := (yX12_move, cX12_move, 4, (some FieldType.int), [(0, .aload_n 0, 1, 1), (1, .iconst 0, 1, 2), (2, .putfield 3, 3, 5), (5, .aload_n 0, 1, 6), (6, .aload_n 0, 1, 7), (7, .iload_n 1, 1, 8), (8, .invokevirtual 288, 3, 11), (11, .ifCond .ne 13, 3, 14), (14, .iload_n 2, 1, 15), (15, .iconst 0, 1, 16), (16, .bipush 7, 2, 18), (18, .invokestatic 76, 3, 21), (21, .ifCond .ne 7, 3, 24), (24, .iconst 1, 1, 25), (25, .goto 4, 3, 28), (28, .iconst 0, 1, 29), (29, .iconst 1, 1, 30), (30, .invokevirtual 240, 3, 33), (33, .ifCond .eq 5, 3, 36), (36, .iconst 0, 1, 37), (37, .ireturn, 1, 38), (38, .aload_n 0, 1, 39), (39, .invokevirtual 324, 3, 42), (42, .aload_n 0, 1, 43), (43, .iload_n 1, 1, 44), (44, .iconst 0, 1, 45), (45, .invokevirtual 70, 3, 48), (48, .istore_n 3, 1, 49), (49, .aload_n 0, 1, 50), (50, .getfield 13, 3, 53), (53, .iload_n 1, 1, 54), (54, .iconst 0, 1, 55), (55, .invokestatic 66, 3, 58), (58, .iload_n 2, 1, 59), (59, .iastore, 1, 60), (60, .iload_n 3, 1, 61), (61, .ireturn, 1, 62)], [])
theorem mo_X12_move : tw_mok mX12_move 2 := ⟨plainFor_of_name (by decide +kernel), by decide +kernel, by decide +kernel, by decide +kernel, by decide +kernel⟩
theorem dk_X12_move : tw_dk mX12_move := by unfold tw_dk; decide +kernel
theorem wf_X12_move_3 : tw_wf mX12_move 3 70 := Or.inl rfl
set_option maxRecDepth 20000 in
theorem K_X12_move {g : tw_Gx} (Q : tw_Rs → tw_Mem → Prop) (a0 : Nat) (a1 : Int32) (a2 : Int32) : tw_Kt g mX12_move 3 0 0 [.ref a0, .int a1, .int a2] Q (f_X12_move a0 a1 a2 (fun v => Q (.inl (some (.int v))))) := by
  refine tw_mkK (L := [some (.ref a0), some (.int a1), some (.int a2), none]) mo_X12_move dk_X12_move rfl (Nat.le_of_ble_eq_true rfl) rfl ?_
  unfold f_X12_move
  refine tw_aload_n (k := 0) rfl rfl ?_
  refine tw_iconst (k := 1) (0 : Int32) rfl (by decide) ?_
  refine tw_putI (k := 2) rfl fl_RX12_3 wf_X12_move_3 (by decide +kernel) ?_
  refine tw_aload_n (k := 3) rfl rfl ?_
  refine tw_aload_n (k := 4) rfl rfl ?_
  refine tw_iload_n (k := 5) rfl rfl ?_
  refine tw_callV (k := 6) (d' := 2) (mc' := 0) (ms' := 0) tw_cI tw_cIi [.int a1] rfl rfl wv_RX12_288_X12_nobody mo_X12_nobody (t := 11) rfl rfl rfl (fun Q9 => K_X12_nobody Q9 a0 a1) (by omega) (by decide) (by decide) (Nat.le_of_ble_eq_true rfl) (fun x1 => ?_)
  refine tw_join 29 (fun s3 => [some (.ref a0), some (.int a1), some (.int a2), none]) (fun s3 => .int s3 :: .ref a0 :: []) 0 0 (fun s3 => ?_) (fun j2 g2 => ?_)
  · refine tw_iconst (k := 16) (1 : Int32) rfl (by decide) ?_
    refine tw_callV (k := 17) (d' := 1) (mc' := 0) (ms' := 0) tw_cI tw_cIi [.int s3, .int (1 : Int32)] rfl rfl wv_RX12_240_X12_throwsIf mo_X12_throwsIf (t := 11) rfl rfl rfl (fun Q9 => K_X12_throwsIf Q9 a0 s3 (1 : Int32)) (by omega) (by decide) (by decide) (Nat.le_of_ble_eq_true rfl) (fun x4 => ?_)
    refine tw_if_eq (k := 18) 38 rfl (by decide) ?_ ?_
    · refine tw_aload_n (k := 21) rfl rfl ?_
      refine tw_callV (k := 22) (d' := 1) (mc' := 0) (ms' := 0) tw_cU tw_cUi [] rfl rfl wv_RX12_324_X12_remembers mo_X12_remembers (t := 11) rfl rfl rfl (fun Q9 => K_X12_remembers Q9 a0) (by omega) (by decide) (by decide) (Nat.le_of_ble_eq_true rfl) (fun u5 => ?_)
      refine tw_aload_n (k := 23) rfl rfl ?_
      refine tw_iload_n (k := 24) rfl rfl ?_
      refine tw_iconst (k := 25) (0 : Int32) rfl (by decide) ?_
      refine tw_callV (k := 26) (d' := 2) (mc' := 0) (ms' := 0) tw_cI tw_cIi [.int a1, .int (0 : Int32)] rfl rfl wv_RX12_70_X12_of mo_X12_of (t := 11) rfl rfl rfl (fun Q9 => K_X12_of Q9 a0 a1 (0 : Int32)) (by omega) (by decide) (by decide) (Nat.le_of_ble_eq_true rfl) (fun x6 => ?_)
      refine tw_ist_n (k := 27) [some (.ref a0), some (.int a1), some (.int a2), some (.int x6)] rfl (Nat.le_of_ble_eq_true rfl) rfl rfl ?_
      refine tw_aload_n (k := 28) rfl rfl ?_
      refine tw_getR (k := 29) rfl fl_RX12_13 (fun x7 => ?_)
      refine tw_iload_n (k := 30) rfl rfl ?_
      refine tw_iconst (k := 31) (0 : Int32) rfl (by decide) ?_
      refine tw_callS (k := 32) (d' := 1) (mc' := 0) (ms' := 0) tw_cI tw_cIi [.int a1, .int (0 : Int32)] rfl rfl ws_RX12_66_X12_at mo_X12_at rfl (fun Q9 => K_X12_at Q9 a1 (0 : Int32)) (by omega) (by decide) (by decide) (Nat.le_of_ble_eq_true rfl) (fun x8 => ?_)
      refine tw_iload_n (k := 33) rfl rfl ?_
      refine tw_iastore (k := 34) rfl ?_
      refine tw_iload_n (k := 35) rfl rfl ?_
      exact tw_ireturn (k := 36) rfl rfl (by decide) (by decide)
    · refine tw_iconst (k := 19) (0 : Int32) rfl (by decide) ?_
      exact tw_ireturn (k := 20) rfl rfl (by decide) (by decide)
  · refine tw_join 24 (fun s10 => [some (.ref a0), some (.int a1), some (.int a2), none]) (fun s10 => .ref a0 :: []) 0 0 (fun s10 => ?_) (fun j9 g9 => ?_)
    · refine tw_iconst (k := 13) (1 : Int32) rfl (by decide) ?_
      refine tw_goto (k := 14) 29 rfl (by decide) ?_
      exact g2 (1 : Int32)
    · refine tw_if_ne (k := 7) 24 rfl (by decide) ?_ ?_
      · exact g9 ()
      · refine tw_iload_n (k := 8) rfl rfl ?_
        refine tw_iconst (k := 9) (0 : Int32) rfl (by decide) ?_
        refine tw_bipush (k := 10) (7 : Int32) rfl (by decide) ?_
        refine tw_callS (k := 11) (d' := 1) (mc' := 0) (ms' := 0) tw_cI tw_cIi [.int a2, .int (0 : Int32), .int (7 : Int32)] rfl rfl ws_RX12_76_X12_in mo_X12_in rfl (fun Q9 => K_X12_in Q9 a2 (0 : Int32) (7 : Int32)) (by omega) (by decide) (by decide) (Nat.le_of_ble_eq_true rfl) (fun x11 => ?_)
        refine tw_if_ne (k := 12) 28 rfl (by decide) ?_ ?_
        · refine tw_iconst (k := 15) (0 : Int32) rfl (by decide) ?_
          exact g2 (0 : Int32)
        · exact g9 ()
def mX12_guess : tw_MD := (yX12_guess, cX12_guess, 5, (some FieldType.int), [(0, .aload_n 0, 1, 1), (1, .iconst 0, 1, 2), (2, .putfield 3, 3, 5), (5, .aload_n 0, 1, 6), (6, .aload_n 0, 1, 7), (7, .iload_n 1, 1, 8), (8, .invokevirtual 288, 3, 11), (11, .ifCond .ne 11, 3, 14), (14, .aload_n 0, 1, 15), (15, .iload_n 2, 1, 16), (16, .invokevirtual 288, 3, 19), (19, .ifCond .eq 7, 3, 22), (22, .iconst 1, 1, 23), (23, .goto 4, 3, 26), (26, .iconst 0, 1, 27), (27, .iconst 1, 1, 28), (28, .invokevirtual 240, 3, 31), (31, .ifCond .ne 31, 3, 34), (34, .aload_n 0, 1, 35), (35, .iload_n 1, 1, 36), (36, .iload_n 2, 1, 37), (37, .if_icmp .eq 13, 3, 40), (40, .iload_n 3, 1, 41), (41, .iconst 0, 1, 42), (42, .bipush 9, 2, 44), (44, .invokestatic 76, 3, 47), (47, .ifCond .ne 7, 3, 50), (50, .iconst 1, 1, 51), (51, .goto 4, 3, 54), (54, .iconst 0, 1, 55), (55, .iconst 2, 1, 56), (56, .invokevirtual 240, 3, 59), (59, .ifCond .eq 5, 3, 62), (62, .iconst 0, 1, 63), (63, .ireturn, 1, 64), (64, .aload_n 0, 1, 65), (65, .invokevirtual 324, 3, 68), (68, .aload_n 0, 1, 69), (69, .iload_n 1, 1, 70), (70, .iload_n 2, 1, 71), (71, .invokevirtual 243, 3, 74), (74, .istore 4, 2, 76), (76, .aload_n 0, 1, 77), (77, .iload_n 1, 1, 78), (78, .iload_n 2, 1, 79), (79, .iload_n 3, 1, 80), (80, .invokevirtual 327, 3, 83), (83, .iload 4, 2, 85), (85, .ireturn, 1, 86)], [])
theorem mo_X12_guess : tw_mok mX12_guess 3 := ⟨plainFor_of_name (by decide +kernel), by decide +kernel, by decide +kernel, by decide +kernel, by decide +kernel⟩
theorem dk_X12_guess : tw_dk mX12_guess := by unfold tw_dk; decide +kernel
theorem wv_RX12_327_X12_guesses : tw_wV RX12 327 mX12_guesses := ⟨List.mem_of_getElem? (i := 2190) (by decide +kernel), List.mem_of_getElem? (i := 2192) (by decide +kernel), List.mem_of_getElem? (i := 94) (by decide +kernel), List.mem_of_getElem? (i := 137) (by decide +kernel), List.mem_of_getElem? (i := 2193) (by decide +kernel)⟩
theorem wf_X12_guess_3 : tw_wf mX12_guess 3 70 := Or.inl rfl
set_option maxRecDepth 20000 in
theorem K_X12_guess {g : tw_Gx} (Q : tw_Rs → tw_Mem → Prop) (a0 : Nat) (a1 : Int32) (a2 : Int32) (a3 : Int32) : tw_Kt g mX12_guess 4 0 0 [.ref a0, .int a1, .int a2, .int a3] Q (f_X12_guess a0 a1 a2 a3 (fun v => Q (.inl (some (.int v))))) := by
  refine tw_mkK (L := [some (.ref a0), some (.int a1), some (.int a2), some (.int a3), none]) mo_X12_guess dk_X12_guess rfl (Nat.le_of_ble_eq_true rfl) rfl ?_
  unfold f_X12_guess
  refine tw_aload_n (k := 0) rfl rfl ?_
  refine tw_iconst (k := 1) (0 : Int32) rfl (by decide) ?_
  refine tw_putI (k := 2) rfl fl_RX12_3 wf_X12_guess_3 (by decide +kernel) ?_
  refine tw_aload_n (k := 3) rfl rfl ?_
  refine tw_aload_n (k := 4) rfl rfl ?_
  refine tw_iload_n (k := 5) rfl rfl ?_
  refine tw_callV (k := 6) (d' := 2) (mc' := 0) (ms' := 0) tw_cI tw_cIi [.int a1] rfl rfl wv_RX12_288_X12_nobody mo_X12_nobody (t := 11) rfl rfl rfl (fun Q9 => K_X12_nobody Q9 a0 a1) (by omega) (by decide) (by decide) (Nat.le_of_ble_eq_true rfl) (fun x1 => ?_)
  refine tw_join 27 (fun s3 => [some (.ref a0), some (.int a1), some (.int a2), some (.int a3), none]) (fun s3 => .int s3 :: .ref a0 :: []) 0 0 (fun s3 => ?_) (fun j2 g2 => ?_)
  · refine tw_iconst (k := 15) (1 : Int32) rfl (by decide) ?_
    refine tw_callV (k := 16) (d' := 1) (mc' := 0) (ms' := 0) tw_cI tw_cIi [.int s3, .int (1 : Int32)] rfl rfl wv_RX12_240_X12_throwsIf mo_X12_throwsIf (t := 11) rfl rfl rfl (fun Q9 => K_X12_throwsIf Q9 a0 s3 (1 : Int32)) (by omega) (by decide) (by decide) (Nat.le_of_ble_eq_true rfl) (fun x4 => ?_)
    refine tw_if_ne (k := 17) 62 rfl (by decide) ?_ ?_
    · refine tw_iconst (k := 33) (0 : Int32) rfl (by decide) ?_
      exact tw_ireturn (k := 34) rfl rfl (by decide) (by decide)
    · refine tw_aload_n (k := 18) rfl rfl ?_
      refine tw_iload_n (k := 19) rfl rfl ?_
      refine tw_iload_n (k := 20) rfl rfl ?_
      refine tw_join 55 (fun s6 => [some (.ref a0), some (.int a1), some (.int a2), some (.int a3), none]) (fun s6 => .int s6 :: .ref a0 :: []) 0 0 (fun s6 => ?_) (fun j5 g5 => ?_)
      · refine tw_iconst (k := 30) (2 : Int32) rfl (by decide) ?_
        refine tw_callV (k := 31) (d' := 1) (mc' := 0) (ms' := 0) tw_cI tw_cIi [.int s6, .int (2 : Int32)] rfl rfl wv_RX12_240_X12_throwsIf mo_X12_throwsIf (t := 11) rfl rfl rfl (fun Q9 => K_X12_throwsIf Q9 a0 s6 (2 : Int32)) (by omega) (by decide) (by decide) (Nat.le_of_ble_eq_true rfl) (fun x7 => ?_)
        refine tw_if_eq (k := 32) 64 rfl (by decide) ?_ ?_
        · refine tw_aload_n (k := 35) rfl rfl ?_
          refine tw_callV (k := 36) (d' := 1) (mc' := 0) (ms' := 0) tw_cU tw_cUi [] rfl rfl wv_RX12_324_X12_remembers mo_X12_remembers (t := 11) rfl rfl rfl (fun Q9 => K_X12_remembers Q9 a0) (by omega) (by decide) (by decide) (Nat.le_of_ble_eq_true rfl) (fun u8 => ?_)
          refine tw_aload_n (k := 37) rfl rfl ?_
          refine tw_iload_n (k := 38) rfl rfl ?_
          refine tw_iload_n (k := 39) rfl rfl ?_
          refine tw_callV (k := 40) (d' := 3) (mc' := 0) (ms' := 0) tw_cI tw_cIi [.int a1, .int a2] rfl rfl wv_RX12_243_X12_guessOf mo_X12_guessOf (t := 11) rfl rfl rfl (fun Q9 => K_X12_guessOf Q9 a0 a1 a2) (by omega) (by decide) (by decide) (Nat.le_of_ble_eq_true rfl) (fun x9 => ?_)
          refine tw_ist (k := 41) [some (.ref a0), some (.int a1), some (.int a2), some (.int a3), some (.int x9)] rfl (Nat.le_of_ble_eq_true rfl) rfl rfl ?_
          refine tw_aload_n (k := 42) rfl rfl ?_
          refine tw_iload_n (k := 43) rfl rfl ?_
          refine tw_iload_n (k := 44) rfl rfl ?_
          refine tw_iload_n (k := 45) rfl rfl ?_
          refine tw_callV (k := 46) (d' := 2) (mc' := 0) (ms' := 0) tw_cU tw_cUi [.int a1, .int a2, .int a3] rfl rfl wv_RX12_327_X12_guesses mo_X12_guesses (t := 11) rfl rfl rfl (fun Q9 => K_X12_guesses Q9 a0 a1 a2 a3) (by omega) (by decide) (by decide) (Nat.le_of_ble_eq_true rfl) (fun u10 => ?_)
          refine tw_iload (k := 47) rfl rfl ?_
          exact tw_ireturn (k := 48) rfl rfl (by decide) (by decide)
        · refine tw_iconst (k := 33) (0 : Int32) rfl (by decide) ?_
          exact tw_ireturn (k := 34) rfl rfl (by decide) (by decide)
      · refine tw_join 50 (fun s12 => [some (.ref a0), some (.int a1), some (.int a2), some (.int a3), none]) (fun s12 => .ref a0 :: []) 0 0 (fun s12 => ?_) (fun j11 g11 => ?_)
        · refine tw_iconst (k := 27) (1 : Int32) rfl (by decide) ?_
          refine tw_goto (k := 28) 55 rfl (by decide) ?_
          exact g5 (1 : Int32)
        · refine tw_icmp_eq (k := 21) 50 rfl (by decide) ?_ ?_
          · exact g11 ()
          · refine tw_iload_n (k := 22) rfl rfl ?_
            refine tw_iconst (k := 23) (0 : Int32) rfl (by decide) ?_
            refine tw_bipush (k := 24) (9 : Int32) rfl (by decide) ?_
            refine tw_callS (k := 25) (d' := 1) (mc' := 0) (ms' := 0) tw_cI tw_cIi [.int a3, .int (0 : Int32), .int (9 : Int32)] rfl rfl ws_RX12_76_X12_in mo_X12_in rfl (fun Q9 => K_X12_in Q9 a3 (0 : Int32) (9 : Int32)) (by omega) (by decide) (by decide) (Nat.le_of_ble_eq_true rfl) (fun x13 => ?_)
            refine tw_if_ne (k := 26) 54 rfl (by decide) ?_ ?_
            · refine tw_iconst (k := 29) (0 : Int32) rfl (by decide) ?_
              exact g5 (0 : Int32)
            · exact g11 ()
  · refine tw_join 22 (fun s15 => [some (.ref a0), some (.int a1), some (.int a2), some (.int a3), none]) (fun s15 => .ref a0 :: []) 0 0 (fun s15 => ?_) (fun j14 g14 => ?_)
    · refine tw_iconst (k := 12) (1 : Int32) rfl (by decide) ?_
      refine tw_goto (k := 13) 27 rfl (by decide) ?_
      exact g2 (1 : Int32)
    · refine tw_if_ne (k := 7) 22 rfl (by decide) ?_ ?_
      · exact g14 ()
      · refine tw_aload_n (k := 8) rfl rfl ?_
        refine tw_iload_n (k := 9) rfl rfl ?_
        refine tw_callV (k := 10) (d' := 2) (mc' := 0) (ms' := 0) tw_cI tw_cIi [.int a2] rfl rfl wv_RX12_288_X12_nobody mo_X12_nobody (t := 11) rfl rfl rfl (fun Q9 => K_X12_nobody Q9 a0 a2) (by omega) (by decide) (by decide) (Nat.le_of_ble_eq_true rfl) (fun x16 => ?_)
        refine tw_if_eq (k := 11) 26 rfl (by decide) ?_ ?_
        · refine tw_iconst (k := 14) (0 : Int32) rfl (by decide) ?_
          exact g2 (0 : Int32)
        · exact g14 ()
def mX12_forget : tw_MD := (yX12_forget, cX12_forget, 4, (some FieldType.int), [(0, .aload_n 0, 1, 1), (1, .iconst 0, 1, 2), (2, .putfield 3, 3, 5), (5, .aload_n 0, 1, 6), (6, .aload_n 0, 1, 7), (7, .iload_n 1, 1, 8), (8, .invokevirtual 288, 3, 11), (11, .iconst 1, 1, 12), (12, .invokevirtual 240, 3, 15), (15, .ifCond .eq 5, 3, 18), (18, .iconst 0, 1, 19), (19, .ireturn, 1, 20), (20, .aload_n 0, 1, 21), (21, .invokevirtual 324, 3, 24), (24, .iconst 0, 1, 25), (25, .istore_n 2, 1, 26), (26, .iconst 0, 1, 27), (27, .istore_n 3, 1, 28), (28, .iload_n 3, 1, 29), (29, .aload_n 0, 1, 30), (30, .invokevirtual 62, 3, 33), (33, .if_icmp .ge 47, 3, 36), (36, .iload_n 3, 1, 37), (37, .iload_n 1, 1, 38), (38, .if_icmp .ne 6, 3, 41), (41, .goto 33, 3, 44), (44, .iload_n 2, 1, 45), (45, .aload_n 0, 1, 46), (46, .iload_n 1, 1, 47), (47, .iload_n 3, 1, 48), (48, .invokevirtual 243, 3, 51), (51, .aload_n 0, 1, 52), (52, .iload_n 3, 1, 53), (53, .iload_n 1, 1, 54), (54, .invokevirtual 243, 3, 57), (57, .iadd, 1, 58), (58, .iadd, 1, 59), (59, .istore_n 2, 1, 60), (60, .aload_n 0, 1, 61), (61, .iload_n 1, 1, 62), (62, .iload_n 3, 1, 63), (63, .iconst 0, 1, 64), (64, .invokevirtual 327, 3, 67), (67, .aload_n 0, 1, 68), (68, .iload_n 3, 1, 69), (69, .iload_n 1, 1, 70), (70, .iconst 0, 1, 71), (71, .invokevirtual 327, 3, 74), (74, .iinc 3 1, 3, 77), (77, .goto (-49), 3, 80), (80, .iload_n 2, 1, 81), (81, .ireturn, 1, 82)], [])
theorem mo_X12_forget : tw_mok mX12_forget 1 := ⟨plainFor_of_name (by decide +kernel), by decide +kernel, by decide +kernel, by decide +kernel, by decide +kernel⟩
theorem dk_X12_forget : tw_dk mX12_forget := by unfold tw_dk; decide +kernel
theorem wf_X12_forget_3 : tw_wf mX12_forget 3 70 := Or.inl rfl
set_option maxRecDepth 20000 in
theorem K_X12_forget {g : tw_Gx} (Q : tw_Rs → tw_Mem → Prop) (a0 : Nat) (a1 : Int32) : tw_Kt g mX12_forget 4 0 0 [.ref a0, .int a1] Q (f_X12_forget a0 a1 (fun v => Q (.inl (some (.int v))))) := by
  refine tw_mkK (L := [some (.ref a0), some (.int a1), none, none]) mo_X12_forget dk_X12_forget rfl (Nat.le_of_ble_eq_true rfl) rfl ?_
  unfold f_X12_forget
  refine tw_aload_n (k := 0) rfl rfl ?_
  refine tw_iconst (k := 1) (0 : Int32) rfl (by decide) ?_
  refine tw_putI (k := 2) rfl fl_RX12_3 wf_X12_forget_3 (by decide +kernel) ?_
  refine tw_aload_n (k := 3) rfl rfl ?_
  refine tw_aload_n (k := 4) rfl rfl ?_
  refine tw_iload_n (k := 5) rfl rfl ?_
  refine tw_callV (k := 6) (d' := 2) (mc' := 0) (ms' := 0) tw_cI tw_cIi [.int a1] rfl rfl wv_RX12_288_X12_nobody mo_X12_nobody (t := 11) rfl rfl rfl (fun Q9 => K_X12_nobody Q9 a0 a1) (by omega) (by decide) (by decide) (Nat.le_of_ble_eq_true rfl) (fun x1 => ?_)
  refine tw_iconst (k := 7) (1 : Int32) rfl (by decide) ?_
  refine tw_callV (k := 8) (d' := 1) (mc' := 0) (ms' := 0) tw_cI tw_cIi [.int x1, .int (1 : Int32)] rfl rfl wv_RX12_240_X12_throwsIf mo_X12_throwsIf (t := 11) rfl rfl rfl (fun Q9 => K_X12_throwsIf Q9 a0 x1 (1 : Int32)) (by omega) (by decide) (by decide) (Nat.le_of_ble_eq_true rfl) (fun x2 => ?_)
  refine tw_if_eq (k := 9) 20 rfl (by decide) ?_ ?_
  · refine tw_aload_n (k := 12) rfl rfl ?_
    refine tw_callV (k := 13) (d' := 1) (mc' := 0) (ms' := 0) tw_cU tw_cUi [] rfl rfl wv_RX12_324_X12_remembers mo_X12_remembers (t := 11) rfl rfl rfl (fun Q9 => K_X12_remembers Q9 a0) (by omega) (by decide) (by decide) (Nat.le_of_ble_eq_true rfl) (fun u3 => ?_)
    refine tw_iconst (k := 14) (0 : Int32) rfl (by decide) ?_
    refine tw_ist_n (k := 15) [some (.ref a0), some (.int a1), some (.int (0 : Int32)), none] rfl (Nat.le_of_ble_eq_true rfl) rfl rfl ?_
    refine tw_iconst (k := 16) (0 : Int32) rfl (by decide) ?_
    refine tw_ist_n (k := 17) [some (.ref a0), some (.int a1), some (.int (0 : Int32)), some (.int (0 : Int32))] rfl (Nat.le_of_ble_eq_true rfl) rfl rfl ?_
    refine tw_loop (fun s5 => [some (.ref a0), some (.int a1), some (.int s5.1), some (.int s5.2)]) (fun s5 => []) (fun r4 h4 s5 => ?_) _ rfl rfl
    refine tw_iload_n (k := 18) rfl rfl ?_
    refine tw_aload_n (k := 19) rfl rfl ?_
    refine tw_callV (k := 20) (d' := 1) (mc' := 0) (ms' := 0) tw_cI tw_cIi [] rfl rfl wv_RX12_62_X12_people mo_X12_people (t := 11) rfl rfl rfl (fun Q9 => K_X12_people Q9 a0) (by omega) (by decide) (by decide) (Nat.le_of_ble_eq_true rfl) (fun x6 => ?_)
    refine tw_icmp_ge (k := 21) 80 rfl (by decide) ?_ ?_
    · refine tw_iload_n (k := 50) rfl rfl ?_
      exact tw_ireturn (k := 51) rfl rfl (by decide) (by decide)
    · refine tw_iload_n (k := 22) rfl rfl ?_
      refine tw_iload_n (k := 23) rfl rfl ?_
      refine tw_join 74 (fun s8 => [some (.ref a0), some (.int a1), some (.int s8), some (.int s5.2)]) (fun s8 => []) 0 0 (fun s8 => ?_) (fun j7 g7 => ?_)
      · refine tw_inc (k := 48) (1 : Int32) [some (.ref a0), some (.int a1), some (.int s8), some (.int (s5.2 + (1 : Int32)))] rfl rfl (by decide) (Nat.le_of_ble_eq_true rfl) rfl rfl ?_
        refine tw_goto (k := 49) 28 rfl (by decide) ?_
        exact h4 (s8, s5.2 + (1 : Int32))
      · refine tw_icmp_ne (k := 24) 44 rfl (by decide) ?_ ?_
        · refine tw_iload_n (k := 26) rfl rfl ?_
          refine tw_aload_n (k := 27) rfl rfl ?_
          refine tw_iload_n (k := 28) rfl rfl ?_
          refine tw_iload_n (k := 29) rfl rfl ?_
          refine tw_callV (k := 30) (d' := 3) (mc' := 0) (ms' := 0) tw_cI tw_cIi [.int a1, .int s5.2] rfl rfl wv_RX12_243_X12_guessOf mo_X12_guessOf (t := 11) rfl rfl rfl (fun Q9 => K_X12_guessOf Q9 a0 a1 s5.2) (by omega) (by decide) (by decide) (Nat.le_of_ble_eq_true rfl) (fun x9 => ?_)
          refine tw_aload_n (k := 31) rfl rfl ?_
          refine tw_iload_n (k := 32) rfl rfl ?_
          refine tw_iload_n (k := 33) rfl rfl ?_
          refine tw_callV (k := 34) (d' := 3) (mc' := 0) (ms' := 0) tw_cI tw_cIi [.int s5.2, .int a1] rfl rfl wv_RX12_243_X12_guessOf mo_X12_guessOf (t := 11) rfl rfl rfl (fun Q9 => K_X12_guessOf Q9 a0 s5.2 a1) (by omega) (by decide) (by decide) (Nat.le_of_ble_eq_true rfl) (fun x10 => ?_)
          refine tw_iadd (k := 35) rfl ?_
          refine tw_iadd (k := 36) rfl ?_
          refine tw_let (fun x11 => [some (.ref a0), some (.int a1), some (.int s5.1), some (.int s5.2)]) (fun x11 => .int x11 :: []) rfl rfl (fun x11 => ?_)
          refine tw_ist_n (k := 37) [some (.ref a0), some (.int a1), some (.int x11), some (.int s5.2)] rfl (Nat.le_of_ble_eq_true rfl) rfl rfl ?_
          refine tw_aload_n (k := 38) rfl rfl ?_
          refine tw_iload_n (k := 39) rfl rfl ?_
          refine tw_iload_n (k := 40) rfl rfl ?_
          refine tw_iconst (k := 41) (0 : Int32) rfl (by decide) ?_
          refine tw_callV (k := 42) (d' := 2) (mc' := 0) (ms' := 0) tw_cU tw_cUi [.int a1, .int s5.2, .int (0 : Int32)] rfl rfl wv_RX12_327_X12_guesses mo_X12_guesses (t := 11) rfl rfl rfl (fun Q9 => K_X12_guesses Q9 a0 a1 s5.2 (0 : Int32)) (by omega) (by decide) (by decide) (Nat.le_of_ble_eq_true rfl) (fun u12 => ?_)
          refine tw_aload_n (k := 43) rfl rfl ?_
          refine tw_iload_n (k := 44) rfl rfl ?_
          refine tw_iload_n (k := 45) rfl rfl ?_
          refine tw_iconst (k := 46) (0 : Int32) rfl (by decide) ?_
          refine tw_callV (k := 47) (d' := 2) (mc' := 0) (ms' := 0) tw_cU tw_cUi [.int s5.2, .int a1, .int (0 : Int32)] rfl rfl wv_RX12_327_X12_guesses mo_X12_guesses (t := 11) rfl rfl rfl (fun Q9 => K_X12_guesses Q9 a0 s5.2 a1 (0 : Int32)) (by omega) (by decide) (by decide) (Nat.le_of_ble_eq_true rfl) (fun u13 => ?_)
          exact g7 x11
        · refine tw_goto (k := 25) 74 rfl (by decide) ?_
          exact g7 s5.1
  · refine tw_iconst (k := 10) (0 : Int32) rfl (by decide) ?_
    exact tw_ireturn (k := 11) rfl rfl (by decide) (by decide)
def mX12_pulls : tw_MD := (yX12_pulls, cX12_pulls, 7, (some FieldType.boolean), [(0, .aload_n 0, 1, 1), (1, .iload_n 1, 1, 2), (2, .iload_n 2, 1, 3), (3, .invokevirtual 266, 3, 6), (6, .istore_n 3, 1, 7), (7, .aload_n 0, 1, 8), (8, .iload_n 1, 1, 9), (9, .iload_n 2, 1, 10), (10, .invokevirtual 243, 3, 13), (13, .aload_n 0, 1, 14), (14, .iload_n 1, 1, 15), (15, .iload_n 2, 1, 16), (16, .invokevirtual 309, 3, 19), (19, .iadd, 1, 20), (20, .istore 4, 2, 22), (22, .aload_n 0, 1, 23), (23, .iload_n 2, 1, 24), (24, .iload_n 1, 1, 25), (25, .invokevirtual 243, 3, 28), (28, .aload_n 0, 1, 29), (29, .iload_n 2, 1, 30), (30, .iload_n 1, 1, 31), (31, .invokevirtual 309, 3, 34), (34, .iadd, 1, 35), (35, .istore 5, 2, 37), (37, .aload_n 0, 1, 38), (38, .iload_n 1, 1, 39), (39, .iload_n 2, 1, 40), (40, .iload 4, 2, 42), (42, .invokevirtual 327, 3, 45), (45, .aload_n 0, 1, 46), (46, .iload_n 2, 1, 47), (47, .iload_n 1, 1, 48), (48, .iload 5, 2, 50), (50, .invokevirtual 327, 3, 53), (53, .iload_n 3, 1, 54), (54, .ifCond .ne 5, 3, 57), (57, .iconst 0, 1, 58), (58, .ireturn, 1, 59), (59, .bipush 99, 2, 61), (61, .aload_n 0, 1, 62), (62, .iload_n 1, 1, 63), (63, .bipush 12, 2, 65), (65, .iload_n 2, 1, 66), (66, .iadd, 1, 67), (67, .invokevirtual 70, 3, 70), (70, .iconst 1, 1, 71), (71, .iadd, 1, 72), (72, .invokestatic 273, 3, 75), (75, .istore 6, 2, 77), (77, .aload_n 0, 1, 78), (78, .getfield 13, 3, 81), (81, .iload_n 1, 1, 82), (82, .bipush 12, 2, 84), (84, .iload_n 2, 1, 85), (85, .iadd, 1, 86), (86, .invokestatic 66, 3, 89), (89, .iload 6, 2, 91), (91, .iastore, 1, 92), (92, .aload_n 0, 1, 93), (93, .getfield 13, 3, 96), (96, .iload_n 2, 1, 97), (97, .bipush 12, 2, 99), (99, .iload_n 1, 1, 100), (100, .iadd, 1, 101), (101, .invokestatic 66, 3, 104), (104, .iload 6, 2, 106), (106, .iastore, 1, 107), (107, .iconst 1, 1, 108), (108, .ireturn, 1, 109)], [])
theorem mo_X12_pulls : tw_mok mX12_pulls 2 := ⟨plainFor_of_name (by decide +kernel), by decide +kernel, by decide +kernel, by decide +kernel, by decide +kernel⟩
theorem dk_X12_pulls : tw_dk mX12_pulls := by unfold tw_dk; decide +kernel
set_option maxRecDepth 20000 in
theorem K_X12_pulls {g : tw_Gx} (Q : tw_Rs → tw_Mem → Prop) (a0 : Nat) (a1 : Int32) (a2 : Int32) : tw_Kt g mX12_pulls 8 0 0 [.ref a0, .int a1, .int a2] Q (f_X12_pulls a0 a1 a2 (fun v => Q (.inl (some (.int v))))) := by
  refine tw_mkK (L := [some (.ref a0), some (.int a1), some (.int a2), none, none, none, none]) mo_X12_pulls dk_X12_pulls rfl (Nat.le_of_ble_eq_true rfl) rfl ?_
  unfold f_X12_pulls
  refine tw_aload_n (k := 0) rfl rfl ?_
  refine tw_iload_n (k := 1) rfl rfl ?_
  refine tw_iload_n (k := 2) rfl rfl ?_
  refine tw_callV (k := 3) (d' := 5) (mc' := 0) (ms' := 0) tw_cI tw_cIi [.int a1, .int a2] rfl rfl wv_RX12_266_X12_bothRing mo_X12_bothRing (t := 11) rfl rfl rfl (fun Q9 => K_X12_bothRing Q9 a0 a1 a2) (by omega) (by decide) (by decide) (Nat.le_of_ble_eq_true rfl) (fun x1 => ?_)
  refine tw_ist_n (k := 4) [some (.ref a0), some (.int a1), some (.int a2), some (.int x1), none, none, none] rfl (Nat.le_of_ble_eq_true rfl) rfl rfl ?_
  refine tw_aload_n (k := 5) rfl rfl ?_
  refine tw_iload_n (k := 6) rfl rfl ?_
  refine tw_iload_n (k := 7) rfl rfl ?_
  refine tw_callV (k := 8) (d' := 3) (mc' := 0) (ms' := 0) tw_cI tw_cIi [.int a1, .int a2] rfl rfl wv_RX12_243_X12_guessOf mo_X12_guessOf (t := 11) rfl rfl rfl (fun Q9 => K_X12_guessOf Q9 a0 a1 a2) (by omega) (by decide) (by decide) (Nat.le_of_ble_eq_true rfl) (fun x2 => ?_)
  refine tw_aload_n (k := 9) rfl rfl ?_
  refine tw_iload_n (k := 10) rfl rfl ?_
  refine tw_iload_n (k := 11) rfl rfl ?_
  refine tw_callV (k := 12) (d' := 7) (mc' := 0) (ms' := 0) tw_cI tw_cIi [.int a1, .int a2] rfl rfl wv_RX12_309_X12_soundsTo mo_X12_soundsTo (t := 11) rfl rfl rfl (fun Q9 => K_X12_soundsTo Q9 a0 a1 a2) (by omega) (by decide) (by decide) (Nat.le_of_ble_eq_true rfl) (fun x3 => ?_)
  refine tw_iadd (k := 13) rfl ?_
  refine tw_let (fun x4 => [some (.ref a0), some (.int a1), some (.int a2), some (.int x1), none, none, none]) (fun x4 => .int x4 :: []) rfl rfl (fun x4 => ?_)
  refine tw_ist (k := 14) [some (.ref a0), some (.int a1), some (.int a2), some (.int x1), some (.int x4), none, none] rfl (Nat.le_of_ble_eq_true rfl) rfl rfl ?_
  refine tw_aload_n (k := 15) rfl rfl ?_
  refine tw_iload_n (k := 16) rfl rfl ?_
  refine tw_iload_n (k := 17) rfl rfl ?_
  refine tw_callV (k := 18) (d' := 3) (mc' := 0) (ms' := 0) tw_cI tw_cIi [.int a2, .int a1] rfl rfl wv_RX12_243_X12_guessOf mo_X12_guessOf (t := 11) rfl rfl rfl (fun Q9 => K_X12_guessOf Q9 a0 a2 a1) (by omega) (by decide) (by decide) (Nat.le_of_ble_eq_true rfl) (fun x5 => ?_)
  refine tw_aload_n (k := 19) rfl rfl ?_
  refine tw_iload_n (k := 20) rfl rfl ?_
  refine tw_iload_n (k := 21) rfl rfl ?_
  refine tw_callV (k := 22) (d' := 7) (mc' := 0) (ms' := 0) tw_cI tw_cIi [.int a2, .int a1] rfl rfl wv_RX12_309_X12_soundsTo mo_X12_soundsTo (t := 11) rfl rfl rfl (fun Q9 => K_X12_soundsTo Q9 a0 a2 a1) (by omega) (by decide) (by decide) (Nat.le_of_ble_eq_true rfl) (fun x6 => ?_)
  refine tw_iadd (k := 23) rfl ?_
  refine tw_let (fun x7 => [some (.ref a0), some (.int a1), some (.int a2), some (.int x1), some (.int x4), none, none]) (fun x7 => .int x7 :: []) rfl rfl (fun x7 => ?_)
  refine tw_ist (k := 24) [some (.ref a0), some (.int a1), some (.int a2), some (.int x1), some (.int x4), some (.int x7), none] rfl (Nat.le_of_ble_eq_true rfl) rfl rfl ?_
  refine tw_aload_n (k := 25) rfl rfl ?_
  refine tw_iload_n (k := 26) rfl rfl ?_
  refine tw_iload_n (k := 27) rfl rfl ?_
  refine tw_iload (k := 28) rfl rfl ?_
  refine tw_callV (k := 29) (d' := 2) (mc' := 0) (ms' := 0) tw_cU tw_cUi [.int a1, .int a2, .int x4] rfl rfl wv_RX12_327_X12_guesses mo_X12_guesses (t := 11) rfl rfl rfl (fun Q9 => K_X12_guesses Q9 a0 a1 a2 x4) (by omega) (by decide) (by decide) (Nat.le_of_ble_eq_true rfl) (fun u8 => ?_)
  refine tw_aload_n (k := 30) rfl rfl ?_
  refine tw_iload_n (k := 31) rfl rfl ?_
  refine tw_iload_n (k := 32) rfl rfl ?_
  refine tw_iload (k := 33) rfl rfl ?_
  refine tw_callV (k := 34) (d' := 2) (mc' := 0) (ms' := 0) tw_cU tw_cUi [.int a2, .int a1, .int x7] rfl rfl wv_RX12_327_X12_guesses mo_X12_guesses (t := 11) rfl rfl rfl (fun Q9 => K_X12_guesses Q9 a0 a2 a1 x7) (by omega) (by decide) (by decide) (Nat.le_of_ble_eq_true rfl) (fun u9 => ?_)
  refine tw_iload_n (k := 35) rfl rfl ?_
  refine tw_if_ne (k := 36) 59 rfl (by decide) ?_ ?_
  · refine tw_bipush (k := 39) (99 : Int32) rfl (by decide) ?_
    refine tw_aload_n (k := 40) rfl rfl ?_
    refine tw_iload_n (k := 41) rfl rfl ?_
    refine tw_bipush (k := 42) (12 : Int32) rfl (by decide) ?_
    refine tw_iload_n (k := 43) rfl rfl ?_
    refine tw_iadd (k := 44) rfl ?_
    refine tw_callV (k := 45) (d' := 2) (mc' := 0) (ms' := 0) tw_cI tw_cIi [.int a1, .int ((12 : Int32) + a2)] rfl rfl wv_RX12_70_X12_of mo_X12_of (t := 11) rfl rfl rfl (fun Q9 => K_X12_of Q9 a0 a1 ((12 : Int32) + a2)) (by omega) (by decide) (by decide) (Nat.le_of_ble_eq_true rfl) (fun x10 => ?_)
    refine tw_iconst (k := 46) (1 : Int32) rfl (by decide) ?_
    refine tw_iadd (k := 47) rfl ?_
    refine tw_callS (k := 48) (d' := 1) (mc' := 0) (ms' := 0) tw_cI tw_cIi [.int (99 : Int32), .int (x10 + (1 : Int32))] rfl rfl ws_RX12_273_J9_min_7cf53 mo_J9_min_7cf53 rfl (fun Q9 => K_J9_min_7cf53 Q9 (99 : Int32) (x10 + (1 : Int32))) (by omega) (by decide) (by decide) (Nat.le_of_ble_eq_true rfl) (fun x11 => ?_)
    refine tw_ist (k := 49) [some (.ref a0), some (.int a1), some (.int a2), some (.int x1), some (.int x4), some (.int x7), some (.int x11)] rfl (Nat.le_of_ble_eq_true rfl) rfl rfl ?_
    refine tw_aload_n (k := 50) rfl rfl ?_
    refine tw_getR (k := 51) rfl fl_RX12_13 (fun x12 => ?_)
    refine tw_iload_n (k := 52) rfl rfl ?_
    refine tw_bipush (k := 53) (12 : Int32) rfl (by decide) ?_
    refine tw_iload_n (k := 54) rfl rfl ?_
    refine tw_iadd (k := 55) rfl ?_
    refine tw_callS (k := 56) (d' := 1) (mc' := 0) (ms' := 0) tw_cI tw_cIi [.int a1, .int ((12 : Int32) + a2)] rfl rfl ws_RX12_66_X12_at mo_X12_at rfl (fun Q9 => K_X12_at Q9 a1 ((12 : Int32) + a2)) (by omega) (by decide) (by decide) (Nat.le_of_ble_eq_true rfl) (fun x13 => ?_)
    refine tw_iload (k := 57) rfl rfl ?_
    refine tw_iastore (k := 58) rfl ?_
    refine tw_aload_n (k := 59) rfl rfl ?_
    refine tw_getR (k := 60) rfl fl_RX12_13 (fun x14 => ?_)
    refine tw_iload_n (k := 61) rfl rfl ?_
    refine tw_bipush (k := 62) (12 : Int32) rfl (by decide) ?_
    refine tw_iload_n (k := 63) rfl rfl ?_
    refine tw_iadd (k := 64) rfl ?_
    refine tw_callS (k := 65) (d' := 1) (mc' := 0) (ms' := 0) tw_cI tw_cIi [.int a2, .int ((12 : Int32) + a1)] rfl rfl ws_RX12_66_X12_at mo_X12_at rfl (fun Q9 => K_X12_at Q9 a2 ((12 : Int32) + a1)) (by omega) (by decide) (by decide) (Nat.le_of_ble_eq_true rfl) (fun x15 => ?_)
    refine tw_iload (k := 66) rfl rfl ?_
    refine tw_iastore (k := 67) rfl ?_
    refine tw_iconst (k := 68) (1 : Int32) rfl (by decide) ?_
    exact tw_zreturn (k := 69) rfl rfl (by decide) (by decide)
  · refine tw_iconst (k := 37) (0 : Int32) rfl (by decide) ?_
    exact tw_zreturn (k := 38) rfl rfl (by decide) (by decide)
def mX12_meets : tw_MD := (yX12_meets, cX12_meets, 5, none, [(0, .aload_n 0, 1, 1), (1, .iload_n 1, 1, 2), (2, .iload_n 2, 1, 3), (3, .invokevirtual 243, 3, 6), (6, .aload_n 0, 1, 7), (7, .iload_n 1, 1, 8), (8, .iload_n 2, 1, 9), (9, .invokevirtual 312, 3, 12), (12, .iadd, 1, 13), (13, .istore_n 3, 1, 14), (14, .aload_n 0, 1, 15), (15, .iload_n 2, 1, 16), (16, .iload_n 1, 1, 17), (17, .invokevirtual 243, 3, 20), (20, .aload_n 0, 1, 21), (21, .iload_n 2, 1, 22), (22, .iload_n 1, 1, 23), (23, .invokevirtual 312, 3, 26), (26, .iadd, 1, 27), (27, .istore 4, 2, 29), (29, .aload_n 0, 1, 30), (30, .iload_n 1, 1, 31), (31, .iload_n 2, 1, 32), (32, .iload_n 3, 1, 33), (33, .invokevirtual 327, 3, 36), (36, .aload_n 0, 1, 37), (37, .iload_n 2, 1, 38), (38, .iload_n 1, 1, 39), (39, .iload 4, 2, 41), (41, .invokevirtual 327, 3, 44), (44, .return_, 1, 45)], [])
theorem mo_X12_meets : tw_mok mX12_meets 2 := ⟨plainFor_of_name (by decide +kernel), by decide +kernel, by decide +kernel, by decide +kernel, by decide +kernel⟩
theorem dk_X12_meets : tw_dk mX12_meets := by unfold tw_dk; decide +kernel
set_option maxRecDepth 20000 in
theorem K_X12_meets {g : tw_Gx} (Q : tw_Rs → tw_Mem → Prop) (a0 : Nat) (a1 : Int32) (a2 : Int32) : tw_Kt g mX12_meets 8 0 0 [.ref a0, .int a1, .int a2] Q (f_X12_meets a0 a1 a2 (fun v => Q (.inl none))) := by
  refine tw_mkK (L := [some (.ref a0), some (.int a1), some (.int a2), none, none]) mo_X12_meets dk_X12_meets rfl (Nat.le_of_ble_eq_true rfl) rfl ?_
  unfold f_X12_meets
  refine tw_aload_n (k := 0) rfl rfl ?_
  refine tw_iload_n (k := 1) rfl rfl ?_
  refine tw_iload_n (k := 2) rfl rfl ?_
  refine tw_callV (k := 3) (d' := 3) (mc' := 0) (ms' := 0) tw_cI tw_cIi [.int a1, .int a2] rfl rfl wv_RX12_243_X12_guessOf mo_X12_guessOf (t := 11) rfl rfl rfl (fun Q9 => K_X12_guessOf Q9 a0 a1 a2) (by omega) (by decide) (by decide) (Nat.le_of_ble_eq_true rfl) (fun x1 => ?_)
  refine tw_aload_n (k := 4) rfl rfl ?_
  refine tw_iload_n (k := 5) rfl rfl ?_
  refine tw_iload_n (k := 6) rfl rfl ?_
  refine tw_callV (k := 7) (d' := 7) (mc' := 0) (ms' := 0) tw_cI tw_cIi [.int a1, .int a2] rfl rfl wv_RX12_312_X12_letsOutTo mo_X12_letsOutTo (t := 11) rfl rfl rfl (fun Q9 => K_X12_letsOutTo Q9 a0 a1 a2) (by omega) (by decide) (by decide) (Nat.le_of_ble_eq_true rfl) (fun x2 => ?_)
  refine tw_iadd (k := 8) rfl ?_
  refine tw_let (fun x3 => [some (.ref a0), some (.int a1), some (.int a2), none, none]) (fun x3 => .int x3 :: []) rfl rfl (fun x3 => ?_)
  refine tw_ist_n (k := 9) [some (.ref a0), some (.int a1), some (.int a2), some (.int x3), none] rfl (Nat.le_of_ble_eq_true rfl) rfl rfl ?_
  refine tw_aload_n (k := 10) rfl rfl ?_
  refine tw_iload_n (k := 11) rfl rfl ?_
  refine tw_iload_n (k := 12) rfl rfl ?_
  refine tw_callV (k := 13) (d' := 3) (mc' := 0) (ms' := 0) tw_cI tw_cIi [.int a2, .int a1] rfl rfl wv_RX12_243_X12_guessOf mo_X12_guessOf (t := 11) rfl rfl rfl (fun Q9 => K_X12_guessOf Q9 a0 a2 a1) (by omega) (by decide) (by decide) (Nat.le_of_ble_eq_true rfl) (fun x4 => ?_)
  refine tw_aload_n (k := 14) rfl rfl ?_
  refine tw_iload_n (k := 15) rfl rfl ?_
  refine tw_iload_n (k := 16) rfl rfl ?_
  refine tw_callV (k := 17) (d' := 7) (mc' := 0) (ms' := 0) tw_cI tw_cIi [.int a2, .int a1] rfl rfl wv_RX12_312_X12_letsOutTo mo_X12_letsOutTo (t := 11) rfl rfl rfl (fun Q9 => K_X12_letsOutTo Q9 a0 a2 a1) (by omega) (by decide) (by decide) (Nat.le_of_ble_eq_true rfl) (fun x5 => ?_)
  refine tw_iadd (k := 18) rfl ?_
  refine tw_let (fun x6 => [some (.ref a0), some (.int a1), some (.int a2), some (.int x3), none]) (fun x6 => .int x6 :: []) rfl rfl (fun x6 => ?_)
  refine tw_ist (k := 19) [some (.ref a0), some (.int a1), some (.int a2), some (.int x3), some (.int x6)] rfl (Nat.le_of_ble_eq_true rfl) rfl rfl ?_
  refine tw_aload_n (k := 20) rfl rfl ?_
  refine tw_iload_n (k := 21) rfl rfl ?_
  refine tw_iload_n (k := 22) rfl rfl ?_
  refine tw_iload_n (k := 23) rfl rfl ?_
  refine tw_callV (k := 24) (d' := 2) (mc' := 0) (ms' := 0) tw_cU tw_cUi [.int a1, .int a2, .int x3] rfl rfl wv_RX12_327_X12_guesses mo_X12_guesses (t := 11) rfl rfl rfl (fun Q9 => K_X12_guesses Q9 a0 a1 a2 x3) (by omega) (by decide) (by decide) (Nat.le_of_ble_eq_true rfl) (fun u7 => ?_)
  refine tw_aload_n (k := 25) rfl rfl ?_
  refine tw_iload_n (k := 26) rfl rfl ?_
  refine tw_iload_n (k := 27) rfl rfl ?_
  refine tw_iload (k := 28) rfl rfl ?_
  refine tw_callV (k := 29) (d' := 2) (mc' := 0) (ms' := 0) tw_cU tw_cUi [.int a2, .int a1, .int x6] rfl rfl wv_RX12_327_X12_guesses mo_X12_guesses (t := 11) rfl rfl rfl (fun Q9 => K_X12_guesses Q9 a0 a2 a1 x6) (by omega) (by decide) (by decide) (Nat.le_of_ble_eq_true rfl) (fun u8 => ?_)
  exact tw_return (k := 30) rfl rfl (by decide) (by decide)
def mX12_dayEnds : tw_MD := (yX12_dayEnds, cX12_dayEnds, 5, none, [(0, .iconst 0, 1, 1), (1, .istore_n 2, 1, 2), (2, .iconst 0, 1, 3), (3, .istore_n 3, 1, 4), (4, .iload_n 3, 1, 5), (5, .aload_n 0, 1, 6), (6, .invokevirtual 62, 3, 9), (9, .if_icmp .ge 38, 3, 12), (12, .iload_n 1, 1, 13), (13, .ifCond .ne 34, 3, 16), (16, .iload_n 2, 1, 17), (17, .aload_n 0, 1, 18), (18, .bipush 100, 2, 20), (20, .invokevirtual 331, 3, 23), (23, .aload_n 0, 1, 24), (24, .iload_n 3, 1, 25), (25, .iconst 1, 1, 26), (26, .invokevirtual 70, 3, 29), (29, .if_icmp .ge 9, 3, 32), (32, .iconst 1, 1, 33), (33, .iload_n 3, 1, 34), (34, .ishl, 1, 35), (35, .goto 4, 3, 38), (38, .iconst 0, 1, 39), (39, .ior, 1, 40), (40, .istore_n 2, 1, 41), (41, .iinc 3 1, 3, 44), (44, .goto (-40), 3, 47), (47, .iconst 0, 1, 48), (48, .istore_n 3, 1, 49), (49, .iload_n 3, 1, 50), (50, .aload_n 0, 1, 51), (51, .invokevirtual 62, 3, 54), (54, .if_icmp .ge 63, 3, 57), (57, .iload_n 3, 1, 58), (58, .iconst 1, 1, 59), (59, .iadd, 1, 60), (60, .istore 4, 2, 62), (62, .iload 4, 2, 64), (64, .aload_n 0, 1, 65), (65, .invokevirtual 62, 3, 68), (68, .if_icmp .ge 43, 3, 71), (71, .iload_n 2, 1, 72), (72, .iload_n 3, 1, 73), (73, .invokestatic 334, 3, 76), (76, .ifCond .eq 29, 3, 79), (79, .iload_n 2, 1, 80), (80, .iload 4, 2, 82), (82, .invokestatic 334, 3, 85), (85, .ifCond .eq 20, 3, 88), (88, .aload_n 0, 1, 89), (89, .iload_n 3, 1, 90), (90, .iload 4, 2, 92), (92, .invokevirtual 246, 3, 95), (95, .ifCond .eq 10, 3, 98), (98, .aload_n 0, 1, 99), (99, .iload_n 3, 1, 100), (100, .iload 4, 2, 102), (102, .invokevirtual 337, 3, 105), (105, .iinc 4 1, 3, 108), (108, .goto (-46), 3, 111), (111, .iinc 3 1, 3, 114), (114, .goto (-65), 3, 117), (117, .aload_n 0, 1, 118), (118, .getfield 13, 3, 121), (121, .iconst 4, 1, 122), (122, .sipush 9999, 3, 125), (125, .aload_n 0, 1, 126), (126, .getfield 13, 3, 129), (129, .iconst 4, 1, 130), (130, .iaload, 1, 131), (131, .iconst 1, 1, 132), (132, .iadd, 1, 133), (133, .invokestatic 273, 3, 136), (136, .iastore, 1, 137), (137, .return_, 1, 138)], [])
theorem mo_X12_dayEnds : tw_mok mX12_dayEnds 1 := ⟨plainFor_of_name (by decide +kernel), by decide +kernel, by decide +kernel, by decide +kernel, by decide +kernel⟩
theorem dk_X12_dayEnds : tw_dk mX12_dayEnds := by unfold tw_dk; decide +kernel
theorem wv_RX12_337_X12_meets : tw_wV RX12 337 mX12_meets := ⟨List.mem_of_getElem? (i := 2235) (by decide +kernel), List.mem_of_getElem? (i := 2237) (by decide +kernel), List.mem_of_getElem? (i := 102) (by decide +kernel), List.mem_of_getElem? (i := 137) (by decide +kernel), List.mem_of_getElem? (i := 2238) (by decide +kernel)⟩
theorem ws_RX12_334_X12_has : tw_wS RX12 334 mX12_has := ⟨List.mem_of_getElem? (i := 2232) (by decide +kernel), List.mem_of_getElem? (i := 2233) (by decide +kernel), List.mem_of_getElem? (i := 137) (by decide +kernel), List.mem_of_getElem? (i := 2234) (by decide +kernel)⟩
theorem wv_RX12_331_X12_drawn : tw_wV RX12 331 mX12_drawn := ⟨List.mem_of_getElem? (i := 2227) (by decide +kernel), List.mem_of_getElem? (i := 2229) (by decide +kernel), List.mem_of_getElem? (i := 101) (by decide +kernel), List.mem_of_getElem? (i := 137) (by decide +kernel), List.mem_of_getElem? (i := 2230) (by decide +kernel)⟩
set_option maxRecDepth 20000 in
theorem K_X12_dayEnds {g : tw_Gx} (Q : tw_Rs → tw_Mem → Prop) (a0 : Nat) (a1 : Int32) : tw_Kt g mX12_dayEnds 9 0 0 [.ref a0, .int a1] Q (f_X12_dayEnds a0 a1 (fun v => Q (.inl none))) := by
  refine tw_mkK (L := [some (.ref a0), some (.int a1), none, none, none]) mo_X12_dayEnds dk_X12_dayEnds rfl (Nat.le_of_ble_eq_true rfl) rfl ?_
  unfold f_X12_dayEnds
  refine tw_iconst (k := 0) (0 : Int32) rfl (by decide) ?_
  refine tw_ist_n (k := 1) [some (.ref a0), some (.int a1), some (.int (0 : Int32)), none, none] rfl (Nat.le_of_ble_eq_true rfl) rfl rfl ?_
  refine tw_iconst (k := 2) (0 : Int32) rfl (by decide) ?_
  refine tw_ist_n (k := 3) [some (.ref a0), some (.int a1), some (.int (0 : Int32)), some (.int (0 : Int32)), none] rfl (Nat.le_of_ble_eq_true rfl) rfl rfl ?_
  refine tw_loop (fun s2 => [some (.ref a0), some (.int a1), some (.int s2.1), some (.int s2.2), none]) (fun s2 => []) (fun r1 h1 s2 => ?_) _ rfl rfl
  refine tw_iload_n (k := 4) rfl rfl ?_
  refine tw_aload_n (k := 5) rfl rfl ?_
  refine tw_callV (k := 6) (d' := 1) (mc' := 0) (ms' := 0) tw_cI tw_cIi [] rfl rfl wv_RX12_62_X12_people mo_X12_people (t := 11) rfl rfl rfl (fun Q9 => K_X12_people Q9 a0) (by omega) (by decide) (by decide) (Nat.le_of_ble_eq_true rfl) (fun x3 => ?_)
  refine tw_join 47 (fun s5 => [some (.ref a0), some (.int a1), some (.int s2.1), some (.int s2.2), none]) (fun s5 => []) 0 0 (fun s5 => ?_) (fun j4 g4 => ?_)
  · refine tw_iconst (k := 28) (0 : Int32) rfl (by decide) ?_
    refine tw_ist_n (k := 29) [some (.ref a0), some (.int a1), some (.int s2.1), some (.int (0 : Int32)), none] rfl (Nat.le_of_ble_eq_true rfl) rfl rfl ?_
    refine tw_loop (fun s7 => [some (.ref a0), some (.int a1), some (.int s2.1), some (.int s7), none]) (fun s7 => []) (fun r6 h6 s7 => ?_) _ rfl rfl
    refine tw_iload_n (k := 30) rfl rfl ?_
    refine tw_aload_n (k := 31) rfl rfl ?_
    refine tw_callV (k := 32) (d' := 1) (mc' := 0) (ms' := 0) tw_cI tw_cIi [] rfl rfl wv_RX12_62_X12_people mo_X12_people (t := 11) rfl rfl rfl (fun Q9 => K_X12_people Q9 a0) (by omega) (by decide) (by decide) (Nat.le_of_ble_eq_true rfl) (fun x8 => ?_)
    refine tw_icmp_ge (k := 33) 117 rfl (by decide) ?_ ?_
    · refine tw_aload_n (k := 63) rfl rfl ?_
      refine tw_getR (k := 64) rfl fl_RX12_13 (fun x9 => ?_)
      refine tw_iconst (k := 65) (4 : Int32) rfl (by decide) ?_
      refine tw_sipush (k := 66) (9999 : Int32) rfl (by decide) ?_
      refine tw_aload_n (k := 67) rfl rfl ?_
      refine tw_getR (k := 68) rfl fl_RX12_13 (fun x10 => ?_)
      refine tw_iconst (k := 69) (4 : Int32) rfl (by decide) ?_
      refine tw_iaload (k := 70) rfl (fun x11 => ?_)
      refine tw_iconst (k := 71) (1 : Int32) rfl (by decide) ?_
      refine tw_iadd (k := 72) rfl ?_
      refine tw_callS (k := 73) (d' := 1) (mc' := 0) (ms' := 0) tw_cI tw_cIi [.int (9999 : Int32), .int (x11 + (1 : Int32))] rfl rfl ws_RX12_273_J9_min_7cf53 mo_J9_min_7cf53 rfl (fun Q9 => K_J9_min_7cf53 Q9 (9999 : Int32) (x11 + (1 : Int32))) (by omega) (by decide) (by decide) (Nat.le_of_ble_eq_true rfl) (fun x12 => ?_)
      refine tw_iastore (k := 74) rfl ?_
      exact tw_return (k := 75) rfl rfl (by decide) (by decide)
    · refine tw_iload_n (k := 34) rfl rfl ?_
      refine tw_iconst (k := 35) (1 : Int32) rfl (by decide) ?_
      refine tw_iadd (k := 36) rfl ?_
      refine tw_let (fun x13 => [some (.ref a0), some (.int a1), some (.int s2.1), some (.int s7), none]) (fun x13 => .int x13 :: []) rfl rfl (fun x13 => ?_)
      refine tw_ist (k := 37) [some (.ref a0), some (.int a1), some (.int s2.1), some (.int s7), some (.int x13)] rfl (Nat.le_of_ble_eq_true rfl) rfl rfl ?_
      refine tw_loop (fun s15 => [some (.ref a0), some (.int a1), some (.int s2.1), some (.int s7), some (.int s15)]) (fun s15 => []) (fun r14 h14 s15 => ?_) _ rfl rfl
      refine tw_iload (k := 38) rfl rfl ?_
      refine tw_aload_n (k := 39) rfl rfl ?_
      refine tw_callV (k := 40) (d' := 1) (mc' := 0) (ms' := 0) tw_cI tw_cIi [] rfl rfl wv_RX12_62_X12_people mo_X12_people (t := 11) rfl rfl rfl (fun Q9 => K_X12_people Q9 a0) (by omega) (by decide) (by decide) (Nat.le_of_ble_eq_true rfl) (fun x16 => ?_)
      refine tw_icmp_ge (k := 41) 111 rfl (by decide) ?_ ?_
      · refine tw_inc (k := 61) (1 : Int32) [some (.ref a0), some (.int a1), some (.int s2.1), some (.int (s7 + (1 : Int32))), some (.int s15)] rfl rfl (by decide) (Nat.le_of_ble_eq_true rfl) rfl rfl ?_
        refine tw_goto (k := 62) 49 rfl (by decide) ?_
        exact tw_wk (L' := [some (.ref a0), some (.int a1), some (.int s2.1), some (.int (s7 + (1 : Int32))), none]) ⟨Or.inr rfl, Or.inr rfl, Or.inr rfl, Or.inr rfl, Or.inl rfl, trivial⟩ (h6 (s7 + (1 : Int32)))
      · refine tw_iload_n (k := 42) rfl rfl ?_
        refine tw_iload_n (k := 43) rfl rfl ?_
        refine tw_callS (k := 44) (d' := 1) (mc' := 0) (ms' := 0) tw_cI tw_cIi [.int s2.1, .int s7] rfl rfl ws_RX12_334_X12_has mo_X12_has rfl (fun Q9 => K_X12_has Q9 s2.1 s7) (by omega) (by decide) (by decide) (Nat.le_of_ble_eq_true rfl) (fun x17 => ?_)
        refine tw_join 105 (fun s19 => [some (.ref a0), some (.int a1), some (.int s2.1), some (.int s7), some (.int s15)]) (fun s19 => []) 0 0 (fun s19 => ?_) (fun j18 g18 => ?_)
        · refine tw_inc (k := 59) (1 : Int32) [some (.ref a0), some (.int a1), some (.int s2.1), some (.int s7), some (.int (s15 + (1 : Int32)))] rfl rfl (by decide) (Nat.le_of_ble_eq_true rfl) rfl rfl ?_
          refine tw_goto (k := 60) 62 rfl (by decide) ?_
          exact h14 (s15 + (1 : Int32))
        · refine tw_if_eq (k := 45) 105 rfl (by decide) ?_ ?_
          · exact g18 ()
          · refine tw_iload_n (k := 46) rfl rfl ?_
            refine tw_iload (k := 47) rfl rfl ?_
            refine tw_callS (k := 48) (d' := 1) (mc' := 0) (ms' := 0) tw_cI tw_cIi [.int s2.1, .int s15] rfl rfl ws_RX12_334_X12_has mo_X12_has rfl (fun Q9 => K_X12_has Q9 s2.1 s15) (by omega) (by decide) (by decide) (Nat.le_of_ble_eq_true rfl) (fun x20 => ?_)
            refine tw_if_eq (k := 49) 105 rfl (by decide) ?_ ?_
            · exact g18 ()
            · refine tw_aload_n (k := 50) rfl rfl ?_
              refine tw_iload_n (k := 51) rfl rfl ?_
              refine tw_iload (k := 52) rfl rfl ?_
              refine tw_callV (k := 53) (d' := 3) (mc' := 0) (ms' := 0) tw_cI tw_cIi [.int s7, .int s15] rfl rfl wv_RX12_246_X12_isNear mo_X12_isNear (t := 11) rfl rfl rfl (fun Q9 => K_X12_isNear Q9 a0 s7 s15) (by omega) (by decide) (by decide) (Nat.le_of_ble_eq_true rfl) (fun x21 => ?_)
              refine tw_if_eq (k := 54) 105 rfl (by decide) ?_ ?_
              · exact g18 ()
              · refine tw_aload_n (k := 55) rfl rfl ?_
                refine tw_iload_n (k := 56) rfl rfl ?_
                refine tw_iload (k := 57) rfl rfl ?_
                refine tw_callV (k := 58) (d' := 8) (mc' := 0) (ms' := 0) tw_cU tw_cUi [.int s7, .int s15] rfl rfl wv_RX12_337_X12_meets mo_X12_meets (t := 11) rfl rfl rfl (fun Q9 => K_X12_meets Q9 a0 s7 s15) (by omega) (by decide) (by decide) (Nat.le_of_ble_eq_true rfl) (fun u22 => ?_)
                exact g18 ()
  · refine tw_icmp_ge (k := 7) 47 rfl (by decide) ?_ ?_
    · exact g4 ()
    · refine tw_iload_n (k := 8) rfl rfl ?_
      refine tw_if_ne (k := 9) 47 rfl (by decide) ?_ ?_
      · exact g4 ()
      · refine tw_iload_n (k := 10) rfl rfl ?_
        refine tw_aload_n (k := 11) rfl rfl ?_
        refine tw_bipush (k := 12) (100 : Int32) rfl (by decide) ?_
        refine tw_callV (k := 13) (d' := 1) (mc' := 0) (ms' := 0) tw_cI tw_cIi [.int (100 : Int32)] rfl rfl wv_RX12_331_X12_drawn mo_X12_drawn (t := 11) rfl rfl rfl (fun Q9 => K_X12_drawn Q9 a0 (100 : Int32)) (by omega) (by decide) (by decide) (Nat.le_of_ble_eq_true rfl) (fun x23 => ?_)
        refine tw_aload_n (k := 14) rfl rfl ?_
        refine tw_iload_n (k := 15) rfl rfl ?_
        refine tw_iconst (k := 16) (1 : Int32) rfl (by decide) ?_
        refine tw_callV (k := 17) (d' := 2) (mc' := 0) (ms' := 0) tw_cI tw_cIi [.int s2.2, .int (1 : Int32)] rfl rfl wv_RX12_70_X12_of mo_X12_of (t := 11) rfl rfl rfl (fun Q9 => K_X12_of Q9 a0 s2.2 (1 : Int32)) (by omega) (by decide) (by decide) (Nat.le_of_ble_eq_true rfl) (fun x24 => ?_)
        refine tw_join 39 (fun s26 => [some (.ref a0), some (.int a1), some (.int s2.1), some (.int s2.2), none]) (fun s26 => .int s26 :: .int s2.1 :: []) 0 0 (fun s26 => ?_) (fun j25 g25 => ?_)
        · refine tw_ior (k := 24) rfl ?_
          refine tw_let (fun x27 => [some (.ref a0), some (.int a1), some (.int s2.1), some (.int s2.2), none]) (fun x27 => .int x27 :: []) rfl rfl (fun x27 => ?_)
          refine tw_ist_n (k := 25) [some (.ref a0), some (.int a1), some (.int x27), some (.int s2.2), none] rfl (Nat.le_of_ble_eq_true rfl) rfl rfl ?_
          refine tw_inc (k := 26) (1 : Int32) [some (.ref a0), some (.int a1), some (.int x27), some (.int (s2.2 + (1 : Int32))), none] rfl rfl (by decide) (Nat.le_of_ble_eq_true rfl) rfl rfl ?_
          refine tw_goto (k := 27) 4 rfl (by decide) ?_
          exact h1 (x27, s2.2 + (1 : Int32))
        · refine tw_icmp_ge (k := 18) 38 rfl (by decide) ?_ ?_
          · refine tw_iconst (k := 23) (0 : Int32) rfl (by decide) ?_
            exact g25 (0 : Int32)
          · refine tw_iconst (k := 19) (1 : Int32) rfl (by decide) ?_
            refine tw_iload_n (k := 20) rfl rfl ?_
            refine tw_ishl (k := 21) rfl ?_
            refine tw_goto (k := 22) 39 rfl (by decide) ?_
            exact g25 ((1 : Int32) <<< (s2.2 &&& 31))
def mX12_hourEnds : tw_MD := (yX12_hourEnds, cX12_hourEnds, 2, none, [(0, .aload_n 0, 1, 1), (1, .getfield 13, 3, 4), (4, .iconst 3, 1, 5), (5, .dup2, 1, 6), (6, .iaload, 1, 7), (7, .iconst 1, 1, 8), (8, .iadd, 1, 9), (9, .iastore, 1, 10), (10, .aload_n 0, 1, 11), (11, .getfield 13, 3, 14), (14, .iconst 3, 1, 15), (15, .iaload, 1, 16), (16, .bipush 12, 2, 18), (18, .if_icmp .ge 4, 3, 21), (21, .return_, 1, 22), (22, .aload_n 0, 1, 23), (23, .getfield 13, 3, 26), (26, .iconst 3, 1, 27), (27, .iconst 0, 1, 28), (28, .iastore, 1, 29), (29, .aload_n 0, 1, 30), (30, .iload_n 1, 1, 31), (31, .invokevirtual 340, 3, 34), (34, .return_, 1, 35)], [])
theorem mo_X12_hourEnds : tw_mok mX12_hourEnds 1 := ⟨plainFor_of_name (by decide +kernel), by decide +kernel, by decide +kernel, by decide +kernel, by decide +kernel⟩
theorem dk_X12_hourEnds : tw_dk mX12_hourEnds := by unfold tw_dk; decide +kernel
theorem wv_RX12_340_X12_dayEnds : tw_wV RX12 340 mX12_dayEnds := ⟨List.mem_of_getElem? (i := 2223) (by decide +kernel), List.mem_of_getElem? (i := 2225) (by decide +kernel), List.mem_of_getElem? (i := 100) (by decide +kernel), List.mem_of_getElem? (i := 137) (by decide +kernel), List.mem_of_getElem? (i := 2226) (by decide +kernel)⟩
set_option maxRecDepth 20000 in
theorem K_X12_hourEnds {g : tw_Gx} (Q : tw_Rs → tw_Mem → Prop) (a0 : Nat) (a1 : Int32) : tw_Kt g mX12_hourEnds 10 0 0 [.ref a0, .int a1] Q (f_X12_hourEnds a0 a1 (fun v => Q (.inl none))) := by
  refine tw_mkK (L := [some (.ref a0), some (.int a1)]) mo_X12_hourEnds dk_X12_hourEnds rfl (Nat.le_of_ble_eq_true rfl) rfl ?_
  unfold f_X12_hourEnds
  refine tw_aload_n (k := 0) rfl rfl ?_
  refine tw_getR (k := 1) rfl fl_RX12_13 (fun x1 => ?_)
  refine tw_iconst (k := 2) (3 : Int32) rfl (by decide) ?_
  refine tw_dup2 (k := 3) rfl rfl rfl ?_
  refine tw_iaload (k := 4) rfl (fun x2 => ?_)
  refine tw_iconst (k := 5) (1 : Int32) rfl (by decide) ?_
  refine tw_iadd (k := 6) rfl ?_
  refine tw_iastore (k := 7) rfl ?_
  refine tw_aload_n (k := 8) rfl rfl ?_
  refine tw_getR (k := 9) rfl fl_RX12_13 (fun x3 => ?_)
  refine tw_iconst (k := 10) (3 : Int32) rfl (by decide) ?_
  refine tw_iaload (k := 11) rfl (fun x4 => ?_)
  refine tw_bipush (k := 12) (12 : Int32) rfl (by decide) ?_
  refine tw_icmp_ge (k := 13) 22 rfl (by decide) ?_ ?_
  · refine tw_aload_n (k := 15) rfl rfl ?_
    refine tw_getR (k := 16) rfl fl_RX12_13 (fun x5 => ?_)
    refine tw_iconst (k := 17) (3 : Int32) rfl (by decide) ?_
    refine tw_iconst (k := 18) (0 : Int32) rfl (by decide) ?_
    refine tw_iastore (k := 19) rfl ?_
    refine tw_aload_n (k := 20) rfl rfl ?_
    refine tw_iload_n (k := 21) rfl rfl ?_
    refine tw_callV (k := 22) (d' := 9) (mc' := 0) (ms' := 0) tw_cU tw_cUi [.int a1] rfl rfl wv_RX12_340_X12_dayEnds mo_X12_dayEnds (t := 11) rfl rfl rfl (fun Q9 => K_X12_dayEnds Q9 a0 a1) (by omega) (by decide) (by decide) (Nat.le_of_ble_eq_true rfl) (fun u6 => ?_)
    exact tw_return (k := 23) rfl rfl (by decide) (by decide)
  · exact tw_return (k := 14) rfl rfl (by decide) (by decide)
def mX12_tells : tw_MD := (yX12_tells, cX12_tells, 3, none, [(0, .sipush 299, 3, 3), (3, .istore_n 2, 1, 4), (4, .iload_n 2, 1, 5), (5, .iconst 5, 1, 6), (6, .if_icmp .lt 31, 3, 9), (9, .aload_n 0, 1, 10), (10, .getfield 13, 3, 13), (13, .sipush 192, 3, 16), (16, .iload_n 2, 1, 17), (17, .iadd, 1, 18), (18, .aload_n 0, 1, 19), (19, .getfield 13, 3, 22), (22, .sipush 192, 3, 25), (25, .iload_n 2, 1, 26), (26, .iadd, 1, 27), (27, .iconst 5, 1, 28), (28, .isub, 1, 29), (29, .iaload, 1, 30), (30, .iastore, 1, 31), (31, .iinc 2 (-1), 3, 34), (34, .goto (-30), 3, 37), (37, .aload_n 0, 1, 38), (38, .getfield 13, 3, 41), (41, .sipush 192, 3, 44), (44, .aload_n 0, 1, 45), (45, .getfield 13, 3, 48), (48, .iconst 4, 1, 49), (49, .iaload, 1, 50), (50, .iastore, 1, 51), (51, .aload_n 0, 1, 52), (52, .getfield 13, 3, 55), (55, .sipush 193, 3, 58), (58, .aload_n 0, 1, 59), (59, .getfield 13, 3, 62), (62, .iconst 3, 1, 63), (63, .iaload, 1, 64), (64, .iastore, 1, 65), (65, .aload_n 0, 1, 66), (66, .getfield 13, 3, 69), (69, .sipush 194, 3, 72), (72, .aload_n 0, 1, 73), (73, .iconst 0, 1, 74), (74, .aload_n 0, 1, 75), (75, .getfield 13, 3, 78), (78, .iconst 3, 1, 79), (79, .iaload, 1, 80), (80, .invokevirtual 139, 3, 83), (83, .iastore, 1, 84), (84, .aload_n 0, 1, 85), (85, .getfield 13, 3, 88), (88, .sipush 195, 3, 91), (91, .aload_n 0, 1, 92), (92, .iconst 1, 1, 93), (93, .aload_n 0, 1, 94), (94, .getfield 13, 3, 97), (97, .iconst 3, 1, 98), (98, .iaload, 1, 99), (99, .invokevirtual 139, 3, 102), (102, .iastore, 1, 103), (103, .aload_n 0, 1, 104), (104, .getfield 13, 3, 107), (107, .sipush 196, 3, 110), (110, .iload_n 1, 1, 111), (111, .iastore, 1, 112), (112, .aload_n 0, 1, 113), (113, .getfield 13, 3, 116), (116, .bipush 6, 2, 118), (118, .bipush 60, 2, 120), (120, .aload_n 0, 1, 121), (121, .getfield 13, 3, 124), (124, .bipush 6, 2, 126), (126, .iaload, 1, 127), (127, .iconst 1, 1, 128), (128, .iadd, 1, 129), (129, .invokestatic 273, 3, 132), (132, .iastore, 1, 133), (133, .return_, 1, 134)], [])
theorem mo_X12_tells : tw_mok mX12_tells 1 := ⟨plainFor_of_name (by decide +kernel), by decide +kernel, by decide +kernel, by decide +kernel, by decide +kernel⟩
theorem dk_X12_tells : tw_dk mX12_tells := by unfold tw_dk; decide +kernel
set_option maxRecDepth 20000 in
theorem K_X12_tells {g : tw_Gx} (Q : tw_Rs → tw_Mem → Prop) (a0 : Nat) (a1 : Int32) : tw_Kt g mX12_tells 3 0 0 [.ref a0, .int a1] Q (f_X12_tells a0 a1 (fun v => Q (.inl none))) := by
  refine tw_mkK (L := [some (.ref a0), some (.int a1), none]) mo_X12_tells dk_X12_tells rfl (Nat.le_of_ble_eq_true rfl) rfl ?_
  unfold f_X12_tells
  refine tw_sipush (k := 0) (299 : Int32) rfl (by decide) ?_
  refine tw_ist_n (k := 1) [some (.ref a0), some (.int a1), some (.int (299 : Int32))] rfl (Nat.le_of_ble_eq_true rfl) rfl rfl ?_
  refine tw_loop (fun s2 => [some (.ref a0), some (.int a1), some (.int s2)]) (fun s2 => []) (fun r1 h1 s2 => ?_) _ rfl rfl
  refine tw_iload_n (k := 2) rfl rfl ?_
  refine tw_iconst (k := 3) (5 : Int32) rfl (by decide) ?_
  refine tw_icmp_lt (k := 4) 37 rfl (by decide) ?_ ?_
  · refine tw_aload_n (k := 21) rfl rfl ?_
    refine tw_getR (k := 22) rfl fl_RX12_13 (fun x3 => ?_)
    refine tw_sipush (k := 23) (192 : Int32) rfl (by decide) ?_
    refine tw_aload_n (k := 24) rfl rfl ?_
    refine tw_getR (k := 25) rfl fl_RX12_13 (fun x4 => ?_)
    refine tw_iconst (k := 26) (4 : Int32) rfl (by decide) ?_
    refine tw_iaload (k := 27) rfl (fun x5 => ?_)
    refine tw_iastore (k := 28) rfl ?_
    refine tw_aload_n (k := 29) rfl rfl ?_
    refine tw_getR (k := 30) rfl fl_RX12_13 (fun x6 => ?_)
    refine tw_sipush (k := 31) (193 : Int32) rfl (by decide) ?_
    refine tw_aload_n (k := 32) rfl rfl ?_
    refine tw_getR (k := 33) rfl fl_RX12_13 (fun x7 => ?_)
    refine tw_iconst (k := 34) (3 : Int32) rfl (by decide) ?_
    refine tw_iaload (k := 35) rfl (fun x8 => ?_)
    refine tw_iastore (k := 36) rfl ?_
    refine tw_aload_n (k := 37) rfl rfl ?_
    refine tw_getR (k := 38) rfl fl_RX12_13 (fun x9 => ?_)
    refine tw_sipush (k := 39) (194 : Int32) rfl (by decide) ?_
    refine tw_aload_n (k := 40) rfl rfl ?_
    refine tw_iconst (k := 41) (0 : Int32) rfl (by decide) ?_
    refine tw_aload_n (k := 42) rfl rfl ?_
    refine tw_getR (k := 43) rfl fl_RX12_13 (fun x10 => ?_)
    refine tw_iconst (k := 44) (3 : Int32) rfl (by decide) ?_
    refine tw_iaload (k := 45) rfl (fun x11 => ?_)
    refine tw_callV (k := 46) (d' := 2) (mc' := 0) (ms' := 0) tw_cI tw_cIi [.int (0 : Int32), .int x11] rfl rfl wv_RX12_139_X12_inPlan mo_X12_inPlan (t := 11) rfl rfl rfl (fun Q9 => K_X12_inPlan Q9 a0 (0 : Int32) x11) (by omega) (by decide) (by decide) (Nat.le_of_ble_eq_true rfl) (fun x12 => ?_)
    refine tw_iastore (k := 47) rfl ?_
    refine tw_aload_n (k := 48) rfl rfl ?_
    refine tw_getR (k := 49) rfl fl_RX12_13 (fun x13 => ?_)
    refine tw_sipush (k := 50) (195 : Int32) rfl (by decide) ?_
    refine tw_aload_n (k := 51) rfl rfl ?_
    refine tw_iconst (k := 52) (1 : Int32) rfl (by decide) ?_
    refine tw_aload_n (k := 53) rfl rfl ?_
    refine tw_getR (k := 54) rfl fl_RX12_13 (fun x14 => ?_)
    refine tw_iconst (k := 55) (3 : Int32) rfl (by decide) ?_
    refine tw_iaload (k := 56) rfl (fun x15 => ?_)
    refine tw_callV (k := 57) (d' := 2) (mc' := 0) (ms' := 0) tw_cI tw_cIi [.int (1 : Int32), .int x15] rfl rfl wv_RX12_139_X12_inPlan mo_X12_inPlan (t := 11) rfl rfl rfl (fun Q9 => K_X12_inPlan Q9 a0 (1 : Int32) x15) (by omega) (by decide) (by decide) (Nat.le_of_ble_eq_true rfl) (fun x16 => ?_)
    refine tw_iastore (k := 58) rfl ?_
    refine tw_aload_n (k := 59) rfl rfl ?_
    refine tw_getR (k := 60) rfl fl_RX12_13 (fun x17 => ?_)
    refine tw_sipush (k := 61) (196 : Int32) rfl (by decide) ?_
    refine tw_iload_n (k := 62) rfl rfl ?_
    refine tw_iastore (k := 63) rfl ?_
    refine tw_aload_n (k := 64) rfl rfl ?_
    refine tw_getR (k := 65) rfl fl_RX12_13 (fun x18 => ?_)
    refine tw_bipush (k := 66) (6 : Int32) rfl (by decide) ?_
    refine tw_bipush (k := 67) (60 : Int32) rfl (by decide) ?_
    refine tw_aload_n (k := 68) rfl rfl ?_
    refine tw_getR (k := 69) rfl fl_RX12_13 (fun x19 => ?_)
    refine tw_bipush (k := 70) (6 : Int32) rfl (by decide) ?_
    refine tw_iaload (k := 71) rfl (fun x20 => ?_)
    refine tw_iconst (k := 72) (1 : Int32) rfl (by decide) ?_
    refine tw_iadd (k := 73) rfl ?_
    refine tw_callS (k := 74) (d' := 1) (mc' := 0) (ms' := 0) tw_cI tw_cIi [.int (60 : Int32), .int (x20 + (1 : Int32))] rfl rfl ws_RX12_273_J9_min_7cf53 mo_J9_min_7cf53 rfl (fun Q9 => K_J9_min_7cf53 Q9 (60 : Int32) (x20 + (1 : Int32))) (by omega) (by decide) (by decide) (Nat.le_of_ble_eq_true rfl) (fun x21 => ?_)
    refine tw_iastore (k := 75) rfl ?_
    exact tw_return (k := 76) rfl rfl (by decide) (by decide)
  · refine tw_aload_n (k := 5) rfl rfl ?_
    refine tw_getR (k := 6) rfl fl_RX12_13 (fun x22 => ?_)
    refine tw_sipush (k := 7) (192 : Int32) rfl (by decide) ?_
    refine tw_iload_n (k := 8) rfl rfl ?_
    refine tw_iadd (k := 9) rfl ?_
    refine tw_aload_n (k := 10) rfl rfl ?_
    refine tw_getR (k := 11) rfl fl_RX12_13 (fun x23 => ?_)
    refine tw_sipush (k := 12) (192 : Int32) rfl (by decide) ?_
    refine tw_iload_n (k := 13) rfl rfl ?_
    refine tw_iadd (k := 14) rfl ?_
    refine tw_iconst (k := 15) (5 : Int32) rfl (by decide) ?_
    refine tw_isub (k := 16) rfl ?_
    refine tw_iaload (k := 17) rfl (fun x24 => ?_)
    refine tw_iastore (k := 18) rfl ?_
    refine tw_inc (k := 19) (-1 : Int32) [some (.ref a0), some (.int a1), some (.int (s2 + (-1 : Int32)))] rfl rfl (by decide) (Nat.le_of_ble_eq_true rfl) rfl rfl ?_
    refine tw_goto (k := 20) 4 rfl (by decide) ?_
    exact h1 (s2 + (-1 : Int32))
def mX12_oneHour : tw_MD := (yX12_oneHour, cX12_oneHour, 3, (some FieldType.int), [(0, .aload_n 0, 1, 1), (1, .aload_n 0, 1, 2), (2, .getfield 13, 3, 5), (5, .iconst 3, 1, 6), (6, .iaload, 1, 7), (7, .invokevirtual 321, 3, 10), (10, .istore_n 2, 1, 11), (11, .iload_n 2, 1, 12), (12, .ifCond .le 8, 3, 15), (15, .aload_n 0, 1, 16), (16, .iload_n 2, 1, 17), (17, .invokevirtual 344, 3, 20), (20, .iload_n 2, 1, 21), (21, .iconst 1, 1, 22), (22, .if_icmp .le 30, 3, 25), (25, .aload_n 0, 1, 26), (26, .aload_n 0, 1, 27), (27, .iconst 0, 1, 28), (28, .aload_n 0, 1, 29), (29, .getfield 13, 3, 32), (32, .iconst 3, 1, 33), (33, .iaload, 1, 34), (34, .invokevirtual 139, 3, 37), (37, .aload_n 0, 1, 38), (38, .iconst 1, 1, 39), (39, .aload_n 0, 1, 40), (40, .getfield 13, 3, 43), (43, .iconst 3, 1, 44), (44, .iaload, 1, 45), (45, .invokevirtual 139, 3, 48), (48, .invokevirtual 348, 3, 51), (51, .pop, 1, 52), (52, .aload_n 0, 1, 53), (53, .iload_n 1, 1, 54), (54, .invokevirtual 351, 3, 57), (57, .iload_n 2, 1, 58), (58, .iconst 4, 1, 59), (59, .if_icmp .ne 7, 3, 62), (62, .iconst 1, 1, 63), (63, .goto 4, 3, 66), (66, .iconst 0, 1, 67), (67, .ireturn, 1, 68)], [])
theorem mo_X12_oneHour : tw_mok mX12_oneHour 1 := ⟨plainFor_of_name (by decide +kernel), by decide +kernel, by decide +kernel, by decide +kernel, by decide +kernel⟩
theorem dk_X12_oneHour : tw_dk mX12_oneHour := by unfold tw_dk; decide +kernel
theorem wv_RX12_351_X12_hourEnds : tw_wV RX12 351 mX12_hourEnds := ⟨List.mem_of_getElem? (i := 2219) (by decide +kernel), List.mem_of_getElem? (i := 2221) (by decide +kernel), List.mem_of_getElem? (i := 99) (by decide +kernel), List.mem_of_getElem? (i := 137) (by decide +kernel), List.mem_of_getElem? (i := 2222) (by decide +kernel)⟩
theorem wv_RX12_348_X12_pulls : tw_wV RX12 348 mX12_pulls := ⟨List.mem_of_getElem? (i := 2215) (by decide +kernel), List.mem_of_getElem? (i := 2217) (by decide +kernel), List.mem_of_getElem? (i := 98) (by decide +kernel), List.mem_of_getElem? (i := 137) (by decide +kernel), List.mem_of_getElem? (i := 2218) (by decide +kernel)⟩
theorem wv_RX12_344_X12_tells : tw_wV RX12 344 mX12_tells := ⟨List.mem_of_getElem? (i := 2211) (by decide +kernel), List.mem_of_getElem? (i := 2213) (by decide +kernel), List.mem_of_getElem? (i := 97) (by decide +kernel), List.mem_of_getElem? (i := 137) (by decide +kernel), List.mem_of_getElem? (i := 2214) (by decide +kernel)⟩
set_option maxRecDepth 20000 in
theorem K_X12_oneHour {g : tw_Gx} (Q : tw_Rs → tw_Mem → Prop) (a0 : Nat) (a1 : Int32) : tw_Kt g mX12_oneHour 11 0 0 [.ref a0, .int a1] Q (f_X12_oneHour a0 a1 (fun v => Q (.inl (some (.int v))))) := by
  refine tw_mkK (L := [some (.ref a0), some (.int a1), none]) mo_X12_oneHour dk_X12_oneHour rfl (Nat.le_of_ble_eq_true rfl) rfl ?_
  unfold f_X12_oneHour
  refine tw_aload_n (k := 0) rfl rfl ?_
  refine tw_aload_n (k := 1) rfl rfl ?_
  refine tw_getR (k := 2) rfl fl_RX12_13 (fun x1 => ?_)
  refine tw_iconst (k := 3) (3 : Int32) rfl (by decide) ?_
  refine tw_iaload (k := 4) rfl (fun x2 => ?_)
  refine tw_callV (k := 5) (d' := 5) (mc' := 0) (ms' := 0) tw_cI tw_cIi [.int x2] rfl rfl wv_RX12_321_X12_toneAt mo_X12_toneAt (t := 11) rfl rfl rfl (fun Q9 => K_X12_toneAt Q9 a0 x2) (by omega) (by decide) (by decide) (Nat.le_of_ble_eq_true rfl) (fun x3 => ?_)
  refine tw_ist_n (k := 6) [some (.ref a0), some (.int a1), some (.int x3)] rfl (Nat.le_of_ble_eq_true rfl) rfl rfl ?_
  refine tw_iload_n (k := 7) rfl rfl ?_
  refine tw_join 20 (fun s5 => [some (.ref a0), some (.int a1), some (.int x3)]) (fun s5 => []) 0 0 (fun s5 => ?_) (fun j4 g4 => ?_)
  · refine tw_iload_n (k := 12) rfl rfl ?_
    refine tw_iconst (k := 13) (1 : Int32) rfl (by decide) ?_
    refine tw_join 52 (fun s7 => [some (.ref a0), some (.int a1), some (.int x3)]) (fun s7 => []) 0 0 (fun s7 => ?_) (fun j6 g6 => ?_)
    · refine tw_aload_n (k := 32) rfl rfl ?_
      refine tw_iload_n (k := 33) rfl rfl ?_
      refine tw_callV (k := 34) (d' := 10) (mc' := 0) (ms' := 0) tw_cU tw_cUi [.int a1] rfl rfl wv_RX12_351_X12_hourEnds mo_X12_hourEnds (t := 11) rfl rfl rfl (fun Q9 => K_X12_hourEnds Q9 a0 a1) (by omega) (by decide) (by decide) (Nat.le_of_ble_eq_true rfl) (fun u8 => ?_)
      refine tw_iload_n (k := 35) rfl rfl ?_
      refine tw_iconst (k := 36) (4 : Int32) rfl (by decide) ?_
      refine tw_icmp_ne (k := 37) 66 rfl (by decide) ?_ ?_
      · refine tw_iconst (k := 40) (0 : Int32) rfl (by decide) ?_
        exact tw_ireturn (k := 41) rfl rfl (by decide) (by decide)
      · refine tw_iconst (k := 38) (1 : Int32) rfl (by decide) ?_
        refine tw_goto (k := 39) 67 rfl (by decide) ?_
        exact tw_ireturn (k := 41) rfl rfl (by decide) (by decide)
    · refine tw_icmp_le (k := 14) 52 rfl (by decide) ?_ ?_
      · exact g6 ()
      · refine tw_aload_n (k := 15) rfl rfl ?_
        refine tw_aload_n (k := 16) rfl rfl ?_
        refine tw_iconst (k := 17) (0 : Int32) rfl (by decide) ?_
        refine tw_aload_n (k := 18) rfl rfl ?_
        refine tw_getR (k := 19) rfl fl_RX12_13 (fun x9 => ?_)
        refine tw_iconst (k := 20) (3 : Int32) rfl (by decide) ?_
        refine tw_iaload (k := 21) rfl (fun x10 => ?_)
        refine tw_callV (k := 22) (d' := 2) (mc' := 0) (ms' := 0) tw_cI tw_cIi [.int (0 : Int32), .int x10] rfl rfl wv_RX12_139_X12_inPlan mo_X12_inPlan (t := 11) rfl rfl rfl (fun Q9 => K_X12_inPlan Q9 a0 (0 : Int32) x10) (by omega) (by decide) (by decide) (Nat.le_of_ble_eq_true rfl) (fun x11 => ?_)
        refine tw_aload_n (k := 23) rfl rfl ?_
        refine tw_iconst (k := 24) (1 : Int32) rfl (by decide) ?_
        refine tw_aload_n (k := 25) rfl rfl ?_
        refine tw_getR (k := 26) rfl fl_RX12_13 (fun x12 => ?_)
        refine tw_iconst (k := 27) (3 : Int32) rfl (by decide) ?_
        refine tw_iaload (k := 28) rfl (fun x13 => ?_)
        refine tw_callV (k := 29) (d' := 2) (mc' := 0) (ms' := 0) tw_cI tw_cIi [.int (1 : Int32), .int x13] rfl rfl wv_RX12_139_X12_inPlan mo_X12_inPlan (t := 11) rfl rfl rfl (fun Q9 => K_X12_inPlan Q9 a0 (1 : Int32) x13) (by omega) (by decide) (by decide) (Nat.le_of_ble_eq_true rfl) (fun x14 => ?_)
        refine tw_callV (k := 30) (d' := 8) (mc' := 0) (ms' := 0) tw_cI tw_cIi [.int x11, .int x14] rfl rfl wv_RX12_348_X12_pulls mo_X12_pulls (t := 11) rfl rfl rfl (fun Q9 => K_X12_pulls Q9 a0 x11 x14) (by omega) (by decide) (by decide) (Nat.le_of_ble_eq_true rfl) (fun x15 => ?_)
        refine tw_pop (k := 31) rfl rfl ?_
        exact g6 ()
  · refine tw_if_le (k := 8) 20 rfl (by decide) ?_ ?_
    · exact g4 ()
    · refine tw_aload_n (k := 9) rfl rfl ?_
      refine tw_iload_n (k := 10) rfl rfl ?_
      refine tw_callV (k := 11) (d' := 3) (mc' := 0) (ms' := 0) tw_cU tw_cUi [.int x3] rfl rfl wv_RX12_344_X12_tells mo_X12_tells (t := 11) rfl rfl rfl (fun Q9 => K_X12_tells Q9 a0 x3) (by omega) (by decide) (by decide) (Nat.le_of_ble_eq_true rfl) (fun u16 => ?_)
      exact g4 ()
def mX12_goesOn : tw_MD := (yX12_goesOn, cX12_goesOn, 5, (some FieldType.int), [(0, .iconst 0, 1, 1), (1, .istore_n 3, 1, 2), (2, .iconst 0, 1, 3), (3, .istore 4, 2, 5), (5, .iload 4, 2, 7), (7, .iload_n 1, 1, 8), (8, .if_icmp .ge 17, 3, 11), (11, .iload_n 3, 1, 12), (12, .aload_n 0, 1, 13), (13, .iload_n 2, 1, 14), (14, .invokevirtual 354, 3, 17), (17, .iadd, 1, 18), (18, .istore_n 3, 1, 19), (19, .iinc 4 1, 3, 22), (22, .goto (-17), 3, 25), (25, .iload_n 3, 1, 26), (26, .ireturn, 1, 27)], [])
theorem mo_X12_goesOn : tw_mok mX12_goesOn 2 := ⟨plainFor_of_name (by decide +kernel), by decide +kernel, by decide +kernel, by decide +kernel, by decide +kernel⟩
theorem dk_X12_goesOn : tw_dk mX12_goesOn := by unfold tw_dk; decide +kernel
theorem wv_RX12_354_X12_oneHour : tw_wV RX12 354 mX12_oneHour := ⟨List.mem_of_getElem? (i := 2207) (by decide +kernel), List.mem_of_getElem? (i := 2209) (by decide +kernel), List.mem_of_getElem? (i := 96) (by decide +kernel), List.mem_of_getElem? (i := 137) (by decide +kernel), List.mem_of_getElem? (i := 2210) (by decide +kernel)⟩
set_option maxRecDepth 20000 in
theorem K_X12_goesOn {g : tw_Gx} (Q : tw_Rs → tw_Mem → Prop) (a0 : Nat) (a1 : Int32) (a2 : Int32) : tw_Kt g mX12_goesOn 12 0 0 [.ref a0, .int a1, .int a2] Q (f_X12_goesOn a0 a1 a2 (fun v => Q (.inl (some (.int v))))) := by
  refine tw_mkK (L := [some (.ref a0), some (.int a1), some (.int a2), none, none]) mo_X12_goesOn dk_X12_goesOn rfl (Nat.le_of_ble_eq_true rfl) rfl ?_
  unfold f_X12_goesOn
  refine tw_iconst (k := 0) (0 : Int32) rfl (by decide) ?_
  refine tw_ist_n (k := 1) [some (.ref a0), some (.int a1), some (.int a2), some (.int (0 : Int32)), none] rfl (Nat.le_of_ble_eq_true rfl) rfl rfl ?_
  refine tw_iconst (k := 2) (0 : Int32) rfl (by decide) ?_
  refine tw_ist (k := 3) [some (.ref a0), some (.int a1), some (.int a2), some (.int (0 : Int32)), some (.int (0 : Int32))] rfl (Nat.le_of_ble_eq_true rfl) rfl rfl ?_
  refine tw_loop (fun s2 => [some (.ref a0), some (.int a1), some (.int a2), some (.int s2.1), some (.int s2.2)]) (fun s2 => []) (fun r1 h1 s2 => ?_) _ rfl rfl
  refine tw_iload (k := 4) rfl rfl ?_
  refine tw_iload_n (k := 5) rfl rfl ?_
  refine tw_icmp_ge (k := 6) 25 rfl (by decide) ?_ ?_
  · refine tw_iload_n (k := 15) rfl rfl ?_
    exact tw_ireturn (k := 16) rfl rfl (by decide) (by decide)
  · refine tw_iload_n (k := 7) rfl rfl ?_
    refine tw_aload_n (k := 8) rfl rfl ?_
    refine tw_iload_n (k := 9) rfl rfl ?_
    refine tw_callV (k := 10) (d' := 11) (mc' := 0) (ms' := 0) tw_cI tw_cIi [.int a2] rfl rfl wv_RX12_354_X12_oneHour mo_X12_oneHour (t := 11) rfl rfl rfl (fun Q9 => K_X12_oneHour Q9 a0 a2) (by omega) (by decide) (by decide) (Nat.le_of_ble_eq_true rfl) (fun x3 => ?_)
    refine tw_iadd (k := 11) rfl ?_
    refine tw_let (fun x4 => [some (.ref a0), some (.int a1), some (.int a2), some (.int s2.1), some (.int s2.2)]) (fun x4 => .int x4 :: []) rfl rfl (fun x4 => ?_)
    refine tw_ist_n (k := 12) [some (.ref a0), some (.int a1), some (.int a2), some (.int x4), some (.int s2.2)] rfl (Nat.le_of_ble_eq_true rfl) rfl rfl ?_
    refine tw_inc (k := 13) (1 : Int32) [some (.ref a0), some (.int a1), some (.int a2), some (.int x4), some (.int (s2.2 + (1 : Int32)))] rfl rfl (by decide) (Nat.le_of_ble_eq_true rfl) rfl rfl ?_
    refine tw_goto (k := 14) 5 rfl (by decide) ?_
    exact h1 (x4, s2.2 + (1 : Int32))
def mX12_keepsAll : tw_MD := (yX12_keepsAll, cX12_keepsAll, 2, none, [(0, .iconst 0, 1, 1), (1, .istore_n 1, 1, 2), (2, .iload_n 1, 1, 3), (3, .sipush 492, 3, 6), (6, .if_icmp .ge 21, 3, 9), (9, .aload_n 0, 1, 10), (10, .getfield 23, 3, 13), (13, .iload_n 1, 1, 14), (14, .aload_n 0, 1, 15), (15, .getfield 13, 3, 18), (18, .iload_n 1, 1, 19), (19, .iaload, 1, 20), (20, .iastore, 1, 21), (21, .iinc 1 1, 3, 24), (24, .goto (-22), 3, 27), (27, .return_, 1, 28)], [])
theorem mo_X12_keepsAll : tw_mok mX12_keepsAll 0 := ⟨plainFor_of_name (by decide +kernel), by decide +kernel, by decide +kernel, by decide +kernel, by decide +kernel⟩
theorem dk_X12_keepsAll : tw_dk mX12_keepsAll := by unfold tw_dk; decide +kernel
set_option maxRecDepth 20000 in
theorem K_X12_keepsAll {g : tw_Gx} (Q : tw_Rs → tw_Mem → Prop) (a0 : Nat) : tw_Kt g mX12_keepsAll 1 0 0 [.ref a0] Q (f_X12_keepsAll a0 (fun v => Q (.inl none))) := by
  refine tw_mkK (L := [some (.ref a0), none]) mo_X12_keepsAll dk_X12_keepsAll rfl (Nat.le_of_ble_eq_true rfl) rfl ?_
  unfold f_X12_keepsAll
  refine tw_iconst (k := 0) (0 : Int32) rfl (by decide) ?_
  refine tw_ist_n (k := 1) [some (.ref a0), some (.int (0 : Int32))] rfl (Nat.le_of_ble_eq_true rfl) rfl rfl ?_
  refine tw_loop (fun s2 => [some (.ref a0), some (.int s2)]) (fun s2 => []) (fun r1 h1 s2 => ?_) _ rfl rfl
  refine tw_iload_n (k := 2) rfl rfl ?_
  refine tw_sipush (k := 3) (492 : Int32) rfl (by decide) ?_
  refine tw_icmp_ge (k := 4) 27 rfl (by decide) ?_ ?_
  · exact tw_return (k := 15) rfl rfl (by decide) (by decide)
  · refine tw_aload_n (k := 5) rfl rfl ?_
    refine tw_getR (k := 6) rfl fl_RX12_23 (fun x3 => ?_)
    refine tw_iload_n (k := 7) rfl rfl ?_
    refine tw_aload_n (k := 8) rfl rfl ?_
    refine tw_getR (k := 9) rfl fl_RX12_13 (fun x4 => ?_)
    refine tw_iload_n (k := 10) rfl rfl ?_
    refine tw_iaload (k := 11) rfl (fun x5 => ?_)
    refine tw_iastore (k := 12) rfl ?_
    refine tw_inc (k := 13) (1 : Int32) [some (.ref a0), some (.int (s2 + (1 : Int32)))] rfl rfl (by decide) (Nat.le_of_ble_eq_true rfl) rfl rfl ?_
    refine tw_goto (k := 14) 2 rfl (by decide) ?_
    exact h1 (s2 + (1 : Int32))
def mX12_bringsBack : tw_MD := (yX12_bringsBack, cX12_bringsBack, 2, none, [(0, .iconst 0, 1, 1), (1, .istore_n 1, 1, 2), (2, .iload_n 1, 1, 3), (3, .sipush 492, 3, 6), (6, .if_icmp .ge 21, 3, 9), (9, .aload_n 0, 1, 10), (10, .getfield 13, 3, 13), (13, .iload_n 1, 1, 14), (14, .aload_n 0, 1, 15), (15, .getfield 23, 3, 18), (18, .iload_n 1, 1, 19), (19, .iaload, 1, 20), (20, .iastore, 1, 21), (21, .iinc 1 1, 3, 24), (24, .goto (-22), 3, 27), (27, .return_, 1, 28)], [])
theorem mo_X12_bringsBack : tw_mok mX12_bringsBack 0 := ⟨plainFor_of_name (by decide +kernel), by decide +kernel, by decide +kernel, by decide +kernel, by decide +kernel⟩
theorem dk_X12_bringsBack : tw_dk mX12_bringsBack := by unfold tw_dk; decide +kernel
set_option maxRecDepth 20000 in
theorem K_X12_bringsBack {g : tw_Gx} (Q : tw_Rs → tw_Mem → Prop) (a0 : Nat) : tw_Kt g mX12_bringsBack 1 0 0 [.ref a0] Q (f_X12_bringsBack a0 (fun v => Q (.inl none))) := by
  refine tw_mkK (L := [some (.ref a0), none]) mo_X12_bringsBack dk_X12_bringsBack rfl (Nat.le_of_ble_eq_true rfl) rfl ?_
  unfold f_X12_bringsBack
  refine tw_iconst (k := 0) (0 : Int32) rfl (by decide) ?_
  refine tw_ist_n (k := 1) [some (.ref a0), some (.int (0 : Int32))] rfl (Nat.le_of_ble_eq_true rfl) rfl rfl ?_
  refine tw_loop (fun s2 => [some (.ref a0), some (.int s2)]) (fun s2 => []) (fun r1 h1 s2 => ?_) _ rfl rfl
  refine tw_iload_n (k := 2) rfl rfl ?_
  refine tw_sipush (k := 3) (492 : Int32) rfl (by decide) ?_
  refine tw_icmp_ge (k := 4) 27 rfl (by decide) ?_ ?_
  · exact tw_return (k := 15) rfl rfl (by decide) (by decide)
  · refine tw_aload_n (k := 5) rfl rfl ?_
    refine tw_getR (k := 6) rfl fl_RX12_13 (fun x3 => ?_)
    refine tw_iload_n (k := 7) rfl rfl ?_
    refine tw_aload_n (k := 8) rfl rfl ?_
    refine tw_getR (k := 9) rfl fl_RX12_23 (fun x4 => ?_)
    refine tw_iload_n (k := 10) rfl rfl ?_
    refine tw_iaload (k := 11) rfl (fun x5 => ?_)
    refine tw_iastore (k := 12) rfl ?_
    refine tw_inc (k := 13) (1 : Int32) [some (.ref a0), some (.int (s2 + (1 : Int32)))] rfl rfl (by decide) (Nat.le_of_ble_eq_true rfl) rfl rfl ?_
    refine tw_goto (k := 14) 2 rfl (by decide) ?_
    exact h1 (s2 + (1 : Int32))
def mX12_hours : tw_MD := (yX12_hours, cX12_hours, 2, (some FieldType.int), [(0, .aload_n 0, 1, 1), (1, .iconst 0, 1, 2), (2, .putfield 3, 3, 5), (5, .aload_n 0, 1, 6), (6, .iload_n 1, 1, 7), (7, .iconst 1, 1, 8), (8, .bipush 120, 2, 10), (10, .invokestatic 76, 3, 13), (13, .ifCond .ne 7, 3, 16), (16, .iconst 1, 1, 17), (17, .goto 4, 3, 20), (20, .iconst 0, 1, 21), (21, .iconst 1, 1, 22), (22, .invokevirtual 240, 3, 25), (25, .ifCond .eq 5, 3, 28), (28, .iconst 0, 1, 29), (29, .ireturn, 1, 30), (30, .aload_n 0, 1, 31), (31, .invokevirtual 324, 3, 34), (34, .aload_n 0, 1, 35), (35, .iload_n 1, 1, 36), (36, .iconst 0, 1, 37), (37, .invokevirtual 357, 3, 40), (40, .ireturn, 1, 41)], [])
theorem mo_X12_hours : tw_mok mX12_hours 1 := ⟨plainFor_of_name (by decide +kernel), by decide +kernel, by decide +kernel, by decide +kernel, by decide +kernel⟩
theorem dk_X12_hours : tw_dk mX12_hours := by unfold tw_dk; decide +kernel
theorem wv_RX12_357_X12_goesOn : tw_wV RX12 357 mX12_goesOn := ⟨List.mem_of_getElem? (i := 2203) (by decide +kernel), List.mem_of_getElem? (i := 2205) (by decide +kernel), List.mem_of_getElem? (i := 95) (by decide +kernel), List.mem_of_getElem? (i := 137) (by decide +kernel), List.mem_of_getElem? (i := 2206) (by decide +kernel)⟩
theorem wf_X12_hours_3 : tw_wf mX12_hours 3 70 := Or.inl rfl
set_option maxRecDepth 20000 in
theorem K_X12_hours {g : tw_Gx} (Q : tw_Rs → tw_Mem → Prop) (a0 : Nat) (a1 : Int32) : tw_Kt g mX12_hours 13 0 0 [.ref a0, .int a1] Q (f_X12_hours a0 a1 (fun v => Q (.inl (some (.int v))))) := by
  refine tw_mkK (L := [some (.ref a0), some (.int a1)]) mo_X12_hours dk_X12_hours rfl (Nat.le_of_ble_eq_true rfl) rfl ?_
  unfold f_X12_hours
  refine tw_aload_n (k := 0) rfl rfl ?_
  refine tw_iconst (k := 1) (0 : Int32) rfl (by decide) ?_
  refine tw_putI (k := 2) rfl fl_RX12_3 wf_X12_hours_3 (by decide +kernel) ?_
  refine tw_aload_n (k := 3) rfl rfl ?_
  refine tw_iload_n (k := 4) rfl rfl ?_
  refine tw_iconst (k := 5) (1 : Int32) rfl (by decide) ?_
  refine tw_bipush (k := 6) (120 : Int32) rfl (by decide) ?_
  refine tw_callS (k := 7) (d' := 1) (mc' := 0) (ms' := 0) tw_cI tw_cIi [.int a1, .int (1 : Int32), .int (120 : Int32)] rfl rfl ws_RX12_76_X12_in mo_X12_in rfl (fun Q9 => K_X12_in Q9 a1 (1 : Int32) (120 : Int32)) (by omega) (by decide) (by decide) (Nat.le_of_ble_eq_true rfl) (fun x1 => ?_)
  refine tw_join 21 (fun s3 => [some (.ref a0), some (.int a1)]) (fun s3 => .int s3 :: .ref a0 :: []) 0 0 (fun s3 => ?_) (fun j2 g2 => ?_)
  · refine tw_iconst (k := 12) (1 : Int32) rfl (by decide) ?_
    refine tw_callV (k := 13) (d' := 1) (mc' := 0) (ms' := 0) tw_cI tw_cIi [.int s3, .int (1 : Int32)] rfl rfl wv_RX12_240_X12_throwsIf mo_X12_throwsIf (t := 11) rfl rfl rfl (fun Q9 => K_X12_throwsIf Q9 a0 s3 (1 : Int32)) (by omega) (by decide) (by decide) (Nat.le_of_ble_eq_true rfl) (fun x4 => ?_)
    refine tw_if_eq (k := 14) 30 rfl (by decide) ?_ ?_
    · refine tw_aload_n (k := 17) rfl rfl ?_
      refine tw_callV (k := 18) (d' := 1) (mc' := 0) (ms' := 0) tw_cU tw_cUi [] rfl rfl wv_RX12_324_X12_remembers mo_X12_remembers (t := 11) rfl rfl rfl (fun Q9 => K_X12_remembers Q9 a0) (by omega) (by decide) (by decide) (Nat.le_of_ble_eq_true rfl) (fun u5 => ?_)
      refine tw_aload_n (k := 19) rfl rfl ?_
      refine tw_iload_n (k := 20) rfl rfl ?_
      refine tw_iconst (k := 21) (0 : Int32) rfl (by decide) ?_
      refine tw_callV (k := 22) (d' := 12) (mc' := 0) (ms' := 0) tw_cI tw_cIi [.int a1, .int (0 : Int32)] rfl rfl wv_RX12_357_X12_goesOn mo_X12_goesOn (t := 11) rfl rfl rfl (fun Q9 => K_X12_goesOn Q9 a0 a1 (0 : Int32)) (by omega) (by decide) (by decide) (Nat.le_of_ble_eq_true rfl) (fun x6 => ?_)
      exact tw_ireturn (k := 23) rfl rfl (by decide) (by decide)
    · refine tw_iconst (k := 15) (0 : Int32) rfl (by decide) ?_
      exact tw_ireturn (k := 16) rfl rfl (by decide) (by decide)
  · refine tw_if_ne (k := 8) 20 rfl (by decide) ?_ ?_
    · refine tw_iconst (k := 11) (0 : Int32) rfl (by decide) ?_
      exact g2 (0 : Int32)
    · refine tw_iconst (k := 9) (1 : Int32) rfl (by decide) ?_
      refine tw_goto (k := 10) 21 rfl (by decide) ?_
      exact g2 (1 : Int32)
def mX12_noAhead : tw_MD := (yX12_noAhead, cX12_noAhead, 1, (some FieldType.boolean), [(0, .iload_n 0, 1, 1), (1, .iconst 0, 1, 2), (2, .bipush 100, 2, 4), (4, .invokestatic 76, 3, 7), (7, .ifCond .ne 7, 3, 10), (10, .iconst 1, 1, 11), (11, .goto 4, 3, 14), (14, .iconst 0, 1, 15), (15, .ireturn, 1, 16)], [])
theorem mo_X12_noAhead : tw_mok mX12_noAhead 1 := ⟨plainFor_of_name (by decide +kernel), by decide +kernel, by decide +kernel, by decide +kernel, by decide +kernel⟩
theorem dk_X12_noAhead : tw_dk mX12_noAhead := by unfold tw_dk; decide +kernel
set_option maxRecDepth 20000 in
theorem K_X12_noAhead {g : tw_Gx} (Q : tw_Rs → tw_Mem → Prop) (a0 : Int32) : tw_Kt g mX12_noAhead 2 0 0 [.int a0] Q (f_X12_noAhead a0 (fun v => Q (.inl (some (.int v))))) := by
  refine tw_mkK (L := [some (.int a0)]) mo_X12_noAhead dk_X12_noAhead rfl (Nat.le_of_ble_eq_true rfl) rfl ?_
  unfold f_X12_noAhead
  refine tw_iload_n (k := 0) rfl rfl ?_
  refine tw_iconst (k := 1) (0 : Int32) rfl (by decide) ?_
  refine tw_bipush (k := 2) (100 : Int32) rfl (by decide) ?_
  refine tw_callS (k := 3) (d' := 1) (mc' := 0) (ms' := 0) tw_cI tw_cIi [.int a0, .int (0 : Int32), .int (100 : Int32)] rfl rfl ws_RX12_76_X12_in mo_X12_in rfl (fun Q9 => K_X12_in Q9 a0 (0 : Int32) (100 : Int32)) (by omega) (by decide) (by decide) (Nat.le_of_ble_eq_true rfl) (fun x1 => ?_)
  refine tw_if_ne (k := 4) 14 rfl (by decide) ?_ ?_
  · refine tw_iconst (k := 7) (0 : Int32) rfl (by decide) ?_
    exact tw_zreturn (k := 8) rfl rfl (by decide) (by decide)
  · refine tw_iconst (k := 5) (1 : Int32) rfl (by decide) ?_
    refine tw_goto (k := 6) 15 rfl (by decide) ?_
    exact tw_zreturn (k := 8) rfl rfl (by decide) (by decide)
def mX12_chimes : tw_MD := (yX12_chimes, cX12_chimes, 3, (some FieldType.int), [(0, .aload_n 0, 1, 1), (1, .iconst 0, 1, 2), (2, .putfield 3, 3, 5), (5, .aload_n 0, 1, 6), (6, .iload_n 1, 1, 7), (7, .invokestatic 361, 3, 10), (10, .iconst 1, 1, 11), (11, .invokevirtual 240, 3, 14), (14, .ifCond .eq 5, 3, 17), (17, .iconst 0, 1, 18), (18, .ireturn, 1, 19), (19, .aload_n 0, 1, 20), (20, .invokevirtual 364, 3, 23), (23, .aload_n 0, 1, 24), (24, .iload_n 1, 1, 25), (25, .iconst 1, 1, 26), (26, .invokevirtual 357, 3, 29), (29, .istore_n 2, 1, 30), (30, .aload_n 0, 1, 31), (31, .invokevirtual 367, 3, 34), (34, .iload_n 2, 1, 35), (35, .ireturn, 1, 36)], [])
theorem mo_X12_chimes : tw_mok mX12_chimes 1 := ⟨plainFor_of_name (by decide +kernel), by decide +kernel, by decide +kernel, by decide +kernel, by decide +kernel⟩
theorem dk_X12_chimes : tw_dk mX12_chimes := by unfold tw_dk; decide +kernel
theorem wv_RX12_367_X12_bringsBack : tw_wV RX12 367 mX12_bringsBack := ⟨List.mem_of_getElem? (i := 2250) (by decide +kernel), List.mem_of_getElem? (i := 2252) (by decide +kernel), List.mem_of_getElem? (i := 104) (by decide +kernel), List.mem_of_getElem? (i := 137) (by decide +kernel), List.mem_of_getElem? (i := 2253) (by decide +kernel)⟩
theorem wv_RX12_364_X12_keepsAll : tw_wV RX12 364 mX12_keepsAll := ⟨List.mem_of_getElem? (i := 2246) (by decide +kernel), List.mem_of_getElem? (i := 2248) (by decide +kernel), List.mem_of_getElem? (i := 103) (by decide +kernel), List.mem_of_getElem? (i := 137) (by decide +kernel), List.mem_of_getElem? (i := 2249) (by decide +kernel)⟩
theorem ws_RX12_361_X12_noAhead : tw_wS RX12 361 mX12_noAhead := ⟨List.mem_of_getElem? (i := 2243) (by decide +kernel), List.mem_of_getElem? (i := 2244) (by decide +kernel), List.mem_of_getElem? (i := 137) (by decide +kernel), List.mem_of_getElem? (i := 2245) (by decide +kernel)⟩
theorem wf_X12_chimes_3 : tw_wf mX12_chimes 3 70 := Or.inl rfl
set_option maxRecDepth 20000 in
theorem K_X12_chimes {g : tw_Gx} (Q : tw_Rs → tw_Mem → Prop) (a0 : Nat) (a1 : Int32) : tw_Kt g mX12_chimes 13 0 0 [.ref a0, .int a1] Q (f_X12_chimes a0 a1 (fun v => Q (.inl (some (.int v))))) := by
  refine tw_mkK (L := [some (.ref a0), some (.int a1), none]) mo_X12_chimes dk_X12_chimes rfl (Nat.le_of_ble_eq_true rfl) rfl ?_
  unfold f_X12_chimes
  refine tw_aload_n (k := 0) rfl rfl ?_
  refine tw_iconst (k := 1) (0 : Int32) rfl (by decide) ?_
  refine tw_putI (k := 2) rfl fl_RX12_3 wf_X12_chimes_3 (by decide +kernel) ?_
  refine tw_aload_n (k := 3) rfl rfl ?_
  refine tw_iload_n (k := 4) rfl rfl ?_
  refine tw_callS (k := 5) (d' := 2) (mc' := 0) (ms' := 0) tw_cI tw_cIi [.int a1] rfl rfl ws_RX12_361_X12_noAhead mo_X12_noAhead rfl (fun Q9 => K_X12_noAhead Q9 a1) (by omega) (by decide) (by decide) (Nat.le_of_ble_eq_true rfl) (fun x1 => ?_)
  refine tw_iconst (k := 6) (1 : Int32) rfl (by decide) ?_
  refine tw_callV (k := 7) (d' := 1) (mc' := 0) (ms' := 0) tw_cI tw_cIi [.int x1, .int (1 : Int32)] rfl rfl wv_RX12_240_X12_throwsIf mo_X12_throwsIf (t := 11) rfl rfl rfl (fun Q9 => K_X12_throwsIf Q9 a0 x1 (1 : Int32)) (by omega) (by decide) (by decide) (Nat.le_of_ble_eq_true rfl) (fun x2 => ?_)
  refine tw_if_eq (k := 8) 19 rfl (by decide) ?_ ?_
  · refine tw_aload_n (k := 11) rfl rfl ?_
    refine tw_callV (k := 12) (d' := 1) (mc' := 0) (ms' := 0) tw_cU tw_cUi [] rfl rfl wv_RX12_364_X12_keepsAll mo_X12_keepsAll (t := 11) rfl rfl rfl (fun Q9 => K_X12_keepsAll Q9 a0) (by omega) (by decide) (by decide) (Nat.le_of_ble_eq_true rfl) (fun u3 => ?_)
    refine tw_aload_n (k := 13) rfl rfl ?_
    refine tw_iload_n (k := 14) rfl rfl ?_
    refine tw_iconst (k := 15) (1 : Int32) rfl (by decide) ?_
    refine tw_callV (k := 16) (d' := 12) (mc' := 0) (ms' := 0) tw_cI tw_cIi [.int a1, .int (1 : Int32)] rfl rfl wv_RX12_357_X12_goesOn mo_X12_goesOn (t := 11) rfl rfl rfl (fun Q9 => K_X12_goesOn Q9 a0 a1 (1 : Int32)) (by omega) (by decide) (by decide) (Nat.le_of_ble_eq_true rfl) (fun x4 => ?_)
    refine tw_ist_n (k := 17) [some (.ref a0), some (.int a1), some (.int x4)] rfl (Nat.le_of_ble_eq_true rfl) rfl rfl ?_
    refine tw_aload_n (k := 18) rfl rfl ?_
    refine tw_callV (k := 19) (d' := 1) (mc' := 0) (ms' := 0) tw_cU tw_cUi [] rfl rfl wv_RX12_367_X12_bringsBack mo_X12_bringsBack (t := 11) rfl rfl rfl (fun Q9 => K_X12_bringsBack Q9 a0) (by omega) (by decide) (by decide) (Nat.le_of_ble_eq_true rfl) (fun u5 => ?_)
    refine tw_iload_n (k := 20) rfl rfl ?_
    exact tw_ireturn (k := 21) rfl rfl (by decide) (by decide)
  · refine tw_iconst (k := 9) (0 : Int32) rfl (by decide) ?_
    exact tw_ireturn (k := 10) rfl rfl (by decide) (by decide)
def mX12_ahead : tw_MD := (yX12_ahead, cX12_ahead, 5, (some FieldType.int), [(0, .aload_n 0, 1, 1), (1, .iconst 0, 1, 2), (2, .putfield 3, 3, 5), (5, .aload_n 0, 1, 6), (6, .aload_n 0, 1, 7), (7, .iload_n 1, 1, 8), (8, .invokevirtual 288, 3, 11), (11, .ifCond .ne 11, 3, 14), (14, .aload_n 0, 1, 15), (15, .iload_n 2, 1, 16), (16, .invokevirtual 288, 3, 19), (19, .ifCond .eq 7, 3, 22), (22, .iconst 1, 1, 23), (23, .goto 4, 3, 26), (26, .iconst 0, 1, 27), (27, .iconst 1, 1, 28), (28, .invokevirtual 240, 3, 31), (31, .ifCond .ne 28, 3, 34), (34, .aload_n 0, 1, 35), (35, .iload_n 1, 1, 36), (36, .iload_n 2, 1, 37), (37, .if_icmp .eq 10, 3, 40), (40, .iload_n 3, 1, 41), (41, .invokestatic 361, 3, 44), (44, .ifCond .eq 7, 3, 47), (47, .iconst 1, 1, 48), (48, .goto 4, 3, 51), (51, .iconst 0, 1, 52), (52, .iconst 2, 1, 53), (53, .invokevirtual 240, 3, 56), (56, .ifCond .eq 5, 3, 59), (59, .iconst 0, 1, 60), (60, .ireturn, 1, 61), (61, .aload_n 0, 1, 62), (62, .invokevirtual 364, 3, 65), (65, .aload_n 0, 1, 66), (66, .iload_n 3, 1, 67), (67, .iconst 1, 1, 68), (68, .invokevirtual 357, 3, 71), (71, .pop, 1, 72), (72, .aload_n 0, 1, 73), (73, .iload_n 1, 1, 74), (74, .iload_n 2, 1, 75), (75, .invokevirtual 243, 3, 78), (78, .istore 4, 2, 80), (80, .aload_n 0, 1, 81), (81, .invokevirtual 367, 3, 84), (84, .iload 4, 2, 86), (86, .ireturn, 1, 87)], [])
theorem mo_X12_ahead : tw_mok mX12_ahead 3 := ⟨plainFor_of_name (by decide +kernel), by decide +kernel, by decide +kernel, by decide +kernel, by decide +kernel⟩
theorem dk_X12_ahead : tw_dk mX12_ahead := by unfold tw_dk; decide +kernel
theorem wf_X12_ahead_3 : tw_wf mX12_ahead 3 70 := Or.inl rfl
set_option maxRecDepth 20000 in
theorem K_X12_ahead {g : tw_Gx} (Q : tw_Rs → tw_Mem → Prop) (a0 : Nat) (a1 : Int32) (a2 : Int32) (a3 : Int32) : tw_Kt g mX12_ahead 13 0 0 [.ref a0, .int a1, .int a2, .int a3] Q (f_X12_ahead a0 a1 a2 a3 (fun v => Q (.inl (some (.int v))))) := by
  refine tw_mkK (L := [some (.ref a0), some (.int a1), some (.int a2), some (.int a3), none]) mo_X12_ahead dk_X12_ahead rfl (Nat.le_of_ble_eq_true rfl) rfl ?_
  unfold f_X12_ahead
  refine tw_aload_n (k := 0) rfl rfl ?_
  refine tw_iconst (k := 1) (0 : Int32) rfl (by decide) ?_
  refine tw_putI (k := 2) rfl fl_RX12_3 wf_X12_ahead_3 (by decide +kernel) ?_
  refine tw_aload_n (k := 3) rfl rfl ?_
  refine tw_aload_n (k := 4) rfl rfl ?_
  refine tw_iload_n (k := 5) rfl rfl ?_
  refine tw_callV (k := 6) (d' := 2) (mc' := 0) (ms' := 0) tw_cI tw_cIi [.int a1] rfl rfl wv_RX12_288_X12_nobody mo_X12_nobody (t := 11) rfl rfl rfl (fun Q9 => K_X12_nobody Q9 a0 a1) (by omega) (by decide) (by decide) (Nat.le_of_ble_eq_true rfl) (fun x1 => ?_)
  refine tw_join 27 (fun s3 => [some (.ref a0), some (.int a1), some (.int a2), some (.int a3), none]) (fun s3 => .int s3 :: .ref a0 :: []) 0 0 (fun s3 => ?_) (fun j2 g2 => ?_)
  · refine tw_iconst (k := 15) (1 : Int32) rfl (by decide) ?_
    refine tw_callV (k := 16) (d' := 1) (mc' := 0) (ms' := 0) tw_cI tw_cIi [.int s3, .int (1 : Int32)] rfl rfl wv_RX12_240_X12_throwsIf mo_X12_throwsIf (t := 11) rfl rfl rfl (fun Q9 => K_X12_throwsIf Q9 a0 s3 (1 : Int32)) (by omega) (by decide) (by decide) (Nat.le_of_ble_eq_true rfl) (fun x4 => ?_)
    refine tw_if_ne (k := 17) 59 rfl (by decide) ?_ ?_
    · refine tw_iconst (k := 31) (0 : Int32) rfl (by decide) ?_
      exact tw_ireturn (k := 32) rfl rfl (by decide) (by decide)
    · refine tw_aload_n (k := 18) rfl rfl ?_
      refine tw_iload_n (k := 19) rfl rfl ?_
      refine tw_iload_n (k := 20) rfl rfl ?_
      refine tw_join 52 (fun s6 => [some (.ref a0), some (.int a1), some (.int a2), some (.int a3), none]) (fun s6 => .int s6 :: .ref a0 :: []) 0 0 (fun s6 => ?_) (fun j5 g5 => ?_)
      · refine tw_iconst (k := 28) (2 : Int32) rfl (by decide) ?_
        refine tw_callV (k := 29) (d' := 1) (mc' := 0) (ms' := 0) tw_cI tw_cIi [.int s6, .int (2 : Int32)] rfl rfl wv_RX12_240_X12_throwsIf mo_X12_throwsIf (t := 11) rfl rfl rfl (fun Q9 => K_X12_throwsIf Q9 a0 s6 (2 : Int32)) (by omega) (by decide) (by decide) (Nat.le_of_ble_eq_true rfl) (fun x7 => ?_)
        refine tw_if_eq (k := 30) 61 rfl (by decide) ?_ ?_
        · refine tw_aload_n (k := 33) rfl rfl ?_
          refine tw_callV (k := 34) (d' := 1) (mc' := 0) (ms' := 0) tw_cU tw_cUi [] rfl rfl wv_RX12_364_X12_keepsAll mo_X12_keepsAll (t := 11) rfl rfl rfl (fun Q9 => K_X12_keepsAll Q9 a0) (by omega) (by decide) (by decide) (Nat.le_of_ble_eq_true rfl) (fun u8 => ?_)
          refine tw_aload_n (k := 35) rfl rfl ?_
          refine tw_iload_n (k := 36) rfl rfl ?_
          refine tw_iconst (k := 37) (1 : Int32) rfl (by decide) ?_
          refine tw_callV (k := 38) (d' := 12) (mc' := 0) (ms' := 0) tw_cI tw_cIi [.int a3, .int (1 : Int32)] rfl rfl wv_RX12_357_X12_goesOn mo_X12_goesOn (t := 11) rfl rfl rfl (fun Q9 => K_X12_goesOn Q9 a0 a3 (1 : Int32)) (by omega) (by decide) (by decide) (Nat.le_of_ble_eq_true rfl) (fun x9 => ?_)
          refine tw_pop (k := 39) rfl rfl ?_
          refine tw_aload_n (k := 40) rfl rfl ?_
          refine tw_iload_n (k := 41) rfl rfl ?_
          refine tw_iload_n (k := 42) rfl rfl ?_
          refine tw_callV (k := 43) (d' := 3) (mc' := 0) (ms' := 0) tw_cI tw_cIi [.int a1, .int a2] rfl rfl wv_RX12_243_X12_guessOf mo_X12_guessOf (t := 11) rfl rfl rfl (fun Q9 => K_X12_guessOf Q9 a0 a1 a2) (by omega) (by decide) (by decide) (Nat.le_of_ble_eq_true rfl) (fun x10 => ?_)
          refine tw_ist (k := 44) [some (.ref a0), some (.int a1), some (.int a2), some (.int a3), some (.int x10)] rfl (Nat.le_of_ble_eq_true rfl) rfl rfl ?_
          refine tw_aload_n (k := 45) rfl rfl ?_
          refine tw_callV (k := 46) (d' := 1) (mc' := 0) (ms' := 0) tw_cU tw_cUi [] rfl rfl wv_RX12_367_X12_bringsBack mo_X12_bringsBack (t := 11) rfl rfl rfl (fun Q9 => K_X12_bringsBack Q9 a0) (by omega) (by decide) (by decide) (Nat.le_of_ble_eq_true rfl) (fun u11 => ?_)
          refine tw_iload (k := 47) rfl rfl ?_
          exact tw_ireturn (k := 48) rfl rfl (by decide) (by decide)
        · refine tw_iconst (k := 31) (0 : Int32) rfl (by decide) ?_
          exact tw_ireturn (k := 32) rfl rfl (by decide) (by decide)
      · refine tw_join 47 (fun s13 => [some (.ref a0), some (.int a1), some (.int a2), some (.int a3), none]) (fun s13 => .ref a0 :: []) 0 0 (fun s13 => ?_) (fun j12 g12 => ?_)
        · refine tw_iconst (k := 25) (1 : Int32) rfl (by decide) ?_
          refine tw_goto (k := 26) 52 rfl (by decide) ?_
          exact g5 (1 : Int32)
        · refine tw_icmp_eq (k := 21) 47 rfl (by decide) ?_ ?_
          · exact g12 ()
          · refine tw_iload_n (k := 22) rfl rfl ?_
            refine tw_callS (k := 23) (d' := 2) (mc' := 0) (ms' := 0) tw_cI tw_cIi [.int a3] rfl rfl ws_RX12_361_X12_noAhead mo_X12_noAhead rfl (fun Q9 => K_X12_noAhead Q9 a3) (by omega) (by decide) (by decide) (Nat.le_of_ble_eq_true rfl) (fun x14 => ?_)
            refine tw_if_eq (k := 24) 51 rfl (by decide) ?_ ?_
            · refine tw_iconst (k := 27) (0 : Int32) rfl (by decide) ?_
              exact g5 (0 : Int32)
            · exact g12 ()
  · refine tw_join 22 (fun s16 => [some (.ref a0), some (.int a1), some (.int a2), some (.int a3), none]) (fun s16 => .ref a0 :: []) 0 0 (fun s16 => ?_) (fun j15 g15 => ?_)
    · refine tw_iconst (k := 12) (1 : Int32) rfl (by decide) ?_
      refine tw_goto (k := 13) 27 rfl (by decide) ?_
      exact g2 (1 : Int32)
    · refine tw_if_ne (k := 7) 22 rfl (by decide) ?_ ?_
      · exact g15 ()
      · refine tw_aload_n (k := 8) rfl rfl ?_
        refine tw_iload_n (k := 9) rfl rfl ?_
        refine tw_callV (k := 10) (d' := 2) (mc' := 0) (ms' := 0) tw_cI tw_cIi [.int a2] rfl rfl wv_RX12_288_X12_nobody mo_X12_nobody (t := 11) rfl rfl rfl (fun Q9 => K_X12_nobody Q9 a0 a2) (by omega) (by decide) (by decide) (Nat.le_of_ble_eq_true rfl) (fun x17 => ?_)
        refine tw_if_eq (k := 11) 26 rfl (by decide) ?_ ?_
        · refine tw_iconst (k := 14) (0 : Int32) rfl (by decide) ?_
          exact g2 (0 : Int32)
        · exact g15 ()
