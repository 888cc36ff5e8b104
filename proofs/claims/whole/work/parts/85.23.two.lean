def mX10_init : tw_MD := (yX10_init, cX10_init, 1, none, [(0, .aload_n 0, 1, 1), (1, .invokespecial 3, 3, 4), (4, .aload_n 0, 1, 5), (5, .bipush 11, 2, 7), (7, .newarray .int, 2, 9), (9, .putfield 11, 3, 12), (12, .return_, 1, 13)], [])
theorem mo_X10_init : tw_mok mX10_init 0 := ⟨plainFor_of_name (by decide +kernel), by decide +kernel, by decide +kernel, by decide +kernel, by decide +kernel⟩
theorem dk_X10_init : tw_dk mX10_init := by unfold tw_dk; decide +kernel
theorem km_RX10_3 : Cond.methodLink RX10 3 Lib.objectInit ∈ lw_tbl := List.mem_of_getElem? (i := 358) (by decide +kernel)
theorem wf_X10_init_11 : tw_wf mX10_init 11 54 := Or.inr ⟨by decide +kernel, by decide +kernel, List.mem_of_getElem? (i := 359) (by decide +kernel)⟩
set_option maxRecDepth 20000 in
theorem K_X10_init {g : tw_Gx} (Q : tw_Rs → tw_Mem → Prop) (a0 : Nat) : tw_Kt g mX10_init 1 1 11 [.ref a0] Q (f_X10_init a0 (fun v => Q (.inl none))) := by
  refine tw_mkK (L := [some (.ref a0)]) mo_X10_init dk_X10_init rfl (Nat.le_of_ble_eq_true rfl) rfl ?_
  unfold f_X10_init
  refine tw_aload_n (k := 0) rfl rfl ?_
  refine tw_objInit (k := 1) rfl km_RX10_3 koi koc (by omega) (Nat.le_of_ble_eq_true rfl) ?_
  refine tw_aload_n (k := 2) rfl rfl ?_
  refine tw_bipush (k := 3) (11 : Int32) rfl (by decide) ?_
  refine tw_newI (k := 4) 11 rfl ka_int (by decide) (by decide) (by decide) (fun b1 => ?_)
  refine tw_putR (k := 5) (ty := (.array .int)) rfl fl_RX10_11 wf_X10_init_11 (by decide +kernel) rfl rfl ?_
  exact tw_return (k := 6) rfl rfl (by decide) (by decide)
def mX10_see : tw_MD := (yX10_see, cX10_see, 4, none, [(0, .aload_n 0, 1, 1), (1, .getfield 11, 3, 4), (4, .iconst 0, 1, 5), (5, .iload_n 2, 1, 6), (6, .iastore, 1, 7), (7, .aload_n 0, 1, 8), (8, .getfield 11, 3, 11), (11, .iconst 1, 1, 12), (12, .iload_n 3, 1, 13), (13, .iastore, 1, 14), (14, .aload_n 0, 1, 15), (15, .getfield 11, 3, 18), (18, .iconst 2, 1, 19), (19, .aload_n 1, 1, 20), (20, .iload_n 2, 1, 21), (21, .iload_n 3, 1, 22), (22, .invokevirtual 15, 3, 25), (25, .iastore, 1, 26), (26, .aload_n 0, 1, 27), (27, .getfield 11, 3, 30), (30, .iconst 3, 1, 31), (31, .aload_n 1, 1, 32), (32, .iload_n 3, 1, 33), (33, .iload_n 2, 1, 34), (34, .invokevirtual 15, 3, 37), (37, .iastore, 1, 38), (38, .aload_n 0, 1, 39), (39, .getfield 11, 3, 42), (42, .iconst 4, 1, 43), (43, .aload_n 1, 1, 44), (44, .iload_n 2, 1, 45), (45, .invokevirtual 21, 3, 48), (48, .ifCond .eq 7, 3, 51), (51, .iconst 1, 1, 52), (52, .goto 4, 3, 55), (55, .iconst 0, 1, 56), (56, .iastore, 1, 57), (57, .aload_n 0, 1, 58), (58, .getfield 11, 3, 61), (61, .iconst 5, 1, 62), (62, .aload_n 1, 1, 63), (63, .iload_n 3, 1, 64), (64, .invokevirtual 21, 3, 67), (67, .ifCond .eq 7, 3, 70), (70, .iconst 1, 1, 71), (71, .goto 4, 3, 74), (74, .iconst 0, 1, 75), (75, .iastore, 1, 76), (76, .aload_n 0, 1, 77), (77, .getfield 11, 3, 80), (80, .bipush 6, 2, 82), (82, .aload_n 1, 1, 83), (83, .iload_n 2, 1, 84), (84, .iload_n 3, 1, 85), (85, .invokevirtual 25, 3, 88), (88, .iastore, 1, 89), (89, .aload_n 0, 1, 90), (90, .getfield 11, 3, 93), (93, .bipush 7, 2, 95), (95, .aload_n 1, 1, 96), (96, .getfield 28, 3, 99), (99, .iastore, 1, 100), (100, .aload_n 0, 1, 101), (101, .getfield 11, 3, 104), (104, .bipush 8, 2, 106), (106, .aload_n 1, 1, 107), (107, .getfield 32, 3, 110), (110, .iastore, 1, 111), (111, .aload_n 0, 1, 112), (112, .getfield 11, 3, 115), (115, .bipush 9, 2, 117), (117, .aload_n 1, 1, 118), (118, .iload_n 2, 1, 119), (119, .iload_n 3, 1, 120), (120, .invokevirtual 35, 3, 123), (123, .ifCond .eq 7, 3, 126), (126, .iconst 1, 1, 127), (127, .goto 4, 3, 130), (130, .iconst 0, 1, 131), (131, .iastore, 1, 132), (132, .aload_n 0, 1, 133), (133, .getfield 11, 3, 136), (136, .bipush 10, 2, 138), (138, .iconst 0, 1, 139), (139, .iastore, 1, 140), (140, .aload_n 0, 1, 141), (141, .aload_n 1, 1, 142), (142, .getfield 39, 3, 145), (145, .putfield 42, 3, 148), (148, .return_, 1, 149)], [])
theorem mo_X10_see : tw_mok mX10_see 3 := ⟨plainFor_of_name (by decide +kernel), by decide +kernel, by decide +kernel, by decide +kernel, by decide +kernel⟩
theorem dk_X10_see : tw_dk mX10_see := by unfold tw_dk; decide +kernel
theorem fl_RX10_28 : tw_fl RX10 28 48 := Or.inr ⟨"TwinRopes", List.mem_of_getElem? (i := 215) (by decide +kernel)⟩
theorem fl_RX10_32 : tw_fl RX10 32 49 := Or.inr ⟨"TwinRopes", List.mem_of_getElem? (i := 219) (by decide +kernel)⟩
theorem fl_RX10_39 : tw_fl RX10 39 50 := Or.inr ⟨"TwinRopes", List.mem_of_getElem? (i := 224) (by decide +kernel)⟩
theorem fl_RX10_42 : tw_fl RX10 42 55 := Or.inl (List.mem_of_getElem? (i := 360) (by decide +kernel))
theorem wf_X10_see_42 : tw_wf mX10_see 42 55 := Or.inl rfl
theorem wv_RX10_35_X8_areNear : tw_wV RX10 35 mX8_areNear := ⟨List.mem_of_getElem? (i := 562) (by decide +kernel), List.mem_of_getElem? (i := 563) (by decide +kernel), List.mem_of_getElem? (i := 564) (by decide +kernel), List.mem_of_getElem? (i := 126) (by decide +kernel), List.mem_of_getElem? (i := 565) (by decide +kernel)⟩
theorem wv_RX10_25_X8_rungOf : tw_wV RX10 25 mX8_rungOf := ⟨List.mem_of_getElem? (i := 558) (by decide +kernel), List.mem_of_getElem? (i := 559) (by decide +kernel), List.mem_of_getElem? (i := 560) (by decide +kernel), List.mem_of_getElem? (i := 126) (by decide +kernel), List.mem_of_getElem? (i := 561) (by decide +kernel)⟩
theorem wv_RX10_21_X8_isSworn : tw_wV RX10 21 mX8_isSworn := ⟨List.mem_of_getElem? (i := 550) (by decide +kernel), List.mem_of_getElem? (i := 551) (by decide +kernel), List.mem_of_getElem? (i := 552) (by decide +kernel), List.mem_of_getElem? (i := 126) (by decide +kernel), List.mem_of_getElem? (i := 553) (by decide +kernel)⟩
theorem wv_RX10_15_X8_guessOf : tw_wV RX10 15 mX8_guessOf := ⟨List.mem_of_getElem? (i := 543) (by decide +kernel), List.mem_of_getElem? (i := 544) (by decide +kernel), List.mem_of_getElem? (i := 545) (by decide +kernel), List.mem_of_getElem? (i := 126) (by decide +kernel), List.mem_of_getElem? (i := 546) (by decide +kernel)⟩
set_option maxRecDepth 20000 in
theorem K_X10_see {g : tw_Gx} (Q : tw_Rs → tw_Mem → Prop) (a0 : Nat) (a1 : Nat) (a2 : Int32) (a3 : Int32) : tw_Kt g mX10_see 4 0 0 [.ref a0, .ref a1, .int a2, .int a3] Q (f_X10_see a0 a1 a2 a3 (fun v => Q (.inl none))) := by
  refine tw_mkK (L := [some (.ref a0), some (.ref a1), some (.int a2), some (.int a3)]) mo_X10_see dk_X10_see rfl (Nat.le_of_ble_eq_true rfl) rfl ?_
  unfold f_X10_see
  refine tw_aload_n (k := 0) rfl rfl ?_
  refine tw_getR (k := 1) rfl fl_RX10_11 (fun x1 => ?_)
  refine tw_iconst (k := 2) (0 : Int32) rfl (by decide) ?_
  refine tw_iload_n (k := 3) rfl rfl ?_
  refine tw_iastore (k := 4) rfl ?_
  refine tw_aload_n (k := 5) rfl rfl ?_
  refine tw_getR (k := 6) rfl fl_RX10_11 (fun x2 => ?_)
  refine tw_iconst (k := 7) (1 : Int32) rfl (by decide) ?_
  refine tw_iload_n (k := 8) rfl rfl ?_
  refine tw_iastore (k := 9) rfl ?_
  refine tw_aload_n (k := 10) rfl rfl ?_
  refine tw_getR (k := 11) rfl fl_RX10_11 (fun x3 => ?_)
  refine tw_iconst (k := 12) (2 : Int32) rfl (by decide) ?_
  refine tw_aload_n (k := 13) rfl rfl ?_
  refine tw_iload_n (k := 14) rfl rfl ?_
  refine tw_iload_n (k := 15) rfl rfl ?_
  refine tw_callV (k := 16) (d' := 2) (mc' := 0) (ms' := 0) tw_cI tw_cIi [.int a2, .int a3] rfl rfl wv_RX10_15_X8_guessOf mo_X8_guessOf (t := 7) rfl rfl rfl (fun Q9 => K_X8_guessOf Q9 a1 a2 a3) (by omega) (by decide) (by decide) (Nat.le_of_ble_eq_true rfl) (fun x4 => ?_)
  refine tw_iastore (k := 17) rfl ?_
  refine tw_aload_n (k := 18) rfl rfl ?_
  refine tw_getR (k := 19) rfl fl_RX10_11 (fun x5 => ?_)
  refine tw_iconst (k := 20) (3 : Int32) rfl (by decide) ?_
  refine tw_aload_n (k := 21) rfl rfl ?_
  refine tw_iload_n (k := 22) rfl rfl ?_
  refine tw_iload_n (k := 23) rfl rfl ?_
  refine tw_callV (k := 24) (d' := 2) (mc' := 0) (ms' := 0) tw_cI tw_cIi [.int a3, .int a2] rfl rfl wv_RX10_15_X8_guessOf mo_X8_guessOf (t := 7) rfl rfl rfl (fun Q9 => K_X8_guessOf Q9 a1 a3 a2) (by omega) (by decide) (by decide) (Nat.le_of_ble_eq_true rfl) (fun x6 => ?_)
  refine tw_iastore (k := 25) rfl ?_
  refine tw_aload_n (k := 26) rfl rfl ?_
  refine tw_getR (k := 27) rfl fl_RX10_11 (fun x7 => ?_)
  refine tw_iconst (k := 28) (4 : Int32) rfl (by decide) ?_
  refine tw_aload_n (k := 29) rfl rfl ?_
  refine tw_iload_n (k := 30) rfl rfl ?_
  refine tw_callV (k := 31) (d' := 2) (mc' := 0) (ms' := 0) tw_cI tw_cIi [.int a2] rfl rfl wv_RX10_21_X8_isSworn mo_X8_isSworn (t := 7) rfl rfl rfl (fun Q9 => K_X8_isSworn Q9 a1 a2) (by omega) (by decide) (by decide) (Nat.le_of_ble_eq_true rfl) (fun x8 => ?_)
  refine tw_join 56 (fun s10 => [some (.ref a0), some (.ref a1), some (.int a2), some (.int a3)]) (fun s10 => .int s10 :: .int (4 : Int32) :: .ref x7 :: []) 0 0 (fun s10 => ?_) (fun j9 g9 => ?_)
  · refine tw_iastore (k := 36) rfl ?_
    refine tw_aload_n (k := 37) rfl rfl ?_
    refine tw_getR (k := 38) rfl fl_RX10_11 (fun x11 => ?_)
    refine tw_iconst (k := 39) (5 : Int32) rfl (by decide) ?_
    refine tw_aload_n (k := 40) rfl rfl ?_
    refine tw_iload_n (k := 41) rfl rfl ?_
    refine tw_callV (k := 42) (d' := 2) (mc' := 0) (ms' := 0) tw_cI tw_cIi [.int a3] rfl rfl wv_RX10_21_X8_isSworn mo_X8_isSworn (t := 7) rfl rfl rfl (fun Q9 => K_X8_isSworn Q9 a1 a3) (by omega) (by decide) (by decide) (Nat.le_of_ble_eq_true rfl) (fun x12 => ?_)
    refine tw_join 75 (fun s14 => [some (.ref a0), some (.ref a1), some (.int a2), some (.int a3)]) (fun s14 => .int s14 :: .int (5 : Int32) :: .ref x11 :: []) 0 0 (fun s14 => ?_) (fun j13 g13 => ?_)
    · refine tw_iastore (k := 47) rfl ?_
      refine tw_aload_n (k := 48) rfl rfl ?_
      refine tw_getR (k := 49) rfl fl_RX10_11 (fun x15 => ?_)
      refine tw_bipush (k := 50) (6 : Int32) rfl (by decide) ?_
      refine tw_aload_n (k := 51) rfl rfl ?_
      refine tw_iload_n (k := 52) rfl rfl ?_
      refine tw_iload_n (k := 53) rfl rfl ?_
      refine tw_callV (k := 54) (d' := 2) (mc' := 0) (ms' := 0) tw_cI tw_cIi [.int a2, .int a3] rfl rfl wv_RX10_25_X8_rungOf mo_X8_rungOf (t := 7) rfl rfl rfl (fun Q9 => K_X8_rungOf Q9 a1 a2 a3) (by omega) (by decide) (by decide) (Nat.le_of_ble_eq_true rfl) (fun x16 => ?_)
      refine tw_iastore (k := 55) rfl ?_
      refine tw_aload_n (k := 56) rfl rfl ?_
      refine tw_getR (k := 57) rfl fl_RX10_11 (fun x17 => ?_)
      refine tw_bipush (k := 58) (7 : Int32) rfl (by decide) ?_
      refine tw_aload_n (k := 59) rfl rfl ?_
      refine tw_getI (k := 60) rfl fl_RX10_28 (fun x18 => ?_)
      refine tw_iastore (k := 61) rfl ?_
      refine tw_aload_n (k := 62) rfl rfl ?_
      refine tw_getR (k := 63) rfl fl_RX10_11 (fun x19 => ?_)
      refine tw_bipush (k := 64) (8 : Int32) rfl (by decide) ?_
      refine tw_aload_n (k := 65) rfl rfl ?_
      refine tw_getI (k := 66) rfl fl_RX10_32 (fun x20 => ?_)
      refine tw_iastore (k := 67) rfl ?_
      refine tw_aload_n (k := 68) rfl rfl ?_
      refine tw_getR (k := 69) rfl fl_RX10_11 (fun x21 => ?_)
      refine tw_bipush (k := 70) (9 : Int32) rfl (by decide) ?_
      refine tw_aload_n (k := 71) rfl rfl ?_
      refine tw_iload_n (k := 72) rfl rfl ?_
      refine tw_iload_n (k := 73) rfl rfl ?_
      refine tw_callV (k := 74) (d' := 3) (mc' := 0) (ms' := 0) tw_cI tw_cIi [.int a2, .int a3] rfl rfl wv_RX10_35_X8_areNear mo_X8_areNear (t := 7) rfl rfl rfl (fun Q9 => K_X8_areNear Q9 a1 a2 a3) (by omega) (by decide) (by decide) (Nat.le_of_ble_eq_true rfl) (fun x22 => ?_)
      refine tw_join 131 (fun s24 => [some (.ref a0), some (.ref a1), some (.int a2), some (.int a3)]) (fun s24 => .int s24 :: .int (9 : Int32) :: .ref x21 :: []) 0 0 (fun s24 => ?_) (fun j23 g23 => ?_)
      · refine tw_iastore (k := 79) rfl ?_
        refine tw_aload_n (k := 80) rfl rfl ?_
        refine tw_getR (k := 81) rfl fl_RX10_11 (fun x25 => ?_)
        refine tw_bipush (k := 82) (10 : Int32) rfl (by decide) ?_
        refine tw_iconst (k := 83) (0 : Int32) rfl (by decide) ?_
        refine tw_iastore (k := 84) rfl ?_
        refine tw_aload_n (k := 85) rfl rfl ?_
        refine tw_aload_n (k := 86) rfl rfl ?_
        refine tw_getI (k := 87) rfl fl_RX10_39 (fun x26 => ?_)
        refine tw_putI (k := 88) rfl fl_RX10_42 wf_X10_see_42 (by decide +kernel) ?_
        exact tw_return (k := 89) rfl rfl (by decide) (by decide)
      · refine tw_if_eq (k := 75) 130 rfl (by decide) ?_ ?_
        · refine tw_iconst (k := 78) (0 : Int32) rfl (by decide) ?_
          exact g23 (0 : Int32)
        · refine tw_iconst (k := 76) (1 : Int32) rfl (by decide) ?_
          refine tw_goto (k := 77) 131 rfl (by decide) ?_
          exact g23 (1 : Int32)
    · refine tw_if_eq (k := 43) 74 rfl (by decide) ?_ ?_
      · refine tw_iconst (k := 46) (0 : Int32) rfl (by decide) ?_
        exact g13 (0 : Int32)
      · refine tw_iconst (k := 44) (1 : Int32) rfl (by decide) ?_
        refine tw_goto (k := 45) 75 rfl (by decide) ?_
        exact g13 (1 : Int32)
  · refine tw_if_eq (k := 32) 55 rfl (by decide) ?_ ?_
    · refine tw_iconst (k := 35) (0 : Int32) rfl (by decide) ?_
      exact g9 (0 : Int32)
    · refine tw_iconst (k := 33) (1 : Int32) rfl (by decide) ?_
      refine tw_goto (k := 34) 56 rfl (by decide) ?_
      exact g9 (1 : Int32)
def mX10_toneNow : tw_MD := (yX10_toneNow, cX10_toneNow, 1, (some FieldType.int), [(0, .aload_n 0, 1, 1), (1, .getfield 11, 3, 4), (4, .iconst 2, 1, 5), (5, .iaload, 1, 6), (6, .aload_n 0, 1, 7), (7, .getfield 11, 3, 10), (10, .iconst 3, 1, 11), (11, .iaload, 1, 12), (12, .aload_n 0, 1, 13), (13, .getfield 42, 3, 16), (16, .invokestatic 43, 3, 19), (19, .ireturn, 1, 20)], [])
theorem mo_X10_toneNow : tw_mok mX10_toneNow 0 := ⟨plainFor_of_name (by decide +kernel), by decide +kernel, by decide +kernel, by decide +kernel, by decide +kernel⟩
theorem dk_X10_toneNow : tw_dk mX10_toneNow := by unfold tw_dk; decide +kernel
theorem wn_RX10_43_X11_toneBy : tw_wSN RX10 43 mX11_toneBy "TwinRopes" := ⟨List.mem_of_getElem? (i := 578) (by decide +kernel), List.mem_of_getElem? (i := 579) (by decide +kernel), List.mem_of_getElem? (i := 124) (by decide +kernel), List.mem_of_getElem? (i := 580) (by decide +kernel)⟩
set_option maxRecDepth 20000 in
theorem K_X10_toneNow {g : tw_Gx} (Q : tw_Rs → tw_Mem → Prop) (a0 : Nat) : tw_Kt g mX10_toneNow 3 0 0 [.ref a0] Q (f_X10_toneNow a0 (fun v => Q (.inl (some (.int v))))) := by
  refine tw_mkK (L := [some (.ref a0)]) mo_X10_toneNow dk_X10_toneNow rfl (Nat.le_of_ble_eq_true rfl) rfl ?_
  unfold f_X10_toneNow
  refine tw_aload_n (k := 0) rfl rfl ?_
  refine tw_getR (k := 1) rfl fl_RX10_11 (fun x1 => ?_)
  refine tw_iconst (k := 2) (2 : Int32) rfl (by decide) ?_
  refine tw_iaload (k := 3) rfl (fun x2 => ?_)
  refine tw_aload_n (k := 4) rfl rfl ?_
  refine tw_getR (k := 5) rfl fl_RX10_11 (fun x3 => ?_)
  refine tw_iconst (k := 6) (3 : Int32) rfl (by decide) ?_
  refine tw_iaload (k := 7) rfl (fun x4 => ?_)
  refine tw_aload_n (k := 8) rfl rfl ?_
  refine tw_getI (k := 9) rfl fl_RX10_42 (fun x5 => ?_)
  refine tw_callSN (k := 10) (d' := 2) (mc' := 0) (ms' := 0) tw_cI tw_cIi [.int x2, .int x4, .int x5] rfl rfl wn_RX10_43_X11_toneBy mo_X11_toneBy rfl (fun Q9 => K_X11_toneBy Q9 x2 x4 x5) (by omega) (by decide) (by decide) (Nat.le_of_ble_eq_true rfl) (fun x6 => ?_)
  exact tw_ireturn (k := 11) rfl rfl (by decide) (by decide)
def mX0_joined : tw_MD := (yX0_joined, cX0_joined, 3, (some FieldType.int), [(0, .iload_n 0, 1, 1), (1, .tableswitch 61 16 19 #[31, 35, 46, 57], 31, 32), (32, .iload_n 1, 1, 33), (33, .iload_n 2, 1, 34), (34, .iadd, 1, 35), (35, .ireturn, 1, 36), (36, .iload_n 1, 1, 37), (37, .iload_n 2, 1, 38), (38, .if_icmp .ge 7, 3, 41), (41, .iconst 1, 1, 42), (42, .goto 4, 3, 45), (45, .iconst 0, 1, 46), (46, .ireturn, 1, 47), (47, .iload_n 1, 1, 48), (48, .iload_n 2, 1, 49), (49, .if_icmp .le 7, 3, 52), (52, .iconst 1, 1, 53), (53, .goto 4, 3, 56), (56, .iconst 0, 1, 57), (57, .ireturn, 1, 58), (58, .iload_n 1, 1, 59), (59, .iload_n 2, 1, 60), (60, .iand, 1, 61), (61, .ireturn, 1, 62), (62, .iload_n 1, 1, 63), (63, .iload_n 2, 1, 64), (64, .ior, 1, 65), (65, .ireturn, 1, 66)], [])
theorem mo_X0_joined : tw_mok mX0_joined 3 := ⟨plainFor_of_name (by decide +kernel), by decide +kernel, by decide +kernel, by decide +kernel, by decide +kernel⟩
theorem dk_X0_joined : tw_dk mX0_joined := by unfold tw_dk; decide +kernel
set_option maxRecDepth 20000 in
theorem K_X0_joined {g : tw_Gx} (Q : tw_Rs → tw_Mem → Prop) (a0 : Int32) (a1 : Int32) (a2 : Int32) : tw_Kt g mX0_joined 1 0 0 [.int a0, .int a1, .int a2] Q (f_X0_joined a0 a1 a2 (fun v => Q (.inl (some (.int v))))) := by
  refine tw_mkK (L := [some (.int a0), some (.int a1), some (.int a2)]) mo_X0_joined dk_X0_joined rfl (Nat.le_of_ble_eq_true rfl) rfl ?_
  unfold f_X0_joined
  refine tw_iload_n (k := 0) rfl rfl ?_
  refine tw_case ?_ (fun c1 => ?_)
  · refine tw_switch (k := 1) 32 rfl (by decide) (by decide) ?_
    refine tw_iload_n (k := 2) rfl rfl ?_
    refine tw_iload_n (k := 3) rfl rfl ?_
    refine tw_iadd (k := 4) rfl ?_
    exact tw_ireturn (k := 5) rfl rfl (by decide) (by decide)
  refine tw_case ?_ (fun c2 => ?_)
  · refine tw_switch (k := 1) 36 rfl (by decide) (by decide) ?_
    refine tw_iload_n (k := 6) rfl rfl ?_
    refine tw_iload_n (k := 7) rfl rfl ?_
    refine tw_icmp_ge (k := 8) 45 rfl (by decide) ?_ ?_
    · refine tw_iconst (k := 11) (0 : Int32) rfl (by decide) ?_
      exact tw_ireturn (k := 12) rfl rfl (by decide) (by decide)
    · refine tw_iconst (k := 9) (1 : Int32) rfl (by decide) ?_
      refine tw_goto (k := 10) 46 rfl (by decide) ?_
      exact tw_ireturn (k := 12) rfl rfl (by decide) (by decide)
  refine tw_case ?_ (fun c3 => ?_)
  · refine tw_switch (k := 1) 47 rfl (by decide) (by decide) ?_
    refine tw_iload_n (k := 13) rfl rfl ?_
    refine tw_iload_n (k := 14) rfl rfl ?_
    refine tw_icmp_le (k := 15) 56 rfl (by decide) ?_ ?_
    · refine tw_iconst (k := 18) (0 : Int32) rfl (by decide) ?_
      exact tw_ireturn (k := 19) rfl rfl (by decide) (by decide)
    · refine tw_iconst (k := 16) (1 : Int32) rfl (by decide) ?_
      refine tw_goto (k := 17) 57 rfl (by decide) ?_
      exact tw_ireturn (k := 19) rfl rfl (by decide) (by decide)
  refine tw_case ?_ (fun c4 => ?_)
  · refine tw_switch (k := 1) 58 rfl (by decide) (by decide) ?_
    refine tw_iload_n (k := 20) rfl rfl ?_
    refine tw_iload_n (k := 21) rfl rfl ?_
    refine tw_iand (k := 22) rfl ?_
    exact tw_ireturn (k := 23) rfl rfl (by decide) (by decide)
  refine tw_switch (k := 1) 62 rfl (by decide) (tw_dfl (by decide) (fun v e1 e2 e3 => ?_)) ?_
  · have e4 : v = 16 ∨ v = 17 ∨ v = 18 ∨ v = 19 := by omega
    rcases e4 with rfl | rfl | rfl | rfl
    · exact c1 (e3.trans (by decide))
    · exact c2 (e3.trans (by decide))
    · exact c3 (e3.trans (by decide))
    · exact c4 (e3.trans (by decide))
  · refine tw_iload_n (k := 24) rfl rfl ?_
    refine tw_iload_n (k := 25) rfl rfl ?_
    refine tw_ior (k := 26) rfl ?_
    exact tw_ireturn (k := 27) rfl rfl (by decide) (by decide)
def mX0_holds : tw_MD := (yX0_holds, cX0_holds, 8, (some FieldType.boolean), [(0, .iload_n 1, 1, 1), (1, .iload_n 2, 1, 2), (2, .if_icmp .lt 5, 3, 5), (5, .iconst 1, 1, 6), (6, .ireturn, 1, 7), (7, .iconst 0, 1, 8), (8, .istore 5, 2, 10), (10, .iload_n 1, 1, 11), (11, .iconst 0, 1, 12), (12, .invokestatic 49, 3, 15), (15, .istore 6, 2, 17), (17, .iload 6, 2, 19), (19, .iload_n 2, 1, 20), (20, .if_icmp .ge 162, 3, 23), (23, .iload 6, 2, 25), (25, .aload_n 0, 1, 26), (26, .getfield 30, 3, 29), (29, .arraylength, 1, 30), (30, .if_icmp .ge 152, 3, 33), (33, .aload_n 0, 1, 34), (34, .getfield 30, 3, 37), (37, .iload 6, 2, 39), (39, .iaload, 1, 40), (40, .istore 7, 2, 42), (42, .iload 7, 2, 44), (44, .bipush 16, 2, 46), (46, .if_icmp .lt 10, 3, 49), (49, .iload 7, 2, 51), (51, .bipush 32, 2, 53), (53, .if_icmp .lt 49, 3, 56), (56, .iload 5, 2, 58), (58, .aload_n 0, 1, 59), (59, .getfield 11, 3, 62), (62, .arraylength, 1, 63), (63, .if_icmp .ge 113, 3, 66), (66, .aload_n 0, 1, 67), (67, .getfield 11, 3, 70), (70, .iload 5, 2, 72), (72, .iload 7, 2, 74), (74, .bipush 32, 2, 76), (76, .if_icmp .lt 11, 3, 79), (79, .iload 7, 2, 81), (81, .bipush 32, 2, 83), (83, .isub, 1, 84), (84, .goto 11, 3, 87), (87, .aload_n 3, 1, 88), (88, .iload 7, 2, 90), (90, .iload 4, 2, 92), (92, .invokevirtual 59, 3, 95), (95, .iastore, 1, 96), (96, .iinc 5 1, 3, 99), (99, .goto 77, 3, 102), (102, .iload 7, 2, 104), (104, .bipush 21, 2, 106), (106, .if_icmp .ne 31, 3, 109), (109, .iload 5, 2, 111), (111, .ifCond .le 65, 3, 114), (114, .aload_n 0, 1, 115), (115, .getfield 11, 3, 118), (118, .iload 5, 2, 120), (120, .iconst 1, 1, 121), (121, .isub, 1, 122), (122, .iconst 1, 1, 123), (123, .aload_n 0, 1, 124), (124, .getfield 11, 3, 127), (127, .iload 5, 2, 129), (129, .iconst 1, 1, 130), (130, .isub, 1, 131), (131, .iaload, 1, 132), (132, .isub, 1, 133), (133, .iastore, 1, 134), (134, .goto 42, 3, 137), (137, .iload 5, 2, 139), (139, .iconst 1, 1, 140), (140, .if_icmp .le 36, 3, 143), (143, .iinc 5 (-1), 3, 146), (146, .aload_n 0, 1, 147), (147, .getfield 11, 3, 150), (150, .iload 5, 2, 152), (152, .iconst 1, 1, 153), (153, .isub, 1, 154), (154, .iload 7, 2, 156), (156, .aload_n 0, 1, 157), (157, .getfield 11, 3, 160), (160, .iload 5, 2, 162), (162, .iconst 1, 1, 163), (163, .isub, 1, 164), (164, .iaload, 1, 165), (165, .aload_n 0, 1, 166), (166, .getfield 11, 3, 169), (169, .iload 5, 2, 171), (171, .iaload, 1, 172), (172, .invokestatic 65, 3, 175), (175, .iastore, 1, 176), (176, .iinc 6 1, 3, 179), (179, .goto (-162), 3, 182), (182, .iload 5, 2, 184), (184, .ifCond .le 19, 3, 187), (187, .aload_n 0, 1, 188), (188, .getfield 11, 3, 191), (191, .iload 5, 2, 193), (193, .iconst 1, 1, 194), (194, .isub, 1, 195), (195, .iaload, 1, 196), (196, .ifCond .eq 7, 3, 199), (199, .iconst 1, 1, 200), (200, .goto 4, 3, 203), (203, .iconst 0, 1, 204), (204, .ireturn, 1, 205)], [])
theorem mo_X0_holds : tw_mok mX0_holds 4 := ⟨plainFor_of_name (by decide +kernel), by decide +kernel, by decide +kernel, by decide +kernel, by decide +kernel⟩
theorem dk_X0_holds : tw_dk mX0_holds := by unfold tw_dk; decide +kernel
theorem fl_RX0_11 : tw_fl RX0 11 5 := Or.inl (List.mem_of_getElem? (i := 428) (by decide +kernel))
theorem fl_RX0_30 : tw_fl RX0 30 4 := Or.inl (List.mem_of_getElem? (i := 427) (by decide +kernel))
theorem wv_RX0_59_X10_value : tw_wV RX0 59 mX10_value := ⟨List.mem_of_getElem? (i := 597) (by decide +kernel), List.mem_of_getElem? (i := 598) (by decide +kernel), List.mem_of_getElem? (i := 599) (by decide +kernel), List.mem_of_getElem? (i := 133) (by decide +kernel), List.mem_of_getElem? (i := 600) (by decide +kernel)⟩
theorem ws_RX0_65_X0_joined : tw_wS RX0 65 mX0_joined := ⟨List.mem_of_getElem? (i := 601) (by decide +kernel), List.mem_of_getElem? (i := 602) (by decide +kernel), List.mem_of_getElem? (i := 136) (by decide +kernel), List.mem_of_getElem? (i := 603) (by decide +kernel)⟩
theorem ws_RX0_49_J9_max_7cf53 : tw_wS RX0 49 mJ9_max_7cf53 := ⟨List.mem_of_getElem? (i := 596) (by decide +kernel), List.mem_of_getElem? (i := 582) (by decide +kernel), List.mem_of_getElem? (i := 148) (by decide +kernel), List.mem_of_getElem? (i := 583) (by decide +kernel)⟩
set_option maxRecDepth 20000 in
theorem K_X0_holds {g : tw_Gx} (Q : tw_Rs → tw_Mem → Prop) (a0 : Nat) (a1 : Int32) (a2 : Int32) (a3 : Nat) (a4 : Int32) : tw_Kt g mX0_holds 2 0 0 [.ref a0, .int a1, .int a2, .ref a3, .int a4] Q (f_X0_holds a0 a1 a2 a3 a4 (fun v => Q (.inl (some (.int v))))) := by
  refine tw_mkK (L := [some (.ref a0), some (.int a1), some (.int a2), some (.ref a3), some (.int a4), none, none, none]) mo_X0_holds dk_X0_holds rfl (Nat.le_of_ble_eq_true rfl) rfl ?_
  unfold f_X0_holds
  refine tw_iload_n (k := 0) rfl rfl ?_
  refine tw_iload_n (k := 1) rfl rfl ?_
  refine tw_icmp_lt (k := 2) 7 rfl (by decide) ?_ ?_
  · refine tw_iconst (k := 5) (0 : Int32) rfl (by decide) ?_
    refine tw_ist (k := 6) [some (.ref a0), some (.int a1), some (.int a2), some (.ref a3), some (.int a4), some (.int (0 : Int32)), none, none] rfl (Nat.le_of_ble_eq_true rfl) rfl rfl ?_
    refine tw_iload_n (k := 7) rfl rfl ?_
    refine tw_iconst (k := 8) (0 : Int32) rfl (by decide) ?_
    refine tw_callS (k := 9) (d' := 1) (mc' := 0) (ms' := 0) tw_cI tw_cIi [.int a1, .int (0 : Int32)] rfl rfl ws_RX0_49_J9_max_7cf53 mo_J9_max_7cf53 rfl (fun Q9 => K_J9_max_7cf53 Q9 a1 (0 : Int32)) (by omega) (by decide) (by decide) (Nat.le_of_ble_eq_true rfl) (fun x1 => ?_)
    refine tw_ist (k := 10) [some (.ref a0), some (.int a1), some (.int a2), some (.ref a3), some (.int a4), some (.int (0 : Int32)), some (.int x1), none] rfl (Nat.le_of_ble_eq_true rfl) rfl rfl ?_
    refine tw_loop (fun s3 => [some (.ref a0), some (.int a1), some (.int a2), some (.ref a3), some (.int a4), some (.int s3.1), some (.int s3.2), none]) (fun s3 => []) (fun r2 h2 s3 => ?_) _ rfl rfl
    refine tw_iload (k := 11) rfl rfl ?_
    refine tw_iload_n (k := 12) rfl rfl ?_
    refine tw_join 182 (fun s5 => [some (.ref a0), some (.int a1), some (.int a2), some (.ref a3), some (.int a4), some (.int s3.1), some (.int s3.2), none]) (fun s5 => []) 0 0 (fun s5 => ?_) (fun j4 g4 => ?_)
    · refine tw_iload (k := 96) rfl rfl ?_
      refine tw_if_le (k := 97) 203 rfl (by decide) ?_ ?_
      · refine tw_iconst (k := 107) (0 : Int32) rfl (by decide) ?_
        exact tw_zreturn (k := 108) rfl rfl (by decide) (by decide)
      · refine tw_aload_n (k := 98) rfl rfl ?_
        refine tw_getR (k := 99) rfl fl_RX0_11 (fun x6 => ?_)
        refine tw_iload (k := 100) rfl rfl ?_
        refine tw_iconst (k := 101) (1 : Int32) rfl (by decide) ?_
        refine tw_isub (k := 102) rfl ?_
        refine tw_iaload (k := 103) rfl (fun x7 => ?_)
        refine tw_if_eq (k := 104) 203 rfl (by decide) ?_ ?_
        · refine tw_iconst (k := 107) (0 : Int32) rfl (by decide) ?_
          exact tw_zreturn (k := 108) rfl rfl (by decide) (by decide)
        · refine tw_iconst (k := 105) (1 : Int32) rfl (by decide) ?_
          refine tw_goto (k := 106) 204 rfl (by decide) ?_
          exact tw_zreturn (k := 108) rfl rfl (by decide) (by decide)
    · refine tw_icmp_ge (k := 13) 182 rfl (by decide) ?_ ?_
      · exact g4 ()
      · refine tw_iload (k := 14) rfl rfl ?_
        refine tw_aload_n (k := 15) rfl rfl ?_
        refine tw_getR (k := 16) rfl fl_RX0_30 (fun x8 => ?_)
        refine tw_alength (k := 17) rfl (fun x9 => ?_)
        refine tw_icmp_ge (k := 18) 182 rfl (by decide) ?_ ?_
        · exact g4 ()
        · refine tw_aload_n (k := 19) rfl rfl ?_
          refine tw_getR (k := 20) rfl fl_RX0_30 (fun x10 => ?_)
          refine tw_iload (k := 21) rfl rfl ?_
          refine tw_iaload (k := 22) rfl (fun x11 => ?_)
          refine tw_ist (k := 23) [some (.ref a0), some (.int a1), some (.int a2), some (.ref a3), some (.int a4), some (.int s3.1), some (.int s3.2), some (.int x11)] rfl (Nat.le_of_ble_eq_true rfl) rfl rfl ?_
          refine tw_iload (k := 24) rfl rfl ?_
          refine tw_bipush (k := 25) (16 : Int32) rfl (by decide) ?_
          refine tw_join 176 (fun s13 => [some (.ref a0), some (.int a1), some (.int a2), some (.ref a3), some (.int a4), some (.int s13), some (.int s3.2), some (.int x11)]) (fun s13 => []) 0 0 (fun s13 => ?_) (fun j12 g12 => ?_)
          · refine tw_inc (k := 94) (1 : Int32) [some (.ref a0), some (.int a1), some (.int a2), some (.ref a3), some (.int a4), some (.int s13), some (.int (s3.2 + (1 : Int32))), some (.int x11)] rfl rfl (by decide) (Nat.le_of_ble_eq_true rfl) rfl rfl ?_
            refine tw_goto (k := 95) 17 rfl (by decide) ?_
            exact tw_wk (L' := [some (.ref a0), some (.int a1), some (.int a2), some (.ref a3), some (.int a4), some (.int s13), some (.int (s3.2 + (1 : Int32))), none]) ⟨Or.inr rfl, Or.inr rfl, Or.inr rfl, Or.inr rfl, Or.inr rfl, Or.inr rfl, Or.inr rfl, Or.inl rfl, trivial⟩ (h2 (s13, s3.2 + (1 : Int32)))
          · refine tw_join 56 (fun s15 => [some (.ref a0), some (.int a1), some (.int a2), some (.ref a3), some (.int a4), some (.int s3.1), some (.int s3.2), some (.int x11)]) (fun s15 => []) 0 0 (fun s15 => ?_) (fun j14 g14 => ?_)
            · refine tw_iload (k := 30) rfl rfl ?_
              refine tw_aload_n (k := 31) rfl rfl ?_
              refine tw_getR (k := 32) rfl fl_RX0_11 (fun x16 => ?_)
              refine tw_alength (k := 33) rfl (fun x17 => ?_)
              refine tw_icmp_ge (k := 34) 176 rfl (by decide) ?_ ?_
              · exact g12 s3.1
              · refine tw_aload_n (k := 35) rfl rfl ?_
                refine tw_getR (k := 36) rfl fl_RX0_11 (fun x18 => ?_)
                refine tw_iload (k := 37) rfl rfl ?_
                refine tw_iload (k := 38) rfl rfl ?_
                refine tw_bipush (k := 39) (32 : Int32) rfl (by decide) ?_
                refine tw_join 95 (fun s20 => [some (.ref a0), some (.int a1), some (.int a2), some (.ref a3), some (.int a4), some (.int s3.1), some (.int s3.2), some (.int x11)]) (fun s20 => .int s20 :: .int s3.1 :: .ref x18 :: []) 0 0 (fun s20 => ?_) (fun j19 g19 => ?_)
                · refine tw_iastore (k := 49) rfl ?_
                  refine tw_inc (k := 50) (1 : Int32) [some (.ref a0), some (.int a1), some (.int a2), some (.ref a3), some (.int a4), some (.int (s3.1 + (1 : Int32))), some (.int s3.2), some (.int x11)] rfl rfl (by decide) (Nat.le_of_ble_eq_true rfl) rfl rfl ?_
                  refine tw_goto (k := 51) 176 rfl (by decide) ?_
                  exact g12 (s3.1 + (1 : Int32))
                · refine tw_icmp_lt (k := 40) 87 rfl (by decide) ?_ ?_
                  · refine tw_aload_n (k := 45) rfl rfl ?_
                    refine tw_iload (k := 46) rfl rfl ?_
                    refine tw_iload (k := 47) rfl rfl ?_
                    refine tw_callV (k := 48) (d' := 1) (mc' := 0) (ms' := 0) tw_cI tw_cIi [.int x11, .int a4] rfl rfl wv_RX0_59_X10_value mo_X10_value (t := 9) rfl rfl rfl (fun Q9 => K_X10_value Q9 a3 x11 a4) (by omega) (by decide) (by decide) (Nat.le_of_ble_eq_true rfl) (fun x21 => ?_)
                    exact g19 x21
                  · refine tw_iload (k := 41) rfl rfl ?_
                    refine tw_bipush (k := 42) (32 : Int32) rfl (by decide) ?_
                    refine tw_isub (k := 43) rfl ?_
                    refine tw_goto (k := 44) 95 rfl (by decide) ?_
                    exact g19 (x11 - (32 : Int32))
            · refine tw_icmp_lt (k := 26) 56 rfl (by decide) ?_ ?_
              · exact g14 ()
              · refine tw_iload (k := 27) rfl rfl ?_
                refine tw_bipush (k := 28) (32 : Int32) rfl (by decide) ?_
                refine tw_icmp_lt (k := 29) 102 rfl (by decide) ?_ ?_
                · refine tw_iload (k := 52) rfl rfl ?_
                  refine tw_bipush (k := 53) (21 : Int32) rfl (by decide) ?_
                  refine tw_icmp_ne (k := 54) 137 rfl (by decide) ?_ ?_
                  · refine tw_iload (k := 72) rfl rfl ?_
                    refine tw_iconst (k := 73) (1 : Int32) rfl (by decide) ?_
                    refine tw_icmp_le (k := 74) 176 rfl (by decide) ?_ ?_
                    · exact g12 s3.1
                    · refine tw_inc (k := 75) (-1 : Int32) [some (.ref a0), some (.int a1), some (.int a2), some (.ref a3), some (.int a4), some (.int (s3.1 + (-1 : Int32))), some (.int s3.2), some (.int x11)] rfl rfl (by decide) (Nat.le_of_ble_eq_true rfl) rfl rfl ?_
                      refine tw_aload_n (k := 76) rfl rfl ?_
                      refine tw_getR (k := 77) rfl fl_RX0_11 (fun x22 => ?_)
                      refine tw_iload (k := 78) rfl rfl ?_
                      refine tw_iconst (k := 79) (1 : Int32) rfl (by decide) ?_
                      refine tw_isub (k := 80) rfl ?_
                      refine tw_iload (k := 81) rfl rfl ?_
                      refine tw_aload_n (k := 82) rfl rfl ?_
                      refine tw_getR (k := 83) rfl fl_RX0_11 (fun x23 => ?_)
                      refine tw_iload (k := 84) rfl rfl ?_
                      refine tw_iconst (k := 85) (1 : Int32) rfl (by decide) ?_
                      refine tw_isub (k := 86) rfl ?_
                      refine tw_iaload (k := 87) rfl (fun x24 => ?_)
                      refine tw_aload_n (k := 88) rfl rfl ?_
                      refine tw_getR (k := 89) rfl fl_RX0_11 (fun x25 => ?_)
                      refine tw_iload (k := 90) rfl rfl ?_
                      refine tw_iaload (k := 91) rfl (fun x26 => ?_)
                      refine tw_callS (k := 92) (d' := 1) (mc' := 0) (ms' := 0) tw_cI tw_cIi [.int x11, .int x24, .int x26] rfl rfl ws_RX0_65_X0_joined mo_X0_joined rfl (fun Q9 => K_X0_joined Q9 x11 x24 x26) (by omega) (by decide) (by decide) (Nat.le_of_ble_eq_true rfl) (fun x27 => ?_)
                      refine tw_iastore (k := 93) rfl ?_
                      exact g12 (s3.1 + (-1 : Int32))
                  · refine tw_iload (k := 55) rfl rfl ?_
                    refine tw_if_le (k := 56) 176 rfl (by decide) ?_ ?_
                    · exact g12 s3.1
                    · refine tw_aload_n (k := 57) rfl rfl ?_
                      refine tw_getR (k := 58) rfl fl_RX0_11 (fun x28 => ?_)
                      refine tw_iload (k := 59) rfl rfl ?_
                      refine tw_iconst (k := 60) (1 : Int32) rfl (by decide) ?_
                      refine tw_isub (k := 61) rfl ?_
                      refine tw_iconst (k := 62) (1 : Int32) rfl (by decide) ?_
                      refine tw_aload_n (k := 63) rfl rfl ?_
                      refine tw_getR (k := 64) rfl fl_RX0_11 (fun x29 => ?_)
                      refine tw_iload (k := 65) rfl rfl ?_
                      refine tw_iconst (k := 66) (1 : Int32) rfl (by decide) ?_
                      refine tw_isub (k := 67) rfl ?_
                      refine tw_iaload (k := 68) rfl (fun x30 => ?_)
                      refine tw_isub (k := 69) rfl ?_
                      refine tw_iastore (k := 70) rfl ?_
                      refine tw_goto (k := 71) 176 rfl (by decide) ?_
                      exact g12 s3.1
                · exact g14 ()
  · refine tw_iconst (k := 3) (1 : Int32) rfl (by decide) ?_
    exact tw_zreturn (k := 4) rfl rfl (by decide) (by decide)
def mX0_amountFor : tw_MD := (yX0_amountFor, cX0_amountFor, 8, (some FieldType.int), [(0, .aload_n 0, 1, 1), (1, .getfield 15, 3, 4), (4, .iconst (-1), 1, 5), (5, .if_icmp .ne 14, 3, 8), (8, .iload_n 1, 1, 9), (9, .iconst 2, 1, 10), (10, .if_icmp .ne 7, 3, 13), (13, .iconst 2, 1, 14), (14, .goto 4, 3, 17), (17, .iconst 1, 1, 18), (18, .ireturn, 1, 19), (19, .iconst 0, 1, 20), (20, .istore 4, 2, 22), (22, .iconst 0, 1, 23), (23, .istore 5, 2, 25), (25, .iconst 0, 1, 26), (26, .istore 6, 2, 28), (28, .iload 6, 2, 30), (30, .aload_n 0, 1, 31), (31, .getfield 15, 3, 34), (34, .if_icmp .ge 105, 3, 37), (37, .iload 6, 2, 39), (39, .bipush 12, 2, 41), (41, .if_icmp .ge 98, 3, 44), (44, .aload_n 0, 1, 45), (45, .getfield 21, 3, 48), (48, .iload 6, 2, 50), (50, .iaload, 1, 51), (51, .iconst 1, 1, 52), (52, .if_icmp .ne 7, 3, 55), (55, .iconst 1, 1, 56), (56, .goto 4, 3, 59), (59, .iconst 0, 1, 60), (60, .istore 7, 2, 62), (62, .iload 7, 2, 64), (64, .ifCond .ne 14, 3, 67), (67, .aload_n 0, 1, 68), (68, .getfield 21, 3, 71), (71, .iload 6, 2, 73), (73, .iaload, 1, 74), (74, .iload_n 1, 1, 75), (75, .if_icmp .ne 49, 3, 78), (78, .aload_n 0, 1, 79), (79, .iload 5, 2, 81), (81, .aload_n 0, 1, 82), (82, .getfield 27, 3, 85), (85, .iload 6, 2, 87), (87, .iaload, 1, 88), (88, .aload_n 2, 1, 89), (89, .iload_n 3, 1, 90), (90, .invokevirtual 55, 3, 93), (93, .ifCond .eq 31, 3, 96), (96, .iload 4, 2, 98), (98, .iload 7, 2, 100), (100, .ifCond .eq 14, 3, 103), (103, .aload_n 0, 1, 104), (104, .getfield 24, 3, 107), (107, .iload 6, 2, 109), (109, .iaload, 1, 110), (110, .ineg, 1, 111), (111, .goto 10, 3, 114), (114, .aload_n 0, 1, 115), (115, .getfield 24, 3, 118), (118, .iload 6, 2, 120), (120, .iaload, 1, 121), (121, .iadd, 1, 122), (122, .istore 4, 2, 124), (124, .aload_n 0, 1, 125), (125, .getfield 27, 3, 128), (128, .iload 6, 2, 130), (130, .iaload, 1, 131), (131, .istore 5, 2, 133), (133, .iinc 6 1, 3, 136), (136, .goto (-108), 3, 139), (139, .iload 4, 2, 141), (141, .ireturn, 1, 142)], [])
theorem mo_X0_amountFor : tw_mok mX0_amountFor 3 := ⟨plainFor_of_name (by decide +kernel), by decide +kernel, by decide +kernel, by decide +kernel, by decide +kernel⟩
theorem dk_X0_amountFor : tw_dk mX0_amountFor := by unfold tw_dk; decide +kernel
theorem fl_RX0_15 : tw_fl RX0 15 0 := Or.inl (List.mem_of_getElem? (i := 422) (by decide +kernel))
theorem fl_RX0_21 : tw_fl RX0 21 1 := Or.inl (List.mem_of_getElem? (i := 424) (by decide +kernel))
theorem fl_RX0_27 : tw_fl RX0 27 3 := Or.inl (List.mem_of_getElem? (i := 426) (by decide +kernel))
theorem fl_RX0_24 : tw_fl RX0 24 2 := Or.inl (List.mem_of_getElem? (i := 425) (by decide +kernel))
theorem wv_RX0_55_X0_holds : tw_wV RX0 55 mX0_holds := ⟨List.mem_of_getElem? (i := 592) (by decide +kernel), List.mem_of_getElem? (i := 594) (by decide +kernel), List.mem_of_getElem? (i := 1) (by decide +kernel), List.mem_of_getElem? (i := 136) (by decide +kernel), List.mem_of_getElem? (i := 595) (by decide +kernel)⟩
set_option maxRecDepth 20000 in
theorem K_X0_amountFor {g : tw_Gx} (Q : tw_Rs → tw_Mem → Prop) (a0 : Nat) (a1 : Int32) (a2 : Nat) (a3 : Int32) : tw_Kt g mX0_amountFor 3 0 0 [.ref a0, .int a1, .ref a2, .int a3] Q (f_X0_amountFor a0 a1 a2 a3 (fun v => Q (.inl (some (.int v))))) := by
  refine tw_mkK (L := [some (.ref a0), some (.int a1), some (.ref a2), some (.int a3), none, none, none, none]) mo_X0_amountFor dk_X0_amountFor rfl (Nat.le_of_ble_eq_true rfl) rfl ?_
  unfold f_X0_amountFor
  refine tw_aload_n (k := 0) rfl rfl ?_
  refine tw_getI (k := 1) rfl fl_RX0_15 (fun x1 => ?_)
  refine tw_iconst (k := 2) (-1 : Int32) rfl (by decide) ?_
  refine tw_icmp_ne (k := 3) 19 rfl (by decide) ?_ ?_
  · refine tw_iconst (k := 11) (0 : Int32) rfl (by decide) ?_
    refine tw_ist (k := 12) [some (.ref a0), some (.int a1), some (.ref a2), some (.int a3), some (.int (0 : Int32)), none, none, none] rfl (Nat.le_of_ble_eq_true rfl) rfl rfl ?_
    refine tw_iconst (k := 13) (0 : Int32) rfl (by decide) ?_
    refine tw_ist (k := 14) [some (.ref a0), some (.int a1), some (.ref a2), some (.int a3), some (.int (0 : Int32)), some (.int (0 : Int32)), none, none] rfl (Nat.le_of_ble_eq_true rfl) rfl rfl ?_
    refine tw_iconst (k := 15) (0 : Int32) rfl (by decide) ?_
    refine tw_ist (k := 16) [some (.ref a0), some (.int a1), some (.ref a2), some (.int a3), some (.int (0 : Int32)), some (.int (0 : Int32)), some (.int (0 : Int32)), none] rfl (Nat.le_of_ble_eq_true rfl) rfl rfl ?_
    refine tw_loop (fun s3 => [some (.ref a0), some (.int a1), some (.ref a2), some (.int a3), some (.int s3.1), some (.int s3.2.1), some (.int s3.2.2), none]) (fun s3 => []) (fun r2 h2 s3 => ?_) _ rfl rfl
    refine tw_iload (k := 17) rfl rfl ?_
    refine tw_aload_n (k := 18) rfl rfl ?_
    refine tw_getI (k := 19) rfl fl_RX0_15 (fun x4 => ?_)
    refine tw_icmp_ge (k := 20) 139 rfl (by decide) ?_ ?_
    · refine tw_iload (k := 74) rfl rfl ?_
      exact tw_ireturn (k := 75) rfl rfl (by decide) (by decide)
    · refine tw_iload (k := 21) rfl rfl ?_
      refine tw_bipush (k := 22) (12 : Int32) rfl (by decide) ?_
      refine tw_icmp_ge (k := 23) 139 rfl (by decide) ?_ ?_
      · refine tw_iload (k := 74) rfl rfl ?_
        exact tw_ireturn (k := 75) rfl rfl (by decide) (by decide)
      · refine tw_aload_n (k := 24) rfl rfl ?_
        refine tw_getR (k := 25) rfl fl_RX0_21 (fun x5 => ?_)
        refine tw_iload (k := 26) rfl rfl ?_
        refine tw_iaload (k := 27) rfl (fun x6 => ?_)
        refine tw_iconst (k := 28) (1 : Int32) rfl (by decide) ?_
        refine tw_join 60 (fun s8 => [some (.ref a0), some (.int a1), some (.ref a2), some (.int a3), some (.int s3.1), some (.int s3.2.1), some (.int s3.2.2), none]) (fun s8 => .int s8 :: []) 0 0 (fun s8 => ?_) (fun j7 g7 => ?_)
        · refine tw_ist (k := 33) [some (.ref a0), some (.int a1), some (.ref a2), some (.int a3), some (.int s3.1), some (.int s3.2.1), some (.int s3.2.2), some (.int s8)] rfl (Nat.le_of_ble_eq_true rfl) rfl rfl ?_
          refine tw_iload (k := 34) rfl rfl ?_
          refine tw_join 124 (fun s10 => [some (.ref a0), some (.int a1), some (.ref a2), some (.int a3), some (.int s10), some (.int s3.2.1), some (.int s3.2.2), some (.int s8)]) (fun s10 => []) 0 0 (fun s10 => ?_) (fun j9 g9 => ?_)
          · refine tw_aload_n (k := 67) rfl rfl ?_
            refine tw_getR (k := 68) rfl fl_RX0_27 (fun x11 => ?_)
            refine tw_iload (k := 69) rfl rfl ?_
            refine tw_iaload (k := 70) rfl (fun x12 => ?_)
            refine tw_ist (k := 71) [some (.ref a0), some (.int a1), some (.ref a2), some (.int a3), some (.int s10), some (.int x12), some (.int s3.2.2), some (.int s8)] rfl (Nat.le_of_ble_eq_true rfl) rfl rfl ?_
            refine tw_inc (k := 72) (1 : Int32) [some (.ref a0), some (.int a1), some (.ref a2), some (.int a3), some (.int s10), some (.int x12), some (.int (s3.2.2 + (1 : Int32))), some (.int s8)] rfl rfl (by decide) (Nat.le_of_ble_eq_true rfl) rfl rfl ?_
            refine tw_goto (k := 73) 28 rfl (by decide) ?_
            exact tw_wk (L' := [some (.ref a0), some (.int a1), some (.ref a2), some (.int a3), some (.int s10), some (.int x12), some (.int (s3.2.2 + (1 : Int32))), none]) ⟨Or.inr rfl, Or.inr rfl, Or.inr rfl, Or.inr rfl, Or.inr rfl, Or.inr rfl, Or.inr rfl, Or.inl rfl, trivial⟩ (h2 (s10, x12, s3.2.2 + (1 : Int32)))
          · refine tw_join 78 (fun s14 => [some (.ref a0), some (.int a1), some (.ref a2), some (.int a3), some (.int s3.1), some (.int s3.2.1), some (.int s3.2.2), some (.int s8)]) (fun s14 => []) 0 0 (fun s14 => ?_) (fun j13 g13 => ?_)
            · refine tw_aload_n (k := 42) rfl rfl ?_
              refine tw_iload (k := 43) rfl rfl ?_
              refine tw_aload_n (k := 44) rfl rfl ?_
              refine tw_getR (k := 45) rfl fl_RX0_27 (fun x15 => ?_)
              refine tw_iload (k := 46) rfl rfl ?_
              refine tw_iaload (k := 47) rfl (fun x16 => ?_)
              refine tw_aload_n (k := 48) rfl rfl ?_
              refine tw_iload_n (k := 49) rfl rfl ?_
              refine tw_callV (k := 50) (d' := 2) (mc' := 0) (ms' := 0) tw_cI tw_cIi [.int s3.2.1, .int x16, .ref a2, .int a3] rfl rfl wv_RX0_55_X0_holds mo_X0_holds (t := 0) rfl rfl rfl (fun Q9 => K_X0_holds Q9 a0 s3.2.1 x16 a2 a3) (by omega) (by decide) (by decide) (Nat.le_of_ble_eq_true rfl) (fun x17 => ?_)
              refine tw_if_eq (k := 51) 124 rfl (by decide) ?_ ?_
              · exact g9 s3.1
              · refine tw_iload (k := 52) rfl rfl ?_
                refine tw_iload (k := 53) rfl rfl ?_
                refine tw_join 121 (fun s19 => [some (.ref a0), some (.int a1), some (.ref a2), some (.int a3), some (.int s3.1), some (.int s3.2.1), some (.int s3.2.2), some (.int s8)]) (fun s19 => .int s19 :: .int s3.1 :: []) 0 0 (fun s19 => ?_) (fun j18 g18 => ?_)
                · refine tw_iadd (k := 65) rfl ?_
                  refine tw_let (fun x20 => [some (.ref a0), some (.int a1), some (.ref a2), some (.int a3), some (.int s3.1), some (.int s3.2.1), some (.int s3.2.2), some (.int s8)]) (fun x20 => .int x20 :: []) rfl rfl (fun x20 => ?_)
                  refine tw_ist (k := 66) [some (.ref a0), some (.int a1), some (.ref a2), some (.int a3), some (.int x20), some (.int s3.2.1), some (.int s3.2.2), some (.int s8)] rfl (Nat.le_of_ble_eq_true rfl) rfl rfl ?_
                  exact g9 x20
                · refine tw_if_eq (k := 54) 114 rfl (by decide) ?_ ?_
                  · refine tw_aload_n (k := 61) rfl rfl ?_
                    refine tw_getR (k := 62) rfl fl_RX0_24 (fun x21 => ?_)
                    refine tw_iload (k := 63) rfl rfl ?_
                    refine tw_iaload (k := 64) rfl (fun x22 => ?_)
                    exact g18 x22
                  · refine tw_aload_n (k := 55) rfl rfl ?_
                    refine tw_getR (k := 56) rfl fl_RX0_24 (fun x23 => ?_)
                    refine tw_iload (k := 57) rfl rfl ?_
                    refine tw_iaload (k := 58) rfl (fun x24 => ?_)
                    refine tw_ineg (k := 59) rfl ?_
                    refine tw_goto (k := 60) 121 rfl (by decide) ?_
                    exact g18 (-x24)
            · refine tw_if_ne (k := 35) 78 rfl (by decide) ?_ ?_
              · exact g13 ()
              · refine tw_aload_n (k := 36) rfl rfl ?_
                refine tw_getR (k := 37) rfl fl_RX0_21 (fun x25 => ?_)
                refine tw_iload (k := 38) rfl rfl ?_
                refine tw_iaload (k := 39) rfl (fun x26 => ?_)
                refine tw_iload_n (k := 40) rfl rfl ?_
                refine tw_icmp_ne (k := 41) 124 rfl (by decide) ?_ ?_
                · exact g9 s3.1
                · exact g13 ()
        · refine tw_icmp_ne (k := 29) 59 rfl (by decide) ?_ ?_
          · refine tw_iconst (k := 32) (0 : Int32) rfl (by decide) ?_
            exact g7 (0 : Int32)
          · refine tw_iconst (k := 30) (1 : Int32) rfl (by decide) ?_
            refine tw_goto (k := 31) 60 rfl (by decide) ?_
            exact g7 (1 : Int32)
  · refine tw_iload_n (k := 4) rfl rfl ?_
    refine tw_iconst (k := 5) (2 : Int32) rfl (by decide) ?_
    refine tw_icmp_ne (k := 6) 17 rfl (by decide) ?_ ?_
    · refine tw_iconst (k := 9) (1 : Int32) rfl (by decide) ?_
      exact tw_ireturn (k := 10) rfl rfl (by decide) (by decide)
    · refine tw_iconst (k := 7) (2 : Int32) rfl (by decide) ?_
      refine tw_goto (k := 8) 18 rfl (by decide) ?_
      exact tw_ireturn (k := 10) rfl rfl (by decide) (by decide)
def mX10_heardBy : tw_MD := (yX10_heardBy, cX10_heardBy, 3, (some FieldType.int), [(0, .aload_n 0, 1, 1), (1, .getfield 11, 3, 4), (4, .bipush 10, 2, 6), (6, .aload_n 0, 1, 7), (7, .invokevirtual 47, 3, 10), (10, .iconst 4, 1, 11), (11, .if_icmp .ne 7, 3, 14), (14, .iconst 1, 1, 15), (15, .goto 4, 3, 18), (18, .iconst 0, 1, 19), (19, .iastore, 1, 20), (20, .aload_n 1, 1, 21), (21, .iconst 0, 1, 22), (22, .aload_n 0, 1, 23), (23, .iload_n 2, 1, 24), (24, .invokevirtual 53, 3, 27), (27, .ireturn, 1, 28)], [])
theorem mo_X10_heardBy : tw_mok mX10_heardBy 2 := ⟨plainFor_of_name (by decide +kernel), by decide +kernel, by decide +kernel, by decide +kernel, by decide +kernel⟩
theorem dk_X10_heardBy : tw_dk mX10_heardBy := by unfold tw_dk; decide +kernel
theorem wv_RX10_53_X0_amountFor : tw_wV RX10 53 mX0_amountFor := ⟨List.mem_of_getElem? (i := 588) (by decide +kernel), List.mem_of_getElem? (i := 589) (by decide +kernel), List.mem_of_getElem? (i := 590) (by decide +kernel), List.mem_of_getElem? (i := 136) (by decide +kernel), List.mem_of_getElem? (i := 591) (by decide +kernel)⟩
theorem wv_RX10_47_X10_toneNow : tw_wV RX10 47 mX10_toneNow := ⟨List.mem_of_getElem? (i := 574) (by decide +kernel), List.mem_of_getElem? (i := 575) (by decide +kernel), List.mem_of_getElem? (i := 576) (by decide +kernel), List.mem_of_getElem? (i := 133) (by decide +kernel), List.mem_of_getElem? (i := 577) (by decide +kernel)⟩
set_option maxRecDepth 20000 in
theorem K_X10_heardBy {g : tw_Gx} (Q : tw_Rs → tw_Mem → Prop) (a0 : Nat) (a1 : Nat) (a2 : Int32) : tw_Kt g mX10_heardBy 4 0 0 [.ref a0, .ref a1, .int a2] Q (f_X10_heardBy a0 a1 a2 (fun v => Q (.inl (some (.int v))))) := by
  refine tw_mkK (L := [some (.ref a0), some (.ref a1), some (.int a2)]) mo_X10_heardBy dk_X10_heardBy rfl (Nat.le_of_ble_eq_true rfl) rfl ?_
  unfold f_X10_heardBy
  refine tw_aload_n (k := 0) rfl rfl ?_
  refine tw_getR (k := 1) rfl fl_RX10_11 (fun x1 => ?_)
  refine tw_bipush (k := 2) (10 : Int32) rfl (by decide) ?_
  refine tw_aload_n (k := 3) rfl rfl ?_
  refine tw_callV (k := 4) (d' := 3) (mc' := 0) (ms' := 0) tw_cI tw_cIi [] rfl rfl wv_RX10_47_X10_toneNow mo_X10_toneNow (t := 9) rfl rfl rfl (fun Q9 => K_X10_toneNow Q9 a0) (by omega) (by decide) (by decide) (Nat.le_of_ble_eq_true rfl) (fun x2 => ?_)
  refine tw_iconst (k := 5) (4 : Int32) rfl (by decide) ?_
  refine tw_join 19 (fun s4 => [some (.ref a0), some (.ref a1), some (.int a2)]) (fun s4 => .int s4 :: .int (10 : Int32) :: .ref x1 :: []) 0 0 (fun s4 => ?_) (fun j3 g3 => ?_)
  · refine tw_iastore (k := 10) rfl ?_
    refine tw_aload_n (k := 11) rfl rfl ?_
    refine tw_iconst (k := 12) (0 : Int32) rfl (by decide) ?_
    refine tw_aload_n (k := 13) rfl rfl ?_
    refine tw_iload_n (k := 14) rfl rfl ?_
    refine tw_callV (k := 15) (d' := 3) (mc' := 0) (ms' := 0) tw_cI tw_cIi [.int (0 : Int32), .ref a0, .int a2] rfl rfl wv_RX10_53_X0_amountFor mo_X0_amountFor (t := 0) rfl rfl rfl (fun Q9 => K_X0_amountFor Q9 a1 (0 : Int32) a0 a2) (by omega) (by decide) (by decide) (Nat.le_of_ble_eq_true rfl) (fun x5 => ?_)
    exact tw_ireturn (k := 16) rfl rfl (by decide) (by decide)
  · refine tw_icmp_ne (k := 6) 18 rfl (by decide) ?_ ?_
    · refine tw_iconst (k := 9) (0 : Int32) rfl (by decide) ?_
      exact g3 (0 : Int32)
    · refine tw_iconst (k := 7) (1 : Int32) rfl (by decide) ?_
      refine tw_goto (k := 8) 19 rfl (by decide) ?_
      exact g3 (1 : Int32)
def mX10_addGuesses : tw_MD := (yX10_addGuesses, cX10_addGuesses, 3, none, [(0, .aload_n 0, 1, 1), (1, .getfield 11, 3, 4), (4, .iconst 2, 1, 5), (5, .iconst 0, 1, 6), (6, .bipush 9, 2, 8), (8, .aload_n 0, 1, 9), (9, .getfield 11, 3, 12), (12, .iconst 2, 1, 13), (13, .iaload, 1, 14), (14, .iload_n 1, 1, 15), (15, .iadd, 1, 16), (16, .invokestatic 65, 3, 19), (19, .invokestatic 70, 3, 22), (22, .iastore, 1, 23), (23, .aload_n 0, 1, 24), (24, .getfield 11, 3, 27), (27, .iconst 3, 1, 28), (28, .iconst 0, 1, 29), (29, .bipush 9, 2, 31), (31, .aload_n 0, 1, 32), (32, .getfield 11, 3, 35), (35, .iconst 3, 1, 36), (36, .iaload, 1, 37), (37, .iload_n 2, 1, 38), (38, .iadd, 1, 39), (39, .invokestatic 65, 3, 42), (42, .invokestatic 70, 3, 45), (45, .iastore, 1, 46), (46, .return_, 1, 47)], [])
theorem mo_X10_addGuesses : tw_mok mX10_addGuesses 2 := ⟨plainFor_of_name (by decide +kernel), by decide +kernel, by decide +kernel, by decide +kernel, by decide +kernel⟩
theorem dk_X10_addGuesses : tw_dk mX10_addGuesses := by unfold tw_dk; decide +kernel
theorem ws_RX10_70_J9_max_7cf53 : tw_wS RX10 70 mJ9_max_7cf53 := ⟨List.mem_of_getElem? (i := 611) (by decide +kernel), List.mem_of_getElem? (i := 582) (by decide +kernel), List.mem_of_getElem? (i := 148) (by decide +kernel), List.mem_of_getElem? (i := 583) (by decide +kernel)⟩
theorem ws_RX10_65_J9_min_7cf53 : tw_wS RX10 65 mJ9_min_7cf53 := ⟨List.mem_of_getElem? (i := 608) (by decide +kernel), List.mem_of_getElem? (i := 609) (by decide +kernel), List.mem_of_getElem? (i := 148) (by decide +kernel), List.mem_of_getElem? (i := 610) (by decide +kernel)⟩
set_option maxRecDepth 20000 in
theorem K_X10_addGuesses {g : tw_Gx} (Q : tw_Rs → tw_Mem → Prop) (a0 : Nat) (a1 : Int32) (a2 : Int32) : tw_Kt g mX10_addGuesses 2 0 0 [.ref a0, .int a1, .int a2] Q (f_X10_addGuesses a0 a1 a2 (fun v => Q (.inl none))) := by
  refine tw_mkK (L := [some (.ref a0), some (.int a1), some (.int a2)]) mo_X10_addGuesses dk_X10_addGuesses rfl (Nat.le_of_ble_eq_true rfl) rfl ?_
  unfold f_X10_addGuesses
  refine tw_aload_n (k := 0) rfl rfl ?_
  refine tw_getR (k := 1) rfl fl_RX10_11 (fun x1 => ?_)
  refine tw_iconst (k := 2) (2 : Int32) rfl (by decide) ?_
  refine tw_iconst (k := 3) (0 : Int32) rfl (by decide) ?_
  refine tw_bipush (k := 4) (9 : Int32) rfl (by decide) ?_
  refine tw_aload_n (k := 5) rfl rfl ?_
  refine tw_getR (k := 6) rfl fl_RX10_11 (fun x2 => ?_)
  refine tw_iconst (k := 7) (2 : Int32) rfl (by decide) ?_
  refine tw_iaload (k := 8) rfl (fun x3 => ?_)
  refine tw_iload_n (k := 9) rfl rfl ?_
  refine tw_iadd (k := 10) rfl ?_
  refine tw_callS (k := 11) (d' := 1) (mc' := 0) (ms' := 0) tw_cI tw_cIi [.int (9 : Int32), .int (x3 + a1)] rfl rfl ws_RX10_65_J9_min_7cf53 mo_J9_min_7cf53 rfl (fun Q9 => K_J9_min_7cf53 Q9 (9 : Int32) (x3 + a1)) (by omega) (by decide) (by decide) (Nat.le_of_ble_eq_true rfl) (fun x4 => ?_)
  refine tw_callS (k := 12) (d' := 1) (mc' := 0) (ms' := 0) tw_cI tw_cIi [.int (0 : Int32), .int x4] rfl rfl ws_RX10_70_J9_max_7cf53 mo_J9_max_7cf53 rfl (fun Q9 => K_J9_max_7cf53 Q9 (0 : Int32) x4) (by omega) (by decide) (by decide) (Nat.le_of_ble_eq_true rfl) (fun x5 => ?_)
  refine tw_iastore (k := 13) rfl ?_
  refine tw_aload_n (k := 14) rfl rfl ?_
  refine tw_getR (k := 15) rfl fl_RX10_11 (fun x6 => ?_)
  refine tw_iconst (k := 16) (3 : Int32) rfl (by decide) ?_
  refine tw_iconst (k := 17) (0 : Int32) rfl (by decide) ?_
  refine tw_bipush (k := 18) (9 : Int32) rfl (by decide) ?_
  refine tw_aload_n (k := 19) rfl rfl ?_
  refine tw_getR (k := 20) rfl fl_RX10_11 (fun x7 => ?_)
  refine tw_iconst (k := 21) (3 : Int32) rfl (by decide) ?_
  refine tw_iaload (k := 22) rfl (fun x8 => ?_)
  refine tw_iload_n (k := 23) rfl rfl ?_
  refine tw_iadd (k := 24) rfl ?_
  refine tw_callS (k := 25) (d' := 1) (mc' := 0) (ms' := 0) tw_cI tw_cIi [.int (9 : Int32), .int (x8 + a2)] rfl rfl ws_RX10_65_J9_min_7cf53 mo_J9_min_7cf53 rfl (fun Q9 => K_J9_min_7cf53 Q9 (9 : Int32) (x8 + a2)) (by omega) (by decide) (by decide) (Nat.le_of_ble_eq_true rfl) (fun x9 => ?_)
  refine tw_callS (k := 26) (d' := 1) (mc' := 0) (ms' := 0) tw_cI tw_cIi [.int (0 : Int32), .int x9] rfl rfl ws_RX10_70_J9_max_7cf53 mo_J9_max_7cf53 rfl (fun Q9 => K_J9_max_7cf53 Q9 (0 : Int32) x9) (by omega) (by decide) (by decide) (Nat.le_of_ble_eq_true rfl) (fun x10 => ?_)
  refine tw_iastore (k := 27) rfl ?_
  exact tw_return (k := 28) rfl rfl (by decide) (by decide)
def mX10_pullOnce : tw_MD := (yX10_pullOnce, cX10_pullOnce, 4, (some FieldType.int), [(0, .aload_n 0, 1, 1), (1, .invokevirtual 47, 3, 4), (4, .istore_n 2, 1, 5), (5, .aload_n 0, 1, 6), (6, .aload_n 1, 1, 7), (7, .iconst 0, 1, 8), (8, .invokevirtual 57, 3, 11), (11, .istore_n 3, 1, 12), (12, .aload_n 0, 1, 13), (13, .iload_n 3, 1, 14), (14, .aload_n 0, 1, 15), (15, .aload_n 1, 1, 16), (16, .iconst 1, 1, 17), (17, .invokevirtual 57, 3, 20), (20, .invokevirtual 61, 3, 23), (23, .iload_n 2, 1, 24), (24, .iconst 4, 1, 25), (25, .if_icmp .ne 24, 3, 28), (28, .aload_n 0, 1, 29), (29, .getfield 11, 3, 32), (32, .bipush 6, 2, 34), (34, .aload_n 0, 1, 35), (35, .getfield 11, 3, 38), (38, .bipush 6, 2, 40), (40, .iaload, 1, 41), (41, .iconst 1, 1, 42), (42, .iadd, 1, 43), (43, .bipush 99, 2, 45), (45, .invokestatic 65, 3, 48), (48, .iastore, 1, 49), (49, .iload_n 2, 1, 50), (50, .ireturn, 1, 51)], [])
theorem mo_X10_pullOnce : tw_mok mX10_pullOnce 1 := ⟨plainFor_of_name (by decide +kernel), by decide +kernel, by decide +kernel, by decide +kernel, by decide +kernel⟩
theorem dk_X10_pullOnce : tw_dk mX10_pullOnce := by unfold tw_dk; decide +kernel
theorem wv_RX10_61_X10_addGuesses : tw_wV RX10 61 mX10_addGuesses := ⟨List.mem_of_getElem? (i := 604) (by decide +kernel), List.mem_of_getElem? (i := 606) (by decide +kernel), List.mem_of_getElem? (i := 2) (by decide +kernel), List.mem_of_getElem? (i := 133) (by decide +kernel), List.mem_of_getElem? (i := 607) (by decide +kernel)⟩
theorem wv_RX10_57_X10_heardBy : tw_wV RX10 57 mX10_heardBy := ⟨List.mem_of_getElem? (i := 584) (by decide +kernel), List.mem_of_getElem? (i := 585) (by decide +kernel), List.mem_of_getElem? (i := 586) (by decide +kernel), List.mem_of_getElem? (i := 133) (by decide +kernel), List.mem_of_getElem? (i := 587) (by decide +kernel)⟩
set_option maxRecDepth 20000 in
theorem K_X10_pullOnce {g : tw_Gx} (Q : tw_Rs → tw_Mem → Prop) (a0 : Nat) (a1 : Nat) : tw_Kt g mX10_pullOnce 5 0 0 [.ref a0, .ref a1] Q (f_X10_pullOnce a0 a1 (fun v => Q (.inl (some (.int v))))) := by
  refine tw_mkK (L := [some (.ref a0), some (.ref a1), none, none]) mo_X10_pullOnce dk_X10_pullOnce rfl (Nat.le_of_ble_eq_true rfl) rfl ?_
  unfold f_X10_pullOnce
  refine tw_aload_n (k := 0) rfl rfl ?_
  refine tw_callV (k := 1) (d' := 3) (mc' := 0) (ms' := 0) tw_cI tw_cIi [] rfl rfl wv_RX10_47_X10_toneNow mo_X10_toneNow (t := 9) rfl rfl rfl (fun Q9 => K_X10_toneNow Q9 a0) (by omega) (by decide) (by decide) (Nat.le_of_ble_eq_true rfl) (fun x1 => ?_)
  refine tw_ist_n (k := 2) [some (.ref a0), some (.ref a1), some (.int x1), none] rfl (Nat.le_of_ble_eq_true rfl) rfl rfl ?_
  refine tw_aload_n (k := 3) rfl rfl ?_
  refine tw_aload_n (k := 4) rfl rfl ?_
  refine tw_iconst (k := 5) (0 : Int32) rfl (by decide) ?_
  refine tw_callV (k := 6) (d' := 4) (mc' := 0) (ms' := 0) tw_cI tw_cIi [.ref a1, .int (0 : Int32)] rfl rfl wv_RX10_57_X10_heardBy mo_X10_heardBy (t := 9) rfl rfl rfl (fun Q9 => K_X10_heardBy Q9 a0 a1 (0 : Int32)) (by omega) (by decide) (by decide) (Nat.le_of_ble_eq_true rfl) (fun x2 => ?_)
  refine tw_ist_n (k := 7) [some (.ref a0), some (.ref a1), some (.int x1), some (.int x2)] rfl (Nat.le_of_ble_eq_true rfl) rfl rfl ?_
  refine tw_aload_n (k := 8) rfl rfl ?_
  refine tw_iload_n (k := 9) rfl rfl ?_
  refine tw_aload_n (k := 10) rfl rfl ?_
  refine tw_aload_n (k := 11) rfl rfl ?_
  refine tw_iconst (k := 12) (1 : Int32) rfl (by decide) ?_
  refine tw_callV (k := 13) (d' := 4) (mc' := 0) (ms' := 0) tw_cI tw_cIi [.ref a1, .int (1 : Int32)] rfl rfl wv_RX10_57_X10_heardBy mo_X10_heardBy (t := 9) rfl rfl rfl (fun Q9 => K_X10_heardBy Q9 a0 a1 (1 : Int32)) (by omega) (by decide) (by decide) (Nat.le_of_ble_eq_true rfl) (fun x3 => ?_)
  refine tw_callV (k := 14) (d' := 2) (mc' := 0) (ms' := 0) tw_cU tw_cUi [.int x2, .int x3] rfl rfl wv_RX10_61_X10_addGuesses mo_X10_addGuesses (t := 9) rfl rfl rfl (fun Q9 => K_X10_addGuesses Q9 a0 x2 x3) (by omega) (by decide) (by decide) (Nat.le_of_ble_eq_true rfl) (fun u4 => ?_)
  refine tw_iload_n (k := 15) rfl rfl ?_
  refine tw_iconst (k := 16) (4 : Int32) rfl (by decide) ?_
  refine tw_icmp_ne (k := 17) 49 rfl (by decide) ?_ ?_
  · refine tw_iload_n (k := 30) rfl rfl ?_
    exact tw_ireturn (k := 31) rfl rfl (by decide) (by decide)
  · refine tw_aload_n (k := 18) rfl rfl ?_
    refine tw_getR (k := 19) rfl fl_RX10_11 (fun x5 => ?_)
    refine tw_bipush (k := 20) (6 : Int32) rfl (by decide) ?_
    refine tw_aload_n (k := 21) rfl rfl ?_
    refine tw_getR (k := 22) rfl fl_RX10_11 (fun x6 => ?_)
    refine tw_bipush (k := 23) (6 : Int32) rfl (by decide) ?_
    refine tw_iaload (k := 24) rfl (fun x7 => ?_)
    refine tw_iconst (k := 25) (1 : Int32) rfl (by decide) ?_
    refine tw_iadd (k := 26) rfl ?_
    refine tw_bipush (k := 27) (99 : Int32) rfl (by decide) ?_
    refine tw_callS (k := 28) (d' := 1) (mc' := 0) (ms' := 0) tw_cI tw_cIi [.int (x7 + (1 : Int32)), .int (99 : Int32)] rfl rfl ws_RX10_65_J9_min_7cf53 mo_J9_min_7cf53 rfl (fun Q9 => K_J9_min_7cf53 Q9 (x7 + (1 : Int32)) (99 : Int32)) (by omega) (by decide) (by decide) (Nat.le_of_ble_eq_true rfl) (fun x8 => ?_)
    refine tw_iastore (k := 29) rfl ?_
    refine tw_iload_n (k := 30) rfl rfl ?_
    exact tw_ireturn (k := 31) rfl rfl (by decide) (by decide)
def mX10_meetOnce : tw_MD := (yX10_meetOnce, cX10_meetOnce, 3, none, [(0, .aload_n 1, 1, 1), (1, .iconst 2, 1, 2), (2, .aload_n 0, 1, 3), (3, .iconst 0, 1, 4), (4, .invokevirtual 53, 3, 7), (7, .istore_n 2, 1, 8), (8, .aload_n 0, 1, 9), (9, .iload_n 2, 1, 10), (10, .aload_n 1, 1, 11), (11, .iconst 2, 1, 12), (12, .aload_n 0, 1, 13), (13, .iconst 1, 1, 14), (14, .invokevirtual 53, 3, 17), (17, .invokevirtual 61, 3, 20), (20, .return_, 1, 21)], [])
theorem mo_X10_meetOnce : tw_mok mX10_meetOnce 1 := ⟨plainFor_of_name (by decide +kernel), by decide +kernel, by decide +kernel, by decide +kernel, by decide +kernel⟩
theorem dk_X10_meetOnce : tw_dk mX10_meetOnce := by unfold tw_dk; decide +kernel
set_option maxRecDepth 20000 in
theorem K_X10_meetOnce {g : tw_Gx} (Q : tw_Rs → tw_Mem → Prop) (a0 : Nat) (a1 : Nat) : tw_Kt g mX10_meetOnce 4 0 0 [.ref a0, .ref a1] Q (f_X10_meetOnce a0 a1 (fun v => Q (.inl none))) := by
  refine tw_mkK (L := [some (.ref a0), some (.ref a1), none]) mo_X10_meetOnce dk_X10_meetOnce rfl (Nat.le_of_ble_eq_true rfl) rfl ?_
  unfold f_X10_meetOnce
  refine tw_aload_n (k := 0) rfl rfl ?_
  refine tw_iconst (k := 1) (2 : Int32) rfl (by decide) ?_
  refine tw_aload_n (k := 2) rfl rfl ?_
  refine tw_iconst (k := 3) (0 : Int32) rfl (by decide) ?_
  refine tw_callV (k := 4) (d' := 3) (mc' := 0) (ms' := 0) tw_cI tw_cIi [.int (2 : Int32), .ref a0, .int (0 : Int32)] rfl rfl wv_RX10_53_X0_amountFor mo_X0_amountFor (t := 0) rfl rfl rfl (fun Q9 => K_X0_amountFor Q9 a1 (2 : Int32) a0 (0 : Int32)) (by omega) (by decide) (by decide) (Nat.le_of_ble_eq_true rfl) (fun x1 => ?_)
  refine tw_ist_n (k := 5) [some (.ref a0), some (.ref a1), some (.int x1)] rfl (Nat.le_of_ble_eq_true rfl) rfl rfl ?_
  refine tw_aload_n (k := 6) rfl rfl ?_
  refine tw_iload_n (k := 7) rfl rfl ?_
  refine tw_aload_n (k := 8) rfl rfl ?_
  refine tw_iconst (k := 9) (2 : Int32) rfl (by decide) ?_
  refine tw_aload_n (k := 10) rfl rfl ?_
  refine tw_iconst (k := 11) (1 : Int32) rfl (by decide) ?_
  refine tw_callV (k := 12) (d' := 3) (mc' := 0) (ms' := 0) tw_cI tw_cIi [.int (2 : Int32), .ref a0, .int (1 : Int32)] rfl rfl wv_RX10_53_X0_amountFor mo_X0_amountFor (t := 0) rfl rfl rfl (fun Q9 => K_X0_amountFor Q9 a1 (2 : Int32) a0 (1 : Int32)) (by omega) (by decide) (by decide) (Nat.le_of_ble_eq_true rfl) (fun x2 => ?_)
  refine tw_callV (k := 13) (d' := 2) (mc' := 0) (ms' := 0) tw_cU tw_cUi [.int x1, .int x2] rfl rfl wv_RX10_61_X10_addGuesses mo_X10_addGuesses (t := 9) rfl rfl rfl (fun Q9 => K_X10_addGuesses Q9 a0 x1 x2) (by omega) (by decide) (by decide) (Nat.le_of_ble_eq_true rfl) (fun u3 => ?_)
  exact tw_return (k := 14) rfl rfl (by decide) (by decide)
def mX10_passHour : tw_MD := (yX10_passHour, cX10_passHour, 1, none, [(0, .aload_n 0, 1, 1), (1, .getfield 11, 3, 4), (4, .bipush 7, 2, 6), (6, .dup2, 1, 7), (7, .iaload, 1, 8), (8, .iconst 1, 1, 9), (9, .iadd, 1, 10), (10, .iastore, 1, 11), (11, .aload_n 0, 1, 12), (12, .getfield 11, 3, 15), (15, .bipush 7, 2, 17), (17, .iaload, 1, 18), (18, .bipush 12, 2, 20), (20, .if_icmp .lt 33, 3, 23), (23, .aload_n 0, 1, 24), (24, .getfield 11, 3, 27), (27, .bipush 7, 2, 29), (29, .iconst 0, 1, 30), (30, .iastore, 1, 31), (31, .aload_n 0, 1, 32), (32, .getfield 11, 3, 35), (35, .bipush 8, 2, 37), (37, .aload_n 0, 1, 38), (38, .getfield 11, 3, 41), (41, .bipush 8, 2, 43), (43, .iaload, 1, 44), (44, .iconst 1, 1, 45), (45, .iadd, 1, 46), (46, .sipush 9999, 3, 49), (49, .invokestatic 65, 3, 52), (52, .iastore, 1, 53), (53, .return_, 1, 54)], [])
theorem mo_X10_passHour : tw_mok mX10_passHour 0 := ⟨plainFor_of_name (by decide +kernel), by decide +kernel, by decide +kernel, by decide +kernel, by decide +kernel⟩
theorem dk_X10_passHour : tw_dk mX10_passHour := by unfold tw_dk; decide +kernel
set_option maxRecDepth 20000 in
theorem K_X10_passHour {g : tw_Gx} (Q : tw_Rs → tw_Mem → Prop) (a0 : Nat) : tw_Kt g mX10_passHour 2 0 0 [.ref a0] Q (f_X10_passHour a0 (fun v => Q (.inl none))) := by
  refine tw_mkK (L := [some (.ref a0)]) mo_X10_passHour dk_X10_passHour rfl (Nat.le_of_ble_eq_true rfl) rfl ?_
  unfold f_X10_passHour
  refine tw_aload_n (k := 0) rfl rfl ?_
  refine tw_getR (k := 1) rfl fl_RX10_11 (fun x1 => ?_)
  refine tw_bipush (k := 2) (7 : Int32) rfl (by decide) ?_
  refine tw_dup2 (k := 3) rfl rfl rfl ?_
  refine tw_iaload (k := 4) rfl (fun x2 => ?_)
  refine tw_iconst (k := 5) (1 : Int32) rfl (by decide) ?_
  refine tw_iadd (k := 6) rfl ?_
  refine tw_iastore (k := 7) rfl ?_
  refine tw_aload_n (k := 8) rfl rfl ?_
  refine tw_getR (k := 9) rfl fl_RX10_11 (fun x3 => ?_)
  refine tw_bipush (k := 10) (7 : Int32) rfl (by decide) ?_
  refine tw_iaload (k := 11) rfl (fun x4 => ?_)
  refine tw_bipush (k := 12) (12 : Int32) rfl (by decide) ?_
  refine tw_icmp_lt (k := 13) 53 rfl (by decide) ?_ ?_
  · exact tw_return (k := 31) rfl rfl (by decide) (by decide)
  · refine tw_aload_n (k := 14) rfl rfl ?_
    refine tw_getR (k := 15) rfl fl_RX10_11 (fun x5 => ?_)
    refine tw_bipush (k := 16) (7 : Int32) rfl (by decide) ?_
    refine tw_iconst (k := 17) (0 : Int32) rfl (by decide) ?_
    refine tw_iastore (k := 18) rfl ?_
    refine tw_aload_n (k := 19) rfl rfl ?_
    refine tw_getR (k := 20) rfl fl_RX10_11 (fun x6 => ?_)
    refine tw_bipush (k := 21) (8 : Int32) rfl (by decide) ?_
    refine tw_aload_n (k := 22) rfl rfl ?_
    refine tw_getR (k := 23) rfl fl_RX10_11 (fun x7 => ?_)
    refine tw_bipush (k := 24) (8 : Int32) rfl (by decide) ?_
    refine tw_iaload (k := 25) rfl (fun x8 => ?_)
    refine tw_iconst (k := 26) (1 : Int32) rfl (by decide) ?_
    refine tw_iadd (k := 27) rfl ?_
    refine tw_sipush (k := 28) (9999 : Int32) rfl (by decide) ?_
    refine tw_callS (k := 29) (d' := 1) (mc' := 0) (ms' := 0) tw_cI tw_cIi [.int (x8 + (1 : Int32)), .int (9999 : Int32)] rfl rfl ws_RX10_65_J9_min_7cf53 mo_J9_min_7cf53 rfl (fun Q9 => K_J9_min_7cf53 Q9 (x8 + (1 : Int32)) (9999 : Int32)) (by omega) (by decide) (by decide) (Nat.le_of_ble_eq_true rfl) (fun x9 => ?_)
    refine tw_iastore (k := 30) rfl ?_
    exact tw_return (k := 31) rfl rfl (by decide) (by decide)
