def mX12_init : tw_MD := (yX12_init, cX12_init, 2, none, [(0, .aload_n 0, 1, 1), (1, .invokespecial 7, 3, 4), (4, .aload_n 0, 1, 5), (5, .sipush 2190, 3, 8), (8, .newarray .int, 2, 10), (10, .putfield 13, 3, 13), (13, .aload_n 0, 1, 14), (14, .sipush 1341, 3, 17), (17, .newarray .int, 2, 19), (19, .putfield 17, 3, 22), (22, .aload_n 0, 1, 23), (23, .sipush 1341, 3, 26), (26, .newarray .int, 2, 28), (28, .putfield 20, 3, 31), (31, .aload_n 0, 1, 32), (32, .sipush 492, 3, 35), (35, .newarray .int, 2, 37), (37, .putfield 23, 3, 40), (40, .aload_n 0, 1, 41), (41, .sipush 5904, 3, 44), (44, .newarray .int, 2, 46), (46, .putfield 26, 3, 49), (49, .aload_n 0, 1, 50), (50, .sipush 400, 3, 53), (53, .newarray .byte, 2, 55), (55, .putfield 29, 3, 58), (58, .aload_n 0, 1, 59), (59, .iconst (-1), 1, 60), (60, .putfield 33, 3, 63), (63, .aload_n 0, 1, 64), (64, .iconst 5, 1, 65), (65, .newarray .int, 2, 67), (67, .putfield 36, 3, 70), (70, .aload_n 0, 1, 71), (71, .sipush 400, 3, 74), (74, .newarray .int, 2, 76), (76, .putfield 39, 3, 79), (79, .aload_n 0, 1, 80), (80, .bipush 64, 2, 82), (82, .newarray .int, 2, 84), (84, .putfield 42, 3, 87), (87, .aload_n 0, 1, 88), (88, .sipush 256, 3, 91), (91, .newarray .int, 2, 93), (93, .putfield 45, 3, 96), (96, .aload_n 0, 1, 97), (97, .bipush 64, 2, 99), (99, .newarray .int, 2, 101), (101, .putfield 48, 3, 104), (104, .aload_n 0, 1, 105), (105, .iconst 4, 1, 106), (106, .newarray .long, 2, 108), (108, .putfield 51, 3, 111), (111, .aload_n 0, 1, 112), (112, .getfield 13, 3, 115), (115, .iconst 5, 1, 116), (116, .iconst 5, 1, 117), (117, .iastore, 1, 118), (118, .aload_n 0, 1, 119), (119, .getfield 13, 3, 122), (122, .bipush 7, 2, 124), (124, .iconst 1, 1, 125), (125, .iastore, 1, 126), (126, .iconst 0, 1, 127), (127, .istore_n 1, 1, 128), (128, .iload_n 1, 1, 129), (129, .bipush 24, 2, 131), (131, .if_icmp .ge 19, 3, 134), (134, .aload_n 0, 1, 135), (135, .getfield 13, 3, 138), (138, .bipush 8, 2, 140), (140, .iload_n 1, 1, 141), (141, .iadd, 1, 142), (142, .iconst (-1), 1, 143), (143, .iastore, 1, 144), (144, .iinc 1 1, 3, 147), (147, .goto (-19), 3, 150), (150, .return_, 1, 151)], [])
theorem mo_X12_init : tw_mok mX12_init 0 := ⟨plainFor_of_name (by decide +kernel), by decide +kernel, by decide +kernel, by decide +kernel, by decide +kernel⟩
theorem dk_X12_init : tw_dk mX12_init := by unfold tw_dk; decide +kernel
theorem km_RX12_7 : Cond.methodLink RX12 7 Lib.objectInit ∈ lw_tbl := List.mem_of_getElem? (i := 1789) (by decide +kernel)
theorem fl_RX12_13 : tw_fl RX12 13 71 := Or.inl (List.mem_of_getElem? (i := 1791) (by decide +kernel))
theorem fl_RX12_17 : tw_fl RX12 17 72 := Or.inl (List.mem_of_getElem? (i := 1792) (by decide +kernel))
theorem fl_RX12_20 : tw_fl RX12 20 73 := Or.inl (List.mem_of_getElem? (i := 1793) (by decide +kernel))
theorem fl_RX12_23 : tw_fl RX12 23 74 := Or.inl (List.mem_of_getElem? (i := 1794) (by decide +kernel))
theorem fl_RX12_26 : tw_fl RX12 26 75 := Or.inl (List.mem_of_getElem? (i := 1795) (by decide +kernel))
theorem fl_RX12_29 : tw_fl RX12 29 78 := Or.inl (List.mem_of_getElem? (i := 1798) (by decide +kernel))
theorem fl_RX12_33 : tw_fl RX12 33 84 := Or.inl (List.mem_of_getElem? (i := 1804) (by decide +kernel))
theorem fl_RX12_36 : tw_fl RX12 36 85 := Or.inl (List.mem_of_getElem? (i := 1805) (by decide +kernel))
theorem fl_RX12_39 : tw_fl RX12 39 87 := Or.inl (List.mem_of_getElem? (i := 1807) (by decide +kernel))
theorem fl_RX12_42 : tw_fl RX12 42 89 := Or.inl (List.mem_of_getElem? (i := 1809) (by decide +kernel))
theorem fl_RX12_45 : tw_fl RX12 45 90 := Or.inl (List.mem_of_getElem? (i := 1810) (by decide +kernel))
theorem fl_RX12_48 : tw_fl RX12 48 91 := Or.inl (List.mem_of_getElem? (i := 1811) (by decide +kernel))
theorem fl_RX12_51 : tw_fl RX12 51 92 := Or.inl (List.mem_of_getElem? (i := 1812) (by decide +kernel))
theorem wf_X12_init_51 : tw_wf mX12_init 51 92 := Or.inr ⟨by decide +kernel, by decide +kernel, List.mem_of_getElem? (i := 1812) (by decide +kernel)⟩
theorem ka_long : Cond.arrayClass .long ∈ lw_tbl := List.mem_of_getElem? (i := 1860) (by decide +kernel)
theorem wf_X12_init_48 : tw_wf mX12_init 48 91 := Or.inr ⟨by decide +kernel, by decide +kernel, List.mem_of_getElem? (i := 1811) (by decide +kernel)⟩
theorem wf_X12_init_45 : tw_wf mX12_init 45 90 := Or.inr ⟨by decide +kernel, by decide +kernel, List.mem_of_getElem? (i := 1810) (by decide +kernel)⟩
theorem wf_X12_init_42 : tw_wf mX12_init 42 89 := Or.inr ⟨by decide +kernel, by decide +kernel, List.mem_of_getElem? (i := 1809) (by decide +kernel)⟩
theorem wf_X12_init_39 : tw_wf mX12_init 39 87 := Or.inr ⟨by decide +kernel, by decide +kernel, List.mem_of_getElem? (i := 1807) (by decide +kernel)⟩
theorem wf_X12_init_36 : tw_wf mX12_init 36 85 := Or.inr ⟨by decide +kernel, by decide +kernel, List.mem_of_getElem? (i := 1805) (by decide +kernel)⟩
theorem wf_X12_init_33 : tw_wf mX12_init 33 84 := Or.inl rfl
theorem wf_X12_init_29 : tw_wf mX12_init 29 78 := Or.inr ⟨by decide +kernel, by decide +kernel, List.mem_of_getElem? (i := 1798) (by decide +kernel)⟩
theorem ka_byte : Cond.arrayClass .byte ∈ lw_tbl := List.mem_of_getElem? (i := 1195) (by decide +kernel)
theorem wf_X12_init_26 : tw_wf mX12_init 26 75 := Or.inr ⟨by decide +kernel, by decide +kernel, List.mem_of_getElem? (i := 1795) (by decide +kernel)⟩
theorem wf_X12_init_23 : tw_wf mX12_init 23 74 := Or.inr ⟨by decide +kernel, by decide +kernel, List.mem_of_getElem? (i := 1794) (by decide +kernel)⟩
theorem wf_X12_init_20 : tw_wf mX12_init 20 73 := Or.inr ⟨by decide +kernel, by decide +kernel, List.mem_of_getElem? (i := 1793) (by decide +kernel)⟩
theorem wf_X12_init_17 : tw_wf mX12_init 17 72 := Or.inr ⟨by decide +kernel, by decide +kernel, List.mem_of_getElem? (i := 1792) (by decide +kernel)⟩
theorem wf_X12_init_13 : tw_wf mX12_init 13 71 := Or.inr ⟨by decide +kernel, by decide +kernel, List.mem_of_getElem? (i := 1791) (by decide +kernel)⟩
set_option maxRecDepth 20000 in
theorem K_X12_init {g : tw_Gx} (Q : tw_Rs → tw_Mem → Prop) (a0 : Nat) : tw_Kt g mX12_init 1 12 12461 [.ref a0] Q (f_X12_init a0 (fun v => Q (.inl none))) := by
  refine tw_mkK (L := [some (.ref a0), none]) mo_X12_init dk_X12_init rfl (Nat.le_of_ble_eq_true rfl) rfl ?_
  unfold f_X12_init
  refine tw_aload_n (k := 0) rfl rfl ?_
  refine tw_objInit (k := 1) rfl km_RX12_7 koi koc (by omega) (Nat.le_of_ble_eq_true rfl) ?_
  refine tw_aload_n (k := 2) rfl rfl ?_
  refine tw_sipush (k := 3) (2190 : Int32) rfl (by decide) ?_
  refine tw_newI (k := 4) 2190 rfl ka_int (by decide) (by decide) (by decide) (fun b1 => ?_)
  refine tw_putR (k := 5) (ty := (.array .int)) rfl fl_RX12_13 wf_X12_init_13 (by decide +kernel) rfl rfl ?_
  refine tw_aload_n (k := 6) rfl rfl ?_
  refine tw_sipush (k := 7) (1341 : Int32) rfl (by decide) ?_
  refine tw_newI (k := 8) 1341 rfl ka_int (by decide) (by decide) (by decide) (fun b2 => ?_)
  refine tw_putR (k := 9) (ty := (.array .int)) rfl fl_RX12_17 wf_X12_init_17 (by decide +kernel) rfl rfl ?_
  refine tw_aload_n (k := 10) rfl rfl ?_
  refine tw_sipush (k := 11) (1341 : Int32) rfl (by decide) ?_
  refine tw_newI (k := 12) 1341 rfl ka_int (by decide) (by decide) (by decide) (fun b3 => ?_)
  refine tw_putR (k := 13) (ty := (.array .int)) rfl fl_RX12_20 wf_X12_init_20 (by decide +kernel) rfl rfl ?_
  refine tw_aload_n (k := 14) rfl rfl ?_
  refine tw_sipush (k := 15) (492 : Int32) rfl (by decide) ?_
  refine tw_newI (k := 16) 492 rfl ka_int (by decide) (by decide) (by decide) (fun b4 => ?_)
  refine tw_putR (k := 17) (ty := (.array .int)) rfl fl_RX12_23 wf_X12_init_23 (by decide +kernel) rfl rfl ?_
  refine tw_aload_n (k := 18) rfl rfl ?_
  refine tw_sipush (k := 19) (5904 : Int32) rfl (by decide) ?_
  refine tw_newI (k := 20) 5904 rfl ka_int (by decide) (by decide) (by decide) (fun b5 => ?_)
  refine tw_putR (k := 21) (ty := (.array .int)) rfl fl_RX12_26 wf_X12_init_26 (by decide +kernel) rfl rfl ?_
  refine tw_aload_n (k := 22) rfl rfl ?_
  refine tw_sipush (k := 23) (400 : Int32) rfl (by decide) ?_
  refine tw_newB (k := 24) 400 rfl ka_byte (by decide) (by decide) (by decide) (fun b6 => ?_)
  refine tw_putR (k := 25) (ty := (.array .byte)) rfl fl_RX12_29 wf_X12_init_29 (by decide +kernel) rfl rfl ?_
  refine tw_aload_n (k := 26) rfl rfl ?_
  refine tw_iconst (k := 27) (-1 : Int32) rfl (by decide) ?_
  refine tw_putI (k := 28) rfl fl_RX12_33 wf_X12_init_33 (by decide +kernel) ?_
  refine tw_aload_n (k := 29) rfl rfl ?_
  refine tw_iconst (k := 30) (5 : Int32) rfl (by decide) ?_
  refine tw_newI (k := 31) 5 rfl ka_int (by decide) (by decide) (by decide) (fun b7 => ?_)
  refine tw_putR (k := 32) (ty := (.array .int)) rfl fl_RX12_36 wf_X12_init_36 (by decide +kernel) rfl rfl ?_
  refine tw_aload_n (k := 33) rfl rfl ?_
  refine tw_sipush (k := 34) (400 : Int32) rfl (by decide) ?_
  refine tw_newI (k := 35) 400 rfl ka_int (by decide) (by decide) (by decide) (fun b8 => ?_)
  refine tw_putR (k := 36) (ty := (.array .int)) rfl fl_RX12_39 wf_X12_init_39 (by decide +kernel) rfl rfl ?_
  refine tw_aload_n (k := 37) rfl rfl ?_
  refine tw_bipush (k := 38) (64 : Int32) rfl (by decide) ?_
  refine tw_newI (k := 39) 64 rfl ka_int (by decide) (by decide) (by decide) (fun b9 => ?_)
  refine tw_putR (k := 40) (ty := (.array .int)) rfl fl_RX12_42 wf_X12_init_42 (by decide +kernel) rfl rfl ?_
  refine tw_aload_n (k := 41) rfl rfl ?_
  refine tw_sipush (k := 42) (256 : Int32) rfl (by decide) ?_
  refine tw_newI (k := 43) 256 rfl ka_int (by decide) (by decide) (by decide) (fun b10 => ?_)
  refine tw_putR (k := 44) (ty := (.array .int)) rfl fl_RX12_45 wf_X12_init_45 (by decide +kernel) rfl rfl ?_
  refine tw_aload_n (k := 45) rfl rfl ?_
  refine tw_bipush (k := 46) (64 : Int32) rfl (by decide) ?_
  refine tw_newI (k := 47) 64 rfl ka_int (by decide) (by decide) (by decide) (fun b11 => ?_)
  refine tw_putR (k := 48) (ty := (.array .int)) rfl fl_RX12_48 wf_X12_init_48 (by decide +kernel) rfl rfl ?_
  refine tw_aload_n (k := 49) rfl rfl ?_
  refine tw_iconst (k := 50) (4 : Int32) rfl (by decide) ?_
  refine tw_newL (k := 51) 4 rfl ka_long (by decide) (by decide) (by decide) (fun b12 => ?_)
  refine tw_putR (k := 52) (ty := (.array .long)) rfl fl_RX12_51 wf_X12_init_51 (by decide +kernel) rfl rfl ?_
  refine tw_aload_n (k := 53) rfl rfl ?_
  refine tw_getR (k := 54) rfl fl_RX12_13 (fun x13 => ?_)
  refine tw_iconst (k := 55) (5 : Int32) rfl (by decide) ?_
  refine tw_iconst (k := 56) (5 : Int32) rfl (by decide) ?_
  refine tw_iastore (k := 57) rfl ?_
  refine tw_aload_n (k := 58) rfl rfl ?_
  refine tw_getR (k := 59) rfl fl_RX12_13 (fun x14 => ?_)
  refine tw_bipush (k := 60) (7 : Int32) rfl (by decide) ?_
  refine tw_iconst (k := 61) (1 : Int32) rfl (by decide) ?_
  refine tw_iastore (k := 62) rfl ?_
  refine tw_iconst (k := 63) (0 : Int32) rfl (by decide) ?_
  refine tw_ist_n (k := 64) [some (.ref a0), some (.int (0 : Int32))] rfl (Nat.le_of_ble_eq_true rfl) rfl rfl ?_
  refine tw_loop (fun s16 => [some (.ref a0), some (.int s16)]) (fun s16 => []) (fun r15 h15 s16 => ?_) _ rfl rfl
  refine tw_iload_n (k := 65) rfl rfl ?_
  refine tw_bipush (k := 66) (24 : Int32) rfl (by decide) ?_
  refine tw_icmp_ge (k := 67) 150 rfl (by decide) ?_ ?_
  · exact tw_return (k := 77) rfl rfl (by decide) (by decide)
  · refine tw_aload_n (k := 68) rfl rfl ?_
    refine tw_getR (k := 69) rfl fl_RX12_13 (fun x17 => ?_)
    refine tw_bipush (k := 70) (8 : Int32) rfl (by decide) ?_
    refine tw_iload_n (k := 71) rfl rfl ?_
    refine tw_iadd (k := 72) rfl ?_
    refine tw_iconst (k := 73) (-1 : Int32) rfl (by decide) ?_
    refine tw_iastore (k := 74) rfl ?_
    refine tw_inc (k := 75) (1 : Int32) [some (.ref a0), some (.int (s16 + (1 : Int32)))] rfl rfl (by decide) (Nat.le_of_ble_eq_true rfl) rfl rfl ?_
    refine tw_goto (k := 76) 128 rfl (by decide) ?_
    exact h15 (s16 + (1 : Int32))
def mX12_thrown : tw_MD := (yX12_thrown, cX12_thrown, 1, (some FieldType.int), [(0, .aload_n 0, 1, 1), (1, .getfield 3, 3, 4), (4, .ireturn, 1, 5)], [])
theorem mo_X12_thrown : tw_mok mX12_thrown 0 := ⟨plainFor_of_name (by decide +kernel), by decide +kernel, by decide +kernel, by decide +kernel, by decide +kernel⟩
theorem dk_X12_thrown : tw_dk mX12_thrown := by unfold tw_dk; decide +kernel
theorem fl_RX12_3 : tw_fl RX12 3 70 := Or.inl (List.mem_of_getElem? (i := 1790) (by decide +kernel))
set_option maxRecDepth 20000 in
theorem K_X12_thrown {g : tw_Gx} (Q : tw_Rs → tw_Mem → Prop) (a0 : Nat) : tw_Kt g mX12_thrown 1 0 0 [.ref a0] Q (f_X12_thrown a0 (fun v => Q (.inl (some (.int v))))) := by
  refine tw_mkK (L := [some (.ref a0)]) mo_X12_thrown dk_X12_thrown rfl (Nat.le_of_ble_eq_true rfl) rfl ?_
  unfold f_X12_thrown
  refine tw_aload_n (k := 0) rfl rfl ?_
  refine tw_getI (k := 1) rfl fl_RX12_3 (fun x1 => ?_)
  exact tw_ireturn (k := 2) rfl rfl (by decide) (by decide)
def mX12_throwsIf : tw_MD := (yX12_throwsIf, cX12_throwsIf, 3, (some FieldType.boolean), [(0, .iload_n 1, 1, 1), (1, .ifCond .eq 8, 3, 4), (4, .aload_n 0, 1, 5), (5, .iload_n 2, 1, 6), (6, .putfield 3, 3, 9), (9, .iload_n 1, 1, 10), (10, .ireturn, 1, 11)], [])
theorem mo_X12_throwsIf : tw_mok mX12_throwsIf 2 := ⟨plainFor_of_name (by decide +kernel), by decide +kernel, by decide +kernel, by decide +kernel, by decide +kernel⟩
theorem dk_X12_throwsIf : tw_dk mX12_throwsIf := by unfold tw_dk; decide +kernel
theorem wf_X12_throwsIf_3 : tw_wf mX12_throwsIf 3 70 := Or.inl rfl
set_option maxRecDepth 20000 in
theorem K_X12_throwsIf {g : tw_Gx} (Q : tw_Rs → tw_Mem → Prop) (a0 : Nat) (a1 : Int32) (a2 : Int32) : tw_Kt g mX12_throwsIf 1 0 0 [.ref a0, .int a1, .int a2] Q (f_X12_throwsIf a0 a1 a2 (fun v => Q (.inl (some (.int v))))) := by
  refine tw_mkK (L := [some (.ref a0), some (.int a1), some (.int a2)]) mo_X12_throwsIf dk_X12_throwsIf rfl (Nat.le_of_ble_eq_true rfl) rfl ?_
  unfold f_X12_throwsIf
  refine tw_iload_n (k := 0) rfl rfl ?_
  refine tw_if_eq (k := 1) 9 rfl (by decide) ?_ ?_
  · refine tw_iload_n (k := 5) rfl rfl ?_
    exact tw_zreturn (k := 6) rfl rfl (by decide) (by decide)
  · refine tw_aload_n (k := 2) rfl rfl ?_
    refine tw_iload_n (k := 3) rfl rfl ?_
    refine tw_putI (k := 4) rfl fl_RX12_3 wf_X12_throwsIf_3 (by decide +kernel) ?_
    refine tw_iload_n (k := 5) rfl rfl ?_
    exact tw_zreturn (k := 6) rfl rfl (by decide) (by decide)
def mX12_in : tw_MD := (yX12_in, cX12_in, 3, (some FieldType.boolean), [(0, .iload_n 0, 1, 1), (1, .iload_n 1, 1, 2), (2, .if_icmp .lt 12, 3, 5), (5, .iload_n 0, 1, 6), (6, .iload_n 2, 1, 7), (7, .if_icmp .gt 7, 3, 10), (10, .iconst 1, 1, 11), (11, .goto 4, 3, 14), (14, .iconst 0, 1, 15), (15, .ireturn, 1, 16)], [])
theorem mo_X12_in : tw_mok mX12_in 3 := ⟨plainFor_of_name (by decide +kernel), by decide +kernel, by decide +kernel, by decide +kernel, by decide +kernel⟩
theorem dk_X12_in : tw_dk mX12_in := by unfold tw_dk; decide +kernel
set_option maxRecDepth 20000 in
theorem K_X12_in {g : tw_Gx} (Q : tw_Rs → tw_Mem → Prop) (a0 : Int32) (a1 : Int32) (a2 : Int32) : tw_Kt g mX12_in 1 0 0 [.int a0, .int a1, .int a2] Q (f_X12_in a0 a1 a2 (fun v => Q (.inl (some (.int v))))) := by
  refine tw_mkK (L := [some (.int a0), some (.int a1), some (.int a2)]) mo_X12_in dk_X12_in rfl (Nat.le_of_ble_eq_true rfl) rfl ?_
  unfold f_X12_in
  refine tw_iload_n (k := 0) rfl rfl ?_
  refine tw_iload_n (k := 1) rfl rfl ?_
  refine tw_icmp_lt (k := 2) 14 rfl (by decide) ?_ ?_
  · refine tw_iconst (k := 8) (0 : Int32) rfl (by decide) ?_
    exact tw_zreturn (k := 9) rfl rfl (by decide) (by decide)
  · refine tw_iload_n (k := 3) rfl rfl ?_
    refine tw_iload_n (k := 4) rfl rfl ?_
    refine tw_icmp_gt (k := 5) 14 rfl (by decide) ?_ ?_
    · refine tw_iconst (k := 8) (0 : Int32) rfl (by decide) ?_
      exact tw_zreturn (k := 9) rfl rfl (by decide) (by decide)
    · refine tw_iconst (k := 6) (1 : Int32) rfl (by decide) ?_
      refine tw_goto (k := 7) 15 rfl (by decide) ?_
      exact tw_zreturn (k := 9) rfl rfl (by decide) (by decide)
def mX12_has : tw_MD := (yX12_has, cX12_has, 2, (some FieldType.boolean), [(0, .iload_n 0, 1, 1), (1, .iload_n 1, 1, 2), (2, .ishr, 1, 3), (3, .iconst 1, 1, 4), (4, .iand, 1, 5), (5, .iconst 1, 1, 6), (6, .if_icmp .ne 7, 3, 9), (9, .iconst 1, 1, 10), (10, .goto 4, 3, 13), (13, .iconst 0, 1, 14), (14, .ireturn, 1, 15)], [])
theorem mo_X12_has : tw_mok mX12_has 2 := ⟨plainFor_of_name (by decide +kernel), by decide +kernel, by decide +kernel, by decide +kernel, by decide +kernel⟩
theorem dk_X12_has : tw_dk mX12_has := by unfold tw_dk; decide +kernel
set_option maxRecDepth 20000 in
theorem K_X12_has {g : tw_Gx} (Q : tw_Rs → tw_Mem → Prop) (a0 : Int32) (a1 : Int32) : tw_Kt g mX12_has 1 0 0 [.int a0, .int a1] Q (f_X12_has a0 a1 (fun v => Q (.inl (some (.int v))))) := by
  refine tw_mkK (L := [some (.int a0), some (.int a1)]) mo_X12_has dk_X12_has rfl (Nat.le_of_ble_eq_true rfl) rfl ?_
  unfold f_X12_has
  refine tw_iload_n (k := 0) rfl rfl ?_
  refine tw_iload_n (k := 1) rfl rfl ?_
  refine tw_ishr (k := 2) rfl ?_
  refine tw_iconst (k := 3) (1 : Int32) rfl (by decide) ?_
  refine tw_iand (k := 4) rfl ?_
  refine tw_iconst (k := 5) (1 : Int32) rfl (by decide) ?_
  refine tw_icmp_ne (k := 6) 13 rfl (by decide) ?_ ?_
  · refine tw_iconst (k := 9) (0 : Int32) rfl (by decide) ?_
    exact tw_zreturn (k := 10) rfl rfl (by decide) (by decide)
  · refine tw_iconst (k := 7) (1 : Int32) rfl (by decide) ?_
    refine tw_goto (k := 8) 14 rfl (by decide) ?_
    exact tw_zreturn (k := 10) rfl rfl (by decide) (by decide)
def mX12_image : tw_MD := (yX12_image, cX12_image, 2, none, [(0, .aload_n 0, 1, 1), (1, .iconst 0, 1, 2), (2, .putfield 3, 3, 5), (5, .iconst 0, 1, 6), (6, .istore_n 1, 1, 7), (7, .iload_n 1, 1, 8), (8, .sipush 1341, 3, 11), (11, .if_icmp .ge 21, 3, 14), (14, .aload_n 0, 1, 15), (15, .getfield 17, 3, 18), (18, .iload_n 1, 1, 19), (19, .aload_n 0, 1, 20), (20, .getfield 13, 3, 23), (23, .iload_n 1, 1, 24), (24, .iaload, 1, 25), (25, .iastore, 1, 26), (26, .iinc 1 1, 3, 29), (29, .goto (-22), 3, 32), (32, .aload_n 0, 1, 33), (33, .iconst 1, 1, 34), (34, .putfield 55, 3, 37), (37, .return_, 1, 38)], [])
theorem mo_X12_image : tw_mok mX12_image 0 := ⟨plainFor_of_name (by decide +kernel), by decide +kernel, by decide +kernel, by decide +kernel, by decide +kernel⟩
theorem dk_X12_image : tw_dk mX12_image := by unfold tw_dk; decide +kernel
theorem fl_RX12_55 : tw_fl RX12 55 76 := Or.inl (List.mem_of_getElem? (i := 1796) (by decide +kernel))
theorem wf_X12_image_55 : tw_wf mX12_image 55 76 := Or.inl rfl
theorem wf_X12_image_3 : tw_wf mX12_image 3 70 := Or.inl rfl
set_option maxRecDepth 20000 in
theorem K_X12_image {g : tw_Gx} (Q : tw_Rs → tw_Mem → Prop) (a0 : Nat) : tw_Kt g mX12_image 1 0 0 [.ref a0] Q (f_X12_image a0 (fun v => Q (.inl none))) := by
  refine tw_mkK (L := [some (.ref a0), none]) mo_X12_image dk_X12_image rfl (Nat.le_of_ble_eq_true rfl) rfl ?_
  unfold f_X12_image
  refine tw_aload_n (k := 0) rfl rfl ?_
  refine tw_iconst (k := 1) (0 : Int32) rfl (by decide) ?_
  refine tw_putI (k := 2) rfl fl_RX12_3 wf_X12_image_3 (by decide +kernel) ?_
  refine tw_iconst (k := 3) (0 : Int32) rfl (by decide) ?_
  refine tw_ist_n (k := 4) [some (.ref a0), some (.int (0 : Int32))] rfl (Nat.le_of_ble_eq_true rfl) rfl rfl ?_
  refine tw_loop (fun s2 => [some (.ref a0), some (.int s2)]) (fun s2 => []) (fun r1 h1 s2 => ?_) _ rfl rfl
  refine tw_iload_n (k := 5) rfl rfl ?_
  refine tw_sipush (k := 6) (1341 : Int32) rfl (by decide) ?_
  refine tw_icmp_ge (k := 7) 32 rfl (by decide) ?_ ?_
  · refine tw_aload_n (k := 18) rfl rfl ?_
    refine tw_iconst (k := 19) (1 : Int32) rfl (by decide) ?_
    refine tw_putZ (k := 20) rfl fl_RX12_55 wf_X12_image_55 (by decide +kernel) ?_
    exact tw_return (k := 21) rfl rfl (by decide) (by decide)
  · refine tw_aload_n (k := 8) rfl rfl ?_
    refine tw_getR (k := 9) rfl fl_RX12_17 (fun x3 => ?_)
    refine tw_iload_n (k := 10) rfl rfl ?_
    refine tw_aload_n (k := 11) rfl rfl ?_
    refine tw_getR (k := 12) rfl fl_RX12_13 (fun x4 => ?_)
    refine tw_iload_n (k := 13) rfl rfl ?_
    refine tw_iaload (k := 14) rfl (fun x5 => ?_)
    refine tw_iastore (k := 15) rfl ?_
    refine tw_inc (k := 16) (1 : Int32) [some (.ref a0), some (.int (s2 + (1 : Int32)))] rfl rfl (by decide) (Nat.le_of_ble_eq_true rfl) rfl rfl ?_
    refine tw_goto (k := 17) 7 rfl (by decide) ?_
    exact h1 (s2 + (1 : Int32))
def mX12_back : tw_MD := (yX12_back, cX12_back, 2, (some FieldType.boolean), [(0, .aload_n 0, 1, 1), (1, .iconst 0, 1, 2), (2, .putfield 3, 3, 5), (5, .aload_n 0, 1, 6), (6, .getfield 55, 3, 9), (9, .ifCond .ne 5, 3, 12), (12, .iconst 0, 1, 13), (13, .ireturn, 1, 14), (14, .iconst 0, 1, 15), (15, .istore_n 1, 1, 16), (16, .iload_n 1, 1, 17), (17, .sipush 1341, 3, 20), (20, .if_icmp .ge 21, 3, 23), (23, .aload_n 0, 1, 24), (24, .getfield 13, 3, 27), (27, .iload_n 1, 1, 28), (28, .aload_n 0, 1, 29), (29, .getfield 17, 3, 32), (32, .iload_n 1, 1, 33), (33, .iaload, 1, 34), (34, .iastore, 1, 35), (35, .iinc 1 1, 3, 38), (38, .goto (-22), 3, 41), (41, .aload_n 0, 1, 42), (42, .iconst 0, 1, 43), (43, .putfield 59, 3, 46), (46, .iconst 1, 1, 47), (47, .ireturn, 1, 48)], [])
theorem mo_X12_back : tw_mok mX12_back 0 := ⟨plainFor_of_name (by decide +kernel), by decide +kernel, by decide +kernel, by decide +kernel, by decide +kernel⟩
theorem dk_X12_back : tw_dk mX12_back := by unfold tw_dk; decide +kernel
theorem fl_RX12_59 : tw_fl RX12 59 77 := Or.inl (List.mem_of_getElem? (i := 1797) (by decide +kernel))
theorem wf_X12_back_59 : tw_wf mX12_back 59 77 := Or.inl rfl
theorem wf_X12_back_3 : tw_wf mX12_back 3 70 := Or.inl rfl
set_option maxRecDepth 20000 in
theorem K_X12_back {g : tw_Gx} (Q : tw_Rs → tw_Mem → Prop) (a0 : Nat) : tw_Kt g mX12_back 1 0 0 [.ref a0] Q (f_X12_back a0 (fun v => Q (.inl (some (.int v))))) := by
  refine tw_mkK (L := [some (.ref a0), none]) mo_X12_back dk_X12_back rfl (Nat.le_of_ble_eq_true rfl) rfl ?_
  unfold f_X12_back
  refine tw_aload_n (k := 0) rfl rfl ?_
  refine tw_iconst (k := 1) (0 : Int32) rfl (by decide) ?_
  refine tw_putI (k := 2) rfl fl_RX12_3 wf_X12_back_3 (by decide +kernel) ?_
  refine tw_aload_n (k := 3) rfl rfl ?_
  refine tw_getI (k := 4) rfl fl_RX12_55 (fun x1 => ?_)
  refine tw_if_ne (k := 5) 14 rfl (by decide) ?_ ?_
  · refine tw_iconst (k := 8) (0 : Int32) rfl (by decide) ?_
    refine tw_ist_n (k := 9) [some (.ref a0), some (.int (0 : Int32))] rfl (Nat.le_of_ble_eq_true rfl) rfl rfl ?_
    refine tw_loop (fun s3 => [some (.ref a0), some (.int s3)]) (fun s3 => []) (fun r2 h2 s3 => ?_) _ rfl rfl
    refine tw_iload_n (k := 10) rfl rfl ?_
    refine tw_sipush (k := 11) (1341 : Int32) rfl (by decide) ?_
    refine tw_icmp_ge (k := 12) 41 rfl (by decide) ?_ ?_
    · refine tw_aload_n (k := 23) rfl rfl ?_
      refine tw_iconst (k := 24) (0 : Int32) rfl (by decide) ?_
      refine tw_putI (k := 25) rfl fl_RX12_59 wf_X12_back_59 (by decide +kernel) ?_
      refine tw_iconst (k := 26) (1 : Int32) rfl (by decide) ?_
      exact tw_zreturn (k := 27) rfl rfl (by decide) (by decide)
    · refine tw_aload_n (k := 13) rfl rfl ?_
      refine tw_getR (k := 14) rfl fl_RX12_13 (fun x4 => ?_)
      refine tw_iload_n (k := 15) rfl rfl ?_
      refine tw_aload_n (k := 16) rfl rfl ?_
      refine tw_getR (k := 17) rfl fl_RX12_17 (fun x5 => ?_)
      refine tw_iload_n (k := 18) rfl rfl ?_
      refine tw_iaload (k := 19) rfl (fun x6 => ?_)
      refine tw_iastore (k := 20) rfl ?_
      refine tw_inc (k := 21) (1 : Int32) [some (.ref a0), some (.int (s3 + (1 : Int32)))] rfl rfl (by decide) (Nat.le_of_ble_eq_true rfl) rfl rfl ?_
      refine tw_goto (k := 22) 16 rfl (by decide) ?_
      exact h2 (s3 + (1 : Int32))
  · refine tw_iconst (k := 6) (0 : Int32) rfl (by decide) ?_
    exact tw_zreturn (k := 7) rfl rfl (by decide) (by decide)
def mX12_remembers : tw_MD := (yX12_remembers, cX12_remembers, 2, none, [(0, .aload_n 0, 1, 1), (1, .getfield 59, 3, 4), (4, .bipush 12, 2, 6), (6, .if_icmp .ne 37, 3, 9), (9, .iconst 0, 1, 10), (10, .istore_n 1, 1, 11), (11, .iload_n 1, 1, 12), (12, .sipush 5412, 3, 15), (15, .if_icmp .ge 25, 3, 18), (18, .aload_n 0, 1, 19), (19, .getfield 26, 3, 22), (22, .iload_n 1, 1, 23), (23, .aload_n 0, 1, 24), (24, .getfield 26, 3, 27), (27, .iload_n 1, 1, 28), (28, .sipush 492, 3, 31), (31, .iadd, 1, 32), (32, .iaload, 1, 33), (33, .iastore, 1, 34), (34, .iinc 1 1, 3, 37), (37, .goto (-26), 3, 40), (40, .goto 13, 3, 43), (43, .aload_n 0, 1, 44), (44, .dup, 1, 45), (45, .getfield 59, 3, 48), (48, .iconst 1, 1, 49), (49, .iadd, 1, 50), (50, .putfield 59, 3, 53), (53, .iconst 0, 1, 54), (54, .istore_n 1, 1, 55), (55, .iload_n 1, 1, 56), (56, .sipush 492, 3, 59), (59, .if_icmp .ge 32, 3, 62), (62, .aload_n 0, 1, 63), (63, .getfield 26, 3, 66), (66, .sipush 492, 3, 69), (69, .aload_n 0, 1, 70), (70, .getfield 59, 3, 73), (73, .iconst 1, 1, 74), (74, .isub, 1, 75), (75, .imul, 1, 76), (76, .iload_n 1, 1, 77), (77, .iadd, 1, 78), (78, .aload_n 0, 1, 79), (79, .getfield 13, 3, 82), (82, .iload_n 1, 1, 83), (83, .iaload, 1, 84), (84, .iastore, 1, 85), (85, .iinc 1 1, 3, 88), (88, .goto (-33), 3, 91), (91, .return_, 1, 92)], [])
theorem mo_X12_remembers : tw_mok mX12_remembers 0 := ⟨plainFor_of_name (by decide +kernel), by decide +kernel, by decide +kernel, by decide +kernel, by decide +kernel⟩
theorem dk_X12_remembers : tw_dk mX12_remembers := by unfold tw_dk; decide +kernel
theorem wf_X12_remembers_59 : tw_wf mX12_remembers 59 77 := Or.inl rfl
set_option maxRecDepth 20000 in
theorem K_X12_remembers {g : tw_Gx} (Q : tw_Rs → tw_Mem → Prop) (a0 : Nat) : tw_Kt g mX12_remembers 1 0 0 [.ref a0] Q (f_X12_remembers a0 (fun v => Q (.inl none))) := by
  refine tw_mkK (L := [some (.ref a0), none]) mo_X12_remembers dk_X12_remembers rfl (Nat.le_of_ble_eq_true rfl) rfl ?_
  unfold f_X12_remembers
  refine tw_aload_n (k := 0) rfl rfl ?_
  refine tw_getI (k := 1) rfl fl_RX12_59 (fun x1 => ?_)
  refine tw_bipush (k := 2) (12 : Int32) rfl (by decide) ?_
  refine tw_join 53 (fun s3 => [some (.ref a0), none]) (fun s3 => []) 0 0 (fun s3 => ?_) (fun j2 g2 => ?_)
  · refine tw_iconst (k := 28) (0 : Int32) rfl (by decide) ?_
    refine tw_ist_n (k := 29) [some (.ref a0), some (.int (0 : Int32))] rfl (Nat.le_of_ble_eq_true rfl) rfl rfl ?_
    refine tw_loop (fun s5 => [some (.ref a0), some (.int s5)]) (fun s5 => []) (fun r4 h4 s5 => ?_) _ rfl rfl
    refine tw_iload_n (k := 30) rfl rfl ?_
    refine tw_sipush (k := 31) (492 : Int32) rfl (by decide) ?_
    refine tw_icmp_ge (k := 32) 91 rfl (by decide) ?_ ?_
    · exact tw_return (k := 50) rfl rfl (by decide) (by decide)
    · refine tw_aload_n (k := 33) rfl rfl ?_
      refine tw_getR (k := 34) rfl fl_RX12_26 (fun x6 => ?_)
      refine tw_sipush (k := 35) (492 : Int32) rfl (by decide) ?_
      refine tw_aload_n (k := 36) rfl rfl ?_
      refine tw_getI (k := 37) rfl fl_RX12_59 (fun x7 => ?_)
      refine tw_iconst (k := 38) (1 : Int32) rfl (by decide) ?_
      refine tw_isub (k := 39) rfl ?_
      refine tw_imul (k := 40) rfl ?_
      refine tw_iload_n (k := 41) rfl rfl ?_
      refine tw_iadd (k := 42) rfl ?_
      refine tw_aload_n (k := 43) rfl rfl ?_
      refine tw_getR (k := 44) rfl fl_RX12_13 (fun x8 => ?_)
      refine tw_iload_n (k := 45) rfl rfl ?_
      refine tw_iaload (k := 46) rfl (fun x9 => ?_)
      refine tw_iastore (k := 47) rfl ?_
      refine tw_inc (k := 48) (1 : Int32) [some (.ref a0), some (.int (s5 + (1 : Int32)))] rfl rfl (by decide) (Nat.le_of_ble_eq_true rfl) rfl rfl ?_
      refine tw_goto (k := 49) 55 rfl (by decide) ?_
      exact h4 (s5 + (1 : Int32))
  · refine tw_icmp_ne (k := 3) 43 rfl (by decide) ?_ ?_
    · refine tw_aload_n (k := 22) rfl rfl ?_
      refine tw_dup (k := 23) rfl rfl ?_
      refine tw_getI (k := 24) rfl fl_RX12_59 (fun x10 => ?_)
      refine tw_iconst (k := 25) (1 : Int32) rfl (by decide) ?_
      refine tw_iadd (k := 26) rfl ?_
      refine tw_putI (k := 27) rfl fl_RX12_59 wf_X12_remembers_59 (by decide +kernel) ?_
      exact g2 ()
    · refine tw_iconst (k := 4) (0 : Int32) rfl (by decide) ?_
      refine tw_ist_n (k := 5) [some (.ref a0), some (.int (0 : Int32))] rfl (Nat.le_of_ble_eq_true rfl) rfl rfl ?_
      refine tw_loop (fun s12 => [some (.ref a0), some (.int s12)]) (fun s12 => []) (fun r11 h11 s12 => ?_) _ rfl rfl
      refine tw_iload_n (k := 6) rfl rfl ?_
      refine tw_sipush (k := 7) (5412 : Int32) rfl (by decide) ?_
      refine tw_icmp_ge (k := 8) 40 rfl (by decide) ?_ ?_
      · refine tw_goto (k := 21) 53 rfl (by decide) ?_
        exact tw_wk (L' := [some (.ref a0), none]) ⟨Or.inr rfl, Or.inl rfl, trivial⟩ (g2 ())
      · refine tw_aload_n (k := 9) rfl rfl ?_
        refine tw_getR (k := 10) rfl fl_RX12_26 (fun x13 => ?_)
        refine tw_iload_n (k := 11) rfl rfl ?_
        refine tw_aload_n (k := 12) rfl rfl ?_
        refine tw_getR (k := 13) rfl fl_RX12_26 (fun x14 => ?_)
        refine tw_iload_n (k := 14) rfl rfl ?_
        refine tw_sipush (k := 15) (492 : Int32) rfl (by decide) ?_
        refine tw_iadd (k := 16) rfl ?_
        refine tw_iaload (k := 17) rfl (fun x15 => ?_)
        refine tw_iastore (k := 18) rfl ?_
        refine tw_inc (k := 19) (1 : Int32) [some (.ref a0), some (.int (s12 + (1 : Int32)))] rfl rfl (by decide) (Nat.le_of_ble_eq_true rfl) rfl rfl ?_
        refine tw_goto (k := 20) 11 rfl (by decide) ?_
        exact h11 (s12 + (1 : Int32))
def mX12_undo : tw_MD := (yX12_undo, cX12_undo, 2, (some FieldType.boolean), [(0, .aload_n 0, 1, 1), (1, .iconst 0, 1, 2), (2, .putfield 3, 3, 5), (5, .aload_n 0, 1, 6), (6, .getfield 59, 3, 9), (9, .ifCond .ne 5, 3, 12), (12, .iconst 0, 1, 13), (13, .ireturn, 1, 14), (14, .aload_n 0, 1, 15), (15, .dup, 1, 16), (16, .getfield 59, 3, 19), (19, .iconst 1, 1, 20), (20, .isub, 1, 21), (21, .putfield 59, 3, 24), (24, .iconst 0, 1, 25), (25, .istore_n 1, 1, 26), (26, .iload_n 1, 1, 27), (27, .sipush 492, 3, 30), (30, .if_icmp .ge 30, 3, 33), (33, .aload_n 0, 1, 34), (34, .getfield 13, 3, 37), (37, .iload_n 1, 1, 38), (38, .aload_n 0, 1, 39), (39, .getfield 26, 3, 42), (42, .sipush 492, 3, 45), (45, .aload_n 0, 1, 46), (46, .getfield 59, 3, 49), (49, .imul, 1, 50), (50, .iload_n 1, 1, 51), (51, .iadd, 1, 52), (52, .iaload, 1, 53), (53, .iastore, 1, 54), (54, .iinc 1 1, 3, 57), (57, .goto (-31), 3, 60), (60, .iconst 1, 1, 61), (61, .ireturn, 1, 62)], [])
theorem mo_X12_undo : tw_mok mX12_undo 0 := ⟨plainFor_of_name (by decide +kernel), by decide +kernel, by decide +kernel, by decide +kernel, by decide +kernel⟩
theorem dk_X12_undo : tw_dk mX12_undo := by unfold tw_dk; decide +kernel
theorem wf_X12_undo_59 : tw_wf mX12_undo 59 77 := Or.inl rfl
theorem wf_X12_undo_3 : tw_wf mX12_undo 3 70 := Or.inl rfl
set_option maxRecDepth 20000 in
theorem K_X12_undo {g : tw_Gx} (Q : tw_Rs → tw_Mem → Prop) (a0 : Nat) : tw_Kt g mX12_undo 1 0 0 [.ref a0] Q (f_X12_undo a0 (fun v => Q (.inl (some (.int v))))) := by
  refine tw_mkK (L := [some (.ref a0), none]) mo_X12_undo dk_X12_undo rfl (Nat.le_of_ble_eq_true rfl) rfl ?_
  unfold f_X12_undo
  refine tw_aload_n (k := 0) rfl rfl ?_
  refine tw_iconst (k := 1) (0 : Int32) rfl (by decide) ?_
  refine tw_putI (k := 2) rfl fl_RX12_3 wf_X12_undo_3 (by decide +kernel) ?_
  refine tw_aload_n (k := 3) rfl rfl ?_
  refine tw_getI (k := 4) rfl fl_RX12_59 (fun x1 => ?_)
  refine tw_if_ne (k := 5) 14 rfl (by decide) ?_ ?_
  · refine tw_aload_n (k := 8) rfl rfl ?_
    refine tw_dup (k := 9) rfl rfl ?_
    refine tw_getI (k := 10) rfl fl_RX12_59 (fun x2 => ?_)
    refine tw_iconst (k := 11) (1 : Int32) rfl (by decide) ?_
    refine tw_isub (k := 12) rfl ?_
    refine tw_putI (k := 13) rfl fl_RX12_59 wf_X12_undo_59 (by decide +kernel) ?_
    refine tw_iconst (k := 14) (0 : Int32) rfl (by decide) ?_
    refine tw_ist_n (k := 15) [some (.ref a0), some (.int (0 : Int32))] rfl (Nat.le_of_ble_eq_true rfl) rfl rfl ?_
    refine tw_loop (fun s4 => [some (.ref a0), some (.int s4)]) (fun s4 => []) (fun r3 h3 s4 => ?_) _ rfl rfl
    refine tw_iload_n (k := 16) rfl rfl ?_
    refine tw_sipush (k := 17) (492 : Int32) rfl (by decide) ?_
    refine tw_icmp_ge (k := 18) 60 rfl (by decide) ?_ ?_
    · refine tw_iconst (k := 34) (1 : Int32) rfl (by decide) ?_
      exact tw_zreturn (k := 35) rfl rfl (by decide) (by decide)
    · refine tw_aload_n (k := 19) rfl rfl ?_
      refine tw_getR (k := 20) rfl fl_RX12_13 (fun x5 => ?_)
      refine tw_iload_n (k := 21) rfl rfl ?_
      refine tw_aload_n (k := 22) rfl rfl ?_
      refine tw_getR (k := 23) rfl fl_RX12_26 (fun x6 => ?_)
      refine tw_sipush (k := 24) (492 : Int32) rfl (by decide) ?_
      refine tw_aload_n (k := 25) rfl rfl ?_
      refine tw_getI (k := 26) rfl fl_RX12_59 (fun x7 => ?_)
      refine tw_imul (k := 27) rfl ?_
      refine tw_iload_n (k := 28) rfl rfl ?_
      refine tw_iadd (k := 29) rfl ?_
      refine tw_iaload (k := 30) rfl (fun x8 => ?_)
      refine tw_iastore (k := 31) rfl ?_
      refine tw_inc (k := 32) (1 : Int32) [some (.ref a0), some (.int (s4 + (1 : Int32)))] rfl rfl (by decide) (Nat.le_of_ble_eq_true rfl) rfl rfl ?_
      refine tw_goto (k := 33) 26 rfl (by decide) ?_
      exact h3 (s4 + (1 : Int32))
  · refine tw_iconst (k := 6) (0 : Int32) rfl (by decide) ?_
    exact tw_zreturn (k := 7) rfl rfl (by decide) (by decide)
def mX12_people : tw_MD := (yX12_people, cX12_people, 1, (some FieldType.int), [(0, .aload_n 0, 1, 1), (1, .getfield 13, 3, 4), (4, .iconst 0, 1, 5), (5, .iaload, 1, 6), (6, .ireturn, 1, 7)], [])
theorem mo_X12_people : tw_mok mX12_people 0 := ⟨plainFor_of_name (by decide +kernel), by decide +kernel, by decide +kernel, by decide +kernel, by decide +kernel⟩
theorem dk_X12_people : tw_dk mX12_people := by unfold tw_dk; decide +kernel
set_option maxRecDepth 20000 in
theorem K_X12_people {g : tw_Gx} (Q : tw_Rs → tw_Mem → Prop) (a0 : Nat) : tw_Kt g mX12_people 1 0 0 [.ref a0] Q (f_X12_people a0 (fun v => Q (.inl (some (.int v))))) := by
  refine tw_mkK (L := [some (.ref a0)]) mo_X12_people dk_X12_people rfl (Nat.le_of_ble_eq_true rfl) rfl ?_
  unfold f_X12_people
  refine tw_aload_n (k := 0) rfl rfl ?_
  refine tw_getR (k := 1) rfl fl_RX12_13 (fun x1 => ?_)
  refine tw_iconst (k := 2) (0 : Int32) rfl (by decide) ?_
  refine tw_iaload (k := 3) rfl (fun x2 => ?_)
  exact tw_ireturn (k := 4) rfl rfl (by decide) (by decide)
def mX12_allPeople : tw_MD := (yX12_allPeople, cX12_allPeople, 1, (some FieldType.int), [(0, .iconst 1, 1, 1), (1, .aload_n 0, 1, 2), (2, .invokevirtual 62, 3, 5), (5, .ishl, 1, 6), (6, .iconst 1, 1, 7), (7, .isub, 1, 8), (8, .ireturn, 1, 9)], [])
theorem mo_X12_allPeople : tw_mok mX12_allPeople 0 := ⟨plainFor_of_name (by decide +kernel), by decide +kernel, by decide +kernel, by decide +kernel, by decide +kernel⟩
theorem dk_X12_allPeople : tw_dk mX12_allPeople := by unfold tw_dk; decide +kernel
theorem wv_RX12_62_X12_people : tw_wV RX12 62 mX12_people := ⟨List.mem_of_getElem? (i := 1928) (by decide +kernel), List.mem_of_getElem? (i := 1930) (by decide +kernel), List.mem_of_getElem? (i := 53) (by decide +kernel), List.mem_of_getElem? (i := 137) (by decide +kernel), List.mem_of_getElem? (i := 1931) (by decide +kernel)⟩
set_option maxRecDepth 20000 in
theorem K_X12_allPeople {g : tw_Gx} (Q : tw_Rs → tw_Mem → Prop) (a0 : Nat) : tw_Kt g mX12_allPeople 2 0 0 [.ref a0] Q (f_X12_allPeople a0 (fun v => Q (.inl (some (.int v))))) := by
  refine tw_mkK (L := [some (.ref a0)]) mo_X12_allPeople dk_X12_allPeople rfl (Nat.le_of_ble_eq_true rfl) rfl ?_
  unfold f_X12_allPeople
  refine tw_iconst (k := 0) (1 : Int32) rfl (by decide) ?_
  refine tw_aload_n (k := 1) rfl rfl ?_
  refine tw_callV (k := 2) (d' := 1) (mc' := 0) (ms' := 0) tw_cI tw_cIi [] rfl rfl wv_RX12_62_X12_people mo_X12_people (t := 11) rfl rfl rfl (fun Q9 => K_X12_people Q9 a0) (by omega) (by decide) (by decide) (Nat.le_of_ble_eq_true rfl) (fun x1 => ?_)
  refine tw_ishl (k := 3) rfl ?_
  refine tw_iconst (k := 4) (1 : Int32) rfl (by decide) ?_
  refine tw_isub (k := 5) rfl ?_
  exact tw_ireturn (k := 6) rfl rfl (by decide) (by decide)
def mX12_at : tw_MD := (yX12_at, cX12_at, 2, (some FieldType.int), [(0, .bipush 32, 2, 2), (2, .bipush 20, 2, 4), (4, .iload_n 0, 1, 5), (5, .imul, 1, 6), (6, .iadd, 1, 7), (7, .iload_n 1, 1, 8), (8, .iadd, 1, 9), (9, .ireturn, 1, 10)], [])
theorem mo_X12_at : tw_mok mX12_at 2 := ⟨plainFor_of_name (by decide +kernel), by decide +kernel, by decide +kernel, by decide +kernel, by decide +kernel⟩
theorem dk_X12_at : tw_dk mX12_at := by unfold tw_dk; decide +kernel
set_option maxRecDepth 20000 in
theorem K_X12_at {g : tw_Gx} (Q : tw_Rs → tw_Mem → Prop) (a0 : Int32) (a1 : Int32) : tw_Kt g mX12_at 1 0 0 [.int a0, .int a1] Q (f_X12_at a0 a1 (fun v => Q (.inl (some (.int v))))) := by
  refine tw_mkK (L := [some (.int a0), some (.int a1)]) mo_X12_at dk_X12_at rfl (Nat.le_of_ble_eq_true rfl) rfl ?_
  unfold f_X12_at
  refine tw_bipush (k := 0) (32 : Int32) rfl (by decide) ?_
  refine tw_bipush (k := 1) (20 : Int32) rfl (by decide) ?_
  refine tw_iload_n (k := 2) rfl rfl ?_
  refine tw_imul (k := 3) rfl ?_
  refine tw_iadd (k := 4) rfl ?_
  refine tw_iload_n (k := 5) rfl rfl ?_
  refine tw_iadd (k := 6) rfl ?_
  exact tw_ireturn (k := 7) rfl rfl (by decide) (by decide)
def mX12_of : tw_MD := (yX12_of, cX12_of, 3, (some FieldType.int), [(0, .aload_n 0, 1, 1), (1, .getfield 13, 3, 4), (4, .iload_n 1, 1, 5), (5, .iload_n 2, 1, 6), (6, .invokestatic 66, 3, 9), (9, .iaload, 1, 10), (10, .ireturn, 1, 11)], [])
theorem mo_X12_of : tw_mok mX12_of 2 := ⟨plainFor_of_name (by decide +kernel), by decide +kernel, by decide +kernel, by decide +kernel, by decide +kernel⟩
theorem dk_X12_of : tw_dk mX12_of := by unfold tw_dk; decide +kernel
theorem ws_RX12_66_X12_at : tw_wS RX12 66 mX12_at := ⟨List.mem_of_getElem? (i := 1947) (by decide +kernel), List.mem_of_getElem? (i := 1948) (by decide +kernel), List.mem_of_getElem? (i := 137) (by decide +kernel), List.mem_of_getElem? (i := 1949) (by decide +kernel)⟩
set_option maxRecDepth 20000 in
theorem K_X12_of {g : tw_Gx} (Q : tw_Rs → tw_Mem → Prop) (a0 : Nat) (a1 : Int32) (a2 : Int32) : tw_Kt g mX12_of 2 0 0 [.ref a0, .int a1, .int a2] Q (f_X12_of a0 a1 a2 (fun v => Q (.inl (some (.int v))))) := by
  refine tw_mkK (L := [some (.ref a0), some (.int a1), some (.int a2)]) mo_X12_of dk_X12_of rfl (Nat.le_of_ble_eq_true rfl) rfl ?_
  unfold f_X12_of
  refine tw_aload_n (k := 0) rfl rfl ?_
  refine tw_getR (k := 1) rfl fl_RX12_13 (fun x1 => ?_)
  refine tw_iload_n (k := 2) rfl rfl ?_
  refine tw_iload_n (k := 3) rfl rfl ?_
  refine tw_callS (k := 4) (d' := 1) (mc' := 0) (ms' := 0) tw_cI tw_cIi [.int a1, .int a2] rfl rfl ws_RX12_66_X12_at mo_X12_at rfl (fun Q9 => K_X12_at Q9 a1 a2) (by omega) (by decide) (by decide) (Nat.le_of_ble_eq_true rfl) (fun x2 => ?_)
  refine tw_iaload (k := 5) rfl (fun x3 => ?_)
  exact tw_ireturn (k := 6) rfl rfl (by decide) (by decide)
def mX12_guessOf : tw_MD := (yX12_guessOf, cX12_guessOf, 3, (some FieldType.int), [(0, .aload_n 0, 1, 1), (1, .iload_n 1, 1, 2), (2, .iconst 4, 1, 3), (3, .iload_n 2, 1, 4), (4, .iadd, 1, 5), (5, .invokevirtual 70, 3, 8), (8, .ireturn, 1, 9)], [])
theorem mo_X12_guessOf : tw_mok mX12_guessOf 2 := ⟨plainFor_of_name (by decide +kernel), by decide +kernel, by decide +kernel, by decide +kernel, by decide +kernel⟩
theorem dk_X12_guessOf : tw_dk mX12_guessOf := by unfold tw_dk; decide +kernel
theorem wv_RX12_70_X12_of : tw_wV RX12 70 mX12_of := ⟨List.mem_of_getElem? (i := 2059) (by decide +kernel), List.mem_of_getElem? (i := 2061) (by decide +kernel), List.mem_of_getElem? (i := 76) (by decide +kernel), List.mem_of_getElem? (i := 137) (by decide +kernel), List.mem_of_getElem? (i := 2062) (by decide +kernel)⟩
set_option maxRecDepth 20000 in
theorem K_X12_guessOf {g : tw_Gx} (Q : tw_Rs → tw_Mem → Prop) (a0 : Nat) (a1 : Int32) (a2 : Int32) : tw_Kt g mX12_guessOf 3 0 0 [.ref a0, .int a1, .int a2] Q (f_X12_guessOf a0 a1 a2 (fun v => Q (.inl (some (.int v))))) := by
  refine tw_mkK (L := [some (.ref a0), some (.int a1), some (.int a2)]) mo_X12_guessOf dk_X12_guessOf rfl (Nat.le_of_ble_eq_true rfl) rfl ?_
  unfold f_X12_guessOf
  refine tw_aload_n (k := 0) rfl rfl ?_
  refine tw_iload_n (k := 1) rfl rfl ?_
  refine tw_iconst (k := 2) (4 : Int32) rfl (by decide) ?_
  refine tw_iload_n (k := 3) rfl rfl ?_
  refine tw_iadd (k := 4) rfl ?_
  refine tw_callV (k := 5) (d' := 2) (mc' := 0) (ms' := 0) tw_cI tw_cIi [.int a1, .int ((4 : Int32) + a2)] rfl rfl wv_RX12_70_X12_of mo_X12_of (t := 11) rfl rfl rfl (fun Q9 => K_X12_of Q9 a0 a1 ((4 : Int32) + a2)) (by omega) (by decide) (by decide) (Nat.le_of_ble_eq_true rfl) (fun x1 => ?_)
  exact tw_ireturn (k := 6) rfl rfl (by decide) (by decide)
def mX12_isNear : tw_MD := (yX12_isNear, cX12_isNear, 3, (some FieldType.boolean), [(0, .aload_n 0, 1, 1), (1, .iload_n 1, 1, 2), (2, .iconst 0, 1, 3), (3, .invokevirtual 70, 3, 6), (6, .aload_n 0, 1, 7), (7, .iload_n 2, 1, 8), (8, .iconst 0, 1, 9), (9, .invokevirtual 70, 3, 12), (12, .if_icmp .ne 7, 3, 15), (15, .iconst 1, 1, 16), (16, .goto 4, 3, 19), (19, .iconst 0, 1, 20), (20, .ireturn, 1, 21)], [])
theorem mo_X12_isNear : tw_mok mX12_isNear 2 := ⟨plainFor_of_name (by decide +kernel), by decide +kernel, by decide +kernel, by decide +kernel, by decide +kernel⟩
theorem dk_X12_isNear : tw_dk mX12_isNear := by unfold tw_dk; decide +kernel
set_option maxRecDepth 20000 in
theorem K_X12_isNear {g : tw_Gx} (Q : tw_Rs → tw_Mem → Prop) (a0 : Nat) (a1 : Int32) (a2 : Int32) : tw_Kt g mX12_isNear 3 0 0 [.ref a0, .int a1, .int a2] Q (f_X12_isNear a0 a1 a2 (fun v => Q (.inl (some (.int v))))) := by
  refine tw_mkK (L := [some (.ref a0), some (.int a1), some (.int a2)]) mo_X12_isNear dk_X12_isNear rfl (Nat.le_of_ble_eq_true rfl) rfl ?_
  unfold f_X12_isNear
  refine tw_aload_n (k := 0) rfl rfl ?_
  refine tw_iload_n (k := 1) rfl rfl ?_
  refine tw_iconst (k := 2) (0 : Int32) rfl (by decide) ?_
  refine tw_callV (k := 3) (d' := 2) (mc' := 0) (ms' := 0) tw_cI tw_cIi [.int a1, .int (0 : Int32)] rfl rfl wv_RX12_70_X12_of mo_X12_of (t := 11) rfl rfl rfl (fun Q9 => K_X12_of Q9 a0 a1 (0 : Int32)) (by omega) (by decide) (by decide) (Nat.le_of_ble_eq_true rfl) (fun x1 => ?_)
  refine tw_aload_n (k := 4) rfl rfl ?_
  refine tw_iload_n (k := 5) rfl rfl ?_
  refine tw_iconst (k := 6) (0 : Int32) rfl (by decide) ?_
  refine tw_callV (k := 7) (d' := 2) (mc' := 0) (ms' := 0) tw_cI tw_cIi [.int a2, .int (0 : Int32)] rfl rfl wv_RX12_70_X12_of mo_X12_of (t := 11) rfl rfl rfl (fun Q9 => K_X12_of Q9 a0 a2 (0 : Int32)) (by omega) (by decide) (by decide) (Nat.le_of_ble_eq_true rfl) (fun x2 => ?_)
  refine tw_icmp_ne (k := 8) 19 rfl (by decide) ?_ ?_
  · refine tw_iconst (k := 11) (0 : Int32) rfl (by decide) ?_
    exact tw_zreturn (k := 12) rfl rfl (by decide) (by decide)
  · refine tw_iconst (k := 9) (1 : Int32) rfl (by decide) ?_
    refine tw_goto (k := 10) 20 rfl (by decide) ?_
    exact tw_zreturn (k := 12) rfl rfl (by decide) (by decide)
def mX12_planAt : tw_MD := (yX12_planAt, cX12_planAt, 2, (some FieldType.int), [(0, .bipush 8, 2, 2), (2, .bipush 12, 2, 4), (4, .iload_n 0, 1, 5), (5, .imul, 1, 6), (6, .iadd, 1, 7), (7, .iload_n 1, 1, 8), (8, .iadd, 1, 9), (9, .ireturn, 1, 10)], [])
theorem mo_X12_planAt : tw_mok mX12_planAt 2 := ⟨plainFor_of_name (by decide +kernel), by decide +kernel, by decide +kernel, by decide +kernel, by decide +kernel⟩
theorem dk_X12_planAt : tw_dk mX12_planAt := by unfold tw_dk; decide +kernel
set_option maxRecDepth 20000 in
theorem K_X12_planAt {g : tw_Gx} (Q : tw_Rs → tw_Mem → Prop) (a0 : Int32) (a1 : Int32) : tw_Kt g mX12_planAt 1 0 0 [.int a0, .int a1] Q (f_X12_planAt a0 a1 (fun v => Q (.inl (some (.int v))))) := by
  refine tw_mkK (L := [some (.int a0), some (.int a1)]) mo_X12_planAt dk_X12_planAt rfl (Nat.le_of_ble_eq_true rfl) rfl ?_
  unfold f_X12_planAt
  refine tw_bipush (k := 0) (8 : Int32) rfl (by decide) ?_
  refine tw_bipush (k := 1) (12 : Int32) rfl (by decide) ?_
  refine tw_iload_n (k := 2) rfl rfl ?_
  refine tw_imul (k := 3) rfl ?_
  refine tw_iadd (k := 4) rfl ?_
  refine tw_iload_n (k := 5) rfl rfl ?_
  refine tw_iadd (k := 6) rfl ?_
  exact tw_ireturn (k := 7) rfl rfl (by decide) (by decide)
def mX12_inPlan : tw_MD := (yX12_inPlan, cX12_inPlan, 3, (some FieldType.int), [(0, .aload_n 0, 1, 1), (1, .getfield 13, 3, 4), (4, .iload_n 1, 1, 5), (5, .iload_n 2, 1, 6), (6, .invokestatic 73, 3, 9), (9, .iaload, 1, 10), (10, .ireturn, 1, 11)], [])
theorem mo_X12_inPlan : tw_mok mX12_inPlan 2 := ⟨plainFor_of_name (by decide +kernel), by decide +kernel, by decide +kernel, by decide +kernel, by decide +kernel⟩
theorem dk_X12_inPlan : tw_dk mX12_inPlan := by unfold tw_dk; decide +kernel
theorem ws_RX12_73_X12_planAt : tw_wS RX12 73 mX12_planAt := ⟨List.mem_of_getElem? (i := 1973) (by decide +kernel), List.mem_of_getElem? (i := 1974) (by decide +kernel), List.mem_of_getElem? (i := 137) (by decide +kernel), List.mem_of_getElem? (i := 1975) (by decide +kernel)⟩
set_option maxRecDepth 20000 in
theorem K_X12_inPlan {g : tw_Gx} (Q : tw_Rs → tw_Mem → Prop) (a0 : Nat) (a1 : Int32) (a2 : Int32) : tw_Kt g mX12_inPlan 2 0 0 [.ref a0, .int a1, .int a2] Q (f_X12_inPlan a0 a1 a2 (fun v => Q (.inl (some (.int v))))) := by
  refine tw_mkK (L := [some (.ref a0), some (.int a1), some (.int a2)]) mo_X12_inPlan dk_X12_inPlan rfl (Nat.le_of_ble_eq_true rfl) rfl ?_
  unfold f_X12_inPlan
  refine tw_aload_n (k := 0) rfl rfl ?_
  refine tw_getR (k := 1) rfl fl_RX12_13 (fun x1 => ?_)
  refine tw_iload_n (k := 2) rfl rfl ?_
  refine tw_iload_n (k := 3) rfl rfl ?_
  refine tw_callS (k := 4) (d' := 1) (mc' := 0) (ms' := 0) tw_cI tw_cIi [.int a1, .int a2] rfl rfl ws_RX12_73_X12_planAt mo_X12_planAt rfl (fun Q9 => K_X12_planAt Q9 a1 a2) (by omega) (by decide) (by decide) (Nat.le_of_ble_eq_true rfl) (fun x2 => ?_)
  refine tw_iaload (k := 5) rfl (fun x3 => ?_)
  exact tw_ireturn (k := 6) rfl rfl (by decide) (by decide)
def mX12_nobody : tw_MD := (yX12_nobody, cX12_nobody, 2, (some FieldType.boolean), [(0, .iload_n 1, 1, 1), (1, .iconst 0, 1, 2), (2, .aload_n 0, 1, 3), (3, .invokevirtual 62, 3, 6), (6, .iconst 1, 1, 7), (7, .isub, 1, 8), (8, .invokestatic 76, 3, 11), (11, .ifCond .ne 7, 3, 14), (14, .iconst 1, 1, 15), (15, .goto 4, 3, 18), (18, .iconst 0, 1, 19), (19, .ireturn, 1, 20)], [])
theorem mo_X12_nobody : tw_mok mX12_nobody 1 := ⟨plainFor_of_name (by decide +kernel), by decide +kernel, by decide +kernel, by decide +kernel, by decide +kernel⟩
theorem dk_X12_nobody : tw_dk mX12_nobody := by unfold tw_dk; decide +kernel
theorem ws_RX12_76_X12_in : tw_wS RX12 76 mX12_in := ⟨List.mem_of_getElem? (i := 2047) (by decide +kernel), List.mem_of_getElem? (i := 2048) (by decide +kernel), List.mem_of_getElem? (i := 137) (by decide +kernel), List.mem_of_getElem? (i := 2049) (by decide +kernel)⟩
set_option maxRecDepth 20000 in
theorem K_X12_nobody {g : tw_Gx} (Q : tw_Rs → tw_Mem → Prop) (a0 : Nat) (a1 : Int32) : tw_Kt g mX12_nobody 2 0 0 [.ref a0, .int a1] Q (f_X12_nobody a0 a1 (fun v => Q (.inl (some (.int v))))) := by
  refine tw_mkK (L := [some (.ref a0), some (.int a1)]) mo_X12_nobody dk_X12_nobody rfl (Nat.le_of_ble_eq_true rfl) rfl ?_
  unfold f_X12_nobody
  refine tw_iload_n (k := 0) rfl rfl ?_
  refine tw_iconst (k := 1) (0 : Int32) rfl (by decide) ?_
  refine tw_aload_n (k := 2) rfl rfl ?_
  refine tw_callV (k := 3) (d' := 1) (mc' := 0) (ms' := 0) tw_cI tw_cIi [] rfl rfl wv_RX12_62_X12_people mo_X12_people (t := 11) rfl rfl rfl (fun Q9 => K_X12_people Q9 a0) (by omega) (by decide) (by decide) (Nat.le_of_ble_eq_true rfl) (fun x1 => ?_)
  refine tw_iconst (k := 4) (1 : Int32) rfl (by decide) ?_
  refine tw_isub (k := 5) rfl ?_
  refine tw_callS (k := 6) (d' := 1) (mc' := 0) (ms' := 0) tw_cI tw_cIi [.int a1, .int (0 : Int32), .int (x1 - (1 : Int32))] rfl rfl ws_RX12_76_X12_in mo_X12_in rfl (fun Q9 => K_X12_in Q9 a1 (0 : Int32) (x1 - (1 : Int32))) (by omega) (by decide) (by decide) (Nat.le_of_ble_eq_true rfl) (fun x2 => ?_)
  refine tw_if_ne (k := 7) 18 rfl (by decide) ?_ ?_
  · refine tw_iconst (k := 10) (0 : Int32) rfl (by decide) ?_
    exact tw_zreturn (k := 11) rfl rfl (by decide) (by decide)
  · refine tw_iconst (k := 8) (1 : Int32) rfl (by decide) ?_
    refine tw_goto (k := 9) 19 rfl (by decide) ?_
    exact tw_zreturn (k := 11) rfl rfl (by decide) (by decide)
def mX12_noLoft : tw_MD := (yX12_noLoft, cX12_noLoft, 1, (some FieldType.boolean), [(0, .iload_n 0, 1, 1), (1, .iconst 0, 1, 2), (2, .iconst 1, 1, 3), (3, .invokestatic 76, 3, 6), (6, .ifCond .ne 7, 3, 9), (9, .iconst 1, 1, 10), (10, .goto 4, 3, 13), (13, .iconst 0, 1, 14), (14, .ireturn, 1, 15)], [])
theorem mo_X12_noLoft : tw_mok mX12_noLoft 1 := ⟨plainFor_of_name (by decide +kernel), by decide +kernel, by decide +kernel, by decide +kernel, by decide +kernel⟩
theorem dk_X12_noLoft : tw_dk mX12_noLoft := by unfold tw_dk; decide +kernel
set_option maxRecDepth 20000 in
theorem K_X12_noLoft {g : tw_Gx} (Q : tw_Rs → tw_Mem → Prop) (a0 : Int32) : tw_Kt g mX12_noLoft 2 0 0 [.int a0] Q (f_X12_noLoft a0 (fun v => Q (.inl (some (.int v))))) := by
  refine tw_mkK (L := [some (.int a0)]) mo_X12_noLoft dk_X12_noLoft rfl (Nat.le_of_ble_eq_true rfl) rfl ?_
  unfold f_X12_noLoft
  refine tw_iload_n (k := 0) rfl rfl ?_
  refine tw_iconst (k := 1) (0 : Int32) rfl (by decide) ?_
  refine tw_iconst (k := 2) (1 : Int32) rfl (by decide) ?_
  refine tw_callS (k := 3) (d' := 1) (mc' := 0) (ms' := 0) tw_cI tw_cIi [.int a0, .int (0 : Int32), .int (1 : Int32)] rfl rfl ws_RX12_76_X12_in mo_X12_in rfl (fun Q9 => K_X12_in Q9 a0 (0 : Int32) (1 : Int32)) (by omega) (by decide) (by decide) (Nat.le_of_ble_eq_true rfl) (fun x1 => ?_)
  refine tw_if_ne (k := 4) 13 rfl (by decide) ?_ ?_
  · refine tw_iconst (k := 7) (0 : Int32) rfl (by decide) ?_
    exact tw_zreturn (k := 8) rfl rfl (by decide) (by decide)
  · refine tw_iconst (k := 5) (1 : Int32) rfl (by decide) ?_
    refine tw_goto (k := 6) 14 rfl (by decide) ?_
    exact tw_zreturn (k := 8) rfl rfl (by decide) (by decide)
def mX12_noHour : tw_MD := (yX12_noHour, cX12_noHour, 1, (some FieldType.boolean), [(0, .iload_n 0, 1, 1), (1, .iconst 0, 1, 2), (2, .bipush 11, 2, 4), (4, .invokestatic 76, 3, 7), (7, .ifCond .ne 7, 3, 10), (10, .iconst 1, 1, 11), (11, .goto 4, 3, 14), (14, .iconst 0, 1, 15), (15, .ireturn, 1, 16)], [])
theorem mo_X12_noHour : tw_mok mX12_noHour 1 := ⟨plainFor_of_name (by decide +kernel), by decide +kernel, by decide +kernel, by decide +kernel, by decide +kernel⟩
theorem dk_X12_noHour : tw_dk mX12_noHour := by unfold tw_dk; decide +kernel
set_option maxRecDepth 20000 in
theorem K_X12_noHour {g : tw_Gx} (Q : tw_Rs → tw_Mem → Prop) (a0 : Int32) : tw_Kt g mX12_noHour 2 0 0 [.int a0] Q (f_X12_noHour a0 (fun v => Q (.inl (some (.int v))))) := by
  refine tw_mkK (L := [some (.int a0)]) mo_X12_noHour dk_X12_noHour rfl (Nat.le_of_ble_eq_true rfl) rfl ?_
  unfold f_X12_noHour
  refine tw_iload_n (k := 0) rfl rfl ?_
  refine tw_iconst (k := 1) (0 : Int32) rfl (by decide) ?_
  refine tw_bipush (k := 2) (11 : Int32) rfl (by decide) ?_
  refine tw_callS (k := 3) (d' := 1) (mc' := 0) (ms' := 0) tw_cI tw_cIi [.int a0, .int (0 : Int32), .int (11 : Int32)] rfl rfl ws_RX12_76_X12_in mo_X12_in rfl (fun Q9 => K_X12_in Q9 a0 (0 : Int32) (11 : Int32)) (by omega) (by decide) (by decide) (Nat.le_of_ble_eq_true rfl) (fun x1 => ?_)
  refine tw_if_ne (k := 4) 14 rfl (by decide) ?_ ?_
  · refine tw_iconst (k := 7) (0 : Int32) rfl (by decide) ?_
    exact tw_zreturn (k := 8) rfl rfl (by decide) (by decide)
  · refine tw_iconst (k := 5) (1 : Int32) rfl (by decide) ?_
    refine tw_goto (k := 6) 15 rfl (by decide) ?_
    exact tw_zreturn (k := 8) rfl rfl (by decide) (by decide)
def mX12_drawn : tw_MD := (yX12_drawn, cX12_drawn, 2, (some FieldType.int), [(0, .aload_n 0, 1, 1), (1, .getfield 13, 3, 4), (4, .bipush 7, 2, 6), (6, .ldc 80, 2, 8), (8, .aload_n 0, 1, 9), (9, .getfield 13, 3, 12), (12, .bipush 7, 2, 14), (14, .iaload, 1, 15), (15, .imul, 1, 16), (16, .sipush 12345, 3, 19), (19, .iadd, 1, 20), (20, .iastore, 1, 21), (21, .aload_n 0, 1, 22), (22, .getfield 13, 3, 25), (25, .bipush 7, 2, 27), (27, .iaload, 1, 28), (28, .bipush 16, 2, 30), (30, .ishr, 1, 31), (31, .sipush 32767, 3, 34), (34, .iand, 1, 35), (35, .iload_n 1, 1, 36), (36, .irem, 1, 37), (37, .ireturn, 1, 38)], [])
theorem mo_X12_drawn : tw_mok mX12_drawn 1 := ⟨plainFor_of_name (by decide +kernel), by decide +kernel, by decide +kernel, by decide +kernel, by decide +kernel⟩
theorem dk_X12_drawn : tw_dk mX12_drawn := by unfold tw_dk; decide +kernel
theorem kc_RX12_80 : Cond.constant RX12 80 (1103515245 : Int32) ∈ lw_tbl := List.mem_of_getElem? (i := 2231) (by decide +kernel)
set_option maxRecDepth 20000 in
theorem K_X12_drawn {g : tw_Gx} (Q : tw_Rs → tw_Mem → Prop) (a0 : Nat) (a1 : Int32) : tw_Kt g mX12_drawn 1 0 0 [.ref a0, .int a1] Q (f_X12_drawn a0 a1 (fun v => Q (.inl (some (.int v))))) := by
  refine tw_mkK (L := [some (.ref a0), some (.int a1)]) mo_X12_drawn dk_X12_drawn rfl (Nat.le_of_ble_eq_true rfl) rfl ?_
  unfold f_X12_drawn
  refine tw_aload_n (k := 0) rfl rfl ?_
  refine tw_getR (k := 1) rfl fl_RX12_13 (fun x1 => ?_)
  refine tw_bipush (k := 2) (7 : Int32) rfl (by decide) ?_
  refine tw_ldc (k := 3) kc_RX12_80 rfl ?_
  refine tw_aload_n (k := 4) rfl rfl ?_
  refine tw_getR (k := 5) rfl fl_RX12_13 (fun x2 => ?_)
  refine tw_bipush (k := 6) (7 : Int32) rfl (by decide) ?_
  refine tw_iaload (k := 7) rfl (fun x3 => ?_)
  refine tw_imul (k := 8) rfl ?_
  refine tw_sipush (k := 9) (12345 : Int32) rfl (by decide) ?_
  refine tw_iadd (k := 10) rfl ?_
  refine tw_iastore (k := 11) rfl ?_
  refine tw_aload_n (k := 12) rfl rfl ?_
  refine tw_getR (k := 13) rfl fl_RX12_13 (fun x4 => ?_)
  refine tw_bipush (k := 14) (7 : Int32) rfl (by decide) ?_
  refine tw_iaload (k := 15) rfl (fun x5 => ?_)
  refine tw_bipush (k := 16) (16 : Int32) rfl (by decide) ?_
  refine tw_ishr (k := 17) rfl ?_
  refine tw_sipush (k := 18) (32767 : Int32) rfl (by decide) ?_
  refine tw_iand (k := 19) rfl ?_
  refine tw_iload_n (k := 20) rfl rfl ?_
  refine tw_irem (k := 21) rfl ?_
  exact tw_ireturn (k := 22) rfl rfl (by decide) (by decide)
def mX12_feed : tw_MD := (yX12_feed, cX12_feed, 7, (some FieldType.int), [(0, .aload_n 0, 1, 1), (1, .iconst 0, 1, 2), (2, .putfield 3, 3, 5), (5, .aload_n 0, 1, 6), (6, .getfield 81, 3, 9), (9, .bipush 20, 2, 11), (11, .iadd, 1, 12), (12, .sipush 400, 3, 15), (15, .if_icmp .le 5, 3, 18), (18, .iconst (-1), 1, 19), (19, .ireturn, 1, 20), (20, .aload_n 0, 1, 21), (21, .getfield 36, 3, 24), (24, .iconst 0, 1, 25), (25, .iload_n 1, 1, 26), (26, .iastore, 1, 27), (27, .aload_n 0, 1, 28), (28, .getfield 36, 3, 31), (31, .iconst 1, 1, 32), (32, .iload_n 2, 1, 33), (33, .iastore, 1, 34), (34, .aload_n 0, 1, 35), (35, .getfield 36, 3, 38), (38, .iconst 2, 1, 39), (39, .iload_n 3, 1, 40), (40, .iastore, 1, 41), (41, .aload_n 0, 1, 42), (42, .getfield 36, 3, 45), (45, .iconst 3, 1, 46), (46, .iload 4, 2, 48), (48, .iastore, 1, 49), (49, .aload_n 0, 1, 50), (50, .getfield 36, 3, 53), (53, .iconst 4, 1, 54), (54, .iload 5, 2, 56), (56, .iastore, 1, 57), (57, .iconst 0, 1, 58), (58, .istore 6, 2, 60), (60, .iload 6, 2, 62), (62, .bipush 20, 2, 64), (64, .if_icmp .ge 42, 3, 67), (67, .aload_n 0, 1, 68), (68, .getfield 29, 3, 71), (71, .aload_n 0, 1, 72), (72, .getfield 81, 3, 75), (75, .iload 6, 2, 77), (77, .iadd, 1, 78), (78, .aload_n 0, 1, 79), (79, .getfield 36, 3, 82), (82, .iload 6, 2, 84), (84, .iconst 4, 1, 85), (85, .idiv, 1, 86), (86, .iaload, 1, 87), (87, .bipush 24, 2, 89), (89, .bipush 8, 2, 91), (91, .iload 6, 2, 93), (93, .iconst 4, 1, 94), (94, .irem, 1, 95), (95, .imul, 1, 96), (96, .isub, 1, 97), (97, .ishr, 1, 98), (98, .i2b, 1, 99), (99, .bastore, 1, 100), (100, .iinc 6 1, 3, 103), (103, .goto (-43), 3, 106), (106, .aload_n 0, 1, 107), (107, .dup, 1, 108), (108, .getfield 81, 3, 111), (111, .bipush 20, 2, 113), (113, .iadd, 1, 114), (114, .putfield 81, 3, 117), (117, .aload_n 0, 1, 118), (118, .getfield 81, 3, 121), (121, .ireturn, 1, 122)], [])
theorem mo_X12_feed : tw_mok mX12_feed 5 := ⟨plainFor_of_name (by decide +kernel), by decide +kernel, by decide +kernel, by decide +kernel, by decide +kernel⟩
theorem dk_X12_feed : tw_dk mX12_feed := by unfold tw_dk; decide +kernel
theorem fl_RX12_81 : tw_fl RX12 81 79 := Or.inl (List.mem_of_getElem? (i := 1799) (by decide +kernel))
theorem wf_X12_feed_81 : tw_wf mX12_feed 81 79 := Or.inl rfl
theorem wf_X12_feed_3 : tw_wf mX12_feed 3 70 := Or.inl rfl
set_option maxRecDepth 20000 in
theorem K_X12_feed {g : tw_Gx} (Q : tw_Rs → tw_Mem → Prop) (a0 : Nat) (a1 : Int32) (a2 : Int32) (a3 : Int32) (a4 : Int32) (a5 : Int32) : tw_Kt g mX12_feed 1 0 0 [.ref a0, .int a1, .int a2, .int a3, .int a4, .int a5] Q (f_X12_feed a0 a1 a2 a3 a4 a5 (fun v => Q (.inl (some (.int v))))) := by
  refine tw_mkK (L := [some (.ref a0), some (.int a1), some (.int a2), some (.int a3), some (.int a4), some (.int a5), none]) mo_X12_feed dk_X12_feed rfl (Nat.le_of_ble_eq_true rfl) rfl ?_
  unfold f_X12_feed
  refine tw_aload_n (k := 0) rfl rfl ?_
  refine tw_iconst (k := 1) (0 : Int32) rfl (by decide) ?_
  refine tw_putI (k := 2) rfl fl_RX12_3 wf_X12_feed_3 (by decide +kernel) ?_
  refine tw_aload_n (k := 3) rfl rfl ?_
  refine tw_getI (k := 4) rfl fl_RX12_81 (fun x1 => ?_)
  refine tw_bipush (k := 5) (20 : Int32) rfl (by decide) ?_
  refine tw_iadd (k := 6) rfl ?_
  refine tw_sipush (k := 7) (400 : Int32) rfl (by decide) ?_
  refine tw_icmp_le (k := 8) 20 rfl (by decide) ?_ ?_
  · refine tw_aload_n (k := 11) rfl rfl ?_
    refine tw_getR (k := 12) rfl fl_RX12_36 (fun x2 => ?_)
    refine tw_iconst (k := 13) (0 : Int32) rfl (by decide) ?_
    refine tw_iload_n (k := 14) rfl rfl ?_
    refine tw_iastore (k := 15) rfl ?_
    refine tw_aload_n (k := 16) rfl rfl ?_
    refine tw_getR (k := 17) rfl fl_RX12_36 (fun x3 => ?_)
    refine tw_iconst (k := 18) (1 : Int32) rfl (by decide) ?_
    refine tw_iload_n (k := 19) rfl rfl ?_
    refine tw_iastore (k := 20) rfl ?_
    refine tw_aload_n (k := 21) rfl rfl ?_
    refine tw_getR (k := 22) rfl fl_RX12_36 (fun x4 => ?_)
    refine tw_iconst (k := 23) (2 : Int32) rfl (by decide) ?_
    refine tw_iload_n (k := 24) rfl rfl ?_
    refine tw_iastore (k := 25) rfl ?_
    refine tw_aload_n (k := 26) rfl rfl ?_
    refine tw_getR (k := 27) rfl fl_RX12_36 (fun x5 => ?_)
    refine tw_iconst (k := 28) (3 : Int32) rfl (by decide) ?_
    refine tw_iload (k := 29) rfl rfl ?_
    refine tw_iastore (k := 30) rfl ?_
    refine tw_aload_n (k := 31) rfl rfl ?_
    refine tw_getR (k := 32) rfl fl_RX12_36 (fun x6 => ?_)
    refine tw_iconst (k := 33) (4 : Int32) rfl (by decide) ?_
    refine tw_iload (k := 34) rfl rfl ?_
    refine tw_iastore (k := 35) rfl ?_
    refine tw_iconst (k := 36) (0 : Int32) rfl (by decide) ?_
    refine tw_ist (k := 37) [some (.ref a0), some (.int a1), some (.int a2), some (.int a3), some (.int a4), some (.int a5), some (.int (0 : Int32))] rfl (Nat.le_of_ble_eq_true rfl) rfl rfl ?_
    refine tw_loop (fun s8 => [some (.ref a0), some (.int a1), some (.int a2), some (.int a3), some (.int a4), some (.int a5), some (.int s8)]) (fun s8 => []) (fun r7 h7 s8 => ?_) _ rfl rfl
    refine tw_iload (k := 38) rfl rfl ?_
    refine tw_bipush (k := 39) (20 : Int32) rfl (by decide) ?_
    refine tw_icmp_ge (k := 40) 106 rfl (by decide) ?_ ?_
    · refine tw_aload_n (k := 65) rfl rfl ?_
      refine tw_dup (k := 66) rfl rfl ?_
      refine tw_getI (k := 67) rfl fl_RX12_81 (fun x9 => ?_)
      refine tw_bipush (k := 68) (20 : Int32) rfl (by decide) ?_
      refine tw_iadd (k := 69) rfl ?_
      refine tw_putI (k := 70) rfl fl_RX12_81 wf_X12_feed_81 (by decide +kernel) ?_
      refine tw_aload_n (k := 71) rfl rfl ?_
      refine tw_getI (k := 72) rfl fl_RX12_81 (fun x10 => ?_)
      exact tw_ireturn (k := 73) rfl rfl (by decide) (by decide)
    · refine tw_aload_n (k := 41) rfl rfl ?_
      refine tw_getR (k := 42) rfl fl_RX12_29 (fun x11 => ?_)
      refine tw_aload_n (k := 43) rfl rfl ?_
      refine tw_getI (k := 44) rfl fl_RX12_81 (fun x12 => ?_)
      refine tw_iload (k := 45) rfl rfl ?_
      refine tw_iadd (k := 46) rfl ?_
      refine tw_aload_n (k := 47) rfl rfl ?_
      refine tw_getR (k := 48) rfl fl_RX12_36 (fun x13 => ?_)
      refine tw_iload (k := 49) rfl rfl ?_
      refine tw_iconst (k := 50) (4 : Int32) rfl (by decide) ?_
      refine tw_idiv (k := 51) rfl ?_
      refine tw_iaload (k := 52) rfl (fun x14 => ?_)
      refine tw_bipush (k := 53) (24 : Int32) rfl (by decide) ?_
      refine tw_bipush (k := 54) (8 : Int32) rfl (by decide) ?_
      refine tw_iload (k := 55) rfl rfl ?_
      refine tw_iconst (k := 56) (4 : Int32) rfl (by decide) ?_
      refine tw_irem (k := 57) rfl ?_
      refine tw_imul (k := 58) rfl ?_
      refine tw_isub (k := 59) rfl ?_
      refine tw_ishr (k := 60) rfl ?_
      refine tw_i2b (k := 61) rfl ?_
      refine tw_bastore (k := 62) rfl ?_
      refine tw_inc (k := 63) (1 : Int32) [some (.ref a0), some (.int a1), some (.int a2), some (.int a3), some (.int a4), some (.int a5), some (.int (s8 + (1 : Int32)))] rfl rfl (by decide) (Nat.le_of_ble_eq_true rfl) rfl rfl ?_
      refine tw_goto (k := 64) 60 rfl (by decide) ?_
      exact h7 (s8 + (1 : Int32))
  · refine tw_iconst (k := 9) (-1 : Int32) rfl (by decide) ?_
    exact tw_ireturn (k := 10) rfl rfl (by decide) (by decide)
def mX12_end : tw_MD := (yX12_end, cX12_end, 2, (some FieldType.boolean), [(0, .aload_n 0, 1, 1), (1, .iconst 0, 1, 2), (2, .putfield 3, 3, 5), (5, .iload_n 1, 1, 6), (6, .ifCond .lt 11, 3, 9), (9, .iload_n 1, 1, 10), (10, .aload_n 0, 1, 11), (11, .getfield 81, 3, 14), (14, .if_icmp .le 5, 3, 17), (17, .iconst 0, 1, 18), (18, .ireturn, 1, 19), (19, .aload_n 0, 1, 20), (20, .iload_n 1, 1, 21), (21, .putfield 81, 3, 24), (24, .iconst 1, 1, 25), (25, .ireturn, 1, 26)], [])
theorem mo_X12_end : tw_mok mX12_end 1 := ⟨plainFor_of_name (by decide +kernel), by decide +kernel, by decide +kernel, by decide +kernel, by decide +kernel⟩
theorem dk_X12_end : tw_dk mX12_end := by unfold tw_dk; decide +kernel
theorem wf_X12_end_81 : tw_wf mX12_end 81 79 := Or.inl rfl
theorem wf_X12_end_3 : tw_wf mX12_end 3 70 := Or.inl rfl
set_option maxRecDepth 20000 in
theorem K_X12_end {g : tw_Gx} (Q : tw_Rs → tw_Mem → Prop) (a0 : Nat) (a1 : Int32) : tw_Kt g mX12_end 1 0 0 [.ref a0, .int a1] Q (f_X12_end a0 a1 (fun v => Q (.inl (some (.int v))))) := by
  refine tw_mkK (L := [some (.ref a0), some (.int a1)]) mo_X12_end dk_X12_end rfl (Nat.le_of_ble_eq_true rfl) rfl ?_
  unfold f_X12_end
  refine tw_aload_n (k := 0) rfl rfl ?_
  refine tw_iconst (k := 1) (0 : Int32) rfl (by decide) ?_
  refine tw_putI (k := 2) rfl fl_RX12_3 wf_X12_end_3 (by decide +kernel) ?_
  refine tw_iload_n (k := 3) rfl rfl ?_
  refine tw_if_lt (k := 4) 17 rfl (by decide) ?_ ?_
  · refine tw_iconst (k := 9) (0 : Int32) rfl (by decide) ?_
    exact tw_zreturn (k := 10) rfl rfl (by decide) (by decide)
  · refine tw_iload_n (k := 5) rfl rfl ?_
    refine tw_aload_n (k := 6) rfl rfl ?_
    refine tw_getI (k := 7) rfl fl_RX12_81 (fun x1 => ?_)
    refine tw_icmp_le (k := 8) 19 rfl (by decide) ?_ ?_
    · refine tw_aload_n (k := 11) rfl rfl ?_
      refine tw_iload_n (k := 12) rfl rfl ?_
      refine tw_putI (k := 13) rfl fl_RX12_81 wf_X12_end_81 (by decide +kernel) ?_
      refine tw_iconst (k := 14) (1 : Int32) rfl (by decide) ?_
      exact tw_zreturn (k := 15) rfl rfl (by decide) (by decide)
    · refine tw_iconst (k := 9) (0 : Int32) rfl (by decide) ?_
      exact tw_zreturn (k := 10) rfl rfl (by decide) (by decide)
def mX12_isAt : tw_MD := (yX12_isAt, cX12_isAt, 3, (some FieldType.boolean), [(0, .aload_n 0, 1, 1), (1, .getfield 84, 3, 4), (4, .aload_n 0, 1, 5), (5, .getfield 87, 3, 8), (8, .if_icmp .ge 33, 3, 11), (11, .aload_n 0, 1, 12), (12, .getfield 29, 3, 15), (15, .aload_n 0, 1, 16), (16, .getfield 84, 3, 19), (19, .baload, 1, 20), (20, .iload_n 1, 1, 21), (21, .if_icmp .lt 20, 3, 24), (24, .aload_n 0, 1, 25), (25, .getfield 29, 3, 28), (28, .aload_n 0, 1, 29), (29, .getfield 84, 3, 32), (32, .baload, 1, 33), (33, .iload_n 2, 1, 34), (34, .if_icmp .gt 7, 3, 37), (37, .iconst 1, 1, 38), (38, .goto 4, 3, 41), (41, .iconst 0, 1, 42), (42, .ireturn, 1, 43)], [])
theorem mo_X12_isAt : tw_mok mX12_isAt 2 := ⟨plainFor_of_name (by decide +kernel), by decide +kernel, by decide +kernel, by decide +kernel, by decide +kernel⟩
theorem dk_X12_isAt : tw_dk mX12_isAt := by unfold tw_dk; decide +kernel
theorem fl_RX12_84 : tw_fl RX12 84 80 := Or.inl (List.mem_of_getElem? (i := 1800) (by decide +kernel))
theorem fl_RX12_87 : tw_fl RX12 87 81 := Or.inl (List.mem_of_getElem? (i := 1801) (by decide +kernel))
set_option maxRecDepth 20000 in
theorem K_X12_isAt {g : tw_Gx} (Q : tw_Rs → tw_Mem → Prop) (a0 : Nat) (a1 : Int32) (a2 : Int32) : tw_Kt g mX12_isAt 1 0 0 [.ref a0, .int a1, .int a2] Q (f_X12_isAt a0 a1 a2 (fun v => Q (.inl (some (.int v))))) := by
  refine tw_mkK (L := [some (.ref a0), some (.int a1), some (.int a2)]) mo_X12_isAt dk_X12_isAt rfl (Nat.le_of_ble_eq_true rfl) rfl ?_
  unfold f_X12_isAt
  refine tw_aload_n (k := 0) rfl rfl ?_
  refine tw_getI (k := 1) rfl fl_RX12_84 (fun x1 => ?_)
  refine tw_aload_n (k := 2) rfl rfl ?_
  refine tw_getI (k := 3) rfl fl_RX12_87 (fun x2 => ?_)
  refine tw_icmp_ge (k := 4) 41 rfl (by decide) ?_ ?_
  · refine tw_iconst (k := 21) (0 : Int32) rfl (by decide) ?_
    exact tw_zreturn (k := 22) rfl rfl (by decide) (by decide)
  · refine tw_aload_n (k := 5) rfl rfl ?_
    refine tw_getR (k := 6) rfl fl_RX12_29 (fun x3 => ?_)
    refine tw_aload_n (k := 7) rfl rfl ?_
    refine tw_getI (k := 8) rfl fl_RX12_84 (fun x4 => ?_)
    refine tw_baload (k := 9) rfl (fun x5 => ?_)
    refine tw_iload_n (k := 10) rfl rfl ?_
    refine tw_icmp_lt (k := 11) 41 rfl (by decide) ?_ ?_
    · refine tw_iconst (k := 21) (0 : Int32) rfl (by decide) ?_
      exact tw_zreturn (k := 22) rfl rfl (by decide) (by decide)
    · refine tw_aload_n (k := 12) rfl rfl ?_
      refine tw_getR (k := 13) rfl fl_RX12_29 (fun x6 => ?_)
      refine tw_aload_n (k := 14) rfl rfl ?_
      refine tw_getI (k := 15) rfl fl_RX12_84 (fun x7 => ?_)
      refine tw_baload (k := 16) rfl (fun x8 => ?_)
      refine tw_iload_n (k := 17) rfl rfl ?_
      refine tw_icmp_gt (k := 18) 41 rfl (by decide) ?_ ?_
      · refine tw_iconst (k := 21) (0 : Int32) rfl (by decide) ?_
        exact tw_zreturn (k := 22) rfl rfl (by decide) (by decide)
      · refine tw_iconst (k := 19) (1 : Int32) rfl (by decide) ?_
        refine tw_goto (k := 20) 42 rfl (by decide) ?_
        exact tw_zreturn (k := 22) rfl rfl (by decide) (by decide)
def mX12_blanks : tw_MD := (yX12_blanks, cX12_blanks, 1, none, [(0, .aload_n 0, 1, 1), (1, .bipush 32, 2, 3), (3, .bipush 32, 2, 5), (5, .invokevirtual 90, 3, 8), (8, .ifCond .eq 16, 3, 11), (11, .aload_n 0, 1, 12), (12, .dup, 1, 13), (13, .getfield 84, 3, 16), (16, .iconst 1, 1, 17), (17, .iadd, 1, 18), (18, .putfield 84, 3, 21), (21, .goto (-21), 3, 24), (24, .aload_n 0, 1, 25), (25, .aload_n 0, 1, 26), (26, .getfield 84, 3, 29), (29, .putfield 94, 3, 32), (32, .return_, 1, 33)], [])
theorem mo_X12_blanks : tw_mok mX12_blanks 0 := ⟨plainFor_of_name (by decide +kernel), by decide +kernel, by decide +kernel, by decide +kernel, by decide +kernel⟩
theorem dk_X12_blanks : tw_dk mX12_blanks := by unfold tw_dk; decide +kernel
theorem fl_RX12_94 : tw_fl RX12 94 82 := Or.inl (List.mem_of_getElem? (i := 1802) (by decide +kernel))
theorem wf_X12_blanks_94 : tw_wf mX12_blanks 94 82 := Or.inl rfl
theorem wf_X12_blanks_84 : tw_wf mX12_blanks 84 80 := Or.inl rfl
theorem wv_RX12_90_X12_isAt : tw_wV RX12 90 mX12_isAt := ⟨List.mem_of_getElem? (i := 1901) (by decide +kernel), List.mem_of_getElem? (i := 1903) (by decide +kernel), List.mem_of_getElem? (i := 47) (by decide +kernel), List.mem_of_getElem? (i := 137) (by decide +kernel), List.mem_of_getElem? (i := 1904) (by decide +kernel)⟩
set_option maxRecDepth 20000 in
theorem K_X12_blanks {g : tw_Gx} (Q : tw_Rs → tw_Mem → Prop) (a0 : Nat) : tw_Kt g mX12_blanks 2 0 0 [.ref a0] Q (f_X12_blanks a0 (fun v => Q (.inl none))) := by
  refine tw_mkK (L := [some (.ref a0)]) mo_X12_blanks dk_X12_blanks rfl (Nat.le_of_ble_eq_true rfl) rfl ?_
  unfold f_X12_blanks
  refine tw_loop (fun s2 => [some (.ref a0)]) (fun s2 => []) (fun r1 h1 s2 => ?_) _ rfl rfl
  refine tw_aload_n (k := 0) rfl rfl ?_
  refine tw_bipush (k := 1) (32 : Int32) rfl (by decide) ?_
  refine tw_bipush (k := 2) (32 : Int32) rfl (by decide) ?_
  refine tw_callV (k := 3) (d' := 1) (mc' := 0) (ms' := 0) tw_cI tw_cIi [.int (32 : Int32), .int (32 : Int32)] rfl rfl wv_RX12_90_X12_isAt mo_X12_isAt (t := 11) rfl rfl rfl (fun Q9 => K_X12_isAt Q9 a0 (32 : Int32) (32 : Int32)) (by omega) (by decide) (by decide) (Nat.le_of_ble_eq_true rfl) (fun x3 => ?_)
  refine tw_if_eq (k := 4) 24 rfl (by decide) ?_ ?_
  · refine tw_aload_n (k := 12) rfl rfl ?_
    refine tw_aload_n (k := 13) rfl rfl ?_
    refine tw_getI (k := 14) rfl fl_RX12_84 (fun x4 => ?_)
    refine tw_putI (k := 15) rfl fl_RX12_94 wf_X12_blanks_94 (by decide +kernel) ?_
    exact tw_return (k := 16) rfl rfl (by decide) (by decide)
  · refine tw_aload_n (k := 5) rfl rfl ?_
    refine tw_dup (k := 6) rfl rfl ?_
    refine tw_getI (k := 7) rfl fl_RX12_84 (fun x5 => ?_)
    refine tw_iconst (k := 8) (1 : Int32) rfl (by decide) ?_
    refine tw_iadd (k := 9) rfl ?_
    refine tw_putI (k := 10) rfl fl_RX12_84 wf_X12_blanks_84 (by decide +kernel) ?_
    refine tw_goto (k := 11) 0 rfl (by decide) ?_
    exact h1 ()
def mX12_letters : tw_MD := (yX12_letters, cX12_letters, 1, none, [(0, .aload_n 0, 1, 1), (1, .invokevirtual 97, 3, 4), (4, .aload_n 0, 1, 5), (5, .bipush 97, 2, 7), (7, .bipush 122, 2, 9), (9, .invokevirtual 90, 3, 12), (12, .ifCond .eq 16, 3, 15), (15, .aload_n 0, 1, 16), (16, .dup, 1, 17), (17, .getfield 84, 3, 20), (20, .iconst 1, 1, 21), (21, .iadd, 1, 22), (22, .putfield 84, 3, 25), (25, .goto (-21), 3, 28), (28, .return_, 1, 29)], [])
theorem mo_X12_letters : tw_mok mX12_letters 0 := ⟨plainFor_of_name (by decide +kernel), by decide +kernel, by decide +kernel, by decide +kernel, by decide +kernel⟩
theorem dk_X12_letters : tw_dk mX12_letters := by unfold tw_dk; decide +kernel
theorem wf_X12_letters_84 : tw_wf mX12_letters 84 80 := Or.inl rfl
theorem wv_RX12_97_X12_blanks : tw_wV RX12 97 mX12_blanks := ⟨List.mem_of_getElem? (i := 1897) (by decide +kernel), List.mem_of_getElem? (i := 1899) (by decide +kernel), List.mem_of_getElem? (i := 46) (by decide +kernel), List.mem_of_getElem? (i := 137) (by decide +kernel), List.mem_of_getElem? (i := 1900) (by decide +kernel)⟩
set_option maxRecDepth 20000 in
theorem K_X12_letters {g : tw_Gx} (Q : tw_Rs → tw_Mem → Prop) (a0 : Nat) : tw_Kt g mX12_letters 3 0 0 [.ref a0] Q (f_X12_letters a0 (fun v => Q (.inl none))) := by
  refine tw_mkK (L := [some (.ref a0)]) mo_X12_letters dk_X12_letters rfl (Nat.le_of_ble_eq_true rfl) rfl ?_
  unfold f_X12_letters
  refine tw_aload_n (k := 0) rfl rfl ?_
  refine tw_callV (k := 1) (d' := 2) (mc' := 0) (ms' := 0) tw_cU tw_cUi [] rfl rfl wv_RX12_97_X12_blanks mo_X12_blanks (t := 11) rfl rfl rfl (fun Q9 => K_X12_blanks Q9 a0) (by omega) (by decide) (by decide) (Nat.le_of_ble_eq_true rfl) (fun u1 => ?_)
  refine tw_loop (fun s3 => [some (.ref a0)]) (fun s3 => []) (fun r2 h2 s3 => ?_) _ rfl rfl
  refine tw_aload_n (k := 2) rfl rfl ?_
  refine tw_bipush (k := 3) (97 : Int32) rfl (by decide) ?_
  refine tw_bipush (k := 4) (122 : Int32) rfl (by decide) ?_
  refine tw_callV (k := 5) (d' := 1) (mc' := 0) (ms' := 0) tw_cI tw_cIi [.int (97 : Int32), .int (122 : Int32)] rfl rfl wv_RX12_90_X12_isAt mo_X12_isAt (t := 11) rfl rfl rfl (fun Q9 => K_X12_isAt Q9 a0 (97 : Int32) (122 : Int32)) (by omega) (by decide) (by decide) (Nat.le_of_ble_eq_true rfl) (fun x4 => ?_)
  refine tw_if_eq (k := 6) 28 rfl (by decide) ?_ ?_
  · exact tw_return (k := 14) rfl rfl (by decide) (by decide)
  · refine tw_aload_n (k := 7) rfl rfl ?_
    refine tw_dup (k := 8) rfl rfl ?_
    refine tw_getI (k := 9) rfl fl_RX12_84 (fun x5 => ?_)
    refine tw_iconst (k := 10) (1 : Int32) rfl (by decide) ?_
    refine tw_iadd (k := 11) rfl ?_
    refine tw_putI (k := 12) rfl fl_RX12_84 wf_X12_letters_84 (by decide +kernel) ?_
    refine tw_goto (k := 13) 4 rfl (by decide) ?_
    exact h2 ()
def mX12_isWord : tw_MD := (yX12_isWord, cX12_isWord, 4, (some FieldType.boolean), [(0, .aload_n 0, 1, 1), (1, .getfield 84, 3, 4), (4, .aload_n 0, 1, 5), (5, .getfield 94, 3, 8), (8, .isub, 1, 9), (9, .aload_n 1, 1, 10), (10, .invokevirtual 100, 3, 13), (13, .if_icmp .ne 7, 3, 16), (16, .iconst 1, 1, 17), (17, .goto 4, 3, 20), (20, .iconst 0, 1, 21), (21, .istore_n 2, 1, 22), (22, .iconst 0, 1, 23), (23, .istore_n 3, 1, 24), (24, .iload_n 2, 1, 25), (25, .ifCond .eq 42, 3, 28), (28, .iload_n 3, 1, 29), (29, .aload_n 1, 1, 30), (30, .invokevirtual 100, 3, 33), (33, .if_icmp .ge 34, 3, 36), (36, .aload_n 0, 1, 37), (37, .getfield 29, 3, 40), (40, .aload_n 0, 1, 41), (41, .getfield 94, 3, 44), (44, .iload_n 3, 1, 45), (45, .iadd, 1, 46), (46, .baload, 1, 47), (47, .aload_n 1, 1, 48), (48, .iload_n 3, 1, 49), (49, .invokevirtual 105, 3, 52), (52, .if_icmp .ne 7, 3, 55), (55, .iconst 1, 1, 56), (56, .goto 4, 3, 59), (59, .iconst 0, 1, 60), (60, .istore_n 2, 1, 61), (61, .iinc 3 1, 3, 64), (64, .goto (-40), 3, 67), (67, .iload_n 2, 1, 68), (68, .ireturn, 1, 69)], [])
theorem mo_X12_isWord : tw_mok mX12_isWord 1 := ⟨plainFor_of_name (by decide +kernel), by decide +kernel, by decide +kernel, by decide +kernel, by decide +kernel⟩
theorem dk_X12_isWord : tw_dk mX12_isWord := by unfold tw_dk; decide +kernel
theorem wj_RX12_105_J0_charAt_5068e : tw_wV RX12 105 mJ0_charAt_5068e := ⟨List.mem_of_getElem? (i := 1923) (by decide +kernel), List.mem_of_getElem? (i := 946) (by decide +kernel), List.mem_of_getElem? (i := 947) (by decide +kernel), List.mem_of_getElem? (i := 139) (by decide +kernel), List.mem_of_getElem? (i := 948) (by decide +kernel)⟩
theorem wj_RX12_100_J0_length_8abf5 : tw_wV RX12 100 mJ0_length_8abf5 := ⟨List.mem_of_getElem? (i := 1922) (by decide +kernel), List.mem_of_getElem? (i := 936) (by decide +kernel), List.mem_of_getElem? (i := 937) (by decide +kernel), List.mem_of_getElem? (i := 139) (by decide +kernel), List.mem_of_getElem? (i := 938) (by decide +kernel)⟩
set_option maxRecDepth 20000 in
theorem K_X12_isWord {g : tw_Gx} (Q : tw_Rs → tw_Mem → Prop) (a0 : Nat) (a1 : Nat) : tw_Kt g mX12_isWord 5 0 0 [.ref a0, .ref a1] Q (f_X12_isWord a0 a1 (fun v => Q (.inl (some (.int v))))) := by
  refine tw_mkK (L := [some (.ref a0), some (.ref a1), none, none]) mo_X12_isWord dk_X12_isWord rfl (Nat.le_of_ble_eq_true rfl) rfl ?_
  unfold f_X12_isWord
  refine tw_aload_n (k := 0) rfl rfl ?_
  refine tw_getI (k := 1) rfl fl_RX12_84 (fun x1 => ?_)
  refine tw_aload_n (k := 2) rfl rfl ?_
  refine tw_getI (k := 3) rfl fl_RX12_94 (fun x2 => ?_)
  refine tw_isub (k := 4) rfl ?_
  refine tw_aload_n (k := 5) rfl rfl ?_
  refine tw_callJ (k := 6) (d' := 2) (mc' := 0) (ms' := 0) tw_cI tw_cIi [] rfl rfl wj_RX12_100_J0_length_8abf5 mo_J0_length_8abf5 rfl rfl (fun Q9 => K_J0_length_8abf5 Q9 a1) (by omega) (by decide) (by decide) (Nat.le_of_ble_eq_true rfl) (fun x3 => ?_)
  refine tw_join 21 (fun s5 => [some (.ref a0), some (.ref a1), none, none]) (fun s5 => .int s5 :: []) 0 0 (fun s5 => ?_) (fun j4 g4 => ?_)
  · refine tw_ist_n (k := 11) [some (.ref a0), some (.ref a1), some (.int s5), none] rfl (Nat.le_of_ble_eq_true rfl) rfl rfl ?_
    refine tw_iconst (k := 12) (0 : Int32) rfl (by decide) ?_
    refine tw_ist_n (k := 13) [some (.ref a0), some (.ref a1), some (.int s5), some (.int (0 : Int32))] rfl (Nat.le_of_ble_eq_true rfl) rfl rfl ?_
    refine tw_loop (fun s7 => [some (.ref a0), some (.ref a1), some (.int s7.1), some (.int s7.2)]) (fun s7 => []) (fun r6 h6 s7 => ?_) _ rfl rfl
    refine tw_iload_n (k := 14) rfl rfl ?_
    refine tw_if_eq (k := 15) 67 rfl (by decide) ?_ ?_
    · refine tw_iload_n (k := 37) rfl rfl ?_
      exact tw_zreturn (k := 38) rfl rfl (by decide) (by decide)
    · refine tw_iload_n (k := 16) rfl rfl ?_
      refine tw_aload_n (k := 17) rfl rfl ?_
      refine tw_callJ (k := 18) (d' := 2) (mc' := 0) (ms' := 0) tw_cI tw_cIi [] rfl rfl wj_RX12_100_J0_length_8abf5 mo_J0_length_8abf5 rfl rfl (fun Q9 => K_J0_length_8abf5 Q9 a1) (by omega) (by decide) (by decide) (Nat.le_of_ble_eq_true rfl) (fun x8 => ?_)
      refine tw_icmp_ge (k := 19) 67 rfl (by decide) ?_ ?_
      · refine tw_iload_n (k := 37) rfl rfl ?_
        exact tw_zreturn (k := 38) rfl rfl (by decide) (by decide)
      · refine tw_aload_n (k := 20) rfl rfl ?_
        refine tw_getR (k := 21) rfl fl_RX12_29 (fun x9 => ?_)
        refine tw_aload_n (k := 22) rfl rfl ?_
        refine tw_getI (k := 23) rfl fl_RX12_94 (fun x10 => ?_)
        refine tw_iload_n (k := 24) rfl rfl ?_
        refine tw_iadd (k := 25) rfl ?_
        refine tw_baload (k := 26) rfl (fun x11 => ?_)
        refine tw_aload_n (k := 27) rfl rfl ?_
        refine tw_iload_n (k := 28) rfl rfl ?_
        refine tw_callJ (k := 29) (d' := 4) (mc' := 0) (ms' := 0) tw_cI tw_cIi [.int s7.2] rfl rfl wj_RX12_105_J0_charAt_5068e mo_J0_charAt_5068e rfl rfl (fun Q9 => K_J0_charAt_5068e Q9 a1 s7.2) (by omega) (by decide) (by decide) (Nat.le_of_ble_eq_true rfl) (fun x12 => ?_)
        refine tw_join 60 (fun s14 => [some (.ref a0), some (.ref a1), some (.int s7.1), some (.int s7.2)]) (fun s14 => .int s14 :: []) 0 0 (fun s14 => ?_) (fun j13 g13 => ?_)
        · refine tw_ist_n (k := 34) [some (.ref a0), some (.ref a1), some (.int s14), some (.int s7.2)] rfl (Nat.le_of_ble_eq_true rfl) rfl rfl ?_
          refine tw_inc (k := 35) (1 : Int32) [some (.ref a0), some (.ref a1), some (.int s14), some (.int (s7.2 + (1 : Int32)))] rfl rfl (by decide) (Nat.le_of_ble_eq_true rfl) rfl rfl ?_
          refine tw_goto (k := 36) 24 rfl (by decide) ?_
          exact h6 (s14, s7.2 + (1 : Int32))
        · refine tw_icmp_ne (k := 30) 59 rfl (by decide) ?_ ?_
          · refine tw_iconst (k := 33) (0 : Int32) rfl (by decide) ?_
            exact g13 (0 : Int32)
          · refine tw_iconst (k := 31) (1 : Int32) rfl (by decide) ?_
            refine tw_goto (k := 32) 60 rfl (by decide) ?_
            exact g13 (1 : Int32)
  · refine tw_icmp_ne (k := 7) 20 rfl (by decide) ?_ ?_
    · refine tw_iconst (k := 10) (0 : Int32) rfl (by decide) ?_
      exact g4 (0 : Int32)
    · refine tw_iconst (k := 8) (1 : Int32) rfl (by decide) ?_
      refine tw_goto (k := 9) 21 rfl (by decide) ?_
      exact g4 (1 : Int32)
def mX12_passes : tw_MD := (yX12_passes, cX12_passes, 2, (some FieldType.boolean), [(0, .aload_n 0, 1, 1), (1, .invokevirtual 109, 3, 4), (4, .aload_n 0, 1, 5), (5, .aload_n 1, 1, 6), (6, .invokevirtual 112, 3, 9), (9, .ifCond .eq 5, 3, 12), (12, .iconst 1, 1, 13), (13, .ireturn, 1, 14), (14, .aload_n 0, 1, 15), (15, .aload_n 0, 1, 16), (16, .getfield 94, 3, 19), (19, .putfield 84, 3, 22), (22, .iconst 0, 1, 23), (23, .ireturn, 1, 24)], [])
theorem mo_X12_passes : tw_mok mX12_passes 1 := ⟨plainFor_of_name (by decide +kernel), by decide +kernel, by decide +kernel, by decide +kernel, by decide +kernel⟩
theorem dk_X12_passes : tw_dk mX12_passes := by unfold tw_dk; decide +kernel
theorem wf_X12_passes_84 : tw_wf mX12_passes 84 80 := Or.inl rfl
theorem wv_RX12_112_X12_isWord : tw_wV RX12 112 mX12_isWord := ⟨List.mem_of_getElem? (i := 1918) (by decide +kernel), List.mem_of_getElem? (i := 1920) (by decide +kernel), List.mem_of_getElem? (i := 51) (by decide +kernel), List.mem_of_getElem? (i := 137) (by decide +kernel), List.mem_of_getElem? (i := 1921) (by decide +kernel)⟩
theorem wv_RX12_109_X12_letters : tw_wV RX12 109 mX12_letters := ⟨List.mem_of_getElem? (i := 1909) (by decide +kernel), List.mem_of_getElem? (i := 1911) (by decide +kernel), List.mem_of_getElem? (i := 49) (by decide +kernel), List.mem_of_getElem? (i := 137) (by decide +kernel), List.mem_of_getElem? (i := 1912) (by decide +kernel)⟩
set_option maxRecDepth 20000 in
theorem K_X12_passes {g : tw_Gx} (Q : tw_Rs → tw_Mem → Prop) (a0 : Nat) (a1 : Nat) : tw_Kt g mX12_passes 6 0 0 [.ref a0, .ref a1] Q (f_X12_passes a0 a1 (fun v => Q (.inl (some (.int v))))) := by
  refine tw_mkK (L := [some (.ref a0), some (.ref a1)]) mo_X12_passes dk_X12_passes rfl (Nat.le_of_ble_eq_true rfl) rfl ?_
  unfold f_X12_passes
  refine tw_aload_n (k := 0) rfl rfl ?_
  refine tw_callV (k := 1) (d' := 3) (mc' := 0) (ms' := 0) tw_cU tw_cUi [] rfl rfl wv_RX12_109_X12_letters mo_X12_letters (t := 11) rfl rfl rfl (fun Q9 => K_X12_letters Q9 a0) (by omega) (by decide) (by decide) (Nat.le_of_ble_eq_true rfl) (fun u1 => ?_)
  refine tw_aload_n (k := 2) rfl rfl ?_
  refine tw_aload_n (k := 3) rfl rfl ?_
  refine tw_callV (k := 4) (d' := 5) (mc' := 0) (ms' := 0) tw_cI tw_cIi [.ref a1] rfl rfl wv_RX12_112_X12_isWord mo_X12_isWord (t := 11) rfl rfl rfl (fun Q9 => K_X12_isWord Q9 a0 a1) (by omega) (by decide) (by decide) (Nat.le_of_ble_eq_true rfl) (fun x2 => ?_)
  refine tw_if_eq (k := 5) 14 rfl (by decide) ?_ ?_
  · refine tw_aload_n (k := 8) rfl rfl ?_
    refine tw_aload_n (k := 9) rfl rfl ?_
    refine tw_getI (k := 10) rfl fl_RX12_94 (fun x3 => ?_)
    refine tw_putI (k := 11) rfl fl_RX12_84 wf_X12_passes_84 (by decide +kernel) ?_
    refine tw_iconst (k := 12) (0 : Int32) rfl (by decide) ?_
    exact tw_zreturn (k := 13) rfl rfl (by decide) (by decide)
  · refine tw_iconst (k := 6) (1 : Int32) rfl (by decide) ?_
    exact tw_zreturn (k := 7) rfl rfl (by decide) (by decide)
def mX12_sign : tw_MD := (yX12_sign, cX12_sign, 2, (some FieldType.boolean), [(0, .aload_n 0, 1, 1), (1, .invokevirtual 97, 3, 4), (4, .aload_n 0, 1, 5), (5, .iload_n 1, 1, 6), (6, .iload_n 1, 1, 7), (7, .invokevirtual 90, 3, 10), (10, .ifCond .ne 5, 3, 13), (13, .iconst 0, 1, 14), (14, .ireturn, 1, 15), (15, .aload_n 0, 1, 16), (16, .dup, 1, 17), (17, .getfield 84, 3, 20), (20, .iconst 1, 1, 21), (21, .iadd, 1, 22), (22, .putfield 84, 3, 25), (25, .iconst 1, 1, 26), (26, .ireturn, 1, 27)], [])
theorem mo_X12_sign : tw_mok mX12_sign 1 := ⟨plainFor_of_name (by decide +kernel), by decide +kernel, by decide +kernel, by decide +kernel, by decide +kernel⟩
theorem dk_X12_sign : tw_dk mX12_sign := by unfold tw_dk; decide +kernel
theorem wf_X12_sign_84 : tw_wf mX12_sign 84 80 := Or.inl rfl
set_option maxRecDepth 20000 in
theorem K_X12_sign {g : tw_Gx} (Q : tw_Rs → tw_Mem → Prop) (a0 : Nat) (a1 : Int32) : tw_Kt g mX12_sign 3 0 0 [.ref a0, .int a1] Q (f_X12_sign a0 a1 (fun v => Q (.inl (some (.int v))))) := by
  refine tw_mkK (L := [some (.ref a0), some (.int a1)]) mo_X12_sign dk_X12_sign rfl (Nat.le_of_ble_eq_true rfl) rfl ?_
  unfold f_X12_sign
  refine tw_aload_n (k := 0) rfl rfl ?_
  refine tw_callV (k := 1) (d' := 2) (mc' := 0) (ms' := 0) tw_cU tw_cUi [] rfl rfl wv_RX12_97_X12_blanks mo_X12_blanks (t := 11) rfl rfl rfl (fun Q9 => K_X12_blanks Q9 a0) (by omega) (by decide) (by decide) (Nat.le_of_ble_eq_true rfl) (fun u1 => ?_)
  refine tw_aload_n (k := 2) rfl rfl ?_
  refine tw_iload_n (k := 3) rfl rfl ?_
  refine tw_iload_n (k := 4) rfl rfl ?_
  refine tw_callV (k := 5) (d' := 1) (mc' := 0) (ms' := 0) tw_cI tw_cIi [.int a1, .int a1] rfl rfl wv_RX12_90_X12_isAt mo_X12_isAt (t := 11) rfl rfl rfl (fun Q9 => K_X12_isAt Q9 a0 a1 a1) (by omega) (by decide) (by decide) (Nat.le_of_ble_eq_true rfl) (fun x2 => ?_)
  refine tw_if_ne (k := 6) 15 rfl (by decide) ?_ ?_
  · refine tw_aload_n (k := 9) rfl rfl ?_
    refine tw_dup (k := 10) rfl rfl ?_
    refine tw_getI (k := 11) rfl fl_RX12_84 (fun x3 => ?_)
    refine tw_iconst (k := 12) (1 : Int32) rfl (by decide) ?_
    refine tw_iadd (k := 13) rfl ?_
    refine tw_putI (k := 14) rfl fl_RX12_84 wf_X12_sign_84 (by decide +kernel) ?_
    refine tw_iconst (k := 15) (1 : Int32) rfl (by decide) ?_
    exact tw_zreturn (k := 16) rfl rfl (by decide) (by decide)
  · refine tw_iconst (k := 7) (0 : Int32) rfl (by decide) ?_
    exact tw_zreturn (k := 8) rfl rfl (by decide) (by decide)
def mX12_number : tw_MD := (yX12_number, cX12_number, 4, (some FieldType.int), [(0, .aload_n 0, 1, 1), (1, .invokevirtual 97, 3, 4), (4, .iconst 0, 1, 5), (5, .istore_n 3, 1, 6), (6, .aload_n 0, 1, 7), (7, .bipush 48, 2, 9), (9, .bipush 57, 2, 11), (11, .invokevirtual 90, 3, 14), (14, .ifCond .eq 51, 3, 17), (17, .aload_n 0, 1, 18), (18, .getfield 84, 3, 21), (21, .aload_n 0, 1, 22), (22, .getfield 94, 3, 25), (25, .isub, 1, 26), (26, .iconst 3, 1, 27), (27, .if_icmp .ge 23, 3, 30), (30, .bipush 10, 2, 32), (32, .iload_n 3, 1, 33), (33, .imul, 1, 34), (34, .aload_n 0, 1, 35), (35, .getfield 29, 3, 38), (38, .aload_n 0, 1, 39), (39, .getfield 84, 3, 42), (42, .baload, 1, 43), (43, .iadd, 1, 44), (44, .bipush 48, 2, 46), (46, .isub, 1, 47), (47, .goto 4, 3, 50), (50, .iload_n 3, 1, 51), (51, .istore_n 3, 1, 52), (52, .aload_n 0, 1, 53), (53, .dup, 1, 54), (54, .getfield 84, 3, 57), (57, .iconst 1, 1, 58), (58, .iadd, 1, 59), (59, .putfield 84, 3, 62), (62, .goto (-56), 3, 65), (65, .aload_n 0, 1, 66), (66, .getfield 84, 3, 69), (69, .aload_n 0, 1, 70), (70, .getfield 94, 3, 73), (73, .if_icmp .eq 26, 3, 76), (76, .aload_n 0, 1, 77), (77, .getfield 84, 3, 80), (80, .aload_n 0, 1, 81), (81, .getfield 94, 3, 84), (84, .isub, 1, 85), (85, .iconst 3, 1, 86), (86, .if_icmp .gt 13, 3, 89), (89, .iload_n 3, 1, 90), (90, .iload_n 1, 1, 91), (91, .if_icmp .lt 8, 3, 94), (94, .iload_n 3, 1, 95), (95, .iload_n 2, 1, 96), (96, .if_icmp .le 7, 3, 99), (99, .iconst (-1), 1, 100), (100, .goto 4, 3, 103), (103, .iload_n 3, 1, 104), (104, .ireturn, 1, 105)], [])
theorem mo_X12_number : tw_mok mX12_number 2 := ⟨plainFor_of_name (by decide +kernel), by decide +kernel, by decide +kernel, by decide +kernel, by decide +kernel⟩
theorem dk_X12_number : tw_dk mX12_number := by unfold tw_dk; decide +kernel
theorem wf_X12_number_84 : tw_wf mX12_number 84 80 := Or.inl rfl
set_option maxRecDepth 20000 in
theorem K_X12_number {g : tw_Gx} (Q : tw_Rs → tw_Mem → Prop) (a0 : Nat) (a1 : Int32) (a2 : Int32) : tw_Kt g mX12_number 3 0 0 [.ref a0, .int a1, .int a2] Q (f_X12_number a0 a1 a2 (fun v => Q (.inl (some (.int v))))) := by
  refine tw_mkK (L := [some (.ref a0), some (.int a1), some (.int a2), none]) mo_X12_number dk_X12_number rfl (Nat.le_of_ble_eq_true rfl) rfl ?_
  unfold f_X12_number
  refine tw_aload_n (k := 0) rfl rfl ?_
  refine tw_callV (k := 1) (d' := 2) (mc' := 0) (ms' := 0) tw_cU tw_cUi [] rfl rfl wv_RX12_97_X12_blanks mo_X12_blanks (t := 11) rfl rfl rfl (fun Q9 => K_X12_blanks Q9 a0) (by omega) (by decide) (by decide) (Nat.le_of_ble_eq_true rfl) (fun u1 => ?_)
  refine tw_iconst (k := 2) (0 : Int32) rfl (by decide) ?_
  refine tw_ist_n (k := 3) [some (.ref a0), some (.int a1), some (.int a2), some (.int (0 : Int32))] rfl (Nat.le_of_ble_eq_true rfl) rfl rfl ?_
  refine tw_loop (fun s3 => [some (.ref a0), some (.int a1), some (.int a2), some (.int s3)]) (fun s3 => []) (fun r2 h2 s3 => ?_) _ rfl rfl
  refine tw_aload_n (k := 4) rfl rfl ?_
  refine tw_bipush (k := 5) (48 : Int32) rfl (by decide) ?_
  refine tw_bipush (k := 6) (57 : Int32) rfl (by decide) ?_
  refine tw_callV (k := 7) (d' := 1) (mc' := 0) (ms' := 0) tw_cI tw_cIi [.int (48 : Int32), .int (57 : Int32)] rfl rfl wv_RX12_90_X12_isAt mo_X12_isAt (t := 11) rfl rfl rfl (fun Q9 => K_X12_isAt Q9 a0 (48 : Int32) (57 : Int32)) (by omega) (by decide) (by decide) (Nat.le_of_ble_eq_true rfl) (fun x4 => ?_)
  refine tw_if_eq (k := 8) 65 rfl (by decide) ?_ ?_
  · refine tw_aload_n (k := 37) rfl rfl ?_
    refine tw_getI (k := 38) rfl fl_RX12_84 (fun x5 => ?_)
    refine tw_aload_n (k := 39) rfl rfl ?_
    refine tw_getI (k := 40) rfl fl_RX12_94 (fun x6 => ?_)
    refine tw_icmp_eq (k := 41) 99 rfl (by decide) ?_ ?_
    · refine tw_iconst (k := 55) (-1 : Int32) rfl (by decide) ?_
      refine tw_goto (k := 56) 104 rfl (by decide) ?_
      exact tw_ireturn (k := 58) rfl rfl (by decide) (by decide)
    · refine tw_aload_n (k := 42) rfl rfl ?_
      refine tw_getI (k := 43) rfl fl_RX12_84 (fun x7 => ?_)
      refine tw_aload_n (k := 44) rfl rfl ?_
      refine tw_getI (k := 45) rfl fl_RX12_94 (fun x8 => ?_)
      refine tw_isub (k := 46) rfl ?_
      refine tw_iconst (k := 47) (3 : Int32) rfl (by decide) ?_
      refine tw_icmp_gt (k := 48) 99 rfl (by decide) ?_ ?_
      · refine tw_iconst (k := 55) (-1 : Int32) rfl (by decide) ?_
        refine tw_goto (k := 56) 104 rfl (by decide) ?_
        exact tw_ireturn (k := 58) rfl rfl (by decide) (by decide)
      · refine tw_iload_n (k := 49) rfl rfl ?_
        refine tw_iload_n (k := 50) rfl rfl ?_
        refine tw_icmp_lt (k := 51) 99 rfl (by decide) ?_ ?_
        · refine tw_iconst (k := 55) (-1 : Int32) rfl (by decide) ?_
          refine tw_goto (k := 56) 104 rfl (by decide) ?_
          exact tw_ireturn (k := 58) rfl rfl (by decide) (by decide)
        · refine tw_iload_n (k := 52) rfl rfl ?_
          refine tw_iload_n (k := 53) rfl rfl ?_
          refine tw_icmp_le (k := 54) 103 rfl (by decide) ?_ ?_
          · refine tw_iload_n (k := 57) rfl rfl ?_
            exact tw_ireturn (k := 58) rfl rfl (by decide) (by decide)
          · refine tw_iconst (k := 55) (-1 : Int32) rfl (by decide) ?_
            refine tw_goto (k := 56) 104 rfl (by decide) ?_
            exact tw_ireturn (k := 58) rfl rfl (by decide) (by decide)
  · refine tw_aload_n (k := 9) rfl rfl ?_
    refine tw_getI (k := 10) rfl fl_RX12_84 (fun x9 => ?_)
    refine tw_aload_n (k := 11) rfl rfl ?_
    refine tw_getI (k := 12) rfl fl_RX12_94 (fun x10 => ?_)
    refine tw_isub (k := 13) rfl ?_
    refine tw_iconst (k := 14) (3 : Int32) rfl (by decide) ?_
    refine tw_join 51 (fun s12 => [some (.ref a0), some (.int a1), some (.int a2), some (.int s3)]) (fun s12 => .int s12 :: []) 0 0 (fun s12 => ?_) (fun j11 g11 => ?_)
    · refine tw_ist_n (k := 29) [some (.ref a0), some (.int a1), some (.int a2), some (.int s12)] rfl (Nat.le_of_ble_eq_true rfl) rfl rfl ?_
      refine tw_aload_n (k := 30) rfl rfl ?_
      refine tw_dup (k := 31) rfl rfl ?_
      refine tw_getI (k := 32) rfl fl_RX12_84 (fun x13 => ?_)
      refine tw_iconst (k := 33) (1 : Int32) rfl (by decide) ?_
      refine tw_iadd (k := 34) rfl ?_
      refine tw_putI (k := 35) rfl fl_RX12_84 wf_X12_number_84 (by decide +kernel) ?_
      refine tw_goto (k := 36) 6 rfl (by decide) ?_
      exact h2 s12
    · refine tw_icmp_ge (k := 15) 50 rfl (by decide) ?_ ?_
      · refine tw_iload_n (k := 28) rfl rfl ?_
        exact g11 s3
      · refine tw_bipush (k := 16) (10 : Int32) rfl (by decide) ?_
        refine tw_iload_n (k := 17) rfl rfl ?_
        refine tw_imul (k := 18) rfl ?_
        refine tw_aload_n (k := 19) rfl rfl ?_
        refine tw_getR (k := 20) rfl fl_RX12_29 (fun x14 => ?_)
        refine tw_aload_n (k := 21) rfl rfl ?_
        refine tw_getI (k := 22) rfl fl_RX12_84 (fun x15 => ?_)
        refine tw_baload (k := 23) rfl (fun x16 => ?_)
        refine tw_iadd (k := 24) rfl ?_
        refine tw_bipush (k := 25) (48 : Int32) rfl (by decide) ?_
        refine tw_isub (k := 26) rfl ?_
        refine tw_goto (k := 27) 51 rfl (by decide) ?_
        exact g11 ((((10 : Int32) * s3) + x16) - (48 : Int32))
def mX12_after : tw_MD := (yX12_after, cX12_after, 4, (some FieldType.int), [(0, .aload_n 0, 1, 1), (1, .invokevirtual 109, 3, 4), (4, .aload_n 0, 1, 5), (5, .aload_n 1, 1, 6), (6, .invokevirtual 112, 3, 9), (9, .ifCond .eq 12, 3, 12), (12, .aload_n 0, 1, 13), (13, .iload_n 2, 1, 14), (14, .iload_n 3, 1, 15), (15, .invokevirtual 116, 3, 18), (18, .goto 4, 3, 21), (21, .iconst (-1), 1, 22), (22, .ireturn, 1, 23)], [])
theorem mo_X12_after : tw_mok mX12_after 3 := ⟨plainFor_of_name (by decide +kernel), by decide +kernel, by decide +kernel, by decide +kernel, by decide +kernel⟩
theorem dk_X12_after : tw_dk mX12_after := by unfold tw_dk; decide +kernel
theorem wv_RX12_116_X12_number : tw_wV RX12 116 mX12_number := ⟨List.mem_of_getElem? (i := 1937) (by decide +kernel), List.mem_of_getElem? (i := 1939) (by decide +kernel), List.mem_of_getElem? (i := 55) (by decide +kernel), List.mem_of_getElem? (i := 137) (by decide +kernel), List.mem_of_getElem? (i := 1940) (by decide +kernel)⟩
set_option maxRecDepth 20000 in
theorem K_X12_after {g : tw_Gx} (Q : tw_Rs → tw_Mem → Prop) (a0 : Nat) (a1 : Nat) (a2 : Int32) (a3 : Int32) : tw_Kt g mX12_after 6 0 0 [.ref a0, .ref a1, .int a2, .int a3] Q (f_X12_after a0 a1 a2 a3 (fun v => Q (.inl (some (.int v))))) := by
  refine tw_mkK (L := [some (.ref a0), some (.ref a1), some (.int a2), some (.int a3)]) mo_X12_after dk_X12_after rfl (Nat.le_of_ble_eq_true rfl) rfl ?_
  unfold f_X12_after
  refine tw_aload_n (k := 0) rfl rfl ?_
  refine tw_callV (k := 1) (d' := 3) (mc' := 0) (ms' := 0) tw_cU tw_cUi [] rfl rfl wv_RX12_109_X12_letters mo_X12_letters (t := 11) rfl rfl rfl (fun Q9 => K_X12_letters Q9 a0) (by omega) (by decide) (by decide) (Nat.le_of_ble_eq_true rfl) (fun u1 => ?_)
  refine tw_aload_n (k := 2) rfl rfl ?_
  refine tw_aload_n (k := 3) rfl rfl ?_
  refine tw_callV (k := 4) (d' := 5) (mc' := 0) (ms' := 0) tw_cI tw_cIi [.ref a1] rfl rfl wv_RX12_112_X12_isWord mo_X12_isWord (t := 11) rfl rfl rfl (fun Q9 => K_X12_isWord Q9 a0 a1) (by omega) (by decide) (by decide) (Nat.le_of_ble_eq_true rfl) (fun x2 => ?_)
  refine tw_if_eq (k := 5) 21 rfl (by decide) ?_ ?_
  · refine tw_iconst (k := 11) (-1 : Int32) rfl (by decide) ?_
    exact tw_ireturn (k := 12) rfl rfl (by decide) (by decide)
  · refine tw_aload_n (k := 6) rfl rfl ?_
    refine tw_iload_n (k := 7) rfl rfl ?_
    refine tw_iload_n (k := 8) rfl rfl ?_
    refine tw_callV (k := 9) (d' := 3) (mc' := 0) (ms' := 0) tw_cI tw_cIi [.int a2, .int a3] rfl rfl wv_RX12_116_X12_number mo_X12_number (t := 11) rfl rfl rfl (fun Q9 => K_X12_number Q9 a0 a2 a3) (by omega) (by decide) (by decide) (Nat.le_of_ble_eq_true rfl) (fun x3 => ?_)
    refine tw_goto (k := 10) 22 rfl (by decide) ?_
    exact tw_ireturn (k := 12) rfl rfl (by decide) (by decide)
def mX12_fault : tw_MD := (yX12_fault, cX12_fault, 1, (some FieldType.int), [(0, .aload_n 0, 1, 1), (1, .iconst 0, 1, 2), (2, .putfield 3, 3, 5), (5, .aload_n 0, 1, 6), (6, .getfield 33, 3, 9), (9, .ireturn, 1, 10)], [])
theorem mo_X12_fault : tw_mok mX12_fault 0 := ⟨plainFor_of_name (by decide +kernel), by decide +kernel, by decide +kernel, by decide +kernel, by decide +kernel⟩
theorem dk_X12_fault : tw_dk mX12_fault := by unfold tw_dk; decide +kernel
theorem wf_X12_fault_3 : tw_wf mX12_fault 3 70 := Or.inl rfl
set_option maxRecDepth 20000 in
theorem K_X12_fault {g : tw_Gx} (Q : tw_Rs → tw_Mem → Prop) (a0 : Nat) : tw_Kt g mX12_fault 1 0 0 [.ref a0] Q (f_X12_fault a0 (fun v => Q (.inl (some (.int v))))) := by
  refine tw_mkK (L := [some (.ref a0)]) mo_X12_fault dk_X12_fault rfl (Nat.le_of_ble_eq_true rfl) rfl ?_
  unfold f_X12_fault
  refine tw_aload_n (k := 0) rfl rfl ?_
  refine tw_iconst (k := 1) (0 : Int32) rfl (by decide) ?_
  refine tw_putI (k := 2) rfl fl_RX12_3 wf_X12_fault_3 (by decide +kernel) ?_
  refine tw_aload_n (k := 3) rfl rfl ?_
  refine tw_getI (k := 4) rfl fl_RX12_33 (fun x1 => ?_)
  exact tw_ireturn (k := 5) rfl rfl (by decide) (by decide)
def mX12_uses : tw_MD := (yX12_uses, cX12_uses, 1, none, [(0, .aload_n 0, 1, 1), (1, .iconst 0, 1, 2), (2, .putfield 3, 3, 5), (5, .aload_n 0, 1, 6), (6, .aload_n 0, 1, 7), (7, .getfield 81, 3, 10), (10, .putfield 87, 3, 13), (13, .aload_n 0, 1, 14), (14, .iconst 0, 1, 15), (15, .putfield 81, 3, 18), (18, .aload_n 0, 1, 19), (19, .iconst 0, 1, 20), (20, .putfield 84, 3, 23), (23, .return_, 1, 24)], [])
theorem mo_X12_uses : tw_mok mX12_uses 0 := ⟨plainFor_of_name (by decide +kernel), by decide +kernel, by decide +kernel, by decide +kernel, by decide +kernel⟩
theorem dk_X12_uses : tw_dk mX12_uses := by unfold tw_dk; decide +kernel
theorem wf_X12_uses_84 : tw_wf mX12_uses 84 80 := Or.inl rfl
theorem wf_X12_uses_81 : tw_wf mX12_uses 81 79 := Or.inl rfl
theorem wf_X12_uses_87 : tw_wf mX12_uses 87 81 := Or.inl rfl
theorem wf_X12_uses_3 : tw_wf mX12_uses 3 70 := Or.inl rfl
set_option maxRecDepth 20000 in
theorem K_X12_uses {g : tw_Gx} (Q : tw_Rs → tw_Mem → Prop) (a0 : Nat) : tw_Kt g mX12_uses 1 0 0 [.ref a0] Q (f_X12_uses a0 (fun v => Q (.inl none))) := by
  refine tw_mkK (L := [some (.ref a0)]) mo_X12_uses dk_X12_uses rfl (Nat.le_of_ble_eq_true rfl) rfl ?_
  unfold f_X12_uses
  refine tw_aload_n (k := 0) rfl rfl ?_
  refine tw_iconst (k := 1) (0 : Int32) rfl (by decide) ?_
  refine tw_putI (k := 2) rfl fl_RX12_3 wf_X12_uses_3 (by decide +kernel) ?_
  refine tw_aload_n (k := 3) rfl rfl ?_
  refine tw_aload_n (k := 4) rfl rfl ?_
  refine tw_getI (k := 5) rfl fl_RX12_81 (fun x1 => ?_)
  refine tw_putI (k := 6) rfl fl_RX12_87 wf_X12_uses_87 (by decide +kernel) ?_
  refine tw_aload_n (k := 7) rfl rfl ?_
  refine tw_iconst (k := 8) (0 : Int32) rfl (by decide) ?_
  refine tw_putI (k := 9) rfl fl_RX12_81 wf_X12_uses_81 (by decide +kernel) ?_
  refine tw_aload_n (k := 10) rfl rfl ?_
  refine tw_iconst (k := 11) (0 : Int32) rfl (by decide) ?_
  refine tw_putI (k := 12) rfl fl_RX12_84 wf_X12_uses_84 (by decide +kernel) ?_
  exact tw_return (k := 13) rfl rfl (by decide) (by decide)
def mX12_readNumber : tw_MD := (yX12_readNumber, cX12_readNumber, 5, (some FieldType.boolean), [(0, .aload_n 0, 1, 1), (1, .iload_n 2, 1, 2), (2, .iload_n 3, 1, 3), (3, .invokevirtual 116, 3, 6), (6, .istore 4, 2, 8), (8, .aload_n 0, 1, 9), (9, .getfield 13, 3, 12), (12, .iload_n 1, 1, 13), (13, .iload 4, 2, 15), (15, .ifCond .ge 12, 3, 18), (18, .aload_n 0, 1, 19), (19, .getfield 13, 3, 22), (22, .iload_n 1, 1, 23), (23, .iaload, 1, 24), (24, .goto 5, 3, 27), (27, .iload 4, 2, 29), (29, .iastore, 1, 30), (30, .iload 4, 2, 32), (32, .ifCond .lt 7, 3, 35), (35, .iconst 1, 1, 36), (36, .goto 4, 3, 39), (39, .iconst 0, 1, 40), (40, .ireturn, 1, 41)], [])
theorem mo_X12_readNumber : tw_mok mX12_readNumber 3 := ⟨plainFor_of_name (by decide +kernel), by decide +kernel, by decide +kernel, by decide +kernel, by decide +kernel⟩
theorem dk_X12_readNumber : tw_dk mX12_readNumber := by unfold tw_dk; decide +kernel
set_option maxRecDepth 20000 in
theorem K_X12_readNumber {g : tw_Gx} (Q : tw_Rs → tw_Mem → Prop) (a0 : Nat) (a1 : Int32) (a2 : Int32) (a3 : Int32) : tw_Kt g mX12_readNumber 4 0 0 [.ref a0, .int a1, .int a2, .int a3] Q (f_X12_readNumber a0 a1 a2 a3 (fun v => Q (.inl (some (.int v))))) := by
  refine tw_mkK (L := [some (.ref a0), some (.int a1), some (.int a2), some (.int a3), none]) mo_X12_readNumber dk_X12_readNumber rfl (Nat.le_of_ble_eq_true rfl) rfl ?_
  unfold f_X12_readNumber
  refine tw_aload_n (k := 0) rfl rfl ?_
  refine tw_iload_n (k := 1) rfl rfl ?_
  refine tw_iload_n (k := 2) rfl rfl ?_
  refine tw_callV (k := 3) (d' := 3) (mc' := 0) (ms' := 0) tw_cI tw_cIi [.int a2, .int a3] rfl rfl wv_RX12_116_X12_number mo_X12_number (t := 11) rfl rfl rfl (fun Q9 => K_X12_number Q9 a0 a2 a3) (by omega) (by decide) (by decide) (Nat.le_of_ble_eq_true rfl) (fun x1 => ?_)
  refine tw_ist (k := 4) [some (.ref a0), some (.int a1), some (.int a2), some (.int a3), some (.int x1)] rfl (Nat.le_of_ble_eq_true rfl) rfl rfl ?_
  refine tw_aload_n (k := 5) rfl rfl ?_
  refine tw_getR (k := 6) rfl fl_RX12_13 (fun x2 => ?_)
  refine tw_iload_n (k := 7) rfl rfl ?_
  refine tw_iload (k := 8) rfl rfl ?_
  refine tw_join 29 (fun s4 => [some (.ref a0), some (.int a1), some (.int a2), some (.int a3), some (.int x1)]) (fun s4 => .int s4 :: .int a1 :: .ref x2 :: []) 0 0 (fun s4 => ?_) (fun j3 g3 => ?_)
  · refine tw_iastore (k := 16) rfl ?_
    refine tw_iload (k := 17) rfl rfl ?_
    refine tw_if_lt (k := 18) 39 rfl (by decide) ?_ ?_
    · refine tw_iconst (k := 21) (0 : Int32) rfl (by decide) ?_
      exact tw_zreturn (k := 22) rfl rfl (by decide) (by decide)
    · refine tw_iconst (k := 19) (1 : Int32) rfl (by decide) ?_
      refine tw_goto (k := 20) 40 rfl (by decide) ?_
      exact tw_zreturn (k := 22) rfl rfl (by decide) (by decide)
  · refine tw_if_ge (k := 9) 27 rfl (by decide) ?_ ?_
    · refine tw_iload (k := 15) rfl rfl ?_
      exact g3 x1
    · refine tw_aload_n (k := 10) rfl rfl ?_
      refine tw_getR (k := 11) rfl fl_RX12_13 (fun x5 => ?_)
      refine tw_iload_n (k := 12) rfl rfl ?_
      refine tw_iaload (k := 13) rfl (fun x6 => ?_)
      refine tw_goto (k := 14) 29 rfl (by decide) ?_
      exact g3 x6
def mX12_readPerson : tw_MD := (yX12_readPerson, cX12_readPerson, 6, (some FieldType.boolean), [(0, .aload_n 0, 1, 1), (1, .invokevirtual 62, 3, 4), (4, .istore_n 1, 1, 5), (5, .iload_n 1, 1, 6), (6, .bipush 8, 2, 8), (8, .if_icmp .ne 5, 3, 11), (11, .iconst 0, 1, 12), (12, .ireturn, 1, 13), (13, .aload_n 0, 1, 14), (14, .ldc 119, 2, 16), (16, .iconst 0, 1, 17), (17, .bipush 7, 2, 19), (19, .invokevirtual 120, 3, 22), (22, .istore_n 2, 1, 23), (23, .iload_n 2, 1, 24), (24, .ifCond .ge 5, 3, 27), (27, .iconst 0, 1, 28), (28, .ireturn, 1, 29), (29, .aload_n 0, 1, 30), (30, .ldc 124, 2, 32), (32, .invokevirtual 126, 3, 35), (35, .ifCond .eq 13, 3, 38), (38, .aload_n 0, 1, 39), (39, .iconst 0, 1, 40), (40, .bipush 100, 2, 42), (42, .invokevirtual 116, 3, 45), (45, .goto 4, 3, 48), (48, .iconst 0, 1, 49), (49, .istore_n 3, 1, 50), (50, .iload_n 3, 1, 51), (51, .ifCond .ge 5, 3, 54), (54, .iconst 0, 1, 55), (55, .ireturn, 1, 56), (56, .aload_n 0, 1, 57), (57, .ldc 129, 2, 59), (59, .invokevirtual 126, 3, 62), (62, .ifCond .eq 13, 3, 65), (65, .aload_n 0, 1, 66), (66, .iconst 0, 1, 67), (67, .bipush 99, 2, 69), (69, .invokevirtual 116, 3, 72), (72, .goto 4, 3, 75), (75, .iconst 0, 1, 76), (76, .istore 4, 2, 78), (78, .iload 4, 2, 80), (80, .ifCond .ge 5, 3, 83), (83, .iconst 0, 1, 84), (84, .ireturn, 1, 85), (85, .iconst 0, 1, 86), (86, .istore 5, 2, 88), (88, .iload 5, 2, 90), (90, .bipush 20, 2, 92), (92, .if_icmp .ge 21, 3, 95), (95, .aload_n 0, 1, 96), (96, .getfield 13, 3, 99), (99, .iload_n 1, 1, 100), (100, .iload 5, 2, 102), (102, .invokestatic 66, 3, 105), (105, .iconst 0, 1, 106), (106, .iastore, 1, 107), (107, .iinc 5 1, 3, 110), (110, .goto (-22), 3, 113), (113, .iconst 0, 1, 114), (114, .istore 5, 2, 116), (116, .iload 5, 2, 118), (118, .iload_n 1, 1, 119), (119, .if_icmp .ge 38, 3, 122), (122, .aload_n 0, 1, 123), (123, .getfield 13, 3, 126), (126, .iload 5, 2, 128), (128, .iconst 4, 1, 129), (129, .iload_n 1, 1, 130), (130, .iadd, 1, 131), (131, .invokestatic 66, 3, 134), (134, .iconst 0, 1, 135), (135, .iastore, 1, 136), (136, .aload_n 0, 1, 137), (137, .getfield 13, 3, 140), (140, .iload 5, 2, 142), (142, .bipush 12, 2, 144), (144, .iload_n 1, 1, 145), (145, .iadd, 1, 146), (146, .invokestatic 66, 3, 149), (149, .iconst 0, 1, 150), (150, .iastore, 1, 151), (151, .iinc 5 1, 3, 154), (154, .goto (-38), 3, 157), (157, .aload_n 0, 1, 158), (158, .getfield 13, 3, 161), (161, .iload_n 1, 1, 162), (162, .iconst 0, 1, 163), (163, .invokestatic 66, 3, 166), (166, .iload_n 2, 1, 167), (167, .iastore, 1, 168), (168, .aload_n 0, 1, 169), (169, .getfield 13, 3, 172), (172, .iload_n 1, 1, 173), (173, .iconst 1, 1, 174), (174, .invokestatic 66, 3, 177), (177, .iload_n 3, 1, 178), (178, .iastore, 1, 179), (179, .aload_n 0, 1, 180), (180, .getfield 13, 3, 183), (183, .iload_n 1, 1, 184), (184, .iconst 2, 1, 185), (185, .invokestatic 66, 3, 188), (188, .iload 4, 2, 190), (190, .iastore, 1, 191), (191, .aload_n 0, 1, 192), (192, .getfield 13, 3, 195), (195, .iload_n 1, 1, 196), (196, .iconst 3, 1, 197), (197, .invokestatic 66, 3, 200), (200, .aload_n 0, 1, 201), (201, .ldc 131, 2, 203), (203, .invokevirtual 126, 3, 206), (206, .ifCond .eq 7, 3, 209), (209, .iconst 1, 1, 210), (210, .goto 4, 3, 213), (213, .iconst 0, 1, 214), (214, .iastore, 1, 215), (215, .aload_n 0, 1, 216), (216, .getfield 13, 3, 219), (219, .iconst 0, 1, 220), (220, .dup2, 1, 221), (221, .iaload, 1, 222), (222, .iconst 1, 1, 223), (223, .iadd, 1, 224), (224, .iastore, 1, 225), (225, .iconst 1, 1, 226), (226, .ireturn, 1, 227)], [])
theorem mo_X12_readPerson : tw_mok mX12_readPerson 0 := ⟨plainFor_of_name (by decide +kernel), by decide +kernel, by decide +kernel, by decide +kernel, by decide +kernel⟩
theorem dk_X12_readPerson : tw_dk mX12_readPerson := by unfold tw_dk; decide +kernel
theorem ks_RX12_119 : Cond.stringRef RX12 119 "at" ∈ lw_tbl := List.mem_of_getElem? (i := 1932) (by decide +kernel)
theorem ks_RX12_124 : Cond.stringRef RX12 124 "roams" ∈ lw_tbl := List.mem_of_getElem? (i := 1941) (by decide +kernel)
theorem ks_RX12_129 : Cond.stringRef RX12 129 "pay" ∈ lw_tbl := List.mem_of_getElem? (i := 1946) (by decide +kernel)
theorem ks_RX12_131 : Cond.stringRef RX12 131 "sworn" ∈ lw_tbl := List.mem_of_getElem? (i := 1950) (by decide +kernel)
theorem wv_RX12_126_X12_passes : tw_wV RX12 126 mX12_passes := ⟨List.mem_of_getElem? (i := 1942) (by decide +kernel), List.mem_of_getElem? (i := 1944) (by decide +kernel), List.mem_of_getElem? (i := 56) (by decide +kernel), List.mem_of_getElem? (i := 137) (by decide +kernel), List.mem_of_getElem? (i := 1945) (by decide +kernel)⟩
theorem wv_RX12_120_X12_after : tw_wV RX12 120 mX12_after := ⟨List.mem_of_getElem? (i := 1933) (by decide +kernel), List.mem_of_getElem? (i := 1935) (by decide +kernel), List.mem_of_getElem? (i := 54) (by decide +kernel), List.mem_of_getElem? (i := 137) (by decide +kernel), List.mem_of_getElem? (i := 1936) (by decide +kernel)⟩
set_option maxRecDepth 20000 in
theorem K_X12_readPerson {g : tw_Gx} (Q : tw_Rs → tw_Mem → Prop) (a0 : Nat) : tw_Kt g mX12_readPerson 7 0 0 [.ref a0] Q (f_X12_readPerson g a0 (fun v => Q (.inl (some (.int v))))) := by
  refine tw_mkK (L := [some (.ref a0), none, none, none, none, none]) mo_X12_readPerson dk_X12_readPerson rfl (Nat.le_of_ble_eq_true rfl) rfl ?_
  unfold f_X12_readPerson
  refine tw_aload_n (k := 0) rfl rfl ?_
  refine tw_callV (k := 1) (d' := 1) (mc' := 0) (ms' := 0) tw_cI tw_cIi [] rfl rfl wv_RX12_62_X12_people mo_X12_people (t := 11) rfl rfl rfl (fun Q9 => K_X12_people Q9 a0) (by omega) (by decide) (by decide) (Nat.le_of_ble_eq_true rfl) (fun x1 => ?_)
  refine tw_ist_n (k := 2) [some (.ref a0), some (.int x1), none, none, none, none] rfl (Nat.le_of_ble_eq_true rfl) rfl rfl ?_
  refine tw_iload_n (k := 3) rfl rfl ?_
  refine tw_bipush (k := 4) (8 : Int32) rfl (by decide) ?_
  refine tw_icmp_ne (k := 5) 13 rfl (by decide) ?_ ?_
  · refine tw_aload_n (k := 8) rfl rfl ?_
    refine tw_ldcS (k := 9) rfl ks_RX12_119 (fun t2 => ?_)
    refine tw_iconst (k := 10) (0 : Int32) rfl (by decide) ?_
    refine tw_bipush (k := 11) (7 : Int32) rfl (by decide) ?_
    refine tw_callV (k := 12) (d' := 6) (mc' := 0) (ms' := 0) tw_cI tw_cIi [.ref t2, .int (0 : Int32), .int (7 : Int32)] rfl rfl wv_RX12_120_X12_after mo_X12_after (t := 11) rfl rfl rfl (fun Q9 => K_X12_after Q9 a0 t2 (0 : Int32) (7 : Int32)) (by omega) (by decide) (by decide) (Nat.le_of_ble_eq_true rfl) (fun x3 => ?_)
    refine tw_ist_n (k := 13) [some (.ref a0), some (.int x1), some (.int x3), none, none, none] rfl (Nat.le_of_ble_eq_true rfl) rfl rfl ?_
    refine tw_iload_n (k := 14) rfl rfl ?_
    refine tw_if_ge (k := 15) 29 rfl (by decide) ?_ ?_
    · refine tw_aload_n (k := 18) rfl rfl ?_
      refine tw_ldcS (k := 19) rfl ks_RX12_124 (fun t4 => ?_)
      refine tw_callV (k := 20) (d' := 6) (mc' := 0) (ms' := 0) tw_cI tw_cIi [.ref t4] rfl rfl wv_RX12_126_X12_passes mo_X12_passes (t := 11) rfl rfl rfl (fun Q9 => K_X12_passes Q9 a0 t4) (by omega) (by decide) (by decide) (Nat.le_of_ble_eq_true rfl) (fun x5 => ?_)
      refine tw_join 49 (fun s7 => [some (.ref a0), some (.int x1), some (.int x3), none, none, none]) (fun s7 => .int s7 :: []) 0 0 (fun s7 => ?_) (fun j6 g6 => ?_)
      · refine tw_ist_n (k := 28) [some (.ref a0), some (.int x1), some (.int x3), some (.int s7), none, none] rfl (Nat.le_of_ble_eq_true rfl) rfl rfl ?_
        refine tw_iload_n (k := 29) rfl rfl ?_
        refine tw_if_ge (k := 30) 56 rfl (by decide) ?_ ?_
        · refine tw_aload_n (k := 33) rfl rfl ?_
          refine tw_ldcS (k := 34) rfl ks_RX12_129 (fun t8 => ?_)
          refine tw_callV (k := 35) (d' := 6) (mc' := 0) (ms' := 0) tw_cI tw_cIi [.ref t8] rfl rfl wv_RX12_126_X12_passes mo_X12_passes (t := 11) rfl rfl rfl (fun Q9 => K_X12_passes Q9 a0 t8) (by omega) (by decide) (by decide) (Nat.le_of_ble_eq_true rfl) (fun x9 => ?_)
          refine tw_join 76 (fun s11 => [some (.ref a0), some (.int x1), some (.int x3), some (.int s7), none, none]) (fun s11 => .int s11 :: []) 0 0 (fun s11 => ?_) (fun j10 g10 => ?_)
          · refine tw_ist (k := 43) [some (.ref a0), some (.int x1), some (.int x3), some (.int s7), some (.int s11), none] rfl (Nat.le_of_ble_eq_true rfl) rfl rfl ?_
            refine tw_iload (k := 44) rfl rfl ?_
            refine tw_if_ge (k := 45) 85 rfl (by decide) ?_ ?_
            · refine tw_iconst (k := 48) (0 : Int32) rfl (by decide) ?_
              refine tw_ist (k := 49) [some (.ref a0), some (.int x1), some (.int x3), some (.int s7), some (.int s11), some (.int (0 : Int32))] rfl (Nat.le_of_ble_eq_true rfl) rfl rfl ?_
              refine tw_loop (fun s13 => [some (.ref a0), some (.int x1), some (.int x3), some (.int s7), some (.int s11), some (.int s13)]) (fun s13 => []) (fun r12 h12 s13 => ?_) _ rfl rfl
              refine tw_iload (k := 50) rfl rfl ?_
              refine tw_bipush (k := 51) (20 : Int32) rfl (by decide) ?_
              refine tw_icmp_ge (k := 52) 113 rfl (by decide) ?_ ?_
              · refine tw_iconst (k := 62) (0 : Int32) rfl (by decide) ?_
                refine tw_ist (k := 63) [some (.ref a0), some (.int x1), some (.int x3), some (.int s7), some (.int s11), some (.int (0 : Int32))] rfl (Nat.le_of_ble_eq_true rfl) rfl rfl ?_
                refine tw_loop (fun s15 => [some (.ref a0), some (.int x1), some (.int x3), some (.int s7), some (.int s11), some (.int s15)]) (fun s15 => []) (fun r14 h14 s15 => ?_) _ rfl rfl
                refine tw_iload (k := 64) rfl rfl ?_
                refine tw_iload_n (k := 65) rfl rfl ?_
                refine tw_icmp_ge (k := 66) 157 rfl (by decide) ?_ ?_
                · refine tw_aload_n (k := 87) rfl rfl ?_
                  refine tw_getR (k := 88) rfl fl_RX12_13 (fun x16 => ?_)
                  refine tw_iload_n (k := 89) rfl rfl ?_
                  refine tw_iconst (k := 90) (0 : Int32) rfl (by decide) ?_
                  refine tw_callS (k := 91) (d' := 1) (mc' := 0) (ms' := 0) tw_cI tw_cIi [.int x1, .int (0 : Int32)] rfl rfl ws_RX12_66_X12_at mo_X12_at rfl (fun Q9 => K_X12_at Q9 x1 (0 : Int32)) (by omega) (by decide) (by decide) (Nat.le_of_ble_eq_true rfl) (fun x17 => ?_)
                  refine tw_iload_n (k := 92) rfl rfl ?_
                  refine tw_iastore (k := 93) rfl ?_
                  refine tw_aload_n (k := 94) rfl rfl ?_
                  refine tw_getR (k := 95) rfl fl_RX12_13 (fun x18 => ?_)
                  refine tw_iload_n (k := 96) rfl rfl ?_
                  refine tw_iconst (k := 97) (1 : Int32) rfl (by decide) ?_
                  refine tw_callS (k := 98) (d' := 1) (mc' := 0) (ms' := 0) tw_cI tw_cIi [.int x1, .int (1 : Int32)] rfl rfl ws_RX12_66_X12_at mo_X12_at rfl (fun Q9 => K_X12_at Q9 x1 (1 : Int32)) (by omega) (by decide) (by decide) (Nat.le_of_ble_eq_true rfl) (fun x19 => ?_)
                  refine tw_iload_n (k := 99) rfl rfl ?_
                  refine tw_iastore (k := 100) rfl ?_
                  refine tw_aload_n (k := 101) rfl rfl ?_
                  refine tw_getR (k := 102) rfl fl_RX12_13 (fun x20 => ?_)
                  refine tw_iload_n (k := 103) rfl rfl ?_
                  refine tw_iconst (k := 104) (2 : Int32) rfl (by decide) ?_
                  refine tw_callS (k := 105) (d' := 1) (mc' := 0) (ms' := 0) tw_cI tw_cIi [.int x1, .int (2 : Int32)] rfl rfl ws_RX12_66_X12_at mo_X12_at rfl (fun Q9 => K_X12_at Q9 x1 (2 : Int32)) (by omega) (by decide) (by decide) (Nat.le_of_ble_eq_true rfl) (fun x21 => ?_)
                  refine tw_iload (k := 106) rfl rfl ?_
                  refine tw_iastore (k := 107) rfl ?_
                  refine tw_aload_n (k := 108) rfl rfl ?_
                  refine tw_getR (k := 109) rfl fl_RX12_13 (fun x22 => ?_)
                  refine tw_iload_n (k := 110) rfl rfl ?_
                  refine tw_iconst (k := 111) (3 : Int32) rfl (by decide) ?_
                  refine tw_callS (k := 112) (d' := 1) (mc' := 0) (ms' := 0) tw_cI tw_cIi [.int x1, .int (3 : Int32)] rfl rfl ws_RX12_66_X12_at mo_X12_at rfl (fun Q9 => K_X12_at Q9 x1 (3 : Int32)) (by omega) (by decide) (by decide) (Nat.le_of_ble_eq_true rfl) (fun x23 => ?_)
                  refine tw_aload_n (k := 113) rfl rfl ?_
                  refine tw_ldcS (k := 114) rfl ks_RX12_131 (fun t24 => ?_)
                  refine tw_callV (k := 115) (d' := 6) (mc' := 0) (ms' := 0) tw_cI tw_cIi [.ref t24] rfl rfl wv_RX12_126_X12_passes mo_X12_passes (t := 11) rfl rfl rfl (fun Q9 => K_X12_passes Q9 a0 t24) (by omega) (by decide) (by decide) (Nat.le_of_ble_eq_true rfl) (fun x25 => ?_)
                  refine tw_join 214 (fun s27 => [some (.ref a0), some (.int x1), some (.int x3), some (.int s7), some (.int s11), some (.int s15)]) (fun s27 => .int s27 :: .int x23 :: .ref x22 :: []) 0 0 (fun s27 => ?_) (fun j26 g26 => ?_)
                  · refine tw_iastore (k := 120) rfl ?_
                    refine tw_aload_n (k := 121) rfl rfl ?_
                    refine tw_getR (k := 122) rfl fl_RX12_13 (fun x28 => ?_)
                    refine tw_iconst (k := 123) (0 : Int32) rfl (by decide) ?_
                    refine tw_dup2 (k := 124) rfl rfl rfl ?_
                    refine tw_iaload (k := 125) rfl (fun x29 => ?_)
                    refine tw_iconst (k := 126) (1 : Int32) rfl (by decide) ?_
                    refine tw_iadd (k := 127) rfl ?_
                    refine tw_iastore (k := 128) rfl ?_
                    refine tw_iconst (k := 129) (1 : Int32) rfl (by decide) ?_
                    exact tw_zreturn (k := 130) rfl rfl (by decide) (by decide)
                  · refine tw_if_eq (k := 116) 213 rfl (by decide) ?_ ?_
                    · refine tw_iconst (k := 119) (0 : Int32) rfl (by decide) ?_
                      exact g26 (0 : Int32)
                    · refine tw_iconst (k := 117) (1 : Int32) rfl (by decide) ?_
                      refine tw_goto (k := 118) 214 rfl (by decide) ?_
                      exact g26 (1 : Int32)
                · refine tw_aload_n (k := 67) rfl rfl ?_
                  refine tw_getR (k := 68) rfl fl_RX12_13 (fun x30 => ?_)
                  refine tw_iload (k := 69) rfl rfl ?_
                  refine tw_iconst (k := 70) (4 : Int32) rfl (by decide) ?_
                  refine tw_iload_n (k := 71) rfl rfl ?_
                  refine tw_iadd (k := 72) rfl ?_
                  refine tw_callS (k := 73) (d' := 1) (mc' := 0) (ms' := 0) tw_cI tw_cIi [.int s15, .int ((4 : Int32) + x1)] rfl rfl ws_RX12_66_X12_at mo_X12_at rfl (fun Q9 => K_X12_at Q9 s15 ((4 : Int32) + x1)) (by omega) (by decide) (by decide) (Nat.le_of_ble_eq_true rfl) (fun x31 => ?_)
                  refine tw_iconst (k := 74) (0 : Int32) rfl (by decide) ?_
                  refine tw_iastore (k := 75) rfl ?_
                  refine tw_aload_n (k := 76) rfl rfl ?_
                  refine tw_getR (k := 77) rfl fl_RX12_13 (fun x32 => ?_)
                  refine tw_iload (k := 78) rfl rfl ?_
                  refine tw_bipush (k := 79) (12 : Int32) rfl (by decide) ?_
                  refine tw_iload_n (k := 80) rfl rfl ?_
                  refine tw_iadd (k := 81) rfl ?_
                  refine tw_callS (k := 82) (d' := 1) (mc' := 0) (ms' := 0) tw_cI tw_cIi [.int s15, .int ((12 : Int32) + x1)] rfl rfl ws_RX12_66_X12_at mo_X12_at rfl (fun Q9 => K_X12_at Q9 s15 ((12 : Int32) + x1)) (by omega) (by decide) (by decide) (Nat.le_of_ble_eq_true rfl) (fun x33 => ?_)
                  refine tw_iconst (k := 83) (0 : Int32) rfl (by decide) ?_
                  refine tw_iastore (k := 84) rfl ?_
                  refine tw_inc (k := 85) (1 : Int32) [some (.ref a0), some (.int x1), some (.int x3), some (.int s7), some (.int s11), some (.int (s15 + (1 : Int32)))] rfl rfl (by decide) (Nat.le_of_ble_eq_true rfl) rfl rfl ?_
                  refine tw_goto (k := 86) 116 rfl (by decide) ?_
                  exact h14 (s15 + (1 : Int32))
              · refine tw_aload_n (k := 53) rfl rfl ?_
                refine tw_getR (k := 54) rfl fl_RX12_13 (fun x34 => ?_)
                refine tw_iload_n (k := 55) rfl rfl ?_
                refine tw_iload (k := 56) rfl rfl ?_
                refine tw_callS (k := 57) (d' := 1) (mc' := 0) (ms' := 0) tw_cI tw_cIi [.int x1, .int s13] rfl rfl ws_RX12_66_X12_at mo_X12_at rfl (fun Q9 => K_X12_at Q9 x1 s13) (by omega) (by decide) (by decide) (Nat.le_of_ble_eq_true rfl) (fun x35 => ?_)
                refine tw_iconst (k := 58) (0 : Int32) rfl (by decide) ?_
                refine tw_iastore (k := 59) rfl ?_
                refine tw_inc (k := 60) (1 : Int32) [some (.ref a0), some (.int x1), some (.int x3), some (.int s7), some (.int s11), some (.int (s13 + (1 : Int32)))] rfl rfl (by decide) (Nat.le_of_ble_eq_true rfl) rfl rfl ?_
                refine tw_goto (k := 61) 88 rfl (by decide) ?_
                exact h12 (s13 + (1 : Int32))
            · refine tw_iconst (k := 46) (0 : Int32) rfl (by decide) ?_
              exact tw_zreturn (k := 47) rfl rfl (by decide) (by decide)
          · refine tw_if_eq (k := 36) 75 rfl (by decide) ?_ ?_
            · refine tw_iconst (k := 42) (0 : Int32) rfl (by decide) ?_
              exact g10 (0 : Int32)
            · refine tw_aload_n (k := 37) rfl rfl ?_
              refine tw_iconst (k := 38) (0 : Int32) rfl (by decide) ?_
              refine tw_bipush (k := 39) (99 : Int32) rfl (by decide) ?_
              refine tw_callV (k := 40) (d' := 3) (mc' := 0) (ms' := 0) tw_cI tw_cIi [.int (0 : Int32), .int (99 : Int32)] rfl rfl wv_RX12_116_X12_number mo_X12_number (t := 11) rfl rfl rfl (fun Q9 => K_X12_number Q9 a0 (0 : Int32) (99 : Int32)) (by omega) (by decide) (by decide) (Nat.le_of_ble_eq_true rfl) (fun x36 => ?_)
              refine tw_goto (k := 41) 76 rfl (by decide) ?_
              exact g10 x36
        · refine tw_iconst (k := 31) (0 : Int32) rfl (by decide) ?_
          exact tw_zreturn (k := 32) rfl rfl (by decide) (by decide)
      · refine tw_if_eq (k := 21) 48 rfl (by decide) ?_ ?_
        · refine tw_iconst (k := 27) (0 : Int32) rfl (by decide) ?_
          exact g6 (0 : Int32)
        · refine tw_aload_n (k := 22) rfl rfl ?_
          refine tw_iconst (k := 23) (0 : Int32) rfl (by decide) ?_
          refine tw_bipush (k := 24) (100 : Int32) rfl (by decide) ?_
          refine tw_callV (k := 25) (d' := 3) (mc' := 0) (ms' := 0) tw_cI tw_cIi [.int (0 : Int32), .int (100 : Int32)] rfl rfl wv_RX12_116_X12_number mo_X12_number (t := 11) rfl rfl rfl (fun Q9 => K_X12_number Q9 a0 (0 : Int32) (100 : Int32)) (by omega) (by decide) (by decide) (Nat.le_of_ble_eq_true rfl) (fun x37 => ?_)
          refine tw_goto (k := 26) 49 rfl (by decide) ?_
          exact g6 x37
    · refine tw_iconst (k := 16) (0 : Int32) rfl (by decide) ?_
      exact tw_zreturn (k := 17) rfl rfl (by decide) (by decide)
  · refine tw_iconst (k := 6) (0 : Int32) rfl (by decide) ?_
    exact tw_zreturn (k := 7) rfl rfl (by decide) (by decide)
def mX12_personTold : tw_MD := (yX12_personTold, cX12_personTold, 1, (some FieldType.int), [(0, .aload_n 0, 1, 1), (1, .iconst 0, 1, 2), (2, .aload_n 0, 1, 3), (3, .invokevirtual 62, 3, 6), (6, .iconst 1, 1, 7), (7, .isub, 1, 8), (8, .invokevirtual 116, 3, 11), (11, .ireturn, 1, 12)], [])
theorem mo_X12_personTold : tw_mok mX12_personTold 0 := ⟨plainFor_of_name (by decide +kernel), by decide +kernel, by decide +kernel, by decide +kernel, by decide +kernel⟩
theorem dk_X12_personTold : tw_dk mX12_personTold := by unfold tw_dk; decide +kernel
set_option maxRecDepth 20000 in
theorem K_X12_personTold {g : tw_Gx} (Q : tw_Rs → tw_Mem → Prop) (a0 : Nat) : tw_Kt g mX12_personTold 4 0 0 [.ref a0] Q (f_X12_personTold a0 (fun v => Q (.inl (some (.int v))))) := by
  refine tw_mkK (L := [some (.ref a0)]) mo_X12_personTold dk_X12_personTold rfl (Nat.le_of_ble_eq_true rfl) rfl ?_
  unfold f_X12_personTold
  refine tw_aload_n (k := 0) rfl rfl ?_
  refine tw_iconst (k := 1) (0 : Int32) rfl (by decide) ?_
  refine tw_aload_n (k := 2) rfl rfl ?_
  refine tw_callV (k := 3) (d' := 1) (mc' := 0) (ms' := 0) tw_cI tw_cIi [] rfl rfl wv_RX12_62_X12_people mo_X12_people (t := 11) rfl rfl rfl (fun Q9 => K_X12_people Q9 a0) (by omega) (by decide) (by decide) (Nat.le_of_ble_eq_true rfl) (fun x1 => ?_)
  refine tw_iconst (k := 4) (1 : Int32) rfl (by decide) ?_
  refine tw_isub (k := 5) rfl ?_
  refine tw_callV (k := 6) (d' := 3) (mc' := 0) (ms' := 0) tw_cI tw_cIi [.int (0 : Int32), .int (x1 - (1 : Int32))] rfl rfl wv_RX12_116_X12_number mo_X12_number (t := 11) rfl rfl rfl (fun Q9 => K_X12_number Q9 a0 (0 : Int32) (x1 - (1 : Int32))) (by omega) (by decide) (by decide) (Nat.le_of_ble_eq_true rfl) (fun x2 => ?_)
  exact tw_ireturn (k := 7) rfl rfl (by decide) (by decide)
def mX12_readGuess : tw_MD := (yX12_readGuess, cX12_readGuess, 3, (some FieldType.boolean), [(0, .aload_n 0, 1, 1), (1, .invokevirtual 133, 3, 4), (4, .istore_n 1, 1, 5), (5, .iload_n 1, 1, 6), (6, .ifCond .ge 7, 3, 9), (9, .iconst (-1), 1, 10), (10, .goto 7, 3, 13), (13, .aload_n 0, 1, 14), (14, .invokevirtual 133, 3, 17), (17, .istore_n 2, 1, 18), (18, .iload_n 2, 1, 19), (19, .ifCond .lt 29, 3, 22), (22, .iload_n 2, 1, 23), (23, .iload_n 1, 1, 24), (24, .if_icmp .eq 24, 3, 27), (27, .aload_n 0, 1, 28), (28, .iload_n 1, 1, 29), (29, .iconst 4, 1, 30), (30, .iload_n 2, 1, 31), (31, .iadd, 1, 32), (32, .invokestatic 66, 3, 35), (35, .iconst 0, 1, 36), (36, .bipush 9, 2, 38), (38, .invokevirtual 136, 3, 41), (41, .ifCond .eq 7, 3, 44), (44, .iconst 1, 1, 45), (45, .goto 4, 3, 48), (48, .iconst 0, 1, 49), (49, .ireturn, 1, 50)], [])
theorem mo_X12_readGuess : tw_mok mX12_readGuess 0 := ⟨plainFor_of_name (by decide +kernel), by decide +kernel, by decide +kernel, by decide +kernel, by decide +kernel⟩
theorem dk_X12_readGuess : tw_dk mX12_readGuess := by unfold tw_dk; decide +kernel
theorem wv_RX12_136_X12_readNumber : tw_wV RX12 136 mX12_readNumber := ⟨List.mem_of_getElem? (i := 1960) (by decide +kernel), List.mem_of_getElem? (i := 1962) (by decide +kernel), List.mem_of_getElem? (i := 59) (by decide +kernel), List.mem_of_getElem? (i := 137) (by decide +kernel), List.mem_of_getElem? (i := 1963) (by decide +kernel)⟩
theorem wv_RX12_133_X12_personTold : tw_wV RX12 133 mX12_personTold := ⟨List.mem_of_getElem? (i := 1956) (by decide +kernel), List.mem_of_getElem? (i := 1958) (by decide +kernel), List.mem_of_getElem? (i := 58) (by decide +kernel), List.mem_of_getElem? (i := 137) (by decide +kernel), List.mem_of_getElem? (i := 1959) (by decide +kernel)⟩
set_option maxRecDepth 20000 in
theorem K_X12_readGuess {g : tw_Gx} (Q : tw_Rs → tw_Mem → Prop) (a0 : Nat) : tw_Kt g mX12_readGuess 5 0 0 [.ref a0] Q (f_X12_readGuess a0 (fun v => Q (.inl (some (.int v))))) := by
  refine tw_mkK (L := [some (.ref a0), none, none]) mo_X12_readGuess dk_X12_readGuess rfl (Nat.le_of_ble_eq_true rfl) rfl ?_
  unfold f_X12_readGuess
  refine tw_aload_n (k := 0) rfl rfl ?_
  refine tw_callV (k := 1) (d' := 4) (mc' := 0) (ms' := 0) tw_cI tw_cIi [] rfl rfl wv_RX12_133_X12_personTold mo_X12_personTold (t := 11) rfl rfl rfl (fun Q9 => K_X12_personTold Q9 a0) (by omega) (by decide) (by decide) (Nat.le_of_ble_eq_true rfl) (fun x1 => ?_)
  refine tw_ist_n (k := 2) [some (.ref a0), some (.int x1), none] rfl (Nat.le_of_ble_eq_true rfl) rfl rfl ?_
  refine tw_iload_n (k := 3) rfl rfl ?_
  refine tw_join 17 (fun s3 => [some (.ref a0), some (.int x1), none]) (fun s3 => .int s3 :: []) 0 0 (fun s3 => ?_) (fun j2 g2 => ?_)
  · refine tw_ist_n (k := 9) [some (.ref a0), some (.int x1), some (.int s3)] rfl (Nat.le_of_ble_eq_true rfl) rfl rfl ?_
    refine tw_iload_n (k := 10) rfl rfl ?_
    refine tw_if_lt (k := 11) 48 rfl (by decide) ?_ ?_
    · refine tw_iconst (k := 27) (0 : Int32) rfl (by decide) ?_
      exact tw_zreturn (k := 28) rfl rfl (by decide) (by decide)
    · refine tw_iload_n (k := 12) rfl rfl ?_
      refine tw_iload_n (k := 13) rfl rfl ?_
      refine tw_icmp_eq (k := 14) 48 rfl (by decide) ?_ ?_
      · refine tw_iconst (k := 27) (0 : Int32) rfl (by decide) ?_
        exact tw_zreturn (k := 28) rfl rfl (by decide) (by decide)
      · refine tw_aload_n (k := 15) rfl rfl ?_
        refine tw_iload_n (k := 16) rfl rfl ?_
        refine tw_iconst (k := 17) (4 : Int32) rfl (by decide) ?_
        refine tw_iload_n (k := 18) rfl rfl ?_
        refine tw_iadd (k := 19) rfl ?_
        refine tw_callS (k := 20) (d' := 1) (mc' := 0) (ms' := 0) tw_cI tw_cIi [.int x1, .int ((4 : Int32) + s3)] rfl rfl ws_RX12_66_X12_at mo_X12_at rfl (fun Q9 => K_X12_at Q9 x1 ((4 : Int32) + s3)) (by omega) (by decide) (by decide) (Nat.le_of_ble_eq_true rfl) (fun x4 => ?_)
        refine tw_iconst (k := 21) (0 : Int32) rfl (by decide) ?_
        refine tw_bipush (k := 22) (9 : Int32) rfl (by decide) ?_
        refine tw_callV (k := 23) (d' := 4) (mc' := 0) (ms' := 0) tw_cI tw_cIi [.int x4, .int (0 : Int32), .int (9 : Int32)] rfl rfl wv_RX12_136_X12_readNumber mo_X12_readNumber (t := 11) rfl rfl rfl (fun Q9 => K_X12_readNumber Q9 a0 x4 (0 : Int32) (9 : Int32)) (by omega) (by decide) (by decide) (Nat.le_of_ble_eq_true rfl) (fun x5 => ?_)
        refine tw_if_eq (k := 24) 48 rfl (by decide) ?_ ?_
        · refine tw_iconst (k := 27) (0 : Int32) rfl (by decide) ?_
          exact tw_zreturn (k := 28) rfl rfl (by decide) (by decide)
        · refine tw_iconst (k := 25) (1 : Int32) rfl (by decide) ?_
          refine tw_goto (k := 26) 49 rfl (by decide) ?_
          exact tw_zreturn (k := 28) rfl rfl (by decide) (by decide)
  · refine tw_if_ge (k := 4) 13 rfl (by decide) ?_ ?_
    · refine tw_aload_n (k := 7) rfl rfl ?_
      refine tw_callV (k := 8) (d' := 4) (mc' := 0) (ms' := 0) tw_cI tw_cIi [] rfl rfl wv_RX12_133_X12_personTold mo_X12_personTold (t := 11) rfl rfl rfl (fun Q9 => K_X12_personTold Q9 a0) (by omega) (by decide) (by decide) (Nat.le_of_ble_eq_true rfl) (fun x6 => ?_)
      exact g2 x6
    · refine tw_iconst (k := 5) (-1 : Int32) rfl (by decide) ?_
      refine tw_goto (k := 6) 17 rfl (by decide) ?_
      exact g2 (-1 : Int32)
def mX12_readRope : tw_MD := (yX12_readRope, cX12_readRope, 4, (some FieldType.boolean), [(0, .aload_n 0, 1, 1), (1, .iconst 0, 1, 2), (2, .iconst 1, 1, 3), (3, .invokevirtual 116, 3, 6), (6, .istore_n 1, 1, 7), (7, .iload_n 1, 1, 8), (8, .ifCond .ge 7, 3, 11), (11, .iconst (-1), 1, 12), (12, .goto 10, 3, 15), (15, .aload_n 0, 1, 16), (16, .iconst 0, 1, 17), (17, .bipush 11, 2, 19), (19, .invokevirtual 116, 3, 22), (22, .istore_n 2, 1, 23), (23, .iload_n 2, 1, 24), (24, .ifCond .ge 7, 3, 27), (27, .iconst (-1), 1, 28), (28, .goto 7, 3, 31), (31, .aload_n 0, 1, 32), (32, .invokevirtual 133, 3, 35), (35, .istore_n 3, 1, 36), (36, .iload_n 3, 1, 37), (37, .ifCond .lt 15, 3, 40), (40, .aload_n 0, 1, 41), (41, .iconst 1, 1, 42), (42, .iload_n 1, 1, 43), (43, .isub, 1, 44), (44, .iload_n 2, 1, 45), (45, .invokevirtual 139, 3, 48), (48, .iload_n 3, 1, 49), (49, .if_icmp .ne 5, 3, 52), (52, .iconst 0, 1, 53), (53, .ireturn, 1, 54), (54, .aload_n 0, 1, 55), (55, .getfield 13, 3, 58), (58, .iload_n 1, 1, 59), (59, .iload_n 2, 1, 60), (60, .invokestatic 73, 3, 63), (63, .iload_n 3, 1, 64), (64, .iastore, 1, 65), (65, .iconst 1, 1, 66), (66, .ireturn, 1, 67)], [])
theorem mo_X12_readRope : tw_mok mX12_readRope 0 := ⟨plainFor_of_name (by decide +kernel), by decide +kernel, by decide +kernel, by decide +kernel, by decide +kernel⟩
theorem dk_X12_readRope : tw_dk mX12_readRope := by unfold tw_dk; decide +kernel
theorem wv_RX12_139_X12_inPlan : tw_wV RX12 139 mX12_inPlan := ⟨List.mem_of_getElem? (i := 1969) (by decide +kernel), List.mem_of_getElem? (i := 1971) (by decide +kernel), List.mem_of_getElem? (i := 61) (by decide +kernel), List.mem_of_getElem? (i := 137) (by decide +kernel), List.mem_of_getElem? (i := 1972) (by decide +kernel)⟩
set_option maxRecDepth 20000 in
theorem K_X12_readRope {g : tw_Gx} (Q : tw_Rs → tw_Mem → Prop) (a0 : Nat) : tw_Kt g mX12_readRope 5 0 0 [.ref a0] Q (f_X12_readRope a0 (fun v => Q (.inl (some (.int v))))) := by
  refine tw_mkK (L := [some (.ref a0), none, none, none]) mo_X12_readRope dk_X12_readRope rfl (Nat.le_of_ble_eq_true rfl) rfl ?_
  unfold f_X12_readRope
  refine tw_aload_n (k := 0) rfl rfl ?_
  refine tw_iconst (k := 1) (0 : Int32) rfl (by decide) ?_
  refine tw_iconst (k := 2) (1 : Int32) rfl (by decide) ?_
  refine tw_callV (k := 3) (d' := 3) (mc' := 0) (ms' := 0) tw_cI tw_cIi [.int (0 : Int32), .int (1 : Int32)] rfl rfl wv_RX12_116_X12_number mo_X12_number (t := 11) rfl rfl rfl (fun Q9 => K_X12_number Q9 a0 (0 : Int32) (1 : Int32)) (by omega) (by decide) (by decide) (Nat.le_of_ble_eq_true rfl) (fun x1 => ?_)
  refine tw_ist_n (k := 4) [some (.ref a0), some (.int x1), none, none] rfl (Nat.le_of_ble_eq_true rfl) rfl rfl ?_
  refine tw_iload_n (k := 5) rfl rfl ?_
  refine tw_join 22 (fun s3 => [some (.ref a0), some (.int x1), none, none]) (fun s3 => .int s3 :: []) 0 0 (fun s3 => ?_) (fun j2 g2 => ?_)
  · refine tw_ist_n (k := 13) [some (.ref a0), some (.int x1), some (.int s3), none] rfl (Nat.le_of_ble_eq_true rfl) rfl rfl ?_
    refine tw_iload_n (k := 14) rfl rfl ?_
    refine tw_join 35 (fun s5 => [some (.ref a0), some (.int x1), some (.int s3), none]) (fun s5 => .int s5 :: []) 0 0 (fun s5 => ?_) (fun j4 g4 => ?_)
    · refine tw_ist_n (k := 20) [some (.ref a0), some (.int x1), some (.int s3), some (.int s5)] rfl (Nat.le_of_ble_eq_true rfl) rfl rfl ?_
      refine tw_iload_n (k := 21) rfl rfl ?_
      refine tw_if_lt (k := 22) 52 rfl (by decide) ?_ ?_
      · refine tw_iconst (k := 31) (0 : Int32) rfl (by decide) ?_
        exact tw_zreturn (k := 32) rfl rfl (by decide) (by decide)
      · refine tw_aload_n (k := 23) rfl rfl ?_
        refine tw_iconst (k := 24) (1 : Int32) rfl (by decide) ?_
        refine tw_iload_n (k := 25) rfl rfl ?_
        refine tw_isub (k := 26) rfl ?_
        refine tw_iload_n (k := 27) rfl rfl ?_
        refine tw_callV (k := 28) (d' := 2) (mc' := 0) (ms' := 0) tw_cI tw_cIi [.int ((1 : Int32) - x1), .int s3] rfl rfl wv_RX12_139_X12_inPlan mo_X12_inPlan (t := 11) rfl rfl rfl (fun Q9 => K_X12_inPlan Q9 a0 ((1 : Int32) - x1) s3) (by omega) (by decide) (by decide) (Nat.le_of_ble_eq_true rfl) (fun x6 => ?_)
        refine tw_iload_n (k := 29) rfl rfl ?_
        refine tw_icmp_ne (k := 30) 54 rfl (by decide) ?_ ?_
        · refine tw_aload_n (k := 33) rfl rfl ?_
          refine tw_getR (k := 34) rfl fl_RX12_13 (fun x7 => ?_)
          refine tw_iload_n (k := 35) rfl rfl ?_
          refine tw_iload_n (k := 36) rfl rfl ?_
          refine tw_callS (k := 37) (d' := 1) (mc' := 0) (ms' := 0) tw_cI tw_cIi [.int x1, .int s3] rfl rfl ws_RX12_73_X12_planAt mo_X12_planAt rfl (fun Q9 => K_X12_planAt Q9 x1 s3) (by omega) (by decide) (by decide) (Nat.le_of_ble_eq_true rfl) (fun x8 => ?_)
          refine tw_iload_n (k := 38) rfl rfl ?_
          refine tw_iastore (k := 39) rfl ?_
          refine tw_iconst (k := 40) (1 : Int32) rfl (by decide) ?_
          exact tw_zreturn (k := 41) rfl rfl (by decide) (by decide)
        · refine tw_iconst (k := 31) (0 : Int32) rfl (by decide) ?_
          exact tw_zreturn (k := 32) rfl rfl (by decide) (by decide)
    · refine tw_if_ge (k := 15) 31 rfl (by decide) ?_ ?_
      · refine tw_aload_n (k := 18) rfl rfl ?_
        refine tw_callV (k := 19) (d' := 4) (mc' := 0) (ms' := 0) tw_cI tw_cIi [] rfl rfl wv_RX12_133_X12_personTold mo_X12_personTold (t := 11) rfl rfl rfl (fun Q9 => K_X12_personTold Q9 a0) (by omega) (by decide) (by decide) (Nat.le_of_ble_eq_true rfl) (fun x9 => ?_)
        exact g4 x9
      · refine tw_iconst (k := 16) (-1 : Int32) rfl (by decide) ?_
        refine tw_goto (k := 17) 35 rfl (by decide) ?_
        exact g4 (-1 : Int32)
  · refine tw_if_ge (k := 6) 15 rfl (by decide) ?_ ?_
    · refine tw_aload_n (k := 9) rfl rfl ?_
      refine tw_iconst (k := 10) (0 : Int32) rfl (by decide) ?_
      refine tw_bipush (k := 11) (11 : Int32) rfl (by decide) ?_
      refine tw_callV (k := 12) (d' := 3) (mc' := 0) (ms' := 0) tw_cI tw_cIi [.int (0 : Int32), .int (11 : Int32)] rfl rfl wv_RX12_116_X12_number mo_X12_number (t := 11) rfl rfl rfl (fun Q9 => K_X12_number Q9 a0 (0 : Int32) (11 : Int32)) (by omega) (by decide) (by decide) (Nat.le_of_ble_eq_true rfl) (fun x10 => ?_)
      exact g2 x10
    · refine tw_iconst (k := 7) (-1 : Int32) rfl (by decide) ?_
      refine tw_goto (k := 8) 22 rfl (by decide) ?_
      exact g2 (-1 : Int32)
def mX12_readTownLine : tw_MD := (yX12_readTownLine, cX12_readTownLine, 1, (some FieldType.boolean), [(0, .aload_n 0, 1, 1), (1, .ldc 142, 2, 3), (3, .invokevirtual 112, 3, 6), (6, .ifCond .eq 8, 3, 9), (9, .aload_n 0, 1, 10), (10, .invokevirtual 144, 3, 13), (13, .ireturn, 1, 14), (14, .aload_n 0, 1, 15), (15, .ldc 148, 2, 17), (17, .invokevirtual 112, 3, 20), (20, .ifCond .eq 8, 3, 23), (23, .aload_n 0, 1, 24), (24, .invokevirtual 150, 3, 27), (27, .ireturn, 1, 28), (28, .aload_n 0, 1, 29), (29, .ldc 153, 2, 31), (31, .invokevirtual 112, 3, 34), (34, .ifCond .eq 8, 3, 37), (37, .aload_n 0, 1, 38), (38, .invokevirtual 155, 3, 41), (41, .ireturn, 1, 42), (42, .aload_n 0, 1, 43), (43, .ldc 158, 2, 45), (45, .invokevirtual 112, 3, 48), (48, .ifCond .eq 12, 3, 51), (51, .aload_n 0, 1, 52), (52, .iconst 5, 1, 53), (53, .iconst 1, 1, 54), (54, .bipush 9, 2, 56), (56, .invokevirtual 136, 3, 59), (59, .ireturn, 1, 60), (60, .aload_n 0, 1, 61), (61, .ldc 160, 2, 63), (63, .invokevirtual 112, 3, 66), (66, .ifCond .eq 12, 3, 69), (69, .aload_n 0, 1, 70), (70, .iconst 3, 1, 71), (71, .iconst 0, 1, 72), (72, .bipush 11, 2, 74), (74, .invokevirtual 136, 3, 77), (77, .ireturn, 1, 78), (78, .aload_n 0, 1, 79), (79, .ldc 162, 2, 81), (81, .invokevirtual 112, 3, 84), (84, .ifCond .eq 19, 3, 87), (87, .aload_n 0, 1, 88), (88, .iconst 4, 1, 89), (89, .iconst 0, 1, 90), (90, .sipush 999, 3, 93), (93, .invokevirtual 136, 3, 96), (96, .ifCond .eq 7, 3, 99), (99, .iconst 1, 1, 100), (100, .goto 4, 3, 103), (103, .iconst 0, 1, 104), (104, .ireturn, 1, 105)], [])
theorem mo_X12_readTownLine : tw_mok mX12_readTownLine 0 := ⟨plainFor_of_name (by decide +kernel), by decide +kernel, by decide +kernel, by decide +kernel, by decide +kernel⟩
theorem dk_X12_readTownLine : tw_dk mX12_readTownLine := by unfold tw_dk; decide +kernel
theorem ks_RX12_142 : Cond.stringRef RX12 142 "person" ∈ lw_tbl := List.mem_of_getElem? (i := 1917) (by decide +kernel)
theorem ks_RX12_148 : Cond.stringRef RX12 148 "guess" ∈ lw_tbl := List.mem_of_getElem? (i := 1951) (by decide +kernel)
theorem ks_RX12_153 : Cond.stringRef RX12 153 "rope" ∈ lw_tbl := List.mem_of_getElem? (i := 1964) (by decide +kernel)
theorem ks_RX12_158 : Cond.stringRef RX12 158 "doubt" ∈ lw_tbl := List.mem_of_getElem? (i := 1976) (by decide +kernel)
theorem ks_RX12_160 : Cond.stringRef RX12 160 "hour" ∈ lw_tbl := List.mem_of_getElem? (i := 1977) (by decide +kernel)
theorem ks_RX12_162 : Cond.stringRef RX12 162 "day" ∈ lw_tbl := List.mem_of_getElem? (i := 1978) (by decide +kernel)
theorem wv_RX12_155_X12_readRope : tw_wV RX12 155 mX12_readRope := ⟨List.mem_of_getElem? (i := 1965) (by decide +kernel), List.mem_of_getElem? (i := 1967) (by decide +kernel), List.mem_of_getElem? (i := 60) (by decide +kernel), List.mem_of_getElem? (i := 137) (by decide +kernel), List.mem_of_getElem? (i := 1968) (by decide +kernel)⟩
theorem wv_RX12_150_X12_readGuess : tw_wV RX12 150 mX12_readGuess := ⟨List.mem_of_getElem? (i := 1952) (by decide +kernel), List.mem_of_getElem? (i := 1954) (by decide +kernel), List.mem_of_getElem? (i := 57) (by decide +kernel), List.mem_of_getElem? (i := 137) (by decide +kernel), List.mem_of_getElem? (i := 1955) (by decide +kernel)⟩
theorem wv_RX12_144_X12_readPerson : tw_wV RX12 144 mX12_readPerson := ⟨List.mem_of_getElem? (i := 1924) (by decide +kernel), List.mem_of_getElem? (i := 1926) (by decide +kernel), List.mem_of_getElem? (i := 52) (by decide +kernel), List.mem_of_getElem? (i := 137) (by decide +kernel), List.mem_of_getElem? (i := 1927) (by decide +kernel)⟩
set_option maxRecDepth 20000 in
theorem K_X12_readTownLine {g : tw_Gx} (Q : tw_Rs → tw_Mem → Prop) (a0 : Nat) : tw_Kt g mX12_readTownLine 8 0 0 [.ref a0] Q (f_X12_readTownLine g a0 (fun v => Q (.inl (some (.int v))))) := by
  refine tw_mkK (L := [some (.ref a0)]) mo_X12_readTownLine dk_X12_readTownLine rfl (Nat.le_of_ble_eq_true rfl) rfl ?_
  unfold f_X12_readTownLine
  refine tw_aload_n (k := 0) rfl rfl ?_
  refine tw_ldcS (k := 1) rfl ks_RX12_142 (fun t1 => ?_)
  refine tw_callV (k := 2) (d' := 5) (mc' := 0) (ms' := 0) tw_cI tw_cIi [.ref t1] rfl rfl wv_RX12_112_X12_isWord mo_X12_isWord (t := 11) rfl rfl rfl (fun Q9 => K_X12_isWord Q9 a0 t1) (by omega) (by decide) (by decide) (Nat.le_of_ble_eq_true rfl) (fun x2 => ?_)
  refine tw_if_eq (k := 3) 14 rfl (by decide) ?_ ?_
  · refine tw_aload_n (k := 7) rfl rfl ?_
    refine tw_ldcS (k := 8) rfl ks_RX12_148 (fun t3 => ?_)
    refine tw_callV (k := 9) (d' := 5) (mc' := 0) (ms' := 0) tw_cI tw_cIi [.ref t3] rfl rfl wv_RX12_112_X12_isWord mo_X12_isWord (t := 11) rfl rfl rfl (fun Q9 => K_X12_isWord Q9 a0 t3) (by omega) (by decide) (by decide) (Nat.le_of_ble_eq_true rfl) (fun x4 => ?_)
    refine tw_if_eq (k := 10) 28 rfl (by decide) ?_ ?_
    · refine tw_aload_n (k := 14) rfl rfl ?_
      refine tw_ldcS (k := 15) rfl ks_RX12_153 (fun t5 => ?_)
      refine tw_callV (k := 16) (d' := 5) (mc' := 0) (ms' := 0) tw_cI tw_cIi [.ref t5] rfl rfl wv_RX12_112_X12_isWord mo_X12_isWord (t := 11) rfl rfl rfl (fun Q9 => K_X12_isWord Q9 a0 t5) (by omega) (by decide) (by decide) (Nat.le_of_ble_eq_true rfl) (fun x6 => ?_)
      refine tw_if_eq (k := 17) 42 rfl (by decide) ?_ ?_
      · refine tw_aload_n (k := 21) rfl rfl ?_
        refine tw_ldcS (k := 22) rfl ks_RX12_158 (fun t7 => ?_)
        refine tw_callV (k := 23) (d' := 5) (mc' := 0) (ms' := 0) tw_cI tw_cIi [.ref t7] rfl rfl wv_RX12_112_X12_isWord mo_X12_isWord (t := 11) rfl rfl rfl (fun Q9 => K_X12_isWord Q9 a0 t7) (by omega) (by decide) (by decide) (Nat.le_of_ble_eq_true rfl) (fun x8 => ?_)
        refine tw_if_eq (k := 24) 60 rfl (by decide) ?_ ?_
        · refine tw_aload_n (k := 31) rfl rfl ?_
          refine tw_ldcS (k := 32) rfl ks_RX12_160 (fun t9 => ?_)
          refine tw_callV (k := 33) (d' := 5) (mc' := 0) (ms' := 0) tw_cI tw_cIi [.ref t9] rfl rfl wv_RX12_112_X12_isWord mo_X12_isWord (t := 11) rfl rfl rfl (fun Q9 => K_X12_isWord Q9 a0 t9) (by omega) (by decide) (by decide) (Nat.le_of_ble_eq_true rfl) (fun x10 => ?_)
          refine tw_if_eq (k := 34) 78 rfl (by decide) ?_ ?_
          · refine tw_aload_n (k := 41) rfl rfl ?_
            refine tw_ldcS (k := 42) rfl ks_RX12_162 (fun t11 => ?_)
            refine tw_callV (k := 43) (d' := 5) (mc' := 0) (ms' := 0) tw_cI tw_cIi [.ref t11] rfl rfl wv_RX12_112_X12_isWord mo_X12_isWord (t := 11) rfl rfl rfl (fun Q9 => K_X12_isWord Q9 a0 t11) (by omega) (by decide) (by decide) (Nat.le_of_ble_eq_true rfl) (fun x12 => ?_)
            refine tw_if_eq (k := 44) 103 rfl (by decide) ?_ ?_
            · refine tw_iconst (k := 53) (0 : Int32) rfl (by decide) ?_
              exact tw_zreturn (k := 54) rfl rfl (by decide) (by decide)
            · refine tw_aload_n (k := 45) rfl rfl ?_
              refine tw_iconst (k := 46) (4 : Int32) rfl (by decide) ?_
              refine tw_iconst (k := 47) (0 : Int32) rfl (by decide) ?_
              refine tw_sipush (k := 48) (999 : Int32) rfl (by decide) ?_
              refine tw_callV (k := 49) (d' := 4) (mc' := 0) (ms' := 0) tw_cI tw_cIi [.int (4 : Int32), .int (0 : Int32), .int (999 : Int32)] rfl rfl wv_RX12_136_X12_readNumber mo_X12_readNumber (t := 11) rfl rfl rfl (fun Q9 => K_X12_readNumber Q9 a0 (4 : Int32) (0 : Int32) (999 : Int32)) (by omega) (by decide) (by decide) (Nat.le_of_ble_eq_true rfl) (fun x13 => ?_)
              refine tw_if_eq (k := 50) 103 rfl (by decide) ?_ ?_
              · refine tw_iconst (k := 53) (0 : Int32) rfl (by decide) ?_
                exact tw_zreturn (k := 54) rfl rfl (by decide) (by decide)
              · refine tw_iconst (k := 51) (1 : Int32) rfl (by decide) ?_
                refine tw_goto (k := 52) 104 rfl (by decide) ?_
                exact tw_zreturn (k := 54) rfl rfl (by decide) (by decide)
          · refine tw_aload_n (k := 35) rfl rfl ?_
            refine tw_iconst (k := 36) (3 : Int32) rfl (by decide) ?_
            refine tw_iconst (k := 37) (0 : Int32) rfl (by decide) ?_
            refine tw_bipush (k := 38) (11 : Int32) rfl (by decide) ?_
            refine tw_callV (k := 39) (d' := 4) (mc' := 0) (ms' := 0) tw_cI tw_cIi [.int (3 : Int32), .int (0 : Int32), .int (11 : Int32)] rfl rfl wv_RX12_136_X12_readNumber mo_X12_readNumber (t := 11) rfl rfl rfl (fun Q9 => K_X12_readNumber Q9 a0 (3 : Int32) (0 : Int32) (11 : Int32)) (by omega) (by decide) (by decide) (Nat.le_of_ble_eq_true rfl) (fun x14 => ?_)
            exact tw_zreturn (k := 40) rfl rfl (by decide) (by decide)
        · refine tw_aload_n (k := 25) rfl rfl ?_
          refine tw_iconst (k := 26) (5 : Int32) rfl (by decide) ?_
          refine tw_iconst (k := 27) (1 : Int32) rfl (by decide) ?_
          refine tw_bipush (k := 28) (9 : Int32) rfl (by decide) ?_
          refine tw_callV (k := 29) (d' := 4) (mc' := 0) (ms' := 0) tw_cI tw_cIi [.int (5 : Int32), .int (1 : Int32), .int (9 : Int32)] rfl rfl wv_RX12_136_X12_readNumber mo_X12_readNumber (t := 11) rfl rfl rfl (fun Q9 => K_X12_readNumber Q9 a0 (5 : Int32) (1 : Int32) (9 : Int32)) (by omega) (by decide) (by decide) (Nat.le_of_ble_eq_true rfl) (fun x15 => ?_)
          exact tw_zreturn (k := 30) rfl rfl (by decide) (by decide)
      · refine tw_aload_n (k := 18) rfl rfl ?_
        refine tw_callV (k := 19) (d' := 5) (mc' := 0) (ms' := 0) tw_cI tw_cIi [] rfl rfl wv_RX12_155_X12_readRope mo_X12_readRope (t := 11) rfl rfl rfl (fun Q9 => K_X12_readRope Q9 a0) (by omega) (by decide) (by decide) (Nat.le_of_ble_eq_true rfl) (fun x16 => ?_)
        exact tw_zreturn (k := 20) rfl rfl (by decide) (by decide)
    · refine tw_aload_n (k := 11) rfl rfl ?_
      refine tw_callV (k := 12) (d' := 5) (mc' := 0) (ms' := 0) tw_cI tw_cIi [] rfl rfl wv_RX12_150_X12_readGuess mo_X12_readGuess (t := 11) rfl rfl rfl (fun Q9 => K_X12_readGuess Q9 a0) (by omega) (by decide) (by decide) (Nat.le_of_ble_eq_true rfl) (fun x17 => ?_)
      exact tw_zreturn (k := 13) rfl rfl (by decide) (by decide)
  · refine tw_aload_n (k := 4) rfl rfl ?_
    refine tw_callV (k := 5) (d' := 7) (mc' := 0) (ms' := 0) tw_cI tw_cIi [] rfl rfl wv_RX12_144_X12_readPerson mo_X12_readPerson (t := 11) rfl rfl rfl (fun Q9 => K_X12_readPerson Q9 a0) (by omega) (by decide) (by decide) (Nat.le_of_ble_eq_true rfl) (fun x18 => ?_)
    exact tw_zreturn (k := 6) rfl rfl (by decide) (by decide)
def mX12_emits : tw_MD := (yX12_emits, cX12_emits, 3, none, [(0, .aload_n 0, 1, 1), (1, .getfield 13, 3, 4), (4, .sipush 1390, 3, 7), (7, .iconst 2, 1, 8), (8, .aload_n 0, 1, 9), (9, .getfield 164, 3, 12), (12, .imul, 1, 13), (13, .iadd, 1, 14), (14, .iload_n 1, 1, 15), (15, .iastore, 1, 16), (16, .aload_n 0, 1, 17), (17, .getfield 13, 3, 20), (20, .sipush 1390, 3, 23), (23, .iconst 2, 1, 24), (24, .aload_n 0, 1, 25), (25, .getfield 164, 3, 28), (28, .imul, 1, 29), (29, .iadd, 1, 30), (30, .iconst 1, 1, 31), (31, .iadd, 1, 32), (32, .iload_n 2, 1, 33), (33, .iastore, 1, 34), (34, .aload_n 0, 1, 35), (35, .dup, 1, 36), (36, .getfield 164, 3, 39), (39, .iconst 1, 1, 40), (40, .iadd, 1, 41), (41, .putfield 164, 3, 44), (44, .return_, 1, 45)], [])
theorem mo_X12_emits : tw_mok mX12_emits 2 := ⟨plainFor_of_name (by decide +kernel), by decide +kernel, by decide +kernel, by decide +kernel, by decide +kernel⟩
theorem dk_X12_emits : tw_dk mX12_emits := by unfold tw_dk; decide +kernel
theorem fl_RX12_164 : tw_fl RX12 164 86 := Or.inl (List.mem_of_getElem? (i := 1806) (by decide +kernel))
theorem wf_X12_emits_164 : tw_wf mX12_emits 164 86 := Or.inl rfl
set_option maxRecDepth 20000 in
theorem K_X12_emits {g : tw_Gx} (Q : tw_Rs → tw_Mem → Prop) (a0 : Nat) (a1 : Int32) (a2 : Int32) : tw_Kt g mX12_emits 1 0 0 [.ref a0, .int a1, .int a2] Q (f_X12_emits a0 a1 a2 (fun v => Q (.inl none))) := by
  refine tw_mkK (L := [some (.ref a0), some (.int a1), some (.int a2)]) mo_X12_emits dk_X12_emits rfl (Nat.le_of_ble_eq_true rfl) rfl ?_
  unfold f_X12_emits
  refine tw_aload_n (k := 0) rfl rfl ?_
  refine tw_getR (k := 1) rfl fl_RX12_13 (fun x1 => ?_)
  refine tw_sipush (k := 2) (1390 : Int32) rfl (by decide) ?_
  refine tw_iconst (k := 3) (2 : Int32) rfl (by decide) ?_
  refine tw_aload_n (k := 4) rfl rfl ?_
  refine tw_getI (k := 5) rfl fl_RX12_164 (fun x2 => ?_)
  refine tw_imul (k := 6) rfl ?_
  refine tw_iadd (k := 7) rfl ?_
  refine tw_iload_n (k := 8) rfl rfl ?_
  refine tw_iastore (k := 9) rfl ?_
  refine tw_aload_n (k := 10) rfl rfl ?_
  refine tw_getR (k := 11) rfl fl_RX12_13 (fun x3 => ?_)
  refine tw_sipush (k := 12) (1390 : Int32) rfl (by decide) ?_
  refine tw_iconst (k := 13) (2 : Int32) rfl (by decide) ?_
  refine tw_aload_n (k := 14) rfl rfl ?_
  refine tw_getI (k := 15) rfl fl_RX12_164 (fun x4 => ?_)
  refine tw_imul (k := 16) rfl ?_
  refine tw_iadd (k := 17) rfl ?_
  refine tw_iconst (k := 18) (1 : Int32) rfl (by decide) ?_
  refine tw_iadd (k := 19) rfl ?_
  refine tw_iload_n (k := 20) rfl rfl ?_
  refine tw_iastore (k := 21) rfl ?_
  refine tw_aload_n (k := 22) rfl rfl ?_
  refine tw_dup (k := 23) rfl rfl ?_
  refine tw_getI (k := 24) rfl fl_RX12_164 (fun x5 => ?_)
  refine tw_iconst (k := 25) (1 : Int32) rfl (by decide) ?_
  refine tw_iadd (k := 26) rfl ?_
  refine tw_putI (k := 27) rfl fl_RX12_164 wf_X12_emits_164 (by decide +kernel) ?_
  exact tw_return (k := 28) rfl rfl (by decide) (by decide)
def mX12_wordOfPart : tw_MD := (yX12_wordOfPart, cX12_wordOfPart, 1, (some FieldType.int), [(0, .aload_n 0, 1, 1), (1, .ldc 167, 2, 3), (3, .invokevirtual 112, 3, 6), (6, .ifCond .eq 5, 3, 9), (9, .iconst 0, 1, 10), (10, .ireturn, 1, 11), (11, .aload_n 0, 1, 12), (12, .ldc 169, 2, 14), (14, .invokevirtual 112, 3, 17), (17, .ifCond .eq 5, 3, 20), (20, .iconst 1, 1, 21), (21, .ireturn, 1, 22), (22, .aload_n 0, 1, 23), (23, .ldc 148, 2, 25), (25, .invokevirtual 112, 3, 28), (28, .ifCond .eq 5, 3, 31), (31, .iconst 2, 1, 32), (32, .ireturn, 1, 33), (33, .aload_n 0, 1, 34), (34, .ldc 171, 2, 36), (36, .invokevirtual 112, 3, 39), (39, .ifCond .eq 5, 3, 42), (42, .iconst 3, 1, 43), (43, .ireturn, 1, 44), (44, .aload_n 0, 1, 45), (45, .ldc 173, 2, 47), (47, .invokevirtual 112, 3, 50), (50, .ifCond .eq 5, 3, 53), (53, .iconst 4, 1, 54), (54, .ireturn, 1, 55), (55, .aload_n 0, 1, 56), (56, .ldc 160, 2, 58), (58, .invokevirtual 112, 3, 61), (61, .ifCond .eq 5, 3, 64), (64, .iconst 5, 1, 65), (65, .ireturn, 1, 66), (66, .aload_n 0, 1, 67), (67, .ldc 162, 2, 69), (69, .invokevirtual 112, 3, 72), (72, .ifCond .eq 8, 3, 75), (75, .bipush 6, 2, 77), (77, .goto 4, 3, 80), (80, .iconst (-1), 1, 81), (81, .ireturn, 1, 82)], [])
theorem mo_X12_wordOfPart : tw_mok mX12_wordOfPart 0 := ⟨plainFor_of_name (by decide +kernel), by decide +kernel, by decide +kernel, by decide +kernel, by decide +kernel⟩
theorem dk_X12_wordOfPart : tw_dk mX12_wordOfPart := by unfold tw_dk; decide +kernel
theorem ks_RX12_167 : Cond.stringRef RX12 167 "one" ∈ lw_tbl := List.mem_of_getElem? (i := 2025) (by decide +kernel)
theorem ks_RX12_169 : Cond.stringRef RX12 169 "other" ∈ lw_tbl := List.mem_of_getElem? (i := 2026) (by decide +kernel)
theorem ks_RX12_171 : Cond.stringRef RX12 171 "back" ∈ lw_tbl := List.mem_of_getElem? (i := 2027) (by decide +kernel)
theorem ks_RX12_173 : Cond.stringRef RX12 173 "rung" ∈ lw_tbl := List.mem_of_getElem? (i := 2028) (by decide +kernel)
set_option maxRecDepth 20000 in
theorem K_X12_wordOfPart {g : tw_Gx} (Q : tw_Rs → tw_Mem → Prop) (a0 : Nat) : tw_Kt g mX12_wordOfPart 6 0 0 [.ref a0] Q (f_X12_wordOfPart g a0 (fun v => Q (.inl (some (.int v))))) := by
  refine tw_mkK (L := [some (.ref a0)]) mo_X12_wordOfPart dk_X12_wordOfPart rfl (Nat.le_of_ble_eq_true rfl) rfl ?_
  unfold f_X12_wordOfPart
  refine tw_aload_n (k := 0) rfl rfl ?_
  refine tw_ldcS (k := 1) rfl ks_RX12_167 (fun t1 => ?_)
  refine tw_callV (k := 2) (d' := 5) (mc' := 0) (ms' := 0) tw_cI tw_cIi [.ref t1] rfl rfl wv_RX12_112_X12_isWord mo_X12_isWord (t := 11) rfl rfl rfl (fun Q9 => K_X12_isWord Q9 a0 t1) (by omega) (by decide) (by decide) (Nat.le_of_ble_eq_true rfl) (fun x2 => ?_)
  refine tw_if_eq (k := 3) 11 rfl (by decide) ?_ ?_
  · refine tw_aload_n (k := 6) rfl rfl ?_
    refine tw_ldcS (k := 7) rfl ks_RX12_169 (fun t3 => ?_)
    refine tw_callV (k := 8) (d' := 5) (mc' := 0) (ms' := 0) tw_cI tw_cIi [.ref t3] rfl rfl wv_RX12_112_X12_isWord mo_X12_isWord (t := 11) rfl rfl rfl (fun Q9 => K_X12_isWord Q9 a0 t3) (by omega) (by decide) (by decide) (Nat.le_of_ble_eq_true rfl) (fun x4 => ?_)
    refine tw_if_eq (k := 9) 22 rfl (by decide) ?_ ?_
    · refine tw_aload_n (k := 12) rfl rfl ?_
      refine tw_ldcS (k := 13) rfl ks_RX12_148 (fun t5 => ?_)
      refine tw_callV (k := 14) (d' := 5) (mc' := 0) (ms' := 0) tw_cI tw_cIi [.ref t5] rfl rfl wv_RX12_112_X12_isWord mo_X12_isWord (t := 11) rfl rfl rfl (fun Q9 => K_X12_isWord Q9 a0 t5) (by omega) (by decide) (by decide) (Nat.le_of_ble_eq_true rfl) (fun x6 => ?_)
      refine tw_if_eq (k := 15) 33 rfl (by decide) ?_ ?_
      · refine tw_aload_n (k := 18) rfl rfl ?_
        refine tw_ldcS (k := 19) rfl ks_RX12_171 (fun t7 => ?_)
        refine tw_callV (k := 20) (d' := 5) (mc' := 0) (ms' := 0) tw_cI tw_cIi [.ref t7] rfl rfl wv_RX12_112_X12_isWord mo_X12_isWord (t := 11) rfl rfl rfl (fun Q9 => K_X12_isWord Q9 a0 t7) (by omega) (by decide) (by decide) (Nat.le_of_ble_eq_true rfl) (fun x8 => ?_)
        refine tw_if_eq (k := 21) 44 rfl (by decide) ?_ ?_
        · refine tw_aload_n (k := 24) rfl rfl ?_
          refine tw_ldcS (k := 25) rfl ks_RX12_173 (fun t9 => ?_)
          refine tw_callV (k := 26) (d' := 5) (mc' := 0) (ms' := 0) tw_cI tw_cIi [.ref t9] rfl rfl wv_RX12_112_X12_isWord mo_X12_isWord (t := 11) rfl rfl rfl (fun Q9 => K_X12_isWord Q9 a0 t9) (by omega) (by decide) (by decide) (Nat.le_of_ble_eq_true rfl) (fun x10 => ?_)
          refine tw_if_eq (k := 27) 55 rfl (by decide) ?_ ?_
          · refine tw_aload_n (k := 30) rfl rfl ?_
            refine tw_ldcS (k := 31) rfl ks_RX12_160 (fun t11 => ?_)
            refine tw_callV (k := 32) (d' := 5) (mc' := 0) (ms' := 0) tw_cI tw_cIi [.ref t11] rfl rfl wv_RX12_112_X12_isWord mo_X12_isWord (t := 11) rfl rfl rfl (fun Q9 => K_X12_isWord Q9 a0 t11) (by omega) (by decide) (by decide) (Nat.le_of_ble_eq_true rfl) (fun x12 => ?_)
            refine tw_if_eq (k := 33) 66 rfl (by decide) ?_ ?_
            · refine tw_aload_n (k := 36) rfl rfl ?_
              refine tw_ldcS (k := 37) rfl ks_RX12_162 (fun t13 => ?_)
              refine tw_callV (k := 38) (d' := 5) (mc' := 0) (ms' := 0) tw_cI tw_cIi [.ref t13] rfl rfl wv_RX12_112_X12_isWord mo_X12_isWord (t := 11) rfl rfl rfl (fun Q9 => K_X12_isWord Q9 a0 t13) (by omega) (by decide) (by decide) (Nat.le_of_ble_eq_true rfl) (fun x14 => ?_)
              refine tw_if_eq (k := 39) 80 rfl (by decide) ?_ ?_
              · refine tw_iconst (k := 42) (-1 : Int32) rfl (by decide) ?_
                exact tw_ireturn (k := 43) rfl rfl (by decide) (by decide)
              · refine tw_bipush (k := 40) (6 : Int32) rfl (by decide) ?_
                refine tw_goto (k := 41) 81 rfl (by decide) ?_
                exact tw_ireturn (k := 43) rfl rfl (by decide) (by decide)
            · refine tw_iconst (k := 34) (5 : Int32) rfl (by decide) ?_
              exact tw_ireturn (k := 35) rfl rfl (by decide) (by decide)
          · refine tw_iconst (k := 28) (4 : Int32) rfl (by decide) ?_
            exact tw_ireturn (k := 29) rfl rfl (by decide) (by decide)
        · refine tw_iconst (k := 22) (3 : Int32) rfl (by decide) ?_
          exact tw_ireturn (k := 23) rfl rfl (by decide) (by decide)
      · refine tw_iconst (k := 16) (2 : Int32) rfl (by decide) ?_
        exact tw_ireturn (k := 17) rfl rfl (by decide) (by decide)
    · refine tw_iconst (k := 10) (1 : Int32) rfl (by decide) ?_
      exact tw_ireturn (k := 11) rfl rfl (by decide) (by decide)
  · refine tw_iconst (k := 4) (0 : Int32) rfl (by decide) ?_
    exact tw_ireturn (k := 5) rfl rfl (by decide) (by decide)
def mX12_readPart : tw_MD := (yX12_readPart, cX12_readPart, 3, (some FieldType.boolean), [(0, .aload_n 0, 1, 1), (1, .invokevirtual 109, 3, 4), (4, .aload_n 0, 1, 5), (5, .getfield 84, 3, 8), (8, .aload_n 0, 1, 9), (9, .getfield 94, 3, 12), (12, .if_icmp .ne 7, 3, 15), (15, .iconst 1, 1, 16), (16, .goto 4, 3, 19), (19, .iconst 0, 1, 20), (20, .istore_n 1, 1, 21), (21, .iload_n 1, 1, 22), (22, .ifCond .eq 14, 3, 25), (25, .aload_n 0, 1, 26), (26, .iconst 0, 1, 27), (27, .sipush 999, 3, 30), (30, .invokevirtual 116, 3, 33), (33, .goto 7, 3, 36), (36, .aload_n 0, 1, 37), (37, .invokevirtual 175, 3, 40), (40, .istore_n 2, 1, 41), (41, .aload_n 0, 1, 42), (42, .iload_n 1, 1, 43), (43, .ifCond .eq 8, 3, 46), (46, .bipush 10, 2, 48), (48, .goto 4, 3, 51), (51, .iload_n 2, 1, 52), (52, .iload_n 1, 1, 53), (53, .ifCond .eq 7, 3, 56), (56, .iload_n 2, 1, 57), (57, .goto 4, 3, 60), (60, .iconst 0, 1, 61), (61, .invokevirtual 178, 3, 64), (64, .iload_n 2, 1, 65), (65, .ifCond .lt 7, 3, 68), (68, .iconst 1, 1, 69), (69, .goto 4, 3, 72), (72, .iconst 0, 1, 73), (73, .ireturn, 1, 74)], [])
theorem mo_X12_readPart : tw_mok mX12_readPart 0 := ⟨plainFor_of_name (by decide +kernel), by decide +kernel, by decide +kernel, by decide +kernel, by decide +kernel⟩
theorem dk_X12_readPart : tw_dk mX12_readPart := by unfold tw_dk; decide +kernel
theorem wv_RX12_178_X12_emits : tw_wV RX12 178 mX12_emits := ⟨List.mem_of_getElem? (i := 2003) (by decide +kernel), List.mem_of_getElem? (i := 2005) (by decide +kernel), List.mem_of_getElem? (i := 67) (by decide +kernel), List.mem_of_getElem? (i := 137) (by decide +kernel), List.mem_of_getElem? (i := 2006) (by decide +kernel)⟩
theorem wv_RX12_175_X12_wordOfPart : tw_wV RX12 175 mX12_wordOfPart := ⟨List.mem_of_getElem? (i := 2021) (by decide +kernel), List.mem_of_getElem? (i := 2023) (by decide +kernel), List.mem_of_getElem? (i := 71) (by decide +kernel), List.mem_of_getElem? (i := 137) (by decide +kernel), List.mem_of_getElem? (i := 2024) (by decide +kernel)⟩
set_option maxRecDepth 20000 in
theorem K_X12_readPart {g : tw_Gx} (Q : tw_Rs → tw_Mem → Prop) (a0 : Nat) : tw_Kt g mX12_readPart 7 0 0 [.ref a0] Q (f_X12_readPart g a0 (fun v => Q (.inl (some (.int v))))) := by
  refine tw_mkK (L := [some (.ref a0), none, none]) mo_X12_readPart dk_X12_readPart rfl (Nat.le_of_ble_eq_true rfl) rfl ?_
  unfold f_X12_readPart
  refine tw_aload_n (k := 0) rfl rfl ?_
  refine tw_callV (k := 1) (d' := 3) (mc' := 0) (ms' := 0) tw_cU tw_cUi [] rfl rfl wv_RX12_109_X12_letters mo_X12_letters (t := 11) rfl rfl rfl (fun Q9 => K_X12_letters Q9 a0) (by omega) (by decide) (by decide) (Nat.le_of_ble_eq_true rfl) (fun u1 => ?_)
  refine tw_aload_n (k := 2) rfl rfl ?_
  refine tw_getI (k := 3) rfl fl_RX12_84 (fun x2 => ?_)
  refine tw_aload_n (k := 4) rfl rfl ?_
  refine tw_getI (k := 5) rfl fl_RX12_94 (fun x3 => ?_)
  refine tw_join 20 (fun s5 => [some (.ref a0), none, none]) (fun s5 => .int s5 :: []) 0 0 (fun s5 => ?_) (fun j4 g4 => ?_)
  · refine tw_ist_n (k := 10) [some (.ref a0), some (.int s5), none] rfl (Nat.le_of_ble_eq_true rfl) rfl rfl ?_
    refine tw_iload_n (k := 11) rfl rfl ?_
    refine tw_join 40 (fun s7 => [some (.ref a0), some (.int s5), none]) (fun s7 => .int s7 :: []) 0 0 (fun s7 => ?_) (fun j6 g6 => ?_)
    · refine tw_ist_n (k := 20) [some (.ref a0), some (.int s5), some (.int s7)] rfl (Nat.le_of_ble_eq_true rfl) rfl rfl ?_
      refine tw_aload_n (k := 21) rfl rfl ?_
      refine tw_iload_n (k := 22) rfl rfl ?_
      refine tw_join 52 (fun s9 => [some (.ref a0), some (.int s5), some (.int s7)]) (fun s9 => .int s9 :: .ref a0 :: []) 0 0 (fun s9 => ?_) (fun j8 g8 => ?_)
      · refine tw_iload_n (k := 27) rfl rfl ?_
        refine tw_join 61 (fun s11 => [some (.ref a0), some (.int s5), some (.int s7)]) (fun s11 => .int s11 :: .int s9 :: .ref a0 :: []) 0 0 (fun s11 => ?_) (fun j10 g10 => ?_)
        · refine tw_callV (k := 32) (d' := 1) (mc' := 0) (ms' := 0) tw_cU tw_cUi [.int s9, .int s11] rfl rfl wv_RX12_178_X12_emits mo_X12_emits (t := 11) rfl rfl rfl (fun Q9 => K_X12_emits Q9 a0 s9 s11) (by omega) (by decide) (by decide) (Nat.le_of_ble_eq_true rfl) (fun u12 => ?_)
          refine tw_iload_n (k := 33) rfl rfl ?_
          refine tw_if_lt (k := 34) 72 rfl (by decide) ?_ ?_
          · refine tw_iconst (k := 37) (0 : Int32) rfl (by decide) ?_
            exact tw_zreturn (k := 38) rfl rfl (by decide) (by decide)
          · refine tw_iconst (k := 35) (1 : Int32) rfl (by decide) ?_
            refine tw_goto (k := 36) 73 rfl (by decide) ?_
            exact tw_zreturn (k := 38) rfl rfl (by decide) (by decide)
        · refine tw_if_eq (k := 28) 60 rfl (by decide) ?_ ?_
          · refine tw_iconst (k := 31) (0 : Int32) rfl (by decide) ?_
            exact g10 (0 : Int32)
          · refine tw_iload_n (k := 29) rfl rfl ?_
            refine tw_goto (k := 30) 61 rfl (by decide) ?_
            exact g10 s7
      · refine tw_if_eq (k := 23) 51 rfl (by decide) ?_ ?_
        · refine tw_iload_n (k := 26) rfl rfl ?_
          exact g8 s7
        · refine tw_bipush (k := 24) (10 : Int32) rfl (by decide) ?_
          refine tw_goto (k := 25) 52 rfl (by decide) ?_
          exact g8 (10 : Int32)
    · refine tw_if_eq (k := 12) 36 rfl (by decide) ?_ ?_
      · refine tw_aload_n (k := 18) rfl rfl ?_
        refine tw_callV (k := 19) (d' := 6) (mc' := 0) (ms' := 0) tw_cI tw_cIi [] rfl rfl wv_RX12_175_X12_wordOfPart mo_X12_wordOfPart (t := 11) rfl rfl rfl (fun Q9 => K_X12_wordOfPart Q9 a0) (by omega) (by decide) (by decide) (Nat.le_of_ble_eq_true rfl) (fun x13 => ?_)
        exact g6 x13
      · refine tw_aload_n (k := 13) rfl rfl ?_
        refine tw_iconst (k := 14) (0 : Int32) rfl (by decide) ?_
        refine tw_sipush (k := 15) (999 : Int32) rfl (by decide) ?_
        refine tw_callV (k := 16) (d' := 3) (mc' := 0) (ms' := 0) tw_cI tw_cIi [.int (0 : Int32), .int (999 : Int32)] rfl rfl wv_RX12_116_X12_number mo_X12_number (t := 11) rfl rfl rfl (fun Q9 => K_X12_number Q9 a0 (0 : Int32) (999 : Int32)) (by omega) (by decide) (by decide) (Nat.le_of_ble_eq_true rfl) (fun x14 => ?_)
        refine tw_goto (k := 17) 40 rfl (by decide) ?_
        exact g6 x14
  · refine tw_icmp_ne (k := 6) 19 rfl (by decide) ?_ ?_
    · refine tw_iconst (k := 9) (0 : Int32) rfl (by decide) ?_
      exact g4 (0 : Int32)
    · refine tw_iconst (k := 7) (1 : Int32) rfl (by decide) ?_
      refine tw_goto (k := 8) 20 rfl (by decide) ?_
      exact g4 (1 : Int32)
def mX12_readSum : tw_MD := (yX12_readSum, cX12_readSum, 1, (some FieldType.boolean), [(0, .aload_n 0, 1, 1), (1, .invokevirtual 182, 3, 4), (4, .ifCond .ne 5, 3, 7), (7, .iconst 0, 1, 8), (8, .ireturn, 1, 9), (9, .aload_n 0, 1, 10), (10, .bipush 43, 2, 12), (12, .invokevirtual 185, 3, 15), (15, .ifCond .eq 22, 3, 18), (18, .aload_n 0, 1, 19), (19, .invokevirtual 182, 3, 22), (22, .ifCond .ne 5, 3, 25), (25, .iconst 0, 1, 26), (26, .ireturn, 1, 27), (27, .aload_n 0, 1, 28), (28, .bipush 11, 2, 30), (30, .iconst 0, 1, 31), (31, .invokevirtual 178, 3, 34), (34, .goto (-25), 3, 37), (37, .iconst 1, 1, 38), (38, .ireturn, 1, 39)], [])
theorem mo_X12_readSum : tw_mok mX12_readSum 0 := ⟨plainFor_of_name (by decide +kernel), by decide +kernel, by decide +kernel, by decide +kernel, by decide +kernel⟩
theorem dk_X12_readSum : tw_dk mX12_readSum := by unfold tw_dk; decide +kernel
theorem wv_RX12_182_X12_readPart : tw_wV RX12 182 mX12_readPart := ⟨List.mem_of_getElem? (i := 2017) (by decide +kernel), List.mem_of_getElem? (i := 2019) (by decide +kernel), List.mem_of_getElem? (i := 70) (by decide +kernel), List.mem_of_getElem? (i := 137) (by decide +kernel), List.mem_of_getElem? (i := 2020) (by decide +kernel)⟩
theorem wv_RX12_185_X12_sign : tw_wV RX12 185 mX12_sign := ⟨List.mem_of_getElem? (i := 1998) (by decide +kernel), List.mem_of_getElem? (i := 2000) (by decide +kernel), List.mem_of_getElem? (i := 66) (by decide +kernel), List.mem_of_getElem? (i := 137) (by decide +kernel), List.mem_of_getElem? (i := 2001) (by decide +kernel)⟩
set_option maxRecDepth 20000 in
theorem K_X12_readSum {g : tw_Gx} (Q : tw_Rs → tw_Mem → Prop) (a0 : Nat) : tw_Kt g mX12_readSum 8 0 0 [.ref a0] Q (f_X12_readSum g a0 (fun v => Q (.inl (some (.int v))))) := by
  refine tw_mkK (L := [some (.ref a0)]) mo_X12_readSum dk_X12_readSum rfl (Nat.le_of_ble_eq_true rfl) rfl ?_
  unfold f_X12_readSum
  refine tw_aload_n (k := 0) rfl rfl ?_
  refine tw_callV (k := 1) (d' := 7) (mc' := 0) (ms' := 0) tw_cI tw_cIi [] rfl rfl wv_RX12_182_X12_readPart mo_X12_readPart (t := 11) rfl rfl rfl (fun Q9 => K_X12_readPart Q9 a0) (by omega) (by decide) (by decide) (Nat.le_of_ble_eq_true rfl) (fun x1 => ?_)
  refine tw_if_ne (k := 2) 9 rfl (by decide) ?_ ?_
  · refine tw_loop (fun s3 => [some (.ref a0)]) (fun s3 => []) (fun r2 h2 s3 => ?_) _ rfl rfl
    refine tw_aload_n (k := 5) rfl rfl ?_
    refine tw_bipush (k := 6) (43 : Int32) rfl (by decide) ?_
    refine tw_callV (k := 7) (d' := 3) (mc' := 0) (ms' := 0) tw_cI tw_cIi [.int (43 : Int32)] rfl rfl wv_RX12_185_X12_sign mo_X12_sign (t := 11) rfl rfl rfl (fun Q9 => K_X12_sign Q9 a0 (43 : Int32)) (by omega) (by decide) (by decide) (Nat.le_of_ble_eq_true rfl) (fun x4 => ?_)
    refine tw_if_eq (k := 8) 37 rfl (by decide) ?_ ?_
    · refine tw_iconst (k := 19) (1 : Int32) rfl (by decide) ?_
      exact tw_zreturn (k := 20) rfl rfl (by decide) (by decide)
    · refine tw_aload_n (k := 9) rfl rfl ?_
      refine tw_callV (k := 10) (d' := 7) (mc' := 0) (ms' := 0) tw_cI tw_cIi [] rfl rfl wv_RX12_182_X12_readPart mo_X12_readPart (t := 11) rfl rfl rfl (fun Q9 => K_X12_readPart Q9 a0) (by omega) (by decide) (by decide) (Nat.le_of_ble_eq_true rfl) (fun x5 => ?_)
      refine tw_if_ne (k := 11) 27 rfl (by decide) ?_ ?_
      · refine tw_aload_n (k := 14) rfl rfl ?_
        refine tw_bipush (k := 15) (11 : Int32) rfl (by decide) ?_
        refine tw_iconst (k := 16) (0 : Int32) rfl (by decide) ?_
        refine tw_callV (k := 17) (d' := 1) (mc' := 0) (ms' := 0) tw_cU tw_cUi [.int (11 : Int32), .int (0 : Int32)] rfl rfl wv_RX12_178_X12_emits mo_X12_emits (t := 11) rfl rfl rfl (fun Q9 => K_X12_emits Q9 a0 (11 : Int32) (0 : Int32)) (by omega) (by decide) (by decide) (Nat.le_of_ble_eq_true rfl) (fun u6 => ?_)
        refine tw_goto (k := 18) 9 rfl (by decide) ?_
        exact h2 ()
      · refine tw_iconst (k := 12) (0 : Int32) rfl (by decide) ?_
        exact tw_zreturn (k := 13) rfl rfl (by decide) (by decide)
  · refine tw_iconst (k := 3) (0 : Int32) rfl (by decide) ?_
    exact tw_zreturn (k := 4) rfl rfl (by decide) (by decide)
def mX12_readTag : tw_MD := (yX12_readTag, cX12_readTag, 2, (some FieldType.boolean), [(0, .aload_n 0, 1, 1), (1, .invokevirtual 109, 3, 4), (4, .aload_n 0, 1, 5), (5, .ldc 131, 2, 7), (7, .invokevirtual 112, 3, 10), (10, .ifCond .eq 8, 3, 13), (13, .bipush 7, 2, 15), (15, .goto 32, 3, 18), (18, .aload_n 0, 1, 19), (19, .ldc 189, 2, 21), (21, .invokevirtual 112, 3, 24), (24, .ifCond .eq 8, 3, 27), (27, .bipush 8, 2, 29), (29, .goto 18, 3, 32), (32, .aload_n 0, 1, 33), (33, .ldc 191, 2, 35), (35, .invokevirtual 112, 3, 38), (38, .ifCond .eq 8, 3, 41), (41, .bipush 9, 2, 43), (43, .goto 4, 3, 46), (46, .iconst (-1), 1, 47), (47, .istore_n 1, 1, 48), (48, .iload_n 1, 1, 49), (49, .ifCond .lt 12, 3, 52), (52, .aload_n 0, 1, 53), (53, .iload_n 1, 1, 54), (54, .iconst 0, 1, 55), (55, .invokevirtual 178, 3, 58), (58, .goto 11, 3, 61), (61, .aload_n 0, 1, 62), (62, .aload_n 0, 1, 63), (63, .getfield 94, 3, 66), (66, .putfield 84, 3, 69), (69, .iload_n 1, 1, 70), (70, .ifCond .lt 7, 3, 73), (73, .iconst 1, 1, 74), (74, .goto 4, 3, 77), (77, .iconst 0, 1, 78), (78, .ireturn, 1, 79)], [])
theorem mo_X12_readTag : tw_mok mX12_readTag 0 := ⟨plainFor_of_name (by decide +kernel), by decide +kernel, by decide +kernel, by decide +kernel, by decide +kernel⟩
theorem dk_X12_readTag : tw_dk mX12_readTag := by unfold tw_dk; decide +kernel
theorem wf_X12_readTag_84 : tw_wf mX12_readTag 84 80 := Or.inl rfl
theorem ks_RX12_189 : Cond.stringRef RX12 189 "near" ∈ lw_tbl := List.mem_of_getElem? (i := 2011) (by decide +kernel)
theorem ks_RX12_191 : Cond.stringRef RX12 191 "rang" ∈ lw_tbl := List.mem_of_getElem? (i := 2012) (by decide +kernel)
set_option maxRecDepth 20000 in
theorem K_X12_readTag {g : tw_Gx} (Q : tw_Rs → tw_Mem → Prop) (a0 : Nat) : tw_Kt g mX12_readTag 6 0 0 [.ref a0] Q (f_X12_readTag g a0 (fun v => Q (.inl (some (.int v))))) := by
  refine tw_mkK (L := [some (.ref a0), none]) mo_X12_readTag dk_X12_readTag rfl (Nat.le_of_ble_eq_true rfl) rfl ?_
  unfold f_X12_readTag
  refine tw_aload_n (k := 0) rfl rfl ?_
  refine tw_callV (k := 1) (d' := 3) (mc' := 0) (ms' := 0) tw_cU tw_cUi [] rfl rfl wv_RX12_109_X12_letters mo_X12_letters (t := 11) rfl rfl rfl (fun Q9 => K_X12_letters Q9 a0) (by omega) (by decide) (by decide) (Nat.le_of_ble_eq_true rfl) (fun u1 => ?_)
  refine tw_aload_n (k := 2) rfl rfl ?_
  refine tw_ldcS (k := 3) rfl ks_RX12_131 (fun t2 => ?_)
  refine tw_callV (k := 4) (d' := 5) (mc' := 0) (ms' := 0) tw_cI tw_cIi [.ref t2] rfl rfl wv_RX12_112_X12_isWord mo_X12_isWord (t := 11) rfl rfl rfl (fun Q9 => K_X12_isWord Q9 a0 t2) (by omega) (by decide) (by decide) (Nat.le_of_ble_eq_true rfl) (fun x3 => ?_)
  refine tw_join 47 (fun s5 => [some (.ref a0), none]) (fun s5 => .int s5 :: []) 0 0 (fun s5 => ?_) (fun j4 g4 => ?_)
  · refine tw_ist_n (k := 21) [some (.ref a0), some (.int s5)] rfl (Nat.le_of_ble_eq_true rfl) rfl rfl ?_
    refine tw_iload_n (k := 22) rfl rfl ?_
    refine tw_join 69 (fun s7 => [some (.ref a0), some (.int s5)]) (fun s7 => []) 0 0 (fun s7 => ?_) (fun j6 g6 => ?_)
    · refine tw_iload_n (k := 33) rfl rfl ?_
      refine tw_if_lt (k := 34) 77 rfl (by decide) ?_ ?_
      · refine tw_iconst (k := 37) (0 : Int32) rfl (by decide) ?_
        exact tw_zreturn (k := 38) rfl rfl (by decide) (by decide)
      · refine tw_iconst (k := 35) (1 : Int32) rfl (by decide) ?_
        refine tw_goto (k := 36) 78 rfl (by decide) ?_
        exact tw_zreturn (k := 38) rfl rfl (by decide) (by decide)
    · refine tw_if_lt (k := 23) 61 rfl (by decide) ?_ ?_
      · refine tw_aload_n (k := 29) rfl rfl ?_
        refine tw_aload_n (k := 30) rfl rfl ?_
        refine tw_getI (k := 31) rfl fl_RX12_94 (fun x8 => ?_)
        refine tw_putI (k := 32) rfl fl_RX12_84 wf_X12_readTag_84 (by decide +kernel) ?_
        exact g6 ()
      · refine tw_aload_n (k := 24) rfl rfl ?_
        refine tw_iload_n (k := 25) rfl rfl ?_
        refine tw_iconst (k := 26) (0 : Int32) rfl (by decide) ?_
        refine tw_callV (k := 27) (d' := 1) (mc' := 0) (ms' := 0) tw_cU tw_cUi [.int s5, .int (0 : Int32)] rfl rfl wv_RX12_178_X12_emits mo_X12_emits (t := 11) rfl rfl rfl (fun Q9 => K_X12_emits Q9 a0 s5 (0 : Int32)) (by omega) (by decide) (by decide) (Nat.le_of_ble_eq_true rfl) (fun u9 => ?_)
        refine tw_goto (k := 28) 69 rfl (by decide) ?_
        exact g6 ()
  · refine tw_if_eq (k := 5) 18 rfl (by decide) ?_ ?_
    · refine tw_aload_n (k := 8) rfl rfl ?_
      refine tw_ldcS (k := 9) rfl ks_RX12_189 (fun t10 => ?_)
      refine tw_callV (k := 10) (d' := 5) (mc' := 0) (ms' := 0) tw_cI tw_cIi [.ref t10] rfl rfl wv_RX12_112_X12_isWord mo_X12_isWord (t := 11) rfl rfl rfl (fun Q9 => K_X12_isWord Q9 a0 t10) (by omega) (by decide) (by decide) (Nat.le_of_ble_eq_true rfl) (fun x11 => ?_)
      refine tw_if_eq (k := 11) 32 rfl (by decide) ?_ ?_
      · refine tw_aload_n (k := 14) rfl rfl ?_
        refine tw_ldcS (k := 15) rfl ks_RX12_191 (fun t12 => ?_)
        refine tw_callV (k := 16) (d' := 5) (mc' := 0) (ms' := 0) tw_cI tw_cIi [.ref t12] rfl rfl wv_RX12_112_X12_isWord mo_X12_isWord (t := 11) rfl rfl rfl (fun Q9 => K_X12_isWord Q9 a0 t12) (by omega) (by decide) (by decide) (Nat.le_of_ble_eq_true rfl) (fun x13 => ?_)
        refine tw_if_eq (k := 17) 46 rfl (by decide) ?_ ?_
        · refine tw_iconst (k := 20) (-1 : Int32) rfl (by decide) ?_
          exact g4 (-1 : Int32)
        · refine tw_bipush (k := 18) (9 : Int32) rfl (by decide) ?_
          refine tw_goto (k := 19) 47 rfl (by decide) ?_
          exact g4 (9 : Int32)
      · refine tw_bipush (k := 12) (8 : Int32) rfl (by decide) ?_
        refine tw_goto (k := 13) 47 rfl (by decide) ?_
        exact g4 (8 : Int32)
    · refine tw_bipush (k := 6) (7 : Int32) rfl (by decide) ?_
      refine tw_goto (k := 7) 47 rfl (by decide) ?_
      exact g4 (7 : Int32)
