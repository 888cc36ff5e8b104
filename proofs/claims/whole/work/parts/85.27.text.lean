def mX7_init : tw_MD := (yX7_init, cX7_init, 2, none, [(0, .aload_n 0, 1, 1), (1, .invokespecial 5, 3, 4), (4, .aload_n 0, 1, 5), (5, .sipush 401, 3, 8), (8, .newarray .int, 2, 10), (10, .putfield 13, 3, 13), (13, .aload_n 0, 1, 14), (14, .sipush 401, 3, 17), (17, .newarray .int, 2, 19), (19, .putfield 17, 3, 22), (22, .aload_n 0, 1, 23), (23, .sipush 401, 3, 26), (26, .newarray .int, 2, 28), (28, .putfield 20, 3, 31), (31, .aload_n 0, 1, 32), (32, .aload_n 1, 1, 33), (33, .putfield 23, 3, 36), (36, .return_, 1, 37)], [])
theorem mo_X7_init : tw_mok mX7_init 1 := ⟨plainFor_of_name (by decide +kernel), by decide +kernel, by decide +kernel, by decide +kernel, by decide +kernel⟩
theorem dk_X7_init : tw_dk mX7_init := by unfold tw_dk; decide +kernel
theorem km_RX7_5 : Cond.methodLink RX7 5 Lib.objectInit ∈ lw_tbl := List.mem_of_getElem? (i := 289) (by decide +kernel)
theorem fl_RX7_13 : tw_fl RX7 13 7 := Or.inl (List.mem_of_getElem? (i := 292) (by decide +kernel))
theorem fl_RX7_17 : tw_fl RX7 17 8 := Or.inl (List.mem_of_getElem? (i := 293) (by decide +kernel))
theorem fl_RX7_20 : tw_fl RX7 20 9 := Or.inl (List.mem_of_getElem? (i := 294) (by decide +kernel))
theorem fl_RX7_23 : tw_fl RX7 23 6 := Or.inl (List.mem_of_getElem? (i := 291) (by decide +kernel))
theorem wf_X7_init_23 : tw_wf mX7_init 23 6 := Or.inr ⟨by decide +kernel, by decide +kernel, List.mem_of_getElem? (i := 291) (by decide +kernel)⟩
theorem wf_X7_init_20 : tw_wf mX7_init 20 9 := Or.inr ⟨by decide +kernel, by decide +kernel, List.mem_of_getElem? (i := 294) (by decide +kernel)⟩
theorem wf_X7_init_17 : tw_wf mX7_init 17 8 := Or.inr ⟨by decide +kernel, by decide +kernel, List.mem_of_getElem? (i := 293) (by decide +kernel)⟩
theorem wf_X7_init_13 : tw_wf mX7_init 13 7 := Or.inr ⟨by decide +kernel, by decide +kernel, List.mem_of_getElem? (i := 292) (by decide +kernel)⟩
set_option maxRecDepth 20000 in
theorem K_X7_init {g : tw_Gx} (Q : tw_Rs → tw_Mem → Prop) (a0 : Nat) (a1 : Nat) : tw_Kt g mX7_init 1 3 1203 [.ref a0, .ref a1] Q (f_X7_init a0 a1 (fun v => Q (.inl none))) := by
  refine tw_mkK (L := [some (.ref a0), some (.ref a1)]) mo_X7_init dk_X7_init rfl (Nat.le_of_ble_eq_true rfl) rfl ?_
  unfold f_X7_init
  refine tw_aload_n (k := 0) rfl rfl ?_
  refine tw_objInit (k := 1) rfl km_RX7_5 koi koc (by omega) (Nat.le_of_ble_eq_true rfl) ?_
  refine tw_aload_n (k := 2) rfl rfl ?_
  refine tw_sipush (k := 3) (401 : Int32) rfl (by decide) ?_
  refine tw_newI (k := 4) 401 rfl ka_int (by decide) (by decide) (by decide) (fun b1 => ?_)
  refine tw_putR (k := 5) (ty := (.array .int)) rfl fl_RX7_13 wf_X7_init_13 (by decide +kernel) rfl rfl ?_
  refine tw_aload_n (k := 6) rfl rfl ?_
  refine tw_sipush (k := 7) (401 : Int32) rfl (by decide) ?_
  refine tw_newI (k := 8) 401 rfl ka_int (by decide) (by decide) (by decide) (fun b2 => ?_)
  refine tw_putR (k := 9) (ty := (.array .int)) rfl fl_RX7_17 wf_X7_init_17 (by decide +kernel) rfl rfl ?_
  refine tw_aload_n (k := 10) rfl rfl ?_
  refine tw_sipush (k := 11) (401 : Int32) rfl (by decide) ?_
  refine tw_newI (k := 12) 401 rfl ka_int (by decide) (by decide) (by decide) (fun b3 => ?_)
  refine tw_putR (k := 13) (ty := (.array .int)) rfl fl_RX7_20 wf_X7_init_20 (by decide +kernel) rfl rfl ?_
  refine tw_aload_n (k := 14) rfl rfl ?_
  refine tw_aload_n (k := 15) rfl rfl ?_
  refine tw_putR (k := 16) (ty := (.object "TwinRopes$Tape")) rfl fl_RX7_23 wf_X7_init_23 (by decide +kernel) rfl rfl ?_
  exact tw_return (k := 17) rfl rfl (by decide) (by decide)
def mX7_isAtEnd : tw_MD := (yX7_isAtEnd, cX7_isAtEnd, 1, (some FieldType.boolean), [(0, .aload_n 0, 1, 1), (1, .getfield 45, 3, 4), (4, .ifCond .lt 25, 3, 7), (7, .aload_n 0, 1, 8), (8, .getfield 45, 3, 11), (11, .sipush 401, 3, 14), (14, .if_icmp .ge 15, 3, 17), (17, .aload_n 0, 1, 18), (18, .getfield 13, 3, 21), (21, .aload_n 0, 1, 22), (22, .getfield 45, 3, 25), (25, .iaload, 1, 26), (26, .ifCond .ne 7, 3, 29), (29, .iconst 1, 1, 30), (30, .goto 4, 3, 33), (33, .iconst 0, 1, 34), (34, .ireturn, 1, 35)], [])
theorem mo_X7_isAtEnd : tw_mok mX7_isAtEnd 0 := ⟨plainFor_of_name (by decide +kernel), by decide +kernel, by decide +kernel, by decide +kernel, by decide +kernel⟩
theorem dk_X7_isAtEnd : tw_dk mX7_isAtEnd := by unfold tw_dk; decide +kernel
theorem fl_RX7_45 : tw_fl RX7 45 11 := Or.inl (List.mem_of_getElem? (i := 296) (by decide +kernel))
set_option maxRecDepth 20000 in
theorem K_X7_isAtEnd {g : tw_Gx} (Q : tw_Rs → tw_Mem → Prop) (a0 : Nat) : tw_Kt g mX7_isAtEnd 1 0 0 [.ref a0] Q (f_X7_isAtEnd a0 (fun v => Q (.inl (some (.int v))))) := by
  refine tw_mkK (L := [some (.ref a0)]) mo_X7_isAtEnd dk_X7_isAtEnd rfl (Nat.le_of_ble_eq_true rfl) rfl ?_
  unfold f_X7_isAtEnd
  refine tw_aload_n (k := 0) rfl rfl ?_
  refine tw_getI (k := 1) rfl fl_RX7_45 (fun x1 => ?_)
  refine tw_if_lt (k := 2) 29 rfl (by decide) ?_ ?_
  · refine tw_iconst (k := 13) (1 : Int32) rfl (by decide) ?_
    refine tw_goto (k := 14) 34 rfl (by decide) ?_
    exact tw_zreturn (k := 16) rfl rfl (by decide) (by decide)
  · refine tw_aload_n (k := 3) rfl rfl ?_
    refine tw_getI (k := 4) rfl fl_RX7_45 (fun x2 => ?_)
    refine tw_sipush (k := 5) (401 : Int32) rfl (by decide) ?_
    refine tw_icmp_ge (k := 6) 29 rfl (by decide) ?_ ?_
    · refine tw_iconst (k := 13) (1 : Int32) rfl (by decide) ?_
      refine tw_goto (k := 14) 34 rfl (by decide) ?_
      exact tw_zreturn (k := 16) rfl rfl (by decide) (by decide)
    · refine tw_aload_n (k := 7) rfl rfl ?_
      refine tw_getR (k := 8) rfl fl_RX7_13 (fun x3 => ?_)
      refine tw_aload_n (k := 9) rfl rfl ?_
      refine tw_getI (k := 10) rfl fl_RX7_45 (fun x4 => ?_)
      refine tw_iaload (k := 11) rfl (fun x5 => ?_)
      refine tw_if_ne (k := 12) 33 rfl (by decide) ?_ ?_
      · refine tw_iconst (k := 15) (0 : Int32) rfl (by decide) ?_
        exact tw_zreturn (k := 16) rfl rfl (by decide) (by decide)
      · refine tw_iconst (k := 13) (1 : Int32) rfl (by decide) ?_
        refine tw_goto (k := 14) 34 rfl (by decide) ?_
        exact tw_zreturn (k := 16) rfl rfl (by decide) (by decide)
def mX7_place : tw_MD := (yX7_place, cX7_place, 1, (some FieldType.int), [(0, .aload_n 0, 1, 1), (1, .getfield 45, 3, 4), (4, .ifCond .lt 25, 3, 7), (7, .aload_n 0, 1, 8), (8, .getfield 45, 3, 11), (11, .sipush 401, 3, 14), (14, .if_icmp .ge 15, 3, 17), (17, .aload_n 0, 1, 18), (18, .getfield 20, 3, 21), (21, .aload_n 0, 1, 22), (22, .getfield 45, 3, 25), (25, .iaload, 1, 26), (26, .goto 4, 3, 29), (29, .iconst (-1), 1, 30), (30, .ireturn, 1, 31)], [])
theorem mo_X7_place : tw_mok mX7_place 0 := ⟨plainFor_of_name (by decide +kernel), by decide +kernel, by decide +kernel, by decide +kernel, by decide +kernel⟩
theorem dk_X7_place : tw_dk mX7_place := by unfold tw_dk; decide +kernel
set_option maxRecDepth 20000 in
theorem K_X7_place {g : tw_Gx} (Q : tw_Rs → tw_Mem → Prop) (a0 : Nat) : tw_Kt g mX7_place 1 0 0 [.ref a0] Q (f_X7_place a0 (fun v => Q (.inl (some (.int v))))) := by
  refine tw_mkK (L := [some (.ref a0)]) mo_X7_place dk_X7_place rfl (Nat.le_of_ble_eq_true rfl) rfl ?_
  unfold f_X7_place
  refine tw_aload_n (k := 0) rfl rfl ?_
  refine tw_getI (k := 1) rfl fl_RX7_45 (fun x1 => ?_)
  refine tw_if_lt (k := 2) 29 rfl (by decide) ?_ ?_
  · refine tw_iconst (k := 13) (-1 : Int32) rfl (by decide) ?_
    exact tw_ireturn (k := 14) rfl rfl (by decide) (by decide)
  · refine tw_aload_n (k := 3) rfl rfl ?_
    refine tw_getI (k := 4) rfl fl_RX7_45 (fun x2 => ?_)
    refine tw_sipush (k := 5) (401 : Int32) rfl (by decide) ?_
    refine tw_icmp_ge (k := 6) 29 rfl (by decide) ?_ ?_
    · refine tw_iconst (k := 13) (-1 : Int32) rfl (by decide) ?_
      exact tw_ireturn (k := 14) rfl rfl (by decide) (by decide)
    · refine tw_aload_n (k := 7) rfl rfl ?_
      refine tw_getR (k := 8) rfl fl_RX7_20 (fun x3 => ?_)
      refine tw_aload_n (k := 9) rfl rfl ?_
      refine tw_getI (k := 10) rfl fl_RX7_45 (fun x4 => ?_)
      refine tw_iaload (k := 11) rfl (fun x5 => ?_)
      refine tw_goto (k := 12) 30 rfl (by decide) ?_
      exact tw_ireturn (k := 14) rfl rfl (by decide) (by decide)
def mX7_isNumber : tw_MD := (yX7_isNumber, cX7_isNumber, 2, (some FieldType.boolean), [(0, .aload_n 0, 1, 1), (1, .getfield 45, 3, 4), (4, .ifCond .lt 43, 3, 7), (7, .aload_n 0, 1, 8), (8, .getfield 45, 3, 11), (11, .sipush 401, 3, 14), (14, .if_icmp .ge 33, 3, 17), (17, .aload_n 0, 1, 18), (18, .getfield 13, 3, 21), (21, .aload_n 0, 1, 22), (22, .getfield 45, 3, 25), (25, .iaload, 1, 26), (26, .iconst 2, 1, 27), (27, .if_icmp .ne 20, 3, 30), (30, .aload_n 0, 1, 31), (31, .getfield 17, 3, 34), (34, .aload_n 0, 1, 35), (35, .getfield 45, 3, 38), (38, .iaload, 1, 39), (39, .iload_n 1, 1, 40), (40, .if_icmp .ne 7, 3, 43), (43, .iconst 1, 1, 44), (44, .goto 4, 3, 47), (47, .iconst 0, 1, 48), (48, .ireturn, 1, 49)], [])
theorem mo_X7_isNumber : tw_mok mX7_isNumber 1 := ⟨plainFor_of_name (by decide +kernel), by decide +kernel, by decide +kernel, by decide +kernel, by decide +kernel⟩
theorem dk_X7_isNumber : tw_dk mX7_isNumber := by unfold tw_dk; decide +kernel
set_option maxRecDepth 20000 in
theorem K_X7_isNumber {g : tw_Gx} (Q : tw_Rs → tw_Mem → Prop) (a0 : Nat) (a1 : Int32) : tw_Kt g mX7_isNumber 1 0 0 [.ref a0, .int a1] Q (f_X7_isNumber a0 a1 (fun v => Q (.inl (some (.int v))))) := by
  refine tw_mkK (L := [some (.ref a0), some (.int a1)]) mo_X7_isNumber dk_X7_isNumber rfl (Nat.le_of_ble_eq_true rfl) rfl ?_
  unfold f_X7_isNumber
  refine tw_aload_n (k := 0) rfl rfl ?_
  refine tw_getI (k := 1) rfl fl_RX7_45 (fun x1 => ?_)
  refine tw_if_lt (k := 2) 47 rfl (by decide) ?_ ?_
  · refine tw_iconst (k := 23) (0 : Int32) rfl (by decide) ?_
    exact tw_zreturn (k := 24) rfl rfl (by decide) (by decide)
  · refine tw_aload_n (k := 3) rfl rfl ?_
    refine tw_getI (k := 4) rfl fl_RX7_45 (fun x2 => ?_)
    refine tw_sipush (k := 5) (401 : Int32) rfl (by decide) ?_
    refine tw_icmp_ge (k := 6) 47 rfl (by decide) ?_ ?_
    · refine tw_iconst (k := 23) (0 : Int32) rfl (by decide) ?_
      exact tw_zreturn (k := 24) rfl rfl (by decide) (by decide)
    · refine tw_aload_n (k := 7) rfl rfl ?_
      refine tw_getR (k := 8) rfl fl_RX7_13 (fun x3 => ?_)
      refine tw_aload_n (k := 9) rfl rfl ?_
      refine tw_getI (k := 10) rfl fl_RX7_45 (fun x4 => ?_)
      refine tw_iaload (k := 11) rfl (fun x5 => ?_)
      refine tw_iconst (k := 12) (2 : Int32) rfl (by decide) ?_
      refine tw_icmp_ne (k := 13) 47 rfl (by decide) ?_ ?_
      · refine tw_iconst (k := 23) (0 : Int32) rfl (by decide) ?_
        exact tw_zreturn (k := 24) rfl rfl (by decide) (by decide)
      · refine tw_aload_n (k := 14) rfl rfl ?_
        refine tw_getR (k := 15) rfl fl_RX7_17 (fun x6 => ?_)
        refine tw_aload_n (k := 16) rfl rfl ?_
        refine tw_getI (k := 17) rfl fl_RX7_45 (fun x7 => ?_)
        refine tw_iaload (k := 18) rfl (fun x8 => ?_)
        refine tw_iload_n (k := 19) rfl rfl ?_
        refine tw_icmp_ne (k := 20) 47 rfl (by decide) ?_ ?_
        · refine tw_iconst (k := 23) (0 : Int32) rfl (by decide) ?_
          exact tw_zreturn (k := 24) rfl rfl (by decide) (by decide)
        · refine tw_iconst (k := 21) (1 : Int32) rfl (by decide) ?_
          refine tw_goto (k := 22) 48 rfl (by decide) ?_
          exact tw_zreturn (k := 24) rfl rfl (by decide) (by decide)
def mX7_lastTaken : tw_MD := (yX7_lastTaken, cX7_lastTaken, 1, (some FieldType.int), [(0, .aload_n 0, 1, 1), (1, .getfield 49, 3, 4), (4, .ireturn, 1, 5)], [])
theorem mo_X7_lastTaken : tw_mok mX7_lastTaken 0 := ⟨plainFor_of_name (by decide +kernel), by decide +kernel, by decide +kernel, by decide +kernel, by decide +kernel⟩
theorem dk_X7_lastTaken : tw_dk mX7_lastTaken := by unfold tw_dk; decide +kernel
theorem fl_RX7_49 : tw_fl RX7 49 12 := Or.inl (List.mem_of_getElem? (i := 297) (by decide +kernel))
set_option maxRecDepth 20000 in
theorem K_X7_lastTaken {g : tw_Gx} (Q : tw_Rs → tw_Mem → Prop) (a0 : Nat) : tw_Kt g mX7_lastTaken 1 0 0 [.ref a0] Q (f_X7_lastTaken a0 (fun v => Q (.inl (some (.int v))))) := by
  refine tw_mkK (L := [some (.ref a0)]) mo_X7_lastTaken dk_X7_lastTaken rfl (Nat.le_of_ble_eq_true rfl) rfl ?_
  unfold f_X7_lastTaken
  refine tw_aload_n (k := 0) rfl rfl ?_
  refine tw_getI (k := 1) rfl fl_RX7_49 (fun x1 => ?_)
  exact tw_ireturn (k := 2) rfl rfl (by decide) (by decide)
def mX7_takeNumber : tw_MD := (yX7_takeNumber, cX7_takeNumber, 3, (some FieldType.boolean), [(0, .aload_n 0, 1, 1), (1, .getfield 45, 3, 4), (4, .ifCond .lt 52, 3, 7), (7, .aload_n 0, 1, 8), (8, .getfield 45, 3, 11), (11, .sipush 401, 3, 14), (14, .if_icmp .ge 42, 3, 17), (17, .aload_n 0, 1, 18), (18, .getfield 13, 3, 21), (21, .aload_n 0, 1, 22), (22, .getfield 45, 3, 25), (25, .iaload, 1, 26), (26, .iconst 2, 1, 27), (27, .if_icmp .ne 29, 3, 30), (30, .aload_n 0, 1, 31), (31, .getfield 17, 3, 34), (34, .aload_n 0, 1, 35), (35, .getfield 45, 3, 38), (38, .iaload, 1, 39), (39, .iload_n 1, 1, 40), (40, .if_icmp .lt 16, 3, 43), (43, .aload_n 0, 1, 44), (44, .getfield 17, 3, 47), (47, .aload_n 0, 1, 48), (48, .getfield 45, 3, 51), (51, .iaload, 1, 52), (52, .iload_n 2, 1, 53), (53, .if_icmp .le 5, 3, 56), (56, .iconst 0, 1, 57), (57, .ireturn, 1, 58), (58, .aload_n 0, 1, 59), (59, .aload_n 0, 1, 60), (60, .getfield 17, 3, 63), (63, .aload_n 0, 1, 64), (64, .getfield 45, 3, 67), (67, .iaload, 1, 68), (68, .putfield 49, 3, 71), (71, .aload_n 0, 1, 72), (72, .dup, 1, 73), (73, .getfield 45, 3, 76), (76, .iconst 1, 1, 77), (77, .iadd, 1, 78), (78, .putfield 45, 3, 81), (81, .iconst 1, 1, 82), (82, .ireturn, 1, 83)], [])
theorem mo_X7_takeNumber : tw_mok mX7_takeNumber 2 := ⟨plainFor_of_name (by decide +kernel), by decide +kernel, by decide +kernel, by decide +kernel, by decide +kernel⟩
theorem dk_X7_takeNumber : tw_dk mX7_takeNumber := by unfold tw_dk; decide +kernel
theorem wf_X7_takeNumber_45 : tw_wf mX7_takeNumber 45 11 := Or.inl rfl
theorem wf_X7_takeNumber_49 : tw_wf mX7_takeNumber 49 12 := Or.inl rfl
set_option maxRecDepth 20000 in
theorem K_X7_takeNumber {g : tw_Gx} (Q : tw_Rs → tw_Mem → Prop) (a0 : Nat) (a1 : Int32) (a2 : Int32) : tw_Kt g mX7_takeNumber 1 0 0 [.ref a0, .int a1, .int a2] Q (f_X7_takeNumber a0 a1 a2 (fun v => Q (.inl (some (.int v))))) := by
  refine tw_mkK (L := [some (.ref a0), some (.int a1), some (.int a2)]) mo_X7_takeNumber dk_X7_takeNumber rfl (Nat.le_of_ble_eq_true rfl) rfl ?_
  unfold f_X7_takeNumber
  refine tw_aload_n (k := 0) rfl rfl ?_
  refine tw_getI (k := 1) rfl fl_RX7_45 (fun x1 => ?_)
  refine tw_if_lt (k := 2) 56 rfl (by decide) ?_ ?_
  · refine tw_iconst (k := 28) (0 : Int32) rfl (by decide) ?_
    exact tw_zreturn (k := 29) rfl rfl (by decide) (by decide)
  · refine tw_aload_n (k := 3) rfl rfl ?_
    refine tw_getI (k := 4) rfl fl_RX7_45 (fun x2 => ?_)
    refine tw_sipush (k := 5) (401 : Int32) rfl (by decide) ?_
    refine tw_icmp_ge (k := 6) 56 rfl (by decide) ?_ ?_
    · refine tw_iconst (k := 28) (0 : Int32) rfl (by decide) ?_
      exact tw_zreturn (k := 29) rfl rfl (by decide) (by decide)
    · refine tw_aload_n (k := 7) rfl rfl ?_
      refine tw_getR (k := 8) rfl fl_RX7_13 (fun x3 => ?_)
      refine tw_aload_n (k := 9) rfl rfl ?_
      refine tw_getI (k := 10) rfl fl_RX7_45 (fun x4 => ?_)
      refine tw_iaload (k := 11) rfl (fun x5 => ?_)
      refine tw_iconst (k := 12) (2 : Int32) rfl (by decide) ?_
      refine tw_icmp_ne (k := 13) 56 rfl (by decide) ?_ ?_
      · refine tw_iconst (k := 28) (0 : Int32) rfl (by decide) ?_
        exact tw_zreturn (k := 29) rfl rfl (by decide) (by decide)
      · refine tw_aload_n (k := 14) rfl rfl ?_
        refine tw_getR (k := 15) rfl fl_RX7_17 (fun x6 => ?_)
        refine tw_aload_n (k := 16) rfl rfl ?_
        refine tw_getI (k := 17) rfl fl_RX7_45 (fun x7 => ?_)
        refine tw_iaload (k := 18) rfl (fun x8 => ?_)
        refine tw_iload_n (k := 19) rfl rfl ?_
        refine tw_icmp_lt (k := 20) 56 rfl (by decide) ?_ ?_
        · refine tw_iconst (k := 28) (0 : Int32) rfl (by decide) ?_
          exact tw_zreturn (k := 29) rfl rfl (by decide) (by decide)
        · refine tw_aload_n (k := 21) rfl rfl ?_
          refine tw_getR (k := 22) rfl fl_RX7_17 (fun x9 => ?_)
          refine tw_aload_n (k := 23) rfl rfl ?_
          refine tw_getI (k := 24) rfl fl_RX7_45 (fun x10 => ?_)
          refine tw_iaload (k := 25) rfl (fun x11 => ?_)
          refine tw_iload_n (k := 26) rfl rfl ?_
          refine tw_icmp_le (k := 27) 58 rfl (by decide) ?_ ?_
          · refine tw_aload_n (k := 30) rfl rfl ?_
            refine tw_aload_n (k := 31) rfl rfl ?_
            refine tw_getR (k := 32) rfl fl_RX7_17 (fun x12 => ?_)
            refine tw_aload_n (k := 33) rfl rfl ?_
            refine tw_getI (k := 34) rfl fl_RX7_45 (fun x13 => ?_)
            refine tw_iaload (k := 35) rfl (fun x14 => ?_)
            refine tw_putI (k := 36) rfl fl_RX7_49 wf_X7_takeNumber_49 (by decide +kernel) ?_
            refine tw_aload_n (k := 37) rfl rfl ?_
            refine tw_dup (k := 38) rfl rfl ?_
            refine tw_getI (k := 39) rfl fl_RX7_45 (fun x15 => ?_)
            refine tw_iconst (k := 40) (1 : Int32) rfl (by decide) ?_
            refine tw_iadd (k := 41) rfl ?_
            refine tw_putI (k := 42) rfl fl_RX7_45 wf_X7_takeNumber_45 (by decide +kernel) ?_
            refine tw_iconst (k := 43) (1 : Int32) rfl (by decide) ?_
            exact tw_zreturn (k := 44) rfl rfl (by decide) (by decide)
          · refine tw_iconst (k := 28) (0 : Int32) rfl (by decide) ?_
            exact tw_zreturn (k := 29) rfl rfl (by decide) (by decide)
def mX7_takeSign : tw_MD := (yX7_takeSign, cX7_takeSign, 2, (some FieldType.boolean), [(0, .aload_n 0, 1, 1), (1, .getfield 45, 3, 4), (4, .ifCond .lt 39, 3, 7), (7, .aload_n 0, 1, 8), (8, .getfield 45, 3, 11), (11, .sipush 401, 3, 14), (14, .if_icmp .ge 29, 3, 17), (17, .aload_n 0, 1, 18), (18, .getfield 13, 3, 21), (21, .aload_n 0, 1, 22), (22, .getfield 45, 3, 25), (25, .iaload, 1, 26), (26, .iconst 3, 1, 27), (27, .if_icmp .ne 16, 3, 30), (30, .aload_n 0, 1, 31), (31, .getfield 17, 3, 34), (34, .aload_n 0, 1, 35), (35, .getfield 45, 3, 38), (38, .iaload, 1, 39), (39, .iload_n 1, 1, 40), (40, .if_icmp .eq 5, 3, 43), (43, .iconst 0, 1, 44), (44, .ireturn, 1, 45), (45, .aload_n 0, 1, 46), (46, .dup, 1, 47), (47, .getfield 45, 3, 50), (50, .iconst 1, 1, 51), (51, .iadd, 1, 52), (52, .putfield 45, 3, 55), (55, .iconst 1, 1, 56), (56, .ireturn, 1, 57)], [])
theorem mo_X7_takeSign : tw_mok mX7_takeSign 1 := ⟨plainFor_of_name (by decide +kernel), by decide +kernel, by decide +kernel, by decide +kernel, by decide +kernel⟩
theorem dk_X7_takeSign : tw_dk mX7_takeSign := by unfold tw_dk; decide +kernel
theorem wf_X7_takeSign_45 : tw_wf mX7_takeSign 45 11 := Or.inl rfl
set_option maxRecDepth 20000 in
theorem K_X7_takeSign {g : tw_Gx} (Q : tw_Rs → tw_Mem → Prop) (a0 : Nat) (a1 : Int32) : tw_Kt g mX7_takeSign 1 0 0 [.ref a0, .int a1] Q (f_X7_takeSign a0 a1 (fun v => Q (.inl (some (.int v))))) := by
  refine tw_mkK (L := [some (.ref a0), some (.int a1)]) mo_X7_takeSign dk_X7_takeSign rfl (Nat.le_of_ble_eq_true rfl) rfl ?_
  unfold f_X7_takeSign
  refine tw_aload_n (k := 0) rfl rfl ?_
  refine tw_getI (k := 1) rfl fl_RX7_45 (fun x1 => ?_)
  refine tw_if_lt (k := 2) 43 rfl (by decide) ?_ ?_
  · refine tw_iconst (k := 21) (0 : Int32) rfl (by decide) ?_
    exact tw_zreturn (k := 22) rfl rfl (by decide) (by decide)
  · refine tw_aload_n (k := 3) rfl rfl ?_
    refine tw_getI (k := 4) rfl fl_RX7_45 (fun x2 => ?_)
    refine tw_sipush (k := 5) (401 : Int32) rfl (by decide) ?_
    refine tw_icmp_ge (k := 6) 43 rfl (by decide) ?_ ?_
    · refine tw_iconst (k := 21) (0 : Int32) rfl (by decide) ?_
      exact tw_zreturn (k := 22) rfl rfl (by decide) (by decide)
    · refine tw_aload_n (k := 7) rfl rfl ?_
      refine tw_getR (k := 8) rfl fl_RX7_13 (fun x3 => ?_)
      refine tw_aload_n (k := 9) rfl rfl ?_
      refine tw_getI (k := 10) rfl fl_RX7_45 (fun x4 => ?_)
      refine tw_iaload (k := 11) rfl (fun x5 => ?_)
      refine tw_iconst (k := 12) (3 : Int32) rfl (by decide) ?_
      refine tw_icmp_ne (k := 13) 43 rfl (by decide) ?_ ?_
      · refine tw_iconst (k := 21) (0 : Int32) rfl (by decide) ?_
        exact tw_zreturn (k := 22) rfl rfl (by decide) (by decide)
      · refine tw_aload_n (k := 14) rfl rfl ?_
        refine tw_getR (k := 15) rfl fl_RX7_17 (fun x6 => ?_)
        refine tw_aload_n (k := 16) rfl rfl ?_
        refine tw_getI (k := 17) rfl fl_RX7_45 (fun x7 => ?_)
        refine tw_iaload (k := 18) rfl (fun x8 => ?_)
        refine tw_iload_n (k := 19) rfl rfl ?_
        refine tw_icmp_eq (k := 20) 45 rfl (by decide) ?_ ?_
        · refine tw_aload_n (k := 23) rfl rfl ?_
          refine tw_dup (k := 24) rfl rfl ?_
          refine tw_getI (k := 25) rfl fl_RX7_45 (fun x9 => ?_)
          refine tw_iconst (k := 26) (1 : Int32) rfl (by decide) ?_
          refine tw_iadd (k := 27) rfl ?_
          refine tw_putI (k := 28) rfl fl_RX7_45 wf_X7_takeSign_45 (by decide +kernel) ?_
          refine tw_iconst (k := 29) (1 : Int32) rfl (by decide) ?_
          exact tw_zreturn (k := 30) rfl rfl (by decide) (by decide)
        · refine tw_iconst (k := 21) (0 : Int32) rfl (by decide) ?_
          exact tw_zreturn (k := 22) rfl rfl (by decide) (by decide)
def mX7_takeWord : tw_MD := (yX7_takeWord, cX7_takeWord, 4, (some FieldType.boolean), [(0, .iconst 0, 1, 1), (1, .istore_n 2, 1, 2), (2, .iconst 0, 1, 3), (3, .istore_n 3, 1, 4), (4, .iload_n 3, 1, 5), (5, .aload_n 1, 1, 6), (6, .invokevirtual 52, 3, 9), (9, .if_icmp .ge 24, 3, 12), (12, .iload_n 2, 1, 13), (13, .iconst 5, 1, 14), (14, .ishl, 1, 15), (15, .aload_n 1, 1, 16), (16, .iload_n 3, 1, 17), (17, .invokevirtual 57, 3, 20), (20, .bipush 97, 2, 22), (22, .isub, 1, 23), (23, .iconst 1, 1, 24), (24, .iadd, 1, 25), (25, .ior, 1, 26), (26, .istore_n 2, 1, 27), (27, .iinc 3 1, 3, 30), (30, .goto (-26), 3, 33), (33, .aload_n 0, 1, 34), (34, .getfield 45, 3, 37), (37, .ifCond .lt 39, 3, 40), (40, .aload_n 0, 1, 41), (41, .getfield 45, 3, 44), (44, .sipush 401, 3, 47), (47, .if_icmp .ge 29, 3, 50), (50, .aload_n 0, 1, 51), (51, .getfield 13, 3, 54), (54, .aload_n 0, 1, 55), (55, .getfield 45, 3, 58), (58, .iaload, 1, 59), (59, .iconst 1, 1, 60), (60, .if_icmp .ne 16, 3, 63), (63, .aload_n 0, 1, 64), (64, .getfield 17, 3, 67), (67, .aload_n 0, 1, 68), (68, .getfield 45, 3, 71), (71, .iaload, 1, 72), (72, .iload_n 2, 1, 73), (73, .if_icmp .eq 5, 3, 76), (76, .iconst 0, 1, 77), (77, .ireturn, 1, 78), (78, .aload_n 0, 1, 79), (79, .dup, 1, 80), (80, .getfield 45, 3, 83), (83, .iconst 1, 1, 84), (84, .iadd, 1, 85), (85, .putfield 45, 3, 88), (88, .iconst 1, 1, 89), (89, .ireturn, 1, 90)], [])
theorem mo_X7_takeWord : tw_mok mX7_takeWord 1 := ⟨plainFor_of_name (by decide +kernel), by decide +kernel, by decide +kernel, by decide +kernel, by decide +kernel⟩
theorem dk_X7_takeWord : tw_dk mX7_takeWord := by unfold tw_dk; decide +kernel
theorem wf_X7_takeWord_45 : tw_wf mX7_takeWord 45 11 := Or.inl rfl
theorem wj_RX7_57_J0_charAt_5068e : tw_wV RX7 57 mJ0_charAt_5068e := ⟨List.mem_of_getElem? (i := 945) (by decide +kernel), List.mem_of_getElem? (i := 946) (by decide +kernel), List.mem_of_getElem? (i := 947) (by decide +kernel), List.mem_of_getElem? (i := 139) (by decide +kernel), List.mem_of_getElem? (i := 948) (by decide +kernel)⟩
theorem wj_RX7_52_J0_length_8abf5 : tw_wV RX7 52 mJ0_length_8abf5 := ⟨List.mem_of_getElem? (i := 935) (by decide +kernel), List.mem_of_getElem? (i := 936) (by decide +kernel), List.mem_of_getElem? (i := 937) (by decide +kernel), List.mem_of_getElem? (i := 139) (by decide +kernel), List.mem_of_getElem? (i := 938) (by decide +kernel)⟩
set_option maxRecDepth 20000 in
theorem K_X7_takeWord {g : tw_Gx} (Q : tw_Rs → tw_Mem → Prop) (a0 : Nat) (a1 : Nat) : tw_Kt g mX7_takeWord 5 0 0 [.ref a0, .ref a1] Q (f_X7_takeWord a0 a1 (fun v => Q (.inl (some (.int v))))) := by
  refine tw_mkK (L := [some (.ref a0), some (.ref a1), none, none]) mo_X7_takeWord dk_X7_takeWord rfl (Nat.le_of_ble_eq_true rfl) rfl ?_
  unfold f_X7_takeWord
  refine tw_iconst (k := 0) (0 : Int32) rfl (by decide) ?_
  refine tw_ist_n (k := 1) [some (.ref a0), some (.ref a1), some (.int (0 : Int32)), none] rfl (Nat.le_of_ble_eq_true rfl) rfl rfl ?_
  refine tw_iconst (k := 2) (0 : Int32) rfl (by decide) ?_
  refine tw_ist_n (k := 3) [some (.ref a0), some (.ref a1), some (.int (0 : Int32)), some (.int (0 : Int32))] rfl (Nat.le_of_ble_eq_true rfl) rfl rfl ?_
  refine tw_loop (fun s2 => [some (.ref a0), some (.ref a1), some (.int s2.1), some (.int s2.2)]) (fun s2 => []) (fun r1 h1 s2 => ?_) _ rfl rfl
  refine tw_iload_n (k := 4) rfl rfl ?_
  refine tw_aload_n (k := 5) rfl rfl ?_
  refine tw_callJ (k := 6) (d' := 2) (mc' := 0) (ms' := 0) tw_cI tw_cIi [] rfl rfl wj_RX7_52_J0_length_8abf5 mo_J0_length_8abf5 rfl rfl (fun Q9 => K_J0_length_8abf5 Q9 a1) (by omega) (by decide) (by decide) (Nat.le_of_ble_eq_true rfl) (fun x3 => ?_)
  refine tw_icmp_ge (k := 7) 33 rfl (by decide) ?_ ?_
  · refine tw_aload_n (k := 22) rfl rfl ?_
    refine tw_getI (k := 23) rfl fl_RX7_45 (fun x4 => ?_)
    refine tw_if_lt (k := 24) 76 rfl (by decide) ?_ ?_
    · refine tw_iconst (k := 43) (0 : Int32) rfl (by decide) ?_
      exact tw_zreturn (k := 44) rfl rfl (by decide) (by decide)
    · refine tw_aload_n (k := 25) rfl rfl ?_
      refine tw_getI (k := 26) rfl fl_RX7_45 (fun x5 => ?_)
      refine tw_sipush (k := 27) (401 : Int32) rfl (by decide) ?_
      refine tw_icmp_ge (k := 28) 76 rfl (by decide) ?_ ?_
      · refine tw_iconst (k := 43) (0 : Int32) rfl (by decide) ?_
        exact tw_zreturn (k := 44) rfl rfl (by decide) (by decide)
      · refine tw_aload_n (k := 29) rfl rfl ?_
        refine tw_getR (k := 30) rfl fl_RX7_13 (fun x6 => ?_)
        refine tw_aload_n (k := 31) rfl rfl ?_
        refine tw_getI (k := 32) rfl fl_RX7_45 (fun x7 => ?_)
        refine tw_iaload (k := 33) rfl (fun x8 => ?_)
        refine tw_iconst (k := 34) (1 : Int32) rfl (by decide) ?_
        refine tw_icmp_ne (k := 35) 76 rfl (by decide) ?_ ?_
        · refine tw_iconst (k := 43) (0 : Int32) rfl (by decide) ?_
          exact tw_zreturn (k := 44) rfl rfl (by decide) (by decide)
        · refine tw_aload_n (k := 36) rfl rfl ?_
          refine tw_getR (k := 37) rfl fl_RX7_17 (fun x9 => ?_)
          refine tw_aload_n (k := 38) rfl rfl ?_
          refine tw_getI (k := 39) rfl fl_RX7_45 (fun x10 => ?_)
          refine tw_iaload (k := 40) rfl (fun x11 => ?_)
          refine tw_iload_n (k := 41) rfl rfl ?_
          refine tw_icmp_eq (k := 42) 78 rfl (by decide) ?_ ?_
          · refine tw_aload_n (k := 45) rfl rfl ?_
            refine tw_dup (k := 46) rfl rfl ?_
            refine tw_getI (k := 47) rfl fl_RX7_45 (fun x12 => ?_)
            refine tw_iconst (k := 48) (1 : Int32) rfl (by decide) ?_
            refine tw_iadd (k := 49) rfl ?_
            refine tw_putI (k := 50) rfl fl_RX7_45 wf_X7_takeWord_45 (by decide +kernel) ?_
            refine tw_iconst (k := 51) (1 : Int32) rfl (by decide) ?_
            exact tw_zreturn (k := 52) rfl rfl (by decide) (by decide)
          · refine tw_iconst (k := 43) (0 : Int32) rfl (by decide) ?_
            exact tw_zreturn (k := 44) rfl rfl (by decide) (by decide)
  · refine tw_iload_n (k := 8) rfl rfl ?_
    refine tw_iconst (k := 9) (5 : Int32) rfl (by decide) ?_
    refine tw_ishl (k := 10) rfl ?_
    refine tw_aload_n (k := 11) rfl rfl ?_
    refine tw_iload_n (k := 12) rfl rfl ?_
    refine tw_callJ (k := 13) (d' := 4) (mc' := 0) (ms' := 0) tw_cI tw_cIi [.int s2.2] rfl rfl wj_RX7_57_J0_charAt_5068e mo_J0_charAt_5068e rfl rfl (fun Q9 => K_J0_charAt_5068e Q9 a1 s2.2) (by omega) (by decide) (by decide) (Nat.le_of_ble_eq_true rfl) (fun x13 => ?_)
    refine tw_bipush (k := 14) (97 : Int32) rfl (by decide) ?_
    refine tw_isub (k := 15) rfl ?_
    refine tw_iconst (k := 16) (1 : Int32) rfl (by decide) ?_
    refine tw_iadd (k := 17) rfl ?_
    refine tw_ior (k := 18) rfl ?_
    refine tw_let (fun x14 => [some (.ref a0), some (.ref a1), some (.int s2.1), some (.int s2.2)]) (fun x14 => .int x14 :: []) rfl rfl (fun x14 => ?_)
    refine tw_ist_n (k := 19) [some (.ref a0), some (.ref a1), some (.int x14), some (.int s2.2)] rfl (Nat.le_of_ble_eq_true rfl) rfl rfl ?_
    refine tw_inc (k := 20) (1 : Int32) [some (.ref a0), some (.ref a1), some (.int x14), some (.int (s2.2 + (1 : Int32)))] rfl rfl (by decide) (Nat.le_of_ble_eq_true rfl) rfl rfl ?_
    refine tw_goto (k := 21) 4 rfl (by decide) ?_
    exact h1 (x14, s2.2 + (1 : Int32))
def mX7_isLetter : tw_MD := (yX7_isLetter, cX7_isLetter, 1, (some FieldType.boolean), [(0, .iload_n 0, 1, 1), (1, .bipush 97, 2, 3), (3, .if_icmp .lt 13, 3, 6), (6, .iload_n 0, 1, 7), (7, .bipush 122, 2, 9), (9, .if_icmp .gt 7, 3, 12), (12, .iconst 1, 1, 13), (13, .goto 4, 3, 16), (16, .iconst 0, 1, 17), (17, .ireturn, 1, 18)], [])
theorem mo_X7_isLetter : tw_mok mX7_isLetter 1 := ⟨plainFor_of_name (by decide +kernel), by decide +kernel, by decide +kernel, by decide +kernel, by decide +kernel⟩
theorem dk_X7_isLetter : tw_dk mX7_isLetter := by unfold tw_dk; decide +kernel
set_option maxRecDepth 20000 in
theorem K_X7_isLetter {g : tw_Gx} (Q : tw_Rs → tw_Mem → Prop) (a0 : Int32) : tw_Kt g mX7_isLetter 1 0 0 [.int a0] Q (f_X7_isLetter a0 (fun v => Q (.inl (some (.int v))))) := by
  refine tw_mkK (L := [some (.int a0)]) mo_X7_isLetter dk_X7_isLetter rfl (Nat.le_of_ble_eq_true rfl) rfl ?_
  unfold f_X7_isLetter
  refine tw_iload_n (k := 0) rfl rfl ?_
  refine tw_bipush (k := 1) (97 : Int32) rfl (by decide) ?_
  refine tw_icmp_lt (k := 2) 16 rfl (by decide) ?_ ?_
  · refine tw_iconst (k := 8) (0 : Int32) rfl (by decide) ?_
    exact tw_zreturn (k := 9) rfl rfl (by decide) (by decide)
  · refine tw_iload_n (k := 3) rfl rfl ?_
    refine tw_bipush (k := 4) (122 : Int32) rfl (by decide) ?_
    refine tw_icmp_gt (k := 5) 16 rfl (by decide) ?_ ?_
    · refine tw_iconst (k := 8) (0 : Int32) rfl (by decide) ?_
      exact tw_zreturn (k := 9) rfl rfl (by decide) (by decide)
    · refine tw_iconst (k := 6) (1 : Int32) rfl (by decide) ?_
      refine tw_goto (k := 7) 17 rfl (by decide) ?_
      exact tw_zreturn (k := 9) rfl rfl (by decide) (by decide)
def mX7_add : tw_MD := (yX7_add, cX7_add, 4, none, [(0, .aload_n 0, 1, 1), (1, .getfield 61, 3, 4), (4, .ifCond .lt 53, 3, 7), (7, .aload_n 0, 1, 8), (8, .getfield 61, 3, 11), (11, .sipush 401, 3, 14), (14, .if_icmp .ge 43, 3, 17), (17, .aload_n 0, 1, 18), (18, .getfield 13, 3, 21), (21, .aload_n 0, 1, 22), (22, .getfield 61, 3, 25), (25, .iload_n 1, 1, 26), (26, .iastore, 1, 27), (27, .aload_n 0, 1, 28), (28, .getfield 17, 3, 31), (31, .aload_n 0, 1, 32), (32, .getfield 61, 3, 35), (35, .iload_n 2, 1, 36), (36, .iastore, 1, 37), (37, .aload_n 0, 1, 38), (38, .getfield 20, 3, 41), (41, .aload_n 0, 1, 42), (42, .getfield 61, 3, 45), (45, .iload_n 3, 1, 46), (46, .iastore, 1, 47), (47, .aload_n 0, 1, 48), (48, .dup, 1, 49), (49, .getfield 61, 3, 52), (52, .iconst 1, 1, 53), (53, .iadd, 1, 54), (54, .putfield 61, 3, 57), (57, .return_, 1, 58)], [])
theorem mo_X7_add : tw_mok mX7_add 3 := ⟨plainFor_of_name (by decide +kernel), by decide +kernel, by decide +kernel, by decide +kernel, by decide +kernel⟩
theorem dk_X7_add : tw_dk mX7_add := by unfold tw_dk; decide +kernel
theorem fl_RX7_61 : tw_fl RX7 61 10 := Or.inl (List.mem_of_getElem? (i := 295) (by decide +kernel))
theorem wf_X7_add_61 : tw_wf mX7_add 61 10 := Or.inl rfl
set_option maxRecDepth 20000 in
theorem K_X7_add {g : tw_Gx} (Q : tw_Rs → tw_Mem → Prop) (a0 : Nat) (a1 : Int32) (a2 : Int32) (a3 : Int32) : tw_Kt g mX7_add 1 0 0 [.ref a0, .int a1, .int a2, .int a3] Q (f_X7_add a0 a1 a2 a3 (fun v => Q (.inl none))) := by
  refine tw_mkK (L := [some (.ref a0), some (.int a1), some (.int a2), some (.int a3)]) mo_X7_add dk_X7_add rfl (Nat.le_of_ble_eq_true rfl) rfl ?_
  unfold f_X7_add
  refine tw_aload_n (k := 0) rfl rfl ?_
  refine tw_getI (k := 1) rfl fl_RX7_61 (fun x1 => ?_)
  refine tw_if_lt (k := 2) 57 rfl (by decide) ?_ ?_
  · exact tw_return (k := 31) rfl rfl (by decide) (by decide)
  · refine tw_aload_n (k := 3) rfl rfl ?_
    refine tw_getI (k := 4) rfl fl_RX7_61 (fun x2 => ?_)
    refine tw_sipush (k := 5) (401 : Int32) rfl (by decide) ?_
    refine tw_icmp_ge (k := 6) 57 rfl (by decide) ?_ ?_
    · exact tw_return (k := 31) rfl rfl (by decide) (by decide)
    · refine tw_aload_n (k := 7) rfl rfl ?_
      refine tw_getR (k := 8) rfl fl_RX7_13 (fun x3 => ?_)
      refine tw_aload_n (k := 9) rfl rfl ?_
      refine tw_getI (k := 10) rfl fl_RX7_61 (fun x4 => ?_)
      refine tw_iload_n (k := 11) rfl rfl ?_
      refine tw_iastore (k := 12) rfl ?_
      refine tw_aload_n (k := 13) rfl rfl ?_
      refine tw_getR (k := 14) rfl fl_RX7_17 (fun x5 => ?_)
      refine tw_aload_n (k := 15) rfl rfl ?_
      refine tw_getI (k := 16) rfl fl_RX7_61 (fun x6 => ?_)
      refine tw_iload_n (k := 17) rfl rfl ?_
      refine tw_iastore (k := 18) rfl ?_
      refine tw_aload_n (k := 19) rfl rfl ?_
      refine tw_getR (k := 20) rfl fl_RX7_20 (fun x7 => ?_)
      refine tw_aload_n (k := 21) rfl rfl ?_
      refine tw_getI (k := 22) rfl fl_RX7_61 (fun x8 => ?_)
      refine tw_iload_n (k := 23) rfl rfl ?_
      refine tw_iastore (k := 24) rfl ?_
      refine tw_aload_n (k := 25) rfl rfl ?_
      refine tw_dup (k := 26) rfl rfl ?_
      refine tw_getI (k := 27) rfl fl_RX7_61 (fun x9 => ?_)
      refine tw_iconst (k := 28) (1 : Int32) rfl (by decide) ?_
      refine tw_iadd (k := 29) rfl ?_
      refine tw_putI (k := 30) rfl fl_RX7_61 wf_X7_add_61 (by decide +kernel) ?_
      exact tw_return (k := 31) rfl rfl (by decide) (by decide)
def mX7_addWord : tw_MD := (yX7_addWord, cX7_addWord, 4, (some FieldType.int), [(0, .iconst 0, 1, 1), (1, .istore_n 2, 1, 2), (2, .iload_n 1, 1, 3), (3, .istore_n 3, 1, 4), (4, .iload_n 3, 1, 5), (5, .aload_n 0, 1, 6), (6, .getfield 23, 3, 9), (9, .invokevirtual 64, 3, 12), (12, .if_icmp .ge 53, 3, 15), (15, .aload_n 0, 1, 16), (16, .getfield 23, 3, 19), (19, .iload_n 3, 1, 20), (20, .invokevirtual 67, 3, 23), (23, .invokestatic 78, 3, 26), (26, .ifCond .eq 39, 3, 29), (29, .iload_n 3, 1, 30), (30, .iload_n 1, 1, 31), (31, .isub, 1, 32), (32, .bipush 6, 2, 34), (34, .if_icmp .ge 23, 3, 37), (37, .iload_n 2, 1, 38), (38, .iconst 5, 1, 39), (39, .ishl, 1, 40), (40, .aload_n 0, 1, 41), (41, .getfield 23, 3, 44), (44, .iload_n 3, 1, 45), (45, .invokevirtual 67, 3, 48), (48, .bipush 97, 2, 50), (50, .isub, 1, 51), (51, .iconst 1, 1, 52), (52, .iadd, 1, 53), (53, .ior, 1, 54), (54, .goto 4, 3, 57), (57, .iconst 0, 1, 58), (58, .istore_n 2, 1, 59), (59, .iinc 3 1, 3, 62), (62, .goto (-58), 3, 65), (65, .aload_n 0, 1, 66), (66, .iconst 1, 1, 67), (67, .iload_n 2, 1, 68), (68, .iload_n 1, 1, 69), (69, .invokevirtual 74, 3, 72), (72, .iload_n 3, 1, 73), (73, .ireturn, 1, 74)], [])
theorem mo_X7_addWord : tw_mok mX7_addWord 1 := ⟨plainFor_of_name (by decide +kernel), by decide +kernel, by decide +kernel, by decide +kernel, by decide +kernel⟩
theorem dk_X7_addWord : tw_dk mX7_addWord := by unfold tw_dk; decide +kernel
theorem wt_RX7_74_X7_add : tw_wT RX7 74 mX7_add := ⟨List.mem_of_getElem? (i := 903) (by decide +kernel), List.mem_of_getElem? (i := 905) (by decide +kernel), Or.inl (List.mem_of_getElem? (i := 904) (by decide +kernel)), List.mem_of_getElem? (i := 130) (by decide +kernel), List.mem_of_getElem? (i := 906) (by decide +kernel)⟩
theorem wv_RX7_67_X6_at : tw_wV RX7 67 mX6_at := ⟨List.mem_of_getElem? (i := 888) (by decide +kernel), List.mem_of_getElem? (i := 889) (by decide +kernel), List.mem_of_getElem? (i := 890) (by decide +kernel), List.mem_of_getElem? (i := 125) (by decide +kernel), List.mem_of_getElem? (i := 891) (by decide +kernel)⟩
theorem ws_RX7_78_X7_isLetter : tw_wS RX7 78 mX7_isLetter := ⟨List.mem_of_getElem? (i := 896) (by decide +kernel), List.mem_of_getElem? (i := 897) (by decide +kernel), List.mem_of_getElem? (i := 130) (by decide +kernel), List.mem_of_getElem? (i := 898) (by decide +kernel)⟩
theorem wv_RX7_64_X6_size : tw_wV RX7 64 mX6_size := ⟨List.mem_of_getElem? (i := 887) (by decide +kernel), List.mem_of_getElem? (i := 498) (by decide +kernel), List.mem_of_getElem? (i := 499) (by decide +kernel), List.mem_of_getElem? (i := 125) (by decide +kernel), List.mem_of_getElem? (i := 500) (by decide +kernel)⟩
set_option maxRecDepth 20000 in
theorem K_X7_addWord {g : tw_Gx} (Q : tw_Rs → tw_Mem → Prop) (a0 : Nat) (a1 : Int32) : tw_Kt g mX7_addWord 2 0 0 [.ref a0, .int a1] Q (f_X7_addWord a0 a1 (fun v => Q (.inl (some (.int v))))) := by
  refine tw_mkK (L := [some (.ref a0), some (.int a1), none, none]) mo_X7_addWord dk_X7_addWord rfl (Nat.le_of_ble_eq_true rfl) rfl ?_
  unfold f_X7_addWord
  refine tw_iconst (k := 0) (0 : Int32) rfl (by decide) ?_
  refine tw_ist_n (k := 1) [some (.ref a0), some (.int a1), some (.int (0 : Int32)), none] rfl (Nat.le_of_ble_eq_true rfl) rfl rfl ?_
  refine tw_iload_n (k := 2) rfl rfl ?_
  refine tw_ist_n (k := 3) [some (.ref a0), some (.int a1), some (.int (0 : Int32)), some (.int a1)] rfl (Nat.le_of_ble_eq_true rfl) rfl rfl ?_
  refine tw_loop (fun s2 => [some (.ref a0), some (.int a1), some (.int s2.1), some (.int s2.2)]) (fun s2 => []) (fun r1 h1 s2 => ?_) _ rfl rfl
  refine tw_iload_n (k := 4) rfl rfl ?_
  refine tw_aload_n (k := 5) rfl rfl ?_
  refine tw_getR (k := 6) rfl fl_RX7_23 (fun x3 => ?_)
  refine tw_callV (k := 7) (d' := 1) (mc' := 0) (ms' := 0) tw_cI tw_cIi [] rfl rfl wv_RX7_64_X6_size mo_X6_size (t := 6) rfl rfl rfl (fun Q9 => K_X6_size Q9 x3) (by omega) (by decide) (by decide) (Nat.le_of_ble_eq_true rfl) (fun x4 => ?_)
  refine tw_join 65 (fun s6 => [some (.ref a0), some (.int a1), some (.int s2.1), some (.int s2.2)]) (fun s6 => []) 0 0 (fun s6 => ?_) (fun j5 g5 => ?_)
  · refine tw_aload_n (k := 37) rfl rfl ?_
    refine tw_iconst (k := 38) (1 : Int32) rfl (by decide) ?_
    refine tw_iload_n (k := 39) rfl rfl ?_
    refine tw_iload_n (k := 40) rfl rfl ?_
    refine tw_callT (k := 41) (d' := 1) (mc' := 0) (ms' := 0) tw_cU tw_cUi [.int (1 : Int32), .int s2.1, .int a1] rfl rfl wt_RX7_74_X7_add mo_X7_add rfl rfl (fun Q9 => K_X7_add Q9 a0 (1 : Int32) s2.1 a1) (by omega) (by decide) (by decide) (Nat.le_of_ble_eq_true rfl) (fun u7 => ?_)
    refine tw_iload_n (k := 42) rfl rfl ?_
    exact tw_ireturn (k := 43) rfl rfl (by decide) (by decide)
  · refine tw_icmp_ge (k := 8) 65 rfl (by decide) ?_ ?_
    · exact g5 ()
    · refine tw_aload_n (k := 9) rfl rfl ?_
      refine tw_getR (k := 10) rfl fl_RX7_23 (fun x8 => ?_)
      refine tw_iload_n (k := 11) rfl rfl ?_
      refine tw_callV (k := 12) (d' := 1) (mc' := 0) (ms' := 0) tw_cI tw_cIi [.int s2.2] rfl rfl wv_RX7_67_X6_at mo_X6_at (t := 6) rfl rfl rfl (fun Q9 => K_X6_at Q9 x8 s2.2) (by omega) (by decide) (by decide) (Nat.le_of_ble_eq_true rfl) (fun x9 => ?_)
      refine tw_callS (k := 13) (d' := 1) (mc' := 0) (ms' := 0) tw_cI tw_cIi [.int x9] rfl rfl ws_RX7_78_X7_isLetter mo_X7_isLetter rfl (fun Q9 => K_X7_isLetter Q9 x9) (by omega) (by decide) (by decide) (Nat.le_of_ble_eq_true rfl) (fun x10 => ?_)
      refine tw_if_eq (k := 14) 65 rfl (by decide) ?_ ?_
      · exact g5 ()
      · refine tw_iload_n (k := 15) rfl rfl ?_
        refine tw_iload_n (k := 16) rfl rfl ?_
        refine tw_isub (k := 17) rfl ?_
        refine tw_bipush (k := 18) (6 : Int32) rfl (by decide) ?_
        refine tw_join 58 (fun s12 => [some (.ref a0), some (.int a1), some (.int s2.1), some (.int s2.2)]) (fun s12 => .int s12 :: []) 0 0 (fun s12 => ?_) (fun j11 g11 => ?_)
        · refine tw_ist_n (k := 34) [some (.ref a0), some (.int a1), some (.int s12), some (.int s2.2)] rfl (Nat.le_of_ble_eq_true rfl) rfl rfl ?_
          refine tw_inc (k := 35) (1 : Int32) [some (.ref a0), some (.int a1), some (.int s12), some (.int (s2.2 + (1 : Int32)))] rfl rfl (by decide) (Nat.le_of_ble_eq_true rfl) rfl rfl ?_
          refine tw_goto (k := 36) 4 rfl (by decide) ?_
          exact h1 (s12, s2.2 + (1 : Int32))
        · refine tw_icmp_ge (k := 19) 57 rfl (by decide) ?_ ?_
          · refine tw_iconst (k := 33) (0 : Int32) rfl (by decide) ?_
            exact g11 (0 : Int32)
          · refine tw_iload_n (k := 20) rfl rfl ?_
            refine tw_iconst (k := 21) (5 : Int32) rfl (by decide) ?_
            refine tw_ishl (k := 22) rfl ?_
            refine tw_aload_n (k := 23) rfl rfl ?_
            refine tw_getR (k := 24) rfl fl_RX7_23 (fun x13 => ?_)
            refine tw_iload_n (k := 25) rfl rfl ?_
            refine tw_callV (k := 26) (d' := 1) (mc' := 0) (ms' := 0) tw_cI tw_cIi [.int s2.2] rfl rfl wv_RX7_67_X6_at mo_X6_at (t := 6) rfl rfl rfl (fun Q9 => K_X6_at Q9 x13 s2.2) (by omega) (by decide) (by decide) (Nat.le_of_ble_eq_true rfl) (fun x14 => ?_)
            refine tw_bipush (k := 27) (97 : Int32) rfl (by decide) ?_
            refine tw_isub (k := 28) rfl ?_
            refine tw_iconst (k := 29) (1 : Int32) rfl (by decide) ?_
            refine tw_iadd (k := 30) rfl ?_
            refine tw_ior (k := 31) rfl ?_
            refine tw_goto (k := 32) 58 rfl (by decide) ?_
            exact g11 ((s2.1 <<< ((5 : Int32) &&& 31)) ||| ((x14 - (97 : Int32)) + (1 : Int32)))
def mX7_isDigit : tw_MD := (yX7_isDigit, cX7_isDigit, 1, (some FieldType.boolean), [(0, .iload_n 0, 1, 1), (1, .bipush 48, 2, 3), (3, .if_icmp .lt 13, 3, 6), (6, .iload_n 0, 1, 7), (7, .bipush 57, 2, 9), (9, .if_icmp .gt 7, 3, 12), (12, .iconst 1, 1, 13), (13, .goto 4, 3, 16), (16, .iconst 0, 1, 17), (17, .ireturn, 1, 18)], [])
theorem mo_X7_isDigit : tw_mok mX7_isDigit 1 := ⟨plainFor_of_name (by decide +kernel), by decide +kernel, by decide +kernel, by decide +kernel, by decide +kernel⟩
theorem dk_X7_isDigit : tw_dk mX7_isDigit := by unfold tw_dk; decide +kernel
set_option maxRecDepth 20000 in
theorem K_X7_isDigit {g : tw_Gx} (Q : tw_Rs → tw_Mem → Prop) (a0 : Int32) : tw_Kt g mX7_isDigit 1 0 0 [.int a0] Q (f_X7_isDigit a0 (fun v => Q (.inl (some (.int v))))) := by
  refine tw_mkK (L := [some (.int a0)]) mo_X7_isDigit dk_X7_isDigit rfl (Nat.le_of_ble_eq_true rfl) rfl ?_
  unfold f_X7_isDigit
  refine tw_iload_n (k := 0) rfl rfl ?_
  refine tw_bipush (k := 1) (48 : Int32) rfl (by decide) ?_
  refine tw_icmp_lt (k := 2) 16 rfl (by decide) ?_ ?_
  · refine tw_iconst (k := 8) (0 : Int32) rfl (by decide) ?_
    exact tw_zreturn (k := 9) rfl rfl (by decide) (by decide)
  · refine tw_iload_n (k := 3) rfl rfl ?_
    refine tw_bipush (k := 4) (57 : Int32) rfl (by decide) ?_
    refine tw_icmp_gt (k := 5) 16 rfl (by decide) ?_ ?_
    · refine tw_iconst (k := 8) (0 : Int32) rfl (by decide) ?_
      exact tw_zreturn (k := 9) rfl rfl (by decide) (by decide)
    · refine tw_iconst (k := 6) (1 : Int32) rfl (by decide) ?_
      refine tw_goto (k := 7) 17 rfl (by decide) ?_
      exact tw_zreturn (k := 9) rfl rfl (by decide) (by decide)
def mX7_addNumber : tw_MD := (yX7_addNumber, cX7_addNumber, 4, (some FieldType.int), [(0, .iconst 0, 1, 1), (1, .istore_n 2, 1, 2), (2, .iload_n 1, 1, 3), (3, .istore_n 3, 1, 4), (4, .iload_n 3, 1, 5), (5, .aload_n 0, 1, 6), (6, .getfield 23, 3, 9), (9, .invokevirtual 64, 3, 12), (12, .if_icmp .ge 53, 3, 15), (15, .aload_n 0, 1, 16), (16, .getfield 23, 3, 19), (19, .iload_n 3, 1, 20), (20, .invokevirtual 67, 3, 23), (23, .invokestatic 85, 3, 26), (26, .ifCond .eq 39, 3, 29), (29, .iload_n 3, 1, 30), (30, .iload_n 1, 1, 31), (31, .isub, 1, 32), (32, .iconst 3, 1, 33), (33, .if_icmp .ge 22, 3, 36), (36, .bipush 10, 2, 38), (38, .iload_n 2, 1, 39), (39, .imul, 1, 40), (40, .aload_n 0, 1, 41), (41, .getfield 23, 3, 44), (44, .iload_n 3, 1, 45), (45, .invokevirtual 67, 3, 48), (48, .iadd, 1, 49), (49, .bipush 48, 2, 51), (51, .isub, 1, 52), (52, .goto 6, 3, 55), (55, .sipush 1000, 3, 58), (58, .istore_n 2, 1, 59), (59, .iinc 3 1, 3, 62), (62, .goto (-58), 3, 65), (65, .aload_n 0, 1, 66), (66, .iconst 2, 1, 67), (67, .iload_n 2, 1, 68), (68, .iload_n 1, 1, 69), (69, .invokevirtual 74, 3, 72), (72, .iload_n 3, 1, 73), (73, .ireturn, 1, 74)], [])
theorem mo_X7_addNumber : tw_mok mX7_addNumber 1 := ⟨plainFor_of_name (by decide +kernel), by decide +kernel, by decide +kernel, by decide +kernel, by decide +kernel⟩
theorem dk_X7_addNumber : tw_dk mX7_addNumber := by unfold tw_dk; decide +kernel
theorem ws_RX7_85_X7_isDigit : tw_wS RX7 85 mX7_isDigit := ⟨List.mem_of_getElem? (i := 907) (by decide +kernel), List.mem_of_getElem? (i := 908) (by decide +kernel), List.mem_of_getElem? (i := 130) (by decide +kernel), List.mem_of_getElem? (i := 909) (by decide +kernel)⟩
set_option maxRecDepth 20000 in
theorem K_X7_addNumber {g : tw_Gx} (Q : tw_Rs → tw_Mem → Prop) (a0 : Nat) (a1 : Int32) : tw_Kt g mX7_addNumber 2 0 0 [.ref a0, .int a1] Q (f_X7_addNumber a0 a1 (fun v => Q (.inl (some (.int v))))) := by
  refine tw_mkK (L := [some (.ref a0), some (.int a1), none, none]) mo_X7_addNumber dk_X7_addNumber rfl (Nat.le_of_ble_eq_true rfl) rfl ?_
  unfold f_X7_addNumber
  refine tw_iconst (k := 0) (0 : Int32) rfl (by decide) ?_
  refine tw_ist_n (k := 1) [some (.ref a0), some (.int a1), some (.int (0 : Int32)), none] rfl (Nat.le_of_ble_eq_true rfl) rfl rfl ?_
  refine tw_iload_n (k := 2) rfl rfl ?_
  refine tw_ist_n (k := 3) [some (.ref a0), some (.int a1), some (.int (0 : Int32)), some (.int a1)] rfl (Nat.le_of_ble_eq_true rfl) rfl rfl ?_
  refine tw_loop (fun s2 => [some (.ref a0), some (.int a1), some (.int s2.1), some (.int s2.2)]) (fun s2 => []) (fun r1 h1 s2 => ?_) _ rfl rfl
  refine tw_iload_n (k := 4) rfl rfl ?_
  refine tw_aload_n (k := 5) rfl rfl ?_
  refine tw_getR (k := 6) rfl fl_RX7_23 (fun x3 => ?_)
  refine tw_callV (k := 7) (d' := 1) (mc' := 0) (ms' := 0) tw_cI tw_cIi [] rfl rfl wv_RX7_64_X6_size mo_X6_size (t := 6) rfl rfl rfl (fun Q9 => K_X6_size Q9 x3) (by omega) (by decide) (by decide) (Nat.le_of_ble_eq_true rfl) (fun x4 => ?_)
  refine tw_join 65 (fun s6 => [some (.ref a0), some (.int a1), some (.int s2.1), some (.int s2.2)]) (fun s6 => []) 0 0 (fun s6 => ?_) (fun j5 g5 => ?_)
  · refine tw_aload_n (k := 35) rfl rfl ?_
    refine tw_iconst (k := 36) (2 : Int32) rfl (by decide) ?_
    refine tw_iload_n (k := 37) rfl rfl ?_
    refine tw_iload_n (k := 38) rfl rfl ?_
    refine tw_callT (k := 39) (d' := 1) (mc' := 0) (ms' := 0) tw_cU tw_cUi [.int (2 : Int32), .int s2.1, .int a1] rfl rfl wt_RX7_74_X7_add mo_X7_add rfl rfl (fun Q9 => K_X7_add Q9 a0 (2 : Int32) s2.1 a1) (by omega) (by decide) (by decide) (Nat.le_of_ble_eq_true rfl) (fun u7 => ?_)
    refine tw_iload_n (k := 40) rfl rfl ?_
    exact tw_ireturn (k := 41) rfl rfl (by decide) (by decide)
  · refine tw_icmp_ge (k := 8) 65 rfl (by decide) ?_ ?_
    · exact g5 ()
    · refine tw_aload_n (k := 9) rfl rfl ?_
      refine tw_getR (k := 10) rfl fl_RX7_23 (fun x8 => ?_)
      refine tw_iload_n (k := 11) rfl rfl ?_
      refine tw_callV (k := 12) (d' := 1) (mc' := 0) (ms' := 0) tw_cI tw_cIi [.int s2.2] rfl rfl wv_RX7_67_X6_at mo_X6_at (t := 6) rfl rfl rfl (fun Q9 => K_X6_at Q9 x8 s2.2) (by omega) (by decide) (by decide) (Nat.le_of_ble_eq_true rfl) (fun x9 => ?_)
      refine tw_callS (k := 13) (d' := 1) (mc' := 0) (ms' := 0) tw_cI tw_cIi [.int x9] rfl rfl ws_RX7_85_X7_isDigit mo_X7_isDigit rfl (fun Q9 => K_X7_isDigit Q9 x9) (by omega) (by decide) (by decide) (Nat.le_of_ble_eq_true rfl) (fun x10 => ?_)
      refine tw_if_eq (k := 14) 65 rfl (by decide) ?_ ?_
      · exact g5 ()
      · refine tw_iload_n (k := 15) rfl rfl ?_
        refine tw_iload_n (k := 16) rfl rfl ?_
        refine tw_isub (k := 17) rfl ?_
        refine tw_iconst (k := 18) (3 : Int32) rfl (by decide) ?_
        refine tw_join 58 (fun s12 => [some (.ref a0), some (.int a1), some (.int s2.1), some (.int s2.2)]) (fun s12 => .int s12 :: []) 0 0 (fun s12 => ?_) (fun j11 g11 => ?_)
        · refine tw_ist_n (k := 32) [some (.ref a0), some (.int a1), some (.int s12), some (.int s2.2)] rfl (Nat.le_of_ble_eq_true rfl) rfl rfl ?_
          refine tw_inc (k := 33) (1 : Int32) [some (.ref a0), some (.int a1), some (.int s12), some (.int (s2.2 + (1 : Int32)))] rfl rfl (by decide) (Nat.le_of_ble_eq_true rfl) rfl rfl ?_
          refine tw_goto (k := 34) 4 rfl (by decide) ?_
          exact h1 (s12, s2.2 + (1 : Int32))
        · refine tw_icmp_ge (k := 19) 55 rfl (by decide) ?_ ?_
          · refine tw_sipush (k := 31) (1000 : Int32) rfl (by decide) ?_
            exact g11 (1000 : Int32)
          · refine tw_bipush (k := 20) (10 : Int32) rfl (by decide) ?_
            refine tw_iload_n (k := 21) rfl rfl ?_
            refine tw_imul (k := 22) rfl ?_
            refine tw_aload_n (k := 23) rfl rfl ?_
            refine tw_getR (k := 24) rfl fl_RX7_23 (fun x13 => ?_)
            refine tw_iload_n (k := 25) rfl rfl ?_
            refine tw_callV (k := 26) (d' := 1) (mc' := 0) (ms' := 0) tw_cI tw_cIi [.int s2.2] rfl rfl wv_RX7_67_X6_at mo_X6_at (t := 6) rfl rfl rfl (fun Q9 => K_X6_at Q9 x13 s2.2) (by omega) (by decide) (by decide) (Nat.le_of_ble_eq_true rfl) (fun x14 => ?_)
            refine tw_iadd (k := 27) rfl ?_
            refine tw_bipush (k := 28) (48 : Int32) rfl (by decide) ?_
            refine tw_isub (k := 29) rfl ?_
            refine tw_goto (k := 30) 58 rfl (by decide) ?_
            exact g11 ((((10 : Int32) * s2.1) + x14) - (48 : Int32))
def mX7_addThing : tw_MD := (yX7_addThing, cX7_addThing, 3, (some FieldType.int), [(0, .aload_n 0, 1, 1), (1, .getfield 23, 3, 4), (4, .iload_n 1, 1, 5), (5, .invokevirtual 67, 3, 8), (8, .istore_n 2, 1, 9), (9, .iload_n 2, 1, 10), (10, .invokestatic 78, 3, 13), (13, .ifCond .eq 9, 3, 16), (16, .aload_n 0, 1, 17), (17, .iload_n 1, 1, 18), (18, .invokevirtual 82, 3, 21), (21, .ireturn, 1, 22), (22, .iload_n 2, 1, 23), (23, .invokestatic 85, 3, 26), (26, .ifCond .eq 9, 3, 29), (29, .aload_n 0, 1, 30), (30, .iload_n 1, 1, 31), (31, .invokevirtual 88, 3, 34), (34, .ireturn, 1, 35), (35, .aload_n 0, 1, 36), (36, .iconst 3, 1, 37), (37, .iload_n 2, 1, 38), (38, .iload_n 1, 1, 39), (39, .invokevirtual 74, 3, 42), (42, .iload_n 1, 1, 43), (43, .iconst 1, 1, 44), (44, .iadd, 1, 45), (45, .ireturn, 1, 46)], [])
theorem mo_X7_addThing : tw_mok mX7_addThing 1 := ⟨plainFor_of_name (by decide +kernel), by decide +kernel, by decide +kernel, by decide +kernel, by decide +kernel⟩
theorem dk_X7_addThing : tw_dk mX7_addThing := by unfold tw_dk; decide +kernel
theorem wt_RX7_88_X7_addNumber : tw_wT RX7 88 mX7_addNumber := ⟨List.mem_of_getElem? (i := 910) (by decide +kernel), List.mem_of_getElem? (i := 912) (by decide +kernel), Or.inl (List.mem_of_getElem? (i := 911) (by decide +kernel)), List.mem_of_getElem? (i := 130) (by decide +kernel), List.mem_of_getElem? (i := 913) (by decide +kernel)⟩
theorem wt_RX7_82_X7_addWord : tw_wT RX7 82 mX7_addWord := ⟨List.mem_of_getElem? (i := 899) (by decide +kernel), List.mem_of_getElem? (i := 901) (by decide +kernel), Or.inl (List.mem_of_getElem? (i := 900) (by decide +kernel)), List.mem_of_getElem? (i := 130) (by decide +kernel), List.mem_of_getElem? (i := 902) (by decide +kernel)⟩
set_option maxRecDepth 20000 in
theorem K_X7_addThing {g : tw_Gx} (Q : tw_Rs → tw_Mem → Prop) (a0 : Nat) (a1 : Int32) : tw_Kt g mX7_addThing 3 0 0 [.ref a0, .int a1] Q (f_X7_addThing a0 a1 (fun v => Q (.inl (some (.int v))))) := by
  refine tw_mkK (L := [some (.ref a0), some (.int a1), none]) mo_X7_addThing dk_X7_addThing rfl (Nat.le_of_ble_eq_true rfl) rfl ?_
  unfold f_X7_addThing
  refine tw_aload_n (k := 0) rfl rfl ?_
  refine tw_getR (k := 1) rfl fl_RX7_23 (fun x1 => ?_)
  refine tw_iload_n (k := 2) rfl rfl ?_
  refine tw_callV (k := 3) (d' := 1) (mc' := 0) (ms' := 0) tw_cI tw_cIi [.int a1] rfl rfl wv_RX7_67_X6_at mo_X6_at (t := 6) rfl rfl rfl (fun Q9 => K_X6_at Q9 x1 a1) (by omega) (by decide) (by decide) (Nat.le_of_ble_eq_true rfl) (fun x2 => ?_)
  refine tw_ist_n (k := 4) [some (.ref a0), some (.int a1), some (.int x2)] rfl (Nat.le_of_ble_eq_true rfl) rfl rfl ?_
  refine tw_iload_n (k := 5) rfl rfl ?_
  refine tw_callS (k := 6) (d' := 1) (mc' := 0) (ms' := 0) tw_cI tw_cIi [.int x2] rfl rfl ws_RX7_78_X7_isLetter mo_X7_isLetter rfl (fun Q9 => K_X7_isLetter Q9 x2) (by omega) (by decide) (by decide) (Nat.le_of_ble_eq_true rfl) (fun x3 => ?_)
  refine tw_if_eq (k := 7) 22 rfl (by decide) ?_ ?_
  · refine tw_iload_n (k := 12) rfl rfl ?_
    refine tw_callS (k := 13) (d' := 1) (mc' := 0) (ms' := 0) tw_cI tw_cIi [.int x2] rfl rfl ws_RX7_85_X7_isDigit mo_X7_isDigit rfl (fun Q9 => K_X7_isDigit Q9 x2) (by omega) (by decide) (by decide) (Nat.le_of_ble_eq_true rfl) (fun x4 => ?_)
    refine tw_if_eq (k := 14) 35 rfl (by decide) ?_ ?_
    · refine tw_aload_n (k := 19) rfl rfl ?_
      refine tw_iconst (k := 20) (3 : Int32) rfl (by decide) ?_
      refine tw_iload_n (k := 21) rfl rfl ?_
      refine tw_iload_n (k := 22) rfl rfl ?_
      refine tw_callT (k := 23) (d' := 1) (mc' := 0) (ms' := 0) tw_cU tw_cUi [.int (3 : Int32), .int x2, .int a1] rfl rfl wt_RX7_74_X7_add mo_X7_add rfl rfl (fun Q9 => K_X7_add Q9 a0 (3 : Int32) x2 a1) (by omega) (by decide) (by decide) (Nat.le_of_ble_eq_true rfl) (fun u5 => ?_)
      refine tw_iload_n (k := 24) rfl rfl ?_
      refine tw_iconst (k := 25) (1 : Int32) rfl (by decide) ?_
      refine tw_iadd (k := 26) rfl ?_
      exact tw_ireturn (k := 27) rfl rfl (by decide) (by decide)
    · refine tw_aload_n (k := 15) rfl rfl ?_
      refine tw_iload_n (k := 16) rfl rfl ?_
      refine tw_callT (k := 17) (d' := 2) (mc' := 0) (ms' := 0) tw_cI tw_cIi [.int a1] rfl rfl wt_RX7_88_X7_addNumber mo_X7_addNumber rfl rfl (fun Q9 => K_X7_addNumber Q9 a0 a1) (by omega) (by decide) (by decide) (Nat.le_of_ble_eq_true rfl) (fun x6 => ?_)
      exact tw_ireturn (k := 18) rfl rfl (by decide) (by decide)
  · refine tw_aload_n (k := 8) rfl rfl ?_
    refine tw_iload_n (k := 9) rfl rfl ?_
    refine tw_callT (k := 10) (d' := 2) (mc' := 0) (ms' := 0) tw_cI tw_cIi [.int a1] rfl rfl wt_RX7_82_X7_addWord mo_X7_addWord rfl rfl (fun Q9 => K_X7_addWord Q9 a0 a1) (by omega) (by decide) (by decide) (Nat.le_of_ble_eq_true rfl) (fun x7 => ?_)
    exact tw_ireturn (k := 11) rfl rfl (by decide) (by decide)
def mX7_split : tw_MD := (yX7_split, cX7_split, 3, none, [(0, .aload_n 0, 1, 1), (1, .iconst 0, 1, 2), (2, .putfield 61, 3, 5), (5, .aload_n 0, 1, 6), (6, .iconst 0, 1, 7), (7, .putfield 45, 3, 10), (10, .iconst 0, 1, 11), (11, .istore_n 1, 1, 12), (12, .iconst 0, 1, 13), (13, .istore_n 2, 1, 14), (14, .iload_n 2, 1, 15), (15, .sipush 400, 3, 18), (18, .if_icmp .ge 45, 3, 21), (21, .iload_n 1, 1, 22), (22, .aload_n 0, 1, 23), (23, .getfield 23, 3, 26), (26, .invokevirtual 64, 3, 29), (29, .if_icmp .ge 34, 3, 32), (32, .aload_n 0, 1, 33), (33, .getfield 23, 3, 36), (36, .iload_n 1, 1, 37), (37, .invokevirtual 67, 3, 40), (40, .bipush 32, 2, 42), (42, .if_icmp .ne 9, 3, 45), (45, .iload_n 1, 1, 46), (46, .iconst 1, 1, 47), (47, .iadd, 1, 48), (48, .goto 8, 3, 51), (51, .aload_n 0, 1, 52), (52, .iload_n 1, 1, 53), (53, .invokevirtual 71, 3, 56), (56, .istore_n 1, 1, 57), (57, .iinc 2 1, 3, 60), (60, .goto (-46), 3, 63), (63, .aload_n 0, 1, 64), (64, .iconst 0, 1, 65), (65, .iconst 0, 1, 66), (66, .aload_n 0, 1, 67), (67, .getfield 23, 3, 70), (70, .invokevirtual 64, 3, 73), (73, .invokevirtual 74, 3, 76), (76, .return_, 1, 77)], [])
theorem mo_X7_split : tw_mok mX7_split 0 := ⟨plainFor_of_name (by decide +kernel), by decide +kernel, by decide +kernel, by decide +kernel, by decide +kernel⟩
theorem dk_X7_split : tw_dk mX7_split := by unfold tw_dk; decide +kernel
theorem wt_RX7_71_X7_addThing : tw_wT RX7 71 mX7_addThing := ⟨List.mem_of_getElem? (i := 892) (by decide +kernel), List.mem_of_getElem? (i := 894) (by decide +kernel), Or.inl (List.mem_of_getElem? (i := 893) (by decide +kernel)), List.mem_of_getElem? (i := 130) (by decide +kernel), List.mem_of_getElem? (i := 895) (by decide +kernel)⟩
theorem wf_X7_split_45 : tw_wf mX7_split 45 11 := Or.inl rfl
theorem wf_X7_split_61 : tw_wf mX7_split 61 10 := Or.inl rfl
set_option maxRecDepth 20000 in
theorem K_X7_split {g : tw_Gx} (Q : tw_Rs → tw_Mem → Prop) (a0 : Nat) : tw_Kt g mX7_split 4 0 0 [.ref a0] Q (f_X7_split a0 (fun v => Q (.inl none))) := by
  refine tw_mkK (L := [some (.ref a0), none, none]) mo_X7_split dk_X7_split rfl (Nat.le_of_ble_eq_true rfl) rfl ?_
  unfold f_X7_split
  refine tw_aload_n (k := 0) rfl rfl ?_
  refine tw_iconst (k := 1) (0 : Int32) rfl (by decide) ?_
  refine tw_putI (k := 2) rfl fl_RX7_61 wf_X7_split_61 (by decide +kernel) ?_
  refine tw_aload_n (k := 3) rfl rfl ?_
  refine tw_iconst (k := 4) (0 : Int32) rfl (by decide) ?_
  refine tw_putI (k := 5) rfl fl_RX7_45 wf_X7_split_45 (by decide +kernel) ?_
  refine tw_iconst (k := 6) (0 : Int32) rfl (by decide) ?_
  refine tw_ist_n (k := 7) [some (.ref a0), some (.int (0 : Int32)), none] rfl (Nat.le_of_ble_eq_true rfl) rfl rfl ?_
  refine tw_iconst (k := 8) (0 : Int32) rfl (by decide) ?_
  refine tw_ist_n (k := 9) [some (.ref a0), some (.int (0 : Int32)), some (.int (0 : Int32))] rfl (Nat.le_of_ble_eq_true rfl) rfl rfl ?_
  refine tw_loop (fun s2 => [some (.ref a0), some (.int s2.1), some (.int s2.2)]) (fun s2 => []) (fun r1 h1 s2 => ?_) _ rfl rfl
  refine tw_iload_n (k := 10) rfl rfl ?_
  refine tw_sipush (k := 11) (400 : Int32) rfl (by decide) ?_
  refine tw_join 63 (fun s4 => [some (.ref a0), some (.int s2.1), some (.int s2.2)]) (fun s4 => []) 0 0 (fun s4 => ?_) (fun j3 g3 => ?_)
  · refine tw_aload_n (k := 34) rfl rfl ?_
    refine tw_iconst (k := 35) (0 : Int32) rfl (by decide) ?_
    refine tw_iconst (k := 36) (0 : Int32) rfl (by decide) ?_
    refine tw_aload_n (k := 37) rfl rfl ?_
    refine tw_getR (k := 38) rfl fl_RX7_23 (fun x5 => ?_)
    refine tw_callV (k := 39) (d' := 1) (mc' := 0) (ms' := 0) tw_cI tw_cIi [] rfl rfl wv_RX7_64_X6_size mo_X6_size (t := 6) rfl rfl rfl (fun Q9 => K_X6_size Q9 x5) (by omega) (by decide) (by decide) (Nat.le_of_ble_eq_true rfl) (fun x6 => ?_)
    refine tw_callT (k := 40) (d' := 1) (mc' := 0) (ms' := 0) tw_cU tw_cUi [.int (0 : Int32), .int (0 : Int32), .int x6] rfl rfl wt_RX7_74_X7_add mo_X7_add rfl rfl (fun Q9 => K_X7_add Q9 a0 (0 : Int32) (0 : Int32) x6) (by omega) (by decide) (by decide) (Nat.le_of_ble_eq_true rfl) (fun u7 => ?_)
    exact tw_return (k := 41) rfl rfl (by decide) (by decide)
  · refine tw_icmp_ge (k := 12) 63 rfl (by decide) ?_ ?_
    · exact g3 ()
    · refine tw_iload_n (k := 13) rfl rfl ?_
      refine tw_aload_n (k := 14) rfl rfl ?_
      refine tw_getR (k := 15) rfl fl_RX7_23 (fun x8 => ?_)
      refine tw_callV (k := 16) (d' := 1) (mc' := 0) (ms' := 0) tw_cI tw_cIi [] rfl rfl wv_RX7_64_X6_size mo_X6_size (t := 6) rfl rfl rfl (fun Q9 => K_X6_size Q9 x8) (by omega) (by decide) (by decide) (Nat.le_of_ble_eq_true rfl) (fun x9 => ?_)
      refine tw_icmp_ge (k := 17) 63 rfl (by decide) ?_ ?_
      · exact g3 ()
      · refine tw_aload_n (k := 18) rfl rfl ?_
        refine tw_getR (k := 19) rfl fl_RX7_23 (fun x10 => ?_)
        refine tw_iload_n (k := 20) rfl rfl ?_
        refine tw_callV (k := 21) (d' := 1) (mc' := 0) (ms' := 0) tw_cI tw_cIi [.int s2.1] rfl rfl wv_RX7_67_X6_at mo_X6_at (t := 6) rfl rfl rfl (fun Q9 => K_X6_at Q9 x10 s2.1) (by omega) (by decide) (by decide) (Nat.le_of_ble_eq_true rfl) (fun x11 => ?_)
        refine tw_bipush (k := 22) (32 : Int32) rfl (by decide) ?_
        refine tw_join 56 (fun s13 => [some (.ref a0), some (.int s2.1), some (.int s2.2)]) (fun s13 => .int s13 :: []) 0 0 (fun s13 => ?_) (fun j12 g12 => ?_)
        · refine tw_ist_n (k := 31) [some (.ref a0), some (.int s13), some (.int s2.2)] rfl (Nat.le_of_ble_eq_true rfl) rfl rfl ?_
          refine tw_inc (k := 32) (1 : Int32) [some (.ref a0), some (.int s13), some (.int (s2.2 + (1 : Int32)))] rfl rfl (by decide) (Nat.le_of_ble_eq_true rfl) rfl rfl ?_
          refine tw_goto (k := 33) 14 rfl (by decide) ?_
          exact h1 (s13, s2.2 + (1 : Int32))
        · refine tw_icmp_ne (k := 23) 51 rfl (by decide) ?_ ?_
          · refine tw_aload_n (k := 28) rfl rfl ?_
            refine tw_iload_n (k := 29) rfl rfl ?_
            refine tw_callT (k := 30) (d' := 3) (mc' := 0) (ms' := 0) tw_cI tw_cIi [.int s2.1] rfl rfl wt_RX7_71_X7_addThing mo_X7_addThing rfl rfl (fun Q9 => K_X7_addThing Q9 a0 s2.1) (by omega) (by decide) (by decide) (Nat.le_of_ble_eq_true rfl) (fun x14 => ?_)
            exact g12 x14
          · refine tw_iload_n (k := 24) rfl rfl ?_
            refine tw_iconst (k := 25) (1 : Int32) rfl (by decide) ?_
            refine tw_iadd (k := 26) rfl ?_
            refine tw_goto (k := 27) 56 rfl (by decide) ?_
            exact g12 (s2.1 + (1 : Int32))
