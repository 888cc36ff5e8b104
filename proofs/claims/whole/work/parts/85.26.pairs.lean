def mX4_init : tw_MD := (yX4_init, cX4_init, 3, none, [(0, .aload_n 0, 1, 1), (1, .invokespecial 3, 3, 4), (4, .aload_n 0, 1, 5), (5, .bipush 64, 2, 7), (7, .newarray .int, 2, 9), (9, .putfield 11, 3, 12), (12, .aload_n 0, 1, 13), (13, .bipush 64, 2, 15), (15, .newarray .int, 2, 17), (17, .putfield 15, 3, 20), (20, .aload_n 0, 1, 21), (21, .aload_n 1, 1, 22), (22, .putfield 18, 3, 25), (25, .aload_n 0, 1, 26), (26, .aload_n 2, 1, 27), (27, .putfield 22, 3, 30), (30, .return_, 1, 31)], [])
theorem mo_X4_init : tw_mok mX4_init 2 := ⟨plainFor_of_name (by decide +kernel), by decide +kernel, by decide +kernel, by decide +kernel, by decide +kernel⟩
theorem dk_X4_init : tw_dk mX4_init := by unfold tw_dk; decide +kernel
theorem km_RX4_3 : Cond.methodLink RX4 3 Lib.objectInit ∈ lw_tbl := List.mem_of_getElem? (i := 371) (by decide +kernel)
theorem fl_RX4_11 : tw_fl RX4 11 27 := Or.inl (List.mem_of_getElem? (i := 374) (by decide +kernel))
theorem fl_RX4_15 : tw_fl RX4 15 28 := Or.inl (List.mem_of_getElem? (i := 375) (by decide +kernel))
theorem fl_RX4_18 : tw_fl RX4 18 25 := Or.inl (List.mem_of_getElem? (i := 372) (by decide +kernel))
theorem fl_RX4_22 : tw_fl RX4 22 26 := Or.inl (List.mem_of_getElem? (i := 373) (by decide +kernel))
theorem wf_X4_init_22 : tw_wf mX4_init 22 26 := Or.inr ⟨by decide +kernel, by decide +kernel, List.mem_of_getElem? (i := 373) (by decide +kernel)⟩
theorem wf_X4_init_18 : tw_wf mX4_init 18 25 := Or.inr ⟨by decide +kernel, by decide +kernel, List.mem_of_getElem? (i := 372) (by decide +kernel)⟩
theorem wf_X4_init_15 : tw_wf mX4_init 15 28 := Or.inr ⟨by decide +kernel, by decide +kernel, List.mem_of_getElem? (i := 375) (by decide +kernel)⟩
theorem wf_X4_init_11 : tw_wf mX4_init 11 27 := Or.inr ⟨by decide +kernel, by decide +kernel, List.mem_of_getElem? (i := 374) (by decide +kernel)⟩
set_option maxRecDepth 20000 in
theorem K_X4_init {g : tw_Gx} (Q : tw_Rs → tw_Mem → Prop) (a0 : Nat) (a1 : Nat) (a2 : Nat) : tw_Kt g mX4_init 1 2 128 [.ref a0, .ref a1, .ref a2] Q (f_X4_init a0 a1 a2 (fun v => Q (.inl none))) := by
  refine tw_mkK (L := [some (.ref a0), some (.ref a1), some (.ref a2)]) mo_X4_init dk_X4_init rfl (Nat.le_of_ble_eq_true rfl) rfl ?_
  unfold f_X4_init
  refine tw_aload_n (k := 0) rfl rfl ?_
  refine tw_objInit (k := 1) rfl km_RX4_3 koi koc (by omega) (Nat.le_of_ble_eq_true rfl) ?_
  refine tw_aload_n (k := 2) rfl rfl ?_
  refine tw_bipush (k := 3) (64 : Int32) rfl (by decide) ?_
  refine tw_newI (k := 4) 64 rfl ka_int (by decide) (by decide) (by decide) (fun b1 => ?_)
  refine tw_putR (k := 5) (ty := (.array .int)) rfl fl_RX4_11 wf_X4_init_11 (by decide +kernel) rfl rfl ?_
  refine tw_aload_n (k := 6) rfl rfl ?_
  refine tw_bipush (k := 7) (64 : Int32) rfl (by decide) ?_
  refine tw_newI (k := 8) 64 rfl ka_int (by decide) (by decide) (by decide) (fun b2 => ?_)
  refine tw_putR (k := 9) (ty := (.array .int)) rfl fl_RX4_15 wf_X4_init_15 (by decide +kernel) rfl rfl ?_
  refine tw_aload_n (k := 10) rfl rfl ?_
  refine tw_aload_n (k := 11) rfl rfl ?_
  refine tw_putR (k := 12) (ty := (.object "TwinRopes$Town")) rfl fl_RX4_18 wf_X4_init_18 (by decide +kernel) rfl rfl ?_
  refine tw_aload_n (k := 13) rfl rfl ?_
  refine tw_aload_n (k := 14) rfl rfl ?_
  refine tw_putR (k := 15) (ty := (.object "TwinRopes$Two")) rfl fl_RX4_22 wf_X4_init_22 (by decide +kernel) rfl rfl ?_
  exact tw_return (k := 16) rfl rfl (by decide) (by decide)
def mX4_lesser : tw_MD := (yX4_lesser, cX4_lesser, 1, (some FieldType.int), [(0, .iload_n 0, 1, 1), (1, .bipush 8, 2, 3), (3, .idiv, 1, 4), (4, .ireturn, 1, 5)], [])
theorem mo_X4_lesser : tw_mok mX4_lesser 1 := ⟨plainFor_of_name (by decide +kernel), by decide +kernel, by decide +kernel, by decide +kernel, by decide +kernel⟩
theorem dk_X4_lesser : tw_dk mX4_lesser := by unfold tw_dk; decide +kernel
set_option maxRecDepth 20000 in
theorem K_X4_lesser {g : tw_Gx} (Q : tw_Rs → tw_Mem → Prop) (a0 : Int32) : tw_Kt g mX4_lesser 1 0 0 [.int a0] Q (f_X4_lesser a0 (fun v => Q (.inl (some (.int v))))) := by
  refine tw_mkK (L := [some (.int a0)]) mo_X4_lesser dk_X4_lesser rfl (Nat.le_of_ble_eq_true rfl) rfl ?_
  unfold f_X4_lesser
  refine tw_iload_n (k := 0) rfl rfl ?_
  refine tw_bipush (k := 1) (8 : Int32) rfl (by decide) ?_
  refine tw_idiv (k := 2) rfl ?_
  exact tw_ireturn (k := 3) rfl rfl (by decide) (by decide)
def mX4_greater : tw_MD := (yX4_greater, cX4_greater, 1, (some FieldType.int), [(0, .iload_n 0, 1, 1), (1, .bipush 8, 2, 3), (3, .irem, 1, 4), (4, .ireturn, 1, 5)], [])
theorem mo_X4_greater : tw_mok mX4_greater 1 := ⟨plainFor_of_name (by decide +kernel), by decide +kernel, by decide +kernel, by decide +kernel, by decide +kernel⟩
theorem dk_X4_greater : tw_dk mX4_greater := by unfold tw_dk; decide +kernel
set_option maxRecDepth 20000 in
theorem K_X4_greater {g : tw_Gx} (Q : tw_Rs → tw_Mem → Prop) (a0 : Int32) : tw_Kt g mX4_greater 1 0 0 [.int a0] Q (f_X4_greater a0 (fun v => Q (.inl (some (.int v))))) := by
  refine tw_mkK (L := [some (.int a0)]) mo_X4_greater dk_X4_greater rfl (Nat.le_of_ble_eq_true rfl) rfl ?_
  unfold f_X4_greater
  refine tw_iload_n (k := 0) rfl rfl ?_
  refine tw_bipush (k := 1) (8 : Int32) rfl (by decide) ?_
  refine tw_irem (k := 2) rfl ?_
  exact tw_ireturn (k := 3) rfl rfl (by decide) (by decide)
def mX4_has : tw_MD := (yX4_has, cX4_has, 2, (some FieldType.boolean), [(0, .iload_n 1, 1, 1), (1, .ifCond .lt 32, 3, 4), (4, .iload_n 1, 1, 5), (5, .invokestatic 26, 3, 8), (8, .iload_n 1, 1, 9), (9, .invokestatic 30, 3, 12), (12, .if_icmp .ge 21, 3, 15), (15, .aload_n 0, 1, 16), (16, .getfield 18, 3, 19), (19, .iload_n 1, 1, 20), (20, .invokestatic 30, 3, 23), (23, .invokevirtual 33, 3, 26), (26, .ifCond .eq 7, 3, 29), (29, .iconst 1, 1, 30), (30, .goto 4, 3, 33), (33, .iconst 0, 1, 34), (34, .ireturn, 1, 35)], [])
theorem mo_X4_has : tw_mok mX4_has 1 := ⟨plainFor_of_name (by decide +kernel), by decide +kernel, by decide +kernel, by decide +kernel, by decide +kernel⟩
theorem dk_X4_has : tw_dk mX4_has := by unfold tw_dk; decide +kernel
theorem wv_RX4_33_X8_has : tw_wV RX4 33 mX8_has := ⟨List.mem_of_getElem? (i := 531) (by decide +kernel), List.mem_of_getElem? (i := 532) (by decide +kernel), List.mem_of_getElem? (i := 533) (by decide +kernel), List.mem_of_getElem? (i := 126) (by decide +kernel), List.mem_of_getElem? (i := 534) (by decide +kernel)⟩
theorem ws_RX4_30_X4_greater : tw_wS RX4 30 mX4_greater := ⟨List.mem_of_getElem? (i := 528) (by decide +kernel), List.mem_of_getElem? (i := 529) (by decide +kernel), List.mem_of_getElem? (i := 134) (by decide +kernel), List.mem_of_getElem? (i := 530) (by decide +kernel)⟩
theorem ws_RX4_26_X4_lesser : tw_wS RX4 26 mX4_lesser := ⟨List.mem_of_getElem? (i := 525) (by decide +kernel), List.mem_of_getElem? (i := 526) (by decide +kernel), List.mem_of_getElem? (i := 134) (by decide +kernel), List.mem_of_getElem? (i := 527) (by decide +kernel)⟩
set_option maxRecDepth 20000 in
theorem K_X4_has {g : tw_Gx} (Q : tw_Rs → tw_Mem → Prop) (a0 : Nat) (a1 : Int32) : tw_Kt g mX4_has 2 0 0 [.ref a0, .int a1] Q (f_X4_has a0 a1 (fun v => Q (.inl (some (.int v))))) := by
  refine tw_mkK (L := [some (.ref a0), some (.int a1)]) mo_X4_has dk_X4_has rfl (Nat.le_of_ble_eq_true rfl) rfl ?_
  unfold f_X4_has
  refine tw_iload_n (k := 0) rfl rfl ?_
  refine tw_if_lt (k := 1) 33 rfl (by decide) ?_ ?_
  · refine tw_iconst (k := 15) (0 : Int32) rfl (by decide) ?_
    exact tw_zreturn (k := 16) rfl rfl (by decide) (by decide)
  · refine tw_iload_n (k := 2) rfl rfl ?_
    refine tw_callS (k := 3) (d' := 1) (mc' := 0) (ms' := 0) tw_cI tw_cIi [.int a1] rfl rfl ws_RX4_26_X4_lesser mo_X4_lesser rfl (fun Q9 => K_X4_lesser Q9 a1) (by omega) (by decide) (by decide) (Nat.le_of_ble_eq_true rfl) (fun x1 => ?_)
    refine tw_iload_n (k := 4) rfl rfl ?_
    refine tw_callS (k := 5) (d' := 1) (mc' := 0) (ms' := 0) tw_cI tw_cIi [.int a1] rfl rfl ws_RX4_30_X4_greater mo_X4_greater rfl (fun Q9 => K_X4_greater Q9 a1) (by omega) (by decide) (by decide) (Nat.le_of_ble_eq_true rfl) (fun x2 => ?_)
    refine tw_icmp_ge (k := 6) 33 rfl (by decide) ?_ ?_
    · refine tw_iconst (k := 15) (0 : Int32) rfl (by decide) ?_
      exact tw_zreturn (k := 16) rfl rfl (by decide) (by decide)
    · refine tw_aload_n (k := 7) rfl rfl ?_
      refine tw_getR (k := 8) rfl fl_RX4_18 (fun x3 => ?_)
      refine tw_iload_n (k := 9) rfl rfl ?_
      refine tw_callS (k := 10) (d' := 1) (mc' := 0) (ms' := 0) tw_cI tw_cIi [.int a1] rfl rfl ws_RX4_30_X4_greater mo_X4_greater rfl (fun Q9 => K_X4_greater Q9 a1) (by omega) (by decide) (by decide) (Nat.le_of_ble_eq_true rfl) (fun x4 => ?_)
      refine tw_callV (k := 11) (d' := 1) (mc' := 0) (ms' := 0) tw_cI tw_cIi [.int x4] rfl rfl wv_RX4_33_X8_has mo_X8_has (t := 7) rfl rfl rfl (fun Q9 => K_X8_has Q9 x3 x4) (by omega) (by decide) (by decide) (Nat.le_of_ble_eq_true rfl) (fun x5 => ?_)
      refine tw_if_eq (k := 12) 33 rfl (by decide) ?_ ?_
      · refine tw_iconst (k := 15) (0 : Int32) rfl (by decide) ?_
        exact tw_zreturn (k := 16) rfl rfl (by decide) (by decide)
      · refine tw_iconst (k := 13) (1 : Int32) rfl (by decide) ?_
        refine tw_goto (k := 14) 34 rfl (by decide) ?_
        exact tw_zreturn (k := 16) rfl rfl (by decide) (by decide)
def mX4_ringsNow : tw_MD := (yX4_ringsNow, cX4_ringsNow, 2, (some FieldType.boolean), [(0, .aload_n 0, 1, 1), (1, .iload_n 1, 1, 2), (2, .invokevirtual 39, 3, 5), (5, .ifCond .eq 26, 3, 8), (8, .aload_n 0, 1, 9), (9, .getfield 18, 3, 12), (12, .iload_n 1, 1, 13), (13, .invokestatic 26, 3, 16), (16, .iload_n 1, 1, 17), (17, .invokestatic 30, 3, 20), (20, .invokevirtual 40, 3, 23), (23, .iconst 4, 1, 24), (24, .if_icmp .ne 7, 3, 27), (27, .iconst 1, 1, 28), (28, .goto 4, 3, 31), (31, .iconst 0, 1, 32), (32, .ireturn, 1, 33)], [])
theorem mo_X4_ringsNow : tw_mok mX4_ringsNow 1 := ⟨plainFor_of_name (by decide +kernel), by decide +kernel, by decide +kernel, by decide +kernel, by decide +kernel⟩
theorem dk_X4_ringsNow : tw_dk mX4_ringsNow := by unfold tw_dk; decide +kernel
theorem wv_RX4_40_X8_toneOf : tw_wV RX4 40 mX8_toneOf := ⟨List.mem_of_getElem? (i := 720) (by decide +kernel), List.mem_of_getElem? (i := 687) (by decide +kernel), List.mem_of_getElem? (i := 688) (by decide +kernel), List.mem_of_getElem? (i := 126) (by decide +kernel), List.mem_of_getElem? (i := 689) (by decide +kernel)⟩
theorem wv_RX4_39_X4_has : tw_wV RX4 39 mX4_has := ⟨List.mem_of_getElem? (i := 521) (by decide +kernel), List.mem_of_getElem? (i := 523) (by decide +kernel), List.mem_of_getElem? (i := 0) (by decide +kernel), List.mem_of_getElem? (i := 134) (by decide +kernel), List.mem_of_getElem? (i := 524) (by decide +kernel)⟩
set_option maxRecDepth 20000 in
theorem K_X4_ringsNow {g : tw_Gx} (Q : tw_Rs → tw_Mem → Prop) (a0 : Nat) (a1 : Int32) : tw_Kt g mX4_ringsNow 4 0 0 [.ref a0, .int a1] Q (f_X4_ringsNow a0 a1 (fun v => Q (.inl (some (.int v))))) := by
  refine tw_mkK (L := [some (.ref a0), some (.int a1)]) mo_X4_ringsNow dk_X4_ringsNow rfl (Nat.le_of_ble_eq_true rfl) rfl ?_
  unfold f_X4_ringsNow
  refine tw_aload_n (k := 0) rfl rfl ?_
  refine tw_iload_n (k := 1) rfl rfl ?_
  refine tw_callV (k := 2) (d' := 2) (mc' := 0) (ms' := 0) tw_cI tw_cIi [.int a1] rfl rfl wv_RX4_39_X4_has mo_X4_has (t := 4) rfl rfl rfl (fun Q9 => K_X4_has Q9 a0 a1) (by omega) (by decide) (by decide) (Nat.le_of_ble_eq_true rfl) (fun x1 => ?_)
  refine tw_if_eq (k := 3) 31 rfl (by decide) ?_ ?_
  · refine tw_iconst (k := 15) (0 : Int32) rfl (by decide) ?_
    exact tw_zreturn (k := 16) rfl rfl (by decide) (by decide)
  · refine tw_aload_n (k := 4) rfl rfl ?_
    refine tw_getR (k := 5) rfl fl_RX4_18 (fun x2 => ?_)
    refine tw_iload_n (k := 6) rfl rfl ?_
    refine tw_callS (k := 7) (d' := 1) (mc' := 0) (ms' := 0) tw_cI tw_cIi [.int a1] rfl rfl ws_RX4_26_X4_lesser mo_X4_lesser rfl (fun Q9 => K_X4_lesser Q9 a1) (by omega) (by decide) (by decide) (Nat.le_of_ble_eq_true rfl) (fun x3 => ?_)
    refine tw_iload_n (k := 8) rfl rfl ?_
    refine tw_callS (k := 9) (d' := 1) (mc' := 0) (ms' := 0) tw_cI tw_cIi [.int a1] rfl rfl ws_RX4_30_X4_greater mo_X4_greater rfl (fun Q9 => K_X4_greater Q9 a1) (by omega) (by decide) (by decide) (Nat.le_of_ble_eq_true rfl) (fun x4 => ?_)
    refine tw_callV (k := 10) (d' := 3) (mc' := 0) (ms' := 0) tw_cI tw_cIi [.int x3, .int x4] rfl rfl wv_RX4_40_X8_toneOf mo_X8_toneOf (t := 7) rfl rfl rfl (fun Q9 => K_X8_toneOf Q9 x2 x3 x4) (by omega) (by decide) (by decide) (Nat.le_of_ble_eq_true rfl) (fun x5 => ?_)
    refine tw_iconst (k := 11) (4 : Int32) rfl (by decide) ?_
    refine tw_icmp_ne (k := 12) 31 rfl (by decide) ?_ ?_
    · refine tw_iconst (k := 15) (0 : Int32) rfl (by decide) ?_
      exact tw_zreturn (k := 16) rfl rfl (by decide) (by decide)
    · refine tw_iconst (k := 13) (1 : Int32) rfl (by decide) ?_
      refine tw_goto (k := 14) 32 rfl (by decide) ?_
      exact tw_zreturn (k := 16) rfl rfl (by decide) (by decide)
def mX4_payOf : tw_MD := (yX4_payOf, cX4_payOf, 2, (some FieldType.int), [(0, .aload_n 0, 1, 1), (1, .getfield 18, 3, 4), (4, .iload_n 1, 1, 5), (5, .invokestatic 26, 3, 8), (8, .invokevirtual 44, 3, 11), (11, .aload_n 0, 1, 12), (12, .getfield 18, 3, 15), (15, .iload_n 1, 1, 16), (16, .invokestatic 30, 3, 19), (19, .invokevirtual 44, 3, 22), (22, .iadd, 1, 23), (23, .ireturn, 1, 24)], [])
theorem mo_X4_payOf : tw_mok mX4_payOf 1 := ⟨plainFor_of_name (by decide +kernel), by decide +kernel, by decide +kernel, by decide +kernel, by decide +kernel⟩
theorem dk_X4_payOf : tw_dk mX4_payOf := by unfold tw_dk; decide +kernel
theorem wv_RX4_44_X8_payOf : tw_wV RX4 44 mX8_payOf := ⟨List.mem_of_getElem? (i := 725) (by decide +kernel), List.mem_of_getElem? (i := 726) (by decide +kernel), List.mem_of_getElem? (i := 727) (by decide +kernel), List.mem_of_getElem? (i := 126) (by decide +kernel), List.mem_of_getElem? (i := 728) (by decide +kernel)⟩
set_option maxRecDepth 20000 in
theorem K_X4_payOf {g : tw_Gx} (Q : tw_Rs → tw_Mem → Prop) (a0 : Nat) (a1 : Int32) : tw_Kt g mX4_payOf 3 0 0 [.ref a0, .int a1] Q (f_X4_payOf a0 a1 (fun v => Q (.inl (some (.int v))))) := by
  refine tw_mkK (L := [some (.ref a0), some (.int a1)]) mo_X4_payOf dk_X4_payOf rfl (Nat.le_of_ble_eq_true rfl) rfl ?_
  unfold f_X4_payOf
  refine tw_aload_n (k := 0) rfl rfl ?_
  refine tw_getR (k := 1) rfl fl_RX4_18 (fun x1 => ?_)
  refine tw_iload_n (k := 2) rfl rfl ?_
  refine tw_callS (k := 3) (d' := 1) (mc' := 0) (ms' := 0) tw_cI tw_cIi [.int a1] rfl rfl ws_RX4_26_X4_lesser mo_X4_lesser rfl (fun Q9 => K_X4_lesser Q9 a1) (by omega) (by decide) (by decide) (Nat.le_of_ble_eq_true rfl) (fun x2 => ?_)
  refine tw_callV (k := 4) (d' := 2) (mc' := 0) (ms' := 0) tw_cI tw_cIi [.int x2] rfl rfl wv_RX4_44_X8_payOf mo_X8_payOf (t := 7) rfl rfl rfl (fun Q9 => K_X8_payOf Q9 x1 x2) (by omega) (by decide) (by decide) (Nat.le_of_ble_eq_true rfl) (fun x3 => ?_)
  refine tw_aload_n (k := 5) rfl rfl ?_
  refine tw_getR (k := 6) rfl fl_RX4_18 (fun x4 => ?_)
  refine tw_iload_n (k := 7) rfl rfl ?_
  refine tw_callS (k := 8) (d' := 1) (mc' := 0) (ms' := 0) tw_cI tw_cIi [.int a1] rfl rfl ws_RX4_30_X4_greater mo_X4_greater rfl (fun Q9 => K_X4_greater Q9 a1) (by omega) (by decide) (by decide) (Nat.le_of_ble_eq_true rfl) (fun x5 => ?_)
  refine tw_callV (k := 9) (d' := 2) (mc' := 0) (ms' := 0) tw_cI tw_cIi [.int x5] rfl rfl wv_RX4_44_X8_payOf mo_X8_payOf (t := 7) rfl rfl rfl (fun Q9 => K_X8_payOf Q9 x4 x5) (by omega) (by decide) (by decide) (Nat.le_of_ble_eq_true rfl) (fun x6 => ?_)
  refine tw_iadd (k := 10) rfl ?_
  exact tw_ireturn (k := 11) rfl rfl (by decide) (by decide)
def mX4_timesOf : tw_MD := (yX4_timesOf, cX4_timesOf, 5, (some FieldType.int), [(0, .aload_n 0, 1, 1), (1, .getfield 22, 3, 4), (4, .aload_n 0, 1, 5), (5, .getfield 18, 3, 8), (8, .iload_n 1, 1, 9), (9, .iload_n 2, 1, 10), (10, .invokevirtual 47, 3, 13), (13, .iconst 0, 1, 14), (14, .istore 4, 2, 16), (16, .iload 4, 2, 18), (18, .bipush 60, 2, 20), (20, .if_icmp .ge 28, 3, 23), (23, .aload_n 0, 1, 24), (24, .getfield 22, 3, 27), (27, .aload_n 3, 1, 28), (28, .invokevirtual 53, 3, 31), (31, .iconst 4, 1, 32), (32, .if_icmp .ne 16, 3, 35), (35, .aload_n 0, 1, 36), (36, .getfield 22, 3, 39), (39, .invokevirtual 57, 3, 42), (42, .iinc 4 1, 3, 45), (45, .goto (-29), 3, 48), (48, .iload 4, 2, 50), (50, .ireturn, 1, 51)], [])
theorem mo_X4_timesOf : tw_mok mX4_timesOf 3 := ⟨plainFor_of_name (by decide +kernel), by decide +kernel, by decide +kernel, by decide +kernel, by decide +kernel⟩
theorem dk_X4_timesOf : tw_dk mX4_timesOf := by unfold tw_dk; decide +kernel
theorem wv_RX4_57_X10_passHour : tw_wV RX4 57 mX10_passHour := ⟨List.mem_of_getElem? (i := 612) (by decide +kernel), List.mem_of_getElem? (i := 613) (by decide +kernel), List.mem_of_getElem? (i := 614) (by decide +kernel), List.mem_of_getElem? (i := 133) (by decide +kernel), List.mem_of_getElem? (i := 615) (by decide +kernel)⟩
theorem wv_RX4_53_X10_pullOnce : tw_wV RX4 53 mX10_pullOnce := ⟨List.mem_of_getElem? (i := 570) (by decide +kernel), List.mem_of_getElem? (i := 571) (by decide +kernel), List.mem_of_getElem? (i := 572) (by decide +kernel), List.mem_of_getElem? (i := 133) (by decide +kernel), List.mem_of_getElem? (i := 573) (by decide +kernel)⟩
theorem wv_RX4_47_X10_see : tw_wV RX4 47 mX10_see := ⟨List.mem_of_getElem? (i := 539) (by decide +kernel), List.mem_of_getElem? (i := 540) (by decide +kernel), List.mem_of_getElem? (i := 541) (by decide +kernel), List.mem_of_getElem? (i := 133) (by decide +kernel), List.mem_of_getElem? (i := 542) (by decide +kernel)⟩
set_option maxRecDepth 20000 in
theorem K_X4_timesOf {g : tw_Gx} (Q : tw_Rs → tw_Mem → Prop) (a0 : Nat) (a1 : Int32) (a2 : Int32) (a3 : Nat) : tw_Kt g mX4_timesOf 6 0 0 [.ref a0, .int a1, .int a2, .ref a3] Q (f_X4_timesOf a0 a1 a2 a3 (fun v => Q (.inl (some (.int v))))) := by
  refine tw_mkK (L := [some (.ref a0), some (.int a1), some (.int a2), some (.ref a3), none]) mo_X4_timesOf dk_X4_timesOf rfl (Nat.le_of_ble_eq_true rfl) rfl ?_
  unfold f_X4_timesOf
  refine tw_aload_n (k := 0) rfl rfl ?_
  refine tw_getR (k := 1) rfl fl_RX4_22 (fun x1 => ?_)
  refine tw_aload_n (k := 2) rfl rfl ?_
  refine tw_getR (k := 3) rfl fl_RX4_18 (fun x2 => ?_)
  refine tw_iload_n (k := 4) rfl rfl ?_
  refine tw_iload_n (k := 5) rfl rfl ?_
  refine tw_callV (k := 6) (d' := 4) (mc' := 0) (ms' := 0) tw_cU tw_cUi [.ref x2, .int a1, .int a2] rfl rfl wv_RX4_47_X10_see mo_X10_see (t := 9) rfl rfl rfl (fun Q9 => K_X10_see Q9 x1 x2 a1 a2) (by omega) (by decide) (by decide) (Nat.le_of_ble_eq_true rfl) (fun u3 => ?_)
  refine tw_iconst (k := 7) (0 : Int32) rfl (by decide) ?_
  refine tw_ist (k := 8) [some (.ref a0), some (.int a1), some (.int a2), some (.ref a3), some (.int (0 : Int32))] rfl (Nat.le_of_ble_eq_true rfl) rfl rfl ?_
  refine tw_loop (fun s5 => [some (.ref a0), some (.int a1), some (.int a2), some (.ref a3), some (.int s5)]) (fun s5 => []) (fun r4 h4 s5 => ?_) _ rfl rfl
  refine tw_iload (k := 9) rfl rfl ?_
  refine tw_bipush (k := 10) (60 : Int32) rfl (by decide) ?_
  refine tw_icmp_ge (k := 11) 48 rfl (by decide) ?_ ?_
  · refine tw_iload (k := 23) rfl rfl ?_
    exact tw_ireturn (k := 24) rfl rfl (by decide) (by decide)
  · refine tw_aload_n (k := 12) rfl rfl ?_
    refine tw_getR (k := 13) rfl fl_RX4_22 (fun x6 => ?_)
    refine tw_aload_n (k := 14) rfl rfl ?_
    refine tw_callV (k := 15) (d' := 5) (mc' := 0) (ms' := 0) tw_cI tw_cIi [.ref a3] rfl rfl wv_RX4_53_X10_pullOnce mo_X10_pullOnce (t := 9) rfl rfl rfl (fun Q9 => K_X10_pullOnce Q9 x6 a3) (by omega) (by decide) (by decide) (Nat.le_of_ble_eq_true rfl) (fun x7 => ?_)
    refine tw_iconst (k := 16) (4 : Int32) rfl (by decide) ?_
    refine tw_icmp_ne (k := 17) 48 rfl (by decide) ?_ ?_
    · refine tw_iload (k := 23) rfl rfl ?_
      exact tw_ireturn (k := 24) rfl rfl (by decide) (by decide)
    · refine tw_aload_n (k := 18) rfl rfl ?_
      refine tw_getR (k := 19) rfl fl_RX4_22 (fun x8 => ?_)
      refine tw_callV (k := 20) (d' := 2) (mc' := 0) (ms' := 0) tw_cU tw_cUi [] rfl rfl wv_RX4_57_X10_passHour mo_X10_passHour (t := 9) rfl rfl rfl (fun Q9 => K_X10_passHour Q9 x8) (by omega) (by decide) (by decide) (Nat.le_of_ble_eq_true rfl) (fun u9 => ?_)
      refine tw_inc (k := 21) (1 : Int32) [some (.ref a0), some (.int a1), some (.int a2), some (.ref a3), some (.int (s5 + (1 : Int32)))] rfl rfl (by decide) (Nat.le_of_ble_eq_true rfl) rfl rfl ?_
      refine tw_goto (k := 22) 16 rfl (by decide) ?_
      exact h4 (s5 + (1 : Int32))
def mX4_longestPair : tw_MD := (yX4_longestPair, cX4_longestPair, 6, (some FieldType.int), [(0, .iconst (-1), 1, 1), (1, .istore_n 2, 1, 2), (2, .iconst (-1), 1, 3), (3, .istore_n 3, 1, 4), (4, .iconst 0, 1, 5), (5, .istore 4, 2, 7), (7, .iload 4, 2, 9), (9, .bipush 64, 2, 11), (11, .if_icmp .ge 51, 3, 14), (14, .aload_n 0, 1, 15), (15, .iload 4, 2, 17), (17, .invokevirtual 39, 3, 20), (20, .ifCond .eq 21, 3, 23), (23, .aload_n 0, 1, 24), (24, .iload 4, 2, 26), (26, .invokestatic 26, 3, 29), (29, .iload 4, 2, 31), (31, .invokestatic 30, 3, 34), (34, .aload_n 1, 1, 35), (35, .invokevirtual 60, 3, 38), (38, .goto 4, 3, 41), (41, .iconst (-1), 1, 42), (42, .istore 5, 2, 44), (44, .iload 5, 2, 46), (46, .iload_n 3, 1, 47), (47, .if_icmp .le 9, 3, 50), (50, .iload 5, 2, 52), (52, .istore_n 3, 1, 53), (53, .iload 4, 2, 55), (55, .istore_n 2, 1, 56), (56, .iinc 4 1, 3, 59), (59, .goto (-52), 3, 62), (62, .iload_n 2, 1, 63), (63, .ireturn, 1, 64)], [])
theorem mo_X4_longestPair : tw_mok mX4_longestPair 1 := ⟨plainFor_of_name (by decide +kernel), by decide +kernel, by decide +kernel, by decide +kernel, by decide +kernel⟩
theorem dk_X4_longestPair : tw_dk mX4_longestPair := by unfold tw_dk; decide +kernel
theorem wv_RX4_60_X4_timesOf : tw_wV RX4 60 mX4_timesOf := ⟨List.mem_of_getElem? (i := 535) (by decide +kernel), List.mem_of_getElem? (i := 536) (by decide +kernel), List.mem_of_getElem? (i := 537) (by decide +kernel), List.mem_of_getElem? (i := 134) (by decide +kernel), List.mem_of_getElem? (i := 538) (by decide +kernel)⟩
set_option maxRecDepth 20000 in
theorem K_X4_longestPair {g : tw_Gx} (Q : tw_Rs → tw_Mem → Prop) (a0 : Nat) (a1 : Nat) : tw_Kt g mX4_longestPair 7 0 0 [.ref a0, .ref a1] Q (f_X4_longestPair a0 a1 (fun v => Q (.inl (some (.int v))))) := by
  refine tw_mkK (L := [some (.ref a0), some (.ref a1), none, none, none, none]) mo_X4_longestPair dk_X4_longestPair rfl (Nat.le_of_ble_eq_true rfl) rfl ?_
  unfold f_X4_longestPair
  refine tw_iconst (k := 0) (-1 : Int32) rfl (by decide) ?_
  refine tw_ist_n (k := 1) [some (.ref a0), some (.ref a1), some (.int (-1 : Int32)), none, none, none] rfl (Nat.le_of_ble_eq_true rfl) rfl rfl ?_
  refine tw_iconst (k := 2) (-1 : Int32) rfl (by decide) ?_
  refine tw_ist_n (k := 3) [some (.ref a0), some (.ref a1), some (.int (-1 : Int32)), some (.int (-1 : Int32)), none, none] rfl (Nat.le_of_ble_eq_true rfl) rfl rfl ?_
  refine tw_iconst (k := 4) (0 : Int32) rfl (by decide) ?_
  refine tw_ist (k := 5) [some (.ref a0), some (.ref a1), some (.int (-1 : Int32)), some (.int (-1 : Int32)), some (.int (0 : Int32)), none] rfl (Nat.le_of_ble_eq_true rfl) rfl rfl ?_
  refine tw_loop (fun s2 => [some (.ref a0), some (.ref a1), some (.int s2.1), some (.int s2.2.1), some (.int s2.2.2), none]) (fun s2 => []) (fun r1 h1 s2 => ?_) _ rfl rfl
  refine tw_iload (k := 6) rfl rfl ?_
  refine tw_bipush (k := 7) (64 : Int32) rfl (by decide) ?_
  refine tw_icmp_ge (k := 8) 62 rfl (by decide) ?_ ?_
  · refine tw_iload_n (k := 32) rfl rfl ?_
    exact tw_ireturn (k := 33) rfl rfl (by decide) (by decide)
  · refine tw_aload_n (k := 9) rfl rfl ?_
    refine tw_iload (k := 10) rfl rfl ?_
    refine tw_callV (k := 11) (d' := 2) (mc' := 0) (ms' := 0) tw_cI tw_cIi [.int s2.2.2] rfl rfl wv_RX4_39_X4_has mo_X4_has (t := 4) rfl rfl rfl (fun Q9 => K_X4_has Q9 a0 s2.2.2) (by omega) (by decide) (by decide) (Nat.le_of_ble_eq_true rfl) (fun x3 => ?_)
    refine tw_join 42 (fun s5 => [some (.ref a0), some (.ref a1), some (.int s2.1), some (.int s2.2.1), some (.int s2.2.2), none]) (fun s5 => .int s5 :: []) 0 0 (fun s5 => ?_) (fun j4 g4 => ?_)
    · refine tw_ist (k := 22) [some (.ref a0), some (.ref a1), some (.int s2.1), some (.int s2.2.1), some (.int s2.2.2), some (.int s5)] rfl (Nat.le_of_ble_eq_true rfl) rfl rfl ?_
      refine tw_iload (k := 23) rfl rfl ?_
      refine tw_iload_n (k := 24) rfl rfl ?_
      refine tw_join 56 (fun s7 => [some (.ref a0), some (.ref a1), some (.int s7.1), some (.int s7.2), some (.int s2.2.2), some (.int s5)]) (fun s7 => []) 0 0 (fun s7 => ?_) (fun j6 g6 => ?_)
      · refine tw_inc (k := 30) (1 : Int32) [some (.ref a0), some (.ref a1), some (.int s7.1), some (.int s7.2), some (.int (s2.2.2 + (1 : Int32))), some (.int s5)] rfl rfl (by decide) (Nat.le_of_ble_eq_true rfl) rfl rfl ?_
        refine tw_goto (k := 31) 7 rfl (by decide) ?_
        exact tw_wk (L' := [some (.ref a0), some (.ref a1), some (.int s7.1), some (.int s7.2), some (.int (s2.2.2 + (1 : Int32))), none]) ⟨Or.inr rfl, Or.inr rfl, Or.inr rfl, Or.inr rfl, Or.inr rfl, Or.inl rfl, trivial⟩ (h1 (s7.1, s7.2, s2.2.2 + (1 : Int32)))
      · refine tw_icmp_le (k := 25) 56 rfl (by decide) ?_ ?_
        · exact g6 (s2.1, s2.2.1)
        · refine tw_iload (k := 26) rfl rfl ?_
          refine tw_ist_n (k := 27) [some (.ref a0), some (.ref a1), some (.int s2.1), some (.int s5), some (.int s2.2.2), some (.int s5)] rfl (Nat.le_of_ble_eq_true rfl) rfl rfl ?_
          refine tw_iload (k := 28) rfl rfl ?_
          refine tw_ist_n (k := 29) [some (.ref a0), some (.ref a1), some (.int s2.2.2), some (.int s5), some (.int s2.2.2), some (.int s5)] rfl (Nat.le_of_ble_eq_true rfl) rfl rfl ?_
          exact g6 (s2.2.2, s5)
    · refine tw_if_eq (k := 12) 41 rfl (by decide) ?_ ?_
      · refine tw_iconst (k := 21) (-1 : Int32) rfl (by decide) ?_
        exact g4 (-1 : Int32)
      · refine tw_aload_n (k := 13) rfl rfl ?_
        refine tw_iload (k := 14) rfl rfl ?_
        refine tw_callS (k := 15) (d' := 1) (mc' := 0) (ms' := 0) tw_cI tw_cIi [.int s2.2.2] rfl rfl ws_RX4_26_X4_lesser mo_X4_lesser rfl (fun Q9 => K_X4_lesser Q9 s2.2.2) (by omega) (by decide) (by decide) (Nat.le_of_ble_eq_true rfl) (fun x8 => ?_)
        refine tw_iload (k := 16) rfl rfl ?_
        refine tw_callS (k := 17) (d' := 1) (mc' := 0) (ms' := 0) tw_cI tw_cIi [.int s2.2.2] rfl rfl ws_RX4_30_X4_greater mo_X4_greater rfl (fun Q9 => K_X4_greater Q9 s2.2.2) (by omega) (by decide) (by decide) (Nat.le_of_ble_eq_true rfl) (fun x9 => ?_)
        refine tw_aload_n (k := 18) rfl rfl ?_
        refine tw_callV (k := 19) (d' := 6) (mc' := 0) (ms' := 0) tw_cI tw_cIi [.int x8, .int x9, .ref a1] rfl rfl wv_RX4_60_X4_timesOf mo_X4_timesOf (t := 4) rfl rfl rfl (fun Q9 => K_X4_timesOf Q9 a0 x8 x9 a1) (by omega) (by decide) (by decide) (Nat.le_of_ble_eq_true rfl) (fun x10 => ?_)
        refine tw_goto (k := 20) 42 rfl (by decide) ?_
        exact g4 x10
def mX4_weighFor : tw_MD := (yX4_weighFor, cX4_weighFor, 4, none, [(0, .iconst 0, 1, 1), (1, .istore_n 3, 1, 2), (2, .iload_n 3, 1, 3), (3, .bipush 64, 2, 5), (5, .if_icmp .ge 42, 3, 8), (8, .aload_n 0, 1, 9), (9, .iload_n 3, 1, 10), (10, .invokevirtual 39, 3, 13), (13, .ifCond .eq 28, 3, 16), (16, .aload_n 1, 1, 17), (17, .iload_n 3, 1, 18), (18, .invokestatic 26, 3, 21), (21, .iload_n 3, 1, 22), (22, .invokestatic 30, 3, 25), (25, .aload_n 0, 1, 26), (26, .iload_n 3, 1, 27), (27, .invokestatic 26, 3, 30), (30, .iload_n 3, 1, 31), (31, .invokestatic 30, 3, 34), (34, .aload_n 2, 1, 35), (35, .invokevirtual 60, 3, 38), (38, .invokevirtual 64, 3, 41), (41, .iinc 3 1, 3, 44), (44, .goto (-42), 3, 47), (47, .return_, 1, 48)], [])
theorem mo_X4_weighFor : tw_mok mX4_weighFor 2 := ⟨plainFor_of_name (by decide +kernel), by decide +kernel, by decide +kernel, by decide +kernel, by decide +kernel⟩
theorem dk_X4_weighFor : tw_dk mX4_weighFor := by unfold tw_dk; decide +kernel
theorem wv_RX4_64_X5_setWorth : tw_wV RX4 64 mX5_setWorth := ⟨List.mem_of_getElem? (i := 1557) (by decide +kernel), List.mem_of_getElem? (i := 1558) (by decide +kernel), List.mem_of_getElem? (i := 1559) (by decide +kernel), List.mem_of_getElem? (i := 135) (by decide +kernel), List.mem_of_getElem? (i := 1560) (by decide +kernel)⟩
set_option maxRecDepth 20000 in
theorem K_X4_weighFor {g : tw_Gx} (Q : tw_Rs → tw_Mem → Prop) (a0 : Nat) (a1 : Nat) (a2 : Nat) : tw_Kt g mX4_weighFor 7 0 0 [.ref a0, .ref a1, .ref a2] Q (f_X4_weighFor a0 a1 a2 (fun v => Q (.inl none))) := by
  refine tw_mkK (L := [some (.ref a0), some (.ref a1), some (.ref a2), none]) mo_X4_weighFor dk_X4_weighFor rfl (Nat.le_of_ble_eq_true rfl) rfl ?_
  unfold f_X4_weighFor
  refine tw_iconst (k := 0) (0 : Int32) rfl (by decide) ?_
  refine tw_ist_n (k := 1) [some (.ref a0), some (.ref a1), some (.ref a2), some (.int (0 : Int32))] rfl (Nat.le_of_ble_eq_true rfl) rfl rfl ?_
  refine tw_loop (fun s2 => [some (.ref a0), some (.ref a1), some (.ref a2), some (.int s2)]) (fun s2 => []) (fun r1 h1 s2 => ?_) _ rfl rfl
  refine tw_iload_n (k := 2) rfl rfl ?_
  refine tw_bipush (k := 3) (64 : Int32) rfl (by decide) ?_
  refine tw_icmp_ge (k := 4) 47 rfl (by decide) ?_ ?_
  · exact tw_return (k := 24) rfl rfl (by decide) (by decide)
  · refine tw_aload_n (k := 5) rfl rfl ?_
    refine tw_iload_n (k := 6) rfl rfl ?_
    refine tw_callV (k := 7) (d' := 2) (mc' := 0) (ms' := 0) tw_cI tw_cIi [.int s2] rfl rfl wv_RX4_39_X4_has mo_X4_has (t := 4) rfl rfl rfl (fun Q9 => K_X4_has Q9 a0 s2) (by omega) (by decide) (by decide) (Nat.le_of_ble_eq_true rfl) (fun x3 => ?_)
    refine tw_join 41 (fun s5 => [some (.ref a0), some (.ref a1), some (.ref a2), some (.int s2)]) (fun s5 => []) 0 0 (fun s5 => ?_) (fun j4 g4 => ?_)
    · refine tw_inc (k := 22) (1 : Int32) [some (.ref a0), some (.ref a1), some (.ref a2), some (.int (s2 + (1 : Int32)))] rfl rfl (by decide) (Nat.le_of_ble_eq_true rfl) rfl rfl ?_
      refine tw_goto (k := 23) 2 rfl (by decide) ?_
      exact h1 (s2 + (1 : Int32))
    · refine tw_if_eq (k := 8) 41 rfl (by decide) ?_ ?_
      · exact g4 ()
      · refine tw_aload_n (k := 9) rfl rfl ?_
        refine tw_iload_n (k := 10) rfl rfl ?_
        refine tw_callS (k := 11) (d' := 1) (mc' := 0) (ms' := 0) tw_cI tw_cIi [.int s2] rfl rfl ws_RX4_26_X4_lesser mo_X4_lesser rfl (fun Q9 => K_X4_lesser Q9 s2) (by omega) (by decide) (by decide) (Nat.le_of_ble_eq_true rfl) (fun x6 => ?_)
        refine tw_iload_n (k := 12) rfl rfl ?_
        refine tw_callS (k := 13) (d' := 1) (mc' := 0) (ms' := 0) tw_cI tw_cIi [.int s2] rfl rfl ws_RX4_30_X4_greater mo_X4_greater rfl (fun Q9 => K_X4_greater Q9 s2) (by omega) (by decide) (by decide) (Nat.le_of_ble_eq_true rfl) (fun x7 => ?_)
        refine tw_aload_n (k := 14) rfl rfl ?_
        refine tw_iload_n (k := 15) rfl rfl ?_
        refine tw_callS (k := 16) (d' := 1) (mc' := 0) (ms' := 0) tw_cI tw_cIi [.int s2] rfl rfl ws_RX4_26_X4_lesser mo_X4_lesser rfl (fun Q9 => K_X4_lesser Q9 s2) (by omega) (by decide) (by decide) (Nat.le_of_ble_eq_true rfl) (fun x8 => ?_)
        refine tw_iload_n (k := 17) rfl rfl ?_
        refine tw_callS (k := 18) (d' := 1) (mc' := 0) (ms' := 0) tw_cI tw_cIi [.int s2] rfl rfl ws_RX4_30_X4_greater mo_X4_greater rfl (fun Q9 => K_X4_greater Q9 s2) (by omega) (by decide) (by decide) (Nat.le_of_ble_eq_true rfl) (fun x9 => ?_)
        refine tw_aload_n (k := 19) rfl rfl ?_
        refine tw_callV (k := 20) (d' := 6) (mc' := 0) (ms' := 0) tw_cI tw_cIi [.int x8, .int x9, .ref a2] rfl rfl wv_RX4_60_X4_timesOf mo_X4_timesOf (t := 4) rfl rfl rfl (fun Q9 => K_X4_timesOf Q9 a0 x8 x9 a2) (by omega) (by decide) (by decide) (Nat.le_of_ble_eq_true rfl) (fun x10 => ?_)
        refine tw_callV (k := 21) (d' := 2) (mc' := 0) (ms' := 0) tw_cU tw_cUi [.int x6, .int x7, .int x10] rfl rfl wv_RX4_64_X5_setWorth mo_X5_setWorth (t := 5) rfl rfl rfl (fun Q9 => K_X5_setWorth Q9 a1 x6 x7 x10) (by omega) (by decide) (by decide) (Nat.le_of_ble_eq_true rfl) (fun u11 => ?_)
        exact g4 ()
def mX4_freshPairs : tw_MD := (yX4_freshPairs, cX4_freshPairs, 3, (some FieldType.int), [(0, .iconst 0, 1, 1), (1, .istore_n 1, 1, 2), (2, .iconst 0, 1, 3), (3, .istore_n 2, 1, 4), (4, .iload_n 2, 1, 5), (5, .bipush 64, 2, 7), (7, .if_icmp .ge 56, 3, 10), (10, .aload_n 0, 1, 11), (11, .iload_n 2, 1, 12), (12, .invokevirtual 39, 3, 15), (15, .ifCond .eq 42, 3, 18), (18, .aload_n 0, 1, 19), (19, .getfield 18, 3, 22), (22, .iload_n 2, 1, 23), (23, .invokestatic 26, 3, 26), (26, .iload_n 2, 1, 27), (27, .invokestatic 30, 3, 30), (30, .invokevirtual 70, 3, 33), (33, .ifCond .ne 24, 3, 36), (36, .aload_n 0, 1, 37), (37, .getfield 18, 3, 40), (40, .iload_n 2, 1, 41), (41, .invokestatic 30, 3, 44), (44, .iload_n 2, 1, 45), (45, .invokestatic 26, 3, 48), (48, .invokevirtual 70, 3, 51), (51, .ifCond .ne 6, 3, 54), (54, .iinc 1 1, 3, 57), (57, .iinc 2 1, 3, 60), (60, .goto (-56), 3, 63), (63, .iload_n 1, 1, 64), (64, .ireturn, 1, 65)], [])
theorem mo_X4_freshPairs : tw_mok mX4_freshPairs 0 := ⟨plainFor_of_name (by decide +kernel), by decide +kernel, by decide +kernel, by decide +kernel, by decide +kernel⟩
theorem dk_X4_freshPairs : tw_dk mX4_freshPairs := by unfold tw_dk; decide +kernel
theorem wv_RX4_70_X8_guessOf : tw_wV RX4 70 mX8_guessOf := ⟨List.mem_of_getElem? (i := 624) (by decide +kernel), List.mem_of_getElem? (i := 544) (by decide +kernel), List.mem_of_getElem? (i := 545) (by decide +kernel), List.mem_of_getElem? (i := 126) (by decide +kernel), List.mem_of_getElem? (i := 546) (by decide +kernel)⟩
set_option maxRecDepth 20000 in
theorem K_X4_freshPairs {g : tw_Gx} (Q : tw_Rs → tw_Mem → Prop) (a0 : Nat) : tw_Kt g mX4_freshPairs 3 0 0 [.ref a0] Q (f_X4_freshPairs a0 (fun v => Q (.inl (some (.int v))))) := by
  refine tw_mkK (L := [some (.ref a0), none, none]) mo_X4_freshPairs dk_X4_freshPairs rfl (Nat.le_of_ble_eq_true rfl) rfl ?_
  unfold f_X4_freshPairs
  refine tw_iconst (k := 0) (0 : Int32) rfl (by decide) ?_
  refine tw_ist_n (k := 1) [some (.ref a0), some (.int (0 : Int32)), none] rfl (Nat.le_of_ble_eq_true rfl) rfl rfl ?_
  refine tw_iconst (k := 2) (0 : Int32) rfl (by decide) ?_
  refine tw_ist_n (k := 3) [some (.ref a0), some (.int (0 : Int32)), some (.int (0 : Int32))] rfl (Nat.le_of_ble_eq_true rfl) rfl rfl ?_
  refine tw_loop (fun s2 => [some (.ref a0), some (.int s2.1), some (.int s2.2)]) (fun s2 => []) (fun r1 h1 s2 => ?_) _ rfl rfl
  refine tw_iload_n (k := 4) rfl rfl ?_
  refine tw_bipush (k := 5) (64 : Int32) rfl (by decide) ?_
  refine tw_icmp_ge (k := 6) 63 rfl (by decide) ?_ ?_
  · refine tw_iload_n (k := 30) rfl rfl ?_
    exact tw_ireturn (k := 31) rfl rfl (by decide) (by decide)
  · refine tw_aload_n (k := 7) rfl rfl ?_
    refine tw_iload_n (k := 8) rfl rfl ?_
    refine tw_callV (k := 9) (d' := 2) (mc' := 0) (ms' := 0) tw_cI tw_cIi [.int s2.2] rfl rfl wv_RX4_39_X4_has mo_X4_has (t := 4) rfl rfl rfl (fun Q9 => K_X4_has Q9 a0 s2.2) (by omega) (by decide) (by decide) (Nat.le_of_ble_eq_true rfl) (fun x3 => ?_)
    refine tw_join 57 (fun s5 => [some (.ref a0), some (.int s5), some (.int s2.2)]) (fun s5 => []) 0 0 (fun s5 => ?_) (fun j4 g4 => ?_)
    · refine tw_inc (k := 28) (1 : Int32) [some (.ref a0), some (.int s5), some (.int (s2.2 + (1 : Int32)))] rfl rfl (by decide) (Nat.le_of_ble_eq_true rfl) rfl rfl ?_
      refine tw_goto (k := 29) 4 rfl (by decide) ?_
      exact h1 (s5, s2.2 + (1 : Int32))
    · refine tw_if_eq (k := 10) 57 rfl (by decide) ?_ ?_
      · exact g4 s2.1
      · refine tw_aload_n (k := 11) rfl rfl ?_
        refine tw_getR (k := 12) rfl fl_RX4_18 (fun x6 => ?_)
        refine tw_iload_n (k := 13) rfl rfl ?_
        refine tw_callS (k := 14) (d' := 1) (mc' := 0) (ms' := 0) tw_cI tw_cIi [.int s2.2] rfl rfl ws_RX4_26_X4_lesser mo_X4_lesser rfl (fun Q9 => K_X4_lesser Q9 s2.2) (by omega) (by decide) (by decide) (Nat.le_of_ble_eq_true rfl) (fun x7 => ?_)
        refine tw_iload_n (k := 15) rfl rfl ?_
        refine tw_callS (k := 16) (d' := 1) (mc' := 0) (ms' := 0) tw_cI tw_cIi [.int s2.2] rfl rfl ws_RX4_30_X4_greater mo_X4_greater rfl (fun Q9 => K_X4_greater Q9 s2.2) (by omega) (by decide) (by decide) (Nat.le_of_ble_eq_true rfl) (fun x8 => ?_)
        refine tw_callV (k := 17) (d' := 2) (mc' := 0) (ms' := 0) tw_cI tw_cIi [.int x7, .int x8] rfl rfl wv_RX4_70_X8_guessOf mo_X8_guessOf (t := 7) rfl rfl rfl (fun Q9 => K_X8_guessOf Q9 x6 x7 x8) (by omega) (by decide) (by decide) (Nat.le_of_ble_eq_true rfl) (fun x9 => ?_)
        refine tw_if_ne (k := 18) 57 rfl (by decide) ?_ ?_
        · exact g4 s2.1
        · refine tw_aload_n (k := 19) rfl rfl ?_
          refine tw_getR (k := 20) rfl fl_RX4_18 (fun x10 => ?_)
          refine tw_iload_n (k := 21) rfl rfl ?_
          refine tw_callS (k := 22) (d' := 1) (mc' := 0) (ms' := 0) tw_cI tw_cIi [.int s2.2] rfl rfl ws_RX4_30_X4_greater mo_X4_greater rfl (fun Q9 => K_X4_greater Q9 s2.2) (by omega) (by decide) (by decide) (Nat.le_of_ble_eq_true rfl) (fun x11 => ?_)
          refine tw_iload_n (k := 23) rfl rfl ?_
          refine tw_callS (k := 24) (d' := 1) (mc' := 0) (ms' := 0) tw_cI tw_cIi [.int s2.2] rfl rfl ws_RX4_26_X4_lesser mo_X4_lesser rfl (fun Q9 => K_X4_lesser Q9 s2.2) (by omega) (by decide) (by decide) (Nat.le_of_ble_eq_true rfl) (fun x12 => ?_)
          refine tw_callV (k := 25) (d' := 2) (mc' := 0) (ms' := 0) tw_cI tw_cIi [.int x11, .int x12] rfl rfl wv_RX4_70_X8_guessOf mo_X8_guessOf (t := 7) rfl rfl rfl (fun Q9 => K_X8_guessOf Q9 x10 x11 x12) (by omega) (by decide) (by decide) (Nat.le_of_ble_eq_true rfl) (fun x13 => ?_)
          refine tw_if_ne (k := 26) 57 rfl (by decide) ?_ ?_
          · exact g4 s2.1
          · refine tw_inc (k := 27) (1 : Int32) [some (.ref a0), some (.int (s2.1 + (1 : Int32))), some (.int s2.2)] rfl rfl (by decide) (Nat.le_of_ble_eq_true rfl) rfl rfl ?_
            exact g4 (s2.1 + (1 : Int32))
def mX4_alikePairs : tw_MD := (yX4_alikePairs, cX4_alikePairs, 3, (some FieldType.int), [(0, .iconst 0, 1, 1), (1, .istore_n 1, 1, 2), (2, .iconst 0, 1, 3), (3, .istore_n 2, 1, 4), (4, .iload_n 2, 1, 5), (5, .bipush 64, 2, 7), (7, .if_icmp .ge 38, 3, 10), (10, .aload_n 0, 1, 11), (11, .iload_n 2, 1, 12), (12, .invokevirtual 39, 3, 15), (15, .ifCond .eq 24, 3, 18), (18, .aload_n 0, 1, 19), (19, .getfield 18, 3, 22), (22, .iload_n 2, 1, 23), (23, .invokestatic 26, 3, 26), (26, .iload_n 2, 1, 27), (27, .invokestatic 30, 3, 30), (30, .invokevirtual 73, 3, 33), (33, .ifCond .eq 6, 3, 36), (36, .iinc 1 1, 3, 39), (39, .iinc 2 1, 3, 42), (42, .goto (-38), 3, 45), (45, .iload_n 1, 1, 46), (46, .ireturn, 1, 47)], [])
theorem mo_X4_alikePairs : tw_mok mX4_alikePairs 0 := ⟨plainFor_of_name (by decide +kernel), by decide +kernel, by decide +kernel, by decide +kernel, by decide +kernel⟩
theorem dk_X4_alikePairs : tw_dk mX4_alikePairs := by unfold tw_dk; decide +kernel
theorem wv_RX4_73_X8_areAlike : tw_wV RX4 73 mX8_areAlike := ⟨List.mem_of_getElem? (i := 802) (by decide +kernel), List.mem_of_getElem? (i := 803) (by decide +kernel), List.mem_of_getElem? (i := 804) (by decide +kernel), List.mem_of_getElem? (i := 126) (by decide +kernel), List.mem_of_getElem? (i := 805) (by decide +kernel)⟩
set_option maxRecDepth 20000 in
theorem K_X4_alikePairs {g : tw_Gx} (Q : tw_Rs → tw_Mem → Prop) (a0 : Nat) : tw_Kt g mX4_alikePairs 5 0 0 [.ref a0] Q (f_X4_alikePairs a0 (fun v => Q (.inl (some (.int v))))) := by
  refine tw_mkK (L := [some (.ref a0), none, none]) mo_X4_alikePairs dk_X4_alikePairs rfl (Nat.le_of_ble_eq_true rfl) rfl ?_
  unfold f_X4_alikePairs
  refine tw_iconst (k := 0) (0 : Int32) rfl (by decide) ?_
  refine tw_ist_n (k := 1) [some (.ref a0), some (.int (0 : Int32)), none] rfl (Nat.le_of_ble_eq_true rfl) rfl rfl ?_
  refine tw_iconst (k := 2) (0 : Int32) rfl (by decide) ?_
  refine tw_ist_n (k := 3) [some (.ref a0), some (.int (0 : Int32)), some (.int (0 : Int32))] rfl (Nat.le_of_ble_eq_true rfl) rfl rfl ?_
  refine tw_loop (fun s2 => [some (.ref a0), some (.int s2.1), some (.int s2.2)]) (fun s2 => []) (fun r1 h1 s2 => ?_) _ rfl rfl
  refine tw_iload_n (k := 4) rfl rfl ?_
  refine tw_bipush (k := 5) (64 : Int32) rfl (by decide) ?_
  refine tw_icmp_ge (k := 6) 45 rfl (by decide) ?_ ?_
  · refine tw_iload_n (k := 22) rfl rfl ?_
    exact tw_ireturn (k := 23) rfl rfl (by decide) (by decide)
  · refine tw_aload_n (k := 7) rfl rfl ?_
    refine tw_iload_n (k := 8) rfl rfl ?_
    refine tw_callV (k := 9) (d' := 2) (mc' := 0) (ms' := 0) tw_cI tw_cIi [.int s2.2] rfl rfl wv_RX4_39_X4_has mo_X4_has (t := 4) rfl rfl rfl (fun Q9 => K_X4_has Q9 a0 s2.2) (by omega) (by decide) (by decide) (Nat.le_of_ble_eq_true rfl) (fun x3 => ?_)
    refine tw_join 39 (fun s5 => [some (.ref a0), some (.int s5), some (.int s2.2)]) (fun s5 => []) 0 0 (fun s5 => ?_) (fun j4 g4 => ?_)
    · refine tw_inc (k := 20) (1 : Int32) [some (.ref a0), some (.int s5), some (.int (s2.2 + (1 : Int32)))] rfl rfl (by decide) (Nat.le_of_ble_eq_true rfl) rfl rfl ?_
      refine tw_goto (k := 21) 4 rfl (by decide) ?_
      exact h1 (s5, s2.2 + (1 : Int32))
    · refine tw_if_eq (k := 10) 39 rfl (by decide) ?_ ?_
      · exact g4 s2.1
      · refine tw_aload_n (k := 11) rfl rfl ?_
        refine tw_getR (k := 12) rfl fl_RX4_18 (fun x6 => ?_)
        refine tw_iload_n (k := 13) rfl rfl ?_
        refine tw_callS (k := 14) (d' := 1) (mc' := 0) (ms' := 0) tw_cI tw_cIi [.int s2.2] rfl rfl ws_RX4_26_X4_lesser mo_X4_lesser rfl (fun Q9 => K_X4_lesser Q9 s2.2) (by omega) (by decide) (by decide) (Nat.le_of_ble_eq_true rfl) (fun x7 => ?_)
        refine tw_iload_n (k := 15) rfl rfl ?_
        refine tw_callS (k := 16) (d' := 1) (mc' := 0) (ms' := 0) tw_cI tw_cIi [.int s2.2] rfl rfl ws_RX4_30_X4_greater mo_X4_greater rfl (fun Q9 => K_X4_greater Q9 s2.2) (by omega) (by decide) (by decide) (Nat.le_of_ble_eq_true rfl) (fun x8 => ?_)
        refine tw_callV (k := 17) (d' := 4) (mc' := 0) (ms' := 0) tw_cI tw_cIi [.int x7, .int x8] rfl rfl wv_RX4_73_X8_areAlike mo_X8_areAlike (t := 7) rfl rfl rfl (fun Q9 => K_X8_areAlike Q9 x6 x7 x8) (by omega) (by decide) (by decide) (Nat.le_of_ble_eq_true rfl) (fun x9 => ?_)
        refine tw_if_eq (k := 18) 39 rfl (by decide) ?_ ?_
        · exact g4 s2.1
        · refine tw_inc (k := 19) (1 : Int32) [some (.ref a0), some (.int (s2.1 + (1 : Int32))), some (.int s2.2)] rfl rfl (by decide) (Nat.le_of_ble_eq_true rfl) rfl rfl ?_
          exact g4 (s2.1 + (1 : Int32))
def mX4_cheapPairs : tw_MD := (yX4_cheapPairs, cX4_cheapPairs, 4, (some FieldType.int), [(0, .iconst 0, 1, 1), (1, .istore_n 2, 1, 2), (2, .iconst 0, 1, 3), (3, .istore_n 3, 1, 4), (4, .iload_n 3, 1, 5), (5, .bipush 64, 2, 7), (7, .if_icmp .ge 29, 3, 10), (10, .aload_n 0, 1, 11), (11, .iload_n 3, 1, 12), (12, .invokevirtual 77, 3, 15), (15, .ifCond .eq 15, 3, 18), (18, .aload_n 0, 1, 19), (19, .iload_n 3, 1, 20), (20, .invokevirtual 80, 3, 23), (23, .iload_n 1, 1, 24), (24, .if_icmp .gt 6, 3, 27), (27, .iinc 2 1, 3, 30), (30, .iinc 3 1, 3, 33), (33, .goto (-29), 3, 36), (36, .iload_n 2, 1, 37), (37, .ireturn, 1, 38)], [])
theorem mo_X4_cheapPairs : tw_mok mX4_cheapPairs 1 := ⟨plainFor_of_name (by decide +kernel), by decide +kernel, by decide +kernel, by decide +kernel, by decide +kernel⟩
theorem dk_X4_cheapPairs : tw_dk mX4_cheapPairs := by unfold tw_dk; decide +kernel
theorem wv_RX4_80_X4_payOf : tw_wV RX4 80 mX4_payOf := ⟨List.mem_of_getElem? (i := 721) (by decide +kernel), List.mem_of_getElem? (i := 723) (by decide +kernel), List.mem_of_getElem? (i := 8) (by decide +kernel), List.mem_of_getElem? (i := 134) (by decide +kernel), List.mem_of_getElem? (i := 724) (by decide +kernel)⟩
theorem wv_RX4_77_X4_ringsNow : tw_wV RX4 77 mX4_ringsNow := ⟨List.mem_of_getElem? (i := 716) (by decide +kernel), List.mem_of_getElem? (i := 718) (by decide +kernel), List.mem_of_getElem? (i := 7) (by decide +kernel), List.mem_of_getElem? (i := 134) (by decide +kernel), List.mem_of_getElem? (i := 719) (by decide +kernel)⟩
set_option maxRecDepth 20000 in
theorem K_X4_cheapPairs {g : tw_Gx} (Q : tw_Rs → tw_Mem → Prop) (a0 : Nat) (a1 : Int32) : tw_Kt g mX4_cheapPairs 5 0 0 [.ref a0, .int a1] Q (f_X4_cheapPairs a0 a1 (fun v => Q (.inl (some (.int v))))) := by
  refine tw_mkK (L := [some (.ref a0), some (.int a1), none, none]) mo_X4_cheapPairs dk_X4_cheapPairs rfl (Nat.le_of_ble_eq_true rfl) rfl ?_
  unfold f_X4_cheapPairs
  refine tw_iconst (k := 0) (0 : Int32) rfl (by decide) ?_
  refine tw_ist_n (k := 1) [some (.ref a0), some (.int a1), some (.int (0 : Int32)), none] rfl (Nat.le_of_ble_eq_true rfl) rfl rfl ?_
  refine tw_iconst (k := 2) (0 : Int32) rfl (by decide) ?_
  refine tw_ist_n (k := 3) [some (.ref a0), some (.int a1), some (.int (0 : Int32)), some (.int (0 : Int32))] rfl (Nat.le_of_ble_eq_true rfl) rfl rfl ?_
  refine tw_loop (fun s2 => [some (.ref a0), some (.int a1), some (.int s2.1), some (.int s2.2)]) (fun s2 => []) (fun r1 h1 s2 => ?_) _ rfl rfl
  refine tw_iload_n (k := 4) rfl rfl ?_
  refine tw_bipush (k := 5) (64 : Int32) rfl (by decide) ?_
  refine tw_icmp_ge (k := 6) 36 rfl (by decide) ?_ ?_
  · refine tw_iload_n (k := 19) rfl rfl ?_
    exact tw_ireturn (k := 20) rfl rfl (by decide) (by decide)
  · refine tw_aload_n (k := 7) rfl rfl ?_
    refine tw_iload_n (k := 8) rfl rfl ?_
    refine tw_callV (k := 9) (d' := 4) (mc' := 0) (ms' := 0) tw_cI tw_cIi [.int s2.2] rfl rfl wv_RX4_77_X4_ringsNow mo_X4_ringsNow (t := 4) rfl rfl rfl (fun Q9 => K_X4_ringsNow Q9 a0 s2.2) (by omega) (by decide) (by decide) (Nat.le_of_ble_eq_true rfl) (fun x3 => ?_)
    refine tw_join 30 (fun s5 => [some (.ref a0), some (.int a1), some (.int s5), some (.int s2.2)]) (fun s5 => []) 0 0 (fun s5 => ?_) (fun j4 g4 => ?_)
    · refine tw_inc (k := 17) (1 : Int32) [some (.ref a0), some (.int a1), some (.int s5), some (.int (s2.2 + (1 : Int32)))] rfl rfl (by decide) (Nat.le_of_ble_eq_true rfl) rfl rfl ?_
      refine tw_goto (k := 18) 4 rfl (by decide) ?_
      exact h1 (s5, s2.2 + (1 : Int32))
    · refine tw_if_eq (k := 10) 30 rfl (by decide) ?_ ?_
      · exact g4 s2.1
      · refine tw_aload_n (k := 11) rfl rfl ?_
        refine tw_iload_n (k := 12) rfl rfl ?_
        refine tw_callV (k := 13) (d' := 3) (mc' := 0) (ms' := 0) tw_cI tw_cIi [.int s2.2] rfl rfl wv_RX4_80_X4_payOf mo_X4_payOf (t := 4) rfl rfl rfl (fun Q9 => K_X4_payOf Q9 a0 s2.2) (by omega) (by decide) (by decide) (Nat.le_of_ble_eq_true rfl) (fun x6 => ?_)
        refine tw_iload_n (k := 14) rfl rfl ?_
        refine tw_icmp_gt (k := 15) 30 rfl (by decide) ?_ ?_
        · exact g4 s2.1
        · refine tw_inc (k := 16) (1 : Int32) [some (.ref a0), some (.int a1), some (.int (s2.1 + (1 : Int32))), some (.int s2.2)] rfl rfl (by decide) (Nat.le_of_ble_eq_true rfl) rfl rfl ?_
          exact g4 (s2.1 + (1 : Int32))
def mX4_cheapestPair : tw_MD := (yX4_cheapestPair, cX4_cheapestPair, 3, (some FieldType.int), [(0, .iconst (-1), 1, 1), (1, .istore_n 1, 1, 2), (2, .iconst 0, 1, 3), (3, .istore_n 2, 1, 4), (4, .iload_n 2, 1, 5), (5, .bipush 64, 2, 7), (7, .if_icmp .ge 37, 3, 10), (10, .aload_n 0, 1, 11), (11, .iload_n 2, 1, 12), (12, .invokevirtual 77, 3, 15), (15, .ifCond .eq 23, 3, 18), (18, .iload_n 1, 1, 19), (19, .iconst (-1), 1, 20), (20, .if_icmp .eq 16, 3, 23), (23, .aload_n 0, 1, 24), (24, .iload_n 2, 1, 25), (25, .invokevirtual 80, 3, 28), (28, .aload_n 0, 1, 29), (29, .iload_n 1, 1, 30), (30, .invokevirtual 80, 3, 33), (33, .if_icmp .ge 5, 3, 36), (36, .iload_n 2, 1, 37), (37, .istore_n 1, 1, 38), (38, .iinc 2 1, 3, 41), (41, .goto (-37), 3, 44), (44, .iload_n 1, 1, 45), (45, .ireturn, 1, 46)], [])
theorem mo_X4_cheapestPair : tw_mok mX4_cheapestPair 0 := ⟨plainFor_of_name (by decide +kernel), by decide +kernel, by decide +kernel, by decide +kernel, by decide +kernel⟩
theorem dk_X4_cheapestPair : tw_dk mX4_cheapestPair := by unfold tw_dk; decide +kernel
set_option maxRecDepth 20000 in
theorem K_X4_cheapestPair {g : tw_Gx} (Q : tw_Rs → tw_Mem → Prop) (a0 : Nat) : tw_Kt g mX4_cheapestPair 5 0 0 [.ref a0] Q (f_X4_cheapestPair a0 (fun v => Q (.inl (some (.int v))))) := by
  refine tw_mkK (L := [some (.ref a0), none, none]) mo_X4_cheapestPair dk_X4_cheapestPair rfl (Nat.le_of_ble_eq_true rfl) rfl ?_
  unfold f_X4_cheapestPair
  refine tw_iconst (k := 0) (-1 : Int32) rfl (by decide) ?_
  refine tw_ist_n (k := 1) [some (.ref a0), some (.int (-1 : Int32)), none] rfl (Nat.le_of_ble_eq_true rfl) rfl rfl ?_
  refine tw_iconst (k := 2) (0 : Int32) rfl (by decide) ?_
  refine tw_ist_n (k := 3) [some (.ref a0), some (.int (-1 : Int32)), some (.int (0 : Int32))] rfl (Nat.le_of_ble_eq_true rfl) rfl rfl ?_
  refine tw_loop (fun s2 => [some (.ref a0), some (.int s2.1), some (.int s2.2)]) (fun s2 => []) (fun r1 h1 s2 => ?_) _ rfl rfl
  refine tw_iload_n (k := 4) rfl rfl ?_
  refine tw_bipush (k := 5) (64 : Int32) rfl (by decide) ?_
  refine tw_icmp_ge (k := 6) 44 rfl (by decide) ?_ ?_
  · refine tw_iload_n (k := 25) rfl rfl ?_
    exact tw_ireturn (k := 26) rfl rfl (by decide) (by decide)
  · refine tw_aload_n (k := 7) rfl rfl ?_
    refine tw_iload_n (k := 8) rfl rfl ?_
    refine tw_callV (k := 9) (d' := 4) (mc' := 0) (ms' := 0) tw_cI tw_cIi [.int s2.2] rfl rfl wv_RX4_77_X4_ringsNow mo_X4_ringsNow (t := 4) rfl rfl rfl (fun Q9 => K_X4_ringsNow Q9 a0 s2.2) (by omega) (by decide) (by decide) (Nat.le_of_ble_eq_true rfl) (fun x3 => ?_)
    refine tw_join 38 (fun s5 => [some (.ref a0), some (.int s5), some (.int s2.2)]) (fun s5 => []) 0 0 (fun s5 => ?_) (fun j4 g4 => ?_)
    · refine tw_inc (k := 23) (1 : Int32) [some (.ref a0), some (.int s5), some (.int (s2.2 + (1 : Int32)))] rfl rfl (by decide) (Nat.le_of_ble_eq_true rfl) rfl rfl ?_
      refine tw_goto (k := 24) 4 rfl (by decide) ?_
      exact h1 (s5, s2.2 + (1 : Int32))
    · refine tw_if_eq (k := 10) 38 rfl (by decide) ?_ ?_
      · exact g4 s2.1
      · refine tw_iload_n (k := 11) rfl rfl ?_
        refine tw_iconst (k := 12) (-1 : Int32) rfl (by decide) ?_
        refine tw_join 36 (fun s7 => [some (.ref a0), some (.int s2.1), some (.int s2.2)]) (fun s7 => []) 0 0 (fun s7 => ?_) (fun j6 g6 => ?_)
        · refine tw_iload_n (k := 21) rfl rfl ?_
          refine tw_ist_n (k := 22) [some (.ref a0), some (.int s2.2), some (.int s2.2)] rfl (Nat.le_of_ble_eq_true rfl) rfl rfl ?_
          exact g4 s2.2
        · refine tw_icmp_eq (k := 13) 36 rfl (by decide) ?_ ?_
          · exact g6 ()
          · refine tw_aload_n (k := 14) rfl rfl ?_
            refine tw_iload_n (k := 15) rfl rfl ?_
            refine tw_callV (k := 16) (d' := 3) (mc' := 0) (ms' := 0) tw_cI tw_cIi [.int s2.2] rfl rfl wv_RX4_80_X4_payOf mo_X4_payOf (t := 4) rfl rfl rfl (fun Q9 => K_X4_payOf Q9 a0 s2.2) (by omega) (by decide) (by decide) (Nat.le_of_ble_eq_true rfl) (fun x8 => ?_)
            refine tw_aload_n (k := 17) rfl rfl ?_
            refine tw_iload_n (k := 18) rfl rfl ?_
            refine tw_callV (k := 19) (d' := 3) (mc' := 0) (ms' := 0) tw_cI tw_cIi [.int s2.1] rfl rfl wv_RX4_80_X4_payOf mo_X4_payOf (t := 4) rfl rfl rfl (fun Q9 => K_X4_payOf Q9 a0 s2.1) (by omega) (by decide) (by decide) (Nat.le_of_ble_eq_true rfl) (fun x9 => ?_)
            refine tw_icmp_ge (k := 20) 38 rfl (by decide) ?_ ?_
            · exact g4 s2.1
            · exact g6 ()
def mX4_takeTold : tw_MD := (yX4_takeTold, cX4_takeTold, 6, (some FieldType.boolean), [(0, .aload_n 0, 1, 1), (1, .iconst 0, 1, 2), (2, .putfield 81, 3, 5), (5, .aload_n 0, 1, 6), (6, .iconst 0, 1, 7), (7, .putfield 85, 3, 10), (10, .aload_n 1, 1, 11), (11, .invokevirtual 88, 3, 14), (14, .istore_n 2, 1, 15), (15, .iload_n 2, 1, 16), (16, .bipush 40, 2, 18), (18, .if_icmp .gt 9, 3, 21), (21, .iload_n 2, 1, 22), (22, .iconst 2, 1, 23), (23, .irem, 1, 24), (24, .ifCond .eq 5, 3, 27), (27, .iconst 0, 1, 28), (28, .ireturn, 1, 29), (29, .iconst 0, 1, 30), (30, .istore_n 3, 1, 31), (31, .iload_n 3, 1, 32), (32, .iload_n 2, 1, 33), (33, .if_icmp .ge 85, 3, 36), (36, .aload_n 1, 1, 37), (37, .iload_n 3, 1, 38), (38, .invokevirtual 94, 3, 41), (41, .istore 4, 2, 43), (43, .aload_n 1, 1, 44), (44, .iload_n 3, 1, 45), (45, .iconst 1, 1, 46), (46, .iadd, 1, 47), (47, .invokevirtual 94, 3, 50), (50, .istore 5, 2, 52), (52, .iload 4, 2, 54), (54, .ifCond .lt 21, 3, 57), (57, .iload 4, 2, 59), (59, .bipush 31, 2, 61), (61, .if_icmp .ge 14, 3, 64), (64, .iload 5, 2, 66), (66, .ifCond .lt 9, 3, 69), (69, .iload 5, 2, 71), (71, .iconst 1, 1, 72), (72, .if_icmp .le 5, 3, 75), (75, .iconst 0, 1, 76), (76, .ireturn, 1, 77), (77, .iload 5, 2, 79), (79, .iconst 1, 1, 80), (80, .if_icmp .ne 19, 3, 83), (83, .aload_n 0, 1, 84), (84, .dup, 1, 85), (85, .getfield 81, 3, 88), (88, .iconst 1, 1, 89), (89, .iload 4, 2, 91), (91, .ishl, 1, 92), (92, .ior, 1, 93), (93, .putfield 81, 3, 96), (96, .goto 16, 3, 99), (99, .aload_n 0, 1, 100), (100, .dup, 1, 101), (101, .getfield 85, 3, 104), (104, .iconst 1, 1, 105), (105, .iload 4, 2, 107), (107, .ishl, 1, 108), (108, .ior, 1, 109), (109, .putfield 85, 3, 112), (112, .iinc 3 2, 3, 115), (115, .goto (-84), 3, 118), (118, .iconst 1, 1, 119), (119, .ireturn, 1, 120)], [])
theorem mo_X4_takeTold : tw_mok mX4_takeTold 1 := ⟨plainFor_of_name (by decide +kernel), by decide +kernel, by decide +kernel, by decide +kernel, by decide +kernel⟩
theorem dk_X4_takeTold : tw_dk mX4_takeTold := by unfold tw_dk; decide +kernel
theorem fl_RX4_81 : tw_fl RX4 81 30 := Or.inl (List.mem_of_getElem? (i := 377) (by decide +kernel))
theorem fl_RX4_85 : tw_fl RX4 85 31 := Or.inl (List.mem_of_getElem? (i := 378) (by decide +kernel))
theorem wf_X4_takeTold_85 : tw_wf mX4_takeTold 85 31 := Or.inl rfl
theorem wf_X4_takeTold_81 : tw_wf mX4_takeTold 81 30 := Or.inl rfl
theorem wv_RX4_94_X6_at : tw_wV RX4 94 mX6_at := ⟨List.mem_of_getElem? (i := 1633) (by decide +kernel), List.mem_of_getElem? (i := 889) (by decide +kernel), List.mem_of_getElem? (i := 890) (by decide +kernel), List.mem_of_getElem? (i := 125) (by decide +kernel), List.mem_of_getElem? (i := 891) (by decide +kernel)⟩
theorem wv_RX4_88_X6_size : tw_wV RX4 88 mX6_size := ⟨List.mem_of_getElem? (i := 1632) (by decide +kernel), List.mem_of_getElem? (i := 498) (by decide +kernel), List.mem_of_getElem? (i := 499) (by decide +kernel), List.mem_of_getElem? (i := 125) (by decide +kernel), List.mem_of_getElem? (i := 500) (by decide +kernel)⟩
set_option maxRecDepth 20000 in
theorem K_X4_takeTold {g : tw_Gx} (Q : tw_Rs → tw_Mem → Prop) (a0 : Nat) (a1 : Nat) : tw_Kt g mX4_takeTold 2 0 0 [.ref a0, .ref a1] Q (f_X4_takeTold a0 a1 (fun v => Q (.inl (some (.int v))))) := by
  refine tw_mkK (L := [some (.ref a0), some (.ref a1), none, none, none, none]) mo_X4_takeTold dk_X4_takeTold rfl (Nat.le_of_ble_eq_true rfl) rfl ?_
  unfold f_X4_takeTold
  refine tw_aload_n (k := 0) rfl rfl ?_
  refine tw_iconst (k := 1) (0 : Int32) rfl (by decide) ?_
  refine tw_putI (k := 2) rfl fl_RX4_81 wf_X4_takeTold_81 (by decide +kernel) ?_
  refine tw_aload_n (k := 3) rfl rfl ?_
  refine tw_iconst (k := 4) (0 : Int32) rfl (by decide) ?_
  refine tw_putI (k := 5) rfl fl_RX4_85 wf_X4_takeTold_85 (by decide +kernel) ?_
  refine tw_aload_n (k := 6) rfl rfl ?_
  refine tw_callV (k := 7) (d' := 1) (mc' := 0) (ms' := 0) tw_cI tw_cIi [] rfl rfl wv_RX4_88_X6_size mo_X6_size (t := 6) rfl rfl rfl (fun Q9 => K_X6_size Q9 a1) (by omega) (by decide) (by decide) (Nat.le_of_ble_eq_true rfl) (fun x1 => ?_)
  refine tw_ist_n (k := 8) [some (.ref a0), some (.ref a1), some (.int x1), none, none, none] rfl (Nat.le_of_ble_eq_true rfl) rfl rfl ?_
  refine tw_iload_n (k := 9) rfl rfl ?_
  refine tw_bipush (k := 10) (40 : Int32) rfl (by decide) ?_
  refine tw_icmp_gt (k := 11) 27 rfl (by decide) ?_ ?_
  · refine tw_iconst (k := 16) (0 : Int32) rfl (by decide) ?_
    exact tw_zreturn (k := 17) rfl rfl (by decide) (by decide)
  · refine tw_iload_n (k := 12) rfl rfl ?_
    refine tw_iconst (k := 13) (2 : Int32) rfl (by decide) ?_
    refine tw_irem (k := 14) rfl ?_
    refine tw_if_eq (k := 15) 29 rfl (by decide) ?_ ?_
    · refine tw_iconst (k := 18) (0 : Int32) rfl (by decide) ?_
      refine tw_ist_n (k := 19) [some (.ref a0), some (.ref a1), some (.int x1), some (.int (0 : Int32)), none, none] rfl (Nat.le_of_ble_eq_true rfl) rfl rfl ?_
      refine tw_loop (fun s3 => [some (.ref a0), some (.ref a1), some (.int x1), some (.int s3), none, none]) (fun s3 => []) (fun r2 h2 s3 => ?_) _ rfl rfl
      refine tw_iload_n (k := 20) rfl rfl ?_
      refine tw_iload_n (k := 21) rfl rfl ?_
      refine tw_icmp_ge (k := 22) 118 rfl (by decide) ?_ ?_
      · refine tw_iconst (k := 67) (1 : Int32) rfl (by decide) ?_
        exact tw_zreturn (k := 68) rfl rfl (by decide) (by decide)
      · refine tw_aload_n (k := 23) rfl rfl ?_
        refine tw_iload_n (k := 24) rfl rfl ?_
        refine tw_callV (k := 25) (d' := 1) (mc' := 0) (ms' := 0) tw_cI tw_cIi [.int s3] rfl rfl wv_RX4_94_X6_at mo_X6_at (t := 6) rfl rfl rfl (fun Q9 => K_X6_at Q9 a1 s3) (by omega) (by decide) (by decide) (Nat.le_of_ble_eq_true rfl) (fun x4 => ?_)
        refine tw_ist (k := 26) [some (.ref a0), some (.ref a1), some (.int x1), some (.int s3), some (.int x4), none] rfl (Nat.le_of_ble_eq_true rfl) rfl rfl ?_
        refine tw_aload_n (k := 27) rfl rfl ?_
        refine tw_iload_n (k := 28) rfl rfl ?_
        refine tw_iconst (k := 29) (1 : Int32) rfl (by decide) ?_
        refine tw_iadd (k := 30) rfl ?_
        refine tw_callV (k := 31) (d' := 1) (mc' := 0) (ms' := 0) tw_cI tw_cIi [.int (s3 + (1 : Int32))] rfl rfl wv_RX4_94_X6_at mo_X6_at (t := 6) rfl rfl rfl (fun Q9 => K_X6_at Q9 a1 (s3 + (1 : Int32))) (by omega) (by decide) (by decide) (Nat.le_of_ble_eq_true rfl) (fun x5 => ?_)
        refine tw_ist (k := 32) [some (.ref a0), some (.ref a1), some (.int x1), some (.int s3), some (.int x4), some (.int x5)] rfl (Nat.le_of_ble_eq_true rfl) rfl rfl ?_
        refine tw_iload (k := 33) rfl rfl ?_
        refine tw_if_lt (k := 34) 75 rfl (by decide) ?_ ?_
        · refine tw_iconst (k := 43) (0 : Int32) rfl (by decide) ?_
          exact tw_zreturn (k := 44) rfl rfl (by decide) (by decide)
        · refine tw_iload (k := 35) rfl rfl ?_
          refine tw_bipush (k := 36) (31 : Int32) rfl (by decide) ?_
          refine tw_icmp_ge (k := 37) 75 rfl (by decide) ?_ ?_
          · refine tw_iconst (k := 43) (0 : Int32) rfl (by decide) ?_
            exact tw_zreturn (k := 44) rfl rfl (by decide) (by decide)
          · refine tw_iload (k := 38) rfl rfl ?_
            refine tw_if_lt (k := 39) 75 rfl (by decide) ?_ ?_
            · refine tw_iconst (k := 43) (0 : Int32) rfl (by decide) ?_
              exact tw_zreturn (k := 44) rfl rfl (by decide) (by decide)
            · refine tw_iload (k := 40) rfl rfl ?_
              refine tw_iconst (k := 41) (1 : Int32) rfl (by decide) ?_
              refine tw_icmp_le (k := 42) 77 rfl (by decide) ?_ ?_
              · refine tw_iload (k := 45) rfl rfl ?_
                refine tw_iconst (k := 46) (1 : Int32) rfl (by decide) ?_
                refine tw_join 112 (fun s7 => [some (.ref a0), some (.ref a1), some (.int x1), some (.int s3), some (.int x4), some (.int x5)]) (fun s7 => []) 0 0 (fun s7 => ?_) (fun j6 g6 => ?_)
                · refine tw_inc (k := 65) (2 : Int32) [some (.ref a0), some (.ref a1), some (.int x1), some (.int (s3 + (2 : Int32))), some (.int x4), some (.int x5)] rfl rfl (by decide) (Nat.le_of_ble_eq_true rfl) rfl rfl ?_
                  refine tw_goto (k := 66) 31 rfl (by decide) ?_
                  exact tw_wk (L' := [some (.ref a0), some (.ref a1), some (.int x1), some (.int (s3 + (2 : Int32))), none, none]) ⟨Or.inr rfl, Or.inr rfl, Or.inr rfl, Or.inr rfl, Or.inl rfl, Or.inl rfl, trivial⟩ (h2 (s3 + (2 : Int32)))
                · refine tw_icmp_ne (k := 47) 99 rfl (by decide) ?_ ?_
                  · refine tw_aload_n (k := 57) rfl rfl ?_
                    refine tw_dup (k := 58) rfl rfl ?_
                    refine tw_getI (k := 59) rfl fl_RX4_85 (fun x8 => ?_)
                    refine tw_iconst (k := 60) (1 : Int32) rfl (by decide) ?_
                    refine tw_iload (k := 61) rfl rfl ?_
                    refine tw_ishl (k := 62) rfl ?_
                    refine tw_ior (k := 63) rfl ?_
                    refine tw_putI (k := 64) rfl fl_RX4_85 wf_X4_takeTold_85 (by decide +kernel) ?_
                    exact g6 ()
                  · refine tw_aload_n (k := 48) rfl rfl ?_
                    refine tw_dup (k := 49) rfl rfl ?_
                    refine tw_getI (k := 50) rfl fl_RX4_81 (fun x9 => ?_)
                    refine tw_iconst (k := 51) (1 : Int32) rfl (by decide) ?_
                    refine tw_iload (k := 52) rfl rfl ?_
                    refine tw_ishl (k := 53) rfl ?_
                    refine tw_ior (k := 54) rfl ?_
                    refine tw_putI (k := 55) rfl fl_RX4_81 wf_X4_takeTold_81 (by decide +kernel) ?_
                    refine tw_goto (k := 56) 112 rfl (by decide) ?_
                    exact g6 ()
              · refine tw_iconst (k := 43) (0 : Int32) rfl (by decide) ?_
                exact tw_zreturn (k := 44) rfl rfl (by decide) (by decide)
    · refine tw_iconst (k := 16) (0 : Int32) rfl (by decide) ?_
      exact tw_zreturn (k := 17) rfl rfl (by decide) (by decide)
def mX4_ringingHours : tw_MD := (yX4_ringingHours, cX4_ringingHours, 6, (some FieldType.int), [(0, .aload_n 0, 1, 1), (1, .getfield 22, 3, 4), (4, .aload_n 0, 1, 5), (5, .getfield 18, 3, 8), (8, .iload_n 1, 1, 9), (9, .iload_n 2, 1, 10), (10, .invokevirtual 47, 3, 13), (13, .iconst 0, 1, 14), (14, .istore 4, 2, 16), (16, .iconst 0, 1, 17), (17, .istore 5, 2, 19), (19, .iload 5, 2, 21), (21, .bipush 31, 2, 23), (23, .if_icmp .ge 37, 3, 26), (26, .aload_n 0, 1, 27), (27, .getfield 22, 3, 30), (30, .aload_n 3, 1, 31), (31, .invokevirtual 53, 3, 34), (34, .iconst 4, 1, 35), (35, .if_icmp .ne 12, 3, 38), (38, .iload 4, 2, 40), (40, .iconst 1, 1, 41), (41, .iload 5, 2, 43), (43, .ishl, 1, 44), (44, .ior, 1, 45), (45, .istore 4, 2, 47), (47, .aload_n 0, 1, 48), (48, .getfield 22, 3, 51), (51, .invokevirtual 57, 3, 54), (54, .iinc 5 1, 3, 57), (57, .goto (-38), 3, 60), (60, .iload 4, 2, 62), (62, .ireturn, 1, 63)], [])
theorem mo_X4_ringingHours : tw_mok mX4_ringingHours 3 := ⟨plainFor_of_name (by decide +kernel), by decide +kernel, by decide +kernel, by decide +kernel, by decide +kernel⟩
theorem dk_X4_ringingHours : tw_dk mX4_ringingHours := by unfold tw_dk; decide +kernel
set_option maxRecDepth 20000 in
theorem K_X4_ringingHours {g : tw_Gx} (Q : tw_Rs → tw_Mem → Prop) (a0 : Nat) (a1 : Int32) (a2 : Int32) (a3 : Nat) : tw_Kt g mX4_ringingHours 6 0 0 [.ref a0, .int a1, .int a2, .ref a3] Q (f_X4_ringingHours a0 a1 a2 a3 (fun v => Q (.inl (some (.int v))))) := by
  refine tw_mkK (L := [some (.ref a0), some (.int a1), some (.int a2), some (.ref a3), none, none]) mo_X4_ringingHours dk_X4_ringingHours rfl (Nat.le_of_ble_eq_true rfl) rfl ?_
  unfold f_X4_ringingHours
  refine tw_aload_n (k := 0) rfl rfl ?_
  refine tw_getR (k := 1) rfl fl_RX4_22 (fun x1 => ?_)
  refine tw_aload_n (k := 2) rfl rfl ?_
  refine tw_getR (k := 3) rfl fl_RX4_18 (fun x2 => ?_)
  refine tw_iload_n (k := 4) rfl rfl ?_
  refine tw_iload_n (k := 5) rfl rfl ?_
  refine tw_callV (k := 6) (d' := 4) (mc' := 0) (ms' := 0) tw_cU tw_cUi [.ref x2, .int a1, .int a2] rfl rfl wv_RX4_47_X10_see mo_X10_see (t := 9) rfl rfl rfl (fun Q9 => K_X10_see Q9 x1 x2 a1 a2) (by omega) (by decide) (by decide) (Nat.le_of_ble_eq_true rfl) (fun u3 => ?_)
  refine tw_iconst (k := 7) (0 : Int32) rfl (by decide) ?_
  refine tw_ist (k := 8) [some (.ref a0), some (.int a1), some (.int a2), some (.ref a3), some (.int (0 : Int32)), none] rfl (Nat.le_of_ble_eq_true rfl) rfl rfl ?_
  refine tw_iconst (k := 9) (0 : Int32) rfl (by decide) ?_
  refine tw_ist (k := 10) [some (.ref a0), some (.int a1), some (.int a2), some (.ref a3), some (.int (0 : Int32)), some (.int (0 : Int32))] rfl (Nat.le_of_ble_eq_true rfl) rfl rfl ?_
  refine tw_loop (fun s5 => [some (.ref a0), some (.int a1), some (.int a2), some (.ref a3), some (.int s5.1), some (.int s5.2)]) (fun s5 => []) (fun r4 h4 s5 => ?_) _ rfl rfl
  refine tw_iload (k := 11) rfl rfl ?_
  refine tw_bipush (k := 12) (31 : Int32) rfl (by decide) ?_
  refine tw_icmp_ge (k := 13) 60 rfl (by decide) ?_ ?_
  · refine tw_iload (k := 31) rfl rfl ?_
    exact tw_ireturn (k := 32) rfl rfl (by decide) (by decide)
  · refine tw_aload_n (k := 14) rfl rfl ?_
    refine tw_getR (k := 15) rfl fl_RX4_22 (fun x6 => ?_)
    refine tw_aload_n (k := 16) rfl rfl ?_
    refine tw_callV (k := 17) (d' := 5) (mc' := 0) (ms' := 0) tw_cI tw_cIi [.ref a3] rfl rfl wv_RX4_53_X10_pullOnce mo_X10_pullOnce (t := 9) rfl rfl rfl (fun Q9 => K_X10_pullOnce Q9 x6 a3) (by omega) (by decide) (by decide) (Nat.le_of_ble_eq_true rfl) (fun x7 => ?_)
    refine tw_iconst (k := 18) (4 : Int32) rfl (by decide) ?_
    refine tw_join 47 (fun s9 => [some (.ref a0), some (.int a1), some (.int a2), some (.ref a3), some (.int s9), some (.int s5.2)]) (fun s9 => []) 0 0 (fun s9 => ?_) (fun j8 g8 => ?_)
    · refine tw_aload_n (k := 26) rfl rfl ?_
      refine tw_getR (k := 27) rfl fl_RX4_22 (fun x10 => ?_)
      refine tw_callV (k := 28) (d' := 2) (mc' := 0) (ms' := 0) tw_cU tw_cUi [] rfl rfl wv_RX4_57_X10_passHour mo_X10_passHour (t := 9) rfl rfl rfl (fun Q9 => K_X10_passHour Q9 x10) (by omega) (by decide) (by decide) (Nat.le_of_ble_eq_true rfl) (fun u11 => ?_)
      refine tw_inc (k := 29) (1 : Int32) [some (.ref a0), some (.int a1), some (.int a2), some (.ref a3), some (.int s9), some (.int (s5.2 + (1 : Int32)))] rfl rfl (by decide) (Nat.le_of_ble_eq_true rfl) rfl rfl ?_
      refine tw_goto (k := 30) 19 rfl (by decide) ?_
      exact h4 (s9, s5.2 + (1 : Int32))
    · refine tw_icmp_ne (k := 19) 47 rfl (by decide) ?_ ?_
      · exact g8 s5.1
      · refine tw_iload (k := 20) rfl rfl ?_
        refine tw_iconst (k := 21) (1 : Int32) rfl (by decide) ?_
        refine tw_iload (k := 22) rfl rfl ?_
        refine tw_ishl (k := 23) rfl ?_
        refine tw_ior (k := 24) rfl ?_
        refine tw_let (fun x12 => [some (.ref a0), some (.int a1), some (.int a2), some (.ref a3), some (.int s5.1), some (.int s5.2)]) (fun x12 => .int x12 :: []) rfl rfl (fun x12 => ?_)
        refine tw_ist (k := 25) [some (.ref a0), some (.int a1), some (.int a2), some (.ref a3), some (.int x12), some (.int s5.2)] rfl (Nat.le_of_ble_eq_true rfl) rfl rfl ?_
        exact g8 x12
def mX4_findFitting : tw_MD := (yX4_findFitting, cX4_findFitting, 4, none, [(0, .aload_n 0, 1, 1), (1, .iconst 0, 1, 2), (2, .putfield 97, 3, 5), (5, .iconst 0, 1, 6), (6, .istore_n 2, 1, 7), (7, .iload_n 2, 1, 8), (8, .bipush 64, 2, 10), (10, .if_icmp .ge 114, 3, 13), (13, .aload_n 0, 1, 14), (14, .iload_n 2, 1, 15), (15, .invokevirtual 39, 3, 18), (18, .ifCond .ne 6, 3, 21), (21, .goto 97, 3, 24), (24, .aload_n 0, 1, 25), (25, .iload_n 2, 1, 26), (26, .invokestatic 26, 3, 29), (29, .iload_n 2, 1, 30), (30, .invokestatic 30, 3, 33), (33, .aload_n 1, 1, 34), (34, .invokevirtual 100, 3, 37), (37, .istore_n 3, 1, 38), (38, .iload_n 3, 1, 39), (39, .aload_n 0, 1, 40), (40, .getfield 81, 3, 43), (43, .iand, 1, 44), (44, .aload_n 0, 1, 45), (45, .getfield 81, 3, 48), (48, .if_icmp .ne 70, 3, 51), (51, .iload_n 3, 1, 52), (52, .aload_n 0, 1, 53), (53, .getfield 85, 3, 56), (56, .iand, 1, 57), (57, .ifCond .ne 61, 3, 60), (60, .aload_n 0, 1, 61), (61, .getfield 97, 3, 64), (64, .ifCond .lt 54, 3, 67), (67, .aload_n 0, 1, 68), (68, .getfield 97, 3, 71), (71, .bipush 64, 2, 73), (73, .if_icmp .ge 45, 3, 76), (76, .aload_n 0, 1, 77), (77, .getfield 11, 3, 80), (80, .aload_n 0, 1, 81), (81, .getfield 97, 3, 84), (84, .iload_n 3, 1, 85), (85, .iastore, 1, 86), (86, .aload_n 0, 1, 87), (87, .getfield 15, 3, 90), (90, .aload_n 0, 1, 91), (91, .getfield 97, 3, 94), (94, .iconst 1, 1, 95), (95, .iload_n 2, 1, 96), (96, .invokestatic 26, 3, 99), (99, .ishl, 1, 100), (100, .iconst 1, 1, 101), (101, .iload_n 2, 1, 102), (102, .invokestatic 30, 3, 105), (105, .ishl, 1, 106), (106, .ior, 1, 107), (107, .iastore, 1, 108), (108, .aload_n 0, 1, 109), (109, .dup, 1, 110), (110, .getfield 97, 3, 113), (113, .iconst 1, 1, 114), (114, .iadd, 1, 115), (115, .putfield 97, 3, 118), (118, .iinc 2 1, 3, 121), (121, .goto (-114), 3, 124), (124, .return_, 1, 125)], [])
theorem mo_X4_findFitting : tw_mok mX4_findFitting 1 := ⟨plainFor_of_name (by decide +kernel), by decide +kernel, by decide +kernel, by decide +kernel, by decide +kernel⟩
theorem dk_X4_findFitting : tw_dk mX4_findFitting := by unfold tw_dk; decide +kernel
theorem fl_RX4_97 : tw_fl RX4 97 29 := Or.inl (List.mem_of_getElem? (i := 376) (by decide +kernel))
theorem wf_X4_findFitting_97 : tw_wf mX4_findFitting 97 29 := Or.inl rfl
theorem wv_RX4_100_X4_ringingHours : tw_wV RX4 100 mX4_ringingHours := ⟨List.mem_of_getElem? (i := 1639) (by decide +kernel), List.mem_of_getElem? (i := 1641) (by decide +kernel), List.mem_of_getElem? (i := 41) (by decide +kernel), List.mem_of_getElem? (i := 134) (by decide +kernel), List.mem_of_getElem? (i := 1642) (by decide +kernel)⟩
set_option maxRecDepth 20000 in
theorem K_X4_findFitting {g : tw_Gx} (Q : tw_Rs → tw_Mem → Prop) (a0 : Nat) (a1 : Nat) : tw_Kt g mX4_findFitting 7 0 0 [.ref a0, .ref a1] Q (f_X4_findFitting a0 a1 (fun v => Q (.inl none))) := by
  refine tw_mkK (L := [some (.ref a0), some (.ref a1), none, none]) mo_X4_findFitting dk_X4_findFitting rfl (Nat.le_of_ble_eq_true rfl) rfl ?_
  unfold f_X4_findFitting
  refine tw_aload_n (k := 0) rfl rfl ?_
  refine tw_iconst (k := 1) (0 : Int32) rfl (by decide) ?_
  refine tw_putI (k := 2) rfl fl_RX4_97 wf_X4_findFitting_97 (by decide +kernel) ?_
  refine tw_iconst (k := 3) (0 : Int32) rfl (by decide) ?_
  refine tw_ist_n (k := 4) [some (.ref a0), some (.ref a1), some (.int (0 : Int32)), none] rfl (Nat.le_of_ble_eq_true rfl) rfl rfl ?_
  refine tw_loop (fun s2 => [some (.ref a0), some (.ref a1), some (.int s2), none]) (fun s2 => []) (fun r1 h1 s2 => ?_) _ rfl rfl
  refine tw_iload_n (k := 5) rfl rfl ?_
  refine tw_bipush (k := 6) (64 : Int32) rfl (by decide) ?_
  refine tw_icmp_ge (k := 7) 124 rfl (by decide) ?_ ?_
  · exact tw_return (k := 68) rfl rfl (by decide) (by decide)
  · refine tw_aload_n (k := 8) rfl rfl ?_
    refine tw_iload_n (k := 9) rfl rfl ?_
    refine tw_callV (k := 10) (d' := 2) (mc' := 0) (ms' := 0) tw_cI tw_cIi [.int s2] rfl rfl wv_RX4_39_X4_has mo_X4_has (t := 4) rfl rfl rfl (fun Q9 => K_X4_has Q9 a0 s2) (by omega) (by decide) (by decide) (Nat.le_of_ble_eq_true rfl) (fun x3 => ?_)
    refine tw_join 118 (fun s5 => [some (.ref a0), some (.ref a1), some (.int s2), none]) (fun s5 => []) 0 0 (fun s5 => ?_) (fun j4 g4 => ?_)
    · refine tw_inc (k := 66) (1 : Int32) [some (.ref a0), some (.ref a1), some (.int (s2 + (1 : Int32))), none] rfl rfl (by decide) (Nat.le_of_ble_eq_true rfl) rfl rfl ?_
      refine tw_goto (k := 67) 7 rfl (by decide) ?_
      exact h1 (s2 + (1 : Int32))
    · refine tw_if_ne (k := 11) 24 rfl (by decide) ?_ ?_
      · refine tw_aload_n (k := 13) rfl rfl ?_
        refine tw_iload_n (k := 14) rfl rfl ?_
        refine tw_callS (k := 15) (d' := 1) (mc' := 0) (ms' := 0) tw_cI tw_cIi [.int s2] rfl rfl ws_RX4_26_X4_lesser mo_X4_lesser rfl (fun Q9 => K_X4_lesser Q9 s2) (by omega) (by decide) (by decide) (Nat.le_of_ble_eq_true rfl) (fun x6 => ?_)
        refine tw_iload_n (k := 16) rfl rfl ?_
        refine tw_callS (k := 17) (d' := 1) (mc' := 0) (ms' := 0) tw_cI tw_cIi [.int s2] rfl rfl ws_RX4_30_X4_greater mo_X4_greater rfl (fun Q9 => K_X4_greater Q9 s2) (by omega) (by decide) (by decide) (Nat.le_of_ble_eq_true rfl) (fun x7 => ?_)
        refine tw_aload_n (k := 18) rfl rfl ?_
        refine tw_callV (k := 19) (d' := 6) (mc' := 0) (ms' := 0) tw_cI tw_cIi [.int x6, .int x7, .ref a1] rfl rfl wv_RX4_100_X4_ringingHours mo_X4_ringingHours (t := 4) rfl rfl rfl (fun Q9 => K_X4_ringingHours Q9 a0 x6 x7 a1) (by omega) (by decide) (by decide) (Nat.le_of_ble_eq_true rfl) (fun x8 => ?_)
        refine tw_ist_n (k := 20) [some (.ref a0), some (.ref a1), some (.int s2), some (.int x8)] rfl (Nat.le_of_ble_eq_true rfl) rfl rfl ?_
        refine tw_iload_n (k := 21) rfl rfl ?_
        refine tw_aload_n (k := 22) rfl rfl ?_
        refine tw_getI (k := 23) rfl fl_RX4_81 (fun x9 => ?_)
        refine tw_iand (k := 24) rfl ?_
        refine tw_aload_n (k := 25) rfl rfl ?_
        refine tw_getI (k := 26) rfl fl_RX4_81 (fun x10 => ?_)
        refine tw_icmp_ne (k := 27) 118 rfl (by decide) ?_ ?_
        · exact tw_wk (L' := [some (.ref a0), some (.ref a1), some (.int s2), none]) ⟨Or.inr rfl, Or.inr rfl, Or.inr rfl, Or.inl rfl, trivial⟩ (g4 ())
        · refine tw_iload_n (k := 28) rfl rfl ?_
          refine tw_aload_n (k := 29) rfl rfl ?_
          refine tw_getI (k := 30) rfl fl_RX4_85 (fun x11 => ?_)
          refine tw_iand (k := 31) rfl ?_
          refine tw_if_ne (k := 32) 118 rfl (by decide) ?_ ?_
          · exact tw_wk (L' := [some (.ref a0), some (.ref a1), some (.int s2), none]) ⟨Or.inr rfl, Or.inr rfl, Or.inr rfl, Or.inl rfl, trivial⟩ (g4 ())
          · refine tw_aload_n (k := 33) rfl rfl ?_
            refine tw_getI (k := 34) rfl fl_RX4_97 (fun x12 => ?_)
            refine tw_if_lt (k := 35) 118 rfl (by decide) ?_ ?_
            · exact tw_wk (L' := [some (.ref a0), some (.ref a1), some (.int s2), none]) ⟨Or.inr rfl, Or.inr rfl, Or.inr rfl, Or.inl rfl, trivial⟩ (g4 ())
            · refine tw_aload_n (k := 36) rfl rfl ?_
              refine tw_getI (k := 37) rfl fl_RX4_97 (fun x13 => ?_)
              refine tw_bipush (k := 38) (64 : Int32) rfl (by decide) ?_
              refine tw_icmp_ge (k := 39) 118 rfl (by decide) ?_ ?_
              · exact tw_wk (L' := [some (.ref a0), some (.ref a1), some (.int s2), none]) ⟨Or.inr rfl, Or.inr rfl, Or.inr rfl, Or.inl rfl, trivial⟩ (g4 ())
              · refine tw_aload_n (k := 40) rfl rfl ?_
                refine tw_getR (k := 41) rfl fl_RX4_11 (fun x14 => ?_)
                refine tw_aload_n (k := 42) rfl rfl ?_
                refine tw_getI (k := 43) rfl fl_RX4_97 (fun x15 => ?_)
                refine tw_iload_n (k := 44) rfl rfl ?_
                refine tw_iastore (k := 45) rfl ?_
                refine tw_aload_n (k := 46) rfl rfl ?_
                refine tw_getR (k := 47) rfl fl_RX4_15 (fun x16 => ?_)
                refine tw_aload_n (k := 48) rfl rfl ?_
                refine tw_getI (k := 49) rfl fl_RX4_97 (fun x17 => ?_)
                refine tw_iconst (k := 50) (1 : Int32) rfl (by decide) ?_
                refine tw_iload_n (k := 51) rfl rfl ?_
                refine tw_callS (k := 52) (d' := 1) (mc' := 0) (ms' := 0) tw_cI tw_cIi [.int s2] rfl rfl ws_RX4_26_X4_lesser mo_X4_lesser rfl (fun Q9 => K_X4_lesser Q9 s2) (by omega) (by decide) (by decide) (Nat.le_of_ble_eq_true rfl) (fun x18 => ?_)
                refine tw_ishl (k := 53) rfl ?_
                refine tw_iconst (k := 54) (1 : Int32) rfl (by decide) ?_
                refine tw_iload_n (k := 55) rfl rfl ?_
                refine tw_callS (k := 56) (d' := 1) (mc' := 0) (ms' := 0) tw_cI tw_cIi [.int s2] rfl rfl ws_RX4_30_X4_greater mo_X4_greater rfl (fun Q9 => K_X4_greater Q9 s2) (by omega) (by decide) (by decide) (Nat.le_of_ble_eq_true rfl) (fun x19 => ?_)
                refine tw_ishl (k := 57) rfl ?_
                refine tw_ior (k := 58) rfl ?_
                refine tw_iastore (k := 59) rfl ?_
                refine tw_aload_n (k := 60) rfl rfl ?_
                refine tw_dup (k := 61) rfl rfl ?_
                refine tw_getI (k := 62) rfl fl_RX4_97 (fun x20 => ?_)
                refine tw_iconst (k := 63) (1 : Int32) rfl (by decide) ?_
                refine tw_iadd (k := 64) rfl ?_
                refine tw_putI (k := 65) rfl fl_RX4_97 wf_X4_findFitting_97 (by decide +kernel) ?_
                exact tw_wk (L' := [some (.ref a0), some (.ref a1), some (.int s2), none]) ⟨Or.inr rfl, Or.inr rfl, Or.inr rfl, Or.inl rfl, trivial⟩ (g4 ())
      · refine tw_goto (k := 12) 118 rfl (by decide) ?_
        exact g4 ()
def mX4_fitting : tw_MD := (yX4_fitting, cX4_fitting, 1, (some FieldType.int), [(0, .aload_n 0, 1, 1), (1, .getfield 97, 3, 4), (4, .ireturn, 1, 5)], [])
theorem mo_X4_fitting : tw_mok mX4_fitting 0 := ⟨plainFor_of_name (by decide +kernel), by decide +kernel, by decide +kernel, by decide +kernel, by decide +kernel⟩
theorem dk_X4_fitting : tw_dk mX4_fitting := by unfold tw_dk; decide +kernel
set_option maxRecDepth 20000 in
theorem K_X4_fitting {g : tw_Gx} (Q : tw_Rs → tw_Mem → Prop) (a0 : Nat) : tw_Kt g mX4_fitting 1 0 0 [.ref a0] Q (f_X4_fitting a0 (fun v => Q (.inl (some (.int v))))) := by
  refine tw_mkK (L := [some (.ref a0)]) mo_X4_fitting dk_X4_fitting rfl (Nat.le_of_ble_eq_true rfl) rfl ?_
  unfold f_X4_fitting
  refine tw_aload_n (k := 0) rfl rfl ?_
  refine tw_getI (k := 1) rfl fl_RX4_97 (fun x1 => ?_)
  exact tw_ireturn (k := 2) rfl rfl (by decide) (by decide)
def mX4_inAllFitting : tw_MD := (yX4_inAllFitting, cX4_inAllFitting, 3, (some FieldType.int), [(0, .aload_n 0, 1, 1), (1, .getfield 97, 3, 4), (4, .ifCond .ne 5, 3, 7), (7, .iconst 0, 1, 8), (8, .ireturn, 1, 9), (9, .sipush 255, 3, 12), (12, .istore_n 1, 1, 13), (13, .iconst 0, 1, 14), (14, .istore_n 2, 1, 15), (15, .iload_n 2, 1, 16), (16, .aload_n 0, 1, 17), (17, .getfield 97, 3, 20), (20, .if_icmp .ge 24, 3, 23), (23, .iload_n 2, 1, 24), (24, .bipush 64, 2, 26), (26, .if_icmp .ge 18, 3, 29), (29, .iload_n 1, 1, 30), (30, .aload_n 0, 1, 31), (31, .getfield 15, 3, 34), (34, .iload_n 2, 1, 35), (35, .iaload, 1, 36), (36, .iand, 1, 37), (37, .istore_n 1, 1, 38), (38, .iinc 2 1, 3, 41), (41, .goto (-26), 3, 44), (44, .iload_n 1, 1, 45), (45, .ireturn, 1, 46)], [])
theorem mo_X4_inAllFitting : tw_mok mX4_inAllFitting 0 := ⟨plainFor_of_name (by decide +kernel), by decide +kernel, by decide +kernel, by decide +kernel, by decide +kernel⟩
theorem dk_X4_inAllFitting : tw_dk mX4_inAllFitting := by unfold tw_dk; decide +kernel
set_option maxRecDepth 20000 in
theorem K_X4_inAllFitting {g : tw_Gx} (Q : tw_Rs → tw_Mem → Prop) (a0 : Nat) : tw_Kt g mX4_inAllFitting 1 0 0 [.ref a0] Q (f_X4_inAllFitting a0 (fun v => Q (.inl (some (.int v))))) := by
  refine tw_mkK (L := [some (.ref a0), none, none]) mo_X4_inAllFitting dk_X4_inAllFitting rfl (Nat.le_of_ble_eq_true rfl) rfl ?_
  unfold f_X4_inAllFitting
  refine tw_aload_n (k := 0) rfl rfl ?_
  refine tw_getI (k := 1) rfl fl_RX4_97 (fun x1 => ?_)
  refine tw_if_ne (k := 2) 9 rfl (by decide) ?_ ?_
  · refine tw_sipush (k := 5) (255 : Int32) rfl (by decide) ?_
    refine tw_ist_n (k := 6) [some (.ref a0), some (.int (255 : Int32)), none] rfl (Nat.le_of_ble_eq_true rfl) rfl rfl ?_
    refine tw_iconst (k := 7) (0 : Int32) rfl (by decide) ?_
    refine tw_ist_n (k := 8) [some (.ref a0), some (.int (255 : Int32)), some (.int (0 : Int32))] rfl (Nat.le_of_ble_eq_true rfl) rfl rfl ?_
    refine tw_loop (fun s3 => [some (.ref a0), some (.int s3.1), some (.int s3.2)]) (fun s3 => []) (fun r2 h2 s3 => ?_) _ rfl rfl
    refine tw_iload_n (k := 9) rfl rfl ?_
    refine tw_aload_n (k := 10) rfl rfl ?_
    refine tw_getI (k := 11) rfl fl_RX4_97 (fun x4 => ?_)
    refine tw_icmp_ge (k := 12) 44 rfl (by decide) ?_ ?_
    · refine tw_iload_n (k := 25) rfl rfl ?_
      exact tw_ireturn (k := 26) rfl rfl (by decide) (by decide)
    · refine tw_iload_n (k := 13) rfl rfl ?_
      refine tw_bipush (k := 14) (64 : Int32) rfl (by decide) ?_
      refine tw_icmp_ge (k := 15) 44 rfl (by decide) ?_ ?_
      · refine tw_iload_n (k := 25) rfl rfl ?_
        exact tw_ireturn (k := 26) rfl rfl (by decide) (by decide)
      · refine tw_iload_n (k := 16) rfl rfl ?_
        refine tw_aload_n (k := 17) rfl rfl ?_
        refine tw_getR (k := 18) rfl fl_RX4_15 (fun x5 => ?_)
        refine tw_iload_n (k := 19) rfl rfl ?_
        refine tw_iaload (k := 20) rfl (fun x6 => ?_)
        refine tw_iand (k := 21) rfl ?_
        refine tw_let (fun x7 => [some (.ref a0), some (.int s3.1), some (.int s3.2)]) (fun x7 => .int x7 :: []) rfl rfl (fun x7 => ?_)
        refine tw_ist_n (k := 22) [some (.ref a0), some (.int x7), some (.int s3.2)] rfl (Nat.le_of_ble_eq_true rfl) rfl rfl ?_
        refine tw_inc (k := 23) (1 : Int32) [some (.ref a0), some (.int x7), some (.int (s3.2 + (1 : Int32)))] rfl rfl (by decide) (Nat.le_of_ble_eq_true rfl) rfl rfl ?_
        refine tw_goto (k := 24) 15 rfl (by decide) ?_
        exact h2 (x7, s3.2 + (1 : Int32))
  · refine tw_iconst (k := 3) (0 : Int32) rfl (by decide) ?_
    exact tw_ireturn (k := 4) rfl rfl (by decide) (by decide)
def mX4_fittingThatRing : tw_MD := (yX4_fittingThatRing, cX4_fittingThatRing, 4, (some FieldType.int), [(0, .iconst 0, 1, 1), (1, .istore_n 2, 1, 2), (2, .iconst 0, 1, 3), (3, .istore_n 3, 1, 4), (4, .iload_n 3, 1, 5), (5, .aload_n 0, 1, 6), (6, .getfield 97, 3, 9), (9, .if_icmp .ge 31, 3, 12), (12, .iload_n 3, 1, 13), (13, .bipush 64, 2, 15), (15, .if_icmp .ge 25, 3, 18), (18, .aload_n 0, 1, 19), (19, .getfield 11, 3, 22), (22, .iload_n 3, 1, 23), (23, .iaload, 1, 24), (24, .iload_n 1, 1, 25), (25, .invokestatic 111, 3, 28), (28, .ifCond .eq 6, 3, 31), (31, .iinc 2 1, 3, 34), (34, .iinc 3 1, 3, 37), (37, .goto (-33), 3, 40), (40, .iload_n 2, 1, 41), (41, .ireturn, 1, 42)], [])
theorem mo_X4_fittingThatRing : tw_mok mX4_fittingThatRing 1 := ⟨plainFor_of_name (by decide +kernel), by decide +kernel, by decide +kernel, by decide +kernel, by decide +kernel⟩
theorem dk_X4_fittingThatRing : tw_dk mX4_fittingThatRing := by unfold tw_dk; decide +kernel
theorem wn_RX4_111_X11_isIn : tw_wSN RX4 111 mX11_isIn "TwinRopes" := ⟨List.mem_of_getElem? (i := 1666) (by decide +kernel), List.mem_of_getElem? (i := 556) (by decide +kernel), List.mem_of_getElem? (i := 124) (by decide +kernel), List.mem_of_getElem? (i := 557) (by decide +kernel)⟩
set_option maxRecDepth 20000 in
theorem K_X4_fittingThatRing {g : tw_Gx} (Q : tw_Rs → tw_Mem → Prop) (a0 : Nat) (a1 : Int32) : tw_Kt g mX4_fittingThatRing 2 0 0 [.ref a0, .int a1] Q (f_X4_fittingThatRing a0 a1 (fun v => Q (.inl (some (.int v))))) := by
  refine tw_mkK (L := [some (.ref a0), some (.int a1), none, none]) mo_X4_fittingThatRing dk_X4_fittingThatRing rfl (Nat.le_of_ble_eq_true rfl) rfl ?_
  unfold f_X4_fittingThatRing
  refine tw_iconst (k := 0) (0 : Int32) rfl (by decide) ?_
  refine tw_ist_n (k := 1) [some (.ref a0), some (.int a1), some (.int (0 : Int32)), none] rfl (Nat.le_of_ble_eq_true rfl) rfl rfl ?_
  refine tw_iconst (k := 2) (0 : Int32) rfl (by decide) ?_
  refine tw_ist_n (k := 3) [some (.ref a0), some (.int a1), some (.int (0 : Int32)), some (.int (0 : Int32))] rfl (Nat.le_of_ble_eq_true rfl) rfl rfl ?_
  refine tw_loop (fun s2 => [some (.ref a0), some (.int a1), some (.int s2.1), some (.int s2.2)]) (fun s2 => []) (fun r1 h1 s2 => ?_) _ rfl rfl
  refine tw_iload_n (k := 4) rfl rfl ?_
  refine tw_aload_n (k := 5) rfl rfl ?_
  refine tw_getI (k := 6) rfl fl_RX4_97 (fun x3 => ?_)
  refine tw_icmp_ge (k := 7) 40 rfl (by decide) ?_ ?_
  · refine tw_iload_n (k := 21) rfl rfl ?_
    exact tw_ireturn (k := 22) rfl rfl (by decide) (by decide)
  · refine tw_iload_n (k := 8) rfl rfl ?_
    refine tw_bipush (k := 9) (64 : Int32) rfl (by decide) ?_
    refine tw_icmp_ge (k := 10) 40 rfl (by decide) ?_ ?_
    · refine tw_iload_n (k := 21) rfl rfl ?_
      exact tw_ireturn (k := 22) rfl rfl (by decide) (by decide)
    · refine tw_aload_n (k := 11) rfl rfl ?_
      refine tw_getR (k := 12) rfl fl_RX4_11 (fun x4 => ?_)
      refine tw_iload_n (k := 13) rfl rfl ?_
      refine tw_iaload (k := 14) rfl (fun x5 => ?_)
      refine tw_iload_n (k := 15) rfl rfl ?_
      refine tw_callSN (k := 16) (d' := 1) (mc' := 0) (ms' := 0) tw_cI tw_cIi [.int x5, .int a1] rfl rfl wn_RX4_111_X11_isIn mo_X11_isIn rfl (fun Q9 => K_X11_isIn Q9 x5 a1) (by omega) (by decide) (by decide) (Nat.le_of_ble_eq_true rfl) (fun x6 => ?_)
      refine tw_join 34 (fun s8 => [some (.ref a0), some (.int a1), some (.int s8), some (.int s2.2)]) (fun s8 => []) 0 0 (fun s8 => ?_) (fun j7 g7 => ?_)
      · refine tw_inc (k := 19) (1 : Int32) [some (.ref a0), some (.int a1), some (.int s8), some (.int (s2.2 + (1 : Int32)))] rfl rfl (by decide) (Nat.le_of_ble_eq_true rfl) rfl rfl ?_
        refine tw_goto (k := 20) 4 rfl (by decide) ?_
        exact h1 (s8, s2.2 + (1 : Int32))
      · refine tw_if_eq (k := 17) 34 rfl (by decide) ?_ ?_
        · exact g7 s2.1
        · refine tw_inc (k := 18) (1 : Int32) [some (.ref a0), some (.int a1), some (.int (s2.1 + (1 : Int32))), some (.int s2.2)] rfl rfl (by decide) (Nat.le_of_ble_eq_true rfl) rfl rfl ?_
          exact g7 (s2.1 + (1 : Int32))
def mX4_bestHour : tw_MD := (yX4_bestHour, cX4_bestHour, 6, (some FieldType.int), [(0, .aload_n 0, 1, 1), (1, .getfield 97, 3, 4), (4, .iconst 2, 1, 5), (5, .if_icmp .ge 5, 3, 8), (8, .iconst (-1), 1, 9), (9, .ireturn, 1, 10), (10, .iconst (-1), 1, 11), (11, .istore_n 1, 1, 12), (12, .aload_n 0, 1, 13), (13, .getfield 97, 3, 16), (16, .iconst 1, 1, 17), (17, .iadd, 1, 18), (18, .istore_n 2, 1, 19), (19, .iconst 0, 1, 20), (20, .istore_n 3, 1, 21), (21, .iload_n 3, 1, 22), (22, .bipush 31, 2, 24), (24, .if_icmp .ge 41, 3, 27), (27, .aload_n 0, 1, 28), (28, .iload_n 3, 1, 29), (29, .invokevirtual 103, 3, 32), (32, .istore 4, 2, 34), (34, .iload 4, 2, 36), (36, .aload_n 0, 1, 37), (37, .getfield 97, 3, 40), (40, .iload 4, 2, 42), (42, .isub, 1, 43), (43, .invokestatic 106, 3, 46), (46, .istore 5, 2, 48), (48, .iload 5, 2, 50), (50, .iload_n 2, 1, 51), (51, .if_icmp .ge 8, 3, 54), (54, .iload 5, 2, 56), (56, .istore_n 2, 1, 57), (57, .iload_n 3, 1, 58), (58, .istore_n 1, 1, 59), (59, .iinc 3 1, 3, 62), (62, .goto (-41), 3, 65), (65, .iload_n 1, 1, 66), (66, .ireturn, 1, 67)], [])
theorem mo_X4_bestHour : tw_mok mX4_bestHour 0 := ⟨plainFor_of_name (by decide +kernel), by decide +kernel, by decide +kernel, by decide +kernel, by decide +kernel⟩
theorem dk_X4_bestHour : tw_dk mX4_bestHour := by unfold tw_dk; decide +kernel
theorem ws_RX4_106_J9_max_7cf53 : tw_wS RX4 106 mJ9_max_7cf53 := ⟨List.mem_of_getElem? (i := 1667) (by decide +kernel), List.mem_of_getElem? (i := 582) (by decide +kernel), List.mem_of_getElem? (i := 148) (by decide +kernel), List.mem_of_getElem? (i := 583) (by decide +kernel)⟩
theorem wv_RX4_103_X4_fittingThatRing : tw_wV RX4 103 mX4_fittingThatRing := ⟨List.mem_of_getElem? (i := 1662) (by decide +kernel), List.mem_of_getElem? (i := 1664) (by decide +kernel), List.mem_of_getElem? (i := 42) (by decide +kernel), List.mem_of_getElem? (i := 134) (by decide +kernel), List.mem_of_getElem? (i := 1665) (by decide +kernel)⟩
set_option maxRecDepth 20000 in
theorem K_X4_bestHour {g : tw_Gx} (Q : tw_Rs → tw_Mem → Prop) (a0 : Nat) : tw_Kt g mX4_bestHour 3 0 0 [.ref a0] Q (f_X4_bestHour a0 (fun v => Q (.inl (some (.int v))))) := by
  refine tw_mkK (L := [some (.ref a0), none, none, none, none, none]) mo_X4_bestHour dk_X4_bestHour rfl (Nat.le_of_ble_eq_true rfl) rfl ?_
  unfold f_X4_bestHour
  refine tw_aload_n (k := 0) rfl rfl ?_
  refine tw_getI (k := 1) rfl fl_RX4_97 (fun x1 => ?_)
  refine tw_iconst (k := 2) (2 : Int32) rfl (by decide) ?_
  refine tw_icmp_ge (k := 3) 10 rfl (by decide) ?_ ?_
  · refine tw_iconst (k := 6) (-1 : Int32) rfl (by decide) ?_
    refine tw_ist_n (k := 7) [some (.ref a0), some (.int (-1 : Int32)), none, none, none, none] rfl (Nat.le_of_ble_eq_true rfl) rfl rfl ?_
    refine tw_aload_n (k := 8) rfl rfl ?_
    refine tw_getI (k := 9) rfl fl_RX4_97 (fun x2 => ?_)
    refine tw_iconst (k := 10) (1 : Int32) rfl (by decide) ?_
    refine tw_iadd (k := 11) rfl ?_
    refine tw_let (fun x3 => [some (.ref a0), some (.int (-1 : Int32)), none, none, none, none]) (fun x3 => .int x3 :: []) rfl rfl (fun x3 => ?_)
    refine tw_ist_n (k := 12) [some (.ref a0), some (.int (-1 : Int32)), some (.int x3), none, none, none] rfl (Nat.le_of_ble_eq_true rfl) rfl rfl ?_
    refine tw_iconst (k := 13) (0 : Int32) rfl (by decide) ?_
    refine tw_ist_n (k := 14) [some (.ref a0), some (.int (-1 : Int32)), some (.int x3), some (.int (0 : Int32)), none, none] rfl (Nat.le_of_ble_eq_true rfl) rfl rfl ?_
    refine tw_loop (fun s5 => [some (.ref a0), some (.int s5.1), some (.int s5.2.1), some (.int s5.2.2), none, none]) (fun s5 => []) (fun r4 h4 s5 => ?_) _ rfl rfl
    refine tw_iload_n (k := 15) rfl rfl ?_
    refine tw_bipush (k := 16) (31 : Int32) rfl (by decide) ?_
    refine tw_icmp_ge (k := 17) 65 rfl (by decide) ?_ ?_
    · refine tw_iload_n (k := 38) rfl rfl ?_
      exact tw_ireturn (k := 39) rfl rfl (by decide) (by decide)
    · refine tw_aload_n (k := 18) rfl rfl ?_
      refine tw_iload_n (k := 19) rfl rfl ?_
      refine tw_callV (k := 20) (d' := 2) (mc' := 0) (ms' := 0) tw_cI tw_cIi [.int s5.2.2] rfl rfl wv_RX4_103_X4_fittingThatRing mo_X4_fittingThatRing (t := 4) rfl rfl rfl (fun Q9 => K_X4_fittingThatRing Q9 a0 s5.2.2) (by omega) (by decide) (by decide) (Nat.le_of_ble_eq_true rfl) (fun x6 => ?_)
      refine tw_ist (k := 21) [some (.ref a0), some (.int s5.1), some (.int s5.2.1), some (.int s5.2.2), some (.int x6), none] rfl (Nat.le_of_ble_eq_true rfl) rfl rfl ?_
      refine tw_iload (k := 22) rfl rfl ?_
      refine tw_aload_n (k := 23) rfl rfl ?_
      refine tw_getI (k := 24) rfl fl_RX4_97 (fun x7 => ?_)
      refine tw_iload (k := 25) rfl rfl ?_
      refine tw_isub (k := 26) rfl ?_
      refine tw_callS (k := 27) (d' := 1) (mc' := 0) (ms' := 0) tw_cI tw_cIi [.int x6, .int (x7 - x6)] rfl rfl ws_RX4_106_J9_max_7cf53 mo_J9_max_7cf53 rfl (fun Q9 => K_J9_max_7cf53 Q9 x6 (x7 - x6)) (by omega) (by decide) (by decide) (Nat.le_of_ble_eq_true rfl) (fun x8 => ?_)
      refine tw_ist (k := 28) [some (.ref a0), some (.int s5.1), some (.int s5.2.1), some (.int s5.2.2), some (.int x6), some (.int x8)] rfl (Nat.le_of_ble_eq_true rfl) rfl rfl ?_
      refine tw_iload (k := 29) rfl rfl ?_
      refine tw_iload_n (k := 30) rfl rfl ?_
      refine tw_join 59 (fun s10 => [some (.ref a0), some (.int s10.1), some (.int s10.2), some (.int s5.2.2), some (.int x6), some (.int x8)]) (fun s10 => []) 0 0 (fun s10 => ?_) (fun j9 g9 => ?_)
      · refine tw_inc (k := 36) (1 : Int32) [some (.ref a0), some (.int s10.1), some (.int s10.2), some (.int (s5.2.2 + (1 : Int32))), some (.int x6), some (.int x8)] rfl rfl (by decide) (Nat.le_of_ble_eq_true rfl) rfl rfl ?_
        refine tw_goto (k := 37) 21 rfl (by decide) ?_
        exact tw_wk (L' := [some (.ref a0), some (.int s10.1), some (.int s10.2), some (.int (s5.2.2 + (1 : Int32))), none, none]) ⟨Or.inr rfl, Or.inr rfl, Or.inr rfl, Or.inr rfl, Or.inl rfl, Or.inl rfl, trivial⟩ (h4 (s10.1, s10.2, s5.2.2 + (1 : Int32)))
      · refine tw_icmp_ge (k := 31) 59 rfl (by decide) ?_ ?_
        · exact g9 (s5.1, s5.2.1)
        · refine tw_iload (k := 32) rfl rfl ?_
          refine tw_ist_n (k := 33) [some (.ref a0), some (.int s5.1), some (.int x8), some (.int s5.2.2), some (.int x6), some (.int x8)] rfl (Nat.le_of_ble_eq_true rfl) rfl rfl ?_
          refine tw_iload_n (k := 34) rfl rfl ?_
          refine tw_ist_n (k := 35) [some (.ref a0), some (.int s5.2.2), some (.int x8), some (.int s5.2.2), some (.int x6), some (.int x8)] rfl (Nat.le_of_ble_eq_true rfl) rfl rfl ?_
          exact g9 (s5.2.2, x8)
  · refine tw_iconst (k := 4) (-1 : Int32) rfl (by decide) ?_
    exact tw_ireturn (k := 5) rfl rfl (by decide) (by decide)
def mX4_power : tw_MD := (yX4_power, cX4_power, 6, (some FieldType.long), [(0, .lconst 1, 1, 1), (1, .lstore_n 3, 1, 2), (2, .iconst 0, 1, 3), (3, .istore 5, 2, 5), (5, .iload 5, 2, 7), (7, .iload_n 2, 1, 8), (8, .if_icmp .ge 13, 3, 11), (11, .lload_n 3, 1, 12), (12, .lload_n 0, 1, 13), (13, .lmul, 1, 14), (14, .lstore_n 3, 1, 15), (15, .iinc 5 1, 3, 18), (18, .goto (-13), 3, 21), (21, .lload_n 3, 1, 22), (22, .lreturn, 1, 23)], [])
theorem mo_X4_power : tw_mok mX4_power 2 := ⟨plainFor_of_name (by decide +kernel), by decide +kernel, by decide +kernel, by decide +kernel, by decide +kernel⟩
theorem dk_X4_power : tw_dk mX4_power := by unfold tw_dk; decide +kernel
set_option maxRecDepth 20000 in
theorem K_X4_power {g : tw_Gx} (Q : tw_Rs → tw_Mem → Prop) (a0 : Int64) (a1 : Int32) : tw_Kt g mX4_power 1 0 0 [.long a0, .int a1] Q (f_X4_power a0 a1 (fun v => Q (.inl (some (.long v))))) := by
  refine tw_mkK (L := [some (.long a0), none, some (.int a1), none, none, none]) mo_X4_power dk_X4_power rfl (Nat.le_of_ble_eq_true rfl) rfl ?_
  unfold f_X4_power
  refine tw_lconst (k := 0) (1 : Int64) rfl (by decide) ?_
  refine tw_let (fun x1 => [some (.long a0), none, some (.int a1), none, none, none]) (fun x1 => .long x1 :: []) rfl rfl (fun x1 => ?_)
  refine tw_lst_n (k := 1) [some (.long a0), none, some (.int a1), some (.long x1), none, none] rfl (Nat.le_of_ble_eq_true rfl) rfl rfl ?_
  refine tw_iconst (k := 2) (0 : Int32) rfl (by decide) ?_
  refine tw_ist (k := 3) [some (.long a0), none, some (.int a1), some (.long x1), none, some (.int (0 : Int32))] rfl (Nat.le_of_ble_eq_true rfl) rfl rfl ?_
  refine tw_loop (fun s3 => [some (.long a0), none, some (.int a1), some (.long s3.1), none, some (.int s3.2)]) (fun s3 => []) (fun r2 h2 s3 => ?_) _ rfl rfl
  refine tw_iload (k := 4) rfl rfl ?_
  refine tw_iload_n (k := 5) rfl rfl ?_
  refine tw_icmp_ge (k := 6) 21 rfl (by decide) ?_ ?_
  · refine tw_lload_n (k := 13) rfl rfl ?_
    exact tw_lreturn (k := 14) rfl rfl (by decide) (by decide)
  · refine tw_lload_n (k := 7) rfl rfl ?_
    refine tw_lload_n (k := 8) rfl rfl ?_
    refine tw_lmul (k := 9) rfl ?_
    refine tw_let (fun x4 => [some (.long a0), none, some (.int a1), some (.long s3.1), none, some (.int s3.2)]) (fun x4 => .long x4 :: []) rfl rfl (fun x4 => ?_)
    refine tw_lst_n (k := 10) [some (.long a0), none, some (.int a1), some (.long x4), none, some (.int s3.2)] rfl (Nat.le_of_ble_eq_true rfl) rfl rfl ?_
    refine tw_inc (k := 11) (1 : Int32) [some (.long a0), none, some (.int a1), some (.long x4), none, some (.int (s3.2 + (1 : Int32)))] rfl rfl (by decide) (Nat.le_of_ble_eq_true rfl) rfl rfl ?_
    refine tw_goto (k := 12) 5 rfl (by decide) ?_
    exact h2 (x4, s3.2 + (1 : Int32))
def mX4_oddsOf : tw_MD := (yX4_oddsOf, cX4_oddsOf, 11, (some FieldType.int), [(0, .aload_n 0, 1, 1), (1, .getfield 18, 3, 4), (4, .iload_n 1, 1, 5), (5, .iload_n 2, 1, 6), (6, .invokevirtual 114, 3, 9), (9, .ifCond .eq 24, 3, 12), (12, .aload_n 0, 1, 13), (13, .getfield 18, 3, 16), (16, .iload_n 1, 1, 17), (17, .invokevirtual 117, 3, 20), (20, .aload_n 0, 1, 21), (21, .getfield 18, 3, 24), (24, .iload_n 2, 1, 25), (25, .invokevirtual 117, 3, 28), (28, .imul, 1, 29), (29, .i2l, 1, 30), (30, .goto 4, 3, 33), (33, .lconst 0, 1, 34), (34, .lstore 5, 2, 36), (36, .lconst 0, 1, 37), (37, .lstore 7, 2, 39), (39, .iconst 0, 1, 40), (40, .istore 9, 2, 42), (42, .iload 9, 2, 44), (44, .iconst 1, 1, 45), (45, .iload_n 3, 1, 46), (46, .ishl, 1, 47), (47, .if_icmp .ge 49, 3, 50), (50, .iload 9, 2, 52), (52, .invokestatic 120, 3, 55), (55, .istore 10, 2, 57), (57, .iload 10, 2, 59), (59, .iload 4, 2, 61), (61, .if_icmp .lt 29, 3, 64), (64, .lload 7, 2, 66), (66, .lload 5, 2, 68), (68, .iload 10, 2, 70), (70, .invokestatic 125, 3, 73), (73, .ldc2_w 129, 3, 76), (76, .lload 5, 2, 78), (78, .lsub, 1, 79), (79, .iload_n 3, 1, 80), (80, .iload 10, 2, 82), (82, .isub, 1, 83), (83, .invokestatic 125, 3, 86), (86, .lmul, 1, 87), (87, .ladd, 1, 88), (88, .lstore 7, 2, 90), (90, .iinc 9 1, 3, 93), (93, .goto (-51), 3, 96), (96, .ldc2_w 129, 3, 99), (99, .iload_n 3, 1, 100), (100, .invokestatic 125, 3, 103), (103, .lstore 9, 2, 105), (105, .lload 9, 2, 107), (107, .lconst 0, 1, 108), (108, .lcmp, 1, 109), (109, .ifCond .le 16, 3, 112), (112, .ldc2_w 129, 3, 115), (115, .lload 7, 2, 117), (117, .lmul, 1, 118), (118, .lload 9, 2, 120), (120, .ldiv, 1, 121), (121, .l2i, 1, 122), (122, .goto 4, 3, 125), (125, .iconst 0, 1, 126), (126, .ireturn, 1, 127)], [])
theorem mo_X4_oddsOf : tw_mok mX4_oddsOf 4 := ⟨plainFor_of_name (by decide +kernel), by decide +kernel, by decide +kernel, by decide +kernel, by decide +kernel⟩
theorem dk_X4_oddsOf : tw_dk mX4_oddsOf := by unfold tw_dk; decide +kernel
theorem kl_RX4_129 : Cond.constantLong RX4 129 (10000 : Int64) ∈ lw_tbl := List.mem_of_getElem? (i := 1715) (by decide +kernel)
theorem ws_RX4_125_X4_power : tw_wS RX4 125 mX4_power := ⟨List.mem_of_getElem? (i := 1712) (by decide +kernel), List.mem_of_getElem? (i := 1713) (by decide +kernel), List.mem_of_getElem? (i := 134) (by decide +kernel), List.mem_of_getElem? (i := 1714) (by decide +kernel)⟩
theorem ws_RX4_120_J6_bitCount_0f7a4 : tw_wS RX4 120 mJ6_bitCount_0f7a4 := ⟨List.mem_of_getElem? (i := 1711) (by decide +kernel), List.mem_of_getElem? (i := 648) (by decide +kernel), List.mem_of_getElem? (i := 150) (by decide +kernel), List.mem_of_getElem? (i := 649) (by decide +kernel)⟩
theorem wv_RX4_117_X8_roamsOf : tw_wV RX4 117 mX8_roamsOf := ⟨List.mem_of_getElem? (i := 1710) (by decide +kernel), List.mem_of_getElem? (i := 808) (by decide +kernel), List.mem_of_getElem? (i := 809) (by decide +kernel), List.mem_of_getElem? (i := 126) (by decide +kernel), List.mem_of_getElem? (i := 810) (by decide +kernel)⟩
theorem wv_RX4_114_X8_areNear : tw_wV RX4 114 mX8_areNear := ⟨List.mem_of_getElem? (i := 1709) (by decide +kernel), List.mem_of_getElem? (i := 563) (by decide +kernel), List.mem_of_getElem? (i := 564) (by decide +kernel), List.mem_of_getElem? (i := 126) (by decide +kernel), List.mem_of_getElem? (i := 565) (by decide +kernel)⟩
set_option maxRecDepth 20000 in
theorem K_X4_oddsOf {g : tw_Gx} (Q : tw_Rs → tw_Mem → Prop) (a0 : Nat) (a1 : Int32) (a2 : Int32) (a3 : Int32) (a4 : Int32) : tw_Kt g mX4_oddsOf 4 0 0 [.ref a0, .int a1, .int a2, .int a3, .int a4] Q (f_X4_oddsOf a0 a1 a2 a3 a4 (fun v => Q (.inl (some (.int v))))) := by
  refine tw_mkK (L := [some (.ref a0), some (.int a1), some (.int a2), some (.int a3), some (.int a4), none, none, none, none, none, none]) mo_X4_oddsOf dk_X4_oddsOf rfl (Nat.le_of_ble_eq_true rfl) rfl ?_
  unfold f_X4_oddsOf
  refine tw_aload_n (k := 0) rfl rfl ?_
  refine tw_getR (k := 1) rfl fl_RX4_18 (fun x1 => ?_)
  refine tw_iload_n (k := 2) rfl rfl ?_
  refine tw_iload_n (k := 3) rfl rfl ?_
  refine tw_callV (k := 4) (d' := 3) (mc' := 0) (ms' := 0) tw_cI tw_cIi [.int a1, .int a2] rfl rfl wv_RX4_114_X8_areNear mo_X8_areNear (t := 7) rfl rfl rfl (fun Q9 => K_X8_areNear Q9 x1 a1 a2) (by omega) (by decide) (by decide) (Nat.le_of_ble_eq_true rfl) (fun x2 => ?_)
  refine tw_join 34 (fun s4 => [some (.ref a0), some (.int a1), some (.int a2), some (.int a3), some (.int a4), none, none, none, none, none, none]) (fun s4 => .long s4 :: []) 0 0 (fun s4 => ?_) (fun j3 g3 => ?_)
  · refine tw_lst (k := 18) [some (.ref a0), some (.int a1), some (.int a2), some (.int a3), some (.int a4), some (.long s4), none, none, none, none, none] rfl (Nat.le_of_ble_eq_true rfl) rfl rfl ?_
    refine tw_lconst (k := 19) (0 : Int64) rfl (by decide) ?_
    refine tw_let (fun x5 => [some (.ref a0), some (.int a1), some (.int a2), some (.int a3), some (.int a4), some (.long s4), none, none, none, none, none]) (fun x5 => .long x5 :: []) rfl rfl (fun x5 => ?_)
    refine tw_lst (k := 20) [some (.ref a0), some (.int a1), some (.int a2), some (.int a3), some (.int a4), some (.long s4), none, some (.long x5), none, none, none] rfl (Nat.le_of_ble_eq_true rfl) rfl rfl ?_
    refine tw_iconst (k := 21) (0 : Int32) rfl (by decide) ?_
    refine tw_ist (k := 22) [some (.ref a0), some (.int a1), some (.int a2), some (.int a3), some (.int a4), some (.long s4), none, some (.long x5), none, some (.int (0 : Int32)), none] rfl (Nat.le_of_ble_eq_true rfl) rfl rfl ?_
    refine tw_loop (fun s7 => [some (.ref a0), some (.int a1), some (.int a2), some (.int a3), some (.int a4), some (.long s4), none, some (.long s7.1), none, some (.int s7.2), none]) (fun s7 => []) (fun r6 h6 s7 => ?_) _ rfl rfl
    refine tw_iload (k := 23) rfl rfl ?_
    refine tw_iconst (k := 24) (1 : Int32) rfl (by decide) ?_
    refine tw_iload_n (k := 25) rfl rfl ?_
    refine tw_ishl (k := 26) rfl ?_
    refine tw_icmp_ge (k := 27) 96 rfl (by decide) ?_ ?_
    · refine tw_ldc2 (k := 50) kl_RX4_129 rfl ?_
      refine tw_iload_n (k := 51) rfl rfl ?_
      refine tw_callS (k := 52) (d' := 1) (mc' := 0) (ms' := 0) tw_cL tw_cLi [.long (10000 : Int64), .int a3] rfl rfl ws_RX4_125_X4_power mo_X4_power rfl (fun Q9 => K_X4_power Q9 (10000 : Int64) a3) (by omega) (by decide) (by decide) (Nat.le_of_ble_eq_true rfl) (fun x8 => ?_)
      refine tw_lst (k := 53) [some (.ref a0), some (.int a1), some (.int a2), some (.int a3), some (.int a4), some (.long s4), none, some (.long s7.1), none, some (.long x8), none] rfl (Nat.le_of_ble_eq_true rfl) rfl rfl ?_
      refine tw_lload (k := 54) rfl rfl ?_
      refine tw_lconst (k := 55) (0 : Int64) rfl (by decide) ?_
      refine tw_lcmp (k := 56) rfl ?_
      refine tw_if_le (k := 57) 125 rfl (by decide) ?_ ?_
      · refine tw_iconst (k := 65) (0 : Int32) rfl (by decide) ?_
        exact tw_ireturn (k := 66) rfl rfl (by decide) (by decide)
      · refine tw_ldc2 (k := 58) kl_RX4_129 rfl ?_
        refine tw_lload (k := 59) rfl rfl ?_
        refine tw_lmul (k := 60) rfl ?_
        refine tw_lload (k := 61) rfl rfl ?_
        refine tw_ldiv (k := 62) rfl ?_
        refine tw_l2i (k := 63) rfl ?_
        refine tw_goto (k := 64) 126 rfl (by decide) ?_
        exact tw_ireturn (k := 66) rfl rfl (by decide) (by decide)
    · refine tw_iload (k := 28) rfl rfl ?_
      refine tw_callS (k := 29) (d' := 1) (mc' := 0) (ms' := 0) tw_cI tw_cIi [.int s7.2] rfl rfl ws_RX4_120_J6_bitCount_0f7a4 mo_J6_bitCount_0f7a4 rfl (fun Q9 => K_J6_bitCount_0f7a4 Q9 s7.2) (by omega) (by decide) (by decide) (Nat.le_of_ble_eq_true rfl) (fun x9 => ?_)
      refine tw_ist (k := 30) [some (.ref a0), some (.int a1), some (.int a2), some (.int a3), some (.int a4), some (.long s4), none, some (.long s7.1), none, some (.int s7.2), some (.int x9)] rfl (Nat.le_of_ble_eq_true rfl) rfl rfl ?_
      refine tw_iload (k := 31) rfl rfl ?_
      refine tw_iload (k := 32) rfl rfl ?_
      refine tw_join 90 (fun s11 => [some (.ref a0), some (.int a1), some (.int a2), some (.int a3), some (.int a4), some (.long s4), none, some (.long s11), none, some (.int s7.2), some (.int x9)]) (fun s11 => []) 0 0 (fun s11 => ?_) (fun j10 g10 => ?_)
      · refine tw_inc (k := 48) (1 : Int32) [some (.ref a0), some (.int a1), some (.int a2), some (.int a3), some (.int a4), some (.long s4), none, some (.long s11), none, some (.int (s7.2 + (1 : Int32))), some (.int x9)] rfl rfl (by decide) (Nat.le_of_ble_eq_true rfl) rfl rfl ?_
        refine tw_goto (k := 49) 42 rfl (by decide) ?_
        exact tw_wk (L' := [some (.ref a0), some (.int a1), some (.int a2), some (.int a3), some (.int a4), some (.long s4), none, some (.long s11), none, some (.int (s7.2 + (1 : Int32))), none]) ⟨Or.inr rfl, Or.inr rfl, Or.inr rfl, Or.inr rfl, Or.inr rfl, Or.inr rfl, Or.inl rfl, Or.inr rfl, Or.inl rfl, Or.inr rfl, Or.inl rfl, trivial⟩ (h6 (s11, s7.2 + (1 : Int32)))
      · refine tw_icmp_lt (k := 33) 90 rfl (by decide) ?_ ?_
        · exact g10 s7.1
        · refine tw_lload (k := 34) rfl rfl ?_
          refine tw_lload (k := 35) rfl rfl ?_
          refine tw_iload (k := 36) rfl rfl ?_
          refine tw_callS (k := 37) (d' := 1) (mc' := 0) (ms' := 0) tw_cL tw_cLi [.long s4, .int x9] rfl rfl ws_RX4_125_X4_power mo_X4_power rfl (fun Q9 => K_X4_power Q9 s4 x9) (by omega) (by decide) (by decide) (Nat.le_of_ble_eq_true rfl) (fun x12 => ?_)
          refine tw_ldc2 (k := 38) kl_RX4_129 rfl ?_
          refine tw_lload (k := 39) rfl rfl ?_
          refine tw_lsub (k := 40) rfl ?_
          refine tw_iload_n (k := 41) rfl rfl ?_
          refine tw_iload (k := 42) rfl rfl ?_
          refine tw_isub (k := 43) rfl ?_
          refine tw_callS (k := 44) (d' := 1) (mc' := 0) (ms' := 0) tw_cL tw_cLi [.long ((10000 : Int64) - s4), .int (a3 - x9)] rfl rfl ws_RX4_125_X4_power mo_X4_power rfl (fun Q9 => K_X4_power Q9 ((10000 : Int64) - s4) (a3 - x9)) (by omega) (by decide) (by decide) (Nat.le_of_ble_eq_true rfl) (fun x13 => ?_)
          refine tw_lmul (k := 45) rfl ?_
          refine tw_ladd (k := 46) rfl ?_
          refine tw_let (fun x14 => [some (.ref a0), some (.int a1), some (.int a2), some (.int a3), some (.int a4), some (.long s4), none, some (.long s7.1), none, some (.int s7.2), some (.int x9)]) (fun x14 => .long x14 :: []) rfl rfl (fun x14 => ?_)
          refine tw_lst (k := 47) [some (.ref a0), some (.int a1), some (.int a2), some (.int a3), some (.int a4), some (.long s4), none, some (.long x14), none, some (.int s7.2), some (.int x9)] rfl (Nat.le_of_ble_eq_true rfl) rfl rfl ?_
          exact g10 x14
  · refine tw_if_eq (k := 5) 33 rfl (by decide) ?_ ?_
    · refine tw_lconst (k := 17) (0 : Int64) rfl (by decide) ?_
      exact g3 (0 : Int64)
    · refine tw_aload_n (k := 6) rfl rfl ?_
      refine tw_getR (k := 7) rfl fl_RX4_18 (fun x15 => ?_)
      refine tw_iload_n (k := 8) rfl rfl ?_
      refine tw_callV (k := 9) (d' := 2) (mc' := 0) (ms' := 0) tw_cI tw_cIi [.int a1] rfl rfl wv_RX4_117_X8_roamsOf mo_X8_roamsOf (t := 7) rfl rfl rfl (fun Q9 => K_X8_roamsOf Q9 x15 a1) (by omega) (by decide) (by decide) (Nat.le_of_ble_eq_true rfl) (fun x16 => ?_)
      refine tw_aload_n (k := 10) rfl rfl ?_
      refine tw_getR (k := 11) rfl fl_RX4_18 (fun x17 => ?_)
      refine tw_iload_n (k := 12) rfl rfl ?_
      refine tw_callV (k := 13) (d' := 2) (mc' := 0) (ms' := 0) tw_cI tw_cIi [.int a2] rfl rfl wv_RX4_117_X8_roamsOf mo_X8_roamsOf (t := 7) rfl rfl rfl (fun Q9 => K_X8_roamsOf Q9 x17 a2) (by omega) (by decide) (by decide) (Nat.le_of_ble_eq_true rfl) (fun x18 => ?_)
      refine tw_imul (k := 14) rfl ?_
      refine tw_i2l (k := 15) rfl ?_
      refine tw_goto (k := 16) 34 rfl (by decide) ?_
      exact g3 ((x16 * x18).toInt64)
def mX4_gain : tw_MD := (yX4_gain, cX4_gain, 6, (some FieldType.int), [(0, .aload_n 0, 1, 1), (1, .getfield 18, 3, 4), (4, .iload_n 1, 1, 5), (5, .iload_n 2, 1, 6), (6, .invokevirtual 70, 3, 9), (9, .istore 5, 2, 11), (11, .iload_n 3, 1, 12), (12, .ifCond .ne 21, 3, 15), (15, .iload 5, 2, 17), (17, .aload_n 0, 1, 18), (18, .getfield 18, 3, 21), (21, .getfield 135, 3, 24), (24, .if_icmp .lt 7, 3, 27), (27, .iconst 1, 1, 28), (28, .goto 4, 3, 31), (31, .iconst 0, 1, 32), (32, .ireturn, 1, 33), (33, .iload 4, 2, 35), (35, .ifCond .eq 19, 3, 38), (38, .aload_n 0, 1, 39), (39, .getfield 18, 3, 42), (42, .iload_n 1, 1, 43), (43, .invokevirtual 44, 3, 46), (46, .iconst 2, 1, 47), (47, .iload 5, 2, 49), (49, .imul, 1, 50), (50, .isub, 1, 51), (51, .goto 5, 3, 54), (54, .bipush (-3), 2, 56), (56, .ireturn, 1, 57)], [])
theorem mo_X4_gain : tw_mok mX4_gain 4 := ⟨plainFor_of_name (by decide +kernel), by decide +kernel, by decide +kernel, by decide +kernel, by decide +kernel⟩
theorem dk_X4_gain : tw_dk mX4_gain := by unfold tw_dk; decide +kernel
theorem fl_RX4_135 : tw_fl RX4 135 50 := Or.inr ⟨"TwinRopes", List.mem_of_getElem? (i := 226) (by decide +kernel)⟩
set_option maxRecDepth 20000 in
theorem K_X4_gain {g : tw_Gx} (Q : tw_Rs → tw_Mem → Prop) (a0 : Nat) (a1 : Int32) (a2 : Int32) (a3 : Int32) (a4 : Int32) : tw_Kt g mX4_gain 3 0 0 [.ref a0, .int a1, .int a2, .int a3, .int a4] Q (f_X4_gain a0 a1 a2 a3 a4 (fun v => Q (.inl (some (.int v))))) := by
  refine tw_mkK (L := [some (.ref a0), some (.int a1), some (.int a2), some (.int a3), some (.int a4), none]) mo_X4_gain dk_X4_gain rfl (Nat.le_of_ble_eq_true rfl) rfl ?_
  unfold f_X4_gain
  refine tw_aload_n (k := 0) rfl rfl ?_
  refine tw_getR (k := 1) rfl fl_RX4_18 (fun x1 => ?_)
  refine tw_iload_n (k := 2) rfl rfl ?_
  refine tw_iload_n (k := 3) rfl rfl ?_
  refine tw_callV (k := 4) (d' := 2) (mc' := 0) (ms' := 0) tw_cI tw_cIi [.int a1, .int a2] rfl rfl wv_RX4_70_X8_guessOf mo_X8_guessOf (t := 7) rfl rfl rfl (fun Q9 => K_X8_guessOf Q9 x1 a1 a2) (by omega) (by decide) (by decide) (Nat.le_of_ble_eq_true rfl) (fun x2 => ?_)
  refine tw_ist (k := 5) [some (.ref a0), some (.int a1), some (.int a2), some (.int a3), some (.int a4), some (.int x2)] rfl (Nat.le_of_ble_eq_true rfl) rfl rfl ?_
  refine tw_iload_n (k := 6) rfl rfl ?_
  refine tw_if_ne (k := 7) 33 rfl (by decide) ?_ ?_
  · refine tw_iload (k := 17) rfl rfl ?_
    refine tw_if_eq (k := 18) 54 rfl (by decide) ?_ ?_
    · refine tw_bipush (k := 28) (-3 : Int32) rfl (by decide) ?_
      exact tw_ireturn (k := 29) rfl rfl (by decide) (by decide)
    · refine tw_aload_n (k := 19) rfl rfl ?_
      refine tw_getR (k := 20) rfl fl_RX4_18 (fun x3 => ?_)
      refine tw_iload_n (k := 21) rfl rfl ?_
      refine tw_callV (k := 22) (d' := 2) (mc' := 0) (ms' := 0) tw_cI tw_cIi [.int a1] rfl rfl wv_RX4_44_X8_payOf mo_X8_payOf (t := 7) rfl rfl rfl (fun Q9 => K_X8_payOf Q9 x3 a1) (by omega) (by decide) (by decide) (Nat.le_of_ble_eq_true rfl) (fun x4 => ?_)
      refine tw_iconst (k := 23) (2 : Int32) rfl (by decide) ?_
      refine tw_iload (k := 24) rfl rfl ?_
      refine tw_imul (k := 25) rfl ?_
      refine tw_isub (k := 26) rfl ?_
      refine tw_goto (k := 27) 56 rfl (by decide) ?_
      exact tw_ireturn (k := 29) rfl rfl (by decide) (by decide)
  · refine tw_iload (k := 8) rfl rfl ?_
    refine tw_aload_n (k := 9) rfl rfl ?_
    refine tw_getR (k := 10) rfl fl_RX4_18 (fun x5 => ?_)
    refine tw_getI (k := 11) rfl fl_RX4_135 (fun x6 => ?_)
    refine tw_icmp_lt (k := 12) 31 rfl (by decide) ?_ ?_
    · refine tw_iconst (k := 15) (0 : Int32) rfl (by decide) ?_
      exact tw_ireturn (k := 16) rfl rfl (by decide) (by decide)
    · refine tw_iconst (k := 13) (1 : Int32) rfl (by decide) ?_
      refine tw_goto (k := 14) 32 rfl (by decide) ?_
      exact tw_ireturn (k := 16) rfl rfl (by decide) (by decide)
def mX4_restingChoices : tw_MD := (yX4_restingChoices, cX4_restingChoices, 7, (some FieldType.int), [(0, .iconst 0, 1, 1), (1, .istore_n 3, 1, 2), (2, .iconst 0, 1, 3), (3, .istore 4, 2, 5), (5, .iload 4, 2, 7), (7, .iconst 4, 1, 8), (8, .if_icmp .ge 105, 3, 11), (11, .iload 4, 2, 13), (13, .iconst 2, 1, 14), (14, .if_icmp .ge 7, 3, 17), (17, .iconst 1, 1, 18), (18, .goto 4, 3, 21), (21, .iconst 0, 1, 22), (22, .istore 5, 2, 24), (24, .iload 4, 2, 26), (26, .iconst 2, 1, 27), (27, .irem, 1, 28), (28, .ifCond .ne 7, 3, 31), (31, .iconst 1, 1, 32), (32, .goto 4, 3, 35), (35, .iconst 0, 1, 36), (36, .istore 6, 2, 38), (38, .aload_n 0, 1, 39), (39, .iload_n 1, 1, 40), (40, .iload_n 2, 1, 41), (41, .iload 5, 2, 43), (43, .iload 6, 2, 45), (45, .invokevirtual 131, 3, 48), (48, .aload_n 0, 1, 49), (49, .iload_n 1, 1, 50), (50, .iload_n 2, 1, 51), (51, .iload 5, 2, 53), (53, .ifCond .ne 7, 3, 56), (56, .iconst 1, 1, 57), (57, .goto 4, 3, 60), (60, .iconst 0, 1, 61), (61, .iload 6, 2, 63), (63, .invokevirtual 131, 3, 66), (66, .if_icmp .lt 41, 3, 69), (69, .aload_n 0, 1, 70), (70, .iload_n 2, 1, 71), (71, .iload_n 1, 1, 72), (72, .iload 6, 2, 74), (74, .iload 5, 2, 76), (76, .invokevirtual 131, 3, 79), (79, .aload_n 0, 1, 80), (80, .iload_n 2, 1, 81), (81, .iload_n 1, 1, 82), (82, .iload 6, 2, 84), (84, .ifCond .ne 7, 3, 87), (87, .iconst 1, 1, 88), (88, .goto 4, 3, 91), (91, .iconst 0, 1, 92), (92, .iload 5, 2, 94), (94, .invokevirtual 131, 3, 97), (97, .if_icmp .lt 10, 3, 100), (100, .iload_n 3, 1, 101), (101, .iconst 1, 1, 102), (102, .iload 4, 2, 104), (104, .ishl, 1, 105), (105, .ior, 1, 106), (106, .istore_n 3, 1, 107), (107, .iinc 4 1, 3, 110), (110, .goto (-105), 3, 113), (113, .iload_n 3, 1, 114), (114, .ireturn, 1, 115)], [])
theorem mo_X4_restingChoices : tw_mok mX4_restingChoices 2 := ⟨plainFor_of_name (by decide +kernel), by decide +kernel, by decide +kernel, by decide +kernel, by decide +kernel⟩
theorem dk_X4_restingChoices : tw_dk mX4_restingChoices := by unfold tw_dk; decide +kernel
theorem wv_RX4_131_X4_gain : tw_wV RX4 131 mX4_gain := ⟨List.mem_of_getElem? (i := 1727) (by decide +kernel), List.mem_of_getElem? (i := 1729) (by decide +kernel), List.mem_of_getElem? (i := 43) (by decide +kernel), List.mem_of_getElem? (i := 134) (by decide +kernel), List.mem_of_getElem? (i := 1730) (by decide +kernel)⟩
set_option maxRecDepth 20000 in
theorem K_X4_restingChoices {g : tw_Gx} (Q : tw_Rs → tw_Mem → Prop) (a0 : Nat) (a1 : Int32) (a2 : Int32) : tw_Kt g mX4_restingChoices 4 0 0 [.ref a0, .int a1, .int a2] Q (f_X4_restingChoices a0 a1 a2 (fun v => Q (.inl (some (.int v))))) := by
  refine tw_mkK (L := [some (.ref a0), some (.int a1), some (.int a2), none, none, none, none]) mo_X4_restingChoices dk_X4_restingChoices rfl (Nat.le_of_ble_eq_true rfl) rfl ?_
  unfold f_X4_restingChoices
  refine tw_iconst (k := 0) (0 : Int32) rfl (by decide) ?_
  refine tw_ist_n (k := 1) [some (.ref a0), some (.int a1), some (.int a2), some (.int (0 : Int32)), none, none, none] rfl (Nat.le_of_ble_eq_true rfl) rfl rfl ?_
  refine tw_iconst (k := 2) (0 : Int32) rfl (by decide) ?_
  refine tw_ist (k := 3) [some (.ref a0), some (.int a1), some (.int a2), some (.int (0 : Int32)), some (.int (0 : Int32)), none, none] rfl (Nat.le_of_ble_eq_true rfl) rfl rfl ?_
  refine tw_loop (fun s2 => [some (.ref a0), some (.int a1), some (.int a2), some (.int s2.1), some (.int s2.2), none, none]) (fun s2 => []) (fun r1 h1 s2 => ?_) _ rfl rfl
  refine tw_iload (k := 4) rfl rfl ?_
  refine tw_iconst (k := 5) (4 : Int32) rfl (by decide) ?_
  refine tw_icmp_ge (k := 6) 113 rfl (by decide) ?_ ?_
  · refine tw_iload_n (k := 64) rfl rfl ?_
    exact tw_ireturn (k := 65) rfl rfl (by decide) (by decide)
  · refine tw_iload (k := 7) rfl rfl ?_
    refine tw_iconst (k := 8) (2 : Int32) rfl (by decide) ?_
    refine tw_join 22 (fun s4 => [some (.ref a0), some (.int a1), some (.int a2), some (.int s2.1), some (.int s2.2), none, none]) (fun s4 => .int s4 :: []) 0 0 (fun s4 => ?_) (fun j3 g3 => ?_)
    · refine tw_ist (k := 13) [some (.ref a0), some (.int a1), some (.int a2), some (.int s2.1), some (.int s2.2), some (.int s4), none] rfl (Nat.le_of_ble_eq_true rfl) rfl rfl ?_
      refine tw_iload (k := 14) rfl rfl ?_
      refine tw_iconst (k := 15) (2 : Int32) rfl (by decide) ?_
      refine tw_irem (k := 16) rfl ?_
      refine tw_join 36 (fun s6 => [some (.ref a0), some (.int a1), some (.int a2), some (.int s2.1), some (.int s2.2), some (.int s4), none]) (fun s6 => .int s6 :: []) 0 0 (fun s6 => ?_) (fun j5 g5 => ?_)
      · refine tw_ist (k := 21) [some (.ref a0), some (.int a1), some (.int a2), some (.int s2.1), some (.int s2.2), some (.int s4), some (.int s6)] rfl (Nat.le_of_ble_eq_true rfl) rfl rfl ?_
        refine tw_aload_n (k := 22) rfl rfl ?_
        refine tw_iload_n (k := 23) rfl rfl ?_
        refine tw_iload_n (k := 24) rfl rfl ?_
        refine tw_iload (k := 25) rfl rfl ?_
        refine tw_iload (k := 26) rfl rfl ?_
        refine tw_callV (k := 27) (d' := 3) (mc' := 0) (ms' := 0) tw_cI tw_cIi [.int a1, .int a2, .int s4, .int s6] rfl rfl wv_RX4_131_X4_gain mo_X4_gain (t := 4) rfl rfl rfl (fun Q9 => K_X4_gain Q9 a0 a1 a2 s4 s6) (by omega) (by decide) (by decide) (Nat.le_of_ble_eq_true rfl) (fun x7 => ?_)
        refine tw_aload_n (k := 28) rfl rfl ?_
        refine tw_iload_n (k := 29) rfl rfl ?_
        refine tw_iload_n (k := 30) rfl rfl ?_
        refine tw_iload (k := 31) rfl rfl ?_
        refine tw_join 61 (fun s9 => [some (.ref a0), some (.int a1), some (.int a2), some (.int s2.1), some (.int s2.2), some (.int s4), some (.int s6)]) (fun s9 => .int s9 :: .int a2 :: .int a1 :: .ref a0 :: .int x7 :: []) 0 0 (fun s9 => ?_) (fun j8 g8 => ?_)
        · refine tw_iload (k := 36) rfl rfl ?_
          refine tw_callV (k := 37) (d' := 3) (mc' := 0) (ms' := 0) tw_cI tw_cIi [.int a1, .int a2, .int s9, .int s6] rfl rfl wv_RX4_131_X4_gain mo_X4_gain (t := 4) rfl rfl rfl (fun Q9 => K_X4_gain Q9 a0 a1 a2 s9 s6) (by omega) (by decide) (by decide) (Nat.le_of_ble_eq_true rfl) (fun x10 => ?_)
          refine tw_join 107 (fun s12 => [some (.ref a0), some (.int a1), some (.int a2), some (.int s12), some (.int s2.2), some (.int s4), some (.int s6)]) (fun s12 => []) 0 0 (fun s12 => ?_) (fun j11 g11 => ?_)
          · refine tw_inc (k := 62) (1 : Int32) [some (.ref a0), some (.int a1), some (.int a2), some (.int s12), some (.int (s2.2 + (1 : Int32))), some (.int s4), some (.int s6)] rfl rfl (by decide) (Nat.le_of_ble_eq_true rfl) rfl rfl ?_
            refine tw_goto (k := 63) 5 rfl (by decide) ?_
            exact tw_wk (L' := [some (.ref a0), some (.int a1), some (.int a2), some (.int s12), some (.int (s2.2 + (1 : Int32))), none, none]) ⟨Or.inr rfl, Or.inr rfl, Or.inr rfl, Or.inr rfl, Or.inr rfl, Or.inl rfl, Or.inl rfl, trivial⟩ (h1 (s12, s2.2 + (1 : Int32)))
          · refine tw_icmp_lt (k := 38) 107 rfl (by decide) ?_ ?_
            · exact g11 s2.1
            · refine tw_aload_n (k := 39) rfl rfl ?_
              refine tw_iload_n (k := 40) rfl rfl ?_
              refine tw_iload_n (k := 41) rfl rfl ?_
              refine tw_iload (k := 42) rfl rfl ?_
              refine tw_iload (k := 43) rfl rfl ?_
              refine tw_callV (k := 44) (d' := 3) (mc' := 0) (ms' := 0) tw_cI tw_cIi [.int a2, .int a1, .int s6, .int s4] rfl rfl wv_RX4_131_X4_gain mo_X4_gain (t := 4) rfl rfl rfl (fun Q9 => K_X4_gain Q9 a0 a2 a1 s6 s4) (by omega) (by decide) (by decide) (Nat.le_of_ble_eq_true rfl) (fun x13 => ?_)
              refine tw_aload_n (k := 45) rfl rfl ?_
              refine tw_iload_n (k := 46) rfl rfl ?_
              refine tw_iload_n (k := 47) rfl rfl ?_
              refine tw_iload (k := 48) rfl rfl ?_
              refine tw_join 92 (fun s15 => [some (.ref a0), some (.int a1), some (.int a2), some (.int s2.1), some (.int s2.2), some (.int s4), some (.int s6)]) (fun s15 => .int s15 :: .int a1 :: .int a2 :: .ref a0 :: .int x13 :: []) 0 0 (fun s15 => ?_) (fun j14 g14 => ?_)
              · refine tw_iload (k := 53) rfl rfl ?_
                refine tw_callV (k := 54) (d' := 3) (mc' := 0) (ms' := 0) tw_cI tw_cIi [.int a2, .int a1, .int s15, .int s4] rfl rfl wv_RX4_131_X4_gain mo_X4_gain (t := 4) rfl rfl rfl (fun Q9 => K_X4_gain Q9 a0 a2 a1 s15 s4) (by omega) (by decide) (by decide) (Nat.le_of_ble_eq_true rfl) (fun x16 => ?_)
                refine tw_icmp_lt (k := 55) 107 rfl (by decide) ?_ ?_
                · exact g11 s2.1
                · refine tw_iload_n (k := 56) rfl rfl ?_
                  refine tw_iconst (k := 57) (1 : Int32) rfl (by decide) ?_
                  refine tw_iload (k := 58) rfl rfl ?_
                  refine tw_ishl (k := 59) rfl ?_
                  refine tw_ior (k := 60) rfl ?_
                  refine tw_let (fun x17 => [some (.ref a0), some (.int a1), some (.int a2), some (.int s2.1), some (.int s2.2), some (.int s4), some (.int s6)]) (fun x17 => .int x17 :: []) rfl rfl (fun x17 => ?_)
                  refine tw_ist_n (k := 61) [some (.ref a0), some (.int a1), some (.int a2), some (.int x17), some (.int s2.2), some (.int s4), some (.int s6)] rfl (Nat.le_of_ble_eq_true rfl) rfl rfl ?_
                  exact g11 x17
              · refine tw_if_ne (k := 49) 91 rfl (by decide) ?_ ?_
                · refine tw_iconst (k := 52) (0 : Int32) rfl (by decide) ?_
                  exact g14 (0 : Int32)
                · refine tw_iconst (k := 50) (1 : Int32) rfl (by decide) ?_
                  refine tw_goto (k := 51) 92 rfl (by decide) ?_
                  exact g14 (1 : Int32)
        · refine tw_if_ne (k := 32) 60 rfl (by decide) ?_ ?_
          · refine tw_iconst (k := 35) (0 : Int32) rfl (by decide) ?_
            exact g8 (0 : Int32)
          · refine tw_iconst (k := 33) (1 : Int32) rfl (by decide) ?_
            refine tw_goto (k := 34) 61 rfl (by decide) ?_
            exact g8 (1 : Int32)
      · refine tw_if_ne (k := 17) 35 rfl (by decide) ?_ ?_
        · refine tw_iconst (k := 20) (0 : Int32) rfl (by decide) ?_
          exact g5 (0 : Int32)
        · refine tw_iconst (k := 18) (1 : Int32) rfl (by decide) ?_
          refine tw_goto (k := 19) 36 rfl (by decide) ?_
          exact g5 (1 : Int32)
    · refine tw_icmp_ge (k := 9) 21 rfl (by decide) ?_ ?_
      · refine tw_iconst (k := 12) (0 : Int32) rfl (by decide) ?_
        exact g3 (0 : Int32)
      · refine tw_iconst (k := 10) (1 : Int32) rfl (by decide) ?_
        refine tw_goto (k := 11) 22 rfl (by decide) ?_
        exact g3 (1 : Int32)
