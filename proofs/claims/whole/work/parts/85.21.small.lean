def mX6_init : tw_MD := (yX6_init, cX6_init, 1, none, [(0, .aload_n 0, 1, 1), (1, .invokespecial 3, 3, 4), (4, .aload_n 0, 1, 5), (5, .sipush 400, 3, 8), (8, .newarray .int, 2, 10), (10, .putfield 11, 3, 13), (13, .return_, 1, 14)], [])
theorem mo_X6_init : tw_mok mX6_init 0 := ⟨plainFor_of_name (by decide +kernel), by decide +kernel, by decide +kernel, by decide +kernel, by decide +kernel⟩
theorem dk_X6_init : tw_dk mX6_init := by unfold tw_dk; decide +kernel
theorem km_RX6_3 : Cond.methodLink RX6 3 Lib.objectInit ∈ lw_tbl := List.mem_of_getElem? (i := 166) (by decide +kernel)
theorem koi : Cond.instanceMethod Lib.objectInit ∈ lw_tbl := List.mem_of_getElem? (i := 159) (by decide +kernel)
theorem koc : Cond.code Lib.objectInit ⟨#[0xb1]⟩ 1 none ∈ lw_tbl := List.mem_of_getElem? (i := 160) (by decide +kernel)
theorem fl_RX6_11 : tw_fl RX6 11 37 := Or.inl (List.mem_of_getElem? (i := 167) (by decide +kernel))
theorem wf_X6_init_11 : tw_wf mX6_init 11 37 := Or.inr ⟨by decide +kernel, by decide +kernel, List.mem_of_getElem? (i := 167) (by decide +kernel)⟩
set_option maxRecDepth 20000 in
theorem K_X6_init {g : tw_Gx} (Q : tw_Rs → tw_Mem → Prop) (a0 : Nat) : tw_Kt g mX6_init 1 1 400 [.ref a0] Q (f_X6_init a0 (fun v => Q (.inl none))) := by
  refine tw_mkK (L := [some (.ref a0)]) mo_X6_init dk_X6_init rfl (Nat.le_of_ble_eq_true rfl) rfl ?_
  unfold f_X6_init
  refine tw_aload_n (k := 0) rfl rfl ?_
  refine tw_objInit (k := 1) rfl km_RX6_3 koi koc (by omega) (Nat.le_of_ble_eq_true rfl) ?_
  refine tw_aload_n (k := 2) rfl rfl ?_
  refine tw_sipush (k := 3) (400 : Int32) rfl (by decide) ?_
  refine tw_newI (k := 4) 400 rfl ka_int (by decide) (by decide) (by decide) (fun b1 => ?_)
  refine tw_putR (k := 5) (ty := (.array .int)) rfl fl_RX6_11 wf_X6_init_11 (by decide +kernel) rfl rfl ?_
  exact tw_return (k := 6) rfl rfl (by decide) (by decide)
def mX6_size : tw_MD := (yX6_size, cX6_size, 1, (some FieldType.int), [(0, .aload_n 0, 1, 1), (1, .getfield 15, 3, 4), (4, .ireturn, 1, 5)], [])
theorem mo_X6_size : tw_mok mX6_size 0 := ⟨plainFor_of_name (by decide +kernel), by decide +kernel, by decide +kernel, by decide +kernel, by decide +kernel⟩
theorem dk_X6_size : tw_dk mX6_size := by unfold tw_dk; decide +kernel
theorem fl_RX6_15 : tw_fl RX6 15 38 := Or.inl (List.mem_of_getElem? (i := 168) (by decide +kernel))
set_option maxRecDepth 20000 in
theorem K_X6_size {g : tw_Gx} (Q : tw_Rs → tw_Mem → Prop) (a0 : Nat) : tw_Kt g mX6_size 1 0 0 [.ref a0] Q (f_X6_size a0 (fun v => Q (.inl (some (.int v))))) := by
  refine tw_mkK (L := [some (.ref a0)]) mo_X6_size dk_X6_size rfl (Nat.le_of_ble_eq_true rfl) rfl ?_
  unfold f_X6_size
  refine tw_aload_n (k := 0) rfl rfl ?_
  refine tw_getI (k := 1) rfl fl_RX6_15 (fun x1 => ?_)
  exact tw_ireturn (k := 2) rfl rfl (by decide) (by decide)
def mX6_at : tw_MD := (yX6_at, cX6_at, 2, (some FieldType.int), [(0, .iload_n 1, 1, 1), (1, .ifCond .lt 27, 3, 4), (4, .iload_n 1, 1, 5), (5, .aload_n 0, 1, 6), (6, .getfield 15, 3, 9), (9, .if_icmp .ge 19, 3, 12), (12, .iload_n 1, 1, 13), (13, .sipush 400, 3, 16), (16, .if_icmp .ge 12, 3, 19), (19, .aload_n 0, 1, 20), (20, .getfield 11, 3, 23), (23, .iload_n 1, 1, 24), (24, .iaload, 1, 25), (25, .goto 4, 3, 28), (28, .iconst (-1), 1, 29), (29, .ireturn, 1, 30)], [])
theorem mo_X6_at : tw_mok mX6_at 1 := ⟨plainFor_of_name (by decide +kernel), by decide +kernel, by decide +kernel, by decide +kernel, by decide +kernel⟩
theorem dk_X6_at : tw_dk mX6_at := by unfold tw_dk; decide +kernel
set_option maxRecDepth 20000 in
theorem K_X6_at {g : tw_Gx} (Q : tw_Rs → tw_Mem → Prop) (a0 : Nat) (a1 : Int32) : tw_Kt g mX6_at 1 0 0 [.ref a0, .int a1] Q (f_X6_at a0 a1 (fun v => Q (.inl (some (.int v))))) := by
  refine tw_mkK (L := [some (.ref a0), some (.int a1)]) mo_X6_at dk_X6_at rfl (Nat.le_of_ble_eq_true rfl) rfl ?_
  unfold f_X6_at
  refine tw_iload_n (k := 0) rfl rfl ?_
  refine tw_if_lt (k := 1) 28 rfl (by decide) ?_ ?_
  · refine tw_iconst (k := 14) (-1 : Int32) rfl (by decide) ?_
    exact tw_ireturn (k := 15) rfl rfl (by decide) (by decide)
  · refine tw_iload_n (k := 2) rfl rfl ?_
    refine tw_aload_n (k := 3) rfl rfl ?_
    refine tw_getI (k := 4) rfl fl_RX6_15 (fun x1 => ?_)
    refine tw_icmp_ge (k := 5) 28 rfl (by decide) ?_ ?_
    · refine tw_iconst (k := 14) (-1 : Int32) rfl (by decide) ?_
      exact tw_ireturn (k := 15) rfl rfl (by decide) (by decide)
    · refine tw_iload_n (k := 6) rfl rfl ?_
      refine tw_sipush (k := 7) (400 : Int32) rfl (by decide) ?_
      refine tw_icmp_ge (k := 8) 28 rfl (by decide) ?_ ?_
      · refine tw_iconst (k := 14) (-1 : Int32) rfl (by decide) ?_
        exact tw_ireturn (k := 15) rfl rfl (by decide) (by decide)
      · refine tw_aload_n (k := 9) rfl rfl ?_
        refine tw_getR (k := 10) rfl fl_RX6_11 (fun x2 => ?_)
        refine tw_iload_n (k := 11) rfl rfl ?_
        refine tw_iaload (k := 12) rfl (fun x3 => ?_)
        refine tw_goto (k := 13) 29 rfl (by decide) ?_
        exact tw_ireturn (k := 15) rfl rfl (by decide) (by decide)
def mX6_hasRoomForFive : tw_MD := (yX6_hasRoomForFive, cX6_hasRoomForFive, 1, (some FieldType.boolean), [(0, .aload_n 0, 1, 1), (1, .getfield 15, 3, 4), (4, .bipush 20, 2, 6), (6, .iadd, 1, 7), (7, .sipush 400, 3, 10), (10, .if_icmp .gt 7, 3, 13), (13, .iconst 1, 1, 14), (14, .goto 4, 3, 17), (17, .iconst 0, 1, 18), (18, .ireturn, 1, 19)], [])
theorem mo_X6_hasRoomForFive : tw_mok mX6_hasRoomForFive 0 := ⟨plainFor_of_name (by decide +kernel), by decide +kernel, by decide +kernel, by decide +kernel, by decide +kernel⟩
theorem dk_X6_hasRoomForFive : tw_dk mX6_hasRoomForFive := by unfold tw_dk; decide +kernel
set_option maxRecDepth 20000 in
theorem K_X6_hasRoomForFive {g : tw_Gx} (Q : tw_Rs → tw_Mem → Prop) (a0 : Nat) : tw_Kt g mX6_hasRoomForFive 1 0 0 [.ref a0] Q (f_X6_hasRoomForFive a0 (fun v => Q (.inl (some (.int v))))) := by
  refine tw_mkK (L := [some (.ref a0)]) mo_X6_hasRoomForFive dk_X6_hasRoomForFive rfl (Nat.le_of_ble_eq_true rfl) rfl ?_
  unfold f_X6_hasRoomForFive
  refine tw_aload_n (k := 0) rfl rfl ?_
  refine tw_getI (k := 1) rfl fl_RX6_15 (fun x1 => ?_)
  refine tw_bipush (k := 2) (20 : Int32) rfl (by decide) ?_
  refine tw_iadd (k := 3) rfl ?_
  refine tw_sipush (k := 4) (400 : Int32) rfl (by decide) ?_
  refine tw_icmp_gt (k := 5) 17 rfl (by decide) ?_ ?_
  · refine tw_iconst (k := 8) (0 : Int32) rfl (by decide) ?_
    exact tw_zreturn (k := 9) rfl rfl (by decide) (by decide)
  · refine tw_iconst (k := 6) (1 : Int32) rfl (by decide) ?_
    refine tw_goto (k := 7) 18 rfl (by decide) ?_
    exact tw_zreturn (k := 9) rfl rfl (by decide) (by decide)
def mX6_add : tw_MD := (yX6_add, cX6_add, 3, none, [(0, .bipush 24, 2, 2), (2, .istore_n 2, 1, 3), (3, .iload_n 2, 1, 4), (4, .ifCond .lt 52, 3, 7), (7, .aload_n 0, 1, 8), (8, .getfield 15, 3, 11), (11, .ifCond .lt 45, 3, 14), (14, .aload_n 0, 1, 15), (15, .getfield 15, 3, 18), (18, .sipush 400, 3, 21), (21, .if_icmp .ge 35, 3, 24), (24, .aload_n 0, 1, 25), (25, .getfield 11, 3, 28), (28, .aload_n 0, 1, 29), (29, .getfield 15, 3, 32), (32, .iload_n 1, 1, 33), (33, .iload_n 2, 1, 34), (34, .iushr, 1, 35), (35, .sipush 255, 3, 38), (38, .iand, 1, 39), (39, .iastore, 1, 40), (40, .aload_n 0, 1, 41), (41, .dup, 1, 42), (42, .getfield 15, 3, 45), (45, .iconst 1, 1, 46), (46, .iadd, 1, 47), (47, .putfield 15, 3, 50), (50, .iinc 2 (-8), 3, 53), (53, .goto (-50), 3, 56), (56, .return_, 1, 57)], [])
theorem mo_X6_add : tw_mok mX6_add 1 := ⟨plainFor_of_name (by decide +kernel), by decide +kernel, by decide +kernel, by decide +kernel, by decide +kernel⟩
theorem dk_X6_add : tw_dk mX6_add := by unfold tw_dk; decide +kernel
theorem wf_X6_add_15 : tw_wf mX6_add 15 38 := Or.inl rfl
set_option maxRecDepth 20000 in
theorem K_X6_add {g : tw_Gx} (Q : tw_Rs → tw_Mem → Prop) (a0 : Nat) (a1 : Int32) : tw_Kt g mX6_add 1 0 0 [.ref a0, .int a1] Q (f_X6_add a0 a1 (fun v => Q (.inl none))) := by
  refine tw_mkK (L := [some (.ref a0), some (.int a1), none]) mo_X6_add dk_X6_add rfl (Nat.le_of_ble_eq_true rfl) rfl ?_
  unfold f_X6_add
  refine tw_bipush (k := 0) (24 : Int32) rfl (by decide) ?_
  refine tw_ist_n (k := 1) [some (.ref a0), some (.int a1), some (.int (24 : Int32))] rfl (Nat.le_of_ble_eq_true rfl) rfl rfl ?_
  refine tw_loop (fun s2 => [some (.ref a0), some (.int a1), some (.int s2)]) (fun s2 => []) (fun r1 h1 s2 => ?_) _ rfl rfl
  refine tw_iload_n (k := 2) rfl rfl ?_
  refine tw_if_lt (k := 3) 56 rfl (by decide) ?_ ?_
  · exact tw_return (k := 29) rfl rfl (by decide) (by decide)
  · refine tw_aload_n (k := 4) rfl rfl ?_
    refine tw_getI (k := 5) rfl fl_RX6_15 (fun x3 => ?_)
    refine tw_if_lt (k := 6) 56 rfl (by decide) ?_ ?_
    · exact tw_return (k := 29) rfl rfl (by decide) (by decide)
    · refine tw_aload_n (k := 7) rfl rfl ?_
      refine tw_getI (k := 8) rfl fl_RX6_15 (fun x4 => ?_)
      refine tw_sipush (k := 9) (400 : Int32) rfl (by decide) ?_
      refine tw_icmp_ge (k := 10) 56 rfl (by decide) ?_ ?_
      · exact tw_return (k := 29) rfl rfl (by decide) (by decide)
      · refine tw_aload_n (k := 11) rfl rfl ?_
        refine tw_getR (k := 12) rfl fl_RX6_11 (fun x5 => ?_)
        refine tw_aload_n (k := 13) rfl rfl ?_
        refine tw_getI (k := 14) rfl fl_RX6_15 (fun x6 => ?_)
        refine tw_iload_n (k := 15) rfl rfl ?_
        refine tw_iload_n (k := 16) rfl rfl ?_
        refine tw_iushr (k := 17) rfl ?_
        refine tw_sipush (k := 18) (255 : Int32) rfl (by decide) ?_
        refine tw_iand (k := 19) rfl ?_
        refine tw_iastore (k := 20) rfl ?_
        refine tw_aload_n (k := 21) rfl rfl ?_
        refine tw_dup (k := 22) rfl rfl ?_
        refine tw_getI (k := 23) rfl fl_RX6_15 (fun x7 => ?_)
        refine tw_iconst (k := 24) (1 : Int32) rfl (by decide) ?_
        refine tw_iadd (k := 25) rfl ?_
        refine tw_putI (k := 26) rfl fl_RX6_15 wf_X6_add_15 (by decide +kernel) ?_
        refine tw_inc (k := 27) (-8 : Int32) [some (.ref a0), some (.int a1), some (.int (s2 + (-8 : Int32)))] rfl rfl (by decide) (Nat.le_of_ble_eq_true rfl) rfl rfl ?_
        refine tw_goto (k := 28) 3 rfl (by decide) ?_
        exact h1 (s2 + (-8 : Int32))
def mX6_shorten : tw_MD := (yX6_shorten, cX6_shorten, 2, (some FieldType.boolean), [(0, .iload_n 1, 1, 1), (1, .ifCond .lt 11, 3, 4), (4, .iload_n 1, 1, 5), (5, .aload_n 0, 1, 6), (6, .getfield 15, 3, 9), (9, .if_icmp .le 5, 3, 12), (12, .iconst 0, 1, 13), (13, .ireturn, 1, 14), (14, .aload_n 0, 1, 15), (15, .iload_n 1, 1, 16), (16, .putfield 15, 3, 19), (19, .iconst 1, 1, 20), (20, .ireturn, 1, 21)], [])
theorem mo_X6_shorten : tw_mok mX6_shorten 1 := ⟨plainFor_of_name (by decide +kernel), by decide +kernel, by decide +kernel, by decide +kernel, by decide +kernel⟩
theorem dk_X6_shorten : tw_dk mX6_shorten := by unfold tw_dk; decide +kernel
theorem wf_X6_shorten_15 : tw_wf mX6_shorten 15 38 := Or.inl rfl
set_option maxRecDepth 20000 in
theorem K_X6_shorten {g : tw_Gx} (Q : tw_Rs → tw_Mem → Prop) (a0 : Nat) (a1 : Int32) : tw_Kt g mX6_shorten 1 0 0 [.ref a0, .int a1] Q (f_X6_shorten a0 a1 (fun v => Q (.inl (some (.int v))))) := by
  refine tw_mkK (L := [some (.ref a0), some (.int a1)]) mo_X6_shorten dk_X6_shorten rfl (Nat.le_of_ble_eq_true rfl) rfl ?_
  unfold f_X6_shorten
  refine tw_iload_n (k := 0) rfl rfl ?_
  refine tw_if_lt (k := 1) 12 rfl (by decide) ?_ ?_
  · refine tw_iconst (k := 6) (0 : Int32) rfl (by decide) ?_
    exact tw_zreturn (k := 7) rfl rfl (by decide) (by decide)
  · refine tw_iload_n (k := 2) rfl rfl ?_
    refine tw_aload_n (k := 3) rfl rfl ?_
    refine tw_getI (k := 4) rfl fl_RX6_15 (fun x1 => ?_)
    refine tw_icmp_le (k := 5) 14 rfl (by decide) ?_ ?_
    · refine tw_aload_n (k := 8) rfl rfl ?_
      refine tw_iload_n (k := 9) rfl rfl ?_
      refine tw_putI (k := 10) rfl fl_RX6_15 wf_X6_shorten_15 (by decide +kernel) ?_
      refine tw_iconst (k := 11) (1 : Int32) rfl (by decide) ?_
      exact tw_zreturn (k := 12) rfl rfl (by decide) (by decide)
    · refine tw_iconst (k := 6) (0 : Int32) rfl (by decide) ?_
      exact tw_zreturn (k := 7) rfl rfl (by decide) (by decide)
def mX6_clear : tw_MD := (yX6_clear, cX6_clear, 1, none, [(0, .aload_n 0, 1, 1), (1, .iconst 0, 1, 2), (2, .putfield 15, 3, 5), (5, .return_, 1, 6)], [])
theorem mo_X6_clear : tw_mok mX6_clear 0 := ⟨plainFor_of_name (by decide +kernel), by decide +kernel, by decide +kernel, by decide +kernel, by decide +kernel⟩
theorem dk_X6_clear : tw_dk mX6_clear := by unfold tw_dk; decide +kernel
theorem wf_X6_clear_15 : tw_wf mX6_clear 15 38 := Or.inl rfl
set_option maxRecDepth 20000 in
theorem K_X6_clear {g : tw_Gx} (Q : tw_Rs → tw_Mem → Prop) (a0 : Nat) : tw_Kt g mX6_clear 1 0 0 [.ref a0] Q (f_X6_clear a0 (fun v => Q (.inl none))) := by
  refine tw_mkK (L := [some (.ref a0)]) mo_X6_clear dk_X6_clear rfl (Nat.le_of_ble_eq_true rfl) rfl ?_
  unfold f_X6_clear
  refine tw_aload_n (k := 0) rfl rfl ?_
  refine tw_iconst (k := 1) (0 : Int32) rfl (by decide) ?_
  refine tw_putI (k := 2) rfl fl_RX6_15 wf_X6_clear_15 (by decide +kernel) ?_
  exact tw_return (k := 3) rfl rfl (by decide) (by decide)
def mX2_init : tw_MD := (yX2_init, cX2_init, 1, none, [(0, .aload_n 0, 1, 1), (1, .invokespecial 3, 3, 4), (4, .aload_n 0, 1, 5), (5, .bipush 60, 2, 7), (7, .newarray .int, 2, 9), (9, .putfield 11, 3, 12), (12, .return_, 1, 13)], [])
theorem mo_X2_init : tw_mok mX2_init 0 := ⟨plainFor_of_name (by decide +kernel), by decide +kernel, by decide +kernel, by decide +kernel, by decide +kernel⟩
theorem dk_X2_init : tw_dk mX2_init := by unfold tw_dk; decide +kernel
theorem km_RX2_3 : Cond.methodLink RX2 3 Lib.objectInit ∈ lw_tbl := List.mem_of_getElem? (i := 186) (by decide +kernel)
theorem fl_RX2_11 : tw_fl RX2 11 19 := Or.inl (List.mem_of_getElem? (i := 187) (by decide +kernel))
theorem wf_X2_init_11 : tw_wf mX2_init 11 19 := Or.inr ⟨by decide +kernel, by decide +kernel, List.mem_of_getElem? (i := 187) (by decide +kernel)⟩
set_option maxRecDepth 20000 in
theorem K_X2_init {g : tw_Gx} (Q : tw_Rs → tw_Mem → Prop) (a0 : Nat) : tw_Kt g mX2_init 1 1 60 [.ref a0] Q (f_X2_init a0 (fun v => Q (.inl none))) := by
  refine tw_mkK (L := [some (.ref a0)]) mo_X2_init dk_X2_init rfl (Nat.le_of_ble_eq_true rfl) rfl ?_
  unfold f_X2_init
  refine tw_aload_n (k := 0) rfl rfl ?_
  refine tw_objInit (k := 1) rfl km_RX2_3 koi koc (by omega) (Nat.le_of_ble_eq_true rfl) ?_
  refine tw_aload_n (k := 2) rfl rfl ?_
  refine tw_bipush (k := 3) (60 : Int32) rfl (by decide) ?_
  refine tw_newI (k := 4) 60 rfl ka_int (by decide) (by decide) (by decide) (fun b1 => ?_)
  refine tw_putR (k := 5) (ty := (.array .int)) rfl fl_RX2_11 wf_X2_init_11 (by decide +kernel) rfl rfl ?_
  exact tw_return (k := 6) rfl rfl (by decide) (by decide)
def mX2_take : tw_MD := (yX2_take, cX2_take, 2, none, [(0, .aload_n 1, 1, 1), (1, .getfield 11, 3, 4), (4, .iconst 0, 1, 5), (5, .aload_n 0, 1, 6), (6, .getfield 11, 3, 9), (9, .iconst 0, 1, 10), (10, .bipush 60, 2, 12), (12, .invokestatic 15, 3, 15), (15, .aload_n 0, 1, 16), (16, .aload_n 1, 1, 17), (17, .getfield 21, 3, 20), (20, .putfield 21, 3, 23), (23, .aload_n 0, 1, 24), (24, .aload_n 1, 1, 25), (25, .getfield 25, 3, 28), (28, .putfield 25, 3, 31), (31, .return_, 1, 32)], [])
theorem mo_X2_take : tw_mok mX2_take 1 := ⟨plainFor_of_name (by decide +kernel), by decide +kernel, by decide +kernel, by decide +kernel, by decide +kernel⟩
theorem dk_X2_take : tw_dk mX2_take := by unfold tw_dk; decide +kernel
theorem km_RX2_15 : Cond.methodLink RX2 15 arraycopyName ∈ lw_tbl := List.mem_of_getElem? (i := 838) (by decide +kernel)
theorem fl_RX2_21 : tw_fl RX2 21 20 := Or.inl (List.mem_of_getElem? (i := 188) (by decide +kernel))
theorem fl_RX2_25 : tw_fl RX2 25 21 := Or.inl (List.mem_of_getElem? (i := 190) (by decide +kernel))
theorem wf_X2_take_25 : tw_wf mX2_take 25 21 := Or.inl rfl
theorem wf_X2_take_21 : tw_wf mX2_take 21 20 := Or.inl rfl
set_option maxRecDepth 20000 in
theorem K_X2_take {g : tw_Gx} (Q : tw_Rs → tw_Mem → Prop) (a0 : Nat) (a1 : Nat) : tw_Kt g mX2_take 1 0 0 [.ref a0, .ref a1] Q (f_X2_take a0 a1 (fun v => Q (.inl none))) := by
  refine tw_mkK (L := [some (.ref a0), some (.ref a1)]) mo_X2_take dk_X2_take rfl (Nat.le_of_ble_eq_true rfl) rfl ?_
  unfold f_X2_take
  refine tw_aload_n (k := 0) rfl rfl ?_
  refine tw_getR (k := 1) rfl fl_RX2_11 (fun x1 => ?_)
  refine tw_iconst (k := 2) (0 : Int32) rfl (by decide) ?_
  refine tw_aload_n (k := 3) rfl rfl ?_
  refine tw_getR (k := 4) rfl fl_RX2_11 (fun x2 => ?_)
  refine tw_iconst (k := 5) (0 : Int32) rfl (by decide) ?_
  refine tw_bipush (k := 6) (60 : Int32) rfl (by decide) ?_
  refine tw_copy (k := 7) rfl km_RX2_15 kan kas kai (by omega) (Nat.le_of_ble_eq_true rfl) ?_
  refine tw_aload_n (k := 8) rfl rfl ?_
  refine tw_aload_n (k := 9) rfl rfl ?_
  refine tw_getI (k := 10) rfl fl_RX2_21 (fun x3 => ?_)
  refine tw_putI (k := 11) rfl fl_RX2_21 wf_X2_take_21 (by decide +kernel) ?_
  refine tw_aload_n (k := 12) rfl rfl ?_
  refine tw_aload_n (k := 13) rfl rfl ?_
  refine tw_getI (k := 14) rfl fl_RX2_25 (fun x4 => ?_)
  refine tw_putI (k := 15) rfl fl_RX2_25 wf_X2_take_25 (by decide +kernel) ?_
  exact tw_return (k := 16) rfl rfl (by decide) (by decide)
def mX2_add : tw_MD := (yX2_add, cX2_add, 6, none, [(0, .aload_n 0, 1, 1), (1, .getfield 25, 3, 4), (4, .ifCond .lt 12, 3, 7), (7, .aload_n 0, 1, 8), (8, .getfield 25, 3, 11), (11, .bipush 60, 2, 13), (13, .if_icmp .lt 4, 3, 16), (16, .return_, 1, 17), (17, .aload_n 0, 1, 18), (18, .getfield 11, 3, 21), (21, .aload_n 0, 1, 22), (22, .getfield 25, 3, 25), (25, .iload_n 1, 1, 26), (26, .bipush 15, 2, 28), (28, .ishl, 1, 29), (29, .iload_n 2, 1, 30), (30, .bipush 11, 2, 32), (32, .ishl, 1, 33), (33, .ior, 1, 34), (34, .iload_n 3, 1, 35), (35, .iconst 1, 1, 36), (36, .iadd, 1, 37), (37, .bipush 7, 2, 39), (39, .ishl, 1, 40), (40, .ior, 1, 41), (41, .iload 4, 2, 43), (43, .iconst 1, 1, 44), (44, .iadd, 1, 45), (45, .iconst 3, 1, 46), (46, .ishl, 1, 47), (47, .ior, 1, 48), (48, .iload 5, 2, 50), (50, .ior, 1, 51), (51, .iastore, 1, 52), (52, .aload_n 0, 1, 53), (53, .aload_n 0, 1, 54), (54, .getfield 25, 3, 57), (57, .iconst 1, 1, 58), (58, .iadd, 1, 59), (59, .bipush 60, 2, 61), (61, .if_icmp .ge 12, 3, 64), (64, .aload_n 0, 1, 65), (65, .getfield 25, 3, 68), (68, .iconst 1, 1, 69), (69, .iadd, 1, 70), (70, .goto 4, 3, 73), (73, .iconst 0, 1, 74), (74, .putfield 25, 3, 77), (77, .aload_n 0, 1, 78), (78, .aload_n 0, 1, 79), (79, .getfield 21, 3, 82), (82, .iconst 1, 1, 83), (83, .iadd, 1, 84), (84, .bipush 60, 2, 86), (86, .invokestatic 28, 3, 89), (89, .putfield 21, 3, 92), (92, .return_, 1, 93)], [])
theorem mo_X2_add : tw_mok mX2_add 5 := ⟨plainFor_of_name (by decide +kernel), by decide +kernel, by decide +kernel, by decide +kernel, by decide +kernel⟩
theorem dk_X2_add : tw_dk mX2_add := by unfold tw_dk; decide +kernel
theorem wf_X2_add_21 : tw_wf mX2_add 21 20 := Or.inl rfl
theorem ws_RX2_28_J9_min_7cf53 : tw_wS RX2 28 mJ9_min_7cf53 := ⟨List.mem_of_getElem? (i := 1501) (by decide +kernel), List.mem_of_getElem? (i := 609) (by decide +kernel), List.mem_of_getElem? (i := 148) (by decide +kernel), List.mem_of_getElem? (i := 610) (by decide +kernel)⟩
theorem wf_X2_add_25 : tw_wf mX2_add 25 21 := Or.inl rfl
set_option maxRecDepth 20000 in
theorem K_X2_add {g : tw_Gx} (Q : tw_Rs → tw_Mem → Prop) (a0 : Nat) (a1 : Int32) (a2 : Int32) (a3 : Int32) (a4 : Int32) (a5 : Int32) : tw_Kt g mX2_add 2 0 0 [.ref a0, .int a1, .int a2, .int a3, .int a4, .int a5] Q (f_X2_add a0 a1 a2 a3 a4 a5 (fun v => Q (.inl none))) := by
  refine tw_mkK (L := [some (.ref a0), some (.int a1), some (.int a2), some (.int a3), some (.int a4), some (.int a5)]) mo_X2_add dk_X2_add rfl (Nat.le_of_ble_eq_true rfl) rfl ?_
  unfold f_X2_add
  refine tw_aload_n (k := 0) rfl rfl ?_
  refine tw_getI (k := 1) rfl fl_RX2_25 (fun x1 => ?_)
  refine tw_if_lt (k := 2) 16 rfl (by decide) ?_ ?_
  · exact tw_return (k := 7) rfl rfl (by decide) (by decide)
  · refine tw_aload_n (k := 3) rfl rfl ?_
    refine tw_getI (k := 4) rfl fl_RX2_25 (fun x2 => ?_)
    refine tw_bipush (k := 5) (60 : Int32) rfl (by decide) ?_
    refine tw_icmp_lt (k := 6) 17 rfl (by decide) ?_ ?_
    · refine tw_aload_n (k := 8) rfl rfl ?_
      refine tw_getR (k := 9) rfl fl_RX2_11 (fun x3 => ?_)
      refine tw_aload_n (k := 10) rfl rfl ?_
      refine tw_getI (k := 11) rfl fl_RX2_25 (fun x4 => ?_)
      refine tw_iload_n (k := 12) rfl rfl ?_
      refine tw_bipush (k := 13) (15 : Int32) rfl (by decide) ?_
      refine tw_ishl (k := 14) rfl ?_
      refine tw_iload_n (k := 15) rfl rfl ?_
      refine tw_bipush (k := 16) (11 : Int32) rfl (by decide) ?_
      refine tw_ishl (k := 17) rfl ?_
      refine tw_ior (k := 18) rfl ?_
      refine tw_iload_n (k := 19) rfl rfl ?_
      refine tw_iconst (k := 20) (1 : Int32) rfl (by decide) ?_
      refine tw_iadd (k := 21) rfl ?_
      refine tw_bipush (k := 22) (7 : Int32) rfl (by decide) ?_
      refine tw_ishl (k := 23) rfl ?_
      refine tw_ior (k := 24) rfl ?_
      refine tw_iload (k := 25) rfl rfl ?_
      refine tw_iconst (k := 26) (1 : Int32) rfl (by decide) ?_
      refine tw_iadd (k := 27) rfl ?_
      refine tw_iconst (k := 28) (3 : Int32) rfl (by decide) ?_
      refine tw_ishl (k := 29) rfl ?_
      refine tw_ior (k := 30) rfl ?_
      refine tw_iload (k := 31) rfl rfl ?_
      refine tw_ior (k := 32) rfl ?_
      refine tw_iastore (k := 33) rfl ?_
      refine tw_aload_n (k := 34) rfl rfl ?_
      refine tw_aload_n (k := 35) rfl rfl ?_
      refine tw_getI (k := 36) rfl fl_RX2_25 (fun x5 => ?_)
      refine tw_iconst (k := 37) (1 : Int32) rfl (by decide) ?_
      refine tw_iadd (k := 38) rfl ?_
      refine tw_bipush (k := 39) (60 : Int32) rfl (by decide) ?_
      refine tw_join 74 (fun s7 => [some (.ref a0), some (.int a1), some (.int a2), some (.int a3), some (.int a4), some (.int a5)]) (fun s7 => .int s7 :: .ref a0 :: []) 0 0 (fun s7 => ?_) (fun j6 g6 => ?_)
      · refine tw_putI (k := 47) rfl fl_RX2_25 wf_X2_add_25 (by decide +kernel) ?_
        refine tw_aload_n (k := 48) rfl rfl ?_
        refine tw_aload_n (k := 49) rfl rfl ?_
        refine tw_getI (k := 50) rfl fl_RX2_21 (fun x8 => ?_)
        refine tw_iconst (k := 51) (1 : Int32) rfl (by decide) ?_
        refine tw_iadd (k := 52) rfl ?_
        refine tw_bipush (k := 53) (60 : Int32) rfl (by decide) ?_
        refine tw_callS (k := 54) (d' := 1) (mc' := 0) (ms' := 0) tw_cI tw_cIi [.int (x8 + (1 : Int32)), .int (60 : Int32)] rfl rfl ws_RX2_28_J9_min_7cf53 mo_J9_min_7cf53 rfl (fun Q9 => K_J9_min_7cf53 Q9 (x8 + (1 : Int32)) (60 : Int32)) (by omega) (by decide) (by decide) (Nat.le_of_ble_eq_true rfl) (fun x9 => ?_)
        refine tw_putI (k := 55) rfl fl_RX2_21 wf_X2_add_21 (by decide +kernel) ?_
        exact tw_return (k := 56) rfl rfl (by decide) (by decide)
      · refine tw_icmp_ge (k := 40) 73 rfl (by decide) ?_ ?_
        · refine tw_iconst (k := 46) (0 : Int32) rfl (by decide) ?_
          exact g6 (0 : Int32)
        · refine tw_aload_n (k := 41) rfl rfl ?_
          refine tw_getI (k := 42) rfl fl_RX2_25 (fun x10 => ?_)
          refine tw_iconst (k := 43) (1 : Int32) rfl (by decide) ?_
          refine tw_iadd (k := 44) rfl ?_
          refine tw_goto (k := 45) 74 rfl (by decide) ?_
          exact g6 (x10 + (1 : Int32))
    · exact tw_return (k := 7) rfl rfl (by decide) (by decide)
def mX2_hasRow : tw_MD := (yX2_hasRow, cX2_hasRow, 2, (some FieldType.boolean), [(0, .iload_n 1, 1, 1), (1, .ifCond .lt 15, 3, 4), (4, .iload_n 1, 1, 5), (5, .aload_n 0, 1, 6), (6, .getfield 21, 3, 9), (9, .if_icmp .ge 7, 3, 12), (12, .iconst 1, 1, 13), (13, .goto 4, 3, 16), (16, .iconst 0, 1, 17), (17, .ireturn, 1, 18)], [])
theorem mo_X2_hasRow : tw_mok mX2_hasRow 1 := ⟨plainFor_of_name (by decide +kernel), by decide +kernel, by decide +kernel, by decide +kernel, by decide +kernel⟩
theorem dk_X2_hasRow : tw_dk mX2_hasRow := by unfold tw_dk; decide +kernel
set_option maxRecDepth 20000 in
theorem K_X2_hasRow {g : tw_Gx} (Q : tw_Rs → tw_Mem → Prop) (a0 : Nat) (a1 : Int32) : tw_Kt g mX2_hasRow 1 0 0 [.ref a0, .int a1] Q (f_X2_hasRow a0 a1 (fun v => Q (.inl (some (.int v))))) := by
  refine tw_mkK (L := [some (.ref a0), some (.int a1)]) mo_X2_hasRow dk_X2_hasRow rfl (Nat.le_of_ble_eq_true rfl) rfl ?_
  unfold f_X2_hasRow
  refine tw_iload_n (k := 0) rfl rfl ?_
  refine tw_if_lt (k := 1) 16 rfl (by decide) ?_ ?_
  · refine tw_iconst (k := 8) (0 : Int32) rfl (by decide) ?_
    exact tw_zreturn (k := 9) rfl rfl (by decide) (by decide)
  · refine tw_iload_n (k := 2) rfl rfl ?_
    refine tw_aload_n (k := 3) rfl rfl ?_
    refine tw_getI (k := 4) rfl fl_RX2_21 (fun x1 => ?_)
    refine tw_icmp_ge (k := 5) 16 rfl (by decide) ?_ ?_
    · refine tw_iconst (k := 8) (0 : Int32) rfl (by decide) ?_
      exact tw_zreturn (k := 9) rfl rfl (by decide) (by decide)
    · refine tw_iconst (k := 6) (1 : Int32) rfl (by decide) ?_
      refine tw_goto (k := 7) 17 rfl (by decide) ?_
      exact tw_zreturn (k := 9) rfl rfl (by decide) (by decide)
def mX2_rowAt : tw_MD := (yX2_rowAt, cX2_rowAt, 3, (some FieldType.int), [(0, .aload_n 0, 1, 1), (1, .getfield 25, 3, 4), (4, .iconst 1, 1, 5), (5, .isub, 1, 6), (6, .iload_n 1, 1, 7), (7, .isub, 1, 8), (8, .bipush 60, 2, 10), (10, .invokestatic 38, 3, 13), (13, .istore_n 2, 1, 14), (14, .iload_n 2, 1, 15), (15, .ifCond .lt 18, 3, 18), (18, .iload_n 2, 1, 19), (19, .bipush 60, 2, 21), (21, .if_icmp .ge 12, 3, 24), (24, .aload_n 0, 1, 25), (25, .getfield 11, 3, 28), (28, .iload_n 2, 1, 29), (29, .iaload, 1, 30), (30, .goto 4, 3, 33), (33, .iconst 0, 1, 34), (34, .ireturn, 1, 35)], [])
theorem mo_X2_rowAt : tw_mok mX2_rowAt 1 := ⟨plainFor_of_name (by decide +kernel), by decide +kernel, by decide +kernel, by decide +kernel, by decide +kernel⟩
theorem dk_X2_rowAt : tw_dk mX2_rowAt := by unfold tw_dk; decide +kernel
theorem ws_RX2_38_J9_floorMod_7cf53 : tw_wS RX2 38 mJ9_floorMod_7cf53 := ⟨List.mem_of_getElem? (i := 1293) (by decide +kernel), List.mem_of_getElem? (i := 1294) (by decide +kernel), List.mem_of_getElem? (i := 148) (by decide +kernel), List.mem_of_getElem? (i := 1295) (by decide +kernel)⟩
set_option maxRecDepth 20000 in
theorem K_X2_rowAt {g : tw_Gx} (Q : tw_Rs → tw_Mem → Prop) (a0 : Nat) (a1 : Int32) : tw_Kt g mX2_rowAt 2 0 0 [.ref a0, .int a1] Q (f_X2_rowAt a0 a1 (fun v => Q (.inl (some (.int v))))) := by
  refine tw_mkK (L := [some (.ref a0), some (.int a1), none]) mo_X2_rowAt dk_X2_rowAt rfl (Nat.le_of_ble_eq_true rfl) rfl ?_
  unfold f_X2_rowAt
  refine tw_aload_n (k := 0) rfl rfl ?_
  refine tw_getI (k := 1) rfl fl_RX2_25 (fun x1 => ?_)
  refine tw_iconst (k := 2) (1 : Int32) rfl (by decide) ?_
  refine tw_isub (k := 3) rfl ?_
  refine tw_iload_n (k := 4) rfl rfl ?_
  refine tw_isub (k := 5) rfl ?_
  refine tw_bipush (k := 6) (60 : Int32) rfl (by decide) ?_
  refine tw_callS (k := 7) (d' := 1) (mc' := 0) (ms' := 0) tw_cI tw_cIi [.int ((x1 - (1 : Int32)) - a1), .int (60 : Int32)] rfl rfl ws_RX2_38_J9_floorMod_7cf53 mo_J9_floorMod_7cf53 rfl (fun Q9 => K_J9_floorMod_7cf53 Q9 ((x1 - (1 : Int32)) - a1) (60 : Int32)) (by omega) (by decide) (by decide) (Nat.le_of_ble_eq_true rfl) (fun x2 => ?_)
  refine tw_ist_n (k := 8) [some (.ref a0), some (.int a1), some (.int x2)] rfl (Nat.le_of_ble_eq_true rfl) rfl rfl ?_
  refine tw_iload_n (k := 9) rfl rfl ?_
  refine tw_if_lt (k := 10) 33 rfl (by decide) ?_ ?_
  · refine tw_iconst (k := 19) (0 : Int32) rfl (by decide) ?_
    exact tw_ireturn (k := 20) rfl rfl (by decide) (by decide)
  · refine tw_iload_n (k := 11) rfl rfl ?_
    refine tw_bipush (k := 12) (60 : Int32) rfl (by decide) ?_
    refine tw_icmp_ge (k := 13) 33 rfl (by decide) ?_ ?_
    · refine tw_iconst (k := 19) (0 : Int32) rfl (by decide) ?_
      exact tw_ireturn (k := 20) rfl rfl (by decide) (by decide)
    · refine tw_aload_n (k := 14) rfl rfl ?_
      refine tw_getR (k := 15) rfl fl_RX2_11 (fun x3 => ?_)
      refine tw_iload_n (k := 16) rfl rfl ?_
      refine tw_iaload (k := 17) rfl (fun x4 => ?_)
      refine tw_goto (k := 18) 34 rfl (by decide) ?_
      exact tw_ireturn (k := 20) rfl rfl (by decide) (by decide)
def mX2_partOf : tw_MD := (yX2_partOf, cX2_partOf, 4, (some FieldType.int), [(0, .aload_n 0, 1, 1), (1, .iload_n 1, 1, 2), (2, .invokevirtual 34, 3, 5), (5, .istore_n 3, 1, 6), (6, .iload_n 2, 1, 7), (7, .tableswitch 61 0 3 #[29, 34, 42, 52], 29, 36), (36, .iload_n 3, 1, 37), (37, .bipush 15, 2, 39), (39, .ishr, 1, 40), (40, .ireturn, 1, 41), (41, .iload_n 3, 1, 42), (42, .bipush 11, 2, 44), (44, .ishr, 1, 45), (45, .bipush 15, 2, 47), (47, .iand, 1, 48), (48, .ireturn, 1, 49), (49, .iload_n 3, 1, 50), (50, .bipush 7, 2, 52), (52, .ishr, 1, 53), (53, .bipush 15, 2, 55), (55, .iand, 1, 56), (56, .iconst 1, 1, 57), (57, .isub, 1, 58), (58, .ireturn, 1, 59), (59, .iload_n 3, 1, 60), (60, .iconst 3, 1, 61), (61, .ishr, 1, 62), (62, .bipush 15, 2, 64), (64, .iand, 1, 65), (65, .iconst 1, 1, 66), (66, .isub, 1, 67), (67, .ireturn, 1, 68), (68, .iload_n 3, 1, 69), (69, .bipush 7, 2, 71), (71, .iand, 1, 72), (72, .ireturn, 1, 73)], [])
theorem mo_X2_partOf : tw_mok mX2_partOf 2 := ⟨plainFor_of_name (by decide +kernel), by decide +kernel, by decide +kernel, by decide +kernel, by decide +kernel⟩
theorem dk_X2_partOf : tw_dk mX2_partOf := by unfold tw_dk; decide +kernel
theorem wv_RX2_34_X2_rowAt : tw_wV RX2 34 mX2_rowAt := ⟨List.mem_of_getElem? (i := 1289) (by decide +kernel), List.mem_of_getElem? (i := 1291) (by decide +kernel), List.mem_of_getElem? (i := 27) (by decide +kernel), List.mem_of_getElem? (i := 127) (by decide +kernel), List.mem_of_getElem? (i := 1292) (by decide +kernel)⟩
set_option maxRecDepth 20000 in
theorem K_X2_partOf {g : tw_Gx} (Q : tw_Rs → tw_Mem → Prop) (a0 : Nat) (a1 : Int32) (a2 : Int32) : tw_Kt g mX2_partOf 3 0 0 [.ref a0, .int a1, .int a2] Q (f_X2_partOf a0 a1 a2 (fun v => Q (.inl (some (.int v))))) := by
  refine tw_mkK (L := [some (.ref a0), some (.int a1), some (.int a2), none]) mo_X2_partOf dk_X2_partOf rfl (Nat.le_of_ble_eq_true rfl) rfl ?_
  unfold f_X2_partOf
  refine tw_aload_n (k := 0) rfl rfl ?_
  refine tw_iload_n (k := 1) rfl rfl ?_
  refine tw_callV (k := 2) (d' := 2) (mc' := 0) (ms' := 0) tw_cI tw_cIi [.int a1] rfl rfl wv_RX2_34_X2_rowAt mo_X2_rowAt (t := 2) rfl rfl rfl (fun Q9 => K_X2_rowAt Q9 a0 a1) (by omega) (by decide) (by decide) (Nat.le_of_ble_eq_true rfl) (fun x1 => ?_)
  refine tw_ist_n (k := 3) [some (.ref a0), some (.int a1), some (.int a2), some (.int x1)] rfl (Nat.le_of_ble_eq_true rfl) rfl rfl ?_
  refine tw_iload_n (k := 4) rfl rfl ?_
  refine tw_case ?_ (fun c2 => ?_)
  · refine tw_switch (k := 5) 36 rfl (by decide) (by decide) ?_
    refine tw_iload_n (k := 6) rfl rfl ?_
    refine tw_bipush (k := 7) (15 : Int32) rfl (by decide) ?_
    refine tw_ishr (k := 8) rfl ?_
    exact tw_ireturn (k := 9) rfl rfl (by decide) (by decide)
  refine tw_case ?_ (fun c3 => ?_)
  · refine tw_switch (k := 5) 41 rfl (by decide) (by decide) ?_
    refine tw_iload_n (k := 10) rfl rfl ?_
    refine tw_bipush (k := 11) (11 : Int32) rfl (by decide) ?_
    refine tw_ishr (k := 12) rfl ?_
    refine tw_bipush (k := 13) (15 : Int32) rfl (by decide) ?_
    refine tw_iand (k := 14) rfl ?_
    exact tw_ireturn (k := 15) rfl rfl (by decide) (by decide)
  refine tw_case ?_ (fun c4 => ?_)
  · refine tw_switch (k := 5) 49 rfl (by decide) (by decide) ?_
    refine tw_iload_n (k := 16) rfl rfl ?_
    refine tw_bipush (k := 17) (7 : Int32) rfl (by decide) ?_
    refine tw_ishr (k := 18) rfl ?_
    refine tw_bipush (k := 19) (15 : Int32) rfl (by decide) ?_
    refine tw_iand (k := 20) rfl ?_
    refine tw_iconst (k := 21) (1 : Int32) rfl (by decide) ?_
    refine tw_isub (k := 22) rfl ?_
    exact tw_ireturn (k := 23) rfl rfl (by decide) (by decide)
  refine tw_case ?_ (fun c5 => ?_)
  · refine tw_switch (k := 5) 59 rfl (by decide) (by decide) ?_
    refine tw_iload_n (k := 24) rfl rfl ?_
    refine tw_iconst (k := 25) (3 : Int32) rfl (by decide) ?_
    refine tw_ishr (k := 26) rfl ?_
    refine tw_bipush (k := 27) (15 : Int32) rfl (by decide) ?_
    refine tw_iand (k := 28) rfl ?_
    refine tw_iconst (k := 29) (1 : Int32) rfl (by decide) ?_
    refine tw_isub (k := 30) rfl ?_
    exact tw_ireturn (k := 31) rfl rfl (by decide) (by decide)
  refine tw_switch (k := 5) 68 rfl (by decide) (tw_dfl (by decide) (fun v e1 e2 e3 => ?_)) ?_
  · have e4 : v = 0 ∨ v = 1 ∨ v = 2 ∨ v = 3 := by omega
    rcases e4 with rfl | rfl | rfl | rfl
    · exact c2 (e3.trans (by decide))
    · exact c3 (e3.trans (by decide))
    · exact c4 (e3.trans (by decide))
    · exact c5 (e3.trans (by decide))
  · refine tw_iload_n (k := 32) rfl rfl ?_
    refine tw_bipush (k := 33) (7 : Int32) rfl (by decide) ?_
    refine tw_iand (k := 34) rfl ?_
    exact tw_ireturn (k := 35) rfl rfl (by decide) (by decide)
def mX2_isOf : tw_MD := (yX2_isOf, cX2_isOf, 3, (some FieldType.boolean), [(0, .aload_n 0, 1, 1), (1, .iload_n 1, 1, 2), (2, .iconst 2, 1, 3), (3, .invokevirtual 41, 3, 6), (6, .iload_n 2, 1, 7), (7, .if_icmp .eq 13, 3, 10), (10, .aload_n 0, 1, 11), (11, .iload_n 1, 1, 12), (12, .iconst 3, 1, 13), (13, .invokevirtual 41, 3, 16), (16, .iload_n 2, 1, 17), (17, .if_icmp .ne 7, 3, 20), (20, .iconst 1, 1, 21), (21, .goto 4, 3, 24), (24, .iconst 0, 1, 25), (25, .ireturn, 1, 26)], [])
theorem mo_X2_isOf : tw_mok mX2_isOf 2 := ⟨plainFor_of_name (by decide +kernel), by decide +kernel, by decide +kernel, by decide +kernel, by decide +kernel⟩
theorem dk_X2_isOf : tw_dk mX2_isOf := by unfold tw_dk; decide +kernel
theorem wv_RX2_41_X2_partOf : tw_wV RX2 41 mX2_partOf := ⟨List.mem_of_getElem? (i := 1285) (by decide +kernel), List.mem_of_getElem? (i := 1286) (by decide +kernel), List.mem_of_getElem? (i := 1287) (by decide +kernel), List.mem_of_getElem? (i := 127) (by decide +kernel), List.mem_of_getElem? (i := 1288) (by decide +kernel)⟩
set_option maxRecDepth 20000 in
theorem K_X2_isOf {g : tw_Gx} (Q : tw_Rs → tw_Mem → Prop) (a0 : Nat) (a1 : Int32) (a2 : Int32) : tw_Kt g mX2_isOf 4 0 0 [.ref a0, .int a1, .int a2] Q (f_X2_isOf a0 a1 a2 (fun v => Q (.inl (some (.int v))))) := by
  refine tw_mkK (L := [some (.ref a0), some (.int a1), some (.int a2)]) mo_X2_isOf dk_X2_isOf rfl (Nat.le_of_ble_eq_true rfl) rfl ?_
  unfold f_X2_isOf
  refine tw_aload_n (k := 0) rfl rfl ?_
  refine tw_iload_n (k := 1) rfl rfl ?_
  refine tw_iconst (k := 2) (2 : Int32) rfl (by decide) ?_
  refine tw_callV (k := 3) (d' := 3) (mc' := 0) (ms' := 0) tw_cI tw_cIi [.int a1, .int (2 : Int32)] rfl rfl wv_RX2_41_X2_partOf mo_X2_partOf (t := 2) rfl rfl rfl (fun Q9 => K_X2_partOf Q9 a0 a1 (2 : Int32)) (by omega) (by decide) (by decide) (Nat.le_of_ble_eq_true rfl) (fun x1 => ?_)
  refine tw_iload_n (k := 4) rfl rfl ?_
  refine tw_icmp_eq (k := 5) 20 rfl (by decide) ?_ ?_
  · refine tw_iconst (k := 12) (1 : Int32) rfl (by decide) ?_
    refine tw_goto (k := 13) 25 rfl (by decide) ?_
    exact tw_zreturn (k := 15) rfl rfl (by decide) (by decide)
  · refine tw_aload_n (k := 6) rfl rfl ?_
    refine tw_iload_n (k := 7) rfl rfl ?_
    refine tw_iconst (k := 8) (3 : Int32) rfl (by decide) ?_
    refine tw_callV (k := 9) (d' := 3) (mc' := 0) (ms' := 0) tw_cI tw_cIi [.int a1, .int (3 : Int32)] rfl rfl wv_RX2_41_X2_partOf mo_X2_partOf (t := 2) rfl rfl rfl (fun Q9 => K_X2_partOf Q9 a0 a1 (3 : Int32)) (by omega) (by decide) (by decide) (Nat.le_of_ble_eq_true rfl) (fun x2 => ?_)
    refine tw_iload_n (k := 10) rfl rfl ?_
    refine tw_icmp_ne (k := 11) 24 rfl (by decide) ?_ ?_
    · refine tw_iconst (k := 14) (0 : Int32) rfl (by decide) ?_
      exact tw_zreturn (k := 15) rfl rfl (by decide) (by decide)
    · refine tw_iconst (k := 12) (1 : Int32) rfl (by decide) ?_
      refine tw_goto (k := 13) 25 rfl (by decide) ?_
      exact tw_zreturn (k := 15) rfl rfl (by decide) (by decide)
def mX2_rowsOf : tw_MD := (yX2_rowsOf, cX2_rowsOf, 4, (some FieldType.int), [(0, .iconst 0, 1, 1), (1, .istore_n 2, 1, 2), (2, .iconst 0, 1, 3), (3, .istore_n 3, 1, 4), (4, .iload_n 3, 1, 5), (5, .aload_n 0, 1, 6), (6, .getfield 21, 3, 9), (9, .if_icmp .ge 21, 3, 12), (12, .aload_n 0, 1, 13), (13, .iload_n 3, 1, 14), (14, .iload_n 1, 1, 15), (15, .invokevirtual 44, 3, 18), (18, .ifCond .eq 6, 3, 21), (21, .iinc 2 1, 3, 24), (24, .iinc 3 1, 3, 27), (27, .goto (-23), 3, 30), (30, .iload_n 2, 1, 31), (31, .ireturn, 1, 32)], [])
theorem mo_X2_rowsOf : tw_mok mX2_rowsOf 1 := ⟨plainFor_of_name (by decide +kernel), by decide +kernel, by decide +kernel, by decide +kernel, by decide +kernel⟩
theorem dk_X2_rowsOf : tw_dk mX2_rowsOf := by unfold tw_dk; decide +kernel
theorem wv_RX2_44_X2_isOf : tw_wV RX2 44 mX2_isOf := ⟨List.mem_of_getElem? (i := 1296) (by decide +kernel), List.mem_of_getElem? (i := 1298) (by decide +kernel), List.mem_of_getElem? (i := 28) (by decide +kernel), List.mem_of_getElem? (i := 127) (by decide +kernel), List.mem_of_getElem? (i := 1299) (by decide +kernel)⟩
set_option maxRecDepth 20000 in
theorem K_X2_rowsOf {g : tw_Gx} (Q : tw_Rs → tw_Mem → Prop) (a0 : Nat) (a1 : Int32) : tw_Kt g mX2_rowsOf 5 0 0 [.ref a0, .int a1] Q (f_X2_rowsOf a0 a1 (fun v => Q (.inl (some (.int v))))) := by
  refine tw_mkK (L := [some (.ref a0), some (.int a1), none, none]) mo_X2_rowsOf dk_X2_rowsOf rfl (Nat.le_of_ble_eq_true rfl) rfl ?_
  unfold f_X2_rowsOf
  refine tw_iconst (k := 0) (0 : Int32) rfl (by decide) ?_
  refine tw_ist_n (k := 1) [some (.ref a0), some (.int a1), some (.int (0 : Int32)), none] rfl (Nat.le_of_ble_eq_true rfl) rfl rfl ?_
  refine tw_iconst (k := 2) (0 : Int32) rfl (by decide) ?_
  refine tw_ist_n (k := 3) [some (.ref a0), some (.int a1), some (.int (0 : Int32)), some (.int (0 : Int32))] rfl (Nat.le_of_ble_eq_true rfl) rfl rfl ?_
  refine tw_loop (fun s2 => [some (.ref a0), some (.int a1), some (.int s2.1), some (.int s2.2)]) (fun s2 => []) (fun r1 h1 s2 => ?_) _ rfl rfl
  refine tw_iload_n (k := 4) rfl rfl ?_
  refine tw_aload_n (k := 5) rfl rfl ?_
  refine tw_getI (k := 6) rfl fl_RX2_21 (fun x3 => ?_)
  refine tw_icmp_ge (k := 7) 30 rfl (by decide) ?_ ?_
  · refine tw_iload_n (k := 16) rfl rfl ?_
    exact tw_ireturn (k := 17) rfl rfl (by decide) (by decide)
  · refine tw_aload_n (k := 8) rfl rfl ?_
    refine tw_iload_n (k := 9) rfl rfl ?_
    refine tw_iload_n (k := 10) rfl rfl ?_
    refine tw_callV (k := 11) (d' := 4) (mc' := 0) (ms' := 0) tw_cI tw_cIi [.int s2.2, .int a1] rfl rfl wv_RX2_44_X2_isOf mo_X2_isOf (t := 2) rfl rfl rfl (fun Q9 => K_X2_isOf Q9 a0 s2.2 a1) (by omega) (by decide) (by decide) (Nat.le_of_ble_eq_true rfl) (fun x4 => ?_)
    refine tw_join 24 (fun s6 => [some (.ref a0), some (.int a1), some (.int s6), some (.int s2.2)]) (fun s6 => []) 0 0 (fun s6 => ?_) (fun j5 g5 => ?_)
    · refine tw_inc (k := 14) (1 : Int32) [some (.ref a0), some (.int a1), some (.int s6), some (.int (s2.2 + (1 : Int32)))] rfl rfl (by decide) (Nat.le_of_ble_eq_true rfl) rfl rfl ?_
      refine tw_goto (k := 15) 4 rfl (by decide) ?_
      exact h1 (s6, s2.2 + (1 : Int32))
    · refine tw_if_eq (k := 12) 24 rfl (by decide) ?_ ?_
      · exact g5 s2.1
      · refine tw_inc (k := 13) (1 : Int32) [some (.ref a0), some (.int a1), some (.int (s2.1 + (1 : Int32))), some (.int s2.2)] rfl rfl (by decide) (Nat.le_of_ble_eq_true rfl) rfl rfl ?_
        exact g5 (s2.1 + (1 : Int32))
def mX2_latestDayOf : tw_MD := (yX2_latestDayOf, cX2_latestDayOf, 3, (some FieldType.int), [(0, .iconst 0, 1, 1), (1, .istore_n 2, 1, 2), (2, .iload_n 2, 1, 3), (3, .aload_n 0, 1, 4), (4, .getfield 21, 3, 7), (7, .if_icmp .ge 25, 3, 10), (10, .aload_n 0, 1, 11), (11, .iload_n 2, 1, 12), (12, .iload_n 1, 1, 13), (13, .invokevirtual 44, 3, 16), (16, .ifCond .eq 10, 3, 19), (19, .aload_n 0, 1, 20), (20, .iload_n 2, 1, 21), (21, .iconst 0, 1, 22), (22, .invokevirtual 41, 3, 25), (25, .ireturn, 1, 26), (26, .iinc 2 1, 3, 29), (29, .goto (-27), 3, 32), (32, .iconst (-1), 1, 33), (33, .ireturn, 1, 34)], [])
theorem mo_X2_latestDayOf : tw_mok mX2_latestDayOf 1 := ⟨plainFor_of_name (by decide +kernel), by decide +kernel, by decide +kernel, by decide +kernel, by decide +kernel⟩
theorem dk_X2_latestDayOf : tw_dk mX2_latestDayOf := by unfold tw_dk; decide +kernel
set_option maxRecDepth 20000 in
theorem K_X2_latestDayOf {g : tw_Gx} (Q : tw_Rs → tw_Mem → Prop) (a0 : Nat) (a1 : Int32) : tw_Kt g mX2_latestDayOf 5 0 0 [.ref a0, .int a1] Q (f_X2_latestDayOf a0 a1 (fun v => Q (.inl (some (.int v))))) := by
  refine tw_mkK (L := [some (.ref a0), some (.int a1), none]) mo_X2_latestDayOf dk_X2_latestDayOf rfl (Nat.le_of_ble_eq_true rfl) rfl ?_
  unfold f_X2_latestDayOf
  refine tw_iconst (k := 0) (0 : Int32) rfl (by decide) ?_
  refine tw_ist_n (k := 1) [some (.ref a0), some (.int a1), some (.int (0 : Int32))] rfl (Nat.le_of_ble_eq_true rfl) rfl rfl ?_
  refine tw_loop (fun s2 => [some (.ref a0), some (.int a1), some (.int s2)]) (fun s2 => []) (fun r1 h1 s2 => ?_) _ rfl rfl
  refine tw_iload_n (k := 2) rfl rfl ?_
  refine tw_aload_n (k := 3) rfl rfl ?_
  refine tw_getI (k := 4) rfl fl_RX2_21 (fun x3 => ?_)
  refine tw_icmp_ge (k := 5) 32 rfl (by decide) ?_ ?_
  · refine tw_iconst (k := 18) (-1 : Int32) rfl (by decide) ?_
    exact tw_ireturn (k := 19) rfl rfl (by decide) (by decide)
  · refine tw_aload_n (k := 6) rfl rfl ?_
    refine tw_iload_n (k := 7) rfl rfl ?_
    refine tw_iload_n (k := 8) rfl rfl ?_
    refine tw_callV (k := 9) (d' := 4) (mc' := 0) (ms' := 0) tw_cI tw_cIi [.int s2, .int a1] rfl rfl wv_RX2_44_X2_isOf mo_X2_isOf (t := 2) rfl rfl rfl (fun Q9 => K_X2_isOf Q9 a0 s2 a1) (by omega) (by decide) (by decide) (Nat.le_of_ble_eq_true rfl) (fun x4 => ?_)
    refine tw_if_eq (k := 10) 26 rfl (by decide) ?_ ?_
    · refine tw_inc (k := 16) (1 : Int32) [some (.ref a0), some (.int a1), some (.int (s2 + (1 : Int32)))] rfl rfl (by decide) (Nat.le_of_ble_eq_true rfl) rfl rfl ?_
      refine tw_goto (k := 17) 2 rfl (by decide) ?_
      exact h1 (s2 + (1 : Int32))
    · refine tw_aload_n (k := 11) rfl rfl ?_
      refine tw_iload_n (k := 12) rfl rfl ?_
      refine tw_iconst (k := 13) (0 : Int32) rfl (by decide) ?_
      refine tw_callV (k := 14) (d' := 3) (mc' := 0) (ms' := 0) tw_cI tw_cIi [.int s2, .int (0 : Int32)] rfl rfl wv_RX2_41_X2_partOf mo_X2_partOf (t := 2) rfl rfl rfl (fun Q9 => K_X2_partOf Q9 a0 s2 (0 : Int32)) (by omega) (by decide) (by decide) (Nat.le_of_ble_eq_true rfl) (fun x5 => ?_)
      exact tw_ireturn (k := 15) rfl rfl (by decide) (by decide)
def mX2_shareOf : tw_MD := (yX2_shareOf, cX2_shareOf, 5, (some FieldType.int), [(0, .iconst 0, 1, 1), (1, .istore_n 2, 1, 2), (2, .iconst 0, 1, 3), (3, .istore_n 3, 1, 4), (4, .iconst 0, 1, 5), (5, .istore 4, 2, 7), (7, .iload 4, 2, 9), (9, .aload_n 0, 1, 10), (10, .getfield 21, 3, 13), (13, .if_icmp .ge 36, 3, 16), (16, .aload_n 0, 1, 17), (17, .iload 4, 2, 19), (19, .iconst 4, 1, 20), (20, .invokevirtual 41, 3, 23), (23, .iconst 4, 1, 24), (24, .if_icmp .ne 19, 3, 27), (27, .iinc 2 1, 3, 30), (30, .aload_n 0, 1, 31), (31, .iload 4, 2, 33), (33, .iload_n 1, 1, 34), (34, .invokevirtual 44, 3, 37), (37, .ifCond .eq 6, 3, 40), (40, .iinc 3 1, 3, 43), (43, .iinc 4 1, 3, 46), (46, .goto (-39), 3, 49), (49, .iload_n 2, 1, 50), (50, .ifCond .le 12, 3, 53), (53, .bipush 100, 2, 55), (55, .iload_n 3, 1, 56), (56, .imul, 1, 57), (57, .iload_n 2, 1, 58), (58, .idiv, 1, 59), (59, .goto 4, 3, 62), (62, .iconst 0, 1, 63), (63, .ireturn, 1, 64)], [])
theorem mo_X2_shareOf : tw_mok mX2_shareOf 1 := ⟨plainFor_of_name (by decide +kernel), by decide +kernel, by decide +kernel, by decide +kernel, by decide +kernel⟩
theorem dk_X2_shareOf : tw_dk mX2_shareOf := by unfold tw_dk; decide +kernel
set_option maxRecDepth 20000 in
theorem K_X2_shareOf {g : tw_Gx} (Q : tw_Rs → tw_Mem → Prop) (a0 : Nat) (a1 : Int32) : tw_Kt g mX2_shareOf 5 0 0 [.ref a0, .int a1] Q (f_X2_shareOf a0 a1 (fun v => Q (.inl (some (.int v))))) := by
  refine tw_mkK (L := [some (.ref a0), some (.int a1), none, none, none]) mo_X2_shareOf dk_X2_shareOf rfl (Nat.le_of_ble_eq_true rfl) rfl ?_
  unfold f_X2_shareOf
  refine tw_iconst (k := 0) (0 : Int32) rfl (by decide) ?_
  refine tw_ist_n (k := 1) [some (.ref a0), some (.int a1), some (.int (0 : Int32)), none, none] rfl (Nat.le_of_ble_eq_true rfl) rfl rfl ?_
  refine tw_iconst (k := 2) (0 : Int32) rfl (by decide) ?_
  refine tw_ist_n (k := 3) [some (.ref a0), some (.int a1), some (.int (0 : Int32)), some (.int (0 : Int32)), none] rfl (Nat.le_of_ble_eq_true rfl) rfl rfl ?_
  refine tw_iconst (k := 4) (0 : Int32) rfl (by decide) ?_
  refine tw_ist (k := 5) [some (.ref a0), some (.int a1), some (.int (0 : Int32)), some (.int (0 : Int32)), some (.int (0 : Int32))] rfl (Nat.le_of_ble_eq_true rfl) rfl rfl ?_
  refine tw_loop (fun s2 => [some (.ref a0), some (.int a1), some (.int s2.1), some (.int s2.2.1), some (.int s2.2.2)]) (fun s2 => []) (fun r1 h1 s2 => ?_) _ rfl rfl
  refine tw_iload (k := 6) rfl rfl ?_
  refine tw_aload_n (k := 7) rfl rfl ?_
  refine tw_getI (k := 8) rfl fl_RX2_21 (fun x3 => ?_)
  refine tw_icmp_ge (k := 9) 49 rfl (by decide) ?_ ?_
  · refine tw_iload_n (k := 25) rfl rfl ?_
    refine tw_if_le (k := 26) 62 rfl (by decide) ?_ ?_
    · refine tw_iconst (k := 33) (0 : Int32) rfl (by decide) ?_
      exact tw_ireturn (k := 34) rfl rfl (by decide) (by decide)
    · refine tw_bipush (k := 27) (100 : Int32) rfl (by decide) ?_
      refine tw_iload_n (k := 28) rfl rfl ?_
      refine tw_imul (k := 29) rfl ?_
      refine tw_iload_n (k := 30) rfl rfl ?_
      refine tw_idiv (k := 31) rfl ?_
      refine tw_goto (k := 32) 63 rfl (by decide) ?_
      exact tw_ireturn (k := 34) rfl rfl (by decide) (by decide)
  · refine tw_aload_n (k := 10) rfl rfl ?_
    refine tw_iload (k := 11) rfl rfl ?_
    refine tw_iconst (k := 12) (4 : Int32) rfl (by decide) ?_
    refine tw_callV (k := 13) (d' := 3) (mc' := 0) (ms' := 0) tw_cI tw_cIi [.int s2.2.2, .int (4 : Int32)] rfl rfl wv_RX2_41_X2_partOf mo_X2_partOf (t := 2) rfl rfl rfl (fun Q9 => K_X2_partOf Q9 a0 s2.2.2 (4 : Int32)) (by omega) (by decide) (by decide) (Nat.le_of_ble_eq_true rfl) (fun x4 => ?_)
    refine tw_iconst (k := 14) (4 : Int32) rfl (by decide) ?_
    refine tw_join 43 (fun s6 => [some (.ref a0), some (.int a1), some (.int s6.1), some (.int s6.2), some (.int s2.2.2)]) (fun s6 => []) 0 0 (fun s6 => ?_) (fun j5 g5 => ?_)
    · refine tw_inc (k := 23) (1 : Int32) [some (.ref a0), some (.int a1), some (.int s6.1), some (.int s6.2), some (.int (s2.2.2 + (1 : Int32)))] rfl rfl (by decide) (Nat.le_of_ble_eq_true rfl) rfl rfl ?_
      refine tw_goto (k := 24) 7 rfl (by decide) ?_
      exact h1 (s6.1, s6.2, s2.2.2 + (1 : Int32))
    · refine tw_icmp_ne (k := 15) 43 rfl (by decide) ?_ ?_
      · exact g5 (s2.1, s2.2.1)
      · refine tw_inc (k := 16) (1 : Int32) [some (.ref a0), some (.int a1), some (.int (s2.1 + (1 : Int32))), some (.int s2.2.1), some (.int s2.2.2)] rfl rfl (by decide) (Nat.le_of_ble_eq_true rfl) rfl rfl ?_
        refine tw_aload_n (k := 17) rfl rfl ?_
        refine tw_iload (k := 18) rfl rfl ?_
        refine tw_iload_n (k := 19) rfl rfl ?_
        refine tw_callV (k := 20) (d' := 4) (mc' := 0) (ms' := 0) tw_cI tw_cIi [.int s2.2.2, .int a1] rfl rfl wv_RX2_44_X2_isOf mo_X2_isOf (t := 2) rfl rfl rfl (fun Q9 => K_X2_isOf Q9 a0 s2.2.2 a1) (by omega) (by decide) (by decide) (Nat.le_of_ble_eq_true rfl) (fun x7 => ?_)
        refine tw_if_eq (k := 21) 43 rfl (by decide) ?_ ?_
        · exact g5 (s2.1 + (1 : Int32), s2.2.1)
        · refine tw_inc (k := 22) (1 : Int32) [some (.ref a0), some (.int a1), some (.int (s2.1 + (1 : Int32))), some (.int (s2.2.1 + (1 : Int32))), some (.int s2.2.2)] rfl rfl (by decide) (Nat.le_of_ble_eq_true rfl) rfl rfl ?_
          exact g5 (s2.1 + (1 : Int32), s2.2.1 + (1 : Int32))
