def mX11_toneBy : tw_MD := (yX11_toneBy, cX11_toneBy, 4, (some FieldType.int), [(0, .iload_n 0, 1, 1), (1, .iload_n 1, 1, 2), (2, .invokestatic 441, 3, 5), (5, .istore_n 3, 1, 6), (6, .iload_n 3, 1, 7), (7, .bipush 9, 2, 9), (9, .if_icmp .lt 5, 3, 12), (12, .iconst 2, 1, 13), (13, .ireturn, 1, 14), (14, .iload_n 3, 1, 15), (15, .iload_n 2, 1, 16), (16, .if_icmp .lt 7, 3, 19), (19, .iconst 3, 1, 20), (20, .goto 4, 3, 23), (23, .iconst 4, 1, 24), (24, .ireturn, 1, 25)], [])
theorem mo_X11_toneBy : tw_mok mX11_toneBy 3 := ⟨plainFor_of_name (by decide +kernel), by decide +kernel, by decide +kernel, by decide +kernel, by decide +kernel⟩
theorem dk_X11_toneBy : tw_dk mX11_toneBy := by unfold tw_dk; decide +kernel
theorem ws_RX11_441_J9_max_7cf53 : tw_wS RX11 441 mJ9_max_7cf53 := ⟨List.mem_of_getElem? (i := 581) (by decide +kernel), List.mem_of_getElem? (i := 582) (by decide +kernel), List.mem_of_getElem? (i := 148) (by decide +kernel), List.mem_of_getElem? (i := 583) (by decide +kernel)⟩
set_option maxRecDepth 20000 in
theorem K_X11_toneBy {g : tw_Gx} (Q : tw_Rs → tw_Mem → Prop) (a0 : Int32) (a1 : Int32) (a2 : Int32) : tw_Kt g mX11_toneBy 2 0 0 [.int a0, .int a1, .int a2] Q (f_X11_toneBy a0 a1 a2 (fun v => Q (.inl (some (.int v))))) := by
  refine tw_mkK (L := [some (.int a0), some (.int a1), some (.int a2), none]) mo_X11_toneBy dk_X11_toneBy rfl (Nat.le_of_ble_eq_true rfl) rfl ?_
  unfold f_X11_toneBy
  refine tw_iload_n (k := 0) rfl rfl ?_
  refine tw_iload_n (k := 1) rfl rfl ?_
  refine tw_callS (k := 2) (d' := 1) (mc' := 0) (ms' := 0) tw_cI tw_cIi [.int a0, .int a1] rfl rfl ws_RX11_441_J9_max_7cf53 mo_J9_max_7cf53 rfl (fun Q9 => K_J9_max_7cf53 Q9 a0 a1) (by omega) (by decide) (by decide) (Nat.le_of_ble_eq_true rfl) (fun x1 => ?_)
  refine tw_ist_n (k := 3) [some (.int a0), some (.int a1), some (.int a2), some (.int x1)] rfl (Nat.le_of_ble_eq_true rfl) rfl rfl ?_
  refine tw_iload_n (k := 4) rfl rfl ?_
  refine tw_bipush (k := 5) (9 : Int32) rfl (by decide) ?_
  refine tw_icmp_lt (k := 6) 14 rfl (by decide) ?_ ?_
  · refine tw_iload_n (k := 9) rfl rfl ?_
    refine tw_iload_n (k := 10) rfl rfl ?_
    refine tw_icmp_lt (k := 11) 23 rfl (by decide) ?_ ?_
    · refine tw_iconst (k := 14) (4 : Int32) rfl (by decide) ?_
      exact tw_ireturn (k := 15) rfl rfl (by decide) (by decide)
    · refine tw_iconst (k := 12) (3 : Int32) rfl (by decide) ?_
      refine tw_goto (k := 13) 24 rfl (by decide) ?_
      exact tw_ireturn (k := 15) rfl rfl (by decide) (by decide)
  · refine tw_iconst (k := 7) (2 : Int32) rfl (by decide) ?_
    exact tw_ireturn (k := 8) rfl rfl (by decide) (by decide)
def mX11_isIn : tw_MD := (yX11_isIn, cX11_isIn, 2, (some FieldType.boolean), [(0, .iload_n 0, 1, 1), (1, .iload_n 1, 1, 2), (2, .ishr, 1, 3), (3, .iconst 1, 1, 4), (4, .iand, 1, 5), (5, .ifCond .eq 7, 3, 8), (8, .iconst 1, 1, 9), (9, .goto 4, 3, 12), (12, .iconst 0, 1, 13), (13, .ireturn, 1, 14)], [])
theorem mo_X11_isIn : tw_mok mX11_isIn 2 := ⟨plainFor_of_name (by decide +kernel), by decide +kernel, by decide +kernel, by decide +kernel, by decide +kernel⟩
theorem dk_X11_isIn : tw_dk mX11_isIn := by unfold tw_dk; decide +kernel
set_option maxRecDepth 20000 in
theorem K_X11_isIn {g : tw_Gx} (Q : tw_Rs → tw_Mem → Prop) (a0 : Int32) (a1 : Int32) : tw_Kt g mX11_isIn 1 0 0 [.int a0, .int a1] Q (f_X11_isIn a0 a1 (fun v => Q (.inl (some (.int v))))) := by
  refine tw_mkK (L := [some (.int a0), some (.int a1)]) mo_X11_isIn dk_X11_isIn rfl (Nat.le_of_ble_eq_true rfl) rfl ?_
  unfold f_X11_isIn
  refine tw_iload_n (k := 0) rfl rfl ?_
  refine tw_iload_n (k := 1) rfl rfl ?_
  refine tw_ishr (k := 2) rfl ?_
  refine tw_iconst (k := 3) (1 : Int32) rfl (by decide) ?_
  refine tw_iand (k := 4) rfl ?_
  refine tw_if_eq (k := 5) 12 rfl (by decide) ?_ ?_
  · refine tw_iconst (k := 8) (0 : Int32) rfl (by decide) ?_
    exact tw_zreturn (k := 9) rfl rfl (by decide) (by decide)
  · refine tw_iconst (k := 6) (1 : Int32) rfl (by decide) ?_
    refine tw_goto (k := 7) 13 rfl (by decide) ?_
    exact tw_zreturn (k := 9) rfl rfl (by decide) (by decide)
def mX8_has : tw_MD := (yX8_has, cX8_has, 2, (some FieldType.boolean), [(0, .iload_n 1, 1, 1), (1, .ifCond .lt 21, 3, 4), (4, .iload_n 1, 1, 5), (5, .aload_n 0, 1, 6), (6, .getfield 60, 3, 9), (9, .if_icmp .ge 13, 3, 12), (12, .iload_n 1, 1, 13), (13, .bipush 8, 2, 15), (15, .if_icmp .ge 7, 3, 18), (18, .iconst 1, 1, 19), (19, .goto 4, 3, 22), (22, .iconst 0, 1, 23), (23, .ireturn, 1, 24)], [])
theorem mo_X8_has : tw_mok mX8_has 1 := ⟨plainFor_of_name (by decide +kernel), by decide +kernel, by decide +kernel, by decide +kernel, by decide +kernel⟩
theorem dk_X8_has : tw_dk mX8_has := by unfold tw_dk; decide +kernel
theorem fl_RX8_60 : tw_fl RX8 60 46 := Or.inl (List.mem_of_getElem? (i := 211) (by decide +kernel))
set_option maxRecDepth 20000 in
theorem K_X8_has {g : tw_Gx} (Q : tw_Rs → tw_Mem → Prop) (a0 : Nat) (a1 : Int32) : tw_Kt g mX8_has 1 0 0 [.ref a0, .int a1] Q (f_X8_has a0 a1 (fun v => Q (.inl (some (.int v))))) := by
  refine tw_mkK (L := [some (.ref a0), some (.int a1)]) mo_X8_has dk_X8_has rfl (Nat.le_of_ble_eq_true rfl) rfl ?_
  unfold f_X8_has
  refine tw_iload_n (k := 0) rfl rfl ?_
  refine tw_if_lt (k := 1) 22 rfl (by decide) ?_ ?_
  · refine tw_iconst (k := 11) (0 : Int32) rfl (by decide) ?_
    exact tw_zreturn (k := 12) rfl rfl (by decide) (by decide)
  · refine tw_iload_n (k := 2) rfl rfl ?_
    refine tw_aload_n (k := 3) rfl rfl ?_
    refine tw_getI (k := 4) rfl fl_RX8_60 (fun x1 => ?_)
    refine tw_icmp_ge (k := 5) 22 rfl (by decide) ?_ ?_
    · refine tw_iconst (k := 11) (0 : Int32) rfl (by decide) ?_
      exact tw_zreturn (k := 12) rfl rfl (by decide) (by decide)
    · refine tw_iload_n (k := 6) rfl rfl ?_
      refine tw_bipush (k := 7) (8 : Int32) rfl (by decide) ?_
      refine tw_icmp_ge (k := 8) 22 rfl (by decide) ?_ ?_
      · refine tw_iconst (k := 11) (0 : Int32) rfl (by decide) ?_
        exact tw_zreturn (k := 12) rfl rfl (by decide) (by decide)
      · refine tw_iconst (k := 9) (1 : Int32) rfl (by decide) ?_
        refine tw_goto (k := 10) 23 rfl (by decide) ?_
        exact tw_zreturn (k := 12) rfl rfl (by decide) (by decide)
def mX8_setSworn : tw_MD := (yX8_setSworn, cX8_setSworn, 3, none, [(0, .aload_n 0, 1, 1), (1, .iload_n 1, 1, 2), (2, .invokevirtual 79, 3, 5), (5, .ifCond .eq 32, 3, 8), (8, .aload_n 0, 1, 9), (9, .iload_n 2, 1, 10), (10, .ifCond .eq 14, 3, 13), (13, .aload_n 0, 1, 14), (14, .getfield 63, 3, 17), (17, .iconst 1, 1, 18), (18, .iload_n 1, 1, 19), (19, .ishl, 1, 20), (20, .ior, 1, 21), (21, .goto 13, 3, 24), (24, .aload_n 0, 1, 25), (25, .getfield 63, 3, 28), (28, .iconst 1, 1, 29), (29, .iload_n 1, 1, 30), (30, .ishl, 1, 31), (31, .iconst (-1), 1, 32), (32, .ixor, 1, 33), (33, .iand, 1, 34), (34, .putfield 63, 3, 37), (37, .return_, 1, 38)], [])
theorem mo_X8_setSworn : tw_mok mX8_setSworn 2 := ⟨plainFor_of_name (by decide +kernel), by decide +kernel, by decide +kernel, by decide +kernel, by decide +kernel⟩
theorem dk_X8_setSworn : tw_dk mX8_setSworn := by unfold tw_dk; decide +kernel
theorem fl_RX8_63 : tw_fl RX8 63 47 := Or.inl (List.mem_of_getElem? (i := 213) (by decide +kernel))
theorem wf_X8_setSworn_63 : tw_wf mX8_setSworn 63 47 := Or.inl rfl
theorem wv_RX8_79_X8_has : tw_wV RX8 79 mX8_has := ⟨List.mem_of_getElem? (i := 554) (by decide +kernel), List.mem_of_getElem? (i := 532) (by decide +kernel), List.mem_of_getElem? (i := 533) (by decide +kernel), List.mem_of_getElem? (i := 126) (by decide +kernel), List.mem_of_getElem? (i := 534) (by decide +kernel)⟩
set_option maxRecDepth 20000 in
theorem K_X8_setSworn {g : tw_Gx} (Q : tw_Rs → tw_Mem → Prop) (a0 : Nat) (a1 : Int32) (a2 : Int32) : tw_Kt g mX8_setSworn 2 0 0 [.ref a0, .int a1, .int a2] Q (f_X8_setSworn a0 a1 a2 (fun v => Q (.inl none))) := by
  refine tw_mkK (L := [some (.ref a0), some (.int a1), some (.int a2)]) mo_X8_setSworn dk_X8_setSworn rfl (Nat.le_of_ble_eq_true rfl) rfl ?_
  unfold f_X8_setSworn
  refine tw_aload_n (k := 0) rfl rfl ?_
  refine tw_iload_n (k := 1) rfl rfl ?_
  refine tw_callV (k := 2) (d' := 1) (mc' := 0) (ms' := 0) tw_cI tw_cIi [.int a1] rfl rfl wv_RX8_79_X8_has mo_X8_has (t := 7) rfl rfl rfl (fun Q9 => K_X8_has Q9 a0 a1) (by omega) (by decide) (by decide) (Nat.le_of_ble_eq_true rfl) (fun x1 => ?_)
  refine tw_if_eq (k := 3) 37 rfl (by decide) ?_ ?_
  · exact tw_return (k := 23) rfl rfl (by decide) (by decide)
  · refine tw_aload_n (k := 4) rfl rfl ?_
    refine tw_iload_n (k := 5) rfl rfl ?_
    refine tw_join 34 (fun s3 => [some (.ref a0), some (.int a1), some (.int a2)]) (fun s3 => .int s3 :: .ref a0 :: []) 0 0 (fun s3 => ?_) (fun j2 g2 => ?_)
    · refine tw_putI (k := 22) rfl fl_RX8_63 wf_X8_setSworn_63 (by decide +kernel) ?_
      exact tw_return (k := 23) rfl rfl (by decide) (by decide)
    · refine tw_if_eq (k := 6) 24 rfl (by decide) ?_ ?_
      · refine tw_aload_n (k := 14) rfl rfl ?_
        refine tw_getI (k := 15) rfl fl_RX8_63 (fun x4 => ?_)
        refine tw_iconst (k := 16) (1 : Int32) rfl (by decide) ?_
        refine tw_iload_n (k := 17) rfl rfl ?_
        refine tw_ishl (k := 18) rfl ?_
        refine tw_iconst (k := 19) (-1 : Int32) rfl (by decide) ?_
        refine tw_ixor (k := 20) rfl ?_
        refine tw_iand (k := 21) rfl ?_
        exact g2 (x4 &&& (((1 : Int32) <<< (a1 &&& 31)) ^^^ (-1 : Int32)))
      · refine tw_aload_n (k := 7) rfl rfl ?_
        refine tw_getI (k := 8) rfl fl_RX8_63 (fun x5 => ?_)
        refine tw_iconst (k := 9) (1 : Int32) rfl (by decide) ?_
        refine tw_iload_n (k := 10) rfl rfl ?_
        refine tw_ishl (k := 11) rfl ?_
        refine tw_ior (k := 12) rfl ?_
        refine tw_goto (k := 13) 34 rfl (by decide) ?_
        exact g2 (x5 ||| ((1 : Int32) <<< (a1 &&& 31)))
def mX8_addPerson : tw_MD := (yX8_addPerson, cX8_addPerson, 5, none, [(0, .aload_n 0, 1, 1), (1, .getfield 60, 3, 4), (4, .ifCond .lt 12, 3, 7), (7, .aload_n 0, 1, 8), (8, .getfield 60, 3, 11), (11, .bipush 8, 2, 13), (13, .if_icmp .lt 4, 3, 16), (16, .return_, 1, 17), (17, .aload_n 0, 1, 18), (18, .getfield 9, 3, 21), (21, .aload_n 0, 1, 22), (22, .getfield 60, 3, 25), (25, .iload_n 1, 1, 26), (26, .iastore, 1, 27), (27, .aload_n 0, 1, 28), (28, .getfield 15, 3, 31), (31, .aload_n 0, 1, 32), (32, .getfield 60, 3, 35), (35, .iload_n 2, 1, 36), (36, .iastore, 1, 37), (37, .aload_n 0, 1, 38), (38, .getfield 18, 3, 41), (41, .aload_n 0, 1, 42), (42, .getfield 60, 3, 45), (45, .iload_n 3, 1, 46), (46, .iastore, 1, 47), (47, .aload_n 0, 1, 48), (48, .dup, 1, 49), (49, .getfield 60, 3, 52), (52, .iconst 1, 1, 53), (53, .iadd, 1, 54), (54, .putfield 60, 3, 57), (57, .aload_n 0, 1, 58), (58, .aload_n 0, 1, 59), (59, .getfield 60, 3, 62), (62, .iconst 1, 1, 63), (63, .isub, 1, 64), (64, .iload 4, 2, 66), (66, .invokevirtual 75, 3, 69), (69, .return_, 1, 70)], [])
theorem mo_X8_addPerson : tw_mok mX8_addPerson 4 := ⟨plainFor_of_name (by decide +kernel), by decide +kernel, by decide +kernel, by decide +kernel, by decide +kernel⟩
theorem dk_X8_addPerson : tw_dk mX8_addPerson := by unfold tw_dk; decide +kernel
theorem fl_RX8_9 : tw_fl RX8 9 39 := Or.inl (List.mem_of_getElem? (i := 201) (by decide +kernel))
theorem fl_RX8_15 : tw_fl RX8 15 40 := Or.inl (List.mem_of_getElem? (i := 202) (by decide +kernel))
theorem fl_RX8_18 : tw_fl RX8 18 41 := Or.inl (List.mem_of_getElem? (i := 203) (by decide +kernel))
theorem wv_RX8_75_X8_setSworn : tw_wV RX8 75 mX8_setSworn := ⟨List.mem_of_getElem? (i := 1069) (by decide +kernel), List.mem_of_getElem? (i := 1070) (by decide +kernel), List.mem_of_getElem? (i := 1071) (by decide +kernel), List.mem_of_getElem? (i := 126) (by decide +kernel), List.mem_of_getElem? (i := 1072) (by decide +kernel)⟩
theorem wf_X8_addPerson_60 : tw_wf mX8_addPerson 60 46 := Or.inl rfl
set_option maxRecDepth 20000 in
theorem K_X8_addPerson {g : tw_Gx} (Q : tw_Rs → tw_Mem → Prop) (a0 : Nat) (a1 : Int32) (a2 : Int32) (a3 : Int32) (a4 : Int32) : tw_Kt g mX8_addPerson 3 0 0 [.ref a0, .int a1, .int a2, .int a3, .int a4] Q (f_X8_addPerson a0 a1 a2 a3 a4 (fun v => Q (.inl none))) := by
  refine tw_mkK (L := [some (.ref a0), some (.int a1), some (.int a2), some (.int a3), some (.int a4)]) mo_X8_addPerson dk_X8_addPerson rfl (Nat.le_of_ble_eq_true rfl) rfl ?_
  unfold f_X8_addPerson
  refine tw_aload_n (k := 0) rfl rfl ?_
  refine tw_getI (k := 1) rfl fl_RX8_60 (fun x1 => ?_)
  refine tw_if_lt (k := 2) 16 rfl (by decide) ?_ ?_
  · exact tw_return (k := 7) rfl rfl (by decide) (by decide)
  · refine tw_aload_n (k := 3) rfl rfl ?_
    refine tw_getI (k := 4) rfl fl_RX8_60 (fun x2 => ?_)
    refine tw_bipush (k := 5) (8 : Int32) rfl (by decide) ?_
    refine tw_icmp_lt (k := 6) 17 rfl (by decide) ?_ ?_
    · refine tw_aload_n (k := 8) rfl rfl ?_
      refine tw_getR (k := 9) rfl fl_RX8_9 (fun x3 => ?_)
      refine tw_aload_n (k := 10) rfl rfl ?_
      refine tw_getI (k := 11) rfl fl_RX8_60 (fun x4 => ?_)
      refine tw_iload_n (k := 12) rfl rfl ?_
      refine tw_iastore (k := 13) rfl ?_
      refine tw_aload_n (k := 14) rfl rfl ?_
      refine tw_getR (k := 15) rfl fl_RX8_15 (fun x5 => ?_)
      refine tw_aload_n (k := 16) rfl rfl ?_
      refine tw_getI (k := 17) rfl fl_RX8_60 (fun x6 => ?_)
      refine tw_iload_n (k := 18) rfl rfl ?_
      refine tw_iastore (k := 19) rfl ?_
      refine tw_aload_n (k := 20) rfl rfl ?_
      refine tw_getR (k := 21) rfl fl_RX8_18 (fun x7 => ?_)
      refine tw_aload_n (k := 22) rfl rfl ?_
      refine tw_getI (k := 23) rfl fl_RX8_60 (fun x8 => ?_)
      refine tw_iload_n (k := 24) rfl rfl ?_
      refine tw_iastore (k := 25) rfl ?_
      refine tw_aload_n (k := 26) rfl rfl ?_
      refine tw_dup (k := 27) rfl rfl ?_
      refine tw_getI (k := 28) rfl fl_RX8_60 (fun x9 => ?_)
      refine tw_iconst (k := 29) (1 : Int32) rfl (by decide) ?_
      refine tw_iadd (k := 30) rfl ?_
      refine tw_putI (k := 31) rfl fl_RX8_60 wf_X8_addPerson_60 (by decide +kernel) ?_
      refine tw_aload_n (k := 32) rfl rfl ?_
      refine tw_aload_n (k := 33) rfl rfl ?_
      refine tw_getI (k := 34) rfl fl_RX8_60 (fun x10 => ?_)
      refine tw_iconst (k := 35) (1 : Int32) rfl (by decide) ?_
      refine tw_isub (k := 36) rfl ?_
      refine tw_iload (k := 37) rfl rfl ?_
      refine tw_callV (k := 38) (d' := 2) (mc' := 0) (ms' := 0) tw_cU tw_cUi [.int (x10 - (1 : Int32)), .int a4] rfl rfl wv_RX8_75_X8_setSworn mo_X8_setSworn (t := 7) rfl rfl rfl (fun Q9 => K_X8_setSworn Q9 a0 (x10 - (1 : Int32)) a4) (by omega) (by decide) (by decide) (Nat.le_of_ble_eq_true rfl) (fun u11 => ?_)
      exact tw_return (k := 39) rfl rfl (by decide) (by decide)
    · exact tw_return (k := 7) rfl rfl (by decide) (by decide)
def mX8_hauntOf : tw_MD := (yX8_hauntOf, cX8_hauntOf, 2, (some FieldType.int), [(0, .aload_n 0, 1, 1), (1, .iload_n 1, 1, 2), (2, .invokevirtual 79, 3, 5), (5, .ifCond .eq 12, 3, 8), (8, .aload_n 0, 1, 9), (9, .getfield 9, 3, 12), (12, .iload_n 1, 1, 13), (13, .iaload, 1, 14), (14, .goto 4, 3, 17), (17, .iconst (-1), 1, 18), (18, .ireturn, 1, 19)], [])
theorem mo_X8_hauntOf : tw_mok mX8_hauntOf 1 := ⟨plainFor_of_name (by decide +kernel), by decide +kernel, by decide +kernel, by decide +kernel, by decide +kernel⟩
theorem dk_X8_hauntOf : tw_dk mX8_hauntOf := by unfold tw_dk; decide +kernel
set_option maxRecDepth 20000 in
theorem K_X8_hauntOf {g : tw_Gx} (Q : tw_Rs → tw_Mem → Prop) (a0 : Nat) (a1 : Int32) : tw_Kt g mX8_hauntOf 2 0 0 [.ref a0, .int a1] Q (f_X8_hauntOf a0 a1 (fun v => Q (.inl (some (.int v))))) := by
  refine tw_mkK (L := [some (.ref a0), some (.int a1)]) mo_X8_hauntOf dk_X8_hauntOf rfl (Nat.le_of_ble_eq_true rfl) rfl ?_
  unfold f_X8_hauntOf
  refine tw_aload_n (k := 0) rfl rfl ?_
  refine tw_iload_n (k := 1) rfl rfl ?_
  refine tw_callV (k := 2) (d' := 1) (mc' := 0) (ms' := 0) tw_cI tw_cIi [.int a1] rfl rfl wv_RX8_79_X8_has mo_X8_has (t := 7) rfl rfl rfl (fun Q9 => K_X8_has Q9 a0 a1) (by omega) (by decide) (by decide) (Nat.le_of_ble_eq_true rfl) (fun x1 => ?_)
  refine tw_if_eq (k := 3) 17 rfl (by decide) ?_ ?_
  · refine tw_iconst (k := 9) (-1 : Int32) rfl (by decide) ?_
    exact tw_ireturn (k := 10) rfl rfl (by decide) (by decide)
  · refine tw_aload_n (k := 4) rfl rfl ?_
    refine tw_getR (k := 5) rfl fl_RX8_9 (fun x2 => ?_)
    refine tw_iload_n (k := 6) rfl rfl ?_
    refine tw_iaload (k := 7) rfl (fun x3 => ?_)
    refine tw_goto (k := 8) 18 rfl (by decide) ?_
    exact tw_ireturn (k := 10) rfl rfl (by decide) (by decide)
def mX8_setHaunt : tw_MD := (yX8_setHaunt, cX8_setHaunt, 3, none, [(0, .aload_n 0, 1, 1), (1, .iload_n 1, 1, 2), (2, .invokevirtual 79, 3, 5), (5, .ifCond .eq 10, 3, 8), (8, .aload_n 0, 1, 9), (9, .getfield 9, 3, 12), (12, .iload_n 1, 1, 13), (13, .iload_n 2, 1, 14), (14, .iastore, 1, 15), (15, .return_, 1, 16)], [])
theorem mo_X8_setHaunt : tw_mok mX8_setHaunt 2 := ⟨plainFor_of_name (by decide +kernel), by decide +kernel, by decide +kernel, by decide +kernel, by decide +kernel⟩
theorem dk_X8_setHaunt : tw_dk mX8_setHaunt := by unfold tw_dk; decide +kernel
set_option maxRecDepth 20000 in
theorem K_X8_setHaunt {g : tw_Gx} (Q : tw_Rs → tw_Mem → Prop) (a0 : Nat) (a1 : Int32) (a2 : Int32) : tw_Kt g mX8_setHaunt 2 0 0 [.ref a0, .int a1, .int a2] Q (f_X8_setHaunt a0 a1 a2 (fun v => Q (.inl none))) := by
  refine tw_mkK (L := [some (.ref a0), some (.int a1), some (.int a2)]) mo_X8_setHaunt dk_X8_setHaunt rfl (Nat.le_of_ble_eq_true rfl) rfl ?_
  unfold f_X8_setHaunt
  refine tw_aload_n (k := 0) rfl rfl ?_
  refine tw_iload_n (k := 1) rfl rfl ?_
  refine tw_callV (k := 2) (d' := 1) (mc' := 0) (ms' := 0) tw_cI tw_cIi [.int a1] rfl rfl wv_RX8_79_X8_has mo_X8_has (t := 7) rfl rfl rfl (fun Q9 => K_X8_has Q9 a0 a1) (by omega) (by decide) (by decide) (Nat.le_of_ble_eq_true rfl) (fun x1 => ?_)
  refine tw_if_eq (k := 3) 15 rfl (by decide) ?_ ?_
  · exact tw_return (k := 9) rfl rfl (by decide) (by decide)
  · refine tw_aload_n (k := 4) rfl rfl ?_
    refine tw_getR (k := 5) rfl fl_RX8_9 (fun x2 => ?_)
    refine tw_iload_n (k := 6) rfl rfl ?_
    refine tw_iload_n (k := 7) rfl rfl ?_
    refine tw_iastore (k := 8) rfl ?_
    exact tw_return (k := 9) rfl rfl (by decide) (by decide)
def mX8_roamsOf : tw_MD := (yX8_roamsOf, cX8_roamsOf, 2, (some FieldType.int), [(0, .aload_n 0, 1, 1), (1, .iload_n 1, 1, 2), (2, .invokevirtual 79, 3, 5), (5, .ifCond .eq 12, 3, 8), (8, .aload_n 0, 1, 9), (9, .getfield 15, 3, 12), (12, .iload_n 1, 1, 13), (13, .iaload, 1, 14), (14, .goto 4, 3, 17), (17, .iconst 0, 1, 18), (18, .ireturn, 1, 19)], [])
theorem mo_X8_roamsOf : tw_mok mX8_roamsOf 1 := ⟨plainFor_of_name (by decide +kernel), by decide +kernel, by decide +kernel, by decide +kernel, by decide +kernel⟩
theorem dk_X8_roamsOf : tw_dk mX8_roamsOf := by unfold tw_dk; decide +kernel
set_option maxRecDepth 20000 in
theorem K_X8_roamsOf {g : tw_Gx} (Q : tw_Rs → tw_Mem → Prop) (a0 : Nat) (a1 : Int32) : tw_Kt g mX8_roamsOf 2 0 0 [.ref a0, .int a1] Q (f_X8_roamsOf a0 a1 (fun v => Q (.inl (some (.int v))))) := by
  refine tw_mkK (L := [some (.ref a0), some (.int a1)]) mo_X8_roamsOf dk_X8_roamsOf rfl (Nat.le_of_ble_eq_true rfl) rfl ?_
  unfold f_X8_roamsOf
  refine tw_aload_n (k := 0) rfl rfl ?_
  refine tw_iload_n (k := 1) rfl rfl ?_
  refine tw_callV (k := 2) (d' := 1) (mc' := 0) (ms' := 0) tw_cI tw_cIi [.int a1] rfl rfl wv_RX8_79_X8_has mo_X8_has (t := 7) rfl rfl rfl (fun Q9 => K_X8_has Q9 a0 a1) (by omega) (by decide) (by decide) (Nat.le_of_ble_eq_true rfl) (fun x1 => ?_)
  refine tw_if_eq (k := 3) 17 rfl (by decide) ?_ ?_
  · refine tw_iconst (k := 9) (0 : Int32) rfl (by decide) ?_
    exact tw_ireturn (k := 10) rfl rfl (by decide) (by decide)
  · refine tw_aload_n (k := 4) rfl rfl ?_
    refine tw_getR (k := 5) rfl fl_RX8_15 (fun x2 => ?_)
    refine tw_iload_n (k := 6) rfl rfl ?_
    refine tw_iaload (k := 7) rfl (fun x3 => ?_)
    refine tw_goto (k := 8) 18 rfl (by decide) ?_
    exact tw_ireturn (k := 10) rfl rfl (by decide) (by decide)
def mX8_payOf : tw_MD := (yX8_payOf, cX8_payOf, 2, (some FieldType.int), [(0, .aload_n 0, 1, 1), (1, .iload_n 1, 1, 2), (2, .invokevirtual 79, 3, 5), (5, .ifCond .eq 12, 3, 8), (8, .aload_n 0, 1, 9), (9, .getfield 18, 3, 12), (12, .iload_n 1, 1, 13), (13, .iaload, 1, 14), (14, .goto 4, 3, 17), (17, .iconst 0, 1, 18), (18, .ireturn, 1, 19)], [])
theorem mo_X8_payOf : tw_mok mX8_payOf 1 := ⟨plainFor_of_name (by decide +kernel), by decide +kernel, by decide +kernel, by decide +kernel, by decide +kernel⟩
theorem dk_X8_payOf : tw_dk mX8_payOf := by unfold tw_dk; decide +kernel
set_option maxRecDepth 20000 in
theorem K_X8_payOf {g : tw_Gx} (Q : tw_Rs → tw_Mem → Prop) (a0 : Nat) (a1 : Int32) : tw_Kt g mX8_payOf 2 0 0 [.ref a0, .int a1] Q (f_X8_payOf a0 a1 (fun v => Q (.inl (some (.int v))))) := by
  refine tw_mkK (L := [some (.ref a0), some (.int a1)]) mo_X8_payOf dk_X8_payOf rfl (Nat.le_of_ble_eq_true rfl) rfl ?_
  unfold f_X8_payOf
  refine tw_aload_n (k := 0) rfl rfl ?_
  refine tw_iload_n (k := 1) rfl rfl ?_
  refine tw_callV (k := 2) (d' := 1) (mc' := 0) (ms' := 0) tw_cI tw_cIi [.int a1] rfl rfl wv_RX8_79_X8_has mo_X8_has (t := 7) rfl rfl rfl (fun Q9 => K_X8_has Q9 a0 a1) (by omega) (by decide) (by decide) (Nat.le_of_ble_eq_true rfl) (fun x1 => ?_)
  refine tw_if_eq (k := 3) 17 rfl (by decide) ?_ ?_
  · refine tw_iconst (k := 9) (0 : Int32) rfl (by decide) ?_
    exact tw_ireturn (k := 10) rfl rfl (by decide) (by decide)
  · refine tw_aload_n (k := 4) rfl rfl ?_
    refine tw_getR (k := 5) rfl fl_RX8_18 (fun x2 => ?_)
    refine tw_iload_n (k := 6) rfl rfl ?_
    refine tw_iaload (k := 7) rfl (fun x3 => ?_)
    refine tw_goto (k := 8) 18 rfl (by decide) ?_
    exact tw_ireturn (k := 10) rfl rfl (by decide) (by decide)
def mX8_isSworn : tw_MD := (yX8_isSworn, cX8_isSworn, 2, (some FieldType.boolean), [(0, .aload_n 0, 1, 1), (1, .iload_n 1, 1, 2), (2, .invokevirtual 79, 3, 5), (5, .ifCond .eq 18, 3, 8), (8, .aload_n 0, 1, 9), (9, .getfield 63, 3, 12), (12, .iload_n 1, 1, 13), (13, .invokestatic 83, 3, 16), (16, .ifCond .eq 7, 3, 19), (19, .iconst 1, 1, 20), (20, .goto 4, 3, 23), (23, .iconst 0, 1, 24), (24, .ireturn, 1, 25)], [])
theorem mo_X8_isSworn : tw_mok mX8_isSworn 1 := ⟨plainFor_of_name (by decide +kernel), by decide +kernel, by decide +kernel, by decide +kernel, by decide +kernel⟩
theorem dk_X8_isSworn : tw_dk mX8_isSworn := by unfold tw_dk; decide +kernel
theorem wn_RX8_83_X11_isIn : tw_wSN RX8 83 mX11_isIn "TwinRopes" := ⟨List.mem_of_getElem? (i := 555) (by decide +kernel), List.mem_of_getElem? (i := 556) (by decide +kernel), List.mem_of_getElem? (i := 124) (by decide +kernel), List.mem_of_getElem? (i := 557) (by decide +kernel)⟩
set_option maxRecDepth 20000 in
theorem K_X8_isSworn {g : tw_Gx} (Q : tw_Rs → tw_Mem → Prop) (a0 : Nat) (a1 : Int32) : tw_Kt g mX8_isSworn 2 0 0 [.ref a0, .int a1] Q (f_X8_isSworn a0 a1 (fun v => Q (.inl (some (.int v))))) := by
  refine tw_mkK (L := [some (.ref a0), some (.int a1)]) mo_X8_isSworn dk_X8_isSworn rfl (Nat.le_of_ble_eq_true rfl) rfl ?_
  unfold f_X8_isSworn
  refine tw_aload_n (k := 0) rfl rfl ?_
  refine tw_iload_n (k := 1) rfl rfl ?_
  refine tw_callV (k := 2) (d' := 1) (mc' := 0) (ms' := 0) tw_cI tw_cIi [.int a1] rfl rfl wv_RX8_79_X8_has mo_X8_has (t := 7) rfl rfl rfl (fun Q9 => K_X8_has Q9 a0 a1) (by omega) (by decide) (by decide) (Nat.le_of_ble_eq_true rfl) (fun x1 => ?_)
  refine tw_if_eq (k := 3) 23 rfl (by decide) ?_ ?_
  · refine tw_iconst (k := 11) (0 : Int32) rfl (by decide) ?_
    exact tw_zreturn (k := 12) rfl rfl (by decide) (by decide)
  · refine tw_aload_n (k := 4) rfl rfl ?_
    refine tw_getI (k := 5) rfl fl_RX8_63 (fun x2 => ?_)
    refine tw_iload_n (k := 6) rfl rfl ?_
    refine tw_callSN (k := 7) (d' := 1) (mc' := 0) (ms' := 0) tw_cI tw_cIi [.int x2, .int a1] rfl rfl wn_RX8_83_X11_isIn mo_X11_isIn rfl (fun Q9 => K_X11_isIn Q9 x2 a1) (by omega) (by decide) (by decide) (Nat.le_of_ble_eq_true rfl) (fun x3 => ?_)
    refine tw_if_eq (k := 8) 23 rfl (by decide) ?_ ?_
    · refine tw_iconst (k := 11) (0 : Int32) rfl (by decide) ?_
      exact tw_zreturn (k := 12) rfl rfl (by decide) (by decide)
    · refine tw_iconst (k := 9) (1 : Int32) rfl (by decide) ?_
      refine tw_goto (k := 10) 24 rfl (by decide) ?_
      exact tw_zreturn (k := 12) rfl rfl (by decide) (by decide)
def mX8_areNear : tw_MD := (yX8_areNear, cX8_areNear, 3, (some FieldType.boolean), [(0, .aload_n 0, 1, 1), (1, .iload_n 1, 1, 2), (2, .invokevirtual 87, 3, 5), (5, .aload_n 0, 1, 6), (6, .iload_n 2, 1, 7), (7, .invokevirtual 87, 3, 10), (10, .if_icmp .ne 7, 3, 13), (13, .iconst 1, 1, 14), (14, .goto 4, 3, 17), (17, .iconst 0, 1, 18), (18, .ireturn, 1, 19)], [])
theorem mo_X8_areNear : tw_mok mX8_areNear 2 := ⟨plainFor_of_name (by decide +kernel), by decide +kernel, by decide +kernel, by decide +kernel, by decide +kernel⟩
theorem dk_X8_areNear : tw_dk mX8_areNear := by unfold tw_dk; decide +kernel
theorem wv_RX8_87_X8_hauntOf : tw_wV RX8 87 mX8_hauntOf := ⟨List.mem_of_getElem? (i := 566) (by decide +kernel), List.mem_of_getElem? (i := 567) (by decide +kernel), List.mem_of_getElem? (i := 568) (by decide +kernel), List.mem_of_getElem? (i := 126) (by decide +kernel), List.mem_of_getElem? (i := 569) (by decide +kernel)⟩
set_option maxRecDepth 20000 in
theorem K_X8_areNear {g : tw_Gx} (Q : tw_Rs → tw_Mem → Prop) (a0 : Nat) (a1 : Int32) (a2 : Int32) : tw_Kt g mX8_areNear 3 0 0 [.ref a0, .int a1, .int a2] Q (f_X8_areNear a0 a1 a2 (fun v => Q (.inl (some (.int v))))) := by
  refine tw_mkK (L := [some (.ref a0), some (.int a1), some (.int a2)]) mo_X8_areNear dk_X8_areNear rfl (Nat.le_of_ble_eq_true rfl) rfl ?_
  unfold f_X8_areNear
  refine tw_aload_n (k := 0) rfl rfl ?_
  refine tw_iload_n (k := 1) rfl rfl ?_
  refine tw_callV (k := 2) (d' := 2) (mc' := 0) (ms' := 0) tw_cI tw_cIi [.int a1] rfl rfl wv_RX8_87_X8_hauntOf mo_X8_hauntOf (t := 7) rfl rfl rfl (fun Q9 => K_X8_hauntOf Q9 a0 a1) (by omega) (by decide) (by decide) (Nat.le_of_ble_eq_true rfl) (fun x1 => ?_)
  refine tw_aload_n (k := 3) rfl rfl ?_
  refine tw_iload_n (k := 4) rfl rfl ?_
  refine tw_callV (k := 5) (d' := 2) (mc' := 0) (ms' := 0) tw_cI tw_cIi [.int a2] rfl rfl wv_RX8_87_X8_hauntOf mo_X8_hauntOf (t := 7) rfl rfl rfl (fun Q9 => K_X8_hauntOf Q9 a0 a2) (by omega) (by decide) (by decide) (Nat.le_of_ble_eq_true rfl) (fun x2 => ?_)
  refine tw_icmp_ne (k := 6) 17 rfl (by decide) ?_ ?_
  · refine tw_iconst (k := 9) (0 : Int32) rfl (by decide) ?_
    exact tw_zreturn (k := 10) rfl rfl (by decide) (by decide)
  · refine tw_iconst (k := 7) (1 : Int32) rfl (by decide) ?_
    refine tw_goto (k := 8) 18 rfl (by decide) ?_
    exact tw_zreturn (k := 10) rfl rfl (by decide) (by decide)
def mX8_areAlike : tw_MD := (yX8_areAlike, cX8_areAlike, 3, (some FieldType.boolean), [(0, .aload_n 0, 1, 1), (1, .iload_n 1, 1, 2), (2, .iload_n 2, 1, 3), (3, .invokevirtual 91, 3, 6), (6, .ifCond .eq 33, 3, 9), (9, .aload_n 0, 1, 10), (10, .iload_n 1, 1, 11), (11, .invokevirtual 94, 3, 14), (14, .aload_n 0, 1, 15), (15, .iload_n 2, 1, 16), (16, .invokevirtual 94, 3, 19), (19, .if_icmp .ne 20, 3, 22), (22, .aload_n 0, 1, 23), (23, .iload_n 1, 1, 24), (24, .invokevirtual 97, 3, 27), (27, .aload_n 0, 1, 28), (28, .iload_n 2, 1, 29), (29, .invokevirtual 97, 3, 32), (32, .if_icmp .ne 7, 3, 35), (35, .iconst 1, 1, 36), (36, .goto 4, 3, 39), (39, .iconst 0, 1, 40), (40, .ireturn, 1, 41)], [])
theorem mo_X8_areAlike : tw_mok mX8_areAlike 2 := ⟨plainFor_of_name (by decide +kernel), by decide +kernel, by decide +kernel, by decide +kernel, by decide +kernel⟩
theorem dk_X8_areAlike : tw_dk mX8_areAlike := by unfold tw_dk; decide +kernel
theorem wv_RX8_97_X8_payOf : tw_wV RX8 97 mX8_payOf := ⟨List.mem_of_getElem? (i := 769) (by decide +kernel), List.mem_of_getElem? (i := 726) (by decide +kernel), List.mem_of_getElem? (i := 727) (by decide +kernel), List.mem_of_getElem? (i := 126) (by decide +kernel), List.mem_of_getElem? (i := 728) (by decide +kernel)⟩
theorem wv_RX8_94_X8_roamsOf : tw_wV RX8 94 mX8_roamsOf := ⟨List.mem_of_getElem? (i := 807) (by decide +kernel), List.mem_of_getElem? (i := 808) (by decide +kernel), List.mem_of_getElem? (i := 809) (by decide +kernel), List.mem_of_getElem? (i := 126) (by decide +kernel), List.mem_of_getElem? (i := 810) (by decide +kernel)⟩
theorem wv_RX8_91_X8_areNear : tw_wV RX8 91 mX8_areNear := ⟨List.mem_of_getElem? (i := 806) (by decide +kernel), List.mem_of_getElem? (i := 563) (by decide +kernel), List.mem_of_getElem? (i := 564) (by decide +kernel), List.mem_of_getElem? (i := 126) (by decide +kernel), List.mem_of_getElem? (i := 565) (by decide +kernel)⟩
set_option maxRecDepth 20000 in
theorem K_X8_areAlike {g : tw_Gx} (Q : tw_Rs → tw_Mem → Prop) (a0 : Nat) (a1 : Int32) (a2 : Int32) : tw_Kt g mX8_areAlike 4 0 0 [.ref a0, .int a1, .int a2] Q (f_X8_areAlike a0 a1 a2 (fun v => Q (.inl (some (.int v))))) := by
  refine tw_mkK (L := [some (.ref a0), some (.int a1), some (.int a2)]) mo_X8_areAlike dk_X8_areAlike rfl (Nat.le_of_ble_eq_true rfl) rfl ?_
  unfold f_X8_areAlike
  refine tw_aload_n (k := 0) rfl rfl ?_
  refine tw_iload_n (k := 1) rfl rfl ?_
  refine tw_iload_n (k := 2) rfl rfl ?_
  refine tw_callV (k := 3) (d' := 3) (mc' := 0) (ms' := 0) tw_cI tw_cIi [.int a1, .int a2] rfl rfl wv_RX8_91_X8_areNear mo_X8_areNear (t := 7) rfl rfl rfl (fun Q9 => K_X8_areNear Q9 a0 a1 a2) (by omega) (by decide) (by decide) (Nat.le_of_ble_eq_true rfl) (fun x1 => ?_)
  refine tw_if_eq (k := 4) 39 rfl (by decide) ?_ ?_
  · refine tw_iconst (k := 21) (0 : Int32) rfl (by decide) ?_
    exact tw_zreturn (k := 22) rfl rfl (by decide) (by decide)
  · refine tw_aload_n (k := 5) rfl rfl ?_
    refine tw_iload_n (k := 6) rfl rfl ?_
    refine tw_callV (k := 7) (d' := 2) (mc' := 0) (ms' := 0) tw_cI tw_cIi [.int a1] rfl rfl wv_RX8_94_X8_roamsOf mo_X8_roamsOf (t := 7) rfl rfl rfl (fun Q9 => K_X8_roamsOf Q9 a0 a1) (by omega) (by decide) (by decide) (Nat.le_of_ble_eq_true rfl) (fun x2 => ?_)
    refine tw_aload_n (k := 8) rfl rfl ?_
    refine tw_iload_n (k := 9) rfl rfl ?_
    refine tw_callV (k := 10) (d' := 2) (mc' := 0) (ms' := 0) tw_cI tw_cIi [.int a2] rfl rfl wv_RX8_94_X8_roamsOf mo_X8_roamsOf (t := 7) rfl rfl rfl (fun Q9 => K_X8_roamsOf Q9 a0 a2) (by omega) (by decide) (by decide) (Nat.le_of_ble_eq_true rfl) (fun x3 => ?_)
    refine tw_icmp_ne (k := 11) 39 rfl (by decide) ?_ ?_
    · refine tw_iconst (k := 21) (0 : Int32) rfl (by decide) ?_
      exact tw_zreturn (k := 22) rfl rfl (by decide) (by decide)
    · refine tw_aload_n (k := 12) rfl rfl ?_
      refine tw_iload_n (k := 13) rfl rfl ?_
      refine tw_callV (k := 14) (d' := 2) (mc' := 0) (ms' := 0) tw_cI tw_cIi [.int a1] rfl rfl wv_RX8_97_X8_payOf mo_X8_payOf (t := 7) rfl rfl rfl (fun Q9 => K_X8_payOf Q9 a0 a1) (by omega) (by decide) (by decide) (Nat.le_of_ble_eq_true rfl) (fun x4 => ?_)
      refine tw_aload_n (k := 15) rfl rfl ?_
      refine tw_iload_n (k := 16) rfl rfl ?_
      refine tw_callV (k := 17) (d' := 2) (mc' := 0) (ms' := 0) tw_cI tw_cIi [.int a2] rfl rfl wv_RX8_97_X8_payOf mo_X8_payOf (t := 7) rfl rfl rfl (fun Q9 => K_X8_payOf Q9 a0 a2) (by omega) (by decide) (by decide) (Nat.le_of_ble_eq_true rfl) (fun x5 => ?_)
      refine tw_icmp_ne (k := 18) 39 rfl (by decide) ?_ ?_
      · refine tw_iconst (k := 21) (0 : Int32) rfl (by decide) ?_
        exact tw_zreturn (k := 22) rfl rfl (by decide) (by decide)
      · refine tw_iconst (k := 19) (1 : Int32) rfl (by decide) ?_
        refine tw_goto (k := 20) 40 rfl (by decide) ?_
        exact tw_zreturn (k := 22) rfl rfl (by decide) (by decide)
def mX8_nearBits : tw_MD := (yX8_nearBits, cX8_nearBits, 4, (some FieldType.int), [(0, .iconst 0, 1, 1), (1, .istore_n 2, 1, 2), (2, .iconst 0, 1, 3), (3, .istore_n 3, 1, 4), (4, .iload_n 3, 1, 5), (5, .aload_n 0, 1, 6), (6, .getfield 60, 3, 9), (9, .if_icmp .ge 29, 3, 12), (12, .iload_n 3, 1, 13), (13, .iload_n 1, 1, 14), (14, .if_icmp .eq 18, 3, 17), (17, .aload_n 0, 1, 18), (18, .iload_n 1, 1, 19), (19, .iload_n 3, 1, 20), (20, .invokevirtual 91, 3, 23), (23, .ifCond .eq 9, 3, 26), (26, .iload_n 2, 1, 27), (27, .iconst 1, 1, 28), (28, .iload_n 3, 1, 29), (29, .ishl, 1, 30), (30, .ior, 1, 31), (31, .istore_n 2, 1, 32), (32, .iinc 3 1, 3, 35), (35, .goto (-31), 3, 38), (38, .iload_n 2, 1, 39), (39, .ireturn, 1, 40)], [])
theorem mo_X8_nearBits : tw_mok mX8_nearBits 1 := ⟨plainFor_of_name (by decide +kernel), by decide +kernel, by decide +kernel, by decide +kernel, by decide +kernel⟩
theorem dk_X8_nearBits : tw_dk mX8_nearBits := by unfold tw_dk; decide +kernel
set_option maxRecDepth 20000 in
theorem K_X8_nearBits {g : tw_Gx} (Q : tw_Rs → tw_Mem → Prop) (a0 : Nat) (a1 : Int32) : tw_Kt g mX8_nearBits 4 0 0 [.ref a0, .int a1] Q (f_X8_nearBits a0 a1 (fun v => Q (.inl (some (.int v))))) := by
  refine tw_mkK (L := [some (.ref a0), some (.int a1), none, none]) mo_X8_nearBits dk_X8_nearBits rfl (Nat.le_of_ble_eq_true rfl) rfl ?_
  unfold f_X8_nearBits
  refine tw_iconst (k := 0) (0 : Int32) rfl (by decide) ?_
  refine tw_ist_n (k := 1) [some (.ref a0), some (.int a1), some (.int (0 : Int32)), none] rfl (Nat.le_of_ble_eq_true rfl) rfl rfl ?_
  refine tw_iconst (k := 2) (0 : Int32) rfl (by decide) ?_
  refine tw_ist_n (k := 3) [some (.ref a0), some (.int a1), some (.int (0 : Int32)), some (.int (0 : Int32))] rfl (Nat.le_of_ble_eq_true rfl) rfl rfl ?_
  refine tw_loop (fun s2 => [some (.ref a0), some (.int a1), some (.int s2.1), some (.int s2.2)]) (fun s2 => []) (fun r1 h1 s2 => ?_) _ rfl rfl
  refine tw_iload_n (k := 4) rfl rfl ?_
  refine tw_aload_n (k := 5) rfl rfl ?_
  refine tw_getI (k := 6) rfl fl_RX8_60 (fun x3 => ?_)
  refine tw_icmp_ge (k := 7) 38 rfl (by decide) ?_ ?_
  · refine tw_iload_n (k := 24) rfl rfl ?_
    exact tw_ireturn (k := 25) rfl rfl (by decide) (by decide)
  · refine tw_iload_n (k := 8) rfl rfl ?_
    refine tw_iload_n (k := 9) rfl rfl ?_
    refine tw_join 32 (fun s5 => [some (.ref a0), some (.int a1), some (.int s5), some (.int s2.2)]) (fun s5 => []) 0 0 (fun s5 => ?_) (fun j4 g4 => ?_)
    · refine tw_inc (k := 22) (1 : Int32) [some (.ref a0), some (.int a1), some (.int s5), some (.int (s2.2 + (1 : Int32)))] rfl rfl (by decide) (Nat.le_of_ble_eq_true rfl) rfl rfl ?_
      refine tw_goto (k := 23) 4 rfl (by decide) ?_
      exact h1 (s5, s2.2 + (1 : Int32))
    · refine tw_icmp_eq (k := 10) 32 rfl (by decide) ?_ ?_
      · exact g4 s2.1
      · refine tw_aload_n (k := 11) rfl rfl ?_
        refine tw_iload_n (k := 12) rfl rfl ?_
        refine tw_iload_n (k := 13) rfl rfl ?_
        refine tw_callV (k := 14) (d' := 3) (mc' := 0) (ms' := 0) tw_cI tw_cIi [.int a1, .int s2.2] rfl rfl wv_RX8_91_X8_areNear mo_X8_areNear (t := 7) rfl rfl rfl (fun Q9 => K_X8_areNear Q9 a0 a1 s2.2) (by omega) (by decide) (by decide) (Nat.le_of_ble_eq_true rfl) (fun x6 => ?_)
        refine tw_if_eq (k := 15) 32 rfl (by decide) ?_ ?_
        · exact g4 s2.1
        · refine tw_iload_n (k := 16) rfl rfl ?_
          refine tw_iconst (k := 17) (1 : Int32) rfl (by decide) ?_
          refine tw_iload_n (k := 18) rfl rfl ?_
          refine tw_ishl (k := 19) rfl ?_
          refine tw_ior (k := 20) rfl ?_
          refine tw_let (fun x7 => [some (.ref a0), some (.int a1), some (.int s2.1), some (.int s2.2)]) (fun x7 => .int x7 :: []) rfl rfl (fun x7 => ?_)
          refine tw_ist_n (k := 21) [some (.ref a0), some (.int a1), some (.int x7), some (.int s2.2)] rfl (Nat.le_of_ble_eq_true rfl) rfl rfl ?_
          exact g4 x7
def mX8_cell : tw_MD := (yX8_cell, cX8_cell, 2, (some FieldType.int), [(0, .iload_n 0, 1, 1), (1, .ifCond .lt 19, 3, 4), (4, .iload_n 0, 1, 5), (5, .bipush 8, 2, 7), (7, .if_icmp .ge 13, 3, 10), (10, .iload_n 1, 1, 11), (11, .ifCond .lt 9, 3, 14), (14, .iload_n 1, 1, 15), (15, .bipush 8, 2, 17), (17, .if_icmp .lt 5, 3, 20), (20, .iconst (-1), 1, 21), (21, .ireturn, 1, 22), (22, .bipush 8, 2, 24), (24, .iload_n 0, 1, 25), (25, .imul, 1, 26), (26, .iload_n 1, 1, 27), (27, .iadd, 1, 28), (28, .ireturn, 1, 29)], [])
theorem mo_X8_cell : tw_mok mX8_cell 2 := ⟨plainFor_of_name (by decide +kernel), by decide +kernel, by decide +kernel, by decide +kernel, by decide +kernel⟩
theorem dk_X8_cell : tw_dk mX8_cell := by unfold tw_dk; decide +kernel
set_option maxRecDepth 20000 in
theorem K_X8_cell {g : tw_Gx} (Q : tw_Rs → tw_Mem → Prop) (a0 : Int32) (a1 : Int32) : tw_Kt g mX8_cell 1 0 0 [.int a0, .int a1] Q (f_X8_cell a0 a1 (fun v => Q (.inl (some (.int v))))) := by
  refine tw_mkK (L := [some (.int a0), some (.int a1)]) mo_X8_cell dk_X8_cell rfl (Nat.le_of_ble_eq_true rfl) rfl ?_
  unfold f_X8_cell
  refine tw_iload_n (k := 0) rfl rfl ?_
  refine tw_if_lt (k := 1) 20 rfl (by decide) ?_ ?_
  · refine tw_iconst (k := 10) (-1 : Int32) rfl (by decide) ?_
    exact tw_ireturn (k := 11) rfl rfl (by decide) (by decide)
  · refine tw_iload_n (k := 2) rfl rfl ?_
    refine tw_bipush (k := 3) (8 : Int32) rfl (by decide) ?_
    refine tw_icmp_ge (k := 4) 20 rfl (by decide) ?_ ?_
    · refine tw_iconst (k := 10) (-1 : Int32) rfl (by decide) ?_
      exact tw_ireturn (k := 11) rfl rfl (by decide) (by decide)
    · refine tw_iload_n (k := 5) rfl rfl ?_
      refine tw_if_lt (k := 6) 20 rfl (by decide) ?_ ?_
      · refine tw_iconst (k := 10) (-1 : Int32) rfl (by decide) ?_
        exact tw_ireturn (k := 11) rfl rfl (by decide) (by decide)
      · refine tw_iload_n (k := 7) rfl rfl ?_
        refine tw_bipush (k := 8) (8 : Int32) rfl (by decide) ?_
        refine tw_icmp_lt (k := 9) 22 rfl (by decide) ?_ ?_
        · refine tw_bipush (k := 12) (8 : Int32) rfl (by decide) ?_
          refine tw_iload_n (k := 13) rfl rfl ?_
          refine tw_imul (k := 14) rfl ?_
          refine tw_iload_n (k := 15) rfl rfl ?_
          refine tw_iadd (k := 16) rfl ?_
          exact tw_ireturn (k := 17) rfl rfl (by decide) (by decide)
        · refine tw_iconst (k := 10) (-1 : Int32) rfl (by decide) ?_
          exact tw_ireturn (k := 11) rfl rfl (by decide) (by decide)
def mX8_guessOf : tw_MD := (yX8_guessOf, cX8_guessOf, 4, (some FieldType.int), [(0, .iload_n 1, 1, 1), (1, .iload_n 2, 1, 2), (2, .invokestatic 100, 3, 5), (5, .istore_n 3, 1, 6), (6, .iload_n 3, 1, 7), (7, .ifCond .lt 12, 3, 10), (10, .aload_n 0, 1, 11), (11, .getfield 21, 3, 14), (14, .iload_n 3, 1, 15), (15, .iaload, 1, 16), (16, .goto 4, 3, 19), (19, .iconst 0, 1, 20), (20, .ireturn, 1, 21)], [])
theorem mo_X8_guessOf : tw_mok mX8_guessOf 2 := ⟨plainFor_of_name (by decide +kernel), by decide +kernel, by decide +kernel, by decide +kernel, by decide +kernel⟩
theorem dk_X8_guessOf : tw_dk mX8_guessOf := by unfold tw_dk; decide +kernel
theorem fl_RX8_21 : tw_fl RX8 21 42 := Or.inl (List.mem_of_getElem? (i := 204) (by decide +kernel))
theorem ws_RX8_100_X8_cell : tw_wS RX8 100 mX8_cell := ⟨List.mem_of_getElem? (i := 547) (by decide +kernel), List.mem_of_getElem? (i := 548) (by decide +kernel), List.mem_of_getElem? (i := 126) (by decide +kernel), List.mem_of_getElem? (i := 549) (by decide +kernel)⟩
set_option maxRecDepth 20000 in
theorem K_X8_guessOf {g : tw_Gx} (Q : tw_Rs → tw_Mem → Prop) (a0 : Nat) (a1 : Int32) (a2 : Int32) : tw_Kt g mX8_guessOf 2 0 0 [.ref a0, .int a1, .int a2] Q (f_X8_guessOf a0 a1 a2 (fun v => Q (.inl (some (.int v))))) := by
  refine tw_mkK (L := [some (.ref a0), some (.int a1), some (.int a2), none]) mo_X8_guessOf dk_X8_guessOf rfl (Nat.le_of_ble_eq_true rfl) rfl ?_
  unfold f_X8_guessOf
  refine tw_iload_n (k := 0) rfl rfl ?_
  refine tw_iload_n (k := 1) rfl rfl ?_
  refine tw_callS (k := 2) (d' := 1) (mc' := 0) (ms' := 0) tw_cI tw_cIi [.int a1, .int a2] rfl rfl ws_RX8_100_X8_cell mo_X8_cell rfl (fun Q9 => K_X8_cell Q9 a1 a2) (by omega) (by decide) (by decide) (Nat.le_of_ble_eq_true rfl) (fun x1 => ?_)
  refine tw_ist_n (k := 3) [some (.ref a0), some (.int a1), some (.int a2), some (.int x1)] rfl (Nat.le_of_ble_eq_true rfl) rfl rfl ?_
  refine tw_iload_n (k := 4) rfl rfl ?_
  refine tw_if_lt (k := 5) 19 rfl (by decide) ?_ ?_
  · refine tw_iconst (k := 11) (0 : Int32) rfl (by decide) ?_
    exact tw_ireturn (k := 12) rfl rfl (by decide) (by decide)
  · refine tw_aload_n (k := 6) rfl rfl ?_
    refine tw_getR (k := 7) rfl fl_RX8_21 (fun x2 => ?_)
    refine tw_iload_n (k := 8) rfl rfl ?_
    refine tw_iaload (k := 9) rfl (fun x3 => ?_)
    refine tw_goto (k := 10) 20 rfl (by decide) ?_
    exact tw_ireturn (k := 12) rfl rfl (by decide) (by decide)
def mX8_setGuess : tw_MD := (yX8_setGuess, cX8_setGuess, 5, none, [(0, .iload_n 1, 1, 1), (1, .iload_n 2, 1, 2), (2, .invokestatic 100, 3, 5), (5, .istore 4, 2, 7), (7, .iload 4, 2, 9), (9, .ifCond .lt 11, 3, 12), (12, .aload_n 0, 1, 13), (13, .getfield 21, 3, 16), (16, .iload 4, 2, 18), (18, .iload_n 3, 1, 19), (19, .iastore, 1, 20), (20, .return_, 1, 21)], [])
theorem mo_X8_setGuess : tw_mok mX8_setGuess 3 := ⟨plainFor_of_name (by decide +kernel), by decide +kernel, by decide +kernel, by decide +kernel, by decide +kernel⟩
theorem dk_X8_setGuess : tw_dk mX8_setGuess := by unfold tw_dk; decide +kernel
set_option maxRecDepth 20000 in
theorem K_X8_setGuess {g : tw_Gx} (Q : tw_Rs → tw_Mem → Prop) (a0 : Nat) (a1 : Int32) (a2 : Int32) (a3 : Int32) : tw_Kt g mX8_setGuess 2 0 0 [.ref a0, .int a1, .int a2, .int a3] Q (f_X8_setGuess a0 a1 a2 a3 (fun v => Q (.inl none))) := by
  refine tw_mkK (L := [some (.ref a0), some (.int a1), some (.int a2), some (.int a3), none]) mo_X8_setGuess dk_X8_setGuess rfl (Nat.le_of_ble_eq_true rfl) rfl ?_
  unfold f_X8_setGuess
  refine tw_iload_n (k := 0) rfl rfl ?_
  refine tw_iload_n (k := 1) rfl rfl ?_
  refine tw_callS (k := 2) (d' := 1) (mc' := 0) (ms' := 0) tw_cI tw_cIi [.int a1, .int a2] rfl rfl ws_RX8_100_X8_cell mo_X8_cell rfl (fun Q9 => K_X8_cell Q9 a1 a2) (by omega) (by decide) (by decide) (Nat.le_of_ble_eq_true rfl) (fun x1 => ?_)
  refine tw_ist (k := 3) [some (.ref a0), some (.int a1), some (.int a2), some (.int a3), some (.int x1)] rfl (Nat.le_of_ble_eq_true rfl) rfl rfl ?_
  refine tw_iload (k := 4) rfl rfl ?_
  refine tw_if_lt (k := 5) 20 rfl (by decide) ?_ ?_
  · exact tw_return (k := 11) rfl rfl (by decide) (by decide)
  · refine tw_aload_n (k := 6) rfl rfl ?_
    refine tw_getR (k := 7) rfl fl_RX8_21 (fun x2 => ?_)
    refine tw_iload (k := 8) rfl rfl ?_
    refine tw_iload_n (k := 9) rfl rfl ?_
    refine tw_iastore (k := 10) rfl ?_
    exact tw_return (k := 11) rfl rfl (by decide) (by decide)
def mX8_rungOf : tw_MD := (yX8_rungOf, cX8_rungOf, 4, (some FieldType.int), [(0, .iload_n 1, 1, 1), (1, .iload_n 2, 1, 2), (2, .invokestatic 100, 3, 5), (5, .istore_n 3, 1, 6), (6, .iload_n 3, 1, 7), (7, .ifCond .lt 12, 3, 10), (10, .aload_n 0, 1, 11), (11, .getfield 24, 3, 14), (14, .iload_n 3, 1, 15), (15, .iaload, 1, 16), (16, .goto 4, 3, 19), (19, .iconst 0, 1, 20), (20, .ireturn, 1, 21)], [])
theorem mo_X8_rungOf : tw_mok mX8_rungOf 2 := ⟨plainFor_of_name (by decide +kernel), by decide +kernel, by decide +kernel, by decide +kernel, by decide +kernel⟩
theorem dk_X8_rungOf : tw_dk mX8_rungOf := by unfold tw_dk; decide +kernel
theorem fl_RX8_24 : tw_fl RX8 24 43 := Or.inl (List.mem_of_getElem? (i := 205) (by decide +kernel))
set_option maxRecDepth 20000 in
theorem K_X8_rungOf {g : tw_Gx} (Q : tw_Rs → tw_Mem → Prop) (a0 : Nat) (a1 : Int32) (a2 : Int32) : tw_Kt g mX8_rungOf 2 0 0 [.ref a0, .int a1, .int a2] Q (f_X8_rungOf a0 a1 a2 (fun v => Q (.inl (some (.int v))))) := by
  refine tw_mkK (L := [some (.ref a0), some (.int a1), some (.int a2), none]) mo_X8_rungOf dk_X8_rungOf rfl (Nat.le_of_ble_eq_true rfl) rfl ?_
  unfold f_X8_rungOf
  refine tw_iload_n (k := 0) rfl rfl ?_
  refine tw_iload_n (k := 1) rfl rfl ?_
  refine tw_callS (k := 2) (d' := 1) (mc' := 0) (ms' := 0) tw_cI tw_cIi [.int a1, .int a2] rfl rfl ws_RX8_100_X8_cell mo_X8_cell rfl (fun Q9 => K_X8_cell Q9 a1 a2) (by omega) (by decide) (by decide) (Nat.le_of_ble_eq_true rfl) (fun x1 => ?_)
  refine tw_ist_n (k := 3) [some (.ref a0), some (.int a1), some (.int a2), some (.int x1)] rfl (Nat.le_of_ble_eq_true rfl) rfl rfl ?_
  refine tw_iload_n (k := 4) rfl rfl ?_
  refine tw_if_lt (k := 5) 19 rfl (by decide) ?_ ?_
  · refine tw_iconst (k := 11) (0 : Int32) rfl (by decide) ?_
    exact tw_ireturn (k := 12) rfl rfl (by decide) (by decide)
  · refine tw_aload_n (k := 6) rfl rfl ?_
    refine tw_getR (k := 7) rfl fl_RX8_24 (fun x2 => ?_)
    refine tw_iload_n (k := 8) rfl rfl ?_
    refine tw_iaload (k := 9) rfl (fun x3 => ?_)
    refine tw_goto (k := 10) 20 rfl (by decide) ?_
    exact tw_ireturn (k := 12) rfl rfl (by decide) (by decide)
def mX8_setRung : tw_MD := (yX8_setRung, cX8_setRung, 5, none, [(0, .iload_n 1, 1, 1), (1, .iload_n 2, 1, 2), (2, .invokestatic 100, 3, 5), (5, .istore 4, 2, 7), (7, .iload 4, 2, 9), (9, .ifCond .lt 11, 3, 12), (12, .aload_n 0, 1, 13), (13, .getfield 24, 3, 16), (16, .iload 4, 2, 18), (18, .iload_n 3, 1, 19), (19, .iastore, 1, 20), (20, .return_, 1, 21)], [])
theorem mo_X8_setRung : tw_mok mX8_setRung 3 := ⟨plainFor_of_name (by decide +kernel), by decide +kernel, by decide +kernel, by decide +kernel, by decide +kernel⟩
theorem dk_X8_setRung : tw_dk mX8_setRung := by unfold tw_dk; decide +kernel
set_option maxRecDepth 20000 in
theorem K_X8_setRung {g : tw_Gx} (Q : tw_Rs → tw_Mem → Prop) (a0 : Nat) (a1 : Int32) (a2 : Int32) (a3 : Int32) : tw_Kt g mX8_setRung 2 0 0 [.ref a0, .int a1, .int a2, .int a3] Q (f_X8_setRung a0 a1 a2 a3 (fun v => Q (.inl none))) := by
  refine tw_mkK (L := [some (.ref a0), some (.int a1), some (.int a2), some (.int a3), none]) mo_X8_setRung dk_X8_setRung rfl (Nat.le_of_ble_eq_true rfl) rfl ?_
  unfold f_X8_setRung
  refine tw_iload_n (k := 0) rfl rfl ?_
  refine tw_iload_n (k := 1) rfl rfl ?_
  refine tw_callS (k := 2) (d' := 1) (mc' := 0) (ms' := 0) tw_cI tw_cIi [.int a1, .int a2] rfl rfl ws_RX8_100_X8_cell mo_X8_cell rfl (fun Q9 => K_X8_cell Q9 a1 a2) (by omega) (by decide) (by decide) (Nat.le_of_ble_eq_true rfl) (fun x1 => ?_)
  refine tw_ist (k := 3) [some (.ref a0), some (.int a1), some (.int a2), some (.int a3), some (.int x1)] rfl (Nat.le_of_ble_eq_true rfl) rfl rfl ?_
  refine tw_iload (k := 4) rfl rfl ?_
  refine tw_if_lt (k := 5) 20 rfl (by decide) ?_ ?_
  · exact tw_return (k := 11) rfl rfl (by decide) (by decide)
  · refine tw_aload_n (k := 6) rfl rfl ?_
    refine tw_getR (k := 7) rfl fl_RX8_24 (fun x2 => ?_)
    refine tw_iload (k := 8) rfl rfl ?_
    refine tw_iload_n (k := 9) rfl rfl ?_
    refine tw_iastore (k := 10) rfl ?_
    exact tw_return (k := 11) rfl rfl (by decide) (by decide)
def mX8_clearGuesses : tw_MD := (yX8_clearGuesses, cX8_clearGuesses, 3, none, [(0, .iconst 0, 1, 1), (1, .istore_n 2, 1, 2), (2, .iload_n 2, 1, 3), (3, .aload_n 0, 1, 4), (4, .getfield 60, 3, 7), (7, .if_icmp .ge 23, 3, 10), (10, .aload_n 0, 1, 11), (11, .iload_n 1, 1, 12), (12, .iload_n 2, 1, 13), (13, .iconst 0, 1, 14), (14, .invokevirtual 104, 3, 17), (17, .aload_n 0, 1, 18), (18, .iload_n 2, 1, 19), (19, .iload_n 1, 1, 20), (20, .iconst 0, 1, 21), (21, .invokevirtual 104, 3, 24), (24, .iinc 2 1, 3, 27), (27, .goto (-25), 3, 30), (30, .return_, 1, 31)], [])
theorem mo_X8_clearGuesses : tw_mok mX8_clearGuesses 1 := ⟨plainFor_of_name (by decide +kernel), by decide +kernel, by decide +kernel, by decide +kernel, by decide +kernel⟩
theorem dk_X8_clearGuesses : tw_dk mX8_clearGuesses := by unfold tw_dk; decide +kernel
theorem wv_RX8_104_X8_setGuess : tw_wV RX8 104 mX8_setGuess := ⟨List.mem_of_getElem? (i := 1481) (by decide +kernel), List.mem_of_getElem? (i := 1089) (by decide +kernel), List.mem_of_getElem? (i := 1090) (by decide +kernel), List.mem_of_getElem? (i := 126) (by decide +kernel), List.mem_of_getElem? (i := 1091) (by decide +kernel)⟩
set_option maxRecDepth 20000 in
theorem K_X8_clearGuesses {g : tw_Gx} (Q : tw_Rs → tw_Mem → Prop) (a0 : Nat) (a1 : Int32) : tw_Kt g mX8_clearGuesses 3 0 0 [.ref a0, .int a1] Q (f_X8_clearGuesses a0 a1 (fun v => Q (.inl none))) := by
  refine tw_mkK (L := [some (.ref a0), some (.int a1), none]) mo_X8_clearGuesses dk_X8_clearGuesses rfl (Nat.le_of_ble_eq_true rfl) rfl ?_
  unfold f_X8_clearGuesses
  refine tw_iconst (k := 0) (0 : Int32) rfl (by decide) ?_
  refine tw_ist_n (k := 1) [some (.ref a0), some (.int a1), some (.int (0 : Int32))] rfl (Nat.le_of_ble_eq_true rfl) rfl rfl ?_
  refine tw_loop (fun s2 => [some (.ref a0), some (.int a1), some (.int s2)]) (fun s2 => []) (fun r1 h1 s2 => ?_) _ rfl rfl
  refine tw_iload_n (k := 2) rfl rfl ?_
  refine tw_aload_n (k := 3) rfl rfl ?_
  refine tw_getI (k := 4) rfl fl_RX8_60 (fun x3 => ?_)
  refine tw_icmp_ge (k := 5) 30 rfl (by decide) ?_ ?_
  · exact tw_return (k := 18) rfl rfl (by decide) (by decide)
  · refine tw_aload_n (k := 6) rfl rfl ?_
    refine tw_iload_n (k := 7) rfl rfl ?_
    refine tw_iload_n (k := 8) rfl rfl ?_
    refine tw_iconst (k := 9) (0 : Int32) rfl (by decide) ?_
    refine tw_callV (k := 10) (d' := 2) (mc' := 0) (ms' := 0) tw_cU tw_cUi [.int a1, .int s2, .int (0 : Int32)] rfl rfl wv_RX8_104_X8_setGuess mo_X8_setGuess (t := 7) rfl rfl rfl (fun Q9 => K_X8_setGuess Q9 a0 a1 s2 (0 : Int32)) (by omega) (by decide) (by decide) (Nat.le_of_ble_eq_true rfl) (fun u4 => ?_)
    refine tw_aload_n (k := 11) rfl rfl ?_
    refine tw_iload_n (k := 12) rfl rfl ?_
    refine tw_iload_n (k := 13) rfl rfl ?_
    refine tw_iconst (k := 14) (0 : Int32) rfl (by decide) ?_
    refine tw_callV (k := 15) (d' := 2) (mc' := 0) (ms' := 0) tw_cU tw_cUi [.int s2, .int a1, .int (0 : Int32)] rfl rfl wv_RX8_104_X8_setGuess mo_X8_setGuess (t := 7) rfl rfl rfl (fun Q9 => K_X8_setGuess Q9 a0 s2 a1 (0 : Int32)) (by omega) (by decide) (by decide) (Nat.le_of_ble_eq_true rfl) (fun u5 => ?_)
    refine tw_inc (k := 16) (1 : Int32) [some (.ref a0), some (.int a1), some (.int (s2 + (1 : Int32)))] rfl rfl (by decide) (Nat.le_of_ble_eq_true rfl) rfl rfl ?_
    refine tw_goto (k := 17) 2 rfl (by decide) ?_
    exact h1 (s2 + (1 : Int32))
def mX8_guessesBy : tw_MD := (yX8_guessesBy, cX8_guessesBy, 4, (some FieldType.int), [(0, .iconst 0, 1, 1), (1, .istore_n 2, 1, 2), (2, .iconst 0, 1, 3), (3, .istore_n 3, 1, 4), (4, .iload_n 3, 1, 5), (5, .aload_n 0, 1, 6), (6, .getfield 60, 3, 9), (9, .if_icmp .ge 18, 3, 12), (12, .iload_n 2, 1, 13), (13, .aload_n 0, 1, 14), (14, .iload_n 1, 1, 15), (15, .iload_n 3, 1, 16), (16, .invokevirtual 108, 3, 19), (19, .iadd, 1, 20), (20, .istore_n 2, 1, 21), (21, .iinc 3 1, 3, 24), (24, .goto (-20), 3, 27), (27, .iload_n 2, 1, 28), (28, .ireturn, 1, 29)], [])
theorem mo_X8_guessesBy : tw_mok mX8_guessesBy 1 := ⟨plainFor_of_name (by decide +kernel), by decide +kernel, by decide +kernel, by decide +kernel, by decide +kernel⟩
theorem dk_X8_guessesBy : tw_dk mX8_guessesBy := by unfold tw_dk; decide +kernel
theorem wv_RX8_108_X8_guessOf : tw_wV RX8 108 mX8_guessOf := ⟨List.mem_of_getElem? (i := 638) (by decide +kernel), List.mem_of_getElem? (i := 544) (by decide +kernel), List.mem_of_getElem? (i := 545) (by decide +kernel), List.mem_of_getElem? (i := 126) (by decide +kernel), List.mem_of_getElem? (i := 546) (by decide +kernel)⟩
set_option maxRecDepth 20000 in
theorem K_X8_guessesBy {g : tw_Gx} (Q : tw_Rs → tw_Mem → Prop) (a0 : Nat) (a1 : Int32) : tw_Kt g mX8_guessesBy 3 0 0 [.ref a0, .int a1] Q (f_X8_guessesBy a0 a1 (fun v => Q (.inl (some (.int v))))) := by
  refine tw_mkK (L := [some (.ref a0), some (.int a1), none, none]) mo_X8_guessesBy dk_X8_guessesBy rfl (Nat.le_of_ble_eq_true rfl) rfl ?_
  unfold f_X8_guessesBy
  refine tw_iconst (k := 0) (0 : Int32) rfl (by decide) ?_
  refine tw_ist_n (k := 1) [some (.ref a0), some (.int a1), some (.int (0 : Int32)), none] rfl (Nat.le_of_ble_eq_true rfl) rfl rfl ?_
  refine tw_iconst (k := 2) (0 : Int32) rfl (by decide) ?_
  refine tw_ist_n (k := 3) [some (.ref a0), some (.int a1), some (.int (0 : Int32)), some (.int (0 : Int32))] rfl (Nat.le_of_ble_eq_true rfl) rfl rfl ?_
  refine tw_loop (fun s2 => [some (.ref a0), some (.int a1), some (.int s2.1), some (.int s2.2)]) (fun s2 => []) (fun r1 h1 s2 => ?_) _ rfl rfl
  refine tw_iload_n (k := 4) rfl rfl ?_
  refine tw_aload_n (k := 5) rfl rfl ?_
  refine tw_getI (k := 6) rfl fl_RX8_60 (fun x3 => ?_)
  refine tw_icmp_ge (k := 7) 27 rfl (by decide) ?_ ?_
  · refine tw_iload_n (k := 17) rfl rfl ?_
    exact tw_ireturn (k := 18) rfl rfl (by decide) (by decide)
  · refine tw_iload_n (k := 8) rfl rfl ?_
    refine tw_aload_n (k := 9) rfl rfl ?_
    refine tw_iload_n (k := 10) rfl rfl ?_
    refine tw_iload_n (k := 11) rfl rfl ?_
    refine tw_callV (k := 12) (d' := 2) (mc' := 0) (ms' := 0) tw_cI tw_cIi [.int a1, .int s2.2] rfl rfl wv_RX8_108_X8_guessOf mo_X8_guessOf (t := 7) rfl rfl rfl (fun Q9 => K_X8_guessOf Q9 a0 a1 s2.2) (by omega) (by decide) (by decide) (Nat.le_of_ble_eq_true rfl) (fun x4 => ?_)
    refine tw_iadd (k := 13) rfl ?_
    refine tw_let (fun x5 => [some (.ref a0), some (.int a1), some (.int s2.1), some (.int s2.2)]) (fun x5 => .int x5 :: []) rfl rfl (fun x5 => ?_)
    refine tw_ist_n (k := 14) [some (.ref a0), some (.int a1), some (.int x5), some (.int s2.2)] rfl (Nat.le_of_ble_eq_true rfl) rfl rfl ?_
    refine tw_inc (k := 15) (1 : Int32) [some (.ref a0), some (.int a1), some (.int x5), some (.int (s2.2 + (1 : Int32)))] rfl rfl (by decide) (Nat.le_of_ble_eq_true rfl) rfl rfl ?_
    refine tw_goto (k := 16) 4 rfl (by decide) ?_
    exact h1 (x5, s2.2 + (1 : Int32))
def mX8_guessesOn : tw_MD := (yX8_guessesOn, cX8_guessesOn, 4, (some FieldType.int), [(0, .iconst 0, 1, 1), (1, .istore_n 2, 1, 2), (2, .iconst 0, 1, 3), (3, .istore_n 3, 1, 4), (4, .iload_n 3, 1, 5), (5, .aload_n 0, 1, 6), (6, .getfield 60, 3, 9), (9, .if_icmp .ge 18, 3, 12), (12, .iload_n 2, 1, 13), (13, .aload_n 0, 1, 14), (14, .iload_n 3, 1, 15), (15, .iload_n 1, 1, 16), (16, .invokevirtual 108, 3, 19), (19, .iadd, 1, 20), (20, .istore_n 2, 1, 21), (21, .iinc 3 1, 3, 24), (24, .goto (-20), 3, 27), (27, .iload_n 2, 1, 28), (28, .ireturn, 1, 29)], [])
theorem mo_X8_guessesOn : tw_mok mX8_guessesOn 1 := ⟨plainFor_of_name (by decide +kernel), by decide +kernel, by decide +kernel, by decide +kernel, by decide +kernel⟩
theorem dk_X8_guessesOn : tw_dk mX8_guessesOn := by unfold tw_dk; decide +kernel
set_option maxRecDepth 20000 in
theorem K_X8_guessesOn {g : tw_Gx} (Q : tw_Rs → tw_Mem → Prop) (a0 : Nat) (a1 : Int32) : tw_Kt g mX8_guessesOn 3 0 0 [.ref a0, .int a1] Q (f_X8_guessesOn a0 a1 (fun v => Q (.inl (some (.int v))))) := by
  refine tw_mkK (L := [some (.ref a0), some (.int a1), none, none]) mo_X8_guessesOn dk_X8_guessesOn rfl (Nat.le_of_ble_eq_true rfl) rfl ?_
  unfold f_X8_guessesOn
  refine tw_iconst (k := 0) (0 : Int32) rfl (by decide) ?_
  refine tw_ist_n (k := 1) [some (.ref a0), some (.int a1), some (.int (0 : Int32)), none] rfl (Nat.le_of_ble_eq_true rfl) rfl rfl ?_
  refine tw_iconst (k := 2) (0 : Int32) rfl (by decide) ?_
  refine tw_ist_n (k := 3) [some (.ref a0), some (.int a1), some (.int (0 : Int32)), some (.int (0 : Int32))] rfl (Nat.le_of_ble_eq_true rfl) rfl rfl ?_
  refine tw_loop (fun s2 => [some (.ref a0), some (.int a1), some (.int s2.1), some (.int s2.2)]) (fun s2 => []) (fun r1 h1 s2 => ?_) _ rfl rfl
  refine tw_iload_n (k := 4) rfl rfl ?_
  refine tw_aload_n (k := 5) rfl rfl ?_
  refine tw_getI (k := 6) rfl fl_RX8_60 (fun x3 => ?_)
  refine tw_icmp_ge (k := 7) 27 rfl (by decide) ?_ ?_
  · refine tw_iload_n (k := 17) rfl rfl ?_
    exact tw_ireturn (k := 18) rfl rfl (by decide) (by decide)
  · refine tw_iload_n (k := 8) rfl rfl ?_
    refine tw_aload_n (k := 9) rfl rfl ?_
    refine tw_iload_n (k := 10) rfl rfl ?_
    refine tw_iload_n (k := 11) rfl rfl ?_
    refine tw_callV (k := 12) (d' := 2) (mc' := 0) (ms' := 0) tw_cI tw_cIi [.int s2.2, .int a1] rfl rfl wv_RX8_108_X8_guessOf mo_X8_guessOf (t := 7) rfl rfl rfl (fun Q9 => K_X8_guessOf Q9 a0 s2.2 a1) (by omega) (by decide) (by decide) (Nat.le_of_ble_eq_true rfl) (fun x4 => ?_)
    refine tw_iadd (k := 13) rfl ?_
    refine tw_let (fun x5 => [some (.ref a0), some (.int a1), some (.int s2.1), some (.int s2.2)]) (fun x5 => .int x5 :: []) rfl rfl (fun x5 => ?_)
    refine tw_ist_n (k := 14) [some (.ref a0), some (.int a1), some (.int x5), some (.int s2.2)] rfl (Nat.le_of_ble_eq_true rfl) rfl rfl ?_
    refine tw_inc (k := 15) (1 : Int32) [some (.ref a0), some (.int a1), some (.int x5), some (.int (s2.2 + (1 : Int32)))] rfl rfl (by decide) (Nat.le_of_ble_eq_true rfl) rfl rfl ?_
    refine tw_goto (k := 16) 4 rfl (by decide) ?_
    exact h1 (x5, s2.2 + (1 : Int32))
def mX8_guessesOfAll : tw_MD := (yX8_guessesOfAll, cX8_guessesOfAll, 3, (some FieldType.int), [(0, .iconst 0, 1, 1), (1, .istore_n 1, 1, 2), (2, .iconst 0, 1, 3), (3, .istore_n 2, 1, 4), (4, .iload_n 2, 1, 5), (5, .aload_n 0, 1, 6), (6, .getfield 60, 3, 9), (9, .if_icmp .ge 17, 3, 12), (12, .iload_n 1, 1, 13), (13, .aload_n 0, 1, 14), (14, .iload_n 2, 1, 15), (15, .invokevirtual 111, 3, 18), (18, .iadd, 1, 19), (19, .istore_n 1, 1, 20), (20, .iinc 2 1, 3, 23), (23, .goto (-19), 3, 26), (26, .iload_n 1, 1, 27), (27, .ireturn, 1, 28)], [])
theorem mo_X8_guessesOfAll : tw_mok mX8_guessesOfAll 0 := ⟨plainFor_of_name (by decide +kernel), by decide +kernel, by decide +kernel, by decide +kernel, by decide +kernel⟩
theorem dk_X8_guessesOfAll : tw_dk mX8_guessesOfAll := by unfold tw_dk; decide +kernel
theorem wv_RX8_111_X8_guessesBy : tw_wV RX8 111 mX8_guessesBy := ⟨List.mem_of_getElem? (i := 790) (by decide +kernel), List.mem_of_getElem? (i := 791) (by decide +kernel), List.mem_of_getElem? (i := 792) (by decide +kernel), List.mem_of_getElem? (i := 126) (by decide +kernel), List.mem_of_getElem? (i := 793) (by decide +kernel)⟩
set_option maxRecDepth 20000 in
theorem K_X8_guessesOfAll {g : tw_Gx} (Q : tw_Rs → tw_Mem → Prop) (a0 : Nat) : tw_Kt g mX8_guessesOfAll 4 0 0 [.ref a0] Q (f_X8_guessesOfAll a0 (fun v => Q (.inl (some (.int v))))) := by
  refine tw_mkK (L := [some (.ref a0), none, none]) mo_X8_guessesOfAll dk_X8_guessesOfAll rfl (Nat.le_of_ble_eq_true rfl) rfl ?_
  unfold f_X8_guessesOfAll
  refine tw_iconst (k := 0) (0 : Int32) rfl (by decide) ?_
  refine tw_ist_n (k := 1) [some (.ref a0), some (.int (0 : Int32)), none] rfl (Nat.le_of_ble_eq_true rfl) rfl rfl ?_
  refine tw_iconst (k := 2) (0 : Int32) rfl (by decide) ?_
  refine tw_ist_n (k := 3) [some (.ref a0), some (.int (0 : Int32)), some (.int (0 : Int32))] rfl (Nat.le_of_ble_eq_true rfl) rfl rfl ?_
  refine tw_loop (fun s2 => [some (.ref a0), some (.int s2.1), some (.int s2.2)]) (fun s2 => []) (fun r1 h1 s2 => ?_) _ rfl rfl
  refine tw_iload_n (k := 4) rfl rfl ?_
  refine tw_aload_n (k := 5) rfl rfl ?_
  refine tw_getI (k := 6) rfl fl_RX8_60 (fun x3 => ?_)
  refine tw_icmp_ge (k := 7) 26 rfl (by decide) ?_ ?_
  · refine tw_iload_n (k := 16) rfl rfl ?_
    exact tw_ireturn (k := 17) rfl rfl (by decide) (by decide)
  · refine tw_iload_n (k := 8) rfl rfl ?_
    refine tw_aload_n (k := 9) rfl rfl ?_
    refine tw_iload_n (k := 10) rfl rfl ?_
    refine tw_callV (k := 11) (d' := 3) (mc' := 0) (ms' := 0) tw_cI tw_cIi [.int s2.2] rfl rfl wv_RX8_111_X8_guessesBy mo_X8_guessesBy (t := 7) rfl rfl rfl (fun Q9 => K_X8_guessesBy Q9 a0 s2.2) (by omega) (by decide) (by decide) (Nat.le_of_ble_eq_true rfl) (fun x4 => ?_)
    refine tw_iadd (k := 12) rfl ?_
    refine tw_let (fun x5 => [some (.ref a0), some (.int s2.1), some (.int s2.2)]) (fun x5 => .int x5 :: []) rfl rfl (fun x5 => ?_)
    refine tw_ist_n (k := 13) [some (.ref a0), some (.int x5), some (.int s2.2)] rfl (Nat.le_of_ble_eq_true rfl) rfl rfl ?_
    refine tw_inc (k := 14) (1 : Int32) [some (.ref a0), some (.int x5), some (.int (s2.2 + (1 : Int32)))] rfl rfl (by decide) (Nat.le_of_ble_eq_true rfl) rfl rfl ?_
    refine tw_goto (k := 15) 4 rfl (by decide) ?_
    exact h1 (x5, s2.2 + (1 : Int32))
def mX8_guessedBits : tw_MD := (yX8_guessedBits, cX8_guessedBits, 5, (some FieldType.int), [(0, .iconst 0, 1, 1), (1, .istore_n 3, 1, 2), (2, .iconst 0, 1, 3), (3, .istore 4, 2, 5), (5, .iload 4, 2, 7), (7, .aload_n 0, 1, 8), (8, .getfield 60, 3, 11), (11, .if_icmp .ge 33, 3, 14), (14, .iload 4, 2, 16), (16, .iload_n 1, 1, 17), (17, .if_icmp .eq 21, 3, 20), (20, .aload_n 0, 1, 21), (21, .iload_n 1, 1, 22), (22, .iload 4, 2, 24), (24, .invokevirtual 108, 3, 27), (27, .iload_n 2, 1, 28), (28, .if_icmp .lt 10, 3, 31), (31, .iload_n 3, 1, 32), (32, .iconst 1, 1, 33), (33, .iload 4, 2, 35), (35, .ishl, 1, 36), (36, .ior, 1, 37), (37, .istore_n 3, 1, 38), (38, .iinc 4 1, 3, 41), (41, .goto (-36), 3, 44), (44, .iload_n 3, 1, 45), (45, .ireturn, 1, 46)], [])
theorem mo_X8_guessedBits : tw_mok mX8_guessedBits 2 := ⟨plainFor_of_name (by decide +kernel), by decide +kernel, by decide +kernel, by decide +kernel, by decide +kernel⟩
theorem dk_X8_guessedBits : tw_dk mX8_guessedBits := by unfold tw_dk; decide +kernel
set_option maxRecDepth 20000 in
theorem K_X8_guessedBits {g : tw_Gx} (Q : tw_Rs → tw_Mem → Prop) (a0 : Nat) (a1 : Int32) (a2 : Int32) : tw_Kt g mX8_guessedBits 3 0 0 [.ref a0, .int a1, .int a2] Q (f_X8_guessedBits a0 a1 a2 (fun v => Q (.inl (some (.int v))))) := by
  refine tw_mkK (L := [some (.ref a0), some (.int a1), some (.int a2), none, none]) mo_X8_guessedBits dk_X8_guessedBits rfl (Nat.le_of_ble_eq_true rfl) rfl ?_
  unfold f_X8_guessedBits
  refine tw_iconst (k := 0) (0 : Int32) rfl (by decide) ?_
  refine tw_ist_n (k := 1) [some (.ref a0), some (.int a1), some (.int a2), some (.int (0 : Int32)), none] rfl (Nat.le_of_ble_eq_true rfl) rfl rfl ?_
  refine tw_iconst (k := 2) (0 : Int32) rfl (by decide) ?_
  refine tw_ist (k := 3) [some (.ref a0), some (.int a1), some (.int a2), some (.int (0 : Int32)), some (.int (0 : Int32))] rfl (Nat.le_of_ble_eq_true rfl) rfl rfl ?_
  refine tw_loop (fun s2 => [some (.ref a0), some (.int a1), some (.int a2), some (.int s2.1), some (.int s2.2)]) (fun s2 => []) (fun r1 h1 s2 => ?_) _ rfl rfl
  refine tw_iload (k := 4) rfl rfl ?_
  refine tw_aload_n (k := 5) rfl rfl ?_
  refine tw_getI (k := 6) rfl fl_RX8_60 (fun x3 => ?_)
  refine tw_icmp_ge (k := 7) 44 rfl (by decide) ?_ ?_
  · refine tw_iload_n (k := 25) rfl rfl ?_
    exact tw_ireturn (k := 26) rfl rfl (by decide) (by decide)
  · refine tw_iload (k := 8) rfl rfl ?_
    refine tw_iload_n (k := 9) rfl rfl ?_
    refine tw_join 38 (fun s5 => [some (.ref a0), some (.int a1), some (.int a2), some (.int s5), some (.int s2.2)]) (fun s5 => []) 0 0 (fun s5 => ?_) (fun j4 g4 => ?_)
    · refine tw_inc (k := 23) (1 : Int32) [some (.ref a0), some (.int a1), some (.int a2), some (.int s5), some (.int (s2.2 + (1 : Int32)))] rfl rfl (by decide) (Nat.le_of_ble_eq_true rfl) rfl rfl ?_
      refine tw_goto (k := 24) 5 rfl (by decide) ?_
      exact h1 (s5, s2.2 + (1 : Int32))
    · refine tw_icmp_eq (k := 10) 38 rfl (by decide) ?_ ?_
      · exact g4 s2.1
      · refine tw_aload_n (k := 11) rfl rfl ?_
        refine tw_iload_n (k := 12) rfl rfl ?_
        refine tw_iload (k := 13) rfl rfl ?_
        refine tw_callV (k := 14) (d' := 2) (mc' := 0) (ms' := 0) tw_cI tw_cIi [.int a1, .int s2.2] rfl rfl wv_RX8_108_X8_guessOf mo_X8_guessOf (t := 7) rfl rfl rfl (fun Q9 => K_X8_guessOf Q9 a0 a1 s2.2) (by omega) (by decide) (by decide) (Nat.le_of_ble_eq_true rfl) (fun x6 => ?_)
        refine tw_iload_n (k := 15) rfl rfl ?_
        refine tw_icmp_lt (k := 16) 38 rfl (by decide) ?_ ?_
        · exact g4 s2.1
        · refine tw_iload_n (k := 17) rfl rfl ?_
          refine tw_iconst (k := 18) (1 : Int32) rfl (by decide) ?_
          refine tw_iload (k := 19) rfl rfl ?_
          refine tw_ishl (k := 20) rfl ?_
          refine tw_ior (k := 21) rfl ?_
          refine tw_let (fun x7 => [some (.ref a0), some (.int a1), some (.int a2), some (.int s2.1), some (.int s2.2)]) (fun x7 => .int x7 :: []) rfl rfl (fun x7 => ?_)
          refine tw_ist_n (k := 22) [some (.ref a0), some (.int a1), some (.int a2), some (.int x7), some (.int s2.2)] rfl (Nat.le_of_ble_eq_true rfl) rfl rfl ?_
          exact g4 x7
def mX8_toneOf : tw_MD := (yX8_toneOf, cX8_toneOf, 3, (some FieldType.int), [(0, .iload_n 1, 1, 1), (1, .iconst (-1), 1, 2), (2, .if_icmp .eq 8, 3, 5), (5, .iload_n 2, 1, 6), (6, .iconst (-1), 1, 7), (7, .if_icmp .ne 14, 3, 10), (10, .iload_n 1, 1, 11), (11, .iload_n 2, 1, 12), (12, .if_icmp .ne 7, 3, 15), (15, .iconst 0, 1, 16), (16, .goto 4, 3, 19), (19, .iconst 1, 1, 20), (20, .ireturn, 1, 21), (21, .aload_n 0, 1, 22), (22, .iload_n 1, 1, 23), (23, .iload_n 2, 1, 24), (24, .invokevirtual 108, 3, 27), (27, .aload_n 0, 1, 28), (28, .iload_n 2, 1, 29), (29, .iload_n 1, 1, 30), (30, .invokevirtual 108, 3, 33), (33, .aload_n 0, 1, 34), (34, .getfield 37, 3, 37), (37, .invokestatic 123, 3, 40), (40, .ireturn, 1, 41)], [])
theorem mo_X8_toneOf : tw_mok mX8_toneOf 2 := ⟨plainFor_of_name (by decide +kernel), by decide +kernel, by decide +kernel, by decide +kernel, by decide +kernel⟩
theorem dk_X8_toneOf : tw_dk mX8_toneOf := by unfold tw_dk; decide +kernel
theorem fl_RX8_37 : tw_fl RX8 37 50 := Or.inl (List.mem_of_getElem? (i := 223) (by decide +kernel))
theorem wn_RX8_123_X11_toneBy : tw_wSN RX8 123 mX11_toneBy "TwinRopes" := ⟨List.mem_of_getElem? (i := 690) (by decide +kernel), List.mem_of_getElem? (i := 579) (by decide +kernel), List.mem_of_getElem? (i := 124) (by decide +kernel), List.mem_of_getElem? (i := 580) (by decide +kernel)⟩
set_option maxRecDepth 20000 in
theorem K_X8_toneOf {g : tw_Gx} (Q : tw_Rs → tw_Mem → Prop) (a0 : Nat) (a1 : Int32) (a2 : Int32) : tw_Kt g mX8_toneOf 3 0 0 [.ref a0, .int a1, .int a2] Q (f_X8_toneOf a0 a1 a2 (fun v => Q (.inl (some (.int v))))) := by
  refine tw_mkK (L := [some (.ref a0), some (.int a1), some (.int a2)]) mo_X8_toneOf dk_X8_toneOf rfl (Nat.le_of_ble_eq_true rfl) rfl ?_
  unfold f_X8_toneOf
  refine tw_iload_n (k := 0) rfl rfl ?_
  refine tw_iconst (k := 1) (-1 : Int32) rfl (by decide) ?_
  refine tw_join 10 (fun s2 => [some (.ref a0), some (.int a1), some (.int a2)]) (fun s2 => []) 0 0 (fun s2 => ?_) (fun j1 g1 => ?_)
  · refine tw_iload_n (k := 6) rfl rfl ?_
    refine tw_iload_n (k := 7) rfl rfl ?_
    refine tw_icmp_ne (k := 8) 19 rfl (by decide) ?_ ?_
    · refine tw_iconst (k := 11) (1 : Int32) rfl (by decide) ?_
      exact tw_ireturn (k := 12) rfl rfl (by decide) (by decide)
    · refine tw_iconst (k := 9) (0 : Int32) rfl (by decide) ?_
      refine tw_goto (k := 10) 20 rfl (by decide) ?_
      exact tw_ireturn (k := 12) rfl rfl (by decide) (by decide)
  · refine tw_icmp_eq (k := 2) 10 rfl (by decide) ?_ ?_
    · exact g1 ()
    · refine tw_iload_n (k := 3) rfl rfl ?_
      refine tw_iconst (k := 4) (-1 : Int32) rfl (by decide) ?_
      refine tw_icmp_ne (k := 5) 21 rfl (by decide) ?_ ?_
      · refine tw_aload_n (k := 13) rfl rfl ?_
        refine tw_iload_n (k := 14) rfl rfl ?_
        refine tw_iload_n (k := 15) rfl rfl ?_
        refine tw_callV (k := 16) (d' := 2) (mc' := 0) (ms' := 0) tw_cI tw_cIi [.int a1, .int a2] rfl rfl wv_RX8_108_X8_guessOf mo_X8_guessOf (t := 7) rfl rfl rfl (fun Q9 => K_X8_guessOf Q9 a0 a1 a2) (by omega) (by decide) (by decide) (Nat.le_of_ble_eq_true rfl) (fun x3 => ?_)
        refine tw_aload_n (k := 17) rfl rfl ?_
        refine tw_iload_n (k := 18) rfl rfl ?_
        refine tw_iload_n (k := 19) rfl rfl ?_
        refine tw_callV (k := 20) (d' := 2) (mc' := 0) (ms' := 0) tw_cI tw_cIi [.int a2, .int a1] rfl rfl wv_RX8_108_X8_guessOf mo_X8_guessOf (t := 7) rfl rfl rfl (fun Q9 => K_X8_guessOf Q9 a0 a2 a1) (by omega) (by decide) (by decide) (Nat.le_of_ble_eq_true rfl) (fun x4 => ?_)
        refine tw_aload_n (k := 21) rfl rfl ?_
        refine tw_getI (k := 22) rfl fl_RX8_37 (fun x5 => ?_)
        refine tw_callSN (k := 23) (d' := 2) (mc' := 0) (ms' := 0) tw_cI tw_cIi [.int x3, .int x4, .int x5] rfl rfl wn_RX8_123_X11_toneBy mo_X11_toneBy rfl (fun Q9 => K_X11_toneBy Q9 x3 x4 x5) (by omega) (by decide) (by decide) (Nat.le_of_ble_eq_true rfl) (fun x6 => ?_)
        exact tw_ireturn (k := 24) rfl rfl (by decide) (by decide)
      · exact g1 ()
def mX8_ringingBits : tw_MD := (yX8_ringingBits, cX8_ringingBits, 4, (some FieldType.int), [(0, .iconst 0, 1, 1), (1, .istore_n 2, 1, 2), (2, .iconst 0, 1, 3), (3, .istore_n 3, 1, 4), (4, .iload_n 3, 1, 5), (5, .aload_n 0, 1, 6), (6, .getfield 60, 3, 9), (9, .if_icmp .ge 30, 3, 12), (12, .iload_n 3, 1, 13), (13, .iload_n 1, 1, 14), (14, .if_icmp .eq 19, 3, 17), (17, .aload_n 0, 1, 18), (18, .iload_n 1, 1, 19), (19, .iload_n 3, 1, 20), (20, .invokevirtual 114, 3, 23), (23, .iconst 4, 1, 24), (24, .if_icmp .ne 9, 3, 27), (27, .iload_n 2, 1, 28), (28, .iconst 1, 1, 29), (29, .iload_n 3, 1, 30), (30, .ishl, 1, 31), (31, .ior, 1, 32), (32, .istore_n 2, 1, 33), (33, .iinc 3 1, 3, 36), (36, .goto (-32), 3, 39), (39, .iload_n 2, 1, 40), (40, .ireturn, 1, 41)], [])
theorem mo_X8_ringingBits : tw_mok mX8_ringingBits 1 := ⟨plainFor_of_name (by decide +kernel), by decide +kernel, by decide +kernel, by decide +kernel, by decide +kernel⟩
theorem dk_X8_ringingBits : tw_dk mX8_ringingBits := by unfold tw_dk; decide +kernel
theorem wv_RX8_114_X8_toneOf : tw_wV RX8 114 mX8_toneOf := ⟨List.mem_of_getElem? (i := 686) (by decide +kernel), List.mem_of_getElem? (i := 687) (by decide +kernel), List.mem_of_getElem? (i := 688) (by decide +kernel), List.mem_of_getElem? (i := 126) (by decide +kernel), List.mem_of_getElem? (i := 689) (by decide +kernel)⟩
set_option maxRecDepth 20000 in
theorem K_X8_ringingBits {g : tw_Gx} (Q : tw_Rs → tw_Mem → Prop) (a0 : Nat) (a1 : Int32) : tw_Kt g mX8_ringingBits 4 0 0 [.ref a0, .int a1] Q (f_X8_ringingBits a0 a1 (fun v => Q (.inl (some (.int v))))) := by
  refine tw_mkK (L := [some (.ref a0), some (.int a1), none, none]) mo_X8_ringingBits dk_X8_ringingBits rfl (Nat.le_of_ble_eq_true rfl) rfl ?_
  unfold f_X8_ringingBits
  refine tw_iconst (k := 0) (0 : Int32) rfl (by decide) ?_
  refine tw_ist_n (k := 1) [some (.ref a0), some (.int a1), some (.int (0 : Int32)), none] rfl (Nat.le_of_ble_eq_true rfl) rfl rfl ?_
  refine tw_iconst (k := 2) (0 : Int32) rfl (by decide) ?_
  refine tw_ist_n (k := 3) [some (.ref a0), some (.int a1), some (.int (0 : Int32)), some (.int (0 : Int32))] rfl (Nat.le_of_ble_eq_true rfl) rfl rfl ?_
  refine tw_loop (fun s2 => [some (.ref a0), some (.int a1), some (.int s2.1), some (.int s2.2)]) (fun s2 => []) (fun r1 h1 s2 => ?_) _ rfl rfl
  refine tw_iload_n (k := 4) rfl rfl ?_
  refine tw_aload_n (k := 5) rfl rfl ?_
  refine tw_getI (k := 6) rfl fl_RX8_60 (fun x3 => ?_)
  refine tw_icmp_ge (k := 7) 39 rfl (by decide) ?_ ?_
  · refine tw_iload_n (k := 25) rfl rfl ?_
    exact tw_ireturn (k := 26) rfl rfl (by decide) (by decide)
  · refine tw_iload_n (k := 8) rfl rfl ?_
    refine tw_iload_n (k := 9) rfl rfl ?_
    refine tw_join 33 (fun s5 => [some (.ref a0), some (.int a1), some (.int s5), some (.int s2.2)]) (fun s5 => []) 0 0 (fun s5 => ?_) (fun j4 g4 => ?_)
    · refine tw_inc (k := 23) (1 : Int32) [some (.ref a0), some (.int a1), some (.int s5), some (.int (s2.2 + (1 : Int32)))] rfl rfl (by decide) (Nat.le_of_ble_eq_true rfl) rfl rfl ?_
      refine tw_goto (k := 24) 4 rfl (by decide) ?_
      exact h1 (s5, s2.2 + (1 : Int32))
    · refine tw_icmp_eq (k := 10) 33 rfl (by decide) ?_ ?_
      · exact g4 s2.1
      · refine tw_aload_n (k := 11) rfl rfl ?_
        refine tw_iload_n (k := 12) rfl rfl ?_
        refine tw_iload_n (k := 13) rfl rfl ?_
        refine tw_callV (k := 14) (d' := 3) (mc' := 0) (ms' := 0) tw_cI tw_cIi [.int a1, .int s2.2] rfl rfl wv_RX8_114_X8_toneOf mo_X8_toneOf (t := 7) rfl rfl rfl (fun Q9 => K_X8_toneOf Q9 a0 a1 s2.2) (by omega) (by decide) (by decide) (Nat.le_of_ble_eq_true rfl) (fun x6 => ?_)
        refine tw_iconst (k := 15) (4 : Int32) rfl (by decide) ?_
        refine tw_icmp_ne (k := 16) 33 rfl (by decide) ?_ ?_
        · exact g4 s2.1
        · refine tw_iload_n (k := 17) rfl rfl ?_
          refine tw_iconst (k := 18) (1 : Int32) rfl (by decide) ?_
          refine tw_iload_n (k := 19) rfl rfl ?_
          refine tw_ishl (k := 20) rfl ?_
          refine tw_ior (k := 21) rfl ?_
          refine tw_let (fun x7 => [some (.ref a0), some (.int a1), some (.int s2.1), some (.int s2.2)]) (fun x7 => .int x7 :: []) rfl rfl (fun x7 => ?_)
          refine tw_ist_n (k := 22) [some (.ref a0), some (.int a1), some (.int x7), some (.int s2.2)] rfl (Nat.le_of_ble_eq_true rfl) rfl rfl ?_
          exact g4 x7
def mX8_keptFrom : tw_MD := (yX8_keptFrom, cX8_keptFrom, 4, (some FieldType.int), [(0, .iconst 0, 1, 1), (1, .istore_n 2, 1, 2), (2, .iconst 0, 1, 3), (3, .istore_n 3, 1, 4), (4, .iload_n 3, 1, 5), (5, .aload_n 0, 1, 6), (6, .getfield 60, 3, 9), (9, .if_icmp .ge 26, 3, 12), (12, .iload_n 3, 1, 13), (13, .iload_n 1, 1, 14), (14, .if_icmp .eq 15, 3, 17), (17, .aload_n 0, 1, 18), (18, .iload_n 3, 1, 19), (19, .iload_n 1, 1, 20), (20, .invokevirtual 108, 3, 23), (23, .ifCond .ne 6, 3, 26), (26, .iinc 2 1, 3, 29), (29, .iinc 3 1, 3, 32), (32, .goto (-28), 3, 35), (35, .iload_n 2, 1, 36), (36, .ireturn, 1, 37)], [])
theorem mo_X8_keptFrom : tw_mok mX8_keptFrom 1 := ⟨plainFor_of_name (by decide +kernel), by decide +kernel, by decide +kernel, by decide +kernel, by decide +kernel⟩
theorem dk_X8_keptFrom : tw_dk mX8_keptFrom := by unfold tw_dk; decide +kernel
set_option maxRecDepth 20000 in
theorem K_X8_keptFrom {g : tw_Gx} (Q : tw_Rs → tw_Mem → Prop) (a0 : Nat) (a1 : Int32) : tw_Kt g mX8_keptFrom 3 0 0 [.ref a0, .int a1] Q (f_X8_keptFrom a0 a1 (fun v => Q (.inl (some (.int v))))) := by
  refine tw_mkK (L := [some (.ref a0), some (.int a1), none, none]) mo_X8_keptFrom dk_X8_keptFrom rfl (Nat.le_of_ble_eq_true rfl) rfl ?_
  unfold f_X8_keptFrom
  refine tw_iconst (k := 0) (0 : Int32) rfl (by decide) ?_
  refine tw_ist_n (k := 1) [some (.ref a0), some (.int a1), some (.int (0 : Int32)), none] rfl (Nat.le_of_ble_eq_true rfl) rfl rfl ?_
  refine tw_iconst (k := 2) (0 : Int32) rfl (by decide) ?_
  refine tw_ist_n (k := 3) [some (.ref a0), some (.int a1), some (.int (0 : Int32)), some (.int (0 : Int32))] rfl (Nat.le_of_ble_eq_true rfl) rfl rfl ?_
  refine tw_loop (fun s2 => [some (.ref a0), some (.int a1), some (.int s2.1), some (.int s2.2)]) (fun s2 => []) (fun r1 h1 s2 => ?_) _ rfl rfl
  refine tw_iload_n (k := 4) rfl rfl ?_
  refine tw_aload_n (k := 5) rfl rfl ?_
  refine tw_getI (k := 6) rfl fl_RX8_60 (fun x3 => ?_)
  refine tw_icmp_ge (k := 7) 35 rfl (by decide) ?_ ?_
  · refine tw_iload_n (k := 19) rfl rfl ?_
    exact tw_ireturn (k := 20) rfl rfl (by decide) (by decide)
  · refine tw_iload_n (k := 8) rfl rfl ?_
    refine tw_iload_n (k := 9) rfl rfl ?_
    refine tw_join 29 (fun s5 => [some (.ref a0), some (.int a1), some (.int s5), some (.int s2.2)]) (fun s5 => []) 0 0 (fun s5 => ?_) (fun j4 g4 => ?_)
    · refine tw_inc (k := 17) (1 : Int32) [some (.ref a0), some (.int a1), some (.int s5), some (.int (s2.2 + (1 : Int32)))] rfl rfl (by decide) (Nat.le_of_ble_eq_true rfl) rfl rfl ?_
      refine tw_goto (k := 18) 4 rfl (by decide) ?_
      exact h1 (s5, s2.2 + (1 : Int32))
    · refine tw_icmp_eq (k := 10) 29 rfl (by decide) ?_ ?_
      · exact g4 s2.1
      · refine tw_aload_n (k := 11) rfl rfl ?_
        refine tw_iload_n (k := 12) rfl rfl ?_
        refine tw_iload_n (k := 13) rfl rfl ?_
        refine tw_callV (k := 14) (d' := 2) (mc' := 0) (ms' := 0) tw_cI tw_cIi [.int s2.2, .int a1] rfl rfl wv_RX8_108_X8_guessOf mo_X8_guessOf (t := 7) rfl rfl rfl (fun Q9 => K_X8_guessOf Q9 a0 s2.2 a1) (by omega) (by decide) (by decide) (Nat.le_of_ble_eq_true rfl) (fun x6 => ?_)
        refine tw_if_ne (k := 15) 29 rfl (by decide) ?_ ?_
        · exact g4 s2.1
        · refine tw_inc (k := 16) (1 : Int32) [some (.ref a0), some (.int a1), some (.int (s2.1 + (1 : Int32))), some (.int s2.2)] rfl rfl (by decide) (Nat.le_of_ble_eq_true rfl) rfl rfl ?_
          exact g4 (s2.1 + (1 : Int32))
def mX8_greatestGuessed : tw_MD := (yX8_greatestGuessed, cX8_greatestGuessed, 5, (some FieldType.int), [(0, .iconst (-1), 1, 1), (1, .istore_n 1, 1, 2), (2, .iconst 0, 1, 3), (3, .istore_n 2, 1, 4), (4, .iconst 0, 1, 5), (5, .istore_n 3, 1, 6), (6, .iload_n 3, 1, 7), (7, .aload_n 0, 1, 8), (8, .getfield 60, 3, 11), (11, .if_icmp .ge 27, 3, 14), (14, .aload_n 0, 1, 15), (15, .iload_n 3, 1, 16), (16, .invokevirtual 117, 3, 19), (19, .istore 4, 2, 21), (21, .iload 4, 2, 23), (23, .iload_n 2, 1, 24), (24, .if_icmp .le 8, 3, 27), (27, .iload 4, 2, 29), (29, .istore_n 2, 1, 30), (30, .iload_n 3, 1, 31), (31, .istore_n 1, 1, 32), (32, .iinc 3 1, 3, 35), (35, .goto (-29), 3, 38), (38, .iload_n 1, 1, 39), (39, .ireturn, 1, 40)], [])
theorem mo_X8_greatestGuessed : tw_mok mX8_greatestGuessed 0 := ⟨plainFor_of_name (by decide +kernel), by decide +kernel, by decide +kernel, by decide +kernel, by decide +kernel⟩
theorem dk_X8_greatestGuessed : tw_dk mX8_greatestGuessed := by unfold tw_dk; decide +kernel
theorem wv_RX8_117_X8_guessesOn : tw_wV RX8 117 mX8_guessesOn := ⟨List.mem_of_getElem? (i := 778) (by decide +kernel), List.mem_of_getElem? (i := 779) (by decide +kernel), List.mem_of_getElem? (i := 780) (by decide +kernel), List.mem_of_getElem? (i := 126) (by decide +kernel), List.mem_of_getElem? (i := 781) (by decide +kernel)⟩
set_option maxRecDepth 20000 in
theorem K_X8_greatestGuessed {g : tw_Gx} (Q : tw_Rs → tw_Mem → Prop) (a0 : Nat) : tw_Kt g mX8_greatestGuessed 4 0 0 [.ref a0] Q (f_X8_greatestGuessed a0 (fun v => Q (.inl (some (.int v))))) := by
  refine tw_mkK (L := [some (.ref a0), none, none, none, none]) mo_X8_greatestGuessed dk_X8_greatestGuessed rfl (Nat.le_of_ble_eq_true rfl) rfl ?_
  unfold f_X8_greatestGuessed
  refine tw_iconst (k := 0) (-1 : Int32) rfl (by decide) ?_
  refine tw_ist_n (k := 1) [some (.ref a0), some (.int (-1 : Int32)), none, none, none] rfl (Nat.le_of_ble_eq_true rfl) rfl rfl ?_
  refine tw_iconst (k := 2) (0 : Int32) rfl (by decide) ?_
  refine tw_ist_n (k := 3) [some (.ref a0), some (.int (-1 : Int32)), some (.int (0 : Int32)), none, none] rfl (Nat.le_of_ble_eq_true rfl) rfl rfl ?_
  refine tw_iconst (k := 4) (0 : Int32) rfl (by decide) ?_
  refine tw_ist_n (k := 5) [some (.ref a0), some (.int (-1 : Int32)), some (.int (0 : Int32)), some (.int (0 : Int32)), none] rfl (Nat.le_of_ble_eq_true rfl) rfl rfl ?_
  refine tw_loop (fun s2 => [some (.ref a0), some (.int s2.1), some (.int s2.2.1), some (.int s2.2.2), none]) (fun s2 => []) (fun r1 h1 s2 => ?_) _ rfl rfl
  refine tw_iload_n (k := 6) rfl rfl ?_
  refine tw_aload_n (k := 7) rfl rfl ?_
  refine tw_getI (k := 8) rfl fl_RX8_60 (fun x3 => ?_)
  refine tw_icmp_ge (k := 9) 38 rfl (by decide) ?_ ?_
  · refine tw_iload_n (k := 23) rfl rfl ?_
    exact tw_ireturn (k := 24) rfl rfl (by decide) (by decide)
  · refine tw_aload_n (k := 10) rfl rfl ?_
    refine tw_iload_n (k := 11) rfl rfl ?_
    refine tw_callV (k := 12) (d' := 3) (mc' := 0) (ms' := 0) tw_cI tw_cIi [.int s2.2.2] rfl rfl wv_RX8_117_X8_guessesOn mo_X8_guessesOn (t := 7) rfl rfl rfl (fun Q9 => K_X8_guessesOn Q9 a0 s2.2.2) (by omega) (by decide) (by decide) (Nat.le_of_ble_eq_true rfl) (fun x4 => ?_)
    refine tw_ist (k := 13) [some (.ref a0), some (.int s2.1), some (.int s2.2.1), some (.int s2.2.2), some (.int x4)] rfl (Nat.le_of_ble_eq_true rfl) rfl rfl ?_
    refine tw_iload (k := 14) rfl rfl ?_
    refine tw_iload_n (k := 15) rfl rfl ?_
    refine tw_join 32 (fun s6 => [some (.ref a0), some (.int s6.1), some (.int s6.2), some (.int s2.2.2), some (.int x4)]) (fun s6 => []) 0 0 (fun s6 => ?_) (fun j5 g5 => ?_)
    · refine tw_inc (k := 21) (1 : Int32) [some (.ref a0), some (.int s6.1), some (.int s6.2), some (.int (s2.2.2 + (1 : Int32))), some (.int x4)] rfl rfl (by decide) (Nat.le_of_ble_eq_true rfl) rfl rfl ?_
      refine tw_goto (k := 22) 6 rfl (by decide) ?_
      exact tw_wk (L' := [some (.ref a0), some (.int s6.1), some (.int s6.2), some (.int (s2.2.2 + (1 : Int32))), none]) ⟨Or.inr rfl, Or.inr rfl, Or.inr rfl, Or.inr rfl, Or.inl rfl, trivial⟩ (h1 (s6.1, s6.2, s2.2.2 + (1 : Int32)))
    · refine tw_icmp_le (k := 16) 32 rfl (by decide) ?_ ?_
      · exact g5 (s2.1, s2.2.1)
      · refine tw_iload (k := 17) rfl rfl ?_
        refine tw_ist_n (k := 18) [some (.ref a0), some (.int s2.1), some (.int x4), some (.int s2.2.2), some (.int x4)] rfl (Nat.le_of_ble_eq_true rfl) rfl rfl ?_
        refine tw_iload_n (k := 19) rfl rfl ?_
        refine tw_ist_n (k := 20) [some (.ref a0), some (.int s2.2.2), some (.int x4), some (.int s2.2.2), some (.int x4)] rfl (Nat.le_of_ble_eq_true rfl) rfl rfl ?_
        exact g5 (s2.2.2, x4)
def mX8_greatestGuesser : tw_MD := (yX8_greatestGuesser, cX8_greatestGuesser, 5, (some FieldType.int), [(0, .iconst (-1), 1, 1), (1, .istore_n 1, 1, 2), (2, .iconst 0, 1, 3), (3, .istore_n 2, 1, 4), (4, .iconst 0, 1, 5), (5, .istore_n 3, 1, 6), (6, .iload_n 3, 1, 7), (7, .aload_n 0, 1, 8), (8, .getfield 60, 3, 11), (11, .if_icmp .ge 27, 3, 14), (14, .aload_n 0, 1, 15), (15, .iload_n 3, 1, 16), (16, .invokevirtual 111, 3, 19), (19, .istore 4, 2, 21), (21, .iload 4, 2, 23), (23, .iload_n 2, 1, 24), (24, .if_icmp .le 8, 3, 27), (27, .iload 4, 2, 29), (29, .istore_n 2, 1, 30), (30, .iload_n 3, 1, 31), (31, .istore_n 1, 1, 32), (32, .iinc 3 1, 3, 35), (35, .goto (-29), 3, 38), (38, .iload_n 1, 1, 39), (39, .ireturn, 1, 40)], [])
theorem mo_X8_greatestGuesser : tw_mok mX8_greatestGuesser 0 := ⟨plainFor_of_name (by decide +kernel), by decide +kernel, by decide +kernel, by decide +kernel, by decide +kernel⟩
theorem dk_X8_greatestGuesser : tw_dk mX8_greatestGuesser := by unfold tw_dk; decide +kernel
set_option maxRecDepth 20000 in
theorem K_X8_greatestGuesser {g : tw_Gx} (Q : tw_Rs → tw_Mem → Prop) (a0 : Nat) : tw_Kt g mX8_greatestGuesser 4 0 0 [.ref a0] Q (f_X8_greatestGuesser a0 (fun v => Q (.inl (some (.int v))))) := by
  refine tw_mkK (L := [some (.ref a0), none, none, none, none]) mo_X8_greatestGuesser dk_X8_greatestGuesser rfl (Nat.le_of_ble_eq_true rfl) rfl ?_
  unfold f_X8_greatestGuesser
  refine tw_iconst (k := 0) (-1 : Int32) rfl (by decide) ?_
  refine tw_ist_n (k := 1) [some (.ref a0), some (.int (-1 : Int32)), none, none, none] rfl (Nat.le_of_ble_eq_true rfl) rfl rfl ?_
  refine tw_iconst (k := 2) (0 : Int32) rfl (by decide) ?_
  refine tw_ist_n (k := 3) [some (.ref a0), some (.int (-1 : Int32)), some (.int (0 : Int32)), none, none] rfl (Nat.le_of_ble_eq_true rfl) rfl rfl ?_
  refine tw_iconst (k := 4) (0 : Int32) rfl (by decide) ?_
  refine tw_ist_n (k := 5) [some (.ref a0), some (.int (-1 : Int32)), some (.int (0 : Int32)), some (.int (0 : Int32)), none] rfl (Nat.le_of_ble_eq_true rfl) rfl rfl ?_
  refine tw_loop (fun s2 => [some (.ref a0), some (.int s2.1), some (.int s2.2.1), some (.int s2.2.2), none]) (fun s2 => []) (fun r1 h1 s2 => ?_) _ rfl rfl
  refine tw_iload_n (k := 6) rfl rfl ?_
  refine tw_aload_n (k := 7) rfl rfl ?_
  refine tw_getI (k := 8) rfl fl_RX8_60 (fun x3 => ?_)
  refine tw_icmp_ge (k := 9) 38 rfl (by decide) ?_ ?_
  · refine tw_iload_n (k := 23) rfl rfl ?_
    exact tw_ireturn (k := 24) rfl rfl (by decide) (by decide)
  · refine tw_aload_n (k := 10) rfl rfl ?_
    refine tw_iload_n (k := 11) rfl rfl ?_
    refine tw_callV (k := 12) (d' := 3) (mc' := 0) (ms' := 0) tw_cI tw_cIi [.int s2.2.2] rfl rfl wv_RX8_111_X8_guessesBy mo_X8_guessesBy (t := 7) rfl rfl rfl (fun Q9 => K_X8_guessesBy Q9 a0 s2.2.2) (by omega) (by decide) (by decide) (Nat.le_of_ble_eq_true rfl) (fun x4 => ?_)
    refine tw_ist (k := 13) [some (.ref a0), some (.int s2.1), some (.int s2.2.1), some (.int s2.2.2), some (.int x4)] rfl (Nat.le_of_ble_eq_true rfl) rfl rfl ?_
    refine tw_iload (k := 14) rfl rfl ?_
    refine tw_iload_n (k := 15) rfl rfl ?_
    refine tw_join 32 (fun s6 => [some (.ref a0), some (.int s6.1), some (.int s6.2), some (.int s2.2.2), some (.int x4)]) (fun s6 => []) 0 0 (fun s6 => ?_) (fun j5 g5 => ?_)
    · refine tw_inc (k := 21) (1 : Int32) [some (.ref a0), some (.int s6.1), some (.int s6.2), some (.int (s2.2.2 + (1 : Int32))), some (.int x4)] rfl rfl (by decide) (Nat.le_of_ble_eq_true rfl) rfl rfl ?_
      refine tw_goto (k := 22) 6 rfl (by decide) ?_
      exact tw_wk (L' := [some (.ref a0), some (.int s6.1), some (.int s6.2), some (.int (s2.2.2 + (1 : Int32))), none]) ⟨Or.inr rfl, Or.inr rfl, Or.inr rfl, Or.inr rfl, Or.inl rfl, trivial⟩ (h1 (s6.1, s6.2, s2.2.2 + (1 : Int32)))
    · refine tw_icmp_le (k := 16) 32 rfl (by decide) ?_ ?_
      · exact g5 (s2.1, s2.2.1)
      · refine tw_iload (k := 17) rfl rfl ?_
        refine tw_ist_n (k := 18) [some (.ref a0), some (.int s2.1), some (.int x4), some (.int s2.2.2), some (.int x4)] rfl (Nat.le_of_ble_eq_true rfl) rfl rfl ?_
        refine tw_iload_n (k := 19) rfl rfl ?_
        refine tw_ist_n (k := 20) [some (.ref a0), some (.int s2.2.2), some (.int x4), some (.int s2.2.2), some (.int x4)] rfl (Nat.le_of_ble_eq_true rfl) rfl rfl ?_
        exact g5 (s2.2.2, x4)
def mX8_knowingPairs : tw_MD := (yX8_knowingPairs, cX8_knowingPairs, 4, (some FieldType.int), [(0, .iconst 0, 1, 1), (1, .istore_n 1, 1, 2), (2, .iconst 0, 1, 3), (3, .istore_n 2, 1, 4), (4, .iload_n 2, 1, 5), (5, .aload_n 0, 1, 6), (6, .getfield 60, 3, 9), (9, .if_icmp .ge 40, 3, 12), (12, .iload_n 2, 1, 13), (13, .iconst 1, 1, 14), (14, .iadd, 1, 15), (15, .istore_n 3, 1, 16), (16, .iload_n 3, 1, 17), (17, .aload_n 0, 1, 18), (18, .getfield 60, 3, 21), (21, .if_icmp .ge 22, 3, 24), (24, .aload_n 0, 1, 25), (25, .iload_n 2, 1, 26), (26, .iload_n 3, 1, 27), (27, .invokevirtual 114, 3, 30), (30, .iconst 2, 1, 31), (31, .if_icmp .ne 6, 3, 34), (34, .iinc 1 1, 3, 37), (37, .iinc 3 1, 3, 40), (40, .goto (-24), 3, 43), (43, .iinc 2 1, 3, 46), (46, .goto (-42), 3, 49), (49, .iload_n 1, 1, 50), (50, .ireturn, 1, 51)], [])
theorem mo_X8_knowingPairs : tw_mok mX8_knowingPairs 0 := ⟨plainFor_of_name (by decide +kernel), by decide +kernel, by decide +kernel, by decide +kernel, by decide +kernel⟩
theorem dk_X8_knowingPairs : tw_dk mX8_knowingPairs := by unfold tw_dk; decide +kernel
set_option maxRecDepth 20000 in
theorem K_X8_knowingPairs {g : tw_Gx} (Q : tw_Rs → tw_Mem → Prop) (a0 : Nat) : tw_Kt g mX8_knowingPairs 4 0 0 [.ref a0] Q (f_X8_knowingPairs a0 (fun v => Q (.inl (some (.int v))))) := by
  refine tw_mkK (L := [some (.ref a0), none, none, none]) mo_X8_knowingPairs dk_X8_knowingPairs rfl (Nat.le_of_ble_eq_true rfl) rfl ?_
  unfold f_X8_knowingPairs
  refine tw_iconst (k := 0) (0 : Int32) rfl (by decide) ?_
  refine tw_ist_n (k := 1) [some (.ref a0), some (.int (0 : Int32)), none, none] rfl (Nat.le_of_ble_eq_true rfl) rfl rfl ?_
  refine tw_iconst (k := 2) (0 : Int32) rfl (by decide) ?_
  refine tw_ist_n (k := 3) [some (.ref a0), some (.int (0 : Int32)), some (.int (0 : Int32)), none] rfl (Nat.le_of_ble_eq_true rfl) rfl rfl ?_
  refine tw_loop (fun s2 => [some (.ref a0), some (.int s2.1), some (.int s2.2), none]) (fun s2 => []) (fun r1 h1 s2 => ?_) _ rfl rfl
  refine tw_iload_n (k := 4) rfl rfl ?_
  refine tw_aload_n (k := 5) rfl rfl ?_
  refine tw_getI (k := 6) rfl fl_RX8_60 (fun x3 => ?_)
  refine tw_icmp_ge (k := 7) 49 rfl (by decide) ?_ ?_
  · refine tw_iload_n (k := 27) rfl rfl ?_
    exact tw_ireturn (k := 28) rfl rfl (by decide) (by decide)
  · refine tw_iload_n (k := 8) rfl rfl ?_
    refine tw_iconst (k := 9) (1 : Int32) rfl (by decide) ?_
    refine tw_iadd (k := 10) rfl ?_
    refine tw_let (fun x4 => [some (.ref a0), some (.int s2.1), some (.int s2.2), none]) (fun x4 => .int x4 :: []) rfl rfl (fun x4 => ?_)
    refine tw_ist_n (k := 11) [some (.ref a0), some (.int s2.1), some (.int s2.2), some (.int x4)] rfl (Nat.le_of_ble_eq_true rfl) rfl rfl ?_
    refine tw_loop (fun s6 => [some (.ref a0), some (.int s6.1), some (.int s2.2), some (.int s6.2)]) (fun s6 => []) (fun r5 h5 s6 => ?_) _ rfl rfl
    refine tw_iload_n (k := 12) rfl rfl ?_
    refine tw_aload_n (k := 13) rfl rfl ?_
    refine tw_getI (k := 14) rfl fl_RX8_60 (fun x7 => ?_)
    refine tw_icmp_ge (k := 15) 43 rfl (by decide) ?_ ?_
    · refine tw_inc (k := 25) (1 : Int32) [some (.ref a0), some (.int s6.1), some (.int (s2.2 + (1 : Int32))), some (.int s6.2)] rfl rfl (by decide) (Nat.le_of_ble_eq_true rfl) rfl rfl ?_
      refine tw_goto (k := 26) 4 rfl (by decide) ?_
      exact tw_wk (L' := [some (.ref a0), some (.int s6.1), some (.int (s2.2 + (1 : Int32))), none]) ⟨Or.inr rfl, Or.inr rfl, Or.inr rfl, Or.inl rfl, trivial⟩ (h1 (s6.1, s2.2 + (1 : Int32)))
    · refine tw_aload_n (k := 16) rfl rfl ?_
      refine tw_iload_n (k := 17) rfl rfl ?_
      refine tw_iload_n (k := 18) rfl rfl ?_
      refine tw_callV (k := 19) (d' := 3) (mc' := 0) (ms' := 0) tw_cI tw_cIi [.int s2.2, .int s6.2] rfl rfl wv_RX8_114_X8_toneOf mo_X8_toneOf (t := 7) rfl rfl rfl (fun Q9 => K_X8_toneOf Q9 a0 s2.2 s6.2) (by omega) (by decide) (by decide) (Nat.le_of_ble_eq_true rfl) (fun x8 => ?_)
      refine tw_iconst (k := 20) (2 : Int32) rfl (by decide) ?_
      refine tw_join 37 (fun s10 => [some (.ref a0), some (.int s10), some (.int s2.2), some (.int s6.2)]) (fun s10 => []) 0 0 (fun s10 => ?_) (fun j9 g9 => ?_)
      · refine tw_inc (k := 23) (1 : Int32) [some (.ref a0), some (.int s10), some (.int s2.2), some (.int (s6.2 + (1 : Int32)))] rfl rfl (by decide) (Nat.le_of_ble_eq_true rfl) rfl rfl ?_
        refine tw_goto (k := 24) 16 rfl (by decide) ?_
        exact h5 (s10, s6.2 + (1 : Int32))
      · refine tw_icmp_ne (k := 21) 37 rfl (by decide) ?_ ?_
        · exact g9 s6.1
        · refine tw_inc (k := 22) (1 : Int32) [some (.ref a0), some (.int (s6.1 + (1 : Int32))), some (.int s2.2), some (.int s6.2)] rfl rfl (by decide) (Nat.le_of_ble_eq_true rfl) rfl rfl ?_
          exact g9 (s6.1 + (1 : Int32))
def mX8_slot : tw_MD := (yX8_slot, cX8_slot, 2, (some FieldType.int), [(0, .iload_n 0, 1, 1), (1, .ifCond .lt 18, 3, 4), (4, .iload_n 0, 1, 5), (5, .iconst 2, 1, 6), (6, .if_icmp .ge 13, 3, 9), (9, .iload_n 1, 1, 10), (10, .ifCond .lt 9, 3, 13), (13, .iload_n 1, 1, 14), (14, .bipush 12, 2, 16), (16, .if_icmp .lt 5, 3, 19), (19, .iconst (-1), 1, 20), (20, .ireturn, 1, 21), (21, .bipush 12, 2, 23), (23, .iload_n 0, 1, 24), (24, .imul, 1, 25), (25, .iload_n 1, 1, 26), (26, .iadd, 1, 27), (27, .ireturn, 1, 28)], [])
theorem mo_X8_slot : tw_mok mX8_slot 2 := ⟨plainFor_of_name (by decide +kernel), by decide +kernel, by decide +kernel, by decide +kernel, by decide +kernel⟩
theorem dk_X8_slot : tw_dk mX8_slot := by unfold tw_dk; decide +kernel
set_option maxRecDepth 20000 in
theorem K_X8_slot {g : tw_Gx} (Q : tw_Rs → tw_Mem → Prop) (a0 : Int32) (a1 : Int32) : tw_Kt g mX8_slot 1 0 0 [.int a0, .int a1] Q (f_X8_slot a0 a1 (fun v => Q (.inl (some (.int v))))) := by
  refine tw_mkK (L := [some (.int a0), some (.int a1)]) mo_X8_slot dk_X8_slot rfl (Nat.le_of_ble_eq_true rfl) rfl ?_
  unfold f_X8_slot
  refine tw_iload_n (k := 0) rfl rfl ?_
  refine tw_if_lt (k := 1) 19 rfl (by decide) ?_ ?_
  · refine tw_iconst (k := 10) (-1 : Int32) rfl (by decide) ?_
    exact tw_ireturn (k := 11) rfl rfl (by decide) (by decide)
  · refine tw_iload_n (k := 2) rfl rfl ?_
    refine tw_iconst (k := 3) (2 : Int32) rfl (by decide) ?_
    refine tw_icmp_ge (k := 4) 19 rfl (by decide) ?_ ?_
    · refine tw_iconst (k := 10) (-1 : Int32) rfl (by decide) ?_
      exact tw_ireturn (k := 11) rfl rfl (by decide) (by decide)
    · refine tw_iload_n (k := 5) rfl rfl ?_
      refine tw_if_lt (k := 6) 19 rfl (by decide) ?_ ?_
      · refine tw_iconst (k := 10) (-1 : Int32) rfl (by decide) ?_
        exact tw_ireturn (k := 11) rfl rfl (by decide) (by decide)
      · refine tw_iload_n (k := 7) rfl rfl ?_
        refine tw_bipush (k := 8) (12 : Int32) rfl (by decide) ?_
        refine tw_icmp_lt (k := 9) 21 rfl (by decide) ?_ ?_
        · refine tw_bipush (k := 12) (12 : Int32) rfl (by decide) ?_
          refine tw_iload_n (k := 13) rfl rfl ?_
          refine tw_imul (k := 14) rfl ?_
          refine tw_iload_n (k := 15) rfl rfl ?_
          refine tw_iadd (k := 16) rfl ?_
          exact tw_ireturn (k := 17) rfl rfl (by decide) (by decide)
        · refine tw_iconst (k := 10) (-1 : Int32) rfl (by decide) ?_
          exact tw_ireturn (k := 11) rfl rfl (by decide) (by decide)
def mX8_planned : tw_MD := (yX8_planned, cX8_planned, 4, (some FieldType.int), [(0, .iload_n 1, 1, 1), (1, .iload_n 2, 1, 2), (2, .invokestatic 120, 3, 5), (5, .istore_n 3, 1, 6), (6, .iload_n 3, 1, 7), (7, .ifCond .lt 12, 3, 10), (10, .aload_n 0, 1, 11), (11, .getfield 27, 3, 14), (14, .iload_n 3, 1, 15), (15, .iaload, 1, 16), (16, .goto 4, 3, 19), (19, .iconst (-1), 1, 20), (20, .ireturn, 1, 21)], [])
theorem mo_X8_planned : tw_mok mX8_planned 2 := ⟨plainFor_of_name (by decide +kernel), by decide +kernel, by decide +kernel, by decide +kernel, by decide +kernel⟩
theorem dk_X8_planned : tw_dk mX8_planned := by unfold tw_dk; decide +kernel
theorem fl_RX8_27 : tw_fl RX8 27 44 := Or.inl (List.mem_of_getElem? (i := 206) (by decide +kernel))
theorem ws_RX8_120_X8_slot : tw_wS RX8 120 mX8_slot := ⟨List.mem_of_getElem? (i := 749) (by decide +kernel), List.mem_of_getElem? (i := 750) (by decide +kernel), List.mem_of_getElem? (i := 126) (by decide +kernel), List.mem_of_getElem? (i := 751) (by decide +kernel)⟩
set_option maxRecDepth 20000 in
theorem K_X8_planned {g : tw_Gx} (Q : tw_Rs → tw_Mem → Prop) (a0 : Nat) (a1 : Int32) (a2 : Int32) : tw_Kt g mX8_planned 2 0 0 [.ref a0, .int a1, .int a2] Q (f_X8_planned a0 a1 a2 (fun v => Q (.inl (some (.int v))))) := by
  refine tw_mkK (L := [some (.ref a0), some (.int a1), some (.int a2), none]) mo_X8_planned dk_X8_planned rfl (Nat.le_of_ble_eq_true rfl) rfl ?_
  unfold f_X8_planned
  refine tw_iload_n (k := 0) rfl rfl ?_
  refine tw_iload_n (k := 1) rfl rfl ?_
  refine tw_callS (k := 2) (d' := 1) (mc' := 0) (ms' := 0) tw_cI tw_cIi [.int a1, .int a2] rfl rfl ws_RX8_120_X8_slot mo_X8_slot rfl (fun Q9 => K_X8_slot Q9 a1 a2) (by omega) (by decide) (by decide) (Nat.le_of_ble_eq_true rfl) (fun x1 => ?_)
  refine tw_ist_n (k := 3) [some (.ref a0), some (.int a1), some (.int a2), some (.int x1)] rfl (Nat.le_of_ble_eq_true rfl) rfl rfl ?_
  refine tw_iload_n (k := 4) rfl rfl ?_
  refine tw_if_lt (k := 5) 19 rfl (by decide) ?_ ?_
  · refine tw_iconst (k := 11) (-1 : Int32) rfl (by decide) ?_
    exact tw_ireturn (k := 12) rfl rfl (by decide) (by decide)
  · refine tw_aload_n (k := 6) rfl rfl ?_
    refine tw_getR (k := 7) rfl fl_RX8_27 (fun x2 => ?_)
    refine tw_iload_n (k := 8) rfl rfl ?_
    refine tw_iaload (k := 9) rfl (fun x3 => ?_)
    refine tw_goto (k := 10) 20 rfl (by decide) ?_
    exact tw_ireturn (k := 12) rfl rfl (by decide) (by decide)
def mX8_put : tw_MD := (yX8_put, cX8_put, 5, none, [(0, .iload_n 1, 1, 1), (1, .iload_n 2, 1, 2), (2, .invokestatic 120, 3, 5), (5, .istore 4, 2, 7), (7, .iload 4, 2, 9), (9, .ifCond .lt 11, 3, 12), (12, .aload_n 0, 1, 13), (13, .getfield 27, 3, 16), (16, .iload 4, 2, 18), (18, .iload_n 3, 1, 19), (19, .iastore, 1, 20), (20, .return_, 1, 21)], [])
theorem mo_X8_put : tw_mok mX8_put 3 := ⟨plainFor_of_name (by decide +kernel), by decide +kernel, by decide +kernel, by decide +kernel, by decide +kernel⟩
theorem dk_X8_put : tw_dk mX8_put := by unfold tw_dk; decide +kernel
set_option maxRecDepth 20000 in
theorem K_X8_put {g : tw_Gx} (Q : tw_Rs → tw_Mem → Prop) (a0 : Nat) (a1 : Int32) (a2 : Int32) (a3 : Int32) : tw_Kt g mX8_put 2 0 0 [.ref a0, .int a1, .int a2, .int a3] Q (f_X8_put a0 a1 a2 a3 (fun v => Q (.inl none))) := by
  refine tw_mkK (L := [some (.ref a0), some (.int a1), some (.int a2), some (.int a3), none]) mo_X8_put dk_X8_put rfl (Nat.le_of_ble_eq_true rfl) rfl ?_
  unfold f_X8_put
  refine tw_iload_n (k := 0) rfl rfl ?_
  refine tw_iload_n (k := 1) rfl rfl ?_
  refine tw_callS (k := 2) (d' := 1) (mc' := 0) (ms' := 0) tw_cI tw_cIi [.int a1, .int a2] rfl rfl ws_RX8_120_X8_slot mo_X8_slot rfl (fun Q9 => K_X8_slot Q9 a1 a2) (by omega) (by decide) (by decide) (Nat.le_of_ble_eq_true rfl) (fun x1 => ?_)
  refine tw_ist (k := 3) [some (.ref a0), some (.int a1), some (.int a2), some (.int a3), some (.int x1)] rfl (Nat.le_of_ble_eq_true rfl) rfl rfl ?_
  refine tw_iload (k := 4) rfl rfl ?_
  refine tw_if_lt (k := 5) 20 rfl (by decide) ?_ ?_
  · exact tw_return (k := 11) rfl rfl (by decide) (by decide)
  · refine tw_aload_n (k := 6) rfl rfl ?_
    refine tw_getR (k := 7) rfl fl_RX8_27 (fun x2 => ?_)
    refine tw_iload (k := 8) rfl rfl ?_
    refine tw_iload_n (k := 9) rfl rfl ?_
    refine tw_iastore (k := 10) rfl ?_
    exact tw_return (k := 11) rfl rfl (by decide) (by decide)
def mX8_plannedTone : tw_MD := (yX8_plannedTone, cX8_plannedTone, 2, (some FieldType.int), [(0, .aload_n 0, 1, 1), (1, .aload_n 0, 1, 2), (2, .iconst 0, 1, 3), (3, .iload_n 1, 1, 4), (4, .invokevirtual 127, 3, 7), (7, .aload_n 0, 1, 8), (8, .iconst 1, 1, 9), (9, .iload_n 1, 1, 10), (10, .invokevirtual 127, 3, 13), (13, .invokevirtual 114, 3, 16), (16, .ireturn, 1, 17)], [])
theorem mo_X8_plannedTone : tw_mok mX8_plannedTone 1 := ⟨plainFor_of_name (by decide +kernel), by decide +kernel, by decide +kernel, by decide +kernel, by decide +kernel⟩
theorem dk_X8_plannedTone : tw_dk mX8_plannedTone := by unfold tw_dk; decide +kernel
theorem wv_RX8_127_X8_planned : tw_wV RX8 127 mX8_planned := ⟨List.mem_of_getElem? (i := 745) (by decide +kernel), List.mem_of_getElem? (i := 746) (by decide +kernel), List.mem_of_getElem? (i := 747) (by decide +kernel), List.mem_of_getElem? (i := 126) (by decide +kernel), List.mem_of_getElem? (i := 748) (by decide +kernel)⟩
set_option maxRecDepth 20000 in
theorem K_X8_plannedTone {g : tw_Gx} (Q : tw_Rs → tw_Mem → Prop) (a0 : Nat) (a1 : Int32) : tw_Kt g mX8_plannedTone 4 0 0 [.ref a0, .int a1] Q (f_X8_plannedTone a0 a1 (fun v => Q (.inl (some (.int v))))) := by
  refine tw_mkK (L := [some (.ref a0), some (.int a1)]) mo_X8_plannedTone dk_X8_plannedTone rfl (Nat.le_of_ble_eq_true rfl) rfl ?_
  unfold f_X8_plannedTone
  refine tw_aload_n (k := 0) rfl rfl ?_
  refine tw_aload_n (k := 1) rfl rfl ?_
  refine tw_iconst (k := 2) (0 : Int32) rfl (by decide) ?_
  refine tw_iload_n (k := 3) rfl rfl ?_
  refine tw_callV (k := 4) (d' := 2) (mc' := 0) (ms' := 0) tw_cI tw_cIi [.int (0 : Int32), .int a1] rfl rfl wv_RX8_127_X8_planned mo_X8_planned (t := 7) rfl rfl rfl (fun Q9 => K_X8_planned Q9 a0 (0 : Int32) a1) (by omega) (by decide) (by decide) (Nat.le_of_ble_eq_true rfl) (fun x1 => ?_)
  refine tw_aload_n (k := 5) rfl rfl ?_
  refine tw_iconst (k := 6) (1 : Int32) rfl (by decide) ?_
  refine tw_iload_n (k := 7) rfl rfl ?_
  refine tw_callV (k := 8) (d' := 2) (mc' := 0) (ms' := 0) tw_cI tw_cIi [.int (1 : Int32), .int a1] rfl rfl wv_RX8_127_X8_planned mo_X8_planned (t := 7) rfl rfl rfl (fun Q9 => K_X8_planned Q9 a0 (1 : Int32) a1) (by omega) (by decide) (by decide) (Nat.le_of_ble_eq_true rfl) (fun x2 => ?_)
  refine tw_callV (k := 9) (d' := 3) (mc' := 0) (ms' := 0) tw_cI tw_cIi [.int x1, .int x2] rfl rfl wv_RX8_114_X8_toneOf mo_X8_toneOf (t := 7) rfl rfl rfl (fun Q9 => K_X8_toneOf Q9 a0 x1 x2) (by omega) (by decide) (by decide) (Nat.le_of_ble_eq_true rfl) (fun x3 => ?_)
  exact tw_ireturn (k := 10) rfl rfl (by decide) (by decide)
def mX8_isSpoilt : tw_MD := (yX8_isSpoilt, cX8_isSpoilt, 3, (some FieldType.boolean), [(0, .aload_n 0, 1, 1), (1, .iload_n 1, 1, 2), (2, .invokevirtual 130, 3, 5), (5, .istore_n 2, 1, 6), (6, .iload_n 2, 1, 7), (7, .iconst 1, 1, 8), (8, .if_icmp .lt 12, 3, 11), (11, .iload_n 2, 1, 12), (12, .iconst 3, 1, 13), (13, .if_icmp .gt 7, 3, 16), (16, .iconst 1, 1, 17), (17, .goto 4, 3, 20), (20, .iconst 0, 1, 21), (21, .ireturn, 1, 22)], [])
theorem mo_X8_isSpoilt : tw_mok mX8_isSpoilt 1 := ⟨plainFor_of_name (by decide +kernel), by decide +kernel, by decide +kernel, by decide +kernel, by decide +kernel⟩
theorem dk_X8_isSpoilt : tw_dk mX8_isSpoilt := by unfold tw_dk; decide +kernel
theorem wv_RX8_130_X8_plannedTone : tw_wV RX8 130 mX8_plannedTone := ⟨List.mem_of_getElem? (i := 741) (by decide +kernel), List.mem_of_getElem? (i := 742) (by decide +kernel), List.mem_of_getElem? (i := 743) (by decide +kernel), List.mem_of_getElem? (i := 126) (by decide +kernel), List.mem_of_getElem? (i := 744) (by decide +kernel)⟩
set_option maxRecDepth 20000 in
theorem K_X8_isSpoilt {g : tw_Gx} (Q : tw_Rs → tw_Mem → Prop) (a0 : Nat) (a1 : Int32) : tw_Kt g mX8_isSpoilt 5 0 0 [.ref a0, .int a1] Q (f_X8_isSpoilt a0 a1 (fun v => Q (.inl (some (.int v))))) := by
  refine tw_mkK (L := [some (.ref a0), some (.int a1), none]) mo_X8_isSpoilt dk_X8_isSpoilt rfl (Nat.le_of_ble_eq_true rfl) rfl ?_
  unfold f_X8_isSpoilt
  refine tw_aload_n (k := 0) rfl rfl ?_
  refine tw_iload_n (k := 1) rfl rfl ?_
  refine tw_callV (k := 2) (d' := 4) (mc' := 0) (ms' := 0) tw_cI tw_cIi [.int a1] rfl rfl wv_RX8_130_X8_plannedTone mo_X8_plannedTone (t := 7) rfl rfl rfl (fun Q9 => K_X8_plannedTone Q9 a0 a1) (by omega) (by decide) (by decide) (Nat.le_of_ble_eq_true rfl) (fun x1 => ?_)
  refine tw_ist_n (k := 3) [some (.ref a0), some (.int a1), some (.int x1)] rfl (Nat.le_of_ble_eq_true rfl) rfl rfl ?_
  refine tw_iload_n (k := 4) rfl rfl ?_
  refine tw_iconst (k := 5) (1 : Int32) rfl (by decide) ?_
  refine tw_icmp_lt (k := 6) 20 rfl (by decide) ?_ ?_
  · refine tw_iconst (k := 12) (0 : Int32) rfl (by decide) ?_
    exact tw_zreturn (k := 13) rfl rfl (by decide) (by decide)
  · refine tw_iload_n (k := 7) rfl rfl ?_
    refine tw_iconst (k := 8) (3 : Int32) rfl (by decide) ?_
    refine tw_icmp_gt (k := 9) 20 rfl (by decide) ?_ ?_
    · refine tw_iconst (k := 12) (0 : Int32) rfl (by decide) ?_
      exact tw_zreturn (k := 13) rfl rfl (by decide) (by decide)
    · refine tw_iconst (k := 10) (1 : Int32) rfl (by decide) ?_
      refine tw_goto (k := 11) 21 rfl (by decide) ?_
      exact tw_zreturn (k := 13) rfl rfl (by decide) (by decide)
def mX8_spoiltHours : tw_MD := (yX8_spoiltHours, cX8_spoiltHours, 3, (some FieldType.int), [(0, .iconst 0, 1, 1), (1, .istore_n 1, 1, 2), (2, .iconst 0, 1, 3), (3, .istore_n 2, 1, 4), (4, .iload_n 2, 1, 5), (5, .bipush 12, 2, 7), (7, .if_icmp .ge 23, 3, 10), (10, .aload_n 0, 1, 11), (11, .iload_n 2, 1, 12), (12, .invokevirtual 133, 3, 15), (15, .ifCond .eq 9, 3, 18), (18, .iload_n 1, 1, 19), (19, .iconst 1, 1, 20), (20, .iload_n 2, 1, 21), (21, .ishl, 1, 22), (22, .ior, 1, 23), (23, .istore_n 1, 1, 24), (24, .iinc 2 1, 3, 27), (27, .goto (-23), 3, 30), (30, .iload_n 1, 1, 31), (31, .ireturn, 1, 32)], [])
theorem mo_X8_spoiltHours : tw_mok mX8_spoiltHours 0 := ⟨plainFor_of_name (by decide +kernel), by decide +kernel, by decide +kernel, by decide +kernel, by decide +kernel⟩
theorem dk_X8_spoiltHours : tw_dk mX8_spoiltHours := by unfold tw_dk; decide +kernel
theorem wv_RX8_133_X8_isSpoilt : tw_wV RX8 133 mX8_isSpoilt := ⟨List.mem_of_getElem? (i := 737) (by decide +kernel), List.mem_of_getElem? (i := 738) (by decide +kernel), List.mem_of_getElem? (i := 739) (by decide +kernel), List.mem_of_getElem? (i := 126) (by decide +kernel), List.mem_of_getElem? (i := 740) (by decide +kernel)⟩
set_option maxRecDepth 20000 in
theorem K_X8_spoiltHours {g : tw_Gx} (Q : tw_Rs → tw_Mem → Prop) (a0 : Nat) : tw_Kt g mX8_spoiltHours 6 0 0 [.ref a0] Q (f_X8_spoiltHours a0 (fun v => Q (.inl (some (.int v))))) := by
  refine tw_mkK (L := [some (.ref a0), none, none]) mo_X8_spoiltHours dk_X8_spoiltHours rfl (Nat.le_of_ble_eq_true rfl) rfl ?_
  unfold f_X8_spoiltHours
  refine tw_iconst (k := 0) (0 : Int32) rfl (by decide) ?_
  refine tw_ist_n (k := 1) [some (.ref a0), some (.int (0 : Int32)), none] rfl (Nat.le_of_ble_eq_true rfl) rfl rfl ?_
  refine tw_iconst (k := 2) (0 : Int32) rfl (by decide) ?_
  refine tw_ist_n (k := 3) [some (.ref a0), some (.int (0 : Int32)), some (.int (0 : Int32))] rfl (Nat.le_of_ble_eq_true rfl) rfl rfl ?_
  refine tw_loop (fun s2 => [some (.ref a0), some (.int s2.1), some (.int s2.2)]) (fun s2 => []) (fun r1 h1 s2 => ?_) _ rfl rfl
  refine tw_iload_n (k := 4) rfl rfl ?_
  refine tw_bipush (k := 5) (12 : Int32) rfl (by decide) ?_
  refine tw_icmp_ge (k := 6) 30 rfl (by decide) ?_ ?_
  · refine tw_iload_n (k := 19) rfl rfl ?_
    exact tw_ireturn (k := 20) rfl rfl (by decide) (by decide)
  · refine tw_aload_n (k := 7) rfl rfl ?_
    refine tw_iload_n (k := 8) rfl rfl ?_
    refine tw_callV (k := 9) (d' := 5) (mc' := 0) (ms' := 0) tw_cI tw_cIi [.int s2.2] rfl rfl wv_RX8_133_X8_isSpoilt mo_X8_isSpoilt (t := 7) rfl rfl rfl (fun Q9 => K_X8_isSpoilt Q9 a0 s2.2) (by omega) (by decide) (by decide) (Nat.le_of_ble_eq_true rfl) (fun x3 => ?_)
    refine tw_join 24 (fun s5 => [some (.ref a0), some (.int s5), some (.int s2.2)]) (fun s5 => []) 0 0 (fun s5 => ?_) (fun j4 g4 => ?_)
    · refine tw_inc (k := 17) (1 : Int32) [some (.ref a0), some (.int s5), some (.int (s2.2 + (1 : Int32)))] rfl rfl (by decide) (Nat.le_of_ble_eq_true rfl) rfl rfl ?_
      refine tw_goto (k := 18) 4 rfl (by decide) ?_
      exact h1 (s5, s2.2 + (1 : Int32))
    · refine tw_if_eq (k := 10) 24 rfl (by decide) ?_ ?_
      · exact g4 s2.1
      · refine tw_iload_n (k := 11) rfl rfl ?_
        refine tw_iconst (k := 12) (1 : Int32) rfl (by decide) ?_
        refine tw_iload_n (k := 13) rfl rfl ?_
        refine tw_ishl (k := 14) rfl ?_
        refine tw_ior (k := 15) rfl ?_
        refine tw_let (fun x6 => [some (.ref a0), some (.int s2.1), some (.int s2.2)]) (fun x6 => .int x6 :: []) rfl rfl (fun x6 => ?_)
        refine tw_ist_n (k := 16) [some (.ref a0), some (.int x6), some (.int s2.2)] rfl (Nat.le_of_ble_eq_true rfl) rfl rfl ?_
        exact g4 x6
def mX8_leastMend : tw_MD := (yX8_leastMend, cX8_leastMend, 5, (some FieldType.int), [(0, .aload_n 0, 1, 1), (1, .iconst 0, 1, 2), (2, .iload_n 1, 1, 3), (3, .invokevirtual 127, 3, 6), (6, .istore_n 2, 1, 7), (7, .aload_n 0, 1, 8), (8, .iconst 1, 1, 9), (9, .iload_n 1, 1, 10), (10, .invokevirtual 127, 3, 13), (13, .istore_n 3, 1, 14), (14, .iconst 0, 1, 15), (15, .istore 4, 2, 17), (17, .iload 4, 2, 19), (19, .aload_n 0, 1, 20), (20, .getfield 60, 3, 23), (23, .if_icmp .ge 58, 3, 26), (26, .iload 4, 2, 28), (28, .iload_n 2, 1, 29), (29, .if_icmp .eq 46, 3, 32), (32, .iload 4, 2, 34), (34, .iload_n 3, 1, 35), (35, .if_icmp .ne 6, 3, 38), (38, .goto 37, 3, 41), (41, .aload_n 0, 1, 42), (42, .iload 4, 2, 44), (44, .iload_n 3, 1, 45), (45, .invokevirtual 114, 3, 48), (48, .iconst 4, 1, 49), (49, .if_icmp .ne 8, 3, 52), (52, .iconst 2, 1, 53), (53, .iload 4, 2, 55), (55, .imul, 1, 56), (56, .ireturn, 1, 57), (57, .aload_n 0, 1, 58), (58, .iload_n 2, 1, 59), (59, .iload 4, 2, 61), (61, .invokevirtual 114, 3, 64), (64, .iconst 4, 1, 65), (65, .if_icmp .ne 10, 3, 68), (68, .iconst 2, 1, 69), (69, .iload 4, 2, 71), (71, .imul, 1, 72), (72, .iconst 1, 1, 73), (73, .iadd, 1, 74), (74, .ireturn, 1, 75), (75, .iinc 4 1, 3, 78), (78, .goto (-61), 3, 81), (81, .iconst (-1), 1, 82), (82, .ireturn, 1, 83)], [])
theorem mo_X8_leastMend : tw_mok mX8_leastMend 1 := ⟨plainFor_of_name (by decide +kernel), by decide +kernel, by decide +kernel, by decide +kernel, by decide +kernel⟩
theorem dk_X8_leastMend : tw_dk mX8_leastMend := by unfold tw_dk; decide +kernel
set_option maxRecDepth 20000 in
theorem K_X8_leastMend {g : tw_Gx} (Q : tw_Rs → tw_Mem → Prop) (a0 : Nat) (a1 : Int32) : tw_Kt g mX8_leastMend 4 0 0 [.ref a0, .int a1] Q (f_X8_leastMend a0 a1 (fun v => Q (.inl (some (.int v))))) := by
  refine tw_mkK (L := [some (.ref a0), some (.int a1), none, none, none]) mo_X8_leastMend dk_X8_leastMend rfl (Nat.le_of_ble_eq_true rfl) rfl ?_
  unfold f_X8_leastMend
  refine tw_aload_n (k := 0) rfl rfl ?_
  refine tw_iconst (k := 1) (0 : Int32) rfl (by decide) ?_
  refine tw_iload_n (k := 2) rfl rfl ?_
  refine tw_callV (k := 3) (d' := 2) (mc' := 0) (ms' := 0) tw_cI tw_cIi [.int (0 : Int32), .int a1] rfl rfl wv_RX8_127_X8_planned mo_X8_planned (t := 7) rfl rfl rfl (fun Q9 => K_X8_planned Q9 a0 (0 : Int32) a1) (by omega) (by decide) (by decide) (Nat.le_of_ble_eq_true rfl) (fun x1 => ?_)
  refine tw_ist_n (k := 4) [some (.ref a0), some (.int a1), some (.int x1), none, none] rfl (Nat.le_of_ble_eq_true rfl) rfl rfl ?_
  refine tw_aload_n (k := 5) rfl rfl ?_
  refine tw_iconst (k := 6) (1 : Int32) rfl (by decide) ?_
  refine tw_iload_n (k := 7) rfl rfl ?_
  refine tw_callV (k := 8) (d' := 2) (mc' := 0) (ms' := 0) tw_cI tw_cIi [.int (1 : Int32), .int a1] rfl rfl wv_RX8_127_X8_planned mo_X8_planned (t := 7) rfl rfl rfl (fun Q9 => K_X8_planned Q9 a0 (1 : Int32) a1) (by omega) (by decide) (by decide) (Nat.le_of_ble_eq_true rfl) (fun x2 => ?_)
  refine tw_ist_n (k := 9) [some (.ref a0), some (.int a1), some (.int x1), some (.int x2), none] rfl (Nat.le_of_ble_eq_true rfl) rfl rfl ?_
  refine tw_iconst (k := 10) (0 : Int32) rfl (by decide) ?_
  refine tw_ist (k := 11) [some (.ref a0), some (.int a1), some (.int x1), some (.int x2), some (.int (0 : Int32))] rfl (Nat.le_of_ble_eq_true rfl) rfl rfl ?_
  refine tw_loop (fun s4 => [some (.ref a0), some (.int a1), some (.int x1), some (.int x2), some (.int s4)]) (fun s4 => []) (fun r3 h3 s4 => ?_) _ rfl rfl
  refine tw_iload (k := 12) rfl rfl ?_
  refine tw_aload_n (k := 13) rfl rfl ?_
  refine tw_getI (k := 14) rfl fl_RX8_60 (fun x5 => ?_)
  refine tw_icmp_ge (k := 15) 81 rfl (by decide) ?_ ?_
  · refine tw_iconst (k := 47) (-1 : Int32) rfl (by decide) ?_
    exact tw_ireturn (k := 48) rfl rfl (by decide) (by decide)
  · refine tw_iload (k := 16) rfl rfl ?_
    refine tw_iload_n (k := 17) rfl rfl ?_
    refine tw_join 75 (fun s7 => [some (.ref a0), some (.int a1), some (.int x1), some (.int x2), some (.int s4)]) (fun s7 => []) 0 0 (fun s7 => ?_) (fun j6 g6 => ?_)
    · refine tw_inc (k := 45) (1 : Int32) [some (.ref a0), some (.int a1), some (.int x1), some (.int x2), some (.int (s4 + (1 : Int32)))] rfl rfl (by decide) (Nat.le_of_ble_eq_true rfl) rfl rfl ?_
      refine tw_goto (k := 46) 17 rfl (by decide) ?_
      exact h3 (s4 + (1 : Int32))
    · refine tw_icmp_eq (k := 18) 75 rfl (by decide) ?_ ?_
      · exact g6 ()
      · refine tw_iload (k := 19) rfl rfl ?_
        refine tw_iload_n (k := 20) rfl rfl ?_
        refine tw_icmp_ne (k := 21) 41 rfl (by decide) ?_ ?_
        · refine tw_aload_n (k := 23) rfl rfl ?_
          refine tw_iload (k := 24) rfl rfl ?_
          refine tw_iload_n (k := 25) rfl rfl ?_
          refine tw_callV (k := 26) (d' := 3) (mc' := 0) (ms' := 0) tw_cI tw_cIi [.int s4, .int x2] rfl rfl wv_RX8_114_X8_toneOf mo_X8_toneOf (t := 7) rfl rfl rfl (fun Q9 => K_X8_toneOf Q9 a0 s4 x2) (by omega) (by decide) (by decide) (Nat.le_of_ble_eq_true rfl) (fun x8 => ?_)
          refine tw_iconst (k := 27) (4 : Int32) rfl (by decide) ?_
          refine tw_icmp_ne (k := 28) 57 rfl (by decide) ?_ ?_
          · refine tw_aload_n (k := 33) rfl rfl ?_
            refine tw_iload_n (k := 34) rfl rfl ?_
            refine tw_iload (k := 35) rfl rfl ?_
            refine tw_callV (k := 36) (d' := 3) (mc' := 0) (ms' := 0) tw_cI tw_cIi [.int x1, .int s4] rfl rfl wv_RX8_114_X8_toneOf mo_X8_toneOf (t := 7) rfl rfl rfl (fun Q9 => K_X8_toneOf Q9 a0 x1 s4) (by omega) (by decide) (by decide) (Nat.le_of_ble_eq_true rfl) (fun x9 => ?_)
            refine tw_iconst (k := 37) (4 : Int32) rfl (by decide) ?_
            refine tw_icmp_ne (k := 38) 75 rfl (by decide) ?_ ?_
            · exact g6 ()
            · refine tw_iconst (k := 39) (2 : Int32) rfl (by decide) ?_
              refine tw_iload (k := 40) rfl rfl ?_
              refine tw_imul (k := 41) rfl ?_
              refine tw_iconst (k := 42) (1 : Int32) rfl (by decide) ?_
              refine tw_iadd (k := 43) rfl ?_
              exact tw_ireturn (k := 44) rfl rfl (by decide) (by decide)
          · refine tw_iconst (k := 29) (2 : Int32) rfl (by decide) ?_
            refine tw_iload (k := 30) rfl rfl ?_
            refine tw_imul (k := 31) rfl ?_
            exact tw_ireturn (k := 32) rfl rfl (by decide) (by decide)
        · refine tw_goto (k := 22) 75 rfl (by decide) ?_
          exact g6 ()
def mX8_busyHours : tw_MD := (yX8_busyHours, cX8_busyHours, 4, (some FieldType.int), [(0, .iconst 0, 1, 1), (1, .istore_n 2, 1, 2), (2, .iconst 0, 1, 3), (3, .istore_n 3, 1, 4), (4, .iload_n 3, 1, 5), (5, .bipush 12, 2, 7), (7, .if_icmp .ge 35, 3, 10), (10, .aload_n 0, 1, 11), (11, .iconst 0, 1, 12), (12, .iload_n 3, 1, 13), (13, .invokevirtual 127, 3, 16), (16, .iload_n 1, 1, 17), (17, .if_icmp .eq 13, 3, 20), (20, .aload_n 0, 1, 21), (21, .iconst 1, 1, 22), (22, .iload_n 3, 1, 23), (23, .invokevirtual 127, 3, 26), (26, .iload_n 1, 1, 27), (27, .if_icmp .ne 9, 3, 30), (30, .iload_n 2, 1, 31), (31, .iconst 1, 1, 32), (32, .iload_n 3, 1, 33), (33, .ishl, 1, 34), (34, .ior, 1, 35), (35, .istore_n 2, 1, 36), (36, .iinc 3 1, 3, 39), (39, .goto (-35), 3, 42), (42, .iload_n 2, 1, 43), (43, .ireturn, 1, 44)], [])
theorem mo_X8_busyHours : tw_mok mX8_busyHours 1 := ⟨plainFor_of_name (by decide +kernel), by decide +kernel, by decide +kernel, by decide +kernel, by decide +kernel⟩
theorem dk_X8_busyHours : tw_dk mX8_busyHours := by unfold tw_dk; decide +kernel
set_option maxRecDepth 20000 in
theorem K_X8_busyHours {g : tw_Gx} (Q : tw_Rs → tw_Mem → Prop) (a0 : Nat) (a1 : Int32) : tw_Kt g mX8_busyHours 3 0 0 [.ref a0, .int a1] Q (f_X8_busyHours a0 a1 (fun v => Q (.inl (some (.int v))))) := by
  refine tw_mkK (L := [some (.ref a0), some (.int a1), none, none]) mo_X8_busyHours dk_X8_busyHours rfl (Nat.le_of_ble_eq_true rfl) rfl ?_
  unfold f_X8_busyHours
  refine tw_iconst (k := 0) (0 : Int32) rfl (by decide) ?_
  refine tw_ist_n (k := 1) [some (.ref a0), some (.int a1), some (.int (0 : Int32)), none] rfl (Nat.le_of_ble_eq_true rfl) rfl rfl ?_
  refine tw_iconst (k := 2) (0 : Int32) rfl (by decide) ?_
  refine tw_ist_n (k := 3) [some (.ref a0), some (.int a1), some (.int (0 : Int32)), some (.int (0 : Int32))] rfl (Nat.le_of_ble_eq_true rfl) rfl rfl ?_
  refine tw_loop (fun s2 => [some (.ref a0), some (.int a1), some (.int s2.1), some (.int s2.2)]) (fun s2 => []) (fun r1 h1 s2 => ?_) _ rfl rfl
  refine tw_iload_n (k := 4) rfl rfl ?_
  refine tw_bipush (k := 5) (12 : Int32) rfl (by decide) ?_
  refine tw_icmp_ge (k := 6) 42 rfl (by decide) ?_ ?_
  · refine tw_iload_n (k := 27) rfl rfl ?_
    exact tw_ireturn (k := 28) rfl rfl (by decide) (by decide)
  · refine tw_aload_n (k := 7) rfl rfl ?_
    refine tw_iconst (k := 8) (0 : Int32) rfl (by decide) ?_
    refine tw_iload_n (k := 9) rfl rfl ?_
    refine tw_callV (k := 10) (d' := 2) (mc' := 0) (ms' := 0) tw_cI tw_cIi [.int (0 : Int32), .int s2.2] rfl rfl wv_RX8_127_X8_planned mo_X8_planned (t := 7) rfl rfl rfl (fun Q9 => K_X8_planned Q9 a0 (0 : Int32) s2.2) (by omega) (by decide) (by decide) (Nat.le_of_ble_eq_true rfl) (fun x3 => ?_)
    refine tw_iload_n (k := 11) rfl rfl ?_
    refine tw_join 36 (fun s5 => [some (.ref a0), some (.int a1), some (.int s5), some (.int s2.2)]) (fun s5 => []) 0 0 (fun s5 => ?_) (fun j4 g4 => ?_)
    · refine tw_inc (k := 25) (1 : Int32) [some (.ref a0), some (.int a1), some (.int s5), some (.int (s2.2 + (1 : Int32)))] rfl rfl (by decide) (Nat.le_of_ble_eq_true rfl) rfl rfl ?_
      refine tw_goto (k := 26) 4 rfl (by decide) ?_
      exact h1 (s5, s2.2 + (1 : Int32))
    · refine tw_join 30 (fun s7 => [some (.ref a0), some (.int a1), some (.int s2.1), some (.int s2.2)]) (fun s7 => []) 0 0 (fun s7 => ?_) (fun j6 g6 => ?_)
      · refine tw_iload_n (k := 19) rfl rfl ?_
        refine tw_iconst (k := 20) (1 : Int32) rfl (by decide) ?_
        refine tw_iload_n (k := 21) rfl rfl ?_
        refine tw_ishl (k := 22) rfl ?_
        refine tw_ior (k := 23) rfl ?_
        refine tw_let (fun x8 => [some (.ref a0), some (.int a1), some (.int s2.1), some (.int s2.2)]) (fun x8 => .int x8 :: []) rfl rfl (fun x8 => ?_)
        refine tw_ist_n (k := 24) [some (.ref a0), some (.int a1), some (.int x8), some (.int s2.2)] rfl (Nat.le_of_ble_eq_true rfl) rfl rfl ?_
        exact g4 x8
      · refine tw_icmp_eq (k := 12) 30 rfl (by decide) ?_ ?_
        · exact g6 ()
        · refine tw_aload_n (k := 13) rfl rfl ?_
          refine tw_iconst (k := 14) (1 : Int32) rfl (by decide) ?_
          refine tw_iload_n (k := 15) rfl rfl ?_
          refine tw_callV (k := 16) (d' := 2) (mc' := 0) (ms' := 0) tw_cI tw_cIi [.int (1 : Int32), .int s2.2] rfl rfl wv_RX8_127_X8_planned mo_X8_planned (t := 7) rfl rfl rfl (fun Q9 => K_X8_planned Q9 a0 (1 : Int32) s2.2) (by omega) (by decide) (by decide) (Nat.le_of_ble_eq_true rfl) (fun x9 => ?_)
          refine tw_iload_n (k := 17) rfl rfl ?_
          refine tw_icmp_ne (k := 18) 36 rfl (by decide) ?_ ?_
          · exact g4 s2.1
          · exact g6 ()
def mX8_dueOf : tw_MD := (yX8_dueOf, cX8_dueOf, 2, (some FieldType.int), [(0, .aload_n 0, 1, 1), (1, .iload_n 1, 1, 2), (2, .invokevirtual 136, 3, 5), (5, .invokestatic 139, 3, 8), (8, .aload_n 0, 1, 9), (9, .iload_n 1, 1, 10), (10, .invokevirtual 97, 3, 13), (13, .imul, 1, 14), (14, .ireturn, 1, 15)], [])
theorem mo_X8_dueOf : tw_mok mX8_dueOf 1 := ⟨plainFor_of_name (by decide +kernel), by decide +kernel, by decide +kernel, by decide +kernel, by decide +kernel⟩
theorem dk_X8_dueOf : tw_dk mX8_dueOf := by unfold tw_dk; decide +kernel
theorem ws_RX8_139_J6_bitCount_0f7a4 : tw_wS RX8 139 mJ6_bitCount_0f7a4 := ⟨List.mem_of_getElem? (i := 768) (by decide +kernel), List.mem_of_getElem? (i := 648) (by decide +kernel), List.mem_of_getElem? (i := 150) (by decide +kernel), List.mem_of_getElem? (i := 649) (by decide +kernel)⟩
theorem wv_RX8_136_X8_busyHours : tw_wV RX8 136 mX8_busyHours := ⟨List.mem_of_getElem? (i := 764) (by decide +kernel), List.mem_of_getElem? (i := 765) (by decide +kernel), List.mem_of_getElem? (i := 766) (by decide +kernel), List.mem_of_getElem? (i := 126) (by decide +kernel), List.mem_of_getElem? (i := 767) (by decide +kernel)⟩
set_option maxRecDepth 20000 in
theorem K_X8_dueOf {g : tw_Gx} (Q : tw_Rs → tw_Mem → Prop) (a0 : Nat) (a1 : Int32) : tw_Kt g mX8_dueOf 4 0 0 [.ref a0, .int a1] Q (f_X8_dueOf a0 a1 (fun v => Q (.inl (some (.int v))))) := by
  refine tw_mkK (L := [some (.ref a0), some (.int a1)]) mo_X8_dueOf dk_X8_dueOf rfl (Nat.le_of_ble_eq_true rfl) rfl ?_
  unfold f_X8_dueOf
  refine tw_aload_n (k := 0) rfl rfl ?_
  refine tw_iload_n (k := 1) rfl rfl ?_
  refine tw_callV (k := 2) (d' := 3) (mc' := 0) (ms' := 0) tw_cI tw_cIi [.int a1] rfl rfl wv_RX8_136_X8_busyHours mo_X8_busyHours (t := 7) rfl rfl rfl (fun Q9 => K_X8_busyHours Q9 a0 a1) (by omega) (by decide) (by decide) (Nat.le_of_ble_eq_true rfl) (fun x1 => ?_)
  refine tw_callS (k := 3) (d' := 1) (mc' := 0) (ms' := 0) tw_cI tw_cIi [.int x1] rfl rfl ws_RX8_139_J6_bitCount_0f7a4 mo_J6_bitCount_0f7a4 rfl (fun Q9 => K_J6_bitCount_0f7a4 Q9 x1) (by omega) (by decide) (by decide) (Nat.le_of_ble_eq_true rfl) (fun x2 => ?_)
  refine tw_aload_n (k := 4) rfl rfl ?_
  refine tw_iload_n (k := 5) rfl rfl ?_
  refine tw_callV (k := 6) (d' := 2) (mc' := 0) (ms' := 0) tw_cI tw_cIi [.int a1] rfl rfl wv_RX8_97_X8_payOf mo_X8_payOf (t := 7) rfl rfl rfl (fun Q9 => K_X8_payOf Q9 a0 a1) (by omega) (by decide) (by decide) (Nat.le_of_ble_eq_true rfl) (fun x3 => ?_)
  refine tw_imul (k := 7) rfl ?_
  exact tw_ireturn (k := 8) rfl rfl (by decide) (by decide)
def mX8_dueOfAll : tw_MD := (yX8_dueOfAll, cX8_dueOfAll, 3, (some FieldType.int), [(0, .iconst 0, 1, 1), (1, .istore_n 1, 1, 2), (2, .iconst 0, 1, 3), (3, .istore_n 2, 1, 4), (4, .iload_n 2, 1, 5), (5, .aload_n 0, 1, 6), (6, .getfield 60, 3, 9), (9, .if_icmp .ge 17, 3, 12), (12, .iload_n 1, 1, 13), (13, .aload_n 0, 1, 14), (14, .iload_n 2, 1, 15), (15, .invokevirtual 144, 3, 18), (18, .iadd, 1, 19), (19, .istore_n 1, 1, 20), (20, .iinc 2 1, 3, 23), (23, .goto (-19), 3, 26), (26, .iload_n 1, 1, 27), (27, .ireturn, 1, 28)], [])
theorem mo_X8_dueOfAll : tw_mok mX8_dueOfAll 0 := ⟨plainFor_of_name (by decide +kernel), by decide +kernel, by decide +kernel, by decide +kernel, by decide +kernel⟩
theorem dk_X8_dueOfAll : tw_dk mX8_dueOfAll := by unfold tw_dk; decide +kernel
theorem wv_RX8_144_X8_dueOf : tw_wV RX8 144 mX8_dueOf := ⟨List.mem_of_getElem? (i := 760) (by decide +kernel), List.mem_of_getElem? (i := 761) (by decide +kernel), List.mem_of_getElem? (i := 762) (by decide +kernel), List.mem_of_getElem? (i := 126) (by decide +kernel), List.mem_of_getElem? (i := 763) (by decide +kernel)⟩
set_option maxRecDepth 20000 in
theorem K_X8_dueOfAll {g : tw_Gx} (Q : tw_Rs → tw_Mem → Prop) (a0 : Nat) : tw_Kt g mX8_dueOfAll 5 0 0 [.ref a0] Q (f_X8_dueOfAll a0 (fun v => Q (.inl (some (.int v))))) := by
  refine tw_mkK (L := [some (.ref a0), none, none]) mo_X8_dueOfAll dk_X8_dueOfAll rfl (Nat.le_of_ble_eq_true rfl) rfl ?_
  unfold f_X8_dueOfAll
  refine tw_iconst (k := 0) (0 : Int32) rfl (by decide) ?_
  refine tw_ist_n (k := 1) [some (.ref a0), some (.int (0 : Int32)), none] rfl (Nat.le_of_ble_eq_true rfl) rfl rfl ?_
  refine tw_iconst (k := 2) (0 : Int32) rfl (by decide) ?_
  refine tw_ist_n (k := 3) [some (.ref a0), some (.int (0 : Int32)), some (.int (0 : Int32))] rfl (Nat.le_of_ble_eq_true rfl) rfl rfl ?_
  refine tw_loop (fun s2 => [some (.ref a0), some (.int s2.1), some (.int s2.2)]) (fun s2 => []) (fun r1 h1 s2 => ?_) _ rfl rfl
  refine tw_iload_n (k := 4) rfl rfl ?_
  refine tw_aload_n (k := 5) rfl rfl ?_
  refine tw_getI (k := 6) rfl fl_RX8_60 (fun x3 => ?_)
  refine tw_icmp_ge (k := 7) 26 rfl (by decide) ?_ ?_
  · refine tw_iload_n (k := 16) rfl rfl ?_
    exact tw_ireturn (k := 17) rfl rfl (by decide) (by decide)
  · refine tw_iload_n (k := 8) rfl rfl ?_
    refine tw_aload_n (k := 9) rfl rfl ?_
    refine tw_iload_n (k := 10) rfl rfl ?_
    refine tw_callV (k := 11) (d' := 4) (mc' := 0) (ms' := 0) tw_cI tw_cIi [.int s2.2] rfl rfl wv_RX8_144_X8_dueOf mo_X8_dueOf (t := 7) rfl rfl rfl (fun Q9 => K_X8_dueOf Q9 a0 s2.2) (by omega) (by decide) (by decide) (Nat.le_of_ble_eq_true rfl) (fun x4 => ?_)
    refine tw_iadd (k := 12) rfl ?_
    refine tw_let (fun x5 => [some (.ref a0), some (.int s2.1), some (.int s2.2)]) (fun x5 => .int x5 :: []) rfl rfl (fun x5 => ?_)
    refine tw_ist_n (k := 13) [some (.ref a0), some (.int x5), some (.int s2.2)] rfl (Nat.le_of_ble_eq_true rfl) rfl rfl ?_
    refine tw_inc (k := 14) (1 : Int32) [some (.ref a0), some (.int x5), some (.int (s2.2 + (1 : Int32)))] rfl rfl (by decide) (Nat.le_of_ble_eq_true rfl) rfl rfl ?_
    refine tw_goto (k := 15) 4 rfl (by decide) ?_
    exact h1 (x5, s2.2 + (1 : Int32))
def mX8_timesPlanned : tw_MD := (yX8_timesPlanned, cX8_timesPlanned, 3, (some FieldType.int), [(0, .iconst 0, 1, 1), (1, .istore_n 1, 1, 2), (2, .iconst 0, 1, 3), (3, .istore_n 2, 1, 4), (4, .iload_n 2, 1, 5), (5, .aload_n 0, 1, 6), (6, .getfield 27, 3, 9), (9, .arraylength, 1, 10), (10, .if_icmp .ge 22, 3, 13), (13, .aload_n 0, 1, 14), (14, .getfield 27, 3, 17), (17, .iload_n 2, 1, 18), (18, .iaload, 1, 19), (19, .iconst (-1), 1, 20), (20, .if_icmp .eq 6, 3, 23), (23, .iinc 1 1, 3, 26), (26, .iinc 2 1, 3, 29), (29, .goto (-25), 3, 32), (32, .iload_n 1, 1, 33), (33, .ireturn, 1, 34)], [])
theorem mo_X8_timesPlanned : tw_mok mX8_timesPlanned 0 := ⟨plainFor_of_name (by decide +kernel), by decide +kernel, by decide +kernel, by decide +kernel, by decide +kernel⟩
theorem dk_X8_timesPlanned : tw_dk mX8_timesPlanned := by unfold tw_dk; decide +kernel
set_option maxRecDepth 20000 in
theorem K_X8_timesPlanned {g : tw_Gx} (Q : tw_Rs → tw_Mem → Prop) (a0 : Nat) : tw_Kt g mX8_timesPlanned 1 0 0 [.ref a0] Q (f_X8_timesPlanned a0 (fun v => Q (.inl (some (.int v))))) := by
  refine tw_mkK (L := [some (.ref a0), none, none]) mo_X8_timesPlanned dk_X8_timesPlanned rfl (Nat.le_of_ble_eq_true rfl) rfl ?_
  unfold f_X8_timesPlanned
  refine tw_iconst (k := 0) (0 : Int32) rfl (by decide) ?_
  refine tw_ist_n (k := 1) [some (.ref a0), some (.int (0 : Int32)), none] rfl (Nat.le_of_ble_eq_true rfl) rfl rfl ?_
  refine tw_iconst (k := 2) (0 : Int32) rfl (by decide) ?_
  refine tw_ist_n (k := 3) [some (.ref a0), some (.int (0 : Int32)), some (.int (0 : Int32))] rfl (Nat.le_of_ble_eq_true rfl) rfl rfl ?_
  refine tw_loop (fun s2 => [some (.ref a0), some (.int s2.1), some (.int s2.2)]) (fun s2 => []) (fun r1 h1 s2 => ?_) _ rfl rfl
  refine tw_iload_n (k := 4) rfl rfl ?_
  refine tw_aload_n (k := 5) rfl rfl ?_
  refine tw_getR (k := 6) rfl fl_RX8_27 (fun x3 => ?_)
  refine tw_alength (k := 7) rfl (fun x4 => ?_)
  refine tw_icmp_ge (k := 8) 32 rfl (by decide) ?_ ?_
  · refine tw_iload_n (k := 18) rfl rfl ?_
    exact tw_ireturn (k := 19) rfl rfl (by decide) (by decide)
  · refine tw_aload_n (k := 9) rfl rfl ?_
    refine tw_getR (k := 10) rfl fl_RX8_27 (fun x5 => ?_)
    refine tw_iload_n (k := 11) rfl rfl ?_
    refine tw_iaload (k := 12) rfl (fun x6 => ?_)
    refine tw_iconst (k := 13) (-1 : Int32) rfl (by decide) ?_
    refine tw_join 26 (fun s8 => [some (.ref a0), some (.int s8), some (.int s2.2)]) (fun s8 => []) 0 0 (fun s8 => ?_) (fun j7 g7 => ?_)
    · refine tw_inc (k := 16) (1 : Int32) [some (.ref a0), some (.int s8), some (.int (s2.2 + (1 : Int32)))] rfl rfl (by decide) (Nat.le_of_ble_eq_true rfl) rfl rfl ?_
      refine tw_goto (k := 17) 4 rfl (by decide) ?_
      exact h1 (s8, s2.2 + (1 : Int32))
    · refine tw_icmp_eq (k := 14) 26 rfl (by decide) ?_ ?_
      · exact g7 s2.1
      · refine tw_inc (k := 15) (1 : Int32) [some (.ref a0), some (.int (s2.1 + (1 : Int32))), some (.int s2.2)] rfl rfl (by decide) (Nat.le_of_ble_eq_true rfl) rfl rfl ?_
        exact g7 (s2.1 + (1 : Int32))
def mX8_draw : tw_MD := (yX8_draw, cX8_draw, 1, (some FieldType.int), [(0, .aload_n 0, 1, 1), (1, .ldc 189, 2, 3), (3, .aload_n 0, 1, 4), (4, .getfield 41, 3, 7), (7, .imul, 1, 8), (8, .sipush 12345, 3, 11), (11, .iadd, 1, 12), (12, .putfield 41, 3, 15), (15, .aload_n 0, 1, 16), (16, .getfield 41, 3, 19), (19, .bipush 16, 2, 21), (21, .iushr, 1, 22), (22, .sipush 32767, 3, 25), (25, .iand, 1, 26), (26, .ireturn, 1, 27)], [])
theorem mo_X8_draw : tw_mok mX8_draw 0 := ⟨plainFor_of_name (by decide +kernel), by decide +kernel, by decide +kernel, by decide +kernel, by decide +kernel⟩
theorem dk_X8_draw : tw_dk mX8_draw := by unfold tw_dk; decide +kernel
theorem kc_RX8_189 : Cond.constant RX8 189 (1103515245 : Int32) ∈ lw_tbl := List.mem_of_getElem? (i := 1525) (by decide +kernel)
theorem fl_RX8_41 : tw_fl RX8 41 51 := Or.inl (List.mem_of_getElem? (i := 228) (by decide +kernel))
theorem wf_X8_draw_41 : tw_wf mX8_draw 41 51 := Or.inl rfl
set_option maxRecDepth 20000 in
theorem K_X8_draw {g : tw_Gx} (Q : tw_Rs → tw_Mem → Prop) (a0 : Nat) : tw_Kt g mX8_draw 1 0 0 [.ref a0] Q (f_X8_draw a0 (fun v => Q (.inl (some (.int v))))) := by
  refine tw_mkK (L := [some (.ref a0)]) mo_X8_draw dk_X8_draw rfl (Nat.le_of_ble_eq_true rfl) rfl ?_
  unfold f_X8_draw
  refine tw_aload_n (k := 0) rfl rfl ?_
  refine tw_ldc (k := 1) kc_RX8_189 rfl ?_
  refine tw_aload_n (k := 2) rfl rfl ?_
  refine tw_getI (k := 3) rfl fl_RX8_41 (fun x1 => ?_)
  refine tw_imul (k := 4) rfl ?_
  refine tw_sipush (k := 5) (12345 : Int32) rfl (by decide) ?_
  refine tw_iadd (k := 6) rfl ?_
  refine tw_putI (k := 7) rfl fl_RX8_41 wf_X8_draw_41 (by decide +kernel) ?_
  refine tw_aload_n (k := 8) rfl rfl ?_
  refine tw_getI (k := 9) rfl fl_RX8_41 (fun x2 => ?_)
  refine tw_bipush (k := 10) (16 : Int32) rfl (by decide) ?_
  refine tw_iushr (k := 11) rfl ?_
  refine tw_sipush (k := 12) (32767 : Int32) rfl (by decide) ?_
  refine tw_iand (k := 13) rfl ?_
  exact tw_ireturn (k := 14) rfl rfl (by decide) (by decide)
def mX8_drawWhoIsOut : tw_MD := (yX8_drawWhoIsOut, cX8_drawWhoIsOut, 3, (some FieldType.int), [(0, .iconst 0, 1, 1), (1, .istore_n 1, 1, 2), (2, .iconst 0, 1, 3), (3, .istore_n 2, 1, 4), (4, .iload_n 2, 1, 5), (5, .aload_n 0, 1, 6), (6, .getfield 60, 3, 9), (9, .if_icmp .ge 30, 3, 12), (12, .aload_n 0, 1, 13), (13, .invokevirtual 186, 3, 16), (16, .bipush 100, 2, 18), (18, .irem, 1, 19), (19, .aload_n 0, 1, 20), (20, .iload_n 2, 1, 21), (21, .invokevirtual 94, 3, 24), (24, .if_icmp .ge 9, 3, 27), (27, .iload_n 1, 1, 28), (28, .iconst 1, 1, 29), (29, .iload_n 2, 1, 30), (30, .ishl, 1, 31), (31, .ior, 1, 32), (32, .istore_n 1, 1, 33), (33, .iinc 2 1, 3, 36), (36, .goto (-32), 3, 39), (39, .iload_n 1, 1, 40), (40, .ireturn, 1, 41)], [])
theorem mo_X8_drawWhoIsOut : tw_mok mX8_drawWhoIsOut 0 := ⟨plainFor_of_name (by decide +kernel), by decide +kernel, by decide +kernel, by decide +kernel, by decide +kernel⟩
theorem dk_X8_drawWhoIsOut : tw_dk mX8_drawWhoIsOut := by unfold tw_dk; decide +kernel
theorem wv_RX8_186_X8_draw : tw_wV RX8 186 mX8_draw := ⟨List.mem_of_getElem? (i := 1521) (by decide +kernel), List.mem_of_getElem? (i := 1523) (by decide +kernel), List.mem_of_getElem? (i := 35) (by decide +kernel), List.mem_of_getElem? (i := 126) (by decide +kernel), List.mem_of_getElem? (i := 1524) (by decide +kernel)⟩
set_option maxRecDepth 20000 in
theorem K_X8_drawWhoIsOut {g : tw_Gx} (Q : tw_Rs → tw_Mem → Prop) (a0 : Nat) : tw_Kt g mX8_drawWhoIsOut 3 0 0 [.ref a0] Q (f_X8_drawWhoIsOut a0 (fun v => Q (.inl (some (.int v))))) := by
  refine tw_mkK (L := [some (.ref a0), none, none]) mo_X8_drawWhoIsOut dk_X8_drawWhoIsOut rfl (Nat.le_of_ble_eq_true rfl) rfl ?_
  unfold f_X8_drawWhoIsOut
  refine tw_iconst (k := 0) (0 : Int32) rfl (by decide) ?_
  refine tw_ist_n (k := 1) [some (.ref a0), some (.int (0 : Int32)), none] rfl (Nat.le_of_ble_eq_true rfl) rfl rfl ?_
  refine tw_iconst (k := 2) (0 : Int32) rfl (by decide) ?_
  refine tw_ist_n (k := 3) [some (.ref a0), some (.int (0 : Int32)), some (.int (0 : Int32))] rfl (Nat.le_of_ble_eq_true rfl) rfl rfl ?_
  refine tw_loop (fun s2 => [some (.ref a0), some (.int s2.1), some (.int s2.2)]) (fun s2 => []) (fun r1 h1 s2 => ?_) _ rfl rfl
  refine tw_iload_n (k := 4) rfl rfl ?_
  refine tw_aload_n (k := 5) rfl rfl ?_
  refine tw_getI (k := 6) rfl fl_RX8_60 (fun x3 => ?_)
  refine tw_icmp_ge (k := 7) 39 rfl (by decide) ?_ ?_
  · refine tw_iload_n (k := 24) rfl rfl ?_
    exact tw_ireturn (k := 25) rfl rfl (by decide) (by decide)
  · refine tw_aload_n (k := 8) rfl rfl ?_
    refine tw_callV (k := 9) (d' := 1) (mc' := 0) (ms' := 0) tw_cI tw_cIi [] rfl rfl wv_RX8_186_X8_draw mo_X8_draw (t := 7) rfl rfl rfl (fun Q9 => K_X8_draw Q9 a0) (by omega) (by decide) (by decide) (Nat.le_of_ble_eq_true rfl) (fun x4 => ?_)
    refine tw_bipush (k := 10) (100 : Int32) rfl (by decide) ?_
    refine tw_irem (k := 11) rfl ?_
    refine tw_aload_n (k := 12) rfl rfl ?_
    refine tw_iload_n (k := 13) rfl rfl ?_
    refine tw_callV (k := 14) (d' := 2) (mc' := 0) (ms' := 0) tw_cI tw_cIi [.int s2.2] rfl rfl wv_RX8_94_X8_roamsOf mo_X8_roamsOf (t := 7) rfl rfl rfl (fun Q9 => K_X8_roamsOf Q9 a0 s2.2) (by omega) (by decide) (by decide) (Nat.le_of_ble_eq_true rfl) (fun x5 => ?_)
    refine tw_join 33 (fun s7 => [some (.ref a0), some (.int s7), some (.int s2.2)]) (fun s7 => []) 0 0 (fun s7 => ?_) (fun j6 g6 => ?_)
    · refine tw_inc (k := 22) (1 : Int32) [some (.ref a0), some (.int s7), some (.int (s2.2 + (1 : Int32)))] rfl rfl (by decide) (Nat.le_of_ble_eq_true rfl) rfl rfl ?_
      refine tw_goto (k := 23) 4 rfl (by decide) ?_
      exact h1 (s7, s2.2 + (1 : Int32))
    · refine tw_icmp_ge (k := 15) 33 rfl (by decide) ?_ ?_
      · exact g6 s2.1
      · refine tw_iload_n (k := 16) rfl rfl ?_
        refine tw_iconst (k := 17) (1 : Int32) rfl (by decide) ?_
        refine tw_iload_n (k := 18) rfl rfl ?_
        refine tw_ishl (k := 19) rfl ?_
        refine tw_ior (k := 20) rfl ?_
        refine tw_let (fun x8 => [some (.ref a0), some (.int s2.1), some (.int s2.2)]) (fun x8 => .int x8 :: []) rfl rfl (fun x8 => ?_)
        refine tw_ist_n (k := 21) [some (.ref a0), some (.int x8), some (.int s2.2)] rfl (Nat.le_of_ble_eq_true rfl) rfl rfl ?_
        exact g6 x8
def mX10_value : tw_MD := (yX10_value, cX10_value, 4, (some FieldType.int), [(0, .iload_n 2, 1, 1), (1, .ifCond .eq 15, 3, 4), (4, .iload_n 1, 1, 5), (5, .bipush 6, 2, 7), (7, .if_icmp .ge 9, 3, 10), (10, .iload_n 1, 1, 11), (11, .iconst 1, 1, 12), (12, .ixor, 1, 13), (13, .goto 4, 3, 16), (16, .iload_n 1, 1, 17), (17, .istore_n 3, 1, 18), (18, .iload_n 3, 1, 19), (19, .ifCond .lt 18, 3, 22), (22, .iload_n 3, 1, 23), (23, .bipush 11, 2, 25), (25, .if_icmp .ge 12, 3, 28), (28, .aload_n 0, 1, 29), (29, .getfield 11, 3, 32), (32, .iload_n 3, 1, 33), (33, .iaload, 1, 34), (34, .goto 4, 3, 37), (37, .iconst 0, 1, 38), (38, .ireturn, 1, 39)], [])
theorem mo_X10_value : tw_mok mX10_value 2 := ⟨plainFor_of_name (by decide +kernel), by decide +kernel, by decide +kernel, by decide +kernel, by decide +kernel⟩
theorem dk_X10_value : tw_dk mX10_value := by unfold tw_dk; decide +kernel
theorem fl_RX10_11 : tw_fl RX10 11 54 := Or.inl (List.mem_of_getElem? (i := 359) (by decide +kernel))
set_option maxRecDepth 20000 in
theorem K_X10_value {g : tw_Gx} (Q : tw_Rs → tw_Mem → Prop) (a0 : Nat) (a1 : Int32) (a2 : Int32) : tw_Kt g mX10_value 1 0 0 [.ref a0, .int a1, .int a2] Q (f_X10_value a0 a1 a2 (fun v => Q (.inl (some (.int v))))) := by
  refine tw_mkK (L := [some (.ref a0), some (.int a1), some (.int a2), none]) mo_X10_value dk_X10_value rfl (Nat.le_of_ble_eq_true rfl) rfl ?_
  unfold f_X10_value
  refine tw_iload_n (k := 0) rfl rfl ?_
  refine tw_join 17 (fun s2 => [some (.ref a0), some (.int a1), some (.int a2), none]) (fun s2 => .int s2 :: []) 0 0 (fun s2 => ?_) (fun j1 g1 => ?_)
  · refine tw_ist_n (k := 10) [some (.ref a0), some (.int a1), some (.int a2), some (.int s2)] rfl (Nat.le_of_ble_eq_true rfl) rfl rfl ?_
    refine tw_iload_n (k := 11) rfl rfl ?_
    refine tw_if_lt (k := 12) 37 rfl (by decide) ?_ ?_
    · refine tw_iconst (k := 21) (0 : Int32) rfl (by decide) ?_
      exact tw_ireturn (k := 22) rfl rfl (by decide) (by decide)
    · refine tw_iload_n (k := 13) rfl rfl ?_
      refine tw_bipush (k := 14) (11 : Int32) rfl (by decide) ?_
      refine tw_icmp_ge (k := 15) 37 rfl (by decide) ?_ ?_
      · refine tw_iconst (k := 21) (0 : Int32) rfl (by decide) ?_
        exact tw_ireturn (k := 22) rfl rfl (by decide) (by decide)
      · refine tw_aload_n (k := 16) rfl rfl ?_
        refine tw_getR (k := 17) rfl fl_RX10_11 (fun x3 => ?_)
        refine tw_iload_n (k := 18) rfl rfl ?_
        refine tw_iaload (k := 19) rfl (fun x4 => ?_)
        refine tw_goto (k := 20) 38 rfl (by decide) ?_
        exact tw_ireturn (k := 22) rfl rfl (by decide) (by decide)
  · refine tw_join 16 (fun s6 => [some (.ref a0), some (.int a1), some (.int a2), none]) (fun s6 => []) 0 0 (fun s6 => ?_) (fun j5 g5 => ?_)
    · refine tw_iload_n (k := 9) rfl rfl ?_
      exact g1 a1
    · refine tw_if_eq (k := 1) 16 rfl (by decide) ?_ ?_
      · exact g5 ()
      · refine tw_iload_n (k := 2) rfl rfl ?_
        refine tw_bipush (k := 3) (6 : Int32) rfl (by decide) ?_
        refine tw_icmp_ge (k := 4) 16 rfl (by decide) ?_ ?_
        · exact g5 ()
        · refine tw_iload_n (k := 5) rfl rfl ?_
          refine tw_iconst (k := 6) (1 : Int32) rfl (by decide) ?_
          refine tw_ixor (k := 7) rfl ?_
          refine tw_goto (k := 8) 17 rfl (by decide) ?_
          exact g1 (a1 ^^^ (1 : Int32))
def mX8_takeFrom : tw_MD := (yX8_takeFrom, cX8_takeFrom, 5, none, [(0, .aload_n 1, 1, 1), (1, .iconst 0, 1, 2), (2, .iconst 0, 1, 3), (3, .invokevirtual 190, 3, 6), (6, .istore_n 2, 1, 7), (7, .aload_n 1, 1, 8), (8, .iconst 1, 1, 9), (9, .iconst 0, 1, 10), (10, .invokevirtual 190, 3, 13), (13, .istore_n 3, 1, 14), (14, .aload_n 1, 1, 15), (15, .bipush 6, 2, 17), (17, .iconst 0, 1, 18), (18, .invokevirtual 190, 3, 21), (21, .istore 4, 2, 23), (23, .aload_n 0, 1, 24), (24, .iload_n 2, 1, 25), (25, .iload_n 3, 1, 26), (26, .aload_n 1, 1, 27), (27, .iconst 2, 1, 28), (28, .iconst 0, 1, 29), (29, .invokevirtual 190, 3, 32), (32, .invokevirtual 104, 3, 35), (35, .aload_n 0, 1, 36), (36, .iload_n 3, 1, 37), (37, .iload_n 2, 1, 38), (38, .aload_n 1, 1, 39), (39, .iconst 3, 1, 40), (40, .iconst 0, 1, 41), (41, .invokevirtual 190, 3, 44), (44, .invokevirtual 104, 3, 47), (47, .aload_n 0, 1, 48), (48, .iload_n 2, 1, 49), (49, .iload_n 3, 1, 50), (50, .iload 4, 2, 52), (52, .invokevirtual 194, 3, 55), (55, .aload_n 0, 1, 56), (56, .iload_n 3, 1, 57), (57, .iload_n 2, 1, 58), (58, .iload 4, 2, 60), (60, .invokevirtual 194, 3, 63), (63, .return_, 1, 64)], [])
theorem mo_X8_takeFrom : tw_mok mX8_takeFrom 1 := ⟨plainFor_of_name (by decide +kernel), by decide +kernel, by decide +kernel, by decide +kernel, by decide +kernel⟩
theorem dk_X8_takeFrom : tw_dk mX8_takeFrom := by unfold tw_dk; decide +kernel
theorem wv_RX8_194_X8_setRung : tw_wV RX8 194 mX8_setRung := ⟨List.mem_of_getElem? (i := 1509) (by decide +kernel), List.mem_of_getElem? (i := 1511) (by decide +kernel), List.mem_of_getElem? (i := 32) (by decide +kernel), List.mem_of_getElem? (i := 126) (by decide +kernel), List.mem_of_getElem? (i := 1512) (by decide +kernel)⟩
theorem wv_RX8_190_X10_value : tw_wV RX8 190 mX10_value := ⟨List.mem_of_getElem? (i := 1508) (by decide +kernel), List.mem_of_getElem? (i := 598) (by decide +kernel), List.mem_of_getElem? (i := 599) (by decide +kernel), List.mem_of_getElem? (i := 133) (by decide +kernel), List.mem_of_getElem? (i := 600) (by decide +kernel)⟩
set_option maxRecDepth 20000 in
theorem K_X8_takeFrom {g : tw_Gx} (Q : tw_Rs → tw_Mem → Prop) (a0 : Nat) (a1 : Nat) : tw_Kt g mX8_takeFrom 3 0 0 [.ref a0, .ref a1] Q (f_X8_takeFrom a0 a1 (fun v => Q (.inl none))) := by
  refine tw_mkK (L := [some (.ref a0), some (.ref a1), none, none, none]) mo_X8_takeFrom dk_X8_takeFrom rfl (Nat.le_of_ble_eq_true rfl) rfl ?_
  unfold f_X8_takeFrom
  refine tw_aload_n (k := 0) rfl rfl ?_
  refine tw_iconst (k := 1) (0 : Int32) rfl (by decide) ?_
  refine tw_iconst (k := 2) (0 : Int32) rfl (by decide) ?_
  refine tw_callV (k := 3) (d' := 1) (mc' := 0) (ms' := 0) tw_cI tw_cIi [.int (0 : Int32), .int (0 : Int32)] rfl rfl wv_RX8_190_X10_value mo_X10_value (t := 9) rfl rfl rfl (fun Q9 => K_X10_value Q9 a1 (0 : Int32) (0 : Int32)) (by omega) (by decide) (by decide) (Nat.le_of_ble_eq_true rfl) (fun x1 => ?_)
  refine tw_ist_n (k := 4) [some (.ref a0), some (.ref a1), some (.int x1), none, none] rfl (Nat.le_of_ble_eq_true rfl) rfl rfl ?_
  refine tw_aload_n (k := 5) rfl rfl ?_
  refine tw_iconst (k := 6) (1 : Int32) rfl (by decide) ?_
  refine tw_iconst (k := 7) (0 : Int32) rfl (by decide) ?_
  refine tw_callV (k := 8) (d' := 1) (mc' := 0) (ms' := 0) tw_cI tw_cIi [.int (1 : Int32), .int (0 : Int32)] rfl rfl wv_RX8_190_X10_value mo_X10_value (t := 9) rfl rfl rfl (fun Q9 => K_X10_value Q9 a1 (1 : Int32) (0 : Int32)) (by omega) (by decide) (by decide) (Nat.le_of_ble_eq_true rfl) (fun x2 => ?_)
  refine tw_ist_n (k := 9) [some (.ref a0), some (.ref a1), some (.int x1), some (.int x2), none] rfl (Nat.le_of_ble_eq_true rfl) rfl rfl ?_
  refine tw_aload_n (k := 10) rfl rfl ?_
  refine tw_bipush (k := 11) (6 : Int32) rfl (by decide) ?_
  refine tw_iconst (k := 12) (0 : Int32) rfl (by decide) ?_
  refine tw_callV (k := 13) (d' := 1) (mc' := 0) (ms' := 0) tw_cI tw_cIi [.int (6 : Int32), .int (0 : Int32)] rfl rfl wv_RX8_190_X10_value mo_X10_value (t := 9) rfl rfl rfl (fun Q9 => K_X10_value Q9 a1 (6 : Int32) (0 : Int32)) (by omega) (by decide) (by decide) (Nat.le_of_ble_eq_true rfl) (fun x3 => ?_)
  refine tw_ist (k := 14) [some (.ref a0), some (.ref a1), some (.int x1), some (.int x2), some (.int x3)] rfl (Nat.le_of_ble_eq_true rfl) rfl rfl ?_
  refine tw_aload_n (k := 15) rfl rfl ?_
  refine tw_iload_n (k := 16) rfl rfl ?_
  refine tw_iload_n (k := 17) rfl rfl ?_
  refine tw_aload_n (k := 18) rfl rfl ?_
  refine tw_iconst (k := 19) (2 : Int32) rfl (by decide) ?_
  refine tw_iconst (k := 20) (0 : Int32) rfl (by decide) ?_
  refine tw_callV (k := 21) (d' := 1) (mc' := 0) (ms' := 0) tw_cI tw_cIi [.int (2 : Int32), .int (0 : Int32)] rfl rfl wv_RX8_190_X10_value mo_X10_value (t := 9) rfl rfl rfl (fun Q9 => K_X10_value Q9 a1 (2 : Int32) (0 : Int32)) (by omega) (by decide) (by decide) (Nat.le_of_ble_eq_true rfl) (fun x4 => ?_)
  refine tw_callV (k := 22) (d' := 2) (mc' := 0) (ms' := 0) tw_cU tw_cUi [.int x1, .int x2, .int x4] rfl rfl wv_RX8_104_X8_setGuess mo_X8_setGuess (t := 7) rfl rfl rfl (fun Q9 => K_X8_setGuess Q9 a0 x1 x2 x4) (by omega) (by decide) (by decide) (Nat.le_of_ble_eq_true rfl) (fun u5 => ?_)
  refine tw_aload_n (k := 23) rfl rfl ?_
  refine tw_iload_n (k := 24) rfl rfl ?_
  refine tw_iload_n (k := 25) rfl rfl ?_
  refine tw_aload_n (k := 26) rfl rfl ?_
  refine tw_iconst (k := 27) (3 : Int32) rfl (by decide) ?_
  refine tw_iconst (k := 28) (0 : Int32) rfl (by decide) ?_
  refine tw_callV (k := 29) (d' := 1) (mc' := 0) (ms' := 0) tw_cI tw_cIi [.int (3 : Int32), .int (0 : Int32)] rfl rfl wv_RX8_190_X10_value mo_X10_value (t := 9) rfl rfl rfl (fun Q9 => K_X10_value Q9 a1 (3 : Int32) (0 : Int32)) (by omega) (by decide) (by decide) (Nat.le_of_ble_eq_true rfl) (fun x6 => ?_)
  refine tw_callV (k := 30) (d' := 2) (mc' := 0) (ms' := 0) tw_cU tw_cUi [.int x2, .int x1, .int x6] rfl rfl wv_RX8_104_X8_setGuess mo_X8_setGuess (t := 7) rfl rfl rfl (fun Q9 => K_X8_setGuess Q9 a0 x2 x1 x6) (by omega) (by decide) (by decide) (Nat.le_of_ble_eq_true rfl) (fun u7 => ?_)
  refine tw_aload_n (k := 31) rfl rfl ?_
  refine tw_iload_n (k := 32) rfl rfl ?_
  refine tw_iload_n (k := 33) rfl rfl ?_
  refine tw_iload (k := 34) rfl rfl ?_
  refine tw_callV (k := 35) (d' := 2) (mc' := 0) (ms' := 0) tw_cU tw_cUi [.int x1, .int x2, .int x3] rfl rfl wv_RX8_194_X8_setRung mo_X8_setRung (t := 7) rfl rfl rfl (fun Q9 => K_X8_setRung Q9 a0 x1 x2 x3) (by omega) (by decide) (by decide) (Nat.le_of_ble_eq_true rfl) (fun u8 => ?_)
  refine tw_aload_n (k := 36) rfl rfl ?_
  refine tw_iload_n (k := 37) rfl rfl ?_
  refine tw_iload_n (k := 38) rfl rfl ?_
  refine tw_iload (k := 39) rfl rfl ?_
  refine tw_callV (k := 40) (d' := 2) (mc' := 0) (ms' := 0) tw_cU tw_cUi [.int x2, .int x1, .int x3] rfl rfl wv_RX8_194_X8_setRung mo_X8_setRung (t := 7) rfl rfl rfl (fun Q9 => K_X8_setRung Q9 a0 x2 x1 x3) (by omega) (by decide) (by decide) (Nat.le_of_ble_eq_true rfl) (fun u9 => ?_)
  exact tw_return (k := 41) rfl rfl (by decide) (by decide)
