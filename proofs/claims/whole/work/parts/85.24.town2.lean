def mX8_holdMeetings : tw_MD := (yX8_holdMeetings, cX8_holdMeetings, 6, none, [(0, .aload_n 0, 1, 1), (1, .invokevirtual 178, 3, 4), (4, .istore_n 3, 1, 5), (5, .iconst 0, 1, 6), (6, .istore 4, 2, 8), (8, .iload 4, 2, 10), (10, .aload_n 0, 1, 11), (11, .getfield 60, 3, 14), (14, .if_icmp .ge 78, 3, 17), (17, .iload 4, 2, 19), (19, .iconst 1, 1, 20), (20, .iadd, 1, 21), (21, .istore 5, 2, 23), (23, .iload 5, 2, 25), (25, .aload_n 0, 1, 26), (26, .getfield 60, 3, 29), (29, .if_icmp .ge 57, 3, 32), (32, .iload_n 3, 1, 33), (33, .iload 4, 2, 35), (35, .invokestatic 83, 3, 38), (38, .ifCond .eq 42, 3, 41), (41, .iload_n 3, 1, 42), (42, .iload 5, 2, 44), (44, .invokestatic 83, 3, 47), (47, .ifCond .eq 33, 3, 50), (50, .aload_n 0, 1, 51), (51, .iload 4, 2, 53), (53, .iload 5, 2, 55), (55, .invokevirtual 91, 3, 58), (58, .ifCond .eq 22, 3, 61), (61, .aload_n 2, 1, 62), (62, .aload_n 0, 1, 63), (63, .iload 4, 2, 65), (65, .iload 5, 2, 67), (67, .invokevirtual 155, 3, 70), (70, .aload_n 2, 1, 71), (71, .aload_n 1, 1, 72), (72, .invokevirtual 182, 3, 75), (75, .aload_n 0, 1, 76), (76, .aload_n 2, 1, 77), (77, .invokevirtual 165, 3, 80), (80, .iinc 5 1, 3, 83), (83, .goto (-60), 3, 86), (86, .iinc 4 1, 3, 89), (89, .goto (-81), 3, 92), (92, .return_, 1, 93)], [])
theorem mo_X8_holdMeetings : tw_mok mX8_holdMeetings 2 := ⟨plainFor_of_name (by decide +kernel), by decide +kernel, by decide +kernel, by decide +kernel, by decide +kernel⟩
theorem dk_X8_holdMeetings : tw_dk mX8_holdMeetings := by unfold tw_dk; decide +kernel
theorem wv_RX8_165_X8_takeFrom : tw_wV RX8 165 mX8_takeFrom := ⟨List.mem_of_getElem? (i := 1504) (by decide +kernel), List.mem_of_getElem? (i := 1506) (by decide +kernel), List.mem_of_getElem? (i := 31) (by decide +kernel), List.mem_of_getElem? (i := 126) (by decide +kernel), List.mem_of_getElem? (i := 1507) (by decide +kernel)⟩
theorem wv_RX8_182_X10_meetOnce : tw_wV RX8 182 mX10_meetOnce := ⟨List.mem_of_getElem? (i := 1526) (by decide +kernel), List.mem_of_getElem? (i := 1527) (by decide +kernel), List.mem_of_getElem? (i := 1528) (by decide +kernel), List.mem_of_getElem? (i := 133) (by decide +kernel), List.mem_of_getElem? (i := 1529) (by decide +kernel)⟩
theorem wv_RX8_155_X10_see : tw_wV RX8 155 mX10_see := ⟨List.mem_of_getElem? (i := 1502) (by decide +kernel), List.mem_of_getElem? (i := 540) (by decide +kernel), List.mem_of_getElem? (i := 541) (by decide +kernel), List.mem_of_getElem? (i := 133) (by decide +kernel), List.mem_of_getElem? (i := 542) (by decide +kernel)⟩
theorem wv_RX8_178_X8_drawWhoIsOut : tw_wV RX8 178 mX8_drawWhoIsOut := ⟨List.mem_of_getElem? (i := 1517) (by decide +kernel), List.mem_of_getElem? (i := 1519) (by decide +kernel), List.mem_of_getElem? (i := 34) (by decide +kernel), List.mem_of_getElem? (i := 126) (by decide +kernel), List.mem_of_getElem? (i := 1520) (by decide +kernel)⟩
set_option maxRecDepth 20000 in
theorem K_X8_holdMeetings {g : tw_Gx} (Q : tw_Rs → tw_Mem → Prop) (a0 : Nat) (a1 : Nat) (a2 : Nat) : tw_Kt g mX8_holdMeetings 5 0 0 [.ref a0, .ref a1, .ref a2] Q (f_X8_holdMeetings a0 a1 a2 (fun v => Q (.inl none))) := by
  refine tw_mkK (L := [some (.ref a0), some (.ref a1), some (.ref a2), none, none, none]) mo_X8_holdMeetings dk_X8_holdMeetings rfl (Nat.le_of_ble_eq_true rfl) rfl ?_
  unfold f_X8_holdMeetings
  refine tw_aload_n (k := 0) rfl rfl ?_
  refine tw_callV (k := 1) (d' := 3) (mc' := 0) (ms' := 0) tw_cI tw_cIi [] rfl rfl wv_RX8_178_X8_drawWhoIsOut mo_X8_drawWhoIsOut (t := 7) rfl rfl rfl (fun Q9 => K_X8_drawWhoIsOut Q9 a0) (by omega) (by decide) (by decide) (Nat.le_of_ble_eq_true rfl) (fun x1 => ?_)
  refine tw_ist_n (k := 2) [some (.ref a0), some (.ref a1), some (.ref a2), some (.int x1), none, none] rfl (Nat.le_of_ble_eq_true rfl) rfl rfl ?_
  refine tw_iconst (k := 3) (0 : Int32) rfl (by decide) ?_
  refine tw_ist (k := 4) [some (.ref a0), some (.ref a1), some (.ref a2), some (.int x1), some (.int (0 : Int32)), none] rfl (Nat.le_of_ble_eq_true rfl) rfl rfl ?_
  refine tw_loop (fun s3 => [some (.ref a0), some (.ref a1), some (.ref a2), some (.int x1), some (.int s3), none]) (fun s3 => []) (fun r2 h2 s3 => ?_) _ rfl rfl
  refine tw_iload (k := 5) rfl rfl ?_
  refine tw_aload_n (k := 6) rfl rfl ?_
  refine tw_getI (k := 7) rfl fl_RX8_60 (fun x4 => ?_)
  refine tw_icmp_ge (k := 8) 92 rfl (by decide) ?_ ?_
  · exact tw_return (k := 45) rfl rfl (by decide) (by decide)
  · refine tw_iload (k := 9) rfl rfl ?_
    refine tw_iconst (k := 10) (1 : Int32) rfl (by decide) ?_
    refine tw_iadd (k := 11) rfl ?_
    refine tw_let (fun x5 => [some (.ref a0), some (.ref a1), some (.ref a2), some (.int x1), some (.int s3), none]) (fun x5 => .int x5 :: []) rfl rfl (fun x5 => ?_)
    refine tw_ist (k := 12) [some (.ref a0), some (.ref a1), some (.ref a2), some (.int x1), some (.int s3), some (.int x5)] rfl (Nat.le_of_ble_eq_true rfl) rfl rfl ?_
    refine tw_loop (fun s7 => [some (.ref a0), some (.ref a1), some (.ref a2), some (.int x1), some (.int s3), some (.int s7)]) (fun s7 => []) (fun r6 h6 s7 => ?_) _ rfl rfl
    refine tw_iload (k := 13) rfl rfl ?_
    refine tw_aload_n (k := 14) rfl rfl ?_
    refine tw_getI (k := 15) rfl fl_RX8_60 (fun x8 => ?_)
    refine tw_icmp_ge (k := 16) 86 rfl (by decide) ?_ ?_
    · refine tw_inc (k := 43) (1 : Int32) [some (.ref a0), some (.ref a1), some (.ref a2), some (.int x1), some (.int (s3 + (1 : Int32))), some (.int s7)] rfl rfl (by decide) (Nat.le_of_ble_eq_true rfl) rfl rfl ?_
      refine tw_goto (k := 44) 8 rfl (by decide) ?_
      exact tw_wk (L' := [some (.ref a0), some (.ref a1), some (.ref a2), some (.int x1), some (.int (s3 + (1 : Int32))), none]) ⟨Or.inr rfl, Or.inr rfl, Or.inr rfl, Or.inr rfl, Or.inr rfl, Or.inl rfl, trivial⟩ (h2 (s3 + (1 : Int32)))
    · refine tw_iload_n (k := 17) rfl rfl ?_
      refine tw_iload (k := 18) rfl rfl ?_
      refine tw_callSN (k := 19) (d' := 1) (mc' := 0) (ms' := 0) tw_cI tw_cIi [.int x1, .int s3] rfl rfl wn_RX8_83_X11_isIn mo_X11_isIn rfl (fun Q9 => K_X11_isIn Q9 x1 s3) (by omega) (by decide) (by decide) (Nat.le_of_ble_eq_true rfl) (fun x9 => ?_)
      refine tw_join 80 (fun s11 => [some (.ref a0), some (.ref a1), some (.ref a2), some (.int x1), some (.int s3), some (.int s7)]) (fun s11 => []) 0 0 (fun s11 => ?_) (fun j10 g10 => ?_)
      · refine tw_inc (k := 41) (1 : Int32) [some (.ref a0), some (.ref a1), some (.ref a2), some (.int x1), some (.int s3), some (.int (s7 + (1 : Int32)))] rfl rfl (by decide) (Nat.le_of_ble_eq_true rfl) rfl rfl ?_
        refine tw_goto (k := 42) 23 rfl (by decide) ?_
        exact h6 (s7 + (1 : Int32))
      · refine tw_if_eq (k := 20) 80 rfl (by decide) ?_ ?_
        · exact g10 ()
        · refine tw_iload_n (k := 21) rfl rfl ?_
          refine tw_iload (k := 22) rfl rfl ?_
          refine tw_callSN (k := 23) (d' := 1) (mc' := 0) (ms' := 0) tw_cI tw_cIi [.int x1, .int s7] rfl rfl wn_RX8_83_X11_isIn mo_X11_isIn rfl (fun Q9 => K_X11_isIn Q9 x1 s7) (by omega) (by decide) (by decide) (Nat.le_of_ble_eq_true rfl) (fun x12 => ?_)
          refine tw_if_eq (k := 24) 80 rfl (by decide) ?_ ?_
          · exact g10 ()
          · refine tw_aload_n (k := 25) rfl rfl ?_
            refine tw_iload (k := 26) rfl rfl ?_
            refine tw_iload (k := 27) rfl rfl ?_
            refine tw_callV (k := 28) (d' := 3) (mc' := 0) (ms' := 0) tw_cI tw_cIi [.int s3, .int s7] rfl rfl wv_RX8_91_X8_areNear mo_X8_areNear (t := 7) rfl rfl rfl (fun Q9 => K_X8_areNear Q9 a0 s3 s7) (by omega) (by decide) (by decide) (Nat.le_of_ble_eq_true rfl) (fun x13 => ?_)
            refine tw_if_eq (k := 29) 80 rfl (by decide) ?_ ?_
            · exact g10 ()
            · refine tw_aload_n (k := 30) rfl rfl ?_
              refine tw_aload_n (k := 31) rfl rfl ?_
              refine tw_iload (k := 32) rfl rfl ?_
              refine tw_iload (k := 33) rfl rfl ?_
              refine tw_callV (k := 34) (d' := 4) (mc' := 0) (ms' := 0) tw_cU tw_cUi [.ref a0, .int s3, .int s7] rfl rfl wv_RX8_155_X10_see mo_X10_see (t := 9) rfl rfl rfl (fun Q9 => K_X10_see Q9 a2 a0 s3 s7) (by omega) (by decide) (by decide) (Nat.le_of_ble_eq_true rfl) (fun u14 => ?_)
              refine tw_aload_n (k := 35) rfl rfl ?_
              refine tw_aload_n (k := 36) rfl rfl ?_
              refine tw_callV (k := 37) (d' := 4) (mc' := 0) (ms' := 0) tw_cU tw_cUi [.ref a1] rfl rfl wv_RX8_182_X10_meetOnce mo_X10_meetOnce (t := 9) rfl rfl rfl (fun Q9 => K_X10_meetOnce Q9 a2 a1) (by omega) (by decide) (by decide) (Nat.le_of_ble_eq_true rfl) (fun u15 => ?_)
              refine tw_aload_n (k := 38) rfl rfl ?_
              refine tw_aload_n (k := 39) rfl rfl ?_
              refine tw_callV (k := 40) (d' := 3) (mc' := 0) (ms' := 0) tw_cU tw_cUi [.ref a2] rfl rfl wv_RX8_165_X8_takeFrom mo_X8_takeFrom (t := 7) rfl rfl rfl (fun Q9 => K_X8_takeFrom Q9 a0 a2) (by omega) (by decide) (by decide) (Nat.le_of_ble_eq_true rfl) (fun u16 => ?_)
              exact g10 ()
def mX8_passHour : tw_MD := (yX8_passHour, cX8_passHour, 7, (some FieldType.int), [(0, .aload_n 0, 1, 1), (1, .iconst 0, 1, 2), (2, .aload_n 0, 1, 3), (3, .getfield 66, 3, 6), (6, .invokevirtual 127, 3, 9), (9, .istore 4, 2, 11), (11, .aload_n 0, 1, 12), (12, .iconst 1, 1, 13), (13, .aload_n 0, 1, 14), (14, .getfield 66, 3, 17), (17, .invokevirtual 127, 3, 20), (20, .istore 5, 2, 22), (22, .aload_n 0, 1, 23), (23, .iload 4, 2, 25), (25, .iload 5, 2, 27), (27, .invokevirtual 114, 3, 30), (30, .istore 6, 2, 32), (32, .iload 6, 2, 34), (34, .ifCond .le 24, 3, 37), (37, .aload_n 0, 1, 38), (38, .getfield 33, 3, 41), (41, .aload_n 0, 1, 42), (42, .getfield 69, 3, 45), (45, .aload_n 0, 1, 46), (46, .getfield 66, 3, 49), (49, .iload 4, 2, 51), (51, .iload 5, 2, 53), (53, .iload 6, 2, 55), (55, .invokevirtual 151, 3, 58), (58, .iload 6, 2, 60), (60, .iconst 1, 1, 61), (61, .if_icmp .le 23, 3, 64), (64, .aload_n 3, 1, 65), (65, .aload_n 0, 1, 66), (66, .iload 4, 2, 68), (68, .iload 5, 2, 70), (70, .invokevirtual 155, 3, 73), (73, .aload_n 3, 1, 74), (74, .aload_n 2, 1, 75), (75, .invokevirtual 161, 3, 78), (78, .pop, 1, 79), (79, .aload_n 0, 1, 80), (80, .aload_n 3, 1, 81), (81, .invokevirtual 165, 3, 84), (84, .aload_n 0, 1, 85), (85, .dup, 1, 86), (86, .getfield 66, 3, 89), (89, .iconst 1, 1, 90), (90, .iadd, 1, 91), (91, .putfield 66, 3, 94), (94, .aload_n 0, 1, 95), (95, .getfield 66, 3, 98), (98, .bipush 12, 2, 100), (100, .if_icmp .lt 34, 3, 103), (103, .aload_n 0, 1, 104), (104, .iconst 0, 1, 105), (105, .putfield 66, 3, 108), (108, .iload_n 1, 1, 109), (109, .ifCond .eq 9, 3, 112), (112, .aload_n 0, 1, 113), (113, .aload_n 2, 1, 114), (114, .aload_n 3, 1, 115), (115, .invokevirtual 169, 3, 118), (118, .aload_n 0, 1, 119), (119, .aload_n 0, 1, 120), (120, .getfield 69, 3, 123), (123, .iconst 1, 1, 124), (124, .iadd, 1, 125), (125, .sipush 9999, 3, 128), (128, .invokestatic 173, 3, 131), (131, .putfield 69, 3, 134), (134, .iload 6, 2, 136), (136, .ireturn, 1, 137)], [])
theorem mo_X8_passHour : tw_mok mX8_passHour 3 := ⟨plainFor_of_name (by decide +kernel), by decide +kernel, by decide +kernel, by decide +kernel, by decide +kernel⟩
theorem dk_X8_passHour : tw_dk mX8_passHour := by unfold tw_dk; decide +kernel
theorem fl_RX8_66 : tw_fl RX8 66 48 := Or.inl (List.mem_of_getElem? (i := 216) (by decide +kernel))
theorem fl_RX8_69 : tw_fl RX8 69 49 := Or.inl (List.mem_of_getElem? (i := 220) (by decide +kernel))
theorem wf_X8_passHour_69 : tw_wf mX8_passHour 69 49 := Or.inl rfl
theorem ws_RX8_173_J9_min_7cf53 : tw_wS RX8 173 mJ9_min_7cf53 := ⟨List.mem_of_getElem? (i := 1530) (by decide +kernel), List.mem_of_getElem? (i := 609) (by decide +kernel), List.mem_of_getElem? (i := 148) (by decide +kernel), List.mem_of_getElem? (i := 610) (by decide +kernel)⟩
theorem wv_RX8_169_X8_holdMeetings : tw_wV RX8 169 mX8_holdMeetings := ⟨List.mem_of_getElem? (i := 1513) (by decide +kernel), List.mem_of_getElem? (i := 1515) (by decide +kernel), List.mem_of_getElem? (i := 33) (by decide +kernel), List.mem_of_getElem? (i := 126) (by decide +kernel), List.mem_of_getElem? (i := 1516) (by decide +kernel)⟩
theorem wf_X8_passHour_66 : tw_wf mX8_passHour 66 48 := Or.inl rfl
theorem wv_RX8_161_X10_pullOnce : tw_wV RX8 161 mX10_pullOnce := ⟨List.mem_of_getElem? (i := 1503) (by decide +kernel), List.mem_of_getElem? (i := 571) (by decide +kernel), List.mem_of_getElem? (i := 572) (by decide +kernel), List.mem_of_getElem? (i := 133) (by decide +kernel), List.mem_of_getElem? (i := 573) (by decide +kernel)⟩
theorem fl_RX8_33 : tw_fl RX8 33 45 := Or.inl (List.mem_of_getElem? (i := 207) (by decide +kernel))
theorem wv_RX8_151_X2_add : tw_wV RX8 151 mX2_add := ⟨List.mem_of_getElem? (i := 1497) (by decide +kernel), List.mem_of_getElem? (i := 1498) (by decide +kernel), List.mem_of_getElem? (i := 1499) (by decide +kernel), List.mem_of_getElem? (i := 127) (by decide +kernel), List.mem_of_getElem? (i := 1500) (by decide +kernel)⟩
set_option maxRecDepth 20000 in
theorem K_X8_passHour {g : tw_Gx} (Q : tw_Rs → tw_Mem → Prop) (a0 : Nat) (a1 : Int32) (a2 : Nat) (a3 : Nat) : tw_Kt g mX8_passHour 6 0 0 [.ref a0, .int a1, .ref a2, .ref a3] Q (f_X8_passHour a0 a1 a2 a3 (fun v => Q (.inl (some (.int v))))) := by
  refine tw_mkK (L := [some (.ref a0), some (.int a1), some (.ref a2), some (.ref a3), none, none, none]) mo_X8_passHour dk_X8_passHour rfl (Nat.le_of_ble_eq_true rfl) rfl ?_
  unfold f_X8_passHour
  refine tw_aload_n (k := 0) rfl rfl ?_
  refine tw_iconst (k := 1) (0 : Int32) rfl (by decide) ?_
  refine tw_aload_n (k := 2) rfl rfl ?_
  refine tw_getI (k := 3) rfl fl_RX8_66 (fun x1 => ?_)
  refine tw_callV (k := 4) (d' := 2) (mc' := 0) (ms' := 0) tw_cI tw_cIi [.int (0 : Int32), .int x1] rfl rfl wv_RX8_127_X8_planned mo_X8_planned (t := 7) rfl rfl rfl (fun Q9 => K_X8_planned Q9 a0 (0 : Int32) x1) (by omega) (by decide) (by decide) (Nat.le_of_ble_eq_true rfl) (fun x2 => ?_)
  refine tw_ist (k := 5) [some (.ref a0), some (.int a1), some (.ref a2), some (.ref a3), some (.int x2), none, none] rfl (Nat.le_of_ble_eq_true rfl) rfl rfl ?_
  refine tw_aload_n (k := 6) rfl rfl ?_
  refine tw_iconst (k := 7) (1 : Int32) rfl (by decide) ?_
  refine tw_aload_n (k := 8) rfl rfl ?_
  refine tw_getI (k := 9) rfl fl_RX8_66 (fun x3 => ?_)
  refine tw_callV (k := 10) (d' := 2) (mc' := 0) (ms' := 0) tw_cI tw_cIi [.int (1 : Int32), .int x3] rfl rfl wv_RX8_127_X8_planned mo_X8_planned (t := 7) rfl rfl rfl (fun Q9 => K_X8_planned Q9 a0 (1 : Int32) x3) (by omega) (by decide) (by decide) (Nat.le_of_ble_eq_true rfl) (fun x4 => ?_)
  refine tw_ist (k := 11) [some (.ref a0), some (.int a1), some (.ref a2), some (.ref a3), some (.int x2), some (.int x4), none] rfl (Nat.le_of_ble_eq_true rfl) rfl rfl ?_
  refine tw_aload_n (k := 12) rfl rfl ?_
  refine tw_iload (k := 13) rfl rfl ?_
  refine tw_iload (k := 14) rfl rfl ?_
  refine tw_callV (k := 15) (d' := 3) (mc' := 0) (ms' := 0) tw_cI tw_cIi [.int x2, .int x4] rfl rfl wv_RX8_114_X8_toneOf mo_X8_toneOf (t := 7) rfl rfl rfl (fun Q9 => K_X8_toneOf Q9 a0 x2 x4) (by omega) (by decide) (by decide) (Nat.le_of_ble_eq_true rfl) (fun x5 => ?_)
  refine tw_ist (k := 16) [some (.ref a0), some (.int a1), some (.ref a2), some (.ref a3), some (.int x2), some (.int x4), some (.int x5)] rfl (Nat.le_of_ble_eq_true rfl) rfl rfl ?_
  refine tw_iload (k := 17) rfl rfl ?_
  refine tw_join 58 (fun s7 => [some (.ref a0), some (.int a1), some (.ref a2), some (.ref a3), some (.int x2), some (.int x4), some (.int x5)]) (fun s7 => []) 0 0 (fun s7 => ?_) (fun j6 g6 => ?_)
  · refine tw_iload (k := 29) rfl rfl ?_
    refine tw_iconst (k := 30) (1 : Int32) rfl (by decide) ?_
    refine tw_join 84 (fun s9 => [some (.ref a0), some (.int a1), some (.ref a2), some (.ref a3), some (.int x2), some (.int x4), some (.int x5)]) (fun s9 => []) 0 0 (fun s9 => ?_) (fun j8 g8 => ?_)
    · refine tw_aload_n (k := 44) rfl rfl ?_
      refine tw_dup (k := 45) rfl rfl ?_
      refine tw_getI (k := 46) rfl fl_RX8_66 (fun x10 => ?_)
      refine tw_iconst (k := 47) (1 : Int32) rfl (by decide) ?_
      refine tw_iadd (k := 48) rfl ?_
      refine tw_putI (k := 49) rfl fl_RX8_66 wf_X8_passHour_66 (by decide +kernel) ?_
      refine tw_aload_n (k := 50) rfl rfl ?_
      refine tw_getI (k := 51) rfl fl_RX8_66 (fun x11 => ?_)
      refine tw_bipush (k := 52) (12 : Int32) rfl (by decide) ?_
      refine tw_icmp_lt (k := 53) 134 rfl (by decide) ?_ ?_
      · refine tw_iload (k := 71) rfl rfl ?_
        exact tw_ireturn (k := 72) rfl rfl (by decide) (by decide)
      · refine tw_aload_n (k := 54) rfl rfl ?_
        refine tw_iconst (k := 55) (0 : Int32) rfl (by decide) ?_
        refine tw_putI (k := 56) rfl fl_RX8_66 wf_X8_passHour_66 (by decide +kernel) ?_
        refine tw_iload_n (k := 57) rfl rfl ?_
        refine tw_join 118 (fun s13 => [some (.ref a0), some (.int a1), some (.ref a2), some (.ref a3), some (.int x2), some (.int x4), some (.int x5)]) (fun s13 => []) 0 0 (fun s13 => ?_) (fun j12 g12 => ?_)
        · refine tw_aload_n (k := 63) rfl rfl ?_
          refine tw_aload_n (k := 64) rfl rfl ?_
          refine tw_getI (k := 65) rfl fl_RX8_69 (fun x14 => ?_)
          refine tw_iconst (k := 66) (1 : Int32) rfl (by decide) ?_
          refine tw_iadd (k := 67) rfl ?_
          refine tw_sipush (k := 68) (9999 : Int32) rfl (by decide) ?_
          refine tw_callS (k := 69) (d' := 1) (mc' := 0) (ms' := 0) tw_cI tw_cIi [.int (x14 + (1 : Int32)), .int (9999 : Int32)] rfl rfl ws_RX8_173_J9_min_7cf53 mo_J9_min_7cf53 rfl (fun Q9 => K_J9_min_7cf53 Q9 (x14 + (1 : Int32)) (9999 : Int32)) (by omega) (by decide) (by decide) (Nat.le_of_ble_eq_true rfl) (fun x15 => ?_)
          refine tw_putI (k := 70) rfl fl_RX8_69 wf_X8_passHour_69 (by decide +kernel) ?_
          refine tw_iload (k := 71) rfl rfl ?_
          exact tw_ireturn (k := 72) rfl rfl (by decide) (by decide)
        · refine tw_if_eq (k := 58) 118 rfl (by decide) ?_ ?_
          · exact g12 ()
          · refine tw_aload_n (k := 59) rfl rfl ?_
            refine tw_aload_n (k := 60) rfl rfl ?_
            refine tw_aload_n (k := 61) rfl rfl ?_
            refine tw_callV (k := 62) (d' := 5) (mc' := 0) (ms' := 0) tw_cU tw_cUi [.ref a2, .ref a3] rfl rfl wv_RX8_169_X8_holdMeetings mo_X8_holdMeetings (t := 7) rfl rfl rfl (fun Q9 => K_X8_holdMeetings Q9 a0 a2 a3) (by omega) (by decide) (by decide) (Nat.le_of_ble_eq_true rfl) (fun u16 => ?_)
            exact g12 ()
    · refine tw_icmp_le (k := 31) 84 rfl (by decide) ?_ ?_
      · exact g8 ()
      · refine tw_aload_n (k := 32) rfl rfl ?_
        refine tw_aload_n (k := 33) rfl rfl ?_
        refine tw_iload (k := 34) rfl rfl ?_
        refine tw_iload (k := 35) rfl rfl ?_
        refine tw_callV (k := 36) (d' := 4) (mc' := 0) (ms' := 0) tw_cU tw_cUi [.ref a0, .int x2, .int x4] rfl rfl wv_RX8_155_X10_see mo_X10_see (t := 9) rfl rfl rfl (fun Q9 => K_X10_see Q9 a3 a0 x2 x4) (by omega) (by decide) (by decide) (Nat.le_of_ble_eq_true rfl) (fun u17 => ?_)
        refine tw_aload_n (k := 37) rfl rfl ?_
        refine tw_aload_n (k := 38) rfl rfl ?_
        refine tw_callV (k := 39) (d' := 5) (mc' := 0) (ms' := 0) tw_cI tw_cIi [.ref a2] rfl rfl wv_RX8_161_X10_pullOnce mo_X10_pullOnce (t := 9) rfl rfl rfl (fun Q9 => K_X10_pullOnce Q9 a3 a2) (by omega) (by decide) (by decide) (Nat.le_of_ble_eq_true rfl) (fun x18 => ?_)
        refine tw_pop (k := 40) rfl rfl ?_
        refine tw_aload_n (k := 41) rfl rfl ?_
        refine tw_aload_n (k := 42) rfl rfl ?_
        refine tw_callV (k := 43) (d' := 3) (mc' := 0) (ms' := 0) tw_cU tw_cUi [.ref a3] rfl rfl wv_RX8_165_X8_takeFrom mo_X8_takeFrom (t := 7) rfl rfl rfl (fun Q9 => K_X8_takeFrom Q9 a0 a3) (by omega) (by decide) (by decide) (Nat.le_of_ble_eq_true rfl) (fun u19 => ?_)
        exact g8 ()
  · refine tw_if_le (k := 18) 58 rfl (by decide) ?_ ?_
    · exact g6 ()
    · refine tw_aload_n (k := 19) rfl rfl ?_
      refine tw_getR (k := 20) rfl fl_RX8_33 (fun x20 => ?_)
      refine tw_aload_n (k := 21) rfl rfl ?_
      refine tw_getI (k := 22) rfl fl_RX8_69 (fun x21 => ?_)
      refine tw_aload_n (k := 23) rfl rfl ?_
      refine tw_getI (k := 24) rfl fl_RX8_66 (fun x22 => ?_)
      refine tw_iload (k := 25) rfl rfl ?_
      refine tw_iload (k := 26) rfl rfl ?_
      refine tw_iload (k := 27) rfl rfl ?_
      refine tw_callV (k := 28) (d' := 2) (mc' := 0) (ms' := 0) tw_cU tw_cUi [.int x21, .int x22, .int x2, .int x4, .int x5] rfl rfl wv_RX8_151_X2_add mo_X2_add (t := 2) rfl rfl rfl (fun Q9 => K_X2_add Q9 x20 x21 x22 x2 x4 x5) (by omega) (by decide) (by decide) (Nat.le_of_ble_eq_true rfl) (fun u23 => ?_)
      exact g6 ()
def mX8_passHours : tw_MD := (yX8_passHours, cX8_passHours, 7, (some FieldType.int), [(0, .iconst 0, 1, 1), (1, .istore 5, 2, 3), (3, .iconst 0, 1, 4), (4, .istore 6, 2, 6), (6, .iload 6, 2, 8), (8, .iload_n 1, 1, 9), (9, .if_icmp .ge 24, 3, 12), (12, .aload_n 0, 1, 13), (13, .iload_n 2, 1, 14), (14, .aload_n 3, 1, 15), (15, .aload 4, 2, 17), (17, .invokevirtual 147, 3, 20), (20, .iconst 4, 1, 21), (21, .if_icmp .ne 6, 3, 24), (24, .iinc 5 1, 3, 27), (27, .iinc 6 1, 3, 30), (30, .goto (-24), 3, 33), (33, .iload 5, 2, 35), (35, .ireturn, 1, 36)], [])
theorem mo_X8_passHours : tw_mok mX8_passHours 4 := ⟨plainFor_of_name (by decide +kernel), by decide +kernel, by decide +kernel, by decide +kernel, by decide +kernel⟩
theorem dk_X8_passHours : tw_dk mX8_passHours := by unfold tw_dk; decide +kernel
theorem wv_RX8_147_X8_passHour : tw_wV RX8 147 mX8_passHour := ⟨List.mem_of_getElem? (i := 1493) (by decide +kernel), List.mem_of_getElem? (i := 1495) (by decide +kernel), List.mem_of_getElem? (i := 30) (by decide +kernel), List.mem_of_getElem? (i := 126) (by decide +kernel), List.mem_of_getElem? (i := 1496) (by decide +kernel)⟩
set_option maxRecDepth 20000 in
theorem K_X8_passHours {g : tw_Gx} (Q : tw_Rs → tw_Mem → Prop) (a0 : Nat) (a1 : Int32) (a2 : Int32) (a3 : Nat) (a4 : Nat) : tw_Kt g mX8_passHours 7 0 0 [.ref a0, .int a1, .int a2, .ref a3, .ref a4] Q (f_X8_passHours a0 a1 a2 a3 a4 (fun v => Q (.inl (some (.int v))))) := by
  refine tw_mkK (L := [some (.ref a0), some (.int a1), some (.int a2), some (.ref a3), some (.ref a4), none, none]) mo_X8_passHours dk_X8_passHours rfl (Nat.le_of_ble_eq_true rfl) rfl ?_
  unfold f_X8_passHours
  refine tw_iconst (k := 0) (0 : Int32) rfl (by decide) ?_
  refine tw_ist (k := 1) [some (.ref a0), some (.int a1), some (.int a2), some (.ref a3), some (.ref a4), some (.int (0 : Int32)), none] rfl (Nat.le_of_ble_eq_true rfl) rfl rfl ?_
  refine tw_iconst (k := 2) (0 : Int32) rfl (by decide) ?_
  refine tw_ist (k := 3) [some (.ref a0), some (.int a1), some (.int a2), some (.ref a3), some (.ref a4), some (.int (0 : Int32)), some (.int (0 : Int32))] rfl (Nat.le_of_ble_eq_true rfl) rfl rfl ?_
  refine tw_loop (fun s2 => [some (.ref a0), some (.int a1), some (.int a2), some (.ref a3), some (.ref a4), some (.int s2.1), some (.int s2.2)]) (fun s2 => []) (fun r1 h1 s2 => ?_) _ rfl rfl
  refine tw_iload (k := 4) rfl rfl ?_
  refine tw_iload_n (k := 5) rfl rfl ?_
  refine tw_icmp_ge (k := 6) 33 rfl (by decide) ?_ ?_
  · refine tw_iload (k := 17) rfl rfl ?_
    exact tw_ireturn (k := 18) rfl rfl (by decide) (by decide)
  · refine tw_aload_n (k := 7) rfl rfl ?_
    refine tw_iload_n (k := 8) rfl rfl ?_
    refine tw_aload_n (k := 9) rfl rfl ?_
    refine tw_aload (k := 10) rfl rfl ?_
    refine tw_callV (k := 11) (d' := 6) (mc' := 0) (ms' := 0) tw_cI tw_cIi [.int a2, .ref a3, .ref a4] rfl rfl wv_RX8_147_X8_passHour mo_X8_passHour (t := 7) rfl rfl rfl (fun Q9 => K_X8_passHour Q9 a0 a2 a3 a4) (by omega) (by decide) (by decide) (Nat.le_of_ble_eq_true rfl) (fun x3 => ?_)
    refine tw_iconst (k := 12) (4 : Int32) rfl (by decide) ?_
    refine tw_join 27 (fun s5 => [some (.ref a0), some (.int a1), some (.int a2), some (.ref a3), some (.ref a4), some (.int s5), some (.int s2.2)]) (fun s5 => []) 0 0 (fun s5 => ?_) (fun j4 g4 => ?_)
    · refine tw_inc (k := 15) (1 : Int32) [some (.ref a0), some (.int a1), some (.int a2), some (.ref a3), some (.ref a4), some (.int s5), some (.int (s2.2 + (1 : Int32)))] rfl rfl (by decide) (Nat.le_of_ble_eq_true rfl) rfl rfl ?_
      refine tw_goto (k := 16) 6 rfl (by decide) ?_
      exact h1 (s5, s2.2 + (1 : Int32))
    · refine tw_icmp_ne (k := 13) 27 rfl (by decide) ?_ ?_
      · exact g4 s2.1
      · refine tw_inc (k := 14) (1 : Int32) [some (.ref a0), some (.int a1), some (.int a2), some (.ref a3), some (.ref a4), some (.int (s2.1 + (1 : Int32))), some (.int s2.2)] rfl rfl (by decide) (Nat.le_of_ble_eq_true rfl) rfl rfl ?_
        exact g4 (s2.1 + (1 : Int32))
def mX8_take : tw_MD := (yX8_take, cX8_take, 2, none, [(0, .aload_n 1, 1, 1), (1, .getfield 9, 3, 4), (4, .iconst 0, 1, 5), (5, .aload_n 0, 1, 6), (6, .getfield 9, 3, 9), (9, .iconst 0, 1, 10), (10, .bipush 8, 2, 12), (12, .invokestatic 50, 3, 15), (15, .aload_n 1, 1, 16), (16, .getfield 15, 3, 19), (19, .iconst 0, 1, 20), (20, .aload_n 0, 1, 21), (21, .getfield 15, 3, 24), (24, .iconst 0, 1, 25), (25, .bipush 8, 2, 27), (27, .invokestatic 50, 3, 30), (30, .aload_n 1, 1, 31), (31, .getfield 18, 3, 34), (34, .iconst 0, 1, 35), (35, .aload_n 0, 1, 36), (36, .getfield 18, 3, 39), (39, .iconst 0, 1, 40), (40, .bipush 8, 2, 42), (42, .invokestatic 50, 3, 45), (45, .aload_n 1, 1, 46), (46, .getfield 21, 3, 49), (49, .iconst 0, 1, 50), (50, .aload_n 0, 1, 51), (51, .getfield 21, 3, 54), (54, .iconst 0, 1, 55), (55, .bipush 64, 2, 57), (57, .invokestatic 50, 3, 60), (60, .aload_n 1, 1, 61), (61, .getfield 24, 3, 64), (64, .iconst 0, 1, 65), (65, .aload_n 0, 1, 66), (66, .getfield 24, 3, 69), (69, .iconst 0, 1, 70), (70, .bipush 64, 2, 72), (72, .invokestatic 50, 3, 75), (75, .aload_n 1, 1, 76), (76, .getfield 27, 3, 79), (79, .iconst 0, 1, 80), (80, .aload_n 0, 1, 81), (81, .getfield 27, 3, 84), (84, .iconst 0, 1, 85), (85, .bipush 24, 2, 87), (87, .invokestatic 50, 3, 90), (90, .aload_n 0, 1, 91), (91, .getfield 33, 3, 94), (94, .aload_n 1, 1, 95), (95, .getfield 33, 3, 98), (98, .invokevirtual 56, 3, 101), (101, .aload_n 0, 1, 102), (102, .aload_n 1, 1, 103), (103, .getfield 60, 3, 106), (106, .putfield 60, 3, 109), (109, .aload_n 0, 1, 110), (110, .aload_n 1, 1, 111), (111, .getfield 63, 3, 114), (114, .putfield 63, 3, 117), (117, .aload_n 0, 1, 118), (118, .aload_n 1, 1, 119), (119, .getfield 66, 3, 122), (122, .putfield 66, 3, 125), (125, .aload_n 0, 1, 126), (126, .aload_n 1, 1, 127), (127, .getfield 69, 3, 130), (130, .putfield 69, 3, 133), (133, .aload_n 0, 1, 134), (134, .aload_n 1, 1, 135), (135, .getfield 37, 3, 138), (138, .putfield 37, 3, 141), (141, .aload_n 0, 1, 142), (142, .aload_n 1, 1, 143), (143, .getfield 41, 3, 146), (146, .putfield 41, 3, 149), (149, .aload_n 0, 1, 150), (150, .aload_n 1, 1, 151), (151, .getfield 72, 3, 154), (154, .putfield 72, 3, 157), (157, .return_, 1, 158)], [])
theorem mo_X8_take : tw_mok mX8_take 1 := ⟨plainFor_of_name (by decide +kernel), by decide +kernel, by decide +kernel, by decide +kernel, by decide +kernel⟩
theorem dk_X8_take : tw_dk mX8_take := by unfold tw_dk; decide +kernel
theorem km_RX8_50 : Cond.methodLink RX8 50 arraycopyName ∈ lw_tbl := List.mem_of_getElem? (i := 831) (by decide +kernel)
theorem fl_RX8_72 : tw_fl RX8 72 52 := Or.inl (List.mem_of_getElem? (i := 230) (by decide +kernel))
theorem wf_X8_take_72 : tw_wf mX8_take 72 52 := Or.inl rfl
theorem wf_X8_take_41 : tw_wf mX8_take 41 51 := Or.inl rfl
theorem wf_X8_take_37 : tw_wf mX8_take 37 50 := Or.inl rfl
theorem wf_X8_take_69 : tw_wf mX8_take 69 49 := Or.inl rfl
theorem wf_X8_take_66 : tw_wf mX8_take 66 48 := Or.inl rfl
theorem wf_X8_take_63 : tw_wf mX8_take 63 47 := Or.inl rfl
theorem wf_X8_take_60 : tw_wf mX8_take 60 46 := Or.inl rfl
theorem wv_RX8_56_X2_take : tw_wV RX8 56 mX2_take := ⟨List.mem_of_getElem? (i := 834) (by decide +kernel), List.mem_of_getElem? (i := 835) (by decide +kernel), List.mem_of_getElem? (i := 836) (by decide +kernel), List.mem_of_getElem? (i := 127) (by decide +kernel), List.mem_of_getElem? (i := 837) (by decide +kernel)⟩
set_option maxRecDepth 20000 in
theorem K_X8_take {g : tw_Gx} (Q : tw_Rs → tw_Mem → Prop) (a0 : Nat) (a1 : Nat) : tw_Kt g mX8_take 2 0 0 [.ref a0, .ref a1] Q (f_X8_take a0 a1 (fun v => Q (.inl none))) := by
  refine tw_mkK (L := [some (.ref a0), some (.ref a1)]) mo_X8_take dk_X8_take rfl (Nat.le_of_ble_eq_true rfl) rfl ?_
  unfold f_X8_take
  refine tw_aload_n (k := 0) rfl rfl ?_
  refine tw_getR (k := 1) rfl fl_RX8_9 (fun x1 => ?_)
  refine tw_iconst (k := 2) (0 : Int32) rfl (by decide) ?_
  refine tw_aload_n (k := 3) rfl rfl ?_
  refine tw_getR (k := 4) rfl fl_RX8_9 (fun x2 => ?_)
  refine tw_iconst (k := 5) (0 : Int32) rfl (by decide) ?_
  refine tw_bipush (k := 6) (8 : Int32) rfl (by decide) ?_
  refine tw_copy (k := 7) rfl km_RX8_50 kan kas kai (by omega) (Nat.le_of_ble_eq_true rfl) ?_
  refine tw_aload_n (k := 8) rfl rfl ?_
  refine tw_getR (k := 9) rfl fl_RX8_15 (fun x3 => ?_)
  refine tw_iconst (k := 10) (0 : Int32) rfl (by decide) ?_
  refine tw_aload_n (k := 11) rfl rfl ?_
  refine tw_getR (k := 12) rfl fl_RX8_15 (fun x4 => ?_)
  refine tw_iconst (k := 13) (0 : Int32) rfl (by decide) ?_
  refine tw_bipush (k := 14) (8 : Int32) rfl (by decide) ?_
  refine tw_copy (k := 15) rfl km_RX8_50 kan kas kai (by omega) (Nat.le_of_ble_eq_true rfl) ?_
  refine tw_aload_n (k := 16) rfl rfl ?_
  refine tw_getR (k := 17) rfl fl_RX8_18 (fun x5 => ?_)
  refine tw_iconst (k := 18) (0 : Int32) rfl (by decide) ?_
  refine tw_aload_n (k := 19) rfl rfl ?_
  refine tw_getR (k := 20) rfl fl_RX8_18 (fun x6 => ?_)
  refine tw_iconst (k := 21) (0 : Int32) rfl (by decide) ?_
  refine tw_bipush (k := 22) (8 : Int32) rfl (by decide) ?_
  refine tw_copy (k := 23) rfl km_RX8_50 kan kas kai (by omega) (Nat.le_of_ble_eq_true rfl) ?_
  refine tw_aload_n (k := 24) rfl rfl ?_
  refine tw_getR (k := 25) rfl fl_RX8_21 (fun x7 => ?_)
  refine tw_iconst (k := 26) (0 : Int32) rfl (by decide) ?_
  refine tw_aload_n (k := 27) rfl rfl ?_
  refine tw_getR (k := 28) rfl fl_RX8_21 (fun x8 => ?_)
  refine tw_iconst (k := 29) (0 : Int32) rfl (by decide) ?_
  refine tw_bipush (k := 30) (64 : Int32) rfl (by decide) ?_
  refine tw_copy (k := 31) rfl km_RX8_50 kan kas kai (by omega) (Nat.le_of_ble_eq_true rfl) ?_
  refine tw_aload_n (k := 32) rfl rfl ?_
  refine tw_getR (k := 33) rfl fl_RX8_24 (fun x9 => ?_)
  refine tw_iconst (k := 34) (0 : Int32) rfl (by decide) ?_
  refine tw_aload_n (k := 35) rfl rfl ?_
  refine tw_getR (k := 36) rfl fl_RX8_24 (fun x10 => ?_)
  refine tw_iconst (k := 37) (0 : Int32) rfl (by decide) ?_
  refine tw_bipush (k := 38) (64 : Int32) rfl (by decide) ?_
  refine tw_copy (k := 39) rfl km_RX8_50 kan kas kai (by omega) (Nat.le_of_ble_eq_true rfl) ?_
  refine tw_aload_n (k := 40) rfl rfl ?_
  refine tw_getR (k := 41) rfl fl_RX8_27 (fun x11 => ?_)
  refine tw_iconst (k := 42) (0 : Int32) rfl (by decide) ?_
  refine tw_aload_n (k := 43) rfl rfl ?_
  refine tw_getR (k := 44) rfl fl_RX8_27 (fun x12 => ?_)
  refine tw_iconst (k := 45) (0 : Int32) rfl (by decide) ?_
  refine tw_bipush (k := 46) (24 : Int32) rfl (by decide) ?_
  refine tw_copy (k := 47) rfl km_RX8_50 kan kas kai (by omega) (Nat.le_of_ble_eq_true rfl) ?_
  refine tw_aload_n (k := 48) rfl rfl ?_
  refine tw_getR (k := 49) rfl fl_RX8_33 (fun x13 => ?_)
  refine tw_aload_n (k := 50) rfl rfl ?_
  refine tw_getR (k := 51) rfl fl_RX8_33 (fun x14 => ?_)
  refine tw_callV (k := 52) (d' := 1) (mc' := 0) (ms' := 0) tw_cU tw_cUi [.ref x14] rfl rfl wv_RX8_56_X2_take mo_X2_take (t := 2) rfl rfl rfl (fun Q9 => K_X2_take Q9 x13 x14) (by omega) (by decide) (by decide) (Nat.le_of_ble_eq_true rfl) (fun u15 => ?_)
  refine tw_aload_n (k := 53) rfl rfl ?_
  refine tw_aload_n (k := 54) rfl rfl ?_
  refine tw_getI (k := 55) rfl fl_RX8_60 (fun x16 => ?_)
  refine tw_putI (k := 56) rfl fl_RX8_60 wf_X8_take_60 (by decide +kernel) ?_
  refine tw_aload_n (k := 57) rfl rfl ?_
  refine tw_aload_n (k := 58) rfl rfl ?_
  refine tw_getI (k := 59) rfl fl_RX8_63 (fun x17 => ?_)
  refine tw_putI (k := 60) rfl fl_RX8_63 wf_X8_take_63 (by decide +kernel) ?_
  refine tw_aload_n (k := 61) rfl rfl ?_
  refine tw_aload_n (k := 62) rfl rfl ?_
  refine tw_getI (k := 63) rfl fl_RX8_66 (fun x18 => ?_)
  refine tw_putI (k := 64) rfl fl_RX8_66 wf_X8_take_66 (by decide +kernel) ?_
  refine tw_aload_n (k := 65) rfl rfl ?_
  refine tw_aload_n (k := 66) rfl rfl ?_
  refine tw_getI (k := 67) rfl fl_RX8_69 (fun x19 => ?_)
  refine tw_putI (k := 68) rfl fl_RX8_69 wf_X8_take_69 (by decide +kernel) ?_
  refine tw_aload_n (k := 69) rfl rfl ?_
  refine tw_aload_n (k := 70) rfl rfl ?_
  refine tw_getI (k := 71) rfl fl_RX8_37 (fun x20 => ?_)
  refine tw_putI (k := 72) rfl fl_RX8_37 wf_X8_take_37 (by decide +kernel) ?_
  refine tw_aload_n (k := 73) rfl rfl ?_
  refine tw_aload_n (k := 74) rfl rfl ?_
  refine tw_getI (k := 75) rfl fl_RX8_41 (fun x21 => ?_)
  refine tw_putI (k := 76) rfl fl_RX8_41 wf_X8_take_41 (by decide +kernel) ?_
  refine tw_aload_n (k := 77) rfl rfl ?_
  refine tw_aload_n (k := 78) rfl rfl ?_
  refine tw_getI (k := 79) rfl fl_RX8_72 (fun x22 => ?_)
  refine tw_putI (k := 80) rfl fl_RX8_72 wf_X8_take_72 (by decide +kernel) ?_
  exact tw_return (k := 81) rfl rfl (by decide) (by decide)
def mX8_init : tw_MD := (yX8_init, cX8_init, 1, none, [(0, .aload_n 0, 1, 1), (1, .invokespecial 3, 3, 4), (4, .aload_n 0, 1, 5), (5, .bipush 8, 2, 7), (7, .newarray .int, 2, 9), (9, .putfield 9, 3, 12), (12, .aload_n 0, 1, 13), (13, .bipush 8, 2, 15), (15, .newarray .int, 2, 17), (17, .putfield 15, 3, 20), (20, .aload_n 0, 1, 21), (21, .bipush 8, 2, 23), (23, .newarray .int, 2, 25), (25, .putfield 18, 3, 28), (28, .aload_n 0, 1, 29), (29, .bipush 64, 2, 31), (31, .newarray .int, 2, 33), (33, .putfield 21, 3, 36), (36, .aload_n 0, 1, 37), (37, .bipush 64, 2, 39), (39, .newarray .int, 2, 41), (41, .putfield 24, 3, 44), (44, .aload_n 0, 1, 45), (45, .bipush 24, 2, 47), (47, .newarray .int, 2, 49), (49, .putfield 27, 3, 52), (52, .aload_n 0, 1, 53), (53, .new 30, 3, 56), (56, .dup, 1, 57), (57, .invokespecial 32, 3, 60), (60, .putfield 33, 3, 63), (63, .aload_n 0, 1, 64), (64, .iconst 5, 1, 65), (65, .putfield 37, 3, 68), (68, .aload_n 0, 1, 69), (69, .iconst 1, 1, 70), (70, .putfield 41, 3, 73), (73, .aload_n 0, 1, 74), (74, .getfield 27, 3, 77), (77, .iconst (-1), 1, 78), (78, .invokestatic 44, 3, 81), (81, .return_, 1, 82)], [])
theorem mo_X8_init : tw_mok mX8_init 0 := ⟨plainFor_of_name (by decide +kernel), by decide +kernel, by decide +kernel, by decide +kernel, by decide +kernel⟩
theorem dk_X8_init : tw_dk mX8_init := by unfold tw_dk; decide +kernel
theorem km_RX8_3 : Cond.methodLink RX8 3 Lib.objectInit ∈ lw_tbl := List.mem_of_getElem? (i := 180) (by decide +kernel)
theorem ws_RX8_44_J7_fill_53178 : tw_wS RX8 44 mJ7_fill_53178 := ⟨List.mem_of_getElem? (i := 198) (by decide +kernel), List.mem_of_getElem? (i := 199) (by decide +kernel), List.mem_of_getElem? (i := 128) (by decide +kernel), List.mem_of_getElem? (i := 200) (by decide +kernel)⟩
theorem wf_X8_init_41 : tw_wf mX8_init 41 51 := Or.inl rfl
theorem wf_X8_init_37 : tw_wf mX8_init 37 50 := Or.inl rfl
theorem wf_X8_init_33 : tw_wf mX8_init 33 45 := Or.inr ⟨by decide +kernel, by decide +kernel, List.mem_of_getElem? (i := 207) (by decide +kernel)⟩
theorem wn_RX8_32_X2_init : tw_wIN RX8 32 mX2_init "TwinRopes" := ⟨List.mem_of_getElem? (i := 183) (by decide +kernel), List.mem_of_getElem? (i := 184) (by decide +kernel), List.mem_of_getElem? (i := 127) (by decide +kernel), List.mem_of_getElem? (i := 185) (by decide +kernel)⟩
theorem kcl_RX8_30 : Cond.classLink RX8 30 RX2 ∈ lw_tbl := List.mem_of_getElem? (i := 181) (by decide +kernel)
theorem wf_X8_init_27 : tw_wf mX8_init 27 44 := Or.inr ⟨by decide +kernel, by decide +kernel, List.mem_of_getElem? (i := 206) (by decide +kernel)⟩
theorem wf_X8_init_24 : tw_wf mX8_init 24 43 := Or.inr ⟨by decide +kernel, by decide +kernel, List.mem_of_getElem? (i := 205) (by decide +kernel)⟩
theorem wf_X8_init_21 : tw_wf mX8_init 21 42 := Or.inr ⟨by decide +kernel, by decide +kernel, List.mem_of_getElem? (i := 204) (by decide +kernel)⟩
theorem wf_X8_init_18 : tw_wf mX8_init 18 41 := Or.inr ⟨by decide +kernel, by decide +kernel, List.mem_of_getElem? (i := 203) (by decide +kernel)⟩
theorem wf_X8_init_15 : tw_wf mX8_init 15 40 := Or.inr ⟨by decide +kernel, by decide +kernel, List.mem_of_getElem? (i := 202) (by decide +kernel)⟩
theorem wf_X8_init_9 : tw_wf mX8_init 9 39 := Or.inr ⟨by decide +kernel, by decide +kernel, List.mem_of_getElem? (i := 201) (by decide +kernel)⟩
set_option maxRecDepth 20000 in
theorem K_X8_init {g : tw_Gx} (Q : tw_Rs → tw_Mem → Prop) (a0 : Nat) : tw_Kt g mX8_init 2 8 239 [.ref a0] Q (f_X8_init a0 (fun v => Q (.inl none))) := by
  refine tw_mkK (L := [some (.ref a0)]) mo_X8_init dk_X8_init rfl (Nat.le_of_ble_eq_true rfl) rfl ?_
  unfold f_X8_init
  refine tw_aload_n (k := 0) rfl rfl ?_
  refine tw_objInit (k := 1) rfl km_RX8_3 koi koc (by omega) (Nat.le_of_ble_eq_true rfl) ?_
  refine tw_aload_n (k := 2) rfl rfl ?_
  refine tw_bipush (k := 3) (8 : Int32) rfl (by decide) ?_
  refine tw_newI (k := 4) 8 rfl ka_int (by decide) (by decide) (by decide) (fun b1 => ?_)
  refine tw_putR (k := 5) (ty := (.array .int)) rfl fl_RX8_9 wf_X8_init_9 (by decide +kernel) rfl rfl ?_
  refine tw_aload_n (k := 6) rfl rfl ?_
  refine tw_bipush (k := 7) (8 : Int32) rfl (by decide) ?_
  refine tw_newI (k := 8) 8 rfl ka_int (by decide) (by decide) (by decide) (fun b2 => ?_)
  refine tw_putR (k := 9) (ty := (.array .int)) rfl fl_RX8_15 wf_X8_init_15 (by decide +kernel) rfl rfl ?_
  refine tw_aload_n (k := 10) rfl rfl ?_
  refine tw_bipush (k := 11) (8 : Int32) rfl (by decide) ?_
  refine tw_newI (k := 12) 8 rfl ka_int (by decide) (by decide) (by decide) (fun b3 => ?_)
  refine tw_putR (k := 13) (ty := (.array .int)) rfl fl_RX8_18 wf_X8_init_18 (by decide +kernel) rfl rfl ?_
  refine tw_aload_n (k := 14) rfl rfl ?_
  refine tw_bipush (k := 15) (64 : Int32) rfl (by decide) ?_
  refine tw_newI (k := 16) 64 rfl ka_int (by decide) (by decide) (by decide) (fun b4 => ?_)
  refine tw_putR (k := 17) (ty := (.array .int)) rfl fl_RX8_21 wf_X8_init_21 (by decide +kernel) rfl rfl ?_
  refine tw_aload_n (k := 18) rfl rfl ?_
  refine tw_bipush (k := 19) (64 : Int32) rfl (by decide) ?_
  refine tw_newI (k := 20) 64 rfl ka_int (by decide) (by decide) (by decide) (fun b5 => ?_)
  refine tw_putR (k := 21) (ty := (.array .int)) rfl fl_RX8_24 wf_X8_init_24 (by decide +kernel) rfl rfl ?_
  refine tw_aload_n (k := 22) rfl rfl ?_
  refine tw_bipush (k := 23) (24 : Int32) rfl (by decide) ?_
  refine tw_newI (k := 24) 24 rfl ka_int (by decide) (by decide) (by decide) (fun b6 => ?_)
  refine tw_putR (k := 25) (ty := (.array .int)) rfl fl_RX8_27 wf_X8_init_27 (by decide +kernel) rfl rfl ?_
  refine tw_aload_n (k := 26) rfl rfl ?_
  refine tw_new (k := 27) 2 rfl rfl kcl_RX8_30 (by decide) (by decide) (fun b7 => ?_)
  refine tw_dup (k := 28) rfl rfl ?_
  refine tw_callIN (k := 29) (d' := 1) (mc' := 1) (ms' := 60) [] rfl rfl wn_RX8_32_X2_init mo_X2_init rfl rfl rfl (fun Q9 => K_X2_init Q9 b7) (by omega) (by decide) (by decide) (Nat.le_of_ble_eq_true rfl) ?_
  refine tw_putR (k := 30) (ty := (.object "TwinRopes$Log")) rfl fl_RX8_33 wf_X8_init_33 (by decide +kernel) rfl rfl ?_
  refine tw_aload_n (k := 31) rfl rfl ?_
  refine tw_iconst (k := 32) (5 : Int32) rfl (by decide) ?_
  refine tw_putI (k := 33) rfl fl_RX8_37 wf_X8_init_37 (by decide +kernel) ?_
  refine tw_aload_n (k := 34) rfl rfl ?_
  refine tw_iconst (k := 35) (1 : Int32) rfl (by decide) ?_
  refine tw_putI (k := 36) rfl fl_RX8_41 wf_X8_init_41 (by decide +kernel) ?_
  refine tw_aload_n (k := 37) rfl rfl ?_
  refine tw_getR (k := 38) rfl fl_RX8_27 (fun x9 => ?_)
  refine tw_iconst (k := 39) (-1 : Int32) rfl (by decide) ?_
  refine tw_callS (k := 40) (d' := 1) (mc' := 0) (ms' := 0) tw_cU tw_cUi [.ref x9, .int (-1 : Int32)] rfl rfl ws_RX8_44_J7_fill_53178 mo_J7_fill_53178 rfl (fun Q9 => K_J7_fill_53178 Q9 x9 (-1 : Int32)) (by omega) (by decide) (by decide) (Nat.le_of_ble_eq_true rfl) (fun u10 => ?_)
  exact tw_return (k := 41) rfl rfl (by decide) (by decide)
def mX3_init : tw_MD := (yX3_init, cX3_init, 2, none, [(0, .aload_n 0, 1, 1), (1, .invokespecial 1, 3, 4), (4, .aload_n 0, 1, 5), (5, .bipush 12, 2, 7), (7, .anewarray 9, 3, 10), (10, .putfield 11, 3, 13), (13, .iconst 0, 1, 14), (14, .istore_n 1, 1, 15), (15, .iload_n 1, 1, 16), (16, .bipush 12, 2, 18), (18, .if_icmp .ge 22, 3, 21), (21, .aload_n 0, 1, 22), (22, .getfield 11, 3, 25), (25, .iload_n 1, 1, 26), (26, .new 9, 3, 29), (29, .dup, 1, 30), (30, .invokespecial 15, 3, 33), (33, .aastore, 1, 34), (34, .iinc 1 1, 3, 37), (37, .goto (-22), 3, 40), (40, .return_, 1, 41)], [])
theorem mo_X3_init : tw_mok mX3_init 0 := ⟨plainFor_of_name (by decide +kernel), by decide +kernel, by decide +kernel, by decide +kernel, by decide +kernel⟩
theorem dk_X3_init : tw_dk mX3_init := by unfold tw_dk; decide +kernel
theorem km_RX3_1 : Cond.methodLink RX3 1 Lib.objectInit ∈ lw_tbl := List.mem_of_getElem? (i := 266) (by decide +kernel)
theorem fl_RX3_11 : tw_fl RX3 11 22 := Or.inl (List.mem_of_getElem? (i := 270) (by decide +kernel))
theorem wi_RX3_15_X8_init : tw_wI RX3 15 mX8_init := ⟨List.mem_of_getElem? (i := 269) (by decide +kernel), List.mem_of_getElem? (i := 178) (by decide +kernel), List.mem_of_getElem? (i := 126) (by decide +kernel), List.mem_of_getElem? (i := 179) (by decide +kernel)⟩
theorem kcl_RX3_9 : Cond.classLink RX3 9 RX8 ∈ lw_tbl := List.mem_of_getElem? (i := 267) (by decide +kernel)
theorem wf_X3_init_11 : tw_wf mX3_init 11 22 := Or.inr ⟨by decide +kernel, by decide +kernel, List.mem_of_getElem? (i := 270) (by decide +kernel)⟩
theorem kov : Cond.arrayOver (.object RX8) ∈ lw_tbl := List.mem_of_getElem? (i := 268) (by decide +kernel)
set_option maxRecDepth 20000 in
theorem K_X3_init {g : tw_Gx} (Q : tw_Rs → tw_Mem → Prop) (a0 : Nat) : tw_Kt g mX3_init 3 109 3048 [.ref a0] Q (f_X3_init a0 (fun v => Q (.inl none))) := by
  refine tw_mkK (L := [some (.ref a0), none]) mo_X3_init dk_X3_init rfl (Nat.le_of_ble_eq_true rfl) rfl ?_
  unfold f_X3_init
  refine tw_aload_n (k := 0) rfl rfl ?_
  refine tw_objInit (k := 1) rfl km_RX3_1 koi koc (by omega) (Nat.le_of_ble_eq_true rfl) ?_
  refine tw_aload_n (k := 2) rfl rfl ?_
  refine tw_bipush (k := 3) (12 : Int32) rfl (by decide) ?_
  refine tw_newT (k := 4) 12 rfl kcl_RX3_9 (by decide) (by decide) (by decide) kov (fun b1 => ?_)
  refine tw_putR (k := 5) (ty := (.array (.object "TwinRopes$Town"))) rfl fl_RX3_11 wf_X3_init_11 (by decide +kernel) rfl rfl ?_
  refine tw_iconst (k := 6) (0 : Int32) rfl (by decide) ?_
  refine tw_ist_n (k := 7) [some (.ref a0), some (.int (0 : Int32))] rfl (Nat.le_of_ble_eq_true rfl) rfl rfl ?_
  refine tw_iload_n (k := 8) rfl rfl ?_
  refine tw_bipush (k := 9) (12 : Int32) rfl (by decide) ?_
  refine tw_icmp_ge_f (k := 10) 40 rfl (by decide) (by decide) ?_
  refine tw_aload_n (k := 11) rfl rfl ?_
  refine tw_getR (k := 12) rfl fl_RX3_11 (fun x2 => ?_)
  refine tw_iload_n (k := 13) rfl rfl ?_
  refine tw_new (k := 14) 7 rfl rfl kcl_RX3_9 (by decide) (by decide) (fun b3 => ?_)
  refine tw_dup (k := 15) rfl rfl ?_
  refine tw_callI (k := 16) (d' := 2) (mc' := 8) (ms' := 239) [] rfl rfl wi_RX3_15_X8_init mo_X8_init rfl rfl rfl (fun Q9 => K_X8_init Q9 b3) (by omega) (by decide) (by decide) (Nat.le_of_ble_eq_true rfl) ?_
  refine tw_aastore (k := 17) rfl ?_
  refine tw_inc (k := 18) (1 : Int32) [some (.ref a0), some (.int ((0 : Int32) + (1 : Int32)))] rfl rfl (by decide) (Nat.le_of_ble_eq_true rfl) rfl rfl ?_
  refine tw_goto (k := 19) 15 rfl (by decide) ?_
  refine tw_iload_n (k := 8) rfl rfl ?_
  refine tw_bipush (k := 9) (12 : Int32) rfl (by decide) ?_
  refine tw_icmp_ge_f (k := 10) 40 rfl (by decide) (by decide) ?_
  refine tw_aload_n (k := 11) rfl rfl ?_
  refine tw_getR (k := 12) rfl fl_RX3_11 (fun x5 => ?_)
  refine tw_iload_n (k := 13) rfl rfl ?_
  refine tw_new (k := 14) 7 rfl rfl kcl_RX3_9 (by decide) (by decide) (fun b6 => ?_)
  refine tw_dup (k := 15) rfl rfl ?_
  refine tw_callI (k := 16) (d' := 2) (mc' := 8) (ms' := 239) [] rfl rfl wi_RX3_15_X8_init mo_X8_init rfl rfl rfl (fun Q9 => K_X8_init Q9 b6) (by omega) (by decide) (by decide) (Nat.le_of_ble_eq_true rfl) ?_
  refine tw_aastore (k := 17) rfl ?_
  refine tw_inc (k := 18) (1 : Int32) [some (.ref a0), some (.int (((0 : Int32) + (1 : Int32)) + (1 : Int32)))] rfl rfl (by decide) (Nat.le_of_ble_eq_true rfl) rfl rfl ?_
  refine tw_goto (k := 19) 15 rfl (by decide) ?_
  refine tw_iload_n (k := 8) rfl rfl ?_
  refine tw_bipush (k := 9) (12 : Int32) rfl (by decide) ?_
  refine tw_icmp_ge_f (k := 10) 40 rfl (by decide) (by decide) ?_
  refine tw_aload_n (k := 11) rfl rfl ?_
  refine tw_getR (k := 12) rfl fl_RX3_11 (fun x8 => ?_)
  refine tw_iload_n (k := 13) rfl rfl ?_
  refine tw_new (k := 14) 7 rfl rfl kcl_RX3_9 (by decide) (by decide) (fun b9 => ?_)
  refine tw_dup (k := 15) rfl rfl ?_
  refine tw_callI (k := 16) (d' := 2) (mc' := 8) (ms' := 239) [] rfl rfl wi_RX3_15_X8_init mo_X8_init rfl rfl rfl (fun Q9 => K_X8_init Q9 b9) (by omega) (by decide) (by decide) (Nat.le_of_ble_eq_true rfl) ?_
  refine tw_aastore (k := 17) rfl ?_
  refine tw_inc (k := 18) (1 : Int32) [some (.ref a0), some (.int ((((0 : Int32) + (1 : Int32)) + (1 : Int32)) + (1 : Int32)))] rfl rfl (by decide) (Nat.le_of_ble_eq_true rfl) rfl rfl ?_
  refine tw_goto (k := 19) 15 rfl (by decide) ?_
  refine tw_iload_n (k := 8) rfl rfl ?_
  refine tw_bipush (k := 9) (12 : Int32) rfl (by decide) ?_
  refine tw_icmp_ge_f (k := 10) 40 rfl (by decide) (by decide) ?_
  refine tw_aload_n (k := 11) rfl rfl ?_
  refine tw_getR (k := 12) rfl fl_RX3_11 (fun x11 => ?_)
  refine tw_iload_n (k := 13) rfl rfl ?_
  refine tw_new (k := 14) 7 rfl rfl kcl_RX3_9 (by decide) (by decide) (fun b12 => ?_)
  refine tw_dup (k := 15) rfl rfl ?_
  refine tw_callI (k := 16) (d' := 2) (mc' := 8) (ms' := 239) [] rfl rfl wi_RX3_15_X8_init mo_X8_init rfl rfl rfl (fun Q9 => K_X8_init Q9 b12) (by omega) (by decide) (by decide) (Nat.le_of_ble_eq_true rfl) ?_
  refine tw_aastore (k := 17) rfl ?_
  refine tw_inc (k := 18) (1 : Int32) [some (.ref a0), some (.int (((((0 : Int32) + (1 : Int32)) + (1 : Int32)) + (1 : Int32)) + (1 : Int32)))] rfl rfl (by decide) (Nat.le_of_ble_eq_true rfl) rfl rfl ?_
  refine tw_goto (k := 19) 15 rfl (by decide) ?_
  refine tw_iload_n (k := 8) rfl rfl ?_
  refine tw_bipush (k := 9) (12 : Int32) rfl (by decide) ?_
  refine tw_icmp_ge_f (k := 10) 40 rfl (by decide) (by decide) ?_
  refine tw_aload_n (k := 11) rfl rfl ?_
  refine tw_getR (k := 12) rfl fl_RX3_11 (fun x14 => ?_)
  refine tw_iload_n (k := 13) rfl rfl ?_
  refine tw_new (k := 14) 7 rfl rfl kcl_RX3_9 (by decide) (by decide) (fun b15 => ?_)
  refine tw_dup (k := 15) rfl rfl ?_
  refine tw_callI (k := 16) (d' := 2) (mc' := 8) (ms' := 239) [] rfl rfl wi_RX3_15_X8_init mo_X8_init rfl rfl rfl (fun Q9 => K_X8_init Q9 b15) (by omega) (by decide) (by decide) (Nat.le_of_ble_eq_true rfl) ?_
  refine tw_aastore (k := 17) rfl ?_
  refine tw_inc (k := 18) (1 : Int32) [some (.ref a0), some (.int ((((((0 : Int32) + (1 : Int32)) + (1 : Int32)) + (1 : Int32)) + (1 : Int32)) + (1 : Int32)))] rfl rfl (by decide) (Nat.le_of_ble_eq_true rfl) rfl rfl ?_
  refine tw_goto (k := 19) 15 rfl (by decide) ?_
  refine tw_iload_n (k := 8) rfl rfl ?_
  refine tw_bipush (k := 9) (12 : Int32) rfl (by decide) ?_
  refine tw_icmp_ge_f (k := 10) 40 rfl (by decide) (by decide) ?_
  refine tw_aload_n (k := 11) rfl rfl ?_
  refine tw_getR (k := 12) rfl fl_RX3_11 (fun x17 => ?_)
  refine tw_iload_n (k := 13) rfl rfl ?_
  refine tw_new (k := 14) 7 rfl rfl kcl_RX3_9 (by decide) (by decide) (fun b18 => ?_)
  refine tw_dup (k := 15) rfl rfl ?_
  refine tw_callI (k := 16) (d' := 2) (mc' := 8) (ms' := 239) [] rfl rfl wi_RX3_15_X8_init mo_X8_init rfl rfl rfl (fun Q9 => K_X8_init Q9 b18) (by omega) (by decide) (by decide) (Nat.le_of_ble_eq_true rfl) ?_
  refine tw_aastore (k := 17) rfl ?_
  refine tw_inc (k := 18) (1 : Int32) [some (.ref a0), some (.int (((((((0 : Int32) + (1 : Int32)) + (1 : Int32)) + (1 : Int32)) + (1 : Int32)) + (1 : Int32)) + (1 : Int32)))] rfl rfl (by decide) (Nat.le_of_ble_eq_true rfl) rfl rfl ?_
  refine tw_goto (k := 19) 15 rfl (by decide) ?_
  refine tw_iload_n (k := 8) rfl rfl ?_
  refine tw_bipush (k := 9) (12 : Int32) rfl (by decide) ?_
  refine tw_icmp_ge_f (k := 10) 40 rfl (by decide) (by decide) ?_
  refine tw_aload_n (k := 11) rfl rfl ?_
  refine tw_getR (k := 12) rfl fl_RX3_11 (fun x20 => ?_)
  refine tw_iload_n (k := 13) rfl rfl ?_
  refine tw_new (k := 14) 7 rfl rfl kcl_RX3_9 (by decide) (by decide) (fun b21 => ?_)
  refine tw_dup (k := 15) rfl rfl ?_
  refine tw_callI (k := 16) (d' := 2) (mc' := 8) (ms' := 239) [] rfl rfl wi_RX3_15_X8_init mo_X8_init rfl rfl rfl (fun Q9 => K_X8_init Q9 b21) (by omega) (by decide) (by decide) (Nat.le_of_ble_eq_true rfl) ?_
  refine tw_aastore (k := 17) rfl ?_
  refine tw_inc (k := 18) (1 : Int32) [some (.ref a0), some (.int ((((((((0 : Int32) + (1 : Int32)) + (1 : Int32)) + (1 : Int32)) + (1 : Int32)) + (1 : Int32)) + (1 : Int32)) + (1 : Int32)))] rfl rfl (by decide) (Nat.le_of_ble_eq_true rfl) rfl rfl ?_
  refine tw_goto (k := 19) 15 rfl (by decide) ?_
  refine tw_iload_n (k := 8) rfl rfl ?_
  refine tw_bipush (k := 9) (12 : Int32) rfl (by decide) ?_
  refine tw_icmp_ge_f (k := 10) 40 rfl (by decide) (by decide) ?_
  refine tw_aload_n (k := 11) rfl rfl ?_
  refine tw_getR (k := 12) rfl fl_RX3_11 (fun x23 => ?_)
  refine tw_iload_n (k := 13) rfl rfl ?_
  refine tw_new (k := 14) 7 rfl rfl kcl_RX3_9 (by decide) (by decide) (fun b24 => ?_)
  refine tw_dup (k := 15) rfl rfl ?_
  refine tw_callI (k := 16) (d' := 2) (mc' := 8) (ms' := 239) [] rfl rfl wi_RX3_15_X8_init mo_X8_init rfl rfl rfl (fun Q9 => K_X8_init Q9 b24) (by omega) (by decide) (by decide) (Nat.le_of_ble_eq_true rfl) ?_
  refine tw_aastore (k := 17) rfl ?_
  refine tw_inc (k := 18) (1 : Int32) [some (.ref a0), some (.int (((((((((0 : Int32) + (1 : Int32)) + (1 : Int32)) + (1 : Int32)) + (1 : Int32)) + (1 : Int32)) + (1 : Int32)) + (1 : Int32)) + (1 : Int32)))] rfl rfl (by decide) (Nat.le_of_ble_eq_true rfl) rfl rfl ?_
  refine tw_goto (k := 19) 15 rfl (by decide) ?_
  refine tw_iload_n (k := 8) rfl rfl ?_
  refine tw_bipush (k := 9) (12 : Int32) rfl (by decide) ?_
  refine tw_icmp_ge_f (k := 10) 40 rfl (by decide) (by decide) ?_
  refine tw_aload_n (k := 11) rfl rfl ?_
  refine tw_getR (k := 12) rfl fl_RX3_11 (fun x26 => ?_)
  refine tw_iload_n (k := 13) rfl rfl ?_
  refine tw_new (k := 14) 7 rfl rfl kcl_RX3_9 (by decide) (by decide) (fun b27 => ?_)
  refine tw_dup (k := 15) rfl rfl ?_
  refine tw_callI (k := 16) (d' := 2) (mc' := 8) (ms' := 239) [] rfl rfl wi_RX3_15_X8_init mo_X8_init rfl rfl rfl (fun Q9 => K_X8_init Q9 b27) (by omega) (by decide) (by decide) (Nat.le_of_ble_eq_true rfl) ?_
  refine tw_aastore (k := 17) rfl ?_
  refine tw_inc (k := 18) (1 : Int32) [some (.ref a0), some (.int ((((((((((0 : Int32) + (1 : Int32)) + (1 : Int32)) + (1 : Int32)) + (1 : Int32)) + (1 : Int32)) + (1 : Int32)) + (1 : Int32)) + (1 : Int32)) + (1 : Int32)))] rfl rfl (by decide) (Nat.le_of_ble_eq_true rfl) rfl rfl ?_
  refine tw_goto (k := 19) 15 rfl (by decide) ?_
  refine tw_iload_n (k := 8) rfl rfl ?_
  refine tw_bipush (k := 9) (12 : Int32) rfl (by decide) ?_
  refine tw_icmp_ge_f (k := 10) 40 rfl (by decide) (by decide) ?_
  refine tw_aload_n (k := 11) rfl rfl ?_
  refine tw_getR (k := 12) rfl fl_RX3_11 (fun x29 => ?_)
  refine tw_iload_n (k := 13) rfl rfl ?_
  refine tw_new (k := 14) 7 rfl rfl kcl_RX3_9 (by decide) (by decide) (fun b30 => ?_)
  refine tw_dup (k := 15) rfl rfl ?_
  refine tw_callI (k := 16) (d' := 2) (mc' := 8) (ms' := 239) [] rfl rfl wi_RX3_15_X8_init mo_X8_init rfl rfl rfl (fun Q9 => K_X8_init Q9 b30) (by omega) (by decide) (by decide) (Nat.le_of_ble_eq_true rfl) ?_
  refine tw_aastore (k := 17) rfl ?_
  refine tw_inc (k := 18) (1 : Int32) [some (.ref a0), some (.int (((((((((((0 : Int32) + (1 : Int32)) + (1 : Int32)) + (1 : Int32)) + (1 : Int32)) + (1 : Int32)) + (1 : Int32)) + (1 : Int32)) + (1 : Int32)) + (1 : Int32)) + (1 : Int32)))] rfl rfl (by decide) (Nat.le_of_ble_eq_true rfl) rfl rfl ?_
  refine tw_goto (k := 19) 15 rfl (by decide) ?_
  refine tw_iload_n (k := 8) rfl rfl ?_
  refine tw_bipush (k := 9) (12 : Int32) rfl (by decide) ?_
  refine tw_icmp_ge_f (k := 10) 40 rfl (by decide) (by decide) ?_
  refine tw_aload_n (k := 11) rfl rfl ?_
  refine tw_getR (k := 12) rfl fl_RX3_11 (fun x32 => ?_)
  refine tw_iload_n (k := 13) rfl rfl ?_
  refine tw_new (k := 14) 7 rfl rfl kcl_RX3_9 (by decide) (by decide) (fun b33 => ?_)
  refine tw_dup (k := 15) rfl rfl ?_
  refine tw_callI (k := 16) (d' := 2) (mc' := 8) (ms' := 239) [] rfl rfl wi_RX3_15_X8_init mo_X8_init rfl rfl rfl (fun Q9 => K_X8_init Q9 b33) (by omega) (by decide) (by decide) (Nat.le_of_ble_eq_true rfl) ?_
  refine tw_aastore (k := 17) rfl ?_
  refine tw_inc (k := 18) (1 : Int32) [some (.ref a0), some (.int ((((((((((((0 : Int32) + (1 : Int32)) + (1 : Int32)) + (1 : Int32)) + (1 : Int32)) + (1 : Int32)) + (1 : Int32)) + (1 : Int32)) + (1 : Int32)) + (1 : Int32)) + (1 : Int32)) + (1 : Int32)))] rfl rfl (by decide) (Nat.le_of_ble_eq_true rfl) rfl rfl ?_
  refine tw_goto (k := 19) 15 rfl (by decide) ?_
  refine tw_iload_n (k := 8) rfl rfl ?_
  refine tw_bipush (k := 9) (12 : Int32) rfl (by decide) ?_
  refine tw_icmp_ge_f (k := 10) 40 rfl (by decide) (by decide) ?_
  refine tw_aload_n (k := 11) rfl rfl ?_
  refine tw_getR (k := 12) rfl fl_RX3_11 (fun x35 => ?_)
  refine tw_iload_n (k := 13) rfl rfl ?_
  refine tw_new (k := 14) 7 rfl rfl kcl_RX3_9 (by decide) (by decide) (fun b36 => ?_)
  refine tw_dup (k := 15) rfl rfl ?_
  refine tw_callI (k := 16) (d' := 2) (mc' := 8) (ms' := 239) [] rfl rfl wi_RX3_15_X8_init mo_X8_init rfl rfl rfl (fun Q9 => K_X8_init Q9 b36) (by omega) (by decide) (by decide) (Nat.le_of_ble_eq_true rfl) ?_
  refine tw_aastore (k := 17) rfl ?_
  refine tw_inc (k := 18) (1 : Int32) [some (.ref a0), some (.int (((((((((((((0 : Int32) + (1 : Int32)) + (1 : Int32)) + (1 : Int32)) + (1 : Int32)) + (1 : Int32)) + (1 : Int32)) + (1 : Int32)) + (1 : Int32)) + (1 : Int32)) + (1 : Int32)) + (1 : Int32)) + (1 : Int32)))] rfl rfl (by decide) (Nat.le_of_ble_eq_true rfl) rfl rfl ?_
  refine tw_goto (k := 19) 15 rfl (by decide) ?_
  refine tw_iload_n (k := 8) rfl rfl ?_
  refine tw_bipush (k := 9) (12 : Int32) rfl (by decide) ?_
  refine tw_icmp_ge_t (k := 10) 40 rfl (by decide) (by decide) ?_
  exact tw_return (k := 20) rfl rfl (by decide) (by decide)
def mX3_clear : tw_MD := (yX3_clear, cX3_clear, 1, none, [(0, .aload_n 0, 1, 1), (1, .iconst 0, 1, 2), (2, .putfield 16, 3, 5), (5, .return_, 1, 6)], [])
theorem mo_X3_clear : tw_mok mX3_clear 0 := ⟨plainFor_of_name (by decide +kernel), by decide +kernel, by decide +kernel, by decide +kernel, by decide +kernel⟩
theorem dk_X3_clear : tw_dk mX3_clear := by unfold tw_dk; decide +kernel
theorem fl_RX3_16 : tw_fl RX3 16 23 := Or.inl (List.mem_of_getElem? (i := 271) (by decide +kernel))
theorem wf_X3_clear_16 : tw_wf mX3_clear 16 23 := Or.inl rfl
set_option maxRecDepth 20000 in
theorem K_X3_clear {g : tw_Gx} (Q : tw_Rs → tw_Mem → Prop) (a0 : Nat) : tw_Kt g mX3_clear 1 0 0 [.ref a0] Q (f_X3_clear a0 (fun v => Q (.inl none))) := by
  refine tw_mkK (L := [some (.ref a0)]) mo_X3_clear dk_X3_clear rfl (Nat.le_of_ble_eq_true rfl) rfl ?_
  unfold f_X3_clear
  refine tw_aload_n (k := 0) rfl rfl ?_
  refine tw_iconst (k := 1) (0 : Int32) rfl (by decide) ?_
  refine tw_putI (k := 2) rfl fl_RX3_16 wf_X3_clear_16 (by decide +kernel) ?_
  exact tw_return (k := 3) rfl rfl (by decide) (by decide)
def mX3_townAt : tw_MD := (yX3_townAt, cX3_townAt, 2, (some (FieldType.object "TwinRopes$Town")), [(0, .iload_n 1, 1, 1), (1, .ifCond .lt 18, 3, 4), (4, .iload_n 1, 1, 5), (5, .bipush 12, 2, 7), (7, .if_icmp .ge 12, 3, 10), (10, .aload_n 0, 1, 11), (11, .getfield 11, 3, 14), (14, .iload_n 1, 1, 15), (15, .aaload, 1, 16), (16, .goto 4, 3, 19), (19, .aconst_null, 1, 20), (20, .areturn, 1, 21)], [])
theorem mo_X3_townAt : tw_mok mX3_townAt 1 := ⟨plainFor_of_name (by decide +kernel), by decide +kernel, by decide +kernel, by decide +kernel, by decide +kernel⟩
theorem dk_X3_townAt : tw_dk mX3_townAt := by unfold tw_dk; decide +kernel
set_option maxRecDepth 20000 in
theorem K_X3_townAt {g : tw_Gx} (Q : tw_Rs → tw_Mem → Prop) (a0 : Nat) (a1 : Int32) : tw_Kt g mX3_townAt 1 0 0 [.ref a0, .int a1] Q (f_X3_townAt a0 a1 (fun v => Q (.inl (some (va_rf v))))) := by
  refine tw_mkK (L := [some (.ref a0), some (.int a1)]) mo_X3_townAt dk_X3_townAt rfl (Nat.le_of_ble_eq_true rfl) rfl ?_
  unfold f_X3_townAt
  refine tw_iload_n (k := 0) rfl rfl ?_
  refine tw_if_lt (k := 1) 19 rfl (by decide) ?_ ?_
  · refine tw_null (k := 10) rfl ?_
    exact tw_areturn (k := 11) (v := none) rfl rfl (Or.inl ⟨_, rfl⟩) (by decide) (by decide)
  · refine tw_iload_n (k := 2) rfl rfl ?_
    refine tw_bipush (k := 3) (12 : Int32) rfl (by decide) ?_
    refine tw_icmp_ge (k := 4) 19 rfl (by decide) ?_ ?_
    · refine tw_null (k := 10) rfl ?_
      exact tw_areturn (k := 11) (v := none) rfl rfl (Or.inl ⟨_, rfl⟩) (by decide) (by decide)
    · refine tw_aload_n (k := 5) rfl rfl ?_
      refine tw_getR (k := 6) rfl fl_RX3_11 (fun x1 => ?_)
      refine tw_iload_n (k := 7) rfl rfl ?_
      refine tw_aaload (k := 8) rfl (fun o2 => ?_)
      refine tw_goto (k := 9) 20 rfl (by decide) ?_
      exact tw_areturn (k := 11) (v := o2) rfl rfl (Or.inl ⟨_, rfl⟩) (by decide) (by decide)
def mX3_remember : tw_MD := (yX3_remember, cX3_remember, 3, none, [(0, .aload_n 0, 1, 1), (1, .aload_n 0, 1, 2), (2, .getfield 20, 3, 5), (5, .invokevirtual 23, 3, 8), (8, .astore_n 2, 1, 9), (9, .aload_n 2, 1, 10), (10, .ifnonnull 4, 3, 13), (13, .return_, 1, 14), (14, .aload_n 2, 1, 15), (15, .aload_n 1, 1, 16), (16, .invokevirtual 27, 3, 19), (19, .aload_n 0, 1, 20), (20, .aload_n 0, 1, 21), (21, .getfield 20, 3, 24), (24, .iconst 1, 1, 25), (25, .iadd, 1, 26), (26, .bipush 12, 2, 28), (28, .if_icmp .ge 12, 3, 31), (31, .aload_n 0, 1, 32), (32, .getfield 20, 3, 35), (35, .iconst 1, 1, 36), (36, .iadd, 1, 37), (37, .goto 4, 3, 40), (40, .iconst 0, 1, 41), (41, .putfield 20, 3, 44), (44, .aload_n 0, 1, 45), (45, .aload_n 0, 1, 46), (46, .getfield 16, 3, 49), (49, .iconst 1, 1, 50), (50, .iadd, 1, 51), (51, .bipush 12, 2, 53), (53, .invokestatic 31, 3, 56), (56, .putfield 16, 3, 59), (59, .return_, 1, 60)], [])
theorem mo_X3_remember : tw_mok mX3_remember 1 := ⟨plainFor_of_name (by decide +kernel), by decide +kernel, by decide +kernel, by decide +kernel, by decide +kernel⟩
theorem dk_X3_remember : tw_dk mX3_remember := by unfold tw_dk; decide +kernel
theorem fl_RX3_20 : tw_fl RX3 20 24 := Or.inl (List.mem_of_getElem? (i := 273) (by decide +kernel))
theorem wf_X3_remember_16 : tw_wf mX3_remember 16 23 := Or.inl rfl
theorem ws_RX3_31_J9_min_7cf53 : tw_wS RX3 31 mJ9_min_7cf53 := ⟨List.mem_of_getElem? (i := 1419) (by decide +kernel), List.mem_of_getElem? (i := 609) (by decide +kernel), List.mem_of_getElem? (i := 148) (by decide +kernel), List.mem_of_getElem? (i := 610) (by decide +kernel)⟩
theorem wf_X3_remember_20 : tw_wf mX3_remember 20 24 := Or.inl rfl
theorem wv_RX3_27_X8_take : tw_wV RX3 27 mX8_take := ⟨List.mem_of_getElem? (i := 827) (by decide +kernel), List.mem_of_getElem? (i := 828) (by decide +kernel), List.mem_of_getElem? (i := 829) (by decide +kernel), List.mem_of_getElem? (i := 126) (by decide +kernel), List.mem_of_getElem? (i := 830) (by decide +kernel)⟩
theorem wv_RX3_23_X3_townAt : tw_wV RX3 23 mX3_townAt := ⟨List.mem_of_getElem? (i := 823) (by decide +kernel), List.mem_of_getElem? (i := 825) (by decide +kernel), List.mem_of_getElem? (i := 9) (by decide +kernel), List.mem_of_getElem? (i := 129) (by decide +kernel), List.mem_of_getElem? (i := 826) (by decide +kernel)⟩
set_option maxRecDepth 20000 in
theorem K_X3_remember {g : tw_Gx} (Q : tw_Rs → tw_Mem → Prop) (a0 : Nat) (a1 : Nat) : tw_Kt g mX3_remember 3 0 0 [.ref a0, .ref a1] Q (f_X3_remember a0 a1 (fun v => Q (.inl none))) := by
  refine tw_mkK (L := [some (.ref a0), some (.ref a1), none]) mo_X3_remember dk_X3_remember rfl (Nat.le_of_ble_eq_true rfl) rfl ?_
  unfold f_X3_remember
  refine tw_aload_n (k := 0) rfl rfl ?_
  refine tw_aload_n (k := 1) rfl rfl ?_
  refine tw_getI (k := 2) rfl fl_RX3_20 (fun x1 => ?_)
  refine tw_callV (k := 3) (d' := 1) (mc' := 0) (ms' := 0) tw_cV tw_cVi [.int x1] rfl rfl wv_RX3_23_X3_townAt mo_X3_townAt (t := 3) rfl rfl rfl (fun Q9 => K_X3_townAt Q9 a0 x1) (by omega) (by decide) (by decide) (Nat.le_of_ble_eq_true rfl) (fun o2 => ?_)
  refine tw_astV_n (k := 4) [some (.ref a0), some (.ref a1), some (va_rf o2)] rfl (Nat.le_of_ble_eq_true rfl) rfl rfl ?_
  refine tw_aloadV_n (k := 5) rfl rfl ?_
  refine tw_ifnonnull (k := 6) (fun o3 => [some (.ref a0), some (.ref a1), some (va_rf o3)]) 14 rfl (by decide) rfl (fun a4 => ?_) ?_
  · show tw_C _ _ _ _ _ _ _ [some (.ref a0), some (.ref a1), some (.ref a4)] _ _ _ _
    refine tw_aload_n (k := 8) rfl rfl ?_
    refine tw_aload_n (k := 9) rfl rfl ?_
    refine tw_callV (k := 10) (d' := 2) (mc' := 0) (ms' := 0) tw_cU tw_cUi [.ref a1] rfl rfl wv_RX3_27_X8_take mo_X8_take (t := 7) rfl rfl rfl (fun Q9 => K_X8_take Q9 a4 a1) (by omega) (by decide) (by decide) (Nat.le_of_ble_eq_true rfl) (fun u5 => ?_)
    refine tw_aload_n (k := 11) rfl rfl ?_
    refine tw_aload_n (k := 12) rfl rfl ?_
    refine tw_getI (k := 13) rfl fl_RX3_20 (fun x6 => ?_)
    refine tw_iconst (k := 14) (1 : Int32) rfl (by decide) ?_
    refine tw_iadd (k := 15) rfl ?_
    refine tw_bipush (k := 16) (12 : Int32) rfl (by decide) ?_
    refine tw_join 41 (fun s8 => [some (.ref a0), some (.ref a1), some (.ref a4)]) (fun s8 => .int s8 :: .ref a0 :: []) 0 0 (fun s8 => ?_) (fun j7 g7 => ?_)
    · refine tw_putI (k := 24) rfl fl_RX3_20 wf_X3_remember_20 (by decide +kernel) ?_
      refine tw_aload_n (k := 25) rfl rfl ?_
      refine tw_aload_n (k := 26) rfl rfl ?_
      refine tw_getI (k := 27) rfl fl_RX3_16 (fun x9 => ?_)
      refine tw_iconst (k := 28) (1 : Int32) rfl (by decide) ?_
      refine tw_iadd (k := 29) rfl ?_
      refine tw_bipush (k := 30) (12 : Int32) rfl (by decide) ?_
      refine tw_callS (k := 31) (d' := 1) (mc' := 0) (ms' := 0) tw_cI tw_cIi [.int (x9 + (1 : Int32)), .int (12 : Int32)] rfl rfl ws_RX3_31_J9_min_7cf53 mo_J9_min_7cf53 rfl (fun Q9 => K_J9_min_7cf53 Q9 (x9 + (1 : Int32)) (12 : Int32)) (by omega) (by decide) (by decide) (Nat.le_of_ble_eq_true rfl) (fun x10 => ?_)
      refine tw_putI (k := 32) rfl fl_RX3_16 wf_X3_remember_16 (by decide +kernel) ?_
      exact tw_return (k := 33) rfl rfl (by decide) (by decide)
    · refine tw_icmp_ge (k := 17) 40 rfl (by decide) ?_ ?_
      · refine tw_iconst (k := 23) (0 : Int32) rfl (by decide) ?_
        exact g7 (0 : Int32)
      · refine tw_aload_n (k := 18) rfl rfl ?_
        refine tw_getI (k := 19) rfl fl_RX3_20 (fun x11 => ?_)
        refine tw_iconst (k := 20) (1 : Int32) rfl (by decide) ?_
        refine tw_iadd (k := 21) rfl ?_
        refine tw_goto (k := 22) 41 rfl (by decide) ?_
        exact g7 (x11 + (1 : Int32))
  · exact tw_return (k := 7) rfl rfl (by decide) (by decide)
def mX3_recall : tw_MD := (yX3_recall, cX3_recall, 4, (some FieldType.boolean), [(0, .aload_n 0, 1, 1), (1, .getfield 20, 3, 4), (4, .ifCond .le 12, 3, 7), (7, .aload_n 0, 1, 8), (8, .getfield 20, 3, 11), (11, .iconst 1, 1, 12), (12, .isub, 1, 13), (13, .goto 5, 3, 16), (16, .bipush 11, 2, 18), (18, .istore_n 2, 1, 19), (19, .aload_n 0, 1, 20), (20, .iload_n 2, 1, 21), (21, .invokevirtual 23, 3, 24), (24, .astore_n 3, 1, 25), (25, .aload_n 0, 1, 26), (26, .getfield 16, 3, 29), (29, .ifCond .le 7, 3, 32), (32, .aload_n 3, 1, 33), (33, .ifnonnull 5, 3, 36), (36, .iconst 0, 1, 37), (37, .ireturn, 1, 38), (38, .aload_n 1, 1, 39), (39, .aload_n 3, 1, 40), (40, .invokevirtual 27, 3, 43), (43, .aload_n 0, 1, 44), (44, .iload_n 2, 1, 45), (45, .putfield 20, 3, 48), (48, .aload_n 0, 1, 49), (49, .dup, 1, 50), (50, .getfield 16, 3, 53), (53, .iconst 1, 1, 54), (54, .isub, 1, 55), (55, .putfield 16, 3, 58), (58, .iconst 1, 1, 59), (59, .ireturn, 1, 60)], [])
theorem mo_X3_recall : tw_mok mX3_recall 1 := ⟨plainFor_of_name (by decide +kernel), by decide +kernel, by decide +kernel, by decide +kernel, by decide +kernel⟩
theorem dk_X3_recall : tw_dk mX3_recall := by unfold tw_dk; decide +kernel
theorem wf_X3_recall_16 : tw_wf mX3_recall 16 23 := Or.inl rfl
theorem wf_X3_recall_20 : tw_wf mX3_recall 20 24 := Or.inl rfl
set_option maxRecDepth 20000 in
theorem K_X3_recall {g : tw_Gx} (Q : tw_Rs → tw_Mem → Prop) (a0 : Nat) (a1 : Nat) : tw_Kt g mX3_recall 3 0 0 [.ref a0, .ref a1] Q (f_X3_recall a0 a1 (fun v => Q (.inl (some (.int v))))) := by
  refine tw_mkK (L := [some (.ref a0), some (.ref a1), none, none]) mo_X3_recall dk_X3_recall rfl (Nat.le_of_ble_eq_true rfl) rfl ?_
  unfold f_X3_recall
  refine tw_aload_n (k := 0) rfl rfl ?_
  refine tw_getI (k := 1) rfl fl_RX3_20 (fun x1 => ?_)
  refine tw_join 18 (fun s3 => [some (.ref a0), some (.ref a1), none, none]) (fun s3 => .int s3 :: []) 0 0 (fun s3 => ?_) (fun j2 g2 => ?_)
  · refine tw_ist_n (k := 9) [some (.ref a0), some (.ref a1), some (.int s3), none] rfl (Nat.le_of_ble_eq_true rfl) rfl rfl ?_
    refine tw_aload_n (k := 10) rfl rfl ?_
    refine tw_iload_n (k := 11) rfl rfl ?_
    refine tw_callV (k := 12) (d' := 1) (mc' := 0) (ms' := 0) tw_cV tw_cVi [.int s3] rfl rfl wv_RX3_23_X3_townAt mo_X3_townAt (t := 3) rfl rfl rfl (fun Q9 => K_X3_townAt Q9 a0 s3) (by omega) (by decide) (by decide) (Nat.le_of_ble_eq_true rfl) (fun o4 => ?_)
    refine tw_astV_n (k := 13) [some (.ref a0), some (.ref a1), some (.int s3), some (va_rf o4)] rfl (Nat.le_of_ble_eq_true rfl) rfl rfl ?_
    refine tw_aload_n (k := 14) rfl rfl ?_
    refine tw_getI (k := 15) rfl fl_RX3_16 (fun x5 => ?_)
    refine tw_if_le (k := 16) 36 rfl (by decide) ?_ ?_
    · refine tw_iconst (k := 19) (0 : Int32) rfl (by decide) ?_
      exact tw_zreturn (k := 20) rfl rfl (by decide) (by decide)
    · refine tw_aloadV_n (k := 17) rfl rfl ?_
      refine tw_ifnonnull (k := 18) (fun o6 => [some (.ref a0), some (.ref a1), some (.int s3), some (va_rf o6)]) 38 rfl (by decide) rfl (fun a7 => ?_) ?_
      · show tw_C _ _ _ _ _ _ _ [some (.ref a0), some (.ref a1), some (.int s3), some (.ref a7)] _ _ _ _
        refine tw_aload_n (k := 21) rfl rfl ?_
        refine tw_aload_n (k := 22) rfl rfl ?_
        refine tw_callV (k := 23) (d' := 2) (mc' := 0) (ms' := 0) tw_cU tw_cUi [.ref a7] rfl rfl wv_RX3_27_X8_take mo_X8_take (t := 7) rfl rfl rfl (fun Q9 => K_X8_take Q9 a1 a7) (by omega) (by decide) (by decide) (Nat.le_of_ble_eq_true rfl) (fun u8 => ?_)
        refine tw_aload_n (k := 24) rfl rfl ?_
        refine tw_iload_n (k := 25) rfl rfl ?_
        refine tw_putI (k := 26) rfl fl_RX3_20 wf_X3_recall_20 (by decide +kernel) ?_
        refine tw_aload_n (k := 27) rfl rfl ?_
        refine tw_dup (k := 28) rfl rfl ?_
        refine tw_getI (k := 29) rfl fl_RX3_16 (fun x9 => ?_)
        refine tw_iconst (k := 30) (1 : Int32) rfl (by decide) ?_
        refine tw_isub (k := 31) rfl ?_
        refine tw_putI (k := 32) rfl fl_RX3_16 wf_X3_recall_16 (by decide +kernel) ?_
        refine tw_iconst (k := 33) (1 : Int32) rfl (by decide) ?_
        exact tw_zreturn (k := 34) rfl rfl (by decide) (by decide)
      · refine tw_iconst (k := 19) (0 : Int32) rfl (by decide) ?_
        exact tw_zreturn (k := 20) rfl rfl (by decide) (by decide)
  · refine tw_if_le (k := 2) 16 rfl (by decide) ?_ ?_
    · refine tw_bipush (k := 8) (11 : Int32) rfl (by decide) ?_
      exact g2 (11 : Int32)
    · refine tw_aload_n (k := 3) rfl rfl ?_
      refine tw_getI (k := 4) rfl fl_RX3_20 (fun x10 => ?_)
      refine tw_iconst (k := 5) (1 : Int32) rfl (by decide) ?_
      refine tw_isub (k := 6) rfl ?_
      refine tw_goto (k := 7) 18 rfl (by decide) ?_
      exact g2 (x10 - (1 : Int32))
