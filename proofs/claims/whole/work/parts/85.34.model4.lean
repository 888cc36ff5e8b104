def mX12_secret : tw_MD := (yX12_secret, cX12_secret, 5, (some FieldType.int), [(0, .aload_n 0, 1, 1), (1, .iload_n 1, 1, 2), (2, .iload_n 2, 1, 3), (3, .invokevirtual 306, 3, 6), (6, .ifCond .eq 5, 3, 9), (9, .iconst 0, 1, 10), (10, .ireturn, 1, 11), (11, .iconst (-1), 1, 12), (12, .istore_n 3, 1, 13), (13, .aload_n 0, 1, 14), (14, .invokevirtual 364, 3, 17), (17, .iconst 0, 1, 18), (18, .istore 4, 2, 20), (20, .iload 4, 2, 22), (22, .bipush 100, 2, 24), (24, .if_icmp .gt 36, 3, 27), (27, .iload_n 3, 1, 28), (28, .iconst (-1), 1, 29), (29, .if_icmp .ne 31, 3, 32), (32, .aload_n 0, 1, 33), (33, .iload_n 1, 1, 34), (34, .iload_n 2, 1, 35), (35, .invokevirtual 370, 3, 38), (38, .ifCond .eq 8, 3, 41), (41, .iload 4, 2, 43), (43, .goto 4, 3, 46), (46, .iconst (-1), 1, 47), (47, .istore_n 3, 1, 48), (48, .aload_n 0, 1, 49), (49, .iconst 1, 1, 50), (50, .invokevirtual 354, 3, 53), (53, .pop, 1, 54), (54, .iinc 4 1, 3, 57), (57, .goto (-37), 3, 60), (60, .aload_n 0, 1, 61), (61, .invokevirtual 367, 3, 64), (64, .iload_n 3, 1, 65), (65, .ireturn, 1, 66)], [])
theorem mo_X12_secret : tw_mok mX12_secret 2 := ⟨plainFor_of_name (by decide +kernel), by decide +kernel, by decide +kernel, by decide +kernel, by decide +kernel⟩
theorem dk_X12_secret : tw_dk mX12_secret := by unfold tw_dk; decide +kernel
theorem wv_RX12_370_X12_knowOf : tw_wV RX12 370 mX12_knowOf := ⟨List.mem_of_getElem? (i := 2262) (by decide +kernel), List.mem_of_getElem? (i := 2264) (by decide +kernel), List.mem_of_getElem? (i := 105) (by decide +kernel), List.mem_of_getElem? (i := 137) (by decide +kernel), List.mem_of_getElem? (i := 2265) (by decide +kernel)⟩
set_option maxRecDepth 20000 in
theorem K_X12_secret {g : tw_Gx} (Q : tw_Rs → tw_Mem → Prop) (a0 : Nat) (a1 : Int32) (a2 : Int32) : tw_Kt g mX12_secret 12 0 0 [.ref a0, .int a1, .int a2] Q (f_X12_secret a0 a1 a2 (fun v => Q (.inl (some (.int v))))) := by
  refine tw_mkK (L := [some (.ref a0), some (.int a1), some (.int a2), none, none]) mo_X12_secret dk_X12_secret rfl (Nat.le_of_ble_eq_true rfl) rfl ?_
  unfold f_X12_secret
  refine tw_aload_n (k := 0) rfl rfl ?_
  refine tw_iload_n (k := 1) rfl rfl ?_
  refine tw_iload_n (k := 2) rfl rfl ?_
  refine tw_callV (k := 3) (d' := 3) (mc' := 0) (ms' := 0) tw_cI tw_cIi [.int a1, .int a2] rfl rfl wv_RX12_306_X12_noTwo mo_X12_noTwo (t := 11) rfl rfl rfl (fun Q9 => K_X12_noTwo Q9 a0 a1 a2) (by omega) (by decide) (by decide) (Nat.le_of_ble_eq_true rfl) (fun x1 => ?_)
  refine tw_if_eq (k := 4) 11 rfl (by decide) ?_ ?_
  · refine tw_iconst (k := 7) (-1 : Int32) rfl (by decide) ?_
    refine tw_ist_n (k := 8) [some (.ref a0), some (.int a1), some (.int a2), some (.int (-1 : Int32)), none] rfl (Nat.le_of_ble_eq_true rfl) rfl rfl ?_
    refine tw_aload_n (k := 9) rfl rfl ?_
    refine tw_callV (k := 10) (d' := 1) (mc' := 0) (ms' := 0) tw_cU tw_cUi [] rfl rfl wv_RX12_364_X12_keepsAll mo_X12_keepsAll (t := 11) rfl rfl rfl (fun Q9 => K_X12_keepsAll Q9 a0) (by omega) (by decide) (by decide) (Nat.le_of_ble_eq_true rfl) (fun u2 => ?_)
    refine tw_iconst (k := 11) (0 : Int32) rfl (by decide) ?_
    refine tw_ist (k := 12) [some (.ref a0), some (.int a1), some (.int a2), some (.int (-1 : Int32)), some (.int (0 : Int32))] rfl (Nat.le_of_ble_eq_true rfl) rfl rfl ?_
    refine tw_loop (fun s4 => [some (.ref a0), some (.int a1), some (.int a2), some (.int s4.1), some (.int s4.2)]) (fun s4 => []) (fun r3 h3 s4 => ?_) _ rfl rfl
    refine tw_iload (k := 13) rfl rfl ?_
    refine tw_bipush (k := 14) (100 : Int32) rfl (by decide) ?_
    refine tw_join 60 (fun s6 => [some (.ref a0), some (.int a1), some (.int a2), some (.int s4.1), some (.int s4.2)]) (fun s6 => []) 0 0 (fun s6 => ?_) (fun j5 g5 => ?_)
    · refine tw_aload_n (k := 34) rfl rfl ?_
      refine tw_callV (k := 35) (d' := 1) (mc' := 0) (ms' := 0) tw_cU tw_cUi [] rfl rfl wv_RX12_367_X12_bringsBack mo_X12_bringsBack (t := 11) rfl rfl rfl (fun Q9 => K_X12_bringsBack Q9 a0) (by omega) (by decide) (by decide) (Nat.le_of_ble_eq_true rfl) (fun u7 => ?_)
      refine tw_iload_n (k := 36) rfl rfl ?_
      exact tw_ireturn (k := 37) rfl rfl (by decide) (by decide)
    · refine tw_icmp_gt (k := 15) 60 rfl (by decide) ?_ ?_
      · exact g5 ()
      · refine tw_iload_n (k := 16) rfl rfl ?_
        refine tw_iconst (k := 17) (-1 : Int32) rfl (by decide) ?_
        refine tw_icmp_ne (k := 18) 60 rfl (by decide) ?_ ?_
        · exact g5 ()
        · refine tw_aload_n (k := 19) rfl rfl ?_
          refine tw_iload_n (k := 20) rfl rfl ?_
          refine tw_iload_n (k := 21) rfl rfl ?_
          refine tw_callV (k := 22) (d' := 4) (mc' := 0) (ms' := 0) tw_cI tw_cIi [.int a1, .int a2] rfl rfl wv_RX12_370_X12_knowOf mo_X12_knowOf (t := 11) rfl rfl rfl (fun Q9 => K_X12_knowOf Q9 a0 a1 a2) (by omega) (by decide) (by decide) (Nat.le_of_ble_eq_true rfl) (fun x8 => ?_)
          refine tw_join 47 (fun s10 => [some (.ref a0), some (.int a1), some (.int a2), some (.int s4.1), some (.int s4.2)]) (fun s10 => .int s10 :: []) 0 0 (fun s10 => ?_) (fun j9 g9 => ?_)
          · refine tw_ist_n (k := 27) [some (.ref a0), some (.int a1), some (.int a2), some (.int s10), some (.int s4.2)] rfl (Nat.le_of_ble_eq_true rfl) rfl rfl ?_
            refine tw_aload_n (k := 28) rfl rfl ?_
            refine tw_iconst (k := 29) (1 : Int32) rfl (by decide) ?_
            refine tw_callV (k := 30) (d' := 11) (mc' := 0) (ms' := 0) tw_cI tw_cIi [.int (1 : Int32)] rfl rfl wv_RX12_354_X12_oneHour mo_X12_oneHour (t := 11) rfl rfl rfl (fun Q9 => K_X12_oneHour Q9 a0 (1 : Int32)) (by omega) (by decide) (by decide) (Nat.le_of_ble_eq_true rfl) (fun x11 => ?_)
            refine tw_pop (k := 31) rfl rfl ?_
            refine tw_inc (k := 32) (1 : Int32) [some (.ref a0), some (.int a1), some (.int a2), some (.int s10), some (.int (s4.2 + (1 : Int32)))] rfl rfl (by decide) (Nat.le_of_ble_eq_true rfl) rfl rfl ?_
            refine tw_goto (k := 33) 20 rfl (by decide) ?_
            exact h3 (s10, s4.2 + (1 : Int32))
          · refine tw_if_eq (k := 23) 46 rfl (by decide) ?_ ?_
            · refine tw_iconst (k := 26) (-1 : Int32) rfl (by decide) ?_
              exact g9 (-1 : Int32)
            · refine tw_iload (k := 24) rfl rfl ?_
              refine tw_goto (k := 25) 47 rfl (by decide) ?_
              exact g9 s4.2
  · refine tw_iconst (k := 5) (0 : Int32) rfl (by decide) ?_
    exact tw_ireturn (k := 6) rfl rfl (by decide) (by decide)
def mX12_lastsBy : tw_MD := (yX12_lastsBy, cX12_lastsBy, 4, (some FieldType.int), [(0, .iconst 0, 1, 1), (1, .istore_n 3, 1, 2), (2, .aload_n 0, 1, 3), (3, .invokevirtual 364, 3, 6), (6, .iload_n 3, 1, 7), (7, .bipush 60, 2, 9), (9, .if_icmp .ge 23, 3, 12), (12, .aload_n 0, 1, 13), (13, .iload_n 1, 1, 14), (14, .iload_n 2, 1, 15), (15, .invokevirtual 348, 3, 18), (18, .ifCond .eq 14, 3, 21), (21, .iinc 3 1, 3, 24), (24, .aload_n 0, 1, 25), (25, .iconst 1, 1, 26), (26, .invokevirtual 351, 3, 29), (29, .goto (-23), 3, 32), (32, .aload_n 0, 1, 33), (33, .invokevirtual 367, 3, 36), (36, .iload_n 3, 1, 37), (37, .ireturn, 1, 38)], [])
theorem mo_X12_lastsBy : tw_mok mX12_lastsBy 2 := ⟨plainFor_of_name (by decide +kernel), by decide +kernel, by decide +kernel, by decide +kernel, by decide +kernel⟩
theorem dk_X12_lastsBy : tw_dk mX12_lastsBy := by unfold tw_dk; decide +kernel
set_option maxRecDepth 20000 in
theorem K_X12_lastsBy {g : tw_Gx} (Q : tw_Rs → tw_Mem → Prop) (a0 : Nat) (a1 : Int32) (a2 : Int32) : tw_Kt g mX12_lastsBy 11 0 0 [.ref a0, .int a1, .int a2] Q (f_X12_lastsBy a0 a1 a2 (fun v => Q (.inl (some (.int v))))) := by
  refine tw_mkK (L := [some (.ref a0), some (.int a1), some (.int a2), none]) mo_X12_lastsBy dk_X12_lastsBy rfl (Nat.le_of_ble_eq_true rfl) rfl ?_
  unfold f_X12_lastsBy
  refine tw_iconst (k := 0) (0 : Int32) rfl (by decide) ?_
  refine tw_ist_n (k := 1) [some (.ref a0), some (.int a1), some (.int a2), some (.int (0 : Int32))] rfl (Nat.le_of_ble_eq_true rfl) rfl rfl ?_
  refine tw_aload_n (k := 2) rfl rfl ?_
  refine tw_callV (k := 3) (d' := 1) (mc' := 0) (ms' := 0) tw_cU tw_cUi [] rfl rfl wv_RX12_364_X12_keepsAll mo_X12_keepsAll (t := 11) rfl rfl rfl (fun Q9 => K_X12_keepsAll Q9 a0) (by omega) (by decide) (by decide) (Nat.le_of_ble_eq_true rfl) (fun u1 => ?_)
  refine tw_loop (fun s3 => [some (.ref a0), some (.int a1), some (.int a2), some (.int s3)]) (fun s3 => []) (fun r2 h2 s3 => ?_) _ rfl rfl
  refine tw_iload_n (k := 4) rfl rfl ?_
  refine tw_bipush (k := 5) (60 : Int32) rfl (by decide) ?_
  refine tw_join 32 (fun s5 => [some (.ref a0), some (.int a1), some (.int a2), some (.int s3)]) (fun s5 => []) 0 0 (fun s5 => ?_) (fun j4 g4 => ?_)
  · refine tw_aload_n (k := 17) rfl rfl ?_
    refine tw_callV (k := 18) (d' := 1) (mc' := 0) (ms' := 0) tw_cU tw_cUi [] rfl rfl wv_RX12_367_X12_bringsBack mo_X12_bringsBack (t := 11) rfl rfl rfl (fun Q9 => K_X12_bringsBack Q9 a0) (by omega) (by decide) (by decide) (Nat.le_of_ble_eq_true rfl) (fun u6 => ?_)
    refine tw_iload_n (k := 19) rfl rfl ?_
    exact tw_ireturn (k := 20) rfl rfl (by decide) (by decide)
  · refine tw_icmp_ge (k := 6) 32 rfl (by decide) ?_ ?_
    · exact g4 ()
    · refine tw_aload_n (k := 7) rfl rfl ?_
      refine tw_iload_n (k := 8) rfl rfl ?_
      refine tw_iload_n (k := 9) rfl rfl ?_
      refine tw_callV (k := 10) (d' := 8) (mc' := 0) (ms' := 0) tw_cI tw_cIi [.int a1, .int a2] rfl rfl wv_RX12_348_X12_pulls mo_X12_pulls (t := 11) rfl rfl rfl (fun Q9 => K_X12_pulls Q9 a0 a1 a2) (by omega) (by decide) (by decide) (Nat.le_of_ble_eq_true rfl) (fun x7 => ?_)
      refine tw_if_eq (k := 11) 32 rfl (by decide) ?_ ?_
      · exact g4 ()
      · refine tw_inc (k := 12) (1 : Int32) [some (.ref a0), some (.int a1), some (.int a2), some (.int (s3 + (1 : Int32)))] rfl rfl (by decide) (Nat.le_of_ble_eq_true rfl) rfl rfl ?_
        refine tw_aload_n (k := 13) rfl rfl ?_
        refine tw_iconst (k := 14) (1 : Int32) rfl (by decide) ?_
        refine tw_callV (k := 15) (d' := 10) (mc' := 0) (ms' := 0) tw_cU tw_cUi [.int (1 : Int32)] rfl rfl wv_RX12_351_X12_hourEnds mo_X12_hourEnds (t := 11) rfl rfl rfl (fun Q9 => K_X12_hourEnds Q9 a0 (1 : Int32)) (by omega) (by decide) (by decide) (Nat.le_of_ble_eq_true rfl) (fun u8 => ?_)
        refine tw_goto (k := 16) 6 rfl (by decide) ?_
        exact h2 (s3 + (1 : Int32))
def mX12_lasts : tw_MD := (yX12_lasts, cX12_lasts, 3, (some FieldType.int), [(0, .aload_n 0, 1, 1), (1, .iload_n 1, 1, 2), (2, .iload_n 2, 1, 3), (3, .invokevirtual 306, 3, 6), (6, .ifCond .eq 7, 3, 9), (9, .iconst 0, 1, 10), (10, .goto 9, 3, 13), (13, .aload_n 0, 1, 14), (14, .iload_n 1, 1, 15), (15, .iload_n 2, 1, 16), (16, .invokevirtual 373, 3, 19), (19, .ireturn, 1, 20)], [])
theorem mo_X12_lasts : tw_mok mX12_lasts 2 := ⟨plainFor_of_name (by decide +kernel), by decide +kernel, by decide +kernel, by decide +kernel, by decide +kernel⟩
theorem dk_X12_lasts : tw_dk mX12_lasts := by unfold tw_dk; decide +kernel
theorem wv_RX12_373_X12_lastsBy : tw_wV RX12 373 mX12_lastsBy := ⟨List.mem_of_getElem? (i := 2270) (by decide +kernel), List.mem_of_getElem? (i := 2272) (by decide +kernel), List.mem_of_getElem? (i := 106) (by decide +kernel), List.mem_of_getElem? (i := 137) (by decide +kernel), List.mem_of_getElem? (i := 2273) (by decide +kernel)⟩
set_option maxRecDepth 20000 in
theorem K_X12_lasts {g : tw_Gx} (Q : tw_Rs → tw_Mem → Prop) (a0 : Nat) (a1 : Int32) (a2 : Int32) : tw_Kt g mX12_lasts 12 0 0 [.ref a0, .int a1, .int a2] Q (f_X12_lasts a0 a1 a2 (fun v => Q (.inl (some (.int v))))) := by
  refine tw_mkK (L := [some (.ref a0), some (.int a1), some (.int a2)]) mo_X12_lasts dk_X12_lasts rfl (Nat.le_of_ble_eq_true rfl) rfl ?_
  unfold f_X12_lasts
  refine tw_aload_n (k := 0) rfl rfl ?_
  refine tw_iload_n (k := 1) rfl rfl ?_
  refine tw_iload_n (k := 2) rfl rfl ?_
  refine tw_callV (k := 3) (d' := 3) (mc' := 0) (ms' := 0) tw_cI tw_cIi [.int a1, .int a2] rfl rfl wv_RX12_306_X12_noTwo mo_X12_noTwo (t := 11) rfl rfl rfl (fun Q9 => K_X12_noTwo Q9 a0 a1 a2) (by omega) (by decide) (by decide) (Nat.le_of_ble_eq_true rfl) (fun x1 => ?_)
  refine tw_if_eq (k := 4) 13 rfl (by decide) ?_ ?_
  · refine tw_aload_n (k := 7) rfl rfl ?_
    refine tw_iload_n (k := 8) rfl rfl ?_
    refine tw_iload_n (k := 9) rfl rfl ?_
    refine tw_callV (k := 10) (d' := 11) (mc' := 0) (ms' := 0) tw_cI tw_cIi [.int a1, .int a2] rfl rfl wv_RX12_373_X12_lastsBy mo_X12_lastsBy (t := 11) rfl rfl rfl (fun Q9 => K_X12_lastsBy Q9 a0 a1 a2) (by omega) (by decide) (by decide) (Nat.le_of_ble_eq_true rfl) (fun x2 => ?_)
    exact tw_ireturn (k := 11) rfl rfl (by decide) (by decide)
  · refine tw_iconst (k := 5) (0 : Int32) rfl (by decide) ?_
    refine tw_goto (k := 6) 19 rfl (by decide) ?_
    exact tw_ireturn (k := 11) rfl rfl (by decide) (by decide)
def mX12_longest : tw_MD := (yX12_longest, cX12_longest, 6, (some FieldType.int), [(0, .aload_n 0, 1, 1), (1, .iconst 0, 1, 2), (2, .putfield 3, 3, 5), (5, .iconst (-1), 1, 6), (6, .istore_n 1, 1, 7), (7, .iconst (-1), 1, 8), (8, .istore_n 2, 1, 9), (9, .iconst 0, 1, 10), (10, .istore_n 3, 1, 11), (11, .iload_n 3, 1, 12), (12, .aload_n 0, 1, 13), (13, .invokevirtual 62, 3, 16), (16, .if_icmp .ge 63, 3, 19), (19, .iload_n 3, 1, 20), (20, .iconst 1, 1, 21), (21, .iadd, 1, 22), (22, .istore 4, 2, 24), (24, .iload 4, 2, 26), (26, .aload_n 0, 1, 27), (27, .invokevirtual 62, 3, 30), (30, .if_icmp .ge 43, 3, 33), (33, .aload_n 0, 1, 34), (34, .iload_n 3, 1, 35), (35, .iload 4, 2, 37), (37, .invokevirtual 373, 3, 40), (40, .istore 5, 2, 42), (42, .iload 5, 2, 44), (44, .iload_n 2, 1, 45), (45, .if_icmp .le 13, 3, 48), (48, .bipush 8, 2, 50), (50, .iload_n 3, 1, 51), (51, .imul, 1, 52), (52, .iload 4, 2, 54), (54, .iadd, 1, 55), (55, .goto 4, 3, 58), (58, .iload_n 1, 1, 59), (59, .istore_n 1, 1, 60), (60, .iload_n 2, 1, 61), (61, .iload 5, 2, 63), (63, .invokestatic 258, 3, 66), (66, .istore_n 2, 1, 67), (67, .iinc 4 1, 3, 70), (70, .goto (-46), 3, 73), (73, .iinc 3 1, 3, 76), (76, .goto (-65), 3, 79), (79, .iload_n 1, 1, 80), (80, .ireturn, 1, 81)], [])
theorem mo_X12_longest : tw_mok mX12_longest 0 := ⟨plainFor_of_name (by decide +kernel), by decide +kernel, by decide +kernel, by decide +kernel, by decide +kernel⟩
theorem dk_X12_longest : tw_dk mX12_longest := by unfold tw_dk; decide +kernel
theorem wf_X12_longest_3 : tw_wf mX12_longest 3 70 := Or.inl rfl
set_option maxRecDepth 20000 in
theorem K_X12_longest {g : tw_Gx} (Q : tw_Rs → tw_Mem → Prop) (a0 : Nat) : tw_Kt g mX12_longest 12 0 0 [.ref a0] Q (f_X12_longest a0 (fun v => Q (.inl (some (.int v))))) := by
  refine tw_mkK (L := [some (.ref a0), none, none, none, none, none]) mo_X12_longest dk_X12_longest rfl (Nat.le_of_ble_eq_true rfl) rfl ?_
  unfold f_X12_longest
  refine tw_aload_n (k := 0) rfl rfl ?_
  refine tw_iconst (k := 1) (0 : Int32) rfl (by decide) ?_
  refine tw_putI (k := 2) rfl fl_RX12_3 wf_X12_longest_3 (by decide +kernel) ?_
  refine tw_iconst (k := 3) (-1 : Int32) rfl (by decide) ?_
  refine tw_ist_n (k := 4) [some (.ref a0), some (.int (-1 : Int32)), none, none, none, none] rfl (Nat.le_of_ble_eq_true rfl) rfl rfl ?_
  refine tw_iconst (k := 5) (-1 : Int32) rfl (by decide) ?_
  refine tw_ist_n (k := 6) [some (.ref a0), some (.int (-1 : Int32)), some (.int (-1 : Int32)), none, none, none] rfl (Nat.le_of_ble_eq_true rfl) rfl rfl ?_
  refine tw_iconst (k := 7) (0 : Int32) rfl (by decide) ?_
  refine tw_ist_n (k := 8) [some (.ref a0), some (.int (-1 : Int32)), some (.int (-1 : Int32)), some (.int (0 : Int32)), none, none] rfl (Nat.le_of_ble_eq_true rfl) rfl rfl ?_
  refine tw_loop (fun s2 => [some (.ref a0), some (.int s2.1), some (.int s2.2.1), some (.int s2.2.2), none, none]) (fun s2 => []) (fun r1 h1 s2 => ?_) _ rfl rfl
  refine tw_iload_n (k := 9) rfl rfl ?_
  refine tw_aload_n (k := 10) rfl rfl ?_
  refine tw_callV (k := 11) (d' := 1) (mc' := 0) (ms' := 0) tw_cI tw_cIi [] rfl rfl wv_RX12_62_X12_people mo_X12_people (t := 11) rfl rfl rfl (fun Q9 => K_X12_people Q9 a0) (by omega) (by decide) (by decide) (Nat.le_of_ble_eq_true rfl) (fun x3 => ?_)
  refine tw_icmp_ge (k := 12) 79 rfl (by decide) ?_ ?_
  · refine tw_iload_n (k := 45) rfl rfl ?_
    exact tw_ireturn (k := 46) rfl rfl (by decide) (by decide)
  · refine tw_iload_n (k := 13) rfl rfl ?_
    refine tw_iconst (k := 14) (1 : Int32) rfl (by decide) ?_
    refine tw_iadd (k := 15) rfl ?_
    refine tw_let (fun x4 => [some (.ref a0), some (.int s2.1), some (.int s2.2.1), some (.int s2.2.2), none, none]) (fun x4 => .int x4 :: []) rfl rfl (fun x4 => ?_)
    refine tw_ist (k := 16) [some (.ref a0), some (.int s2.1), some (.int s2.2.1), some (.int s2.2.2), some (.int x4), none] rfl (Nat.le_of_ble_eq_true rfl) rfl rfl ?_
    refine tw_loop (fun s6 => [some (.ref a0), some (.int s6.1), some (.int s6.2.1), some (.int s2.2.2), some (.int s6.2.2), none]) (fun s6 => []) (fun r5 h5 s6 => ?_) _ rfl rfl
    refine tw_iload (k := 17) rfl rfl ?_
    refine tw_aload_n (k := 18) rfl rfl ?_
    refine tw_callV (k := 19) (d' := 1) (mc' := 0) (ms' := 0) tw_cI tw_cIi [] rfl rfl wv_RX12_62_X12_people mo_X12_people (t := 11) rfl rfl rfl (fun Q9 => K_X12_people Q9 a0) (by omega) (by decide) (by decide) (Nat.le_of_ble_eq_true rfl) (fun x7 => ?_)
    refine tw_icmp_ge (k := 20) 73 rfl (by decide) ?_ ?_
    · refine tw_inc (k := 43) (1 : Int32) [some (.ref a0), some (.int s6.1), some (.int s6.2.1), some (.int (s2.2.2 + (1 : Int32))), some (.int s6.2.2), none] rfl rfl (by decide) (Nat.le_of_ble_eq_true rfl) rfl rfl ?_
      refine tw_goto (k := 44) 11 rfl (by decide) ?_
      exact tw_wk (L' := [some (.ref a0), some (.int s6.1), some (.int s6.2.1), some (.int (s2.2.2 + (1 : Int32))), none, none]) ⟨Or.inr rfl, Or.inr rfl, Or.inr rfl, Or.inr rfl, Or.inl rfl, Or.inl rfl, trivial⟩ (h1 (s6.1, s6.2.1, s2.2.2 + (1 : Int32)))
    · refine tw_aload_n (k := 21) rfl rfl ?_
      refine tw_iload_n (k := 22) rfl rfl ?_
      refine tw_iload (k := 23) rfl rfl ?_
      refine tw_callV (k := 24) (d' := 11) (mc' := 0) (ms' := 0) tw_cI tw_cIi [.int s2.2.2, .int s6.2.2] rfl rfl wv_RX12_373_X12_lastsBy mo_X12_lastsBy (t := 11) rfl rfl rfl (fun Q9 => K_X12_lastsBy Q9 a0 s2.2.2 s6.2.2) (by omega) (by decide) (by decide) (Nat.le_of_ble_eq_true rfl) (fun x8 => ?_)
      refine tw_ist (k := 25) [some (.ref a0), some (.int s6.1), some (.int s6.2.1), some (.int s2.2.2), some (.int s6.2.2), some (.int x8)] rfl (Nat.le_of_ble_eq_true rfl) rfl rfl ?_
      refine tw_iload (k := 26) rfl rfl ?_
      refine tw_iload_n (k := 27) rfl rfl ?_
      refine tw_join 59 (fun s10 => [some (.ref a0), some (.int s6.1), some (.int s6.2.1), some (.int s2.2.2), some (.int s6.2.2), some (.int x8)]) (fun s10 => .int s10 :: []) 0 0 (fun s10 => ?_) (fun j9 g9 => ?_)
      · refine tw_ist_n (k := 36) [some (.ref a0), some (.int s10), some (.int s6.2.1), some (.int s2.2.2), some (.int s6.2.2), some (.int x8)] rfl (Nat.le_of_ble_eq_true rfl) rfl rfl ?_
        refine tw_iload_n (k := 37) rfl rfl ?_
        refine tw_iload (k := 38) rfl rfl ?_
        refine tw_callS (k := 39) (d' := 1) (mc' := 0) (ms' := 0) tw_cI tw_cIi [.int s6.2.1, .int x8] rfl rfl ws_RX12_258_J9_max_7cf53 mo_J9_max_7cf53 rfl (fun Q9 => K_J9_max_7cf53 Q9 s6.2.1 x8) (by omega) (by decide) (by decide) (Nat.le_of_ble_eq_true rfl) (fun x11 => ?_)
        refine tw_ist_n (k := 40) [some (.ref a0), some (.int s10), some (.int x11), some (.int s2.2.2), some (.int s6.2.2), some (.int x8)] rfl (Nat.le_of_ble_eq_true rfl) rfl rfl ?_
        refine tw_inc (k := 41) (1 : Int32) [some (.ref a0), some (.int s10), some (.int x11), some (.int s2.2.2), some (.int (s6.2.2 + (1 : Int32))), some (.int x8)] rfl rfl (by decide) (Nat.le_of_ble_eq_true rfl) rfl rfl ?_
        refine tw_goto (k := 42) 24 rfl (by decide) ?_
        exact tw_wk (L' := [some (.ref a0), some (.int s10), some (.int x11), some (.int s2.2.2), some (.int (s6.2.2 + (1 : Int32))), none]) ⟨Or.inr rfl, Or.inr rfl, Or.inr rfl, Or.inr rfl, Or.inr rfl, Or.inl rfl, trivial⟩ (h5 (s10, x11, s6.2.2 + (1 : Int32)))
      · refine tw_icmp_le (k := 28) 58 rfl (by decide) ?_ ?_
        · refine tw_iload_n (k := 35) rfl rfl ?_
          exact g9 s6.1
        · refine tw_bipush (k := 29) (8 : Int32) rfl (by decide) ?_
          refine tw_iload_n (k := 30) rfl rfl ?_
          refine tw_imul (k := 31) rfl ?_
          refine tw_iload (k := 32) rfl rfl ?_
          refine tw_iadd (k := 33) rfl ?_
          refine tw_goto (k := 34) 59 rfl (by decide) ?_
          exact g9 (((8 : Int32) * s2.2.2) + s6.2.2)
def mX12_firstOf : tw_MD := (yX12_firstOf, cX12_firstOf, 1, (some FieldType.int), [(0, .iload_n 0, 1, 1), (1, .invokestatic 376, 3, 4), (4, .ireturn, 1, 5)], [])
theorem mo_X12_firstOf : tw_mok mX12_firstOf 1 := ⟨plainFor_of_name (by decide +kernel), by decide +kernel, by decide +kernel, by decide +kernel, by decide +kernel⟩
theorem dk_X12_firstOf : tw_dk mX12_firstOf := by unfold tw_dk; decide +kernel
theorem ws_RX12_376_J6_numberOfTrailingZeros_0f7a4 : tw_wS RX12 376 mJ6_numberOfTrailingZeros_0f7a4 := ⟨List.mem_of_getElem? (i := 2297) (by decide +kernel), List.mem_of_getElem? (i := 2298) (by decide +kernel), List.mem_of_getElem? (i := 150) (by decide +kernel), List.mem_of_getElem? (i := 2299) (by decide +kernel)⟩
set_option maxRecDepth 20000 in
theorem K_X12_firstOf {g : tw_Gx} (Q : tw_Rs → tw_Mem → Prop) (a0 : Int32) : tw_Kt g mX12_firstOf 2 0 0 [.int a0] Q (f_X12_firstOf a0 (fun v => Q (.inl (some (.int v))))) := by
  refine tw_mkK (L := [some (.int a0)]) mo_X12_firstOf dk_X12_firstOf rfl (Nat.le_of_ble_eq_true rfl) rfl ?_
  unfold f_X12_firstOf
  refine tw_iload_n (k := 0) rfl rfl ?_
  refine tw_callS (k := 1) (d' := 1) (mc' := 0) (ms' := 0) tw_cI tw_cIi [.int a0] rfl rfl ws_RX12_376_J6_numberOfTrailingZeros_0f7a4 mo_J6_numberOfTrailingZeros_0f7a4 rfl (fun Q9 => K_J6_numberOfTrailingZeros_0f7a4 Q9 a0) (by omega) (by decide) (by decide) (Nat.le_of_ble_eq_true rfl) (fun x1 => ?_)
  exact tw_ireturn (k := 2) rfl rfl (by decide) (by decide)
def mX12_teamsBy : tw_MD := (yX12_teamsBy, cX12_teamsBy, 5, (some FieldType.int), [(0, .iload_n 1, 1, 1), (1, .invokestatic 379, 3, 4), (4, .istore_n 3, 1, 5), (5, .iload_n 1, 1, 6), (6, .iconst 1, 1, 7), (7, .iload_n 3, 1, 8), (8, .ishl, 1, 9), (9, .iconst (-1), 1, 10), (10, .ixor, 1, 11), (11, .iand, 1, 12), (12, .istore 4, 2, 14), (14, .iload_n 2, 1, 15), (15, .iconst (-1), 1, 16), (16, .if_icmp .ne 11, 3, 19), (19, .aload_n 0, 1, 20), (20, .getfield 45, 3, 23), (23, .iload 4, 2, 25), (25, .iaload, 1, 26), (26, .ireturn, 1, 27), (27, .iload 4, 2, 29), (29, .iload_n 2, 1, 30), (30, .invokestatic 334, 3, 33), (33, .ifCond .eq 31, 3, 36), (36, .aload_n 0, 1, 37), (37, .getfield 42, 3, 40), (40, .bipush 8, 2, 42), (42, .iload_n 3, 1, 43), (43, .imul, 1, 44), (44, .iload_n 2, 1, 45), (45, .iadd, 1, 46), (46, .iaload, 1, 47), (47, .aload_n 0, 1, 48), (48, .getfield 45, 3, 51), (51, .iload 4, 2, 53), (53, .iconst 1, 1, 54), (54, .iload_n 2, 1, 55), (55, .ishl, 1, 56), (56, .iconst (-1), 1, 57), (57, .ixor, 1, 58), (58, .iand, 1, 59), (59, .iaload, 1, 60), (60, .iadd, 1, 61), (61, .goto 4, 3, 64), (64, .iconst (-1), 1, 65), (65, .ireturn, 1, 66)], [])
theorem mo_X12_teamsBy : tw_mok mX12_teamsBy 2 := ⟨plainFor_of_name (by decide +kernel), by decide +kernel, by decide +kernel, by decide +kernel, by decide +kernel⟩
theorem dk_X12_teamsBy : tw_dk mX12_teamsBy := by unfold tw_dk; decide +kernel
theorem ws_RX12_379_X12_firstOf : tw_wS RX12 379 mX12_firstOf := ⟨List.mem_of_getElem? (i := 2294) (by decide +kernel), List.mem_of_getElem? (i := 2295) (by decide +kernel), List.mem_of_getElem? (i := 137) (by decide +kernel), List.mem_of_getElem? (i := 2296) (by decide +kernel)⟩
set_option maxRecDepth 20000 in
theorem K_X12_teamsBy {g : tw_Gx} (Q : tw_Rs → tw_Mem → Prop) (a0 : Nat) (a1 : Int32) (a2 : Int32) : tw_Kt g mX12_teamsBy 3 0 0 [.ref a0, .int a1, .int a2] Q (f_X12_teamsBy a0 a1 a2 (fun v => Q (.inl (some (.int v))))) := by
  refine tw_mkK (L := [some (.ref a0), some (.int a1), some (.int a2), none, none]) mo_X12_teamsBy dk_X12_teamsBy rfl (Nat.le_of_ble_eq_true rfl) rfl ?_
  unfold f_X12_teamsBy
  refine tw_iload_n (k := 0) rfl rfl ?_
  refine tw_callS (k := 1) (d' := 2) (mc' := 0) (ms' := 0) tw_cI tw_cIi [.int a1] rfl rfl ws_RX12_379_X12_firstOf mo_X12_firstOf rfl (fun Q9 => K_X12_firstOf Q9 a1) (by omega) (by decide) (by decide) (Nat.le_of_ble_eq_true rfl) (fun x1 => ?_)
  refine tw_ist_n (k := 2) [some (.ref a0), some (.int a1), some (.int a2), some (.int x1), none] rfl (Nat.le_of_ble_eq_true rfl) rfl rfl ?_
  refine tw_iload_n (k := 3) rfl rfl ?_
  refine tw_iconst (k := 4) (1 : Int32) rfl (by decide) ?_
  refine tw_iload_n (k := 5) rfl rfl ?_
  refine tw_ishl (k := 6) rfl ?_
  refine tw_iconst (k := 7) (-1 : Int32) rfl (by decide) ?_
  refine tw_ixor (k := 8) rfl ?_
  refine tw_iand (k := 9) rfl ?_
  refine tw_let (fun x2 => [some (.ref a0), some (.int a1), some (.int a2), some (.int x1), none]) (fun x2 => .int x2 :: []) rfl rfl (fun x2 => ?_)
  refine tw_ist (k := 10) [some (.ref a0), some (.int a1), some (.int a2), some (.int x1), some (.int x2)] rfl (Nat.le_of_ble_eq_true rfl) rfl rfl ?_
  refine tw_iload_n (k := 11) rfl rfl ?_
  refine tw_iconst (k := 12) (-1 : Int32) rfl (by decide) ?_
  refine tw_icmp_ne (k := 13) 27 rfl (by decide) ?_ ?_
  · refine tw_iload (k := 19) rfl rfl ?_
    refine tw_iload_n (k := 20) rfl rfl ?_
    refine tw_callS (k := 21) (d' := 1) (mc' := 0) (ms' := 0) tw_cI tw_cIi [.int x2, .int a2] rfl rfl ws_RX12_334_X12_has mo_X12_has rfl (fun Q9 => K_X12_has Q9 x2 a2) (by omega) (by decide) (by decide) (Nat.le_of_ble_eq_true rfl) (fun x3 => ?_)
    refine tw_if_eq (k := 22) 64 rfl (by decide) ?_ ?_
    · refine tw_iconst (k := 43) (-1 : Int32) rfl (by decide) ?_
      exact tw_ireturn (k := 44) rfl rfl (by decide) (by decide)
    · refine tw_aload_n (k := 23) rfl rfl ?_
      refine tw_getR (k := 24) rfl fl_RX12_42 (fun x4 => ?_)
      refine tw_bipush (k := 25) (8 : Int32) rfl (by decide) ?_
      refine tw_iload_n (k := 26) rfl rfl ?_
      refine tw_imul (k := 27) rfl ?_
      refine tw_iload_n (k := 28) rfl rfl ?_
      refine tw_iadd (k := 29) rfl ?_
      refine tw_iaload (k := 30) rfl (fun x5 => ?_)
      refine tw_aload_n (k := 31) rfl rfl ?_
      refine tw_getR (k := 32) rfl fl_RX12_45 (fun x6 => ?_)
      refine tw_iload (k := 33) rfl rfl ?_
      refine tw_iconst (k := 34) (1 : Int32) rfl (by decide) ?_
      refine tw_iload_n (k := 35) rfl rfl ?_
      refine tw_ishl (k := 36) rfl ?_
      refine tw_iconst (k := 37) (-1 : Int32) rfl (by decide) ?_
      refine tw_ixor (k := 38) rfl ?_
      refine tw_iand (k := 39) rfl ?_
      refine tw_iaload (k := 40) rfl (fun x7 => ?_)
      refine tw_iadd (k := 41) rfl ?_
      refine tw_goto (k := 42) 65 rfl (by decide) ?_
      exact tw_ireturn (k := 44) rfl rfl (by decide) (by decide)
  · refine tw_aload_n (k := 14) rfl rfl ?_
    refine tw_getR (k := 15) rfl fl_RX12_45 (fun x8 => ?_)
    refine tw_iload (k := 16) rfl rfl ?_
    refine tw_iaload (k := 17) rfl (fun x9 => ?_)
    exact tw_ireturn (k := 18) rfl rfl (by decide) (by decide)
def mX12_laysTeams : tw_MD := (yX12_laysTeams, cX12_laysTeams, 4, none, [(0, .iconst 0, 1, 1), (1, .istore_n 1, 1, 2), (2, .iload_n 1, 1, 3), (3, .aload_n 0, 1, 4), (4, .invokevirtual 62, 3, 7), (7, .if_icmp .ge 44, 3, 10), (10, .iload_n 1, 1, 11), (11, .iconst 1, 1, 12), (12, .iadd, 1, 13), (13, .istore_n 2, 1, 14), (14, .iload_n 2, 1, 15), (15, .aload_n 0, 1, 16), (16, .invokevirtual 62, 3, 19), (19, .if_icmp .ge 26, 3, 22), (22, .aload_n 0, 1, 23), (23, .getfield 42, 3, 26), (26, .bipush 8, 2, 28), (28, .iload_n 1, 1, 29), (29, .imul, 1, 30), (30, .iload_n 2, 1, 31), (31, .iadd, 1, 32), (32, .aload_n 0, 1, 33), (33, .iload_n 1, 1, 34), (34, .iload_n 2, 1, 35), (35, .invokevirtual 373, 3, 38), (38, .iastore, 1, 39), (39, .iinc 2 1, 3, 42), (42, .goto (-28), 3, 45), (45, .iinc 1 1, 3, 48), (48, .goto (-46), 3, 51), (51, .aload_n 0, 1, 52), (52, .getfield 45, 3, 55), (55, .iconst 0, 1, 56), (56, .iconst 0, 1, 57), (57, .iastore, 1, 58), (58, .iconst 1, 1, 59), (59, .istore_n 1, 1, 60), (60, .iload_n 1, 1, 61), (61, .aload_n 0, 1, 62), (62, .invokevirtual 382, 3, 65), (65, .if_icmp .gt 45, 3, 68), (68, .iconst 0, 1, 69), (69, .istore_n 2, 1, 70), (70, .iconst (-1), 1, 71), (71, .istore_n 3, 1, 72), (72, .iload_n 3, 1, 73), (73, .aload_n 0, 1, 74), (74, .invokevirtual 62, 3, 77), (77, .if_icmp .ge 20, 3, 80), (80, .iload_n 2, 1, 81), (81, .aload_n 0, 1, 82), (82, .iload_n 1, 1, 83), (83, .iload_n 3, 1, 84), (84, .invokevirtual 385, 3, 87), (87, .invokestatic 258, 3, 90), (90, .istore_n 2, 1, 91), (91, .iinc 3 1, 3, 94), (94, .goto (-22), 3, 97), (97, .aload_n 0, 1, 98), (98, .getfield 45, 3, 101), (101, .iload_n 1, 1, 102), (102, .iload_n 2, 1, 103), (103, .iastore, 1, 104), (104, .iinc 1 1, 3, 107), (107, .goto (-47), 3, 110), (110, .return_, 1, 111)], [])
theorem mo_X12_laysTeams : tw_mok mX12_laysTeams 0 := ⟨plainFor_of_name (by decide +kernel), by decide +kernel, by decide +kernel, by decide +kernel, by decide +kernel⟩
theorem dk_X12_laysTeams : tw_dk mX12_laysTeams := by unfold tw_dk; decide +kernel
theorem wv_RX12_385_X12_teamsBy : tw_wV RX12 385 mX12_teamsBy := ⟨List.mem_of_getElem? (i := 2290) (by decide +kernel), List.mem_of_getElem? (i := 2292) (by decide +kernel), List.mem_of_getElem? (i := 109) (by decide +kernel), List.mem_of_getElem? (i := 137) (by decide +kernel), List.mem_of_getElem? (i := 2293) (by decide +kernel)⟩
theorem wv_RX12_382_X12_allPeople : tw_wV RX12 382 mX12_allPeople := ⟨List.mem_of_getElem? (i := 2286) (by decide +kernel), List.mem_of_getElem? (i := 2288) (by decide +kernel), List.mem_of_getElem? (i := 108) (by decide +kernel), List.mem_of_getElem? (i := 137) (by decide +kernel), List.mem_of_getElem? (i := 2289) (by decide +kernel)⟩
set_option maxRecDepth 20000 in
theorem K_X12_laysTeams {g : tw_Gx} (Q : tw_Rs → tw_Mem → Prop) (a0 : Nat) : tw_Kt g mX12_laysTeams 12 0 0 [.ref a0] Q (f_X12_laysTeams a0 (fun v => Q (.inl none))) := by
  refine tw_mkK (L := [some (.ref a0), none, none, none]) mo_X12_laysTeams dk_X12_laysTeams rfl (Nat.le_of_ble_eq_true rfl) rfl ?_
  unfold f_X12_laysTeams
  refine tw_iconst (k := 0) (0 : Int32) rfl (by decide) ?_
  refine tw_ist_n (k := 1) [some (.ref a0), some (.int (0 : Int32)), none, none] rfl (Nat.le_of_ble_eq_true rfl) rfl rfl ?_
  refine tw_loop (fun s2 => [some (.ref a0), some (.int s2), none, none]) (fun s2 => []) (fun r1 h1 s2 => ?_) _ rfl rfl
  refine tw_iload_n (k := 2) rfl rfl ?_
  refine tw_aload_n (k := 3) rfl rfl ?_
  refine tw_callV (k := 4) (d' := 1) (mc' := 0) (ms' := 0) tw_cI tw_cIi [] rfl rfl wv_RX12_62_X12_people mo_X12_people (t := 11) rfl rfl rfl (fun Q9 => K_X12_people Q9 a0) (by omega) (by decide) (by decide) (Nat.le_of_ble_eq_true rfl) (fun x3 => ?_)
  refine tw_icmp_ge (k := 5) 51 rfl (by decide) ?_ ?_
  · refine tw_aload_n (k := 30) rfl rfl ?_
    refine tw_getR (k := 31) rfl fl_RX12_45 (fun x4 => ?_)
    refine tw_iconst (k := 32) (0 : Int32) rfl (by decide) ?_
    refine tw_iconst (k := 33) (0 : Int32) rfl (by decide) ?_
    refine tw_iastore (k := 34) rfl ?_
    refine tw_iconst (k := 35) (1 : Int32) rfl (by decide) ?_
    refine tw_ist_n (k := 36) [some (.ref a0), some (.int (1 : Int32)), none, none] rfl (Nat.le_of_ble_eq_true rfl) rfl rfl ?_
    refine tw_loop (fun s6 => [some (.ref a0), some (.int s6), none, none]) (fun s6 => []) (fun r5 h5 s6 => ?_) _ rfl rfl
    refine tw_iload_n (k := 37) rfl rfl ?_
    refine tw_aload_n (k := 38) rfl rfl ?_
    refine tw_callV (k := 39) (d' := 2) (mc' := 0) (ms' := 0) tw_cI tw_cIi [] rfl rfl wv_RX12_382_X12_allPeople mo_X12_allPeople (t := 11) rfl rfl rfl (fun Q9 => K_X12_allPeople Q9 a0) (by omega) (by decide) (by decide) (Nat.le_of_ble_eq_true rfl) (fun x7 => ?_)
    refine tw_icmp_gt (k := 40) 110 rfl (by decide) ?_ ?_
    · exact tw_return (k := 65) rfl rfl (by decide) (by decide)
    · refine tw_iconst (k := 41) (0 : Int32) rfl (by decide) ?_
      refine tw_ist_n (k := 42) [some (.ref a0), some (.int s6), some (.int (0 : Int32)), none] rfl (Nat.le_of_ble_eq_true rfl) rfl rfl ?_
      refine tw_iconst (k := 43) (-1 : Int32) rfl (by decide) ?_
      refine tw_ist_n (k := 44) [some (.ref a0), some (.int s6), some (.int (0 : Int32)), some (.int (-1 : Int32))] rfl (Nat.le_of_ble_eq_true rfl) rfl rfl ?_
      refine tw_loop (fun s9 => [some (.ref a0), some (.int s6), some (.int s9.1), some (.int s9.2)]) (fun s9 => []) (fun r8 h8 s9 => ?_) _ rfl rfl
      refine tw_iload_n (k := 45) rfl rfl ?_
      refine tw_aload_n (k := 46) rfl rfl ?_
      refine tw_callV (k := 47) (d' := 1) (mc' := 0) (ms' := 0) tw_cI tw_cIi [] rfl rfl wv_RX12_62_X12_people mo_X12_people (t := 11) rfl rfl rfl (fun Q9 => K_X12_people Q9 a0) (by omega) (by decide) (by decide) (Nat.le_of_ble_eq_true rfl) (fun x10 => ?_)
      refine tw_icmp_ge (k := 48) 97 rfl (by decide) ?_ ?_
      · refine tw_aload_n (k := 58) rfl rfl ?_
        refine tw_getR (k := 59) rfl fl_RX12_45 (fun x11 => ?_)
        refine tw_iload_n (k := 60) rfl rfl ?_
        refine tw_iload_n (k := 61) rfl rfl ?_
        refine tw_iastore (k := 62) rfl ?_
        refine tw_inc (k := 63) (1 : Int32) [some (.ref a0), some (.int (s6 + (1 : Int32))), some (.int s9.1), some (.int s9.2)] rfl rfl (by decide) (Nat.le_of_ble_eq_true rfl) rfl rfl ?_
        refine tw_goto (k := 64) 60 rfl (by decide) ?_
        exact tw_wk (L' := [some (.ref a0), some (.int (s6 + (1 : Int32))), none, none]) ⟨Or.inr rfl, Or.inr rfl, Or.inl rfl, Or.inl rfl, trivial⟩ (h5 (s6 + (1 : Int32)))
      · refine tw_iload_n (k := 49) rfl rfl ?_
        refine tw_aload_n (k := 50) rfl rfl ?_
        refine tw_iload_n (k := 51) rfl rfl ?_
        refine tw_iload_n (k := 52) rfl rfl ?_
        refine tw_callV (k := 53) (d' := 3) (mc' := 0) (ms' := 0) tw_cI tw_cIi [.int s6, .int s9.2] rfl rfl wv_RX12_385_X12_teamsBy mo_X12_teamsBy (t := 11) rfl rfl rfl (fun Q9 => K_X12_teamsBy Q9 a0 s6 s9.2) (by omega) (by decide) (by decide) (Nat.le_of_ble_eq_true rfl) (fun x12 => ?_)
        refine tw_callS (k := 54) (d' := 1) (mc' := 0) (ms' := 0) tw_cI tw_cIi [.int s9.1, .int x12] rfl rfl ws_RX12_258_J9_max_7cf53 mo_J9_max_7cf53 rfl (fun Q9 => K_J9_max_7cf53 Q9 s9.1 x12) (by omega) (by decide) (by decide) (Nat.le_of_ble_eq_true rfl) (fun x13 => ?_)
        refine tw_ist_n (k := 55) [some (.ref a0), some (.int s6), some (.int x13), some (.int s9.2)] rfl (Nat.le_of_ble_eq_true rfl) rfl rfl ?_
        refine tw_inc (k := 56) (1 : Int32) [some (.ref a0), some (.int s6), some (.int x13), some (.int (s9.2 + (1 : Int32)))] rfl rfl (by decide) (Nat.le_of_ble_eq_true rfl) rfl rfl ?_
        refine tw_goto (k := 57) 72 rfl (by decide) ?_
        exact h8 (x13, s9.2 + (1 : Int32))
  · refine tw_iload_n (k := 6) rfl rfl ?_
    refine tw_iconst (k := 7) (1 : Int32) rfl (by decide) ?_
    refine tw_iadd (k := 8) rfl ?_
    refine tw_let (fun x14 => [some (.ref a0), some (.int s2), none, none]) (fun x14 => .int x14 :: []) rfl rfl (fun x14 => ?_)
    refine tw_ist_n (k := 9) [some (.ref a0), some (.int s2), some (.int x14), none] rfl (Nat.le_of_ble_eq_true rfl) rfl rfl ?_
    refine tw_loop (fun s16 => [some (.ref a0), some (.int s2), some (.int s16), none]) (fun s16 => []) (fun r15 h15 s16 => ?_) _ rfl rfl
    refine tw_iload_n (k := 10) rfl rfl ?_
    refine tw_aload_n (k := 11) rfl rfl ?_
    refine tw_callV (k := 12) (d' := 1) (mc' := 0) (ms' := 0) tw_cI tw_cIi [] rfl rfl wv_RX12_62_X12_people mo_X12_people (t := 11) rfl rfl rfl (fun Q9 => K_X12_people Q9 a0) (by omega) (by decide) (by decide) (Nat.le_of_ble_eq_true rfl) (fun x17 => ?_)
    refine tw_icmp_ge (k := 13) 45 rfl (by decide) ?_ ?_
    · refine tw_inc (k := 28) (1 : Int32) [some (.ref a0), some (.int (s2 + (1 : Int32))), some (.int s16), none] rfl rfl (by decide) (Nat.le_of_ble_eq_true rfl) rfl rfl ?_
      refine tw_goto (k := 29) 2 rfl (by decide) ?_
      exact tw_wk (L' := [some (.ref a0), some (.int (s2 + (1 : Int32))), none, none]) ⟨Or.inr rfl, Or.inr rfl, Or.inl rfl, Or.inl rfl, trivial⟩ (h1 (s2 + (1 : Int32)))
    · refine tw_aload_n (k := 14) rfl rfl ?_
      refine tw_getR (k := 15) rfl fl_RX12_42 (fun x18 => ?_)
      refine tw_bipush (k := 16) (8 : Int32) rfl (by decide) ?_
      refine tw_iload_n (k := 17) rfl rfl ?_
      refine tw_imul (k := 18) rfl ?_
      refine tw_iload_n (k := 19) rfl rfl ?_
      refine tw_iadd (k := 20) rfl ?_
      refine tw_aload_n (k := 21) rfl rfl ?_
      refine tw_iload_n (k := 22) rfl rfl ?_
      refine tw_iload_n (k := 23) rfl rfl ?_
      refine tw_callV (k := 24) (d' := 11) (mc' := 0) (ms' := 0) tw_cI tw_cIi [.int s2, .int s16] rfl rfl wv_RX12_373_X12_lastsBy mo_X12_lastsBy (t := 11) rfl rfl rfl (fun Q9 => K_X12_lastsBy Q9 a0 s2 s16) (by omega) (by decide) (by decide) (Nat.le_of_ble_eq_true rfl) (fun x19 => ?_)
      refine tw_iastore (k := 25) rfl ?_
      refine tw_inc (k := 26) (1 : Int32) [some (.ref a0), some (.int s2), some (.int (s16 + (1 : Int32))), none] rfl rfl (by decide) (Nat.le_of_ble_eq_true rfl) rfl rfl ?_
      refine tw_goto (k := 27) 14 rfl (by decide) ?_
      exact h15 (s16 + (1 : Int32))
def mX12_teams : tw_MD := (yX12_teams, cX12_teams, 7, (some FieldType.int), [(0, .aload_n 0, 1, 1), (1, .iconst 0, 1, 2), (2, .putfield 3, 3, 5), (5, .aload_n 0, 1, 6), (6, .iload_n 1, 1, 7), (7, .iconst (-1), 1, 8), (8, .if_icmp .eq 15, 3, 11), (11, .aload_n 0, 1, 12), (12, .iload_n 1, 1, 13), (13, .invokevirtual 288, 3, 16), (16, .ifCond .eq 7, 3, 19), (19, .iconst 1, 1, 20), (20, .goto 4, 3, 23), (23, .iconst 0, 1, 24), (24, .iconst 1, 1, 25), (25, .invokevirtual 240, 3, 28), (28, .ifCond .eq 5, 3, 31), (31, .iconst 0, 1, 32), (32, .ireturn, 1, 33), (33, .aload_n 0, 1, 34), (34, .invokevirtual 388, 3, 37), (37, .iload_n 1, 1, 38), (38, .iconst (-1), 1, 39), (39, .if_icmp .ne 13, 3, 42), (42, .aload_n 0, 1, 43), (43, .getfield 45, 3, 46), (46, .aload_n 0, 1, 47), (47, .invokevirtual 382, 3, 50), (50, .iaload, 1, 51), (51, .ireturn, 1, 52), (52, .aload_n 0, 1, 53), (53, .invokevirtual 382, 3, 56), (56, .istore_n 2, 1, 57), (57, .iconst (-1), 1, 58), (58, .istore_n 3, 1, 59), (59, .iconst 0, 1, 60), (60, .istore 4, 2, 62), (62, .iload 4, 2, 64), (64, .ifCond .ne 98, 3, 67), (67, .iload_n 2, 1, 68), (68, .invokestatic 379, 3, 71), (71, .istore 5, 2, 73), (73, .iconst (-1), 1, 74), (74, .istore 6, 2, 76), (76, .aload_n 0, 1, 77), (77, .iload_n 2, 1, 78), (78, .iload 6, 2, 80), (80, .invokevirtual 385, 3, 83), (83, .aload_n 0, 1, 84), (84, .getfield 45, 3, 87), (87, .iload_n 2, 1, 88), (88, .iaload, 1, 89), (89, .if_icmp .eq 9, 3, 92), (92, .iinc 6 1, 3, 95), (95, .goto (-19), 3, 98), (98, .iload 5, 2, 100), (100, .iload_n 1, 1, 101), (101, .if_icmp .eq 9, 3, 104), (104, .iload 6, 2, 106), (106, .iload_n 1, 1, 107), (107, .if_icmp .ne 7, 3, 110), (110, .iconst 1, 1, 111), (111, .goto 4, 3, 114), (114, .iconst 0, 1, 115), (115, .istore 4, 2, 117), (117, .iload 5, 2, 119), (119, .iload_n 1, 1, 120), (120, .if_icmp .ne 8, 3, 123), (123, .iload 6, 2, 125), (125, .goto 5, 3, 128), (128, .iload 5, 2, 130), (130, .istore_n 3, 1, 131), (131, .iload_n 2, 1, 132), (132, .iconst 1, 1, 133), (133, .iload 5, 2, 135), (135, .ishl, 1, 136), (136, .iconst (-1), 1, 137), (137, .ixor, 1, 138), (138, .iand, 1, 139), (139, .istore_n 2, 1, 140), (140, .iload 6, 2, 142), (142, .iconst (-1), 1, 143), (143, .if_icmp .ne 7, 3, 146), (146, .iload_n 2, 1, 147), (147, .goto 11, 3, 150), (150, .iload_n 2, 1, 151), (151, .iconst 1, 1, 152), (152, .iload 6, 2, 154), (154, .ishl, 1, 155), (155, .iconst (-1), 1, 156), (156, .ixor, 1, 157), (157, .iand, 1, 158), (158, .istore_n 2, 1, 159), (159, .goto (-97), 3, 162), (162, .iload_n 3, 1, 163), (163, .ireturn, 1, 164)], [])
theorem mo_X12_teams : tw_mok mX12_teams 1 := ⟨plainFor_of_name (by decide +kernel), by decide +kernel, by decide +kernel, by decide +kernel, by decide +kernel⟩
theorem dk_X12_teams : tw_dk mX12_teams := by unfold tw_dk; decide +kernel
theorem wv_RX12_388_X12_laysTeams : tw_wV RX12 388 mX12_laysTeams := ⟨List.mem_of_getElem? (i := 2282) (by decide +kernel), List.mem_of_getElem? (i := 2284) (by decide +kernel), List.mem_of_getElem? (i := 107) (by decide +kernel), List.mem_of_getElem? (i := 137) (by decide +kernel), List.mem_of_getElem? (i := 2285) (by decide +kernel)⟩
theorem wf_X12_teams_3 : tw_wf mX12_teams 3 70 := Or.inl rfl
set_option maxRecDepth 20000 in
theorem K_X12_teams {g : tw_Gx} (Q : tw_Rs → tw_Mem → Prop) (a0 : Nat) (a1 : Int32) : tw_Kt g mX12_teams 13 0 0 [.ref a0, .int a1] Q (f_X12_teams a0 a1 (fun v => Q (.inl (some (.int v))))) := by
  refine tw_mkK (L := [some (.ref a0), some (.int a1), none, none, none, none, none]) mo_X12_teams dk_X12_teams rfl (Nat.le_of_ble_eq_true rfl) rfl ?_
  unfold f_X12_teams
  refine tw_aload_n (k := 0) rfl rfl ?_
  refine tw_iconst (k := 1) (0 : Int32) rfl (by decide) ?_
  refine tw_putI (k := 2) rfl fl_RX12_3 wf_X12_teams_3 (by decide +kernel) ?_
  refine tw_aload_n (k := 3) rfl rfl ?_
  refine tw_iload_n (k := 4) rfl rfl ?_
  refine tw_iconst (k := 5) (-1 : Int32) rfl (by decide) ?_
  refine tw_join 24 (fun s2 => [some (.ref a0), some (.int a1), none, none, none, none, none]) (fun s2 => .int s2 :: .ref a0 :: []) 0 0 (fun s2 => ?_) (fun j1 g1 => ?_)
  · refine tw_iconst (k := 14) (1 : Int32) rfl (by decide) ?_
    refine tw_callV (k := 15) (d' := 1) (mc' := 0) (ms' := 0) tw_cI tw_cIi [.int s2, .int (1 : Int32)] rfl rfl wv_RX12_240_X12_throwsIf mo_X12_throwsIf (t := 11) rfl rfl rfl (fun Q9 => K_X12_throwsIf Q9 a0 s2 (1 : Int32)) (by omega) (by decide) (by decide) (Nat.le_of_ble_eq_true rfl) (fun x3 => ?_)
    refine tw_if_eq (k := 16) 33 rfl (by decide) ?_ ?_
    · refine tw_aload_n (k := 19) rfl rfl ?_
      refine tw_callV (k := 20) (d' := 12) (mc' := 0) (ms' := 0) tw_cU tw_cUi [] rfl rfl wv_RX12_388_X12_laysTeams mo_X12_laysTeams (t := 11) rfl rfl rfl (fun Q9 => K_X12_laysTeams Q9 a0) (by omega) (by decide) (by decide) (Nat.le_of_ble_eq_true rfl) (fun u4 => ?_)
      refine tw_iload_n (k := 21) rfl rfl ?_
      refine tw_iconst (k := 22) (-1 : Int32) rfl (by decide) ?_
      refine tw_icmp_ne (k := 23) 52 rfl (by decide) ?_ ?_
      · refine tw_aload_n (k := 30) rfl rfl ?_
        refine tw_callV (k := 31) (d' := 2) (mc' := 0) (ms' := 0) tw_cI tw_cIi [] rfl rfl wv_RX12_382_X12_allPeople mo_X12_allPeople (t := 11) rfl rfl rfl (fun Q9 => K_X12_allPeople Q9 a0) (by omega) (by decide) (by decide) (Nat.le_of_ble_eq_true rfl) (fun x5 => ?_)
        refine tw_ist_n (k := 32) [some (.ref a0), some (.int a1), some (.int x5), none, none, none, none] rfl (Nat.le_of_ble_eq_true rfl) rfl rfl ?_
        refine tw_iconst (k := 33) (-1 : Int32) rfl (by decide) ?_
        refine tw_ist_n (k := 34) [some (.ref a0), some (.int a1), some (.int x5), some (.int (-1 : Int32)), none, none, none] rfl (Nat.le_of_ble_eq_true rfl) rfl rfl ?_
        refine tw_iconst (k := 35) (0 : Int32) rfl (by decide) ?_
        refine tw_ist (k := 36) [some (.ref a0), some (.int a1), some (.int x5), some (.int (-1 : Int32)), some (.int (0 : Int32)), none, none] rfl (Nat.le_of_ble_eq_true rfl) rfl rfl ?_
        refine tw_loop (fun s7 => [some (.ref a0), some (.int a1), some (.int s7.1), some (.int s7.2.1), some (.int s7.2.2), none, none]) (fun s7 => []) (fun r6 h6 s7 => ?_) _ rfl rfl
        refine tw_iload (k := 37) rfl rfl ?_
        refine tw_if_ne (k := 38) 162 rfl (by decide) ?_ ?_
        · refine tw_iload_n (k := 94) rfl rfl ?_
          exact tw_ireturn (k := 95) rfl rfl (by decide) (by decide)
        · refine tw_iload_n (k := 39) rfl rfl ?_
          refine tw_callS (k := 40) (d' := 2) (mc' := 0) (ms' := 0) tw_cI tw_cIi [.int s7.1] rfl rfl ws_RX12_379_X12_firstOf mo_X12_firstOf rfl (fun Q9 => K_X12_firstOf Q9 s7.1) (by omega) (by decide) (by decide) (Nat.le_of_ble_eq_true rfl) (fun x8 => ?_)
          refine tw_ist (k := 41) [some (.ref a0), some (.int a1), some (.int s7.1), some (.int s7.2.1), some (.int s7.2.2), some (.int x8), none] rfl (Nat.le_of_ble_eq_true rfl) rfl rfl ?_
          refine tw_iconst (k := 42) (-1 : Int32) rfl (by decide) ?_
          refine tw_ist (k := 43) [some (.ref a0), some (.int a1), some (.int s7.1), some (.int s7.2.1), some (.int s7.2.2), some (.int x8), some (.int (-1 : Int32))] rfl (Nat.le_of_ble_eq_true rfl) rfl rfl ?_
          refine tw_loop (fun s10 => [some (.ref a0), some (.int a1), some (.int s7.1), some (.int s7.2.1), some (.int s7.2.2), some (.int x8), some (.int s10)]) (fun s10 => []) (fun r9 h9 s10 => ?_) _ rfl rfl
          refine tw_aload_n (k := 44) rfl rfl ?_
          refine tw_iload_n (k := 45) rfl rfl ?_
          refine tw_iload (k := 46) rfl rfl ?_
          refine tw_callV (k := 47) (d' := 3) (mc' := 0) (ms' := 0) tw_cI tw_cIi [.int s7.1, .int s10] rfl rfl wv_RX12_385_X12_teamsBy mo_X12_teamsBy (t := 11) rfl rfl rfl (fun Q9 => K_X12_teamsBy Q9 a0 s7.1 s10) (by omega) (by decide) (by decide) (Nat.le_of_ble_eq_true rfl) (fun x11 => ?_)
          refine tw_aload_n (k := 48) rfl rfl ?_
          refine tw_getR (k := 49) rfl fl_RX12_45 (fun x12 => ?_)
          refine tw_iload_n (k := 50) rfl rfl ?_
          refine tw_iaload (k := 51) rfl (fun x13 => ?_)
          refine tw_icmp_eq (k := 52) 98 rfl (by decide) ?_ ?_
          · refine tw_iload (k := 55) rfl rfl ?_
            refine tw_iload_n (k := 56) rfl rfl ?_
            refine tw_join 115 (fun s15 => [some (.ref a0), some (.int a1), some (.int s7.1), some (.int s7.2.1), some (.int s7.2.2), some (.int x8), some (.int s10)]) (fun s15 => .int s15 :: []) 0 0 (fun s15 => ?_) (fun j14 g14 => ?_)
            · refine tw_ist (k := 64) [some (.ref a0), some (.int a1), some (.int s7.1), some (.int s7.2.1), some (.int s15), some (.int x8), some (.int s10)] rfl (Nat.le_of_ble_eq_true rfl) rfl rfl ?_
              refine tw_iload (k := 65) rfl rfl ?_
              refine tw_iload_n (k := 66) rfl rfl ?_
              refine tw_join 130 (fun s17 => [some (.ref a0), some (.int a1), some (.int s7.1), some (.int s7.2.1), some (.int s15), some (.int x8), some (.int s10)]) (fun s17 => .int s17 :: []) 0 0 (fun s17 => ?_) (fun j16 g16 => ?_)
              · refine tw_ist_n (k := 71) [some (.ref a0), some (.int a1), some (.int s7.1), some (.int s17), some (.int s15), some (.int x8), some (.int s10)] rfl (Nat.le_of_ble_eq_true rfl) rfl rfl ?_
                refine tw_iload_n (k := 72) rfl rfl ?_
                refine tw_iconst (k := 73) (1 : Int32) rfl (by decide) ?_
                refine tw_iload (k := 74) rfl rfl ?_
                refine tw_ishl (k := 75) rfl ?_
                refine tw_iconst (k := 76) (-1 : Int32) rfl (by decide) ?_
                refine tw_ixor (k := 77) rfl ?_
                refine tw_iand (k := 78) rfl ?_
                refine tw_let (fun x18 => [some (.ref a0), some (.int a1), some (.int s7.1), some (.int s17), some (.int s15), some (.int x8), some (.int s10)]) (fun x18 => .int x18 :: []) rfl rfl (fun x18 => ?_)
                refine tw_ist_n (k := 79) [some (.ref a0), some (.int a1), some (.int x18), some (.int s17), some (.int s15), some (.int x8), some (.int s10)] rfl (Nat.le_of_ble_eq_true rfl) rfl rfl ?_
                refine tw_iload (k := 80) rfl rfl ?_
                refine tw_iconst (k := 81) (-1 : Int32) rfl (by decide) ?_
                refine tw_join 158 (fun s20 => [some (.ref a0), some (.int a1), some (.int x18), some (.int s17), some (.int s15), some (.int x8), some (.int s10)]) (fun s20 => .int s20 :: []) 0 0 (fun s20 => ?_) (fun j19 g19 => ?_)
                · refine tw_ist_n (k := 92) [some (.ref a0), some (.int a1), some (.int s20), some (.int s17), some (.int s15), some (.int x8), some (.int s10)] rfl (Nat.le_of_ble_eq_true rfl) rfl rfl ?_
                  refine tw_goto (k := 93) 62 rfl (by decide) ?_
                  exact tw_wk (L' := [some (.ref a0), some (.int a1), some (.int s20), some (.int s17), some (.int s15), none, none]) ⟨Or.inr rfl, Or.inr rfl, Or.inr rfl, Or.inr rfl, Or.inr rfl, Or.inl rfl, Or.inl rfl, trivial⟩ (h6 (s20, s17, s15))
                · refine tw_icmp_ne (k := 82) 150 rfl (by decide) ?_ ?_
                  · refine tw_iload_n (k := 85) rfl rfl ?_
                    refine tw_iconst (k := 86) (1 : Int32) rfl (by decide) ?_
                    refine tw_iload (k := 87) rfl rfl ?_
                    refine tw_ishl (k := 88) rfl ?_
                    refine tw_iconst (k := 89) (-1 : Int32) rfl (by decide) ?_
                    refine tw_ixor (k := 90) rfl ?_
                    refine tw_iand (k := 91) rfl ?_
                    exact g19 (x18 &&& (((1 : Int32) <<< (s10 &&& 31)) ^^^ (-1 : Int32)))
                  · refine tw_iload_n (k := 83) rfl rfl ?_
                    refine tw_goto (k := 84) 158 rfl (by decide) ?_
                    exact g19 x18
              · refine tw_icmp_ne (k := 67) 128 rfl (by decide) ?_ ?_
                · refine tw_iload (k := 70) rfl rfl ?_
                  exact g16 x8
                · refine tw_iload (k := 68) rfl rfl ?_
                  refine tw_goto (k := 69) 130 rfl (by decide) ?_
                  exact g16 s10
            · refine tw_join 110 (fun s22 => [some (.ref a0), some (.int a1), some (.int s7.1), some (.int s7.2.1), some (.int s7.2.2), some (.int x8), some (.int s10)]) (fun s22 => []) 0 0 (fun s22 => ?_) (fun j21 g21 => ?_)
              · refine tw_iconst (k := 61) (1 : Int32) rfl (by decide) ?_
                refine tw_goto (k := 62) 115 rfl (by decide) ?_
                exact g14 (1 : Int32)
              · refine tw_icmp_eq (k := 57) 110 rfl (by decide) ?_ ?_
                · exact g21 ()
                · refine tw_iload (k := 58) rfl rfl ?_
                  refine tw_iload_n (k := 59) rfl rfl ?_
                  refine tw_icmp_ne (k := 60) 114 rfl (by decide) ?_ ?_
                  · refine tw_iconst (k := 63) (0 : Int32) rfl (by decide) ?_
                    exact g14 (0 : Int32)
                  · exact g21 ()
          · refine tw_inc (k := 53) (1 : Int32) [some (.ref a0), some (.int a1), some (.int s7.1), some (.int s7.2.1), some (.int s7.2.2), some (.int x8), some (.int (s10 + (1 : Int32)))] rfl rfl (by decide) (Nat.le_of_ble_eq_true rfl) rfl rfl ?_
            refine tw_goto (k := 54) 76 rfl (by decide) ?_
            exact h9 (s10 + (1 : Int32))
      · refine tw_aload_n (k := 24) rfl rfl ?_
        refine tw_getR (k := 25) rfl fl_RX12_45 (fun x23 => ?_)
        refine tw_aload_n (k := 26) rfl rfl ?_
        refine tw_callV (k := 27) (d' := 2) (mc' := 0) (ms' := 0) tw_cI tw_cIi [] rfl rfl wv_RX12_382_X12_allPeople mo_X12_allPeople (t := 11) rfl rfl rfl (fun Q9 => K_X12_allPeople Q9 a0) (by omega) (by decide) (by decide) (Nat.le_of_ble_eq_true rfl) (fun x24 => ?_)
        refine tw_iaload (k := 28) rfl (fun x25 => ?_)
        exact tw_ireturn (k := 29) rfl rfl (by decide) (by decide)
    · refine tw_iconst (k := 17) (0 : Int32) rfl (by decide) ?_
      exact tw_ireturn (k := 18) rfl rfl (by decide) (by decide)
  · refine tw_join 23 (fun s27 => [some (.ref a0), some (.int a1), none, none, none, none, none]) (fun s27 => .ref a0 :: []) 0 0 (fun s27 => ?_) (fun j26 g26 => ?_)
    · refine tw_iconst (k := 13) (0 : Int32) rfl (by decide) ?_
      exact g1 (0 : Int32)
    · refine tw_icmp_eq (k := 6) 23 rfl (by decide) ?_ ?_
      · exact g26 ()
      · refine tw_aload_n (k := 7) rfl rfl ?_
        refine tw_iload_n (k := 8) rfl rfl ?_
        refine tw_callV (k := 9) (d' := 2) (mc' := 0) (ms' := 0) tw_cI tw_cIi [.int a1] rfl rfl wv_RX12_288_X12_nobody mo_X12_nobody (t := 11) rfl rfl rfl (fun Q9 => K_X12_nobody Q9 a0 a1) (by omega) (by decide) (by decide) (Nat.le_of_ble_eq_true rfl) (fun x28 => ?_)
        refine tw_if_eq (k := 10) 23 rfl (by decide) ?_ ?_
        · exact g26 ()
        · refine tw_iconst (k := 11) (1 : Int32) rfl (by decide) ?_
          refine tw_goto (k := 12) 24 rfl (by decide) ?_
          exact g1 (1 : Int32)
def mX12_fresh : tw_MD := (yX12_fresh, cX12_fresh, 4, (some FieldType.int), [(0, .aload_n 0, 1, 1), (1, .iconst 0, 1, 2), (2, .putfield 3, 3, 5), (5, .iconst 0, 1, 6), (6, .istore_n 1, 1, 7), (7, .iconst 0, 1, 8), (8, .istore_n 2, 1, 9), (9, .iload_n 2, 1, 10), (10, .aload_n 0, 1, 11), (11, .invokevirtual 62, 3, 14), (14, .if_icmp .ge 51, 3, 17), (17, .iload_n 2, 1, 18), (18, .iconst 1, 1, 19), (19, .iadd, 1, 20), (20, .istore_n 3, 1, 21), (21, .iload_n 3, 1, 22), (22, .aload_n 0, 1, 23), (23, .invokevirtual 62, 3, 26), (26, .if_icmp .ge 33, 3, 29), (29, .iload_n 1, 1, 30), (30, .aload_n 0, 1, 31), (31, .iload_n 2, 1, 32), (32, .iload_n 3, 1, 33), (33, .invokevirtual 243, 3, 36), (36, .aload_n 0, 1, 37), (37, .iload_n 3, 1, 38), (38, .iload_n 2, 1, 39), (39, .invokevirtual 243, 3, 42), (42, .iadd, 1, 43), (43, .ifCond .ne 7, 3, 46), (46, .iconst 1, 1, 47), (47, .goto 4, 3, 50), (50, .iconst 0, 1, 51), (51, .iadd, 1, 52), (52, .istore_n 1, 1, 53), (53, .iinc 3 1, 3, 56), (56, .goto (-35), 3, 59), (59, .iinc 2 1, 3, 62), (62, .goto (-53), 3, 65), (65, .iload_n 1, 1, 66), (66, .ireturn, 1, 67)], [])
theorem mo_X12_fresh : tw_mok mX12_fresh 0 := ⟨plainFor_of_name (by decide +kernel), by decide +kernel, by decide +kernel, by decide +kernel, by decide +kernel⟩
theorem dk_X12_fresh : tw_dk mX12_fresh := by unfold tw_dk; decide +kernel
theorem wf_X12_fresh_3 : tw_wf mX12_fresh 3 70 := Or.inl rfl
set_option maxRecDepth 20000 in
theorem K_X12_fresh {g : tw_Gx} (Q : tw_Rs → tw_Mem → Prop) (a0 : Nat) : tw_Kt g mX12_fresh 4 0 0 [.ref a0] Q (f_X12_fresh a0 (fun v => Q (.inl (some (.int v))))) := by
  refine tw_mkK (L := [some (.ref a0), none, none, none]) mo_X12_fresh dk_X12_fresh rfl (Nat.le_of_ble_eq_true rfl) rfl ?_
  unfold f_X12_fresh
  refine tw_aload_n (k := 0) rfl rfl ?_
  refine tw_iconst (k := 1) (0 : Int32) rfl (by decide) ?_
  refine tw_putI (k := 2) rfl fl_RX12_3 wf_X12_fresh_3 (by decide +kernel) ?_
  refine tw_iconst (k := 3) (0 : Int32) rfl (by decide) ?_
  refine tw_ist_n (k := 4) [some (.ref a0), some (.int (0 : Int32)), none, none] rfl (Nat.le_of_ble_eq_true rfl) rfl rfl ?_
  refine tw_iconst (k := 5) (0 : Int32) rfl (by decide) ?_
  refine tw_ist_n (k := 6) [some (.ref a0), some (.int (0 : Int32)), some (.int (0 : Int32)), none] rfl (Nat.le_of_ble_eq_true rfl) rfl rfl ?_
  refine tw_loop (fun s2 => [some (.ref a0), some (.int s2.1), some (.int s2.2), none]) (fun s2 => []) (fun r1 h1 s2 => ?_) _ rfl rfl
  refine tw_iload_n (k := 7) rfl rfl ?_
  refine tw_aload_n (k := 8) rfl rfl ?_
  refine tw_callV (k := 9) (d' := 1) (mc' := 0) (ms' := 0) tw_cI tw_cIi [] rfl rfl wv_RX12_62_X12_people mo_X12_people (t := 11) rfl rfl rfl (fun Q9 => K_X12_people Q9 a0) (by omega) (by decide) (by decide) (Nat.le_of_ble_eq_true rfl) (fun x3 => ?_)
  refine tw_icmp_ge (k := 10) 65 rfl (by decide) ?_ ?_
  · refine tw_iload_n (k := 39) rfl rfl ?_
    exact tw_ireturn (k := 40) rfl rfl (by decide) (by decide)
  · refine tw_iload_n (k := 11) rfl rfl ?_
    refine tw_iconst (k := 12) (1 : Int32) rfl (by decide) ?_
    refine tw_iadd (k := 13) rfl ?_
    refine tw_let (fun x4 => [some (.ref a0), some (.int s2.1), some (.int s2.2), none]) (fun x4 => .int x4 :: []) rfl rfl (fun x4 => ?_)
    refine tw_ist_n (k := 14) [some (.ref a0), some (.int s2.1), some (.int s2.2), some (.int x4)] rfl (Nat.le_of_ble_eq_true rfl) rfl rfl ?_
    refine tw_loop (fun s6 => [some (.ref a0), some (.int s6.1), some (.int s2.2), some (.int s6.2)]) (fun s6 => []) (fun r5 h5 s6 => ?_) _ rfl rfl
    refine tw_iload_n (k := 15) rfl rfl ?_
    refine tw_aload_n (k := 16) rfl rfl ?_
    refine tw_callV (k := 17) (d' := 1) (mc' := 0) (ms' := 0) tw_cI tw_cIi [] rfl rfl wv_RX12_62_X12_people mo_X12_people (t := 11) rfl rfl rfl (fun Q9 => K_X12_people Q9 a0) (by omega) (by decide) (by decide) (Nat.le_of_ble_eq_true rfl) (fun x7 => ?_)
    refine tw_icmp_ge (k := 18) 59 rfl (by decide) ?_ ?_
    · refine tw_inc (k := 37) (1 : Int32) [some (.ref a0), some (.int s6.1), some (.int (s2.2 + (1 : Int32))), some (.int s6.2)] rfl rfl (by decide) (Nat.le_of_ble_eq_true rfl) rfl rfl ?_
      refine tw_goto (k := 38) 9 rfl (by decide) ?_
      exact tw_wk (L' := [some (.ref a0), some (.int s6.1), some (.int (s2.2 + (1 : Int32))), none]) ⟨Or.inr rfl, Or.inr rfl, Or.inr rfl, Or.inl rfl, trivial⟩ (h1 (s6.1, s2.2 + (1 : Int32)))
    · refine tw_iload_n (k := 19) rfl rfl ?_
      refine tw_aload_n (k := 20) rfl rfl ?_
      refine tw_iload_n (k := 21) rfl rfl ?_
      refine tw_iload_n (k := 22) rfl rfl ?_
      refine tw_callV (k := 23) (d' := 3) (mc' := 0) (ms' := 0) tw_cI tw_cIi [.int s2.2, .int s6.2] rfl rfl wv_RX12_243_X12_guessOf mo_X12_guessOf (t := 11) rfl rfl rfl (fun Q9 => K_X12_guessOf Q9 a0 s2.2 s6.2) (by omega) (by decide) (by decide) (Nat.le_of_ble_eq_true rfl) (fun x8 => ?_)
      refine tw_aload_n (k := 24) rfl rfl ?_
      refine tw_iload_n (k := 25) rfl rfl ?_
      refine tw_iload_n (k := 26) rfl rfl ?_
      refine tw_callV (k := 27) (d' := 3) (mc' := 0) (ms' := 0) tw_cI tw_cIi [.int s6.2, .int s2.2] rfl rfl wv_RX12_243_X12_guessOf mo_X12_guessOf (t := 11) rfl rfl rfl (fun Q9 => K_X12_guessOf Q9 a0 s6.2 s2.2) (by omega) (by decide) (by decide) (Nat.le_of_ble_eq_true rfl) (fun x9 => ?_)
      refine tw_iadd (k := 28) rfl ?_
      refine tw_join 51 (fun s11 => [some (.ref a0), some (.int s6.1), some (.int s2.2), some (.int s6.2)]) (fun s11 => .int s11 :: .int s6.1 :: []) 0 0 (fun s11 => ?_) (fun j10 g10 => ?_)
      · refine tw_iadd (k := 33) rfl ?_
        refine tw_let (fun x12 => [some (.ref a0), some (.int s6.1), some (.int s2.2), some (.int s6.2)]) (fun x12 => .int x12 :: []) rfl rfl (fun x12 => ?_)
        refine tw_ist_n (k := 34) [some (.ref a0), some (.int x12), some (.int s2.2), some (.int s6.2)] rfl (Nat.le_of_ble_eq_true rfl) rfl rfl ?_
        refine tw_inc (k := 35) (1 : Int32) [some (.ref a0), some (.int x12), some (.int s2.2), some (.int (s6.2 + (1 : Int32)))] rfl rfl (by decide) (Nat.le_of_ble_eq_true rfl) rfl rfl ?_
        refine tw_goto (k := 36) 21 rfl (by decide) ?_
        exact h5 (x12, s6.2 + (1 : Int32))
      · refine tw_if_ne (k := 29) 50 rfl (by decide) ?_ ?_
        · refine tw_iconst (k := 32) (0 : Int32) rfl (by decide) ?_
          exact g10 (0 : Int32)
        · refine tw_iconst (k := 30) (1 : Int32) rfl (by decide) ?_
          refine tw_goto (k := 31) 51 rfl (by decide) ?_
          exact g10 (1 : Int32)
def mX12_nobodyKnows : tw_MD := (yX12_nobodyKnows, cX12_nobodyKnows, 4, (some FieldType.boolean), [(0, .iconst 1, 1, 1), (1, .istore_n 2, 1, 2), (2, .iconst 0, 1, 3), (3, .istore_n 3, 1, 4), (4, .iload_n 3, 1, 5), (5, .aload_n 0, 1, 6), (6, .invokevirtual 62, 3, 9), (9, .if_icmp .ge 37, 3, 12), (12, .iload_n 2, 1, 13), (13, .ifCond .eq 25, 3, 16), (16, .iload_n 1, 1, 17), (17, .iload_n 3, 1, 18), (18, .invokestatic 334, 3, 21), (21, .ifCond .eq 13, 3, 24), (24, .aload_n 0, 1, 25), (25, .iload_n 3, 1, 26), (26, .invokevirtual 303, 3, 29), (29, .iload_n 1, 1, 30), (30, .iand, 1, 31), (31, .ifCond .ne 7, 3, 34), (34, .iconst 1, 1, 35), (35, .goto 4, 3, 38), (38, .iconst 0, 1, 39), (39, .istore_n 2, 1, 40), (40, .iinc 3 1, 3, 43), (43, .goto (-39), 3, 46), (46, .iload_n 2, 1, 47), (47, .ireturn, 1, 48)], [])
theorem mo_X12_nobodyKnows : tw_mok mX12_nobodyKnows 1 := ⟨plainFor_of_name (by decide +kernel), by decide +kernel, by decide +kernel, by decide +kernel, by decide +kernel⟩
theorem dk_X12_nobodyKnows : tw_dk mX12_nobodyKnows := by unfold tw_dk; decide +kernel
set_option maxRecDepth 20000 in
theorem K_X12_nobodyKnows {g : tw_Gx} (Q : tw_Rs → tw_Mem → Prop) (a0 : Nat) (a1 : Int32) : tw_Kt g mX12_nobodyKnows 5 0 0 [.ref a0, .int a1] Q (f_X12_nobodyKnows a0 a1 (fun v => Q (.inl (some (.int v))))) := by
  refine tw_mkK (L := [some (.ref a0), some (.int a1), none, none]) mo_X12_nobodyKnows dk_X12_nobodyKnows rfl (Nat.le_of_ble_eq_true rfl) rfl ?_
  unfold f_X12_nobodyKnows
  refine tw_iconst (k := 0) (1 : Int32) rfl (by decide) ?_
  refine tw_ist_n (k := 1) [some (.ref a0), some (.int a1), some (.int (1 : Int32)), none] rfl (Nat.le_of_ble_eq_true rfl) rfl rfl ?_
  refine tw_iconst (k := 2) (0 : Int32) rfl (by decide) ?_
  refine tw_ist_n (k := 3) [some (.ref a0), some (.int a1), some (.int (1 : Int32)), some (.int (0 : Int32))] rfl (Nat.le_of_ble_eq_true rfl) rfl rfl ?_
  refine tw_loop (fun s2 => [some (.ref a0), some (.int a1), some (.int s2.1), some (.int s2.2)]) (fun s2 => []) (fun r1 h1 s2 => ?_) _ rfl rfl
  refine tw_iload_n (k := 4) rfl rfl ?_
  refine tw_aload_n (k := 5) rfl rfl ?_
  refine tw_callV (k := 6) (d' := 1) (mc' := 0) (ms' := 0) tw_cI tw_cIi [] rfl rfl wv_RX12_62_X12_people mo_X12_people (t := 11) rfl rfl rfl (fun Q9 => K_X12_people Q9 a0) (by omega) (by decide) (by decide) (Nat.le_of_ble_eq_true rfl) (fun x3 => ?_)
  refine tw_icmp_ge (k := 7) 46 rfl (by decide) ?_ ?_
  · refine tw_iload_n (k := 26) rfl rfl ?_
    exact tw_zreturn (k := 27) rfl rfl (by decide) (by decide)
  · refine tw_iload_n (k := 8) rfl rfl ?_
    refine tw_join 39 (fun s5 => [some (.ref a0), some (.int a1), some (.int s2.1), some (.int s2.2)]) (fun s5 => .int s5 :: []) 0 0 (fun s5 => ?_) (fun j4 g4 => ?_)
    · refine tw_ist_n (k := 23) [some (.ref a0), some (.int a1), some (.int s5), some (.int s2.2)] rfl (Nat.le_of_ble_eq_true rfl) rfl rfl ?_
      refine tw_inc (k := 24) (1 : Int32) [some (.ref a0), some (.int a1), some (.int s5), some (.int (s2.2 + (1 : Int32)))] rfl rfl (by decide) (Nat.le_of_ble_eq_true rfl) rfl rfl ?_
      refine tw_goto (k := 25) 4 rfl (by decide) ?_
      exact h1 (s5, s2.2 + (1 : Int32))
    · refine tw_join 38 (fun s7 => [some (.ref a0), some (.int a1), some (.int s2.1), some (.int s2.2)]) (fun s7 => []) 0 0 (fun s7 => ?_) (fun j6 g6 => ?_)
      · refine tw_iconst (k := 22) (0 : Int32) rfl (by decide) ?_
        exact g4 (0 : Int32)
      · refine tw_if_eq (k := 9) 38 rfl (by decide) ?_ ?_
        · exact g6 ()
        · refine tw_iload_n (k := 10) rfl rfl ?_
          refine tw_iload_n (k := 11) rfl rfl ?_
          refine tw_callS (k := 12) (d' := 1) (mc' := 0) (ms' := 0) tw_cI tw_cIi [.int a1, .int s2.2] rfl rfl ws_RX12_334_X12_has mo_X12_has rfl (fun Q9 => K_X12_has Q9 a1 s2.2) (by omega) (by decide) (by decide) (Nat.le_of_ble_eq_true rfl) (fun x8 => ?_)
          refine tw_join 34 (fun s10 => [some (.ref a0), some (.int a1), some (.int s2.1), some (.int s2.2)]) (fun s10 => []) 0 0 (fun s10 => ?_) (fun j9 g9 => ?_)
          · refine tw_iconst (k := 20) (1 : Int32) rfl (by decide) ?_
            refine tw_goto (k := 21) 39 rfl (by decide) ?_
            exact g4 (1 : Int32)
          · refine tw_if_eq (k := 13) 34 rfl (by decide) ?_ ?_
            · exact g9 ()
            · refine tw_aload_n (k := 14) rfl rfl ?_
              refine tw_iload_n (k := 15) rfl rfl ?_
              refine tw_callV (k := 16) (d' := 4) (mc' := 0) (ms' := 0) tw_cI tw_cIi [.int s2.2] rfl rfl wv_RX12_303_X12_knownBy mo_X12_knownBy (t := 11) rfl rfl rfl (fun Q9 => K_X12_knownBy Q9 a0 s2.2) (by omega) (by decide) (by decide) (Nat.le_of_ble_eq_true rfl) (fun x11 => ?_)
              refine tw_iload_n (k := 17) rfl rfl ?_
              refine tw_iand (k := 18) rfl ?_
              refine tw_if_ne (k := 19) 38 rfl (by decide) ?_ ?_
              · exact g6 ()
              · exact g9 ()
def mX12_crowd : tw_MD := (yX12_crowd, cX12_crowd, 3, (some FieldType.int), [(0, .aload_n 0, 1, 1), (1, .iconst 0, 1, 2), (2, .putfield 3, 3, 5), (5, .iconst 0, 1, 6), (6, .istore_n 1, 1, 7), (7, .iconst 1, 1, 8), (8, .istore_n 2, 1, 9), (9, .iload_n 2, 1, 10), (10, .aload_n 0, 1, 11), (11, .invokevirtual 382, 3, 14), (14, .if_icmp .gt 30, 3, 17), (17, .iload_n 2, 1, 18), (18, .invokestatic 280, 3, 21), (21, .iload_n 1, 1, 22), (22, .invokestatic 280, 3, 25), (25, .if_icmp .le 13, 3, 28), (28, .aload_n 0, 1, 29), (29, .iload_n 2, 1, 30), (30, .invokevirtual 391, 3, 33), (33, .ifCond .eq 5, 3, 36), (36, .iload_n 2, 1, 37), (37, .istore_n 1, 1, 38), (38, .iinc 2 1, 3, 41), (41, .goto (-32), 3, 44), (44, .iload_n 1, 1, 45), (45, .ireturn, 1, 46)], [])
theorem mo_X12_crowd : tw_mok mX12_crowd 0 := ⟨plainFor_of_name (by decide +kernel), by decide +kernel, by decide +kernel, by decide +kernel, by decide +kernel⟩
theorem dk_X12_crowd : tw_dk mX12_crowd := by unfold tw_dk; decide +kernel
theorem wv_RX12_391_X12_nobodyKnows : tw_wV RX12 391 mX12_nobodyKnows := ⟨List.mem_of_getElem? (i := 2309) (by decide +kernel), List.mem_of_getElem? (i := 2311) (by decide +kernel), List.mem_of_getElem? (i := 110) (by decide +kernel), List.mem_of_getElem? (i := 137) (by decide +kernel), List.mem_of_getElem? (i := 2312) (by decide +kernel)⟩
theorem wf_X12_crowd_3 : tw_wf mX12_crowd 3 70 := Or.inl rfl
set_option maxRecDepth 20000 in
theorem K_X12_crowd {g : tw_Gx} (Q : tw_Rs → tw_Mem → Prop) (a0 : Nat) : tw_Kt g mX12_crowd 6 0 0 [.ref a0] Q (f_X12_crowd a0 (fun v => Q (.inl (some (.int v))))) := by
  refine tw_mkK (L := [some (.ref a0), none, none]) mo_X12_crowd dk_X12_crowd rfl (Nat.le_of_ble_eq_true rfl) rfl ?_
  unfold f_X12_crowd
  refine tw_aload_n (k := 0) rfl rfl ?_
  refine tw_iconst (k := 1) (0 : Int32) rfl (by decide) ?_
  refine tw_putI (k := 2) rfl fl_RX12_3 wf_X12_crowd_3 (by decide +kernel) ?_
  refine tw_iconst (k := 3) (0 : Int32) rfl (by decide) ?_
  refine tw_ist_n (k := 4) [some (.ref a0), some (.int (0 : Int32)), none] rfl (Nat.le_of_ble_eq_true rfl) rfl rfl ?_
  refine tw_iconst (k := 5) (1 : Int32) rfl (by decide) ?_
  refine tw_ist_n (k := 6) [some (.ref a0), some (.int (0 : Int32)), some (.int (1 : Int32))] rfl (Nat.le_of_ble_eq_true rfl) rfl rfl ?_
  refine tw_loop (fun s2 => [some (.ref a0), some (.int s2.1), some (.int s2.2)]) (fun s2 => []) (fun r1 h1 s2 => ?_) _ rfl rfl
  refine tw_iload_n (k := 7) rfl rfl ?_
  refine tw_aload_n (k := 8) rfl rfl ?_
  refine tw_callV (k := 9) (d' := 2) (mc' := 0) (ms' := 0) tw_cI tw_cIi [] rfl rfl wv_RX12_382_X12_allPeople mo_X12_allPeople (t := 11) rfl rfl rfl (fun Q9 => K_X12_allPeople Q9 a0) (by omega) (by decide) (by decide) (Nat.le_of_ble_eq_true rfl) (fun x3 => ?_)
  refine tw_icmp_gt (k := 10) 44 rfl (by decide) ?_ ?_
  · refine tw_iload_n (k := 24) rfl rfl ?_
    exact tw_ireturn (k := 25) rfl rfl (by decide) (by decide)
  · refine tw_iload_n (k := 11) rfl rfl ?_
    refine tw_callS (k := 12) (d' := 1) (mc' := 0) (ms' := 0) tw_cI tw_cIi [.int s2.2] rfl rfl ws_RX12_280_J6_bitCount_0f7a4 mo_J6_bitCount_0f7a4 rfl (fun Q9 => K_J6_bitCount_0f7a4 Q9 s2.2) (by omega) (by decide) (by decide) (Nat.le_of_ble_eq_true rfl) (fun x4 => ?_)
    refine tw_iload_n (k := 13) rfl rfl ?_
    refine tw_callS (k := 14) (d' := 1) (mc' := 0) (ms' := 0) tw_cI tw_cIi [.int s2.1] rfl rfl ws_RX12_280_J6_bitCount_0f7a4 mo_J6_bitCount_0f7a4 rfl (fun Q9 => K_J6_bitCount_0f7a4 Q9 s2.1) (by omega) (by decide) (by decide) (Nat.le_of_ble_eq_true rfl) (fun x5 => ?_)
    refine tw_join 38 (fun s7 => [some (.ref a0), some (.int s7), some (.int s2.2)]) (fun s7 => []) 0 0 (fun s7 => ?_) (fun j6 g6 => ?_)
    · refine tw_inc (k := 22) (1 : Int32) [some (.ref a0), some (.int s7), some (.int (s2.2 + (1 : Int32)))] rfl rfl (by decide) (Nat.le_of_ble_eq_true rfl) rfl rfl ?_
      refine tw_goto (k := 23) 9 rfl (by decide) ?_
      exact h1 (s7, s2.2 + (1 : Int32))
    · refine tw_icmp_le (k := 15) 38 rfl (by decide) ?_ ?_
      · exact g6 s2.1
      · refine tw_aload_n (k := 16) rfl rfl ?_
        refine tw_iload_n (k := 17) rfl rfl ?_
        refine tw_callV (k := 18) (d' := 5) (mc' := 0) (ms' := 0) tw_cI tw_cIi [.int s2.2] rfl rfl wv_RX12_391_X12_nobodyKnows mo_X12_nobodyKnows (t := 11) rfl rfl rfl (fun Q9 => K_X12_nobodyKnows Q9 a0 s2.2) (by omega) (by decide) (by decide) (Nat.le_of_ble_eq_true rfl) (fun x8 => ?_)
        refine tw_if_eq (k := 19) 38 rfl (by decide) ?_ ?_
        · exact g6 s2.1
        · refine tw_iload_n (k := 20) rfl rfl ?_
          refine tw_ist_n (k := 21) [some (.ref a0), some (.int s2.2), some (.int s2.2)] rfl (Nat.le_of_ble_eq_true rfl) rfl rfl ?_
          exact g6 s2.2
def mX12_go : tw_MD := (yX12_go, cX12_go, 3, (some FieldType.int), [(0, .aload_n 0, 1, 1), (1, .iconst 0, 1, 2), (2, .putfield 3, 3, 5), (5, .aload_n 0, 1, 6), (6, .invokevirtual 382, 3, 9), (9, .istore_n 1, 1, 10), (10, .aload_n 0, 1, 11), (11, .invokevirtual 382, 3, 14), (14, .istore_n 2, 1, 15), (15, .iload_n 2, 1, 16), (16, .ifCond .lt 37, 3, 19), (19, .iload_n 2, 1, 20), (20, .invokestatic 280, 3, 23), (23, .iload_n 1, 1, 24), (24, .invokestatic 280, 3, 27), (27, .if_icmp .gt 20, 3, 30), (30, .aload_n 0, 1, 31), (31, .aload_n 0, 1, 32), (32, .invokevirtual 382, 3, 35), (35, .iload_n 2, 1, 36), (36, .iconst (-1), 1, 37), (37, .ixor, 1, 38), (38, .iand, 1, 39), (39, .invokevirtual 391, 3, 42), (42, .ifCond .eq 5, 3, 45), (45, .iload_n 2, 1, 46), (46, .istore_n 1, 1, 47), (47, .iinc 2 (-1), 3, 50), (50, .goto (-35), 3, 53), (53, .iload_n 1, 1, 54), (54, .ireturn, 1, 55)], [])
theorem mo_X12_go : tw_mok mX12_go 0 := ⟨plainFor_of_name (by decide +kernel), by decide +kernel, by decide +kernel, by decide +kernel, by decide +kernel⟩
theorem dk_X12_go : tw_dk mX12_go := by unfold tw_dk; decide +kernel
theorem wf_X12_go_3 : tw_wf mX12_go 3 70 := Or.inl rfl
set_option maxRecDepth 20000 in
theorem K_X12_go {g : tw_Gx} (Q : tw_Rs → tw_Mem → Prop) (a0 : Nat) : tw_Kt g mX12_go 6 0 0 [.ref a0] Q (f_X12_go a0 (fun v => Q (.inl (some (.int v))))) := by
  refine tw_mkK (L := [some (.ref a0), none, none]) mo_X12_go dk_X12_go rfl (Nat.le_of_ble_eq_true rfl) rfl ?_
  unfold f_X12_go
  refine tw_aload_n (k := 0) rfl rfl ?_
  refine tw_iconst (k := 1) (0 : Int32) rfl (by decide) ?_
  refine tw_putI (k := 2) rfl fl_RX12_3 wf_X12_go_3 (by decide +kernel) ?_
  refine tw_aload_n (k := 3) rfl rfl ?_
  refine tw_callV (k := 4) (d' := 2) (mc' := 0) (ms' := 0) tw_cI tw_cIi [] rfl rfl wv_RX12_382_X12_allPeople mo_X12_allPeople (t := 11) rfl rfl rfl (fun Q9 => K_X12_allPeople Q9 a0) (by omega) (by decide) (by decide) (Nat.le_of_ble_eq_true rfl) (fun x1 => ?_)
  refine tw_ist_n (k := 5) [some (.ref a0), some (.int x1), none] rfl (Nat.le_of_ble_eq_true rfl) rfl rfl ?_
  refine tw_aload_n (k := 6) rfl rfl ?_
  refine tw_callV (k := 7) (d' := 2) (mc' := 0) (ms' := 0) tw_cI tw_cIi [] rfl rfl wv_RX12_382_X12_allPeople mo_X12_allPeople (t := 11) rfl rfl rfl (fun Q9 => K_X12_allPeople Q9 a0) (by omega) (by decide) (by decide) (Nat.le_of_ble_eq_true rfl) (fun x2 => ?_)
  refine tw_ist_n (k := 8) [some (.ref a0), some (.int x1), some (.int x2)] rfl (Nat.le_of_ble_eq_true rfl) rfl rfl ?_
  refine tw_loop (fun s4 => [some (.ref a0), some (.int s4.1), some (.int s4.2)]) (fun s4 => []) (fun r3 h3 s4 => ?_) _ rfl rfl
  refine tw_iload_n (k := 9) rfl rfl ?_
  refine tw_if_lt (k := 10) 53 rfl (by decide) ?_ ?_
  · refine tw_iload_n (k := 29) rfl rfl ?_
    exact tw_ireturn (k := 30) rfl rfl (by decide) (by decide)
  · refine tw_iload_n (k := 11) rfl rfl ?_
    refine tw_callS (k := 12) (d' := 1) (mc' := 0) (ms' := 0) tw_cI tw_cIi [.int s4.2] rfl rfl ws_RX12_280_J6_bitCount_0f7a4 mo_J6_bitCount_0f7a4 rfl (fun Q9 => K_J6_bitCount_0f7a4 Q9 s4.2) (by omega) (by decide) (by decide) (Nat.le_of_ble_eq_true rfl) (fun x5 => ?_)
    refine tw_iload_n (k := 13) rfl rfl ?_
    refine tw_callS (k := 14) (d' := 1) (mc' := 0) (ms' := 0) tw_cI tw_cIi [.int s4.1] rfl rfl ws_RX12_280_J6_bitCount_0f7a4 mo_J6_bitCount_0f7a4 rfl (fun Q9 => K_J6_bitCount_0f7a4 Q9 s4.1) (by omega) (by decide) (by decide) (Nat.le_of_ble_eq_true rfl) (fun x6 => ?_)
    refine tw_join 47 (fun s8 => [some (.ref a0), some (.int s8), some (.int s4.2)]) (fun s8 => []) 0 0 (fun s8 => ?_) (fun j7 g7 => ?_)
    · refine tw_inc (k := 27) (-1 : Int32) [some (.ref a0), some (.int s8), some (.int (s4.2 + (-1 : Int32)))] rfl rfl (by decide) (Nat.le_of_ble_eq_true rfl) rfl rfl ?_
      refine tw_goto (k := 28) 15 rfl (by decide) ?_
      exact h3 (s8, s4.2 + (-1 : Int32))
    · refine tw_icmp_gt (k := 15) 47 rfl (by decide) ?_ ?_
      · exact g7 s4.1
      · refine tw_aload_n (k := 16) rfl rfl ?_
        refine tw_aload_n (k := 17) rfl rfl ?_
        refine tw_callV (k := 18) (d' := 2) (mc' := 0) (ms' := 0) tw_cI tw_cIi [] rfl rfl wv_RX12_382_X12_allPeople mo_X12_allPeople (t := 11) rfl rfl rfl (fun Q9 => K_X12_allPeople Q9 a0) (by omega) (by decide) (by decide) (Nat.le_of_ble_eq_true rfl) (fun x9 => ?_)
        refine tw_iload_n (k := 19) rfl rfl ?_
        refine tw_iconst (k := 20) (-1 : Int32) rfl (by decide) ?_
        refine tw_ixor (k := 21) rfl ?_
        refine tw_iand (k := 22) rfl ?_
        refine tw_callV (k := 23) (d' := 5) (mc' := 0) (ms' := 0) tw_cI tw_cIi [.int (x9 &&& (s4.2 ^^^ (-1 : Int32)))] rfl rfl wv_RX12_391_X12_nobodyKnows mo_X12_nobodyKnows (t := 11) rfl rfl rfl (fun Q9 => K_X12_nobodyKnows Q9 a0 (x9 &&& (s4.2 ^^^ (-1 : Int32)))) (by omega) (by decide) (by decide) (Nat.le_of_ble_eq_true rfl) (fun x10 => ?_)
        refine tw_if_eq (k := 24) 47 rfl (by decide) ?_ ?_
        · exact g7 s4.1
        · refine tw_iload_n (k := 25) rfl rfl ?_
          refine tw_ist_n (k := 26) [some (.ref a0), some (.int s4.2), some (.int s4.2)] rfl (Nat.le_of_ble_eq_true rfl) rfl rfl ?_
          exact g7 s4.2
def mX12_across : tw_MD := (yX12_across, cX12_across, 5, (some FieldType.int), [(0, .iconst 0, 1, 1), (1, .istore_n 2, 1, 2), (2, .iconst 0, 1, 3), (3, .istore_n 3, 1, 4), (4, .iload_n 3, 1, 5), (5, .aload_n 0, 1, 6), (6, .invokevirtual 62, 3, 9), (9, .if_icmp .ge 62, 3, 12), (12, .iconst 0, 1, 13), (13, .istore 4, 2, 15), (15, .iload 4, 2, 17), (17, .aload_n 0, 1, 18), (18, .invokevirtual 62, 3, 21), (21, .if_icmp .ge 44, 3, 24), (24, .iload_n 2, 1, 25), (25, .iload_n 1, 1, 26), (26, .iload_n 3, 1, 27), (27, .invokestatic 334, 3, 30), (30, .ifCond .eq 26, 3, 33), (33, .iload_n 1, 1, 34), (34, .iload 4, 2, 36), (36, .invokestatic 334, 3, 39), (39, .ifCond .ne 17, 3, 42), (42, .aload_n 0, 1, 43), (43, .iload_n 3, 1, 44), (44, .iload 4, 2, 46), (46, .invokevirtual 266, 3, 49), (49, .ifCond .eq 7, 3, 52), (52, .iconst 1, 1, 53), (53, .goto 4, 3, 56), (56, .iconst 0, 1, 57), (57, .iadd, 1, 58), (58, .istore_n 2, 1, 59), (59, .iinc 4 1, 3, 62), (62, .goto (-47), 3, 65), (65, .iinc 3 1, 3, 68), (68, .goto (-64), 3, 71), (71, .iload_n 2, 1, 72), (72, .ireturn, 1, 73)], [])
theorem mo_X12_across : tw_mok mX12_across 1 := ⟨plainFor_of_name (by decide +kernel), by decide +kernel, by decide +kernel, by decide +kernel, by decide +kernel⟩
theorem dk_X12_across : tw_dk mX12_across := by unfold tw_dk; decide +kernel
set_option maxRecDepth 20000 in
theorem K_X12_across {g : tw_Gx} (Q : tw_Rs → tw_Mem → Prop) (a0 : Nat) (a1 : Int32) : tw_Kt g mX12_across 6 0 0 [.ref a0, .int a1] Q (f_X12_across a0 a1 (fun v => Q (.inl (some (.int v))))) := by
  refine tw_mkK (L := [some (.ref a0), some (.int a1), none, none, none]) mo_X12_across dk_X12_across rfl (Nat.le_of_ble_eq_true rfl) rfl ?_
  unfold f_X12_across
  refine tw_iconst (k := 0) (0 : Int32) rfl (by decide) ?_
  refine tw_ist_n (k := 1) [some (.ref a0), some (.int a1), some (.int (0 : Int32)), none, none] rfl (Nat.le_of_ble_eq_true rfl) rfl rfl ?_
  refine tw_iconst (k := 2) (0 : Int32) rfl (by decide) ?_
  refine tw_ist_n (k := 3) [some (.ref a0), some (.int a1), some (.int (0 : Int32)), some (.int (0 : Int32)), none] rfl (Nat.le_of_ble_eq_true rfl) rfl rfl ?_
  refine tw_loop (fun s2 => [some (.ref a0), some (.int a1), some (.int s2.1), some (.int s2.2), none]) (fun s2 => []) (fun r1 h1 s2 => ?_) _ rfl rfl
  refine tw_iload_n (k := 4) rfl rfl ?_
  refine tw_aload_n (k := 5) rfl rfl ?_
  refine tw_callV (k := 6) (d' := 1) (mc' := 0) (ms' := 0) tw_cI tw_cIi [] rfl rfl wv_RX12_62_X12_people mo_X12_people (t := 11) rfl rfl rfl (fun Q9 => K_X12_people Q9 a0) (by omega) (by decide) (by decide) (Nat.le_of_ble_eq_true rfl) (fun x3 => ?_)
  refine tw_icmp_ge (k := 7) 71 rfl (by decide) ?_ ?_
  · refine tw_iload_n (k := 37) rfl rfl ?_
    exact tw_ireturn (k := 38) rfl rfl (by decide) (by decide)
  · refine tw_iconst (k := 8) (0 : Int32) rfl (by decide) ?_
    refine tw_ist (k := 9) [some (.ref a0), some (.int a1), some (.int s2.1), some (.int s2.2), some (.int (0 : Int32))] rfl (Nat.le_of_ble_eq_true rfl) rfl rfl ?_
    refine tw_loop (fun s5 => [some (.ref a0), some (.int a1), some (.int s5.1), some (.int s2.2), some (.int s5.2)]) (fun s5 => []) (fun r4 h4 s5 => ?_) _ rfl rfl
    refine tw_iload (k := 10) rfl rfl ?_
    refine tw_aload_n (k := 11) rfl rfl ?_
    refine tw_callV (k := 12) (d' := 1) (mc' := 0) (ms' := 0) tw_cI tw_cIi [] rfl rfl wv_RX12_62_X12_people mo_X12_people (t := 11) rfl rfl rfl (fun Q9 => K_X12_people Q9 a0) (by omega) (by decide) (by decide) (Nat.le_of_ble_eq_true rfl) (fun x6 => ?_)
    refine tw_icmp_ge (k := 13) 65 rfl (by decide) ?_ ?_
    · refine tw_inc (k := 35) (1 : Int32) [some (.ref a0), some (.int a1), some (.int s5.1), some (.int (s2.2 + (1 : Int32))), some (.int s5.2)] rfl rfl (by decide) (Nat.le_of_ble_eq_true rfl) rfl rfl ?_
      refine tw_goto (k := 36) 4 rfl (by decide) ?_
      exact tw_wk (L' := [some (.ref a0), some (.int a1), some (.int s5.1), some (.int (s2.2 + (1 : Int32))), none]) ⟨Or.inr rfl, Or.inr rfl, Or.inr rfl, Or.inr rfl, Or.inl rfl, trivial⟩ (h1 (s5.1, s2.2 + (1 : Int32)))
    · refine tw_iload_n (k := 14) rfl rfl ?_
      refine tw_iload_n (k := 15) rfl rfl ?_
      refine tw_iload_n (k := 16) rfl rfl ?_
      refine tw_callS (k := 17) (d' := 1) (mc' := 0) (ms' := 0) tw_cI tw_cIi [.int a1, .int s2.2] rfl rfl ws_RX12_334_X12_has mo_X12_has rfl (fun Q9 => K_X12_has Q9 a1 s2.2) (by omega) (by decide) (by decide) (Nat.le_of_ble_eq_true rfl) (fun x7 => ?_)
      refine tw_join 57 (fun s9 => [some (.ref a0), some (.int a1), some (.int s5.1), some (.int s2.2), some (.int s5.2)]) (fun s9 => .int s9 :: .int s5.1 :: []) 0 0 (fun s9 => ?_) (fun j8 g8 => ?_)
      · refine tw_iadd (k := 31) rfl ?_
        refine tw_let (fun x10 => [some (.ref a0), some (.int a1), some (.int s5.1), some (.int s2.2), some (.int s5.2)]) (fun x10 => .int x10 :: []) rfl rfl (fun x10 => ?_)
        refine tw_ist_n (k := 32) [some (.ref a0), some (.int a1), some (.int x10), some (.int s2.2), some (.int s5.2)] rfl (Nat.le_of_ble_eq_true rfl) rfl rfl ?_
        refine tw_inc (k := 33) (1 : Int32) [some (.ref a0), some (.int a1), some (.int x10), some (.int s2.2), some (.int (s5.2 + (1 : Int32)))] rfl rfl (by decide) (Nat.le_of_ble_eq_true rfl) rfl rfl ?_
        refine tw_goto (k := 34) 15 rfl (by decide) ?_
        exact h4 (x10, s5.2 + (1 : Int32))
      · refine tw_join 56 (fun s12 => [some (.ref a0), some (.int a1), some (.int s5.1), some (.int s2.2), some (.int s5.2)]) (fun s12 => .int s5.1 :: []) 0 0 (fun s12 => ?_) (fun j11 g11 => ?_)
        · refine tw_iconst (k := 30) (0 : Int32) rfl (by decide) ?_
          exact g8 (0 : Int32)
        · refine tw_if_eq (k := 18) 56 rfl (by decide) ?_ ?_
          · exact g11 ()
          · refine tw_iload_n (k := 19) rfl rfl ?_
            refine tw_iload (k := 20) rfl rfl ?_
            refine tw_callS (k := 21) (d' := 1) (mc' := 0) (ms' := 0) tw_cI tw_cIi [.int a1, .int s5.2] rfl rfl ws_RX12_334_X12_has mo_X12_has rfl (fun Q9 => K_X12_has Q9 a1 s5.2) (by omega) (by decide) (by decide) (Nat.le_of_ble_eq_true rfl) (fun x13 => ?_)
            refine tw_if_ne (k := 22) 56 rfl (by decide) ?_ ?_
            · exact g11 ()
            · refine tw_aload_n (k := 23) rfl rfl ?_
              refine tw_iload_n (k := 24) rfl rfl ?_
              refine tw_iload (k := 25) rfl rfl ?_
              refine tw_callV (k := 26) (d' := 5) (mc' := 0) (ms' := 0) tw_cI tw_cIi [.int s2.2, .int s5.2] rfl rfl wv_RX12_266_X12_bothRing mo_X12_bothRing (t := 11) rfl rfl rfl (fun Q9 => K_X12_bothRing Q9 a0 s2.2 s5.2) (by omega) (by decide) (by decide) (Nat.le_of_ble_eq_true rfl) (fun x14 => ?_)
              refine tw_if_eq (k := 27) 56 rfl (by decide) ?_ ?_
              · exact g11 ()
              · refine tw_iconst (k := 28) (1 : Int32) rfl (by decide) ?_
                refine tw_goto (k := 29) 57 rfl (by decide) ?_
                exact g8 (1 : Int32)
def mX12_cut : tw_MD := (yX12_cut, cX12_cut, 4, (some FieldType.int), [(0, .aload_n 0, 1, 1), (1, .iconst 0, 1, 2), (2, .putfield 3, 3, 5), (5, .iconst 0, 1, 6), (6, .istore_n 2, 1, 7), (7, .iconst 1, 1, 8), (8, .istore_n 3, 1, 9), (9, .iload_n 3, 1, 10), (10, .aload_n 0, 1, 11), (11, .invokevirtual 382, 3, 14), (14, .if_icmp .gt 28, 3, 17), (17, .aload_n 0, 1, 18), (18, .iload_n 3, 1, 19), (19, .invokevirtual 394, 3, 22), (22, .aload_n 0, 1, 23), (23, .iload_n 2, 1, 24), (24, .invokevirtual 394, 3, 27), (27, .if_icmp .le 7, 3, 30), (30, .iload_n 3, 1, 31), (31, .goto 4, 3, 34), (34, .iload_n 2, 1, 35), (35, .istore_n 2, 1, 36), (36, .iinc 3 1, 3, 39), (39, .goto (-30), 3, 42), (42, .iload_n 1, 1, 43), (43, .ifCond .eq 11, 3, 46), (46, .aload_n 0, 1, 47), (47, .iload_n 2, 1, 48), (48, .invokevirtual 394, 3, 51), (51, .goto 4, 3, 54), (54, .iload_n 2, 1, 55), (55, .ireturn, 1, 56)], [])
theorem mo_X12_cut : tw_mok mX12_cut 1 := ⟨plainFor_of_name (by decide +kernel), by decide +kernel, by decide +kernel, by decide +kernel, by decide +kernel⟩
theorem dk_X12_cut : tw_dk mX12_cut := by unfold tw_dk; decide +kernel
theorem wv_RX12_394_X12_across : tw_wV RX12 394 mX12_across := ⟨List.mem_of_getElem? (i := 2321) (by decide +kernel), List.mem_of_getElem? (i := 2323) (by decide +kernel), List.mem_of_getElem? (i := 111) (by decide +kernel), List.mem_of_getElem? (i := 137) (by decide +kernel), List.mem_of_getElem? (i := 2324) (by decide +kernel)⟩
theorem wf_X12_cut_3 : tw_wf mX12_cut 3 70 := Or.inl rfl
set_option maxRecDepth 20000 in
theorem K_X12_cut {g : tw_Gx} (Q : tw_Rs → tw_Mem → Prop) (a0 : Nat) (a1 : Int32) : tw_Kt g mX12_cut 7 0 0 [.ref a0, .int a1] Q (f_X12_cut a0 a1 (fun v => Q (.inl (some (.int v))))) := by
  refine tw_mkK (L := [some (.ref a0), some (.int a1), none, none]) mo_X12_cut dk_X12_cut rfl (Nat.le_of_ble_eq_true rfl) rfl ?_
  unfold f_X12_cut
  refine tw_aload_n (k := 0) rfl rfl ?_
  refine tw_iconst (k := 1) (0 : Int32) rfl (by decide) ?_
  refine tw_putI (k := 2) rfl fl_RX12_3 wf_X12_cut_3 (by decide +kernel) ?_
  refine tw_iconst (k := 3) (0 : Int32) rfl (by decide) ?_
  refine tw_ist_n (k := 4) [some (.ref a0), some (.int a1), some (.int (0 : Int32)), none] rfl (Nat.le_of_ble_eq_true rfl) rfl rfl ?_
  refine tw_iconst (k := 5) (1 : Int32) rfl (by decide) ?_
  refine tw_ist_n (k := 6) [some (.ref a0), some (.int a1), some (.int (0 : Int32)), some (.int (1 : Int32))] rfl (Nat.le_of_ble_eq_true rfl) rfl rfl ?_
  refine tw_loop (fun s2 => [some (.ref a0), some (.int a1), some (.int s2.1), some (.int s2.2)]) (fun s2 => []) (fun r1 h1 s2 => ?_) _ rfl rfl
  refine tw_iload_n (k := 7) rfl rfl ?_
  refine tw_aload_n (k := 8) rfl rfl ?_
  refine tw_callV (k := 9) (d' := 2) (mc' := 0) (ms' := 0) tw_cI tw_cIi [] rfl rfl wv_RX12_382_X12_allPeople mo_X12_allPeople (t := 11) rfl rfl rfl (fun Q9 => K_X12_allPeople Q9 a0) (by omega) (by decide) (by decide) (Nat.le_of_ble_eq_true rfl) (fun x3 => ?_)
  refine tw_icmp_gt (k := 10) 42 rfl (by decide) ?_ ?_
  · refine tw_iload_n (k := 24) rfl rfl ?_
    refine tw_if_eq (k := 25) 54 rfl (by decide) ?_ ?_
    · refine tw_iload_n (k := 30) rfl rfl ?_
      exact tw_ireturn (k := 31) rfl rfl (by decide) (by decide)
    · refine tw_aload_n (k := 26) rfl rfl ?_
      refine tw_iload_n (k := 27) rfl rfl ?_
      refine tw_callV (k := 28) (d' := 6) (mc' := 0) (ms' := 0) tw_cI tw_cIi [.int s2.1] rfl rfl wv_RX12_394_X12_across mo_X12_across (t := 11) rfl rfl rfl (fun Q9 => K_X12_across Q9 a0 s2.1) (by omega) (by decide) (by decide) (Nat.le_of_ble_eq_true rfl) (fun x4 => ?_)
      refine tw_goto (k := 29) 55 rfl (by decide) ?_
      exact tw_ireturn (k := 31) rfl rfl (by decide) (by decide)
  · refine tw_aload_n (k := 11) rfl rfl ?_
    refine tw_iload_n (k := 12) rfl rfl ?_
    refine tw_callV (k := 13) (d' := 6) (mc' := 0) (ms' := 0) tw_cI tw_cIi [.int s2.2] rfl rfl wv_RX12_394_X12_across mo_X12_across (t := 11) rfl rfl rfl (fun Q9 => K_X12_across Q9 a0 s2.2) (by omega) (by decide) (by decide) (Nat.le_of_ble_eq_true rfl) (fun x5 => ?_)
    refine tw_aload_n (k := 14) rfl rfl ?_
    refine tw_iload_n (k := 15) rfl rfl ?_
    refine tw_callV (k := 16) (d' := 6) (mc' := 0) (ms' := 0) tw_cI tw_cIi [.int s2.1] rfl rfl wv_RX12_394_X12_across mo_X12_across (t := 11) rfl rfl rfl (fun Q9 => K_X12_across Q9 a0 s2.1) (by omega) (by decide) (by decide) (Nat.le_of_ble_eq_true rfl) (fun x6 => ?_)
    refine tw_join 35 (fun s8 => [some (.ref a0), some (.int a1), some (.int s2.1), some (.int s2.2)]) (fun s8 => .int s8 :: []) 0 0 (fun s8 => ?_) (fun j7 g7 => ?_)
    · refine tw_ist_n (k := 21) [some (.ref a0), some (.int a1), some (.int s8), some (.int s2.2)] rfl (Nat.le_of_ble_eq_true rfl) rfl rfl ?_
      refine tw_inc (k := 22) (1 : Int32) [some (.ref a0), some (.int a1), some (.int s8), some (.int (s2.2 + (1 : Int32)))] rfl rfl (by decide) (Nat.le_of_ble_eq_true rfl) rfl rfl ?_
      refine tw_goto (k := 23) 9 rfl (by decide) ?_
      exact h1 (s8, s2.2 + (1 : Int32))
    · refine tw_icmp_le (k := 17) 34 rfl (by decide) ?_ ?_
      · refine tw_iload_n (k := 20) rfl rfl ?_
        exact g7 s2.1
      · refine tw_iload_n (k := 18) rfl rfl ?_
        refine tw_goto (k := 19) 35 rfl (by decide) ?_
        exact g7 s2.2
def mX12_areHeads : tw_MD := (yX12_areHeads, cX12_areHeads, 5, (some FieldType.boolean), [(0, .iload_n 1, 1, 1), (1, .istore_n 2, 1, 2), (2, .iconst 0, 1, 3), (3, .istore_n 3, 1, 4), (4, .iload_n 3, 1, 5), (5, .aload_n 0, 1, 6), (6, .invokevirtual 62, 3, 9), (9, .if_icmp .ge 62, 3, 12), (12, .iconst 0, 1, 13), (13, .istore 4, 2, 15), (15, .iload 4, 2, 17), (17, .aload_n 0, 1, 18), (18, .invokevirtual 62, 3, 21), (21, .if_icmp .ge 44, 3, 24), (24, .iload_n 2, 1, 25), (25, .iload_n 1, 1, 26), (26, .iload_n 3, 1, 27), (27, .invokestatic 334, 3, 30), (30, .ifCond .eq 26, 3, 33), (33, .aload_n 0, 1, 34), (34, .iload_n 3, 1, 35), (35, .iload 4, 2, 37), (37, .invokevirtual 243, 3, 40), (40, .aload_n 0, 1, 41), (41, .getfield 13, 3, 44), (44, .iconst 5, 1, 45), (45, .iaload, 1, 46), (46, .if_icmp .lt 10, 3, 49), (49, .iconst 1, 1, 50), (50, .iload 4, 2, 52), (52, .ishl, 1, 53), (53, .goto 4, 3, 56), (56, .iconst 0, 1, 57), (57, .ior, 1, 58), (58, .istore_n 2, 1, 59), (59, .iinc 4 1, 3, 62), (62, .goto (-47), 3, 65), (65, .iinc 3 1, 3, 68), (68, .goto (-64), 3, 71), (71, .iload_n 2, 1, 72), (72, .aload_n 0, 1, 73), (73, .invokevirtual 382, 3, 76), (76, .if_icmp .ne 7, 3, 79), (79, .iconst 1, 1, 80), (80, .goto 4, 3, 83), (83, .iconst 0, 1, 84), (84, .ireturn, 1, 85)], [])
theorem mo_X12_areHeads : tw_mok mX12_areHeads 1 := ⟨plainFor_of_name (by decide +kernel), by decide +kernel, by decide +kernel, by decide +kernel, by decide +kernel⟩
theorem dk_X12_areHeads : tw_dk mX12_areHeads := by unfold tw_dk; decide +kernel
set_option maxRecDepth 20000 in
theorem K_X12_areHeads {g : tw_Gx} (Q : tw_Rs → tw_Mem → Prop) (a0 : Nat) (a1 : Int32) : tw_Kt g mX12_areHeads 4 0 0 [.ref a0, .int a1] Q (f_X12_areHeads a0 a1 (fun v => Q (.inl (some (.int v))))) := by
  refine tw_mkK (L := [some (.ref a0), some (.int a1), none, none, none]) mo_X12_areHeads dk_X12_areHeads rfl (Nat.le_of_ble_eq_true rfl) rfl ?_
  unfold f_X12_areHeads
  refine tw_iload_n (k := 0) rfl rfl ?_
  refine tw_ist_n (k := 1) [some (.ref a0), some (.int a1), some (.int a1), none, none] rfl (Nat.le_of_ble_eq_true rfl) rfl rfl ?_
  refine tw_iconst (k := 2) (0 : Int32) rfl (by decide) ?_
  refine tw_ist_n (k := 3) [some (.ref a0), some (.int a1), some (.int a1), some (.int (0 : Int32)), none] rfl (Nat.le_of_ble_eq_true rfl) rfl rfl ?_
  refine tw_loop (fun s2 => [some (.ref a0), some (.int a1), some (.int s2.1), some (.int s2.2), none]) (fun s2 => []) (fun r1 h1 s2 => ?_) _ rfl rfl
  refine tw_iload_n (k := 4) rfl rfl ?_
  refine tw_aload_n (k := 5) rfl rfl ?_
  refine tw_callV (k := 6) (d' := 1) (mc' := 0) (ms' := 0) tw_cI tw_cIi [] rfl rfl wv_RX12_62_X12_people mo_X12_people (t := 11) rfl rfl rfl (fun Q9 => K_X12_people Q9 a0) (by omega) (by decide) (by decide) (Nat.le_of_ble_eq_true rfl) (fun x3 => ?_)
  refine tw_icmp_ge (k := 7) 71 rfl (by decide) ?_ ?_
  · refine tw_iload_n (k := 39) rfl rfl ?_
    refine tw_aload_n (k := 40) rfl rfl ?_
    refine tw_callV (k := 41) (d' := 2) (mc' := 0) (ms' := 0) tw_cI tw_cIi [] rfl rfl wv_RX12_382_X12_allPeople mo_X12_allPeople (t := 11) rfl rfl rfl (fun Q9 => K_X12_allPeople Q9 a0) (by omega) (by decide) (by decide) (Nat.le_of_ble_eq_true rfl) (fun x4 => ?_)
    refine tw_icmp_ne (k := 42) 83 rfl (by decide) ?_ ?_
    · refine tw_iconst (k := 45) (0 : Int32) rfl (by decide) ?_
      exact tw_zreturn (k := 46) rfl rfl (by decide) (by decide)
    · refine tw_iconst (k := 43) (1 : Int32) rfl (by decide) ?_
      refine tw_goto (k := 44) 84 rfl (by decide) ?_
      exact tw_zreturn (k := 46) rfl rfl (by decide) (by decide)
  · refine tw_iconst (k := 8) (0 : Int32) rfl (by decide) ?_
    refine tw_ist (k := 9) [some (.ref a0), some (.int a1), some (.int s2.1), some (.int s2.2), some (.int (0 : Int32))] rfl (Nat.le_of_ble_eq_true rfl) rfl rfl ?_
    refine tw_loop (fun s6 => [some (.ref a0), some (.int a1), some (.int s6.1), some (.int s2.2), some (.int s6.2)]) (fun s6 => []) (fun r5 h5 s6 => ?_) _ rfl rfl
    refine tw_iload (k := 10) rfl rfl ?_
    refine tw_aload_n (k := 11) rfl rfl ?_
    refine tw_callV (k := 12) (d' := 1) (mc' := 0) (ms' := 0) tw_cI tw_cIi [] rfl rfl wv_RX12_62_X12_people mo_X12_people (t := 11) rfl rfl rfl (fun Q9 => K_X12_people Q9 a0) (by omega) (by decide) (by decide) (Nat.le_of_ble_eq_true rfl) (fun x7 => ?_)
    refine tw_icmp_ge (k := 13) 65 rfl (by decide) ?_ ?_
    · refine tw_inc (k := 37) (1 : Int32) [some (.ref a0), some (.int a1), some (.int s6.1), some (.int (s2.2 + (1 : Int32))), some (.int s6.2)] rfl rfl (by decide) (Nat.le_of_ble_eq_true rfl) rfl rfl ?_
      refine tw_goto (k := 38) 4 rfl (by decide) ?_
      exact tw_wk (L' := [some (.ref a0), some (.int a1), some (.int s6.1), some (.int (s2.2 + (1 : Int32))), none]) ⟨Or.inr rfl, Or.inr rfl, Or.inr rfl, Or.inr rfl, Or.inl rfl, trivial⟩ (h1 (s6.1, s2.2 + (1 : Int32)))
    · refine tw_iload_n (k := 14) rfl rfl ?_
      refine tw_iload_n (k := 15) rfl rfl ?_
      refine tw_iload_n (k := 16) rfl rfl ?_
      refine tw_callS (k := 17) (d' := 1) (mc' := 0) (ms' := 0) tw_cI tw_cIi [.int a1, .int s2.2] rfl rfl ws_RX12_334_X12_has mo_X12_has rfl (fun Q9 => K_X12_has Q9 a1 s2.2) (by omega) (by decide) (by decide) (Nat.le_of_ble_eq_true rfl) (fun x8 => ?_)
      refine tw_join 57 (fun s10 => [some (.ref a0), some (.int a1), some (.int s6.1), some (.int s2.2), some (.int s6.2)]) (fun s10 => .int s10 :: .int s6.1 :: []) 0 0 (fun s10 => ?_) (fun j9 g9 => ?_)
      · refine tw_ior (k := 33) rfl ?_
        refine tw_let (fun x11 => [some (.ref a0), some (.int a1), some (.int s6.1), some (.int s2.2), some (.int s6.2)]) (fun x11 => .int x11 :: []) rfl rfl (fun x11 => ?_)
        refine tw_ist_n (k := 34) [some (.ref a0), some (.int a1), some (.int x11), some (.int s2.2), some (.int s6.2)] rfl (Nat.le_of_ble_eq_true rfl) rfl rfl ?_
        refine tw_inc (k := 35) (1 : Int32) [some (.ref a0), some (.int a1), some (.int x11), some (.int s2.2), some (.int (s6.2 + (1 : Int32)))] rfl rfl (by decide) (Nat.le_of_ble_eq_true rfl) rfl rfl ?_
        refine tw_goto (k := 36) 15 rfl (by decide) ?_
        exact h5 (x11, s6.2 + (1 : Int32))
      · refine tw_join 56 (fun s13 => [some (.ref a0), some (.int a1), some (.int s6.1), some (.int s2.2), some (.int s6.2)]) (fun s13 => .int s6.1 :: []) 0 0 (fun s13 => ?_) (fun j12 g12 => ?_)
        · refine tw_iconst (k := 32) (0 : Int32) rfl (by decide) ?_
          exact g9 (0 : Int32)
        · refine tw_if_eq (k := 18) 56 rfl (by decide) ?_ ?_
          · exact g12 ()
          · refine tw_aload_n (k := 19) rfl rfl ?_
            refine tw_iload_n (k := 20) rfl rfl ?_
            refine tw_iload (k := 21) rfl rfl ?_
            refine tw_callV (k := 22) (d' := 3) (mc' := 0) (ms' := 0) tw_cI tw_cIi [.int s2.2, .int s6.2] rfl rfl wv_RX12_243_X12_guessOf mo_X12_guessOf (t := 11) rfl rfl rfl (fun Q9 => K_X12_guessOf Q9 a0 s2.2 s6.2) (by omega) (by decide) (by decide) (Nat.le_of_ble_eq_true rfl) (fun x14 => ?_)
            refine tw_aload_n (k := 23) rfl rfl ?_
            refine tw_getR (k := 24) rfl fl_RX12_13 (fun x15 => ?_)
            refine tw_iconst (k := 25) (5 : Int32) rfl (by decide) ?_
            refine tw_iaload (k := 26) rfl (fun x16 => ?_)
            refine tw_icmp_lt (k := 27) 56 rfl (by decide) ?_ ?_
            · exact g12 ()
            · refine tw_iconst (k := 28) (1 : Int32) rfl (by decide) ?_
              refine tw_iload (k := 29) rfl rfl ?_
              refine tw_ishl (k := 30) rfl ?_
              refine tw_goto (k := 31) 57 rfl (by decide) ?_
              exact g9 ((1 : Int32) <<< (s6.2 &&& 31))
def mX12_heads : tw_MD := (yX12_heads, cX12_heads, 3, (some FieldType.int), [(0, .aload_n 0, 1, 1), (1, .iconst 0, 1, 2), (2, .putfield 3, 3, 5), (5, .aload_n 0, 1, 6), (6, .invokevirtual 382, 3, 9), (9, .istore_n 1, 1, 10), (10, .aload_n 0, 1, 11), (11, .invokevirtual 382, 3, 14), (14, .istore_n 2, 1, 15), (15, .iload_n 2, 1, 16), (16, .ifCond .lt 30, 3, 19), (19, .iload_n 2, 1, 20), (20, .invokestatic 280, 3, 23), (23, .iload_n 1, 1, 24), (24, .invokestatic 280, 3, 27), (27, .if_icmp .gt 13, 3, 30), (30, .aload_n 0, 1, 31), (31, .iload_n 2, 1, 32), (32, .invokevirtual 397, 3, 35), (35, .ifCond .eq 5, 3, 38), (38, .iload_n 2, 1, 39), (39, .istore_n 1, 1, 40), (40, .iinc 2 (-1), 3, 43), (43, .goto (-28), 3, 46), (46, .iload_n 1, 1, 47), (47, .ireturn, 1, 48)], [])
theorem mo_X12_heads : tw_mok mX12_heads 0 := ⟨plainFor_of_name (by decide +kernel), by decide +kernel, by decide +kernel, by decide +kernel, by decide +kernel⟩
theorem dk_X12_heads : tw_dk mX12_heads := by unfold tw_dk; decide +kernel
theorem wv_RX12_397_X12_areHeads : tw_wV RX12 397 mX12_areHeads := ⟨List.mem_of_getElem? (i := 2329) (by decide +kernel), List.mem_of_getElem? (i := 2331) (by decide +kernel), List.mem_of_getElem? (i := 112) (by decide +kernel), List.mem_of_getElem? (i := 137) (by decide +kernel), List.mem_of_getElem? (i := 2332) (by decide +kernel)⟩
theorem wf_X12_heads_3 : tw_wf mX12_heads 3 70 := Or.inl rfl
set_option maxRecDepth 20000 in
theorem K_X12_heads {g : tw_Gx} (Q : tw_Rs → tw_Mem → Prop) (a0 : Nat) : tw_Kt g mX12_heads 5 0 0 [.ref a0] Q (f_X12_heads a0 (fun v => Q (.inl (some (.int v))))) := by
  refine tw_mkK (L := [some (.ref a0), none, none]) mo_X12_heads dk_X12_heads rfl (Nat.le_of_ble_eq_true rfl) rfl ?_
  unfold f_X12_heads
  refine tw_aload_n (k := 0) rfl rfl ?_
  refine tw_iconst (k := 1) (0 : Int32) rfl (by decide) ?_
  refine tw_putI (k := 2) rfl fl_RX12_3 wf_X12_heads_3 (by decide +kernel) ?_
  refine tw_aload_n (k := 3) rfl rfl ?_
  refine tw_callV (k := 4) (d' := 2) (mc' := 0) (ms' := 0) tw_cI tw_cIi [] rfl rfl wv_RX12_382_X12_allPeople mo_X12_allPeople (t := 11) rfl rfl rfl (fun Q9 => K_X12_allPeople Q9 a0) (by omega) (by decide) (by decide) (Nat.le_of_ble_eq_true rfl) (fun x1 => ?_)
  refine tw_ist_n (k := 5) [some (.ref a0), some (.int x1), none] rfl (Nat.le_of_ble_eq_true rfl) rfl rfl ?_
  refine tw_aload_n (k := 6) rfl rfl ?_
  refine tw_callV (k := 7) (d' := 2) (mc' := 0) (ms' := 0) tw_cI tw_cIi [] rfl rfl wv_RX12_382_X12_allPeople mo_X12_allPeople (t := 11) rfl rfl rfl (fun Q9 => K_X12_allPeople Q9 a0) (by omega) (by decide) (by decide) (Nat.le_of_ble_eq_true rfl) (fun x2 => ?_)
  refine tw_ist_n (k := 8) [some (.ref a0), some (.int x1), some (.int x2)] rfl (Nat.le_of_ble_eq_true rfl) rfl rfl ?_
  refine tw_loop (fun s4 => [some (.ref a0), some (.int s4.1), some (.int s4.2)]) (fun s4 => []) (fun r3 h3 s4 => ?_) _ rfl rfl
  refine tw_iload_n (k := 9) rfl rfl ?_
  refine tw_if_lt (k := 10) 46 rfl (by decide) ?_ ?_
  · refine tw_iload_n (k := 24) rfl rfl ?_
    exact tw_ireturn (k := 25) rfl rfl (by decide) (by decide)
  · refine tw_iload_n (k := 11) rfl rfl ?_
    refine tw_callS (k := 12) (d' := 1) (mc' := 0) (ms' := 0) tw_cI tw_cIi [.int s4.2] rfl rfl ws_RX12_280_J6_bitCount_0f7a4 mo_J6_bitCount_0f7a4 rfl (fun Q9 => K_J6_bitCount_0f7a4 Q9 s4.2) (by omega) (by decide) (by decide) (Nat.le_of_ble_eq_true rfl) (fun x5 => ?_)
    refine tw_iload_n (k := 13) rfl rfl ?_
    refine tw_callS (k := 14) (d' := 1) (mc' := 0) (ms' := 0) tw_cI tw_cIi [.int s4.1] rfl rfl ws_RX12_280_J6_bitCount_0f7a4 mo_J6_bitCount_0f7a4 rfl (fun Q9 => K_J6_bitCount_0f7a4 Q9 s4.1) (by omega) (by decide) (by decide) (Nat.le_of_ble_eq_true rfl) (fun x6 => ?_)
    refine tw_join 40 (fun s8 => [some (.ref a0), some (.int s8), some (.int s4.2)]) (fun s8 => []) 0 0 (fun s8 => ?_) (fun j7 g7 => ?_)
    · refine tw_inc (k := 22) (-1 : Int32) [some (.ref a0), some (.int s8), some (.int (s4.2 + (-1 : Int32)))] rfl rfl (by decide) (Nat.le_of_ble_eq_true rfl) rfl rfl ?_
      refine tw_goto (k := 23) 15 rfl (by decide) ?_
      exact h3 (s8, s4.2 + (-1 : Int32))
    · refine tw_icmp_gt (k := 15) 40 rfl (by decide) ?_ ?_
      · exact g7 s4.1
      · refine tw_aload_n (k := 16) rfl rfl ?_
        refine tw_iload_n (k := 17) rfl rfl ?_
        refine tw_callV (k := 18) (d' := 4) (mc' := 0) (ms' := 0) tw_cI tw_cIi [.int s4.2] rfl rfl wv_RX12_397_X12_areHeads mo_X12_areHeads (t := 11) rfl rfl rfl (fun Q9 => K_X12_areHeads Q9 a0 s4.2) (by omega) (by decide) (by decide) (Nat.le_of_ble_eq_true rfl) (fun x9 => ?_)
        refine tw_if_eq (k := 19) 40 rfl (by decide) ?_ ?_
        · exact g7 s4.1
        · refine tw_iload_n (k := 20) rfl rfl ?_
          refine tw_ist_n (k := 21) [some (.ref a0), some (.int s4.2), some (.int s4.2)] rfl (Nat.le_of_ble_eq_true rfl) rfl rfl ?_
          exact g7 s4.2
def mX12_guessedBy : tw_MD := (yX12_guessedBy, cX12_guessedBy, 5, (some FieldType.int), [(0, .iconst 0, 1, 1), (1, .istore_n 2, 1, 2), (2, .iconst 0, 1, 3), (3, .istore_n 3, 1, 4), (4, .iload_n 3, 1, 5), (5, .aload_n 0, 1, 6), (6, .invokevirtual 62, 3, 9), (9, .if_icmp .ge 56, 3, 12), (12, .iconst 0, 1, 13), (13, .istore 4, 2, 15), (15, .iload 4, 2, 17), (17, .aload_n 0, 1, 18), (18, .invokevirtual 62, 3, 21), (21, .if_icmp .ge 38, 3, 24), (24, .iload_n 2, 1, 25), (25, .iload_n 1, 1, 26), (26, .iload_n 3, 1, 27), (27, .invokestatic 334, 3, 30), (30, .ifCond .eq 20, 3, 33), (33, .aload_n 0, 1, 34), (34, .iload_n 3, 1, 35), (35, .iload 4, 2, 37), (37, .invokevirtual 243, 3, 40), (40, .ifCond .le 10, 3, 43), (43, .iconst 1, 1, 44), (44, .iload 4, 2, 46), (46, .ishl, 1, 47), (47, .goto 4, 3, 50), (50, .iconst 0, 1, 51), (51, .ior, 1, 52), (52, .istore_n 2, 1, 53), (53, .iinc 4 1, 3, 56), (56, .goto (-41), 3, 59), (59, .iinc 3 1, 3, 62), (62, .goto (-58), 3, 65), (65, .iload_n 2, 1, 66), (66, .ireturn, 1, 67)], [])
theorem mo_X12_guessedBy : tw_mok mX12_guessedBy 1 := ⟨plainFor_of_name (by decide +kernel), by decide +kernel, by decide +kernel, by decide +kernel, by decide +kernel⟩
theorem dk_X12_guessedBy : tw_dk mX12_guessedBy := by unfold tw_dk; decide +kernel
set_option maxRecDepth 20000 in
theorem K_X12_guessedBy {g : tw_Gx} (Q : tw_Rs → tw_Mem → Prop) (a0 : Nat) (a1 : Int32) : tw_Kt g mX12_guessedBy 4 0 0 [.ref a0, .int a1] Q (f_X12_guessedBy a0 a1 (fun v => Q (.inl (some (.int v))))) := by
  refine tw_mkK (L := [some (.ref a0), some (.int a1), none, none, none]) mo_X12_guessedBy dk_X12_guessedBy rfl (Nat.le_of_ble_eq_true rfl) rfl ?_
  unfold f_X12_guessedBy
  refine tw_iconst (k := 0) (0 : Int32) rfl (by decide) ?_
  refine tw_ist_n (k := 1) [some (.ref a0), some (.int a1), some (.int (0 : Int32)), none, none] rfl (Nat.le_of_ble_eq_true rfl) rfl rfl ?_
  refine tw_iconst (k := 2) (0 : Int32) rfl (by decide) ?_
  refine tw_ist_n (k := 3) [some (.ref a0), some (.int a1), some (.int (0 : Int32)), some (.int (0 : Int32)), none] rfl (Nat.le_of_ble_eq_true rfl) rfl rfl ?_
  refine tw_loop (fun s2 => [some (.ref a0), some (.int a1), some (.int s2.1), some (.int s2.2), none]) (fun s2 => []) (fun r1 h1 s2 => ?_) _ rfl rfl
  refine tw_iload_n (k := 4) rfl rfl ?_
  refine tw_aload_n (k := 5) rfl rfl ?_
  refine tw_callV (k := 6) (d' := 1) (mc' := 0) (ms' := 0) tw_cI tw_cIi [] rfl rfl wv_RX12_62_X12_people mo_X12_people (t := 11) rfl rfl rfl (fun Q9 => K_X12_people Q9 a0) (by omega) (by decide) (by decide) (Nat.le_of_ble_eq_true rfl) (fun x3 => ?_)
  refine tw_icmp_ge (k := 7) 65 rfl (by decide) ?_ ?_
  · refine tw_iload_n (k := 35) rfl rfl ?_
    exact tw_ireturn (k := 36) rfl rfl (by decide) (by decide)
  · refine tw_iconst (k := 8) (0 : Int32) rfl (by decide) ?_
    refine tw_ist (k := 9) [some (.ref a0), some (.int a1), some (.int s2.1), some (.int s2.2), some (.int (0 : Int32))] rfl (Nat.le_of_ble_eq_true rfl) rfl rfl ?_
    refine tw_loop (fun s5 => [some (.ref a0), some (.int a1), some (.int s5.1), some (.int s2.2), some (.int s5.2)]) (fun s5 => []) (fun r4 h4 s5 => ?_) _ rfl rfl
    refine tw_iload (k := 10) rfl rfl ?_
    refine tw_aload_n (k := 11) rfl rfl ?_
    refine tw_callV (k := 12) (d' := 1) (mc' := 0) (ms' := 0) tw_cI tw_cIi [] rfl rfl wv_RX12_62_X12_people mo_X12_people (t := 11) rfl rfl rfl (fun Q9 => K_X12_people Q9 a0) (by omega) (by decide) (by decide) (Nat.le_of_ble_eq_true rfl) (fun x6 => ?_)
    refine tw_icmp_ge (k := 13) 59 rfl (by decide) ?_ ?_
    · refine tw_inc (k := 33) (1 : Int32) [some (.ref a0), some (.int a1), some (.int s5.1), some (.int (s2.2 + (1 : Int32))), some (.int s5.2)] rfl rfl (by decide) (Nat.le_of_ble_eq_true rfl) rfl rfl ?_
      refine tw_goto (k := 34) 4 rfl (by decide) ?_
      exact tw_wk (L' := [some (.ref a0), some (.int a1), some (.int s5.1), some (.int (s2.2 + (1 : Int32))), none]) ⟨Or.inr rfl, Or.inr rfl, Or.inr rfl, Or.inr rfl, Or.inl rfl, trivial⟩ (h1 (s5.1, s2.2 + (1 : Int32)))
    · refine tw_iload_n (k := 14) rfl rfl ?_
      refine tw_iload_n (k := 15) rfl rfl ?_
      refine tw_iload_n (k := 16) rfl rfl ?_
      refine tw_callS (k := 17) (d' := 1) (mc' := 0) (ms' := 0) tw_cI tw_cIi [.int a1, .int s2.2] rfl rfl ws_RX12_334_X12_has mo_X12_has rfl (fun Q9 => K_X12_has Q9 a1 s2.2) (by omega) (by decide) (by decide) (Nat.le_of_ble_eq_true rfl) (fun x7 => ?_)
      refine tw_join 51 (fun s9 => [some (.ref a0), some (.int a1), some (.int s5.1), some (.int s2.2), some (.int s5.2)]) (fun s9 => .int s9 :: .int s5.1 :: []) 0 0 (fun s9 => ?_) (fun j8 g8 => ?_)
      · refine tw_ior (k := 29) rfl ?_
        refine tw_let (fun x10 => [some (.ref a0), some (.int a1), some (.int s5.1), some (.int s2.2), some (.int s5.2)]) (fun x10 => .int x10 :: []) rfl rfl (fun x10 => ?_)
        refine tw_ist_n (k := 30) [some (.ref a0), some (.int a1), some (.int x10), some (.int s2.2), some (.int s5.2)] rfl (Nat.le_of_ble_eq_true rfl) rfl rfl ?_
        refine tw_inc (k := 31) (1 : Int32) [some (.ref a0), some (.int a1), some (.int x10), some (.int s2.2), some (.int (s5.2 + (1 : Int32)))] rfl rfl (by decide) (Nat.le_of_ble_eq_true rfl) rfl rfl ?_
        refine tw_goto (k := 32) 15 rfl (by decide) ?_
        exact h4 (x10, s5.2 + (1 : Int32))
      · refine tw_join 50 (fun s12 => [some (.ref a0), some (.int a1), some (.int s5.1), some (.int s2.2), some (.int s5.2)]) (fun s12 => .int s5.1 :: []) 0 0 (fun s12 => ?_) (fun j11 g11 => ?_)
        · refine tw_iconst (k := 28) (0 : Int32) rfl (by decide) ?_
          exact g8 (0 : Int32)
        · refine tw_if_eq (k := 18) 50 rfl (by decide) ?_ ?_
          · exact g11 ()
          · refine tw_aload_n (k := 19) rfl rfl ?_
            refine tw_iload_n (k := 20) rfl rfl ?_
            refine tw_iload (k := 21) rfl rfl ?_
            refine tw_callV (k := 22) (d' := 3) (mc' := 0) (ms' := 0) tw_cI tw_cIi [.int s2.2, .int s5.2] rfl rfl wv_RX12_243_X12_guessOf mo_X12_guessOf (t := 11) rfl rfl rfl (fun Q9 => K_X12_guessOf Q9 a0 s2.2 s5.2) (by omega) (by decide) (by decide) (Nat.le_of_ble_eq_true rfl) (fun x13 => ?_)
            refine tw_if_le (k := 23) 50 rfl (by decide) ?_ ?_
            · exact g11 ()
            · refine tw_iconst (k := 24) (1 : Int32) rfl (by decide) ?_
              refine tw_iload (k := 25) rfl rfl ?_
              refine tw_ishl (k := 26) rfl ?_
              refine tw_goto (k := 27) 51 rfl (by decide) ?_
              exact g8 ((1 : Int32) <<< (s5.2 &&& 31))
def mX12_depth : tw_MD := (yX12_depth, cX12_depth, 5, (some FieldType.int), [(0, .aload_n 0, 1, 1), (1, .iconst 0, 1, 2), (2, .putfield 3, 3, 5), (5, .aload_n 0, 1, 6), (6, .aload_n 0, 1, 7), (7, .iload_n 1, 1, 8), (8, .invokevirtual 288, 3, 11), (11, .iconst 1, 1, 12), (12, .invokevirtual 240, 3, 15), (15, .ifCond .ne 26, 3, 18), (18, .aload_n 0, 1, 19), (19, .iload_n 2, 1, 20), (20, .iconst 0, 1, 21), (21, .bipush 8, 2, 23), (23, .invokestatic 76, 3, 26), (26, .ifCond .ne 7, 3, 29), (29, .iconst 1, 1, 30), (30, .goto 4, 3, 33), (33, .iconst 0, 1, 34), (34, .iconst 2, 1, 35), (35, .invokevirtual 240, 3, 38), (38, .ifCond .eq 5, 3, 41), (41, .iconst 0, 1, 42), (42, .ireturn, 1, 43), (43, .iconst 0, 1, 44), (44, .istore_n 3, 1, 45), (45, .iconst 0, 1, 46), (46, .istore 4, 2, 48), (48, .iload 4, 2, 50), (50, .iload_n 2, 1, 51), (51, .if_icmp .ge 28, 3, 54), (54, .iload_n 3, 1, 55), (55, .aload_n 0, 1, 56), (56, .iload 4, 2, 58), (58, .ifCond .ne 9, 3, 61), (61, .iconst 1, 1, 62), (62, .iload_n 1, 1, 63), (63, .ishl, 1, 64), (64, .goto 4, 3, 67), (67, .iload_n 3, 1, 68), (68, .invokevirtual 400, 3, 71), (71, .ior, 1, 72), (72, .istore_n 3, 1, 73), (73, .iinc 4 1, 3, 76), (76, .goto (-28), 3, 79), (79, .iload_n 3, 1, 80), (80, .ireturn, 1, 81)], [])
theorem mo_X12_depth : tw_mok mX12_depth 2 := ⟨plainFor_of_name (by decide +kernel), by decide +kernel, by decide +kernel, by decide +kernel, by decide +kernel⟩
theorem dk_X12_depth : tw_dk mX12_depth := by unfold tw_dk; decide +kernel
theorem wv_RX12_400_X12_guessedBy : tw_wV RX12 400 mX12_guessedBy := ⟨List.mem_of_getElem? (i := 2337) (by decide +kernel), List.mem_of_getElem? (i := 2339) (by decide +kernel), List.mem_of_getElem? (i := 113) (by decide +kernel), List.mem_of_getElem? (i := 137) (by decide +kernel), List.mem_of_getElem? (i := 2340) (by decide +kernel)⟩
theorem wf_X12_depth_3 : tw_wf mX12_depth 3 70 := Or.inl rfl
set_option maxRecDepth 20000 in
theorem K_X12_depth {g : tw_Gx} (Q : tw_Rs → tw_Mem → Prop) (a0 : Nat) (a1 : Int32) (a2 : Int32) : tw_Kt g mX12_depth 5 0 0 [.ref a0, .int a1, .int a2] Q (f_X12_depth a0 a1 a2 (fun v => Q (.inl (some (.int v))))) := by
  refine tw_mkK (L := [some (.ref a0), some (.int a1), some (.int a2), none, none]) mo_X12_depth dk_X12_depth rfl (Nat.le_of_ble_eq_true rfl) rfl ?_
  unfold f_X12_depth
  refine tw_aload_n (k := 0) rfl rfl ?_
  refine tw_iconst (k := 1) (0 : Int32) rfl (by decide) ?_
  refine tw_putI (k := 2) rfl fl_RX12_3 wf_X12_depth_3 (by decide +kernel) ?_
  refine tw_aload_n (k := 3) rfl rfl ?_
  refine tw_aload_n (k := 4) rfl rfl ?_
  refine tw_iload_n (k := 5) rfl rfl ?_
  refine tw_callV (k := 6) (d' := 2) (mc' := 0) (ms' := 0) tw_cI tw_cIi [.int a1] rfl rfl wv_RX12_288_X12_nobody mo_X12_nobody (t := 11) rfl rfl rfl (fun Q9 => K_X12_nobody Q9 a0 a1) (by omega) (by decide) (by decide) (Nat.le_of_ble_eq_true rfl) (fun x1 => ?_)
  refine tw_iconst (k := 7) (1 : Int32) rfl (by decide) ?_
  refine tw_callV (k := 8) (d' := 1) (mc' := 0) (ms' := 0) tw_cI tw_cIi [.int x1, .int (1 : Int32)] rfl rfl wv_RX12_240_X12_throwsIf mo_X12_throwsIf (t := 11) rfl rfl rfl (fun Q9 => K_X12_throwsIf Q9 a0 x1 (1 : Int32)) (by omega) (by decide) (by decide) (Nat.le_of_ble_eq_true rfl) (fun x2 => ?_)
  refine tw_if_ne (k := 9) 41 rfl (by decide) ?_ ?_
  · refine tw_iconst (k := 22) (0 : Int32) rfl (by decide) ?_
    exact tw_ireturn (k := 23) rfl rfl (by decide) (by decide)
  · refine tw_aload_n (k := 10) rfl rfl ?_
    refine tw_iload_n (k := 11) rfl rfl ?_
    refine tw_iconst (k := 12) (0 : Int32) rfl (by decide) ?_
    refine tw_bipush (k := 13) (8 : Int32) rfl (by decide) ?_
    refine tw_callS (k := 14) (d' := 1) (mc' := 0) (ms' := 0) tw_cI tw_cIi [.int a2, .int (0 : Int32), .int (8 : Int32)] rfl rfl ws_RX12_76_X12_in mo_X12_in rfl (fun Q9 => K_X12_in Q9 a2 (0 : Int32) (8 : Int32)) (by omega) (by decide) (by decide) (Nat.le_of_ble_eq_true rfl) (fun x3 => ?_)
    refine tw_join 34 (fun s5 => [some (.ref a0), some (.int a1), some (.int a2), none, none]) (fun s5 => .int s5 :: .ref a0 :: []) 0 0 (fun s5 => ?_) (fun j4 g4 => ?_)
    · refine tw_iconst (k := 19) (2 : Int32) rfl (by decide) ?_
      refine tw_callV (k := 20) (d' := 1) (mc' := 0) (ms' := 0) tw_cI tw_cIi [.int s5, .int (2 : Int32)] rfl rfl wv_RX12_240_X12_throwsIf mo_X12_throwsIf (t := 11) rfl rfl rfl (fun Q9 => K_X12_throwsIf Q9 a0 s5 (2 : Int32)) (by omega) (by decide) (by decide) (Nat.le_of_ble_eq_true rfl) (fun x6 => ?_)
      refine tw_if_eq (k := 21) 43 rfl (by decide) ?_ ?_
      · refine tw_iconst (k := 24) (0 : Int32) rfl (by decide) ?_
        refine tw_ist_n (k := 25) [some (.ref a0), some (.int a1), some (.int a2), some (.int (0 : Int32)), none] rfl (Nat.le_of_ble_eq_true rfl) rfl rfl ?_
        refine tw_iconst (k := 26) (0 : Int32) rfl (by decide) ?_
        refine tw_ist (k := 27) [some (.ref a0), some (.int a1), some (.int a2), some (.int (0 : Int32)), some (.int (0 : Int32))] rfl (Nat.le_of_ble_eq_true rfl) rfl rfl ?_
        refine tw_loop (fun s8 => [some (.ref a0), some (.int a1), some (.int a2), some (.int s8.1), some (.int s8.2)]) (fun s8 => []) (fun r7 h7 s8 => ?_) _ rfl rfl
        refine tw_iload (k := 28) rfl rfl ?_
        refine tw_iload_n (k := 29) rfl rfl ?_
        refine tw_icmp_ge (k := 30) 79 rfl (by decide) ?_ ?_
        · refine tw_iload_n (k := 45) rfl rfl ?_
          exact tw_ireturn (k := 46) rfl rfl (by decide) (by decide)
        · refine tw_iload_n (k := 31) rfl rfl ?_
          refine tw_aload_n (k := 32) rfl rfl ?_
          refine tw_iload (k := 33) rfl rfl ?_
          refine tw_join 68 (fun s10 => [some (.ref a0), some (.int a1), some (.int a2), some (.int s8.1), some (.int s8.2)]) (fun s10 => .int s10 :: .ref a0 :: .int s8.1 :: []) 0 0 (fun s10 => ?_) (fun j9 g9 => ?_)
          · refine tw_callV (k := 40) (d' := 4) (mc' := 0) (ms' := 0) tw_cI tw_cIi [.int s10] rfl rfl wv_RX12_400_X12_guessedBy mo_X12_guessedBy (t := 11) rfl rfl rfl (fun Q9 => K_X12_guessedBy Q9 a0 s10) (by omega) (by decide) (by decide) (Nat.le_of_ble_eq_true rfl) (fun x11 => ?_)
            refine tw_ior (k := 41) rfl ?_
            refine tw_let (fun x12 => [some (.ref a0), some (.int a1), some (.int a2), some (.int s8.1), some (.int s8.2)]) (fun x12 => .int x12 :: []) rfl rfl (fun x12 => ?_)
            refine tw_ist_n (k := 42) [some (.ref a0), some (.int a1), some (.int a2), some (.int x12), some (.int s8.2)] rfl (Nat.le_of_ble_eq_true rfl) rfl rfl ?_
            refine tw_inc (k := 43) (1 : Int32) [some (.ref a0), some (.int a1), some (.int a2), some (.int x12), some (.int (s8.2 + (1 : Int32)))] rfl rfl (by decide) (Nat.le_of_ble_eq_true rfl) rfl rfl ?_
            refine tw_goto (k := 44) 48 rfl (by decide) ?_
            exact h7 (x12, s8.2 + (1 : Int32))
          · refine tw_if_ne (k := 34) 67 rfl (by decide) ?_ ?_
            · refine tw_iload_n (k := 39) rfl rfl ?_
              exact g9 s8.1
            · refine tw_iconst (k := 35) (1 : Int32) rfl (by decide) ?_
              refine tw_iload_n (k := 36) rfl rfl ?_
              refine tw_ishl (k := 37) rfl ?_
              refine tw_goto (k := 38) 68 rfl (by decide) ?_
              exact g9 ((1 : Int32) <<< (a1 &&& 31))
      · refine tw_iconst (k := 22) (0 : Int32) rfl (by decide) ?_
        exact tw_ireturn (k := 23) rfl rfl (by decide) (by decide)
    · refine tw_if_ne (k := 15) 33 rfl (by decide) ?_ ?_
      · refine tw_iconst (k := 18) (0 : Int32) rfl (by decide) ?_
        exact g4 (0 : Int32)
      · refine tw_iconst (k := 16) (1 : Int32) rfl (by decide) ?_
        refine tw_goto (k := 17) 34 rfl (by decide) ?_
        exact g4 (1 : Int32)
def mX12_circle : tw_MD := (yX12_circle, cX12_circle, 4, (some FieldType.int), [(0, .aload_n 0, 1, 1), (1, .iconst 0, 1, 2), (2, .putfield 3, 3, 5), (5, .aload_n 0, 1, 6), (6, .aload_n 0, 1, 7), (7, .iload_n 1, 1, 8), (8, .invokevirtual 288, 3, 11), (11, .iconst 1, 1, 12), (12, .invokevirtual 240, 3, 15), (15, .ifCond .eq 5, 3, 18), (18, .iconst 0, 1, 19), (19, .ireturn, 1, 20), (20, .iconst 1, 1, 21), (21, .iload_n 1, 1, 22), (22, .ishl, 1, 23), (23, .istore_n 2, 1, 24), (24, .iconst 1, 1, 25), (25, .istore_n 3, 1, 26), (26, .iload_n 3, 1, 27), (27, .bipush 8, 2, 29), (29, .if_icmp .gt 25, 3, 32), (32, .aload_n 0, 1, 33), (33, .iload_n 2, 1, 34), (34, .invokevirtual 400, 3, 37), (37, .istore_n 2, 1, 38), (38, .iload_n 2, 1, 39), (39, .iload_n 1, 1, 40), (40, .invokestatic 334, 3, 43), (43, .ifCond .eq 5, 3, 46), (46, .iload_n 3, 1, 47), (47, .ireturn, 1, 48), (48, .iinc 3 1, 3, 51), (51, .goto (-25), 3, 54), (54, .iconst (-1), 1, 55), (55, .ireturn, 1, 56)], [])
theorem mo_X12_circle : tw_mok mX12_circle 1 := ⟨plainFor_of_name (by decide +kernel), by decide +kernel, by decide +kernel, by decide +kernel, by decide +kernel⟩
theorem dk_X12_circle : tw_dk mX12_circle := by unfold tw_dk; decide +kernel
theorem wf_X12_circle_3 : tw_wf mX12_circle 3 70 := Or.inl rfl
set_option maxRecDepth 20000 in
theorem K_X12_circle {g : tw_Gx} (Q : tw_Rs → tw_Mem → Prop) (a0 : Nat) (a1 : Int32) : tw_Kt g mX12_circle 5 0 0 [.ref a0, .int a1] Q (f_X12_circle a0 a1 (fun v => Q (.inl (some (.int v))))) := by
  refine tw_mkK (L := [some (.ref a0), some (.int a1), none, none]) mo_X12_circle dk_X12_circle rfl (Nat.le_of_ble_eq_true rfl) rfl ?_
  unfold f_X12_circle
  refine tw_aload_n (k := 0) rfl rfl ?_
  refine tw_iconst (k := 1) (0 : Int32) rfl (by decide) ?_
  refine tw_putI (k := 2) rfl fl_RX12_3 wf_X12_circle_3 (by decide +kernel) ?_
  refine tw_aload_n (k := 3) rfl rfl ?_
  refine tw_aload_n (k := 4) rfl rfl ?_
  refine tw_iload_n (k := 5) rfl rfl ?_
  refine tw_callV (k := 6) (d' := 2) (mc' := 0) (ms' := 0) tw_cI tw_cIi [.int a1] rfl rfl wv_RX12_288_X12_nobody mo_X12_nobody (t := 11) rfl rfl rfl (fun Q9 => K_X12_nobody Q9 a0 a1) (by omega) (by decide) (by decide) (Nat.le_of_ble_eq_true rfl) (fun x1 => ?_)
  refine tw_iconst (k := 7) (1 : Int32) rfl (by decide) ?_
  refine tw_callV (k := 8) (d' := 1) (mc' := 0) (ms' := 0) tw_cI tw_cIi [.int x1, .int (1 : Int32)] rfl rfl wv_RX12_240_X12_throwsIf mo_X12_throwsIf (t := 11) rfl rfl rfl (fun Q9 => K_X12_throwsIf Q9 a0 x1 (1 : Int32)) (by omega) (by decide) (by decide) (Nat.le_of_ble_eq_true rfl) (fun x2 => ?_)
  refine tw_if_eq (k := 9) 20 rfl (by decide) ?_ ?_
  · refine tw_iconst (k := 12) (1 : Int32) rfl (by decide) ?_
    refine tw_iload_n (k := 13) rfl rfl ?_
    refine tw_ishl (k := 14) rfl ?_
    refine tw_let (fun x3 => [some (.ref a0), some (.int a1), none, none]) (fun x3 => .int x3 :: []) rfl rfl (fun x3 => ?_)
    refine tw_ist_n (k := 15) [some (.ref a0), some (.int a1), some (.int x3), none] rfl (Nat.le_of_ble_eq_true rfl) rfl rfl ?_
    refine tw_iconst (k := 16) (1 : Int32) rfl (by decide) ?_
    refine tw_ist_n (k := 17) [some (.ref a0), some (.int a1), some (.int x3), some (.int (1 : Int32))] rfl (Nat.le_of_ble_eq_true rfl) rfl rfl ?_
    refine tw_loop (fun s5 => [some (.ref a0), some (.int a1), some (.int s5.1), some (.int s5.2)]) (fun s5 => []) (fun r4 h4 s5 => ?_) _ rfl rfl
    refine tw_iload_n (k := 18) rfl rfl ?_
    refine tw_bipush (k := 19) (8 : Int32) rfl (by decide) ?_
    refine tw_icmp_gt (k := 20) 54 rfl (by decide) ?_ ?_
    · refine tw_iconst (k := 33) (-1 : Int32) rfl (by decide) ?_
      exact tw_ireturn (k := 34) rfl rfl (by decide) (by decide)
    · refine tw_aload_n (k := 21) rfl rfl ?_
      refine tw_iload_n (k := 22) rfl rfl ?_
      refine tw_callV (k := 23) (d' := 4) (mc' := 0) (ms' := 0) tw_cI tw_cIi [.int s5.1] rfl rfl wv_RX12_400_X12_guessedBy mo_X12_guessedBy (t := 11) rfl rfl rfl (fun Q9 => K_X12_guessedBy Q9 a0 s5.1) (by omega) (by decide) (by decide) (Nat.le_of_ble_eq_true rfl) (fun x6 => ?_)
      refine tw_ist_n (k := 24) [some (.ref a0), some (.int a1), some (.int x6), some (.int s5.2)] rfl (Nat.le_of_ble_eq_true rfl) rfl rfl ?_
      refine tw_iload_n (k := 25) rfl rfl ?_
      refine tw_iload_n (k := 26) rfl rfl ?_
      refine tw_callS (k := 27) (d' := 1) (mc' := 0) (ms' := 0) tw_cI tw_cIi [.int x6, .int a1] rfl rfl ws_RX12_334_X12_has mo_X12_has rfl (fun Q9 => K_X12_has Q9 x6 a1) (by omega) (by decide) (by decide) (Nat.le_of_ble_eq_true rfl) (fun x7 => ?_)
      refine tw_if_eq (k := 28) 48 rfl (by decide) ?_ ?_
      · refine tw_inc (k := 31) (1 : Int32) [some (.ref a0), some (.int a1), some (.int x6), some (.int (s5.2 + (1 : Int32)))] rfl rfl (by decide) (Nat.le_of_ble_eq_true rfl) rfl rfl ?_
        refine tw_goto (k := 32) 26 rfl (by decide) ?_
        exact h4 (x6, s5.2 + (1 : Int32))
      · refine tw_iload_n (k := 29) rfl rfl ?_
        exact tw_ireturn (k := 30) rfl rfl (by decide) (by decide)
  · refine tw_iconst (k := 10) (0 : Int32) rfl (by decide) ?_
    exact tw_ireturn (k := 11) rfl rfl (by decide) (by decide)
def mX12_laysRinging : tw_MD := (yX12_laysRinging, cX12_laysRinging, 5, none, [(0, .iconst 0, 1, 1), (1, .istore_n 1, 1, 2), (2, .iload_n 1, 1, 3), (3, .aload_n 0, 1, 4), (4, .invokevirtual 62, 3, 7), (7, .if_icmp .ge 90, 3, 10), (10, .iload_n 1, 1, 11), (11, .iconst 1, 1, 12), (12, .iadd, 1, 13), (13, .istore_n 2, 1, 14), (14, .iload_n 2, 1, 15), (15, .aload_n 0, 1, 16), (16, .invokevirtual 62, 3, 19), (19, .if_icmp .ge 72, 3, 22), (22, .iconst 0, 1, 23), (23, .istore_n 3, 1, 24), (24, .aload_n 0, 1, 25), (25, .invokevirtual 364, 3, 28), (28, .iconst 0, 1, 29), (29, .istore 4, 2, 31), (31, .iload 4, 2, 33), (33, .bipush 30, 2, 35), (35, .if_icmp .gt 34, 3, 38), (38, .iload_n 3, 1, 39), (39, .aload_n 0, 1, 40), (40, .iload_n 1, 1, 41), (41, .iload_n 2, 1, 42), (42, .invokevirtual 348, 3, 45), (45, .ifCond .eq 10, 3, 48), (48, .iconst 1, 1, 49), (49, .iload 4, 2, 51), (51, .ishl, 1, 52), (52, .goto 4, 3, 55), (55, .iconst 0, 1, 56), (56, .ior, 1, 57), (57, .istore_n 3, 1, 58), (58, .aload_n 0, 1, 59), (59, .iconst 1, 1, 60), (60, .invokevirtual 351, 3, 63), (63, .iinc 4 1, 3, 66), (66, .goto (-35), 3, 69), (69, .aload_n 0, 1, 70), (70, .invokevirtual 367, 3, 73), (73, .aload_n 0, 1, 74), (74, .getfield 48, 3, 77), (77, .bipush 8, 2, 79), (79, .iload_n 1, 1, 80), (80, .imul, 1, 81), (81, .iload_n 2, 1, 82), (82, .iadd, 1, 83), (83, .iload_n 3, 1, 84), (84, .iastore, 1, 85), (85, .iinc 2 1, 3, 88), (88, .goto (-74), 3, 91), (91, .iinc 1 1, 3, 94), (94, .goto (-92), 3, 97), (97, .return_, 1, 98)], [])
theorem mo_X12_laysRinging : tw_mok mX12_laysRinging 0 := ⟨plainFor_of_name (by decide +kernel), by decide +kernel, by decide +kernel, by decide +kernel, by decide +kernel⟩
theorem dk_X12_laysRinging : tw_dk mX12_laysRinging := by unfold tw_dk; decide +kernel
set_option maxRecDepth 20000 in
theorem K_X12_laysRinging {g : tw_Gx} (Q : tw_Rs → tw_Mem → Prop) (a0 : Nat) : tw_Kt g mX12_laysRinging 11 0 0 [.ref a0] Q (f_X12_laysRinging a0 (fun v => Q (.inl none))) := by
  refine tw_mkK (L := [some (.ref a0), none, none, none, none]) mo_X12_laysRinging dk_X12_laysRinging rfl (Nat.le_of_ble_eq_true rfl) rfl ?_
  unfold f_X12_laysRinging
  refine tw_iconst (k := 0) (0 : Int32) rfl (by decide) ?_
  refine tw_ist_n (k := 1) [some (.ref a0), some (.int (0 : Int32)), none, none, none] rfl (Nat.le_of_ble_eq_true rfl) rfl rfl ?_
  refine tw_loop (fun s2 => [some (.ref a0), some (.int s2), none, none, none]) (fun s2 => []) (fun r1 h1 s2 => ?_) _ rfl rfl
  refine tw_iload_n (k := 2) rfl rfl ?_
  refine tw_aload_n (k := 3) rfl rfl ?_
  refine tw_callV (k := 4) (d' := 1) (mc' := 0) (ms' := 0) tw_cI tw_cIi [] rfl rfl wv_RX12_62_X12_people mo_X12_people (t := 11) rfl rfl rfl (fun Q9 => K_X12_people Q9 a0) (by omega) (by decide) (by decide) (Nat.le_of_ble_eq_true rfl) (fun x3 => ?_)
  refine tw_icmp_ge (k := 5) 97 rfl (by decide) ?_ ?_
  · exact tw_return (k := 56) rfl rfl (by decide) (by decide)
  · refine tw_iload_n (k := 6) rfl rfl ?_
    refine tw_iconst (k := 7) (1 : Int32) rfl (by decide) ?_
    refine tw_iadd (k := 8) rfl ?_
    refine tw_let (fun x4 => [some (.ref a0), some (.int s2), none, none, none]) (fun x4 => .int x4 :: []) rfl rfl (fun x4 => ?_)
    refine tw_ist_n (k := 9) [some (.ref a0), some (.int s2), some (.int x4), none, none] rfl (Nat.le_of_ble_eq_true rfl) rfl rfl ?_
    refine tw_loop (fun s6 => [some (.ref a0), some (.int s2), some (.int s6), none, none]) (fun s6 => []) (fun r5 h5 s6 => ?_) _ rfl rfl
    refine tw_iload_n (k := 10) rfl rfl ?_
    refine tw_aload_n (k := 11) rfl rfl ?_
    refine tw_callV (k := 12) (d' := 1) (mc' := 0) (ms' := 0) tw_cI tw_cIi [] rfl rfl wv_RX12_62_X12_people mo_X12_people (t := 11) rfl rfl rfl (fun Q9 => K_X12_people Q9 a0) (by omega) (by decide) (by decide) (Nat.le_of_ble_eq_true rfl) (fun x7 => ?_)
    refine tw_icmp_ge (k := 13) 91 rfl (by decide) ?_ ?_
    · refine tw_inc (k := 54) (1 : Int32) [some (.ref a0), some (.int (s2 + (1 : Int32))), some (.int s6), none, none] rfl rfl (by decide) (Nat.le_of_ble_eq_true rfl) rfl rfl ?_
      refine tw_goto (k := 55) 2 rfl (by decide) ?_
      exact tw_wk (L' := [some (.ref a0), some (.int (s2 + (1 : Int32))), none, none, none]) ⟨Or.inr rfl, Or.inr rfl, Or.inl rfl, Or.inl rfl, Or.inl rfl, trivial⟩ (h1 (s2 + (1 : Int32)))
    · refine tw_iconst (k := 14) (0 : Int32) rfl (by decide) ?_
      refine tw_ist_n (k := 15) [some (.ref a0), some (.int s2), some (.int s6), some (.int (0 : Int32)), none] rfl (Nat.le_of_ble_eq_true rfl) rfl rfl ?_
      refine tw_aload_n (k := 16) rfl rfl ?_
      refine tw_callV (k := 17) (d' := 1) (mc' := 0) (ms' := 0) tw_cU tw_cUi [] rfl rfl wv_RX12_364_X12_keepsAll mo_X12_keepsAll (t := 11) rfl rfl rfl (fun Q9 => K_X12_keepsAll Q9 a0) (by omega) (by decide) (by decide) (Nat.le_of_ble_eq_true rfl) (fun u8 => ?_)
      refine tw_iconst (k := 18) (0 : Int32) rfl (by decide) ?_
      refine tw_ist (k := 19) [some (.ref a0), some (.int s2), some (.int s6), some (.int (0 : Int32)), some (.int (0 : Int32))] rfl (Nat.le_of_ble_eq_true rfl) rfl rfl ?_
      refine tw_loop (fun s10 => [some (.ref a0), some (.int s2), some (.int s6), some (.int s10.1), some (.int s10.2)]) (fun s10 => []) (fun r9 h9 s10 => ?_) _ rfl rfl
      refine tw_iload (k := 20) rfl rfl ?_
      refine tw_bipush (k := 21) (30 : Int32) rfl (by decide) ?_
      refine tw_icmp_gt (k := 22) 69 rfl (by decide) ?_ ?_
      · refine tw_aload_n (k := 41) rfl rfl ?_
        refine tw_callV (k := 42) (d' := 1) (mc' := 0) (ms' := 0) tw_cU tw_cUi [] rfl rfl wv_RX12_367_X12_bringsBack mo_X12_bringsBack (t := 11) rfl rfl rfl (fun Q9 => K_X12_bringsBack Q9 a0) (by omega) (by decide) (by decide) (Nat.le_of_ble_eq_true rfl) (fun u11 => ?_)
        refine tw_aload_n (k := 43) rfl rfl ?_
        refine tw_getR (k := 44) rfl fl_RX12_48 (fun x12 => ?_)
        refine tw_bipush (k := 45) (8 : Int32) rfl (by decide) ?_
        refine tw_iload_n (k := 46) rfl rfl ?_
        refine tw_imul (k := 47) rfl ?_
        refine tw_iload_n (k := 48) rfl rfl ?_
        refine tw_iadd (k := 49) rfl ?_
        refine tw_iload_n (k := 50) rfl rfl ?_
        refine tw_iastore (k := 51) rfl ?_
        refine tw_inc (k := 52) (1 : Int32) [some (.ref a0), some (.int s2), some (.int (s6 + (1 : Int32))), some (.int s10.1), some (.int s10.2)] rfl rfl (by decide) (Nat.le_of_ble_eq_true rfl) rfl rfl ?_
        refine tw_goto (k := 53) 14 rfl (by decide) ?_
        exact tw_wk (L' := [some (.ref a0), some (.int s2), some (.int (s6 + (1 : Int32))), none, none]) ⟨Or.inr rfl, Or.inr rfl, Or.inr rfl, Or.inl rfl, Or.inl rfl, trivial⟩ (h5 (s6 + (1 : Int32)))
      · refine tw_iload_n (k := 23) rfl rfl ?_
        refine tw_aload_n (k := 24) rfl rfl ?_
        refine tw_iload_n (k := 25) rfl rfl ?_
        refine tw_iload_n (k := 26) rfl rfl ?_
        refine tw_callV (k := 27) (d' := 8) (mc' := 0) (ms' := 0) tw_cI tw_cIi [.int s2, .int s6] rfl rfl wv_RX12_348_X12_pulls mo_X12_pulls (t := 11) rfl rfl rfl (fun Q9 => K_X12_pulls Q9 a0 s2 s6) (by omega) (by decide) (by decide) (Nat.le_of_ble_eq_true rfl) (fun x13 => ?_)
        refine tw_join 56 (fun s15 => [some (.ref a0), some (.int s2), some (.int s6), some (.int s10.1), some (.int s10.2)]) (fun s15 => .int s15 :: .int s10.1 :: []) 0 0 (fun s15 => ?_) (fun j14 g14 => ?_)
        · refine tw_ior (k := 34) rfl ?_
          refine tw_let (fun x16 => [some (.ref a0), some (.int s2), some (.int s6), some (.int s10.1), some (.int s10.2)]) (fun x16 => .int x16 :: []) rfl rfl (fun x16 => ?_)
          refine tw_ist_n (k := 35) [some (.ref a0), some (.int s2), some (.int s6), some (.int x16), some (.int s10.2)] rfl (Nat.le_of_ble_eq_true rfl) rfl rfl ?_
          refine tw_aload_n (k := 36) rfl rfl ?_
          refine tw_iconst (k := 37) (1 : Int32) rfl (by decide) ?_
          refine tw_callV (k := 38) (d' := 10) (mc' := 0) (ms' := 0) tw_cU tw_cUi [.int (1 : Int32)] rfl rfl wv_RX12_351_X12_hourEnds mo_X12_hourEnds (t := 11) rfl rfl rfl (fun Q9 => K_X12_hourEnds Q9 a0 (1 : Int32)) (by omega) (by decide) (by decide) (Nat.le_of_ble_eq_true rfl) (fun u17 => ?_)
          refine tw_inc (k := 39) (1 : Int32) [some (.ref a0), some (.int s2), some (.int s6), some (.int x16), some (.int (s10.2 + (1 : Int32)))] rfl rfl (by decide) (Nat.le_of_ble_eq_true rfl) rfl rfl ?_
          refine tw_goto (k := 40) 31 rfl (by decide) ?_
          exact h9 (x16, s10.2 + (1 : Int32))
        · refine tw_if_eq (k := 28) 55 rfl (by decide) ?_ ?_
          · refine tw_iconst (k := 33) (0 : Int32) rfl (by decide) ?_
            exact g14 (0 : Int32)
          · refine tw_iconst (k := 29) (1 : Int32) rfl (by decide) ?_
            refine tw_iload (k := 30) rfl rfl ?_
            refine tw_ishl (k := 31) rfl ?_
            refine tw_goto (k := 32) 56 rfl (by decide) ?_
            exact g14 ((1 : Int32) <<< (s10.2 &&& 31))
def mX12_isTold : tw_MD := (yX12_isTold, cX12_isTold, 3, (some FieldType.boolean), [(0, .aload_n 0, 1, 1), (1, .getfield 87, 3, 4), (4, .iconst 2, 1, 5), (5, .irem, 1, 6), (6, .ifCond .ne 16, 3, 9), (9, .aload_n 0, 1, 10), (10, .getfield 87, 3, 13), (13, .bipush 40, 2, 15), (15, .if_icmp .gt 7, 3, 18), (18, .iconst 1, 1, 19), (19, .goto 4, 3, 22), (22, .iconst 0, 1, 23), (23, .istore_n 1, 1, 24), (24, .iconst 0, 1, 25), (25, .istore_n 2, 1, 26), (26, .iload_n 2, 1, 27), (27, .aload_n 0, 1, 28), (28, .getfield 87, 3, 31), (31, .if_icmp .ge 50, 3, 34), (34, .iload_n 1, 1, 35), (35, .ifCond .eq 46, 3, 38), (38, .aload_n 0, 1, 39), (39, .getfield 29, 3, 42), (42, .iload_n 2, 1, 43), (43, .baload, 1, 44), (44, .iconst 0, 1, 45), (45, .bipush 30, 2, 47), (47, .invokestatic 76, 3, 50), (50, .ifCond .eq 23, 3, 53), (53, .aload_n 0, 1, 54), (54, .getfield 29, 3, 57), (57, .iload_n 2, 1, 58), (58, .iconst 1, 1, 59), (59, .iadd, 1, 60), (60, .baload, 1, 61), (61, .iconst 0, 1, 62), (62, .iconst 1, 1, 63), (63, .invokestatic 76, 3, 66), (66, .ifCond .eq 7, 3, 69), (69, .iconst 1, 1, 70), (70, .goto 4, 3, 73), (73, .iconst 0, 1, 74), (74, .istore_n 1, 1, 75), (75, .iinc 2 2, 3, 78), (78, .goto (-52), 3, 81), (81, .iload_n 1, 1, 82), (82, .ireturn, 1, 83)], [])
theorem mo_X12_isTold : tw_mok mX12_isTold 0 := ⟨plainFor_of_name (by decide +kernel), by decide +kernel, by decide +kernel, by decide +kernel, by decide +kernel⟩
theorem dk_X12_isTold : tw_dk mX12_isTold := by unfold tw_dk; decide +kernel
set_option maxRecDepth 20000 in
theorem K_X12_isTold {g : tw_Gx} (Q : tw_Rs → tw_Mem → Prop) (a0 : Nat) : tw_Kt g mX12_isTold 2 0 0 [.ref a0] Q (f_X12_isTold a0 (fun v => Q (.inl (some (.int v))))) := by
  refine tw_mkK (L := [some (.ref a0), none, none]) mo_X12_isTold dk_X12_isTold rfl (Nat.le_of_ble_eq_true rfl) rfl ?_
  unfold f_X12_isTold
  refine tw_aload_n (k := 0) rfl rfl ?_
  refine tw_getI (k := 1) rfl fl_RX12_87 (fun x1 => ?_)
  refine tw_iconst (k := 2) (2 : Int32) rfl (by decide) ?_
  refine tw_irem (k := 3) rfl ?_
  refine tw_join 23 (fun s3 => [some (.ref a0), none, none]) (fun s3 => .int s3 :: []) 0 0 (fun s3 => ?_) (fun j2 g2 => ?_)
  · refine tw_ist_n (k := 12) [some (.ref a0), some (.int s3), none] rfl (Nat.le_of_ble_eq_true rfl) rfl rfl ?_
    refine tw_iconst (k := 13) (0 : Int32) rfl (by decide) ?_
    refine tw_ist_n (k := 14) [some (.ref a0), some (.int s3), some (.int (0 : Int32))] rfl (Nat.le_of_ble_eq_true rfl) rfl rfl ?_
    refine tw_loop (fun s5 => [some (.ref a0), some (.int s5.1), some (.int s5.2)]) (fun s5 => []) (fun r4 h4 s5 => ?_) _ rfl rfl
    refine tw_iload_n (k := 15) rfl rfl ?_
    refine tw_aload_n (k := 16) rfl rfl ?_
    refine tw_getI (k := 17) rfl fl_RX12_87 (fun x6 => ?_)
    refine tw_icmp_ge (k := 18) 81 rfl (by decide) ?_ ?_
    · refine tw_iload_n (k := 45) rfl rfl ?_
      exact tw_zreturn (k := 46) rfl rfl (by decide) (by decide)
    · refine tw_iload_n (k := 19) rfl rfl ?_
      refine tw_if_eq (k := 20) 81 rfl (by decide) ?_ ?_
      · refine tw_iload_n (k := 45) rfl rfl ?_
        exact tw_zreturn (k := 46) rfl rfl (by decide) (by decide)
      · refine tw_aload_n (k := 21) rfl rfl ?_
        refine tw_getR (k := 22) rfl fl_RX12_29 (fun x7 => ?_)
        refine tw_iload_n (k := 23) rfl rfl ?_
        refine tw_baload (k := 24) rfl (fun x8 => ?_)
        refine tw_iconst (k := 25) (0 : Int32) rfl (by decide) ?_
        refine tw_bipush (k := 26) (30 : Int32) rfl (by decide) ?_
        refine tw_callS (k := 27) (d' := 1) (mc' := 0) (ms' := 0) tw_cI tw_cIi [.int x8, .int (0 : Int32), .int (30 : Int32)] rfl rfl ws_RX12_76_X12_in mo_X12_in rfl (fun Q9 => K_X12_in Q9 x8 (0 : Int32) (30 : Int32)) (by omega) (by decide) (by decide) (Nat.le_of_ble_eq_true rfl) (fun x9 => ?_)
        refine tw_join 74 (fun s11 => [some (.ref a0), some (.int s5.1), some (.int s5.2)]) (fun s11 => .int s11 :: []) 0 0 (fun s11 => ?_) (fun j10 g10 => ?_)
        · refine tw_ist_n (k := 42) [some (.ref a0), some (.int s11), some (.int s5.2)] rfl (Nat.le_of_ble_eq_true rfl) rfl rfl ?_
          refine tw_inc (k := 43) (2 : Int32) [some (.ref a0), some (.int s11), some (.int (s5.2 + (2 : Int32)))] rfl rfl (by decide) (Nat.le_of_ble_eq_true rfl) rfl rfl ?_
          refine tw_goto (k := 44) 26 rfl (by decide) ?_
          exact h4 (s11, s5.2 + (2 : Int32))
        · refine tw_join 73 (fun s13 => [some (.ref a0), some (.int s5.1), some (.int s5.2)]) (fun s13 => []) 0 0 (fun s13 => ?_) (fun j12 g12 => ?_)
          · refine tw_iconst (k := 41) (0 : Int32) rfl (by decide) ?_
            exact g10 (0 : Int32)
          · refine tw_if_eq (k := 28) 73 rfl (by decide) ?_ ?_
            · exact g12 ()
            · refine tw_aload_n (k := 29) rfl rfl ?_
              refine tw_getR (k := 30) rfl fl_RX12_29 (fun x14 => ?_)
              refine tw_iload_n (k := 31) rfl rfl ?_
              refine tw_iconst (k := 32) (1 : Int32) rfl (by decide) ?_
              refine tw_iadd (k := 33) rfl ?_
              refine tw_baload (k := 34) rfl (fun x15 => ?_)
              refine tw_iconst (k := 35) (0 : Int32) rfl (by decide) ?_
              refine tw_iconst (k := 36) (1 : Int32) rfl (by decide) ?_
              refine tw_callS (k := 37) (d' := 1) (mc' := 0) (ms' := 0) tw_cI tw_cIi [.int x15, .int (0 : Int32), .int (1 : Int32)] rfl rfl ws_RX12_76_X12_in mo_X12_in rfl (fun Q9 => K_X12_in Q9 x15 (0 : Int32) (1 : Int32)) (by omega) (by decide) (by decide) (Nat.le_of_ble_eq_true rfl) (fun x16 => ?_)
              refine tw_if_eq (k := 38) 73 rfl (by decide) ?_ ?_
              · exact g12 ()
              · refine tw_iconst (k := 39) (1 : Int32) rfl (by decide) ?_
                refine tw_goto (k := 40) 74 rfl (by decide) ?_
                exact g10 (1 : Int32)
  · refine tw_join 22 (fun s18 => [some (.ref a0), none, none]) (fun s18 => []) 0 0 (fun s18 => ?_) (fun j17 g17 => ?_)
    · refine tw_iconst (k := 11) (0 : Int32) rfl (by decide) ?_
      exact g2 (0 : Int32)
    · refine tw_if_ne (k := 4) 22 rfl (by decide) ?_ ?_
      · exact g17 ()
      · refine tw_aload_n (k := 5) rfl rfl ?_
        refine tw_getI (k := 6) rfl fl_RX12_87 (fun x19 => ?_)
        refine tw_bipush (k := 7) (40 : Int32) rfl (by decide) ?_
        refine tw_icmp_gt (k := 8) 22 rfl (by decide) ?_ ?_
        · exact g17 ()
        · refine tw_iconst (k := 9) (1 : Int32) rfl (by decide) ?_
          refine tw_goto (k := 10) 23 rfl (by decide) ?_
          exact g2 (1 : Int32)
def mX12_fits : tw_MD := (yX12_fits, cX12_fits, 5, (some FieldType.boolean), [(0, .iconst 1, 1, 1), (1, .istore_n 3, 1, 2), (2, .iconst 0, 1, 3), (3, .istore 4, 2, 5), (5, .iload 4, 2, 7), (7, .aload_n 0, 1, 8), (8, .getfield 87, 3, 11), (11, .if_icmp .ge 61, 3, 14), (14, .iload_n 3, 1, 15), (15, .ifCond .eq 49, 3, 18), (18, .aload_n 0, 1, 19), (19, .getfield 48, 3, 22), (22, .bipush 8, 2, 24), (24, .iload_n 1, 1, 25), (25, .imul, 1, 26), (26, .iload_n 2, 1, 27), (27, .iadd, 1, 28), (28, .iaload, 1, 29), (29, .aload_n 0, 1, 30), (30, .getfield 29, 3, 33), (33, .iload 4, 2, 35), (35, .baload, 1, 36), (36, .invokestatic 334, 3, 39), (39, .aload_n 0, 1, 40), (40, .getfield 29, 3, 43), (43, .iload 4, 2, 45), (45, .iconst 1, 1, 46), (46, .iadd, 1, 47), (47, .baload, 1, 48), (48, .iconst 1, 1, 49), (49, .if_icmp .ne 7, 3, 52), (52, .iconst 1, 1, 53), (53, .goto 4, 3, 56), (56, .iconst 0, 1, 57), (57, .if_icmp .ne 7, 3, 60), (60, .iconst 1, 1, 61), (61, .goto 4, 3, 64), (64, .iconst 0, 1, 65), (65, .istore_n 3, 1, 66), (66, .iinc 4 2, 3, 69), (69, .goto (-64), 3, 72), (72, .iload_n 3, 1, 73), (73, .ireturn, 1, 74)], [])
theorem mo_X12_fits : tw_mok mX12_fits 2 := ⟨plainFor_of_name (by decide +kernel), by decide +kernel, by decide +kernel, by decide +kernel, by decide +kernel⟩
theorem dk_X12_fits : tw_dk mX12_fits := by unfold tw_dk; decide +kernel
set_option maxRecDepth 20000 in
theorem K_X12_fits {g : tw_Gx} (Q : tw_Rs → tw_Mem → Prop) (a0 : Nat) (a1 : Int32) (a2 : Int32) : tw_Kt g mX12_fits 2 0 0 [.ref a0, .int a1, .int a2] Q (f_X12_fits a0 a1 a2 (fun v => Q (.inl (some (.int v))))) := by
  refine tw_mkK (L := [some (.ref a0), some (.int a1), some (.int a2), none, none]) mo_X12_fits dk_X12_fits rfl (Nat.le_of_ble_eq_true rfl) rfl ?_
  unfold f_X12_fits
  refine tw_iconst (k := 0) (1 : Int32) rfl (by decide) ?_
  refine tw_ist_n (k := 1) [some (.ref a0), some (.int a1), some (.int a2), some (.int (1 : Int32)), none] rfl (Nat.le_of_ble_eq_true rfl) rfl rfl ?_
  refine tw_iconst (k := 2) (0 : Int32) rfl (by decide) ?_
  refine tw_ist (k := 3) [some (.ref a0), some (.int a1), some (.int a2), some (.int (1 : Int32)), some (.int (0 : Int32))] rfl (Nat.le_of_ble_eq_true rfl) rfl rfl ?_
  refine tw_loop (fun s2 => [some (.ref a0), some (.int a1), some (.int a2), some (.int s2.1), some (.int s2.2)]) (fun s2 => []) (fun r1 h1 s2 => ?_) _ rfl rfl
  refine tw_iload (k := 4) rfl rfl ?_
  refine tw_aload_n (k := 5) rfl rfl ?_
  refine tw_getI (k := 6) rfl fl_RX12_87 (fun x3 => ?_)
  refine tw_icmp_ge (k := 7) 72 rfl (by decide) ?_ ?_
  · refine tw_iload_n (k := 41) rfl rfl ?_
    exact tw_zreturn (k := 42) rfl rfl (by decide) (by decide)
  · refine tw_iload_n (k := 8) rfl rfl ?_
    refine tw_join 65 (fun s5 => [some (.ref a0), some (.int a1), some (.int a2), some (.int s2.1), some (.int s2.2)]) (fun s5 => .int s5 :: []) 0 0 (fun s5 => ?_) (fun j4 g4 => ?_)
    · refine tw_ist_n (k := 38) [some (.ref a0), some (.int a1), some (.int a2), some (.int s5), some (.int s2.2)] rfl (Nat.le_of_ble_eq_true rfl) rfl rfl ?_
      refine tw_inc (k := 39) (2 : Int32) [some (.ref a0), some (.int a1), some (.int a2), some (.int s5), some (.int (s2.2 + (2 : Int32)))] rfl rfl (by decide) (Nat.le_of_ble_eq_true rfl) rfl rfl ?_
      refine tw_goto (k := 40) 5 rfl (by decide) ?_
      exact h1 (s5, s2.2 + (2 : Int32))
    · refine tw_join 64 (fun s7 => [some (.ref a0), some (.int a1), some (.int a2), some (.int s2.1), some (.int s2.2)]) (fun s7 => []) 0 0 (fun s7 => ?_) (fun j6 g6 => ?_)
      · refine tw_iconst (k := 37) (0 : Int32) rfl (by decide) ?_
        exact g4 (0 : Int32)
      · refine tw_if_eq (k := 9) 64 rfl (by decide) ?_ ?_
        · exact g6 ()
        · refine tw_aload_n (k := 10) rfl rfl ?_
          refine tw_getR (k := 11) rfl fl_RX12_48 (fun x8 => ?_)
          refine tw_bipush (k := 12) (8 : Int32) rfl (by decide) ?_
          refine tw_iload_n (k := 13) rfl rfl ?_
          refine tw_imul (k := 14) rfl ?_
          refine tw_iload_n (k := 15) rfl rfl ?_
          refine tw_iadd (k := 16) rfl ?_
          refine tw_iaload (k := 17) rfl (fun x9 => ?_)
          refine tw_aload_n (k := 18) rfl rfl ?_
          refine tw_getR (k := 19) rfl fl_RX12_29 (fun x10 => ?_)
          refine tw_iload (k := 20) rfl rfl ?_
          refine tw_baload (k := 21) rfl (fun x11 => ?_)
          refine tw_callS (k := 22) (d' := 1) (mc' := 0) (ms' := 0) tw_cI tw_cIi [.int x9, .int x11] rfl rfl ws_RX12_334_X12_has mo_X12_has rfl (fun Q9 => K_X12_has Q9 x9 x11) (by omega) (by decide) (by decide) (Nat.le_of_ble_eq_true rfl) (fun x12 => ?_)
          refine tw_aload_n (k := 23) rfl rfl ?_
          refine tw_getR (k := 24) rfl fl_RX12_29 (fun x13 => ?_)
          refine tw_iload (k := 25) rfl rfl ?_
          refine tw_iconst (k := 26) (1 : Int32) rfl (by decide) ?_
          refine tw_iadd (k := 27) rfl ?_
          refine tw_baload (k := 28) rfl (fun x14 => ?_)
          refine tw_iconst (k := 29) (1 : Int32) rfl (by decide) ?_
          refine tw_join 57 (fun s16 => [some (.ref a0), some (.int a1), some (.int a2), some (.int s2.1), some (.int s2.2)]) (fun s16 => .int s16 :: .int x12 :: []) 0 0 (fun s16 => ?_) (fun j15 g15 => ?_)
          · refine tw_icmp_ne (k := 34) 64 rfl (by decide) ?_ ?_
            · exact g6 ()
            · refine tw_iconst (k := 35) (1 : Int32) rfl (by decide) ?_
              refine tw_goto (k := 36) 65 rfl (by decide) ?_
              exact g4 (1 : Int32)
          · refine tw_icmp_ne (k := 30) 56 rfl (by decide) ?_ ?_
            · refine tw_iconst (k := 33) (0 : Int32) rfl (by decide) ?_
              exact g15 (0 : Int32)
            · refine tw_iconst (k := 31) (1 : Int32) rfl (by decide) ?_
              refine tw_goto (k := 32) 57 rfl (by decide) ?_
              exact g15 (1 : Int32)
def mX12_pulled : tw_MD := (yX12_pulled, cX12_pulled, 6, (some FieldType.int), [(0, .aload_n 0, 1, 1), (1, .invokevirtual 229, 3, 4), (4, .aload_n 0, 1, 5), (5, .aload_n 0, 1, 6), (6, .invokevirtual 403, 3, 9), (9, .ifCond .ne 7, 3, 12), (12, .iconst 1, 1, 13), (13, .goto 4, 3, 16), (16, .iconst 0, 1, 17), (17, .iconst 1, 1, 18), (18, .invokevirtual 240, 3, 21), (21, .ifCond .eq 5, 3, 24), (24, .iconst 0, 1, 25), (25, .ireturn, 1, 26), (26, .aload_n 0, 1, 27), (27, .invokevirtual 406, 3, 30), (30, .iconst 0, 1, 31), (31, .istore_n 2, 1, 32), (32, .aload_n 0, 1, 33), (33, .invokevirtual 382, 3, 36), (36, .istore_n 3, 1, 37), (37, .iconst 0, 1, 38), (38, .istore 4, 2, 40), (40, .iload 4, 2, 42), (42, .aload_n 0, 1, 43), (43, .invokevirtual 62, 3, 46), (46, .if_icmp .ge 59, 3, 49), (49, .iload 4, 2, 51), (51, .iconst 1, 1, 52), (52, .iadd, 1, 53), (53, .istore 5, 2, 55), (55, .iload 5, 2, 57), (57, .aload_n 0, 1, 58), (58, .invokevirtual 62, 3, 61), (61, .if_icmp .ge 38, 3, 64), (64, .aload_n 0, 1, 65), (65, .iload 4, 2, 67), (67, .iload 5, 2, 69), (69, .invokevirtual 409, 3, 72), (72, .ifCond .ne 6, 3, 75), (75, .goto 18, 3, 78), (78, .iinc 2 1, 3, 81), (81, .iload_n 3, 1, 82), (82, .iconst 1, 1, 83), (83, .iload 4, 2, 85), (85, .ishl, 1, 86), (86, .iconst 1, 1, 87), (87, .iload 5, 2, 89), (89, .ishl, 1, 90), (90, .ior, 1, 91), (91, .iand, 1, 92), (92, .istore_n 3, 1, 93), (93, .iinc 5 1, 3, 96), (96, .goto (-41), 3, 99), (99, .iinc 4 1, 3, 102), (102, .goto (-62), 3, 105), (105, .iload_n 1, 1, 106), (106, .ifCond .ne 7, 3, 109), (109, .iload_n 2, 1, 110), (110, .goto 12, 3, 113), (113, .iload_n 2, 1, 114), (114, .ifCond .ne 7, 3, 117), (117, .iconst 0, 1, 118), (118, .goto 4, 3, 121), (121, .iload_n 3, 1, 122), (122, .ireturn, 1, 123)], [])
theorem mo_X12_pulled : tw_mok mX12_pulled 1 := ⟨plainFor_of_name (by decide +kernel), by decide +kernel, by decide +kernel, by decide +kernel, by decide +kernel⟩
theorem dk_X12_pulled : tw_dk mX12_pulled := by unfold tw_dk; decide +kernel
theorem wv_RX12_409_X12_fits : tw_wV RX12 409 mX12_fits := ⟨List.mem_of_getElem? (i := 2357) (by decide +kernel), List.mem_of_getElem? (i := 2359) (by decide +kernel), List.mem_of_getElem? (i := 116) (by decide +kernel), List.mem_of_getElem? (i := 137) (by decide +kernel), List.mem_of_getElem? (i := 2360) (by decide +kernel)⟩
theorem wv_RX12_406_X12_laysRinging : tw_wV RX12 406 mX12_laysRinging := ⟨List.mem_of_getElem? (i := 2353) (by decide +kernel), List.mem_of_getElem? (i := 2355) (by decide +kernel), List.mem_of_getElem? (i := 115) (by decide +kernel), List.mem_of_getElem? (i := 137) (by decide +kernel), List.mem_of_getElem? (i := 2356) (by decide +kernel)⟩
theorem wv_RX12_403_X12_isTold : tw_wV RX12 403 mX12_isTold := ⟨List.mem_of_getElem? (i := 2349) (by decide +kernel), List.mem_of_getElem? (i := 2351) (by decide +kernel), List.mem_of_getElem? (i := 114) (by decide +kernel), List.mem_of_getElem? (i := 137) (by decide +kernel), List.mem_of_getElem? (i := 2352) (by decide +kernel)⟩
set_option maxRecDepth 20000 in
theorem K_X12_pulled {g : tw_Gx} (Q : tw_Rs → tw_Mem → Prop) (a0 : Nat) (a1 : Int32) : tw_Kt g mX12_pulled 12 0 0 [.ref a0, .int a1] Q (f_X12_pulled a0 a1 (fun v => Q (.inl (some (.int v))))) := by
  refine tw_mkK (L := [some (.ref a0), some (.int a1), none, none, none, none]) mo_X12_pulled dk_X12_pulled rfl (Nat.le_of_ble_eq_true rfl) rfl ?_
  unfold f_X12_pulled
  refine tw_aload_n (k := 0) rfl rfl ?_
  refine tw_callV (k := 1) (d' := 1) (mc' := 0) (ms' := 0) tw_cU tw_cUi [] rfl rfl wv_RX12_229_X12_uses mo_X12_uses (t := 11) rfl rfl rfl (fun Q9 => K_X12_uses Q9 a0) (by omega) (by decide) (by decide) (Nat.le_of_ble_eq_true rfl) (fun u1 => ?_)
  refine tw_aload_n (k := 2) rfl rfl ?_
  refine tw_aload_n (k := 3) rfl rfl ?_
  refine tw_callV (k := 4) (d' := 2) (mc' := 0) (ms' := 0) tw_cI tw_cIi [] rfl rfl wv_RX12_403_X12_isTold mo_X12_isTold (t := 11) rfl rfl rfl (fun Q9 => K_X12_isTold Q9 a0) (by omega) (by decide) (by decide) (Nat.le_of_ble_eq_true rfl) (fun x2 => ?_)
  refine tw_join 17 (fun s4 => [some (.ref a0), some (.int a1), none, none, none, none]) (fun s4 => .int s4 :: .ref a0 :: []) 0 0 (fun s4 => ?_) (fun j3 g3 => ?_)
  · refine tw_iconst (k := 9) (1 : Int32) rfl (by decide) ?_
    refine tw_callV (k := 10) (d' := 1) (mc' := 0) (ms' := 0) tw_cI tw_cIi [.int s4, .int (1 : Int32)] rfl rfl wv_RX12_240_X12_throwsIf mo_X12_throwsIf (t := 11) rfl rfl rfl (fun Q9 => K_X12_throwsIf Q9 a0 s4 (1 : Int32)) (by omega) (by decide) (by decide) (Nat.le_of_ble_eq_true rfl) (fun x5 => ?_)
    refine tw_if_eq (k := 11) 26 rfl (by decide) ?_ ?_
    · refine tw_aload_n (k := 14) rfl rfl ?_
      refine tw_callV (k := 15) (d' := 11) (mc' := 0) (ms' := 0) tw_cU tw_cUi [] rfl rfl wv_RX12_406_X12_laysRinging mo_X12_laysRinging (t := 11) rfl rfl rfl (fun Q9 => K_X12_laysRinging Q9 a0) (by omega) (by decide) (by decide) (Nat.le_of_ble_eq_true rfl) (fun u6 => ?_)
      refine tw_iconst (k := 16) (0 : Int32) rfl (by decide) ?_
      refine tw_ist_n (k := 17) [some (.ref a0), some (.int a1), some (.int (0 : Int32)), none, none, none] rfl (Nat.le_of_ble_eq_true rfl) rfl rfl ?_
      refine tw_aload_n (k := 18) rfl rfl ?_
      refine tw_callV (k := 19) (d' := 2) (mc' := 0) (ms' := 0) tw_cI tw_cIi [] rfl rfl wv_RX12_382_X12_allPeople mo_X12_allPeople (t := 11) rfl rfl rfl (fun Q9 => K_X12_allPeople Q9 a0) (by omega) (by decide) (by decide) (Nat.le_of_ble_eq_true rfl) (fun x7 => ?_)
      refine tw_ist_n (k := 20) [some (.ref a0), some (.int a1), some (.int (0 : Int32)), some (.int x7), none, none] rfl (Nat.le_of_ble_eq_true rfl) rfl rfl ?_
      refine tw_iconst (k := 21) (0 : Int32) rfl (by decide) ?_
      refine tw_ist (k := 22) [some (.ref a0), some (.int a1), some (.int (0 : Int32)), some (.int x7), some (.int (0 : Int32)), none] rfl (Nat.le_of_ble_eq_true rfl) rfl rfl ?_
      refine tw_loop (fun s9 => [some (.ref a0), some (.int a1), some (.int s9.1), some (.int s9.2.1), some (.int s9.2.2), none]) (fun s9 => []) (fun r8 h8 s9 => ?_) _ rfl rfl
      refine tw_iload (k := 23) rfl rfl ?_
      refine tw_aload_n (k := 24) rfl rfl ?_
      refine tw_callV (k := 25) (d' := 1) (mc' := 0) (ms' := 0) tw_cI tw_cIi [] rfl rfl wv_RX12_62_X12_people mo_X12_people (t := 11) rfl rfl rfl (fun Q9 => K_X12_people Q9 a0) (by omega) (by decide) (by decide) (Nat.le_of_ble_eq_true rfl) (fun x10 => ?_)
      refine tw_icmp_ge (k := 26) 105 rfl (by decide) ?_ ?_
      · refine tw_iload_n (k := 56) rfl rfl ?_
        refine tw_if_ne (k := 57) 113 rfl (by decide) ?_ ?_
        · refine tw_iload_n (k := 60) rfl rfl ?_
          refine tw_if_ne (k := 61) 121 rfl (by decide) ?_ ?_
          · refine tw_iload_n (k := 64) rfl rfl ?_
            exact tw_ireturn (k := 65) rfl rfl (by decide) (by decide)
          · refine tw_iconst (k := 62) (0 : Int32) rfl (by decide) ?_
            refine tw_goto (k := 63) 122 rfl (by decide) ?_
            exact tw_ireturn (k := 65) rfl rfl (by decide) (by decide)
        · refine tw_iload_n (k := 58) rfl rfl ?_
          refine tw_goto (k := 59) 122 rfl (by decide) ?_
          exact tw_ireturn (k := 65) rfl rfl (by decide) (by decide)
      · refine tw_iload (k := 27) rfl rfl ?_
        refine tw_iconst (k := 28) (1 : Int32) rfl (by decide) ?_
        refine tw_iadd (k := 29) rfl ?_
        refine tw_let (fun x11 => [some (.ref a0), some (.int a1), some (.int s9.1), some (.int s9.2.1), some (.int s9.2.2), none]) (fun x11 => .int x11 :: []) rfl rfl (fun x11 => ?_)
        refine tw_ist (k := 30) [some (.ref a0), some (.int a1), some (.int s9.1), some (.int s9.2.1), some (.int s9.2.2), some (.int x11)] rfl (Nat.le_of_ble_eq_true rfl) rfl rfl ?_
        refine tw_loop (fun s13 => [some (.ref a0), some (.int a1), some (.int s13.1), some (.int s13.2.1), some (.int s9.2.2), some (.int s13.2.2)]) (fun s13 => []) (fun r12 h12 s13 => ?_) _ rfl rfl
        refine tw_iload (k := 31) rfl rfl ?_
        refine tw_aload_n (k := 32) rfl rfl ?_
        refine tw_callV (k := 33) (d' := 1) (mc' := 0) (ms' := 0) tw_cI tw_cIi [] rfl rfl wv_RX12_62_X12_people mo_X12_people (t := 11) rfl rfl rfl (fun Q9 => K_X12_people Q9 a0) (by omega) (by decide) (by decide) (Nat.le_of_ble_eq_true rfl) (fun x14 => ?_)
        refine tw_icmp_ge (k := 34) 99 rfl (by decide) ?_ ?_
        · refine tw_inc (k := 54) (1 : Int32) [some (.ref a0), some (.int a1), some (.int s13.1), some (.int s13.2.1), some (.int (s9.2.2 + (1 : Int32))), some (.int s13.2.2)] rfl rfl (by decide) (Nat.le_of_ble_eq_true rfl) rfl rfl ?_
          refine tw_goto (k := 55) 40 rfl (by decide) ?_
          exact tw_wk (L' := [some (.ref a0), some (.int a1), some (.int s13.1), some (.int s13.2.1), some (.int (s9.2.2 + (1 : Int32))), none]) ⟨Or.inr rfl, Or.inr rfl, Or.inr rfl, Or.inr rfl, Or.inr rfl, Or.inl rfl, trivial⟩ (h8 (s13.1, s13.2.1, s9.2.2 + (1 : Int32)))
        · refine tw_aload_n (k := 35) rfl rfl ?_
          refine tw_iload (k := 36) rfl rfl ?_
          refine tw_iload (k := 37) rfl rfl ?_
          refine tw_callV (k := 38) (d' := 2) (mc' := 0) (ms' := 0) tw_cI tw_cIi [.int s9.2.2, .int s13.2.2] rfl rfl wv_RX12_409_X12_fits mo_X12_fits (t := 11) rfl rfl rfl (fun Q9 => K_X12_fits Q9 a0 s9.2.2 s13.2.2) (by omega) (by decide) (by decide) (Nat.le_of_ble_eq_true rfl) (fun x15 => ?_)
          refine tw_join 93 (fun s17 => [some (.ref a0), some (.int a1), some (.int s17.1), some (.int s17.2), some (.int s9.2.2), some (.int s13.2.2)]) (fun s17 => []) 0 0 (fun s17 => ?_) (fun j16 g16 => ?_)
          · refine tw_inc (k := 52) (1 : Int32) [some (.ref a0), some (.int a1), some (.int s17.1), some (.int s17.2), some (.int s9.2.2), some (.int (s13.2.2 + (1 : Int32)))] rfl rfl (by decide) (Nat.le_of_ble_eq_true rfl) rfl rfl ?_
            refine tw_goto (k := 53) 55 rfl (by decide) ?_
            exact h12 (s17.1, s17.2, s13.2.2 + (1 : Int32))
          · refine tw_if_ne (k := 39) 78 rfl (by decide) ?_ ?_
            · refine tw_inc (k := 41) (1 : Int32) [some (.ref a0), some (.int a1), some (.int (s13.1 + (1 : Int32))), some (.int s13.2.1), some (.int s9.2.2), some (.int s13.2.2)] rfl rfl (by decide) (Nat.le_of_ble_eq_true rfl) rfl rfl ?_
              refine tw_iload_n (k := 42) rfl rfl ?_
              refine tw_iconst (k := 43) (1 : Int32) rfl (by decide) ?_
              refine tw_iload (k := 44) rfl rfl ?_
              refine tw_ishl (k := 45) rfl ?_
              refine tw_iconst (k := 46) (1 : Int32) rfl (by decide) ?_
              refine tw_iload (k := 47) rfl rfl ?_
              refine tw_ishl (k := 48) rfl ?_
              refine tw_ior (k := 49) rfl ?_
              refine tw_iand (k := 50) rfl ?_
              refine tw_let (fun x18 => [some (.ref a0), some (.int a1), some (.int (s13.1 + (1 : Int32))), some (.int s13.2.1), some (.int s9.2.2), some (.int s13.2.2)]) (fun x18 => .int x18 :: []) rfl rfl (fun x18 => ?_)
              refine tw_ist_n (k := 51) [some (.ref a0), some (.int a1), some (.int (s13.1 + (1 : Int32))), some (.int x18), some (.int s9.2.2), some (.int s13.2.2)] rfl (Nat.le_of_ble_eq_true rfl) rfl rfl ?_
              exact g16 (s13.1 + (1 : Int32), x18)
            · refine tw_goto (k := 40) 93 rfl (by decide) ?_
              exact g16 (s13.1, s13.2.1)
    · refine tw_iconst (k := 12) (0 : Int32) rfl (by decide) ?_
      exact tw_ireturn (k := 13) rfl rfl (by decide) (by decide)
  · refine tw_if_ne (k := 5) 16 rfl (by decide) ?_ ?_
    · refine tw_iconst (k := 8) (0 : Int32) rfl (by decide) ?_
      exact g3 (0 : Int32)
    · refine tw_iconst (k := 6) (1 : Int32) rfl (by decide) ?_
      refine tw_goto (k := 7) 17 rfl (by decide) ?_
      exact g3 (1 : Int32)
def mX12_listen : tw_MD := (yX12_listen, cX12_listen, 8, (some FieldType.int), [(0, .aload_n 0, 1, 1), (1, .invokevirtual 229, 3, 4), (4, .aload_n 0, 1, 5), (5, .aload_n 0, 1, 6), (6, .invokevirtual 403, 3, 9), (9, .ifCond .ne 7, 3, 12), (12, .iconst 1, 1, 13), (13, .goto 4, 3, 16), (16, .iconst 0, 1, 17), (17, .iconst 1, 1, 18), (18, .invokevirtual 240, 3, 21), (21, .ifCond .eq 5, 3, 24), (24, .iconst 0, 1, 25), (25, .ireturn, 1, 26), (26, .aload_n 0, 1, 27), (27, .invokevirtual 406, 3, 30), (30, .iconst (-1), 1, 31), (31, .istore_n 1, 1, 32), (32, .ldc_w 412, 3, 35), (35, .istore_n 2, 1, 36), (36, .iconst 0, 1, 37), (37, .istore_n 3, 1, 38), (38, .iload_n 3, 1, 39), (39, .bipush 30, 2, 41), (41, .if_icmp .gt 168, 3, 44), (44, .iconst 0, 1, 45), (45, .istore 4, 2, 47), (47, .iconst 0, 1, 48), (48, .istore 5, 2, 50), (50, .iconst 0, 1, 51), (51, .istore 6, 2, 53), (53, .iload 6, 2, 55), (55, .aload_n 0, 1, 56), (56, .invokevirtual 62, 3, 59), (59, .if_icmp .ge 104, 3, 62), (62, .iload 6, 2, 64), (64, .iconst 1, 1, 65), (65, .iadd, 1, 66), (66, .istore 7, 2, 68), (68, .iload 7, 2, 70), (70, .aload_n 0, 1, 71), (71, .invokevirtual 62, 3, 74), (74, .if_icmp .ge 83, 3, 77), (77, .aload_n 0, 1, 78), (78, .iload 6, 2, 80), (80, .iload 7, 2, 82), (82, .invokevirtual 409, 3, 85), (85, .ifCond .ne 6, 3, 88), (88, .goto 63, 3, 91), (91, .iload 4, 2, 93), (93, .aload_n 0, 1, 94), (94, .getfield 48, 3, 97), (97, .bipush 8, 2, 99), (99, .iload 6, 2, 101), (101, .imul, 1, 102), (102, .iload 7, 2, 104), (104, .iadd, 1, 105), (105, .iaload, 1, 106), (106, .iload_n 3, 1, 107), (107, .invokestatic 334, 3, 110), (110, .ifCond .eq 7, 3, 113), (113, .iconst 1, 1, 114), (114, .goto 4, 3, 117), (117, .iconst 0, 1, 118), (118, .iadd, 1, 119), (119, .istore 4, 2, 121), (121, .iload 5, 2, 123), (123, .aload_n 0, 1, 124), (124, .getfield 48, 3, 127), (127, .bipush 8, 2, 129), (129, .iload 6, 2, 131), (131, .imul, 1, 132), (132, .iload 7, 2, 134), (134, .iadd, 1, 135), (135, .iaload, 1, 136), (136, .iload_n 3, 1, 137), (137, .invokestatic 334, 3, 140), (140, .ifCond .eq 7, 3, 143), (143, .iconst 0, 1, 144), (144, .goto 4, 3, 147), (147, .iconst 1, 1, 148), (148, .iadd, 1, 149), (149, .istore 5, 2, 151), (151, .iinc 7 1, 3, 154), (154, .goto (-86), 3, 157), (157, .iinc 6 1, 3, 160), (160, .goto (-107), 3, 163), (163, .iload 4, 2, 165), (165, .iload 5, 2, 167), (167, .iadd, 1, 168), (168, .iconst 2, 1, 169), (169, .if_icmp .ge 5, 3, 172), (172, .iconst (-1), 1, 173), (173, .ireturn, 1, 174), (174, .iload 4, 2, 176), (176, .iload 5, 2, 178), (178, .invokestatic 258, 3, 181), (181, .iload_n 2, 1, 182), (182, .if_icmp .ge 7, 3, 185), (185, .iload_n 3, 1, 186), (186, .goto 4, 3, 189), (189, .iload_n 1, 1, 190), (190, .istore_n 1, 1, 191), (191, .iload_n 2, 1, 192), (192, .iload 4, 2, 194), (194, .iload 5, 2, 196), (196, .invokestatic 258, 3, 199), (199, .invokestatic 273, 3, 202), (202, .istore_n 2, 1, 203), (203, .iinc 3 1, 3, 206), (206, .goto (-168), 3, 209), (209, .iload_n 1, 1, 210), (210, .ireturn, 1, 211)], [])
theorem mo_X12_listen : tw_mok mX12_listen 0 := ⟨plainFor_of_name (by decide +kernel), by decide +kernel, by decide +kernel, by decide +kernel, by decide +kernel⟩
theorem dk_X12_listen : tw_dk mX12_listen := by unfold tw_dk; decide +kernel
theorem kc_RX12_412 : Cond.constant RX12 412 (1000000 : Int32) ∈ lw_tbl := List.mem_of_getElem? (i := 2365) (by decide +kernel)
set_option maxRecDepth 20000 in
theorem K_X12_listen {g : tw_Gx} (Q : tw_Rs → tw_Mem → Prop) (a0 : Nat) : tw_Kt g mX12_listen 12 0 0 [.ref a0] Q (f_X12_listen a0 (fun v => Q (.inl (some (.int v))))) := by
  refine tw_mkK (L := [some (.ref a0), none, none, none, none, none, none, none]) mo_X12_listen dk_X12_listen rfl (Nat.le_of_ble_eq_true rfl) rfl ?_
  unfold f_X12_listen
  refine tw_aload_n (k := 0) rfl rfl ?_
  refine tw_callV (k := 1) (d' := 1) (mc' := 0) (ms' := 0) tw_cU tw_cUi [] rfl rfl wv_RX12_229_X12_uses mo_X12_uses (t := 11) rfl rfl rfl (fun Q9 => K_X12_uses Q9 a0) (by omega) (by decide) (by decide) (Nat.le_of_ble_eq_true rfl) (fun u1 => ?_)
  refine tw_aload_n (k := 2) rfl rfl ?_
  refine tw_aload_n (k := 3) rfl rfl ?_
  refine tw_callV (k := 4) (d' := 2) (mc' := 0) (ms' := 0) tw_cI tw_cIi [] rfl rfl wv_RX12_403_X12_isTold mo_X12_isTold (t := 11) rfl rfl rfl (fun Q9 => K_X12_isTold Q9 a0) (by omega) (by decide) (by decide) (Nat.le_of_ble_eq_true rfl) (fun x2 => ?_)
  refine tw_join 17 (fun s4 => [some (.ref a0), none, none, none, none, none, none, none]) (fun s4 => .int s4 :: .ref a0 :: []) 0 0 (fun s4 => ?_) (fun j3 g3 => ?_)
  · refine tw_iconst (k := 9) (1 : Int32) rfl (by decide) ?_
    refine tw_callV (k := 10) (d' := 1) (mc' := 0) (ms' := 0) tw_cI tw_cIi [.int s4, .int (1 : Int32)] rfl rfl wv_RX12_240_X12_throwsIf mo_X12_throwsIf (t := 11) rfl rfl rfl (fun Q9 => K_X12_throwsIf Q9 a0 s4 (1 : Int32)) (by omega) (by decide) (by decide) (Nat.le_of_ble_eq_true rfl) (fun x5 => ?_)
    refine tw_if_eq (k := 11) 26 rfl (by decide) ?_ ?_
    · refine tw_aload_n (k := 14) rfl rfl ?_
      refine tw_callV (k := 15) (d' := 11) (mc' := 0) (ms' := 0) tw_cU tw_cUi [] rfl rfl wv_RX12_406_X12_laysRinging mo_X12_laysRinging (t := 11) rfl rfl rfl (fun Q9 => K_X12_laysRinging Q9 a0) (by omega) (by decide) (by decide) (Nat.le_of_ble_eq_true rfl) (fun u6 => ?_)
      refine tw_iconst (k := 16) (-1 : Int32) rfl (by decide) ?_
      refine tw_ist_n (k := 17) [some (.ref a0), some (.int (-1 : Int32)), none, none, none, none, none, none] rfl (Nat.le_of_ble_eq_true rfl) rfl rfl ?_
      refine tw_ldcw (k := 18) kc_RX12_412 rfl ?_
      refine tw_ist_n (k := 19) [some (.ref a0), some (.int (-1 : Int32)), some (.int (1000000 : Int32)), none, none, none, none, none] rfl (Nat.le_of_ble_eq_true rfl) rfl rfl ?_
      refine tw_iconst (k := 20) (0 : Int32) rfl (by decide) ?_
      refine tw_ist_n (k := 21) [some (.ref a0), some (.int (-1 : Int32)), some (.int (1000000 : Int32)), some (.int (0 : Int32)), none, none, none, none] rfl (Nat.le_of_ble_eq_true rfl) rfl rfl ?_
      refine tw_loop (fun s8 => [some (.ref a0), some (.int s8.1), some (.int s8.2.1), some (.int s8.2.2), none, none, none, none]) (fun s8 => []) (fun r7 h7 s8 => ?_) _ rfl rfl
      refine tw_iload_n (k := 22) rfl rfl ?_
      refine tw_bipush (k := 23) (30 : Int32) rfl (by decide) ?_
      refine tw_icmp_gt (k := 24) 209 rfl (by decide) ?_ ?_
      · refine tw_iload_n (k := 111) rfl rfl ?_
        exact tw_ireturn (k := 112) rfl rfl (by decide) (by decide)
      · refine tw_iconst (k := 25) (0 : Int32) rfl (by decide) ?_
        refine tw_ist (k := 26) [some (.ref a0), some (.int s8.1), some (.int s8.2.1), some (.int s8.2.2), some (.int (0 : Int32)), none, none, none] rfl (Nat.le_of_ble_eq_true rfl) rfl rfl ?_
        refine tw_iconst (k := 27) (0 : Int32) rfl (by decide) ?_
        refine tw_ist (k := 28) [some (.ref a0), some (.int s8.1), some (.int s8.2.1), some (.int s8.2.2), some (.int (0 : Int32)), some (.int (0 : Int32)), none, none] rfl (Nat.le_of_ble_eq_true rfl) rfl rfl ?_
        refine tw_iconst (k := 29) (0 : Int32) rfl (by decide) ?_
        refine tw_ist (k := 30) [some (.ref a0), some (.int s8.1), some (.int s8.2.1), some (.int s8.2.2), some (.int (0 : Int32)), some (.int (0 : Int32)), some (.int (0 : Int32)), none] rfl (Nat.le_of_ble_eq_true rfl) rfl rfl ?_
        refine tw_loop (fun s10 => [some (.ref a0), some (.int s8.1), some (.int s8.2.1), some (.int s8.2.2), some (.int s10.1), some (.int s10.2.1), some (.int s10.2.2), none]) (fun s10 => []) (fun r9 h9 s10 => ?_) _ rfl rfl
        refine tw_iload (k := 31) rfl rfl ?_
        refine tw_aload_n (k := 32) rfl rfl ?_
        refine tw_callV (k := 33) (d' := 1) (mc' := 0) (ms' := 0) tw_cI tw_cIi [] rfl rfl wv_RX12_62_X12_people mo_X12_people (t := 11) rfl rfl rfl (fun Q9 => K_X12_people Q9 a0) (by omega) (by decide) (by decide) (Nat.le_of_ble_eq_true rfl) (fun x11 => ?_)
        refine tw_icmp_ge (k := 34) 163 rfl (by decide) ?_ ?_
        · refine tw_iload (k := 87) rfl rfl ?_
          refine tw_iload (k := 88) rfl rfl ?_
          refine tw_iadd (k := 89) rfl ?_
          refine tw_iconst (k := 90) (2 : Int32) rfl (by decide) ?_
          refine tw_icmp_ge (k := 91) 174 rfl (by decide) ?_ ?_
          · refine tw_iload (k := 94) rfl rfl ?_
            refine tw_iload (k := 95) rfl rfl ?_
            refine tw_callS (k := 96) (d' := 1) (mc' := 0) (ms' := 0) tw_cI tw_cIi [.int s10.1, .int s10.2.1] rfl rfl ws_RX12_258_J9_max_7cf53 mo_J9_max_7cf53 rfl (fun Q9 => K_J9_max_7cf53 Q9 s10.1 s10.2.1) (by omega) (by decide) (by decide) (Nat.le_of_ble_eq_true rfl) (fun x12 => ?_)
            refine tw_iload_n (k := 97) rfl rfl ?_
            refine tw_join 190 (fun s14 => [some (.ref a0), some (.int s8.1), some (.int s8.2.1), some (.int s8.2.2), some (.int s10.1), some (.int s10.2.1), some (.int s10.2.2), none]) (fun s14 => .int s14 :: []) 0 0 (fun s14 => ?_) (fun j13 g13 => ?_)
            · refine tw_ist_n (k := 102) [some (.ref a0), some (.int s14), some (.int s8.2.1), some (.int s8.2.2), some (.int s10.1), some (.int s10.2.1), some (.int s10.2.2), none] rfl (Nat.le_of_ble_eq_true rfl) rfl rfl ?_
              refine tw_iload_n (k := 103) rfl rfl ?_
              refine tw_iload (k := 104) rfl rfl ?_
              refine tw_iload (k := 105) rfl rfl ?_
              refine tw_callS (k := 106) (d' := 1) (mc' := 0) (ms' := 0) tw_cI tw_cIi [.int s10.1, .int s10.2.1] rfl rfl ws_RX12_258_J9_max_7cf53 mo_J9_max_7cf53 rfl (fun Q9 => K_J9_max_7cf53 Q9 s10.1 s10.2.1) (by omega) (by decide) (by decide) (Nat.le_of_ble_eq_true rfl) (fun x15 => ?_)
              refine tw_callS (k := 107) (d' := 1) (mc' := 0) (ms' := 0) tw_cI tw_cIi [.int s8.2.1, .int x15] rfl rfl ws_RX12_273_J9_min_7cf53 mo_J9_min_7cf53 rfl (fun Q9 => K_J9_min_7cf53 Q9 s8.2.1 x15) (by omega) (by decide) (by decide) (Nat.le_of_ble_eq_true rfl) (fun x16 => ?_)
              refine tw_ist_n (k := 108) [some (.ref a0), some (.int s14), some (.int x16), some (.int s8.2.2), some (.int s10.1), some (.int s10.2.1), some (.int s10.2.2), none] rfl (Nat.le_of_ble_eq_true rfl) rfl rfl ?_
              refine tw_inc (k := 109) (1 : Int32) [some (.ref a0), some (.int s14), some (.int x16), some (.int (s8.2.2 + (1 : Int32))), some (.int s10.1), some (.int s10.2.1), some (.int s10.2.2), none] rfl rfl (by decide) (Nat.le_of_ble_eq_true rfl) rfl rfl ?_
              refine tw_goto (k := 110) 38 rfl (by decide) ?_
              exact tw_wk (L' := [some (.ref a0), some (.int s14), some (.int x16), some (.int (s8.2.2 + (1 : Int32))), none, none, none, none]) ⟨Or.inr rfl, Or.inr rfl, Or.inr rfl, Or.inr rfl, Or.inl rfl, Or.inl rfl, Or.inl rfl, Or.inl rfl, trivial⟩ (h7 (s14, x16, s8.2.2 + (1 : Int32)))
            · refine tw_icmp_ge (k := 98) 189 rfl (by decide) ?_ ?_
              · refine tw_iload_n (k := 101) rfl rfl ?_
                exact g13 s8.1
              · refine tw_iload_n (k := 99) rfl rfl ?_
                refine tw_goto (k := 100) 190 rfl (by decide) ?_
                exact g13 s8.2.2
          · refine tw_iconst (k := 92) (-1 : Int32) rfl (by decide) ?_
            exact tw_ireturn (k := 93) rfl rfl (by decide) (by decide)
        · refine tw_iload (k := 35) rfl rfl ?_
          refine tw_iconst (k := 36) (1 : Int32) rfl (by decide) ?_
          refine tw_iadd (k := 37) rfl ?_
          refine tw_let (fun x17 => [some (.ref a0), some (.int s8.1), some (.int s8.2.1), some (.int s8.2.2), some (.int s10.1), some (.int s10.2.1), some (.int s10.2.2), none]) (fun x17 => .int x17 :: []) rfl rfl (fun x17 => ?_)
          refine tw_ist (k := 38) [some (.ref a0), some (.int s8.1), some (.int s8.2.1), some (.int s8.2.2), some (.int s10.1), some (.int s10.2.1), some (.int s10.2.2), some (.int x17)] rfl (Nat.le_of_ble_eq_true rfl) rfl rfl ?_
          refine tw_loop (fun s19 => [some (.ref a0), some (.int s8.1), some (.int s8.2.1), some (.int s8.2.2), some (.int s19.1), some (.int s19.2.1), some (.int s10.2.2), some (.int s19.2.2)]) (fun s19 => []) (fun r18 h18 s19 => ?_) _ rfl rfl
          refine tw_iload (k := 39) rfl rfl ?_
          refine tw_aload_n (k := 40) rfl rfl ?_
          refine tw_callV (k := 41) (d' := 1) (mc' := 0) (ms' := 0) tw_cI tw_cIi [] rfl rfl wv_RX12_62_X12_people mo_X12_people (t := 11) rfl rfl rfl (fun Q9 => K_X12_people Q9 a0) (by omega) (by decide) (by decide) (Nat.le_of_ble_eq_true rfl) (fun x20 => ?_)
          refine tw_icmp_ge (k := 42) 157 rfl (by decide) ?_ ?_
          · refine tw_inc (k := 85) (1 : Int32) [some (.ref a0), some (.int s8.1), some (.int s8.2.1), some (.int s8.2.2), some (.int s19.1), some (.int s19.2.1), some (.int (s10.2.2 + (1 : Int32))), some (.int s19.2.2)] rfl rfl (by decide) (Nat.le_of_ble_eq_true rfl) rfl rfl ?_
            refine tw_goto (k := 86) 53 rfl (by decide) ?_
            exact tw_wk (L' := [some (.ref a0), some (.int s8.1), some (.int s8.2.1), some (.int s8.2.2), some (.int s19.1), some (.int s19.2.1), some (.int (s10.2.2 + (1 : Int32))), none]) ⟨Or.inr rfl, Or.inr rfl, Or.inr rfl, Or.inr rfl, Or.inr rfl, Or.inr rfl, Or.inr rfl, Or.inl rfl, trivial⟩ (h9 (s19.1, s19.2.1, s10.2.2 + (1 : Int32)))
          · refine tw_aload_n (k := 43) rfl rfl ?_
            refine tw_iload (k := 44) rfl rfl ?_
            refine tw_iload (k := 45) rfl rfl ?_
            refine tw_callV (k := 46) (d' := 2) (mc' := 0) (ms' := 0) tw_cI tw_cIi [.int s10.2.2, .int s19.2.2] rfl rfl wv_RX12_409_X12_fits mo_X12_fits (t := 11) rfl rfl rfl (fun Q9 => K_X12_fits Q9 a0 s10.2.2 s19.2.2) (by omega) (by decide) (by decide) (Nat.le_of_ble_eq_true rfl) (fun x21 => ?_)
            refine tw_join 151 (fun s23 => [some (.ref a0), some (.int s8.1), some (.int s8.2.1), some (.int s8.2.2), some (.int s23.1), some (.int s23.2), some (.int s10.2.2), some (.int s19.2.2)]) (fun s23 => []) 0 0 (fun s23 => ?_) (fun j22 g22 => ?_)
            · refine tw_inc (k := 83) (1 : Int32) [some (.ref a0), some (.int s8.1), some (.int s8.2.1), some (.int s8.2.2), some (.int s23.1), some (.int s23.2), some (.int s10.2.2), some (.int (s19.2.2 + (1 : Int32)))] rfl rfl (by decide) (Nat.le_of_ble_eq_true rfl) rfl rfl ?_
              refine tw_goto (k := 84) 68 rfl (by decide) ?_
              exact h18 (s23.1, s23.2, s19.2.2 + (1 : Int32))
            · refine tw_if_ne (k := 47) 91 rfl (by decide) ?_ ?_
              · refine tw_iload (k := 49) rfl rfl ?_
                refine tw_aload_n (k := 50) rfl rfl ?_
                refine tw_getR (k := 51) rfl fl_RX12_48 (fun x24 => ?_)
                refine tw_bipush (k := 52) (8 : Int32) rfl (by decide) ?_
                refine tw_iload (k := 53) rfl rfl ?_
                refine tw_imul (k := 54) rfl ?_
                refine tw_iload (k := 55) rfl rfl ?_
                refine tw_iadd (k := 56) rfl ?_
                refine tw_iaload (k := 57) rfl (fun x25 => ?_)
                refine tw_iload_n (k := 58) rfl rfl ?_
                refine tw_callS (k := 59) (d' := 1) (mc' := 0) (ms' := 0) tw_cI tw_cIi [.int x25, .int s8.2.2] rfl rfl ws_RX12_334_X12_has mo_X12_has rfl (fun Q9 => K_X12_has Q9 x25 s8.2.2) (by omega) (by decide) (by decide) (Nat.le_of_ble_eq_true rfl) (fun x26 => ?_)
                refine tw_join 118 (fun s28 => [some (.ref a0), some (.int s8.1), some (.int s8.2.1), some (.int s8.2.2), some (.int s19.1), some (.int s19.2.1), some (.int s10.2.2), some (.int s19.2.2)]) (fun s28 => .int s28 :: .int s19.1 :: []) 0 0 (fun s28 => ?_) (fun j27 g27 => ?_)
                · refine tw_iadd (k := 64) rfl ?_
                  refine tw_let (fun x29 => [some (.ref a0), some (.int s8.1), some (.int s8.2.1), some (.int s8.2.2), some (.int s19.1), some (.int s19.2.1), some (.int s10.2.2), some (.int s19.2.2)]) (fun x29 => .int x29 :: []) rfl rfl (fun x29 => ?_)
                  refine tw_ist (k := 65) [some (.ref a0), some (.int s8.1), some (.int s8.2.1), some (.int s8.2.2), some (.int x29), some (.int s19.2.1), some (.int s10.2.2), some (.int s19.2.2)] rfl (Nat.le_of_ble_eq_true rfl) rfl rfl ?_
                  refine tw_iload (k := 66) rfl rfl ?_
                  refine tw_aload_n (k := 67) rfl rfl ?_
                  refine tw_getR (k := 68) rfl fl_RX12_48 (fun x30 => ?_)
                  refine tw_bipush (k := 69) (8 : Int32) rfl (by decide) ?_
                  refine tw_iload (k := 70) rfl rfl ?_
                  refine tw_imul (k := 71) rfl ?_
                  refine tw_iload (k := 72) rfl rfl ?_
                  refine tw_iadd (k := 73) rfl ?_
                  refine tw_iaload (k := 74) rfl (fun x31 => ?_)
                  refine tw_iload_n (k := 75) rfl rfl ?_
                  refine tw_callS (k := 76) (d' := 1) (mc' := 0) (ms' := 0) tw_cI tw_cIi [.int x31, .int s8.2.2] rfl rfl ws_RX12_334_X12_has mo_X12_has rfl (fun Q9 => K_X12_has Q9 x31 s8.2.2) (by omega) (by decide) (by decide) (Nat.le_of_ble_eq_true rfl) (fun x32 => ?_)
                  refine tw_join 148 (fun s34 => [some (.ref a0), some (.int s8.1), some (.int s8.2.1), some (.int s8.2.2), some (.int x29), some (.int s19.2.1), some (.int s10.2.2), some (.int s19.2.2)]) (fun s34 => .int s34 :: .int s19.2.1 :: []) 0 0 (fun s34 => ?_) (fun j33 g33 => ?_)
                  · refine tw_iadd (k := 81) rfl ?_
                    refine tw_let (fun x35 => [some (.ref a0), some (.int s8.1), some (.int s8.2.1), some (.int s8.2.2), some (.int x29), some (.int s19.2.1), some (.int s10.2.2), some (.int s19.2.2)]) (fun x35 => .int x35 :: []) rfl rfl (fun x35 => ?_)
                    refine tw_ist (k := 82) [some (.ref a0), some (.int s8.1), some (.int s8.2.1), some (.int s8.2.2), some (.int x29), some (.int x35), some (.int s10.2.2), some (.int s19.2.2)] rfl (Nat.le_of_ble_eq_true rfl) rfl rfl ?_
                    exact g22 (x29, x35)
                  · refine tw_if_eq (k := 77) 147 rfl (by decide) ?_ ?_
                    · refine tw_iconst (k := 80) (1 : Int32) rfl (by decide) ?_
                      exact g33 (1 : Int32)
                    · refine tw_iconst (k := 78) (0 : Int32) rfl (by decide) ?_
                      refine tw_goto (k := 79) 148 rfl (by decide) ?_
                      exact g33 (0 : Int32)
                · refine tw_if_eq (k := 60) 117 rfl (by decide) ?_ ?_
                  · refine tw_iconst (k := 63) (0 : Int32) rfl (by decide) ?_
                    exact g27 (0 : Int32)
                  · refine tw_iconst (k := 61) (1 : Int32) rfl (by decide) ?_
                    refine tw_goto (k := 62) 118 rfl (by decide) ?_
                    exact g27 (1 : Int32)
              · refine tw_goto (k := 48) 151 rfl (by decide) ?_
                exact g22 (s19.1, s19.2.1)
    · refine tw_iconst (k := 12) (0 : Int32) rfl (by decide) ?_
      exact tw_ireturn (k := 13) rfl rfl (by decide) (by decide)
  · refine tw_if_ne (k := 5) 16 rfl (by decide) ?_ ?_
    · refine tw_iconst (k := 8) (0 : Int32) rfl (by decide) ?_
      exact g3 (0 : Int32)
    · refine tw_iconst (k := 6) (1 : Int32) rfl (by decide) ?_
      refine tw_goto (k := 7) 17 rfl (by decide) ?_
      exact g3 (1 : Int32)
def mX12_payOf : tw_MD := (yX12_payOf, cX12_payOf, 3, (some FieldType.int), [(0, .aload_n 0, 1, 1), (1, .iload_n 1, 1, 2), (2, .iconst 2, 1, 3), (3, .invokevirtual 70, 3, 6), (6, .aload_n 0, 1, 7), (7, .iload_n 2, 1, 8), (8, .iconst 2, 1, 9), (9, .invokevirtual 70, 3, 12), (12, .iadd, 1, 13), (13, .ireturn, 1, 14)], [])
theorem mo_X12_payOf : tw_mok mX12_payOf 2 := ⟨plainFor_of_name (by decide +kernel), by decide +kernel, by decide +kernel, by decide +kernel, by decide +kernel⟩
theorem dk_X12_payOf : tw_dk mX12_payOf := by unfold tw_dk; decide +kernel
set_option maxRecDepth 20000 in
theorem K_X12_payOf {g : tw_Gx} (Q : tw_Rs → tw_Mem → Prop) (a0 : Nat) (a1 : Int32) (a2 : Int32) : tw_Kt g mX12_payOf 3 0 0 [.ref a0, .int a1, .int a2] Q (f_X12_payOf a0 a1 a2 (fun v => Q (.inl (some (.int v))))) := by
  refine tw_mkK (L := [some (.ref a0), some (.int a1), some (.int a2)]) mo_X12_payOf dk_X12_payOf rfl (Nat.le_of_ble_eq_true rfl) rfl ?_
  unfold f_X12_payOf
  refine tw_aload_n (k := 0) rfl rfl ?_
  refine tw_iload_n (k := 1) rfl rfl ?_
  refine tw_iconst (k := 2) (2 : Int32) rfl (by decide) ?_
  refine tw_callV (k := 3) (d' := 2) (mc' := 0) (ms' := 0) tw_cI tw_cIi [.int a1, .int (2 : Int32)] rfl rfl wv_RX12_70_X12_of mo_X12_of (t := 11) rfl rfl rfl (fun Q9 => K_X12_of Q9 a0 a1 (2 : Int32)) (by omega) (by decide) (by decide) (Nat.le_of_ble_eq_true rfl) (fun x1 => ?_)
  refine tw_aload_n (k := 4) rfl rfl ?_
  refine tw_iload_n (k := 5) rfl rfl ?_
  refine tw_iconst (k := 6) (2 : Int32) rfl (by decide) ?_
  refine tw_callV (k := 7) (d' := 2) (mc' := 0) (ms' := 0) tw_cI tw_cIi [.int a2, .int (2 : Int32)] rfl rfl wv_RX12_70_X12_of mo_X12_of (t := 11) rfl rfl rfl (fun Q9 => K_X12_of Q9 a0 a2 (2 : Int32)) (by omega) (by decide) (by decide) (Nat.le_of_ble_eq_true rfl) (fun x2 => ?_)
  refine tw_iadd (k := 8) rfl ?_
  exact tw_ireturn (k := 9) rfl rfl (by decide) (by decide)
def mX12_cheap : tw_MD := (yX12_cheap, cX12_cheap, 5, (some FieldType.int), [(0, .aload_n 0, 1, 1), (1, .iconst 0, 1, 2), (2, .putfield 3, 3, 5), (5, .aload_n 0, 1, 6), (6, .iload_n 1, 1, 7), (7, .iconst 0, 1, 8), (8, .bipush 99, 2, 10), (10, .invokestatic 76, 3, 13), (13, .ifCond .ne 7, 3, 16), (16, .iconst 1, 1, 17), (17, .goto 4, 3, 20), (20, .iconst 0, 1, 21), (21, .iconst 1, 1, 22), (22, .invokevirtual 240, 3, 25), (25, .ifCond .eq 5, 3, 28), (28, .iconst 0, 1, 29), (29, .ireturn, 1, 30), (30, .iconst 0, 1, 31), (31, .istore_n 2, 1, 32), (32, .iconst 0, 1, 33), (33, .istore_n 3, 1, 34), (34, .iload_n 3, 1, 35), (35, .aload_n 0, 1, 36), (36, .invokevirtual 62, 3, 39), (39, .if_icmp .ge 58, 3, 42), (42, .iload_n 3, 1, 43), (43, .iconst 1, 1, 44), (44, .iadd, 1, 45), (45, .istore 4, 2, 47), (47, .iload 4, 2, 49), (49, .aload_n 0, 1, 50), (50, .invokevirtual 62, 3, 53), (53, .if_icmp .ge 38, 3, 56), (56, .iload_n 2, 1, 57), (57, .aload_n 0, 1, 58), (58, .iload_n 3, 1, 59), (59, .iload 4, 2, 61), (61, .invokevirtual 266, 3, 64), (64, .ifCond .eq 18, 3, 67), (67, .aload_n 0, 1, 68), (68, .iload_n 3, 1, 69), (69, .iload 4, 2, 71), (71, .invokevirtual 413, 3, 74), (74, .iload_n 1, 1, 75), (75, .if_icmp .gt 7, 3, 78), (78, .iconst 1, 1, 79), (79, .goto 4, 3, 82), (82, .iconst 0, 1, 83), (83, .iadd, 1, 84), (84, .istore_n 2, 1, 85), (85, .iinc 4 1, 3, 88), (88, .goto (-41), 3, 91), (91, .iinc 3 1, 3, 94), (94, .goto (-60), 3, 97), (97, .iload_n 2, 1, 98), (98, .ireturn, 1, 99)], [])
theorem mo_X12_cheap : tw_mok mX12_cheap 1 := ⟨plainFor_of_name (by decide +kernel), by decide +kernel, by decide +kernel, by decide +kernel, by decide +kernel⟩
theorem dk_X12_cheap : tw_dk mX12_cheap := by unfold tw_dk; decide +kernel
theorem wv_RX12_413_X12_payOf : tw_wV RX12 413 mX12_payOf := ⟨List.mem_of_getElem? (i := 2370) (by decide +kernel), List.mem_of_getElem? (i := 2372) (by decide +kernel), List.mem_of_getElem? (i := 117) (by decide +kernel), List.mem_of_getElem? (i := 137) (by decide +kernel), List.mem_of_getElem? (i := 2373) (by decide +kernel)⟩
theorem wf_X12_cheap_3 : tw_wf mX12_cheap 3 70 := Or.inl rfl
set_option maxRecDepth 20000 in
theorem K_X12_cheap {g : tw_Gx} (Q : tw_Rs → tw_Mem → Prop) (a0 : Nat) (a1 : Int32) : tw_Kt g mX12_cheap 6 0 0 [.ref a0, .int a1] Q (f_X12_cheap a0 a1 (fun v => Q (.inl (some (.int v))))) := by
  refine tw_mkK (L := [some (.ref a0), some (.int a1), none, none, none]) mo_X12_cheap dk_X12_cheap rfl (Nat.le_of_ble_eq_true rfl) rfl ?_
  unfold f_X12_cheap
  refine tw_aload_n (k := 0) rfl rfl ?_
  refine tw_iconst (k := 1) (0 : Int32) rfl (by decide) ?_
  refine tw_putI (k := 2) rfl fl_RX12_3 wf_X12_cheap_3 (by decide +kernel) ?_
  refine tw_aload_n (k := 3) rfl rfl ?_
  refine tw_iload_n (k := 4) rfl rfl ?_
  refine tw_iconst (k := 5) (0 : Int32) rfl (by decide) ?_
  refine tw_bipush (k := 6) (99 : Int32) rfl (by decide) ?_
  refine tw_callS (k := 7) (d' := 1) (mc' := 0) (ms' := 0) tw_cI tw_cIi [.int a1, .int (0 : Int32), .int (99 : Int32)] rfl rfl ws_RX12_76_X12_in mo_X12_in rfl (fun Q9 => K_X12_in Q9 a1 (0 : Int32) (99 : Int32)) (by omega) (by decide) (by decide) (Nat.le_of_ble_eq_true rfl) (fun x1 => ?_)
  refine tw_join 21 (fun s3 => [some (.ref a0), some (.int a1), none, none, none]) (fun s3 => .int s3 :: .ref a0 :: []) 0 0 (fun s3 => ?_) (fun j2 g2 => ?_)
  · refine tw_iconst (k := 12) (1 : Int32) rfl (by decide) ?_
    refine tw_callV (k := 13) (d' := 1) (mc' := 0) (ms' := 0) tw_cI tw_cIi [.int s3, .int (1 : Int32)] rfl rfl wv_RX12_240_X12_throwsIf mo_X12_throwsIf (t := 11) rfl rfl rfl (fun Q9 => K_X12_throwsIf Q9 a0 s3 (1 : Int32)) (by omega) (by decide) (by decide) (Nat.le_of_ble_eq_true rfl) (fun x4 => ?_)
    refine tw_if_eq (k := 14) 30 rfl (by decide) ?_ ?_
    · refine tw_iconst (k := 17) (0 : Int32) rfl (by decide) ?_
      refine tw_ist_n (k := 18) [some (.ref a0), some (.int a1), some (.int (0 : Int32)), none, none] rfl (Nat.le_of_ble_eq_true rfl) rfl rfl ?_
      refine tw_iconst (k := 19) (0 : Int32) rfl (by decide) ?_
      refine tw_ist_n (k := 20) [some (.ref a0), some (.int a1), some (.int (0 : Int32)), some (.int (0 : Int32)), none] rfl (Nat.le_of_ble_eq_true rfl) rfl rfl ?_
      refine tw_loop (fun s6 => [some (.ref a0), some (.int a1), some (.int s6.1), some (.int s6.2), none]) (fun s6 => []) (fun r5 h5 s6 => ?_) _ rfl rfl
      refine tw_iload_n (k := 21) rfl rfl ?_
      refine tw_aload_n (k := 22) rfl rfl ?_
      refine tw_callV (k := 23) (d' := 1) (mc' := 0) (ms' := 0) tw_cI tw_cIi [] rfl rfl wv_RX12_62_X12_people mo_X12_people (t := 11) rfl rfl rfl (fun Q9 => K_X12_people Q9 a0) (by omega) (by decide) (by decide) (Nat.le_of_ble_eq_true rfl) (fun x7 => ?_)
      refine tw_icmp_ge (k := 24) 97 rfl (by decide) ?_ ?_
      · refine tw_iload_n (k := 54) rfl rfl ?_
        exact tw_ireturn (k := 55) rfl rfl (by decide) (by decide)
      · refine tw_iload_n (k := 25) rfl rfl ?_
        refine tw_iconst (k := 26) (1 : Int32) rfl (by decide) ?_
        refine tw_iadd (k := 27) rfl ?_
        refine tw_let (fun x8 => [some (.ref a0), some (.int a1), some (.int s6.1), some (.int s6.2), none]) (fun x8 => .int x8 :: []) rfl rfl (fun x8 => ?_)
        refine tw_ist (k := 28) [some (.ref a0), some (.int a1), some (.int s6.1), some (.int s6.2), some (.int x8)] rfl (Nat.le_of_ble_eq_true rfl) rfl rfl ?_
        refine tw_loop (fun s10 => [some (.ref a0), some (.int a1), some (.int s10.1), some (.int s6.2), some (.int s10.2)]) (fun s10 => []) (fun r9 h9 s10 => ?_) _ rfl rfl
        refine tw_iload (k := 29) rfl rfl ?_
        refine tw_aload_n (k := 30) rfl rfl ?_
        refine tw_callV (k := 31) (d' := 1) (mc' := 0) (ms' := 0) tw_cI tw_cIi [] rfl rfl wv_RX12_62_X12_people mo_X12_people (t := 11) rfl rfl rfl (fun Q9 => K_X12_people Q9 a0) (by omega) (by decide) (by decide) (Nat.le_of_ble_eq_true rfl) (fun x11 => ?_)
        refine tw_icmp_ge (k := 32) 91 rfl (by decide) ?_ ?_
        · refine tw_inc (k := 52) (1 : Int32) [some (.ref a0), some (.int a1), some (.int s10.1), some (.int (s6.2 + (1 : Int32))), some (.int s10.2)] rfl rfl (by decide) (Nat.le_of_ble_eq_true rfl) rfl rfl ?_
          refine tw_goto (k := 53) 34 rfl (by decide) ?_
          exact tw_wk (L' := [some (.ref a0), some (.int a1), some (.int s10.1), some (.int (s6.2 + (1 : Int32))), none]) ⟨Or.inr rfl, Or.inr rfl, Or.inr rfl, Or.inr rfl, Or.inl rfl, trivial⟩ (h5 (s10.1, s6.2 + (1 : Int32)))
        · refine tw_iload_n (k := 33) rfl rfl ?_
          refine tw_aload_n (k := 34) rfl rfl ?_
          refine tw_iload_n (k := 35) rfl rfl ?_
          refine tw_iload (k := 36) rfl rfl ?_
          refine tw_callV (k := 37) (d' := 5) (mc' := 0) (ms' := 0) tw_cI tw_cIi [.int s6.2, .int s10.2] rfl rfl wv_RX12_266_X12_bothRing mo_X12_bothRing (t := 11) rfl rfl rfl (fun Q9 => K_X12_bothRing Q9 a0 s6.2 s10.2) (by omega) (by decide) (by decide) (Nat.le_of_ble_eq_true rfl) (fun x12 => ?_)
          refine tw_join 83 (fun s14 => [some (.ref a0), some (.int a1), some (.int s10.1), some (.int s6.2), some (.int s10.2)]) (fun s14 => .int s14 :: .int s10.1 :: []) 0 0 (fun s14 => ?_) (fun j13 g13 => ?_)
          · refine tw_iadd (k := 48) rfl ?_
            refine tw_let (fun x15 => [some (.ref a0), some (.int a1), some (.int s10.1), some (.int s6.2), some (.int s10.2)]) (fun x15 => .int x15 :: []) rfl rfl (fun x15 => ?_)
            refine tw_ist_n (k := 49) [some (.ref a0), some (.int a1), some (.int x15), some (.int s6.2), some (.int s10.2)] rfl (Nat.le_of_ble_eq_true rfl) rfl rfl ?_
            refine tw_inc (k := 50) (1 : Int32) [some (.ref a0), some (.int a1), some (.int x15), some (.int s6.2), some (.int (s10.2 + (1 : Int32)))] rfl rfl (by decide) (Nat.le_of_ble_eq_true rfl) rfl rfl ?_
            refine tw_goto (k := 51) 47 rfl (by decide) ?_
            exact h9 (x15, s10.2 + (1 : Int32))
          · refine tw_join 82 (fun s17 => [some (.ref a0), some (.int a1), some (.int s10.1), some (.int s6.2), some (.int s10.2)]) (fun s17 => .int s10.1 :: []) 0 0 (fun s17 => ?_) (fun j16 g16 => ?_)
            · refine tw_iconst (k := 47) (0 : Int32) rfl (by decide) ?_
              exact g13 (0 : Int32)
            · refine tw_if_eq (k := 38) 82 rfl (by decide) ?_ ?_
              · exact g16 ()
              · refine tw_aload_n (k := 39) rfl rfl ?_
                refine tw_iload_n (k := 40) rfl rfl ?_
                refine tw_iload (k := 41) rfl rfl ?_
                refine tw_callV (k := 42) (d' := 3) (mc' := 0) (ms' := 0) tw_cI tw_cIi [.int s6.2, .int s10.2] rfl rfl wv_RX12_413_X12_payOf mo_X12_payOf (t := 11) rfl rfl rfl (fun Q9 => K_X12_payOf Q9 a0 s6.2 s10.2) (by omega) (by decide) (by decide) (Nat.le_of_ble_eq_true rfl) (fun x18 => ?_)
                refine tw_iload_n (k := 43) rfl rfl ?_
                refine tw_icmp_gt (k := 44) 82 rfl (by decide) ?_ ?_
                · exact g16 ()
                · refine tw_iconst (k := 45) (1 : Int32) rfl (by decide) ?_
                  refine tw_goto (k := 46) 83 rfl (by decide) ?_
                  exact g13 (1 : Int32)
    · refine tw_iconst (k := 15) (0 : Int32) rfl (by decide) ?_
      exact tw_ireturn (k := 16) rfl rfl (by decide) (by decide)
  · refine tw_if_ne (k := 8) 20 rfl (by decide) ?_ ?_
    · refine tw_iconst (k := 11) (0 : Int32) rfl (by decide) ?_
      exact g2 (0 : Int32)
    · refine tw_iconst (k := 9) (1 : Int32) rfl (by decide) ?_
      refine tw_goto (k := 10) 21 rfl (by decide) ?_
      exact g2 (1 : Int32)
def mX12_cheapest : tw_MD := (yX12_cheapest, cX12_cheapest, 6, (some FieldType.int), [(0, .aload_n 0, 1, 1), (1, .iconst 0, 1, 2), (2, .putfield 3, 3, 5), (5, .iconst (-1), 1, 6), (6, .istore_n 1, 1, 7), (7, .ldc_w 412, 3, 10), (10, .istore_n 2, 1, 11), (11, .iconst 0, 1, 12), (12, .istore_n 3, 1, 13), (13, .iload_n 3, 1, 14), (14, .aload_n 0, 1, 15), (15, .invokevirtual 62, 3, 18), (18, .if_icmp .ge 79, 3, 21), (21, .iload_n 3, 1, 22), (22, .iconst 1, 1, 23), (23, .iadd, 1, 24), (24, .istore 4, 2, 26), (26, .iload 4, 2, 28), (28, .aload_n 0, 1, 29), (29, .invokevirtual 62, 3, 32), (32, .if_icmp .ge 59, 3, 35), (35, .aload_n 0, 1, 36), (36, .iload_n 3, 1, 37), (37, .iload 4, 2, 39), (39, .invokevirtual 266, 3, 42), (42, .ifCond .eq 13, 3, 45), (45, .aload_n 0, 1, 46), (46, .iload_n 3, 1, 47), (47, .iload 4, 2, 49), (49, .invokevirtual 413, 3, 52), (52, .goto 6, 3, 55), (55, .ldc_w 412, 3, 58), (58, .istore 5, 2, 60), (60, .iload 5, 2, 62), (62, .iload_n 2, 1, 63), (63, .if_icmp .ge 13, 3, 66), (66, .bipush 8, 2, 68), (68, .iload_n 3, 1, 69), (69, .imul, 1, 70), (70, .iload 4, 2, 72), (72, .iadd, 1, 73), (73, .goto 4, 3, 76), (76, .iload_n 1, 1, 77), (77, .istore_n 1, 1, 78), (78, .iload_n 2, 1, 79), (79, .iload 5, 2, 81), (81, .invokestatic 273, 3, 84), (84, .istore_n 2, 1, 85), (85, .iinc 4 1, 3, 88), (88, .goto (-62), 3, 91), (91, .iinc 3 1, 3, 94), (94, .goto (-81), 3, 97), (97, .iload_n 1, 1, 98), (98, .ireturn, 1, 99)], [])
theorem mo_X12_cheapest : tw_mok mX12_cheapest 0 := ⟨plainFor_of_name (by decide +kernel), by decide +kernel, by decide +kernel, by decide +kernel, by decide +kernel⟩
theorem dk_X12_cheapest : tw_dk mX12_cheapest := by unfold tw_dk; decide +kernel
theorem wf_X12_cheapest_3 : tw_wf mX12_cheapest 3 70 := Or.inl rfl
set_option maxRecDepth 20000 in
theorem K_X12_cheapest {g : tw_Gx} (Q : tw_Rs → tw_Mem → Prop) (a0 : Nat) : tw_Kt g mX12_cheapest 6 0 0 [.ref a0] Q (f_X12_cheapest a0 (fun v => Q (.inl (some (.int v))))) := by
  refine tw_mkK (L := [some (.ref a0), none, none, none, none, none]) mo_X12_cheapest dk_X12_cheapest rfl (Nat.le_of_ble_eq_true rfl) rfl ?_
  unfold f_X12_cheapest
  refine tw_aload_n (k := 0) rfl rfl ?_
  refine tw_iconst (k := 1) (0 : Int32) rfl (by decide) ?_
  refine tw_putI (k := 2) rfl fl_RX12_3 wf_X12_cheapest_3 (by decide +kernel) ?_
  refine tw_iconst (k := 3) (-1 : Int32) rfl (by decide) ?_
  refine tw_ist_n (k := 4) [some (.ref a0), some (.int (-1 : Int32)), none, none, none, none] rfl (Nat.le_of_ble_eq_true rfl) rfl rfl ?_
  refine tw_ldcw (k := 5) kc_RX12_412 rfl ?_
  refine tw_ist_n (k := 6) [some (.ref a0), some (.int (-1 : Int32)), some (.int (1000000 : Int32)), none, none, none] rfl (Nat.le_of_ble_eq_true rfl) rfl rfl ?_
  refine tw_iconst (k := 7) (0 : Int32) rfl (by decide) ?_
  refine tw_ist_n (k := 8) [some (.ref a0), some (.int (-1 : Int32)), some (.int (1000000 : Int32)), some (.int (0 : Int32)), none, none] rfl (Nat.le_of_ble_eq_true rfl) rfl rfl ?_
  refine tw_loop (fun s2 => [some (.ref a0), some (.int s2.1), some (.int s2.2.1), some (.int s2.2.2), none, none]) (fun s2 => []) (fun r1 h1 s2 => ?_) _ rfl rfl
  refine tw_iload_n (k := 9) rfl rfl ?_
  refine tw_aload_n (k := 10) rfl rfl ?_
  refine tw_callV (k := 11) (d' := 1) (mc' := 0) (ms' := 0) tw_cI tw_cIi [] rfl rfl wv_RX12_62_X12_people mo_X12_people (t := 11) rfl rfl rfl (fun Q9 => K_X12_people Q9 a0) (by omega) (by decide) (by decide) (Nat.le_of_ble_eq_true rfl) (fun x3 => ?_)
  refine tw_icmp_ge (k := 12) 97 rfl (by decide) ?_ ?_
  · refine tw_iload_n (k := 52) rfl rfl ?_
    exact tw_ireturn (k := 53) rfl rfl (by decide) (by decide)
  · refine tw_iload_n (k := 13) rfl rfl ?_
    refine tw_iconst (k := 14) (1 : Int32) rfl (by decide) ?_
    refine tw_iadd (k := 15) rfl ?_
    refine tw_let (fun x4 => [some (.ref a0), some (.int s2.1), some (.int s2.2.1), some (.int s2.2.2), none, none]) (fun x4 => .int x4 :: []) rfl rfl (fun x4 => ?_)
    refine tw_ist (k := 16) [some (.ref a0), some (.int s2.1), some (.int s2.2.1), some (.int s2.2.2), some (.int x4), none] rfl (Nat.le_of_ble_eq_true rfl) rfl rfl ?_
    refine tw_loop (fun s6 => [some (.ref a0), some (.int s6.1), some (.int s6.2.1), some (.int s2.2.2), some (.int s6.2.2), none]) (fun s6 => []) (fun r5 h5 s6 => ?_) _ rfl rfl
    refine tw_iload (k := 17) rfl rfl ?_
    refine tw_aload_n (k := 18) rfl rfl ?_
    refine tw_callV (k := 19) (d' := 1) (mc' := 0) (ms' := 0) tw_cI tw_cIi [] rfl rfl wv_RX12_62_X12_people mo_X12_people (t := 11) rfl rfl rfl (fun Q9 => K_X12_people Q9 a0) (by omega) (by decide) (by decide) (Nat.le_of_ble_eq_true rfl) (fun x7 => ?_)
    refine tw_icmp_ge (k := 20) 91 rfl (by decide) ?_ ?_
    · refine tw_inc (k := 50) (1 : Int32) [some (.ref a0), some (.int s6.1), some (.int s6.2.1), some (.int (s2.2.2 + (1 : Int32))), some (.int s6.2.2), none] rfl rfl (by decide) (Nat.le_of_ble_eq_true rfl) rfl rfl ?_
      refine tw_goto (k := 51) 13 rfl (by decide) ?_
      exact tw_wk (L' := [some (.ref a0), some (.int s6.1), some (.int s6.2.1), some (.int (s2.2.2 + (1 : Int32))), none, none]) ⟨Or.inr rfl, Or.inr rfl, Or.inr rfl, Or.inr rfl, Or.inl rfl, Or.inl rfl, trivial⟩ (h1 (s6.1, s6.2.1, s2.2.2 + (1 : Int32)))
    · refine tw_aload_n (k := 21) rfl rfl ?_
      refine tw_iload_n (k := 22) rfl rfl ?_
      refine tw_iload (k := 23) rfl rfl ?_
      refine tw_callV (k := 24) (d' := 5) (mc' := 0) (ms' := 0) tw_cI tw_cIi [.int s2.2.2, .int s6.2.2] rfl rfl wv_RX12_266_X12_bothRing mo_X12_bothRing (t := 11) rfl rfl rfl (fun Q9 => K_X12_bothRing Q9 a0 s2.2.2 s6.2.2) (by omega) (by decide) (by decide) (Nat.le_of_ble_eq_true rfl) (fun x8 => ?_)
      refine tw_join 58 (fun s10 => [some (.ref a0), some (.int s6.1), some (.int s6.2.1), some (.int s2.2.2), some (.int s6.2.2), none]) (fun s10 => .int s10 :: []) 0 0 (fun s10 => ?_) (fun j9 g9 => ?_)
      · refine tw_ist (k := 32) [some (.ref a0), some (.int s6.1), some (.int s6.2.1), some (.int s2.2.2), some (.int s6.2.2), some (.int s10)] rfl (Nat.le_of_ble_eq_true rfl) rfl rfl ?_
        refine tw_iload (k := 33) rfl rfl ?_
        refine tw_iload_n (k := 34) rfl rfl ?_
        refine tw_join 77 (fun s12 => [some (.ref a0), some (.int s6.1), some (.int s6.2.1), some (.int s2.2.2), some (.int s6.2.2), some (.int s10)]) (fun s12 => .int s12 :: []) 0 0 (fun s12 => ?_) (fun j11 g11 => ?_)
        · refine tw_ist_n (k := 43) [some (.ref a0), some (.int s12), some (.int s6.2.1), some (.int s2.2.2), some (.int s6.2.2), some (.int s10)] rfl (Nat.le_of_ble_eq_true rfl) rfl rfl ?_
          refine tw_iload_n (k := 44) rfl rfl ?_
          refine tw_iload (k := 45) rfl rfl ?_
          refine tw_callS (k := 46) (d' := 1) (mc' := 0) (ms' := 0) tw_cI tw_cIi [.int s6.2.1, .int s10] rfl rfl ws_RX12_273_J9_min_7cf53 mo_J9_min_7cf53 rfl (fun Q9 => K_J9_min_7cf53 Q9 s6.2.1 s10) (by omega) (by decide) (by decide) (Nat.le_of_ble_eq_true rfl) (fun x13 => ?_)
          refine tw_ist_n (k := 47) [some (.ref a0), some (.int s12), some (.int x13), some (.int s2.2.2), some (.int s6.2.2), some (.int s10)] rfl (Nat.le_of_ble_eq_true rfl) rfl rfl ?_
          refine tw_inc (k := 48) (1 : Int32) [some (.ref a0), some (.int s12), some (.int x13), some (.int s2.2.2), some (.int (s6.2.2 + (1 : Int32))), some (.int s10)] rfl rfl (by decide) (Nat.le_of_ble_eq_true rfl) rfl rfl ?_
          refine tw_goto (k := 49) 26 rfl (by decide) ?_
          exact tw_wk (L' := [some (.ref a0), some (.int s12), some (.int x13), some (.int s2.2.2), some (.int (s6.2.2 + (1 : Int32))), none]) ⟨Or.inr rfl, Or.inr rfl, Or.inr rfl, Or.inr rfl, Or.inr rfl, Or.inl rfl, trivial⟩ (h5 (s12, x13, s6.2.2 + (1 : Int32)))
        · refine tw_icmp_ge (k := 35) 76 rfl (by decide) ?_ ?_
          · refine tw_iload_n (k := 42) rfl rfl ?_
            exact g11 s6.1
          · refine tw_bipush (k := 36) (8 : Int32) rfl (by decide) ?_
            refine tw_iload_n (k := 37) rfl rfl ?_
            refine tw_imul (k := 38) rfl ?_
            refine tw_iload (k := 39) rfl rfl ?_
            refine tw_iadd (k := 40) rfl ?_
            refine tw_goto (k := 41) 77 rfl (by decide) ?_
            exact g11 (((8 : Int32) * s2.2.2) + s6.2.2)
      · refine tw_if_eq (k := 25) 55 rfl (by decide) ?_ ?_
        · refine tw_ldcw (k := 31) kc_RX12_412 rfl ?_
          exact g9 (1000000 : Int32)
        · refine tw_aload_n (k := 26) rfl rfl ?_
          refine tw_iload_n (k := 27) rfl rfl ?_
          refine tw_iload (k := 28) rfl rfl ?_
          refine tw_callV (k := 29) (d' := 3) (mc' := 0) (ms' := 0) tw_cI tw_cIi [.int s2.2.2, .int s6.2.2] rfl rfl wv_RX12_413_X12_payOf mo_X12_payOf (t := 11) rfl rfl rfl (fun Q9 => K_X12_payOf Q9 a0 s2.2.2 s6.2.2) (by omega) (by decide) (by decide) (Nat.le_of_ble_eq_true rfl) (fun x14 => ?_)
          refine tw_goto (k := 30) 58 rfl (by decide) ?_
          exact g9 x14
def mX12_isSpoilt : tw_MD := (yX12_isSpoilt, cX12_isSpoilt, 2, (some FieldType.boolean), [(0, .aload_n 0, 1, 1), (1, .iload_n 1, 1, 2), (2, .invokevirtual 321, 3, 5), (5, .iconst 1, 1, 6), (6, .iconst 3, 1, 7), (7, .invokestatic 76, 3, 10), (10, .ireturn, 1, 11)], [])
theorem mo_X12_isSpoilt : tw_mok mX12_isSpoilt 1 := ⟨plainFor_of_name (by decide +kernel), by decide +kernel, by decide +kernel, by decide +kernel, by decide +kernel⟩
theorem dk_X12_isSpoilt : tw_dk mX12_isSpoilt := by unfold tw_dk; decide +kernel
set_option maxRecDepth 20000 in
theorem K_X12_isSpoilt {g : tw_Gx} (Q : tw_Rs → tw_Mem → Prop) (a0 : Nat) (a1 : Int32) : tw_Kt g mX12_isSpoilt 6 0 0 [.ref a0, .int a1] Q (f_X12_isSpoilt a0 a1 (fun v => Q (.inl (some (.int v))))) := by
  refine tw_mkK (L := [some (.ref a0), some (.int a1)]) mo_X12_isSpoilt dk_X12_isSpoilt rfl (Nat.le_of_ble_eq_true rfl) rfl ?_
  unfold f_X12_isSpoilt
  refine tw_aload_n (k := 0) rfl rfl ?_
  refine tw_iload_n (k := 1) rfl rfl ?_
  refine tw_callV (k := 2) (d' := 5) (mc' := 0) (ms' := 0) tw_cI tw_cIi [.int a1] rfl rfl wv_RX12_321_X12_toneAt mo_X12_toneAt (t := 11) rfl rfl rfl (fun Q9 => K_X12_toneAt Q9 a0 a1) (by omega) (by decide) (by decide) (Nat.le_of_ble_eq_true rfl) (fun x1 => ?_)
  refine tw_iconst (k := 3) (1 : Int32) rfl (by decide) ?_
  refine tw_iconst (k := 4) (3 : Int32) rfl (by decide) ?_
  refine tw_callS (k := 5) (d' := 1) (mc' := 0) (ms' := 0) tw_cI tw_cIi [.int x1, .int (1 : Int32), .int (3 : Int32)] rfl rfl ws_RX12_76_X12_in mo_X12_in rfl (fun Q9 => K_X12_in Q9 x1 (1 : Int32) (3 : Int32)) (by omega) (by decide) (by decide) (Nat.le_of_ble_eq_true rfl) (fun x2 => ?_)
  exact tw_zreturn (k := 6) rfl rfl (by decide) (by decide)
def mX12_spoilt : tw_MD := (yX12_spoilt, cX12_spoilt, 3, (some FieldType.int), [(0, .aload_n 0, 1, 1), (1, .iconst 0, 1, 2), (2, .putfield 3, 3, 5), (5, .iconst 0, 1, 6), (6, .istore_n 1, 1, 7), (7, .iconst 0, 1, 8), (8, .istore_n 2, 1, 9), (9, .iload_n 2, 1, 10), (10, .bipush 12, 2, 12), (12, .if_icmp .ge 27, 3, 15), (15, .iload_n 1, 1, 16), (16, .aload_n 0, 1, 17), (17, .iload_n 2, 1, 18), (18, .invokevirtual 416, 3, 21), (21, .ifCond .eq 9, 3, 24), (24, .iconst 1, 1, 25), (25, .iload_n 2, 1, 26), (26, .ishl, 1, 27), (27, .goto 4, 3, 30), (30, .iconst 0, 1, 31), (31, .ior, 1, 32), (32, .istore_n 1, 1, 33), (33, .iinc 2 1, 3, 36), (36, .goto (-27), 3, 39), (39, .iload_n 1, 1, 40), (40, .ireturn, 1, 41)], [])
theorem mo_X12_spoilt : tw_mok mX12_spoilt 0 := ⟨plainFor_of_name (by decide +kernel), by decide +kernel, by decide +kernel, by decide +kernel, by decide +kernel⟩
theorem dk_X12_spoilt : tw_dk mX12_spoilt := by unfold tw_dk; decide +kernel
theorem wv_RX12_416_X12_isSpoilt : tw_wV RX12 416 mX12_isSpoilt := ⟨List.mem_of_getElem? (i := 2382) (by decide +kernel), List.mem_of_getElem? (i := 2384) (by decide +kernel), List.mem_of_getElem? (i := 118) (by decide +kernel), List.mem_of_getElem? (i := 137) (by decide +kernel), List.mem_of_getElem? (i := 2385) (by decide +kernel)⟩
theorem wf_X12_spoilt_3 : tw_wf mX12_spoilt 3 70 := Or.inl rfl
set_option maxRecDepth 20000 in
theorem K_X12_spoilt {g : tw_Gx} (Q : tw_Rs → tw_Mem → Prop) (a0 : Nat) : tw_Kt g mX12_spoilt 7 0 0 [.ref a0] Q (f_X12_spoilt a0 (fun v => Q (.inl (some (.int v))))) := by
  refine tw_mkK (L := [some (.ref a0), none, none]) mo_X12_spoilt dk_X12_spoilt rfl (Nat.le_of_ble_eq_true rfl) rfl ?_
  unfold f_X12_spoilt
  refine tw_aload_n (k := 0) rfl rfl ?_
  refine tw_iconst (k := 1) (0 : Int32) rfl (by decide) ?_
  refine tw_putI (k := 2) rfl fl_RX12_3 wf_X12_spoilt_3 (by decide +kernel) ?_
  refine tw_iconst (k := 3) (0 : Int32) rfl (by decide) ?_
  refine tw_ist_n (k := 4) [some (.ref a0), some (.int (0 : Int32)), none] rfl (Nat.le_of_ble_eq_true rfl) rfl rfl ?_
  refine tw_iconst (k := 5) (0 : Int32) rfl (by decide) ?_
  refine tw_ist_n (k := 6) [some (.ref a0), some (.int (0 : Int32)), some (.int (0 : Int32))] rfl (Nat.le_of_ble_eq_true rfl) rfl rfl ?_
  refine tw_loop (fun s2 => [some (.ref a0), some (.int s2.1), some (.int s2.2)]) (fun s2 => []) (fun r1 h1 s2 => ?_) _ rfl rfl
  refine tw_iload_n (k := 7) rfl rfl ?_
  refine tw_bipush (k := 8) (12 : Int32) rfl (by decide) ?_
  refine tw_icmp_ge (k := 9) 39 rfl (by decide) ?_ ?_
  · refine tw_iload_n (k := 24) rfl rfl ?_
    exact tw_ireturn (k := 25) rfl rfl (by decide) (by decide)
  · refine tw_iload_n (k := 10) rfl rfl ?_
    refine tw_aload_n (k := 11) rfl rfl ?_
    refine tw_iload_n (k := 12) rfl rfl ?_
    refine tw_callV (k := 13) (d' := 6) (mc' := 0) (ms' := 0) tw_cI tw_cIi [.int s2.2] rfl rfl wv_RX12_416_X12_isSpoilt mo_X12_isSpoilt (t := 11) rfl rfl rfl (fun Q9 => K_X12_isSpoilt Q9 a0 s2.2) (by omega) (by decide) (by decide) (Nat.le_of_ble_eq_true rfl) (fun x3 => ?_)
    refine tw_join 31 (fun s5 => [some (.ref a0), some (.int s2.1), some (.int s2.2)]) (fun s5 => .int s5 :: .int s2.1 :: []) 0 0 (fun s5 => ?_) (fun j4 g4 => ?_)
    · refine tw_ior (k := 20) rfl ?_
      refine tw_let (fun x6 => [some (.ref a0), some (.int s2.1), some (.int s2.2)]) (fun x6 => .int x6 :: []) rfl rfl (fun x6 => ?_)
      refine tw_ist_n (k := 21) [some (.ref a0), some (.int x6), some (.int s2.2)] rfl (Nat.le_of_ble_eq_true rfl) rfl rfl ?_
      refine tw_inc (k := 22) (1 : Int32) [some (.ref a0), some (.int x6), some (.int (s2.2 + (1 : Int32)))] rfl rfl (by decide) (Nat.le_of_ble_eq_true rfl) rfl rfl ?_
      refine tw_goto (k := 23) 9 rfl (by decide) ?_
      exact h1 (x6, s2.2 + (1 : Int32))
    · refine tw_if_eq (k := 14) 30 rfl (by decide) ?_ ?_
      · refine tw_iconst (k := 19) (0 : Int32) rfl (by decide) ?_
        exact g4 (0 : Int32)
      · refine tw_iconst (k := 15) (1 : Int32) rfl (by decide) ?_
        refine tw_iload_n (k := 16) rfl rfl ?_
        refine tw_ishl (k := 17) rfl ?_
        refine tw_goto (k := 18) 31 rfl (by decide) ?_
        exact g4 ((1 : Int32) <<< (s2.2 &&& 31))
def mX12_mend : tw_MD := (yX12_mend, cX12_mend, 5, (some FieldType.int), [(0, .aload_n 0, 1, 1), (1, .iconst 0, 1, 2), (2, .putfield 3, 3, 5), (5, .aload_n 0, 1, 6), (6, .iload_n 1, 1, 7), (7, .invokestatic 318, 3, 10), (10, .iconst 1, 1, 11), (11, .invokevirtual 240, 3, 14), (14, .ifCond .eq 5, 3, 17), (17, .iconst 0, 1, 18), (18, .ireturn, 1, 19), (19, .aload_n 0, 1, 20), (20, .iload_n 1, 1, 21), (21, .invokevirtual 416, 3, 24), (24, .ifCond .ne 5, 3, 27), (27, .iconst (-1), 1, 28), (28, .ireturn, 1, 29), (29, .iconst 0, 1, 30), (30, .istore_n 2, 1, 31), (31, .iload_n 2, 1, 32), (32, .iconst 2, 1, 33), (33, .aload_n 0, 1, 34), (34, .invokevirtual 62, 3, 37), (37, .imul, 1, 38), (38, .if_icmp .ge 55, 3, 41), (41, .iload_n 2, 1, 42), (42, .iconst 2, 1, 43), (43, .idiv, 1, 44), (44, .istore_n 3, 1, 45), (45, .aload_n 0, 1, 46), (46, .iconst 1, 1, 47), (47, .iload_n 2, 1, 48), (48, .iconst 2, 1, 49), (49, .irem, 1, 50), (50, .isub, 1, 51), (51, .iload_n 1, 1, 52), (52, .invokevirtual 139, 3, 55), (55, .istore 4, 2, 57), (57, .aload_n 0, 1, 58), (58, .iload_n 3, 1, 59), (59, .invokevirtual 276, 3, 62), (62, .iload_n 1, 1, 63), (63, .invokestatic 334, 3, 66), (66, .ifCond .ne 21, 3, 69), (69, .iload 4, 2, 71), (71, .iconst (-1), 1, 72), (72, .if_icmp .eq 15, 3, 75), (75, .aload_n 0, 1, 76), (76, .iload_n 3, 1, 77), (77, .iload 4, 2, 79), (79, .invokevirtual 266, 3, 82), (82, .ifCond .eq 5, 3, 85), (85, .iload_n 2, 1, 86), (86, .ireturn, 1, 87), (87, .iinc 2 1, 3, 90), (90, .goto (-59), 3, 93), (93, .iconst (-1), 1, 94), (94, .ireturn, 1, 95)], [])
theorem mo_X12_mend : tw_mok mX12_mend 1 := ⟨plainFor_of_name (by decide +kernel), by decide +kernel, by decide +kernel, by decide +kernel, by decide +kernel⟩
theorem dk_X12_mend : tw_dk mX12_mend := by unfold tw_dk; decide +kernel
theorem wf_X12_mend_3 : tw_wf mX12_mend 3 70 := Or.inl rfl
set_option maxRecDepth 20000 in
theorem K_X12_mend {g : tw_Gx} (Q : tw_Rs → tw_Mem → Prop) (a0 : Nat) (a1 : Int32) : tw_Kt g mX12_mend 7 0 0 [.ref a0, .int a1] Q (f_X12_mend a0 a1 (fun v => Q (.inl (some (.int v))))) := by
  refine tw_mkK (L := [some (.ref a0), some (.int a1), none, none, none]) mo_X12_mend dk_X12_mend rfl (Nat.le_of_ble_eq_true rfl) rfl ?_
  unfold f_X12_mend
  refine tw_aload_n (k := 0) rfl rfl ?_
  refine tw_iconst (k := 1) (0 : Int32) rfl (by decide) ?_
  refine tw_putI (k := 2) rfl fl_RX12_3 wf_X12_mend_3 (by decide +kernel) ?_
  refine tw_aload_n (k := 3) rfl rfl ?_
  refine tw_iload_n (k := 4) rfl rfl ?_
  refine tw_callS (k := 5) (d' := 2) (mc' := 0) (ms' := 0) tw_cI tw_cIi [.int a1] rfl rfl ws_RX12_318_X12_noHour mo_X12_noHour rfl (fun Q9 => K_X12_noHour Q9 a1) (by omega) (by decide) (by decide) (Nat.le_of_ble_eq_true rfl) (fun x1 => ?_)
  refine tw_iconst (k := 6) (1 : Int32) rfl (by decide) ?_
  refine tw_callV (k := 7) (d' := 1) (mc' := 0) (ms' := 0) tw_cI tw_cIi [.int x1, .int (1 : Int32)] rfl rfl wv_RX12_240_X12_throwsIf mo_X12_throwsIf (t := 11) rfl rfl rfl (fun Q9 => K_X12_throwsIf Q9 a0 x1 (1 : Int32)) (by omega) (by decide) (by decide) (Nat.le_of_ble_eq_true rfl) (fun x2 => ?_)
  refine tw_if_eq (k := 8) 19 rfl (by decide) ?_ ?_
  · refine tw_aload_n (k := 11) rfl rfl ?_
    refine tw_iload_n (k := 12) rfl rfl ?_
    refine tw_callV (k := 13) (d' := 6) (mc' := 0) (ms' := 0) tw_cI tw_cIi [.int a1] rfl rfl wv_RX12_416_X12_isSpoilt mo_X12_isSpoilt (t := 11) rfl rfl rfl (fun Q9 => K_X12_isSpoilt Q9 a0 a1) (by omega) (by decide) (by decide) (Nat.le_of_ble_eq_true rfl) (fun x3 => ?_)
    refine tw_if_ne (k := 14) 29 rfl (by decide) ?_ ?_
    · refine tw_iconst (k := 17) (0 : Int32) rfl (by decide) ?_
      refine tw_ist_n (k := 18) [some (.ref a0), some (.int a1), some (.int (0 : Int32)), none, none] rfl (Nat.le_of_ble_eq_true rfl) rfl rfl ?_
      refine tw_loop (fun s5 => [some (.ref a0), some (.int a1), some (.int s5), none, none]) (fun s5 => []) (fun r4 h4 s5 => ?_) _ rfl rfl
      refine tw_iload_n (k := 19) rfl rfl ?_
      refine tw_iconst (k := 20) (2 : Int32) rfl (by decide) ?_
      refine tw_aload_n (k := 21) rfl rfl ?_
      refine tw_callV (k := 22) (d' := 1) (mc' := 0) (ms' := 0) tw_cI tw_cIi [] rfl rfl wv_RX12_62_X12_people mo_X12_people (t := 11) rfl rfl rfl (fun Q9 => K_X12_people Q9 a0) (by omega) (by decide) (by decide) (Nat.le_of_ble_eq_true rfl) (fun x6 => ?_)
      refine tw_imul (k := 23) rfl ?_
      refine tw_icmp_ge (k := 24) 93 rfl (by decide) ?_ ?_
      · refine tw_iconst (k := 56) (-1 : Int32) rfl (by decide) ?_
        exact tw_ireturn (k := 57) rfl rfl (by decide) (by decide)
      · refine tw_iload_n (k := 25) rfl rfl ?_
        refine tw_iconst (k := 26) (2 : Int32) rfl (by decide) ?_
        refine tw_idiv (k := 27) rfl ?_
        refine tw_let (fun x7 => [some (.ref a0), some (.int a1), some (.int s5), none, none]) (fun x7 => .int x7 :: []) rfl rfl (fun x7 => ?_)
        refine tw_ist_n (k := 28) [some (.ref a0), some (.int a1), some (.int s5), some (.int x7), none] rfl (Nat.le_of_ble_eq_true rfl) rfl rfl ?_
        refine tw_aload_n (k := 29) rfl rfl ?_
        refine tw_iconst (k := 30) (1 : Int32) rfl (by decide) ?_
        refine tw_iload_n (k := 31) rfl rfl ?_
        refine tw_iconst (k := 32) (2 : Int32) rfl (by decide) ?_
        refine tw_irem (k := 33) rfl ?_
        refine tw_isub (k := 34) rfl ?_
        refine tw_iload_n (k := 35) rfl rfl ?_
        refine tw_callV (k := 36) (d' := 2) (mc' := 0) (ms' := 0) tw_cI tw_cIi [.int ((1 : Int32) - (s5 - s5 / (2 : Int32) * (2 : Int32))), .int a1] rfl rfl wv_RX12_139_X12_inPlan mo_X12_inPlan (t := 11) rfl rfl rfl (fun Q9 => K_X12_inPlan Q9 a0 ((1 : Int32) - (s5 - s5 / (2 : Int32) * (2 : Int32))) a1) (by omega) (by decide) (by decide) (Nat.le_of_ble_eq_true rfl) (fun x8 => ?_)
        refine tw_ist (k := 37) [some (.ref a0), some (.int a1), some (.int s5), some (.int x7), some (.int x8)] rfl (Nat.le_of_ble_eq_true rfl) rfl rfl ?_
        refine tw_aload_n (k := 38) rfl rfl ?_
        refine tw_iload_n (k := 39) rfl rfl ?_
        refine tw_callV (k := 40) (d' := 3) (mc' := 0) (ms' := 0) tw_cI tw_cIi [.int x7] rfl rfl wv_RX12_276_X12_busyOf mo_X12_busyOf (t := 11) rfl rfl rfl (fun Q9 => K_X12_busyOf Q9 a0 x7) (by omega) (by decide) (by decide) (Nat.le_of_ble_eq_true rfl) (fun x9 => ?_)
        refine tw_iload_n (k := 41) rfl rfl ?_
        refine tw_callS (k := 42) (d' := 1) (mc' := 0) (ms' := 0) tw_cI tw_cIi [.int x9, .int a1] rfl rfl ws_RX12_334_X12_has mo_X12_has rfl (fun Q9 => K_X12_has Q9 x9 a1) (by omega) (by decide) (by decide) (Nat.le_of_ble_eq_true rfl) (fun x10 => ?_)
        refine tw_join 87 (fun s12 => [some (.ref a0), some (.int a1), some (.int s5), some (.int x7), some (.int x8)]) (fun s12 => []) 0 0 (fun s12 => ?_) (fun j11 g11 => ?_)
        · refine tw_inc (k := 54) (1 : Int32) [some (.ref a0), some (.int a1), some (.int (s5 + (1 : Int32))), some (.int x7), some (.int x8)] rfl rfl (by decide) (Nat.le_of_ble_eq_true rfl) rfl rfl ?_
          refine tw_goto (k := 55) 31 rfl (by decide) ?_
          exact tw_wk (L' := [some (.ref a0), some (.int a1), some (.int (s5 + (1 : Int32))), none, none]) ⟨Or.inr rfl, Or.inr rfl, Or.inr rfl, Or.inl rfl, Or.inl rfl, trivial⟩ (h4 (s5 + (1 : Int32)))
        · refine tw_if_ne (k := 43) 87 rfl (by decide) ?_ ?_
          · exact g11 ()
          · refine tw_iload (k := 44) rfl rfl ?_
            refine tw_iconst (k := 45) (-1 : Int32) rfl (by decide) ?_
            refine tw_icmp_eq (k := 46) 87 rfl (by decide) ?_ ?_
            · exact g11 ()
            · refine tw_aload_n (k := 47) rfl rfl ?_
              refine tw_iload_n (k := 48) rfl rfl ?_
              refine tw_iload (k := 49) rfl rfl ?_
              refine tw_callV (k := 50) (d' := 5) (mc' := 0) (ms' := 0) tw_cI tw_cIi [.int x7, .int x8] rfl rfl wv_RX12_266_X12_bothRing mo_X12_bothRing (t := 11) rfl rfl rfl (fun Q9 => K_X12_bothRing Q9 a0 x7 x8) (by omega) (by decide) (by decide) (Nat.le_of_ble_eq_true rfl) (fun x13 => ?_)
              refine tw_if_eq (k := 51) 87 rfl (by decide) ?_ ?_
              · exact g11 ()
              · refine tw_iload_n (k := 52) rfl rfl ?_
                exact tw_ireturn (k := 53) rfl rfl (by decide) (by decide)
    · refine tw_iconst (k := 15) (-1 : Int32) rfl (by decide) ?_
      exact tw_ireturn (k := 16) rfl rfl (by decide) (by decide)
  · refine tw_iconst (k := 9) (0 : Int32) rfl (by decide) ?_
    exact tw_ireturn (k := 10) rfl rfl (by decide) (by decide)
def mX12_bill : tw_MD := (yX12_bill, cX12_bill, 3, (some FieldType.int), [(0, .aload_n 0, 1, 1), (1, .iconst 0, 1, 2), (2, .putfield 3, 3, 5), (5, .iconst 0, 1, 6), (6, .istore_n 1, 1, 7), (7, .iconst 0, 1, 8), (8, .istore_n 2, 1, 9), (9, .iload_n 2, 1, 10), (10, .aload_n 0, 1, 11), (11, .invokevirtual 62, 3, 14), (14, .if_icmp .ge 17, 3, 17), (17, .iload_n 1, 1, 18), (18, .aload_n 0, 1, 19), (19, .iload_n 2, 1, 20), (20, .invokevirtual 291, 3, 23), (23, .iadd, 1, 24), (24, .istore_n 1, 1, 25), (25, .iinc 2 1, 3, 28), (28, .goto (-19), 3, 31), (31, .iload_n 1, 1, 32), (32, .ireturn, 1, 33)], [])
theorem mo_X12_bill : tw_mok mX12_bill 0 := ⟨plainFor_of_name (by decide +kernel), by decide +kernel, by decide +kernel, by decide +kernel, by decide +kernel⟩
theorem dk_X12_bill : tw_dk mX12_bill := by unfold tw_dk; decide +kernel
theorem wf_X12_bill_3 : tw_wf mX12_bill 3 70 := Or.inl rfl
set_option maxRecDepth 20000 in
theorem K_X12_bill {g : tw_Gx} (Q : tw_Rs → tw_Mem → Prop) (a0 : Nat) : tw_Kt g mX12_bill 5 0 0 [.ref a0] Q (f_X12_bill a0 (fun v => Q (.inl (some (.int v))))) := by
  refine tw_mkK (L := [some (.ref a0), none, none]) mo_X12_bill dk_X12_bill rfl (Nat.le_of_ble_eq_true rfl) rfl ?_
  unfold f_X12_bill
  refine tw_aload_n (k := 0) rfl rfl ?_
  refine tw_iconst (k := 1) (0 : Int32) rfl (by decide) ?_
  refine tw_putI (k := 2) rfl fl_RX12_3 wf_X12_bill_3 (by decide +kernel) ?_
  refine tw_iconst (k := 3) (0 : Int32) rfl (by decide) ?_
  refine tw_ist_n (k := 4) [some (.ref a0), some (.int (0 : Int32)), none] rfl (Nat.le_of_ble_eq_true rfl) rfl rfl ?_
  refine tw_iconst (k := 5) (0 : Int32) rfl (by decide) ?_
  refine tw_ist_n (k := 6) [some (.ref a0), some (.int (0 : Int32)), some (.int (0 : Int32))] rfl (Nat.le_of_ble_eq_true rfl) rfl rfl ?_
  refine tw_loop (fun s2 => [some (.ref a0), some (.int s2.1), some (.int s2.2)]) (fun s2 => []) (fun r1 h1 s2 => ?_) _ rfl rfl
  refine tw_iload_n (k := 7) rfl rfl ?_
  refine tw_aload_n (k := 8) rfl rfl ?_
  refine tw_callV (k := 9) (d' := 1) (mc' := 0) (ms' := 0) tw_cI tw_cIi [] rfl rfl wv_RX12_62_X12_people mo_X12_people (t := 11) rfl rfl rfl (fun Q9 => K_X12_people Q9 a0) (by omega) (by decide) (by decide) (Nat.le_of_ble_eq_true rfl) (fun x3 => ?_)
  refine tw_icmp_ge (k := 10) 31 rfl (by decide) ?_ ?_
  · refine tw_iload_n (k := 19) rfl rfl ?_
    exact tw_ireturn (k := 20) rfl rfl (by decide) (by decide)
  · refine tw_iload_n (k := 11) rfl rfl ?_
    refine tw_aload_n (k := 12) rfl rfl ?_
    refine tw_iload_n (k := 13) rfl rfl ?_
    refine tw_callV (k := 14) (d' := 4) (mc' := 0) (ms' := 0) tw_cI tw_cIi [.int s2.2] rfl rfl wv_RX12_291_X12_dueOf mo_X12_dueOf (t := 11) rfl rfl rfl (fun Q9 => K_X12_dueOf Q9 a0 s2.2) (by omega) (by decide) (by decide) (Nat.le_of_ble_eq_true rfl) (fun x4 => ?_)
    refine tw_iadd (k := 15) rfl ?_
    refine tw_let (fun x5 => [some (.ref a0), some (.int s2.1), some (.int s2.2)]) (fun x5 => .int x5 :: []) rfl rfl (fun x5 => ?_)
    refine tw_ist_n (k := 16) [some (.ref a0), some (.int x5), some (.int s2.2)] rfl (Nat.le_of_ble_eq_true rfl) rfl rfl ?_
    refine tw_inc (k := 17) (1 : Int32) [some (.ref a0), some (.int x5), some (.int (s2.2 + (1 : Int32)))] rfl rfl (by decide) (Nat.le_of_ble_eq_true rfl) rfl rfl ?_
    refine tw_goto (k := 18) 9 rfl (by decide) ?_
    exact h1 (x5, s2.2 + (1 : Int32))
def mX12_guessedOf : tw_MD := (yX12_guessedOf, cX12_guessedOf, 4, (some FieldType.int), [(0, .iconst 0, 1, 1), (1, .istore_n 2, 1, 2), (2, .iconst 0, 1, 3), (3, .istore_n 3, 1, 4), (4, .iload_n 3, 1, 5), (5, .aload_n 0, 1, 6), (6, .invokevirtual 62, 3, 9), (9, .if_icmp .ge 18, 3, 12), (12, .iload_n 2, 1, 13), (13, .aload_n 0, 1, 14), (14, .iload_n 3, 1, 15), (15, .iload_n 1, 1, 16), (16, .invokevirtual 243, 3, 19), (19, .iadd, 1, 20), (20, .istore_n 2, 1, 21), (21, .iinc 3 1, 3, 24), (24, .goto (-20), 3, 27), (27, .iload_n 2, 1, 28), (28, .ireturn, 1, 29)], [])
theorem mo_X12_guessedOf : tw_mok mX12_guessedOf 1 := ⟨plainFor_of_name (by decide +kernel), by decide +kernel, by decide +kernel, by decide +kernel, by decide +kernel⟩
theorem dk_X12_guessedOf : tw_dk mX12_guessedOf := by unfold tw_dk; decide +kernel
set_option maxRecDepth 20000 in
theorem K_X12_guessedOf {g : tw_Gx} (Q : tw_Rs → tw_Mem → Prop) (a0 : Nat) (a1 : Int32) : tw_Kt g mX12_guessedOf 4 0 0 [.ref a0, .int a1] Q (f_X12_guessedOf a0 a1 (fun v => Q (.inl (some (.int v))))) := by
  refine tw_mkK (L := [some (.ref a0), some (.int a1), none, none]) mo_X12_guessedOf dk_X12_guessedOf rfl (Nat.le_of_ble_eq_true rfl) rfl ?_
  unfold f_X12_guessedOf
  refine tw_iconst (k := 0) (0 : Int32) rfl (by decide) ?_
  refine tw_ist_n (k := 1) [some (.ref a0), some (.int a1), some (.int (0 : Int32)), none] rfl (Nat.le_of_ble_eq_true rfl) rfl rfl ?_
  refine tw_iconst (k := 2) (0 : Int32) rfl (by decide) ?_
  refine tw_ist_n (k := 3) [some (.ref a0), some (.int a1), some (.int (0 : Int32)), some (.int (0 : Int32))] rfl (Nat.le_of_ble_eq_true rfl) rfl rfl ?_
  refine tw_loop (fun s2 => [some (.ref a0), some (.int a1), some (.int s2.1), some (.int s2.2)]) (fun s2 => []) (fun r1 h1 s2 => ?_) _ rfl rfl
  refine tw_iload_n (k := 4) rfl rfl ?_
  refine tw_aload_n (k := 5) rfl rfl ?_
  refine tw_callV (k := 6) (d' := 1) (mc' := 0) (ms' := 0) tw_cI tw_cIi [] rfl rfl wv_RX12_62_X12_people mo_X12_people (t := 11) rfl rfl rfl (fun Q9 => K_X12_people Q9 a0) (by omega) (by decide) (by decide) (Nat.le_of_ble_eq_true rfl) (fun x3 => ?_)
  refine tw_icmp_ge (k := 7) 27 rfl (by decide) ?_ ?_
  · refine tw_iload_n (k := 17) rfl rfl ?_
    exact tw_ireturn (k := 18) rfl rfl (by decide) (by decide)
  · refine tw_iload_n (k := 8) rfl rfl ?_
    refine tw_aload_n (k := 9) rfl rfl ?_
    refine tw_iload_n (k := 10) rfl rfl ?_
    refine tw_iload_n (k := 11) rfl rfl ?_
    refine tw_callV (k := 12) (d' := 3) (mc' := 0) (ms' := 0) tw_cI tw_cIi [.int s2.2, .int a1] rfl rfl wv_RX12_243_X12_guessOf mo_X12_guessOf (t := 11) rfl rfl rfl (fun Q9 => K_X12_guessOf Q9 a0 s2.2 a1) (by omega) (by decide) (by decide) (Nat.le_of_ble_eq_true rfl) (fun x4 => ?_)
    refine tw_iadd (k := 13) rfl ?_
    refine tw_let (fun x5 => [some (.ref a0), some (.int a1), some (.int s2.1), some (.int s2.2)]) (fun x5 => .int x5 :: []) rfl rfl (fun x5 => ?_)
    refine tw_ist_n (k := 14) [some (.ref a0), some (.int a1), some (.int x5), some (.int s2.2)] rfl (Nat.le_of_ble_eq_true rfl) rfl rfl ?_
    refine tw_inc (k := 15) (1 : Int32) [some (.ref a0), some (.int a1), some (.int x5), some (.int (s2.2 + (1 : Int32)))] rfl rfl (by decide) (Nat.le_of_ble_eq_true rfl) rfl rfl ?_
    refine tw_goto (k := 16) 4 rfl (by decide) ?_
    exact h1 (x5, s2.2 + (1 : Int32))
def mX12_guessesOf : tw_MD := (yX12_guessesOf, cX12_guessesOf, 4, (some FieldType.int), [(0, .iconst 0, 1, 1), (1, .istore_n 2, 1, 2), (2, .iconst 0, 1, 3), (3, .istore_n 3, 1, 4), (4, .iload_n 3, 1, 5), (5, .aload_n 0, 1, 6), (6, .invokevirtual 62, 3, 9), (9, .if_icmp .ge 18, 3, 12), (12, .iload_n 2, 1, 13), (13, .aload_n 0, 1, 14), (14, .iload_n 1, 1, 15), (15, .iload_n 3, 1, 16), (16, .invokevirtual 243, 3, 19), (19, .iadd, 1, 20), (20, .istore_n 2, 1, 21), (21, .iinc 3 1, 3, 24), (24, .goto (-20), 3, 27), (27, .iload_n 2, 1, 28), (28, .ireturn, 1, 29)], [])
theorem mo_X12_guessesOf : tw_mok mX12_guessesOf 1 := ⟨plainFor_of_name (by decide +kernel), by decide +kernel, by decide +kernel, by decide +kernel, by decide +kernel⟩
theorem dk_X12_guessesOf : tw_dk mX12_guessesOf := by unfold tw_dk; decide +kernel
set_option maxRecDepth 20000 in
theorem K_X12_guessesOf {g : tw_Gx} (Q : tw_Rs → tw_Mem → Prop) (a0 : Nat) (a1 : Int32) : tw_Kt g mX12_guessesOf 4 0 0 [.ref a0, .int a1] Q (f_X12_guessesOf a0 a1 (fun v => Q (.inl (some (.int v))))) := by
  refine tw_mkK (L := [some (.ref a0), some (.int a1), none, none]) mo_X12_guessesOf dk_X12_guessesOf rfl (Nat.le_of_ble_eq_true rfl) rfl ?_
  unfold f_X12_guessesOf
  refine tw_iconst (k := 0) (0 : Int32) rfl (by decide) ?_
  refine tw_ist_n (k := 1) [some (.ref a0), some (.int a1), some (.int (0 : Int32)), none] rfl (Nat.le_of_ble_eq_true rfl) rfl rfl ?_
  refine tw_iconst (k := 2) (0 : Int32) rfl (by decide) ?_
  refine tw_ist_n (k := 3) [some (.ref a0), some (.int a1), some (.int (0 : Int32)), some (.int (0 : Int32))] rfl (Nat.le_of_ble_eq_true rfl) rfl rfl ?_
  refine tw_loop (fun s2 => [some (.ref a0), some (.int a1), some (.int s2.1), some (.int s2.2)]) (fun s2 => []) (fun r1 h1 s2 => ?_) _ rfl rfl
  refine tw_iload_n (k := 4) rfl rfl ?_
  refine tw_aload_n (k := 5) rfl rfl ?_
  refine tw_callV (k := 6) (d' := 1) (mc' := 0) (ms' := 0) tw_cI tw_cIi [] rfl rfl wv_RX12_62_X12_people mo_X12_people (t := 11) rfl rfl rfl (fun Q9 => K_X12_people Q9 a0) (by omega) (by decide) (by decide) (Nat.le_of_ble_eq_true rfl) (fun x3 => ?_)
  refine tw_icmp_ge (k := 7) 27 rfl (by decide) ?_ ?_
  · refine tw_iload_n (k := 17) rfl rfl ?_
    exact tw_ireturn (k := 18) rfl rfl (by decide) (by decide)
  · refine tw_iload_n (k := 8) rfl rfl ?_
    refine tw_aload_n (k := 9) rfl rfl ?_
    refine tw_iload_n (k := 10) rfl rfl ?_
    refine tw_iload_n (k := 11) rfl rfl ?_
    refine tw_callV (k := 12) (d' := 3) (mc' := 0) (ms' := 0) tw_cI tw_cIi [.int a1, .int s2.2] rfl rfl wv_RX12_243_X12_guessOf mo_X12_guessOf (t := 11) rfl rfl rfl (fun Q9 => K_X12_guessOf Q9 a0 a1 s2.2) (by omega) (by decide) (by decide) (Nat.le_of_ble_eq_true rfl) (fun x4 => ?_)
    refine tw_iadd (k := 13) rfl ?_
    refine tw_let (fun x5 => [some (.ref a0), some (.int a1), some (.int s2.1), some (.int s2.2)]) (fun x5 => .int x5 :: []) rfl rfl (fun x5 => ?_)
    refine tw_ist_n (k := 14) [some (.ref a0), some (.int a1), some (.int x5), some (.int s2.2)] rfl (Nat.le_of_ble_eq_true rfl) rfl rfl ?_
    refine tw_inc (k := 15) (1 : Int32) [some (.ref a0), some (.int a1), some (.int x5), some (.int (s2.2 + (1 : Int32)))] rfl rfl (by decide) (Nat.le_of_ble_eq_true rfl) rfl rfl ?_
    refine tw_goto (k := 16) 4 rfl (by decide) ?_
    exact h1 (x5, s2.2 + (1 : Int32))
def mX12_most : tw_MD := (yX12_most, cX12_most, 4, (some FieldType.int), [(0, .aload_n 0, 1, 1), (1, .iconst 0, 1, 2), (2, .putfield 3, 3, 5), (5, .iconst (-1), 1, 6), (6, .istore_n 1, 1, 7), (7, .iconst 0, 1, 8), (8, .istore_n 2, 1, 9), (9, .iconst 0, 1, 10), (10, .istore_n 3, 1, 11), (11, .iload_n 3, 1, 12), (12, .aload_n 0, 1, 13), (13, .invokevirtual 62, 3, 16), (16, .if_icmp .ge 34, 3, 19), (19, .aload_n 0, 1, 20), (20, .iload_n 3, 1, 21), (21, .invokevirtual 419, 3, 24), (24, .iload_n 2, 1, 25), (25, .if_icmp .le 7, 3, 28), (28, .iload_n 3, 1, 29), (29, .goto 4, 3, 32), (32, .iload_n 1, 1, 33), (33, .istore_n 1, 1, 34), (34, .iload_n 2, 1, 35), (35, .aload_n 0, 1, 36), (36, .iload_n 3, 1, 37), (37, .invokevirtual 419, 3, 40), (40, .invokestatic 258, 3, 43), (43, .istore_n 2, 1, 44), (44, .iinc 3 1, 3, 47), (47, .goto (-36), 3, 50), (50, .iload_n 1, 1, 51), (51, .ireturn, 1, 52)], [])
theorem mo_X12_most : tw_mok mX12_most 0 := ⟨plainFor_of_name (by decide +kernel), by decide +kernel, by decide +kernel, by decide +kernel, by decide +kernel⟩
theorem dk_X12_most : tw_dk mX12_most := by unfold tw_dk; decide +kernel
theorem wv_RX12_419_X12_guessedOf : tw_wV RX12 419 mX12_guessedOf := ⟨List.mem_of_getElem? (i := 2398) (by decide +kernel), List.mem_of_getElem? (i := 2400) (by decide +kernel), List.mem_of_getElem? (i := 119) (by decide +kernel), List.mem_of_getElem? (i := 137) (by decide +kernel), List.mem_of_getElem? (i := 2401) (by decide +kernel)⟩
theorem wf_X12_most_3 : tw_wf mX12_most 3 70 := Or.inl rfl
set_option maxRecDepth 20000 in
theorem K_X12_most {g : tw_Gx} (Q : tw_Rs → tw_Mem → Prop) (a0 : Nat) : tw_Kt g mX12_most 5 0 0 [.ref a0] Q (f_X12_most a0 (fun v => Q (.inl (some (.int v))))) := by
  refine tw_mkK (L := [some (.ref a0), none, none, none]) mo_X12_most dk_X12_most rfl (Nat.le_of_ble_eq_true rfl) rfl ?_
  unfold f_X12_most
  refine tw_aload_n (k := 0) rfl rfl ?_
  refine tw_iconst (k := 1) (0 : Int32) rfl (by decide) ?_
  refine tw_putI (k := 2) rfl fl_RX12_3 wf_X12_most_3 (by decide +kernel) ?_
  refine tw_iconst (k := 3) (-1 : Int32) rfl (by decide) ?_
  refine tw_ist_n (k := 4) [some (.ref a0), some (.int (-1 : Int32)), none, none] rfl (Nat.le_of_ble_eq_true rfl) rfl rfl ?_
  refine tw_iconst (k := 5) (0 : Int32) rfl (by decide) ?_
  refine tw_ist_n (k := 6) [some (.ref a0), some (.int (-1 : Int32)), some (.int (0 : Int32)), none] rfl (Nat.le_of_ble_eq_true rfl) rfl rfl ?_
  refine tw_iconst (k := 7) (0 : Int32) rfl (by decide) ?_
  refine tw_ist_n (k := 8) [some (.ref a0), some (.int (-1 : Int32)), some (.int (0 : Int32)), some (.int (0 : Int32))] rfl (Nat.le_of_ble_eq_true rfl) rfl rfl ?_
  refine tw_loop (fun s2 => [some (.ref a0), some (.int s2.1), some (.int s2.2.1), some (.int s2.2.2)]) (fun s2 => []) (fun r1 h1 s2 => ?_) _ rfl rfl
  refine tw_iload_n (k := 9) rfl rfl ?_
  refine tw_aload_n (k := 10) rfl rfl ?_
  refine tw_callV (k := 11) (d' := 1) (mc' := 0) (ms' := 0) tw_cI tw_cIi [] rfl rfl wv_RX12_62_X12_people mo_X12_people (t := 11) rfl rfl rfl (fun Q9 => K_X12_people Q9 a0) (by omega) (by decide) (by decide) (Nat.le_of_ble_eq_true rfl) (fun x3 => ?_)
  refine tw_icmp_ge (k := 12) 50 rfl (by decide) ?_ ?_
  · refine tw_iload_n (k := 30) rfl rfl ?_
    exact tw_ireturn (k := 31) rfl rfl (by decide) (by decide)
  · refine tw_aload_n (k := 13) rfl rfl ?_
    refine tw_iload_n (k := 14) rfl rfl ?_
    refine tw_callV (k := 15) (d' := 4) (mc' := 0) (ms' := 0) tw_cI tw_cIi [.int s2.2.2] rfl rfl wv_RX12_419_X12_guessedOf mo_X12_guessedOf (t := 11) rfl rfl rfl (fun Q9 => K_X12_guessedOf Q9 a0 s2.2.2) (by omega) (by decide) (by decide) (Nat.le_of_ble_eq_true rfl) (fun x4 => ?_)
    refine tw_iload_n (k := 16) rfl rfl ?_
    refine tw_join 33 (fun s6 => [some (.ref a0), some (.int s2.1), some (.int s2.2.1), some (.int s2.2.2)]) (fun s6 => .int s6 :: []) 0 0 (fun s6 => ?_) (fun j5 g5 => ?_)
    · refine tw_ist_n (k := 21) [some (.ref a0), some (.int s6), some (.int s2.2.1), some (.int s2.2.2)] rfl (Nat.le_of_ble_eq_true rfl) rfl rfl ?_
      refine tw_iload_n (k := 22) rfl rfl ?_
      refine tw_aload_n (k := 23) rfl rfl ?_
      refine tw_iload_n (k := 24) rfl rfl ?_
      refine tw_callV (k := 25) (d' := 4) (mc' := 0) (ms' := 0) tw_cI tw_cIi [.int s2.2.2] rfl rfl wv_RX12_419_X12_guessedOf mo_X12_guessedOf (t := 11) rfl rfl rfl (fun Q9 => K_X12_guessedOf Q9 a0 s2.2.2) (by omega) (by decide) (by decide) (Nat.le_of_ble_eq_true rfl) (fun x7 => ?_)
      refine tw_callS (k := 26) (d' := 1) (mc' := 0) (ms' := 0) tw_cI tw_cIi [.int s2.2.1, .int x7] rfl rfl ws_RX12_258_J9_max_7cf53 mo_J9_max_7cf53 rfl (fun Q9 => K_J9_max_7cf53 Q9 s2.2.1 x7) (by omega) (by decide) (by decide) (Nat.le_of_ble_eq_true rfl) (fun x8 => ?_)
      refine tw_ist_n (k := 27) [some (.ref a0), some (.int s6), some (.int x8), some (.int s2.2.2)] rfl (Nat.le_of_ble_eq_true rfl) rfl rfl ?_
      refine tw_inc (k := 28) (1 : Int32) [some (.ref a0), some (.int s6), some (.int x8), some (.int (s2.2.2 + (1 : Int32)))] rfl rfl (by decide) (Nat.le_of_ble_eq_true rfl) rfl rfl ?_
      refine tw_goto (k := 29) 11 rfl (by decide) ?_
      exact h1 (s6, x8, s2.2.2 + (1 : Int32))
    · refine tw_icmp_le (k := 17) 32 rfl (by decide) ?_ ?_
      · refine tw_iload_n (k := 20) rfl rfl ?_
        exact g5 s2.1
      · refine tw_iload_n (k := 18) rfl rfl ?_
        refine tw_goto (k := 19) 33 rfl (by decide) ?_
        exact g5 s2.2.2
def mX12_nosy : tw_MD := (yX12_nosy, cX12_nosy, 4, (some FieldType.int), [(0, .aload_n 0, 1, 1), (1, .iconst 0, 1, 2), (2, .putfield 3, 3, 5), (5, .iconst (-1), 1, 6), (6, .istore_n 1, 1, 7), (7, .iconst 0, 1, 8), (8, .istore_n 2, 1, 9), (9, .iconst 0, 1, 10), (10, .istore_n 3, 1, 11), (11, .iload_n 3, 1, 12), (12, .aload_n 0, 1, 13), (13, .invokevirtual 62, 3, 16), (16, .if_icmp .ge 34, 3, 19), (19, .aload_n 0, 1, 20), (20, .iload_n 3, 1, 21), (21, .invokevirtual 422, 3, 24), (24, .iload_n 2, 1, 25), (25, .if_icmp .le 7, 3, 28), (28, .iload_n 3, 1, 29), (29, .goto 4, 3, 32), (32, .iload_n 1, 1, 33), (33, .istore_n 1, 1, 34), (34, .iload_n 2, 1, 35), (35, .aload_n 0, 1, 36), (36, .iload_n 3, 1, 37), (37, .invokevirtual 422, 3, 40), (40, .invokestatic 258, 3, 43), (43, .istore_n 2, 1, 44), (44, .iinc 3 1, 3, 47), (47, .goto (-36), 3, 50), (50, .iload_n 1, 1, 51), (51, .ireturn, 1, 52)], [])
theorem mo_X12_nosy : tw_mok mX12_nosy 0 := ⟨plainFor_of_name (by decide +kernel), by decide +kernel, by decide +kernel, by decide +kernel, by decide +kernel⟩
theorem dk_X12_nosy : tw_dk mX12_nosy := by unfold tw_dk; decide +kernel
theorem wv_RX12_422_X12_guessesOf : tw_wV RX12 422 mX12_guessesOf := ⟨List.mem_of_getElem? (i := 2406) (by decide +kernel), List.mem_of_getElem? (i := 2408) (by decide +kernel), List.mem_of_getElem? (i := 120) (by decide +kernel), List.mem_of_getElem? (i := 137) (by decide +kernel), List.mem_of_getElem? (i := 2409) (by decide +kernel)⟩
theorem wf_X12_nosy_3 : tw_wf mX12_nosy 3 70 := Or.inl rfl
set_option maxRecDepth 20000 in
theorem K_X12_nosy {g : tw_Gx} (Q : tw_Rs → tw_Mem → Prop) (a0 : Nat) : tw_Kt g mX12_nosy 5 0 0 [.ref a0] Q (f_X12_nosy a0 (fun v => Q (.inl (some (.int v))))) := by
  refine tw_mkK (L := [some (.ref a0), none, none, none]) mo_X12_nosy dk_X12_nosy rfl (Nat.le_of_ble_eq_true rfl) rfl ?_
  unfold f_X12_nosy
  refine tw_aload_n (k := 0) rfl rfl ?_
  refine tw_iconst (k := 1) (0 : Int32) rfl (by decide) ?_
  refine tw_putI (k := 2) rfl fl_RX12_3 wf_X12_nosy_3 (by decide +kernel) ?_
  refine tw_iconst (k := 3) (-1 : Int32) rfl (by decide) ?_
  refine tw_ist_n (k := 4) [some (.ref a0), some (.int (-1 : Int32)), none, none] rfl (Nat.le_of_ble_eq_true rfl) rfl rfl ?_
  refine tw_iconst (k := 5) (0 : Int32) rfl (by decide) ?_
  refine tw_ist_n (k := 6) [some (.ref a0), some (.int (-1 : Int32)), some (.int (0 : Int32)), none] rfl (Nat.le_of_ble_eq_true rfl) rfl rfl ?_
  refine tw_iconst (k := 7) (0 : Int32) rfl (by decide) ?_
  refine tw_ist_n (k := 8) [some (.ref a0), some (.int (-1 : Int32)), some (.int (0 : Int32)), some (.int (0 : Int32))] rfl (Nat.le_of_ble_eq_true rfl) rfl rfl ?_
  refine tw_loop (fun s2 => [some (.ref a0), some (.int s2.1), some (.int s2.2.1), some (.int s2.2.2)]) (fun s2 => []) (fun r1 h1 s2 => ?_) _ rfl rfl
  refine tw_iload_n (k := 9) rfl rfl ?_
  refine tw_aload_n (k := 10) rfl rfl ?_
  refine tw_callV (k := 11) (d' := 1) (mc' := 0) (ms' := 0) tw_cI tw_cIi [] rfl rfl wv_RX12_62_X12_people mo_X12_people (t := 11) rfl rfl rfl (fun Q9 => K_X12_people Q9 a0) (by omega) (by decide) (by decide) (Nat.le_of_ble_eq_true rfl) (fun x3 => ?_)
  refine tw_icmp_ge (k := 12) 50 rfl (by decide) ?_ ?_
  · refine tw_iload_n (k := 30) rfl rfl ?_
    exact tw_ireturn (k := 31) rfl rfl (by decide) (by decide)
  · refine tw_aload_n (k := 13) rfl rfl ?_
    refine tw_iload_n (k := 14) rfl rfl ?_
    refine tw_callV (k := 15) (d' := 4) (mc' := 0) (ms' := 0) tw_cI tw_cIi [.int s2.2.2] rfl rfl wv_RX12_422_X12_guessesOf mo_X12_guessesOf (t := 11) rfl rfl rfl (fun Q9 => K_X12_guessesOf Q9 a0 s2.2.2) (by omega) (by decide) (by decide) (Nat.le_of_ble_eq_true rfl) (fun x4 => ?_)
    refine tw_iload_n (k := 16) rfl rfl ?_
    refine tw_join 33 (fun s6 => [some (.ref a0), some (.int s2.1), some (.int s2.2.1), some (.int s2.2.2)]) (fun s6 => .int s6 :: []) 0 0 (fun s6 => ?_) (fun j5 g5 => ?_)
    · refine tw_ist_n (k := 21) [some (.ref a0), some (.int s6), some (.int s2.2.1), some (.int s2.2.2)] rfl (Nat.le_of_ble_eq_true rfl) rfl rfl ?_
      refine tw_iload_n (k := 22) rfl rfl ?_
      refine tw_aload_n (k := 23) rfl rfl ?_
      refine tw_iload_n (k := 24) rfl rfl ?_
      refine tw_callV (k := 25) (d' := 4) (mc' := 0) (ms' := 0) tw_cI tw_cIi [.int s2.2.2] rfl rfl wv_RX12_422_X12_guessesOf mo_X12_guessesOf (t := 11) rfl rfl rfl (fun Q9 => K_X12_guessesOf Q9 a0 s2.2.2) (by omega) (by decide) (by decide) (Nat.le_of_ble_eq_true rfl) (fun x7 => ?_)
      refine tw_callS (k := 26) (d' := 1) (mc' := 0) (ms' := 0) tw_cI tw_cIi [.int s2.2.1, .int x7] rfl rfl ws_RX12_258_J9_max_7cf53 mo_J9_max_7cf53 rfl (fun Q9 => K_J9_max_7cf53 Q9 s2.2.1 x7) (by omega) (by decide) (by decide) (Nat.le_of_ble_eq_true rfl) (fun x8 => ?_)
      refine tw_ist_n (k := 27) [some (.ref a0), some (.int s6), some (.int x8), some (.int s2.2.2)] rfl (Nat.le_of_ble_eq_true rfl) rfl rfl ?_
      refine tw_inc (k := 28) (1 : Int32) [some (.ref a0), some (.int s6), some (.int x8), some (.int (s2.2.2 + (1 : Int32)))] rfl rfl (by decide) (Nat.le_of_ble_eq_true rfl) rfl rfl ?_
      refine tw_goto (k := 29) 11 rfl (by decide) ?_
      exact h1 (s6, x8, s2.2.2 + (1 : Int32))
    · refine tw_icmp_le (k := 17) 32 rfl (by decide) ?_ ?_
      · refine tw_iload_n (k := 20) rfl rfl ?_
        exact g5 s2.1
      · refine tw_iload_n (k := 18) rfl rfl ?_
        refine tw_goto (k := 19) 33 rfl (by decide) ?_
        exact g5 s2.2.2
def mX12_twins : tw_MD := (yX12_twins, cX12_twins, 4, (some FieldType.int), [(0, .aload_n 0, 1, 1), (1, .iconst 0, 1, 2), (2, .putfield 3, 3, 5), (5, .iconst 0, 1, 6), (6, .istore_n 1, 1, 7), (7, .iconst 0, 1, 8), (8, .istore_n 2, 1, 9), (9, .iload_n 2, 1, 10), (10, .aload_n 0, 1, 11), (11, .invokevirtual 62, 3, 14), (14, .if_icmp .ge 69, 3, 17), (17, .iconst 0, 1, 18), (18, .istore_n 3, 1, 19), (19, .iload_n 3, 1, 20), (20, .iload_n 2, 1, 21), (21, .if_icmp .ge 56, 3, 24), (24, .iload_n 1, 1, 25), (25, .aload_n 0, 1, 26), (26, .iload_n 2, 1, 27), (27, .iload_n 3, 1, 28), (28, .invokevirtual 246, 3, 31), (31, .ifCond .eq 37, 3, 34), (34, .aload_n 0, 1, 35), (35, .iload_n 2, 1, 36), (36, .iconst 1, 1, 37), (37, .invokevirtual 70, 3, 40), (40, .aload_n 0, 1, 41), (41, .iload_n 3, 1, 42), (42, .iconst 1, 1, 43), (43, .invokevirtual 70, 3, 46), (46, .if_icmp .ne 22, 3, 49), (49, .aload_n 0, 1, 50), (50, .iload_n 2, 1, 51), (51, .iconst 2, 1, 52), (52, .invokevirtual 70, 3, 55), (55, .aload_n 0, 1, 56), (56, .iload_n 3, 1, 57), (57, .iconst 2, 1, 58), (58, .invokevirtual 70, 3, 61), (61, .if_icmp .ne 7, 3, 64), (64, .iconst 1, 1, 65), (65, .goto 4, 3, 68), (68, .iconst 0, 1, 69), (69, .iadd, 1, 70), (70, .istore_n 1, 1, 71), (71, .iinc 3 1, 3, 74), (74, .goto (-55), 3, 77), (77, .iinc 2 1, 3, 80), (80, .goto (-71), 3, 83), (83, .iload_n 1, 1, 84), (84, .ireturn, 1, 85)], [])
theorem mo_X12_twins : tw_mok mX12_twins 0 := ⟨plainFor_of_name (by decide +kernel), by decide +kernel, by decide +kernel, by decide +kernel, by decide +kernel⟩
theorem dk_X12_twins : tw_dk mX12_twins := by unfold tw_dk; decide +kernel
theorem wf_X12_twins_3 : tw_wf mX12_twins 3 70 := Or.inl rfl
set_option maxRecDepth 20000 in
theorem K_X12_twins {g : tw_Gx} (Q : tw_Rs → tw_Mem → Prop) (a0 : Nat) : tw_Kt g mX12_twins 4 0 0 [.ref a0] Q (f_X12_twins a0 (fun v => Q (.inl (some (.int v))))) := by
  refine tw_mkK (L := [some (.ref a0), none, none, none]) mo_X12_twins dk_X12_twins rfl (Nat.le_of_ble_eq_true rfl) rfl ?_
  unfold f_X12_twins
  refine tw_aload_n (k := 0) rfl rfl ?_
  refine tw_iconst (k := 1) (0 : Int32) rfl (by decide) ?_
  refine tw_putI (k := 2) rfl fl_RX12_3 wf_X12_twins_3 (by decide +kernel) ?_
  refine tw_iconst (k := 3) (0 : Int32) rfl (by decide) ?_
  refine tw_ist_n (k := 4) [some (.ref a0), some (.int (0 : Int32)), none, none] rfl (Nat.le_of_ble_eq_true rfl) rfl rfl ?_
  refine tw_iconst (k := 5) (0 : Int32) rfl (by decide) ?_
  refine tw_ist_n (k := 6) [some (.ref a0), some (.int (0 : Int32)), some (.int (0 : Int32)), none] rfl (Nat.le_of_ble_eq_true rfl) rfl rfl ?_
  refine tw_loop (fun s2 => [some (.ref a0), some (.int s2.1), some (.int s2.2), none]) (fun s2 => []) (fun r1 h1 s2 => ?_) _ rfl rfl
  refine tw_iload_n (k := 7) rfl rfl ?_
  refine tw_aload_n (k := 8) rfl rfl ?_
  refine tw_callV (k := 9) (d' := 1) (mc' := 0) (ms' := 0) tw_cI tw_cIi [] rfl rfl wv_RX12_62_X12_people mo_X12_people (t := 11) rfl rfl rfl (fun Q9 => K_X12_people Q9 a0) (by omega) (by decide) (by decide) (Nat.le_of_ble_eq_true rfl) (fun x3 => ?_)
  refine tw_icmp_ge (k := 10) 83 rfl (by decide) ?_ ?_
  · refine tw_iload_n (k := 49) rfl rfl ?_
    exact tw_ireturn (k := 50) rfl rfl (by decide) (by decide)
  · refine tw_iconst (k := 11) (0 : Int32) rfl (by decide) ?_
    refine tw_ist_n (k := 12) [some (.ref a0), some (.int s2.1), some (.int s2.2), some (.int (0 : Int32))] rfl (Nat.le_of_ble_eq_true rfl) rfl rfl ?_
    refine tw_loop (fun s5 => [some (.ref a0), some (.int s5.1), some (.int s2.2), some (.int s5.2)]) (fun s5 => []) (fun r4 h4 s5 => ?_) _ rfl rfl
    refine tw_iload_n (k := 13) rfl rfl ?_
    refine tw_iload_n (k := 14) rfl rfl ?_
    refine tw_icmp_ge (k := 15) 77 rfl (by decide) ?_ ?_
    · refine tw_inc (k := 47) (1 : Int32) [some (.ref a0), some (.int s5.1), some (.int (s2.2 + (1 : Int32))), some (.int s5.2)] rfl rfl (by decide) (Nat.le_of_ble_eq_true rfl) rfl rfl ?_
      refine tw_goto (k := 48) 9 rfl (by decide) ?_
      exact tw_wk (L' := [some (.ref a0), some (.int s5.1), some (.int (s2.2 + (1 : Int32))), none]) ⟨Or.inr rfl, Or.inr rfl, Or.inr rfl, Or.inl rfl, trivial⟩ (h1 (s5.1, s2.2 + (1 : Int32)))
    · refine tw_iload_n (k := 16) rfl rfl ?_
      refine tw_aload_n (k := 17) rfl rfl ?_
      refine tw_iload_n (k := 18) rfl rfl ?_
      refine tw_iload_n (k := 19) rfl rfl ?_
      refine tw_callV (k := 20) (d' := 3) (mc' := 0) (ms' := 0) tw_cI tw_cIi [.int s2.2, .int s5.2] rfl rfl wv_RX12_246_X12_isNear mo_X12_isNear (t := 11) rfl rfl rfl (fun Q9 => K_X12_isNear Q9 a0 s2.2 s5.2) (by omega) (by decide) (by decide) (Nat.le_of_ble_eq_true rfl) (fun x6 => ?_)
      refine tw_join 69 (fun s8 => [some (.ref a0), some (.int s5.1), some (.int s2.2), some (.int s5.2)]) (fun s8 => .int s8 :: .int s5.1 :: []) 0 0 (fun s8 => ?_) (fun j7 g7 => ?_)
      · refine tw_iadd (k := 43) rfl ?_
        refine tw_let (fun x9 => [some (.ref a0), some (.int s5.1), some (.int s2.2), some (.int s5.2)]) (fun x9 => .int x9 :: []) rfl rfl (fun x9 => ?_)
        refine tw_ist_n (k := 44) [some (.ref a0), some (.int x9), some (.int s2.2), some (.int s5.2)] rfl (Nat.le_of_ble_eq_true rfl) rfl rfl ?_
        refine tw_inc (k := 45) (1 : Int32) [some (.ref a0), some (.int x9), some (.int s2.2), some (.int (s5.2 + (1 : Int32)))] rfl rfl (by decide) (Nat.le_of_ble_eq_true rfl) rfl rfl ?_
        refine tw_goto (k := 46) 19 rfl (by decide) ?_
        exact h4 (x9, s5.2 + (1 : Int32))
      · refine tw_join 68 (fun s11 => [some (.ref a0), some (.int s5.1), some (.int s2.2), some (.int s5.2)]) (fun s11 => .int s5.1 :: []) 0 0 (fun s11 => ?_) (fun j10 g10 => ?_)
        · refine tw_iconst (k := 42) (0 : Int32) rfl (by decide) ?_
          exact g7 (0 : Int32)
        · refine tw_if_eq (k := 21) 68 rfl (by decide) ?_ ?_
          · exact g10 ()
          · refine tw_aload_n (k := 22) rfl rfl ?_
            refine tw_iload_n (k := 23) rfl rfl ?_
            refine tw_iconst (k := 24) (1 : Int32) rfl (by decide) ?_
            refine tw_callV (k := 25) (d' := 2) (mc' := 0) (ms' := 0) tw_cI tw_cIi [.int s2.2, .int (1 : Int32)] rfl rfl wv_RX12_70_X12_of mo_X12_of (t := 11) rfl rfl rfl (fun Q9 => K_X12_of Q9 a0 s2.2 (1 : Int32)) (by omega) (by decide) (by decide) (Nat.le_of_ble_eq_true rfl) (fun x12 => ?_)
            refine tw_aload_n (k := 26) rfl rfl ?_
            refine tw_iload_n (k := 27) rfl rfl ?_
            refine tw_iconst (k := 28) (1 : Int32) rfl (by decide) ?_
            refine tw_callV (k := 29) (d' := 2) (mc' := 0) (ms' := 0) tw_cI tw_cIi [.int s5.2, .int (1 : Int32)] rfl rfl wv_RX12_70_X12_of mo_X12_of (t := 11) rfl rfl rfl (fun Q9 => K_X12_of Q9 a0 s5.2 (1 : Int32)) (by omega) (by decide) (by decide) (Nat.le_of_ble_eq_true rfl) (fun x13 => ?_)
            refine tw_icmp_ne (k := 30) 68 rfl (by decide) ?_ ?_
            · exact g10 ()
            · refine tw_aload_n (k := 31) rfl rfl ?_
              refine tw_iload_n (k := 32) rfl rfl ?_
              refine tw_iconst (k := 33) (2 : Int32) rfl (by decide) ?_
              refine tw_callV (k := 34) (d' := 2) (mc' := 0) (ms' := 0) tw_cI tw_cIi [.int s2.2, .int (2 : Int32)] rfl rfl wv_RX12_70_X12_of mo_X12_of (t := 11) rfl rfl rfl (fun Q9 => K_X12_of Q9 a0 s2.2 (2 : Int32)) (by omega) (by decide) (by decide) (Nat.le_of_ble_eq_true rfl) (fun x14 => ?_)
              refine tw_aload_n (k := 35) rfl rfl ?_
              refine tw_iload_n (k := 36) rfl rfl ?_
              refine tw_iconst (k := 37) (2 : Int32) rfl (by decide) ?_
              refine tw_callV (k := 38) (d' := 2) (mc' := 0) (ms' := 0) tw_cI tw_cIi [.int s5.2, .int (2 : Int32)] rfl rfl wv_RX12_70_X12_of mo_X12_of (t := 11) rfl rfl rfl (fun Q9 => K_X12_of Q9 a0 s5.2 (2 : Int32)) (by omega) (by decide) (by decide) (Nat.le_of_ble_eq_true rfl) (fun x15 => ?_)
              refine tw_icmp_ne (k := 39) 68 rfl (by decide) ?_ ?_
              · exact g10 ()
              · refine tw_iconst (k := 40) (1 : Int32) rfl (by decide) ?_
                refine tw_goto (k := 41) 69 rfl (by decide) ?_
                exact g7 (1 : Int32)
def mX12_odds : tw_MD := (yX12_odds, cX12_odds, 12, (some FieldType.int), [(0, .aload_n 0, 1, 1), (1, .iconst 0, 1, 2), (2, .putfield 3, 3, 5), (5, .aload_n 0, 1, 6), (6, .aload_n 0, 1, 7), (7, .iload_n 1, 1, 8), (8, .invokevirtual 288, 3, 11), (11, .ifCond .ne 11, 3, 14), (14, .aload_n 0, 1, 15), (15, .iload_n 2, 1, 16), (16, .invokevirtual 288, 3, 19), (19, .ifCond .eq 7, 3, 22), (22, .iconst 1, 1, 23), (23, .goto 4, 3, 26), (26, .iconst 0, 1, 27), (27, .iconst 1, 1, 28), (28, .invokevirtual 240, 3, 31), (31, .ifCond .ne 40, 3, 34), (34, .aload_n 0, 1, 35), (35, .iload_n 1, 1, 36), (36, .iload_n 2, 1, 37), (37, .if_icmp .eq 22, 3, 40), (40, .iload_n 3, 1, 41), (41, .iconst 0, 1, 42), (42, .iconst 3, 1, 43), (43, .invokestatic 76, 3, 46), (46, .ifCond .eq 13, 3, 49), (49, .iload 4, 2, 51), (51, .iconst 0, 1, 52), (52, .iconst 3, 1, 53), (53, .invokestatic 76, 3, 56), (56, .ifCond .ne 7, 3, 59), (59, .iconst 1, 1, 60), (60, .goto 4, 3, 63), (63, .iconst 0, 1, 64), (64, .iconst 2, 1, 65), (65, .invokevirtual 240, 3, 68), (68, .ifCond .eq 5, 3, 71), (71, .iconst 0, 1, 72), (72, .ireturn, 1, 73), (73, .aload_n 0, 1, 74), (74, .iload_n 1, 1, 75), (75, .iload_n 2, 1, 76), (76, .invokevirtual 246, 3, 79), (79, .ifCond .eq 20, 3, 82), (82, .aload_n 0, 1, 83), (83, .iload_n 1, 1, 84), (84, .iconst 1, 1, 85), (85, .invokevirtual 70, 3, 88), (88, .aload_n 0, 1, 89), (89, .iload_n 2, 1, 90), (90, .iconst 1, 1, 91), (91, .invokevirtual 70, 3, 94), (94, .imul, 1, 95), (95, .i2l, 1, 96), (96, .goto 4, 3, 99), (99, .lconst 0, 1, 100), (100, .lstore 5, 2, 102), (102, .lconst 1, 1, 103), (103, .lstore 7, 2, 105), (105, .iconst 0, 1, 106), (106, .istore 9, 2, 108), (108, .iload 9, 2, 110), (110, .iconst 3, 1, 111), (111, .if_icmp .gt 26, 3, 114), (114, .aload_n 0, 1, 115), (115, .getfield 51, 3, 118), (118, .iload 9, 2, 120), (120, .iload 9, 2, 122), (122, .ifCond .ne 7, 3, 125), (125, .lconst 1, 1, 126), (126, .goto 4, 3, 129), (129, .lconst 0, 1, 130), (130, .lastore, 1, 131), (131, .iinc 9 1, 3, 134), (134, .goto (-26), 3, 137), (137, .iconst 0, 1, 138), (138, .istore 9, 2, 140), (140, .iload 9, 2, 142), (142, .iload_n 3, 1, 143), (143, .if_icmp .ge 74, 3, 146), (146, .iconst 3, 1, 147), (147, .istore 10, 2, 149), (149, .iload 10, 2, 151), (151, .ifCond .lt 52, 3, 154), (154, .aload_n 0, 1, 155), (155, .getfield 51, 3, 158), (158, .iload 10, 2, 160), (160, .aload_n 0, 1, 161), (161, .getfield 51, 3, 164), (164, .iload 10, 2, 166), (166, .laload, 1, 167), (167, .ldc2_w 425, 3, 170), (170, .lload 5, 2, 172), (172, .lsub, 1, 173), (173, .lmul, 1, 174), (174, .iload 10, 2, 176), (176, .ifCond .ne 7, 3, 179), (179, .lconst 0, 1, 180), (180, .goto 15, 3, 183), (183, .aload_n 0, 1, 184), (184, .getfield 51, 3, 187), (187, .iload 10, 2, 189), (189, .iconst 1, 1, 190), (190, .isub, 1, 191), (191, .laload, 1, 192), (192, .lload 5, 2, 194), (194, .lmul, 1, 195), (195, .ladd, 1, 196), (196, .lastore, 1, 197), (197, .iinc 10 (-1), 3, 200), (200, .goto (-51), 3, 203), (203, .lload 7, 2, 205), (205, .ldc2_w 425, 3, 208), (208, .lmul, 1, 209), (209, .lstore 7, 2, 211), (211, .iinc 9 1, 3, 214), (214, .goto (-74), 3, 217), (217, .lconst 0, 1, 218), (218, .lstore 9, 2, 220), (220, .iload 4, 2, 222), (222, .istore 11, 2, 224), (224, .iload 11, 2, 226), (226, .iconst 3, 1, 227), (227, .if_icmp .gt 21, 3, 230), (230, .lload 9, 2, 232), (232, .aload_n 0, 1, 233), (233, .getfield 51, 3, 236), (236, .iload 11, 2, 238), (238, .laload, 1, 239), (239, .ladd, 1, 240), (240, .lstore 9, 2, 242), (242, .iinc 11 1, 3, 245), (245, .goto (-21), 3, 248), (248, .ldc2_w 425, 3, 251), (251, .lload 9, 2, 253), (253, .lmul, 1, 254), (254, .lload 7, 2, 256), (256, .ldiv, 1, 257), (257, .l2i, 1, 258), (258, .ireturn, 1, 259)], [])
theorem mo_X12_odds : tw_mok mX12_odds 4 := ⟨plainFor_of_name (by decide +kernel), by decide +kernel, by decide +kernel, by decide +kernel, by decide +kernel⟩
theorem dk_X12_odds : tw_dk mX12_odds := by unfold tw_dk; decide +kernel
theorem kl_RX12_425 : Cond.constantLong RX12 425 (10000 : Int64) ∈ lw_tbl := List.mem_of_getElem? (i := 2418) (by decide +kernel)
theorem wf_X12_odds_3 : tw_wf mX12_odds 3 70 := Or.inl rfl
set_option maxRecDepth 20000 in
theorem K_X12_odds {g : tw_Gx} (Q : tw_Rs → tw_Mem → Prop) (a0 : Nat) (a1 : Int32) (a2 : Int32) (a3 : Int32) (a4 : Int32) : tw_Kt g mX12_odds 4 0 0 [.ref a0, .int a1, .int a2, .int a3, .int a4] Q (f_X12_odds a0 a1 a2 a3 a4 (fun v => Q (.inl (some (.int v))))) := by
  refine tw_mkK (L := [some (.ref a0), some (.int a1), some (.int a2), some (.int a3), some (.int a4), none, none, none, none, none, none, none]) mo_X12_odds dk_X12_odds rfl (Nat.le_of_ble_eq_true rfl) rfl ?_
  unfold f_X12_odds
  refine tw_aload_n (k := 0) rfl rfl ?_
  refine tw_iconst (k := 1) (0 : Int32) rfl (by decide) ?_
  refine tw_putI (k := 2) rfl fl_RX12_3 wf_X12_odds_3 (by decide +kernel) ?_
  refine tw_aload_n (k := 3) rfl rfl ?_
  refine tw_aload_n (k := 4) rfl rfl ?_
  refine tw_iload_n (k := 5) rfl rfl ?_
  refine tw_callV (k := 6) (d' := 2) (mc' := 0) (ms' := 0) tw_cI tw_cIi [.int a1] rfl rfl wv_RX12_288_X12_nobody mo_X12_nobody (t := 11) rfl rfl rfl (fun Q9 => K_X12_nobody Q9 a0 a1) (by omega) (by decide) (by decide) (Nat.le_of_ble_eq_true rfl) (fun x1 => ?_)
  refine tw_join 27 (fun s3 => [some (.ref a0), some (.int a1), some (.int a2), some (.int a3), some (.int a4), none, none, none, none, none, none, none]) (fun s3 => .int s3 :: .ref a0 :: []) 0 0 (fun s3 => ?_) (fun j2 g2 => ?_)
  · refine tw_iconst (k := 15) (1 : Int32) rfl (by decide) ?_
    refine tw_callV (k := 16) (d' := 1) (mc' := 0) (ms' := 0) tw_cI tw_cIi [.int s3, .int (1 : Int32)] rfl rfl wv_RX12_240_X12_throwsIf mo_X12_throwsIf (t := 11) rfl rfl rfl (fun Q9 => K_X12_throwsIf Q9 a0 s3 (1 : Int32)) (by omega) (by decide) (by decide) (Nat.le_of_ble_eq_true rfl) (fun x4 => ?_)
    refine tw_if_ne (k := 17) 71 rfl (by decide) ?_ ?_
    · refine tw_iconst (k := 38) (0 : Int32) rfl (by decide) ?_
      exact tw_ireturn (k := 39) rfl rfl (by decide) (by decide)
    · refine tw_aload_n (k := 18) rfl rfl ?_
      refine tw_iload_n (k := 19) rfl rfl ?_
      refine tw_iload_n (k := 20) rfl rfl ?_
      refine tw_join 64 (fun s6 => [some (.ref a0), some (.int a1), some (.int a2), some (.int a3), some (.int a4), none, none, none, none, none, none, none]) (fun s6 => .int s6 :: .ref a0 :: []) 0 0 (fun s6 => ?_) (fun j5 g5 => ?_)
      · refine tw_iconst (k := 35) (2 : Int32) rfl (by decide) ?_
        refine tw_callV (k := 36) (d' := 1) (mc' := 0) (ms' := 0) tw_cI tw_cIi [.int s6, .int (2 : Int32)] rfl rfl wv_RX12_240_X12_throwsIf mo_X12_throwsIf (t := 11) rfl rfl rfl (fun Q9 => K_X12_throwsIf Q9 a0 s6 (2 : Int32)) (by omega) (by decide) (by decide) (Nat.le_of_ble_eq_true rfl) (fun x7 => ?_)
        refine tw_if_eq (k := 37) 73 rfl (by decide) ?_ ?_
        · refine tw_aload_n (k := 40) rfl rfl ?_
          refine tw_iload_n (k := 41) rfl rfl ?_
          refine tw_iload_n (k := 42) rfl rfl ?_
          refine tw_callV (k := 43) (d' := 3) (mc' := 0) (ms' := 0) tw_cI tw_cIi [.int a1, .int a2] rfl rfl wv_RX12_246_X12_isNear mo_X12_isNear (t := 11) rfl rfl rfl (fun Q9 => K_X12_isNear Q9 a0 a1 a2) (by omega) (by decide) (by decide) (Nat.le_of_ble_eq_true rfl) (fun x8 => ?_)
          refine tw_join 100 (fun s10 => [some (.ref a0), some (.int a1), some (.int a2), some (.int a3), some (.int a4), none, none, none, none, none, none, none]) (fun s10 => .long s10 :: []) 0 0 (fun s10 => ?_) (fun j9 g9 => ?_)
          · refine tw_lst (k := 57) [some (.ref a0), some (.int a1), some (.int a2), some (.int a3), some (.int a4), some (.long s10), none, none, none, none, none, none] rfl (Nat.le_of_ble_eq_true rfl) rfl rfl ?_
            refine tw_lconst (k := 58) (1 : Int64) rfl (by decide) ?_
            refine tw_let (fun x11 => [some (.ref a0), some (.int a1), some (.int a2), some (.int a3), some (.int a4), some (.long s10), none, none, none, none, none, none]) (fun x11 => .long x11 :: []) rfl rfl (fun x11 => ?_)
            refine tw_lst (k := 59) [some (.ref a0), some (.int a1), some (.int a2), some (.int a3), some (.int a4), some (.long s10), none, some (.long x11), none, none, none, none] rfl (Nat.le_of_ble_eq_true rfl) rfl rfl ?_
            refine tw_iconst (k := 60) (0 : Int32) rfl (by decide) ?_
            refine tw_ist (k := 61) [some (.ref a0), some (.int a1), some (.int a2), some (.int a3), some (.int a4), some (.long s10), none, some (.long x11), none, some (.int (0 : Int32)), none, none] rfl (Nat.le_of_ble_eq_true rfl) rfl rfl ?_
            refine tw_loop (fun s13 => [some (.ref a0), some (.int a1), some (.int a2), some (.int a3), some (.int a4), some (.long s10), none, some (.long x11), none, some (.int s13), none, none]) (fun s13 => []) (fun r12 h12 s13 => ?_) _ rfl rfl
            refine tw_iload (k := 62) rfl rfl ?_
            refine tw_iconst (k := 63) (3 : Int32) rfl (by decide) ?_
            refine tw_icmp_gt (k := 64) 137 rfl (by decide) ?_ ?_
            · refine tw_iconst (k := 76) (0 : Int32) rfl (by decide) ?_
              refine tw_ist (k := 77) [some (.ref a0), some (.int a1), some (.int a2), some (.int a3), some (.int a4), some (.long s10), none, some (.long x11), none, some (.int (0 : Int32)), none, none] rfl (Nat.le_of_ble_eq_true rfl) rfl rfl ?_
              refine tw_loop (fun s15 => [some (.ref a0), some (.int a1), some (.int a2), some (.int a3), some (.int a4), some (.long s10), none, some (.long s15.1), none, some (.int s15.2), none, none]) (fun s15 => []) (fun r14 h14 s15 => ?_) _ rfl rfl
              refine tw_iload (k := 78) rfl rfl ?_
              refine tw_iload_n (k := 79) rfl rfl ?_
              refine tw_icmp_ge (k := 80) 217 rfl (by decide) ?_ ?_
              · refine tw_lconst (k := 118) (0 : Int64) rfl (by decide) ?_
                refine tw_let (fun x16 => [some (.ref a0), some (.int a1), some (.int a2), some (.int a3), some (.int a4), some (.long s10), none, some (.long s15.1), none, some (.int s15.2), none, none]) (fun x16 => .long x16 :: []) rfl rfl (fun x16 => ?_)
                refine tw_lst (k := 119) [some (.ref a0), some (.int a1), some (.int a2), some (.int a3), some (.int a4), some (.long s10), none, some (.long s15.1), none, some (.long x16), none, none] rfl (Nat.le_of_ble_eq_true rfl) rfl rfl ?_
                refine tw_iload (k := 120) rfl rfl ?_
                refine tw_ist (k := 121) [some (.ref a0), some (.int a1), some (.int a2), some (.int a3), some (.int a4), some (.long s10), none, some (.long s15.1), none, some (.long x16), none, some (.int a4)] rfl (Nat.le_of_ble_eq_true rfl) rfl rfl ?_
                refine tw_loop (fun s18 => [some (.ref a0), some (.int a1), some (.int a2), some (.int a3), some (.int a4), some (.long s10), none, some (.long s15.1), none, some (.long s18.1), none, some (.int s18.2)]) (fun s18 => []) (fun r17 h17 s18 => ?_) _ rfl rfl
                refine tw_iload (k := 122) rfl rfl ?_
                refine tw_iconst (k := 123) (3 : Int32) rfl (by decide) ?_
                refine tw_icmp_gt (k := 124) 248 rfl (by decide) ?_ ?_
                · refine tw_ldc2 (k := 134) kl_RX12_425 rfl ?_
                  refine tw_lload (k := 135) rfl rfl ?_
                  refine tw_lmul (k := 136) rfl ?_
                  refine tw_lload (k := 137) rfl rfl ?_
                  refine tw_ldiv (k := 138) rfl ?_
                  refine tw_l2i (k := 139) rfl ?_
                  exact tw_ireturn (k := 140) rfl rfl (by decide) (by decide)
                · refine tw_lload (k := 125) rfl rfl ?_
                  refine tw_aload_n (k := 126) rfl rfl ?_
                  refine tw_getR (k := 127) rfl fl_RX12_51 (fun x19 => ?_)
                  refine tw_iload (k := 128) rfl rfl ?_
                  refine tw_laload (k := 129) rfl (fun x20 => ?_)
                  refine tw_ladd (k := 130) rfl ?_
                  refine tw_let (fun x21 => [some (.ref a0), some (.int a1), some (.int a2), some (.int a3), some (.int a4), some (.long s10), none, some (.long s15.1), none, some (.long s18.1), none, some (.int s18.2)]) (fun x21 => .long x21 :: []) rfl rfl (fun x21 => ?_)
                  refine tw_lst (k := 131) [some (.ref a0), some (.int a1), some (.int a2), some (.int a3), some (.int a4), some (.long s10), none, some (.long s15.1), none, some (.long x21), none, some (.int s18.2)] rfl (Nat.le_of_ble_eq_true rfl) rfl rfl ?_
                  refine tw_inc (k := 132) (1 : Int32) [some (.ref a0), some (.int a1), some (.int a2), some (.int a3), some (.int a4), some (.long s10), none, some (.long s15.1), none, some (.long x21), none, some (.int (s18.2 + (1 : Int32)))] rfl rfl (by decide) (Nat.le_of_ble_eq_true rfl) rfl rfl ?_
                  refine tw_goto (k := 133) 224 rfl (by decide) ?_
                  exact h17 (x21, s18.2 + (1 : Int32))
              · refine tw_iconst (k := 81) (3 : Int32) rfl (by decide) ?_
                refine tw_ist (k := 82) [some (.ref a0), some (.int a1), some (.int a2), some (.int a3), some (.int a4), some (.long s10), none, some (.long s15.1), none, some (.int s15.2), some (.int (3 : Int32)), none] rfl (Nat.le_of_ble_eq_true rfl) rfl rfl ?_
                refine tw_loop (fun s23 => [some (.ref a0), some (.int a1), some (.int a2), some (.int a3), some (.int a4), some (.long s10), none, some (.long s15.1), none, some (.int s15.2), some (.int s23), none]) (fun s23 => []) (fun r22 h22 s23 => ?_) _ rfl rfl
                refine tw_iload (k := 83) rfl rfl ?_
                refine tw_if_lt (k := 84) 203 rfl (by decide) ?_ ?_
                · refine tw_lload (k := 112) rfl rfl ?_
                  refine tw_ldc2 (k := 113) kl_RX12_425 rfl ?_
                  refine tw_lmul (k := 114) rfl ?_
                  refine tw_let (fun x24 => [some (.ref a0), some (.int a1), some (.int a2), some (.int a3), some (.int a4), some (.long s10), none, some (.long s15.1), none, some (.int s15.2), some (.int s23), none]) (fun x24 => .long x24 :: []) rfl rfl (fun x24 => ?_)
                  refine tw_lst (k := 115) [some (.ref a0), some (.int a1), some (.int a2), some (.int a3), some (.int a4), some (.long s10), none, some (.long x24), none, some (.int s15.2), some (.int s23), none] rfl (Nat.le_of_ble_eq_true rfl) rfl rfl ?_
                  refine tw_inc (k := 116) (1 : Int32) [some (.ref a0), some (.int a1), some (.int a2), some (.int a3), some (.int a4), some (.long s10), none, some (.long x24), none, some (.int (s15.2 + (1 : Int32))), some (.int s23), none] rfl rfl (by decide) (Nat.le_of_ble_eq_true rfl) rfl rfl ?_
                  refine tw_goto (k := 117) 140 rfl (by decide) ?_
                  exact tw_wk (L' := [some (.ref a0), some (.int a1), some (.int a2), some (.int a3), some (.int a4), some (.long s10), none, some (.long x24), none, some (.int (s15.2 + (1 : Int32))), none, none]) ⟨Or.inr rfl, Or.inr rfl, Or.inr rfl, Or.inr rfl, Or.inr rfl, Or.inr rfl, Or.inl rfl, Or.inr rfl, Or.inl rfl, Or.inr rfl, Or.inl rfl, Or.inl rfl, trivial⟩ (h14 (x24, s15.2 + (1 : Int32)))
                · refine tw_aload_n (k := 85) rfl rfl ?_
                  refine tw_getR (k := 86) rfl fl_RX12_51 (fun x25 => ?_)
                  refine tw_iload (k := 87) rfl rfl ?_
                  refine tw_aload_n (k := 88) rfl rfl ?_
                  refine tw_getR (k := 89) rfl fl_RX12_51 (fun x26 => ?_)
                  refine tw_iload (k := 90) rfl rfl ?_
                  refine tw_laload (k := 91) rfl (fun x27 => ?_)
                  refine tw_ldc2 (k := 92) kl_RX12_425 rfl ?_
                  refine tw_lload (k := 93) rfl rfl ?_
                  refine tw_lsub (k := 94) rfl ?_
                  refine tw_lmul (k := 95) rfl ?_
                  refine tw_iload (k := 96) rfl rfl ?_
                  refine tw_join 195 (fun s29 => [some (.ref a0), some (.int a1), some (.int a2), some (.int a3), some (.int a4), some (.long s10), none, some (.long s15.1), none, some (.int s15.2), some (.int s23), none]) (fun s29 => .long s29 :: .long (x27 * ((10000 : Int64) - s10)) :: .int s23 :: .ref x25 :: []) 0 0 (fun s29 => ?_) (fun j28 g28 => ?_)
                  · refine tw_ladd (k := 108) rfl ?_
                    refine tw_lastore (k := 109) rfl ?_
                    refine tw_inc (k := 110) (-1 : Int32) [some (.ref a0), some (.int a1), some (.int a2), some (.int a3), some (.int a4), some (.long s10), none, some (.long s15.1), none, some (.int s15.2), some (.int (s23 + (-1 : Int32))), none] rfl rfl (by decide) (Nat.le_of_ble_eq_true rfl) rfl rfl ?_
                    refine tw_goto (k := 111) 149 rfl (by decide) ?_
                    exact h22 (s23 + (-1 : Int32))
                  · refine tw_if_ne (k := 97) 183 rfl (by decide) ?_ ?_
                    · refine tw_aload_n (k := 100) rfl rfl ?_
                      refine tw_getR (k := 101) rfl fl_RX12_51 (fun x30 => ?_)
                      refine tw_iload (k := 102) rfl rfl ?_
                      refine tw_iconst (k := 103) (1 : Int32) rfl (by decide) ?_
                      refine tw_isub (k := 104) rfl ?_
                      refine tw_laload (k := 105) rfl (fun x31 => ?_)
                      refine tw_lload (k := 106) rfl rfl ?_
                      refine tw_lmul (k := 107) rfl ?_
                      exact g28 (x31 * s10)
                    · refine tw_lconst (k := 98) (0 : Int64) rfl (by decide) ?_
                      refine tw_goto (k := 99) 195 rfl (by decide) ?_
                      exact g28 (0 : Int64)
            · refine tw_aload_n (k := 65) rfl rfl ?_
              refine tw_getR (k := 66) rfl fl_RX12_51 (fun x32 => ?_)
              refine tw_iload (k := 67) rfl rfl ?_
              refine tw_iload (k := 68) rfl rfl ?_
              refine tw_join 130 (fun s34 => [some (.ref a0), some (.int a1), some (.int a2), some (.int a3), some (.int a4), some (.long s10), none, some (.long x11), none, some (.int s13), none, none]) (fun s34 => .long s34 :: .int s13 :: .ref x32 :: []) 0 0 (fun s34 => ?_) (fun j33 g33 => ?_)
              · refine tw_lastore (k := 73) rfl ?_
                refine tw_inc (k := 74) (1 : Int32) [some (.ref a0), some (.int a1), some (.int a2), some (.int a3), some (.int a4), some (.long s10), none, some (.long x11), none, some (.int (s13 + (1 : Int32))), none, none] rfl rfl (by decide) (Nat.le_of_ble_eq_true rfl) rfl rfl ?_
                refine tw_goto (k := 75) 108 rfl (by decide) ?_
                exact h12 (s13 + (1 : Int32))
              · refine tw_if_ne (k := 69) 129 rfl (by decide) ?_ ?_
                · refine tw_lconst (k := 72) (0 : Int64) rfl (by decide) ?_
                  exact g33 (0 : Int64)
                · refine tw_lconst (k := 70) (1 : Int64) rfl (by decide) ?_
                  refine tw_goto (k := 71) 130 rfl (by decide) ?_
                  exact g33 (1 : Int64)
          · refine tw_if_eq (k := 44) 99 rfl (by decide) ?_ ?_
            · refine tw_lconst (k := 56) (0 : Int64) rfl (by decide) ?_
              exact g9 (0 : Int64)
            · refine tw_aload_n (k := 45) rfl rfl ?_
              refine tw_iload_n (k := 46) rfl rfl ?_
              refine tw_iconst (k := 47) (1 : Int32) rfl (by decide) ?_
              refine tw_callV (k := 48) (d' := 2) (mc' := 0) (ms' := 0) tw_cI tw_cIi [.int a1, .int (1 : Int32)] rfl rfl wv_RX12_70_X12_of mo_X12_of (t := 11) rfl rfl rfl (fun Q9 => K_X12_of Q9 a0 a1 (1 : Int32)) (by omega) (by decide) (by decide) (Nat.le_of_ble_eq_true rfl) (fun x35 => ?_)
              refine tw_aload_n (k := 49) rfl rfl ?_
              refine tw_iload_n (k := 50) rfl rfl ?_
              refine tw_iconst (k := 51) (1 : Int32) rfl (by decide) ?_
              refine tw_callV (k := 52) (d' := 2) (mc' := 0) (ms' := 0) tw_cI tw_cIi [.int a2, .int (1 : Int32)] rfl rfl wv_RX12_70_X12_of mo_X12_of (t := 11) rfl rfl rfl (fun Q9 => K_X12_of Q9 a0 a2 (1 : Int32)) (by omega) (by decide) (by decide) (Nat.le_of_ble_eq_true rfl) (fun x36 => ?_)
              refine tw_imul (k := 53) rfl ?_
              refine tw_i2l (k := 54) rfl ?_
              refine tw_goto (k := 55) 100 rfl (by decide) ?_
              exact g9 ((x35 * x36).toInt64)
        · refine tw_iconst (k := 38) (0 : Int32) rfl (by decide) ?_
          exact tw_ireturn (k := 39) rfl rfl (by decide) (by decide)
      · refine tw_join 59 (fun s38 => [some (.ref a0), some (.int a1), some (.int a2), some (.int a3), some (.int a4), none, none, none, none, none, none, none]) (fun s38 => .ref a0 :: []) 0 0 (fun s38 => ?_) (fun j37 g37 => ?_)
        · refine tw_iconst (k := 32) (1 : Int32) rfl (by decide) ?_
          refine tw_goto (k := 33) 64 rfl (by decide) ?_
          exact g5 (1 : Int32)
        · refine tw_icmp_eq (k := 21) 59 rfl (by decide) ?_ ?_
          · exact g37 ()
          · refine tw_iload_n (k := 22) rfl rfl ?_
            refine tw_iconst (k := 23) (0 : Int32) rfl (by decide) ?_
            refine tw_iconst (k := 24) (3 : Int32) rfl (by decide) ?_
            refine tw_callS (k := 25) (d' := 1) (mc' := 0) (ms' := 0) tw_cI tw_cIi [.int a3, .int (0 : Int32), .int (3 : Int32)] rfl rfl ws_RX12_76_X12_in mo_X12_in rfl (fun Q9 => K_X12_in Q9 a3 (0 : Int32) (3 : Int32)) (by omega) (by decide) (by decide) (Nat.le_of_ble_eq_true rfl) (fun x39 => ?_)
            refine tw_if_eq (k := 26) 59 rfl (by decide) ?_ ?_
            · exact g37 ()
            · refine tw_iload (k := 27) rfl rfl ?_
              refine tw_iconst (k := 28) (0 : Int32) rfl (by decide) ?_
              refine tw_iconst (k := 29) (3 : Int32) rfl (by decide) ?_
              refine tw_callS (k := 30) (d' := 1) (mc' := 0) (ms' := 0) tw_cI tw_cIi [.int a4, .int (0 : Int32), .int (3 : Int32)] rfl rfl ws_RX12_76_X12_in mo_X12_in rfl (fun Q9 => K_X12_in Q9 a4 (0 : Int32) (3 : Int32)) (by omega) (by decide) (by decide) (Nat.le_of_ble_eq_true rfl) (fun x40 => ?_)
              refine tw_if_ne (k := 31) 63 rfl (by decide) ?_ ?_
              · refine tw_iconst (k := 34) (0 : Int32) rfl (by decide) ?_
                exact g5 (0 : Int32)
              · exact g37 ()
  · refine tw_join 22 (fun s42 => [some (.ref a0), some (.int a1), some (.int a2), some (.int a3), some (.int a4), none, none, none, none, none, none, none]) (fun s42 => .ref a0 :: []) 0 0 (fun s42 => ?_) (fun j41 g41 => ?_)
    · refine tw_iconst (k := 12) (1 : Int32) rfl (by decide) ?_
      refine tw_goto (k := 13) 27 rfl (by decide) ?_
      exact g2 (1 : Int32)
    · refine tw_if_ne (k := 7) 22 rfl (by decide) ?_ ?_
      · exact g41 ()
      · refine tw_aload_n (k := 8) rfl rfl ?_
        refine tw_iload_n (k := 9) rfl rfl ?_
        refine tw_callV (k := 10) (d' := 2) (mc' := 0) (ms' := 0) tw_cI tw_cIi [.int a2] rfl rfl wv_RX12_288_X12_nobody mo_X12_nobody (t := 11) rfl rfl rfl (fun Q9 => K_X12_nobody Q9 a0 a2) (by omega) (by decide) (by decide) (Nat.le_of_ble_eq_true rfl) (fun x43 => ?_)
        refine tw_if_eq (k := 11) 26 rfl (by decide) ?_ ?_
        · refine tw_iconst (k := 14) (0 : Int32) rfl (by decide) ?_
          exact g2 (0 : Int32)
        · exact g41 ()
def mX12_hasBy : tw_MD := (yX12_hasBy, cX12_hasBy, 5, (some FieldType.int), [(0, .iload_n 3, 1, 1), (1, .iconst 1, 1, 2), (2, .if_icmp .ne 24, 3, 5), (5, .aload_n 0, 1, 6), (6, .iload_n 1, 1, 7), (7, .iload_n 2, 1, 8), (8, .invokevirtual 243, 3, 11), (11, .aload_n 0, 1, 12), (12, .getfield 13, 3, 15), (15, .iconst 5, 1, 16), (16, .iaload, 1, 17), (17, .if_icmp .lt 7, 3, 20), (20, .iconst 1, 1, 21), (21, .goto 4, 3, 24), (24, .iconst 0, 1, 25), (25, .ireturn, 1, 26), (26, .iload 4, 2, 28), (28, .ifCond .ne 21, 3, 31), (31, .aload_n 0, 1, 32), (32, .iload_n 1, 1, 33), (33, .iconst 2, 1, 34), (34, .invokevirtual 70, 3, 37), (37, .iconst 2, 1, 38), (38, .aload_n 0, 1, 39), (39, .iload_n 1, 1, 40), (40, .iload_n 2, 1, 41), (41, .invokevirtual 243, 3, 44), (44, .imul, 1, 45), (45, .isub, 1, 46), (46, .goto 5, 3, 49), (49, .bipush (-3), 2, 51), (51, .ireturn, 1, 52)], [])
theorem mo_X12_hasBy : tw_mok mX12_hasBy 4 := ⟨plainFor_of_name (by decide +kernel), by decide +kernel, by decide +kernel, by decide +kernel, by decide +kernel⟩
theorem dk_X12_hasBy : tw_dk mX12_hasBy := by unfold tw_dk; decide +kernel
set_option maxRecDepth 20000 in
theorem K_X12_hasBy {g : tw_Gx} (Q : tw_Rs → tw_Mem → Prop) (a0 : Nat) (a1 : Int32) (a2 : Int32) (a3 : Int32) (a4 : Int32) : tw_Kt g mX12_hasBy 4 0 0 [.ref a0, .int a1, .int a2, .int a3, .int a4] Q (f_X12_hasBy a0 a1 a2 a3 a4 (fun v => Q (.inl (some (.int v))))) := by
  refine tw_mkK (L := [some (.ref a0), some (.int a1), some (.int a2), some (.int a3), some (.int a4)]) mo_X12_hasBy dk_X12_hasBy rfl (Nat.le_of_ble_eq_true rfl) rfl ?_
  unfold f_X12_hasBy
  refine tw_iload_n (k := 0) rfl rfl ?_
  refine tw_iconst (k := 1) (1 : Int32) rfl (by decide) ?_
  refine tw_icmp_ne (k := 2) 26 rfl (by decide) ?_ ?_
  · refine tw_iload (k := 16) rfl rfl ?_
    refine tw_if_ne (k := 17) 49 rfl (by decide) ?_ ?_
    · refine tw_bipush (k := 30) (-3 : Int32) rfl (by decide) ?_
      exact tw_ireturn (k := 31) rfl rfl (by decide) (by decide)
    · refine tw_aload_n (k := 18) rfl rfl ?_
      refine tw_iload_n (k := 19) rfl rfl ?_
      refine tw_iconst (k := 20) (2 : Int32) rfl (by decide) ?_
      refine tw_callV (k := 21) (d' := 2) (mc' := 0) (ms' := 0) tw_cI tw_cIi [.int a1, .int (2 : Int32)] rfl rfl wv_RX12_70_X12_of mo_X12_of (t := 11) rfl rfl rfl (fun Q9 => K_X12_of Q9 a0 a1 (2 : Int32)) (by omega) (by decide) (by decide) (Nat.le_of_ble_eq_true rfl) (fun x1 => ?_)
      refine tw_iconst (k := 22) (2 : Int32) rfl (by decide) ?_
      refine tw_aload_n (k := 23) rfl rfl ?_
      refine tw_iload_n (k := 24) rfl rfl ?_
      refine tw_iload_n (k := 25) rfl rfl ?_
      refine tw_callV (k := 26) (d' := 3) (mc' := 0) (ms' := 0) tw_cI tw_cIi [.int a1, .int a2] rfl rfl wv_RX12_243_X12_guessOf mo_X12_guessOf (t := 11) rfl rfl rfl (fun Q9 => K_X12_guessOf Q9 a0 a1 a2) (by omega) (by decide) (by decide) (Nat.le_of_ble_eq_true rfl) (fun x2 => ?_)
      refine tw_imul (k := 27) rfl ?_
      refine tw_isub (k := 28) rfl ?_
      refine tw_goto (k := 29) 51 rfl (by decide) ?_
      exact tw_ireturn (k := 31) rfl rfl (by decide) (by decide)
  · refine tw_aload_n (k := 3) rfl rfl ?_
    refine tw_iload_n (k := 4) rfl rfl ?_
    refine tw_iload_n (k := 5) rfl rfl ?_
    refine tw_callV (k := 6) (d' := 3) (mc' := 0) (ms' := 0) tw_cI tw_cIi [.int a1, .int a2] rfl rfl wv_RX12_243_X12_guessOf mo_X12_guessOf (t := 11) rfl rfl rfl (fun Q9 => K_X12_guessOf Q9 a0 a1 a2) (by omega) (by decide) (by decide) (Nat.le_of_ble_eq_true rfl) (fun x3 => ?_)
    refine tw_aload_n (k := 7) rfl rfl ?_
    refine tw_getR (k := 8) rfl fl_RX12_13 (fun x4 => ?_)
    refine tw_iconst (k := 9) (5 : Int32) rfl (by decide) ?_
    refine tw_iaload (k := 10) rfl (fun x5 => ?_)
    refine tw_icmp_lt (k := 11) 24 rfl (by decide) ?_ ?_
    · refine tw_iconst (k := 14) (0 : Int32) rfl (by decide) ?_
      exact tw_ireturn (k := 15) rfl rfl (by decide) (by decide)
    · refine tw_iconst (k := 12) (1 : Int32) rfl (by decide) ?_
      refine tw_goto (k := 13) 25 rfl (by decide) ?_
      exact tw_ireturn (k := 15) rfl rfl (by decide) (by decide)
def mX12_rests : tw_MD := (yX12_rests, cX12_rests, 7, (some FieldType.int), [(0, .aload_n 0, 1, 1), (1, .iload_n 1, 1, 2), (2, .iload_n 2, 1, 3), (3, .invokevirtual 306, 3, 6), (6, .ifCond .eq 5, 3, 9), (9, .iconst 0, 1, 10), (10, .ireturn, 1, 11), (11, .iconst 0, 1, 12), (12, .istore_n 3, 1, 13), (13, .iconst 0, 1, 14), (14, .istore 4, 2, 16), (16, .iload 4, 2, 18), (18, .iconst 2, 1, 19), (19, .if_icmp .ge 102, 3, 22), (22, .iconst 0, 1, 23), (23, .istore 5, 2, 25), (25, .iload 5, 2, 27), (27, .iconst 2, 1, 28), (28, .if_icmp .ge 87, 3, 31), (31, .aload_n 0, 1, 32), (32, .iload_n 1, 1, 33), (33, .iload_n 2, 1, 34), (34, .iload 4, 2, 36), (36, .iload 5, 2, 38), (38, .invokevirtual 427, 3, 41), (41, .aload_n 0, 1, 42), (42, .iload_n 1, 1, 43), (43, .iload_n 2, 1, 44), (44, .iconst 1, 1, 45), (45, .iload 4, 2, 47), (47, .isub, 1, 48), (48, .iload 5, 2, 50), (50, .invokevirtual 427, 3, 53), (53, .if_icmp .lt 32, 3, 56), (56, .aload_n 0, 1, 57), (57, .iload_n 2, 1, 58), (58, .iload_n 1, 1, 59), (59, .iload 5, 2, 61), (61, .iload 4, 2, 63), (63, .invokevirtual 427, 3, 66), (66, .aload_n 0, 1, 67), (67, .iload_n 2, 1, 68), (68, .iload_n 1, 1, 69), (69, .iconst 1, 1, 70), (70, .iload 5, 2, 72), (72, .isub, 1, 73), (73, .iload 4, 2, 75), (75, .invokevirtual 427, 3, 78), (78, .if_icmp .lt 7, 3, 81), (81, .iconst 1, 1, 82), (82, .goto 4, 3, 85), (85, .iconst 0, 1, 86), (86, .istore 6, 2, 88), (88, .iload_n 3, 1, 89), (89, .iload 6, 2, 91), (91, .ifCond .eq 15, 3, 94), (94, .iconst 1, 1, 95), (95, .iconst 2, 1, 96), (96, .iload 4, 2, 98), (98, .imul, 1, 99), (99, .iload 5, 2, 101), (101, .iadd, 1, 102), (102, .ishl, 1, 103), (103, .goto 4, 3, 106), (106, .iconst 0, 1, 107), (107, .ior, 1, 108), (108, .istore_n 3, 1, 109), (109, .iinc 5 1, 3, 112), (112, .goto (-87), 3, 115), (115, .iinc 4 1, 3, 118), (118, .goto (-102), 3, 121), (121, .iload_n 3, 1, 122), (122, .ireturn, 1, 123)], [])
theorem mo_X12_rests : tw_mok mX12_rests 2 := ⟨plainFor_of_name (by decide +kernel), by decide +kernel, by decide +kernel, by decide +kernel, by decide +kernel⟩
theorem dk_X12_rests : tw_dk mX12_rests := by unfold tw_dk; decide +kernel
theorem wv_RX12_427_X12_hasBy : tw_wV RX12 427 mX12_hasBy := ⟨List.mem_of_getElem? (i := 2423) (by decide +kernel), List.mem_of_getElem? (i := 2425) (by decide +kernel), List.mem_of_getElem? (i := 121) (by decide +kernel), List.mem_of_getElem? (i := 137) (by decide +kernel), List.mem_of_getElem? (i := 2426) (by decide +kernel)⟩
set_option maxRecDepth 20000 in
theorem K_X12_rests {g : tw_Gx} (Q : tw_Rs → tw_Mem → Prop) (a0 : Nat) (a1 : Int32) (a2 : Int32) : tw_Kt g mX12_rests 5 0 0 [.ref a0, .int a1, .int a2] Q (f_X12_rests a0 a1 a2 (fun v => Q (.inl (some (.int v))))) := by
  refine tw_mkK (L := [some (.ref a0), some (.int a1), some (.int a2), none, none, none, none]) mo_X12_rests dk_X12_rests rfl (Nat.le_of_ble_eq_true rfl) rfl ?_
  unfold f_X12_rests
  refine tw_aload_n (k := 0) rfl rfl ?_
  refine tw_iload_n (k := 1) rfl rfl ?_
  refine tw_iload_n (k := 2) rfl rfl ?_
  refine tw_callV (k := 3) (d' := 3) (mc' := 0) (ms' := 0) tw_cI tw_cIi [.int a1, .int a2] rfl rfl wv_RX12_306_X12_noTwo mo_X12_noTwo (t := 11) rfl rfl rfl (fun Q9 => K_X12_noTwo Q9 a0 a1 a2) (by omega) (by decide) (by decide) (Nat.le_of_ble_eq_true rfl) (fun x1 => ?_)
  refine tw_if_eq (k := 4) 11 rfl (by decide) ?_ ?_
  · refine tw_iconst (k := 7) (0 : Int32) rfl (by decide) ?_
    refine tw_ist_n (k := 8) [some (.ref a0), some (.int a1), some (.int a2), some (.int (0 : Int32)), none, none, none] rfl (Nat.le_of_ble_eq_true rfl) rfl rfl ?_
    refine tw_iconst (k := 9) (0 : Int32) rfl (by decide) ?_
    refine tw_ist (k := 10) [some (.ref a0), some (.int a1), some (.int a2), some (.int (0 : Int32)), some (.int (0 : Int32)), none, none] rfl (Nat.le_of_ble_eq_true rfl) rfl rfl ?_
    refine tw_loop (fun s3 => [some (.ref a0), some (.int a1), some (.int a2), some (.int s3.1), some (.int s3.2), none, none]) (fun s3 => []) (fun r2 h2 s3 => ?_) _ rfl rfl
    refine tw_iload (k := 11) rfl rfl ?_
    refine tw_iconst (k := 12) (2 : Int32) rfl (by decide) ?_
    refine tw_icmp_ge (k := 13) 121 rfl (by decide) ?_ ?_
    · refine tw_iload_n (k := 71) rfl rfl ?_
      exact tw_ireturn (k := 72) rfl rfl (by decide) (by decide)
    · refine tw_iconst (k := 14) (0 : Int32) rfl (by decide) ?_
      refine tw_ist (k := 15) [some (.ref a0), some (.int a1), some (.int a2), some (.int s3.1), some (.int s3.2), some (.int (0 : Int32)), none] rfl (Nat.le_of_ble_eq_true rfl) rfl rfl ?_
      refine tw_loop (fun s5 => [some (.ref a0), some (.int a1), some (.int a2), some (.int s5.1), some (.int s3.2), some (.int s5.2), none]) (fun s5 => []) (fun r4 h4 s5 => ?_) _ rfl rfl
      refine tw_iload (k := 16) rfl rfl ?_
      refine tw_iconst (k := 17) (2 : Int32) rfl (by decide) ?_
      refine tw_icmp_ge (k := 18) 115 rfl (by decide) ?_ ?_
      · refine tw_inc (k := 69) (1 : Int32) [some (.ref a0), some (.int a1), some (.int a2), some (.int s5.1), some (.int (s3.2 + (1 : Int32))), some (.int s5.2), none] rfl rfl (by decide) (Nat.le_of_ble_eq_true rfl) rfl rfl ?_
        refine tw_goto (k := 70) 16 rfl (by decide) ?_
        exact tw_wk (L' := [some (.ref a0), some (.int a1), some (.int a2), some (.int s5.1), some (.int (s3.2 + (1 : Int32))), none, none]) ⟨Or.inr rfl, Or.inr rfl, Or.inr rfl, Or.inr rfl, Or.inr rfl, Or.inl rfl, Or.inl rfl, trivial⟩ (h2 (s5.1, s3.2 + (1 : Int32)))
      · refine tw_aload_n (k := 19) rfl rfl ?_
        refine tw_iload_n (k := 20) rfl rfl ?_
        refine tw_iload_n (k := 21) rfl rfl ?_
        refine tw_iload (k := 22) rfl rfl ?_
        refine tw_iload (k := 23) rfl rfl ?_
        refine tw_callV (k := 24) (d' := 4) (mc' := 0) (ms' := 0) tw_cI tw_cIi [.int a1, .int a2, .int s3.2, .int s5.2] rfl rfl wv_RX12_427_X12_hasBy mo_X12_hasBy (t := 11) rfl rfl rfl (fun Q9 => K_X12_hasBy Q9 a0 a1 a2 s3.2 s5.2) (by omega) (by decide) (by decide) (Nat.le_of_ble_eq_true rfl) (fun x6 => ?_)
        refine tw_aload_n (k := 25) rfl rfl ?_
        refine tw_iload_n (k := 26) rfl rfl ?_
        refine tw_iload_n (k := 27) rfl rfl ?_
        refine tw_iconst (k := 28) (1 : Int32) rfl (by decide) ?_
        refine tw_iload (k := 29) rfl rfl ?_
        refine tw_isub (k := 30) rfl ?_
        refine tw_iload (k := 31) rfl rfl ?_
        refine tw_callV (k := 32) (d' := 4) (mc' := 0) (ms' := 0) tw_cI tw_cIi [.int a1, .int a2, .int ((1 : Int32) - s3.2), .int s5.2] rfl rfl wv_RX12_427_X12_hasBy mo_X12_hasBy (t := 11) rfl rfl rfl (fun Q9 => K_X12_hasBy Q9 a0 a1 a2 ((1 : Int32) - s3.2) s5.2) (by omega) (by decide) (by decide) (Nat.le_of_ble_eq_true rfl) (fun x7 => ?_)
        refine tw_join 86 (fun s9 => [some (.ref a0), some (.int a1), some (.int a2), some (.int s5.1), some (.int s3.2), some (.int s5.2), none]) (fun s9 => .int s9 :: []) 0 0 (fun s9 => ?_) (fun j8 g8 => ?_)
        · refine tw_ist (k := 52) [some (.ref a0), some (.int a1), some (.int a2), some (.int s5.1), some (.int s3.2), some (.int s5.2), some (.int s9)] rfl (Nat.le_of_ble_eq_true rfl) rfl rfl ?_
          refine tw_iload_n (k := 53) rfl rfl ?_
          refine tw_iload (k := 54) rfl rfl ?_
          refine tw_join 107 (fun s11 => [some (.ref a0), some (.int a1), some (.int a2), some (.int s5.1), some (.int s3.2), some (.int s5.2), some (.int s9)]) (fun s11 => .int s11 :: .int s5.1 :: []) 0 0 (fun s11 => ?_) (fun j10 g10 => ?_)
          · refine tw_ior (k := 65) rfl ?_
            refine tw_let (fun x12 => [some (.ref a0), some (.int a1), some (.int a2), some (.int s5.1), some (.int s3.2), some (.int s5.2), some (.int s9)]) (fun x12 => .int x12 :: []) rfl rfl (fun x12 => ?_)
            refine tw_ist_n (k := 66) [some (.ref a0), some (.int a1), some (.int a2), some (.int x12), some (.int s3.2), some (.int s5.2), some (.int s9)] rfl (Nat.le_of_ble_eq_true rfl) rfl rfl ?_
            refine tw_inc (k := 67) (1 : Int32) [some (.ref a0), some (.int a1), some (.int a2), some (.int x12), some (.int s3.2), some (.int (s5.2 + (1 : Int32))), some (.int s9)] rfl rfl (by decide) (Nat.le_of_ble_eq_true rfl) rfl rfl ?_
            refine tw_goto (k := 68) 25 rfl (by decide) ?_
            exact tw_wk (L' := [some (.ref a0), some (.int a1), some (.int a2), some (.int x12), some (.int s3.2), some (.int (s5.2 + (1 : Int32))), none]) ⟨Or.inr rfl, Or.inr rfl, Or.inr rfl, Or.inr rfl, Or.inr rfl, Or.inr rfl, Or.inl rfl, trivial⟩ (h4 (x12, s5.2 + (1 : Int32)))
          · refine tw_if_eq (k := 55) 106 rfl (by decide) ?_ ?_
            · refine tw_iconst (k := 64) (0 : Int32) rfl (by decide) ?_
              exact g10 (0 : Int32)
            · refine tw_iconst (k := 56) (1 : Int32) rfl (by decide) ?_
              refine tw_iconst (k := 57) (2 : Int32) rfl (by decide) ?_
              refine tw_iload (k := 58) rfl rfl ?_
              refine tw_imul (k := 59) rfl ?_
              refine tw_iload (k := 60) rfl rfl ?_
              refine tw_iadd (k := 61) rfl ?_
              refine tw_ishl (k := 62) rfl ?_
              refine tw_goto (k := 63) 107 rfl (by decide) ?_
              exact g10 ((1 : Int32) <<< ((((2 : Int32) * s3.2) + s5.2) &&& 31))
        · refine tw_join 85 (fun s14 => [some (.ref a0), some (.int a1), some (.int a2), some (.int s5.1), some (.int s3.2), some (.int s5.2), none]) (fun s14 => []) 0 0 (fun s14 => ?_) (fun j13 g13 => ?_)
          · refine tw_iconst (k := 51) (0 : Int32) rfl (by decide) ?_
            exact g8 (0 : Int32)
          · refine tw_icmp_lt (k := 33) 85 rfl (by decide) ?_ ?_
            · exact g13 ()
            · refine tw_aload_n (k := 34) rfl rfl ?_
              refine tw_iload_n (k := 35) rfl rfl ?_
              refine tw_iload_n (k := 36) rfl rfl ?_
              refine tw_iload (k := 37) rfl rfl ?_
              refine tw_iload (k := 38) rfl rfl ?_
              refine tw_callV (k := 39) (d' := 4) (mc' := 0) (ms' := 0) tw_cI tw_cIi [.int a2, .int a1, .int s5.2, .int s3.2] rfl rfl wv_RX12_427_X12_hasBy mo_X12_hasBy (t := 11) rfl rfl rfl (fun Q9 => K_X12_hasBy Q9 a0 a2 a1 s5.2 s3.2) (by omega) (by decide) (by decide) (Nat.le_of_ble_eq_true rfl) (fun x15 => ?_)
              refine tw_aload_n (k := 40) rfl rfl ?_
              refine tw_iload_n (k := 41) rfl rfl ?_
              refine tw_iload_n (k := 42) rfl rfl ?_
              refine tw_iconst (k := 43) (1 : Int32) rfl (by decide) ?_
              refine tw_iload (k := 44) rfl rfl ?_
              refine tw_isub (k := 45) rfl ?_
              refine tw_iload (k := 46) rfl rfl ?_
              refine tw_callV (k := 47) (d' := 4) (mc' := 0) (ms' := 0) tw_cI tw_cIi [.int a2, .int a1, .int ((1 : Int32) - s5.2), .int s3.2] rfl rfl wv_RX12_427_X12_hasBy mo_X12_hasBy (t := 11) rfl rfl rfl (fun Q9 => K_X12_hasBy Q9 a0 a2 a1 ((1 : Int32) - s5.2) s3.2) (by omega) (by decide) (by decide) (Nat.le_of_ble_eq_true rfl) (fun x16 => ?_)
              refine tw_icmp_lt (k := 48) 85 rfl (by decide) ?_ ?_
              · exact g13 ()
              · refine tw_iconst (k := 49) (1 : Int32) rfl (by decide) ?_
                refine tw_goto (k := 50) 86 rfl (by decide) ?_
                exact g8 (1 : Int32)
  · refine tw_iconst (k := 5) (0 : Int32) rfl (by decide) ?_
    exact tw_ireturn (k := 6) rfl rfl (by decide) (by decide)
def mX12_pairsThatKnow : tw_MD := (yX12_pairsThatKnow, cX12_pairsThatKnow, 4, (some FieldType.int), [(0, .iconst 0, 1, 1), (1, .istore_n 1, 1, 2), (2, .iconst 0, 1, 3), (3, .istore_n 2, 1, 4), (4, .iload_n 2, 1, 5), (5, .aload_n 0, 1, 6), (6, .invokevirtual 62, 3, 9), (9, .if_icmp .ge 39, 3, 12), (12, .iconst 0, 1, 13), (13, .istore_n 3, 1, 14), (14, .iload_n 3, 1, 15), (15, .iload_n 2, 1, 16), (16, .if_icmp .ge 26, 3, 19), (19, .iload_n 1, 1, 20), (20, .aload_n 0, 1, 21), (21, .iload_n 2, 1, 22), (22, .iload_n 3, 1, 23), (23, .invokevirtual 370, 3, 26), (26, .ifCond .eq 7, 3, 29), (29, .iconst 1, 1, 30), (30, .goto 4, 3, 33), (33, .iconst 0, 1, 34), (34, .iadd, 1, 35), (35, .istore_n 1, 1, 36), (36, .iinc 3 1, 3, 39), (39, .goto (-25), 3, 42), (42, .iinc 2 1, 3, 45), (45, .goto (-41), 3, 48), (48, .iload_n 1, 1, 49), (49, .ireturn, 1, 50)], [])
theorem mo_X12_pairsThatKnow : tw_mok mX12_pairsThatKnow 0 := ⟨plainFor_of_name (by decide +kernel), by decide +kernel, by decide +kernel, by decide +kernel, by decide +kernel⟩
theorem dk_X12_pairsThatKnow : tw_dk mX12_pairsThatKnow := by unfold tw_dk; decide +kernel
set_option maxRecDepth 20000 in
theorem K_X12_pairsThatKnow {g : tw_Gx} (Q : tw_Rs → tw_Mem → Prop) (a0 : Nat) : tw_Kt g mX12_pairsThatKnow 5 0 0 [.ref a0] Q (f_X12_pairsThatKnow a0 (fun v => Q (.inl (some (.int v))))) := by
  refine tw_mkK (L := [some (.ref a0), none, none, none]) mo_X12_pairsThatKnow dk_X12_pairsThatKnow rfl (Nat.le_of_ble_eq_true rfl) rfl ?_
  unfold f_X12_pairsThatKnow
  refine tw_iconst (k := 0) (0 : Int32) rfl (by decide) ?_
  refine tw_ist_n (k := 1) [some (.ref a0), some (.int (0 : Int32)), none, none] rfl (Nat.le_of_ble_eq_true rfl) rfl rfl ?_
  refine tw_iconst (k := 2) (0 : Int32) rfl (by decide) ?_
  refine tw_ist_n (k := 3) [some (.ref a0), some (.int (0 : Int32)), some (.int (0 : Int32)), none] rfl (Nat.le_of_ble_eq_true rfl) rfl rfl ?_
  refine tw_loop (fun s2 => [some (.ref a0), some (.int s2.1), some (.int s2.2), none]) (fun s2 => []) (fun r1 h1 s2 => ?_) _ rfl rfl
  refine tw_iload_n (k := 4) rfl rfl ?_
  refine tw_aload_n (k := 5) rfl rfl ?_
  refine tw_callV (k := 6) (d' := 1) (mc' := 0) (ms' := 0) tw_cI tw_cIi [] rfl rfl wv_RX12_62_X12_people mo_X12_people (t := 11) rfl rfl rfl (fun Q9 => K_X12_people Q9 a0) (by omega) (by decide) (by decide) (Nat.le_of_ble_eq_true rfl) (fun x3 => ?_)
  refine tw_icmp_ge (k := 7) 48 rfl (by decide) ?_ ?_
  · refine tw_iload_n (k := 28) rfl rfl ?_
    exact tw_ireturn (k := 29) rfl rfl (by decide) (by decide)
  · refine tw_iconst (k := 8) (0 : Int32) rfl (by decide) ?_
    refine tw_ist_n (k := 9) [some (.ref a0), some (.int s2.1), some (.int s2.2), some (.int (0 : Int32))] rfl (Nat.le_of_ble_eq_true rfl) rfl rfl ?_
    refine tw_loop (fun s5 => [some (.ref a0), some (.int s5.1), some (.int s2.2), some (.int s5.2)]) (fun s5 => []) (fun r4 h4 s5 => ?_) _ rfl rfl
    refine tw_iload_n (k := 10) rfl rfl ?_
    refine tw_iload_n (k := 11) rfl rfl ?_
    refine tw_icmp_ge (k := 12) 42 rfl (by decide) ?_ ?_
    · refine tw_inc (k := 26) (1 : Int32) [some (.ref a0), some (.int s5.1), some (.int (s2.2 + (1 : Int32))), some (.int s5.2)] rfl rfl (by decide) (Nat.le_of_ble_eq_true rfl) rfl rfl ?_
      refine tw_goto (k := 27) 4 rfl (by decide) ?_
      exact tw_wk (L' := [some (.ref a0), some (.int s5.1), some (.int (s2.2 + (1 : Int32))), none]) ⟨Or.inr rfl, Or.inr rfl, Or.inr rfl, Or.inl rfl, trivial⟩ (h1 (s5.1, s2.2 + (1 : Int32)))
    · refine tw_iload_n (k := 13) rfl rfl ?_
      refine tw_aload_n (k := 14) rfl rfl ?_
      refine tw_iload_n (k := 15) rfl rfl ?_
      refine tw_iload_n (k := 16) rfl rfl ?_
      refine tw_callV (k := 17) (d' := 4) (mc' := 0) (ms' := 0) tw_cI tw_cIi [.int s2.2, .int s5.2] rfl rfl wv_RX12_370_X12_knowOf mo_X12_knowOf (t := 11) rfl rfl rfl (fun Q9 => K_X12_knowOf Q9 a0 s2.2 s5.2) (by omega) (by decide) (by decide) (Nat.le_of_ble_eq_true rfl) (fun x6 => ?_)
      refine tw_join 34 (fun s8 => [some (.ref a0), some (.int s5.1), some (.int s2.2), some (.int s5.2)]) (fun s8 => .int s8 :: .int s5.1 :: []) 0 0 (fun s8 => ?_) (fun j7 g7 => ?_)
      · refine tw_iadd (k := 22) rfl ?_
        refine tw_let (fun x9 => [some (.ref a0), some (.int s5.1), some (.int s2.2), some (.int s5.2)]) (fun x9 => .int x9 :: []) rfl rfl (fun x9 => ?_)
        refine tw_ist_n (k := 23) [some (.ref a0), some (.int x9), some (.int s2.2), some (.int s5.2)] rfl (Nat.le_of_ble_eq_true rfl) rfl rfl ?_
        refine tw_inc (k := 24) (1 : Int32) [some (.ref a0), some (.int x9), some (.int s2.2), some (.int (s5.2 + (1 : Int32)))] rfl rfl (by decide) (Nat.le_of_ble_eq_true rfl) rfl rfl ?_
        refine tw_goto (k := 25) 14 rfl (by decide) ?_
        exact h4 (x9, s5.2 + (1 : Int32))
      · refine tw_if_eq (k := 18) 33 rfl (by decide) ?_ ?_
        · refine tw_iconst (k := 21) (0 : Int32) rfl (by decide) ?_
          exact g7 (0 : Int32)
        · refine tw_iconst (k := 19) (1 : Int32) rfl (by decide) ?_
          refine tw_goto (k := 20) 34 rfl (by decide) ?_
          exact g7 (1 : Int32)
def mX12_trial : tw_MD := (yX12_trial, cX12_trial, 5, (some FieldType.int), [(0, .aload_n 0, 1, 1), (1, .iconst 0, 1, 2), (2, .putfield 3, 3, 5), (5, .aload_n 0, 1, 6), (6, .iload_n 1, 1, 7), (7, .invokestatic 361, 3, 10), (10, .iconst 1, 1, 11), (11, .invokevirtual 240, 3, 14), (14, .ifCond .eq 5, 3, 17), (17, .iconst 0, 1, 18), (18, .ireturn, 1, 19), (19, .aload_n 0, 1, 20), (20, .invokevirtual 364, 3, 23), (23, .aload_n 0, 1, 24), (24, .iload_n 1, 1, 25), (25, .iconst 0, 1, 26), (26, .invokevirtual 357, 3, 29), (29, .istore_n 3, 1, 30), (30, .iload_n 2, 1, 31), (31, .ifCond .eq 7, 3, 34), (34, .iload_n 3, 1, 35), (35, .goto 7, 3, 38), (38, .aload_n 0, 1, 39), (39, .invokevirtual 430, 3, 42), (42, .istore 4, 2, 44), (44, .aload_n 0, 1, 45), (45, .invokevirtual 367, 3, 48), (48, .iload 4, 2, 50), (50, .ireturn, 1, 51)], [])
theorem mo_X12_trial : tw_mok mX12_trial 2 := ⟨plainFor_of_name (by decide +kernel), by decide +kernel, by decide +kernel, by decide +kernel, by decide +kernel⟩
theorem dk_X12_trial : tw_dk mX12_trial := by unfold tw_dk; decide +kernel
theorem wv_RX12_430_X12_pairsThatKnow : tw_wV RX12 430 mX12_pairsThatKnow := ⟨List.mem_of_getElem? (i := 2431) (by decide +kernel), List.mem_of_getElem? (i := 2433) (by decide +kernel), List.mem_of_getElem? (i := 122) (by decide +kernel), List.mem_of_getElem? (i := 137) (by decide +kernel), List.mem_of_getElem? (i := 2434) (by decide +kernel)⟩
theorem wf_X12_trial_3 : tw_wf mX12_trial 3 70 := Or.inl rfl
set_option maxRecDepth 20000 in
theorem K_X12_trial {g : tw_Gx} (Q : tw_Rs → tw_Mem → Prop) (a0 : Nat) (a1 : Int32) (a2 : Int32) : tw_Kt g mX12_trial 13 0 0 [.ref a0, .int a1, .int a2] Q (f_X12_trial a0 a1 a2 (fun v => Q (.inl (some (.int v))))) := by
  refine tw_mkK (L := [some (.ref a0), some (.int a1), some (.int a2), none, none]) mo_X12_trial dk_X12_trial rfl (Nat.le_of_ble_eq_true rfl) rfl ?_
  unfold f_X12_trial
  refine tw_aload_n (k := 0) rfl rfl ?_
  refine tw_iconst (k := 1) (0 : Int32) rfl (by decide) ?_
  refine tw_putI (k := 2) rfl fl_RX12_3 wf_X12_trial_3 (by decide +kernel) ?_
  refine tw_aload_n (k := 3) rfl rfl ?_
  refine tw_iload_n (k := 4) rfl rfl ?_
  refine tw_callS (k := 5) (d' := 2) (mc' := 0) (ms' := 0) tw_cI tw_cIi [.int a1] rfl rfl ws_RX12_361_X12_noAhead mo_X12_noAhead rfl (fun Q9 => K_X12_noAhead Q9 a1) (by omega) (by decide) (by decide) (Nat.le_of_ble_eq_true rfl) (fun x1 => ?_)
  refine tw_iconst (k := 6) (1 : Int32) rfl (by decide) ?_
  refine tw_callV (k := 7) (d' := 1) (mc' := 0) (ms' := 0) tw_cI tw_cIi [.int x1, .int (1 : Int32)] rfl rfl wv_RX12_240_X12_throwsIf mo_X12_throwsIf (t := 11) rfl rfl rfl (fun Q9 => K_X12_throwsIf Q9 a0 x1 (1 : Int32)) (by omega) (by decide) (by decide) (Nat.le_of_ble_eq_true rfl) (fun x2 => ?_)
  refine tw_if_eq (k := 8) 19 rfl (by decide) ?_ ?_
  · refine tw_aload_n (k := 11) rfl rfl ?_
    refine tw_callV (k := 12) (d' := 1) (mc' := 0) (ms' := 0) tw_cU tw_cUi [] rfl rfl wv_RX12_364_X12_keepsAll mo_X12_keepsAll (t := 11) rfl rfl rfl (fun Q9 => K_X12_keepsAll Q9 a0) (by omega) (by decide) (by decide) (Nat.le_of_ble_eq_true rfl) (fun u3 => ?_)
    refine tw_aload_n (k := 13) rfl rfl ?_
    refine tw_iload_n (k := 14) rfl rfl ?_
    refine tw_iconst (k := 15) (0 : Int32) rfl (by decide) ?_
    refine tw_callV (k := 16) (d' := 12) (mc' := 0) (ms' := 0) tw_cI tw_cIi [.int a1, .int (0 : Int32)] rfl rfl wv_RX12_357_X12_goesOn mo_X12_goesOn (t := 11) rfl rfl rfl (fun Q9 => K_X12_goesOn Q9 a0 a1 (0 : Int32)) (by omega) (by decide) (by decide) (Nat.le_of_ble_eq_true rfl) (fun x4 => ?_)
    refine tw_ist_n (k := 17) [some (.ref a0), some (.int a1), some (.int a2), some (.int x4), none] rfl (Nat.le_of_ble_eq_true rfl) rfl rfl ?_
    refine tw_iload_n (k := 18) rfl rfl ?_
    refine tw_join 42 (fun s6 => [some (.ref a0), some (.int a1), some (.int a2), some (.int x4), none]) (fun s6 => .int s6 :: []) 0 0 (fun s6 => ?_) (fun j5 g5 => ?_)
    · refine tw_ist (k := 24) [some (.ref a0), some (.int a1), some (.int a2), some (.int x4), some (.int s6)] rfl (Nat.le_of_ble_eq_true rfl) rfl rfl ?_
      refine tw_aload_n (k := 25) rfl rfl ?_
      refine tw_callV (k := 26) (d' := 1) (mc' := 0) (ms' := 0) tw_cU tw_cUi [] rfl rfl wv_RX12_367_X12_bringsBack mo_X12_bringsBack (t := 11) rfl rfl rfl (fun Q9 => K_X12_bringsBack Q9 a0) (by omega) (by decide) (by decide) (Nat.le_of_ble_eq_true rfl) (fun u7 => ?_)
      refine tw_iload (k := 27) rfl rfl ?_
      exact tw_ireturn (k := 28) rfl rfl (by decide) (by decide)
    · refine tw_if_eq (k := 19) 38 rfl (by decide) ?_ ?_
      · refine tw_aload_n (k := 22) rfl rfl ?_
        refine tw_callV (k := 23) (d' := 5) (mc' := 0) (ms' := 0) tw_cI tw_cIi [] rfl rfl wv_RX12_430_X12_pairsThatKnow mo_X12_pairsThatKnow (t := 11) rfl rfl rfl (fun Q9 => K_X12_pairsThatKnow Q9 a0) (by omega) (by decide) (by decide) (Nat.le_of_ble_eq_true rfl) (fun x8 => ?_)
        exact g5 x8
      · refine tw_iload_n (k := 20) rfl rfl ?_
        refine tw_goto (k := 21) 42 rfl (by decide) ?_
        exact g5 x4
  · refine tw_iconst (k := 9) (0 : Int32) rfl (by decide) ?_
    exact tw_ireturn (k := 10) rfl rfl (by decide) (by decide)
def mX12_span : tw_MD := (yX12_span, cX12_span, 6, (some FieldType.int), [(0, .aload_n 0, 1, 1), (1, .iconst 0, 1, 2), (2, .putfield 3, 3, 5), (5, .aload_n 0, 1, 6), (6, .iload_n 1, 1, 7), (7, .invokestatic 361, 3, 10), (10, .iconst 1, 1, 11), (11, .invokevirtual 240, 3, 14), (14, .ifCond .eq 5, 3, 17), (17, .iconst 0, 1, 18), (18, .ireturn, 1, 19), (19, .aload_n 0, 1, 20), (20, .invokevirtual 364, 3, 23), (23, .iconst (-1), 1, 24), (24, .istore_n 3, 1, 25), (25, .iconst 1, 1, 26), (26, .istore 4, 2, 28), (28, .iload 4, 2, 30), (30, .bipush 6, 2, 32), (32, .if_icmp .gt 64, 3, 35), (35, .aload_n 0, 1, 36), (36, .getfield 13, 3, 39), (39, .bipush 7, 2, 41), (41, .iload 4, 2, 43), (43, .iastore, 1, 44), (44, .aload_n 0, 1, 45), (45, .iload_n 1, 1, 46), (46, .iconst 0, 1, 47), (47, .invokevirtual 357, 3, 50), (50, .pop, 1, 51), (51, .aload_n 0, 1, 52), (52, .invokevirtual 430, 3, 55), (55, .istore 5, 2, 57), (57, .aload_n 0, 1, 58), (58, .invokevirtual 367, 3, 61), (61, .iload_n 3, 1, 62), (62, .ifCond .ge 8, 3, 65), (65, .iload 5, 2, 67), (67, .goto 22, 3, 70), (70, .iload_n 2, 1, 71), (71, .ifCond .eq 12, 3, 74), (74, .iload_n 3, 1, 75), (75, .iload 5, 2, 77), (77, .invokestatic 258, 3, 80), (80, .goto 9, 3, 83), (83, .iload_n 3, 1, 84), (84, .iload 5, 2, 86), (86, .invokestatic 273, 3, 89), (89, .istore_n 3, 1, 90), (90, .iinc 4 1, 3, 93), (93, .goto (-65), 3, 96), (96, .iload_n 3, 1, 97), (97, .ireturn, 1, 98)], [])
theorem mo_X12_span : tw_mok mX12_span 2 := ⟨plainFor_of_name (by decide +kernel), by decide +kernel, by decide +kernel, by decide +kernel, by decide +kernel⟩
theorem dk_X12_span : tw_dk mX12_span := by unfold tw_dk; decide +kernel
theorem wf_X12_span_3 : tw_wf mX12_span 3 70 := Or.inl rfl
set_option maxRecDepth 20000 in
theorem K_X12_span {g : tw_Gx} (Q : tw_Rs → tw_Mem → Prop) (a0 : Nat) (a1 : Int32) (a2 : Int32) : tw_Kt g mX12_span 13 0 0 [.ref a0, .int a1, .int a2] Q (f_X12_span a0 a1 a2 (fun v => Q (.inl (some (.int v))))) := by
  refine tw_mkK (L := [some (.ref a0), some (.int a1), some (.int a2), none, none, none]) mo_X12_span dk_X12_span rfl (Nat.le_of_ble_eq_true rfl) rfl ?_
  unfold f_X12_span
  refine tw_aload_n (k := 0) rfl rfl ?_
  refine tw_iconst (k := 1) (0 : Int32) rfl (by decide) ?_
  refine tw_putI (k := 2) rfl fl_RX12_3 wf_X12_span_3 (by decide +kernel) ?_
  refine tw_aload_n (k := 3) rfl rfl ?_
  refine tw_iload_n (k := 4) rfl rfl ?_
  refine tw_callS (k := 5) (d' := 2) (mc' := 0) (ms' := 0) tw_cI tw_cIi [.int a1] rfl rfl ws_RX12_361_X12_noAhead mo_X12_noAhead rfl (fun Q9 => K_X12_noAhead Q9 a1) (by omega) (by decide) (by decide) (Nat.le_of_ble_eq_true rfl) (fun x1 => ?_)
  refine tw_iconst (k := 6) (1 : Int32) rfl (by decide) ?_
  refine tw_callV (k := 7) (d' := 1) (mc' := 0) (ms' := 0) tw_cI tw_cIi [.int x1, .int (1 : Int32)] rfl rfl wv_RX12_240_X12_throwsIf mo_X12_throwsIf (t := 11) rfl rfl rfl (fun Q9 => K_X12_throwsIf Q9 a0 x1 (1 : Int32)) (by omega) (by decide) (by decide) (Nat.le_of_ble_eq_true rfl) (fun x2 => ?_)
  refine tw_if_eq (k := 8) 19 rfl (by decide) ?_ ?_
  · refine tw_aload_n (k := 11) rfl rfl ?_
    refine tw_callV (k := 12) (d' := 1) (mc' := 0) (ms' := 0) tw_cU tw_cUi [] rfl rfl wv_RX12_364_X12_keepsAll mo_X12_keepsAll (t := 11) rfl rfl rfl (fun Q9 => K_X12_keepsAll Q9 a0) (by omega) (by decide) (by decide) (Nat.le_of_ble_eq_true rfl) (fun u3 => ?_)
    refine tw_iconst (k := 13) (-1 : Int32) rfl (by decide) ?_
    refine tw_ist_n (k := 14) [some (.ref a0), some (.int a1), some (.int a2), some (.int (-1 : Int32)), none, none] rfl (Nat.le_of_ble_eq_true rfl) rfl rfl ?_
    refine tw_iconst (k := 15) (1 : Int32) rfl (by decide) ?_
    refine tw_ist (k := 16) [some (.ref a0), some (.int a1), some (.int a2), some (.int (-1 : Int32)), some (.int (1 : Int32)), none] rfl (Nat.le_of_ble_eq_true rfl) rfl rfl ?_
    refine tw_loop (fun s5 => [some (.ref a0), some (.int a1), some (.int a2), some (.int s5.1), some (.int s5.2), none]) (fun s5 => []) (fun r4 h4 s5 => ?_) _ rfl rfl
    refine tw_iload (k := 17) rfl rfl ?_
    refine tw_bipush (k := 18) (6 : Int32) rfl (by decide) ?_
    refine tw_icmp_gt (k := 19) 96 rfl (by decide) ?_ ?_
    · refine tw_iload_n (k := 51) rfl rfl ?_
      exact tw_ireturn (k := 52) rfl rfl (by decide) (by decide)
    · refine tw_aload_n (k := 20) rfl rfl ?_
      refine tw_getR (k := 21) rfl fl_RX12_13 (fun x6 => ?_)
      refine tw_bipush (k := 22) (7 : Int32) rfl (by decide) ?_
      refine tw_iload (k := 23) rfl rfl ?_
      refine tw_iastore (k := 24) rfl ?_
      refine tw_aload_n (k := 25) rfl rfl ?_
      refine tw_iload_n (k := 26) rfl rfl ?_
      refine tw_iconst (k := 27) (0 : Int32) rfl (by decide) ?_
      refine tw_callV (k := 28) (d' := 12) (mc' := 0) (ms' := 0) tw_cI tw_cIi [.int a1, .int (0 : Int32)] rfl rfl wv_RX12_357_X12_goesOn mo_X12_goesOn (t := 11) rfl rfl rfl (fun Q9 => K_X12_goesOn Q9 a0 a1 (0 : Int32)) (by omega) (by decide) (by decide) (Nat.le_of_ble_eq_true rfl) (fun x7 => ?_)
      refine tw_pop (k := 29) rfl rfl ?_
      refine tw_aload_n (k := 30) rfl rfl ?_
      refine tw_callV (k := 31) (d' := 5) (mc' := 0) (ms' := 0) tw_cI tw_cIi [] rfl rfl wv_RX12_430_X12_pairsThatKnow mo_X12_pairsThatKnow (t := 11) rfl rfl rfl (fun Q9 => K_X12_pairsThatKnow Q9 a0) (by omega) (by decide) (by decide) (Nat.le_of_ble_eq_true rfl) (fun x8 => ?_)
      refine tw_ist (k := 32) [some (.ref a0), some (.int a1), some (.int a2), some (.int s5.1), some (.int s5.2), some (.int x8)] rfl (Nat.le_of_ble_eq_true rfl) rfl rfl ?_
      refine tw_aload_n (k := 33) rfl rfl ?_
      refine tw_callV (k := 34) (d' := 1) (mc' := 0) (ms' := 0) tw_cU tw_cUi [] rfl rfl wv_RX12_367_X12_bringsBack mo_X12_bringsBack (t := 11) rfl rfl rfl (fun Q9 => K_X12_bringsBack Q9 a0) (by omega) (by decide) (by decide) (Nat.le_of_ble_eq_true rfl) (fun u9 => ?_)
      refine tw_iload_n (k := 35) rfl rfl ?_
      refine tw_join 89 (fun s11 => [some (.ref a0), some (.int a1), some (.int a2), some (.int s5.1), some (.int s5.2), some (.int x8)]) (fun s11 => .int s11 :: []) 0 0 (fun s11 => ?_) (fun j10 g10 => ?_)
      · refine tw_ist_n (k := 48) [some (.ref a0), some (.int a1), some (.int a2), some (.int s11), some (.int s5.2), some (.int x8)] rfl (Nat.le_of_ble_eq_true rfl) rfl rfl ?_
        refine tw_inc (k := 49) (1 : Int32) [some (.ref a0), some (.int a1), some (.int a2), some (.int s11), some (.int (s5.2 + (1 : Int32))), some (.int x8)] rfl rfl (by decide) (Nat.le_of_ble_eq_true rfl) rfl rfl ?_
        refine tw_goto (k := 50) 28 rfl (by decide) ?_
        exact tw_wk (L' := [some (.ref a0), some (.int a1), some (.int a2), some (.int s11), some (.int (s5.2 + (1 : Int32))), none]) ⟨Or.inr rfl, Or.inr rfl, Or.inr rfl, Or.inr rfl, Or.inr rfl, Or.inl rfl, trivial⟩ (h4 (s11, s5.2 + (1 : Int32)))
      · refine tw_if_ge (k := 36) 70 rfl (by decide) ?_ ?_
        · refine tw_iload_n (k := 39) rfl rfl ?_
          refine tw_if_eq (k := 40) 83 rfl (by decide) ?_ ?_
          · refine tw_iload_n (k := 45) rfl rfl ?_
            refine tw_iload (k := 46) rfl rfl ?_
            refine tw_callS (k := 47) (d' := 1) (mc' := 0) (ms' := 0) tw_cI tw_cIi [.int s5.1, .int x8] rfl rfl ws_RX12_273_J9_min_7cf53 mo_J9_min_7cf53 rfl (fun Q9 => K_J9_min_7cf53 Q9 s5.1 x8) (by omega) (by decide) (by decide) (Nat.le_of_ble_eq_true rfl) (fun x12 => ?_)
            exact g10 x12
          · refine tw_iload_n (k := 41) rfl rfl ?_
            refine tw_iload (k := 42) rfl rfl ?_
            refine tw_callS (k := 43) (d' := 1) (mc' := 0) (ms' := 0) tw_cI tw_cIi [.int s5.1, .int x8] rfl rfl ws_RX12_258_J9_max_7cf53 mo_J9_max_7cf53 rfl (fun Q9 => K_J9_max_7cf53 Q9 s5.1 x8) (by omega) (by decide) (by decide) (Nat.le_of_ble_eq_true rfl) (fun x13 => ?_)
            refine tw_goto (k := 44) 89 rfl (by decide) ?_
            exact g10 x13
        · refine tw_iload (k := 37) rfl rfl ?_
          refine tw_goto (k := 38) 89 rfl (by decide) ?_
          exact g10 x8
  · refine tw_iconst (k := 9) (0 : Int32) rfl (by decide) ?_
    exact tw_ireturn (k := 10) rfl rfl (by decide) (by decide)
def mX12_led : tw_MD := (yX12_led, cX12_led, 6, (some FieldType.int), [(0, .aload_n 0, 1, 1), (1, .iconst 0, 1, 2), (2, .putfield 3, 3, 5), (5, .aload_n 0, 1, 6), (6, .aload_n 0, 1, 7), (7, .iload_n 1, 1, 8), (8, .invokevirtual 288, 3, 11), (11, .iconst 1, 1, 12), (12, .invokevirtual 240, 3, 15), (15, .ifCond .eq 5, 3, 18), (18, .iconst 0, 1, 19), (19, .ireturn, 1, 20), (20, .iconst 0, 1, 21), (21, .istore_n 3, 1, 22), (22, .iconst (-1), 1, 23), (23, .istore 4, 2, 25), (25, .aload_n 0, 1, 26), (26, .getfield 13, 3, 29), (29, .bipush 6, 2, 31), (31, .iaload, 1, 32), (32, .iconst 1, 1, 33), (33, .isub, 1, 34), (34, .istore 5, 2, 36), (36, .iload 5, 2, 38), (38, .ifCond .lt 46, 3, 41), (41, .aload_n 0, 1, 42), (42, .iload 5, 2, 44), (44, .iconst 2, 1, 45), (45, .invokevirtual 285, 3, 48), (48, .iload_n 1, 1, 49), (49, .if_icmp .eq 17, 3, 52), (52, .aload_n 0, 1, 53), (53, .iload 5, 2, 55), (55, .iconst 3, 1, 56), (56, .invokevirtual 285, 3, 59), (59, .iload_n 1, 1, 60), (60, .if_icmp .eq 6, 3, 63), (63, .goto 15, 3, 66), (66, .iinc 3 1, 3, 69), (69, .aload_n 0, 1, 70), (70, .iload 5, 2, 72), (72, .iconst 0, 1, 73), (73, .invokevirtual 285, 3, 76), (76, .istore 4, 2, 78), (78, .iinc 5 (-1), 3, 81), (81, .goto (-45), 3, 84), (84, .iload_n 2, 1, 85), (85, .ifCond .eq 8, 3, 88), (88, .iload 4, 2, 90), (90, .goto 4, 3, 93), (93, .iload_n 3, 1, 94), (94, .ireturn, 1, 95)], [])
theorem mo_X12_led : tw_mok mX12_led 2 := ⟨plainFor_of_name (by decide +kernel), by decide +kernel, by decide +kernel, by decide +kernel, by decide +kernel⟩
theorem dk_X12_led : tw_dk mX12_led := by unfold tw_dk; decide +kernel
theorem wf_X12_led_3 : tw_wf mX12_led 3 70 := Or.inl rfl
set_option maxRecDepth 20000 in
theorem K_X12_led {g : tw_Gx} (Q : tw_Rs → tw_Mem → Prop) (a0 : Nat) (a1 : Int32) (a2 : Int32) : tw_Kt g mX12_led 3 0 0 [.ref a0, .int a1, .int a2] Q (f_X12_led a0 a1 a2 (fun v => Q (.inl (some (.int v))))) := by
  refine tw_mkK (L := [some (.ref a0), some (.int a1), some (.int a2), none, none, none]) mo_X12_led dk_X12_led rfl (Nat.le_of_ble_eq_true rfl) rfl ?_
  unfold f_X12_led
  refine tw_aload_n (k := 0) rfl rfl ?_
  refine tw_iconst (k := 1) (0 : Int32) rfl (by decide) ?_
  refine tw_putI (k := 2) rfl fl_RX12_3 wf_X12_led_3 (by decide +kernel) ?_
  refine tw_aload_n (k := 3) rfl rfl ?_
  refine tw_aload_n (k := 4) rfl rfl ?_
  refine tw_iload_n (k := 5) rfl rfl ?_
  refine tw_callV (k := 6) (d' := 2) (mc' := 0) (ms' := 0) tw_cI tw_cIi [.int a1] rfl rfl wv_RX12_288_X12_nobody mo_X12_nobody (t := 11) rfl rfl rfl (fun Q9 => K_X12_nobody Q9 a0 a1) (by omega) (by decide) (by decide) (Nat.le_of_ble_eq_true rfl) (fun x1 => ?_)
  refine tw_iconst (k := 7) (1 : Int32) rfl (by decide) ?_
  refine tw_callV (k := 8) (d' := 1) (mc' := 0) (ms' := 0) tw_cI tw_cIi [.int x1, .int (1 : Int32)] rfl rfl wv_RX12_240_X12_throwsIf mo_X12_throwsIf (t := 11) rfl rfl rfl (fun Q9 => K_X12_throwsIf Q9 a0 x1 (1 : Int32)) (by omega) (by decide) (by decide) (Nat.le_of_ble_eq_true rfl) (fun x2 => ?_)
  refine tw_if_eq (k := 9) 20 rfl (by decide) ?_ ?_
  · refine tw_iconst (k := 12) (0 : Int32) rfl (by decide) ?_
    refine tw_ist_n (k := 13) [some (.ref a0), some (.int a1), some (.int a2), some (.int (0 : Int32)), none, none] rfl (Nat.le_of_ble_eq_true rfl) rfl rfl ?_
    refine tw_iconst (k := 14) (-1 : Int32) rfl (by decide) ?_
    refine tw_ist (k := 15) [some (.ref a0), some (.int a1), some (.int a2), some (.int (0 : Int32)), some (.int (-1 : Int32)), none] rfl (Nat.le_of_ble_eq_true rfl) rfl rfl ?_
    refine tw_aload_n (k := 16) rfl rfl ?_
    refine tw_getR (k := 17) rfl fl_RX12_13 (fun x3 => ?_)
    refine tw_bipush (k := 18) (6 : Int32) rfl (by decide) ?_
    refine tw_iaload (k := 19) rfl (fun x4 => ?_)
    refine tw_iconst (k := 20) (1 : Int32) rfl (by decide) ?_
    refine tw_isub (k := 21) rfl ?_
    refine tw_let (fun x5 => [some (.ref a0), some (.int a1), some (.int a2), some (.int (0 : Int32)), some (.int (-1 : Int32)), none]) (fun x5 => .int x5 :: []) rfl rfl (fun x5 => ?_)
    refine tw_ist (k := 22) [some (.ref a0), some (.int a1), some (.int a2), some (.int (0 : Int32)), some (.int (-1 : Int32)), some (.int x5)] rfl (Nat.le_of_ble_eq_true rfl) rfl rfl ?_
    refine tw_loop (fun s7 => [some (.ref a0), some (.int a1), some (.int a2), some (.int s7.1), some (.int s7.2.1), some (.int s7.2.2)]) (fun s7 => []) (fun r6 h6 s7 => ?_) _ rfl rfl
    refine tw_iload (k := 23) rfl rfl ?_
    refine tw_if_lt (k := 24) 84 rfl (by decide) ?_ ?_
    · refine tw_iload_n (k := 46) rfl rfl ?_
      refine tw_if_eq (k := 47) 93 rfl (by decide) ?_ ?_
      · refine tw_iload_n (k := 50) rfl rfl ?_
        exact tw_ireturn (k := 51) rfl rfl (by decide) (by decide)
      · refine tw_iload (k := 48) rfl rfl ?_
        refine tw_goto (k := 49) 94 rfl (by decide) ?_
        exact tw_ireturn (k := 51) rfl rfl (by decide) (by decide)
    · refine tw_aload_n (k := 25) rfl rfl ?_
      refine tw_iload (k := 26) rfl rfl ?_
      refine tw_iconst (k := 27) (2 : Int32) rfl (by decide) ?_
      refine tw_callV (k := 28) (d' := 1) (mc' := 0) (ms' := 0) tw_cI tw_cIi [.int s7.2.2, .int (2 : Int32)] rfl rfl wv_RX12_285_X12_ofLog mo_X12_ofLog (t := 11) rfl rfl rfl (fun Q9 => K_X12_ofLog Q9 a0 s7.2.2 (2 : Int32)) (by omega) (by decide) (by decide) (Nat.le_of_ble_eq_true rfl) (fun x8 => ?_)
      refine tw_iload_n (k := 29) rfl rfl ?_
      refine tw_join 78 (fun s10 => [some (.ref a0), some (.int a1), some (.int a2), some (.int s10.1), some (.int s10.2), some (.int s7.2.2)]) (fun s10 => []) 0 0 (fun s10 => ?_) (fun j9 g9 => ?_)
      · refine tw_inc (k := 44) (-1 : Int32) [some (.ref a0), some (.int a1), some (.int a2), some (.int s10.1), some (.int s10.2), some (.int (s7.2.2 + (-1 : Int32)))] rfl rfl (by decide) (Nat.le_of_ble_eq_true rfl) rfl rfl ?_
        refine tw_goto (k := 45) 36 rfl (by decide) ?_
        exact h6 (s10.1, s10.2, s7.2.2 + (-1 : Int32))
      · refine tw_join 66 (fun s12 => [some (.ref a0), some (.int a1), some (.int a2), some (.int s7.1), some (.int s7.2.1), some (.int s7.2.2)]) (fun s12 => []) 0 0 (fun s12 => ?_) (fun j11 g11 => ?_)
        · refine tw_inc (k := 38) (1 : Int32) [some (.ref a0), some (.int a1), some (.int a2), some (.int (s7.1 + (1 : Int32))), some (.int s7.2.1), some (.int s7.2.2)] rfl rfl (by decide) (Nat.le_of_ble_eq_true rfl) rfl rfl ?_
          refine tw_aload_n (k := 39) rfl rfl ?_
          refine tw_iload (k := 40) rfl rfl ?_
          refine tw_iconst (k := 41) (0 : Int32) rfl (by decide) ?_
          refine tw_callV (k := 42) (d' := 1) (mc' := 0) (ms' := 0) tw_cI tw_cIi [.int s7.2.2, .int (0 : Int32)] rfl rfl wv_RX12_285_X12_ofLog mo_X12_ofLog (t := 11) rfl rfl rfl (fun Q9 => K_X12_ofLog Q9 a0 s7.2.2 (0 : Int32)) (by omega) (by decide) (by decide) (Nat.le_of_ble_eq_true rfl) (fun x13 => ?_)
          refine tw_ist (k := 43) [some (.ref a0), some (.int a1), some (.int a2), some (.int (s7.1 + (1 : Int32))), some (.int x13), some (.int s7.2.2)] rfl (Nat.le_of_ble_eq_true rfl) rfl rfl ?_
          exact g9 (s7.1 + (1 : Int32), x13)
        · refine tw_icmp_eq (k := 30) 66 rfl (by decide) ?_ ?_
          · exact g11 ()
          · refine tw_aload_n (k := 31) rfl rfl ?_
            refine tw_iload (k := 32) rfl rfl ?_
            refine tw_iconst (k := 33) (3 : Int32) rfl (by decide) ?_
            refine tw_callV (k := 34) (d' := 1) (mc' := 0) (ms' := 0) tw_cI tw_cIi [.int s7.2.2, .int (3 : Int32)] rfl rfl wv_RX12_285_X12_ofLog mo_X12_ofLog (t := 11) rfl rfl rfl (fun Q9 => K_X12_ofLog Q9 a0 s7.2.2 (3 : Int32)) (by omega) (by decide) (by decide) (Nat.le_of_ble_eq_true rfl) (fun x14 => ?_)
            refine tw_iload_n (k := 35) rfl rfl ?_
            refine tw_icmp_eq (k := 36) 66 rfl (by decide) ?_ ?_
            · exact g11 ()
            · refine tw_goto (k := 37) 78 rfl (by decide) ?_
              exact g9 (s7.1, s7.2.1)
  · refine tw_iconst (k := 10) (0 : Int32) rfl (by decide) ?_
    exact tw_ireturn (k := 11) rfl rfl (by decide) (by decide)
def mX12_log : tw_MD := (yX12_log, cX12_log, 3, (some FieldType.int), [(0, .aload_n 0, 1, 1), (1, .iconst 0, 1, 2), (2, .putfield 3, 3, 5), (5, .aload_n 0, 1, 6), (6, .iload_n 2, 1, 7), (7, .iconst 0, 1, 8), (8, .iconst 4, 1, 9), (9, .invokestatic 76, 3, 12), (12, .ifCond .ne 7, 3, 15), (15, .iconst 1, 1, 16), (16, .goto 4, 3, 19), (19, .iconst 0, 1, 20), (20, .iconst 1, 1, 21), (21, .invokevirtual 240, 3, 24), (24, .ifCond .eq 5, 3, 27), (27, .iconst 0, 1, 28), (28, .ireturn, 1, 29), (29, .iload_n 1, 1, 30), (30, .iconst 0, 1, 31), (31, .aload_n 0, 1, 32), (32, .getfield 13, 3, 35), (35, .bipush 6, 2, 37), (37, .iaload, 1, 38), (38, .iconst 1, 1, 39), (39, .isub, 1, 40), (40, .invokestatic 76, 3, 43), (43, .ifCond .eq 12, 3, 46), (46, .aload_n 0, 1, 47), (47, .iload_n 1, 1, 48), (48, .iload_n 2, 1, 49), (49, .invokevirtual 285, 3, 52), (52, .goto 5, 3, 55), (55, .bipush (-2), 2, 57), (57, .ireturn, 1, 58)], [])
theorem mo_X12_log : tw_mok mX12_log 2 := ⟨plainFor_of_name (by decide +kernel), by decide +kernel, by decide +kernel, by decide +kernel, by decide +kernel⟩
theorem dk_X12_log : tw_dk mX12_log := by unfold tw_dk; decide +kernel
theorem wf_X12_log_3 : tw_wf mX12_log 3 70 := Or.inl rfl
set_option maxRecDepth 20000 in
theorem K_X12_log {g : tw_Gx} (Q : tw_Rs → tw_Mem → Prop) (a0 : Nat) (a1 : Int32) (a2 : Int32) : tw_Kt g mX12_log 2 0 0 [.ref a0, .int a1, .int a2] Q (f_X12_log a0 a1 a2 (fun v => Q (.inl (some (.int v))))) := by
  refine tw_mkK (L := [some (.ref a0), some (.int a1), some (.int a2)]) mo_X12_log dk_X12_log rfl (Nat.le_of_ble_eq_true rfl) rfl ?_
  unfold f_X12_log
  refine tw_aload_n (k := 0) rfl rfl ?_
  refine tw_iconst (k := 1) (0 : Int32) rfl (by decide) ?_
  refine tw_putI (k := 2) rfl fl_RX12_3 wf_X12_log_3 (by decide +kernel) ?_
  refine tw_aload_n (k := 3) rfl rfl ?_
  refine tw_iload_n (k := 4) rfl rfl ?_
  refine tw_iconst (k := 5) (0 : Int32) rfl (by decide) ?_
  refine tw_iconst (k := 6) (4 : Int32) rfl (by decide) ?_
  refine tw_callS (k := 7) (d' := 1) (mc' := 0) (ms' := 0) tw_cI tw_cIi [.int a2, .int (0 : Int32), .int (4 : Int32)] rfl rfl ws_RX12_76_X12_in mo_X12_in rfl (fun Q9 => K_X12_in Q9 a2 (0 : Int32) (4 : Int32)) (by omega) (by decide) (by decide) (Nat.le_of_ble_eq_true rfl) (fun x1 => ?_)
  refine tw_join 20 (fun s3 => [some (.ref a0), some (.int a1), some (.int a2)]) (fun s3 => .int s3 :: .ref a0 :: []) 0 0 (fun s3 => ?_) (fun j2 g2 => ?_)
  · refine tw_iconst (k := 12) (1 : Int32) rfl (by decide) ?_
    refine tw_callV (k := 13) (d' := 1) (mc' := 0) (ms' := 0) tw_cI tw_cIi [.int s3, .int (1 : Int32)] rfl rfl wv_RX12_240_X12_throwsIf mo_X12_throwsIf (t := 11) rfl rfl rfl (fun Q9 => K_X12_throwsIf Q9 a0 s3 (1 : Int32)) (by omega) (by decide) (by decide) (Nat.le_of_ble_eq_true rfl) (fun x4 => ?_)
    refine tw_if_eq (k := 14) 29 rfl (by decide) ?_ ?_
    · refine tw_iload_n (k := 17) rfl rfl ?_
      refine tw_iconst (k := 18) (0 : Int32) rfl (by decide) ?_
      refine tw_aload_n (k := 19) rfl rfl ?_
      refine tw_getR (k := 20) rfl fl_RX12_13 (fun x5 => ?_)
      refine tw_bipush (k := 21) (6 : Int32) rfl (by decide) ?_
      refine tw_iaload (k := 22) rfl (fun x6 => ?_)
      refine tw_iconst (k := 23) (1 : Int32) rfl (by decide) ?_
      refine tw_isub (k := 24) rfl ?_
      refine tw_callS (k := 25) (d' := 1) (mc' := 0) (ms' := 0) tw_cI tw_cIi [.int a1, .int (0 : Int32), .int (x6 - (1 : Int32))] rfl rfl ws_RX12_76_X12_in mo_X12_in rfl (fun Q9 => K_X12_in Q9 a1 (0 : Int32) (x6 - (1 : Int32))) (by omega) (by decide) (by decide) (Nat.le_of_ble_eq_true rfl) (fun x7 => ?_)
      refine tw_if_eq (k := 26) 55 rfl (by decide) ?_ ?_
      · refine tw_bipush (k := 32) (-2 : Int32) rfl (by decide) ?_
        exact tw_ireturn (k := 33) rfl rfl (by decide) (by decide)
      · refine tw_aload_n (k := 27) rfl rfl ?_
        refine tw_iload_n (k := 28) rfl rfl ?_
        refine tw_iload_n (k := 29) rfl rfl ?_
        refine tw_callV (k := 30) (d' := 1) (mc' := 0) (ms' := 0) tw_cI tw_cIi [.int a1, .int a2] rfl rfl wv_RX12_285_X12_ofLog mo_X12_ofLog (t := 11) rfl rfl rfl (fun Q9 => K_X12_ofLog Q9 a0 a1 a2) (by omega) (by decide) (by decide) (Nat.le_of_ble_eq_true rfl) (fun x8 => ?_)
        refine tw_goto (k := 31) 57 rfl (by decide) ?_
        exact tw_ireturn (k := 33) rfl rfl (by decide) (by decide)
    · refine tw_iconst (k := 15) (0 : Int32) rfl (by decide) ?_
      exact tw_ireturn (k := 16) rfl rfl (by decide) (by decide)
  · refine tw_if_ne (k := 8) 19 rfl (by decide) ?_ ?_
    · refine tw_iconst (k := 11) (0 : Int32) rfl (by decide) ?_
      exact g2 (0 : Int32)
    · refine tw_iconst (k := 9) (1 : Int32) rfl (by decide) ?_
      refine tw_goto (k := 10) 20 rfl (by decide) ?_
      exact g2 (1 : Int32)
def mX12_seed : tw_MD := (yX12_seed, cX12_seed, 3, (some FieldType.int), [(0, .aload_n 0, 1, 1), (1, .iconst 0, 1, 2), (2, .putfield 3, 3, 5), (5, .aload_n 0, 1, 6), (6, .getfield 13, 3, 9), (9, .bipush 7, 2, 11), (11, .iaload, 1, 12), (12, .istore_n 2, 1, 13), (13, .aload_n 0, 1, 14), (14, .getfield 13, 3, 17), (17, .bipush 7, 2, 19), (19, .iload_n 1, 1, 20), (20, .iastore, 1, 21), (21, .iload_n 2, 1, 22), (22, .ireturn, 1, 23)], [])
theorem mo_X12_seed : tw_mok mX12_seed 1 := ⟨plainFor_of_name (by decide +kernel), by decide +kernel, by decide +kernel, by decide +kernel, by decide +kernel⟩
theorem dk_X12_seed : tw_dk mX12_seed := by unfold tw_dk; decide +kernel
theorem wf_X12_seed_3 : tw_wf mX12_seed 3 70 := Or.inl rfl
set_option maxRecDepth 20000 in
theorem K_X12_seed {g : tw_Gx} (Q : tw_Rs → tw_Mem → Prop) (a0 : Nat) (a1 : Int32) : tw_Kt g mX12_seed 1 0 0 [.ref a0, .int a1] Q (f_X12_seed a0 a1 (fun v => Q (.inl (some (.int v))))) := by
  refine tw_mkK (L := [some (.ref a0), some (.int a1), none]) mo_X12_seed dk_X12_seed rfl (Nat.le_of_ble_eq_true rfl) rfl ?_
  unfold f_X12_seed
  refine tw_aload_n (k := 0) rfl rfl ?_
  refine tw_iconst (k := 1) (0 : Int32) rfl (by decide) ?_
  refine tw_putI (k := 2) rfl fl_RX12_3 wf_X12_seed_3 (by decide +kernel) ?_
  refine tw_aload_n (k := 3) rfl rfl ?_
  refine tw_getR (k := 4) rfl fl_RX12_13 (fun x1 => ?_)
  refine tw_bipush (k := 5) (7 : Int32) rfl (by decide) ?_
  refine tw_iaload (k := 6) rfl (fun x2 => ?_)
  refine tw_ist_n (k := 7) [some (.ref a0), some (.int a1), some (.int x2)] rfl (Nat.le_of_ble_eq_true rfl) rfl rfl ?_
  refine tw_aload_n (k := 8) rfl rfl ?_
  refine tw_getR (k := 9) rfl fl_RX12_13 (fun x3 => ?_)
  refine tw_bipush (k := 10) (7 : Int32) rfl (by decide) ?_
  refine tw_iload_n (k := 11) rfl rfl ?_
  refine tw_iastore (k := 12) rfl ?_
  refine tw_iload_n (k := 13) rfl rfl ?_
  exact tw_ireturn (k := 14) rfl rfl (by decide) (by decide)
def mX12_count : tw_MD := (yX12_count, cX12_count, 6, (some FieldType.int), [(0, .aload_n 0, 1, 1), (1, .iconst 0, 1, 2), (2, .putfield 3, 3, 5), (5, .iconst 0, 1, 6), (6, .istore_n 2, 1, 7), (7, .iconst 0, 1, 8), (8, .istore_n 3, 1, 9), (9, .iconst 0, 1, 10), (10, .istore 4, 2, 12), (12, .iconst 0, 1, 13), (13, .istore 5, 2, 15), (15, .iload 5, 2, 17), (17, .aload_n 0, 1, 18), (18, .invokevirtual 62, 3, 21), (21, .if_icmp .ge 45, 3, 24), (24, .iload_n 2, 1, 25), (25, .aload_n 0, 1, 26), (26, .iload 5, 2, 28), (28, .iconst 3, 1, 29), (29, .invokevirtual 70, 3, 32), (32, .iload 5, 2, 34), (34, .ishl, 1, 35), (35, .ior, 1, 36), (36, .istore_n 2, 1, 37), (37, .iload_n 3, 1, 38), (38, .aload_n 0, 1, 39), (39, .iload 5, 2, 41), (41, .invokevirtual 276, 3, 44), (44, .invokestatic 280, 3, 47), (47, .iadd, 1, 48), (48, .istore_n 3, 1, 49), (49, .iload 4, 2, 51), (51, .aload_n 0, 1, 52), (52, .iload 5, 2, 54), (54, .invokevirtual 422, 3, 57), (57, .iadd, 1, 58), (58, .istore 4, 2, 60), (60, .iinc 5 1, 3, 63), (63, .goto (-48), 3, 66), (66, .iload_n 1, 1, 67), (67, .tableswitch 142 0 11 #[61, 66, 73, 96, 103, 110, 117, 122, 124, 126, 129, 137], 61, 128), (128, .aload_n 0, 1, 129), (129, .invokevirtual 62, 3, 132), (132, .ireturn, 1, 133), (133, .aload_n 0, 1, 134), (134, .getfield 13, 3, 137), (137, .iconst 1, 1, 138), (138, .iaload, 1, 139), (139, .ireturn, 1, 140), (140, .aload_n 0, 1, 141), (141, .getfield 13, 3, 144), (144, .iconst 2, 1, 145), (145, .iaload, 1, 146), (146, .iconst 1, 1, 147), (147, .if_icmp .ne 14, 3, 150), (150, .aload_n 0, 1, 151), (151, .getfield 13, 3, 154), (154, .sipush 492, 3, 157), (157, .iaload, 1, 158), (158, .goto 4, 3, 161), (161, .iconst (-1), 1, 162), (162, .ireturn, 1, 163), (163, .aload_n 0, 1, 164), (164, .getfield 13, 3, 167), (167, .iconst 3, 1, 168), (168, .iaload, 1, 169), (169, .ireturn, 1, 170), (170, .aload_n 0, 1, 171), (171, .getfield 13, 3, 174), (174, .iconst 4, 1, 175), (175, .iaload, 1, 176), (176, .ireturn, 1, 177), (177, .aload_n 0, 1, 178), (178, .getfield 13, 3, 181), (181, .iconst 5, 1, 182), (182, .iaload, 1, 183), (183, .ireturn, 1, 184), (184, .aload_n 0, 1, 185), (185, .invokevirtual 430, 3, 188), (188, .ireturn, 1, 189), (189, .iload_n 2, 1, 190), (190, .ireturn, 1, 191), (191, .iload_n 3, 1, 192), (192, .ireturn, 1, 193), (193, .iload 4, 2, 195), (195, .ireturn, 1, 196), (196, .aload_n 0, 1, 197), (197, .getfield 13, 3, 200), (200, .bipush 6, 2, 202), (202, .iaload, 1, 203), (203, .ireturn, 1, 204), (204, .aload_n 0, 1, 205), (205, .getfield 59, 3, 208), (208, .ireturn, 1, 209), (209, .iconst (-1), 1, 210), (210, .ireturn, 1, 211)], [])
theorem mo_X12_count : tw_mok mX12_count 1 := ⟨plainFor_of_name (by decide +kernel), by decide +kernel, by decide +kernel, by decide +kernel, by decide +kernel⟩
theorem dk_X12_count : tw_dk mX12_count := by unfold tw_dk; decide +kernel
theorem wf_X12_count_3 : tw_wf mX12_count 3 70 := Or.inl rfl
set_option maxRecDepth 20000 in
theorem K_X12_count {g : tw_Gx} (Q : tw_Rs → tw_Mem → Prop) (a0 : Nat) (a1 : Int32) : tw_Kt g mX12_count 6 0 0 [.ref a0, .int a1] Q (f_X12_count a0 a1 (fun v => Q (.inl (some (.int v))))) := by
  refine tw_mkK (L := [some (.ref a0), some (.int a1), none, none, none, none]) mo_X12_count dk_X12_count rfl (Nat.le_of_ble_eq_true rfl) rfl ?_
  unfold f_X12_count
  refine tw_aload_n (k := 0) rfl rfl ?_
  refine tw_iconst (k := 1) (0 : Int32) rfl (by decide) ?_
  refine tw_putI (k := 2) rfl fl_RX12_3 wf_X12_count_3 (by decide +kernel) ?_
  refine tw_iconst (k := 3) (0 : Int32) rfl (by decide) ?_
  refine tw_ist_n (k := 4) [some (.ref a0), some (.int a1), some (.int (0 : Int32)), none, none, none] rfl (Nat.le_of_ble_eq_true rfl) rfl rfl ?_
  refine tw_iconst (k := 5) (0 : Int32) rfl (by decide) ?_
  refine tw_ist_n (k := 6) [some (.ref a0), some (.int a1), some (.int (0 : Int32)), some (.int (0 : Int32)), none, none] rfl (Nat.le_of_ble_eq_true rfl) rfl rfl ?_
  refine tw_iconst (k := 7) (0 : Int32) rfl (by decide) ?_
  refine tw_ist (k := 8) [some (.ref a0), some (.int a1), some (.int (0 : Int32)), some (.int (0 : Int32)), some (.int (0 : Int32)), none] rfl (Nat.le_of_ble_eq_true rfl) rfl rfl ?_
  refine tw_iconst (k := 9) (0 : Int32) rfl (by decide) ?_
  refine tw_ist (k := 10) [some (.ref a0), some (.int a1), some (.int (0 : Int32)), some (.int (0 : Int32)), some (.int (0 : Int32)), some (.int (0 : Int32))] rfl (Nat.le_of_ble_eq_true rfl) rfl rfl ?_
  refine tw_loop (fun s2 => [some (.ref a0), some (.int a1), some (.int s2.1), some (.int s2.2.1), some (.int s2.2.2.1), some (.int s2.2.2.2)]) (fun s2 => []) (fun r1 h1 s2 => ?_) _ rfl rfl
  refine tw_iload (k := 11) rfl rfl ?_
  refine tw_aload_n (k := 12) rfl rfl ?_
  refine tw_callV (k := 13) (d' := 1) (mc' := 0) (ms' := 0) tw_cI tw_cIi [] rfl rfl wv_RX12_62_X12_people mo_X12_people (t := 11) rfl rfl rfl (fun Q9 => K_X12_people Q9 a0) (by omega) (by decide) (by decide) (Nat.le_of_ble_eq_true rfl) (fun x3 => ?_)
  refine tw_icmp_ge (k := 14) 66 rfl (by decide) ?_ ?_
  · refine tw_iload_n (k := 39) rfl rfl ?_
    refine tw_case ?_ (fun c21 => ?_)
    · refine tw_switch (k := 40) 128 rfl (by decide) (by decide) ?_
      refine tw_aload_n (k := 41) rfl rfl ?_
      refine tw_callV (k := 42) (d' := 1) (mc' := 0) (ms' := 0) tw_cI tw_cIi [] rfl rfl wv_RX12_62_X12_people mo_X12_people (t := 11) rfl rfl rfl (fun Q9 => K_X12_people Q9 a0) (by omega) (by decide) (by decide) (Nat.le_of_ble_eq_true rfl) (fun x4 => ?_)
      exact tw_ireturn (k := 43) rfl rfl (by decide) (by decide)
    refine tw_case ?_ (fun c22 => ?_)
    · refine tw_switch (k := 40) 133 rfl (by decide) (by decide) ?_
      refine tw_aload_n (k := 44) rfl rfl ?_
      refine tw_getR (k := 45) rfl fl_RX12_13 (fun x5 => ?_)
      refine tw_iconst (k := 46) (1 : Int32) rfl (by decide) ?_
      refine tw_iaload (k := 47) rfl (fun x6 => ?_)
      exact tw_ireturn (k := 48) rfl rfl (by decide) (by decide)
    refine tw_case ?_ (fun c23 => ?_)
    · refine tw_switch (k := 40) 140 rfl (by decide) (by decide) ?_
      refine tw_aload_n (k := 49) rfl rfl ?_
      refine tw_getR (k := 50) rfl fl_RX12_13 (fun x7 => ?_)
      refine tw_iconst (k := 51) (2 : Int32) rfl (by decide) ?_
      refine tw_iaload (k := 52) rfl (fun x8 => ?_)
      refine tw_iconst (k := 53) (1 : Int32) rfl (by decide) ?_
      refine tw_icmp_ne (k := 54) 161 rfl (by decide) ?_ ?_
      · refine tw_iconst (k := 60) (-1 : Int32) rfl (by decide) ?_
        exact tw_ireturn (k := 61) rfl rfl (by decide) (by decide)
      · refine tw_aload_n (k := 55) rfl rfl ?_
        refine tw_getR (k := 56) rfl fl_RX12_13 (fun x9 => ?_)
        refine tw_sipush (k := 57) (492 : Int32) rfl (by decide) ?_
        refine tw_iaload (k := 58) rfl (fun x10 => ?_)
        refine tw_goto (k := 59) 162 rfl (by decide) ?_
        exact tw_ireturn (k := 61) rfl rfl (by decide) (by decide)
    refine tw_case ?_ (fun c24 => ?_)
    · refine tw_switch (k := 40) 163 rfl (by decide) (by decide) ?_
      refine tw_aload_n (k := 62) rfl rfl ?_
      refine tw_getR (k := 63) rfl fl_RX12_13 (fun x11 => ?_)
      refine tw_iconst (k := 64) (3 : Int32) rfl (by decide) ?_
      refine tw_iaload (k := 65) rfl (fun x12 => ?_)
      exact tw_ireturn (k := 66) rfl rfl (by decide) (by decide)
    refine tw_case ?_ (fun c25 => ?_)
    · refine tw_switch (k := 40) 170 rfl (by decide) (by decide) ?_
      refine tw_aload_n (k := 67) rfl rfl ?_
      refine tw_getR (k := 68) rfl fl_RX12_13 (fun x13 => ?_)
      refine tw_iconst (k := 69) (4 : Int32) rfl (by decide) ?_
      refine tw_iaload (k := 70) rfl (fun x14 => ?_)
      exact tw_ireturn (k := 71) rfl rfl (by decide) (by decide)
    refine tw_case ?_ (fun c26 => ?_)
    · refine tw_switch (k := 40) 177 rfl (by decide) (by decide) ?_
      refine tw_aload_n (k := 72) rfl rfl ?_
      refine tw_getR (k := 73) rfl fl_RX12_13 (fun x15 => ?_)
      refine tw_iconst (k := 74) (5 : Int32) rfl (by decide) ?_
      refine tw_iaload (k := 75) rfl (fun x16 => ?_)
      exact tw_ireturn (k := 76) rfl rfl (by decide) (by decide)
    refine tw_case ?_ (fun c27 => ?_)
    · refine tw_switch (k := 40) 184 rfl (by decide) (by decide) ?_
      refine tw_aload_n (k := 77) rfl rfl ?_
      refine tw_callV (k := 78) (d' := 5) (mc' := 0) (ms' := 0) tw_cI tw_cIi [] rfl rfl wv_RX12_430_X12_pairsThatKnow mo_X12_pairsThatKnow (t := 11) rfl rfl rfl (fun Q9 => K_X12_pairsThatKnow Q9 a0) (by omega) (by decide) (by decide) (Nat.le_of_ble_eq_true rfl) (fun x17 => ?_)
      exact tw_ireturn (k := 79) rfl rfl (by decide) (by decide)
    refine tw_case ?_ (fun c28 => ?_)
    · refine tw_switch (k := 40) 189 rfl (by decide) (by decide) ?_
      refine tw_iload_n (k := 80) rfl rfl ?_
      exact tw_ireturn (k := 81) rfl rfl (by decide) (by decide)
    refine tw_case ?_ (fun c29 => ?_)
    · refine tw_switch (k := 40) 191 rfl (by decide) (by decide) ?_
      refine tw_iload_n (k := 82) rfl rfl ?_
      exact tw_ireturn (k := 83) rfl rfl (by decide) (by decide)
    refine tw_case ?_ (fun c30 => ?_)
    · refine tw_switch (k := 40) 193 rfl (by decide) (by decide) ?_
      refine tw_iload (k := 84) rfl rfl ?_
      exact tw_ireturn (k := 85) rfl rfl (by decide) (by decide)
    refine tw_case ?_ (fun c31 => ?_)
    · refine tw_switch (k := 40) 196 rfl (by decide) (by decide) ?_
      refine tw_aload_n (k := 86) rfl rfl ?_
      refine tw_getR (k := 87) rfl fl_RX12_13 (fun x18 => ?_)
      refine tw_bipush (k := 88) (6 : Int32) rfl (by decide) ?_
      refine tw_iaload (k := 89) rfl (fun x19 => ?_)
      exact tw_ireturn (k := 90) rfl rfl (by decide) (by decide)
    refine tw_case ?_ (fun c32 => ?_)
    · refine tw_switch (k := 40) 204 rfl (by decide) (by decide) ?_
      refine tw_aload_n (k := 91) rfl rfl ?_
      refine tw_getI (k := 92) rfl fl_RX12_59 (fun x20 => ?_)
      exact tw_ireturn (k := 93) rfl rfl (by decide) (by decide)
    refine tw_switch (k := 40) 209 rfl (by decide) (tw_dfl (by decide) (fun v e1 e2 e3 => ?_)) ?_
    · have e4 : v = 0 ∨ v = 1 ∨ v = 2 ∨ v = 3 ∨ v = 4 ∨ v = 5 ∨ v = 6 ∨ v = 7 ∨ v = 8 ∨ v = 9 ∨ v = 10 ∨ v = 11 := by omega
      rcases e4 with rfl | rfl | rfl | rfl | rfl | rfl | rfl | rfl | rfl | rfl | rfl | rfl
      · exact c21 (e3.trans (by decide))
      · exact c22 (e3.trans (by decide))
      · exact c23 (e3.trans (by decide))
      · exact c24 (e3.trans (by decide))
      · exact c25 (e3.trans (by decide))
      · exact c26 (e3.trans (by decide))
      · exact c27 (e3.trans (by decide))
      · exact c28 (e3.trans (by decide))
      · exact c29 (e3.trans (by decide))
      · exact c30 (e3.trans (by decide))
      · exact c31 (e3.trans (by decide))
      · exact c32 (e3.trans (by decide))
    · refine tw_iconst (k := 94) (-1 : Int32) rfl (by decide) ?_
      exact tw_ireturn (k := 95) rfl rfl (by decide) (by decide)
  · refine tw_iload_n (k := 15) rfl rfl ?_
    refine tw_aload_n (k := 16) rfl rfl ?_
    refine tw_iload (k := 17) rfl rfl ?_
    refine tw_iconst (k := 18) (3 : Int32) rfl (by decide) ?_
    refine tw_callV (k := 19) (d' := 2) (mc' := 0) (ms' := 0) tw_cI tw_cIi [.int s2.2.2.2, .int (3 : Int32)] rfl rfl wv_RX12_70_X12_of mo_X12_of (t := 11) rfl rfl rfl (fun Q9 => K_X12_of Q9 a0 s2.2.2.2 (3 : Int32)) (by omega) (by decide) (by decide) (Nat.le_of_ble_eq_true rfl) (fun x33 => ?_)
    refine tw_iload (k := 20) rfl rfl ?_
    refine tw_ishl (k := 21) rfl ?_
    refine tw_ior (k := 22) rfl ?_
    refine tw_let (fun x34 => [some (.ref a0), some (.int a1), some (.int s2.1), some (.int s2.2.1), some (.int s2.2.2.1), some (.int s2.2.2.2)]) (fun x34 => .int x34 :: []) rfl rfl (fun x34 => ?_)
    refine tw_ist_n (k := 23) [some (.ref a0), some (.int a1), some (.int x34), some (.int s2.2.1), some (.int s2.2.2.1), some (.int s2.2.2.2)] rfl (Nat.le_of_ble_eq_true rfl) rfl rfl ?_
    refine tw_iload_n (k := 24) rfl rfl ?_
    refine tw_aload_n (k := 25) rfl rfl ?_
    refine tw_iload (k := 26) rfl rfl ?_
    refine tw_callV (k := 27) (d' := 3) (mc' := 0) (ms' := 0) tw_cI tw_cIi [.int s2.2.2.2] rfl rfl wv_RX12_276_X12_busyOf mo_X12_busyOf (t := 11) rfl rfl rfl (fun Q9 => K_X12_busyOf Q9 a0 s2.2.2.2) (by omega) (by decide) (by decide) (Nat.le_of_ble_eq_true rfl) (fun x35 => ?_)
    refine tw_callS (k := 28) (d' := 1) (mc' := 0) (ms' := 0) tw_cI tw_cIi [.int x35] rfl rfl ws_RX12_280_J6_bitCount_0f7a4 mo_J6_bitCount_0f7a4 rfl (fun Q9 => K_J6_bitCount_0f7a4 Q9 x35) (by omega) (by decide) (by decide) (Nat.le_of_ble_eq_true rfl) (fun x36 => ?_)
    refine tw_iadd (k := 29) rfl ?_
    refine tw_let (fun x37 => [some (.ref a0), some (.int a1), some (.int x34), some (.int s2.2.1), some (.int s2.2.2.1), some (.int s2.2.2.2)]) (fun x37 => .int x37 :: []) rfl rfl (fun x37 => ?_)
    refine tw_ist_n (k := 30) [some (.ref a0), some (.int a1), some (.int x34), some (.int x37), some (.int s2.2.2.1), some (.int s2.2.2.2)] rfl (Nat.le_of_ble_eq_true rfl) rfl rfl ?_
    refine tw_iload (k := 31) rfl rfl ?_
    refine tw_aload_n (k := 32) rfl rfl ?_
    refine tw_iload (k := 33) rfl rfl ?_
    refine tw_callV (k := 34) (d' := 4) (mc' := 0) (ms' := 0) tw_cI tw_cIi [.int s2.2.2.2] rfl rfl wv_RX12_422_X12_guessesOf mo_X12_guessesOf (t := 11) rfl rfl rfl (fun Q9 => K_X12_guessesOf Q9 a0 s2.2.2.2) (by omega) (by decide) (by decide) (Nat.le_of_ble_eq_true rfl) (fun x38 => ?_)
    refine tw_iadd (k := 35) rfl ?_
    refine tw_let (fun x39 => [some (.ref a0), some (.int a1), some (.int x34), some (.int x37), some (.int s2.2.2.1), some (.int s2.2.2.2)]) (fun x39 => .int x39 :: []) rfl rfl (fun x39 => ?_)
    refine tw_ist (k := 36) [some (.ref a0), some (.int a1), some (.int x34), some (.int x37), some (.int x39), some (.int s2.2.2.2)] rfl (Nat.le_of_ble_eq_true rfl) rfl rfl ?_
    refine tw_inc (k := 37) (1 : Int32) [some (.ref a0), some (.int a1), some (.int x34), some (.int x37), some (.int x39), some (.int (s2.2.2.2 + (1 : Int32)))] rfl rfl (by decide) (Nat.le_of_ble_eq_true rfl) rfl rfl ?_
    refine tw_goto (k := 38) 15 rfl (by decide) ?_
    exact h1 (x34, x37, x39, s2.2.2.2 + (1 : Int32))
