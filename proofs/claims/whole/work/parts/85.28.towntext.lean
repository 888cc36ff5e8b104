def mX9_takePersonLine : tw_MD := (yX9_takePersonLine, cX9_takePersonLine, 4, (some FieldType.boolean), [(0, .aload_n 0, 1, 1), (1, .ldc 56, 2, 3), (3, .invokevirtual 23, 3, 6), (6, .ifCond .eq 13, 3, 9), (9, .aload_n 0, 1, 10), (10, .iconst 0, 1, 11), (11, .bipush 7, 2, 13), (13, .invokevirtual 58, 3, 16), (16, .ifCond .ne 5, 3, 19), (19, .iconst 0, 1, 20), (20, .ireturn, 1, 21), (21, .aload_n 0, 1, 22), (22, .invokevirtual 62, 3, 25), (25, .istore_n 1, 1, 26), (26, .iconst 0, 1, 27), (27, .istore_n 2, 1, 28), (28, .aload_n 0, 1, 29), (29, .ldc 66, 2, 31), (31, .invokevirtual 23, 3, 34), (34, .ifCond .eq 20, 3, 37), (37, .aload_n 0, 1, 38), (38, .iconst 0, 1, 39), (39, .bipush 100, 2, 41), (41, .invokevirtual 58, 3, 44), (44, .ifCond .ne 5, 3, 47), (47, .iconst 0, 1, 48), (48, .ireturn, 1, 49), (49, .aload_n 0, 1, 50), (50, .invokevirtual 62, 3, 53), (53, .istore_n 2, 1, 54), (54, .iconst 0, 1, 55), (55, .istore_n 3, 1, 56), (56, .aload_n 0, 1, 57), (57, .ldc 68, 2, 59), (59, .invokevirtual 23, 3, 62), (62, .ifCond .eq 20, 3, 65), (65, .aload_n 0, 1, 66), (66, .iconst 0, 1, 67), (67, .bipush 99, 2, 69), (69, .invokevirtual 58, 3, 72), (72, .ifCond .ne 5, 3, 75), (75, .iconst 0, 1, 76), (76, .ireturn, 1, 77), (77, .aload_n 0, 1, 78), (78, .invokevirtual 62, 3, 81), (81, .istore_n 3, 1, 82), (82, .aload_n 0, 1, 83), (83, .getfield 9, 3, 86), (86, .iload_n 1, 1, 87), (87, .iload_n 2, 1, 88), (88, .iload_n 3, 1, 89), (89, .aload_n 0, 1, 90), (90, .ldc 70, 2, 92), (92, .invokevirtual 23, 3, 95), (95, .invokevirtual 72, 3, 98), (98, .iconst 1, 1, 99), (99, .ireturn, 1, 100)], [])
theorem mo_X9_takePersonLine : tw_mok mX9_takePersonLine 0 := ⟨plainFor_of_name (by decide +kernel), by decide +kernel, by decide +kernel, by decide +kernel, by decide +kernel⟩
theorem dk_X9_takePersonLine : tw_dk mX9_takePersonLine := by unfold tw_dk; decide +kernel
theorem ks_RX9_56 : Cond.stringRef RX9 56 "at" ∈ lw_tbl := List.mem_of_getElem? (i := 1055) (by decide +kernel)
theorem ks_RX9_66 : Cond.stringRef RX9 66 "roams" ∈ lw_tbl := List.mem_of_getElem? (i := 1062) (by decide +kernel)
theorem ks_RX9_68 : Cond.stringRef RX9 68 "pay" ∈ lw_tbl := List.mem_of_getElem? (i := 1063) (by decide +kernel)
theorem fl_RX9_9 : tw_fl RX9 9 53 := Or.inl (List.mem_of_getElem? (i := 290) (by decide +kernel))
theorem ks_RX9_70 : Cond.stringRef RX9 70 "sworn" ∈ lw_tbl := List.mem_of_getElem? (i := 1064) (by decide +kernel)
theorem wv_RX9_72_X8_addPerson : tw_wV RX9 72 mX8_addPerson := ⟨List.mem_of_getElem? (i := 1065) (by decide +kernel), List.mem_of_getElem? (i := 1066) (by decide +kernel), List.mem_of_getElem? (i := 1067) (by decide +kernel), List.mem_of_getElem? (i := 126) (by decide +kernel), List.mem_of_getElem? (i := 1068) (by decide +kernel)⟩
theorem wu_RX9_23_X7_takeWord_8 : tw_wU RX9 23 RX9 "TwinRopes$Text" ⟨"TwinRopes$TownText", "takeWord", "(Ljava/lang/String;)Z"⟩ mX7_takeWord := ⟨List.mem_of_getElem? (i := 1048) (by decide +kernel), List.mem_of_getElem? (i := 933) (by decide +kernel), List.mem_of_getElem? (i := 1050) (by decide +kernel), List.mem_of_getElem? (i := 130) (by decide +kernel), List.mem_of_getElem? (i := 934) (by decide +kernel), List.mem_of_getElem? (i := 1049) (by decide +kernel), List.mem_of_getElem? (i := 931) (by decide +kernel), by decide, by decide⟩
theorem wu_RX9_62_X7_lastTaken_8 : tw_wU RX9 62 RX9 "TwinRopes$Text" ⟨"TwinRopes$TownText", "lastTaken", "()I"⟩ mX7_lastTaken := ⟨List.mem_of_getElem? (i := 1059) (by decide +kernel), List.mem_of_getElem? (i := 995) (by decide +kernel), List.mem_of_getElem? (i := 1061) (by decide +kernel), List.mem_of_getElem? (i := 130) (by decide +kernel), List.mem_of_getElem? (i := 996) (by decide +kernel), List.mem_of_getElem? (i := 1060) (by decide +kernel), List.mem_of_getElem? (i := 993) (by decide +kernel), by decide, by decide⟩
theorem wu_RX9_58_X7_takeNumber_8 : tw_wU RX9 58 RX9 "TwinRopes$Text" ⟨"TwinRopes$TownText", "takeNumber", "(II)Z"⟩ mX7_takeNumber := ⟨List.mem_of_getElem? (i := 1056) (by decide +kernel), List.mem_of_getElem? (i := 989) (by decide +kernel), List.mem_of_getElem? (i := 1058) (by decide +kernel), List.mem_of_getElem? (i := 130) (by decide +kernel), List.mem_of_getElem? (i := 990) (by decide +kernel), List.mem_of_getElem? (i := 1057) (by decide +kernel), List.mem_of_getElem? (i := 987) (by decide +kernel), by decide, by decide⟩
set_option maxRecDepth 20000 in
theorem K_X9_takePersonLine {g : tw_Gx} (Q : tw_Rs → tw_Mem → Prop) (a0 : Nat) : tw_Kt g mX9_takePersonLine 6 0 0 [.ref a0] Q (f_X9_takePersonLine g a0 (fun v => Q (.inl (some (.int v))))) := by
  refine tw_mkK (L := [some (.ref a0), none, none, none]) mo_X9_takePersonLine dk_X9_takePersonLine rfl (Nat.le_of_ble_eq_true rfl) rfl ?_
  unfold f_X9_takePersonLine
  refine tw_aload_n (k := 0) rfl rfl ?_
  refine tw_ldcS (k := 1) rfl ks_RX9_56 (fun t1 => ?_)
  refine tw_callU (k := 2) (d' := 5) (mc' := 0) (ms' := 0) tw_cI tw_cIi [.ref t1] rfl rfl (t := 8) rfl wu_RX9_23_X7_takeWord_8 mo_X7_takeWord (by decide +kernel) rfl (fun Q9 => K_X7_takeWord Q9 a0 t1) (by omega) (by decide) (by decide) (Nat.le_of_ble_eq_true rfl) (fun x2 => ?_)
  refine tw_if_eq (k := 3) 19 rfl (by decide) ?_ ?_
  · refine tw_iconst (k := 9) (0 : Int32) rfl (by decide) ?_
    exact tw_zreturn (k := 10) rfl rfl (by decide) (by decide)
  · refine tw_aload_n (k := 4) rfl rfl ?_
    refine tw_iconst (k := 5) (0 : Int32) rfl (by decide) ?_
    refine tw_bipush (k := 6) (7 : Int32) rfl (by decide) ?_
    refine tw_callU (k := 7) (d' := 1) (mc' := 0) (ms' := 0) tw_cI tw_cIi [.int (0 : Int32), .int (7 : Int32)] rfl rfl (t := 8) rfl wu_RX9_58_X7_takeNumber_8 mo_X7_takeNumber (by decide +kernel) rfl (fun Q9 => K_X7_takeNumber Q9 a0 (0 : Int32) (7 : Int32)) (by omega) (by decide) (by decide) (Nat.le_of_ble_eq_true rfl) (fun x3 => ?_)
    refine tw_if_ne (k := 8) 21 rfl (by decide) ?_ ?_
    · refine tw_aload_n (k := 11) rfl rfl ?_
      refine tw_callU (k := 12) (d' := 1) (mc' := 0) (ms' := 0) tw_cI tw_cIi [] rfl rfl (t := 8) rfl wu_RX9_62_X7_lastTaken_8 mo_X7_lastTaken (by decide +kernel) rfl (fun Q9 => K_X7_lastTaken Q9 a0) (by omega) (by decide) (by decide) (Nat.le_of_ble_eq_true rfl) (fun x4 => ?_)
      refine tw_ist_n (k := 13) [some (.ref a0), some (.int x4), none, none] rfl (Nat.le_of_ble_eq_true rfl) rfl rfl ?_
      refine tw_iconst (k := 14) (0 : Int32) rfl (by decide) ?_
      refine tw_ist_n (k := 15) [some (.ref a0), some (.int x4), some (.int (0 : Int32)), none] rfl (Nat.le_of_ble_eq_true rfl) rfl rfl ?_
      refine tw_aload_n (k := 16) rfl rfl ?_
      refine tw_ldcS (k := 17) rfl ks_RX9_66 (fun t5 => ?_)
      refine tw_callU (k := 18) (d' := 5) (mc' := 0) (ms' := 0) tw_cI tw_cIi [.ref t5] rfl rfl (t := 8) rfl wu_RX9_23_X7_takeWord_8 mo_X7_takeWord (by decide +kernel) rfl (fun Q9 => K_X7_takeWord Q9 a0 t5) (by omega) (by decide) (by decide) (Nat.le_of_ble_eq_true rfl) (fun x6 => ?_)
      refine tw_join 54 (fun s8 => [some (.ref a0), some (.int x4), some (.int s8), none]) (fun s8 => []) 0 0 (fun s8 => ?_) (fun j7 g7 => ?_)
      · refine tw_iconst (k := 30) (0 : Int32) rfl (by decide) ?_
        refine tw_ist_n (k := 31) [some (.ref a0), some (.int x4), some (.int s8), some (.int (0 : Int32))] rfl (Nat.le_of_ble_eq_true rfl) rfl rfl ?_
        refine tw_aload_n (k := 32) rfl rfl ?_
        refine tw_ldcS (k := 33) rfl ks_RX9_68 (fun t9 => ?_)
        refine tw_callU (k := 34) (d' := 5) (mc' := 0) (ms' := 0) tw_cI tw_cIi [.ref t9] rfl rfl (t := 8) rfl wu_RX9_23_X7_takeWord_8 mo_X7_takeWord (by decide +kernel) rfl (fun Q9 => K_X7_takeWord Q9 a0 t9) (by omega) (by decide) (by decide) (Nat.le_of_ble_eq_true rfl) (fun x10 => ?_)
        refine tw_join 82 (fun s12 => [some (.ref a0), some (.int x4), some (.int s8), some (.int s12)]) (fun s12 => []) 0 0 (fun s12 => ?_) (fun j11 g11 => ?_)
        · refine tw_aload_n (k := 46) rfl rfl ?_
          refine tw_getR (k := 47) rfl fl_RX9_9 (fun x13 => ?_)
          refine tw_iload_n (k := 48) rfl rfl ?_
          refine tw_iload_n (k := 49) rfl rfl ?_
          refine tw_iload_n (k := 50) rfl rfl ?_
          refine tw_aload_n (k := 51) rfl rfl ?_
          refine tw_ldcS (k := 52) rfl ks_RX9_70 (fun t14 => ?_)
          refine tw_callU (k := 53) (d' := 5) (mc' := 0) (ms' := 0) tw_cI tw_cIi [.ref t14] rfl rfl (t := 8) rfl wu_RX9_23_X7_takeWord_8 mo_X7_takeWord (by decide +kernel) rfl (fun Q9 => K_X7_takeWord Q9 a0 t14) (by omega) (by decide) (by decide) (Nat.le_of_ble_eq_true rfl) (fun x15 => ?_)
          refine tw_callV (k := 54) (d' := 3) (mc' := 0) (ms' := 0) tw_cU tw_cUi [.int x4, .int s8, .int s12, .int x15] rfl rfl wv_RX9_72_X8_addPerson mo_X8_addPerson (t := 7) rfl rfl rfl (fun Q9 => K_X8_addPerson Q9 x13 x4 s8 s12 x15) (by omega) (by decide) (by decide) (Nat.le_of_ble_eq_true rfl) (fun u16 => ?_)
          refine tw_iconst (k := 55) (1 : Int32) rfl (by decide) ?_
          exact tw_zreturn (k := 56) rfl rfl (by decide) (by decide)
        · refine tw_if_eq (k := 35) 82 rfl (by decide) ?_ ?_
          · exact g11 (0 : Int32)
          · refine tw_aload_n (k := 36) rfl rfl ?_
            refine tw_iconst (k := 37) (0 : Int32) rfl (by decide) ?_
            refine tw_bipush (k := 38) (99 : Int32) rfl (by decide) ?_
            refine tw_callU (k := 39) (d' := 1) (mc' := 0) (ms' := 0) tw_cI tw_cIi [.int (0 : Int32), .int (99 : Int32)] rfl rfl (t := 8) rfl wu_RX9_58_X7_takeNumber_8 mo_X7_takeNumber (by decide +kernel) rfl (fun Q9 => K_X7_takeNumber Q9 a0 (0 : Int32) (99 : Int32)) (by omega) (by decide) (by decide) (Nat.le_of_ble_eq_true rfl) (fun x17 => ?_)
            refine tw_if_ne (k := 40) 77 rfl (by decide) ?_ ?_
            · refine tw_aload_n (k := 43) rfl rfl ?_
              refine tw_callU (k := 44) (d' := 1) (mc' := 0) (ms' := 0) tw_cI tw_cIi [] rfl rfl (t := 8) rfl wu_RX9_62_X7_lastTaken_8 mo_X7_lastTaken (by decide +kernel) rfl (fun Q9 => K_X7_lastTaken Q9 a0) (by omega) (by decide) (by decide) (Nat.le_of_ble_eq_true rfl) (fun x18 => ?_)
              refine tw_ist_n (k := 45) [some (.ref a0), some (.int x4), some (.int s8), some (.int x18)] rfl (Nat.le_of_ble_eq_true rfl) rfl rfl ?_
              exact g11 x18
            · refine tw_iconst (k := 41) (0 : Int32) rfl (by decide) ?_
              exact tw_zreturn (k := 42) rfl rfl (by decide) (by decide)
      · refine tw_if_eq (k := 19) 54 rfl (by decide) ?_ ?_
        · exact g7 (0 : Int32)
        · refine tw_aload_n (k := 20) rfl rfl ?_
          refine tw_iconst (k := 21) (0 : Int32) rfl (by decide) ?_
          refine tw_bipush (k := 22) (100 : Int32) rfl (by decide) ?_
          refine tw_callU (k := 23) (d' := 1) (mc' := 0) (ms' := 0) tw_cI tw_cIi [.int (0 : Int32), .int (100 : Int32)] rfl rfl (t := 8) rfl wu_RX9_58_X7_takeNumber_8 mo_X7_takeNumber (by decide +kernel) rfl (fun Q9 => K_X7_takeNumber Q9 a0 (0 : Int32) (100 : Int32)) (by omega) (by decide) (by decide) (Nat.le_of_ble_eq_true rfl) (fun x19 => ?_)
          refine tw_if_ne (k := 24) 49 rfl (by decide) ?_ ?_
          · refine tw_aload_n (k := 27) rfl rfl ?_
            refine tw_callU (k := 28) (d' := 1) (mc' := 0) (ms' := 0) tw_cI tw_cIi [] rfl rfl (t := 8) rfl wu_RX9_62_X7_lastTaken_8 mo_X7_lastTaken (by decide +kernel) rfl (fun Q9 => K_X7_lastTaken Q9 a0) (by omega) (by decide) (by decide) (Nat.le_of_ble_eq_true rfl) (fun x20 => ?_)
            refine tw_ist_n (k := 29) [some (.ref a0), some (.int x4), some (.int x20), none] rfl (Nat.le_of_ble_eq_true rfl) rfl rfl ?_
            exact g7 x20
          · refine tw_iconst (k := 25) (0 : Int32) rfl (by decide) ?_
            exact tw_zreturn (k := 26) rfl rfl (by decide) (by decide)
    · refine tw_iconst (k := 9) (0 : Int32) rfl (by decide) ?_
      exact tw_zreturn (k := 10) rfl rfl (by decide) (by decide)
def mX9_takePerson : tw_MD := (yX9_takePerson, cX9_takePerson, 1, (some FieldType.boolean), [(0, .aload_n 0, 1, 1), (1, .iconst 0, 1, 2), (2, .aload_n 0, 1, 3), (3, .getfield 9, 3, 6), (6, .getfield 15, 3, 9), (9, .iconst 1, 1, 10), (10, .isub, 1, 11), (11, .invokevirtual 58, 3, 14), (14, .ireturn, 1, 15)], [])
theorem mo_X9_takePerson : tw_mok mX9_takePerson 0 := ⟨plainFor_of_name (by decide +kernel), by decide +kernel, by decide +kernel, by decide +kernel, by decide +kernel⟩
theorem dk_X9_takePerson : tw_dk mX9_takePerson := by unfold tw_dk; decide +kernel
theorem fl_RX9_15 : tw_fl RX9 15 46 := Or.inr ⟨"TwinRopes", List.mem_of_getElem? (i := 210) (by decide +kernel)⟩
set_option maxRecDepth 20000 in
theorem K_X9_takePerson {g : tw_Gx} (Q : tw_Rs → tw_Mem → Prop) (a0 : Nat) : tw_Kt g mX9_takePerson 2 0 0 [.ref a0] Q (f_X9_takePerson a0 (fun v => Q (.inl (some (.int v))))) := by
  refine tw_mkK (L := [some (.ref a0)]) mo_X9_takePerson dk_X9_takePerson rfl (Nat.le_of_ble_eq_true rfl) rfl ?_
  unfold f_X9_takePerson
  refine tw_aload_n (k := 0) rfl rfl ?_
  refine tw_iconst (k := 1) (0 : Int32) rfl (by decide) ?_
  refine tw_aload_n (k := 2) rfl rfl ?_
  refine tw_getR (k := 3) rfl fl_RX9_9 (fun x1 => ?_)
  refine tw_getI (k := 4) rfl fl_RX9_15 (fun x2 => ?_)
  refine tw_iconst (k := 5) (1 : Int32) rfl (by decide) ?_
  refine tw_isub (k := 6) rfl ?_
  refine tw_callU (k := 7) (d' := 1) (mc' := 0) (ms' := 0) tw_cI tw_cIi [.int (0 : Int32), .int (x2 - (1 : Int32))] rfl rfl (t := 8) rfl wu_RX9_58_X7_takeNumber_8 mo_X7_takeNumber (by decide +kernel) rfl (fun Q9 => K_X7_takeNumber Q9 a0 (0 : Int32) (x2 - (1 : Int32))) (by omega) (by decide) (by decide) (Nat.le_of_ble_eq_true rfl) (fun x3 => ?_)
  exact tw_zreturn (k := 8) rfl rfl (by decide) (by decide)
def mX9_takeGuessLine : tw_MD := (yX9_takeGuessLine, cX9_takeGuessLine, 3, (some FieldType.boolean), [(0, .aload_n 0, 1, 1), (1, .invokevirtual 76, 3, 4), (4, .ifCond .ne 5, 3, 7), (7, .iconst 0, 1, 8), (8, .ireturn, 1, 9), (9, .aload_n 0, 1, 10), (10, .invokevirtual 62, 3, 13), (13, .istore_n 1, 1, 14), (14, .aload_n 0, 1, 15), (15, .iload_n 1, 1, 16), (16, .invokevirtual 79, 3, 19), (19, .ifCond .ne 10, 3, 22), (22, .aload_n 0, 1, 23), (23, .invokevirtual 76, 3, 26), (26, .ifCond .ne 5, 3, 29), (29, .iconst 0, 1, 30), (30, .ireturn, 1, 31), (31, .aload_n 0, 1, 32), (32, .invokevirtual 62, 3, 35), (35, .istore_n 2, 1, 36), (36, .aload_n 0, 1, 37), (37, .iconst 0, 1, 38), (38, .bipush 9, 2, 40), (40, .invokevirtual 58, 3, 43), (43, .ifCond .ne 5, 3, 46), (46, .iconst 0, 1, 47), (47, .ireturn, 1, 48), (48, .aload_n 0, 1, 49), (49, .getfield 9, 3, 52), (52, .iload_n 1, 1, 53), (53, .iload_n 2, 1, 54), (54, .aload_n 0, 1, 55), (55, .invokevirtual 62, 3, 58), (58, .invokevirtual 83, 3, 61), (61, .iconst 1, 1, 62), (62, .ireturn, 1, 63)], [])
theorem mo_X9_takeGuessLine : tw_mok mX9_takeGuessLine 0 := ⟨plainFor_of_name (by decide +kernel), by decide +kernel, by decide +kernel, by decide +kernel, by decide +kernel⟩
theorem dk_X9_takeGuessLine : tw_dk mX9_takeGuessLine := by unfold tw_dk; decide +kernel
theorem wv_RX9_83_X8_setGuess : tw_wV RX9 83 mX8_setGuess := ⟨List.mem_of_getElem? (i := 1088) (by decide +kernel), List.mem_of_getElem? (i := 1089) (by decide +kernel), List.mem_of_getElem? (i := 1090) (by decide +kernel), List.mem_of_getElem? (i := 126) (by decide +kernel), List.mem_of_getElem? (i := 1091) (by decide +kernel)⟩
theorem wv_RX9_76_X9_takePerson : tw_wV RX9 76 mX9_takePerson := ⟨List.mem_of_getElem? (i := 1078) (by decide +kernel), List.mem_of_getElem? (i := 1080) (by decide +kernel), List.mem_of_getElem? (i := 20) (by decide +kernel), List.mem_of_getElem? (i := 131) (by decide +kernel), List.mem_of_getElem? (i := 1081) (by decide +kernel)⟩
theorem wu_RX9_79_X7_isNumber_8 : tw_wU RX9 79 RX9 "TwinRopes$Text" ⟨"TwinRopes$TownText", "isNumber", "(I)Z"⟩ mX7_isNumber := ⟨List.mem_of_getElem? (i := 1082) (by decide +kernel), List.mem_of_getElem? (i := 1086) (by decide +kernel), List.mem_of_getElem? (i := 1085) (by decide +kernel), List.mem_of_getElem? (i := 130) (by decide +kernel), List.mem_of_getElem? (i := 1087) (by decide +kernel), List.mem_of_getElem? (i := 1083) (by decide +kernel), List.mem_of_getElem? (i := 1084) (by decide +kernel), by decide, by decide⟩
set_option maxRecDepth 20000 in
theorem K_X9_takeGuessLine {g : tw_Gx} (Q : tw_Rs → tw_Mem → Prop) (a0 : Nat) : tw_Kt g mX9_takeGuessLine 3 0 0 [.ref a0] Q (f_X9_takeGuessLine a0 (fun v => Q (.inl (some (.int v))))) := by
  refine tw_mkK (L := [some (.ref a0), none, none]) mo_X9_takeGuessLine dk_X9_takeGuessLine rfl (Nat.le_of_ble_eq_true rfl) rfl ?_
  unfold f_X9_takeGuessLine
  refine tw_aload_n (k := 0) rfl rfl ?_
  refine tw_callV (k := 1) (d' := 2) (mc' := 0) (ms' := 0) tw_cI tw_cIi [] rfl rfl wv_RX9_76_X9_takePerson mo_X9_takePerson (t := 8) rfl rfl rfl (fun Q9 => K_X9_takePerson Q9 a0) (by omega) (by decide) (by decide) (Nat.le_of_ble_eq_true rfl) (fun x1 => ?_)
  refine tw_if_ne (k := 2) 9 rfl (by decide) ?_ ?_
  · refine tw_aload_n (k := 5) rfl rfl ?_
    refine tw_callU (k := 6) (d' := 1) (mc' := 0) (ms' := 0) tw_cI tw_cIi [] rfl rfl (t := 8) rfl wu_RX9_62_X7_lastTaken_8 mo_X7_lastTaken (by decide +kernel) rfl (fun Q9 => K_X7_lastTaken Q9 a0) (by omega) (by decide) (by decide) (Nat.le_of_ble_eq_true rfl) (fun x2 => ?_)
    refine tw_ist_n (k := 7) [some (.ref a0), some (.int x2), none] rfl (Nat.le_of_ble_eq_true rfl) rfl rfl ?_
    refine tw_aload_n (k := 8) rfl rfl ?_
    refine tw_iload_n (k := 9) rfl rfl ?_
    refine tw_callU (k := 10) (d' := 1) (mc' := 0) (ms' := 0) tw_cI tw_cIi [.int x2] rfl rfl (t := 8) rfl wu_RX9_79_X7_isNumber_8 mo_X7_isNumber (by decide +kernel) rfl (fun Q9 => K_X7_isNumber Q9 a0 x2) (by omega) (by decide) (by decide) (Nat.le_of_ble_eq_true rfl) (fun x3 => ?_)
    refine tw_if_ne (k := 11) 29 rfl (by decide) ?_ ?_
    · refine tw_iconst (k := 15) (0 : Int32) rfl (by decide) ?_
      exact tw_zreturn (k := 16) rfl rfl (by decide) (by decide)
    · refine tw_aload_n (k := 12) rfl rfl ?_
      refine tw_callV (k := 13) (d' := 2) (mc' := 0) (ms' := 0) tw_cI tw_cIi [] rfl rfl wv_RX9_76_X9_takePerson mo_X9_takePerson (t := 8) rfl rfl rfl (fun Q9 => K_X9_takePerson Q9 a0) (by omega) (by decide) (by decide) (Nat.le_of_ble_eq_true rfl) (fun x4 => ?_)
      refine tw_if_ne (k := 14) 31 rfl (by decide) ?_ ?_
      · refine tw_aload_n (k := 17) rfl rfl ?_
        refine tw_callU (k := 18) (d' := 1) (mc' := 0) (ms' := 0) tw_cI tw_cIi [] rfl rfl (t := 8) rfl wu_RX9_62_X7_lastTaken_8 mo_X7_lastTaken (by decide +kernel) rfl (fun Q9 => K_X7_lastTaken Q9 a0) (by omega) (by decide) (by decide) (Nat.le_of_ble_eq_true rfl) (fun x5 => ?_)
        refine tw_ist_n (k := 19) [some (.ref a0), some (.int x2), some (.int x5)] rfl (Nat.le_of_ble_eq_true rfl) rfl rfl ?_
        refine tw_aload_n (k := 20) rfl rfl ?_
        refine tw_iconst (k := 21) (0 : Int32) rfl (by decide) ?_
        refine tw_bipush (k := 22) (9 : Int32) rfl (by decide) ?_
        refine tw_callU (k := 23) (d' := 1) (mc' := 0) (ms' := 0) tw_cI tw_cIi [.int (0 : Int32), .int (9 : Int32)] rfl rfl (t := 8) rfl wu_RX9_58_X7_takeNumber_8 mo_X7_takeNumber (by decide +kernel) rfl (fun Q9 => K_X7_takeNumber Q9 a0 (0 : Int32) (9 : Int32)) (by omega) (by decide) (by decide) (Nat.le_of_ble_eq_true rfl) (fun x6 => ?_)
        refine tw_if_ne (k := 24) 48 rfl (by decide) ?_ ?_
        · refine tw_aload_n (k := 27) rfl rfl ?_
          refine tw_getR (k := 28) rfl fl_RX9_9 (fun x7 => ?_)
          refine tw_iload_n (k := 29) rfl rfl ?_
          refine tw_iload_n (k := 30) rfl rfl ?_
          refine tw_aload_n (k := 31) rfl rfl ?_
          refine tw_callU (k := 32) (d' := 1) (mc' := 0) (ms' := 0) tw_cI tw_cIi [] rfl rfl (t := 8) rfl wu_RX9_62_X7_lastTaken_8 mo_X7_lastTaken (by decide +kernel) rfl (fun Q9 => K_X7_lastTaken Q9 a0) (by omega) (by decide) (by decide) (Nat.le_of_ble_eq_true rfl) (fun x8 => ?_)
          refine tw_callV (k := 33) (d' := 2) (mc' := 0) (ms' := 0) tw_cU tw_cUi [.int x2, .int x5, .int x8] rfl rfl wv_RX9_83_X8_setGuess mo_X8_setGuess (t := 7) rfl rfl rfl (fun Q9 => K_X8_setGuess Q9 x7 x2 x5 x8) (by omega) (by decide) (by decide) (Nat.le_of_ble_eq_true rfl) (fun u9 => ?_)
          refine tw_iconst (k := 34) (1 : Int32) rfl (by decide) ?_
          exact tw_zreturn (k := 35) rfl rfl (by decide) (by decide)
        · refine tw_iconst (k := 25) (0 : Int32) rfl (by decide) ?_
          exact tw_zreturn (k := 26) rfl rfl (by decide) (by decide)
      · refine tw_iconst (k := 15) (0 : Int32) rfl (by decide) ?_
        exact tw_zreturn (k := 16) rfl rfl (by decide) (by decide)
  · refine tw_iconst (k := 3) (0 : Int32) rfl (by decide) ?_
    exact tw_zreturn (k := 4) rfl rfl (by decide) (by decide)
def mX9_takeRopeLine : tw_MD := (yX9_takeRopeLine, cX9_takeRopeLine, 3, (some FieldType.boolean), [(0, .aload_n 0, 1, 1), (1, .iconst 0, 1, 2), (2, .iconst 1, 1, 3), (3, .invokevirtual 58, 3, 6), (6, .ifCond .ne 5, 3, 9), (9, .iconst 0, 1, 10), (10, .ireturn, 1, 11), (11, .aload_n 0, 1, 12), (12, .invokevirtual 62, 3, 15), (15, .istore_n 1, 1, 16), (16, .aload_n 0, 1, 17), (17, .iconst 0, 1, 18), (18, .bipush 11, 2, 20), (20, .invokevirtual 58, 3, 23), (23, .ifCond .ne 5, 3, 26), (26, .iconst 0, 1, 27), (27, .ireturn, 1, 28), (28, .aload_n 0, 1, 29), (29, .invokevirtual 62, 3, 32), (32, .istore_n 2, 1, 33), (33, .aload_n 0, 1, 34), (34, .aload_n 0, 1, 35), (35, .getfield 9, 3, 38), (38, .iconst 1, 1, 39), (39, .iload_n 1, 1, 40), (40, .isub, 1, 41), (41, .iload_n 2, 1, 42), (42, .invokevirtual 87, 3, 45), (45, .invokevirtual 79, 3, 48), (48, .ifCond .ne 10, 3, 51), (51, .aload_n 0, 1, 52), (52, .invokevirtual 76, 3, 55), (55, .ifCond .ne 5, 3, 58), (58, .iconst 0, 1, 59), (59, .ireturn, 1, 60), (60, .aload_n 0, 1, 61), (61, .getfield 9, 3, 64), (64, .iload_n 1, 1, 65), (65, .iload_n 2, 1, 66), (66, .aload_n 0, 1, 67), (67, .invokevirtual 62, 3, 70), (70, .invokevirtual 91, 3, 73), (73, .iconst 1, 1, 74), (74, .ireturn, 1, 75)], [])
theorem mo_X9_takeRopeLine : tw_mok mX9_takeRopeLine 0 := ⟨plainFor_of_name (by decide +kernel), by decide +kernel, by decide +kernel, by decide +kernel, by decide +kernel⟩
theorem dk_X9_takeRopeLine : tw_dk mX9_takeRopeLine := by unfold tw_dk; decide +kernel
theorem wv_RX9_91_X8_put : tw_wV RX9 91 mX8_put := ⟨List.mem_of_getElem? (i := 1098) (by decide +kernel), List.mem_of_getElem? (i := 1099) (by decide +kernel), List.mem_of_getElem? (i := 1100) (by decide +kernel), List.mem_of_getElem? (i := 126) (by decide +kernel), List.mem_of_getElem? (i := 1101) (by decide +kernel)⟩
theorem wv_RX9_87_X8_planned : tw_wV RX9 87 mX8_planned := ⟨List.mem_of_getElem? (i := 1097) (by decide +kernel), List.mem_of_getElem? (i := 746) (by decide +kernel), List.mem_of_getElem? (i := 747) (by decide +kernel), List.mem_of_getElem? (i := 126) (by decide +kernel), List.mem_of_getElem? (i := 748) (by decide +kernel)⟩
set_option maxRecDepth 20000 in
theorem K_X9_takeRopeLine {g : tw_Gx} (Q : tw_Rs → tw_Mem → Prop) (a0 : Nat) : tw_Kt g mX9_takeRopeLine 3 0 0 [.ref a0] Q (f_X9_takeRopeLine a0 (fun v => Q (.inl (some (.int v))))) := by
  refine tw_mkK (L := [some (.ref a0), none, none]) mo_X9_takeRopeLine dk_X9_takeRopeLine rfl (Nat.le_of_ble_eq_true rfl) rfl ?_
  unfold f_X9_takeRopeLine
  refine tw_aload_n (k := 0) rfl rfl ?_
  refine tw_iconst (k := 1) (0 : Int32) rfl (by decide) ?_
  refine tw_iconst (k := 2) (1 : Int32) rfl (by decide) ?_
  refine tw_callU (k := 3) (d' := 1) (mc' := 0) (ms' := 0) tw_cI tw_cIi [.int (0 : Int32), .int (1 : Int32)] rfl rfl (t := 8) rfl wu_RX9_58_X7_takeNumber_8 mo_X7_takeNumber (by decide +kernel) rfl (fun Q9 => K_X7_takeNumber Q9 a0 (0 : Int32) (1 : Int32)) (by omega) (by decide) (by decide) (Nat.le_of_ble_eq_true rfl) (fun x1 => ?_)
  refine tw_if_ne (k := 4) 11 rfl (by decide) ?_ ?_
  · refine tw_aload_n (k := 7) rfl rfl ?_
    refine tw_callU (k := 8) (d' := 1) (mc' := 0) (ms' := 0) tw_cI tw_cIi [] rfl rfl (t := 8) rfl wu_RX9_62_X7_lastTaken_8 mo_X7_lastTaken (by decide +kernel) rfl (fun Q9 => K_X7_lastTaken Q9 a0) (by omega) (by decide) (by decide) (Nat.le_of_ble_eq_true rfl) (fun x2 => ?_)
    refine tw_ist_n (k := 9) [some (.ref a0), some (.int x2), none] rfl (Nat.le_of_ble_eq_true rfl) rfl rfl ?_
    refine tw_aload_n (k := 10) rfl rfl ?_
    refine tw_iconst (k := 11) (0 : Int32) rfl (by decide) ?_
    refine tw_bipush (k := 12) (11 : Int32) rfl (by decide) ?_
    refine tw_callU (k := 13) (d' := 1) (mc' := 0) (ms' := 0) tw_cI tw_cIi [.int (0 : Int32), .int (11 : Int32)] rfl rfl (t := 8) rfl wu_RX9_58_X7_takeNumber_8 mo_X7_takeNumber (by decide +kernel) rfl (fun Q9 => K_X7_takeNumber Q9 a0 (0 : Int32) (11 : Int32)) (by omega) (by decide) (by decide) (Nat.le_of_ble_eq_true rfl) (fun x3 => ?_)
    refine tw_if_ne (k := 14) 28 rfl (by decide) ?_ ?_
    · refine tw_aload_n (k := 17) rfl rfl ?_
      refine tw_callU (k := 18) (d' := 1) (mc' := 0) (ms' := 0) tw_cI tw_cIi [] rfl rfl (t := 8) rfl wu_RX9_62_X7_lastTaken_8 mo_X7_lastTaken (by decide +kernel) rfl (fun Q9 => K_X7_lastTaken Q9 a0) (by omega) (by decide) (by decide) (Nat.le_of_ble_eq_true rfl) (fun x4 => ?_)
      refine tw_ist_n (k := 19) [some (.ref a0), some (.int x2), some (.int x4)] rfl (Nat.le_of_ble_eq_true rfl) rfl rfl ?_
      refine tw_aload_n (k := 20) rfl rfl ?_
      refine tw_aload_n (k := 21) rfl rfl ?_
      refine tw_getR (k := 22) rfl fl_RX9_9 (fun x5 => ?_)
      refine tw_iconst (k := 23) (1 : Int32) rfl (by decide) ?_
      refine tw_iload_n (k := 24) rfl rfl ?_
      refine tw_isub (k := 25) rfl ?_
      refine tw_iload_n (k := 26) rfl rfl ?_
      refine tw_callV (k := 27) (d' := 2) (mc' := 0) (ms' := 0) tw_cI tw_cIi [.int ((1 : Int32) - x2), .int x4] rfl rfl wv_RX9_87_X8_planned mo_X8_planned (t := 7) rfl rfl rfl (fun Q9 => K_X8_planned Q9 x5 ((1 : Int32) - x2) x4) (by omega) (by decide) (by decide) (Nat.le_of_ble_eq_true rfl) (fun x6 => ?_)
      refine tw_callU (k := 28) (d' := 1) (mc' := 0) (ms' := 0) tw_cI tw_cIi [.int x6] rfl rfl (t := 8) rfl wu_RX9_79_X7_isNumber_8 mo_X7_isNumber (by decide +kernel) rfl (fun Q9 => K_X7_isNumber Q9 a0 x6) (by omega) (by decide) (by decide) (Nat.le_of_ble_eq_true rfl) (fun x7 => ?_)
      refine tw_if_ne (k := 29) 58 rfl (by decide) ?_ ?_
      · refine tw_iconst (k := 33) (0 : Int32) rfl (by decide) ?_
        exact tw_zreturn (k := 34) rfl rfl (by decide) (by decide)
      · refine tw_aload_n (k := 30) rfl rfl ?_
        refine tw_callV (k := 31) (d' := 2) (mc' := 0) (ms' := 0) tw_cI tw_cIi [] rfl rfl wv_RX9_76_X9_takePerson mo_X9_takePerson (t := 8) rfl rfl rfl (fun Q9 => K_X9_takePerson Q9 a0) (by omega) (by decide) (by decide) (Nat.le_of_ble_eq_true rfl) (fun x8 => ?_)
        refine tw_if_ne (k := 32) 60 rfl (by decide) ?_ ?_
        · refine tw_aload_n (k := 35) rfl rfl ?_
          refine tw_getR (k := 36) rfl fl_RX9_9 (fun x9 => ?_)
          refine tw_iload_n (k := 37) rfl rfl ?_
          refine tw_iload_n (k := 38) rfl rfl ?_
          refine tw_aload_n (k := 39) rfl rfl ?_
          refine tw_callU (k := 40) (d' := 1) (mc' := 0) (ms' := 0) tw_cI tw_cIi [] rfl rfl (t := 8) rfl wu_RX9_62_X7_lastTaken_8 mo_X7_lastTaken (by decide +kernel) rfl (fun Q9 => K_X7_lastTaken Q9 a0) (by omega) (by decide) (by decide) (Nat.le_of_ble_eq_true rfl) (fun x10 => ?_)
          refine tw_callV (k := 41) (d' := 2) (mc' := 0) (ms' := 0) tw_cU tw_cUi [.int x2, .int x4, .int x10] rfl rfl wv_RX9_91_X8_put mo_X8_put (t := 7) rfl rfl rfl (fun Q9 => K_X8_put Q9 x9 x2 x4 x10) (by omega) (by decide) (by decide) (Nat.le_of_ble_eq_true rfl) (fun u11 => ?_)
          refine tw_iconst (k := 42) (1 : Int32) rfl (by decide) ?_
          exact tw_zreturn (k := 43) rfl rfl (by decide) (by decide)
        · refine tw_iconst (k := 33) (0 : Int32) rfl (by decide) ?_
          exact tw_zreturn (k := 34) rfl rfl (by decide) (by decide)
    · refine tw_iconst (k := 15) (0 : Int32) rfl (by decide) ?_
      exact tw_zreturn (k := 16) rfl rfl (by decide) (by decide)
  · refine tw_iconst (k := 5) (0 : Int32) rfl (by decide) ?_
    exact tw_zreturn (k := 6) rfl rfl (by decide) (by decide)
def mX9_takeDoubtLine : tw_MD := (yX9_takeDoubtLine, cX9_takeDoubtLine, 1, (some FieldType.boolean), [(0, .aload_n 0, 1, 1), (1, .iconst 1, 1, 2), (2, .bipush 9, 2, 4), (4, .invokevirtual 58, 3, 7), (7, .ifCond .ne 5, 3, 10), (10, .iconst 0, 1, 11), (11, .ireturn, 1, 12), (12, .aload_n 0, 1, 13), (13, .getfield 9, 3, 16), (16, .aload_n 0, 1, 17), (17, .invokevirtual 62, 3, 20), (20, .putfield 94, 3, 23), (23, .iconst 1, 1, 24), (24, .ireturn, 1, 25)], [])
theorem mo_X9_takeDoubtLine : tw_mok mX9_takeDoubtLine 0 := ⟨plainFor_of_name (by decide +kernel), by decide +kernel, by decide +kernel, by decide +kernel, by decide +kernel⟩
theorem dk_X9_takeDoubtLine : tw_dk mX9_takeDoubtLine := by unfold tw_dk; decide +kernel
theorem fl_RX9_94 : tw_fl RX9 94 50 := Or.inr ⟨"TwinRopes", List.mem_of_getElem? (i := 225) (by decide +kernel)⟩
theorem wf_X9_takeDoubtLine_94 : tw_wf mX9_takeDoubtLine 94 50 := Or.inl rfl
set_option maxRecDepth 20000 in
theorem K_X9_takeDoubtLine {g : tw_Gx} (Q : tw_Rs → tw_Mem → Prop) (a0 : Nat) : tw_Kt g mX9_takeDoubtLine 2 0 0 [.ref a0] Q (f_X9_takeDoubtLine a0 (fun v => Q (.inl (some (.int v))))) := by
  refine tw_mkK (L := [some (.ref a0)]) mo_X9_takeDoubtLine dk_X9_takeDoubtLine rfl (Nat.le_of_ble_eq_true rfl) rfl ?_
  unfold f_X9_takeDoubtLine
  refine tw_aload_n (k := 0) rfl rfl ?_
  refine tw_iconst (k := 1) (1 : Int32) rfl (by decide) ?_
  refine tw_bipush (k := 2) (9 : Int32) rfl (by decide) ?_
  refine tw_callU (k := 3) (d' := 1) (mc' := 0) (ms' := 0) tw_cI tw_cIi [.int (1 : Int32), .int (9 : Int32)] rfl rfl (t := 8) rfl wu_RX9_58_X7_takeNumber_8 mo_X7_takeNumber (by decide +kernel) rfl (fun Q9 => K_X7_takeNumber Q9 a0 (1 : Int32) (9 : Int32)) (by omega) (by decide) (by decide) (Nat.le_of_ble_eq_true rfl) (fun x1 => ?_)
  refine tw_if_ne (k := 4) 12 rfl (by decide) ?_ ?_
  · refine tw_aload_n (k := 7) rfl rfl ?_
    refine tw_getR (k := 8) rfl fl_RX9_9 (fun x2 => ?_)
    refine tw_aload_n (k := 9) rfl rfl ?_
    refine tw_callU (k := 10) (d' := 1) (mc' := 0) (ms' := 0) tw_cI tw_cIi [] rfl rfl (t := 8) rfl wu_RX9_62_X7_lastTaken_8 mo_X7_lastTaken (by decide +kernel) rfl (fun Q9 => K_X7_lastTaken Q9 a0) (by omega) (by decide) (by decide) (Nat.le_of_ble_eq_true rfl) (fun x3 => ?_)
    refine tw_putI (k := 11) rfl fl_RX9_94 wf_X9_takeDoubtLine_94 (by decide +kernel) ?_
    refine tw_iconst (k := 12) (1 : Int32) rfl (by decide) ?_
    exact tw_zreturn (k := 13) rfl rfl (by decide) (by decide)
  · refine tw_iconst (k := 5) (0 : Int32) rfl (by decide) ?_
    exact tw_zreturn (k := 6) rfl rfl (by decide) (by decide)
def mX9_takeHourLine : tw_MD := (yX9_takeHourLine, cX9_takeHourLine, 1, (some FieldType.boolean), [(0, .aload_n 0, 1, 1), (1, .iconst 0, 1, 2), (2, .bipush 11, 2, 4), (4, .invokevirtual 58, 3, 7), (7, .ifCond .ne 5, 3, 10), (10, .iconst 0, 1, 11), (11, .ireturn, 1, 12), (12, .aload_n 0, 1, 13), (13, .getfield 9, 3, 16), (16, .aload_n 0, 1, 17), (17, .invokevirtual 62, 3, 20), (20, .putfield 96, 3, 23), (23, .iconst 1, 1, 24), (24, .ireturn, 1, 25)], [])
theorem mo_X9_takeHourLine : tw_mok mX9_takeHourLine 0 := ⟨plainFor_of_name (by decide +kernel), by decide +kernel, by decide +kernel, by decide +kernel, by decide +kernel⟩
theorem dk_X9_takeHourLine : tw_dk mX9_takeHourLine := by unfold tw_dk; decide +kernel
theorem fl_RX9_96 : tw_fl RX9 96 48 := Or.inr ⟨"TwinRopes", List.mem_of_getElem? (i := 217) (by decide +kernel)⟩
theorem wf_X9_takeHourLine_96 : tw_wf mX9_takeHourLine 96 48 := Or.inl rfl
set_option maxRecDepth 20000 in
theorem K_X9_takeHourLine {g : tw_Gx} (Q : tw_Rs → tw_Mem → Prop) (a0 : Nat) : tw_Kt g mX9_takeHourLine 2 0 0 [.ref a0] Q (f_X9_takeHourLine a0 (fun v => Q (.inl (some (.int v))))) := by
  refine tw_mkK (L := [some (.ref a0)]) mo_X9_takeHourLine dk_X9_takeHourLine rfl (Nat.le_of_ble_eq_true rfl) rfl ?_
  unfold f_X9_takeHourLine
  refine tw_aload_n (k := 0) rfl rfl ?_
  refine tw_iconst (k := 1) (0 : Int32) rfl (by decide) ?_
  refine tw_bipush (k := 2) (11 : Int32) rfl (by decide) ?_
  refine tw_callU (k := 3) (d' := 1) (mc' := 0) (ms' := 0) tw_cI tw_cIi [.int (0 : Int32), .int (11 : Int32)] rfl rfl (t := 8) rfl wu_RX9_58_X7_takeNumber_8 mo_X7_takeNumber (by decide +kernel) rfl (fun Q9 => K_X7_takeNumber Q9 a0 (0 : Int32) (11 : Int32)) (by omega) (by decide) (by decide) (Nat.le_of_ble_eq_true rfl) (fun x1 => ?_)
  refine tw_if_ne (k := 4) 12 rfl (by decide) ?_ ?_
  · refine tw_aload_n (k := 7) rfl rfl ?_
    refine tw_getR (k := 8) rfl fl_RX9_9 (fun x2 => ?_)
    refine tw_aload_n (k := 9) rfl rfl ?_
    refine tw_callU (k := 10) (d' := 1) (mc' := 0) (ms' := 0) tw_cI tw_cIi [] rfl rfl (t := 8) rfl wu_RX9_62_X7_lastTaken_8 mo_X7_lastTaken (by decide +kernel) rfl (fun Q9 => K_X7_lastTaken Q9 a0) (by omega) (by decide) (by decide) (Nat.le_of_ble_eq_true rfl) (fun x3 => ?_)
    refine tw_putI (k := 11) rfl fl_RX9_96 wf_X9_takeHourLine_96 (by decide +kernel) ?_
    refine tw_iconst (k := 12) (1 : Int32) rfl (by decide) ?_
    exact tw_zreturn (k := 13) rfl rfl (by decide) (by decide)
  · refine tw_iconst (k := 5) (0 : Int32) rfl (by decide) ?_
    exact tw_zreturn (k := 6) rfl rfl (by decide) (by decide)
def mX9_takeDayLine : tw_MD := (yX9_takeDayLine, cX9_takeDayLine, 1, (some FieldType.boolean), [(0, .aload_n 0, 1, 1), (1, .iconst 0, 1, 2), (2, .sipush 999, 3, 5), (5, .invokevirtual 58, 3, 8), (8, .ifCond .ne 5, 3, 11), (11, .iconst 0, 1, 12), (12, .ireturn, 1, 13), (13, .aload_n 0, 1, 14), (14, .getfield 9, 3, 17), (17, .aload_n 0, 1, 18), (18, .invokevirtual 62, 3, 21), (21, .putfield 98, 3, 24), (24, .iconst 1, 1, 25), (25, .ireturn, 1, 26)], [])
theorem mo_X9_takeDayLine : tw_mok mX9_takeDayLine 0 := ⟨plainFor_of_name (by decide +kernel), by decide +kernel, by decide +kernel, by decide +kernel, by decide +kernel⟩
theorem dk_X9_takeDayLine : tw_dk mX9_takeDayLine := by unfold tw_dk; decide +kernel
theorem fl_RX9_98 : tw_fl RX9 98 49 := Or.inr ⟨"TwinRopes", List.mem_of_getElem? (i := 221) (by decide +kernel)⟩
theorem wf_X9_takeDayLine_98 : tw_wf mX9_takeDayLine 98 49 := Or.inl rfl
set_option maxRecDepth 20000 in
theorem K_X9_takeDayLine {g : tw_Gx} (Q : tw_Rs → tw_Mem → Prop) (a0 : Nat) : tw_Kt g mX9_takeDayLine 2 0 0 [.ref a0] Q (f_X9_takeDayLine a0 (fun v => Q (.inl (some (.int v))))) := by
  refine tw_mkK (L := [some (.ref a0)]) mo_X9_takeDayLine dk_X9_takeDayLine rfl (Nat.le_of_ble_eq_true rfl) rfl ?_
  unfold f_X9_takeDayLine
  refine tw_aload_n (k := 0) rfl rfl ?_
  refine tw_iconst (k := 1) (0 : Int32) rfl (by decide) ?_
  refine tw_sipush (k := 2) (999 : Int32) rfl (by decide) ?_
  refine tw_callU (k := 3) (d' := 1) (mc' := 0) (ms' := 0) tw_cI tw_cIi [.int (0 : Int32), .int (999 : Int32)] rfl rfl (t := 8) rfl wu_RX9_58_X7_takeNumber_8 mo_X7_takeNumber (by decide +kernel) rfl (fun Q9 => K_X7_takeNumber Q9 a0 (0 : Int32) (999 : Int32)) (by omega) (by decide) (by decide) (Nat.le_of_ble_eq_true rfl) (fun x1 => ?_)
  refine tw_if_ne (k := 4) 13 rfl (by decide) ?_ ?_
  · refine tw_aload_n (k := 7) rfl rfl ?_
    refine tw_getR (k := 8) rfl fl_RX9_9 (fun x2 => ?_)
    refine tw_aload_n (k := 9) rfl rfl ?_
    refine tw_callU (k := 10) (d' := 1) (mc' := 0) (ms' := 0) tw_cI tw_cIi [] rfl rfl (t := 8) rfl wu_RX9_62_X7_lastTaken_8 mo_X7_lastTaken (by decide +kernel) rfl (fun Q9 => K_X7_lastTaken Q9 a0) (by omega) (by decide) (by decide) (Nat.le_of_ble_eq_true rfl) (fun x3 => ?_)
    refine tw_putI (k := 11) rfl fl_RX9_98 wf_X9_takeDayLine_98 (by decide +kernel) ?_
    refine tw_iconst (k := 12) (1 : Int32) rfl (by decide) ?_
    exact tw_zreturn (k := 13) rfl rfl (by decide) (by decide)
  · refine tw_iconst (k := 5) (0 : Int32) rfl (by decide) ?_
    exact tw_zreturn (k := 6) rfl rfl (by decide) (by decide)
def mX9_takeLine : tw_MD := (yX9_takeLine, cX9_takeLine, 1, (some FieldType.boolean), [(0, .aload_n 0, 1, 1), (1, .getfield 9, 3, 4), (4, .getfield 15, 3, 7), (7, .bipush 8, 2, 9), (9, .if_icmp .ge 17, 3, 12), (12, .aload_n 0, 1, 13), (13, .ldc 21, 2, 15), (15, .invokevirtual 23, 3, 18), (18, .ifCond .eq 8, 3, 21), (21, .aload_n 0, 1, 22), (22, .invokevirtual 27, 3, 25), (25, .ireturn, 1, 26), (26, .aload_n 0, 1, 27), (27, .ldc 31, 2, 29), (29, .invokevirtual 23, 3, 32), (32, .ifCond .eq 8, 3, 35), (35, .aload_n 0, 1, 36), (36, .invokevirtual 33, 3, 39), (39, .ireturn, 1, 40), (40, .aload_n 0, 1, 41), (41, .ldc 36, 2, 43), (43, .invokevirtual 23, 3, 46), (46, .ifCond .eq 8, 3, 49), (49, .aload_n 0, 1, 50), (50, .invokevirtual 38, 3, 53), (53, .ireturn, 1, 54), (54, .aload_n 0, 1, 55), (55, .ldc 41, 2, 57), (57, .invokevirtual 23, 3, 60), (60, .ifCond .eq 8, 3, 63), (63, .aload_n 0, 1, 64), (64, .invokevirtual 43, 3, 67), (67, .ireturn, 1, 68), (68, .aload_n 0, 1, 69), (69, .ldc 46, 2, 71), (71, .invokevirtual 23, 3, 74), (74, .ifCond .eq 8, 3, 77), (77, .aload_n 0, 1, 78), (78, .invokevirtual 48, 3, 81), (81, .ireturn, 1, 82), (82, .aload_n 0, 1, 83), (83, .ldc 51, 2, 85), (85, .invokevirtual 23, 3, 88), (88, .ifCond .eq 14, 3, 91), (91, .aload_n 0, 1, 92), (92, .invokevirtual 53, 3, 95), (95, .ifCond .eq 7, 3, 98), (98, .iconst 1, 1, 99), (99, .goto 4, 3, 102), (102, .iconst 0, 1, 103), (103, .ireturn, 1, 104)], [])
theorem mo_X9_takeLine : tw_mok mX9_takeLine 0 := ⟨plainFor_of_name (by decide +kernel), by decide +kernel, by decide +kernel, by decide +kernel, by decide +kernel⟩
theorem dk_X9_takeLine : tw_dk mX9_takeLine := by unfold tw_dk; decide +kernel
theorem ks_RX9_31 : Cond.stringRef RX9 31 "guess" ∈ lw_tbl := List.mem_of_getElem? (i := 1073) (by decide +kernel)
theorem ks_RX9_36 : Cond.stringRef RX9 36 "rope" ∈ lw_tbl := List.mem_of_getElem? (i := 1092) (by decide +kernel)
theorem ks_RX9_41 : Cond.stringRef RX9 41 "doubt" ∈ lw_tbl := List.mem_of_getElem? (i := 1102) (by decide +kernel)
theorem ks_RX9_46 : Cond.stringRef RX9 46 "hour" ∈ lw_tbl := List.mem_of_getElem? (i := 1107) (by decide +kernel)
theorem ks_RX9_51 : Cond.stringRef RX9 51 "day" ∈ lw_tbl := List.mem_of_getElem? (i := 1112) (by decide +kernel)
theorem wv_RX9_53_X9_takeDayLine : tw_wV RX9 53 mX9_takeDayLine := ⟨List.mem_of_getElem? (i := 1113) (by decide +kernel), List.mem_of_getElem? (i := 1115) (by decide +kernel), List.mem_of_getElem? (i := 24) (by decide +kernel), List.mem_of_getElem? (i := 131) (by decide +kernel), List.mem_of_getElem? (i := 1116) (by decide +kernel)⟩
theorem wv_RX9_48_X9_takeHourLine : tw_wV RX9 48 mX9_takeHourLine := ⟨List.mem_of_getElem? (i := 1108) (by decide +kernel), List.mem_of_getElem? (i := 1110) (by decide +kernel), List.mem_of_getElem? (i := 23) (by decide +kernel), List.mem_of_getElem? (i := 131) (by decide +kernel), List.mem_of_getElem? (i := 1111) (by decide +kernel)⟩
theorem wv_RX9_43_X9_takeDoubtLine : tw_wV RX9 43 mX9_takeDoubtLine := ⟨List.mem_of_getElem? (i := 1103) (by decide +kernel), List.mem_of_getElem? (i := 1105) (by decide +kernel), List.mem_of_getElem? (i := 22) (by decide +kernel), List.mem_of_getElem? (i := 131) (by decide +kernel), List.mem_of_getElem? (i := 1106) (by decide +kernel)⟩
theorem wv_RX9_38_X9_takeRopeLine : tw_wV RX9 38 mX9_takeRopeLine := ⟨List.mem_of_getElem? (i := 1093) (by decide +kernel), List.mem_of_getElem? (i := 1095) (by decide +kernel), List.mem_of_getElem? (i := 21) (by decide +kernel), List.mem_of_getElem? (i := 131) (by decide +kernel), List.mem_of_getElem? (i := 1096) (by decide +kernel)⟩
theorem wv_RX9_33_X9_takeGuessLine : tw_wV RX9 33 mX9_takeGuessLine := ⟨List.mem_of_getElem? (i := 1074) (by decide +kernel), List.mem_of_getElem? (i := 1076) (by decide +kernel), List.mem_of_getElem? (i := 19) (by decide +kernel), List.mem_of_getElem? (i := 131) (by decide +kernel), List.mem_of_getElem? (i := 1077) (by decide +kernel)⟩
theorem ks_RX9_21 : Cond.stringRef RX9 21 "person" ∈ lw_tbl := List.mem_of_getElem? (i := 1047) (by decide +kernel)
theorem wv_RX9_27_X9_takePersonLine : tw_wV RX9 27 mX9_takePersonLine := ⟨List.mem_of_getElem? (i := 1051) (by decide +kernel), List.mem_of_getElem? (i := 1053) (by decide +kernel), List.mem_of_getElem? (i := 18) (by decide +kernel), List.mem_of_getElem? (i := 131) (by decide +kernel), List.mem_of_getElem? (i := 1054) (by decide +kernel)⟩
set_option maxRecDepth 20000 in
theorem K_X9_takeLine {g : tw_Gx} (Q : tw_Rs → tw_Mem → Prop) (a0 : Nat) : tw_Kt g mX9_takeLine 7 0 0 [.ref a0] Q (f_X9_takeLine g a0 (fun v => Q (.inl (some (.int v))))) := by
  refine tw_mkK (L := [some (.ref a0)]) mo_X9_takeLine dk_X9_takeLine rfl (Nat.le_of_ble_eq_true rfl) rfl ?_
  unfold f_X9_takeLine
  refine tw_aload_n (k := 0) rfl rfl ?_
  refine tw_getR (k := 1) rfl fl_RX9_9 (fun x1 => ?_)
  refine tw_getI (k := 2) rfl fl_RX9_15 (fun x2 => ?_)
  refine tw_bipush (k := 3) (8 : Int32) rfl (by decide) ?_
  refine tw_join 26 (fun s4 => [some (.ref a0)]) (fun s4 => []) 0 0 (fun s4 => ?_) (fun j3 g3 => ?_)
  · refine tw_aload_n (k := 12) rfl rfl ?_
    refine tw_ldcS (k := 13) rfl ks_RX9_31 (fun t5 => ?_)
    refine tw_callU (k := 14) (d' := 5) (mc' := 0) (ms' := 0) tw_cI tw_cIi [.ref t5] rfl rfl (t := 8) rfl wu_RX9_23_X7_takeWord_8 mo_X7_takeWord (by decide +kernel) rfl (fun Q9 => K_X7_takeWord Q9 a0 t5) (by omega) (by decide) (by decide) (Nat.le_of_ble_eq_true rfl) (fun x6 => ?_)
    refine tw_if_eq (k := 15) 40 rfl (by decide) ?_ ?_
    · refine tw_aload_n (k := 19) rfl rfl ?_
      refine tw_ldcS (k := 20) rfl ks_RX9_36 (fun t7 => ?_)
      refine tw_callU (k := 21) (d' := 5) (mc' := 0) (ms' := 0) tw_cI tw_cIi [.ref t7] rfl rfl (t := 8) rfl wu_RX9_23_X7_takeWord_8 mo_X7_takeWord (by decide +kernel) rfl (fun Q9 => K_X7_takeWord Q9 a0 t7) (by omega) (by decide) (by decide) (Nat.le_of_ble_eq_true rfl) (fun x8 => ?_)
      refine tw_if_eq (k := 22) 54 rfl (by decide) ?_ ?_
      · refine tw_aload_n (k := 26) rfl rfl ?_
        refine tw_ldcS (k := 27) rfl ks_RX9_41 (fun t9 => ?_)
        refine tw_callU (k := 28) (d' := 5) (mc' := 0) (ms' := 0) tw_cI tw_cIi [.ref t9] rfl rfl (t := 8) rfl wu_RX9_23_X7_takeWord_8 mo_X7_takeWord (by decide +kernel) rfl (fun Q9 => K_X7_takeWord Q9 a0 t9) (by omega) (by decide) (by decide) (Nat.le_of_ble_eq_true rfl) (fun x10 => ?_)
        refine tw_if_eq (k := 29) 68 rfl (by decide) ?_ ?_
        · refine tw_aload_n (k := 33) rfl rfl ?_
          refine tw_ldcS (k := 34) rfl ks_RX9_46 (fun t11 => ?_)
          refine tw_callU (k := 35) (d' := 5) (mc' := 0) (ms' := 0) tw_cI tw_cIi [.ref t11] rfl rfl (t := 8) rfl wu_RX9_23_X7_takeWord_8 mo_X7_takeWord (by decide +kernel) rfl (fun Q9 => K_X7_takeWord Q9 a0 t11) (by omega) (by decide) (by decide) (Nat.le_of_ble_eq_true rfl) (fun x12 => ?_)
          refine tw_if_eq (k := 36) 82 rfl (by decide) ?_ ?_
          · refine tw_aload_n (k := 40) rfl rfl ?_
            refine tw_ldcS (k := 41) rfl ks_RX9_51 (fun t13 => ?_)
            refine tw_callU (k := 42) (d' := 5) (mc' := 0) (ms' := 0) tw_cI tw_cIi [.ref t13] rfl rfl (t := 8) rfl wu_RX9_23_X7_takeWord_8 mo_X7_takeWord (by decide +kernel) rfl (fun Q9 => K_X7_takeWord Q9 a0 t13) (by omega) (by decide) (by decide) (Nat.le_of_ble_eq_true rfl) (fun x14 => ?_)
            refine tw_if_eq (k := 43) 102 rfl (by decide) ?_ ?_
            · refine tw_iconst (k := 49) (0 : Int32) rfl (by decide) ?_
              exact tw_zreturn (k := 50) rfl rfl (by decide) (by decide)
            · refine tw_aload_n (k := 44) rfl rfl ?_
              refine tw_callV (k := 45) (d' := 2) (mc' := 0) (ms' := 0) tw_cI tw_cIi [] rfl rfl wv_RX9_53_X9_takeDayLine mo_X9_takeDayLine (t := 8) rfl rfl rfl (fun Q9 => K_X9_takeDayLine Q9 a0) (by omega) (by decide) (by decide) (Nat.le_of_ble_eq_true rfl) (fun x15 => ?_)
              refine tw_if_eq (k := 46) 102 rfl (by decide) ?_ ?_
              · refine tw_iconst (k := 49) (0 : Int32) rfl (by decide) ?_
                exact tw_zreturn (k := 50) rfl rfl (by decide) (by decide)
              · refine tw_iconst (k := 47) (1 : Int32) rfl (by decide) ?_
                refine tw_goto (k := 48) 103 rfl (by decide) ?_
                exact tw_zreturn (k := 50) rfl rfl (by decide) (by decide)
          · refine tw_aload_n (k := 37) rfl rfl ?_
            refine tw_callV (k := 38) (d' := 2) (mc' := 0) (ms' := 0) tw_cI tw_cIi [] rfl rfl wv_RX9_48_X9_takeHourLine mo_X9_takeHourLine (t := 8) rfl rfl rfl (fun Q9 => K_X9_takeHourLine Q9 a0) (by omega) (by decide) (by decide) (Nat.le_of_ble_eq_true rfl) (fun x16 => ?_)
            exact tw_zreturn (k := 39) rfl rfl (by decide) (by decide)
        · refine tw_aload_n (k := 30) rfl rfl ?_
          refine tw_callV (k := 31) (d' := 2) (mc' := 0) (ms' := 0) tw_cI tw_cIi [] rfl rfl wv_RX9_43_X9_takeDoubtLine mo_X9_takeDoubtLine (t := 8) rfl rfl rfl (fun Q9 => K_X9_takeDoubtLine Q9 a0) (by omega) (by decide) (by decide) (Nat.le_of_ble_eq_true rfl) (fun x17 => ?_)
          exact tw_zreturn (k := 32) rfl rfl (by decide) (by decide)
      · refine tw_aload_n (k := 23) rfl rfl ?_
        refine tw_callV (k := 24) (d' := 3) (mc' := 0) (ms' := 0) tw_cI tw_cIi [] rfl rfl wv_RX9_38_X9_takeRopeLine mo_X9_takeRopeLine (t := 8) rfl rfl rfl (fun Q9 => K_X9_takeRopeLine Q9 a0) (by omega) (by decide) (by decide) (Nat.le_of_ble_eq_true rfl) (fun x18 => ?_)
        exact tw_zreturn (k := 25) rfl rfl (by decide) (by decide)
    · refine tw_aload_n (k := 16) rfl rfl ?_
      refine tw_callV (k := 17) (d' := 3) (mc' := 0) (ms' := 0) tw_cI tw_cIi [] rfl rfl wv_RX9_33_X9_takeGuessLine mo_X9_takeGuessLine (t := 8) rfl rfl rfl (fun Q9 => K_X9_takeGuessLine Q9 a0) (by omega) (by decide) (by decide) (Nat.le_of_ble_eq_true rfl) (fun x19 => ?_)
      exact tw_zreturn (k := 18) rfl rfl (by decide) (by decide)
  · refine tw_icmp_ge (k := 4) 26 rfl (by decide) ?_ ?_
    · exact g3 ()
    · refine tw_aload_n (k := 5) rfl rfl ?_
      refine tw_ldcS (k := 6) rfl ks_RX9_21 (fun t20 => ?_)
      refine tw_callU (k := 7) (d' := 5) (mc' := 0) (ms' := 0) tw_cI tw_cIi [.ref t20] rfl rfl (t := 8) rfl wu_RX9_23_X7_takeWord_8 mo_X7_takeWord (by decide +kernel) rfl (fun Q9 => K_X7_takeWord Q9 a0 t20) (by omega) (by decide) (by decide) (Nat.le_of_ble_eq_true rfl) (fun x21 => ?_)
      refine tw_if_eq (k := 8) 26 rfl (by decide) ?_ ?_
      · exact g3 ()
      · refine tw_aload_n (k := 9) rfl rfl ?_
        refine tw_callV (k := 10) (d' := 6) (mc' := 0) (ms' := 0) tw_cI tw_cIi [] rfl rfl wv_RX9_27_X9_takePersonLine mo_X9_takePersonLine (t := 8) rfl rfl rfl (fun Q9 => K_X9_takePersonLine Q9 a0) (by omega) (by decide) (by decide) (Nat.le_of_ble_eq_true rfl) (fun x22 => ?_)
        exact tw_zreturn (k := 11) rfl rfl (by decide) (by decide)
def mX7_firstWrong8 : tw_MD := (yX7_firstWrong, cX7_firstWrong, 3, (some FieldType.int), [(0, .aload_n 0, 1, 1), (1, .invokevirtual 27, 3, 4), (4, .aload_n 0, 1, 5), (5, .invokevirtual 30, 3, 8), (8, .ifCond .eq 5, 3, 11), (11, .iconst (-1), 1, 12), (12, .ireturn, 1, 13), (13, .iconst 0, 1, 14), (14, .istore_n 2, 1, 15), (15, .iload_n 2, 1, 16), (16, .iload_n 1, 1, 17), (17, .if_icmp .ge 44, 3, 20), (20, .aload_n 0, 1, 21), (21, .invokevirtual 34, 3, 24), (24, .ifCond .ne 8, 3, 27), (27, .aload_n 0, 1, 28), (28, .invokevirtual 37, 3, 31), (31, .ireturn, 1, 32), (32, .aload_n 0, 1, 33), (33, .invokevirtual 30, 3, 36), (36, .ifCond .eq 5, 3, 39), (39, .iconst (-1), 1, 40), (40, .ireturn, 1, 41), (41, .aload_n 0, 1, 42), (42, .bipush 59, 2, 44), (44, .invokevirtual 41, 3, 47), (47, .ifCond .ne 8, 3, 50), (50, .aload_n 0, 1, 51), (51, .invokevirtual 37, 3, 54), (54, .ireturn, 1, 55), (55, .iinc 2 1, 3, 58), (58, .goto (-43), 3, 61), (61, .aload_n 0, 1, 62), (62, .invokevirtual 37, 3, 65), (65, .ireturn, 1, 66)], [])
theorem mo_X7_firstWrong8 : tw_mok mX7_firstWrong8 1 := ⟨plainFor_of_name (by decide +kernel), by decide +kernel, by decide +kernel, by decide +kernel, by decide +kernel⟩
theorem dk_X7_firstWrong8 : tw_dk mX7_firstWrong8 := by unfold tw_dk; decide +kernel
theorem wt_RX7_37_X7_place : tw_wT RX7 37 mX7_place := ⟨List.mem_of_getElem? (i := 1117) (by decide +kernel), List.mem_of_getElem? (i := 1119) (by decide +kernel), Or.inl (List.mem_of_getElem? (i := 1118) (by decide +kernel)), List.mem_of_getElem? (i := 130) (by decide +kernel), List.mem_of_getElem? (i := 1120) (by decide +kernel)⟩
theorem wt_RX7_41_X7_takeSign : tw_wT RX7 41 mX7_takeSign := ⟨List.mem_of_getElem? (i := 1121) (by decide +kernel), List.mem_of_getElem? (i := 1011) (by decide +kernel), Or.inr ⟨List.mem_of_getElem? (i := 2463) (by decide +kernel), List.mem_of_getElem? (i := 2464) (by decide +kernel)⟩, List.mem_of_getElem? (i := 130) (by decide +kernel), List.mem_of_getElem? (i := 1012) (by decide +kernel)⟩
theorem wt_RX7_30_X7_isAtEnd : tw_wT RX7 30 mX7_isAtEnd := ⟨List.mem_of_getElem? (i := 914) (by decide +kernel), List.mem_of_getElem? (i := 916) (by decide +kernel), Or.inl (List.mem_of_getElem? (i := 915) (by decide +kernel)), List.mem_of_getElem? (i := 130) (by decide +kernel), List.mem_of_getElem? (i := 917) (by decide +kernel)⟩
theorem wu_RX7_34_X9_takeLine_8 : tw_wU RX7 34 RX9 "TwinRopes$Text" ⟨"TwinRopes$Text", "takeLine", "()Z"⟩ mX9_takeLine := ⟨List.mem_of_getElem? (i := 918) (by decide +kernel), List.mem_of_getElem? (i := 1045) (by decide +kernel), List.mem_of_getElem? (i := 1044) (by decide +kernel), List.mem_of_getElem? (i := 131) (by decide +kernel), List.mem_of_getElem? (i := 1046) (by decide +kernel), List.mem_of_getElem? (i := 920) (by decide +kernel), List.mem_of_getElem? (i := 919) (by decide +kernel), by decide, by decide⟩
theorem wt_RX7_27_X7_split : tw_wT RX7 27 mX7_split := ⟨List.mem_of_getElem? (i := 883) (by decide +kernel), List.mem_of_getElem? (i := 885) (by decide +kernel), Or.inl (List.mem_of_getElem? (i := 884) (by decide +kernel)), List.mem_of_getElem? (i := 130) (by decide +kernel), List.mem_of_getElem? (i := 886) (by decide +kernel)⟩
set_option maxRecDepth 20000 in
theorem K_X7_firstWrong8 {g : tw_Gx} (Q : tw_Rs → tw_Mem → Prop) (a0 : Nat) (a1 : Int32) : tw_Kt g mX7_firstWrong8 8 0 0 [.ref a0, .int a1] Q (f_X7_firstWrong8 g a0 a1 (fun v => Q (.inl (some (.int v))))) := by
  refine tw_mkK (L := [some (.ref a0), some (.int a1), none]) mo_X7_firstWrong8 dk_X7_firstWrong8 rfl (Nat.le_of_ble_eq_true rfl) rfl ?_
  unfold f_X7_firstWrong8
  refine tw_aload_n (k := 0) rfl rfl ?_
  refine tw_callT (k := 1) (d' := 4) (mc' := 0) (ms' := 0) tw_cU tw_cUi [] rfl rfl wt_RX7_27_X7_split mo_X7_split rfl rfl (fun Q9 => K_X7_split Q9 a0) (by omega) (by decide) (by decide) (Nat.le_of_ble_eq_true rfl) (fun u1 => ?_)
  refine tw_aload_n (k := 2) rfl rfl ?_
  refine tw_callT (k := 3) (d' := 1) (mc' := 0) (ms' := 0) tw_cI tw_cIi [] rfl rfl wt_RX7_30_X7_isAtEnd mo_X7_isAtEnd rfl rfl (fun Q9 => K_X7_isAtEnd Q9 a0) (by omega) (by decide) (by decide) (Nat.le_of_ble_eq_true rfl) (fun x2 => ?_)
  refine tw_if_eq (k := 4) 13 rfl (by decide) ?_ ?_
  · refine tw_iconst (k := 7) (0 : Int32) rfl (by decide) ?_
    refine tw_ist_n (k := 8) [some (.ref a0), some (.int a1), some (.int (0 : Int32))] rfl (Nat.le_of_ble_eq_true rfl) rfl rfl ?_
    refine tw_loop (fun s4 => [some (.ref a0), some (.int a1), some (.int s4)]) (fun s4 => []) (fun r3 h3 s4 => ?_) _ rfl rfl
    refine tw_iload_n (k := 9) rfl rfl ?_
    refine tw_iload_n (k := 10) rfl rfl ?_
    refine tw_icmp_ge (k := 11) 61 rfl (by decide) ?_ ?_
    · refine tw_aload_n (k := 32) rfl rfl ?_
      refine tw_callT (k := 33) (d' := 1) (mc' := 0) (ms' := 0) tw_cI tw_cIi [] rfl rfl wt_RX7_37_X7_place mo_X7_place rfl rfl (fun Q9 => K_X7_place Q9 a0) (by omega) (by decide) (by decide) (Nat.le_of_ble_eq_true rfl) (fun x5 => ?_)
      exact tw_ireturn (k := 34) rfl rfl (by decide) (by decide)
    · refine tw_aload_n (k := 12) rfl rfl ?_
      refine tw_callU (k := 13) (d' := 7) (mc' := 0) (ms' := 0) tw_cI tw_cIi [] rfl rfl (t := 8) rfl wu_RX7_34_X9_takeLine_8 mo_X9_takeLine (by decide +kernel) rfl (fun Q9 => K_X9_takeLine Q9 a0) (by omega) (by decide) (by decide) (Nat.le_of_ble_eq_true rfl) (fun x6 => ?_)
      refine tw_if_ne (k := 14) 32 rfl (by decide) ?_ ?_
      · refine tw_aload_n (k := 18) rfl rfl ?_
        refine tw_callT (k := 19) (d' := 1) (mc' := 0) (ms' := 0) tw_cI tw_cIi [] rfl rfl wt_RX7_30_X7_isAtEnd mo_X7_isAtEnd rfl rfl (fun Q9 => K_X7_isAtEnd Q9 a0) (by omega) (by decide) (by decide) (Nat.le_of_ble_eq_true rfl) (fun x7 => ?_)
        refine tw_if_eq (k := 20) 41 rfl (by decide) ?_ ?_
        · refine tw_aload_n (k := 23) rfl rfl ?_
          refine tw_bipush (k := 24) (59 : Int32) rfl (by decide) ?_
          refine tw_callT (k := 25) (d' := 1) (mc' := 0) (ms' := 0) tw_cI tw_cIi [.int (59 : Int32)] rfl rfl wt_RX7_41_X7_takeSign mo_X7_takeSign rfl rfl (fun Q9 => K_X7_takeSign Q9 a0 (59 : Int32)) (by omega) (by decide) (by decide) (Nat.le_of_ble_eq_true rfl) (fun x8 => ?_)
          refine tw_if_ne (k := 26) 55 rfl (by decide) ?_ ?_
          · refine tw_inc (k := 30) (1 : Int32) [some (.ref a0), some (.int a1), some (.int (s4 + (1 : Int32)))] rfl rfl (by decide) (Nat.le_of_ble_eq_true rfl) rfl rfl ?_
            refine tw_goto (k := 31) 15 rfl (by decide) ?_
            exact h3 (s4 + (1 : Int32))
          · refine tw_aload_n (k := 27) rfl rfl ?_
            refine tw_callT (k := 28) (d' := 1) (mc' := 0) (ms' := 0) tw_cI tw_cIi [] rfl rfl wt_RX7_37_X7_place mo_X7_place rfl rfl (fun Q9 => K_X7_place Q9 a0) (by omega) (by decide) (by decide) (Nat.le_of_ble_eq_true rfl) (fun x9 => ?_)
            exact tw_ireturn (k := 29) rfl rfl (by decide) (by decide)
        · refine tw_iconst (k := 21) (-1 : Int32) rfl (by decide) ?_
          exact tw_ireturn (k := 22) rfl rfl (by decide) (by decide)
      · refine tw_aload_n (k := 15) rfl rfl ?_
        refine tw_callT (k := 16) (d' := 1) (mc' := 0) (ms' := 0) tw_cI tw_cIi [] rfl rfl wt_RX7_37_X7_place mo_X7_place rfl rfl (fun Q9 => K_X7_place Q9 a0) (by omega) (by decide) (by decide) (Nat.le_of_ble_eq_true rfl) (fun x10 => ?_)
        exact tw_ireturn (k := 17) rfl rfl (by decide) (by decide)
  · refine tw_iconst (k := 5) (-1 : Int32) rfl (by decide) ?_
    exact tw_ireturn (k := 6) rfl rfl (by decide) (by decide)
def mX9_init : tw_MD := (yX9_init, cX9_init, 3, none, [(0, .aload_n 0, 1, 1), (1, .aload_n 1, 1, 2), (2, .invokespecial 3, 3, 5), (5, .aload_n 0, 1, 6), (6, .aload_n 2, 1, 7), (7, .putfield 9, 3, 10), (10, .return_, 1, 11)], [])
theorem mo_X9_init : tw_mok mX9_init 2 := ⟨plainFor_of_name (by decide +kernel), by decide +kernel, by decide +kernel, by decide +kernel, by decide +kernel⟩
theorem dk_X9_init : tw_dk mX9_init := by unfold tw_dk; decide +kernel
theorem wf_X9_init_9 : tw_wf mX9_init 9 53 := Or.inr ⟨by decide +kernel, by decide +kernel, List.mem_of_getElem? (i := 290) (by decide +kernel)⟩
theorem wi_RX9_3_X7_init : tw_wI RX9 3 mX7_init := ⟨List.mem_of_getElem? (i := 286) (by decide +kernel), List.mem_of_getElem? (i := 287) (by decide +kernel), List.mem_of_getElem? (i := 130) (by decide +kernel), List.mem_of_getElem? (i := 288) (by decide +kernel)⟩
set_option maxRecDepth 20000 in
theorem K_X9_init {g : tw_Gx} (Q : tw_Rs → tw_Mem → Prop) (a0 : Nat) (a1 : Nat) (a2 : Nat) : tw_Kt g mX9_init 2 3 1203 [.ref a0, .ref a1, .ref a2] Q (f_X9_init a0 a1 a2 (fun v => Q (.inl none))) := by
  refine tw_mkK (L := [some (.ref a0), some (.ref a1), some (.ref a2)]) mo_X9_init dk_X9_init rfl (Nat.le_of_ble_eq_true rfl) rfl ?_
  unfold f_X9_init
  refine tw_aload_n (k := 0) rfl rfl ?_
  refine tw_aload_n (k := 1) rfl rfl ?_
  refine tw_callI (k := 2) (d' := 1) (mc' := 3) (ms' := 1203) [.ref a1] rfl rfl wi_RX9_3_X7_init mo_X7_init rfl rfl rfl (fun Q9 => K_X7_init Q9 a0 a1) (by omega) (by decide) (by decide) (Nat.le_of_ble_eq_true rfl) ?_
  refine tw_aload_n (k := 3) rfl rfl ?_
  refine tw_aload_n (k := 4) rfl rfl ?_
  refine tw_putR (k := 5) (ty := (.object "TwinRopes$Town")) rfl fl_RX9_9 wf_X9_init_9 (by decide +kernel) rfl rfl ?_
  exact tw_return (k := 6) rfl rfl (by decide) (by decide)
