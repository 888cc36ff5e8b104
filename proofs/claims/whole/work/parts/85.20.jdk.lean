def mJ6_numberOfTrailingZeros_0f7a4 : tw_MD := (yJ6_numberOfTrailingZeros_0f7a4, cJ6_numberOfTrailingZeros_0f7a4, 2, (some FieldType.int), [(0, .iload_n 0, 1, 1), (1, .iconst (-1), 1, 2), (2, .ixor, 1, 3), (3, .iload_n 0, 1, 4), (4, .iconst 1, 1, 5), (5, .isub, 1, 6), (6, .iand, 1, 7), (7, .istore_n 0, 1, 8), (8, .iload_n 0, 1, 9), (9, .ifCond .gt 8, 3, 12), (12, .iload_n 0, 1, 13), (13, .bipush 32, 2, 15), (15, .iand, 1, 16), (16, .ireturn, 1, 17), (17, .iconst 1, 1, 18), (18, .istore_n 1, 1, 19), (19, .iload_n 0, 1, 20), (20, .ldc_w 264, 3, 23), (23, .if_icmp .le 11, 3, 26), (26, .iinc 1 16, 3, 29), (29, .iload_n 0, 1, 30), (30, .bipush 16, 2, 32), (32, .iushr, 1, 33), (33, .istore_n 0, 1, 34), (34, .iload_n 0, 1, 35), (35, .sipush 256, 3, 38), (38, .if_icmp .le 11, 3, 41), (41, .iinc 1 8, 3, 44), (44, .iload_n 0, 1, 45), (45, .bipush 8, 2, 47), (47, .iushr, 1, 48), (48, .istore_n 0, 1, 49), (49, .iload_n 0, 1, 50), (50, .bipush 16, 2, 52), (52, .if_icmp .le 10, 3, 55), (55, .iinc 1 4, 3, 58), (58, .iload_n 0, 1, 59), (59, .iconst 4, 1, 60), (60, .iushr, 1, 61), (61, .istore_n 0, 1, 62), (62, .iload_n 0, 1, 63), (63, .iconst 4, 1, 64), (64, .if_icmp .le 10, 3, 67), (67, .iinc 1 2, 3, 70), (70, .iload_n 0, 1, 71), (71, .iconst 2, 1, 72), (72, .iushr, 1, 73), (73, .istore_n 0, 1, 74), (74, .iload_n 1, 1, 75), (75, .iload_n 0, 1, 76), (76, .iconst 1, 1, 77), (77, .iushr, 1, 78), (78, .iadd, 1, 79), (79, .ireturn, 1, 80)], [])
theorem mo_J6_numberOfTrailingZeros_0f7a4 : tw_mok mJ6_numberOfTrailingZeros_0f7a4 1 := ⟨plainFor_of_name (by decide +kernel), by decide +kernel, by decide +kernel, by decide +kernel, by decide +kernel⟩
theorem dk_J6_numberOfTrailingZeros_0f7a4 : tw_dk mJ6_numberOfTrailingZeros_0f7a4 := by unfold tw_dk; decide +kernel
theorem kc_RJ6_264 : Cond.constant RJ6 264 (65536 : Int32) ∈ lw_tbl := List.mem_of_getElem? (i := 2300) (by decide +kernel)
set_option maxRecDepth 20000 in
theorem K_J6_numberOfTrailingZeros_0f7a4 {g : tw_Gx} (Q : tw_Rs → tw_Mem → Prop) (a0 : Int32) : tw_Kt g mJ6_numberOfTrailingZeros_0f7a4 1 0 0 [.int a0] Q (f_J6_numberOfTrailingZeros_0f7a4 a0 (fun v => Q (.inl (some (.int v))))) := by
  refine tw_mkK (L := [some (.int a0), none]) mo_J6_numberOfTrailingZeros_0f7a4 dk_J6_numberOfTrailingZeros_0f7a4 rfl (Nat.le_of_ble_eq_true rfl) rfl ?_
  unfold f_J6_numberOfTrailingZeros_0f7a4
  refine tw_iload_n (k := 0) rfl rfl ?_
  refine tw_iconst (k := 1) (-1 : Int32) rfl (by decide) ?_
  refine tw_ixor (k := 2) rfl ?_
  refine tw_iload_n (k := 3) rfl rfl ?_
  refine tw_iconst (k := 4) (1 : Int32) rfl (by decide) ?_
  refine tw_isub (k := 5) rfl ?_
  refine tw_iand (k := 6) rfl ?_
  refine tw_let (fun x1 => [some (.int a0), none]) (fun x1 => .int x1 :: []) rfl rfl (fun x1 => ?_)
  refine tw_ist_n (k := 7) [some (.int x1), none] rfl (Nat.le_of_ble_eq_true rfl) rfl rfl ?_
  refine tw_iload_n (k := 8) rfl rfl ?_
  refine tw_if_gt (k := 9) 17 rfl (by decide) ?_ ?_
  · refine tw_iconst (k := 14) (1 : Int32) rfl (by decide) ?_
    refine tw_ist_n (k := 15) [some (.int x1), some (.int (1 : Int32))] rfl (Nat.le_of_ble_eq_true rfl) rfl rfl ?_
    refine tw_iload_n (k := 16) rfl rfl ?_
    refine tw_ldcw (k := 17) kc_RJ6_264 rfl ?_
    refine tw_join 34 (fun s3 => [some (.int s3.1), some (.int s3.2)]) (fun s3 => []) 0 0 (fun s3 => ?_) (fun j2 g2 => ?_)
    · refine tw_iload_n (k := 24) rfl rfl ?_
      refine tw_sipush (k := 25) (256 : Int32) rfl (by decide) ?_
      refine tw_join 49 (fun s5 => [some (.int s5.1), some (.int s5.2)]) (fun s5 => []) 0 0 (fun s5 => ?_) (fun j4 g4 => ?_)
      · refine tw_iload_n (k := 32) rfl rfl ?_
        refine tw_bipush (k := 33) (16 : Int32) rfl (by decide) ?_
        refine tw_join 62 (fun s7 => [some (.int s7.1), some (.int s7.2)]) (fun s7 => []) 0 0 (fun s7 => ?_) (fun j6 g6 => ?_)
        · refine tw_iload_n (k := 40) rfl rfl ?_
          refine tw_iconst (k := 41) (4 : Int32) rfl (by decide) ?_
          refine tw_icmp_le (k := 42) 74 rfl (by decide) ?_ ?_
          · refine tw_iload_n (k := 48) rfl rfl ?_
            refine tw_iload_n (k := 49) rfl rfl ?_
            refine tw_iconst (k := 50) (1 : Int32) rfl (by decide) ?_
            refine tw_iushr (k := 51) rfl ?_
            refine tw_iadd (k := 52) rfl ?_
            exact tw_ireturn (k := 53) rfl rfl (by decide) (by decide)
          · refine tw_inc (k := 43) (2 : Int32) [some (.int s7.1), some (.int (s7.2 + (2 : Int32)))] rfl rfl (by decide) (Nat.le_of_ble_eq_true rfl) rfl rfl ?_
            refine tw_iload_n (k := 44) rfl rfl ?_
            refine tw_iconst (k := 45) (2 : Int32) rfl (by decide) ?_
            refine tw_iushr (k := 46) rfl ?_
            refine tw_let (fun x8 => [some (.int s7.1), some (.int (s7.2 + (2 : Int32)))]) (fun x8 => .int x8 :: []) rfl rfl (fun x8 => ?_)
            refine tw_ist_n (k := 47) [some (.int x8), some (.int (s7.2 + (2 : Int32)))] rfl (Nat.le_of_ble_eq_true rfl) rfl rfl ?_
            refine tw_iload_n (k := 48) rfl rfl ?_
            refine tw_iload_n (k := 49) rfl rfl ?_
            refine tw_iconst (k := 50) (1 : Int32) rfl (by decide) ?_
            refine tw_iushr (k := 51) rfl ?_
            refine tw_iadd (k := 52) rfl ?_
            exact tw_ireturn (k := 53) rfl rfl (by decide) (by decide)
        · refine tw_icmp_le (k := 34) 62 rfl (by decide) ?_ ?_
          · exact g6 (s5.1, s5.2)
          · refine tw_inc (k := 35) (4 : Int32) [some (.int s5.1), some (.int (s5.2 + (4 : Int32)))] rfl rfl (by decide) (Nat.le_of_ble_eq_true rfl) rfl rfl ?_
            refine tw_iload_n (k := 36) rfl rfl ?_
            refine tw_iconst (k := 37) (4 : Int32) rfl (by decide) ?_
            refine tw_iushr (k := 38) rfl ?_
            refine tw_let (fun x9 => [some (.int s5.1), some (.int (s5.2 + (4 : Int32)))]) (fun x9 => .int x9 :: []) rfl rfl (fun x9 => ?_)
            refine tw_ist_n (k := 39) [some (.int x9), some (.int (s5.2 + (4 : Int32)))] rfl (Nat.le_of_ble_eq_true rfl) rfl rfl ?_
            exact g6 (x9, s5.2 + (4 : Int32))
      · refine tw_icmp_le (k := 26) 49 rfl (by decide) ?_ ?_
        · exact g4 (s3.1, s3.2)
        · refine tw_inc (k := 27) (8 : Int32) [some (.int s3.1), some (.int (s3.2 + (8 : Int32)))] rfl rfl (by decide) (Nat.le_of_ble_eq_true rfl) rfl rfl ?_
          refine tw_iload_n (k := 28) rfl rfl ?_
          refine tw_bipush (k := 29) (8 : Int32) rfl (by decide) ?_
          refine tw_iushr (k := 30) rfl ?_
          refine tw_let (fun x10 => [some (.int s3.1), some (.int (s3.2 + (8 : Int32)))]) (fun x10 => .int x10 :: []) rfl rfl (fun x10 => ?_)
          refine tw_ist_n (k := 31) [some (.int x10), some (.int (s3.2 + (8 : Int32)))] rfl (Nat.le_of_ble_eq_true rfl) rfl rfl ?_
          exact g4 (x10, s3.2 + (8 : Int32))
    · refine tw_icmp_le (k := 18) 34 rfl (by decide) ?_ ?_
      · exact g2 (x1, (1 : Int32))
      · refine tw_inc (k := 19) (16 : Int32) [some (.int x1), some (.int ((1 : Int32) + (16 : Int32)))] rfl rfl (by decide) (Nat.le_of_ble_eq_true rfl) rfl rfl ?_
        refine tw_iload_n (k := 20) rfl rfl ?_
        refine tw_bipush (k := 21) (16 : Int32) rfl (by decide) ?_
        refine tw_iushr (k := 22) rfl ?_
        refine tw_let (fun x11 => [some (.int x1), some (.int ((1 : Int32) + (16 : Int32)))]) (fun x11 => .int x11 :: []) rfl rfl (fun x11 => ?_)
        refine tw_ist_n (k := 23) [some (.int x11), some (.int ((1 : Int32) + (16 : Int32)))] rfl (Nat.le_of_ble_eq_true rfl) rfl rfl ?_
        exact g2 (x11, (1 : Int32) + (16 : Int32))
  · refine tw_iload_n (k := 10) rfl rfl ?_
    refine tw_bipush (k := 11) (32 : Int32) rfl (by decide) ?_
    refine tw_iand (k := 12) rfl ?_
    exact tw_ireturn (k := 13) rfl rfl (by decide) (by decide)
def mJ6_bitCount_0f7a4 : tw_MD := (yJ6_bitCount_0f7a4, cJ6_bitCount_0f7a4, 1, (some FieldType.int), [(0, .iload_n 0, 1, 1), (1, .iload_n 0, 1, 2), (2, .iconst 1, 1, 3), (3, .iushr, 1, 4), (4, .ldc_w 265, 3, 7), (7, .iand, 1, 8), (8, .isub, 1, 9), (9, .istore_n 0, 1, 10), (10, .iload_n 0, 1, 11), (11, .ldc_w 266, 3, 14), (14, .iand, 1, 15), (15, .iload_n 0, 1, 16), (16, .iconst 2, 1, 17), (17, .iushr, 1, 18), (18, .ldc_w 266, 3, 21), (21, .iand, 1, 22), (22, .iadd, 1, 23), (23, .istore_n 0, 1, 24), (24, .iload_n 0, 1, 25), (25, .iload_n 0, 1, 26), (26, .iconst 4, 1, 27), (27, .iushr, 1, 28), (28, .iadd, 1, 29), (29, .ldc_w 267, 3, 32), (32, .iand, 1, 33), (33, .istore_n 0, 1, 34), (34, .iload_n 0, 1, 35), (35, .iload_n 0, 1, 36), (36, .bipush 8, 2, 38), (38, .iushr, 1, 39), (39, .iadd, 1, 40), (40, .istore_n 0, 1, 41), (41, .iload_n 0, 1, 42), (42, .iload_n 0, 1, 43), (43, .bipush 16, 2, 45), (45, .iushr, 1, 46), (46, .iadd, 1, 47), (47, .istore_n 0, 1, 48), (48, .iload_n 0, 1, 49), (49, .bipush 63, 2, 51), (51, .iand, 1, 52), (52, .ireturn, 1, 53)], [])
theorem mo_J6_bitCount_0f7a4 : tw_mok mJ6_bitCount_0f7a4 1 := ⟨plainFor_of_name (by decide +kernel), by decide +kernel, by decide +kernel, by decide +kernel, by decide +kernel⟩
theorem dk_J6_bitCount_0f7a4 : tw_dk mJ6_bitCount_0f7a4 := by unfold tw_dk; decide +kernel
theorem kc_RJ6_265 : Cond.constant RJ6 265 (1431655765 : Int32) ∈ lw_tbl := List.mem_of_getElem? (i := 650) (by decide +kernel)
theorem kc_RJ6_266 : Cond.constant RJ6 266 (858993459 : Int32) ∈ lw_tbl := List.mem_of_getElem? (i := 651) (by decide +kernel)
theorem kc_RJ6_267 : Cond.constant RJ6 267 (252645135 : Int32) ∈ lw_tbl := List.mem_of_getElem? (i := 652) (by decide +kernel)
set_option maxRecDepth 20000 in
theorem K_J6_bitCount_0f7a4 {g : tw_Gx} (Q : tw_Rs → tw_Mem → Prop) (a0 : Int32) : tw_Kt g mJ6_bitCount_0f7a4 1 0 0 [.int a0] Q (f_J6_bitCount_0f7a4 a0 (fun v => Q (.inl (some (.int v))))) := by
  refine tw_mkK (L := [some (.int a0)]) mo_J6_bitCount_0f7a4 dk_J6_bitCount_0f7a4 rfl (Nat.le_of_ble_eq_true rfl) rfl ?_
  unfold f_J6_bitCount_0f7a4
  refine tw_iload_n (k := 0) rfl rfl ?_
  refine tw_iload_n (k := 1) rfl rfl ?_
  refine tw_iconst (k := 2) (1 : Int32) rfl (by decide) ?_
  refine tw_iushr (k := 3) rfl ?_
  refine tw_ldcw (k := 4) kc_RJ6_265 rfl ?_
  refine tw_iand (k := 5) rfl ?_
  refine tw_isub (k := 6) rfl ?_
  refine tw_let (fun x1 => [some (.int a0)]) (fun x1 => .int x1 :: []) rfl rfl (fun x1 => ?_)
  refine tw_ist_n (k := 7) [some (.int x1)] rfl (Nat.le_of_ble_eq_true rfl) rfl rfl ?_
  refine tw_iload_n (k := 8) rfl rfl ?_
  refine tw_ldcw (k := 9) kc_RJ6_266 rfl ?_
  refine tw_iand (k := 10) rfl ?_
  refine tw_iload_n (k := 11) rfl rfl ?_
  refine tw_iconst (k := 12) (2 : Int32) rfl (by decide) ?_
  refine tw_iushr (k := 13) rfl ?_
  refine tw_ldcw (k := 14) kc_RJ6_266 rfl ?_
  refine tw_iand (k := 15) rfl ?_
  refine tw_iadd (k := 16) rfl ?_
  refine tw_let (fun x2 => [some (.int x1)]) (fun x2 => .int x2 :: []) rfl rfl (fun x2 => ?_)
  refine tw_ist_n (k := 17) [some (.int x2)] rfl (Nat.le_of_ble_eq_true rfl) rfl rfl ?_
  refine tw_iload_n (k := 18) rfl rfl ?_
  refine tw_iload_n (k := 19) rfl rfl ?_
  refine tw_iconst (k := 20) (4 : Int32) rfl (by decide) ?_
  refine tw_iushr (k := 21) rfl ?_
  refine tw_iadd (k := 22) rfl ?_
  refine tw_ldcw (k := 23) kc_RJ6_267 rfl ?_
  refine tw_iand (k := 24) rfl ?_
  refine tw_let (fun x3 => [some (.int x2)]) (fun x3 => .int x3 :: []) rfl rfl (fun x3 => ?_)
  refine tw_ist_n (k := 25) [some (.int x3)] rfl (Nat.le_of_ble_eq_true rfl) rfl rfl ?_
  refine tw_iload_n (k := 26) rfl rfl ?_
  refine tw_iload_n (k := 27) rfl rfl ?_
  refine tw_bipush (k := 28) (8 : Int32) rfl (by decide) ?_
  refine tw_iushr (k := 29) rfl ?_
  refine tw_iadd (k := 30) rfl ?_
  refine tw_let (fun x4 => [some (.int x3)]) (fun x4 => .int x4 :: []) rfl rfl (fun x4 => ?_)
  refine tw_ist_n (k := 31) [some (.int x4)] rfl (Nat.le_of_ble_eq_true rfl) rfl rfl ?_
  refine tw_iload_n (k := 32) rfl rfl ?_
  refine tw_iload_n (k := 33) rfl rfl ?_
  refine tw_bipush (k := 34) (16 : Int32) rfl (by decide) ?_
  refine tw_iushr (k := 35) rfl ?_
  refine tw_iadd (k := 36) rfl ?_
  refine tw_let (fun x5 => [some (.int x4)]) (fun x5 => .int x5 :: []) rfl rfl (fun x5 => ?_)
  refine tw_ist_n (k := 37) [some (.int x5)] rfl (Nat.le_of_ble_eq_true rfl) rfl rfl ?_
  refine tw_iload_n (k := 38) rfl rfl ?_
  refine tw_bipush (k := 39) (63 : Int32) rfl (by decide) ?_
  refine tw_iand (k := 40) rfl ?_
  exact tw_ireturn (k := 41) rfl rfl (by decide) (by decide)
def mJ9_floorMod_7cf53 : tw_MD := (yJ9_floorMod_7cf53, cJ9_floorMod_7cf53, 3, (some FieldType.int), [(0, .iload_n 0, 1, 1), (1, .iload_n 1, 1, 2), (2, .irem, 1, 3), (3, .istore_n 2, 1, 4), (4, .iload_n 0, 1, 5), (5, .iload_n 1, 1, 6), (6, .ixor, 1, 7), (7, .ifCond .ge 11, 3, 10), (10, .iload_n 2, 1, 11), (11, .ifCond .eq 7, 3, 14), (14, .iload_n 2, 1, 15), (15, .iload_n 1, 1, 16), (16, .iadd, 1, 17), (17, .ireturn, 1, 18), (18, .iload_n 2, 1, 19), (19, .ireturn, 1, 20)], [])
theorem mo_J9_floorMod_7cf53 : tw_mok mJ9_floorMod_7cf53 2 := ⟨tw_mathPlain rfl (by decide +kernel), by decide +kernel, by decide +kernel, by decide +kernel, by decide +kernel⟩
theorem dk_J9_floorMod_7cf53 : tw_dk mJ9_floorMod_7cf53 := by unfold tw_dk; decide +kernel
set_option maxRecDepth 20000 in
theorem K_J9_floorMod_7cf53 {g : tw_Gx} (Q : tw_Rs → tw_Mem → Prop) (a0 : Int32) (a1 : Int32) : tw_Kt g mJ9_floorMod_7cf53 1 0 0 [.int a0, .int a1] Q (f_J9_floorMod_7cf53 a0 a1 (fun v => Q (.inl (some (.int v))))) := by
  refine tw_mkK (L := [some (.int a0), some (.int a1), none]) mo_J9_floorMod_7cf53 dk_J9_floorMod_7cf53 rfl (Nat.le_of_ble_eq_true rfl) rfl ?_
  unfold f_J9_floorMod_7cf53
  refine tw_iload_n (k := 0) rfl rfl ?_
  refine tw_iload_n (k := 1) rfl rfl ?_
  refine tw_irem (k := 2) rfl ?_
  refine tw_let (fun x1 => [some (.int a0), some (.int a1), none]) (fun x1 => .int x1 :: []) rfl rfl (fun x1 => ?_)
  refine tw_ist_n (k := 3) [some (.int a0), some (.int a1), some (.int x1)] rfl (Nat.le_of_ble_eq_true rfl) rfl rfl ?_
  refine tw_iload_n (k := 4) rfl rfl ?_
  refine tw_iload_n (k := 5) rfl rfl ?_
  refine tw_ixor (k := 6) rfl ?_
  refine tw_if_ge (k := 7) 18 rfl (by decide) ?_ ?_
  · refine tw_iload_n (k := 14) rfl rfl ?_
    exact tw_ireturn (k := 15) rfl rfl (by decide) (by decide)
  · refine tw_iload_n (k := 8) rfl rfl ?_
    refine tw_if_eq (k := 9) 18 rfl (by decide) ?_ ?_
    · refine tw_iload_n (k := 14) rfl rfl ?_
      exact tw_ireturn (k := 15) rfl rfl (by decide) (by decide)
    · refine tw_iload_n (k := 10) rfl rfl ?_
      refine tw_iload_n (k := 11) rfl rfl ?_
      refine tw_iadd (k := 12) rfl ?_
      exact tw_ireturn (k := 13) rfl rfl (by decide) (by decide)
def mJ9_max_7cf53 : tw_MD := (yJ9_max_7cf53, cJ9_max_7cf53, 2, (some FieldType.int), [(0, .iload_n 0, 1, 1), (1, .iload_n 1, 1, 2), (2, .if_icmp .lt 7, 3, 5), (5, .iload_n 0, 1, 6), (6, .goto 4, 3, 9), (9, .iload_n 1, 1, 10), (10, .ireturn, 1, 11)], [])
theorem mo_J9_max_7cf53 : tw_mok mJ9_max_7cf53 2 := ⟨tw_mathPlain rfl (by decide +kernel), by decide +kernel, by decide +kernel, by decide +kernel, by decide +kernel⟩
theorem dk_J9_max_7cf53 : tw_dk mJ9_max_7cf53 := by unfold tw_dk; decide +kernel
set_option maxRecDepth 20000 in
theorem K_J9_max_7cf53 {g : tw_Gx} (Q : tw_Rs → tw_Mem → Prop) (a0 : Int32) (a1 : Int32) : tw_Kt g mJ9_max_7cf53 1 0 0 [.int a0, .int a1] Q (f_J9_max_7cf53 a0 a1 (fun v => Q (.inl (some (.int v))))) := by
  refine tw_mkK (L := [some (.int a0), some (.int a1)]) mo_J9_max_7cf53 dk_J9_max_7cf53 rfl (Nat.le_of_ble_eq_true rfl) rfl ?_
  unfold f_J9_max_7cf53
  refine tw_iload_n (k := 0) rfl rfl ?_
  refine tw_iload_n (k := 1) rfl rfl ?_
  refine tw_icmp_lt (k := 2) 9 rfl (by decide) ?_ ?_
  · refine tw_iload_n (k := 5) rfl rfl ?_
    exact tw_ireturn (k := 6) rfl rfl (by decide) (by decide)
  · refine tw_iload_n (k := 3) rfl rfl ?_
    refine tw_goto (k := 4) 10 rfl (by decide) ?_
    exact tw_ireturn (k := 6) rfl rfl (by decide) (by decide)
def mJ9_min_7cf53 : tw_MD := (yJ9_min_7cf53, cJ9_min_7cf53, 2, (some FieldType.int), [(0, .iload_n 0, 1, 1), (1, .iload_n 1, 1, 2), (2, .if_icmp .gt 7, 3, 5), (5, .iload_n 0, 1, 6), (6, .goto 4, 3, 9), (9, .iload_n 1, 1, 10), (10, .ireturn, 1, 11)], [])
theorem mo_J9_min_7cf53 : tw_mok mJ9_min_7cf53 2 := ⟨tw_mathPlain rfl (by decide +kernel), by decide +kernel, by decide +kernel, by decide +kernel, by decide +kernel⟩
theorem dk_J9_min_7cf53 : tw_dk mJ9_min_7cf53 := by unfold tw_dk; decide +kernel
set_option maxRecDepth 20000 in
theorem K_J9_min_7cf53 {g : tw_Gx} (Q : tw_Rs → tw_Mem → Prop) (a0 : Int32) (a1 : Int32) : tw_Kt g mJ9_min_7cf53 1 0 0 [.int a0, .int a1] Q (f_J9_min_7cf53 a0 a1 (fun v => Q (.inl (some (.int v))))) := by
  refine tw_mkK (L := [some (.int a0), some (.int a1)]) mo_J9_min_7cf53 dk_J9_min_7cf53 rfl (Nat.le_of_ble_eq_true rfl) rfl ?_
  unfold f_J9_min_7cf53
  refine tw_iload_n (k := 0) rfl rfl ?_
  refine tw_iload_n (k := 1) rfl rfl ?_
  refine tw_icmp_gt (k := 2) 9 rfl (by decide) ?_ ?_
  · refine tw_iload_n (k := 5) rfl rfl ?_
    exact tw_ireturn (k := 6) rfl rfl (by decide) (by decide)
  · refine tw_iload_n (k := 3) rfl rfl ?_
    refine tw_goto (k := 4) 10 rfl (by decide) ?_
    exact tw_ireturn (k := 6) rfl rfl (by decide) (by decide)
def mJ0_coder_7d493 : tw_MD := (yJ0_coder_7d493, cJ0_coder_7d493, 1, (some FieldType.byte), [(0, .getstatic 38, 3, 3), (3, .ifCond .eq 10, 3, 6), (6, .aload_n 0, 1, 7), (7, .getfield 15, 3, 10), (10, .goto 4, 3, 13), (13, .iconst 1, 1, 14), (14, .ireturn, 1, 15)], [])
theorem mo_J0_coder_7d493 : tw_mok mJ0_coder_7d493 0 := ⟨plainFor_of_name (by decide +kernel), by decide +kernel, by decide +kernel, by decide +kernel, by decide +kernel⟩
theorem dk_J0_coder_7d493 : tw_dk mJ0_coder_7d493 := by unfold tw_dk; decide +kernel
theorem fj_RJ0_38 : Cond.fieldLink RJ0 38 "java/lang/String" "COMPACT_STRINGS" "Z" ∈ lw_tbl := List.mem_of_getElem? (i := 943) (by decide +kernel)
theorem fj_RJ0_15 : Cond.fieldLink RJ0 15 "java/lang/String" "coder" "B" ∈ lw_tbl := List.mem_of_getElem? (i := 2486) (by decide +kernel)
set_option maxRecDepth 20000 in
theorem K_J0_coder_7d493 {g : tw_Gx} (Q : tw_Rs → tw_Mem → Prop) (a0 : Nat) : tw_Kt g mJ0_coder_7d493 1 0 0 [.ref a0] Q (f_J0_coder_7d493 a0 (fun v => Q (.inl (some (.int v))))) := by
  refine tw_mkK (L := [some (.ref a0)]) mo_J0_coder_7d493 dk_J0_coder_7d493 rfl (Nat.le_of_ble_eq_true rfl) rfl ?_
  unfold f_J0_coder_7d493
  refine tw_getsC (k := 0) rfl fj_RJ0_38 ?_
  refine tw_if_eq (k := 1) 13 rfl (by decide) ?_ ?_
  · refine tw_iconst (k := 5) (1 : Int32) rfl (by decide) ?_
    exact tw_nreturn (k := 6) (ty := .byte) rfl rfl (by decide) (by decide)
  · refine tw_aload_n (k := 2) rfl rfl ?_
    refine tw_strC (k := 3) rfl fj_RJ0_15 (fun x1 => ?_)
    refine tw_goto (k := 4) 14 rfl (by decide) ?_
    exact tw_nreturn (k := 6) (ty := .byte) rfl rfl (by decide) (by decide)
def mJ0_length_8abf5 : tw_MD := (yJ0_length_8abf5, cJ0_length_8abf5, 1, (some FieldType.int), [(0, .aload_n 0, 1, 1), (1, .getfield 9, 3, 4), (4, .arraylength, 1, 5), (5, .aload_n 0, 1, 6), (6, .invokevirtual 335, 3, 9), (9, .ishr, 1, 10), (10, .ireturn, 1, 11)], [])
theorem mo_J0_length_8abf5 : tw_mok mJ0_length_8abf5 0 := ⟨plainFor_of_name (by decide +kernel), by decide +kernel, by decide +kernel, by decide +kernel, by decide +kernel⟩
theorem dk_J0_length_8abf5 : tw_dk mJ0_length_8abf5 := by unfold tw_dk; decide +kernel
theorem fj_RJ0_9 : Cond.fieldLink RJ0 9 "java/lang/String" "value" "[B" ∈ lw_tbl := List.mem_of_getElem? (i := 2485) (by decide +kernel)
theorem wj_RJ0_335_J0_coder_7d493 : tw_wV RJ0 335 mJ0_coder_7d493 := ⟨List.mem_of_getElem? (i := 939) (by decide +kernel), List.mem_of_getElem? (i := 940) (by decide +kernel), List.mem_of_getElem? (i := 941) (by decide +kernel), List.mem_of_getElem? (i := 139) (by decide +kernel), List.mem_of_getElem? (i := 942) (by decide +kernel)⟩
set_option maxRecDepth 20000 in
theorem K_J0_length_8abf5 {g : tw_Gx} (Q : tw_Rs → tw_Mem → Prop) (a0 : Nat) : tw_Kt g mJ0_length_8abf5 2 0 0 [.ref a0] Q (f_J0_length_8abf5 a0 (fun v => Q (.inl (some (.int v))))) := by
  refine tw_mkK (L := [some (.ref a0)]) mo_J0_length_8abf5 dk_J0_length_8abf5 rfl (Nat.le_of_ble_eq_true rfl) rfl ?_
  unfold f_J0_length_8abf5
  refine tw_aload_n (k := 0) rfl rfl ?_
  refine tw_strV (k := 1) rfl fj_RJ0_9 (fun x1 => ?_)
  refine tw_alength (k := 2) rfl (fun x2 => ?_)
  refine tw_aload_n (k := 3) rfl rfl ?_
  refine tw_callJ (k := 4) (d' := 1) (mc' := 0) (ms' := 0) tw_cI tw_cIi [] rfl rfl wj_RJ0_335_J0_coder_7d493 mo_J0_coder_7d493 rfl rfl (fun Q9 => K_J0_coder_7d493 Q9 a0) (by omega) (by decide) (by decide) (Nat.le_of_ble_eq_true rfl) (fun x3 => ?_)
  refine tw_ishr (k := 5) rfl ?_
  exact tw_ireturn (k := 6) rfl rfl (by decide) (by decide)
def mJ0_isLatin1_aae02 : tw_MD := (yJ0_isLatin1_aae02, cJ0_isLatin1_aae02, 1, (some FieldType.boolean), [(0, .getstatic 38, 3, 3), (3, .ifCond .eq 14, 3, 6), (6, .aload_n 0, 1, 7), (7, .getfield 15, 3, 10), (10, .ifCond .ne 7, 3, 13), (13, .iconst 1, 1, 14), (14, .goto 4, 3, 17), (17, .iconst 0, 1, 18), (18, .ireturn, 1, 19)], [])
theorem mo_J0_isLatin1_aae02 : tw_mok mJ0_isLatin1_aae02 0 := ⟨plainFor_of_name (by decide +kernel), by decide +kernel, by decide +kernel, by decide +kernel, by decide +kernel⟩
theorem dk_J0_isLatin1_aae02 : tw_dk mJ0_isLatin1_aae02 := by unfold tw_dk; decide +kernel
set_option maxRecDepth 20000 in
theorem K_J0_isLatin1_aae02 {g : tw_Gx} (Q : tw_Rs → tw_Mem → Prop) (a0 : Nat) : tw_Kt g mJ0_isLatin1_aae02 1 0 0 [.ref a0] Q (f_J0_isLatin1_aae02 a0 (fun v => Q (.inl (some (.int v))))) := by
  refine tw_mkK (L := [some (.ref a0)]) mo_J0_isLatin1_aae02 dk_J0_isLatin1_aae02 rfl (Nat.le_of_ble_eq_true rfl) rfl ?_
  unfold f_J0_isLatin1_aae02
  refine tw_getsC (k := 0) rfl fj_RJ0_38 ?_
  refine tw_if_eq (k := 1) 17 rfl (by decide) ?_ ?_
  · refine tw_iconst (k := 7) (0 : Int32) rfl (by decide) ?_
    exact tw_zreturn (k := 8) rfl rfl (by decide) (by decide)
  · refine tw_aload_n (k := 2) rfl rfl ?_
    refine tw_strC (k := 3) rfl fj_RJ0_15 (fun x1 => ?_)
    refine tw_if_ne (k := 4) 17 rfl (by decide) ?_ ?_
    · refine tw_iconst (k := 7) (0 : Int32) rfl (by decide) ?_
      exact tw_zreturn (k := 8) rfl rfl (by decide) (by decide)
    · refine tw_iconst (k := 5) (1 : Int32) rfl (by decide) ?_
      refine tw_goto (k := 6) 18 rfl (by decide) ?_
      exact tw_zreturn (k := 8) rfl rfl (by decide) (by decide)
def mJ3_checkIndex_8e157 : tw_MD := (yJ3_checkIndex_8e157, cJ3_checkIndex_8e157, 3, (some FieldType.int), [(0, .iload_n 0, 1, 1), (1, .ifCond .lt 8, 3, 4), (4, .iload_n 0, 1, 5), (5, .iload_n 1, 1, 6), (6, .if_icmp .lt 10, 3, 9), (9, .aload_n 2, 1, 10), (10, .iload_n 0, 1, 11), (11, .iload_n 1, 1, 12), (12, .invokestatic 95, 3, 15), (15, .athrow, 1, 16), (16, .iload_n 0, 1, 17), (17, .ireturn, 1, 18)], [])
theorem mo_J3_checkIndex_8e157 : tw_mok mJ3_checkIndex_8e157 3 := ⟨plainFor_of_name (by decide +kernel), by decide +kernel, by decide +kernel, by decide +kernel, by decide +kernel⟩
theorem dk_J3_checkIndex_8e157 : tw_dk mJ3_checkIndex_8e157 := by unfold tw_dk; decide +kernel
set_option maxRecDepth 20000 in
theorem K_J3_checkIndex_8e157 {g : tw_Gx} (Q : tw_Rs → tw_Mem → Prop) (a0 : Int32) (a1 : Int32) (a2 : Option Nat) : tw_Kt g mJ3_checkIndex_8e157 1 0 0 [.int a0, .int a1, va_rf a2] Q (f_J3_checkIndex_8e157 a0 a1 a2 (fun v => Q (.inl (some (.int v))))) := by
  refine tw_mkK (L := [some (.int a0), some (.int a1), some (va_rf a2)]) mo_J3_checkIndex_8e157 dk_J3_checkIndex_8e157 rfl (by cases a2 <;> exact Nat.le_of_ble_eq_true rfl) (by cases a2 <;> rfl) ?_
  unfold f_J3_checkIndex_8e157
  refine tw_iload_n (k := 0) rfl rfl ?_
  refine tw_join 9 (fun s2 => [some (.int a0), some (.int a1), some (va_rf a2)]) (fun s2 => []) 0 0 (fun s2 => ?_) (fun j1 g1 => ?_)
  · refine tw_aloadV_n (k := 5) rfl rfl ?_
    refine tw_iload_n (k := 6) rfl rfl ?_
    refine tw_iload_n (k := 7) rfl rfl ?_
    exact fun _ h => h.elim
  · refine tw_if_lt (k := 1) 9 rfl (by decide) ?_ ?_
    · exact g1 ()
    · refine tw_iload_n (k := 2) rfl rfl ?_
      refine tw_iload_n (k := 3) rfl rfl ?_
      refine tw_icmp_lt (k := 4) 16 rfl (by decide) ?_ ?_
      · refine tw_iload_n (k := 10) rfl rfl ?_
        exact tw_ireturn (k := 11) rfl rfl (by decide) (by decide)
      · exact g1 ()
def mJ0_checkIndex_df160 : tw_MD := (yJ0_checkIndex_df160, cJ0_checkIndex_df160, 2, none, [(0, .iload_n 0, 1, 1), (1, .iload_n 1, 1, 2), (2, .getstatic 1053, 3, 5), (5, .invokestatic 1059, 3, 8), (8, .pop, 1, 9), (9, .return_, 1, 10)], [])
theorem mo_J0_checkIndex_df160 : tw_mok mJ0_checkIndex_df160 2 := ⟨plainFor_of_name (by decide +kernel), by decide +kernel, by decide +kernel, by decide +kernel, by decide +kernel⟩
theorem dk_J0_checkIndex_df160 : tw_dk mJ0_checkIndex_df160 := by unfold tw_dk; decide +kernel
theorem fj_RJ0_1053 : Cond.fieldLink RJ0 1053 "jdk/internal/util/Preconditions" "SIOOBE_FORMATTER" "Ljava/util/function/BiFunction;" ∈ lw_tbl := List.mem_of_getElem? (i := 959) (by decide +kernel)
theorem ws_RJ0_1059_J3_checkIndex_8e157 : tw_wS RJ0 1059 mJ3_checkIndex_8e157 := ⟨List.mem_of_getElem? (i := 961) (by decide +kernel), List.mem_of_getElem? (i := 962) (by decide +kernel), List.mem_of_getElem? (i := 141) (by decide +kernel), List.mem_of_getElem? (i := 963) (by decide +kernel)⟩
set_option maxRecDepth 20000 in
theorem K_J0_checkIndex_df160 {g : tw_Gx} (Q : tw_Rs → tw_Mem → Prop) (a0 : Int32) (a1 : Int32) : tw_Kt g mJ0_checkIndex_df160 2 0 0 [.int a0, .int a1] Q (f_J0_checkIndex_df160 a0 a1 (fun v => Q (.inl none))) := by
  refine tw_mkK (L := [some (.int a0), some (.int a1)]) mo_J0_checkIndex_df160 dk_J0_checkIndex_df160 rfl (Nat.le_of_ble_eq_true rfl) rfl ?_
  unfold f_J0_checkIndex_df160
  refine tw_iload_n (k := 0) rfl rfl ?_
  refine tw_iload_n (k := 1) rfl rfl ?_
  refine tw_getsF (k := 2) rfl fj_RJ0_1053 (fun o1 => ?_)
  refine tw_callS (k := 3) (d' := 1) (mc' := 0) (ms' := 0) tw_cI tw_cIi [.int a0, .int a1, va_rf o1] rfl rfl ws_RJ0_1059_J3_checkIndex_8e157 mo_J3_checkIndex_8e157 rfl (fun Q9 => K_J3_checkIndex_8e157 Q9 a0 a1 o1) (by omega) (by decide) (by decide) (Nat.le_of_ble_eq_true rfl) (fun x2 => ?_)
  refine tw_pop (k := 4) rfl rfl ?_
  exact tw_return (k := 5) rfl rfl (by decide) (by decide)
def mJ1_charAt_3b067 : tw_MD := (yJ1_charAt_3b067, cJ1_charAt_3b067, 2, (some FieldType.char), [(0, .iload_n 1, 1, 1), (1, .aload_n 0, 1, 2), (2, .arraylength, 1, 3), (3, .invokestatic 9, 3, 6), (6, .aload_n 0, 1, 7), (7, .iload_n 1, 1, 8), (8, .baload, 1, 9), (9, .sipush 255, 3, 12), (12, .iand, 1, 13), (13, .i2c, 1, 14), (14, .ireturn, 1, 15)], [])
theorem mo_J1_charAt_3b067 : tw_mok mJ1_charAt_3b067 2 := ⟨plainFor_of_name (by decide +kernel), by decide +kernel, by decide +kernel, by decide +kernel, by decide +kernel⟩
theorem dk_J1_charAt_3b067 : tw_dk mJ1_charAt_3b067 := by unfold tw_dk; decide +kernel
theorem ws_RJ1_9_J0_checkIndex_df160 : tw_wS RJ1 9 mJ0_checkIndex_df160 := ⟨List.mem_of_getElem? (i := 956) (by decide +kernel), List.mem_of_getElem? (i := 957) (by decide +kernel), List.mem_of_getElem? (i := 139) (by decide +kernel), List.mem_of_getElem? (i := 958) (by decide +kernel)⟩
set_option maxRecDepth 20000 in
theorem K_J1_charAt_3b067 {g : tw_Gx} (Q : tw_Rs → tw_Mem → Prop) (a0 : Nat) (a1 : Int32) : tw_Kt g mJ1_charAt_3b067 3 0 0 [.ref a0, .int a1] Q (f_J1_charAt_3b067 a0 a1 (fun v => Q (.inl (some (.int v))))) := by
  refine tw_mkK (L := [some (.ref a0), some (.int a1)]) mo_J1_charAt_3b067 dk_J1_charAt_3b067 rfl (Nat.le_of_ble_eq_true rfl) rfl ?_
  unfold f_J1_charAt_3b067
  refine tw_iload_n (k := 0) rfl rfl ?_
  refine tw_aload_n (k := 1) rfl rfl ?_
  refine tw_alength (k := 2) rfl (fun x1 => ?_)
  refine tw_callS (k := 3) (d' := 2) (mc' := 0) (ms' := 0) tw_cU tw_cUi [.int a1, .int x1] rfl rfl ws_RJ1_9_J0_checkIndex_df160 mo_J0_checkIndex_df160 rfl (fun Q9 => K_J0_checkIndex_df160 Q9 a1 x1) (by omega) (by decide) (by decide) (Nat.le_of_ble_eq_true rfl) (fun u2 => ?_)
  refine tw_aload_n (k := 4) rfl rfl ?_
  refine tw_iload_n (k := 5) rfl rfl ?_
  refine tw_baload (k := 6) rfl (fun x3 => ?_)
  refine tw_sipush (k := 7) (255 : Int32) rfl (by decide) ?_
  refine tw_iand (k := 8) rfl ?_
  refine tw_i2c (k := 9) rfl ?_
  exact tw_nreturn (k := 10) (ty := .char) rfl rfl (by decide) (by decide)
def mJ0_charAt_5068e : tw_MD := (yJ0_charAt_5068e, cJ0_charAt_5068e, 2, (some FieldType.char), [(0, .aload_n 0, 1, 1), (1, .invokevirtual 492, 3, 4), (4, .ifCond .eq 12, 3, 7), (7, .aload_n 0, 1, 8), (8, .getfield 9, 3, 11), (11, .iload_n 1, 1, 12), (12, .invokestatic 495, 3, 15), (15, .ireturn, 1, 16), (16, .aload_n 0, 1, 17), (17, .getfield 9, 3, 20), (20, .iload_n 1, 1, 21), (21, .invokestatic 498, 3, 24), (24, .ireturn, 1, 25)], [])
theorem mo_J0_charAt_5068e : tw_mok mJ0_charAt_5068e 1 := ⟨plainFor_of_name (by decide +kernel), by decide +kernel, by decide +kernel, by decide +kernel, by decide +kernel⟩
theorem dk_J0_charAt_5068e : tw_dk mJ0_charAt_5068e := by unfold tw_dk; decide +kernel
theorem ws_RJ0_495_J1_charAt_3b067 : tw_wS RJ0 495 mJ1_charAt_3b067 := ⟨List.mem_of_getElem? (i := 953) (by decide +kernel), List.mem_of_getElem? (i := 954) (by decide +kernel), List.mem_of_getElem? (i := 140) (by decide +kernel), List.mem_of_getElem? (i := 955) (by decide +kernel)⟩
theorem wj_RJ0_492_J0_isLatin1_aae02 : tw_wV RJ0 492 mJ0_isLatin1_aae02 := ⟨List.mem_of_getElem? (i := 949) (by decide +kernel), List.mem_of_getElem? (i := 950) (by decide +kernel), List.mem_of_getElem? (i := 951) (by decide +kernel), List.mem_of_getElem? (i := 139) (by decide +kernel), List.mem_of_getElem? (i := 952) (by decide +kernel)⟩
set_option maxRecDepth 20000 in
theorem K_J0_charAt_5068e {g : tw_Gx} (Q : tw_Rs → tw_Mem → Prop) (a0 : Nat) (a1 : Int32) : tw_Kt g mJ0_charAt_5068e 4 0 0 [.ref a0, .int a1] Q (f_J0_charAt_5068e a0 a1 (fun v => Q (.inl (some (.int v))))) := by
  refine tw_mkK (L := [some (.ref a0), some (.int a1)]) mo_J0_charAt_5068e dk_J0_charAt_5068e rfl (Nat.le_of_ble_eq_true rfl) rfl ?_
  unfold f_J0_charAt_5068e
  refine tw_aload_n (k := 0) rfl rfl ?_
  refine tw_callJ (k := 1) (d' := 1) (mc' := 0) (ms' := 0) tw_cI tw_cIi [] rfl rfl wj_RJ0_492_J0_isLatin1_aae02 mo_J0_isLatin1_aae02 rfl rfl (fun Q9 => K_J0_isLatin1_aae02 Q9 a0) (by omega) (by decide) (by decide) (Nat.le_of_ble_eq_true rfl) (fun x1 => ?_)
  refine tw_if_eq (k := 2) 16 rfl (by decide) ?_ ?_
  · refine tw_aload_n (k := 8) rfl rfl ?_
    refine tw_strV (k := 9) rfl fj_RJ0_9 (fun x2 => ?_)
    refine tw_iload_n (k := 10) rfl rfl ?_
    exact fun _ h => h.elim
  · refine tw_aload_n (k := 3) rfl rfl ?_
    refine tw_strV (k := 4) rfl fj_RJ0_9 (fun x3 => ?_)
    refine tw_iload_n (k := 5) rfl rfl ?_
    refine tw_callS (k := 6) (d' := 3) (mc' := 0) (ms' := 0) tw_cI tw_cIi [.ref x3, .int a1] rfl rfl ws_RJ0_495_J1_charAt_3b067 mo_J1_charAt_3b067 rfl (fun Q9 => K_J1_charAt_3b067 Q9 x3 a1) (by omega) (by decide) (by decide) (Nat.le_of_ble_eq_true rfl) (fun x4 => ?_)
    exact tw_nreturn (k := 7) (ty := .char) rfl rfl (by decide) (by decide)
def mJ7_fill_53178 : tw_MD := (yJ7_fill_53178, cJ7_fill_53178, 4, none, [(0, .iconst 0, 1, 1), (1, .istore_n 2, 1, 2), (2, .aload_n 0, 1, 3), (3, .arraylength, 1, 4), (4, .istore_n 3, 1, 5), (5, .iload_n 2, 1, 6), (6, .iload_n 3, 1, 7), (7, .if_icmp .ge 13, 3, 10), (10, .aload_n 0, 1, 11), (11, .iload_n 2, 1, 12), (12, .iload_n 1, 1, 13), (13, .iastore, 1, 14), (14, .iinc 2 1, 3, 17), (17, .goto (-12), 3, 20), (20, .return_, 1, 21)], [])
theorem mo_J7_fill_53178 : tw_mok mJ7_fill_53178 2 := ⟨plainFor_of_name (by decide +kernel), by decide +kernel, by decide +kernel, by decide +kernel, by decide +kernel⟩
theorem dk_J7_fill_53178 : tw_dk mJ7_fill_53178 := by unfold tw_dk; decide +kernel
set_option maxRecDepth 20000 in
theorem K_J7_fill_53178 {g : tw_Gx} (Q : tw_Rs → tw_Mem → Prop) (a0 : Nat) (a1 : Int32) : tw_Kt g mJ7_fill_53178 1 0 0 [.ref a0, .int a1] Q (f_J7_fill_53178 a0 a1 (fun v => Q (.inl none))) := by
  refine tw_mkK (L := [some (.ref a0), some (.int a1), none, none]) mo_J7_fill_53178 dk_J7_fill_53178 rfl (Nat.le_of_ble_eq_true rfl) rfl ?_
  unfold f_J7_fill_53178
  refine tw_iconst (k := 0) (0 : Int32) rfl (by decide) ?_
  refine tw_ist_n (k := 1) [some (.ref a0), some (.int a1), some (.int (0 : Int32)), none] rfl (Nat.le_of_ble_eq_true rfl) rfl rfl ?_
  refine tw_aload_n (k := 2) rfl rfl ?_
  refine tw_alength (k := 3) rfl (fun x1 => ?_)
  refine tw_ist_n (k := 4) [some (.ref a0), some (.int a1), some (.int (0 : Int32)), some (.int x1)] rfl (Nat.le_of_ble_eq_true rfl) rfl rfl ?_
  refine tw_loop (fun s3 => [some (.ref a0), some (.int a1), some (.int s3), some (.int x1)]) (fun s3 => []) (fun r2 h2 s3 => ?_) _ rfl rfl
  refine tw_iload_n (k := 5) rfl rfl ?_
  refine tw_iload_n (k := 6) rfl rfl ?_
  refine tw_icmp_ge (k := 7) 20 rfl (by decide) ?_ ?_
  · exact tw_return (k := 14) rfl rfl (by decide) (by decide)
  · refine tw_aload_n (k := 8) rfl rfl ?_
    refine tw_iload_n (k := 9) rfl rfl ?_
    refine tw_iload_n (k := 10) rfl rfl ?_
    refine tw_iastore (k := 11) rfl ?_
    refine tw_inc (k := 12) (1 : Int32) [some (.ref a0), some (.int a1), some (.int (s3 + (1 : Int32))), some (.int x1)] rfl rfl (by decide) (Nat.le_of_ble_eq_true rfl) rfl rfl ?_
    refine tw_goto (k := 13) 5 rfl (by decide) ?_
    exact h2 (s3 + (1 : Int32))
def mJ7_copyOf_59c91 : tw_MD := (yJ7_copyOf_59c91, cJ7_copyOf_59c91, 3, (some (FieldType.array FieldType.int)), [(0, .iload_n 1, 1, 1), (1, .aload_n 0, 1, 2), (2, .arraylength, 1, 3), (3, .if_icmp .ne 11, 3, 6), (6, .aload_n 0, 1, 7), (7, .invokevirtual 316, 3, 10), (10, .checkcast 317, 3, 13), (13, .areturn, 1, 14), (14, .iload_n 1, 1, 15), (15, .newarray .int, 2, 17), (17, .astore_n 2, 1, 18), (18, .aload_n 0, 1, 19), (19, .iconst 0, 1, 20), (20, .aload_n 2, 1, 21), (21, .iconst 0, 1, 22), (22, .aload_n 0, 1, 23), (23, .arraylength, 1, 24), (24, .iload_n 1, 1, 25), (25, .invokestatic 304, 3, 28), (28, .invokestatic 150, 3, 31), (31, .aload_n 2, 1, 32), (32, .areturn, 1, 33)], [])
theorem mo_J7_copyOf_59c91 : tw_mok mJ7_copyOf_59c91 2 := ⟨plainFor_of_name (by decide +kernel), by decide +kernel, by decide +kernel, by decide +kernel, by decide +kernel⟩
theorem dk_J7_copyOf_59c91 : tw_dk mJ7_copyOf_59c91 := by unfold tw_dk; decide +kernel
theorem km_RJ7_150 : Cond.methodLink RJ7 150 arraycopyName ∈ lw_tbl := List.mem_of_getElem? (i := 1240) (by decide +kernel)
theorem kan : Cond.native arraycopyName ∈ lw_tbl := List.mem_of_getElem? (i := 833) (by decide +kernel)
theorem kas : Cond.static arraycopyName ∈ lw_tbl := List.mem_of_getElem? (i := 832) (by decide +kernel)
theorem kai : Cond.initialized "java/lang/System" ∈ lw_tbl := List.mem_of_getElem? (i := 138) (by decide +kernel)
theorem ws_RJ7_304_J9_min_7cf53 : tw_wS RJ7 304 mJ9_min_7cf53 := ⟨List.mem_of_getElem? (i := 1239) (by decide +kernel), List.mem_of_getElem? (i := 609) (by decide +kernel), List.mem_of_getElem? (i := 148) (by decide +kernel), List.mem_of_getElem? (i := 610) (by decide +kernel)⟩
theorem ka_int : Cond.arrayClass .int ∈ lw_tbl := List.mem_of_getElem? (i := 174) (by decide +kernel)
theorem km_RJ7_316 : Cond.methodLink RJ7 316 ⟨"[I", "clone", "()Ljava/lang/Object;"⟩ ∈ lw_tbl := List.mem_of_getElem? (i := 1232) (by decide +kernel)
theorem kcs : Cond.sameMethod "[I" "java/lang/Object" "clone" "()Ljava/lang/Object;" ∈ lw_tbl := List.mem_of_getElem? (i := 1233) (by decide +kernel)
theorem kcn : Cond.native ⟨"java/lang/Object", "clone", "()Ljava/lang/Object;"⟩ ∈ lw_tbl := List.mem_of_getElem? (i := 1234) (by decide +kernel)
theorem kci : Cond.instanceMethod ⟨"java/lang/Object", "clone", "()Ljava/lang/Object;"⟩ ∈ lw_tbl := List.mem_of_getElem? (i := 1235) (by decide +kernel)
theorem kce : Cond.selects "[I" ⟨"[I", "clone", "()Ljava/lang/Object;"⟩ ⟨"java/lang/Object", "clone", "()Ljava/lang/Object;"⟩ ∈ lw_tbl := List.mem_of_getElem? (i := 1236) (by decide +kernel)
theorem kcb : Cond.castable "[I" "java/lang/Cloneable" ∈ lw_tbl := List.mem_of_getElem? (i := 1237) (by decide +kernel)
theorem kcl_RJ7_317 : Cond.classLink RJ7 317 "[I" ∈ lw_tbl := List.mem_of_getElem? (i := 1238) (by decide +kernel)
set_option maxRecDepth 20000 in
theorem K_J7_copyOf_59c91 {g : tw_Gx} (Q : tw_Rs → tw_Mem → Prop) (a0 : Nat) (a1 : Int32) : tw_Kt g mJ7_copyOf_59c91 2 1 400 [.ref a0, .int a1] Q (f_J7_copyOf_59c91 a0 a1 (fun v => Q (.inl (some (.ref v))))) := by
  refine tw_mkK (L := [some (.ref a0), some (.int a1), none]) mo_J7_copyOf_59c91 dk_J7_copyOf_59c91 rfl (Nat.le_of_ble_eq_true rfl) rfl ?_
  unfold f_J7_copyOf_59c91
  refine tw_iload_n (k := 0) rfl rfl ?_
  refine tw_aload_n (k := 1) rfl rfl ?_
  refine tw_alength (k := 2) rfl (fun x1 => ?_)
  refine tw_icmp_ne (k := 3) 14 rfl (by decide) ?_ ?_
  · refine tw_iload_n (k := 8) rfl rfl ?_
    refine tw_newI (k := 9) 400 rfl ka_int (by decide) (by decide) (by decide) (fun b2 => ?_)
    refine tw_ast_n (k := 10) [some (.ref a0), some (.int a1), some (.ref b2)] rfl (Nat.le_of_ble_eq_true rfl) rfl rfl ?_
    refine tw_aload_n (k := 11) rfl rfl ?_
    refine tw_iconst (k := 12) (0 : Int32) rfl (by decide) ?_
    refine tw_aload_n (k := 13) rfl rfl ?_
    refine tw_iconst (k := 14) (0 : Int32) rfl (by decide) ?_
    refine tw_aload_n (k := 15) rfl rfl ?_
    refine tw_alength (k := 16) rfl (fun x3 => ?_)
    refine tw_iload_n (k := 17) rfl rfl ?_
    refine tw_callS (k := 18) (d' := 1) (mc' := 0) (ms' := 0) tw_cI tw_cIi [.int x3, .int a1] rfl rfl ws_RJ7_304_J9_min_7cf53 mo_J9_min_7cf53 rfl (fun Q9 => K_J9_min_7cf53 Q9 x3 a1) (by omega) (by decide) (by decide) (Nat.le_of_ble_eq_true rfl) (fun x4 => ?_)
    refine tw_copy (k := 19) rfl km_RJ7_150 kan kas kai (by omega) (Nat.le_of_ble_eq_true rfl) ?_
    refine tw_aload_n (k := 20) rfl rfl ?_
    exact tw_areturn (k := 21) (v := some b2) rfl rfl (Or.inr ⟨_, rfl⟩) (by decide) (by decide)
  · refine tw_aload_n (k := 4) rfl rfl ?_
    refine tw_clone (k := 5) 400 rfl km_RJ7_316 kcs kcn kci kce kcb (by omega) (Nat.le_of_ble_eq_true rfl) (by decide) (by decide) (fun b5 => ?_)
    refine tw_castI (k := 6) rfl kcl_RJ7_317 ?_
    exact tw_areturn (k := 7) (v := some b5) rfl rfl (Or.inr ⟨_, rfl⟩) (by decide) (by decide)
