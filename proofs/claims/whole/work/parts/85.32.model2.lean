def mX12_readAtom : tw_MD := (yX12_readAtom, cX12_readAtom, 2, (some FieldType.boolean), [(0, .aload_n 0, 1, 1), (1, .bipush 40, 2, 3), (3, .invokevirtual 185, 3, 6), (6, .ifCond .eq 50, 3, 9), (9, .aload_n 0, 1, 10), (10, .getfield 193, 3, 13), (13, .bipush 6, 2, 15), (15, .if_icmp .ne 5, 3, 18), (18, .iconst 0, 1, 19), (19, .ireturn, 1, 20), (20, .aload_n 0, 1, 21), (21, .dup, 1, 22), (22, .getfield 193, 3, 25), (25, .iconst 1, 1, 26), (26, .iadd, 1, 27), (27, .putfield 193, 3, 30), (30, .aload_n 0, 1, 31), (31, .invokevirtual 196, 3, 34), (34, .ifCond .ne 5, 3, 37), (37, .iconst 0, 1, 38), (38, .ireturn, 1, 39), (39, .aload_n 0, 1, 40), (40, .dup, 1, 41), (41, .getfield 193, 3, 44), (44, .iconst 1, 1, 45), (45, .isub, 1, 46), (46, .putfield 193, 3, 49), (49, .aload_n 0, 1, 50), (50, .bipush 41, 2, 52), (52, .invokevirtual 185, 3, 55), (55, .ireturn, 1, 56), (56, .aload_n 0, 1, 57), (57, .ldc 199, 2, 59), (59, .invokevirtual 126, 3, 62), (62, .ifCond .eq 52, 3, 65), (65, .aload_n 0, 1, 66), (66, .getfield 193, 3, 69), (69, .bipush 6, 2, 71), (71, .if_icmp .ne 5, 3, 74), (74, .iconst 0, 1, 75), (75, .ireturn, 1, 76), (76, .aload_n 0, 1, 77), (77, .dup, 1, 78), (78, .getfield 193, 3, 81), (81, .iconst 1, 1, 82), (82, .iadd, 1, 83), (83, .putfield 193, 3, 86), (86, .aload_n 0, 1, 87), (87, .invokevirtual 201, 3, 90), (90, .ifCond .ne 5, 3, 93), (93, .iconst 0, 1, 94), (94, .ireturn, 1, 95), (95, .aload_n 0, 1, 96), (96, .dup, 1, 97), (97, .getfield 193, 3, 100), (100, .iconst 1, 1, 101), (101, .isub, 1, 102), (102, .putfield 193, 3, 105), (105, .aload_n 0, 1, 106), (106, .bipush 14, 2, 108), (108, .iconst 0, 1, 109), (109, .invokevirtual 178, 3, 112), (112, .iconst 1, 1, 113), (113, .ireturn, 1, 114), (114, .aload_n 0, 1, 115), (115, .invokevirtual 204, 3, 118), (118, .ifCond .eq 5, 3, 121), (121, .iconst 1, 1, 122), (122, .ireturn, 1, 123), (123, .aload_n 0, 1, 124), (124, .invokevirtual 207, 3, 127), (127, .ifCond .ne 5, 3, 130), (130, .iconst 0, 1, 131), (131, .ireturn, 1, 132), (132, .aload_n 0, 1, 133), (133, .bipush 60, 2, 135), (135, .invokevirtual 185, 3, 138), (138, .istore_n 1, 1, 139), (139, .iload_n 1, 1, 140), (140, .ifCond .ne 12, 3, 143), (143, .aload_n 0, 1, 144), (144, .bipush 62, 2, 146), (146, .invokevirtual 185, 3, 149), (149, .ifCond .eq 10, 3, 152), (152, .aload_n 0, 1, 153), (153, .invokevirtual 207, 3, 156), (156, .ifCond .ne 5, 3, 159), (159, .iconst 0, 1, 160), (160, .ireturn, 1, 161), (161, .aload_n 0, 1, 162), (162, .iload_n 1, 1, 163), (163, .ifCond .eq 8, 3, 166), (166, .bipush 12, 2, 168), (168, .goto 5, 3, 171), (171, .bipush 13, 2, 173), (173, .iconst 0, 1, 174), (174, .invokevirtual 178, 3, 177), (177, .iconst 1, 1, 178), (178, .ireturn, 1, 179)], [])
theorem mo_X12_readAtom : tw_mok mX12_readAtom 0 := ⟨plainFor_of_name (by decide +kernel), by decide +kernel, by decide +kernel, by decide +kernel, by decide +kernel⟩
theorem dk_X12_readAtom : tw_dk mX12_readAtom := by unfold tw_dk; decide +kernel
def mX12_readAllOf : tw_MD := (yX12_readAllOf, cX12_readAllOf, 1, (some FieldType.boolean), [(0, .aload_n 0, 1, 1), (1, .invokevirtual 201, 3, 4), (4, .ifCond .ne 5, 3, 7), (7, .iconst 0, 1, 8), (8, .ireturn, 1, 9), (9, .aload_n 0, 1, 10), (10, .ldc 210, 2, 12), (12, .invokevirtual 126, 3, 15), (15, .ifCond .eq 22, 3, 18), (18, .aload_n 0, 1, 19), (19, .invokevirtual 201, 3, 22), (22, .ifCond .ne 5, 3, 25), (25, .iconst 0, 1, 26), (26, .ireturn, 1, 27), (27, .aload_n 0, 1, 28), (28, .bipush 15, 2, 30), (30, .iconst 0, 1, 31), (31, .invokevirtual 178, 3, 34), (34, .goto (-25), 3, 37), (37, .iconst 1, 1, 38), (38, .ireturn, 1, 39)], [])
theorem mo_X12_readAllOf : tw_mok mX12_readAllOf 0 := ⟨plainFor_of_name (by decide +kernel), by decide +kernel, by decide +kernel, by decide +kernel, by decide +kernel⟩
theorem dk_X12_readAllOf : tw_dk mX12_readAllOf := by unfold tw_dk; decide +kernel
theorem ks_RX12_210 : Cond.stringRef RX12 210 "and" ∈ lw_tbl := List.mem_of_getElem? (i := 2029) (by decide +kernel)
theorem wv_RX12_201_X12_readAtom : tw_wV RX12 201 mX12_readAtom := ⟨List.mem_of_getElem? (i := 1994) (by decide +kernel), List.mem_of_getElem? (i := 1996) (by decide +kernel), List.mem_of_getElem? (i := 65) (by decide +kernel), List.mem_of_getElem? (i := 137) (by decide +kernel), List.mem_of_getElem? (i := 1997) (by decide +kernel)⟩
set_option maxRecDepth 20000 in
theorem K_X12_readAllOf {g : tw_Gx} {dr : Nat} (rR : Nat → (Int32 → tw_Mem → Prop) → tw_Mem → Prop) (hR : ∀ (Q : tw_Rs → tw_Mem → Prop) (b0 : Nat), tw_Kt g mX12_readAtom dr 0 0 [.ref b0] Q (rR b0 (fun v => Q (.inl (some (.int v)))))) (Q : tw_Rs → tw_Mem → Prop) (a0 : Nat) : tw_Kt g mX12_readAllOf (dr + 7) 0 0 [.ref a0] Q (f_X12_readAllOf g rR a0 (fun v => Q (.inl (some (.int v))))) := by
  refine tw_mkK (L := [some (.ref a0)]) mo_X12_readAllOf dk_X12_readAllOf rfl (Nat.le_of_ble_eq_true rfl) rfl ?_
  unfold f_X12_readAllOf
  refine tw_aload_n (k := 0) rfl rfl ?_
  refine tw_callV (k := 1) (d' := dr) (mc' := 0) (ms' := 0) tw_cI tw_cIi [] rfl rfl wv_RX12_201_X12_readAtom mo_X12_readAtom (t := 11) rfl rfl rfl (fun Q9 => hR Q9 a0) (by omega) (by decide) (by decide) (Nat.le_of_ble_eq_true rfl) (fun x1 => ?_)
  refine tw_if_ne (k := 2) 9 rfl (by decide) ?_ ?_
  · refine tw_loop (fun s3 => [some (.ref a0)]) (fun s3 => []) (fun r2 h2 s3 => ?_) _ rfl rfl
    refine tw_aload_n (k := 5) rfl rfl ?_
    refine tw_ldcS (k := 6) rfl ks_RX12_210 (fun t4 => ?_)
    refine tw_callV (k := 7) (d' := 6) (mc' := 0) (ms' := 0) tw_cI tw_cIi [.ref t4] rfl rfl wv_RX12_126_X12_passes mo_X12_passes (t := 11) rfl rfl rfl (fun Q9 => K_X12_passes Q9 a0 t4) (by omega) (by decide) (by decide) (Nat.le_of_ble_eq_true rfl) (fun x5 => ?_)
    refine tw_if_eq (k := 8) 37 rfl (by decide) ?_ ?_
    · refine tw_iconst (k := 19) (1 : Int32) rfl (by decide) ?_
      exact tw_zreturn (k := 20) rfl rfl (by decide) (by decide)
    · refine tw_aload_n (k := 9) rfl rfl ?_
      refine tw_callV (k := 10) (d' := dr) (mc' := 0) (ms' := 0) tw_cI tw_cIi [] rfl rfl wv_RX12_201_X12_readAtom mo_X12_readAtom (t := 11) rfl rfl rfl (fun Q9 => hR Q9 a0) (by omega) (by decide) (by decide) (Nat.le_of_ble_eq_true rfl) (fun x6 => ?_)
      refine tw_if_ne (k := 11) 27 rfl (by decide) ?_ ?_
      · refine tw_aload_n (k := 14) rfl rfl ?_
        refine tw_bipush (k := 15) (15 : Int32) rfl (by decide) ?_
        refine tw_iconst (k := 16) (0 : Int32) rfl (by decide) ?_
        refine tw_callV (k := 17) (d' := 1) (mc' := 0) (ms' := 0) tw_cU tw_cUi [.int (15 : Int32), .int (0 : Int32)] rfl rfl wv_RX12_178_X12_emits mo_X12_emits (t := 11) rfl rfl rfl (fun Q9 => K_X12_emits Q9 a0 (15 : Int32) (0 : Int32)) (by omega) (by decide) (by decide) (Nat.le_of_ble_eq_true rfl) (fun u7 => ?_)
        refine tw_goto (k := 18) 9 rfl (by decide) ?_
        exact h2 ()
      · refine tw_iconst (k := 12) (0 : Int32) rfl (by decide) ?_
        exact tw_zreturn (k := 13) rfl rfl (by decide) (by decide)
  · refine tw_iconst (k := 3) (0 : Int32) rfl (by decide) ?_
    exact tw_zreturn (k := 4) rfl rfl (by decide) (by decide)
def mX12_readCond : tw_MD := (yX12_readCond, cX12_readCond, 1, (some FieldType.boolean), [(0, .aload_n 0, 1, 1), (1, .invokevirtual 212, 3, 4), (4, .ifCond .ne 5, 3, 7), (7, .iconst 0, 1, 8), (8, .ireturn, 1, 9), (9, .aload_n 0, 1, 10), (10, .ldc 215, 2, 12), (12, .invokevirtual 126, 3, 15), (15, .ifCond .eq 22, 3, 18), (18, .aload_n 0, 1, 19), (19, .invokevirtual 212, 3, 22), (22, .ifCond .ne 5, 3, 25), (25, .iconst 0, 1, 26), (26, .ireturn, 1, 27), (27, .aload_n 0, 1, 28), (28, .bipush 16, 2, 30), (30, .iconst 0, 1, 31), (31, .invokevirtual 178, 3, 34), (34, .goto (-25), 3, 37), (37, .iconst 1, 1, 38), (38, .ireturn, 1, 39)], [])
theorem mo_X12_readCond : tw_mok mX12_readCond 0 := ⟨plainFor_of_name (by decide +kernel), by decide +kernel, by decide +kernel, by decide +kernel, by decide +kernel⟩
theorem dk_X12_readCond : tw_dk mX12_readCond := by unfold tw_dk; decide +kernel
theorem ks_RX12_215 : Cond.stringRef RX12 215 "or" ∈ lw_tbl := List.mem_of_getElem? (i := 2030) (by decide +kernel)
theorem wv_RX12_212_X12_readAllOf : tw_wV RX12 212 mX12_readAllOf := ⟨List.mem_of_getElem? (i := 1990) (by decide +kernel), List.mem_of_getElem? (i := 1992) (by decide +kernel), List.mem_of_getElem? (i := 64) (by decide +kernel), List.mem_of_getElem? (i := 137) (by decide +kernel), List.mem_of_getElem? (i := 1993) (by decide +kernel)⟩
set_option maxRecDepth 20000 in
theorem K_X12_readCond {g : tw_Gx} {dr : Nat} (rR : Nat → (Int32 → tw_Mem → Prop) → tw_Mem → Prop) (hR : ∀ (Q : tw_Rs → tw_Mem → Prop) (b0 : Nat), tw_Kt g mX12_readAtom dr 0 0 [.ref b0] Q (rR b0 (fun v => Q (.inl (some (.int v)))))) (Q : tw_Rs → tw_Mem → Prop) (a0 : Nat) : tw_Kt g mX12_readCond (dr + 8) 0 0 [.ref a0] Q (f_X12_readCond g rR a0 (fun v => Q (.inl (some (.int v))))) := by
  refine tw_mkK (L := [some (.ref a0)]) mo_X12_readCond dk_X12_readCond rfl (Nat.le_of_ble_eq_true rfl) rfl ?_
  unfold f_X12_readCond
  refine tw_aload_n (k := 0) rfl rfl ?_
  refine tw_callV (k := 1) (d' := (dr + 7)) (mc' := 0) (ms' := 0) tw_cI tw_cIi [] rfl rfl wv_RX12_212_X12_readAllOf mo_X12_readAllOf (t := 11) rfl rfl rfl (fun Q9 => K_X12_readAllOf rR hR Q9 a0) (by omega) (by decide) (by decide) (Nat.le_of_ble_eq_true rfl) (fun x1 => ?_)
  refine tw_if_ne (k := 2) 9 rfl (by decide) ?_ ?_
  · refine tw_loop (fun s3 => [some (.ref a0)]) (fun s3 => []) (fun r2 h2 s3 => ?_) _ rfl rfl
    refine tw_aload_n (k := 5) rfl rfl ?_
    refine tw_ldcS (k := 6) rfl ks_RX12_215 (fun t4 => ?_)
    refine tw_callV (k := 7) (d' := 6) (mc' := 0) (ms' := 0) tw_cI tw_cIi [.ref t4] rfl rfl wv_RX12_126_X12_passes mo_X12_passes (t := 11) rfl rfl rfl (fun Q9 => K_X12_passes Q9 a0 t4) (by omega) (by decide) (by decide) (Nat.le_of_ble_eq_true rfl) (fun x5 => ?_)
    refine tw_if_eq (k := 8) 37 rfl (by decide) ?_ ?_
    · refine tw_iconst (k := 19) (1 : Int32) rfl (by decide) ?_
      exact tw_zreturn (k := 20) rfl rfl (by decide) (by decide)
    · refine tw_aload_n (k := 9) rfl rfl ?_
      refine tw_callV (k := 10) (d' := (dr + 7)) (mc' := 0) (ms' := 0) tw_cI tw_cIi [] rfl rfl wv_RX12_212_X12_readAllOf mo_X12_readAllOf (t := 11) rfl rfl rfl (fun Q9 => K_X12_readAllOf rR hR Q9 a0) (by omega) (by decide) (by decide) (Nat.le_of_ble_eq_true rfl) (fun x6 => ?_)
      refine tw_if_ne (k := 11) 27 rfl (by decide) ?_ ?_
      · refine tw_aload_n (k := 14) rfl rfl ?_
        refine tw_bipush (k := 15) (16 : Int32) rfl (by decide) ?_
        refine tw_iconst (k := 16) (0 : Int32) rfl (by decide) ?_
        refine tw_callV (k := 17) (d' := 1) (mc' := 0) (ms' := 0) tw_cU tw_cUi [.int (16 : Int32), .int (0 : Int32)] rfl rfl wv_RX12_178_X12_emits mo_X12_emits (t := 11) rfl rfl rfl (fun Q9 => K_X12_emits Q9 a0 (16 : Int32) (0 : Int32)) (by omega) (by decide) (by decide) (Nat.le_of_ble_eq_true rfl) (fun u7 => ?_)
        refine tw_goto (k := 18) 9 rfl (by decide) ?_
        exact h2 ()
      · refine tw_iconst (k := 12) (0 : Int32) rfl (by decide) ?_
        exact tw_zreturn (k := 13) rfl rfl (by decide) (by decide)
  · refine tw_iconst (k := 3) (0 : Int32) rfl (by decide) ?_
    exact tw_zreturn (k := 4) rfl rfl (by decide) (by decide)
theorem ks_RX12_199 : Cond.stringRef RX12 199 "not" ∈ lw_tbl := List.mem_of_getElem? (i := 2002) (by decide +kernel)
theorem wv_RX12_207_X12_readSum : tw_wV RX12 207 mX12_readSum := ⟨List.mem_of_getElem? (i := 2013) (by decide +kernel), List.mem_of_getElem? (i := 2015) (by decide +kernel), List.mem_of_getElem? (i := 69) (by decide +kernel), List.mem_of_getElem? (i := 137) (by decide +kernel), List.mem_of_getElem? (i := 2016) (by decide +kernel)⟩
theorem wv_RX12_204_X12_readTag : tw_wV RX12 204 mX12_readTag := ⟨List.mem_of_getElem? (i := 2007) (by decide +kernel), List.mem_of_getElem? (i := 2009) (by decide +kernel), List.mem_of_getElem? (i := 68) (by decide +kernel), List.mem_of_getElem? (i := 137) (by decide +kernel), List.mem_of_getElem? (i := 2010) (by decide +kernel)⟩
theorem fl_RX12_193 : tw_fl RX12 193 83 := Or.inl (List.mem_of_getElem? (i := 1803) (by decide +kernel))
theorem wf_X12_readAtom_193 : tw_wf mX12_readAtom 193 83 := Or.inl rfl
theorem wv_RX12_196_X12_readCond : tw_wV RX12 196 mX12_readCond := ⟨List.mem_of_getElem? (i := 1986) (by decide +kernel), List.mem_of_getElem? (i := 1988) (by decide +kernel), List.mem_of_getElem? (i := 63) (by decide +kernel), List.mem_of_getElem? (i := 137) (by decide +kernel), List.mem_of_getElem? (i := 1989) (by decide +kernel)⟩
set_option maxRecDepth 20000 in
theorem K_X12_readAtom {g : tw_Gx} {dr : Nat} (rR : Nat → (Int32 → tw_Mem → Prop) → tw_Mem → Prop) (hR : ∀ (Q : tw_Rs → tw_Mem → Prop) (b0 : Nat), tw_Kt g mX12_readAtom dr 0 0 [.ref b0] Q (rR b0 (fun v => Q (.inl (some (.int v)))))) (Q : tw_Rs → tw_Mem → Prop) (a0 : Nat) : tw_Kt g mX12_readAtom (dr + 9) 0 0 [.ref a0] Q (f_X12_readAtom g rR a0 (fun v => Q (.inl (some (.int v))))) := by
  refine tw_mkK (L := [some (.ref a0), none]) mo_X12_readAtom dk_X12_readAtom rfl (Nat.le_of_ble_eq_true rfl) rfl ?_
  unfold f_X12_readAtom
  refine tw_aload_n (k := 0) rfl rfl ?_
  refine tw_bipush (k := 1) (40 : Int32) rfl (by decide) ?_
  refine tw_callV (k := 2) (d' := 3) (mc' := 0) (ms' := 0) tw_cI tw_cIi [.int (40 : Int32)] rfl rfl wv_RX12_185_X12_sign mo_X12_sign (t := 11) rfl rfl rfl (fun Q9 => K_X12_sign Q9 a0 (40 : Int32)) (by omega) (by decide) (by decide) (Nat.le_of_ble_eq_true rfl) (fun x1 => ?_)
  refine tw_if_eq (k := 3) 56 rfl (by decide) ?_ ?_
  · refine tw_aload_n (k := 31) rfl rfl ?_
    refine tw_ldcS (k := 32) rfl ks_RX12_199 (fun t2 => ?_)
    refine tw_callV (k := 33) (d' := 6) (mc' := 0) (ms' := 0) tw_cI tw_cIi [.ref t2] rfl rfl wv_RX12_126_X12_passes mo_X12_passes (t := 11) rfl rfl rfl (fun Q9 => K_X12_passes Q9 a0 t2) (by omega) (by decide) (by decide) (Nat.le_of_ble_eq_true rfl) (fun x3 => ?_)
    refine tw_if_eq (k := 34) 114 rfl (by decide) ?_ ?_
    · refine tw_aload_n (k := 64) rfl rfl ?_
      refine tw_callV (k := 65) (d' := 6) (mc' := 0) (ms' := 0) tw_cI tw_cIi [] rfl rfl wv_RX12_204_X12_readTag mo_X12_readTag (t := 11) rfl rfl rfl (fun Q9 => K_X12_readTag Q9 a0) (by omega) (by decide) (by decide) (Nat.le_of_ble_eq_true rfl) (fun x4 => ?_)
      refine tw_if_eq (k := 66) 123 rfl (by decide) ?_ ?_
      · refine tw_aload_n (k := 69) rfl rfl ?_
        refine tw_callV (k := 70) (d' := 8) (mc' := 0) (ms' := 0) tw_cI tw_cIi [] rfl rfl wv_RX12_207_X12_readSum mo_X12_readSum (t := 11) rfl rfl rfl (fun Q9 => K_X12_readSum Q9 a0) (by omega) (by decide) (by decide) (Nat.le_of_ble_eq_true rfl) (fun x5 => ?_)
        refine tw_if_ne (k := 71) 132 rfl (by decide) ?_ ?_
        · refine tw_aload_n (k := 74) rfl rfl ?_
          refine tw_bipush (k := 75) (60 : Int32) rfl (by decide) ?_
          refine tw_callV (k := 76) (d' := 3) (mc' := 0) (ms' := 0) tw_cI tw_cIi [.int (60 : Int32)] rfl rfl wv_RX12_185_X12_sign mo_X12_sign (t := 11) rfl rfl rfl (fun Q9 => K_X12_sign Q9 a0 (60 : Int32)) (by omega) (by decide) (by decide) (Nat.le_of_ble_eq_true rfl) (fun x6 => ?_)
          refine tw_ist_n (k := 77) [some (.ref a0), some (.int x6)] rfl (Nat.le_of_ble_eq_true rfl) rfl rfl ?_
          refine tw_iload_n (k := 78) rfl rfl ?_
          refine tw_join 152 (fun s8 => [some (.ref a0), some (.int x6)]) (fun s8 => []) 0 0 (fun s8 => ?_) (fun j7 g7 => ?_)
          · refine tw_aload_n (k := 84) rfl rfl ?_
            refine tw_callV (k := 85) (d' := 8) (mc' := 0) (ms' := 0) tw_cI tw_cIi [] rfl rfl wv_RX12_207_X12_readSum mo_X12_readSum (t := 11) rfl rfl rfl (fun Q9 => K_X12_readSum Q9 a0) (by omega) (by decide) (by decide) (Nat.le_of_ble_eq_true rfl) (fun x9 => ?_)
            refine tw_if_ne (k := 86) 161 rfl (by decide) ?_ ?_
            · refine tw_aload_n (k := 89) rfl rfl ?_
              refine tw_iload_n (k := 90) rfl rfl ?_
              refine tw_join 173 (fun s11 => [some (.ref a0), some (.int x6)]) (fun s11 => .int s11 :: .ref a0 :: []) 0 0 (fun s11 => ?_) (fun j10 g10 => ?_)
              · refine tw_iconst (k := 95) (0 : Int32) rfl (by decide) ?_
                refine tw_callV (k := 96) (d' := 1) (mc' := 0) (ms' := 0) tw_cU tw_cUi [.int s11, .int (0 : Int32)] rfl rfl wv_RX12_178_X12_emits mo_X12_emits (t := 11) rfl rfl rfl (fun Q9 => K_X12_emits Q9 a0 s11 (0 : Int32)) (by omega) (by decide) (by decide) (Nat.le_of_ble_eq_true rfl) (fun u12 => ?_)
                refine tw_iconst (k := 97) (1 : Int32) rfl (by decide) ?_
                exact tw_zreturn (k := 98) rfl rfl (by decide) (by decide)
              · refine tw_if_eq (k := 91) 171 rfl (by decide) ?_ ?_
                · refine tw_bipush (k := 94) (13 : Int32) rfl (by decide) ?_
                  exact g10 (13 : Int32)
                · refine tw_bipush (k := 92) (12 : Int32) rfl (by decide) ?_
                  refine tw_goto (k := 93) 173 rfl (by decide) ?_
                  exact g10 (12 : Int32)
            · refine tw_iconst (k := 87) (0 : Int32) rfl (by decide) ?_
              exact tw_zreturn (k := 88) rfl rfl (by decide) (by decide)
          · refine tw_if_ne (k := 79) 152 rfl (by decide) ?_ ?_
            · exact g7 ()
            · refine tw_aload_n (k := 80) rfl rfl ?_
              refine tw_bipush (k := 81) (62 : Int32) rfl (by decide) ?_
              refine tw_callV (k := 82) (d' := 3) (mc' := 0) (ms' := 0) tw_cI tw_cIi [.int (62 : Int32)] rfl rfl wv_RX12_185_X12_sign mo_X12_sign (t := 11) rfl rfl rfl (fun Q9 => K_X12_sign Q9 a0 (62 : Int32)) (by omega) (by decide) (by decide) (Nat.le_of_ble_eq_true rfl) (fun x13 => ?_)
              refine tw_if_eq (k := 83) 159 rfl (by decide) ?_ ?_
              · refine tw_iconst (k := 87) (0 : Int32) rfl (by decide) ?_
                exact tw_zreturn (k := 88) rfl rfl (by decide) (by decide)
              · exact g7 ()
        · refine tw_iconst (k := 72) (0 : Int32) rfl (by decide) ?_
          exact tw_zreturn (k := 73) rfl rfl (by decide) (by decide)
      · refine tw_iconst (k := 67) (1 : Int32) rfl (by decide) ?_
        exact tw_zreturn (k := 68) rfl rfl (by decide) (by decide)
    · refine tw_aload_n (k := 35) rfl rfl ?_
      refine tw_getI (k := 36) rfl fl_RX12_193 (fun x14 => ?_)
      refine tw_bipush (k := 37) (6 : Int32) rfl (by decide) ?_
      refine tw_icmp_ne (k := 38) 76 rfl (by decide) ?_ ?_
      · refine tw_aload_n (k := 41) rfl rfl ?_
        refine tw_dup (k := 42) rfl rfl ?_
        refine tw_getI (k := 43) rfl fl_RX12_193 (fun x15 => ?_)
        refine tw_iconst (k := 44) (1 : Int32) rfl (by decide) ?_
        refine tw_iadd (k := 45) rfl ?_
        refine tw_putI (k := 46) rfl fl_RX12_193 wf_X12_readAtom_193 (by decide +kernel) ?_
        refine tw_aload_n (k := 47) rfl rfl ?_
        refine tw_callV (k := 48) (d' := dr) (mc' := 0) (ms' := 0) tw_cI tw_cIi [] rfl rfl wv_RX12_201_X12_readAtom mo_X12_readAtom (t := 11) rfl rfl rfl (fun Q9 => hR Q9 a0) (by omega) (by decide) (by decide) (Nat.le_of_ble_eq_true rfl) (fun x16 => ?_)
        refine tw_if_ne (k := 49) 95 rfl (by decide) ?_ ?_
        · refine tw_aload_n (k := 52) rfl rfl ?_
          refine tw_dup (k := 53) rfl rfl ?_
          refine tw_getI (k := 54) rfl fl_RX12_193 (fun x17 => ?_)
          refine tw_iconst (k := 55) (1 : Int32) rfl (by decide) ?_
          refine tw_isub (k := 56) rfl ?_
          refine tw_putI (k := 57) rfl fl_RX12_193 wf_X12_readAtom_193 (by decide +kernel) ?_
          refine tw_aload_n (k := 58) rfl rfl ?_
          refine tw_bipush (k := 59) (14 : Int32) rfl (by decide) ?_
          refine tw_iconst (k := 60) (0 : Int32) rfl (by decide) ?_
          refine tw_callV (k := 61) (d' := 1) (mc' := 0) (ms' := 0) tw_cU tw_cUi [.int (14 : Int32), .int (0 : Int32)] rfl rfl wv_RX12_178_X12_emits mo_X12_emits (t := 11) rfl rfl rfl (fun Q9 => K_X12_emits Q9 a0 (14 : Int32) (0 : Int32)) (by omega) (by decide) (by decide) (Nat.le_of_ble_eq_true rfl) (fun u18 => ?_)
          refine tw_iconst (k := 62) (1 : Int32) rfl (by decide) ?_
          exact tw_zreturn (k := 63) rfl rfl (by decide) (by decide)
        · refine tw_iconst (k := 50) (0 : Int32) rfl (by decide) ?_
          exact tw_zreturn (k := 51) rfl rfl (by decide) (by decide)
      · refine tw_iconst (k := 39) (0 : Int32) rfl (by decide) ?_
        exact tw_zreturn (k := 40) rfl rfl (by decide) (by decide)
  · refine tw_aload_n (k := 4) rfl rfl ?_
    refine tw_getI (k := 5) rfl fl_RX12_193 (fun x19 => ?_)
    refine tw_bipush (k := 6) (6 : Int32) rfl (by decide) ?_
    refine tw_icmp_ne (k := 7) 20 rfl (by decide) ?_ ?_
    · refine tw_aload_n (k := 10) rfl rfl ?_
      refine tw_dup (k := 11) rfl rfl ?_
      refine tw_getI (k := 12) rfl fl_RX12_193 (fun x20 => ?_)
      refine tw_iconst (k := 13) (1 : Int32) rfl (by decide) ?_
      refine tw_iadd (k := 14) rfl ?_
      refine tw_putI (k := 15) rfl fl_RX12_193 wf_X12_readAtom_193 (by decide +kernel) ?_
      refine tw_aload_n (k := 16) rfl rfl ?_
      refine tw_callV (k := 17) (d' := (dr + 8)) (mc' := 0) (ms' := 0) tw_cI tw_cIi [] rfl rfl wv_RX12_196_X12_readCond mo_X12_readCond (t := 11) rfl rfl rfl (fun Q9 => K_X12_readCond rR hR Q9 a0) (by omega) (by decide) (by decide) (Nat.le_of_ble_eq_true rfl) (fun x21 => ?_)
      refine tw_if_ne (k := 18) 39 rfl (by decide) ?_ ?_
      · refine tw_aload_n (k := 21) rfl rfl ?_
        refine tw_dup (k := 22) rfl rfl ?_
        refine tw_getI (k := 23) rfl fl_RX12_193 (fun x22 => ?_)
        refine tw_iconst (k := 24) (1 : Int32) rfl (by decide) ?_
        refine tw_isub (k := 25) rfl ?_
        refine tw_putI (k := 26) rfl fl_RX12_193 wf_X12_readAtom_193 (by decide +kernel) ?_
        refine tw_aload_n (k := 27) rfl rfl ?_
        refine tw_bipush (k := 28) (41 : Int32) rfl (by decide) ?_
        refine tw_callV (k := 29) (d' := 3) (mc' := 0) (ms' := 0) tw_cI tw_cIi [.int (41 : Int32)] rfl rfl wv_RX12_185_X12_sign mo_X12_sign (t := 11) rfl rfl rfl (fun Q9 => K_X12_sign Q9 a0 (41 : Int32)) (by omega) (by decide) (by decide) (Nat.le_of_ble_eq_true rfl) (fun x23 => ?_)
        exact tw_zreturn (k := 30) rfl rfl (by decide) (by decide)
      · refine tw_iconst (k := 19) (0 : Int32) rfl (by decide) ?_
        exact tw_zreturn (k := 20) rfl rfl (by decide) (by decide)
    · refine tw_iconst (k := 8) (0 : Int32) rfl (by decide) ?_
      exact tw_zreturn (k := 9) rfl rfl (by decide) (by decide)
theorem KN_X12_readAtom {g : tw_Gx} : ∀ (n : Nat) (Q : tw_Rs → tw_Mem → Prop) (b0 : Nat), tw_Kt g mX12_readAtom (9 * n) 0 0 [.ref b0] Q (fN_X12_readAtom g n b0 (fun v => Q (.inl (some (.int v)))))
  | 0, Q, b0 => fun _ M h => h.elim
  | n + 1, Q, b0 => by
    have h := K_X12_readAtom (fN_X12_readAtom g n) (KN_X12_readAtom n) Q b0
    rw [Nat.mul_succ]
    exact h
def mX12_readLawLine : tw_MD := (yX12_readLawLine, cX12_readLawLine, 3, (some FieldType.boolean), [(0, .sipush 1342, 3, 3), (3, .iconst 4, 1, 4), (4, .iload_n 1, 1, 5), (5, .imul, 1, 6), (6, .iadd, 1, 7), (7, .istore_n 2, 1, 8), (8, .aload_n 0, 1, 9), (9, .getfield 13, 3, 12), (12, .iload_n 2, 1, 13), (13, .aload_n 0, 1, 14), (14, .ldc 148, 2, 16), (16, .invokevirtual 112, 3, 19), (19, .ifCond .eq 7, 3, 22), (22, .iconst 0, 1, 23), (23, .goto 30, 3, 26), (26, .aload_n 0, 1, 27), (27, .ldc 217, 2, 29), (29, .invokevirtual 112, 3, 32), (32, .ifCond .eq 7, 3, 35), (35, .iconst 1, 1, 36), (36, .goto 17, 3, 39), (39, .aload_n 0, 1, 40), (40, .ldc 219, 2, 42), (42, .invokevirtual 112, 3, 45), (45, .ifCond .eq 7, 3, 48), (48, .iconst 2, 1, 49), (49, .goto 4, 3, 52), (52, .iconst (-1), 1, 53), (53, .iastore, 1, 54), (54, .aload_n 0, 1, 55), (55, .getfield 13, 3, 58), (58, .iload_n 2, 1, 59), (59, .iaload, 1, 60), (60, .ifCond .ge 5, 3, 63), (63, .iconst 0, 1, 64), (64, .ireturn, 1, 65), (65, .aload_n 0, 1, 66), (66, .getfield 13, 3, 69), (69, .iload_n 2, 1, 70), (70, .iconst 1, 1, 71), (71, .iadd, 1, 72), (72, .aload_n 0, 1, 73), (73, .iconst 0, 1, 74), (74, .bipush 30, 2, 76), (76, .invokevirtual 116, 3, 79), (79, .iastore, 1, 80), (80, .aload_n 0, 1, 81), (81, .getfield 13, 3, 84), (84, .iload_n 2, 1, 85), (85, .iconst 1, 1, 86), (86, .iadd, 1, 87), (87, .iaload, 1, 88), (88, .ifCond .ge 5, 3, 91), (91, .iconst 0, 1, 92), (92, .ireturn, 1, 93), (93, .aload_n 0, 1, 94), (94, .getfield 13, 3, 97), (97, .iload_n 2, 1, 98), (98, .iconst 2, 1, 99), (99, .iadd, 1, 100), (100, .aload_n 0, 1, 101), (101, .getfield 164, 3, 104), (104, .iastore, 1, 105), (105, .aload_n 0, 1, 106), (106, .iconst 0, 1, 107), (107, .putfield 193, 3, 110), (110, .aload_n 0, 1, 111), (111, .ldc 221, 2, 113), (113, .invokevirtual 126, 3, 116), (116, .ifCond .eq 12, 3, 119), (119, .aload_n 0, 1, 120), (120, .invokevirtual 196, 3, 123), (123, .ifCond .ne 5, 3, 126), (126, .iconst 0, 1, 127), (127, .ireturn, 1, 128), (128, .aload_n 0, 1, 129), (129, .getfield 13, 3, 132), (132, .iload_n 2, 1, 133), (133, .iconst 3, 1, 134), (134, .iadd, 1, 135), (135, .aload_n 0, 1, 136), (136, .getfield 164, 3, 139), (139, .iastore, 1, 140), (140, .iconst 1, 1, 141), (141, .ireturn, 1, 142)], [])
theorem mo_X12_readLawLine : tw_mok mX12_readLawLine 1 := ⟨plainFor_of_name (by decide +kernel), by decide +kernel, by decide +kernel, by decide +kernel, by decide +kernel⟩
theorem dk_X12_readLawLine : tw_dk mX12_readLawLine := by unfold tw_dk; decide +kernel
theorem ks_RX12_221 : Cond.stringRef RX12 221 "if" ∈ lw_tbl := List.mem_of_getElem? (i := 1985) (by decide +kernel)
theorem wf_X12_readLawLine_193 : tw_wf mX12_readLawLine 193 83 := Or.inl rfl
theorem ks_RX12_217 : Cond.stringRef RX12 217 "hush" ∈ lw_tbl := List.mem_of_getElem? (i := 1983) (by decide +kernel)
theorem ks_RX12_219 : Cond.stringRef RX12 219 "tell" ∈ lw_tbl := List.mem_of_getElem? (i := 1984) (by decide +kernel)
set_option maxRecDepth 20000 in
theorem K_X12_readLawLine {g : tw_Gx} (Q : tw_Rs → tw_Mem → Prop) (a0 : Nat) (a1 : Int32) : tw_Kt g mX12_readLawLine 81 0 0 [.ref a0, .int a1] Q (f_X12_readLawLine g a0 a1 (fun v => Q (.inl (some (.int v))))) := by
  refine tw_mkK (L := [some (.ref a0), some (.int a1), none]) mo_X12_readLawLine dk_X12_readLawLine rfl (Nat.le_of_ble_eq_true rfl) rfl ?_
  unfold f_X12_readLawLine
  refine tw_sipush (k := 0) (1342 : Int32) rfl (by decide) ?_
  refine tw_iconst (k := 1) (4 : Int32) rfl (by decide) ?_
  refine tw_iload_n (k := 2) rfl rfl ?_
  refine tw_imul (k := 3) rfl ?_
  refine tw_iadd (k := 4) rfl ?_
  refine tw_let (fun x1 => [some (.ref a0), some (.int a1), none]) (fun x1 => .int x1 :: []) rfl rfl (fun x1 => ?_)
  refine tw_ist_n (k := 5) [some (.ref a0), some (.int a1), some (.int x1)] rfl (Nat.le_of_ble_eq_true rfl) rfl rfl ?_
  refine tw_aload_n (k := 6) rfl rfl ?_
  refine tw_getR (k := 7) rfl fl_RX12_13 (fun x2 => ?_)
  refine tw_iload_n (k := 8) rfl rfl ?_
  refine tw_aload_n (k := 9) rfl rfl ?_
  refine tw_ldcS (k := 10) rfl ks_RX12_148 (fun t3 => ?_)
  refine tw_callV (k := 11) (d' := 5) (mc' := 0) (ms' := 0) tw_cI tw_cIi [.ref t3] rfl rfl wv_RX12_112_X12_isWord mo_X12_isWord (t := 11) rfl rfl rfl (fun Q9 => K_X12_isWord Q9 a0 t3) (by omega) (by decide) (by decide) (Nat.le_of_ble_eq_true rfl) (fun x4 => ?_)
  refine tw_join 53 (fun s6 => [some (.ref a0), some (.int a1), some (.int x1)]) (fun s6 => .int s6 :: .int x1 :: .ref x2 :: []) 0 0 (fun s6 => ?_) (fun j5 g5 => ?_)
  · refine tw_iastore (k := 28) rfl ?_
    refine tw_aload_n (k := 29) rfl rfl ?_
    refine tw_getR (k := 30) rfl fl_RX12_13 (fun x7 => ?_)
    refine tw_iload_n (k := 31) rfl rfl ?_
    refine tw_iaload (k := 32) rfl (fun x8 => ?_)
    refine tw_if_ge (k := 33) 65 rfl (by decide) ?_ ?_
    · refine tw_aload_n (k := 36) rfl rfl ?_
      refine tw_getR (k := 37) rfl fl_RX12_13 (fun x9 => ?_)
      refine tw_iload_n (k := 38) rfl rfl ?_
      refine tw_iconst (k := 39) (1 : Int32) rfl (by decide) ?_
      refine tw_iadd (k := 40) rfl ?_
      refine tw_aload_n (k := 41) rfl rfl ?_
      refine tw_iconst (k := 42) (0 : Int32) rfl (by decide) ?_
      refine tw_bipush (k := 43) (30 : Int32) rfl (by decide) ?_
      refine tw_callV (k := 44) (d' := 3) (mc' := 0) (ms' := 0) tw_cI tw_cIi [.int (0 : Int32), .int (30 : Int32)] rfl rfl wv_RX12_116_X12_number mo_X12_number (t := 11) rfl rfl rfl (fun Q9 => K_X12_number Q9 a0 (0 : Int32) (30 : Int32)) (by omega) (by decide) (by decide) (Nat.le_of_ble_eq_true rfl) (fun x10 => ?_)
      refine tw_iastore (k := 45) rfl ?_
      refine tw_aload_n (k := 46) rfl rfl ?_
      refine tw_getR (k := 47) rfl fl_RX12_13 (fun x11 => ?_)
      refine tw_iload_n (k := 48) rfl rfl ?_
      refine tw_iconst (k := 49) (1 : Int32) rfl (by decide) ?_
      refine tw_iadd (k := 50) rfl ?_
      refine tw_iaload (k := 51) rfl (fun x12 => ?_)
      refine tw_if_ge (k := 52) 93 rfl (by decide) ?_ ?_
      · refine tw_aload_n (k := 55) rfl rfl ?_
        refine tw_getR (k := 56) rfl fl_RX12_13 (fun x13 => ?_)
        refine tw_iload_n (k := 57) rfl rfl ?_
        refine tw_iconst (k := 58) (2 : Int32) rfl (by decide) ?_
        refine tw_iadd (k := 59) rfl ?_
        refine tw_aload_n (k := 60) rfl rfl ?_
        refine tw_getI (k := 61) rfl fl_RX12_164 (fun x14 => ?_)
        refine tw_iastore (k := 62) rfl ?_
        refine tw_aload_n (k := 63) rfl rfl ?_
        refine tw_iconst (k := 64) (0 : Int32) rfl (by decide) ?_
        refine tw_putI (k := 65) rfl fl_RX12_193 wf_X12_readLawLine_193 (by decide +kernel) ?_
        refine tw_aload_n (k := 66) rfl rfl ?_
        refine tw_ldcS (k := 67) rfl ks_RX12_221 (fun t15 => ?_)
        refine tw_callV (k := 68) (d' := 6) (mc' := 0) (ms' := 0) tw_cI tw_cIi [.ref t15] rfl rfl wv_RX12_126_X12_passes mo_X12_passes (t := 11) rfl rfl rfl (fun Q9 => K_X12_passes Q9 a0 t15) (by omega) (by decide) (by decide) (Nat.le_of_ble_eq_true rfl) (fun x16 => ?_)
        refine tw_join 128 (fun s18 => [some (.ref a0), some (.int a1), some (.int x1)]) (fun s18 => []) 0 0 (fun s18 => ?_) (fun j17 g17 => ?_)
        · refine tw_aload_n (k := 75) rfl rfl ?_
          refine tw_getR (k := 76) rfl fl_RX12_13 (fun x19 => ?_)
          refine tw_iload_n (k := 77) rfl rfl ?_
          refine tw_iconst (k := 78) (3 : Int32) rfl (by decide) ?_
          refine tw_iadd (k := 79) rfl ?_
          refine tw_aload_n (k := 80) rfl rfl ?_
          refine tw_getI (k := 81) rfl fl_RX12_164 (fun x20 => ?_)
          refine tw_iastore (k := 82) rfl ?_
          refine tw_iconst (k := 83) (1 : Int32) rfl (by decide) ?_
          exact tw_zreturn (k := 84) rfl rfl (by decide) (by decide)
        · refine tw_if_eq (k := 69) 128 rfl (by decide) ?_ ?_
          · exact g17 ()
          · refine tw_aload_n (k := 70) rfl rfl ?_
            refine tw_callV (k := 71) (d' := ((9 * 8) + 8)) (mc' := 0) (ms' := 0) tw_cI tw_cIi [] rfl rfl wv_RX12_196_X12_readCond mo_X12_readCond (t := 11) rfl rfl rfl (fun Q9 => K_X12_readCond (fN_X12_readAtom g 8) (KN_X12_readAtom 8) Q9 a0) (by omega) (by decide) (by decide) (Nat.le_of_ble_eq_true rfl) (fun x21 => ?_)
            refine tw_if_ne (k := 72) 128 rfl (by decide) ?_ ?_
            · exact g17 ()
            · refine tw_iconst (k := 73) (0 : Int32) rfl (by decide) ?_
              exact tw_zreturn (k := 74) rfl rfl (by decide) (by decide)
      · refine tw_iconst (k := 53) (0 : Int32) rfl (by decide) ?_
        exact tw_zreturn (k := 54) rfl rfl (by decide) (by decide)
    · refine tw_iconst (k := 34) (0 : Int32) rfl (by decide) ?_
      exact tw_zreturn (k := 35) rfl rfl (by decide) (by decide)
  · refine tw_if_eq (k := 12) 26 rfl (by decide) ?_ ?_
    · refine tw_aload_n (k := 15) rfl rfl ?_
      refine tw_ldcS (k := 16) rfl ks_RX12_217 (fun t22 => ?_)
      refine tw_callV (k := 17) (d' := 5) (mc' := 0) (ms' := 0) tw_cI tw_cIi [.ref t22] rfl rfl wv_RX12_112_X12_isWord mo_X12_isWord (t := 11) rfl rfl rfl (fun Q9 => K_X12_isWord Q9 a0 t22) (by omega) (by decide) (by decide) (Nat.le_of_ble_eq_true rfl) (fun x23 => ?_)
      refine tw_if_eq (k := 18) 39 rfl (by decide) ?_ ?_
      · refine tw_aload_n (k := 21) rfl rfl ?_
        refine tw_ldcS (k := 22) rfl ks_RX12_219 (fun t24 => ?_)
        refine tw_callV (k := 23) (d' := 5) (mc' := 0) (ms' := 0) tw_cI tw_cIi [.ref t24] rfl rfl wv_RX12_112_X12_isWord mo_X12_isWord (t := 11) rfl rfl rfl (fun Q9 => K_X12_isWord Q9 a0 t24) (by omega) (by decide) (by decide) (Nat.le_of_ble_eq_true rfl) (fun x25 => ?_)
        refine tw_if_eq (k := 24) 52 rfl (by decide) ?_ ?_
        · refine tw_iconst (k := 27) (-1 : Int32) rfl (by decide) ?_
          exact g5 (-1 : Int32)
        · refine tw_iconst (k := 25) (2 : Int32) rfl (by decide) ?_
          refine tw_goto (k := 26) 53 rfl (by decide) ?_
          exact g5 (2 : Int32)
      · refine tw_iconst (k := 19) (1 : Int32) rfl (by decide) ?_
        refine tw_goto (k := 20) 53 rfl (by decide) ?_
        exact g5 (1 : Int32)
    · refine tw_iconst (k := 13) (0 : Int32) rfl (by decide) ?_
      refine tw_goto (k := 14) 53 rfl (by decide) ?_
      exact g5 (0 : Int32)
def mX12_readLine : tw_MD := (yX12_readLine, cX12_readLine, 3, (some FieldType.boolean), [(0, .aload_n 0, 1, 1), (1, .invokevirtual 109, 3, 4), (4, .iload_n 2, 1, 5), (5, .iload_n 1, 1, 6), (6, .ifCond .eq 8, 3, 9), (9, .bipush 14, 2, 11), (11, .goto 5, 3, 14), (14, .bipush 12, 2, 16), (16, .if_icmp .ge 29, 3, 19), (19, .iload_n 1, 1, 20), (20, .ifCond .eq 13, 3, 23), (23, .aload_n 0, 1, 24), (24, .invokevirtual 223, 3, 27), (27, .ifCond .eq 18, 3, 30), (30, .goto 11, 3, 33), (33, .aload_n 0, 1, 34), (34, .iload_n 2, 1, 35), (35, .invokevirtual 226, 3, 38), (38, .ifCond .eq 7, 3, 41), (41, .iconst 1, 1, 42), (42, .goto 4, 3, 45), (45, .iconst 0, 1, 46), (46, .ireturn, 1, 47)], [])
theorem mo_X12_readLine : tw_mok mX12_readLine 2 := ⟨plainFor_of_name (by decide +kernel), by decide +kernel, by decide +kernel, by decide +kernel, by decide +kernel⟩
theorem dk_X12_readLine : tw_dk mX12_readLine := by unfold tw_dk; decide +kernel
theorem wv_RX12_226_X12_readLawLine : tw_wV RX12 226 mX12_readLawLine := ⟨List.mem_of_getElem? (i := 1979) (by decide +kernel), List.mem_of_getElem? (i := 1981) (by decide +kernel), List.mem_of_getElem? (i := 62) (by decide +kernel), List.mem_of_getElem? (i := 137) (by decide +kernel), List.mem_of_getElem? (i := 1982) (by decide +kernel)⟩
theorem wv_RX12_223_X12_readTownLine : tw_wV RX12 223 mX12_readTownLine := ⟨List.mem_of_getElem? (i := 1913) (by decide +kernel), List.mem_of_getElem? (i := 1915) (by decide +kernel), List.mem_of_getElem? (i := 50) (by decide +kernel), List.mem_of_getElem? (i := 137) (by decide +kernel), List.mem_of_getElem? (i := 1916) (by decide +kernel)⟩
set_option maxRecDepth 20000 in
theorem K_X12_readLine {g : tw_Gx} (Q : tw_Rs → tw_Mem → Prop) (a0 : Nat) (a1 : Int32) (a2 : Int32) : tw_Kt g mX12_readLine 82 0 0 [.ref a0, .int a1, .int a2] Q (f_X12_readLine g a0 a1 a2 (fun v => Q (.inl (some (.int v))))) := by
  refine tw_mkK (L := [some (.ref a0), some (.int a1), some (.int a2)]) mo_X12_readLine dk_X12_readLine rfl (Nat.le_of_ble_eq_true rfl) rfl ?_
  unfold f_X12_readLine
  refine tw_aload_n (k := 0) rfl rfl ?_
  refine tw_callV (k := 1) (d' := 3) (mc' := 0) (ms' := 0) tw_cU tw_cUi [] rfl rfl wv_RX12_109_X12_letters mo_X12_letters (t := 11) rfl rfl rfl (fun Q9 => K_X12_letters Q9 a0) (by omega) (by decide) (by decide) (Nat.le_of_ble_eq_true rfl) (fun u1 => ?_)
  refine tw_iload_n (k := 2) rfl rfl ?_
  refine tw_iload_n (k := 3) rfl rfl ?_
  refine tw_join 16 (fun s3 => [some (.ref a0), some (.int a1), some (.int a2)]) (fun s3 => .int s3 :: .int a2 :: []) 0 0 (fun s3 => ?_) (fun j2 g2 => ?_)
  · refine tw_icmp_ge (k := 8) 45 rfl (by decide) ?_ ?_
    · refine tw_iconst (k := 21) (0 : Int32) rfl (by decide) ?_
      exact tw_zreturn (k := 22) rfl rfl (by decide) (by decide)
    · refine tw_iload_n (k := 9) rfl rfl ?_
      refine tw_if_eq (k := 10) 33 rfl (by decide) ?_ ?_
      · refine tw_aload_n (k := 15) rfl rfl ?_
        refine tw_iload_n (k := 16) rfl rfl ?_
        refine tw_callV (k := 17) (d' := 81) (mc' := 0) (ms' := 0) tw_cI tw_cIi [.int a2] rfl rfl wv_RX12_226_X12_readLawLine mo_X12_readLawLine (t := 11) rfl rfl rfl (fun Q9 => K_X12_readLawLine Q9 a0 a2) (by omega) (by decide) (by decide) (Nat.le_of_ble_eq_true rfl) (fun x4 => ?_)
        refine tw_if_eq (k := 18) 45 rfl (by decide) ?_ ?_
        · refine tw_iconst (k := 21) (0 : Int32) rfl (by decide) ?_
          exact tw_zreturn (k := 22) rfl rfl (by decide) (by decide)
        · refine tw_iconst (k := 19) (1 : Int32) rfl (by decide) ?_
          refine tw_goto (k := 20) 46 rfl (by decide) ?_
          exact tw_zreturn (k := 22) rfl rfl (by decide) (by decide)
      · refine tw_aload_n (k := 11) rfl rfl ?_
        refine tw_callV (k := 12) (d' := 8) (mc' := 0) (ms' := 0) tw_cI tw_cIi [] rfl rfl wv_RX12_223_X12_readTownLine mo_X12_readTownLine (t := 11) rfl rfl rfl (fun Q9 => K_X12_readTownLine Q9 a0) (by omega) (by decide) (by decide) (Nat.le_of_ble_eq_true rfl) (fun x5 => ?_)
        refine tw_if_eq (k := 13) 45 rfl (by decide) ?_ ?_
        · refine tw_iconst (k := 21) (0 : Int32) rfl (by decide) ?_
          exact tw_zreturn (k := 22) rfl rfl (by decide) (by decide)
        · refine tw_goto (k := 14) 41 rfl (by decide) ?_
          refine tw_iconst (k := 19) (1 : Int32) rfl (by decide) ?_
          refine tw_goto (k := 20) 46 rfl (by decide) ?_
          exact tw_zreturn (k := 22) rfl rfl (by decide) (by decide)
  · refine tw_if_eq (k := 4) 14 rfl (by decide) ?_ ?_
    · refine tw_bipush (k := 7) (12 : Int32) rfl (by decide) ?_
      exact g2 (12 : Int32)
    · refine tw_bipush (k := 5) (14 : Int32) rfl (by decide) ?_
      refine tw_goto (k := 6) 16 rfl (by decide) ?_
      exact g2 (14 : Int32)
def mX12_readAll : tw_MD := (yX12_readAll, cX12_readAll, 3, (some FieldType.int), [(0, .aload_n 0, 1, 1), (1, .invokevirtual 229, 3, 4), (4, .aload_n 0, 1, 5), (5, .iconst 0, 1, 6), (6, .putfield 164, 3, 9), (9, .aload_n 0, 1, 10), (10, .invokevirtual 97, 3, 13), (13, .aload_n 0, 1, 14), (14, .getfield 84, 3, 17), (17, .aload_n 0, 1, 18), (18, .getfield 87, 3, 21), (21, .if_icmp .ne 5, 3, 24), (24, .iconst 0, 1, 25), (25, .ireturn, 1, 26), (26, .iconst 0, 1, 27), (27, .istore_n 2, 1, 28), (28, .aload_n 0, 1, 29), (29, .iload_n 1, 1, 30), (30, .iload_n 2, 1, 31), (31, .invokevirtual 232, 3, 34), (34, .ifCond .ne 5, 3, 37), (37, .iconst (-1), 1, 38), (38, .ireturn, 1, 39), (39, .aload_n 0, 1, 40), (40, .invokevirtual 97, 3, 43), (43, .aload_n 0, 1, 44), (44, .getfield 84, 3, 47), (47, .aload_n 0, 1, 48), (48, .getfield 87, 3, 51), (51, .if_icmp .ne 7, 3, 54), (54, .iload_n 2, 1, 55), (55, .iconst 1, 1, 56), (56, .iadd, 1, 57), (57, .ireturn, 1, 58), (58, .aload_n 0, 1, 59), (59, .bipush 59, 2, 61), (61, .bipush 59, 2, 63), (63, .invokevirtual 90, 3, 66), (66, .ifCond .ne 5, 3, 69), (69, .iconst (-1), 1, 70), (70, .ireturn, 1, 71), (71, .aload_n 0, 1, 72), (72, .dup, 1, 73), (73, .getfield 84, 3, 76), (76, .iconst 1, 1, 77), (77, .iadd, 1, 78), (78, .putfield 84, 3, 81), (81, .iinc 2 1, 3, 84), (84, .goto (-56), 3, 87)], [])
theorem mo_X12_readAll : tw_mok mX12_readAll 1 := ⟨plainFor_of_name (by decide +kernel), by decide +kernel, by decide +kernel, by decide +kernel, by decide +kernel⟩
theorem dk_X12_readAll : tw_dk mX12_readAll := by unfold tw_dk; decide +kernel
theorem wf_X12_readAll_84 : tw_wf mX12_readAll 84 80 := Or.inl rfl
theorem wv_RX12_232_X12_readLine : tw_wV RX12 232 mX12_readLine := ⟨List.mem_of_getElem? (i := 1905) (by decide +kernel), List.mem_of_getElem? (i := 1907) (by decide +kernel), List.mem_of_getElem? (i := 48) (by decide +kernel), List.mem_of_getElem? (i := 137) (by decide +kernel), List.mem_of_getElem? (i := 1908) (by decide +kernel)⟩
theorem wf_X12_readAll_164 : tw_wf mX12_readAll 164 86 := Or.inl rfl
theorem wv_RX12_229_X12_uses : tw_wV RX12 229 mX12_uses := ⟨List.mem_of_getElem? (i := 1893) (by decide +kernel), List.mem_of_getElem? (i := 1895) (by decide +kernel), List.mem_of_getElem? (i := 45) (by decide +kernel), List.mem_of_getElem? (i := 137) (by decide +kernel), List.mem_of_getElem? (i := 1896) (by decide +kernel)⟩
set_option maxRecDepth 20000 in
theorem K_X12_readAll {g : tw_Gx} (Q : tw_Rs → tw_Mem → Prop) (a0 : Nat) (a1 : Int32) : tw_Kt g mX12_readAll 83 0 0 [.ref a0, .int a1] Q (f_X12_readAll g a0 a1 (fun v => Q (.inl (some (.int v))))) := by
  refine tw_mkK (L := [some (.ref a0), some (.int a1), none]) mo_X12_readAll dk_X12_readAll rfl (Nat.le_of_ble_eq_true rfl) rfl ?_
  unfold f_X12_readAll
  refine tw_aload_n (k := 0) rfl rfl ?_
  refine tw_callV (k := 1) (d' := 1) (mc' := 0) (ms' := 0) tw_cU tw_cUi [] rfl rfl wv_RX12_229_X12_uses mo_X12_uses (t := 11) rfl rfl rfl (fun Q9 => K_X12_uses Q9 a0) (by omega) (by decide) (by decide) (Nat.le_of_ble_eq_true rfl) (fun u1 => ?_)
  refine tw_aload_n (k := 2) rfl rfl ?_
  refine tw_iconst (k := 3) (0 : Int32) rfl (by decide) ?_
  refine tw_putI (k := 4) rfl fl_RX12_164 wf_X12_readAll_164 (by decide +kernel) ?_
  refine tw_aload_n (k := 5) rfl rfl ?_
  refine tw_callV (k := 6) (d' := 2) (mc' := 0) (ms' := 0) tw_cU tw_cUi [] rfl rfl wv_RX12_97_X12_blanks mo_X12_blanks (t := 11) rfl rfl rfl (fun Q9 => K_X12_blanks Q9 a0) (by omega) (by decide) (by decide) (Nat.le_of_ble_eq_true rfl) (fun u2 => ?_)
  refine tw_aload_n (k := 7) rfl rfl ?_
  refine tw_getI (k := 8) rfl fl_RX12_84 (fun x3 => ?_)
  refine tw_aload_n (k := 9) rfl rfl ?_
  refine tw_getI (k := 10) rfl fl_RX12_87 (fun x4 => ?_)
  refine tw_icmp_ne (k := 11) 26 rfl (by decide) ?_ ?_
  · refine tw_iconst (k := 14) (0 : Int32) rfl (by decide) ?_
    refine tw_ist_n (k := 15) [some (.ref a0), some (.int a1), some (.int (0 : Int32))] rfl (Nat.le_of_ble_eq_true rfl) rfl rfl ?_
    refine tw_loop (fun s6 => [some (.ref a0), some (.int a1), some (.int s6)]) (fun s6 => []) (fun r5 h5 s6 => ?_) _ rfl rfl
    refine tw_aload_n (k := 16) rfl rfl ?_
    refine tw_iload_n (k := 17) rfl rfl ?_
    refine tw_iload_n (k := 18) rfl rfl ?_
    refine tw_callV (k := 19) (d' := 82) (mc' := 0) (ms' := 0) tw_cI tw_cIi [.int a1, .int s6] rfl rfl wv_RX12_232_X12_readLine mo_X12_readLine (t := 11) rfl rfl rfl (fun Q9 => K_X12_readLine Q9 a0 a1 s6) (by omega) (by decide) (by decide) (Nat.le_of_ble_eq_true rfl) (fun x7 => ?_)
    refine tw_if_ne (k := 20) 39 rfl (by decide) ?_ ?_
    · refine tw_aload_n (k := 23) rfl rfl ?_
      refine tw_callV (k := 24) (d' := 2) (mc' := 0) (ms' := 0) tw_cU tw_cUi [] rfl rfl wv_RX12_97_X12_blanks mo_X12_blanks (t := 11) rfl rfl rfl (fun Q9 => K_X12_blanks Q9 a0) (by omega) (by decide) (by decide) (Nat.le_of_ble_eq_true rfl) (fun u8 => ?_)
      refine tw_aload_n (k := 25) rfl rfl ?_
      refine tw_getI (k := 26) rfl fl_RX12_84 (fun x9 => ?_)
      refine tw_aload_n (k := 27) rfl rfl ?_
      refine tw_getI (k := 28) rfl fl_RX12_87 (fun x10 => ?_)
      refine tw_icmp_ne (k := 29) 58 rfl (by decide) ?_ ?_
      · refine tw_aload_n (k := 34) rfl rfl ?_
        refine tw_bipush (k := 35) (59 : Int32) rfl (by decide) ?_
        refine tw_bipush (k := 36) (59 : Int32) rfl (by decide) ?_
        refine tw_callV (k := 37) (d' := 1) (mc' := 0) (ms' := 0) tw_cI tw_cIi [.int (59 : Int32), .int (59 : Int32)] rfl rfl wv_RX12_90_X12_isAt mo_X12_isAt (t := 11) rfl rfl rfl (fun Q9 => K_X12_isAt Q9 a0 (59 : Int32) (59 : Int32)) (by omega) (by decide) (by decide) (Nat.le_of_ble_eq_true rfl) (fun x11 => ?_)
        refine tw_if_ne (k := 38) 71 rfl (by decide) ?_ ?_
        · refine tw_aload_n (k := 41) rfl rfl ?_
          refine tw_dup (k := 42) rfl rfl ?_
          refine tw_getI (k := 43) rfl fl_RX12_84 (fun x12 => ?_)
          refine tw_iconst (k := 44) (1 : Int32) rfl (by decide) ?_
          refine tw_iadd (k := 45) rfl ?_
          refine tw_putI (k := 46) rfl fl_RX12_84 wf_X12_readAll_84 (by decide +kernel) ?_
          refine tw_inc (k := 47) (1 : Int32) [some (.ref a0), some (.int a1), some (.int (s6 + (1 : Int32)))] rfl rfl (by decide) (Nat.le_of_ble_eq_true rfl) rfl rfl ?_
          refine tw_goto (k := 48) 28 rfl (by decide) ?_
          exact h5 (s6 + (1 : Int32))
        · refine tw_iconst (k := 39) (-1 : Int32) rfl (by decide) ?_
          exact tw_ireturn (k := 40) rfl rfl (by decide) (by decide)
      · refine tw_iload_n (k := 30) rfl rfl ?_
        refine tw_iconst (k := 31) (1 : Int32) rfl (by decide) ?_
        refine tw_iadd (k := 32) rfl ?_
        exact tw_ireturn (k := 33) rfl rfl (by decide) (by decide)
    · refine tw_iconst (k := 21) (-1 : Int32) rfl (by decide) ?_
      exact tw_ireturn (k := 22) rfl rfl (by decide) (by decide)
  · refine tw_iconst (k := 12) (0 : Int32) rfl (by decide) ?_
    exact tw_ireturn (k := 13) rfl rfl (by decide) (by decide)
def mX12_town : tw_MD := (yX12_town, cX12_town, 3, (some FieldType.int), [(0, .iconst 0, 1, 1), (1, .istore_n 1, 1, 2), (2, .iload_n 1, 1, 3), (3, .sipush 1341, 3, 6), (6, .if_icmp .ge 21, 3, 9), (9, .aload_n 0, 1, 10), (10, .getfield 20, 3, 13), (13, .iload_n 1, 1, 14), (14, .aload_n 0, 1, 15), (15, .getfield 13, 3, 18), (18, .iload_n 1, 1, 19), (19, .iaload, 1, 20), (20, .iastore, 1, 21), (21, .iinc 1 1, 3, 24), (24, .goto (-22), 3, 27), (27, .aload_n 0, 1, 28), (28, .iconst 1, 1, 29), (29, .invokevirtual 236, 3, 32), (32, .istore_n 1, 1, 33), (33, .aload_n 0, 1, 34), (34, .iload_n 1, 1, 35), (35, .ifCond .ge 10, 3, 38), (38, .aload_n 0, 1, 39), (39, .getfield 94, 3, 42), (42, .goto 4, 3, 45), (45, .iconst (-1), 1, 46), (46, .putfield 33, 3, 49), (49, .aload_n 0, 1, 50), (50, .iload_n 1, 1, 51), (51, .ifCond .ge 7, 3, 54), (54, .iconst 1, 1, 55), (55, .goto 4, 3, 58), (58, .iconst 0, 1, 59), (59, .iconst 1, 1, 60), (60, .invokevirtual 240, 3, 63), (63, .ifCond .ne 27, 3, 66), (66, .aload_n 0, 1, 67), (67, .aload_n 0, 1, 68), (68, .getfield 13, 3, 71), (71, .iconst 1, 1, 72), (72, .iaload, 1, 73), (73, .bipush 12, 2, 75), (75, .if_icmp .ne 7, 3, 78), (78, .iconst 1, 1, 79), (79, .goto 4, 3, 82), (82, .iconst 0, 1, 83), (83, .iconst 2, 1, 84), (84, .invokevirtual 240, 3, 87), (87, .ifCond .eq 32, 3, 90), (90, .iconst 0, 1, 91), (91, .istore_n 2, 1, 92), (92, .iload_n 2, 1, 93), (93, .sipush 1341, 3, 96), (96, .if_icmp .ge 21, 3, 99), (99, .aload_n 0, 1, 100), (100, .getfield 13, 3, 103), (103, .iload_n 2, 1, 104), (104, .aload_n 0, 1, 105), (105, .getfield 20, 3, 108), (108, .iload_n 2, 1, 109), (109, .iaload, 1, 110), (110, .iastore, 1, 111), (111, .iinc 2 1, 3, 114), (114, .goto (-22), 3, 117), (117, .iconst 0, 1, 118), (118, .ireturn, 1, 119), (119, .aload_n 0, 1, 120), (120, .getfield 13, 3, 123), (123, .iconst 1, 1, 124), (124, .dup2, 1, 125), (125, .iaload, 1, 126), (126, .iconst 1, 1, 127), (127, .iadd, 1, 128), (128, .iastore, 1, 129), (129, .aload_n 0, 1, 130), (130, .iconst 0, 1, 131), (131, .putfield 59, 3, 134), (134, .aload_n 0, 1, 135), (135, .getfield 13, 3, 138), (138, .iconst 1, 1, 139), (139, .iaload, 1, 140), (140, .ireturn, 1, 141)], [])
theorem mo_X12_town : tw_mok mX12_town 0 := ⟨plainFor_of_name (by decide +kernel), by decide +kernel, by decide +kernel, by decide +kernel, by decide +kernel⟩
theorem dk_X12_town : tw_dk mX12_town := by unfold tw_dk; decide +kernel
theorem wf_X12_town_59 : tw_wf mX12_town 59 77 := Or.inl rfl
theorem wv_RX12_240_X12_throwsIf : tw_wV RX12 240 mX12_throwsIf := ⟨List.mem_of_getElem? (i := 2031) (by decide +kernel), List.mem_of_getElem? (i := 2033) (by decide +kernel), List.mem_of_getElem? (i := 72) (by decide +kernel), List.mem_of_getElem? (i := 137) (by decide +kernel), List.mem_of_getElem? (i := 2034) (by decide +kernel)⟩
theorem wf_X12_town_33 : tw_wf mX12_town 33 84 := Or.inl rfl
theorem wv_RX12_236_X12_readAll : tw_wV RX12 236 mX12_readAll := ⟨List.mem_of_getElem? (i := 1889) (by decide +kernel), List.mem_of_getElem? (i := 1891) (by decide +kernel), List.mem_of_getElem? (i := 44) (by decide +kernel), List.mem_of_getElem? (i := 137) (by decide +kernel), List.mem_of_getElem? (i := 1892) (by decide +kernel)⟩
set_option maxRecDepth 20000 in
theorem K_X12_town {g : tw_Gx} (Q : tw_Rs → tw_Mem → Prop) (a0 : Nat) : tw_Kt g mX12_town 84 0 0 [.ref a0] Q (f_X12_town g a0 (fun v => Q (.inl (some (.int v))))) := by
  refine tw_mkK (L := [some (.ref a0), none, none]) mo_X12_town dk_X12_town rfl (Nat.le_of_ble_eq_true rfl) rfl ?_
  unfold f_X12_town
  refine tw_iconst (k := 0) (0 : Int32) rfl (by decide) ?_
  refine tw_ist_n (k := 1) [some (.ref a0), some (.int (0 : Int32)), none] rfl (Nat.le_of_ble_eq_true rfl) rfl rfl ?_
  refine tw_loop (fun s2 => [some (.ref a0), some (.int s2), none]) (fun s2 => []) (fun r1 h1 s2 => ?_) _ rfl rfl
  refine tw_iload_n (k := 2) rfl rfl ?_
  refine tw_sipush (k := 3) (1341 : Int32) rfl (by decide) ?_
  refine tw_icmp_ge (k := 4) 27 rfl (by decide) ?_ ?_
  · refine tw_aload_n (k := 15) rfl rfl ?_
    refine tw_iconst (k := 16) (1 : Int32) rfl (by decide) ?_
    refine tw_callV (k := 17) (d' := 83) (mc' := 0) (ms' := 0) tw_cI tw_cIi [.int (1 : Int32)] rfl rfl wv_RX12_236_X12_readAll mo_X12_readAll (t := 11) rfl rfl rfl (fun Q9 => K_X12_readAll Q9 a0 (1 : Int32)) (by omega) (by decide) (by decide) (Nat.le_of_ble_eq_true rfl) (fun x3 => ?_)
    refine tw_ist_n (k := 18) [some (.ref a0), some (.int x3), none] rfl (Nat.le_of_ble_eq_true rfl) rfl rfl ?_
    refine tw_aload_n (k := 19) rfl rfl ?_
    refine tw_iload_n (k := 20) rfl rfl ?_
    refine tw_join 46 (fun s5 => [some (.ref a0), some (.int x3), none]) (fun s5 => .int s5 :: .ref a0 :: []) 0 0 (fun s5 => ?_) (fun j4 g4 => ?_)
    · refine tw_putI (k := 26) rfl fl_RX12_33 wf_X12_town_33 (by decide +kernel) ?_
      refine tw_aload_n (k := 27) rfl rfl ?_
      refine tw_iload_n (k := 28) rfl rfl ?_
      refine tw_join 59 (fun s7 => [some (.ref a0), some (.int x3), none]) (fun s7 => .int s7 :: .ref a0 :: []) 0 0 (fun s7 => ?_) (fun j6 g6 => ?_)
      · refine tw_iconst (k := 33) (1 : Int32) rfl (by decide) ?_
        refine tw_callV (k := 34) (d' := 1) (mc' := 0) (ms' := 0) tw_cI tw_cIi [.int s7, .int (1 : Int32)] rfl rfl wv_RX12_240_X12_throwsIf mo_X12_throwsIf (t := 11) rfl rfl rfl (fun Q9 => K_X12_throwsIf Q9 a0 s7 (1 : Int32)) (by omega) (by decide) (by decide) (Nat.le_of_ble_eq_true rfl) (fun x8 => ?_)
        refine tw_join 90 (fun s10 => [some (.ref a0), some (.int x3), none]) (fun s10 => []) 0 0 (fun s10 => ?_) (fun j9 g9 => ?_)
        · refine tw_iconst (k := 49) (0 : Int32) rfl (by decide) ?_
          refine tw_ist_n (k := 50) [some (.ref a0), some (.int x3), some (.int (0 : Int32))] rfl (Nat.le_of_ble_eq_true rfl) rfl rfl ?_
          refine tw_loop (fun s12 => [some (.ref a0), some (.int x3), some (.int s12)]) (fun s12 => []) (fun r11 h11 s12 => ?_) _ rfl rfl
          refine tw_iload_n (k := 51) rfl rfl ?_
          refine tw_sipush (k := 52) (1341 : Int32) rfl (by decide) ?_
          refine tw_icmp_ge (k := 53) 117 rfl (by decide) ?_ ?_
          · refine tw_iconst (k := 64) (0 : Int32) rfl (by decide) ?_
            exact tw_ireturn (k := 65) rfl rfl (by decide) (by decide)
          · refine tw_aload_n (k := 54) rfl rfl ?_
            refine tw_getR (k := 55) rfl fl_RX12_13 (fun x13 => ?_)
            refine tw_iload_n (k := 56) rfl rfl ?_
            refine tw_aload_n (k := 57) rfl rfl ?_
            refine tw_getR (k := 58) rfl fl_RX12_20 (fun x14 => ?_)
            refine tw_iload_n (k := 59) rfl rfl ?_
            refine tw_iaload (k := 60) rfl (fun x15 => ?_)
            refine tw_iastore (k := 61) rfl ?_
            refine tw_inc (k := 62) (1 : Int32) [some (.ref a0), some (.int x3), some (.int (s12 + (1 : Int32)))] rfl rfl (by decide) (Nat.le_of_ble_eq_true rfl) rfl rfl ?_
            refine tw_goto (k := 63) 92 rfl (by decide) ?_
            exact h11 (s12 + (1 : Int32))
        · refine tw_if_ne (k := 35) 90 rfl (by decide) ?_ ?_
          · exact g9 ()
          · refine tw_aload_n (k := 36) rfl rfl ?_
            refine tw_aload_n (k := 37) rfl rfl ?_
            refine tw_getR (k := 38) rfl fl_RX12_13 (fun x16 => ?_)
            refine tw_iconst (k := 39) (1 : Int32) rfl (by decide) ?_
            refine tw_iaload (k := 40) rfl (fun x17 => ?_)
            refine tw_bipush (k := 41) (12 : Int32) rfl (by decide) ?_
            refine tw_join 83 (fun s19 => [some (.ref a0), some (.int x3), none]) (fun s19 => .int s19 :: .ref a0 :: []) 0 0 (fun s19 => ?_) (fun j18 g18 => ?_)
            · refine tw_iconst (k := 46) (2 : Int32) rfl (by decide) ?_
              refine tw_callV (k := 47) (d' := 1) (mc' := 0) (ms' := 0) tw_cI tw_cIi [.int s19, .int (2 : Int32)] rfl rfl wv_RX12_240_X12_throwsIf mo_X12_throwsIf (t := 11) rfl rfl rfl (fun Q9 => K_X12_throwsIf Q9 a0 s19 (2 : Int32)) (by omega) (by decide) (by decide) (Nat.le_of_ble_eq_true rfl) (fun x20 => ?_)
              refine tw_if_eq (k := 48) 119 rfl (by decide) ?_ ?_
              · refine tw_aload_n (k := 66) rfl rfl ?_
                refine tw_getR (k := 67) rfl fl_RX12_13 (fun x21 => ?_)
                refine tw_iconst (k := 68) (1 : Int32) rfl (by decide) ?_
                refine tw_dup2 (k := 69) rfl rfl rfl ?_
                refine tw_iaload (k := 70) rfl (fun x22 => ?_)
                refine tw_iconst (k := 71) (1 : Int32) rfl (by decide) ?_
                refine tw_iadd (k := 72) rfl ?_
                refine tw_iastore (k := 73) rfl ?_
                refine tw_aload_n (k := 74) rfl rfl ?_
                refine tw_iconst (k := 75) (0 : Int32) rfl (by decide) ?_
                refine tw_putI (k := 76) rfl fl_RX12_59 wf_X12_town_59 (by decide +kernel) ?_
                refine tw_aload_n (k := 77) rfl rfl ?_
                refine tw_getR (k := 78) rfl fl_RX12_13 (fun x23 => ?_)
                refine tw_iconst (k := 79) (1 : Int32) rfl (by decide) ?_
                refine tw_iaload (k := 80) rfl (fun x24 => ?_)
                exact tw_ireturn (k := 81) rfl rfl (by decide) (by decide)
              · exact g9 ()
            · refine tw_icmp_ne (k := 42) 82 rfl (by decide) ?_ ?_
              · refine tw_iconst (k := 45) (0 : Int32) rfl (by decide) ?_
                exact g18 (0 : Int32)
              · refine tw_iconst (k := 43) (1 : Int32) rfl (by decide) ?_
                refine tw_goto (k := 44) 83 rfl (by decide) ?_
                exact g18 (1 : Int32)
      · refine tw_if_ge (k := 29) 58 rfl (by decide) ?_ ?_
        · refine tw_iconst (k := 32) (0 : Int32) rfl (by decide) ?_
          exact g6 (0 : Int32)
        · refine tw_iconst (k := 30) (1 : Int32) rfl (by decide) ?_
          refine tw_goto (k := 31) 59 rfl (by decide) ?_
          exact g6 (1 : Int32)
    · refine tw_if_ge (k := 21) 45 rfl (by decide) ?_ ?_
      · refine tw_iconst (k := 25) (-1 : Int32) rfl (by decide) ?_
        exact g4 (-1 : Int32)
      · refine tw_aload_n (k := 22) rfl rfl ?_
        refine tw_getI (k := 23) rfl fl_RX12_94 (fun x25 => ?_)
        refine tw_goto (k := 24) 46 rfl (by decide) ?_
        exact g4 x25
  · refine tw_aload_n (k := 5) rfl rfl ?_
    refine tw_getR (k := 6) rfl fl_RX12_20 (fun x26 => ?_)
    refine tw_iload_n (k := 7) rfl rfl ?_
    refine tw_aload_n (k := 8) rfl rfl ?_
    refine tw_getR (k := 9) rfl fl_RX12_13 (fun x27 => ?_)
    refine tw_iload_n (k := 10) rfl rfl ?_
    refine tw_iaload (k := 11) rfl (fun x28 => ?_)
    refine tw_iastore (k := 12) rfl ?_
    refine tw_inc (k := 13) (1 : Int32) [some (.ref a0), some (.int (s2 + (1 : Int32))), none] rfl rfl (by decide) (Nat.le_of_ble_eq_true rfl) rfl rfl ?_
    refine tw_goto (k := 14) 2 rfl (by decide) ?_
    exact h1 (s2 + (1 : Int32))
def mX12_law : tw_MD := (yX12_law, cX12_law, 3, (some FieldType.int), [(0, .aload_n 0, 1, 1), (1, .iconst 0, 1, 2), (2, .invokevirtual 236, 3, 5), (5, .istore_n 1, 1, 6), (6, .aload_n 0, 1, 7), (7, .iload_n 1, 1, 8), (8, .ifCond .ge 10, 3, 11), (11, .aload_n 0, 1, 12), (12, .getfield 94, 3, 15), (15, .goto 4, 3, 18), (18, .iconst (-1), 1, 19), (19, .putfield 33, 3, 22), (22, .aload_n 0, 1, 23), (23, .iload_n 1, 1, 24), (24, .ifCond .ge 7, 3, 27), (27, .iconst 1, 1, 28), (28, .goto 4, 3, 31), (31, .iconst 0, 1, 32), (32, .iconst 1, 1, 33), (33, .invokevirtual 240, 3, 36), (36, .ifCond .eq 5, 3, 39), (39, .iconst 0, 1, 40), (40, .ireturn, 1, 41), (41, .aload_n 0, 1, 42), (42, .getfield 13, 3, 45), (45, .sipush 1341, 3, 48), (48, .iload_n 1, 1, 49), (49, .iastore, 1, 50), (50, .iconst 0, 1, 51), (51, .istore_n 2, 1, 52), (52, .iload_n 2, 1, 53), (53, .sipush 849, 3, 56), (56, .if_icmp .ge 29, 3, 59), (59, .aload_n 0, 1, 60), (60, .getfield 13, 3, 63), (63, .sipush 492, 3, 66), (66, .iload_n 2, 1, 67), (67, .iadd, 1, 68), (68, .aload_n 0, 1, 69), (69, .getfield 13, 3, 72), (72, .sipush 1341, 3, 75), (75, .iload_n 2, 1, 76), (76, .iadd, 1, 77), (77, .iaload, 1, 78), (78, .iastore, 1, 79), (79, .iinc 2 1, 3, 82), (82, .goto (-30), 3, 85), (85, .aload_n 0, 1, 86), (86, .getfield 13, 3, 89), (89, .iconst 2, 1, 90), (90, .iconst 1, 1, 91), (91, .iastore, 1, 92), (92, .aload_n 0, 1, 93), (93, .iconst 0, 1, 94), (94, .putfield 59, 3, 97), (97, .iload_n 1, 1, 98), (98, .ireturn, 1, 99)], [])
theorem mo_X12_law : tw_mok mX12_law 0 := ⟨plainFor_of_name (by decide +kernel), by decide +kernel, by decide +kernel, by decide +kernel, by decide +kernel⟩
theorem dk_X12_law : tw_dk mX12_law := by unfold tw_dk; decide +kernel
theorem wf_X12_law_59 : tw_wf mX12_law 59 77 := Or.inl rfl
theorem wf_X12_law_33 : tw_wf mX12_law 33 84 := Or.inl rfl
set_option maxRecDepth 20000 in
theorem K_X12_law {g : tw_Gx} (Q : tw_Rs → tw_Mem → Prop) (a0 : Nat) : tw_Kt g mX12_law 84 0 0 [.ref a0] Q (f_X12_law g a0 (fun v => Q (.inl (some (.int v))))) := by
  refine tw_mkK (L := [some (.ref a0), none, none]) mo_X12_law dk_X12_law rfl (Nat.le_of_ble_eq_true rfl) rfl ?_
  unfold f_X12_law
  refine tw_aload_n (k := 0) rfl rfl ?_
  refine tw_iconst (k := 1) (0 : Int32) rfl (by decide) ?_
  refine tw_callV (k := 2) (d' := 83) (mc' := 0) (ms' := 0) tw_cI tw_cIi [.int (0 : Int32)] rfl rfl wv_RX12_236_X12_readAll mo_X12_readAll (t := 11) rfl rfl rfl (fun Q9 => K_X12_readAll Q9 a0 (0 : Int32)) (by omega) (by decide) (by decide) (Nat.le_of_ble_eq_true rfl) (fun x1 => ?_)
  refine tw_ist_n (k := 3) [some (.ref a0), some (.int x1), none] rfl (Nat.le_of_ble_eq_true rfl) rfl rfl ?_
  refine tw_aload_n (k := 4) rfl rfl ?_
  refine tw_iload_n (k := 5) rfl rfl ?_
  refine tw_join 19 (fun s3 => [some (.ref a0), some (.int x1), none]) (fun s3 => .int s3 :: .ref a0 :: []) 0 0 (fun s3 => ?_) (fun j2 g2 => ?_)
  · refine tw_putI (k := 11) rfl fl_RX12_33 wf_X12_law_33 (by decide +kernel) ?_
    refine tw_aload_n (k := 12) rfl rfl ?_
    refine tw_iload_n (k := 13) rfl rfl ?_
    refine tw_join 32 (fun s5 => [some (.ref a0), some (.int x1), none]) (fun s5 => .int s5 :: .ref a0 :: []) 0 0 (fun s5 => ?_) (fun j4 g4 => ?_)
    · refine tw_iconst (k := 18) (1 : Int32) rfl (by decide) ?_
      refine tw_callV (k := 19) (d' := 1) (mc' := 0) (ms' := 0) tw_cI tw_cIi [.int s5, .int (1 : Int32)] rfl rfl wv_RX12_240_X12_throwsIf mo_X12_throwsIf (t := 11) rfl rfl rfl (fun Q9 => K_X12_throwsIf Q9 a0 s5 (1 : Int32)) (by omega) (by decide) (by decide) (Nat.le_of_ble_eq_true rfl) (fun x6 => ?_)
      refine tw_if_eq (k := 20) 41 rfl (by decide) ?_ ?_
      · refine tw_aload_n (k := 23) rfl rfl ?_
        refine tw_getR (k := 24) rfl fl_RX12_13 (fun x7 => ?_)
        refine tw_sipush (k := 25) (1341 : Int32) rfl (by decide) ?_
        refine tw_iload_n (k := 26) rfl rfl ?_
        refine tw_iastore (k := 27) rfl ?_
        refine tw_iconst (k := 28) (0 : Int32) rfl (by decide) ?_
        refine tw_ist_n (k := 29) [some (.ref a0), some (.int x1), some (.int (0 : Int32))] rfl (Nat.le_of_ble_eq_true rfl) rfl rfl ?_
        refine tw_loop (fun s9 => [some (.ref a0), some (.int x1), some (.int s9)]) (fun s9 => []) (fun r8 h8 s9 => ?_) _ rfl rfl
        refine tw_iload_n (k := 30) rfl rfl ?_
        refine tw_sipush (k := 31) (849 : Int32) rfl (by decide) ?_
        refine tw_icmp_ge (k := 32) 85 rfl (by decide) ?_ ?_
        · refine tw_aload_n (k := 47) rfl rfl ?_
          refine tw_getR (k := 48) rfl fl_RX12_13 (fun x10 => ?_)
          refine tw_iconst (k := 49) (2 : Int32) rfl (by decide) ?_
          refine tw_iconst (k := 50) (1 : Int32) rfl (by decide) ?_
          refine tw_iastore (k := 51) rfl ?_
          refine tw_aload_n (k := 52) rfl rfl ?_
          refine tw_iconst (k := 53) (0 : Int32) rfl (by decide) ?_
          refine tw_putI (k := 54) rfl fl_RX12_59 wf_X12_law_59 (by decide +kernel) ?_
          refine tw_iload_n (k := 55) rfl rfl ?_
          exact tw_ireturn (k := 56) rfl rfl (by decide) (by decide)
        · refine tw_aload_n (k := 33) rfl rfl ?_
          refine tw_getR (k := 34) rfl fl_RX12_13 (fun x11 => ?_)
          refine tw_sipush (k := 35) (492 : Int32) rfl (by decide) ?_
          refine tw_iload_n (k := 36) rfl rfl ?_
          refine tw_iadd (k := 37) rfl ?_
          refine tw_aload_n (k := 38) rfl rfl ?_
          refine tw_getR (k := 39) rfl fl_RX12_13 (fun x12 => ?_)
          refine tw_sipush (k := 40) (1341 : Int32) rfl (by decide) ?_
          refine tw_iload_n (k := 41) rfl rfl ?_
          refine tw_iadd (k := 42) rfl ?_
          refine tw_iaload (k := 43) rfl (fun x13 => ?_)
          refine tw_iastore (k := 44) rfl ?_
          refine tw_inc (k := 45) (1 : Int32) [some (.ref a0), some (.int x1), some (.int (s9 + (1 : Int32)))] rfl rfl (by decide) (Nat.le_of_ble_eq_true rfl) rfl rfl ?_
          refine tw_goto (k := 46) 52 rfl (by decide) ?_
          exact h8 (s9 + (1 : Int32))
      · refine tw_iconst (k := 21) (0 : Int32) rfl (by decide) ?_
        exact tw_ireturn (k := 22) rfl rfl (by decide) (by decide)
    · refine tw_if_ge (k := 14) 31 rfl (by decide) ?_ ?_
      · refine tw_iconst (k := 17) (0 : Int32) rfl (by decide) ?_
        exact g4 (0 : Int32)
      · refine tw_iconst (k := 15) (1 : Int32) rfl (by decide) ?_
        refine tw_goto (k := 16) 32 rfl (by decide) ?_
        exact g4 (1 : Int32)
  · refine tw_if_ge (k := 6) 18 rfl (by decide) ?_ ?_
    · refine tw_iconst (k := 10) (-1 : Int32) rfl (by decide) ?_
      exact g2 (-1 : Int32)
    · refine tw_aload_n (k := 7) rfl rfl ?_
      refine tw_getI (k := 8) rfl fl_RX12_94 (fun x14 => ?_)
      refine tw_goto (k := 9) 19 rfl (by decide) ?_
      exact g2 x14
