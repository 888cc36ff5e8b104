def mX8_has : tw_MD := (yX8_has, cX8_has, 2, (some FieldType.boolean), [(0, .iload_n 1, 1, 1), (1, .ifCond .lt 21, 3, 4), (4, .iload_n 1, 1, 5), (5, .aload_n 0, 1, 6), (6, .getfield 60, 3, 9), (9, .if_icmp .ge 13, 3, 12), (12, .iload_n 1, 1, 13), (13, .bipush 8, 2, 15), (15, .if_icmp .ge 7, 3, 18), (18, .iconst 1, 1, 19), (19, .goto 4, 3, 22), (22, .iconst 0, 1, 23), (23, .ireturn, 1, 24)], [])
theorem mo_X8_has : tw_mok mX8_has 1 := ⟨plainFor_of_name (by decide +kernel), by decide +kernel, by decide +kernel, by decide +kernel, by decide +kernel⟩
theorem dk_X8_has : tw_dk mX8_has := by unfold tw_dk; decide +kernel
theorem fl_RX8_60 : tw_fl RX8 60 46 := Or.inl (List.mem_of_getElem? (i := 210) (by decide +kernel))
def f_X8_has (a0 : Nat) (a1 : Int32) (k : Int32 → tw_Mem → Prop) : tw_Mem → Prop :=
  tw_if (a1 < 0) (tw_rz (0 : Int32) (k (0 : Int32))) (tw_gi 46 a0 fun x1 => tw_if (a1 < x1) (tw_if (a1 < (8 : Int32)) (tw_rz (1 : Int32) (k (1 : Int32))) (tw_rz (0 : Int32) (k (0 : Int32)))) (tw_rz (0 : Int32) (k (0 : Int32))))
theorem K_X8_has {g : tw_Gx} (Q : tw_Rs → tw_Mem → Prop) (a0 : Nat) (a1 : Int32) : tw_Kt g mX8_has 1 0 0 [.ref a0, .int a1] Q (f_X8_has a0 a1 (fun v => Q (.inl (some (.int v))))) := by
  refine tw_mkK (L := [some (.ref a0), some (.int a1)]) mo_X8_has dk_X8_has rfl (Nat.le_of_ble_eq_true rfl) rfl ?_
  unfold f_X8_has
  refine tw_iload_n (k := 0) rfl rfl ?_
  refine tw_if_lt (k := 1) 22 rfl (by decide) ?_ ?_
  · refine tw_iconst (k := 11) (0 : Int32) rfl (by decide) ?_
    exact tw_zreturn (k := 12) rfl rfl (by decide) (by decide)
  · refine tw_iload_n (k := 2) rfl rfl ?_
    refine tw_aload_n (k := 3) rfl rfl ?_
    refine tw_getI (k := 4) rfl fl_RX8_60 (fun x1 => ?_)
    refine tw_icmp_ge (k := 5) 22 rfl (by decide) ?_ ?_
    · refine tw_iconst (k := 11) (0 : Int32) rfl (by decide) ?_
      exact tw_zreturn (k := 12) rfl rfl (by decide) (by decide)
    · refine tw_iload_n (k := 6) rfl rfl ?_
      refine tw_bipush (k := 7) (8 : Int32) rfl (by decide) ?_
      refine tw_icmp_ge (k := 8) 22 rfl (by decide) ?_ ?_
      · refine tw_iconst (k := 11) (0 : Int32) rfl (by decide) ?_
        exact tw_zreturn (k := 12) rfl rfl (by decide) (by decide)
      · refine tw_iconst (k := 9) (1 : Int32) rfl (by decide) ?_
        refine tw_goto (k := 10) 23 rfl (by decide) ?_
        exact tw_zreturn (k := 12) rfl rfl (by decide) (by decide)
def mX8_hauntOf : tw_MD := (yX8_hauntOf, cX8_hauntOf, 2, (some FieldType.int), [(0, .aload_n 0, 1, 1), (1, .iload_n 1, 1, 2), (2, .invokevirtual 79, 3, 5), (5, .ifCond .eq 12, 3, 8), (8, .aload_n 0, 1, 9), (9, .getfield 9, 3, 12), (12, .iload_n 1, 1, 13), (13, .iaload, 1, 14), (14, .goto 4, 3, 17), (17, .iconst (-1), 1, 18), (18, .ireturn, 1, 19)], [])
theorem mo_X8_hauntOf : tw_mok mX8_hauntOf 1 := ⟨plainFor_of_name (by decide +kernel), by decide +kernel, by decide +kernel, by decide +kernel, by decide +kernel⟩
theorem dk_X8_hauntOf : tw_dk mX8_hauntOf := by unfold tw_dk; decide +kernel
theorem fl_RX8_9 : tw_fl RX8 9 39 := Or.inl (List.mem_of_getElem? (i := 200) (by decide +kernel))
theorem wv_RX8_79_X8_has : tw_wV RX8 79 mX8_has := ⟨List.mem_of_getElem? (i := 553) (by decide +kernel), List.mem_of_getElem? (i := 531) (by decide +kernel), List.mem_of_getElem? (i := 532) (by decide +kernel), List.mem_of_getElem? (i := 125) (by decide +kernel), List.mem_of_getElem? (i := 533) (by decide +kernel)⟩
def f_X8_hauntOf (a0 : Nat) (a1 : Int32) (k : Int32 → tw_Mem → Prop) : tw_Mem → Prop :=
  tw_iv 7 a0 (f_X8_has a0 a1 (fun x1 => tw_if (x1 = 0) (k (-1 : Int32)) (tw_gr 39 a0 fun x2 => tw_li x2 a1 fun x3 => k x3)))
theorem K_X8_hauntOf {g : tw_Gx} (Q : tw_Rs → tw_Mem → Prop) (a0 : Nat) (a1 : Int32) : tw_Kt g mX8_hauntOf 2 0 0 [.ref a0, .int a1] Q (f_X8_hauntOf a0 a1 (fun v => Q (.inl (some (.int v))))) := by
  refine tw_mkK (L := [some (.ref a0), some (.int a1)]) mo_X8_hauntOf dk_X8_hauntOf rfl (Nat.le_of_ble_eq_true rfl) rfl ?_
  unfold f_X8_hauntOf
  refine tw_aload_n (k := 0) rfl rfl ?_
  refine tw_iload_n (k := 1) rfl rfl ?_
  refine tw_callV (k := 2) (d' := 1) (mc' := 0) (ms' := 0) tw_cI tw_cIi [.int a1] rfl rfl wv_RX8_79_X8_has mo_X8_has (t := 7) rfl rfl rfl (fun Q9 => K_X8_has Q9 a0 a1) (by omega) (by decide) (by decide) (Nat.le_of_ble_eq_true rfl) (fun x1 => ?_)
  refine tw_if_eq (k := 3) 17 rfl (by decide) ?_ ?_
  · refine tw_iconst (k := 9) (-1 : Int32) rfl (by decide) ?_
    exact tw_ireturn (k := 10) rfl rfl (by decide) (by decide)
  · refine tw_aload_n (k := 4) rfl rfl ?_
    refine tw_getR (k := 5) rfl fl_RX8_9 (fun x2 => ?_)
    refine tw_iload_n (k := 6) rfl rfl ?_
    refine tw_iaload (k := 7) rfl (fun x3 => ?_)
    refine tw_goto (k := 8) 18 rfl (by decide) ?_
    exact tw_ireturn (k := 10) rfl rfl (by decide) (by decide)
def mX8_areNear : tw_MD := (yX8_areNear, cX8_areNear, 3, (some FieldType.boolean), [(0, .aload_n 0, 1, 1), (1, .iload_n 1, 1, 2), (2, .invokevirtual 87, 3, 5), (5, .aload_n 0, 1, 6), (6, .iload_n 2, 1, 7), (7, .invokevirtual 87, 3, 10), (10, .if_icmp .ne 7, 3, 13), (13, .iconst 1, 1, 14), (14, .goto 4, 3, 17), (17, .iconst 0, 1, 18), (18, .ireturn, 1, 19)], [])
theorem mo_X8_areNear : tw_mok mX8_areNear 2 := ⟨plainFor_of_name (by decide +kernel), by decide +kernel, by decide +kernel, by decide +kernel, by decide +kernel⟩
theorem dk_X8_areNear : tw_dk mX8_areNear := by unfold tw_dk; decide +kernel
theorem wv_RX8_87_X8_hauntOf : tw_wV RX8 87 mX8_hauntOf := ⟨List.mem_of_getElem? (i := 565) (by decide +kernel), List.mem_of_getElem? (i := 566) (by decide +kernel), List.mem_of_getElem? (i := 567) (by decide +kernel), List.mem_of_getElem? (i := 125) (by decide +kernel), List.mem_of_getElem? (i := 568) (by decide +kernel)⟩
def f_X8_areNear (a0 : Nat) (a1 : Int32) (a2 : Int32) (k : Int32 → tw_Mem → Prop) : tw_Mem → Prop :=
  tw_iv 7 a0 (f_X8_hauntOf a0 a1 (fun x1 => tw_iv 7 a0 (f_X8_hauntOf a0 a2 (fun x2 => tw_if (x1 = x2) (tw_rz (1 : Int32) (k (1 : Int32))) (tw_rz (0 : Int32) (k (0 : Int32)))))))
theorem K_X8_areNear {g : tw_Gx} (Q : tw_Rs → tw_Mem → Prop) (a0 : Nat) (a1 : Int32) (a2 : Int32) : tw_Kt g mX8_areNear 3 0 0 [.ref a0, .int a1, .int a2] Q (f_X8_areNear a0 a1 a2 (fun v => Q (.inl (some (.int v))))) := by
  refine tw_mkK (L := [some (.ref a0), some (.int a1), some (.int a2)]) mo_X8_areNear dk_X8_areNear rfl (Nat.le_of_ble_eq_true rfl) rfl ?_
  unfold f_X8_areNear
  refine tw_aload_n (k := 0) rfl rfl ?_
  refine tw_iload_n (k := 1) rfl rfl ?_
  refine tw_callV (k := 2) (d' := 2) (mc' := 0) (ms' := 0) tw_cI tw_cIi [.int a1] rfl rfl wv_RX8_87_X8_hauntOf mo_X8_hauntOf (t := 7) rfl rfl rfl (fun Q9 => K_X8_hauntOf Q9 a0 a1) (by omega) (by decide) (by decide) (Nat.le_of_ble_eq_true rfl) (fun x1 => ?_)
  refine tw_aload_n (k := 3) rfl rfl ?_
  refine tw_iload_n (k := 4) rfl rfl ?_
  refine tw_callV (k := 5) (d' := 2) (mc' := 0) (ms' := 0) tw_cI tw_cIi [.int a2] rfl rfl wv_RX8_87_X8_hauntOf mo_X8_hauntOf (t := 7) rfl rfl rfl (fun Q9 => K_X8_hauntOf Q9 a0 a2) (by omega) (by decide) (by decide) (Nat.le_of_ble_eq_true rfl) (fun x2 => ?_)
  refine tw_icmp_ne (k := 6) 17 rfl (by decide) ?_ ?_
  · refine tw_iconst (k := 9) (0 : Int32) rfl (by decide) ?_
    exact tw_zreturn (k := 10) rfl rfl (by decide) (by decide)
  · refine tw_iconst (k := 7) (1 : Int32) rfl (by decide) ?_
    refine tw_goto (k := 8) 18 rfl (by decide) ?_
    exact tw_zreturn (k := 10) rfl rfl (by decide) (by decide)
def mX8_cell : tw_MD := (yX8_cell, cX8_cell, 2, (some FieldType.int), [(0, .iload_n 0, 1, 1), (1, .ifCond .lt 19, 3, 4), (4, .iload_n 0, 1, 5), (5, .bipush 8, 2, 7), (7, .if_icmp .ge 13, 3, 10), (10, .iload_n 1, 1, 11), (11, .ifCond .lt 9, 3, 14), (14, .iload_n 1, 1, 15), (15, .bipush 8, 2, 17), (17, .if_icmp .lt 5, 3, 20), (20, .iconst (-1), 1, 21), (21, .ireturn, 1, 22), (22, .bipush 8, 2, 24), (24, .iload_n 0, 1, 25), (25, .imul, 1, 26), (26, .iload_n 1, 1, 27), (27, .iadd, 1, 28), (28, .ireturn, 1, 29)], [])
theorem mo_X8_cell : tw_mok mX8_cell 2 := ⟨plainFor_of_name (by decide +kernel), by decide +kernel, by decide +kernel, by decide +kernel, by decide +kernel⟩
theorem dk_X8_cell : tw_dk mX8_cell := by unfold tw_dk; decide +kernel
def f_X8_cell (a0 : Int32) (a1 : Int32) (k : Int32 → tw_Mem → Prop) : tw_Mem → Prop :=
  tw_if (a0 < 0) (k (-1 : Int32)) (tw_if (a0 < (8 : Int32)) (tw_if (a1 < 0) (k (-1 : Int32)) (tw_if (a1 < (8 : Int32)) (k (((8 : Int32) * a0) + a1)) (k (-1 : Int32)))) (k (-1 : Int32)))
theorem K_X8_cell {g : tw_Gx} (Q : tw_Rs → tw_Mem → Prop) (a0 : Int32) (a1 : Int32) : tw_Kt g mX8_cell 1 0 0 [.int a0, .int a1] Q (f_X8_cell a0 a1 (fun v => Q (.inl (some (.int v))))) := by
  refine tw_mkK (L := [some (.int a0), some (.int a1)]) mo_X8_cell dk_X8_cell rfl (Nat.le_of_ble_eq_true rfl) rfl ?_
  unfold f_X8_cell
  refine tw_iload_n (k := 0) rfl rfl ?_
  refine tw_if_lt (k := 1) 20 rfl (by decide) ?_ ?_
  · refine tw_iconst (k := 10) (-1 : Int32) rfl (by decide) ?_
    exact tw_ireturn (k := 11) rfl rfl (by decide) (by decide)
  · refine tw_iload_n (k := 2) rfl rfl ?_
    refine tw_bipush (k := 3) (8 : Int32) rfl (by decide) ?_
    refine tw_icmp_ge (k := 4) 20 rfl (by decide) ?_ ?_
    · refine tw_iconst (k := 10) (-1 : Int32) rfl (by decide) ?_
      exact tw_ireturn (k := 11) rfl rfl (by decide) (by decide)
    · refine tw_iload_n (k := 5) rfl rfl ?_
      refine tw_if_lt (k := 6) 20 rfl (by decide) ?_ ?_
      · refine tw_iconst (k := 10) (-1 : Int32) rfl (by decide) ?_
        exact tw_ireturn (k := 11) rfl rfl (by decide) (by decide)
      · refine tw_iload_n (k := 7) rfl rfl ?_
        refine tw_bipush (k := 8) (8 : Int32) rfl (by decide) ?_
        refine tw_icmp_lt (k := 9) 22 rfl (by decide) ?_ ?_
        · refine tw_bipush (k := 12) (8 : Int32) rfl (by decide) ?_
          refine tw_iload_n (k := 13) rfl rfl ?_
          refine tw_imul (k := 14) rfl ?_
          refine tw_iload_n (k := 15) rfl rfl ?_
          refine tw_iadd (k := 16) rfl ?_
          exact tw_ireturn (k := 17) rfl rfl (by decide) (by decide)
        · refine tw_iconst (k := 10) (-1 : Int32) rfl (by decide) ?_
          exact tw_ireturn (k := 11) rfl rfl (by decide) (by decide)
def mX8_guessOf : tw_MD := (yX8_guessOf, cX8_guessOf, 4, (some FieldType.int), [(0, .iload_n 1, 1, 1), (1, .iload_n 2, 1, 2), (2, .invokestatic 100, 3, 5), (5, .istore_n 3, 1, 6), (6, .iload_n 3, 1, 7), (7, .ifCond .lt 12, 3, 10), (10, .aload_n 0, 1, 11), (11, .getfield 21, 3, 14), (14, .iload_n 3, 1, 15), (15, .iaload, 1, 16), (16, .goto 4, 3, 19), (19, .iconst 0, 1, 20), (20, .ireturn, 1, 21)], [])
theorem mo_X8_guessOf : tw_mok mX8_guessOf 2 := ⟨plainFor_of_name (by decide +kernel), by decide +kernel, by decide +kernel, by decide +kernel, by decide +kernel⟩
theorem dk_X8_guessOf : tw_dk mX8_guessOf := by unfold tw_dk; decide +kernel
theorem fl_RX8_21 : tw_fl RX8 21 42 := Or.inl (List.mem_of_getElem? (i := 203) (by decide +kernel))
theorem ws_RX8_100_X8_cell : tw_wS RX8 100 mX8_cell := ⟨List.mem_of_getElem? (i := 546) (by decide +kernel), List.mem_of_getElem? (i := 547) (by decide +kernel), List.mem_of_getElem? (i := 125) (by decide +kernel), List.mem_of_getElem? (i := 548) (by decide +kernel)⟩
def f_X8_guessOf (a0 : Nat) (a1 : Int32) (a2 : Int32) (k : Int32 → tw_Mem → Prop) : tw_Mem → Prop :=
  f_X8_cell a1 a2 (fun x1 => tw_if (x1 < 0) (k (0 : Int32)) (tw_gr 42 a0 fun x2 => tw_li x2 x1 fun x3 => k x3))
theorem K_X8_guessOf {g : tw_Gx} (Q : tw_Rs → tw_Mem → Prop) (a0 : Nat) (a1 : Int32) (a2 : Int32) : tw_Kt g mX8_guessOf 2 0 0 [.ref a0, .int a1, .int a2] Q (f_X8_guessOf a0 a1 a2 (fun v => Q (.inl (some (.int v))))) := by
  refine tw_mkK (L := [some (.ref a0), some (.int a1), some (.int a2), none]) mo_X8_guessOf dk_X8_guessOf rfl (Nat.le_of_ble_eq_true rfl) rfl ?_
  unfold f_X8_guessOf
  refine tw_iload_n (k := 0) rfl rfl ?_
  refine tw_iload_n (k := 1) rfl rfl ?_
  refine tw_callS (k := 2) (d' := 1) (mc' := 0) (ms' := 0) tw_cI tw_cIi [.int a1, .int a2] rfl rfl ws_RX8_100_X8_cell mo_X8_cell rfl (fun Q9 => K_X8_cell Q9 a1 a2) (by omega) (by decide) (by decide) (Nat.le_of_ble_eq_true rfl) (fun x1 => ?_)
  refine tw_ist_n (k := 3) [some (.ref a0), some (.int a1), some (.int a2), some (.int x1)] rfl (Nat.le_of_ble_eq_true rfl) rfl rfl ?_
  refine tw_iload_n (k := 4) rfl rfl ?_
  refine tw_if_lt (k := 5) 19 rfl (by decide) ?_ ?_
  · refine tw_iconst (k := 11) (0 : Int32) rfl (by decide) ?_
    exact tw_ireturn (k := 12) rfl rfl (by decide) (by decide)
  · refine tw_aload_n (k := 6) rfl rfl ?_
    refine tw_getR (k := 7) rfl fl_RX8_21 (fun x2 => ?_)
    refine tw_iload_n (k := 8) rfl rfl ?_
    refine tw_iaload (k := 9) rfl (fun x3 => ?_)
    refine tw_goto (k := 10) 20 rfl (by decide) ?_
    exact tw_ireturn (k := 12) rfl rfl (by decide) (by decide)
def mX8_guessedBits : tw_MD := (yX8_guessedBits, cX8_guessedBits, 5, (some FieldType.int), [(0, .iconst 0, 1, 1), (1, .istore_n 3, 1, 2), (2, .iconst 0, 1, 3), (3, .istore 4, 2, 5), (5, .iload 4, 2, 7), (7, .aload_n 0, 1, 8), (8, .getfield 60, 3, 11), (11, .if_icmp .ge 33, 3, 14), (14, .iload 4, 2, 16), (16, .iload_n 1, 1, 17), (17, .if_icmp .eq 21, 3, 20), (20, .aload_n 0, 1, 21), (21, .iload_n 1, 1, 22), (22, .iload 4, 2, 24), (24, .invokevirtual 108, 3, 27), (27, .iload_n 2, 1, 28), (28, .if_icmp .lt 10, 3, 31), (31, .iload_n 3, 1, 32), (32, .iconst 1, 1, 33), (33, .iload 4, 2, 35), (35, .ishl, 1, 36), (36, .ior, 1, 37), (37, .istore_n 3, 1, 38), (38, .iinc 4 1, 3, 41), (41, .goto (-36), 3, 44), (44, .iload_n 3, 1, 45), (45, .ireturn, 1, 46)], [])
theorem mo_X8_guessedBits : tw_mok mX8_guessedBits 2 := ⟨plainFor_of_name (by decide +kernel), by decide +kernel, by decide +kernel, by decide +kernel, by decide +kernel⟩
theorem dk_X8_guessedBits : tw_dk mX8_guessedBits := by unfold tw_dk; decide +kernel
theorem wv_RX8_108_X8_guessOf : tw_wV RX8 108 mX8_guessOf := ⟨List.mem_of_getElem? (i := 637) (by decide +kernel), List.mem_of_getElem? (i := 543) (by decide +kernel), List.mem_of_getElem? (i := 544) (by decide +kernel), List.mem_of_getElem? (i := 125) (by decide +kernel), List.mem_of_getElem? (i := 545) (by decide +kernel)⟩
def f_X8_guessedBits (a0 : Nat) (a1 : Int32) (a2 : Int32) (k : Int32 → tw_Mem → Prop) : tw_Mem → Prop :=
  tw_lp (fun (r1 : Int32 × Int32 → tw_Mem → Prop) (s2 : Int32 × Int32) => tw_gi 46 a0 fun x3 => tw_if (s2.2 < x3) (tw_jn (fun (s5 : Int32) => r1 (s5, s2.2 + (1 : Int32))) (fun j4 => tw_if (s2.2 = a1) (j4 s2.1) (tw_iv 7 a0 (f_X8_guessOf a0 a1 s2.2 (fun x6 => tw_if (x6 < a2) (j4 s2.1) (tw_lt (s2.1 ||| ((1 : Int32) <<< (s2.2 &&& 31))) fun x7 => j4 x7)))))) (k s2.1)) ((0 : Int32), (0 : Int32))
theorem K_X8_guessedBits {g : tw_Gx} (Q : tw_Rs → tw_Mem → Prop) (a0 : Nat) (a1 : Int32) (a2 : Int32) : tw_Kt g mX8_guessedBits 3 0 0 [.ref a0, .int a1, .int a2] Q (f_X8_guessedBits a0 a1 a2 (fun v => Q (.inl (some (.int v))))) := by
  refine tw_mkK (L := [some (.ref a0), some (.int a1), some (.int a2), none, none]) mo_X8_guessedBits dk_X8_guessedBits rfl (Nat.le_of_ble_eq_true rfl) rfl ?_
  unfold f_X8_guessedBits
  refine tw_iconst (k := 0) (0 : Int32) rfl (by decide) ?_
  refine tw_ist_n (k := 1) [some (.ref a0), some (.int a1), some (.int a2), some (.int (0 : Int32)), none] rfl (Nat.le_of_ble_eq_true rfl) rfl rfl ?_
  refine tw_iconst (k := 2) (0 : Int32) rfl (by decide) ?_
  refine tw_ist (k := 3) [some (.ref a0), some (.int a1), some (.int a2), some (.int (0 : Int32)), some (.int (0 : Int32))] rfl (Nat.le_of_ble_eq_true rfl) rfl rfl ?_
  refine tw_loop (fun s2 => [some (.ref a0), some (.int a1), some (.int a2), some (.int s2.1), some (.int s2.2)]) (fun s2 => []) (fun r1 h1 s2 => ?_) _ rfl rfl
  refine tw_iload (k := 4) rfl rfl ?_
  refine tw_aload_n (k := 5) rfl rfl ?_
  refine tw_getI (k := 6) rfl fl_RX8_60 (fun x3 => ?_)
  refine tw_icmp_ge (k := 7) 44 rfl (by decide) ?_ ?_
  · refine tw_iload_n (k := 25) rfl rfl ?_
    exact tw_ireturn (k := 26) rfl rfl (by decide) (by decide)
  · refine tw_iload (k := 8) rfl rfl ?_
    refine tw_iload_n (k := 9) rfl rfl ?_
    refine tw_join 38 (fun s5 => [some (.ref a0), some (.int a1), some (.int a2), some (.int s5), some (.int s2.2)]) (fun s5 => []) 0 0 (fun s5 => ?_) (fun j4 g4 => ?_)
    · refine tw_inc (k := 23) (1 : Int32) [some (.ref a0), some (.int a1), some (.int a2), some (.int s5), some (.int (s2.2 + (1 : Int32)))] rfl rfl (by decide) (Nat.le_of_ble_eq_true rfl) rfl rfl ?_
      refine tw_goto (k := 24) 5 rfl (by decide) ?_
      exact h1 (s5, s2.2 + (1 : Int32))
    · refine tw_icmp_eq (k := 10) 38 rfl (by decide) ?_ ?_
      · exact g4 s2.1
      · refine tw_aload_n (k := 11) rfl rfl ?_
        refine tw_iload_n (k := 12) rfl rfl ?_
        refine tw_iload (k := 13) rfl rfl ?_
        refine tw_callV (k := 14) (d' := 2) (mc' := 0) (ms' := 0) tw_cI tw_cIi [.int a1, .int s2.2] rfl rfl wv_RX8_108_X8_guessOf mo_X8_guessOf (t := 7) rfl rfl rfl (fun Q9 => K_X8_guessOf Q9 a0 a1 s2.2) (by omega) (by decide) (by decide) (Nat.le_of_ble_eq_true rfl) (fun x6 => ?_)
        refine tw_iload_n (k := 15) rfl rfl ?_
        refine tw_icmp_lt (k := 16) 38 rfl (by decide) ?_ ?_
        · exact g4 s2.1
        · refine tw_iload_n (k := 17) rfl rfl ?_
          refine tw_iconst (k := 18) (1 : Int32) rfl (by decide) ?_
          refine tw_iload (k := 19) rfl rfl ?_
          refine tw_ishl (k := 20) rfl ?_
          refine tw_ior (k := 21) rfl ?_
          refine tw_let (fun x7 => [some (.ref a0), some (.int a1), some (.int a2), some (.int s2.1), some (.int s2.2)]) (fun x7 => .int x7 :: []) rfl rfl (fun x7 => ?_)
          refine tw_ist_n (k := 22) [some (.ref a0), some (.int a1), some (.int a2), some (.int x7), some (.int s2.2)] rfl (Nat.le_of_ble_eq_true rfl) rfl rfl ?_
          exact g4 x7
def mJ9_max_7cf53 : tw_MD := (yJ9_max_7cf53, cJ9_max_7cf53, 2, (some FieldType.int), [(0, .iload_n 0, 1, 1), (1, .iload_n 1, 1, 2), (2, .if_icmp .lt 7, 3, 5), (5, .iload_n 0, 1, 6), (6, .goto 4, 3, 9), (9, .iload_n 1, 1, 10), (10, .ireturn, 1, 11)], [])
theorem mo_J9_max_7cf53 : tw_mok mJ9_max_7cf53 2 := ⟨tw_mathPlain rfl (by decide +kernel), by decide +kernel, by decide +kernel, by decide +kernel, by decide +kernel⟩
theorem dk_J9_max_7cf53 : tw_dk mJ9_max_7cf53 := by unfold tw_dk; decide +kernel
def f_J9_max_7cf53 (a0 : Int32) (a1 : Int32) (k : Int32 → tw_Mem → Prop) : tw_Mem → Prop :=
  tw_if (a0 < a1) (k a1) (k a0)
theorem K_J9_max_7cf53 {g : tw_Gx} (Q : tw_Rs → tw_Mem → Prop) (a0 : Int32) (a1 : Int32) : tw_Kt g mJ9_max_7cf53 1 0 0 [.int a0, .int a1] Q (f_J9_max_7cf53 a0 a1 (fun v => Q (.inl (some (.int v))))) := by
  refine tw_mkK (L := [some (.int a0), some (.int a1)]) mo_J9_max_7cf53 dk_J9_max_7cf53 rfl (Nat.le_of_ble_eq_true rfl) rfl ?_
  unfold f_J9_max_7cf53
  refine tw_iload_n (k := 0) rfl rfl ?_
  refine tw_iload_n (k := 1) rfl rfl ?_
  refine tw_icmp_lt (k := 2) 9 rfl (by decide) ?_ ?_
  · refine tw_iload_n (k := 5) rfl rfl ?_
    exact tw_ireturn (k := 6) rfl rfl (by decide) (by decide)
  · refine tw_iload_n (k := 3) rfl rfl ?_
    refine tw_goto (k := 4) 10 rfl (by decide) ?_
    exact tw_ireturn (k := 6) rfl rfl (by decide) (by decide)
def mX11_toneBy : tw_MD := (yX11_toneBy, cX11_toneBy, 4, (some FieldType.int), [(0, .iload_n 0, 1, 1), (1, .iload_n 1, 1, 2), (2, .invokestatic 441, 3, 5), (5, .istore_n 3, 1, 6), (6, .iload_n 3, 1, 7), (7, .bipush 9, 2, 9), (9, .if_icmp .lt 5, 3, 12), (12, .iconst 2, 1, 13), (13, .ireturn, 1, 14), (14, .iload_n 3, 1, 15), (15, .iload_n 2, 1, 16), (16, .if_icmp .lt 7, 3, 19), (19, .iconst 3, 1, 20), (20, .goto 4, 3, 23), (23, .iconst 4, 1, 24), (24, .ireturn, 1, 25)], [])
theorem mo_X11_toneBy : tw_mok mX11_toneBy 3 := ⟨plainFor_of_name (by decide +kernel), by decide +kernel, by decide +kernel, by decide +kernel, by decide +kernel⟩
theorem dk_X11_toneBy : tw_dk mX11_toneBy := by unfold tw_dk; decide +kernel
theorem ws_RX11_441_J9_max_7cf53 : tw_wS RX11 441 mJ9_max_7cf53 := ⟨List.mem_of_getElem? (i := 580) (by decide +kernel), List.mem_of_getElem? (i := 581) (by decide +kernel), List.mem_of_getElem? (i := 147) (by decide +kernel), List.mem_of_getElem? (i := 582) (by decide +kernel)⟩
def f_X11_toneBy (a0 : Int32) (a1 : Int32) (a2 : Int32) (k : Int32 → tw_Mem → Prop) : tw_Mem → Prop :=
  f_J9_max_7cf53 a0 a1 (fun x1 => tw_if (x1 < (9 : Int32)) (tw_if (x1 < a2) (k (4 : Int32)) (k (3 : Int32))) (k (2 : Int32)))
theorem K_X11_toneBy {g : tw_Gx} (Q : tw_Rs → tw_Mem → Prop) (a0 : Int32) (a1 : Int32) (a2 : Int32) : tw_Kt g mX11_toneBy 2 0 0 [.int a0, .int a1, .int a2] Q (f_X11_toneBy a0 a1 a2 (fun v => Q (.inl (some (.int v))))) := by
  refine tw_mkK (L := [some (.int a0), some (.int a1), some (.int a2), none]) mo_X11_toneBy dk_X11_toneBy rfl (Nat.le_of_ble_eq_true rfl) rfl ?_
  unfold f_X11_toneBy
  refine tw_iload_n (k := 0) rfl rfl ?_
  refine tw_iload_n (k := 1) rfl rfl ?_
  refine tw_callS (k := 2) (d' := 1) (mc' := 0) (ms' := 0) tw_cI tw_cIi [.int a0, .int a1] rfl rfl ws_RX11_441_J9_max_7cf53 mo_J9_max_7cf53 rfl (fun Q9 => K_J9_max_7cf53 Q9 a0 a1) (by omega) (by decide) (by decide) (Nat.le_of_ble_eq_true rfl) (fun x1 => ?_)
  refine tw_ist_n (k := 3) [some (.int a0), some (.int a1), some (.int a2), some (.int x1)] rfl (Nat.le_of_ble_eq_true rfl) rfl rfl ?_
  refine tw_iload_n (k := 4) rfl rfl ?_
  refine tw_bipush (k := 5) (9 : Int32) rfl (by decide) ?_
  refine tw_icmp_lt (k := 6) 14 rfl (by decide) ?_ ?_
  · refine tw_iload_n (k := 9) rfl rfl ?_
    refine tw_iload_n (k := 10) rfl rfl ?_
    refine tw_icmp_lt (k := 11) 23 rfl (by decide) ?_ ?_
    · refine tw_iconst (k := 14) (4 : Int32) rfl (by decide) ?_
      exact tw_ireturn (k := 15) rfl rfl (by decide) (by decide)
    · refine tw_iconst (k := 12) (3 : Int32) rfl (by decide) ?_
      refine tw_goto (k := 13) 24 rfl (by decide) ?_
      exact tw_ireturn (k := 15) rfl rfl (by decide) (by decide)
  · refine tw_iconst (k := 7) (2 : Int32) rfl (by decide) ?_
    exact tw_ireturn (k := 8) rfl rfl (by decide) (by decide)
def mX8_toneOf : tw_MD := (yX8_toneOf, cX8_toneOf, 3, (some FieldType.int), [(0, .iload_n 1, 1, 1), (1, .iconst (-1), 1, 2), (2, .if_icmp .eq 8, 3, 5), (5, .iload_n 2, 1, 6), (6, .iconst (-1), 1, 7), (7, .if_icmp .ne 14, 3, 10), (10, .iload_n 1, 1, 11), (11, .iload_n 2, 1, 12), (12, .if_icmp .ne 7, 3, 15), (15, .iconst 0, 1, 16), (16, .goto 4, 3, 19), (19, .iconst 1, 1, 20), (20, .ireturn, 1, 21), (21, .aload_n 0, 1, 22), (22, .iload_n 1, 1, 23), (23, .iload_n 2, 1, 24), (24, .invokevirtual 108, 3, 27), (27, .aload_n 0, 1, 28), (28, .iload_n 2, 1, 29), (29, .iload_n 1, 1, 30), (30, .invokevirtual 108, 3, 33), (33, .aload_n 0, 1, 34), (34, .getfield 37, 3, 37), (37, .invokestatic 123, 3, 40), (40, .ireturn, 1, 41)], [])
theorem mo_X8_toneOf : tw_mok mX8_toneOf 2 := ⟨plainFor_of_name (by decide +kernel), by decide +kernel, by decide +kernel, by decide +kernel, by decide +kernel⟩
theorem dk_X8_toneOf : tw_dk mX8_toneOf := by unfold tw_dk; decide +kernel
theorem fl_RX8_37 : tw_fl RX8 37 50 := Or.inl (List.mem_of_getElem? (i := 222) (by decide +kernel))
theorem wn_RX8_123_X11_toneBy : tw_wSN RX8 123 mX11_toneBy "TwinRopes" := ⟨List.mem_of_getElem? (i := 685) (by decide +kernel), List.mem_of_getElem? (i := 578) (by decide +kernel), List.mem_of_getElem? (i := 123) (by decide +kernel), List.mem_of_getElem? (i := 579) (by decide +kernel)⟩
def f_X8_toneOf (a0 : Nat) (a1 : Int32) (a2 : Int32) (k : Int32 → tw_Mem → Prop) : tw_Mem → Prop :=
  tw_jn (fun (s2 : Unit) => tw_if (a1 = a2) (k (0 : Int32)) (k (1 : Int32))) (fun j1 => tw_if (a1 = (-1 : Int32)) (j1 ()) (tw_if (a2 = (-1 : Int32)) (j1 ()) (tw_iv 7 a0 (f_X8_guessOf a0 a1 a2 (fun x3 => tw_iv 7 a0 (f_X8_guessOf a0 a2 a1 (fun x4 => tw_gi 50 a0 fun x5 => f_X11_toneBy x3 x4 x5 (fun x6 => k x6))))))))
theorem K_X8_toneOf {g : tw_Gx} (Q : tw_Rs → tw_Mem → Prop) (a0 : Nat) (a1 : Int32) (a2 : Int32) : tw_Kt g mX8_toneOf 3 0 0 [.ref a0, .int a1, .int a2] Q (f_X8_toneOf a0 a1 a2 (fun v => Q (.inl (some (.int v))))) := by
  refine tw_mkK (L := [some (.ref a0), some (.int a1), some (.int a2)]) mo_X8_toneOf dk_X8_toneOf rfl (Nat.le_of_ble_eq_true rfl) rfl ?_
  unfold f_X8_toneOf
  refine tw_iload_n (k := 0) rfl rfl ?_
  refine tw_iconst (k := 1) (-1 : Int32) rfl (by decide) ?_
  refine tw_join 10 (fun s2 => [some (.ref a0), some (.int a1), some (.int a2)]) (fun s2 => []) 0 0 (fun s2 => ?_) (fun j1 g1 => ?_)
  · refine tw_iload_n (k := 6) rfl rfl ?_
    refine tw_iload_n (k := 7) rfl rfl ?_
    refine tw_icmp_ne (k := 8) 19 rfl (by decide) ?_ ?_
    · refine tw_iconst (k := 11) (1 : Int32) rfl (by decide) ?_
      exact tw_ireturn (k := 12) rfl rfl (by decide) (by decide)
    · refine tw_iconst (k := 9) (0 : Int32) rfl (by decide) ?_
      refine tw_goto (k := 10) 20 rfl (by decide) ?_
      exact tw_ireturn (k := 12) rfl rfl (by decide) (by decide)
  · refine tw_icmp_eq (k := 2) 10 rfl (by decide) ?_ ?_
    · exact g1 ()
    · refine tw_iload_n (k := 3) rfl rfl ?_
      refine tw_iconst (k := 4) (-1 : Int32) rfl (by decide) ?_
      refine tw_icmp_ne (k := 5) 21 rfl (by decide) ?_ ?_
      · refine tw_aload_n (k := 13) rfl rfl ?_
        refine tw_iload_n (k := 14) rfl rfl ?_
        refine tw_iload_n (k := 15) rfl rfl ?_
        refine tw_callV (k := 16) (d' := 2) (mc' := 0) (ms' := 0) tw_cI tw_cIi [.int a1, .int a2] rfl rfl wv_RX8_108_X8_guessOf mo_X8_guessOf (t := 7) rfl rfl rfl (fun Q9 => K_X8_guessOf Q9 a0 a1 a2) (by omega) (by decide) (by decide) (Nat.le_of_ble_eq_true rfl) (fun x3 => ?_)
        refine tw_aload_n (k := 17) rfl rfl ?_
        refine tw_iload_n (k := 18) rfl rfl ?_
        refine tw_iload_n (k := 19) rfl rfl ?_
        refine tw_callV (k := 20) (d' := 2) (mc' := 0) (ms' := 0) tw_cI tw_cIi [.int a2, .int a1] rfl rfl wv_RX8_108_X8_guessOf mo_X8_guessOf (t := 7) rfl rfl rfl (fun Q9 => K_X8_guessOf Q9 a0 a2 a1) (by omega) (by decide) (by decide) (Nat.le_of_ble_eq_true rfl) (fun x4 => ?_)
        refine tw_aload_n (k := 21) rfl rfl ?_
        refine tw_getI (k := 22) rfl fl_RX8_37 (fun x5 => ?_)
        refine tw_callSN (k := 23) (d' := 2) (mc' := 0) (ms' := 0) tw_cI tw_cIi [.int x3, .int x4, .int x5] rfl rfl wn_RX8_123_X11_toneBy mo_X11_toneBy rfl (fun Q9 => K_X11_toneBy Q9 x3 x4 x5) (by omega) (by decide) (by decide) (Nat.le_of_ble_eq_true rfl) (fun x6 => ?_)
        exact tw_ireturn (k := 24) rfl rfl (by decide) (by decide)
      · exact g1 ()
def mX8_setGuess : tw_MD := (yX8_setGuess, cX8_setGuess, 5, none, [(0, .iload_n 1, 1, 1), (1, .iload_n 2, 1, 2), (2, .invokestatic 100, 3, 5), (5, .istore 4, 2, 7), (7, .iload 4, 2, 9), (9, .ifCond .lt 11, 3, 12), (12, .aload_n 0, 1, 13), (13, .getfield 21, 3, 16), (16, .iload 4, 2, 18), (18, .iload_n 3, 1, 19), (19, .iastore, 1, 20), (20, .return_, 1, 21)], [])
theorem mo_X8_setGuess : tw_mok mX8_setGuess 3 := ⟨plainFor_of_name (by decide +kernel), by decide +kernel, by decide +kernel, by decide +kernel, by decide +kernel⟩
theorem dk_X8_setGuess : tw_dk mX8_setGuess := by unfold tw_dk; decide +kernel
def f_X8_setGuess (a0 : Nat) (a1 : Int32) (a2 : Int32) (a3 : Int32) (k : Unit → tw_Mem → Prop) : tw_Mem → Prop :=
  f_X8_cell a1 a2 (fun x1 => tw_if (x1 < 0) (k ()) (tw_gr 42 a0 fun x2 => tw_si x2 x1 a3 (k ())))
theorem K_X8_setGuess {g : tw_Gx} (Q : tw_Rs → tw_Mem → Prop) (a0 : Nat) (a1 : Int32) (a2 : Int32) (a3 : Int32) : tw_Kt g mX8_setGuess 2 0 0 [.ref a0, .int a1, .int a2, .int a3] Q (f_X8_setGuess a0 a1 a2 a3 (fun v => Q (.inl none))) := by
  refine tw_mkK (L := [some (.ref a0), some (.int a1), some (.int a2), some (.int a3), none]) mo_X8_setGuess dk_X8_setGuess rfl (Nat.le_of_ble_eq_true rfl) rfl ?_
  unfold f_X8_setGuess
  refine tw_iload_n (k := 0) rfl rfl ?_
  refine tw_iload_n (k := 1) rfl rfl ?_
  refine tw_callS (k := 2) (d' := 1) (mc' := 0) (ms' := 0) tw_cI tw_cIi [.int a1, .int a2] rfl rfl ws_RX8_100_X8_cell mo_X8_cell rfl (fun Q9 => K_X8_cell Q9 a1 a2) (by omega) (by decide) (by decide) (Nat.le_of_ble_eq_true rfl) (fun x1 => ?_)
  refine tw_ist (k := 3) [some (.ref a0), some (.int a1), some (.int a2), some (.int a3), some (.int x1)] rfl (Nat.le_of_ble_eq_true rfl) rfl rfl ?_
  refine tw_iload (k := 4) rfl rfl ?_
  refine tw_if_lt (k := 5) 20 rfl (by decide) ?_ ?_
  · exact tw_return (k := 11) rfl rfl (by decide) (by decide)
  · refine tw_aload_n (k := 6) rfl rfl ?_
    refine tw_getR (k := 7) rfl fl_RX8_21 (fun x2 => ?_)
    refine tw_iload (k := 8) rfl rfl ?_
    refine tw_iload_n (k := 9) rfl rfl ?_
    refine tw_iastore (k := 10) rfl ?_
    exact tw_return (k := 11) rfl rfl (by decide) (by decide)
def mX6_add : tw_MD := (yX6_add, cX6_add, 3, none, [(0, .bipush 24, 2, 2), (2, .istore_n 2, 1, 3), (3, .iload_n 2, 1, 4), (4, .ifCond .lt 45, 3, 7), (7, .aload_n 0, 1, 8), (8, .getfield 15, 3, 11), (11, .sipush 400, 3, 14), (14, .if_icmp .ge 35, 3, 17), (17, .aload_n 0, 1, 18), (18, .getfield 11, 3, 21), (21, .aload_n 0, 1, 22), (22, .getfield 15, 3, 25), (25, .iload_n 1, 1, 26), (26, .iload_n 2, 1, 27), (27, .iushr, 1, 28), (28, .sipush 255, 3, 31), (31, .iand, 1, 32), (32, .iastore, 1, 33), (33, .aload_n 0, 1, 34), (34, .dup, 1, 35), (35, .getfield 15, 3, 38), (38, .iconst 1, 1, 39), (39, .iadd, 1, 40), (40, .putfield 15, 3, 43), (43, .iinc 2 (-8), 3, 46), (46, .goto (-43), 3, 49), (49, .return_, 1, 50)], [])
theorem mo_X6_add : tw_mok mX6_add 1 := ⟨plainFor_of_name (by decide +kernel), by decide +kernel, by decide +kernel, by decide +kernel, by decide +kernel⟩
theorem dk_X6_add : tw_dk mX6_add := by unfold tw_dk; decide +kernel
theorem fl_RX6_15 : tw_fl RX6 15 38 := Or.inl (List.mem_of_getElem? (i := 167) (by decide +kernel))
theorem fl_RX6_11 : tw_fl RX6 11 37 := Or.inl (List.mem_of_getElem? (i := 166) (by decide +kernel))
theorem wf_X6_add_15 : tw_wf mX6_add 15 38 := Or.inl rfl
def f_X6_add (a0 : Nat) (a1 : Int32) (k : Unit → tw_Mem → Prop) : tw_Mem → Prop :=
  tw_lp (fun (r1 : Int32 → tw_Mem → Prop) (s2 : Int32) => tw_if (s2 < 0) (k ()) (tw_gi 38 a0 fun x3 => tw_if (x3 < (400 : Int32)) (tw_gr 37 a0 fun x4 => tw_gi 38 a0 fun x5 => tw_si x4 x5 (((a1.toUInt32 >>> (s2.toUInt32 &&& Int32.toUInt32 31)).toInt32) &&& (255 : Int32)) (tw_gi 38 a0 fun x6 => tw_pi 38 a0 (x6 + (1 : Int32)) (r1 (s2 + (-8 : Int32))))) (k ()))) (24 : Int32)
theorem K_X6_add {g : tw_Gx} (Q : tw_Rs → tw_Mem → Prop) (a0 : Nat) (a1 : Int32) : tw_Kt g mX6_add 1 0 0 [.ref a0, .int a1] Q (f_X6_add a0 a1 (fun v => Q (.inl none))) := by
  refine tw_mkK (L := [some (.ref a0), some (.int a1), none]) mo_X6_add dk_X6_add rfl (Nat.le_of_ble_eq_true rfl) rfl ?_
  unfold f_X6_add
  refine tw_bipush (k := 0) (24 : Int32) rfl (by decide) ?_
  refine tw_ist_n (k := 1) [some (.ref a0), some (.int a1), some (.int (24 : Int32))] rfl (Nat.le_of_ble_eq_true rfl) rfl rfl ?_
  refine tw_loop (fun s2 => [some (.ref a0), some (.int a1), some (.int s2)]) (fun s2 => []) (fun r1 h1 s2 => ?_) _ rfl rfl
  refine tw_iload_n (k := 2) rfl rfl ?_
  refine tw_if_lt (k := 3) 49 rfl (by decide) ?_ ?_
  · exact tw_return (k := 26) rfl rfl (by decide) (by decide)
  · refine tw_aload_n (k := 4) rfl rfl ?_
    refine tw_getI (k := 5) rfl fl_RX6_15 (fun x3 => ?_)
    refine tw_sipush (k := 6) (400 : Int32) rfl (by decide) ?_
    refine tw_icmp_ge (k := 7) 49 rfl (by decide) ?_ ?_
    · exact tw_return (k := 26) rfl rfl (by decide) (by decide)
    · refine tw_aload_n (k := 8) rfl rfl ?_
      refine tw_getR (k := 9) rfl fl_RX6_11 (fun x4 => ?_)
      refine tw_aload_n (k := 10) rfl rfl ?_
      refine tw_getI (k := 11) rfl fl_RX6_15 (fun x5 => ?_)
      refine tw_iload_n (k := 12) rfl rfl ?_
      refine tw_iload_n (k := 13) rfl rfl ?_
      refine tw_iushr (k := 14) rfl ?_
      refine tw_sipush (k := 15) (255 : Int32) rfl (by decide) ?_
      refine tw_iand (k := 16) rfl ?_
      refine tw_iastore (k := 17) rfl ?_
      refine tw_aload_n (k := 18) rfl rfl ?_
      refine tw_dup (k := 19) rfl rfl ?_
      refine tw_getI (k := 20) rfl fl_RX6_15 (fun x6 => ?_)
      refine tw_iconst (k := 21) (1 : Int32) rfl (by decide) ?_
      refine tw_iadd (k := 22) rfl ?_
      refine tw_putI (k := 23) rfl fl_RX6_15 wf_X6_add_15 (by decide +kernel) ?_
      refine tw_inc (k := 24) (-8 : Int32) [some (.ref a0), some (.int a1), some (.int (s2 + (-8 : Int32)))] rfl rfl (by decide) (Nat.le_of_ble_eq_true rfl) rfl rfl ?_
      refine tw_goto (k := 25) 3 rfl (by decide) ?_
      exact h1 (s2 + (-8 : Int32))
def mJ9_floorMod_7cf53 : tw_MD := (yJ9_floorMod_7cf53, cJ9_floorMod_7cf53, 3, (some FieldType.int), [(0, .iload_n 0, 1, 1), (1, .iload_n 1, 1, 2), (2, .irem, 1, 3), (3, .istore_n 2, 1, 4), (4, .iload_n 0, 1, 5), (5, .iload_n 1, 1, 6), (6, .ixor, 1, 7), (7, .ifCond .ge 11, 3, 10), (10, .iload_n 2, 1, 11), (11, .ifCond .eq 7, 3, 14), (14, .iload_n 2, 1, 15), (15, .iload_n 1, 1, 16), (16, .iadd, 1, 17), (17, .ireturn, 1, 18), (18, .iload_n 2, 1, 19), (19, .ireturn, 1, 20)], [])
theorem mo_J9_floorMod_7cf53 : tw_mok mJ9_floorMod_7cf53 2 := ⟨tw_mathPlain rfl (by decide +kernel), by decide +kernel, by decide +kernel, by decide +kernel, by decide +kernel⟩
theorem dk_J9_floorMod_7cf53 : tw_dk mJ9_floorMod_7cf53 := by unfold tw_dk; decide +kernel
def f_J9_floorMod_7cf53 (a0 : Int32) (a1 : Int32) (k : Int32 → tw_Mem → Prop) : tw_Mem → Prop :=
  tw_nzi a1 (tw_lt (a0 - a0 / a1 * a1) fun x1 => tw_if ((a0 ^^^ a1) < 0) (tw_if (x1 = 0) (k x1) (k (x1 + a1))) (k x1))
theorem K_J9_floorMod_7cf53 {g : tw_Gx} (Q : tw_Rs → tw_Mem → Prop) (a0 : Int32) (a1 : Int32) : tw_Kt g mJ9_floorMod_7cf53 1 0 0 [.int a0, .int a1] Q (f_J9_floorMod_7cf53 a0 a1 (fun v => Q (.inl (some (.int v))))) := by
  refine tw_mkK (L := [some (.int a0), some (.int a1), none]) mo_J9_floorMod_7cf53 dk_J9_floorMod_7cf53 rfl (Nat.le_of_ble_eq_true rfl) rfl ?_
  unfold f_J9_floorMod_7cf53
  refine tw_iload_n (k := 0) rfl rfl ?_
  refine tw_iload_n (k := 1) rfl rfl ?_
  refine tw_irem (k := 2) rfl ?_
  refine tw_let (fun x1 => [some (.int a0), some (.int a1), none]) (fun x1 => .int x1 :: []) rfl rfl (fun x1 => ?_)
  refine tw_ist_n (k := 3) [some (.int a0), some (.int a1), some (.int x1)] rfl (Nat.le_of_ble_eq_true rfl) rfl rfl ?_
  refine tw_iload_n (k := 4) rfl rfl ?_
  refine tw_iload_n (k := 5) rfl rfl ?_
  refine tw_ixor (k := 6) rfl ?_
  refine tw_if_ge (k := 7) 18 rfl (by decide) ?_ ?_
  · refine tw_iload_n (k := 14) rfl rfl ?_
    exact tw_ireturn (k := 15) rfl rfl (by decide) (by decide)
  · refine tw_iload_n (k := 8) rfl rfl ?_
    refine tw_if_eq (k := 9) 18 rfl (by decide) ?_ ?_
    · refine tw_iload_n (k := 14) rfl rfl ?_
      exact tw_ireturn (k := 15) rfl rfl (by decide) (by decide)
    · refine tw_iload_n (k := 10) rfl rfl ?_
      refine tw_iload_n (k := 11) rfl rfl ?_
      refine tw_iadd (k := 12) rfl ?_
      exact tw_ireturn (k := 13) rfl rfl (by decide) (by decide)
def mX2_rowAt : tw_MD := (yX2_rowAt, cX2_rowAt, 3, (some FieldType.int), [(0, .aload_n 0, 1, 1), (1, .getfield 25, 3, 4), (4, .iconst 1, 1, 5), (5, .isub, 1, 6), (6, .iload_n 1, 1, 7), (7, .isub, 1, 8), (8, .bipush 60, 2, 10), (10, .invokestatic 38, 3, 13), (13, .istore_n 2, 1, 14), (14, .iload_n 2, 1, 15), (15, .ifCond .lt 18, 3, 18), (18, .iload_n 2, 1, 19), (19, .bipush 60, 2, 21), (21, .if_icmp .ge 12, 3, 24), (24, .aload_n 0, 1, 25), (25, .getfield 11, 3, 28), (28, .iload_n 2, 1, 29), (29, .iaload, 1, 30), (30, .goto 4, 3, 33), (33, .iconst 0, 1, 34), (34, .ireturn, 1, 35)], [])
theorem mo_X2_rowAt : tw_mok mX2_rowAt 1 := ⟨plainFor_of_name (by decide +kernel), by decide +kernel, by decide +kernel, by decide +kernel, by decide +kernel⟩
theorem dk_X2_rowAt : tw_dk mX2_rowAt := by unfold tw_dk; decide +kernel
theorem fl_RX2_25 : tw_fl RX2 25 21 := Or.inl (List.mem_of_getElem? (i := 189) (by decide +kernel))
theorem fl_RX2_11 : tw_fl RX2 11 19 := Or.inl (List.mem_of_getElem? (i := 186) (by decide +kernel))
theorem ws_RX2_38_J9_floorMod_7cf53 : tw_wS RX2 38 mJ9_floorMod_7cf53 := ⟨List.mem_of_getElem? (i := 1288) (by decide +kernel), List.mem_of_getElem? (i := 1289) (by decide +kernel), List.mem_of_getElem? (i := 147) (by decide +kernel), List.mem_of_getElem? (i := 1290) (by decide +kernel)⟩
def f_X2_rowAt (a0 : Nat) (a1 : Int32) (k : Int32 → tw_Mem → Prop) : tw_Mem → Prop :=
  tw_gi 21 a0 fun x1 => f_J9_floorMod_7cf53 ((x1 - (1 : Int32)) - a1) (60 : Int32) (fun x2 => tw_if (x2 < 0) (k (0 : Int32)) (tw_if (x2 < (60 : Int32)) (tw_gr 19 a0 fun x3 => tw_li x3 x2 fun x4 => k x4) (k (0 : Int32))))
theorem K_X2_rowAt {g : tw_Gx} (Q : tw_Rs → tw_Mem → Prop) (a0 : Nat) (a1 : Int32) : tw_Kt g mX2_rowAt 2 0 0 [.ref a0, .int a1] Q (f_X2_rowAt a0 a1 (fun v => Q (.inl (some (.int v))))) := by
  refine tw_mkK (L := [some (.ref a0), some (.int a1), none]) mo_X2_rowAt dk_X2_rowAt rfl (Nat.le_of_ble_eq_true rfl) rfl ?_
  unfold f_X2_rowAt
  refine tw_aload_n (k := 0) rfl rfl ?_
  refine tw_getI (k := 1) rfl fl_RX2_25 (fun x1 => ?_)
  refine tw_iconst (k := 2) (1 : Int32) rfl (by decide) ?_
  refine tw_isub (k := 3) rfl ?_
  refine tw_iload_n (k := 4) rfl rfl ?_
  refine tw_isub (k := 5) rfl ?_
  refine tw_bipush (k := 6) (60 : Int32) rfl (by decide) ?_
  refine tw_callS (k := 7) (d' := 1) (mc' := 0) (ms' := 0) tw_cI tw_cIi [.int ((x1 - (1 : Int32)) - a1), .int (60 : Int32)] rfl rfl ws_RX2_38_J9_floorMod_7cf53 mo_J9_floorMod_7cf53 rfl (fun Q9 => K_J9_floorMod_7cf53 Q9 ((x1 - (1 : Int32)) - a1) (60 : Int32)) (by omega) (by decide) (by decide) (Nat.le_of_ble_eq_true rfl) (fun x2 => ?_)
  refine tw_ist_n (k := 8) [some (.ref a0), some (.int a1), some (.int x2)] rfl (Nat.le_of_ble_eq_true rfl) rfl rfl ?_
  refine tw_iload_n (k := 9) rfl rfl ?_
  refine tw_if_lt (k := 10) 33 rfl (by decide) ?_ ?_
  · refine tw_iconst (k := 19) (0 : Int32) rfl (by decide) ?_
    exact tw_ireturn (k := 20) rfl rfl (by decide) (by decide)
  · refine tw_iload_n (k := 11) rfl rfl ?_
    refine tw_bipush (k := 12) (60 : Int32) rfl (by decide) ?_
    refine tw_icmp_ge (k := 13) 33 rfl (by decide) ?_ ?_
    · refine tw_iconst (k := 19) (0 : Int32) rfl (by decide) ?_
      exact tw_ireturn (k := 20) rfl rfl (by decide) (by decide)
    · refine tw_aload_n (k := 14) rfl rfl ?_
      refine tw_getR (k := 15) rfl fl_RX2_11 (fun x3 => ?_)
      refine tw_iload_n (k := 16) rfl rfl ?_
      refine tw_iaload (k := 17) rfl (fun x4 => ?_)
      refine tw_goto (k := 18) 34 rfl (by decide) ?_
      exact tw_ireturn (k := 20) rfl rfl (by decide) (by decide)
def mX2_partOf : tw_MD := (yX2_partOf, cX2_partOf, 4, (some FieldType.int), [(0, .aload_n 0, 1, 1), (1, .iload_n 1, 1, 2), (2, .invokevirtual 34, 3, 5), (5, .istore_n 3, 1, 6), (6, .iload_n 2, 1, 7), (7, .tableswitch 61 0 3 #[29, 34, 42, 52], 29, 36), (36, .iload_n 3, 1, 37), (37, .bipush 15, 2, 39), (39, .ishr, 1, 40), (40, .ireturn, 1, 41), (41, .iload_n 3, 1, 42), (42, .bipush 11, 2, 44), (44, .ishr, 1, 45), (45, .bipush 15, 2, 47), (47, .iand, 1, 48), (48, .ireturn, 1, 49), (49, .iload_n 3, 1, 50), (50, .bipush 7, 2, 52), (52, .ishr, 1, 53), (53, .bipush 15, 2, 55), (55, .iand, 1, 56), (56, .iconst 1, 1, 57), (57, .isub, 1, 58), (58, .ireturn, 1, 59), (59, .iload_n 3, 1, 60), (60, .iconst 3, 1, 61), (61, .ishr, 1, 62), (62, .bipush 15, 2, 64), (64, .iand, 1, 65), (65, .iconst 1, 1, 66), (66, .isub, 1, 67), (67, .ireturn, 1, 68), (68, .iload_n 3, 1, 69), (69, .bipush 7, 2, 71), (71, .iand, 1, 72), (72, .ireturn, 1, 73)], [])
theorem mo_X2_partOf : tw_mok mX2_partOf 2 := ⟨plainFor_of_name (by decide +kernel), by decide +kernel, by decide +kernel, by decide +kernel, by decide +kernel⟩
theorem dk_X2_partOf : tw_dk mX2_partOf := by unfold tw_dk; decide +kernel
theorem wv_RX2_34_X2_rowAt : tw_wV RX2 34 mX2_rowAt := ⟨List.mem_of_getElem? (i := 1284) (by decide +kernel), List.mem_of_getElem? (i := 1286) (by decide +kernel), List.mem_of_getElem? (i := 26) (by decide +kernel), List.mem_of_getElem? (i := 126) (by decide +kernel), List.mem_of_getElem? (i := 1287) (by decide +kernel)⟩
def f_X2_partOf (a0 : Nat) (a1 : Int32) (a2 : Int32) (k : Int32 → tw_Mem → Prop) : tw_Mem → Prop :=
  tw_iv 2 a0 (f_X2_rowAt a0 a1 (fun x1 => tw_if (a2 = (0 : Int32)) (k (x1 >>> ((15 : Int32) &&& 31))) (tw_if (a2 = (1 : Int32)) (k ((x1 >>> ((11 : Int32) &&& 31)) &&& (15 : Int32))) (tw_if (a2 = (2 : Int32)) (k (((x1 >>> ((7 : Int32) &&& 31)) &&& (15 : Int32)) - (1 : Int32))) (tw_if (a2 = (3 : Int32)) (k (((x1 >>> ((3 : Int32) &&& 31)) &&& (15 : Int32)) - (1 : Int32))) (k (x1 &&& (7 : Int32))))))))
theorem K_X2_partOf {g : tw_Gx} (Q : tw_Rs → tw_Mem → Prop) (a0 : Nat) (a1 : Int32) (a2 : Int32) : tw_Kt g mX2_partOf 3 0 0 [.ref a0, .int a1, .int a2] Q (f_X2_partOf a0 a1 a2 (fun v => Q (.inl (some (.int v))))) := by
  refine tw_mkK (L := [some (.ref a0), some (.int a1), some (.int a2), none]) mo_X2_partOf dk_X2_partOf rfl (Nat.le_of_ble_eq_true rfl) rfl ?_
  unfold f_X2_partOf
  refine tw_aload_n (k := 0) rfl rfl ?_
  refine tw_iload_n (k := 1) rfl rfl ?_
  refine tw_callV (k := 2) (d' := 2) (mc' := 0) (ms' := 0) tw_cI tw_cIi [.int a1] rfl rfl wv_RX2_34_X2_rowAt mo_X2_rowAt (t := 2) rfl rfl rfl (fun Q9 => K_X2_rowAt Q9 a0 a1) (by omega) (by decide) (by decide) (Nat.le_of_ble_eq_true rfl) (fun x1 => ?_)
  refine tw_ist_n (k := 3) [some (.ref a0), some (.int a1), some (.int a2), some (.int x1)] rfl (Nat.le_of_ble_eq_true rfl) rfl rfl ?_
  refine tw_iload_n (k := 4) rfl rfl ?_
  refine tw_case ?_ (fun c2 => ?_)
  · refine tw_switch (k := 5) 36 rfl (by decide) (by decide) ?_
    refine tw_iload_n (k := 6) rfl rfl ?_
    refine tw_bipush (k := 7) (15 : Int32) rfl (by decide) ?_
    refine tw_ishr (k := 8) rfl ?_
    exact tw_ireturn (k := 9) rfl rfl (by decide) (by decide)
  refine tw_case ?_ (fun c3 => ?_)
  · refine tw_switch (k := 5) 41 rfl (by decide) (by decide) ?_
    refine tw_iload_n (k := 10) rfl rfl ?_
    refine tw_bipush (k := 11) (11 : Int32) rfl (by decide) ?_
    refine tw_ishr (k := 12) rfl ?_
    refine tw_bipush (k := 13) (15 : Int32) rfl (by decide) ?_
    refine tw_iand (k := 14) rfl ?_
    exact tw_ireturn (k := 15) rfl rfl (by decide) (by decide)
  refine tw_case ?_ (fun c4 => ?_)
  · refine tw_switch (k := 5) 49 rfl (by decide) (by decide) ?_
    refine tw_iload_n (k := 16) rfl rfl ?_
    refine tw_bipush (k := 17) (7 : Int32) rfl (by decide) ?_
    refine tw_ishr (k := 18) rfl ?_
    refine tw_bipush (k := 19) (15 : Int32) rfl (by decide) ?_
    refine tw_iand (k := 20) rfl ?_
    refine tw_iconst (k := 21) (1 : Int32) rfl (by decide) ?_
    refine tw_isub (k := 22) rfl ?_
    exact tw_ireturn (k := 23) rfl rfl (by decide) (by decide)
  refine tw_case ?_ (fun c5 => ?_)
  · refine tw_switch (k := 5) 59 rfl (by decide) (by decide) ?_
    refine tw_iload_n (k := 24) rfl rfl ?_
    refine tw_iconst (k := 25) (3 : Int32) rfl (by decide) ?_
    refine tw_ishr (k := 26) rfl ?_
    refine tw_bipush (k := 27) (15 : Int32) rfl (by decide) ?_
    refine tw_iand (k := 28) rfl ?_
    refine tw_iconst (k := 29) (1 : Int32) rfl (by decide) ?_
    refine tw_isub (k := 30) rfl ?_
    exact tw_ireturn (k := 31) rfl rfl (by decide) (by decide)
  refine tw_switch (k := 5) 68 rfl (by decide) (tw_dfl (by decide) (fun v e1 e2 e3 => ?_)) ?_
  · have e4 : v = 0 ∨ v = 1 ∨ v = 2 ∨ v = 3 := by omega
    rcases e4 with rfl | rfl | rfl | rfl
    · exact c2 (e3.trans (by decide))
    · exact c3 (e3.trans (by decide))
    · exact c4 (e3.trans (by decide))
    · exact c5 (e3.trans (by decide))
  · refine tw_iload_n (k := 32) rfl rfl ?_
    refine tw_bipush (k := 33) (7 : Int32) rfl (by decide) ?_
    refine tw_iand (k := 34) rfl ?_
    exact tw_ireturn (k := 35) rfl rfl (by decide) (by decide)
def mX2_isOf : tw_MD := (yX2_isOf, cX2_isOf, 3, (some FieldType.boolean), [(0, .aload_n 0, 1, 1), (1, .iload_n 1, 1, 2), (2, .iconst 2, 1, 3), (3, .invokevirtual 41, 3, 6), (6, .iload_n 2, 1, 7), (7, .if_icmp .eq 13, 3, 10), (10, .aload_n 0, 1, 11), (11, .iload_n 1, 1, 12), (12, .iconst 3, 1, 13), (13, .invokevirtual 41, 3, 16), (16, .iload_n 2, 1, 17), (17, .if_icmp .ne 7, 3, 20), (20, .iconst 1, 1, 21), (21, .goto 4, 3, 24), (24, .iconst 0, 1, 25), (25, .ireturn, 1, 26)], [])
theorem mo_X2_isOf : tw_mok mX2_isOf 2 := ⟨plainFor_of_name (by decide +kernel), by decide +kernel, by decide +kernel, by decide +kernel, by decide +kernel⟩
theorem dk_X2_isOf : tw_dk mX2_isOf := by unfold tw_dk; decide +kernel
theorem wv_RX2_41_X2_partOf : tw_wV RX2 41 mX2_partOf := ⟨List.mem_of_getElem? (i := 1280) (by decide +kernel), List.mem_of_getElem? (i := 1281) (by decide +kernel), List.mem_of_getElem? (i := 1282) (by decide +kernel), List.mem_of_getElem? (i := 126) (by decide +kernel), List.mem_of_getElem? (i := 1283) (by decide +kernel)⟩
def f_X2_isOf (a0 : Nat) (a1 : Int32) (a2 : Int32) (k : Int32 → tw_Mem → Prop) : tw_Mem → Prop :=
  tw_iv 2 a0 (f_X2_partOf a0 a1 (2 : Int32) (fun x1 => tw_if (x1 = a2) (tw_rz (1 : Int32) (k (1 : Int32))) (tw_iv 2 a0 (f_X2_partOf a0 a1 (3 : Int32) (fun x2 => tw_if (x2 = a2) (tw_rz (1 : Int32) (k (1 : Int32))) (tw_rz (0 : Int32) (k (0 : Int32))))))))
theorem K_X2_isOf {g : tw_Gx} (Q : tw_Rs → tw_Mem → Prop) (a0 : Nat) (a1 : Int32) (a2 : Int32) : tw_Kt g mX2_isOf 4 0 0 [.ref a0, .int a1, .int a2] Q (f_X2_isOf a0 a1 a2 (fun v => Q (.inl (some (.int v))))) := by
  refine tw_mkK (L := [some (.ref a0), some (.int a1), some (.int a2)]) mo_X2_isOf dk_X2_isOf rfl (Nat.le_of_ble_eq_true rfl) rfl ?_
  unfold f_X2_isOf
  refine tw_aload_n (k := 0) rfl rfl ?_
  refine tw_iload_n (k := 1) rfl rfl ?_
  refine tw_iconst (k := 2) (2 : Int32) rfl (by decide) ?_
  refine tw_callV (k := 3) (d' := 3) (mc' := 0) (ms' := 0) tw_cI tw_cIi [.int a1, .int (2 : Int32)] rfl rfl wv_RX2_41_X2_partOf mo_X2_partOf (t := 2) rfl rfl rfl (fun Q9 => K_X2_partOf Q9 a0 a1 (2 : Int32)) (by omega) (by decide) (by decide) (Nat.le_of_ble_eq_true rfl) (fun x1 => ?_)
  refine tw_iload_n (k := 4) rfl rfl ?_
  refine tw_icmp_eq (k := 5) 20 rfl (by decide) ?_ ?_
  · refine tw_iconst (k := 12) (1 : Int32) rfl (by decide) ?_
    refine tw_goto (k := 13) 25 rfl (by decide) ?_
    exact tw_zreturn (k := 15) rfl rfl (by decide) (by decide)
  · refine tw_aload_n (k := 6) rfl rfl ?_
    refine tw_iload_n (k := 7) rfl rfl ?_
    refine tw_iconst (k := 8) (3 : Int32) rfl (by decide) ?_
    refine tw_callV (k := 9) (d' := 3) (mc' := 0) (ms' := 0) tw_cI tw_cIi [.int a1, .int (3 : Int32)] rfl rfl wv_RX2_41_X2_partOf mo_X2_partOf (t := 2) rfl rfl rfl (fun Q9 => K_X2_partOf Q9 a0 a1 (3 : Int32)) (by omega) (by decide) (by decide) (Nat.le_of_ble_eq_true rfl) (fun x2 => ?_)
    refine tw_iload_n (k := 10) rfl rfl ?_
    refine tw_icmp_ne (k := 11) 24 rfl (by decide) ?_ ?_
    · refine tw_iconst (k := 14) (0 : Int32) rfl (by decide) ?_
      exact tw_zreturn (k := 15) rfl rfl (by decide) (by decide)
    · refine tw_iconst (k := 12) (1 : Int32) rfl (by decide) ?_
      refine tw_goto (k := 13) 25 rfl (by decide) ?_
      exact tw_zreturn (k := 15) rfl rfl (by decide) (by decide)
def mX2_shareOf : tw_MD := (yX2_shareOf, cX2_shareOf, 5, (some FieldType.int), [(0, .iconst 0, 1, 1), (1, .istore_n 2, 1, 2), (2, .iconst 0, 1, 3), (3, .istore_n 3, 1, 4), (4, .iconst 0, 1, 5), (5, .istore 4, 2, 7), (7, .iload 4, 2, 9), (9, .aload_n 0, 1, 10), (10, .getfield 21, 3, 13), (13, .if_icmp .ge 36, 3, 16), (16, .aload_n 0, 1, 17), (17, .iload 4, 2, 19), (19, .iconst 4, 1, 20), (20, .invokevirtual 41, 3, 23), (23, .iconst 4, 1, 24), (24, .if_icmp .ne 19, 3, 27), (27, .iinc 2 1, 3, 30), (30, .aload_n 0, 1, 31), (31, .iload 4, 2, 33), (33, .iload_n 1, 1, 34), (34, .invokevirtual 44, 3, 37), (37, .ifCond .eq 6, 3, 40), (40, .iinc 3 1, 3, 43), (43, .iinc 4 1, 3, 46), (46, .goto (-39), 3, 49), (49, .iload_n 2, 1, 50), (50, .ifCond .le 12, 3, 53), (53, .bipush 100, 2, 55), (55, .iload_n 3, 1, 56), (56, .imul, 1, 57), (57, .iload_n 2, 1, 58), (58, .idiv, 1, 59), (59, .goto 4, 3, 62), (62, .iconst 0, 1, 63), (63, .ireturn, 1, 64)], [])
theorem mo_X2_shareOf : tw_mok mX2_shareOf 1 := ⟨plainFor_of_name (by decide +kernel), by decide +kernel, by decide +kernel, by decide +kernel, by decide +kernel⟩
theorem dk_X2_shareOf : tw_dk mX2_shareOf := by unfold tw_dk; decide +kernel
theorem fl_RX2_21 : tw_fl RX2 21 20 := Or.inl (List.mem_of_getElem? (i := 187) (by decide +kernel))
theorem wv_RX2_44_X2_isOf : tw_wV RX2 44 mX2_isOf := ⟨List.mem_of_getElem? (i := 1291) (by decide +kernel), List.mem_of_getElem? (i := 1293) (by decide +kernel), List.mem_of_getElem? (i := 27) (by decide +kernel), List.mem_of_getElem? (i := 126) (by decide +kernel), List.mem_of_getElem? (i := 1294) (by decide +kernel)⟩
def f_X2_shareOf (a0 : Nat) (a1 : Int32) (k : Int32 → tw_Mem → Prop) : tw_Mem → Prop :=
  tw_lp (fun (r1 : Int32 × Int32 × Int32 → tw_Mem → Prop) (s2 : Int32 × Int32 × Int32) => tw_gi 20 a0 fun x3 => tw_if (s2.2.2 < x3) (tw_iv 2 a0 (f_X2_partOf a0 s2.2.2 (4 : Int32) (fun x4 => tw_jn (fun (s6 : Int32 × Int32) => r1 (s6.1, s6.2, s2.2.2 + (1 : Int32))) (fun j5 => tw_if (x4 = (4 : Int32)) (tw_iv 2 a0 (f_X2_isOf a0 s2.2.2 a1 (fun x7 => tw_if (x7 = 0) (j5 (s2.1 + (1 : Int32), s2.2.1)) (j5 (s2.1 + (1 : Int32), s2.2.1 + (1 : Int32)))))) (j5 (s2.1, s2.2.1)))))) (tw_if (0 < s2.1) (tw_nzi s2.1 (k (((100 : Int32) * s2.2.1) / s2.1))) (k (0 : Int32)))) ((0 : Int32), (0 : Int32), (0 : Int32))
theorem K_X2_shareOf {g : tw_Gx} (Q : tw_Rs → tw_Mem → Prop) (a0 : Nat) (a1 : Int32) : tw_Kt g mX2_shareOf 5 0 0 [.ref a0, .int a1] Q (f_X2_shareOf a0 a1 (fun v => Q (.inl (some (.int v))))) := by
  refine tw_mkK (L := [some (.ref a0), some (.int a1), none, none, none]) mo_X2_shareOf dk_X2_shareOf rfl (Nat.le_of_ble_eq_true rfl) rfl ?_
  unfold f_X2_shareOf
  refine tw_iconst (k := 0) (0 : Int32) rfl (by decide) ?_
  refine tw_ist_n (k := 1) [some (.ref a0), some (.int a1), some (.int (0 : Int32)), none, none] rfl (Nat.le_of_ble_eq_true rfl) rfl rfl ?_
  refine tw_iconst (k := 2) (0 : Int32) rfl (by decide) ?_
  refine tw_ist_n (k := 3) [some (.ref a0), some (.int a1), some (.int (0 : Int32)), some (.int (0 : Int32)), none] rfl (Nat.le_of_ble_eq_true rfl) rfl rfl ?_
  refine tw_iconst (k := 4) (0 : Int32) rfl (by decide) ?_
  refine tw_ist (k := 5) [some (.ref a0), some (.int a1), some (.int (0 : Int32)), some (.int (0 : Int32)), some (.int (0 : Int32))] rfl (Nat.le_of_ble_eq_true rfl) rfl rfl ?_
  refine tw_loop (fun s2 => [some (.ref a0), some (.int a1), some (.int s2.1), some (.int s2.2.1), some (.int s2.2.2)]) (fun s2 => []) (fun r1 h1 s2 => ?_) _ rfl rfl
  refine tw_iload (k := 6) rfl rfl ?_
  refine tw_aload_n (k := 7) rfl rfl ?_
  refine tw_getI (k := 8) rfl fl_RX2_21 (fun x3 => ?_)
  refine tw_icmp_ge (k := 9) 49 rfl (by decide) ?_ ?_
  · refine tw_iload_n (k := 25) rfl rfl ?_
    refine tw_if_le (k := 26) 62 rfl (by decide) ?_ ?_
    · refine tw_iconst (k := 33) (0 : Int32) rfl (by decide) ?_
      exact tw_ireturn (k := 34) rfl rfl (by decide) (by decide)
    · refine tw_bipush (k := 27) (100 : Int32) rfl (by decide) ?_
      refine tw_iload_n (k := 28) rfl rfl ?_
      refine tw_imul (k := 29) rfl ?_
      refine tw_iload_n (k := 30) rfl rfl ?_
      refine tw_idiv (k := 31) rfl ?_
      refine tw_goto (k := 32) 63 rfl (by decide) ?_
      exact tw_ireturn (k := 34) rfl rfl (by decide) (by decide)
  · refine tw_aload_n (k := 10) rfl rfl ?_
    refine tw_iload (k := 11) rfl rfl ?_
    refine tw_iconst (k := 12) (4 : Int32) rfl (by decide) ?_
    refine tw_callV (k := 13) (d' := 3) (mc' := 0) (ms' := 0) tw_cI tw_cIi [.int s2.2.2, .int (4 : Int32)] rfl rfl wv_RX2_41_X2_partOf mo_X2_partOf (t := 2) rfl rfl rfl (fun Q9 => K_X2_partOf Q9 a0 s2.2.2 (4 : Int32)) (by omega) (by decide) (by decide) (Nat.le_of_ble_eq_true rfl) (fun x4 => ?_)
    refine tw_iconst (k := 14) (4 : Int32) rfl (by decide) ?_
    refine tw_join 43 (fun s6 => [some (.ref a0), some (.int a1), some (.int s6.1), some (.int s6.2), some (.int s2.2.2)]) (fun s6 => []) 0 0 (fun s6 => ?_) (fun j5 g5 => ?_)
    · refine tw_inc (k := 23) (1 : Int32) [some (.ref a0), some (.int a1), some (.int s6.1), some (.int s6.2), some (.int (s2.2.2 + (1 : Int32)))] rfl rfl (by decide) (Nat.le_of_ble_eq_true rfl) rfl rfl ?_
      refine tw_goto (k := 24) 7 rfl (by decide) ?_
      exact h1 (s6.1, s6.2, s2.2.2 + (1 : Int32))
    · refine tw_icmp_ne (k := 15) 43 rfl (by decide) ?_ ?_
      · exact g5 (s2.1, s2.2.1)
      · refine tw_inc (k := 16) (1 : Int32) [some (.ref a0), some (.int a1), some (.int (s2.1 + (1 : Int32))), some (.int s2.2.1), some (.int s2.2.2)] rfl rfl (by decide) (Nat.le_of_ble_eq_true rfl) rfl rfl ?_
        refine tw_aload_n (k := 17) rfl rfl ?_
        refine tw_iload (k := 18) rfl rfl ?_
        refine tw_iload_n (k := 19) rfl rfl ?_
        refine tw_callV (k := 20) (d' := 4) (mc' := 0) (ms' := 0) tw_cI tw_cIi [.int s2.2.2, .int a1] rfl rfl wv_RX2_44_X2_isOf mo_X2_isOf (t := 2) rfl rfl rfl (fun Q9 => K_X2_isOf Q9 a0 s2.2.2 a1) (by omega) (by decide) (by decide) (Nat.le_of_ble_eq_true rfl) (fun x7 => ?_)
        refine tw_if_eq (k := 21) 43 rfl (by decide) ?_ ?_
        · exact g5 (s2.1 + (1 : Int32), s2.2.1)
        · refine tw_inc (k := 22) (1 : Int32) [some (.ref a0), some (.int a1), some (.int (s2.1 + (1 : Int32))), some (.int (s2.2.1 + (1 : Int32))), some (.int s2.2.2)] rfl rfl (by decide) (Nat.le_of_ble_eq_true rfl) rfl rfl ?_
          exact g5 (s2.1 + (1 : Int32), s2.2.1 + (1 : Int32))
