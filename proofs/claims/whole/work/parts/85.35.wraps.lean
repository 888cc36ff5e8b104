def mL_town : tw_MD := (yL_town, cL_town, 3, (some FieldType.int), [(0, .aload_n 1, 1, 1), (1, .iconst 0, 1, 2), (2, .aload_n 0, 1, 3), (3, .invokevirtual 7, 3, 6), (6, .i2l, 1, 7), (7, .lastore, 1, 8), (8, .goto 9, 3, 11), (11, .astore_n 2, 1, 12), (12, .iconst 1, 1, 13), (13, .ireturn, 1, 14), (14, .astore_n 2, 1, 15), (15, .iconst 2, 1, 16), (16, .ireturn, 1, 17), (17, .iconst 0, 1, 18), (18, .ireturn, 1, 19)], [(0, 8, 11, 13), (0, 8, 14, 15)])
theorem mo_L_town : tw_mok mL_town 2 := ⟨plainFor_of_name (by decide +kernel), by decide +kernel, by decide +kernel, by decide +kernel, by decide +kernel⟩
theorem dk_L_town : tw_dk mL_town := by unfold tw_dk; decide +kernel
theorem wv_RL_7_X11_town : tw_wV RL 7 mX11_town := ⟨List.mem_of_getElem? (i := 873) (by decide +kernel), List.mem_of_getElem? (i := 874) (by decide +kernel), List.mem_of_getElem? (i := 875) (by decide +kernel), List.mem_of_getElem? (i := 124) (by decide +kernel), List.mem_of_getElem? (i := 876) (by decide +kernel)⟩
theorem kcl_RL_13_x : Cond.classLink RL 13 "java/lang/IllegalArgumentException" ∈ lw_tbl := List.mem_of_getElem? (i := 871) (by decide +kernel)
theorem kca_java_lang_IllegalArgumentException : Cond.castable "java/lang/IllegalArgumentException" "java/lang/IllegalArgumentException" ∈ lw_tbl := List.mem_of_getElem? (i := 1128) (by decide +kernel)
theorem kcl_RL_15_x : Cond.classLink RL 15 "java/lang/UnsupportedOperationException" ∈ lw_tbl := List.mem_of_getElem? (i := 872) (by decide +kernel)
theorem kca_java_lang_UnsupportedOperationException : Cond.castable "java/lang/UnsupportedOperationException" "java/lang/UnsupportedOperationException" ∈ lw_tbl := List.mem_of_getElem? (i := 1198) (by decide +kernel)
set_option maxRecDepth 20000 in
theorem K_L_town {g : tw_Gx} (Q : tw_Rs → tw_Mem → Prop) (a0 : Nat) (a1 : Nat) : tw_KtW g mL_town 10 1 6 [.ref a0, .ref a1] Q (f_L_town g a0 a1 (fun v => Q (.inl (some (.int v))))) := by
  refine tw_mkKW (L := [some (.ref a0), some (.ref a1), none]) (by decide +kernel) mo_L_town dk_L_town (Nat.le_of_ble_eq_true rfl) rfl ?_
  unfold f_L_town
  refine tw_aload_n (k := 0) rfl rfl ?_
  refine tw_iconst (k := 1) (0 : Int32) rfl (by decide) ?_
  refine tw_aload_n (k := 2) rfl rfl ?_
  refine tw_callVX (k := 3) (d' := 9) (mc' := 1) (ms' := 6) tw_cI tw_cIi [] rfl rfl wv_RL_7_X11_town mo_X11_town (t := 10) rfl rfl rfl (fun Q9 => K_X11_town Q9 a0) (by omega) (by decide) (by decide) (Nat.le_of_ble_eq_true rfl) (fun x1 => ?_) (fun E => ?_)
  · refine tw_i2l (k := 4) rfl ?_
    refine tw_lastore (k := 5) rfl ?_
    refine tw_goto (k := 6) 17 rfl (by decide) ?_
    refine tw_iconst (k := 13) (0 : Int32) rfl (by decide) ?_
    exact tw_ireturn (k := 14) rfl rfl (by decide) (by decide)
  · refine tw_xcs (fun e9 => ?_) (fun _ => ?_)
    · subst e9
      refine tw_catch [] [(0, 8, 14, 15)] rfl (fun z hz => nomatch hz) (by decide) (by decide) (by decide) (by decide) kcl_RL_13_x kca_java_lang_IllegalArgumentException (fun q1 => ?_)
      refine tw_ast_n (k := 7) [some (.ref a0), some (.ref a1), some (.ref q1)] rfl (Nat.le_of_ble_eq_true rfl) rfl rfl ?_
      refine tw_iconst (k := 8) (1 : Int32) rfl (by decide) ?_
      exact tw_ireturn (k := 9) rfl rfl (by decide) (by decide)
    refine tw_xcs (fun e9 => ?_) (fun _ => ?_)
    · subst e9
      refine tw_catch [(0, 8, 11, 13)] [] rfl (fun z hz => by rw [List.mem_singleton.mp hz]; exact ⟨by decide, _, kcl_RL_13_x, by decide, by decide⟩) (by decide) (by decide) (by decide) (by decide) kcl_RL_15_x kca_java_lang_UnsupportedOperationException (fun q2 => ?_)
      refine tw_ast_n (k := 10) [some (.ref a0), some (.ref a1), some (.ref q2)] rfl (Nat.le_of_ble_eq_true rfl) rfl rfl ?_
      refine tw_iconst (k := 11) (2 : Int32) rfl (by decide) ?_
      exact tw_ireturn (k := 12) rfl rfl (by decide) (by decide)
    exact fun _ h => h.elim
def mL_law : tw_MD := (yL_law, cL_law, 3, (some FieldType.int), [(0, .aload_n 1, 1, 1), (1, .iconst 0, 1, 2), (2, .aload_n 0, 1, 3), (3, .invokevirtual 17, 3, 6), (6, .i2l, 1, 7), (7, .lastore, 1, 8), (8, .goto 6, 3, 11), (11, .astore_n 2, 1, 12), (12, .iconst 1, 1, 13), (13, .ireturn, 1, 14), (14, .iconst 0, 1, 15), (15, .ireturn, 1, 16)], [(0, 8, 11, 13)])
theorem mo_L_law : tw_mok mL_law 2 := ⟨plainFor_of_name (by decide +kernel), by decide +kernel, by decide +kernel, by decide +kernel, by decide +kernel⟩
theorem dk_L_law : tw_dk mL_law := by unfold tw_dk; decide +kernel
theorem wv_RL_17_X11_law : tw_wV RL 17 mX11_law := ⟨List.mem_of_getElem? (i := 1215) (by decide +kernel), List.mem_of_getElem? (i := 1216) (by decide +kernel), List.mem_of_getElem? (i := 1217) (by decide +kernel), List.mem_of_getElem? (i := 124) (by decide +kernel), List.mem_of_getElem? (i := 1218) (by decide +kernel)⟩
set_option maxRecDepth 20000 in
theorem K_L_law {g : tw_Gx} (Q : tw_Rs → tw_Mem → Prop) (a0 : Nat) (a1 : Nat) : tw_KtW g mL_law 76 6 1626 [.ref a0, .ref a1] Q (f_L_law g a0 a1 (fun v => Q (.inl (some (.int v))))) := by
  refine tw_mkKW (L := [some (.ref a0), some (.ref a1), none]) (by decide +kernel) mo_L_law dk_L_law (Nat.le_of_ble_eq_true rfl) rfl ?_
  unfold f_L_law
  refine tw_aload_n (k := 0) rfl rfl ?_
  refine tw_iconst (k := 1) (0 : Int32) rfl (by decide) ?_
  refine tw_aload_n (k := 2) rfl rfl ?_
  refine tw_callVX (k := 3) (d' := 75) (mc' := 6) (ms' := 1626) tw_cI tw_cIi [] rfl rfl wv_RL_17_X11_law mo_X11_law (t := 10) rfl rfl rfl (fun Q9 => K_X11_law Q9 a0) (by omega) (by decide) (by decide) (Nat.le_of_ble_eq_true rfl) (fun x1 => ?_) (fun E => ?_)
  · refine tw_i2l (k := 4) rfl ?_
    refine tw_lastore (k := 5) rfl ?_
    refine tw_goto (k := 6) 14 rfl (by decide) ?_
    refine tw_iconst (k := 10) (0 : Int32) rfl (by decide) ?_
    exact tw_ireturn (k := 11) rfl rfl (by decide) (by decide)
  · refine tw_xcs (fun e9 => ?_) (fun _ => ?_)
    · subst e9
      refine tw_catch [] [] rfl (fun z hz => nomatch hz) (by decide) (by decide) (by decide) (by decide) kcl_RL_13_x kca_java_lang_IllegalArgumentException (fun q1 => ?_)
      refine tw_ast_n (k := 7) [some (.ref a0), some (.ref a1), some (.ref q1)] rfl (Nat.le_of_ble_eq_true rfl) rfl rfl ?_
      refine tw_iconst (k := 8) (1 : Int32) rfl (by decide) ?_
      exact tw_ireturn (k := 9) rfl rfl (by decide) (by decide)
    exact fun _ h => h.elim
def mL_person : tw_MD := (yL_person, cL_person, 5, (some FieldType.int), [(0, .aload_n 3, 1, 1), (1, .iconst 0, 1, 2), (2, .aload_n 0, 1, 3), (3, .iload_n 1, 1, 4), (4, .iload_n 2, 1, 5), (5, .invokevirtual 20, 3, 8), (8, .i2l, 1, 9), (9, .lastore, 1, 10), (10, .goto 11, 3, 13), (13, .astore 4, 2, 15), (15, .iconst 1, 1, 16), (16, .ireturn, 1, 17), (17, .astore 4, 2, 19), (19, .iconst 2, 1, 20), (20, .ireturn, 1, 21), (21, .iconst 0, 1, 22), (22, .ireturn, 1, 23)], [(0, 10, 13, 24), (0, 10, 17, 26)])
theorem mo_L_person : tw_mok mL_person 4 := ⟨plainFor_of_name (by decide +kernel), by decide +kernel, by decide +kernel, by decide +kernel, by decide +kernel⟩
theorem dk_L_person : tw_dk mL_person := by unfold tw_dk; decide +kernel
theorem wv_RL_20_X11_person : tw_wV RL 20 mX11_person := ⟨List.mem_of_getElem? (i := 1246) (by decide +kernel), List.mem_of_getElem? (i := 1247) (by decide +kernel), List.mem_of_getElem? (i := 1248) (by decide +kernel), List.mem_of_getElem? (i := 124) (by decide +kernel), List.mem_of_getElem? (i := 1249) (by decide +kernel)⟩
theorem kcl_RL_24_x : Cond.classLink RL 24 "java/lang/IndexOutOfBoundsException" ∈ lw_tbl := List.mem_of_getElem? (i := 1244) (by decide +kernel)
theorem kca_java_lang_IndexOutOfBoundsException : Cond.castable "java/lang/IndexOutOfBoundsException" "java/lang/IndexOutOfBoundsException" ∈ lw_tbl := List.mem_of_getElem? (i := 1257) (by decide +kernel)
theorem kcl_RL_26_x : Cond.classLink RL 26 "java/util/NoSuchElementException" ∈ lw_tbl := List.mem_of_getElem? (i := 1245) (by decide +kernel)
theorem kca_java_util_NoSuchElementException : Cond.castable "java/util/NoSuchElementException" "java/util/NoSuchElementException" ∈ lw_tbl := List.mem_of_getElem? (i := 1307) (by decide +kernel)
set_option maxRecDepth 20000 in
theorem K_L_person {g : tw_Gx} (Q : tw_Rs → tw_Mem → Prop) (a0 : Nat) (a1 : Int32) (a2 : Int32) (a3 : Nat) : tw_KtW g mL_person 8 2 12 [.ref a0, .int a1, .int a2, .ref a3] Q (f_L_person a0 a1 a2 a3 (fun v => Q (.inl (some (.int v))))) := by
  refine tw_mkKW (L := [some (.ref a0), some (.int a1), some (.int a2), some (.ref a3), none]) (by decide +kernel) mo_L_person dk_L_person (Nat.le_of_ble_eq_true rfl) rfl ?_
  unfold f_L_person
  refine tw_aload_n (k := 0) rfl rfl ?_
  refine tw_iconst (k := 1) (0 : Int32) rfl (by decide) ?_
  refine tw_aload_n (k := 2) rfl rfl ?_
  refine tw_iload_n (k := 3) rfl rfl ?_
  refine tw_iload_n (k := 4) rfl rfl ?_
  refine tw_callVX (k := 5) (d' := 7) (mc' := 2) (ms' := 12) tw_cI tw_cIi [.int a1, .int a2] rfl rfl wv_RL_20_X11_person mo_X11_person (t := 10) rfl rfl rfl (fun Q9 => K_X11_person Q9 a0 a1 a2) (by omega) (by decide) (by decide) (Nat.le_of_ble_eq_true rfl) (fun x1 => ?_) (fun E => ?_)
  · refine tw_i2l (k := 6) rfl ?_
    refine tw_lastore (k := 7) rfl ?_
    refine tw_goto (k := 8) 21 rfl (by decide) ?_
    refine tw_iconst (k := 15) (0 : Int32) rfl (by decide) ?_
    exact tw_ireturn (k := 16) rfl rfl (by decide) (by decide)
  · refine tw_xcs (fun e9 => ?_) (fun _ => ?_)
    · subst e9
      refine tw_catch [] [(0, 10, 17, 26)] rfl (fun z hz => nomatch hz) (by decide) (by decide) (by decide) (by decide) kcl_RL_24_x kca_java_lang_IndexOutOfBoundsException (fun q1 => ?_)
      refine tw_ast (k := 9) [some (.ref a0), some (.int a1), some (.int a2), some (.ref a3), some (.ref q1)] rfl (Nat.le_of_ble_eq_true rfl) rfl rfl ?_
      refine tw_iconst (k := 10) (1 : Int32) rfl (by decide) ?_
      exact tw_ireturn (k := 11) rfl rfl (by decide) (by decide)
    refine tw_xcs (fun e9 => ?_) (fun _ => ?_)
    · subst e9
      refine tw_catch [(0, 10, 13, 24)] [] rfl (fun z hz => by rw [List.mem_singleton.mp hz]; exact ⟨by decide, _, kcl_RL_24_x, by decide, by decide⟩) (by decide) (by decide) (by decide) (by decide) kcl_RL_26_x kca_java_util_NoSuchElementException (fun q2 => ?_)
      refine tw_ast (k := 12) [some (.ref a0), some (.int a1), some (.int a2), some (.ref a3), some (.ref q2)] rfl (Nat.le_of_ble_eq_true rfl) rfl rfl ?_
      refine tw_iconst (k := 13) (2 : Int32) rfl (by decide) ?_
      exact tw_ireturn (k := 14) rfl rfl (by decide) (by decide)
    exact fun _ h => h.elim
def mL_guessed : tw_MD := (yL_guessed, cL_guessed, 5, (some FieldType.int), [(0, .aload_n 3, 1, 1), (1, .iconst 0, 1, 2), (2, .aload_n 0, 1, 3), (3, .iload_n 1, 1, 4), (4, .iload_n 2, 1, 5), (5, .invokevirtual 28, 3, 8), (8, .i2l, 1, 9), (9, .lastore, 1, 10), (10, .goto 11, 3, 13), (13, .astore 4, 2, 15), (15, .iconst 1, 1, 16), (16, .ireturn, 1, 17), (17, .astore 4, 2, 19), (19, .iconst 2, 1, 20), (20, .ireturn, 1, 21), (21, .iconst 0, 1, 22), (22, .ireturn, 1, 23)], [(0, 10, 13, 24), (0, 10, 17, 13)])
theorem mo_L_guessed : tw_mok mL_guessed 4 := ⟨plainFor_of_name (by decide +kernel), by decide +kernel, by decide +kernel, by decide +kernel, by decide +kernel⟩
theorem dk_L_guessed : tw_dk mL_guessed := by unfold tw_dk; decide +kernel
theorem wv_RL_28_X11_guessed : tw_wV RL 28 mX11_guessed := ⟨List.mem_of_getElem? (i := 1324) (by decide +kernel), List.mem_of_getElem? (i := 1325) (by decide +kernel), List.mem_of_getElem? (i := 1326) (by decide +kernel), List.mem_of_getElem? (i := 124) (by decide +kernel), List.mem_of_getElem? (i := 1327) (by decide +kernel)⟩
set_option maxRecDepth 20000 in
theorem K_L_guessed {g : tw_Gx} (Q : tw_Rs → tw_Mem → Prop) (a0 : Nat) (a1 : Int32) (a2 : Int32) (a3 : Nat) : tw_KtW g mL_guessed 9 3 18 [.ref a0, .int a1, .int a2, .ref a3] Q (f_L_guessed a0 a1 a2 a3 (fun v => Q (.inl (some (.int v))))) := by
  refine tw_mkKW (L := [some (.ref a0), some (.int a1), some (.int a2), some (.ref a3), none]) (by decide +kernel) mo_L_guessed dk_L_guessed (Nat.le_of_ble_eq_true rfl) rfl ?_
  unfold f_L_guessed
  refine tw_aload_n (k := 0) rfl rfl ?_
  refine tw_iconst (k := 1) (0 : Int32) rfl (by decide) ?_
  refine tw_aload_n (k := 2) rfl rfl ?_
  refine tw_iload_n (k := 3) rfl rfl ?_
  refine tw_iload_n (k := 4) rfl rfl ?_
  refine tw_callVX (k := 5) (d' := 8) (mc' := 3) (ms' := 18) tw_cI tw_cIi [.int a1, .int a2] rfl rfl wv_RL_28_X11_guessed mo_X11_guessed (t := 10) rfl rfl rfl (fun Q9 => K_X11_guessed Q9 a0 a1 a2) (by omega) (by decide) (by decide) (Nat.le_of_ble_eq_true rfl) (fun x1 => ?_) (fun E => ?_)
  · refine tw_i2l (k := 6) rfl ?_
    refine tw_lastore (k := 7) rfl ?_
    refine tw_goto (k := 8) 21 rfl (by decide) ?_
    refine tw_iconst (k := 15) (0 : Int32) rfl (by decide) ?_
    exact tw_ireturn (k := 16) rfl rfl (by decide) (by decide)
  · refine tw_xcs (fun e9 => ?_) (fun _ => ?_)
    · subst e9
      refine tw_catch [] [(0, 10, 17, 13)] rfl (fun z hz => nomatch hz) (by decide) (by decide) (by decide) (by decide) kcl_RL_24_x kca_java_lang_IndexOutOfBoundsException (fun q1 => ?_)
      refine tw_ast (k := 9) [some (.ref a0), some (.int a1), some (.int a2), some (.ref a3), some (.ref q1)] rfl (Nat.le_of_ble_eq_true rfl) rfl rfl ?_
      refine tw_iconst (k := 10) (1 : Int32) rfl (by decide) ?_
      exact tw_ireturn (k := 11) rfl rfl (by decide) (by decide)
    refine tw_xcs (fun e9 => ?_) (fun _ => ?_)
    · subst e9
      refine tw_catch [(0, 10, 13, 24)] [] rfl (fun z hz => by rw [List.mem_singleton.mp hz]; exact ⟨by decide, _, kcl_RL_24_x, by decide, by decide⟩) (by decide) (by decide) (by decide) (by decide) kcl_RL_13_x kca_java_lang_IllegalArgumentException (fun q2 => ?_)
      refine tw_ast (k := 12) [some (.ref a0), some (.int a1), some (.int a2), some (.ref a3), some (.ref q2)] rfl (Nat.le_of_ble_eq_true rfl) rfl rfl ?_
      refine tw_iconst (k := 13) (2 : Int32) rfl (by decide) ?_
      exact tw_ireturn (k := 14) rfl rfl (by decide) (by decide)
    exact fun _ h => h.elim
def mL_rung : tw_MD := (yL_rung, cL_rung, 5, (some FieldType.int), [(0, .aload_n 3, 1, 1), (1, .iconst 0, 1, 2), (2, .aload_n 0, 1, 3), (3, .iload_n 1, 1, 4), (4, .iload_n 2, 1, 5), (5, .invokevirtual 31, 3, 8), (8, .i2l, 1, 9), (9, .lastore, 1, 10), (10, .goto 11, 3, 13), (13, .astore 4, 2, 15), (15, .iconst 1, 1, 16), (16, .ireturn, 1, 17), (17, .astore 4, 2, 19), (19, .iconst 2, 1, 20), (20, .ireturn, 1, 21), (21, .iconst 0, 1, 22), (22, .ireturn, 1, 23)], [(0, 10, 13, 24), (0, 10, 17, 13)])
theorem mo_L_rung : tw_mok mL_rung 4 := ⟨plainFor_of_name (by decide +kernel), by decide +kernel, by decide +kernel, by decide +kernel, by decide +kernel⟩
theorem dk_L_rung : tw_dk mL_rung := by unfold tw_dk; decide +kernel
theorem wv_RL_31_X11_rung : tw_wV RL 31 mX11_rung := ⟨List.mem_of_getElem? (i := 1337) (by decide +kernel), List.mem_of_getElem? (i := 1338) (by decide +kernel), List.mem_of_getElem? (i := 1339) (by decide +kernel), List.mem_of_getElem? (i := 124) (by decide +kernel), List.mem_of_getElem? (i := 1340) (by decide +kernel)⟩
set_option maxRecDepth 20000 in
theorem K_L_rung {g : tw_Gx} (Q : tw_Rs → tw_Mem → Prop) (a0 : Nat) (a1 : Int32) (a2 : Int32) (a3 : Nat) : tw_KtW g mL_rung 9 3 18 [.ref a0, .int a1, .int a2, .ref a3] Q (f_L_rung a0 a1 a2 a3 (fun v => Q (.inl (some (.int v))))) := by
  refine tw_mkKW (L := [some (.ref a0), some (.int a1), some (.int a2), some (.ref a3), none]) (by decide +kernel) mo_L_rung dk_L_rung (Nat.le_of_ble_eq_true rfl) rfl ?_
  unfold f_L_rung
  refine tw_aload_n (k := 0) rfl rfl ?_
  refine tw_iconst (k := 1) (0 : Int32) rfl (by decide) ?_
  refine tw_aload_n (k := 2) rfl rfl ?_
  refine tw_iload_n (k := 3) rfl rfl ?_
  refine tw_iload_n (k := 4) rfl rfl ?_
  refine tw_callVX (k := 5) (d' := 8) (mc' := 3) (ms' := 18) tw_cI tw_cIi [.int a1, .int a2] rfl rfl wv_RL_31_X11_rung mo_X11_rung (t := 10) rfl rfl rfl (fun Q9 => K_X11_rung Q9 a0 a1 a2) (by omega) (by decide) (by decide) (Nat.le_of_ble_eq_true rfl) (fun x1 => ?_) (fun E => ?_)
  · refine tw_i2l (k := 6) rfl ?_
    refine tw_lastore (k := 7) rfl ?_
    refine tw_goto (k := 8) 21 rfl (by decide) ?_
    refine tw_iconst (k := 15) (0 : Int32) rfl (by decide) ?_
    exact tw_ireturn (k := 16) rfl rfl (by decide) (by decide)
  · refine tw_xcs (fun e9 => ?_) (fun _ => ?_)
    · subst e9
      refine tw_catch [] [(0, 10, 17, 13)] rfl (fun z hz => nomatch hz) (by decide) (by decide) (by decide) (by decide) kcl_RL_24_x kca_java_lang_IndexOutOfBoundsException (fun q1 => ?_)
      refine tw_ast (k := 9) [some (.ref a0), some (.int a1), some (.int a2), some (.ref a3), some (.ref q1)] rfl (Nat.le_of_ble_eq_true rfl) rfl rfl ?_
      refine tw_iconst (k := 10) (1 : Int32) rfl (by decide) ?_
      exact tw_ireturn (k := 11) rfl rfl (by decide) (by decide)
    refine tw_xcs (fun e9 => ?_) (fun _ => ?_)
    · subst e9
      refine tw_catch [(0, 10, 13, 24)] [] rfl (fun z hz => by rw [List.mem_singleton.mp hz]; exact ⟨by decide, _, kcl_RL_24_x, by decide, by decide⟩) (by decide) (by decide) (by decide) (by decide) kcl_RL_13_x kca_java_lang_IllegalArgumentException (fun q2 => ?_)
      refine tw_ast (k := 12) [some (.ref a0), some (.int a1), some (.int a2), some (.ref a3), some (.ref q2)] rfl (Nat.le_of_ble_eq_true rfl) rfl rfl ?_
      refine tw_iconst (k := 13) (2 : Int32) rfl (by decide) ?_
      exact tw_ireturn (k := 14) rfl rfl (by decide) (by decide)
    exact fun _ h => h.elim
def mL_sounds : tw_MD := (yL_sounds, cL_sounds, 5, (some FieldType.int), [(0, .aload_n 3, 1, 1), (1, .iconst 0, 1, 2), (2, .aload_n 0, 1, 3), (3, .iload_n 1, 1, 4), (4, .iload_n 2, 1, 5), (5, .invokevirtual 34, 3, 8), (8, .i2l, 1, 9), (9, .lastore, 1, 10), (10, .goto 11, 3, 13), (13, .astore 4, 2, 15), (15, .iconst 1, 1, 16), (16, .ireturn, 1, 17), (17, .astore 4, 2, 19), (19, .iconst 2, 1, 20), (20, .ireturn, 1, 21), (21, .iconst 0, 1, 22), (22, .ireturn, 1, 23)], [(0, 10, 13, 24), (0, 10, 17, 13)])
theorem mo_L_sounds : tw_mok mL_sounds 4 := ⟨plainFor_of_name (by decide +kernel), by decide +kernel, by decide +kernel, by decide +kernel, by decide +kernel⟩
theorem dk_L_sounds : tw_dk mL_sounds := by unfold tw_dk; decide +kernel
theorem wv_RL_34_X11_sounds : tw_wV RL 34 mX11_sounds := ⟨List.mem_of_getElem? (i := 1345) (by decide +kernel), List.mem_of_getElem? (i := 1346) (by decide +kernel), List.mem_of_getElem? (i := 1347) (by decide +kernel), List.mem_of_getElem? (i := 124) (by decide +kernel), List.mem_of_getElem? (i := 1348) (by decide +kernel)⟩
set_option maxRecDepth 20000 in
theorem K_L_sounds {g : tw_Gx} (Q : tw_Rs → tw_Mem → Prop) (a0 : Nat) (a1 : Int32) (a2 : Int32) (a3 : Nat) : tw_KtW g mL_sounds 9 3 18 [.ref a0, .int a1, .int a2, .ref a3] Q (f_L_sounds a0 a1 a2 a3 (fun v => Q (.inl (some (.int v))))) := by
  refine tw_mkKW (L := [some (.ref a0), some (.int a1), some (.int a2), some (.ref a3), none]) (by decide +kernel) mo_L_sounds dk_L_sounds (Nat.le_of_ble_eq_true rfl) rfl ?_
  unfold f_L_sounds
  refine tw_aload_n (k := 0) rfl rfl ?_
  refine tw_iconst (k := 1) (0 : Int32) rfl (by decide) ?_
  refine tw_aload_n (k := 2) rfl rfl ?_
  refine tw_iload_n (k := 3) rfl rfl ?_
  refine tw_iload_n (k := 4) rfl rfl ?_
  refine tw_callVX (k := 5) (d' := 8) (mc' := 3) (ms' := 18) tw_cI tw_cIi [.int a1, .int a2] rfl rfl wv_RL_34_X11_sounds mo_X11_sounds (t := 10) rfl rfl rfl (fun Q9 => K_X11_sounds Q9 a0 a1 a2) (by omega) (by decide) (by decide) (Nat.le_of_ble_eq_true rfl) (fun x1 => ?_) (fun E => ?_)
  · refine tw_i2l (k := 6) rfl ?_
    refine tw_lastore (k := 7) rfl ?_
    refine tw_goto (k := 8) 21 rfl (by decide) ?_
    refine tw_iconst (k := 15) (0 : Int32) rfl (by decide) ?_
    exact tw_ireturn (k := 16) rfl rfl (by decide) (by decide)
  · refine tw_xcs (fun e9 => ?_) (fun _ => ?_)
    · subst e9
      refine tw_catch [] [(0, 10, 17, 13)] rfl (fun z hz => nomatch hz) (by decide) (by decide) (by decide) (by decide) kcl_RL_24_x kca_java_lang_IndexOutOfBoundsException (fun q1 => ?_)
      refine tw_ast (k := 9) [some (.ref a0), some (.int a1), some (.int a2), some (.ref a3), some (.ref q1)] rfl (Nat.le_of_ble_eq_true rfl) rfl rfl ?_
      refine tw_iconst (k := 10) (1 : Int32) rfl (by decide) ?_
      exact tw_ireturn (k := 11) rfl rfl (by decide) (by decide)
    refine tw_xcs (fun e9 => ?_) (fun _ => ?_)
    · subst e9
      refine tw_catch [(0, 10, 13, 24)] [] rfl (fun z hz => by rw [List.mem_singleton.mp hz]; exact ⟨by decide, _, kcl_RL_24_x, by decide, by decide⟩) (by decide) (by decide) (by decide) (by decide) kcl_RL_13_x kca_java_lang_IllegalArgumentException (fun q2 => ?_)
      refine tw_ast (k := 12) [some (.ref a0), some (.int a1), some (.int a2), some (.ref a3), some (.ref q2)] rfl (Nat.le_of_ble_eq_true rfl) rfl rfl ?_
      refine tw_iconst (k := 13) (2 : Int32) rfl (by decide) ?_
      exact tw_ireturn (k := 14) rfl rfl (by decide) (by decide)
    exact fun _ h => h.elim
def mL_lets : tw_MD := (yL_lets, cL_lets, 5, (some FieldType.int), [(0, .aload_n 3, 1, 1), (1, .iconst 0, 1, 2), (2, .aload_n 0, 1, 3), (3, .iload_n 1, 1, 4), (4, .iload_n 2, 1, 5), (5, .invokevirtual 37, 3, 8), (8, .i2l, 1, 9), (9, .lastore, 1, 10), (10, .goto 11, 3, 13), (13, .astore 4, 2, 15), (15, .iconst 1, 1, 16), (16, .ireturn, 1, 17), (17, .astore 4, 2, 19), (19, .iconst 2, 1, 20), (20, .ireturn, 1, 21), (21, .iconst 0, 1, 22), (22, .ireturn, 1, 23)], [(0, 10, 13, 24), (0, 10, 17, 13)])
theorem mo_L_lets : tw_mok mL_lets 4 := ⟨plainFor_of_name (by decide +kernel), by decide +kernel, by decide +kernel, by decide +kernel, by decide +kernel⟩
theorem dk_L_lets : tw_dk mL_lets := by unfold tw_dk; decide +kernel
theorem wv_RL_37_X11_lets : tw_wV RL 37 mX11_lets := ⟨List.mem_of_getElem? (i := 1354) (by decide +kernel), List.mem_of_getElem? (i := 1355) (by decide +kernel), List.mem_of_getElem? (i := 1356) (by decide +kernel), List.mem_of_getElem? (i := 124) (by decide +kernel), List.mem_of_getElem? (i := 1357) (by decide +kernel)⟩
set_option maxRecDepth 20000 in
theorem K_L_lets {g : tw_Gx} (Q : tw_Rs → tw_Mem → Prop) (a0 : Nat) (a1 : Int32) (a2 : Int32) (a3 : Nat) : tw_KtW g mL_lets 9 3 18 [.ref a0, .int a1, .int a2, .ref a3] Q (f_L_lets a0 a1 a2 a3 (fun v => Q (.inl (some (.int v))))) := by
  refine tw_mkKW (L := [some (.ref a0), some (.int a1), some (.int a2), some (.ref a3), none]) (by decide +kernel) mo_L_lets dk_L_lets (Nat.le_of_ble_eq_true rfl) rfl ?_
  unfold f_L_lets
  refine tw_aload_n (k := 0) rfl rfl ?_
  refine tw_iconst (k := 1) (0 : Int32) rfl (by decide) ?_
  refine tw_aload_n (k := 2) rfl rfl ?_
  refine tw_iload_n (k := 3) rfl rfl ?_
  refine tw_iload_n (k := 4) rfl rfl ?_
  refine tw_callVX (k := 5) (d' := 8) (mc' := 3) (ms' := 18) tw_cI tw_cIi [.int a1, .int a2] rfl rfl wv_RL_37_X11_lets mo_X11_lets (t := 10) rfl rfl rfl (fun Q9 => K_X11_lets Q9 a0 a1 a2) (by omega) (by decide) (by decide) (Nat.le_of_ble_eq_true rfl) (fun x1 => ?_) (fun E => ?_)
  · refine tw_i2l (k := 6) rfl ?_
    refine tw_lastore (k := 7) rfl ?_
    refine tw_goto (k := 8) 21 rfl (by decide) ?_
    refine tw_iconst (k := 15) (0 : Int32) rfl (by decide) ?_
    exact tw_ireturn (k := 16) rfl rfl (by decide) (by decide)
  · refine tw_xcs (fun e9 => ?_) (fun _ => ?_)
    · subst e9
      refine tw_catch [] [(0, 10, 17, 13)] rfl (fun z hz => nomatch hz) (by decide) (by decide) (by decide) (by decide) kcl_RL_24_x kca_java_lang_IndexOutOfBoundsException (fun q1 => ?_)
      refine tw_ast (k := 9) [some (.ref a0), some (.int a1), some (.int a2), some (.ref a3), some (.ref q1)] rfl (Nat.le_of_ble_eq_true rfl) rfl rfl ?_
      refine tw_iconst (k := 10) (1 : Int32) rfl (by decide) ?_
      exact tw_ireturn (k := 11) rfl rfl (by decide) (by decide)
    refine tw_xcs (fun e9 => ?_) (fun _ => ?_)
    · subst e9
      refine tw_catch [(0, 10, 13, 24)] [] rfl (fun z hz => by rw [List.mem_singleton.mp hz]; exact ⟨by decide, _, kcl_RL_24_x, by decide, by decide⟩) (by decide) (by decide) (by decide) (by decide) kcl_RL_13_x kca_java_lang_IllegalArgumentException (fun q2 => ?_)
      refine tw_ast (k := 12) [some (.ref a0), some (.int a1), some (.int a2), some (.ref a3), some (.ref q2)] rfl (Nat.le_of_ble_eq_true rfl) rfl rfl ?_
      refine tw_iconst (k := 13) (2 : Int32) rfl (by decide) ?_
      exact tw_ireturn (k := 14) rfl rfl (by decide) (by decide)
    exact fun _ h => h.elim
def mL_both : tw_MD := (yL_both, cL_both, 5, (some FieldType.int), [(0, .aload_n 3, 1, 1), (1, .iconst 0, 1, 2), (2, .aload_n 0, 1, 3), (3, .iload_n 1, 1, 4), (4, .iload_n 2, 1, 5), (5, .invokevirtual 40, 3, 8), (8, .i2l, 1, 9), (9, .lastore, 1, 10), (10, .goto 11, 3, 13), (13, .astore 4, 2, 15), (15, .iconst 1, 1, 16), (16, .ireturn, 1, 17), (17, .astore 4, 2, 19), (19, .iconst 2, 1, 20), (20, .ireturn, 1, 21), (21, .iconst 0, 1, 22), (22, .ireturn, 1, 23)], [(0, 10, 13, 24), (0, 10, 17, 13)])
theorem mo_L_both : tw_mok mL_both 4 := ⟨plainFor_of_name (by decide +kernel), by decide +kernel, by decide +kernel, by decide +kernel, by decide +kernel⟩
theorem dk_L_both : tw_dk mL_both := by unfold tw_dk; decide +kernel
theorem wv_RL_40_X11_both : tw_wV RL 40 mX11_both := ⟨List.mem_of_getElem? (i := 1362) (by decide +kernel), List.mem_of_getElem? (i := 1363) (by decide +kernel), List.mem_of_getElem? (i := 1364) (by decide +kernel), List.mem_of_getElem? (i := 124) (by decide +kernel), List.mem_of_getElem? (i := 1365) (by decide +kernel)⟩
set_option maxRecDepth 20000 in
theorem K_L_both {g : tw_Gx} (Q : tw_Rs → tw_Mem → Prop) (a0 : Nat) (a1 : Int32) (a2 : Int32) (a3 : Nat) : tw_KtW g mL_both 9 3 18 [.ref a0, .int a1, .int a2, .ref a3] Q (f_L_both a0 a1 a2 a3 (fun v => Q (.inl (some (.int v))))) := by
  refine tw_mkKW (L := [some (.ref a0), some (.int a1), some (.int a2), some (.ref a3), none]) (by decide +kernel) mo_L_both dk_L_both (Nat.le_of_ble_eq_true rfl) rfl ?_
  unfold f_L_both
  refine tw_aload_n (k := 0) rfl rfl ?_
  refine tw_iconst (k := 1) (0 : Int32) rfl (by decide) ?_
  refine tw_aload_n (k := 2) rfl rfl ?_
  refine tw_iload_n (k := 3) rfl rfl ?_
  refine tw_iload_n (k := 4) rfl rfl ?_
  refine tw_callVX (k := 5) (d' := 8) (mc' := 3) (ms' := 18) tw_cI tw_cIi [.int a1, .int a2] rfl rfl wv_RL_40_X11_both mo_X11_both (t := 10) rfl rfl rfl (fun Q9 => K_X11_both Q9 a0 a1 a2) (by omega) (by decide) (by decide) (Nat.le_of_ble_eq_true rfl) (fun x1 => ?_) (fun E => ?_)
  · refine tw_i2l (k := 6) rfl ?_
    refine tw_lastore (k := 7) rfl ?_
    refine tw_goto (k := 8) 21 rfl (by decide) ?_
    refine tw_iconst (k := 15) (0 : Int32) rfl (by decide) ?_
    exact tw_ireturn (k := 16) rfl rfl (by decide) (by decide)
  · refine tw_xcs (fun e9 => ?_) (fun _ => ?_)
    · subst e9
      refine tw_catch [] [(0, 10, 17, 13)] rfl (fun z hz => nomatch hz) (by decide) (by decide) (by decide) (by decide) kcl_RL_24_x kca_java_lang_IndexOutOfBoundsException (fun q1 => ?_)
      refine tw_ast (k := 9) [some (.ref a0), some (.int a1), some (.int a2), some (.ref a3), some (.ref q1)] rfl (Nat.le_of_ble_eq_true rfl) rfl rfl ?_
      refine tw_iconst (k := 10) (1 : Int32) rfl (by decide) ?_
      exact tw_ireturn (k := 11) rfl rfl (by decide) (by decide)
    refine tw_xcs (fun e9 => ?_) (fun _ => ?_)
    · subst e9
      refine tw_catch [(0, 10, 13, 24)] [] rfl (fun z hz => by rw [List.mem_singleton.mp hz]; exact ⟨by decide, _, kcl_RL_24_x, by decide, by decide⟩) (by decide) (by decide) (by decide) (by decide) kcl_RL_13_x kca_java_lang_IllegalArgumentException (fun q2 => ?_)
      refine tw_ast (k := 12) [some (.ref a0), some (.int a1), some (.int a2), some (.ref a3), some (.ref q2)] rfl (Nat.le_of_ble_eq_true rfl) rfl rfl ?_
      refine tw_iconst (k := 13) (2 : Int32) rfl (by decide) ?_
      exact tw_ireturn (k := 14) rfl rfl (by decide) (by decide)
    exact fun _ h => h.elim
def mL_plan : tw_MD := (yL_plan, cL_plan, 5, (some FieldType.int), [(0, .aload_n 3, 1, 1), (1, .iconst 0, 1, 2), (2, .aload_n 0, 1, 3), (3, .iload_n 1, 1, 4), (4, .iload_n 2, 1, 5), (5, .invokevirtual 43, 3, 8), (8, .i2l, 1, 9), (9, .lastore, 1, 10), (10, .goto 7, 3, 13), (13, .astore 4, 2, 15), (15, .iconst 1, 1, 16), (16, .ireturn, 1, 17), (17, .iconst 0, 1, 18), (18, .ireturn, 1, 19)], [(0, 10, 13, 24)])
theorem mo_L_plan : tw_mok mL_plan 4 := ⟨plainFor_of_name (by decide +kernel), by decide +kernel, by decide +kernel, by decide +kernel, by decide +kernel⟩
theorem dk_L_plan : tw_dk mL_plan := by unfold tw_dk; decide +kernel
theorem wv_RL_43_X11_plan : tw_wV RL 43 mX11_plan := ⟨List.mem_of_getElem? (i := 1370) (by decide +kernel), List.mem_of_getElem? (i := 1371) (by decide +kernel), List.mem_of_getElem? (i := 1372) (by decide +kernel), List.mem_of_getElem? (i := 124) (by decide +kernel), List.mem_of_getElem? (i := 1373) (by decide +kernel)⟩
set_option maxRecDepth 20000 in
theorem K_L_plan {g : tw_Gx} (Q : tw_Rs → tw_Mem → Prop) (a0 : Nat) (a1 : Int32) (a2 : Int32) (a3 : Nat) : tw_KtW g mL_plan 8 2 12 [.ref a0, .int a1, .int a2, .ref a3] Q (f_L_plan a0 a1 a2 a3 (fun v => Q (.inl (some (.int v))))) := by
  refine tw_mkKW (L := [some (.ref a0), some (.int a1), some (.int a2), some (.ref a3), none]) (by decide +kernel) mo_L_plan dk_L_plan (Nat.le_of_ble_eq_true rfl) rfl ?_
  unfold f_L_plan
  refine tw_aload_n (k := 0) rfl rfl ?_
  refine tw_iconst (k := 1) (0 : Int32) rfl (by decide) ?_
  refine tw_aload_n (k := 2) rfl rfl ?_
  refine tw_iload_n (k := 3) rfl rfl ?_
  refine tw_iload_n (k := 4) rfl rfl ?_
  refine tw_callVX (k := 5) (d' := 7) (mc' := 2) (ms' := 12) tw_cI tw_cIi [.int a1, .int a2] rfl rfl wv_RL_43_X11_plan mo_X11_plan (t := 10) rfl rfl rfl (fun Q9 => K_X11_plan Q9 a0 a1 a2) (by omega) (by decide) (by decide) (Nat.le_of_ble_eq_true rfl) (fun x1 => ?_) (fun E => ?_)
  · refine tw_i2l (k := 6) rfl ?_
    refine tw_lastore (k := 7) rfl ?_
    refine tw_goto (k := 8) 17 rfl (by decide) ?_
    refine tw_iconst (k := 12) (0 : Int32) rfl (by decide) ?_
    exact tw_ireturn (k := 13) rfl rfl (by decide) (by decide)
  · refine tw_xcs (fun e9 => ?_) (fun _ => ?_)
    · subst e9
      refine tw_catch [] [] rfl (fun z hz => nomatch hz) (by decide) (by decide) (by decide) (by decide) kcl_RL_24_x kca_java_lang_IndexOutOfBoundsException (fun q1 => ?_)
      refine tw_ast (k := 9) [some (.ref a0), some (.int a1), some (.int a2), some (.ref a3), some (.ref q1)] rfl (Nat.le_of_ble_eq_true rfl) rfl rfl ?_
      refine tw_iconst (k := 10) (1 : Int32) rfl (by decide) ?_
      exact tw_ireturn (k := 11) rfl rfl (by decide) (by decide)
    exact fun _ h => h.elim
def mL_tone : tw_MD := (yL_tone, cL_tone, 4, (some FieldType.int), [(0, .aload_n 2, 1, 1), (1, .iconst 0, 1, 2), (2, .aload_n 0, 1, 3), (3, .iload_n 1, 1, 4), (4, .invokevirtual 46, 3, 7), (7, .i2l, 1, 8), (8, .lastore, 1, 9), (9, .goto 6, 3, 12), (12, .astore_n 3, 1, 13), (13, .iconst 1, 1, 14), (14, .ireturn, 1, 15), (15, .iconst 0, 1, 16), (16, .ireturn, 1, 17)], [(0, 9, 12, 24)])
theorem mo_L_tone : tw_mok mL_tone 3 := ⟨plainFor_of_name (by decide +kernel), by decide +kernel, by decide +kernel, by decide +kernel, by decide +kernel⟩
theorem dk_L_tone : tw_dk mL_tone := by unfold tw_dk; decide +kernel
theorem wv_RL_46_X11_tone : tw_wV RL 46 mX11_tone := ⟨List.mem_of_getElem? (i := 1386) (by decide +kernel), List.mem_of_getElem? (i := 1387) (by decide +kernel), List.mem_of_getElem? (i := 1388) (by decide +kernel), List.mem_of_getElem? (i := 124) (by decide +kernel), List.mem_of_getElem? (i := 1389) (by decide +kernel)⟩
set_option maxRecDepth 20000 in
theorem K_L_tone {g : tw_Gx} (Q : tw_Rs → tw_Mem → Prop) (a0 : Nat) (a1 : Int32) (a2 : Nat) : tw_KtW g mL_tone 8 1 6 [.ref a0, .int a1, .ref a2] Q (f_L_tone a0 a1 a2 (fun v => Q (.inl (some (.int v))))) := by
  refine tw_mkKW (L := [some (.ref a0), some (.int a1), some (.ref a2), none]) (by decide +kernel) mo_L_tone dk_L_tone (Nat.le_of_ble_eq_true rfl) rfl ?_
  unfold f_L_tone
  refine tw_aload_n (k := 0) rfl rfl ?_
  refine tw_iconst (k := 1) (0 : Int32) rfl (by decide) ?_
  refine tw_aload_n (k := 2) rfl rfl ?_
  refine tw_iload_n (k := 3) rfl rfl ?_
  refine tw_callVX (k := 4) (d' := 7) (mc' := 1) (ms' := 6) tw_cI tw_cIi [.int a1] rfl rfl wv_RL_46_X11_tone mo_X11_tone (t := 10) rfl rfl rfl (fun Q9 => K_X11_tone Q9 a0 a1) (by omega) (by decide) (by decide) (Nat.le_of_ble_eq_true rfl) (fun x1 => ?_) (fun E => ?_)
  · refine tw_i2l (k := 5) rfl ?_
    refine tw_lastore (k := 6) rfl ?_
    refine tw_goto (k := 7) 15 rfl (by decide) ?_
    refine tw_iconst (k := 11) (0 : Int32) rfl (by decide) ?_
    exact tw_ireturn (k := 12) rfl rfl (by decide) (by decide)
  · refine tw_xcs (fun e9 => ?_) (fun _ => ?_)
    · subst e9
      refine tw_catch [] [] rfl (fun z hz => nomatch hz) (by decide) (by decide) (by decide) (by decide) kcl_RL_24_x kca_java_lang_IndexOutOfBoundsException (fun q1 => ?_)
      refine tw_ast_n (k := 8) [some (.ref a0), some (.int a1), some (.ref a2), some (.ref q1)] rfl (Nat.le_of_ble_eq_true rfl) rfl rfl ?_
      refine tw_iconst (k := 9) (1 : Int32) rfl (by decide) ?_
      exact tw_ireturn (k := 10) rfl rfl (by decide) (by decide)
    exact fun _ h => h.elim
def mL_rope : tw_MD := (yL_rope, cL_rope, 6, (some FieldType.int), [(0, .aload 4, 2, 2), (2, .iconst 0, 1, 3), (3, .aload_n 0, 1, 4), (4, .iload_n 1, 1, 5), (5, .iload_n 2, 1, 6), (6, .iload_n 3, 1, 7), (7, .invokevirtual 50, 3, 10), (10, .i2l, 1, 11), (11, .lastore, 1, 12), (12, .goto 11, 3, 15), (15, .astore 5, 2, 17), (17, .iconst 1, 1, 18), (18, .ireturn, 1, 19), (19, .astore 5, 2, 21), (21, .iconst 2, 1, 22), (22, .ireturn, 1, 23), (23, .iconst 0, 1, 24), (24, .ireturn, 1, 25)], [(0, 12, 15, 24), (0, 12, 19, 54)])
theorem mo_L_rope : tw_mok mL_rope 5 := ⟨plainFor_of_name (by decide +kernel), by decide +kernel, by decide +kernel, by decide +kernel, by decide +kernel⟩
theorem dk_L_rope : tw_dk mL_rope := by unfold tw_dk; decide +kernel
theorem wv_RL_50_X11_rope : tw_wV RL 50 mX11_rope := ⟨List.mem_of_getElem? (i := 1395) (by decide +kernel), List.mem_of_getElem? (i := 1396) (by decide +kernel), List.mem_of_getElem? (i := 1397) (by decide +kernel), List.mem_of_getElem? (i := 124) (by decide +kernel), List.mem_of_getElem? (i := 1398) (by decide +kernel)⟩
theorem kcl_RL_54_x : Cond.classLink RL 54 "java/lang/IllegalStateException" ∈ lw_tbl := List.mem_of_getElem? (i := 1394) (by decide +kernel)
theorem kca_java_lang_IllegalStateException : Cond.castable "java/lang/IllegalStateException" "java/lang/IllegalStateException" ∈ lw_tbl := List.mem_of_getElem? (i := 1401) (by decide +kernel)
set_option maxRecDepth 20000 in
theorem K_L_rope {g : tw_Gx} (Q : tw_Rs → tw_Mem → Prop) (a0 : Nat) (a1 : Int32) (a2 : Int32) (a3 : Int32) (a4 : Nat) : tw_KtW g mL_rope 8 4 24 [.ref a0, .int a1, .int a2, .int a3, .ref a4] Q (f_L_rope a0 a1 a2 a3 a4 (fun v => Q (.inl (some (.int v))))) := by
  refine tw_mkKW (L := [some (.ref a0), some (.int a1), some (.int a2), some (.int a3), some (.ref a4), none]) (by decide +kernel) mo_L_rope dk_L_rope (Nat.le_of_ble_eq_true rfl) rfl ?_
  unfold f_L_rope
  refine tw_aload (k := 0) rfl rfl ?_
  refine tw_iconst (k := 1) (0 : Int32) rfl (by decide) ?_
  refine tw_aload_n (k := 2) rfl rfl ?_
  refine tw_iload_n (k := 3) rfl rfl ?_
  refine tw_iload_n (k := 4) rfl rfl ?_
  refine tw_iload_n (k := 5) rfl rfl ?_
  refine tw_callVX (k := 6) (d' := 7) (mc' := 4) (ms' := 24) tw_cI tw_cIi [.int a1, .int a2, .int a3] rfl rfl wv_RL_50_X11_rope mo_X11_rope (t := 10) rfl rfl rfl (fun Q9 => K_X11_rope Q9 a0 a1 a2 a3) (by omega) (by decide) (by decide) (Nat.le_of_ble_eq_true rfl) (fun x1 => ?_) (fun E => ?_)
  · refine tw_i2l (k := 7) rfl ?_
    refine tw_lastore (k := 8) rfl ?_
    refine tw_goto (k := 9) 23 rfl (by decide) ?_
    refine tw_iconst (k := 16) (0 : Int32) rfl (by decide) ?_
    exact tw_ireturn (k := 17) rfl rfl (by decide) (by decide)
  · refine tw_xcs (fun e9 => ?_) (fun _ => ?_)
    · subst e9
      refine tw_catch [] [(0, 12, 19, 54)] rfl (fun z hz => nomatch hz) (by decide) (by decide) (by decide) (by decide) kcl_RL_24_x kca_java_lang_IndexOutOfBoundsException (fun q1 => ?_)
      refine tw_ast (k := 10) [some (.ref a0), some (.int a1), some (.int a2), some (.int a3), some (.ref a4), some (.ref q1)] rfl (Nat.le_of_ble_eq_true rfl) rfl rfl ?_
      refine tw_iconst (k := 11) (1 : Int32) rfl (by decide) ?_
      exact tw_ireturn (k := 12) rfl rfl (by decide) (by decide)
    refine tw_xcs (fun e9 => ?_) (fun _ => ?_)
    · subst e9
      refine tw_catch [(0, 12, 15, 24)] [] rfl (fun z hz => by rw [List.mem_singleton.mp hz]; exact ⟨by decide, _, kcl_RL_24_x, by decide, by decide⟩) (by decide) (by decide) (by decide) (by decide) kcl_RL_54_x kca_java_lang_IllegalStateException (fun q2 => ?_)
      refine tw_ast (k := 13) [some (.ref a0), some (.int a1), some (.int a2), some (.int a3), some (.ref a4), some (.ref q2)] rfl (Nat.le_of_ble_eq_true rfl) rfl rfl ?_
      refine tw_iconst (k := 14) (2 : Int32) rfl (by decide) ?_
      exact tw_ireturn (k := 15) rfl rfl (by decide) (by decide)
    exact fun _ h => h.elim
def mL_off : tw_MD := (yL_off, cL_off, 5, (some FieldType.int), [(0, .aload_n 3, 1, 1), (1, .iconst 0, 1, 2), (2, .aload_n 0, 1, 3), (3, .iload_n 1, 1, 4), (4, .iload_n 2, 1, 5), (5, .invokevirtual 56, 3, 8), (8, .i2l, 1, 9), (9, .lastore, 1, 10), (10, .goto 11, 3, 13), (13, .astore 4, 2, 15), (15, .iconst 1, 1, 16), (16, .ireturn, 1, 17), (17, .astore 4, 2, 19), (19, .iconst 2, 1, 20), (20, .ireturn, 1, 21), (21, .iconst 0, 1, 22), (22, .ireturn, 1, 23)], [(0, 10, 13, 24), (0, 10, 17, 54)])
theorem mo_L_off : tw_mok mL_off 4 := ⟨plainFor_of_name (by decide +kernel), by decide +kernel, by decide +kernel, by decide +kernel, by decide +kernel⟩
theorem dk_L_off : tw_dk mL_off := by unfold tw_dk; decide +kernel
theorem wv_RL_56_X11_off : tw_wV RL 56 mX11_off := ⟨List.mem_of_getElem? (i := 1424) (by decide +kernel), List.mem_of_getElem? (i := 1425) (by decide +kernel), List.mem_of_getElem? (i := 1426) (by decide +kernel), List.mem_of_getElem? (i := 124) (by decide +kernel), List.mem_of_getElem? (i := 1427) (by decide +kernel)⟩
set_option maxRecDepth 20000 in
theorem K_L_off {g : tw_Gx} (Q : tw_Rs → tw_Mem → Prop) (a0 : Nat) (a1 : Int32) (a2 : Int32) (a3 : Nat) : tw_KtW g mL_off 8 3 18 [.ref a0, .int a1, .int a2, .ref a3] Q (f_L_off a0 a1 a2 a3 (fun v => Q (.inl (some (.int v))))) := by
  refine tw_mkKW (L := [some (.ref a0), some (.int a1), some (.int a2), some (.ref a3), none]) (by decide +kernel) mo_L_off dk_L_off (Nat.le_of_ble_eq_true rfl) rfl ?_
  unfold f_L_off
  refine tw_aload_n (k := 0) rfl rfl ?_
  refine tw_iconst (k := 1) (0 : Int32) rfl (by decide) ?_
  refine tw_aload_n (k := 2) rfl rfl ?_
  refine tw_iload_n (k := 3) rfl rfl ?_
  refine tw_iload_n (k := 4) rfl rfl ?_
  refine tw_callVX (k := 5) (d' := 7) (mc' := 3) (ms' := 18) tw_cI tw_cIi [.int a1, .int a2] rfl rfl wv_RL_56_X11_off mo_X11_off (t := 10) rfl rfl rfl (fun Q9 => K_X11_off Q9 a0 a1 a2) (by omega) (by decide) (by decide) (Nat.le_of_ble_eq_true rfl) (fun x1 => ?_) (fun E => ?_)
  · refine tw_i2l (k := 6) rfl ?_
    refine tw_lastore (k := 7) rfl ?_
    refine tw_goto (k := 8) 21 rfl (by decide) ?_
    refine tw_iconst (k := 15) (0 : Int32) rfl (by decide) ?_
    exact tw_ireturn (k := 16) rfl rfl (by decide) (by decide)
  · refine tw_xcs (fun e9 => ?_) (fun _ => ?_)
    · subst e9
      refine tw_catch [] [(0, 10, 17, 54)] rfl (fun z hz => nomatch hz) (by decide) (by decide) (by decide) (by decide) kcl_RL_24_x kca_java_lang_IndexOutOfBoundsException (fun q1 => ?_)
      refine tw_ast (k := 9) [some (.ref a0), some (.int a1), some (.int a2), some (.ref a3), some (.ref q1)] rfl (Nat.le_of_ble_eq_true rfl) rfl rfl ?_
      refine tw_iconst (k := 10) (1 : Int32) rfl (by decide) ?_
      exact tw_ireturn (k := 11) rfl rfl (by decide) (by decide)
    refine tw_xcs (fun e9 => ?_) (fun _ => ?_)
    · subst e9
      refine tw_catch [(0, 10, 13, 24)] [] rfl (fun z hz => by rw [List.mem_singleton.mp hz]; exact ⟨by decide, _, kcl_RL_24_x, by decide, by decide⟩) (by decide) (by decide) (by decide) (by decide) kcl_RL_54_x kca_java_lang_IllegalStateException (fun q2 => ?_)
      refine tw_ast (k := 12) [some (.ref a0), some (.int a1), some (.int a2), some (.ref a3), some (.ref q2)] rfl (Nat.le_of_ble_eq_true rfl) rfl rfl ?_
      refine tw_iconst (k := 13) (2 : Int32) rfl (by decide) ?_
      exact tw_ireturn (k := 14) rfl rfl (by decide) (by decide)
    exact fun _ h => h.elim
def mL_change : tw_MD := (yL_change, cL_change, 4, (some FieldType.int), [(0, .aload_n 2, 1, 1), (1, .iconst 0, 1, 2), (2, .aload_n 0, 1, 3), (3, .iload_n 1, 1, 4), (4, .invokevirtual 59, 3, 7), (7, .i2l, 1, 8), (8, .lastore, 1, 9), (9, .goto 6, 3, 12), (12, .astore_n 3, 1, 13), (13, .iconst 1, 1, 14), (14, .ireturn, 1, 15), (15, .iconst 0, 1, 16), (16, .ireturn, 1, 17)], [(0, 9, 12, 24)])
theorem mo_L_change : tw_mok mL_change 3 := ⟨plainFor_of_name (by decide +kernel), by decide +kernel, by decide +kernel, by decide +kernel, by decide +kernel⟩
theorem dk_L_change : tw_dk mL_change := by unfold tw_dk; decide +kernel
theorem wv_RL_59_X11_change : tw_wV RL 59 mX11_change := ⟨List.mem_of_getElem? (i := 1432) (by decide +kernel), List.mem_of_getElem? (i := 1433) (by decide +kernel), List.mem_of_getElem? (i := 1434) (by decide +kernel), List.mem_of_getElem? (i := 124) (by decide +kernel), List.mem_of_getElem? (i := 1435) (by decide +kernel)⟩
set_option maxRecDepth 20000 in
theorem K_L_change {g : tw_Gx} (Q : tw_Rs → tw_Mem → Prop) (a0 : Nat) (a1 : Int32) (a2 : Nat) : tw_KtW g mL_change 8 1 6 [.ref a0, .int a1, .ref a2] Q (f_L_change a0 a1 a2 (fun v => Q (.inl (some (.int v))))) := by
  refine tw_mkKW (L := [some (.ref a0), some (.int a1), some (.ref a2), none]) (by decide +kernel) mo_L_change dk_L_change (Nat.le_of_ble_eq_true rfl) rfl ?_
  unfold f_L_change
  refine tw_aload_n (k := 0) rfl rfl ?_
  refine tw_iconst (k := 1) (0 : Int32) rfl (by decide) ?_
  refine tw_aload_n (k := 2) rfl rfl ?_
  refine tw_iload_n (k := 3) rfl rfl ?_
  refine tw_callVX (k := 4) (d' := 7) (mc' := 1) (ms' := 6) tw_cI tw_cIi [.int a1] rfl rfl wv_RL_59_X11_change mo_X11_change (t := 10) rfl rfl rfl (fun Q9 => K_X11_change Q9 a0 a1) (by omega) (by decide) (by decide) (Nat.le_of_ble_eq_true rfl) (fun x1 => ?_) (fun E => ?_)
  · refine tw_i2l (k := 5) rfl ?_
    refine tw_lastore (k := 6) rfl ?_
    refine tw_goto (k := 7) 15 rfl (by decide) ?_
    refine tw_iconst (k := 11) (0 : Int32) rfl (by decide) ?_
    exact tw_ireturn (k := 12) rfl rfl (by decide) (by decide)
  · refine tw_xcs (fun e9 => ?_) (fun _ => ?_)
    · subst e9
      refine tw_catch [] [] rfl (fun z hz => nomatch hz) (by decide) (by decide) (by decide) (by decide) kcl_RL_24_x kca_java_lang_IndexOutOfBoundsException (fun q1 => ?_)
      refine tw_ast_n (k := 8) [some (.ref a0), some (.int a1), some (.ref a2), some (.ref q1)] rfl (Nat.le_of_ble_eq_true rfl) rfl rfl ?_
      refine tw_iconst (k := 9) (1 : Int32) rfl (by decide) ?_
      exact tw_ireturn (k := 10) rfl rfl (by decide) (by decide)
    exact fun _ h => h.elim
def mL_swear : tw_MD := (yL_swear, cL_swear, 5, (some FieldType.int), [(0, .aload_n 3, 1, 1), (1, .iconst 0, 1, 2), (2, .aload_n 0, 1, 3), (3, .iload_n 1, 1, 4), (4, .iload_n 2, 1, 5), (5, .invokevirtual 62, 3, 8), (8, .ifCond .eq 7, 3, 11), (11, .lconst 1, 1, 12), (12, .goto 4, 3, 15), (15, .lconst 0, 1, 16), (16, .lastore, 1, 17), (17, .goto 7, 3, 20), (20, .astore 4, 2, 22), (22, .iconst 1, 1, 23), (23, .ireturn, 1, 24), (24, .iconst 0, 1, 25), (25, .ireturn, 1, 26)], [(0, 17, 20, 24)])
theorem mo_L_swear : tw_mok mL_swear 4 := ⟨plainFor_of_name (by decide +kernel), by decide +kernel, by decide +kernel, by decide +kernel, by decide +kernel⟩
theorem dk_L_swear : tw_dk mL_swear := by unfold tw_dk; decide +kernel
theorem wv_RL_62_X11_swear : tw_wV RL 62 mX11_swear := ⟨List.mem_of_getElem? (i := 1439) (by decide +kernel), List.mem_of_getElem? (i := 1440) (by decide +kernel), List.mem_of_getElem? (i := 1441) (by decide +kernel), List.mem_of_getElem? (i := 124) (by decide +kernel), List.mem_of_getElem? (i := 1442) (by decide +kernel)⟩
set_option maxRecDepth 20000 in
theorem K_L_swear {g : tw_Gx} (Q : tw_Rs → tw_Mem → Prop) (a0 : Nat) (a1 : Int32) (a2 : Int32) (a3 : Nat) : tw_KtW g mL_swear 8 1 6 [.ref a0, .int a1, .int a2, .ref a3] Q (f_L_swear a0 a1 a2 a3 (fun v => Q (.inl (some (.int v))))) := by
  refine tw_mkKW (L := [some (.ref a0), some (.int a1), some (.int a2), some (.ref a3), none]) (by decide +kernel) mo_L_swear dk_L_swear (Nat.le_of_ble_eq_true rfl) rfl ?_
  unfold f_L_swear
  refine tw_aload_n (k := 0) rfl rfl ?_
  refine tw_iconst (k := 1) (0 : Int32) rfl (by decide) ?_
  refine tw_aload_n (k := 2) rfl rfl ?_
  refine tw_iload_n (k := 3) rfl rfl ?_
  refine tw_iload_n (k := 4) rfl rfl ?_
  refine tw_callVX (k := 5) (d' := 7) (mc' := 1) (ms' := 6) tw_cI tw_cIi [.int a1, .int a2] rfl rfl wv_RL_62_X11_swear mo_X11_swear (t := 10) rfl rfl rfl (fun Q9 => K_X11_swear Q9 a0 a1 a2) (by omega) (by decide) (by decide) (Nat.le_of_ble_eq_true rfl) (fun x1 => ?_) (fun E => ?_)
  · refine tw_join 16 (fun s3 => [some (.ref a0), some (.int a1), some (.int a2), some (.ref a3), none]) (fun s3 => .long s3 :: .int (0 : Int32) :: .ref a3 :: []) 1 6 (fun s3 => ?_) (fun j2 g2 => ?_)
    · refine tw_lastore (k := 10) rfl ?_
      refine tw_goto (k := 11) 24 rfl (by decide) ?_
      refine tw_iconst (k := 15) (0 : Int32) rfl (by decide) ?_
      exact tw_ireturn (k := 16) rfl rfl (by decide) (by decide)
    · refine tw_if_eq (k := 6) 15 rfl (by decide) ?_ ?_
      · refine tw_lconst (k := 9) (0 : Int64) rfl (by decide) ?_
        exact g2 (0 : Int64)
      · refine tw_lconst (k := 7) (1 : Int64) rfl (by decide) ?_
        refine tw_goto (k := 8) 16 rfl (by decide) ?_
        exact g2 (1 : Int64)
  · refine tw_xcs (fun e9 => ?_) (fun _ => ?_)
    · subst e9
      refine tw_catch [] [] rfl (fun z hz => nomatch hz) (by decide) (by decide) (by decide) (by decide) kcl_RL_24_x kca_java_lang_IndexOutOfBoundsException (fun q3 => ?_)
      refine tw_ast (k := 12) [some (.ref a0), some (.int a1), some (.int a2), some (.ref a3), some (.ref q3)] rfl (Nat.le_of_ble_eq_true rfl) rfl rfl ?_
      refine tw_iconst (k := 13) (1 : Int32) rfl (by decide) ?_
      exact tw_ireturn (k := 14) rfl rfl (by decide) (by decide)
    exact fun _ h => h.elim
def mL_move : tw_MD := (yL_move, cL_move, 5, (some FieldType.int), [(0, .aload_n 3, 1, 1), (1, .iconst 0, 1, 2), (2, .aload_n 0, 1, 3), (3, .iload_n 1, 1, 4), (4, .iload_n 2, 1, 5), (5, .invokevirtual 66, 3, 8), (8, .i2l, 1, 9), (9, .lastore, 1, 10), (10, .goto 7, 3, 13), (13, .astore 4, 2, 15), (15, .iconst 1, 1, 16), (16, .ireturn, 1, 17), (17, .iconst 0, 1, 18), (18, .ireturn, 1, 19)], [(0, 10, 13, 24)])
theorem mo_L_move : tw_mok mL_move 4 := ⟨plainFor_of_name (by decide +kernel), by decide +kernel, by decide +kernel, by decide +kernel, by decide +kernel⟩
theorem dk_L_move : tw_dk mL_move := by unfold tw_dk; decide +kernel
theorem wv_RL_66_X11_move : tw_wV RL 66 mX11_move := ⟨List.mem_of_getElem? (i := 1447) (by decide +kernel), List.mem_of_getElem? (i := 1448) (by decide +kernel), List.mem_of_getElem? (i := 1449) (by decide +kernel), List.mem_of_getElem? (i := 124) (by decide +kernel), List.mem_of_getElem? (i := 1450) (by decide +kernel)⟩
set_option maxRecDepth 20000 in
theorem K_L_move {g : tw_Gx} (Q : tw_Rs → tw_Mem → Prop) (a0 : Nat) (a1 : Int32) (a2 : Int32) (a3 : Nat) : tw_KtW g mL_move 8 2 12 [.ref a0, .int a1, .int a2, .ref a3] Q (f_L_move a0 a1 a2 a3 (fun v => Q (.inl (some (.int v))))) := by
  refine tw_mkKW (L := [some (.ref a0), some (.int a1), some (.int a2), some (.ref a3), none]) (by decide +kernel) mo_L_move dk_L_move (Nat.le_of_ble_eq_true rfl) rfl ?_
  unfold f_L_move
  refine tw_aload_n (k := 0) rfl rfl ?_
  refine tw_iconst (k := 1) (0 : Int32) rfl (by decide) ?_
  refine tw_aload_n (k := 2) rfl rfl ?_
  refine tw_iload_n (k := 3) rfl rfl ?_
  refine tw_iload_n (k := 4) rfl rfl ?_
  refine tw_callVX (k := 5) (d' := 7) (mc' := 2) (ms' := 12) tw_cI tw_cIi [.int a1, .int a2] rfl rfl wv_RL_66_X11_move mo_X11_move (t := 10) rfl rfl rfl (fun Q9 => K_X11_move Q9 a0 a1 a2) (by omega) (by decide) (by decide) (Nat.le_of_ble_eq_true rfl) (fun x1 => ?_) (fun E => ?_)
  · refine tw_i2l (k := 6) rfl ?_
    refine tw_lastore (k := 7) rfl ?_
    refine tw_goto (k := 8) 17 rfl (by decide) ?_
    refine tw_iconst (k := 12) (0 : Int32) rfl (by decide) ?_
    exact tw_ireturn (k := 13) rfl rfl (by decide) (by decide)
  · refine tw_xcs (fun e9 => ?_) (fun _ => ?_)
    · subst e9
      refine tw_catch [] [] rfl (fun z hz => nomatch hz) (by decide) (by decide) (by decide) (by decide) kcl_RL_24_x kca_java_lang_IndexOutOfBoundsException (fun q1 => ?_)
      refine tw_ast (k := 9) [some (.ref a0), some (.int a1), some (.int a2), some (.ref a3), some (.ref q1)] rfl (Nat.le_of_ble_eq_true rfl) rfl rfl ?_
      refine tw_iconst (k := 10) (1 : Int32) rfl (by decide) ?_
      exact tw_ireturn (k := 11) rfl rfl (by decide) (by decide)
    exact fun _ h => h.elim
def mL_guess : tw_MD := (yL_guess, cL_guess, 6, (some FieldType.int), [(0, .aload 4, 2, 2), (2, .iconst 0, 1, 3), (3, .aload_n 0, 1, 4), (4, .iload_n 1, 1, 5), (5, .iload_n 2, 1, 6), (6, .iload_n 3, 1, 7), (7, .invokevirtual 69, 3, 10), (10, .i2l, 1, 11), (11, .lastore, 1, 12), (12, .goto 11, 3, 15), (15, .astore 5, 2, 17), (17, .iconst 1, 1, 18), (18, .ireturn, 1, 19), (19, .astore 5, 2, 21), (21, .iconst 2, 1, 22), (22, .ireturn, 1, 23), (23, .iconst 0, 1, 24), (24, .ireturn, 1, 25)], [(0, 12, 15, 24), (0, 12, 19, 13)])
theorem mo_L_guess : tw_mok mL_guess 5 := ⟨plainFor_of_name (by decide +kernel), by decide +kernel, by decide +kernel, by decide +kernel, by decide +kernel⟩
theorem dk_L_guess : tw_dk mL_guess := by unfold tw_dk; decide +kernel
theorem wv_RL_69_X11_guess : tw_wV RL 69 mX11_guess := ⟨List.mem_of_getElem? (i := 1459) (by decide +kernel), List.mem_of_getElem? (i := 1460) (by decide +kernel), List.mem_of_getElem? (i := 1461) (by decide +kernel), List.mem_of_getElem? (i := 124) (by decide +kernel), List.mem_of_getElem? (i := 1462) (by decide +kernel)⟩
set_option maxRecDepth 20000 in
theorem K_L_guess {g : tw_Gx} (Q : tw_Rs → tw_Mem → Prop) (a0 : Nat) (a1 : Int32) (a2 : Int32) (a3 : Int32) (a4 : Nat) : tw_KtW g mL_guess 9 4 24 [.ref a0, .int a1, .int a2, .int a3, .ref a4] Q (f_L_guess a0 a1 a2 a3 a4 (fun v => Q (.inl (some (.int v))))) := by
  refine tw_mkKW (L := [some (.ref a0), some (.int a1), some (.int a2), some (.int a3), some (.ref a4), none]) (by decide +kernel) mo_L_guess dk_L_guess (Nat.le_of_ble_eq_true rfl) rfl ?_
  unfold f_L_guess
  refine tw_aload (k := 0) rfl rfl ?_
  refine tw_iconst (k := 1) (0 : Int32) rfl (by decide) ?_
  refine tw_aload_n (k := 2) rfl rfl ?_
  refine tw_iload_n (k := 3) rfl rfl ?_
  refine tw_iload_n (k := 4) rfl rfl ?_
  refine tw_iload_n (k := 5) rfl rfl ?_
  refine tw_callVX (k := 6) (d' := 8) (mc' := 4) (ms' := 24) tw_cI tw_cIi [.int a1, .int a2, .int a3] rfl rfl wv_RL_69_X11_guess mo_X11_guess (t := 10) rfl rfl rfl (fun Q9 => K_X11_guess Q9 a0 a1 a2 a3) (by omega) (by decide) (by decide) (Nat.le_of_ble_eq_true rfl) (fun x1 => ?_) (fun E => ?_)
  · refine tw_i2l (k := 7) rfl ?_
    refine tw_lastore (k := 8) rfl ?_
    refine tw_goto (k := 9) 23 rfl (by decide) ?_
    refine tw_iconst (k := 16) (0 : Int32) rfl (by decide) ?_
    exact tw_ireturn (k := 17) rfl rfl (by decide) (by decide)
  · refine tw_xcs (fun e9 => ?_) (fun _ => ?_)
    · subst e9
      refine tw_catch [] [(0, 12, 19, 13)] rfl (fun z hz => nomatch hz) (by decide) (by decide) (by decide) (by decide) kcl_RL_24_x kca_java_lang_IndexOutOfBoundsException (fun q1 => ?_)
      refine tw_ast (k := 10) [some (.ref a0), some (.int a1), some (.int a2), some (.int a3), some (.ref a4), some (.ref q1)] rfl (Nat.le_of_ble_eq_true rfl) rfl rfl ?_
      refine tw_iconst (k := 11) (1 : Int32) rfl (by decide) ?_
      exact tw_ireturn (k := 12) rfl rfl (by decide) (by decide)
    refine tw_xcs (fun e9 => ?_) (fun _ => ?_)
    · subst e9
      refine tw_catch [(0, 12, 15, 24)] [] rfl (fun z hz => by rw [List.mem_singleton.mp hz]; exact ⟨by decide, _, kcl_RL_24_x, by decide, by decide⟩) (by decide) (by decide) (by decide) (by decide) kcl_RL_13_x kca_java_lang_IllegalArgumentException (fun q2 => ?_)
      refine tw_ast (k := 13) [some (.ref a0), some (.int a1), some (.int a2), some (.int a3), some (.ref a4), some (.ref q2)] rfl (Nat.le_of_ble_eq_true rfl) rfl rfl ?_
      refine tw_iconst (k := 14) (2 : Int32) rfl (by decide) ?_
      exact tw_ireturn (k := 15) rfl rfl (by decide) (by decide)
    exact fun _ h => h.elim
def mL_forget : tw_MD := (yL_forget, cL_forget, 4, (some FieldType.int), [(0, .aload_n 2, 1, 1), (1, .iconst 0, 1, 2), (2, .aload_n 0, 1, 3), (3, .iload_n 1, 1, 4), (4, .invokevirtual 72, 3, 7), (7, .i2l, 1, 8), (8, .lastore, 1, 9), (9, .goto 6, 3, 12), (12, .astore_n 3, 1, 13), (13, .iconst 1, 1, 14), (14, .ireturn, 1, 15), (15, .iconst 0, 1, 16), (16, .ireturn, 1, 17)], [(0, 9, 12, 24)])
theorem mo_L_forget : tw_mok mL_forget 3 := ⟨plainFor_of_name (by decide +kernel), by decide +kernel, by decide +kernel, by decide +kernel, by decide +kernel⟩
theorem dk_L_forget : tw_dk mL_forget := by unfold tw_dk; decide +kernel
theorem wv_RL_72_X11_forget : tw_wV RL 72 mX11_forget := ⟨List.mem_of_getElem? (i := 1471) (by decide +kernel), List.mem_of_getElem? (i := 1472) (by decide +kernel), List.mem_of_getElem? (i := 1473) (by decide +kernel), List.mem_of_getElem? (i := 124) (by decide +kernel), List.mem_of_getElem? (i := 1474) (by decide +kernel)⟩
set_option maxRecDepth 20000 in
theorem K_L_forget {g : tw_Gx} (Q : tw_Rs → tw_Mem → Prop) (a0 : Nat) (a1 : Int32) (a2 : Nat) : tw_KtW g mL_forget 8 1 6 [.ref a0, .int a1, .ref a2] Q (f_L_forget a0 a1 a2 (fun v => Q (.inl (some (.int v))))) := by
  refine tw_mkKW (L := [some (.ref a0), some (.int a1), some (.ref a2), none]) (by decide +kernel) mo_L_forget dk_L_forget (Nat.le_of_ble_eq_true rfl) rfl ?_
  unfold f_L_forget
  refine tw_aload_n (k := 0) rfl rfl ?_
  refine tw_iconst (k := 1) (0 : Int32) rfl (by decide) ?_
  refine tw_aload_n (k := 2) rfl rfl ?_
  refine tw_iload_n (k := 3) rfl rfl ?_
  refine tw_callVX (k := 4) (d' := 7) (mc' := 1) (ms' := 6) tw_cI tw_cIi [.int a1] rfl rfl wv_RL_72_X11_forget mo_X11_forget (t := 10) rfl rfl rfl (fun Q9 => K_X11_forget Q9 a0 a1) (by omega) (by decide) (by decide) (Nat.le_of_ble_eq_true rfl) (fun x1 => ?_) (fun E => ?_)
  · refine tw_i2l (k := 5) rfl ?_
    refine tw_lastore (k := 6) rfl ?_
    refine tw_goto (k := 7) 15 rfl (by decide) ?_
    refine tw_iconst (k := 11) (0 : Int32) rfl (by decide) ?_
    exact tw_ireturn (k := 12) rfl rfl (by decide) (by decide)
  · refine tw_xcs (fun e9 => ?_) (fun _ => ?_)
    · subst e9
      refine tw_catch [] [] rfl (fun z hz => nomatch hz) (by decide) (by decide) (by decide) (by decide) kcl_RL_24_x kca_java_lang_IndexOutOfBoundsException (fun q1 => ?_)
      refine tw_ast_n (k := 8) [some (.ref a0), some (.int a1), some (.ref a2), some (.ref q1)] rfl (Nat.le_of_ble_eq_true rfl) rfl rfl ?_
      refine tw_iconst (k := 9) (1 : Int32) rfl (by decide) ?_
      exact tw_ireturn (k := 10) rfl rfl (by decide) (by decide)
    exact fun _ h => h.elim
def mL_hours : tw_MD := (yL_hours, cL_hours, 4, (some FieldType.int), [(0, .aload_n 2, 1, 1), (1, .iconst 0, 1, 2), (2, .aload_n 0, 1, 3), (3, .iload_n 1, 1, 4), (4, .invokevirtual 75, 3, 7), (7, .i2l, 1, 8), (8, .lastore, 1, 9), (9, .goto 6, 3, 12), (12, .astore_n 3, 1, 13), (13, .iconst 1, 1, 14), (14, .ireturn, 1, 15), (15, .iconst 0, 1, 16), (16, .ireturn, 1, 17)], [(0, 9, 12, 13)])
theorem mo_L_hours : tw_mok mL_hours 3 := ⟨plainFor_of_name (by decide +kernel), by decide +kernel, by decide +kernel, by decide +kernel, by decide +kernel⟩
theorem dk_L_hours : tw_dk mL_hours := by unfold tw_dk; decide +kernel
theorem wv_RL_75_X11_hours : tw_wV RL 75 mX11_hours := ⟨List.mem_of_getElem? (i := 1485) (by decide +kernel), List.mem_of_getElem? (i := 1486) (by decide +kernel), List.mem_of_getElem? (i := 1487) (by decide +kernel), List.mem_of_getElem? (i := 124) (by decide +kernel), List.mem_of_getElem? (i := 1488) (by decide +kernel)⟩
set_option maxRecDepth 20000 in
theorem K_L_hours {g : tw_Gx} (Q : tw_Rs → tw_Mem → Prop) (a0 : Nat) (a1 : Int32) (a2 : Nat) : tw_KtW g mL_hours 9 1 6 [.ref a0, .int a1, .ref a2] Q (f_L_hours a0 a1 a2 (fun v => Q (.inl (some (.int v))))) := by
  refine tw_mkKW (L := [some (.ref a0), some (.int a1), some (.ref a2), none]) (by decide +kernel) mo_L_hours dk_L_hours (Nat.le_of_ble_eq_true rfl) rfl ?_
  unfold f_L_hours
  refine tw_aload_n (k := 0) rfl rfl ?_
  refine tw_iconst (k := 1) (0 : Int32) rfl (by decide) ?_
  refine tw_aload_n (k := 2) rfl rfl ?_
  refine tw_iload_n (k := 3) rfl rfl ?_
  refine tw_callVX (k := 4) (d' := 8) (mc' := 1) (ms' := 6) tw_cI tw_cIi [.int a1] rfl rfl wv_RL_75_X11_hours mo_X11_hours (t := 10) rfl rfl rfl (fun Q9 => K_X11_hours Q9 a0 a1) (by omega) (by decide) (by decide) (Nat.le_of_ble_eq_true rfl) (fun x1 => ?_) (fun E => ?_)
  · refine tw_i2l (k := 5) rfl ?_
    refine tw_lastore (k := 6) rfl ?_
    refine tw_goto (k := 7) 15 rfl (by decide) ?_
    refine tw_iconst (k := 11) (0 : Int32) rfl (by decide) ?_
    exact tw_ireturn (k := 12) rfl rfl (by decide) (by decide)
  · refine tw_xcs (fun e9 => ?_) (fun _ => ?_)
    · subst e9
      refine tw_catch [] [] rfl (fun z hz => nomatch hz) (by decide) (by decide) (by decide) (by decide) kcl_RL_13_x kca_java_lang_IllegalArgumentException (fun q1 => ?_)
      refine tw_ast_n (k := 8) [some (.ref a0), some (.int a1), some (.ref a2), some (.ref q1)] rfl (Nat.le_of_ble_eq_true rfl) rfl rfl ?_
      refine tw_iconst (k := 9) (1 : Int32) rfl (by decide) ?_
      exact tw_ireturn (k := 10) rfl rfl (by decide) (by decide)
    exact fun _ h => h.elim
def mL_chimes : tw_MD := (yL_chimes, cL_chimes, 4, (some FieldType.int), [(0, .aload_n 2, 1, 1), (1, .iconst 0, 1, 2), (2, .aload_n 0, 1, 3), (3, .iload_n 1, 1, 4), (4, .invokevirtual 78, 3, 7), (7, .i2l, 1, 8), (8, .lastore, 1, 9), (9, .goto 6, 3, 12), (12, .astore_n 3, 1, 13), (13, .iconst 1, 1, 14), (14, .ireturn, 1, 15), (15, .iconst 0, 1, 16), (16, .ireturn, 1, 17)], [(0, 9, 12, 13)])
theorem mo_L_chimes : tw_mok mL_chimes 3 := ⟨plainFor_of_name (by decide +kernel), by decide +kernel, by decide +kernel, by decide +kernel, by decide +kernel⟩
theorem dk_L_chimes : tw_dk mL_chimes := by unfold tw_dk; decide +kernel
theorem wv_RL_78_X11_chimes : tw_wV RL 78 mX11_chimes := ⟨List.mem_of_getElem? (i := 1534) (by decide +kernel), List.mem_of_getElem? (i := 1535) (by decide +kernel), List.mem_of_getElem? (i := 1536) (by decide +kernel), List.mem_of_getElem? (i := 124) (by decide +kernel), List.mem_of_getElem? (i := 1537) (by decide +kernel)⟩
set_option maxRecDepth 20000 in
theorem K_L_chimes {g : tw_Gx} (Q : tw_Rs → tw_Mem → Prop) (a0 : Nat) (a1 : Int32) (a2 : Nat) : tw_KtW g mL_chimes 9 1 6 [.ref a0, .int a1, .ref a2] Q (f_L_chimes a0 a1 a2 (fun v => Q (.inl (some (.int v))))) := by
  refine tw_mkKW (L := [some (.ref a0), some (.int a1), some (.ref a2), none]) (by decide +kernel) mo_L_chimes dk_L_chimes (Nat.le_of_ble_eq_true rfl) rfl ?_
  unfold f_L_chimes
  refine tw_aload_n (k := 0) rfl rfl ?_
  refine tw_iconst (k := 1) (0 : Int32) rfl (by decide) ?_
  refine tw_aload_n (k := 2) rfl rfl ?_
  refine tw_iload_n (k := 3) rfl rfl ?_
  refine tw_callVX (k := 4) (d' := 8) (mc' := 1) (ms' := 6) tw_cI tw_cIi [.int a1] rfl rfl wv_RL_78_X11_chimes mo_X11_chimes (t := 10) rfl rfl rfl (fun Q9 => K_X11_chimes Q9 a0 a1) (by omega) (by decide) (by decide) (Nat.le_of_ble_eq_true rfl) (fun x1 => ?_) (fun E => ?_)
  · refine tw_i2l (k := 5) rfl ?_
    refine tw_lastore (k := 6) rfl ?_
    refine tw_goto (k := 7) 15 rfl (by decide) ?_
    refine tw_iconst (k := 11) (0 : Int32) rfl (by decide) ?_
    exact tw_ireturn (k := 12) rfl rfl (by decide) (by decide)
  · refine tw_xcs (fun e9 => ?_) (fun _ => ?_)
    · subst e9
      refine tw_catch [] [] rfl (fun z hz => nomatch hz) (by decide) (by decide) (by decide) (by decide) kcl_RL_13_x kca_java_lang_IllegalArgumentException (fun q1 => ?_)
      refine tw_ast_n (k := 8) [some (.ref a0), some (.int a1), some (.ref a2), some (.ref q1)] rfl (Nat.le_of_ble_eq_true rfl) rfl rfl ?_
      refine tw_iconst (k := 9) (1 : Int32) rfl (by decide) ?_
      exact tw_ireturn (k := 10) rfl rfl (by decide) (by decide)
    exact fun _ h => h.elim
def mL_lasts : tw_MD := (yL_lasts, cL_lasts, 5, (some FieldType.int), [(0, .aload_n 3, 1, 1), (1, .iconst 0, 1, 2), (2, .aload_n 0, 1, 3), (3, .iload_n 1, 1, 4), (4, .iload_n 2, 1, 5), (5, .invokevirtual 81, 3, 8), (8, .i2l, 1, 9), (9, .lastore, 1, 10), (10, .goto 11, 3, 13), (13, .astore 4, 2, 15), (15, .iconst 1, 1, 16), (16, .ireturn, 1, 17), (17, .astore 4, 2, 19), (19, .iconst 2, 1, 20), (20, .ireturn, 1, 21), (21, .iconst 0, 1, 22), (22, .ireturn, 1, 23)], [(0, 10, 13, 24), (0, 10, 17, 13)])
theorem mo_L_lasts : tw_mok mL_lasts 4 := ⟨plainFor_of_name (by decide +kernel), by decide +kernel, by decide +kernel, by decide +kernel, by decide +kernel⟩
theorem dk_L_lasts : tw_dk mL_lasts := by unfold tw_dk; decide +kernel
theorem wv_RL_81_X11_lasts : tw_wV RL 81 mX11_lasts := ⟨List.mem_of_getElem? (i := 1541) (by decide +kernel), List.mem_of_getElem? (i := 1542) (by decide +kernel), List.mem_of_getElem? (i := 1543) (by decide +kernel), List.mem_of_getElem? (i := 124) (by decide +kernel), List.mem_of_getElem? (i := 1544) (by decide +kernel)⟩
set_option maxRecDepth 20000 in
theorem K_L_lasts {g : tw_Gx} (Q : tw_Rs → tw_Mem → Prop) (a0 : Nat) (a1 : Int32) (a2 : Int32) (a3 : Nat) : tw_KtW g mL_lasts 9 3 18 [.ref a0, .int a1, .int a2, .ref a3] Q (f_L_lasts a0 a1 a2 a3 (fun v => Q (.inl (some (.int v))))) := by
  refine tw_mkKW (L := [some (.ref a0), some (.int a1), some (.int a2), some (.ref a3), none]) (by decide +kernel) mo_L_lasts dk_L_lasts (Nat.le_of_ble_eq_true rfl) rfl ?_
  unfold f_L_lasts
  refine tw_aload_n (k := 0) rfl rfl ?_
  refine tw_iconst (k := 1) (0 : Int32) rfl (by decide) ?_
  refine tw_aload_n (k := 2) rfl rfl ?_
  refine tw_iload_n (k := 3) rfl rfl ?_
  refine tw_iload_n (k := 4) rfl rfl ?_
  refine tw_callVX (k := 5) (d' := 8) (mc' := 3) (ms' := 18) tw_cI tw_cIi [.int a1, .int a2] rfl rfl wv_RL_81_X11_lasts mo_X11_lasts (t := 10) rfl rfl rfl (fun Q9 => K_X11_lasts Q9 a0 a1 a2) (by omega) (by decide) (by decide) (Nat.le_of_ble_eq_true rfl) (fun x1 => ?_) (fun E => ?_)
  · refine tw_i2l (k := 6) rfl ?_
    refine tw_lastore (k := 7) rfl ?_
    refine tw_goto (k := 8) 21 rfl (by decide) ?_
    refine tw_iconst (k := 15) (0 : Int32) rfl (by decide) ?_
    exact tw_ireturn (k := 16) rfl rfl (by decide) (by decide)
  · refine tw_xcs (fun e9 => ?_) (fun _ => ?_)
    · subst e9
      refine tw_catch [] [(0, 10, 17, 13)] rfl (fun z hz => nomatch hz) (by decide) (by decide) (by decide) (by decide) kcl_RL_24_x kca_java_lang_IndexOutOfBoundsException (fun q1 => ?_)
      refine tw_ast (k := 9) [some (.ref a0), some (.int a1), some (.int a2), some (.ref a3), some (.ref q1)] rfl (Nat.le_of_ble_eq_true rfl) rfl rfl ?_
      refine tw_iconst (k := 10) (1 : Int32) rfl (by decide) ?_
      exact tw_ireturn (k := 11) rfl rfl (by decide) (by decide)
    refine tw_xcs (fun e9 => ?_) (fun _ => ?_)
    · subst e9
      refine tw_catch [(0, 10, 13, 24)] [] rfl (fun z hz => by rw [List.mem_singleton.mp hz]; exact ⟨by decide, _, kcl_RL_24_x, by decide, by decide⟩) (by decide) (by decide) (by decide) (by decide) kcl_RL_13_x kca_java_lang_IllegalArgumentException (fun q2 => ?_)
      refine tw_ast (k := 12) [some (.ref a0), some (.int a1), some (.int a2), some (.ref a3), some (.ref q2)] rfl (Nat.le_of_ble_eq_true rfl) rfl rfl ?_
      refine tw_iconst (k := 13) (2 : Int32) rfl (by decide) ?_
      exact tw_ireturn (k := 14) rfl rfl (by decide) (by decide)
    exact fun _ h => h.elim
def mL_teams : tw_MD := (yL_teams, cL_teams, 4, (some FieldType.int), [(0, .aload_n 2, 1, 1), (1, .iconst 0, 1, 2), (2, .aload_n 0, 1, 3), (3, .iload_n 1, 1, 4), (4, .invokevirtual 84, 3, 7), (7, .i2l, 1, 8), (8, .lastore, 1, 9), (9, .goto 6, 3, 12), (12, .astore_n 3, 1, 13), (13, .iconst 1, 1, 14), (14, .ireturn, 1, 15), (15, .iconst 0, 1, 16), (16, .ireturn, 1, 17)], [(0, 9, 12, 24)])
theorem mo_L_teams : tw_mok mL_teams 3 := ⟨plainFor_of_name (by decide +kernel), by decide +kernel, by decide +kernel, by decide +kernel, by decide +kernel⟩
theorem dk_L_teams : tw_dk mL_teams := by unfold tw_dk; decide +kernel
theorem wv_RL_84_X11_teams : tw_wV RL 84 mX11_teams := ⟨List.mem_of_getElem? (i := 1549) (by decide +kernel), List.mem_of_getElem? (i := 1550) (by decide +kernel), List.mem_of_getElem? (i := 1551) (by decide +kernel), List.mem_of_getElem? (i := 124) (by decide +kernel), List.mem_of_getElem? (i := 1552) (by decide +kernel)⟩
set_option maxRecDepth 20000 in
theorem K_L_teams {g : tw_Gx} (Q : tw_Rs → tw_Mem → Prop) (a0 : Nat) (a1 : Int32) (a2 : Nat) : tw_KtW g mL_teams 9 1 6 [.ref a0, .int a1, .ref a2] Q (f_L_teams a0 a1 a2 (fun v => Q (.inl (some (.int v))))) := by
  refine tw_mkKW (L := [some (.ref a0), some (.int a1), some (.ref a2), none]) (by decide +kernel) mo_L_teams dk_L_teams (Nat.le_of_ble_eq_true rfl) rfl ?_
  unfold f_L_teams
  refine tw_aload_n (k := 0) rfl rfl ?_
  refine tw_iconst (k := 1) (0 : Int32) rfl (by decide) ?_
  refine tw_aload_n (k := 2) rfl rfl ?_
  refine tw_iload_n (k := 3) rfl rfl ?_
  refine tw_callVX (k := 4) (d' := 8) (mc' := 1) (ms' := 6) tw_cI tw_cIi [.int a1] rfl rfl wv_RL_84_X11_teams mo_X11_teams (t := 10) rfl rfl rfl (fun Q9 => K_X11_teams Q9 a0 a1) (by omega) (by decide) (by decide) (Nat.le_of_ble_eq_true rfl) (fun x1 => ?_) (fun E => ?_)
  · refine tw_i2l (k := 5) rfl ?_
    refine tw_lastore (k := 6) rfl ?_
    refine tw_goto (k := 7) 15 rfl (by decide) ?_
    refine tw_iconst (k := 11) (0 : Int32) rfl (by decide) ?_
    exact tw_ireturn (k := 12) rfl rfl (by decide) (by decide)
  · refine tw_xcs (fun e9 => ?_) (fun _ => ?_)
    · subst e9
      refine tw_catch [] [] rfl (fun z hz => nomatch hz) (by decide) (by decide) (by decide) (by decide) kcl_RL_24_x kca_java_lang_IndexOutOfBoundsException (fun q1 => ?_)
      refine tw_ast_n (k := 8) [some (.ref a0), some (.int a1), some (.ref a2), some (.ref q1)] rfl (Nat.le_of_ble_eq_true rfl) rfl rfl ?_
      refine tw_iconst (k := 9) (1 : Int32) rfl (by decide) ?_
      exact tw_ireturn (k := 10) rfl rfl (by decide) (by decide)
    exact fun _ h => h.elim
def mL_depth : tw_MD := (yL_depth, cL_depth, 5, (some FieldType.int), [(0, .aload_n 3, 1, 1), (1, .iconst 0, 1, 2), (2, .aload_n 0, 1, 3), (3, .iload_n 1, 1, 4), (4, .iload_n 2, 1, 5), (5, .invokevirtual 87, 3, 8), (8, .i2l, 1, 9), (9, .lastore, 1, 10), (10, .goto 11, 3, 13), (13, .astore 4, 2, 15), (15, .iconst 1, 1, 16), (16, .ireturn, 1, 17), (17, .astore 4, 2, 19), (19, .iconst 2, 1, 20), (20, .ireturn, 1, 21), (21, .iconst 0, 1, 22), (22, .ireturn, 1, 23)], [(0, 10, 13, 24), (0, 10, 17, 13)])
theorem mo_L_depth : tw_mok mL_depth 4 := ⟨plainFor_of_name (by decide +kernel), by decide +kernel, by decide +kernel, by decide +kernel, by decide +kernel⟩
theorem dk_L_depth : tw_dk mL_depth := by unfold tw_dk; decide +kernel
theorem wv_RL_87_X11_depth : tw_wV RL 87 mX11_depth := ⟨List.mem_of_getElem? (i := 1598) (by decide +kernel), List.mem_of_getElem? (i := 1599) (by decide +kernel), List.mem_of_getElem? (i := 1600) (by decide +kernel), List.mem_of_getElem? (i := 124) (by decide +kernel), List.mem_of_getElem? (i := 1601) (by decide +kernel)⟩
set_option maxRecDepth 20000 in
theorem K_L_depth {g : tw_Gx} (Q : tw_Rs → tw_Mem → Prop) (a0 : Nat) (a1 : Int32) (a2 : Int32) (a3 : Nat) : tw_KtW g mL_depth 8 2 12 [.ref a0, .int a1, .int a2, .ref a3] Q (f_L_depth a0 a1 a2 a3 (fun v => Q (.inl (some (.int v))))) := by
  refine tw_mkKW (L := [some (.ref a0), some (.int a1), some (.int a2), some (.ref a3), none]) (by decide +kernel) mo_L_depth dk_L_depth (Nat.le_of_ble_eq_true rfl) rfl ?_
  unfold f_L_depth
  refine tw_aload_n (k := 0) rfl rfl ?_
  refine tw_iconst (k := 1) (0 : Int32) rfl (by decide) ?_
  refine tw_aload_n (k := 2) rfl rfl ?_
  refine tw_iload_n (k := 3) rfl rfl ?_
  refine tw_iload_n (k := 4) rfl rfl ?_
  refine tw_callVX (k := 5) (d' := 7) (mc' := 2) (ms' := 12) tw_cI tw_cIi [.int a1, .int a2] rfl rfl wv_RL_87_X11_depth mo_X11_depth (t := 10) rfl rfl rfl (fun Q9 => K_X11_depth Q9 a0 a1 a2) (by omega) (by decide) (by decide) (Nat.le_of_ble_eq_true rfl) (fun x1 => ?_) (fun E => ?_)
  · refine tw_i2l (k := 6) rfl ?_
    refine tw_lastore (k := 7) rfl ?_
    refine tw_goto (k := 8) 21 rfl (by decide) ?_
    refine tw_iconst (k := 15) (0 : Int32) rfl (by decide) ?_
    exact tw_ireturn (k := 16) rfl rfl (by decide) (by decide)
  · refine tw_xcs (fun e9 => ?_) (fun _ => ?_)
    · subst e9
      refine tw_catch [] [(0, 10, 17, 13)] rfl (fun z hz => nomatch hz) (by decide) (by decide) (by decide) (by decide) kcl_RL_24_x kca_java_lang_IndexOutOfBoundsException (fun q1 => ?_)
      refine tw_ast (k := 9) [some (.ref a0), some (.int a1), some (.int a2), some (.ref a3), some (.ref q1)] rfl (Nat.le_of_ble_eq_true rfl) rfl rfl ?_
      refine tw_iconst (k := 10) (1 : Int32) rfl (by decide) ?_
      exact tw_ireturn (k := 11) rfl rfl (by decide) (by decide)
    refine tw_xcs (fun e9 => ?_) (fun _ => ?_)
    · subst e9
      refine tw_catch [(0, 10, 13, 24)] [] rfl (fun z hz => by rw [List.mem_singleton.mp hz]; exact ⟨by decide, _, kcl_RL_24_x, by decide, by decide⟩) (by decide) (by decide) (by decide) (by decide) kcl_RL_13_x kca_java_lang_IllegalArgumentException (fun q2 => ?_)
      refine tw_ast (k := 12) [some (.ref a0), some (.int a1), some (.int a2), some (.ref a3), some (.ref q2)] rfl (Nat.le_of_ble_eq_true rfl) rfl rfl ?_
      refine tw_iconst (k := 13) (2 : Int32) rfl (by decide) ?_
      exact tw_ireturn (k := 14) rfl rfl (by decide) (by decide)
    exact fun _ h => h.elim
def mL_circle : tw_MD := (yL_circle, cL_circle, 4, (some FieldType.int), [(0, .aload_n 2, 1, 1), (1, .iconst 0, 1, 2), (2, .aload_n 0, 1, 3), (3, .iload_n 1, 1, 4), (4, .invokevirtual 90, 3, 7), (7, .i2l, 1, 8), (8, .lastore, 1, 9), (9, .goto 6, 3, 12), (12, .astore_n 3, 1, 13), (13, .iconst 1, 1, 14), (14, .ireturn, 1, 15), (15, .iconst 0, 1, 16), (16, .ireturn, 1, 17)], [(0, 9, 12, 24)])
theorem mo_L_circle : tw_mok mL_circle 3 := ⟨plainFor_of_name (by decide +kernel), by decide +kernel, by decide +kernel, by decide +kernel, by decide +kernel⟩
theorem dk_L_circle : tw_dk mL_circle := by unfold tw_dk; decide +kernel
theorem wv_RL_90_X11_circle : tw_wV RL 90 mX11_circle := ⟨List.mem_of_getElem? (i := 1609) (by decide +kernel), List.mem_of_getElem? (i := 1610) (by decide +kernel), List.mem_of_getElem? (i := 1611) (by decide +kernel), List.mem_of_getElem? (i := 124) (by decide +kernel), List.mem_of_getElem? (i := 1612) (by decide +kernel)⟩
set_option maxRecDepth 20000 in
theorem K_L_circle {g : tw_Gx} (Q : tw_Rs → tw_Mem → Prop) (a0 : Nat) (a1 : Int32) (a2 : Nat) : tw_KtW g mL_circle 8 1 6 [.ref a0, .int a1, .ref a2] Q (f_L_circle a0 a1 a2 (fun v => Q (.inl (some (.int v))))) := by
  refine tw_mkKW (L := [some (.ref a0), some (.int a1), some (.ref a2), none]) (by decide +kernel) mo_L_circle dk_L_circle (Nat.le_of_ble_eq_true rfl) rfl ?_
  unfold f_L_circle
  refine tw_aload_n (k := 0) rfl rfl ?_
  refine tw_iconst (k := 1) (0 : Int32) rfl (by decide) ?_
  refine tw_aload_n (k := 2) rfl rfl ?_
  refine tw_iload_n (k := 3) rfl rfl ?_
  refine tw_callVX (k := 4) (d' := 7) (mc' := 1) (ms' := 6) tw_cI tw_cIi [.int a1] rfl rfl wv_RL_90_X11_circle mo_X11_circle (t := 10) rfl rfl rfl (fun Q9 => K_X11_circle Q9 a0 a1) (by omega) (by decide) (by decide) (Nat.le_of_ble_eq_true rfl) (fun x1 => ?_) (fun E => ?_)
  · refine tw_i2l (k := 5) rfl ?_
    refine tw_lastore (k := 6) rfl ?_
    refine tw_goto (k := 7) 15 rfl (by decide) ?_
    refine tw_iconst (k := 11) (0 : Int32) rfl (by decide) ?_
    exact tw_ireturn (k := 12) rfl rfl (by decide) (by decide)
  · refine tw_xcs (fun e9 => ?_) (fun _ => ?_)
    · subst e9
      refine tw_catch [] [] rfl (fun z hz => nomatch hz) (by decide) (by decide) (by decide) (by decide) kcl_RL_24_x kca_java_lang_IndexOutOfBoundsException (fun q1 => ?_)
      refine tw_ast_n (k := 8) [some (.ref a0), some (.int a1), some (.ref a2), some (.ref q1)] rfl (Nat.le_of_ble_eq_true rfl) rfl rfl ?_
      refine tw_iconst (k := 9) (1 : Int32) rfl (by decide) ?_
      exact tw_ireturn (k := 10) rfl rfl (by decide) (by decide)
    exact fun _ h => h.elim
def mL_pulled : tw_MD := (yL_pulled, cL_pulled, 4, (some FieldType.int), [(0, .aload_n 2, 1, 1), (1, .iconst 0, 1, 2), (2, .aload_n 0, 1, 3), (3, .iload_n 1, 1, 4), (4, .invokevirtual 93, 3, 7), (7, .i2l, 1, 8), (8, .lastore, 1, 9), (9, .goto 6, 3, 12), (12, .astore_n 3, 1, 13), (13, .iconst 1, 1, 14), (14, .ireturn, 1, 15), (15, .iconst 0, 1, 16), (16, .ireturn, 1, 17)], [(0, 9, 12, 13)])
theorem mo_L_pulled : tw_mok mL_pulled 3 := ⟨plainFor_of_name (by decide +kernel), by decide +kernel, by decide +kernel, by decide +kernel, by decide +kernel⟩
theorem dk_L_pulled : tw_dk mL_pulled := by unfold tw_dk; decide +kernel
theorem wv_RL_93_X11_pulled : tw_wV RL 93 mX11_pulled := ⟨List.mem_of_getElem? (i := 1620) (by decide +kernel), List.mem_of_getElem? (i := 1621) (by decide +kernel), List.mem_of_getElem? (i := 1622) (by decide +kernel), List.mem_of_getElem? (i := 124) (by decide +kernel), List.mem_of_getElem? (i := 1623) (by decide +kernel)⟩
set_option maxRecDepth 20000 in
theorem K_L_pulled {g : tw_Gx} (Q : tw_Rs → tw_Mem → Prop) (a0 : Nat) (a1 : Int32) (a2 : Nat) : tw_KtW g mL_pulled 9 1 6 [.ref a0, .int a1, .ref a2] Q (f_L_pulled a0 a1 a2 (fun v => Q (.inl (some (.int v))))) := by
  refine tw_mkKW (L := [some (.ref a0), some (.int a1), some (.ref a2), none]) (by decide +kernel) mo_L_pulled dk_L_pulled (Nat.le_of_ble_eq_true rfl) rfl ?_
  unfold f_L_pulled
  refine tw_aload_n (k := 0) rfl rfl ?_
  refine tw_iconst (k := 1) (0 : Int32) rfl (by decide) ?_
  refine tw_aload_n (k := 2) rfl rfl ?_
  refine tw_iload_n (k := 3) rfl rfl ?_
  refine tw_callVX (k := 4) (d' := 8) (mc' := 1) (ms' := 6) tw_cI tw_cIi [.int a1] rfl rfl wv_RL_93_X11_pulled mo_X11_pulled (t := 10) rfl rfl rfl (fun Q9 => K_X11_pulled Q9 a0 a1) (by omega) (by decide) (by decide) (Nat.le_of_ble_eq_true rfl) (fun x1 => ?_) (fun E => ?_)
  · refine tw_i2l (k := 5) rfl ?_
    refine tw_lastore (k := 6) rfl ?_
    refine tw_goto (k := 7) 15 rfl (by decide) ?_
    refine tw_iconst (k := 11) (0 : Int32) rfl (by decide) ?_
    exact tw_ireturn (k := 12) rfl rfl (by decide) (by decide)
  · refine tw_xcs (fun e9 => ?_) (fun _ => ?_)
    · subst e9
      refine tw_catch [] [] rfl (fun z hz => nomatch hz) (by decide) (by decide) (by decide) (by decide) kcl_RL_13_x kca_java_lang_IllegalArgumentException (fun q1 => ?_)
      refine tw_ast_n (k := 8) [some (.ref a0), some (.int a1), some (.ref a2), some (.ref q1)] rfl (Nat.le_of_ble_eq_true rfl) rfl rfl ?_
      refine tw_iconst (k := 9) (1 : Int32) rfl (by decide) ?_
      exact tw_ireturn (k := 10) rfl rfl (by decide) (by decide)
    exact fun _ h => h.elim
def mL_listen : tw_MD := (yL_listen, cL_listen, 3, (some FieldType.int), [(0, .aload_n 1, 1, 1), (1, .iconst 0, 1, 2), (2, .aload_n 0, 1, 3), (3, .invokevirtual 97, 3, 6), (6, .i2l, 1, 7), (7, .lastore, 1, 8), (8, .goto 6, 3, 11), (11, .astore_n 2, 1, 12), (12, .iconst 1, 1, 13), (13, .ireturn, 1, 14), (14, .iconst 0, 1, 15), (15, .ireturn, 1, 16)], [(0, 8, 11, 13)])
theorem mo_L_listen : tw_mok mL_listen 2 := ⟨plainFor_of_name (by decide +kernel), by decide +kernel, by decide +kernel, by decide +kernel, by decide +kernel⟩
theorem dk_L_listen : tw_dk mL_listen := by unfold tw_dk; decide +kernel
theorem wv_RL_97_X11_listen : tw_wV RL 97 mX11_listen := ⟨List.mem_of_getElem? (i := 1654) (by decide +kernel), List.mem_of_getElem? (i := 1655) (by decide +kernel), List.mem_of_getElem? (i := 1656) (by decide +kernel), List.mem_of_getElem? (i := 124) (by decide +kernel), List.mem_of_getElem? (i := 1657) (by decide +kernel)⟩
set_option maxRecDepth 20000 in
theorem K_L_listen {g : tw_Gx} (Q : tw_Rs → tw_Mem → Prop) (a0 : Nat) (a1 : Nat) : tw_KtW g mL_listen 9 1 6 [.ref a0, .ref a1] Q (f_L_listen a0 a1 (fun v => Q (.inl (some (.int v))))) := by
  refine tw_mkKW (L := [some (.ref a0), some (.ref a1), none]) (by decide +kernel) mo_L_listen dk_L_listen (Nat.le_of_ble_eq_true rfl) rfl ?_
  unfold f_L_listen
  refine tw_aload_n (k := 0) rfl rfl ?_
  refine tw_iconst (k := 1) (0 : Int32) rfl (by decide) ?_
  refine tw_aload_n (k := 2) rfl rfl ?_
  refine tw_callVX (k := 3) (d' := 8) (mc' := 1) (ms' := 6) tw_cI tw_cIi [] rfl rfl wv_RL_97_X11_listen mo_X11_listen (t := 10) rfl rfl rfl (fun Q9 => K_X11_listen Q9 a0) (by omega) (by decide) (by decide) (Nat.le_of_ble_eq_true rfl) (fun x1 => ?_) (fun E => ?_)
  · refine tw_i2l (k := 4) rfl ?_
    refine tw_lastore (k := 5) rfl ?_
    refine tw_goto (k := 6) 14 rfl (by decide) ?_
    refine tw_iconst (k := 10) (0 : Int32) rfl (by decide) ?_
    exact tw_ireturn (k := 11) rfl rfl (by decide) (by decide)
  · refine tw_xcs (fun e9 => ?_) (fun _ => ?_)
    · subst e9
      refine tw_catch [] [] rfl (fun z hz => nomatch hz) (by decide) (by decide) (by decide) (by decide) kcl_RL_13_x kca_java_lang_IllegalArgumentException (fun q1 => ?_)
      refine tw_ast_n (k := 7) [some (.ref a0), some (.ref a1), some (.ref q1)] rfl (Nat.le_of_ble_eq_true rfl) rfl rfl ?_
      refine tw_iconst (k := 8) (1 : Int32) rfl (by decide) ?_
      exact tw_ireturn (k := 9) rfl rfl (by decide) (by decide)
    exact fun _ h => h.elim
def mL_cheap : tw_MD := (yL_cheap, cL_cheap, 4, (some FieldType.int), [(0, .aload_n 2, 1, 1), (1, .iconst 0, 1, 2), (2, .aload_n 0, 1, 3), (3, .iload_n 1, 1, 4), (4, .invokevirtual 100, 3, 7), (7, .i2l, 1, 8), (8, .lastore, 1, 9), (9, .goto 6, 3, 12), (12, .astore_n 3, 1, 13), (13, .iconst 1, 1, 14), (14, .ireturn, 1, 15), (15, .iconst 0, 1, 16), (16, .ireturn, 1, 17)], [(0, 9, 12, 13)])
theorem mo_L_cheap : tw_mok mL_cheap 3 := ⟨plainFor_of_name (by decide +kernel), by decide +kernel, by decide +kernel, by decide +kernel, by decide +kernel⟩
theorem dk_L_cheap : tw_dk mL_cheap := by unfold tw_dk; decide +kernel
theorem wv_RL_100_X11_cheap : tw_wV RL 100 mX11_cheap := ⟨List.mem_of_getElem? (i := 1671) (by decide +kernel), List.mem_of_getElem? (i := 1672) (by decide +kernel), List.mem_of_getElem? (i := 1673) (by decide +kernel), List.mem_of_getElem? (i := 124) (by decide +kernel), List.mem_of_getElem? (i := 1674) (by decide +kernel)⟩
set_option maxRecDepth 20000 in
theorem K_L_cheap {g : tw_Gx} (Q : tw_Rs → tw_Mem → Prop) (a0 : Nat) (a1 : Int32) (a2 : Nat) : tw_KtW g mL_cheap 8 1 6 [.ref a0, .int a1, .ref a2] Q (f_L_cheap a0 a1 a2 (fun v => Q (.inl (some (.int v))))) := by
  refine tw_mkKW (L := [some (.ref a0), some (.int a1), some (.ref a2), none]) (by decide +kernel) mo_L_cheap dk_L_cheap (Nat.le_of_ble_eq_true rfl) rfl ?_
  unfold f_L_cheap
  refine tw_aload_n (k := 0) rfl rfl ?_
  refine tw_iconst (k := 1) (0 : Int32) rfl (by decide) ?_
  refine tw_aload_n (k := 2) rfl rfl ?_
  refine tw_iload_n (k := 3) rfl rfl ?_
  refine tw_callVX (k := 4) (d' := 7) (mc' := 1) (ms' := 6) tw_cI tw_cIi [.int a1] rfl rfl wv_RL_100_X11_cheap mo_X11_cheap (t := 10) rfl rfl rfl (fun Q9 => K_X11_cheap Q9 a0 a1) (by omega) (by decide) (by decide) (Nat.le_of_ble_eq_true rfl) (fun x1 => ?_) (fun E => ?_)
  · refine tw_i2l (k := 5) rfl ?_
    refine tw_lastore (k := 6) rfl ?_
    refine tw_goto (k := 7) 15 rfl (by decide) ?_
    refine tw_iconst (k := 11) (0 : Int32) rfl (by decide) ?_
    exact tw_ireturn (k := 12) rfl rfl (by decide) (by decide)
  · refine tw_xcs (fun e9 => ?_) (fun _ => ?_)
    · subst e9
      refine tw_catch [] [] rfl (fun z hz => nomatch hz) (by decide) (by decide) (by decide) (by decide) kcl_RL_13_x kca_java_lang_IllegalArgumentException (fun q1 => ?_)
      refine tw_ast_n (k := 8) [some (.ref a0), some (.int a1), some (.ref a2), some (.ref q1)] rfl (Nat.le_of_ble_eq_true rfl) rfl rfl ?_
      refine tw_iconst (k := 9) (1 : Int32) rfl (by decide) ?_
      exact tw_ireturn (k := 10) rfl rfl (by decide) (by decide)
    exact fun _ h => h.elim
def mL_mend : tw_MD := (yL_mend, cL_mend, 4, (some FieldType.int), [(0, .aload_n 2, 1, 1), (1, .iconst 0, 1, 2), (2, .aload_n 0, 1, 3), (3, .iload_n 1, 1, 4), (4, .invokevirtual 103, 3, 7), (7, .i2l, 1, 8), (8, .lastore, 1, 9), (9, .goto 6, 3, 12), (12, .astore_n 3, 1, 13), (13, .iconst 1, 1, 14), (14, .ireturn, 1, 15), (15, .iconst 0, 1, 16), (16, .ireturn, 1, 17)], [(0, 9, 12, 24)])
theorem mo_L_mend : tw_mok mL_mend 3 := ⟨plainFor_of_name (by decide +kernel), by decide +kernel, by decide +kernel, by decide +kernel, by decide +kernel⟩
theorem dk_L_mend : tw_dk mL_mend := by unfold tw_dk; decide +kernel
theorem wv_RL_103_X11_mend : tw_wV RL 103 mX11_mend := ⟨List.mem_of_getElem? (i := 1682) (by decide +kernel), List.mem_of_getElem? (i := 1683) (by decide +kernel), List.mem_of_getElem? (i := 1684) (by decide +kernel), List.mem_of_getElem? (i := 124) (by decide +kernel), List.mem_of_getElem? (i := 1685) (by decide +kernel)⟩
set_option maxRecDepth 20000 in
theorem K_L_mend {g : tw_Gx} (Q : tw_Rs → tw_Mem → Prop) (a0 : Nat) (a1 : Int32) (a2 : Nat) : tw_KtW g mL_mend 8 1 6 [.ref a0, .int a1, .ref a2] Q (f_L_mend a0 a1 a2 (fun v => Q (.inl (some (.int v))))) := by
  refine tw_mkKW (L := [some (.ref a0), some (.int a1), some (.ref a2), none]) (by decide +kernel) mo_L_mend dk_L_mend (Nat.le_of_ble_eq_true rfl) rfl ?_
  unfold f_L_mend
  refine tw_aload_n (k := 0) rfl rfl ?_
  refine tw_iconst (k := 1) (0 : Int32) rfl (by decide) ?_
  refine tw_aload_n (k := 2) rfl rfl ?_
  refine tw_iload_n (k := 3) rfl rfl ?_
  refine tw_callVX (k := 4) (d' := 7) (mc' := 1) (ms' := 6) tw_cI tw_cIi [.int a1] rfl rfl wv_RL_103_X11_mend mo_X11_mend (t := 10) rfl rfl rfl (fun Q9 => K_X11_mend Q9 a0 a1) (by omega) (by decide) (by decide) (Nat.le_of_ble_eq_true rfl) (fun x1 => ?_) (fun E => ?_)
  · refine tw_i2l (k := 5) rfl ?_
    refine tw_lastore (k := 6) rfl ?_
    refine tw_goto (k := 7) 15 rfl (by decide) ?_
    refine tw_iconst (k := 11) (0 : Int32) rfl (by decide) ?_
    exact tw_ireturn (k := 12) rfl rfl (by decide) (by decide)
  · refine tw_xcs (fun e9 => ?_) (fun _ => ?_)
    · subst e9
      refine tw_catch [] [] rfl (fun z hz => nomatch hz) (by decide) (by decide) (by decide) (by decide) kcl_RL_24_x kca_java_lang_IndexOutOfBoundsException (fun q1 => ?_)
      refine tw_ast_n (k := 8) [some (.ref a0), some (.int a1), some (.ref a2), some (.ref q1)] rfl (Nat.le_of_ble_eq_true rfl) rfl rfl ?_
      refine tw_iconst (k := 9) (1 : Int32) rfl (by decide) ?_
      exact tw_ireturn (k := 10) rfl rfl (by decide) (by decide)
    exact fun _ h => h.elim
def mL_secret : tw_MD := (yL_secret, cL_secret, 5, (some FieldType.int), [(0, .aload_n 3, 1, 1), (1, .iconst 0, 1, 2), (2, .aload_n 0, 1, 3), (3, .iload_n 1, 1, 4), (4, .iload_n 2, 1, 5), (5, .invokevirtual 106, 3, 8), (8, .i2l, 1, 9), (9, .lastore, 1, 10), (10, .goto 11, 3, 13), (13, .astore 4, 2, 15), (15, .iconst 1, 1, 16), (16, .ireturn, 1, 17), (17, .astore 4, 2, 19), (19, .iconst 2, 1, 20), (20, .ireturn, 1, 21), (21, .iconst 0, 1, 22), (22, .ireturn, 1, 23)], [(0, 10, 13, 24), (0, 10, 17, 13)])
theorem mo_L_secret : tw_mok mL_secret 4 := ⟨plainFor_of_name (by decide +kernel), by decide +kernel, by decide +kernel, by decide +kernel, by decide +kernel⟩
theorem dk_L_secret : tw_dk mL_secret := by unfold tw_dk; decide +kernel
theorem wv_RL_106_X11_secret : tw_wV RL 106 mX11_secret := ⟨List.mem_of_getElem? (i := 1694) (by decide +kernel), List.mem_of_getElem? (i := 1695) (by decide +kernel), List.mem_of_getElem? (i := 1696) (by decide +kernel), List.mem_of_getElem? (i := 124) (by decide +kernel), List.mem_of_getElem? (i := 1697) (by decide +kernel)⟩
set_option maxRecDepth 20000 in
theorem K_L_secret {g : tw_Gx} (Q : tw_Rs → tw_Mem → Prop) (a0 : Nat) (a1 : Int32) (a2 : Int32) (a3 : Nat) : tw_KtW g mL_secret 9 3 18 [.ref a0, .int a1, .int a2, .ref a3] Q (f_L_secret a0 a1 a2 a3 (fun v => Q (.inl (some (.int v))))) := by
  refine tw_mkKW (L := [some (.ref a0), some (.int a1), some (.int a2), some (.ref a3), none]) (by decide +kernel) mo_L_secret dk_L_secret (Nat.le_of_ble_eq_true rfl) rfl ?_
  unfold f_L_secret
  refine tw_aload_n (k := 0) rfl rfl ?_
  refine tw_iconst (k := 1) (0 : Int32) rfl (by decide) ?_
  refine tw_aload_n (k := 2) rfl rfl ?_
  refine tw_iload_n (k := 3) rfl rfl ?_
  refine tw_iload_n (k := 4) rfl rfl ?_
  refine tw_callVX (k := 5) (d' := 8) (mc' := 3) (ms' := 18) tw_cI tw_cIi [.int a1, .int a2] rfl rfl wv_RL_106_X11_secret mo_X11_secret (t := 10) rfl rfl rfl (fun Q9 => K_X11_secret Q9 a0 a1 a2) (by omega) (by decide) (by decide) (Nat.le_of_ble_eq_true rfl) (fun x1 => ?_) (fun E => ?_)
  · refine tw_i2l (k := 6) rfl ?_
    refine tw_lastore (k := 7) rfl ?_
    refine tw_goto (k := 8) 21 rfl (by decide) ?_
    refine tw_iconst (k := 15) (0 : Int32) rfl (by decide) ?_
    exact tw_ireturn (k := 16) rfl rfl (by decide) (by decide)
  · refine tw_xcs (fun e9 => ?_) (fun _ => ?_)
    · subst e9
      refine tw_catch [] [(0, 10, 17, 13)] rfl (fun z hz => nomatch hz) (by decide) (by decide) (by decide) (by decide) kcl_RL_24_x kca_java_lang_IndexOutOfBoundsException (fun q1 => ?_)
      refine tw_ast (k := 9) [some (.ref a0), some (.int a1), some (.int a2), some (.ref a3), some (.ref q1)] rfl (Nat.le_of_ble_eq_true rfl) rfl rfl ?_
      refine tw_iconst (k := 10) (1 : Int32) rfl (by decide) ?_
      exact tw_ireturn (k := 11) rfl rfl (by decide) (by decide)
    refine tw_xcs (fun e9 => ?_) (fun _ => ?_)
    · subst e9
      refine tw_catch [(0, 10, 13, 24)] [] rfl (fun z hz => by rw [List.mem_singleton.mp hz]; exact ⟨by decide, _, kcl_RL_24_x, by decide, by decide⟩) (by decide) (by decide) (by decide) (by decide) kcl_RL_13_x kca_java_lang_IllegalArgumentException (fun q2 => ?_)
      refine tw_ast (k := 12) [some (.ref a0), some (.int a1), some (.int a2), some (.ref a3), some (.ref q2)] rfl (Nat.le_of_ble_eq_true rfl) rfl rfl ?_
      refine tw_iconst (k := 13) (2 : Int32) rfl (by decide) ?_
      exact tw_ireturn (k := 14) rfl rfl (by decide) (by decide)
    exact fun _ h => h.elim
def mL_odds : tw_MD := (yL_odds, cL_odds, 7, (some FieldType.int), [(0, .aload 5, 2, 2), (2, .iconst 0, 1, 3), (3, .aload_n 0, 1, 4), (4, .iload_n 1, 1, 5), (5, .iload_n 2, 1, 6), (6, .iload_n 3, 1, 7), (7, .iload 4, 2, 9), (9, .invokevirtual 109, 3, 12), (12, .i2l, 1, 13), (13, .lastore, 1, 14), (14, .goto 11, 3, 17), (17, .astore 6, 2, 19), (19, .iconst 1, 1, 20), (20, .ireturn, 1, 21), (21, .astore 6, 2, 23), (23, .iconst 2, 1, 24), (24, .ireturn, 1, 25), (25, .iconst 0, 1, 26), (26, .ireturn, 1, 27)], [(0, 14, 17, 24), (0, 14, 21, 13)])
theorem mo_L_odds : tw_mok mL_odds 6 := ⟨plainFor_of_name (by decide +kernel), by decide +kernel, by decide +kernel, by decide +kernel, by decide +kernel⟩
theorem dk_L_odds : tw_dk mL_odds := by unfold tw_dk; decide +kernel
theorem wv_RL_109_X11_odds : tw_wV RL 109 mX11_odds := ⟨List.mem_of_getElem? (i := 1701) (by decide +kernel), List.mem_of_getElem? (i := 1702) (by decide +kernel), List.mem_of_getElem? (i := 1703) (by decide +kernel), List.mem_of_getElem? (i := 124) (by decide +kernel), List.mem_of_getElem? (i := 1704) (by decide +kernel)⟩
set_option maxRecDepth 20000 in
theorem K_L_odds {g : tw_Gx} (Q : tw_Rs → tw_Mem → Prop) (a0 : Nat) (a1 : Int32) (a2 : Int32) (a3 : Int32) (a4 : Int32) (a5 : Nat) : tw_KtW g mL_odds 9 5 30 [.ref a0, .int a1, .int a2, .int a3, .int a4, .ref a5] Q (f_L_odds a0 a1 a2 a3 a4 a5 (fun v => Q (.inl (some (.int v))))) := by
  refine tw_mkKW (L := [some (.ref a0), some (.int a1), some (.int a2), some (.int a3), some (.int a4), some (.ref a5), none]) (by decide +kernel) mo_L_odds dk_L_odds (Nat.le_of_ble_eq_true rfl) rfl ?_
  unfold f_L_odds
  refine tw_aload (k := 0) rfl rfl ?_
  refine tw_iconst (k := 1) (0 : Int32) rfl (by decide) ?_
  refine tw_aload_n (k := 2) rfl rfl ?_
  refine tw_iload_n (k := 3) rfl rfl ?_
  refine tw_iload_n (k := 4) rfl rfl ?_
  refine tw_iload_n (k := 5) rfl rfl ?_
  refine tw_iload (k := 6) rfl rfl ?_
  refine tw_callVX (k := 7) (d' := 8) (mc' := 5) (ms' := 30) tw_cI tw_cIi [.int a1, .int a2, .int a3, .int a4] rfl rfl wv_RL_109_X11_odds mo_X11_odds (t := 10) rfl rfl rfl (fun Q9 => K_X11_odds Q9 a0 a1 a2 a3 a4) (by omega) (by decide) (by decide) (Nat.le_of_ble_eq_true rfl) (fun x1 => ?_) (fun E => ?_)
  · refine tw_i2l (k := 8) rfl ?_
    refine tw_lastore (k := 9) rfl ?_
    refine tw_goto (k := 10) 25 rfl (by decide) ?_
    refine tw_iconst (k := 17) (0 : Int32) rfl (by decide) ?_
    exact tw_ireturn (k := 18) rfl rfl (by decide) (by decide)
  · refine tw_xcs (fun e9 => ?_) (fun _ => ?_)
    · subst e9
      refine tw_catch [] [(0, 14, 21, 13)] rfl (fun z hz => nomatch hz) (by decide) (by decide) (by decide) (by decide) kcl_RL_24_x kca_java_lang_IndexOutOfBoundsException (fun q1 => ?_)
      refine tw_ast (k := 11) [some (.ref a0), some (.int a1), some (.int a2), some (.int a3), some (.int a4), some (.ref a5), some (.ref q1)] rfl (Nat.le_of_ble_eq_true rfl) rfl rfl ?_
      refine tw_iconst (k := 12) (1 : Int32) rfl (by decide) ?_
      exact tw_ireturn (k := 13) rfl rfl (by decide) (by decide)
    refine tw_xcs (fun e9 => ?_) (fun _ => ?_)
    · subst e9
      refine tw_catch [(0, 14, 17, 24)] [] rfl (fun z hz => by rw [List.mem_singleton.mp hz]; exact ⟨by decide, _, kcl_RL_24_x, by decide, by decide⟩) (by decide) (by decide) (by decide) (by decide) kcl_RL_13_x kca_java_lang_IllegalArgumentException (fun q2 => ?_)
      refine tw_ast (k := 14) [some (.ref a0), some (.int a1), some (.int a2), some (.int a3), some (.int a4), some (.ref a5), some (.ref q2)] rfl (Nat.le_of_ble_eq_true rfl) rfl rfl ?_
      refine tw_iconst (k := 15) (2 : Int32) rfl (by decide) ?_
      exact tw_ireturn (k := 16) rfl rfl (by decide) (by decide)
    exact fun _ h => h.elim
def mL_rests : tw_MD := (yL_rests, cL_rests, 5, (some FieldType.int), [(0, .aload_n 3, 1, 1), (1, .iconst 0, 1, 2), (2, .aload_n 0, 1, 3), (3, .iload_n 1, 1, 4), (4, .iload_n 2, 1, 5), (5, .invokevirtual 113, 3, 8), (8, .i2l, 1, 9), (9, .lastore, 1, 10), (10, .goto 11, 3, 13), (13, .astore 4, 2, 15), (15, .iconst 1, 1, 16), (16, .ireturn, 1, 17), (17, .astore 4, 2, 19), (19, .iconst 2, 1, 20), (20, .ireturn, 1, 21), (21, .iconst 0, 1, 22), (22, .ireturn, 1, 23)], [(0, 10, 13, 24), (0, 10, 17, 13)])
theorem mo_L_rests : tw_mok mL_rests 4 := ⟨plainFor_of_name (by decide +kernel), by decide +kernel, by decide +kernel, by decide +kernel, by decide +kernel⟩
theorem dk_L_rests : tw_dk mL_rests := by unfold tw_dk; decide +kernel
theorem wv_RL_113_X11_rests : tw_wV RL 113 mX11_rests := ⟨List.mem_of_getElem? (i := 1719) (by decide +kernel), List.mem_of_getElem? (i := 1720) (by decide +kernel), List.mem_of_getElem? (i := 1721) (by decide +kernel), List.mem_of_getElem? (i := 124) (by decide +kernel), List.mem_of_getElem? (i := 1722) (by decide +kernel)⟩
set_option maxRecDepth 20000 in
theorem K_L_rests {g : tw_Gx} (Q : tw_Rs → tw_Mem → Prop) (a0 : Nat) (a1 : Int32) (a2 : Int32) (a3 : Nat) : tw_KtW g mL_rests 9 3 18 [.ref a0, .int a1, .int a2, .ref a3] Q (f_L_rests a0 a1 a2 a3 (fun v => Q (.inl (some (.int v))))) := by
  refine tw_mkKW (L := [some (.ref a0), some (.int a1), some (.int a2), some (.ref a3), none]) (by decide +kernel) mo_L_rests dk_L_rests (Nat.le_of_ble_eq_true rfl) rfl ?_
  unfold f_L_rests
  refine tw_aload_n (k := 0) rfl rfl ?_
  refine tw_iconst (k := 1) (0 : Int32) rfl (by decide) ?_
  refine tw_aload_n (k := 2) rfl rfl ?_
  refine tw_iload_n (k := 3) rfl rfl ?_
  refine tw_iload_n (k := 4) rfl rfl ?_
  refine tw_callVX (k := 5) (d' := 8) (mc' := 3) (ms' := 18) tw_cI tw_cIi [.int a1, .int a2] rfl rfl wv_RL_113_X11_rests mo_X11_rests (t := 10) rfl rfl rfl (fun Q9 => K_X11_rests Q9 a0 a1 a2) (by omega) (by decide) (by decide) (Nat.le_of_ble_eq_true rfl) (fun x1 => ?_) (fun E => ?_)
  · refine tw_i2l (k := 6) rfl ?_
    refine tw_lastore (k := 7) rfl ?_
    refine tw_goto (k := 8) 21 rfl (by decide) ?_
    refine tw_iconst (k := 15) (0 : Int32) rfl (by decide) ?_
    exact tw_ireturn (k := 16) rfl rfl (by decide) (by decide)
  · refine tw_xcs (fun e9 => ?_) (fun _ => ?_)
    · subst e9
      refine tw_catch [] [(0, 10, 17, 13)] rfl (fun z hz => nomatch hz) (by decide) (by decide) (by decide) (by decide) kcl_RL_24_x kca_java_lang_IndexOutOfBoundsException (fun q1 => ?_)
      refine tw_ast (k := 9) [some (.ref a0), some (.int a1), some (.int a2), some (.ref a3), some (.ref q1)] rfl (Nat.le_of_ble_eq_true rfl) rfl rfl ?_
      refine tw_iconst (k := 10) (1 : Int32) rfl (by decide) ?_
      exact tw_ireturn (k := 11) rfl rfl (by decide) (by decide)
    refine tw_xcs (fun e9 => ?_) (fun _ => ?_)
    · subst e9
      refine tw_catch [(0, 10, 13, 24)] [] rfl (fun z hz => by rw [List.mem_singleton.mp hz]; exact ⟨by decide, _, kcl_RL_24_x, by decide, by decide⟩) (by decide) (by decide) (by decide) (by decide) kcl_RL_13_x kca_java_lang_IllegalArgumentException (fun q2 => ?_)
      refine tw_ast (k := 12) [some (.ref a0), some (.int a1), some (.int a2), some (.ref a3), some (.ref q2)] rfl (Nat.le_of_ble_eq_true rfl) rfl rfl ?_
      refine tw_iconst (k := 13) (2 : Int32) rfl (by decide) ?_
      exact tw_ireturn (k := 14) rfl rfl (by decide) (by decide)
    exact fun _ h => h.elim
def mL_ahead : tw_MD := (yL_ahead, cL_ahead, 6, (some FieldType.int), [(0, .aload 4, 2, 2), (2, .iconst 0, 1, 3), (3, .aload_n 0, 1, 4), (4, .iload_n 1, 1, 5), (5, .iload_n 2, 1, 6), (6, .iload_n 3, 1, 7), (7, .invokevirtual 116, 3, 10), (10, .i2l, 1, 11), (11, .lastore, 1, 12), (12, .goto 11, 3, 15), (15, .astore 5, 2, 17), (17, .iconst 1, 1, 18), (18, .ireturn, 1, 19), (19, .astore 5, 2, 21), (21, .iconst 2, 1, 22), (22, .ireturn, 1, 23), (23, .iconst 0, 1, 24), (24, .ireturn, 1, 25)], [(0, 12, 15, 24), (0, 12, 19, 13)])
theorem mo_L_ahead : tw_mok mL_ahead 5 := ⟨plainFor_of_name (by decide +kernel), by decide +kernel, by decide +kernel, by decide +kernel, by decide +kernel⟩
theorem dk_L_ahead : tw_dk mL_ahead := by unfold tw_dk; decide +kernel
theorem wv_RL_116_X11_ahead : tw_wV RL 116 mX11_ahead := ⟨List.mem_of_getElem? (i := 1734) (by decide +kernel), List.mem_of_getElem? (i := 1735) (by decide +kernel), List.mem_of_getElem? (i := 1736) (by decide +kernel), List.mem_of_getElem? (i := 124) (by decide +kernel), List.mem_of_getElem? (i := 1737) (by decide +kernel)⟩
set_option maxRecDepth 20000 in
theorem K_L_ahead {g : tw_Gx} (Q : tw_Rs → tw_Mem → Prop) (a0 : Nat) (a1 : Int32) (a2 : Int32) (a3 : Int32) (a4 : Nat) : tw_KtW g mL_ahead 9 4 24 [.ref a0, .int a1, .int a2, .int a3, .ref a4] Q (f_L_ahead a0 a1 a2 a3 a4 (fun v => Q (.inl (some (.int v))))) := by
  refine tw_mkKW (L := [some (.ref a0), some (.int a1), some (.int a2), some (.int a3), some (.ref a4), none]) (by decide +kernel) mo_L_ahead dk_L_ahead (Nat.le_of_ble_eq_true rfl) rfl ?_
  unfold f_L_ahead
  refine tw_aload (k := 0) rfl rfl ?_
  refine tw_iconst (k := 1) (0 : Int32) rfl (by decide) ?_
  refine tw_aload_n (k := 2) rfl rfl ?_
  refine tw_iload_n (k := 3) rfl rfl ?_
  refine tw_iload_n (k := 4) rfl rfl ?_
  refine tw_iload_n (k := 5) rfl rfl ?_
  refine tw_callVX (k := 6) (d' := 8) (mc' := 4) (ms' := 24) tw_cI tw_cIi [.int a1, .int a2, .int a3] rfl rfl wv_RL_116_X11_ahead mo_X11_ahead (t := 10) rfl rfl rfl (fun Q9 => K_X11_ahead Q9 a0 a1 a2 a3) (by omega) (by decide) (by decide) (Nat.le_of_ble_eq_true rfl) (fun x1 => ?_) (fun E => ?_)
  · refine tw_i2l (k := 7) rfl ?_
    refine tw_lastore (k := 8) rfl ?_
    refine tw_goto (k := 9) 23 rfl (by decide) ?_
    refine tw_iconst (k := 16) (0 : Int32) rfl (by decide) ?_
    exact tw_ireturn (k := 17) rfl rfl (by decide) (by decide)
  · refine tw_xcs (fun e9 => ?_) (fun _ => ?_)
    · subst e9
      refine tw_catch [] [(0, 12, 19, 13)] rfl (fun z hz => nomatch hz) (by decide) (by decide) (by decide) (by decide) kcl_RL_24_x kca_java_lang_IndexOutOfBoundsException (fun q1 => ?_)
      refine tw_ast (k := 10) [some (.ref a0), some (.int a1), some (.int a2), some (.int a3), some (.ref a4), some (.ref q1)] rfl (Nat.le_of_ble_eq_true rfl) rfl rfl ?_
      refine tw_iconst (k := 11) (1 : Int32) rfl (by decide) ?_
      exact tw_ireturn (k := 12) rfl rfl (by decide) (by decide)
    refine tw_xcs (fun e9 => ?_) (fun _ => ?_)
    · subst e9
      refine tw_catch [(0, 12, 15, 24)] [] rfl (fun z hz => by rw [List.mem_singleton.mp hz]; exact ⟨by decide, _, kcl_RL_24_x, by decide, by decide⟩) (by decide) (by decide) (by decide) (by decide) kcl_RL_13_x kca_java_lang_IllegalArgumentException (fun q2 => ?_)
      refine tw_ast (k := 13) [some (.ref a0), some (.int a1), some (.int a2), some (.int a3), some (.ref a4), some (.ref q2)] rfl (Nat.le_of_ble_eq_true rfl) rfl rfl ?_
      refine tw_iconst (k := 14) (2 : Int32) rfl (by decide) ?_
      exact tw_ireturn (k := 15) rfl rfl (by decide) (by decide)
    exact fun _ h => h.elim
def mL_trial : tw_MD := (yL_trial, cL_trial, 5, (some FieldType.int), [(0, .aload_n 3, 1, 1), (1, .iconst 0, 1, 2), (2, .aload_n 0, 1, 3), (3, .iload_n 1, 1, 4), (4, .iload_n 2, 1, 5), (5, .invokevirtual 119, 3, 8), (8, .i2l, 1, 9), (9, .lastore, 1, 10), (10, .goto 7, 3, 13), (13, .astore 4, 2, 15), (15, .iconst 1, 1, 16), (16, .ireturn, 1, 17), (17, .iconst 0, 1, 18), (18, .ireturn, 1, 19)], [(0, 10, 13, 13)])
theorem mo_L_trial : tw_mok mL_trial 4 := ⟨plainFor_of_name (by decide +kernel), by decide +kernel, by decide +kernel, by decide +kernel, by decide +kernel⟩
theorem dk_L_trial : tw_dk mL_trial := by unfold tw_dk; decide +kernel
theorem wv_RL_119_X11_trial : tw_wV RL 119 mX11_trial := ⟨List.mem_of_getElem? (i := 1741) (by decide +kernel), List.mem_of_getElem? (i := 1742) (by decide +kernel), List.mem_of_getElem? (i := 1743) (by decide +kernel), List.mem_of_getElem? (i := 124) (by decide +kernel), List.mem_of_getElem? (i := 1744) (by decide +kernel)⟩
set_option maxRecDepth 20000 in
theorem K_L_trial {g : tw_Gx} (Q : tw_Rs → tw_Mem → Prop) (a0 : Nat) (a1 : Int32) (a2 : Int32) (a3 : Nat) : tw_KtW g mL_trial 9 1 6 [.ref a0, .int a1, .int a2, .ref a3] Q (f_L_trial a0 a1 a2 a3 (fun v => Q (.inl (some (.int v))))) := by
  refine tw_mkKW (L := [some (.ref a0), some (.int a1), some (.int a2), some (.ref a3), none]) (by decide +kernel) mo_L_trial dk_L_trial (Nat.le_of_ble_eq_true rfl) rfl ?_
  unfold f_L_trial
  refine tw_aload_n (k := 0) rfl rfl ?_
  refine tw_iconst (k := 1) (0 : Int32) rfl (by decide) ?_
  refine tw_aload_n (k := 2) rfl rfl ?_
  refine tw_iload_n (k := 3) rfl rfl ?_
  refine tw_iload_n (k := 4) rfl rfl ?_
  refine tw_callVX (k := 5) (d' := 8) (mc' := 1) (ms' := 6) tw_cI tw_cIi [.int a1, .int a2] rfl rfl wv_RL_119_X11_trial mo_X11_trial (t := 10) rfl rfl rfl (fun Q9 => K_X11_trial Q9 a0 a1 a2) (by omega) (by decide) (by decide) (Nat.le_of_ble_eq_true rfl) (fun x1 => ?_) (fun E => ?_)
  · refine tw_i2l (k := 6) rfl ?_
    refine tw_lastore (k := 7) rfl ?_
    refine tw_goto (k := 8) 17 rfl (by decide) ?_
    refine tw_iconst (k := 12) (0 : Int32) rfl (by decide) ?_
    exact tw_ireturn (k := 13) rfl rfl (by decide) (by decide)
  · refine tw_xcs (fun e9 => ?_) (fun _ => ?_)
    · subst e9
      refine tw_catch [] [] rfl (fun z hz => nomatch hz) (by decide) (by decide) (by decide) (by decide) kcl_RL_13_x kca_java_lang_IllegalArgumentException (fun q1 => ?_)
      refine tw_ast (k := 9) [some (.ref a0), some (.int a1), some (.int a2), some (.ref a3), some (.ref q1)] rfl (Nat.le_of_ble_eq_true rfl) rfl rfl ?_
      refine tw_iconst (k := 10) (1 : Int32) rfl (by decide) ?_
      exact tw_ireturn (k := 11) rfl rfl (by decide) (by decide)
    exact fun _ h => h.elim
def mL_span : tw_MD := (yL_span, cL_span, 5, (some FieldType.int), [(0, .aload_n 3, 1, 1), (1, .iconst 0, 1, 2), (2, .aload_n 0, 1, 3), (3, .iload_n 1, 1, 4), (4, .iload_n 2, 1, 5), (5, .invokevirtual 123, 3, 8), (8, .i2l, 1, 9), (9, .lastore, 1, 10), (10, .goto 7, 3, 13), (13, .astore 4, 2, 15), (15, .iconst 1, 1, 16), (16, .ireturn, 1, 17), (17, .iconst 0, 1, 18), (18, .ireturn, 1, 19)], [(0, 10, 13, 13)])
theorem mo_L_span : tw_mok mL_span 4 := ⟨plainFor_of_name (by decide +kernel), by decide +kernel, by decide +kernel, by decide +kernel, by decide +kernel⟩
theorem dk_L_span : tw_dk mL_span := by unfold tw_dk; decide +kernel
theorem wv_RL_123_X11_span : tw_wV RL 123 mX11_span := ⟨List.mem_of_getElem? (i := 1748) (by decide +kernel), List.mem_of_getElem? (i := 1749) (by decide +kernel), List.mem_of_getElem? (i := 1750) (by decide +kernel), List.mem_of_getElem? (i := 124) (by decide +kernel), List.mem_of_getElem? (i := 1751) (by decide +kernel)⟩
set_option maxRecDepth 20000 in
theorem K_L_span {g : tw_Gx} (Q : tw_Rs → tw_Mem → Prop) (a0 : Nat) (a1 : Int32) (a2 : Int32) (a3 : Nat) : tw_KtW g mL_span 9 1 6 [.ref a0, .int a1, .int a2, .ref a3] Q (f_L_span a0 a1 a2 a3 (fun v => Q (.inl (some (.int v))))) := by
  refine tw_mkKW (L := [some (.ref a0), some (.int a1), some (.int a2), some (.ref a3), none]) (by decide +kernel) mo_L_span dk_L_span (Nat.le_of_ble_eq_true rfl) rfl ?_
  unfold f_L_span
  refine tw_aload_n (k := 0) rfl rfl ?_
  refine tw_iconst (k := 1) (0 : Int32) rfl (by decide) ?_
  refine tw_aload_n (k := 2) rfl rfl ?_
  refine tw_iload_n (k := 3) rfl rfl ?_
  refine tw_iload_n (k := 4) rfl rfl ?_
  refine tw_callVX (k := 5) (d' := 8) (mc' := 1) (ms' := 6) tw_cI tw_cIi [.int a1, .int a2] rfl rfl wv_RL_123_X11_span mo_X11_span (t := 10) rfl rfl rfl (fun Q9 => K_X11_span Q9 a0 a1 a2) (by omega) (by decide) (by decide) (Nat.le_of_ble_eq_true rfl) (fun x1 => ?_) (fun E => ?_)
  · refine tw_i2l (k := 6) rfl ?_
    refine tw_lastore (k := 7) rfl ?_
    refine tw_goto (k := 8) 17 rfl (by decide) ?_
    refine tw_iconst (k := 12) (0 : Int32) rfl (by decide) ?_
    exact tw_ireturn (k := 13) rfl rfl (by decide) (by decide)
  · refine tw_xcs (fun e9 => ?_) (fun _ => ?_)
    · subst e9
      refine tw_catch [] [] rfl (fun z hz => nomatch hz) (by decide) (by decide) (by decide) (by decide) kcl_RL_13_x kca_java_lang_IllegalArgumentException (fun q1 => ?_)
      refine tw_ast (k := 9) [some (.ref a0), some (.int a1), some (.int a2), some (.ref a3), some (.ref q1)] rfl (Nat.le_of_ble_eq_true rfl) rfl rfl ?_
      refine tw_iconst (k := 10) (1 : Int32) rfl (by decide) ?_
      exact tw_ireturn (k := 11) rfl rfl (by decide) (by decide)
    exact fun _ h => h.elim
def mL_led : tw_MD := (yL_led, cL_led, 5, (some FieldType.int), [(0, .aload_n 3, 1, 1), (1, .iconst 0, 1, 2), (2, .aload_n 0, 1, 3), (3, .iload_n 1, 1, 4), (4, .iload_n 2, 1, 5), (5, .invokevirtual 126, 3, 8), (8, .i2l, 1, 9), (9, .lastore, 1, 10), (10, .goto 7, 3, 13), (13, .astore 4, 2, 15), (15, .iconst 1, 1, 16), (16, .ireturn, 1, 17), (17, .iconst 0, 1, 18), (18, .ireturn, 1, 19)], [(0, 10, 13, 24)])
theorem mo_L_led : tw_mok mL_led 4 := ⟨plainFor_of_name (by decide +kernel), by decide +kernel, by decide +kernel, by decide +kernel, by decide +kernel⟩
theorem dk_L_led : tw_dk mL_led := by unfold tw_dk; decide +kernel
theorem wv_RL_126_X11_led : tw_wV RL 126 mX11_led := ⟨List.mem_of_getElem? (i := 1755) (by decide +kernel), List.mem_of_getElem? (i := 1756) (by decide +kernel), List.mem_of_getElem? (i := 1757) (by decide +kernel), List.mem_of_getElem? (i := 124) (by decide +kernel), List.mem_of_getElem? (i := 1758) (by decide +kernel)⟩
set_option maxRecDepth 20000 in
theorem K_L_led {g : tw_Gx} (Q : tw_Rs → tw_Mem → Prop) (a0 : Nat) (a1 : Int32) (a2 : Int32) (a3 : Nat) : tw_KtW g mL_led 8 1 6 [.ref a0, .int a1, .int a2, .ref a3] Q (f_L_led a0 a1 a2 a3 (fun v => Q (.inl (some (.int v))))) := by
  refine tw_mkKW (L := [some (.ref a0), some (.int a1), some (.int a2), some (.ref a3), none]) (by decide +kernel) mo_L_led dk_L_led (Nat.le_of_ble_eq_true rfl) rfl ?_
  unfold f_L_led
  refine tw_aload_n (k := 0) rfl rfl ?_
  refine tw_iconst (k := 1) (0 : Int32) rfl (by decide) ?_
  refine tw_aload_n (k := 2) rfl rfl ?_
  refine tw_iload_n (k := 3) rfl rfl ?_
  refine tw_iload_n (k := 4) rfl rfl ?_
  refine tw_callVX (k := 5) (d' := 7) (mc' := 1) (ms' := 6) tw_cI tw_cIi [.int a1, .int a2] rfl rfl wv_RL_126_X11_led mo_X11_led (t := 10) rfl rfl rfl (fun Q9 => K_X11_led Q9 a0 a1 a2) (by omega) (by decide) (by decide) (Nat.le_of_ble_eq_true rfl) (fun x1 => ?_) (fun E => ?_)
  · refine tw_i2l (k := 6) rfl ?_
    refine tw_lastore (k := 7) rfl ?_
    refine tw_goto (k := 8) 17 rfl (by decide) ?_
    refine tw_iconst (k := 12) (0 : Int32) rfl (by decide) ?_
    exact tw_ireturn (k := 13) rfl rfl (by decide) (by decide)
  · refine tw_xcs (fun e9 => ?_) (fun _ => ?_)
    · subst e9
      refine tw_catch [] [] rfl (fun z hz => nomatch hz) (by decide) (by decide) (by decide) (by decide) kcl_RL_24_x kca_java_lang_IndexOutOfBoundsException (fun q1 => ?_)
      refine tw_ast (k := 9) [some (.ref a0), some (.int a1), some (.int a2), some (.ref a3), some (.ref q1)] rfl (Nat.le_of_ble_eq_true rfl) rfl rfl ?_
      refine tw_iconst (k := 10) (1 : Int32) rfl (by decide) ?_
      exact tw_ireturn (k := 11) rfl rfl (by decide) (by decide)
    exact fun _ h => h.elim
def mL_log : tw_MD := (yL_log, cL_log, 5, (some FieldType.int), [(0, .aload_n 3, 1, 1), (1, .iconst 0, 1, 2), (2, .aload_n 0, 1, 3), (3, .iload_n 1, 1, 4), (4, .iload_n 2, 1, 5), (5, .invokevirtual 129, 3, 8), (8, .i2l, 1, 9), (9, .lastore, 1, 10), (10, .goto 7, 3, 13), (13, .astore 4, 2, 15), (15, .iconst 1, 1, 16), (16, .ireturn, 1, 17), (17, .iconst 0, 1, 18), (18, .ireturn, 1, 19)], [(0, 10, 13, 26)])
theorem mo_L_log : tw_mok mL_log 4 := ⟨plainFor_of_name (by decide +kernel), by decide +kernel, by decide +kernel, by decide +kernel, by decide +kernel⟩
theorem dk_L_log : tw_dk mL_log := by unfold tw_dk; decide +kernel
theorem wv_RL_129_X11_log : tw_wV RL 129 mX11_log := ⟨List.mem_of_getElem? (i := 1770) (by decide +kernel), List.mem_of_getElem? (i := 1771) (by decide +kernel), List.mem_of_getElem? (i := 1772) (by decide +kernel), List.mem_of_getElem? (i := 124) (by decide +kernel), List.mem_of_getElem? (i := 1773) (by decide +kernel)⟩
set_option maxRecDepth 20000 in
theorem K_L_log {g : tw_Gx} (Q : tw_Rs → tw_Mem → Prop) (a0 : Nat) (a1 : Int32) (a2 : Int32) (a3 : Nat) : tw_KtW g mL_log 7 1 6 [.ref a0, .int a1, .int a2, .ref a3] Q (f_L_log a0 a1 a2 a3 (fun v => Q (.inl (some (.int v))))) := by
  refine tw_mkKW (L := [some (.ref a0), some (.int a1), some (.int a2), some (.ref a3), none]) (by decide +kernel) mo_L_log dk_L_log (Nat.le_of_ble_eq_true rfl) rfl ?_
  unfold f_L_log
  refine tw_aload_n (k := 0) rfl rfl ?_
  refine tw_iconst (k := 1) (0 : Int32) rfl (by decide) ?_
  refine tw_aload_n (k := 2) rfl rfl ?_
  refine tw_iload_n (k := 3) rfl rfl ?_
  refine tw_iload_n (k := 4) rfl rfl ?_
  refine tw_callVX (k := 5) (d' := 6) (mc' := 1) (ms' := 6) tw_cI tw_cIi [.int a1, .int a2] rfl rfl wv_RL_129_X11_log mo_X11_log (t := 10) rfl rfl rfl (fun Q9 => K_X11_log Q9 a0 a1 a2) (by omega) (by decide) (by decide) (Nat.le_of_ble_eq_true rfl) (fun x1 => ?_) (fun E => ?_)
  · refine tw_i2l (k := 6) rfl ?_
    refine tw_lastore (k := 7) rfl ?_
    refine tw_goto (k := 8) 17 rfl (by decide) ?_
    refine tw_iconst (k := 12) (0 : Int32) rfl (by decide) ?_
    exact tw_ireturn (k := 13) rfl rfl (by decide) (by decide)
  · refine tw_xcs (fun e9 => ?_) (fun _ => ?_)
    · subst e9
      refine tw_catch [] [] rfl (fun z hz => nomatch hz) (by decide) (by decide) (by decide) (by decide) kcl_RL_26_x kca_java_util_NoSuchElementException (fun q1 => ?_)
      refine tw_ast (k := 9) [some (.ref a0), some (.int a1), some (.int a2), some (.ref a3), some (.ref q1)] rfl (Nat.le_of_ble_eq_true rfl) rfl rfl ?_
      refine tw_iconst (k := 10) (1 : Int32) rfl (by decide) ?_
      exact tw_ireturn (k := 11) rfl rfl (by decide) (by decide)
    exact fun _ h => h.elim
