set_option maxHeartbeats 4000000 in
set_option maxRecDepth 100000 in
theorem C_Lc21 {g : tw_Gx} {Q : tw_Rs → tw_Mem → Prop} (a0 b1 b3 b5 : Nat) (s7 : Int32) (hP7 : s7.toNatClampNeg ≤ 3072) (j10 : Unit → tw_Mem → Prop) (g10 : ∀ z : Unit, tw_C g mL_law_ 1300 601024 7293034 Q 2993 [some (.ref a0), some (.ref b1), some (.ref b3), some (.ref b5), some (.int s7), none, none] [] (182 + s7.toNatClampNeg + 6) (20125 + 300 * s7.toNatClampNeg + 1626) (j10 z)) : tw_C g mL_law_ 1300 601024 7293034 Q 1562 [some (.ref a0), some (.ref b1), some (.ref b3), some (.ref b5), some (.int s7), none, none] [] (182 + s7.toNatClampNeg + 0) (20125 + 300 * s7.toNatClampNeg + 0) (f_Lc21 a0 b1 b3 b5 s7 j10 (fun v => Q (.inl (some (.int v))))) := by
  have g10 := fun z => tw_Ctab (r' := (tw_tb mLc21)) dk_L_law_ (g10 z)
  change ∀ z : Unit, tw_C g mLc21 _ _ _ _ _ _ _ _ _ _ at g10
  refine tw_Ctab (r := (tw_tb mLc21)) dk_Lc21 ?_
  show tw_C g mLc21 _ _ _ _ _ _ _ _ _ _
  unfold f_Lc21
  refine tw_aload_n (k := 0) rfl rfl ?_
  refine tw_aload_n (k := 1) rfl rfl ?_
  refine tw_iload (k := 2) rfl rfl ?_
  refine tw_iconst (k := 3) (1 : Int32) rfl (by decide) ?_
  refine tw_iadd (k := 4) rfl ?_
  refine tw_iaload (k := 5) rfl (fun x204 => ?_)
  refine tw_aload_n (k := 6) rfl rfl ?_
  refine tw_callSW (k := 7) (d' := 9) (mc' := 1) (ms' := 6) tw_cI tw_cIi [.ref b1, .int x204, .ref b5] rfl rfl wx_RL_214_L_chimes mo_L_chimes rfl (fun Q9 => K_L_chimes Q9 b1 x204 b5) (by omega) (by omega) (by omega) (Nat.le_of_ble_eq_true rfl) (fun x205 => ?_)
  refine tw_ist (k := 8) [some (.ref a0), some (.ref b1), some (.ref b3), some (.ref b5), some (.int s7), some (.int x205), none] rfl (Nat.le_of_ble_eq_true rfl) rfl rfl ?_
  refine tw_aload_n (k := 9) rfl rfl ?_
  refine tw_aload_n (k := 10) rfl rfl ?_
  refine tw_iload (k := 11) rfl rfl ?_
  refine tw_iconst (k := 12) (1 : Int32) rfl (by decide) ?_
  refine tw_iadd (k := 13) rfl ?_
  refine tw_iaload (k := 14) rfl (fun x206 => ?_)
  refine tw_callV (k := 15) (d' := 13) (mc' := 0) (ms' := 0) tw_cI tw_cIi [.int x206] rfl rfl wv_RL_216_X12_chimes mo_X12_chimes (t := 11) rfl rfl rfl (fun Q9 => K_X12_chimes Q9 b3 x206) (by omega) (by omega) (by omega) (Nat.le_of_ble_eq_true rfl) (fun x207 => ?_)
  refine tw_ist (k := 16) [some (.ref a0), some (.ref b1), some (.ref b3), some (.ref b5), some (.int s7), some (.int x205), some (.int x207)] rfl (Nat.le_of_ble_eq_true rfl) rfl rfl ?_
  refine tw_aload_n (k := 17) rfl rfl ?_
  refine tw_callV (k := 18) (d' := 1) (mc' := 0) (ms' := 0) tw_cI tw_cIi [] rfl rfl wv_RL_152_X12_thrown mo_X12_thrown (t := 11) rfl rfl rfl (fun Q9 => K_X12_thrown Q9 b3) (by omega) (by omega) (by omega) (Nat.le_of_ble_eq_true rfl) (fun x208 => ?_)
  refine tw_iload (k := 19) rfl rfl ?_
  refine tw_icmp_eq (k := 20) 1598 rfl (by decide) ?_ ?_
  · refine tw_iload (k := 23) rfl rfl ?_
    refine tw_join 1615 (fun s210 => [some (.ref a0), some (.ref b1), some (.ref b3), some (.ref b5), some (.int s7), some (.int x205), some (.int x207)]) (fun s210 => []) (182 + s7.toNatClampNeg + 1) (20125 + 300 * s7.toNatClampNeg + 6) (fun s210 => ?_) (fun j209 g209 => ?_)
    · refine tw_goto (k := 34) 2993 rfl (by decide) ?_
      refine tw_wide (k2 := (182 + s7.toNatClampNeg + 6)) (s2 := (20125 + 300 * s7.toNatClampNeg + 1626)) (by omega) (by omega) ?_
      exact tw_wk (L' := [some (.ref a0), some (.ref b1), some (.ref b3), some (.ref b5), some (.int s7), none, none]) ⟨Or.inr rfl, Or.inr rfl, Or.inr rfl, Or.inr rfl, Or.inr rfl, Or.inl rfl, Or.inl rfl, trivial⟩ (g10 ())
    · refine tw_if_ne (k := 24) 1615 rfl (by decide) ?_ ?_
      · exact g209 ()
      · refine tw_aload_n (k := 25) rfl rfl ?_
        refine tw_iconst (k := 26) (0 : Int32) rfl (by decide) ?_
        refine tw_laload (k := 27) rfl (fun x211 => ?_)
        refine tw_iload (k := 28) rfl rfl ?_
        refine tw_i2l (k := 29) rfl ?_
        refine tw_lcmp (k := 30) rfl ?_
        refine tw_if_eq (k := 31) 1615 rfl (by decide) ?_ ?_
        · exact g209 ()
        · refine tw_iconst (k := 32) (0 : Int32) rfl (by decide) ?_
          exact tw_zreturn (k := 33) rfl rfl (by omega) (by omega)
  · refine tw_iconst (k := 21) (0 : Int32) rfl (by decide) ?_
    exact tw_zreturn (k := 22) rfl rfl (by omega) (by omega)
set_option maxHeartbeats 4000000 in
set_option maxRecDepth 100000 in
theorem C_Lc22 {g : tw_Gx} {Q : tw_Rs → tw_Mem → Prop} (a0 b1 b3 b5 : Nat) (s7 : Int32) (hP7 : s7.toNatClampNeg ≤ 3072) (j10 : Unit → tw_Mem → Prop) (g10 : ∀ z : Unit, tw_C g mL_law_ 1300 601024 7293034 Q 2993 [some (.ref a0), some (.ref b1), some (.ref b3), some (.ref b5), some (.int s7), none, none] [] (182 + s7.toNatClampNeg + 6) (20125 + 300 * s7.toNatClampNeg + 1626) (j10 z)) : tw_C g mL_law_ 1300 601024 7293034 Q 1618 [some (.ref a0), some (.ref b1), some (.ref b3), some (.ref b5), some (.int s7), none, none] [] (182 + s7.toNatClampNeg + 0) (20125 + 300 * s7.toNatClampNeg + 0) (f_Lc22 a0 b1 b3 b5 s7 j10 (fun v => Q (.inl (some (.int v))))) := by
  have g10 := fun z => tw_Ctab (r' := (tw_tb mLc22)) dk_L_law_ (g10 z)
  change ∀ z : Unit, tw_C g mLc22 _ _ _ _ _ _ _ _ _ _ at g10
  refine tw_Ctab (r := (tw_tb mLc22)) dk_Lc22 ?_
  show tw_C g mLc22 _ _ _ _ _ _ _ _ _ _
  unfold f_Lc22
  refine tw_aload_n (k := 0) rfl rfl ?_
  refine tw_aload_n (k := 1) rfl rfl ?_
  refine tw_iload (k := 2) rfl rfl ?_
  refine tw_iconst (k := 3) (1 : Int32) rfl (by decide) ?_
  refine tw_iadd (k := 4) rfl ?_
  refine tw_iaload (k := 5) rfl (fun x212 => ?_)
  refine tw_aload_n (k := 6) rfl rfl ?_
  refine tw_iload (k := 7) rfl rfl ?_
  refine tw_iconst (k := 8) (2 : Int32) rfl (by decide) ?_
  refine tw_iadd (k := 9) rfl ?_
  refine tw_iaload (k := 10) rfl (fun x213 => ?_)
  refine tw_aload_n (k := 11) rfl rfl ?_
  refine tw_callSW (k := 12) (d' := 9) (mc' := 3) (ms' := 18) tw_cI tw_cIi [.ref b1, .int x212, .int x213, .ref b5] rfl rfl wx_RL_217_L_lasts mo_L_lasts rfl (fun Q9 => K_L_lasts Q9 b1 x212 x213 b5) (by omega) (by omega) (by omega) (Nat.le_of_ble_eq_true rfl) (fun x214 => ?_)
  refine tw_ist (k := 13) [some (.ref a0), some (.ref b1), some (.ref b3), some (.ref b5), some (.int s7), some (.int x214), none] rfl (Nat.le_of_ble_eq_true rfl) rfl rfl ?_
  refine tw_aload_n (k := 14) rfl rfl ?_
  refine tw_aload_n (k := 15) rfl rfl ?_
  refine tw_iload (k := 16) rfl rfl ?_
  refine tw_iconst (k := 17) (1 : Int32) rfl (by decide) ?_
  refine tw_iadd (k := 18) rfl ?_
  refine tw_iaload (k := 19) rfl (fun x215 => ?_)
  refine tw_aload_n (k := 20) rfl rfl ?_
  refine tw_iload (k := 21) rfl rfl ?_
  refine tw_iconst (k := 22) (2 : Int32) rfl (by decide) ?_
  refine tw_iadd (k := 23) rfl ?_
  refine tw_iaload (k := 24) rfl (fun x216 => ?_)
  refine tw_callV (k := 25) (d' := 12) (mc' := 0) (ms' := 0) tw_cI tw_cIi [.int x215, .int x216] rfl rfl wv_RL_219_X12_lasts mo_X12_lasts (t := 11) rfl rfl rfl (fun Q9 => K_X12_lasts Q9 b3 x215 x216) (by omega) (by omega) (by omega) (Nat.le_of_ble_eq_true rfl) (fun x217 => ?_)
  refine tw_ist (k := 26) [some (.ref a0), some (.ref b1), some (.ref b3), some (.ref b5), some (.int s7), some (.int x214), some (.int x217)] rfl (Nat.le_of_ble_eq_true rfl) rfl rfl ?_
  refine tw_aload_n (k := 27) rfl rfl ?_
  refine tw_callV (k := 28) (d' := 1) (mc' := 0) (ms' := 0) tw_cI tw_cIi [] rfl rfl wv_RL_152_X12_thrown mo_X12_thrown (t := 11) rfl rfl rfl (fun Q9 => K_X12_thrown Q9 b3) (by omega) (by omega) (by omega) (Nat.le_of_ble_eq_true rfl) (fun x218 => ?_)
  refine tw_iload (k := 29) rfl rfl ?_
  refine tw_icmp_eq (k := 30) 1666 rfl (by decide) ?_ ?_
  · refine tw_iload (k := 33) rfl rfl ?_
    refine tw_join 1683 (fun s220 => [some (.ref a0), some (.ref b1), some (.ref b3), some (.ref b5), some (.int s7), some (.int x214), some (.int x217)]) (fun s220 => []) (182 + s7.toNatClampNeg + 3) (20125 + 300 * s7.toNatClampNeg + 18) (fun s220 => ?_) (fun j219 g219 => ?_)
    · refine tw_goto (k := 44) 2993 rfl (by decide) ?_
      refine tw_wide (k2 := (182 + s7.toNatClampNeg + 6)) (s2 := (20125 + 300 * s7.toNatClampNeg + 1626)) (by omega) (by omega) ?_
      exact tw_wk (L' := [some (.ref a0), some (.ref b1), some (.ref b3), some (.ref b5), some (.int s7), none, none]) ⟨Or.inr rfl, Or.inr rfl, Or.inr rfl, Or.inr rfl, Or.inr rfl, Or.inl rfl, Or.inl rfl, trivial⟩ (g10 ())
    · refine tw_if_ne (k := 34) 1683 rfl (by decide) ?_ ?_
      · exact g219 ()
      · refine tw_aload_n (k := 35) rfl rfl ?_
        refine tw_iconst (k := 36) (0 : Int32) rfl (by decide) ?_
        refine tw_laload (k := 37) rfl (fun x221 => ?_)
        refine tw_iload (k := 38) rfl rfl ?_
        refine tw_i2l (k := 39) rfl ?_
        refine tw_lcmp (k := 40) rfl ?_
        refine tw_if_eq (k := 41) 1683 rfl (by decide) ?_ ?_
        · exact g219 ()
        · refine tw_iconst (k := 42) (0 : Int32) rfl (by decide) ?_
          exact tw_zreturn (k := 43) rfl rfl (by omega) (by omega)
  · refine tw_iconst (k := 31) (0 : Int32) rfl (by decide) ?_
    exact tw_zreturn (k := 32) rfl rfl (by omega) (by omega)
set_option maxHeartbeats 4000000 in
set_option maxRecDepth 100000 in
theorem C_Lc23 {g : tw_Gx} {Q : tw_Rs → tw_Mem → Prop} (a0 b1 b3 b5 : Nat) (s7 : Int32) (hP7 : s7.toNatClampNeg ≤ 3072) (j10 : Unit → tw_Mem → Prop) (g10 : ∀ z : Unit, tw_C g mL_law_ 1300 601024 7293034 Q 2993 [some (.ref a0), some (.ref b1), some (.ref b3), some (.ref b5), some (.int s7), none, none] [] (182 + s7.toNatClampNeg + 6) (20125 + 300 * s7.toNatClampNeg + 1626) (j10 z)) : tw_C g mL_law_ 1300 601024 7293034 Q 1686 [some (.ref a0), some (.ref b1), some (.ref b3), some (.ref b5), some (.int s7), none, none] [] (182 + s7.toNatClampNeg + 0) (20125 + 300 * s7.toNatClampNeg + 0) (f_Lc23 a0 b1 b3 b5 s7 j10 (fun v => Q (.inl (some (.int v))))) := by
  have g10 := fun z => tw_Ctab (r' := (tw_tb mLc23)) dk_L_law_ (g10 z)
  change ∀ z : Unit, tw_C g mLc23 _ _ _ _ _ _ _ _ _ _ at g10
  refine tw_Ctab (r := (tw_tb mLc23)) dk_Lc23 ?_
  show tw_C g mLc23 _ _ _ _ _ _ _ _ _ _
  unfold f_Lc23
  refine tw_aload_n (k := 0) rfl rfl ?_
  refine tw_callV (k := 1) (d' := 8) (mc' := 0) (ms' := 0) tw_cI tw_cIi [] rfl rfl wv_RL_220_X11_longest mo_X11_longest (t := 10) rfl rfl rfl (fun Q9 => K_X11_longest Q9 b1) (by omega) (by omega) (by omega) (Nat.le_of_ble_eq_true rfl) (fun x222 => ?_)
  refine tw_aload_n (k := 2) rfl rfl ?_
  refine tw_callV (k := 3) (d' := 12) (mc' := 0) (ms' := 0) tw_cI tw_cIi [] rfl rfl wv_RL_223_X12_longest mo_X12_longest (t := 11) rfl rfl rfl (fun Q9 => K_X12_longest Q9 b3) (by omega) (by omega) (by omega) (Nat.le_of_ble_eq_true rfl) (fun x223 => ?_)
  refine tw_icmp_eq (k := 4) 2993 rfl (by decide) ?_ ?_
  · refine tw_wide (k2 := (182 + s7.toNatClampNeg + 6)) (s2 := (20125 + 300 * s7.toNatClampNeg + 1626)) (by omega) (by omega) ?_
    exact g10 ()
  · refine tw_iconst (k := 5) (0 : Int32) rfl (by decide) ?_
    exact tw_zreturn (k := 6) rfl rfl (by omega) (by omega)
set_option maxHeartbeats 4000000 in
set_option maxRecDepth 100000 in
theorem C_Lc24 {g : tw_Gx} {Q : tw_Rs → tw_Mem → Prop} (a0 b1 b3 b5 : Nat) (s7 : Int32) (hP7 : s7.toNatClampNeg ≤ 3072) (j10 : Unit → tw_Mem → Prop) (g10 : ∀ z : Unit, tw_C g mL_law_ 1300 601024 7293034 Q 2993 [some (.ref a0), some (.ref b1), some (.ref b3), some (.ref b5), some (.int s7), none, none] [] (182 + s7.toNatClampNeg + 6) (20125 + 300 * s7.toNatClampNeg + 1626) (j10 z)) : tw_C g mL_law_ 1300 601024 7293034 Q 1699 [some (.ref a0), some (.ref b1), some (.ref b3), some (.ref b5), some (.int s7), none, none] [] (182 + s7.toNatClampNeg + 0) (20125 + 300 * s7.toNatClampNeg + 0) (f_Lc24 a0 b1 b3 b5 s7 j10 (fun v => Q (.inl (some (.int v))))) := by
  have g10 := fun z => tw_Ctab (r' := (tw_tb mLc24)) dk_L_law_ (g10 z)
  change ∀ z : Unit, tw_C g mLc24 _ _ _ _ _ _ _ _ _ _ at g10
  refine tw_Ctab (r := (tw_tb mLc24)) dk_Lc24 ?_
  show tw_C g mLc24 _ _ _ _ _ _ _ _ _ _
  unfold f_Lc24
  refine tw_aload_n (k := 0) rfl rfl ?_
  refine tw_aload_n (k := 1) rfl rfl ?_
  refine tw_iload (k := 2) rfl rfl ?_
  refine tw_iconst (k := 3) (1 : Int32) rfl (by decide) ?_
  refine tw_iadd (k := 4) rfl ?_
  refine tw_iaload (k := 5) rfl (fun x224 => ?_)
  refine tw_aload_n (k := 6) rfl rfl ?_
  refine tw_callSW (k := 7) (d' := 9) (mc' := 1) (ms' := 6) tw_cI tw_cIi [.ref b1, .int x224, .ref b5] rfl rfl wx_RL_224_L_teams mo_L_teams rfl (fun Q9 => K_L_teams Q9 b1 x224 b5) (by omega) (by omega) (by omega) (Nat.le_of_ble_eq_true rfl) (fun x225 => ?_)
  refine tw_ist (k := 8) [some (.ref a0), some (.ref b1), some (.ref b3), some (.ref b5), some (.int s7), some (.int x225), none] rfl (Nat.le_of_ble_eq_true rfl) rfl rfl ?_
  refine tw_aload_n (k := 9) rfl rfl ?_
  refine tw_aload_n (k := 10) rfl rfl ?_
  refine tw_iload (k := 11) rfl rfl ?_
  refine tw_iconst (k := 12) (1 : Int32) rfl (by decide) ?_
  refine tw_iadd (k := 13) rfl ?_
  refine tw_iaload (k := 14) rfl (fun x226 => ?_)
  refine tw_callV (k := 15) (d' := 13) (mc' := 0) (ms' := 0) tw_cI tw_cIi [.int x226] rfl rfl wv_RL_226_X12_teams mo_X12_teams (t := 11) rfl rfl rfl (fun Q9 => K_X12_teams Q9 b3 x226) (by omega) (by omega) (by omega) (Nat.le_of_ble_eq_true rfl) (fun x227 => ?_)
  refine tw_ist (k := 16) [some (.ref a0), some (.ref b1), some (.ref b3), some (.ref b5), some (.int s7), some (.int x225), some (.int x227)] rfl (Nat.le_of_ble_eq_true rfl) rfl rfl ?_
  refine tw_aload_n (k := 17) rfl rfl ?_
  refine tw_callV (k := 18) (d' := 1) (mc' := 0) (ms' := 0) tw_cI tw_cIi [] rfl rfl wv_RL_152_X12_thrown mo_X12_thrown (t := 11) rfl rfl rfl (fun Q9 => K_X12_thrown Q9 b3) (by omega) (by omega) (by omega) (Nat.le_of_ble_eq_true rfl) (fun x228 => ?_)
  refine tw_iload (k := 19) rfl rfl ?_
  refine tw_icmp_eq (k := 20) 1735 rfl (by decide) ?_ ?_
  · refine tw_iload (k := 23) rfl rfl ?_
    refine tw_join 1752 (fun s230 => [some (.ref a0), some (.ref b1), some (.ref b3), some (.ref b5), some (.int s7), some (.int x225), some (.int x227)]) (fun s230 => []) (182 + s7.toNatClampNeg + 1) (20125 + 300 * s7.toNatClampNeg + 6) (fun s230 => ?_) (fun j229 g229 => ?_)
    · refine tw_goto (k := 34) 2993 rfl (by decide) ?_
      refine tw_wide (k2 := (182 + s7.toNatClampNeg + 6)) (s2 := (20125 + 300 * s7.toNatClampNeg + 1626)) (by omega) (by omega) ?_
      exact tw_wk (L' := [some (.ref a0), some (.ref b1), some (.ref b3), some (.ref b5), some (.int s7), none, none]) ⟨Or.inr rfl, Or.inr rfl, Or.inr rfl, Or.inr rfl, Or.inr rfl, Or.inl rfl, Or.inl rfl, trivial⟩ (g10 ())
    · refine tw_if_ne (k := 24) 1752 rfl (by decide) ?_ ?_
      · exact g229 ()
      · refine tw_aload_n (k := 25) rfl rfl ?_
        refine tw_iconst (k := 26) (0 : Int32) rfl (by decide) ?_
        refine tw_laload (k := 27) rfl (fun x231 => ?_)
        refine tw_iload (k := 28) rfl rfl ?_
        refine tw_i2l (k := 29) rfl ?_
        refine tw_lcmp (k := 30) rfl ?_
        refine tw_if_eq (k := 31) 1752 rfl (by decide) ?_ ?_
        · exact g229 ()
        · refine tw_iconst (k := 32) (0 : Int32) rfl (by decide) ?_
          exact tw_zreturn (k := 33) rfl rfl (by omega) (by omega)
  · refine tw_iconst (k := 21) (0 : Int32) rfl (by decide) ?_
    exact tw_zreturn (k := 22) rfl rfl (by omega) (by omega)
set_option maxHeartbeats 4000000 in
set_option maxRecDepth 100000 in
theorem C_Lc25 {g : tw_Gx} {Q : tw_Rs → tw_Mem → Prop} (a0 b1 b3 b5 : Nat) (s7 : Int32) (hP7 : s7.toNatClampNeg ≤ 3072) (j10 : Unit → tw_Mem → Prop) (g10 : ∀ z : Unit, tw_C g mL_law_ 1300 601024 7293034 Q 2993 [some (.ref a0), some (.ref b1), some (.ref b3), some (.ref b5), some (.int s7), none, none] [] (182 + s7.toNatClampNeg + 6) (20125 + 300 * s7.toNatClampNeg + 1626) (j10 z)) : tw_C g mL_law_ 1300 601024 7293034 Q 1755 [some (.ref a0), some (.ref b1), some (.ref b3), some (.ref b5), some (.int s7), none, none] [] (182 + s7.toNatClampNeg + 0) (20125 + 300 * s7.toNatClampNeg + 0) (f_Lc25 a0 b1 b3 b5 s7 j10 (fun v => Q (.inl (some (.int v))))) := by
  have g10 := fun z => tw_Ctab (r' := (tw_tb mLc25)) dk_L_law_ (g10 z)
  change ∀ z : Unit, tw_C g mLc25 _ _ _ _ _ _ _ _ _ _ at g10
  refine tw_Ctab (r := (tw_tb mLc25)) dk_Lc25 ?_
  show tw_C g mLc25 _ _ _ _ _ _ _ _ _ _
  unfold f_Lc25
  refine tw_aload_n (k := 0) rfl rfl ?_
  refine tw_callV (k := 1) (d' := 4) (mc' := 0) (ms' := 0) tw_cI tw_cIi [] rfl rfl wv_RL_227_X11_fresh mo_X11_fresh (t := 10) rfl rfl rfl (fun Q9 => K_X11_fresh Q9 b1) (by omega) (by omega) (by omega) (Nat.le_of_ble_eq_true rfl) (fun x232 => ?_)
  refine tw_aload_n (k := 2) rfl rfl ?_
  refine tw_callV (k := 3) (d' := 4) (mc' := 0) (ms' := 0) tw_cI tw_cIi [] rfl rfl wv_RL_230_X12_fresh mo_X12_fresh (t := 11) rfl rfl rfl (fun Q9 => K_X12_fresh Q9 b3) (by omega) (by omega) (by omega) (Nat.le_of_ble_eq_true rfl) (fun x233 => ?_)
  refine tw_icmp_eq (k := 4) 2993 rfl (by decide) ?_ ?_
  · refine tw_wide (k2 := (182 + s7.toNatClampNeg + 6)) (s2 := (20125 + 300 * s7.toNatClampNeg + 1626)) (by omega) (by omega) ?_
    exact g10 ()
  · refine tw_iconst (k := 5) (0 : Int32) rfl (by decide) ?_
    exact tw_zreturn (k := 6) rfl rfl (by omega) (by omega)
set_option maxHeartbeats 4000000 in
set_option maxRecDepth 100000 in
theorem C_Lc26 {g : tw_Gx} {Q : tw_Rs → tw_Mem → Prop} (a0 b1 b3 b5 : Nat) (s7 : Int32) (hP7 : s7.toNatClampNeg ≤ 3072) (j10 : Unit → tw_Mem → Prop) (g10 : ∀ z : Unit, tw_C g mL_law_ 1300 601024 7293034 Q 2993 [some (.ref a0), some (.ref b1), some (.ref b3), some (.ref b5), some (.int s7), none, none] [] (182 + s7.toNatClampNeg + 6) (20125 + 300 * s7.toNatClampNeg + 1626) (j10 z)) : tw_C g mL_law_ 1300 601024 7293034 Q 1768 [some (.ref a0), some (.ref b1), some (.ref b3), some (.ref b5), some (.int s7), none, none] [] (182 + s7.toNatClampNeg + 0) (20125 + 300 * s7.toNatClampNeg + 0) (f_Lc26 a0 b1 b3 b5 s7 j10 (fun v => Q (.inl (some (.int v))))) := by
  have g10 := fun z => tw_Ctab (r' := (tw_tb mLc26)) dk_L_law_ (g10 z)
  change ∀ z : Unit, tw_C g mLc26 _ _ _ _ _ _ _ _ _ _ at g10
  refine tw_Ctab (r := (tw_tb mLc26)) dk_Lc26 ?_
  show tw_C g mLc26 _ _ _ _ _ _ _ _ _ _
  unfold f_Lc26
  refine tw_aload_n (k := 0) rfl rfl ?_
  refine tw_callV (k := 1) (d' := 5) (mc' := 0) (ms' := 0) tw_cI tw_cIi [] rfl rfl wv_RL_231_X11_crowd mo_X11_crowd (t := 10) rfl rfl rfl (fun Q9 => K_X11_crowd Q9 b1) (by omega) (by omega) (by omega) (Nat.le_of_ble_eq_true rfl) (fun x234 => ?_)
  refine tw_aload_n (k := 2) rfl rfl ?_
  refine tw_callV (k := 3) (d' := 6) (mc' := 0) (ms' := 0) tw_cI tw_cIi [] rfl rfl wv_RL_234_X12_crowd mo_X12_crowd (t := 11) rfl rfl rfl (fun Q9 => K_X12_crowd Q9 b3) (by omega) (by omega) (by omega) (Nat.le_of_ble_eq_true rfl) (fun x235 => ?_)
  refine tw_icmp_eq (k := 4) 2993 rfl (by decide) ?_ ?_
  · refine tw_wide (k2 := (182 + s7.toNatClampNeg + 6)) (s2 := (20125 + 300 * s7.toNatClampNeg + 1626)) (by omega) (by omega) ?_
    exact g10 ()
  · refine tw_iconst (k := 5) (0 : Int32) rfl (by decide) ?_
    exact tw_zreturn (k := 6) rfl rfl (by omega) (by omega)

set_option maxHeartbeats 4000000 in
set_option maxRecDepth 100000 in
theorem C_Lc27 {g : tw_Gx} {Q : tw_Rs → tw_Mem → Prop} (a0 b1 b3 b5 : Nat) (s7 : Int32) (hP7 : s7.toNatClampNeg ≤ 3072) (j10 : Unit → tw_Mem → Prop) (g10 : ∀ z : Unit, tw_C g mL_law_ 1300 601024 7293034 Q 2993 [some (.ref a0), some (.ref b1), some (.ref b3), some (.ref b5), some (.int s7), none, none] [] (182 + s7.toNatClampNeg + 6) (20125 + 300 * s7.toNatClampNeg + 1626) (j10 z)) : tw_C g mL_law_ 1300 601024 7293034 Q 1781 [some (.ref a0), some (.ref b1), some (.ref b3), some (.ref b5), some (.int s7), none, none] [] (182 + s7.toNatClampNeg + 0) (20125 + 300 * s7.toNatClampNeg + 0) (f_Lc27 a0 b1 b3 b5 s7 j10 (fun v => Q (.inl (some (.int v))))) := by
  have g10 := fun z => tw_Ctab (r' := (tw_tb mLc27)) dk_L_law_ (g10 z)
  change ∀ z : Unit, tw_C g mLc27 _ _ _ _ _ _ _ _ _ _ at g10
  refine tw_Ctab (r := (tw_tb mLc27)) dk_Lc27 ?_
  show tw_C g mLc27 _ _ _ _ _ _ _ _ _ _
  unfold f_Lc27
  refine tw_aload_n (k := 0) rfl rfl ?_
  refine tw_callV (k := 1) (d' := 5) (mc' := 0) (ms' := 0) tw_cI tw_cIi [] rfl rfl wv_RL_235_X11_go mo_X11_go (t := 10) rfl rfl rfl (fun Q9 => K_X11_go Q9 b1) (by omega) (by omega) (by omega) (Nat.le_of_ble_eq_true rfl) (fun x236 => ?_)
  refine tw_aload_n (k := 2) rfl rfl ?_
  refine tw_callV (k := 3) (d' := 6) (mc' := 0) (ms' := 0) tw_cI tw_cIi [] rfl rfl wv_RL_238_X12_go mo_X12_go (t := 11) rfl rfl rfl (fun Q9 => K_X12_go Q9 b3) (by omega) (by omega) (by omega) (Nat.le_of_ble_eq_true rfl) (fun x237 => ?_)
  refine tw_icmp_eq (k := 4) 2993 rfl (by decide) ?_ ?_
  · refine tw_wide (k2 := (182 + s7.toNatClampNeg + 6)) (s2 := (20125 + 300 * s7.toNatClampNeg + 1626)) (by omega) (by omega) ?_
    exact g10 ()
  · refine tw_iconst (k := 5) (0 : Int32) rfl (by decide) ?_
    exact tw_zreturn (k := 6) rfl rfl (by omega) (by omega)
