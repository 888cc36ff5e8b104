set_option maxHeartbeats 4000000 in
set_option maxRecDepth 100000 in
theorem C_Lc0 {g : tw_Gx} {Q : tw_Rs → tw_Mem → Prop} (a0 b1 b3 b5 : Nat) (s7 : Int32) (hP7 : s7.toNatClampNeg ≤ 3072) (j10 : Unit → tw_Mem → Prop) (g10 : ∀ z : Unit, tw_C g mL_law_ 1300 601024 7293034 Q 2993 [some (.ref a0), some (.ref b1), some (.ref b3), some (.ref b5), some (.int s7), none, none] [] (182 + s7.toNatClampNeg + 6) (20125 + 300 * s7.toNatClampNeg + 1626) (j10 z)) : tw_C g mL_law_ 1300 601024 7293034 Q 276 [some (.ref a0), some (.ref b1), some (.ref b3), some (.ref b5), some (.int s7), none, none] [] (182 + s7.toNatClampNeg + 0) (20125 + 300 * s7.toNatClampNeg + 0) (f_Lc0 a0 b1 b3 b5 s7 j10 (fun v => Q (.inl (some (.int v))))) := by
  have g10 := fun z => tw_Ctab (r' := (tw_tb mLc0)) dk_L_law_ (g10 z)
  change ∀ z : Unit, tw_C g mLc0 _ _ _ _ _ _ _ _ _ _ at g10
  refine tw_Ctab (r := (tw_tb mLc0)) dk_Lc0 ?_
  show tw_C g mLc0 _ _ _ _ _ _ _ _ _ _
  unfold f_Lc0
  refine tw_aload_n (k := 0) rfl rfl ?_
  refine tw_aload_n (k := 1) rfl rfl ?_
  refine tw_iload (k := 2) rfl rfl ?_
  refine tw_iconst (k := 3) (1 : Int32) rfl (by decide) ?_
  refine tw_iadd (k := 4) rfl ?_
  refine tw_iaload (k := 5) rfl (fun x12 => ?_)
  refine tw_aload_n (k := 6) rfl rfl ?_
  refine tw_iload (k := 7) rfl rfl ?_
  refine tw_iconst (k := 8) (2 : Int32) rfl (by decide) ?_
  refine tw_iadd (k := 9) rfl ?_
  refine tw_iaload (k := 10) rfl (fun x13 => ?_)
  refine tw_aload_n (k := 11) rfl rfl ?_
  refine tw_iload (k := 12) rfl rfl ?_
  refine tw_iconst (k := 13) (3 : Int32) rfl (by decide) ?_
  refine tw_iadd (k := 14) rfl ?_
  refine tw_iaload (k := 15) rfl (fun x14 => ?_)
  refine tw_aload_n (k := 16) rfl rfl ?_
  refine tw_iload (k := 17) rfl rfl ?_
  refine tw_iconst (k := 18) (4 : Int32) rfl (by decide) ?_
  refine tw_iadd (k := 19) rfl ?_
  refine tw_iaload (k := 20) rfl (fun x15 => ?_)
  refine tw_aload_n (k := 21) rfl rfl ?_
  refine tw_iload (k := 22) rfl rfl ?_
  refine tw_iconst (k := 23) (5 : Int32) rfl (by decide) ?_
  refine tw_iadd (k := 24) rfl ?_
  refine tw_iaload (k := 25) rfl (fun x16 => ?_)
  refine tw_callV (k := 26) (d' := 2) (mc' := 0) (ms' := 0) tw_cI tw_cIi [.int x12, .int x13, .int x14, .int x15, .int x16] rfl rfl wv_RL_136_X11_feed mo_X11_feed (t := 10) rfl rfl rfl (fun Q9 => K_X11_feed Q9 b1 x12 x13 x14 x15 x16) (by omega) (by omega) (by omega) (Nat.le_of_ble_eq_true rfl) (fun x17 => ?_)
  refine tw_aload_n (k := 27) rfl rfl ?_
  refine tw_aload_n (k := 28) rfl rfl ?_
  refine tw_iload (k := 29) rfl rfl ?_
  refine tw_iconst (k := 30) (1 : Int32) rfl (by decide) ?_
  refine tw_iadd (k := 31) rfl ?_
  refine tw_iaload (k := 32) rfl (fun x18 => ?_)
  refine tw_aload_n (k := 33) rfl rfl ?_
  refine tw_iload (k := 34) rfl rfl ?_
  refine tw_iconst (k := 35) (2 : Int32) rfl (by decide) ?_
  refine tw_iadd (k := 36) rfl ?_
  refine tw_iaload (k := 37) rfl (fun x19 => ?_)
  refine tw_aload_n (k := 38) rfl rfl ?_
  refine tw_iload (k := 39) rfl rfl ?_
  refine tw_iconst (k := 40) (3 : Int32) rfl (by decide) ?_
  refine tw_iadd (k := 41) rfl ?_
  refine tw_iaload (k := 42) rfl (fun x20 => ?_)
  refine tw_aload_n (k := 43) rfl rfl ?_
  refine tw_iload (k := 44) rfl rfl ?_
  refine tw_iconst (k := 45) (4 : Int32) rfl (by decide) ?_
  refine tw_iadd (k := 46) rfl ?_
  refine tw_iaload (k := 47) rfl (fun x21 => ?_)
  refine tw_aload_n (k := 48) rfl rfl ?_
  refine tw_iload (k := 49) rfl rfl ?_
  refine tw_iconst (k := 50) (5 : Int32) rfl (by decide) ?_
  refine tw_iadd (k := 51) rfl ?_
  refine tw_iaload (k := 52) rfl (fun x22 => ?_)
  refine tw_callV (k := 53) (d' := 1) (mc' := 0) (ms' := 0) tw_cI tw_cIi [.int x18, .int x19, .int x20, .int x21, .int x22] rfl rfl wv_RL_140_X12_feed mo_X12_feed (t := 11) rfl rfl rfl (fun Q9 => K_X12_feed Q9 b3 x18 x19 x20 x21 x22) (by omega) (by omega) (by omega) (Nat.le_of_ble_eq_true rfl) (fun x23 => ?_)
  refine tw_icmp_eq (k := 54) 2993 rfl (by decide) ?_ ?_
  · refine tw_wide (k2 := (182 + s7.toNatClampNeg + 6)) (s2 := (20125 + 300 * s7.toNatClampNeg + 1626)) (by omega) (by omega) ?_
    exact g10 ()
  · refine tw_iconst (k := 55) (0 : Int32) rfl (by decide) ?_
    exact tw_zreturn (k := 56) rfl rfl (by omega) (by omega)
set_option maxHeartbeats 4000000 in
set_option maxRecDepth 100000 in
theorem C_Lc1 {g : tw_Gx} {Q : tw_Rs → tw_Mem → Prop} (a0 b1 b3 b5 : Nat) (s7 : Int32) (hP7 : s7.toNatClampNeg ≤ 3072) (j10 : Unit → tw_Mem → Prop) (g10 : ∀ z : Unit, tw_C g mL_law_ 1300 601024 7293034 Q 2993 [some (.ref a0), some (.ref b1), some (.ref b3), some (.ref b5), some (.int s7), none, none] [] (182 + s7.toNatClampNeg + 6) (20125 + 300 * s7.toNatClampNeg + 1626) (j10 z)) : tw_C g mL_law_ 1300 601024 7293034 Q 349 [some (.ref a0), some (.ref b1), some (.ref b3), some (.ref b5), some (.int s7), none, none] [] (182 + s7.toNatClampNeg + 0) (20125 + 300 * s7.toNatClampNeg + 0) (f_Lc1 a0 b1 b3 b5 s7 j10 (fun v => Q (.inl (some (.int v))))) := by
  have g10 := fun z => tw_Ctab (r' := (tw_tb mLc1)) dk_L_law_ (g10 z)
  change ∀ z : Unit, tw_C g mLc1 _ _ _ _ _ _ _ _ _ _ at g10
  refine tw_Ctab (r := (tw_tb mLc1)) dk_Lc1 ?_
  show tw_C g mLc1 _ _ _ _ _ _ _ _ _ _
  unfold f_Lc1
  refine tw_aload_n (k := 0) rfl rfl ?_
  refine tw_aload_n (k := 1) rfl rfl ?_
  refine tw_iload (k := 2) rfl rfl ?_
  refine tw_iconst (k := 3) (1 : Int32) rfl (by decide) ?_
  refine tw_iadd (k := 4) rfl ?_
  refine tw_iaload (k := 5) rfl (fun x24 => ?_)
  refine tw_callV (k := 6) (d' := 2) (mc' := 0) (ms' := 0) tw_cI tw_cIi [.int x24] rfl rfl wv_RL_141_X11_end mo_X11_end (t := 10) rfl rfl rfl (fun Q9 => K_X11_end Q9 b1 x24) (by omega) (by omega) (by omega) (Nat.le_of_ble_eq_true rfl) (fun x25 => ?_)
  refine tw_aload_n (k := 7) rfl rfl ?_
  refine tw_aload_n (k := 8) rfl rfl ?_
  refine tw_iload (k := 9) rfl rfl ?_
  refine tw_iconst (k := 10) (1 : Int32) rfl (by decide) ?_
  refine tw_iadd (k := 11) rfl ?_
  refine tw_iaload (k := 12) rfl (fun x26 => ?_)
  refine tw_callV (k := 13) (d' := 1) (mc' := 0) (ms' := 0) tw_cI tw_cIi [.int x26] rfl rfl wv_RL_145_X12_end mo_X12_end (t := 11) rfl rfl rfl (fun Q9 => K_X12_end Q9 b3 x26) (by omega) (by omega) (by omega) (Nat.le_of_ble_eq_true rfl) (fun x27 => ?_)
  refine tw_icmp_eq (k := 14) 2993 rfl (by decide) ?_ ?_
  · refine tw_wide (k2 := (182 + s7.toNatClampNeg + 6)) (s2 := (20125 + 300 * s7.toNatClampNeg + 1626)) (by omega) (by omega) ?_
    exact g10 ()
  · refine tw_iconst (k := 15) (0 : Int32) rfl (by decide) ?_
    exact tw_zreturn (k := 16) rfl rfl (by omega) (by omega)
set_option maxHeartbeats 4000000 in
set_option maxRecDepth 100000 in
theorem C_Lc2 {g : tw_Gx} {Q : tw_Rs → tw_Mem → Prop} (a0 b1 b3 b5 : Nat) (s7 : Int32) (hP7 : s7.toNatClampNeg ≤ 3072) (j10 : Unit → tw_Mem → Prop) (g10 : ∀ z : Unit, tw_C g mL_law_ 1300 601024 7293034 Q 2993 [some (.ref a0), some (.ref b1), some (.ref b3), some (.ref b5), some (.int s7), none, none] [] (182 + s7.toNatClampNeg + 6) (20125 + 300 * s7.toNatClampNeg + 1626) (j10 z)) : tw_C g mL_law_ 1300 601024 7293034 Q 374 [some (.ref a0), some (.ref b1), some (.ref b3), some (.ref b5), some (.int s7), none, none] [] (182 + s7.toNatClampNeg + 0) (20125 + 300 * s7.toNatClampNeg + 0) (f_Lc2 g a0 b1 b3 b5 s7 j10 (fun v => Q (.inl (some (.int v))))) := by
  have g10 := fun z => tw_Ctab (r' := (tw_tb mLc2)) dk_L_law_ (g10 z)
  change ∀ z : Unit, tw_C g mLc2 _ _ _ _ _ _ _ _ _ _ at g10
  refine tw_Ctab (r := (tw_tb mLc2)) dk_Lc2 ?_
  show tw_C g mLc2 _ _ _ _ _ _ _ _ _ _
  unfold f_Lc2
  refine tw_aload_n (k := 0) rfl rfl ?_
  refine tw_aload_n (k := 1) rfl rfl ?_
  refine tw_callSW (k := 2) (d' := 10) (mc' := 1) (ms' := 6) tw_cI tw_cIi [.ref b1, .ref b5] rfl rfl wx_RL_146_L_town mo_L_town rfl (fun Q9 => K_L_town Q9 b1 b5) (by omega) (by omega) (by omega) (Nat.le_of_ble_eq_true rfl) (fun x28 => ?_)
  refine tw_ist (k := 3) [some (.ref a0), some (.ref b1), some (.ref b3), some (.ref b5), some (.int s7), some (.int x28), none] rfl (Nat.le_of_ble_eq_true rfl) rfl rfl ?_
  refine tw_aload_n (k := 4) rfl rfl ?_
  refine tw_callV (k := 5) (d' := 84) (mc' := 0) (ms' := 0) tw_cI tw_cIi [] rfl rfl wv_RL_151_X12_town mo_X12_town (t := 11) rfl rfl rfl (fun Q9 => K_X12_town Q9 b3) (by omega) (by omega) (by omega) (Nat.le_of_ble_eq_true rfl) (fun x29 => ?_)
  refine tw_ist (k := 6) [some (.ref a0), some (.ref b1), some (.ref b3), some (.ref b5), some (.int s7), some (.int x28), some (.int x29)] rfl (Nat.le_of_ble_eq_true rfl) rfl rfl ?_
  refine tw_aload_n (k := 7) rfl rfl ?_
  refine tw_callV (k := 8) (d' := 1) (mc' := 0) (ms' := 0) tw_cI tw_cIi [] rfl rfl wv_RL_152_X12_thrown mo_X12_thrown (t := 11) rfl rfl rfl (fun Q9 => K_X12_thrown Q9 b3) (by omega) (by omega) (by omega) (Nat.le_of_ble_eq_true rfl) (fun x30 => ?_)
  refine tw_iload (k := 9) rfl rfl ?_
  refine tw_icmp_eq (k := 10) 398 rfl (by decide) ?_ ?_
  · refine tw_iload (k := 13) rfl rfl ?_
    refine tw_join 415 (fun s32 => [some (.ref a0), some (.ref b1), some (.ref b3), some (.ref b5), some (.int s7), some (.int x28), some (.int x29)]) (fun s32 => []) (182 + s7.toNatClampNeg + 1) (20125 + 300 * s7.toNatClampNeg + 6) (fun s32 => ?_) (fun j31 g31 => ?_)
    · refine tw_goto (k := 24) 2993 rfl (by decide) ?_
      refine tw_wide (k2 := (182 + s7.toNatClampNeg + 6)) (s2 := (20125 + 300 * s7.toNatClampNeg + 1626)) (by omega) (by omega) ?_
      exact tw_wk (L' := [some (.ref a0), some (.ref b1), some (.ref b3), some (.ref b5), some (.int s7), none, none]) ⟨Or.inr rfl, Or.inr rfl, Or.inr rfl, Or.inr rfl, Or.inr rfl, Or.inl rfl, Or.inl rfl, trivial⟩ (g10 ())
    · refine tw_if_ne (k := 14) 415 rfl (by decide) ?_ ?_
      · exact g31 ()
      · refine tw_aload_n (k := 15) rfl rfl ?_
        refine tw_iconst (k := 16) (0 : Int32) rfl (by decide) ?_
        refine tw_laload (k := 17) rfl (fun x33 => ?_)
        refine tw_iload (k := 18) rfl rfl ?_
        refine tw_i2l (k := 19) rfl ?_
        refine tw_lcmp (k := 20) rfl ?_
        refine tw_if_eq (k := 21) 415 rfl (by decide) ?_ ?_
        · exact g31 ()
        · refine tw_iconst (k := 22) (0 : Int32) rfl (by decide) ?_
          exact tw_zreturn (k := 23) rfl rfl (by omega) (by omega)
  · refine tw_iconst (k := 11) (0 : Int32) rfl (by decide) ?_
    exact tw_zreturn (k := 12) rfl rfl (by omega) (by omega)
set_option maxHeartbeats 4000000 in
set_option maxRecDepth 100000 in
theorem C_Lc3 {g : tw_Gx} {Q : tw_Rs → tw_Mem → Prop} (a0 b1 b3 b5 : Nat) (s7 : Int32) (hP7 : s7.toNatClampNeg ≤ 3072) (j10 : Unit → tw_Mem → Prop) (g10 : ∀ z : Unit, tw_C g mL_law_ 1300 601024 7293034 Q 2993 [some (.ref a0), some (.ref b1), some (.ref b3), some (.ref b5), some (.int s7), none, none] [] (182 + s7.toNatClampNeg + 6) (20125 + 300 * s7.toNatClampNeg + 1626) (j10 z)) : tw_C g mL_law_ 1300 601024 7293034 Q 418 [some (.ref a0), some (.ref b1), some (.ref b3), some (.ref b5), some (.int s7), none, none] [] (182 + s7.toNatClampNeg + 0) (20125 + 300 * s7.toNatClampNeg + 0) (f_Lc3 g a0 b1 b3 b5 s7 j10 (fun v => Q (.inl (some (.int v))))) := by
  have g10 := fun z => tw_Ctab (r' := (tw_tb mLc3)) dk_L_law_ (g10 z)
  change ∀ z : Unit, tw_C g mLc3 _ _ _ _ _ _ _ _ _ _ at g10
  refine tw_Ctab (r := (tw_tb mLc3)) dk_Lc3 ?_
  show tw_C g mLc3 _ _ _ _ _ _ _ _ _ _
  unfold f_Lc3
  refine tw_aload_n (k := 0) rfl rfl ?_
  refine tw_aload_n (k := 1) rfl rfl ?_
  refine tw_callSW (k := 2) (d' := 76) (mc' := 6) (ms' := 1626) tw_cI tw_cIi [.ref b1, .ref b5] rfl rfl wx_RL_155_L_law mo_L_law rfl (fun Q9 => K_L_law Q9 b1 b5) (by omega) (by omega) (by omega) (Nat.le_of_ble_eq_true rfl) (fun x34 => ?_)
  refine tw_ist (k := 3) [some (.ref a0), some (.ref b1), some (.ref b3), some (.ref b5), some (.int s7), some (.int x34), none] rfl (Nat.le_of_ble_eq_true rfl) rfl rfl ?_
  refine tw_aload_n (k := 4) rfl rfl ?_
  refine tw_callV (k := 5) (d' := 84) (mc' := 0) (ms' := 0) tw_cI tw_cIi [] rfl rfl wv_RL_157_X12_law mo_X12_law (t := 11) rfl rfl rfl (fun Q9 => K_X12_law Q9 b3) (by omega) (by omega) (by omega) (Nat.le_of_ble_eq_true rfl) (fun x35 => ?_)
  refine tw_ist (k := 6) [some (.ref a0), some (.ref b1), some (.ref b3), some (.ref b5), some (.int s7), some (.int x34), some (.int x35)] rfl (Nat.le_of_ble_eq_true rfl) rfl rfl ?_
  refine tw_aload_n (k := 7) rfl rfl ?_
  refine tw_callV (k := 8) (d' := 1) (mc' := 0) (ms' := 0) tw_cI tw_cIi [] rfl rfl wv_RL_152_X12_thrown mo_X12_thrown (t := 11) rfl rfl rfl (fun Q9 => K_X12_thrown Q9 b3) (by omega) (by omega) (by omega) (Nat.le_of_ble_eq_true rfl) (fun x36 => ?_)
  refine tw_iload (k := 9) rfl rfl ?_
  refine tw_icmp_eq (k := 10) 442 rfl (by decide) ?_ ?_
  · refine tw_iload (k := 13) rfl rfl ?_
    refine tw_join 459 (fun s38 => [some (.ref a0), some (.ref b1), some (.ref b3), some (.ref b5), some (.int s7), some (.int x34), some (.int x35)]) (fun s38 => []) (182 + s7.toNatClampNeg + 6) (20125 + 300 * s7.toNatClampNeg + 1626) (fun s38 => ?_) (fun j37 g37 => ?_)
    · refine tw_goto (k := 24) 2993 rfl (by decide) ?_
      exact tw_wk (L' := [some (.ref a0), some (.ref b1), some (.ref b3), some (.ref b5), some (.int s7), none, none]) ⟨Or.inr rfl, Or.inr rfl, Or.inr rfl, Or.inr rfl, Or.inr rfl, Or.inl rfl, Or.inl rfl, trivial⟩ (g10 ())
    · refine tw_if_ne (k := 14) 459 rfl (by decide) ?_ ?_
      · exact g37 ()
      · refine tw_aload_n (k := 15) rfl rfl ?_
        refine tw_iconst (k := 16) (0 : Int32) rfl (by decide) ?_
        refine tw_laload (k := 17) rfl (fun x39 => ?_)
        refine tw_iload (k := 18) rfl rfl ?_
        refine tw_i2l (k := 19) rfl ?_
        refine tw_lcmp (k := 20) rfl ?_
        refine tw_if_eq (k := 21) 459 rfl (by decide) ?_ ?_
        · exact g37 ()
        · refine tw_iconst (k := 22) (0 : Int32) rfl (by decide) ?_
          exact tw_zreturn (k := 23) rfl rfl (by omega) (by omega)
  · refine tw_iconst (k := 11) (0 : Int32) rfl (by decide) ?_
    exact tw_zreturn (k := 12) rfl rfl (by omega) (by omega)
set_option maxHeartbeats 4000000 in
set_option maxRecDepth 100000 in
theorem C_Lc4 {g : tw_Gx} {Q : tw_Rs → tw_Mem → Prop} (a0 b1 b3 b5 : Nat) (s7 : Int32) (hP7 : s7.toNatClampNeg ≤ 3072) (j10 : Unit → tw_Mem → Prop) (g10 : ∀ z : Unit, tw_C g mL_law_ 1300 601024 7293034 Q 2993 [some (.ref a0), some (.ref b1), some (.ref b3), some (.ref b5), some (.int s7), none, none] [] (182 + s7.toNatClampNeg + 6) (20125 + 300 * s7.toNatClampNeg + 1626) (j10 z)) : tw_C g mL_law_ 1300 601024 7293034 Q 462 [some (.ref a0), some (.ref b1), some (.ref b3), some (.ref b5), some (.int s7), none, none] [] (182 + s7.toNatClampNeg + 0) (20125 + 300 * s7.toNatClampNeg + 0) (f_Lc4 a0 b1 b3 b5 s7 j10 (fun v => Q (.inl (some (.int v))))) := by
  have g10 := fun z => tw_Ctab (r' := (tw_tb mLc4)) dk_L_law_ (g10 z)
  change ∀ z : Unit, tw_C g mLc4 _ _ _ _ _ _ _ _ _ _ at g10
  refine tw_Ctab (r := (tw_tb mLc4)) dk_Lc4 ?_
  show tw_C g mLc4 _ _ _ _ _ _ _ _ _ _
  unfold f_Lc4
  refine tw_aload_n (k := 0) rfl rfl ?_
  refine tw_callV (k := 1) (d' := 1) (mc' := 0) (ms' := 0) tw_cI tw_cIi [] rfl rfl wv_RL_158_X11_fault mo_X11_fault (t := 10) rfl rfl rfl (fun Q9 => K_X11_fault Q9 b1) (by omega) (by omega) (by omega) (Nat.le_of_ble_eq_true rfl) (fun x40 => ?_)
  refine tw_aload_n (k := 2) rfl rfl ?_
  refine tw_callV (k := 3) (d' := 1) (mc' := 0) (ms' := 0) tw_cI tw_cIi [] rfl rfl wv_RL_161_X12_fault mo_X12_fault (t := 11) rfl rfl rfl (fun Q9 => K_X12_fault Q9 b3) (by omega) (by omega) (by omega) (Nat.le_of_ble_eq_true rfl) (fun x41 => ?_)
  refine tw_icmp_eq (k := 4) 2993 rfl (by decide) ?_ ?_
  · refine tw_wide (k2 := (182 + s7.toNatClampNeg + 6)) (s2 := (20125 + 300 * s7.toNatClampNeg + 1626)) (by omega) (by omega) ?_
    exact g10 ()
  · refine tw_iconst (k := 5) (0 : Int32) rfl (by decide) ?_
    exact tw_zreturn (k := 6) rfl rfl (by omega) (by omega)
set_option maxHeartbeats 4000000 in
set_option maxRecDepth 100000 in
theorem C_Lc5 {g : tw_Gx} {Q : tw_Rs → tw_Mem → Prop} (a0 b1 b3 b5 : Nat) (s7 : Int32) (hP7 : s7.toNatClampNeg ≤ 3072) (j10 : Unit → tw_Mem → Prop) (g10 : ∀ z : Unit, tw_C g mL_law_ 1300 601024 7293034 Q 2993 [some (.ref a0), some (.ref b1), some (.ref b3), some (.ref b5), some (.int s7), none, none] [] (182 + s7.toNatClampNeg + 6) (20125 + 300 * s7.toNatClampNeg + 1626) (j10 z)) : tw_C g mL_law_ 1300 601024 7293034 Q 475 [some (.ref a0), some (.ref b1), some (.ref b3), some (.ref b5), some (.int s7), none, none] [] (182 + s7.toNatClampNeg + 0) (20125 + 300 * s7.toNatClampNeg + 0) (f_Lc5 a0 b1 b3 b5 s7 j10 (fun v => Q (.inl (some (.int v))))) := by
  have g10 := fun z => tw_Ctab (r' := (tw_tb mLc5)) dk_L_law_ (g10 z)
  change ∀ z : Unit, tw_C g mLc5 _ _ _ _ _ _ _ _ _ _ at g10
  refine tw_Ctab (r := (tw_tb mLc5)) dk_Lc5 ?_
  show tw_C g mLc5 _ _ _ _ _ _ _ _ _ _
  unfold f_Lc5
  refine tw_aload_n (k := 0) rfl rfl ?_
  refine tw_aload_n (k := 1) rfl rfl ?_
  refine tw_iload (k := 2) rfl rfl ?_
  refine tw_iconst (k := 3) (1 : Int32) rfl (by decide) ?_
  refine tw_iadd (k := 4) rfl ?_
  refine tw_iaload (k := 5) rfl (fun x42 => ?_)
  refine tw_aload_n (k := 6) rfl rfl ?_
  refine tw_iload (k := 7) rfl rfl ?_
  refine tw_iconst (k := 8) (2 : Int32) rfl (by decide) ?_
  refine tw_iadd (k := 9) rfl ?_
  refine tw_iaload (k := 10) rfl (fun x43 => ?_)
  refine tw_aload_n (k := 11) rfl rfl ?_
  refine tw_callSW (k := 12) (d' := 8) (mc' := 2) (ms' := 12) tw_cI tw_cIi [.ref b1, .int x42, .int x43, .ref b5] rfl rfl wx_RL_162_L_person mo_L_person rfl (fun Q9 => K_L_person Q9 b1 x42 x43 b5) (by omega) (by omega) (by omega) (Nat.le_of_ble_eq_true rfl) (fun x44 => ?_)
  refine tw_ist (k := 13) [some (.ref a0), some (.ref b1), some (.ref b3), some (.ref b5), some (.int s7), some (.int x44), none] rfl (Nat.le_of_ble_eq_true rfl) rfl rfl ?_
  refine tw_aload_n (k := 14) rfl rfl ?_
  refine tw_aload_n (k := 15) rfl rfl ?_
  refine tw_iload (k := 16) rfl rfl ?_
  refine tw_iconst (k := 17) (1 : Int32) rfl (by decide) ?_
  refine tw_iadd (k := 18) rfl ?_
  refine tw_iaload (k := 19) rfl (fun x45 => ?_)
  refine tw_aload_n (k := 20) rfl rfl ?_
  refine tw_iload (k := 21) rfl rfl ?_
  refine tw_iconst (k := 22) (2 : Int32) rfl (by decide) ?_
  refine tw_iadd (k := 23) rfl ?_
  refine tw_iaload (k := 24) rfl (fun x46 => ?_)
  refine tw_callV (k := 25) (d' := 5) (mc' := 0) (ms' := 0) tw_cI tw_cIi [.int x45, .int x46] rfl rfl wv_RL_165_X12_person mo_X12_person (t := 11) rfl rfl rfl (fun Q9 => K_X12_person Q9 b3 x45 x46) (by omega) (by omega) (by omega) (Nat.le_of_ble_eq_true rfl) (fun x47 => ?_)
  refine tw_ist (k := 26) [some (.ref a0), some (.ref b1), some (.ref b3), some (.ref b5), some (.int s7), some (.int x44), some (.int x47)] rfl (Nat.le_of_ble_eq_true rfl) rfl rfl ?_
  refine tw_aload_n (k := 27) rfl rfl ?_
  refine tw_callV (k := 28) (d' := 1) (mc' := 0) (ms' := 0) tw_cI tw_cIi [] rfl rfl wv_RL_152_X12_thrown mo_X12_thrown (t := 11) rfl rfl rfl (fun Q9 => K_X12_thrown Q9 b3) (by omega) (by omega) (by omega) (Nat.le_of_ble_eq_true rfl) (fun x48 => ?_)
  refine tw_iload (k := 29) rfl rfl ?_
  refine tw_icmp_eq (k := 30) 523 rfl (by decide) ?_ ?_
  · refine tw_iload (k := 33) rfl rfl ?_
    refine tw_join 540 (fun s50 => [some (.ref a0), some (.ref b1), some (.ref b3), some (.ref b5), some (.int s7), some (.int x44), some (.int x47)]) (fun s50 => []) (182 + s7.toNatClampNeg + 2) (20125 + 300 * s7.toNatClampNeg + 12) (fun s50 => ?_) (fun j49 g49 => ?_)
    · refine tw_goto (k := 44) 2993 rfl (by decide) ?_
      refine tw_wide (k2 := (182 + s7.toNatClampNeg + 6)) (s2 := (20125 + 300 * s7.toNatClampNeg + 1626)) (by omega) (by omega) ?_
      exact tw_wk (L' := [some (.ref a0), some (.ref b1), some (.ref b3), some (.ref b5), some (.int s7), none, none]) ⟨Or.inr rfl, Or.inr rfl, Or.inr rfl, Or.inr rfl, Or.inr rfl, Or.inl rfl, Or.inl rfl, trivial⟩ (g10 ())
    · refine tw_if_ne (k := 34) 540 rfl (by decide) ?_ ?_
      · exact g49 ()
      · refine tw_aload_n (k := 35) rfl rfl ?_
        refine tw_iconst (k := 36) (0 : Int32) rfl (by decide) ?_
        refine tw_laload (k := 37) rfl (fun x51 => ?_)
        refine tw_iload (k := 38) rfl rfl ?_
        refine tw_i2l (k := 39) rfl ?_
        refine tw_lcmp (k := 40) rfl ?_
        refine tw_if_eq (k := 41) 540 rfl (by decide) ?_ ?_
        · exact g49 ()
        · refine tw_iconst (k := 42) (0 : Int32) rfl (by decide) ?_
          exact tw_zreturn (k := 43) rfl rfl (by omega) (by omega)
  · refine tw_iconst (k := 31) (0 : Int32) rfl (by decide) ?_
    exact tw_zreturn (k := 32) rfl rfl (by omega) (by omega)
set_option maxHeartbeats 4000000 in
set_option maxRecDepth 100000 in
theorem C_Lc6 {g : tw_Gx} {Q : tw_Rs → tw_Mem → Prop} (a0 b1 b3 b5 : Nat) (s7 : Int32) (hP7 : s7.toNatClampNeg ≤ 3072) (j10 : Unit → tw_Mem → Prop) (g10 : ∀ z : Unit, tw_C g mL_law_ 1300 601024 7293034 Q 2993 [some (.ref a0), some (.ref b1), some (.ref b3), some (.ref b5), some (.int s7), none, none] [] (182 + s7.toNatClampNeg + 6) (20125 + 300 * s7.toNatClampNeg + 1626) (j10 z)) : tw_C g mL_law_ 1300 601024 7293034 Q 543 [some (.ref a0), some (.ref b1), some (.ref b3), some (.ref b5), some (.int s7), none, none] [] (182 + s7.toNatClampNeg + 0) (20125 + 300 * s7.toNatClampNeg + 0) (f_Lc6 a0 b1 b3 b5 s7 j10 (fun v => Q (.inl (some (.int v))))) := by
  have g10 := fun z => tw_Ctab (r' := (tw_tb mLc6)) dk_L_law_ (g10 z)
  change ∀ z : Unit, tw_C g mLc6 _ _ _ _ _ _ _ _ _ _ at g10
  refine tw_Ctab (r := (tw_tb mLc6)) dk_Lc6 ?_
  show tw_C g mLc6 _ _ _ _ _ _ _ _ _ _
  unfold f_Lc6
  refine tw_aload_n (k := 0) rfl rfl ?_
  refine tw_aload_n (k := 1) rfl rfl ?_
  refine tw_iload (k := 2) rfl rfl ?_
  refine tw_iconst (k := 3) (1 : Int32) rfl (by decide) ?_
  refine tw_iadd (k := 4) rfl ?_
  refine tw_iaload (k := 5) rfl (fun x52 => ?_)
  refine tw_aload_n (k := 6) rfl rfl ?_
  refine tw_iload (k := 7) rfl rfl ?_
  refine tw_iconst (k := 8) (2 : Int32) rfl (by decide) ?_
  refine tw_iadd (k := 9) rfl ?_
  refine tw_iaload (k := 10) rfl (fun x53 => ?_)
  refine tw_aload_n (k := 11) rfl rfl ?_
  refine tw_callSW (k := 12) (d' := 9) (mc' := 3) (ms' := 18) tw_cI tw_cIi [.ref b1, .int x52, .int x53, .ref b5] rfl rfl wx_RL_166_L_guessed mo_L_guessed rfl (fun Q9 => K_L_guessed Q9 b1 x52 x53 b5) (by omega) (by omega) (by omega) (Nat.le_of_ble_eq_true rfl) (fun x54 => ?_)
  refine tw_ist (k := 13) [some (.ref a0), some (.ref b1), some (.ref b3), some (.ref b5), some (.int s7), some (.int x54), none] rfl (Nat.le_of_ble_eq_true rfl) rfl rfl ?_
  refine tw_aload_n (k := 14) rfl rfl ?_
  refine tw_aload_n (k := 15) rfl rfl ?_
  refine tw_iload (k := 16) rfl rfl ?_
  refine tw_iconst (k := 17) (1 : Int32) rfl (by decide) ?_
  refine tw_iadd (k := 18) rfl ?_
  refine tw_iaload (k := 19) rfl (fun x55 => ?_)
  refine tw_aload_n (k := 20) rfl rfl ?_
  refine tw_iload (k := 21) rfl rfl ?_
  refine tw_iconst (k := 22) (2 : Int32) rfl (by decide) ?_
  refine tw_iadd (k := 23) rfl ?_
  refine tw_iaload (k := 24) rfl (fun x56 => ?_)
  refine tw_callV (k := 25) (d' := 4) (mc' := 0) (ms' := 0) tw_cI tw_cIi [.int x55, .int x56] rfl rfl wv_RL_168_X12_guessed mo_X12_guessed (t := 11) rfl rfl rfl (fun Q9 => K_X12_guessed Q9 b3 x55 x56) (by omega) (by omega) (by omega) (Nat.le_of_ble_eq_true rfl) (fun x57 => ?_)
  refine tw_ist (k := 26) [some (.ref a0), some (.ref b1), some (.ref b3), some (.ref b5), some (.int s7), some (.int x54), some (.int x57)] rfl (Nat.le_of_ble_eq_true rfl) rfl rfl ?_
  refine tw_aload_n (k := 27) rfl rfl ?_
  refine tw_callV (k := 28) (d' := 1) (mc' := 0) (ms' := 0) tw_cI tw_cIi [] rfl rfl wv_RL_152_X12_thrown mo_X12_thrown (t := 11) rfl rfl rfl (fun Q9 => K_X12_thrown Q9 b3) (by omega) (by omega) (by omega) (Nat.le_of_ble_eq_true rfl) (fun x58 => ?_)
  refine tw_iload (k := 29) rfl rfl ?_
  refine tw_icmp_eq (k := 30) 591 rfl (by decide) ?_ ?_
  · refine tw_iload (k := 33) rfl rfl ?_
    refine tw_join 608 (fun s60 => [some (.ref a0), some (.ref b1), some (.ref b3), some (.ref b5), some (.int s7), some (.int x54), some (.int x57)]) (fun s60 => []) (182 + s7.toNatClampNeg + 3) (20125 + 300 * s7.toNatClampNeg + 18) (fun s60 => ?_) (fun j59 g59 => ?_)
    · refine tw_goto (k := 44) 2993 rfl (by decide) ?_
      refine tw_wide (k2 := (182 + s7.toNatClampNeg + 6)) (s2 := (20125 + 300 * s7.toNatClampNeg + 1626)) (by omega) (by omega) ?_
      exact tw_wk (L' := [some (.ref a0), some (.ref b1), some (.ref b3), some (.ref b5), some (.int s7), none, none]) ⟨Or.inr rfl, Or.inr rfl, Or.inr rfl, Or.inr rfl, Or.inr rfl, Or.inl rfl, Or.inl rfl, trivial⟩ (g10 ())
    · refine tw_if_ne (k := 34) 608 rfl (by decide) ?_ ?_
      · exact g59 ()
      · refine tw_aload_n (k := 35) rfl rfl ?_
        refine tw_iconst (k := 36) (0 : Int32) rfl (by decide) ?_
        refine tw_laload (k := 37) rfl (fun x61 => ?_)
        refine tw_iload (k := 38) rfl rfl ?_
        refine tw_i2l (k := 39) rfl ?_
        refine tw_lcmp (k := 40) rfl ?_
        refine tw_if_eq (k := 41) 608 rfl (by decide) ?_ ?_
        · exact g59 ()
        · refine tw_iconst (k := 42) (0 : Int32) rfl (by decide) ?_
          exact tw_zreturn (k := 43) rfl rfl (by omega) (by omega)
  · refine tw_iconst (k := 31) (0 : Int32) rfl (by decide) ?_
    exact tw_zreturn (k := 32) rfl rfl (by omega) (by omega)
