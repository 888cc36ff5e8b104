def f_Lc0 (a0 b1 b3 b5 : Nat) (s7 : Int32) (j10 : Unit → tw_Mem → Prop) (k : Int32 → tw_Mem → Prop) : tw_Mem → Prop :=
  tw_li a0 (s7 + (1 : Int32)) fun x12 => tw_li a0 (s7 + (2 : Int32)) fun x13 => tw_li a0 (s7 + (3 : Int32)) fun x14 => tw_li a0 (s7 + (4 : Int32)) fun x15 => tw_li a0 (s7 + (5 : Int32)) fun x16 => tw_iv 10 b1 (f_X11_feed b1 x12 x13 x14 x15 x16 (fun x17 => tw_li a0 (s7 + (1 : Int32)) fun x18 => tw_li a0 (s7 + (2 : Int32)) fun x19 => tw_li a0 (s7 + (3 : Int32)) fun x20 => tw_li a0 (s7 + (4 : Int32)) fun x21 => tw_li a0 (s7 + (5 : Int32)) fun x22 => tw_iv 11 b3 (f_X12_feed b3 x18 x19 x20 x21 x22 (fun x23 => tw_if (x17 = x23) (j10 ()) (tw_rz (0 : Int32) (k (0 : Int32)))))))
set_option maxHeartbeats 4000000 in
set_option maxRecDepth 100000 in
theorem C_Lc0 {g : tw_Gx} {Q : tw_Rs → tw_Mem → Prop} (a0 b1 b3 b5 : Nat) (s7 : Int32) (hP7 : s7.toNatClampNeg ≤ 3072) (j10 : Unit → tw_Mem → Prop) (g10 : ∀ z : Unit, tw_C g mL_law_ 1300 601024 7293034 Q 2993 [some (.ref a0), some (.ref b1), some (.ref b3), some (.ref b5), some (.int s7), none, none] [] (182 + s7.toNatClampNeg + 6) (20089 + 300 * s7.toNatClampNeg + 1626) (j10 z)) : tw_C g mL_law_ 1300 601024 7293034 Q 276 [some (.ref a0), some (.ref b1), some (.ref b3), some (.ref b5), some (.int s7), none, none] [] (182 + s7.toNatClampNeg + 0) (20089 + 300 * s7.toNatClampNeg + 0) (f_Lc0 a0 b1 b3 b5 s7 j10 (fun v => Q (.inl (some (.int v))))) := by
  have g10 := fun z => tw_Ctab (r' := (tw_tb mLc0)) dk_L_law_ (g10 z)
  change ∀ z : Unit, tw_C g mLc0 _ _ _ _ _ _ _ _ _ _ at g10
  refine tw_Ctab (r := (tw_tb mLc0)) dk_Lc0 ?_
  show tw_C g mLc0 _ _ _ _ _ _ _ _ _ _
  unfold f_Lc0
  refine tw_aload_n (k := 0) rfl rfl ?_
  refine tw_aload_n (k := 1) rfl rfl ?_
  refine tw_iload (k := 2) rfl rfl ?_
  refine tw_iconst (k := 3) (1 : Int32) rfl (by decide) ?_
  refine tw_iadd (k := 4) rfl ?_
  refine tw_iaload (k := 5) rfl (fun x12 => ?_)
  refine tw_aload_n (k := 6) rfl rfl ?_
  refine tw_iload (k := 7) rfl rfl ?_
  refine tw_iconst (k := 8) (2 : Int32) rfl (by decide) ?_
  refine tw_iadd (k := 9) rfl ?_
  refine tw_iaload (k := 10) rfl (fun x13 => ?_)
  refine tw_aload_n (k := 11) rfl rfl ?_
  refine tw_iload (k := 12) rfl rfl ?_
  refine tw_iconst (k := 13) (3 : Int32) rfl (by decide) ?_
  refine tw_iadd (k := 14) rfl ?_
  refine tw_iaload (k := 15) rfl (fun x14 => ?_)
  refine tw_aload_n (k := 16) rfl rfl ?_
  refine tw_iload (k := 17) rfl rfl ?_
  refine tw_iconst (k := 18) (4 : Int32) rfl (by decide) ?_
  refine tw_iadd (k := 19) rfl ?_
  refine tw_iaload (k := 20) rfl (fun x15 => ?_)
  refine tw_aload_n (k := 21) rfl rfl ?_
  refine tw_iload (k := 22) rfl rfl ?_
  refine tw_iconst (k := 23) (5 : Int32) rfl (by decide) ?_
  refine tw_iadd (k := 24) rfl ?_
  refine tw_iaload (k := 25) rfl (fun x16 => ?_)
  refine tw_callV (k := 26) (d' := 2) (mc' := 0) (ms' := 0) tw_cI tw_cIi [.int x12, .int x13, .int x14, .int x15, .int x16] rfl rfl wv_RL_136_X11_feed mo_X11_feed (t := 10) rfl rfl rfl (fun Q9 => K_X11_feed Q9 b1 x12 x13 x14 x15 x16) (by omega) (by omega) (by omega) (Nat.le_of_ble_eq_true rfl) (fun x17 => ?_)
  refine tw_aload_n (k := 27) rfl rfl ?_
  refine tw_aload_n (k := 28) rfl rfl ?_
  refine tw_iload (k := 29) rfl rfl ?_
  refine tw_iconst (k := 30) (1 : Int32) rfl (by decide) ?_
  refine tw_iadd (k := 31) rfl ?_
  refine tw_iaload (k := 32) rfl (fun x18 => ?_)
  refine tw_aload_n (k := 33) rfl rfl ?_
  refine tw_iload (k := 34) rfl rfl ?_
  refine tw_iconst (k := 35) (2 : Int32) rfl (by decide) ?_
  refine tw_iadd (k := 36) rfl ?_
  refine tw_iaload (k := 37) rfl (fun x19 => ?_)
  refine tw_aload_n (k := 38) rfl rfl ?_
  refine tw_iload (k := 39) rfl rfl ?_
  refine tw_iconst (k := 40) (3 : Int32) rfl (by decide) ?_
  refine tw_iadd (k := 41) rfl ?_
  refine tw_iaload (k := 42) rfl (fun x20 => ?_)
  refine tw_aload_n (k := 43) rfl rfl ?_
  refine tw_iload (k := 44) rfl rfl ?_
  refine tw_iconst (k := 45) (4 : Int32) rfl (by decide) ?_
  refine tw_iadd (k := 46) rfl ?_
  refine tw_iaload (k := 47) rfl (fun x21 => ?_)
  refine tw_aload_n (k := 48) rfl rfl ?_
  refine tw_iload (k := 49) rfl rfl ?_
  refine tw_iconst (k := 50) (5 : Int32) rfl (by decide) ?_
  refine tw_iadd (k := 51) rfl ?_
  refine tw_iaload (k := 52) rfl (fun x22 => ?_)
  refine tw_callV (k := 53) (d' := 1) (mc' := 0) (ms' := 0) tw_cI tw_cIi [.int x18, .int x19, .int x20, .int x21, .int x22] rfl rfl wv_RL_140_X12_feed mo_X12_feed (t := 11) rfl rfl rfl (fun Q9 => K_X12_feed Q9 b3 x18 x19 x20 x21 x22) (by omega) (by omega) (by omega) (Nat.le_of_ble_eq_true rfl) (fun x23 => ?_)
  refine tw_icmp_eq (k := 54) 2993 rfl (by decide) ?_ ?_
  · refine tw_wide (k2 := (182 + s7.toNatClampNeg + 6)) (s2 := (20089 + 300 * s7.toNatClampNeg + 1626)) (by omega) (by omega) ?_
    exact g10 ()
  · refine tw_iconst (k := 55) (0 : Int32) rfl (by decide) ?_
    exact tw_zreturn (k := 56) rfl rfl (by omega) (by omega)
def f_Lc1 (a0 b1 b3 b5 : Nat) (s7 : Int32) (j10 : Unit → tw_Mem → Prop) (k : Int32 → tw_Mem → Prop) : tw_Mem → Prop :=
  tw_li a0 (s7 + (1 : Int32)) fun x24 => tw_iv 10 b1 (f_X11_end b1 x24 (fun x25 => tw_li a0 (s7 + (1 : Int32)) fun x26 => tw_iv 11 b3 (f_X12_end b3 x26 (fun x27 => tw_if (x25 = x27) (j10 ()) (tw_rz (0 : Int32) (k (0 : Int32)))))))
set_option maxHeartbeats 4000000 in
set_option maxRecDepth 100000 in
theorem C_Lc1 {g : tw_Gx} {Q : tw_Rs → tw_Mem → Prop} (a0 b1 b3 b5 : Nat) (s7 : Int32) (hP7 : s7.toNatClampNeg ≤ 3072) (j10 : Unit → tw_Mem → Prop) (g10 : ∀ z : Unit, tw_C g mL_law_ 1300 601024 7293034 Q 2993 [some (.ref a0), some (.ref b1), some (.ref b3), some (.ref b5), some (.int s7), none, none] [] (182 + s7.toNatClampNeg + 6) (20089 + 300 * s7.toNatClampNeg + 1626) (j10 z)) : tw_C g mL_law_ 1300 601024 7293034 Q 349 [some (.ref a0), some (.ref b1), some (.ref b3), some (.ref b5), some (.int s7), none, none] [] (182 + s7.toNatClampNeg + 0) (20089 + 300 * s7.toNatClampNeg + 0) (f_Lc1 a0 b1 b3 b5 s7 j10 (fun v => Q (.inl (some (.int v))))) := by
  have g10 := fun z => tw_Ctab (r' := (tw_tb mLc1)) dk_L_law_ (g10 z)
  change ∀ z : Unit, tw_C g mLc1 _ _ _ _ _ _ _ _ _ _ at g10
  refine tw_Ctab (r := (tw_tb mLc1)) dk_Lc1 ?_
  show tw_C g mLc1 _ _ _ _ _ _ _ _ _ _
  unfold f_Lc1
  refine tw_aload_n (k := 0) rfl rfl ?_
  refine tw_aload_n (k := 1) rfl rfl ?_
  refine tw_iload (k := 2) rfl rfl ?_
  refine tw_iconst (k := 3) (1 : Int32) rfl (by decide) ?_
  refine tw_iadd (k := 4) rfl ?_
  refine tw_iaload (k := 5) rfl (fun x24 => ?_)
  refine tw_callV (k := 6) (d' := 2) (mc' := 0) (ms' := 0) tw_cI tw_cIi [.int x24] rfl rfl wv_RL_141_X11_end mo_X11_end (t := 10) rfl rfl rfl (fun Q9 => K_X11_end Q9 b1 x24) (by omega) (by omega) (by omega) (Nat.le_of_ble_eq_true rfl) (fun x25 => ?_)
  refine tw_aload_n (k := 7) rfl rfl ?_
  refine tw_aload_n (k := 8) rfl rfl ?_
  refine tw_iload (k := 9) rfl rfl ?_
  refine tw_iconst (k := 10) (1 : Int32) rfl (by decide) ?_
  refine tw_iadd (k := 11) rfl ?_
  refine tw_iaload (k := 12) rfl (fun x26 => ?_)
  refine tw_callV (k := 13) (d' := 1) (mc' := 0) (ms' := 0) tw_cI tw_cIi [.int x26] rfl rfl wv_RL_145_X12_end mo_X12_end (t := 11) rfl rfl rfl (fun Q9 => K_X12_end Q9 b3 x26) (by omega) (by omega) (by omega) (Nat.le_of_ble_eq_true rfl) (fun x27 => ?_)
  refine tw_icmp_eq (k := 14) 2993 rfl (by decide) ?_ ?_
  · refine tw_wide (k2 := (182 + s7.toNatClampNeg + 6)) (s2 := (20089 + 300 * s7.toNatClampNeg + 1626)) (by omega) (by omega) ?_
    exact g10 ()
  · refine tw_iconst (k := 15) (0 : Int32) rfl (by decide) ?_
    exact tw_zreturn (k := 16) rfl rfl (by omega) (by omega)
def f_Lc2 (a0 b1 b3 b5 : Nat) (s7 : Int32) (j10 : Unit → tw_Mem → Prop) (k : Int32 → tw_Mem → Prop) : tw_Mem → Prop :=
  f_L_town g b1 b5 (fun x28 => tw_iv 11 b3 (f_X12_town g b3 (fun x29 => tw_iv 11 b3 (f_X12_thrown b3 (fun x30 => tw_if (x30 = x28) (tw_jn (fun (s32 : Unit) => j10 ()) (fun j31 => tw_if (x28 = 0) (tw_ll b5 (0 : Int32) fun x33 => tw_if ((lg_cmp x33 (x29.toInt64)) = 0) (j31 ()) (tw_rz (0 : Int32) (k (0 : Int32)))) (j31 ()))) (tw_rz (0 : Int32) (k (0 : Int32))))))))
set_option maxHeartbeats 4000000 in
set_option maxRecDepth 100000 in
theorem C_Lc2 {g : tw_Gx} {Q : tw_Rs → tw_Mem → Prop} (a0 b1 b3 b5 : Nat) (s7 : Int32) (hP7 : s7.toNatClampNeg ≤ 3072) (j10 : Unit → tw_Mem → Prop) (g10 : ∀ z : Unit, tw_C g mL_law_ 1300 601024 7293034 Q 2993 [some (.ref a0), some (.ref b1), some (.ref b3), some (.ref b5), some (.int s7), none, none] [] (182 + s7.toNatClampNeg + 6) (20089 + 300 * s7.toNatClampNeg + 1626) (j10 z)) : tw_C g mL_law_ 1300 601024 7293034 Q 374 [some (.ref a0), some (.ref b1), some (.ref b3), some (.ref b5), some (.int s7), none, none] [] (182 + s7.toNatClampNeg + 0) (20089 + 300 * s7.toNatClampNeg + 0) (f_Lc2 a0 b1 b3 b5 s7 j10 (fun v => Q (.inl (some (.int v))))) := by
  have g10 := fun z => tw_Ctab (r' := (tw_tb mLc2)) dk_L_law_ (g10 z)
  change ∀ z : Unit, tw_C g mLc2 _ _ _ _ _ _ _ _ _ _ at g10
  refine tw_Ctab (r := (tw_tb mLc2)) dk_Lc2 ?_
  show tw_C g mLc2 _ _ _ _ _ _ _ _ _ _
  unfold f_Lc2
  refine tw_aload_n (k := 0) rfl rfl ?_
  refine tw_aload_n (k := 1) rfl rfl ?_
  refine tw_callSW (k := 2) (d' := 10) (mc' := 1) (ms' := 6) tw_cI tw_cIi [.ref b1, .ref b5] rfl rfl wx_RL_146_L_town mo_L_town rfl (fun Q9 => K_L_town Q9 b1 b5) (by omega) (by omega) (by omega) (Nat.le_of_ble_eq_true rfl) (fun x28 => ?_)
  refine tw_ist (k := 3) [some (.ref a0), some (.ref b1), some (.ref b3), some (.ref b5), some (.int s7), some (.int x28), none] rfl (Nat.le_of_ble_eq_true rfl) rfl rfl ?_
  refine tw_aload_n (k := 4) rfl rfl ?_
  refine tw_callV (k := 5) (d' := 84) (mc' := 0) (ms' := 0) tw_cI tw_cIi [] rfl rfl wv_RL_151_X12_town mo_X12_town (t := 11) rfl rfl rfl (fun Q9 => K_X12_town Q9 b3) (by omega) (by omega) (by omega) (Nat.le_of_ble_eq_true rfl) (fun x29 => ?_)
  refine tw_ist (k := 6) [some (.ref a0), some (.ref b1), some (.ref b3), some (.ref b5), some (.int s7), some (.int x28), some (.int x29)] rfl (Nat.le_of_ble_eq_true rfl) rfl rfl ?_
  refine tw_aload_n (k := 7) rfl rfl ?_
  refine tw_callV (k := 8) (d' := 1) (mc' := 0) (ms' := 0) tw_cI tw_cIi [] rfl rfl wv_RL_152_X12_thrown mo_X12_thrown (t := 11) rfl rfl rfl (fun Q9 => K_X12_thrown Q9 b3) (by omega) (by omega) (by omega) (Nat.le_of_ble_eq_true rfl) (fun x30 => ?_)
  refine tw_iload (k := 9) rfl rfl ?_
  refine tw_icmp_eq (k := 10) 398 rfl (by decide) ?_ ?_
  · refine tw_iload (k := 13) rfl rfl ?_
    refine tw_join 415 (fun s32 => [some (.ref a0), some (.ref b1), some (.ref b3), some (.ref b5), some (.int s7), some (.int x28), some (.int x29)]) (fun s32 => []) (182 + s7.toNatClampNeg + 1) (20089 + 300 * s7.toNatClampNeg + 6) (fun s32 => ?_) (fun j31 g31 => ?_)
    · refine tw_goto (k := 24) 2993 rfl (by decide) ?_
      refine tw_wide (k2 := (182 + s7.toNatClampNeg + 6)) (s2 := (20089 + 300 * s7.toNatClampNeg + 1626)) (by omega) (by omega) ?_
      exact tw_wk (L' := [some (.ref a0), some (.ref b1), some (.ref b3), some (.ref b5), some (.int s7), none, none]) ⟨Or.inr rfl, Or.inr rfl, Or.inr rfl, Or.inr rfl, Or.inr rfl, Or.inl rfl, Or.inl rfl, trivial⟩ (g10 ())
    · refine tw_if_ne (k := 14) 415 rfl (by decide) ?_ ?_
      · exact g31 ()
      · refine tw_aload_n (k := 15) rfl rfl ?_
        refine tw_iconst (k := 16) (0 : Int32) rfl (by decide) ?_
        refine tw_laload (k := 17) rfl (fun x33 => ?_)
        refine tw_iload (k := 18) rfl rfl ?_
        refine tw_i2l (k := 19) rfl ?_
        refine tw_lcmp (k := 20) rfl ?_
        refine tw_if_eq (k := 21) 415 rfl (by decide) ?_ ?_
        · exact g31 ()
        · refine tw_iconst (k := 22) (0 : Int32) rfl (by decide) ?_
          exact tw_zreturn (k := 23) rfl rfl (by omega) (by omega)
  · refine tw_iconst (k := 11) (0 : Int32) rfl (by decide) ?_
    exact tw_zreturn (k := 12) rfl rfl (by omega) (by omega)
def f_Lc3 (a0 b1 b3 b5 : Nat) (s7 : Int32) (j10 : Unit → tw_Mem → Prop) (k : Int32 → tw_Mem → Prop) : tw_Mem → Prop :=
  f_L_law g b1 b5 (fun x34 => tw_iv 11 b3 (f_X12_law g b3 (fun x35 => tw_iv 11 b3 (f_X12_thrown b3 (fun x36 => tw_if (x36 = x34) (tw_jn (fun (s38 : Unit) => j10 ()) (fun j37 => tw_if (x34 = 0) (tw_ll b5 (0 : Int32) fun x39 => tw_if ((lg_cmp x39 (x35.toInt64)) = 0) (j37 ()) (tw_rz (0 : Int32) (k (0 : Int32)))) (j37 ()))) (tw_rz (0 : Int32) (k (0 : Int32))))))))
set_option maxHeartbeats 4000000 in
set_option maxRecDepth 100000 in
theorem C_Lc3 {g : tw_Gx} {Q : tw_Rs → tw_Mem → Prop} (a0 b1 b3 b5 : Nat) (s7 : Int32) (hP7 : s7.toNatClampNeg ≤ 3072) (j10 : Unit → tw_Mem → Prop) (g10 : ∀ z : Unit, tw_C g mL_law_ 1300 601024 7293034 Q 2993 [some (.ref a0), some (.ref b1), some (.ref b3), some (.ref b5), some (.int s7), none, none] [] (182 + s7.toNatClampNeg + 6) (20089 + 300 * s7.toNatClampNeg + 1626) (j10 z)) : tw_C g mL_law_ 1300 601024 7293034 Q 418 [some (.ref a0), some (.ref b1), some (.ref b3), some (.ref b5), some (.int s7), none, none] [] (182 + s7.toNatClampNeg + 0) (20089 + 300 * s7.toNatClampNeg + 0) (f_Lc3 a0 b1 b3 b5 s7 j10 (fun v => Q (.inl (some (.int v))))) := by
  have g10 := fun z => tw_Ctab (r' := (tw_tb mLc3)) dk_L_law_ (g10 z)
  change ∀ z : Unit, tw_C g mLc3 _ _ _ _ _ _ _ _ _ _ at g10
  refine tw_Ctab (r := (tw_tb mLc3)) dk_Lc3 ?_
  show tw_C g mLc3 _ _ _ _ _ _ _ _ _ _
  unfold f_Lc3
  refine tw_aload_n (k := 0) rfl rfl ?_
  refine tw_aload_n (k := 1) rfl rfl ?_
  refine tw_callSW (k := 2) (d' := 76) (mc' := 6) (ms' := 1626) tw_cI tw_cIi [.ref b1, .ref b5] rfl rfl wx_RL_155_L_law mo_L_law rfl (fun Q9 => K_L_law Q9 b1 b5) (by omega) (by omega) (by omega) (Nat.le_of_ble_eq_true rfl) (fun x34 => ?_)
  refine tw_ist (k := 3) [some (.ref a0), some (.ref b1), some (.ref b3), some (.ref b5), some (.int s7), some (.int x34), none] rfl (Nat.le_of_ble_eq_true rfl) rfl rfl ?_
  refine tw_aload_n (k := 4) rfl rfl ?_
  refine tw_callV (k := 5) (d' := 84) (mc' := 0) (ms' := 0) tw_cI tw_cIi [] rfl rfl wv_RL_157_X12_law mo_X12_law (t := 11) rfl rfl rfl (fun Q9 => K_X12_law Q9 b3) (by omega) (by omega) (by omega) (Nat.le_of_ble_eq_true rfl) (fun x35 => ?_)
  refine tw_ist (k := 6) [some (.ref a0), some (.ref b1), some (.ref b3), some (.ref b5), some (.int s7), some (.int x34), some (.int x35)] rfl (Nat.le_of_ble_eq_true rfl) rfl rfl ?_
  refine tw_aload_n (k := 7) rfl rfl ?_
  refine tw_callV (k := 8) (d' := 1) (mc' := 0) (ms' := 0) tw_cI tw_cIi [] rfl rfl wv_RL_152_X12_thrown mo_X12_thrown (t := 11) rfl rfl rfl (fun Q9 => K_X12_thrown Q9 b3) (by omega) (by omega) (by omega) (Nat.le_of_ble_eq_true rfl) (fun x36 => ?_)
  refine tw_iload (k := 9) rfl rfl ?_
  refine tw_icmp_eq (k := 10) 442 rfl (by decide) ?_ ?_
  · refine tw_iload (k := 13) rfl rfl ?_
    refine tw_join 459 (fun s38 => [some (.ref a0), some (.ref b1), some (.ref b3), some (.ref b5), some (.int s7), some (.int x34), some (.int x35)]) (fun s38 => []) (182 + s7.toNatClampNeg + 6) (20089 + 300 * s7.toNatClampNeg + 1626) (fun s38 => ?_) (fun j37 g37 => ?_)
    · refine tw_goto (k := 24) 2993 rfl (by decide) ?_
      exact tw_wk (L' := [some (.ref a0), some (.ref b1), some (.ref b3), some (.ref b5), some (.int s7), none, none]) ⟨Or.inr rfl, Or.inr rfl, Or.inr rfl, Or.inr rfl, Or.inr rfl, Or.inl rfl, Or.inl rfl, trivial⟩ (g10 ())
    · refine tw_if_ne (k := 14) 459 rfl (by decide) ?_ ?_
      · exact g37 ()
      · refine tw_aload_n (k := 15) rfl rfl ?_
        refine tw_iconst (k := 16) (0 : Int32) rfl (by decide) ?_
        refine tw_laload (k := 17) rfl (fun x39 => ?_)
        refine tw_iload (k := 18) rfl rfl ?_
        refine tw_i2l (k := 19) rfl ?_
        refine tw_lcmp (k := 20) rfl ?_
        refine tw_if_eq (k := 21) 459 rfl (by decide) ?_ ?_
        · exact g37 ()
        · refine tw_iconst (k := 22) (0 : Int32) rfl (by decide) ?_
          exact tw_zreturn (k := 23) rfl rfl (by omega) (by omega)
  · refine tw_iconst (k := 11) (0 : Int32) rfl (by decide) ?_
    exact tw_zreturn (k := 12) rfl rfl (by omega) (by omega)
def f_Lc4 (a0 b1 b3 b5 : Nat) (s7 : Int32) (j10 : Unit → tw_Mem → Prop) (k : Int32 → tw_Mem → Prop) : tw_Mem → Prop :=
  tw_iv 10 b1 (f_X11_fault b1 (fun x40 => tw_iv 11 b3 (f_X12_fault b3 (fun x41 => tw_if (x40 = x41) (j10 ()) (tw_rz (0 : Int32) (k (0 : Int32)))))))
set_option maxHeartbeats 4000000 in
set_option maxRecDepth 100000 in
theorem C_Lc4 {g : tw_Gx} {Q : tw_Rs → tw_Mem → Prop} (a0 b1 b3 b5 : Nat) (s7 : Int32) (hP7 : s7.toNatClampNeg ≤ 3072) (j10 : Unit → tw_Mem → Prop) (g10 : ∀ z : Unit, tw_C g mL_law_ 1300 601024 7293034 Q 2993 [some (.ref a0), some (.ref b1), some (.ref b3), some (.ref b5), some (.int s7), none, none] [] (182 + s7.toNatClampNeg + 6) (20089 + 300 * s7.toNatClampNeg + 1626) (j10 z)) : tw_C g mL_law_ 1300 601024 7293034 Q 462 [some (.ref a0), some (.ref b1), some (.ref b3), some (.ref b5), some (.int s7), none, none] [] (182 + s7.toNatClampNeg + 0) (20089 + 300 * s7.toNatClampNeg + 0) (f_Lc4 a0 b1 b3 b5 s7 j10 (fun v => Q (.inl (some (.int v))))) := by
  have g10 := fun z => tw_Ctab (r' := (tw_tb mLc4)) dk_L_law_ (g10 z)
  change ∀ z : Unit, tw_C g mLc4 _ _ _ _ _ _ _ _ _ _ at g10
  refine tw_Ctab (r := (tw_tb mLc4)) dk_Lc4 ?_
  show tw_C g mLc4 _ _ _ _ _ _ _ _ _ _
  unfold f_Lc4
  refine tw_aload_n (k := 0) rfl rfl ?_
  refine tw_callV (k := 1) (d' := 1) (mc' := 0) (ms' := 0) tw_cI tw_cIi [] rfl rfl wv_RL_158_X11_fault mo_X11_fault (t := 10) rfl rfl rfl (fun Q9 => K_X11_fault Q9 b1) (by omega) (by omega) (by omega) (Nat.le_of_ble_eq_true rfl) (fun x40 => ?_)
  refine tw_aload_n (k := 2) rfl rfl ?_
  refine tw_callV (k := 3) (d' := 1) (mc' := 0) (ms' := 0) tw_cI tw_cIi [] rfl rfl wv_RL_161_X12_fault mo_X12_fault (t := 11) rfl rfl rfl (fun Q9 => K_X12_fault Q9 b3) (by omega) (by omega) (by omega) (Nat.le_of_ble_eq_true rfl) (fun x41 => ?_)
  refine tw_icmp_eq (k := 4) 2993 rfl (by decide) ?_ ?_
  · refine tw_wide (k2 := (182 + s7.toNatClampNeg + 6)) (s2 := (20089 + 300 * s7.toNatClampNeg + 1626)) (by omega) (by omega) ?_
    exact g10 ()
  · refine tw_iconst (k := 5) (0 : Int32) rfl (by decide) ?_
    exact tw_zreturn (k := 6) rfl rfl (by omega) (by omega)
def f_Lc5 (a0 b1 b3 b5 : Nat) (s7 : Int32) (j10 : Unit → tw_Mem → Prop) (k : Int32 → tw_Mem → Prop) : tw_Mem → Prop :=
  tw_li a0 (s7 + (1 : Int32)) fun x42 => tw_li a0 (s7 + (2 : Int32)) fun x43 => f_L_person b1 x42 x43 b5 (fun x44 => tw_li a0 (s7 + (1 : Int32)) fun x45 => tw_li a0 (s7 + (2 : Int32)) fun x46 => tw_iv 11 b3 (f_X12_person b3 x45 x46 (fun x47 => tw_iv 11 b3 (f_X12_thrown b3 (fun x48 => tw_if (x48 = x44) (tw_jn (fun (s50 : Unit) => j10 ()) (fun j49 => tw_if (x44 = 0) (tw_ll b5 (0 : Int32) fun x51 => tw_if ((lg_cmp x51 (x47.toInt64)) = 0) (j49 ()) (tw_rz (0 : Int32) (k (0 : Int32)))) (j49 ()))) (tw_rz (0 : Int32) (k (0 : Int32))))))))
set_option maxHeartbeats 4000000 in
set_option maxRecDepth 100000 in
theorem C_Lc5 {g : tw_Gx} {Q : tw_Rs → tw_Mem → Prop} (a0 b1 b3 b5 : Nat) (s7 : Int32) (hP7 : s7.toNatClampNeg ≤ 3072) (j10 : Unit → tw_Mem → Prop) (g10 : ∀ z : Unit, tw_C g mL_law_ 1300 601024 7293034 Q 2993 [some (.ref a0), some (.ref b1), some (.ref b3), some (.ref b5), some (.int s7), none, none] [] (182 + s7.toNatClampNeg + 6) (20089 + 300 * s7.toNatClampNeg + 1626) (j10 z)) : tw_C g mL_law_ 1300 601024 7293034 Q 475 [some (.ref a0), some (.ref b1), some (.ref b3), some (.ref b5), some (.int s7), none, none] [] (182 + s7.toNatClampNeg + 0) (20089 + 300 * s7.toNatClampNeg + 0) (f_Lc5 a0 b1 b3 b5 s7 j10 (fun v => Q (.inl (some (.int v))))) := by
  have g10 := fun z => tw_Ctab (r' := (tw_tb mLc5)) dk_L_law_ (g10 z)
  change ∀ z : Unit, tw_C g mLc5 _ _ _ _ _ _ _ _ _ _ at g10
  refine tw_Ctab (r := (tw_tb mLc5)) dk_Lc5 ?_
  show tw_C g mLc5 _ _ _ _ _ _ _ _ _ _
  unfold f_Lc5
  refine tw_aload_n (k := 0) rfl rfl ?_
  refine tw_aload_n (k := 1) rfl rfl ?_
  refine tw_iload (k := 2) rfl rfl ?_
  refine tw_iconst (k := 3) (1 : Int32) rfl (by decide) ?_
  refine tw_iadd (k := 4) rfl ?_
  refine tw_iaload (k := 5) rfl (fun x42 => ?_)
  refine tw_aload_n (k := 6) rfl rfl ?_
  refine tw_iload (k := 7) rfl rfl ?_
  refine tw_iconst (k := 8) (2 : Int32) rfl (by decide) ?_
  refine tw_iadd (k := 9) rfl ?_
  refine tw_iaload (k := 10) rfl (fun x43 => ?_)
  refine tw_aload_n (k := 11) rfl rfl ?_
  refine tw_callSW (k := 12) (d' := 8) (mc' := 2) (ms' := 12) tw_cI tw_cIi [.ref b1, .int x42, .int x43, .ref b5] rfl rfl wx_RL_162_L_person mo_L_person rfl (fun Q9 => K_L_person Q9 b1 x42 x43 b5) (by omega) (by omega) (by omega) (Nat.le_of_ble_eq_true rfl) (fun x44 => ?_)
  refine tw_ist (k := 13) [some (.ref a0), some (.ref b1), some (.ref b3), some (.ref b5), some (.int s7), some (.int x44), none] rfl (Nat.le_of_ble_eq_true rfl) rfl rfl ?_
  refine tw_aload_n (k := 14) rfl rfl ?_
  refine tw_aload_n (k := 15) rfl rfl ?_
  refine tw_iload (k := 16) rfl rfl ?_
  refine tw_iconst (k := 17) (1 : Int32) rfl (by decide) ?_
  refine tw_iadd (k := 18) rfl ?_
  refine tw_iaload (k := 19) rfl (fun x45 => ?_)
  refine tw_aload_n (k := 20) rfl rfl ?_
  refine tw_iload (k := 21) rfl rfl ?_
  refine tw_iconst (k := 22) (2 : Int32) rfl (by decide) ?_
  refine tw_iadd (k := 23) rfl ?_
  refine tw_iaload (k := 24) rfl (fun x46 => ?_)
  refine tw_callV (k := 25) (d' := 5) (mc' := 0) (ms' := 0) tw_cI tw_cIi [.int x45, .int x46] rfl rfl wv_RL_165_X12_person mo_X12_person (t := 11) rfl rfl rfl (fun Q9 => K_X12_person Q9 b3 x45 x46) (by omega) (by omega) (by omega) (Nat.le_of_ble_eq_true rfl) (fun x47 => ?_)
  refine tw_ist (k := 26) [some (.ref a0), some (.ref b1), some (.ref b3), some (.ref b5), some (.int s7), some (.int x44), some (.int x47)] rfl (Nat.le_of_ble_eq_true rfl) rfl rfl ?_
  refine tw_aload_n (k := 27) rfl rfl ?_
  refine tw_callV (k := 28) (d' := 1) (mc' := 0) (ms' := 0) tw_cI tw_cIi [] rfl rfl wv_RL_152_X12_thrown mo_X12_thrown (t := 11) rfl rfl rfl (fun Q9 => K_X12_thrown Q9 b3) (by omega) (by omega) (by omega) (Nat.le_of_ble_eq_true rfl) (fun x48 => ?_)
  refine tw_iload (k := 29) rfl rfl ?_
  refine tw_icmp_eq (k := 30) 523 rfl (by decide) ?_ ?_
  · refine tw_iload (k := 33) rfl rfl ?_
    refine tw_join 540 (fun s50 => [some (.ref a0), some (.ref b1), some (.ref b3), some (.ref b5), some (.int s7), some (.int x44), some (.int x47)]) (fun s50 => []) (182 + s7.toNatClampNeg + 2) (20089 + 300 * s7.toNatClampNeg + 12) (fun s50 => ?_) (fun j49 g49 => ?_)
    · refine tw_goto (k := 44) 2993 rfl (by decide) ?_
      refine tw_wide (k2 := (182 + s7.toNatClampNeg + 6)) (s2 := (20089 + 300 * s7.toNatClampNeg + 1626)) (by omega) (by omega) ?_
      exact tw_wk (L' := [some (.ref a0), some (.ref b1), some (.ref b3), some (.ref b5), some (.int s7), none, none]) ⟨Or.inr rfl, Or.inr rfl, Or.inr rfl, Or.inr rfl, Or.inr rfl, Or.inl rfl, Or.inl rfl, trivial⟩ (g10 ())
    · refine tw_if_ne (k := 34) 540 rfl (by decide) ?_ ?_
      · exact g49 ()
      · refine tw_aload_n (k := 35) rfl rfl ?_
        refine tw_iconst (k := 36) (0 : Int32) rfl (by decide) ?_
        refine tw_laload (k := 37) rfl (fun x51 => ?_)
        refine tw_iload (k := 38) rfl rfl ?_
        refine tw_i2l (k := 39) rfl ?_
        refine tw_lcmp (k := 40) rfl ?_
        refine tw_if_eq (k := 41) 540 rfl (by decide) ?_ ?_
        · exact g49 ()
        · refine tw_iconst (k := 42) (0 : Int32) rfl (by decide) ?_
          exact tw_zreturn (k := 43) rfl rfl (by omega) (by omega)
  · refine tw_iconst (k := 31) (0 : Int32) rfl (by decide) ?_
    exact tw_zreturn (k := 32) rfl rfl (by omega) (by omega)
def f_Lc6 (a0 b1 b3 b5 : Nat) (s7 : Int32) (j10 : Unit → tw_Mem → Prop) (k : Int32 → tw_Mem → Prop) : tw_Mem → Prop :=
  tw_li a0 (s7 + (1 : Int32)) fun x52 => tw_li a0 (s7 + (2 : Int32)) fun x53 => f_L_guessed b1 x52 x53 b5 (fun x54 => tw_li a0 (s7 + (1 : Int32)) fun x55 => tw_li a0 (s7 + (2 : Int32)) fun x56 => tw_iv 11 b3 (f_X12_guessed b3 x55 x56 (fun x57 => tw_iv 11 b3 (f_X12_thrown b3 (fun x58 => tw_if (x58 = x54) (tw_jn (fun (s60 : Unit) => j10 ()) (fun j59 => tw_if (x54 = 0) (tw_ll b5 (0 : Int32) fun x61 => tw_if ((lg_cmp x61 (x57.toInt64)) = 0) (j59 ()) (tw_rz (0 : Int32) (k (0 : Int32)))) (j59 ()))) (tw_rz (0 : Int32) (k (0 : Int32))))))))
set_option maxHeartbeats 4000000 in
set_option maxRecDepth 100000 in
theorem C_Lc6 {g : tw_Gx} {Q : tw_Rs → tw_Mem → Prop} (a0 b1 b3 b5 : Nat) (s7 : Int32) (hP7 : s7.toNatClampNeg ≤ 3072) (j10 : Unit → tw_Mem → Prop) (g10 : ∀ z : Unit, tw_C g mL_law_ 1300 601024 7293034 Q 2993 [some (.ref a0), some (.ref b1), some (.ref b3), some (.ref b5), some (.int s7), none, none] [] (182 + s7.toNatClampNeg + 6) (20089 + 300 * s7.toNatClampNeg + 1626) (j10 z)) : tw_C g mL_law_ 1300 601024 7293034 Q 543 [some (.ref a0), some (.ref b1), some (.ref b3), some (.ref b5), some (.int s7), none, none] [] (182 + s7.toNatClampNeg + 0) (20089 + 300 * s7.toNatClampNeg + 0) (f_Lc6 a0 b1 b3 b5 s7 j10 (fun v => Q (.inl (some (.int v))))) := by
  have g10 := fun z => tw_Ctab (r' := (tw_tb mLc6)) dk_L_law_ (g10 z)
  change ∀ z : Unit, tw_C g mLc6 _ _ _ _ _ _ _ _ _ _ at g10
  refine tw_Ctab (r := (tw_tb mLc6)) dk_Lc6 ?_
  show tw_C g mLc6 _ _ _ _ _ _ _ _ _ _
  unfold f_Lc6
  refine tw_aload_n (k := 0) rfl rfl ?_
  refine tw_aload_n (k := 1) rfl rfl ?_
  refine tw_iload (k := 2) rfl rfl ?_
  refine tw_iconst (k := 3) (1 : Int32) rfl (by decide) ?_
  refine tw_iadd (k := 4) rfl ?_
  refine tw_iaload (k := 5) rfl (fun x52 => ?_)
  refine tw_aload_n (k := 6) rfl rfl ?_
  refine tw_iload (k := 7) rfl rfl ?_
  refine tw_iconst (k := 8) (2 : Int32) rfl (by decide) ?_
  refine tw_iadd (k := 9) rfl ?_
  refine tw_iaload (k := 10) rfl (fun x53 => ?_)
  refine tw_aload_n (k := 11) rfl rfl ?_
  refine tw_callSW (k := 12) (d' := 9) (mc' := 3) (ms' := 18) tw_cI tw_cIi [.ref b1, .int x52, .int x53, .ref b5] rfl rfl wx_RL_166_L_guessed mo_L_guessed rfl (fun Q9 => K_L_guessed Q9 b1 x52 x53 b5) (by omega) (by omega) (by omega) (Nat.le_of_ble_eq_true rfl) (fun x54 => ?_)
  refine tw_ist (k := 13) [some (.ref a0), some (.ref b1), some (.ref b3), some (.ref b5), some (.int s7), some (.int x54), none] rfl (Nat.le_of_ble_eq_true rfl) rfl rfl ?_
  refine tw_aload_n (k := 14) rfl rfl ?_
  refine tw_aload_n (k := 15) rfl rfl ?_
  refine tw_iload (k := 16) rfl rfl ?_
  refine tw_iconst (k := 17) (1 : Int32) rfl (by decide) ?_
  refine tw_iadd (k := 18) rfl ?_
  refine tw_iaload (k := 19) rfl (fun x55 => ?_)
  refine tw_aload_n (k := 20) rfl rfl ?_
  refine tw_iload (k := 21) rfl rfl ?_
  refine tw_iconst (k := 22) (2 : Int32) rfl (by decide) ?_
  refine tw_iadd (k := 23) rfl ?_
  refine tw_iaload (k := 24) rfl (fun x56 => ?_)
  refine tw_callV (k := 25) (d' := 4) (mc' := 0) (ms' := 0) tw_cI tw_cIi [.int x55, .int x56] rfl rfl wv_RL_168_X12_guessed mo_X12_guessed (t := 11) rfl rfl rfl (fun Q9 => K_X12_guessed Q9 b3 x55 x56) (by omega) (by omega) (by omega) (Nat.le_of_ble_eq_true rfl) (fun x57 => ?_)
  refine tw_ist (k := 26) [some (.ref a0), some (.ref b1), some (.ref b3), some (.ref b5), some (.int s7), some (.int x54), some (.int x57)] rfl (Nat.le_of_ble_eq_true rfl) rfl rfl ?_
  refine tw_aload_n (k := 27) rfl rfl ?_
  refine tw_callV (k := 28) (d' := 1) (mc' := 0) (ms' := 0) tw_cI tw_cIi [] rfl rfl wv_RL_152_X12_thrown mo_X12_thrown (t := 11) rfl rfl rfl (fun Q9 => K_X12_thrown Q9 b3) (by omega) (by omega) (by omega) (Nat.le_of_ble_eq_true rfl) (fun x58 => ?_)
  refine tw_iload (k := 29) rfl rfl ?_
  refine tw_icmp_eq (k := 30) 591 rfl (by decide) ?_ ?_
  · refine tw_iload (k := 33) rfl rfl ?_
    refine tw_join 608 (fun s60 => [some (.ref a0), some (.ref b1), some (.ref b3), some (.ref b5), some (.int s7), some (.int x54), some (.int x57)]) (fun s60 => []) (182 + s7.toNatClampNeg + 3) (20089 + 300 * s7.toNatClampNeg + 18) (fun s60 => ?_) (fun j59 g59 => ?_)
    · refine tw_goto (k := 44) 2993 rfl (by decide) ?_
      refine tw_wide (k2 := (182 + s7.toNatClampNeg + 6)) (s2 := (20089 + 300 * s7.toNatClampNeg + 1626)) (by omega) (by omega) ?_
      exact tw_wk (L' := [some (.ref a0), some (.ref b1), some (.ref b3), some (.ref b5), some (.int s7), none, none]) ⟨Or.inr rfl, Or.inr rfl, Or.inr rfl, Or.inr rfl, Or.inr rfl, Or.inl rfl, Or.inl rfl, trivial⟩ (g10 ())
    · refine tw_if_ne (k := 34) 608 rfl (by decide) ?_ ?_
      · exact g59 ()
      · refine tw_aload_n (k := 35) rfl rfl ?_
        refine tw_iconst (k := 36) (0 : Int32) rfl (by decide) ?_
        refine tw_laload (k := 37) rfl (fun x61 => ?_)
        refine tw_iload (k := 38) rfl rfl ?_
        refine tw_i2l (k := 39) rfl ?_
        refine tw_lcmp (k := 40) rfl ?_
        refine tw_if_eq (k := 41) 608 rfl (by decide) ?_ ?_
        · exact g59 ()
        · refine tw_iconst (k := 42) (0 : Int32) rfl (by decide) ?_
          exact tw_zreturn (k := 43) rfl rfl (by omega) (by omega)
  · refine tw_iconst (k := 31) (0 : Int32) rfl (by decide) ?_
    exact tw_zreturn (k := 32) rfl rfl (by omega) (by omega)
def f_Lc7 (a0 b1 b3 b5 : Nat) (s7 : Int32) (j10 : Unit → tw_Mem → Prop) (k : Int32 → tw_Mem → Prop) : tw_Mem → Prop :=
  tw_li a0 (s7 + (1 : Int32)) fun x62 => tw_li a0 (s7 + (2 : Int32)) fun x63 => f_L_rung b1 x62 x63 b5 (fun x64 => tw_li a0 (s7 + (1 : Int32)) fun x65 => tw_li a0 (s7 + (2 : Int32)) fun x66 => tw_iv 11 b3 (f_X12_rung b3 x65 x66 (fun x67 => tw_iv 11 b3 (f_X12_thrown b3 (fun x68 => tw_if (x68 = x64) (tw_jn (fun (s70 : Unit) => j10 ()) (fun j69 => tw_if (x64 = 0) (tw_ll b5 (0 : Int32) fun x71 => tw_if ((lg_cmp x71 (x67.toInt64)) = 0) (j69 ()) (tw_rz (0 : Int32) (k (0 : Int32)))) (j69 ()))) (tw_rz (0 : Int32) (k (0 : Int32))))))))
set_option maxHeartbeats 4000000 in
set_option maxRecDepth 100000 in
theorem C_Lc7 {g : tw_Gx} {Q : tw_Rs → tw_Mem → Prop} (a0 b1 b3 b5 : Nat) (s7 : Int32) (hP7 : s7.toNatClampNeg ≤ 3072) (j10 : Unit → tw_Mem → Prop) (g10 : ∀ z : Unit, tw_C g mL_law_ 1300 601024 7293034 Q 2993 [some (.ref a0), some (.ref b1), some (.ref b3), some (.ref b5), some (.int s7), none, none] [] (182 + s7.toNatClampNeg + 6) (20089 + 300 * s7.toNatClampNeg + 1626) (j10 z)) : tw_C g mL_law_ 1300 601024 7293034 Q 611 [some (.ref a0), some (.ref b1), some (.ref b3), some (.ref b5), some (.int s7), none, none] [] (182 + s7.toNatClampNeg + 0) (20089 + 300 * s7.toNatClampNeg + 0) (f_Lc7 a0 b1 b3 b5 s7 j10 (fun v => Q (.inl (some (.int v))))) := by
  have g10 := fun z => tw_Ctab (r' := (tw_tb mLc7)) dk_L_law_ (g10 z)
  change ∀ z : Unit, tw_C g mLc7 _ _ _ _ _ _ _ _ _ _ at g10
  refine tw_Ctab (r := (tw_tb mLc7)) dk_Lc7 ?_
  show tw_C g mLc7 _ _ _ _ _ _ _ _ _ _
  unfold f_Lc7
  refine tw_aload_n (k := 0) rfl rfl ?_
  refine tw_aload_n (k := 1) rfl rfl ?_
  refine tw_iload (k := 2) rfl rfl ?_
  refine tw_iconst (k := 3) (1 : Int32) rfl (by decide) ?_
  refine tw_iadd (k := 4) rfl ?_
  refine tw_iaload (k := 5) rfl (fun x62 => ?_)
  refine tw_aload_n (k := 6) rfl rfl ?_
  refine tw_iload (k := 7) rfl rfl ?_
  refine tw_iconst (k := 8) (2 : Int32) rfl (by decide) ?_
  refine tw_iadd (k := 9) rfl ?_
  refine tw_iaload (k := 10) rfl (fun x63 => ?_)
  refine tw_aload_n (k := 11) rfl rfl ?_
  refine tw_callSW (k := 12) (d' := 9) (mc' := 3) (ms' := 18) tw_cI tw_cIi [.ref b1, .int x62, .int x63, .ref b5] rfl rfl wx_RL_169_L_rung mo_L_rung rfl (fun Q9 => K_L_rung Q9 b1 x62 x63 b5) (by omega) (by omega) (by omega) (Nat.le_of_ble_eq_true rfl) (fun x64 => ?_)
  refine tw_ist (k := 13) [some (.ref a0), some (.ref b1), some (.ref b3), some (.ref b5), some (.int s7), some (.int x64), none] rfl (Nat.le_of_ble_eq_true rfl) rfl rfl ?_
  refine tw_aload_n (k := 14) rfl rfl ?_
  refine tw_aload_n (k := 15) rfl rfl ?_
  refine tw_iload (k := 16) rfl rfl ?_
  refine tw_iconst (k := 17) (1 : Int32) rfl (by decide) ?_
  refine tw_iadd (k := 18) rfl ?_
  refine tw_iaload (k := 19) rfl (fun x65 => ?_)
  refine tw_aload_n (k := 20) rfl rfl ?_
  refine tw_iload (k := 21) rfl rfl ?_
  refine tw_iconst (k := 22) (2 : Int32) rfl (by decide) ?_
  refine tw_iadd (k := 23) rfl ?_
  refine tw_iaload (k := 24) rfl (fun x66 => ?_)
  refine tw_callV (k := 25) (d' := 4) (mc' := 0) (ms' := 0) tw_cI tw_cIi [.int x65, .int x66] rfl rfl wv_RL_171_X12_rung mo_X12_rung (t := 11) rfl rfl rfl (fun Q9 => K_X12_rung Q9 b3 x65 x66) (by omega) (by omega) (by omega) (Nat.le_of_ble_eq_true rfl) (fun x67 => ?_)
  refine tw_ist (k := 26) [some (.ref a0), some (.ref b1), some (.ref b3), some (.ref b5), some (.int s7), some (.int x64), some (.int x67)] rfl (Nat.le_of_ble_eq_true rfl) rfl rfl ?_
  refine tw_aload_n (k := 27) rfl rfl ?_
  refine tw_callV (k := 28) (d' := 1) (mc' := 0) (ms' := 0) tw_cI tw_cIi [] rfl rfl wv_RL_152_X12_thrown mo_X12_thrown (t := 11) rfl rfl rfl (fun Q9 => K_X12_thrown Q9 b3) (by omega) (by omega) (by omega) (Nat.le_of_ble_eq_true rfl) (fun x68 => ?_)
  refine tw_iload (k := 29) rfl rfl ?_
  refine tw_icmp_eq (k := 30) 659 rfl (by decide) ?_ ?_
  · refine tw_iload (k := 33) rfl rfl ?_
    refine tw_join 676 (fun s70 => [some (.ref a0), some (.ref b1), some (.ref b3), some (.ref b5), some (.int s7), some (.int x64), some (.int x67)]) (fun s70 => []) (182 + s7.toNatClampNeg + 3) (20089 + 300 * s7.toNatClampNeg + 18) (fun s70 => ?_) (fun j69 g69 => ?_)
    · refine tw_goto (k := 44) 2993 rfl (by decide) ?_
      refine tw_wide (k2 := (182 + s7.toNatClampNeg + 6)) (s2 := (20089 + 300 * s7.toNatClampNeg + 1626)) (by omega) (by omega) ?_
      exact tw_wk (L' := [some (.ref a0), some (.ref b1), some (.ref b3), some (.ref b5), some (.int s7), none, none]) ⟨Or.inr rfl, Or.inr rfl, Or.inr rfl, Or.inr rfl, Or.inr rfl, Or.inl rfl, Or.inl rfl, trivial⟩ (g10 ())
    · refine tw_if_ne (k := 34) 676 rfl (by decide) ?_ ?_
      · exact g69 ()
      · refine tw_aload_n (k := 35) rfl rfl ?_
        refine tw_iconst (k := 36) (0 : Int32) rfl (by decide) ?_
        refine tw_laload (k := 37) rfl (fun x71 => ?_)
        refine tw_iload (k := 38) rfl rfl ?_
        refine tw_i2l (k := 39) rfl ?_
        refine tw_lcmp (k := 40) rfl ?_
        refine tw_if_eq (k := 41) 676 rfl (by decide) ?_ ?_
        · exact g69 ()
        · refine tw_iconst (k := 42) (0 : Int32) rfl (by decide) ?_
          exact tw_zreturn (k := 43) rfl rfl (by omega) (by omega)
  · refine tw_iconst (k := 31) (0 : Int32) rfl (by decide) ?_
    exact tw_zreturn (k := 32) rfl rfl (by omega) (by omega)
def f_Lc8 (a0 b1 b3 b5 : Nat) (s7 : Int32) (j10 : Unit → tw_Mem → Prop) (k : Int32 → tw_Mem → Prop) : tw_Mem → Prop :=
  tw_li a0 (s7 + (1 : Int32)) fun x72 => tw_li a0 (s7 + (2 : Int32)) fun x73 => f_L_sounds b1 x72 x73 b5 (fun x74 => tw_li a0 (s7 + (1 : Int32)) fun x75 => tw_li a0 (s7 + (2 : Int32)) fun x76 => tw_iv 11 b3 (f_X12_sounds b3 x75 x76 (fun x77 => tw_iv 11 b3 (f_X12_thrown b3 (fun x78 => tw_if (x78 = x74) (tw_jn (fun (s80 : Unit) => j10 ()) (fun j79 => tw_if (x74 = 0) (tw_ll b5 (0 : Int32) fun x81 => tw_if ((lg_cmp x81 (x77.toInt64)) = 0) (j79 ()) (tw_rz (0 : Int32) (k (0 : Int32)))) (j79 ()))) (tw_rz (0 : Int32) (k (0 : Int32))))))))
set_option maxHeartbeats 4000000 in
set_option maxRecDepth 100000 in
theorem C_Lc8 {g : tw_Gx} {Q : tw_Rs → tw_Mem → Prop} (a0 b1 b3 b5 : Nat) (s7 : Int32) (hP7 : s7.toNatClampNeg ≤ 3072) (j10 : Unit → tw_Mem → Prop) (g10 : ∀ z : Unit, tw_C g mL_law_ 1300 601024 7293034 Q 2993 [some (.ref a0), some (.ref b1), some (.ref b3), some (.ref b5), some (.int s7), none, none] [] (182 + s7.toNatClampNeg + 6) (20089 + 300 * s7.toNatClampNeg + 1626) (j10 z)) : tw_C g mL_law_ 1300 601024 7293034 Q 679 [some (.ref a0), some (.ref b1), some (.ref b3), some (.ref b5), some (.int s7), none, none] [] (182 + s7.toNatClampNeg + 0) (20089 + 300 * s7.toNatClampNeg + 0) (f_Lc8 a0 b1 b3 b5 s7 j10 (fun v => Q (.inl (some (.int v))))) := by
  have g10 := fun z => tw_Ctab (r' := (tw_tb mLc8)) dk_L_law_ (g10 z)
  change ∀ z : Unit, tw_C g mLc8 _ _ _ _ _ _ _ _ _ _ at g10
  refine tw_Ctab (r := (tw_tb mLc8)) dk_Lc8 ?_
  show tw_C g mLc8 _ _ _ _ _ _ _ _ _ _
  unfold f_Lc8
  refine tw_aload_n (k := 0) rfl rfl ?_
  refine tw_aload_n (k := 1) rfl rfl ?_
  refine tw_iload (k := 2) rfl rfl ?_
  refine tw_iconst (k := 3) (1 : Int32) rfl (by decide) ?_
  refine tw_iadd (k := 4) rfl ?_
  refine tw_iaload (k := 5) rfl (fun x72 => ?_)
  refine tw_aload_n (k := 6) rfl rfl ?_
  refine tw_iload (k := 7) rfl rfl ?_
  refine tw_iconst (k := 8) (2 : Int32) rfl (by decide) ?_
  refine tw_iadd (k := 9) rfl ?_
  refine tw_iaload (k := 10) rfl (fun x73 => ?_)
  refine tw_aload_n (k := 11) rfl rfl ?_
  refine tw_callSW (k := 12) (d' := 9) (mc' := 3) (ms' := 18) tw_cI tw_cIi [.ref b1, .int x72, .int x73, .ref b5] rfl rfl wx_RL_172_L_sounds mo_L_sounds rfl (fun Q9 => K_L_sounds Q9 b1 x72 x73 b5) (by omega) (by omega) (by omega) (Nat.le_of_ble_eq_true rfl) (fun x74 => ?_)
  refine tw_ist (k := 13) [some (.ref a0), some (.ref b1), some (.ref b3), some (.ref b5), some (.int s7), some (.int x74), none] rfl (Nat.le_of_ble_eq_true rfl) rfl rfl ?_
  refine tw_aload_n (k := 14) rfl rfl ?_
  refine tw_aload_n (k := 15) rfl rfl ?_
  refine tw_iload (k := 16) rfl rfl ?_
  refine tw_iconst (k := 17) (1 : Int32) rfl (by decide) ?_
  refine tw_iadd (k := 18) rfl ?_
  refine tw_iaload (k := 19) rfl (fun x75 => ?_)
  refine tw_aload_n (k := 20) rfl rfl ?_
  refine tw_iload (k := 21) rfl rfl ?_
  refine tw_iconst (k := 22) (2 : Int32) rfl (by decide) ?_
  refine tw_iadd (k := 23) rfl ?_
  refine tw_iaload (k := 24) rfl (fun x76 => ?_)
  refine tw_callV (k := 25) (d' := 8) (mc' := 0) (ms' := 0) tw_cI tw_cIi [.int x75, .int x76] rfl rfl wv_RL_174_X12_sounds mo_X12_sounds (t := 11) rfl rfl rfl (fun Q9 => K_X12_sounds Q9 b3 x75 x76) (by omega) (by omega) (by omega) (Nat.le_of_ble_eq_true rfl) (fun x77 => ?_)
  refine tw_ist (k := 26) [some (.ref a0), some (.ref b1), some (.ref b3), some (.ref b5), some (.int s7), some (.int x74), some (.int x77)] rfl (Nat.le_of_ble_eq_true rfl) rfl rfl ?_
  refine tw_aload_n (k := 27) rfl rfl ?_
  refine tw_callV (k := 28) (d' := 1) (mc' := 0) (ms' := 0) tw_cI tw_cIi [] rfl rfl wv_RL_152_X12_thrown mo_X12_thrown (t := 11) rfl rfl rfl (fun Q9 => K_X12_thrown Q9 b3) (by omega) (by omega) (by omega) (Nat.le_of_ble_eq_true rfl) (fun x78 => ?_)
  refine tw_iload (k := 29) rfl rfl ?_
  refine tw_icmp_eq (k := 30) 727 rfl (by decide) ?_ ?_
  · refine tw_iload (k := 33) rfl rfl ?_
    refine tw_join 744 (fun s80 => [some (.ref a0), some (.ref b1), some (.ref b3), some (.ref b5), some (.int s7), some (.int x74), some (.int x77)]) (fun s80 => []) (182 + s7.toNatClampNeg + 3) (20089 + 300 * s7.toNatClampNeg + 18) (fun s80 => ?_) (fun j79 g79 => ?_)
    · refine tw_goto (k := 44) 2993 rfl (by decide) ?_
      refine tw_wide (k2 := (182 + s7.toNatClampNeg + 6)) (s2 := (20089 + 300 * s7.toNatClampNeg + 1626)) (by omega) (by omega) ?_
      exact tw_wk (L' := [some (.ref a0), some (.ref b1), some (.ref b3), some (.ref b5), some (.int s7), none, none]) ⟨Or.inr rfl, Or.inr rfl, Or.inr rfl, Or.inr rfl, Or.inr rfl, Or.inl rfl, Or.inl rfl, trivial⟩ (g10 ())
    · refine tw_if_ne (k := 34) 744 rfl (by decide) ?_ ?_
      · exact g79 ()
      · refine tw_aload_n (k := 35) rfl rfl ?_
        refine tw_iconst (k := 36) (0 : Int32) rfl (by decide) ?_
        refine tw_laload (k := 37) rfl (fun x81 => ?_)
        refine tw_iload (k := 38) rfl rfl ?_
        refine tw_i2l (k := 39) rfl ?_
        refine tw_lcmp (k := 40) rfl ?_
        refine tw_if_eq (k := 41) 744 rfl (by decide) ?_ ?_
        · exact g79 ()
        · refine tw_iconst (k := 42) (0 : Int32) rfl (by decide) ?_
          exact tw_zreturn (k := 43) rfl rfl (by omega) (by omega)
  · refine tw_iconst (k := 31) (0 : Int32) rfl (by decide) ?_
    exact tw_zreturn (k := 32) rfl rfl (by omega) (by omega)
def f_Lc9 (a0 b1 b3 b5 : Nat) (s7 : Int32) (j10 : Unit → tw_Mem → Prop) (k : Int32 → tw_Mem → Prop) : tw_Mem → Prop :=
  tw_li a0 (s7 + (1 : Int32)) fun x82 => tw_li a0 (s7 + (2 : Int32)) fun x83 => f_L_lets b1 x82 x83 b5 (fun x84 => tw_li a0 (s7 + (1 : Int32)) fun x85 => tw_li a0 (s7 + (2 : Int32)) fun x86 => tw_iv 11 b3 (f_X12_lets b3 x85 x86 (fun x87 => tw_iv 11 b3 (f_X12_thrown b3 (fun x88 => tw_if (x88 = x84) (tw_jn (fun (s90 : Unit) => j10 ()) (fun j89 => tw_if (x84 = 0) (tw_ll b5 (0 : Int32) fun x91 => tw_if ((lg_cmp x91 (x87.toInt64)) = 0) (j89 ()) (tw_rz (0 : Int32) (k (0 : Int32)))) (j89 ()))) (tw_rz (0 : Int32) (k (0 : Int32))))))))
set_option maxHeartbeats 4000000 in
set_option maxRecDepth 100000 in
theorem C_Lc9 {g : tw_Gx} {Q : tw_Rs → tw_Mem → Prop} (a0 b1 b3 b5 : Nat) (s7 : Int32) (hP7 : s7.toNatClampNeg ≤ 3072) (j10 : Unit → tw_Mem → Prop) (g10 : ∀ z : Unit, tw_C g mL_law_ 1300 601024 7293034 Q 2993 [some (.ref a0), some (.ref b1), some (.ref b3), some (.ref b5), some (.int s7), none, none] [] (182 + s7.toNatClampNeg + 6) (20089 + 300 * s7.toNatClampNeg + 1626) (j10 z)) : tw_C g mL_law_ 1300 601024 7293034 Q 747 [some (.ref a0), some (.ref b1), some (.ref b3), some (.ref b5), some (.int s7), none, none] [] (182 + s7.toNatClampNeg + 0) (20089 + 300 * s7.toNatClampNeg + 0) (f_Lc9 a0 b1 b3 b5 s7 j10 (fun v => Q (.inl (some (.int v))))) := by
  have g10 := fun z => tw_Ctab (r' := (tw_tb mLc9)) dk_L_law_ (g10 z)
  change ∀ z : Unit, tw_C g mLc9 _ _ _ _ _ _ _ _ _ _ at g10
  refine tw_Ctab (r := (tw_tb mLc9)) dk_Lc9 ?_
  show tw_C g mLc9 _ _ _ _ _ _ _ _ _ _
  unfold f_Lc9
  refine tw_aload_n (k := 0) rfl rfl ?_
  refine tw_aload_n (k := 1) rfl rfl ?_
  refine tw_iload (k := 2) rfl rfl ?_
  refine tw_iconst (k := 3) (1 : Int32) rfl (by decide) ?_
  refine tw_iadd (k := 4) rfl ?_
  refine tw_iaload (k := 5) rfl (fun x82 => ?_)
  refine tw_aload_n (k := 6) rfl rfl ?_
  refine tw_iload (k := 7) rfl rfl ?_
  refine tw_iconst (k := 8) (2 : Int32) rfl (by decide) ?_
  refine tw_iadd (k := 9) rfl ?_
  refine tw_iaload (k := 10) rfl (fun x83 => ?_)
  refine tw_aload_n (k := 11) rfl rfl ?_
  refine tw_callSW (k := 12) (d' := 9) (mc' := 3) (ms' := 18) tw_cI tw_cIi [.ref b1, .int x82, .int x83, .ref b5] rfl rfl wx_RL_175_L_lets mo_L_lets rfl (fun Q9 => K_L_lets Q9 b1 x82 x83 b5) (by omega) (by omega) (by omega) (Nat.le_of_ble_eq_true rfl) (fun x84 => ?_)
  refine tw_ist (k := 13) [some (.ref a0), some (.ref b1), some (.ref b3), some (.ref b5), some (.int s7), some (.int x84), none] rfl (Nat.le_of_ble_eq_true rfl) rfl rfl ?_
  refine tw_aload_n (k := 14) rfl rfl ?_
  refine tw_aload_n (k := 15) rfl rfl ?_
  refine tw_iload (k := 16) rfl rfl ?_
  refine tw_iconst (k := 17) (1 : Int32) rfl (by decide) ?_
  refine tw_iadd (k := 18) rfl ?_
  refine tw_iaload (k := 19) rfl (fun x85 => ?_)
  refine tw_aload_n (k := 20) rfl rfl ?_
  refine tw_iload (k := 21) rfl rfl ?_
  refine tw_iconst (k := 22) (2 : Int32) rfl (by decide) ?_
  refine tw_iadd (k := 23) rfl ?_
  refine tw_iaload (k := 24) rfl (fun x86 => ?_)
  refine tw_callV (k := 25) (d' := 8) (mc' := 0) (ms' := 0) tw_cI tw_cIi [.int x85, .int x86] rfl rfl wv_RL_177_X12_lets mo_X12_lets (t := 11) rfl rfl rfl (fun Q9 => K_X12_lets Q9 b3 x85 x86) (by omega) (by omega) (by omega) (Nat.le_of_ble_eq_true rfl) (fun x87 => ?_)
  refine tw_ist (k := 26) [some (.ref a0), some (.ref b1), some (.ref b3), some (.ref b5), some (.int s7), some (.int x84), some (.int x87)] rfl (Nat.le_of_ble_eq_true rfl) rfl rfl ?_
  refine tw_aload_n (k := 27) rfl rfl ?_
  refine tw_callV (k := 28) (d' := 1) (mc' := 0) (ms' := 0) tw_cI tw_cIi [] rfl rfl wv_RL_152_X12_thrown mo_X12_thrown (t := 11) rfl rfl rfl (fun Q9 => K_X12_thrown Q9 b3) (by omega) (by omega) (by omega) (Nat.le_of_ble_eq_true rfl) (fun x88 => ?_)
  refine tw_iload (k := 29) rfl rfl ?_
  refine tw_icmp_eq (k := 30) 795 rfl (by decide) ?_ ?_
  · refine tw_iload (k := 33) rfl rfl ?_
    refine tw_join 812 (fun s90 => [some (.ref a0), some (.ref b1), some (.ref b3), some (.ref b5), some (.int s7), some (.int x84), some (.int x87)]) (fun s90 => []) (182 + s7.toNatClampNeg + 3) (20089 + 300 * s7.toNatClampNeg + 18) (fun s90 => ?_) (fun j89 g89 => ?_)
    · refine tw_goto (k := 44) 2993 rfl (by decide) ?_
      refine tw_wide (k2 := (182 + s7.toNatClampNeg + 6)) (s2 := (20089 + 300 * s7.toNatClampNeg + 1626)) (by omega) (by omega) ?_
      exact tw_wk (L' := [some (.ref a0), some (.ref b1), some (.ref b3), some (.ref b5), some (.int s7), none, none]) ⟨Or.inr rfl, Or.inr rfl, Or.inr rfl, Or.inr rfl, Or.inr rfl, Or.inl rfl, Or.inl rfl, trivial⟩ (g10 ())
    · refine tw_if_ne (k := 34) 812 rfl (by decide) ?_ ?_
      · exact g89 ()
      · refine tw_aload_n (k := 35) rfl rfl ?_
        refine tw_iconst (k := 36) (0 : Int32) rfl (by decide) ?_
        refine tw_laload (k := 37) rfl (fun x91 => ?_)
        refine tw_iload (k := 38) rfl rfl ?_
        refine tw_i2l (k := 39) rfl ?_
        refine tw_lcmp (k := 40) rfl ?_
        refine tw_if_eq (k := 41) 812 rfl (by decide) ?_ ?_
        · exact g89 ()
        · refine tw_iconst (k := 42) (0 : Int32) rfl (by decide) ?_
          exact tw_zreturn (k := 43) rfl rfl (by omega) (by omega)
  · refine tw_iconst (k := 31) (0 : Int32) rfl (by decide) ?_
    exact tw_zreturn (k := 32) rfl rfl (by omega) (by omega)
def f_Lc10 (a0 b1 b3 b5 : Nat) (s7 : Int32) (j10 : Unit → tw_Mem → Prop) (k : Int32 → tw_Mem → Prop) : tw_Mem → Prop :=
  tw_li a0 (s7 + (1 : Int32)) fun x92 => tw_li a0 (s7 + (2 : Int32)) fun x93 => f_L_both b1 x92 x93 b5 (fun x94 => tw_li a0 (s7 + (1 : Int32)) fun x95 => tw_li a0 (s7 + (2 : Int32)) fun x96 => tw_iv 11 b3 (f_X12_both b3 x95 x96 (fun x97 => tw_iv 11 b3 (f_X12_thrown b3 (fun x98 => tw_if (x98 = x94) (tw_jn (fun (s100 : Unit) => j10 ()) (fun j99 => tw_if (x94 = 0) (tw_ll b5 (0 : Int32) fun x101 => tw_if ((lg_cmp x101 (x97.toInt64)) = 0) (j99 ()) (tw_rz (0 : Int32) (k (0 : Int32)))) (j99 ()))) (tw_rz (0 : Int32) (k (0 : Int32))))))))
set_option maxHeartbeats 4000000 in
set_option maxRecDepth 100000 in
theorem C_Lc10 {g : tw_Gx} {Q : tw_Rs → tw_Mem → Prop} (a0 b1 b3 b5 : Nat) (s7 : Int32) (hP7 : s7.toNatClampNeg ≤ 3072) (j10 : Unit → tw_Mem → Prop) (g10 : ∀ z : Unit, tw_C g mL_law_ 1300 601024 7293034 Q 2993 [some (.ref a0), some (.ref b1), some (.ref b3), some (.ref b5), some (.int s7), none, none] [] (182 + s7.toNatClampNeg + 6) (20089 + 300 * s7.toNatClampNeg + 1626) (j10 z)) : tw_C g mL_law_ 1300 601024 7293034 Q 815 [some (.ref a0), some (.ref b1), some (.ref b3), some (.ref b5), some (.int s7), none, none] [] (182 + s7.toNatClampNeg + 0) (20089 + 300 * s7.toNatClampNeg + 0) (f_Lc10 a0 b1 b3 b5 s7 j10 (fun v => Q (.inl (some (.int v))))) := by
  have g10 := fun z => tw_Ctab (r' := (tw_tb mLc10)) dk_L_law_ (g10 z)
  change ∀ z : Unit, tw_C g mLc10 _ _ _ _ _ _ _ _ _ _ at g10
  refine tw_Ctab (r := (tw_tb mLc10)) dk_Lc10 ?_
  show tw_C g mLc10 _ _ _ _ _ _ _ _ _ _
  unfold f_Lc10
  refine tw_aload_n (k := 0) rfl rfl ?_
  refine tw_aload_n (k := 1) rfl rfl ?_
  refine tw_iload (k := 2) rfl rfl ?_
  refine tw_iconst (k := 3) (1 : Int32) rfl (by decide) ?_
  refine tw_iadd (k := 4) rfl ?_
  refine tw_iaload (k := 5) rfl (fun x92 => ?_)
  refine tw_aload_n (k := 6) rfl rfl ?_
  refine tw_iload (k := 7) rfl rfl ?_
  refine tw_iconst (k := 8) (2 : Int32) rfl (by decide) ?_
  refine tw_iadd (k := 9) rfl ?_
  refine tw_iaload (k := 10) rfl (fun x93 => ?_)
  refine tw_aload_n (k := 11) rfl rfl ?_
  refine tw_callSW (k := 12) (d' := 9) (mc' := 3) (ms' := 18) tw_cI tw_cIi [.ref b1, .int x92, .int x93, .ref b5] rfl rfl wx_RL_178_L_both mo_L_both rfl (fun Q9 => K_L_both Q9 b1 x92 x93 b5) (by omega) (by omega) (by omega) (Nat.le_of_ble_eq_true rfl) (fun x94 => ?_)
  refine tw_ist (k := 13) [some (.ref a0), some (.ref b1), some (.ref b3), some (.ref b5), some (.int s7), some (.int x94), none] rfl (Nat.le_of_ble_eq_true rfl) rfl rfl ?_
  refine tw_aload_n (k := 14) rfl rfl ?_
  refine tw_aload_n (k := 15) rfl rfl ?_
  refine tw_iload (k := 16) rfl rfl ?_
  refine tw_iconst (k := 17) (1 : Int32) rfl (by decide) ?_
  refine tw_iadd (k := 18) rfl ?_
  refine tw_iaload (k := 19) rfl (fun x95 => ?_)
  refine tw_aload_n (k := 20) rfl rfl ?_
  refine tw_iload (k := 21) rfl rfl ?_
  refine tw_iconst (k := 22) (2 : Int32) rfl (by decide) ?_
  refine tw_iadd (k := 23) rfl ?_
  refine tw_iaload (k := 24) rfl (fun x96 => ?_)
  refine tw_callV (k := 25) (d' := 5) (mc' := 0) (ms' := 0) tw_cI tw_cIi [.int x95, .int x96] rfl rfl wv_RL_180_X12_both mo_X12_both (t := 11) rfl rfl rfl (fun Q9 => K_X12_both Q9 b3 x95 x96) (by omega) (by omega) (by omega) (Nat.le_of_ble_eq_true rfl) (fun x97 => ?_)
  refine tw_ist (k := 26) [some (.ref a0), some (.ref b1), some (.ref b3), some (.ref b5), some (.int s7), some (.int x94), some (.int x97)] rfl (Nat.le_of_ble_eq_true rfl) rfl rfl ?_
  refine tw_aload_n (k := 27) rfl rfl ?_
  refine tw_callV (k := 28) (d' := 1) (mc' := 0) (ms' := 0) tw_cI tw_cIi [] rfl rfl wv_RL_152_X12_thrown mo_X12_thrown (t := 11) rfl rfl rfl (fun Q9 => K_X12_thrown Q9 b3) (by omega) (by omega) (by omega) (Nat.le_of_ble_eq_true rfl) (fun x98 => ?_)
  refine tw_iload (k := 29) rfl rfl ?_
  refine tw_icmp_eq (k := 30) 863 rfl (by decide) ?_ ?_
  · refine tw_iload (k := 33) rfl rfl ?_
    refine tw_join 880 (fun s100 => [some (.ref a0), some (.ref b1), some (.ref b3), some (.ref b5), some (.int s7), some (.int x94), some (.int x97)]) (fun s100 => []) (182 + s7.toNatClampNeg + 3) (20089 + 300 * s7.toNatClampNeg + 18) (fun s100 => ?_) (fun j99 g99 => ?_)
    · refine tw_goto (k := 44) 2993 rfl (by decide) ?_
      refine tw_wide (k2 := (182 + s7.toNatClampNeg + 6)) (s2 := (20089 + 300 * s7.toNatClampNeg + 1626)) (by omega) (by omega) ?_
      exact tw_wk (L' := [some (.ref a0), some (.ref b1), some (.ref b3), some (.ref b5), some (.int s7), none, none]) ⟨Or.inr rfl, Or.inr rfl, Or.inr rfl, Or.inr rfl, Or.inr rfl, Or.inl rfl, Or.inl rfl, trivial⟩ (g10 ())
    · refine tw_if_ne (k := 34) 880 rfl (by decide) ?_ ?_
      · exact g99 ()
      · refine tw_aload_n (k := 35) rfl rfl ?_
        refine tw_iconst (k := 36) (0 : Int32) rfl (by decide) ?_
        refine tw_laload (k := 37) rfl (fun x101 => ?_)
        refine tw_iload (k := 38) rfl rfl ?_
        refine tw_i2l (k := 39) rfl ?_
        refine tw_lcmp (k := 40) rfl ?_
        refine tw_if_eq (k := 41) 880 rfl (by decide) ?_ ?_
        · exact g99 ()
        · refine tw_iconst (k := 42) (0 : Int32) rfl (by decide) ?_
          exact tw_zreturn (k := 43) rfl rfl (by omega) (by omega)
  · refine tw_iconst (k := 31) (0 : Int32) rfl (by decide) ?_
    exact tw_zreturn (k := 32) rfl rfl (by omega) (by omega)
def f_Lc11 (a0 b1 b3 b5 : Nat) (s7 : Int32) (j10 : Unit → tw_Mem → Prop) (k : Int32 → tw_Mem → Prop) : tw_Mem → Prop :=
  tw_li a0 (s7 + (1 : Int32)) fun x102 => tw_li a0 (s7 + (2 : Int32)) fun x103 => f_L_plan b1 x102 x103 b5 (fun x104 => tw_li a0 (s7 + (1 : Int32)) fun x105 => tw_li a0 (s7 + (2 : Int32)) fun x106 => tw_iv 11 b3 (f_X12_plan b3 x105 x106 (fun x107 => tw_iv 11 b3 (f_X12_thrown b3 (fun x108 => tw_if (x108 = x104) (tw_jn (fun (s110 : Unit) => j10 ()) (fun j109 => tw_if (x104 = 0) (tw_ll b5 (0 : Int32) fun x111 => tw_if ((lg_cmp x111 (x107.toInt64)) = 0) (j109 ()) (tw_rz (0 : Int32) (k (0 : Int32)))) (j109 ()))) (tw_rz (0 : Int32) (k (0 : Int32))))))))
set_option maxHeartbeats 4000000 in
set_option maxRecDepth 100000 in
theorem C_Lc11 {g : tw_Gx} {Q : tw_Rs → tw_Mem → Prop} (a0 b1 b3 b5 : Nat) (s7 : Int32) (hP7 : s7.toNatClampNeg ≤ 3072) (j10 : Unit → tw_Mem → Prop) (g10 : ∀ z : Unit, tw_C g mL_law_ 1300 601024 7293034 Q 2993 [some (.ref a0), some (.ref b1), some (.ref b3), some (.ref b5), some (.int s7), none, none] [] (182 + s7.toNatClampNeg + 6) (20089 + 300 * s7.toNatClampNeg + 1626) (j10 z)) : tw_C g mL_law_ 1300 601024 7293034 Q 883 [some (.ref a0), some (.ref b1), some (.ref b3), some (.ref b5), some (.int s7), none, none] [] (182 + s7.toNatClampNeg + 0) (20089 + 300 * s7.toNatClampNeg + 0) (f_Lc11 a0 b1 b3 b5 s7 j10 (fun v => Q (.inl (some (.int v))))) := by
  have g10 := fun z => tw_Ctab (r' := (tw_tb mLc11)) dk_L_law_ (g10 z)
  change ∀ z : Unit, tw_C g mLc11 _ _ _ _ _ _ _ _ _ _ at g10
  refine tw_Ctab (r := (tw_tb mLc11)) dk_Lc11 ?_
  show tw_C g mLc11 _ _ _ _ _ _ _ _ _ _
  unfold f_Lc11
  refine tw_aload_n (k := 0) rfl rfl ?_
  refine tw_aload_n (k := 1) rfl rfl ?_
  refine tw_iload (k := 2) rfl rfl ?_
  refine tw_iconst (k := 3) (1 : Int32) rfl (by decide) ?_
  refine tw_iadd (k := 4) rfl ?_
  refine tw_iaload (k := 5) rfl (fun x102 => ?_)
  refine tw_aload_n (k := 6) rfl rfl ?_
  refine tw_iload (k := 7) rfl rfl ?_
  refine tw_iconst (k := 8) (2 : Int32) rfl (by decide) ?_
  refine tw_iadd (k := 9) rfl ?_
  refine tw_iaload (k := 10) rfl (fun x103 => ?_)
  refine tw_aload_n (k := 11) rfl rfl ?_
  refine tw_callSW (k := 12) (d' := 8) (mc' := 2) (ms' := 12) tw_cI tw_cIi [.ref b1, .int x102, .int x103, .ref b5] rfl rfl wx_RL_181_L_plan mo_L_plan rfl (fun Q9 => K_L_plan Q9 b1 x102 x103 b5) (by omega) (by omega) (by omega) (Nat.le_of_ble_eq_true rfl) (fun x104 => ?_)
  refine tw_ist (k := 13) [some (.ref a0), some (.ref b1), some (.ref b3), some (.ref b5), some (.int s7), some (.int x104), none] rfl (Nat.le_of_ble_eq_true rfl) rfl rfl ?_
  refine tw_aload_n (k := 14) rfl rfl ?_
  refine tw_aload_n (k := 15) rfl rfl ?_
  refine tw_iload (k := 16) rfl rfl ?_
  refine tw_iconst (k := 17) (1 : Int32) rfl (by decide) ?_
  refine tw_iadd (k := 18) rfl ?_
  refine tw_iaload (k := 19) rfl (fun x105 => ?_)
  refine tw_aload_n (k := 20) rfl rfl ?_
  refine tw_iload (k := 21) rfl rfl ?_
  refine tw_iconst (k := 22) (2 : Int32) rfl (by decide) ?_
  refine tw_iadd (k := 23) rfl ?_
  refine tw_iaload (k := 24) rfl (fun x106 => ?_)
  refine tw_callV (k := 25) (d' := 3) (mc' := 0) (ms' := 0) tw_cI tw_cIi [.int x105, .int x106] rfl rfl wv_RL_183_X12_plan mo_X12_plan (t := 11) rfl rfl rfl (fun Q9 => K_X12_plan Q9 b3 x105 x106) (by omega) (by omega) (by omega) (Nat.le_of_ble_eq_true rfl) (fun x107 => ?_)
  refine tw_ist (k := 26) [some (.ref a0), some (.ref b1), some (.ref b3), some (.ref b5), some (.int s7), some (.int x104), some (.int x107)] rfl (Nat.le_of_ble_eq_true rfl) rfl rfl ?_
  refine tw_aload_n (k := 27) rfl rfl ?_
  refine tw_callV (k := 28) (d' := 1) (mc' := 0) (ms' := 0) tw_cI tw_cIi [] rfl rfl wv_RL_152_X12_thrown mo_X12_thrown (t := 11) rfl rfl rfl (fun Q9 => K_X12_thrown Q9 b3) (by omega) (by omega) (by omega) (Nat.le_of_ble_eq_true rfl) (fun x108 => ?_)
  refine tw_iload (k := 29) rfl rfl ?_
  refine tw_icmp_eq (k := 30) 931 rfl (by decide) ?_ ?_
  · refine tw_iload (k := 33) rfl rfl ?_
    refine tw_join 948 (fun s110 => [some (.ref a0), some (.ref b1), some (.ref b3), some (.ref b5), some (.int s7), some (.int x104), some (.int x107)]) (fun s110 => []) (182 + s7.toNatClampNeg + 2) (20089 + 300 * s7.toNatClampNeg + 12) (fun s110 => ?_) (fun j109 g109 => ?_)
    · refine tw_goto (k := 44) 2993 rfl (by decide) ?_
      refine tw_wide (k2 := (182 + s7.toNatClampNeg + 6)) (s2 := (20089 + 300 * s7.toNatClampNeg + 1626)) (by omega) (by omega) ?_
      exact tw_wk (L' := [some (.ref a0), some (.ref b1), some (.ref b3), some (.ref b5), some (.int s7), none, none]) ⟨Or.inr rfl, Or.inr rfl, Or.inr rfl, Or.inr rfl, Or.inr rfl, Or.inl rfl, Or.inl rfl, trivial⟩ (g10 ())
    · refine tw_if_ne (k := 34) 948 rfl (by decide) ?_ ?_
      · exact g109 ()
      · refine tw_aload_n (k := 35) rfl rfl ?_
        refine tw_iconst (k := 36) (0 : Int32) rfl (by decide) ?_
        refine tw_laload (k := 37) rfl (fun x111 => ?_)
        refine tw_iload (k := 38) rfl rfl ?_
        refine tw_i2l (k := 39) rfl ?_
        refine tw_lcmp (k := 40) rfl ?_
        refine tw_if_eq (k := 41) 948 rfl (by decide) ?_ ?_
        · exact g109 ()
        · refine tw_iconst (k := 42) (0 : Int32) rfl (by decide) ?_
          exact tw_zreturn (k := 43) rfl rfl (by omega) (by omega)
  · refine tw_iconst (k := 31) (0 : Int32) rfl (by decide) ?_
    exact tw_zreturn (k := 32) rfl rfl (by omega) (by omega)
def f_Lc12 (a0 b1 b3 b5 : Nat) (s7 : Int32) (j10 : Unit → tw_Mem → Prop) (k : Int32 → tw_Mem → Prop) : tw_Mem → Prop :=
  tw_li a0 (s7 + (1 : Int32)) fun x112 => f_L_tone b1 x112 b5 (fun x113 => tw_li a0 (s7 + (1 : Int32)) fun x114 => tw_iv 11 b3 (f_X12_tone b3 x114 (fun x115 => tw_iv 11 b3 (f_X12_thrown b3 (fun x116 => tw_if (x116 = x113) (tw_jn (fun (s118 : Unit) => j10 ()) (fun j117 => tw_if (x113 = 0) (tw_ll b5 (0 : Int32) fun x119 => tw_if ((lg_cmp x119 (x115.toInt64)) = 0) (j117 ()) (tw_rz (0 : Int32) (k (0 : Int32)))) (j117 ()))) (tw_rz (0 : Int32) (k (0 : Int32))))))))
set_option maxHeartbeats 4000000 in
set_option maxRecDepth 100000 in
theorem C_Lc12 {g : tw_Gx} {Q : tw_Rs → tw_Mem → Prop} (a0 b1 b3 b5 : Nat) (s7 : Int32) (hP7 : s7.toNatClampNeg ≤ 3072) (j10 : Unit → tw_Mem → Prop) (g10 : ∀ z : Unit, tw_C g mL_law_ 1300 601024 7293034 Q 2993 [some (.ref a0), some (.ref b1), some (.ref b3), some (.ref b5), some (.int s7), none, none] [] (182 + s7.toNatClampNeg + 6) (20089 + 300 * s7.toNatClampNeg + 1626) (j10 z)) : tw_C g mL_law_ 1300 601024 7293034 Q 951 [some (.ref a0), some (.ref b1), some (.ref b3), some (.ref b5), some (.int s7), none, none] [] (182 + s7.toNatClampNeg + 0) (20089 + 300 * s7.toNatClampNeg + 0) (f_Lc12 a0 b1 b3 b5 s7 j10 (fun v => Q (.inl (some (.int v))))) := by
  have g10 := fun z => tw_Ctab (r' := (tw_tb mLc12)) dk_L_law_ (g10 z)
  change ∀ z : Unit, tw_C g mLc12 _ _ _ _ _ _ _ _ _ _ at g10
  refine tw_Ctab (r := (tw_tb mLc12)) dk_Lc12 ?_
  show tw_C g mLc12 _ _ _ _ _ _ _ _ _ _
  unfold f_Lc12
  refine tw_aload_n (k := 0) rfl rfl ?_
  refine tw_aload_n (k := 1) rfl rfl ?_
  refine tw_iload (k := 2) rfl rfl ?_
  refine tw_iconst (k := 3) (1 : Int32) rfl (by decide) ?_
  refine tw_iadd (k := 4) rfl ?_
  refine tw_iaload (k := 5) rfl (fun x112 => ?_)
  refine tw_aload_n (k := 6) rfl rfl ?_
  refine tw_callSW (k := 7) (d' := 8) (mc' := 1) (ms' := 6) tw_cI tw_cIi [.ref b1, .int x112, .ref b5] rfl rfl wx_RL_184_L_tone mo_L_tone rfl (fun Q9 => K_L_tone Q9 b1 x112 b5) (by omega) (by omega) (by omega) (Nat.le_of_ble_eq_true rfl) (fun x113 => ?_)
  refine tw_ist (k := 8) [some (.ref a0), some (.ref b1), some (.ref b3), some (.ref b5), some (.int s7), some (.int x113), none] rfl (Nat.le_of_ble_eq_true rfl) rfl rfl ?_
  refine tw_aload_n (k := 9) rfl rfl ?_
  refine tw_aload_n (k := 10) rfl rfl ?_
  refine tw_iload (k := 11) rfl rfl ?_
  refine tw_iconst (k := 12) (1 : Int32) rfl (by decide) ?_
  refine tw_iadd (k := 13) rfl ?_
  refine tw_iaload (k := 14) rfl (fun x114 => ?_)
  refine tw_callV (k := 15) (d' := 6) (mc' := 0) (ms' := 0) tw_cI tw_cIi [.int x114] rfl rfl wv_RL_187_X12_tone mo_X12_tone (t := 11) rfl rfl rfl (fun Q9 => K_X12_tone Q9 b3 x114) (by omega) (by omega) (by omega) (Nat.le_of_ble_eq_true rfl) (fun x115 => ?_)
  refine tw_ist (k := 16) [some (.ref a0), some (.ref b1), some (.ref b3), some (.ref b5), some (.int s7), some (.int x113), some (.int x115)] rfl (Nat.le_of_ble_eq_true rfl) rfl rfl ?_
  refine tw_aload_n (k := 17) rfl rfl ?_
  refine tw_callV (k := 18) (d' := 1) (mc' := 0) (ms' := 0) tw_cI tw_cIi [] rfl rfl wv_RL_152_X12_thrown mo_X12_thrown (t := 11) rfl rfl rfl (fun Q9 => K_X12_thrown Q9 b3) (by omega) (by omega) (by omega) (Nat.le_of_ble_eq_true rfl) (fun x116 => ?_)
  refine tw_iload (k := 19) rfl rfl ?_
  refine tw_icmp_eq (k := 20) 987 rfl (by decide) ?_ ?_
  · refine tw_iload (k := 23) rfl rfl ?_
    refine tw_join 1004 (fun s118 => [some (.ref a0), some (.ref b1), some (.ref b3), some (.ref b5), some (.int s7), some (.int x113), some (.int x115)]) (fun s118 => []) (182 + s7.toNatClampNeg + 1) (20089 + 300 * s7.toNatClampNeg + 6) (fun s118 => ?_) (fun j117 g117 => ?_)
    · refine tw_goto (k := 34) 2993 rfl (by decide) ?_
      refine tw_wide (k2 := (182 + s7.toNatClampNeg + 6)) (s2 := (20089 + 300 * s7.toNatClampNeg + 1626)) (by omega) (by omega) ?_
      exact tw_wk (L' := [some (.ref a0), some (.ref b1), some (.ref b3), some (.ref b5), some (.int s7), none, none]) ⟨Or.inr rfl, Or.inr rfl, Or.inr rfl, Or.inr rfl, Or.inr rfl, Or.inl rfl, Or.inl rfl, trivial⟩ (g10 ())
    · refine tw_if_ne (k := 24) 1004 rfl (by decide) ?_ ?_
      · exact g117 ()
      · refine tw_aload_n (k := 25) rfl rfl ?_
        refine tw_iconst (k := 26) (0 : Int32) rfl (by decide) ?_
        refine tw_laload (k := 27) rfl (fun x119 => ?_)
        refine tw_iload (k := 28) rfl rfl ?_
        refine tw_i2l (k := 29) rfl ?_
        refine tw_lcmp (k := 30) rfl ?_
        refine tw_if_eq (k := 31) 1004 rfl (by decide) ?_ ?_
        · exact g117 ()
        · refine tw_iconst (k := 32) (0 : Int32) rfl (by decide) ?_
          exact tw_zreturn (k := 33) rfl rfl (by omega) (by omega)
  · refine tw_iconst (k := 21) (0 : Int32) rfl (by decide) ?_
    exact tw_zreturn (k := 22) rfl rfl (by omega) (by omega)
def f_Lc13 (a0 b1 b3 b5 : Nat) (s7 : Int32) (j10 : Unit → tw_Mem → Prop) (k : Int32 → tw_Mem → Prop) : tw_Mem → Prop :=
  tw_li a0 (s7 + (1 : Int32)) fun x120 => tw_li a0 (s7 + (2 : Int32)) fun x121 => tw_li a0 (s7 + (3 : Int32)) fun x122 => f_L_rope b1 x120 x121 x122 b5 (fun x123 => tw_li a0 (s7 + (1 : Int32)) fun x124 => tw_li a0 (s7 + (2 : Int32)) fun x125 => tw_li a0 (s7 + (3 : Int32)) fun x126 => tw_iv 11 b3 (f_X12_rope b3 x124 x125 x126 (fun x127 => tw_iv 11 b3 (f_X12_thrown b3 (fun x128 => tw_if (x128 = x123) (tw_jn (fun (s130 : Unit) => j10 ()) (fun j129 => tw_if (x123 = 0) (tw_ll b5 (0 : Int32) fun x131 => tw_if ((lg_cmp x131 (x127.toInt64)) = 0) (j129 ()) (tw_rz (0 : Int32) (k (0 : Int32)))) (j129 ()))) (tw_rz (0 : Int32) (k (0 : Int32))))))))
set_option maxHeartbeats 4000000 in
set_option maxRecDepth 100000 in
theorem C_Lc13 {g : tw_Gx} {Q : tw_Rs → tw_Mem → Prop} (a0 b1 b3 b5 : Nat) (s7 : Int32) (hP7 : s7.toNatClampNeg ≤ 3072) (j10 : Unit → tw_Mem → Prop) (g10 : ∀ z : Unit, tw_C g mL_law_ 1300 601024 7293034 Q 2993 [some (.ref a0), some (.ref b1), some (.ref b3), some (.ref b5), some (.int s7), none, none] [] (182 + s7.toNatClampNeg + 6) (20089 + 300 * s7.toNatClampNeg + 1626) (j10 z)) : tw_C g mL_law_ 1300 601024 7293034 Q 1007 [some (.ref a0), some (.ref b1), some (.ref b3), some (.ref b5), some (.int s7), none, none] [] (182 + s7.toNatClampNeg + 0) (20089 + 300 * s7.toNatClampNeg + 0) (f_Lc13 a0 b1 b3 b5 s7 j10 (fun v => Q (.inl (some (.int v))))) := by
  have g10 := fun z => tw_Ctab (r' := (tw_tb mLc13)) dk_L_law_ (g10 z)
  change ∀ z : Unit, tw_C g mLc13 _ _ _ _ _ _ _ _ _ _ at g10
  refine tw_Ctab (r := (tw_tb mLc13)) dk_Lc13 ?_
  show tw_C g mLc13 _ _ _ _ _ _ _ _ _ _
  unfold f_Lc13
  refine tw_aload_n (k := 0) rfl rfl ?_
  refine tw_aload_n (k := 1) rfl rfl ?_
  refine tw_iload (k := 2) rfl rfl ?_
  refine tw_iconst (k := 3) (1 : Int32) rfl (by decide) ?_
  refine tw_iadd (k := 4) rfl ?_
  refine tw_iaload (k := 5) rfl (fun x120 => ?_)
  refine tw_aload_n (k := 6) rfl rfl ?_
  refine tw_iload (k := 7) rfl rfl ?_
  refine tw_iconst (k := 8) (2 : Int32) rfl (by decide) ?_
  refine tw_iadd (k := 9) rfl ?_
  refine tw_iaload (k := 10) rfl (fun x121 => ?_)
  refine tw_aload_n (k := 11) rfl rfl ?_
  refine tw_iload (k := 12) rfl rfl ?_
  refine tw_iconst (k := 13) (3 : Int32) rfl (by decide) ?_
  refine tw_iadd (k := 14) rfl ?_
  refine tw_iaload (k := 15) rfl (fun x122 => ?_)
  refine tw_aload_n (k := 16) rfl rfl ?_
  refine tw_callSW (k := 17) (d' := 8) (mc' := 4) (ms' := 24) tw_cI tw_cIi [.ref b1, .int x120, .int x121, .int x122, .ref b5] rfl rfl wx_RL_188_L_rope mo_L_rope rfl (fun Q9 => K_L_rope Q9 b1 x120 x121 x122 b5) (by omega) (by omega) (by omega) (Nat.le_of_ble_eq_true rfl) (fun x123 => ?_)
  refine tw_ist (k := 18) [some (.ref a0), some (.ref b1), some (.ref b3), some (.ref b5), some (.int s7), some (.int x123), none] rfl (Nat.le_of_ble_eq_true rfl) rfl rfl ?_
  refine tw_aload_n (k := 19) rfl rfl ?_
  refine tw_aload_n (k := 20) rfl rfl ?_
  refine tw_iload (k := 21) rfl rfl ?_
  refine tw_iconst (k := 22) (1 : Int32) rfl (by decide) ?_
  refine tw_iadd (k := 23) rfl ?_
  refine tw_iaload (k := 24) rfl (fun x124 => ?_)
  refine tw_aload_n (k := 25) rfl rfl ?_
  refine tw_iload (k := 26) rfl rfl ?_
  refine tw_iconst (k := 27) (2 : Int32) rfl (by decide) ?_
  refine tw_iadd (k := 28) rfl ?_
  refine tw_iaload (k := 29) rfl (fun x125 => ?_)
  refine tw_aload_n (k := 30) rfl rfl ?_
  refine tw_iload (k := 31) rfl rfl ?_
  refine tw_iconst (k := 32) (3 : Int32) rfl (by decide) ?_
  refine tw_iadd (k := 33) rfl ?_
  refine tw_iaload (k := 34) rfl (fun x126 => ?_)
  refine tw_callV (k := 35) (d' := 3) (mc' := 0) (ms' := 0) tw_cI tw_cIi [.int x124, .int x125, .int x126] rfl rfl wv_RL_191_X12_rope mo_X12_rope (t := 11) rfl rfl rfl (fun Q9 => K_X12_rope Q9 b3 x124 x125 x126) (by omega) (by omega) (by omega) (Nat.le_of_ble_eq_true rfl) (fun x127 => ?_)
  refine tw_ist (k := 36) [some (.ref a0), some (.ref b1), some (.ref b3), some (.ref b5), some (.int s7), some (.int x123), some (.int x127)] rfl (Nat.le_of_ble_eq_true rfl) rfl rfl ?_
  refine tw_aload_n (k := 37) rfl rfl ?_
  refine tw_callV (k := 38) (d' := 1) (mc' := 0) (ms' := 0) tw_cI tw_cIi [] rfl rfl wv_RL_152_X12_thrown mo_X12_thrown (t := 11) rfl rfl rfl (fun Q9 => K_X12_thrown Q9 b3) (by omega) (by omega) (by omega) (Nat.le_of_ble_eq_true rfl) (fun x128 => ?_)
  refine tw_iload (k := 39) rfl rfl ?_
  refine tw_icmp_eq (k := 40) 1067 rfl (by decide) ?_ ?_
  · refine tw_iload (k := 43) rfl rfl ?_
    refine tw_join 1084 (fun s130 => [some (.ref a0), some (.ref b1), some (.ref b3), some (.ref b5), some (.int s7), some (.int x123), some (.int x127)]) (fun s130 => []) (182 + s7.toNatClampNeg + 4) (20089 + 300 * s7.toNatClampNeg + 24) (fun s130 => ?_) (fun j129 g129 => ?_)
    · refine tw_goto (k := 54) 2993 rfl (by decide) ?_
      refine tw_wide (k2 := (182 + s7.toNatClampNeg + 6)) (s2 := (20089 + 300 * s7.toNatClampNeg + 1626)) (by omega) (by omega) ?_
      exact tw_wk (L' := [some (.ref a0), some (.ref b1), some (.ref b3), some (.ref b5), some (.int s7), none, none]) ⟨Or.inr rfl, Or.inr rfl, Or.inr rfl, Or.inr rfl, Or.inr rfl, Or.inl rfl, Or.inl rfl, trivial⟩ (g10 ())
    · refine tw_if_ne (k := 44) 1084 rfl (by decide) ?_ ?_
      · exact g129 ()
      · refine tw_aload_n (k := 45) rfl rfl ?_
        refine tw_iconst (k := 46) (0 : Int32) rfl (by decide) ?_
        refine tw_laload (k := 47) rfl (fun x131 => ?_)
        refine tw_iload (k := 48) rfl rfl ?_
        refine tw_i2l (k := 49) rfl ?_
        refine tw_lcmp (k := 50) rfl ?_
        refine tw_if_eq (k := 51) 1084 rfl (by decide) ?_ ?_
        · exact g129 ()
        · refine tw_iconst (k := 52) (0 : Int32) rfl (by decide) ?_
          exact tw_zreturn (k := 53) rfl rfl (by omega) (by omega)
  · refine tw_iconst (k := 41) (0 : Int32) rfl (by decide) ?_
    exact tw_zreturn (k := 42) rfl rfl (by omega) (by omega)
def f_Lc14 (a0 b1 b3 b5 : Nat) (s7 : Int32) (j10 : Unit → tw_Mem → Prop) (k : Int32 → tw_Mem → Prop) : tw_Mem → Prop :=
  tw_li a0 (s7 + (1 : Int32)) fun x132 => tw_li a0 (s7 + (2 : Int32)) fun x133 => f_L_off b1 x132 x133 b5 (fun x134 => tw_li a0 (s7 + (1 : Int32)) fun x135 => tw_li a0 (s7 + (2 : Int32)) fun x136 => tw_iv 11 b3 (f_X12_off b3 x135 x136 (fun x137 => tw_iv 11 b3 (f_X12_thrown b3 (fun x138 => tw_if (x138 = x134) (tw_jn (fun (s140 : Unit) => j10 ()) (fun j139 => tw_if (x134 = 0) (tw_ll b5 (0 : Int32) fun x141 => tw_if ((lg_cmp x141 (x137.toInt64)) = 0) (j139 ()) (tw_rz (0 : Int32) (k (0 : Int32)))) (j139 ()))) (tw_rz (0 : Int32) (k (0 : Int32))))))))
set_option maxHeartbeats 4000000 in
set_option maxRecDepth 100000 in
theorem C_Lc14 {g : tw_Gx} {Q : tw_Rs → tw_Mem → Prop} (a0 b1 b3 b5 : Nat) (s7 : Int32) (hP7 : s7.toNatClampNeg ≤ 3072) (j10 : Unit → tw_Mem → Prop) (g10 : ∀ z : Unit, tw_C g mL_law_ 1300 601024 7293034 Q 2993 [some (.ref a0), some (.ref b1), some (.ref b3), some (.ref b5), some (.int s7), none, none] [] (182 + s7.toNatClampNeg + 6) (20089 + 300 * s7.toNatClampNeg + 1626) (j10 z)) : tw_C g mL_law_ 1300 601024 7293034 Q 1087 [some (.ref a0), some (.ref b1), some (.ref b3), some (.ref b5), some (.int s7), none, none] [] (182 + s7.toNatClampNeg + 0) (20089 + 300 * s7.toNatClampNeg + 0) (f_Lc14 a0 b1 b3 b5 s7 j10 (fun v => Q (.inl (some (.int v))))) := by
  have g10 := fun z => tw_Ctab (r' := (tw_tb mLc14)) dk_L_law_ (g10 z)
  change ∀ z : Unit, tw_C g mLc14 _ _ _ _ _ _ _ _ _ _ at g10
  refine tw_Ctab (r := (tw_tb mLc14)) dk_Lc14 ?_
  show tw_C g mLc14 _ _ _ _ _ _ _ _ _ _
  unfold f_Lc14
  refine tw_aload_n (k := 0) rfl rfl ?_
  refine tw_aload_n (k := 1) rfl rfl ?_
  refine tw_iload (k := 2) rfl rfl ?_
  refine tw_iconst (k := 3) (1 : Int32) rfl (by decide) ?_
  refine tw_iadd (k := 4) rfl ?_
  refine tw_iaload (k := 5) rfl (fun x132 => ?_)
  refine tw_aload_n (k := 6) rfl rfl ?_
  refine tw_iload (k := 7) rfl rfl ?_
  refine tw_iconst (k := 8) (2 : Int32) rfl (by decide) ?_
  refine tw_iadd (k := 9) rfl ?_
  refine tw_iaload (k := 10) rfl (fun x133 => ?_)
  refine tw_aload_n (k := 11) rfl rfl ?_
  refine tw_callSW (k := 12) (d' := 8) (mc' := 3) (ms' := 18) tw_cI tw_cIi [.ref b1, .int x132, .int x133, .ref b5] rfl rfl wx_RL_192_L_off mo_L_off rfl (fun Q9 => K_L_off Q9 b1 x132 x133 b5) (by omega) (by omega) (by omega) (Nat.le_of_ble_eq_true rfl) (fun x134 => ?_)
  refine tw_ist (k := 13) [some (.ref a0), some (.ref b1), some (.ref b3), some (.ref b5), some (.int s7), some (.int x134), none] rfl (Nat.le_of_ble_eq_true rfl) rfl rfl ?_
  refine tw_aload_n (k := 14) rfl rfl ?_
  refine tw_aload_n (k := 15) rfl rfl ?_
  refine tw_iload (k := 16) rfl rfl ?_
  refine tw_iconst (k := 17) (1 : Int32) rfl (by decide) ?_
  refine tw_iadd (k := 18) rfl ?_
  refine tw_iaload (k := 19) rfl (fun x135 => ?_)
  refine tw_aload_n (k := 20) rfl rfl ?_
  refine tw_iload (k := 21) rfl rfl ?_
  refine tw_iconst (k := 22) (2 : Int32) rfl (by decide) ?_
  refine tw_iadd (k := 23) rfl ?_
  refine tw_iaload (k := 24) rfl (fun x136 => ?_)
  refine tw_callV (k := 25) (d' := 3) (mc' := 0) (ms' := 0) tw_cI tw_cIi [.int x135, .int x136] rfl rfl wv_RL_194_X12_off mo_X12_off (t := 11) rfl rfl rfl (fun Q9 => K_X12_off Q9 b3 x135 x136) (by omega) (by omega) (by omega) (Nat.le_of_ble_eq_true rfl) (fun x137 => ?_)
  refine tw_ist (k := 26) [some (.ref a0), some (.ref b1), some (.ref b3), some (.ref b5), some (.int s7), some (.int x134), some (.int x137)] rfl (Nat.le_of_ble_eq_true rfl) rfl rfl ?_
  refine tw_aload_n (k := 27) rfl rfl ?_
  refine tw_callV (k := 28) (d' := 1) (mc' := 0) (ms' := 0) tw_cI tw_cIi [] rfl rfl wv_RL_152_X12_thrown mo_X12_thrown (t := 11) rfl rfl rfl (fun Q9 => K_X12_thrown Q9 b3) (by omega) (by omega) (by omega) (Nat.le_of_ble_eq_true rfl) (fun x138 => ?_)
  refine tw_iload (k := 29) rfl rfl ?_
  refine tw_icmp_eq (k := 30) 1135 rfl (by decide) ?_ ?_
  · refine tw_iload (k := 33) rfl rfl ?_
    refine tw_join 1152 (fun s140 => [some (.ref a0), some (.ref b1), some (.ref b3), some (.ref b5), some (.int s7), some (.int x134), some (.int x137)]) (fun s140 => []) (182 + s7.toNatClampNeg + 3) (20089 + 300 * s7.toNatClampNeg + 18) (fun s140 => ?_) (fun j139 g139 => ?_)
    · refine tw_goto (k := 44) 2993 rfl (by decide) ?_
      refine tw_wide (k2 := (182 + s7.toNatClampNeg + 6)) (s2 := (20089 + 300 * s7.toNatClampNeg + 1626)) (by omega) (by omega) ?_
      exact tw_wk (L' := [some (.ref a0), some (.ref b1), some (.ref b3), some (.ref b5), some (.int s7), none, none]) ⟨Or.inr rfl, Or.inr rfl, Or.inr rfl, Or.inr rfl, Or.inr rfl, Or.inl rfl, Or.inl rfl, trivial⟩ (g10 ())
    · refine tw_if_ne (k := 34) 1152 rfl (by decide) ?_ ?_
      · exact g139 ()
      · refine tw_aload_n (k := 35) rfl rfl ?_
        refine tw_iconst (k := 36) (0 : Int32) rfl (by decide) ?_
        refine tw_laload (k := 37) rfl (fun x141 => ?_)
        refine tw_iload (k := 38) rfl rfl ?_
        refine tw_i2l (k := 39) rfl ?_
        refine tw_lcmp (k := 40) rfl ?_
        refine tw_if_eq (k := 41) 1152 rfl (by decide) ?_ ?_
        · exact g139 ()
        · refine tw_iconst (k := 42) (0 : Int32) rfl (by decide) ?_
          exact tw_zreturn (k := 43) rfl rfl (by omega) (by omega)
  · refine tw_iconst (k := 31) (0 : Int32) rfl (by decide) ?_
    exact tw_zreturn (k := 32) rfl rfl (by omega) (by omega)
def f_Lc15 (a0 b1 b3 b5 : Nat) (s7 : Int32) (j10 : Unit → tw_Mem → Prop) (k : Int32 → tw_Mem → Prop) : tw_Mem → Prop :=
  tw_li a0 (s7 + (1 : Int32)) fun x142 => f_L_change b1 x142 b5 (fun x143 => tw_li a0 (s7 + (1 : Int32)) fun x144 => tw_iv 11 b3 (f_X12_change b3 x144 (fun x145 => tw_iv 11 b3 (f_X12_thrown b3 (fun x146 => tw_if (x146 = x143) (tw_jn (fun (s148 : Unit) => j10 ()) (fun j147 => tw_if (x143 = 0) (tw_ll b5 (0 : Int32) fun x149 => tw_if ((lg_cmp x149 (x145.toInt64)) = 0) (j147 ()) (tw_rz (0 : Int32) (k (0 : Int32)))) (j147 ()))) (tw_rz (0 : Int32) (k (0 : Int32))))))))
set_option maxHeartbeats 4000000 in
set_option maxRecDepth 100000 in
theorem C_Lc15 {g : tw_Gx} {Q : tw_Rs → tw_Mem → Prop} (a0 b1 b3 b5 : Nat) (s7 : Int32) (hP7 : s7.toNatClampNeg ≤ 3072) (j10 : Unit → tw_Mem → Prop) (g10 : ∀ z : Unit, tw_C g mL_law_ 1300 601024 7293034 Q 2993 [some (.ref a0), some (.ref b1), some (.ref b3), some (.ref b5), some (.int s7), none, none] [] (182 + s7.toNatClampNeg + 6) (20089 + 300 * s7.toNatClampNeg + 1626) (j10 z)) : tw_C g mL_law_ 1300 601024 7293034 Q 1155 [some (.ref a0), some (.ref b1), some (.ref b3), some (.ref b5), some (.int s7), none, none] [] (182 + s7.toNatClampNeg + 0) (20089 + 300 * s7.toNatClampNeg + 0) (f_Lc15 a0 b1 b3 b5 s7 j10 (fun v => Q (.inl (some (.int v))))) := by
  have g10 := fun z => tw_Ctab (r' := (tw_tb mLc15)) dk_L_law_ (g10 z)
  change ∀ z : Unit, tw_C g mLc15 _ _ _ _ _ _ _ _ _ _ at g10
  refine tw_Ctab (r := (tw_tb mLc15)) dk_Lc15 ?_
  show tw_C g mLc15 _ _ _ _ _ _ _ _ _ _
  unfold f_Lc15
  refine tw_aload_n (k := 0) rfl rfl ?_
  refine tw_aload_n (k := 1) rfl rfl ?_
  refine tw_iload (k := 2) rfl rfl ?_
  refine tw_iconst (k := 3) (1 : Int32) rfl (by decide) ?_
  refine tw_iadd (k := 4) rfl ?_
  refine tw_iaload (k := 5) rfl (fun x142 => ?_)
  refine tw_aload_n (k := 6) rfl rfl ?_
  refine tw_callSW (k := 7) (d' := 8) (mc' := 1) (ms' := 6) tw_cI tw_cIi [.ref b1, .int x142, .ref b5] rfl rfl wx_RL_195_L_change mo_L_change rfl (fun Q9 => K_L_change Q9 b1 x142 b5) (by omega) (by omega) (by omega) (Nat.le_of_ble_eq_true rfl) (fun x143 => ?_)
  refine tw_ist (k := 8) [some (.ref a0), some (.ref b1), some (.ref b3), some (.ref b5), some (.int s7), some (.int x143), none] rfl (Nat.le_of_ble_eq_true rfl) rfl rfl ?_
  refine tw_aload_n (k := 9) rfl rfl ?_
  refine tw_aload_n (k := 10) rfl rfl ?_
  refine tw_iload (k := 11) rfl rfl ?_
  refine tw_iconst (k := 12) (1 : Int32) rfl (by decide) ?_
  refine tw_iadd (k := 13) rfl ?_
  refine tw_iaload (k := 14) rfl (fun x144 => ?_)
  refine tw_callV (k := 15) (d' := 3) (mc' := 0) (ms' := 0) tw_cI tw_cIi [.int x144] rfl rfl wv_RL_197_X12_change mo_X12_change (t := 11) rfl rfl rfl (fun Q9 => K_X12_change Q9 b3 x144) (by omega) (by omega) (by omega) (Nat.le_of_ble_eq_true rfl) (fun x145 => ?_)
  refine tw_ist (k := 16) [some (.ref a0), some (.ref b1), some (.ref b3), some (.ref b5), some (.int s7), some (.int x143), some (.int x145)] rfl (Nat.le_of_ble_eq_true rfl) rfl rfl ?_
  refine tw_aload_n (k := 17) rfl rfl ?_
  refine tw_callV (k := 18) (d' := 1) (mc' := 0) (ms' := 0) tw_cI tw_cIi [] rfl rfl wv_RL_152_X12_thrown mo_X12_thrown (t := 11) rfl rfl rfl (fun Q9 => K_X12_thrown Q9 b3) (by omega) (by omega) (by omega) (Nat.le_of_ble_eq_true rfl) (fun x146 => ?_)
  refine tw_iload (k := 19) rfl rfl ?_
  refine tw_icmp_eq (k := 20) 1191 rfl (by decide) ?_ ?_
  · refine tw_iload (k := 23) rfl rfl ?_
    refine tw_join 1208 (fun s148 => [some (.ref a0), some (.ref b1), some (.ref b3), some (.ref b5), some (.int s7), some (.int x143), some (.int x145)]) (fun s148 => []) (182 + s7.toNatClampNeg + 1) (20089 + 300 * s7.toNatClampNeg + 6) (fun s148 => ?_) (fun j147 g147 => ?_)
    · refine tw_goto (k := 34) 2993 rfl (by decide) ?_
      refine tw_wide (k2 := (182 + s7.toNatClampNeg + 6)) (s2 := (20089 + 300 * s7.toNatClampNeg + 1626)) (by omega) (by omega) ?_
      exact tw_wk (L' := [some (.ref a0), some (.ref b1), some (.ref b3), some (.ref b5), some (.int s7), none, none]) ⟨Or.inr rfl, Or.inr rfl, Or.inr rfl, Or.inr rfl, Or.inr rfl, Or.inl rfl, Or.inl rfl, trivial⟩ (g10 ())
    · refine tw_if_ne (k := 24) 1208 rfl (by decide) ?_ ?_
      · exact g147 ()
      · refine tw_aload_n (k := 25) rfl rfl ?_
        refine tw_iconst (k := 26) (0 : Int32) rfl (by decide) ?_
        refine tw_laload (k := 27) rfl (fun x149 => ?_)
        refine tw_iload (k := 28) rfl rfl ?_
        refine tw_i2l (k := 29) rfl ?_
        refine tw_lcmp (k := 30) rfl ?_
        refine tw_if_eq (k := 31) 1208 rfl (by decide) ?_ ?_
        · exact g147 ()
        · refine tw_iconst (k := 32) (0 : Int32) rfl (by decide) ?_
          exact tw_zreturn (k := 33) rfl rfl (by omega) (by omega)
  · refine tw_iconst (k := 21) (0 : Int32) rfl (by decide) ?_
    exact tw_zreturn (k := 22) rfl rfl (by omega) (by omega)
def f_Lc16 (a0 b1 b3 b5 : Nat) (s7 : Int32) (j10 : Unit → tw_Mem → Prop) (k : Int32 → tw_Mem → Prop) : tw_Mem → Prop :=
  tw_li a0 (s7 + (1 : Int32)) fun x150 => tw_li a0 (s7 + (2 : Int32)) fun x151 => tw_jn (fun (s153 : Int32) => f_L_swear b1 x150 s153 b5 (fun x154 => tw_li a0 (s7 + (1 : Int32)) fun x155 => tw_li a0 (s7 + (2 : Int32)) fun x156 => tw_jn (fun (s158 : Int32) => tw_iv 11 b3 (f_X12_swear b3 x155 s158 (fun x159 => tw_iv 11 b3 (f_X12_thrown b3 (fun x160 => tw_if (x160 = x154) (tw_jn (fun (s162 : Unit) => j10 ()) (fun j161 => tw_if (x154 = 0) (tw_ll b5 (0 : Int32) fun x163 => tw_jn (fun (s165 : Int64) => tw_if ((lg_cmp x163 s165) = 0) (j161 ()) (tw_rz (0 : Int32) (k (0 : Int32)))) (fun j164 => tw_if (x159 = 0) (j164 (0 : Int64)) (j164 (1 : Int64)))) (j161 ()))) (tw_rz (0 : Int32) (k (0 : Int32)))))))) (fun j157 => tw_if (x156 = 0) (j157 (0 : Int32)) (j157 (1 : Int32))))) (fun j152 => tw_if (x151 = 0) (j152 (0 : Int32)) (j152 (1 : Int32)))
set_option maxHeartbeats 4000000 in
set_option maxRecDepth 100000 in
theorem C_Lc16 {g : tw_Gx} {Q : tw_Rs → tw_Mem → Prop} (a0 b1 b3 b5 : Nat) (s7 : Int32) (hP7 : s7.toNatClampNeg ≤ 3072) (j10 : Unit → tw_Mem → Prop) (g10 : ∀ z : Unit, tw_C g mL_law_ 1300 601024 7293034 Q 2993 [some (.ref a0), some (.ref b1), some (.ref b3), some (.ref b5), some (.int s7), none, none] [] (182 + s7.toNatClampNeg + 6) (20089 + 300 * s7.toNatClampNeg + 1626) (j10 z)) : tw_C g mL_law_ 1300 601024 7293034 Q 1211 [some (.ref a0), some (.ref b1), some (.ref b3), some (.ref b5), some (.int s7), none, none] [] (182 + s7.toNatClampNeg + 0) (20089 + 300 * s7.toNatClampNeg + 0) (f_Lc16 a0 b1 b3 b5 s7 j10 (fun v => Q (.inl (some (.int v))))) := by
  have g10 := fun z => tw_Ctab (r' := (tw_tb mLc16)) dk_L_law_ (g10 z)
  change ∀ z : Unit, tw_C g mLc16 _ _ _ _ _ _ _ _ _ _ at g10
  refine tw_Ctab (r := (tw_tb mLc16)) dk_Lc16 ?_
  show tw_C g mLc16 _ _ _ _ _ _ _ _ _ _
  unfold f_Lc16
  refine tw_aload_n (k := 0) rfl rfl ?_
  refine tw_aload_n (k := 1) rfl rfl ?_
  refine tw_iload (k := 2) rfl rfl ?_
  refine tw_iconst (k := 3) (1 : Int32) rfl (by decide) ?_
  refine tw_iadd (k := 4) rfl ?_
  refine tw_iaload (k := 5) rfl (fun x150 => ?_)
  refine tw_aload_n (k := 6) rfl rfl ?_
  refine tw_iload (k := 7) rfl rfl ?_
  refine tw_iconst (k := 8) (2 : Int32) rfl (by decide) ?_
  refine tw_iadd (k := 9) rfl ?_
  refine tw_iaload (k := 10) rfl (fun x151 => ?_)
  refine tw_join 1232 (fun s153 => [some (.ref a0), some (.ref b1), some (.ref b3), some (.ref b5), some (.int s7), none, none]) (fun s153 => .int s153 :: .int x150 :: .ref b1 :: []) (182 + s7.toNatClampNeg + 0) (20089 + 300 * s7.toNatClampNeg + 0) (fun s153 => ?_) (fun j152 g152 => ?_)
  · refine tw_aload_n (k := 15) rfl rfl ?_
    refine tw_callSW (k := 16) (d' := 8) (mc' := 1) (ms' := 6) tw_cI tw_cIi [.ref b1, .int x150, .int s153, .ref b5] rfl rfl wx_RL_198_L_swear mo_L_swear rfl (fun Q9 => K_L_swear Q9 b1 x150 s153 b5) (by omega) (by omega) (by omega) (Nat.le_of_ble_eq_true rfl) (fun x154 => ?_)
    refine tw_ist (k := 17) [some (.ref a0), some (.ref b1), some (.ref b3), some (.ref b5), some (.int s7), some (.int x154), none] rfl (Nat.le_of_ble_eq_true rfl) rfl rfl ?_
    refine tw_aload_n (k := 18) rfl rfl ?_
    refine tw_aload_n (k := 19) rfl rfl ?_
    refine tw_iload (k := 20) rfl rfl ?_
    refine tw_iconst (k := 21) (1 : Int32) rfl (by decide) ?_
    refine tw_iadd (k := 22) rfl ?_
    refine tw_iaload (k := 23) rfl (fun x155 => ?_)
    refine tw_aload_n (k := 24) rfl rfl ?_
    refine tw_iload (k := 25) rfl rfl ?_
    refine tw_iconst (k := 26) (2 : Int32) rfl (by decide) ?_
    refine tw_iadd (k := 27) rfl ?_
    refine tw_iaload (k := 28) rfl (fun x156 => ?_)
    refine tw_join 1259 (fun s158 => [some (.ref a0), some (.ref b1), some (.ref b3), some (.ref b5), some (.int s7), some (.int x154), none]) (fun s158 => .int s158 :: .int x155 :: .ref b3 :: []) (182 + s7.toNatClampNeg + 1) (20089 + 300 * s7.toNatClampNeg + 6) (fun s158 => ?_) (fun j157 g157 => ?_)
    · refine tw_callV (k := 33) (d' := 3) (mc' := 0) (ms' := 0) tw_cI tw_cIi [.int x155, .int s158] rfl rfl wv_RL_201_X12_swear mo_X12_swear (t := 11) rfl rfl rfl (fun Q9 => K_X12_swear Q9 b3 x155 s158) (by omega) (by omega) (by omega) (Nat.le_of_ble_eq_true rfl) (fun x159 => ?_)
      refine tw_ist (k := 34) [some (.ref a0), some (.ref b1), some (.ref b3), some (.ref b5), some (.int s7), some (.int x154), some (.int x159)] rfl (Nat.le_of_ble_eq_true rfl) rfl rfl ?_
      refine tw_aload_n (k := 35) rfl rfl ?_
      refine tw_callV (k := 36) (d' := 1) (mc' := 0) (ms' := 0) tw_cI tw_cIi [] rfl rfl wv_RL_152_X12_thrown mo_X12_thrown (t := 11) rfl rfl rfl (fun Q9 => K_X12_thrown Q9 b3) (by omega) (by omega) (by omega) (Nat.le_of_ble_eq_true rfl) (fun x160 => ?_)
      refine tw_iload (k := 37) rfl rfl ?_
      refine tw_icmp_eq (k := 38) 1275 rfl (by decide) ?_ ?_
      · refine tw_iload (k := 41) rfl rfl ?_
        refine tw_join 1299 (fun s162 => [some (.ref a0), some (.ref b1), some (.ref b3), some (.ref b5), some (.int s7), some (.int x154), some (.int x159)]) (fun s162 => []) (182 + s7.toNatClampNeg + 1) (20089 + 300 * s7.toNatClampNeg + 6) (fun s162 => ?_) (fun j161 g161 => ?_)
        · refine tw_goto (k := 55) 2993 rfl (by decide) ?_
          refine tw_wide (k2 := (182 + s7.toNatClampNeg + 6)) (s2 := (20089 + 300 * s7.toNatClampNeg + 1626)) (by omega) (by omega) ?_
          exact tw_wk (L' := [some (.ref a0), some (.ref b1), some (.ref b3), some (.ref b5), some (.int s7), none, none]) ⟨Or.inr rfl, Or.inr rfl, Or.inr rfl, Or.inr rfl, Or.inr rfl, Or.inl rfl, Or.inl rfl, trivial⟩ (g10 ())
        · refine tw_if_ne (k := 42) 1299 rfl (by decide) ?_ ?_
          · exact g161 ()
          · refine tw_aload_n (k := 43) rfl rfl ?_
            refine tw_iconst (k := 44) (0 : Int32) rfl (by decide) ?_
            refine tw_laload (k := 45) rfl (fun x163 => ?_)
            refine tw_iload (k := 46) rfl rfl ?_
            refine tw_join 1293 (fun s165 => [some (.ref a0), some (.ref b1), some (.ref b3), some (.ref b5), some (.int s7), some (.int x154), some (.int x159)]) (fun s165 => .long s165 :: .long x163 :: []) (182 + s7.toNatClampNeg + 1) (20089 + 300 * s7.toNatClampNeg + 6) (fun s165 => ?_) (fun j164 g164 => ?_)
            · refine tw_lcmp (k := 51) rfl ?_
              refine tw_if_eq (k := 52) 1299 rfl (by decide) ?_ ?_
              · exact g161 ()
              · refine tw_iconst (k := 53) (0 : Int32) rfl (by decide) ?_
                exact tw_zreturn (k := 54) rfl rfl (by omega) (by omega)
            · refine tw_if_eq (k := 47) 1292 rfl (by decide) ?_ ?_
              · refine tw_lconst (k := 50) (0 : Int64) rfl (by decide) ?_
                exact g164 (0 : Int64)
              · refine tw_lconst (k := 48) (1 : Int64) rfl (by decide) ?_
                refine tw_goto (k := 49) 1293 rfl (by decide) ?_
                exact g164 (1 : Int64)
      · refine tw_iconst (k := 39) (0 : Int32) rfl (by decide) ?_
        exact tw_zreturn (k := 40) rfl rfl (by omega) (by omega)
    · refine tw_if_eq (k := 29) 1258 rfl (by decide) ?_ ?_
      · refine tw_iconst (k := 32) (0 : Int32) rfl (by decide) ?_
        exact g157 (0 : Int32)
      · refine tw_iconst (k := 30) (1 : Int32) rfl (by decide) ?_
        refine tw_goto (k := 31) 1259 rfl (by decide) ?_
        exact g157 (1 : Int32)
  · refine tw_if_eq (k := 11) 1231 rfl (by decide) ?_ ?_
    · refine tw_iconst (k := 14) (0 : Int32) rfl (by decide) ?_
      exact g152 (0 : Int32)
    · refine tw_iconst (k := 12) (1 : Int32) rfl (by decide) ?_
      refine tw_goto (k := 13) 1232 rfl (by decide) ?_
      exact g152 (1 : Int32)
def f_Lc17 (a0 b1 b3 b5 : Nat) (s7 : Int32) (j10 : Unit → tw_Mem → Prop) (k : Int32 → tw_Mem → Prop) : tw_Mem → Prop :=
  tw_li a0 (s7 + (1 : Int32)) fun x166 => tw_li a0 (s7 + (2 : Int32)) fun x167 => f_L_move b1 x166 x167 b5 (fun x168 => tw_li a0 (s7 + (1 : Int32)) fun x169 => tw_li a0 (s7 + (2 : Int32)) fun x170 => tw_iv 11 b3 (f_X12_move b3 x169 x170 (fun x171 => tw_iv 11 b3 (f_X12_thrown b3 (fun x172 => tw_if (x172 = x168) (tw_jn (fun (s174 : Unit) => j10 ()) (fun j173 => tw_if (x168 = 0) (tw_ll b5 (0 : Int32) fun x175 => tw_if ((lg_cmp x175 (x171.toInt64)) = 0) (j173 ()) (tw_rz (0 : Int32) (k (0 : Int32)))) (j173 ()))) (tw_rz (0 : Int32) (k (0 : Int32))))))))
set_option maxHeartbeats 4000000 in
set_option maxRecDepth 100000 in
theorem C_Lc17 {g : tw_Gx} {Q : tw_Rs → tw_Mem → Prop} (a0 b1 b3 b5 : Nat) (s7 : Int32) (hP7 : s7.toNatClampNeg ≤ 3072) (j10 : Unit → tw_Mem → Prop) (g10 : ∀ z : Unit, tw_C g mL_law_ 1300 601024 7293034 Q 2993 [some (.ref a0), some (.ref b1), some (.ref b3), some (.ref b5), some (.int s7), none, none] [] (182 + s7.toNatClampNeg + 6) (20089 + 300 * s7.toNatClampNeg + 1626) (j10 z)) : tw_C g mL_law_ 1300 601024 7293034 Q 1302 [some (.ref a0), some (.ref b1), some (.ref b3), some (.ref b5), some (.int s7), none, none] [] (182 + s7.toNatClampNeg + 0) (20089 + 300 * s7.toNatClampNeg + 0) (f_Lc17 a0 b1 b3 b5 s7 j10 (fun v => Q (.inl (some (.int v))))) := by
  have g10 := fun z => tw_Ctab (r' := (tw_tb mLc17)) dk_L_law_ (g10 z)
  change ∀ z : Unit, tw_C g mLc17 _ _ _ _ _ _ _ _ _ _ at g10
  refine tw_Ctab (r := (tw_tb mLc17)) dk_Lc17 ?_
  show tw_C g mLc17 _ _ _ _ _ _ _ _ _ _
  unfold f_Lc17
  refine tw_aload_n (k := 0) rfl rfl ?_
  refine tw_aload_n (k := 1) rfl rfl ?_
  refine tw_iload (k := 2) rfl rfl ?_
  refine tw_iconst (k := 3) (1 : Int32) rfl (by decide) ?_
  refine tw_iadd (k := 4) rfl ?_
  refine tw_iaload (k := 5) rfl (fun x166 => ?_)
  refine tw_aload_n (k := 6) rfl rfl ?_
  refine tw_iload (k := 7) rfl rfl ?_
  refine tw_iconst (k := 8) (2 : Int32) rfl (by decide) ?_
  refine tw_iadd (k := 9) rfl ?_
  refine tw_iaload (k := 10) rfl (fun x167 => ?_)
  refine tw_aload_n (k := 11) rfl rfl ?_
  refine tw_callSW (k := 12) (d' := 8) (mc' := 2) (ms' := 12) tw_cI tw_cIi [.ref b1, .int x166, .int x167, .ref b5] rfl rfl wx_RL_202_L_move mo_L_move rfl (fun Q9 => K_L_move Q9 b1 x166 x167 b5) (by omega) (by omega) (by omega) (Nat.le_of_ble_eq_true rfl) (fun x168 => ?_)
  refine tw_ist (k := 13) [some (.ref a0), some (.ref b1), some (.ref b3), some (.ref b5), some (.int s7), some (.int x168), none] rfl (Nat.le_of_ble_eq_true rfl) rfl rfl ?_
  refine tw_aload_n (k := 14) rfl rfl ?_
  refine tw_aload_n (k := 15) rfl rfl ?_
  refine tw_iload (k := 16) rfl rfl ?_
  refine tw_iconst (k := 17) (1 : Int32) rfl (by decide) ?_
  refine tw_iadd (k := 18) rfl ?_
  refine tw_iaload (k := 19) rfl (fun x169 => ?_)
  refine tw_aload_n (k := 20) rfl rfl ?_
  refine tw_iload (k := 21) rfl rfl ?_
  refine tw_iconst (k := 22) (2 : Int32) rfl (by decide) ?_
  refine tw_iadd (k := 23) rfl ?_
  refine tw_iaload (k := 24) rfl (fun x170 => ?_)
  refine tw_callV (k := 25) (d' := 3) (mc' := 0) (ms' := 0) tw_cI tw_cIi [.int x169, .int x170] rfl rfl wv_RL_204_X12_move mo_X12_move (t := 11) rfl rfl rfl (fun Q9 => K_X12_move Q9 b3 x169 x170) (by omega) (by omega) (by omega) (Nat.le_of_ble_eq_true rfl) (fun x171 => ?_)
  refine tw_ist (k := 26) [some (.ref a0), some (.ref b1), some (.ref b3), some (.ref b5), some (.int s7), some (.int x168), some (.int x171)] rfl (Nat.le_of_ble_eq_true rfl) rfl rfl ?_
  refine tw_aload_n (k := 27) rfl rfl ?_
  refine tw_callV (k := 28) (d' := 1) (mc' := 0) (ms' := 0) tw_cI tw_cIi [] rfl rfl wv_RL_152_X12_thrown mo_X12_thrown (t := 11) rfl rfl rfl (fun Q9 => K_X12_thrown Q9 b3) (by omega) (by omega) (by omega) (Nat.le_of_ble_eq_true rfl) (fun x172 => ?_)
  refine tw_iload (k := 29) rfl rfl ?_
  refine tw_icmp_eq (k := 30) 1350 rfl (by decide) ?_ ?_
  · refine tw_iload (k := 33) rfl rfl ?_
    refine tw_join 1367 (fun s174 => [some (.ref a0), some (.ref b1), some (.ref b3), some (.ref b5), some (.int s7), some (.int x168), some (.int x171)]) (fun s174 => []) (182 + s7.toNatClampNeg + 2) (20089 + 300 * s7.toNatClampNeg + 12) (fun s174 => ?_) (fun j173 g173 => ?_)
    · refine tw_goto (k := 44) 2993 rfl (by decide) ?_
      refine tw_wide (k2 := (182 + s7.toNatClampNeg + 6)) (s2 := (20089 + 300 * s7.toNatClampNeg + 1626)) (by omega) (by omega) ?_
      exact tw_wk (L' := [some (.ref a0), some (.ref b1), some (.ref b3), some (.ref b5), some (.int s7), none, none]) ⟨Or.inr rfl, Or.inr rfl, Or.inr rfl, Or.inr rfl, Or.inr rfl, Or.inl rfl, Or.inl rfl, trivial⟩ (g10 ())
    · refine tw_if_ne (k := 34) 1367 rfl (by decide) ?_ ?_
      · exact g173 ()
      · refine tw_aload_n (k := 35) rfl rfl ?_
        refine tw_iconst (k := 36) (0 : Int32) rfl (by decide) ?_
        refine tw_laload (k := 37) rfl (fun x175 => ?_)
        refine tw_iload (k := 38) rfl rfl ?_
        refine tw_i2l (k := 39) rfl ?_
        refine tw_lcmp (k := 40) rfl ?_
        refine tw_if_eq (k := 41) 1367 rfl (by decide) ?_ ?_
        · exact g173 ()
        · refine tw_iconst (k := 42) (0 : Int32) rfl (by decide) ?_
          exact tw_zreturn (k := 43) rfl rfl (by omega) (by omega)
  · refine tw_iconst (k := 31) (0 : Int32) rfl (by decide) ?_
    exact tw_zreturn (k := 32) rfl rfl (by omega) (by omega)
def f_Lc18 (a0 b1 b3 b5 : Nat) (s7 : Int32) (j10 : Unit → tw_Mem → Prop) (k : Int32 → tw_Mem → Prop) : tw_Mem → Prop :=
  tw_li a0 (s7 + (1 : Int32)) fun x176 => tw_li a0 (s7 + (2 : Int32)) fun x177 => tw_li a0 (s7 + (3 : Int32)) fun x178 => f_L_guess b1 x176 x177 x178 b5 (fun x179 => tw_li a0 (s7 + (1 : Int32)) fun x180 => tw_li a0 (s7 + (2 : Int32)) fun x181 => tw_li a0 (s7 + (3 : Int32)) fun x182 => tw_iv 11 b3 (f_X12_guess b3 x180 x181 x182 (fun x183 => tw_iv 11 b3 (f_X12_thrown b3 (fun x184 => tw_if (x184 = x179) (tw_jn (fun (s186 : Unit) => j10 ()) (fun j185 => tw_if (x179 = 0) (tw_ll b5 (0 : Int32) fun x187 => tw_if ((lg_cmp x187 (x183.toInt64)) = 0) (j185 ()) (tw_rz (0 : Int32) (k (0 : Int32)))) (j185 ()))) (tw_rz (0 : Int32) (k (0 : Int32))))))))
set_option maxHeartbeats 4000000 in
set_option maxRecDepth 100000 in
theorem C_Lc18 {g : tw_Gx} {Q : tw_Rs → tw_Mem → Prop} (a0 b1 b3 b5 : Nat) (s7 : Int32) (hP7 : s7.toNatClampNeg ≤ 3072) (j10 : Unit → tw_Mem → Prop) (g10 : ∀ z : Unit, tw_C g mL_law_ 1300 601024 7293034 Q 2993 [some (.ref a0), some (.ref b1), some (.ref b3), some (.ref b5), some (.int s7), none, none] [] (182 + s7.toNatClampNeg + 6) (20089 + 300 * s7.toNatClampNeg + 1626) (j10 z)) : tw_C g mL_law_ 1300 601024 7293034 Q 1370 [some (.ref a0), some (.ref b1), some (.ref b3), some (.ref b5), some (.int s7), none, none] [] (182 + s7.toNatClampNeg + 0) (20089 + 300 * s7.toNatClampNeg + 0) (f_Lc18 a0 b1 b3 b5 s7 j10 (fun v => Q (.inl (some (.int v))))) := by
  have g10 := fun z => tw_Ctab (r' := (tw_tb mLc18)) dk_L_law_ (g10 z)
  change ∀ z : Unit, tw_C g mLc18 _ _ _ _ _ _ _ _ _ _ at g10
  refine tw_Ctab (r := (tw_tb mLc18)) dk_Lc18 ?_
  show tw_C g mLc18 _ _ _ _ _ _ _ _ _ _
  unfold f_Lc18
  refine tw_aload_n (k := 0) rfl rfl ?_
  refine tw_aload_n (k := 1) rfl rfl ?_
  refine tw_iload (k := 2) rfl rfl ?_
  refine tw_iconst (k := 3) (1 : Int32) rfl (by decide) ?_
  refine tw_iadd (k := 4) rfl ?_
  refine tw_iaload (k := 5) rfl (fun x176 => ?_)
  refine tw_aload_n (k := 6) rfl rfl ?_
  refine tw_iload (k := 7) rfl rfl ?_
  refine tw_iconst (k := 8) (2 : Int32) rfl (by decide) ?_
  refine tw_iadd (k := 9) rfl ?_
  refine tw_iaload (k := 10) rfl (fun x177 => ?_)
  refine tw_aload_n (k := 11) rfl rfl ?_
  refine tw_iload (k := 12) rfl rfl ?_
  refine tw_iconst (k := 13) (3 : Int32) rfl (by decide) ?_
  refine tw_iadd (k := 14) rfl ?_
  refine tw_iaload (k := 15) rfl (fun x178 => ?_)
  refine tw_aload_n (k := 16) rfl rfl ?_
  refine tw_callSW (k := 17) (d' := 9) (mc' := 4) (ms' := 24) tw_cI tw_cIi [.ref b1, .int x176, .int x177, .int x178, .ref b5] rfl rfl wx_RL_205_L_guess mo_L_guess rfl (fun Q9 => K_L_guess Q9 b1 x176 x177 x178 b5) (by omega) (by omega) (by omega) (Nat.le_of_ble_eq_true rfl) (fun x179 => ?_)
  refine tw_ist (k := 18) [some (.ref a0), some (.ref b1), some (.ref b3), some (.ref b5), some (.int s7), some (.int x179), none] rfl (Nat.le_of_ble_eq_true rfl) rfl rfl ?_
  refine tw_aload_n (k := 19) rfl rfl ?_
  refine tw_aload_n (k := 20) rfl rfl ?_
  refine tw_iload (k := 21) rfl rfl ?_
  refine tw_iconst (k := 22) (1 : Int32) rfl (by decide) ?_
  refine tw_iadd (k := 23) rfl ?_
  refine tw_iaload (k := 24) rfl (fun x180 => ?_)
  refine tw_aload_n (k := 25) rfl rfl ?_
  refine tw_iload (k := 26) rfl rfl ?_
  refine tw_iconst (k := 27) (2 : Int32) rfl (by decide) ?_
  refine tw_iadd (k := 28) rfl ?_
  refine tw_iaload (k := 29) rfl (fun x181 => ?_)
  refine tw_aload_n (k := 30) rfl rfl ?_
  refine tw_iload (k := 31) rfl rfl ?_
  refine tw_iconst (k := 32) (3 : Int32) rfl (by decide) ?_
  refine tw_iadd (k := 33) rfl ?_
  refine tw_iaload (k := 34) rfl (fun x182 => ?_)
  refine tw_callV (k := 35) (d' := 4) (mc' := 0) (ms' := 0) tw_cI tw_cIi [.int x180, .int x181, .int x182] rfl rfl wv_RL_207_X12_guess mo_X12_guess (t := 11) rfl rfl rfl (fun Q9 => K_X12_guess Q9 b3 x180 x181 x182) (by omega) (by omega) (by omega) (Nat.le_of_ble_eq_true rfl) (fun x183 => ?_)
  refine tw_ist (k := 36) [some (.ref a0), some (.ref b1), some (.ref b3), some (.ref b5), some (.int s7), some (.int x179), some (.int x183)] rfl (Nat.le_of_ble_eq_true rfl) rfl rfl ?_
  refine tw_aload_n (k := 37) rfl rfl ?_
  refine tw_callV (k := 38) (d' := 1) (mc' := 0) (ms' := 0) tw_cI tw_cIi [] rfl rfl wv_RL_152_X12_thrown mo_X12_thrown (t := 11) rfl rfl rfl (fun Q9 => K_X12_thrown Q9 b3) (by omega) (by omega) (by omega) (Nat.le_of_ble_eq_true rfl) (fun x184 => ?_)
  refine tw_iload (k := 39) rfl rfl ?_
  refine tw_icmp_eq (k := 40) 1430 rfl (by decide) ?_ ?_
  · refine tw_iload (k := 43) rfl rfl ?_
    refine tw_join 1447 (fun s186 => [some (.ref a0), some (.ref b1), some (.ref b3), some (.ref b5), some (.int s7), some (.int x179), some (.int x183)]) (fun s186 => []) (182 + s7.toNatClampNeg + 4) (20089 + 300 * s7.toNatClampNeg + 24) (fun s186 => ?_) (fun j185 g185 => ?_)
    · refine tw_goto (k := 54) 2993 rfl (by decide) ?_
      refine tw_wide (k2 := (182 + s7.toNatClampNeg + 6)) (s2 := (20089 + 300 * s7.toNatClampNeg + 1626)) (by omega) (by omega) ?_
      exact tw_wk (L' := [some (.ref a0), some (.ref b1), some (.ref b3), some (.ref b5), some (.int s7), none, none]) ⟨Or.inr rfl, Or.inr rfl, Or.inr rfl, Or.inr rfl, Or.inr rfl, Or.inl rfl, Or.inl rfl, trivial⟩ (g10 ())
    · refine tw_if_ne (k := 44) 1447 rfl (by decide) ?_ ?_
      · exact g185 ()
      · refine tw_aload_n (k := 45) rfl rfl ?_
        refine tw_iconst (k := 46) (0 : Int32) rfl (by decide) ?_
        refine tw_laload (k := 47) rfl (fun x187 => ?_)
        refine tw_iload (k := 48) rfl rfl ?_
        refine tw_i2l (k := 49) rfl ?_
        refine tw_lcmp (k := 50) rfl ?_
        refine tw_if_eq (k := 51) 1447 rfl (by decide) ?_ ?_
        · exact g185 ()
        · refine tw_iconst (k := 52) (0 : Int32) rfl (by decide) ?_
          exact tw_zreturn (k := 53) rfl rfl (by omega) (by omega)
  · refine tw_iconst (k := 41) (0 : Int32) rfl (by decide) ?_
    exact tw_zreturn (k := 42) rfl rfl (by omega) (by omega)
def f_Lc19 (a0 b1 b3 b5 : Nat) (s7 : Int32) (j10 : Unit → tw_Mem → Prop) (k : Int32 → tw_Mem → Prop) : tw_Mem → Prop :=
  tw_li a0 (s7 + (1 : Int32)) fun x188 => f_L_forget b1 x188 b5 (fun x189 => tw_li a0 (s7 + (1 : Int32)) fun x190 => tw_iv 11 b3 (f_X12_forget b3 x190 (fun x191 => tw_iv 11 b3 (f_X12_thrown b3 (fun x192 => tw_if (x192 = x189) (tw_jn (fun (s194 : Unit) => j10 ()) (fun j193 => tw_if (x189 = 0) (tw_ll b5 (0 : Int32) fun x195 => tw_if ((lg_cmp x195 (x191.toInt64)) = 0) (j193 ()) (tw_rz (0 : Int32) (k (0 : Int32)))) (j193 ()))) (tw_rz (0 : Int32) (k (0 : Int32))))))))
set_option maxHeartbeats 4000000 in
set_option maxRecDepth 100000 in
theorem C_Lc19 {g : tw_Gx} {Q : tw_Rs → tw_Mem → Prop} (a0 b1 b3 b5 : Nat) (s7 : Int32) (hP7 : s7.toNatClampNeg ≤ 3072) (j10 : Unit → tw_Mem → Prop) (g10 : ∀ z : Unit, tw_C g mL_law_ 1300 601024 7293034 Q 2993 [some (.ref a0), some (.ref b1), some (.ref b3), some (.ref b5), some (.int s7), none, none] [] (182 + s7.toNatClampNeg + 6) (20089 + 300 * s7.toNatClampNeg + 1626) (j10 z)) : tw_C g mL_law_ 1300 601024 7293034 Q 1450 [some (.ref a0), some (.ref b1), some (.ref b3), some (.ref b5), some (.int s7), none, none] [] (182 + s7.toNatClampNeg + 0) (20089 + 300 * s7.toNatClampNeg + 0) (f_Lc19 a0 b1 b3 b5 s7 j10 (fun v => Q (.inl (some (.int v))))) := by
  have g10 := fun z => tw_Ctab (r' := (tw_tb mLc19)) dk_L_law_ (g10 z)
  change ∀ z : Unit, tw_C g mLc19 _ _ _ _ _ _ _ _ _ _ at g10
  refine tw_Ctab (r := (tw_tb mLc19)) dk_Lc19 ?_
  show tw_C g mLc19 _ _ _ _ _ _ _ _ _ _
  unfold f_Lc19
  refine tw_aload_n (k := 0) rfl rfl ?_
  refine tw_aload_n (k := 1) rfl rfl ?_
  refine tw_iload (k := 2) rfl rfl ?_
  refine tw_iconst (k := 3) (1 : Int32) rfl (by decide) ?_
  refine tw_iadd (k := 4) rfl ?_
  refine tw_iaload (k := 5) rfl (fun x188 => ?_)
  refine tw_aload_n (k := 6) rfl rfl ?_
  refine tw_callSW (k := 7) (d' := 8) (mc' := 1) (ms' := 6) tw_cI tw_cIi [.ref b1, .int x188, .ref b5] rfl rfl wx_RL_208_L_forget mo_L_forget rfl (fun Q9 => K_L_forget Q9 b1 x188 b5) (by omega) (by omega) (by omega) (Nat.le_of_ble_eq_true rfl) (fun x189 => ?_)
  refine tw_ist (k := 8) [some (.ref a0), some (.ref b1), some (.ref b3), some (.ref b5), some (.int s7), some (.int x189), none] rfl (Nat.le_of_ble_eq_true rfl) rfl rfl ?_
  refine tw_aload_n (k := 9) rfl rfl ?_
  refine tw_aload_n (k := 10) rfl rfl ?_
  refine tw_iload (k := 11) rfl rfl ?_
  refine tw_iconst (k := 12) (1 : Int32) rfl (by decide) ?_
  refine tw_iadd (k := 13) rfl ?_
  refine tw_iaload (k := 14) rfl (fun x190 => ?_)
  refine tw_callV (k := 15) (d' := 4) (mc' := 0) (ms' := 0) tw_cI tw_cIi [.int x190] rfl rfl wv_RL_210_X12_forget mo_X12_forget (t := 11) rfl rfl rfl (fun Q9 => K_X12_forget Q9 b3 x190) (by omega) (by omega) (by omega) (Nat.le_of_ble_eq_true rfl) (fun x191 => ?_)
  refine tw_ist (k := 16) [some (.ref a0), some (.ref b1), some (.ref b3), some (.ref b5), some (.int s7), some (.int x189), some (.int x191)] rfl (Nat.le_of_ble_eq_true rfl) rfl rfl ?_
  refine tw_aload_n (k := 17) rfl rfl ?_
  refine tw_callV (k := 18) (d' := 1) (mc' := 0) (ms' := 0) tw_cI tw_cIi [] rfl rfl wv_RL_152_X12_thrown mo_X12_thrown (t := 11) rfl rfl rfl (fun Q9 => K_X12_thrown Q9 b3) (by omega) (by omega) (by omega) (Nat.le_of_ble_eq_true rfl) (fun x192 => ?_)
  refine tw_iload (k := 19) rfl rfl ?_
  refine tw_icmp_eq (k := 20) 1486 rfl (by decide) ?_ ?_
  · refine tw_iload (k := 23) rfl rfl ?_
    refine tw_join 1503 (fun s194 => [some (.ref a0), some (.ref b1), some (.ref b3), some (.ref b5), some (.int s7), some (.int x189), some (.int x191)]) (fun s194 => []) (182 + s7.toNatClampNeg + 1) (20089 + 300 * s7.toNatClampNeg + 6) (fun s194 => ?_) (fun j193 g193 => ?_)
    · refine tw_goto (k := 34) 2993 rfl (by decide) ?_
      refine tw_wide (k2 := (182 + s7.toNatClampNeg + 6)) (s2 := (20089 + 300 * s7.toNatClampNeg + 1626)) (by omega) (by omega) ?_
      exact tw_wk (L' := [some (.ref a0), some (.ref b1), some (.ref b3), some (.ref b5), some (.int s7), none, none]) ⟨Or.inr rfl, Or.inr rfl, Or.inr rfl, Or.inr rfl, Or.inr rfl, Or.inl rfl, Or.inl rfl, trivial⟩ (g10 ())
    · refine tw_if_ne (k := 24) 1503 rfl (by decide) ?_ ?_
      · exact g193 ()
      · refine tw_aload_n (k := 25) rfl rfl ?_
        refine tw_iconst (k := 26) (0 : Int32) rfl (by decide) ?_
        refine tw_laload (k := 27) rfl (fun x195 => ?_)
        refine tw_iload (k := 28) rfl rfl ?_
        refine tw_i2l (k := 29) rfl ?_
        refine tw_lcmp (k := 30) rfl ?_
        refine tw_if_eq (k := 31) 1503 rfl (by decide) ?_ ?_
        · exact g193 ()
        · refine tw_iconst (k := 32) (0 : Int32) rfl (by decide) ?_
          exact tw_zreturn (k := 33) rfl rfl (by omega) (by omega)
  · refine tw_iconst (k := 21) (0 : Int32) rfl (by decide) ?_
    exact tw_zreturn (k := 22) rfl rfl (by omega) (by omega)
def f_Lc20 (a0 b1 b3 b5 : Nat) (s7 : Int32) (j10 : Unit → tw_Mem → Prop) (k : Int32 → tw_Mem → Prop) : tw_Mem → Prop :=
  tw_li a0 (s7 + (1 : Int32)) fun x196 => f_L_hours b1 x196 b5 (fun x197 => tw_li a0 (s7 + (1 : Int32)) fun x198 => tw_iv 11 b3 (f_X12_hours b3 x198 (fun x199 => tw_iv 11 b3 (f_X12_thrown b3 (fun x200 => tw_if (x200 = x197) (tw_jn (fun (s202 : Unit) => j10 ()) (fun j201 => tw_if (x197 = 0) (tw_ll b5 (0 : Int32) fun x203 => tw_if ((lg_cmp x203 (x199.toInt64)) = 0) (j201 ()) (tw_rz (0 : Int32) (k (0 : Int32)))) (j201 ()))) (tw_rz (0 : Int32) (k (0 : Int32))))))))
set_option maxHeartbeats 4000000 in
set_option maxRecDepth 100000 in
theorem C_Lc20 {g : tw_Gx} {Q : tw_Rs → tw_Mem → Prop} (a0 b1 b3 b5 : Nat) (s7 : Int32) (hP7 : s7.toNatClampNeg ≤ 3072) (j10 : Unit → tw_Mem → Prop) (g10 : ∀ z : Unit, tw_C g mL_law_ 1300 601024 7293034 Q 2993 [some (.ref a0), some (.ref b1), some (.ref b3), some (.ref b5), some (.int s7), none, none] [] (182 + s7.toNatClampNeg + 6) (20089 + 300 * s7.toNatClampNeg + 1626) (j10 z)) : tw_C g mL_law_ 1300 601024 7293034 Q 1506 [some (.ref a0), some (.ref b1), some (.ref b3), some (.ref b5), some (.int s7), none, none] [] (182 + s7.toNatClampNeg + 0) (20089 + 300 * s7.toNatClampNeg + 0) (f_Lc20 a0 b1 b3 b5 s7 j10 (fun v => Q (.inl (some (.int v))))) := by
  have g10 := fun z => tw_Ctab (r' := (tw_tb mLc20)) dk_L_law_ (g10 z)
  change ∀ z : Unit, tw_C g mLc20 _ _ _ _ _ _ _ _ _ _ at g10
  refine tw_Ctab (r := (tw_tb mLc20)) dk_Lc20 ?_
  show tw_C g mLc20 _ _ _ _ _ _ _ _ _ _
  unfold f_Lc20
  refine tw_aload_n (k := 0) rfl rfl ?_
  refine tw_aload_n (k := 1) rfl rfl ?_
  refine tw_iload (k := 2) rfl rfl ?_
  refine tw_iconst (k := 3) (1 : Int32) rfl (by decide) ?_
  refine tw_iadd (k := 4) rfl ?_
  refine tw_iaload (k := 5) rfl (fun x196 => ?_)
  refine tw_aload_n (k := 6) rfl rfl ?_
  refine tw_callSW (k := 7) (d' := 9) (mc' := 1) (ms' := 6) tw_cI tw_cIi [.ref b1, .int x196, .ref b5] rfl rfl wx_RL_211_L_hours mo_L_hours rfl (fun Q9 => K_L_hours Q9 b1 x196 b5) (by omega) (by omega) (by omega) (Nat.le_of_ble_eq_true rfl) (fun x197 => ?_)
  refine tw_ist (k := 8) [some (.ref a0), some (.ref b1), some (.ref b3), some (.ref b5), some (.int s7), some (.int x197), none] rfl (Nat.le_of_ble_eq_true rfl) rfl rfl ?_
  refine tw_aload_n (k := 9) rfl rfl ?_
  refine tw_aload_n (k := 10) rfl rfl ?_
  refine tw_iload (k := 11) rfl rfl ?_
  refine tw_iconst (k := 12) (1 : Int32) rfl (by decide) ?_
  refine tw_iadd (k := 13) rfl ?_
  refine tw_iaload (k := 14) rfl (fun x198 => ?_)
  refine tw_callV (k := 15) (d' := 13) (mc' := 0) (ms' := 0) tw_cI tw_cIi [.int x198] rfl rfl wv_RL_213_X12_hours mo_X12_hours (t := 11) rfl rfl rfl (fun Q9 => K_X12_hours Q9 b3 x198) (by omega) (by omega) (by omega) (Nat.le_of_ble_eq_true rfl) (fun x199 => ?_)
  refine tw_ist (k := 16) [some (.ref a0), some (.ref b1), some (.ref b3), some (.ref b5), some (.int s7), some (.int x197), some (.int x199)] rfl (Nat.le_of_ble_eq_true rfl) rfl rfl ?_
  refine tw_aload_n (k := 17) rfl rfl ?_
  refine tw_callV (k := 18) (d' := 1) (mc' := 0) (ms' := 0) tw_cI tw_cIi [] rfl rfl wv_RL_152_X12_thrown mo_X12_thrown (t := 11) rfl rfl rfl (fun Q9 => K_X12_thrown Q9 b3) (by omega) (by omega) (by omega) (Nat.le_of_ble_eq_true rfl) (fun x200 => ?_)
  refine tw_iload (k := 19) rfl rfl ?_
  refine tw_icmp_eq (k := 20) 1542 rfl (by decide) ?_ ?_
  · refine tw_iload (k := 23) rfl rfl ?_
    refine tw_join 1559 (fun s202 => [some (.ref a0), some (.ref b1), some (.ref b3), some (.ref b5), some (.int s7), some (.int x197), some (.int x199)]) (fun s202 => []) (182 + s7.toNatClampNeg + 1) (20089 + 300 * s7.toNatClampNeg + 6) (fun s202 => ?_) (fun j201 g201 => ?_)
    · refine tw_goto (k := 34) 2993 rfl (by decide) ?_
      refine tw_wide (k2 := (182 + s7.toNatClampNeg + 6)) (s2 := (20089 + 300 * s7.toNatClampNeg + 1626)) (by omega) (by omega) ?_
      exact tw_wk (L' := [some (.ref a0), some (.ref b1), some (.ref b3), some (.ref b5), some (.int s7), none, none]) ⟨Or.inr rfl, Or.inr rfl, Or.inr rfl, Or.inr rfl, Or.inr rfl, Or.inl rfl, Or.inl rfl, trivial⟩ (g10 ())
    · refine tw_if_ne (k := 24) 1559 rfl (by decide) ?_ ?_
      · exact g201 ()
      · refine tw_aload_n (k := 25) rfl rfl ?_
        refine tw_iconst (k := 26) (0 : Int32) rfl (by decide) ?_
        refine tw_laload (k := 27) rfl (fun x203 => ?_)
        refine tw_iload (k := 28) rfl rfl ?_
        refine tw_i2l (k := 29) rfl ?_
        refine tw_lcmp (k := 30) rfl ?_
        refine tw_if_eq (k := 31) 1559 rfl (by decide) ?_ ?_
        · exact g201 ()
        · refine tw_iconst (k := 32) (0 : Int32) rfl (by decide) ?_
          exact tw_zreturn (k := 33) rfl rfl (by omega) (by omega)
  · refine tw_iconst (k := 21) (0 : Int32) rfl (by decide) ?_
    exact tw_zreturn (k := 22) rfl rfl (by omega) (by omega)
def f_Lc21 (a0 b1 b3 b5 : Nat) (s7 : Int32) (j10 : Unit → tw_Mem → Prop) (k : Int32 → tw_Mem → Prop) : tw_Mem → Prop :=
  tw_li a0 (s7 + (1 : Int32)) fun x204 => f_L_chimes b1 x204 b5 (fun x205 => tw_li a0 (s7 + (1 : Int32)) fun x206 => tw_iv 11 b3 (f_X12_chimes b3 x206 (fun x207 => tw_iv 11 b3 (f_X12_thrown b3 (fun x208 => tw_if (x208 = x205) (tw_jn (fun (s210 : Unit) => j10 ()) (fun j209 => tw_if (x205 = 0) (tw_ll b5 (0 : Int32) fun x211 => tw_if ((lg_cmp x211 (x207.toInt64)) = 0) (j209 ()) (tw_rz (0 : Int32) (k (0 : Int32)))) (j209 ()))) (tw_rz (0 : Int32) (k (0 : Int32))))))))
set_option maxHeartbeats 4000000 in
set_option maxRecDepth 100000 in
theorem C_Lc21 {g : tw_Gx} {Q : tw_Rs → tw_Mem → Prop} (a0 b1 b3 b5 : Nat) (s7 : Int32) (hP7 : s7.toNatClampNeg ≤ 3072) (j10 : Unit → tw_Mem → Prop) (g10 : ∀ z : Unit, tw_C g mL_law_ 1300 601024 7293034 Q 2993 [some (.ref a0), some (.ref b1), some (.ref b3), some (.ref b5), some (.int s7), none, none] [] (182 + s7.toNatClampNeg + 6) (20089 + 300 * s7.toNatClampNeg + 1626) (j10 z)) : tw_C g mL_law_ 1300 601024 7293034 Q 1562 [some (.ref a0), some (.ref b1), some (.ref b3), some (.ref b5), some (.int s7), none, none] [] (182 + s7.toNatClampNeg + 0) (20089 + 300 * s7.toNatClampNeg + 0) (f_Lc21 a0 b1 b3 b5 s7 j10 (fun v => Q (.inl (some (.int v))))) := by
  have g10 := fun z => tw_Ctab (r' := (tw_tb mLc21)) dk_L_law_ (g10 z)
  change ∀ z : Unit, tw_C g mLc21 _ _ _ _ _ _ _ _ _ _ at g10
  refine tw_Ctab (r := (tw_tb mLc21)) dk_Lc21 ?_
  show tw_C g mLc21 _ _ _ _ _ _ _ _ _ _
  unfold f_Lc21
  refine tw_aload_n (k := 0) rfl rfl ?_
  refine tw_aload_n (k := 1) rfl rfl ?_
  refine tw_iload (k := 2) rfl rfl ?_
  refine tw_iconst (k := 3) (1 : Int32) rfl (by decide) ?_
  refine tw_iadd (k := 4) rfl ?_
  refine tw_iaload (k := 5) rfl (fun x204 => ?_)
  refine tw_aload_n (k := 6) rfl rfl ?_
  refine tw_callSW (k := 7) (d' := 9) (mc' := 1) (ms' := 6) tw_cI tw_cIi [.ref b1, .int x204, .ref b5] rfl rfl wx_RL_214_L_chimes mo_L_chimes rfl (fun Q9 => K_L_chimes Q9 b1 x204 b5) (by omega) (by omega) (by omega) (Nat.le_of_ble_eq_true rfl) (fun x205 => ?_)
  refine tw_ist (k := 8) [some (.ref a0), some (.ref b1), some (.ref b3), some (.ref b5), some (.int s7), some (.int x205), none] rfl (Nat.le_of_ble_eq_true rfl) rfl rfl ?_
  refine tw_aload_n (k := 9) rfl rfl ?_
  refine tw_aload_n (k := 10) rfl rfl ?_
  refine tw_iload (k := 11) rfl rfl ?_
  refine tw_iconst (k := 12) (1 : Int32) rfl (by decide) ?_
  refine tw_iadd (k := 13) rfl ?_
  refine tw_iaload (k := 14) rfl (fun x206 => ?_)
  refine tw_callV (k := 15) (d' := 13) (mc' := 0) (ms' := 0) tw_cI tw_cIi [.int x206] rfl rfl wv_RL_216_X12_chimes mo_X12_chimes (t := 11) rfl rfl rfl (fun Q9 => K_X12_chimes Q9 b3 x206) (by omega) (by omega) (by omega) (Nat.le_of_ble_eq_true rfl) (fun x207 => ?_)
  refine tw_ist (k := 16) [some (.ref a0), some (.ref b1), some (.ref b3), some (.ref b5), some (.int s7), some (.int x205), some (.int x207)] rfl (Nat.le_of_ble_eq_true rfl) rfl rfl ?_
  refine tw_aload_n (k := 17) rfl rfl ?_
  refine tw_callV (k := 18) (d' := 1) (mc' := 0) (ms' := 0) tw_cI tw_cIi [] rfl rfl wv_RL_152_X12_thrown mo_X12_thrown (t := 11) rfl rfl rfl (fun Q9 => K_X12_thrown Q9 b3) (by omega) (by omega) (by omega) (Nat.le_of_ble_eq_true rfl) (fun x208 => ?_)
  refine tw_iload (k := 19) rfl rfl ?_
  refine tw_icmp_eq (k := 20) 1598 rfl (by decide) ?_ ?_
  · refine tw_iload (k := 23) rfl rfl ?_
    refine tw_join 1615 (fun s210 => [some (.ref a0), some (.ref b1), some (.ref b3), some (.ref b5), some (.int s7), some (.int x205), some (.int x207)]) (fun s210 => []) (182 + s7.toNatClampNeg + 1) (20089 + 300 * s7.toNatClampNeg + 6) (fun s210 => ?_) (fun j209 g209 => ?_)
    · refine tw_goto (k := 34) 2993 rfl (by decide) ?_
      refine tw_wide (k2 := (182 + s7.toNatClampNeg + 6)) (s2 := (20089 + 300 * s7.toNatClampNeg + 1626)) (by omega) (by omega) ?_
      exact tw_wk (L' := [some (.ref a0), some (.ref b1), some (.ref b3), some (.ref b5), some (.int s7), none, none]) ⟨Or.inr rfl, Or.inr rfl, Or.inr rfl, Or.inr rfl, Or.inr rfl, Or.inl rfl, Or.inl rfl, trivial⟩ (g10 ())
    · refine tw_if_ne (k := 24) 1615 rfl (by decide) ?_ ?_
      · exact g209 ()
      · refine tw_aload_n (k := 25) rfl rfl ?_
        refine tw_iconst (k := 26) (0 : Int32) rfl (by decide) ?_
        refine tw_laload (k := 27) rfl (fun x211 => ?_)
        refine tw_iload (k := 28) rfl rfl ?_
        refine tw_i2l (k := 29) rfl ?_
        refine tw_lcmp (k := 30) rfl ?_
        refine tw_if_eq (k := 31) 1615 rfl (by decide) ?_ ?_
        · exact g209 ()
        · refine tw_iconst (k := 32) (0 : Int32) rfl (by decide) ?_
          exact tw_zreturn (k := 33) rfl rfl (by omega) (by omega)
  · refine tw_iconst (k := 21) (0 : Int32) rfl (by decide) ?_
    exact tw_zreturn (k := 22) rfl rfl (by omega) (by omega)
def f_Lc22 (a0 b1 b3 b5 : Nat) (s7 : Int32) (j10 : Unit → tw_Mem → Prop) (k : Int32 → tw_Mem → Prop) : tw_Mem → Prop :=
  tw_li a0 (s7 + (1 : Int32)) fun x212 => tw_li a0 (s7 + (2 : Int32)) fun x213 => f_L_lasts b1 x212 x213 b5 (fun x214 => tw_li a0 (s7 + (1 : Int32)) fun x215 => tw_li a0 (s7 + (2 : Int32)) fun x216 => tw_iv 11 b3 (f_X12_lasts b3 x215 x216 (fun x217 => tw_iv 11 b3 (f_X12_thrown b3 (fun x218 => tw_if (x218 = x214) (tw_jn (fun (s220 : Unit) => j10 ()) (fun j219 => tw_if (x214 = 0) (tw_ll b5 (0 : Int32) fun x221 => tw_if ((lg_cmp x221 (x217.toInt64)) = 0) (j219 ()) (tw_rz (0 : Int32) (k (0 : Int32)))) (j219 ()))) (tw_rz (0 : Int32) (k (0 : Int32))))))))
set_option maxHeartbeats 4000000 in
set_option maxRecDepth 100000 in
theorem C_Lc22 {g : tw_Gx} {Q : tw_Rs → tw_Mem → Prop} (a0 b1 b3 b5 : Nat) (s7 : Int32) (hP7 : s7.toNatClampNeg ≤ 3072) (j10 : Unit → tw_Mem → Prop) (g10 : ∀ z : Unit, tw_C g mL_law_ 1300 601024 7293034 Q 2993 [some (.ref a0), some (.ref b1), some (.ref b3), some (.ref b5), some (.int s7), none, none] [] (182 + s7.toNatClampNeg + 6) (20089 + 300 * s7.toNatClampNeg + 1626) (j10 z)) : tw_C g mL_law_ 1300 601024 7293034 Q 1618 [some (.ref a0), some (.ref b1), some (.ref b3), some (.ref b5), some (.int s7), none, none] [] (182 + s7.toNatClampNeg + 0) (20089 + 300 * s7.toNatClampNeg + 0) (f_Lc22 a0 b1 b3 b5 s7 j10 (fun v => Q (.inl (some (.int v))))) := by
  have g10 := fun z => tw_Ctab (r' := (tw_tb mLc22)) dk_L_law_ (g10 z)
  change ∀ z : Unit, tw_C g mLc22 _ _ _ _ _ _ _ _ _ _ at g10
  refine tw_Ctab (r := (tw_tb mLc22)) dk_Lc22 ?_
  show tw_C g mLc22 _ _ _ _ _ _ _ _ _ _
  unfold f_Lc22
  refine tw_aload_n (k := 0) rfl rfl ?_
  refine tw_aload_n (k := 1) rfl rfl ?_
  refine tw_iload (k := 2) rfl rfl ?_
  refine tw_iconst (k := 3) (1 : Int32) rfl (by decide) ?_
  refine tw_iadd (k := 4) rfl ?_
  refine tw_iaload (k := 5) rfl (fun x212 => ?_)
  refine tw_aload_n (k := 6) rfl rfl ?_
  refine tw_iload (k := 7) rfl rfl ?_
  refine tw_iconst (k := 8) (2 : Int32) rfl (by decide) ?_
  refine tw_iadd (k := 9) rfl ?_
  refine tw_iaload (k := 10) rfl (fun x213 => ?_)
  refine tw_aload_n (k := 11) rfl rfl ?_
  refine tw_callSW (k := 12) (d' := 9) (mc' := 3) (ms' := 18) tw_cI tw_cIi [.ref b1, .int x212, .int x213, .ref b5] rfl rfl wx_RL_217_L_lasts mo_L_lasts rfl (fun Q9 => K_L_lasts Q9 b1 x212 x213 b5) (by omega) (by omega) (by omega) (Nat.le_of_ble_eq_true rfl) (fun x214 => ?_)
  refine tw_ist (k := 13) [some (.ref a0), some (.ref b1), some (.ref b3), some (.ref b5), some (.int s7), some (.int x214), none] rfl (Nat.le_of_ble_eq_true rfl) rfl rfl ?_
  refine tw_aload_n (k := 14) rfl rfl ?_
  refine tw_aload_n (k := 15) rfl rfl ?_
  refine tw_iload (k := 16) rfl rfl ?_
  refine tw_iconst (k := 17) (1 : Int32) rfl (by decide) ?_
  refine tw_iadd (k := 18) rfl ?_
  refine tw_iaload (k := 19) rfl (fun x215 => ?_)
  refine tw_aload_n (k := 20) rfl rfl ?_
  refine tw_iload (k := 21) rfl rfl ?_
  refine tw_iconst (k := 22) (2 : Int32) rfl (by decide) ?_
  refine tw_iadd (k := 23) rfl ?_
  refine tw_iaload (k := 24) rfl (fun x216 => ?_)
  refine tw_callV (k := 25) (d' := 12) (mc' := 0) (ms' := 0) tw_cI tw_cIi [.int x215, .int x216] rfl rfl wv_RL_219_X12_lasts mo_X12_lasts (t := 11) rfl rfl rfl (fun Q9 => K_X12_lasts Q9 b3 x215 x216) (by omega) (by omega) (by omega) (Nat.le_of_ble_eq_true rfl) (fun x217 => ?_)
  refine tw_ist (k := 26) [some (.ref a0), some (.ref b1), some (.ref b3), some (.ref b5), some (.int s7), some (.int x214), some (.int x217)] rfl (Nat.le_of_ble_eq_true rfl) rfl rfl ?_
  refine tw_aload_n (k := 27) rfl rfl ?_
  refine tw_callV (k := 28) (d' := 1) (mc' := 0) (ms' := 0) tw_cI tw_cIi [] rfl rfl wv_RL_152_X12_thrown mo_X12_thrown (t := 11) rfl rfl rfl (fun Q9 => K_X12_thrown Q9 b3) (by omega) (by omega) (by omega) (Nat.le_of_ble_eq_true rfl) (fun x218 => ?_)
  refine tw_iload (k := 29) rfl rfl ?_
  refine tw_icmp_eq (k := 30) 1666 rfl (by decide) ?_ ?_
  · refine tw_iload (k := 33) rfl rfl ?_
    refine tw_join 1683 (fun s220 => [some (.ref a0), some (.ref b1), some (.ref b3), some (.ref b5), some (.int s7), some (.int x214), some (.int x217)]) (fun s220 => []) (182 + s7.toNatClampNeg + 3) (20089 + 300 * s7.toNatClampNeg + 18) (fun s220 => ?_) (fun j219 g219 => ?_)
    · refine tw_goto (k := 44) 2993 rfl (by decide) ?_
      refine tw_wide (k2 := (182 + s7.toNatClampNeg + 6)) (s2 := (20089 + 300 * s7.toNatClampNeg + 1626)) (by omega) (by omega) ?_
      exact tw_wk (L' := [some (.ref a0), some (.ref b1), some (.ref b3), some (.ref b5), some (.int s7), none, none]) ⟨Or.inr rfl, Or.inr rfl, Or.inr rfl, Or.inr rfl, Or.inr rfl, Or.inl rfl, Or.inl rfl, trivial⟩ (g10 ())
    · refine tw_if_ne (k := 34) 1683 rfl (by decide) ?_ ?_
      · exact g219 ()
      · refine tw_aload_n (k := 35) rfl rfl ?_
        refine tw_iconst (k := 36) (0 : Int32) rfl (by decide) ?_
        refine tw_laload (k := 37) rfl (fun x221 => ?_)
        refine tw_iload (k := 38) rfl rfl ?_
        refine tw_i2l (k := 39) rfl ?_
        refine tw_lcmp (k := 40) rfl ?_
        refine tw_if_eq (k := 41) 1683 rfl (by decide) ?_ ?_
        · exact g219 ()
        · refine tw_iconst (k := 42) (0 : Int32) rfl (by decide) ?_
          exact tw_zreturn (k := 43) rfl rfl (by omega) (by omega)
  · refine tw_iconst (k := 31) (0 : Int32) rfl (by decide) ?_
    exact tw_zreturn (k := 32) rfl rfl (by omega) (by omega)
def f_Lc23 (a0 b1 b3 b5 : Nat) (s7 : Int32) (j10 : Unit → tw_Mem → Prop) (k : Int32 → tw_Mem → Prop) : tw_Mem → Prop :=
  tw_iv 10 b1 (f_X11_longest b1 (fun x222 => tw_iv 11 b3 (f_X12_longest b3 (fun x223 => tw_if (x222 = x223) (j10 ()) (tw_rz (0 : Int32) (k (0 : Int32)))))))
set_option maxHeartbeats 4000000 in
set_option maxRecDepth 100000 in
theorem C_Lc23 {g : tw_Gx} {Q : tw_Rs → tw_Mem → Prop} (a0 b1 b3 b5 : Nat) (s7 : Int32) (hP7 : s7.toNatClampNeg ≤ 3072) (j10 : Unit → tw_Mem → Prop) (g10 : ∀ z : Unit, tw_C g mL_law_ 1300 601024 7293034 Q 2993 [some (.ref a0), some (.ref b1), some (.ref b3), some (.ref b5), some (.int s7), none, none] [] (182 + s7.toNatClampNeg + 6) (20089 + 300 * s7.toNatClampNeg + 1626) (j10 z)) : tw_C g mL_law_ 1300 601024 7293034 Q 1686 [some (.ref a0), some (.ref b1), some (.ref b3), some (.ref b5), some (.int s7), none, none] [] (182 + s7.toNatClampNeg + 0) (20089 + 300 * s7.toNatClampNeg + 0) (f_Lc23 a0 b1 b3 b5 s7 j10 (fun v => Q (.inl (some (.int v))))) := by
  have g10 := fun z => tw_Ctab (r' := (tw_tb mLc23)) dk_L_law_ (g10 z)
  change ∀ z : Unit, tw_C g mLc23 _ _ _ _ _ _ _ _ _ _ at g10
  refine tw_Ctab (r := (tw_tb mLc23)) dk_Lc23 ?_
  show tw_C g mLc23 _ _ _ _ _ _ _ _ _ _
  unfold f_Lc23
  refine tw_aload_n (k := 0) rfl rfl ?_
  refine tw_callV (k := 1) (d' := 8) (mc' := 0) (ms' := 0) tw_cI tw_cIi [] rfl rfl wv_RL_220_X11_longest mo_X11_longest (t := 10) rfl rfl rfl (fun Q9 => K_X11_longest Q9 b1) (by omega) (by omega) (by omega) (Nat.le_of_ble_eq_true rfl) (fun x222 => ?_)
  refine tw_aload_n (k := 2) rfl rfl ?_
  refine tw_callV (k := 3) (d' := 12) (mc' := 0) (ms' := 0) tw_cI tw_cIi [] rfl rfl wv_RL_223_X12_longest mo_X12_longest (t := 11) rfl rfl rfl (fun Q9 => K_X12_longest Q9 b3) (by omega) (by omega) (by omega) (Nat.le_of_ble_eq_true rfl) (fun x223 => ?_)
  refine tw_icmp_eq (k := 4) 2993 rfl (by decide) ?_ ?_
  · refine tw_wide (k2 := (182 + s7.toNatClampNeg + 6)) (s2 := (20089 + 300 * s7.toNatClampNeg + 1626)) (by omega) (by omega) ?_
    exact g10 ()
  · refine tw_iconst (k := 5) (0 : Int32) rfl (by decide) ?_
    exact tw_zreturn (k := 6) rfl rfl (by omega) (by omega)
def f_Lc24 (a0 b1 b3 b5 : Nat) (s7 : Int32) (j10 : Unit → tw_Mem → Prop) (k : Int32 → tw_Mem → Prop) : tw_Mem → Prop :=
  tw_li a0 (s7 + (1 : Int32)) fun x224 => f_L_teams b1 x224 b5 (fun x225 => tw_li a0 (s7 + (1 : Int32)) fun x226 => tw_iv 11 b3 (f_X12_teams b3 x226 (fun x227 => tw_iv 11 b3 (f_X12_thrown b3 (fun x228 => tw_if (x228 = x225) (tw_jn (fun (s230 : Unit) => j10 ()) (fun j229 => tw_if (x225 = 0) (tw_ll b5 (0 : Int32) fun x231 => tw_if ((lg_cmp x231 (x227.toInt64)) = 0) (j229 ()) (tw_rz (0 : Int32) (k (0 : Int32)))) (j229 ()))) (tw_rz (0 : Int32) (k (0 : Int32))))))))
set_option maxHeartbeats 4000000 in
set_option maxRecDepth 100000 in
theorem C_Lc24 {g : tw_Gx} {Q : tw_Rs → tw_Mem → Prop} (a0 b1 b3 b5 : Nat) (s7 : Int32) (hP7 : s7.toNatClampNeg ≤ 3072) (j10 : Unit → tw_Mem → Prop) (g10 : ∀ z : Unit, tw_C g mL_law_ 1300 601024 7293034 Q 2993 [some (.ref a0), some (.ref b1), some (.ref b3), some (.ref b5), some (.int s7), none, none] [] (182 + s7.toNatClampNeg + 6) (20089 + 300 * s7.toNatClampNeg + 1626) (j10 z)) : tw_C g mL_law_ 1300 601024 7293034 Q 1699 [some (.ref a0), some (.ref b1), some (.ref b3), some (.ref b5), some (.int s7), none, none] [] (182 + s7.toNatClampNeg + 0) (20089 + 300 * s7.toNatClampNeg + 0) (f_Lc24 a0 b1 b3 b5 s7 j10 (fun v => Q (.inl (some (.int v))))) := by
  have g10 := fun z => tw_Ctab (r' := (tw_tb mLc24)) dk_L_law_ (g10 z)
  change ∀ z : Unit, tw_C g mLc24 _ _ _ _ _ _ _ _ _ _ at g10
  refine tw_Ctab (r := (tw_tb mLc24)) dk_Lc24 ?_
  show tw_C g mLc24 _ _ _ _ _ _ _ _ _ _
  unfold f_Lc24
  refine tw_aload_n (k := 0) rfl rfl ?_
  refine tw_aload_n (k := 1) rfl rfl ?_
  refine tw_iload (k := 2) rfl rfl ?_
  refine tw_iconst (k := 3) (1 : Int32) rfl (by decide) ?_
  refine tw_iadd (k := 4) rfl ?_
  refine tw_iaload (k := 5) rfl (fun x224 => ?_)
  refine tw_aload_n (k := 6) rfl rfl ?_
  refine tw_callSW (k := 7) (d' := 9) (mc' := 1) (ms' := 6) tw_cI tw_cIi [.ref b1, .int x224, .ref b5] rfl rfl wx_RL_224_L_teams mo_L_teams rfl (fun Q9 => K_L_teams Q9 b1 x224 b5) (by omega) (by omega) (by omega) (Nat.le_of_ble_eq_true rfl) (fun x225 => ?_)
  refine tw_ist (k := 8) [some (.ref a0), some (.ref b1), some (.ref b3), some (.ref b5), some (.int s7), some (.int x225), none] rfl (Nat.le_of_ble_eq_true rfl) rfl rfl ?_
  refine tw_aload_n (k := 9) rfl rfl ?_
  refine tw_aload_n (k := 10) rfl rfl ?_
  refine tw_iload (k := 11) rfl rfl ?_
  refine tw_iconst (k := 12) (1 : Int32) rfl (by decide) ?_
  refine tw_iadd (k := 13) rfl ?_
  refine tw_iaload (k := 14) rfl (fun x226 => ?_)
  refine tw_callV (k := 15) (d' := 13) (mc' := 0) (ms' := 0) tw_cI tw_cIi [.int x226] rfl rfl wv_RL_226_X12_teams mo_X12_teams (t := 11) rfl rfl rfl (fun Q9 => K_X12_teams Q9 b3 x226) (by omega) (by omega) (by omega) (Nat.le_of_ble_eq_true rfl) (fun x227 => ?_)
  refine tw_ist (k := 16) [some (.ref a0), some (.ref b1), some (.ref b3), some (.ref b5), some (.int s7), some (.int x225), some (.int x227)] rfl (Nat.le_of_ble_eq_true rfl) rfl rfl ?_
  refine tw_aload_n (k := 17) rfl rfl ?_
  refine tw_callV (k := 18) (d' := 1) (mc' := 0) (ms' := 0) tw_cI tw_cIi [] rfl rfl wv_RL_152_X12_thrown mo_X12_thrown (t := 11) rfl rfl rfl (fun Q9 => K_X12_thrown Q9 b3) (by omega) (by omega) (by omega) (Nat.le_of_ble_eq_true rfl) (fun x228 => ?_)
  refine tw_iload (k := 19) rfl rfl ?_
  refine tw_icmp_eq (k := 20) 1735 rfl (by decide) ?_ ?_
  · refine tw_iload (k := 23) rfl rfl ?_
    refine tw_join 1752 (fun s230 => [some (.ref a0), some (.ref b1), some (.ref b3), some (.ref b5), some (.int s7), some (.int x225), some (.int x227)]) (fun s230 => []) (182 + s7.toNatClampNeg + 1) (20089 + 300 * s7.toNatClampNeg + 6) (fun s230 => ?_) (fun j229 g229 => ?_)
    · refine tw_goto (k := 34) 2993 rfl (by decide) ?_
      refine tw_wide (k2 := (182 + s7.toNatClampNeg + 6)) (s2 := (20089 + 300 * s7.toNatClampNeg + 1626)) (by omega) (by omega) ?_
      exact tw_wk (L' := [some (.ref a0), some (.ref b1), some (.ref b3), some (.ref b5), some (.int s7), none, none]) ⟨Or.inr rfl, Or.inr rfl, Or.inr rfl, Or.inr rfl, Or.inr rfl, Or.inl rfl, Or.inl rfl, trivial⟩ (g10 ())
    · refine tw_if_ne (k := 24) 1752 rfl (by decide) ?_ ?_
      · exact g229 ()
      · refine tw_aload_n (k := 25) rfl rfl ?_
        refine tw_iconst (k := 26) (0 : Int32) rfl (by decide) ?_
        refine tw_laload (k := 27) rfl (fun x231 => ?_)
        refine tw_iload (k := 28) rfl rfl ?_
        refine tw_i2l (k := 29) rfl ?_
        refine tw_lcmp (k := 30) rfl ?_
        refine tw_if_eq (k := 31) 1752 rfl (by decide) ?_ ?_
        · exact g229 ()
        · refine tw_iconst (k := 32) (0 : Int32) rfl (by decide) ?_
          exact tw_zreturn (k := 33) rfl rfl (by omega) (by omega)
  · refine tw_iconst (k := 21) (0 : Int32) rfl (by decide) ?_
    exact tw_zreturn (k := 22) rfl rfl (by omega) (by omega)
def f_Lc25 (a0 b1 b3 b5 : Nat) (s7 : Int32) (j10 : Unit → tw_Mem → Prop) (k : Int32 → tw_Mem → Prop) : tw_Mem → Prop :=
  tw_iv 10 b1 (f_X11_fresh b1 (fun x232 => tw_iv 11 b3 (f_X12_fresh b3 (fun x233 => tw_if (x232 = x233) (j10 ()) (tw_rz (0 : Int32) (k (0 : Int32)))))))
set_option maxHeartbeats 4000000 in
set_option maxRecDepth 100000 in
theorem C_Lc25 {g : tw_Gx} {Q : tw_Rs → tw_Mem → Prop} (a0 b1 b3 b5 : Nat) (s7 : Int32) (hP7 : s7.toNatClampNeg ≤ 3072) (j10 : Unit → tw_Mem → Prop) (g10 : ∀ z : Unit, tw_C g mL_law_ 1300 601024 7293034 Q 2993 [some (.ref a0), some (.ref b1), some (.ref b3), some (.ref b5), some (.int s7), none, none] [] (182 + s7.toNatClampNeg + 6) (20089 + 300 * s7.toNatClampNeg + 1626) (j10 z)) : tw_C g mL_law_ 1300 601024 7293034 Q 1755 [some (.ref a0), some (.ref b1), some (.ref b3), some (.ref b5), some (.int s7), none, none] [] (182 + s7.toNatClampNeg + 0) (20089 + 300 * s7.toNatClampNeg + 0) (f_Lc25 a0 b1 b3 b5 s7 j10 (fun v => Q (.inl (some (.int v))))) := by
  have g10 := fun z => tw_Ctab (r' := (tw_tb mLc25)) dk_L_law_ (g10 z)
  change ∀ z : Unit, tw_C g mLc25 _ _ _ _ _ _ _ _ _ _ at g10
  refine tw_Ctab (r := (tw_tb mLc25)) dk_Lc25 ?_
  show tw_C g mLc25 _ _ _ _ _ _ _ _ _ _
  unfold f_Lc25
  refine tw_aload_n (k := 0) rfl rfl ?_
  refine tw_callV (k := 1) (d' := 4) (mc' := 0) (ms' := 0) tw_cI tw_cIi [] rfl rfl wv_RL_227_X11_fresh mo_X11_fresh (t := 10) rfl rfl rfl (fun Q9 => K_X11_fresh Q9 b1) (by omega) (by omega) (by omega) (Nat.le_of_ble_eq_true rfl) (fun x232 => ?_)
  refine tw_aload_n (k := 2) rfl rfl ?_
  refine tw_callV (k := 3) (d' := 4) (mc' := 0) (ms' := 0) tw_cI tw_cIi [] rfl rfl wv_RL_230_X12_fresh mo_X12_fresh (t := 11) rfl rfl rfl (fun Q9 => K_X12_fresh Q9 b3) (by omega) (by omega) (by omega) (Nat.le_of_ble_eq_true rfl) (fun x233 => ?_)
  refine tw_icmp_eq (k := 4) 2993 rfl (by decide) ?_ ?_
  · refine tw_wide (k2 := (182 + s7.toNatClampNeg + 6)) (s2 := (20089 + 300 * s7.toNatClampNeg + 1626)) (by omega) (by omega) ?_
    exact g10 ()
  · refine tw_iconst (k := 5) (0 : Int32) rfl (by decide) ?_
    exact tw_zreturn (k := 6) rfl rfl (by omega) (by omega)
def f_Lc26 (a0 b1 b3 b5 : Nat) (s7 : Int32) (j10 : Unit → tw_Mem → Prop) (k : Int32 → tw_Mem → Prop) : tw_Mem → Prop :=
  tw_iv 10 b1 (f_X11_crowd b1 (fun x234 => tw_iv 11 b3 (f_X12_crowd b3 (fun x235 => tw_if (x234 = x235) (j10 ()) (tw_rz (0 : Int32) (k (0 : Int32)))))))
set_option maxHeartbeats 4000000 in
set_option maxRecDepth 100000 in
theorem C_Lc26 {g : tw_Gx} {Q : tw_Rs → tw_Mem → Prop} (a0 b1 b3 b5 : Nat) (s7 : Int32) (hP7 : s7.toNatClampNeg ≤ 3072) (j10 : Unit → tw_Mem → Prop) (g10 : ∀ z : Unit, tw_C g mL_law_ 1300 601024 7293034 Q 2993 [some (.ref a0), some (.ref b1), some (.ref b3), some (.ref b5), some (.int s7), none, none] [] (182 + s7.toNatClampNeg + 6) (20089 + 300 * s7.toNatClampNeg + 1626) (j10 z)) : tw_C g mL_law_ 1300 601024 7293034 Q 1768 [some (.ref a0), some (.ref b1), some (.ref b3), some (.ref b5), some (.int s7), none, none] [] (182 + s7.toNatClampNeg + 0) (20089 + 300 * s7.toNatClampNeg + 0) (f_Lc26 a0 b1 b3 b5 s7 j10 (fun v => Q (.inl (some (.int v))))) := by
  have g10 := fun z => tw_Ctab (r' := (tw_tb mLc26)) dk_L_law_ (g10 z)
  change ∀ z : Unit, tw_C g mLc26 _ _ _ _ _ _ _ _ _ _ at g10
  refine tw_Ctab (r := (tw_tb mLc26)) dk_Lc26 ?_
  show tw_C g mLc26 _ _ _ _ _ _ _ _ _ _
  unfold f_Lc26
  refine tw_aload_n (k := 0) rfl rfl ?_
  refine tw_callV (k := 1) (d' := 5) (mc' := 0) (ms' := 0) tw_cI tw_cIi [] rfl rfl wv_RL_231_X11_crowd mo_X11_crowd (t := 10) rfl rfl rfl (fun Q9 => K_X11_crowd Q9 b1) (by omega) (by omega) (by omega) (Nat.le_of_ble_eq_true rfl) (fun x234 => ?_)
  refine tw_aload_n (k := 2) rfl rfl ?_
  refine tw_callV (k := 3) (d' := 6) (mc' := 0) (ms' := 0) tw_cI tw_cIi [] rfl rfl wv_RL_234_X12_crowd mo_X12_crowd (t := 11) rfl rfl rfl (fun Q9 => K_X12_crowd Q9 b3) (by omega) (by omega) (by omega) (Nat.le_of_ble_eq_true rfl) (fun x235 => ?_)
  refine tw_icmp_eq (k := 4) 2993 rfl (by decide) ?_ ?_
  · refine tw_wide (k2 := (182 + s7.toNatClampNeg + 6)) (s2 := (20089 + 300 * s7.toNatClampNeg + 1626)) (by omega) (by omega) ?_
    exact g10 ()
  · refine tw_iconst (k := 5) (0 : Int32) rfl (by decide) ?_
    exact tw_zreturn (k := 6) rfl rfl (by omega) (by omega)
