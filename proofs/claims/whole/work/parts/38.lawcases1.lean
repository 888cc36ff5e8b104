def f_Lc0 (a0 b1 b3 b5 : Nat) (s7 : Int32) (j10 : Unit → tw_Mem → Prop) (k : Int32 → tw_Mem → Prop) : tw_Mem → Prop :=
  tw_li a0 (s7 + (1 : Int32)) fun x12 => tw_li a0 (s7 + (2 : Int32)) fun x13 => tw_li a0 (s7 + (3 : Int32)) fun x14 => tw_li a0 (s7 + (4 : Int32)) fun x15 => tw_li a0 (s7 + (5 : Int32)) fun x16 => tw_iv 10 b1 (f_X11_feed b1 x12 x13 x14 x15 x16 (fun x17 => tw_li a0 (s7 + (1 : Int32)) fun x18 => tw_li a0 (s7 + (2 : Int32)) fun x19 => tw_li a0 (s7 + (3 : Int32)) fun x20 => tw_li a0 (s7 + (4 : Int32)) fun x21 => tw_li a0 (s7 + (5 : Int32)) fun x22 => tw_iv 11 b3 (f_X12_feed b3 x18 x19 x20 x21 x22 (fun x23 => tw_if (x17 = x23) (j10 ()) (tw_rz (0 : Int32) (k (0 : Int32)))))))
set_option maxHeartbeats 4000000 in
set_option maxRecDepth 100000 in
theorem C_Lc0 {g : tw_Gx} {Q : tw_Rs → tw_Mem → Prop} (a0 b1 b3 b5 : Nat) (s7 : Int32) (hP7 : s7.toNatClampNeg ≤ 3072) (j10 : Unit → tw_Mem → Prop) (g10 : ∀ z : Unit, tw_C g mL_law_ 1300 601024 7293034 Q 2993 [some (.ref a0), some (.ref b1), some (.ref b3), some (.ref b5), some (.int s7), none, none] [] (182 + s7.toNatClampNeg + 6) (20089 + 300 * s7.toNatClampNeg + 1626) (j10 z)) : tw_C g mL_law_ 1300 601024 7293034 Q 276 [some (.ref a0), some (.ref b1), some (.ref b3), some (.ref b5), some (.int s7), none, none] [] (182 + s7.toNatClampNeg + 0) (20089 + 300 * s7.toNatClampNeg + 0) (f_Lc0 a0 b1 b3 b5 s7 j10 (fun v => Q (.inl (some (.int v))))) := by
  unfold f_Lc0
  refine tw_aload_n (k := 25) rfl rfl ?_
  refine tw_aload_n (k := 26) rfl rfl ?_
  refine tw_iload (k := 27) rfl rfl ?_
  refine tw_iconst (k := 28) (1 : Int32) rfl (by decide) ?_
  refine tw_iadd (k := 29) rfl ?_
  refine tw_iaload (k := 30) rfl (fun x12 => ?_)
  refine tw_aload_n (k := 31) rfl rfl ?_
  refine tw_iload (k := 32) rfl rfl ?_
  refine tw_iconst (k := 33) (2 : Int32) rfl (by decide) ?_
  refine tw_iadd (k := 34) rfl ?_
  refine tw_iaload (k := 35) rfl (fun x13 => ?_)
  refine tw_aload_n (k := 36) rfl rfl ?_
  refine tw_iload (k := 37) rfl rfl ?_
  refine tw_iconst (k := 38) (3 : Int32) rfl (by decide) ?_
  refine tw_iadd (k := 39) rfl ?_
  refine tw_iaload (k := 40) rfl (fun x14 => ?_)
  refine tw_aload_n (k := 41) rfl rfl ?_
  refine tw_iload (k := 42) rfl rfl ?_
  refine tw_iconst (k := 43) (4 : Int32) rfl (by decide) ?_
  refine tw_iadd (k := 44) rfl ?_
  refine tw_iaload (k := 45) rfl (fun x15 => ?_)
  refine tw_aload_n (k := 46) rfl rfl ?_
  refine tw_iload (k := 47) rfl rfl ?_
  refine tw_iconst (k := 48) (5 : Int32) rfl (by decide) ?_
  refine tw_iadd (k := 49) rfl ?_
  refine tw_iaload (k := 50) rfl (fun x16 => ?_)
  refine tw_callV (k := 51) (d' := 2) (mc' := 0) (ms' := 0) tw_cI tw_cIi [.int x12, .int x13, .int x14, .int x15, .int x16] rfl rfl wv_RL_136_X11_feed mo_X11_feed (t := 10) rfl rfl rfl (fun Q9 => K_X11_feed Q9 b1 x12 x13 x14 x15 x16) (by omega) (by omega) (by omega) (Nat.le_of_ble_eq_true rfl) (fun x17 => ?_)
  refine tw_aload_n (k := 52) rfl rfl ?_
  refine tw_aload_n (k := 53) rfl rfl ?_
  refine tw_iload (k := 54) rfl rfl ?_
  refine tw_iconst (k := 55) (1 : Int32) rfl (by decide) ?_
  refine tw_iadd (k := 56) rfl ?_
  refine tw_iaload (k := 57) rfl (fun x18 => ?_)
  refine tw_aload_n (k := 58) rfl rfl ?_
  refine tw_iload (k := 59) rfl rfl ?_
  refine tw_iconst (k := 60) (2 : Int32) rfl (by decide) ?_
  refine tw_iadd (k := 61) rfl ?_
  refine tw_iaload (k := 62) rfl (fun x19 => ?_)
  refine tw_aload_n (k := 63) rfl rfl ?_
  refine tw_iload (k := 64) rfl rfl ?_
  refine tw_iconst (k := 65) (3 : Int32) rfl (by decide) ?_
  refine tw_iadd (k := 66) rfl ?_
  refine tw_iaload (k := 67) rfl (fun x20 => ?_)
  refine tw_aload_n (k := 68) rfl rfl ?_
  refine tw_iload (k := 69) rfl rfl ?_
  refine tw_iconst (k := 70) (4 : Int32) rfl (by decide) ?_
  refine tw_iadd (k := 71) rfl ?_
  refine tw_iaload (k := 72) rfl (fun x21 => ?_)
  refine tw_aload_n (k := 73) rfl rfl ?_
  refine tw_iload (k := 74) rfl rfl ?_
  refine tw_iconst (k := 75) (5 : Int32) rfl (by decide) ?_
  refine tw_iadd (k := 76) rfl ?_
  refine tw_iaload (k := 77) rfl (fun x22 => ?_)
  refine tw_callV (k := 78) (d' := 1) (mc' := 0) (ms' := 0) tw_cI tw_cIi [.int x18, .int x19, .int x20, .int x21, .int x22] rfl rfl wv_RL_140_X12_feed mo_X12_feed (t := 11) rfl rfl rfl (fun Q9 => K_X12_feed Q9 b3 x18 x19 x20 x21 x22) (by omega) (by omega) (by omega) (Nat.le_of_ble_eq_true rfl) (fun x23 => ?_)
  refine tw_icmp_eq (k := 79) 2993 rfl (by decide) ?_ ?_
  · refine tw_wide (k2 := (182 + s7.toNatClampNeg + 6)) (s2 := (20089 + 300 * s7.toNatClampNeg + 1626)) (by omega) (by omega) ?_
    exact g10 ()
  · refine tw_iconst (k := 80) (0 : Int32) rfl (by decide) ?_
    exact tw_zreturn (k := 81) rfl rfl (by omega) (by omega)
def f_Lc1 (a0 b1 b3 b5 : Nat) (s7 : Int32) (j10 : Unit → tw_Mem → Prop) (k : Int32 → tw_Mem → Prop) : tw_Mem → Prop :=
  tw_li a0 (s7 + (1 : Int32)) fun x24 => tw_iv 10 b1 (f_X11_end b1 x24 (fun x25 => tw_li a0 (s7 + (1 : Int32)) fun x26 => tw_iv 11 b3 (f_X12_end b3 x26 (fun x27 => tw_if (x25 = x27) (j10 ()) (tw_rz (0 : Int32) (k (0 : Int32)))))))
set_option maxHeartbeats 4000000 in
set_option maxRecDepth 100000 in
theorem C_Lc1 {g : tw_Gx} {Q : tw_Rs → tw_Mem → Prop} (a0 b1 b3 b5 : Nat) (s7 : Int32) (hP7 : s7.toNatClampNeg ≤ 3072) (j10 : Unit → tw_Mem → Prop) (g10 : ∀ z : Unit, tw_C g mL_law_ 1300 601024 7293034 Q 2993 [some (.ref a0), some (.ref b1), some (.ref b3), some (.ref b5), some (.int s7), none, none] [] (182 + s7.toNatClampNeg + 6) (20089 + 300 * s7.toNatClampNeg + 1626) (j10 z)) : tw_C g mL_law_ 1300 601024 7293034 Q 349 [some (.ref a0), some (.ref b1), some (.ref b3), some (.ref b5), some (.int s7), none, none] [] (182 + s7.toNatClampNeg + 0) (20089 + 300 * s7.toNatClampNeg + 0) (f_Lc1 a0 b1 b3 b5 s7 j10 (fun v => Q (.inl (some (.int v))))) := by
  unfold f_Lc1
  refine tw_aload_n (k := 82) rfl rfl ?_
  refine tw_aload_n (k := 83) rfl rfl ?_
  refine tw_iload (k := 84) rfl rfl ?_
  refine tw_iconst (k := 85) (1 : Int32) rfl (by decide) ?_
  refine tw_iadd (k := 86) rfl ?_
  refine tw_iaload (k := 87) rfl (fun x24 => ?_)
  refine tw_callV (k := 88) (d' := 2) (mc' := 0) (ms' := 0) tw_cI tw_cIi [.int x24] rfl rfl wv_RL_141_X11_end mo_X11_end (t := 10) rfl rfl rfl (fun Q9 => K_X11_end Q9 b1 x24) (by omega) (by omega) (by omega) (Nat.le_of_ble_eq_true rfl) (fun x25 => ?_)
  refine tw_aload_n (k := 89) rfl rfl ?_
  refine tw_aload_n (k := 90) rfl rfl ?_
  refine tw_iload (k := 91) rfl rfl ?_
  refine tw_iconst (k := 92) (1 : Int32) rfl (by decide) ?_
  refine tw_iadd (k := 93) rfl ?_
  refine tw_iaload (k := 94) rfl (fun x26 => ?_)
  refine tw_callV (k := 95) (d' := 1) (mc' := 0) (ms' := 0) tw_cI tw_cIi [.int x26] rfl rfl wv_RL_145_X12_end mo_X12_end (t := 11) rfl rfl rfl (fun Q9 => K_X12_end Q9 b3 x26) (by omega) (by omega) (by omega) (Nat.le_of_ble_eq_true rfl) (fun x27 => ?_)
  refine tw_icmp_eq (k := 96) 2993 rfl (by decide) ?_ ?_
  · refine tw_wide (k2 := (182 + s7.toNatClampNeg + 6)) (s2 := (20089 + 300 * s7.toNatClampNeg + 1626)) (by omega) (by omega) ?_
    exact g10 ()
  · refine tw_iconst (k := 97) (0 : Int32) rfl (by decide) ?_
    exact tw_zreturn (k := 98) rfl rfl (by omega) (by omega)
def f_Lc2 (a0 b1 b3 b5 : Nat) (s7 : Int32) (j10 : Unit → tw_Mem → Prop) (k : Int32 → tw_Mem → Prop) : tw_Mem → Prop :=
  f_L_town g b1 b5 (fun x28 => tw_iv 11 b3 (f_X12_town g b3 (fun x29 => tw_iv 11 b3 (f_X12_thrown b3 (fun x30 => tw_if (x30 = x28) (tw_jn (fun (s32 : Unit) => j10 ()) (fun j31 => tw_if (x28 = 0) (tw_ll b5 (0 : Int32) fun x33 => tw_if ((lg_cmp x33 (x29.toInt64)) = 0) (j31 ()) (tw_rz (0 : Int32) (k (0 : Int32)))) (j31 ()))) (tw_rz (0 : Int32) (k (0 : Int32))))))))
set_option maxHeartbeats 4000000 in
set_option maxRecDepth 100000 in
theorem C_Lc2 {g : tw_Gx} {Q : tw_Rs → tw_Mem → Prop} (a0 b1 b3 b5 : Nat) (s7 : Int32) (hP7 : s7.toNatClampNeg ≤ 3072) (j10 : Unit → tw_Mem → Prop) (g10 : ∀ z : Unit, tw_C g mL_law_ 1300 601024 7293034 Q 2993 [some (.ref a0), some (.ref b1), some (.ref b3), some (.ref b5), some (.int s7), none, none] [] (182 + s7.toNatClampNeg + 6) (20089 + 300 * s7.toNatClampNeg + 1626) (j10 z)) : tw_C g mL_law_ 1300 601024 7293034 Q 374 [some (.ref a0), some (.ref b1), some (.ref b3), some (.ref b5), some (.int s7), none, none] [] (182 + s7.toNatClampNeg + 0) (20089 + 300 * s7.toNatClampNeg + 0) (f_Lc2 a0 b1 b3 b5 s7 j10 (fun v => Q (.inl (some (.int v))))) := by
  unfold f_Lc2
  refine tw_aload_n (k := 99) rfl rfl ?_
  refine tw_aload_n (k := 100) rfl rfl ?_
  refine tw_callSW (k := 101) (d' := 10) (mc' := 1) (ms' := 6) tw_cI tw_cIi [.ref b1, .ref b5] rfl rfl wx_RL_146_L_town mo_L_town rfl (fun Q9 => K_L_town Q9 b1 b5) (by omega) (by omega) (by omega) (Nat.le_of_ble_eq_true rfl) (fun x28 => ?_)
  refine tw_ist (k := 102) [some (.ref a0), some (.ref b1), some (.ref b3), some (.ref b5), some (.int s7), some (.int x28), none] rfl (Nat.le_of_ble_eq_true rfl) rfl rfl ?_
  refine tw_aload_n (k := 103) rfl rfl ?_
  refine tw_callV (k := 104) (d' := 84) (mc' := 0) (ms' := 0) tw_cI tw_cIi [] rfl rfl wv_RL_151_X12_town mo_X12_town (t := 11) rfl rfl rfl (fun Q9 => K_X12_town Q9 b3) (by omega) (by omega) (by omega) (Nat.le_of_ble_eq_true rfl) (fun x29 => ?_)
  refine tw_ist (k := 105) [some (.ref a0), some (.ref b1), some (.ref b3), some (.ref b5), some (.int s7), some (.int x28), some (.int x29)] rfl (Nat.le_of_ble_eq_true rfl) rfl rfl ?_
  refine tw_aload_n (k := 106) rfl rfl ?_
  refine tw_callV (k := 107) (d' := 1) (mc' := 0) (ms' := 0) tw_cI tw_cIi [] rfl rfl wv_RL_152_X12_thrown mo_X12_thrown (t := 11) rfl rfl rfl (fun Q9 => K_X12_thrown Q9 b3) (by omega) (by omega) (by omega) (Nat.le_of_ble_eq_true rfl) (fun x30 => ?_)
  refine tw_iload (k := 108) rfl rfl ?_
  refine tw_icmp_eq (k := 109) 398 rfl (by decide) ?_ ?_
  · refine tw_iload (k := 112) rfl rfl ?_
    refine tw_join 415 (fun s32 => [some (.ref a0), some (.ref b1), some (.ref b3), some (.ref b5), some (.int s7), some (.int x28), some (.int x29)]) (fun s32 => []) (182 + s7.toNatClampNeg + 1) (20089 + 300 * s7.toNatClampNeg + 6) (fun s32 => ?_) (fun j31 g31 => ?_)
    · refine tw_goto (k := 123) 2993 rfl (by decide) ?_
      refine tw_wide (k2 := (182 + s7.toNatClampNeg + 6)) (s2 := (20089 + 300 * s7.toNatClampNeg + 1626)) (by omega) (by omega) ?_
      exact tw_wk (L' := [some (.ref a0), some (.ref b1), some (.ref b3), some (.ref b5), some (.int s7), none, none]) ⟨Or.inr rfl, Or.inr rfl, Or.inr rfl, Or.inr rfl, Or.inr rfl, Or.inl rfl, Or.inl rfl, trivial⟩ (g10 ())
    · refine tw_if_ne (k := 113) 415 rfl (by decide) ?_ ?_
      · exact g31 ()
      · refine tw_aload_n (k := 114) rfl rfl ?_
        refine tw_iconst (k := 115) (0 : Int32) rfl (by decide) ?_
        refine tw_laload (k := 116) rfl (fun x33 => ?_)
        refine tw_iload (k := 117) rfl rfl ?_
        refine tw_i2l (k := 118) rfl ?_
        refine tw_lcmp (k := 119) rfl ?_
        refine tw_if_eq (k := 120) 415 rfl (by decide) ?_ ?_
        · exact g31 ()
        · refine tw_iconst (k := 121) (0 : Int32) rfl (by decide) ?_
          exact tw_zreturn (k := 122) rfl rfl (by omega) (by omega)
  · refine tw_iconst (k := 110) (0 : Int32) rfl (by decide) ?_
    exact tw_zreturn (k := 111) rfl rfl (by omega) (by omega)
def f_Lc3 (a0 b1 b3 b5 : Nat) (s7 : Int32) (j10 : Unit → tw_Mem → Prop) (k : Int32 → tw_Mem → Prop) : tw_Mem → Prop :=
  f_L_law g b1 b5 (fun x34 => tw_iv 11 b3 (f_X12_law g b3 (fun x35 => tw_iv 11 b3 (f_X12_thrown b3 (fun x36 => tw_if (x36 = x34) (tw_jn (fun (s38 : Unit) => j10 ()) (fun j37 => tw_if (x34 = 0) (tw_ll b5 (0 : Int32) fun x39 => tw_if ((lg_cmp x39 (x35.toInt64)) = 0) (j37 ()) (tw_rz (0 : Int32) (k (0 : Int32)))) (j37 ()))) (tw_rz (0 : Int32) (k (0 : Int32))))))))
set_option maxHeartbeats 4000000 in
set_option maxRecDepth 100000 in
theorem C_Lc3 {g : tw_Gx} {Q : tw_Rs → tw_Mem → Prop} (a0 b1 b3 b5 : Nat) (s7 : Int32) (hP7 : s7.toNatClampNeg ≤ 3072) (j10 : Unit → tw_Mem → Prop) (g10 : ∀ z : Unit, tw_C g mL_law_ 1300 601024 7293034 Q 2993 [some (.ref a0), some (.ref b1), some (.ref b3), some (.ref b5), some (.int s7), none, none] [] (182 + s7.toNatClampNeg + 6) (20089 + 300 * s7.toNatClampNeg + 1626) (j10 z)) : tw_C g mL_law_ 1300 601024 7293034 Q 418 [some (.ref a0), some (.ref b1), some (.ref b3), some (.ref b5), some (.int s7), none, none] [] (182 + s7.toNatClampNeg + 0) (20089 + 300 * s7.toNatClampNeg + 0) (f_Lc3 a0 b1 b3 b5 s7 j10 (fun v => Q (.inl (some (.int v))))) := by
  unfold f_Lc3
  refine tw_aload_n (k := 124) rfl rfl ?_
  refine tw_aload_n (k := 125) rfl rfl ?_
  refine tw_callSW (k := 126) (d' := 76) (mc' := 6) (ms' := 1626) tw_cI tw_cIi [.ref b1, .ref b5] rfl rfl wx_RL_155_L_law mo_L_law rfl (fun Q9 => K_L_law Q9 b1 b5) (by omega) (by omega) (by omega) (Nat.le_of_ble_eq_true rfl) (fun x34 => ?_)
  refine tw_ist (k := 127) [some (.ref a0), some (.ref b1), some (.ref b3), some (.ref b5), some (.int s7), some (.int x34), none] rfl (Nat.le_of_ble_eq_true rfl) rfl rfl ?_
  refine tw_aload_n (k := 128) rfl rfl ?_
  refine tw_callV (k := 129) (d' := 84) (mc' := 0) (ms' := 0) tw_cI tw_cIi [] rfl rfl wv_RL_157_X12_law mo_X12_law (t := 11) rfl rfl rfl (fun Q9 => K_X12_law Q9 b3) (by omega) (by omega) (by omega) (Nat.le_of_ble_eq_true rfl) (fun x35 => ?_)
  refine tw_ist (k := 130) [some (.ref a0), some (.ref b1), some (.ref b3), some (.ref b5), some (.int s7), some (.int x34), some (.int x35)] rfl (Nat.le_of_ble_eq_true rfl) rfl rfl ?_
  refine tw_aload_n (k := 131) rfl rfl ?_
  refine tw_callV (k := 132) (d' := 1) (mc' := 0) (ms' := 0) tw_cI tw_cIi [] rfl rfl wv_RL_152_X12_thrown mo_X12_thrown (t := 11) rfl rfl rfl (fun Q9 => K_X12_thrown Q9 b3) (by omega) (by omega) (by omega) (Nat.le_of_ble_eq_true rfl) (fun x36 => ?_)
  refine tw_iload (k := 133) rfl rfl ?_
  refine tw_icmp_eq (k := 134) 442 rfl (by decide) ?_ ?_
  · refine tw_iload (k := 137) rfl rfl ?_
    refine tw_join 459 (fun s38 => [some (.ref a0), some (.ref b1), some (.ref b3), some (.ref b5), some (.int s7), some (.int x34), some (.int x35)]) (fun s38 => []) (182 + s7.toNatClampNeg + 6) (20089 + 300 * s7.toNatClampNeg + 1626) (fun s38 => ?_) (fun j37 g37 => ?_)
    · refine tw_goto (k := 148) 2993 rfl (by decide) ?_
      exact tw_wk (L' := [some (.ref a0), some (.ref b1), some (.ref b3), some (.ref b5), some (.int s7), none, none]) ⟨Or.inr rfl, Or.inr rfl, Or.inr rfl, Or.inr rfl, Or.inr rfl, Or.inl rfl, Or.inl rfl, trivial⟩ (g10 ())
    · refine tw_if_ne (k := 138) 459 rfl (by decide) ?_ ?_
      · exact g37 ()
      · refine tw_aload_n (k := 139) rfl rfl ?_
        refine tw_iconst (k := 140) (0 : Int32) rfl (by decide) ?_
        refine tw_laload (k := 141) rfl (fun x39 => ?_)
        refine tw_iload (k := 142) rfl rfl ?_
        refine tw_i2l (k := 143) rfl ?_
        refine tw_lcmp (k := 144) rfl ?_
        refine tw_if_eq (k := 145) 459 rfl (by decide) ?_ ?_
        · exact g37 ()
        · refine tw_iconst (k := 146) (0 : Int32) rfl (by decide) ?_
          exact tw_zreturn (k := 147) rfl rfl (by omega) (by omega)
  · refine tw_iconst (k := 135) (0 : Int32) rfl (by decide) ?_
    exact tw_zreturn (k := 136) rfl rfl (by omega) (by omega)
def f_Lc4 (a0 b1 b3 b5 : Nat) (s7 : Int32) (j10 : Unit → tw_Mem → Prop) (k : Int32 → tw_Mem → Prop) : tw_Mem → Prop :=
  tw_iv 10 b1 (f_X11_fault b1 (fun x40 => tw_iv 11 b3 (f_X12_fault b3 (fun x41 => tw_if (x40 = x41) (j10 ()) (tw_rz (0 : Int32) (k (0 : Int32)))))))
set_option maxHeartbeats 4000000 in
set_option maxRecDepth 100000 in
theorem C_Lc4 {g : tw_Gx} {Q : tw_Rs → tw_Mem → Prop} (a0 b1 b3 b5 : Nat) (s7 : Int32) (hP7 : s7.toNatClampNeg ≤ 3072) (j10 : Unit → tw_Mem → Prop) (g10 : ∀ z : Unit, tw_C g mL_law_ 1300 601024 7293034 Q 2993 [some (.ref a0), some (.ref b1), some (.ref b3), some (.ref b5), some (.int s7), none, none] [] (182 + s7.toNatClampNeg + 6) (20089 + 300 * s7.toNatClampNeg + 1626) (j10 z)) : tw_C g mL_law_ 1300 601024 7293034 Q 462 [some (.ref a0), some (.ref b1), some (.ref b3), some (.ref b5), some (.int s7), none, none] [] (182 + s7.toNatClampNeg + 0) (20089 + 300 * s7.toNatClampNeg + 0) (f_Lc4 a0 b1 b3 b5 s7 j10 (fun v => Q (.inl (some (.int v))))) := by
  unfold f_Lc4
  refine tw_aload_n (k := 149) rfl rfl ?_
  refine tw_callV (k := 150) (d' := 1) (mc' := 0) (ms' := 0) tw_cI tw_cIi [] rfl rfl wv_RL_158_X11_fault mo_X11_fault (t := 10) rfl rfl rfl (fun Q9 => K_X11_fault Q9 b1) (by omega) (by omega) (by omega) (Nat.le_of_ble_eq_true rfl) (fun x40 => ?_)
  refine tw_aload_n (k := 151) rfl rfl ?_
  refine tw_callV (k := 152) (d' := 1) (mc' := 0) (ms' := 0) tw_cI tw_cIi [] rfl rfl wv_RL_161_X12_fault mo_X12_fault (t := 11) rfl rfl rfl (fun Q9 => K_X12_fault Q9 b3) (by omega) (by omega) (by omega) (Nat.le_of_ble_eq_true rfl) (fun x41 => ?_)
  refine tw_icmp_eq (k := 153) 2993 rfl (by decide) ?_ ?_
  · refine tw_wide (k2 := (182 + s7.toNatClampNeg + 6)) (s2 := (20089 + 300 * s7.toNatClampNeg + 1626)) (by omega) (by omega) ?_
    exact g10 ()
  · refine tw_iconst (k := 154) (0 : Int32) rfl (by decide) ?_
    exact tw_zreturn (k := 155) rfl rfl (by omega) (by omega)
def f_Lc5 (a0 b1 b3 b5 : Nat) (s7 : Int32) (j10 : Unit → tw_Mem → Prop) (k : Int32 → tw_Mem → Prop) : tw_Mem → Prop :=
  tw_li a0 (s7 + (1 : Int32)) fun x42 => tw_li a0 (s7 + (2 : Int32)) fun x43 => f_L_person b1 x42 x43 b5 (fun x44 => tw_li a0 (s7 + (1 : Int32)) fun x45 => tw_li a0 (s7 + (2 : Int32)) fun x46 => tw_iv 11 b3 (f_X12_person b3 x45 x46 (fun x47 => tw_iv 11 b3 (f_X12_thrown b3 (fun x48 => tw_if (x48 = x44) (tw_jn (fun (s50 : Unit) => j10 ()) (fun j49 => tw_if (x44 = 0) (tw_ll b5 (0 : Int32) fun x51 => tw_if ((lg_cmp x51 (x47.toInt64)) = 0) (j49 ()) (tw_rz (0 : Int32) (k (0 : Int32)))) (j49 ()))) (tw_rz (0 : Int32) (k (0 : Int32))))))))
set_option maxHeartbeats 4000000 in
set_option maxRecDepth 100000 in
theorem C_Lc5 {g : tw_Gx} {Q : tw_Rs → tw_Mem → Prop} (a0 b1 b3 b5 : Nat) (s7 : Int32) (hP7 : s7.toNatClampNeg ≤ 3072) (j10 : Unit → tw_Mem → Prop) (g10 : ∀ z : Unit, tw_C g mL_law_ 1300 601024 7293034 Q 2993 [some (.ref a0), some (.ref b1), some (.ref b3), some (.ref b5), some (.int s7), none, none] [] (182 + s7.toNatClampNeg + 6) (20089 + 300 * s7.toNatClampNeg + 1626) (j10 z)) : tw_C g mL_law_ 1300 601024 7293034 Q 475 [some (.ref a0), some (.ref b1), some (.ref b3), some (.ref b5), some (.int s7), none, none] [] (182 + s7.toNatClampNeg + 0) (20089 + 300 * s7.toNatClampNeg + 0) (f_Lc5 a0 b1 b3 b5 s7 j10 (fun v => Q (.inl (some (.int v))))) := by
  unfold f_Lc5
  refine tw_aload_n (k := 156) rfl rfl ?_
  refine tw_aload_n (k := 157) rfl rfl ?_
  refine tw_iload (k := 158) rfl rfl ?_
  refine tw_iconst (k := 159) (1 : Int32) rfl (by decide) ?_
  refine tw_iadd (k := 160) rfl ?_
  refine tw_iaload (k := 161) rfl (fun x42 => ?_)
  refine tw_aload_n (k := 162) rfl rfl ?_
  refine tw_iload (k := 163) rfl rfl ?_
  refine tw_iconst (k := 164) (2 : Int32) rfl (by decide) ?_
  refine tw_iadd (k := 165) rfl ?_
  refine tw_iaload (k := 166) rfl (fun x43 => ?_)
  refine tw_aload_n (k := 167) rfl rfl ?_
  refine tw_callSW (k := 168) (d' := 8) (mc' := 2) (ms' := 12) tw_cI tw_cIi [.ref b1, .int x42, .int x43, .ref b5] rfl rfl wx_RL_162_L_person mo_L_person rfl (fun Q9 => K_L_person Q9 b1 x42 x43 b5) (by omega) (by omega) (by omega) (Nat.le_of_ble_eq_true rfl) (fun x44 => ?_)
  refine tw_ist (k := 169) [some (.ref a0), some (.ref b1), some (.ref b3), some (.ref b5), some (.int s7), some (.int x44), none] rfl (Nat.le_of_ble_eq_true rfl) rfl rfl ?_
  refine tw_aload_n (k := 170) rfl rfl ?_
  refine tw_aload_n (k := 171) rfl rfl ?_
  refine tw_iload (k := 172) rfl rfl ?_
  refine tw_iconst (k := 173) (1 : Int32) rfl (by decide) ?_
  refine tw_iadd (k := 174) rfl ?_
  refine tw_iaload (k := 175) rfl (fun x45 => ?_)
  refine tw_aload_n (k := 176) rfl rfl ?_
  refine tw_iload (k := 177) rfl rfl ?_
  refine tw_iconst (k := 178) (2 : Int32) rfl (by decide) ?_
  refine tw_iadd (k := 179) rfl ?_
  refine tw_iaload (k := 180) rfl (fun x46 => ?_)
  refine tw_callV (k := 181) (d' := 5) (mc' := 0) (ms' := 0) tw_cI tw_cIi [.int x45, .int x46] rfl rfl wv_RL_165_X12_person mo_X12_person (t := 11) rfl rfl rfl (fun Q9 => K_X12_person Q9 b3 x45 x46) (by omega) (by omega) (by omega) (Nat.le_of_ble_eq_true rfl) (fun x47 => ?_)
  refine tw_ist (k := 182) [some (.ref a0), some (.ref b1), some (.ref b3), some (.ref b5), some (.int s7), some (.int x44), some (.int x47)] rfl (Nat.le_of_ble_eq_true rfl) rfl rfl ?_
  refine tw_aload_n (k := 183) rfl rfl ?_
  refine tw_callV (k := 184) (d' := 1) (mc' := 0) (ms' := 0) tw_cI tw_cIi [] rfl rfl wv_RL_152_X12_thrown mo_X12_thrown (t := 11) rfl rfl rfl (fun Q9 => K_X12_thrown Q9 b3) (by omega) (by omega) (by omega) (Nat.le_of_ble_eq_true rfl) (fun x48 => ?_)
  refine tw_iload (k := 185) rfl rfl ?_
  refine tw_icmp_eq (k := 186) 523 rfl (by decide) ?_ ?_
  · refine tw_iload (k := 189) rfl rfl ?_
    refine tw_join 540 (fun s50 => [some (.ref a0), some (.ref b1), some (.ref b3), some (.ref b5), some (.int s7), some (.int x44), some (.int x47)]) (fun s50 => []) (182 + s7.toNatClampNeg + 2) (20089 + 300 * s7.toNatClampNeg + 12) (fun s50 => ?_) (fun j49 g49 => ?_)
    · refine tw_goto (k := 200) 2993 rfl (by decide) ?_
      refine tw_wide (k2 := (182 + s7.toNatClampNeg + 6)) (s2 := (20089 + 300 * s7.toNatClampNeg + 1626)) (by omega) (by omega) ?_
      exact tw_wk (L' := [some (.ref a0), some (.ref b1), some (.ref b3), some (.ref b5), some (.int s7), none, none]) ⟨Or.inr rfl, Or.inr rfl, Or.inr rfl, Or.inr rfl, Or.inr rfl, Or.inl rfl, Or.inl rfl, trivial⟩ (g10 ())
    · refine tw_if_ne (k := 190) 540 rfl (by decide) ?_ ?_
      · exact g49 ()
      · refine tw_aload_n (k := 191) rfl rfl ?_
        refine tw_iconst (k := 192) (0 : Int32) rfl (by decide) ?_
        refine tw_laload (k := 193) rfl (fun x51 => ?_)
        refine tw_iload (k := 194) rfl rfl ?_
        refine tw_i2l (k := 195) rfl ?_
        refine tw_lcmp (k := 196) rfl ?_
        refine tw_if_eq (k := 197) 540 rfl (by decide) ?_ ?_
        · exact g49 ()
        · refine tw_iconst (k := 198) (0 : Int32) rfl (by decide) ?_
          exact tw_zreturn (k := 199) rfl rfl (by omega) (by omega)
  · refine tw_iconst (k := 187) (0 : Int32) rfl (by decide) ?_
    exact tw_zreturn (k := 188) rfl rfl (by omega) (by omega)
def f_Lc6 (a0 b1 b3 b5 : Nat) (s7 : Int32) (j10 : Unit → tw_Mem → Prop) (k : Int32 → tw_Mem → Prop) : tw_Mem → Prop :=
  tw_li a0 (s7 + (1 : Int32)) fun x52 => tw_li a0 (s7 + (2 : Int32)) fun x53 => f_L_guessed b1 x52 x53 b5 (fun x54 => tw_li a0 (s7 + (1 : Int32)) fun x55 => tw_li a0 (s7 + (2 : Int32)) fun x56 => tw_iv 11 b3 (f_X12_guessed b3 x55 x56 (fun x57 => tw_iv 11 b3 (f_X12_thrown b3 (fun x58 => tw_if (x58 = x54) (tw_jn (fun (s60 : Unit) => j10 ()) (fun j59 => tw_if (x54 = 0) (tw_ll b5 (0 : Int32) fun x61 => tw_if ((lg_cmp x61 (x57.toInt64)) = 0) (j59 ()) (tw_rz (0 : Int32) (k (0 : Int32)))) (j59 ()))) (tw_rz (0 : Int32) (k (0 : Int32))))))))
set_option maxHeartbeats 4000000 in
set_option maxRecDepth 100000 in
theorem C_Lc6 {g : tw_Gx} {Q : tw_Rs → tw_Mem → Prop} (a0 b1 b3 b5 : Nat) (s7 : Int32) (hP7 : s7.toNatClampNeg ≤ 3072) (j10 : Unit → tw_Mem → Prop) (g10 : ∀ z : Unit, tw_C g mL_law_ 1300 601024 7293034 Q 2993 [some (.ref a0), some (.ref b1), some (.ref b3), some (.ref b5), some (.int s7), none, none] [] (182 + s7.toNatClampNeg + 6) (20089 + 300 * s7.toNatClampNeg + 1626) (j10 z)) : tw_C g mL_law_ 1300 601024 7293034 Q 543 [some (.ref a0), some (.ref b1), some (.ref b3), some (.ref b5), some (.int s7), none, none] [] (182 + s7.toNatClampNeg + 0) (20089 + 300 * s7.toNatClampNeg + 0) (f_Lc6 a0 b1 b3 b5 s7 j10 (fun v => Q (.inl (some (.int v))))) := by
  unfold f_Lc6
  refine tw_aload_n (k := 201) rfl rfl ?_
  refine tw_aload_n (k := 202) rfl rfl ?_
  refine tw_iload (k := 203) rfl rfl ?_
  refine tw_iconst (k := 204) (1 : Int32) rfl (by decide) ?_
  refine tw_iadd (k := 205) rfl ?_
  refine tw_iaload (k := 206) rfl (fun x52 => ?_)
  refine tw_aload_n (k := 207) rfl rfl ?_
  refine tw_iload (k := 208) rfl rfl ?_
  refine tw_iconst (k := 209) (2 : Int32) rfl (by decide) ?_
  refine tw_iadd (k := 210) rfl ?_
  refine tw_iaload (k := 211) rfl (fun x53 => ?_)
  refine tw_aload_n (k := 212) rfl rfl ?_
  refine tw_callSW (k := 213) (d' := 9) (mc' := 3) (ms' := 18) tw_cI tw_cIi [.ref b1, .int x52, .int x53, .ref b5] rfl rfl wx_RL_166_L_guessed mo_L_guessed rfl (fun Q9 => K_L_guessed Q9 b1 x52 x53 b5) (by omega) (by omega) (by omega) (Nat.le_of_ble_eq_true rfl) (fun x54 => ?_)
  refine tw_ist (k := 214) [some (.ref a0), some (.ref b1), some (.ref b3), some (.ref b5), some (.int s7), some (.int x54), none] rfl (Nat.le_of_ble_eq_true rfl) rfl rfl ?_
  refine tw_aload_n (k := 215) rfl rfl ?_
  refine tw_aload_n (k := 216) rfl rfl ?_
  refine tw_iload (k := 217) rfl rfl ?_
  refine tw_iconst (k := 218) (1 : Int32) rfl (by decide) ?_
  refine tw_iadd (k := 219) rfl ?_
  refine tw_iaload (k := 220) rfl (fun x55 => ?_)
  refine tw_aload_n (k := 221) rfl rfl ?_
  refine tw_iload (k := 222) rfl rfl ?_
  refine tw_iconst (k := 223) (2 : Int32) rfl (by decide) ?_
  refine tw_iadd (k := 224) rfl ?_
  refine tw_iaload (k := 225) rfl (fun x56 => ?_)
  refine tw_callV (k := 226) (d' := 4) (mc' := 0) (ms' := 0) tw_cI tw_cIi [.int x55, .int x56] rfl rfl wv_RL_168_X12_guessed mo_X12_guessed (t := 11) rfl rfl rfl (fun Q9 => K_X12_guessed Q9 b3 x55 x56) (by omega) (by omega) (by omega) (Nat.le_of_ble_eq_true rfl) (fun x57 => ?_)
  refine tw_ist (k := 227) [some (.ref a0), some (.ref b1), some (.ref b3), some (.ref b5), some (.int s7), some (.int x54), some (.int x57)] rfl (Nat.le_of_ble_eq_true rfl) rfl rfl ?_
  refine tw_aload_n (k := 228) rfl rfl ?_
  refine tw_callV (k := 229) (d' := 1) (mc' := 0) (ms' := 0) tw_cI tw_cIi [] rfl rfl wv_RL_152_X12_thrown mo_X12_thrown (t := 11) rfl rfl rfl (fun Q9 => K_X12_thrown Q9 b3) (by omega) (by omega) (by omega) (Nat.le_of_ble_eq_true rfl) (fun x58 => ?_)
  refine tw_iload (k := 230) rfl rfl ?_
  refine tw_icmp_eq (k := 231) 591 rfl (by decide) ?_ ?_
  · refine tw_iload (k := 234) rfl rfl ?_
    refine tw_join 608 (fun s60 => [some (.ref a0), some (.ref b1), some (.ref b3), some (.ref b5), some (.int s7), some (.int x54), some (.int x57)]) (fun s60 => []) (182 + s7.toNatClampNeg + 3) (20089 + 300 * s7.toNatClampNeg + 18) (fun s60 => ?_) (fun j59 g59 => ?_)
    · refine tw_goto (k := 245) 2993 rfl (by decide) ?_
      refine tw_wide (k2 := (182 + s7.toNatClampNeg + 6)) (s2 := (20089 + 300 * s7.toNatClampNeg + 1626)) (by omega) (by omega) ?_
      exact tw_wk (L' := [some (.ref a0), some (.ref b1), some (.ref b3), some (.ref b5), some (.int s7), none, none]) ⟨Or.inr rfl, Or.inr rfl, Or.inr rfl, Or.inr rfl, Or.inr rfl, Or.inl rfl, Or.inl rfl, trivial⟩ (g10 ())
    · refine tw_if_ne (k := 235) 608 rfl (by decide) ?_ ?_
      · exact g59 ()
      · refine tw_aload_n (k := 236) rfl rfl ?_
        refine tw_iconst (k := 237) (0 : Int32) rfl (by decide) ?_
        refine tw_laload (k := 238) rfl (fun x61 => ?_)
        refine tw_iload (k := 239) rfl rfl ?_
        refine tw_i2l (k := 240) rfl ?_
        refine tw_lcmp (k := 241) rfl ?_
        refine tw_if_eq (k := 242) 608 rfl (by decide) ?_ ?_
        · exact g59 ()
        · refine tw_iconst (k := 243) (0 : Int32) rfl (by decide) ?_
          exact tw_zreturn (k := 244) rfl rfl (by omega) (by omega)
  · refine tw_iconst (k := 232) (0 : Int32) rfl (by decide) ?_
    exact tw_zreturn (k := 233) rfl rfl (by omega) (by omega)
def f_Lc7 (a0 b1 b3 b5 : Nat) (s7 : Int32) (j10 : Unit → tw_Mem → Prop) (k : Int32 → tw_Mem → Prop) : tw_Mem → Prop :=
  tw_li a0 (s7 + (1 : Int32)) fun x62 => tw_li a0 (s7 + (2 : Int32)) fun x63 => f_L_rung b1 x62 x63 b5 (fun x64 => tw_li a0 (s7 + (1 : Int32)) fun x65 => tw_li a0 (s7 + (2 : Int32)) fun x66 => tw_iv 11 b3 (f_X12_rung b3 x65 x66 (fun x67 => tw_iv 11 b3 (f_X12_thrown b3 (fun x68 => tw_if (x68 = x64) (tw_jn (fun (s70 : Unit) => j10 ()) (fun j69 => tw_if (x64 = 0) (tw_ll b5 (0 : Int32) fun x71 => tw_if ((lg_cmp x71 (x67.toInt64)) = 0) (j69 ()) (tw_rz (0 : Int32) (k (0 : Int32)))) (j69 ()))) (tw_rz (0 : Int32) (k (0 : Int32))))))))
set_option maxHeartbeats 4000000 in
set_option maxRecDepth 100000 in
theorem C_Lc7 {g : tw_Gx} {Q : tw_Rs → tw_Mem → Prop} (a0 b1 b3 b5 : Nat) (s7 : Int32) (hP7 : s7.toNatClampNeg ≤ 3072) (j10 : Unit → tw_Mem → Prop) (g10 : ∀ z : Unit, tw_C g mL_law_ 1300 601024 7293034 Q 2993 [some (.ref a0), some (.ref b1), some (.ref b3), some (.ref b5), some (.int s7), none, none] [] (182 + s7.toNatClampNeg + 6) (20089 + 300 * s7.toNatClampNeg + 1626) (j10 z)) : tw_C g mL_law_ 1300 601024 7293034 Q 611 [some (.ref a0), some (.ref b1), some (.ref b3), some (.ref b5), some (.int s7), none, none] [] (182 + s7.toNatClampNeg + 0) (20089 + 300 * s7.toNatClampNeg + 0) (f_Lc7 a0 b1 b3 b5 s7 j10 (fun v => Q (.inl (some (.int v))))) := by
  unfold f_Lc7
  refine tw_aload_n (k := 246) rfl rfl ?_
  refine tw_aload_n (k := 247) rfl rfl ?_
  refine tw_iload (k := 248) rfl rfl ?_
  refine tw_iconst (k := 249) (1 : Int32) rfl (by decide) ?_
  refine tw_iadd (k := 250) rfl ?_
  refine tw_iaload (k := 251) rfl (fun x62 => ?_)
  refine tw_aload_n (k := 252) rfl rfl ?_
  refine tw_iload (k := 253) rfl rfl ?_
  refine tw_iconst (k := 254) (2 : Int32) rfl (by decide) ?_
  refine tw_iadd (k := 255) rfl ?_
  refine tw_iaload (k := 256) rfl (fun x63 => ?_)
  refine tw_aload_n (k := 257) rfl rfl ?_
  refine tw_callSW (k := 258) (d' := 9) (mc' := 3) (ms' := 18) tw_cI tw_cIi [.ref b1, .int x62, .int x63, .ref b5] rfl rfl wx_RL_169_L_rung mo_L_rung rfl (fun Q9 => K_L_rung Q9 b1 x62 x63 b5) (by omega) (by omega) (by omega) (Nat.le_of_ble_eq_true rfl) (fun x64 => ?_)
  refine tw_ist (k := 259) [some (.ref a0), some (.ref b1), some (.ref b3), some (.ref b5), some (.int s7), some (.int x64), none] rfl (Nat.le_of_ble_eq_true rfl) rfl rfl ?_
  refine tw_aload_n (k := 260) rfl rfl ?_
  refine tw_aload_n (k := 261) rfl rfl ?_
  refine tw_iload (k := 262) rfl rfl ?_
  refine tw_iconst (k := 263) (1 : Int32) rfl (by decide) ?_
  refine tw_iadd (k := 264) rfl ?_
  refine tw_iaload (k := 265) rfl (fun x65 => ?_)
  refine tw_aload_n (k := 266) rfl rfl ?_
  refine tw_iload (k := 267) rfl rfl ?_
  refine tw_iconst (k := 268) (2 : Int32) rfl (by decide) ?_
  refine tw_iadd (k := 269) rfl ?_
  refine tw_iaload (k := 270) rfl (fun x66 => ?_)
  refine tw_callV (k := 271) (d' := 4) (mc' := 0) (ms' := 0) tw_cI tw_cIi [.int x65, .int x66] rfl rfl wv_RL_171_X12_rung mo_X12_rung (t := 11) rfl rfl rfl (fun Q9 => K_X12_rung Q9 b3 x65 x66) (by omega) (by omega) (by omega) (Nat.le_of_ble_eq_true rfl) (fun x67 => ?_)
  refine tw_ist (k := 272) [some (.ref a0), some (.ref b1), some (.ref b3), some (.ref b5), some (.int s7), some (.int x64), some (.int x67)] rfl (Nat.le_of_ble_eq_true rfl) rfl rfl ?_
  refine tw_aload_n (k := 273) rfl rfl ?_
  refine tw_callV (k := 274) (d' := 1) (mc' := 0) (ms' := 0) tw_cI tw_cIi [] rfl rfl wv_RL_152_X12_thrown mo_X12_thrown (t := 11) rfl rfl rfl (fun Q9 => K_X12_thrown Q9 b3) (by omega) (by omega) (by omega) (Nat.le_of_ble_eq_true rfl) (fun x68 => ?_)
  refine tw_iload (k := 275) rfl rfl ?_
  refine tw_icmp_eq (k := 276) 659 rfl (by decide) ?_ ?_
  · refine tw_iload (k := 279) rfl rfl ?_
    refine tw_join 676 (fun s70 => [some (.ref a0), some (.ref b1), some (.ref b3), some (.ref b5), some (.int s7), some (.int x64), some (.int x67)]) (fun s70 => []) (182 + s7.toNatClampNeg + 3) (20089 + 300 * s7.toNatClampNeg + 18) (fun s70 => ?_) (fun j69 g69 => ?_)
    · refine tw_goto (k := 290) 2993 rfl (by decide) ?_
      refine tw_wide (k2 := (182 + s7.toNatClampNeg + 6)) (s2 := (20089 + 300 * s7.toNatClampNeg + 1626)) (by omega) (by omega) ?_
      exact tw_wk (L' := [some (.ref a0), some (.ref b1), some (.ref b3), some (.ref b5), some (.int s7), none, none]) ⟨Or.inr rfl, Or.inr rfl, Or.inr rfl, Or.inr rfl, Or.inr rfl, Or.inl rfl, Or.inl rfl, trivial⟩ (g10 ())
    · refine tw_if_ne (k := 280) 676 rfl (by decide) ?_ ?_
      · exact g69 ()
      · refine tw_aload_n (k := 281) rfl rfl ?_
        refine tw_iconst (k := 282) (0 : Int32) rfl (by decide) ?_
        refine tw_laload (k := 283) rfl (fun x71 => ?_)
        refine tw_iload (k := 284) rfl rfl ?_
        refine tw_i2l (k := 285) rfl ?_
        refine tw_lcmp (k := 286) rfl ?_
        refine tw_if_eq (k := 287) 676 rfl (by decide) ?_ ?_
        · exact g69 ()
        · refine tw_iconst (k := 288) (0 : Int32) rfl (by decide) ?_
          exact tw_zreturn (k := 289) rfl rfl (by omega) (by omega)
  · refine tw_iconst (k := 277) (0 : Int32) rfl (by decide) ?_
    exact tw_zreturn (k := 278) rfl rfl (by omega) (by omega)
def f_Lc8 (a0 b1 b3 b5 : Nat) (s7 : Int32) (j10 : Unit → tw_Mem → Prop) (k : Int32 → tw_Mem → Prop) : tw_Mem → Prop :=
  tw_li a0 (s7 + (1 : Int32)) fun x72 => tw_li a0 (s7 + (2 : Int32)) fun x73 => f_L_sounds b1 x72 x73 b5 (fun x74 => tw_li a0 (s7 + (1 : Int32)) fun x75 => tw_li a0 (s7 + (2 : Int32)) fun x76 => tw_iv 11 b3 (f_X12_sounds b3 x75 x76 (fun x77 => tw_iv 11 b3 (f_X12_thrown b3 (fun x78 => tw_if (x78 = x74) (tw_jn (fun (s80 : Unit) => j10 ()) (fun j79 => tw_if (x74 = 0) (tw_ll b5 (0 : Int32) fun x81 => tw_if ((lg_cmp x81 (x77.toInt64)) = 0) (j79 ()) (tw_rz (0 : Int32) (k (0 : Int32)))) (j79 ()))) (tw_rz (0 : Int32) (k (0 : Int32))))))))
set_option maxHeartbeats 4000000 in
set_option maxRecDepth 100000 in
theorem C_Lc8 {g : tw_Gx} {Q : tw_Rs → tw_Mem → Prop} (a0 b1 b3 b5 : Nat) (s7 : Int32) (hP7 : s7.toNatClampNeg ≤ 3072) (j10 : Unit → tw_Mem → Prop) (g10 : ∀ z : Unit, tw_C g mL_law_ 1300 601024 7293034 Q 2993 [some (.ref a0), some (.ref b1), some (.ref b3), some (.ref b5), some (.int s7), none, none] [] (182 + s7.toNatClampNeg + 6) (20089 + 300 * s7.toNatClampNeg + 1626) (j10 z)) : tw_C g mL_law_ 1300 601024 7293034 Q 679 [some (.ref a0), some (.ref b1), some (.ref b3), some (.ref b5), some (.int s7), none, none] [] (182 + s7.toNatClampNeg + 0) (20089 + 300 * s7.toNatClampNeg + 0) (f_Lc8 a0 b1 b3 b5 s7 j10 (fun v => Q (.inl (some (.int v))))) := by
  unfold f_Lc8
  refine tw_aload_n (k := 291) rfl rfl ?_
  refine tw_aload_n (k := 292) rfl rfl ?_
  refine tw_iload (k := 293) rfl rfl ?_
  refine tw_iconst (k := 294) (1 : Int32) rfl (by decide) ?_
  refine tw_iadd (k := 295) rfl ?_
  refine tw_iaload (k := 296) rfl (fun x72 => ?_)
  refine tw_aload_n (k := 297) rfl rfl ?_
  refine tw_iload (k := 298) rfl rfl ?_
  refine tw_iconst (k := 299) (2 : Int32) rfl (by decide) ?_
  refine tw_iadd (k := 300) rfl ?_
  refine tw_iaload (k := 301) rfl (fun x73 => ?_)
  refine tw_aload_n (k := 302) rfl rfl ?_
  refine tw_callSW (k := 303) (d' := 9) (mc' := 3) (ms' := 18) tw_cI tw_cIi [.ref b1, .int x72, .int x73, .ref b5] rfl rfl wx_RL_172_L_sounds mo_L_sounds rfl (fun Q9 => K_L_sounds Q9 b1 x72 x73 b5) (by omega) (by omega) (by omega) (Nat.le_of_ble_eq_true rfl) (fun x74 => ?_)
  refine tw_ist (k := 304) [some (.ref a0), some (.ref b1), some (.ref b3), some (.ref b5), some (.int s7), some (.int x74), none] rfl (Nat.le_of_ble_eq_true rfl) rfl rfl ?_
  refine tw_aload_n (k := 305) rfl rfl ?_
  refine tw_aload_n (k := 306) rfl rfl ?_
  refine tw_iload (k := 307) rfl rfl ?_
  refine tw_iconst (k := 308) (1 : Int32) rfl (by decide) ?_
  refine tw_iadd (k := 309) rfl ?_
  refine tw_iaload (k := 310) rfl (fun x75 => ?_)
  refine tw_aload_n (k := 311) rfl rfl ?_
  refine tw_iload (k := 312) rfl rfl ?_
  refine tw_iconst (k := 313) (2 : Int32) rfl (by decide) ?_
  refine tw_iadd (k := 314) rfl ?_
  refine tw_iaload (k := 315) rfl (fun x76 => ?_)
  refine tw_callV (k := 316) (d' := 8) (mc' := 0) (ms' := 0) tw_cI tw_cIi [.int x75, .int x76] rfl rfl wv_RL_174_X12_sounds mo_X12_sounds (t := 11) rfl rfl rfl (fun Q9 => K_X12_sounds Q9 b3 x75 x76) (by omega) (by omega) (by omega) (Nat.le_of_ble_eq_true rfl) (fun x77 => ?_)
  refine tw_ist (k := 317) [some (.ref a0), some (.ref b1), some (.ref b3), some (.ref b5), some (.int s7), some (.int x74), some (.int x77)] rfl (Nat.le_of_ble_eq_true rfl) rfl rfl ?_
  refine tw_aload_n (k := 318) rfl rfl ?_
  refine tw_callV (k := 319) (d' := 1) (mc' := 0) (ms' := 0) tw_cI tw_cIi [] rfl rfl wv_RL_152_X12_thrown mo_X12_thrown (t := 11) rfl rfl rfl (fun Q9 => K_X12_thrown Q9 b3) (by omega) (by omega) (by omega) (Nat.le_of_ble_eq_true rfl) (fun x78 => ?_)
  refine tw_iload (k := 320) rfl rfl ?_
  refine tw_icmp_eq (k := 321) 727 rfl (by decide) ?_ ?_
  · refine tw_iload (k := 324) rfl rfl ?_
    refine tw_join 744 (fun s80 => [some (.ref a0), some (.ref b1), some (.ref b3), some (.ref b5), some (.int s7), some (.int x74), some (.int x77)]) (fun s80 => []) (182 + s7.toNatClampNeg + 3) (20089 + 300 * s7.toNatClampNeg + 18) (fun s80 => ?_) (fun j79 g79 => ?_)
    · refine tw_goto (k := 335) 2993 rfl (by decide) ?_
      refine tw_wide (k2 := (182 + s7.toNatClampNeg + 6)) (s2 := (20089 + 300 * s7.toNatClampNeg + 1626)) (by omega) (by omega) ?_
      exact tw_wk (L' := [some (.ref a0), some (.ref b1), some (.ref b3), some (.ref b5), some (.int s7), none, none]) ⟨Or.inr rfl, Or.inr rfl, Or.inr rfl, Or.inr rfl, Or.inr rfl, Or.inl rfl, Or.inl rfl, trivial⟩ (g10 ())
    · refine tw_if_ne (k := 325) 744 rfl (by decide) ?_ ?_
      · exact g79 ()
      · refine tw_aload_n (k := 326) rfl rfl ?_
        refine tw_iconst (k := 327) (0 : Int32) rfl (by decide) ?_
        refine tw_laload (k := 328) rfl (fun x81 => ?_)
        refine tw_iload (k := 329) rfl rfl ?_
        refine tw_i2l (k := 330) rfl ?_
        refine tw_lcmp (k := 331) rfl ?_
        refine tw_if_eq (k := 332) 744 rfl (by decide) ?_ ?_
        · exact g79 ()
        · refine tw_iconst (k := 333) (0 : Int32) rfl (by decide) ?_
          exact tw_zreturn (k := 334) rfl rfl (by omega) (by omega)
  · refine tw_iconst (k := 322) (0 : Int32) rfl (by decide) ?_
    exact tw_zreturn (k := 323) rfl rfl (by omega) (by omega)
def f_Lc9 (a0 b1 b3 b5 : Nat) (s7 : Int32) (j10 : Unit → tw_Mem → Prop) (k : Int32 → tw_Mem → Prop) : tw_Mem → Prop :=
  tw_li a0 (s7 + (1 : Int32)) fun x82 => tw_li a0 (s7 + (2 : Int32)) fun x83 => f_L_lets b1 x82 x83 b5 (fun x84 => tw_li a0 (s7 + (1 : Int32)) fun x85 => tw_li a0 (s7 + (2 : Int32)) fun x86 => tw_iv 11 b3 (f_X12_lets b3 x85 x86 (fun x87 => tw_iv 11 b3 (f_X12_thrown b3 (fun x88 => tw_if (x88 = x84) (tw_jn (fun (s90 : Unit) => j10 ()) (fun j89 => tw_if (x84 = 0) (tw_ll b5 (0 : Int32) fun x91 => tw_if ((lg_cmp x91 (x87.toInt64)) = 0) (j89 ()) (tw_rz (0 : Int32) (k (0 : Int32)))) (j89 ()))) (tw_rz (0 : Int32) (k (0 : Int32))))))))
set_option maxHeartbeats 4000000 in
set_option maxRecDepth 100000 in
theorem C_Lc9 {g : tw_Gx} {Q : tw_Rs → tw_Mem → Prop} (a0 b1 b3 b5 : Nat) (s7 : Int32) (hP7 : s7.toNatClampNeg ≤ 3072) (j10 : Unit → tw_Mem → Prop) (g10 : ∀ z : Unit, tw_C g mL_law_ 1300 601024 7293034 Q 2993 [some (.ref a0), some (.ref b1), some (.ref b3), some (.ref b5), some (.int s7), none, none] [] (182 + s7.toNatClampNeg + 6) (20089 + 300 * s7.toNatClampNeg + 1626) (j10 z)) : tw_C g mL_law_ 1300 601024 7293034 Q 747 [some (.ref a0), some (.ref b1), some (.ref b3), some (.ref b5), some (.int s7), none, none] [] (182 + s7.toNatClampNeg + 0) (20089 + 300 * s7.toNatClampNeg + 0) (f_Lc9 a0 b1 b3 b5 s7 j10 (fun v => Q (.inl (some (.int v))))) := by
  unfold f_Lc9
  refine tw_aload_n (k := 336) rfl rfl ?_
  refine tw_aload_n (k := 337) rfl rfl ?_
  refine tw_iload (k := 338) rfl rfl ?_
  refine tw_iconst (k := 339) (1 : Int32) rfl (by decide) ?_
  refine tw_iadd (k := 340) rfl ?_
  refine tw_iaload (k := 341) rfl (fun x82 => ?_)
  refine tw_aload_n (k := 342) rfl rfl ?_
  refine tw_iload (k := 343) rfl rfl ?_
  refine tw_iconst (k := 344) (2 : Int32) rfl (by decide) ?_
  refine tw_iadd (k := 345) rfl ?_
  refine tw_iaload (k := 346) rfl (fun x83 => ?_)
  refine tw_aload_n (k := 347) rfl rfl ?_
  refine tw_callSW (k := 348) (d' := 9) (mc' := 3) (ms' := 18) tw_cI tw_cIi [.ref b1, .int x82, .int x83, .ref b5] rfl rfl wx_RL_175_L_lets mo_L_lets rfl (fun Q9 => K_L_lets Q9 b1 x82 x83 b5) (by omega) (by omega) (by omega) (Nat.le_of_ble_eq_true rfl) (fun x84 => ?_)
  refine tw_ist (k := 349) [some (.ref a0), some (.ref b1), some (.ref b3), some (.ref b5), some (.int s7), some (.int x84), none] rfl (Nat.le_of_ble_eq_true rfl) rfl rfl ?_
  refine tw_aload_n (k := 350) rfl rfl ?_
  refine tw_aload_n (k := 351) rfl rfl ?_
  refine tw_iload (k := 352) rfl rfl ?_
  refine tw_iconst (k := 353) (1 : Int32) rfl (by decide) ?_
  refine tw_iadd (k := 354) rfl ?_
  refine tw_iaload (k := 355) rfl (fun x85 => ?_)
  refine tw_aload_n (k := 356) rfl rfl ?_
  refine tw_iload (k := 357) rfl rfl ?_
  refine tw_iconst (k := 358) (2 : Int32) rfl (by decide) ?_
  refine tw_iadd (k := 359) rfl ?_
  refine tw_iaload (k := 360) rfl (fun x86 => ?_)
  refine tw_callV (k := 361) (d' := 8) (mc' := 0) (ms' := 0) tw_cI tw_cIi [.int x85, .int x86] rfl rfl wv_RL_177_X12_lets mo_X12_lets (t := 11) rfl rfl rfl (fun Q9 => K_X12_lets Q9 b3 x85 x86) (by omega) (by omega) (by omega) (Nat.le_of_ble_eq_true rfl) (fun x87 => ?_)
  refine tw_ist (k := 362) [some (.ref a0), some (.ref b1), some (.ref b3), some (.ref b5), some (.int s7), some (.int x84), some (.int x87)] rfl (Nat.le_of_ble_eq_true rfl) rfl rfl ?_
  refine tw_aload_n (k := 363) rfl rfl ?_
  refine tw_callV (k := 364) (d' := 1) (mc' := 0) (ms' := 0) tw_cI tw_cIi [] rfl rfl wv_RL_152_X12_thrown mo_X12_thrown (t := 11) rfl rfl rfl (fun Q9 => K_X12_thrown Q9 b3) (by omega) (by omega) (by omega) (Nat.le_of_ble_eq_true rfl) (fun x88 => ?_)
  refine tw_iload (k := 365) rfl rfl ?_
  refine tw_icmp_eq (k := 366) 795 rfl (by decide) ?_ ?_
  · refine tw_iload (k := 369) rfl rfl ?_
    refine tw_join 812 (fun s90 => [some (.ref a0), some (.ref b1), some (.ref b3), some (.ref b5), some (.int s7), some (.int x84), some (.int x87)]) (fun s90 => []) (182 + s7.toNatClampNeg + 3) (20089 + 300 * s7.toNatClampNeg + 18) (fun s90 => ?_) (fun j89 g89 => ?_)
    · refine tw_goto (k := 380) 2993 rfl (by decide) ?_
      refine tw_wide (k2 := (182 + s7.toNatClampNeg + 6)) (s2 := (20089 + 300 * s7.toNatClampNeg + 1626)) (by omega) (by omega) ?_
      exact tw_wk (L' := [some (.ref a0), some (.ref b1), some (.ref b3), some (.ref b5), some (.int s7), none, none]) ⟨Or.inr rfl, Or.inr rfl, Or.inr rfl, Or.inr rfl, Or.inr rfl, Or.inl rfl, Or.inl rfl, trivial⟩ (g10 ())
    · refine tw_if_ne (k := 370) 812 rfl (by decide) ?_ ?_
      · exact g89 ()
      · refine tw_aload_n (k := 371) rfl rfl ?_
        refine tw_iconst (k := 372) (0 : Int32) rfl (by decide) ?_
        refine tw_laload (k := 373) rfl (fun x91 => ?_)
        refine tw_iload (k := 374) rfl rfl ?_
        refine tw_i2l (k := 375) rfl ?_
        refine tw_lcmp (k := 376) rfl ?_
        refine tw_if_eq (k := 377) 812 rfl (by decide) ?_ ?_
        · exact g89 ()
        · refine tw_iconst (k := 378) (0 : Int32) rfl (by decide) ?_
          exact tw_zreturn (k := 379) rfl rfl (by omega) (by omega)
  · refine tw_iconst (k := 367) (0 : Int32) rfl (by decide) ?_
    exact tw_zreturn (k := 368) rfl rfl (by omega) (by omega)
def f_Lc10 (a0 b1 b3 b5 : Nat) (s7 : Int32) (j10 : Unit → tw_Mem → Prop) (k : Int32 → tw_Mem → Prop) : tw_Mem → Prop :=
  tw_li a0 (s7 + (1 : Int32)) fun x92 => tw_li a0 (s7 + (2 : Int32)) fun x93 => f_L_both b1 x92 x93 b5 (fun x94 => tw_li a0 (s7 + (1 : Int32)) fun x95 => tw_li a0 (s7 + (2 : Int32)) fun x96 => tw_iv 11 b3 (f_X12_both b3 x95 x96 (fun x97 => tw_iv 11 b3 (f_X12_thrown b3 (fun x98 => tw_if (x98 = x94) (tw_jn (fun (s100 : Unit) => j10 ()) (fun j99 => tw_if (x94 = 0) (tw_ll b5 (0 : Int32) fun x101 => tw_if ((lg_cmp x101 (x97.toInt64)) = 0) (j99 ()) (tw_rz (0 : Int32) (k (0 : Int32)))) (j99 ()))) (tw_rz (0 : Int32) (k (0 : Int32))))))))
set_option maxHeartbeats 4000000 in
set_option maxRecDepth 100000 in
theorem C_Lc10 {g : tw_Gx} {Q : tw_Rs → tw_Mem → Prop} (a0 b1 b3 b5 : Nat) (s7 : Int32) (hP7 : s7.toNatClampNeg ≤ 3072) (j10 : Unit → tw_Mem → Prop) (g10 : ∀ z : Unit, tw_C g mL_law_ 1300 601024 7293034 Q 2993 [some (.ref a0), some (.ref b1), some (.ref b3), some (.ref b5), some (.int s7), none, none] [] (182 + s7.toNatClampNeg + 6) (20089 + 300 * s7.toNatClampNeg + 1626) (j10 z)) : tw_C g mL_law_ 1300 601024 7293034 Q 815 [some (.ref a0), some (.ref b1), some (.ref b3), some (.ref b5), some (.int s7), none, none] [] (182 + s7.toNatClampNeg + 0) (20089 + 300 * s7.toNatClampNeg + 0) (f_Lc10 a0 b1 b3 b5 s7 j10 (fun v => Q (.inl (some (.int v))))) := by
  unfold f_Lc10
  refine tw_aload_n (k := 381) rfl rfl ?_
  refine tw_aload_n (k := 382) rfl rfl ?_
  refine tw_iload (k := 383) rfl rfl ?_
  refine tw_iconst (k := 384) (1 : Int32) rfl (by decide) ?_
  refine tw_iadd (k := 385) rfl ?_
  refine tw_iaload (k := 386) rfl (fun x92 => ?_)
  refine tw_aload_n (k := 387) rfl rfl ?_
  refine tw_iload (k := 388) rfl rfl ?_
  refine tw_iconst (k := 389) (2 : Int32) rfl (by decide) ?_
  refine tw_iadd (k := 390) rfl ?_
  refine tw_iaload (k := 391) rfl (fun x93 => ?_)
  refine tw_aload_n (k := 392) rfl rfl ?_
  refine tw_callSW (k := 393) (d' := 9) (mc' := 3) (ms' := 18) tw_cI tw_cIi [.ref b1, .int x92, .int x93, .ref b5] rfl rfl wx_RL_178_L_both mo_L_both rfl (fun Q9 => K_L_both Q9 b1 x92 x93 b5) (by omega) (by omega) (by omega) (Nat.le_of_ble_eq_true rfl) (fun x94 => ?_)
  refine tw_ist (k := 394) [some (.ref a0), some (.ref b1), some (.ref b3), some (.ref b5), some (.int s7), some (.int x94), none] rfl (Nat.le_of_ble_eq_true rfl) rfl rfl ?_
  refine tw_aload_n (k := 395) rfl rfl ?_
  refine tw_aload_n (k := 396) rfl rfl ?_
  refine tw_iload (k := 397) rfl rfl ?_
  refine tw_iconst (k := 398) (1 : Int32) rfl (by decide) ?_
  refine tw_iadd (k := 399) rfl ?_
  refine tw_iaload (k := 400) rfl (fun x95 => ?_)
  refine tw_aload_n (k := 401) rfl rfl ?_
  refine tw_iload (k := 402) rfl rfl ?_
  refine tw_iconst (k := 403) (2 : Int32) rfl (by decide) ?_
  refine tw_iadd (k := 404) rfl ?_
  refine tw_iaload (k := 405) rfl (fun x96 => ?_)
  refine tw_callV (k := 406) (d' := 5) (mc' := 0) (ms' := 0) tw_cI tw_cIi [.int x95, .int x96] rfl rfl wv_RL_180_X12_both mo_X12_both (t := 11) rfl rfl rfl (fun Q9 => K_X12_both Q9 b3 x95 x96) (by omega) (by omega) (by omega) (Nat.le_of_ble_eq_true rfl) (fun x97 => ?_)
  refine tw_ist (k := 407) [some (.ref a0), some (.ref b1), some (.ref b3), some (.ref b5), some (.int s7), some (.int x94), some (.int x97)] rfl (Nat.le_of_ble_eq_true rfl) rfl rfl ?_
  refine tw_aload_n (k := 408) rfl rfl ?_
  refine tw_callV (k := 409) (d' := 1) (mc' := 0) (ms' := 0) tw_cI tw_cIi [] rfl rfl wv_RL_152_X12_thrown mo_X12_thrown (t := 11) rfl rfl rfl (fun Q9 => K_X12_thrown Q9 b3) (by omega) (by omega) (by omega) (Nat.le_of_ble_eq_true rfl) (fun x98 => ?_)
  refine tw_iload (k := 410) rfl rfl ?_
  refine tw_icmp_eq (k := 411) 863 rfl (by decide) ?_ ?_
  · refine tw_iload (k := 414) rfl rfl ?_
    refine tw_join 880 (fun s100 => [some (.ref a0), some (.ref b1), some (.ref b3), some (.ref b5), some (.int s7), some (.int x94), some (.int x97)]) (fun s100 => []) (182 + s7.toNatClampNeg + 3) (20089 + 300 * s7.toNatClampNeg + 18) (fun s100 => ?_) (fun j99 g99 => ?_)
    · refine tw_goto (k := 425) 2993 rfl (by decide) ?_
      refine tw_wide (k2 := (182 + s7.toNatClampNeg + 6)) (s2 := (20089 + 300 * s7.toNatClampNeg + 1626)) (by omega) (by omega) ?_
      exact tw_wk (L' := [some (.ref a0), some (.ref b1), some (.ref b3), some (.ref b5), some (.int s7), none, none]) ⟨Or.inr rfl, Or.inr rfl, Or.inr rfl, Or.inr rfl, Or.inr rfl, Or.inl rfl, Or.inl rfl, trivial⟩ (g10 ())
    · refine tw_if_ne (k := 415) 880 rfl (by decide) ?_ ?_
      · exact g99 ()
      · refine tw_aload_n (k := 416) rfl rfl ?_
        refine tw_iconst (k := 417) (0 : Int32) rfl (by decide) ?_
        refine tw_laload (k := 418) rfl (fun x101 => ?_)
        refine tw_iload (k := 419) rfl rfl ?_
        refine tw_i2l (k := 420) rfl ?_
        refine tw_lcmp (k := 421) rfl ?_
        refine tw_if_eq (k := 422) 880 rfl (by decide) ?_ ?_
        · exact g99 ()
        · refine tw_iconst (k := 423) (0 : Int32) rfl (by decide) ?_
          exact tw_zreturn (k := 424) rfl rfl (by omega) (by omega)
  · refine tw_iconst (k := 412) (0 : Int32) rfl (by decide) ?_
    exact tw_zreturn (k := 413) rfl rfl (by omega) (by omega)
def f_Lc11 (a0 b1 b3 b5 : Nat) (s7 : Int32) (j10 : Unit → tw_Mem → Prop) (k : Int32 → tw_Mem → Prop) : tw_Mem → Prop :=
  tw_li a0 (s7 + (1 : Int32)) fun x102 => tw_li a0 (s7 + (2 : Int32)) fun x103 => f_L_plan b1 x102 x103 b5 (fun x104 => tw_li a0 (s7 + (1 : Int32)) fun x105 => tw_li a0 (s7 + (2 : Int32)) fun x106 => tw_iv 11 b3 (f_X12_plan b3 x105 x106 (fun x107 => tw_iv 11 b3 (f_X12_thrown b3 (fun x108 => tw_if (x108 = x104) (tw_jn (fun (s110 : Unit) => j10 ()) (fun j109 => tw_if (x104 = 0) (tw_ll b5 (0 : Int32) fun x111 => tw_if ((lg_cmp x111 (x107.toInt64)) = 0) (j109 ()) (tw_rz (0 : Int32) (k (0 : Int32)))) (j109 ()))) (tw_rz (0 : Int32) (k (0 : Int32))))))))
set_option maxHeartbeats 4000000 in
set_option maxRecDepth 100000 in
theorem C_Lc11 {g : tw_Gx} {Q : tw_Rs → tw_Mem → Prop} (a0 b1 b3 b5 : Nat) (s7 : Int32) (hP7 : s7.toNatClampNeg ≤ 3072) (j10 : Unit → tw_Mem → Prop) (g10 : ∀ z : Unit, tw_C g mL_law_ 1300 601024 7293034 Q 2993 [some (.ref a0), some (.ref b1), some (.ref b3), some (.ref b5), some (.int s7), none, none] [] (182 + s7.toNatClampNeg + 6) (20089 + 300 * s7.toNatClampNeg + 1626) (j10 z)) : tw_C g mL_law_ 1300 601024 7293034 Q 883 [some (.ref a0), some (.ref b1), some (.ref b3), some (.ref b5), some (.int s7), none, none] [] (182 + s7.toNatClampNeg + 0) (20089 + 300 * s7.toNatClampNeg + 0) (f_Lc11 a0 b1 b3 b5 s7 j10 (fun v => Q (.inl (some (.int v))))) := by
  unfold f_Lc11
  refine tw_aload_n (k := 426) rfl rfl ?_
  refine tw_aload_n (k := 427) rfl rfl ?_
  refine tw_iload (k := 428) rfl rfl ?_
  refine tw_iconst (k := 429) (1 : Int32) rfl (by decide) ?_
  refine tw_iadd (k := 430) rfl ?_
  refine tw_iaload (k := 431) rfl (fun x102 => ?_)
  refine tw_aload_n (k := 432) rfl rfl ?_
  refine tw_iload (k := 433) rfl rfl ?_
  refine tw_iconst (k := 434) (2 : Int32) rfl (by decide) ?_
  refine tw_iadd (k := 435) rfl ?_
  refine tw_iaload (k := 436) rfl (fun x103 => ?_)
  refine tw_aload_n (k := 437) rfl rfl ?_
  refine tw_callSW (k := 438) (d' := 8) (mc' := 2) (ms' := 12) tw_cI tw_cIi [.ref b1, .int x102, .int x103, .ref b5] rfl rfl wx_RL_181_L_plan mo_L_plan rfl (fun Q9 => K_L_plan Q9 b1 x102 x103 b5) (by omega) (by omega) (by omega) (Nat.le_of_ble_eq_true rfl) (fun x104 => ?_)
  refine tw_ist (k := 439) [some (.ref a0), some (.ref b1), some (.ref b3), some (.ref b5), some (.int s7), some (.int x104), none] rfl (Nat.le_of_ble_eq_true rfl) rfl rfl ?_
  refine tw_aload_n (k := 440) rfl rfl ?_
  refine tw_aload_n (k := 441) rfl rfl ?_
  refine tw_iload (k := 442) rfl rfl ?_
  refine tw_iconst (k := 443) (1 : Int32) rfl (by decide) ?_
  refine tw_iadd (k := 444) rfl ?_
  refine tw_iaload (k := 445) rfl (fun x105 => ?_)
  refine tw_aload_n (k := 446) rfl rfl ?_
  refine tw_iload (k := 447) rfl rfl ?_
  refine tw_iconst (k := 448) (2 : Int32) rfl (by decide) ?_
  refine tw_iadd (k := 449) rfl ?_
  refine tw_iaload (k := 450) rfl (fun x106 => ?_)
  refine tw_callV (k := 451) (d' := 3) (mc' := 0) (ms' := 0) tw_cI tw_cIi [.int x105, .int x106] rfl rfl wv_RL_183_X12_plan mo_X12_plan (t := 11) rfl rfl rfl (fun Q9 => K_X12_plan Q9 b3 x105 x106) (by omega) (by omega) (by omega) (Nat.le_of_ble_eq_true rfl) (fun x107 => ?_)
  refine tw_ist (k := 452) [some (.ref a0), some (.ref b1), some (.ref b3), some (.ref b5), some (.int s7), some (.int x104), some (.int x107)] rfl (Nat.le_of_ble_eq_true rfl) rfl rfl ?_
  refine tw_aload_n (k := 453) rfl rfl ?_
  refine tw_callV (k := 454) (d' := 1) (mc' := 0) (ms' := 0) tw_cI tw_cIi [] rfl rfl wv_RL_152_X12_thrown mo_X12_thrown (t := 11) rfl rfl rfl (fun Q9 => K_X12_thrown Q9 b3) (by omega) (by omega) (by omega) (Nat.le_of_ble_eq_true rfl) (fun x108 => ?_)
  refine tw_iload (k := 455) rfl rfl ?_
  refine tw_icmp_eq (k := 456) 931 rfl (by decide) ?_ ?_
  · refine tw_iload (k := 459) rfl rfl ?_
    refine tw_join 948 (fun s110 => [some (.ref a0), some (.ref b1), some (.ref b3), some (.ref b5), some (.int s7), some (.int x104), some (.int x107)]) (fun s110 => []) (182 + s7.toNatClampNeg + 2) (20089 + 300 * s7.toNatClampNeg + 12) (fun s110 => ?_) (fun j109 g109 => ?_)
    · refine tw_goto (k := 470) 2993 rfl (by decide) ?_
      refine tw_wide (k2 := (182 + s7.toNatClampNeg + 6)) (s2 := (20089 + 300 * s7.toNatClampNeg + 1626)) (by omega) (by omega) ?_
      exact tw_wk (L' := [some (.ref a0), some (.ref b1), some (.ref b3), some (.ref b5), some (.int s7), none, none]) ⟨Or.inr rfl, Or.inr rfl, Or.inr rfl, Or.inr rfl, Or.inr rfl, Or.inl rfl, Or.inl rfl, trivial⟩ (g10 ())
    · refine tw_if_ne (k := 460) 948 rfl (by decide) ?_ ?_
      · exact g109 ()
      · refine tw_aload_n (k := 461) rfl rfl ?_
        refine tw_iconst (k := 462) (0 : Int32) rfl (by decide) ?_
        refine tw_laload (k := 463) rfl (fun x111 => ?_)
        refine tw_iload (k := 464) rfl rfl ?_
        refine tw_i2l (k := 465) rfl ?_
        refine tw_lcmp (k := 466) rfl ?_
        refine tw_if_eq (k := 467) 948 rfl (by decide) ?_ ?_
        · exact g109 ()
        · refine tw_iconst (k := 468) (0 : Int32) rfl (by decide) ?_
          exact tw_zreturn (k := 469) rfl rfl (by omega) (by omega)
  · refine tw_iconst (k := 457) (0 : Int32) rfl (by decide) ?_
    exact tw_zreturn (k := 458) rfl rfl (by omega) (by omega)
def f_Lc12 (a0 b1 b3 b5 : Nat) (s7 : Int32) (j10 : Unit → tw_Mem → Prop) (k : Int32 → tw_Mem → Prop) : tw_Mem → Prop :=
  tw_li a0 (s7 + (1 : Int32)) fun x112 => f_L_tone b1 x112 b5 (fun x113 => tw_li a0 (s7 + (1 : Int32)) fun x114 => tw_iv 11 b3 (f_X12_tone b3 x114 (fun x115 => tw_iv 11 b3 (f_X12_thrown b3 (fun x116 => tw_if (x116 = x113) (tw_jn (fun (s118 : Unit) => j10 ()) (fun j117 => tw_if (x113 = 0) (tw_ll b5 (0 : Int32) fun x119 => tw_if ((lg_cmp x119 (x115.toInt64)) = 0) (j117 ()) (tw_rz (0 : Int32) (k (0 : Int32)))) (j117 ()))) (tw_rz (0 : Int32) (k (0 : Int32))))))))
set_option maxHeartbeats 4000000 in
set_option maxRecDepth 100000 in
theorem C_Lc12 {g : tw_Gx} {Q : tw_Rs → tw_Mem → Prop} (a0 b1 b3 b5 : Nat) (s7 : Int32) (hP7 : s7.toNatClampNeg ≤ 3072) (j10 : Unit → tw_Mem → Prop) (g10 : ∀ z : Unit, tw_C g mL_law_ 1300 601024 7293034 Q 2993 [some (.ref a0), some (.ref b1), some (.ref b3), some (.ref b5), some (.int s7), none, none] [] (182 + s7.toNatClampNeg + 6) (20089 + 300 * s7.toNatClampNeg + 1626) (j10 z)) : tw_C g mL_law_ 1300 601024 7293034 Q 951 [some (.ref a0), some (.ref b1), some (.ref b3), some (.ref b5), some (.int s7), none, none] [] (182 + s7.toNatClampNeg + 0) (20089 + 300 * s7.toNatClampNeg + 0) (f_Lc12 a0 b1 b3 b5 s7 j10 (fun v => Q (.inl (some (.int v))))) := by
  unfold f_Lc12
  refine tw_aload_n (k := 471) rfl rfl ?_
  refine tw_aload_n (k := 472) rfl rfl ?_
  refine tw_iload (k := 473) rfl rfl ?_
  refine tw_iconst (k := 474) (1 : Int32) rfl (by decide) ?_
  refine tw_iadd (k := 475) rfl ?_
  refine tw_iaload (k := 476) rfl (fun x112 => ?_)
  refine tw_aload_n (k := 477) rfl rfl ?_
  refine tw_callSW (k := 478) (d' := 8) (mc' := 1) (ms' := 6) tw_cI tw_cIi [.ref b1, .int x112, .ref b5] rfl rfl wx_RL_184_L_tone mo_L_tone rfl (fun Q9 => K_L_tone Q9 b1 x112 b5) (by omega) (by omega) (by omega) (Nat.le_of_ble_eq_true rfl) (fun x113 => ?_)
  refine tw_ist (k := 479) [some (.ref a0), some (.ref b1), some (.ref b3), some (.ref b5), some (.int s7), some (.int x113), none] rfl (Nat.le_of_ble_eq_true rfl) rfl rfl ?_
  refine tw_aload_n (k := 480) rfl rfl ?_
  refine tw_aload_n (k := 481) rfl rfl ?_
  refine tw_iload (k := 482) rfl rfl ?_
  refine tw_iconst (k := 483) (1 : Int32) rfl (by decide) ?_
  refine tw_iadd (k := 484) rfl ?_
  refine tw_iaload (k := 485) rfl (fun x114 => ?_)
  refine tw_callV (k := 486) (d' := 6) (mc' := 0) (ms' := 0) tw_cI tw_cIi [.int x114] rfl rfl wv_RL_187_X12_tone mo_X12_tone (t := 11) rfl rfl rfl (fun Q9 => K_X12_tone Q9 b3 x114) (by omega) (by omega) (by omega) (Nat.le_of_ble_eq_true rfl) (fun x115 => ?_)
  refine tw_ist (k := 487) [some (.ref a0), some (.ref b1), some (.ref b3), some (.ref b5), some (.int s7), some (.int x113), some (.int x115)] rfl (Nat.le_of_ble_eq_true rfl) rfl rfl ?_
  refine tw_aload_n (k := 488) rfl rfl ?_
  refine tw_callV (k := 489) (d' := 1) (mc' := 0) (ms' := 0) tw_cI tw_cIi [] rfl rfl wv_RL_152_X12_thrown mo_X12_thrown (t := 11) rfl rfl rfl (fun Q9 => K_X12_thrown Q9 b3) (by omega) (by omega) (by omega) (Nat.le_of_ble_eq_true rfl) (fun x116 => ?_)
  refine tw_iload (k := 490) rfl rfl ?_
  refine tw_icmp_eq (k := 491) 987 rfl (by decide) ?_ ?_
  · refine tw_iload (k := 494) rfl rfl ?_
    refine tw_join 1004 (fun s118 => [some (.ref a0), some (.ref b1), some (.ref b3), some (.ref b5), some (.int s7), some (.int x113), some (.int x115)]) (fun s118 => []) (182 + s7.toNatClampNeg + 1) (20089 + 300 * s7.toNatClampNeg + 6) (fun s118 => ?_) (fun j117 g117 => ?_)
    · refine tw_goto (k := 505) 2993 rfl (by decide) ?_
      refine tw_wide (k2 := (182 + s7.toNatClampNeg + 6)) (s2 := (20089 + 300 * s7.toNatClampNeg + 1626)) (by omega) (by omega) ?_
      exact tw_wk (L' := [some (.ref a0), some (.ref b1), some (.ref b3), some (.ref b5), some (.int s7), none, none]) ⟨Or.inr rfl, Or.inr rfl, Or.inr rfl, Or.inr rfl, Or.inr rfl, Or.inl rfl, Or.inl rfl, trivial⟩ (g10 ())
    · refine tw_if_ne (k := 495) 1004 rfl (by decide) ?_ ?_
      · exact g117 ()
      · refine tw_aload_n (k := 496) rfl rfl ?_
        refine tw_iconst (k := 497) (0 : Int32) rfl (by decide) ?_
        refine tw_laload (k := 498) rfl (fun x119 => ?_)
        refine tw_iload (k := 499) rfl rfl ?_
        refine tw_i2l (k := 500) rfl ?_
        refine tw_lcmp (k := 501) rfl ?_
        refine tw_if_eq (k := 502) 1004 rfl (by decide) ?_ ?_
        · exact g117 ()
        · refine tw_iconst (k := 503) (0 : Int32) rfl (by decide) ?_
          exact tw_zreturn (k := 504) rfl rfl (by omega) (by omega)
  · refine tw_iconst (k := 492) (0 : Int32) rfl (by decide) ?_
    exact tw_zreturn (k := 493) rfl rfl (by omega) (by omega)
def f_Lc13 (a0 b1 b3 b5 : Nat) (s7 : Int32) (j10 : Unit → tw_Mem → Prop) (k : Int32 → tw_Mem → Prop) : tw_Mem → Prop :=
  tw_li a0 (s7 + (1 : Int32)) fun x120 => tw_li a0 (s7 + (2 : Int32)) fun x121 => tw_li a0 (s7 + (3 : Int32)) fun x122 => f_L_rope b1 x120 x121 x122 b5 (fun x123 => tw_li a0 (s7 + (1 : Int32)) fun x124 => tw_li a0 (s7 + (2 : Int32)) fun x125 => tw_li a0 (s7 + (3 : Int32)) fun x126 => tw_iv 11 b3 (f_X12_rope b3 x124 x125 x126 (fun x127 => tw_iv 11 b3 (f_X12_thrown b3 (fun x128 => tw_if (x128 = x123) (tw_jn (fun (s130 : Unit) => j10 ()) (fun j129 => tw_if (x123 = 0) (tw_ll b5 (0 : Int32) fun x131 => tw_if ((lg_cmp x131 (x127.toInt64)) = 0) (j129 ()) (tw_rz (0 : Int32) (k (0 : Int32)))) (j129 ()))) (tw_rz (0 : Int32) (k (0 : Int32))))))))
set_option maxHeartbeats 4000000 in
set_option maxRecDepth 100000 in
theorem C_Lc13 {g : tw_Gx} {Q : tw_Rs → tw_Mem → Prop} (a0 b1 b3 b5 : Nat) (s7 : Int32) (hP7 : s7.toNatClampNeg ≤ 3072) (j10 : Unit → tw_Mem → Prop) (g10 : ∀ z : Unit, tw_C g mL_law_ 1300 601024 7293034 Q 2993 [some (.ref a0), some (.ref b1), some (.ref b3), some (.ref b5), some (.int s7), none, none] [] (182 + s7.toNatClampNeg + 6) (20089 + 300 * s7.toNatClampNeg + 1626) (j10 z)) : tw_C g mL_law_ 1300 601024 7293034 Q 1007 [some (.ref a0), some (.ref b1), some (.ref b3), some (.ref b5), some (.int s7), none, none] [] (182 + s7.toNatClampNeg + 0) (20089 + 300 * s7.toNatClampNeg + 0) (f_Lc13 a0 b1 b3 b5 s7 j10 (fun v => Q (.inl (some (.int v))))) := by
  unfold f_Lc13
  refine tw_aload_n (k := 506) rfl rfl ?_
  refine tw_aload_n (k := 507) rfl rfl ?_
  refine tw_iload (k := 508) rfl rfl ?_
  refine tw_iconst (k := 509) (1 : Int32) rfl (by decide) ?_
  refine tw_iadd (k := 510) rfl ?_
  refine tw_iaload (k := 511) rfl (fun x120 => ?_)
  refine tw_aload_n (k := 512) rfl rfl ?_
  refine tw_iload (k := 513) rfl rfl ?_
  refine tw_iconst (k := 514) (2 : Int32) rfl (by decide) ?_
  refine tw_iadd (k := 515) rfl ?_
  refine tw_iaload (k := 516) rfl (fun x121 => ?_)
  refine tw_aload_n (k := 517) rfl rfl ?_
  refine tw_iload (k := 518) rfl rfl ?_
  refine tw_iconst (k := 519) (3 : Int32) rfl (by decide) ?_
  refine tw_iadd (k := 520) rfl ?_
  refine tw_iaload (k := 521) rfl (fun x122 => ?_)
  refine tw_aload_n (k := 522) rfl rfl ?_
  refine tw_callSW (k := 523) (d' := 8) (mc' := 4) (ms' := 24) tw_cI tw_cIi [.ref b1, .int x120, .int x121, .int x122, .ref b5] rfl rfl wx_RL_188_L_rope mo_L_rope rfl (fun Q9 => K_L_rope Q9 b1 x120 x121 x122 b5) (by omega) (by omega) (by omega) (Nat.le_of_ble_eq_true rfl) (fun x123 => ?_)
  refine tw_ist (k := 524) [some (.ref a0), some (.ref b1), some (.ref b3), some (.ref b5), some (.int s7), some (.int x123), none] rfl (Nat.le_of_ble_eq_true rfl) rfl rfl ?_
  refine tw_aload_n (k := 525) rfl rfl ?_
  refine tw_aload_n (k := 526) rfl rfl ?_
  refine tw_iload (k := 527) rfl rfl ?_
  refine tw_iconst (k := 528) (1 : Int32) rfl (by decide) ?_
  refine tw_iadd (k := 529) rfl ?_
  refine tw_iaload (k := 530) rfl (fun x124 => ?_)
  refine tw_aload_n (k := 531) rfl rfl ?_
  refine tw_iload (k := 532) rfl rfl ?_
  refine tw_iconst (k := 533) (2 : Int32) rfl (by decide) ?_
  refine tw_iadd (k := 534) rfl ?_
  refine tw_iaload (k := 535) rfl (fun x125 => ?_)
  refine tw_aload_n (k := 536) rfl rfl ?_
  refine tw_iload (k := 537) rfl rfl ?_
  refine tw_iconst (k := 538) (3 : Int32) rfl (by decide) ?_
  refine tw_iadd (k := 539) rfl ?_
  refine tw_iaload (k := 540) rfl (fun x126 => ?_)
  refine tw_callV (k := 541) (d' := 3) (mc' := 0) (ms' := 0) tw_cI tw_cIi [.int x124, .int x125, .int x126] rfl rfl wv_RL_191_X12_rope mo_X12_rope (t := 11) rfl rfl rfl (fun Q9 => K_X12_rope Q9 b3 x124 x125 x126) (by omega) (by omega) (by omega) (Nat.le_of_ble_eq_true rfl) (fun x127 => ?_)
  refine tw_ist (k := 542) [some (.ref a0), some (.ref b1), some (.ref b3), some (.ref b5), some (.int s7), some (.int x123), some (.int x127)] rfl (Nat.le_of_ble_eq_true rfl) rfl rfl ?_
  refine tw_aload_n (k := 543) rfl rfl ?_
  refine tw_callV (k := 544) (d' := 1) (mc' := 0) (ms' := 0) tw_cI tw_cIi [] rfl rfl wv_RL_152_X12_thrown mo_X12_thrown (t := 11) rfl rfl rfl (fun Q9 => K_X12_thrown Q9 b3) (by omega) (by omega) (by omega) (Nat.le_of_ble_eq_true rfl) (fun x128 => ?_)
  refine tw_iload (k := 545) rfl rfl ?_
  refine tw_icmp_eq (k := 546) 1067 rfl (by decide) ?_ ?_
  · refine tw_iload (k := 549) rfl rfl ?_
    refine tw_join 1084 (fun s130 => [some (.ref a0), some (.ref b1), some (.ref b3), some (.ref b5), some (.int s7), some (.int x123), some (.int x127)]) (fun s130 => []) (182 + s7.toNatClampNeg + 4) (20089 + 300 * s7.toNatClampNeg + 24) (fun s130 => ?_) (fun j129 g129 => ?_)
    · refine tw_goto (k := 560) 2993 rfl (by decide) ?_
      refine tw_wide (k2 := (182 + s7.toNatClampNeg + 6)) (s2 := (20089 + 300 * s7.toNatClampNeg + 1626)) (by omega) (by omega) ?_
      exact tw_wk (L' := [some (.ref a0), some (.ref b1), some (.ref b3), some (.ref b5), some (.int s7), none, none]) ⟨Or.inr rfl, Or.inr rfl, Or.inr rfl, Or.inr rfl, Or.inr rfl, Or.inl rfl, Or.inl rfl, trivial⟩ (g10 ())
    · refine tw_if_ne (k := 550) 1084 rfl (by decide) ?_ ?_
      · exact g129 ()
      · refine tw_aload_n (k := 551) rfl rfl ?_
        refine tw_iconst (k := 552) (0 : Int32) rfl (by decide) ?_
        refine tw_laload (k := 553) rfl (fun x131 => ?_)
        refine tw_iload (k := 554) rfl rfl ?_
        refine tw_i2l (k := 555) rfl ?_
        refine tw_lcmp (k := 556) rfl ?_
        refine tw_if_eq (k := 557) 1084 rfl (by decide) ?_ ?_
        · exact g129 ()
        · refine tw_iconst (k := 558) (0 : Int32) rfl (by decide) ?_
          exact tw_zreturn (k := 559) rfl rfl (by omega) (by omega)
  · refine tw_iconst (k := 547) (0 : Int32) rfl (by decide) ?_
    exact tw_zreturn (k := 548) rfl rfl (by omega) (by omega)
def f_Lc14 (a0 b1 b3 b5 : Nat) (s7 : Int32) (j10 : Unit → tw_Mem → Prop) (k : Int32 → tw_Mem → Prop) : tw_Mem → Prop :=
  tw_li a0 (s7 + (1 : Int32)) fun x132 => tw_li a0 (s7 + (2 : Int32)) fun x133 => f_L_off b1 x132 x133 b5 (fun x134 => tw_li a0 (s7 + (1 : Int32)) fun x135 => tw_li a0 (s7 + (2 : Int32)) fun x136 => tw_iv 11 b3 (f_X12_off b3 x135 x136 (fun x137 => tw_iv 11 b3 (f_X12_thrown b3 (fun x138 => tw_if (x138 = x134) (tw_jn (fun (s140 : Unit) => j10 ()) (fun j139 => tw_if (x134 = 0) (tw_ll b5 (0 : Int32) fun x141 => tw_if ((lg_cmp x141 (x137.toInt64)) = 0) (j139 ()) (tw_rz (0 : Int32) (k (0 : Int32)))) (j139 ()))) (tw_rz (0 : Int32) (k (0 : Int32))))))))
set_option maxHeartbeats 4000000 in
set_option maxRecDepth 100000 in
theorem C_Lc14 {g : tw_Gx} {Q : tw_Rs → tw_Mem → Prop} (a0 b1 b3 b5 : Nat) (s7 : Int32) (hP7 : s7.toNatClampNeg ≤ 3072) (j10 : Unit → tw_Mem → Prop) (g10 : ∀ z : Unit, tw_C g mL_law_ 1300 601024 7293034 Q 2993 [some (.ref a0), some (.ref b1), some (.ref b3), some (.ref b5), some (.int s7), none, none] [] (182 + s7.toNatClampNeg + 6) (20089 + 300 * s7.toNatClampNeg + 1626) (j10 z)) : tw_C g mL_law_ 1300 601024 7293034 Q 1087 [some (.ref a0), some (.ref b1), some (.ref b3), some (.ref b5), some (.int s7), none, none] [] (182 + s7.toNatClampNeg + 0) (20089 + 300 * s7.toNatClampNeg + 0) (f_Lc14 a0 b1 b3 b5 s7 j10 (fun v => Q (.inl (some (.int v))))) := by
  unfold f_Lc14
  refine tw_aload_n (k := 561) rfl rfl ?_
  refine tw_aload_n (k := 562) rfl rfl ?_
  refine tw_iload (k := 563) rfl rfl ?_
  refine tw_iconst (k := 564) (1 : Int32) rfl (by decide) ?_
  refine tw_iadd (k := 565) rfl ?_
  refine tw_iaload (k := 566) rfl (fun x132 => ?_)
  refine tw_aload_n (k := 567) rfl rfl ?_
  refine tw_iload (k := 568) rfl rfl ?_
  refine tw_iconst (k := 569) (2 : Int32) rfl (by decide) ?_
  refine tw_iadd (k := 570) rfl ?_
  refine tw_iaload (k := 571) rfl (fun x133 => ?_)
  refine tw_aload_n (k := 572) rfl rfl ?_
  refine tw_callSW (k := 573) (d' := 8) (mc' := 3) (ms' := 18) tw_cI tw_cIi [.ref b1, .int x132, .int x133, .ref b5] rfl rfl wx_RL_192_L_off mo_L_off rfl (fun Q9 => K_L_off Q9 b1 x132 x133 b5) (by omega) (by omega) (by omega) (Nat.le_of_ble_eq_true rfl) (fun x134 => ?_)
  refine tw_ist (k := 574) [some (.ref a0), some (.ref b1), some (.ref b3), some (.ref b5), some (.int s7), some (.int x134), none] rfl (Nat.le_of_ble_eq_true rfl) rfl rfl ?_
  refine tw_aload_n (k := 575) rfl rfl ?_
  refine tw_aload_n (k := 576) rfl rfl ?_
  refine tw_iload (k := 577) rfl rfl ?_
  refine tw_iconst (k := 578) (1 : Int32) rfl (by decide) ?_
  refine tw_iadd (k := 579) rfl ?_
  refine tw_iaload (k := 580) rfl (fun x135 => ?_)
  refine tw_aload_n (k := 581) rfl rfl ?_
  refine tw_iload (k := 582) rfl rfl ?_
  refine tw_iconst (k := 583) (2 : Int32) rfl (by decide) ?_
  refine tw_iadd (k := 584) rfl ?_
  refine tw_iaload (k := 585) rfl (fun x136 => ?_)
  refine tw_callV (k := 586) (d' := 3) (mc' := 0) (ms' := 0) tw_cI tw_cIi [.int x135, .int x136] rfl rfl wv_RL_194_X12_off mo_X12_off (t := 11) rfl rfl rfl (fun Q9 => K_X12_off Q9 b3 x135 x136) (by omega) (by omega) (by omega) (Nat.le_of_ble_eq_true rfl) (fun x137 => ?_)
  refine tw_ist (k := 587) [some (.ref a0), some (.ref b1), some (.ref b3), some (.ref b5), some (.int s7), some (.int x134), some (.int x137)] rfl (Nat.le_of_ble_eq_true rfl) rfl rfl ?_
  refine tw_aload_n (k := 588) rfl rfl ?_
  refine tw_callV (k := 589) (d' := 1) (mc' := 0) (ms' := 0) tw_cI tw_cIi [] rfl rfl wv_RL_152_X12_thrown mo_X12_thrown (t := 11) rfl rfl rfl (fun Q9 => K_X12_thrown Q9 b3) (by omega) (by omega) (by omega) (Nat.le_of_ble_eq_true rfl) (fun x138 => ?_)
  refine tw_iload (k := 590) rfl rfl ?_
  refine tw_icmp_eq (k := 591) 1135 rfl (by decide) ?_ ?_
  · refine tw_iload (k := 594) rfl rfl ?_
    refine tw_join 1152 (fun s140 => [some (.ref a0), some (.ref b1), some (.ref b3), some (.ref b5), some (.int s7), some (.int x134), some (.int x137)]) (fun s140 => []) (182 + s7.toNatClampNeg + 3) (20089 + 300 * s7.toNatClampNeg + 18) (fun s140 => ?_) (fun j139 g139 => ?_)
    · refine tw_goto (k := 605) 2993 rfl (by decide) ?_
      refine tw_wide (k2 := (182 + s7.toNatClampNeg + 6)) (s2 := (20089 + 300 * s7.toNatClampNeg + 1626)) (by omega) (by omega) ?_
      exact tw_wk (L' := [some (.ref a0), some (.ref b1), some (.ref b3), some (.ref b5), some (.int s7), none, none]) ⟨Or.inr rfl, Or.inr rfl, Or.inr rfl, Or.inr rfl, Or.inr rfl, Or.inl rfl, Or.inl rfl, trivial⟩ (g10 ())
    · refine tw_if_ne (k := 595) 1152 rfl (by decide) ?_ ?_
      · exact g139 ()
      · refine tw_aload_n (k := 596) rfl rfl ?_
        refine tw_iconst (k := 597) (0 : Int32) rfl (by decide) ?_
        refine tw_laload (k := 598) rfl (fun x141 => ?_)
        refine tw_iload (k := 599) rfl rfl ?_
        refine tw_i2l (k := 600) rfl ?_
        refine tw_lcmp (k := 601) rfl ?_
        refine tw_if_eq (k := 602) 1152 rfl (by decide) ?_ ?_
        · exact g139 ()
        · refine tw_iconst (k := 603) (0 : Int32) rfl (by decide) ?_
          exact tw_zreturn (k := 604) rfl rfl (by omega) (by omega)
  · refine tw_iconst (k := 592) (0 : Int32) rfl (by decide) ?_
    exact tw_zreturn (k := 593) rfl rfl (by omega) (by omega)
def f_Lc15 (a0 b1 b3 b5 : Nat) (s7 : Int32) (j10 : Unit → tw_Mem → Prop) (k : Int32 → tw_Mem → Prop) : tw_Mem → Prop :=
  tw_li a0 (s7 + (1 : Int32)) fun x142 => f_L_change b1 x142 b5 (fun x143 => tw_li a0 (s7 + (1 : Int32)) fun x144 => tw_iv 11 b3 (f_X12_change b3 x144 (fun x145 => tw_iv 11 b3 (f_X12_thrown b3 (fun x146 => tw_if (x146 = x143) (tw_jn (fun (s148 : Unit) => j10 ()) (fun j147 => tw_if (x143 = 0) (tw_ll b5 (0 : Int32) fun x149 => tw_if ((lg_cmp x149 (x145.toInt64)) = 0) (j147 ()) (tw_rz (0 : Int32) (k (0 : Int32)))) (j147 ()))) (tw_rz (0 : Int32) (k (0 : Int32))))))))
set_option maxHeartbeats 4000000 in
set_option maxRecDepth 100000 in
theorem C_Lc15 {g : tw_Gx} {Q : tw_Rs → tw_Mem → Prop} (a0 b1 b3 b5 : Nat) (s7 : Int32) (hP7 : s7.toNatClampNeg ≤ 3072) (j10 : Unit → tw_Mem → Prop) (g10 : ∀ z : Unit, tw_C g mL_law_ 1300 601024 7293034 Q 2993 [some (.ref a0), some (.ref b1), some (.ref b3), some (.ref b5), some (.int s7), none, none] [] (182 + s7.toNatClampNeg + 6) (20089 + 300 * s7.toNatClampNeg + 1626) (j10 z)) : tw_C g mL_law_ 1300 601024 7293034 Q 1155 [some (.ref a0), some (.ref b1), some (.ref b3), some (.ref b5), some (.int s7), none, none] [] (182 + s7.toNatClampNeg + 0) (20089 + 300 * s7.toNatClampNeg + 0) (f_Lc15 a0 b1 b3 b5 s7 j10 (fun v => Q (.inl (some (.int v))))) := by
  unfold f_Lc15
  refine tw_aload_n (k := 606) rfl rfl ?_
  refine tw_aload_n (k := 607) rfl rfl ?_
  refine tw_iload (k := 608) rfl rfl ?_
  refine tw_iconst (k := 609) (1 : Int32) rfl (by decide) ?_
  refine tw_iadd (k := 610) rfl ?_
  refine tw_iaload (k := 611) rfl (fun x142 => ?_)
  refine tw_aload_n (k := 612) rfl rfl ?_
  refine tw_callSW (k := 613) (d' := 8) (mc' := 1) (ms' := 6) tw_cI tw_cIi [.ref b1, .int x142, .ref b5] rfl rfl wx_RL_195_L_change mo_L_change rfl (fun Q9 => K_L_change Q9 b1 x142 b5) (by omega) (by omega) (by omega) (Nat.le_of_ble_eq_true rfl) (fun x143 => ?_)
  refine tw_ist (k := 614) [some (.ref a0), some (.ref b1), some (.ref b3), some (.ref b5), some (.int s7), some (.int x143), none] rfl (Nat.le_of_ble_eq_true rfl) rfl rfl ?_
  refine tw_aload_n (k := 615) rfl rfl ?_
  refine tw_aload_n (k := 616) rfl rfl ?_
  refine tw_iload (k := 617) rfl rfl ?_
  refine tw_iconst (k := 618) (1 : Int32) rfl (by decide) ?_
  refine tw_iadd (k := 619) rfl ?_
  refine tw_iaload (k := 620) rfl (fun x144 => ?_)
  refine tw_callV (k := 621) (d' := 3) (mc' := 0) (ms' := 0) tw_cI tw_cIi [.int x144] rfl rfl wv_RL_197_X12_change mo_X12_change (t := 11) rfl rfl rfl (fun Q9 => K_X12_change Q9 b3 x144) (by omega) (by omega) (by omega) (Nat.le_of_ble_eq_true rfl) (fun x145 => ?_)
  refine tw_ist (k := 622) [some (.ref a0), some (.ref b1), some (.ref b3), some (.ref b5), some (.int s7), some (.int x143), some (.int x145)] rfl (Nat.le_of_ble_eq_true rfl) rfl rfl ?_
  refine tw_aload_n (k := 623) rfl rfl ?_
  refine tw_callV (k := 624) (d' := 1) (mc' := 0) (ms' := 0) tw_cI tw_cIi [] rfl rfl wv_RL_152_X12_thrown mo_X12_thrown (t := 11) rfl rfl rfl (fun Q9 => K_X12_thrown Q9 b3) (by omega) (by omega) (by omega) (Nat.le_of_ble_eq_true rfl) (fun x146 => ?_)
  refine tw_iload (k := 625) rfl rfl ?_
  refine tw_icmp_eq (k := 626) 1191 rfl (by decide) ?_ ?_
  · refine tw_iload (k := 629) rfl rfl ?_
    refine tw_join 1208 (fun s148 => [some (.ref a0), some (.ref b1), some (.ref b3), some (.ref b5), some (.int s7), some (.int x143), some (.int x145)]) (fun s148 => []) (182 + s7.toNatClampNeg + 1) (20089 + 300 * s7.toNatClampNeg + 6) (fun s148 => ?_) (fun j147 g147 => ?_)
    · refine tw_goto (k := 640) 2993 rfl (by decide) ?_
      refine tw_wide (k2 := (182 + s7.toNatClampNeg + 6)) (s2 := (20089 + 300 * s7.toNatClampNeg + 1626)) (by omega) (by omega) ?_
      exact tw_wk (L' := [some (.ref a0), some (.ref b1), some (.ref b3), some (.ref b5), some (.int s7), none, none]) ⟨Or.inr rfl, Or.inr rfl, Or.inr rfl, Or.inr rfl, Or.inr rfl, Or.inl rfl, Or.inl rfl, trivial⟩ (g10 ())
    · refine tw_if_ne (k := 630) 1208 rfl (by decide) ?_ ?_
      · exact g147 ()
      · refine tw_aload_n (k := 631) rfl rfl ?_
        refine tw_iconst (k := 632) (0 : Int32) rfl (by decide) ?_
        refine tw_laload (k := 633) rfl (fun x149 => ?_)
        refine tw_iload (k := 634) rfl rfl ?_
        refine tw_i2l (k := 635) rfl ?_
        refine tw_lcmp (k := 636) rfl ?_
        refine tw_if_eq (k := 637) 1208 rfl (by decide) ?_ ?_
        · exact g147 ()
        · refine tw_iconst (k := 638) (0 : Int32) rfl (by decide) ?_
          exact tw_zreturn (k := 639) rfl rfl (by omega) (by omega)
  · refine tw_iconst (k := 627) (0 : Int32) rfl (by decide) ?_
    exact tw_zreturn (k := 628) rfl rfl (by omega) (by omega)
def f_Lc16 (a0 b1 b3 b5 : Nat) (s7 : Int32) (j10 : Unit → tw_Mem → Prop) (k : Int32 → tw_Mem → Prop) : tw_Mem → Prop :=
  tw_li a0 (s7 + (1 : Int32)) fun x150 => tw_li a0 (s7 + (2 : Int32)) fun x151 => tw_jn (fun (s153 : Int32) => f_L_swear b1 x150 s153 b5 (fun x154 => tw_li a0 (s7 + (1 : Int32)) fun x155 => tw_li a0 (s7 + (2 : Int32)) fun x156 => tw_jn (fun (s158 : Int32) => tw_iv 11 b3 (f_X12_swear b3 x155 s158 (fun x159 => tw_iv 11 b3 (f_X12_thrown b3 (fun x160 => tw_if (x160 = x154) (tw_jn (fun (s162 : Unit) => j10 ()) (fun j161 => tw_if (x154 = 0) (tw_ll b5 (0 : Int32) fun x163 => tw_jn (fun (s165 : Int64) => tw_if ((lg_cmp x163 s165) = 0) (j161 ()) (tw_rz (0 : Int32) (k (0 : Int32)))) (fun j164 => tw_if (x159 = 0) (j164 (0 : Int64)) (j164 (1 : Int64)))) (j161 ()))) (tw_rz (0 : Int32) (k (0 : Int32)))))))) (fun j157 => tw_if (x156 = 0) (j157 (0 : Int32)) (j157 (1 : Int32))))) (fun j152 => tw_if (x151 = 0) (j152 (0 : Int32)) (j152 (1 : Int32)))
set_option maxHeartbeats 4000000 in
set_option maxRecDepth 100000 in
theorem C_Lc16 {g : tw_Gx} {Q : tw_Rs → tw_Mem → Prop} (a0 b1 b3 b5 : Nat) (s7 : Int32) (hP7 : s7.toNatClampNeg ≤ 3072) (j10 : Unit → tw_Mem → Prop) (g10 : ∀ z : Unit, tw_C g mL_law_ 1300 601024 7293034 Q 2993 [some (.ref a0), some (.ref b1), some (.ref b3), some (.ref b5), some (.int s7), none, none] [] (182 + s7.toNatClampNeg + 6) (20089 + 300 * s7.toNatClampNeg + 1626) (j10 z)) : tw_C g mL_law_ 1300 601024 7293034 Q 1211 [some (.ref a0), some (.ref b1), some (.ref b3), some (.ref b5), some (.int s7), none, none] [] (182 + s7.toNatClampNeg + 0) (20089 + 300 * s7.toNatClampNeg + 0) (f_Lc16 a0 b1 b3 b5 s7 j10 (fun v => Q (.inl (some (.int v))))) := by
  unfold f_Lc16
  refine tw_aload_n (k := 641) rfl rfl ?_
  refine tw_aload_n (k := 642) rfl rfl ?_
  refine tw_iload (k := 643) rfl rfl ?_
  refine tw_iconst (k := 644) (1 : Int32) rfl (by decide) ?_
  refine tw_iadd (k := 645) rfl ?_
  refine tw_iaload (k := 646) rfl (fun x150 => ?_)
  refine tw_aload_n (k := 647) rfl rfl ?_
  refine tw_iload (k := 648) rfl rfl ?_
  refine tw_iconst (k := 649) (2 : Int32) rfl (by decide) ?_
  refine tw_iadd (k := 650) rfl ?_
  refine tw_iaload (k := 651) rfl (fun x151 => ?_)
  refine tw_join 1232 (fun s153 => [some (.ref a0), some (.ref b1), some (.ref b3), some (.ref b5), some (.int s7), none, none]) (fun s153 => .int s153 :: .int x150 :: .ref b1 :: []) (182 + s7.toNatClampNeg + 0) (20089 + 300 * s7.toNatClampNeg + 0) (fun s153 => ?_) (fun j152 g152 => ?_)
  · refine tw_aload_n (k := 656) rfl rfl ?_
    refine tw_callSW (k := 657) (d' := 8) (mc' := 1) (ms' := 6) tw_cI tw_cIi [.ref b1, .int x150, .int s153, .ref b5] rfl rfl wx_RL_198_L_swear mo_L_swear rfl (fun Q9 => K_L_swear Q9 b1 x150 s153 b5) (by omega) (by omega) (by omega) (Nat.le_of_ble_eq_true rfl) (fun x154 => ?_)
    refine tw_ist (k := 658) [some (.ref a0), some (.ref b1), some (.ref b3), some (.ref b5), some (.int s7), some (.int x154), none] rfl (Nat.le_of_ble_eq_true rfl) rfl rfl ?_
    refine tw_aload_n (k := 659) rfl rfl ?_
    refine tw_aload_n (k := 660) rfl rfl ?_
    refine tw_iload (k := 661) rfl rfl ?_
    refine tw_iconst (k := 662) (1 : Int32) rfl (by decide) ?_
    refine tw_iadd (k := 663) rfl ?_
    refine tw_iaload (k := 664) rfl (fun x155 => ?_)
    refine tw_aload_n (k := 665) rfl rfl ?_
    refine tw_iload (k := 666) rfl rfl ?_
    refine tw_iconst (k := 667) (2 : Int32) rfl (by decide) ?_
    refine tw_iadd (k := 668) rfl ?_
    refine tw_iaload (k := 669) rfl (fun x156 => ?_)
    refine tw_join 1259 (fun s158 => [some (.ref a0), some (.ref b1), some (.ref b3), some (.ref b5), some (.int s7), some (.int x154), none]) (fun s158 => .int s158 :: .int x155 :: .ref b3 :: []) (182 + s7.toNatClampNeg + 1) (20089 + 300 * s7.toNatClampNeg + 6) (fun s158 => ?_) (fun j157 g157 => ?_)
    · refine tw_callV (k := 674) (d' := 3) (mc' := 0) (ms' := 0) tw_cI tw_cIi [.int x155, .int s158] rfl rfl wv_RL_201_X12_swear mo_X12_swear (t := 11) rfl rfl rfl (fun Q9 => K_X12_swear Q9 b3 x155 s158) (by omega) (by omega) (by omega) (Nat.le_of_ble_eq_true rfl) (fun x159 => ?_)
      refine tw_ist (k := 675) [some (.ref a0), some (.ref b1), some (.ref b3), some (.ref b5), some (.int s7), some (.int x154), some (.int x159)] rfl (Nat.le_of_ble_eq_true rfl) rfl rfl ?_
      refine tw_aload_n (k := 676) rfl rfl ?_
      refine tw_callV (k := 677) (d' := 1) (mc' := 0) (ms' := 0) tw_cI tw_cIi [] rfl rfl wv_RL_152_X12_thrown mo_X12_thrown (t := 11) rfl rfl rfl (fun Q9 => K_X12_thrown Q9 b3) (by omega) (by omega) (by omega) (Nat.le_of_ble_eq_true rfl) (fun x160 => ?_)
      refine tw_iload (k := 678) rfl rfl ?_
      refine tw_icmp_eq (k := 679) 1275 rfl (by decide) ?_ ?_
      · refine tw_iload (k := 682) rfl rfl ?_
        refine tw_join 1299 (fun s162 => [some (.ref a0), some (.ref b1), some (.ref b3), some (.ref b5), some (.int s7), some (.int x154), some (.int x159)]) (fun s162 => []) (182 + s7.toNatClampNeg + 1) (20089 + 300 * s7.toNatClampNeg + 6) (fun s162 => ?_) (fun j161 g161 => ?_)
        · refine tw_goto (k := 696) 2993 rfl (by decide) ?_
          refine tw_wide (k2 := (182 + s7.toNatClampNeg + 6)) (s2 := (20089 + 300 * s7.toNatClampNeg + 1626)) (by omega) (by omega) ?_
          exact tw_wk (L' := [some (.ref a0), some (.ref b1), some (.ref b3), some (.ref b5), some (.int s7), none, none]) ⟨Or.inr rfl, Or.inr rfl, Or.inr rfl, Or.inr rfl, Or.inr rfl, Or.inl rfl, Or.inl rfl, trivial⟩ (g10 ())
        · refine tw_if_ne (k := 683) 1299 rfl (by decide) ?_ ?_
          · exact g161 ()
          · refine tw_aload_n (k := 684) rfl rfl ?_
            refine tw_iconst (k := 685) (0 : Int32) rfl (by decide) ?_
            refine tw_laload (k := 686) rfl (fun x163 => ?_)
            refine tw_iload (k := 687) rfl rfl ?_
            refine tw_join 1293 (fun s165 => [some (.ref a0), some (.ref b1), some (.ref b3), some (.ref b5), some (.int s7), some (.int x154), some (.int x159)]) (fun s165 => .long s165 :: .long x163 :: []) (182 + s7.toNatClampNeg + 1) (20089 + 300 * s7.toNatClampNeg + 6) (fun s165 => ?_) (fun j164 g164 => ?_)
            · refine tw_lcmp (k := 692) rfl ?_
              refine tw_if_eq (k := 693) 1299 rfl (by decide) ?_ ?_
              · exact g161 ()
              · refine tw_iconst (k := 694) (0 : Int32) rfl (by decide) ?_
                exact tw_zreturn (k := 695) rfl rfl (by omega) (by omega)
            · refine tw_if_eq (k := 688) 1292 rfl (by decide) ?_ ?_
              · refine tw_lconst (k := 691) (0 : Int64) rfl (by decide) ?_
                exact g164 (0 : Int64)
              · refine tw_lconst (k := 689) (1 : Int64) rfl (by decide) ?_
                refine tw_goto (k := 690) 1293 rfl (by decide) ?_
                exact g164 (1 : Int64)
      · refine tw_iconst (k := 680) (0 : Int32) rfl (by decide) ?_
        exact tw_zreturn (k := 681) rfl rfl (by omega) (by omega)
    · refine tw_if_eq (k := 670) 1258 rfl (by decide) ?_ ?_
      · refine tw_iconst (k := 673) (0 : Int32) rfl (by decide) ?_
        exact g157 (0 : Int32)
      · refine tw_iconst (k := 671) (1 : Int32) rfl (by decide) ?_
        refine tw_goto (k := 672) 1259 rfl (by decide) ?_
        exact g157 (1 : Int32)
  · refine tw_if_eq (k := 652) 1231 rfl (by decide) ?_ ?_
    · refine tw_iconst (k := 655) (0 : Int32) rfl (by decide) ?_
      exact g152 (0 : Int32)
    · refine tw_iconst (k := 653) (1 : Int32) rfl (by decide) ?_
      refine tw_goto (k := 654) 1232 rfl (by decide) ?_
      exact g152 (1 : Int32)
def f_Lc17 (a0 b1 b3 b5 : Nat) (s7 : Int32) (j10 : Unit → tw_Mem → Prop) (k : Int32 → tw_Mem → Prop) : tw_Mem → Prop :=
  tw_li a0 (s7 + (1 : Int32)) fun x166 => tw_li a0 (s7 + (2 : Int32)) fun x167 => f_L_move b1 x166 x167 b5 (fun x168 => tw_li a0 (s7 + (1 : Int32)) fun x169 => tw_li a0 (s7 + (2 : Int32)) fun x170 => tw_iv 11 b3 (f_X12_move b3 x169 x170 (fun x171 => tw_iv 11 b3 (f_X12_thrown b3 (fun x172 => tw_if (x172 = x168) (tw_jn (fun (s174 : Unit) => j10 ()) (fun j173 => tw_if (x168 = 0) (tw_ll b5 (0 : Int32) fun x175 => tw_if ((lg_cmp x175 (x171.toInt64)) = 0) (j173 ()) (tw_rz (0 : Int32) (k (0 : Int32)))) (j173 ()))) (tw_rz (0 : Int32) (k (0 : Int32))))))))
set_option maxHeartbeats 4000000 in
set_option maxRecDepth 100000 in
theorem C_Lc17 {g : tw_Gx} {Q : tw_Rs → tw_Mem → Prop} (a0 b1 b3 b5 : Nat) (s7 : Int32) (hP7 : s7.toNatClampNeg ≤ 3072) (j10 : Unit → tw_Mem → Prop) (g10 : ∀ z : Unit, tw_C g mL_law_ 1300 601024 7293034 Q 2993 [some (.ref a0), some (.ref b1), some (.ref b3), some (.ref b5), some (.int s7), none, none] [] (182 + s7.toNatClampNeg + 6) (20089 + 300 * s7.toNatClampNeg + 1626) (j10 z)) : tw_C g mL_law_ 1300 601024 7293034 Q 1302 [some (.ref a0), some (.ref b1), some (.ref b3), some (.ref b5), some (.int s7), none, none] [] (182 + s7.toNatClampNeg + 0) (20089 + 300 * s7.toNatClampNeg + 0) (f_Lc17 a0 b1 b3 b5 s7 j10 (fun v => Q (.inl (some (.int v))))) := by
  unfold f_Lc17
  refine tw_aload_n (k := 697) rfl rfl ?_
  refine tw_aload_n (k := 698) rfl rfl ?_
  refine tw_iload (k := 699) rfl rfl ?_
  refine tw_iconst (k := 700) (1 : Int32) rfl (by decide) ?_
  refine tw_iadd (k := 701) rfl ?_
  refine tw_iaload (k := 702) rfl (fun x166 => ?_)
  refine tw_aload_n (k := 703) rfl rfl ?_
  refine tw_iload (k := 704) rfl rfl ?_
  refine tw_iconst (k := 705) (2 : Int32) rfl (by decide) ?_
  refine tw_iadd (k := 706) rfl ?_
  refine tw_iaload (k := 707) rfl (fun x167 => ?_)
  refine tw_aload_n (k := 708) rfl rfl ?_
  refine tw_callSW (k := 709) (d' := 8) (mc' := 2) (ms' := 12) tw_cI tw_cIi [.ref b1, .int x166, .int x167, .ref b5] rfl rfl wx_RL_202_L_move mo_L_move rfl (fun Q9 => K_L_move Q9 b1 x166 x167 b5) (by omega) (by omega) (by omega) (Nat.le_of_ble_eq_true rfl) (fun x168 => ?_)
  refine tw_ist (k := 710) [some (.ref a0), some (.ref b1), some (.ref b3), some (.ref b5), some (.int s7), some (.int x168), none] rfl (Nat.le_of_ble_eq_true rfl) rfl rfl ?_
  refine tw_aload_n (k := 711) rfl rfl ?_
  refine tw_aload_n (k := 712) rfl rfl ?_
  refine tw_iload (k := 713) rfl rfl ?_
  refine tw_iconst (k := 714) (1 : Int32) rfl (by decide) ?_
  refine tw_iadd (k := 715) rfl ?_
  refine tw_iaload (k := 716) rfl (fun x169 => ?_)
  refine tw_aload_n (k := 717) rfl rfl ?_
  refine tw_iload (k := 718) rfl rfl ?_
  refine tw_iconst (k := 719) (2 : Int32) rfl (by decide) ?_
  refine tw_iadd (k := 720) rfl ?_
  refine tw_iaload (k := 721) rfl (fun x170 => ?_)
  refine tw_callV (k := 722) (d' := 3) (mc' := 0) (ms' := 0) tw_cI tw_cIi [.int x169, .int x170] rfl rfl wv_RL_204_X12_move mo_X12_move (t := 11) rfl rfl rfl (fun Q9 => K_X12_move Q9 b3 x169 x170) (by omega) (by omega) (by omega) (Nat.le_of_ble_eq_true rfl) (fun x171 => ?_)
  refine tw_ist (k := 723) [some (.ref a0), some (.ref b1), some (.ref b3), some (.ref b5), some (.int s7), some (.int x168), some (.int x171)] rfl (Nat.le_of_ble_eq_true rfl) rfl rfl ?_
  refine tw_aload_n (k := 724) rfl rfl ?_
  refine tw_callV (k := 725) (d' := 1) (mc' := 0) (ms' := 0) tw_cI tw_cIi [] rfl rfl wv_RL_152_X12_thrown mo_X12_thrown (t := 11) rfl rfl rfl (fun Q9 => K_X12_thrown Q9 b3) (by omega) (by omega) (by omega) (Nat.le_of_ble_eq_true rfl) (fun x172 => ?_)
  refine tw_iload (k := 726) rfl rfl ?_
  refine tw_icmp_eq (k := 727) 1350 rfl (by decide) ?_ ?_
  · refine tw_iload (k := 730) rfl rfl ?_
    refine tw_join 1367 (fun s174 => [some (.ref a0), some (.ref b1), some (.ref b3), some (.ref b5), some (.int s7), some (.int x168), some (.int x171)]) (fun s174 => []) (182 + s7.toNatClampNeg + 2) (20089 + 300 * s7.toNatClampNeg + 12) (fun s174 => ?_) (fun j173 g173 => ?_)
    · refine tw_goto (k := 741) 2993 rfl (by decide) ?_
      refine tw_wide (k2 := (182 + s7.toNatClampNeg + 6)) (s2 := (20089 + 300 * s7.toNatClampNeg + 1626)) (by omega) (by omega) ?_
      exact tw_wk (L' := [some (.ref a0), some (.ref b1), some (.ref b3), some (.ref b5), some (.int s7), none, none]) ⟨Or.inr rfl, Or.inr rfl, Or.inr rfl, Or.inr rfl, Or.inr rfl, Or.inl rfl, Or.inl rfl, trivial⟩ (g10 ())
    · refine tw_if_ne (k := 731) 1367 rfl (by decide) ?_ ?_
      · exact g173 ()
      · refine tw_aload_n (k := 732) rfl rfl ?_
        refine tw_iconst (k := 733) (0 : Int32) rfl (by decide) ?_
        refine tw_laload (k := 734) rfl (fun x175 => ?_)
        refine tw_iload (k := 735) rfl rfl ?_
        refine tw_i2l (k := 736) rfl ?_
        refine tw_lcmp (k := 737) rfl ?_
        refine tw_if_eq (k := 738) 1367 rfl (by decide) ?_ ?_
        · exact g173 ()
        · refine tw_iconst (k := 739) (0 : Int32) rfl (by decide) ?_
          exact tw_zreturn (k := 740) rfl rfl (by omega) (by omega)
  · refine tw_iconst (k := 728) (0 : Int32) rfl (by decide) ?_
    exact tw_zreturn (k := 729) rfl rfl (by omega) (by omega)
def f_Lc18 (a0 b1 b3 b5 : Nat) (s7 : Int32) (j10 : Unit → tw_Mem → Prop) (k : Int32 → tw_Mem → Prop) : tw_Mem → Prop :=
  tw_li a0 (s7 + (1 : Int32)) fun x176 => tw_li a0 (s7 + (2 : Int32)) fun x177 => tw_li a0 (s7 + (3 : Int32)) fun x178 => f_L_guess b1 x176 x177 x178 b5 (fun x179 => tw_li a0 (s7 + (1 : Int32)) fun x180 => tw_li a0 (s7 + (2 : Int32)) fun x181 => tw_li a0 (s7 + (3 : Int32)) fun x182 => tw_iv 11 b3 (f_X12_guess b3 x180 x181 x182 (fun x183 => tw_iv 11 b3 (f_X12_thrown b3 (fun x184 => tw_if (x184 = x179) (tw_jn (fun (s186 : Unit) => j10 ()) (fun j185 => tw_if (x179 = 0) (tw_ll b5 (0 : Int32) fun x187 => tw_if ((lg_cmp x187 (x183.toInt64)) = 0) (j185 ()) (tw_rz (0 : Int32) (k (0 : Int32)))) (j185 ()))) (tw_rz (0 : Int32) (k (0 : Int32))))))))
set_option maxHeartbeats 4000000 in
set_option maxRecDepth 100000 in
theorem C_Lc18 {g : tw_Gx} {Q : tw_Rs → tw_Mem → Prop} (a0 b1 b3 b5 : Nat) (s7 : Int32) (hP7 : s7.toNatClampNeg ≤ 3072) (j10 : Unit → tw_Mem → Prop) (g10 : ∀ z : Unit, tw_C g mL_law_ 1300 601024 7293034 Q 2993 [some (.ref a0), some (.ref b1), some (.ref b3), some (.ref b5), some (.int s7), none, none] [] (182 + s7.toNatClampNeg + 6) (20089 + 300 * s7.toNatClampNeg + 1626) (j10 z)) : tw_C g mL_law_ 1300 601024 7293034 Q 1370 [some (.ref a0), some (.ref b1), some (.ref b3), some (.ref b5), some (.int s7), none, none] [] (182 + s7.toNatClampNeg + 0) (20089 + 300 * s7.toNatClampNeg + 0) (f_Lc18 a0 b1 b3 b5 s7 j10 (fun v => Q (.inl (some (.int v))))) := by
  unfold f_Lc18
  refine tw_aload_n (k := 742) rfl rfl ?_
  refine tw_aload_n (k := 743) rfl rfl ?_
  refine tw_iload (k := 744) rfl rfl ?_
  refine tw_iconst (k := 745) (1 : Int32) rfl (by decide) ?_
  refine tw_iadd (k := 746) rfl ?_
  refine tw_iaload (k := 747) rfl (fun x176 => ?_)
  refine tw_aload_n (k := 748) rfl rfl ?_
  refine tw_iload (k := 749) rfl rfl ?_
  refine tw_iconst (k := 750) (2 : Int32) rfl (by decide) ?_
  refine tw_iadd (k := 751) rfl ?_
  refine tw_iaload (k := 752) rfl (fun x177 => ?_)
  refine tw_aload_n (k := 753) rfl rfl ?_
  refine tw_iload (k := 754) rfl rfl ?_
  refine tw_iconst (k := 755) (3 : Int32) rfl (by decide) ?_
  refine tw_iadd (k := 756) rfl ?_
  refine tw_iaload (k := 757) rfl (fun x178 => ?_)
  refine tw_aload_n (k := 758) rfl rfl ?_
  refine tw_callSW (k := 759) (d' := 9) (mc' := 4) (ms' := 24) tw_cI tw_cIi [.ref b1, .int x176, .int x177, .int x178, .ref b5] rfl rfl wx_RL_205_L_guess mo_L_guess rfl (fun Q9 => K_L_guess Q9 b1 x176 x177 x178 b5) (by omega) (by omega) (by omega) (Nat.le_of_ble_eq_true rfl) (fun x179 => ?_)
  refine tw_ist (k := 760) [some (.ref a0), some (.ref b1), some (.ref b3), some (.ref b5), some (.int s7), some (.int x179), none] rfl (Nat.le_of_ble_eq_true rfl) rfl rfl ?_
  refine tw_aload_n (k := 761) rfl rfl ?_
  refine tw_aload_n (k := 762) rfl rfl ?_
  refine tw_iload (k := 763) rfl rfl ?_
  refine tw_iconst (k := 764) (1 : Int32) rfl (by decide) ?_
  refine tw_iadd (k := 765) rfl ?_
  refine tw_iaload (k := 766) rfl (fun x180 => ?_)
  refine tw_aload_n (k := 767) rfl rfl ?_
  refine tw_iload (k := 768) rfl rfl ?_
  refine tw_iconst (k := 769) (2 : Int32) rfl (by decide) ?_
  refine tw_iadd (k := 770) rfl ?_
  refine tw_iaload (k := 771) rfl (fun x181 => ?_)
  refine tw_aload_n (k := 772) rfl rfl ?_
  refine tw_iload (k := 773) rfl rfl ?_
  refine tw_iconst (k := 774) (3 : Int32) rfl (by decide) ?_
  refine tw_iadd (k := 775) rfl ?_
  refine tw_iaload (k := 776) rfl (fun x182 => ?_)
  refine tw_callV (k := 777) (d' := 4) (mc' := 0) (ms' := 0) tw_cI tw_cIi [.int x180, .int x181, .int x182] rfl rfl wv_RL_207_X12_guess mo_X12_guess (t := 11) rfl rfl rfl (fun Q9 => K_X12_guess Q9 b3 x180 x181 x182) (by omega) (by omega) (by omega) (Nat.le_of_ble_eq_true rfl) (fun x183 => ?_)
  refine tw_ist (k := 778) [some (.ref a0), some (.ref b1), some (.ref b3), some (.ref b5), some (.int s7), some (.int x179), some (.int x183)] rfl (Nat.le_of_ble_eq_true rfl) rfl rfl ?_
  refine tw_aload_n (k := 779) rfl rfl ?_
  refine tw_callV (k := 780) (d' := 1) (mc' := 0) (ms' := 0) tw_cI tw_cIi [] rfl rfl wv_RL_152_X12_thrown mo_X12_thrown (t := 11) rfl rfl rfl (fun Q9 => K_X12_thrown Q9 b3) (by omega) (by omega) (by omega) (Nat.le_of_ble_eq_true rfl) (fun x184 => ?_)
  refine tw_iload (k := 781) rfl rfl ?_
  refine tw_icmp_eq (k := 782) 1430 rfl (by decide) ?_ ?_
  · refine tw_iload (k := 785) rfl rfl ?_
    refine tw_join 1447 (fun s186 => [some (.ref a0), some (.ref b1), some (.ref b3), some (.ref b5), some (.int s7), some (.int x179), some (.int x183)]) (fun s186 => []) (182 + s7.toNatClampNeg + 4) (20089 + 300 * s7.toNatClampNeg + 24) (fun s186 => ?_) (fun j185 g185 => ?_)
    · refine tw_goto (k := 796) 2993 rfl (by decide) ?_
      refine tw_wide (k2 := (182 + s7.toNatClampNeg + 6)) (s2 := (20089 + 300 * s7.toNatClampNeg + 1626)) (by omega) (by omega) ?_
      exact tw_wk (L' := [some (.ref a0), some (.ref b1), some (.ref b3), some (.ref b5), some (.int s7), none, none]) ⟨Or.inr rfl, Or.inr rfl, Or.inr rfl, Or.inr rfl, Or.inr rfl, Or.inl rfl, Or.inl rfl, trivial⟩ (g10 ())
    · refine tw_if_ne (k := 786) 1447 rfl (by decide) ?_ ?_
      · exact g185 ()
      · refine tw_aload_n (k := 787) rfl rfl ?_
        refine tw_iconst (k := 788) (0 : Int32) rfl (by decide) ?_
        refine tw_laload (k := 789) rfl (fun x187 => ?_)
        refine tw_iload (k := 790) rfl rfl ?_
        refine tw_i2l (k := 791) rfl ?_
        refine tw_lcmp (k := 792) rfl ?_
        refine tw_if_eq (k := 793) 1447 rfl (by decide) ?_ ?_
        · exact g185 ()
        · refine tw_iconst (k := 794) (0 : Int32) rfl (by decide) ?_
          exact tw_zreturn (k := 795) rfl rfl (by omega) (by omega)
  · refine tw_iconst (k := 783) (0 : Int32) rfl (by decide) ?_
    exact tw_zreturn (k := 784) rfl rfl (by omega) (by omega)
def f_Lc19 (a0 b1 b3 b5 : Nat) (s7 : Int32) (j10 : Unit → tw_Mem → Prop) (k : Int32 → tw_Mem → Prop) : tw_Mem → Prop :=
  tw_li a0 (s7 + (1 : Int32)) fun x188 => f_L_forget b1 x188 b5 (fun x189 => tw_li a0 (s7 + (1 : Int32)) fun x190 => tw_iv 11 b3 (f_X12_forget b3 x190 (fun x191 => tw_iv 11 b3 (f_X12_thrown b3 (fun x192 => tw_if (x192 = x189) (tw_jn (fun (s194 : Unit) => j10 ()) (fun j193 => tw_if (x189 = 0) (tw_ll b5 (0 : Int32) fun x195 => tw_if ((lg_cmp x195 (x191.toInt64)) = 0) (j193 ()) (tw_rz (0 : Int32) (k (0 : Int32)))) (j193 ()))) (tw_rz (0 : Int32) (k (0 : Int32))))))))
set_option maxHeartbeats 4000000 in
set_option maxRecDepth 100000 in
theorem C_Lc19 {g : tw_Gx} {Q : tw_Rs → tw_Mem → Prop} (a0 b1 b3 b5 : Nat) (s7 : Int32) (hP7 : s7.toNatClampNeg ≤ 3072) (j10 : Unit → tw_Mem → Prop) (g10 : ∀ z : Unit, tw_C g mL_law_ 1300 601024 7293034 Q 2993 [some (.ref a0), some (.ref b1), some (.ref b3), some (.ref b5), some (.int s7), none, none] [] (182 + s7.toNatClampNeg + 6) (20089 + 300 * s7.toNatClampNeg + 1626) (j10 z)) : tw_C g mL_law_ 1300 601024 7293034 Q 1450 [some (.ref a0), some (.ref b1), some (.ref b3), some (.ref b5), some (.int s7), none, none] [] (182 + s7.toNatClampNeg + 0) (20089 + 300 * s7.toNatClampNeg + 0) (f_Lc19 a0 b1 b3 b5 s7 j10 (fun v => Q (.inl (some (.int v))))) := by
  unfold f_Lc19
  refine tw_aload_n (k := 797) rfl rfl ?_
  refine tw_aload_n (k := 798) rfl rfl ?_
  refine tw_iload (k := 799) rfl rfl ?_
  refine tw_iconst (k := 800) (1 : Int32) rfl (by decide) ?_
  refine tw_iadd (k := 801) rfl ?_
  refine tw_iaload (k := 802) rfl (fun x188 => ?_)
  refine tw_aload_n (k := 803) rfl rfl ?_
  refine tw_callSW (k := 804) (d' := 8) (mc' := 1) (ms' := 6) tw_cI tw_cIi [.ref b1, .int x188, .ref b5] rfl rfl wx_RL_208_L_forget mo_L_forget rfl (fun Q9 => K_L_forget Q9 b1 x188 b5) (by omega) (by omega) (by omega) (Nat.le_of_ble_eq_true rfl) (fun x189 => ?_)
  refine tw_ist (k := 805) [some (.ref a0), some (.ref b1), some (.ref b3), some (.ref b5), some (.int s7), some (.int x189), none] rfl (Nat.le_of_ble_eq_true rfl) rfl rfl ?_
  refine tw_aload_n (k := 806) rfl rfl ?_
  refine tw_aload_n (k := 807) rfl rfl ?_
  refine tw_iload (k := 808) rfl rfl ?_
  refine tw_iconst (k := 809) (1 : Int32) rfl (by decide) ?_
  refine tw_iadd (k := 810) rfl ?_
  refine tw_iaload (k := 811) rfl (fun x190 => ?_)
  refine tw_callV (k := 812) (d' := 4) (mc' := 0) (ms' := 0) tw_cI tw_cIi [.int x190] rfl rfl wv_RL_210_X12_forget mo_X12_forget (t := 11) rfl rfl rfl (fun Q9 => K_X12_forget Q9 b3 x190) (by omega) (by omega) (by omega) (Nat.le_of_ble_eq_true rfl) (fun x191 => ?_)
  refine tw_ist (k := 813) [some (.ref a0), some (.ref b1), some (.ref b3), some (.ref b5), some (.int s7), some (.int x189), some (.int x191)] rfl (Nat.le_of_ble_eq_true rfl) rfl rfl ?_
  refine tw_aload_n (k := 814) rfl rfl ?_
  refine tw_callV (k := 815) (d' := 1) (mc' := 0) (ms' := 0) tw_cI tw_cIi [] rfl rfl wv_RL_152_X12_thrown mo_X12_thrown (t := 11) rfl rfl rfl (fun Q9 => K_X12_thrown Q9 b3) (by omega) (by omega) (by omega) (Nat.le_of_ble_eq_true rfl) (fun x192 => ?_)
  refine tw_iload (k := 816) rfl rfl ?_
  refine tw_icmp_eq (k := 817) 1486 rfl (by decide) ?_ ?_
  · refine tw_iload (k := 820) rfl rfl ?_
    refine tw_join 1503 (fun s194 => [some (.ref a0), some (.ref b1), some (.ref b3), some (.ref b5), some (.int s7), some (.int x189), some (.int x191)]) (fun s194 => []) (182 + s7.toNatClampNeg + 1) (20089 + 300 * s7.toNatClampNeg + 6) (fun s194 => ?_) (fun j193 g193 => ?_)
    · refine tw_goto (k := 831) 2993 rfl (by decide) ?_
      refine tw_wide (k2 := (182 + s7.toNatClampNeg + 6)) (s2 := (20089 + 300 * s7.toNatClampNeg + 1626)) (by omega) (by omega) ?_
      exact tw_wk (L' := [some (.ref a0), some (.ref b1), some (.ref b3), some (.ref b5), some (.int s7), none, none]) ⟨Or.inr rfl, Or.inr rfl, Or.inr rfl, Or.inr rfl, Or.inr rfl, Or.inl rfl, Or.inl rfl, trivial⟩ (g10 ())
    · refine tw_if_ne (k := 821) 1503 rfl (by decide) ?_ ?_
      · exact g193 ()
      · refine tw_aload_n (k := 822) rfl rfl ?_
        refine tw_iconst (k := 823) (0 : Int32) rfl (by decide) ?_
        refine tw_laload (k := 824) rfl (fun x195 => ?_)
        refine tw_iload (k := 825) rfl rfl ?_
        refine tw_i2l (k := 826) rfl ?_
        refine tw_lcmp (k := 827) rfl ?_
        refine tw_if_eq (k := 828) 1503 rfl (by decide) ?_ ?_
        · exact g193 ()
        · refine tw_iconst (k := 829) (0 : Int32) rfl (by decide) ?_
          exact tw_zreturn (k := 830) rfl rfl (by omega) (by omega)
  · refine tw_iconst (k := 818) (0 : Int32) rfl (by decide) ?_
    exact tw_zreturn (k := 819) rfl rfl (by omega) (by omega)
def f_Lc20 (a0 b1 b3 b5 : Nat) (s7 : Int32) (j10 : Unit → tw_Mem → Prop) (k : Int32 → tw_Mem → Prop) : tw_Mem → Prop :=
  tw_li a0 (s7 + (1 : Int32)) fun x196 => f_L_hours b1 x196 b5 (fun x197 => tw_li a0 (s7 + (1 : Int32)) fun x198 => tw_iv 11 b3 (f_X12_hours b3 x198 (fun x199 => tw_iv 11 b3 (f_X12_thrown b3 (fun x200 => tw_if (x200 = x197) (tw_jn (fun (s202 : Unit) => j10 ()) (fun j201 => tw_if (x197 = 0) (tw_ll b5 (0 : Int32) fun x203 => tw_if ((lg_cmp x203 (x199.toInt64)) = 0) (j201 ()) (tw_rz (0 : Int32) (k (0 : Int32)))) (j201 ()))) (tw_rz (0 : Int32) (k (0 : Int32))))))))
set_option maxHeartbeats 4000000 in
set_option maxRecDepth 100000 in
theorem C_Lc20 {g : tw_Gx} {Q : tw_Rs → tw_Mem → Prop} (a0 b1 b3 b5 : Nat) (s7 : Int32) (hP7 : s7.toNatClampNeg ≤ 3072) (j10 : Unit → tw_Mem → Prop) (g10 : ∀ z : Unit, tw_C g mL_law_ 1300 601024 7293034 Q 2993 [some (.ref a0), some (.ref b1), some (.ref b3), some (.ref b5), some (.int s7), none, none] [] (182 + s7.toNatClampNeg + 6) (20089 + 300 * s7.toNatClampNeg + 1626) (j10 z)) : tw_C g mL_law_ 1300 601024 7293034 Q 1506 [some (.ref a0), some (.ref b1), some (.ref b3), some (.ref b5), some (.int s7), none, none] [] (182 + s7.toNatClampNeg + 0) (20089 + 300 * s7.toNatClampNeg + 0) (f_Lc20 a0 b1 b3 b5 s7 j10 (fun v => Q (.inl (some (.int v))))) := by
  unfold f_Lc20
  refine tw_aload_n (k := 832) rfl rfl ?_
  refine tw_aload_n (k := 833) rfl rfl ?_
  refine tw_iload (k := 834) rfl rfl ?_
  refine tw_iconst (k := 835) (1 : Int32) rfl (by decide) ?_
  refine tw_iadd (k := 836) rfl ?_
  refine tw_iaload (k := 837) rfl (fun x196 => ?_)
  refine tw_aload_n (k := 838) rfl rfl ?_
  refine tw_callSW (k := 839) (d' := 9) (mc' := 1) (ms' := 6) tw_cI tw_cIi [.ref b1, .int x196, .ref b5] rfl rfl wx_RL_211_L_hours mo_L_hours rfl (fun Q9 => K_L_hours Q9 b1 x196 b5) (by omega) (by omega) (by omega) (Nat.le_of_ble_eq_true rfl) (fun x197 => ?_)
  refine tw_ist (k := 840) [some (.ref a0), some (.ref b1), some (.ref b3), some (.ref b5), some (.int s7), some (.int x197), none] rfl (Nat.le_of_ble_eq_true rfl) rfl rfl ?_
  refine tw_aload_n (k := 841) rfl rfl ?_
  refine tw_aload_n (k := 842) rfl rfl ?_
  refine tw_iload (k := 843) rfl rfl ?_
  refine tw_iconst (k := 844) (1 : Int32) rfl (by decide) ?_
  refine tw_iadd (k := 845) rfl ?_
  refine tw_iaload (k := 846) rfl (fun x198 => ?_)
  refine tw_callV (k := 847) (d' := 13) (mc' := 0) (ms' := 0) tw_cI tw_cIi [.int x198] rfl rfl wv_RL_213_X12_hours mo_X12_hours (t := 11) rfl rfl rfl (fun Q9 => K_X12_hours Q9 b3 x198) (by omega) (by omega) (by omega) (Nat.le_of_ble_eq_true rfl) (fun x199 => ?_)
  refine tw_ist (k := 848) [some (.ref a0), some (.ref b1), some (.ref b3), some (.ref b5), some (.int s7), some (.int x197), some (.int x199)] rfl (Nat.le_of_ble_eq_true rfl) rfl rfl ?_
  refine tw_aload_n (k := 849) rfl rfl ?_
  refine tw_callV (k := 850) (d' := 1) (mc' := 0) (ms' := 0) tw_cI tw_cIi [] rfl rfl wv_RL_152_X12_thrown mo_X12_thrown (t := 11) rfl rfl rfl (fun Q9 => K_X12_thrown Q9 b3) (by omega) (by omega) (by omega) (Nat.le_of_ble_eq_true rfl) (fun x200 => ?_)
  refine tw_iload (k := 851) rfl rfl ?_
  refine tw_icmp_eq (k := 852) 1542 rfl (by decide) ?_ ?_
  · refine tw_iload (k := 855) rfl rfl ?_
    refine tw_join 1559 (fun s202 => [some (.ref a0), some (.ref b1), some (.ref b3), some (.ref b5), some (.int s7), some (.int x197), some (.int x199)]) (fun s202 => []) (182 + s7.toNatClampNeg + 1) (20089 + 300 * s7.toNatClampNeg + 6) (fun s202 => ?_) (fun j201 g201 => ?_)
    · refine tw_goto (k := 866) 2993 rfl (by decide) ?_
      refine tw_wide (k2 := (182 + s7.toNatClampNeg + 6)) (s2 := (20089 + 300 * s7.toNatClampNeg + 1626)) (by omega) (by omega) ?_
      exact tw_wk (L' := [some (.ref a0), some (.ref b1), some (.ref b3), some (.ref b5), some (.int s7), none, none]) ⟨Or.inr rfl, Or.inr rfl, Or.inr rfl, Or.inr rfl, Or.inr rfl, Or.inl rfl, Or.inl rfl, trivial⟩ (g10 ())
    · refine tw_if_ne (k := 856) 1559 rfl (by decide) ?_ ?_
      · exact g201 ()
      · refine tw_aload_n (k := 857) rfl rfl ?_
        refine tw_iconst (k := 858) (0 : Int32) rfl (by decide) ?_
        refine tw_laload (k := 859) rfl (fun x203 => ?_)
        refine tw_iload (k := 860) rfl rfl ?_
        refine tw_i2l (k := 861) rfl ?_
        refine tw_lcmp (k := 862) rfl ?_
        refine tw_if_eq (k := 863) 1559 rfl (by decide) ?_ ?_
        · exact g201 ()
        · refine tw_iconst (k := 864) (0 : Int32) rfl (by decide) ?_
          exact tw_zreturn (k := 865) rfl rfl (by omega) (by omega)
  · refine tw_iconst (k := 853) (0 : Int32) rfl (by decide) ?_
    exact tw_zreturn (k := 854) rfl rfl (by omega) (by omega)
def f_Lc21 (a0 b1 b3 b5 : Nat) (s7 : Int32) (j10 : Unit → tw_Mem → Prop) (k : Int32 → tw_Mem → Prop) : tw_Mem → Prop :=
  tw_li a0 (s7 + (1 : Int32)) fun x204 => f_L_chimes b1 x204 b5 (fun x205 => tw_li a0 (s7 + (1 : Int32)) fun x206 => tw_iv 11 b3 (f_X12_chimes b3 x206 (fun x207 => tw_iv 11 b3 (f_X12_thrown b3 (fun x208 => tw_if (x208 = x205) (tw_jn (fun (s210 : Unit) => j10 ()) (fun j209 => tw_if (x205 = 0) (tw_ll b5 (0 : Int32) fun x211 => tw_if ((lg_cmp x211 (x207.toInt64)) = 0) (j209 ()) (tw_rz (0 : Int32) (k (0 : Int32)))) (j209 ()))) (tw_rz (0 : Int32) (k (0 : Int32))))))))
set_option maxHeartbeats 4000000 in
set_option maxRecDepth 100000 in
theorem C_Lc21 {g : tw_Gx} {Q : tw_Rs → tw_Mem → Prop} (a0 b1 b3 b5 : Nat) (s7 : Int32) (hP7 : s7.toNatClampNeg ≤ 3072) (j10 : Unit → tw_Mem → Prop) (g10 : ∀ z : Unit, tw_C g mL_law_ 1300 601024 7293034 Q 2993 [some (.ref a0), some (.ref b1), some (.ref b3), some (.ref b5), some (.int s7), none, none] [] (182 + s7.toNatClampNeg + 6) (20089 + 300 * s7.toNatClampNeg + 1626) (j10 z)) : tw_C g mL_law_ 1300 601024 7293034 Q 1562 [some (.ref a0), some (.ref b1), some (.ref b3), some (.ref b5), some (.int s7), none, none] [] (182 + s7.toNatClampNeg + 0) (20089 + 300 * s7.toNatClampNeg + 0) (f_Lc21 a0 b1 b3 b5 s7 j10 (fun v => Q (.inl (some (.int v))))) := by
  unfold f_Lc21
  refine tw_aload_n (k := 867) rfl rfl ?_
  refine tw_aload_n (k := 868) rfl rfl ?_
  refine tw_iload (k := 869) rfl rfl ?_
  refine tw_iconst (k := 870) (1 : Int32) rfl (by decide) ?_
  refine tw_iadd (k := 871) rfl ?_
  refine tw_iaload (k := 872) rfl (fun x204 => ?_)
  refine tw_aload_n (k := 873) rfl rfl ?_
  refine tw_callSW (k := 874) (d' := 9) (mc' := 1) (ms' := 6) tw_cI tw_cIi [.ref b1, .int x204, .ref b5] rfl rfl wx_RL_214_L_chimes mo_L_chimes rfl (fun Q9 => K_L_chimes Q9 b1 x204 b5) (by omega) (by omega) (by omega) (Nat.le_of_ble_eq_true rfl) (fun x205 => ?_)
  refine tw_ist (k := 875) [some (.ref a0), some (.ref b1), some (.ref b3), some (.ref b5), some (.int s7), some (.int x205), none] rfl (Nat.le_of_ble_eq_true rfl) rfl rfl ?_
  refine tw_aload_n (k := 876) rfl rfl ?_
  refine tw_aload_n (k := 877) rfl rfl ?_
  refine tw_iload (k := 878) rfl rfl ?_
  refine tw_iconst (k := 879) (1 : Int32) rfl (by decide) ?_
  refine tw_iadd (k := 880) rfl ?_
  refine tw_iaload (k := 881) rfl (fun x206 => ?_)
  refine tw_callV (k := 882) (d' := 13) (mc' := 0) (ms' := 0) tw_cI tw_cIi [.int x206] rfl rfl wv_RL_216_X12_chimes mo_X12_chimes (t := 11) rfl rfl rfl (fun Q9 => K_X12_chimes Q9 b3 x206) (by omega) (by omega) (by omega) (Nat.le_of_ble_eq_true rfl) (fun x207 => ?_)
  refine tw_ist (k := 883) [some (.ref a0), some (.ref b1), some (.ref b3), some (.ref b5), some (.int s7), some (.int x205), some (.int x207)] rfl (Nat.le_of_ble_eq_true rfl) rfl rfl ?_
  refine tw_aload_n (k := 884) rfl rfl ?_
  refine tw_callV (k := 885) (d' := 1) (mc' := 0) (ms' := 0) tw_cI tw_cIi [] rfl rfl wv_RL_152_X12_thrown mo_X12_thrown (t := 11) rfl rfl rfl (fun Q9 => K_X12_thrown Q9 b3) (by omega) (by omega) (by omega) (Nat.le_of_ble_eq_true rfl) (fun x208 => ?_)
  refine tw_iload (k := 886) rfl rfl ?_
  refine tw_icmp_eq (k := 887) 1598 rfl (by decide) ?_ ?_
  · refine tw_iload (k := 890) rfl rfl ?_
    refine tw_join 1615 (fun s210 => [some (.ref a0), some (.ref b1), some (.ref b3), some (.ref b5), some (.int s7), some (.int x205), some (.int x207)]) (fun s210 => []) (182 + s7.toNatClampNeg + 1) (20089 + 300 * s7.toNatClampNeg + 6) (fun s210 => ?_) (fun j209 g209 => ?_)
    · refine tw_goto (k := 901) 2993 rfl (by decide) ?_
      refine tw_wide (k2 := (182 + s7.toNatClampNeg + 6)) (s2 := (20089 + 300 * s7.toNatClampNeg + 1626)) (by omega) (by omega) ?_
      exact tw_wk (L' := [some (.ref a0), some (.ref b1), some (.ref b3), some (.ref b5), some (.int s7), none, none]) ⟨Or.inr rfl, Or.inr rfl, Or.inr rfl, Or.inr rfl, Or.inr rfl, Or.inl rfl, Or.inl rfl, trivial⟩ (g10 ())
    · refine tw_if_ne (k := 891) 1615 rfl (by decide) ?_ ?_
      · exact g209 ()
      · refine tw_aload_n (k := 892) rfl rfl ?_
        refine tw_iconst (k := 893) (0 : Int32) rfl (by decide) ?_
        refine tw_laload (k := 894) rfl (fun x211 => ?_)
        refine tw_iload (k := 895) rfl rfl ?_
        refine tw_i2l (k := 896) rfl ?_
        refine tw_lcmp (k := 897) rfl ?_
        refine tw_if_eq (k := 898) 1615 rfl (by decide) ?_ ?_
        · exact g209 ()
        · refine tw_iconst (k := 899) (0 : Int32) rfl (by decide) ?_
          exact tw_zreturn (k := 900) rfl rfl (by omega) (by omega)
  · refine tw_iconst (k := 888) (0 : Int32) rfl (by decide) ?_
    exact tw_zreturn (k := 889) rfl rfl (by omega) (by omega)
def f_Lc22 (a0 b1 b3 b5 : Nat) (s7 : Int32) (j10 : Unit → tw_Mem → Prop) (k : Int32 → tw_Mem → Prop) : tw_Mem → Prop :=
  tw_li a0 (s7 + (1 : Int32)) fun x212 => tw_li a0 (s7 + (2 : Int32)) fun x213 => f_L_lasts b1 x212 x213 b5 (fun x214 => tw_li a0 (s7 + (1 : Int32)) fun x215 => tw_li a0 (s7 + (2 : Int32)) fun x216 => tw_iv 11 b3 (f_X12_lasts b3 x215 x216 (fun x217 => tw_iv 11 b3 (f_X12_thrown b3 (fun x218 => tw_if (x218 = x214) (tw_jn (fun (s220 : Unit) => j10 ()) (fun j219 => tw_if (x214 = 0) (tw_ll b5 (0 : Int32) fun x221 => tw_if ((lg_cmp x221 (x217.toInt64)) = 0) (j219 ()) (tw_rz (0 : Int32) (k (0 : Int32)))) (j219 ()))) (tw_rz (0 : Int32) (k (0 : Int32))))))))
set_option maxHeartbeats 4000000 in
set_option maxRecDepth 100000 in
theorem C_Lc22 {g : tw_Gx} {Q : tw_Rs → tw_Mem → Prop} (a0 b1 b3 b5 : Nat) (s7 : Int32) (hP7 : s7.toNatClampNeg ≤ 3072) (j10 : Unit → tw_Mem → Prop) (g10 : ∀ z : Unit, tw_C g mL_law_ 1300 601024 7293034 Q 2993 [some (.ref a0), some (.ref b1), some (.ref b3), some (.ref b5), some (.int s7), none, none] [] (182 + s7.toNatClampNeg + 6) (20089 + 300 * s7.toNatClampNeg + 1626) (j10 z)) : tw_C g mL_law_ 1300 601024 7293034 Q 1618 [some (.ref a0), some (.ref b1), some (.ref b3), some (.ref b5), some (.int s7), none, none] [] (182 + s7.toNatClampNeg + 0) (20089 + 300 * s7.toNatClampNeg + 0) (f_Lc22 a0 b1 b3 b5 s7 j10 (fun v => Q (.inl (some (.int v))))) := by
  unfold f_Lc22
  refine tw_aload_n (k := 902) rfl rfl ?_
  refine tw_aload_n (k := 903) rfl rfl ?_
  refine tw_iload (k := 904) rfl rfl ?_
  refine tw_iconst (k := 905) (1 : Int32) rfl (by decide) ?_
  refine tw_iadd (k := 906) rfl ?_
  refine tw_iaload (k := 907) rfl (fun x212 => ?_)
  refine tw_aload_n (k := 908) rfl rfl ?_
  refine tw_iload (k := 909) rfl rfl ?_
  refine tw_iconst (k := 910) (2 : Int32) rfl (by decide) ?_
  refine tw_iadd (k := 911) rfl ?_
  refine tw_iaload (k := 912) rfl (fun x213 => ?_)
  refine tw_aload_n (k := 913) rfl rfl ?_
  refine tw_callSW (k := 914) (d' := 9) (mc' := 3) (ms' := 18) tw_cI tw_cIi [.ref b1, .int x212, .int x213, .ref b5] rfl rfl wx_RL_217_L_lasts mo_L_lasts rfl (fun Q9 => K_L_lasts Q9 b1 x212 x213 b5) (by omega) (by omega) (by omega) (Nat.le_of_ble_eq_true rfl) (fun x214 => ?_)
  refine tw_ist (k := 915) [some (.ref a0), some (.ref b1), some (.ref b3), some (.ref b5), some (.int s7), some (.int x214), none] rfl (Nat.le_of_ble_eq_true rfl) rfl rfl ?_
  refine tw_aload_n (k := 916) rfl rfl ?_
  refine tw_aload_n (k := 917) rfl rfl ?_
  refine tw_iload (k := 918) rfl rfl ?_
  refine tw_iconst (k := 919) (1 : Int32) rfl (by decide) ?_
  refine tw_iadd (k := 920) rfl ?_
  refine tw_iaload (k := 921) rfl (fun x215 => ?_)
  refine tw_aload_n (k := 922) rfl rfl ?_
  refine tw_iload (k := 923) rfl rfl ?_
  refine tw_iconst (k := 924) (2 : Int32) rfl (by decide) ?_
  refine tw_iadd (k := 925) rfl ?_
  refine tw_iaload (k := 926) rfl (fun x216 => ?_)
  refine tw_callV (k := 927) (d' := 12) (mc' := 0) (ms' := 0) tw_cI tw_cIi [.int x215, .int x216] rfl rfl wv_RL_219_X12_lasts mo_X12_lasts (t := 11) rfl rfl rfl (fun Q9 => K_X12_lasts Q9 b3 x215 x216) (by omega) (by omega) (by omega) (Nat.le_of_ble_eq_true rfl) (fun x217 => ?_)
  refine tw_ist (k := 928) [some (.ref a0), some (.ref b1), some (.ref b3), some (.ref b5), some (.int s7), some (.int x214), some (.int x217)] rfl (Nat.le_of_ble_eq_true rfl) rfl rfl ?_
  refine tw_aload_n (k := 929) rfl rfl ?_
  refine tw_callV (k := 930) (d' := 1) (mc' := 0) (ms' := 0) tw_cI tw_cIi [] rfl rfl wv_RL_152_X12_thrown mo_X12_thrown (t := 11) rfl rfl rfl (fun Q9 => K_X12_thrown Q9 b3) (by omega) (by omega) (by omega) (Nat.le_of_ble_eq_true rfl) (fun x218 => ?_)
  refine tw_iload (k := 931) rfl rfl ?_
  refine tw_icmp_eq (k := 932) 1666 rfl (by decide) ?_ ?_
  · refine tw_iload (k := 935) rfl rfl ?_
    refine tw_join 1683 (fun s220 => [some (.ref a0), some (.ref b1), some (.ref b3), some (.ref b5), some (.int s7), some (.int x214), some (.int x217)]) (fun s220 => []) (182 + s7.toNatClampNeg + 3) (20089 + 300 * s7.toNatClampNeg + 18) (fun s220 => ?_) (fun j219 g219 => ?_)
    · refine tw_goto (k := 946) 2993 rfl (by decide) ?_
      refine tw_wide (k2 := (182 + s7.toNatClampNeg + 6)) (s2 := (20089 + 300 * s7.toNatClampNeg + 1626)) (by omega) (by omega) ?_
      exact tw_wk (L' := [some (.ref a0), some (.ref b1), some (.ref b3), some (.ref b5), some (.int s7), none, none]) ⟨Or.inr rfl, Or.inr rfl, Or.inr rfl, Or.inr rfl, Or.inr rfl, Or.inl rfl, Or.inl rfl, trivial⟩ (g10 ())
    · refine tw_if_ne (k := 936) 1683 rfl (by decide) ?_ ?_
      · exact g219 ()
      · refine tw_aload_n (k := 937) rfl rfl ?_
        refine tw_iconst (k := 938) (0 : Int32) rfl (by decide) ?_
        refine tw_laload (k := 939) rfl (fun x221 => ?_)
        refine tw_iload (k := 940) rfl rfl ?_
        refine tw_i2l (k := 941) rfl ?_
        refine tw_lcmp (k := 942) rfl ?_
        refine tw_if_eq (k := 943) 1683 rfl (by decide) ?_ ?_
        · exact g219 ()
        · refine tw_iconst (k := 944) (0 : Int32) rfl (by decide) ?_
          exact tw_zreturn (k := 945) rfl rfl (by omega) (by omega)
  · refine tw_iconst (k := 933) (0 : Int32) rfl (by decide) ?_
    exact tw_zreturn (k := 934) rfl rfl (by omega) (by omega)
def f_Lc23 (a0 b1 b3 b5 : Nat) (s7 : Int32) (j10 : Unit → tw_Mem → Prop) (k : Int32 → tw_Mem → Prop) : tw_Mem → Prop :=
  tw_iv 10 b1 (f_X11_longest b1 (fun x222 => tw_iv 11 b3 (f_X12_longest b3 (fun x223 => tw_if (x222 = x223) (j10 ()) (tw_rz (0 : Int32) (k (0 : Int32)))))))
set_option maxHeartbeats 4000000 in
set_option maxRecDepth 100000 in
theorem C_Lc23 {g : tw_Gx} {Q : tw_Rs → tw_Mem → Prop} (a0 b1 b3 b5 : Nat) (s7 : Int32) (hP7 : s7.toNatClampNeg ≤ 3072) (j10 : Unit → tw_Mem → Prop) (g10 : ∀ z : Unit, tw_C g mL_law_ 1300 601024 7293034 Q 2993 [some (.ref a0), some (.ref b1), some (.ref b3), some (.ref b5), some (.int s7), none, none] [] (182 + s7.toNatClampNeg + 6) (20089 + 300 * s7.toNatClampNeg + 1626) (j10 z)) : tw_C g mL_law_ 1300 601024 7293034 Q 1686 [some (.ref a0), some (.ref b1), some (.ref b3), some (.ref b5), some (.int s7), none, none] [] (182 + s7.toNatClampNeg + 0) (20089 + 300 * s7.toNatClampNeg + 0) (f_Lc23 a0 b1 b3 b5 s7 j10 (fun v => Q (.inl (some (.int v))))) := by
  unfold f_Lc23
  refine tw_aload_n (k := 947) rfl rfl ?_
  refine tw_callV (k := 948) (d' := 8) (mc' := 0) (ms' := 0) tw_cI tw_cIi [] rfl rfl wv_RL_220_X11_longest mo_X11_longest (t := 10) rfl rfl rfl (fun Q9 => K_X11_longest Q9 b1) (by omega) (by omega) (by omega) (Nat.le_of_ble_eq_true rfl) (fun x222 => ?_)
  refine tw_aload_n (k := 949) rfl rfl ?_
  refine tw_callV (k := 950) (d' := 12) (mc' := 0) (ms' := 0) tw_cI tw_cIi [] rfl rfl wv_RL_223_X12_longest mo_X12_longest (t := 11) rfl rfl rfl (fun Q9 => K_X12_longest Q9 b3) (by omega) (by omega) (by omega) (Nat.le_of_ble_eq_true rfl) (fun x223 => ?_)
  refine tw_icmp_eq (k := 951) 2993 rfl (by decide) ?_ ?_
  · refine tw_wide (k2 := (182 + s7.toNatClampNeg + 6)) (s2 := (20089 + 300 * s7.toNatClampNeg + 1626)) (by omega) (by omega) ?_
    exact g10 ()
  · refine tw_iconst (k := 952) (0 : Int32) rfl (by decide) ?_
    exact tw_zreturn (k := 953) rfl rfl (by omega) (by omega)
def f_Lc24 (a0 b1 b3 b5 : Nat) (s7 : Int32) (j10 : Unit → tw_Mem → Prop) (k : Int32 → tw_Mem → Prop) : tw_Mem → Prop :=
  tw_li a0 (s7 + (1 : Int32)) fun x224 => f_L_teams b1 x224 b5 (fun x225 => tw_li a0 (s7 + (1 : Int32)) fun x226 => tw_iv 11 b3 (f_X12_teams b3 x226 (fun x227 => tw_iv 11 b3 (f_X12_thrown b3 (fun x228 => tw_if (x228 = x225) (tw_jn (fun (s230 : Unit) => j10 ()) (fun j229 => tw_if (x225 = 0) (tw_ll b5 (0 : Int32) fun x231 => tw_if ((lg_cmp x231 (x227.toInt64)) = 0) (j229 ()) (tw_rz (0 : Int32) (k (0 : Int32)))) (j229 ()))) (tw_rz (0 : Int32) (k (0 : Int32))))))))
set_option maxHeartbeats 4000000 in
set_option maxRecDepth 100000 in
theorem C_Lc24 {g : tw_Gx} {Q : tw_Rs → tw_Mem → Prop} (a0 b1 b3 b5 : Nat) (s7 : Int32) (hP7 : s7.toNatClampNeg ≤ 3072) (j10 : Unit → tw_Mem → Prop) (g10 : ∀ z : Unit, tw_C g mL_law_ 1300 601024 7293034 Q 2993 [some (.ref a0), some (.ref b1), some (.ref b3), some (.ref b5), some (.int s7), none, none] [] (182 + s7.toNatClampNeg + 6) (20089 + 300 * s7.toNatClampNeg + 1626) (j10 z)) : tw_C g mL_law_ 1300 601024 7293034 Q 1699 [some (.ref a0), some (.ref b1), some (.ref b3), some (.ref b5), some (.int s7), none, none] [] (182 + s7.toNatClampNeg + 0) (20089 + 300 * s7.toNatClampNeg + 0) (f_Lc24 a0 b1 b3 b5 s7 j10 (fun v => Q (.inl (some (.int v))))) := by
  unfold f_Lc24
  refine tw_aload_n (k := 954) rfl rfl ?_
  refine tw_aload_n (k := 955) rfl rfl ?_
  refine tw_iload (k := 956) rfl rfl ?_
  refine tw_iconst (k := 957) (1 : Int32) rfl (by decide) ?_
  refine tw_iadd (k := 958) rfl ?_
  refine tw_iaload (k := 959) rfl (fun x224 => ?_)
  refine tw_aload_n (k := 960) rfl rfl ?_
  refine tw_callSW (k := 961) (d' := 9) (mc' := 1) (ms' := 6) tw_cI tw_cIi [.ref b1, .int x224, .ref b5] rfl rfl wx_RL_224_L_teams mo_L_teams rfl (fun Q9 => K_L_teams Q9 b1 x224 b5) (by omega) (by omega) (by omega) (Nat.le_of_ble_eq_true rfl) (fun x225 => ?_)
  refine tw_ist (k := 962) [some (.ref a0), some (.ref b1), some (.ref b3), some (.ref b5), some (.int s7), some (.int x225), none] rfl (Nat.le_of_ble_eq_true rfl) rfl rfl ?_
  refine tw_aload_n (k := 963) rfl rfl ?_
  refine tw_aload_n (k := 964) rfl rfl ?_
  refine tw_iload (k := 965) rfl rfl ?_
  refine tw_iconst (k := 966) (1 : Int32) rfl (by decide) ?_
  refine tw_iadd (k := 967) rfl ?_
  refine tw_iaload (k := 968) rfl (fun x226 => ?_)
  refine tw_callV (k := 969) (d' := 13) (mc' := 0) (ms' := 0) tw_cI tw_cIi [.int x226] rfl rfl wv_RL_226_X12_teams mo_X12_teams (t := 11) rfl rfl rfl (fun Q9 => K_X12_teams Q9 b3 x226) (by omega) (by omega) (by omega) (Nat.le_of_ble_eq_true rfl) (fun x227 => ?_)
  refine tw_ist (k := 970) [some (.ref a0), some (.ref b1), some (.ref b3), some (.ref b5), some (.int s7), some (.int x225), some (.int x227)] rfl (Nat.le_of_ble_eq_true rfl) rfl rfl ?_
  refine tw_aload_n (k := 971) rfl rfl ?_
  refine tw_callV (k := 972) (d' := 1) (mc' := 0) (ms' := 0) tw_cI tw_cIi [] rfl rfl wv_RL_152_X12_thrown mo_X12_thrown (t := 11) rfl rfl rfl (fun Q9 => K_X12_thrown Q9 b3) (by omega) (by omega) (by omega) (Nat.le_of_ble_eq_true rfl) (fun x228 => ?_)
  refine tw_iload (k := 973) rfl rfl ?_
  refine tw_icmp_eq (k := 974) 1735 rfl (by decide) ?_ ?_
  · refine tw_iload (k := 977) rfl rfl ?_
    refine tw_join 1752 (fun s230 => [some (.ref a0), some (.ref b1), some (.ref b3), some (.ref b5), some (.int s7), some (.int x225), some (.int x227)]) (fun s230 => []) (182 + s7.toNatClampNeg + 1) (20089 + 300 * s7.toNatClampNeg + 6) (fun s230 => ?_) (fun j229 g229 => ?_)
    · refine tw_goto (k := 988) 2993 rfl (by decide) ?_
      refine tw_wide (k2 := (182 + s7.toNatClampNeg + 6)) (s2 := (20089 + 300 * s7.toNatClampNeg + 1626)) (by omega) (by omega) ?_
      exact tw_wk (L' := [some (.ref a0), some (.ref b1), some (.ref b3), some (.ref b5), some (.int s7), none, none]) ⟨Or.inr rfl, Or.inr rfl, Or.inr rfl, Or.inr rfl, Or.inr rfl, Or.inl rfl, Or.inl rfl, trivial⟩ (g10 ())
    · refine tw_if_ne (k := 978) 1752 rfl (by decide) ?_ ?_
      · exact g229 ()
      · refine tw_aload_n (k := 979) rfl rfl ?_
        refine tw_iconst (k := 980) (0 : Int32) rfl (by decide) ?_
        refine tw_laload (k := 981) rfl (fun x231 => ?_)
        refine tw_iload (k := 982) rfl rfl ?_
        refine tw_i2l (k := 983) rfl ?_
        refine tw_lcmp (k := 984) rfl ?_
        refine tw_if_eq (k := 985) 1752 rfl (by decide) ?_ ?_
        · exact g229 ()
        · refine tw_iconst (k := 986) (0 : Int32) rfl (by decide) ?_
          exact tw_zreturn (k := 987) rfl rfl (by omega) (by omega)
  · refine tw_iconst (k := 975) (0 : Int32) rfl (by decide) ?_
    exact tw_zreturn (k := 976) rfl rfl (by omega) (by omega)
def f_Lc25 (a0 b1 b3 b5 : Nat) (s7 : Int32) (j10 : Unit → tw_Mem → Prop) (k : Int32 → tw_Mem → Prop) : tw_Mem → Prop :=
  tw_iv 10 b1 (f_X11_fresh b1 (fun x232 => tw_iv 11 b3 (f_X12_fresh b3 (fun x233 => tw_if (x232 = x233) (j10 ()) (tw_rz (0 : Int32) (k (0 : Int32)))))))
set_option maxHeartbeats 4000000 in
set_option maxRecDepth 100000 in
theorem C_Lc25 {g : tw_Gx} {Q : tw_Rs → tw_Mem → Prop} (a0 b1 b3 b5 : Nat) (s7 : Int32) (hP7 : s7.toNatClampNeg ≤ 3072) (j10 : Unit → tw_Mem → Prop) (g10 : ∀ z : Unit, tw_C g mL_law_ 1300 601024 7293034 Q 2993 [some (.ref a0), some (.ref b1), some (.ref b3), some (.ref b5), some (.int s7), none, none] [] (182 + s7.toNatClampNeg + 6) (20089 + 300 * s7.toNatClampNeg + 1626) (j10 z)) : tw_C g mL_law_ 1300 601024 7293034 Q 1755 [some (.ref a0), some (.ref b1), some (.ref b3), some (.ref b5), some (.int s7), none, none] [] (182 + s7.toNatClampNeg + 0) (20089 + 300 * s7.toNatClampNeg + 0) (f_Lc25 a0 b1 b3 b5 s7 j10 (fun v => Q (.inl (some (.int v))))) := by
  unfold f_Lc25
  refine tw_aload_n (k := 989) rfl rfl ?_
  refine tw_callV (k := 990) (d' := 4) (mc' := 0) (ms' := 0) tw_cI tw_cIi [] rfl rfl wv_RL_227_X11_fresh mo_X11_fresh (t := 10) rfl rfl rfl (fun Q9 => K_X11_fresh Q9 b1) (by omega) (by omega) (by omega) (Nat.le_of_ble_eq_true rfl) (fun x232 => ?_)
  refine tw_aload_n (k := 991) rfl rfl ?_
  refine tw_callV (k := 992) (d' := 4) (mc' := 0) (ms' := 0) tw_cI tw_cIi [] rfl rfl wv_RL_230_X12_fresh mo_X12_fresh (t := 11) rfl rfl rfl (fun Q9 => K_X12_fresh Q9 b3) (by omega) (by omega) (by omega) (Nat.le_of_ble_eq_true rfl) (fun x233 => ?_)
  refine tw_icmp_eq (k := 993) 2993 rfl (by decide) ?_ ?_
  · refine tw_wide (k2 := (182 + s7.toNatClampNeg + 6)) (s2 := (20089 + 300 * s7.toNatClampNeg + 1626)) (by omega) (by omega) ?_
    exact g10 ()
  · refine tw_iconst (k := 994) (0 : Int32) rfl (by decide) ?_
    exact tw_zreturn (k := 995) rfl rfl (by omega) (by omega)
def f_Lc26 (a0 b1 b3 b5 : Nat) (s7 : Int32) (j10 : Unit → tw_Mem → Prop) (k : Int32 → tw_Mem → Prop) : tw_Mem → Prop :=
  tw_iv 10 b1 (f_X11_crowd b1 (fun x234 => tw_iv 11 b3 (f_X12_crowd b3 (fun x235 => tw_if (x234 = x235) (j10 ()) (tw_rz (0 : Int32) (k (0 : Int32)))))))
set_option maxHeartbeats 4000000 in
set_option maxRecDepth 100000 in
theorem C_Lc26 {g : tw_Gx} {Q : tw_Rs → tw_Mem → Prop} (a0 b1 b3 b5 : Nat) (s7 : Int32) (hP7 : s7.toNatClampNeg ≤ 3072) (j10 : Unit → tw_Mem → Prop) (g10 : ∀ z : Unit, tw_C g mL_law_ 1300 601024 7293034 Q 2993 [some (.ref a0), some (.ref b1), some (.ref b3), some (.ref b5), some (.int s7), none, none] [] (182 + s7.toNatClampNeg + 6) (20089 + 300 * s7.toNatClampNeg + 1626) (j10 z)) : tw_C g mL_law_ 1300 601024 7293034 Q 1768 [some (.ref a0), some (.ref b1), some (.ref b3), some (.ref b5), some (.int s7), none, none] [] (182 + s7.toNatClampNeg + 0) (20089 + 300 * s7.toNatClampNeg + 0) (f_Lc26 a0 b1 b3 b5 s7 j10 (fun v => Q (.inl (some (.int v))))) := by
  unfold f_Lc26
  refine tw_aload_n (k := 996) rfl rfl ?_
  refine tw_callV (k := 997) (d' := 5) (mc' := 0) (ms' := 0) tw_cI tw_cIi [] rfl rfl wv_RL_231_X11_crowd mo_X11_crowd (t := 10) rfl rfl rfl (fun Q9 => K_X11_crowd Q9 b1) (by omega) (by omega) (by omega) (Nat.le_of_ble_eq_true rfl) (fun x234 => ?_)
  refine tw_aload_n (k := 998) rfl rfl ?_
  refine tw_callV (k := 999) (d' := 6) (mc' := 0) (ms' := 0) tw_cI tw_cIi [] rfl rfl wv_RL_234_X12_crowd mo_X12_crowd (t := 11) rfl rfl rfl (fun Q9 => K_X12_crowd Q9 b3) (by omega) (by omega) (by omega) (Nat.le_of_ble_eq_true rfl) (fun x235 => ?_)
  refine tw_icmp_eq (k := 1000) 2993 rfl (by decide) ?_ ?_
  · refine tw_wide (k2 := (182 + s7.toNatClampNeg + 6)) (s2 := (20089 + 300 * s7.toNatClampNeg + 1626)) (by omega) (by omega) ?_
    exact g10 ()
  · refine tw_iconst (k := 1001) (0 : Int32) rfl (by decide) ?_
    exact tw_zreturn (k := 1002) rfl rfl (by omega) (by omega)
