set_option maxHeartbeats 4000000 in
set_option maxRecDepth 100000 in
theorem C_Lc7 {g : tw_Gx} {Q : tw_Rs → tw_Mem → Prop} (a0 b1 b3 b5 : Nat) (s7 : Int32) (hP7 : s7.toNatClampNeg ≤ 3072) (j10 : Unit → tw_Mem → Prop) (g10 : ∀ z : Unit, tw_C g mL_law_ 1300 601024 7293034 Q 2993 [some (.ref a0), some (.ref b1), some (.ref b3), some (.ref b5), some (.int s7), none, none] [] (182 + s7.toNatClampNeg + 6) (20125 + 300 * s7.toNatClampNeg + 1626) (j10 z)) : tw_C g mL_law_ 1300 601024 7293034 Q 611 [some (.ref a0), some (.ref b1), some (.ref b3), some (.ref b5), some (.int s7), none, none] [] (182 + s7.toNatClampNeg + 0) (20125 + 300 * s7.toNatClampNeg + 0) (f_Lc7 a0 b1 b3 b5 s7 j10 (fun v => Q (.inl (some (.int v))))) := by
  have g10 := fun z => tw_Ctab (r' := (tw_tb mLc7)) dk_L_law_ (g10 z)
  change ∀ z : Unit, tw_C g mLc7 _ _ _ _ _ _ _ _ _ _ at g10
  refine tw_Ctab (r := (tw_tb mLc7)) dk_Lc7 ?_
  show tw_C g mLc7 _ _ _ _ _ _ _ _ _ _
  unfold f_Lc7
  refine tw_aload_n (k := 0) rfl rfl ?_
  refine tw_aload_n (k := 1) rfl rfl ?_
  refine tw_iload (k := 2) rfl rfl ?_
  refine tw_iconst (k := 3) (1 : Int32) rfl (by decide) ?_
  refine tw_iadd (k := 4) rfl ?_
  refine tw_iaload (k := 5) rfl (fun x62 => ?_)
  refine tw_aload_n (k := 6) rfl rfl ?_
  refine tw_iload (k := 7) rfl rfl ?_
  refine tw_iconst (k := 8) (2 : Int32) rfl (by decide) ?_
  refine tw_iadd (k := 9) rfl ?_
  refine tw_iaload (k := 10) rfl (fun x63 => ?_)
  refine tw_aload_n (k := 11) rfl rfl ?_
  refine tw_callSW (k := 12) (d' := 9) (mc' := 3) (ms' := 18) tw_cI tw_cIi [.ref b1, .int x62, .int x63, .ref b5] rfl rfl wx_RL_169_L_rung mo_L_rung rfl (fun Q9 => K_L_rung Q9 b1 x62 x63 b5) (by omega) (by omega) (by omega) (Nat.le_of_ble_eq_true rfl) (fun x64 => ?_)
  refine tw_ist (k := 13) [some (.ref a0), some (.ref b1), some (.ref b3), some (.ref b5), some (.int s7), some (.int x64), none] rfl (Nat.le_of_ble_eq_true rfl) rfl rfl ?_
  refine tw_aload_n (k := 14) rfl rfl ?_
  refine tw_aload_n (k := 15) rfl rfl ?_
  refine tw_iload (k := 16) rfl rfl ?_
  refine tw_iconst (k := 17) (1 : Int32) rfl (by decide) ?_
  refine tw_iadd (k := 18) rfl ?_
  refine tw_iaload (k := 19) rfl (fun x65 => ?_)
  refine tw_aload_n (k := 20) rfl rfl ?_
  refine tw_iload (k := 21) rfl rfl ?_
  refine tw_iconst (k := 22) (2 : Int32) rfl (by decide) ?_
  refine tw_iadd (k := 23) rfl ?_
  refine tw_iaload (k := 24) rfl (fun x66 => ?_)
  refine tw_callV (k := 25) (d' := 4) (mc' := 0) (ms' := 0) tw_cI tw_cIi [.int x65, .int x66] rfl rfl wv_RL_171_X12_rung mo_X12_rung (t := 11) rfl rfl rfl (fun Q9 => K_X12_rung Q9 b3 x65 x66) (by omega) (by omega) (by omega) (Nat.le_of_ble_eq_true rfl) (fun x67 => ?_)
  refine tw_ist (k := 26) [some (.ref a0), some (.ref b1), some (.ref b3), some (.ref b5), some (.int s7), some (.int x64), some (.int x67)] rfl (Nat.le_of_ble_eq_true rfl) rfl rfl ?_
  refine tw_aload_n (k := 27) rfl rfl ?_
  refine tw_callV (k := 28) (d' := 1) (mc' := 0) (ms' := 0) tw_cI tw_cIi [] rfl rfl wv_RL_152_X12_thrown mo_X12_thrown (t := 11) rfl rfl rfl (fun Q9 => K_X12_thrown Q9 b3) (by omega) (by omega) (by omega) (Nat.le_of_ble_eq_true rfl) (fun x68 => ?_)
  refine tw_iload (k := 29) rfl rfl ?_
  refine tw_icmp_eq (k := 30) 659 rfl (by decide) ?_ ?_
  · refine tw_iload (k := 33) rfl rfl ?_
    refine tw_join 676 (fun s70 => [some (.ref a0), some (.ref b1), some (.ref b3), some (.ref b5), some (.int s7), some (.int x64), some (.int x67)]) (fun s70 => []) (182 + s7.toNatClampNeg + 3) (20125 + 300 * s7.toNatClampNeg + 18) (fun s70 => ?_) (fun j69 g69 => ?_)
    · refine tw_goto (k := 44) 2993 rfl (by decide) ?_
      refine tw_wide (k2 := (182 + s7.toNatClampNeg + 6)) (s2 := (20125 + 300 * s7.toNatClampNeg + 1626)) (by omega) (by omega) ?_
      exact tw_wk (L' := [some (.ref a0), some (.ref b1), some (.ref b3), some (.ref b5), some (.int s7), none, none]) ⟨Or.inr rfl, Or.inr rfl, Or.inr rfl, Or.inr rfl, Or.inr rfl, Or.inl rfl, Or.inl rfl, trivial⟩ (g10 ())
    · refine tw_if_ne (k := 34) 676 rfl (by decide) ?_ ?_
      · exact g69 ()
      · refine tw_aload_n (k := 35) rfl rfl ?_
        refine tw_iconst (k := 36) (0 : Int32) rfl (by decide) ?_
        refine tw_laload (k := 37) rfl (fun x71 => ?_)
        refine tw_iload (k := 38) rfl rfl ?_
        refine tw_i2l (k := 39) rfl ?_
        refine tw_lcmp (k := 40) rfl ?_
        refine tw_if_eq (k := 41) 676 rfl (by decide) ?_ ?_
        · exact g69 ()
        · refine tw_iconst (k := 42) (0 : Int32) rfl (by decide) ?_
          exact tw_zreturn (k := 43) rfl rfl (by omega) (by omega)
  · refine tw_iconst (k := 31) (0 : Int32) rfl (by decide) ?_
    exact tw_zreturn (k := 32) rfl rfl (by omega) (by omega)
set_option maxHeartbeats 4000000 in
set_option maxRecDepth 100000 in
theorem C_Lc8 {g : tw_Gx} {Q : tw_Rs → tw_Mem → Prop} (a0 b1 b3 b5 : Nat) (s7 : Int32) (hP7 : s7.toNatClampNeg ≤ 3072) (j10 : Unit → tw_Mem → Prop) (g10 : ∀ z : Unit, tw_C g mL_law_ 1300 601024 7293034 Q 2993 [some (.ref a0), some (.ref b1), some (.ref b3), some (.ref b5), some (.int s7), none, none] [] (182 + s7.toNatClampNeg + 6) (20125 + 300 * s7.toNatClampNeg + 1626) (j10 z)) : tw_C g mL_law_ 1300 601024 7293034 Q 679 [some (.ref a0), some (.ref b1), some (.ref b3), some (.ref b5), some (.int s7), none, none] [] (182 + s7.toNatClampNeg + 0) (20125 + 300 * s7.toNatClampNeg + 0) (f_Lc8 a0 b1 b3 b5 s7 j10 (fun v => Q (.inl (some (.int v))))) := by
  have g10 := fun z => tw_Ctab (r' := (tw_tb mLc8)) dk_L_law_ (g10 z)
  change ∀ z : Unit, tw_C g mLc8 _ _ _ _ _ _ _ _ _ _ at g10
  refine tw_Ctab (r := (tw_tb mLc8)) dk_Lc8 ?_
  show tw_C g mLc8 _ _ _ _ _ _ _ _ _ _
  unfold f_Lc8
  refine tw_aload_n (k := 0) rfl rfl ?_
  refine tw_aload_n (k := 1) rfl rfl ?_
  refine tw_iload (k := 2) rfl rfl ?_
  refine tw_iconst (k := 3) (1 : Int32) rfl (by decide) ?_
  refine tw_iadd (k := 4) rfl ?_
  refine tw_iaload (k := 5) rfl (fun x72 => ?_)
  refine tw_aload_n (k := 6) rfl rfl ?_
  refine tw_iload (k := 7) rfl rfl ?_
  refine tw_iconst (k := 8) (2 : Int32) rfl (by decide) ?_
  refine tw_iadd (k := 9) rfl ?_
  refine tw_iaload (k := 10) rfl (fun x73 => ?_)
  refine tw_aload_n (k := 11) rfl rfl ?_
  refine tw_callSW (k := 12) (d' := 9) (mc' := 3) (ms' := 18) tw_cI tw_cIi [.ref b1, .int x72, .int x73, .ref b5] rfl rfl wx_RL_172_L_sounds mo_L_sounds rfl (fun Q9 => K_L_sounds Q9 b1 x72 x73 b5) (by omega) (by omega) (by omega) (Nat.le_of_ble_eq_true rfl) (fun x74 => ?_)
  refine tw_ist (k := 13) [some (.ref a0), some (.ref b1), some (.ref b3), some (.ref b5), some (.int s7), some (.int x74), none] rfl (Nat.le_of_ble_eq_true rfl) rfl rfl ?_
  refine tw_aload_n (k := 14) rfl rfl ?_
  refine tw_aload_n (k := 15) rfl rfl ?_
  refine tw_iload (k := 16) rfl rfl ?_
  refine tw_iconst (k := 17) (1 : Int32) rfl (by decide) ?_
  refine tw_iadd (k := 18) rfl ?_
  refine tw_iaload (k := 19) rfl (fun x75 => ?_)
  refine tw_aload_n (k := 20) rfl rfl ?_
  refine tw_iload (k := 21) rfl rfl ?_
  refine tw_iconst (k := 22) (2 : Int32) rfl (by decide) ?_
  refine tw_iadd (k := 23) rfl ?_
  refine tw_iaload (k := 24) rfl (fun x76 => ?_)
  refine tw_callV (k := 25) (d' := 8) (mc' := 0) (ms' := 0) tw_cI tw_cIi [.int x75, .int x76] rfl rfl wv_RL_174_X12_sounds mo_X12_sounds (t := 11) rfl rfl rfl (fun Q9 => K_X12_sounds Q9 b3 x75 x76) (by omega) (by omega) (by omega) (Nat.le_of_ble_eq_true rfl) (fun x77 => ?_)
  refine tw_ist (k := 26) [some (.ref a0), some (.ref b1), some (.ref b3), some (.ref b5), some (.int s7), some (.int x74), some (.int x77)] rfl (Nat.le_of_ble_eq_true rfl) rfl rfl ?_
  refine tw_aload_n (k := 27) rfl rfl ?_
  refine tw_callV (k := 28) (d' := 1) (mc' := 0) (ms' := 0) tw_cI tw_cIi [] rfl rfl wv_RL_152_X12_thrown mo_X12_thrown (t := 11) rfl rfl rfl (fun Q9 => K_X12_thrown Q9 b3) (by omega) (by omega) (by omega) (Nat.le_of_ble_eq_true rfl) (fun x78 => ?_)
  refine tw_iload (k := 29) rfl rfl ?_
  refine tw_icmp_eq (k := 30) 727 rfl (by decide) ?_ ?_
  · refine tw_iload (k := 33) rfl rfl ?_
    refine tw_join 744 (fun s80 => [some (.ref a0), some (.ref b1), some (.ref b3), some (.ref b5), some (.int s7), some (.int x74), some (.int x77)]) (fun s80 => []) (182 + s7.toNatClampNeg + 3) (20125 + 300 * s7.toNatClampNeg + 18) (fun s80 => ?_) (fun j79 g79 => ?_)
    · refine tw_goto (k := 44) 2993 rfl (by decide) ?_
      refine tw_wide (k2 := (182 + s7.toNatClampNeg + 6)) (s2 := (20125 + 300 * s7.toNatClampNeg + 1626)) (by omega) (by omega) ?_
      exact tw_wk (L' := [some (.ref a0), some (.ref b1), some (.ref b3), some (.ref b5), some (.int s7), none, none]) ⟨Or.inr rfl, Or.inr rfl, Or.inr rfl, Or.inr rfl, Or.inr rfl, Or.inl rfl, Or.inl rfl, trivial⟩ (g10 ())
    · refine tw_if_ne (k := 34) 744 rfl (by decide) ?_ ?_
      · exact g79 ()
      · refine tw_aload_n (k := 35) rfl rfl ?_
        refine tw_iconst (k := 36) (0 : Int32) rfl (by decide) ?_
        refine tw_laload (k := 37) rfl (fun x81 => ?_)
        refine tw_iload (k := 38) rfl rfl ?_
        refine tw_i2l (k := 39) rfl ?_
        refine tw_lcmp (k := 40) rfl ?_
        refine tw_if_eq (k := 41) 744 rfl (by decide) ?_ ?_
        · exact g79 ()
        · refine tw_iconst (k := 42) (0 : Int32) rfl (by decide) ?_
          exact tw_zreturn (k := 43) rfl rfl (by omega) (by omega)
  · refine tw_iconst (k := 31) (0 : Int32) rfl (by decide) ?_
    exact tw_zreturn (k := 32) rfl rfl (by omega) (by omega)
set_option maxHeartbeats 4000000 in
set_option maxRecDepth 100000 in
theorem C_Lc9 {g : tw_Gx} {Q : tw_Rs → tw_Mem → Prop} (a0 b1 b3 b5 : Nat) (s7 : Int32) (hP7 : s7.toNatClampNeg ≤ 3072) (j10 : Unit → tw_Mem → Prop) (g10 : ∀ z : Unit, tw_C g mL_law_ 1300 601024 7293034 Q 2993 [some (.ref a0), some (.ref b1), some (.ref b3), some (.ref b5), some (.int s7), none, none] [] (182 + s7.toNatClampNeg + 6) (20125 + 300 * s7.toNatClampNeg + 1626) (j10 z)) : tw_C g mL_law_ 1300 601024 7293034 Q 747 [some (.ref a0), some (.ref b1), some (.ref b3), some (.ref b5), some (.int s7), none, none] [] (182 + s7.toNatClampNeg + 0) (20125 + 300 * s7.toNatClampNeg + 0) (f_Lc9 a0 b1 b3 b5 s7 j10 (fun v => Q (.inl (some (.int v))))) := by
  have g10 := fun z => tw_Ctab (r' := (tw_tb mLc9)) dk_L_law_ (g10 z)
  change ∀ z : Unit, tw_C g mLc9 _ _ _ _ _ _ _ _ _ _ at g10
  refine tw_Ctab (r := (tw_tb mLc9)) dk_Lc9 ?_
  show tw_C g mLc9 _ _ _ _ _ _ _ _ _ _
  unfold f_Lc9
  refine tw_aload_n (k := 0) rfl rfl ?_
  refine tw_aload_n (k := 1) rfl rfl ?_
  refine tw_iload (k := 2) rfl rfl ?_
  refine tw_iconst (k := 3) (1 : Int32) rfl (by decide) ?_
  refine tw_iadd (k := 4) rfl ?_
  refine tw_iaload (k := 5) rfl (fun x82 => ?_)
  refine tw_aload_n (k := 6) rfl rfl ?_
  refine tw_iload (k := 7) rfl rfl ?_
  refine tw_iconst (k := 8) (2 : Int32) rfl (by decide) ?_
  refine tw_iadd (k := 9) rfl ?_
  refine tw_iaload (k := 10) rfl (fun x83 => ?_)
  refine tw_aload_n (k := 11) rfl rfl ?_
  refine tw_callSW (k := 12) (d' := 9) (mc' := 3) (ms' := 18) tw_cI tw_cIi [.ref b1, .int x82, .int x83, .ref b5] rfl rfl wx_RL_175_L_lets mo_L_lets rfl (fun Q9 => K_L_lets Q9 b1 x82 x83 b5) (by omega) (by omega) (by omega) (Nat.le_of_ble_eq_true rfl) (fun x84 => ?_)
  refine tw_ist (k := 13) [some (.ref a0), some (.ref b1), some (.ref b3), some (.ref b5), some (.int s7), some (.int x84), none] rfl (Nat.le_of_ble_eq_true rfl) rfl rfl ?_
  refine tw_aload_n (k := 14) rfl rfl ?_
  refine tw_aload_n (k := 15) rfl rfl ?_
  refine tw_iload (k := 16) rfl rfl ?_
  refine tw_iconst (k := 17) (1 : Int32) rfl (by decide) ?_
  refine tw_iadd (k := 18) rfl ?_
  refine tw_iaload (k := 19) rfl (fun x85 => ?_)
  refine tw_aload_n (k := 20) rfl rfl ?_
  refine tw_iload (k := 21) rfl rfl ?_
  refine tw_iconst (k := 22) (2 : Int32) rfl (by decide) ?_
  refine tw_iadd (k := 23) rfl ?_
  refine tw_iaload (k := 24) rfl (fun x86 => ?_)
  refine tw_callV (k := 25) (d' := 8) (mc' := 0) (ms' := 0) tw_cI tw_cIi [.int x85, .int x86] rfl rfl wv_RL_177_X12_lets mo_X12_lets (t := 11) rfl rfl rfl (fun Q9 => K_X12_lets Q9 b3 x85 x86) (by omega) (by omega) (by omega) (Nat.le_of_ble_eq_true rfl) (fun x87 => ?_)
  refine tw_ist (k := 26) [some (.ref a0), some (.ref b1), some (.ref b3), some (.ref b5), some (.int s7), some (.int x84), some (.int x87)] rfl (Nat.le_of_ble_eq_true rfl) rfl rfl ?_
  refine tw_aload_n (k := 27) rfl rfl ?_
  refine tw_callV (k := 28) (d' := 1) (mc' := 0) (ms' := 0) tw_cI tw_cIi [] rfl rfl wv_RL_152_X12_thrown mo_X12_thrown (t := 11) rfl rfl rfl (fun Q9 => K_X12_thrown Q9 b3) (by omega) (by omega) (by omega) (Nat.le_of_ble_eq_true rfl) (fun x88 => ?_)
  refine tw_iload (k := 29) rfl rfl ?_
  refine tw_icmp_eq (k := 30) 795 rfl (by decide) ?_ ?_
  · refine tw_iload (k := 33) rfl rfl ?_
    refine tw_join 812 (fun s90 => [some (.ref a0), some (.ref b1), some (.ref b3), some (.ref b5), some (.int s7), some (.int x84), some (.int x87)]) (fun s90 => []) (182 + s7.toNatClampNeg + 3) (20125 + 300 * s7.toNatClampNeg + 18) (fun s90 => ?_) (fun j89 g89 => ?_)
    · refine tw_goto (k := 44) 2993 rfl (by decide) ?_
      refine tw_wide (k2 := (182 + s7.toNatClampNeg + 6)) (s2 := (20125 + 300 * s7.toNatClampNeg + 1626)) (by omega) (by omega) ?_
      exact tw_wk (L' := [some (.ref a0), some (.ref b1), some (.ref b3), some (.ref b5), some (.int s7), none, none]) ⟨Or.inr rfl, Or.inr rfl, Or.inr rfl, Or.inr rfl, Or.inr rfl, Or.inl rfl, Or.inl rfl, trivial⟩ (g10 ())
    · refine tw_if_ne (k := 34) 812 rfl (by decide) ?_ ?_
      · exact g89 ()
      · refine tw_aload_n (k := 35) rfl rfl ?_
        refine tw_iconst (k := 36) (0 : Int32) rfl (by decide) ?_
        refine tw_laload (k := 37) rfl (fun x91 => ?_)
        refine tw_iload (k := 38) rfl rfl ?_
        refine tw_i2l (k := 39) rfl ?_
        refine tw_lcmp (k := 40) rfl ?_
        refine tw_if_eq (k := 41) 812 rfl (by decide) ?_ ?_
        · exact g89 ()
        · refine tw_iconst (k := 42) (0 : Int32) rfl (by decide) ?_
          exact tw_zreturn (k := 43) rfl rfl (by omega) (by omega)
  · refine tw_iconst (k := 31) (0 : Int32) rfl (by decide) ?_
    exact tw_zreturn (k := 32) rfl rfl (by omega) (by omega)
set_option maxHeartbeats 4000000 in
set_option maxRecDepth 100000 in
theorem C_Lc10 {g : tw_Gx} {Q : tw_Rs → tw_Mem → Prop} (a0 b1 b3 b5 : Nat) (s7 : Int32) (hP7 : s7.toNatClampNeg ≤ 3072) (j10 : Unit → tw_Mem → Prop) (g10 : ∀ z : Unit, tw_C g mL_law_ 1300 601024 7293034 Q 2993 [some (.ref a0), some (.ref b1), some (.ref b3), some (.ref b5), some (.int s7), none, none] [] (182 + s7.toNatClampNeg + 6) (20125 + 300 * s7.toNatClampNeg + 1626) (j10 z)) : tw_C g mL_law_ 1300 601024 7293034 Q 815 [some (.ref a0), some (.ref b1), some (.ref b3), some (.ref b5), some (.int s7), none, none] [] (182 + s7.toNatClampNeg + 0) (20125 + 300 * s7.toNatClampNeg + 0) (f_Lc10 a0 b1 b3 b5 s7 j10 (fun v => Q (.inl (some (.int v))))) := by
  have g10 := fun z => tw_Ctab (r' := (tw_tb mLc10)) dk_L_law_ (g10 z)
  change ∀ z : Unit, tw_C g mLc10 _ _ _ _ _ _ _ _ _ _ at g10
  refine tw_Ctab (r := (tw_tb mLc10)) dk_Lc10 ?_
  show tw_C g mLc10 _ _ _ _ _ _ _ _ _ _
  unfold f_Lc10
  refine tw_aload_n (k := 0) rfl rfl ?_
  refine tw_aload_n (k := 1) rfl rfl ?_
  refine tw_iload (k := 2) rfl rfl ?_
  refine tw_iconst (k := 3) (1 : Int32) rfl (by decide) ?_
  refine tw_iadd (k := 4) rfl ?_
  refine tw_iaload (k := 5) rfl (fun x92 => ?_)
  refine tw_aload_n (k := 6) rfl rfl ?_
  refine tw_iload (k := 7) rfl rfl ?_
  refine tw_iconst (k := 8) (2 : Int32) rfl (by decide) ?_
  refine tw_iadd (k := 9) rfl ?_
  refine tw_iaload (k := 10) rfl (fun x93 => ?_)
  refine tw_aload_n (k := 11) rfl rfl ?_
  refine tw_callSW (k := 12) (d' := 9) (mc' := 3) (ms' := 18) tw_cI tw_cIi [.ref b1, .int x92, .int x93, .ref b5] rfl rfl wx_RL_178_L_both mo_L_both rfl (fun Q9 => K_L_both Q9 b1 x92 x93 b5) (by omega) (by omega) (by omega) (Nat.le_of_ble_eq_true rfl) (fun x94 => ?_)
  refine tw_ist (k := 13) [some (.ref a0), some (.ref b1), some (.ref b3), some (.ref b5), some (.int s7), some (.int x94), none] rfl (Nat.le_of_ble_eq_true rfl) rfl rfl ?_
  refine tw_aload_n (k := 14) rfl rfl ?_
  refine tw_aload_n (k := 15) rfl rfl ?_
  refine tw_iload (k := 16) rfl rfl ?_
  refine tw_iconst (k := 17) (1 : Int32) rfl (by decide) ?_
  refine tw_iadd (k := 18) rfl ?_
  refine tw_iaload (k := 19) rfl (fun x95 => ?_)
  refine tw_aload_n (k := 20) rfl rfl ?_
  refine tw_iload (k := 21) rfl rfl ?_
  refine tw_iconst (k := 22) (2 : Int32) rfl (by decide) ?_
  refine tw_iadd (k := 23) rfl ?_
  refine tw_iaload (k := 24) rfl (fun x96 => ?_)
  refine tw_callV (k := 25) (d' := 5) (mc' := 0) (ms' := 0) tw_cI tw_cIi [.int x95, .int x96] rfl rfl wv_RL_180_X12_both mo_X12_both (t := 11) rfl rfl rfl (fun Q9 => K_X12_both Q9 b3 x95 x96) (by omega) (by omega) (by omega) (Nat.le_of_ble_eq_true rfl) (fun x97 => ?_)
  refine tw_ist (k := 26) [some (.ref a0), some (.ref b1), some (.ref b3), some (.ref b5), some (.int s7), some (.int x94), some (.int x97)] rfl (Nat.le_of_ble_eq_true rfl) rfl rfl ?_
  refine tw_aload_n (k := 27) rfl rfl ?_
  refine tw_callV (k := 28) (d' := 1) (mc' := 0) (ms' := 0) tw_cI tw_cIi [] rfl rfl wv_RL_152_X12_thrown mo_X12_thrown (t := 11) rfl rfl rfl (fun Q9 => K_X12_thrown Q9 b3) (by omega) (by omega) (by omega) (Nat.le_of_ble_eq_true rfl) (fun x98 => ?_)
  refine tw_iload (k := 29) rfl rfl ?_
  refine tw_icmp_eq (k := 30) 863 rfl (by decide) ?_ ?_
  · refine tw_iload (k := 33) rfl rfl ?_
    refine tw_join 880 (fun s100 => [some (.ref a0), some (.ref b1), some (.ref b3), some (.ref b5), some (.int s7), some (.int x94), some (.int x97)]) (fun s100 => []) (182 + s7.toNatClampNeg + 3) (20125 + 300 * s7.toNatClampNeg + 18) (fun s100 => ?_) (fun j99 g99 => ?_)
    · refine tw_goto (k := 44) 2993 rfl (by decide) ?_
      refine tw_wide (k2 := (182 + s7.toNatClampNeg + 6)) (s2 := (20125 + 300 * s7.toNatClampNeg + 1626)) (by omega) (by omega) ?_
      exact tw_wk (L' := [some (.ref a0), some (.ref b1), some (.ref b3), some (.ref b5), some (.int s7), none, none]) ⟨Or.inr rfl, Or.inr rfl, Or.inr rfl, Or.inr rfl, Or.inr rfl, Or.inl rfl, Or.inl rfl, trivial⟩ (g10 ())
    · refine tw_if_ne (k := 34) 880 rfl (by decide) ?_ ?_
      · exact g99 ()
      · refine tw_aload_n (k := 35) rfl rfl ?_
        refine tw_iconst (k := 36) (0 : Int32) rfl (by decide) ?_
        refine tw_laload (k := 37) rfl (fun x101 => ?_)
        refine tw_iload (k := 38) rfl rfl ?_
        refine tw_i2l (k := 39) rfl ?_
        refine tw_lcmp (k := 40) rfl ?_
        refine tw_if_eq (k := 41) 880 rfl (by decide) ?_ ?_
        · exact g99 ()
        · refine tw_iconst (k := 42) (0 : Int32) rfl (by decide) ?_
          exact tw_zreturn (k := 43) rfl rfl (by omega) (by omega)
  · refine tw_iconst (k := 31) (0 : Int32) rfl (by decide) ?_
    exact tw_zreturn (k := 32) rfl rfl (by omega) (by omega)
set_option maxHeartbeats 4000000 in
set_option maxRecDepth 100000 in
theorem C_Lc11 {g : tw_Gx} {Q : tw_Rs → tw_Mem → Prop} (a0 b1 b3 b5 : Nat) (s7 : Int32) (hP7 : s7.toNatClampNeg ≤ 3072) (j10 : Unit → tw_Mem → Prop) (g10 : ∀ z : Unit, tw_C g mL_law_ 1300 601024 7293034 Q 2993 [some (.ref a0), some (.ref b1), some (.ref b3), some (.ref b5), some (.int s7), none, none] [] (182 + s7.toNatClampNeg + 6) (20125 + 300 * s7.toNatClampNeg + 1626) (j10 z)) : tw_C g mL_law_ 1300 601024 7293034 Q 883 [some (.ref a0), some (.ref b1), some (.ref b3), some (.ref b5), some (.int s7), none, none] [] (182 + s7.toNatClampNeg + 0) (20125 + 300 * s7.toNatClampNeg + 0) (f_Lc11 a0 b1 b3 b5 s7 j10 (fun v => Q (.inl (some (.int v))))) := by
  have g10 := fun z => tw_Ctab (r' := (tw_tb mLc11)) dk_L_law_ (g10 z)
  change ∀ z : Unit, tw_C g mLc11 _ _ _ _ _ _ _ _ _ _ at g10
  refine tw_Ctab (r := (tw_tb mLc11)) dk_Lc11 ?_
  show tw_C g mLc11 _ _ _ _ _ _ _ _ _ _
  unfold f_Lc11
  refine tw_aload_n (k := 0) rfl rfl ?_
  refine tw_aload_n (k := 1) rfl rfl ?_
  refine tw_iload (k := 2) rfl rfl ?_
  refine tw_iconst (k := 3) (1 : Int32) rfl (by decide) ?_
  refine tw_iadd (k := 4) rfl ?_
  refine tw_iaload (k := 5) rfl (fun x102 => ?_)
  refine tw_aload_n (k := 6) rfl rfl ?_
  refine tw_iload (k := 7) rfl rfl ?_
  refine tw_iconst (k := 8) (2 : Int32) rfl (by decide) ?_
  refine tw_iadd (k := 9) rfl ?_
  refine tw_iaload (k := 10) rfl (fun x103 => ?_)
  refine tw_aload_n (k := 11) rfl rfl ?_
  refine tw_callSW (k := 12) (d' := 8) (mc' := 2) (ms' := 12) tw_cI tw_cIi [.ref b1, .int x102, .int x103, .ref b5] rfl rfl wx_RL_181_L_plan mo_L_plan rfl (fun Q9 => K_L_plan Q9 b1 x102 x103 b5) (by omega) (by omega) (by omega) (Nat.le_of_ble_eq_true rfl) (fun x104 => ?_)
  refine tw_ist (k := 13) [some (.ref a0), some (.ref b1), some (.ref b3), some (.ref b5), some (.int s7), some (.int x104), none] rfl (Nat.le_of_ble_eq_true rfl) rfl rfl ?_
  refine tw_aload_n (k := 14) rfl rfl ?_
  refine tw_aload_n (k := 15) rfl rfl ?_
  refine tw_iload (k := 16) rfl rfl ?_
  refine tw_iconst (k := 17) (1 : Int32) rfl (by decide) ?_
  refine tw_iadd (k := 18) rfl ?_
  refine tw_iaload (k := 19) rfl (fun x105 => ?_)
  refine tw_aload_n (k := 20) rfl rfl ?_
  refine tw_iload (k := 21) rfl rfl ?_
  refine tw_iconst (k := 22) (2 : Int32) rfl (by decide) ?_
  refine tw_iadd (k := 23) rfl ?_
  refine tw_iaload (k := 24) rfl (fun x106 => ?_)
  refine tw_callV (k := 25) (d' := 3) (mc' := 0) (ms' := 0) tw_cI tw_cIi [.int x105, .int x106] rfl rfl wv_RL_183_X12_plan mo_X12_plan (t := 11) rfl rfl rfl (fun Q9 => K_X12_plan Q9 b3 x105 x106) (by omega) (by omega) (by omega) (Nat.le_of_ble_eq_true rfl) (fun x107 => ?_)
  refine tw_ist (k := 26) [some (.ref a0), some (.ref b1), some (.ref b3), some (.ref b5), some (.int s7), some (.int x104), some (.int x107)] rfl (Nat.le_of_ble_eq_true rfl) rfl rfl ?_
  refine tw_aload_n (k := 27) rfl rfl ?_
  refine tw_callV (k := 28) (d' := 1) (mc' := 0) (ms' := 0) tw_cI tw_cIi [] rfl rfl wv_RL_152_X12_thrown mo_X12_thrown (t := 11) rfl rfl rfl (fun Q9 => K_X12_thrown Q9 b3) (by omega) (by omega) (by omega) (Nat.le_of_ble_eq_true rfl) (fun x108 => ?_)
  refine tw_iload (k := 29) rfl rfl ?_
  refine tw_icmp_eq (k := 30) 931 rfl (by decide) ?_ ?_
  · refine tw_iload (k := 33) rfl rfl ?_
    refine tw_join 948 (fun s110 => [some (.ref a0), some (.ref b1), some (.ref b3), some (.ref b5), some (.int s7), some (.int x104), some (.int x107)]) (fun s110 => []) (182 + s7.toNatClampNeg + 2) (20125 + 300 * s7.toNatClampNeg + 12) (fun s110 => ?_) (fun j109 g109 => ?_)
    · refine tw_goto (k := 44) 2993 rfl (by decide) ?_
      refine tw_wide (k2 := (182 + s7.toNatClampNeg + 6)) (s2 := (20125 + 300 * s7.toNatClampNeg + 1626)) (by omega) (by omega) ?_
      exact tw_wk (L' := [some (.ref a0), some (.ref b1), some (.ref b3), some (.ref b5), some (.int s7), none, none]) ⟨Or.inr rfl, Or.inr rfl, Or.inr rfl, Or.inr rfl, Or.inr rfl, Or.inl rfl, Or.inl rfl, trivial⟩ (g10 ())
    · refine tw_if_ne (k := 34) 948 rfl (by decide) ?_ ?_
      · exact g109 ()
      · refine tw_aload_n (k := 35) rfl rfl ?_
        refine tw_iconst (k := 36) (0 : Int32) rfl (by decide) ?_
        refine tw_laload (k := 37) rfl (fun x111 => ?_)
        refine tw_iload (k := 38) rfl rfl ?_
        refine tw_i2l (k := 39) rfl ?_
        refine tw_lcmp (k := 40) rfl ?_
        refine tw_if_eq (k := 41) 948 rfl (by decide) ?_ ?_
        · exact g109 ()
        · refine tw_iconst (k := 42) (0 : Int32) rfl (by decide) ?_
          exact tw_zreturn (k := 43) rfl rfl (by omega) (by omega)
  · refine tw_iconst (k := 31) (0 : Int32) rfl (by decide) ?_
    exact tw_zreturn (k := 32) rfl rfl (by omega) (by omega)
set_option maxHeartbeats 4000000 in
set_option maxRecDepth 100000 in
theorem C_Lc12 {g : tw_Gx} {Q : tw_Rs → tw_Mem → Prop} (a0 b1 b3 b5 : Nat) (s7 : Int32) (hP7 : s7.toNatClampNeg ≤ 3072) (j10 : Unit → tw_Mem → Prop) (g10 : ∀ z : Unit, tw_C g mL_law_ 1300 601024 7293034 Q 2993 [some (.ref a0), some (.ref b1), some (.ref b3), some (.ref b5), some (.int s7), none, none] [] (182 + s7.toNatClampNeg + 6) (20125 + 300 * s7.toNatClampNeg + 1626) (j10 z)) : tw_C g mL_law_ 1300 601024 7293034 Q 951 [some (.ref a0), some (.ref b1), some (.ref b3), some (.ref b5), some (.int s7), none, none] [] (182 + s7.toNatClampNeg + 0) (20125 + 300 * s7.toNatClampNeg + 0) (f_Lc12 a0 b1 b3 b5 s7 j10 (fun v => Q (.inl (some (.int v))))) := by
  have g10 := fun z => tw_Ctab (r' := (tw_tb mLc12)) dk_L_law_ (g10 z)
  change ∀ z : Unit, tw_C g mLc12 _ _ _ _ _ _ _ _ _ _ at g10
  refine tw_Ctab (r := (tw_tb mLc12)) dk_Lc12 ?_
  show tw_C g mLc12 _ _ _ _ _ _ _ _ _ _
  unfold f_Lc12
  refine tw_aload_n (k := 0) rfl rfl ?_
  refine tw_aload_n (k := 1) rfl rfl ?_
  refine tw_iload (k := 2) rfl rfl ?_
  refine tw_iconst (k := 3) (1 : Int32) rfl (by decide) ?_
  refine tw_iadd (k := 4) rfl ?_
  refine tw_iaload (k := 5) rfl (fun x112 => ?_)
  refine tw_aload_n (k := 6) rfl rfl ?_
  refine tw_callSW (k := 7) (d' := 8) (mc' := 1) (ms' := 6) tw_cI tw_cIi [.ref b1, .int x112, .ref b5] rfl rfl wx_RL_184_L_tone mo_L_tone rfl (fun Q9 => K_L_tone Q9 b1 x112 b5) (by omega) (by omega) (by omega) (Nat.le_of_ble_eq_true rfl) (fun x113 => ?_)
  refine tw_ist (k := 8) [some (.ref a0), some (.ref b1), some (.ref b3), some (.ref b5), some (.int s7), some (.int x113), none] rfl (Nat.le_of_ble_eq_true rfl) rfl rfl ?_
  refine tw_aload_n (k := 9) rfl rfl ?_
  refine tw_aload_n (k := 10) rfl rfl ?_
  refine tw_iload (k := 11) rfl rfl ?_
  refine tw_iconst (k := 12) (1 : Int32) rfl (by decide) ?_
  refine tw_iadd (k := 13) rfl ?_
  refine tw_iaload (k := 14) rfl (fun x114 => ?_)
  refine tw_callV (k := 15) (d' := 6) (mc' := 0) (ms' := 0) tw_cI tw_cIi [.int x114] rfl rfl wv_RL_187_X12_tone mo_X12_tone (t := 11) rfl rfl rfl (fun Q9 => K_X12_tone Q9 b3 x114) (by omega) (by omega) (by omega) (Nat.le_of_ble_eq_true rfl) (fun x115 => ?_)
  refine tw_ist (k := 16) [some (.ref a0), some (.ref b1), some (.ref b3), some (.ref b5), some (.int s7), some (.int x113), some (.int x115)] rfl (Nat.le_of_ble_eq_true rfl) rfl rfl ?_
  refine tw_aload_n (k := 17) rfl rfl ?_
  refine tw_callV (k := 18) (d' := 1) (mc' := 0) (ms' := 0) tw_cI tw_cIi [] rfl rfl wv_RL_152_X12_thrown mo_X12_thrown (t := 11) rfl rfl rfl (fun Q9 => K_X12_thrown Q9 b3) (by omega) (by omega) (by omega) (Nat.le_of_ble_eq_true rfl) (fun x116 => ?_)
  refine tw_iload (k := 19) rfl rfl ?_
  refine tw_icmp_eq (k := 20) 987 rfl (by decide) ?_ ?_
  · refine tw_iload (k := 23) rfl rfl ?_
    refine tw_join 1004 (fun s118 => [some (.ref a0), some (.ref b1), some (.ref b3), some (.ref b5), some (.int s7), some (.int x113), some (.int x115)]) (fun s118 => []) (182 + s7.toNatClampNeg + 1) (20125 + 300 * s7.toNatClampNeg + 6) (fun s118 => ?_) (fun j117 g117 => ?_)
    · refine tw_goto (k := 34) 2993 rfl (by decide) ?_
      refine tw_wide (k2 := (182 + s7.toNatClampNeg + 6)) (s2 := (20125 + 300 * s7.toNatClampNeg + 1626)) (by omega) (by omega) ?_
      exact tw_wk (L' := [some (.ref a0), some (.ref b1), some (.ref b3), some (.ref b5), some (.int s7), none, none]) ⟨Or.inr rfl, Or.inr rfl, Or.inr rfl, Or.inr rfl, Or.inr rfl, Or.inl rfl, Or.inl rfl, trivial⟩ (g10 ())
    · refine tw_if_ne (k := 24) 1004 rfl (by decide) ?_ ?_
      · exact g117 ()
      · refine tw_aload_n (k := 25) rfl rfl ?_
        refine tw_iconst (k := 26) (0 : Int32) rfl (by decide) ?_
        refine tw_laload (k := 27) rfl (fun x119 => ?_)
        refine tw_iload (k := 28) rfl rfl ?_
        refine tw_i2l (k := 29) rfl ?_
        refine tw_lcmp (k := 30) rfl ?_
        refine tw_if_eq (k := 31) 1004 rfl (by decide) ?_ ?_
        · exact g117 ()
        · refine tw_iconst (k := 32) (0 : Int32) rfl (by decide) ?_
          exact tw_zreturn (k := 33) rfl rfl (by omega) (by omega)
  · refine tw_iconst (k := 21) (0 : Int32) rfl (by decide) ?_
    exact tw_zreturn (k := 22) rfl rfl (by omega) (by omega)
set_option maxHeartbeats 4000000 in
set_option maxRecDepth 100000 in
theorem C_Lc13 {g : tw_Gx} {Q : tw_Rs → tw_Mem → Prop} (a0 b1 b3 b5 : Nat) (s7 : Int32) (hP7 : s7.toNatClampNeg ≤ 3072) (j10 : Unit → tw_Mem → Prop) (g10 : ∀ z : Unit, tw_C g mL_law_ 1300 601024 7293034 Q 2993 [some (.ref a0), some (.ref b1), some (.ref b3), some (.ref b5), some (.int s7), none, none] [] (182 + s7.toNatClampNeg + 6) (20125 + 300 * s7.toNatClampNeg + 1626) (j10 z)) : tw_C g mL_law_ 1300 601024 7293034 Q 1007 [some (.ref a0), some (.ref b1), some (.ref b3), some (.ref b5), some (.int s7), none, none] [] (182 + s7.toNatClampNeg + 0) (20125 + 300 * s7.toNatClampNeg + 0) (f_Lc13 a0 b1 b3 b5 s7 j10 (fun v => Q (.inl (some (.int v))))) := by
  have g10 := fun z => tw_Ctab (r' := (tw_tb mLc13)) dk_L_law_ (g10 z)
  change ∀ z : Unit, tw_C g mLc13 _ _ _ _ _ _ _ _ _ _ at g10
  refine tw_Ctab (r := (tw_tb mLc13)) dk_Lc13 ?_
  show tw_C g mLc13 _ _ _ _ _ _ _ _ _ _
  unfold f_Lc13
  refine tw_aload_n (k := 0) rfl rfl ?_
  refine tw_aload_n (k := 1) rfl rfl ?_
  refine tw_iload (k := 2) rfl rfl ?_
  refine tw_iconst (k := 3) (1 : Int32) rfl (by decide) ?_
  refine tw_iadd (k := 4) rfl ?_
  refine tw_iaload (k := 5) rfl (fun x120 => ?_)
  refine tw_aload_n (k := 6) rfl rfl ?_
  refine tw_iload (k := 7) rfl rfl ?_
  refine tw_iconst (k := 8) (2 : Int32) rfl (by decide) ?_
  refine tw_iadd (k := 9) rfl ?_
  refine tw_iaload (k := 10) rfl (fun x121 => ?_)
  refine tw_aload_n (k := 11) rfl rfl ?_
  refine tw_iload (k := 12) rfl rfl ?_
  refine tw_iconst (k := 13) (3 : Int32) rfl (by decide) ?_
  refine tw_iadd (k := 14) rfl ?_
  refine tw_iaload (k := 15) rfl (fun x122 => ?_)
  refine tw_aload_n (k := 16) rfl rfl ?_
  refine tw_callSW (k := 17) (d' := 8) (mc' := 4) (ms' := 24) tw_cI tw_cIi [.ref b1, .int x120, .int x121, .int x122, .ref b5] rfl rfl wx_RL_188_L_rope mo_L_rope rfl (fun Q9 => K_L_rope Q9 b1 x120 x121 x122 b5) (by omega) (by omega) (by omega) (Nat.le_of_ble_eq_true rfl) (fun x123 => ?_)
  refine tw_ist (k := 18) [some (.ref a0), some (.ref b1), some (.ref b3), some (.ref b5), some (.int s7), some (.int x123), none] rfl (Nat.le_of_ble_eq_true rfl) rfl rfl ?_
  refine tw_aload_n (k := 19) rfl rfl ?_
  refine tw_aload_n (k := 20) rfl rfl ?_
  refine tw_iload (k := 21) rfl rfl ?_
  refine tw_iconst (k := 22) (1 : Int32) rfl (by decide) ?_
  refine tw_iadd (k := 23) rfl ?_
  refine tw_iaload (k := 24) rfl (fun x124 => ?_)
  refine tw_aload_n (k := 25) rfl rfl ?_
  refine tw_iload (k := 26) rfl rfl ?_
  refine tw_iconst (k := 27) (2 : Int32) rfl (by decide) ?_
  refine tw_iadd (k := 28) rfl ?_
  refine tw_iaload (k := 29) rfl (fun x125 => ?_)
  refine tw_aload_n (k := 30) rfl rfl ?_
  refine tw_iload (k := 31) rfl rfl ?_
  refine tw_iconst (k := 32) (3 : Int32) rfl (by decide) ?_
  refine tw_iadd (k := 33) rfl ?_
  refine tw_iaload (k := 34) rfl (fun x126 => ?_)
  refine tw_callV (k := 35) (d' := 3) (mc' := 0) (ms' := 0) tw_cI tw_cIi [.int x124, .int x125, .int x126] rfl rfl wv_RL_191_X12_rope mo_X12_rope (t := 11) rfl rfl rfl (fun Q9 => K_X12_rope Q9 b3 x124 x125 x126) (by omega) (by omega) (by omega) (Nat.le_of_ble_eq_true rfl) (fun x127 => ?_)
  refine tw_ist (k := 36) [some (.ref a0), some (.ref b1), some (.ref b3), some (.ref b5), some (.int s7), some (.int x123), some (.int x127)] rfl (Nat.le_of_ble_eq_true rfl) rfl rfl ?_
  refine tw_aload_n (k := 37) rfl rfl ?_
  refine tw_callV (k := 38) (d' := 1) (mc' := 0) (ms' := 0) tw_cI tw_cIi [] rfl rfl wv_RL_152_X12_thrown mo_X12_thrown (t := 11) rfl rfl rfl (fun Q9 => K_X12_thrown Q9 b3) (by omega) (by omega) (by omega) (Nat.le_of_ble_eq_true rfl) (fun x128 => ?_)
  refine tw_iload (k := 39) rfl rfl ?_
  refine tw_icmp_eq (k := 40) 1067 rfl (by decide) ?_ ?_
  · refine tw_iload (k := 43) rfl rfl ?_
    refine tw_join 1084 (fun s130 => [some (.ref a0), some (.ref b1), some (.ref b3), some (.ref b5), some (.int s7), some (.int x123), some (.int x127)]) (fun s130 => []) (182 + s7.toNatClampNeg + 4) (20125 + 300 * s7.toNatClampNeg + 24) (fun s130 => ?_) (fun j129 g129 => ?_)
    · refine tw_goto (k := 54) 2993 rfl (by decide) ?_
      refine tw_wide (k2 := (182 + s7.toNatClampNeg + 6)) (s2 := (20125 + 300 * s7.toNatClampNeg + 1626)) (by omega) (by omega) ?_
      exact tw_wk (L' := [some (.ref a0), some (.ref b1), some (.ref b3), some (.ref b5), some (.int s7), none, none]) ⟨Or.inr rfl, Or.inr rfl, Or.inr rfl, Or.inr rfl, Or.inr rfl, Or.inl rfl, Or.inl rfl, trivial⟩ (g10 ())
    · refine tw_if_ne (k := 44) 1084 rfl (by decide) ?_ ?_
      · exact g129 ()
      · refine tw_aload_n (k := 45) rfl rfl ?_
        refine tw_iconst (k := 46) (0 : Int32) rfl (by decide) ?_
        refine tw_laload (k := 47) rfl (fun x131 => ?_)
        refine tw_iload (k := 48) rfl rfl ?_
        refine tw_i2l (k := 49) rfl ?_
        refine tw_lcmp (k := 50) rfl ?_
        refine tw_if_eq (k := 51) 1084 rfl (by decide) ?_ ?_
        · exact g129 ()
        · refine tw_iconst (k := 52) (0 : Int32) rfl (by decide) ?_
          exact tw_zreturn (k := 53) rfl rfl (by omega) (by omega)
  · refine tw_iconst (k := 41) (0 : Int32) rfl (by decide) ?_
    exact tw_zreturn (k := 42) rfl rfl (by omega) (by omega)
