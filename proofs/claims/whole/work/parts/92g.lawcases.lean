set_option maxHeartbeats 4000000 in
set_option maxRecDepth 100000 in
theorem C_Lc42 {g : tw_Gx} {Q : tw_Rs → tw_Mem → Prop} (a0 b1 b3 b5 : Nat) (s7 : Int32) (hP7 : s7.toNatClampNeg ≤ 3072) (j10 : Unit → tw_Mem → Prop) (g10 : ∀ z : Unit, tw_C g mL_law_ 1300 601024 7293034 Q 2993 [some (.ref a0), some (.ref b1), some (.ref b3), some (.ref b5), some (.int s7), none, none] [] (182 + s7.toNatClampNeg + 6) (20125 + 300 * s7.toNatClampNeg + 1626) (j10 z)) : tw_C g mL_law_ 1300 601024 7293034 Q 2333 [some (.ref a0), some (.ref b1), some (.ref b3), some (.ref b5), some (.int s7), none, none] [] (182 + s7.toNatClampNeg + 0) (20125 + 300 * s7.toNatClampNeg + 0) (f_Lc42 a0 b1 b3 b5 s7 j10 (fun v => Q (.inl (some (.int v))))) := by
  have g10 := fun z => tw_Ctab (r' := (tw_tb mLc42)) dk_L_law_ (g10 z)
  change ∀ z : Unit, tw_C g mLc42 _ _ _ _ _ _ _ _ _ _ at g10
  refine tw_Ctab (r := (tw_tb mLc42)) dk_Lc42 ?_
  show tw_C g mLc42 _ _ _ _ _ _ _ _ _ _
  unfold f_Lc42
  refine tw_aload_n (k := 0) rfl rfl ?_
  refine tw_aload_n (k := 1) rfl rfl ?_
  refine tw_iload (k := 2) rfl rfl ?_
  refine tw_iconst (k := 3) (1 : Int32) rfl (by decide) ?_
  refine tw_iadd (k := 4) rfl ?_
  refine tw_iaload (k := 5) rfl (fun x320 => ?_)
  refine tw_aload_n (k := 6) rfl rfl ?_
  refine tw_iload (k := 7) rfl rfl ?_
  refine tw_iconst (k := 8) (2 : Int32) rfl (by decide) ?_
  refine tw_iadd (k := 9) rfl ?_
  refine tw_iaload (k := 10) rfl (fun x321 => ?_)
  refine tw_aload_n (k := 11) rfl rfl ?_
  refine tw_iload (k := 12) rfl rfl ?_
  refine tw_iconst (k := 13) (3 : Int32) rfl (by decide) ?_
  refine tw_iadd (k := 14) rfl ?_
  refine tw_iaload (k := 15) rfl (fun x322 => ?_)
  refine tw_aload_n (k := 16) rfl rfl ?_
  refine tw_iload (k := 17) rfl rfl ?_
  refine tw_iconst (k := 18) (4 : Int32) rfl (by decide) ?_
  refine tw_iadd (k := 19) rfl ?_
  refine tw_iaload (k := 20) rfl (fun x323 => ?_)
  refine tw_aload_n (k := 21) rfl rfl ?_
  refine tw_callSW (k := 22) (d' := 9) (mc' := 5) (ms' := 30) tw_cI tw_cIi [.ref b1, .int x320, .int x321, .int x322, .int x323, .ref b5] rfl rfl wx_RL_289_L_odds mo_L_odds rfl (fun Q9 => K_L_odds Q9 b1 x320 x321 x322 x323 b5) (by omega) (by omega) (by omega) (Nat.le_of_ble_eq_true rfl) (fun x324 => ?_)
  refine tw_ist (k := 23) [some (.ref a0), some (.ref b1), some (.ref b3), some (.ref b5), some (.int s7), some (.int x324), none] rfl (Nat.le_of_ble_eq_true rfl) rfl rfl ?_
  refine tw_aload_n (k := 24) rfl rfl ?_
  refine tw_aload_n (k := 25) rfl rfl ?_
  refine tw_iload (k := 26) rfl rfl ?_
  refine tw_iconst (k := 27) (1 : Int32) rfl (by decide) ?_
  refine tw_iadd (k := 28) rfl ?_
  refine tw_iaload (k := 29) rfl (fun x325 => ?_)
  refine tw_aload_n (k := 30) rfl rfl ?_
  refine tw_iload (k := 31) rfl rfl ?_
  refine tw_iconst (k := 32) (2 : Int32) rfl (by decide) ?_
  refine tw_iadd (k := 33) rfl ?_
  refine tw_iaload (k := 34) rfl (fun x326 => ?_)
  refine tw_aload_n (k := 35) rfl rfl ?_
  refine tw_iload (k := 36) rfl rfl ?_
  refine tw_iconst (k := 37) (3 : Int32) rfl (by decide) ?_
  refine tw_iadd (k := 38) rfl ?_
  refine tw_iaload (k := 39) rfl (fun x327 => ?_)
  refine tw_aload_n (k := 40) rfl rfl ?_
  refine tw_iload (k := 41) rfl rfl ?_
  refine tw_iconst (k := 42) (4 : Int32) rfl (by decide) ?_
  refine tw_iadd (k := 43) rfl ?_
  refine tw_iaload (k := 44) rfl (fun x328 => ?_)
  refine tw_callV (k := 45) (d' := 4) (mc' := 0) (ms' := 0) tw_cI tw_cIi [.int x325, .int x326, .int x327, .int x328] rfl rfl wv_RL_292_X12_odds mo_X12_odds (t := 11) rfl rfl rfl (fun Q9 => K_X12_odds Q9 b3 x325 x326 x327 x328) (by omega) (by omega) (by omega) (Nat.le_of_ble_eq_true rfl) (fun x329 => ?_)
  refine tw_ist (k := 46) [some (.ref a0), some (.ref b1), some (.ref b3), some (.ref b5), some (.int s7), some (.int x324), some (.int x329)] rfl (Nat.le_of_ble_eq_true rfl) rfl rfl ?_
  refine tw_aload_n (k := 47) rfl rfl ?_
  refine tw_callV (k := 48) (d' := 1) (mc' := 0) (ms' := 0) tw_cI tw_cIi [] rfl rfl wv_RL_152_X12_thrown mo_X12_thrown (t := 11) rfl rfl rfl (fun Q9 => K_X12_thrown Q9 b3) (by omega) (by omega) (by omega) (Nat.le_of_ble_eq_true rfl) (fun x330 => ?_)
  refine tw_iload (k := 49) rfl rfl ?_
  refine tw_icmp_eq (k := 50) 2405 rfl (by decide) ?_ ?_
  · refine tw_iload (k := 53) rfl rfl ?_
    refine tw_join 2422 (fun s332 => [some (.ref a0), some (.ref b1), some (.ref b3), some (.ref b5), some (.int s7), some (.int x324), some (.int x329)]) (fun s332 => []) (182 + s7.toNatClampNeg + 5) (20125 + 300 * s7.toNatClampNeg + 30) (fun s332 => ?_) (fun j331 g331 => ?_)
    · refine tw_goto (k := 64) 2993 rfl (by decide) ?_
      refine tw_wide (k2 := (182 + s7.toNatClampNeg + 6)) (s2 := (20125 + 300 * s7.toNatClampNeg + 1626)) (by omega) (by omega) ?_
      exact tw_wk (L' := [some (.ref a0), some (.ref b1), some (.ref b3), some (.ref b5), some (.int s7), none, none]) ⟨Or.inr rfl, Or.inr rfl, Or.inr rfl, Or.inr rfl, Or.inr rfl, Or.inl rfl, Or.inl rfl, trivial⟩ (g10 ())
    · refine tw_if_ne (k := 54) 2422 rfl (by decide) ?_ ?_
      · exact g331 ()
      · refine tw_aload_n (k := 55) rfl rfl ?_
        refine tw_iconst (k := 56) (0 : Int32) rfl (by decide) ?_
        refine tw_laload (k := 57) rfl (fun x333 => ?_)
        refine tw_iload (k := 58) rfl rfl ?_
        refine tw_i2l (k := 59) rfl ?_
        refine tw_lcmp (k := 60) rfl ?_
        refine tw_if_eq (k := 61) 2422 rfl (by decide) ?_ ?_
        · exact g331 ()
        · refine tw_iconst (k := 62) (0 : Int32) rfl (by decide) ?_
          exact tw_zreturn (k := 63) rfl rfl (by omega) (by omega)
  · refine tw_iconst (k := 51) (0 : Int32) rfl (by decide) ?_
    exact tw_zreturn (k := 52) rfl rfl (by omega) (by omega)
set_option maxHeartbeats 4000000 in
set_option maxRecDepth 100000 in
theorem C_Lc43 {g : tw_Gx} {Q : tw_Rs → tw_Mem → Prop} (a0 b1 b3 b5 : Nat) (s7 : Int32) (hP7 : s7.toNatClampNeg ≤ 3072) (j10 : Unit → tw_Mem → Prop) (g10 : ∀ z : Unit, tw_C g mL_law_ 1300 601024 7293034 Q 2993 [some (.ref a0), some (.ref b1), some (.ref b3), some (.ref b5), some (.int s7), none, none] [] (182 + s7.toNatClampNeg + 6) (20125 + 300 * s7.toNatClampNeg + 1626) (j10 z)) : tw_C g mL_law_ 1300 601024 7293034 Q 2425 [some (.ref a0), some (.ref b1), some (.ref b3), some (.ref b5), some (.int s7), none, none] [] (182 + s7.toNatClampNeg + 0) (20125 + 300 * s7.toNatClampNeg + 0) (f_Lc43 a0 b1 b3 b5 s7 j10 (fun v => Q (.inl (some (.int v))))) := by
  have g10 := fun z => tw_Ctab (r' := (tw_tb mLc43)) dk_L_law_ (g10 z)
  change ∀ z : Unit, tw_C g mLc43 _ _ _ _ _ _ _ _ _ _ at g10
  refine tw_Ctab (r := (tw_tb mLc43)) dk_Lc43 ?_
  show tw_C g mLc43 _ _ _ _ _ _ _ _ _ _
  unfold f_Lc43
  refine tw_aload_n (k := 0) rfl rfl ?_
  refine tw_callV (k := 1) (d' := 6) (mc' := 0) (ms' := 0) tw_cI tw_cIi [] rfl rfl wv_RL_293_X11_twins mo_X11_twins (t := 10) rfl rfl rfl (fun Q9 => K_X11_twins Q9 b1) (by omega) (by omega) (by omega) (Nat.le_of_ble_eq_true rfl) (fun x334 => ?_)
  refine tw_aload_n (k := 2) rfl rfl ?_
  refine tw_callV (k := 3) (d' := 4) (mc' := 0) (ms' := 0) tw_cI tw_cIi [] rfl rfl wv_RL_296_X12_twins mo_X12_twins (t := 11) rfl rfl rfl (fun Q9 => K_X12_twins Q9 b3) (by omega) (by omega) (by omega) (Nat.le_of_ble_eq_true rfl) (fun x335 => ?_)
  refine tw_icmp_eq (k := 4) 2993 rfl (by decide) ?_ ?_
  · refine tw_wide (k2 := (182 + s7.toNatClampNeg + 6)) (s2 := (20125 + 300 * s7.toNatClampNeg + 1626)) (by omega) (by omega) ?_
    exact g10 ()
  · refine tw_iconst (k := 5) (0 : Int32) rfl (by decide) ?_
    exact tw_zreturn (k := 6) rfl rfl (by omega) (by omega)
set_option maxHeartbeats 4000000 in
set_option maxRecDepth 100000 in
theorem C_Lc44 {g : tw_Gx} {Q : tw_Rs → tw_Mem → Prop} (a0 b1 b3 b5 : Nat) (s7 : Int32) (hP7 : s7.toNatClampNeg ≤ 3072) (j10 : Unit → tw_Mem → Prop) (g10 : ∀ z : Unit, tw_C g mL_law_ 1300 601024 7293034 Q 2993 [some (.ref a0), some (.ref b1), some (.ref b3), some (.ref b5), some (.int s7), none, none] [] (182 + s7.toNatClampNeg + 6) (20125 + 300 * s7.toNatClampNeg + 1626) (j10 z)) : tw_C g mL_law_ 1300 601024 7293034 Q 2438 [some (.ref a0), some (.ref b1), some (.ref b3), some (.ref b5), some (.int s7), none, none] [] (182 + s7.toNatClampNeg + 0) (20125 + 300 * s7.toNatClampNeg + 0) (f_Lc44 a0 b1 b3 b5 s7 j10 (fun v => Q (.inl (some (.int v))))) := by
  have g10 := fun z => tw_Ctab (r' := (tw_tb mLc44)) dk_L_law_ (g10 z)
  change ∀ z : Unit, tw_C g mLc44 _ _ _ _ _ _ _ _ _ _ at g10
  refine tw_Ctab (r := (tw_tb mLc44)) dk_Lc44 ?_
  show tw_C g mLc44 _ _ _ _ _ _ _ _ _ _
  unfold f_Lc44
  refine tw_aload_n (k := 0) rfl rfl ?_
  refine tw_aload_n (k := 1) rfl rfl ?_
  refine tw_iload (k := 2) rfl rfl ?_
  refine tw_iconst (k := 3) (1 : Int32) rfl (by decide) ?_
  refine tw_iadd (k := 4) rfl ?_
  refine tw_iaload (k := 5) rfl (fun x336 => ?_)
  refine tw_aload_n (k := 6) rfl rfl ?_
  refine tw_iload (k := 7) rfl rfl ?_
  refine tw_iconst (k := 8) (2 : Int32) rfl (by decide) ?_
  refine tw_iadd (k := 9) rfl ?_
  refine tw_iaload (k := 10) rfl (fun x337 => ?_)
  refine tw_aload_n (k := 11) rfl rfl ?_
  refine tw_callSW (k := 12) (d' := 9) (mc' := 3) (ms' := 18) tw_cI tw_cIi [.ref b1, .int x336, .int x337, .ref b5] rfl rfl wx_RL_297_L_rests mo_L_rests rfl (fun Q9 => K_L_rests Q9 b1 x336 x337 b5) (by omega) (by omega) (by omega) (Nat.le_of_ble_eq_true rfl) (fun x338 => ?_)
  refine tw_ist (k := 13) [some (.ref a0), some (.ref b1), some (.ref b3), some (.ref b5), some (.int s7), some (.int x338), none] rfl (Nat.le_of_ble_eq_true rfl) rfl rfl ?_
  refine tw_aload_n (k := 14) rfl rfl ?_
  refine tw_aload_n (k := 15) rfl rfl ?_
  refine tw_iload (k := 16) rfl rfl ?_
  refine tw_iconst (k := 17) (1 : Int32) rfl (by decide) ?_
  refine tw_iadd (k := 18) rfl ?_
  refine tw_iaload (k := 19) rfl (fun x339 => ?_)
  refine tw_aload_n (k := 20) rfl rfl ?_
  refine tw_iload (k := 21) rfl rfl ?_
  refine tw_iconst (k := 22) (2 : Int32) rfl (by decide) ?_
  refine tw_iadd (k := 23) rfl ?_
  refine tw_iaload (k := 24) rfl (fun x340 => ?_)
  refine tw_callV (k := 25) (d' := 5) (mc' := 0) (ms' := 0) tw_cI tw_cIi [.int x339, .int x340] rfl rfl wv_RL_299_X12_rests mo_X12_rests (t := 11) rfl rfl rfl (fun Q9 => K_X12_rests Q9 b3 x339 x340) (by omega) (by omega) (by omega) (Nat.le_of_ble_eq_true rfl) (fun x341 => ?_)
  refine tw_ist (k := 26) [some (.ref a0), some (.ref b1), some (.ref b3), some (.ref b5), some (.int s7), some (.int x338), some (.int x341)] rfl (Nat.le_of_ble_eq_true rfl) rfl rfl ?_
  refine tw_aload_n (k := 27) rfl rfl ?_
  refine tw_callV (k := 28) (d' := 1) (mc' := 0) (ms' := 0) tw_cI tw_cIi [] rfl rfl wv_RL_152_X12_thrown mo_X12_thrown (t := 11) rfl rfl rfl (fun Q9 => K_X12_thrown Q9 b3) (by omega) (by omega) (by omega) (Nat.le_of_ble_eq_true rfl) (fun x342 => ?_)
  refine tw_iload (k := 29) rfl rfl ?_
  refine tw_icmp_eq (k := 30) 2486 rfl (by decide) ?_ ?_
  · refine tw_iload (k := 33) rfl rfl ?_
    refine tw_join 2503 (fun s344 => [some (.ref a0), some (.ref b1), some (.ref b3), some (.ref b5), some (.int s7), some (.int x338), some (.int x341)]) (fun s344 => []) (182 + s7.toNatClampNeg + 3) (20125 + 300 * s7.toNatClampNeg + 18) (fun s344 => ?_) (fun j343 g343 => ?_)
    · refine tw_goto (k := 44) 2993 rfl (by decide) ?_
      refine tw_wide (k2 := (182 + s7.toNatClampNeg + 6)) (s2 := (20125 + 300 * s7.toNatClampNeg + 1626)) (by omega) (by omega) ?_
      exact tw_wk (L' := [some (.ref a0), some (.ref b1), some (.ref b3), some (.ref b5), some (.int s7), none, none]) ⟨Or.inr rfl, Or.inr rfl, Or.inr rfl, Or.inr rfl, Or.inr rfl, Or.inl rfl, Or.inl rfl, trivial⟩ (g10 ())
    · refine tw_if_ne (k := 34) 2503 rfl (by decide) ?_ ?_
      · exact g343 ()
      · refine tw_aload_n (k := 35) rfl rfl ?_
        refine tw_iconst (k := 36) (0 : Int32) rfl (by decide) ?_
        refine tw_laload (k := 37) rfl (fun x345 => ?_)
        refine tw_iload (k := 38) rfl rfl ?_
        refine tw_i2l (k := 39) rfl ?_
        refine tw_lcmp (k := 40) rfl ?_
        refine tw_if_eq (k := 41) 2503 rfl (by decide) ?_ ?_
        · exact g343 ()
        · refine tw_iconst (k := 42) (0 : Int32) rfl (by decide) ?_
          exact tw_zreturn (k := 43) rfl rfl (by omega) (by omega)
  · refine tw_iconst (k := 31) (0 : Int32) rfl (by decide) ?_
    exact tw_zreturn (k := 32) rfl rfl (by omega) (by omega)
set_option maxHeartbeats 4000000 in
set_option maxRecDepth 100000 in
theorem C_Lc45 {g : tw_Gx} {Q : tw_Rs → tw_Mem → Prop} (a0 b1 b3 b5 : Nat) (s7 : Int32) (hP7 : s7.toNatClampNeg ≤ 3072) (j10 : Unit → tw_Mem → Prop) (g10 : ∀ z : Unit, tw_C g mL_law_ 1300 601024 7293034 Q 2993 [some (.ref a0), some (.ref b1), some (.ref b3), some (.ref b5), some (.int s7), none, none] [] (182 + s7.toNatClampNeg + 6) (20125 + 300 * s7.toNatClampNeg + 1626) (j10 z)) : tw_C g mL_law_ 1300 601024 7293034 Q 2506 [some (.ref a0), some (.ref b1), some (.ref b3), some (.ref b5), some (.int s7), none, none] [] (182 + s7.toNatClampNeg + 0) (20125 + 300 * s7.toNatClampNeg + 0) (f_Lc45 a0 b1 b3 b5 s7 j10 (fun v => Q (.inl (some (.int v))))) := by
  have g10 := fun z => tw_Ctab (r' := (tw_tb mLc45)) dk_L_law_ (g10 z)
  change ∀ z : Unit, tw_C g mLc45 _ _ _ _ _ _ _ _ _ _ at g10
  refine tw_Ctab (r := (tw_tb mLc45)) dk_Lc45 ?_
  show tw_C g mLc45 _ _ _ _ _ _ _ _ _ _
  unfold f_Lc45
  refine tw_aload_n (k := 0) rfl rfl ?_
  refine tw_aload_n (k := 1) rfl rfl ?_
  refine tw_iload (k := 2) rfl rfl ?_
  refine tw_iconst (k := 3) (1 : Int32) rfl (by decide) ?_
  refine tw_iadd (k := 4) rfl ?_
  refine tw_iaload (k := 5) rfl (fun x346 => ?_)
  refine tw_aload_n (k := 6) rfl rfl ?_
  refine tw_iload (k := 7) rfl rfl ?_
  refine tw_iconst (k := 8) (2 : Int32) rfl (by decide) ?_
  refine tw_iadd (k := 9) rfl ?_
  refine tw_iaload (k := 10) rfl (fun x347 => ?_)
  refine tw_aload_n (k := 11) rfl rfl ?_
  refine tw_iload (k := 12) rfl rfl ?_
  refine tw_iconst (k := 13) (3 : Int32) rfl (by decide) ?_
  refine tw_iadd (k := 14) rfl ?_
  refine tw_iaload (k := 15) rfl (fun x348 => ?_)
  refine tw_aload_n (k := 16) rfl rfl ?_
  refine tw_callSW (k := 17) (d' := 9) (mc' := 4) (ms' := 24) tw_cI tw_cIi [.ref b1, .int x346, .int x347, .int x348, .ref b5] rfl rfl wx_RL_300_L_ahead mo_L_ahead rfl (fun Q9 => K_L_ahead Q9 b1 x346 x347 x348 b5) (by omega) (by omega) (by omega) (Nat.le_of_ble_eq_true rfl) (fun x349 => ?_)
  refine tw_ist (k := 18) [some (.ref a0), some (.ref b1), some (.ref b3), some (.ref b5), some (.int s7), some (.int x349), none] rfl (Nat.le_of_ble_eq_true rfl) rfl rfl ?_
  refine tw_aload_n (k := 19) rfl rfl ?_
  refine tw_aload_n (k := 20) rfl rfl ?_
  refine tw_iload (k := 21) rfl rfl ?_
  refine tw_iconst (k := 22) (1 : Int32) rfl (by decide) ?_
  refine tw_iadd (k := 23) rfl ?_
  refine tw_iaload (k := 24) rfl (fun x350 => ?_)
  refine tw_aload_n (k := 25) rfl rfl ?_
  refine tw_iload (k := 26) rfl rfl ?_
  refine tw_iconst (k := 27) (2 : Int32) rfl (by decide) ?_
  refine tw_iadd (k := 28) rfl ?_
  refine tw_iaload (k := 29) rfl (fun x351 => ?_)
  refine tw_aload_n (k := 30) rfl rfl ?_
  refine tw_iload (k := 31) rfl rfl ?_
  refine tw_iconst (k := 32) (3 : Int32) rfl (by decide) ?_
  refine tw_iadd (k := 33) rfl ?_
  refine tw_iaload (k := 34) rfl (fun x352 => ?_)
  refine tw_callV (k := 35) (d' := 13) (mc' := 0) (ms' := 0) tw_cI tw_cIi [.int x350, .int x351, .int x352] rfl rfl wv_RL_302_X12_ahead mo_X12_ahead (t := 11) rfl rfl rfl (fun Q9 => K_X12_ahead Q9 b3 x350 x351 x352) (by omega) (by omega) (by omega) (Nat.le_of_ble_eq_true rfl) (fun x353 => ?_)
  refine tw_ist (k := 36) [some (.ref a0), some (.ref b1), some (.ref b3), some (.ref b5), some (.int s7), some (.int x349), some (.int x353)] rfl (Nat.le_of_ble_eq_true rfl) rfl rfl ?_
  refine tw_aload_n (k := 37) rfl rfl ?_
  refine tw_callV (k := 38) (d' := 1) (mc' := 0) (ms' := 0) tw_cI tw_cIi [] rfl rfl wv_RL_152_X12_thrown mo_X12_thrown (t := 11) rfl rfl rfl (fun Q9 => K_X12_thrown Q9 b3) (by omega) (by omega) (by omega) (Nat.le_of_ble_eq_true rfl) (fun x354 => ?_)
  refine tw_iload (k := 39) rfl rfl ?_
  refine tw_icmp_eq (k := 40) 2566 rfl (by decide) ?_ ?_
  · refine tw_iload (k := 43) rfl rfl ?_
    refine tw_join 2583 (fun s356 => [some (.ref a0), some (.ref b1), some (.ref b3), some (.ref b5), some (.int s7), some (.int x349), some (.int x353)]) (fun s356 => []) (182 + s7.toNatClampNeg + 4) (20125 + 300 * s7.toNatClampNeg + 24) (fun s356 => ?_) (fun j355 g355 => ?_)
    · refine tw_goto (k := 54) 2993 rfl (by decide) ?_
      refine tw_wide (k2 := (182 + s7.toNatClampNeg + 6)) (s2 := (20125 + 300 * s7.toNatClampNeg + 1626)) (by omega) (by omega) ?_
      exact tw_wk (L' := [some (.ref a0), some (.ref b1), some (.ref b3), some (.ref b5), some (.int s7), none, none]) ⟨Or.inr rfl, Or.inr rfl, Or.inr rfl, Or.inr rfl, Or.inr rfl, Or.inl rfl, Or.inl rfl, trivial⟩ (g10 ())
    · refine tw_if_ne (k := 44) 2583 rfl (by decide) ?_ ?_
      · exact g355 ()
      · refine tw_aload_n (k := 45) rfl rfl ?_
        refine tw_iconst (k := 46) (0 : Int32) rfl (by decide) ?_
        refine tw_laload (k := 47) rfl (fun x357 => ?_)
        refine tw_iload (k := 48) rfl rfl ?_
        refine tw_i2l (k := 49) rfl ?_
        refine tw_lcmp (k := 50) rfl ?_
        refine tw_if_eq (k := 51) 2583 rfl (by decide) ?_ ?_
        · exact g355 ()
        · refine tw_iconst (k := 52) (0 : Int32) rfl (by decide) ?_
          exact tw_zreturn (k := 53) rfl rfl (by omega) (by omega)
  · refine tw_iconst (k := 41) (0 : Int32) rfl (by decide) ?_
    exact tw_zreturn (k := 42) rfl rfl (by omega) (by omega)
set_option maxHeartbeats 4000000 in
set_option maxRecDepth 100000 in
theorem C_Lc46 {g : tw_Gx} {Q : tw_Rs → tw_Mem → Prop} (a0 b1 b3 b5 : Nat) (s7 : Int32) (hP7 : s7.toNatClampNeg ≤ 3072) (j10 : Unit → tw_Mem → Prop) (g10 : ∀ z : Unit, tw_C g mL_law_ 1300 601024 7293034 Q 2993 [some (.ref a0), some (.ref b1), some (.ref b3), some (.ref b5), some (.int s7), none, none] [] (182 + s7.toNatClampNeg + 6) (20125 + 300 * s7.toNatClampNeg + 1626) (j10 z)) : tw_C g mL_law_ 1300 601024 7293034 Q 2586 [some (.ref a0), some (.ref b1), some (.ref b3), some (.ref b5), some (.int s7), none, none] [] (182 + s7.toNatClampNeg + 0) (20125 + 300 * s7.toNatClampNeg + 0) (f_Lc46 a0 b1 b3 b5 s7 j10 (fun v => Q (.inl (some (.int v))))) := by
  have g10 := fun z => tw_Ctab (r' := (tw_tb mLc46)) dk_L_law_ (g10 z)
  change ∀ z : Unit, tw_C g mLc46 _ _ _ _ _ _ _ _ _ _ at g10
  refine tw_Ctab (r := (tw_tb mLc46)) dk_Lc46 ?_
  show tw_C g mLc46 _ _ _ _ _ _ _ _ _ _
  unfold f_Lc46
  refine tw_aload_n (k := 0) rfl rfl ?_
  refine tw_aload_n (k := 1) rfl rfl ?_
  refine tw_iload (k := 2) rfl rfl ?_
  refine tw_iconst (k := 3) (1 : Int32) rfl (by decide) ?_
  refine tw_iadd (k := 4) rfl ?_
  refine tw_iaload (k := 5) rfl (fun x358 => ?_)
  refine tw_aload_n (k := 6) rfl rfl ?_
  refine tw_iload (k := 7) rfl rfl ?_
  refine tw_iconst (k := 8) (2 : Int32) rfl (by decide) ?_
  refine tw_iadd (k := 9) rfl ?_
  refine tw_iaload (k := 10) rfl (fun x359 => ?_)
  refine tw_join 2607 (fun s361 => [some (.ref a0), some (.ref b1), some (.ref b3), some (.ref b5), some (.int s7), none, none]) (fun s361 => .int s361 :: .int x358 :: .ref b1 :: []) (182 + s7.toNatClampNeg + 0) (20125 + 300 * s7.toNatClampNeg + 0) (fun s361 => ?_) (fun j360 g360 => ?_)
  · refine tw_aload_n (k := 15) rfl rfl ?_
    refine tw_callSW (k := 16) (d' := 9) (mc' := 1) (ms' := 6) tw_cI tw_cIi [.ref b1, .int x358, .int s361, .ref b5] rfl rfl wx_RL_303_L_trial mo_L_trial rfl (fun Q9 => K_L_trial Q9 b1 x358 s361 b5) (by omega) (by omega) (by omega) (Nat.le_of_ble_eq_true rfl) (fun x362 => ?_)
    refine tw_ist (k := 17) [some (.ref a0), some (.ref b1), some (.ref b3), some (.ref b5), some (.int s7), some (.int x362), none] rfl (Nat.le_of_ble_eq_true rfl) rfl rfl ?_
    refine tw_aload_n (k := 18) rfl rfl ?_
    refine tw_aload_n (k := 19) rfl rfl ?_
    refine tw_iload (k := 20) rfl rfl ?_
    refine tw_iconst (k := 21) (1 : Int32) rfl (by decide) ?_
    refine tw_iadd (k := 22) rfl ?_
    refine tw_iaload (k := 23) rfl (fun x363 => ?_)
    refine tw_aload_n (k := 24) rfl rfl ?_
    refine tw_iload (k := 25) rfl rfl ?_
    refine tw_iconst (k := 26) (2 : Int32) rfl (by decide) ?_
    refine tw_iadd (k := 27) rfl ?_
    refine tw_iaload (k := 28) rfl (fun x364 => ?_)
    refine tw_join 2634 (fun s366 => [some (.ref a0), some (.ref b1), some (.ref b3), some (.ref b5), some (.int s7), some (.int x362), none]) (fun s366 => .int s366 :: .int x363 :: .ref b3 :: []) (182 + s7.toNatClampNeg + 1) (20125 + 300 * s7.toNatClampNeg + 6) (fun s366 => ?_) (fun j365 g365 => ?_)
    · refine tw_callV (k := 33) (d' := 13) (mc' := 0) (ms' := 0) tw_cI tw_cIi [.int x363, .int s366] rfl rfl wv_RL_305_X12_trial mo_X12_trial (t := 11) rfl rfl rfl (fun Q9 => K_X12_trial Q9 b3 x363 s366) (by omega) (by omega) (by omega) (Nat.le_of_ble_eq_true rfl) (fun x367 => ?_)
      refine tw_ist (k := 34) [some (.ref a0), some (.ref b1), some (.ref b3), some (.ref b5), some (.int s7), some (.int x362), some (.int x367)] rfl (Nat.le_of_ble_eq_true rfl) rfl rfl ?_
      refine tw_aload_n (k := 35) rfl rfl ?_
      refine tw_callV (k := 36) (d' := 1) (mc' := 0) (ms' := 0) tw_cI tw_cIi [] rfl rfl wv_RL_152_X12_thrown mo_X12_thrown (t := 11) rfl rfl rfl (fun Q9 => K_X12_thrown Q9 b3) (by omega) (by omega) (by omega) (Nat.le_of_ble_eq_true rfl) (fun x368 => ?_)
      refine tw_iload (k := 37) rfl rfl ?_
      refine tw_icmp_eq (k := 38) 2650 rfl (by decide) ?_ ?_
      · refine tw_iload (k := 41) rfl rfl ?_
        refine tw_join 2667 (fun s370 => [some (.ref a0), some (.ref b1), some (.ref b3), some (.ref b5), some (.int s7), some (.int x362), some (.int x367)]) (fun s370 => []) (182 + s7.toNatClampNeg + 1) (20125 + 300 * s7.toNatClampNeg + 6) (fun s370 => ?_) (fun j369 g369 => ?_)
        · refine tw_goto (k := 52) 2993 rfl (by decide) ?_
          refine tw_wide (k2 := (182 + s7.toNatClampNeg + 6)) (s2 := (20125 + 300 * s7.toNatClampNeg + 1626)) (by omega) (by omega) ?_
          exact tw_wk (L' := [some (.ref a0), some (.ref b1), some (.ref b3), some (.ref b5), some (.int s7), none, none]) ⟨Or.inr rfl, Or.inr rfl, Or.inr rfl, Or.inr rfl, Or.inr rfl, Or.inl rfl, Or.inl rfl, trivial⟩ (g10 ())
        · refine tw_if_ne (k := 42) 2667 rfl (by decide) ?_ ?_
          · exact g369 ()
          · refine tw_aload_n (k := 43) rfl rfl ?_
            refine tw_iconst (k := 44) (0 : Int32) rfl (by decide) ?_
            refine tw_laload (k := 45) rfl (fun x371 => ?_)
            refine tw_iload (k := 46) rfl rfl ?_
            refine tw_i2l (k := 47) rfl ?_
            refine tw_lcmp (k := 48) rfl ?_
            refine tw_if_eq (k := 49) 2667 rfl (by decide) ?_ ?_
            · exact g369 ()
            · refine tw_iconst (k := 50) (0 : Int32) rfl (by decide) ?_
              exact tw_zreturn (k := 51) rfl rfl (by omega) (by omega)
      · refine tw_iconst (k := 39) (0 : Int32) rfl (by decide) ?_
        exact tw_zreturn (k := 40) rfl rfl (by omega) (by omega)
    · refine tw_if_eq (k := 29) 2633 rfl (by decide) ?_ ?_
      · refine tw_iconst (k := 32) (0 : Int32) rfl (by decide) ?_
        exact g365 (0 : Int32)
      · refine tw_iconst (k := 30) (1 : Int32) rfl (by decide) ?_
        refine tw_goto (k := 31) 2634 rfl (by decide) ?_
        exact g365 (1 : Int32)
  · refine tw_if_eq (k := 11) 2606 rfl (by decide) ?_ ?_
    · refine tw_iconst (k := 14) (0 : Int32) rfl (by decide) ?_
      exact g360 (0 : Int32)
    · refine tw_iconst (k := 12) (1 : Int32) rfl (by decide) ?_
      refine tw_goto (k := 13) 2607 rfl (by decide) ?_
      exact g360 (1 : Int32)
set_option maxHeartbeats 4000000 in
set_option maxRecDepth 100000 in
theorem C_Lc47 {g : tw_Gx} {Q : tw_Rs → tw_Mem → Prop} (a0 b1 b3 b5 : Nat) (s7 : Int32) (hP7 : s7.toNatClampNeg ≤ 3072) (j10 : Unit → tw_Mem → Prop) (g10 : ∀ z : Unit, tw_C g mL_law_ 1300 601024 7293034 Q 2993 [some (.ref a0), some (.ref b1), some (.ref b3), some (.ref b5), some (.int s7), none, none] [] (182 + s7.toNatClampNeg + 6) (20125 + 300 * s7.toNatClampNeg + 1626) (j10 z)) : tw_C g mL_law_ 1300 601024 7293034 Q 2670 [some (.ref a0), some (.ref b1), some (.ref b3), some (.ref b5), some (.int s7), none, none] [] (182 + s7.toNatClampNeg + 0) (20125 + 300 * s7.toNatClampNeg + 0) (f_Lc47 a0 b1 b3 b5 s7 j10 (fun v => Q (.inl (some (.int v))))) := by
  have g10 := fun z => tw_Ctab (r' := (tw_tb mLc47)) dk_L_law_ (g10 z)
  change ∀ z : Unit, tw_C g mLc47 _ _ _ _ _ _ _ _ _ _ at g10
  refine tw_Ctab (r := (tw_tb mLc47)) dk_Lc47 ?_
  show tw_C g mLc47 _ _ _ _ _ _ _ _ _ _
  unfold f_Lc47
  refine tw_aload_n (k := 0) rfl rfl ?_
  refine tw_aload_n (k := 1) rfl rfl ?_
  refine tw_iload (k := 2) rfl rfl ?_
  refine tw_iconst (k := 3) (1 : Int32) rfl (by decide) ?_
  refine tw_iadd (k := 4) rfl ?_
  refine tw_iaload (k := 5) rfl (fun x372 => ?_)
  refine tw_aload_n (k := 6) rfl rfl ?_
  refine tw_iload (k := 7) rfl rfl ?_
  refine tw_iconst (k := 8) (2 : Int32) rfl (by decide) ?_
  refine tw_iadd (k := 9) rfl ?_
  refine tw_iaload (k := 10) rfl (fun x373 => ?_)
  refine tw_join 2691 (fun s375 => [some (.ref a0), some (.ref b1), some (.ref b3), some (.ref b5), some (.int s7), none, none]) (fun s375 => .int s375 :: .int x372 :: .ref b1 :: []) (182 + s7.toNatClampNeg + 0) (20125 + 300 * s7.toNatClampNeg + 0) (fun s375 => ?_) (fun j374 g374 => ?_)
  · refine tw_aload_n (k := 15) rfl rfl ?_
    refine tw_callSW (k := 16) (d' := 9) (mc' := 1) (ms' := 6) tw_cI tw_cIi [.ref b1, .int x372, .int s375, .ref b5] rfl rfl wx_RL_306_L_span mo_L_span rfl (fun Q9 => K_L_span Q9 b1 x372 s375 b5) (by omega) (by omega) (by omega) (Nat.le_of_ble_eq_true rfl) (fun x376 => ?_)
    refine tw_ist (k := 17) [some (.ref a0), some (.ref b1), some (.ref b3), some (.ref b5), some (.int s7), some (.int x376), none] rfl (Nat.le_of_ble_eq_true rfl) rfl rfl ?_
    refine tw_aload_n (k := 18) rfl rfl ?_
    refine tw_aload_n (k := 19) rfl rfl ?_
    refine tw_iload (k := 20) rfl rfl ?_
    refine tw_iconst (k := 21) (1 : Int32) rfl (by decide) ?_
    refine tw_iadd (k := 22) rfl ?_
    refine tw_iaload (k := 23) rfl (fun x377 => ?_)
    refine tw_aload_n (k := 24) rfl rfl ?_
    refine tw_iload (k := 25) rfl rfl ?_
    refine tw_iconst (k := 26) (2 : Int32) rfl (by decide) ?_
    refine tw_iadd (k := 27) rfl ?_
    refine tw_iaload (k := 28) rfl (fun x378 => ?_)
    refine tw_join 2718 (fun s380 => [some (.ref a0), some (.ref b1), some (.ref b3), some (.ref b5), some (.int s7), some (.int x376), none]) (fun s380 => .int s380 :: .int x377 :: .ref b3 :: []) (182 + s7.toNatClampNeg + 1) (20125 + 300 * s7.toNatClampNeg + 6) (fun s380 => ?_) (fun j379 g379 => ?_)
    · refine tw_callV (k := 33) (d' := 13) (mc' := 0) (ms' := 0) tw_cI tw_cIi [.int x377, .int s380] rfl rfl wv_RL_308_X12_span mo_X12_span (t := 11) rfl rfl rfl (fun Q9 => K_X12_span Q9 b3 x377 s380) (by omega) (by omega) (by omega) (Nat.le_of_ble_eq_true rfl) (fun x381 => ?_)
      refine tw_ist (k := 34) [some (.ref a0), some (.ref b1), some (.ref b3), some (.ref b5), some (.int s7), some (.int x376), some (.int x381)] rfl (Nat.le_of_ble_eq_true rfl) rfl rfl ?_
      refine tw_aload_n (k := 35) rfl rfl ?_
      refine tw_callV (k := 36) (d' := 1) (mc' := 0) (ms' := 0) tw_cI tw_cIi [] rfl rfl wv_RL_152_X12_thrown mo_X12_thrown (t := 11) rfl rfl rfl (fun Q9 => K_X12_thrown Q9 b3) (by omega) (by omega) (by omega) (Nat.le_of_ble_eq_true rfl) (fun x382 => ?_)
      refine tw_iload (k := 37) rfl rfl ?_
      refine tw_icmp_eq (k := 38) 2734 rfl (by decide) ?_ ?_
      · refine tw_iload (k := 41) rfl rfl ?_
        refine tw_join 2751 (fun s384 => [some (.ref a0), some (.ref b1), some (.ref b3), some (.ref b5), some (.int s7), some (.int x376), some (.int x381)]) (fun s384 => []) (182 + s7.toNatClampNeg + 1) (20125 + 300 * s7.toNatClampNeg + 6) (fun s384 => ?_) (fun j383 g383 => ?_)
        · refine tw_goto (k := 52) 2993 rfl (by decide) ?_
          refine tw_wide (k2 := (182 + s7.toNatClampNeg + 6)) (s2 := (20125 + 300 * s7.toNatClampNeg + 1626)) (by omega) (by omega) ?_
          exact tw_wk (L' := [some (.ref a0), some (.ref b1), some (.ref b3), some (.ref b5), some (.int s7), none, none]) ⟨Or.inr rfl, Or.inr rfl, Or.inr rfl, Or.inr rfl, Or.inr rfl, Or.inl rfl, Or.inl rfl, trivial⟩ (g10 ())
        · refine tw_if_ne (k := 42) 2751 rfl (by decide) ?_ ?_
          · exact g383 ()
          · refine tw_aload_n (k := 43) rfl rfl ?_
            refine tw_iconst (k := 44) (0 : Int32) rfl (by decide) ?_
            refine tw_laload (k := 45) rfl (fun x385 => ?_)
            refine tw_iload (k := 46) rfl rfl ?_
            refine tw_i2l (k := 47) rfl ?_
            refine tw_lcmp (k := 48) rfl ?_
            refine tw_if_eq (k := 49) 2751 rfl (by decide) ?_ ?_
            · exact g383 ()
            · refine tw_iconst (k := 50) (0 : Int32) rfl (by decide) ?_
              exact tw_zreturn (k := 51) rfl rfl (by omega) (by omega)
      · refine tw_iconst (k := 39) (0 : Int32) rfl (by decide) ?_
        exact tw_zreturn (k := 40) rfl rfl (by omega) (by omega)
    · refine tw_if_eq (k := 29) 2717 rfl (by decide) ?_ ?_
      · refine tw_iconst (k := 32) (0 : Int32) rfl (by decide) ?_
        exact g379 (0 : Int32)
      · refine tw_iconst (k := 30) (1 : Int32) rfl (by decide) ?_
        refine tw_goto (k := 31) 2718 rfl (by decide) ?_
        exact g379 (1 : Int32)
  · refine tw_if_eq (k := 11) 2690 rfl (by decide) ?_ ?_
    · refine tw_iconst (k := 14) (0 : Int32) rfl (by decide) ?_
      exact g374 (0 : Int32)
    · refine tw_iconst (k := 12) (1 : Int32) rfl (by decide) ?_
      refine tw_goto (k := 13) 2691 rfl (by decide) ?_
      exact g374 (1 : Int32)
set_option maxHeartbeats 4000000 in
set_option maxRecDepth 100000 in
theorem C_Lc48 {g : tw_Gx} {Q : tw_Rs → tw_Mem → Prop} (a0 b1 b3 b5 : Nat) (s7 : Int32) (hP7 : s7.toNatClampNeg ≤ 3072) (j10 : Unit → tw_Mem → Prop) (g10 : ∀ z : Unit, tw_C g mL_law_ 1300 601024 7293034 Q 2993 [some (.ref a0), some (.ref b1), some (.ref b3), some (.ref b5), some (.int s7), none, none] [] (182 + s7.toNatClampNeg + 6) (20125 + 300 * s7.toNatClampNeg + 1626) (j10 z)) : tw_C g mL_law_ 1300 601024 7293034 Q 2754 [some (.ref a0), some (.ref b1), some (.ref b3), some (.ref b5), some (.int s7), none, none] [] (182 + s7.toNatClampNeg + 0) (20125 + 300 * s7.toNatClampNeg + 0) (f_Lc48 a0 b1 b3 b5 s7 j10 (fun v => Q (.inl (some (.int v))))) := by
  have g10 := fun z => tw_Ctab (r' := (tw_tb mLc48)) dk_L_law_ (g10 z)
  change ∀ z : Unit, tw_C g mLc48 _ _ _ _ _ _ _ _ _ _ at g10
  refine tw_Ctab (r := (tw_tb mLc48)) dk_Lc48 ?_
  show tw_C g mLc48 _ _ _ _ _ _ _ _ _ _
  unfold f_Lc48
  refine tw_aload_n (k := 0) rfl rfl ?_
  refine tw_aload_n (k := 1) rfl rfl ?_
  refine tw_iload (k := 2) rfl rfl ?_
  refine tw_iconst (k := 3) (1 : Int32) rfl (by decide) ?_
  refine tw_iadd (k := 4) rfl ?_
  refine tw_iaload (k := 5) rfl (fun x386 => ?_)
  refine tw_aload_n (k := 6) rfl rfl ?_
  refine tw_iload (k := 7) rfl rfl ?_
  refine tw_iconst (k := 8) (2 : Int32) rfl (by decide) ?_
  refine tw_iadd (k := 9) rfl ?_
  refine tw_iaload (k := 10) rfl (fun x387 => ?_)
  refine tw_join 2775 (fun s389 => [some (.ref a0), some (.ref b1), some (.ref b3), some (.ref b5), some (.int s7), none, none]) (fun s389 => .int s389 :: .int x386 :: .ref b1 :: []) (182 + s7.toNatClampNeg + 0) (20125 + 300 * s7.toNatClampNeg + 0) (fun s389 => ?_) (fun j388 g388 => ?_)
  · refine tw_aload_n (k := 15) rfl rfl ?_
    refine tw_callSW (k := 16) (d' := 8) (mc' := 1) (ms' := 6) tw_cI tw_cIi [.ref b1, .int x386, .int s389, .ref b5] rfl rfl wx_RL_309_L_led mo_L_led rfl (fun Q9 => K_L_led Q9 b1 x386 s389 b5) (by omega) (by omega) (by omega) (Nat.le_of_ble_eq_true rfl) (fun x390 => ?_)
    refine tw_ist (k := 17) [some (.ref a0), some (.ref b1), some (.ref b3), some (.ref b5), some (.int s7), some (.int x390), none] rfl (Nat.le_of_ble_eq_true rfl) rfl rfl ?_
    refine tw_aload_n (k := 18) rfl rfl ?_
    refine tw_aload_n (k := 19) rfl rfl ?_
    refine tw_iload (k := 20) rfl rfl ?_
    refine tw_iconst (k := 21) (1 : Int32) rfl (by decide) ?_
    refine tw_iadd (k := 22) rfl ?_
    refine tw_iaload (k := 23) rfl (fun x391 => ?_)
    refine tw_aload_n (k := 24) rfl rfl ?_
    refine tw_iload (k := 25) rfl rfl ?_
    refine tw_iconst (k := 26) (2 : Int32) rfl (by decide) ?_
    refine tw_iadd (k := 27) rfl ?_
    refine tw_iaload (k := 28) rfl (fun x392 => ?_)
    refine tw_join 2802 (fun s394 => [some (.ref a0), some (.ref b1), some (.ref b3), some (.ref b5), some (.int s7), some (.int x390), none]) (fun s394 => .int s394 :: .int x391 :: .ref b3 :: []) (182 + s7.toNatClampNeg + 1) (20125 + 300 * s7.toNatClampNeg + 6) (fun s394 => ?_) (fun j393 g393 => ?_)
    · refine tw_callV (k := 33) (d' := 3) (mc' := 0) (ms' := 0) tw_cI tw_cIi [.int x391, .int s394] rfl rfl wv_RL_311_X12_led mo_X12_led (t := 11) rfl rfl rfl (fun Q9 => K_X12_led Q9 b3 x391 s394) (by omega) (by omega) (by omega) (Nat.le_of_ble_eq_true rfl) (fun x395 => ?_)
      refine tw_ist (k := 34) [some (.ref a0), some (.ref b1), some (.ref b3), some (.ref b5), some (.int s7), some (.int x390), some (.int x395)] rfl (Nat.le_of_ble_eq_true rfl) rfl rfl ?_
      refine tw_aload_n (k := 35) rfl rfl ?_
      refine tw_callV (k := 36) (d' := 1) (mc' := 0) (ms' := 0) tw_cI tw_cIi [] rfl rfl wv_RL_152_X12_thrown mo_X12_thrown (t := 11) rfl rfl rfl (fun Q9 => K_X12_thrown Q9 b3) (by omega) (by omega) (by omega) (Nat.le_of_ble_eq_true rfl) (fun x396 => ?_)
      refine tw_iload (k := 37) rfl rfl ?_
      refine tw_icmp_eq (k := 38) 2818 rfl (by decide) ?_ ?_
      · refine tw_iload (k := 41) rfl rfl ?_
        refine tw_join 2835 (fun s398 => [some (.ref a0), some (.ref b1), some (.ref b3), some (.ref b5), some (.int s7), some (.int x390), some (.int x395)]) (fun s398 => []) (182 + s7.toNatClampNeg + 1) (20125 + 300 * s7.toNatClampNeg + 6) (fun s398 => ?_) (fun j397 g397 => ?_)
        · refine tw_goto (k := 52) 2993 rfl (by decide) ?_
          refine tw_wide (k2 := (182 + s7.toNatClampNeg + 6)) (s2 := (20125 + 300 * s7.toNatClampNeg + 1626)) (by omega) (by omega) ?_
          exact tw_wk (L' := [some (.ref a0), some (.ref b1), some (.ref b3), some (.ref b5), some (.int s7), none, none]) ⟨Or.inr rfl, Or.inr rfl, Or.inr rfl, Or.inr rfl, Or.inr rfl, Or.inl rfl, Or.inl rfl, trivial⟩ (g10 ())
        · refine tw_if_ne (k := 42) 2835 rfl (by decide) ?_ ?_
          · exact g397 ()
          · refine tw_aload_n (k := 43) rfl rfl ?_
            refine tw_iconst (k := 44) (0 : Int32) rfl (by decide) ?_
            refine tw_laload (k := 45) rfl (fun x399 => ?_)
            refine tw_iload (k := 46) rfl rfl ?_
            refine tw_i2l (k := 47) rfl ?_
            refine tw_lcmp (k := 48) rfl ?_
            refine tw_if_eq (k := 49) 2835 rfl (by decide) ?_ ?_
            · exact g397 ()
            · refine tw_iconst (k := 50) (0 : Int32) rfl (by decide) ?_
              exact tw_zreturn (k := 51) rfl rfl (by omega) (by omega)
      · refine tw_iconst (k := 39) (0 : Int32) rfl (by decide) ?_
        exact tw_zreturn (k := 40) rfl rfl (by omega) (by omega)
    · refine tw_if_eq (k := 29) 2801 rfl (by decide) ?_ ?_
      · refine tw_iconst (k := 32) (0 : Int32) rfl (by decide) ?_
        exact g393 (0 : Int32)
      · refine tw_iconst (k := 30) (1 : Int32) rfl (by decide) ?_
        refine tw_goto (k := 31) 2802 rfl (by decide) ?_
        exact g393 (1 : Int32)
  · refine tw_if_eq (k := 11) 2774 rfl (by decide) ?_ ?_
    · refine tw_iconst (k := 14) (0 : Int32) rfl (by decide) ?_
      exact g388 (0 : Int32)
    · refine tw_iconst (k := 12) (1 : Int32) rfl (by decide) ?_
      refine tw_goto (k := 13) 2775 rfl (by decide) ?_
      exact g388 (1 : Int32)
