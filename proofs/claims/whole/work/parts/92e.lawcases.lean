set_option maxHeartbeats 4000000 in
set_option maxRecDepth 100000 in
theorem C_Lc28 {g : tw_Gx} {Q : tw_Rs → tw_Mem → Prop} (a0 b1 b3 b5 : Nat) (s7 : Int32) (hP7 : s7.toNatClampNeg ≤ 3072) (j10 : Unit → tw_Mem → Prop) (g10 : ∀ z : Unit, tw_C g mL_law_ 1300 601024 7293034 Q 2993 [some (.ref a0), some (.ref b1), some (.ref b3), some (.ref b5), some (.int s7), none, none] [] (182 + s7.toNatClampNeg + 6) (20125 + 300 * s7.toNatClampNeg + 1626) (j10 z)) : tw_C g mL_law_ 1300 601024 7293034 Q 1794 [some (.ref a0), some (.ref b1), some (.ref b3), some (.ref b5), some (.int s7), none, none] [] (182 + s7.toNatClampNeg + 0) (20125 + 300 * s7.toNatClampNeg + 0) (f_Lc28 a0 b1 b3 b5 s7 j10 (fun v => Q (.inl (some (.int v))))) := by
  have g10 := fun z => tw_Ctab (r' := (tw_tb mLc28)) dk_L_law_ (g10 z)
  change ∀ z : Unit, tw_C g mLc28 _ _ _ _ _ _ _ _ _ _ at g10
  refine tw_Ctab (r := (tw_tb mLc28)) dk_Lc28 ?_
  show tw_C g mLc28 _ _ _ _ _ _ _ _ _ _
  unfold f_Lc28
  refine tw_aload_n (k := 0) rfl rfl ?_
  refine tw_aload_n (k := 1) rfl rfl ?_
  refine tw_iload (k := 2) rfl rfl ?_
  refine tw_iconst (k := 3) (1 : Int32) rfl (by decide) ?_
  refine tw_iadd (k := 4) rfl ?_
  refine tw_iaload (k := 5) rfl (fun x238 => ?_)
  refine tw_join 1809 (fun s240 => [some (.ref a0), some (.ref b1), some (.ref b3), some (.ref b5), some (.int s7), none, none]) (fun s240 => .int s240 :: .ref b1 :: []) (182 + s7.toNatClampNeg + 0) (20125 + 300 * s7.toNatClampNeg + 0) (fun s240 => ?_) (fun j239 g239 => ?_)
  · refine tw_callV (k := 10) (d' := 6) (mc' := 0) (ms' := 0) tw_cI tw_cIi [.int s240] rfl rfl wv_RL_239_X11_cut mo_X11_cut (t := 10) rfl rfl rfl (fun Q9 => K_X11_cut Q9 b1 s240) (by omega) (by omega) (by omega) (Nat.le_of_ble_eq_true rfl) (fun x241 => ?_)
    refine tw_aload_n (k := 11) rfl rfl ?_
    refine tw_aload_n (k := 12) rfl rfl ?_
    refine tw_iload (k := 13) rfl rfl ?_
    refine tw_iconst (k := 14) (1 : Int32) rfl (by decide) ?_
    refine tw_iadd (k := 15) rfl ?_
    refine tw_iaload (k := 16) rfl (fun x242 => ?_)
    refine tw_join 1827 (fun s244 => [some (.ref a0), some (.ref b1), some (.ref b3), some (.ref b5), some (.int s7), none, none]) (fun s244 => .int s244 :: .ref b3 :: .int x241 :: []) (182 + s7.toNatClampNeg + 0) (20125 + 300 * s7.toNatClampNeg + 0) (fun s244 => ?_) (fun j243 g243 => ?_)
    · refine tw_callV (k := 21) (d' := 7) (mc' := 0) (ms' := 0) tw_cI tw_cIi [.int s244] rfl rfl wv_RL_242_X12_cut mo_X12_cut (t := 11) rfl rfl rfl (fun Q9 => K_X12_cut Q9 b3 s244) (by omega) (by omega) (by omega) (Nat.le_of_ble_eq_true rfl) (fun x245 => ?_)
      refine tw_icmp_eq (k := 22) 2993 rfl (by decide) ?_ ?_
      · refine tw_wide (k2 := (182 + s7.toNatClampNeg + 6)) (s2 := (20125 + 300 * s7.toNatClampNeg + 1626)) (by omega) (by omega) ?_
        exact g10 ()
      · refine tw_iconst (k := 23) (0 : Int32) rfl (by decide) ?_
        exact tw_zreturn (k := 24) rfl rfl (by omega) (by omega)
    · refine tw_if_eq (k := 17) 1826 rfl (by decide) ?_ ?_
      · refine tw_iconst (k := 20) (0 : Int32) rfl (by decide) ?_
        exact g243 (0 : Int32)
      · refine tw_iconst (k := 18) (1 : Int32) rfl (by decide) ?_
        refine tw_goto (k := 19) 1827 rfl (by decide) ?_
        exact g243 (1 : Int32)
  · refine tw_if_eq (k := 6) 1808 rfl (by decide) ?_ ?_
    · refine tw_iconst (k := 9) (0 : Int32) rfl (by decide) ?_
      exact g239 (0 : Int32)
    · refine tw_iconst (k := 7) (1 : Int32) rfl (by decide) ?_
      refine tw_goto (k := 8) 1809 rfl (by decide) ?_
      exact g239 (1 : Int32)
set_option maxHeartbeats 4000000 in
set_option maxRecDepth 100000 in
theorem C_Lc29 {g : tw_Gx} {Q : tw_Rs → tw_Mem → Prop} (a0 b1 b3 b5 : Nat) (s7 : Int32) (hP7 : s7.toNatClampNeg ≤ 3072) (j10 : Unit → tw_Mem → Prop) (g10 : ∀ z : Unit, tw_C g mL_law_ 1300 601024 7293034 Q 2993 [some (.ref a0), some (.ref b1), some (.ref b3), some (.ref b5), some (.int s7), none, none] [] (182 + s7.toNatClampNeg + 6) (20125 + 300 * s7.toNatClampNeg + 1626) (j10 z)) : tw_C g mL_law_ 1300 601024 7293034 Q 1835 [some (.ref a0), some (.ref b1), some (.ref b3), some (.ref b5), some (.int s7), none, none] [] (182 + s7.toNatClampNeg + 0) (20125 + 300 * s7.toNatClampNeg + 0) (f_Lc29 a0 b1 b3 b5 s7 j10 (fun v => Q (.inl (some (.int v))))) := by
  have g10 := fun z => tw_Ctab (r' := (tw_tb mLc29)) dk_L_law_ (g10 z)
  change ∀ z : Unit, tw_C g mLc29 _ _ _ _ _ _ _ _ _ _ at g10
  refine tw_Ctab (r := (tw_tb mLc29)) dk_Lc29 ?_
  show tw_C g mLc29 _ _ _ _ _ _ _ _ _ _
  unfold f_Lc29
  refine tw_aload_n (k := 0) rfl rfl ?_
  refine tw_callV (k := 1) (d' := 5) (mc' := 0) (ms' := 0) tw_cI tw_cIi [] rfl rfl wv_RL_243_X11_heads mo_X11_heads (t := 10) rfl rfl rfl (fun Q9 => K_X11_heads Q9 b1) (by omega) (by omega) (by omega) (Nat.le_of_ble_eq_true rfl) (fun x246 => ?_)
  refine tw_aload_n (k := 2) rfl rfl ?_
  refine tw_callV (k := 3) (d' := 5) (mc' := 0) (ms' := 0) tw_cI tw_cIi [] rfl rfl wv_RL_246_X12_heads mo_X12_heads (t := 11) rfl rfl rfl (fun Q9 => K_X12_heads Q9 b3) (by omega) (by omega) (by omega) (Nat.le_of_ble_eq_true rfl) (fun x247 => ?_)
  refine tw_icmp_eq (k := 4) 2993 rfl (by decide) ?_ ?_
  · refine tw_wide (k2 := (182 + s7.toNatClampNeg + 6)) (s2 := (20125 + 300 * s7.toNatClampNeg + 1626)) (by omega) (by omega) ?_
    exact g10 ()
  · refine tw_iconst (k := 5) (0 : Int32) rfl (by decide) ?_
    exact tw_zreturn (k := 6) rfl rfl (by omega) (by omega)
set_option maxHeartbeats 4000000 in
set_option maxRecDepth 100000 in
theorem C_Lc30 {g : tw_Gx} {Q : tw_Rs → tw_Mem → Prop} (a0 b1 b3 b5 : Nat) (s7 : Int32) (hP7 : s7.toNatClampNeg ≤ 3072) (j10 : Unit → tw_Mem → Prop) (g10 : ∀ z : Unit, tw_C g mL_law_ 1300 601024 7293034 Q 2993 [some (.ref a0), some (.ref b1), some (.ref b3), some (.ref b5), some (.int s7), none, none] [] (182 + s7.toNatClampNeg + 6) (20125 + 300 * s7.toNatClampNeg + 1626) (j10 z)) : tw_C g mL_law_ 1300 601024 7293034 Q 1848 [some (.ref a0), some (.ref b1), some (.ref b3), some (.ref b5), some (.int s7), none, none] [] (182 + s7.toNatClampNeg + 0) (20125 + 300 * s7.toNatClampNeg + 0) (f_Lc30 a0 b1 b3 b5 s7 j10 (fun v => Q (.inl (some (.int v))))) := by
  have g10 := fun z => tw_Ctab (r' := (tw_tb mLc30)) dk_L_law_ (g10 z)
  change ∀ z : Unit, tw_C g mLc30 _ _ _ _ _ _ _ _ _ _ at g10
  refine tw_Ctab (r := (tw_tb mLc30)) dk_Lc30 ?_
  show tw_C g mLc30 _ _ _ _ _ _ _ _ _ _
  unfold f_Lc30
  refine tw_aload_n (k := 0) rfl rfl ?_
  refine tw_aload_n (k := 1) rfl rfl ?_
  refine tw_iload (k := 2) rfl rfl ?_
  refine tw_iconst (k := 3) (1 : Int32) rfl (by decide) ?_
  refine tw_iadd (k := 4) rfl ?_
  refine tw_iaload (k := 5) rfl (fun x248 => ?_)
  refine tw_aload_n (k := 6) rfl rfl ?_
  refine tw_iload (k := 7) rfl rfl ?_
  refine tw_iconst (k := 8) (2 : Int32) rfl (by decide) ?_
  refine tw_iadd (k := 9) rfl ?_
  refine tw_iaload (k := 10) rfl (fun x249 => ?_)
  refine tw_aload_n (k := 11) rfl rfl ?_
  refine tw_callSW (k := 12) (d' := 8) (mc' := 2) (ms' := 12) tw_cI tw_cIi [.ref b1, .int x248, .int x249, .ref b5] rfl rfl wx_RL_247_L_depth mo_L_depth rfl (fun Q9 => K_L_depth Q9 b1 x248 x249 b5) (by omega) (by omega) (by omega) (Nat.le_of_ble_eq_true rfl) (fun x250 => ?_)
  refine tw_ist (k := 13) [some (.ref a0), some (.ref b1), some (.ref b3), some (.ref b5), some (.int s7), some (.int x250), none] rfl (Nat.le_of_ble_eq_true rfl) rfl rfl ?_
  refine tw_aload_n (k := 14) rfl rfl ?_
  refine tw_aload_n (k := 15) rfl rfl ?_
  refine tw_iload (k := 16) rfl rfl ?_
  refine tw_iconst (k := 17) (1 : Int32) rfl (by decide) ?_
  refine tw_iadd (k := 18) rfl ?_
  refine tw_iaload (k := 19) rfl (fun x251 => ?_)
  refine tw_aload_n (k := 20) rfl rfl ?_
  refine tw_iload (k := 21) rfl rfl ?_
  refine tw_iconst (k := 22) (2 : Int32) rfl (by decide) ?_
  refine tw_iadd (k := 23) rfl ?_
  refine tw_iaload (k := 24) rfl (fun x252 => ?_)
  refine tw_callV (k := 25) (d' := 5) (mc' := 0) (ms' := 0) tw_cI tw_cIi [.int x251, .int x252] rfl rfl wv_RL_249_X12_depth mo_X12_depth (t := 11) rfl rfl rfl (fun Q9 => K_X12_depth Q9 b3 x251 x252) (by omega) (by omega) (by omega) (Nat.le_of_ble_eq_true rfl) (fun x253 => ?_)
  refine tw_ist (k := 26) [some (.ref a0), some (.ref b1), some (.ref b3), some (.ref b5), some (.int s7), some (.int x250), some (.int x253)] rfl (Nat.le_of_ble_eq_true rfl) rfl rfl ?_
  refine tw_aload_n (k := 27) rfl rfl ?_
  refine tw_callV (k := 28) (d' := 1) (mc' := 0) (ms' := 0) tw_cI tw_cIi [] rfl rfl wv_RL_152_X12_thrown mo_X12_thrown (t := 11) rfl rfl rfl (fun Q9 => K_X12_thrown Q9 b3) (by omega) (by omega) (by omega) (Nat.le_of_ble_eq_true rfl) (fun x254 => ?_)
  refine tw_iload (k := 29) rfl rfl ?_
  refine tw_icmp_eq (k := 30) 1896 rfl (by decide) ?_ ?_
  · refine tw_iload (k := 33) rfl rfl ?_
    refine tw_join 1913 (fun s256 => [some (.ref a0), some (.ref b1), some (.ref b3), some (.ref b5), some (.int s7), some (.int x250), some (.int x253)]) (fun s256 => []) (182 + s7.toNatClampNeg + 2) (20125 + 300 * s7.toNatClampNeg + 12) (fun s256 => ?_) (fun j255 g255 => ?_)
    · refine tw_goto (k := 44) 2993 rfl (by decide) ?_
      refine tw_wide (k2 := (182 + s7.toNatClampNeg + 6)) (s2 := (20125 + 300 * s7.toNatClampNeg + 1626)) (by omega) (by omega) ?_
      exact tw_wk (L' := [some (.ref a0), some (.ref b1), some (.ref b3), some (.ref b5), some (.int s7), none, none]) ⟨Or.inr rfl, Or.inr rfl, Or.inr rfl, Or.inr rfl, Or.inr rfl, Or.inl rfl, Or.inl rfl, trivial⟩ (g10 ())
    · refine tw_if_ne (k := 34) 1913 rfl (by decide) ?_ ?_
      · exact g255 ()
      · refine tw_aload_n (k := 35) rfl rfl ?_
        refine tw_iconst (k := 36) (0 : Int32) rfl (by decide) ?_
        refine tw_laload (k := 37) rfl (fun x257 => ?_)
        refine tw_iload (k := 38) rfl rfl ?_
        refine tw_i2l (k := 39) rfl ?_
        refine tw_lcmp (k := 40) rfl ?_
        refine tw_if_eq (k := 41) 1913 rfl (by decide) ?_ ?_
        · exact g255 ()
        · refine tw_iconst (k := 42) (0 : Int32) rfl (by decide) ?_
          exact tw_zreturn (k := 43) rfl rfl (by omega) (by omega)
  · refine tw_iconst (k := 31) (0 : Int32) rfl (by decide) ?_
    exact tw_zreturn (k := 32) rfl rfl (by omega) (by omega)
set_option maxHeartbeats 4000000 in
set_option maxRecDepth 100000 in
theorem C_Lc31 {g : tw_Gx} {Q : tw_Rs → tw_Mem → Prop} (a0 b1 b3 b5 : Nat) (s7 : Int32) (hP7 : s7.toNatClampNeg ≤ 3072) (j10 : Unit → tw_Mem → Prop) (g10 : ∀ z : Unit, tw_C g mL_law_ 1300 601024 7293034 Q 2993 [some (.ref a0), some (.ref b1), some (.ref b3), some (.ref b5), some (.int s7), none, none] [] (182 + s7.toNatClampNeg + 6) (20125 + 300 * s7.toNatClampNeg + 1626) (j10 z)) : tw_C g mL_law_ 1300 601024 7293034 Q 1916 [some (.ref a0), some (.ref b1), some (.ref b3), some (.ref b5), some (.int s7), none, none] [] (182 + s7.toNatClampNeg + 0) (20125 + 300 * s7.toNatClampNeg + 0) (f_Lc31 a0 b1 b3 b5 s7 j10 (fun v => Q (.inl (some (.int v))))) := by
  have g10 := fun z => tw_Ctab (r' := (tw_tb mLc31)) dk_L_law_ (g10 z)
  change ∀ z : Unit, tw_C g mLc31 _ _ _ _ _ _ _ _ _ _ at g10
  refine tw_Ctab (r := (tw_tb mLc31)) dk_Lc31 ?_
  show tw_C g mLc31 _ _ _ _ _ _ _ _ _ _
  unfold f_Lc31
  refine tw_aload_n (k := 0) rfl rfl ?_
  refine tw_aload_n (k := 1) rfl rfl ?_
  refine tw_iload (k := 2) rfl rfl ?_
  refine tw_iconst (k := 3) (1 : Int32) rfl (by decide) ?_
  refine tw_iadd (k := 4) rfl ?_
  refine tw_iaload (k := 5) rfl (fun x258 => ?_)
  refine tw_aload_n (k := 6) rfl rfl ?_
  refine tw_callSW (k := 7) (d' := 8) (mc' := 1) (ms' := 6) tw_cI tw_cIi [.ref b1, .int x258, .ref b5] rfl rfl wx_RL_250_L_circle mo_L_circle rfl (fun Q9 => K_L_circle Q9 b1 x258 b5) (by omega) (by omega) (by omega) (Nat.le_of_ble_eq_true rfl) (fun x259 => ?_)
  refine tw_ist (k := 8) [some (.ref a0), some (.ref b1), some (.ref b3), some (.ref b5), some (.int s7), some (.int x259), none] rfl (Nat.le_of_ble_eq_true rfl) rfl rfl ?_
  refine tw_aload_n (k := 9) rfl rfl ?_
  refine tw_aload_n (k := 10) rfl rfl ?_
  refine tw_iload (k := 11) rfl rfl ?_
  refine tw_iconst (k := 12) (1 : Int32) rfl (by decide) ?_
  refine tw_iadd (k := 13) rfl ?_
  refine tw_iaload (k := 14) rfl (fun x260 => ?_)
  refine tw_callV (k := 15) (d' := 5) (mc' := 0) (ms' := 0) tw_cI tw_cIi [.int x260] rfl rfl wv_RL_252_X12_circle mo_X12_circle (t := 11) rfl rfl rfl (fun Q9 => K_X12_circle Q9 b3 x260) (by omega) (by omega) (by omega) (Nat.le_of_ble_eq_true rfl) (fun x261 => ?_)
  refine tw_ist (k := 16) [some (.ref a0), some (.ref b1), some (.ref b3), some (.ref b5), some (.int s7), some (.int x259), some (.int x261)] rfl (Nat.le_of_ble_eq_true rfl) rfl rfl ?_
  refine tw_aload_n (k := 17) rfl rfl ?_
  refine tw_callV (k := 18) (d' := 1) (mc' := 0) (ms' := 0) tw_cI tw_cIi [] rfl rfl wv_RL_152_X12_thrown mo_X12_thrown (t := 11) rfl rfl rfl (fun Q9 => K_X12_thrown Q9 b3) (by omega) (by omega) (by omega) (Nat.le_of_ble_eq_true rfl) (fun x262 => ?_)
  refine tw_iload (k := 19) rfl rfl ?_
  refine tw_icmp_eq (k := 20) 1952 rfl (by decide) ?_ ?_
  · refine tw_iload (k := 23) rfl rfl ?_
    refine tw_join 1969 (fun s264 => [some (.ref a0), some (.ref b1), some (.ref b3), some (.ref b5), some (.int s7), some (.int x259), some (.int x261)]) (fun s264 => []) (182 + s7.toNatClampNeg + 1) (20125 + 300 * s7.toNatClampNeg + 6) (fun s264 => ?_) (fun j263 g263 => ?_)
    · refine tw_goto (k := 34) 2993 rfl (by decide) ?_
      refine tw_wide (k2 := (182 + s7.toNatClampNeg + 6)) (s2 := (20125 + 300 * s7.toNatClampNeg + 1626)) (by omega) (by omega) ?_
      exact tw_wk (L' := [some (.ref a0), some (.ref b1), some (.ref b3), some (.ref b5), some (.int s7), none, none]) ⟨Or.inr rfl, Or.inr rfl, Or.inr rfl, Or.inr rfl, Or.inr rfl, Or.inl rfl, Or.inl rfl, trivial⟩ (g10 ())
    · refine tw_if_ne (k := 24) 1969 rfl (by decide) ?_ ?_
      · exact g263 ()
      · refine tw_aload_n (k := 25) rfl rfl ?_
        refine tw_iconst (k := 26) (0 : Int32) rfl (by decide) ?_
        refine tw_laload (k := 27) rfl (fun x265 => ?_)
        refine tw_iload (k := 28) rfl rfl ?_
        refine tw_i2l (k := 29) rfl ?_
        refine tw_lcmp (k := 30) rfl ?_
        refine tw_if_eq (k := 31) 1969 rfl (by decide) ?_ ?_
        · exact g263 ()
        · refine tw_iconst (k := 32) (0 : Int32) rfl (by decide) ?_
          exact tw_zreturn (k := 33) rfl rfl (by omega) (by omega)
  · refine tw_iconst (k := 21) (0 : Int32) rfl (by decide) ?_
    exact tw_zreturn (k := 22) rfl rfl (by omega) (by omega)
set_option maxHeartbeats 4000000 in
set_option maxRecDepth 100000 in
theorem C_Lc32 {g : tw_Gx} {Q : tw_Rs → tw_Mem → Prop} (a0 b1 b3 b5 : Nat) (s7 : Int32) (hP7 : s7.toNatClampNeg ≤ 3072) (j10 : Unit → tw_Mem → Prop) (g10 : ∀ z : Unit, tw_C g mL_law_ 1300 601024 7293034 Q 2993 [some (.ref a0), some (.ref b1), some (.ref b3), some (.ref b5), some (.int s7), none, none] [] (182 + s7.toNatClampNeg + 6) (20125 + 300 * s7.toNatClampNeg + 1626) (j10 z)) : tw_C g mL_law_ 1300 601024 7293034 Q 1972 [some (.ref a0), some (.ref b1), some (.ref b3), some (.ref b5), some (.int s7), none, none] [] (182 + s7.toNatClampNeg + 0) (20125 + 300 * s7.toNatClampNeg + 0) (f_Lc32 a0 b1 b3 b5 s7 j10 (fun v => Q (.inl (some (.int v))))) := by
  have g10 := fun z => tw_Ctab (r' := (tw_tb mLc32)) dk_L_law_ (g10 z)
  change ∀ z : Unit, tw_C g mLc32 _ _ _ _ _ _ _ _ _ _ at g10
  refine tw_Ctab (r := (tw_tb mLc32)) dk_Lc32 ?_
  show tw_C g mLc32 _ _ _ _ _ _ _ _ _ _
  unfold f_Lc32
  refine tw_aload_n (k := 0) rfl rfl ?_
  refine tw_aload_n (k := 1) rfl rfl ?_
  refine tw_iload (k := 2) rfl rfl ?_
  refine tw_iconst (k := 3) (1 : Int32) rfl (by decide) ?_
  refine tw_iadd (k := 4) rfl ?_
  refine tw_iaload (k := 5) rfl (fun x266 => ?_)
  refine tw_join 1987 (fun s268 => [some (.ref a0), some (.ref b1), some (.ref b3), some (.ref b5), some (.int s7), none, none]) (fun s268 => .int s268 :: .ref b1 :: []) (182 + s7.toNatClampNeg + 0) (20125 + 300 * s7.toNatClampNeg + 0) (fun s268 => ?_) (fun j267 g267 => ?_)
  · refine tw_aload_n (k := 10) rfl rfl ?_
    refine tw_callSW (k := 11) (d' := 9) (mc' := 1) (ms' := 6) tw_cI tw_cIi [.ref b1, .int s268, .ref b5] rfl rfl wx_RL_253_L_pulled mo_L_pulled rfl (fun Q9 => K_L_pulled Q9 b1 s268 b5) (by omega) (by omega) (by omega) (Nat.le_of_ble_eq_true rfl) (fun x269 => ?_)
    refine tw_ist (k := 12) [some (.ref a0), some (.ref b1), some (.ref b3), some (.ref b5), some (.int s7), some (.int x269), none] rfl (Nat.le_of_ble_eq_true rfl) rfl rfl ?_
    refine tw_aload_n (k := 13) rfl rfl ?_
    refine tw_aload_n (k := 14) rfl rfl ?_
    refine tw_iload (k := 15) rfl rfl ?_
    refine tw_iconst (k := 16) (1 : Int32) rfl (by decide) ?_
    refine tw_iadd (k := 17) rfl ?_
    refine tw_iaload (k := 18) rfl (fun x270 => ?_)
    refine tw_join 2008 (fun s272 => [some (.ref a0), some (.ref b1), some (.ref b3), some (.ref b5), some (.int s7), some (.int x269), none]) (fun s272 => .int s272 :: .ref b3 :: []) (182 + s7.toNatClampNeg + 1) (20125 + 300 * s7.toNatClampNeg + 6) (fun s272 => ?_) (fun j271 g271 => ?_)
    · refine tw_callV (k := 23) (d' := 12) (mc' := 0) (ms' := 0) tw_cI tw_cIi [.int s272] rfl rfl wv_RL_256_X12_pulled mo_X12_pulled (t := 11) rfl rfl rfl (fun Q9 => K_X12_pulled Q9 b3 s272) (by omega) (by omega) (by omega) (Nat.le_of_ble_eq_true rfl) (fun x273 => ?_)
      refine tw_ist (k := 24) [some (.ref a0), some (.ref b1), some (.ref b3), some (.ref b5), some (.int s7), some (.int x269), some (.int x273)] rfl (Nat.le_of_ble_eq_true rfl) rfl rfl ?_
      refine tw_aload_n (k := 25) rfl rfl ?_
      refine tw_callV (k := 26) (d' := 1) (mc' := 0) (ms' := 0) tw_cI tw_cIi [] rfl rfl wv_RL_152_X12_thrown mo_X12_thrown (t := 11) rfl rfl rfl (fun Q9 => K_X12_thrown Q9 b3) (by omega) (by omega) (by omega) (Nat.le_of_ble_eq_true rfl) (fun x274 => ?_)
      refine tw_iload (k := 27) rfl rfl ?_
      refine tw_icmp_eq (k := 28) 2024 rfl (by decide) ?_ ?_
      · refine tw_iload (k := 31) rfl rfl ?_
        refine tw_join 2041 (fun s276 => [some (.ref a0), some (.ref b1), some (.ref b3), some (.ref b5), some (.int s7), some (.int x269), some (.int x273)]) (fun s276 => []) (182 + s7.toNatClampNeg + 1) (20125 + 300 * s7.toNatClampNeg + 6) (fun s276 => ?_) (fun j275 g275 => ?_)
        · refine tw_goto (k := 42) 2993 rfl (by decide) ?_
          refine tw_wide (k2 := (182 + s7.toNatClampNeg + 6)) (s2 := (20125 + 300 * s7.toNatClampNeg + 1626)) (by omega) (by omega) ?_
          exact tw_wk (L' := [some (.ref a0), some (.ref b1), some (.ref b3), some (.ref b5), some (.int s7), none, none]) ⟨Or.inr rfl, Or.inr rfl, Or.inr rfl, Or.inr rfl, Or.inr rfl, Or.inl rfl, Or.inl rfl, trivial⟩ (g10 ())
        · refine tw_if_ne (k := 32) 2041 rfl (by decide) ?_ ?_
          · exact g275 ()
          · refine tw_aload_n (k := 33) rfl rfl ?_
            refine tw_iconst (k := 34) (0 : Int32) rfl (by decide) ?_
            refine tw_laload (k := 35) rfl (fun x277 => ?_)
            refine tw_iload (k := 36) rfl rfl ?_
            refine tw_i2l (k := 37) rfl ?_
            refine tw_lcmp (k := 38) rfl ?_
            refine tw_if_eq (k := 39) 2041 rfl (by decide) ?_ ?_
            · exact g275 ()
            · refine tw_iconst (k := 40) (0 : Int32) rfl (by decide) ?_
              exact tw_zreturn (k := 41) rfl rfl (by omega) (by omega)
      · refine tw_iconst (k := 29) (0 : Int32) rfl (by decide) ?_
        exact tw_zreturn (k := 30) rfl rfl (by omega) (by omega)
    · refine tw_if_eq (k := 19) 2007 rfl (by decide) ?_ ?_
      · refine tw_iconst (k := 22) (0 : Int32) rfl (by decide) ?_
        exact g271 (0 : Int32)
      · refine tw_iconst (k := 20) (1 : Int32) rfl (by decide) ?_
        refine tw_goto (k := 21) 2008 rfl (by decide) ?_
        exact g271 (1 : Int32)
  · refine tw_if_eq (k := 6) 1986 rfl (by decide) ?_ ?_
    · refine tw_iconst (k := 9) (0 : Int32) rfl (by decide) ?_
      exact g267 (0 : Int32)
    · refine tw_iconst (k := 7) (1 : Int32) rfl (by decide) ?_
      refine tw_goto (k := 8) 1987 rfl (by decide) ?_
      exact g267 (1 : Int32)
set_option maxHeartbeats 4000000 in
set_option maxRecDepth 100000 in
theorem C_Lc33 {g : tw_Gx} {Q : tw_Rs → tw_Mem → Prop} (a0 b1 b3 b5 : Nat) (s7 : Int32) (hP7 : s7.toNatClampNeg ≤ 3072) (j10 : Unit → tw_Mem → Prop) (g10 : ∀ z : Unit, tw_C g mL_law_ 1300 601024 7293034 Q 2993 [some (.ref a0), some (.ref b1), some (.ref b3), some (.ref b5), some (.int s7), none, none] [] (182 + s7.toNatClampNeg + 6) (20125 + 300 * s7.toNatClampNeg + 1626) (j10 z)) : tw_C g mL_law_ 1300 601024 7293034 Q 2044 [some (.ref a0), some (.ref b1), some (.ref b3), some (.ref b5), some (.int s7), none, none] [] (182 + s7.toNatClampNeg + 0) (20125 + 300 * s7.toNatClampNeg + 0) (f_Lc33 a0 b1 b3 b5 s7 j10 (fun v => Q (.inl (some (.int v))))) := by
  have g10 := fun z => tw_Ctab (r' := (tw_tb mLc33)) dk_L_law_ (g10 z)
  change ∀ z : Unit, tw_C g mLc33 _ _ _ _ _ _ _ _ _ _ at g10
  refine tw_Ctab (r := (tw_tb mLc33)) dk_Lc33 ?_
  show tw_C g mLc33 _ _ _ _ _ _ _ _ _ _
  unfold f_Lc33
  refine tw_aload_n (k := 0) rfl rfl ?_
  refine tw_aload_n (k := 1) rfl rfl ?_
  refine tw_callSW (k := 2) (d' := 9) (mc' := 1) (ms' := 6) tw_cI tw_cIi [.ref b1, .ref b5] rfl rfl wx_RL_257_L_listen mo_L_listen rfl (fun Q9 => K_L_listen Q9 b1 b5) (by omega) (by omega) (by omega) (Nat.le_of_ble_eq_true rfl) (fun x278 => ?_)
  refine tw_ist (k := 3) [some (.ref a0), some (.ref b1), some (.ref b3), some (.ref b5), some (.int s7), some (.int x278), none] rfl (Nat.le_of_ble_eq_true rfl) rfl rfl ?_
  refine tw_aload_n (k := 4) rfl rfl ?_
  refine tw_callV (k := 5) (d' := 12) (mc' := 0) (ms' := 0) tw_cI tw_cIi [] rfl rfl wv_RL_259_X12_listen mo_X12_listen (t := 11) rfl rfl rfl (fun Q9 => K_X12_listen Q9 b3) (by omega) (by omega) (by omega) (Nat.le_of_ble_eq_true rfl) (fun x279 => ?_)
  refine tw_ist (k := 6) [some (.ref a0), some (.ref b1), some (.ref b3), some (.ref b5), some (.int s7), some (.int x278), some (.int x279)] rfl (Nat.le_of_ble_eq_true rfl) rfl rfl ?_
  refine tw_aload_n (k := 7) rfl rfl ?_
  refine tw_callV (k := 8) (d' := 1) (mc' := 0) (ms' := 0) tw_cI tw_cIi [] rfl rfl wv_RL_152_X12_thrown mo_X12_thrown (t := 11) rfl rfl rfl (fun Q9 => K_X12_thrown Q9 b3) (by omega) (by omega) (by omega) (Nat.le_of_ble_eq_true rfl) (fun x280 => ?_)
  refine tw_iload (k := 9) rfl rfl ?_
  refine tw_icmp_eq (k := 10) 2068 rfl (by decide) ?_ ?_
  · refine tw_iload (k := 13) rfl rfl ?_
    refine tw_join 2085 (fun s282 => [some (.ref a0), some (.ref b1), some (.ref b3), some (.ref b5), some (.int s7), some (.int x278), some (.int x279)]) (fun s282 => []) (182 + s7.toNatClampNeg + 1) (20125 + 300 * s7.toNatClampNeg + 6) (fun s282 => ?_) (fun j281 g281 => ?_)
    · refine tw_goto (k := 24) 2993 rfl (by decide) ?_
      refine tw_wide (k2 := (182 + s7.toNatClampNeg + 6)) (s2 := (20125 + 300 * s7.toNatClampNeg + 1626)) (by omega) (by omega) ?_
      exact tw_wk (L' := [some (.ref a0), some (.ref b1), some (.ref b3), some (.ref b5), some (.int s7), none, none]) ⟨Or.inr rfl, Or.inr rfl, Or.inr rfl, Or.inr rfl, Or.inr rfl, Or.inl rfl, Or.inl rfl, trivial⟩ (g10 ())
    · refine tw_if_ne (k := 14) 2085 rfl (by decide) ?_ ?_
      · exact g281 ()
      · refine tw_aload_n (k := 15) rfl rfl ?_
        refine tw_iconst (k := 16) (0 : Int32) rfl (by decide) ?_
        refine tw_laload (k := 17) rfl (fun x283 => ?_)
        refine tw_iload (k := 18) rfl rfl ?_
        refine tw_i2l (k := 19) rfl ?_
        refine tw_lcmp (k := 20) rfl ?_
        refine tw_if_eq (k := 21) 2085 rfl (by decide) ?_ ?_
        · exact g281 ()
        · refine tw_iconst (k := 22) (0 : Int32) rfl (by decide) ?_
          exact tw_zreturn (k := 23) rfl rfl (by omega) (by omega)
  · refine tw_iconst (k := 11) (0 : Int32) rfl (by decide) ?_
    exact tw_zreturn (k := 12) rfl rfl (by omega) (by omega)
set_option maxHeartbeats 4000000 in
set_option maxRecDepth 100000 in
theorem C_Lc34 {g : tw_Gx} {Q : tw_Rs → tw_Mem → Prop} (a0 b1 b3 b5 : Nat) (s7 : Int32) (hP7 : s7.toNatClampNeg ≤ 3072) (j10 : Unit → tw_Mem → Prop) (g10 : ∀ z : Unit, tw_C g mL_law_ 1300 601024 7293034 Q 2993 [some (.ref a0), some (.ref b1), some (.ref b3), some (.ref b5), some (.int s7), none, none] [] (182 + s7.toNatClampNeg + 6) (20125 + 300 * s7.toNatClampNeg + 1626) (j10 z)) : tw_C g mL_law_ 1300 601024 7293034 Q 2088 [some (.ref a0), some (.ref b1), some (.ref b3), some (.ref b5), some (.int s7), none, none] [] (182 + s7.toNatClampNeg + 0) (20125 + 300 * s7.toNatClampNeg + 0) (f_Lc34 a0 b1 b3 b5 s7 j10 (fun v => Q (.inl (some (.int v))))) := by
  have g10 := fun z => tw_Ctab (r' := (tw_tb mLc34)) dk_L_law_ (g10 z)
  change ∀ z : Unit, tw_C g mLc34 _ _ _ _ _ _ _ _ _ _ at g10
  refine tw_Ctab (r := (tw_tb mLc34)) dk_Lc34 ?_
  show tw_C g mLc34 _ _ _ _ _ _ _ _ _ _
  unfold f_Lc34
  refine tw_aload_n (k := 0) rfl rfl ?_
  refine tw_aload_n (k := 1) rfl rfl ?_
  refine tw_iload (k := 2) rfl rfl ?_
  refine tw_iconst (k := 3) (1 : Int32) rfl (by decide) ?_
  refine tw_iadd (k := 4) rfl ?_
  refine tw_iaload (k := 5) rfl (fun x284 => ?_)
  refine tw_aload_n (k := 6) rfl rfl ?_
  refine tw_callSW (k := 7) (d' := 8) (mc' := 1) (ms' := 6) tw_cI tw_cIi [.ref b1, .int x284, .ref b5] rfl rfl wx_RL_260_L_cheap mo_L_cheap rfl (fun Q9 => K_L_cheap Q9 b1 x284 b5) (by omega) (by omega) (by omega) (Nat.le_of_ble_eq_true rfl) (fun x285 => ?_)
  refine tw_ist (k := 8) [some (.ref a0), some (.ref b1), some (.ref b3), some (.ref b5), some (.int s7), some (.int x285), none] rfl (Nat.le_of_ble_eq_true rfl) rfl rfl ?_
  refine tw_aload_n (k := 9) rfl rfl ?_
  refine tw_aload_n (k := 10) rfl rfl ?_
  refine tw_iload (k := 11) rfl rfl ?_
  refine tw_iconst (k := 12) (1 : Int32) rfl (by decide) ?_
  refine tw_iadd (k := 13) rfl ?_
  refine tw_iaload (k := 14) rfl (fun x286 => ?_)
  refine tw_callV (k := 15) (d' := 6) (mc' := 0) (ms' := 0) tw_cI tw_cIi [.int x286] rfl rfl wv_RL_262_X12_cheap mo_X12_cheap (t := 11) rfl rfl rfl (fun Q9 => K_X12_cheap Q9 b3 x286) (by omega) (by omega) (by omega) (Nat.le_of_ble_eq_true rfl) (fun x287 => ?_)
  refine tw_ist (k := 16) [some (.ref a0), some (.ref b1), some (.ref b3), some (.ref b5), some (.int s7), some (.int x285), some (.int x287)] rfl (Nat.le_of_ble_eq_true rfl) rfl rfl ?_
  refine tw_aload_n (k := 17) rfl rfl ?_
  refine tw_callV (k := 18) (d' := 1) (mc' := 0) (ms' := 0) tw_cI tw_cIi [] rfl rfl wv_RL_152_X12_thrown mo_X12_thrown (t := 11) rfl rfl rfl (fun Q9 => K_X12_thrown Q9 b3) (by omega) (by omega) (by omega) (Nat.le_of_ble_eq_true rfl) (fun x288 => ?_)
  refine tw_iload (k := 19) rfl rfl ?_
  refine tw_icmp_eq (k := 20) 2124 rfl (by decide) ?_ ?_
  · refine tw_iload (k := 23) rfl rfl ?_
    refine tw_join 2141 (fun s290 => [some (.ref a0), some (.ref b1), some (.ref b3), some (.ref b5), some (.int s7), some (.int x285), some (.int x287)]) (fun s290 => []) (182 + s7.toNatClampNeg + 1) (20125 + 300 * s7.toNatClampNeg + 6) (fun s290 => ?_) (fun j289 g289 => ?_)
    · refine tw_goto (k := 34) 2993 rfl (by decide) ?_
      refine tw_wide (k2 := (182 + s7.toNatClampNeg + 6)) (s2 := (20125 + 300 * s7.toNatClampNeg + 1626)) (by omega) (by omega) ?_
      exact tw_wk (L' := [some (.ref a0), some (.ref b1), some (.ref b3), some (.ref b5), some (.int s7), none, none]) ⟨Or.inr rfl, Or.inr rfl, Or.inr rfl, Or.inr rfl, Or.inr rfl, Or.inl rfl, Or.inl rfl, trivial⟩ (g10 ())
    · refine tw_if_ne (k := 24) 2141 rfl (by decide) ?_ ?_
      · exact g289 ()
      · refine tw_aload_n (k := 25) rfl rfl ?_
        refine tw_iconst (k := 26) (0 : Int32) rfl (by decide) ?_
        refine tw_laload (k := 27) rfl (fun x291 => ?_)
        refine tw_iload (k := 28) rfl rfl ?_
        refine tw_i2l (k := 29) rfl ?_
        refine tw_lcmp (k := 30) rfl ?_
        refine tw_if_eq (k := 31) 2141 rfl (by decide) ?_ ?_
        · exact g289 ()
        · refine tw_iconst (k := 32) (0 : Int32) rfl (by decide) ?_
          exact tw_zreturn (k := 33) rfl rfl (by omega) (by omega)
  · refine tw_iconst (k := 21) (0 : Int32) rfl (by decide) ?_
    exact tw_zreturn (k := 22) rfl rfl (by omega) (by omega)
