def f_Lc27 (a0 b1 b3 b5 : Nat) (s7 : Int32) (j10 : Unit → tw_Mem → Prop) (k : Int32 → tw_Mem → Prop) : tw_Mem → Prop :=
  tw_iv 10 b1 (f_X11_go b1 (fun x236 => tw_iv 11 b3 (f_X12_go b3 (fun x237 => tw_if (x236 = x237) (j10 ()) (tw_rz (0 : Int32) (k (0 : Int32)))))))
set_option maxHeartbeats 4000000 in
set_option maxRecDepth 100000 in
theorem C_Lc27 {g : tw_Gx} {Q : tw_Rs → tw_Mem → Prop} (a0 b1 b3 b5 : Nat) (s7 : Int32) (hP7 : s7.toNatClampNeg ≤ 3072) (j10 : Unit → tw_Mem → Prop) (g10 : ∀ z : Unit, tw_C g mL_law_ 1300 601024 7293034 Q 2993 [some (.ref a0), some (.ref b1), some (.ref b3), some (.ref b5), some (.int s7), none, none] [] (182 + s7.toNatClampNeg + 6) (20089 + 300 * s7.toNatClampNeg + 1626) (j10 z)) : tw_C g mL_law_ 1300 601024 7293034 Q 1781 [some (.ref a0), some (.ref b1), some (.ref b3), some (.ref b5), some (.int s7), none, none] [] (182 + s7.toNatClampNeg + 0) (20089 + 300 * s7.toNatClampNeg + 0) (f_Lc27 a0 b1 b3 b5 s7 j10 (fun v => Q (.inl (some (.int v))))) := by
  have g10 := fun z => tw_Ctab (r' := (tw_tb mLc27)) dk_L_law_ (g10 z)
  change ∀ z : Unit, tw_C g mLc27 _ _ _ _ _ _ _ _ _ _ at g10
  refine tw_Ctab (r := (tw_tb mLc27)) dk_Lc27 ?_
  show tw_C g mLc27 _ _ _ _ _ _ _ _ _ _
  unfold f_Lc27
  refine tw_aload_n (k := 0) rfl rfl ?_
  refine tw_callV (k := 1) (d' := 5) (mc' := 0) (ms' := 0) tw_cI tw_cIi [] rfl rfl wv_RL_235_X11_go mo_X11_go (t := 10) rfl rfl rfl (fun Q9 => K_X11_go Q9 b1) (by omega) (by omega) (by omega) (Nat.le_of_ble_eq_true rfl) (fun x236 => ?_)
  refine tw_aload_n (k := 2) rfl rfl ?_
  refine tw_callV (k := 3) (d' := 6) (mc' := 0) (ms' := 0) tw_cI tw_cIi [] rfl rfl wv_RL_238_X12_go mo_X12_go (t := 11) rfl rfl rfl (fun Q9 => K_X12_go Q9 b3) (by omega) (by omega) (by omega) (Nat.le_of_ble_eq_true rfl) (fun x237 => ?_)
  refine tw_icmp_eq (k := 4) 2993 rfl (by decide) ?_ ?_
  · refine tw_wide (k2 := (182 + s7.toNatClampNeg + 6)) (s2 := (20089 + 300 * s7.toNatClampNeg + 1626)) (by omega) (by omega) ?_
    exact g10 ()
  · refine tw_iconst (k := 5) (0 : Int32) rfl (by decide) ?_
    exact tw_zreturn (k := 6) rfl rfl (by omega) (by omega)
def f_Lc28 (a0 b1 b3 b5 : Nat) (s7 : Int32) (j10 : Unit → tw_Mem → Prop) (k : Int32 → tw_Mem → Prop) : tw_Mem → Prop :=
  tw_li a0 (s7 + (1 : Int32)) fun x238 => tw_jn (fun (s240 : Int32) => tw_iv 10 b1 (f_X11_cut b1 s240 (fun x241 => tw_li a0 (s7 + (1 : Int32)) fun x242 => tw_jn (fun (s244 : Int32) => tw_iv 11 b3 (f_X12_cut b3 s244 (fun x245 => tw_if (x241 = x245) (j10 ()) (tw_rz (0 : Int32) (k (0 : Int32)))))) (fun j243 => tw_if (x242 = 0) (j243 (0 : Int32)) (j243 (1 : Int32)))))) (fun j239 => tw_if (x238 = 0) (j239 (0 : Int32)) (j239 (1 : Int32)))
set_option maxHeartbeats 4000000 in
set_option maxRecDepth 100000 in
theorem C_Lc28 {g : tw_Gx} {Q : tw_Rs → tw_Mem → Prop} (a0 b1 b3 b5 : Nat) (s7 : Int32) (hP7 : s7.toNatClampNeg ≤ 3072) (j10 : Unit → tw_Mem → Prop) (g10 : ∀ z : Unit, tw_C g mL_law_ 1300 601024 7293034 Q 2993 [some (.ref a0), some (.ref b1), some (.ref b3), some (.ref b5), some (.int s7), none, none] [] (182 + s7.toNatClampNeg + 6) (20089 + 300 * s7.toNatClampNeg + 1626) (j10 z)) : tw_C g mL_law_ 1300 601024 7293034 Q 1794 [some (.ref a0), some (.ref b1), some (.ref b3), some (.ref b5), some (.int s7), none, none] [] (182 + s7.toNatClampNeg + 0) (20089 + 300 * s7.toNatClampNeg + 0) (f_Lc28 a0 b1 b3 b5 s7 j10 (fun v => Q (.inl (some (.int v))))) := by
  have g10 := fun z => tw_Ctab (r' := (tw_tb mLc28)) dk_L_law_ (g10 z)
  change ∀ z : Unit, tw_C g mLc28 _ _ _ _ _ _ _ _ _ _ at g10
  refine tw_Ctab (r := (tw_tb mLc28)) dk_Lc28 ?_
  show tw_C g mLc28 _ _ _ _ _ _ _ _ _ _
  unfold f_Lc28
  refine tw_aload_n (k := 0) rfl rfl ?_
  refine tw_aload_n (k := 1) rfl rfl ?_
  refine tw_iload (k := 2) rfl rfl ?_
  refine tw_iconst (k := 3) (1 : Int32) rfl (by decide) ?_
  refine tw_iadd (k := 4) rfl ?_
  refine tw_iaload (k := 5) rfl (fun x238 => ?_)
  refine tw_join 1809 (fun s240 => [some (.ref a0), some (.ref b1), some (.ref b3), some (.ref b5), some (.int s7), none, none]) (fun s240 => .int s240 :: .ref b1 :: []) (182 + s7.toNatClampNeg + 0) (20089 + 300 * s7.toNatClampNeg + 0) (fun s240 => ?_) (fun j239 g239 => ?_)
  · refine tw_callV (k := 10) (d' := 6) (mc' := 0) (ms' := 0) tw_cI tw_cIi [.int s240] rfl rfl wv_RL_239_X11_cut mo_X11_cut (t := 10) rfl rfl rfl (fun Q9 => K_X11_cut Q9 b1 s240) (by omega) (by omega) (by omega) (Nat.le_of_ble_eq_true rfl) (fun x241 => ?_)
    refine tw_aload_n (k := 11) rfl rfl ?_
    refine tw_aload_n (k := 12) rfl rfl ?_
    refine tw_iload (k := 13) rfl rfl ?_
    refine tw_iconst (k := 14) (1 : Int32) rfl (by decide) ?_
    refine tw_iadd (k := 15) rfl ?_
    refine tw_iaload (k := 16) rfl (fun x242 => ?_)
    refine tw_join 1827 (fun s244 => [some (.ref a0), some (.ref b1), some (.ref b3), some (.ref b5), some (.int s7), none, none]) (fun s244 => .int s244 :: .ref b3 :: .int x241 :: []) (182 + s7.toNatClampNeg + 0) (20089 + 300 * s7.toNatClampNeg + 0) (fun s244 => ?_) (fun j243 g243 => ?_)
    · refine tw_callV (k := 21) (d' := 7) (mc' := 0) (ms' := 0) tw_cI tw_cIi [.int s244] rfl rfl wv_RL_242_X12_cut mo_X12_cut (t := 11) rfl rfl rfl (fun Q9 => K_X12_cut Q9 b3 s244) (by omega) (by omega) (by omega) (Nat.le_of_ble_eq_true rfl) (fun x245 => ?_)
      refine tw_icmp_eq (k := 22) 2993 rfl (by decide) ?_ ?_
      · refine tw_wide (k2 := (182 + s7.toNatClampNeg + 6)) (s2 := (20089 + 300 * s7.toNatClampNeg + 1626)) (by omega) (by omega) ?_
        exact g10 ()
      · refine tw_iconst (k := 23) (0 : Int32) rfl (by decide) ?_
        exact tw_zreturn (k := 24) rfl rfl (by omega) (by omega)
    · refine tw_if_eq (k := 17) 1826 rfl (by decide) ?_ ?_
      · refine tw_iconst (k := 20) (0 : Int32) rfl (by decide) ?_
        exact g243 (0 : Int32)
      · refine tw_iconst (k := 18) (1 : Int32) rfl (by decide) ?_
        refine tw_goto (k := 19) 1827 rfl (by decide) ?_
        exact g243 (1 : Int32)
  · refine tw_if_eq (k := 6) 1808 rfl (by decide) ?_ ?_
    · refine tw_iconst (k := 9) (0 : Int32) rfl (by decide) ?_
      exact g239 (0 : Int32)
    · refine tw_iconst (k := 7) (1 : Int32) rfl (by decide) ?_
      refine tw_goto (k := 8) 1809 rfl (by decide) ?_
      exact g239 (1 : Int32)
def f_Lc29 (a0 b1 b3 b5 : Nat) (s7 : Int32) (j10 : Unit → tw_Mem → Prop) (k : Int32 → tw_Mem → Prop) : tw_Mem → Prop :=
  tw_iv 10 b1 (f_X11_heads b1 (fun x246 => tw_iv 11 b3 (f_X12_heads b3 (fun x247 => tw_if (x246 = x247) (j10 ()) (tw_rz (0 : Int32) (k (0 : Int32)))))))
set_option maxHeartbeats 4000000 in
set_option maxRecDepth 100000 in
theorem C_Lc29 {g : tw_Gx} {Q : tw_Rs → tw_Mem → Prop} (a0 b1 b3 b5 : Nat) (s7 : Int32) (hP7 : s7.toNatClampNeg ≤ 3072) (j10 : Unit → tw_Mem → Prop) (g10 : ∀ z : Unit, tw_C g mL_law_ 1300 601024 7293034 Q 2993 [some (.ref a0), some (.ref b1), some (.ref b3), some (.ref b5), some (.int s7), none, none] [] (182 + s7.toNatClampNeg + 6) (20089 + 300 * s7.toNatClampNeg + 1626) (j10 z)) : tw_C g mL_law_ 1300 601024 7293034 Q 1835 [some (.ref a0), some (.ref b1), some (.ref b3), some (.ref b5), some (.int s7), none, none] [] (182 + s7.toNatClampNeg + 0) (20089 + 300 * s7.toNatClampNeg + 0) (f_Lc29 a0 b1 b3 b5 s7 j10 (fun v => Q (.inl (some (.int v))))) := by
  have g10 := fun z => tw_Ctab (r' := (tw_tb mLc29)) dk_L_law_ (g10 z)
  change ∀ z : Unit, tw_C g mLc29 _ _ _ _ _ _ _ _ _ _ at g10
  refine tw_Ctab (r := (tw_tb mLc29)) dk_Lc29 ?_
  show tw_C g mLc29 _ _ _ _ _ _ _ _ _ _
  unfold f_Lc29
  refine tw_aload_n (k := 0) rfl rfl ?_
  refine tw_callV (k := 1) (d' := 5) (mc' := 0) (ms' := 0) tw_cI tw_cIi [] rfl rfl wv_RL_243_X11_heads mo_X11_heads (t := 10) rfl rfl rfl (fun Q9 => K_X11_heads Q9 b1) (by omega) (by omega) (by omega) (Nat.le_of_ble_eq_true rfl) (fun x246 => ?_)
  refine tw_aload_n (k := 2) rfl rfl ?_
  refine tw_callV (k := 3) (d' := 5) (mc' := 0) (ms' := 0) tw_cI tw_cIi [] rfl rfl wv_RL_246_X12_heads mo_X12_heads (t := 11) rfl rfl rfl (fun Q9 => K_X12_heads Q9 b3) (by omega) (by omega) (by omega) (Nat.le_of_ble_eq_true rfl) (fun x247 => ?_)
  refine tw_icmp_eq (k := 4) 2993 rfl (by decide) ?_ ?_
  · refine tw_wide (k2 := (182 + s7.toNatClampNeg + 6)) (s2 := (20089 + 300 * s7.toNatClampNeg + 1626)) (by omega) (by omega) ?_
    exact g10 ()
  · refine tw_iconst (k := 5) (0 : Int32) rfl (by decide) ?_
    exact tw_zreturn (k := 6) rfl rfl (by omega) (by omega)
def f_Lc30 (a0 b1 b3 b5 : Nat) (s7 : Int32) (j10 : Unit → tw_Mem → Prop) (k : Int32 → tw_Mem → Prop) : tw_Mem → Prop :=
  tw_li a0 (s7 + (1 : Int32)) fun x248 => tw_li a0 (s7 + (2 : Int32)) fun x249 => f_L_depth b1 x248 x249 b5 (fun x250 => tw_li a0 (s7 + (1 : Int32)) fun x251 => tw_li a0 (s7 + (2 : Int32)) fun x252 => tw_iv 11 b3 (f_X12_depth b3 x251 x252 (fun x253 => tw_iv 11 b3 (f_X12_thrown b3 (fun x254 => tw_if (x254 = x250) (tw_jn (fun (s256 : Unit) => j10 ()) (fun j255 => tw_if (x250 = 0) (tw_ll b5 (0 : Int32) fun x257 => tw_if ((lg_cmp x257 (x253.toInt64)) = 0) (j255 ()) (tw_rz (0 : Int32) (k (0 : Int32)))) (j255 ()))) (tw_rz (0 : Int32) (k (0 : Int32))))))))
set_option maxHeartbeats 4000000 in
set_option maxRecDepth 100000 in
theorem C_Lc30 {g : tw_Gx} {Q : tw_Rs → tw_Mem → Prop} (a0 b1 b3 b5 : Nat) (s7 : Int32) (hP7 : s7.toNatClampNeg ≤ 3072) (j10 : Unit → tw_Mem → Prop) (g10 : ∀ z : Unit, tw_C g mL_law_ 1300 601024 7293034 Q 2993 [some (.ref a0), some (.ref b1), some (.ref b3), some (.ref b5), some (.int s7), none, none] [] (182 + s7.toNatClampNeg + 6) (20089 + 300 * s7.toNatClampNeg + 1626) (j10 z)) : tw_C g mL_law_ 1300 601024 7293034 Q 1848 [some (.ref a0), some (.ref b1), some (.ref b3), some (.ref b5), some (.int s7), none, none] [] (182 + s7.toNatClampNeg + 0) (20089 + 300 * s7.toNatClampNeg + 0) (f_Lc30 a0 b1 b3 b5 s7 j10 (fun v => Q (.inl (some (.int v))))) := by
  have g10 := fun z => tw_Ctab (r' := (tw_tb mLc30)) dk_L_law_ (g10 z)
  change ∀ z : Unit, tw_C g mLc30 _ _ _ _ _ _ _ _ _ _ at g10
  refine tw_Ctab (r := (tw_tb mLc30)) dk_Lc30 ?_
  show tw_C g mLc30 _ _ _ _ _ _ _ _ _ _
  unfold f_Lc30
  refine tw_aload_n (k := 0) rfl rfl ?_
  refine tw_aload_n (k := 1) rfl rfl ?_
  refine tw_iload (k := 2) rfl rfl ?_
  refine tw_iconst (k := 3) (1 : Int32) rfl (by decide) ?_
  refine tw_iadd (k := 4) rfl ?_
  refine tw_iaload (k := 5) rfl (fun x248 => ?_)
  refine tw_aload_n (k := 6) rfl rfl ?_
  refine tw_iload (k := 7) rfl rfl ?_
  refine tw_iconst (k := 8) (2 : Int32) rfl (by decide) ?_
  refine tw_iadd (k := 9) rfl ?_
  refine tw_iaload (k := 10) rfl (fun x249 => ?_)
  refine tw_aload_n (k := 11) rfl rfl ?_
  refine tw_callSW (k := 12) (d' := 8) (mc' := 2) (ms' := 12) tw_cI tw_cIi [.ref b1, .int x248, .int x249, .ref b5] rfl rfl wx_RL_247_L_depth mo_L_depth rfl (fun Q9 => K_L_depth Q9 b1 x248 x249 b5) (by omega) (by omega) (by omega) (Nat.le_of_ble_eq_true rfl) (fun x250 => ?_)
  refine tw_ist (k := 13) [some (.ref a0), some (.ref b1), some (.ref b3), some (.ref b5), some (.int s7), some (.int x250), none] rfl (Nat.le_of_ble_eq_true rfl) rfl rfl ?_
  refine tw_aload_n (k := 14) rfl rfl ?_
  refine tw_aload_n (k := 15) rfl rfl ?_
  refine tw_iload (k := 16) rfl rfl ?_
  refine tw_iconst (k := 17) (1 : Int32) rfl (by decide) ?_
  refine tw_iadd (k := 18) rfl ?_
  refine tw_iaload (k := 19) rfl (fun x251 => ?_)
  refine tw_aload_n (k := 20) rfl rfl ?_
  refine tw_iload (k := 21) rfl rfl ?_
  refine tw_iconst (k := 22) (2 : Int32) rfl (by decide) ?_
  refine tw_iadd (k := 23) rfl ?_
  refine tw_iaload (k := 24) rfl (fun x252 => ?_)
  refine tw_callV (k := 25) (d' := 5) (mc' := 0) (ms' := 0) tw_cI tw_cIi [.int x251, .int x252] rfl rfl wv_RL_249_X12_depth mo_X12_depth (t := 11) rfl rfl rfl (fun Q9 => K_X12_depth Q9 b3 x251 x252) (by omega) (by omega) (by omega) (Nat.le_of_ble_eq_true rfl) (fun x253 => ?_)
  refine tw_ist (k := 26) [some (.ref a0), some (.ref b1), some (.ref b3), some (.ref b5), some (.int s7), some (.int x250), some (.int x253)] rfl (Nat.le_of_ble_eq_true rfl) rfl rfl ?_
  refine tw_aload_n (k := 27) rfl rfl ?_
  refine tw_callV (k := 28) (d' := 1) (mc' := 0) (ms' := 0) tw_cI tw_cIi [] rfl rfl wv_RL_152_X12_thrown mo_X12_thrown (t := 11) rfl rfl rfl (fun Q9 => K_X12_thrown Q9 b3) (by omega) (by omega) (by omega) (Nat.le_of_ble_eq_true rfl) (fun x254 => ?_)
  refine tw_iload (k := 29) rfl rfl ?_
  refine tw_icmp_eq (k := 30) 1896 rfl (by decide) ?_ ?_
  · refine tw_iload (k := 33) rfl rfl ?_
    refine tw_join 1913 (fun s256 => [some (.ref a0), some (.ref b1), some (.ref b3), some (.ref b5), some (.int s7), some (.int x250), some (.int x253)]) (fun s256 => []) (182 + s7.toNatClampNeg + 2) (20089 + 300 * s7.toNatClampNeg + 12) (fun s256 => ?_) (fun j255 g255 => ?_)
    · refine tw_goto (k := 44) 2993 rfl (by decide) ?_
      refine tw_wide (k2 := (182 + s7.toNatClampNeg + 6)) (s2 := (20089 + 300 * s7.toNatClampNeg + 1626)) (by omega) (by omega) ?_
      exact tw_wk (L' := [some (.ref a0), some (.ref b1), some (.ref b3), some (.ref b5), some (.int s7), none, none]) ⟨Or.inr rfl, Or.inr rfl, Or.inr rfl, Or.inr rfl, Or.inr rfl, Or.inl rfl, Or.inl rfl, trivial⟩ (g10 ())
    · refine tw_if_ne (k := 34) 1913 rfl (by decide) ?_ ?_
      · exact g255 ()
      · refine tw_aload_n (k := 35) rfl rfl ?_
        refine tw_iconst (k := 36) (0 : Int32) rfl (by decide) ?_
        refine tw_laload (k := 37) rfl (fun x257 => ?_)
        refine tw_iload (k := 38) rfl rfl ?_
        refine tw_i2l (k := 39) rfl ?_
        refine tw_lcmp (k := 40) rfl ?_
        refine tw_if_eq (k := 41) 1913 rfl (by decide) ?_ ?_
        · exact g255 ()
        · refine tw_iconst (k := 42) (0 : Int32) rfl (by decide) ?_
          exact tw_zreturn (k := 43) rfl rfl (by omega) (by omega)
  · refine tw_iconst (k := 31) (0 : Int32) rfl (by decide) ?_
    exact tw_zreturn (k := 32) rfl rfl (by omega) (by omega)
def f_Lc31 (a0 b1 b3 b5 : Nat) (s7 : Int32) (j10 : Unit → tw_Mem → Prop) (k : Int32 → tw_Mem → Prop) : tw_Mem → Prop :=
  tw_li a0 (s7 + (1 : Int32)) fun x258 => f_L_circle b1 x258 b5 (fun x259 => tw_li a0 (s7 + (1 : Int32)) fun x260 => tw_iv 11 b3 (f_X12_circle b3 x260 (fun x261 => tw_iv 11 b3 (f_X12_thrown b3 (fun x262 => tw_if (x262 = x259) (tw_jn (fun (s264 : Unit) => j10 ()) (fun j263 => tw_if (x259 = 0) (tw_ll b5 (0 : Int32) fun x265 => tw_if ((lg_cmp x265 (x261.toInt64)) = 0) (j263 ()) (tw_rz (0 : Int32) (k (0 : Int32)))) (j263 ()))) (tw_rz (0 : Int32) (k (0 : Int32))))))))
set_option maxHeartbeats 4000000 in
set_option maxRecDepth 100000 in
theorem C_Lc31 {g : tw_Gx} {Q : tw_Rs → tw_Mem → Prop} (a0 b1 b3 b5 : Nat) (s7 : Int32) (hP7 : s7.toNatClampNeg ≤ 3072) (j10 : Unit → tw_Mem → Prop) (g10 : ∀ z : Unit, tw_C g mL_law_ 1300 601024 7293034 Q 2993 [some (.ref a0), some (.ref b1), some (.ref b3), some (.ref b5), some (.int s7), none, none] [] (182 + s7.toNatClampNeg + 6) (20089 + 300 * s7.toNatClampNeg + 1626) (j10 z)) : tw_C g mL_law_ 1300 601024 7293034 Q 1916 [some (.ref a0), some (.ref b1), some (.ref b3), some (.ref b5), some (.int s7), none, none] [] (182 + s7.toNatClampNeg + 0) (20089 + 300 * s7.toNatClampNeg + 0) (f_Lc31 a0 b1 b3 b5 s7 j10 (fun v => Q (.inl (some (.int v))))) := by
  have g10 := fun z => tw_Ctab (r' := (tw_tb mLc31)) dk_L_law_ (g10 z)
  change ∀ z : Unit, tw_C g mLc31 _ _ _ _ _ _ _ _ _ _ at g10
  refine tw_Ctab (r := (tw_tb mLc31)) dk_Lc31 ?_
  show tw_C g mLc31 _ _ _ _ _ _ _ _ _ _
  unfold f_Lc31
  refine tw_aload_n (k := 0) rfl rfl ?_
  refine tw_aload_n (k := 1) rfl rfl ?_
  refine tw_iload (k := 2) rfl rfl ?_
  refine tw_iconst (k := 3) (1 : Int32) rfl (by decide) ?_
  refine tw_iadd (k := 4) rfl ?_
  refine tw_iaload (k := 5) rfl (fun x258 => ?_)
  refine tw_aload_n (k := 6) rfl rfl ?_
  refine tw_callSW (k := 7) (d' := 8) (mc' := 1) (ms' := 6) tw_cI tw_cIi [.ref b1, .int x258, .ref b5] rfl rfl wx_RL_250_L_circle mo_L_circle rfl (fun Q9 => K_L_circle Q9 b1 x258 b5) (by omega) (by omega) (by omega) (Nat.le_of_ble_eq_true rfl) (fun x259 => ?_)
  refine tw_ist (k := 8) [some (.ref a0), some (.ref b1), some (.ref b3), some (.ref b5), some (.int s7), some (.int x259), none] rfl (Nat.le_of_ble_eq_true rfl) rfl rfl ?_
  refine tw_aload_n (k := 9) rfl rfl ?_
  refine tw_aload_n (k := 10) rfl rfl ?_
  refine tw_iload (k := 11) rfl rfl ?_
  refine tw_iconst (k := 12) (1 : Int32) rfl (by decide) ?_
  refine tw_iadd (k := 13) rfl ?_
  refine tw_iaload (k := 14) rfl (fun x260 => ?_)
  refine tw_callV (k := 15) (d' := 5) (mc' := 0) (ms' := 0) tw_cI tw_cIi [.int x260] rfl rfl wv_RL_252_X12_circle mo_X12_circle (t := 11) rfl rfl rfl (fun Q9 => K_X12_circle Q9 b3 x260) (by omega) (by omega) (by omega) (Nat.le_of_ble_eq_true rfl) (fun x261 => ?_)
  refine tw_ist (k := 16) [some (.ref a0), some (.ref b1), some (.ref b3), some (.ref b5), some (.int s7), some (.int x259), some (.int x261)] rfl (Nat.le_of_ble_eq_true rfl) rfl rfl ?_
  refine tw_aload_n (k := 17) rfl rfl ?_
  refine tw_callV (k := 18) (d' := 1) (mc' := 0) (ms' := 0) tw_cI tw_cIi [] rfl rfl wv_RL_152_X12_thrown mo_X12_thrown (t := 11) rfl rfl rfl (fun Q9 => K_X12_thrown Q9 b3) (by omega) (by omega) (by omega) (Nat.le_of_ble_eq_true rfl) (fun x262 => ?_)
  refine tw_iload (k := 19) rfl rfl ?_
  refine tw_icmp_eq (k := 20) 1952 rfl (by decide) ?_ ?_
  · refine tw_iload (k := 23) rfl rfl ?_
    refine tw_join 1969 (fun s264 => [some (.ref a0), some (.ref b1), some (.ref b3), some (.ref b5), some (.int s7), some (.int x259), some (.int x261)]) (fun s264 => []) (182 + s7.toNatClampNeg + 1) (20089 + 300 * s7.toNatClampNeg + 6) (fun s264 => ?_) (fun j263 g263 => ?_)
    · refine tw_goto (k := 34) 2993 rfl (by decide) ?_
      refine tw_wide (k2 := (182 + s7.toNatClampNeg + 6)) (s2 := (20089 + 300 * s7.toNatClampNeg + 1626)) (by omega) (by omega) ?_
      exact tw_wk (L' := [some (.ref a0), some (.ref b1), some (.ref b3), some (.ref b5), some (.int s7), none, none]) ⟨Or.inr rfl, Or.inr rfl, Or.inr rfl, Or.inr rfl, Or.inr rfl, Or.inl rfl, Or.inl rfl, trivial⟩ (g10 ())
    · refine tw_if_ne (k := 24) 1969 rfl (by decide) ?_ ?_
      · exact g263 ()
      · refine tw_aload_n (k := 25) rfl rfl ?_
        refine tw_iconst (k := 26) (0 : Int32) rfl (by decide) ?_
        refine tw_laload (k := 27) rfl (fun x265 => ?_)
        refine tw_iload (k := 28) rfl rfl ?_
        refine tw_i2l (k := 29) rfl ?_
        refine tw_lcmp (k := 30) rfl ?_
        refine tw_if_eq (k := 31) 1969 rfl (by decide) ?_ ?_
        · exact g263 ()
        · refine tw_iconst (k := 32) (0 : Int32) rfl (by decide) ?_
          exact tw_zreturn (k := 33) rfl rfl (by omega) (by omega)
  · refine tw_iconst (k := 21) (0 : Int32) rfl (by decide) ?_
    exact tw_zreturn (k := 22) rfl rfl (by omega) (by omega)
def f_Lc32 (a0 b1 b3 b5 : Nat) (s7 : Int32) (j10 : Unit → tw_Mem → Prop) (k : Int32 → tw_Mem → Prop) : tw_Mem → Prop :=
  tw_li a0 (s7 + (1 : Int32)) fun x266 => tw_jn (fun (s268 : Int32) => f_L_pulled b1 s268 b5 (fun x269 => tw_li a0 (s7 + (1 : Int32)) fun x270 => tw_jn (fun (s272 : Int32) => tw_iv 11 b3 (f_X12_pulled b3 s272 (fun x273 => tw_iv 11 b3 (f_X12_thrown b3 (fun x274 => tw_if (x274 = x269) (tw_jn (fun (s276 : Unit) => j10 ()) (fun j275 => tw_if (x269 = 0) (tw_ll b5 (0 : Int32) fun x277 => tw_if ((lg_cmp x277 (x273.toInt64)) = 0) (j275 ()) (tw_rz (0 : Int32) (k (0 : Int32)))) (j275 ()))) (tw_rz (0 : Int32) (k (0 : Int32)))))))) (fun j271 => tw_if (x270 = 0) (j271 (0 : Int32)) (j271 (1 : Int32))))) (fun j267 => tw_if (x266 = 0) (j267 (0 : Int32)) (j267 (1 : Int32)))
set_option maxHeartbeats 4000000 in
set_option maxRecDepth 100000 in
theorem C_Lc32 {g : tw_Gx} {Q : tw_Rs → tw_Mem → Prop} (a0 b1 b3 b5 : Nat) (s7 : Int32) (hP7 : s7.toNatClampNeg ≤ 3072) (j10 : Unit → tw_Mem → Prop) (g10 : ∀ z : Unit, tw_C g mL_law_ 1300 601024 7293034 Q 2993 [some (.ref a0), some (.ref b1), some (.ref b3), some (.ref b5), some (.int s7), none, none] [] (182 + s7.toNatClampNeg + 6) (20089 + 300 * s7.toNatClampNeg + 1626) (j10 z)) : tw_C g mL_law_ 1300 601024 7293034 Q 1972 [some (.ref a0), some (.ref b1), some (.ref b3), some (.ref b5), some (.int s7), none, none] [] (182 + s7.toNatClampNeg + 0) (20089 + 300 * s7.toNatClampNeg + 0) (f_Lc32 a0 b1 b3 b5 s7 j10 (fun v => Q (.inl (some (.int v))))) := by
  have g10 := fun z => tw_Ctab (r' := (tw_tb mLc32)) dk_L_law_ (g10 z)
  change ∀ z : Unit, tw_C g mLc32 _ _ _ _ _ _ _ _ _ _ at g10
  refine tw_Ctab (r := (tw_tb mLc32)) dk_Lc32 ?_
  show tw_C g mLc32 _ _ _ _ _ _ _ _ _ _
  unfold f_Lc32
  refine tw_aload_n (k := 0) rfl rfl ?_
  refine tw_aload_n (k := 1) rfl rfl ?_
  refine tw_iload (k := 2) rfl rfl ?_
  refine tw_iconst (k := 3) (1 : Int32) rfl (by decide) ?_
  refine tw_iadd (k := 4) rfl ?_
  refine tw_iaload (k := 5) rfl (fun x266 => ?_)
  refine tw_join 1987 (fun s268 => [some (.ref a0), some (.ref b1), some (.ref b3), some (.ref b5), some (.int s7), none, none]) (fun s268 => .int s268 :: .ref b1 :: []) (182 + s7.toNatClampNeg + 0) (20089 + 300 * s7.toNatClampNeg + 0) (fun s268 => ?_) (fun j267 g267 => ?_)
  · refine tw_aload_n (k := 10) rfl rfl ?_
    refine tw_callSW (k := 11) (d' := 9) (mc' := 1) (ms' := 6) tw_cI tw_cIi [.ref b1, .int s268, .ref b5] rfl rfl wx_RL_253_L_pulled mo_L_pulled rfl (fun Q9 => K_L_pulled Q9 b1 s268 b5) (by omega) (by omega) (by omega) (Nat.le_of_ble_eq_true rfl) (fun x269 => ?_)
    refine tw_ist (k := 12) [some (.ref a0), some (.ref b1), some (.ref b3), some (.ref b5), some (.int s7), some (.int x269), none] rfl (Nat.le_of_ble_eq_true rfl) rfl rfl ?_
    refine tw_aload_n (k := 13) rfl rfl ?_
    refine tw_aload_n (k := 14) rfl rfl ?_
    refine tw_iload (k := 15) rfl rfl ?_
    refine tw_iconst (k := 16) (1 : Int32) rfl (by decide) ?_
    refine tw_iadd (k := 17) rfl ?_
    refine tw_iaload (k := 18) rfl (fun x270 => ?_)
    refine tw_join 2008 (fun s272 => [some (.ref a0), some (.ref b1), some (.ref b3), some (.ref b5), some (.int s7), some (.int x269), none]) (fun s272 => .int s272 :: .ref b3 :: []) (182 + s7.toNatClampNeg + 1) (20089 + 300 * s7.toNatClampNeg + 6) (fun s272 => ?_) (fun j271 g271 => ?_)
    · refine tw_callV (k := 23) (d' := 12) (mc' := 0) (ms' := 0) tw_cI tw_cIi [.int s272] rfl rfl wv_RL_256_X12_pulled mo_X12_pulled (t := 11) rfl rfl rfl (fun Q9 => K_X12_pulled Q9 b3 s272) (by omega) (by omega) (by omega) (Nat.le_of_ble_eq_true rfl) (fun x273 => ?_)
      refine tw_ist (k := 24) [some (.ref a0), some (.ref b1), some (.ref b3), some (.ref b5), some (.int s7), some (.int x269), some (.int x273)] rfl (Nat.le_of_ble_eq_true rfl) rfl rfl ?_
      refine tw_aload_n (k := 25) rfl rfl ?_
      refine tw_callV (k := 26) (d' := 1) (mc' := 0) (ms' := 0) tw_cI tw_cIi [] rfl rfl wv_RL_152_X12_thrown mo_X12_thrown (t := 11) rfl rfl rfl (fun Q9 => K_X12_thrown Q9 b3) (by omega) (by omega) (by omega) (Nat.le_of_ble_eq_true rfl) (fun x274 => ?_)
      refine tw_iload (k := 27) rfl rfl ?_
      refine tw_icmp_eq (k := 28) 2024 rfl (by decide) ?_ ?_
      · refine tw_iload (k := 31) rfl rfl ?_
        refine tw_join 2041 (fun s276 => [some (.ref a0), some (.ref b1), some (.ref b3), some (.ref b5), some (.int s7), some (.int x269), some (.int x273)]) (fun s276 => []) (182 + s7.toNatClampNeg + 1) (20089 + 300 * s7.toNatClampNeg + 6) (fun s276 => ?_) (fun j275 g275 => ?_)
        · refine tw_goto (k := 42) 2993 rfl (by decide) ?_
          refine tw_wide (k2 := (182 + s7.toNatClampNeg + 6)) (s2 := (20089 + 300 * s7.toNatClampNeg + 1626)) (by omega) (by omega) ?_
          exact tw_wk (L' := [some (.ref a0), some (.ref b1), some (.ref b3), some (.ref b5), some (.int s7), none, none]) ⟨Or.inr rfl, Or.inr rfl, Or.inr rfl, Or.inr rfl, Or.inr rfl, Or.inl rfl, Or.inl rfl, trivial⟩ (g10 ())
        · refine tw_if_ne (k := 32) 2041 rfl (by decide) ?_ ?_
          · exact g275 ()
          · refine tw_aload_n (k := 33) rfl rfl ?_
            refine tw_iconst (k := 34) (0 : Int32) rfl (by decide) ?_
            refine tw_laload (k := 35) rfl (fun x277 => ?_)
            refine tw_iload (k := 36) rfl rfl ?_
            refine tw_i2l (k := 37) rfl ?_
            refine tw_lcmp (k := 38) rfl ?_
            refine tw_if_eq (k := 39) 2041 rfl (by decide) ?_ ?_
            · exact g275 ()
            · refine tw_iconst (k := 40) (0 : Int32) rfl (by decide) ?_
              exact tw_zreturn (k := 41) rfl rfl (by omega) (by omega)
      · refine tw_iconst (k := 29) (0 : Int32) rfl (by decide) ?_
        exact tw_zreturn (k := 30) rfl rfl (by omega) (by omega)
    · refine tw_if_eq (k := 19) 2007 rfl (by decide) ?_ ?_
      · refine tw_iconst (k := 22) (0 : Int32) rfl (by decide) ?_
        exact g271 (0 : Int32)
      · refine tw_iconst (k := 20) (1 : Int32) rfl (by decide) ?_
        refine tw_goto (k := 21) 2008 rfl (by decide) ?_
        exact g271 (1 : Int32)
  · refine tw_if_eq (k := 6) 1986 rfl (by decide) ?_ ?_
    · refine tw_iconst (k := 9) (0 : Int32) rfl (by decide) ?_
      exact g267 (0 : Int32)
    · refine tw_iconst (k := 7) (1 : Int32) rfl (by decide) ?_
      refine tw_goto (k := 8) 1987 rfl (by decide) ?_
      exact g267 (1 : Int32)
def f_Lc33 (a0 b1 b3 b5 : Nat) (s7 : Int32) (j10 : Unit → tw_Mem → Prop) (k : Int32 → tw_Mem → Prop) : tw_Mem → Prop :=
  f_L_listen b1 b5 (fun x278 => tw_iv 11 b3 (f_X12_listen b3 (fun x279 => tw_iv 11 b3 (f_X12_thrown b3 (fun x280 => tw_if (x280 = x278) (tw_jn (fun (s282 : Unit) => j10 ()) (fun j281 => tw_if (x278 = 0) (tw_ll b5 (0 : Int32) fun x283 => tw_if ((lg_cmp x283 (x279.toInt64)) = 0) (j281 ()) (tw_rz (0 : Int32) (k (0 : Int32)))) (j281 ()))) (tw_rz (0 : Int32) (k (0 : Int32))))))))
set_option maxHeartbeats 4000000 in
set_option maxRecDepth 100000 in
theorem C_Lc33 {g : tw_Gx} {Q : tw_Rs → tw_Mem → Prop} (a0 b1 b3 b5 : Nat) (s7 : Int32) (hP7 : s7.toNatClampNeg ≤ 3072) (j10 : Unit → tw_Mem → Prop) (g10 : ∀ z : Unit, tw_C g mL_law_ 1300 601024 7293034 Q 2993 [some (.ref a0), some (.ref b1), some (.ref b3), some (.ref b5), some (.int s7), none, none] [] (182 + s7.toNatClampNeg + 6) (20089 + 300 * s7.toNatClampNeg + 1626) (j10 z)) : tw_C g mL_law_ 1300 601024 7293034 Q 2044 [some (.ref a0), some (.ref b1), some (.ref b3), some (.ref b5), some (.int s7), none, none] [] (182 + s7.toNatClampNeg + 0) (20089 + 300 * s7.toNatClampNeg + 0) (f_Lc33 a0 b1 b3 b5 s7 j10 (fun v => Q (.inl (some (.int v))))) := by
  have g10 := fun z => tw_Ctab (r' := (tw_tb mLc33)) dk_L_law_ (g10 z)
  change ∀ z : Unit, tw_C g mLc33 _ _ _ _ _ _ _ _ _ _ at g10
  refine tw_Ctab (r := (tw_tb mLc33)) dk_Lc33 ?_
  show tw_C g mLc33 _ _ _ _ _ _ _ _ _ _
  unfold f_Lc33
  refine tw_aload_n (k := 0) rfl rfl ?_
  refine tw_aload_n (k := 1) rfl rfl ?_
  refine tw_callSW (k := 2) (d' := 9) (mc' := 1) (ms' := 6) tw_cI tw_cIi [.ref b1, .ref b5] rfl rfl wx_RL_257_L_listen mo_L_listen rfl (fun Q9 => K_L_listen Q9 b1 b5) (by omega) (by omega) (by omega) (Nat.le_of_ble_eq_true rfl) (fun x278 => ?_)
  refine tw_ist (k := 3) [some (.ref a0), some (.ref b1), some (.ref b3), some (.ref b5), some (.int s7), some (.int x278), none] rfl (Nat.le_of_ble_eq_true rfl) rfl rfl ?_
  refine tw_aload_n (k := 4) rfl rfl ?_
  refine tw_callV (k := 5) (d' := 12) (mc' := 0) (ms' := 0) tw_cI tw_cIi [] rfl rfl wv_RL_259_X12_listen mo_X12_listen (t := 11) rfl rfl rfl (fun Q9 => K_X12_listen Q9 b3) (by omega) (by omega) (by omega) (Nat.le_of_ble_eq_true rfl) (fun x279 => ?_)
  refine tw_ist (k := 6) [some (.ref a0), some (.ref b1), some (.ref b3), some (.ref b5), some (.int s7), some (.int x278), some (.int x279)] rfl (Nat.le_of_ble_eq_true rfl) rfl rfl ?_
  refine tw_aload_n (k := 7) rfl rfl ?_
  refine tw_callV (k := 8) (d' := 1) (mc' := 0) (ms' := 0) tw_cI tw_cIi [] rfl rfl wv_RL_152_X12_thrown mo_X12_thrown (t := 11) rfl rfl rfl (fun Q9 => K_X12_thrown Q9 b3) (by omega) (by omega) (by omega) (Nat.le_of_ble_eq_true rfl) (fun x280 => ?_)
  refine tw_iload (k := 9) rfl rfl ?_
  refine tw_icmp_eq (k := 10) 2068 rfl (by decide) ?_ ?_
  · refine tw_iload (k := 13) rfl rfl ?_
    refine tw_join 2085 (fun s282 => [some (.ref a0), some (.ref b1), some (.ref b3), some (.ref b5), some (.int s7), some (.int x278), some (.int x279)]) (fun s282 => []) (182 + s7.toNatClampNeg + 1) (20089 + 300 * s7.toNatClampNeg + 6) (fun s282 => ?_) (fun j281 g281 => ?_)
    · refine tw_goto (k := 24) 2993 rfl (by decide) ?_
      refine tw_wide (k2 := (182 + s7.toNatClampNeg + 6)) (s2 := (20089 + 300 * s7.toNatClampNeg + 1626)) (by omega) (by omega) ?_
      exact tw_wk (L' := [some (.ref a0), some (.ref b1), some (.ref b3), some (.ref b5), some (.int s7), none, none]) ⟨Or.inr rfl, Or.inr rfl, Or.inr rfl, Or.inr rfl, Or.inr rfl, Or.inl rfl, Or.inl rfl, trivial⟩ (g10 ())
    · refine tw_if_ne (k := 14) 2085 rfl (by decide) ?_ ?_
      · exact g281 ()
      · refine tw_aload_n (k := 15) rfl rfl ?_
        refine tw_iconst (k := 16) (0 : Int32) rfl (by decide) ?_
        refine tw_laload (k := 17) rfl (fun x283 => ?_)
        refine tw_iload (k := 18) rfl rfl ?_
        refine tw_i2l (k := 19) rfl ?_
        refine tw_lcmp (k := 20) rfl ?_
        refine tw_if_eq (k := 21) 2085 rfl (by decide) ?_ ?_
        · exact g281 ()
        · refine tw_iconst (k := 22) (0 : Int32) rfl (by decide) ?_
          exact tw_zreturn (k := 23) rfl rfl (by omega) (by omega)
  · refine tw_iconst (k := 11) (0 : Int32) rfl (by decide) ?_
    exact tw_zreturn (k := 12) rfl rfl (by omega) (by omega)
def f_Lc34 (a0 b1 b3 b5 : Nat) (s7 : Int32) (j10 : Unit → tw_Mem → Prop) (k : Int32 → tw_Mem → Prop) : tw_Mem → Prop :=
  tw_li a0 (s7 + (1 : Int32)) fun x284 => f_L_cheap b1 x284 b5 (fun x285 => tw_li a0 (s7 + (1 : Int32)) fun x286 => tw_iv 11 b3 (f_X12_cheap b3 x286 (fun x287 => tw_iv 11 b3 (f_X12_thrown b3 (fun x288 => tw_if (x288 = x285) (tw_jn (fun (s290 : Unit) => j10 ()) (fun j289 => tw_if (x285 = 0) (tw_ll b5 (0 : Int32) fun x291 => tw_if ((lg_cmp x291 (x287.toInt64)) = 0) (j289 ()) (tw_rz (0 : Int32) (k (0 : Int32)))) (j289 ()))) (tw_rz (0 : Int32) (k (0 : Int32))))))))
set_option maxHeartbeats 4000000 in
set_option maxRecDepth 100000 in
theorem C_Lc34 {g : tw_Gx} {Q : tw_Rs → tw_Mem → Prop} (a0 b1 b3 b5 : Nat) (s7 : Int32) (hP7 : s7.toNatClampNeg ≤ 3072) (j10 : Unit → tw_Mem → Prop) (g10 : ∀ z : Unit, tw_C g mL_law_ 1300 601024 7293034 Q 2993 [some (.ref a0), some (.ref b1), some (.ref b3), some (.ref b5), some (.int s7), none, none] [] (182 + s7.toNatClampNeg + 6) (20089 + 300 * s7.toNatClampNeg + 1626) (j10 z)) : tw_C g mL_law_ 1300 601024 7293034 Q 2088 [some (.ref a0), some (.ref b1), some (.ref b3), some (.ref b5), some (.int s7), none, none] [] (182 + s7.toNatClampNeg + 0) (20089 + 300 * s7.toNatClampNeg + 0) (f_Lc34 a0 b1 b3 b5 s7 j10 (fun v => Q (.inl (some (.int v))))) := by
  have g10 := fun z => tw_Ctab (r' := (tw_tb mLc34)) dk_L_law_ (g10 z)
  change ∀ z : Unit, tw_C g mLc34 _ _ _ _ _ _ _ _ _ _ at g10
  refine tw_Ctab (r := (tw_tb mLc34)) dk_Lc34 ?_
  show tw_C g mLc34 _ _ _ _ _ _ _ _ _ _
  unfold f_Lc34
  refine tw_aload_n (k := 0) rfl rfl ?_
  refine tw_aload_n (k := 1) rfl rfl ?_
  refine tw_iload (k := 2) rfl rfl ?_
  refine tw_iconst (k := 3) (1 : Int32) rfl (by decide) ?_
  refine tw_iadd (k := 4) rfl ?_
  refine tw_iaload (k := 5) rfl (fun x284 => ?_)
  refine tw_aload_n (k := 6) rfl rfl ?_
  refine tw_callSW (k := 7) (d' := 8) (mc' := 1) (ms' := 6) tw_cI tw_cIi [.ref b1, .int x284, .ref b5] rfl rfl wx_RL_260_L_cheap mo_L_cheap rfl (fun Q9 => K_L_cheap Q9 b1 x284 b5) (by omega) (by omega) (by omega) (Nat.le_of_ble_eq_true rfl) (fun x285 => ?_)
  refine tw_ist (k := 8) [some (.ref a0), some (.ref b1), some (.ref b3), some (.ref b5), some (.int s7), some (.int x285), none] rfl (Nat.le_of_ble_eq_true rfl) rfl rfl ?_
  refine tw_aload_n (k := 9) rfl rfl ?_
  refine tw_aload_n (k := 10) rfl rfl ?_
  refine tw_iload (k := 11) rfl rfl ?_
  refine tw_iconst (k := 12) (1 : Int32) rfl (by decide) ?_
  refine tw_iadd (k := 13) rfl ?_
  refine tw_iaload (k := 14) rfl (fun x286 => ?_)
  refine tw_callV (k := 15) (d' := 6) (mc' := 0) (ms' := 0) tw_cI tw_cIi [.int x286] rfl rfl wv_RL_262_X12_cheap mo_X12_cheap (t := 11) rfl rfl rfl (fun Q9 => K_X12_cheap Q9 b3 x286) (by omega) (by omega) (by omega) (Nat.le_of_ble_eq_true rfl) (fun x287 => ?_)
  refine tw_ist (k := 16) [some (.ref a0), some (.ref b1), some (.ref b3), some (.ref b5), some (.int s7), some (.int x285), some (.int x287)] rfl (Nat.le_of_ble_eq_true rfl) rfl rfl ?_
  refine tw_aload_n (k := 17) rfl rfl ?_
  refine tw_callV (k := 18) (d' := 1) (mc' := 0) (ms' := 0) tw_cI tw_cIi [] rfl rfl wv_RL_152_X12_thrown mo_X12_thrown (t := 11) rfl rfl rfl (fun Q9 => K_X12_thrown Q9 b3) (by omega) (by omega) (by omega) (Nat.le_of_ble_eq_true rfl) (fun x288 => ?_)
  refine tw_iload (k := 19) rfl rfl ?_
  refine tw_icmp_eq (k := 20) 2124 rfl (by decide) ?_ ?_
  · refine tw_iload (k := 23) rfl rfl ?_
    refine tw_join 2141 (fun s290 => [some (.ref a0), some (.ref b1), some (.ref b3), some (.ref b5), some (.int s7), some (.int x285), some (.int x287)]) (fun s290 => []) (182 + s7.toNatClampNeg + 1) (20089 + 300 * s7.toNatClampNeg + 6) (fun s290 => ?_) (fun j289 g289 => ?_)
    · refine tw_goto (k := 34) 2993 rfl (by decide) ?_
      refine tw_wide (k2 := (182 + s7.toNatClampNeg + 6)) (s2 := (20089 + 300 * s7.toNatClampNeg + 1626)) (by omega) (by omega) ?_
      exact tw_wk (L' := [some (.ref a0), some (.ref b1), some (.ref b3), some (.ref b5), some (.int s7), none, none]) ⟨Or.inr rfl, Or.inr rfl, Or.inr rfl, Or.inr rfl, Or.inr rfl, Or.inl rfl, Or.inl rfl, trivial⟩ (g10 ())
    · refine tw_if_ne (k := 24) 2141 rfl (by decide) ?_ ?_
      · exact g289 ()
      · refine tw_aload_n (k := 25) rfl rfl ?_
        refine tw_iconst (k := 26) (0 : Int32) rfl (by decide) ?_
        refine tw_laload (k := 27) rfl (fun x291 => ?_)
        refine tw_iload (k := 28) rfl rfl ?_
        refine tw_i2l (k := 29) rfl ?_
        refine tw_lcmp (k := 30) rfl ?_
        refine tw_if_eq (k := 31) 2141 rfl (by decide) ?_ ?_
        · exact g289 ()
        · refine tw_iconst (k := 32) (0 : Int32) rfl (by decide) ?_
          exact tw_zreturn (k := 33) rfl rfl (by omega) (by omega)
  · refine tw_iconst (k := 21) (0 : Int32) rfl (by decide) ?_
    exact tw_zreturn (k := 22) rfl rfl (by omega) (by omega)
def f_Lc35 (a0 b1 b3 b5 : Nat) (s7 : Int32) (j10 : Unit → tw_Mem → Prop) (k : Int32 → tw_Mem → Prop) : tw_Mem → Prop :=
  tw_iv 10 b1 (f_X11_cheapest b1 (fun x292 => tw_iv 11 b3 (f_X12_cheapest b3 (fun x293 => tw_if (x292 = x293) (j10 ()) (tw_rz (0 : Int32) (k (0 : Int32)))))))
set_option maxHeartbeats 4000000 in
set_option maxRecDepth 100000 in
theorem C_Lc35 {g : tw_Gx} {Q : tw_Rs → tw_Mem → Prop} (a0 b1 b3 b5 : Nat) (s7 : Int32) (hP7 : s7.toNatClampNeg ≤ 3072) (j10 : Unit → tw_Mem → Prop) (g10 : ∀ z : Unit, tw_C g mL_law_ 1300 601024 7293034 Q 2993 [some (.ref a0), some (.ref b1), some (.ref b3), some (.ref b5), some (.int s7), none, none] [] (182 + s7.toNatClampNeg + 6) (20089 + 300 * s7.toNatClampNeg + 1626) (j10 z)) : tw_C g mL_law_ 1300 601024 7293034 Q 2144 [some (.ref a0), some (.ref b1), some (.ref b3), some (.ref b5), some (.int s7), none, none] [] (182 + s7.toNatClampNeg + 0) (20089 + 300 * s7.toNatClampNeg + 0) (f_Lc35 a0 b1 b3 b5 s7 j10 (fun v => Q (.inl (some (.int v))))) := by
  have g10 := fun z => tw_Ctab (r' := (tw_tb mLc35)) dk_L_law_ (g10 z)
  change ∀ z : Unit, tw_C g mLc35 _ _ _ _ _ _ _ _ _ _ at g10
  refine tw_Ctab (r := (tw_tb mLc35)) dk_Lc35 ?_
  show tw_C g mLc35 _ _ _ _ _ _ _ _ _ _
  unfold f_Lc35
  refine tw_aload_n (k := 0) rfl rfl ?_
  refine tw_callV (k := 1) (d' := 6) (mc' := 0) (ms' := 0) tw_cI tw_cIi [] rfl rfl wv_RL_263_X11_cheapest mo_X11_cheapest (t := 10) rfl rfl rfl (fun Q9 => K_X11_cheapest Q9 b1) (by omega) (by omega) (by omega) (Nat.le_of_ble_eq_true rfl) (fun x292 => ?_)
  refine tw_aload_n (k := 2) rfl rfl ?_
  refine tw_callV (k := 3) (d' := 6) (mc' := 0) (ms' := 0) tw_cI tw_cIi [] rfl rfl wv_RL_266_X12_cheapest mo_X12_cheapest (t := 11) rfl rfl rfl (fun Q9 => K_X12_cheapest Q9 b3) (by omega) (by omega) (by omega) (Nat.le_of_ble_eq_true rfl) (fun x293 => ?_)
  refine tw_icmp_eq (k := 4) 2993 rfl (by decide) ?_ ?_
  · refine tw_wide (k2 := (182 + s7.toNatClampNeg + 6)) (s2 := (20089 + 300 * s7.toNatClampNeg + 1626)) (by omega) (by omega) ?_
    exact g10 ()
  · refine tw_iconst (k := 5) (0 : Int32) rfl (by decide) ?_
    exact tw_zreturn (k := 6) rfl rfl (by omega) (by omega)
def f_Lc36 (a0 b1 b3 b5 : Nat) (s7 : Int32) (j10 : Unit → tw_Mem → Prop) (k : Int32 → tw_Mem → Prop) : tw_Mem → Prop :=
  tw_iv 10 b1 (f_X11_spoilt b1 (fun x294 => tw_iv 11 b3 (f_X12_spoilt b3 (fun x295 => tw_if (x294 = x295) (j10 ()) (tw_rz (0 : Int32) (k (0 : Int32)))))))
set_option maxHeartbeats 4000000 in
set_option maxRecDepth 100000 in
theorem C_Lc36 {g : tw_Gx} {Q : tw_Rs → tw_Mem → Prop} (a0 b1 b3 b5 : Nat) (s7 : Int32) (hP7 : s7.toNatClampNeg ≤ 3072) (j10 : Unit → tw_Mem → Prop) (g10 : ∀ z : Unit, tw_C g mL_law_ 1300 601024 7293034 Q 2993 [some (.ref a0), some (.ref b1), some (.ref b3), some (.ref b5), some (.int s7), none, none] [] (182 + s7.toNatClampNeg + 6) (20089 + 300 * s7.toNatClampNeg + 1626) (j10 z)) : tw_C g mL_law_ 1300 601024 7293034 Q 2157 [some (.ref a0), some (.ref b1), some (.ref b3), some (.ref b5), some (.int s7), none, none] [] (182 + s7.toNatClampNeg + 0) (20089 + 300 * s7.toNatClampNeg + 0) (f_Lc36 a0 b1 b3 b5 s7 j10 (fun v => Q (.inl (some (.int v))))) := by
  have g10 := fun z => tw_Ctab (r' := (tw_tb mLc36)) dk_L_law_ (g10 z)
  change ∀ z : Unit, tw_C g mLc36 _ _ _ _ _ _ _ _ _ _ at g10
  refine tw_Ctab (r := (tw_tb mLc36)) dk_Lc36 ?_
  show tw_C g mLc36 _ _ _ _ _ _ _ _ _ _
  unfold f_Lc36
  refine tw_aload_n (k := 0) rfl rfl ?_
  refine tw_callV (k := 1) (d' := 7) (mc' := 0) (ms' := 0) tw_cI tw_cIi [] rfl rfl wv_RL_267_X11_spoilt mo_X11_spoilt (t := 10) rfl rfl rfl (fun Q9 => K_X11_spoilt Q9 b1) (by omega) (by omega) (by omega) (Nat.le_of_ble_eq_true rfl) (fun x294 => ?_)
  refine tw_aload_n (k := 2) rfl rfl ?_
  refine tw_callV (k := 3) (d' := 7) (mc' := 0) (ms' := 0) tw_cI tw_cIi [] rfl rfl wv_RL_270_X12_spoilt mo_X12_spoilt (t := 11) rfl rfl rfl (fun Q9 => K_X12_spoilt Q9 b3) (by omega) (by omega) (by omega) (Nat.le_of_ble_eq_true rfl) (fun x295 => ?_)
  refine tw_icmp_eq (k := 4) 2993 rfl (by decide) ?_ ?_
  · refine tw_wide (k2 := (182 + s7.toNatClampNeg + 6)) (s2 := (20089 + 300 * s7.toNatClampNeg + 1626)) (by omega) (by omega) ?_
    exact g10 ()
  · refine tw_iconst (k := 5) (0 : Int32) rfl (by decide) ?_
    exact tw_zreturn (k := 6) rfl rfl (by omega) (by omega)
def f_Lc37 (a0 b1 b3 b5 : Nat) (s7 : Int32) (j10 : Unit → tw_Mem → Prop) (k : Int32 → tw_Mem → Prop) : tw_Mem → Prop :=
  tw_li a0 (s7 + (1 : Int32)) fun x296 => f_L_mend b1 x296 b5 (fun x297 => tw_li a0 (s7 + (1 : Int32)) fun x298 => tw_iv 11 b3 (f_X12_mend b3 x298 (fun x299 => tw_iv 11 b3 (f_X12_thrown b3 (fun x300 => tw_if (x300 = x297) (tw_jn (fun (s302 : Unit) => j10 ()) (fun j301 => tw_if (x297 = 0) (tw_ll b5 (0 : Int32) fun x303 => tw_if ((lg_cmp x303 (x299.toInt64)) = 0) (j301 ()) (tw_rz (0 : Int32) (k (0 : Int32)))) (j301 ()))) (tw_rz (0 : Int32) (k (0 : Int32))))))))
set_option maxHeartbeats 4000000 in
set_option maxRecDepth 100000 in
theorem C_Lc37 {g : tw_Gx} {Q : tw_Rs → tw_Mem → Prop} (a0 b1 b3 b5 : Nat) (s7 : Int32) (hP7 : s7.toNatClampNeg ≤ 3072) (j10 : Unit → tw_Mem → Prop) (g10 : ∀ z : Unit, tw_C g mL_law_ 1300 601024 7293034 Q 2993 [some (.ref a0), some (.ref b1), some (.ref b3), some (.ref b5), some (.int s7), none, none] [] (182 + s7.toNatClampNeg + 6) (20089 + 300 * s7.toNatClampNeg + 1626) (j10 z)) : tw_C g mL_law_ 1300 601024 7293034 Q 2170 [some (.ref a0), some (.ref b1), some (.ref b3), some (.ref b5), some (.int s7), none, none] [] (182 + s7.toNatClampNeg + 0) (20089 + 300 * s7.toNatClampNeg + 0) (f_Lc37 a0 b1 b3 b5 s7 j10 (fun v => Q (.inl (some (.int v))))) := by
  have g10 := fun z => tw_Ctab (r' := (tw_tb mLc37)) dk_L_law_ (g10 z)
  change ∀ z : Unit, tw_C g mLc37 _ _ _ _ _ _ _ _ _ _ at g10
  refine tw_Ctab (r := (tw_tb mLc37)) dk_Lc37 ?_
  show tw_C g mLc37 _ _ _ _ _ _ _ _ _ _
  unfold f_Lc37
  refine tw_aload_n (k := 0) rfl rfl ?_
  refine tw_aload_n (k := 1) rfl rfl ?_
  refine tw_iload (k := 2) rfl rfl ?_
  refine tw_iconst (k := 3) (1 : Int32) rfl (by decide) ?_
  refine tw_iadd (k := 4) rfl ?_
  refine tw_iaload (k := 5) rfl (fun x296 => ?_)
  refine tw_aload_n (k := 6) rfl rfl ?_
  refine tw_callSW (k := 7) (d' := 8) (mc' := 1) (ms' := 6) tw_cI tw_cIi [.ref b1, .int x296, .ref b5] rfl rfl wx_RL_271_L_mend mo_L_mend rfl (fun Q9 => K_L_mend Q9 b1 x296 b5) (by omega) (by omega) (by omega) (Nat.le_of_ble_eq_true rfl) (fun x297 => ?_)
  refine tw_ist (k := 8) [some (.ref a0), some (.ref b1), some (.ref b3), some (.ref b5), some (.int s7), some (.int x297), none] rfl (Nat.le_of_ble_eq_true rfl) rfl rfl ?_
  refine tw_aload_n (k := 9) rfl rfl ?_
  refine tw_aload_n (k := 10) rfl rfl ?_
  refine tw_iload (k := 11) rfl rfl ?_
  refine tw_iconst (k := 12) (1 : Int32) rfl (by decide) ?_
  refine tw_iadd (k := 13) rfl ?_
  refine tw_iaload (k := 14) rfl (fun x298 => ?_)
  refine tw_callV (k := 15) (d' := 7) (mc' := 0) (ms' := 0) tw_cI tw_cIi [.int x298] rfl rfl wv_RL_273_X12_mend mo_X12_mend (t := 11) rfl rfl rfl (fun Q9 => K_X12_mend Q9 b3 x298) (by omega) (by omega) (by omega) (Nat.le_of_ble_eq_true rfl) (fun x299 => ?_)
  refine tw_ist (k := 16) [some (.ref a0), some (.ref b1), some (.ref b3), some (.ref b5), some (.int s7), some (.int x297), some (.int x299)] rfl (Nat.le_of_ble_eq_true rfl) rfl rfl ?_
  refine tw_aload_n (k := 17) rfl rfl ?_
  refine tw_callV (k := 18) (d' := 1) (mc' := 0) (ms' := 0) tw_cI tw_cIi [] rfl rfl wv_RL_152_X12_thrown mo_X12_thrown (t := 11) rfl rfl rfl (fun Q9 => K_X12_thrown Q9 b3) (by omega) (by omega) (by omega) (Nat.le_of_ble_eq_true rfl) (fun x300 => ?_)
  refine tw_iload (k := 19) rfl rfl ?_
  refine tw_icmp_eq (k := 20) 2206 rfl (by decide) ?_ ?_
  · refine tw_iload (k := 23) rfl rfl ?_
    refine tw_join 2223 (fun s302 => [some (.ref a0), some (.ref b1), some (.ref b3), some (.ref b5), some (.int s7), some (.int x297), some (.int x299)]) (fun s302 => []) (182 + s7.toNatClampNeg + 1) (20089 + 300 * s7.toNatClampNeg + 6) (fun s302 => ?_) (fun j301 g301 => ?_)
    · refine tw_goto (k := 34) 2993 rfl (by decide) ?_
      refine tw_wide (k2 := (182 + s7.toNatClampNeg + 6)) (s2 := (20089 + 300 * s7.toNatClampNeg + 1626)) (by omega) (by omega) ?_
      exact tw_wk (L' := [some (.ref a0), some (.ref b1), some (.ref b3), some (.ref b5), some (.int s7), none, none]) ⟨Or.inr rfl, Or.inr rfl, Or.inr rfl, Or.inr rfl, Or.inr rfl, Or.inl rfl, Or.inl rfl, trivial⟩ (g10 ())
    · refine tw_if_ne (k := 24) 2223 rfl (by decide) ?_ ?_
      · exact g301 ()
      · refine tw_aload_n (k := 25) rfl rfl ?_
        refine tw_iconst (k := 26) (0 : Int32) rfl (by decide) ?_
        refine tw_laload (k := 27) rfl (fun x303 => ?_)
        refine tw_iload (k := 28) rfl rfl ?_
        refine tw_i2l (k := 29) rfl ?_
        refine tw_lcmp (k := 30) rfl ?_
        refine tw_if_eq (k := 31) 2223 rfl (by decide) ?_ ?_
        · exact g301 ()
        · refine tw_iconst (k := 32) (0 : Int32) rfl (by decide) ?_
          exact tw_zreturn (k := 33) rfl rfl (by omega) (by omega)
  · refine tw_iconst (k := 21) (0 : Int32) rfl (by decide) ?_
    exact tw_zreturn (k := 22) rfl rfl (by omega) (by omega)
def f_Lc38 (a0 b1 b3 b5 : Nat) (s7 : Int32) (j10 : Unit → tw_Mem → Prop) (k : Int32 → tw_Mem → Prop) : tw_Mem → Prop :=
  tw_iv 10 b1 (f_X11_bill b1 (fun x304 => tw_iv 11 b3 (f_X12_bill b3 (fun x305 => tw_if (x304 = x305) (j10 ()) (tw_rz (0 : Int32) (k (0 : Int32)))))))
set_option maxHeartbeats 4000000 in
set_option maxRecDepth 100000 in
theorem C_Lc38 {g : tw_Gx} {Q : tw_Rs → tw_Mem → Prop} (a0 b1 b3 b5 : Nat) (s7 : Int32) (hP7 : s7.toNatClampNeg ≤ 3072) (j10 : Unit → tw_Mem → Prop) (g10 : ∀ z : Unit, tw_C g mL_law_ 1300 601024 7293034 Q 2993 [some (.ref a0), some (.ref b1), some (.ref b3), some (.ref b5), some (.int s7), none, none] [] (182 + s7.toNatClampNeg + 6) (20089 + 300 * s7.toNatClampNeg + 1626) (j10 z)) : tw_C g mL_law_ 1300 601024 7293034 Q 2226 [some (.ref a0), some (.ref b1), some (.ref b3), some (.ref b5), some (.int s7), none, none] [] (182 + s7.toNatClampNeg + 0) (20089 + 300 * s7.toNatClampNeg + 0) (f_Lc38 a0 b1 b3 b5 s7 j10 (fun v => Q (.inl (some (.int v))))) := by
  have g10 := fun z => tw_Ctab (r' := (tw_tb mLc38)) dk_L_law_ (g10 z)
  change ∀ z : Unit, tw_C g mLc38 _ _ _ _ _ _ _ _ _ _ at g10
  refine tw_Ctab (r := (tw_tb mLc38)) dk_Lc38 ?_
  show tw_C g mLc38 _ _ _ _ _ _ _ _ _ _
  unfold f_Lc38
  refine tw_aload_n (k := 0) rfl rfl ?_
  refine tw_callV (k := 1) (d' := 6) (mc' := 0) (ms' := 0) tw_cI tw_cIi [] rfl rfl wv_RL_274_X11_bill mo_X11_bill (t := 10) rfl rfl rfl (fun Q9 => K_X11_bill Q9 b1) (by omega) (by omega) (by omega) (Nat.le_of_ble_eq_true rfl) (fun x304 => ?_)
  refine tw_aload_n (k := 2) rfl rfl ?_
  refine tw_callV (k := 3) (d' := 5) (mc' := 0) (ms' := 0) tw_cI tw_cIi [] rfl rfl wv_RL_277_X12_bill mo_X12_bill (t := 11) rfl rfl rfl (fun Q9 => K_X12_bill Q9 b3) (by omega) (by omega) (by omega) (Nat.le_of_ble_eq_true rfl) (fun x305 => ?_)
  refine tw_icmp_eq (k := 4) 2993 rfl (by decide) ?_ ?_
  · refine tw_wide (k2 := (182 + s7.toNatClampNeg + 6)) (s2 := (20089 + 300 * s7.toNatClampNeg + 1626)) (by omega) (by omega) ?_
    exact g10 ()
  · refine tw_iconst (k := 5) (0 : Int32) rfl (by decide) ?_
    exact tw_zreturn (k := 6) rfl rfl (by omega) (by omega)
def f_Lc39 (a0 b1 b3 b5 : Nat) (s7 : Int32) (j10 : Unit → tw_Mem → Prop) (k : Int32 → tw_Mem → Prop) : tw_Mem → Prop :=
  tw_iv 10 b1 (f_X11_most b1 (fun x306 => tw_iv 11 b3 (f_X12_most b3 (fun x307 => tw_if (x306 = x307) (j10 ()) (tw_rz (0 : Int32) (k (0 : Int32)))))))
set_option maxHeartbeats 4000000 in
set_option maxRecDepth 100000 in
theorem C_Lc39 {g : tw_Gx} {Q : tw_Rs → tw_Mem → Prop} (a0 b1 b3 b5 : Nat) (s7 : Int32) (hP7 : s7.toNatClampNeg ≤ 3072) (j10 : Unit → tw_Mem → Prop) (g10 : ∀ z : Unit, tw_C g mL_law_ 1300 601024 7293034 Q 2993 [some (.ref a0), some (.ref b1), some (.ref b3), some (.ref b5), some (.int s7), none, none] [] (182 + s7.toNatClampNeg + 6) (20089 + 300 * s7.toNatClampNeg + 1626) (j10 z)) : tw_C g mL_law_ 1300 601024 7293034 Q 2239 [some (.ref a0), some (.ref b1), some (.ref b3), some (.ref b5), some (.int s7), none, none] [] (182 + s7.toNatClampNeg + 0) (20089 + 300 * s7.toNatClampNeg + 0) (f_Lc39 a0 b1 b3 b5 s7 j10 (fun v => Q (.inl (some (.int v))))) := by
  have g10 := fun z => tw_Ctab (r' := (tw_tb mLc39)) dk_L_law_ (g10 z)
  change ∀ z : Unit, tw_C g mLc39 _ _ _ _ _ _ _ _ _ _ at g10
  refine tw_Ctab (r := (tw_tb mLc39)) dk_Lc39 ?_
  show tw_C g mLc39 _ _ _ _ _ _ _ _ _ _
  unfold f_Lc39
  refine tw_aload_n (k := 0) rfl rfl ?_
  refine tw_callV (k := 1) (d' := 5) (mc' := 0) (ms' := 0) tw_cI tw_cIi [] rfl rfl wv_RL_278_X11_most mo_X11_most (t := 10) rfl rfl rfl (fun Q9 => K_X11_most Q9 b1) (by omega) (by omega) (by omega) (Nat.le_of_ble_eq_true rfl) (fun x306 => ?_)
  refine tw_aload_n (k := 2) rfl rfl ?_
  refine tw_callV (k := 3) (d' := 5) (mc' := 0) (ms' := 0) tw_cI tw_cIi [] rfl rfl wv_RL_281_X12_most mo_X12_most (t := 11) rfl rfl rfl (fun Q9 => K_X12_most Q9 b3) (by omega) (by omega) (by omega) (Nat.le_of_ble_eq_true rfl) (fun x307 => ?_)
  refine tw_icmp_eq (k := 4) 2993 rfl (by decide) ?_ ?_
  · refine tw_wide (k2 := (182 + s7.toNatClampNeg + 6)) (s2 := (20089 + 300 * s7.toNatClampNeg + 1626)) (by omega) (by omega) ?_
    exact g10 ()
  · refine tw_iconst (k := 5) (0 : Int32) rfl (by decide) ?_
    exact tw_zreturn (k := 6) rfl rfl (by omega) (by omega)
def f_Lc40 (a0 b1 b3 b5 : Nat) (s7 : Int32) (j10 : Unit → tw_Mem → Prop) (k : Int32 → tw_Mem → Prop) : tw_Mem → Prop :=
  tw_iv 10 b1 (f_X11_nosy b1 (fun x308 => tw_iv 11 b3 (f_X12_nosy b3 (fun x309 => tw_if (x308 = x309) (j10 ()) (tw_rz (0 : Int32) (k (0 : Int32)))))))
set_option maxHeartbeats 4000000 in
set_option maxRecDepth 100000 in
theorem C_Lc40 {g : tw_Gx} {Q : tw_Rs → tw_Mem → Prop} (a0 b1 b3 b5 : Nat) (s7 : Int32) (hP7 : s7.toNatClampNeg ≤ 3072) (j10 : Unit → tw_Mem → Prop) (g10 : ∀ z : Unit, tw_C g mL_law_ 1300 601024 7293034 Q 2993 [some (.ref a0), some (.ref b1), some (.ref b3), some (.ref b5), some (.int s7), none, none] [] (182 + s7.toNatClampNeg + 6) (20089 + 300 * s7.toNatClampNeg + 1626) (j10 z)) : tw_C g mL_law_ 1300 601024 7293034 Q 2252 [some (.ref a0), some (.ref b1), some (.ref b3), some (.ref b5), some (.int s7), none, none] [] (182 + s7.toNatClampNeg + 0) (20089 + 300 * s7.toNatClampNeg + 0) (f_Lc40 a0 b1 b3 b5 s7 j10 (fun v => Q (.inl (some (.int v))))) := by
  have g10 := fun z => tw_Ctab (r' := (tw_tb mLc40)) dk_L_law_ (g10 z)
  change ∀ z : Unit, tw_C g mLc40 _ _ _ _ _ _ _ _ _ _ at g10
  refine tw_Ctab (r := (tw_tb mLc40)) dk_Lc40 ?_
  show tw_C g mLc40 _ _ _ _ _ _ _ _ _ _
  unfold f_Lc40
  refine tw_aload_n (k := 0) rfl rfl ?_
  refine tw_callV (k := 1) (d' := 5) (mc' := 0) (ms' := 0) tw_cI tw_cIi [] rfl rfl wv_RL_282_X11_nosy mo_X11_nosy (t := 10) rfl rfl rfl (fun Q9 => K_X11_nosy Q9 b1) (by omega) (by omega) (by omega) (Nat.le_of_ble_eq_true rfl) (fun x308 => ?_)
  refine tw_aload_n (k := 2) rfl rfl ?_
  refine tw_callV (k := 3) (d' := 5) (mc' := 0) (ms' := 0) tw_cI tw_cIi [] rfl rfl wv_RL_285_X12_nosy mo_X12_nosy (t := 11) rfl rfl rfl (fun Q9 => K_X12_nosy Q9 b3) (by omega) (by omega) (by omega) (Nat.le_of_ble_eq_true rfl) (fun x309 => ?_)
  refine tw_icmp_eq (k := 4) 2993 rfl (by decide) ?_ ?_
  · refine tw_wide (k2 := (182 + s7.toNatClampNeg + 6)) (s2 := (20089 + 300 * s7.toNatClampNeg + 1626)) (by omega) (by omega) ?_
    exact g10 ()
  · refine tw_iconst (k := 5) (0 : Int32) rfl (by decide) ?_
    exact tw_zreturn (k := 6) rfl rfl (by omega) (by omega)
def f_Lc41 (a0 b1 b3 b5 : Nat) (s7 : Int32) (j10 : Unit → tw_Mem → Prop) (k : Int32 → tw_Mem → Prop) : tw_Mem → Prop :=
  tw_li a0 (s7 + (1 : Int32)) fun x310 => tw_li a0 (s7 + (2 : Int32)) fun x311 => f_L_secret b1 x310 x311 b5 (fun x312 => tw_li a0 (s7 + (1 : Int32)) fun x313 => tw_li a0 (s7 + (2 : Int32)) fun x314 => tw_iv 11 b3 (f_X12_secret b3 x313 x314 (fun x315 => tw_iv 11 b3 (f_X12_thrown b3 (fun x316 => tw_if (x316 = x312) (tw_jn (fun (s318 : Unit) => j10 ()) (fun j317 => tw_if (x312 = 0) (tw_ll b5 (0 : Int32) fun x319 => tw_if ((lg_cmp x319 (x315.toInt64)) = 0) (j317 ()) (tw_rz (0 : Int32) (k (0 : Int32)))) (j317 ()))) (tw_rz (0 : Int32) (k (0 : Int32))))))))
set_option maxHeartbeats 4000000 in
set_option maxRecDepth 100000 in
theorem C_Lc41 {g : tw_Gx} {Q : tw_Rs → tw_Mem → Prop} (a0 b1 b3 b5 : Nat) (s7 : Int32) (hP7 : s7.toNatClampNeg ≤ 3072) (j10 : Unit → tw_Mem → Prop) (g10 : ∀ z : Unit, tw_C g mL_law_ 1300 601024 7293034 Q 2993 [some (.ref a0), some (.ref b1), some (.ref b3), some (.ref b5), some (.int s7), none, none] [] (182 + s7.toNatClampNeg + 6) (20089 + 300 * s7.toNatClampNeg + 1626) (j10 z)) : tw_C g mL_law_ 1300 601024 7293034 Q 2265 [some (.ref a0), some (.ref b1), some (.ref b3), some (.ref b5), some (.int s7), none, none] [] (182 + s7.toNatClampNeg + 0) (20089 + 300 * s7.toNatClampNeg + 0) (f_Lc41 a0 b1 b3 b5 s7 j10 (fun v => Q (.inl (some (.int v))))) := by
  have g10 := fun z => tw_Ctab (r' := (tw_tb mLc41)) dk_L_law_ (g10 z)
  change ∀ z : Unit, tw_C g mLc41 _ _ _ _ _ _ _ _ _ _ at g10
  refine tw_Ctab (r := (tw_tb mLc41)) dk_Lc41 ?_
  show tw_C g mLc41 _ _ _ _ _ _ _ _ _ _
  unfold f_Lc41
  refine tw_aload_n (k := 0) rfl rfl ?_
  refine tw_aload_n (k := 1) rfl rfl ?_
  refine tw_iload (k := 2) rfl rfl ?_
  refine tw_iconst (k := 3) (1 : Int32) rfl (by decide) ?_
  refine tw_iadd (k := 4) rfl ?_
  refine tw_iaload (k := 5) rfl (fun x310 => ?_)
  refine tw_aload_n (k := 6) rfl rfl ?_
  refine tw_iload (k := 7) rfl rfl ?_
  refine tw_iconst (k := 8) (2 : Int32) rfl (by decide) ?_
  refine tw_iadd (k := 9) rfl ?_
  refine tw_iaload (k := 10) rfl (fun x311 => ?_)
  refine tw_aload_n (k := 11) rfl rfl ?_
  refine tw_callSW (k := 12) (d' := 9) (mc' := 3) (ms' := 18) tw_cI tw_cIi [.ref b1, .int x310, .int x311, .ref b5] rfl rfl wx_RL_286_L_secret mo_L_secret rfl (fun Q9 => K_L_secret Q9 b1 x310 x311 b5) (by omega) (by omega) (by omega) (Nat.le_of_ble_eq_true rfl) (fun x312 => ?_)
  refine tw_ist (k := 13) [some (.ref a0), some (.ref b1), some (.ref b3), some (.ref b5), some (.int s7), some (.int x312), none] rfl (Nat.le_of_ble_eq_true rfl) rfl rfl ?_
  refine tw_aload_n (k := 14) rfl rfl ?_
  refine tw_aload_n (k := 15) rfl rfl ?_
  refine tw_iload (k := 16) rfl rfl ?_
  refine tw_iconst (k := 17) (1 : Int32) rfl (by decide) ?_
  refine tw_iadd (k := 18) rfl ?_
  refine tw_iaload (k := 19) rfl (fun x313 => ?_)
  refine tw_aload_n (k := 20) rfl rfl ?_
  refine tw_iload (k := 21) rfl rfl ?_
  refine tw_iconst (k := 22) (2 : Int32) rfl (by decide) ?_
  refine tw_iadd (k := 23) rfl ?_
  refine tw_iaload (k := 24) rfl (fun x314 => ?_)
  refine tw_callV (k := 25) (d' := 12) (mc' := 0) (ms' := 0) tw_cI tw_cIi [.int x313, .int x314] rfl rfl wv_RL_288_X12_secret mo_X12_secret (t := 11) rfl rfl rfl (fun Q9 => K_X12_secret Q9 b3 x313 x314) (by omega) (by omega) (by omega) (Nat.le_of_ble_eq_true rfl) (fun x315 => ?_)
  refine tw_ist (k := 26) [some (.ref a0), some (.ref b1), some (.ref b3), some (.ref b5), some (.int s7), some (.int x312), some (.int x315)] rfl (Nat.le_of_ble_eq_true rfl) rfl rfl ?_
  refine tw_aload_n (k := 27) rfl rfl ?_
  refine tw_callV (k := 28) (d' := 1) (mc' := 0) (ms' := 0) tw_cI tw_cIi [] rfl rfl wv_RL_152_X12_thrown mo_X12_thrown (t := 11) rfl rfl rfl (fun Q9 => K_X12_thrown Q9 b3) (by omega) (by omega) (by omega) (Nat.le_of_ble_eq_true rfl) (fun x316 => ?_)
  refine tw_iload (k := 29) rfl rfl ?_
  refine tw_icmp_eq (k := 30) 2313 rfl (by decide) ?_ ?_
  · refine tw_iload (k := 33) rfl rfl ?_
    refine tw_join 2330 (fun s318 => [some (.ref a0), some (.ref b1), some (.ref b3), some (.ref b5), some (.int s7), some (.int x312), some (.int x315)]) (fun s318 => []) (182 + s7.toNatClampNeg + 3) (20089 + 300 * s7.toNatClampNeg + 18) (fun s318 => ?_) (fun j317 g317 => ?_)
    · refine tw_goto (k := 44) 2993 rfl (by decide) ?_
      refine tw_wide (k2 := (182 + s7.toNatClampNeg + 6)) (s2 := (20089 + 300 * s7.toNatClampNeg + 1626)) (by omega) (by omega) ?_
      exact tw_wk (L' := [some (.ref a0), some (.ref b1), some (.ref b3), some (.ref b5), some (.int s7), none, none]) ⟨Or.inr rfl, Or.inr rfl, Or.inr rfl, Or.inr rfl, Or.inr rfl, Or.inl rfl, Or.inl rfl, trivial⟩ (g10 ())
    · refine tw_if_ne (k := 34) 2330 rfl (by decide) ?_ ?_
      · exact g317 ()
      · refine tw_aload_n (k := 35) rfl rfl ?_
        refine tw_iconst (k := 36) (0 : Int32) rfl (by decide) ?_
        refine tw_laload (k := 37) rfl (fun x319 => ?_)
        refine tw_iload (k := 38) rfl rfl ?_
        refine tw_i2l (k := 39) rfl ?_
        refine tw_lcmp (k := 40) rfl ?_
        refine tw_if_eq (k := 41) 2330 rfl (by decide) ?_ ?_
        · exact g317 ()
        · refine tw_iconst (k := 42) (0 : Int32) rfl (by decide) ?_
          exact tw_zreturn (k := 43) rfl rfl (by omega) (by omega)
  · refine tw_iconst (k := 31) (0 : Int32) rfl (by decide) ?_
    exact tw_zreturn (k := 32) rfl rfl (by omega) (by omega)
def f_Lc42 (a0 b1 b3 b5 : Nat) (s7 : Int32) (j10 : Unit → tw_Mem → Prop) (k : Int32 → tw_Mem → Prop) : tw_Mem → Prop :=
  tw_li a0 (s7 + (1 : Int32)) fun x320 => tw_li a0 (s7 + (2 : Int32)) fun x321 => tw_li a0 (s7 + (3 : Int32)) fun x322 => tw_li a0 (s7 + (4 : Int32)) fun x323 => f_L_odds b1 x320 x321 x322 x323 b5 (fun x324 => tw_li a0 (s7 + (1 : Int32)) fun x325 => tw_li a0 (s7 + (2 : Int32)) fun x326 => tw_li a0 (s7 + (3 : Int32)) fun x327 => tw_li a0 (s7 + (4 : Int32)) fun x328 => tw_iv 11 b3 (f_X12_odds b3 x325 x326 x327 x328 (fun x329 => tw_iv 11 b3 (f_X12_thrown b3 (fun x330 => tw_if (x330 = x324) (tw_jn (fun (s332 : Unit) => j10 ()) (fun j331 => tw_if (x324 = 0) (tw_ll b5 (0 : Int32) fun x333 => tw_if ((lg_cmp x333 (x329.toInt64)) = 0) (j331 ()) (tw_rz (0 : Int32) (k (0 : Int32)))) (j331 ()))) (tw_rz (0 : Int32) (k (0 : Int32))))))))
set_option maxHeartbeats 4000000 in
set_option maxRecDepth 100000 in
theorem C_Lc42 {g : tw_Gx} {Q : tw_Rs → tw_Mem → Prop} (a0 b1 b3 b5 : Nat) (s7 : Int32) (hP7 : s7.toNatClampNeg ≤ 3072) (j10 : Unit → tw_Mem → Prop) (g10 : ∀ z : Unit, tw_C g mL_law_ 1300 601024 7293034 Q 2993 [some (.ref a0), some (.ref b1), some (.ref b3), some (.ref b5), some (.int s7), none, none] [] (182 + s7.toNatClampNeg + 6) (20089 + 300 * s7.toNatClampNeg + 1626) (j10 z)) : tw_C g mL_law_ 1300 601024 7293034 Q 2333 [some (.ref a0), some (.ref b1), some (.ref b3), some (.ref b5), some (.int s7), none, none] [] (182 + s7.toNatClampNeg + 0) (20089 + 300 * s7.toNatClampNeg + 0) (f_Lc42 a0 b1 b3 b5 s7 j10 (fun v => Q (.inl (some (.int v))))) := by
  have g10 := fun z => tw_Ctab (r' := (tw_tb mLc42)) dk_L_law_ (g10 z)
  change ∀ z : Unit, tw_C g mLc42 _ _ _ _ _ _ _ _ _ _ at g10
  refine tw_Ctab (r := (tw_tb mLc42)) dk_Lc42 ?_
  show tw_C g mLc42 _ _ _ _ _ _ _ _ _ _
  unfold f_Lc42
  refine tw_aload_n (k := 0) rfl rfl ?_
  refine tw_aload_n (k := 1) rfl rfl ?_
  refine tw_iload (k := 2) rfl rfl ?_
  refine tw_iconst (k := 3) (1 : Int32) rfl (by decide) ?_
  refine tw_iadd (k := 4) rfl ?_
  refine tw_iaload (k := 5) rfl (fun x320 => ?_)
  refine tw_aload_n (k := 6) rfl rfl ?_
  refine tw_iload (k := 7) rfl rfl ?_
  refine tw_iconst (k := 8) (2 : Int32) rfl (by decide) ?_
  refine tw_iadd (k := 9) rfl ?_
  refine tw_iaload (k := 10) rfl (fun x321 => ?_)
  refine tw_aload_n (k := 11) rfl rfl ?_
  refine tw_iload (k := 12) rfl rfl ?_
  refine tw_iconst (k := 13) (3 : Int32) rfl (by decide) ?_
  refine tw_iadd (k := 14) rfl ?_
  refine tw_iaload (k := 15) rfl (fun x322 => ?_)
  refine tw_aload_n (k := 16) rfl rfl ?_
  refine tw_iload (k := 17) rfl rfl ?_
  refine tw_iconst (k := 18) (4 : Int32) rfl (by decide) ?_
  refine tw_iadd (k := 19) rfl ?_
  refine tw_iaload (k := 20) rfl (fun x323 => ?_)
  refine tw_aload_n (k := 21) rfl rfl ?_
  refine tw_callSW (k := 22) (d' := 9) (mc' := 5) (ms' := 30) tw_cI tw_cIi [.ref b1, .int x320, .int x321, .int x322, .int x323, .ref b5] rfl rfl wx_RL_289_L_odds mo_L_odds rfl (fun Q9 => K_L_odds Q9 b1 x320 x321 x322 x323 b5) (by omega) (by omega) (by omega) (Nat.le_of_ble_eq_true rfl) (fun x324 => ?_)
  refine tw_ist (k := 23) [some (.ref a0), some (.ref b1), some (.ref b3), some (.ref b5), some (.int s7), some (.int x324), none] rfl (Nat.le_of_ble_eq_true rfl) rfl rfl ?_
  refine tw_aload_n (k := 24) rfl rfl ?_
  refine tw_aload_n (k := 25) rfl rfl ?_
  refine tw_iload (k := 26) rfl rfl ?_
  refine tw_iconst (k := 27) (1 : Int32) rfl (by decide) ?_
  refine tw_iadd (k := 28) rfl ?_
  refine tw_iaload (k := 29) rfl (fun x325 => ?_)
  refine tw_aload_n (k := 30) rfl rfl ?_
  refine tw_iload (k := 31) rfl rfl ?_
  refine tw_iconst (k := 32) (2 : Int32) rfl (by decide) ?_
  refine tw_iadd (k := 33) rfl ?_
  refine tw_iaload (k := 34) rfl (fun x326 => ?_)
  refine tw_aload_n (k := 35) rfl rfl ?_
  refine tw_iload (k := 36) rfl rfl ?_
  refine tw_iconst (k := 37) (3 : Int32) rfl (by decide) ?_
  refine tw_iadd (k := 38) rfl ?_
  refine tw_iaload (k := 39) rfl (fun x327 => ?_)
  refine tw_aload_n (k := 40) rfl rfl ?_
  refine tw_iload (k := 41) rfl rfl ?_
  refine tw_iconst (k := 42) (4 : Int32) rfl (by decide) ?_
  refine tw_iadd (k := 43) rfl ?_
  refine tw_iaload (k := 44) rfl (fun x328 => ?_)
  refine tw_callV (k := 45) (d' := 4) (mc' := 0) (ms' := 0) tw_cI tw_cIi [.int x325, .int x326, .int x327, .int x328] rfl rfl wv_RL_292_X12_odds mo_X12_odds (t := 11) rfl rfl rfl (fun Q9 => K_X12_odds Q9 b3 x325 x326 x327 x328) (by omega) (by omega) (by omega) (Nat.le_of_ble_eq_true rfl) (fun x329 => ?_)
  refine tw_ist (k := 46) [some (.ref a0), some (.ref b1), some (.ref b3), some (.ref b5), some (.int s7), some (.int x324), some (.int x329)] rfl (Nat.le_of_ble_eq_true rfl) rfl rfl ?_
  refine tw_aload_n (k := 47) rfl rfl ?_
  refine tw_callV (k := 48) (d' := 1) (mc' := 0) (ms' := 0) tw_cI tw_cIi [] rfl rfl wv_RL_152_X12_thrown mo_X12_thrown (t := 11) rfl rfl rfl (fun Q9 => K_X12_thrown Q9 b3) (by omega) (by omega) (by omega) (Nat.le_of_ble_eq_true rfl) (fun x330 => ?_)
  refine tw_iload (k := 49) rfl rfl ?_
  refine tw_icmp_eq (k := 50) 2405 rfl (by decide) ?_ ?_
  · refine tw_iload (k := 53) rfl rfl ?_
    refine tw_join 2422 (fun s332 => [some (.ref a0), some (.ref b1), some (.ref b3), some (.ref b5), some (.int s7), some (.int x324), some (.int x329)]) (fun s332 => []) (182 + s7.toNatClampNeg + 5) (20089 + 300 * s7.toNatClampNeg + 30) (fun s332 => ?_) (fun j331 g331 => ?_)
    · refine tw_goto (k := 64) 2993 rfl (by decide) ?_
      refine tw_wide (k2 := (182 + s7.toNatClampNeg + 6)) (s2 := (20089 + 300 * s7.toNatClampNeg + 1626)) (by omega) (by omega) ?_
      exact tw_wk (L' := [some (.ref a0), some (.ref b1), some (.ref b3), some (.ref b5), some (.int s7), none, none]) ⟨Or.inr rfl, Or.inr rfl, Or.inr rfl, Or.inr rfl, Or.inr rfl, Or.inl rfl, Or.inl rfl, trivial⟩ (g10 ())
    · refine tw_if_ne (k := 54) 2422 rfl (by decide) ?_ ?_
      · exact g331 ()
      · refine tw_aload_n (k := 55) rfl rfl ?_
        refine tw_iconst (k := 56) (0 : Int32) rfl (by decide) ?_
        refine tw_laload (k := 57) rfl (fun x333 => ?_)
        refine tw_iload (k := 58) rfl rfl ?_
        refine tw_i2l (k := 59) rfl ?_
        refine tw_lcmp (k := 60) rfl ?_
        refine tw_if_eq (k := 61) 2422 rfl (by decide) ?_ ?_
        · exact g331 ()
        · refine tw_iconst (k := 62) (0 : Int32) rfl (by decide) ?_
          exact tw_zreturn (k := 63) rfl rfl (by omega) (by omega)
  · refine tw_iconst (k := 51) (0 : Int32) rfl (by decide) ?_
    exact tw_zreturn (k := 52) rfl rfl (by omega) (by omega)
def f_Lc43 (a0 b1 b3 b5 : Nat) (s7 : Int32) (j10 : Unit → tw_Mem → Prop) (k : Int32 → tw_Mem → Prop) : tw_Mem → Prop :=
  tw_iv 10 b1 (f_X11_twins b1 (fun x334 => tw_iv 11 b3 (f_X12_twins b3 (fun x335 => tw_if (x334 = x335) (j10 ()) (tw_rz (0 : Int32) (k (0 : Int32)))))))
set_option maxHeartbeats 4000000 in
set_option maxRecDepth 100000 in
theorem C_Lc43 {g : tw_Gx} {Q : tw_Rs → tw_Mem → Prop} (a0 b1 b3 b5 : Nat) (s7 : Int32) (hP7 : s7.toNatClampNeg ≤ 3072) (j10 : Unit → tw_Mem → Prop) (g10 : ∀ z : Unit, tw_C g mL_law_ 1300 601024 7293034 Q 2993 [some (.ref a0), some (.ref b1), some (.ref b3), some (.ref b5), some (.int s7), none, none] [] (182 + s7.toNatClampNeg + 6) (20089 + 300 * s7.toNatClampNeg + 1626) (j10 z)) : tw_C g mL_law_ 1300 601024 7293034 Q 2425 [some (.ref a0), some (.ref b1), some (.ref b3), some (.ref b5), some (.int s7), none, none] [] (182 + s7.toNatClampNeg + 0) (20089 + 300 * s7.toNatClampNeg + 0) (f_Lc43 a0 b1 b3 b5 s7 j10 (fun v => Q (.inl (some (.int v))))) := by
  have g10 := fun z => tw_Ctab (r' := (tw_tb mLc43)) dk_L_law_ (g10 z)
  change ∀ z : Unit, tw_C g mLc43 _ _ _ _ _ _ _ _ _ _ at g10
  refine tw_Ctab (r := (tw_tb mLc43)) dk_Lc43 ?_
  show tw_C g mLc43 _ _ _ _ _ _ _ _ _ _
  unfold f_Lc43
  refine tw_aload_n (k := 0) rfl rfl ?_
  refine tw_callV (k := 1) (d' := 6) (mc' := 0) (ms' := 0) tw_cI tw_cIi [] rfl rfl wv_RL_293_X11_twins mo_X11_twins (t := 10) rfl rfl rfl (fun Q9 => K_X11_twins Q9 b1) (by omega) (by omega) (by omega) (Nat.le_of_ble_eq_true rfl) (fun x334 => ?_)
  refine tw_aload_n (k := 2) rfl rfl ?_
  refine tw_callV (k := 3) (d' := 4) (mc' := 0) (ms' := 0) tw_cI tw_cIi [] rfl rfl wv_RL_296_X12_twins mo_X12_twins (t := 11) rfl rfl rfl (fun Q9 => K_X12_twins Q9 b3) (by omega) (by omega) (by omega) (Nat.le_of_ble_eq_true rfl) (fun x335 => ?_)
  refine tw_icmp_eq (k := 4) 2993 rfl (by decide) ?_ ?_
  · refine tw_wide (k2 := (182 + s7.toNatClampNeg + 6)) (s2 := (20089 + 300 * s7.toNatClampNeg + 1626)) (by omega) (by omega) ?_
    exact g10 ()
  · refine tw_iconst (k := 5) (0 : Int32) rfl (by decide) ?_
    exact tw_zreturn (k := 6) rfl rfl (by omega) (by omega)
def f_Lc44 (a0 b1 b3 b5 : Nat) (s7 : Int32) (j10 : Unit → tw_Mem → Prop) (k : Int32 → tw_Mem → Prop) : tw_Mem → Prop :=
  tw_li a0 (s7 + (1 : Int32)) fun x336 => tw_li a0 (s7 + (2 : Int32)) fun x337 => f_L_rests b1 x336 x337 b5 (fun x338 => tw_li a0 (s7 + (1 : Int32)) fun x339 => tw_li a0 (s7 + (2 : Int32)) fun x340 => tw_iv 11 b3 (f_X12_rests b3 x339 x340 (fun x341 => tw_iv 11 b3 (f_X12_thrown b3 (fun x342 => tw_if (x342 = x338) (tw_jn (fun (s344 : Unit) => j10 ()) (fun j343 => tw_if (x338 = 0) (tw_ll b5 (0 : Int32) fun x345 => tw_if ((lg_cmp x345 (x341.toInt64)) = 0) (j343 ()) (tw_rz (0 : Int32) (k (0 : Int32)))) (j343 ()))) (tw_rz (0 : Int32) (k (0 : Int32))))))))
set_option maxHeartbeats 4000000 in
set_option maxRecDepth 100000 in
theorem C_Lc44 {g : tw_Gx} {Q : tw_Rs → tw_Mem → Prop} (a0 b1 b3 b5 : Nat) (s7 : Int32) (hP7 : s7.toNatClampNeg ≤ 3072) (j10 : Unit → tw_Mem → Prop) (g10 : ∀ z : Unit, tw_C g mL_law_ 1300 601024 7293034 Q 2993 [some (.ref a0), some (.ref b1), some (.ref b3), some (.ref b5), some (.int s7), none, none] [] (182 + s7.toNatClampNeg + 6) (20089 + 300 * s7.toNatClampNeg + 1626) (j10 z)) : tw_C g mL_law_ 1300 601024 7293034 Q 2438 [some (.ref a0), some (.ref b1), some (.ref b3), some (.ref b5), some (.int s7), none, none] [] (182 + s7.toNatClampNeg + 0) (20089 + 300 * s7.toNatClampNeg + 0) (f_Lc44 a0 b1 b3 b5 s7 j10 (fun v => Q (.inl (some (.int v))))) := by
  have g10 := fun z => tw_Ctab (r' := (tw_tb mLc44)) dk_L_law_ (g10 z)
  change ∀ z : Unit, tw_C g mLc44 _ _ _ _ _ _ _ _ _ _ at g10
  refine tw_Ctab (r := (tw_tb mLc44)) dk_Lc44 ?_
  show tw_C g mLc44 _ _ _ _ _ _ _ _ _ _
  unfold f_Lc44
  refine tw_aload_n (k := 0) rfl rfl ?_
  refine tw_aload_n (k := 1) rfl rfl ?_
  refine tw_iload (k := 2) rfl rfl ?_
  refine tw_iconst (k := 3) (1 : Int32) rfl (by decide) ?_
  refine tw_iadd (k := 4) rfl ?_
  refine tw_iaload (k := 5) rfl (fun x336 => ?_)
  refine tw_aload_n (k := 6) rfl rfl ?_
  refine tw_iload (k := 7) rfl rfl ?_
  refine tw_iconst (k := 8) (2 : Int32) rfl (by decide) ?_
  refine tw_iadd (k := 9) rfl ?_
  refine tw_iaload (k := 10) rfl (fun x337 => ?_)
  refine tw_aload_n (k := 11) rfl rfl ?_
  refine tw_callSW (k := 12) (d' := 9) (mc' := 3) (ms' := 18) tw_cI tw_cIi [.ref b1, .int x336, .int x337, .ref b5] rfl rfl wx_RL_297_L_rests mo_L_rests rfl (fun Q9 => K_L_rests Q9 b1 x336 x337 b5) (by omega) (by omega) (by omega) (Nat.le_of_ble_eq_true rfl) (fun x338 => ?_)
  refine tw_ist (k := 13) [some (.ref a0), some (.ref b1), some (.ref b3), some (.ref b5), some (.int s7), some (.int x338), none] rfl (Nat.le_of_ble_eq_true rfl) rfl rfl ?_
  refine tw_aload_n (k := 14) rfl rfl ?_
  refine tw_aload_n (k := 15) rfl rfl ?_
  refine tw_iload (k := 16) rfl rfl ?_
  refine tw_iconst (k := 17) (1 : Int32) rfl (by decide) ?_
  refine tw_iadd (k := 18) rfl ?_
  refine tw_iaload (k := 19) rfl (fun x339 => ?_)
  refine tw_aload_n (k := 20) rfl rfl ?_
  refine tw_iload (k := 21) rfl rfl ?_
  refine tw_iconst (k := 22) (2 : Int32) rfl (by decide) ?_
  refine tw_iadd (k := 23) rfl ?_
  refine tw_iaload (k := 24) rfl (fun x340 => ?_)
  refine tw_callV (k := 25) (d' := 5) (mc' := 0) (ms' := 0) tw_cI tw_cIi [.int x339, .int x340] rfl rfl wv_RL_299_X12_rests mo_X12_rests (t := 11) rfl rfl rfl (fun Q9 => K_X12_rests Q9 b3 x339 x340) (by omega) (by omega) (by omega) (Nat.le_of_ble_eq_true rfl) (fun x341 => ?_)
  refine tw_ist (k := 26) [some (.ref a0), some (.ref b1), some (.ref b3), some (.ref b5), some (.int s7), some (.int x338), some (.int x341)] rfl (Nat.le_of_ble_eq_true rfl) rfl rfl ?_
  refine tw_aload_n (k := 27) rfl rfl ?_
  refine tw_callV (k := 28) (d' := 1) (mc' := 0) (ms' := 0) tw_cI tw_cIi [] rfl rfl wv_RL_152_X12_thrown mo_X12_thrown (t := 11) rfl rfl rfl (fun Q9 => K_X12_thrown Q9 b3) (by omega) (by omega) (by omega) (Nat.le_of_ble_eq_true rfl) (fun x342 => ?_)
  refine tw_iload (k := 29) rfl rfl ?_
  refine tw_icmp_eq (k := 30) 2486 rfl (by decide) ?_ ?_
  · refine tw_iload (k := 33) rfl rfl ?_
    refine tw_join 2503 (fun s344 => [some (.ref a0), some (.ref b1), some (.ref b3), some (.ref b5), some (.int s7), some (.int x338), some (.int x341)]) (fun s344 => []) (182 + s7.toNatClampNeg + 3) (20089 + 300 * s7.toNatClampNeg + 18) (fun s344 => ?_) (fun j343 g343 => ?_)
    · refine tw_goto (k := 44) 2993 rfl (by decide) ?_
      refine tw_wide (k2 := (182 + s7.toNatClampNeg + 6)) (s2 := (20089 + 300 * s7.toNatClampNeg + 1626)) (by omega) (by omega) ?_
      exact tw_wk (L' := [some (.ref a0), some (.ref b1), some (.ref b3), some (.ref b5), some (.int s7), none, none]) ⟨Or.inr rfl, Or.inr rfl, Or.inr rfl, Or.inr rfl, Or.inr rfl, Or.inl rfl, Or.inl rfl, trivial⟩ (g10 ())
    · refine tw_if_ne (k := 34) 2503 rfl (by decide) ?_ ?_
      · exact g343 ()
      · refine tw_aload_n (k := 35) rfl rfl ?_
        refine tw_iconst (k := 36) (0 : Int32) rfl (by decide) ?_
        refine tw_laload (k := 37) rfl (fun x345 => ?_)
        refine tw_iload (k := 38) rfl rfl ?_
        refine tw_i2l (k := 39) rfl ?_
        refine tw_lcmp (k := 40) rfl ?_
        refine tw_if_eq (k := 41) 2503 rfl (by decide) ?_ ?_
        · exact g343 ()
        · refine tw_iconst (k := 42) (0 : Int32) rfl (by decide) ?_
          exact tw_zreturn (k := 43) rfl rfl (by omega) (by omega)
  · refine tw_iconst (k := 31) (0 : Int32) rfl (by decide) ?_
    exact tw_zreturn (k := 32) rfl rfl (by omega) (by omega)
def f_Lc45 (a0 b1 b3 b5 : Nat) (s7 : Int32) (j10 : Unit → tw_Mem → Prop) (k : Int32 → tw_Mem → Prop) : tw_Mem → Prop :=
  tw_li a0 (s7 + (1 : Int32)) fun x346 => tw_li a0 (s7 + (2 : Int32)) fun x347 => tw_li a0 (s7 + (3 : Int32)) fun x348 => f_L_ahead b1 x346 x347 x348 b5 (fun x349 => tw_li a0 (s7 + (1 : Int32)) fun x350 => tw_li a0 (s7 + (2 : Int32)) fun x351 => tw_li a0 (s7 + (3 : Int32)) fun x352 => tw_iv 11 b3 (f_X12_ahead b3 x350 x351 x352 (fun x353 => tw_iv 11 b3 (f_X12_thrown b3 (fun x354 => tw_if (x354 = x349) (tw_jn (fun (s356 : Unit) => j10 ()) (fun j355 => tw_if (x349 = 0) (tw_ll b5 (0 : Int32) fun x357 => tw_if ((lg_cmp x357 (x353.toInt64)) = 0) (j355 ()) (tw_rz (0 : Int32) (k (0 : Int32)))) (j355 ()))) (tw_rz (0 : Int32) (k (0 : Int32))))))))
set_option maxHeartbeats 4000000 in
set_option maxRecDepth 100000 in
theorem C_Lc45 {g : tw_Gx} {Q : tw_Rs → tw_Mem → Prop} (a0 b1 b3 b5 : Nat) (s7 : Int32) (hP7 : s7.toNatClampNeg ≤ 3072) (j10 : Unit → tw_Mem → Prop) (g10 : ∀ z : Unit, tw_C g mL_law_ 1300 601024 7293034 Q 2993 [some (.ref a0), some (.ref b1), some (.ref b3), some (.ref b5), some (.int s7), none, none] [] (182 + s7.toNatClampNeg + 6) (20089 + 300 * s7.toNatClampNeg + 1626) (j10 z)) : tw_C g mL_law_ 1300 601024 7293034 Q 2506 [some (.ref a0), some (.ref b1), some (.ref b3), some (.ref b5), some (.int s7), none, none] [] (182 + s7.toNatClampNeg + 0) (20089 + 300 * s7.toNatClampNeg + 0) (f_Lc45 a0 b1 b3 b5 s7 j10 (fun v => Q (.inl (some (.int v))))) := by
  have g10 := fun z => tw_Ctab (r' := (tw_tb mLc45)) dk_L_law_ (g10 z)
  change ∀ z : Unit, tw_C g mLc45 _ _ _ _ _ _ _ _ _ _ at g10
  refine tw_Ctab (r := (tw_tb mLc45)) dk_Lc45 ?_
  show tw_C g mLc45 _ _ _ _ _ _ _ _ _ _
  unfold f_Lc45
  refine tw_aload_n (k := 0) rfl rfl ?_
  refine tw_aload_n (k := 1) rfl rfl ?_
  refine tw_iload (k := 2) rfl rfl ?_
  refine tw_iconst (k := 3) (1 : Int32) rfl (by decide) ?_
  refine tw_iadd (k := 4) rfl ?_
  refine tw_iaload (k := 5) rfl (fun x346 => ?_)
  refine tw_aload_n (k := 6) rfl rfl ?_
  refine tw_iload (k := 7) rfl rfl ?_
  refine tw_iconst (k := 8) (2 : Int32) rfl (by decide) ?_
  refine tw_iadd (k := 9) rfl ?_
  refine tw_iaload (k := 10) rfl (fun x347 => ?_)
  refine tw_aload_n (k := 11) rfl rfl ?_
  refine tw_iload (k := 12) rfl rfl ?_
  refine tw_iconst (k := 13) (3 : Int32) rfl (by decide) ?_
  refine tw_iadd (k := 14) rfl ?_
  refine tw_iaload (k := 15) rfl (fun x348 => ?_)
  refine tw_aload_n (k := 16) rfl rfl ?_
  refine tw_callSW (k := 17) (d' := 9) (mc' := 4) (ms' := 24) tw_cI tw_cIi [.ref b1, .int x346, .int x347, .int x348, .ref b5] rfl rfl wx_RL_300_L_ahead mo_L_ahead rfl (fun Q9 => K_L_ahead Q9 b1 x346 x347 x348 b5) (by omega) (by omega) (by omega) (Nat.le_of_ble_eq_true rfl) (fun x349 => ?_)
  refine tw_ist (k := 18) [some (.ref a0), some (.ref b1), some (.ref b3), some (.ref b5), some (.int s7), some (.int x349), none] rfl (Nat.le_of_ble_eq_true rfl) rfl rfl ?_
  refine tw_aload_n (k := 19) rfl rfl ?_
  refine tw_aload_n (k := 20) rfl rfl ?_
  refine tw_iload (k := 21) rfl rfl ?_
  refine tw_iconst (k := 22) (1 : Int32) rfl (by decide) ?_
  refine tw_iadd (k := 23) rfl ?_
  refine tw_iaload (k := 24) rfl (fun x350 => ?_)
  refine tw_aload_n (k := 25) rfl rfl ?_
  refine tw_iload (k := 26) rfl rfl ?_
  refine tw_iconst (k := 27) (2 : Int32) rfl (by decide) ?_
  refine tw_iadd (k := 28) rfl ?_
  refine tw_iaload (k := 29) rfl (fun x351 => ?_)
  refine tw_aload_n (k := 30) rfl rfl ?_
  refine tw_iload (k := 31) rfl rfl ?_
  refine tw_iconst (k := 32) (3 : Int32) rfl (by decide) ?_
  refine tw_iadd (k := 33) rfl ?_
  refine tw_iaload (k := 34) rfl (fun x352 => ?_)
  refine tw_callV (k := 35) (d' := 13) (mc' := 0) (ms' := 0) tw_cI tw_cIi [.int x350, .int x351, .int x352] rfl rfl wv_RL_302_X12_ahead mo_X12_ahead (t := 11) rfl rfl rfl (fun Q9 => K_X12_ahead Q9 b3 x350 x351 x352) (by omega) (by omega) (by omega) (Nat.le_of_ble_eq_true rfl) (fun x353 => ?_)
  refine tw_ist (k := 36) [some (.ref a0), some (.ref b1), some (.ref b3), some (.ref b5), some (.int s7), some (.int x349), some (.int x353)] rfl (Nat.le_of_ble_eq_true rfl) rfl rfl ?_
  refine tw_aload_n (k := 37) rfl rfl ?_
  refine tw_callV (k := 38) (d' := 1) (mc' := 0) (ms' := 0) tw_cI tw_cIi [] rfl rfl wv_RL_152_X12_thrown mo_X12_thrown (t := 11) rfl rfl rfl (fun Q9 => K_X12_thrown Q9 b3) (by omega) (by omega) (by omega) (Nat.le_of_ble_eq_true rfl) (fun x354 => ?_)
  refine tw_iload (k := 39) rfl rfl ?_
  refine tw_icmp_eq (k := 40) 2566 rfl (by decide) ?_ ?_
  · refine tw_iload (k := 43) rfl rfl ?_
    refine tw_join 2583 (fun s356 => [some (.ref a0), some (.ref b1), some (.ref b3), some (.ref b5), some (.int s7), some (.int x349), some (.int x353)]) (fun s356 => []) (182 + s7.toNatClampNeg + 4) (20089 + 300 * s7.toNatClampNeg + 24) (fun s356 => ?_) (fun j355 g355 => ?_)
    · refine tw_goto (k := 54) 2993 rfl (by decide) ?_
      refine tw_wide (k2 := (182 + s7.toNatClampNeg + 6)) (s2 := (20089 + 300 * s7.toNatClampNeg + 1626)) (by omega) (by omega) ?_
      exact tw_wk (L' := [some (.ref a0), some (.ref b1), some (.ref b3), some (.ref b5), some (.int s7), none, none]) ⟨Or.inr rfl, Or.inr rfl, Or.inr rfl, Or.inr rfl, Or.inr rfl, Or.inl rfl, Or.inl rfl, trivial⟩ (g10 ())
    · refine tw_if_ne (k := 44) 2583 rfl (by decide) ?_ ?_
      · exact g355 ()
      · refine tw_aload_n (k := 45) rfl rfl ?_
        refine tw_iconst (k := 46) (0 : Int32) rfl (by decide) ?_
        refine tw_laload (k := 47) rfl (fun x357 => ?_)
        refine tw_iload (k := 48) rfl rfl ?_
        refine tw_i2l (k := 49) rfl ?_
        refine tw_lcmp (k := 50) rfl ?_
        refine tw_if_eq (k := 51) 2583 rfl (by decide) ?_ ?_
        · exact g355 ()
        · refine tw_iconst (k := 52) (0 : Int32) rfl (by decide) ?_
          exact tw_zreturn (k := 53) rfl rfl (by omega) (by omega)
  · refine tw_iconst (k := 41) (0 : Int32) rfl (by decide) ?_
    exact tw_zreturn (k := 42) rfl rfl (by omega) (by omega)
def f_Lc46 (a0 b1 b3 b5 : Nat) (s7 : Int32) (j10 : Unit → tw_Mem → Prop) (k : Int32 → tw_Mem → Prop) : tw_Mem → Prop :=
  tw_li a0 (s7 + (1 : Int32)) fun x358 => tw_li a0 (s7 + (2 : Int32)) fun x359 => tw_jn (fun (s361 : Int32) => f_L_trial b1 x358 s361 b5 (fun x362 => tw_li a0 (s7 + (1 : Int32)) fun x363 => tw_li a0 (s7 + (2 : Int32)) fun x364 => tw_jn (fun (s366 : Int32) => tw_iv 11 b3 (f_X12_trial b3 x363 s366 (fun x367 => tw_iv 11 b3 (f_X12_thrown b3 (fun x368 => tw_if (x368 = x362) (tw_jn (fun (s370 : Unit) => j10 ()) (fun j369 => tw_if (x362 = 0) (tw_ll b5 (0 : Int32) fun x371 => tw_if ((lg_cmp x371 (x367.toInt64)) = 0) (j369 ()) (tw_rz (0 : Int32) (k (0 : Int32)))) (j369 ()))) (tw_rz (0 : Int32) (k (0 : Int32)))))))) (fun j365 => tw_if (x364 = 0) (j365 (0 : Int32)) (j365 (1 : Int32))))) (fun j360 => tw_if (x359 = 0) (j360 (0 : Int32)) (j360 (1 : Int32)))
set_option maxHeartbeats 4000000 in
set_option maxRecDepth 100000 in
theorem C_Lc46 {g : tw_Gx} {Q : tw_Rs → tw_Mem → Prop} (a0 b1 b3 b5 : Nat) (s7 : Int32) (hP7 : s7.toNatClampNeg ≤ 3072) (j10 : Unit → tw_Mem → Prop) (g10 : ∀ z : Unit, tw_C g mL_law_ 1300 601024 7293034 Q 2993 [some (.ref a0), some (.ref b1), some (.ref b3), some (.ref b5), some (.int s7), none, none] [] (182 + s7.toNatClampNeg + 6) (20089 + 300 * s7.toNatClampNeg + 1626) (j10 z)) : tw_C g mL_law_ 1300 601024 7293034 Q 2586 [some (.ref a0), some (.ref b1), some (.ref b3), some (.ref b5), some (.int s7), none, none] [] (182 + s7.toNatClampNeg + 0) (20089 + 300 * s7.toNatClampNeg + 0) (f_Lc46 a0 b1 b3 b5 s7 j10 (fun v => Q (.inl (some (.int v))))) := by
  have g10 := fun z => tw_Ctab (r' := (tw_tb mLc46)) dk_L_law_ (g10 z)
  change ∀ z : Unit, tw_C g mLc46 _ _ _ _ _ _ _ _ _ _ at g10
  refine tw_Ctab (r := (tw_tb mLc46)) dk_Lc46 ?_
  show tw_C g mLc46 _ _ _ _ _ _ _ _ _ _
  unfold f_Lc46
  refine tw_aload_n (k := 0) rfl rfl ?_
  refine tw_aload_n (k := 1) rfl rfl ?_
  refine tw_iload (k := 2) rfl rfl ?_
  refine tw_iconst (k := 3) (1 : Int32) rfl (by decide) ?_
  refine tw_iadd (k := 4) rfl ?_
  refine tw_iaload (k := 5) rfl (fun x358 => ?_)
  refine tw_aload_n (k := 6) rfl rfl ?_
  refine tw_iload (k := 7) rfl rfl ?_
  refine tw_iconst (k := 8) (2 : Int32) rfl (by decide) ?_
  refine tw_iadd (k := 9) rfl ?_
  refine tw_iaload (k := 10) rfl (fun x359 => ?_)
  refine tw_join 2607 (fun s361 => [some (.ref a0), some (.ref b1), some (.ref b3), some (.ref b5), some (.int s7), none, none]) (fun s361 => .int s361 :: .int x358 :: .ref b1 :: []) (182 + s7.toNatClampNeg + 0) (20089 + 300 * s7.toNatClampNeg + 0) (fun s361 => ?_) (fun j360 g360 => ?_)
  · refine tw_aload_n (k := 15) rfl rfl ?_
    refine tw_callSW (k := 16) (d' := 9) (mc' := 1) (ms' := 6) tw_cI tw_cIi [.ref b1, .int x358, .int s361, .ref b5] rfl rfl wx_RL_303_L_trial mo_L_trial rfl (fun Q9 => K_L_trial Q9 b1 x358 s361 b5) (by omega) (by omega) (by omega) (Nat.le_of_ble_eq_true rfl) (fun x362 => ?_)
    refine tw_ist (k := 17) [some (.ref a0), some (.ref b1), some (.ref b3), some (.ref b5), some (.int s7), some (.int x362), none] rfl (Nat.le_of_ble_eq_true rfl) rfl rfl ?_
    refine tw_aload_n (k := 18) rfl rfl ?_
    refine tw_aload_n (k := 19) rfl rfl ?_
    refine tw_iload (k := 20) rfl rfl ?_
    refine tw_iconst (k := 21) (1 : Int32) rfl (by decide) ?_
    refine tw_iadd (k := 22) rfl ?_
    refine tw_iaload (k := 23) rfl (fun x363 => ?_)
    refine tw_aload_n (k := 24) rfl rfl ?_
    refine tw_iload (k := 25) rfl rfl ?_
    refine tw_iconst (k := 26) (2 : Int32) rfl (by decide) ?_
    refine tw_iadd (k := 27) rfl ?_
    refine tw_iaload (k := 28) rfl (fun x364 => ?_)
    refine tw_join 2634 (fun s366 => [some (.ref a0), some (.ref b1), some (.ref b3), some (.ref b5), some (.int s7), some (.int x362), none]) (fun s366 => .int s366 :: .int x363 :: .ref b3 :: []) (182 + s7.toNatClampNeg + 1) (20089 + 300 * s7.toNatClampNeg + 6) (fun s366 => ?_) (fun j365 g365 => ?_)
    · refine tw_callV (k := 33) (d' := 13) (mc' := 0) (ms' := 0) tw_cI tw_cIi [.int x363, .int s366] rfl rfl wv_RL_305_X12_trial mo_X12_trial (t := 11) rfl rfl rfl (fun Q9 => K_X12_trial Q9 b3 x363 s366) (by omega) (by omega) (by omega) (Nat.le_of_ble_eq_true rfl) (fun x367 => ?_)
      refine tw_ist (k := 34) [some (.ref a0), some (.ref b1), some (.ref b3), some (.ref b5), some (.int s7), some (.int x362), some (.int x367)] rfl (Nat.le_of_ble_eq_true rfl) rfl rfl ?_
      refine tw_aload_n (k := 35) rfl rfl ?_
      refine tw_callV (k := 36) (d' := 1) (mc' := 0) (ms' := 0) tw_cI tw_cIi [] rfl rfl wv_RL_152_X12_thrown mo_X12_thrown (t := 11) rfl rfl rfl (fun Q9 => K_X12_thrown Q9 b3) (by omega) (by omega) (by omega) (Nat.le_of_ble_eq_true rfl) (fun x368 => ?_)
      refine tw_iload (k := 37) rfl rfl ?_
      refine tw_icmp_eq (k := 38) 2650 rfl (by decide) ?_ ?_
      · refine tw_iload (k := 41) rfl rfl ?_
        refine tw_join 2667 (fun s370 => [some (.ref a0), some (.ref b1), some (.ref b3), some (.ref b5), some (.int s7), some (.int x362), some (.int x367)]) (fun s370 => []) (182 + s7.toNatClampNeg + 1) (20089 + 300 * s7.toNatClampNeg + 6) (fun s370 => ?_) (fun j369 g369 => ?_)
        · refine tw_goto (k := 52) 2993 rfl (by decide) ?_
          refine tw_wide (k2 := (182 + s7.toNatClampNeg + 6)) (s2 := (20089 + 300 * s7.toNatClampNeg + 1626)) (by omega) (by omega) ?_
          exact tw_wk (L' := [some (.ref a0), some (.ref b1), some (.ref b3), some (.ref b5), some (.int s7), none, none]) ⟨Or.inr rfl, Or.inr rfl, Or.inr rfl, Or.inr rfl, Or.inr rfl, Or.inl rfl, Or.inl rfl, trivial⟩ (g10 ())
        · refine tw_if_ne (k := 42) 2667 rfl (by decide) ?_ ?_
          · exact g369 ()
          · refine tw_aload_n (k := 43) rfl rfl ?_
            refine tw_iconst (k := 44) (0 : Int32) rfl (by decide) ?_
            refine tw_laload (k := 45) rfl (fun x371 => ?_)
            refine tw_iload (k := 46) rfl rfl ?_
            refine tw_i2l (k := 47) rfl ?_
            refine tw_lcmp (k := 48) rfl ?_
            refine tw_if_eq (k := 49) 2667 rfl (by decide) ?_ ?_
            · exact g369 ()
            · refine tw_iconst (k := 50) (0 : Int32) rfl (by decide) ?_
              exact tw_zreturn (k := 51) rfl rfl (by omega) (by omega)
      · refine tw_iconst (k := 39) (0 : Int32) rfl (by decide) ?_
        exact tw_zreturn (k := 40) rfl rfl (by omega) (by omega)
    · refine tw_if_eq (k := 29) 2633 rfl (by decide) ?_ ?_
      · refine tw_iconst (k := 32) (0 : Int32) rfl (by decide) ?_
        exact g365 (0 : Int32)
      · refine tw_iconst (k := 30) (1 : Int32) rfl (by decide) ?_
        refine tw_goto (k := 31) 2634 rfl (by decide) ?_
        exact g365 (1 : Int32)
  · refine tw_if_eq (k := 11) 2606 rfl (by decide) ?_ ?_
    · refine tw_iconst (k := 14) (0 : Int32) rfl (by decide) ?_
      exact g360 (0 : Int32)
    · refine tw_iconst (k := 12) (1 : Int32) rfl (by decide) ?_
      refine tw_goto (k := 13) 2607 rfl (by decide) ?_
      exact g360 (1 : Int32)
def f_Lc47 (a0 b1 b3 b5 : Nat) (s7 : Int32) (j10 : Unit → tw_Mem → Prop) (k : Int32 → tw_Mem → Prop) : tw_Mem → Prop :=
  tw_li a0 (s7 + (1 : Int32)) fun x372 => tw_li a0 (s7 + (2 : Int32)) fun x373 => tw_jn (fun (s375 : Int32) => f_L_span b1 x372 s375 b5 (fun x376 => tw_li a0 (s7 + (1 : Int32)) fun x377 => tw_li a0 (s7 + (2 : Int32)) fun x378 => tw_jn (fun (s380 : Int32) => tw_iv 11 b3 (f_X12_span b3 x377 s380 (fun x381 => tw_iv 11 b3 (f_X12_thrown b3 (fun x382 => tw_if (x382 = x376) (tw_jn (fun (s384 : Unit) => j10 ()) (fun j383 => tw_if (x376 = 0) (tw_ll b5 (0 : Int32) fun x385 => tw_if ((lg_cmp x385 (x381.toInt64)) = 0) (j383 ()) (tw_rz (0 : Int32) (k (0 : Int32)))) (j383 ()))) (tw_rz (0 : Int32) (k (0 : Int32)))))))) (fun j379 => tw_if (x378 = 0) (j379 (0 : Int32)) (j379 (1 : Int32))))) (fun j374 => tw_if (x373 = 0) (j374 (0 : Int32)) (j374 (1 : Int32)))
set_option maxHeartbeats 4000000 in
set_option maxRecDepth 100000 in
theorem C_Lc47 {g : tw_Gx} {Q : tw_Rs → tw_Mem → Prop} (a0 b1 b3 b5 : Nat) (s7 : Int32) (hP7 : s7.toNatClampNeg ≤ 3072) (j10 : Unit → tw_Mem → Prop) (g10 : ∀ z : Unit, tw_C g mL_law_ 1300 601024 7293034 Q 2993 [some (.ref a0), some (.ref b1), some (.ref b3), some (.ref b5), some (.int s7), none, none] [] (182 + s7.toNatClampNeg + 6) (20089 + 300 * s7.toNatClampNeg + 1626) (j10 z)) : tw_C g mL_law_ 1300 601024 7293034 Q 2670 [some (.ref a0), some (.ref b1), some (.ref b3), some (.ref b5), some (.int s7), none, none] [] (182 + s7.toNatClampNeg + 0) (20089 + 300 * s7.toNatClampNeg + 0) (f_Lc47 a0 b1 b3 b5 s7 j10 (fun v => Q (.inl (some (.int v))))) := by
  have g10 := fun z => tw_Ctab (r' := (tw_tb mLc47)) dk_L_law_ (g10 z)
  change ∀ z : Unit, tw_C g mLc47 _ _ _ _ _ _ _ _ _ _ at g10
  refine tw_Ctab (r := (tw_tb mLc47)) dk_Lc47 ?_
  show tw_C g mLc47 _ _ _ _ _ _ _ _ _ _
  unfold f_Lc47
  refine tw_aload_n (k := 0) rfl rfl ?_
  refine tw_aload_n (k := 1) rfl rfl ?_
  refine tw_iload (k := 2) rfl rfl ?_
  refine tw_iconst (k := 3) (1 : Int32) rfl (by decide) ?_
  refine tw_iadd (k := 4) rfl ?_
  refine tw_iaload (k := 5) rfl (fun x372 => ?_)
  refine tw_aload_n (k := 6) rfl rfl ?_
  refine tw_iload (k := 7) rfl rfl ?_
  refine tw_iconst (k := 8) (2 : Int32) rfl (by decide) ?_
  refine tw_iadd (k := 9) rfl ?_
  refine tw_iaload (k := 10) rfl (fun x373 => ?_)
  refine tw_join 2691 (fun s375 => [some (.ref a0), some (.ref b1), some (.ref b3), some (.ref b5), some (.int s7), none, none]) (fun s375 => .int s375 :: .int x372 :: .ref b1 :: []) (182 + s7.toNatClampNeg + 0) (20089 + 300 * s7.toNatClampNeg + 0) (fun s375 => ?_) (fun j374 g374 => ?_)
  · refine tw_aload_n (k := 15) rfl rfl ?_
    refine tw_callSW (k := 16) (d' := 9) (mc' := 1) (ms' := 6) tw_cI tw_cIi [.ref b1, .int x372, .int s375, .ref b5] rfl rfl wx_RL_306_L_span mo_L_span rfl (fun Q9 => K_L_span Q9 b1 x372 s375 b5) (by omega) (by omega) (by omega) (Nat.le_of_ble_eq_true rfl) (fun x376 => ?_)
    refine tw_ist (k := 17) [some (.ref a0), some (.ref b1), some (.ref b3), some (.ref b5), some (.int s7), some (.int x376), none] rfl (Nat.le_of_ble_eq_true rfl) rfl rfl ?_
    refine tw_aload_n (k := 18) rfl rfl ?_
    refine tw_aload_n (k := 19) rfl rfl ?_
    refine tw_iload (k := 20) rfl rfl ?_
    refine tw_iconst (k := 21) (1 : Int32) rfl (by decide) ?_
    refine tw_iadd (k := 22) rfl ?_
    refine tw_iaload (k := 23) rfl (fun x377 => ?_)
    refine tw_aload_n (k := 24) rfl rfl ?_
    refine tw_iload (k := 25) rfl rfl ?_
    refine tw_iconst (k := 26) (2 : Int32) rfl (by decide) ?_
    refine tw_iadd (k := 27) rfl ?_
    refine tw_iaload (k := 28) rfl (fun x378 => ?_)
    refine tw_join 2718 (fun s380 => [some (.ref a0), some (.ref b1), some (.ref b3), some (.ref b5), some (.int s7), some (.int x376), none]) (fun s380 => .int s380 :: .int x377 :: .ref b3 :: []) (182 + s7.toNatClampNeg + 1) (20089 + 300 * s7.toNatClampNeg + 6) (fun s380 => ?_) (fun j379 g379 => ?_)
    · refine tw_callV (k := 33) (d' := 13) (mc' := 0) (ms' := 0) tw_cI tw_cIi [.int x377, .int s380] rfl rfl wv_RL_308_X12_span mo_X12_span (t := 11) rfl rfl rfl (fun Q9 => K_X12_span Q9 b3 x377 s380) (by omega) (by omega) (by omega) (Nat.le_of_ble_eq_true rfl) (fun x381 => ?_)
      refine tw_ist (k := 34) [some (.ref a0), some (.ref b1), some (.ref b3), some (.ref b5), some (.int s7), some (.int x376), some (.int x381)] rfl (Nat.le_of_ble_eq_true rfl) rfl rfl ?_
      refine tw_aload_n (k := 35) rfl rfl ?_
      refine tw_callV (k := 36) (d' := 1) (mc' := 0) (ms' := 0) tw_cI tw_cIi [] rfl rfl wv_RL_152_X12_thrown mo_X12_thrown (t := 11) rfl rfl rfl (fun Q9 => K_X12_thrown Q9 b3) (by omega) (by omega) (by omega) (Nat.le_of_ble_eq_true rfl) (fun x382 => ?_)
      refine tw_iload (k := 37) rfl rfl ?_
      refine tw_icmp_eq (k := 38) 2734 rfl (by decide) ?_ ?_
      · refine tw_iload (k := 41) rfl rfl ?_
        refine tw_join 2751 (fun s384 => [some (.ref a0), some (.ref b1), some (.ref b3), some (.ref b5), some (.int s7), some (.int x376), some (.int x381)]) (fun s384 => []) (182 + s7.toNatClampNeg + 1) (20089 + 300 * s7.toNatClampNeg + 6) (fun s384 => ?_) (fun j383 g383 => ?_)
        · refine tw_goto (k := 52) 2993 rfl (by decide) ?_
          refine tw_wide (k2 := (182 + s7.toNatClampNeg + 6)) (s2 := (20089 + 300 * s7.toNatClampNeg + 1626)) (by omega) (by omega) ?_
          exact tw_wk (L' := [some (.ref a0), some (.ref b1), some (.ref b3), some (.ref b5), some (.int s7), none, none]) ⟨Or.inr rfl, Or.inr rfl, Or.inr rfl, Or.inr rfl, Or.inr rfl, Or.inl rfl, Or.inl rfl, trivial⟩ (g10 ())
        · refine tw_if_ne (k := 42) 2751 rfl (by decide) ?_ ?_
          · exact g383 ()
          · refine tw_aload_n (k := 43) rfl rfl ?_
            refine tw_iconst (k := 44) (0 : Int32) rfl (by decide) ?_
            refine tw_laload (k := 45) rfl (fun x385 => ?_)
            refine tw_iload (k := 46) rfl rfl ?_
            refine tw_i2l (k := 47) rfl ?_
            refine tw_lcmp (k := 48) rfl ?_
            refine tw_if_eq (k := 49) 2751 rfl (by decide) ?_ ?_
            · exact g383 ()
            · refine tw_iconst (k := 50) (0 : Int32) rfl (by decide) ?_
              exact tw_zreturn (k := 51) rfl rfl (by omega) (by omega)
      · refine tw_iconst (k := 39) (0 : Int32) rfl (by decide) ?_
        exact tw_zreturn (k := 40) rfl rfl (by omega) (by omega)
    · refine tw_if_eq (k := 29) 2717 rfl (by decide) ?_ ?_
      · refine tw_iconst (k := 32) (0 : Int32) rfl (by decide) ?_
        exact g379 (0 : Int32)
      · refine tw_iconst (k := 30) (1 : Int32) rfl (by decide) ?_
        refine tw_goto (k := 31) 2718 rfl (by decide) ?_
        exact g379 (1 : Int32)
  · refine tw_if_eq (k := 11) 2690 rfl (by decide) ?_ ?_
    · refine tw_iconst (k := 14) (0 : Int32) rfl (by decide) ?_
      exact g374 (0 : Int32)
    · refine tw_iconst (k := 12) (1 : Int32) rfl (by decide) ?_
      refine tw_goto (k := 13) 2691 rfl (by decide) ?_
      exact g374 (1 : Int32)
def f_Lc48 (a0 b1 b3 b5 : Nat) (s7 : Int32) (j10 : Unit → tw_Mem → Prop) (k : Int32 → tw_Mem → Prop) : tw_Mem → Prop :=
  tw_li a0 (s7 + (1 : Int32)) fun x386 => tw_li a0 (s7 + (2 : Int32)) fun x387 => tw_jn (fun (s389 : Int32) => f_L_led b1 x386 s389 b5 (fun x390 => tw_li a0 (s7 + (1 : Int32)) fun x391 => tw_li a0 (s7 + (2 : Int32)) fun x392 => tw_jn (fun (s394 : Int32) => tw_iv 11 b3 (f_X12_led b3 x391 s394 (fun x395 => tw_iv 11 b3 (f_X12_thrown b3 (fun x396 => tw_if (x396 = x390) (tw_jn (fun (s398 : Unit) => j10 ()) (fun j397 => tw_if (x390 = 0) (tw_ll b5 (0 : Int32) fun x399 => tw_if ((lg_cmp x399 (x395.toInt64)) = 0) (j397 ()) (tw_rz (0 : Int32) (k (0 : Int32)))) (j397 ()))) (tw_rz (0 : Int32) (k (0 : Int32)))))))) (fun j393 => tw_if (x392 = 0) (j393 (0 : Int32)) (j393 (1 : Int32))))) (fun j388 => tw_if (x387 = 0) (j388 (0 : Int32)) (j388 (1 : Int32)))
set_option maxHeartbeats 4000000 in
set_option maxRecDepth 100000 in
theorem C_Lc48 {g : tw_Gx} {Q : tw_Rs → tw_Mem → Prop} (a0 b1 b3 b5 : Nat) (s7 : Int32) (hP7 : s7.toNatClampNeg ≤ 3072) (j10 : Unit → tw_Mem → Prop) (g10 : ∀ z : Unit, tw_C g mL_law_ 1300 601024 7293034 Q 2993 [some (.ref a0), some (.ref b1), some (.ref b3), some (.ref b5), some (.int s7), none, none] [] (182 + s7.toNatClampNeg + 6) (20089 + 300 * s7.toNatClampNeg + 1626) (j10 z)) : tw_C g mL_law_ 1300 601024 7293034 Q 2754 [some (.ref a0), some (.ref b1), some (.ref b3), some (.ref b5), some (.int s7), none, none] [] (182 + s7.toNatClampNeg + 0) (20089 + 300 * s7.toNatClampNeg + 0) (f_Lc48 a0 b1 b3 b5 s7 j10 (fun v => Q (.inl (some (.int v))))) := by
  have g10 := fun z => tw_Ctab (r' := (tw_tb mLc48)) dk_L_law_ (g10 z)
  change ∀ z : Unit, tw_C g mLc48 _ _ _ _ _ _ _ _ _ _ at g10
  refine tw_Ctab (r := (tw_tb mLc48)) dk_Lc48 ?_
  show tw_C g mLc48 _ _ _ _ _ _ _ _ _ _
  unfold f_Lc48
  refine tw_aload_n (k := 0) rfl rfl ?_
  refine tw_aload_n (k := 1) rfl rfl ?_
  refine tw_iload (k := 2) rfl rfl ?_
  refine tw_iconst (k := 3) (1 : Int32) rfl (by decide) ?_
  refine tw_iadd (k := 4) rfl ?_
  refine tw_iaload (k := 5) rfl (fun x386 => ?_)
  refine tw_aload_n (k := 6) rfl rfl ?_
  refine tw_iload (k := 7) rfl rfl ?_
  refine tw_iconst (k := 8) (2 : Int32) rfl (by decide) ?_
  refine tw_iadd (k := 9) rfl ?_
  refine tw_iaload (k := 10) rfl (fun x387 => ?_)
  refine tw_join 2775 (fun s389 => [some (.ref a0), some (.ref b1), some (.ref b3), some (.ref b5), some (.int s7), none, none]) (fun s389 => .int s389 :: .int x386 :: .ref b1 :: []) (182 + s7.toNatClampNeg + 0) (20089 + 300 * s7.toNatClampNeg + 0) (fun s389 => ?_) (fun j388 g388 => ?_)
  · refine tw_aload_n (k := 15) rfl rfl ?_
    refine tw_callSW (k := 16) (d' := 8) (mc' := 1) (ms' := 6) tw_cI tw_cIi [.ref b1, .int x386, .int s389, .ref b5] rfl rfl wx_RL_309_L_led mo_L_led rfl (fun Q9 => K_L_led Q9 b1 x386 s389 b5) (by omega) (by omega) (by omega) (Nat.le_of_ble_eq_true rfl) (fun x390 => ?_)
    refine tw_ist (k := 17) [some (.ref a0), some (.ref b1), some (.ref b3), some (.ref b5), some (.int s7), some (.int x390), none] rfl (Nat.le_of_ble_eq_true rfl) rfl rfl ?_
    refine tw_aload_n (k := 18) rfl rfl ?_
    refine tw_aload_n (k := 19) rfl rfl ?_
    refine tw_iload (k := 20) rfl rfl ?_
    refine tw_iconst (k := 21) (1 : Int32) rfl (by decide) ?_
    refine tw_iadd (k := 22) rfl ?_
    refine tw_iaload (k := 23) rfl (fun x391 => ?_)
    refine tw_aload_n (k := 24) rfl rfl ?_
    refine tw_iload (k := 25) rfl rfl ?_
    refine tw_iconst (k := 26) (2 : Int32) rfl (by decide) ?_
    refine tw_iadd (k := 27) rfl ?_
    refine tw_iaload (k := 28) rfl (fun x392 => ?_)
    refine tw_join 2802 (fun s394 => [some (.ref a0), some (.ref b1), some (.ref b3), some (.ref b5), some (.int s7), some (.int x390), none]) (fun s394 => .int s394 :: .int x391 :: .ref b3 :: []) (182 + s7.toNatClampNeg + 1) (20089 + 300 * s7.toNatClampNeg + 6) (fun s394 => ?_) (fun j393 g393 => ?_)
    · refine tw_callV (k := 33) (d' := 3) (mc' := 0) (ms' := 0) tw_cI tw_cIi [.int x391, .int s394] rfl rfl wv_RL_311_X12_led mo_X12_led (t := 11) rfl rfl rfl (fun Q9 => K_X12_led Q9 b3 x391 s394) (by omega) (by omega) (by omega) (Nat.le_of_ble_eq_true rfl) (fun x395 => ?_)
      refine tw_ist (k := 34) [some (.ref a0), some (.ref b1), some (.ref b3), some (.ref b5), some (.int s7), some (.int x390), some (.int x395)] rfl (Nat.le_of_ble_eq_true rfl) rfl rfl ?_
      refine tw_aload_n (k := 35) rfl rfl ?_
      refine tw_callV (k := 36) (d' := 1) (mc' := 0) (ms' := 0) tw_cI tw_cIi [] rfl rfl wv_RL_152_X12_thrown mo_X12_thrown (t := 11) rfl rfl rfl (fun Q9 => K_X12_thrown Q9 b3) (by omega) (by omega) (by omega) (Nat.le_of_ble_eq_true rfl) (fun x396 => ?_)
      refine tw_iload (k := 37) rfl rfl ?_
      refine tw_icmp_eq (k := 38) 2818 rfl (by decide) ?_ ?_
      · refine tw_iload (k := 41) rfl rfl ?_
        refine tw_join 2835 (fun s398 => [some (.ref a0), some (.ref b1), some (.ref b3), some (.ref b5), some (.int s7), some (.int x390), some (.int x395)]) (fun s398 => []) (182 + s7.toNatClampNeg + 1) (20089 + 300 * s7.toNatClampNeg + 6) (fun s398 => ?_) (fun j397 g397 => ?_)
        · refine tw_goto (k := 52) 2993 rfl (by decide) ?_
          refine tw_wide (k2 := (182 + s7.toNatClampNeg + 6)) (s2 := (20089 + 300 * s7.toNatClampNeg + 1626)) (by omega) (by omega) ?_
          exact tw_wk (L' := [some (.ref a0), some (.ref b1), some (.ref b3), some (.ref b5), some (.int s7), none, none]) ⟨Or.inr rfl, Or.inr rfl, Or.inr rfl, Or.inr rfl, Or.inr rfl, Or.inl rfl, Or.inl rfl, trivial⟩ (g10 ())
        · refine tw_if_ne (k := 42) 2835 rfl (by decide) ?_ ?_
          · exact g397 ()
          · refine tw_aload_n (k := 43) rfl rfl ?_
            refine tw_iconst (k := 44) (0 : Int32) rfl (by decide) ?_
            refine tw_laload (k := 45) rfl (fun x399 => ?_)
            refine tw_iload (k := 46) rfl rfl ?_
            refine tw_i2l (k := 47) rfl ?_
            refine tw_lcmp (k := 48) rfl ?_
            refine tw_if_eq (k := 49) 2835 rfl (by decide) ?_ ?_
            · exact g397 ()
            · refine tw_iconst (k := 50) (0 : Int32) rfl (by decide) ?_
              exact tw_zreturn (k := 51) rfl rfl (by omega) (by omega)
      · refine tw_iconst (k := 39) (0 : Int32) rfl (by decide) ?_
        exact tw_zreturn (k := 40) rfl rfl (by omega) (by omega)
    · refine tw_if_eq (k := 29) 2801 rfl (by decide) ?_ ?_
      · refine tw_iconst (k := 32) (0 : Int32) rfl (by decide) ?_
        exact g393 (0 : Int32)
      · refine tw_iconst (k := 30) (1 : Int32) rfl (by decide) ?_
        refine tw_goto (k := 31) 2802 rfl (by decide) ?_
        exact g393 (1 : Int32)
  · refine tw_if_eq (k := 11) 2774 rfl (by decide) ?_ ?_
    · refine tw_iconst (k := 14) (0 : Int32) rfl (by decide) ?_
      exact g388 (0 : Int32)
    · refine tw_iconst (k := 12) (1 : Int32) rfl (by decide) ?_
      refine tw_goto (k := 13) 2775 rfl (by decide) ?_
      exact g388 (1 : Int32)
def f_Lc49 (a0 b1 b3 b5 : Nat) (s7 : Int32) (j10 : Unit → tw_Mem → Prop) (k : Int32 → tw_Mem → Prop) : tw_Mem → Prop :=
  tw_li a0 (s7 + (1 : Int32)) fun x400 => tw_li a0 (s7 + (2 : Int32)) fun x401 => f_L_log b1 x400 x401 b5 (fun x402 => tw_li a0 (s7 + (1 : Int32)) fun x403 => tw_li a0 (s7 + (2 : Int32)) fun x404 => tw_iv 11 b3 (f_X12_log b3 x403 x404 (fun x405 => tw_iv 11 b3 (f_X12_thrown b3 (fun x406 => tw_if (x406 = x402) (tw_jn (fun (s408 : Unit) => j10 ()) (fun j407 => tw_if (x402 = 0) (tw_ll b5 (0 : Int32) fun x409 => tw_if ((lg_cmp x409 (x405.toInt64)) = 0) (j407 ()) (tw_rz (0 : Int32) (k (0 : Int32)))) (j407 ()))) (tw_rz (0 : Int32) (k (0 : Int32))))))))
set_option maxHeartbeats 4000000 in
set_option maxRecDepth 100000 in
theorem C_Lc49 {g : tw_Gx} {Q : tw_Rs → tw_Mem → Prop} (a0 b1 b3 b5 : Nat) (s7 : Int32) (hP7 : s7.toNatClampNeg ≤ 3072) (j10 : Unit → tw_Mem → Prop) (g10 : ∀ z : Unit, tw_C g mL_law_ 1300 601024 7293034 Q 2993 [some (.ref a0), some (.ref b1), some (.ref b3), some (.ref b5), some (.int s7), none, none] [] (182 + s7.toNatClampNeg + 6) (20089 + 300 * s7.toNatClampNeg + 1626) (j10 z)) : tw_C g mL_law_ 1300 601024 7293034 Q 2838 [some (.ref a0), some (.ref b1), some (.ref b3), some (.ref b5), some (.int s7), none, none] [] (182 + s7.toNatClampNeg + 0) (20089 + 300 * s7.toNatClampNeg + 0) (f_Lc49 a0 b1 b3 b5 s7 j10 (fun v => Q (.inl (some (.int v))))) := by
  have g10 := fun z => tw_Ctab (r' := (tw_tb mLc49)) dk_L_law_ (g10 z)
  change ∀ z : Unit, tw_C g mLc49 _ _ _ _ _ _ _ _ _ _ at g10
  refine tw_Ctab (r := (tw_tb mLc49)) dk_Lc49 ?_
  show tw_C g mLc49 _ _ _ _ _ _ _ _ _ _
  unfold f_Lc49
  refine tw_aload_n (k := 0) rfl rfl ?_
  refine tw_aload_n (k := 1) rfl rfl ?_
  refine tw_iload (k := 2) rfl rfl ?_
  refine tw_iconst (k := 3) (1 : Int32) rfl (by decide) ?_
  refine tw_iadd (k := 4) rfl ?_
  refine tw_iaload (k := 5) rfl (fun x400 => ?_)
  refine tw_aload_n (k := 6) rfl rfl ?_
  refine tw_iload (k := 7) rfl rfl ?_
  refine tw_iconst (k := 8) (2 : Int32) rfl (by decide) ?_
  refine tw_iadd (k := 9) rfl ?_
  refine tw_iaload (k := 10) rfl (fun x401 => ?_)
  refine tw_aload_n (k := 11) rfl rfl ?_
  refine tw_callSW (k := 12) (d' := 7) (mc' := 1) (ms' := 6) tw_cI tw_cIi [.ref b1, .int x400, .int x401, .ref b5] rfl rfl wx_RL_312_L_log mo_L_log rfl (fun Q9 => K_L_log Q9 b1 x400 x401 b5) (by omega) (by omega) (by omega) (Nat.le_of_ble_eq_true rfl) (fun x402 => ?_)
  refine tw_ist (k := 13) [some (.ref a0), some (.ref b1), some (.ref b3), some (.ref b5), some (.int s7), some (.int x402), none] rfl (Nat.le_of_ble_eq_true rfl) rfl rfl ?_
  refine tw_aload_n (k := 14) rfl rfl ?_
  refine tw_aload_n (k := 15) rfl rfl ?_
  refine tw_iload (k := 16) rfl rfl ?_
  refine tw_iconst (k := 17) (1 : Int32) rfl (by decide) ?_
  refine tw_iadd (k := 18) rfl ?_
  refine tw_iaload (k := 19) rfl (fun x403 => ?_)
  refine tw_aload_n (k := 20) rfl rfl ?_
  refine tw_iload (k := 21) rfl rfl ?_
  refine tw_iconst (k := 22) (2 : Int32) rfl (by decide) ?_
  refine tw_iadd (k := 23) rfl ?_
  refine tw_iaload (k := 24) rfl (fun x404 => ?_)
  refine tw_callV (k := 25) (d' := 2) (mc' := 0) (ms' := 0) tw_cI tw_cIi [.int x403, .int x404] rfl rfl wv_RL_314_X12_log mo_X12_log (t := 11) rfl rfl rfl (fun Q9 => K_X12_log Q9 b3 x403 x404) (by omega) (by omega) (by omega) (Nat.le_of_ble_eq_true rfl) (fun x405 => ?_)
  refine tw_ist (k := 26) [some (.ref a0), some (.ref b1), some (.ref b3), some (.ref b5), some (.int s7), some (.int x402), some (.int x405)] rfl (Nat.le_of_ble_eq_true rfl) rfl rfl ?_
  refine tw_aload_n (k := 27) rfl rfl ?_
  refine tw_callV (k := 28) (d' := 1) (mc' := 0) (ms' := 0) tw_cI tw_cIi [] rfl rfl wv_RL_152_X12_thrown mo_X12_thrown (t := 11) rfl rfl rfl (fun Q9 => K_X12_thrown Q9 b3) (by omega) (by omega) (by omega) (Nat.le_of_ble_eq_true rfl) (fun x406 => ?_)
  refine tw_iload (k := 29) rfl rfl ?_
  refine tw_icmp_eq (k := 30) 2886 rfl (by decide) ?_ ?_
  · refine tw_iload (k := 33) rfl rfl ?_
    refine tw_join 2903 (fun s408 => [some (.ref a0), some (.ref b1), some (.ref b3), some (.ref b5), some (.int s7), some (.int x402), some (.int x405)]) (fun s408 => []) (182 + s7.toNatClampNeg + 1) (20089 + 300 * s7.toNatClampNeg + 6) (fun s408 => ?_) (fun j407 g407 => ?_)
    · refine tw_goto (k := 44) 2993 rfl (by decide) ?_
      refine tw_wide (k2 := (182 + s7.toNatClampNeg + 6)) (s2 := (20089 + 300 * s7.toNatClampNeg + 1626)) (by omega) (by omega) ?_
      exact tw_wk (L' := [some (.ref a0), some (.ref b1), some (.ref b3), some (.ref b5), some (.int s7), none, none]) ⟨Or.inr rfl, Or.inr rfl, Or.inr rfl, Or.inr rfl, Or.inr rfl, Or.inl rfl, Or.inl rfl, trivial⟩ (g10 ())
    · refine tw_if_ne (k := 34) 2903 rfl (by decide) ?_ ?_
      · exact g407 ()
      · refine tw_aload_n (k := 35) rfl rfl ?_
        refine tw_iconst (k := 36) (0 : Int32) rfl (by decide) ?_
        refine tw_laload (k := 37) rfl (fun x409 => ?_)
        refine tw_iload (k := 38) rfl rfl ?_
        refine tw_i2l (k := 39) rfl ?_
        refine tw_lcmp (k := 40) rfl ?_
        refine tw_if_eq (k := 41) 2903 rfl (by decide) ?_ ?_
        · exact g407 ()
        · refine tw_iconst (k := 42) (0 : Int32) rfl (by decide) ?_
          exact tw_zreturn (k := 43) rfl rfl (by omega) (by omega)
  · refine tw_iconst (k := 31) (0 : Int32) rfl (by decide) ?_
    exact tw_zreturn (k := 32) rfl rfl (by omega) (by omega)
def f_Lc50 (a0 b1 b3 b5 : Nat) (s7 : Int32) (j10 : Unit → tw_Mem → Prop) (k : Int32 → tw_Mem → Prop) : tw_Mem → Prop :=
  tw_li a0 (s7 + (1 : Int32)) fun x410 => tw_iv 10 b1 (f_X11_seed b1 x410 (fun x411 => tw_li a0 (s7 + (1 : Int32)) fun x412 => tw_iv 11 b3 (f_X12_seed b3 x412 (fun x413 => tw_if (x411 = x413) (j10 ()) (tw_rz (0 : Int32) (k (0 : Int32)))))))
set_option maxHeartbeats 4000000 in
set_option maxRecDepth 100000 in
theorem C_Lc50 {g : tw_Gx} {Q : tw_Rs → tw_Mem → Prop} (a0 b1 b3 b5 : Nat) (s7 : Int32) (hP7 : s7.toNatClampNeg ≤ 3072) (j10 : Unit → tw_Mem → Prop) (g10 : ∀ z : Unit, tw_C g mL_law_ 1300 601024 7293034 Q 2993 [some (.ref a0), some (.ref b1), some (.ref b3), some (.ref b5), some (.int s7), none, none] [] (182 + s7.toNatClampNeg + 6) (20089 + 300 * s7.toNatClampNeg + 1626) (j10 z)) : tw_C g mL_law_ 1300 601024 7293034 Q 2906 [some (.ref a0), some (.ref b1), some (.ref b3), some (.ref b5), some (.int s7), none, none] [] (182 + s7.toNatClampNeg + 0) (20089 + 300 * s7.toNatClampNeg + 0) (f_Lc50 a0 b1 b3 b5 s7 j10 (fun v => Q (.inl (some (.int v))))) := by
  have g10 := fun z => tw_Ctab (r' := (tw_tb mLc50)) dk_L_law_ (g10 z)
  change ∀ z : Unit, tw_C g mLc50 _ _ _ _ _ _ _ _ _ _ at g10
  refine tw_Ctab (r := (tw_tb mLc50)) dk_Lc50 ?_
  show tw_C g mLc50 _ _ _ _ _ _ _ _ _ _
  unfold f_Lc50
  refine tw_aload_n (k := 0) rfl rfl ?_
  refine tw_aload_n (k := 1) rfl rfl ?_
  refine tw_iload (k := 2) rfl rfl ?_
  refine tw_iconst (k := 3) (1 : Int32) rfl (by decide) ?_
  refine tw_iadd (k := 4) rfl ?_
  refine tw_iaload (k := 5) rfl (fun x410 => ?_)
  refine tw_callV (k := 6) (d' := 1) (mc' := 0) (ms' := 0) tw_cI tw_cIi [.int x410] rfl rfl wv_RL_315_X11_seed mo_X11_seed (t := 10) rfl rfl rfl (fun Q9 => K_X11_seed Q9 b1 x410) (by omega) (by omega) (by omega) (Nat.le_of_ble_eq_true rfl) (fun x411 => ?_)
  refine tw_aload_n (k := 7) rfl rfl ?_
  refine tw_aload_n (k := 8) rfl rfl ?_
  refine tw_iload (k := 9) rfl rfl ?_
  refine tw_iconst (k := 10) (1 : Int32) rfl (by decide) ?_
  refine tw_iadd (k := 11) rfl ?_
  refine tw_iaload (k := 12) rfl (fun x412 => ?_)
  refine tw_callV (k := 13) (d' := 1) (mc' := 0) (ms' := 0) tw_cI tw_cIi [.int x412] rfl rfl wv_RL_318_X12_seed mo_X12_seed (t := 11) rfl rfl rfl (fun Q9 => K_X12_seed Q9 b3 x412) (by omega) (by omega) (by omega) (Nat.le_of_ble_eq_true rfl) (fun x413 => ?_)
  refine tw_icmp_eq (k := 14) 2993 rfl (by decide) ?_ ?_
  · refine tw_wide (k2 := (182 + s7.toNatClampNeg + 6)) (s2 := (20089 + 300 * s7.toNatClampNeg + 1626)) (by omega) (by omega) ?_
    exact g10 ()
  · refine tw_iconst (k := 15) (0 : Int32) rfl (by decide) ?_
    exact tw_zreturn (k := 16) rfl rfl (by omega) (by omega)
def f_Lc51 (a0 b1 b3 b5 : Nat) (s7 : Int32) (j10 : Unit → tw_Mem → Prop) (k : Int32 → tw_Mem → Prop) : tw_Mem → Prop :=
  tw_iv 10 b1 (f_X11_undo b1 (fun x414 => tw_iv 11 b3 (f_X12_undo b3 (fun x415 => tw_if (x414 = x415) (j10 ()) (tw_rz (0 : Int32) (k (0 : Int32)))))))
set_option maxHeartbeats 4000000 in
set_option maxRecDepth 100000 in
theorem C_Lc51 {g : tw_Gx} {Q : tw_Rs → tw_Mem → Prop} (a0 b1 b3 b5 : Nat) (s7 : Int32) (hP7 : s7.toNatClampNeg ≤ 3072) (j10 : Unit → tw_Mem → Prop) (g10 : ∀ z : Unit, tw_C g mL_law_ 1300 601024 7293034 Q 2993 [some (.ref a0), some (.ref b1), some (.ref b3), some (.ref b5), some (.int s7), none, none] [] (182 + s7.toNatClampNeg + 6) (20089 + 300 * s7.toNatClampNeg + 1626) (j10 z)) : tw_C g mL_law_ 1300 601024 7293034 Q 2931 [some (.ref a0), some (.ref b1), some (.ref b3), some (.ref b5), some (.int s7), none, none] [] (182 + s7.toNatClampNeg + 0) (20089 + 300 * s7.toNatClampNeg + 0) (f_Lc51 a0 b1 b3 b5 s7 j10 (fun v => Q (.inl (some (.int v))))) := by
  have g10 := fun z => tw_Ctab (r' := (tw_tb mLc51)) dk_L_law_ (g10 z)
  change ∀ z : Unit, tw_C g mLc51 _ _ _ _ _ _ _ _ _ _ at g10
  refine tw_Ctab (r := (tw_tb mLc51)) dk_Lc51 ?_
  show tw_C g mLc51 _ _ _ _ _ _ _ _ _ _
  unfold f_Lc51
  refine tw_aload_n (k := 0) rfl rfl ?_
  refine tw_callV (k := 1) (d' := 4) (mc' := 0) (ms' := 0) tw_cI tw_cIi [] rfl rfl wv_RL_319_X11_undo mo_X11_undo (t := 10) rfl rfl rfl (fun Q9 => K_X11_undo Q9 b1) (by omega) (by omega) (by omega) (Nat.le_of_ble_eq_true rfl) (fun x414 => ?_)
  refine tw_aload_n (k := 2) rfl rfl ?_
  refine tw_callV (k := 3) (d' := 1) (mc' := 0) (ms' := 0) tw_cI tw_cIi [] rfl rfl wv_RL_323_X12_undo mo_X12_undo (t := 11) rfl rfl rfl (fun Q9 => K_X12_undo Q9 b3) (by omega) (by omega) (by omega) (Nat.le_of_ble_eq_true rfl) (fun x415 => ?_)
  refine tw_icmp_eq (k := 4) 2993 rfl (by decide) ?_ ?_
  · refine tw_wide (k2 := (182 + s7.toNatClampNeg + 6)) (s2 := (20089 + 300 * s7.toNatClampNeg + 1626)) (by omega) (by omega) ?_
    exact g10 ()
  · refine tw_iconst (k := 5) (0 : Int32) rfl (by decide) ?_
    exact tw_zreturn (k := 6) rfl rfl (by omega) (by omega)
def f_Lc52 (a0 b1 b3 b5 : Nat) (s7 : Int32) (j10 : Unit → tw_Mem → Prop) (k : Int32 → tw_Mem → Prop) : tw_Mem → Prop :=
  tw_iv 10 b1 (f_X11_image b1 (fun u416 => tw_iv 11 b3 (f_X12_image b3 (fun u417 => j10 ()))))
set_option maxHeartbeats 4000000 in
set_option maxRecDepth 100000 in
theorem C_Lc52 {g : tw_Gx} {Q : tw_Rs → tw_Mem → Prop} (a0 b1 b3 b5 : Nat) (s7 : Int32) (hP7 : s7.toNatClampNeg ≤ 3072) (j10 : Unit → tw_Mem → Prop) (g10 : ∀ z : Unit, tw_C g mL_law_ 1300 601024 7293034 Q 2993 [some (.ref a0), some (.ref b1), some (.ref b3), some (.ref b5), some (.int s7), none, none] [] (182 + s7.toNatClampNeg + 6) (20089 + 300 * s7.toNatClampNeg + 1626) (j10 z)) : tw_C g mL_law_ 1300 601024 7293034 Q 2944 [some (.ref a0), some (.ref b1), some (.ref b3), some (.ref b5), some (.int s7), none, none] [] (182 + s7.toNatClampNeg + 0) (20089 + 300 * s7.toNatClampNeg + 0) (f_Lc52 a0 b1 b3 b5 s7 j10 (fun v => Q (.inl (some (.int v))))) := by
  have g10 := fun z => tw_Ctab (r' := (tw_tb mLc52)) dk_L_law_ (g10 z)
  change ∀ z : Unit, tw_C g mLc52 _ _ _ _ _ _ _ _ _ _ at g10
  refine tw_Ctab (r := (tw_tb mLc52)) dk_Lc52 ?_
  show tw_C g mLc52 _ _ _ _ _ _ _ _ _ _
  unfold f_Lc52
  refine tw_aload_n (k := 0) rfl rfl ?_
  refine tw_callV (k := 1) (d' := 3) (mc' := 0) (ms' := 0) tw_cU tw_cUi [] rfl rfl wv_RL_324_X11_image mo_X11_image (t := 10) rfl rfl rfl (fun Q9 => K_X11_image Q9 b1) (by omega) (by omega) (by omega) (Nat.le_of_ble_eq_true rfl) (fun u416 => ?_)
  refine tw_aload_n (k := 2) rfl rfl ?_
  refine tw_callV (k := 3) (d' := 1) (mc' := 0) (ms' := 0) tw_cU tw_cUi [] rfl rfl wv_RL_327_X12_image mo_X12_image (t := 11) rfl rfl rfl (fun Q9 => K_X12_image Q9 b3) (by omega) (by omega) (by omega) (Nat.le_of_ble_eq_true rfl) (fun u417 => ?_)
  refine tw_goto (k := 4) 2993 rfl (by decide) ?_
  refine tw_wide (k2 := (182 + s7.toNatClampNeg + 6)) (s2 := (20089 + 300 * s7.toNatClampNeg + 1626)) (by omega) (by omega) ?_
  exact g10 ()
def f_Lc53 (a0 b1 b3 b5 : Nat) (s7 : Int32) (j10 : Unit → tw_Mem → Prop) (k : Int32 → tw_Mem → Prop) : tw_Mem → Prop :=
  tw_iv 10 b1 (f_X11_back b1 (fun x418 => tw_iv 11 b3 (f_X12_back b3 (fun x419 => tw_if (x418 = x419) (j10 ()) (tw_rz (0 : Int32) (k (0 : Int32)))))))
set_option maxHeartbeats 4000000 in
set_option maxRecDepth 100000 in
theorem C_Lc53 {g : tw_Gx} {Q : tw_Rs → tw_Mem → Prop} (a0 b1 b3 b5 : Nat) (s7 : Int32) (hP7 : s7.toNatClampNeg ≤ 3072) (j10 : Unit → tw_Mem → Prop) (g10 : ∀ z : Unit, tw_C g mL_law_ 1300 601024 7293034 Q 2993 [some (.ref a0), some (.ref b1), some (.ref b3), some (.ref b5), some (.int s7), none, none] [] (182 + s7.toNatClampNeg + 6) (20089 + 300 * s7.toNatClampNeg + 1626) (j10 z)) : tw_C g mL_law_ 1300 601024 7293034 Q 2955 [some (.ref a0), some (.ref b1), some (.ref b3), some (.ref b5), some (.int s7), none, none] [] (182 + s7.toNatClampNeg + 0) (20089 + 300 * s7.toNatClampNeg + 0) (f_Lc53 a0 b1 b3 b5 s7 j10 (fun v => Q (.inl (some (.int v))))) := by
  have g10 := fun z => tw_Ctab (r' := (tw_tb mLc53)) dk_L_law_ (g10 z)
  change ∀ z : Unit, tw_C g mLc53 _ _ _ _ _ _ _ _ _ _ at g10
  refine tw_Ctab (r := (tw_tb mLc53)) dk_Lc53 ?_
  show tw_C g mLc53 _ _ _ _ _ _ _ _ _ _
  unfold f_Lc53
  refine tw_aload_n (k := 0) rfl rfl ?_
  refine tw_callV (k := 1) (d' := 3) (mc' := 0) (ms' := 0) tw_cI tw_cIi [] rfl rfl wv_RL_328_X11_back mo_X11_back (t := 10) rfl rfl rfl (fun Q9 => K_X11_back Q9 b1) (by omega) (by omega) (by omega) (Nat.le_of_ble_eq_true rfl) (fun x418 => ?_)
  refine tw_aload_n (k := 2) rfl rfl ?_
  refine tw_callV (k := 3) (d' := 1) (mc' := 0) (ms' := 0) tw_cI tw_cIi [] rfl rfl wv_RL_331_X12_back mo_X12_back (t := 11) rfl rfl rfl (fun Q9 => K_X12_back Q9 b3) (by omega) (by omega) (by omega) (Nat.le_of_ble_eq_true rfl) (fun x419 => ?_)
  refine tw_icmp_eq (k := 4) 2993 rfl (by decide) ?_ ?_
  · refine tw_wide (k2 := (182 + s7.toNatClampNeg + 6)) (s2 := (20089 + 300 * s7.toNatClampNeg + 1626)) (by omega) (by omega) ?_
    exact g10 ()
  · refine tw_iconst (k := 5) (0 : Int32) rfl (by decide) ?_
    exact tw_zreturn (k := 6) rfl rfl (by omega) (by omega)
def f_Lc54 (a0 b1 b3 b5 : Nat) (s7 : Int32) (j10 : Unit → tw_Mem → Prop) (k : Int32 → tw_Mem → Prop) : tw_Mem → Prop :=
  tw_li a0 (s7 + (1 : Int32)) fun x420 => tw_iv 10 b1 (f_X11_count b1 x420 (fun x421 => tw_li a0 (s7 + (1 : Int32)) fun x422 => tw_iv 11 b3 (f_X12_count b3 x422 (fun x423 => tw_if (x421 = x423) (j10 ()) (tw_rz (0 : Int32) (k (0 : Int32)))))))
set_option maxHeartbeats 4000000 in
set_option maxRecDepth 100000 in
theorem C_Lc54 {g : tw_Gx} {Q : tw_Rs → tw_Mem → Prop} (a0 b1 b3 b5 : Nat) (s7 : Int32) (hP7 : s7.toNatClampNeg ≤ 3072) (j10 : Unit → tw_Mem → Prop) (g10 : ∀ z : Unit, tw_C g mL_law_ 1300 601024 7293034 Q 2993 [some (.ref a0), some (.ref b1), some (.ref b3), some (.ref b5), some (.int s7), none, none] [] (182 + s7.toNatClampNeg + 6) (20089 + 300 * s7.toNatClampNeg + 1626) (j10 z)) : tw_C g mL_law_ 1300 601024 7293034 Q 2968 [some (.ref a0), some (.ref b1), some (.ref b3), some (.ref b5), some (.int s7), none, none] [] (182 + s7.toNatClampNeg + 0) (20089 + 300 * s7.toNatClampNeg + 0) (f_Lc54 a0 b1 b3 b5 s7 j10 (fun v => Q (.inl (some (.int v))))) := by
  have g10 := fun z => tw_Ctab (r' := (tw_tb mLc54)) dk_L_law_ (g10 z)
  change ∀ z : Unit, tw_C g mLc54 _ _ _ _ _ _ _ _ _ _ at g10
  refine tw_Ctab (r := (tw_tb mLc54)) dk_Lc54 ?_
  show tw_C g mLc54 _ _ _ _ _ _ _ _ _ _
  unfold f_Lc54
  refine tw_aload_n (k := 0) rfl rfl ?_
  refine tw_aload_n (k := 1) rfl rfl ?_
  refine tw_iload (k := 2) rfl rfl ?_
  refine tw_iconst (k := 3) (1 : Int32) rfl (by decide) ?_
  refine tw_iadd (k := 4) rfl ?_
  refine tw_iaload (k := 5) rfl (fun x420 => ?_)
  refine tw_callV (k := 6) (d' := 5) (mc' := 0) (ms' := 0) tw_cI tw_cIi [.int x420] rfl rfl wv_RL_332_X11_count mo_X11_count (t := 10) rfl rfl rfl (fun Q9 => K_X11_count Q9 b1 x420) (by omega) (by omega) (by omega) (Nat.le_of_ble_eq_true rfl) (fun x421 => ?_)
  refine tw_aload_n (k := 7) rfl rfl ?_
  refine tw_aload_n (k := 8) rfl rfl ?_
  refine tw_iload (k := 9) rfl rfl ?_
  refine tw_iconst (k := 10) (1 : Int32) rfl (by decide) ?_
  refine tw_iadd (k := 11) rfl ?_
  refine tw_iaload (k := 12) rfl (fun x422 => ?_)
  refine tw_callV (k := 13) (d' := 6) (mc' := 0) (ms' := 0) tw_cI tw_cIi [.int x422] rfl rfl wv_RL_335_X12_count mo_X12_count (t := 11) rfl rfl rfl (fun Q9 => K_X12_count Q9 b3 x422) (by omega) (by omega) (by omega) (Nat.le_of_ble_eq_true rfl) (fun x423 => ?_)
  refine tw_icmp_eq (k := 14) 2993 rfl (by decide) ?_ ?_
  · refine tw_wide (k2 := (182 + s7.toNatClampNeg + 6)) (s2 := (20089 + 300 * s7.toNatClampNeg + 1626)) (by omega) (by omega) ?_
    exact g10 ()
  · refine tw_iconst (k := 15) (0 : Int32) rfl (by decide) ?_
    exact tw_zreturn (k := 16) rfl rfl (by omega) (by omega)
