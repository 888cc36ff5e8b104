set_option maxHeartbeats 4000000 in
set_option maxRecDepth 100000 in
theorem C_L_law_ {g : tw_Gx} (Q : tw_Rs → tw_Mem → Prop) (a0 : Nat) : tw_C g mL_law_ 1300 601024 7293034 Q 0 [some (.ref a0), none, none, none, none, none, none] [] 0 0 (f_L_law_ g a0 (fun v => Q (.inl (some (.int v))))) := by
  unfold f_L_law_
  refine tw_new (k := 0) 10 rfl rfl kcl_RL_8 (by decide) (by decide) (fun b1 => ?_)
  refine tw_dup (k := 1) rfl rfl ?_
  refine tw_callI (k := 2) (d' := 4) (mc' := 167) (ms' := 7626) [] rfl rfl wi_RL_132_X11_init mo_X11_init rfl rfl rfl (fun Q9 => K_X11_init Q9 b1) (by omega) (by decide) (by decide) (Nat.le_of_ble_eq_true rfl) ?_
  refine tw_ast_n (k := 3) [some (.ref a0), some (.ref b1), none, none, none, none, none] rfl (Nat.le_of_ble_eq_true rfl) rfl rfl ?_
  refine tw_new (k := 4) 11 rfl rfl kcl_RL_133 (by decide) (by decide) (fun b3 => ?_)
  refine tw_dup (k := 5) rfl rfl ?_
  refine tw_callI (k := 6) (d' := 1) (mc' := 12) (ms' := 12461) [] rfl rfl wi_RL_135_X12_init mo_X12_init rfl rfl rfl (fun Q9 => K_X12_init Q9 b3) (by omega) (by decide) (by decide) (Nat.le_of_ble_eq_true rfl) ?_
  refine tw_ast_n (k := 7) [some (.ref a0), some (.ref b1), some (.ref b3), none, none, none, none] rfl (Nat.le_of_ble_eq_true rfl) rfl rfl ?_
  refine tw_iconst (k := 8) (1 : Int32) rfl (by decide) ?_
  refine tw_newL (k := 9) 1 rfl ka_long (by decide) (by decide) (by decide) (fun b5 => ?_)
  refine tw_ast_n (k := 10) [some (.ref a0), some (.ref b1), some (.ref b3), some (.ref b5), none, none, none] rfl (Nat.le_of_ble_eq_true rfl) rfl rfl ?_
  refine tw_iconst (k := 11) (0 : Int32) rfl (by decide) ?_
  refine tw_ist (k := 12) [some (.ref a0), some (.ref b1), some (.ref b3), some (.ref b5), some (.int (0 : Int32)), none, none] rfl (Nat.le_of_ble_eq_true rfl) rfl rfl ?_
  refine tw_loopB (fun s7 => [some (.ref a0), some (.ref b1), some (.ref b3), some (.ref b5), some (.int s7), none, none]) (fun s7 => []) (fun s7 => 182 + s7.toNatClampNeg + 0) (fun s7 => 20125 + 300 * s7.toNatClampNeg + 0) (fun r6 h6 s7 hP => ?_) _ rfl rfl (by decide) (by decide)
  have hP6 := tw_add6 hP
  have hP7 := tw_lawP7 hP
  refine tw_iload (k := 13) rfl rfl ?_
  refine tw_aload_n (k := 14) rfl rfl ?_
  refine tw_alength (k := 15) rfl (fun x8 => ?_)
  refine tw_bipush (k := 16) (6 : Int32) rfl (by decide) ?_
  refine tw_isub (k := 17) rfl ?_
  refine tw_icmp_gt (k := 18) 2999 rfl (by decide) ?_ ?_
  · refine tw_iconst (k := 27) (1 : Int32) rfl (by decide) ?_
    exact tw_zreturn (k := 28) rfl rfl (by omega) (by omega)
  · refine tw_aload_n (k := 19) rfl rfl ?_
    refine tw_iload (k := 20) rfl rfl ?_
    refine tw_iaload (k := 21) rfl (fun x9 => ?_)
    refine tw_bipush (k := 22) (63 : Int32) rfl (by decide) ?_
    refine tw_iand (k := 23) rfl ?_
    refine tw_join 2993 (fun s11 => [some (.ref a0), some (.ref b1), some (.ref b3), some (.ref b5), some (.int s7), none, none]) (fun s11 => []) (182 + s7.toNatClampNeg + 6) (20125 + 300 * s7.toNatClampNeg + 1626) (fun s11 => ?_) (fun j10 g10 => ?_)
    · refine tw_inc (k := 25) (6 : Int32) [some (.ref a0), some (.ref b1), some (.ref b3), some (.ref b5), some (.int (s7 + (6 : Int32))), none, none] rfl rfl (by decide) (Nat.le_of_ble_eq_true rfl) rfl rfl ?_
      refine tw_goto (k := 26) 23 rfl (by decide) ?_
      refine tw_wide (k2 := 182 + (s7 + (6 : Int32)).toNatClampNeg + 0) (s2 := 20125 + 300 * (s7 + (6 : Int32)).toNatClampNeg + 0) (by omega) (by omega) ?_
      exact h6 (s7 + (6 : Int32))
    · refine tw_case ?_ (fun c424 => ?_)
      · refine tw_switch (k := 24) 276 rfl (by decide) (by decide) ?_
        exact C_Lc0 a0 b1 b3 b5 s7 hP7 j10 g10
      refine tw_case ?_ (fun c425 => ?_)
      · refine tw_switch (k := 24) 349 rfl (by decide) (by decide) ?_
        exact C_Lc1 a0 b1 b3 b5 s7 hP7 j10 g10
      refine tw_case ?_ (fun c426 => ?_)
      · refine tw_switch (k := 24) 374 rfl (by decide) (by decide) ?_
        exact C_Lc2 a0 b1 b3 b5 s7 hP7 j10 g10
      refine tw_case ?_ (fun c427 => ?_)
      · refine tw_switch (k := 24) 418 rfl (by decide) (by decide) ?_
        exact C_Lc3 a0 b1 b3 b5 s7 hP7 j10 g10
      refine tw_case ?_ (fun c428 => ?_)
      · refine tw_switch (k := 24) 462 rfl (by decide) (by decide) ?_
        exact C_Lc4 a0 b1 b3 b5 s7 hP7 j10 g10
      refine tw_case ?_ (fun c429 => ?_)
      · refine tw_switch (k := 24) 475 rfl (by decide) (by decide) ?_
        exact C_Lc5 a0 b1 b3 b5 s7 hP7 j10 g10
      refine tw_case ?_ (fun c430 => ?_)
      · refine tw_switch (k := 24) 543 rfl (by decide) (by decide) ?_
        exact C_Lc6 a0 b1 b3 b5 s7 hP7 j10 g10
      refine tw_case ?_ (fun c431 => ?_)
      · refine tw_switch (k := 24) 611 rfl (by decide) (by decide) ?_
        exact C_Lc7 a0 b1 b3 b5 s7 hP7 j10 g10
      refine tw_case ?_ (fun c432 => ?_)
      · refine tw_switch (k := 24) 679 rfl (by decide) (by decide) ?_
        exact C_Lc8 a0 b1 b3 b5 s7 hP7 j10 g10
      refine tw_case ?_ (fun c433 => ?_)
      · refine tw_switch (k := 24) 747 rfl (by decide) (by decide) ?_
        exact C_Lc9 a0 b1 b3 b5 s7 hP7 j10 g10
      refine tw_case ?_ (fun c434 => ?_)
      · refine tw_switch (k := 24) 815 rfl (by decide) (by decide) ?_
        exact C_Lc10 a0 b1 b3 b5 s7 hP7 j10 g10
      refine tw_case ?_ (fun c435 => ?_)
      · refine tw_switch (k := 24) 883 rfl (by decide) (by decide) ?_
        exact C_Lc11 a0 b1 b3 b5 s7 hP7 j10 g10
      refine tw_case ?_ (fun c436 => ?_)
      · refine tw_switch (k := 24) 951 rfl (by decide) (by decide) ?_
        exact C_Lc12 a0 b1 b3 b5 s7 hP7 j10 g10
      refine tw_case ?_ (fun c437 => ?_)
      · refine tw_switch (k := 24) 1007 rfl (by decide) (by decide) ?_
        exact C_Lc13 a0 b1 b3 b5 s7 hP7 j10 g10
      refine tw_case ?_ (fun c438 => ?_)
      · refine tw_switch (k := 24) 1087 rfl (by decide) (by decide) ?_
        exact C_Lc14 a0 b1 b3 b5 s7 hP7 j10 g10
      refine tw_case ?_ (fun c439 => ?_)
      · refine tw_switch (k := 24) 1155 rfl (by decide) (by decide) ?_
        exact C_Lc15 a0 b1 b3 b5 s7 hP7 j10 g10
      refine tw_case ?_ (fun c440 => ?_)
      · refine tw_switch (k := 24) 1211 rfl (by decide) (by decide) ?_
        exact C_Lc16 a0 b1 b3 b5 s7 hP7 j10 g10
      refine tw_case ?_ (fun c441 => ?_)
      · refine tw_switch (k := 24) 1302 rfl (by decide) (by decide) ?_
        exact C_Lc17 a0 b1 b3 b5 s7 hP7 j10 g10
      refine tw_case ?_ (fun c442 => ?_)
      · refine tw_switch (k := 24) 1370 rfl (by decide) (by decide) ?_
        exact C_Lc18 a0 b1 b3 b5 s7 hP7 j10 g10
      refine tw_case ?_ (fun c443 => ?_)
      · refine tw_switch (k := 24) 1450 rfl (by decide) (by decide) ?_
        exact C_Lc19 a0 b1 b3 b5 s7 hP7 j10 g10
      refine tw_case ?_ (fun c444 => ?_)
      · refine tw_switch (k := 24) 1506 rfl (by decide) (by decide) ?_
        exact C_Lc20 a0 b1 b3 b5 s7 hP7 j10 g10
      refine tw_case ?_ (fun c445 => ?_)
      · refine tw_switch (k := 24) 1562 rfl (by decide) (by decide) ?_
        exact C_Lc21 a0 b1 b3 b5 s7 hP7 j10 g10
      refine tw_case ?_ (fun c446 => ?_)
      · refine tw_switch (k := 24) 1618 rfl (by decide) (by decide) ?_
        exact C_Lc22 a0 b1 b3 b5 s7 hP7 j10 g10
      refine tw_case ?_ (fun c447 => ?_)
      · refine tw_switch (k := 24) 1686 rfl (by decide) (by decide) ?_
        exact C_Lc23 a0 b1 b3 b5 s7 hP7 j10 g10
      refine tw_case ?_ (fun c448 => ?_)
      · refine tw_switch (k := 24) 1699 rfl (by decide) (by decide) ?_
        exact C_Lc24 a0 b1 b3 b5 s7 hP7 j10 g10
      refine tw_case ?_ (fun c449 => ?_)
      · refine tw_switch (k := 24) 1755 rfl (by decide) (by decide) ?_
        exact C_Lc25 a0 b1 b3 b5 s7 hP7 j10 g10
      refine tw_case ?_ (fun c450 => ?_)
      · refine tw_switch (k := 24) 1768 rfl (by decide) (by decide) ?_
        exact C_Lc26 a0 b1 b3 b5 s7 hP7 j10 g10
      refine tw_case ?_ (fun c451 => ?_)
      · refine tw_switch (k := 24) 1781 rfl (by decide) (by decide) ?_
        exact C_Lc27 a0 b1 b3 b5 s7 hP7 j10 g10
      refine tw_case ?_ (fun c452 => ?_)
      · refine tw_switch (k := 24) 1794 rfl (by decide) (by decide) ?_
        exact C_Lc28 a0 b1 b3 b5 s7 hP7 j10 g10
      refine tw_case ?_ (fun c453 => ?_)
      · refine tw_switch (k := 24) 1835 rfl (by decide) (by decide) ?_
        exact C_Lc29 a0 b1 b3 b5 s7 hP7 j10 g10
      refine tw_case ?_ (fun c454 => ?_)
      · refine tw_switch (k := 24) 1848 rfl (by decide) (by decide) ?_
        exact C_Lc30 a0 b1 b3 b5 s7 hP7 j10 g10
      refine tw_case ?_ (fun c455 => ?_)
      · refine tw_switch (k := 24) 1916 rfl (by decide) (by decide) ?_
        exact C_Lc31 a0 b1 b3 b5 s7 hP7 j10 g10
      refine tw_case ?_ (fun c456 => ?_)
      · refine tw_switch (k := 24) 1972 rfl (by decide) (by decide) ?_
        exact C_Lc32 a0 b1 b3 b5 s7 hP7 j10 g10
      refine tw_case ?_ (fun c457 => ?_)
      · refine tw_switch (k := 24) 2044 rfl (by decide) (by decide) ?_
        exact C_Lc33 a0 b1 b3 b5 s7 hP7 j10 g10
      refine tw_case ?_ (fun c458 => ?_)
      · refine tw_switch (k := 24) 2088 rfl (by decide) (by decide) ?_
        exact C_Lc34 a0 b1 b3 b5 s7 hP7 j10 g10
      refine tw_case ?_ (fun c459 => ?_)
      · refine tw_switch (k := 24) 2144 rfl (by decide) (by decide) ?_
        exact C_Lc35 a0 b1 b3 b5 s7 hP7 j10 g10
      refine tw_case ?_ (fun c460 => ?_)
      · refine tw_switch (k := 24) 2157 rfl (by decide) (by decide) ?_
        exact C_Lc36 a0 b1 b3 b5 s7 hP7 j10 g10
      refine tw_case ?_ (fun c461 => ?_)
      · refine tw_switch (k := 24) 2170 rfl (by decide) (by decide) ?_
        exact C_Lc37 a0 b1 b3 b5 s7 hP7 j10 g10
      refine tw_case ?_ (fun c462 => ?_)
      · refine tw_switch (k := 24) 2226 rfl (by decide) (by decide) ?_
        exact C_Lc38 a0 b1 b3 b5 s7 hP7 j10 g10
      refine tw_case ?_ (fun c463 => ?_)
      · refine tw_switch (k := 24) 2239 rfl (by decide) (by decide) ?_
        exact C_Lc39 a0 b1 b3 b5 s7 hP7 j10 g10
      refine tw_case ?_ (fun c464 => ?_)
      · refine tw_switch (k := 24) 2252 rfl (by decide) (by decide) ?_
        exact C_Lc40 a0 b1 b3 b5 s7 hP7 j10 g10
      refine tw_case ?_ (fun c465 => ?_)
      · refine tw_switch (k := 24) 2265 rfl (by decide) (by decide) ?_
        exact C_Lc41 a0 b1 b3 b5 s7 hP7 j10 g10
      refine tw_case ?_ (fun c466 => ?_)
      · refine tw_switch (k := 24) 2333 rfl (by decide) (by decide) ?_
        exact C_Lc42 a0 b1 b3 b5 s7 hP7 j10 g10
      refine tw_case ?_ (fun c467 => ?_)
      · refine tw_switch (k := 24) 2425 rfl (by decide) (by decide) ?_
        exact C_Lc43 a0 b1 b3 b5 s7 hP7 j10 g10
      refine tw_case ?_ (fun c468 => ?_)
      · refine tw_switch (k := 24) 2438 rfl (by decide) (by decide) ?_
        exact C_Lc44 a0 b1 b3 b5 s7 hP7 j10 g10
      refine tw_case ?_ (fun c469 => ?_)
      · refine tw_switch (k := 24) 2506 rfl (by decide) (by decide) ?_
        exact C_Lc45 a0 b1 b3 b5 s7 hP7 j10 g10
      refine tw_case ?_ (fun c470 => ?_)
      · refine tw_switch (k := 24) 2586 rfl (by decide) (by decide) ?_
        exact C_Lc46 a0 b1 b3 b5 s7 hP7 j10 g10
      refine tw_case ?_ (fun c471 => ?_)
      · refine tw_switch (k := 24) 2670 rfl (by decide) (by decide) ?_
        exact C_Lc47 a0 b1 b3 b5 s7 hP7 j10 g10
      refine tw_case ?_ (fun c472 => ?_)
      · refine tw_switch (k := 24) 2754 rfl (by decide) (by decide) ?_
        exact C_Lc48 a0 b1 b3 b5 s7 hP7 j10 g10
      refine tw_case ?_ (fun c473 => ?_)
      · refine tw_switch (k := 24) 2838 rfl (by decide) (by decide) ?_
        exact C_Lc49 a0 b1 b3 b5 s7 hP7 j10 g10
      refine tw_case ?_ (fun c474 => ?_)
      · refine tw_switch (k := 24) 2906 rfl (by decide) (by decide) ?_
        exact C_Lc50 a0 b1 b3 b5 s7 hP7 j10 g10
      refine tw_case ?_ (fun c475 => ?_)
      · refine tw_switch (k := 24) 2931 rfl (by decide) (by decide) ?_
        exact C_Lc51 a0 b1 b3 b5 s7 hP7 j10 g10
      refine tw_case ?_ (fun c476 => ?_)
      · refine tw_switch (k := 24) 2944 rfl (by decide) (by decide) ?_
        exact C_Lc52 a0 b1 b3 b5 s7 hP7 j10 g10
      refine tw_case ?_ (fun c477 => ?_)
      · refine tw_switch (k := 24) 2955 rfl (by decide) (by decide) ?_
        exact C_Lc53 a0 b1 b3 b5 s7 hP7 j10 g10
      refine tw_case ?_ (fun c478 => ?_)
      · refine tw_switch (k := 24) 2968 rfl (by decide) (by decide) ?_
        exact C_Lc54 a0 b1 b3 b5 s7 hP7 j10 g10
      refine tw_switch (k := 24) 2993 rfl (by decide) (tw_dfl (by decide) (fun v e1 e2 e3 => ?_)) ?_
      · have e4 : v = 0 ∨ v = 1 ∨ v = 2 ∨ v = 3 ∨ v = 4 ∨ v = 5 ∨ v = 6 ∨ v = 7 ∨ v = 8 ∨ v = 9 ∨ v = 10 ∨ v = 11 ∨ v = 12 ∨ v = 13 ∨ v = 14 ∨ v = 15 ∨ v = 16 ∨ v = 17 ∨ v = 18 ∨ v = 19 ∨ v = 20 ∨ v = 21 ∨ v = 22 ∨ v = 23 ∨ v = 24 ∨ v = 25 ∨ v = 26 ∨ v = 27 ∨ v = 28 ∨ v = 29 ∨ v = 30 ∨ v = 31 ∨ v = 32 ∨ v = 33 ∨ v = 34 ∨ v = 35 ∨ v = 36 ∨ v = 37 ∨ v = 38 ∨ v = 39 ∨ v = 40 ∨ v = 41 ∨ v = 42 ∨ v = 43 ∨ v = 44 ∨ v = 45 ∨ v = 46 ∨ v = 47 ∨ v = 48 ∨ v = 49 ∨ v = 50 ∨ v = 51 ∨ v = 52 ∨ v = 53 ∨ v = 54 := by omega
        rcases e4 with rfl | rfl | rfl | rfl | rfl | rfl | rfl | rfl | rfl | rfl | rfl | rfl | rfl | rfl | rfl | rfl | rfl | rfl | rfl | rfl | rfl | rfl | rfl | rfl | rfl | rfl | rfl | rfl | rfl | rfl | rfl | rfl | rfl | rfl | rfl | rfl | rfl | rfl | rfl | rfl | rfl | rfl | rfl | rfl | rfl | rfl | rfl | rfl | rfl | rfl | rfl | rfl | rfl | rfl | rfl
        · exact c424 (e3.trans (by decide))
        · exact c425 (e3.trans (by decide))
        · exact c426 (e3.trans (by decide))
        · exact c427 (e3.trans (by decide))
        · exact c428 (e3.trans (by decide))
        · exact c429 (e3.trans (by decide))
        · exact c430 (e3.trans (by decide))
        · exact c431 (e3.trans (by decide))
        · exact c432 (e3.trans (by decide))
        · exact c433 (e3.trans (by decide))
        · exact c434 (e3.trans (by decide))
        · exact c435 (e3.trans (by decide))
        · exact c436 (e3.trans (by decide))
        · exact c437 (e3.trans (by decide))
        · exact c438 (e3.trans (by decide))
        · exact c439 (e3.trans (by decide))
        · exact c440 (e3.trans (by decide))
        · exact c441 (e3.trans (by decide))
        · exact c442 (e3.trans (by decide))
        · exact c443 (e3.trans (by decide))
        · exact c444 (e3.trans (by decide))
        · exact c445 (e3.trans (by decide))
        · exact c446 (e3.trans (by decide))
        · exact c447 (e3.trans (by decide))
        · exact c448 (e3.trans (by decide))
        · exact c449 (e3.trans (by decide))
        · exact c450 (e3.trans (by decide))
        · exact c451 (e3.trans (by decide))
        · exact c452 (e3.trans (by decide))
        · exact c453 (e3.trans (by decide))
        · exact c454 (e3.trans (by decide))
        · exact c455 (e3.trans (by decide))
        · exact c456 (e3.trans (by decide))
        · exact c457 (e3.trans (by decide))
        · exact c458 (e3.trans (by decide))
        · exact c459 (e3.trans (by decide))
        · exact c460 (e3.trans (by decide))
        · exact c461 (e3.trans (by decide))
        · exact c462 (e3.trans (by decide))
        · exact c463 (e3.trans (by decide))
        · exact c464 (e3.trans (by decide))
        · exact c465 (e3.trans (by decide))
        · exact c466 (e3.trans (by decide))
        · exact c467 (e3.trans (by decide))
        · exact c468 (e3.trans (by decide))
        · exact c469 (e3.trans (by decide))
        · exact c470 (e3.trans (by decide))
        · exact c471 (e3.trans (by decide))
        · exact c472 (e3.trans (by decide))
        · exact c473 (e3.trans (by decide))
        · exact c474 (e3.trans (by decide))
        · exact c475 (e3.trans (by decide))
        · exact c476 (e3.trans (by decide))
        · exact c477 (e3.trans (by decide))
        · exact c478 (e3.trans (by decide))
      · refine tw_wide (k2 := (182 + s7.toNatClampNeg + 6)) (s2 := (20125 + 300 * s7.toNatClampNeg + 1626)) (by omega) (by omega) ?_
        exact g10 ()
