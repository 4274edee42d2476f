/-! VisitHall.Gate, 3 -/
abbrev farC (σ : HS) (v r nv : Nat) : Prop := ¬ σ 4 r 2 = -1000000005 ∧ ∃ u, u < nv ∧ bt1 (σ 9 v 1) u ∧ ¬ σ 13 1 u < σ 4 r 2
noncomputable def gvC (σ : HS) (v r nv : Nat) : Int32 := cif (farC σ v r nv) (σ 4 r 0 + σ 4 r 3) (σ 4 r 0)
def sp_X1_reasonOfRight : HSp := fun as w σ K => match as with
  | [.inr (.inl (1, some 0)), .inr (.inl (9, some v))] => ∃ n np p c nv, Bk w σ n ∧ Pk w σ np ∧ p < np ∧ σ 9 v 0 = nI p ∧ c < 4 ∧ σ 3 p 0 = nI c ∧ nv ≤ 14 ∧ σ 2 0 4 = nI nv ∧ (w.2 16 c = none → K (some (HI 5)) w σ) ∧ (∀ r, w.2 16 c = some r → ∃ m, 1 ≤ m ∧ m ≤ 60 ∧ σ 4 r 1 = nI m ∧ (¬ alw σ r v → K (some (HI 5)) w σ) ∧ (alw σ r v → ∀ σ' M, eqT σ σ' → mostP σ v m n M → M ≤ 6000 → K (some (HI (if nI M + 1 ≤ gvC σ v r nv then 0 else 6))) w σ'))
  | _ => False
theorem dX1_reasonOfRight_0 : decode cX1_reasonOfRight 0 = .ok (.aload_n 0, 1) := by decide +kernel
theorem dX1_reasonOfRight_1 : decode cX1_reasonOfRight 1 = .ok (.getfield 21, 3) := by decide +kernel
theorem dX1_reasonOfRight_4 : decode cX1_reasonOfRight 4 = .ok (.aload_n 1, 1) := by decide +kernel
theorem dX1_reasonOfRight_5 : decode cX1_reasonOfRight 5 = .ok (.getfield 102, 3) := by decide +kernel
theorem dX1_reasonOfRight_8 : decode cX1_reasonOfRight 8 = .ok (.invokevirtual 105, 3) := by decide +kernel
theorem dX1_reasonOfRight_11 : decode cX1_reasonOfRight 11 = .ok (.astore_n 2, 1) := by decide +kernel
theorem dX1_reasonOfRight_12 : decode cX1_reasonOfRight 12 = .ok (.aload_n 2, 1) := by decide +kernel
theorem dX1_reasonOfRight_13 : decode cX1_reasonOfRight 13 = .ok (.ifnull 18, 3) := by decide +kernel
theorem dX1_reasonOfRight_16 : decode cX1_reasonOfRight 16 = .ok (.aload_n 2, 1) := by decide +kernel
theorem dX1_reasonOfRight_17 : decode cX1_reasonOfRight 17 = .ok (.getfield 129, 3) := by decide +kernel
theorem dX1_reasonOfRight_20 : decode cX1_reasonOfRight 20 = .ok (.aload_n 0, 1) := by decide +kernel
theorem dX1_reasonOfRight_21 : decode cX1_reasonOfRight 21 = .ok (.getfield 25, 3) := by decide +kernel
theorem dX1_reasonOfRight_24 : decode cX1_reasonOfRight 24 = .ok (.arraylength, 1) := by decide +kernel
theorem dX1_reasonOfRight_25 : decode cX1_reasonOfRight 25 = .ok (.invokestatic 47, 3) := by decide +kernel
theorem dX1_reasonOfRight_28 : decode cX1_reasonOfRight 28 = .ok (.ifCond .ne 5, 3) := by decide +kernel
theorem dX1_reasonOfRight_31 : decode cX1_reasonOfRight 31 = .ok (.iconst 5, 1) := by decide +kernel
theorem dX1_reasonOfRight_32 : decode cX1_reasonOfRight 32 = .ok (.ireturn, 1) := by decide +kernel
theorem dX1_reasonOfRight_33 : decode cX1_reasonOfRight 33 = .ok (.aload_n 0, 1) := by decide +kernel
theorem dX1_reasonOfRight_34 : decode cX1_reasonOfRight 34 = .ok (.getfield 25, 3) := by decide +kernel
theorem dX1_reasonOfRight_37 : decode cX1_reasonOfRight 37 = .ok (.aload_n 2, 1) := by decide +kernel
theorem dX1_reasonOfRight_38 : decode cX1_reasonOfRight 38 = .ok (.getfield 129, 3) := by decide +kernel
theorem dX1_reasonOfRight_41 : decode cX1_reasonOfRight 41 = .ok (.aaload, 1) := by decide +kernel
theorem dX1_reasonOfRight_42 : decode cX1_reasonOfRight 42 = .ok (.astore_n 3, 1) := by decide +kernel
theorem dX1_reasonOfRight_43 : decode cX1_reasonOfRight 43 = .ok (.aload_n 3, 1) := by decide +kernel
theorem dX1_reasonOfRight_44 : decode cX1_reasonOfRight 44 = .ok (.ifnull 11, 3) := by decide +kernel
theorem dX1_reasonOfRight_47 : decode cX1_reasonOfRight 47 = .ok (.aload_n 3, 1) := by decide +kernel
theorem dX1_reasonOfRight_48 : decode cX1_reasonOfRight 48 = .ok (.aload_n 1, 1) := by decide +kernel
theorem dX1_reasonOfRight_49 : decode cX1_reasonOfRight 49 = .ok (.invokevirtual 132, 3) := by decide +kernel
theorem dX1_reasonOfRight_52 : decode cX1_reasonOfRight 52 = .ok (.ifCond .ne 5, 3) := by decide +kernel
theorem dX1_reasonOfRight_55 : decode cX1_reasonOfRight 55 = .ok (.iconst 5, 1) := by decide +kernel
theorem dX1_reasonOfRight_56 : decode cX1_reasonOfRight 56 = .ok (.ireturn, 1) := by decide +kernel
theorem dX1_reasonOfRight_57 : decode cX1_reasonOfRight 57 = .ok (.aload_n 3, 1) := by decide +kernel
theorem dX1_reasonOfRight_58 : decode cX1_reasonOfRight 58 = .ok (.getfield 137, 3) := by decide +kernel
theorem dX1_reasonOfRight_61 : decode cX1_reasonOfRight 61 = .ok (.ldc 140, 2) := by decide +kernel
theorem dX1_reasonOfRight_63 : decode cX1_reasonOfRight 63 = .ok (.if_icmp .eq 25, 3) := by decide +kernel
theorem dX1_reasonOfRight_66 : decode cX1_reasonOfRight 66 = .ok (.aload_n 0, 1) := by decide +kernel
theorem dX1_reasonOfRight_67 : decode cX1_reasonOfRight 67 = .ok (.getfield 21, 3) := by decide +kernel
theorem dX1_reasonOfRight_70 : decode cX1_reasonOfRight 70 = .ok (.aload_n 1, 1) := by decide +kernel
theorem dX1_reasonOfRight_71 : decode cX1_reasonOfRight 71 = .ok (.getfield 116, 3) := by decide +kernel
theorem dX1_reasonOfRight_74 : decode cX1_reasonOfRight 74 = .ok (.aload_n 3, 1) := by decide +kernel
theorem dX1_reasonOfRight_75 : decode cX1_reasonOfRight 75 = .ok (.getfield 137, 3) := by decide +kernel
theorem dX1_reasonOfRight_78 : decode cX1_reasonOfRight 78 = .ok (.invokevirtual 141, 3) := by decide +kernel
theorem dX1_reasonOfRight_81 : decode cX1_reasonOfRight 81 = .ok (.ifCond .eq 7, 3) := by decide +kernel
theorem dX1_reasonOfRight_84 : decode cX1_reasonOfRight 84 = .ok (.iconst 1, 1) := by decide +kernel
theorem dX1_reasonOfRight_85 : decode cX1_reasonOfRight 85 = .ok (.goto 4, 3) := by decide +kernel
theorem dX1_reasonOfRight_88 : decode cX1_reasonOfRight 88 = .ok (.iconst 0, 1) := by decide +kernel
theorem dX1_reasonOfRight_89 : decode cX1_reasonOfRight 89 = .ok (.istore 4, 2) := by decide +kernel
theorem dX1_reasonOfRight_91 : decode cX1_reasonOfRight 91 = .ok (.aload_n 0, 1) := by decide +kernel
theorem dX1_reasonOfRight_92 : decode cX1_reasonOfRight 92 = .ok (.aload_n 1, 1) := by decide +kernel
theorem dX1_reasonOfRight_93 : decode cX1_reasonOfRight 93 = .ok (.aload_n 3, 1) := by decide +kernel
theorem dX1_reasonOfRight_94 : decode cX1_reasonOfRight 94 = .ok (.getfield 144, 3) := by decide +kernel
theorem dX1_reasonOfRight_97 : decode cX1_reasonOfRight 97 = .ok (.invokevirtual 147, 3) := by decide +kernel
theorem dX1_reasonOfRight_100 : decode cX1_reasonOfRight 100 = .ok (.iconst 1, 1) := by decide +kernel
theorem dX1_reasonOfRight_101 : decode cX1_reasonOfRight 101 = .ok (.iadd, 1) := by decide +kernel
theorem dX1_reasonOfRight_102 : decode cX1_reasonOfRight 102 = .ok (.aload_n 3, 1) := by decide +kernel
theorem dX1_reasonOfRight_103 : decode cX1_reasonOfRight 103 = .ok (.iload 4, 2) := by decide +kernel
theorem dX1_reasonOfRight_105 : decode cX1_reasonOfRight 105 = .ok (.invokevirtual 151, 3) := by decide +kernel
theorem dX1_reasonOfRight_108 : decode cX1_reasonOfRight 108 = .ok (.if_icmp .le 8, 3) := by decide +kernel
theorem dX1_reasonOfRight_111 : decode cX1_reasonOfRight 111 = .ok (.bipush 6, 2) := by decide +kernel
theorem dX1_reasonOfRight_113 : decode cX1_reasonOfRight 113 = .ok (.goto 4, 3) := by decide +kernel
theorem dX1_reasonOfRight_116 : decode cX1_reasonOfRight 116 = .ok (.iconst 0, 1) := by decide +kernel
theorem dX1_reasonOfRight_117 : decode cX1_reasonOfRight 117 = .ok (.ireturn, 1) := by decide +kernel
def ins_X1_reasonOfRight (pc : Nat) : HOp := cond (Nat.blt pc 57) (cond (Nat.blt pc 31) (cond (Nat.blt pc 13) (cond (Nat.blt pc 5) (cond (Nat.blt pc 1) (cond (Nat.beq pc 0) (o_aload 0 1) o_bad) (cond (Nat.blt pc 4) (cond (Nat.beq pc 1) (o_getf 1 0 4) o_bad) (cond (Nat.beq pc 4) (o_aload 1 5) o_bad))) (cond (Nat.blt pc 11) (cond (Nat.blt pc 8) (cond (Nat.beq pc 5) (o_getf 9 0 8) o_bad) (cond (Nat.beq pc 8) (o_callV 2 2 sp_X2_prisonerAt 11) o_bad)) (cond (Nat.blt pc 12) (cond (Nat.beq pc 11) (o_astore 2 12) o_bad) (cond (Nat.beq pc 12) (o_aload 2 13) o_bad)))) (cond (Nat.blt pc 21) (cond (Nat.blt pc 17) (cond (Nat.blt pc 16) (cond (Nat.beq pc 13) (o_ifnull 31 16) o_bad) (cond (Nat.beq pc 16) (o_aload 2 17) o_bad)) (cond (Nat.blt pc 20) (cond (Nat.beq pc 17) (o_getf 3 0 20) o_bad) (cond (Nat.beq pc 20) (o_aload 0 21) o_bad))) (cond (Nat.blt pc 25) (cond (Nat.blt pc 24) (cond (Nat.beq pc 21) (o_getf 1 1 24) o_bad) (cond (Nat.beq pc 24) (o_alen 25) o_bad)) (cond (Nat.blt pc 28) (cond (Nat.beq pc 25) (o_callS 2 sp_X10_isBelow 28) o_bad) (cond (Nat.beq pc 28) (o_if (fun x => x = 0) 31 33) o_bad))))) (cond (Nat.blt pc 43) (cond (Nat.blt pc 37) (cond (Nat.blt pc 33) (cond (Nat.blt pc 32) (cond (Nat.beq pc 31) (o_const (5) 32) o_bad) (cond (Nat.beq pc 32) (o_iret) o_bad)) (cond (Nat.blt pc 34) (cond (Nat.beq pc 33) (o_aload 0 34) o_bad) (cond (Nat.beq pc 34) (o_getf 1 1 37) o_bad))) (cond (Nat.blt pc 41) (cond (Nat.blt pc 38) (cond (Nat.beq pc 37) (o_aload 2 38) o_bad) (cond (Nat.beq pc 38) (o_getf 3 0 41) o_bad)) (cond (Nat.blt pc 42) (cond (Nat.beq pc 41) (o_aald 42) o_bad) (cond (Nat.beq pc 42) (o_astore 3 43) o_bad)))) (cond (Nat.blt pc 49) (cond (Nat.blt pc 47) (cond (Nat.blt pc 44) (cond (Nat.beq pc 43) (o_aload 3 44) o_bad) (cond (Nat.beq pc 44) (o_ifnull 55 47) o_bad)) (cond (Nat.blt pc 48) (cond (Nat.beq pc 47) (o_aload 3 48) o_bad) (cond (Nat.beq pc 48) (o_aload 1 49) o_bad))) (cond (Nat.blt pc 55) (cond (Nat.blt pc 52) (cond (Nat.beq pc 49) (o_callV 2 4 sp_X4_allows 52) o_bad) (cond (Nat.beq pc 52) (o_if (fun x => x = 0) 55 57) o_bad)) (cond (Nat.blt pc 56) (cond (Nat.beq pc 55) (o_const (5) 56) o_bad) (cond (Nat.beq pc 56) (o_iret) o_bad)))))) (cond (Nat.blt pc 89) (cond (Nat.blt pc 71) (cond (Nat.blt pc 63) (cond (Nat.blt pc 58) (cond (Nat.beq pc 57) (o_aload 3 58) o_bad) (cond (Nat.blt pc 61) (cond (Nat.beq pc 58) (o_getf 4 2 61) o_bad) (cond (Nat.beq pc 61) (o_const (-1000000005) 63) o_bad))) (cond (Nat.blt pc 67) (cond (Nat.blt pc 66) (cond (Nat.beq pc 63) (o_icmp (fun x y => x = y) 88 66) o_bad) (cond (Nat.beq pc 66) (o_aload 0 67) o_bad)) (cond (Nat.blt pc 70) (cond (Nat.beq pc 67) (o_getf 1 0 70) o_bad) (cond (Nat.beq pc 70) (o_aload 1 71) o_bad)))) (cond (Nat.blt pc 81) (cond (Nat.blt pc 75) (cond (Nat.blt pc 74) (cond (Nat.beq pc 71) (o_getf 9 1 74) o_bad) (cond (Nat.beq pc 74) (o_aload 3 75) o_bad)) (cond (Nat.blt pc 78) (cond (Nat.beq pc 75) (o_getf 4 2 78) o_bad) (cond (Nat.beq pc 78) (o_callV 3 2 sp_X2_comesFrom 81) o_bad))) (cond (Nat.blt pc 85) (cond (Nat.blt pc 84) (cond (Nat.beq pc 81) (o_if (fun x => x = 0) 88 84) o_bad) (cond (Nat.beq pc 84) (o_const (1) 85) o_bad)) (cond (Nat.blt pc 88) (cond (Nat.beq pc 85) (o_goto 89) o_bad) (cond (Nat.beq pc 88) (o_const (0) 89) o_bad))))) (cond (Nat.blt pc 102) (cond (Nat.blt pc 94) (cond (Nat.blt pc 92) (cond (Nat.blt pc 91) (cond (Nat.beq pc 89) (o_istore 4 91) o_bad) (cond (Nat.beq pc 91) (o_aload 0 92) o_bad)) (cond (Nat.blt pc 93) (cond (Nat.beq pc 92) (o_aload 1 93) o_bad) (cond (Nat.beq pc 93) (o_aload 3 94) o_bad))) (cond (Nat.blt pc 100) (cond (Nat.blt pc 97) (cond (Nat.beq pc 94) (o_getf 4 1 97) o_bad) (cond (Nat.beq pc 97) (o_callV 3 1 sp_X1_mostInSpan 100) o_bad)) (cond (Nat.blt pc 101) (cond (Nat.beq pc 100) (o_const (1) 101) o_bad) (cond (Nat.beq pc 101) (o_bin (fun x y => x + y) 102) o_bad)))) (cond (Nat.blt pc 111) (cond (Nat.blt pc 105) (cond (Nat.blt pc 103) (cond (Nat.beq pc 102) (o_aload 3 103) o_bad) (cond (Nat.beq pc 103) (o_iload 4 105) o_bad)) (cond (Nat.blt pc 108) (cond (Nat.beq pc 105) (o_callV 2 4 sp_X4_gives 108) o_bad) (cond (Nat.beq pc 108) (o_icmp (fun x y => x ≤ y) 116 111) o_bad))) (cond (Nat.blt pc 116) (cond (Nat.blt pc 113) (cond (Nat.beq pc 111) (o_const (6) 113) o_bad) (cond (Nat.beq pc 113) (o_goto 117) o_bad)) (cond (Nat.blt pc 117) (cond (Nat.beq pc 116) (o_const (0) 117) o_bad) (cond (Nat.beq pc 117) (o_iret) o_bad))))))
set_option maxRecDepth 20000 in
theorem ok_X1_reasonOfRight : HOKs cX1_reasonOfRight RX1 5 (some .int) 4 ins_X1_reasonOfRight := fun _ => hnd (hnd (hnd (hnd (hnd (hlf (ok_aload_n dX1_reasonOfRight_0 rfl rfl)) (hnd (hlf (ok_getf (C := RX1) (T := TX1) dX1_reasonOfRight_1 rfl rfl (by decide) rfl inX1 wd_185 rfl)) (hlf (ok_aload_n dX1_reasonOfRight_4 rfl rfl)))) (hnd (hnd (hlf (ok_getfN (C := RX9) (T := TX9) dX1_reasonOfRight_5 rfl rfl (by decide) rfl inX9 wd_235 rfl)) (hlf (ok_callV (y := yX2_prisonerAt) (n' := 1) (C := RX2) (T := TX2) dX1_reasonOfRight_8 ct_X2_prisonerAt (by decide) (by decide) wd_386 wd_424 wd_384 wd_385 wd_42 rfl (by decide +kernel) rfl rfl rfl))) (hnd (hlf (ok_astore_n dX1_reasonOfRight_11 rfl (by decide) rfl)) (hlf (ok_aload_n dX1_reasonOfRight_12 rfl rfl))))) (hnd (hnd (hnd (hlf (ok_ifnull dX1_reasonOfRight_13 (by decide) rfl)) (hlf (ok_aload_n dX1_reasonOfRight_16 rfl rfl))) (hnd (hlf (ok_getfN (C := RX3) (T := TX3) dX1_reasonOfRight_17 rfl rfl (by decide) rfl inX3 wd_335 rfl)) (hlf (ok_aload_n dX1_reasonOfRight_20 rfl rfl)))) (hnd (hnd (hlf (ok_getf (C := RX1) (T := TX1) dX1_reasonOfRight_21 rfl rfl (by decide) rfl inX1 wd_186 rfl)) (hlf (ok_alen dX1_reasonOfRight_24 rfl))) (hnd (hlf (ok_callSN (y := yX10_isBelow) dX1_reasonOfRight_25 ct_X10_isBelow (by decide) (by decide) wd_319 wd_441 wd_318 wd_41 (by decide +kernel) rfl)) (hlf (ok_if_ne dX1_reasonOfRight_28 (by decide) rfl)))))) (hnd (hnd (hnd (hnd (hlf (ok_iconst dX1_reasonOfRight_31 (by decide) rfl)) (hlf (ok_iret dX1_reasonOfRight_32))) (hnd (hlf (ok_aload_n dX1_reasonOfRight_33 rfl rfl)) (hlf (ok_getf (C := RX1) (T := TX1) dX1_reasonOfRight_34 rfl rfl (by decide) rfl inX1 wd_186 rfl)))) (hnd (hnd (hlf (ok_aload_n dX1_reasonOfRight_37 rfl rfl)) (hlf (ok_getfN (C := RX3) (T := TX3) dX1_reasonOfRight_38 rfl rfl (by decide) rfl inX3 wd_335 rfl))) (hnd (hlf (ok_aald dX1_reasonOfRight_41 rfl)) (hlf (ok_astore_n dX1_reasonOfRight_42 rfl (by decide) rfl))))) (hnd (hnd (hnd (hlf (ok_aload_n dX1_reasonOfRight_43 rfl rfl)) (hlf (ok_ifnull dX1_reasonOfRight_44 (by decide) rfl))) (hnd (hlf (ok_aload_n dX1_reasonOfRight_47 rfl rfl)) (hlf (ok_aload_n dX1_reasonOfRight_48 rfl rfl)))) (hnd (hnd (hlf (ok_callV (y := yX4_allows) (n' := 1) (C := RX4) (T := TX4) dX1_reasonOfRight_49 ct_X4_allows (by decide) (by decide) wd_445 wd_442 wd_443 wd_444 wd_54 rfl (by decide +kernel) rfl rfl rfl)) (hlf (ok_if_ne dX1_reasonOfRight_52 (by decide) rfl))) (hnd (hlf (ok_iconst dX1_reasonOfRight_55 (by decide) rfl)) (hlf (ok_iret dX1_reasonOfRight_56))))))) (hnd (hnd (hnd (hnd (hlf (ok_aload_n dX1_reasonOfRight_57 rfl rfl)) (hnd (hlf (ok_getfN (C := RX4) (T := TX4) dX1_reasonOfRight_58 rfl rfl (by decide) rfl inX4 wd_591 rfl)) (hlf (ok_ldc dX1_reasonOfRight_61 wd_446 rfl)))) (hnd (hnd (hlf (ok_icmp_eq dX1_reasonOfRight_63 (by decide) rfl)) (hlf (ok_aload_n dX1_reasonOfRight_66 rfl rfl))) (hnd (hlf (ok_getf (C := RX1) (T := TX1) dX1_reasonOfRight_67 rfl rfl (by decide) rfl inX1 wd_185 rfl)) (hlf (ok_aload_n dX1_reasonOfRight_70 rfl rfl))))) (hnd (hnd (hnd (hlf (ok_getfN (C := RX9) (T := TX9) dX1_reasonOfRight_71 rfl rfl (by decide) rfl inX9 wd_240 rfl)) (hlf (ok_aload_n dX1_reasonOfRight_74 rfl rfl))) (hnd (hlf (ok_getfN (C := RX4) (T := TX4) dX1_reasonOfRight_75 rfl rfl (by decide) rfl inX4 wd_591 rfl)) (hlf (ok_callV (y := yX2_comesFrom) (n' := 2) (C := RX2) (T := TX2) dX1_reasonOfRight_78 ct_X2_comesFrom (by decide) (by decide) wd_450 wd_447 wd_448 wd_449 wd_42 rfl (by decide +kernel) rfl rfl rfl)))) (hnd (hnd (hlf (ok_if_eq dX1_reasonOfRight_81 (by decide) rfl)) (hlf (ok_iconst dX1_reasonOfRight_84 (by decide) rfl))) (hnd (hlf (ok_goto dX1_reasonOfRight_85 (by decide))) (hlf (ok_iconst dX1_reasonOfRight_88 (by decide) rfl)))))) (hnd (hnd (hnd (hnd (hlf (ok_istore dX1_reasonOfRight_89 (by decide) rfl)) (hlf (ok_aload_n dX1_reasonOfRight_91 rfl rfl))) (hnd (hlf (ok_aload_n dX1_reasonOfRight_92 rfl rfl)) (hlf (ok_aload_n dX1_reasonOfRight_93 rfl rfl)))) (hnd (hnd (hlf (ok_getfN (C := RX4) (T := TX4) dX1_reasonOfRight_94 rfl rfl (by decide) rfl inX4 wd_587 rfl)) (hlf (ok_callV (y := yX1_mostInSpan) (n' := 2) (C := RX1) (T := TX1) dX1_reasonOfRight_97 ct_X1_mostInSpan (by decide) (by decide) wd_454 wd_451 wd_453 wd_2 wd_47 rfl (by decide +kernel) rfl rfl rfl))) (hnd (hlf (ok_iconst dX1_reasonOfRight_100 (by decide) rfl)) (hlf (ok_iadd dX1_reasonOfRight_101 rfl))))) (hnd (hnd (hnd (hlf (ok_aload_n dX1_reasonOfRight_102 rfl rfl)) (hlf (ok_iload dX1_reasonOfRight_103 rfl))) (hnd (hlf (ok_callV (y := yX4_gives) (n' := 1) (C := RX4) (T := TX4) dX1_reasonOfRight_105 ct_X4_gives (by decide) (by decide) wd_466 wd_463 wd_464 wd_465 wd_54 rfl (by decide +kernel) rfl rfl rfl)) (hlf (ok_icmp_le dX1_reasonOfRight_108 (by decide) rfl)))) (hnd (hnd (hlf (ok_bipush dX1_reasonOfRight_111 (by decide) rfl)) (hlf (ok_goto dX1_reasonOfRight_113 (by decide)))) (hnd (hlf (ok_iconst dX1_reasonOfRight_116 (by decide) rfl)) (hlf (ok_iret dX1_reasonOfRight_117)))))))

theorem vc_X1_reasonOfRight : MVC ins_X1_reasonOfRight 5 2 sp_X1_reasonOfRight := by
  refine mvc0 120 fun as w σ q hl hs => ?_
  unfold sp_X1_reasonOfRight at hs
  split at hs
  rotate_left
  · exact hs.elim
  rename_i v
  obtain ⟨n, np, p, c, nv, hB, hP, hp, hv, hc, hc2, hnv, hnv2, h5, hr⟩ := hs
  have h10 := hP.1
  refine ⟨np, hP, fun i hi e => ?_, fun h => absurd (pa_in hP hp hv) h⟩
  obtain rfl := pa_eq hP hp hv hi e
  have hin : 0 ≤ σ 3 i 0 ∧ σ 3 i 0 < 4 := by rw [hc2]; exact ⟨nI_pos' (by omega), nI_lt (b := 4) hc (by decide)⟩
  refine And.intro (fun _ => ?_) (fun h => absurd hin h)
  refine And.intro (fun h => absurd h (by decide)) (fun _ => ?_)
  refine And.intro (in4 hin) (fun o ho => ?_)
  have ho : w.2 16 (σ 3 i 0).toNatClampNeg = o := ho
  rw [hc2, nI_clamp (by omega)] at ho
  subst ho
  cases ho : w.2 16 c with
  | none => exact h5 ho
  | some r =>
    obtain ⟨m, hm1, hm2, hm3, hno, hyes⟩ := hr r ho
    apply br2
    rotate_left
    · intro h1
      exact And.intro (fun _ => hno h1) (fun h => absurd rfl h)
    intro h1
    have hyes := hyes h1
    refine And.intro (fun h => absurd h (by decide)) (fun _ => ?_)
    have tail : ∀ (σ' : HS) (M : Nat) (x : Int32), eqT σ σ' → mostP σ v m n M → M ≤ 6000 → (x = 0 ↔ ¬ farC σ v r nv) → (if nI M + 1 ≤ (if x = 0 then σ' 4 r 0 else σ' 4 r 0 + σ' 4 r 3) then (0 : Int32) else 6) = (if nI M + 1 ≤ gvC σ v r nv then 0 else 6) := by
      intro σ' M x hE _ _ hx
      have e1 : σ' 4 r 0 = σ 4 r 0 := hE 4 r 0 (by omega)
      have e2 : σ' 4 r 3 = σ 4 r 3 := hE 4 r 3 (by omega)
      rw [e1, e2]
      unfold gvC
      by_cases z : x = 0
      · rw [if_pos z, cif_n (hx.mp z)]
      · rw [if_neg z, cif_p (Classical.byContradiction fun q => z (hx.mpr q))]
    have fin : ∀ (x : Int32), (x = 0 ↔ ¬ farC σ v r nv) → ∀ σ' M, eqT σ σ' → mostP σ v m n M → M ≤ 6000 → q (some (HI (if nI M + 1 ≤ (if x = 0 then σ' 4 r 0 else σ' 4 r 0 + σ' 4 r 3) then 0 else 6))) w σ' := fun x hx σ' M hE hM h6 => by
      rw [tail σ' M x hE hM h6 hx]
      exact hyes σ' M hE hM h6
    have go : ∀ (x : Int32) (σ' : HS) (M : Nat), (x = 0 ↔ ¬ farC σ v r nv) → eqT σ σ' → mostP σ v m n M → M ≤ 6000 → ((nI M + 1 ≤ (if x = 0 then σ' 4 r 0 else σ' 4 r 0 + σ' 4 r 3) → q (some (HI 0)) w σ') ∧ (¬ nI M + 1 ≤ (if x = 0 then σ' 4 r 0 else σ' 4 r 0 + σ' 4 r 3) → q (some (HI 6)) w σ')) := fun x σ' M hx hE hM h6 => by
      have h := fin x hx σ' M hE hM h6
      refine ⟨fun z => ?_, fun z => ?_⟩
      · rw [if_pos z] at h; exact h
      · rw [if_neg z] at h; exact h
    apply br2
    · intro h2
      have hx : (0 : Int32) = 0 ↔ ¬ farC σ v r nv := ⟨fun _ q => q.1 h2, fun _ => rfl⟩
      refine ⟨n, m, hB, hm1, hm2, hm3, fun σ' M hE hM h6 => ?_⟩
      exact go 0 σ' M hx hE hM h6
    · intro h2
      refine ⟨nv, hnv, hnv2, ?_⟩
      apply br2
      · intro h3
        have hx : (1 : Int32) = 0 ↔ ¬ farC σ v r nv := ⟨fun h => absurd h (by decide), fun q => absurd ⟨h2, h3⟩ q⟩
        refine And.intro (fun h => absurd h (by decide)) (fun _ => ?_)
        refine ⟨n, m, hB, hm1, hm2, hm3, fun σ' M hE hM h6 => ?_⟩
        exact go 1 σ' M hx hE hM h6
      · intro h3
        have hx : (0 : Int32) = 0 ↔ ¬ farC σ v r nv := ⟨fun _ q => h3 q.2, fun _ => rfl⟩
        refine And.intro (fun _ => ?_) (fun h => absurd rfl h)
        refine ⟨n, m, hB, hm1, hm2, hm3, fun σ' M hE hM h6 => ?_⟩
        exact go 0 σ' M hx hE hM h6
theorem ct_X1_reasonOfRight : Ctr yX1_reasonOfRight cX1_reasonOfRight 5 (some .int) 4 0 0 2 sp_X1_reasonOfRight := ctr_of (by decide +kernel) rfl (by decide) ok_X1_reasonOfRight vc_X1_reasonOfRight

