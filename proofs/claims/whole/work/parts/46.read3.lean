/-! RightReader.read -/
/-- what a reading leaves alone: i the number of the right while it is made, n its own -/
def eqD (i n : Nat) (σ σ' : HS) : Prop := ∀ k j f, ¬ (k = 5 ∧ j = 0 ∧ 1 ≤ f ∧ f ≤ 3) → ¬ (k = 4 ∧ j = n) → ¬ (k = 34 ∧ j = i) → σ' k j f = σ k j f
def rdR (n : Nat) (σ' : HS) : Prs → Prop
  | .inl p => p ≤ 60 ∧ σ' 5 0 3 = nI p
  | .inr t => σ' 5 0 3 = -1 ∧ σ' 4 n 0 = t.1 ∧ σ' 4 n 1 = t.2.1 ∧ σ' 4 n 2 = t.2.2.1 ∧ σ' 4 n 3 = t.2.2.2.1 ∧ σ' 4 n 4 = t.2.2.2.2.1 ∧ σ' 4 n 5 = t.2.2.2.2.2
def sp_X5_read : HSp := fun as w σ K => match as with
  | [.inr (.inl (5, some 0))] => ∃ z, z ≤ 60 ∧ σ 8 0 1 = nI z ∧ ∀ σ', eqD (w.1 34) (w.1 4) σ σ' → rdR (w.1 4) σ' (prs (σ 12 0) z) → K (some (HR 4 (w.1 4))) (finW 4 (wRaw w 4)) σ'
  | _ => False
def rd0 (σ : HS) (i n : Nat) : HS := finS 4 i n (up3 (up3 (zr (up3 (up3 (up3 σ 5 0 1 0) 5 0 2 0) 5 0 3 (-1)) 34 i) 34 i 2 (-1000000005)) 34 i 4 2)
theorem rd0_o {σ : HS} {i n k j f : Nat} (h1 : ¬ (k = 5 ∧ j = 0 ∧ 1 ≤ f ∧ f ≤ 3)) (h2 : ¬ (k = 4 ∧ j = n)) (h3 : ¬ (k = 34 ∧ j = i)) : rd0 σ i n k j f = σ k j f := by
  unfold rd0 finS
  rw [if_neg h2, up3_o (by omega), up3_o (by omega)]
  unfold zr
  rw [if_neg h3, up3_o (by omega), up3_o (by omega), up3_o (by omega)]
theorem rd0_r {σ : HS} {i n f : Nat} : rd0 σ i n 4 n f = (if f = 4 then 2 else if f = 2 then -1000000005 else 0) := by
  unfold rd0 finS
  rw [if_pos ⟨rfl, rfl⟩]
  by_cases h4 : f = 4
  · subst h4
    rw [if_pos rfl]
    exact up3_v
  · rw [if_neg h4, up3_o (by omega)]
    by_cases h2 : f = 2
    · subst h2
      rw [if_pos rfl]
      exact up3_v
    · rw [if_neg h2, up3_o (by omega)]
      exact if_pos ⟨rfl, rfl⟩
theorem dX5_read_0 : decode cX5_read 0 = .ok (.aload_n 0, 1) := by decide +kernel
theorem dX5_read_1 : decode cX5_read 1 = .ok (.iconst 0, 1) := by decide +kernel
theorem dX5_read_2 : decode cX5_read 2 = .ok (.putfield 19, 3) := by decide +kernel
theorem dX5_read_5 : decode cX5_read 5 = .ok (.aload_n 0, 1) := by decide +kernel
theorem dX5_read_6 : decode cX5_read 6 = .ok (.iconst 0, 1) := by decide +kernel
theorem dX5_read_7 : decode cX5_read 7 = .ok (.putfield 22, 3) := by decide +kernel
theorem dX5_read_10 : decode cX5_read 10 = .ok (.aload_n 0, 1) := by decide +kernel
theorem dX5_read_11 : decode cX5_read 11 = .ok (.iconst (-1), 1) := by decide +kernel
theorem dX5_read_12 : decode cX5_read 12 = .ok (.putfield 11, 3) := by decide +kernel
theorem dX5_read_15 : decode cX5_read 15 = .ok (.new 25, 3) := by decide +kernel
theorem dX5_read_18 : decode cX5_read 18 = .ok (.dup, 1) := by decide +kernel
theorem dX5_read_19 : decode cX5_read 19 = .ok (.invokespecial 27, 3) := by decide +kernel
theorem dX5_read_22 : decode cX5_read 22 = .ok (.astore_n 1, 1) := by decide +kernel
theorem dX5_read_23 : decode cX5_read 23 = .ok (.aload_n 1, 1) := by decide +kernel
theorem dX5_read_24 : decode cX5_read 24 = .ok (.aload_n 0, 1) := by decide +kernel
theorem dX5_read_25 : decode cX5_read 25 = .ok (.iconst 0, 1) := by decide +kernel
theorem dX5_read_26 : decode cX5_read 26 = .ok (.bipush 50, 2) := by decide +kernel
theorem dX5_read_28 : decode cX5_read 28 = .ok (.invokevirtual 28, 3) := by decide +kernel
theorem dX5_read_31 : decode cX5_read 31 = .ok (.putfield 32, 3) := by decide +kernel
theorem dX5_read_34 : decode cX5_read 34 = .ok (.aload_n 0, 1) := by decide +kernel
theorem dX5_read_35 : decode cX5_read 35 = .ok (.ldc 35, 2) := by decide +kernel
theorem dX5_read_37 : decode cX5_read 37 = .ok (.invokevirtual 37, 3) := by decide +kernel
theorem dX5_read_40 : decode cX5_read 40 = .ok (.aload_n 1, 1) := by decide +kernel
theorem dX5_read_41 : decode cX5_read 41 = .ok (.aload_n 0, 1) := by decide +kernel
theorem dX5_read_42 : decode cX5_read 42 = .ok (.iconst 1, 1) := by decide +kernel
theorem dX5_read_43 : decode cX5_read 43 = .ok (.bipush 60, 2) := by decide +kernel
theorem dX5_read_45 : decode cX5_read 45 = .ok (.invokevirtual 28, 3) := by decide +kernel
theorem dX5_read_48 : decode cX5_read 48 = .ok (.putfield 41, 3) := by decide +kernel
theorem dX5_read_51 : decode cX5_read 51 = .ok (.aload_n 0, 1) := by decide +kernel
theorem dX5_read_52 : decode cX5_read 52 = .ok (.invokevirtual 44, 3) := by decide +kernel
theorem dX5_read_55 : decode cX5_read 55 = .ok (.aload_n 0, 1) := by decide +kernel
theorem dX5_read_56 : decode cX5_read 56 = .ok (.aload_n 1, 1) := by decide +kernel
theorem dX5_read_57 : decode cX5_read 57 = .ok (.invokevirtual 47, 3) := by decide +kernel
theorem dX5_read_60 : decode cX5_read 60 = .ok (.aload_n 0, 1) := by decide +kernel
theorem dX5_read_61 : decode cX5_read 61 = .ok (.aload_n 1, 1) := by decide +kernel
theorem dX5_read_62 : decode cX5_read 62 = .ok (.invokevirtual 51, 3) := by decide +kernel
theorem dX5_read_65 : decode cX5_read 65 = .ok (.aload_n 0, 1) := by decide +kernel
theorem dX5_read_66 : decode cX5_read 66 = .ok (.aload_n 1, 1) := by decide +kernel
theorem dX5_read_67 : decode cX5_read 67 = .ok (.invokevirtual 54, 3) := by decide +kernel
theorem dX5_read_70 : decode cX5_read 70 = .ok (.aload_n 0, 1) := by decide +kernel
theorem dX5_read_71 : decode cX5_read 71 = .ok (.getfield 19, 3) := by decide +kernel
theorem dX5_read_74 : decode cX5_read 74 = .ok (.aload_n 0, 1) := by decide +kernel
theorem dX5_read_75 : decode cX5_read 75 = .ok (.getfield 15, 3) := by decide +kernel
theorem dX5_read_78 : decode cX5_read 78 = .ok (.getfield 57, 3) := by decide +kernel
theorem dX5_read_81 : decode cX5_read 81 = .ok (.if_icmp .ge 7, 3) := by decide +kernel
theorem dX5_read_84 : decode cX5_read 84 = .ok (.aload_n 0, 1) := by decide +kernel
theorem dX5_read_85 : decode cX5_read 85 = .ok (.invokevirtual 62, 3) := by decide +kernel
theorem dX5_read_88 : decode cX5_read 88 = .ok (.aload_n 1, 1) := by decide +kernel
theorem dX5_read_89 : decode cX5_read 89 = .ok (.areturn, 1) := by decide +kernel
def tb_X5_read : HTb := fun pc => cond (Nat.blt pc 42) (cond (Nat.blt pc 22) (cond (Nat.blt pc 10) (cond (Nat.blt pc 5) (cond (Nat.blt pc 1) (cond (Nat.beq pc 0) ((0, 0), o_aload 0 1) ((0, 0), o_bad)) (cond (Nat.blt pc 2) (cond (Nat.beq pc 1) ((0, 0), o_const (0) 2) ((0, 0), o_bad)) (cond (Nat.beq pc 2) ((0, 0), o_putf 5 1 5) ((0, 0), o_bad)))) (cond (Nat.blt pc 6) (cond (Nat.beq pc 5) ((0, 0), o_aload 0 6) ((0, 0), o_bad)) (cond (Nat.blt pc 7) (cond (Nat.beq pc 6) ((0, 0), o_const (0) 7) ((0, 0), o_bad)) (cond (Nat.beq pc 7) ((0, 0), o_putf 5 2 10) ((0, 0), o_bad))))) (cond (Nat.blt pc 15) (cond (Nat.blt pc 11) (cond (Nat.beq pc 10) ((0, 0), o_aload 0 11) ((0, 0), o_bad)) (cond (Nat.blt pc 12) (cond (Nat.beq pc 11) ((0, 0), o_const (-1) 12) ((0, 0), o_bad)) (cond (Nat.beq pc 12) ((0, 0), o_putf 5 3 15) ((0, 0), o_bad)))) (cond (Nat.blt pc 18) (cond (Nat.beq pc 15) ((1, 6), o_new 4 18) ((0, 0), o_bad)) (cond (Nat.blt pc 19) (cond (Nat.beq pc 18) ((0, 0), o_dup 19) ((0, 0), o_bad)) (cond (Nat.beq pc 19) ((0, 0), o_init 1 4 sp_X4_init 22) ((0, 0), o_bad)))))) (cond (Nat.blt pc 31) (cond (Nat.blt pc 25) (cond (Nat.blt pc 23) (cond (Nat.beq pc 22) ((0, 0), o_astore 1 23) ((0, 0), o_bad)) (cond (Nat.blt pc 24) (cond (Nat.beq pc 23) ((0, 0), o_aload 1 24) ((0, 0), o_bad)) (cond (Nat.beq pc 24) ((0, 0), o_aload 0 25) ((0, 0), o_bad)))) (cond (Nat.blt pc 26) (cond (Nat.beq pc 25) ((0, 0), o_const (0) 26) ((0, 0), o_bad)) (cond (Nat.blt pc 28) (cond (Nat.beq pc 26) ((0, 0), o_const (50) 28) ((0, 0), o_bad)) (cond (Nat.beq pc 28) ((0, 0), o_callV 3 5 sp_X5_nextNumber 31) ((0, 0), o_bad))))) (cond (Nat.blt pc 37) (cond (Nat.blt pc 34) (cond (Nat.beq pc 31) ((0, 0), o_putf 4 0 34) ((0, 0), o_bad)) (cond (Nat.blt pc 35) (cond (Nat.beq pc 34) ((0, 0), o_aload 0 35) ((0, 0), o_bad)) (cond (Nat.beq pc 35) ((0, 0), o_str 0 37) ((0, 0), o_bad)))) (cond (Nat.blt pc 40) (cond (Nat.beq pc 37) ((0, 0), o_callV 2 5 sp_X5_nextMustBe 40) ((0, 0), o_bad)) (cond (Nat.blt pc 41) (cond (Nat.beq pc 40) ((0, 0), o_aload 1 41) ((0, 0), o_bad)) (cond (Nat.beq pc 41) ((0, 0), o_aload 0 42) ((0, 0), o_bad))))))) (cond (Nat.blt pc 65) (cond (Nat.blt pc 55) (cond (Nat.blt pc 48) (cond (Nat.blt pc 43) (cond (Nat.beq pc 42) ((0, 0), o_const (1) 43) ((0, 0), o_bad)) (cond (Nat.blt pc 45) (cond (Nat.beq pc 43) ((0, 0), o_const (60) 45) ((0, 0), o_bad)) (cond (Nat.beq pc 45) ((0, 0), o_callV 3 5 sp_X5_nextNumber 48) ((0, 0), o_bad)))) (cond (Nat.blt pc 51) (cond (Nat.beq pc 48) ((0, 0), o_putf 4 1 51) ((0, 0), o_bad)) (cond (Nat.blt pc 52) (cond (Nat.beq pc 51) ((0, 0), o_aload 0 52) ((0, 0), o_bad)) (cond (Nat.beq pc 52) ((0, 0), o_callV 1 5 sp_X5_next 55) ((0, 0), o_bad))))) (cond (Nat.blt pc 60) (cond (Nat.blt pc 56) (cond (Nat.beq pc 55) ((0, 0), o_aload 0 56) ((0, 0), o_bad)) (cond (Nat.blt pc 57) (cond (Nat.beq pc 56) ((0, 0), o_aload 1 57) ((0, 0), o_bad)) (cond (Nat.beq pc 57) ((0, 0), o_callV 2 5 sp_X5_readFar 60) ((0, 0), o_bad)))) (cond (Nat.blt pc 61) (cond (Nat.beq pc 60) ((0, 0), o_aload 0 61) ((0, 0), o_bad)) (cond (Nat.blt pc 62) (cond (Nat.beq pc 61) ((0, 0), o_aload 1 62) ((0, 0), o_bad)) (cond (Nat.beq pc 62) ((0, 0), o_callV 2 5 sp_X5_readLong 65) ((0, 0), o_bad)))))) (cond (Nat.blt pc 75) (cond (Nat.blt pc 70) (cond (Nat.blt pc 66) (cond (Nat.beq pc 65) ((0, 0), o_aload 0 66) ((0, 0), o_bad)) (cond (Nat.blt pc 67) (cond (Nat.beq pc 66) ((0, 0), o_aload 1 67) ((0, 0), o_bad)) (cond (Nat.beq pc 67) ((0, 0), o_callV 2 5 sp_X5_readNot 70) ((0, 0), o_bad)))) (cond (Nat.blt pc 71) (cond (Nat.beq pc 70) ((0, 0), o_aload 0 71) ((0, 0), o_bad)) (cond (Nat.blt pc 74) (cond (Nat.beq pc 71) ((0, 0), o_getf 5 1 74) ((0, 0), o_bad)) (cond (Nat.beq pc 74) ((0, 0), o_aload 0 75) ((0, 0), o_bad))))) (cond (Nat.blt pc 84) (cond (Nat.blt pc 78) (cond (Nat.beq pc 75) ((0, 0), o_getf 5 0 78) ((0, 0), o_bad)) (cond (Nat.blt pc 81) (cond (Nat.beq pc 78) ((0, 0), o_getf 8 1 81) ((0, 0), o_bad)) (cond (Nat.beq pc 81) ((0, 0), o_icmp (fun x y => y ≤ x) 88 84) ((0, 0), o_bad)))) (cond (Nat.blt pc 88) (cond (Nat.blt pc 85) (cond (Nat.beq pc 84) ((0, 0), o_aload 0 85) ((0, 0), o_bad)) (cond (Nat.beq pc 85) ((0, 0), o_callV 1 5 sp_X5_refuse 88) ((0, 0), o_bad))) (cond (Nat.blt pc 89) (cond (Nat.beq pc 88) ((0, 0), o_aload 1 89) ((0, 0), o_bad)) (cond (Nat.beq pc 89) ((0, 0), o_aret) ((0, 0), o_bad)))))))
set_option maxRecDepth 20000 in
theorem okm_X5_read : HOMs cX5_read RX5 2 (some (.object "VisitHall$Right")) 8 "read" tb_X5_read := fun _ => mnd (mnd (mnd (mnd (mnd (mlf (hom_of (ok_aload_n dX5_read_0 rfl rfl))) (mnd (mlf (hom_of (ok_iconst dX5_read_1 (by decide) rfl))) (mlf (hom_of (ok_putf (C := RX5) (T := TX5) dX5_read_2 rfl rfl (by decide) rfl inX5 tyX5_ok nmX5 rfl rfl (fun _ _ => rfl) wd_122 rfl))))) (mnd (mlf (hom_of (ok_aload_n dX5_read_5 rfl rfl))) (mnd (mlf (hom_of (ok_iconst dX5_read_6 (by decide) rfl))) (mlf (hom_of (ok_putf (C := RX5) (T := TX5) dX5_read_7 rfl rfl (by decide) rfl inX5 tyX5_ok nmX5 rfl rfl (fun _ _ => rfl) wd_123 rfl)))))) (mnd (mnd (mlf (hom_of (ok_aload_n dX5_read_10 rfl rfl))) (mnd (mlf (hom_of (ok_iconst dX5_read_11 (by decide) rfl))) (mlf (hom_of (ok_putf (C := RX5) (T := TX5) dX5_read_12 rfl rfl (by decide) rfl inX5 tyX5_ok nmX5 rfl rfl (fun _ _ => rfl) wd_124 rfl))))) (mnd (mlf (ok_new (C := RX4) (T := TX4) (ty := tyX4) dX5_read_15 rfl rfl (by decide) inX4 tyX4_ok (by decide +kernel) wd_576 wd_577 wd_54 rfl)) (mnd (mlf (hom_of (ok_dup dX5_read_18 rfl))) (mlf (ok_initN (y := yX4_init) (n' := 0) dX5_read_19 ctm_X4_init (by decide) (by decide) wd_580 wd_578 wd_579 wd_54 rfl rfl (by decide +kernel) (by decide) rfl)))))) (mnd (mnd (mnd (mlf (hom_of (ok_astore_n dX5_read_22 rfl (by decide) rfl))) (mnd (mlf (hom_of (ok_aload_n dX5_read_23 rfl rfl))) (mlf (hom_of (ok_aload_n dX5_read_24 rfl rfl))))) (mnd (mlf (hom_of (ok_iconst dX5_read_25 (by decide) rfl))) (mnd (mlf (hom_of (ok_bipush dX5_read_26 (by decide) rfl))) (mlf (hom_of (ok_callV (y := yX5_nextNumber) (n' := 2) (C := RX5) (T := TX5) dX5_read_28 ct_X5_nextNumber (by decide) (by decide) wd_618 wd_615 wd_617 wd_7 wd_44 rfl (by decide +kernel) rfl rfl rfl)))))) (mnd (mnd (mlf (hom_of (ok_putfN (C := RX4) (T := TX4) dX5_read_31 rfl rfl (by decide) rfl inX4 tyX4_ok nmX4 rfl rfl (fun _ _ => rfl) wd_584 rfl))) (mnd (mlf (hom_of (ok_aload_n dX5_read_34 rfl rfl))) (mlf (hom_of (ok_str0 dX5_read_35 rfl))))) (mnd (mlf (hom_of (ok_callV (y := yX5_nextMustBe) (n' := 1) (C := RX5) (T := TX5) dX5_read_37 ct_X5_nextMustBe (by decide) (by decide) wd_643 wd_640 wd_642 wd_11 wd_44 rfl (by decide +kernel) rfl rfl rfl))) (mnd (mlf (hom_of (ok_aload_n dX5_read_40 rfl rfl))) (mlf (hom_of (ok_aload_n dX5_read_41 rfl rfl)))))))) (mnd (mnd (mnd (mnd (mlf (hom_of (ok_iconst dX5_read_42 (by decide) rfl))) (mnd (mlf (hom_of (ok_bipush dX5_read_43 (by decide) rfl))) (mlf (hom_of (ok_callV (y := yX5_nextNumber) (n' := 2) (C := RX5) (T := TX5) dX5_read_45 ct_X5_nextNumber (by decide) (by decide) wd_618 wd_615 wd_617 wd_7 wd_44 rfl (by decide +kernel) rfl rfl rfl))))) (mnd (mlf (hom_of (ok_putfN (C := RX4) (T := TX4) dX5_read_48 rfl rfl (by decide) rfl inX4 tyX4_ok nmX4 rfl rfl (fun _ _ => rfl) wd_586 rfl))) (mnd (mlf (hom_of (ok_aload_n dX5_read_51 rfl rfl))) (mlf (hom_of (ok_callV (y := yX5_next) (n' := 0) (C := RX5) (T := TX5) dX5_read_52 ct_X5_next (by decide) (by decide) wd_622 wd_619 wd_621 wd_8 wd_44 rfl (by decide +kernel) rfl rfl rfl)))))) (mnd (mnd (mlf (hom_of (ok_aload_n dX5_read_55 rfl rfl))) (mnd (mlf (hom_of (ok_aload_n dX5_read_56 rfl rfl))) (mlf (hom_of (ok_callV (y := yX5_readFar) (n' := 1) (C := RX5) (T := TX5) dX5_read_57 ct_X5_readFar (by decide) (by decide) wd_699 wd_696 wd_698 wd_13 wd_44 rfl (by decide +kernel) rfl rfl rfl))))) (mnd (mlf (hom_of (ok_aload_n dX5_read_60 rfl rfl))) (mnd (mlf (hom_of (ok_aload_n dX5_read_61 rfl rfl))) (mlf (hom_of (ok_callV (y := yX5_readLong) (n' := 1) (C := RX5) (T := TX5) dX5_read_62 ct_X5_readLong (by decide) (by decide) wd_705 wd_702 wd_704 wd_14 wd_44 rfl (by decide +kernel) rfl rfl rfl))))))) (mnd (mnd (mnd (mlf (hom_of (ok_aload_n dX5_read_65 rfl rfl))) (mnd (mlf (hom_of (ok_aload_n dX5_read_66 rfl rfl))) (mlf (hom_of (ok_callV (y := yX5_readNot) (n' := 1) (C := RX5) (T := TX5) dX5_read_67 ct_X5_readNot (by decide) (by decide) wd_710 wd_707 wd_709 wd_15 wd_44 rfl (by decide +kernel) rfl rfl rfl))))) (mnd (mlf (hom_of (ok_aload_n dX5_read_70 rfl rfl))) (mnd (mlf (hom_of (ok_getf (C := RX5) (T := TX5) dX5_read_71 rfl rfl (by decide) rfl inX5 wd_122 rfl))) (mlf (hom_of (ok_aload_n dX5_read_74 rfl rfl)))))) (mnd (mnd (mlf (hom_of (ok_getf (C := RX5) (T := TX5) dX5_read_75 rfl rfl (by decide) rfl inX5 wd_121 rfl))) (mnd (mlf (hom_of (ok_getfN (C := RX8) (T := TX8) dX5_read_78 rfl rfl (by decide) rfl inX8 wd_107 rfl))) (mlf (hom_of (ok_icmp_ge dX5_read_81 (by decide) rfl))))) (mnd (mnd (mlf (hom_of (ok_aload_n dX5_read_84 rfl rfl))) (mlf (hom_of (ok_callV (y := yX5_refuse) (n' := 0) (C := RX5) (T := TX5) dX5_read_85 ct_X5_refuse (by decide) (by decide) wd_638 wd_635 wd_637 wd_10 wd_44 rfl (by decide +kernel) rfl rfl rfl)))) (mnd (mlf (hom_of (ok_aload_n dX5_read_88 rfl rfl))) (mlf (hom_of (ok_aret dX5_read_89))))))))
noncomputable def spb_X5_read : HSp := fun as w σ K => wpm tb_X5_read (fun _ => none) K 120 1 6 0 (loc0 2 as) [] w σ
theorem ctb_X5_read : CtrM yX5_read cX5_read 2 (some (.object "VisitHall$Right")) 8 1 6 1 spb_X5_read := ctr_ofM (B := fun _ => none) (by decide +kernel) rfl (by decide) okm_X5_read (fun _ _ h => nomatch h)

set_option maxHeartbeats 2000000 in
theorem vcm_X5_read : ∀ as w σ K, as.length = 1 → sp_X5_read as w σ K → spb_X5_read as w σ K := by
  intro as w σ q hl hs
  unfold sp_X5_read at hs
  split at hs
  rotate_left
  · exact hs.elim
  obtain ⟨z, hz, hsz, hK⟩ := hs
  obtain ⟨i, hi⟩ : ∃ i, i = w.1 34 := ⟨_, rfl⟩
  obtain ⟨n, hn⟩ : ∃ n, n = w.1 4 := ⟨_, rfl⟩
  obtain ⟨T, hT⟩ : ∃ T, T = σ 12 0 := ⟨_, rfl⟩
  rw [← hi, ← hn, ← hT] at hK
  have hT0 : rd0 σ i n 12 0 = T := by
    rw [hT]
    funext j
    exact rd0_o (by omega) (by omega) (by omega)
  have hz0 : rd0 σ i n 8 0 1 = nI z := by rw [rd0_o (by omega) (by omega) (by omega)]; exact hsz
  have hG : Gd n (rd0 σ i n) (rd0 σ i n) 0 (rd0 σ i n 4 n) := ⟨fun _ _ _ _ _ => rfl, rfl, rfl, rfl⟩
  have hend : ∀ σ', ((∃ p, prs T z = .inl p ∧ Bd n (rd0 σ i n) σ' p) ∨ (∃ e F, Gd n (rd0 σ i n) σ' e F ∧ prs T z = .inr (F 0, F 1, F 2, F 3, F 4, F 5))) → q (some (HR 4 n)) (finW 4 (wRaw w 4)) σ' := by
    intro σ' hJ
    have he : ∀ {σ' : HS}, eqC n (rd0 σ i n) σ' → eqD i n σ σ' := fun h k j f h1 h2 h3 => (h k j f h1 h2).trans (rd0_o h1 h2 h3)
    rcases hJ with ⟨p, hp, hB⟩ | ⟨e, F, hF, hp⟩
    · refine hK σ' (he hB.1) ?_
      rw [hp]
      exact ⟨hB.2.2.1, hB.2.1⟩
    · refine hK σ' (he hF.1) ?_
      rw [hp]
      refine ⟨hF.2.1, ?_⟩
      rw [hF.2.2.2]
      exact ⟨rfl, rfl, rfl, rfl, rfl, rfl⟩
  clear hK
  subst hi
  subst hn
  have tail : ∀ (b d : Nat) (σ' : HS), ((∃ p, prs T z = .inl p ∧ Bd (w.1 4) (rd0 σ (w.1 34) (w.1 4)) σ' p) ∨ (∃ e F, e ≤ z ∧ Gd (w.1 4) (rd0 σ (w.1 34) (w.1 4)) σ' (we T z e) F ∧ σ' 5 0 1 = nI (wA T z e) ∧ prs T z = (pFar T z e fun f mo e => pL T z (F 0) (F 1) f mo e) ∧ F 2 = -1000000005 ∧ F 3 = 0 ∧ F 4 = 2 ∧ F 5 = 0)) → wpm tb_X5_read (fun _ => none) q 90 b d 55 [some (HR 5 0), some (HR 4 (w.1 4))] [] (finW 4 (wRaw w 4)) σ' := by
    intro b d σ' hJ
    refine ⟨T, z, prs T z, rd0 σ (w.1 34) (w.1 4), hz, hz0, hT0, hJ, fun σ2 hJ2 => ⟨T, z, prs T z, rd0 σ (w.1 34) (w.1 4), hz, hz0, hT0, hJ2, fun σ3 hJ3 => ⟨T, z, prs T z, rd0 σ (w.1 34) (w.1 4), hz, hz0, hT0, hJ3, fun σ4 hJ4 => ?_⟩⟩⟩
    rcases hJ4 with ⟨p, hR, hB⟩ | ⟨e, F, hez, hG4, h1, hR⟩
    · refine And.intro (fun _ => hend σ4 (Or.inl ⟨p, hR, hB⟩)) (fun _ => ?_)
      exact And.intro (fun h => absurd h hB.nok) (fun _ => hend σ4 (Or.inl ⟨p, hR, hB⟩))
    · have l := we_le (T := T) hez
      unfold pEnd at hR
      apply br2
      · intro h
        have h : σ4 8 0 1 ≤ σ4 5 0 1 := h
        rw [h1, hG4.z hz0] at h
        have h2 := (nI_leI (by omega) (by omega)).mp h
        rw [cif_p (by omega)] at hR
        exact hend σ4 (Or.inr ⟨_, F, hG4, hR⟩)
      · intro h
        have h : ¬ σ4 8 0 1 ≤ σ4 5 0 1 := h
        rw [h1, hG4.z hz0] at h
        have h2 : ¬ z ≤ wA T z e := fun q => h (nI_le q (by omega))
        rw [cif_n (fun c => h2 (Nat.le_of_eq (wE_lt hez c.symm).symm))] at hR
        refine And.intro (fun _ => ?_) (fun h => absurd hG4.2.1 h)
        refine hend _ (Or.inl ⟨_, hR, ?_⟩)
        show Bd (w.1 4) (rd0 σ (w.1 34) (w.1 4)) (up3 σ4 5 0 3 (σ4 5 0 1)) (wA T z e)
        rw [h1]
        refine ⟨fun k j f g1 g2 => ?_, up3_v, by omega, wA T z e, we T z e, l.2.1, by omega, by rw [up3_o (by omega)]; exact h1, by rw [up3_o (by omega)]; exact hG4.2.2.1⟩
        rw [up3_o (by omega)]
        exact hG4.1 k j f g1 g2
  obtain ⟨R, hR⟩ : ∃ R, R = prs T z := ⟨_, rfl⟩
  rw [← hR] at tail
  clear hend
  refine ⟨Or.inl rfl, rfl, Or.inl rfl, rfl, rfl, ⟨rfl, fun h => absurd h (by decide), ⟨⟨⟨⟨⟨⟨trivial, rfl⟩, rfl⟩, rfl⟩, rfl⟩, rfl⟩, rfl⟩⟩, ?_⟩
  have l0 := we_le (T := T) (Nat.zero_le z)
  refine And.intro (fun h => absurd hG.2.1 h) (fun _ => ⟨T, 0, z, hT0, Nat.zero_le z, hz, rfl, hz0, ?_⟩)
  unfold prs pNum at hR
  apply br2
  rotate_left
  · intro hn
    rw [cif_n hn] at hR
    have hB := (hG.bad l0.2.1 (Nat.le_trans l0.2.2 hz)).put 0 0
    refine ⟨by decide, fun _ => ?_, fun h => absurd h hB.nok⟩
    refine And.intro (fun _ => ⟨hB.2.2.2, fun v => ?_⟩) (fun h => absurd h hB.nok)
    have hB2 := hB.put 1 v
    exact And.intro (fun _ => tail _ _ _ (Or.inl ⟨_, hR, hB2⟩)) (fun h => absurd h hB2.nok)
  intro hn
  rw [cif_p hn] at hR
  dsimp only at hR
  have hG2 := (hG.nx (wA T z 0) (we T z 0)).put 0 (num T (wA T z 0) (we T z 0))
  have l1 := we_le (T := T) l0.2.2
  refine ⟨by decide, fun h => absurd hG2.2.1 h, fun _ => ⟨T, we T z 0, z, hG2.T hT0, l0.2.2, hz, hG2.2.2.1, hG2.z hz0, ?_⟩⟩
  unfold pWord at hR
  apply br2
  rotate_left
  · intro hc
    rw [we_n wc_in hc] at hR
    have hB := hG2.bad l1.2.1 (Nat.le_trans l1.2.2 hz)
    refine And.intro (fun _ => ⟨hB.2.2.2, fun v => ?_⟩) (fun h => absurd h hB.nok)
    have hB2 := hB.put 1 v
    exact And.intro (fun _ => tail _ _ _ (Or.inl ⟨_, hR, hB2⟩)) (fun h => absurd h hB2.nok)
  intro hc
  rw [we_c wc_in hc] at hR
  dsimp only at hR
  have hG3 := hG2.nx (wA T z (we T z 0)) (we T z (we T z 0))
  have l2 := we_le (T := T) l1.2.2
  refine And.intro (fun h => absurd hG3.2.1 h) (fun _ => ⟨T, we T z (we T z 0), z, hG3.T hT0, l1.2.2, hz, hG3.2.2.1, hG3.z hz0, ?_⟩)
  apply br2
  rotate_left
  · intro hn2
    rw [cif_n hn2] at hR
    have hB := (hG3.bad l2.2.1 (Nat.le_trans l2.2.2 hz)).put 1 1
    exact And.intro (fun _ => tail _ _ _ (Or.inl ⟨_, hR, hB⟩)) (fun h => absurd h hB.nok)
  intro hn2
  rw [cif_p hn2] at hR
  have hG4 := (hG3.nx (wA T z (we T z (we T z 0))) (we T z (we T z (we T z 0)))).put 1 (num T (wA T z (we T z (we T z 0))) (we T z (we T z (we T z 0))))
  refine And.intro (fun h => absurd hG4.2.1 h) (fun _ => ⟨T, _, z, hG4.T hT0, l2.2.2, hz, hG4.2.2.1, hG4.z hz0, ?_⟩)
  exact tail _ _ _ (Or.inr ⟨_, _, l2.2.2, hG4.nx _ _, nx_1, hR, (rd0_r (f := 2)).trans rfl, (rd0_r (f := 3)).trans rfl, (rd0_r (f := 4)).trans rfl, (rd0_r (f := 5)).trans rfl⟩)
theorem ctm_X5_read : CtrM yX5_read cX5_read 2 (some (.object "VisitHall$Right")) 8 1 6 1 sp_X5_read := ctb_X5_read.of vcm_X5_read

