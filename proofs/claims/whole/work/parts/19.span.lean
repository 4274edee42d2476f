/-! VisitHall.Gate, 2: visits in a span of days -/
abbrev tyP (σ : HS) (v m i f : Nat) : Prop := σ 9 i 6 = 0 ∧ σ 9 i 5 = 0 ∧ σ 9 i 0 = σ 9 v 0 ∧ σ 9 i 2 - (σ 9 v 2 - nI m + 1) = nI f ∧ f < 2 * m - 1
def tyS (σ : HS) (v m n : Nat) : HS := fun k i f => if k = 13 ∧ i = 3 ∧ f < 119 then nI (cnt (fun j => decide (tyP σ v m j f)) n) else σ k i f
def sp_X1_tallyAround : HSp := fun as w σ K => match as with
  | [.inr (.inl (1, some 0)), .inr (.inl (9, some v)), .inl x] => ∃ n m, Bk w σ n ∧ 1 ≤ m ∧ m ≤ 60 ∧ x = nI m ∧ K none w (tyS σ v m n)
  | _ => False
theorem tyS_o {σ : HS} {v m n k i f : Nat} (h : k ≠ 13) : tyS σ v m n k i f = σ k i f := by simp [tyS, h]
theorem tyS_0 (σ : HS) (v m : Nat) : fiS σ 13 3 119 0 = tyS σ v m 0 := by
  funext a b c
  simp only [fiS, tyS, cnt, nI_0]
theorem tyS_n {σ : HS} {v m i : Nat} (h : ∀ f, ¬ tyP σ v m i f) : tyS σ v m i = tyS σ v m (i + 1) := by
  funext a b c
  simp only [tyS]
  rw [cnt_n (decide_eq_false (h c))]
theorem tyS_y {σ : HS} {v m i f : Nat} (h : tyP σ v m i f) (hm : m ≤ 60) : up3 (tyS σ v m i) 13 3 f (tyS σ v m i 13 3 f + 1) = tyS σ v m (i + 1) := by
  have hf : f < 119 := by omega
  funext a b c
  by_cases e : a = 13 ∧ b = 3 ∧ c = f
  · obtain ⟨rfl, rfl, rfl⟩ := e
    simp only [up3, tyS, and_self, if_true, hf]
    rw [cnt_y (decide_eq_true h)]
    exact nI_1 _
  · rw [up3_o e]
    simp only [tyS]
    by_cases q : a = 13 ∧ b = 3 ∧ c < 119
    · have hz : ¬ tyP σ v m i c := fun z => e ⟨q.1, q.2.1, nI_inj (z.2.2.2.1.symm.trans h.2.2.2.1)⟩
      rw [if_pos q, if_pos q, cnt_n (decide_eq_false hz)]
    · rw [if_neg q, if_neg q]
theorem two_m (m : Nat) (h : 1 ≤ m) : 2 * nI m - 1 = nI (2 * m - 1) := by
  rw [show (2 : Int32) = nI 2 from rfl, pk_mul, show (1 : Int32) = nI 1 from rfl, pk_sub (by omega)]
theorem dX1_tallyAround_0 : decode cX1_tallyAround 0 = .ok (.aload_n 0, 1) := by decide +kernel
theorem dX1_tallyAround_1 : decode cX1_tallyAround 1 = .ok (.getfield 17, 3) := by decide +kernel
theorem dX1_tallyAround_4 : decode cX1_tallyAround 4 = .ok (.iconst 0, 1) := by decide +kernel
theorem dX1_tallyAround_5 : decode cX1_tallyAround 5 = .ok (.invokestatic 165, 3) := by decide +kernel
theorem dX1_tallyAround_8 : decode cX1_tallyAround 8 = .ok (.aload_n 1, 1) := by decide +kernel
theorem dX1_tallyAround_9 : decode cX1_tallyAround 9 = .ok (.getfield 89, 3) := by decide +kernel
theorem dX1_tallyAround_12 : decode cX1_tallyAround 12 = .ok (.iload_n 2, 1) := by decide +kernel
theorem dX1_tallyAround_13 : decode cX1_tallyAround 13 = .ok (.isub, 1) := by decide +kernel
theorem dX1_tallyAround_14 : decode cX1_tallyAround 14 = .ok (.iconst 1, 1) := by decide +kernel
theorem dX1_tallyAround_15 : decode cX1_tallyAround 15 = .ok (.iadd, 1) := by decide +kernel
theorem dX1_tallyAround_16 : decode cX1_tallyAround 16 = .ok (.istore_n 3, 1) := by decide +kernel
theorem dX1_tallyAround_17 : decode cX1_tallyAround 17 = .ok (.iconst 0, 1) := by decide +kernel
theorem dX1_tallyAround_18 : decode cX1_tallyAround 18 = .ok (.istore 4, 2) := by decide +kernel
theorem dX1_tallyAround_20 : decode cX1_tallyAround 20 = .ok (.iload 4, 2) := by decide +kernel
theorem dX1_tallyAround_22 : decode cX1_tallyAround 22 = .ok (.aload_n 0, 1) := by decide +kernel
theorem dX1_tallyAround_23 : decode cX1_tallyAround 23 = .ok (.getfield 29, 3) := by decide +kernel
theorem dX1_tallyAround_26 : decode cX1_tallyAround 26 = .ok (.getfield 82, 3) := by decide +kernel
theorem dX1_tallyAround_29 : decode cX1_tallyAround 29 = .ok (.if_icmp .ge 82, 3) := by decide +kernel
theorem dX1_tallyAround_32 : decode cX1_tallyAround 32 = .ok (.aload_n 0, 1) := by decide +kernel
theorem dX1_tallyAround_33 : decode cX1_tallyAround 33 = .ok (.getfield 29, 3) := by decide +kernel
theorem dX1_tallyAround_36 : decode cX1_tallyAround 36 = .ok (.getfield 85, 3) := by decide +kernel
theorem dX1_tallyAround_39 : decode cX1_tallyAround 39 = .ok (.iload 4, 2) := by decide +kernel
theorem dX1_tallyAround_41 : decode cX1_tallyAround 41 = .ok (.aaload, 1) := by decide +kernel
theorem dX1_tallyAround_42 : decode cX1_tallyAround 42 = .ok (.astore 5, 2) := by decide +kernel
theorem dX1_tallyAround_44 : decode cX1_tallyAround 44 = .ok (.aload 5, 2) := by decide +kernel
theorem dX1_tallyAround_46 : decode cX1_tallyAround 46 = .ok (.getfield 89, 3) := by decide +kernel
theorem dX1_tallyAround_49 : decode cX1_tallyAround 49 = .ok (.iload_n 3, 1) := by decide +kernel
theorem dX1_tallyAround_50 : decode cX1_tallyAround 50 = .ok (.isub, 1) := by decide +kernel
theorem dX1_tallyAround_51 : decode cX1_tallyAround 51 = .ok (.istore 6, 2) := by decide +kernel
theorem dX1_tallyAround_53 : decode cX1_tallyAround 53 = .ok (.aload 5, 2) := by decide +kernel
theorem dX1_tallyAround_55 : decode cX1_tallyAround 55 = .ok (.getfield 79, 3) := by decide +kernel
theorem dX1_tallyAround_58 : decode cX1_tallyAround 58 = .ok (.ifCond .ne 47, 3) := by decide +kernel
theorem dX1_tallyAround_61 : decode cX1_tallyAround 61 = .ok (.aload 5, 2) := by decide +kernel
theorem dX1_tallyAround_63 : decode cX1_tallyAround 63 = .ok (.getfield 55, 3) := by decide +kernel
theorem dX1_tallyAround_66 : decode cX1_tallyAround 66 = .ok (.ifCond .ne 39, 3) := by decide +kernel
theorem dX1_tallyAround_69 : decode cX1_tallyAround 69 = .ok (.aload 5, 2) := by decide +kernel
theorem dX1_tallyAround_71 : decode cX1_tallyAround 71 = .ok (.getfield 102, 3) := by decide +kernel
theorem dX1_tallyAround_74 : decode cX1_tallyAround 74 = .ok (.aload_n 1, 1) := by decide +kernel
theorem dX1_tallyAround_75 : decode cX1_tallyAround 75 = .ok (.getfield 102, 3) := by decide +kernel
theorem dX1_tallyAround_78 : decode cX1_tallyAround 78 = .ok (.if_icmp .ne 27, 3) := by decide +kernel
theorem dX1_tallyAround_81 : decode cX1_tallyAround 81 = .ok (.iload 6, 2) := by decide +kernel
theorem dX1_tallyAround_83 : decode cX1_tallyAround 83 = .ok (.iconst 2, 1) := by decide +kernel
theorem dX1_tallyAround_84 : decode cX1_tallyAround 84 = .ok (.iload_n 2, 1) := by decide +kernel
theorem dX1_tallyAround_85 : decode cX1_tallyAround 85 = .ok (.imul, 1) := by decide +kernel
theorem dX1_tallyAround_86 : decode cX1_tallyAround 86 = .ok (.iconst 1, 1) := by decide +kernel
theorem dX1_tallyAround_87 : decode cX1_tallyAround 87 = .ok (.isub, 1) := by decide +kernel
theorem dX1_tallyAround_88 : decode cX1_tallyAround 88 = .ok (.invokestatic 47, 3) := by decide +kernel
theorem dX1_tallyAround_91 : decode cX1_tallyAround 91 = .ok (.ifCond .eq 14, 3) := by decide +kernel
theorem dX1_tallyAround_94 : decode cX1_tallyAround 94 = .ok (.aload_n 0, 1) := by decide +kernel
theorem dX1_tallyAround_95 : decode cX1_tallyAround 95 = .ok (.getfield 17, 3) := by decide +kernel
theorem dX1_tallyAround_98 : decode cX1_tallyAround 98 = .ok (.iload 6, 2) := by decide +kernel
theorem dX1_tallyAround_100 : decode cX1_tallyAround 100 = .ok (.dup2, 1) := by decide +kernel
theorem dX1_tallyAround_101 : decode cX1_tallyAround 101 = .ok (.iaload, 1) := by decide +kernel
theorem dX1_tallyAround_102 : decode cX1_tallyAround 102 = .ok (.iconst 1, 1) := by decide +kernel
theorem dX1_tallyAround_103 : decode cX1_tallyAround 103 = .ok (.iadd, 1) := by decide +kernel
theorem dX1_tallyAround_104 : decode cX1_tallyAround 104 = .ok (.iastore, 1) := by decide +kernel
theorem dX1_tallyAround_105 : decode cX1_tallyAround 105 = .ok (.iinc 4 1, 3) := by decide +kernel
theorem dX1_tallyAround_108 : decode cX1_tallyAround 108 = .ok (.goto (-88), 3) := by decide +kernel
theorem dX1_tallyAround_111 : decode cX1_tallyAround 111 = .ok (.return_, 1) := by decide +kernel
def ins_X1_tallyAround (pc : Nat) : HOp := cond (Nat.blt pc 53) (cond (Nat.blt pc 22) (cond (Nat.blt pc 13) (cond (Nat.blt pc 5) (cond (Nat.blt pc 1) (cond (Nat.beq pc 0) (o_aload 0 1) o_bad) (cond (Nat.blt pc 4) (cond (Nat.beq pc 1) (o_getf 1 5 4) o_bad) (cond (Nat.beq pc 4) (o_const (0) 5) o_bad))) (cond (Nat.blt pc 9) (cond (Nat.blt pc 8) (cond (Nat.beq pc 5) (o_callS 2 sp_J7_fill_53178 8) o_bad) (cond (Nat.beq pc 8) (o_aload 1 9) o_bad)) (cond (Nat.blt pc 12) (cond (Nat.beq pc 9) (o_getf 9 2 12) o_bad) (cond (Nat.beq pc 12) (o_iload 2 13) o_bad)))) (cond (Nat.blt pc 16) (cond (Nat.blt pc 14) (cond (Nat.beq pc 13) (o_bin (fun x y => x - y) 14) o_bad) (cond (Nat.blt pc 15) (cond (Nat.beq pc 14) (o_const (1) 15) o_bad) (cond (Nat.beq pc 15) (o_bin (fun x y => x + y) 16) o_bad))) (cond (Nat.blt pc 18) (cond (Nat.blt pc 17) (cond (Nat.beq pc 16) (o_istore 3 17) o_bad) (cond (Nat.beq pc 17) (o_const (0) 18) o_bad)) (cond (Nat.blt pc 20) (cond (Nat.beq pc 18) (o_istore 4 20) o_bad) (cond (Nat.beq pc 20) (o_iload 4 22) o_bad))))) (cond (Nat.blt pc 39) (cond (Nat.blt pc 29) (cond (Nat.blt pc 23) (cond (Nat.beq pc 22) (o_aload 0 23) o_bad) (cond (Nat.blt pc 26) (cond (Nat.beq pc 23) (o_getf 1 2 26) o_bad) (cond (Nat.beq pc 26) (o_getf 0 1 29) o_bad))) (cond (Nat.blt pc 33) (cond (Nat.blt pc 32) (cond (Nat.beq pc 29) (o_icmp (fun x y => y ≤ x) 111 32) o_bad) (cond (Nat.beq pc 32) (o_aload 0 33) o_bad)) (cond (Nat.blt pc 36) (cond (Nat.beq pc 33) (o_getf 1 2 36) o_bad) (cond (Nat.beq pc 36) (o_getf 0 0 39) o_bad)))) (cond (Nat.blt pc 46) (cond (Nat.blt pc 42) (cond (Nat.blt pc 41) (cond (Nat.beq pc 39) (o_iload 4 41) o_bad) (cond (Nat.beq pc 41) (o_aald 42) o_bad)) (cond (Nat.blt pc 44) (cond (Nat.beq pc 42) (o_astore 5 44) o_bad) (cond (Nat.beq pc 44) (o_aload 5 46) o_bad))) (cond (Nat.blt pc 50) (cond (Nat.blt pc 49) (cond (Nat.beq pc 46) (o_getf 9 2 49) o_bad) (cond (Nat.beq pc 49) (o_iload 3 50) o_bad)) (cond (Nat.blt pc 51) (cond (Nat.beq pc 50) (o_bin (fun x y => x - y) 51) o_bad) (cond (Nat.beq pc 51) (o_istore 6 53) o_bad)))))) (cond (Nat.blt pc 86) (cond (Nat.blt pc 71) (cond (Nat.blt pc 61) (cond (Nat.blt pc 55) (cond (Nat.beq pc 53) (o_aload 5 55) o_bad) (cond (Nat.blt pc 58) (cond (Nat.beq pc 55) (o_getf 9 6 58) o_bad) (cond (Nat.beq pc 58) (o_if (fun x => x = 0) 61 105) o_bad))) (cond (Nat.blt pc 66) (cond (Nat.blt pc 63) (cond (Nat.beq pc 61) (o_aload 5 63) o_bad) (cond (Nat.beq pc 63) (o_getf 9 5 66) o_bad)) (cond (Nat.blt pc 69) (cond (Nat.beq pc 66) (o_if (fun x => x = 0) 69 105) o_bad) (cond (Nat.beq pc 69) (o_aload 5 71) o_bad)))) (cond (Nat.blt pc 81) (cond (Nat.blt pc 75) (cond (Nat.blt pc 74) (cond (Nat.beq pc 71) (o_getf 9 0 74) o_bad) (cond (Nat.beq pc 74) (o_aload 1 75) o_bad)) (cond (Nat.blt pc 78) (cond (Nat.beq pc 75) (o_getf 9 0 78) o_bad) (cond (Nat.beq pc 78) (o_icmp (fun x y => x = y) 81 105) o_bad))) (cond (Nat.blt pc 84) (cond (Nat.blt pc 83) (cond (Nat.beq pc 81) (o_iload 6 83) o_bad) (cond (Nat.beq pc 83) (o_const (2) 84) o_bad)) (cond (Nat.blt pc 85) (cond (Nat.beq pc 84) (o_iload 2 85) o_bad) (cond (Nat.beq pc 85) (o_bin (fun x y => x * y) 86) o_bad))))) (cond (Nat.blt pc 100) (cond (Nat.blt pc 91) (cond (Nat.blt pc 87) (cond (Nat.beq pc 86) (o_const (1) 87) o_bad) (cond (Nat.blt pc 88) (cond (Nat.beq pc 87) (o_bin (fun x y => x - y) 88) o_bad) (cond (Nat.beq pc 88) (o_callS 2 sp_X10_isBelow 91) o_bad))) (cond (Nat.blt pc 95) (cond (Nat.blt pc 94) (cond (Nat.beq pc 91) (o_if (fun x => x = 0) 105 94) o_bad) (cond (Nat.beq pc 94) (o_aload 0 95) o_bad)) (cond (Nat.blt pc 98) (cond (Nat.beq pc 95) (o_getf 1 5 98) o_bad) (cond (Nat.beq pc 98) (o_iload 6 100) o_bad)))) (cond (Nat.blt pc 104) (cond (Nat.blt pc 102) (cond (Nat.blt pc 101) (cond (Nat.beq pc 100) (o_dup2 101) o_bad) (cond (Nat.beq pc 101) (o_iald 102) o_bad)) (cond (Nat.blt pc 103) (cond (Nat.beq pc 102) (o_const (1) 103) o_bad) (cond (Nat.beq pc 103) (o_bin (fun x y => x + y) 104) o_bad))) (cond (Nat.blt pc 108) (cond (Nat.blt pc 105) (cond (Nat.beq pc 104) (o_iast 105) o_bad) (cond (Nat.beq pc 105) (o_iinc 4 (1) 108) o_bad)) (cond (Nat.blt pc 111) (cond (Nat.beq pc 108) (o_goto 20) o_bad) (cond (Nat.beq pc 111) (o_vret) o_bad))))))
set_option maxRecDepth 20000 in
theorem ok_X1_tallyAround : HOKs cX1_tallyAround RX1 7 none 2 ins_X1_tallyAround := fun _ => hnd (hnd (hnd (hnd (hnd (hlf (ok_aload_n dX1_tallyAround_0 rfl rfl)) (hnd (hlf (ok_getf (C := RX1) (T := TX1) dX1_tallyAround_1 rfl rfl (by decide) rfl inX1 wd_191 rfl)) (hlf (ok_iconst dX1_tallyAround_4 (by decide) rfl)))) (hnd (hnd (hlf (ok_callS (y := yJ7_fill_53178) dX1_tallyAround_5 ct_J7_fill_53178 (by decide) (by decide) wd_333 wd_459 wd_332 wd_52 (by decide +kernel) rfl)) (hlf (ok_aload_n dX1_tallyAround_8 rfl rfl))) (hnd (hlf (ok_getfN (C := RX9) (T := TX9) dX1_tallyAround_9 rfl rfl (by decide) rfl inX9 wd_246 rfl)) (hlf (ok_iload_n dX1_tallyAround_12 rfl rfl))))) (hnd (hnd (hlf (ok_isub dX1_tallyAround_13 rfl)) (hnd (hlf (ok_iconst dX1_tallyAround_14 (by decide) rfl)) (hlf (ok_iadd dX1_tallyAround_15 rfl)))) (hnd (hnd (hlf (ok_istore_n dX1_tallyAround_16 rfl (by decide) rfl)) (hlf (ok_iconst dX1_tallyAround_17 (by decide) rfl))) (hnd (hlf (ok_istore dX1_tallyAround_18 (by decide) rfl)) (hlf (ok_iload dX1_tallyAround_20 rfl)))))) (hnd (hnd (hnd (hlf (ok_aload_n dX1_tallyAround_22 rfl rfl)) (hnd (hlf (ok_getf (C := RX1) (T := TX1) dX1_tallyAround_23 rfl rfl (by decide) rfl inX1 wd_187 rfl)) (hlf (ok_getfN (C := RX0) (T := TX0) dX1_tallyAround_26 rfl rfl (by decide) rfl inX0 wd_150 rfl)))) (hnd (hnd (hlf (ok_icmp_ge dX1_tallyAround_29 (by decide) rfl)) (hlf (ok_aload_n dX1_tallyAround_32 rfl rfl))) (hnd (hlf (ok_getf (C := RX1) (T := TX1) dX1_tallyAround_33 rfl rfl (by decide) rfl inX1 wd_187 rfl)) (hlf (ok_getfN (C := RX0) (T := TX0) dX1_tallyAround_36 rfl rfl (by decide) rfl inX0 wd_147 rfl))))) (hnd (hnd (hnd (hlf (ok_iload dX1_tallyAround_39 rfl)) (hlf (ok_aald dX1_tallyAround_41 rfl))) (hnd (hlf (ok_astore dX1_tallyAround_42 (by decide) rfl)) (hlf (ok_aload dX1_tallyAround_44 rfl)))) (hnd (hnd (hlf (ok_getfN (C := RX9) (T := TX9) dX1_tallyAround_46 rfl rfl (by decide) rfl inX9 wd_246 rfl)) (hlf (ok_iload_n dX1_tallyAround_49 rfl rfl))) (hnd (hlf (ok_isub dX1_tallyAround_50 rfl)) (hlf (ok_istore dX1_tallyAround_51 (by decide) rfl))))))) (hnd (hnd (hnd (hnd (hlf (ok_aload dX1_tallyAround_53 rfl)) (hnd (hlf (ok_getfN (C := RX9) (T := TX9) dX1_tallyAround_55 rfl rfl (by decide) rfl inX9 wd_262 rfl)) (hlf (ok_if_ne dX1_tallyAround_58 (by decide) rfl)))) (hnd (hnd (hlf (ok_aload dX1_tallyAround_61 rfl)) (hlf (ok_getfN (C := RX9) (T := TX9) dX1_tallyAround_63 rfl rfl (by decide) rfl inX9 wd_257 rfl))) (hnd (hlf (ok_if_ne dX1_tallyAround_66 (by decide) rfl)) (hlf (ok_aload dX1_tallyAround_69 rfl))))) (hnd (hnd (hnd (hlf (ok_getfN (C := RX9) (T := TX9) dX1_tallyAround_71 rfl rfl (by decide) rfl inX9 wd_235 rfl)) (hlf (ok_aload_n dX1_tallyAround_74 rfl rfl))) (hnd (hlf (ok_getfN (C := RX9) (T := TX9) dX1_tallyAround_75 rfl rfl (by decide) rfl inX9 wd_235 rfl)) (hlf (ok_icmp_ne dX1_tallyAround_78 (by decide) rfl)))) (hnd (hnd (hlf (ok_iload dX1_tallyAround_81 rfl)) (hlf (ok_iconst dX1_tallyAround_83 (by decide) rfl))) (hnd (hlf (ok_iload_n dX1_tallyAround_84 rfl rfl)) (hlf (ok_imul dX1_tallyAround_85 rfl)))))) (hnd (hnd (hnd (hlf (ok_iconst dX1_tallyAround_86 (by decide) rfl)) (hnd (hlf (ok_isub dX1_tallyAround_87 rfl)) (hlf (ok_callSN (y := yX10_isBelow) dX1_tallyAround_88 ct_X10_isBelow (by decide) (by decide) wd_319 wd_441 wd_318 wd_41 (by decide +kernel) rfl)))) (hnd (hnd (hlf (ok_if_eq dX1_tallyAround_91 (by decide) rfl)) (hlf (ok_aload_n dX1_tallyAround_94 rfl rfl))) (hnd (hlf (ok_getf (C := RX1) (T := TX1) dX1_tallyAround_95 rfl rfl (by decide) rfl inX1 wd_191 rfl)) (hlf (ok_iload dX1_tallyAround_98 rfl))))) (hnd (hnd (hnd (hlf (ok_dup2 dX1_tallyAround_100 rfl)) (hlf (ok_iald dX1_tallyAround_101 rfl))) (hnd (hlf (ok_iconst dX1_tallyAround_102 (by decide) rfl)) (hlf (ok_iadd dX1_tallyAround_103 rfl)))) (hnd (hnd (hlf (ok_iast dX1_tallyAround_104 rfl)) (hlf (ok_iinc dX1_tallyAround_105 (by decide) (by decide) rfl))) (hnd (hlf (ok_goto dX1_tallyAround_108 (by decide))) (hlf (ok_vret dX1_tallyAround_111)))))))

theorem vc_X1_tallyAround : MVC ins_X1_tallyAround 7 3 sp_X1_tallyAround := by
  refine mvc1 20 70 fun as w σ q hl hs => ?_
  unfold sp_X1_tallyAround at hs
  split at hs
  rotate_left
  · exact hs.elim
  rename_i v x
  obtain ⟨n, m, ⟨hn, hsz, hra⟩, hm1, hm2, rfl, hq⟩ := hs
  refine ⟨fun N ls st w' σ' => ∃ (i : Nat) (u : Int32) (x y : Option HV), i ≤ n ∧ N = n - i ∧ u = nI i ∧ ls = [some (HR 1 0), some (HR 9 v), some (HI (nI m)), some (HI (σ 9 v 2 - nI m + 1)), some (HI u), x, y] ∧ st = [] ∧ w = w' ∧ σ' = tyS σ v m i, ?_, ?_⟩
  · rintro N ls st w' σ' ⟨i, u, x, y, hi, rfl, rfl, rfl, rfl, rfl, rfl⟩
    have e1 : tyS σ v m i 0 0 1 = nI n := by rw [tyS_o (by decide)]; exact hsz
    have e9 : ∀ j f, tyS σ v m i 9 j f = σ 9 j f := fun j f => tyS_o (by decide)
    apply br2
    · intro h1
      obtain rfl := lp_end e1 hi h1
      exact hq
    · intro h1
      have hlt := lp_go e1 hi h1
      refine And.intro (vp_in_nI (N := 100) (by omega) (by decide)) (fun o ho => ?_)
      obtain rfl := ra_at ho (hra i hlt)
      have no : (∀ f, ¬ tyP σ v m i f) → ∃ N', N' < n - i ∧ ∃ (i' : Nat) (u : Int32) (x y : Option HV), i' ≤ n ∧ N' = n - i' ∧ u = nI i' ∧ [some (HR 1 0), some (HR 9 v), some (HI (nI m)), some (HI (σ 9 v 2 - nI m + 1)), some (HI (nI i + 1)), some (HR 9 i), some (HI (tyS σ v m i 9 i 2 - (σ 9 v 2 - nI m + 1)))] = [some (HR 1 0), some (HR 9 v), some (HI (nI m)), some (HI (σ 9 v 2 - nI m + 1)), some (HI u), x, y] ∧ ([] : List HV) = [] ∧ w = w ∧ tyS σ v m i = tyS σ v m i' := fun h =>
        ⟨n - (i + 1), by omega, i + 1, _, _, _, hlt, rfl, nI_1 i, rfl, rfl, rfl, tyS_n h⟩
      apply br2
      rotate_left
      · intro h2
        exact no fun f h => h2 (by show tyS σ v m i 9 i 6 = 0; rw [e9]; exact h.1)
      intro h2
      apply br2
      rotate_left
      · intro h3
        exact no fun f h => h3 (by show tyS σ v m i 9 i 5 = 0; rw [e9]; exact h.2.1)
      intro h3
      apply br2
      rotate_left
      · intro h4
        exact no fun f h => h4 (by show tyS σ v m i 9 i 0 = tyS σ v m i 9 v 0; rw [e9, e9]; exact h.2.2.1)
      intro h4
      have h2 : tyS σ v m i 9 i 6 = 0 := h2
      have h3 : tyS σ v m i 9 i 5 = 0 := h3
      have h4 : tyS σ v m i 9 i 0 = tyS σ v m i 9 v 0 := h4
      rw [e9] at h2 h3
      rw [e9, e9] at h4
      apply br2
      · intro h5
        have h5 : 0 ≤ tyS σ v m i 9 i 2 - (σ 9 v 2 - nI m + 1) ∧ tyS σ v m i 9 i 2 - (σ 9 v 2 - nI m + 1) < 2 * nI m - 1 := h5
        rw [two_m m hm1] at h5
        obtain ⟨j, hj, ej⟩ := in_of h5
        have hy : tyP σ v m i j := ⟨h2, h3, h4, by rw [← e9 i 2]; exact ej, hj⟩
        refine And.intro (fun h => absurd h (by decide)) (fun _ => ?_)
        have ec : (tyS σ v m i 9 i 2 - (σ 9 v 2 - nI m + 1)).toNatClampNeg = j := by rw [ej]; exact nI_clamp (by omega)
        have hin : vp_in (tyS σ v m i 9 i 2 - (σ 9 v 2 - nI m + 1)) 119 := by rw [ej]; exact vp_in_nI (by omega) (by decide)
        refine And.intro hin (And.intro hin ?_)
        refine ⟨n - (i + 1), by omega, i + 1, _, _, _, hlt, rfl, nI_1 i, rfl, rfl, rfl, ?_⟩
        rw [ec]
        exact tyS_y hy hm2
      · intro h5
        refine And.intro (fun _ => no fun f h => h5 ?_) (fun h => absurd rfl h)
        show 0 ≤ tyS σ v m i 9 i 2 - (σ 9 v 2 - nI m + 1) ∧ tyS σ v m i 9 i 2 - (σ 9 v 2 - nI m + 1) < 2 * nI m - 1
        rw [e9, h.2.2.2.1, two_m m hm1]
        exact ⟨nI_pos' (by omega), nI_lt h.2.2.2.2 (by omega)⟩
  · exact ⟨n, 0, 0, none, none, Nat.zero_le _, rfl, rfl, rfl, rfl, rfl, tyS_0 σ v m⟩
theorem ct_X1_tallyAround : Ctr yX1_tallyAround cX1_tallyAround 7 none 2 0 0 3 sp_X1_tallyAround := ctr_of (by decide +kernel) rfl (by decide) ok_X1_tallyAround vc_X1_tallyAround

def eqT (σ σ' : HS) : Prop := ∀ k i f, ¬ (k = 13 ∧ i = 3) → σ' k i f = σ k i f
theorem eqT_ty (σ : HS) (v m n : Nat) : eqT σ (tyS σ v m n) := fun k i f h => by
  simp only [tyS]
  rw [if_neg fun q => h ⟨q.1, q.2.1⟩]
/-- visits of a span that begins at place k -/
def winC (σ : HS) (v m n k : Nat) : Nat := sm (fun j => cnt (fun i => decide (tyP σ v m i (k + j))) n) m
def mostP (σ : HS) (v m n M : Nat) : Prop := (∀ k, k < m → winC σ v m n k ≤ M) ∧ ∃ k, k < m ∧ winC σ v m n k = M
theorem sm_shift (f : Nat → Nat) (k : Nat) : ∀ m, sm (fun j => f (k + 1 + j)) m + f k = sm (fun j => f (k + j)) m + f (k + m)
  | 0 => by simp [sm]
  | m + 1 => by
    have h := sm_shift f k m
    simp only [sm]
    have e : k + 1 + m = k + (m + 1) := by omega
    rw [e]
    omega
theorem sm_le {f : Nat → Nat} {c : Nat} (h : ∀ j, f j ≤ c) : ∀ m, sm f m ≤ m * c
  | 0 => by simp [sm]
  | m + 1 => by
    have h1 := sm_le h m
    have h2 := h m
    simp only [sm, Nat.succ_mul]
    omega
def sp_X1_mostInSpan : HSp := fun as w σ K => match as with
  | [.inr (.inl (1, some 0)), .inr (.inl (9, some v)), .inl x] => ∃ n m, Bk w σ n ∧ 1 ≤ m ∧ m ≤ 60 ∧ x = nI m ∧ ∀ σ' M, eqT σ σ' → mostP σ v m n M → M ≤ 6000 → K (some (HI (nI M))) w σ'
  | _ => False
theorem dX1_mostInSpan_0 : decode cX1_mostInSpan 0 = .ok (.iload_n 2, 1) := by decide +kernel
theorem dX1_mostInSpan_1 : decode cX1_mostInSpan 1 = .ok (.iconst 1, 1) := by decide +kernel
theorem dX1_mostInSpan_2 : decode cX1_mostInSpan 2 = .ok (.if_icmp .lt 9, 3) := by decide +kernel
theorem dX1_mostInSpan_5 : decode cX1_mostInSpan 5 = .ok (.iload_n 2, 1) := by decide +kernel
theorem dX1_mostInSpan_6 : decode cX1_mostInSpan 6 = .ok (.bipush 60, 2) := by decide +kernel
theorem dX1_mostInSpan_8 : decode cX1_mostInSpan 8 = .ok (.if_icmp .le 5, 3) := by decide +kernel
theorem dX1_mostInSpan_11 : decode cX1_mostInSpan 11 = .ok (.iconst 0, 1) := by decide +kernel
theorem dX1_mostInSpan_12 : decode cX1_mostInSpan 12 = .ok (.ireturn, 1) := by decide +kernel
theorem dX1_mostInSpan_13 : decode cX1_mostInSpan 13 = .ok (.aload_n 0, 1) := by decide +kernel
theorem dX1_mostInSpan_14 : decode cX1_mostInSpan 14 = .ok (.aload_n 1, 1) := by decide +kernel
theorem dX1_mostInSpan_15 : decode cX1_mostInSpan 15 = .ok (.iload_n 2, 1) := by decide +kernel
theorem dX1_mostInSpan_16 : decode cX1_mostInSpan 16 = .ok (.invokevirtual 155, 3) := by decide +kernel
theorem dX1_mostInSpan_19 : decode cX1_mostInSpan 19 = .ok (.iconst 0, 1) := by decide +kernel
theorem dX1_mostInSpan_20 : decode cX1_mostInSpan 20 = .ok (.istore_n 3, 1) := by decide +kernel
theorem dX1_mostInSpan_21 : decode cX1_mostInSpan 21 = .ok (.iconst 0, 1) := by decide +kernel
theorem dX1_mostInSpan_22 : decode cX1_mostInSpan 22 = .ok (.istore 4, 2) := by decide +kernel
theorem dX1_mostInSpan_24 : decode cX1_mostInSpan 24 = .ok (.iload 4, 2) := by decide +kernel
theorem dX1_mostInSpan_26 : decode cX1_mostInSpan 26 = .ok (.iload_n 2, 1) := by decide +kernel
theorem dX1_mostInSpan_27 : decode cX1_mostInSpan 27 = .ok (.if_icmp .ge 19, 3) := by decide +kernel
theorem dX1_mostInSpan_30 : decode cX1_mostInSpan 30 = .ok (.iload_n 3, 1) := by decide +kernel
theorem dX1_mostInSpan_31 : decode cX1_mostInSpan 31 = .ok (.aload_n 0, 1) := by decide +kernel
theorem dX1_mostInSpan_32 : decode cX1_mostInSpan 32 = .ok (.getfield 17, 3) := by decide +kernel
theorem dX1_mostInSpan_35 : decode cX1_mostInSpan 35 = .ok (.iload 4, 2) := by decide +kernel
theorem dX1_mostInSpan_37 : decode cX1_mostInSpan 37 = .ok (.iaload, 1) := by decide +kernel
theorem dX1_mostInSpan_38 : decode cX1_mostInSpan 38 = .ok (.iadd, 1) := by decide +kernel
theorem dX1_mostInSpan_39 : decode cX1_mostInSpan 39 = .ok (.istore_n 3, 1) := by decide +kernel
theorem dX1_mostInSpan_40 : decode cX1_mostInSpan 40 = .ok (.iinc 4 1, 3) := by decide +kernel
theorem dX1_mostInSpan_43 : decode cX1_mostInSpan 43 = .ok (.goto (-19), 3) := by decide +kernel
theorem dX1_mostInSpan_46 : decode cX1_mostInSpan 46 = .ok (.iload_n 3, 1) := by decide +kernel
theorem dX1_mostInSpan_47 : decode cX1_mostInSpan 47 = .ok (.istore 4, 2) := by decide +kernel
theorem dX1_mostInSpan_49 : decode cX1_mostInSpan 49 = .ok (.iload_n 2, 1) := by decide +kernel
theorem dX1_mostInSpan_50 : decode cX1_mostInSpan 50 = .ok (.istore 5, 2) := by decide +kernel
theorem dX1_mostInSpan_52 : decode cX1_mostInSpan 52 = .ok (.iload 5, 2) := by decide +kernel
theorem dX1_mostInSpan_54 : decode cX1_mostInSpan 54 = .ok (.iconst 2, 1) := by decide +kernel
theorem dX1_mostInSpan_55 : decode cX1_mostInSpan 55 = .ok (.iload_n 2, 1) := by decide +kernel
theorem dX1_mostInSpan_56 : decode cX1_mostInSpan 56 = .ok (.imul, 1) := by decide +kernel
theorem dX1_mostInSpan_57 : decode cX1_mostInSpan 57 = .ok (.iconst 1, 1) := by decide +kernel
theorem dX1_mostInSpan_58 : decode cX1_mostInSpan 58 = .ok (.isub, 1) := by decide +kernel
theorem dX1_mostInSpan_59 : decode cX1_mostInSpan 59 = .ok (.if_icmp .ge 37, 3) := by decide +kernel
theorem dX1_mostInSpan_62 : decode cX1_mostInSpan 62 = .ok (.iload_n 3, 1) := by decide +kernel
theorem dX1_mostInSpan_63 : decode cX1_mostInSpan 63 = .ok (.aload_n 0, 1) := by decide +kernel
theorem dX1_mostInSpan_64 : decode cX1_mostInSpan 64 = .ok (.getfield 17, 3) := by decide +kernel
theorem dX1_mostInSpan_67 : decode cX1_mostInSpan 67 = .ok (.iload 5, 2) := by decide +kernel
theorem dX1_mostInSpan_69 : decode cX1_mostInSpan 69 = .ok (.iaload, 1) := by decide +kernel
theorem dX1_mostInSpan_70 : decode cX1_mostInSpan 70 = .ok (.aload_n 0, 1) := by decide +kernel
theorem dX1_mostInSpan_71 : decode cX1_mostInSpan 71 = .ok (.getfield 17, 3) := by decide +kernel
theorem dX1_mostInSpan_74 : decode cX1_mostInSpan 74 = .ok (.iload 5, 2) := by decide +kernel
theorem dX1_mostInSpan_76 : decode cX1_mostInSpan 76 = .ok (.iload_n 2, 1) := by decide +kernel
theorem dX1_mostInSpan_77 : decode cX1_mostInSpan 77 = .ok (.isub, 1) := by decide +kernel
theorem dX1_mostInSpan_78 : decode cX1_mostInSpan 78 = .ok (.iaload, 1) := by decide +kernel
theorem dX1_mostInSpan_79 : decode cX1_mostInSpan 79 = .ok (.isub, 1) := by decide +kernel
theorem dX1_mostInSpan_80 : decode cX1_mostInSpan 80 = .ok (.iadd, 1) := by decide +kernel
theorem dX1_mostInSpan_81 : decode cX1_mostInSpan 81 = .ok (.istore_n 3, 1) := by decide +kernel
theorem dX1_mostInSpan_82 : decode cX1_mostInSpan 82 = .ok (.iload 4, 2) := by decide +kernel
theorem dX1_mostInSpan_84 : decode cX1_mostInSpan 84 = .ok (.iload_n 3, 1) := by decide +kernel
theorem dX1_mostInSpan_85 : decode cX1_mostInSpan 85 = .ok (.invokestatic 159, 3) := by decide +kernel
theorem dX1_mostInSpan_88 : decode cX1_mostInSpan 88 = .ok (.istore 4, 2) := by decide +kernel
theorem dX1_mostInSpan_90 : decode cX1_mostInSpan 90 = .ok (.iinc 5 1, 3) := by decide +kernel
theorem dX1_mostInSpan_93 : decode cX1_mostInSpan 93 = .ok (.goto (-41), 3) := by decide +kernel
theorem dX1_mostInSpan_96 : decode cX1_mostInSpan 96 = .ok (.iload 4, 2) := by decide +kernel
theorem dX1_mostInSpan_98 : decode cX1_mostInSpan 98 = .ok (.ireturn, 1) := by decide +kernel
def ins_X1_mostInSpan (pc : Nat) : HOp := cond (Nat.blt pc 49) (cond (Nat.blt pc 22) (cond (Nat.blt pc 12) (cond (Nat.blt pc 5) (cond (Nat.blt pc 1) (cond (Nat.beq pc 0) (o_iload 2 1) o_bad) (cond (Nat.blt pc 2) (cond (Nat.beq pc 1) (o_const (1) 2) o_bad) (cond (Nat.beq pc 2) (o_icmp (fun x y => x < y) 11 5) o_bad))) (cond (Nat.blt pc 8) (cond (Nat.blt pc 6) (cond (Nat.beq pc 5) (o_iload 2 6) o_bad) (cond (Nat.beq pc 6) (o_const (60) 8) o_bad)) (cond (Nat.blt pc 11) (cond (Nat.beq pc 8) (o_icmp (fun x y => x ≤ y) 13 11) o_bad) (cond (Nat.beq pc 11) (o_const (0) 12) o_bad)))) (cond (Nat.blt pc 16) (cond (Nat.blt pc 14) (cond (Nat.blt pc 13) (cond (Nat.beq pc 12) (o_iret) o_bad) (cond (Nat.beq pc 13) (o_aload 0 14) o_bad)) (cond (Nat.blt pc 15) (cond (Nat.beq pc 14) (o_aload 1 15) o_bad) (cond (Nat.beq pc 15) (o_iload 2 16) o_bad))) (cond (Nat.blt pc 20) (cond (Nat.blt pc 19) (cond (Nat.beq pc 16) (o_callV 3 1 sp_X1_tallyAround 19) o_bad) (cond (Nat.beq pc 19) (o_const (0) 20) o_bad)) (cond (Nat.blt pc 21) (cond (Nat.beq pc 20) (o_istore 3 21) o_bad) (cond (Nat.beq pc 21) (o_const (0) 22) o_bad))))) (cond (Nat.blt pc 35) (cond (Nat.blt pc 27) (cond (Nat.blt pc 24) (cond (Nat.beq pc 22) (o_istore 4 24) o_bad) (cond (Nat.blt pc 26) (cond (Nat.beq pc 24) (o_iload 4 26) o_bad) (cond (Nat.beq pc 26) (o_iload 2 27) o_bad))) (cond (Nat.blt pc 31) (cond (Nat.blt pc 30) (cond (Nat.beq pc 27) (o_icmp (fun x y => y ≤ x) 46 30) o_bad) (cond (Nat.beq pc 30) (o_iload 3 31) o_bad)) (cond (Nat.blt pc 32) (cond (Nat.beq pc 31) (o_aload 0 32) o_bad) (cond (Nat.beq pc 32) (o_getf 1 5 35) o_bad)))) (cond (Nat.blt pc 40) (cond (Nat.blt pc 38) (cond (Nat.blt pc 37) (cond (Nat.beq pc 35) (o_iload 4 37) o_bad) (cond (Nat.beq pc 37) (o_iald 38) o_bad)) (cond (Nat.blt pc 39) (cond (Nat.beq pc 38) (o_bin (fun x y => x + y) 39) o_bad) (cond (Nat.beq pc 39) (o_istore 3 40) o_bad))) (cond (Nat.blt pc 46) (cond (Nat.blt pc 43) (cond (Nat.beq pc 40) (o_iinc 4 (1) 43) o_bad) (cond (Nat.beq pc 43) (o_goto 24) o_bad)) (cond (Nat.blt pc 47) (cond (Nat.beq pc 46) (o_iload 3 47) o_bad) (cond (Nat.beq pc 47) (o_istore 4 49) o_bad)))))) (cond (Nat.blt pc 71) (cond (Nat.blt pc 58) (cond (Nat.blt pc 54) (cond (Nat.blt pc 50) (cond (Nat.beq pc 49) (o_iload 2 50) o_bad) (cond (Nat.blt pc 52) (cond (Nat.beq pc 50) (o_istore 5 52) o_bad) (cond (Nat.beq pc 52) (o_iload 5 54) o_bad))) (cond (Nat.blt pc 56) (cond (Nat.blt pc 55) (cond (Nat.beq pc 54) (o_const (2) 55) o_bad) (cond (Nat.beq pc 55) (o_iload 2 56) o_bad)) (cond (Nat.blt pc 57) (cond (Nat.beq pc 56) (o_bin (fun x y => x * y) 57) o_bad) (cond (Nat.beq pc 57) (o_const (1) 58) o_bad)))) (cond (Nat.blt pc 64) (cond (Nat.blt pc 62) (cond (Nat.blt pc 59) (cond (Nat.beq pc 58) (o_bin (fun x y => x - y) 59) o_bad) (cond (Nat.beq pc 59) (o_icmp (fun x y => y ≤ x) 96 62) o_bad)) (cond (Nat.blt pc 63) (cond (Nat.beq pc 62) (o_iload 3 63) o_bad) (cond (Nat.beq pc 63) (o_aload 0 64) o_bad))) (cond (Nat.blt pc 69) (cond (Nat.blt pc 67) (cond (Nat.beq pc 64) (o_getf 1 5 67) o_bad) (cond (Nat.beq pc 67) (o_iload 5 69) o_bad)) (cond (Nat.blt pc 70) (cond (Nat.beq pc 69) (o_iald 70) o_bad) (cond (Nat.beq pc 70) (o_aload 0 71) o_bad))))) (cond (Nat.blt pc 82) (cond (Nat.blt pc 78) (cond (Nat.blt pc 76) (cond (Nat.blt pc 74) (cond (Nat.beq pc 71) (o_getf 1 5 74) o_bad) (cond (Nat.beq pc 74) (o_iload 5 76) o_bad)) (cond (Nat.blt pc 77) (cond (Nat.beq pc 76) (o_iload 2 77) o_bad) (cond (Nat.beq pc 77) (o_bin (fun x y => x - y) 78) o_bad))) (cond (Nat.blt pc 80) (cond (Nat.blt pc 79) (cond (Nat.beq pc 78) (o_iald 79) o_bad) (cond (Nat.beq pc 79) (o_bin (fun x y => x - y) 80) o_bad)) (cond (Nat.blt pc 81) (cond (Nat.beq pc 80) (o_bin (fun x y => x + y) 81) o_bad) (cond (Nat.beq pc 81) (o_istore 3 82) o_bad)))) (cond (Nat.blt pc 90) (cond (Nat.blt pc 85) (cond (Nat.blt pc 84) (cond (Nat.beq pc 82) (o_iload 4 84) o_bad) (cond (Nat.beq pc 84) (o_iload 3 85) o_bad)) (cond (Nat.blt pc 88) (cond (Nat.beq pc 85) (o_max 88) o_bad) (cond (Nat.beq pc 88) (o_istore 4 90) o_bad))) (cond (Nat.blt pc 96) (cond (Nat.blt pc 93) (cond (Nat.beq pc 90) (o_iinc 5 (1) 93) o_bad) (cond (Nat.beq pc 93) (o_goto 52) o_bad)) (cond (Nat.blt pc 98) (cond (Nat.beq pc 96) (o_iload 4 98) o_bad) (cond (Nat.beq pc 98) (o_iret) o_bad))))))
set_option maxRecDepth 20000 in
theorem ok_X1_mostInSpan : HOKs cX1_mostInSpan RX1 6 (some .int) 3 ins_X1_mostInSpan := fun _ => hnd (hnd (hnd (hnd (hnd (hlf (ok_iload_n dX1_mostInSpan_0 rfl rfl)) (hnd (hlf (ok_iconst dX1_mostInSpan_1 (by decide) rfl)) (hlf (ok_icmp_lt dX1_mostInSpan_2 (by decide) rfl)))) (hnd (hnd (hlf (ok_iload_n dX1_mostInSpan_5 rfl rfl)) (hlf (ok_bipush dX1_mostInSpan_6 (by decide) rfl))) (hnd (hlf (ok_icmp_le dX1_mostInSpan_8 (by decide) rfl)) (hlf (ok_iconst dX1_mostInSpan_11 (by decide) rfl))))) (hnd (hnd (hnd (hlf (ok_iret dX1_mostInSpan_12)) (hlf (ok_aload_n dX1_mostInSpan_13 rfl rfl))) (hnd (hlf (ok_aload_n dX1_mostInSpan_14 rfl rfl)) (hlf (ok_iload_n dX1_mostInSpan_15 rfl rfl)))) (hnd (hnd (hlf (ok_callV (y := yX1_tallyAround) (n' := 2) (C := RX1) (T := TX1) dX1_mostInSpan_16 ct_X1_tallyAround (by decide) (by decide) wd_458 wd_455 wd_457 wd_3 wd_47 rfl (by decide +kernel) rfl rfl rfl)) (hlf (ok_iconst dX1_mostInSpan_19 (by decide) rfl))) (hnd (hlf (ok_istore_n dX1_mostInSpan_20 rfl (by decide) rfl)) (hlf (ok_iconst dX1_mostInSpan_21 (by decide) rfl)))))) (hnd (hnd (hnd (hlf (ok_istore dX1_mostInSpan_22 (by decide) rfl)) (hnd (hlf (ok_iload dX1_mostInSpan_24 rfl)) (hlf (ok_iload_n dX1_mostInSpan_26 rfl rfl)))) (hnd (hnd (hlf (ok_icmp_ge dX1_mostInSpan_27 (by decide) rfl)) (hlf (ok_iload_n dX1_mostInSpan_30 rfl rfl))) (hnd (hlf (ok_aload_n dX1_mostInSpan_31 rfl rfl)) (hlf (ok_getf (C := RX1) (T := TX1) dX1_mostInSpan_32 rfl rfl (by decide) rfl inX1 wd_191 rfl))))) (hnd (hnd (hnd (hlf (ok_iload dX1_mostInSpan_35 rfl)) (hlf (ok_iald dX1_mostInSpan_37 rfl))) (hnd (hlf (ok_iadd dX1_mostInSpan_38 rfl)) (hlf (ok_istore_n dX1_mostInSpan_39 rfl (by decide) rfl)))) (hnd (hnd (hlf (ok_iinc dX1_mostInSpan_40 (by decide) (by decide) rfl)) (hlf (ok_goto dX1_mostInSpan_43 (by decide)))) (hnd (hlf (ok_iload_n dX1_mostInSpan_46 rfl rfl)) (hlf (ok_istore dX1_mostInSpan_47 (by decide) rfl))))))) (hnd (hnd (hnd (hnd (hlf (ok_iload_n dX1_mostInSpan_49 rfl rfl)) (hnd (hlf (ok_istore dX1_mostInSpan_50 (by decide) rfl)) (hlf (ok_iload dX1_mostInSpan_52 rfl)))) (hnd (hnd (hlf (ok_iconst dX1_mostInSpan_54 (by decide) rfl)) (hlf (ok_iload_n dX1_mostInSpan_55 rfl rfl))) (hnd (hlf (ok_imul dX1_mostInSpan_56 rfl)) (hlf (ok_iconst dX1_mostInSpan_57 (by decide) rfl))))) (hnd (hnd (hnd (hlf (ok_isub dX1_mostInSpan_58 rfl)) (hlf (ok_icmp_ge dX1_mostInSpan_59 (by decide) rfl))) (hnd (hlf (ok_iload_n dX1_mostInSpan_62 rfl rfl)) (hlf (ok_aload_n dX1_mostInSpan_63 rfl rfl)))) (hnd (hnd (hlf (ok_getf (C := RX1) (T := TX1) dX1_mostInSpan_64 rfl rfl (by decide) rfl inX1 wd_191 rfl)) (hlf (ok_iload dX1_mostInSpan_67 rfl))) (hnd (hlf (ok_iald dX1_mostInSpan_69 rfl)) (hlf (ok_aload_n dX1_mostInSpan_70 rfl rfl)))))) (hnd (hnd (hnd (hnd (hlf (ok_getf (C := RX1) (T := TX1) dX1_mostInSpan_71 rfl rfl (by decide) rfl inX1 wd_191 rfl)) (hlf (ok_iload dX1_mostInSpan_74 rfl))) (hnd (hlf (ok_iload_n dX1_mostInSpan_76 rfl rfl)) (hlf (ok_isub dX1_mostInSpan_77 rfl)))) (hnd (hnd (hlf (ok_iald dX1_mostInSpan_78 rfl)) (hlf (ok_isub dX1_mostInSpan_79 rfl))) (hnd (hlf (ok_iadd dX1_mostInSpan_80 rfl)) (hlf (ok_istore_n dX1_mostInSpan_81 rfl (by decide) rfl))))) (hnd (hnd (hnd (hlf (ok_iload dX1_mostInSpan_82 rfl)) (hlf (ok_iload_n dX1_mostInSpan_84 rfl rfl))) (hnd (hlf (ok_max dX1_mostInSpan_85 wd_460 wd_461 wd_53 wd_462 (by decide) rfl)) (hlf (ok_istore dX1_mostInSpan_88 (by decide) rfl)))) (hnd (hnd (hlf (ok_iinc dX1_mostInSpan_90 (by decide) (by decide) rfl)) (hlf (ok_goto dX1_mostInSpan_93 (by decide)))) (hnd (hlf (ok_iload dX1_mostInSpan_96 rfl)) (hlf (ok_iret dX1_mostInSpan_98)))))))

theorem vc_X1_mostInSpan : MVC ins_X1_mostInSpan 6 3 sp_X1_mostInSpan := by
  intro as w σ q hl hs
  unfold sp_X1_mostInSpan at hs
  split at hs
  rotate_left
  · exact hs.elim
  rename_i v x
  obtain ⟨n, m, hB, hm1, hm2, rfl, hq⟩ := hs
  have hn := hB.1
  obtain ⟨T, hT⟩ : ∃ T : Nat → Nat, T = fun j => cnt (fun i => decide (tyP σ v m i j)) n := ⟨_, rfl⟩
  have hTn : ∀ j, T j ≤ n := fun j => by rw [hT]; exact cnt_le _ _
  have hTv : ∀ j, j < 119 → tyS σ v m n 13 3 j = nI (T j) := fun j hj => by simp [tyS, hj, hT]
  have hW : ∀ k, winC σ v m n k = sm (fun j => T (k + j)) m := fun k => by rw [hT]; rfl
  have hWb : ∀ k, winC σ v m n k ≤ 6000 := fun k => by
    rw [hW]
    have h1 := sm_le (f := fun j => T (k + j)) (c := 100) (fun j => Nat.le_trans (hTn _) hn) m
    omega
  refine ⟨fun pc => Nat.beq pc 24 || Nat.beq pc 52, fun pc N ls st w' σ' =>
    (pc = 24 ∧ ∃ (i : Nat) (u z : Int32) (o : Option HV), i ≤ m ∧ N = 1000 + (m - i) ∧ u = nI (sm T i) ∧ z = nI i ∧ ls = [some (HR 1 0), some (HR 9 v), some (HI (nI m)), some (HI u), some (HI z), o] ∧ st = [] ∧ w = w' ∧ σ' = tyS σ v m n) ∨
    (pc = 52 ∧ ∃ (k M : Nat) (u z y : Int32), k < m ∧ N = m - 1 - k ∧ u = nI (winC σ v m n k) ∧ z = nI M ∧ y = nI (m + k) ∧ (∀ j, j ≤ k → winC σ v m n j ≤ M) ∧ (∃ j, j ≤ k ∧ winC σ v m n j = M) ∧ ls = [some (HR 1 0), some (HR 9 v), some (HI (nI m)), some (HI u), some (HI z), some (HI y)] ∧ st = [] ∧ w = w' ∧ σ' = tyS σ v m n), 80, 80, ?_, ?_⟩
  · rintro N pc ls st w' σ' hh (⟨rfl, i, u, z, o, hi, rfl, rfl, rfl, rfl, rfl, rfl, rfl⟩ | ⟨rfl, k, M, u, z, y, hk, rfl, rfl, rfl, rfl, hM1, hM2, rfl, rfl, rfl, rfl⟩)
    · apply br2
      · intro h1
        obtain rfl := lp_end rfl hi h1
        refine ⟨i - 1, by omega, Or.inr ⟨rfl, 0, sm T i, _, _, _, by omega, rfl, ?_, rfl, rfl, ?_, ?_, rfl, rfl, rfl, rfl⟩⟩
        · rw [hW]; simp
        · intro j hj
          have : j = 0 := by omega
          subst this
          rw [hW]; simp
        · exact ⟨0, Nat.le_refl _, by rw [hW]; simp⟩
      · intro h1
        have hlt := lp_go rfl hi h1
        have e : (nI i).toNatClampNeg = i := nI_clamp (by omega)
        refine And.intro (vp_in_nI (N := 119) (by omega) (by decide)) ?_
        refine ⟨1000 + (m - (i + 1)), by omega, Or.inl ⟨rfl, i + 1, _, _, _, hlt, rfl, ?_, nI_1 i, rfl, rfl, rfl, rfl⟩⟩
        show nI (sm T i) + tyS σ v m n 13 3 (nI i).toNatClampNeg = _
        rw [e, hTv i (by omega)]
        exact nI_add _ _
    · have e2 : 2 * nI m - 1 = nI (2 * m - 1) := two_m m hm1
      apply br2
      · intro h1
        have h1 : 2 * nI m - 1 ≤ nI (m + k) := h1
        have := lp_end e2 (by omega) h1
        exact hq _ M (eqT_ty σ v m n) ⟨fun j hj => hM1 j (by omega), hM2.elim fun j h => ⟨j, by omega, h.2⟩⟩ (by obtain ⟨j, _, h2⟩ := hM2; rw [← h2]; exact hWb j)
      · intro h1
        have h1 : ¬ 2 * nI m - 1 ≤ nI (m + k) := h1
        have hlt := lp_go e2 (by omega) h1
        have ea : (nI (m + k)).toNatClampNeg = m + k := nI_clamp (by omega)
        have eb : nI (m + k) - nI m = nI k := by rw [pk_sub (by omega)]; congr 1; omega
        have ec : (nI k).toNatClampNeg = k := nI_clamp (by omega)
        refine And.intro (vp_in_nI (N := 119) (by omega) (by decide)) ?_
        refine And.intro (by show vp_in (nI (m + k) - nI m) 119; rw [eb]; exact vp_in_nI (by omega) (by decide)) ?_
        have hs9 : winC σ v m n k + T (m + k) = winC σ v m n (k + 1) + T k := by
          have := sm_shift T k m
          rw [hW, hW, Nat.add_comm m k]
          omega
        have eu : nI (winC σ v m n k) + (tyS σ v m n 13 3 (nI (m + k)).toNatClampNeg - tyS σ v m n 13 3 (nI (m + k) - nI m).toNatClampNeg) = nI (winC σ v m n (k + 1)) := by
          rw [ea, eb, ec, hTv _ (by omega), hTv _ (by omega)]
          have h1 : nI (winC σ v m n k) + nI (T (m + k)) = nI (winC σ v m n (k + 1)) + nI (T k) := by rw [nI_add, nI_add, hs9]
          have h2 : nI (winC σ v m n k) + (nI (T (m + k)) - nI (T k)) = nI (winC σ v m n k) + nI (T (m + k)) - nI (T k) := by
            rw [Int32.sub_eq_add_neg, Int32.sub_eq_add_neg, Int32.add_assoc]
          rw [h2, h1, Int32.sub_eq_add_neg, Int32.add_assoc, ← Int32.sub_eq_add_neg, Int32.sub_self, Int32.add_zero]
        have em : (if nI M < nI (winC σ v m n (k + 1)) then nI (winC σ v m n (k + 1)) else nI M) = nI (max M (winC σ v m n (k + 1))) := by
          have hb1 := hWb (k + 1)
          have hb2 : M ≤ 6000 := by obtain ⟨j, _, h2⟩ := hM2; rw [← h2]; exact hWb j
          by_cases c : M < winC σ v m n (k + 1)
          · rw [if_pos (nI_lt c (by omega)), Nat.max_eq_right (by omega)]
          · rw [if_neg (nI_nlt (by omega) (by omega)), Nat.max_eq_left (by omega)]
        refine ⟨m - 1 - (k + 1), by omega, Or.inr ⟨rfl, k + 1, max M (winC σ v m n (k + 1)), _, _, _, by omega, rfl, eu, ?_, by rw [← Nat.add_assoc]; exact nI_1 _, ?_, ?_, rfl, rfl, rfl, rfl⟩⟩
        · show (if nI M < nI (winC σ v m n k) + (tyS σ v m n 13 3 (nI (m + k)).toNatClampNeg - tyS σ v m n 13 3 (nI (m + k) - nI m).toNatClampNeg) then nI (winC σ v m n k) + (tyS σ v m n 13 3 (nI (m + k)).toNatClampNeg - tyS σ v m n 13 3 (nI (m + k) - nI m).toNatClampNeg) else nI M) = _
          rw [eu]
          exact em
        · intro j hj
          rcases Nat.eq_or_lt_of_le hj with h | h
          · rw [h]; exact Nat.le_max_right _ _
          · exact Nat.le_trans (hM1 j (by omega)) (Nat.le_max_left _ _)
        · by_cases c : M ≤ winC σ v m n (k + 1)
          · exact ⟨k + 1, Nat.le_refl _, (Nat.max_eq_right c).symm⟩
          · obtain ⟨j, hj, h2⟩ := hM2
            exact ⟨j, by omega, by rw [h2, Nat.max_eq_left (by omega)]⟩
  · have h1 : ¬ nI m < 1 := nI_nlt (b := 1) hm1 (by omega)
    have h2 : nI m ≤ 60 := nI_le (b := 60) hm2 (by decide)
    refine And.intro (fun h => absurd h h1) (fun _ => And.intro (fun _ => ?_) (fun h => absurd h2 h))
    refine ⟨n, m, hB, hm1, hm2, rfl, ?_⟩
    exact ⟨_, Or.inl ⟨rfl, 0, 0, 0, none, Nat.zero_le _, rfl, rfl, rfl, rfl, rfl, rfl, rfl⟩⟩
theorem ct_X1_mostInSpan : Ctr yX1_mostInSpan cX1_mostInSpan 6 (some .int) 3 0 0 3 sp_X1_mostInSpan := ctr_of (by decide +kernel) rfl (by decide) ok_X1_mostInSpan vc_X1_mostInSpan

