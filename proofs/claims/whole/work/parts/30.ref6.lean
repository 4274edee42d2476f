/-! The reference, 6: the other loops -/
def bsum (s : Int32) : Nat → Int32
  | 0 => 0
  | n + 1 => bsum s n + (s >>> (nI n &&& 31) &&& 1)
def sp_X11_bits : HSp := fun as w σ K => match as with
  | [.inl s] => K (some (HI (bsum s 31))) w σ
  | _ => False
theorem dX11_bits_0 : decode cX11_bits 0 = .ok (.iconst 0, 1) := by decide +kernel
theorem dX11_bits_1 : decode cX11_bits 1 = .ok (.istore_n 1, 1) := by decide +kernel
theorem dX11_bits_2 : decode cX11_bits 2 = .ok (.iconst 0, 1) := by decide +kernel
theorem dX11_bits_3 : decode cX11_bits 3 = .ok (.istore_n 2, 1) := by decide +kernel
theorem dX11_bits_4 : decode cX11_bits 4 = .ok (.iload_n 2, 1) := by decide +kernel
theorem dX11_bits_5 : decode cX11_bits 5 = .ok (.bipush 31, 2) := by decide +kernel
theorem dX11_bits_7 : decode cX11_bits 7 = .ok (.if_icmp .ge 17, 3) := by decide +kernel
theorem dX11_bits_10 : decode cX11_bits 10 = .ok (.iload_n 1, 1) := by decide +kernel
theorem dX11_bits_11 : decode cX11_bits 11 = .ok (.iload_n 0, 1) := by decide +kernel
theorem dX11_bits_12 : decode cX11_bits 12 = .ok (.iload_n 2, 1) := by decide +kernel
theorem dX11_bits_13 : decode cX11_bits 13 = .ok (.ishr, 1) := by decide +kernel
theorem dX11_bits_14 : decode cX11_bits 14 = .ok (.iconst 1, 1) := by decide +kernel
theorem dX11_bits_15 : decode cX11_bits 15 = .ok (.iand, 1) := by decide +kernel
theorem dX11_bits_16 : decode cX11_bits 16 = .ok (.iadd, 1) := by decide +kernel
theorem dX11_bits_17 : decode cX11_bits 17 = .ok (.istore_n 1, 1) := by decide +kernel
theorem dX11_bits_18 : decode cX11_bits 18 = .ok (.iinc 2 1, 3) := by decide +kernel
theorem dX11_bits_21 : decode cX11_bits 21 = .ok (.goto (-17), 3) := by decide +kernel
theorem dX11_bits_24 : decode cX11_bits 24 = .ok (.iload_n 1, 1) := by decide +kernel
theorem dX11_bits_25 : decode cX11_bits 25 = .ok (.ireturn, 1) := by decide +kernel
def ins_X11_bits (pc : Nat) : HOp := cond (Nat.blt pc 12) (cond (Nat.blt pc 4) (cond (Nat.blt pc 2) (cond (Nat.blt pc 1) (cond (Nat.beq pc 0) (o_const (0) 1) o_bad) (cond (Nat.beq pc 1) (o_istore 1 2) o_bad)) (cond (Nat.blt pc 3) (cond (Nat.beq pc 2) (o_const (0) 3) o_bad) (cond (Nat.beq pc 3) (o_istore 2 4) o_bad))) (cond (Nat.blt pc 7) (cond (Nat.blt pc 5) (cond (Nat.beq pc 4) (o_iload 2 5) o_bad) (cond (Nat.beq pc 5) (o_const (31) 7) o_bad)) (cond (Nat.blt pc 10) (cond (Nat.beq pc 7) (o_icmp (fun x y => y ≤ x) 24 10) o_bad) (cond (Nat.blt pc 11) (cond (Nat.beq pc 10) (o_iload 1 11) o_bad) (cond (Nat.beq pc 11) (o_iload 0 12) o_bad))))) (cond (Nat.blt pc 17) (cond (Nat.blt pc 14) (cond (Nat.blt pc 13) (cond (Nat.beq pc 12) (o_iload 2 13) o_bad) (cond (Nat.beq pc 13) (o_bin (fun x y => x >>> (y &&& 31)) 14) o_bad)) (cond (Nat.blt pc 15) (cond (Nat.beq pc 14) (o_const (1) 15) o_bad) (cond (Nat.blt pc 16) (cond (Nat.beq pc 15) (o_bin (fun x y => x &&& y) 16) o_bad) (cond (Nat.beq pc 16) (o_bin (fun x y => x + y) 17) o_bad)))) (cond (Nat.blt pc 21) (cond (Nat.blt pc 18) (cond (Nat.beq pc 17) (o_istore 1 18) o_bad) (cond (Nat.beq pc 18) (o_iinc 2 (1) 21) o_bad)) (cond (Nat.blt pc 24) (cond (Nat.beq pc 21) (o_goto 4) o_bad) (cond (Nat.blt pc 25) (cond (Nat.beq pc 24) (o_iload 1 25) o_bad) (cond (Nat.beq pc 25) (o_iret) o_bad)))))
set_option maxRecDepth 20000 in
theorem ok_X11_bits : HOKs cX11_bits RX11 3 (some .int) 1 ins_X11_bits := fun _ => hnd (hnd (hnd (hnd (hlf (ok_iconst dX11_bits_0 (by decide) rfl)) (hlf (ok_istore_n dX11_bits_1 rfl (by decide) rfl))) (hnd (hlf (ok_iconst dX11_bits_2 (by decide) rfl)) (hlf (ok_istore_n dX11_bits_3 rfl (by decide) rfl)))) (hnd (hnd (hlf (ok_iload_n dX11_bits_4 rfl rfl)) (hlf (ok_bipush dX11_bits_5 (by decide) rfl))) (hnd (hlf (ok_icmp_ge dX11_bits_7 (by decide) rfl)) (hnd (hlf (ok_iload_n dX11_bits_10 rfl rfl)) (hlf (ok_iload_n dX11_bits_11 rfl rfl)))))) (hnd (hnd (hnd (hlf (ok_iload_n dX11_bits_12 rfl rfl)) (hlf (ok_ishr dX11_bits_13 rfl))) (hnd (hlf (ok_iconst dX11_bits_14 (by decide) rfl)) (hnd (hlf (ok_iand dX11_bits_15 rfl)) (hlf (ok_iadd dX11_bits_16 rfl))))) (hnd (hnd (hlf (ok_istore_n dX11_bits_17 rfl (by decide) rfl)) (hlf (ok_iinc dX11_bits_18 (by decide) (by decide) rfl))) (hnd (hlf (ok_goto dX11_bits_21 (by decide))) (hnd (hlf (ok_iload_n dX11_bits_24 rfl rfl)) (hlf (ok_iret dX11_bits_25))))))

theorem vc_X11_bits : MVC ins_X11_bits 3 1 sp_X11_bits := by
  refine mvc1 4 60 fun as w σ q hl hs => ?_
  unfold sp_X11_bits at hs
  split at hs
  rotate_left
  · exact hs.elim
  rename_i s
  refine ⟨fun N ls st w' σ' => ∃ (i : Nat) (u v : Int32), i ≤ 31 ∧ N = 31 - i ∧ u = bsum s i ∧ v = nI i ∧ ls = [some (HI s), some (HI u), some (HI v)] ∧ st = [] ∧ w = w' ∧ σ = σ', ?_, ?_⟩
  · rintro N ls st w' σ' ⟨i, u, v, hi, rfl, rfl, rfl, rfl, rfl, rfl, rfl⟩
    apply br2
    · intro h1
      obtain rfl := lp_end (n := 31) rfl hi h1
      exact hs
    · intro h1
      have hlt := lp_go (n := 31) rfl hi h1
      exact ⟨31 - (i + 1), by omega, i + 1, _, _, hlt, rfl, rfl, nI_1 i, rfl, rfl, rfl, rfl⟩
  · exact ⟨31, 0, 0, 0, Nat.zero_le _, rfl, rfl, rfl, rfl, rfl, rfl, rfl⟩
theorem ct_X11_bits : Ctr yX11_bits cX11_bits 3 (some .int) 1 0 0 1 sp_X11_bits := ctr_of (by decide +kernel) rfl (by decide) ok_X11_bits vc_X11_bits

def fo1 (σ : HS) (x sh : Int32) : HS := up3 (up3 σ 20 15 (σ 11 0 20).toNatClampNeg (x >>> (sh &&& 31) &&& 255)) 11 0 20 (σ 11 0 20 + 1)
def foS (σ : HS) (x : Int32) : HS := fo1 (fo1 (fo1 (fo1 σ x 24) x 16) x 8) x 0
theorem fo_sz (σ : HS) (x sh : Int32) : fo1 σ x sh 11 0 20 = σ 11 0 20 + 1 := by simp [fo1, up3]
def sp_X11_four : HSp := fun as w σ K => match as with
  | [.inr (.inl (11, some 0)), .inl x] => ∃ t, t + 4 ≤ 60 ∧ σ 11 0 20 = nI t ∧ K none w (foS σ x)
  | _ => False
theorem dX11_four_0 : decode cX11_four 0 = .ok (.bipush 24, 2) := by decide +kernel
theorem dX11_four_2 : decode cX11_four 2 = .ok (.istore_n 2, 1) := by decide +kernel
theorem dX11_four_3 : decode cX11_four 3 = .ok (.iload_n 2, 1) := by decide +kernel
theorem dX11_four_4 : decode cX11_four 4 = .ok (.ifCond .lt 35, 3) := by decide +kernel
theorem dX11_four_7 : decode cX11_four 7 = .ok (.aload_n 0, 1) := by decide +kernel
theorem dX11_four_8 : decode cX11_four 8 = .ok (.getfield 59, 3) := by decide +kernel
theorem dX11_four_11 : decode cX11_four 11 = .ok (.aload_n 0, 1) := by decide +kernel
theorem dX11_four_12 : decode cX11_four 12 = .ok (.getfield 133, 3) := by decide +kernel
theorem dX11_four_15 : decode cX11_four 15 = .ok (.iload_n 1, 1) := by decide +kernel
theorem dX11_four_16 : decode cX11_four 16 = .ok (.iload_n 2, 1) := by decide +kernel
theorem dX11_four_17 : decode cX11_four 17 = .ok (.ishr, 1) := by decide +kernel
theorem dX11_four_18 : decode cX11_four 18 = .ok (.sipush 255, 3) := by decide +kernel
theorem dX11_four_21 : decode cX11_four 21 = .ok (.iand, 1) := by decide +kernel
theorem dX11_four_22 : decode cX11_four 22 = .ok (.iastore, 1) := by decide +kernel
theorem dX11_four_23 : decode cX11_four 23 = .ok (.aload_n 0, 1) := by decide +kernel
theorem dX11_four_24 : decode cX11_four 24 = .ok (.dup, 1) := by decide +kernel
theorem dX11_four_25 : decode cX11_four 25 = .ok (.getfield 133, 3) := by decide +kernel
theorem dX11_four_28 : decode cX11_four 28 = .ok (.iconst 1, 1) := by decide +kernel
theorem dX11_four_29 : decode cX11_four 29 = .ok (.iadd, 1) := by decide +kernel
theorem dX11_four_30 : decode cX11_four 30 = .ok (.putfield 133, 3) := by decide +kernel
theorem dX11_four_33 : decode cX11_four 33 = .ok (.iinc 2 (-8), 3) := by decide +kernel
theorem dX11_four_36 : decode cX11_four 36 = .ok (.goto (-33), 3) := by decide +kernel
theorem dX11_four_39 : decode cX11_four 39 = .ok (.return_, 1) := by decide +kernel
def ins_X11_four (pc : Nat) : HOp := cond (Nat.blt pc 18) (cond (Nat.blt pc 8) (cond (Nat.blt pc 3) (cond (Nat.blt pc 2) (cond (Nat.beq pc 0) (o_const (24) 2) o_bad) (cond (Nat.beq pc 2) (o_istore 2 3) o_bad)) (cond (Nat.blt pc 4) (cond (Nat.beq pc 3) (o_iload 2 4) o_bad) (cond (Nat.blt pc 7) (cond (Nat.beq pc 4) (o_if (fun x => x < 0) 39 7) o_bad) (cond (Nat.beq pc 7) (o_aload 0 8) o_bad)))) (cond (Nat.blt pc 15) (cond (Nat.blt pc 11) (cond (Nat.beq pc 8) (o_getf 11 19 11) o_bad) (cond (Nat.blt pc 12) (cond (Nat.beq pc 11) (o_aload 0 12) o_bad) (cond (Nat.beq pc 12) (o_getf 11 20 15) o_bad))) (cond (Nat.blt pc 16) (cond (Nat.beq pc 15) (o_iload 1 16) o_bad) (cond (Nat.blt pc 17) (cond (Nat.beq pc 16) (o_iload 2 17) o_bad) (cond (Nat.beq pc 17) (o_bin (fun x y => x >>> (y &&& 31)) 18) o_bad))))) (cond (Nat.blt pc 28) (cond (Nat.blt pc 23) (cond (Nat.blt pc 21) (cond (Nat.beq pc 18) (o_const (255) 21) o_bad) (cond (Nat.blt pc 22) (cond (Nat.beq pc 21) (o_bin (fun x y => x &&& y) 22) o_bad) (cond (Nat.beq pc 22) (o_iast 23) o_bad))) (cond (Nat.blt pc 24) (cond (Nat.beq pc 23) (o_aload 0 24) o_bad) (cond (Nat.blt pc 25) (cond (Nat.beq pc 24) (o_dup 25) o_bad) (cond (Nat.beq pc 25) (o_getf 11 20 28) o_bad)))) (cond (Nat.blt pc 33) (cond (Nat.blt pc 29) (cond (Nat.beq pc 28) (o_const (1) 29) o_bad) (cond (Nat.blt pc 30) (cond (Nat.beq pc 29) (o_bin (fun x y => x + y) 30) o_bad) (cond (Nat.beq pc 30) (o_putf 11 20 33) o_bad))) (cond (Nat.blt pc 36) (cond (Nat.beq pc 33) (o_iinc 2 (-8) 36) o_bad) (cond (Nat.blt pc 39) (cond (Nat.beq pc 36) (o_goto 3) o_bad) (cond (Nat.beq pc 39) (o_vret) o_bad)))))
set_option maxRecDepth 20000 in
theorem ok_X11_four : HOKs cX11_four RX11 3 none 1 ins_X11_four := fun _ => hnd (hnd (hnd (hnd (hlf (ok_bipush dX11_four_0 (by decide) rfl)) (hlf (ok_istore_n dX11_four_2 rfl (by decide) rfl))) (hnd (hlf (ok_iload_n dX11_four_3 rfl rfl)) (hnd (hlf (ok_if_lt dX11_four_4 (by decide) rfl)) (hlf (ok_aload_n dX11_four_7 rfl rfl))))) (hnd (hnd (hlf (ok_getf (C := RX11) (T := TX11) dX11_four_8 rfl rfl (by decide) rfl inX11 wd_896 rfl)) (hnd (hlf (ok_aload_n dX11_four_11 rfl rfl)) (hlf (ok_getf (C := RX11) (T := TX11) dX11_four_12 rfl rfl (by decide) rfl inX11 wd_897 rfl)))) (hnd (hlf (ok_iload_n dX11_four_15 rfl rfl)) (hnd (hlf (ok_iload_n dX11_four_16 rfl rfl)) (hlf (ok_ishr dX11_four_17 rfl)))))) (hnd (hnd (hnd (hlf (ok_sipush dX11_four_18 (by decide) rfl)) (hnd (hlf (ok_iand dX11_four_21 rfl)) (hlf (ok_iast dX11_four_22 rfl)))) (hnd (hlf (ok_aload_n dX11_four_23 rfl rfl)) (hnd (hlf (ok_dup dX11_four_24 rfl)) (hlf (ok_getf (C := RX11) (T := TX11) dX11_four_25 rfl rfl (by decide) rfl inX11 wd_897 rfl))))) (hnd (hnd (hlf (ok_iconst dX11_four_28 (by decide) rfl)) (hnd (hlf (ok_iadd dX11_four_29 rfl)) (hlf (ok_putf (C := RX11) (T := TX11) dX11_four_30 rfl rfl (by decide) rfl inX11 tyX11_ok nmX11 rfl rfl (fun _ _ => rfl) wd_897 rfl)))) (hnd (hlf (ok_iinc dX11_four_33 (by decide) (by decide) rfl)) (hnd (hlf (ok_goto dX11_four_36 (by decide))) (hlf (ok_vret dX11_four_39))))))

set_option maxRecDepth 100000 in
theorem vc_X11_four : MVC ins_X11_four 3 2 sp_X11_four := by
  refine mvc0 140 fun as w σ q hl hs => ?_
  unfold sp_X11_four at hs
  split at hs
  rotate_left
  · exact hs.elim
  rename_i x
  obtain ⟨t, ht, hsz, hq⟩ := hs
  have s1 : ∀ j, j < 4 → ∀ σ' : HS, σ' 11 0 20 = nI (t + j) → vp_in (σ' 11 0 20) 60 := fun j hj σ' h => by rw [h]; exact vp_in_nI (by omega) (by decide)
  have e1 : fo1 σ x 24 11 0 20 = nI (t + 1) := by rw [fo_sz, hsz]; exact nI_1 t
  have e2 : fo1 (fo1 σ x 24) x 16 11 0 20 = nI (t + 2) := by rw [fo_sz, e1]; exact nI_1 _
  have e3 : fo1 (fo1 (fo1 σ x 24) x 16) x 8 11 0 20 = nI (t + 3) := by rw [fo_sz, e2]; exact nI_1 _
  refine And.intro (fun h => absurd h (by decide)) (fun _ => And.intro (s1 0 (by decide) σ hsz) ?_)
  refine And.intro (fun h => absurd h (by decide)) (fun _ => And.intro (s1 1 (by decide) _ e1) ?_)
  refine And.intro (fun h => absurd h (by decide)) (fun _ => And.intro (s1 2 (by decide) _ e2) ?_)
  refine And.intro (fun h => absurd h (by decide)) (fun _ => And.intro (s1 3 (by decide) _ e3) ?_)
  exact And.intro (fun _ => hq) (fun h => absurd (by decide) h)
theorem ct_X11_four : Ctr yX11_four cX11_four 3 none 1 0 0 2 sp_X11_four := ctr_of (by decide +kernel) rfl (by decide) ok_X11_four vc_X11_four

def I_X11_told (K : HRt) : Nat → Nat → HKp := fun _ N ls st w σ => ∃ (n i : Nat) (p f u v : Int32), Nn σ n ∧ i ≤ n ∧ N = n - i ∧ u = nI (cnt (fun j => decide (σ 20 21 j = 0 ∧ σ 20 16 j = p ∧ ¬ σ 20 18 j < σ 11 0 0)) i) ∧ v = nI i ∧ ls = [some (HR 11 0), some (HI p), some (HI f), some (HI u), some (HI v)] ∧ st = [] ∧ K (some (HI (nI (cnt (fun j => decide (σ 20 21 j = 0 ∧ σ 20 16 j = p ∧ ¬ σ 20 18 j < σ 11 0 0)) n)))) w σ
theorem dX11_told_0 : decode cX11_told 0 = .ok (.aload_n 0, 1) := by decide +kernel
theorem dX11_told_1 : decode cX11_told 1 = .ok (.iload_n 1, 1) := by decide +kernel
theorem dX11_told_2 : decode cX11_told 2 = .ok (.invokevirtual 115, 3) := by decide +kernel
theorem dX11_told_5 : decode cX11_told 5 = .ok (.ifCond .eq 12, 3) := by decide +kernel
theorem dX11_told_8 : decode cX11_told 8 = .ok (.iload_n 2, 1) := by decide +kernel
theorem dX11_told_9 : decode cX11_told 9 = .ok (.iconst 0, 1) := by decide +kernel
theorem dX11_told_10 : decode cX11_told 10 = .ok (.iconst 4, 1) := by decide +kernel
theorem dX11_told_11 : decode cX11_told 11 = .ok (.invokestatic 102, 3) := by decide +kernel
theorem dX11_told_14 : decode cX11_told 14 = .ok (.ifCond .ne 6, 3) := by decide +kernel
theorem dX11_told_17 : decode cX11_told 17 = .ok (.ldc 109, 2) := by decide +kernel
theorem dX11_told_19 : decode cX11_told 19 = .ok (.ireturn, 1) := by decide +kernel
theorem dX11_told_20 : decode cX11_told 20 = .ok (.iload_n 2, 1) := by decide +kernel
theorem dX11_told_21 : decode cX11_told 21 = .ok (.tableswitch 59 0 3 #[31, 38, 45, 52], 31) := by decide +kernel
theorem dX11_told_52 : decode cX11_told 52 = .ok (.aload_n 0, 1) := by decide +kernel
theorem dX11_told_53 : decode cX11_told 53 = .ok (.getfield 7, 3) := by decide +kernel
theorem dX11_told_56 : decode cX11_told 56 = .ok (.iload_n 1, 1) := by decide +kernel
theorem dX11_told_57 : decode cX11_told 57 = .ok (.iaload, 1) := by decide +kernel
theorem dX11_told_58 : decode cX11_told 58 = .ok (.ireturn, 1) := by decide +kernel
theorem dX11_told_59 : decode cX11_told 59 = .ok (.aload_n 0, 1) := by decide +kernel
theorem dX11_told_60 : decode cX11_told 60 = .ok (.getfield 13, 3) := by decide +kernel
theorem dX11_told_63 : decode cX11_told 63 = .ok (.iload_n 1, 1) := by decide +kernel
theorem dX11_told_64 : decode cX11_told 64 = .ok (.iaload, 1) := by decide +kernel
theorem dX11_told_65 : decode cX11_told 65 = .ok (.ireturn, 1) := by decide +kernel
theorem dX11_told_66 : decode cX11_told 66 = .ok (.aload_n 0, 1) := by decide +kernel
theorem dX11_told_67 : decode cX11_told 67 = .ok (.getfield 16, 3) := by decide +kernel
theorem dX11_told_70 : decode cX11_told 70 = .ok (.iload_n 1, 1) := by decide +kernel
theorem dX11_told_71 : decode cX11_told 71 = .ok (.iaload, 1) := by decide +kernel
theorem dX11_told_72 : decode cX11_told 72 = .ok (.ireturn, 1) := by decide +kernel
theorem dX11_told_73 : decode cX11_told 73 = .ok (.aload_n 0, 1) := by decide +kernel
theorem dX11_told_74 : decode cX11_told 74 = .ok (.getfield 19, 3) := by decide +kernel
theorem dX11_told_77 : decode cX11_told 77 = .ok (.iload_n 1, 1) := by decide +kernel
theorem dX11_told_78 : decode cX11_told 78 = .ok (.iaload, 1) := by decide +kernel
theorem dX11_told_79 : decode cX11_told 79 = .ok (.ireturn, 1) := by decide +kernel
theorem dX11_told_80 : decode cX11_told 80 = .ok (.iconst 0, 1) := by decide +kernel
theorem dX11_told_81 : decode cX11_told 81 = .ok (.istore_n 3, 1) := by decide +kernel
theorem dX11_told_82 : decode cX11_told 82 = .ok (.iconst 0, 1) := by decide +kernel
theorem dX11_told_83 : decode cX11_told 83 = .ok (.istore 4, 2) := by decide +kernel
theorem dX11_told_85 : decode cX11_told 85 = .ok (.iload 4, 2) := by decide +kernel
theorem dX11_told_87 : decode cX11_told 87 = .ok (.aload_n 0, 1) := by decide +kernel
theorem dX11_told_88 : decode cX11_told 88 = .ok (.getfield 118, 3) := by decide +kernel
theorem dX11_told_91 : decode cX11_told 91 = .ok (.if_icmp .ge 52, 3) := by decide +kernel
theorem dX11_told_94 : decode cX11_told 94 = .ok (.iload_n 3, 1) := by decide +kernel
theorem dX11_told_95 : decode cX11_told 95 = .ok (.aload_n 0, 1) := by decide +kernel
theorem dX11_told_96 : decode cX11_told 96 = .ok (.getfield 77, 3) := by decide +kernel
theorem dX11_told_99 : decode cX11_told 99 = .ok (.iload 4, 2) := by decide +kernel
theorem dX11_told_101 : decode cX11_told 101 = .ok (.iaload, 1) := by decide +kernel
theorem dX11_told_102 : decode cX11_told 102 = .ok (.ifCond .ne 32, 3) := by decide +kernel
theorem dX11_told_105 : decode cX11_told 105 = .ok (.aload_n 0, 1) := by decide +kernel
theorem dX11_told_106 : decode cX11_told 106 = .ok (.getfield 62, 3) := by decide +kernel
theorem dX11_told_109 : decode cX11_told 109 = .ok (.iload 4, 2) := by decide +kernel
theorem dX11_told_111 : decode cX11_told 111 = .ok (.iaload, 1) := by decide +kernel
theorem dX11_told_112 : decode cX11_told 112 = .ok (.iload_n 1, 1) := by decide +kernel
theorem dX11_told_113 : decode cX11_told 113 = .ok (.if_icmp .ne 21, 3) := by decide +kernel
theorem dX11_told_116 : decode cX11_told 116 = .ok (.aload_n 0, 1) := by decide +kernel
theorem dX11_told_117 : decode cX11_told 117 = .ok (.getfield 68, 3) := by decide +kernel
theorem dX11_told_120 : decode cX11_told 120 = .ok (.iload 4, 2) := by decide +kernel
theorem dX11_told_122 : decode cX11_told 122 = .ok (.iaload, 1) := by decide +kernel
theorem dX11_told_123 : decode cX11_told 123 = .ok (.aload_n 0, 1) := by decide +kernel
theorem dX11_told_124 : decode cX11_told 124 = .ok (.getfield 125, 3) := by decide +kernel
theorem dX11_told_127 : decode cX11_told 127 = .ok (.if_icmp .lt 7, 3) := by decide +kernel
theorem dX11_told_130 : decode cX11_told 130 = .ok (.iconst 1, 1) := by decide +kernel
theorem dX11_told_131 : decode cX11_told 131 = .ok (.goto 4, 3) := by decide +kernel
theorem dX11_told_134 : decode cX11_told 134 = .ok (.iconst 0, 1) := by decide +kernel
theorem dX11_told_135 : decode cX11_told 135 = .ok (.iadd, 1) := by decide +kernel
theorem dX11_told_136 : decode cX11_told 136 = .ok (.istore_n 3, 1) := by decide +kernel
theorem dX11_told_137 : decode cX11_told 137 = .ok (.iinc 4 1, 3) := by decide +kernel
theorem dX11_told_140 : decode cX11_told 140 = .ok (.goto (-55), 3) := by decide +kernel
theorem dX11_told_143 : decode cX11_told 143 = .ok (.iload_n 3, 1) := by decide +kernel
theorem dX11_told_144 : decode cX11_told 144 = .ok (.ireturn, 1) := by decide +kernel
def ins_X11_told (pc : Nat) : HOp := cond (Nat.blt pc 81) (cond (Nat.blt pc 58) (cond (Nat.blt pc 14) (cond (Nat.blt pc 8) (cond (Nat.blt pc 2) (cond (Nat.blt pc 1) (cond (Nat.beq pc 0) (o_aload 0 1) o_bad) (cond (Nat.beq pc 1) (o_iload 1 2) o_bad)) (cond (Nat.blt pc 5) (cond (Nat.beq pc 2) (o_callV 2 11 sp_X11_isPrisoner 5) o_bad) (cond (Nat.beq pc 5) (o_if (fun x => x = 0) 17 8) o_bad))) (cond (Nat.blt pc 10) (cond (Nat.blt pc 9) (cond (Nat.beq pc 8) (o_iload 2 9) o_bad) (cond (Nat.beq pc 9) (o_const (0) 10) o_bad)) (cond (Nat.blt pc 11) (cond (Nat.beq pc 10) (o_const (4) 11) o_bad) (cond (Nat.beq pc 11) (o_callS 3 sp_X11_isIn 14) o_bad)))) (cond (Nat.blt pc 21) (cond (Nat.blt pc 19) (cond (Nat.blt pc 17) (cond (Nat.beq pc 14) (o_if (fun x => x = 0) 17 20) o_bad) (cond (Nat.beq pc 17) (o_const (-1000000001) 19) o_bad)) (cond (Nat.blt pc 20) (cond (Nat.beq pc 19) (o_iret) o_bad) (cond (Nat.beq pc 20) (o_iload 2 21) o_bad))) (cond (Nat.blt pc 53) (cond (Nat.blt pc 52) (cond (Nat.beq pc 21) (o_sw [(0, 52), (1, 59), (2, 66), (3, 73)] 80) o_bad) (cond (Nat.beq pc 52) (o_aload 0 53) o_bad)) (cond (Nat.blt pc 56) (cond (Nat.beq pc 53) (o_getf 11 2 56) o_bad) (cond (Nat.blt pc 57) (cond (Nat.beq pc 56) (o_iload 1 57) o_bad) (cond (Nat.beq pc 57) (o_iald 58) o_bad)))))) (cond (Nat.blt pc 70) (cond (Nat.blt pc 64) (cond (Nat.blt pc 60) (cond (Nat.blt pc 59) (cond (Nat.beq pc 58) (o_iret) o_bad) (cond (Nat.beq pc 59) (o_aload 0 60) o_bad)) (cond (Nat.blt pc 63) (cond (Nat.beq pc 60) (o_getf 11 3 63) o_bad) (cond (Nat.beq pc 63) (o_iload 1 64) o_bad))) (cond (Nat.blt pc 66) (cond (Nat.blt pc 65) (cond (Nat.beq pc 64) (o_iald 65) o_bad) (cond (Nat.beq pc 65) (o_iret) o_bad)) (cond (Nat.blt pc 67) (cond (Nat.beq pc 66) (o_aload 0 67) o_bad) (cond (Nat.beq pc 67) (o_getf 11 4 70) o_bad)))) (cond (Nat.blt pc 74) (cond (Nat.blt pc 72) (cond (Nat.blt pc 71) (cond (Nat.beq pc 70) (o_iload 1 71) o_bad) (cond (Nat.beq pc 71) (o_iald 72) o_bad)) (cond (Nat.blt pc 73) (cond (Nat.beq pc 72) (o_iret) o_bad) (cond (Nat.beq pc 73) (o_aload 0 74) o_bad))) (cond (Nat.blt pc 78) (cond (Nat.blt pc 77) (cond (Nat.beq pc 74) (o_getf 11 5 77) o_bad) (cond (Nat.beq pc 77) (o_iload 1 78) o_bad)) (cond (Nat.blt pc 79) (cond (Nat.beq pc 78) (o_iald 79) o_bad) (cond (Nat.blt pc 80) (cond (Nat.beq pc 79) (o_iret) o_bad) (cond (Nat.beq pc 80) (o_const (0) 81) o_bad))))))) (cond (Nat.blt pc 112) (cond (Nat.blt pc 95) (cond (Nat.blt pc 87) (cond (Nat.blt pc 83) (cond (Nat.blt pc 82) (cond (Nat.beq pc 81) (o_istore 3 82) o_bad) (cond (Nat.beq pc 82) (o_const (0) 83) o_bad)) (cond (Nat.blt pc 85) (cond (Nat.beq pc 83) (o_istore 4 85) o_bad) (cond (Nat.beq pc 85) (o_iload 4 87) o_bad))) (cond (Nat.blt pc 91) (cond (Nat.blt pc 88) (cond (Nat.beq pc 87) (o_aload 0 88) o_bad) (cond (Nat.beq pc 88) (o_getf 11 21 91) o_bad)) (cond (Nat.blt pc 94) (cond (Nat.beq pc 91) (o_icmp (fun x y => y ≤ x) 143 94) o_bad) (cond (Nat.beq pc 94) (o_iload 3 95) o_bad)))) (cond (Nat.blt pc 102) (cond (Nat.blt pc 99) (cond (Nat.blt pc 96) (cond (Nat.beq pc 95) (o_aload 0 96) o_bad) (cond (Nat.beq pc 96) (o_getf 11 27 99) o_bad)) (cond (Nat.blt pc 101) (cond (Nat.beq pc 99) (o_iload 4 101) o_bad) (cond (Nat.beq pc 101) (o_iald 102) o_bad))) (cond (Nat.blt pc 106) (cond (Nat.blt pc 105) (cond (Nat.beq pc 102) (o_if (fun x => x = 0) 105 134) o_bad) (cond (Nat.beq pc 105) (o_aload 0 106) o_bad)) (cond (Nat.blt pc 109) (cond (Nat.beq pc 106) (o_getf 11 22 109) o_bad) (cond (Nat.blt pc 111) (cond (Nat.beq pc 109) (o_iload 4 111) o_bad) (cond (Nat.beq pc 111) (o_iald 112) o_bad)))))) (cond (Nat.blt pc 130) (cond (Nat.blt pc 120) (cond (Nat.blt pc 116) (cond (Nat.blt pc 113) (cond (Nat.beq pc 112) (o_iload 1 113) o_bad) (cond (Nat.beq pc 113) (o_icmp (fun x y => x = y) 116 134) o_bad)) (cond (Nat.blt pc 117) (cond (Nat.beq pc 116) (o_aload 0 117) o_bad) (cond (Nat.beq pc 117) (o_getf 11 24 120) o_bad))) (cond (Nat.blt pc 123) (cond (Nat.blt pc 122) (cond (Nat.beq pc 120) (o_iload 4 122) o_bad) (cond (Nat.beq pc 122) (o_iald 123) o_bad)) (cond (Nat.blt pc 124) (cond (Nat.beq pc 123) (o_aload 0 124) o_bad) (cond (Nat.blt pc 127) (cond (Nat.beq pc 124) (o_getf 11 0 127) o_bad) (cond (Nat.beq pc 127) (o_icmp (fun x y => x < y) 134 130) o_bad))))) (cond (Nat.blt pc 136) (cond (Nat.blt pc 134) (cond (Nat.blt pc 131) (cond (Nat.beq pc 130) (o_const (1) 131) o_bad) (cond (Nat.beq pc 131) (o_goto 135) o_bad)) (cond (Nat.blt pc 135) (cond (Nat.beq pc 134) (o_const (0) 135) o_bad) (cond (Nat.beq pc 135) (o_bin (fun x y => x + y) 136) o_bad))) (cond (Nat.blt pc 140) (cond (Nat.blt pc 137) (cond (Nat.beq pc 136) (o_istore 3 137) o_bad) (cond (Nat.beq pc 137) (o_iinc 4 (1) 140) o_bad)) (cond (Nat.blt pc 143) (cond (Nat.beq pc 140) (o_goto 85) o_bad) (cond (Nat.blt pc 144) (cond (Nat.beq pc 143) (o_iload 3 144) o_bad) (cond (Nat.beq pc 144) (o_iret) o_bad)))))))
set_option maxRecDepth 20000 in
theorem ok_X11_told : HOKs cX11_told RX11 5 (some .int) 3 ins_X11_told := fun _ => hnd (hnd (hnd (hnd (hnd (hnd (hlf (ok_aload_n dX11_told_0 rfl rfl)) (hlf (ok_iload_n dX11_told_1 rfl rfl))) (hnd (hlf (ok_callV (y := yX11_isPrisoner) (n' := 1) (C := RX11) (T := TX11) dX11_told_2 ct_X11_isPrisoner (by decide) (by decide) wd_1039 wd_1036 wd_1038 wd_18 wd_50 rfl (by decide +kernel) rfl rfl rfl)) (hlf (ok_if_eq dX11_told_5 (by decide) rfl)))) (hnd (hnd (hlf (ok_iload_n dX11_told_8 rfl rfl)) (hlf (ok_iconst dX11_told_9 (by decide) rfl))) (hnd (hlf (ok_iconst dX11_told_10 (by decide) rfl)) (hlf (ok_callS (y := yX11_isIn) dX11_told_11 ct_X11_isIn (by decide) (by decide) wd_1017 wd_1015 wd_1016 wd_50 (by decide +kernel) rfl))))) (hnd (hnd (hnd (hlf (ok_if_ne dX11_told_14 (by decide) rfl)) (hlf (ok_ldc dX11_told_17 wd_1018 rfl))) (hnd (hlf (ok_iret dX11_told_19)) (hlf (ok_iload_n dX11_told_20 rfl rfl)))) (hnd (hnd (hlf (ok_tsw dX11_told_21 (by decide) (by decide) (by decide))) (hlf (ok_aload_n dX11_told_52 rfl rfl))) (hnd (hlf (ok_getf (C := RX11) (T := TX11) dX11_told_53 rfl rfl (by decide) rfl inX11 wd_879 rfl)) (hnd (hlf (ok_iload_n dX11_told_56 rfl rfl)) (hlf (ok_iald dX11_told_57 rfl))))))) (hnd (hnd (hnd (hnd (hlf (ok_iret dX11_told_58)) (hlf (ok_aload_n dX11_told_59 rfl rfl))) (hnd (hlf (ok_getf (C := RX11) (T := TX11) dX11_told_60 rfl rfl (by decide) rfl inX11 wd_880 rfl)) (hlf (ok_iload_n dX11_told_63 rfl rfl)))) (hnd (hnd (hlf (ok_iald dX11_told_64 rfl)) (hlf (ok_iret dX11_told_65))) (hnd (hlf (ok_aload_n dX11_told_66 rfl rfl)) (hlf (ok_getf (C := RX11) (T := TX11) dX11_told_67 rfl rfl (by decide) rfl inX11 wd_881 rfl))))) (hnd (hnd (hnd (hlf (ok_iload_n dX11_told_70 rfl rfl)) (hlf (ok_iald dX11_told_71 rfl))) (hnd (hlf (ok_iret dX11_told_72)) (hlf (ok_aload_n dX11_told_73 rfl rfl)))) (hnd (hnd (hlf (ok_getf (C := RX11) (T := TX11) dX11_told_74 rfl rfl (by decide) rfl inX11 wd_882 rfl)) (hlf (ok_iload_n dX11_told_77 rfl rfl))) (hnd (hlf (ok_iald dX11_told_78 rfl)) (hnd (hlf (ok_iret dX11_told_79)) (hlf (ok_iconst dX11_told_80 (by decide) rfl)))))))) (hnd (hnd (hnd (hnd (hnd (hlf (ok_istore_n dX11_told_81 rfl (by decide) rfl)) (hlf (ok_iconst dX11_told_82 (by decide) rfl))) (hnd (hlf (ok_istore dX11_told_83 (by decide) rfl)) (hlf (ok_iload dX11_told_85 rfl)))) (hnd (hnd (hlf (ok_aload_n dX11_told_87 rfl rfl)) (hlf (ok_getf (C := RX11) (T := TX11) dX11_told_88 rfl rfl (by decide) rfl inX11 wd_898 rfl))) (hnd (hlf (ok_icmp_ge dX11_told_91 (by decide) rfl)) (hlf (ok_iload_n dX11_told_94 rfl rfl))))) (hnd (hnd (hnd (hlf (ok_aload_n dX11_told_95 rfl rfl)) (hlf (ok_getf (C := RX11) (T := TX11) dX11_told_96 rfl rfl (by decide) rfl inX11 wd_904 rfl))) (hnd (hlf (ok_iload dX11_told_99 rfl)) (hlf (ok_iald dX11_told_101 rfl)))) (hnd (hnd (hlf (ok_if_ne dX11_told_102 (by decide) rfl)) (hlf (ok_aload_n dX11_told_105 rfl rfl))) (hnd (hlf (ok_getf (C := RX11) (T := TX11) dX11_told_106 rfl rfl (by decide) rfl inX11 wd_899 rfl)) (hnd (hlf (ok_iload dX11_told_109 rfl)) (hlf (ok_iald dX11_told_111 rfl))))))) (hnd (hnd (hnd (hnd (hlf (ok_iload_n dX11_told_112 rfl rfl)) (hlf (ok_icmp_ne dX11_told_113 (by decide) rfl))) (hnd (hlf (ok_aload_n dX11_told_116 rfl rfl)) (hlf (ok_getf (C := RX11) (T := TX11) dX11_told_117 rfl rfl (by decide) rfl inX11 wd_901 rfl)))) (hnd (hnd (hlf (ok_iload dX11_told_120 rfl)) (hlf (ok_iald dX11_told_122 rfl))) (hnd (hlf (ok_aload_n dX11_told_123 rfl rfl)) (hnd (hlf (ok_getf (C := RX11) (T := TX11) dX11_told_124 rfl rfl (by decide) rfl inX11 wd_877 rfl)) (hlf (ok_icmp_lt dX11_told_127 (by decide) rfl)))))) (hnd (hnd (hnd (hlf (ok_iconst dX11_told_130 (by decide) rfl)) (hlf (ok_goto dX11_told_131 (by decide)))) (hnd (hlf (ok_iconst dX11_told_134 (by decide) rfl)) (hlf (ok_iadd dX11_told_135 rfl)))) (hnd (hnd (hlf (ok_istore_n dX11_told_136 rfl (by decide) rfl)) (hlf (ok_iinc dX11_told_137 (by decide) (by decide) rfl))) (hnd (hlf (ok_goto dX11_told_140 (by decide))) (hnd (hlf (ok_iload_n dX11_told_143 rfl rfl)) (hlf (ok_iret dX11_told_144))))))))

def hd_X11_told : Nat → Bool := fun pc => Nat.beq pc 85
noncomputable def sp_X11_told : HSp := fun as w σ K => wp ins_X11_told (cutA hd_X11_told (I_X11_told K)) K 80 0 (loc0 5 as) [] w σ
theorem vc_X11_told : MVC ins_X11_told 5 3 sp_X11_told := by
  intro as w0 σ0 q _ hs
  refine ⟨hd_X11_told, I_X11_told q, 60, 80, ?_, hs⟩
  clear hs
  rintro N pc ls st w σ hh ⟨n, i, p, f, u, v, hn, hi, rfl, rfl, rfl, rfl, rfl, hq⟩
  obtain rfl := Nat.eq_of_beq_eq_true hh
  apply br2
  · intro h1
    obtain rfl := lp_end hn.2 hi h1
    exact hq
  intro h1
  have hn0 := hn.1
  have hlt := lp_go hn.2 hi h1
  have e1 : (nI i).toNatClampNeg = i := nI_clamp (by omega)
  have hin : vp_in (nI i) 100 := vp_in_nI (by omega) (by decide)
  have no : ¬ (σ 20 21 i = 0 ∧ σ 20 16 i = p ∧ ¬ σ 20 18 i < σ 11 0 0) → ∃ N', N' < n - i ∧ I_X11_told q 85 N' [some (HR 11 0), some (HI p), some (HI f), some (HI (nI (cnt (fun j => decide (σ 20 21 j = 0 ∧ σ 20 16 j = p ∧ ¬ σ 20 18 j < σ 11 0 0)) i) + 0)), some (HI (nI i + 1))] [] w σ := fun h =>
    ⟨n - (i + 1), by omega, n, i + 1, _, _, _, _, hn, hlt, rfl, by rw [cnt_n (decide_eq_false h)]; exact Int32.add_zero _, nI_1 i, rfl, rfl, hq⟩
  refine And.intro hin ?_
  apply br2
  rotate_left
  · intro h2
    have h2 : ¬ σ 20 21 (nI i).toNatClampNeg = 0 := h2
    rw [e1] at h2
    exact no fun z => h2 z.1
  intro h2
  have h2 : σ 20 21 (nI i).toNatClampNeg = 0 := h2
  rw [e1] at h2
  refine And.intro hin ?_
  apply br2
  rotate_left
  · intro h3
    have h3 : ¬ σ 20 16 (nI i).toNatClampNeg = p := h3
    rw [e1] at h3
    exact no fun z => h3 z.2.1
  intro h3
  have h3 : σ 20 16 (nI i).toNatClampNeg = p := h3
  rw [e1] at h3
  refine And.intro hin ?_
  apply br2
  · intro h4
    have h4 : σ 20 18 (nI i).toNatClampNeg < σ 11 0 0 := h4
    rw [e1] at h4
    exact no fun z => z.2.2 h4
  · intro h4
    have h4 : ¬ σ 20 18 (nI i).toNatClampNeg < σ 11 0 0 := h4
    rw [e1] at h4
    exact ⟨n - (i + 1), by omega, n, i + 1, _, _, _, _, hn, hlt, rfl, by rw [cnt_y (decide_eq_true ⟨h2, h3, h4⟩)]; exact nI_1 _, nI_1 i, rfl, rfl, hq⟩
theorem ct_X11_told : Ctr yX11_told cX11_told 5 (some .int) 3 0 0 3 sp_X11_told := ctr_of (by decide +kernel) rfl (by decide) ok_X11_told vc_X11_told

/-- states of the first i that are meant become 2 -/
def caS (σ : HS) (c : Nat → Bool) (i : Nat) : HS := fun k r f => if k = 20 ∧ r = 21 ∧ f < i ∧ c f = true then 2 else σ k r f
theorem caS_o {σ : HS} {c : Nat → Bool} {i k r f : Nat} (h : ¬ (k = 20 ∧ r = 21)) : caS σ c i k r f = σ k r f := if_neg fun z => h ⟨z.1, z.2.1⟩
theorem caS_0 (σ : HS) (c : Nat → Bool) : caS σ c 0 = σ := by
  funext k r f
  exact if_neg (by omega)
theorem caS_n {σ : HS} {c : Nat → Bool} {i : Nat} (h : c i = false) : caS σ c (i + 1) = caS σ c i := by
  funext k r f
  unfold caS
  by_cases z : k = 20 ∧ r = 21 ∧ f < i ∧ c f = true
  · rw [if_pos z, if_pos ⟨z.1, z.2.1, by omega, z.2.2.2⟩]
  · rw [if_neg z, if_neg fun y => ?_]
    rcases Nat.lt_succ_iff_lt_or_eq.mp y.2.2.1 with a | a
    · exact z ⟨y.1, y.2.1, a, y.2.2.2⟩
    · subst a; rw [h] at y; exact absurd y.2.2.2 (by decide)
theorem caS_y {σ : HS} {c : Nat → Bool} {i : Nat} (h : c i = true) : up3 (caS σ c i) 20 21 i 2 = caS σ c (i + 1) := by
  funext k r f
  unfold caS up3
  by_cases z : k = 20 ∧ r = 21 ∧ f = i
  · obtain ⟨rfl, rfl, rfl⟩ := z
    simp [h]
  · rw [if_neg z]
    show (if k = 20 ∧ r = 21 ∧ f < i ∧ c f = true then 2 else σ k r f) = _
    by_cases y : k = 20 ∧ r = 21 ∧ f < i ∧ c f = true
    · rw [if_pos y, if_pos ⟨y.1, y.2.1, by omega, y.2.2.2⟩]
    · rw [if_neg y, if_neg fun x => ?_]
      rcases Nat.lt_succ_iff_lt_or_eq.mp x.2.2.1 with a | a
      · exact y ⟨x.1, x.2.1, a, x.2.2.2⟩
      · exact z ⟨x.1, x.2.1, a⟩
theorem caS_i {σ : HS} {c : Nat → Bool} {i : Nat} : caS σ c i 20 21 i = σ 20 21 i := if_neg (by omega)
def oC (σ : HS) (x y d : Int32) (j : Nat) : Bool := decide (σ 20 21 j = 0 ∧ σ 20 16 j = x ∧ σ 20 17 j >>> (y &&& 31) &&& 1 = 1 ∧ ¬ σ 20 18 j < d ∧ ¬ σ 20 18 j < σ 11 0 0)
def I_X11_order (K : HRt) : Nat → Nat → HKp := fun _ N ls st w σ' => ∃ (σ : HS) (n i : Nat) (x y d u v : Int32), Nn σ n ∧ i ≤ n ∧ N = n - i ∧ u = nI (cnt (oC σ x y d) i) ∧ v = nI i ∧ ls = [some (HR 11 0), some (HI x), some (HI y), some (HI d), some (HI u), some (HI v)] ∧ st = [] ∧ σ' = caS σ (oC σ x y d) i ∧ K (some (HI (nI (cnt (oC σ x y d) n)))) w (caS σ (oC σ x y d) n)
theorem dX11_order_0 : decode cX11_order 0 = .ok (.aload_n 0, 1) := by decide +kernel
theorem dX11_order_1 : decode cX11_order 1 = .ok (.iload_n 1, 1) := by decide +kernel
theorem dX11_order_2 : decode cX11_order 2 = .ok (.invokevirtual 115, 3) := by decide +kernel
theorem dX11_order_5 : decode cX11_order 5 = .ok (.ifCond .eq 22, 3) := by decide +kernel
theorem dX11_order_8 : decode cX11_order 8 = .ok (.aload_n 0, 1) := by decide +kernel
theorem dX11_order_9 : decode cX11_order 9 = .ok (.iload_n 2, 1) := by decide +kernel
theorem dX11_order_10 : decode cX11_order 10 = .ok (.invokevirtual 111, 3) := by decide +kernel
theorem dX11_order_13 : decode cX11_order 13 = .ok (.ifCond .eq 14, 3) := by decide +kernel
theorem dX11_order_16 : decode cX11_order 16 = .ok (.iload_n 3, 1) := by decide +kernel
theorem dX11_order_17 : decode cX11_order 17 = .ok (.iconst 0, 1) := by decide +kernel
theorem dX11_order_18 : decode cX11_order 18 = .ok (.sipush 400, 3) := by decide +kernel
theorem dX11_order_21 : decode cX11_order 21 = .ok (.invokestatic 102, 3) := by decide +kernel
theorem dX11_order_24 : decode cX11_order 24 = .ok (.ifCond .ne 6, 3) := by decide +kernel
theorem dX11_order_27 : decode cX11_order 27 = .ok (.ldc 109, 2) := by decide +kernel
theorem dX11_order_29 : decode cX11_order 29 = .ok (.ireturn, 1) := by decide +kernel
theorem dX11_order_30 : decode cX11_order 30 = .ok (.aload_n 0, 1) := by decide +kernel
theorem dX11_order_31 : decode cX11_order 31 = .ok (.getfield 22, 3) := by decide +kernel
theorem dX11_order_34 : decode cX11_order 34 = .ok (.bipush 14, 2) := by decide +kernel
theorem dX11_order_36 : decode cX11_order 36 = .ok (.iload_n 1, 1) := by decide +kernel
theorem dX11_order_37 : decode cX11_order 37 = .ok (.imul, 1) := by decide +kernel
theorem dX11_order_38 : decode cX11_order 38 = .ok (.iload_n 2, 1) := by decide +kernel
theorem dX11_order_39 : decode cX11_order 39 = .ok (.iadd, 1) := by decide +kernel
theorem dX11_order_40 : decode cX11_order 40 = .ok (.iload_n 3, 1) := by decide +kernel
theorem dX11_order_41 : decode cX11_order 41 = .ok (.iastore, 1) := by decide +kernel
theorem dX11_order_42 : decode cX11_order 42 = .ok (.iconst 0, 1) := by decide +kernel
theorem dX11_order_43 : decode cX11_order 43 = .ok (.istore 4, 2) := by decide +kernel
theorem dX11_order_45 : decode cX11_order 45 = .ok (.iconst 0, 1) := by decide +kernel
theorem dX11_order_46 : decode cX11_order 46 = .ok (.istore 5, 2) := by decide +kernel
theorem dX11_order_48 : decode cX11_order 48 = .ok (.iload 5, 2) := by decide +kernel
theorem dX11_order_50 : decode cX11_order 50 = .ok (.aload_n 0, 1) := by decide +kernel
theorem dX11_order_51 : decode cX11_order 51 = .ok (.getfield 118, 3) := by decide +kernel
theorem dX11_order_54 : decode cX11_order 54 = .ok (.if_icmp .ge 80, 3) := by decide +kernel
theorem dX11_order_57 : decode cX11_order 57 = .ok (.aload_n 0, 1) := by decide +kernel
theorem dX11_order_58 : decode cX11_order 58 = .ok (.getfield 77, 3) := by decide +kernel
theorem dX11_order_61 : decode cX11_order 61 = .ok (.iload 5, 2) := by decide +kernel
theorem dX11_order_63 : decode cX11_order 63 = .ok (.iaload, 1) := by decide +kernel
theorem dX11_order_64 : decode cX11_order 64 = .ok (.ifCond .ne 64, 3) := by decide +kernel
theorem dX11_order_67 : decode cX11_order 67 = .ok (.aload_n 0, 1) := by decide +kernel
theorem dX11_order_68 : decode cX11_order 68 = .ok (.getfield 62, 3) := by decide +kernel
theorem dX11_order_71 : decode cX11_order 71 = .ok (.iload 5, 2) := by decide +kernel
theorem dX11_order_73 : decode cX11_order 73 = .ok (.iaload, 1) := by decide +kernel
theorem dX11_order_74 : decode cX11_order 74 = .ok (.iload_n 1, 1) := by decide +kernel
theorem dX11_order_75 : decode cX11_order 75 = .ok (.if_icmp .ne 53, 3) := by decide +kernel
theorem dX11_order_78 : decode cX11_order 78 = .ok (.aload_n 0, 1) := by decide +kernel
theorem dX11_order_79 : decode cX11_order 79 = .ok (.getfield 65, 3) := by decide +kernel
theorem dX11_order_82 : decode cX11_order 82 = .ok (.iload 5, 2) := by decide +kernel
theorem dX11_order_84 : decode cX11_order 84 = .ok (.iaload, 1) := by decide +kernel
theorem dX11_order_85 : decode cX11_order 85 = .ok (.iload_n 2, 1) := by decide +kernel
theorem dX11_order_86 : decode cX11_order 86 = .ok (.invokestatic 121, 3) := by decide +kernel
theorem dX11_order_89 : decode cX11_order 89 = .ok (.ifCond .eq 39, 3) := by decide +kernel
theorem dX11_order_92 : decode cX11_order 92 = .ok (.aload_n 0, 1) := by decide +kernel
theorem dX11_order_93 : decode cX11_order 93 = .ok (.getfield 68, 3) := by decide +kernel
theorem dX11_order_96 : decode cX11_order 96 = .ok (.iload 5, 2) := by decide +kernel
theorem dX11_order_98 : decode cX11_order 98 = .ok (.iaload, 1) := by decide +kernel
theorem dX11_order_99 : decode cX11_order 99 = .ok (.iload_n 3, 1) := by decide +kernel
theorem dX11_order_100 : decode cX11_order 100 = .ok (.if_icmp .lt 28, 3) := by decide +kernel
theorem dX11_order_103 : decode cX11_order 103 = .ok (.aload_n 0, 1) := by decide +kernel
theorem dX11_order_104 : decode cX11_order 104 = .ok (.getfield 68, 3) := by decide +kernel
theorem dX11_order_107 : decode cX11_order 107 = .ok (.iload 5, 2) := by decide +kernel
theorem dX11_order_109 : decode cX11_order 109 = .ok (.iaload, 1) := by decide +kernel
theorem dX11_order_110 : decode cX11_order 110 = .ok (.aload_n 0, 1) := by decide +kernel
theorem dX11_order_111 : decode cX11_order 111 = .ok (.getfield 125, 3) := by decide +kernel
theorem dX11_order_114 : decode cX11_order 114 = .ok (.if_icmp .lt 14, 3) := by decide +kernel
theorem dX11_order_117 : decode cX11_order 117 = .ok (.aload_n 0, 1) := by decide +kernel
theorem dX11_order_118 : decode cX11_order 118 = .ok (.getfield 77, 3) := by decide +kernel
theorem dX11_order_121 : decode cX11_order 121 = .ok (.iload 5, 2) := by decide +kernel
theorem dX11_order_123 : decode cX11_order 123 = .ok (.iconst 2, 1) := by decide +kernel
theorem dX11_order_124 : decode cX11_order 124 = .ok (.iastore, 1) := by decide +kernel
theorem dX11_order_125 : decode cX11_order 125 = .ok (.iinc 4 1, 3) := by decide +kernel
theorem dX11_order_128 : decode cX11_order 128 = .ok (.iinc 5 1, 3) := by decide +kernel
theorem dX11_order_131 : decode cX11_order 131 = .ok (.goto (-83), 3) := by decide +kernel
theorem dX11_order_134 : decode cX11_order 134 = .ok (.iload 4, 2) := by decide +kernel
theorem dX11_order_136 : decode cX11_order 136 = .ok (.ireturn, 1) := by decide +kernel
def ins_X11_order (pc : Nat) : HOp := cond (Nat.blt pc 64) (cond (Nat.blt pc 36) (cond (Nat.blt pc 17) (cond (Nat.blt pc 8) (cond (Nat.blt pc 2) (cond (Nat.blt pc 1) (cond (Nat.beq pc 0) (o_aload 0 1) o_bad) (cond (Nat.beq pc 1) (o_iload 1 2) o_bad)) (cond (Nat.blt pc 5) (cond (Nat.beq pc 2) (o_callV 2 11 sp_X11_isPrisoner 5) o_bad) (cond (Nat.beq pc 5) (o_if (fun x => x = 0) 27 8) o_bad))) (cond (Nat.blt pc 10) (cond (Nat.blt pc 9) (cond (Nat.beq pc 8) (o_aload 0 9) o_bad) (cond (Nat.beq pc 9) (o_iload 2 10) o_bad)) (cond (Nat.blt pc 13) (cond (Nat.beq pc 10) (o_callV 2 11 sp_X11_isVisitor 13) o_bad) (cond (Nat.blt pc 16) (cond (Nat.beq pc 13) (o_if (fun x => x = 0) 27 16) o_bad) (cond (Nat.beq pc 16) (o_iload 3 17) o_bad))))) (cond (Nat.blt pc 27) (cond (Nat.blt pc 21) (cond (Nat.blt pc 18) (cond (Nat.beq pc 17) (o_const (0) 18) o_bad) (cond (Nat.beq pc 18) (o_const (400) 21) o_bad)) (cond (Nat.blt pc 24) (cond (Nat.beq pc 21) (o_callS 3 sp_X11_isIn 24) o_bad) (cond (Nat.beq pc 24) (o_if (fun x => x = 0) 27 30) o_bad))) (cond (Nat.blt pc 30) (cond (Nat.blt pc 29) (cond (Nat.beq pc 27) (o_const (-1000000001) 29) o_bad) (cond (Nat.beq pc 29) (o_iret) o_bad)) (cond (Nat.blt pc 31) (cond (Nat.beq pc 30) (o_aload 0 31) o_bad) (cond (Nat.blt pc 34) (cond (Nat.beq pc 31) (o_getf 11 6 34) o_bad) (cond (Nat.beq pc 34) (o_const (14) 36) o_bad)))))) (cond (Nat.blt pc 46) (cond (Nat.blt pc 40) (cond (Nat.blt pc 38) (cond (Nat.blt pc 37) (cond (Nat.beq pc 36) (o_iload 1 37) o_bad) (cond (Nat.beq pc 37) (o_bin (fun x y => x * y) 38) o_bad)) (cond (Nat.blt pc 39) (cond (Nat.beq pc 38) (o_iload 2 39) o_bad) (cond (Nat.beq pc 39) (o_bin (fun x y => x + y) 40) o_bad))) (cond (Nat.blt pc 42) (cond (Nat.blt pc 41) (cond (Nat.beq pc 40) (o_iload 3 41) o_bad) (cond (Nat.beq pc 41) (o_iast 42) o_bad)) (cond (Nat.blt pc 43) (cond (Nat.beq pc 42) (o_const (0) 43) o_bad) (cond (Nat.blt pc 45) (cond (Nat.beq pc 43) (o_istore 4 45) o_bad) (cond (Nat.beq pc 45) (o_const (0) 46) o_bad))))) (cond (Nat.blt pc 54) (cond (Nat.blt pc 50) (cond (Nat.blt pc 48) (cond (Nat.beq pc 46) (o_istore 5 48) o_bad) (cond (Nat.beq pc 48) (o_iload 5 50) o_bad)) (cond (Nat.blt pc 51) (cond (Nat.beq pc 50) (o_aload 0 51) o_bad) (cond (Nat.beq pc 51) (o_getf 11 21 54) o_bad))) (cond (Nat.blt pc 58) (cond (Nat.blt pc 57) (cond (Nat.beq pc 54) (o_icmp (fun x y => y ≤ x) 134 57) o_bad) (cond (Nat.beq pc 57) (o_aload 0 58) o_bad)) (cond (Nat.blt pc 61) (cond (Nat.beq pc 58) (o_getf 11 27 61) o_bad) (cond (Nat.blt pc 63) (cond (Nat.beq pc 61) (o_iload 5 63) o_bad) (cond (Nat.beq pc 63) (o_iald 64) o_bad))))))) (cond (Nat.blt pc 99) (cond (Nat.blt pc 82) (cond (Nat.blt pc 73) (cond (Nat.blt pc 68) (cond (Nat.blt pc 67) (cond (Nat.beq pc 64) (o_if (fun x => x = 0) 67 128) o_bad) (cond (Nat.beq pc 67) (o_aload 0 68) o_bad)) (cond (Nat.blt pc 71) (cond (Nat.beq pc 68) (o_getf 11 22 71) o_bad) (cond (Nat.beq pc 71) (o_iload 5 73) o_bad))) (cond (Nat.blt pc 75) (cond (Nat.blt pc 74) (cond (Nat.beq pc 73) (o_iald 74) o_bad) (cond (Nat.beq pc 74) (o_iload 1 75) o_bad)) (cond (Nat.blt pc 78) (cond (Nat.beq pc 75) (o_icmp (fun x y => x = y) 78 128) o_bad) (cond (Nat.blt pc 79) (cond (Nat.beq pc 78) (o_aload 0 79) o_bad) (cond (Nat.beq pc 79) (o_getf 11 23 82) o_bad))))) (cond (Nat.blt pc 89) (cond (Nat.blt pc 85) (cond (Nat.blt pc 84) (cond (Nat.beq pc 82) (o_iload 5 84) o_bad) (cond (Nat.beq pc 84) (o_iald 85) o_bad)) (cond (Nat.blt pc 86) (cond (Nat.beq pc 85) (o_iload 2 86) o_bad) (cond (Nat.beq pc 86) (o_callS 2 sp_X11_has 89) o_bad))) (cond (Nat.blt pc 93) (cond (Nat.blt pc 92) (cond (Nat.beq pc 89) (o_if (fun x => x = 0) 128 92) o_bad) (cond (Nat.beq pc 92) (o_aload 0 93) o_bad)) (cond (Nat.blt pc 96) (cond (Nat.beq pc 93) (o_getf 11 24 96) o_bad) (cond (Nat.blt pc 98) (cond (Nat.beq pc 96) (o_iload 5 98) o_bad) (cond (Nat.beq pc 98) (o_iald 99) o_bad)))))) (cond (Nat.blt pc 117) (cond (Nat.blt pc 107) (cond (Nat.blt pc 103) (cond (Nat.blt pc 100) (cond (Nat.beq pc 99) (o_iload 3 100) o_bad) (cond (Nat.beq pc 100) (o_icmp (fun x y => x < y) 128 103) o_bad)) (cond (Nat.blt pc 104) (cond (Nat.beq pc 103) (o_aload 0 104) o_bad) (cond (Nat.beq pc 104) (o_getf 11 24 107) o_bad))) (cond (Nat.blt pc 110) (cond (Nat.blt pc 109) (cond (Nat.beq pc 107) (o_iload 5 109) o_bad) (cond (Nat.beq pc 109) (o_iald 110) o_bad)) (cond (Nat.blt pc 111) (cond (Nat.beq pc 110) (o_aload 0 111) o_bad) (cond (Nat.blt pc 114) (cond (Nat.beq pc 111) (o_getf 11 0 114) o_bad) (cond (Nat.beq pc 114) (o_icmp (fun x y => x < y) 128 117) o_bad))))) (cond (Nat.blt pc 125) (cond (Nat.blt pc 121) (cond (Nat.blt pc 118) (cond (Nat.beq pc 117) (o_aload 0 118) o_bad) (cond (Nat.beq pc 118) (o_getf 11 27 121) o_bad)) (cond (Nat.blt pc 123) (cond (Nat.beq pc 121) (o_iload 5 123) o_bad) (cond (Nat.blt pc 124) (cond (Nat.beq pc 123) (o_const (2) 124) o_bad) (cond (Nat.beq pc 124) (o_iast 125) o_bad)))) (cond (Nat.blt pc 131) (cond (Nat.blt pc 128) (cond (Nat.beq pc 125) (o_iinc 4 (1) 128) o_bad) (cond (Nat.beq pc 128) (o_iinc 5 (1) 131) o_bad)) (cond (Nat.blt pc 134) (cond (Nat.beq pc 131) (o_goto 48) o_bad) (cond (Nat.blt pc 136) (cond (Nat.beq pc 134) (o_iload 4 136) o_bad) (cond (Nat.beq pc 136) (o_iret) o_bad)))))))
set_option maxRecDepth 20000 in
theorem ok_X11_order : HOKs cX11_order RX11 6 (some .int) 3 ins_X11_order := fun _ => hnd (hnd (hnd (hnd (hnd (hnd (hlf (ok_aload_n dX11_order_0 rfl rfl)) (hlf (ok_iload_n dX11_order_1 rfl rfl))) (hnd (hlf (ok_callV (y := yX11_isPrisoner) (n' := 1) (C := RX11) (T := TX11) dX11_order_2 ct_X11_isPrisoner (by decide) (by decide) wd_1039 wd_1036 wd_1038 wd_18 wd_50 rfl (by decide +kernel) rfl rfl rfl)) (hlf (ok_if_eq dX11_order_5 (by decide) rfl)))) (hnd (hnd (hlf (ok_aload_n dX11_order_8 rfl rfl)) (hlf (ok_iload_n dX11_order_9 rfl rfl))) (hnd (hlf (ok_callV (y := yX11_isVisitor) (n' := 1) (C := RX11) (T := TX11) dX11_order_10 ct_X11_isVisitor (by decide) (by decide) wd_1031 wd_1028 wd_1030 wd_17 wd_50 rfl (by decide +kernel) rfl rfl rfl)) (hnd (hlf (ok_if_eq dX11_order_13 (by decide) rfl)) (hlf (ok_iload_n dX11_order_16 rfl rfl)))))) (hnd (hnd (hnd (hlf (ok_iconst dX11_order_17 (by decide) rfl)) (hlf (ok_sipush dX11_order_18 (by decide) rfl))) (hnd (hlf (ok_callS (y := yX11_isIn) dX11_order_21 ct_X11_isIn (by decide) (by decide) wd_1017 wd_1015 wd_1016 wd_50 (by decide +kernel) rfl)) (hlf (ok_if_ne dX11_order_24 (by decide) rfl)))) (hnd (hnd (hlf (ok_ldc dX11_order_27 wd_1018 rfl)) (hlf (ok_iret dX11_order_29))) (hnd (hlf (ok_aload_n dX11_order_30 rfl rfl)) (hnd (hlf (ok_getf (C := RX11) (T := TX11) dX11_order_31 rfl rfl (by decide) rfl inX11 wd_883 rfl)) (hlf (ok_bipush dX11_order_34 (by decide) rfl))))))) (hnd (hnd (hnd (hnd (hlf (ok_iload_n dX11_order_36 rfl rfl)) (hlf (ok_imul dX11_order_37 rfl))) (hnd (hlf (ok_iload_n dX11_order_38 rfl rfl)) (hlf (ok_iadd dX11_order_39 rfl)))) (hnd (hnd (hlf (ok_iload_n dX11_order_40 rfl rfl)) (hlf (ok_iast dX11_order_41 rfl))) (hnd (hlf (ok_iconst dX11_order_42 (by decide) rfl)) (hnd (hlf (ok_istore dX11_order_43 (by decide) rfl)) (hlf (ok_iconst dX11_order_45 (by decide) rfl)))))) (hnd (hnd (hnd (hlf (ok_istore dX11_order_46 (by decide) rfl)) (hlf (ok_iload dX11_order_48 rfl))) (hnd (hlf (ok_aload_n dX11_order_50 rfl rfl)) (hlf (ok_getf (C := RX11) (T := TX11) dX11_order_51 rfl rfl (by decide) rfl inX11 wd_898 rfl)))) (hnd (hnd (hlf (ok_icmp_ge dX11_order_54 (by decide) rfl)) (hlf (ok_aload_n dX11_order_57 rfl rfl))) (hnd (hlf (ok_getf (C := RX11) (T := TX11) dX11_order_58 rfl rfl (by decide) rfl inX11 wd_904 rfl)) (hnd (hlf (ok_iload dX11_order_61 rfl)) (hlf (ok_iald dX11_order_63 rfl)))))))) (hnd (hnd (hnd (hnd (hnd (hlf (ok_if_ne dX11_order_64 (by decide) rfl)) (hlf (ok_aload_n dX11_order_67 rfl rfl))) (hnd (hlf (ok_getf (C := RX11) (T := TX11) dX11_order_68 rfl rfl (by decide) rfl inX11 wd_899 rfl)) (hlf (ok_iload dX11_order_71 rfl)))) (hnd (hnd (hlf (ok_iald dX11_order_73 rfl)) (hlf (ok_iload_n dX11_order_74 rfl rfl))) (hnd (hlf (ok_icmp_ne dX11_order_75 (by decide) rfl)) (hnd (hlf (ok_aload_n dX11_order_78 rfl rfl)) (hlf (ok_getf (C := RX11) (T := TX11) dX11_order_79 rfl rfl (by decide) rfl inX11 wd_900 rfl)))))) (hnd (hnd (hnd (hlf (ok_iload dX11_order_82 rfl)) (hlf (ok_iald dX11_order_84 rfl))) (hnd (hlf (ok_iload_n dX11_order_85 rfl rfl)) (hlf (ok_callS (y := yX11_has) dX11_order_86 ct_X11_has (by decide) (by decide) wd_1046 wd_1044 wd_1045 wd_50 (by decide +kernel) rfl)))) (hnd (hnd (hlf (ok_if_eq dX11_order_89 (by decide) rfl)) (hlf (ok_aload_n dX11_order_92 rfl rfl))) (hnd (hlf (ok_getf (C := RX11) (T := TX11) dX11_order_93 rfl rfl (by decide) rfl inX11 wd_901 rfl)) (hnd (hlf (ok_iload dX11_order_96 rfl)) (hlf (ok_iald dX11_order_98 rfl))))))) (hnd (hnd (hnd (hnd (hlf (ok_iload_n dX11_order_99 rfl rfl)) (hlf (ok_icmp_lt dX11_order_100 (by decide) rfl))) (hnd (hlf (ok_aload_n dX11_order_103 rfl rfl)) (hlf (ok_getf (C := RX11) (T := TX11) dX11_order_104 rfl rfl (by decide) rfl inX11 wd_901 rfl)))) (hnd (hnd (hlf (ok_iload dX11_order_107 rfl)) (hlf (ok_iald dX11_order_109 rfl))) (hnd (hlf (ok_aload_n dX11_order_110 rfl rfl)) (hnd (hlf (ok_getf (C := RX11) (T := TX11) dX11_order_111 rfl rfl (by decide) rfl inX11 wd_877 rfl)) (hlf (ok_icmp_lt dX11_order_114 (by decide) rfl)))))) (hnd (hnd (hnd (hlf (ok_aload_n dX11_order_117 rfl rfl)) (hlf (ok_getf (C := RX11) (T := TX11) dX11_order_118 rfl rfl (by decide) rfl inX11 wd_904 rfl))) (hnd (hlf (ok_iload dX11_order_121 rfl)) (hnd (hlf (ok_iconst dX11_order_123 (by decide) rfl)) (hlf (ok_iast dX11_order_124 rfl))))) (hnd (hnd (hlf (ok_iinc dX11_order_125 (by decide) (by decide) rfl)) (hlf (ok_iinc dX11_order_128 (by decide) (by decide) rfl))) (hnd (hlf (ok_goto dX11_order_131 (by decide))) (hnd (hlf (ok_iload dX11_order_134 rfl)) (hlf (ok_iret dX11_order_136))))))))

set_option maxHeartbeats 1000000 in
def hd_X11_order : Nat → Bool := fun pc => Nat.beq pc 48
noncomputable def sp_X11_order : HSp := fun as w σ K => wp ins_X11_order (cutA hd_X11_order (I_X11_order K)) K 80 0 (loc0 6 as) [] w σ
theorem vc_X11_order : MVC ins_X11_order 6 4 sp_X11_order := by
  intro as w0 σ0 q _ hs
  refine ⟨hd_X11_order, I_X11_order q, 80, 80, ?_, hs⟩
  clear hs
  rintro N pc ls st w σ' hh ⟨σ, n, i, x, y, d, u, v, hn, hi, rfl, rfl, rfl, rfl, rfl, rfl, hq⟩
  obtain rfl := Nat.eq_of_beq_eq_true hh
  have h11 : ∀ f, caS σ (oC σ x y d) i 11 0 f = σ 11 0 f := fun f => caS_o (by omega)
  have hn2 : caS σ (oC σ x y d) i 11 0 21 = nI n := by rw [h11]; exact hn.2
  apply br2
  · intro h1
    obtain rfl := lp_end hn2 hi h1
    exact hq
  intro h1
  have hn0 := hn.1
  have hlt := lp_go hn2 hi h1
  have e1 : (nI i).toNatClampNeg = i := nI_clamp (by omega)
  have hin : vp_in (nI i) 100 := vp_in_nI (by omega) (by decide)
  have h20 : ∀ r, r ≠ 21 → caS σ (oC σ x y d) i 20 r (nI i).toNatClampNeg = σ 20 r i := fun r hr => by rw [e1]; exact caS_o (by omega)
  have h21 : caS σ (oC σ x y d) i 20 21 (nI i).toNatClampNeg = σ 20 21 i := by rw [e1]; exact caS_i
  have no : ¬ (σ 20 21 i = 0 ∧ σ 20 16 i = x ∧ σ 20 17 i >>> (y &&& 31) &&& 1 = 1 ∧ ¬ σ 20 18 i < d ∧ ¬ σ 20 18 i < σ 11 0 0) → ∃ N', N' < n - i ∧ I_X11_order q 48 N' [some (HR 11 0), some (HI x), some (HI y), some (HI d), some (HI (nI (cnt (oC σ x y d) i))), some (HI (nI i + 1))] [] w (caS σ (oC σ x y d) i) := fun h =>
    ⟨n - (i + 1), by omega, σ, n, i + 1, _, _, _, _, _, hn, hlt, rfl, by rw [cnt_n (decide_eq_false h)], nI_1 i, rfl, rfl, (caS_n (decide_eq_false h)).symm, hq⟩
  refine And.intro hin ?_
  apply br2
  rotate_left
  · intro h2
    have h2 : ¬ caS σ (oC σ x y d) i 20 21 (nI i).toNatClampNeg = 0 := h2
    rw [h21] at h2
    exact no fun z => h2 z.1
  intro h2
  have h2 : caS σ (oC σ x y d) i 20 21 (nI i).toNatClampNeg = 0 := h2
  rw [h21] at h2
  refine And.intro hin ?_
  apply br2
  rotate_left
  · intro h3
    have h3 : ¬ caS σ (oC σ x y d) i 20 16 (nI i).toNatClampNeg = x := h3
    rw [h20 16 (by decide)] at h3
    exact no fun z => h3 z.2.1
  intro h3
  have h3 : caS σ (oC σ x y d) i 20 16 (nI i).toNatClampNeg = x := h3
  rw [h20 16 (by decide)] at h3
  refine And.intro hin ?_
  apply br2
  rotate_left
  · intro h4
    have h4 : ¬ caS σ (oC σ x y d) i 20 17 (nI i).toNatClampNeg >>> (y &&& 31) &&& 1 = 1 := h4
    rw [h20 17 (by decide)] at h4
    exact And.intro (fun _ => no fun z => h4 z.2.2.1) (fun h => absurd rfl h)
  intro h4
  have h4 : caS σ (oC σ x y d) i 20 17 (nI i).toNatClampNeg >>> (y &&& 31) &&& 1 = 1 := h4
  rw [h20 17 (by decide)] at h4
  refine And.intro (fun h => absurd h (by decide)) (fun _ => And.intro hin ?_)
  apply br2
  · intro h5
    have h5 : caS σ (oC σ x y d) i 20 18 (nI i).toNatClampNeg < d := h5
    rw [h20 18 (by decide)] at h5
    exact no fun z => z.2.2.2.1 h5
  intro h5
  have h5 : ¬ caS σ (oC σ x y d) i 20 18 (nI i).toNatClampNeg < d := h5
  rw [h20 18 (by decide)] at h5
  refine And.intro hin ?_
  apply br2
  · intro h6
    have h6 : caS σ (oC σ x y d) i 20 18 (nI i).toNatClampNeg < caS σ (oC σ x y d) i 11 0 0 := h6
    rw [h20 18 (by decide), h11] at h6
    exact no fun z => z.2.2.2.2 h6
  · intro h6
    have h6 : ¬ caS σ (oC σ x y d) i 20 18 (nI i).toNatClampNeg < caS σ (oC σ x y d) i 11 0 0 := h6
    rw [h20 18 (by decide), h11] at h6
    have hc : oC σ x y d i = true := decide_eq_true ⟨h2, h3, h4, h5, h6⟩
    refine And.intro hin ?_
    exact ⟨n - (i + 1), by omega, σ, n, i + 1, _, _, _, _, _, hn, hlt, rfl, by rw [cnt_y hc]; exact nI_1 _, nI_1 i, rfl, rfl, by rw [e1]; exact caS_y hc, hq⟩
theorem ct_X11_order : Ctr yX11_order cX11_order 6 (some .int) 3 0 0 4 sp_X11_order := ctr_of (by decide +kernel) rfl (by decide) ok_X11_order vc_X11_order

def mC (σ : HS) (x : Int32) (j : Nat) : Bool := decide (σ 20 21 j = 0 ∧ σ 20 16 j = x ∧ ¬ σ 20 18 j < σ 11 0 0)
def I_X11_move (K : HRt) : Nat → Nat → HKp := fun _ N ls st w σ' => ∃ (σ : HS) (n np nv i : Nat) (x u v : Int32), Nn σ n ∧ i ≤ n ∧ N = n - i ∧ u = nI (cnt (mC σ x) i) ∧ v = nI i ∧ ls = [some (HR 11 0), some (HI x), some (HI u), some (HI v)] ∧ st = [] ∧ σ' = caS σ (mC σ x) i ∧ MWf (caS σ (mC σ x) n) n np nv ∧ VWm (caS σ (mC σ x) n) n np ∧ ∀ σ2, eqB (msS (caS σ (mC σ x) n) (wlM (caS σ (mC σ x) n) n nv n).1 n) σ2 → K (some (HI (nI (cnt (mC σ x) n)))) w σ2
theorem dX11_move_0 : decode cX11_move 0 = .ok (.aload_n 0, 1) := by decide +kernel
theorem dX11_move_1 : decode cX11_move 1 = .ok (.iload_n 1, 1) := by decide +kernel
theorem dX11_move_2 : decode cX11_move 2 = .ok (.invokevirtual 115, 3) := by decide +kernel
theorem dX11_move_5 : decode cX11_move 5 = .ok (.ifCond .ne 6, 3) := by decide +kernel
theorem dX11_move_8 : decode cX11_move 8 = .ok (.ldc 109, 2) := by decide +kernel
theorem dX11_move_10 : decode cX11_move 10 = .ok (.ireturn, 1) := by decide +kernel
theorem dX11_move_11 : decode cX11_move 11 = .ok (.aload_n 0, 1) := by decide +kernel
theorem dX11_move_12 : decode cX11_move 12 = .ok (.getfield 16, 3) := by decide +kernel
theorem dX11_move_15 : decode cX11_move 15 = .ok (.iload_n 1, 1) := by decide +kernel
theorem dX11_move_16 : decode cX11_move 16 = .ok (.iaload, 1) := by decide +kernel
theorem dX11_move_17 : decode cX11_move 17 = .ok (.ifCond .ne 6, 3) := by decide +kernel
theorem dX11_move_20 : decode cX11_move 20 = .ok (.ldc 128, 2) := by decide +kernel
theorem dX11_move_22 : decode cX11_move 22 = .ok (.ireturn, 1) := by decide +kernel
theorem dX11_move_23 : decode cX11_move 23 = .ok (.aload_n 0, 1) := by decide +kernel
theorem dX11_move_24 : decode cX11_move 24 = .ok (.getfield 16, 3) := by decide +kernel
theorem dX11_move_27 : decode cX11_move 27 = .ok (.iload_n 1, 1) := by decide +kernel
theorem dX11_move_28 : decode cX11_move 28 = .ok (.iconst 0, 1) := by decide +kernel
theorem dX11_move_29 : decode cX11_move 29 = .ok (.iastore, 1) := by decide +kernel
theorem dX11_move_30 : decode cX11_move 30 = .ok (.iconst 0, 1) := by decide +kernel
theorem dX11_move_31 : decode cX11_move 31 = .ok (.istore_n 2, 1) := by decide +kernel
theorem dX11_move_32 : decode cX11_move 32 = .ok (.iconst 0, 1) := by decide +kernel
theorem dX11_move_33 : decode cX11_move 33 = .ok (.istore_n 3, 1) := by decide +kernel
theorem dX11_move_34 : decode cX11_move 34 = .ok (.iload_n 3, 1) := by decide +kernel
theorem dX11_move_35 : decode cX11_move 35 = .ok (.aload_n 0, 1) := by decide +kernel
theorem dX11_move_36 : decode cX11_move 36 = .ok (.getfield 118, 3) := by decide +kernel
theorem dX11_move_39 : decode cX11_move 39 = .ok (.if_icmp .ge 51, 3) := by decide +kernel
theorem dX11_move_42 : decode cX11_move 42 = .ok (.aload_n 0, 1) := by decide +kernel
theorem dX11_move_43 : decode cX11_move 43 = .ok (.getfield 77, 3) := by decide +kernel
theorem dX11_move_46 : decode cX11_move 46 = .ok (.iload_n 3, 1) := by decide +kernel
theorem dX11_move_47 : decode cX11_move 47 = .ok (.iaload, 1) := by decide +kernel
theorem dX11_move_48 : decode cX11_move 48 = .ok (.ifCond .ne 36, 3) := by decide +kernel
theorem dX11_move_51 : decode cX11_move 51 = .ok (.aload_n 0, 1) := by decide +kernel
theorem dX11_move_52 : decode cX11_move 52 = .ok (.getfield 62, 3) := by decide +kernel
theorem dX11_move_55 : decode cX11_move 55 = .ok (.iload_n 3, 1) := by decide +kernel
theorem dX11_move_56 : decode cX11_move 56 = .ok (.iaload, 1) := by decide +kernel
theorem dX11_move_57 : decode cX11_move 57 = .ok (.iload_n 1, 1) := by decide +kernel
theorem dX11_move_58 : decode cX11_move 58 = .ok (.if_icmp .ne 26, 3) := by decide +kernel
theorem dX11_move_61 : decode cX11_move 61 = .ok (.aload_n 0, 1) := by decide +kernel
theorem dX11_move_62 : decode cX11_move 62 = .ok (.getfield 68, 3) := by decide +kernel
theorem dX11_move_65 : decode cX11_move 65 = .ok (.iload_n 3, 1) := by decide +kernel
theorem dX11_move_66 : decode cX11_move 66 = .ok (.iaload, 1) := by decide +kernel
theorem dX11_move_67 : decode cX11_move 67 = .ok (.aload_n 0, 1) := by decide +kernel
theorem dX11_move_68 : decode cX11_move 68 = .ok (.getfield 125, 3) := by decide +kernel
theorem dX11_move_71 : decode cX11_move 71 = .ok (.if_icmp .lt 13, 3) := by decide +kernel
theorem dX11_move_74 : decode cX11_move 74 = .ok (.aload_n 0, 1) := by decide +kernel
theorem dX11_move_75 : decode cX11_move 75 = .ok (.getfield 77, 3) := by decide +kernel
theorem dX11_move_78 : decode cX11_move 78 = .ok (.iload_n 3, 1) := by decide +kernel
theorem dX11_move_79 : decode cX11_move 79 = .ok (.iconst 2, 1) := by decide +kernel
theorem dX11_move_80 : decode cX11_move 80 = .ok (.iastore, 1) := by decide +kernel
theorem dX11_move_81 : decode cX11_move 81 = .ok (.iinc 2 1, 3) := by decide +kernel
theorem dX11_move_84 : decode cX11_move 84 = .ok (.iinc 3 1, 3) := by decide +kernel
theorem dX11_move_87 : decode cX11_move 87 = .ok (.goto (-53), 3) := by decide +kernel
theorem dX11_move_90 : decode cX11_move 90 = .ok (.aload_n 0, 1) := by decide +kernel
theorem dX11_move_91 : decode cX11_move 91 = .ok (.invokevirtual 129, 3) := by decide +kernel
theorem dX11_move_94 : decode cX11_move 94 = .ok (.istore_n 3, 1) := by decide +kernel
theorem dX11_move_95 : decode cX11_move 95 = .ok (.iload_n 2, 1) := by decide +kernel
theorem dX11_move_96 : decode cX11_move 96 = .ok (.ireturn, 1) := by decide +kernel
def ins_X11_move (pc : Nat) : HOp := cond (Nat.blt pc 46) (cond (Nat.blt pc 24) (cond (Nat.blt pc 12) (cond (Nat.blt pc 5) (cond (Nat.blt pc 1) (cond (Nat.beq pc 0) (o_aload 0 1) o_bad) (cond (Nat.blt pc 2) (cond (Nat.beq pc 1) (o_iload 1 2) o_bad) (cond (Nat.beq pc 2) (o_callV 2 11 sp_X11_isPrisoner 5) o_bad))) (cond (Nat.blt pc 10) (cond (Nat.blt pc 8) (cond (Nat.beq pc 5) (o_if (fun x => x = 0) 8 11) o_bad) (cond (Nat.beq pc 8) (o_const (-1000000001) 10) o_bad)) (cond (Nat.blt pc 11) (cond (Nat.beq pc 10) (o_iret) o_bad) (cond (Nat.beq pc 11) (o_aload 0 12) o_bad)))) (cond (Nat.blt pc 17) (cond (Nat.blt pc 15) (cond (Nat.beq pc 12) (o_getf 11 4 15) o_bad) (cond (Nat.blt pc 16) (cond (Nat.beq pc 15) (o_iload 1 16) o_bad) (cond (Nat.beq pc 16) (o_iald 17) o_bad))) (cond (Nat.blt pc 22) (cond (Nat.blt pc 20) (cond (Nat.beq pc 17) (o_if (fun x => x = 0) 20 23) o_bad) (cond (Nat.beq pc 20) (o_const (-1000000002) 22) o_bad)) (cond (Nat.blt pc 23) (cond (Nat.beq pc 22) (o_iret) o_bad) (cond (Nat.beq pc 23) (o_aload 0 24) o_bad))))) (cond (Nat.blt pc 33) (cond (Nat.blt pc 29) (cond (Nat.blt pc 27) (cond (Nat.beq pc 24) (o_getf 11 4 27) o_bad) (cond (Nat.blt pc 28) (cond (Nat.beq pc 27) (o_iload 1 28) o_bad) (cond (Nat.beq pc 28) (o_const (0) 29) o_bad))) (cond (Nat.blt pc 31) (cond (Nat.blt pc 30) (cond (Nat.beq pc 29) (o_iast 30) o_bad) (cond (Nat.beq pc 30) (o_const (0) 31) o_bad)) (cond (Nat.blt pc 32) (cond (Nat.beq pc 31) (o_istore 2 32) o_bad) (cond (Nat.beq pc 32) (o_const (0) 33) o_bad)))) (cond (Nat.blt pc 36) (cond (Nat.blt pc 34) (cond (Nat.beq pc 33) (o_istore 3 34) o_bad) (cond (Nat.blt pc 35) (cond (Nat.beq pc 34) (o_iload 3 35) o_bad) (cond (Nat.beq pc 35) (o_aload 0 36) o_bad))) (cond (Nat.blt pc 42) (cond (Nat.blt pc 39) (cond (Nat.beq pc 36) (o_getf 11 21 39) o_bad) (cond (Nat.beq pc 39) (o_icmp (fun x y => y ≤ x) 90 42) o_bad)) (cond (Nat.blt pc 43) (cond (Nat.beq pc 42) (o_aload 0 43) o_bad) (cond (Nat.beq pc 43) (o_getf 11 27 46) o_bad)))))) (cond (Nat.blt pc 68) (cond (Nat.blt pc 57) (cond (Nat.blt pc 51) (cond (Nat.blt pc 47) (cond (Nat.beq pc 46) (o_iload 3 47) o_bad) (cond (Nat.blt pc 48) (cond (Nat.beq pc 47) (o_iald 48) o_bad) (cond (Nat.beq pc 48) (o_if (fun x => x = 0) 51 84) o_bad))) (cond (Nat.blt pc 55) (cond (Nat.blt pc 52) (cond (Nat.beq pc 51) (o_aload 0 52) o_bad) (cond (Nat.beq pc 52) (o_getf 11 22 55) o_bad)) (cond (Nat.blt pc 56) (cond (Nat.beq pc 55) (o_iload 3 56) o_bad) (cond (Nat.beq pc 56) (o_iald 57) o_bad)))) (cond (Nat.blt pc 62) (cond (Nat.blt pc 58) (cond (Nat.beq pc 57) (o_iload 1 58) o_bad) (cond (Nat.blt pc 61) (cond (Nat.beq pc 58) (o_icmp (fun x y => x = y) 61 84) o_bad) (cond (Nat.beq pc 61) (o_aload 0 62) o_bad))) (cond (Nat.blt pc 66) (cond (Nat.blt pc 65) (cond (Nat.beq pc 62) (o_getf 11 24 65) o_bad) (cond (Nat.beq pc 65) (o_iload 3 66) o_bad)) (cond (Nat.blt pc 67) (cond (Nat.beq pc 66) (o_iald 67) o_bad) (cond (Nat.beq pc 67) (o_aload 0 68) o_bad))))) (cond (Nat.blt pc 81) (cond (Nat.blt pc 75) (cond (Nat.blt pc 71) (cond (Nat.beq pc 68) (o_getf 11 0 71) o_bad) (cond (Nat.blt pc 74) (cond (Nat.beq pc 71) (o_icmp (fun x y => x < y) 84 74) o_bad) (cond (Nat.beq pc 74) (o_aload 0 75) o_bad))) (cond (Nat.blt pc 79) (cond (Nat.blt pc 78) (cond (Nat.beq pc 75) (o_getf 11 27 78) o_bad) (cond (Nat.beq pc 78) (o_iload 3 79) o_bad)) (cond (Nat.blt pc 80) (cond (Nat.beq pc 79) (o_const (2) 80) o_bad) (cond (Nat.beq pc 80) (o_iast 81) o_bad)))) (cond (Nat.blt pc 91) (cond (Nat.blt pc 87) (cond (Nat.blt pc 84) (cond (Nat.beq pc 81) (o_iinc 2 (1) 84) o_bad) (cond (Nat.beq pc 84) (o_iinc 3 (1) 87) o_bad)) (cond (Nat.blt pc 90) (cond (Nat.beq pc 87) (o_goto 34) o_bad) (cond (Nat.beq pc 90) (o_aload 0 91) o_bad))) (cond (Nat.blt pc 95) (cond (Nat.blt pc 94) (cond (Nat.beq pc 91) (o_callV 1 11 sp_X11_walk 94) o_bad) (cond (Nat.beq pc 94) (o_istore 3 95) o_bad)) (cond (Nat.blt pc 96) (cond (Nat.beq pc 95) (o_iload 2 96) o_bad) (cond (Nat.beq pc 96) (o_iret) o_bad))))))
set_option maxRecDepth 20000 in
theorem ok_X11_move : HOKs cX11_move RX11 4 (some .int) 7 ins_X11_move := fun _ => hnd (hnd (hnd (hnd (hnd (hlf (ok_aload_n dX11_move_0 rfl rfl)) (hnd (hlf (ok_iload_n dX11_move_1 rfl rfl)) (hlf (ok_callV (y := yX11_isPrisoner) (n' := 1) (C := RX11) (T := TX11) dX11_move_2 ct_X11_isPrisoner (by decide) (by decide) wd_1039 wd_1036 wd_1038 wd_18 wd_50 rfl (by decide +kernel) rfl rfl rfl)))) (hnd (hnd (hlf (ok_if_ne dX11_move_5 (by decide) rfl)) (hlf (ok_ldc dX11_move_8 wd_1018 rfl))) (hnd (hlf (ok_iret dX11_move_10)) (hlf (ok_aload_n dX11_move_11 rfl rfl))))) (hnd (hnd (hlf (ok_getf (C := RX11) (T := TX11) dX11_move_12 rfl rfl (by decide) rfl inX11 wd_881 rfl)) (hnd (hlf (ok_iload_n dX11_move_15 rfl rfl)) (hlf (ok_iald dX11_move_16 rfl)))) (hnd (hnd (hlf (ok_if_ne dX11_move_17 (by decide) rfl)) (hlf (ok_ldc dX11_move_20 wd_1051 rfl))) (hnd (hlf (ok_iret dX11_move_22)) (hlf (ok_aload_n dX11_move_23 rfl rfl)))))) (hnd (hnd (hnd (hlf (ok_getf (C := RX11) (T := TX11) dX11_move_24 rfl rfl (by decide) rfl inX11 wd_881 rfl)) (hnd (hlf (ok_iload_n dX11_move_27 rfl rfl)) (hlf (ok_iconst dX11_move_28 (by decide) rfl)))) (hnd (hnd (hlf (ok_iast dX11_move_29 rfl)) (hlf (ok_iconst dX11_move_30 (by decide) rfl))) (hnd (hlf (ok_istore_n dX11_move_31 rfl (by decide) rfl)) (hlf (ok_iconst dX11_move_32 (by decide) rfl))))) (hnd (hnd (hlf (ok_istore_n dX11_move_33 rfl (by decide) rfl)) (hnd (hlf (ok_iload_n dX11_move_34 rfl rfl)) (hlf (ok_aload_n dX11_move_35 rfl rfl)))) (hnd (hnd (hlf (ok_getf (C := RX11) (T := TX11) dX11_move_36 rfl rfl (by decide) rfl inX11 wd_898 rfl)) (hlf (ok_icmp_ge dX11_move_39 (by decide) rfl))) (hnd (hlf (ok_aload_n dX11_move_42 rfl rfl)) (hlf (ok_getf (C := RX11) (T := TX11) dX11_move_43 rfl rfl (by decide) rfl inX11 wd_904 rfl))))))) (hnd (hnd (hnd (hnd (hlf (ok_iload_n dX11_move_46 rfl rfl)) (hnd (hlf (ok_iald dX11_move_47 rfl)) (hlf (ok_if_ne dX11_move_48 (by decide) rfl)))) (hnd (hnd (hlf (ok_aload_n dX11_move_51 rfl rfl)) (hlf (ok_getf (C := RX11) (T := TX11) dX11_move_52 rfl rfl (by decide) rfl inX11 wd_899 rfl))) (hnd (hlf (ok_iload_n dX11_move_55 rfl rfl)) (hlf (ok_iald dX11_move_56 rfl))))) (hnd (hnd (hlf (ok_iload_n dX11_move_57 rfl rfl)) (hnd (hlf (ok_icmp_ne dX11_move_58 (by decide) rfl)) (hlf (ok_aload_n dX11_move_61 rfl rfl)))) (hnd (hnd (hlf (ok_getf (C := RX11) (T := TX11) dX11_move_62 rfl rfl (by decide) rfl inX11 wd_901 rfl)) (hlf (ok_iload_n dX11_move_65 rfl rfl))) (hnd (hlf (ok_iald dX11_move_66 rfl)) (hlf (ok_aload_n dX11_move_67 rfl rfl)))))) (hnd (hnd (hnd (hlf (ok_getf (C := RX11) (T := TX11) dX11_move_68 rfl rfl (by decide) rfl inX11 wd_877 rfl)) (hnd (hlf (ok_icmp_lt dX11_move_71 (by decide) rfl)) (hlf (ok_aload_n dX11_move_74 rfl rfl)))) (hnd (hnd (hlf (ok_getf (C := RX11) (T := TX11) dX11_move_75 rfl rfl (by decide) rfl inX11 wd_904 rfl)) (hlf (ok_iload_n dX11_move_78 rfl rfl))) (hnd (hlf (ok_iconst dX11_move_79 (by decide) rfl)) (hlf (ok_iast dX11_move_80 rfl))))) (hnd (hnd (hnd (hlf (ok_iinc dX11_move_81 (by decide) (by decide) rfl)) (hlf (ok_iinc dX11_move_84 (by decide) (by decide) rfl))) (hnd (hlf (ok_goto dX11_move_87 (by decide))) (hlf (ok_aload_n dX11_move_90 rfl rfl)))) (hnd (hnd (hlf (ok_callV (y := yX11_walk) (n' := 0) (C := RX11) (T := TX11) dX11_move_91 ct_X11_walk (by decide) (by decide) wd_1055 wd_1052 wd_1054 wd_19 wd_50 rfl (by decide +kernel) rfl rfl rfl)) (hlf (ok_istore_n dX11_move_94 rfl (by decide) rfl))) (hnd (hlf (ok_iload_n dX11_move_95 rfl rfl)) (hlf (ok_iret dX11_move_96)))))))

set_option maxHeartbeats 1000000 in
def hd_X11_move : Nat → Bool := fun pc => Nat.beq pc 34
noncomputable def sp_X11_move : HSp := fun as w σ K => wp ins_X11_move (cutA hd_X11_move (I_X11_move K)) K 80 0 (loc0 4 as) [] w σ
theorem vc_X11_move : MVC ins_X11_move 4 2 sp_X11_move := by
  intro as w0 σ0 q _ hs
  refine ⟨hd_X11_move, I_X11_move q, 80, 80, ?_, hs⟩
  clear hs
  rintro N pc ls st w σ' hh ⟨σ, n, np, nv, i, x, u, v, hn, hi, rfl, rfl, rfl, rfl, rfl, rfl, hM, hV, hq⟩
  obtain rfl := Nat.eq_of_beq_eq_true hh
  have h11 : ∀ f, caS σ (mC σ x) i 11 0 f = σ 11 0 f := fun f => caS_o (by omega)
  have hn2 : caS σ (mC σ x) i 11 0 21 = nI n := by rw [h11]; exact hn.2
  apply br2
  · intro h1
    obtain rfl := lp_end hn2 hi h1
    exact ⟨i, np, nv, hM, hV, fun σ2 hE => hq σ2 hE⟩
  intro h1
  have hn0 := hn.1
  have hlt := lp_go hn2 hi h1
  have e1 : (nI i).toNatClampNeg = i := nI_clamp (by omega)
  have hin : vp_in (nI i) 100 := vp_in_nI (by omega) (by decide)
  have h20 : ∀ r, r ≠ 21 → caS σ (mC σ x) i 20 r (nI i).toNatClampNeg = σ 20 r i := fun r hr => by rw [e1]; exact caS_o (by omega)
  have h21 : caS σ (mC σ x) i 20 21 (nI i).toNatClampNeg = σ 20 21 i := by rw [e1]; exact caS_i
  have no : ¬ (σ 20 21 i = 0 ∧ σ 20 16 i = x ∧ ¬ σ 20 18 i < σ 11 0 0) → ∃ N', N' < n - i ∧ I_X11_move q 34 N' [some (HR 11 0), some (HI x), some (HI (nI (cnt (mC σ x) i))), some (HI (nI i + 1))] [] w (caS σ (mC σ x) i) := fun h =>
    ⟨n - (i + 1), by omega, σ, n, np, nv, i + 1, _, _, _, hn, hlt, rfl, by rw [cnt_n (decide_eq_false h)], nI_1 i, rfl, rfl, (caS_n (decide_eq_false h)).symm, hM, hV, hq⟩
  refine And.intro hin ?_
  apply br2
  rotate_left
  · intro h2
    have h2 : ¬ caS σ (mC σ x) i 20 21 (nI i).toNatClampNeg = 0 := h2
    rw [h21] at h2
    exact no fun z => h2 z.1
  intro h2
  have h2 : caS σ (mC σ x) i 20 21 (nI i).toNatClampNeg = 0 := h2
  rw [h21] at h2
  refine And.intro hin ?_
  apply br2
  rotate_left
  · intro h3
    have h3 : ¬ caS σ (mC σ x) i 20 16 (nI i).toNatClampNeg = x := h3
    rw [h20 16 (by decide)] at h3
    exact no fun z => h3 z.2.1
  intro h3
  have h3 : caS σ (mC σ x) i 20 16 (nI i).toNatClampNeg = x := h3
  rw [h20 16 (by decide)] at h3
  refine And.intro hin ?_
  apply br2
  · intro h6
    have h6 : caS σ (mC σ x) i 20 18 (nI i).toNatClampNeg < caS σ (mC σ x) i 11 0 0 := h6
    rw [h20 18 (by decide), h11] at h6
    exact no fun z => z.2.2 h6
  · intro h6
    have h6 : ¬ caS σ (mC σ x) i 20 18 (nI i).toNatClampNeg < caS σ (mC σ x) i 11 0 0 := h6
    rw [h20 18 (by decide), h11] at h6
    have hc : mC σ x i = true := decide_eq_true ⟨h2, h3, h6⟩
    refine And.intro hin ?_
    exact ⟨n - (i + 1), by omega, σ, n, np, nv, i + 1, _, _, _, hn, hlt, rfl, by rw [cnt_y hc]; exact nI_1 _, nI_1 i, rfl, rfl, by rw [e1]; exact caS_y hc, hM, hV, hq⟩
theorem ct_X11_move : Ctr yX11_move cX11_move 4 (some .int) 7 0 0 2 sp_X11_move := ctr_of (by decide +kernel) rfl (by decide) ok_X11_move vc_X11_move

