/-! VisitHall's own methods without a loop: the condition itself is the contract -/
def ta1 (σ : HS) (x sh : Int32) : HS := up3 (up3 σ 12 0 (σ 8 0 1).toNatClampNeg (x >>> (sh &&& 31)).toInt8.toInt32.toInt8.toInt32) 8 0 1 (σ 8 0 1 + 1)
def taS (σ : HS) (x : Int32) : HS := ta1 (ta1 (ta1 (ta1 σ x 24) x 16) x 8) x 0
def sp_X8_add : HSp := fun as w σ K => match as with
  | [.inr (.inl (8, some 0)), .inl x] => ∃ t, t + 4 ≤ 60 ∧ σ 8 0 1 = nI t ∧ K none w (taS σ x)
  | _ => False
theorem ta_sz (σ : HS) (x sh : Int32) : ta1 σ x sh 8 0 1 = σ 8 0 1 + 1 := by simp [ta1, up3]
theorem dX8_add_0 : decode cX8_add 0 = .ok (.bipush 24, 2) := by decide +kernel
theorem dX8_add_2 : decode cX8_add 2 = .ok (.istore_n 2, 1) := by decide +kernel
theorem dX8_add_3 : decode cX8_add 3 = .ok (.iload_n 2, 1) := by decide +kernel
theorem dX8_add_4 : decode cX8_add 4 = .ok (.ifCond .lt 41, 3) := by decide +kernel
theorem dX8_add_7 : decode cX8_add 7 = .ok (.aload_n 0, 1) := by decide +kernel
theorem dX8_add_8 : decode cX8_add 8 = .ok (.getfield 13, 3) := by decide +kernel
theorem dX8_add_11 : decode cX8_add 11 = .ok (.bipush 60, 2) := by decide +kernel
theorem dX8_add_13 : decode cX8_add 13 = .ok (.if_icmp .ge 32, 3) := by decide +kernel
theorem dX8_add_16 : decode cX8_add 16 = .ok (.aload_n 0, 1) := by decide +kernel
theorem dX8_add_17 : decode cX8_add 17 = .ok (.getfield 9, 3) := by decide +kernel
theorem dX8_add_20 : decode cX8_add 20 = .ok (.aload_n 0, 1) := by decide +kernel
theorem dX8_add_21 : decode cX8_add 21 = .ok (.getfield 13, 3) := by decide +kernel
theorem dX8_add_24 : decode cX8_add 24 = .ok (.iload_n 1, 1) := by decide +kernel
theorem dX8_add_25 : decode cX8_add 25 = .ok (.iload_n 2, 1) := by decide +kernel
theorem dX8_add_26 : decode cX8_add 26 = .ok (.ishr, 1) := by decide +kernel
theorem dX8_add_27 : decode cX8_add 27 = .ok (.i2b, 1) := by decide +kernel
theorem dX8_add_28 : decode cX8_add 28 = .ok (.bastore, 1) := by decide +kernel
theorem dX8_add_29 : decode cX8_add 29 = .ok (.aload_n 0, 1) := by decide +kernel
theorem dX8_add_30 : decode cX8_add 30 = .ok (.dup, 1) := by decide +kernel
theorem dX8_add_31 : decode cX8_add 31 = .ok (.getfield 13, 3) := by decide +kernel
theorem dX8_add_34 : decode cX8_add 34 = .ok (.iconst 1, 1) := by decide +kernel
theorem dX8_add_35 : decode cX8_add 35 = .ok (.iadd, 1) := by decide +kernel
theorem dX8_add_36 : decode cX8_add 36 = .ok (.putfield 13, 3) := by decide +kernel
theorem dX8_add_39 : decode cX8_add 39 = .ok (.iinc 2 (-8), 3) := by decide +kernel
theorem dX8_add_42 : decode cX8_add 42 = .ok (.goto (-39), 3) := by decide +kernel
theorem dX8_add_45 : decode cX8_add 45 = .ok (.return_, 1) := by decide +kernel
def ins_X8_add (pc : Nat) : HOp := cond (Nat.blt pc 25) (cond (Nat.blt pc 11) (cond (Nat.blt pc 4) (cond (Nat.blt pc 2) (cond (Nat.beq pc 0) (o_const (24) 2) o_bad) (cond (Nat.blt pc 3) (cond (Nat.beq pc 2) (o_istore 2 3) o_bad) (cond (Nat.beq pc 3) (o_iload 2 4) o_bad))) (cond (Nat.blt pc 7) (cond (Nat.beq pc 4) (o_if (fun x => x < 0) 45 7) o_bad) (cond (Nat.blt pc 8) (cond (Nat.beq pc 7) (o_aload 0 8) o_bad) (cond (Nat.beq pc 8) (o_getf 8 1 11) o_bad)))) (cond (Nat.blt pc 17) (cond (Nat.blt pc 13) (cond (Nat.beq pc 11) (o_const (60) 13) o_bad) (cond (Nat.blt pc 16) (cond (Nat.beq pc 13) (o_icmp (fun x y => y ≤ x) 45 16) o_bad) (cond (Nat.beq pc 16) (o_aload 0 17) o_bad))) (cond (Nat.blt pc 21) (cond (Nat.blt pc 20) (cond (Nat.beq pc 17) (o_getf 8 0 20) o_bad) (cond (Nat.beq pc 20) (o_aload 0 21) o_bad)) (cond (Nat.blt pc 24) (cond (Nat.beq pc 21) (o_getf 8 1 24) o_bad) (cond (Nat.beq pc 24) (o_iload 1 25) o_bad))))) (cond (Nat.blt pc 31) (cond (Nat.blt pc 28) (cond (Nat.blt pc 26) (cond (Nat.beq pc 25) (o_iload 2 26) o_bad) (cond (Nat.blt pc 27) (cond (Nat.beq pc 26) (o_bin (fun x y => x >>> (y &&& 31)) 27) o_bad) (cond (Nat.beq pc 27) (o_un (fun x => x.toInt8.toInt32) 28) o_bad))) (cond (Nat.blt pc 29) (cond (Nat.beq pc 28) (o_bast 29) o_bad) (cond (Nat.blt pc 30) (cond (Nat.beq pc 29) (o_aload 0 30) o_bad) (cond (Nat.beq pc 30) (o_dup 31) o_bad)))) (cond (Nat.blt pc 36) (cond (Nat.blt pc 34) (cond (Nat.beq pc 31) (o_getf 8 1 34) o_bad) (cond (Nat.blt pc 35) (cond (Nat.beq pc 34) (o_const (1) 35) o_bad) (cond (Nat.beq pc 35) (o_bin (fun x y => x + y) 36) o_bad))) (cond (Nat.blt pc 42) (cond (Nat.blt pc 39) (cond (Nat.beq pc 36) (o_putf 8 1 39) o_bad) (cond (Nat.beq pc 39) (o_iinc 2 (-8) 42) o_bad)) (cond (Nat.blt pc 45) (cond (Nat.beq pc 42) (o_goto 3) o_bad) (cond (Nat.beq pc 45) (o_vret) o_bad)))))
set_option maxRecDepth 20000 in
theorem ok_X8_add : HOKs cX8_add RX8 3 none 1 ins_X8_add := fun _ => hnd (hnd (hnd (hnd (hlf (ok_bipush dX8_add_0 (by decide) rfl)) (hnd (hlf (ok_istore_n dX8_add_2 rfl (by decide) rfl)) (hlf (ok_iload_n dX8_add_3 rfl rfl)))) (hnd (hlf (ok_if_lt dX8_add_4 (by decide) rfl)) (hnd (hlf (ok_aload_n dX8_add_7 rfl rfl)) (hlf (ok_getf (C := RX8) (T := TX8) dX8_add_8 rfl rfl (by decide) rfl inX8 wd_106 rfl))))) (hnd (hnd (hlf (ok_bipush dX8_add_11 (by decide) rfl)) (hnd (hlf (ok_icmp_ge dX8_add_13 (by decide) rfl)) (hlf (ok_aload_n dX8_add_16 rfl rfl)))) (hnd (hnd (hlf (ok_getf (C := RX8) (T := TX8) dX8_add_17 rfl rfl (by decide) rfl inX8 wd_104 rfl)) (hlf (ok_aload_n dX8_add_20 rfl rfl))) (hnd (hlf (ok_getf (C := RX8) (T := TX8) dX8_add_21 rfl rfl (by decide) rfl inX8 wd_106 rfl)) (hlf (ok_iload_n dX8_add_24 rfl rfl)))))) (hnd (hnd (hnd (hlf (ok_iload_n dX8_add_25 rfl rfl)) (hnd (hlf (ok_ishr dX8_add_26 rfl)) (hlf (ok_i2b dX8_add_27 rfl)))) (hnd (hlf (ok_bast dX8_add_28 rfl)) (hnd (hlf (ok_aload_n dX8_add_29 rfl rfl)) (hlf (ok_dup dX8_add_30 rfl))))) (hnd (hnd (hlf (ok_getf (C := RX8) (T := TX8) dX8_add_31 rfl rfl (by decide) rfl inX8 wd_106 rfl)) (hnd (hlf (ok_iconst dX8_add_34 (by decide) rfl)) (hlf (ok_iadd dX8_add_35 rfl)))) (hnd (hnd (hlf (ok_putf (C := RX8) (T := TX8) dX8_add_36 rfl rfl (by decide) rfl inX8 tyX8_ok nmX8 rfl rfl (fun _ _ => rfl) wd_106 rfl)) (hlf (ok_iinc dX8_add_39 (by decide) (by decide) rfl))) (hnd (hlf (ok_goto dX8_add_42 (by decide))) (hlf (ok_vret dX8_add_45))))))

set_option maxRecDepth 100000 in
theorem vc_X8_add : MVC ins_X8_add 3 2 sp_X8_add := by
  refine mvc0 140 fun as w σ q hl hs => ?_
  unfold sp_X8_add at hs
  split at hs
  rotate_left
  · exact hs.elim
  rename_i x
  obtain ⟨t, ht, hsz, hq⟩ := hs
  have s0 : ∀ σ' : HS, σ' 8 0 1 = nI t → ¬ (60 : Int32) ≤ σ' 8 0 1 ∧ vp_in (σ' 8 0 1) 60 := fun σ' h => by rw [h]; exact ⟨fun q => absurd ((nI_leI (a := 60) (by decide) (by omega)).mp q) (by omega), vp_in_nI (by omega) (by decide)⟩
  have s1 : ∀ j, j < 4 → ∀ σ' : HS, σ' 8 0 1 = nI (t + j) → ¬ (60 : Int32) ≤ σ' 8 0 1 ∧ vp_in (σ' 8 0 1) 60 := fun j hj σ' h => by rw [h]; exact ⟨fun q => absurd ((nI_leI (a := 60) (by decide) (by omega)).mp q) (by omega), vp_in_nI (by omega) (by decide)⟩
  have e1 : ta1 σ x 24 8 0 1 = nI (t + 1) := by rw [ta_sz, hsz]; exact nI_1 t
  have e2 : ta1 (ta1 σ x 24) x 16 8 0 1 = nI (t + 2) := by rw [ta_sz, e1]; exact nI_1 _
  have e3 : ta1 (ta1 (ta1 σ x 24) x 16) x 8 8 0 1 = nI (t + 3) := by rw [ta_sz, e2]; exact nI_1 _
  refine And.intro (fun h => absurd h (by decide)) (fun _ => And.intro (fun h => absurd h (s0 σ hsz).1) (fun _ => And.intro (s0 σ hsz).2 ?_))
  refine And.intro (fun h => absurd h (by decide)) (fun _ => And.intro (fun h => absurd h (s1 1 (by decide) _ e1).1) (fun _ => And.intro (s1 1 (by decide) _ e1).2 ?_))
  refine And.intro (fun h => absurd h (by decide)) (fun _ => And.intro (fun h => absurd h (s1 2 (by decide) _ e2).1) (fun _ => And.intro (s1 2 (by decide) _ e2).2 ?_))
  refine And.intro (fun h => absurd h (by decide)) (fun _ => And.intro (fun h => absurd h (s1 3 (by decide) _ e3).1) (fun _ => And.intro (s1 3 (by decide) _ e3).2 ?_))
  exact And.intro (fun _ => hq) (fun h => absurd (by decide) h)
theorem ct_X8_add : Ctr yX8_add cX8_add 3 none 1 0 0 2 sp_X8_add := ctr_of (by decide +kernel) rfl (by decide) ok_X8_add vc_X8_add

theorem dX7_clear_0 : decode cX7_clear 0 = .ok (.aload_n 0, 1) := by decide +kernel
theorem dX7_clear_1 : decode cX7_clear 1 = .ok (.getfield 9, 3) := by decide +kernel
theorem dX7_clear_4 : decode cX7_clear 4 = .ok (.iconst 0, 1) := by decide +kernel
theorem dX7_clear_5 : decode cX7_clear 5 = .ok (.invokestatic 17, 3) := by decide +kernel
theorem dX7_clear_8 : decode cX7_clear 8 = .ok (.aload_n 0, 1) := by decide +kernel
theorem dX7_clear_9 : decode cX7_clear 9 = .ok (.iload_n 1, 1) := by decide +kernel
theorem dX7_clear_10 : decode cX7_clear 10 = .ok (.putfield 13, 3) := by decide +kernel
theorem dX7_clear_13 : decode cX7_clear 13 = .ok (.return_, 1) := by decide +kernel
def ins_X7_clear (pc : Nat) : HOp := cond (Nat.blt pc 8) (cond (Nat.blt pc 4) (cond (Nat.blt pc 1) (cond (Nat.beq pc 0) (o_aload 0 1) o_bad) (cond (Nat.beq pc 1) (o_getf 7 0 4) o_bad)) (cond (Nat.blt pc 5) (cond (Nat.beq pc 4) (o_const (0) 5) o_bad) (cond (Nat.beq pc 5) (o_callS 2 sp_J7_fill_031fb 8) o_bad))) (cond (Nat.blt pc 10) (cond (Nat.blt pc 9) (cond (Nat.beq pc 8) (o_aload 0 9) o_bad) (cond (Nat.beq pc 9) (o_iload 1 10) o_bad)) (cond (Nat.blt pc 13) (cond (Nat.beq pc 10) (o_putf 7 1 13) o_bad) (cond (Nat.beq pc 13) (o_vret) o_bad)))
set_option maxRecDepth 20000 in
theorem ok_X7_clear : HOKs cX7_clear RX7 2 none 2 ins_X7_clear := fun _ => hnd (hnd (hnd (hlf (ok_aload_n dX7_clear_0 rfl rfl)) (hlf (ok_getf (C := RX7) (T := TX7) dX7_clear_1 rfl rfl (by decide) rfl inX7 wd_169 rfl))) (hnd (hlf (ok_iconst dX7_clear_4 (by decide) rfl)) (hlf (ok_callS (y := yJ7_fill_031fb) dX7_clear_5 ct_J7_fill_031fb (by decide) (by decide) wd_820 wd_818 wd_819 wd_52 (by decide +kernel) rfl)))) (hnd (hnd (hlf (ok_aload_n dX7_clear_8 rfl rfl)) (hlf (ok_iload_n dX7_clear_9 rfl rfl))) (hnd (hlf (ok_putf (C := RX7) (T := TX7) dX7_clear_10 rfl rfl (by decide) rfl inX7 tyX7_ok nmX7 rfl rfl (fun _ _ => rfl) wd_172 rfl)) (hlf (ok_vret dX7_clear_13))))

noncomputable def sp_X7_clear : HSp := fun as w σ K => wp ins_X7_clear (fun _ => none) K 40 0 (loc0 2 as) [] w σ
theorem vc_X7_clear : MVC ins_X7_clear 2 2 sp_X7_clear := mvc0 40 fun _ _ _ _ _ h => h
theorem ct_X7_clear : Ctr yX7_clear cX7_clear 2 none 2 0 0 2 sp_X7_clear := ctr_of (by decide +kernel) rfl (by decide) ok_X7_clear vc_X7_clear

theorem dX10_canBeAsked_0 : decode cX10_canBeAsked 0 = .ok (.aload_n 0, 1) := by decide +kernel
theorem dX10_canBeAsked_1 : decode cX10_canBeAsked 1 = .ok (.getfield 10, 3) := by decide +kernel
theorem dX10_canBeAsked_4 : decode cX10_canBeAsked 4 = .ok (.iload_n 1, 1) := by decide +kernel
theorem dX10_canBeAsked_5 : decode cX10_canBeAsked 5 = .ok (.invokevirtual 95, 3) := by decide +kernel
theorem dX10_canBeAsked_8 : decode cX10_canBeAsked 8 = .ok (.ifnull 44, 3) := by decide +kernel
theorem dX10_canBeAsked_11 : decode cX10_canBeAsked 11 = .ok (.aload_n 0, 1) := by decide +kernel
theorem dX10_canBeAsked_12 : decode cX10_canBeAsked 12 = .ok (.getfield 10, 3) := by decide +kernel
theorem dX10_canBeAsked_15 : decode cX10_canBeAsked 15 = .ok (.iload_n 2, 1) := by decide +kernel
theorem dX10_canBeAsked_16 : decode cX10_canBeAsked 16 = .ok (.invokevirtual 312, 3) := by decide +kernel
theorem dX10_canBeAsked_19 : decode cX10_canBeAsked 19 = .ok (.ifCond .eq 33, 3) := by decide +kernel
theorem dX10_canBeAsked_22 : decode cX10_canBeAsked 22 = .ok (.iload_n 3, 1) := by decide +kernel
theorem dX10_canBeAsked_23 : decode cX10_canBeAsked 23 = .ok (.aload_n 0, 1) := by decide +kernel
theorem dX10_canBeAsked_24 : decode cX10_canBeAsked 24 = .ok (.getfield 41, 3) := by decide +kernel
theorem dX10_canBeAsked_27 : decode cX10_canBeAsked 27 = .ok (.getfield 219, 3) := by decide +kernel
theorem dX10_canBeAsked_30 : decode cX10_canBeAsked 30 = .ok (.if_icmp .lt 22, 3) := by decide +kernel
theorem dX10_canBeAsked_33 : decode cX10_canBeAsked 33 = .ok (.iload_n 3, 1) := by decide +kernel
theorem dX10_canBeAsked_34 : decode cX10_canBeAsked 34 = .ok (.sipush 400, 3) := by decide +kernel
theorem dX10_canBeAsked_37 : decode cX10_canBeAsked 37 = .ok (.if_icmp .gt 15, 3) := by decide +kernel
theorem dX10_canBeAsked_40 : decode cX10_canBeAsked 40 = .ok (.iload 4, 2) := by decide +kernel
theorem dX10_canBeAsked_42 : decode cX10_canBeAsked 42 = .ok (.invokestatic 315, 3) := by decide +kernel
theorem dX10_canBeAsked_45 : decode cX10_canBeAsked 45 = .ok (.ifCond .eq 7, 3) := by decide +kernel
theorem dX10_canBeAsked_48 : decode cX10_canBeAsked 48 = .ok (.iconst 1, 1) := by decide +kernel
theorem dX10_canBeAsked_49 : decode cX10_canBeAsked 49 = .ok (.goto 4, 3) := by decide +kernel
theorem dX10_canBeAsked_52 : decode cX10_canBeAsked 52 = .ok (.iconst 0, 1) := by decide +kernel
theorem dX10_canBeAsked_53 : decode cX10_canBeAsked 53 = .ok (.ireturn, 1) := by decide +kernel
def ins_X10_canBeAsked (pc : Nat) : HOp := cond (Nat.blt pc 24) (cond (Nat.blt pc 12) (cond (Nat.blt pc 5) (cond (Nat.blt pc 1) (cond (Nat.beq pc 0) (o_aload 0 1) o_bad) (cond (Nat.blt pc 4) (cond (Nat.beq pc 1) (o_getf 10 0 4) o_bad) (cond (Nat.beq pc 4) (o_iload 1 5) o_bad))) (cond (Nat.blt pc 8) (cond (Nat.beq pc 5) (o_callV 2 2 sp_X2_prisonerAt 8) o_bad) (cond (Nat.blt pc 11) (cond (Nat.beq pc 8) (o_ifnull 52 11) o_bad) (cond (Nat.beq pc 11) (o_aload 0 12) o_bad)))) (cond (Nat.blt pc 19) (cond (Nat.blt pc 15) (cond (Nat.beq pc 12) (o_getf 10 0 15) o_bad) (cond (Nat.blt pc 16) (cond (Nat.beq pc 15) (o_iload 2 16) o_bad) (cond (Nat.beq pc 16) (o_callV 2 2 sp_X2_isParty 19) o_bad))) (cond (Nat.blt pc 22) (cond (Nat.beq pc 19) (o_if (fun x => x = 0) 52 22) o_bad) (cond (Nat.blt pc 23) (cond (Nat.beq pc 22) (o_iload 3 23) o_bad) (cond (Nat.beq pc 23) (o_aload 0 24) o_bad))))) (cond (Nat.blt pc 40) (cond (Nat.blt pc 33) (cond (Nat.blt pc 27) (cond (Nat.beq pc 24) (o_getf 10 4 27) o_bad) (cond (Nat.blt pc 30) (cond (Nat.beq pc 27) (o_getf 0 2 30) o_bad) (cond (Nat.beq pc 30) (o_icmp (fun x y => x < y) 52 33) o_bad))) (cond (Nat.blt pc 34) (cond (Nat.beq pc 33) (o_iload 3 34) o_bad) (cond (Nat.blt pc 37) (cond (Nat.beq pc 34) (o_const (400) 37) o_bad) (cond (Nat.beq pc 37) (o_icmp (fun x y => y < x) 52 40) o_bad)))) (cond (Nat.blt pc 48) (cond (Nat.blt pc 42) (cond (Nat.beq pc 40) (o_iload 4 42) o_bad) (cond (Nat.blt pc 45) (cond (Nat.beq pc 42) (o_callS 1 sp_X10_areHalves 45) o_bad) (cond (Nat.beq pc 45) (o_if (fun x => x = 0) 52 48) o_bad))) (cond (Nat.blt pc 52) (cond (Nat.blt pc 49) (cond (Nat.beq pc 48) (o_const (1) 49) o_bad) (cond (Nat.beq pc 49) (o_goto 53) o_bad)) (cond (Nat.blt pc 53) (cond (Nat.beq pc 52) (o_const (0) 53) o_bad) (cond (Nat.beq pc 53) (o_zret) o_bad)))))
set_option maxRecDepth 20000 in
theorem ok_X10_canBeAsked : HOKs cX10_canBeAsked RX10 5 (some .boolean) 3 ins_X10_canBeAsked := fun _ => hnd (hnd (hnd (hnd (hlf (ok_aload_n dX10_canBeAsked_0 rfl rfl)) (hnd (hlf (ok_getf (C := RX10) (T := TX10) dX10_canBeAsked_1 rfl rfl (by decide) rfl inX10 wd_285 rfl)) (hlf (ok_iload_n dX10_canBeAsked_4 rfl rfl)))) (hnd (hlf (ok_callV (y := yX2_prisonerAt) (n' := 1) (C := RX2) (T := TX2) dX10_canBeAsked_5 ct_X2_prisonerAt (by decide) (by decide) wd_386 wd_383 wd_384 wd_385 wd_42 rfl (by decide +kernel) rfl rfl rfl)) (hnd (hlf (ok_ifnull dX10_canBeAsked_8 (by decide) rfl)) (hlf (ok_aload_n dX10_canBeAsked_11 rfl rfl))))) (hnd (hnd (hlf (ok_getf (C := RX10) (T := TX10) dX10_canBeAsked_12 rfl rfl (by decide) rfl inX10 wd_285 rfl)) (hnd (hlf (ok_iload_n dX10_canBeAsked_15 rfl rfl)) (hlf (ok_callV (y := yX2_isParty) (n' := 1) (C := RX2) (T := TX2) dX10_canBeAsked_16 ct_X2_isParty (by decide) (by decide) wd_729 wd_726 wd_727 wd_728 wd_42 rfl (by decide +kernel) rfl rfl rfl)))) (hnd (hlf (ok_if_eq dX10_canBeAsked_19 (by decide) rfl)) (hnd (hlf (ok_iload_n dX10_canBeAsked_22 rfl rfl)) (hlf (ok_aload_n dX10_canBeAsked_23 rfl rfl)))))) (hnd (hnd (hnd (hlf (ok_getf (C := RX10) (T := TX10) dX10_canBeAsked_24 rfl rfl (by decide) rfl inX10 wd_289 rfl)) (hnd (hlf (ok_getfN (C := RX0) (T := TX0) dX10_canBeAsked_27 rfl rfl (by decide) rfl inX0 wd_154 rfl)) (hlf (ok_icmp_lt dX10_canBeAsked_30 (by decide) rfl)))) (hnd (hlf (ok_iload_n dX10_canBeAsked_33 rfl rfl)) (hnd (hlf (ok_sipush dX10_canBeAsked_34 (by decide) rfl)) (hlf (ok_icmp_gt dX10_canBeAsked_37 (by decide) rfl))))) (hnd (hnd (hlf (ok_iload dX10_canBeAsked_40 rfl)) (hnd (hlf (ok_callS (y := yX10_areHalves) dX10_canBeAsked_42 ct_X10_areHalves (by decide) (by decide) wd_738 wd_736 wd_737 wd_41 (by decide +kernel) rfl)) (hlf (ok_if_eq dX10_canBeAsked_45 (by decide) rfl)))) (hnd (hnd (hlf (ok_iconst dX10_canBeAsked_48 (by decide) rfl)) (hlf (ok_goto dX10_canBeAsked_49 (by decide)))) (hnd (hlf (ok_iconst dX10_canBeAsked_52 (by decide) rfl)) (hlf (ok_zret dX10_canBeAsked_53))))))

noncomputable def sp_X10_canBeAsked : HSp := fun as w σ K => wp ins_X10_canBeAsked (fun _ => none) K 80 0 (loc0 5 as) [] w σ
theorem vc_X10_canBeAsked : MVC ins_X10_canBeAsked 5 5 sp_X10_canBeAsked := mvc0 80 fun _ _ _ _ _ h => h
theorem ct_X10_canBeAsked : Ctr yX10_canBeAsked cX10_canBeAsked 5 (some .boolean) 3 0 0 5 sp_X10_canBeAsked := ctr_of (by decide +kernel) rfl (by decide) ok_X10_canBeAsked vc_X10_canBeAsked

theorem dX10_visitor_0 : decode cX10_visitor 0 = .ok (.iload_n 1, 1) := by decide +kernel
theorem dX10_visitor_1 : decode cX10_visitor 1 = .ok (.iconst 4, 1) := by decide +kernel
theorem dX10_visitor_2 : decode cX10_visitor 2 = .ok (.invokestatic 75, 3) := by decide +kernel
theorem dX10_visitor_5 : decode cX10_visitor 5 = .ok (.ifCond .eq 21, 3) := by decide +kernel
theorem dX10_visitor_8 : decode cX10_visitor 8 = .ok (.iload_n 2, 1) := by decide +kernel
theorem dX10_visitor_9 : decode cX10_visitor 9 = .ok (.bipush 10, 2) := by decide +kernel
theorem dX10_visitor_11 : decode cX10_visitor 11 = .ok (.invokestatic 75, 3) := by decide +kernel
theorem dX10_visitor_14 : decode cX10_visitor 14 = .ok (.ifCond .eq 12, 3) := by decide +kernel
theorem dX10_visitor_17 : decode cX10_visitor 17 = .ok (.iload_n 3, 1) := by decide +kernel
theorem dX10_visitor_18 : decode cX10_visitor 18 = .ok (.bipush 21, 2) := by decide +kernel
theorem dX10_visitor_20 : decode cX10_visitor 20 = .ok (.invokestatic 75, 3) := by decide +kernel
theorem dX10_visitor_23 : decode cX10_visitor 23 = .ok (.ifCond .ne 6, 3) := by decide +kernel
theorem dX10_visitor_26 : decode cX10_visitor 26 = .ok (.ldc 79, 2) := by decide +kernel
theorem dX10_visitor_28 : decode cX10_visitor 28 = .ok (.ireturn, 1) := by decide +kernel
theorem dX10_visitor_29 : decode cX10_visitor 29 = .ok (.aload_n 0, 1) := by decide +kernel
theorem dX10_visitor_30 : decode cX10_visitor 30 = .ok (.getfield 10, 3) := by decide +kernel
theorem dX10_visitor_33 : decode cX10_visitor 33 = .ok (.iload_n 1, 1) := by decide +kernel
theorem dX10_visitor_34 : decode cX10_visitor 34 = .ok (.iload_n 3, 1) := by decide +kernel
theorem dX10_visitor_35 : decode cX10_visitor 35 = .ok (.invokevirtual 84, 3) := by decide +kernel
theorem dX10_visitor_38 : decode cX10_visitor 38 = .ok (.ireturn, 1) := by decide +kernel
def ins_X10_visitor (pc : Nat) : HOp := cond (Nat.blt pc 20) (cond (Nat.blt pc 9) (cond (Nat.blt pc 2) (cond (Nat.blt pc 1) (cond (Nat.beq pc 0) (o_iload 1 1) o_bad) (cond (Nat.beq pc 1) (o_const (4) 2) o_bad)) (cond (Nat.blt pc 5) (cond (Nat.beq pc 2) (o_callS 2 sp_X10_isBelow 5) o_bad) (cond (Nat.blt pc 8) (cond (Nat.beq pc 5) (o_if (fun x => x = 0) 26 8) o_bad) (cond (Nat.beq pc 8) (o_iload 2 9) o_bad)))) (cond (Nat.blt pc 14) (cond (Nat.blt pc 11) (cond (Nat.beq pc 9) (o_const (10) 11) o_bad) (cond (Nat.beq pc 11) (o_callS 2 sp_X10_isBelow 14) o_bad)) (cond (Nat.blt pc 17) (cond (Nat.beq pc 14) (o_if (fun x => x = 0) 26 17) o_bad) (cond (Nat.blt pc 18) (cond (Nat.beq pc 17) (o_iload 3 18) o_bad) (cond (Nat.beq pc 18) (o_const (21) 20) o_bad))))) (cond (Nat.blt pc 30) (cond (Nat.blt pc 26) (cond (Nat.blt pc 23) (cond (Nat.beq pc 20) (o_callS 2 sp_X10_isBelow 23) o_bad) (cond (Nat.beq pc 23) (o_if (fun x => x = 0) 26 29) o_bad)) (cond (Nat.blt pc 28) (cond (Nat.beq pc 26) (o_const (-1000000001) 28) o_bad) (cond (Nat.blt pc 29) (cond (Nat.beq pc 28) (o_iret) o_bad) (cond (Nat.beq pc 29) (o_aload 0 30) o_bad)))) (cond (Nat.blt pc 34) (cond (Nat.blt pc 33) (cond (Nat.beq pc 30) (o_getf 10 0 33) o_bad) (cond (Nat.beq pc 33) (o_iload 1 34) o_bad)) (cond (Nat.blt pc 35) (cond (Nat.beq pc 34) (o_iload 3 35) o_bad) (cond (Nat.blt pc 38) (cond (Nat.beq pc 35) (o_callV 3 2 sp_X2_addVisitor 38) o_bad) (cond (Nat.beq pc 38) (o_iret) o_bad)))))
set_option maxRecDepth 20000 in
theorem ok_X10_visitor : HOKs cX10_visitor RX10 4 (some .int) 2 ins_X10_visitor := fun _ => hnd (hnd (hnd (hnd (hlf (ok_iload_n dX10_visitor_0 rfl rfl)) (hlf (ok_iconst dX10_visitor_1 (by decide) rfl))) (hnd (hlf (ok_callS (y := yX10_isBelow) dX10_visitor_2 ct_X10_isBelow (by decide) (by decide) wd_319 wd_317 wd_318 wd_41 (by decide +kernel) rfl)) (hnd (hlf (ok_if_eq dX10_visitor_5 (by decide) rfl)) (hlf (ok_iload_n dX10_visitor_8 rfl rfl))))) (hnd (hnd (hlf (ok_bipush dX10_visitor_9 (by decide) rfl)) (hlf (ok_callS (y := yX10_isBelow) dX10_visitor_11 ct_X10_isBelow (by decide) (by decide) wd_319 wd_317 wd_318 wd_41 (by decide +kernel) rfl))) (hnd (hlf (ok_if_eq dX10_visitor_14 (by decide) rfl)) (hnd (hlf (ok_iload_n dX10_visitor_17 rfl rfl)) (hlf (ok_bipush dX10_visitor_18 (by decide) rfl)))))) (hnd (hnd (hnd (hlf (ok_callS (y := yX10_isBelow) dX10_visitor_20 ct_X10_isBelow (by decide) (by decide) wd_319 wd_317 wd_318 wd_41 (by decide +kernel) rfl)) (hlf (ok_if_ne dX10_visitor_23 (by decide) rfl))) (hnd (hlf (ok_ldc dX10_visitor_26 wd_320 rfl)) (hnd (hlf (ok_iret dX10_visitor_28)) (hlf (ok_aload_n dX10_visitor_29 rfl rfl))))) (hnd (hnd (hlf (ok_getf (C := RX10) (T := TX10) dX10_visitor_30 rfl rfl (by decide) rfl inX10 wd_285 rfl)) (hlf (ok_iload_n dX10_visitor_33 rfl rfl))) (hnd (hlf (ok_iload_n dX10_visitor_34 rfl rfl)) (hnd (hlf (ok_callV (y := yX2_addVisitor) (n' := 2) (C := RX2) (T := TX2) dX10_visitor_35 ct_X2_addVisitor (by decide) (by decide) wd_365 wd_362 wd_363 wd_364 wd_42 rfl (by decide +kernel) rfl rfl rfl)) (hlf (ok_iret dX10_visitor_38))))))

noncomputable def sp_X10_visitor : HSp := fun as w σ K => wp ins_X10_visitor (fun _ => none) K 80 0 (loc0 4 as) [] w σ
theorem vc_X10_visitor : MVC ins_X10_visitor 4 4 sp_X10_visitor := mvc0 80 fun _ _ _ _ _ h => h
theorem ct_X10_visitor : Ctr yX10_visitor cX10_visitor 4 (some .int) 2 0 0 4 sp_X10_visitor := ctr_of (by decide +kernel) rfl (by decide) ok_X10_visitor vc_X10_visitor

theorem dX10_isOf_0 : decode cX10_isOf 0 = .ok (.aload_n 0, 1) := by decide +kernel
theorem dX10_isOf_1 : decode cX10_isOf 1 = .ok (.getfield 10, 3) := by decide +kernel
theorem dX10_isOf_4 : decode cX10_isOf 4 = .ok (.iload_n 1, 1) := by decide +kernel
theorem dX10_isOf_5 : decode cX10_isOf 5 = .ok (.invokevirtual 87, 3) := by decide +kernel
theorem dX10_isOf_8 : decode cX10_isOf 8 = .ok (.ifCond .eq 11, 3) := by decide +kernel
theorem dX10_isOf_11 : decode cX10_isOf 11 = .ok (.iload_n 2, 1) := by decide +kernel
theorem dX10_isOf_12 : decode cX10_isOf 12 = .ok (.iconst 4, 1) := by decide +kernel
theorem dX10_isOf_13 : decode cX10_isOf 13 = .ok (.invokestatic 75, 3) := by decide +kernel
theorem dX10_isOf_16 : decode cX10_isOf 16 = .ok (.ifCond .ne 6, 3) := by decide +kernel
theorem dX10_isOf_19 : decode cX10_isOf 19 = .ok (.ldc 79, 2) := by decide +kernel
theorem dX10_isOf_21 : decode cX10_isOf 21 = .ok (.ireturn, 1) := by decide +kernel
theorem dX10_isOf_22 : decode cX10_isOf 22 = .ok (.aload_n 0, 1) := by decide +kernel
theorem dX10_isOf_23 : decode cX10_isOf 23 = .ok (.getfield 10, 3) := by decide +kernel
theorem dX10_isOf_26 : decode cX10_isOf 26 = .ok (.iload_n 2, 1) := by decide +kernel
theorem dX10_isOf_27 : decode cX10_isOf 27 = .ok (.invokevirtual 91, 3) := by decide +kernel
theorem dX10_isOf_30 : decode cX10_isOf 30 = .ok (.iload_n 1, 1) := by decide +kernel
theorem dX10_isOf_31 : decode cX10_isOf 31 = .ok (.ishr, 1) := by decide +kernel
theorem dX10_isOf_32 : decode cX10_isOf 32 = .ok (.iconst 1, 1) := by decide +kernel
theorem dX10_isOf_33 : decode cX10_isOf 33 = .ok (.iand, 1) := by decide +kernel
theorem dX10_isOf_34 : decode cX10_isOf 34 = .ok (.ireturn, 1) := by decide +kernel
def ins_X10_isOf (pc : Nat) : HOp := cond (Nat.blt pc 21) (cond (Nat.blt pc 11) (cond (Nat.blt pc 4) (cond (Nat.blt pc 1) (cond (Nat.beq pc 0) (o_aload 0 1) o_bad) (cond (Nat.beq pc 1) (o_getf 10 0 4) o_bad)) (cond (Nat.blt pc 5) (cond (Nat.beq pc 4) (o_iload 1 5) o_bad) (cond (Nat.blt pc 8) (cond (Nat.beq pc 5) (o_callV 2 2 sp_X2_isVisitor 8) o_bad) (cond (Nat.beq pc 8) (o_if (fun x => x = 0) 19 11) o_bad)))) (cond (Nat.blt pc 13) (cond (Nat.blt pc 12) (cond (Nat.beq pc 11) (o_iload 2 12) o_bad) (cond (Nat.beq pc 12) (o_const (4) 13) o_bad)) (cond (Nat.blt pc 16) (cond (Nat.beq pc 13) (o_callS 2 sp_X10_isBelow 16) o_bad) (cond (Nat.blt pc 19) (cond (Nat.beq pc 16) (o_if (fun x => x = 0) 19 22) o_bad) (cond (Nat.beq pc 19) (o_const (-1000000001) 21) o_bad))))) (cond (Nat.blt pc 30) (cond (Nat.blt pc 23) (cond (Nat.blt pc 22) (cond (Nat.beq pc 21) (o_iret) o_bad) (cond (Nat.beq pc 22) (o_aload 0 23) o_bad)) (cond (Nat.blt pc 26) (cond (Nat.beq pc 23) (o_getf 10 0 26) o_bad) (cond (Nat.blt pc 27) (cond (Nat.beq pc 26) (o_iload 2 27) o_bad) (cond (Nat.beq pc 27) (o_callV 2 2 sp_X2_ofKind 30) o_bad)))) (cond (Nat.blt pc 32) (cond (Nat.blt pc 31) (cond (Nat.beq pc 30) (o_iload 1 31) o_bad) (cond (Nat.beq pc 31) (o_bin (fun x y => x >>> (y &&& 31)) 32) o_bad)) (cond (Nat.blt pc 33) (cond (Nat.beq pc 32) (o_const (1) 33) o_bad) (cond (Nat.blt pc 34) (cond (Nat.beq pc 33) (o_bin (fun x y => x &&& y) 34) o_bad) (cond (Nat.beq pc 34) (o_iret) o_bad)))))
set_option maxRecDepth 20000 in
theorem ok_X10_isOf : HOKs cX10_isOf RX10 3 (some .int) 3 ins_X10_isOf := fun _ => hnd (hnd (hnd (hnd (hlf (ok_aload_n dX10_isOf_0 rfl rfl)) (hlf (ok_getf (C := RX10) (T := TX10) dX10_isOf_1 rfl rfl (by decide) rfl inX10 wd_285 rfl))) (hnd (hlf (ok_iload_n dX10_isOf_4 rfl rfl)) (hnd (hlf (ok_callV (y := yX2_isVisitor) (n' := 1) (C := RX2) (T := TX2) dX10_isOf_5 ct_X2_isVisitor (by decide) (by decide) wd_373 wd_370 wd_371 wd_372 wd_42 rfl (by decide +kernel) rfl rfl rfl)) (hlf (ok_if_eq dX10_isOf_8 (by decide) rfl))))) (hnd (hnd (hlf (ok_iload_n dX10_isOf_11 rfl rfl)) (hlf (ok_iconst dX10_isOf_12 (by decide) rfl))) (hnd (hlf (ok_callS (y := yX10_isBelow) dX10_isOf_13 ct_X10_isBelow (by decide) (by decide) wd_319 wd_317 wd_318 wd_41 (by decide +kernel) rfl)) (hnd (hlf (ok_if_ne dX10_isOf_16 (by decide) rfl)) (hlf (ok_ldc dX10_isOf_19 wd_320 rfl)))))) (hnd (hnd (hnd (hlf (ok_iret dX10_isOf_21)) (hlf (ok_aload_n dX10_isOf_22 rfl rfl))) (hnd (hlf (ok_getf (C := RX10) (T := TX10) dX10_isOf_23 rfl rfl (by decide) rfl inX10 wd_285 rfl)) (hnd (hlf (ok_iload_n dX10_isOf_26 rfl rfl)) (hlf (ok_callV (y := yX2_ofKind) (n' := 1) (C := RX2) (T := TX2) dX10_isOf_27 ct_X2_ofKind (by decide) (by decide) wd_378 wd_375 wd_376 wd_377 wd_42 rfl (by decide +kernel) rfl rfl rfl))))) (hnd (hnd (hlf (ok_iload_n dX10_isOf_30 rfl rfl)) (hlf (ok_ishr dX10_isOf_31 rfl))) (hnd (hlf (ok_iconst dX10_isOf_32 (by decide) rfl)) (hnd (hlf (ok_iand dX10_isOf_33 rfl)) (hlf (ok_iret dX10_isOf_34))))))

noncomputable def sp_X10_isOf : HSp := fun as w σ K => wp ins_X10_isOf (fun _ => none) K 80 0 (loc0 3 as) [] w σ
theorem vc_X10_isOf : MVC ins_X10_isOf 3 3 sp_X10_isOf := mvc0 80 fun _ _ _ _ _ h => h
theorem ct_X10_isOf : Ctr yX10_isOf cX10_isOf 3 (some .int) 3 0 0 3 sp_X10_isOf := ctr_of (by decide +kernel) rfl (by decide) ok_X10_isOf vc_X10_isOf

theorem dX10_list_0 : decode cX10_list 0 = .ok (.aload_n 0, 1) := by decide +kernel
theorem dX10_list_1 : decode cX10_list 1 = .ok (.getfield 10, 3) := by decide +kernel
theorem dX10_list_4 : decode cX10_list 4 = .ok (.iload_n 1, 1) := by decide +kernel
theorem dX10_list_5 : decode cX10_list 5 = .ok (.invokevirtual 95, 3) := by decide +kernel
theorem dX10_list_8 : decode cX10_list 8 = .ok (.astore 4, 2) := by decide +kernel
theorem dX10_list_10 : decode cX10_list 10 = .ok (.aload 4, 2) := by decide +kernel
theorem dX10_list_12 : decode cX10_list 12 = .ok (.ifnull 22, 3) := by decide +kernel
theorem dX10_list_15 : decode cX10_list 15 = .ok (.aload_n 0, 1) := by decide +kernel
theorem dX10_list_16 : decode cX10_list 16 = .ok (.getfield 10, 3) := by decide +kernel
theorem dX10_list_19 : decode cX10_list 19 = .ok (.iload_n 2, 1) := by decide +kernel
theorem dX10_list_20 : decode cX10_list 20 = .ok (.invokevirtual 87, 3) := by decide +kernel
theorem dX10_list_23 : decode cX10_list 23 = .ok (.ifCond .eq 11, 3) := by decide +kernel
theorem dX10_list_26 : decode cX10_list 26 = .ok (.iload_n 3, 1) := by decide +kernel
theorem dX10_list_27 : decode cX10_list 27 = .ok (.iconst 2, 1) := by decide +kernel
theorem dX10_list_28 : decode cX10_list 28 = .ok (.invokestatic 75, 3) := by decide +kernel
theorem dX10_list_31 : decode cX10_list 31 = .ok (.ifCond .ne 6, 3) := by decide +kernel
theorem dX10_list_34 : decode cX10_list 34 = .ok (.ldc 79, 2) := by decide +kernel
theorem dX10_list_36 : decode cX10_list 36 = .ok (.ireturn, 1) := by decide +kernel
theorem dX10_list_37 : decode cX10_list 37 = .ok (.aload 4, 2) := by decide +kernel
theorem dX10_list_39 : decode cX10_list 39 = .ok (.getfield 99, 3) := by decide +kernel
theorem dX10_list_42 : decode cX10_list 42 = .ok (.iload_n 2, 1) := by decide +kernel
theorem dX10_list_43 : decode cX10_list 43 = .ok (.ishr, 1) := by decide +kernel
theorem dX10_list_44 : decode cX10_list 44 = .ok (.iconst 1, 1) := by decide +kernel
theorem dX10_list_45 : decode cX10_list 45 = .ok (.iand, 1) := by decide +kernel
theorem dX10_list_46 : decode cX10_list 46 = .ok (.istore 5, 2) := by decide +kernel
theorem dX10_list_48 : decode cX10_list 48 = .ok (.aload 4, 2) := by decide +kernel
theorem dX10_list_50 : decode cX10_list 50 = .ok (.aload 4, 2) := by decide +kernel
theorem dX10_list_52 : decode cX10_list 52 = .ok (.getfield 99, 3) := by decide +kernel
theorem dX10_list_55 : decode cX10_list 55 = .ok (.iload_n 2, 1) := by decide +kernel
theorem dX10_list_56 : decode cX10_list 56 = .ok (.iload_n 3, 1) := by decide +kernel
theorem dX10_list_57 : decode cX10_list 57 = .ok (.invokestatic 105, 3) := by decide +kernel
theorem dX10_list_60 : decode cX10_list 60 = .ok (.putfield 99, 3) := by decide +kernel
theorem dX10_list_63 : decode cX10_list 63 = .ok (.iload 5, 2) := by decide +kernel
theorem dX10_list_65 : decode cX10_list 65 = .ok (.ireturn, 1) := by decide +kernel
def ins_X10_list (pc : Nat) : HOp := cond (Nat.blt pc 36) (cond (Nat.blt pc 16) (cond (Nat.blt pc 8) (cond (Nat.blt pc 4) (cond (Nat.blt pc 1) (cond (Nat.beq pc 0) (o_aload 0 1) o_bad) (cond (Nat.beq pc 1) (o_getf 10 0 4) o_bad)) (cond (Nat.blt pc 5) (cond (Nat.beq pc 4) (o_iload 1 5) o_bad) (cond (Nat.beq pc 5) (o_callV 2 2 sp_X2_prisonerAt 8) o_bad))) (cond (Nat.blt pc 12) (cond (Nat.blt pc 10) (cond (Nat.beq pc 8) (o_astore 4 10) o_bad) (cond (Nat.beq pc 10) (o_aload 4 12) o_bad)) (cond (Nat.blt pc 15) (cond (Nat.beq pc 12) (o_ifnull 34 15) o_bad) (cond (Nat.beq pc 15) (o_aload 0 16) o_bad)))) (cond (Nat.blt pc 26) (cond (Nat.blt pc 20) (cond (Nat.blt pc 19) (cond (Nat.beq pc 16) (o_getf 10 0 19) o_bad) (cond (Nat.beq pc 19) (o_iload 2 20) o_bad)) (cond (Nat.blt pc 23) (cond (Nat.beq pc 20) (o_callV 2 2 sp_X2_isVisitor 23) o_bad) (cond (Nat.beq pc 23) (o_if (fun x => x = 0) 34 26) o_bad))) (cond (Nat.blt pc 28) (cond (Nat.blt pc 27) (cond (Nat.beq pc 26) (o_iload 3 27) o_bad) (cond (Nat.beq pc 27) (o_const (2) 28) o_bad)) (cond (Nat.blt pc 31) (cond (Nat.beq pc 28) (o_callS 2 sp_X10_isBelow 31) o_bad) (cond (Nat.blt pc 34) (cond (Nat.beq pc 31) (o_if (fun x => x = 0) 34 37) o_bad) (cond (Nat.beq pc 34) (o_const (-1000000001) 36) o_bad)))))) (cond (Nat.blt pc 48) (cond (Nat.blt pc 43) (cond (Nat.blt pc 39) (cond (Nat.blt pc 37) (cond (Nat.beq pc 36) (o_iret) o_bad) (cond (Nat.beq pc 37) (o_aload 4 39) o_bad)) (cond (Nat.blt pc 42) (cond (Nat.beq pc 39) (o_getf 3 3 42) o_bad) (cond (Nat.beq pc 42) (o_iload 2 43) o_bad))) (cond (Nat.blt pc 45) (cond (Nat.blt pc 44) (cond (Nat.beq pc 43) (o_bin (fun x y => x >>> (y &&& 31)) 44) o_bad) (cond (Nat.beq pc 44) (o_const (1) 45) o_bad)) (cond (Nat.blt pc 46) (cond (Nat.beq pc 45) (o_bin (fun x y => x &&& y) 46) o_bad) (cond (Nat.beq pc 46) (o_istore 5 48) o_bad)))) (cond (Nat.blt pc 56) (cond (Nat.blt pc 52) (cond (Nat.blt pc 50) (cond (Nat.beq pc 48) (o_aload 4 50) o_bad) (cond (Nat.beq pc 50) (o_aload 4 52) o_bad)) (cond (Nat.blt pc 55) (cond (Nat.beq pc 52) (o_getf 3 3 55) o_bad) (cond (Nat.beq pc 55) (o_iload 2 56) o_bad))) (cond (Nat.blt pc 60) (cond (Nat.blt pc 57) (cond (Nat.beq pc 56) (o_iload 3 57) o_bad) (cond (Nat.beq pc 57) (o_callS 3 sp_X10_withBit 60) o_bad)) (cond (Nat.blt pc 63) (cond (Nat.beq pc 60) (o_putf 3 3 63) o_bad) (cond (Nat.blt pc 65) (cond (Nat.beq pc 63) (o_iload 5 65) o_bad) (cond (Nat.beq pc 65) (o_iret) o_bad))))))
set_option maxRecDepth 20000 in
theorem ok_X10_list : HOKs cX10_list RX10 6 (some .int) 3 ins_X10_list := fun _ => hnd (hnd (hnd (hnd (hnd (hlf (ok_aload_n dX10_list_0 rfl rfl)) (hlf (ok_getf (C := RX10) (T := TX10) dX10_list_1 rfl rfl (by decide) rfl inX10 wd_285 rfl))) (hnd (hlf (ok_iload_n dX10_list_4 rfl rfl)) (hlf (ok_callV (y := yX2_prisonerAt) (n' := 1) (C := RX2) (T := TX2) dX10_list_5 ct_X2_prisonerAt (by decide) (by decide) wd_386 wd_383 wd_384 wd_385 wd_42 rfl (by decide +kernel) rfl rfl rfl)))) (hnd (hnd (hlf (ok_astore dX10_list_8 (by decide) rfl)) (hlf (ok_aload dX10_list_10 rfl))) (hnd (hlf (ok_ifnull dX10_list_12 (by decide) rfl)) (hlf (ok_aload_n dX10_list_15 rfl rfl))))) (hnd (hnd (hnd (hlf (ok_getf (C := RX10) (T := TX10) dX10_list_16 rfl rfl (by decide) rfl inX10 wd_285 rfl)) (hlf (ok_iload_n dX10_list_19 rfl rfl))) (hnd (hlf (ok_callV (y := yX2_isVisitor) (n' := 1) (C := RX2) (T := TX2) dX10_list_20 ct_X2_isVisitor (by decide) (by decide) wd_373 wd_370 wd_371 wd_372 wd_42 rfl (by decide +kernel) rfl rfl rfl)) (hlf (ok_if_eq dX10_list_23 (by decide) rfl)))) (hnd (hnd (hlf (ok_iload_n dX10_list_26 rfl rfl)) (hlf (ok_iconst dX10_list_27 (by decide) rfl))) (hnd (hlf (ok_callS (y := yX10_isBelow) dX10_list_28 ct_X10_isBelow (by decide) (by decide) wd_319 wd_317 wd_318 wd_41 (by decide +kernel) rfl)) (hnd (hlf (ok_if_ne dX10_list_31 (by decide) rfl)) (hlf (ok_ldc dX10_list_34 wd_320 rfl))))))) (hnd (hnd (hnd (hnd (hlf (ok_iret dX10_list_36)) (hlf (ok_aload dX10_list_37 rfl))) (hnd (hlf (ok_getfN (C := RX3) (T := TX3) dX10_list_39 rfl rfl (by decide) rfl inX3 wd_344 rfl)) (hlf (ok_iload_n dX10_list_42 rfl rfl)))) (hnd (hnd (hlf (ok_ishr dX10_list_43 rfl)) (hlf (ok_iconst dX10_list_44 (by decide) rfl))) (hnd (hlf (ok_iand dX10_list_45 rfl)) (hlf (ok_istore dX10_list_46 (by decide) rfl))))) (hnd (hnd (hnd (hlf (ok_aload dX10_list_48 rfl)) (hlf (ok_aload dX10_list_50 rfl))) (hnd (hlf (ok_getfN (C := RX3) (T := TX3) dX10_list_52 rfl rfl (by decide) rfl inX3 wd_344 rfl)) (hlf (ok_iload_n dX10_list_55 rfl rfl)))) (hnd (hnd (hlf (ok_iload_n dX10_list_56 rfl rfl)) (hlf (ok_callS (y := yX10_withBit) dX10_list_57 ct_X10_withBit (by decide) (by decide) wd_389 wd_387 wd_388 wd_41 (by decide +kernel) rfl))) (hnd (hlf (ok_putfN (C := RX3) (T := TX3) dX10_list_60 rfl rfl (by decide) rfl inX3 tyX3_ok nmX3 rfl rfl (fun _ _ => rfl) wd_344 rfl)) (hnd (hlf (ok_iload dX10_list_63 rfl)) (hlf (ok_iret dX10_list_65)))))))

noncomputable def sp_X10_list : HSp := fun as w σ K => wp ins_X10_list (fun _ => none) K 80 0 (loc0 6 as) [] w σ
theorem vc_X10_list : MVC ins_X10_list 6 4 sp_X10_list := mvc0 80 fun _ _ _ _ _ h => h
theorem ct_X10_list : Ctr yX10_list cX10_list 6 (some .int) 3 0 0 4 sp_X10_list := ctr_of (by decide +kernel) rfl (by decide) ok_X10_list vc_X10_list

theorem dX10_order_0 : decode cX10_order 0 = .ok (.aload_n 0, 1) := by decide +kernel
theorem dX10_order_1 : decode cX10_order 1 = .ok (.getfield 10, 3) := by decide +kernel
theorem dX10_order_4 : decode cX10_order 4 = .ok (.iload_n 1, 1) := by decide +kernel
theorem dX10_order_5 : decode cX10_order 5 = .ok (.invokevirtual 95, 3) := by decide +kernel
theorem dX10_order_8 : decode cX10_order 8 = .ok (.astore 4, 2) := by decide +kernel
theorem dX10_order_10 : decode cX10_order 10 = .ok (.aload 4, 2) := by decide +kernel
theorem dX10_order_12 : decode cX10_order 12 = .ok (.ifnull 24, 3) := by decide +kernel
theorem dX10_order_15 : decode cX10_order 15 = .ok (.aload_n 0, 1) := by decide +kernel
theorem dX10_order_16 : decode cX10_order 16 = .ok (.getfield 10, 3) := by decide +kernel
theorem dX10_order_19 : decode cX10_order 19 = .ok (.iload_n 2, 1) := by decide +kernel
theorem dX10_order_20 : decode cX10_order 20 = .ok (.invokevirtual 87, 3) := by decide +kernel
theorem dX10_order_23 : decode cX10_order 23 = .ok (.ifCond .eq 13, 3) := by decide +kernel
theorem dX10_order_26 : decode cX10_order 26 = .ok (.iload_n 3, 1) := by decide +kernel
theorem dX10_order_27 : decode cX10_order 27 = .ok (.sipush 401, 3) := by decide +kernel
theorem dX10_order_30 : decode cX10_order 30 = .ok (.invokestatic 75, 3) := by decide +kernel
theorem dX10_order_33 : decode cX10_order 33 = .ok (.ifCond .ne 6, 3) := by decide +kernel
theorem dX10_order_36 : decode cX10_order 36 = .ok (.ldc 79, 2) := by decide +kernel
theorem dX10_order_38 : decode cX10_order 38 = .ok (.ireturn, 1) := by decide +kernel
theorem dX10_order_39 : decode cX10_order 39 = .ok (.aload 4, 2) := by decide +kernel
theorem dX10_order_41 : decode cX10_order 41 = .ok (.iload_n 2, 1) := by decide +kernel
theorem dX10_order_42 : decode cX10_order 42 = .ok (.iload_n 3, 1) := by decide +kernel
theorem dX10_order_43 : decode cX10_order 43 = .ok (.invokevirtual 109, 3) := by decide +kernel
theorem dX10_order_46 : decode cX10_order 46 = .ok (.aload_n 0, 1) := by decide +kernel
theorem dX10_order_47 : decode cX10_order 47 = .ok (.getfield 41, 3) := by decide +kernel
theorem dX10_order_50 : decode cX10_order 50 = .ok (.iload_n 1, 1) := by decide +kernel
theorem dX10_order_51 : decode cX10_order 51 = .ok (.iconst 1, 1) := by decide +kernel
theorem dX10_order_52 : decode cX10_order 52 = .ok (.iload_n 2, 1) := by decide +kernel
theorem dX10_order_53 : decode cX10_order 53 = .ok (.ishl, 1) := by decide +kernel
theorem dX10_order_54 : decode cX10_order 54 = .ok (.iload_n 3, 1) := by decide +kernel
theorem dX10_order_55 : decode cX10_order 55 = .ok (.invokevirtual 113, 3) := by decide +kernel
theorem dX10_order_58 : decode cX10_order 58 = .ok (.ireturn, 1) := by decide +kernel
def ins_X10_order (pc : Nat) : HOp := cond (Nat.blt pc 33) (cond (Nat.blt pc 15) (cond (Nat.blt pc 5) (cond (Nat.blt pc 1) (cond (Nat.beq pc 0) (o_aload 0 1) o_bad) (cond (Nat.blt pc 4) (cond (Nat.beq pc 1) (o_getf 10 0 4) o_bad) (cond (Nat.beq pc 4) (o_iload 1 5) o_bad))) (cond (Nat.blt pc 10) (cond (Nat.blt pc 8) (cond (Nat.beq pc 5) (o_callV 2 2 sp_X2_prisonerAt 8) o_bad) (cond (Nat.beq pc 8) (o_astore 4 10) o_bad)) (cond (Nat.blt pc 12) (cond (Nat.beq pc 10) (o_aload 4 12) o_bad) (cond (Nat.beq pc 12) (o_ifnull 36 15) o_bad)))) (cond (Nat.blt pc 23) (cond (Nat.blt pc 19) (cond (Nat.blt pc 16) (cond (Nat.beq pc 15) (o_aload 0 16) o_bad) (cond (Nat.beq pc 16) (o_getf 10 0 19) o_bad)) (cond (Nat.blt pc 20) (cond (Nat.beq pc 19) (o_iload 2 20) o_bad) (cond (Nat.beq pc 20) (o_callV 2 2 sp_X2_isVisitor 23) o_bad))) (cond (Nat.blt pc 27) (cond (Nat.blt pc 26) (cond (Nat.beq pc 23) (o_if (fun x => x = 0) 36 26) o_bad) (cond (Nat.beq pc 26) (o_iload 3 27) o_bad)) (cond (Nat.blt pc 30) (cond (Nat.beq pc 27) (o_const (401) 30) o_bad) (cond (Nat.beq pc 30) (o_callS 2 sp_X10_isBelow 33) o_bad))))) (cond (Nat.blt pc 47) (cond (Nat.blt pc 41) (cond (Nat.blt pc 38) (cond (Nat.blt pc 36) (cond (Nat.beq pc 33) (o_if (fun x => x = 0) 36 39) o_bad) (cond (Nat.beq pc 36) (o_const (-1000000001) 38) o_bad)) (cond (Nat.blt pc 39) (cond (Nat.beq pc 38) (o_iret) o_bad) (cond (Nat.beq pc 39) (o_aload 4 41) o_bad))) (cond (Nat.blt pc 43) (cond (Nat.blt pc 42) (cond (Nat.beq pc 41) (o_iload 2 42) o_bad) (cond (Nat.beq pc 42) (o_iload 3 43) o_bad)) (cond (Nat.blt pc 46) (cond (Nat.beq pc 43) (o_callV 3 3 sp_X3_barFrom 46) o_bad) (cond (Nat.beq pc 46) (o_aload 0 47) o_bad)))) (cond (Nat.blt pc 53) (cond (Nat.blt pc 51) (cond (Nat.blt pc 50) (cond (Nat.beq pc 47) (o_getf 10 4 50) o_bad) (cond (Nat.beq pc 50) (o_iload 1 51) o_bad)) (cond (Nat.blt pc 52) (cond (Nat.beq pc 51) (o_const (1) 52) o_bad) (cond (Nat.beq pc 52) (o_iload 2 53) o_bad))) (cond (Nat.blt pc 55) (cond (Nat.blt pc 54) (cond (Nat.beq pc 53) (o_bin (fun x y => x <<< (y &&& 31)) 54) o_bad) (cond (Nat.beq pc 54) (o_iload 3 55) o_bad)) (cond (Nat.blt pc 58) (cond (Nat.beq pc 55) (o_callV 4 0 sp_X0_giveBackAll 58) o_bad) (cond (Nat.beq pc 58) (o_iret) o_bad)))))
set_option maxRecDepth 20000 in
theorem ok_X10_order : HOKs cX10_order RX10 5 (some .int) 3 ins_X10_order := fun _ => hnd (hnd (hnd (hnd (hlf (ok_aload_n dX10_order_0 rfl rfl)) (hnd (hlf (ok_getf (C := RX10) (T := TX10) dX10_order_1 rfl rfl (by decide) rfl inX10 wd_285 rfl)) (hlf (ok_iload_n dX10_order_4 rfl rfl)))) (hnd (hnd (hlf (ok_callV (y := yX2_prisonerAt) (n' := 1) (C := RX2) (T := TX2) dX10_order_5 ct_X2_prisonerAt (by decide) (by decide) wd_386 wd_383 wd_384 wd_385 wd_42 rfl (by decide +kernel) rfl rfl rfl)) (hlf (ok_astore dX10_order_8 (by decide) rfl))) (hnd (hlf (ok_aload dX10_order_10 rfl)) (hlf (ok_ifnull dX10_order_12 (by decide) rfl))))) (hnd (hnd (hnd (hlf (ok_aload_n dX10_order_15 rfl rfl)) (hlf (ok_getf (C := RX10) (T := TX10) dX10_order_16 rfl rfl (by decide) rfl inX10 wd_285 rfl))) (hnd (hlf (ok_iload_n dX10_order_19 rfl rfl)) (hlf (ok_callV (y := yX2_isVisitor) (n' := 1) (C := RX2) (T := TX2) dX10_order_20 ct_X2_isVisitor (by decide) (by decide) wd_373 wd_370 wd_371 wd_372 wd_42 rfl (by decide +kernel) rfl rfl rfl)))) (hnd (hnd (hlf (ok_if_eq dX10_order_23 (by decide) rfl)) (hlf (ok_iload_n dX10_order_26 rfl rfl))) (hnd (hlf (ok_sipush dX10_order_27 (by decide) rfl)) (hlf (ok_callS (y := yX10_isBelow) dX10_order_30 ct_X10_isBelow (by decide) (by decide) wd_319 wd_317 wd_318 wd_41 (by decide +kernel) rfl)))))) (hnd (hnd (hnd (hnd (hlf (ok_if_ne dX10_order_33 (by decide) rfl)) (hlf (ok_ldc dX10_order_36 wd_320 rfl))) (hnd (hlf (ok_iret dX10_order_38)) (hlf (ok_aload dX10_order_39 rfl)))) (hnd (hnd (hlf (ok_iload_n dX10_order_41 rfl rfl)) (hlf (ok_iload_n dX10_order_42 rfl rfl))) (hnd (hlf (ok_callV (y := yX3_barFrom) (n' := 2) (C := RX3) (T := TX3) dX10_order_43 ct_X3_barFrom (by decide) (by decide) wd_397 wd_394 wd_395 wd_396 wd_51 rfl (by decide +kernel) rfl rfl rfl)) (hlf (ok_aload_n dX10_order_46 rfl rfl))))) (hnd (hnd (hnd (hlf (ok_getf (C := RX10) (T := TX10) dX10_order_47 rfl rfl (by decide) rfl inX10 wd_289 rfl)) (hlf (ok_iload_n dX10_order_50 rfl rfl))) (hnd (hlf (ok_iconst dX10_order_51 (by decide) rfl)) (hlf (ok_iload_n dX10_order_52 rfl rfl)))) (hnd (hnd (hlf (ok_ishl dX10_order_53 rfl)) (hlf (ok_iload_n dX10_order_54 rfl rfl))) (hnd (hlf (ok_callV (y := yX0_giveBackAll) (n' := 3) (C := RX0) (T := TX0) dX10_order_55 ct_X0_giveBackAll (by decide) (by decide) wd_402 wd_399 wd_400 wd_401 wd_45 rfl (by decide +kernel) rfl rfl rfl)) (hlf (ok_iret dX10_order_58))))))

noncomputable def sp_X10_order : HSp := fun as w σ K => wp ins_X10_order (fun _ => none) K 80 0 (loc0 5 as) [] w σ
theorem vc_X10_order : MVC ins_X10_order 5 4 sp_X10_order := mvc0 80 fun _ _ _ _ _ h => h
theorem ct_X10_order : Ctr yX10_order cX10_order 5 (some .int) 3 0 0 4 sp_X10_order := ctr_of (by decide +kernel) rfl (by decide) ok_X10_order vc_X10_order

theorem dX10_lift_0 : decode cX10_lift 0 = .ok (.aload_n 0, 1) := by decide +kernel
theorem dX10_lift_1 : decode cX10_lift 1 = .ok (.getfield 10, 3) := by decide +kernel
theorem dX10_lift_4 : decode cX10_lift 4 = .ok (.iload_n 1, 1) := by decide +kernel
theorem dX10_lift_5 : decode cX10_lift 5 = .ok (.invokevirtual 95, 3) := by decide +kernel
theorem dX10_lift_8 : decode cX10_lift 8 = .ok (.astore_n 3, 1) := by decide +kernel
theorem dX10_lift_9 : decode cX10_lift 9 = .ok (.aload_n 3, 1) := by decide +kernel
theorem dX10_lift_10 : decode cX10_lift 10 = .ok (.ifnull 14, 3) := by decide +kernel
theorem dX10_lift_13 : decode cX10_lift 13 = .ok (.aload_n 0, 1) := by decide +kernel
theorem dX10_lift_14 : decode cX10_lift 14 = .ok (.getfield 10, 3) := by decide +kernel
theorem dX10_lift_17 : decode cX10_lift 17 = .ok (.iload_n 2, 1) := by decide +kernel
theorem dX10_lift_18 : decode cX10_lift 18 = .ok (.invokevirtual 87, 3) := by decide +kernel
theorem dX10_lift_21 : decode cX10_lift 21 = .ok (.ifCond .ne 6, 3) := by decide +kernel
theorem dX10_lift_24 : decode cX10_lift 24 = .ok (.ldc 79, 2) := by decide +kernel
theorem dX10_lift_26 : decode cX10_lift 26 = .ok (.ireturn, 1) := by decide +kernel
theorem dX10_lift_27 : decode cX10_lift 27 = .ok (.aload_n 3, 1) := by decide +kernel
theorem dX10_lift_28 : decode cX10_lift 28 = .ok (.iload_n 2, 1) := by decide +kernel
theorem dX10_lift_29 : decode cX10_lift 29 = .ok (.invokevirtual 116, 3) := by decide +kernel
theorem dX10_lift_32 : decode cX10_lift 32 = .ok (.istore 4, 2) := by decide +kernel
theorem dX10_lift_34 : decode cX10_lift 34 = .ok (.iload 4, 2) := by decide +kernel
theorem dX10_lift_36 : decode cX10_lift 36 = .ok (.sipush 401, 3) := by decide +kernel
theorem dX10_lift_39 : decode cX10_lift 39 = .ok (.if_icmp .ne 6, 3) := by decide +kernel
theorem dX10_lift_42 : decode cX10_lift 42 = .ok (.ldc 119, 2) := by decide +kernel
theorem dX10_lift_44 : decode cX10_lift 44 = .ok (.ireturn, 1) := by decide +kernel
theorem dX10_lift_45 : decode cX10_lift 45 = .ok (.aload_n 3, 1) := by decide +kernel
theorem dX10_lift_46 : decode cX10_lift 46 = .ok (.iload_n 2, 1) := by decide +kernel
theorem dX10_lift_47 : decode cX10_lift 47 = .ok (.sipush 401, 3) := by decide +kernel
theorem dX10_lift_50 : decode cX10_lift 50 = .ok (.invokevirtual 109, 3) := by decide +kernel
theorem dX10_lift_53 : decode cX10_lift 53 = .ok (.aload_n 0, 1) := by decide +kernel
theorem dX10_lift_54 : decode cX10_lift 54 = .ok (.getfield 57, 3) := by decide +kernel
theorem dX10_lift_57 : decode cX10_lift 57 = .ok (.invokevirtual 120, 3) := by decide +kernel
theorem dX10_lift_60 : decode cX10_lift 60 = .ok (.pop, 1) := by decide +kernel
theorem dX10_lift_61 : decode cX10_lift 61 = .ok (.iload 4, 2) := by decide +kernel
theorem dX10_lift_63 : decode cX10_lift 63 = .ok (.ireturn, 1) := by decide +kernel
def ins_X10_lift (pc : Nat) : HOp := cond (Nat.blt pc 29) (cond (Nat.blt pc 14) (cond (Nat.blt pc 8) (cond (Nat.blt pc 4) (cond (Nat.blt pc 1) (cond (Nat.beq pc 0) (o_aload 0 1) o_bad) (cond (Nat.beq pc 1) (o_getf 10 0 4) o_bad)) (cond (Nat.blt pc 5) (cond (Nat.beq pc 4) (o_iload 1 5) o_bad) (cond (Nat.beq pc 5) (o_callV 2 2 sp_X2_prisonerAt 8) o_bad))) (cond (Nat.blt pc 10) (cond (Nat.blt pc 9) (cond (Nat.beq pc 8) (o_astore 3 9) o_bad) (cond (Nat.beq pc 9) (o_aload 3 10) o_bad)) (cond (Nat.blt pc 13) (cond (Nat.beq pc 10) (o_ifnull 24 13) o_bad) (cond (Nat.beq pc 13) (o_aload 0 14) o_bad)))) (cond (Nat.blt pc 24) (cond (Nat.blt pc 18) (cond (Nat.blt pc 17) (cond (Nat.beq pc 14) (o_getf 10 0 17) o_bad) (cond (Nat.beq pc 17) (o_iload 2 18) o_bad)) (cond (Nat.blt pc 21) (cond (Nat.beq pc 18) (o_callV 2 2 sp_X2_isVisitor 21) o_bad) (cond (Nat.beq pc 21) (o_if (fun x => x = 0) 24 27) o_bad))) (cond (Nat.blt pc 27) (cond (Nat.blt pc 26) (cond (Nat.beq pc 24) (o_const (-1000000001) 26) o_bad) (cond (Nat.beq pc 26) (o_iret) o_bad)) (cond (Nat.blt pc 28) (cond (Nat.beq pc 27) (o_aload 3 28) o_bad) (cond (Nat.beq pc 28) (o_iload 2 29) o_bad))))) (cond (Nat.blt pc 46) (cond (Nat.blt pc 39) (cond (Nat.blt pc 34) (cond (Nat.blt pc 32) (cond (Nat.beq pc 29) (o_callV 2 3 sp_X3_barredFrom 32) o_bad) (cond (Nat.beq pc 32) (o_istore 4 34) o_bad)) (cond (Nat.blt pc 36) (cond (Nat.beq pc 34) (o_iload 4 36) o_bad) (cond (Nat.beq pc 36) (o_const (401) 39) o_bad))) (cond (Nat.blt pc 44) (cond (Nat.blt pc 42) (cond (Nat.beq pc 39) (o_icmp (fun x y => x = y) 42 45) o_bad) (cond (Nat.beq pc 42) (o_const (-1000000002) 44) o_bad)) (cond (Nat.blt pc 45) (cond (Nat.beq pc 44) (o_iret) o_bad) (cond (Nat.beq pc 45) (o_aload 3 46) o_bad)))) (cond (Nat.blt pc 54) (cond (Nat.blt pc 50) (cond (Nat.blt pc 47) (cond (Nat.beq pc 46) (o_iload 2 47) o_bad) (cond (Nat.beq pc 47) (o_const (401) 50) o_bad)) (cond (Nat.blt pc 53) (cond (Nat.beq pc 50) (o_callV 3 3 sp_X3_barFrom 53) o_bad) (cond (Nat.beq pc 53) (o_aload 0 54) o_bad))) (cond (Nat.blt pc 60) (cond (Nat.blt pc 57) (cond (Nat.beq pc 54) (o_getf 10 6 57) o_bad) (cond (Nat.beq pc 57) (o_callV 1 1 sp_X1_letWaiting 60) o_bad)) (cond (Nat.blt pc 61) (cond (Nat.beq pc 60) (o_pop 61) o_bad) (cond (Nat.blt pc 63) (cond (Nat.beq pc 61) (o_iload 4 63) o_bad) (cond (Nat.beq pc 63) (o_iret) o_bad))))))
set_option maxRecDepth 20000 in
theorem ok_X10_lift : HOKs cX10_lift RX10 5 (some .int) 7 ins_X10_lift := fun _ => hnd (hnd (hnd (hnd (hnd (hlf (ok_aload_n dX10_lift_0 rfl rfl)) (hlf (ok_getf (C := RX10) (T := TX10) dX10_lift_1 rfl rfl (by decide) rfl inX10 wd_285 rfl))) (hnd (hlf (ok_iload_n dX10_lift_4 rfl rfl)) (hlf (ok_callV (y := yX2_prisonerAt) (n' := 1) (C := RX2) (T := TX2) dX10_lift_5 ct_X2_prisonerAt (by decide) (by decide) wd_386 wd_383 wd_384 wd_385 wd_42 rfl (by decide +kernel) rfl rfl rfl)))) (hnd (hnd (hlf (ok_astore_n dX10_lift_8 rfl (by decide) rfl)) (hlf (ok_aload_n dX10_lift_9 rfl rfl))) (hnd (hlf (ok_ifnull dX10_lift_10 (by decide) rfl)) (hlf (ok_aload_n dX10_lift_13 rfl rfl))))) (hnd (hnd (hnd (hlf (ok_getf (C := RX10) (T := TX10) dX10_lift_14 rfl rfl (by decide) rfl inX10 wd_285 rfl)) (hlf (ok_iload_n dX10_lift_17 rfl rfl))) (hnd (hlf (ok_callV (y := yX2_isVisitor) (n' := 1) (C := RX2) (T := TX2) dX10_lift_18 ct_X2_isVisitor (by decide) (by decide) wd_373 wd_370 wd_371 wd_372 wd_42 rfl (by decide +kernel) rfl rfl rfl)) (hlf (ok_if_ne dX10_lift_21 (by decide) rfl)))) (hnd (hnd (hlf (ok_ldc dX10_lift_24 wd_320 rfl)) (hlf (ok_iret dX10_lift_26))) (hnd (hlf (ok_aload_n dX10_lift_27 rfl rfl)) (hlf (ok_iload_n dX10_lift_28 rfl rfl)))))) (hnd (hnd (hnd (hnd (hlf (ok_callV (y := yX3_barredFrom) (n' := 1) (C := RX3) (T := TX3) dX10_lift_29 ct_X3_barredFrom (by decide) (by decide) wd_410 wd_407 wd_408 wd_409 wd_51 rfl (by decide +kernel) rfl rfl rfl)) (hlf (ok_istore dX10_lift_32 (by decide) rfl))) (hnd (hlf (ok_iload dX10_lift_34 rfl)) (hlf (ok_sipush dX10_lift_36 (by decide) rfl)))) (hnd (hnd (hlf (ok_icmp_ne dX10_lift_39 (by decide) rfl)) (hlf (ok_ldc dX10_lift_42 wd_411 rfl))) (hnd (hlf (ok_iret dX10_lift_44)) (hlf (ok_aload_n dX10_lift_45 rfl rfl))))) (hnd (hnd (hnd (hlf (ok_iload_n dX10_lift_46 rfl rfl)) (hlf (ok_sipush dX10_lift_47 (by decide) rfl))) (hnd (hlf (ok_callV (y := yX3_barFrom) (n' := 2) (C := RX3) (T := TX3) dX10_lift_50 ct_X3_barFrom (by decide) (by decide) wd_397 wd_394 wd_395 wd_396 wd_51 rfl (by decide +kernel) rfl rfl rfl)) (hlf (ok_aload_n dX10_lift_53 rfl rfl)))) (hnd (hnd (hlf (ok_getf (C := RX10) (T := TX10) dX10_lift_54 rfl rfl (by decide) rfl inX10 wd_291 rfl)) (hlf (ok_callV (y := yX1_letWaiting) (n' := 0) (C := RX1) (T := TX1) dX10_lift_57 ct_X1_letWaiting (by decide) (by decide) wd_415 wd_412 wd_413 wd_414 wd_47 rfl (by decide +kernel) rfl rfl rfl))) (hnd (hlf (ok_pop dX10_lift_60 rfl)) (hnd (hlf (ok_iload dX10_lift_61 rfl)) (hlf (ok_iret dX10_lift_63)))))))

noncomputable def sp_X10_lift : HSp := fun as w σ K => wp ins_X10_lift (fun _ => none) K 80 0 (loc0 5 as) [] w σ
theorem vc_X10_lift : MVC ins_X10_lift 5 3 sp_X10_lift := mvc0 80 fun _ _ _ _ _ h => h
theorem ct_X10_lift : Ctr yX10_lift cX10_lift 5 (some .int) 7 0 0 3 sp_X10_lift := ctr_of (by decide +kernel) rfl (by decide) ok_X10_lift vc_X10_lift

theorem dX10_rivals_0 : decode cX10_rivals 0 = .ok (.iload_n 1, 1) := by decide +kernel
theorem dX10_rivals_1 : decode cX10_rivals 1 = .ok (.bipush 10, 2) := by decide +kernel
theorem dX10_rivals_3 : decode cX10_rivals 3 = .ok (.invokestatic 75, 3) := by decide +kernel
theorem dX10_rivals_6 : decode cX10_rivals 6 = .ok (.ifCond .eq 25, 3) := by decide +kernel
theorem dX10_rivals_9 : decode cX10_rivals 9 = .ok (.iload_n 2, 1) := by decide +kernel
theorem dX10_rivals_10 : decode cX10_rivals 10 = .ok (.bipush 10, 2) := by decide +kernel
theorem dX10_rivals_12 : decode cX10_rivals 12 = .ok (.invokestatic 75, 3) := by decide +kernel
theorem dX10_rivals_15 : decode cX10_rivals 15 = .ok (.ifCond .eq 16, 3) := by decide +kernel
theorem dX10_rivals_18 : decode cX10_rivals 18 = .ok (.iload_n 1, 1) := by decide +kernel
theorem dX10_rivals_19 : decode cX10_rivals 19 = .ok (.iload_n 2, 1) := by decide +kernel
theorem dX10_rivals_20 : decode cX10_rivals 20 = .ok (.if_icmp .eq 11, 3) := by decide +kernel
theorem dX10_rivals_23 : decode cX10_rivals 23 = .ok (.iload_n 3, 1) := by decide +kernel
theorem dX10_rivals_24 : decode cX10_rivals 24 = .ok (.iconst 2, 1) := by decide +kernel
theorem dX10_rivals_25 : decode cX10_rivals 25 = .ok (.invokestatic 75, 3) := by decide +kernel
theorem dX10_rivals_28 : decode cX10_rivals 28 = .ok (.ifCond .ne 6, 3) := by decide +kernel
theorem dX10_rivals_31 : decode cX10_rivals 31 = .ok (.ldc 79, 2) := by decide +kernel
theorem dX10_rivals_33 : decode cX10_rivals 33 = .ok (.ireturn, 1) := by decide +kernel
theorem dX10_rivals_34 : decode cX10_rivals 34 = .ok (.aload_n 0, 1) := by decide +kernel
theorem dX10_rivals_35 : decode cX10_rivals 35 = .ok (.getfield 10, 3) := by decide +kernel
theorem dX10_rivals_38 : decode cX10_rivals 38 = .ok (.iload_n 1, 1) := by decide +kernel
theorem dX10_rivals_39 : decode cX10_rivals 39 = .ok (.iload_n 2, 1) := by decide +kernel
theorem dX10_rivals_40 : decode cX10_rivals 40 = .ok (.invokevirtual 124, 3) := by decide +kernel
theorem dX10_rivals_43 : decode cX10_rivals 43 = .ok (.ifCond .eq 7, 3) := by decide +kernel
theorem dX10_rivals_46 : decode cX10_rivals 46 = .ok (.iconst 1, 1) := by decide +kernel
theorem dX10_rivals_47 : decode cX10_rivals 47 = .ok (.goto 4, 3) := by decide +kernel
theorem dX10_rivals_50 : decode cX10_rivals 50 = .ok (.iconst 0, 1) := by decide +kernel
theorem dX10_rivals_51 : decode cX10_rivals 51 = .ok (.istore 4, 2) := by decide +kernel
theorem dX10_rivals_53 : decode cX10_rivals 53 = .ok (.aload_n 0, 1) := by decide +kernel
theorem dX10_rivals_54 : decode cX10_rivals 54 = .ok (.getfield 10, 3) := by decide +kernel
theorem dX10_rivals_57 : decode cX10_rivals 57 = .ok (.iload_n 1, 1) := by decide +kernel
theorem dX10_rivals_58 : decode cX10_rivals 58 = .ok (.iload_n 2, 1) := by decide +kernel
theorem dX10_rivals_59 : decode cX10_rivals 59 = .ok (.iload_n 3, 1) := by decide +kernel
theorem dX10_rivals_60 : decode cX10_rivals 60 = .ok (.invokevirtual 127, 3) := by decide +kernel
theorem dX10_rivals_63 : decode cX10_rivals 63 = .ok (.aload_n 0, 1) := by decide +kernel
theorem dX10_rivals_64 : decode cX10_rivals 64 = .ok (.getfield 57, 3) := by decide +kernel
theorem dX10_rivals_67 : decode cX10_rivals 67 = .ok (.invokevirtual 120, 3) := by decide +kernel
theorem dX10_rivals_70 : decode cX10_rivals 70 = .ok (.pop, 1) := by decide +kernel
theorem dX10_rivals_71 : decode cX10_rivals 71 = .ok (.iload 4, 2) := by decide +kernel
theorem dX10_rivals_73 : decode cX10_rivals 73 = .ok (.ireturn, 1) := by decide +kernel
def ins_X10_rivals (pc : Nat) : HOp := cond (Nat.blt pc 38) (cond (Nat.blt pc 19) (cond (Nat.blt pc 9) (cond (Nat.blt pc 3) (cond (Nat.blt pc 1) (cond (Nat.beq pc 0) (o_iload 1 1) o_bad) (cond (Nat.beq pc 1) (o_const (10) 3) o_bad)) (cond (Nat.blt pc 6) (cond (Nat.beq pc 3) (o_callS 2 sp_X10_isBelow 6) o_bad) (cond (Nat.beq pc 6) (o_if (fun x => x = 0) 31 9) o_bad))) (cond (Nat.blt pc 12) (cond (Nat.blt pc 10) (cond (Nat.beq pc 9) (o_iload 2 10) o_bad) (cond (Nat.beq pc 10) (o_const (10) 12) o_bad)) (cond (Nat.blt pc 15) (cond (Nat.beq pc 12) (o_callS 2 sp_X10_isBelow 15) o_bad) (cond (Nat.blt pc 18) (cond (Nat.beq pc 15) (o_if (fun x => x = 0) 31 18) o_bad) (cond (Nat.beq pc 18) (o_iload 1 19) o_bad))))) (cond (Nat.blt pc 28) (cond (Nat.blt pc 23) (cond (Nat.blt pc 20) (cond (Nat.beq pc 19) (o_iload 2 20) o_bad) (cond (Nat.beq pc 20) (o_icmp (fun x y => x = y) 31 23) o_bad)) (cond (Nat.blt pc 24) (cond (Nat.beq pc 23) (o_iload 3 24) o_bad) (cond (Nat.blt pc 25) (cond (Nat.beq pc 24) (o_const (2) 25) o_bad) (cond (Nat.beq pc 25) (o_callS 2 sp_X10_isBelow 28) o_bad)))) (cond (Nat.blt pc 33) (cond (Nat.blt pc 31) (cond (Nat.beq pc 28) (o_if (fun x => x = 0) 31 34) o_bad) (cond (Nat.beq pc 31) (o_const (-1000000001) 33) o_bad)) (cond (Nat.blt pc 34) (cond (Nat.beq pc 33) (o_iret) o_bad) (cond (Nat.blt pc 35) (cond (Nat.beq pc 34) (o_aload 0 35) o_bad) (cond (Nat.beq pc 35) (o_getf 10 0 38) o_bad)))))) (cond (Nat.blt pc 57) (cond (Nat.blt pc 47) (cond (Nat.blt pc 40) (cond (Nat.blt pc 39) (cond (Nat.beq pc 38) (o_iload 1 39) o_bad) (cond (Nat.beq pc 39) (o_iload 2 40) o_bad)) (cond (Nat.blt pc 43) (cond (Nat.beq pc 40) (o_callV 3 2 sp_X2_areRivals 43) o_bad) (cond (Nat.blt pc 46) (cond (Nat.beq pc 43) (o_if (fun x => x = 0) 50 46) o_bad) (cond (Nat.beq pc 46) (o_const (1) 47) o_bad)))) (cond (Nat.blt pc 51) (cond (Nat.blt pc 50) (cond (Nat.beq pc 47) (o_goto 51) o_bad) (cond (Nat.beq pc 50) (o_const (0) 51) o_bad)) (cond (Nat.blt pc 53) (cond (Nat.beq pc 51) (o_istore 4 53) o_bad) (cond (Nat.blt pc 54) (cond (Nat.beq pc 53) (o_aload 0 54) o_bad) (cond (Nat.beq pc 54) (o_getf 10 0 57) o_bad))))) (cond (Nat.blt pc 64) (cond (Nat.blt pc 59) (cond (Nat.blt pc 58) (cond (Nat.beq pc 57) (o_iload 1 58) o_bad) (cond (Nat.beq pc 58) (o_iload 2 59) o_bad)) (cond (Nat.blt pc 60) (cond (Nat.beq pc 59) (o_iload 3 60) o_bad) (cond (Nat.blt pc 63) (cond (Nat.beq pc 60) (o_callV 4 2 sp_X2_setRivals 63) o_bad) (cond (Nat.beq pc 63) (o_aload 0 64) o_bad)))) (cond (Nat.blt pc 70) (cond (Nat.blt pc 67) (cond (Nat.beq pc 64) (o_getf 10 6 67) o_bad) (cond (Nat.beq pc 67) (o_callV 1 1 sp_X1_letWaiting 70) o_bad)) (cond (Nat.blt pc 71) (cond (Nat.beq pc 70) (o_pop 71) o_bad) (cond (Nat.blt pc 73) (cond (Nat.beq pc 71) (o_iload 4 73) o_bad) (cond (Nat.beq pc 73) (o_iret) o_bad))))))
set_option maxRecDepth 20000 in
theorem ok_X10_rivals : HOKs cX10_rivals RX10 5 (some .int) 7 ins_X10_rivals := fun _ => hnd (hnd (hnd (hnd (hnd (hlf (ok_iload_n dX10_rivals_0 rfl rfl)) (hlf (ok_bipush dX10_rivals_1 (by decide) rfl))) (hnd (hlf (ok_callS (y := yX10_isBelow) dX10_rivals_3 ct_X10_isBelow (by decide) (by decide) wd_319 wd_317 wd_318 wd_41 (by decide +kernel) rfl)) (hlf (ok_if_eq dX10_rivals_6 (by decide) rfl)))) (hnd (hnd (hlf (ok_iload_n dX10_rivals_9 rfl rfl)) (hlf (ok_bipush dX10_rivals_10 (by decide) rfl))) (hnd (hlf (ok_callS (y := yX10_isBelow) dX10_rivals_12 ct_X10_isBelow (by decide) (by decide) wd_319 wd_317 wd_318 wd_41 (by decide +kernel) rfl)) (hnd (hlf (ok_if_eq dX10_rivals_15 (by decide) rfl)) (hlf (ok_iload_n dX10_rivals_18 rfl rfl)))))) (hnd (hnd (hnd (hlf (ok_iload_n dX10_rivals_19 rfl rfl)) (hlf (ok_icmp_eq dX10_rivals_20 (by decide) rfl))) (hnd (hlf (ok_iload_n dX10_rivals_23 rfl rfl)) (hnd (hlf (ok_iconst dX10_rivals_24 (by decide) rfl)) (hlf (ok_callS (y := yX10_isBelow) dX10_rivals_25 ct_X10_isBelow (by decide) (by decide) wd_319 wd_317 wd_318 wd_41 (by decide +kernel) rfl))))) (hnd (hnd (hlf (ok_if_ne dX10_rivals_28 (by decide) rfl)) (hlf (ok_ldc dX10_rivals_31 wd_320 rfl))) (hnd (hlf (ok_iret dX10_rivals_33)) (hnd (hlf (ok_aload_n dX10_rivals_34 rfl rfl)) (hlf (ok_getf (C := RX10) (T := TX10) dX10_rivals_35 rfl rfl (by decide) rfl inX10 wd_285 rfl))))))) (hnd (hnd (hnd (hnd (hlf (ok_iload_n dX10_rivals_38 rfl rfl)) (hlf (ok_iload_n dX10_rivals_39 rfl rfl))) (hnd (hlf (ok_callV (y := yX2_areRivals) (n' := 2) (C := RX2) (T := TX2) dX10_rivals_40 ct_X2_areRivals (by decide) (by decide) wd_490 wd_533 wd_488 wd_489 wd_42 rfl (by decide +kernel) rfl rfl rfl)) (hnd (hlf (ok_if_eq dX10_rivals_43 (by decide) rfl)) (hlf (ok_iconst dX10_rivals_46 (by decide) rfl))))) (hnd (hnd (hlf (ok_goto dX10_rivals_47 (by decide))) (hlf (ok_iconst dX10_rivals_50 (by decide) rfl))) (hnd (hlf (ok_istore dX10_rivals_51 (by decide) rfl)) (hnd (hlf (ok_aload_n dX10_rivals_53 rfl rfl)) (hlf (ok_getf (C := RX10) (T := TX10) dX10_rivals_54 rfl rfl (by decide) rfl inX10 wd_285 rfl)))))) (hnd (hnd (hnd (hlf (ok_iload_n dX10_rivals_57 rfl rfl)) (hlf (ok_iload_n dX10_rivals_58 rfl rfl))) (hnd (hlf (ok_iload_n dX10_rivals_59 rfl rfl)) (hnd (hlf (ok_callV (y := yX2_setRivals) (n' := 3) (C := RX2) (T := TX2) dX10_rivals_60 ct_X2_setRivals (by decide) (by decide) wd_537 wd_534 wd_535 wd_536 wd_42 rfl (by decide +kernel) rfl rfl rfl)) (hlf (ok_aload_n dX10_rivals_63 rfl rfl))))) (hnd (hnd (hlf (ok_getf (C := RX10) (T := TX10) dX10_rivals_64 rfl rfl (by decide) rfl inX10 wd_291 rfl)) (hlf (ok_callV (y := yX1_letWaiting) (n' := 0) (C := RX1) (T := TX1) dX10_rivals_67 ct_X1_letWaiting (by decide) (by decide) wd_415 wd_412 wd_413 wd_414 wd_47 rfl (by decide +kernel) rfl rfl rfl))) (hnd (hlf (ok_pop dX10_rivals_70 rfl)) (hnd (hlf (ok_iload dX10_rivals_71 rfl)) (hlf (ok_iret dX10_rivals_73)))))))

noncomputable def sp_X10_rivals : HSp := fun as w σ K => wp ins_X10_rivals (fun _ => none) K 80 0 (loc0 5 as) [] w σ
theorem vc_X10_rivals : MVC ins_X10_rivals 5 4 sp_X10_rivals := mvc0 80 fun _ _ _ _ _ h => h
theorem ct_X10_rivals : Ctr yX10_rivals cX10_rivals 5 (some .int) 7 0 0 4 sp_X10_rivals := ctr_of (by decide +kernel) rfl (by decide) ok_X10_rivals vc_X10_rivals

theorem dX10_move_0 : decode cX10_move 0 = .ok (.aload_n 0, 1) := by decide +kernel
theorem dX10_move_1 : decode cX10_move 1 = .ok (.getfield 10, 3) := by decide +kernel
theorem dX10_move_4 : decode cX10_move 4 = .ok (.iload_n 1, 1) := by decide +kernel
theorem dX10_move_5 : decode cX10_move 5 = .ok (.invokevirtual 95, 3) := by decide +kernel
theorem dX10_move_8 : decode cX10_move 8 = .ok (.astore_n 2, 1) := by decide +kernel
theorem dX10_move_9 : decode cX10_move 9 = .ok (.aload_n 2, 1) := by decide +kernel
theorem dX10_move_10 : decode cX10_move 10 = .ok (.ifnonnull 6, 3) := by decide +kernel
theorem dX10_move_13 : decode cX10_move 13 = .ok (.ldc 79, 2) := by decide +kernel
theorem dX10_move_15 : decode cX10_move 15 = .ok (.ireturn, 1) := by decide +kernel
theorem dX10_move_16 : decode cX10_move 16 = .ok (.aload_n 2, 1) := by decide +kernel
theorem dX10_move_17 : decode cX10_move 17 = .ok (.getfield 131, 3) := by decide +kernel
theorem dX10_move_20 : decode cX10_move 20 = .ok (.ifCond .ne 6, 3) := by decide +kernel
theorem dX10_move_23 : decode cX10_move 23 = .ok (.ldc 119, 2) := by decide +kernel
theorem dX10_move_25 : decode cX10_move 25 = .ok (.ireturn, 1) := by decide +kernel
theorem dX10_move_26 : decode cX10_move 26 = .ok (.aload_n 2, 1) := by decide +kernel
theorem dX10_move_27 : decode cX10_move 27 = .ok (.iconst 0, 1) := by decide +kernel
theorem dX10_move_28 : decode cX10_move 28 = .ok (.putfield 131, 3) := by decide +kernel
theorem dX10_move_31 : decode cX10_move 31 = .ok (.aload_n 0, 1) := by decide +kernel
theorem dX10_move_32 : decode cX10_move 32 = .ok (.getfield 41, 3) := by decide +kernel
theorem dX10_move_35 : decode cX10_move 35 = .ok (.iload_n 1, 1) := by decide +kernel
theorem dX10_move_36 : decode cX10_move 36 = .ok (.iconst (-1), 1) := by decide +kernel
theorem dX10_move_37 : decode cX10_move 37 = .ok (.iconst 0, 1) := by decide +kernel
theorem dX10_move_38 : decode cX10_move 38 = .ok (.invokevirtual 113, 3) := by decide +kernel
theorem dX10_move_41 : decode cX10_move 41 = .ok (.istore_n 3, 1) := by decide +kernel
theorem dX10_move_42 : decode cX10_move 42 = .ok (.aload_n 0, 1) := by decide +kernel
theorem dX10_move_43 : decode cX10_move 43 = .ok (.getfield 57, 3) := by decide +kernel
theorem dX10_move_46 : decode cX10_move 46 = .ok (.invokevirtual 120, 3) := by decide +kernel
theorem dX10_move_49 : decode cX10_move 49 = .ok (.pop, 1) := by decide +kernel
theorem dX10_move_50 : decode cX10_move 50 = .ok (.iload_n 3, 1) := by decide +kernel
theorem dX10_move_51 : decode cX10_move 51 = .ok (.ireturn, 1) := by decide +kernel
def ins_X10_move (pc : Nat) : HOp := cond (Nat.blt pc 27) (cond (Nat.blt pc 13) (cond (Nat.blt pc 5) (cond (Nat.blt pc 1) (cond (Nat.beq pc 0) (o_aload 0 1) o_bad) (cond (Nat.blt pc 4) (cond (Nat.beq pc 1) (o_getf 10 0 4) o_bad) (cond (Nat.beq pc 4) (o_iload 1 5) o_bad))) (cond (Nat.blt pc 9) (cond (Nat.blt pc 8) (cond (Nat.beq pc 5) (o_callV 2 2 sp_X2_prisonerAt 8) o_bad) (cond (Nat.beq pc 8) (o_astore 2 9) o_bad)) (cond (Nat.blt pc 10) (cond (Nat.beq pc 9) (o_aload 2 10) o_bad) (cond (Nat.beq pc 10) (o_ifnull 13 16) o_bad)))) (cond (Nat.blt pc 20) (cond (Nat.blt pc 16) (cond (Nat.blt pc 15) (cond (Nat.beq pc 13) (o_const (-1000000001) 15) o_bad) (cond (Nat.beq pc 15) (o_iret) o_bad)) (cond (Nat.blt pc 17) (cond (Nat.beq pc 16) (o_aload 2 17) o_bad) (cond (Nat.beq pc 17) (o_getf 3 2 20) o_bad))) (cond (Nat.blt pc 25) (cond (Nat.blt pc 23) (cond (Nat.beq pc 20) (o_if (fun x => x = 0) 23 26) o_bad) (cond (Nat.beq pc 23) (o_const (-1000000002) 25) o_bad)) (cond (Nat.blt pc 26) (cond (Nat.beq pc 25) (o_iret) o_bad) (cond (Nat.beq pc 26) (o_aload 2 27) o_bad))))) (cond (Nat.blt pc 38) (cond (Nat.blt pc 32) (cond (Nat.blt pc 28) (cond (Nat.beq pc 27) (o_const (0) 28) o_bad) (cond (Nat.blt pc 31) (cond (Nat.beq pc 28) (o_putz 3 2 31) o_bad) (cond (Nat.beq pc 31) (o_aload 0 32) o_bad))) (cond (Nat.blt pc 36) (cond (Nat.blt pc 35) (cond (Nat.beq pc 32) (o_getf 10 4 35) o_bad) (cond (Nat.beq pc 35) (o_iload 1 36) o_bad)) (cond (Nat.blt pc 37) (cond (Nat.beq pc 36) (o_const (-1) 37) o_bad) (cond (Nat.beq pc 37) (o_const (0) 38) o_bad)))) (cond (Nat.blt pc 46) (cond (Nat.blt pc 42) (cond (Nat.blt pc 41) (cond (Nat.beq pc 38) (o_callV 4 0 sp_X0_giveBackAll 41) o_bad) (cond (Nat.beq pc 41) (o_istore 3 42) o_bad)) (cond (Nat.blt pc 43) (cond (Nat.beq pc 42) (o_aload 0 43) o_bad) (cond (Nat.beq pc 43) (o_getf 10 6 46) o_bad))) (cond (Nat.blt pc 50) (cond (Nat.blt pc 49) (cond (Nat.beq pc 46) (o_callV 1 1 sp_X1_letWaiting 49) o_bad) (cond (Nat.beq pc 49) (o_pop 50) o_bad)) (cond (Nat.blt pc 51) (cond (Nat.beq pc 50) (o_iload 3 51) o_bad) (cond (Nat.beq pc 51) (o_iret) o_bad)))))
set_option maxRecDepth 20000 in
theorem ok_X10_move : HOKs cX10_move RX10 4 (some .int) 7 ins_X10_move := fun _ => hnd (hnd (hnd (hnd (hlf (ok_aload_n dX10_move_0 rfl rfl)) (hnd (hlf (ok_getf (C := RX10) (T := TX10) dX10_move_1 rfl rfl (by decide) rfl inX10 wd_285 rfl)) (hlf (ok_iload_n dX10_move_4 rfl rfl)))) (hnd (hnd (hlf (ok_callV (y := yX2_prisonerAt) (n' := 1) (C := RX2) (T := TX2) dX10_move_5 ct_X2_prisonerAt (by decide) (by decide) wd_386 wd_383 wd_384 wd_385 wd_42 rfl (by decide +kernel) rfl rfl rfl)) (hlf (ok_astore_n dX10_move_8 rfl (by decide) rfl))) (hnd (hlf (ok_aload_n dX10_move_9 rfl rfl)) (hlf (ok_ifnonnull dX10_move_10 (by decide) rfl))))) (hnd (hnd (hnd (hlf (ok_ldc dX10_move_13 wd_320 rfl)) (hlf (ok_iret dX10_move_15))) (hnd (hlf (ok_aload_n dX10_move_16 rfl rfl)) (hlf (ok_getfN (C := RX3) (T := TX3) dX10_move_17 rfl rfl (by decide) rfl inX3 wd_342 rfl)))) (hnd (hnd (hlf (ok_if_ne dX10_move_20 (by decide) rfl)) (hlf (ok_ldc dX10_move_23 wd_411 rfl))) (hnd (hlf (ok_iret dX10_move_25)) (hlf (ok_aload_n dX10_move_26 rfl rfl)))))) (hnd (hnd (hnd (hlf (ok_iconst dX10_move_27 (by decide) rfl)) (hnd (hlf (ok_putzN (C := RX3) (T := TX3) dX10_move_28 rfl rfl (by decide) rfl inX3 tyX3_ok nmX3 rfl rfl (fun _ _ => rfl) wd_342 rfl)) (hlf (ok_aload_n dX10_move_31 rfl rfl)))) (hnd (hnd (hlf (ok_getf (C := RX10) (T := TX10) dX10_move_32 rfl rfl (by decide) rfl inX10 wd_289 rfl)) (hlf (ok_iload_n dX10_move_35 rfl rfl))) (hnd (hlf (ok_iconst dX10_move_36 (by decide) rfl)) (hlf (ok_iconst dX10_move_37 (by decide) rfl))))) (hnd (hnd (hnd (hlf (ok_callV (y := yX0_giveBackAll) (n' := 3) (C := RX0) (T := TX0) dX10_move_38 ct_X0_giveBackAll (by decide) (by decide) wd_402 wd_399 wd_400 wd_401 wd_45 rfl (by decide +kernel) rfl rfl rfl)) (hlf (ok_istore_n dX10_move_41 rfl (by decide) rfl))) (hnd (hlf (ok_aload_n dX10_move_42 rfl rfl)) (hlf (ok_getf (C := RX10) (T := TX10) dX10_move_43 rfl rfl (by decide) rfl inX10 wd_291 rfl)))) (hnd (hnd (hlf (ok_callV (y := yX1_letWaiting) (n' := 0) (C := RX1) (T := TX1) dX10_move_46 ct_X1_letWaiting (by decide) (by decide) wd_415 wd_412 wd_413 wd_414 wd_47 rfl (by decide +kernel) rfl rfl rfl)) (hlf (ok_pop dX10_move_49 rfl))) (hnd (hlf (ok_iload_n dX10_move_50 rfl rfl)) (hlf (ok_iret dX10_move_51))))))

noncomputable def sp_X10_move : HSp := fun as w σ K => wp ins_X10_move (fun _ => none) K 80 0 (loc0 4 as) [] w σ
theorem vc_X10_move : MVC ins_X10_move 4 2 sp_X10_move := mvc0 80 fun _ _ _ _ _ h => h
theorem ct_X10_move : Ctr yX10_move cX10_move 4 (some .int) 7 0 0 2 sp_X10_move := ctr_of (by decide +kernel) rfl (by decide) ok_X10_move vc_X10_move

theorem dX10_told_0 : decode cX10_told 0 = .ok (.aload_n 0, 1) := by decide +kernel
theorem dX10_told_1 : decode cX10_told 1 = .ok (.getfield 10, 3) := by decide +kernel
theorem dX10_told_4 : decode cX10_told 4 = .ok (.iload_n 1, 1) := by decide +kernel
theorem dX10_told_5 : decode cX10_told 5 = .ok (.invokevirtual 95, 3) := by decide +kernel
theorem dX10_told_8 : decode cX10_told 8 = .ok (.astore_n 3, 1) := by decide +kernel
theorem dX10_told_9 : decode cX10_told 9 = .ok (.aload_n 3, 1) := by decide +kernel
theorem dX10_told_10 : decode cX10_told 10 = .ok (.ifnonnull 6, 3) := by decide +kernel
theorem dX10_told_13 : decode cX10_told 13 = .ok (.ldc 79, 2) := by decide +kernel
theorem dX10_told_15 : decode cX10_told 15 = .ok (.ireturn, 1) := by decide +kernel
theorem dX10_told_16 : decode cX10_told 16 = .ok (.iload_n 2, 1) := by decide +kernel
theorem dX10_told_17 : decode cX10_told 17 = .ok (.tableswitch 72 0 4 #[35, 40, 45, 58, 63], 35) := by decide +kernel
theorem dX10_told_52 : decode cX10_told 52 = .ok (.aload_n 3, 1) := by decide +kernel
theorem dX10_told_53 : decode cX10_told 53 = .ok (.getfield 135, 3) := by decide +kernel
theorem dX10_told_56 : decode cX10_told 56 = .ok (.ireturn, 1) := by decide +kernel
theorem dX10_told_57 : decode cX10_told 57 = .ok (.aload_n 3, 1) := by decide +kernel
theorem dX10_told_58 : decode cX10_told 58 = .ok (.getfield 138, 3) := by decide +kernel
theorem dX10_told_61 : decode cX10_told 61 = .ok (.ireturn, 1) := by decide +kernel
theorem dX10_told_62 : decode cX10_told 62 = .ok (.aload_n 3, 1) := by decide +kernel
theorem dX10_told_63 : decode cX10_told 63 = .ok (.getfield 131, 3) := by decide +kernel
theorem dX10_told_66 : decode cX10_told 66 = .ok (.ifCond .eq 7, 3) := by decide +kernel
theorem dX10_told_69 : decode cX10_told 69 = .ok (.iconst 1, 1) := by decide +kernel
theorem dX10_told_70 : decode cX10_told 70 = .ok (.goto 4, 3) := by decide +kernel
theorem dX10_told_73 : decode cX10_told 73 = .ok (.iconst 0, 1) := by decide +kernel
theorem dX10_told_74 : decode cX10_told 74 = .ok (.ireturn, 1) := by decide +kernel
theorem dX10_told_75 : decode cX10_told 75 = .ok (.aload_n 3, 1) := by decide +kernel
theorem dX10_told_76 : decode cX10_told 76 = .ok (.getfield 99, 3) := by decide +kernel
theorem dX10_told_79 : decode cX10_told 79 = .ok (.ireturn, 1) := by decide +kernel
theorem dX10_told_80 : decode cX10_told 80 = .ok (.aload_n 0, 1) := by decide +kernel
theorem dX10_told_81 : decode cX10_told 81 = .ok (.getfield 41, 3) := by decide +kernel
theorem dX10_told_84 : decode cX10_told 84 = .ok (.iload_n 1, 1) := by decide +kernel
theorem dX10_told_85 : decode cX10_told 85 = .ok (.invokevirtual 141, 3) := by decide +kernel
theorem dX10_told_88 : decode cX10_told 88 = .ok (.ireturn, 1) := by decide +kernel
theorem dX10_told_89 : decode cX10_told 89 = .ok (.ldc 79, 2) := by decide +kernel
theorem dX10_told_91 : decode cX10_told 91 = .ok (.ireturn, 1) := by decide +kernel
def ins_X10_told (pc : Nat) : HOp := cond (Nat.blt pc 62) (cond (Nat.blt pc 15) (cond (Nat.blt pc 8) (cond (Nat.blt pc 4) (cond (Nat.blt pc 1) (cond (Nat.beq pc 0) (o_aload 0 1) o_bad) (cond (Nat.beq pc 1) (o_getf 10 0 4) o_bad)) (cond (Nat.blt pc 5) (cond (Nat.beq pc 4) (o_iload 1 5) o_bad) (cond (Nat.beq pc 5) (o_callV 2 2 sp_X2_prisonerAt 8) o_bad))) (cond (Nat.blt pc 10) (cond (Nat.blt pc 9) (cond (Nat.beq pc 8) (o_astore 3 9) o_bad) (cond (Nat.beq pc 9) (o_aload 3 10) o_bad)) (cond (Nat.blt pc 13) (cond (Nat.beq pc 10) (o_ifnull 13 16) o_bad) (cond (Nat.beq pc 13) (o_const (-1000000001) 15) o_bad)))) (cond (Nat.blt pc 53) (cond (Nat.blt pc 17) (cond (Nat.blt pc 16) (cond (Nat.beq pc 15) (o_iret) o_bad) (cond (Nat.beq pc 16) (o_iload 2 17) o_bad)) (cond (Nat.blt pc 52) (cond (Nat.beq pc 17) (o_sw [(0, 52), (1, 57), (2, 62), (3, 75), (4, 80)] 89) o_bad) (cond (Nat.beq pc 52) (o_aload 3 53) o_bad))) (cond (Nat.blt pc 57) (cond (Nat.blt pc 56) (cond (Nat.beq pc 53) (o_getf 3 0 56) o_bad) (cond (Nat.beq pc 56) (o_iret) o_bad)) (cond (Nat.blt pc 58) (cond (Nat.beq pc 57) (o_aload 3 58) o_bad) (cond (Nat.blt pc 61) (cond (Nat.beq pc 58) (o_getf 3 1 61) o_bad) (cond (Nat.beq pc 61) (o_iret) o_bad)))))) (cond (Nat.blt pc 76) (cond (Nat.blt pc 70) (cond (Nat.blt pc 66) (cond (Nat.blt pc 63) (cond (Nat.beq pc 62) (o_aload 3 63) o_bad) (cond (Nat.beq pc 63) (o_getf 3 2 66) o_bad)) (cond (Nat.blt pc 69) (cond (Nat.beq pc 66) (o_if (fun x => x = 0) 73 69) o_bad) (cond (Nat.beq pc 69) (o_const (1) 70) o_bad))) (cond (Nat.blt pc 74) (cond (Nat.blt pc 73) (cond (Nat.beq pc 70) (o_goto 74) o_bad) (cond (Nat.beq pc 73) (o_const (0) 74) o_bad)) (cond (Nat.blt pc 75) (cond (Nat.beq pc 74) (o_iret) o_bad) (cond (Nat.beq pc 75) (o_aload 3 76) o_bad)))) (cond (Nat.blt pc 84) (cond (Nat.blt pc 80) (cond (Nat.blt pc 79) (cond (Nat.beq pc 76) (o_getf 3 3 79) o_bad) (cond (Nat.beq pc 79) (o_iret) o_bad)) (cond (Nat.blt pc 81) (cond (Nat.beq pc 80) (o_aload 0 81) o_bad) (cond (Nat.beq pc 81) (o_getf 10 4 84) o_bad))) (cond (Nat.blt pc 88) (cond (Nat.blt pc 85) (cond (Nat.beq pc 84) (o_iload 1 85) o_bad) (cond (Nat.beq pc 85) (o_callV 2 0 sp_X0_letAhead 88) o_bad)) (cond (Nat.blt pc 89) (cond (Nat.beq pc 88) (o_iret) o_bad) (cond (Nat.blt pc 91) (cond (Nat.beq pc 89) (o_const (-1000000001) 91) o_bad) (cond (Nat.beq pc 91) (o_iret) o_bad))))))
set_option maxRecDepth 20000 in
theorem ok_X10_told : HOKs cX10_told RX10 4 (some .int) 3 ins_X10_told := fun _ => hnd (hnd (hnd (hnd (hnd (hlf (ok_aload_n dX10_told_0 rfl rfl)) (hlf (ok_getf (C := RX10) (T := TX10) dX10_told_1 rfl rfl (by decide) rfl inX10 wd_285 rfl))) (hnd (hlf (ok_iload_n dX10_told_4 rfl rfl)) (hlf (ok_callV (y := yX2_prisonerAt) (n' := 1) (C := RX2) (T := TX2) dX10_told_5 ct_X2_prisonerAt (by decide) (by decide) wd_386 wd_383 wd_384 wd_385 wd_42 rfl (by decide +kernel) rfl rfl rfl)))) (hnd (hnd (hlf (ok_astore_n dX10_told_8 rfl (by decide) rfl)) (hlf (ok_aload_n dX10_told_9 rfl rfl))) (hnd (hlf (ok_ifnonnull dX10_told_10 (by decide) rfl)) (hlf (ok_ldc dX10_told_13 wd_320 rfl))))) (hnd (hnd (hnd (hlf (ok_iret dX10_told_15)) (hlf (ok_iload_n dX10_told_16 rfl rfl))) (hnd (hlf (ok_tsw dX10_told_17 (by decide) (by decide) (by decide))) (hlf (ok_aload_n dX10_told_52 rfl rfl)))) (hnd (hnd (hlf (ok_getfN (C := RX3) (T := TX3) dX10_told_53 rfl rfl (by decide) rfl inX3 wd_336 rfl)) (hlf (ok_iret dX10_told_56))) (hnd (hlf (ok_aload_n dX10_told_57 rfl rfl)) (hnd (hlf (ok_getfN (C := RX3) (T := TX3) dX10_told_58 rfl rfl (by decide) rfl inX3 wd_338 rfl)) (hlf (ok_iret dX10_told_61))))))) (hnd (hnd (hnd (hnd (hlf (ok_aload_n dX10_told_62 rfl rfl)) (hlf (ok_getfN (C := RX3) (T := TX3) dX10_told_63 rfl rfl (by decide) rfl inX3 wd_342 rfl))) (hnd (hlf (ok_if_eq dX10_told_66 (by decide) rfl)) (hlf (ok_iconst dX10_told_69 (by decide) rfl)))) (hnd (hnd (hlf (ok_goto dX10_told_70 (by decide))) (hlf (ok_iconst dX10_told_73 (by decide) rfl))) (hnd (hlf (ok_iret dX10_told_74)) (hlf (ok_aload_n dX10_told_75 rfl rfl))))) (hnd (hnd (hnd (hlf (ok_getfN (C := RX3) (T := TX3) dX10_told_76 rfl rfl (by decide) rfl inX3 wd_344 rfl)) (hlf (ok_iret dX10_told_79))) (hnd (hlf (ok_aload_n dX10_told_80 rfl rfl)) (hlf (ok_getf (C := RX10) (T := TX10) dX10_told_81 rfl rfl (by decide) rfl inX10 wd_289 rfl)))) (hnd (hnd (hlf (ok_iload_n dX10_told_84 rfl rfl)) (hlf (ok_callV (y := yX0_letAhead) (n' := 1) (C := RX0) (T := TX0) dX10_told_85 ct_X0_letAhead (by decide) (by decide) wd_550 wd_547 wd_548 wd_549 wd_45 rfl (by decide +kernel) rfl rfl rfl))) (hnd (hlf (ok_iret dX10_told_88)) (hnd (hlf (ok_ldc dX10_told_89 wd_320 rfl)) (hlf (ok_iret dX10_told_91)))))))

noncomputable def sp_X10_told : HSp := fun as w σ K => wp ins_X10_told (fun _ => none) K 80 0 (loc0 4 as) [] w σ
theorem vc_X10_told : MVC ins_X10_told 4 3 sp_X10_told := mvc0 80 fun _ _ _ _ _ h => h
theorem ct_X10_told : Ctr yX10_told cX10_told 4 (some .int) 3 0 0 3 sp_X10_told := ctr_of (by decide +kernel) rfl (by decide) ok_X10_told vc_X10_told

theorem dX10_feed_0 : decode cX10_feed 0 = .ok (.aload_n 0, 1) := by decide +kernel
theorem dX10_feed_1 : decode cX10_feed 1 = .ok (.getfield 19, 3) := by decide +kernel
theorem dX10_feed_4 : decode cX10_feed 4 = .ok (.invokevirtual 144, 3) := by decide +kernel
theorem dX10_feed_7 : decode cX10_feed 7 = .ok (.ifCond .ne 6, 3) := by decide +kernel
theorem dX10_feed_10 : decode cX10_feed 10 = .ok (.ldc 148, 2) := by decide +kernel
theorem dX10_feed_12 : decode cX10_feed 12 = .ok (.ireturn, 1) := by decide +kernel
theorem dX10_feed_13 : decode cX10_feed 13 = .ok (.aload_n 0, 1) := by decide +kernel
theorem dX10_feed_14 : decode cX10_feed 14 = .ok (.getfield 19, 3) := by decide +kernel
theorem dX10_feed_17 : decode cX10_feed 17 = .ok (.iload_n 1, 1) := by decide +kernel
theorem dX10_feed_18 : decode cX10_feed 18 = .ok (.invokevirtual 149, 3) := by decide +kernel
theorem dX10_feed_21 : decode cX10_feed 21 = .ok (.aload_n 0, 1) := by decide +kernel
theorem dX10_feed_22 : decode cX10_feed 22 = .ok (.getfield 19, 3) := by decide +kernel
theorem dX10_feed_25 : decode cX10_feed 25 = .ok (.iload_n 2, 1) := by decide +kernel
theorem dX10_feed_26 : decode cX10_feed 26 = .ok (.invokevirtual 149, 3) := by decide +kernel
theorem dX10_feed_29 : decode cX10_feed 29 = .ok (.aload_n 0, 1) := by decide +kernel
theorem dX10_feed_30 : decode cX10_feed 30 = .ok (.getfield 19, 3) := by decide +kernel
theorem dX10_feed_33 : decode cX10_feed 33 = .ok (.iload_n 3, 1) := by decide +kernel
theorem dX10_feed_34 : decode cX10_feed 34 = .ok (.invokevirtual 149, 3) := by decide +kernel
theorem dX10_feed_37 : decode cX10_feed 37 = .ok (.aload_n 0, 1) := by decide +kernel
theorem dX10_feed_38 : decode cX10_feed 38 = .ok (.getfield 19, 3) := by decide +kernel
theorem dX10_feed_41 : decode cX10_feed 41 = .ok (.getfield 153, 3) := by decide +kernel
theorem dX10_feed_44 : decode cX10_feed 44 = .ok (.ireturn, 1) := by decide +kernel
def ins_X10_feed (pc : Nat) : HOp := cond (Nat.blt pc 22) (cond (Nat.blt pc 12) (cond (Nat.blt pc 4) (cond (Nat.blt pc 1) (cond (Nat.beq pc 0) (o_aload 0 1) o_bad) (cond (Nat.beq pc 1) (o_getf 10 1 4) o_bad)) (cond (Nat.blt pc 7) (cond (Nat.beq pc 4) (o_callV 1 8 sp_X8_hasRoom 7) o_bad) (cond (Nat.blt pc 10) (cond (Nat.beq pc 7) (o_if (fun x => x = 0) 10 13) o_bad) (cond (Nat.beq pc 10) (o_const (-1000000003) 12) o_bad)))) (cond (Nat.blt pc 17) (cond (Nat.blt pc 13) (cond (Nat.beq pc 12) (o_iret) o_bad) (cond (Nat.blt pc 14) (cond (Nat.beq pc 13) (o_aload 0 14) o_bad) (cond (Nat.beq pc 14) (o_getf 10 1 17) o_bad))) (cond (Nat.blt pc 18) (cond (Nat.beq pc 17) (o_iload 1 18) o_bad) (cond (Nat.blt pc 21) (cond (Nat.beq pc 18) (o_callV 2 8 sp_X8_add 21) o_bad) (cond (Nat.beq pc 21) (o_aload 0 22) o_bad))))) (cond (Nat.blt pc 33) (cond (Nat.blt pc 26) (cond (Nat.blt pc 25) (cond (Nat.beq pc 22) (o_getf 10 1 25) o_bad) (cond (Nat.beq pc 25) (o_iload 2 26) o_bad)) (cond (Nat.blt pc 29) (cond (Nat.beq pc 26) (o_callV 2 8 sp_X8_add 29) o_bad) (cond (Nat.blt pc 30) (cond (Nat.beq pc 29) (o_aload 0 30) o_bad) (cond (Nat.beq pc 30) (o_getf 10 1 33) o_bad)))) (cond (Nat.blt pc 38) (cond (Nat.blt pc 34) (cond (Nat.beq pc 33) (o_iload 3 34) o_bad) (cond (Nat.blt pc 37) (cond (Nat.beq pc 34) (o_callV 2 8 sp_X8_add 37) o_bad) (cond (Nat.beq pc 37) (o_aload 0 38) o_bad))) (cond (Nat.blt pc 41) (cond (Nat.beq pc 38) (o_getf 10 1 41) o_bad) (cond (Nat.blt pc 44) (cond (Nat.beq pc 41) (o_getf 8 1 44) o_bad) (cond (Nat.beq pc 44) (o_iret) o_bad)))))
set_option maxRecDepth 20000 in
theorem ok_X10_feed : HOKs cX10_feed RX10 4 (some .int) 2 ins_X10_feed := fun _ => hnd (hnd (hnd (hnd (hlf (ok_aload_n dX10_feed_0 rfl rfl)) (hlf (ok_getf (C := RX10) (T := TX10) dX10_feed_1 rfl rfl (by decide) rfl inX10 wd_286 rfl))) (hnd (hlf (ok_callV (y := yX8_hasRoom) (n' := 0) (C := RX8) (T := TX8) dX10_feed_4 ct_X8_hasRoom (by decide) (by decide) wd_558 wd_555 wd_556 wd_557 wd_43 rfl (by decide +kernel) rfl rfl rfl)) (hnd (hlf (ok_if_ne dX10_feed_7 (by decide) rfl)) (hlf (ok_ldc dX10_feed_10 wd_559 rfl))))) (hnd (hnd (hlf (ok_iret dX10_feed_12)) (hnd (hlf (ok_aload_n dX10_feed_13 rfl rfl)) (hlf (ok_getf (C := RX10) (T := TX10) dX10_feed_14 rfl rfl (by decide) rfl inX10 wd_286 rfl)))) (hnd (hlf (ok_iload_n dX10_feed_17 rfl rfl)) (hnd (hlf (ok_callV (y := yX8_add) (n' := 1) (C := RX8) (T := TX8) dX10_feed_18 ct_X8_add (by decide) (by decide) wd_563 wd_560 wd_561 wd_562 wd_43 rfl (by decide +kernel) rfl rfl rfl)) (hlf (ok_aload_n dX10_feed_21 rfl rfl)))))) (hnd (hnd (hnd (hlf (ok_getf (C := RX10) (T := TX10) dX10_feed_22 rfl rfl (by decide) rfl inX10 wd_286 rfl)) (hlf (ok_iload_n dX10_feed_25 rfl rfl))) (hnd (hlf (ok_callV (y := yX8_add) (n' := 1) (C := RX8) (T := TX8) dX10_feed_26 ct_X8_add (by decide) (by decide) wd_563 wd_560 wd_561 wd_562 wd_43 rfl (by decide +kernel) rfl rfl rfl)) (hnd (hlf (ok_aload_n dX10_feed_29 rfl rfl)) (hlf (ok_getf (C := RX10) (T := TX10) dX10_feed_30 rfl rfl (by decide) rfl inX10 wd_286 rfl))))) (hnd (hnd (hlf (ok_iload_n dX10_feed_33 rfl rfl)) (hnd (hlf (ok_callV (y := yX8_add) (n' := 1) (C := RX8) (T := TX8) dX10_feed_34 ct_X8_add (by decide) (by decide) wd_563 wd_560 wd_561 wd_562 wd_43 rfl (by decide +kernel) rfl rfl rfl)) (hlf (ok_aload_n dX10_feed_37 rfl rfl)))) (hnd (hlf (ok_getf (C := RX10) (T := TX10) dX10_feed_38 rfl rfl (by decide) rfl inX10 wd_286 rfl)) (hnd (hlf (ok_getfN (C := RX8) (T := TX8) dX10_feed_41 rfl rfl (by decide) rfl inX8 wd_108 rfl)) (hlf (ok_iret dX10_feed_44))))))

noncomputable def sp_X10_feed : HSp := fun as w σ K => wp ins_X10_feed (fun _ => none) K 80 0 (loc0 4 as) [] w σ
theorem vc_X10_feed : MVC ins_X10_feed 4 4 sp_X10_feed := mvc0 80 fun _ _ _ _ _ h => h
theorem ct_X10_feed : Ctr yX10_feed cX10_feed 4 (some .int) 2 0 0 4 sp_X10_feed := ctr_of (by decide +kernel) rfl (by decide) ok_X10_feed vc_X10_feed

theorem dX10_trim_0 : decode cX10_trim 0 = .ok (.iload_n 1, 1) := by decide +kernel
theorem dX10_trim_1 : decode cX10_trim 1 = .ok (.ifCond .lt 14, 3) := by decide +kernel
theorem dX10_trim_4 : decode cX10_trim 4 = .ok (.iload_n 1, 1) := by decide +kernel
theorem dX10_trim_5 : decode cX10_trim 5 = .ok (.aload_n 0, 1) := by decide +kernel
theorem dX10_trim_6 : decode cX10_trim 6 = .ok (.getfield 19, 3) := by decide +kernel
theorem dX10_trim_9 : decode cX10_trim 9 = .ok (.getfield 153, 3) := by decide +kernel
theorem dX10_trim_12 : decode cX10_trim 12 = .ok (.if_icmp .le 6, 3) := by decide +kernel
theorem dX10_trim_15 : decode cX10_trim 15 = .ok (.ldc 79, 2) := by decide +kernel
theorem dX10_trim_17 : decode cX10_trim 17 = .ok (.ireturn, 1) := by decide +kernel
theorem dX10_trim_18 : decode cX10_trim 18 = .ok (.aload_n 0, 1) := by decide +kernel
theorem dX10_trim_19 : decode cX10_trim 19 = .ok (.getfield 19, 3) := by decide +kernel
theorem dX10_trim_22 : decode cX10_trim 22 = .ok (.iload_n 1, 1) := by decide +kernel
theorem dX10_trim_23 : decode cX10_trim 23 = .ok (.putfield 153, 3) := by decide +kernel
theorem dX10_trim_26 : decode cX10_trim 26 = .ok (.iload_n 1, 1) := by decide +kernel
theorem dX10_trim_27 : decode cX10_trim 27 = .ok (.ireturn, 1) := by decide +kernel
def ins_X10_trim (pc : Nat) : HOp := cond (Nat.blt pc 15) (cond (Nat.blt pc 5) (cond (Nat.blt pc 1) (cond (Nat.beq pc 0) (o_iload 1 1) o_bad) (cond (Nat.blt pc 4) (cond (Nat.beq pc 1) (o_if (fun x => x < 0) 15 4) o_bad) (cond (Nat.beq pc 4) (o_iload 1 5) o_bad))) (cond (Nat.blt pc 9) (cond (Nat.blt pc 6) (cond (Nat.beq pc 5) (o_aload 0 6) o_bad) (cond (Nat.beq pc 6) (o_getf 10 1 9) o_bad)) (cond (Nat.blt pc 12) (cond (Nat.beq pc 9) (o_getf 8 1 12) o_bad) (cond (Nat.beq pc 12) (o_icmp (fun x y => x ≤ y) 18 15) o_bad)))) (cond (Nat.blt pc 22) (cond (Nat.blt pc 18) (cond (Nat.blt pc 17) (cond (Nat.beq pc 15) (o_const (-1000000001) 17) o_bad) (cond (Nat.beq pc 17) (o_iret) o_bad)) (cond (Nat.blt pc 19) (cond (Nat.beq pc 18) (o_aload 0 19) o_bad) (cond (Nat.beq pc 19) (o_getf 10 1 22) o_bad))) (cond (Nat.blt pc 26) (cond (Nat.blt pc 23) (cond (Nat.beq pc 22) (o_iload 1 23) o_bad) (cond (Nat.beq pc 23) (o_putf 8 1 26) o_bad)) (cond (Nat.blt pc 27) (cond (Nat.beq pc 26) (o_iload 1 27) o_bad) (cond (Nat.beq pc 27) (o_iret) o_bad))))
set_option maxRecDepth 20000 in
theorem ok_X10_trim : HOKs cX10_trim RX10 2 (some .int) 1 ins_X10_trim := fun _ => hnd (hnd (hnd (hlf (ok_iload_n dX10_trim_0 rfl rfl)) (hnd (hlf (ok_if_lt dX10_trim_1 (by decide) rfl)) (hlf (ok_iload_n dX10_trim_4 rfl rfl)))) (hnd (hnd (hlf (ok_aload_n dX10_trim_5 rfl rfl)) (hlf (ok_getf (C := RX10) (T := TX10) dX10_trim_6 rfl rfl (by decide) rfl inX10 wd_286 rfl))) (hnd (hlf (ok_getfN (C := RX8) (T := TX8) dX10_trim_9 rfl rfl (by decide) rfl inX8 wd_108 rfl)) (hlf (ok_icmp_le dX10_trim_12 (by decide) rfl))))) (hnd (hnd (hnd (hlf (ok_ldc dX10_trim_15 wd_320 rfl)) (hlf (ok_iret dX10_trim_17))) (hnd (hlf (ok_aload_n dX10_trim_18 rfl rfl)) (hlf (ok_getf (C := RX10) (T := TX10) dX10_trim_19 rfl rfl (by decide) rfl inX10 wd_286 rfl)))) (hnd (hnd (hlf (ok_iload_n dX10_trim_22 rfl rfl)) (hlf (ok_putfN (C := RX8) (T := TX8) dX10_trim_23 rfl rfl (by decide) rfl inX8 tyX8_ok nmX8 rfl rfl (fun _ _ => rfl) wd_108 rfl))) (hnd (hlf (ok_iload_n dX10_trim_26 rfl rfl)) (hlf (ok_iret dX10_trim_27)))))

noncomputable def sp_X10_trim : HSp := fun as w σ K => wp ins_X10_trim (fun _ => none) K 80 0 (loc0 2 as) [] w σ
theorem vc_X10_trim : MVC ins_X10_trim 2 2 sp_X10_trim := mvc0 80 fun _ _ _ _ _ h => h
theorem ct_X10_trim : Ctr yX10_trim cX10_trim 2 (some .int) 1 0 0 2 sp_X10_trim := ctr_of (by decide +kernel) rfl (by decide) ok_X10_trim vc_X10_trim

theorem dX10_of_0 : decode cX10_of 0 = .ok (.iload_n 1, 1) := by decide +kernel
theorem dX10_of_1 : decode cX10_of 1 = .ok (.iconst 4, 1) := by decide +kernel
theorem dX10_of_2 : decode cX10_of 2 = .ok (.invokestatic 75, 3) := by decide +kernel
theorem dX10_of_5 : decode cX10_of 5 = .ok (.ifCond .eq 12, 3) := by decide +kernel
theorem dX10_of_8 : decode cX10_of 8 = .ok (.iload_n 2, 1) := by decide +kernel
theorem dX10_of_9 : decode cX10_of 9 = .ok (.bipush 6, 2) := by decide +kernel
theorem dX10_of_11 : decode cX10_of 11 = .ok (.invokestatic 75, 3) := by decide +kernel
theorem dX10_of_14 : decode cX10_of 14 = .ok (.ifCond .ne 6, 3) := by decide +kernel
theorem dX10_of_17 : decode cX10_of 17 = .ok (.ldc 79, 2) := by decide +kernel
theorem dX10_of_19 : decode cX10_of 19 = .ok (.ireturn, 1) := by decide +kernel
theorem dX10_of_20 : decode cX10_of 20 = .ok (.aload_n 0, 1) := by decide +kernel
theorem dX10_of_21 : decode cX10_of 21 = .ok (.getfield 34, 3) := by decide +kernel
theorem dX10_of_24 : decode cX10_of 24 = .ok (.iload_n 1, 1) := by decide +kernel
theorem dX10_of_25 : decode cX10_of 25 = .ok (.aaload, 1) := by decide +kernel
theorem dX10_of_26 : decode cX10_of 26 = .ok (.astore_n 3, 1) := by decide +kernel
theorem dX10_of_27 : decode cX10_of 27 = .ok (.aload_n 3, 1) := by decide +kernel
theorem dX10_of_28 : decode cX10_of 28 = .ok (.ifnonnull 6, 3) := by decide +kernel
theorem dX10_of_31 : decode cX10_of 31 = .ok (.ldc 119, 2) := by decide +kernel
theorem dX10_of_33 : decode cX10_of 33 = .ok (.ireturn, 1) := by decide +kernel
theorem dX10_of_34 : decode cX10_of 34 = .ok (.iload_n 2, 1) := by decide +kernel
theorem dX10_of_35 : decode cX10_of 35 = .ok (.tableswitch 58 0 4 #[33, 38, 43, 48, 53], 33) := by decide +kernel
theorem dX10_of_68 : decode cX10_of 68 = .ok (.aload_n 3, 1) := by decide +kernel
theorem dX10_of_69 : decode cX10_of 69 = .ok (.getfield 166, 3) := by decide +kernel
theorem dX10_of_72 : decode cX10_of 72 = .ok (.ireturn, 1) := by decide +kernel
theorem dX10_of_73 : decode cX10_of 73 = .ok (.aload_n 3, 1) := by decide +kernel
theorem dX10_of_74 : decode cX10_of 74 = .ok (.getfield 169, 3) := by decide +kernel
theorem dX10_of_77 : decode cX10_of 77 = .ok (.ireturn, 1) := by decide +kernel
theorem dX10_of_78 : decode cX10_of 78 = .ok (.aload_n 3, 1) := by decide +kernel
theorem dX10_of_79 : decode cX10_of 79 = .ok (.getfield 172, 3) := by decide +kernel
theorem dX10_of_82 : decode cX10_of 82 = .ok (.ireturn, 1) := by decide +kernel
theorem dX10_of_83 : decode cX10_of 83 = .ok (.aload_n 3, 1) := by decide +kernel
theorem dX10_of_84 : decode cX10_of 84 = .ok (.getfield 175, 3) := by decide +kernel
theorem dX10_of_87 : decode cX10_of 87 = .ok (.ireturn, 1) := by decide +kernel
theorem dX10_of_88 : decode cX10_of 88 = .ok (.aload_n 3, 1) := by decide +kernel
theorem dX10_of_89 : decode cX10_of 89 = .ok (.getfield 178, 3) := by decide +kernel
theorem dX10_of_92 : decode cX10_of 92 = .ok (.ireturn, 1) := by decide +kernel
theorem dX10_of_93 : decode cX10_of 93 = .ok (.aload_n 3, 1) := by decide +kernel
theorem dX10_of_94 : decode cX10_of 94 = .ok (.getfield 181, 3) := by decide +kernel
theorem dX10_of_97 : decode cX10_of 97 = .ok (.ireturn, 1) := by decide +kernel
def ins_X10_of (pc : Nat) : HOp := cond (Nat.blt pc 34) (cond (Nat.blt pc 19) (cond (Nat.blt pc 8) (cond (Nat.blt pc 2) (cond (Nat.blt pc 1) (cond (Nat.beq pc 0) (o_iload 1 1) o_bad) (cond (Nat.beq pc 1) (o_const (4) 2) o_bad)) (cond (Nat.blt pc 5) (cond (Nat.beq pc 2) (o_callS 2 sp_X10_isBelow 5) o_bad) (cond (Nat.beq pc 5) (o_if (fun x => x = 0) 17 8) o_bad))) (cond (Nat.blt pc 11) (cond (Nat.blt pc 9) (cond (Nat.beq pc 8) (o_iload 2 9) o_bad) (cond (Nat.beq pc 9) (o_const (6) 11) o_bad)) (cond (Nat.blt pc 14) (cond (Nat.beq pc 11) (o_callS 2 sp_X10_isBelow 14) o_bad) (cond (Nat.blt pc 17) (cond (Nat.beq pc 14) (o_if (fun x => x = 0) 17 20) o_bad) (cond (Nat.beq pc 17) (o_const (-1000000001) 19) o_bad))))) (cond (Nat.blt pc 26) (cond (Nat.blt pc 21) (cond (Nat.blt pc 20) (cond (Nat.beq pc 19) (o_iret) o_bad) (cond (Nat.beq pc 20) (o_aload 0 21) o_bad)) (cond (Nat.blt pc 24) (cond (Nat.beq pc 21) (o_getf 10 3 24) o_bad) (cond (Nat.blt pc 25) (cond (Nat.beq pc 24) (o_iload 1 25) o_bad) (cond (Nat.beq pc 25) (o_aald 26) o_bad)))) (cond (Nat.blt pc 28) (cond (Nat.blt pc 27) (cond (Nat.beq pc 26) (o_astore 3 27) o_bad) (cond (Nat.beq pc 27) (o_aload 3 28) o_bad)) (cond (Nat.blt pc 31) (cond (Nat.beq pc 28) (o_ifnull 31 34) o_bad) (cond (Nat.blt pc 33) (cond (Nat.beq pc 31) (o_const (-1000000002) 33) o_bad) (cond (Nat.beq pc 33) (o_iret) o_bad)))))) (cond (Nat.blt pc 82) (cond (Nat.blt pc 73) (cond (Nat.blt pc 68) (cond (Nat.blt pc 35) (cond (Nat.beq pc 34) (o_iload 2 35) o_bad) (cond (Nat.beq pc 35) (o_sw [(0, 68), (1, 73), (2, 78), (3, 83), (4, 88)] 93) o_bad)) (cond (Nat.blt pc 69) (cond (Nat.beq pc 68) (o_aload 3 69) o_bad) (cond (Nat.blt pc 72) (cond (Nat.beq pc 69) (o_getf 4 0 72) o_bad) (cond (Nat.beq pc 72) (o_iret) o_bad)))) (cond (Nat.blt pc 77) (cond (Nat.blt pc 74) (cond (Nat.beq pc 73) (o_aload 3 74) o_bad) (cond (Nat.beq pc 74) (o_getf 4 1 77) o_bad)) (cond (Nat.blt pc 78) (cond (Nat.beq pc 77) (o_iret) o_bad) (cond (Nat.blt pc 79) (cond (Nat.beq pc 78) (o_aload 3 79) o_bad) (cond (Nat.beq pc 79) (o_getf 4 2 82) o_bad))))) (cond (Nat.blt pc 89) (cond (Nat.blt pc 84) (cond (Nat.blt pc 83) (cond (Nat.beq pc 82) (o_iret) o_bad) (cond (Nat.beq pc 83) (o_aload 3 84) o_bad)) (cond (Nat.blt pc 87) (cond (Nat.beq pc 84) (o_getf 4 3 87) o_bad) (cond (Nat.blt pc 88) (cond (Nat.beq pc 87) (o_iret) o_bad) (cond (Nat.beq pc 88) (o_aload 3 89) o_bad)))) (cond (Nat.blt pc 93) (cond (Nat.blt pc 92) (cond (Nat.beq pc 89) (o_getf 4 4 92) o_bad) (cond (Nat.beq pc 92) (o_iret) o_bad)) (cond (Nat.blt pc 94) (cond (Nat.beq pc 93) (o_aload 3 94) o_bad) (cond (Nat.blt pc 97) (cond (Nat.beq pc 94) (o_getf 4 5 97) o_bad) (cond (Nat.beq pc 97) (o_iret) o_bad))))))
set_option maxRecDepth 20000 in
theorem ok_X10_of : HOKs cX10_of RX10 4 (some .int) 2 ins_X10_of := fun _ => hnd (hnd (hnd (hnd (hnd (hlf (ok_iload_n dX10_of_0 rfl rfl)) (hlf (ok_iconst dX10_of_1 (by decide) rfl))) (hnd (hlf (ok_callS (y := yX10_isBelow) dX10_of_2 ct_X10_isBelow (by decide) (by decide) wd_319 wd_317 wd_318 wd_41 (by decide +kernel) rfl)) (hlf (ok_if_eq dX10_of_5 (by decide) rfl)))) (hnd (hnd (hlf (ok_iload_n dX10_of_8 rfl rfl)) (hlf (ok_bipush dX10_of_9 (by decide) rfl))) (hnd (hlf (ok_callS (y := yX10_isBelow) dX10_of_11 ct_X10_isBelow (by decide) (by decide) wd_319 wd_317 wd_318 wd_41 (by decide +kernel) rfl)) (hnd (hlf (ok_if_ne dX10_of_14 (by decide) rfl)) (hlf (ok_ldc dX10_of_17 wd_320 rfl)))))) (hnd (hnd (hnd (hlf (ok_iret dX10_of_19)) (hlf (ok_aload_n dX10_of_20 rfl rfl))) (hnd (hlf (ok_getf (C := RX10) (T := TX10) dX10_of_21 rfl rfl (by decide) rfl inX10 wd_288 rfl)) (hnd (hlf (ok_iload_n dX10_of_24 rfl rfl)) (hlf (ok_aald dX10_of_25 rfl))))) (hnd (hnd (hlf (ok_astore_n dX10_of_26 rfl (by decide) rfl)) (hlf (ok_aload_n dX10_of_27 rfl rfl))) (hnd (hlf (ok_ifnonnull dX10_of_28 (by decide) rfl)) (hnd (hlf (ok_ldc dX10_of_31 wd_411 rfl)) (hlf (ok_iret dX10_of_33))))))) (hnd (hnd (hnd (hnd (hlf (ok_iload_n dX10_of_34 rfl rfl)) (hlf (ok_tsw dX10_of_35 (by decide) (by decide) (by decide)))) (hnd (hlf (ok_aload_n dX10_of_68 rfl rfl)) (hnd (hlf (ok_getfN (C := RX4) (T := TX4) dX10_of_69 rfl rfl (by decide) rfl inX4 wd_585 rfl)) (hlf (ok_iret dX10_of_72))))) (hnd (hnd (hlf (ok_aload_n dX10_of_73 rfl rfl)) (hlf (ok_getfN (C := RX4) (T := TX4) dX10_of_74 rfl rfl (by decide) rfl inX4 wd_588 rfl))) (hnd (hlf (ok_iret dX10_of_77)) (hnd (hlf (ok_aload_n dX10_of_78 rfl rfl)) (hlf (ok_getfN (C := RX4) (T := TX4) dX10_of_79 rfl rfl (by decide) rfl inX4 wd_592 rfl)))))) (hnd (hnd (hnd (hlf (ok_iret dX10_of_82)) (hlf (ok_aload_n dX10_of_83 rfl rfl))) (hnd (hlf (ok_getfN (C := RX4) (T := TX4) dX10_of_84 rfl rfl (by decide) rfl inX4 wd_595 rfl)) (hnd (hlf (ok_iret dX10_of_87)) (hlf (ok_aload_n dX10_of_88 rfl rfl))))) (hnd (hnd (hlf (ok_getfN (C := RX4) (T := TX4) dX10_of_89 rfl rfl (by decide) rfl inX4 wd_598 rfl)) (hlf (ok_iret dX10_of_92))) (hnd (hlf (ok_aload_n dX10_of_93 rfl rfl)) (hnd (hlf (ok_getfN (C := RX4) (T := TX4) dX10_of_94 rfl rfl (by decide) rfl inX4 wd_601 rfl)) (hlf (ok_iret dX10_of_97)))))))

noncomputable def sp_X10_of : HSp := fun as w σ K => wp ins_X10_of (fun _ => none) K 80 0 (loc0 4 as) [] w σ
theorem vc_X10_of : MVC ins_X10_of 4 3 sp_X10_of := mvc0 80 fun _ _ _ _ _ h => h
theorem ct_X10_of : Ctr yX10_of cX10_of 4 (some .int) 2 0 0 3 sp_X10_of := ctr_of (by decide +kernel) rfl (by decide) ok_X10_of vc_X10_of

theorem dX10_why_0 : decode cX10_why 0 = .ok (.aload_n 0, 1) := by decide +kernel
theorem dX10_why_1 : decode cX10_why 1 = .ok (.iload_n 1, 1) := by decide +kernel
theorem dX10_why_2 : decode cX10_why 2 = .ok (.iload_n 2, 1) := by decide +kernel
theorem dX10_why_3 : decode cX10_why 3 = .ok (.iload_n 3, 1) := by decide +kernel
theorem dX10_why_4 : decode cX10_why 4 = .ok (.iload 4, 2) := by decide +kernel
theorem dX10_why_6 : decode cX10_why 6 = .ok (.invokevirtual 184, 3) := by decide +kernel
theorem dX10_why_9 : decode cX10_why 9 = .ok (.ifCond .ne 6, 3) := by decide +kernel
theorem dX10_why_12 : decode cX10_why 12 = .ok (.ldc 79, 2) := by decide +kernel
theorem dX10_why_14 : decode cX10_why 14 = .ok (.ireturn, 1) := by decide +kernel
theorem dX10_why_15 : decode cX10_why 15 = .ok (.aload_n 0, 1) := by decide +kernel
theorem dX10_why_16 : decode cX10_why 16 = .ok (.getfield 71, 3) := by decide +kernel
theorem dX10_why_19 : decode cX10_why 19 = .ok (.iload_n 1, 1) := by decide +kernel
theorem dX10_why_20 : decode cX10_why 20 = .ok (.iload_n 2, 1) := by decide +kernel
theorem dX10_why_21 : decode cX10_why 21 = .ok (.iload_n 3, 1) := by decide +kernel
theorem dX10_why_22 : decode cX10_why 22 = .ok (.iload 4, 2) := by decide +kernel
theorem dX10_why_24 : decode cX10_why 24 = .ok (.aload_n 0, 1) := by decide +kernel
theorem dX10_why_25 : decode cX10_why 25 = .ok (.getfield 10, 3) := by decide +kernel
theorem dX10_why_28 : decode cX10_why 28 = .ok (.iload_n 2, 1) := by decide +kernel
theorem dX10_why_29 : decode cX10_why 29 = .ok (.invokevirtual 191, 3) := by decide +kernel
theorem dX10_why_32 : decode cX10_why 32 = .ok (.invokevirtual 194, 3) := by decide +kernel
theorem dX10_why_35 : decode cX10_why 35 = .ok (.aload_n 0, 1) := by decide +kernel
theorem dX10_why_36 : decode cX10_why 36 = .ok (.getfield 57, 3) := by decide +kernel
theorem dX10_why_39 : decode cX10_why 39 = .ok (.aload_n 0, 1) := by decide +kernel
theorem dX10_why_40 : decode cX10_why 40 = .ok (.getfield 71, 3) := by decide +kernel
theorem dX10_why_43 : decode cX10_why 43 = .ok (.invokevirtual 198, 3) := by decide +kernel
theorem dX10_why_46 : decode cX10_why 46 = .ok (.ireturn, 1) := by decide +kernel
def ins_X10_why (pc : Nat) : HOp := cond (Nat.blt pc 21) (cond (Nat.blt pc 9) (cond (Nat.blt pc 3) (cond (Nat.blt pc 1) (cond (Nat.beq pc 0) (o_aload 0 1) o_bad) (cond (Nat.blt pc 2) (cond (Nat.beq pc 1) (o_iload 1 2) o_bad) (cond (Nat.beq pc 2) (o_iload 2 3) o_bad))) (cond (Nat.blt pc 4) (cond (Nat.beq pc 3) (o_iload 3 4) o_bad) (cond (Nat.blt pc 6) (cond (Nat.beq pc 4) (o_iload 4 6) o_bad) (cond (Nat.beq pc 6) (o_callV 5 10 sp_X10_canBeAsked 9) o_bad)))) (cond (Nat.blt pc 15) (cond (Nat.blt pc 12) (cond (Nat.beq pc 9) (o_if (fun x => x = 0) 12 15) o_bad) (cond (Nat.blt pc 14) (cond (Nat.beq pc 12) (o_const (-1000000001) 14) o_bad) (cond (Nat.beq pc 14) (o_iret) o_bad))) (cond (Nat.blt pc 19) (cond (Nat.blt pc 16) (cond (Nat.beq pc 15) (o_aload 0 16) o_bad) (cond (Nat.beq pc 16) (o_getq 10 8 9 19) o_bad)) (cond (Nat.blt pc 20) (cond (Nat.beq pc 19) (o_iload 1 20) o_bad) (cond (Nat.beq pc 20) (o_iload 2 21) o_bad))))) (cond (Nat.blt pc 32) (cond (Nat.blt pc 25) (cond (Nat.blt pc 22) (cond (Nat.beq pc 21) (o_iload 3 22) o_bad) (cond (Nat.blt pc 24) (cond (Nat.beq pc 22) (o_iload 4 24) o_bad) (cond (Nat.beq pc 24) (o_aload 0 25) o_bad))) (cond (Nat.blt pc 28) (cond (Nat.beq pc 25) (o_getf 10 0 28) o_bad) (cond (Nat.blt pc 29) (cond (Nat.beq pc 28) (o_iload 2 29) o_bad) (cond (Nat.beq pc 29) (o_callV 2 2 sp_X2_areLawyers 32) o_bad)))) (cond (Nat.blt pc 39) (cond (Nat.blt pc 35) (cond (Nat.beq pc 32) (o_callV 6 9 sp_X9_fill 35) o_bad) (cond (Nat.blt pc 36) (cond (Nat.beq pc 35) (o_aload 0 36) o_bad) (cond (Nat.beq pc 36) (o_getf 10 6 39) o_bad))) (cond (Nat.blt pc 43) (cond (Nat.blt pc 40) (cond (Nat.beq pc 39) (o_aload 0 40) o_bad) (cond (Nat.beq pc 40) (o_getq 10 8 9 43) o_bad)) (cond (Nat.blt pc 46) (cond (Nat.beq pc 43) (o_callV 2 1 sp_X1_reason 46) o_bad) (cond (Nat.beq pc 46) (o_iret) o_bad)))))
set_option maxRecDepth 20000 in
theorem ok_X10_why : HOKs cX10_why RX10 5 (some .int) 6 ins_X10_why := fun _ => hnd (hnd (hnd (hnd (hlf (ok_aload_n dX10_why_0 rfl rfl)) (hnd (hlf (ok_iload_n dX10_why_1 rfl rfl)) (hlf (ok_iload_n dX10_why_2 rfl rfl)))) (hnd (hlf (ok_iload_n dX10_why_3 rfl rfl)) (hnd (hlf (ok_iload dX10_why_4 rfl)) (hlf (ok_callV (y := yX10_canBeAsked) (n' := 4) (C := RX10) (T := TX10) dX10_why_6 ct_X10_canBeAsked (by decide) (by decide) wd_725 wd_722 wd_724 wd_16 wd_41 rfl (by decide +kernel) rfl rfl rfl))))) (hnd (hnd (hlf (ok_if_ne dX10_why_9 (by decide) rfl)) (hnd (hlf (ok_ldc dX10_why_12 wd_320 rfl)) (hlf (ok_iret dX10_why_14)))) (hnd (hnd (hlf (ok_aload_n dX10_why_15 rfl rfl)) (hlf (ok_getq dX10_why_16 wd_293 rfl))) (hnd (hlf (ok_iload_n dX10_why_19 rfl rfl)) (hlf (ok_iload_n dX10_why_20 rfl rfl)))))) (hnd (hnd (hnd (hlf (ok_iload_n dX10_why_21 rfl rfl)) (hnd (hlf (ok_iload dX10_why_22 rfl)) (hlf (ok_aload_n dX10_why_24 rfl rfl)))) (hnd (hlf (ok_getf (C := RX10) (T := TX10) dX10_why_25 rfl rfl (by decide) rfl inX10 wd_285 rfl)) (hnd (hlf (ok_iload_n dX10_why_28 rfl rfl)) (hlf (ok_callV (y := yX2_areLawyers) (n' := 1) (C := RX2) (T := TX2) dX10_why_29 ct_X2_areLawyers (by decide) (by decide) wd_746 wd_743 wd_744 wd_745 wd_42 rfl (by decide +kernel) rfl rfl rfl))))) (hnd (hnd (hlf (ok_callV (y := yX9_fill) (n' := 5) (C := RX9) (T := TX9) dX10_why_32 ct_X9_fill (by decide) (by decide) wd_750 wd_747 wd_748 wd_749 wd_49 rfl (by decide +kernel) rfl rfl rfl)) (hnd (hlf (ok_aload_n dX10_why_35 rfl rfl)) (hlf (ok_getf (C := RX10) (T := TX10) dX10_why_36 rfl rfl (by decide) rfl inX10 wd_291 rfl)))) (hnd (hnd (hlf (ok_aload_n dX10_why_39 rfl rfl)) (hlf (ok_getq dX10_why_40 wd_293 rfl))) (hnd (hlf (ok_callV (y := yX1_reason) (n' := 1) (C := RX1) (T := TX1) dX10_why_43 ct_X1_reason (by decide) (by decide) wd_419 wd_751 wd_417 wd_418 wd_47 rfl (by decide +kernel) rfl rfl rfl)) (hlf (ok_iret dX10_why_46))))))

noncomputable def sp_X10_why : HSp := fun as w σ K => wp ins_X10_why (fun _ => none) K 80 0 (loc0 5 as) [] w σ
theorem vc_X10_why : MVC ins_X10_why 5 5 sp_X10_why := mvc0 80 fun _ _ _ _ _ h => h
theorem ct_X10_why : Ctr yX10_why cX10_why 5 (some .int) 6 0 0 5 sp_X10_why := ctr_of (by decide +kernel) rfl (by decide) ok_X10_why vc_X10_why

theorem dX10_giveBack_0 : decode cX10_giveBack 0 = .ok (.aload_n 0, 1) := by decide +kernel
theorem dX10_giveBack_1 : decode cX10_giveBack 1 = .ok (.getfield 41, 3) := by decide +kernel
theorem dX10_giveBack_4 : decode cX10_giveBack 4 = .ok (.iload_n 1, 1) := by decide +kernel
theorem dX10_giveBack_5 : decode cX10_giveBack 5 = .ok (.invokevirtual 212, 3) := by decide +kernel
theorem dX10_giveBack_8 : decode cX10_giveBack 8 = .ok (.astore_n 2, 1) := by decide +kernel
theorem dX10_giveBack_9 : decode cX10_giveBack 9 = .ok (.aload_n 2, 1) := by decide +kernel
theorem dX10_giveBack_10 : decode cX10_giveBack 10 = .ok (.ifnonnull 6, 3) := by decide +kernel
theorem dX10_giveBack_13 : decode cX10_giveBack 13 = .ok (.ldc 79, 2) := by decide +kernel
theorem dX10_giveBack_15 : decode cX10_giveBack 15 = .ok (.ireturn, 1) := by decide +kernel
theorem dX10_giveBack_16 : decode cX10_giveBack 16 = .ok (.aload_n 2, 1) := by decide +kernel
theorem dX10_giveBack_17 : decode cX10_giveBack 17 = .ok (.getfield 206, 3) := by decide +kernel
theorem dX10_giveBack_20 : decode cX10_giveBack 20 = .ok (.iconst 2, 1) := by decide +kernel
theorem dX10_giveBack_21 : decode cX10_giveBack 21 = .ok (.if_icmp .eq 17, 3) := by decide +kernel
theorem dX10_giveBack_24 : decode cX10_giveBack 24 = .ok (.aload_n 2, 1) := by decide +kernel
theorem dX10_giveBack_25 : decode cX10_giveBack 25 = .ok (.getfield 216, 3) := by decide +kernel
theorem dX10_giveBack_28 : decode cX10_giveBack 28 = .ok (.aload_n 0, 1) := by decide +kernel
theorem dX10_giveBack_29 : decode cX10_giveBack 29 = .ok (.getfield 41, 3) := by decide +kernel
theorem dX10_giveBack_32 : decode cX10_giveBack 32 = .ok (.getfield 219, 3) := by decide +kernel
theorem dX10_giveBack_35 : decode cX10_giveBack 35 = .ok (.if_icmp .ge 6, 3) := by decide +kernel
theorem dX10_giveBack_38 : decode cX10_giveBack 38 = .ok (.ldc 119, 2) := by decide +kernel
theorem dX10_giveBack_40 : decode cX10_giveBack 40 = .ok (.ireturn, 1) := by decide +kernel
theorem dX10_giveBack_41 : decode cX10_giveBack 41 = .ok (.aload_n 2, 1) := by decide +kernel
theorem dX10_giveBack_42 : decode cX10_giveBack 42 = .ok (.iconst 2, 1) := by decide +kernel
theorem dX10_giveBack_43 : decode cX10_giveBack 43 = .ok (.putfield 206, 3) := by decide +kernel
theorem dX10_giveBack_46 : decode cX10_giveBack 46 = .ok (.aload_n 0, 1) := by decide +kernel
theorem dX10_giveBack_47 : decode cX10_giveBack 47 = .ok (.getfield 57, 3) := by decide +kernel
theorem dX10_giveBack_50 : decode cX10_giveBack 50 = .ok (.invokevirtual 120, 3) := by decide +kernel
theorem dX10_giveBack_53 : decode cX10_giveBack 53 = .ok (.ireturn, 1) := by decide +kernel
def ins_X10_giveBack (pc : Nat) : HOp := cond (Nat.blt pc 25) (cond (Nat.blt pc 13) (cond (Nat.blt pc 5) (cond (Nat.blt pc 1) (cond (Nat.beq pc 0) (o_aload 0 1) o_bad) (cond (Nat.blt pc 4) (cond (Nat.beq pc 1) (o_getf 10 4 4) o_bad) (cond (Nat.beq pc 4) (o_iload 1 5) o_bad))) (cond (Nat.blt pc 9) (cond (Nat.blt pc 8) (cond (Nat.beq pc 5) (o_callV 2 0 sp_X0_at 8) o_bad) (cond (Nat.beq pc 8) (o_astore 2 9) o_bad)) (cond (Nat.blt pc 10) (cond (Nat.beq pc 9) (o_aload 2 10) o_bad) (cond (Nat.beq pc 10) (o_ifnull 13 16) o_bad)))) (cond (Nat.blt pc 17) (cond (Nat.blt pc 15) (cond (Nat.beq pc 13) (o_const (-1000000001) 15) o_bad) (cond (Nat.blt pc 16) (cond (Nat.beq pc 15) (o_iret) o_bad) (cond (Nat.beq pc 16) (o_aload 2 17) o_bad))) (cond (Nat.blt pc 21) (cond (Nat.blt pc 20) (cond (Nat.beq pc 17) (o_getf 9 6 20) o_bad) (cond (Nat.beq pc 20) (o_const (2) 21) o_bad)) (cond (Nat.blt pc 24) (cond (Nat.beq pc 21) (o_icmp (fun x y => x = y) 38 24) o_bad) (cond (Nat.beq pc 24) (o_aload 2 25) o_bad))))) (cond (Nat.blt pc 41) (cond (Nat.blt pc 32) (cond (Nat.blt pc 28) (cond (Nat.beq pc 25) (o_getf 9 2 28) o_bad) (cond (Nat.blt pc 29) (cond (Nat.beq pc 28) (o_aload 0 29) o_bad) (cond (Nat.beq pc 29) (o_getf 10 4 32) o_bad))) (cond (Nat.blt pc 38) (cond (Nat.blt pc 35) (cond (Nat.beq pc 32) (o_getf 0 2 35) o_bad) (cond (Nat.beq pc 35) (o_icmp (fun x y => y ≤ x) 41 38) o_bad)) (cond (Nat.blt pc 40) (cond (Nat.beq pc 38) (o_const (-1000000002) 40) o_bad) (cond (Nat.beq pc 40) (o_iret) o_bad)))) (cond (Nat.blt pc 46) (cond (Nat.blt pc 42) (cond (Nat.beq pc 41) (o_aload 2 42) o_bad) (cond (Nat.blt pc 43) (cond (Nat.beq pc 42) (o_const (2) 43) o_bad) (cond (Nat.beq pc 43) (o_putf 9 6 46) o_bad))) (cond (Nat.blt pc 50) (cond (Nat.blt pc 47) (cond (Nat.beq pc 46) (o_aload 0 47) o_bad) (cond (Nat.beq pc 47) (o_getf 10 6 50) o_bad)) (cond (Nat.blt pc 53) (cond (Nat.beq pc 50) (o_callV 1 1 sp_X1_letWaiting 53) o_bad) (cond (Nat.beq pc 53) (o_iret) o_bad)))))
set_option maxRecDepth 20000 in
theorem ok_X10_giveBack : HOKs cX10_giveBack RX10 3 (some .int) 7 ins_X10_giveBack := fun _ => hnd (hnd (hnd (hnd (hlf (ok_aload_n dX10_giveBack_0 rfl rfl)) (hnd (hlf (ok_getf (C := RX10) (T := TX10) dX10_giveBack_1 rfl rfl (by decide) rfl inX10 wd_289 rfl)) (hlf (ok_iload_n dX10_giveBack_4 rfl rfl)))) (hnd (hnd (hlf (ok_callV (y := yX0_at) (n' := 1) (C := RX0) (T := TX0) dX10_giveBack_5 ct_X0_at (by decide) (by decide) wd_770 wd_767 wd_768 wd_769 wd_45 rfl (by decide +kernel) rfl rfl rfl)) (hlf (ok_astore_n dX10_giveBack_8 rfl (by decide) rfl))) (hnd (hlf (ok_aload_n dX10_giveBack_9 rfl rfl)) (hlf (ok_ifnonnull dX10_giveBack_10 (by decide) rfl))))) (hnd (hnd (hlf (ok_ldc dX10_giveBack_13 wd_320 rfl)) (hnd (hlf (ok_iret dX10_giveBack_15)) (hlf (ok_aload_n dX10_giveBack_16 rfl rfl)))) (hnd (hnd (hlf (ok_getfN (C := RX9) (T := TX9) dX10_giveBack_17 rfl rfl (by decide) rfl inX9 wd_264 rfl)) (hlf (ok_iconst dX10_giveBack_20 (by decide) rfl))) (hnd (hlf (ok_icmp_eq dX10_giveBack_21 (by decide) rfl)) (hlf (ok_aload_n dX10_giveBack_24 rfl rfl)))))) (hnd (hnd (hnd (hlf (ok_getfN (C := RX9) (T := TX9) dX10_giveBack_25 rfl rfl (by decide) rfl inX9 wd_248 rfl)) (hnd (hlf (ok_aload_n dX10_giveBack_28 rfl rfl)) (hlf (ok_getf (C := RX10) (T := TX10) dX10_giveBack_29 rfl rfl (by decide) rfl inX10 wd_289 rfl)))) (hnd (hnd (hlf (ok_getfN (C := RX0) (T := TX0) dX10_giveBack_32 rfl rfl (by decide) rfl inX0 wd_154 rfl)) (hlf (ok_icmp_ge dX10_giveBack_35 (by decide) rfl))) (hnd (hlf (ok_ldc dX10_giveBack_38 wd_411 rfl)) (hlf (ok_iret dX10_giveBack_40))))) (hnd (hnd (hlf (ok_aload_n dX10_giveBack_41 rfl rfl)) (hnd (hlf (ok_iconst dX10_giveBack_42 (by decide) rfl)) (hlf (ok_putfN (C := RX9) (T := TX9) dX10_giveBack_43 rfl rfl (by decide) rfl inX9 tyX9_ok nmX9 rfl rfl (fun _ _ => rfl) wd_264 rfl)))) (hnd (hnd (hlf (ok_aload_n dX10_giveBack_46 rfl rfl)) (hlf (ok_getf (C := RX10) (T := TX10) dX10_giveBack_47 rfl rfl (by decide) rfl inX10 wd_291 rfl))) (hnd (hlf (ok_callV (y := yX1_letWaiting) (n' := 0) (C := RX1) (T := TX1) dX10_giveBack_50 ct_X1_letWaiting (by decide) (by decide) wd_415 wd_412 wd_413 wd_414 wd_47 rfl (by decide +kernel) rfl rfl rfl)) (hlf (ok_iret dX10_giveBack_53))))))

noncomputable def sp_X10_giveBack : HSp := fun as w σ K => wp ins_X10_giveBack (fun _ => none) K 80 0 (loc0 3 as) [] w σ
theorem vc_X10_giveBack : MVC ins_X10_giveBack 3 2 sp_X10_giveBack := mvc0 80 fun _ _ _ _ _ h => h
theorem ct_X10_giveBack : Ctr yX10_giveBack cX10_giveBack 3 (some .int) 7 0 0 2 sp_X10_giveBack := ctr_of (by decide +kernel) rfl (by decide) ok_X10_giveBack vc_X10_giveBack

theorem dX10_visit_0 : decode cX10_visit 0 = .ok (.aload_n 0, 1) := by decide +kernel
theorem dX10_visit_1 : decode cX10_visit 1 = .ok (.getfield 41, 3) := by decide +kernel
theorem dX10_visit_4 : decode cX10_visit 4 = .ok (.iload_n 1, 1) := by decide +kernel
theorem dX10_visit_5 : decode cX10_visit 5 = .ok (.invokevirtual 212, 3) := by decide +kernel
theorem dX10_visit_8 : decode cX10_visit 8 = .ok (.astore_n 3, 1) := by decide +kernel
theorem dX10_visit_9 : decode cX10_visit 9 = .ok (.aload_n 3, 1) := by decide +kernel
theorem dX10_visit_10 : decode cX10_visit 10 = .ok (.ifnonnull 6, 3) := by decide +kernel
theorem dX10_visit_13 : decode cX10_visit 13 = .ok (.ldc 79, 2) := by decide +kernel
theorem dX10_visit_15 : decode cX10_visit 15 = .ok (.ireturn, 1) := by decide +kernel
theorem dX10_visit_16 : decode cX10_visit 16 = .ok (.iload_n 2, 1) := by decide +kernel
theorem dX10_visit_17 : decode cX10_visit 17 = .ok (.tableswitch 86 0 6 #[43, 48, 53, 58, 63, 68, 73], 43) := by decide +kernel
theorem dX10_visit_60 : decode cX10_visit 60 = .ok (.aload_n 3, 1) := by decide +kernel
theorem dX10_visit_61 : decode cX10_visit 61 = .ok (.getfield 222, 3) := by decide +kernel
theorem dX10_visit_64 : decode cX10_visit 64 = .ok (.ireturn, 1) := by decide +kernel
theorem dX10_visit_65 : decode cX10_visit 65 = .ok (.aload_n 3, 1) := by decide +kernel
theorem dX10_visit_66 : decode cX10_visit 66 = .ok (.getfield 225, 3) := by decide +kernel
theorem dX10_visit_69 : decode cX10_visit 69 = .ok (.ireturn, 1) := by decide +kernel
theorem dX10_visit_70 : decode cX10_visit 70 = .ok (.aload_n 3, 1) := by decide +kernel
theorem dX10_visit_71 : decode cX10_visit 71 = .ok (.getfield 216, 3) := by decide +kernel
theorem dX10_visit_74 : decode cX10_visit 74 = .ok (.ireturn, 1) := by decide +kernel
theorem dX10_visit_75 : decode cX10_visit 75 = .ok (.aload_n 3, 1) := by decide +kernel
theorem dX10_visit_76 : decode cX10_visit 76 = .ok (.getfield 228, 3) := by decide +kernel
theorem dX10_visit_79 : decode cX10_visit 79 = .ok (.ireturn, 1) := by decide +kernel
theorem dX10_visit_80 : decode cX10_visit 80 = .ok (.aload_n 3, 1) := by decide +kernel
theorem dX10_visit_81 : decode cX10_visit 81 = .ok (.getfield 231, 3) := by decide +kernel
theorem dX10_visit_84 : decode cX10_visit 84 = .ok (.ireturn, 1) := by decide +kernel
theorem dX10_visit_85 : decode cX10_visit 85 = .ok (.aload_n 3, 1) := by decide +kernel
theorem dX10_visit_86 : decode cX10_visit 86 = .ok (.getfield 206, 3) := by decide +kernel
theorem dX10_visit_89 : decode cX10_visit 89 = .ok (.ireturn, 1) := by decide +kernel
theorem dX10_visit_90 : decode cX10_visit 90 = .ok (.aload_n 3, 1) := by decide +kernel
theorem dX10_visit_91 : decode cX10_visit 91 = .ok (.getfield 234, 3) := by decide +kernel
theorem dX10_visit_94 : decode cX10_visit 94 = .ok (.ifCond .eq 7, 3) := by decide +kernel
theorem dX10_visit_97 : decode cX10_visit 97 = .ok (.iconst 1, 1) := by decide +kernel
theorem dX10_visit_98 : decode cX10_visit 98 = .ok (.goto 4, 3) := by decide +kernel
theorem dX10_visit_101 : decode cX10_visit 101 = .ok (.iconst 0, 1) := by decide +kernel
theorem dX10_visit_102 : decode cX10_visit 102 = .ok (.ireturn, 1) := by decide +kernel
theorem dX10_visit_103 : decode cX10_visit 103 = .ok (.ldc 79, 2) := by decide +kernel
theorem dX10_visit_105 : decode cX10_visit 105 = .ok (.ireturn, 1) := by decide +kernel
def ins_X10_visit (pc : Nat) : HOp := cond (Nat.blt pc 74) (cond (Nat.blt pc 16) (cond (Nat.blt pc 8) (cond (Nat.blt pc 4) (cond (Nat.blt pc 1) (cond (Nat.beq pc 0) (o_aload 0 1) o_bad) (cond (Nat.beq pc 1) (o_getf 10 4 4) o_bad)) (cond (Nat.blt pc 5) (cond (Nat.beq pc 4) (o_iload 1 5) o_bad) (cond (Nat.beq pc 5) (o_callV 2 0 sp_X0_at 8) o_bad))) (cond (Nat.blt pc 10) (cond (Nat.blt pc 9) (cond (Nat.beq pc 8) (o_astore 3 9) o_bad) (cond (Nat.beq pc 9) (o_aload 3 10) o_bad)) (cond (Nat.blt pc 13) (cond (Nat.beq pc 10) (o_ifnull 13 16) o_bad) (cond (Nat.blt pc 15) (cond (Nat.beq pc 13) (o_const (-1000000001) 15) o_bad) (cond (Nat.beq pc 15) (o_iret) o_bad))))) (cond (Nat.blt pc 65) (cond (Nat.blt pc 60) (cond (Nat.blt pc 17) (cond (Nat.beq pc 16) (o_iload 2 17) o_bad) (cond (Nat.beq pc 17) (o_sw [(0, 60), (1, 65), (2, 70), (3, 75), (4, 80), (5, 85), (6, 90)] 103) o_bad)) (cond (Nat.blt pc 61) (cond (Nat.beq pc 60) (o_aload 3 61) o_bad) (cond (Nat.blt pc 64) (cond (Nat.beq pc 61) (o_getf 9 0 64) o_bad) (cond (Nat.beq pc 64) (o_iret) o_bad)))) (cond (Nat.blt pc 69) (cond (Nat.blt pc 66) (cond (Nat.beq pc 65) (o_aload 3 66) o_bad) (cond (Nat.beq pc 66) (o_getf 9 1 69) o_bad)) (cond (Nat.blt pc 70) (cond (Nat.beq pc 69) (o_iret) o_bad) (cond (Nat.blt pc 71) (cond (Nat.beq pc 70) (o_aload 3 71) o_bad) (cond (Nat.beq pc 71) (o_getf 9 2 74) o_bad)))))) (cond (Nat.blt pc 89) (cond (Nat.blt pc 80) (cond (Nat.blt pc 76) (cond (Nat.blt pc 75) (cond (Nat.beq pc 74) (o_iret) o_bad) (cond (Nat.beq pc 75) (o_aload 3 76) o_bad)) (cond (Nat.blt pc 79) (cond (Nat.beq pc 76) (o_getf 9 3 79) o_bad) (cond (Nat.beq pc 79) (o_iret) o_bad))) (cond (Nat.blt pc 84) (cond (Nat.blt pc 81) (cond (Nat.beq pc 80) (o_aload 3 81) o_bad) (cond (Nat.beq pc 81) (o_getf 9 4 84) o_bad)) (cond (Nat.blt pc 85) (cond (Nat.beq pc 84) (o_iret) o_bad) (cond (Nat.blt pc 86) (cond (Nat.beq pc 85) (o_aload 3 86) o_bad) (cond (Nat.beq pc 86) (o_getf 9 6 89) o_bad))))) (cond (Nat.blt pc 98) (cond (Nat.blt pc 91) (cond (Nat.blt pc 90) (cond (Nat.beq pc 89) (o_iret) o_bad) (cond (Nat.beq pc 90) (o_aload 3 91) o_bad)) (cond (Nat.blt pc 94) (cond (Nat.beq pc 91) (o_getf 9 5 94) o_bad) (cond (Nat.blt pc 97) (cond (Nat.beq pc 94) (o_if (fun x => x = 0) 101 97) o_bad) (cond (Nat.beq pc 97) (o_const (1) 98) o_bad)))) (cond (Nat.blt pc 102) (cond (Nat.blt pc 101) (cond (Nat.beq pc 98) (o_goto 102) o_bad) (cond (Nat.beq pc 101) (o_const (0) 102) o_bad)) (cond (Nat.blt pc 103) (cond (Nat.beq pc 102) (o_iret) o_bad) (cond (Nat.blt pc 105) (cond (Nat.beq pc 103) (o_const (-1000000001) 105) o_bad) (cond (Nat.beq pc 105) (o_iret) o_bad))))))
set_option maxRecDepth 20000 in
theorem ok_X10_visit : HOKs cX10_visit RX10 4 (some .int) 3 ins_X10_visit := fun _ => hnd (hnd (hnd (hnd (hnd (hlf (ok_aload_n dX10_visit_0 rfl rfl)) (hlf (ok_getf (C := RX10) (T := TX10) dX10_visit_1 rfl rfl (by decide) rfl inX10 wd_289 rfl))) (hnd (hlf (ok_iload_n dX10_visit_4 rfl rfl)) (hlf (ok_callV (y := yX0_at) (n' := 1) (C := RX0) (T := TX0) dX10_visit_5 ct_X0_at (by decide) (by decide) wd_770 wd_767 wd_768 wd_769 wd_45 rfl (by decide +kernel) rfl rfl rfl)))) (hnd (hnd (hlf (ok_astore_n dX10_visit_8 rfl (by decide) rfl)) (hlf (ok_aload_n dX10_visit_9 rfl rfl))) (hnd (hlf (ok_ifnonnull dX10_visit_10 (by decide) rfl)) (hnd (hlf (ok_ldc dX10_visit_13 wd_320 rfl)) (hlf (ok_iret dX10_visit_15)))))) (hnd (hnd (hnd (hlf (ok_iload_n dX10_visit_16 rfl rfl)) (hlf (ok_tsw dX10_visit_17 (by decide) (by decide) (by decide)))) (hnd (hlf (ok_aload_n dX10_visit_60 rfl rfl)) (hnd (hlf (ok_getfN (C := RX9) (T := TX9) dX10_visit_61 rfl rfl (by decide) rfl inX9 wd_237 rfl)) (hlf (ok_iret dX10_visit_64))))) (hnd (hnd (hlf (ok_aload_n dX10_visit_65 rfl rfl)) (hlf (ok_getfN (C := RX9) (T := TX9) dX10_visit_66 rfl rfl (by decide) rfl inX9 wd_242 rfl))) (hnd (hlf (ok_iret dX10_visit_69)) (hnd (hlf (ok_aload_n dX10_visit_70 rfl rfl)) (hlf (ok_getfN (C := RX9) (T := TX9) dX10_visit_71 rfl rfl (by decide) rfl inX9 wd_248 rfl))))))) (hnd (hnd (hnd (hnd (hlf (ok_iret dX10_visit_74)) (hlf (ok_aload_n dX10_visit_75 rfl rfl))) (hnd (hlf (ok_getfN (C := RX9) (T := TX9) dX10_visit_76 rfl rfl (by decide) rfl inX9 wd_251 rfl)) (hlf (ok_iret dX10_visit_79)))) (hnd (hnd (hlf (ok_aload_n dX10_visit_80 rfl rfl)) (hlf (ok_getfN (C := RX9) (T := TX9) dX10_visit_81 rfl rfl (by decide) rfl inX9 wd_255 rfl))) (hnd (hlf (ok_iret dX10_visit_84)) (hnd (hlf (ok_aload_n dX10_visit_85 rfl rfl)) (hlf (ok_getfN (C := RX9) (T := TX9) dX10_visit_86 rfl rfl (by decide) rfl inX9 wd_264 rfl)))))) (hnd (hnd (hnd (hlf (ok_iret dX10_visit_89)) (hlf (ok_aload_n dX10_visit_90 rfl rfl))) (hnd (hlf (ok_getfN (C := RX9) (T := TX9) dX10_visit_91 rfl rfl (by decide) rfl inX9 wd_259 rfl)) (hnd (hlf (ok_if_eq dX10_visit_94 (by decide) rfl)) (hlf (ok_iconst dX10_visit_97 (by decide) rfl))))) (hnd (hnd (hlf (ok_goto dX10_visit_98 (by decide))) (hlf (ok_iconst dX10_visit_101 (by decide) rfl))) (hnd (hlf (ok_iret dX10_visit_102)) (hnd (hlf (ok_ldc dX10_visit_103 wd_320 rfl)) (hlf (ok_iret dX10_visit_105)))))))

noncomputable def sp_X10_visit : HSp := fun as w σ K => wp ins_X10_visit (fun _ => none) K 80 0 (loc0 4 as) [] w σ
theorem vc_X10_visit : MVC ins_X10_visit 4 3 sp_X10_visit := mvc0 80 fun _ _ _ _ _ h => h
theorem ct_X10_visit : Ctr yX10_visit cX10_visit 4 (some .int) 3 0 0 3 sp_X10_visit := ctr_of (by decide +kernel) rfl (by decide) ok_X10_visit vc_X10_visit

theorem dX10_rule_0 : decode cX10_rule 0 = .ok (.iload_n 1, 1) := by decide +kernel
theorem dX10_rule_1 : decode cX10_rule 1 = .ok (.iload_n 2, 1) := by decide +kernel
theorem dX10_rule_2 : decode cX10_rule 2 = .ok (.invokestatic 237, 3) := by decide +kernel
theorem dX10_rule_5 : decode cX10_rule 5 = .ok (.ifCond .ne 6, 3) := by decide +kernel
theorem dX10_rule_8 : decode cX10_rule 8 = .ok (.ldc 79, 2) := by decide +kernel
theorem dX10_rule_10 : decode cX10_rule 10 = .ok (.ireturn, 1) := by decide +kernel
theorem dX10_rule_11 : decode cX10_rule 11 = .ok (.iload_n 1, 1) := by decide +kernel
theorem dX10_rule_12 : decode cX10_rule 12 = .ok (.lookupswitch 72 #[(0, 28), (1, 54)], 28) := by decide +kernel
theorem dX10_rule_40 : decode cX10_rule 40 = .ok (.aload_n 0, 1) := by decide +kernel
theorem dX10_rule_41 : decode cX10_rule 41 = .ok (.getfield 57, 3) := by decide +kernel
theorem dX10_rule_44 : decode cX10_rule 44 = .ok (.getfield 240, 3) := by decide +kernel
theorem dX10_rule_47 : decode cX10_rule 47 = .ok (.istore_n 3, 1) := by decide +kernel
theorem dX10_rule_48 : decode cX10_rule 48 = .ok (.aload_n 0, 1) := by decide +kernel
theorem dX10_rule_49 : decode cX10_rule 49 = .ok (.getfield 57, 3) := by decide +kernel
theorem dX10_rule_52 : decode cX10_rule 52 = .ok (.iload_n 2, 1) := by decide +kernel
theorem dX10_rule_53 : decode cX10_rule 53 = .ok (.putfield 240, 3) := by decide +kernel
theorem dX10_rule_56 : decode cX10_rule 56 = .ok (.aload_n 0, 1) := by decide +kernel
theorem dX10_rule_57 : decode cX10_rule 57 = .ok (.getfield 57, 3) := by decide +kernel
theorem dX10_rule_60 : decode cX10_rule 60 = .ok (.invokevirtual 120, 3) := by decide +kernel
theorem dX10_rule_63 : decode cX10_rule 63 = .ok (.pop, 1) := by decide +kernel
theorem dX10_rule_64 : decode cX10_rule 64 = .ok (.iload_n 3, 1) := by decide +kernel
theorem dX10_rule_65 : decode cX10_rule 65 = .ok (.ireturn, 1) := by decide +kernel
theorem dX10_rule_66 : decode cX10_rule 66 = .ok (.aload_n 0, 1) := by decide +kernel
theorem dX10_rule_67 : decode cX10_rule 67 = .ok (.getfield 64, 3) := by decide +kernel
theorem dX10_rule_70 : decode cX10_rule 70 = .ok (.getfield 243, 3) := by decide +kernel
theorem dX10_rule_73 : decode cX10_rule 73 = .ok (.istore_n 3, 1) := by decide +kernel
theorem dX10_rule_74 : decode cX10_rule 74 = .ok (.aload_n 0, 1) := by decide +kernel
theorem dX10_rule_75 : decode cX10_rule 75 = .ok (.getfield 64, 3) := by decide +kernel
theorem dX10_rule_78 : decode cX10_rule 78 = .ok (.iload_n 2, 1) := by decide +kernel
theorem dX10_rule_79 : decode cX10_rule 79 = .ok (.putfield 243, 3) := by decide +kernel
theorem dX10_rule_82 : decode cX10_rule 82 = .ok (.iload_n 3, 1) := by decide +kernel
theorem dX10_rule_83 : decode cX10_rule 83 = .ok (.ireturn, 1) := by decide +kernel
theorem dX10_rule_84 : decode cX10_rule 84 = .ok (.aload_n 0, 1) := by decide +kernel
theorem dX10_rule_85 : decode cX10_rule 85 = .ok (.getfield 64, 3) := by decide +kernel
theorem dX10_rule_88 : decode cX10_rule 88 = .ok (.getfield 246, 3) := by decide +kernel
theorem dX10_rule_91 : decode cX10_rule 91 = .ok (.istore_n 3, 1) := by decide +kernel
theorem dX10_rule_92 : decode cX10_rule 92 = .ok (.aload_n 0, 1) := by decide +kernel
theorem dX10_rule_93 : decode cX10_rule 93 = .ok (.getfield 64, 3) := by decide +kernel
theorem dX10_rule_96 : decode cX10_rule 96 = .ok (.iload_n 2, 1) := by decide +kernel
theorem dX10_rule_97 : decode cX10_rule 97 = .ok (.putfield 246, 3) := by decide +kernel
theorem dX10_rule_100 : decode cX10_rule 100 = .ok (.iload_n 3, 1) := by decide +kernel
theorem dX10_rule_101 : decode cX10_rule 101 = .ok (.ireturn, 1) := by decide +kernel
def ins_X10_rule (pc : Nat) : HOp := cond (Nat.blt pc 65) (cond (Nat.blt pc 44) (cond (Nat.blt pc 10) (cond (Nat.blt pc 2) (cond (Nat.blt pc 1) (cond (Nat.beq pc 0) (o_iload 1 1) o_bad) (cond (Nat.beq pc 1) (o_iload 2 2) o_bad)) (cond (Nat.blt pc 5) (cond (Nat.beq pc 2) (o_callS 2 sp_X10_mayRule 5) o_bad) (cond (Nat.blt pc 8) (cond (Nat.beq pc 5) (o_if (fun x => x = 0) 8 11) o_bad) (cond (Nat.beq pc 8) (o_const (-1000000001) 10) o_bad)))) (cond (Nat.blt pc 12) (cond (Nat.blt pc 11) (cond (Nat.beq pc 10) (o_iret) o_bad) (cond (Nat.beq pc 11) (o_iload 1 12) o_bad)) (cond (Nat.blt pc 40) (cond (Nat.beq pc 12) (o_sw [(0, 40), (1, 66)] 84) o_bad) (cond (Nat.blt pc 41) (cond (Nat.beq pc 40) (o_aload 0 41) o_bad) (cond (Nat.beq pc 41) (o_getf 10 6 44) o_bad))))) (cond (Nat.blt pc 53) (cond (Nat.blt pc 48) (cond (Nat.blt pc 47) (cond (Nat.beq pc 44) (o_getf 1 4 47) o_bad) (cond (Nat.beq pc 47) (o_istore 3 48) o_bad)) (cond (Nat.blt pc 49) (cond (Nat.beq pc 48) (o_aload 0 49) o_bad) (cond (Nat.blt pc 52) (cond (Nat.beq pc 49) (o_getf 10 6 52) o_bad) (cond (Nat.beq pc 52) (o_iload 2 53) o_bad)))) (cond (Nat.blt pc 60) (cond (Nat.blt pc 56) (cond (Nat.beq pc 53) (o_putf 1 4 56) o_bad) (cond (Nat.blt pc 57) (cond (Nat.beq pc 56) (o_aload 0 57) o_bad) (cond (Nat.beq pc 57) (o_getf 10 6 60) o_bad))) (cond (Nat.blt pc 63) (cond (Nat.beq pc 60) (o_callV 1 1 sp_X1_letWaiting 63) o_bad) (cond (Nat.blt pc 64) (cond (Nat.beq pc 63) (o_pop 64) o_bad) (cond (Nat.beq pc 64) (o_iload 3 65) o_bad)))))) (cond (Nat.blt pc 83) (cond (Nat.blt pc 74) (cond (Nat.blt pc 67) (cond (Nat.blt pc 66) (cond (Nat.beq pc 65) (o_iret) o_bad) (cond (Nat.beq pc 66) (o_aload 0 67) o_bad)) (cond (Nat.blt pc 70) (cond (Nat.beq pc 67) (o_getf 10 7 70) o_bad) (cond (Nat.blt pc 73) (cond (Nat.beq pc 70) (o_getf 6 0 73) o_bad) (cond (Nat.beq pc 73) (o_istore 3 74) o_bad)))) (cond (Nat.blt pc 78) (cond (Nat.blt pc 75) (cond (Nat.beq pc 74) (o_aload 0 75) o_bad) (cond (Nat.beq pc 75) (o_getf 10 7 78) o_bad)) (cond (Nat.blt pc 79) (cond (Nat.beq pc 78) (o_iload 2 79) o_bad) (cond (Nat.blt pc 82) (cond (Nat.beq pc 79) (o_putf 6 0 82) o_bad) (cond (Nat.beq pc 82) (o_iload 3 83) o_bad))))) (cond (Nat.blt pc 92) (cond (Nat.blt pc 85) (cond (Nat.blt pc 84) (cond (Nat.beq pc 83) (o_iret) o_bad) (cond (Nat.beq pc 84) (o_aload 0 85) o_bad)) (cond (Nat.blt pc 88) (cond (Nat.beq pc 85) (o_getf 10 7 88) o_bad) (cond (Nat.blt pc 91) (cond (Nat.beq pc 88) (o_getf 6 1 91) o_bad) (cond (Nat.beq pc 91) (o_istore 3 92) o_bad)))) (cond (Nat.blt pc 97) (cond (Nat.blt pc 93) (cond (Nat.beq pc 92) (o_aload 0 93) o_bad) (cond (Nat.blt pc 96) (cond (Nat.beq pc 93) (o_getf 10 7 96) o_bad) (cond (Nat.beq pc 96) (o_iload 2 97) o_bad))) (cond (Nat.blt pc 100) (cond (Nat.beq pc 97) (o_putf 6 1 100) o_bad) (cond (Nat.blt pc 101) (cond (Nat.beq pc 100) (o_iload 3 101) o_bad) (cond (Nat.beq pc 101) (o_iret) o_bad))))))
set_option maxRecDepth 20000 in
theorem ok_X10_rule : HOKs cX10_rule RX10 4 (some .int) 7 ins_X10_rule := fun _ => hnd (hnd (hnd (hnd (hnd (hlf (ok_iload_n dX10_rule_0 rfl rfl)) (hlf (ok_iload_n dX10_rule_1 rfl rfl))) (hnd (hlf (ok_callS (y := yX10_mayRule) dX10_rule_2 ct_X10_mayRule (by decide) (by decide) wd_782 wd_780 wd_781 wd_41 (by decide +kernel) rfl)) (hnd (hlf (ok_if_ne dX10_rule_5 (by decide) rfl)) (hlf (ok_ldc dX10_rule_8 wd_320 rfl))))) (hnd (hnd (hlf (ok_iret dX10_rule_10)) (hlf (ok_iload_n dX10_rule_11 rfl rfl))) (hnd (hlf (ok_lsw dX10_rule_12 (by decide) (by decide) (by decide))) (hnd (hlf (ok_aload_n dX10_rule_40 rfl rfl)) (hlf (ok_getf (C := RX10) (T := TX10) dX10_rule_41 rfl rfl (by decide) rfl inX10 wd_291 rfl)))))) (hnd (hnd (hnd (hlf (ok_getfN (C := RX1) (T := TX1) dX10_rule_44 rfl rfl (by decide) rfl inX1 wd_190 rfl)) (hlf (ok_istore_n dX10_rule_47 rfl (by decide) rfl))) (hnd (hlf (ok_aload_n dX10_rule_48 rfl rfl)) (hnd (hlf (ok_getf (C := RX10) (T := TX10) dX10_rule_49 rfl rfl (by decide) rfl inX10 wd_291 rfl)) (hlf (ok_iload_n dX10_rule_52 rfl rfl))))) (hnd (hnd (hlf (ok_putfN (C := RX1) (T := TX1) dX10_rule_53 rfl rfl (by decide) rfl inX1 tyX1_ok nmX1 rfl rfl (fun _ _ => rfl) wd_190 rfl)) (hnd (hlf (ok_aload_n dX10_rule_56 rfl rfl)) (hlf (ok_getf (C := RX10) (T := TX10) dX10_rule_57 rfl rfl (by decide) rfl inX10 wd_291 rfl)))) (hnd (hlf (ok_callV (y := yX1_letWaiting) (n' := 0) (C := RX1) (T := TX1) dX10_rule_60 ct_X1_letWaiting (by decide) (by decide) wd_415 wd_412 wd_413 wd_414 wd_47 rfl (by decide +kernel) rfl rfl rfl)) (hnd (hlf (ok_pop dX10_rule_63 rfl)) (hlf (ok_iload_n dX10_rule_64 rfl rfl))))))) (hnd (hnd (hnd (hnd (hlf (ok_iret dX10_rule_65)) (hlf (ok_aload_n dX10_rule_66 rfl rfl))) (hnd (hlf (ok_getf (C := RX10) (T := TX10) dX10_rule_67 rfl rfl (by decide) rfl inX10 wd_292 rfl)) (hnd (hlf (ok_getfN (C := RX6) (T := TX6) dX10_rule_70 rfl rfl (by decide) rfl inX6 wd_212 rfl)) (hlf (ok_istore_n dX10_rule_73 rfl (by decide) rfl))))) (hnd (hnd (hlf (ok_aload_n dX10_rule_74 rfl rfl)) (hlf (ok_getf (C := RX10) (T := TX10) dX10_rule_75 rfl rfl (by decide) rfl inX10 wd_292 rfl))) (hnd (hlf (ok_iload_n dX10_rule_78 rfl rfl)) (hnd (hlf (ok_putfN (C := RX6) (T := TX6) dX10_rule_79 rfl rfl (by decide) rfl inX6 tyX6_ok nmX6 rfl rfl (fun _ _ => rfl) wd_212 rfl)) (hlf (ok_iload_n dX10_rule_82 rfl rfl)))))) (hnd (hnd (hnd (hlf (ok_iret dX10_rule_83)) (hlf (ok_aload_n dX10_rule_84 rfl rfl))) (hnd (hlf (ok_getf (C := RX10) (T := TX10) dX10_rule_85 rfl rfl (by decide) rfl inX10 wd_292 rfl)) (hnd (hlf (ok_getfN (C := RX6) (T := TX6) dX10_rule_88 rfl rfl (by decide) rfl inX6 wd_214 rfl)) (hlf (ok_istore_n dX10_rule_91 rfl (by decide) rfl))))) (hnd (hnd (hlf (ok_aload_n dX10_rule_92 rfl rfl)) (hnd (hlf (ok_getf (C := RX10) (T := TX10) dX10_rule_93 rfl rfl (by decide) rfl inX10 wd_292 rfl)) (hlf (ok_iload_n dX10_rule_96 rfl rfl)))) (hnd (hlf (ok_putfN (C := RX6) (T := TX6) dX10_rule_97 rfl rfl (by decide) rfl inX6 tyX6_ok nmX6 rfl rfl (fun _ _ => rfl) wd_214 rfl)) (hnd (hlf (ok_iload_n dX10_rule_100 rfl rfl)) (hlf (ok_iret dX10_rule_101)))))))

noncomputable def sp_X10_rule : HSp := fun as w σ K => wp ins_X10_rule (fun _ => none) K 80 0 (loc0 4 as) [] w σ
theorem vc_X10_rule : MVC ins_X10_rule 4 3 sp_X10_rule := mvc0 80 fun _ _ _ _ _ h => h
theorem ct_X10_rule : Ctr yX10_rule cX10_rule 4 (some .int) 7 0 0 3 sp_X10_rule := ctr_of (by decide +kernel) rfl (by decide) ok_X10_rule vc_X10_rule

theorem dX10_days_0 : decode cX10_days 0 = .ok (.iload_n 1, 1) := by decide +kernel
theorem dX10_days_1 : decode cX10_days 1 = .ok (.iconst 1, 1) := by decide +kernel
theorem dX10_days_2 : decode cX10_days 2 = .ok (.if_icmp .lt 24, 3) := by decide +kernel
theorem dX10_days_5 : decode cX10_days 5 = .ok (.iload_n 1, 1) := by decide +kernel
theorem dX10_days_6 : decode cX10_days 6 = .ok (.bipush 60, 2) := by decide +kernel
theorem dX10_days_8 : decode cX10_days 8 = .ok (.if_icmp .gt 18, 3) := by decide +kernel
theorem dX10_days_11 : decode cX10_days 11 = .ok (.aload_n 0, 1) := by decide +kernel
theorem dX10_days_12 : decode cX10_days 12 = .ok (.getfield 41, 3) := by decide +kernel
theorem dX10_days_15 : decode cX10_days 15 = .ok (.getfield 219, 3) := by decide +kernel
theorem dX10_days_18 : decode cX10_days 18 = .ok (.iload_n 1, 1) := by decide +kernel
theorem dX10_days_19 : decode cX10_days 19 = .ok (.iadd, 1) := by decide +kernel
theorem dX10_days_20 : decode cX10_days 20 = .ok (.sipush 400, 3) := by decide +kernel
theorem dX10_days_23 : decode cX10_days 23 = .ok (.if_icmp .le 6, 3) := by decide +kernel
theorem dX10_days_26 : decode cX10_days 26 = .ok (.ldc 79, 2) := by decide +kernel
theorem dX10_days_28 : decode cX10_days 28 = .ok (.ireturn, 1) := by decide +kernel
theorem dX10_days_29 : decode cX10_days 29 = .ok (.aload_n 0, 1) := by decide +kernel
theorem dX10_days_30 : decode cX10_days 30 = .ok (.getfield 41, 3) := by decide +kernel
theorem dX10_days_33 : decode cX10_days 33 = .ok (.dup, 1) := by decide +kernel
theorem dX10_days_34 : decode cX10_days 34 = .ok (.getfield 219, 3) := by decide +kernel
theorem dX10_days_37 : decode cX10_days 37 = .ok (.iload_n 1, 1) := by decide +kernel
theorem dX10_days_38 : decode cX10_days 38 = .ok (.iadd, 1) := by decide +kernel
theorem dX10_days_39 : decode cX10_days 39 = .ok (.putfield 219, 3) := by decide +kernel
theorem dX10_days_42 : decode cX10_days 42 = .ok (.aload_n 0, 1) := by decide +kernel
theorem dX10_days_43 : decode cX10_days 43 = .ok (.getfield 41, 3) := by decide +kernel
theorem dX10_days_46 : decode cX10_days 46 = .ok (.getfield 219, 3) := by decide +kernel
theorem dX10_days_49 : decode cX10_days 49 = .ok (.ireturn, 1) := by decide +kernel
def ins_X10_days (pc : Nat) : HOp := cond (Nat.blt pc 26) (cond (Nat.blt pc 11) (cond (Nat.blt pc 5) (cond (Nat.blt pc 1) (cond (Nat.beq pc 0) (o_iload 1 1) o_bad) (cond (Nat.blt pc 2) (cond (Nat.beq pc 1) (o_const (1) 2) o_bad) (cond (Nat.beq pc 2) (o_icmp (fun x y => x < y) 26 5) o_bad))) (cond (Nat.blt pc 6) (cond (Nat.beq pc 5) (o_iload 1 6) o_bad) (cond (Nat.blt pc 8) (cond (Nat.beq pc 6) (o_const (60) 8) o_bad) (cond (Nat.beq pc 8) (o_icmp (fun x y => y < x) 26 11) o_bad)))) (cond (Nat.blt pc 18) (cond (Nat.blt pc 12) (cond (Nat.beq pc 11) (o_aload 0 12) o_bad) (cond (Nat.blt pc 15) (cond (Nat.beq pc 12) (o_getf 10 4 15) o_bad) (cond (Nat.beq pc 15) (o_getf 0 2 18) o_bad))) (cond (Nat.blt pc 20) (cond (Nat.blt pc 19) (cond (Nat.beq pc 18) (o_iload 1 19) o_bad) (cond (Nat.beq pc 19) (o_bin (fun x y => x + y) 20) o_bad)) (cond (Nat.blt pc 23) (cond (Nat.beq pc 20) (o_const (400) 23) o_bad) (cond (Nat.beq pc 23) (o_icmp (fun x y => x ≤ y) 29 26) o_bad))))) (cond (Nat.blt pc 37) (cond (Nat.blt pc 30) (cond (Nat.blt pc 28) (cond (Nat.beq pc 26) (o_const (-1000000001) 28) o_bad) (cond (Nat.blt pc 29) (cond (Nat.beq pc 28) (o_iret) o_bad) (cond (Nat.beq pc 29) (o_aload 0 30) o_bad))) (cond (Nat.blt pc 33) (cond (Nat.beq pc 30) (o_getf 10 4 33) o_bad) (cond (Nat.blt pc 34) (cond (Nat.beq pc 33) (o_dup 34) o_bad) (cond (Nat.beq pc 34) (o_getf 0 2 37) o_bad)))) (cond (Nat.blt pc 42) (cond (Nat.blt pc 38) (cond (Nat.beq pc 37) (o_iload 1 38) o_bad) (cond (Nat.blt pc 39) (cond (Nat.beq pc 38) (o_bin (fun x y => x + y) 39) o_bad) (cond (Nat.beq pc 39) (o_putf 0 2 42) o_bad))) (cond (Nat.blt pc 46) (cond (Nat.blt pc 43) (cond (Nat.beq pc 42) (o_aload 0 43) o_bad) (cond (Nat.beq pc 43) (o_getf 10 4 46) o_bad)) (cond (Nat.blt pc 49) (cond (Nat.beq pc 46) (o_getf 0 2 49) o_bad) (cond (Nat.beq pc 49) (o_iret) o_bad)))))
set_option maxRecDepth 20000 in
theorem ok_X10_days : HOKs cX10_days RX10 2 (some .int) 1 ins_X10_days := fun _ => hnd (hnd (hnd (hnd (hlf (ok_iload_n dX10_days_0 rfl rfl)) (hnd (hlf (ok_iconst dX10_days_1 (by decide) rfl)) (hlf (ok_icmp_lt dX10_days_2 (by decide) rfl)))) (hnd (hlf (ok_iload_n dX10_days_5 rfl rfl)) (hnd (hlf (ok_bipush dX10_days_6 (by decide) rfl)) (hlf (ok_icmp_gt dX10_days_8 (by decide) rfl))))) (hnd (hnd (hlf (ok_aload_n dX10_days_11 rfl rfl)) (hnd (hlf (ok_getf (C := RX10) (T := TX10) dX10_days_12 rfl rfl (by decide) rfl inX10 wd_289 rfl)) (hlf (ok_getfN (C := RX0) (T := TX0) dX10_days_15 rfl rfl (by decide) rfl inX0 wd_154 rfl)))) (hnd (hnd (hlf (ok_iload_n dX10_days_18 rfl rfl)) (hlf (ok_iadd dX10_days_19 rfl))) (hnd (hlf (ok_sipush dX10_days_20 (by decide) rfl)) (hlf (ok_icmp_le dX10_days_23 (by decide) rfl)))))) (hnd (hnd (hnd (hlf (ok_ldc dX10_days_26 wd_320 rfl)) (hnd (hlf (ok_iret dX10_days_28)) (hlf (ok_aload_n dX10_days_29 rfl rfl)))) (hnd (hlf (ok_getf (C := RX10) (T := TX10) dX10_days_30 rfl rfl (by decide) rfl inX10 wd_289 rfl)) (hnd (hlf (ok_dup dX10_days_33 rfl)) (hlf (ok_getfN (C := RX0) (T := TX0) dX10_days_34 rfl rfl (by decide) rfl inX0 wd_154 rfl))))) (hnd (hnd (hlf (ok_iload_n dX10_days_37 rfl rfl)) (hnd (hlf (ok_iadd dX10_days_38 rfl)) (hlf (ok_putfN (C := RX0) (T := TX0) dX10_days_39 rfl rfl (by decide) rfl inX0 tyX0_ok nmX0 rfl rfl (fun _ _ => rfl) wd_154 rfl)))) (hnd (hnd (hlf (ok_aload_n dX10_days_42 rfl rfl)) (hlf (ok_getf (C := RX10) (T := TX10) dX10_days_43 rfl rfl (by decide) rfl inX10 wd_289 rfl))) (hnd (hlf (ok_getfN (C := RX0) (T := TX0) dX10_days_46 rfl rfl (by decide) rfl inX0 wd_154 rfl)) (hlf (ok_iret dX10_days_49))))))

noncomputable def sp_X10_days : HSp := fun as w σ K => wp ins_X10_days (fun _ => none) K 80 0 (loc0 2 as) [] w σ
theorem vc_X10_days : MVC ins_X10_days 2 2 sp_X10_days := mvc0 80 fun _ _ _ _ _ h => h
theorem ct_X10_days : Ctr yX10_days cX10_days 2 (some .int) 1 0 0 2 sp_X10_days := ctr_of (by decide +kernel) rfl (by decide) ok_X10_days vc_X10_days

theorem dX10_hall_0 : decode cX10_hall 0 = .ok (.iload_n 1, 1) := by decide +kernel
theorem dX10_hall_1 : decode cX10_hall 1 = .ok (.sipush 401, 3) := by decide +kernel
theorem dX10_hall_4 : decode cX10_hall 4 = .ok (.invokestatic 75, 3) := by decide +kernel
theorem dX10_hall_7 : decode cX10_hall 7 = .ok (.ifCond .eq 20, 3) := by decide +kernel
theorem dX10_hall_10 : decode cX10_hall 10 = .ok (.iload_n 2, 1) := by decide +kernel
theorem dX10_hall_11 : decode cX10_hall 11 = .ok (.bipush 12, 2) := by decide +kernel
theorem dX10_hall_13 : decode cX10_hall 13 = .ok (.invokestatic 75, 3) := by decide +kernel
theorem dX10_hall_16 : decode cX10_hall 16 = .ok (.ifCond .eq 11, 3) := by decide +kernel
theorem dX10_hall_19 : decode cX10_hall 19 = .ok (.iload_n 3, 1) := by decide +kernel
theorem dX10_hall_20 : decode cX10_hall 20 = .ok (.iconst 2, 1) := by decide +kernel
theorem dX10_hall_21 : decode cX10_hall 21 = .ok (.invokestatic 75, 3) := by decide +kernel
theorem dX10_hall_24 : decode cX10_hall 24 = .ok (.ifCond .ne 6, 3) := by decide +kernel
theorem dX10_hall_27 : decode cX10_hall 27 = .ok (.ldc 79, 2) := by decide +kernel
theorem dX10_hall_29 : decode cX10_hall 29 = .ok (.ireturn, 1) := by decide +kernel
theorem dX10_hall_30 : decode cX10_hall 30 = .ok (.aload_n 0, 1) := by decide +kernel
theorem dX10_hall_31 : decode cX10_hall 31 = .ok (.getfield 41, 3) := by decide +kernel
theorem dX10_hall_34 : decode cX10_hall 34 = .ok (.iload_n 1, 1) := by decide +kernel
theorem dX10_hall_35 : decode cX10_hall 35 = .ok (.iload_n 2, 1) := by decide +kernel
theorem dX10_hall_36 : decode cX10_hall 36 = .ok (.invokevirtual 249, 3) := by decide +kernel
theorem dX10_hall_39 : decode cX10_hall 39 = .ok (.istore 4, 2) := by decide +kernel
theorem dX10_hall_41 : decode cX10_hall 41 = .ok (.iload_n 3, 1) := by decide +kernel
theorem dX10_hall_42 : decode cX10_hall 42 = .ok (.ifCond .ne 8, 3) := by decide +kernel
theorem dX10_hall_45 : decode cX10_hall 45 = .ok (.iload 4, 2) := by decide +kernel
theorem dX10_hall_47 : decode cX10_hall 47 = .ok (.goto 18, 3) := by decide +kernel
theorem dX10_hall_50 : decode cX10_hall 50 = .ok (.iconst 0, 1) := by decide +kernel
theorem dX10_hall_51 : decode cX10_hall 51 = .ok (.aload_n 0, 1) := by decide +kernel
theorem dX10_hall_52 : decode cX10_hall 52 = .ok (.getfield 57, 3) := by decide +kernel
theorem dX10_hall_55 : decode cX10_hall 55 = .ok (.iload_n 1, 1) := by decide +kernel
theorem dX10_hall_56 : decode cX10_hall 56 = .ok (.invokevirtual 252, 3) := by decide +kernel
theorem dX10_hall_59 : decode cX10_hall 59 = .ok (.iload 4, 2) := by decide +kernel
theorem dX10_hall_61 : decode cX10_hall 61 = .ok (.isub, 1) := by decide +kernel
theorem dX10_hall_62 : decode cX10_hall 62 = .ok (.invokestatic 255, 3) := by decide +kernel
theorem dX10_hall_65 : decode cX10_hall 65 = .ok (.ireturn, 1) := by decide +kernel
def ins_X10_hall (pc : Nat) : HOp := cond (Nat.blt pc 34) (cond (Nat.blt pc 19) (cond (Nat.blt pc 10) (cond (Nat.blt pc 4) (cond (Nat.blt pc 1) (cond (Nat.beq pc 0) (o_iload 1 1) o_bad) (cond (Nat.beq pc 1) (o_const (401) 4) o_bad)) (cond (Nat.blt pc 7) (cond (Nat.beq pc 4) (o_callS 2 sp_X10_isBelow 7) o_bad) (cond (Nat.beq pc 7) (o_if (fun x => x = 0) 27 10) o_bad))) (cond (Nat.blt pc 13) (cond (Nat.blt pc 11) (cond (Nat.beq pc 10) (o_iload 2 11) o_bad) (cond (Nat.beq pc 11) (o_const (12) 13) o_bad)) (cond (Nat.blt pc 16) (cond (Nat.beq pc 13) (o_callS 2 sp_X10_isBelow 16) o_bad) (cond (Nat.beq pc 16) (o_if (fun x => x = 0) 27 19) o_bad)))) (cond (Nat.blt pc 27) (cond (Nat.blt pc 21) (cond (Nat.blt pc 20) (cond (Nat.beq pc 19) (o_iload 3 20) o_bad) (cond (Nat.beq pc 20) (o_const (2) 21) o_bad)) (cond (Nat.blt pc 24) (cond (Nat.beq pc 21) (o_callS 2 sp_X10_isBelow 24) o_bad) (cond (Nat.beq pc 24) (o_if (fun x => x = 0) 27 30) o_bad))) (cond (Nat.blt pc 30) (cond (Nat.blt pc 29) (cond (Nat.beq pc 27) (o_const (-1000000001) 29) o_bad) (cond (Nat.beq pc 29) (o_iret) o_bad)) (cond (Nat.blt pc 31) (cond (Nat.beq pc 30) (o_aload 0 31) o_bad) (cond (Nat.beq pc 31) (o_getf 10 4 34) o_bad))))) (cond (Nat.blt pc 50) (cond (Nat.blt pc 41) (cond (Nat.blt pc 36) (cond (Nat.blt pc 35) (cond (Nat.beq pc 34) (o_iload 1 35) o_bad) (cond (Nat.beq pc 35) (o_iload 2 36) o_bad)) (cond (Nat.blt pc 39) (cond (Nat.beq pc 36) (o_callV 3 0 sp_X0_letAt 39) o_bad) (cond (Nat.beq pc 39) (o_istore 4 41) o_bad))) (cond (Nat.blt pc 45) (cond (Nat.blt pc 42) (cond (Nat.beq pc 41) (o_iload 3 42) o_bad) (cond (Nat.beq pc 42) (o_if (fun x => x = 0) 45 50) o_bad)) (cond (Nat.blt pc 47) (cond (Nat.beq pc 45) (o_iload 4 47) o_bad) (cond (Nat.beq pc 47) (o_goto 65) o_bad)))) (cond (Nat.blt pc 56) (cond (Nat.blt pc 52) (cond (Nat.blt pc 51) (cond (Nat.beq pc 50) (o_const (0) 51) o_bad) (cond (Nat.beq pc 51) (o_aload 0 52) o_bad)) (cond (Nat.blt pc 55) (cond (Nat.beq pc 52) (o_getf 10 6 55) o_bad) (cond (Nat.beq pc 55) (o_iload 1 56) o_bad))) (cond (Nat.blt pc 61) (cond (Nat.blt pc 59) (cond (Nat.beq pc 56) (o_callV 2 1 sp_X1_tablesOn 59) o_bad) (cond (Nat.beq pc 59) (o_iload 4 61) o_bad)) (cond (Nat.blt pc 62) (cond (Nat.beq pc 61) (o_bin (fun x y => x - y) 62) o_bad) (cond (Nat.blt pc 65) (cond (Nat.beq pc 62) (o_max 65) o_bad) (cond (Nat.beq pc 65) (o_iret) o_bad))))))
set_option maxRecDepth 20000 in
theorem ok_X10_hall : HOKs cX10_hall RX10 5 (some .int) 4 ins_X10_hall := fun _ => hnd (hnd (hnd (hnd (hnd (hlf (ok_iload_n dX10_hall_0 rfl rfl)) (hlf (ok_sipush dX10_hall_1 (by decide) rfl))) (hnd (hlf (ok_callS (y := yX10_isBelow) dX10_hall_4 ct_X10_isBelow (by decide) (by decide) wd_319 wd_317 wd_318 wd_41 (by decide +kernel) rfl)) (hlf (ok_if_eq dX10_hall_7 (by decide) rfl)))) (hnd (hnd (hlf (ok_iload_n dX10_hall_10 rfl rfl)) (hlf (ok_bipush dX10_hall_11 (by decide) rfl))) (hnd (hlf (ok_callS (y := yX10_isBelow) dX10_hall_13 ct_X10_isBelow (by decide) (by decide) wd_319 wd_317 wd_318 wd_41 (by decide +kernel) rfl)) (hlf (ok_if_eq dX10_hall_16 (by decide) rfl))))) (hnd (hnd (hnd (hlf (ok_iload_n dX10_hall_19 rfl rfl)) (hlf (ok_iconst dX10_hall_20 (by decide) rfl))) (hnd (hlf (ok_callS (y := yX10_isBelow) dX10_hall_21 ct_X10_isBelow (by decide) (by decide) wd_319 wd_317 wd_318 wd_41 (by decide +kernel) rfl)) (hlf (ok_if_ne dX10_hall_24 (by decide) rfl)))) (hnd (hnd (hlf (ok_ldc dX10_hall_27 wd_320 rfl)) (hlf (ok_iret dX10_hall_29))) (hnd (hlf (ok_aload_n dX10_hall_30 rfl rfl)) (hlf (ok_getf (C := RX10) (T := TX10) dX10_hall_31 rfl rfl (by decide) rfl inX10 wd_289 rfl)))))) (hnd (hnd (hnd (hnd (hlf (ok_iload_n dX10_hall_34 rfl rfl)) (hlf (ok_iload_n dX10_hall_35 rfl rfl))) (hnd (hlf (ok_callV (y := yX0_letAt) (n' := 2) (C := RX0) (T := TX0) dX10_hall_36 ct_X0_letAt (by decide) (by decide) wd_504 wd_791 wd_502 wd_503 wd_45 rfl (by decide +kernel) rfl rfl rfl)) (hlf (ok_istore dX10_hall_39 (by decide) rfl)))) (hnd (hnd (hlf (ok_iload_n dX10_hall_41 rfl rfl)) (hlf (ok_if_ne dX10_hall_42 (by decide) rfl))) (hnd (hlf (ok_iload dX10_hall_45 rfl)) (hlf (ok_goto dX10_hall_47 (by decide)))))) (hnd (hnd (hnd (hlf (ok_iconst dX10_hall_50 (by decide) rfl)) (hlf (ok_aload_n dX10_hall_51 rfl rfl))) (hnd (hlf (ok_getf (C := RX10) (T := TX10) dX10_hall_52 rfl rfl (by decide) rfl inX10 wd_291 rfl)) (hlf (ok_iload_n dX10_hall_55 rfl rfl)))) (hnd (hnd (hlf (ok_callV (y := yX1_tablesOn) (n' := 1) (C := RX1) (T := TX1) dX10_hall_56 ct_X1_tablesOn (by decide) (by decide) wd_495 wd_792 wd_493 wd_494 wd_47 rfl (by decide +kernel) rfl rfl rfl)) (hlf (ok_iload dX10_hall_59 rfl))) (hnd (hlf (ok_isub dX10_hall_61 rfl)) (hnd (hlf (ok_max dX10_hall_62 wd_793 wd_461 wd_53 wd_462 (by decide) rfl)) (hlf (ok_iret dX10_hall_65)))))))

noncomputable def sp_X10_hall : HSp := fun as w σ K => wp ins_X10_hall (fun _ => none) K 80 0 (loc0 5 as) [] w σ
theorem vc_X10_hall : MVC ins_X10_hall 5 4 sp_X10_hall := mvc0 80 fun _ _ _ _ _ h => h
theorem ct_X10_hall : Ctr yX10_hall cX10_hall 5 (some .int) 4 0 0 4 sp_X10_hall := ctr_of (by decide +kernel) rfl (by decide) ok_X10_hall vc_X10_hall

theorem dX10_sheet_0 : decode cX10_sheet 0 = .ok (.iload_n 1, 1) := by decide +kernel
theorem dX10_sheet_1 : decode cX10_sheet 1 = .ok (.iconst 2, 1) := by decide +kernel
theorem dX10_sheet_2 : decode cX10_sheet 2 = .ok (.invokestatic 75, 3) := by decide +kernel
theorem dX10_sheet_5 : decode cX10_sheet 5 = .ok (.ifCond .eq 9, 3) := by decide +kernel
theorem dX10_sheet_8 : decode cX10_sheet 8 = .ok (.iload_n 2, 1) := by decide +kernel
theorem dX10_sheet_9 : decode cX10_sheet 9 = .ok (.bipush 60, 2) := by decide +kernel
theorem dX10_sheet_11 : decode cX10_sheet 11 = .ok (.if_icmp .le 6, 3) := by decide +kernel
theorem dX10_sheet_14 : decode cX10_sheet 14 = .ok (.ldc 79, 2) := by decide +kernel
theorem dX10_sheet_16 : decode cX10_sheet 16 = .ok (.ireturn, 1) := by decide +kernel
theorem dX10_sheet_17 : decode cX10_sheet 17 = .ok (.iload_n 2, 1) := by decide +kernel
theorem dX10_sheet_18 : decode cX10_sheet 18 = .ok (.ifCond .ge 7, 3) := by decide +kernel
theorem dX10_sheet_21 : decode cX10_sheet 21 = .ok (.ldc_w 270, 3) := by decide +kernel
theorem dX10_sheet_24 : decode cX10_sheet 24 = .ok (.ireturn, 1) := by decide +kernel
theorem dX10_sheet_25 : decode cX10_sheet 25 = .ok (.aload_n 0, 1) := by decide +kernel
theorem dX10_sheet_26 : decode cX10_sheet 26 = .ok (.getfield 47, 3) := by decide +kernel
theorem dX10_sheet_29 : decode cX10_sheet 29 = .ok (.iload_n 1, 1) := by decide +kernel
theorem dX10_sheet_30 : decode cX10_sheet 30 = .ok (.aaload, 1) := by decide +kernel
theorem dX10_sheet_31 : decode cX10_sheet 31 = .ok (.iload_n 2, 1) := by decide +kernel
theorem dX10_sheet_32 : decode cX10_sheet 32 = .ok (.invokevirtual 271, 3) := by decide +kernel
theorem dX10_sheet_35 : decode cX10_sheet 35 = .ok (.iload_n 2, 1) := by decide +kernel
theorem dX10_sheet_36 : decode cX10_sheet 36 = .ok (.ireturn, 1) := by decide +kernel
def ins_X10_sheet (pc : Nat) : HOp := cond (Nat.blt pc 18) (cond (Nat.blt pc 9) (cond (Nat.blt pc 2) (cond (Nat.blt pc 1) (cond (Nat.beq pc 0) (o_iload 1 1) o_bad) (cond (Nat.beq pc 1) (o_const (2) 2) o_bad)) (cond (Nat.blt pc 5) (cond (Nat.beq pc 2) (o_callS 2 sp_X10_isBelow 5) o_bad) (cond (Nat.blt pc 8) (cond (Nat.beq pc 5) (o_if (fun x => x = 0) 14 8) o_bad) (cond (Nat.beq pc 8) (o_iload 2 9) o_bad)))) (cond (Nat.blt pc 14) (cond (Nat.blt pc 11) (cond (Nat.beq pc 9) (o_const (60) 11) o_bad) (cond (Nat.beq pc 11) (o_icmp (fun x y => x ≤ y) 17 14) o_bad)) (cond (Nat.blt pc 16) (cond (Nat.beq pc 14) (o_const (-1000000001) 16) o_bad) (cond (Nat.blt pc 17) (cond (Nat.beq pc 16) (o_iret) o_bad) (cond (Nat.beq pc 17) (o_iload 2 18) o_bad))))) (cond (Nat.blt pc 29) (cond (Nat.blt pc 24) (cond (Nat.blt pc 21) (cond (Nat.beq pc 18) (o_if (fun x => 0 ≤ x) 25 21) o_bad) (cond (Nat.beq pc 21) (o_const (-1000000014) 24) o_bad)) (cond (Nat.blt pc 25) (cond (Nat.beq pc 24) (o_iret) o_bad) (cond (Nat.blt pc 26) (cond (Nat.beq pc 25) (o_aload 0 26) o_bad) (cond (Nat.beq pc 26) (o_getf 10 5 29) o_bad)))) (cond (Nat.blt pc 32) (cond (Nat.blt pc 30) (cond (Nat.beq pc 29) (o_iload 1 30) o_bad) (cond (Nat.blt pc 31) (cond (Nat.beq pc 30) (o_aald 31) o_bad) (cond (Nat.beq pc 31) (o_iload 2 32) o_bad))) (cond (Nat.blt pc 35) (cond (Nat.beq pc 32) (o_callV 2 7 sp_X7_clear 35) o_bad) (cond (Nat.blt pc 36) (cond (Nat.beq pc 35) (o_iload 2 36) o_bad) (cond (Nat.beq pc 36) (o_iret) o_bad)))))
set_option maxRecDepth 20000 in
theorem ok_X10_sheet : HOKs cX10_sheet RX10 3 (some .int) 3 ins_X10_sheet := fun _ => hnd (hnd (hnd (hnd (hlf (ok_iload_n dX10_sheet_0 rfl rfl)) (hlf (ok_iconst dX10_sheet_1 (by decide) rfl))) (hnd (hlf (ok_callS (y := yX10_isBelow) dX10_sheet_2 ct_X10_isBelow (by decide) (by decide) wd_319 wd_317 wd_318 wd_41 (by decide +kernel) rfl)) (hnd (hlf (ok_if_eq dX10_sheet_5 (by decide) rfl)) (hlf (ok_iload_n dX10_sheet_8 rfl rfl))))) (hnd (hnd (hlf (ok_bipush dX10_sheet_9 (by decide) rfl)) (hlf (ok_icmp_le dX10_sheet_11 (by decide) rfl))) (hnd (hlf (ok_ldc dX10_sheet_14 wd_320 rfl)) (hnd (hlf (ok_iret dX10_sheet_16)) (hlf (ok_iload_n dX10_sheet_17 rfl rfl)))))) (hnd (hnd (hnd (hlf (ok_if_ge dX10_sheet_18 (by decide) rfl)) (hlf (ok_ldcw dX10_sheet_21 wd_813 rfl))) (hnd (hlf (ok_iret dX10_sheet_24)) (hnd (hlf (ok_aload_n dX10_sheet_25 rfl rfl)) (hlf (ok_getf (C := RX10) (T := TX10) dX10_sheet_26 rfl rfl (by decide) rfl inX10 wd_290 rfl))))) (hnd (hnd (hlf (ok_iload_n dX10_sheet_29 rfl rfl)) (hnd (hlf (ok_aald dX10_sheet_30 rfl)) (hlf (ok_iload_n dX10_sheet_31 rfl rfl)))) (hnd (hlf (ok_callV (y := yX7_clear) (n' := 1) (C := RX7) (T := TX7) dX10_sheet_32 ct_X7_clear (by decide) (by decide) wd_817 wd_814 wd_815 wd_816 wd_46 rfl (by decide +kernel) rfl rfl rfl)) (hnd (hlf (ok_iload_n dX10_sheet_35 rfl rfl)) (hlf (ok_iret dX10_sheet_36))))))

noncomputable def sp_X10_sheet : HSp := fun as w σ K => wp ins_X10_sheet (fun _ => none) K 80 0 (loc0 3 as) [] w σ
theorem vc_X10_sheet : MVC ins_X10_sheet 3 3 sp_X10_sheet := mvc0 80 fun _ _ _ _ _ h => h
theorem ct_X10_sheet : Ctr yX10_sheet cX10_sheet 3 (some .int) 3 0 0 3 sp_X10_sheet := ctr_of (by decide +kernel) rfl (by decide) ok_X10_sheet vc_X10_sheet

theorem dX10_mark_0 : decode cX10_mark 0 = .ok (.iload_n 1, 1) := by decide +kernel
theorem dX10_mark_1 : decode cX10_mark 1 = .ok (.iconst 2, 1) := by decide +kernel
theorem dX10_mark_2 : decode cX10_mark 2 = .ok (.invokestatic 75, 3) := by decide +kernel
theorem dX10_mark_5 : decode cX10_mark 5 = .ok (.ifCond .ne 6, 3) := by decide +kernel
theorem dX10_mark_8 : decode cX10_mark 8 = .ok (.ldc 79, 2) := by decide +kernel
theorem dX10_mark_10 : decode cX10_mark 10 = .ok (.ireturn, 1) := by decide +kernel
theorem dX10_mark_11 : decode cX10_mark 11 = .ok (.aload_n 0, 1) := by decide +kernel
theorem dX10_mark_12 : decode cX10_mark 12 = .ok (.getfield 47, 3) := by decide +kernel
theorem dX10_mark_15 : decode cX10_mark 15 = .ok (.iload_n 1, 1) := by decide +kernel
theorem dX10_mark_16 : decode cX10_mark 16 = .ok (.aaload, 1) := by decide +kernel
theorem dX10_mark_17 : decode cX10_mark 17 = .ok (.astore 4, 2) := by decide +kernel
theorem dX10_mark_19 : decode cX10_mark 19 = .ok (.aload 4, 2) := by decide +kernel
theorem dX10_mark_21 : decode cX10_mark 21 = .ok (.invokevirtual 274, 3) := by decide +kernel
theorem dX10_mark_24 : decode cX10_mark 24 = .ok (.ifCond .eq 7, 3) := by decide +kernel
theorem dX10_mark_27 : decode cX10_mark 27 = .ok (.ldc_w 277, 3) := by decide +kernel
theorem dX10_mark_30 : decode cX10_mark 30 = .ok (.ireturn, 1) := by decide +kernel
theorem dX10_mark_31 : decode cX10_mark 31 = .ok (.aload 4, 2) := by decide +kernel
theorem dX10_mark_33 : decode cX10_mark 33 = .ok (.iload_n 2, 1) := by decide +kernel
theorem dX10_mark_34 : decode cX10_mark 34 = .ok (.invokevirtual 278, 3) := by decide +kernel
theorem dX10_mark_37 : decode cX10_mark 37 = .ok (.ifCond .ne 7, 3) := by decide +kernel
theorem dX10_mark_40 : decode cX10_mark 40 = .ok (.ldc_w 281, 3) := by decide +kernel
theorem dX10_mark_43 : decode cX10_mark 43 = .ok (.ireturn, 1) := by decide +kernel
theorem dX10_mark_44 : decode cX10_mark 44 = .ok (.aload 4, 2) := by decide +kernel
theorem dX10_mark_46 : decode cX10_mark 46 = .ok (.getfield 282, 3) := by decide +kernel
theorem dX10_mark_49 : decode cX10_mark 49 = .ok (.iload_n 2, 1) := by decide +kernel
theorem dX10_mark_50 : decode cX10_mark 50 = .ok (.baload, 1) := by decide +kernel
theorem dX10_mark_51 : decode cX10_mark 51 = .ok (.istore 5, 2) := by decide +kernel
theorem dX10_mark_53 : decode cX10_mark 53 = .ok (.aload 4, 2) := by decide +kernel
theorem dX10_mark_55 : decode cX10_mark 55 = .ok (.getfield 282, 3) := by decide +kernel
theorem dX10_mark_58 : decode cX10_mark 58 = .ok (.iload_n 2, 1) := by decide +kernel
theorem dX10_mark_59 : decode cX10_mark 59 = .ok (.iload_n 3, 1) := by decide +kernel
theorem dX10_mark_60 : decode cX10_mark 60 = .ok (.i2b, 1) := by decide +kernel
theorem dX10_mark_61 : decode cX10_mark 61 = .ok (.bastore, 1) := by decide +kernel
theorem dX10_mark_62 : decode cX10_mark 62 = .ok (.iload 5, 2) := by decide +kernel
theorem dX10_mark_64 : decode cX10_mark 64 = .ok (.ireturn, 1) := by decide +kernel
def ins_X10_mark (pc : Nat) : HOp := cond (Nat.blt pc 33) (cond (Nat.blt pc 15) (cond (Nat.blt pc 8) (cond (Nat.blt pc 2) (cond (Nat.blt pc 1) (cond (Nat.beq pc 0) (o_iload 1 1) o_bad) (cond (Nat.beq pc 1) (o_const (2) 2) o_bad)) (cond (Nat.blt pc 5) (cond (Nat.beq pc 2) (o_callS 2 sp_X10_isBelow 5) o_bad) (cond (Nat.beq pc 5) (o_if (fun x => x = 0) 8 11) o_bad))) (cond (Nat.blt pc 11) (cond (Nat.blt pc 10) (cond (Nat.beq pc 8) (o_const (-1000000001) 10) o_bad) (cond (Nat.beq pc 10) (o_iret) o_bad)) (cond (Nat.blt pc 12) (cond (Nat.beq pc 11) (o_aload 0 12) o_bad) (cond (Nat.beq pc 12) (o_getf 10 5 15) o_bad)))) (cond (Nat.blt pc 21) (cond (Nat.blt pc 17) (cond (Nat.blt pc 16) (cond (Nat.beq pc 15) (o_iload 1 16) o_bad) (cond (Nat.beq pc 16) (o_aald 17) o_bad)) (cond (Nat.blt pc 19) (cond (Nat.beq pc 17) (o_astore 4 19) o_bad) (cond (Nat.beq pc 19) (o_aload 4 21) o_bad))) (cond (Nat.blt pc 27) (cond (Nat.blt pc 24) (cond (Nat.beq pc 21) (o_callV 1 7 sp_X7_isMissing 24) o_bad) (cond (Nat.beq pc 24) (o_if (fun x => x = 0) 31 27) o_bad)) (cond (Nat.blt pc 30) (cond (Nat.beq pc 27) (o_const (-1000000011) 30) o_bad) (cond (Nat.blt pc 31) (cond (Nat.beq pc 30) (o_iret) o_bad) (cond (Nat.beq pc 31) (o_aload 4 33) o_bad)))))) (cond (Nat.blt pc 51) (cond (Nat.blt pc 43) (cond (Nat.blt pc 37) (cond (Nat.blt pc 34) (cond (Nat.beq pc 33) (o_iload 2 34) o_bad) (cond (Nat.beq pc 34) (o_callV 2 7 sp_X7_has 37) o_bad)) (cond (Nat.blt pc 40) (cond (Nat.beq pc 37) (o_if (fun x => x = 0) 40 44) o_bad) (cond (Nat.beq pc 40) (o_const (-1000000013) 43) o_bad))) (cond (Nat.blt pc 46) (cond (Nat.blt pc 44) (cond (Nat.beq pc 43) (o_iret) o_bad) (cond (Nat.beq pc 44) (o_aload 4 46) o_bad)) (cond (Nat.blt pc 49) (cond (Nat.beq pc 46) (o_getf 7 0 49) o_bad) (cond (Nat.blt pc 50) (cond (Nat.beq pc 49) (o_iload 2 50) o_bad) (cond (Nat.beq pc 50) (o_bald 51) o_bad))))) (cond (Nat.blt pc 59) (cond (Nat.blt pc 55) (cond (Nat.blt pc 53) (cond (Nat.beq pc 51) (o_istore 5 53) o_bad) (cond (Nat.beq pc 53) (o_aload 4 55) o_bad)) (cond (Nat.blt pc 58) (cond (Nat.beq pc 55) (o_getf 7 0 58) o_bad) (cond (Nat.beq pc 58) (o_iload 2 59) o_bad))) (cond (Nat.blt pc 61) (cond (Nat.blt pc 60) (cond (Nat.beq pc 59) (o_iload 3 60) o_bad) (cond (Nat.beq pc 60) (o_un (fun x => x.toInt8.toInt32) 61) o_bad)) (cond (Nat.blt pc 62) (cond (Nat.beq pc 61) (o_bast 62) o_bad) (cond (Nat.blt pc 64) (cond (Nat.beq pc 62) (o_iload 5 64) o_bad) (cond (Nat.beq pc 64) (o_iret) o_bad))))))
set_option maxRecDepth 20000 in
theorem ok_X10_mark : HOKs cX10_mark RX10 6 (some .int) 3 ins_X10_mark := fun _ => hnd (hnd (hnd (hnd (hnd (hlf (ok_iload_n dX10_mark_0 rfl rfl)) (hlf (ok_iconst dX10_mark_1 (by decide) rfl))) (hnd (hlf (ok_callS (y := yX10_isBelow) dX10_mark_2 ct_X10_isBelow (by decide) (by decide) wd_319 wd_317 wd_318 wd_41 (by decide +kernel) rfl)) (hlf (ok_if_ne dX10_mark_5 (by decide) rfl)))) (hnd (hnd (hlf (ok_ldc dX10_mark_8 wd_320 rfl)) (hlf (ok_iret dX10_mark_10))) (hnd (hlf (ok_aload_n dX10_mark_11 rfl rfl)) (hlf (ok_getf (C := RX10) (T := TX10) dX10_mark_12 rfl rfl (by decide) rfl inX10 wd_290 rfl))))) (hnd (hnd (hnd (hlf (ok_iload_n dX10_mark_15 rfl rfl)) (hlf (ok_aald dX10_mark_16 rfl))) (hnd (hlf (ok_astore dX10_mark_17 (by decide) rfl)) (hlf (ok_aload dX10_mark_19 rfl)))) (hnd (hnd (hlf (ok_callV (y := yX7_isMissing) (n' := 0) (C := RX7) (T := TX7) dX10_mark_21 ct_X7_isMissing (by decide) (by decide) wd_828 wd_825 wd_826 wd_827 wd_46 rfl (by decide +kernel) rfl rfl rfl)) (hlf (ok_if_eq dX10_mark_24 (by decide) rfl))) (hnd (hlf (ok_ldcw dX10_mark_27 wd_829 rfl)) (hnd (hlf (ok_iret dX10_mark_30)) (hlf (ok_aload dX10_mark_31 rfl))))))) (hnd (hnd (hnd (hnd (hlf (ok_iload_n dX10_mark_33 rfl rfl)) (hlf (ok_callV (y := yX7_has) (n' := 1) (C := RX7) (T := TX7) dX10_mark_34 ct_X7_has (by decide) (by decide) wd_499 wd_830 wd_497 wd_498 wd_46 rfl (by decide +kernel) rfl rfl rfl))) (hnd (hlf (ok_if_ne dX10_mark_37 (by decide) rfl)) (hlf (ok_ldcw dX10_mark_40 wd_831 rfl)))) (hnd (hnd (hlf (ok_iret dX10_mark_43)) (hlf (ok_aload dX10_mark_44 rfl))) (hnd (hlf (ok_getfN (C := RX7) (T := TX7) dX10_mark_46 rfl rfl (by decide) rfl inX7 wd_171 rfl)) (hnd (hlf (ok_iload_n dX10_mark_49 rfl rfl)) (hlf (ok_bald dX10_mark_50 rfl)))))) (hnd (hnd (hnd (hlf (ok_istore dX10_mark_51 (by decide) rfl)) (hlf (ok_aload dX10_mark_53 rfl))) (hnd (hlf (ok_getfN (C := RX7) (T := TX7) dX10_mark_55 rfl rfl (by decide) rfl inX7 wd_171 rfl)) (hlf (ok_iload_n dX10_mark_58 rfl rfl)))) (hnd (hnd (hlf (ok_iload_n dX10_mark_59 rfl rfl)) (hlf (ok_i2b dX10_mark_60 rfl))) (hnd (hlf (ok_bast dX10_mark_61 rfl)) (hnd (hlf (ok_iload dX10_mark_62 rfl)) (hlf (ok_iret dX10_mark_64)))))))

noncomputable def sp_X10_mark : HSp := fun as w σ K => wp ins_X10_mark (fun _ => none) K 80 0 (loc0 6 as) [] w σ
theorem vc_X10_mark : MVC ins_X10_mark 6 4 sp_X10_mark := mvc0 80 fun _ _ _ _ _ h => h
theorem ct_X10_mark : Ctr yX10_mark cX10_mark 6 (some .int) 3 0 0 4 sp_X10_mark := ctr_of (by decide +kernel) rfl (by decide) ok_X10_mark vc_X10_mark

theorem dX10_lose_0 : decode cX10_lose 0 = .ok (.iload_n 1, 1) := by decide +kernel
theorem dX10_lose_1 : decode cX10_lose 1 = .ok (.iconst 2, 1) := by decide +kernel
theorem dX10_lose_2 : decode cX10_lose 2 = .ok (.invokestatic 75, 3) := by decide +kernel
theorem dX10_lose_5 : decode cX10_lose 5 = .ok (.ifCond .ne 6, 3) := by decide +kernel
theorem dX10_lose_8 : decode cX10_lose 8 = .ok (.ldc 79, 2) := by decide +kernel
theorem dX10_lose_10 : decode cX10_lose 10 = .ok (.ireturn, 1) := by decide +kernel
theorem dX10_lose_11 : decode cX10_lose 11 = .ok (.aload_n 0, 1) := by decide +kernel
theorem dX10_lose_12 : decode cX10_lose 12 = .ok (.getfield 47, 3) := by decide +kernel
theorem dX10_lose_15 : decode cX10_lose 15 = .ok (.iload_n 1, 1) := by decide +kernel
theorem dX10_lose_16 : decode cX10_lose 16 = .ok (.aaload, 1) := by decide +kernel
theorem dX10_lose_17 : decode cX10_lose 17 = .ok (.astore_n 2, 1) := by decide +kernel
theorem dX10_lose_18 : decode cX10_lose 18 = .ok (.aload_n 2, 1) := by decide +kernel
theorem dX10_lose_19 : decode cX10_lose 19 = .ok (.invokevirtual 274, 3) := by decide +kernel
theorem dX10_lose_22 : decode cX10_lose 22 = .ok (.ifCond .eq 7, 3) := by decide +kernel
theorem dX10_lose_25 : decode cX10_lose 25 = .ok (.ldc_w 277, 3) := by decide +kernel
theorem dX10_lose_28 : decode cX10_lose 28 = .ok (.ireturn, 1) := by decide +kernel
theorem dX10_lose_29 : decode cX10_lose 29 = .ok (.aload_n 2, 1) := by decide +kernel
theorem dX10_lose_30 : decode cX10_lose 30 = .ok (.getfield 295, 3) := by decide +kernel
theorem dX10_lose_33 : decode cX10_lose 33 = .ok (.istore_n 3, 1) := by decide +kernel
theorem dX10_lose_34 : decode cX10_lose 34 = .ok (.aload_n 2, 1) := by decide +kernel
theorem dX10_lose_35 : decode cX10_lose 35 = .ok (.iconst (-1), 1) := by decide +kernel
theorem dX10_lose_36 : decode cX10_lose 36 = .ok (.putfield 295, 3) := by decide +kernel
theorem dX10_lose_39 : decode cX10_lose 39 = .ok (.iload_n 3, 1) := by decide +kernel
theorem dX10_lose_40 : decode cX10_lose 40 = .ok (.ireturn, 1) := by decide +kernel
def ins_X10_lose (pc : Nat) : HOp := cond (Nat.blt pc 19) (cond (Nat.blt pc 11) (cond (Nat.blt pc 5) (cond (Nat.blt pc 1) (cond (Nat.beq pc 0) (o_iload 1 1) o_bad) (cond (Nat.blt pc 2) (cond (Nat.beq pc 1) (o_const (2) 2) o_bad) (cond (Nat.beq pc 2) (o_callS 2 sp_X10_isBelow 5) o_bad))) (cond (Nat.blt pc 8) (cond (Nat.beq pc 5) (o_if (fun x => x = 0) 8 11) o_bad) (cond (Nat.blt pc 10) (cond (Nat.beq pc 8) (o_const (-1000000001) 10) o_bad) (cond (Nat.beq pc 10) (o_iret) o_bad)))) (cond (Nat.blt pc 16) (cond (Nat.blt pc 12) (cond (Nat.beq pc 11) (o_aload 0 12) o_bad) (cond (Nat.blt pc 15) (cond (Nat.beq pc 12) (o_getf 10 5 15) o_bad) (cond (Nat.beq pc 15) (o_iload 1 16) o_bad))) (cond (Nat.blt pc 17) (cond (Nat.beq pc 16) (o_aald 17) o_bad) (cond (Nat.blt pc 18) (cond (Nat.beq pc 17) (o_astore 2 18) o_bad) (cond (Nat.beq pc 18) (o_aload 2 19) o_bad))))) (cond (Nat.blt pc 33) (cond (Nat.blt pc 28) (cond (Nat.blt pc 22) (cond (Nat.beq pc 19) (o_callV 1 7 sp_X7_isMissing 22) o_bad) (cond (Nat.blt pc 25) (cond (Nat.beq pc 22) (o_if (fun x => x = 0) 29 25) o_bad) (cond (Nat.beq pc 25) (o_const (-1000000011) 28) o_bad))) (cond (Nat.blt pc 29) (cond (Nat.beq pc 28) (o_iret) o_bad) (cond (Nat.blt pc 30) (cond (Nat.beq pc 29) (o_aload 2 30) o_bad) (cond (Nat.beq pc 30) (o_getf 7 1 33) o_bad)))) (cond (Nat.blt pc 36) (cond (Nat.blt pc 34) (cond (Nat.beq pc 33) (o_istore 3 34) o_bad) (cond (Nat.blt pc 35) (cond (Nat.beq pc 34) (o_aload 2 35) o_bad) (cond (Nat.beq pc 35) (o_const (-1) 36) o_bad))) (cond (Nat.blt pc 39) (cond (Nat.beq pc 36) (o_putf 7 1 39) o_bad) (cond (Nat.blt pc 40) (cond (Nat.beq pc 39) (o_iload 3 40) o_bad) (cond (Nat.beq pc 40) (o_iret) o_bad)))))
set_option maxRecDepth 20000 in
theorem ok_X10_lose : HOKs cX10_lose RX10 4 (some .int) 2 ins_X10_lose := fun _ => hnd (hnd (hnd (hnd (hlf (ok_iload_n dX10_lose_0 rfl rfl)) (hnd (hlf (ok_iconst dX10_lose_1 (by decide) rfl)) (hlf (ok_callS (y := yX10_isBelow) dX10_lose_2 ct_X10_isBelow (by decide) (by decide) wd_319 wd_317 wd_318 wd_41 (by decide +kernel) rfl)))) (hnd (hlf (ok_if_ne dX10_lose_5 (by decide) rfl)) (hnd (hlf (ok_ldc dX10_lose_8 wd_320 rfl)) (hlf (ok_iret dX10_lose_10))))) (hnd (hnd (hlf (ok_aload_n dX10_lose_11 rfl rfl)) (hnd (hlf (ok_getf (C := RX10) (T := TX10) dX10_lose_12 rfl rfl (by decide) rfl inX10 wd_290 rfl)) (hlf (ok_iload_n dX10_lose_15 rfl rfl)))) (hnd (hlf (ok_aald dX10_lose_16 rfl)) (hnd (hlf (ok_astore_n dX10_lose_17 rfl (by decide) rfl)) (hlf (ok_aload_n dX10_lose_18 rfl rfl)))))) (hnd (hnd (hnd (hlf (ok_callV (y := yX7_isMissing) (n' := 0) (C := RX7) (T := TX7) dX10_lose_19 ct_X7_isMissing (by decide) (by decide) wd_828 wd_825 wd_826 wd_827 wd_46 rfl (by decide +kernel) rfl rfl rfl)) (hnd (hlf (ok_if_eq dX10_lose_22 (by decide) rfl)) (hlf (ok_ldcw dX10_lose_25 wd_829 rfl)))) (hnd (hlf (ok_iret dX10_lose_28)) (hnd (hlf (ok_aload_n dX10_lose_29 rfl rfl)) (hlf (ok_getfN (C := RX7) (T := TX7) dX10_lose_30 rfl rfl (by decide) rfl inX7 wd_173 rfl))))) (hnd (hnd (hlf (ok_istore_n dX10_lose_33 rfl (by decide) rfl)) (hnd (hlf (ok_aload_n dX10_lose_34 rfl rfl)) (hlf (ok_iconst dX10_lose_35 (by decide) rfl)))) (hnd (hlf (ok_putfN (C := RX7) (T := TX7) dX10_lose_36 rfl rfl (by decide) rfl inX7 tyX7_ok nmX7 rfl rfl (fun _ _ => rfl) wd_173 rfl)) (hnd (hlf (ok_iload_n dX10_lose_39 rfl rfl)) (hlf (ok_iret dX10_lose_40))))))

noncomputable def sp_X10_lose : HSp := fun as w σ K => wp ins_X10_lose (fun _ => none) K 80 0 (loc0 4 as) [] w σ
theorem vc_X10_lose : MVC ins_X10_lose 4 2 sp_X10_lose := mvc0 80 fun _ _ _ _ _ h => h
theorem ct_X10_lose : Ctr yX10_lose cX10_lose 4 (some .int) 2 0 0 2 sp_X10_lose := ctr_of (by decide +kernel) rfl (by decide) ok_X10_lose vc_X10_lose

theorem dX10_count_0 : decode cX10_count 0 = .ok (.iload_n 1, 1) := by decide +kernel
theorem dX10_count_1 : decode cX10_count 1 = .ok (.tableswitch 125 0 8 #[51, 59, 67, 75, 84, 93, 101, 109, 117], 51) := by decide +kernel
theorem dX10_count_52 : decode cX10_count 52 = .ok (.aload_n 0, 1) := by decide +kernel
theorem dX10_count_53 : decode cX10_count 53 = .ok (.getfield 10, 3) := by decide +kernel
theorem dX10_count_56 : decode cX10_count 56 = .ok (.invokevirtual 296, 3) := by decide +kernel
theorem dX10_count_59 : decode cX10_count 59 = .ok (.ireturn, 1) := by decide +kernel
theorem dX10_count_60 : decode cX10_count 60 = .ok (.aload_n 0, 1) := by decide +kernel
theorem dX10_count_61 : decode cX10_count 61 = .ok (.getfield 10, 3) := by decide +kernel
theorem dX10_count_64 : decode cX10_count 64 = .ok (.getfield 299, 3) := by decide +kernel
theorem dX10_count_67 : decode cX10_count 67 = .ok (.ireturn, 1) := by decide +kernel
theorem dX10_count_68 : decode cX10_count 68 = .ok (.aload_n 0, 1) := by decide +kernel
theorem dX10_count_69 : decode cX10_count 69 = .ok (.getfield 41, 3) := by decide +kernel
theorem dX10_count_72 : decode cX10_count 72 = .ok (.getfield 302, 3) := by decide +kernel
theorem dX10_count_75 : decode cX10_count 75 = .ok (.ireturn, 1) := by decide +kernel
theorem dX10_count_76 : decode cX10_count 76 = .ok (.aload_n 0, 1) := by decide +kernel
theorem dX10_count_77 : decode cX10_count 77 = .ok (.getfield 41, 3) := by decide +kernel
theorem dX10_count_80 : decode cX10_count 80 = .ok (.iconst 0, 1) := by decide +kernel
theorem dX10_count_81 : decode cX10_count 81 = .ok (.invokevirtual 303, 3) := by decide +kernel
theorem dX10_count_84 : decode cX10_count 84 = .ok (.ireturn, 1) := by decide +kernel
theorem dX10_count_85 : decode cX10_count 85 = .ok (.aload_n 0, 1) := by decide +kernel
theorem dX10_count_86 : decode cX10_count 86 = .ok (.getfield 41, 3) := by decide +kernel
theorem dX10_count_89 : decode cX10_count 89 = .ok (.iconst 1, 1) := by decide +kernel
theorem dX10_count_90 : decode cX10_count 90 = .ok (.invokevirtual 303, 3) := by decide +kernel
theorem dX10_count_93 : decode cX10_count 93 = .ok (.ireturn, 1) := by decide +kernel
theorem dX10_count_94 : decode cX10_count 94 = .ok (.aload_n 0, 1) := by decide +kernel
theorem dX10_count_95 : decode cX10_count 95 = .ok (.getfield 10, 3) := by decide +kernel
theorem dX10_count_98 : decode cX10_count 98 = .ok (.invokevirtual 306, 3) := by decide +kernel
theorem dX10_count_101 : decode cX10_count 101 = .ok (.ireturn, 1) := by decide +kernel
theorem dX10_count_102 : decode cX10_count 102 = .ok (.aload_n 0, 1) := by decide +kernel
theorem dX10_count_103 : decode cX10_count 103 = .ok (.getfield 41, 3) := by decide +kernel
theorem dX10_count_106 : decode cX10_count 106 = .ok (.getfield 219, 3) := by decide +kernel
theorem dX10_count_109 : decode cX10_count 109 = .ok (.ireturn, 1) := by decide +kernel
theorem dX10_count_110 : decode cX10_count 110 = .ok (.aload_n 0, 1) := by decide +kernel
theorem dX10_count_111 : decode cX10_count 111 = .ok (.getfield 19, 3) := by decide +kernel
theorem dX10_count_114 : decode cX10_count 114 = .ok (.getfield 153, 3) := by decide +kernel
theorem dX10_count_117 : decode cX10_count 117 = .ok (.ireturn, 1) := by decide +kernel
theorem dX10_count_118 : decode cX10_count 118 = .ok (.aload_n 0, 1) := by decide +kernel
theorem dX10_count_119 : decode cX10_count 119 = .ok (.getfield 10, 3) := by decide +kernel
theorem dX10_count_122 : decode cX10_count 122 = .ok (.invokevirtual 309, 3) := by decide +kernel
theorem dX10_count_125 : decode cX10_count 125 = .ok (.ireturn, 1) := by decide +kernel
theorem dX10_count_126 : decode cX10_count 126 = .ok (.ldc 79, 2) := by decide +kernel
theorem dX10_count_128 : decode cX10_count 128 = .ok (.ireturn, 1) := by decide +kernel
def ins_X10_count (pc : Nat) : HOp := cond (Nat.blt pc 89) (cond (Nat.blt pc 68) (cond (Nat.blt pc 59) (cond (Nat.blt pc 52) (cond (Nat.blt pc 1) (cond (Nat.beq pc 0) (o_iload 1 1) o_bad) (cond (Nat.beq pc 1) (o_sw [(0, 52), (1, 60), (2, 68), (3, 76), (4, 85), (5, 94), (6, 102), (7, 110), (8, 118)] 126) o_bad)) (cond (Nat.blt pc 53) (cond (Nat.beq pc 52) (o_aload 0 53) o_bad) (cond (Nat.blt pc 56) (cond (Nat.beq pc 53) (o_getf 10 0 56) o_bad) (cond (Nat.beq pc 56) (o_callV 1 2 sp_X2_prisonersHere 59) o_bad)))) (cond (Nat.blt pc 61) (cond (Nat.blt pc 60) (cond (Nat.beq pc 59) (o_iret) o_bad) (cond (Nat.beq pc 60) (o_aload 0 61) o_bad)) (cond (Nat.blt pc 64) (cond (Nat.beq pc 61) (o_getf 10 0 64) o_bad) (cond (Nat.blt pc 67) (cond (Nat.beq pc 64) (o_getf 2 4 67) o_bad) (cond (Nat.beq pc 67) (o_iret) o_bad))))) (cond (Nat.blt pc 77) (cond (Nat.blt pc 72) (cond (Nat.blt pc 69) (cond (Nat.beq pc 68) (o_aload 0 69) o_bad) (cond (Nat.beq pc 69) (o_getf 10 4 72) o_bad)) (cond (Nat.blt pc 75) (cond (Nat.beq pc 72) (o_getf 0 1 75) o_bad) (cond (Nat.blt pc 76) (cond (Nat.beq pc 75) (o_iret) o_bad) (cond (Nat.beq pc 76) (o_aload 0 77) o_bad)))) (cond (Nat.blt pc 84) (cond (Nat.blt pc 80) (cond (Nat.beq pc 77) (o_getf 10 4 80) o_bad) (cond (Nat.blt pc 81) (cond (Nat.beq pc 80) (o_const (0) 81) o_bad) (cond (Nat.beq pc 81) (o_callV 2 0 sp_X0_inState 84) o_bad))) (cond (Nat.blt pc 85) (cond (Nat.beq pc 84) (o_iret) o_bad) (cond (Nat.blt pc 86) (cond (Nat.beq pc 85) (o_aload 0 86) o_bad) (cond (Nat.beq pc 86) (o_getf 10 4 89) o_bad)))))) (cond (Nat.blt pc 109) (cond (Nat.blt pc 98) (cond (Nat.blt pc 93) (cond (Nat.blt pc 90) (cond (Nat.beq pc 89) (o_const (1) 90) o_bad) (cond (Nat.beq pc 90) (o_callV 2 0 sp_X0_inState 93) o_bad)) (cond (Nat.blt pc 94) (cond (Nat.beq pc 93) (o_iret) o_bad) (cond (Nat.blt pc 95) (cond (Nat.beq pc 94) (o_aload 0 95) o_bad) (cond (Nat.beq pc 95) (o_getf 10 0 98) o_bad)))) (cond (Nat.blt pc 102) (cond (Nat.blt pc 101) (cond (Nat.beq pc 98) (o_callV 1 2 sp_X2_orderCount 101) o_bad) (cond (Nat.beq pc 101) (o_iret) o_bad)) (cond (Nat.blt pc 103) (cond (Nat.beq pc 102) (o_aload 0 103) o_bad) (cond (Nat.blt pc 106) (cond (Nat.beq pc 103) (o_getf 10 4 106) o_bad) (cond (Nat.beq pc 106) (o_getf 0 2 109) o_bad))))) (cond (Nat.blt pc 118) (cond (Nat.blt pc 111) (cond (Nat.blt pc 110) (cond (Nat.beq pc 109) (o_iret) o_bad) (cond (Nat.beq pc 110) (o_aload 0 111) o_bad)) (cond (Nat.blt pc 114) (cond (Nat.beq pc 111) (o_getf 10 1 114) o_bad) (cond (Nat.blt pc 117) (cond (Nat.beq pc 114) (o_getf 8 1 117) o_bad) (cond (Nat.beq pc 117) (o_iret) o_bad)))) (cond (Nat.blt pc 125) (cond (Nat.blt pc 119) (cond (Nat.beq pc 118) (o_aload 0 119) o_bad) (cond (Nat.blt pc 122) (cond (Nat.beq pc 119) (o_getf 10 0 122) o_bad) (cond (Nat.beq pc 122) (o_callV 1 2 sp_X2_rivalPairs 125) o_bad))) (cond (Nat.blt pc 126) (cond (Nat.beq pc 125) (o_iret) o_bad) (cond (Nat.blt pc 128) (cond (Nat.beq pc 126) (o_const (-1000000001) 128) o_bad) (cond (Nat.beq pc 128) (o_iret) o_bad))))))
set_option maxRecDepth 20000 in
theorem ok_X10_count : HOKs cX10_count RX10 2 (some .int) 3 ins_X10_count := fun _ => hnd (hnd (hnd (hnd (hnd (hlf (ok_iload_n dX10_count_0 rfl rfl)) (hlf (ok_tsw dX10_count_1 (by decide) (by decide) (by decide)))) (hnd (hlf (ok_aload_n dX10_count_52 rfl rfl)) (hnd (hlf (ok_getf (C := RX10) (T := TX10) dX10_count_53 rfl rfl (by decide) rfl inX10 wd_285 rfl)) (hlf (ok_callV (y := yX2_prisonersHere) (n' := 0) (C := RX2) (T := TX2) dX10_count_56 ct_X2_prisonersHere (by decide) (by decide) wd_854 wd_851 wd_852 wd_853 wd_42 rfl (by decide +kernel) rfl rfl rfl))))) (hnd (hnd (hlf (ok_iret dX10_count_59)) (hlf (ok_aload_n dX10_count_60 rfl rfl))) (hnd (hlf (ok_getf (C := RX10) (T := TX10) dX10_count_61 rfl rfl (by decide) rfl inX10 wd_285 rfl)) (hnd (hlf (ok_getfN (C := RX2) (T := TX2) dX10_count_64 rfl rfl (by decide) rfl inX2 wd_82 rfl)) (hlf (ok_iret dX10_count_67)))))) (hnd (hnd (hnd (hlf (ok_aload_n dX10_count_68 rfl rfl)) (hlf (ok_getf (C := RX10) (T := TX10) dX10_count_69 rfl rfl (by decide) rfl inX10 wd_289 rfl))) (hnd (hlf (ok_getfN (C := RX0) (T := TX0) dX10_count_72 rfl rfl (by decide) rfl inX0 wd_151 rfl)) (hnd (hlf (ok_iret dX10_count_75)) (hlf (ok_aload_n dX10_count_76 rfl rfl))))) (hnd (hnd (hlf (ok_getf (C := RX10) (T := TX10) dX10_count_77 rfl rfl (by decide) rfl inX10 wd_289 rfl)) (hnd (hlf (ok_iconst dX10_count_80 (by decide) rfl)) (hlf (ok_callV (y := yX0_inState) (n' := 1) (C := RX0) (T := TX0) dX10_count_81 ct_X0_inState (by decide) (by decide) wd_858 wd_855 wd_856 wd_857 wd_45 rfl (by decide +kernel) rfl rfl rfl)))) (hnd (hlf (ok_iret dX10_count_84)) (hnd (hlf (ok_aload_n dX10_count_85 rfl rfl)) (hlf (ok_getf (C := RX10) (T := TX10) dX10_count_86 rfl rfl (by decide) rfl inX10 wd_289 rfl))))))) (hnd (hnd (hnd (hnd (hlf (ok_iconst dX10_count_89 (by decide) rfl)) (hlf (ok_callV (y := yX0_inState) (n' := 1) (C := RX0) (T := TX0) dX10_count_90 ct_X0_inState (by decide) (by decide) wd_858 wd_855 wd_856 wd_857 wd_45 rfl (by decide +kernel) rfl rfl rfl))) (hnd (hlf (ok_iret dX10_count_93)) (hnd (hlf (ok_aload_n dX10_count_94 rfl rfl)) (hlf (ok_getf (C := RX10) (T := TX10) dX10_count_95 rfl rfl (by decide) rfl inX10 wd_285 rfl))))) (hnd (hnd (hlf (ok_callV (y := yX2_orderCount) (n' := 0) (C := RX2) (T := TX2) dX10_count_98 ct_X2_orderCount (by decide) (by decide) wd_862 wd_859 wd_860 wd_861 wd_42 rfl (by decide +kernel) rfl rfl rfl)) (hlf (ok_iret dX10_count_101))) (hnd (hlf (ok_aload_n dX10_count_102 rfl rfl)) (hnd (hlf (ok_getf (C := RX10) (T := TX10) dX10_count_103 rfl rfl (by decide) rfl inX10 wd_289 rfl)) (hlf (ok_getfN (C := RX0) (T := TX0) dX10_count_106 rfl rfl (by decide) rfl inX0 wd_154 rfl)))))) (hnd (hnd (hnd (hlf (ok_iret dX10_count_109)) (hlf (ok_aload_n dX10_count_110 rfl rfl))) (hnd (hlf (ok_getf (C := RX10) (T := TX10) dX10_count_111 rfl rfl (by decide) rfl inX10 wd_286 rfl)) (hnd (hlf (ok_getfN (C := RX8) (T := TX8) dX10_count_114 rfl rfl (by decide) rfl inX8 wd_108 rfl)) (hlf (ok_iret dX10_count_117))))) (hnd (hnd (hlf (ok_aload_n dX10_count_118 rfl rfl)) (hnd (hlf (ok_getf (C := RX10) (T := TX10) dX10_count_119 rfl rfl (by decide) rfl inX10 wd_285 rfl)) (hlf (ok_callV (y := yX2_rivalPairs) (n' := 0) (C := RX2) (T := TX2) dX10_count_122 ct_X2_rivalPairs (by decide) (by decide) wd_870 wd_867 wd_868 wd_869 wd_42 rfl (by decide +kernel) rfl rfl rfl)))) (hnd (hlf (ok_iret dX10_count_125)) (hnd (hlf (ok_ldc dX10_count_126 wd_320 rfl)) (hlf (ok_iret dX10_count_128)))))))

noncomputable def sp_X10_count : HSp := fun as w σ K => wp ins_X10_count (fun _ => none) K 80 0 (loc0 2 as) [] w σ
theorem vc_X10_count : MVC ins_X10_count 2 2 sp_X10_count := mvc0 80 fun _ _ _ _ _ h => h
theorem ct_X10_count : Ctr yX10_count cX10_count 2 (some .int) 3 0 0 2 sp_X10_count := ctr_of (by decide +kernel) rfl (by decide) ok_X10_count vc_X10_count

