/-! VisitHall.Book -/
def sp_X0_isFull : HSp := fun as w σ K => match as with
  | [.inr (.inl (0, some 0))] => spZ (¬ σ 0 0 1 < 100) w σ K
  | _ => False
theorem dX0_isFull_0 : decode cX0_isFull 0 = .ok (.aload_n 0, 1) := by decide +kernel
theorem dX0_isFull_1 : decode cX0_isFull 1 = .ok (.getfield 17, 3) := by decide +kernel
theorem dX0_isFull_4 : decode cX0_isFull 4 = .ok (.bipush 100, 2) := by decide +kernel
theorem dX0_isFull_6 : decode cX0_isFull 6 = .ok (.if_icmp .lt 7, 3) := by decide +kernel
theorem dX0_isFull_9 : decode cX0_isFull 9 = .ok (.iconst 1, 1) := by decide +kernel
theorem dX0_isFull_10 : decode cX0_isFull 10 = .ok (.goto 4, 3) := by decide +kernel
theorem dX0_isFull_13 : decode cX0_isFull 13 = .ok (.iconst 0, 1) := by decide +kernel
theorem dX0_isFull_14 : decode cX0_isFull 14 = .ok (.ireturn, 1) := by decide +kernel
def ins_X0_isFull (pc : Nat) : HOp := cond (Nat.blt pc 9) (cond (Nat.blt pc 4) (cond (Nat.blt pc 1) (cond (Nat.beq pc 0) (o_aload 0 1) o_bad) (cond (Nat.beq pc 1) (o_getf 0 1 4) o_bad)) (cond (Nat.blt pc 6) (cond (Nat.beq pc 4) (o_const (100) 6) o_bad) (cond (Nat.beq pc 6) (o_icmp (fun x y => x < y) 13 9) o_bad))) (cond (Nat.blt pc 13) (cond (Nat.blt pc 10) (cond (Nat.beq pc 9) (o_const (1) 10) o_bad) (cond (Nat.beq pc 10) (o_goto 14) o_bad)) (cond (Nat.blt pc 14) (cond (Nat.beq pc 13) (o_const (0) 14) o_bad) (cond (Nat.beq pc 14) (o_zret) o_bad)))
set_option maxRecDepth 20000 in
theorem ok_X0_isFull : HOKs cX0_isFull RX0 1 (some .boolean) 1 ins_X0_isFull := fun _ => hnd (hnd (hnd (hlf (ok_aload_n dX0_isFull_0 rfl rfl)) (hlf (ok_getf (C := RX0) (T := TX0) dX0_isFull_1 rfl rfl (by decide) rfl inX0 wd_148 rfl))) (hnd (hlf (ok_bipush dX0_isFull_4 (by decide) rfl)) (hlf (ok_icmp_lt dX0_isFull_6 (by decide) rfl)))) (hnd (hnd (hlf (ok_iconst dX0_isFull_9 (by decide) rfl)) (hlf (ok_goto dX0_isFull_10 (by decide)))) (hnd (hlf (ok_iconst dX0_isFull_13 (by decide) rfl)) (hlf (ok_zret dX0_isFull_14))))

theorem vc_X0_isFull : MVC ins_X0_isFull 1 1 sp_X0_isFull := by
  refine mvc0 40 fun as w σ q hl hs => ?_
  unfold sp_X0_isFull at hs
  split at hs
  rotate_left
  · exact hs.elim
  clear hl
  repeat' (first | apply br2 | intro _)
  all_goals first | exact ⟨Or.inl rfl, hs.2 (by grind)⟩ | exact ⟨Or.inr rfl, hs.1 (by grind)⟩
theorem ct_X0_isFull : Ctr yX0_isFull cX0_isFull 1 (some .boolean) 1 0 0 1 sp_X0_isFull := ctr_of (by decide +kernel) rfl (by decide) ok_X0_isFull vc_X0_isFull

theorem in_of {x : Int32} {n : Nat} (h : 0 ≤ x ∧ x < nI n) (hn : n < 2 ^ 31 := by omega) : ∃ i, i < n ∧ x = nI i := by
  obtain ⟨j, hj, rfl⟩ := nI_of (Int32.not_lt.mpr h.1)
  exact ⟨j, (nI_ltI hj hn).mp h.2, rfl⟩
def sp_X0_at : HSp := fun as w σ K => match as with
  | [.inr (.inl (0, some 0)), .inl x] => ∃ n, Bk w σ n ∧ (∀ i, i < n → x = nI i → K (some (HR 9 i)) w σ) ∧ (¬ (0 ≤ x ∧ x < nI n) → K (some (HO 99 none)) w σ)
  | _ => False
theorem dX0_at_0 : decode cX0_at 0 = .ok (.iload_n 1, 1) := by decide +kernel
theorem dX0_at_1 : decode cX0_at 1 = .ok (.aload_n 0, 1) := by decide +kernel
theorem dX0_at_2 : decode cX0_at 2 = .ok (.getfield 17, 3) := by decide +kernel
theorem dX0_at_5 : decode cX0_at 5 = .ok (.invokestatic 26, 3) := by decide +kernel
theorem dX0_at_8 : decode cX0_at 8 = .ok (.ifCond .eq 12, 3) := by decide +kernel
theorem dX0_at_11 : decode cX0_at 11 = .ok (.aload_n 0, 1) := by decide +kernel
theorem dX0_at_12 : decode cX0_at 12 = .ok (.getfield 13, 3) := by decide +kernel
theorem dX0_at_15 : decode cX0_at 15 = .ok (.iload_n 1, 1) := by decide +kernel
theorem dX0_at_16 : decode cX0_at 16 = .ok (.aaload, 1) := by decide +kernel
theorem dX0_at_17 : decode cX0_at 17 = .ok (.goto 4, 3) := by decide +kernel
theorem dX0_at_20 : decode cX0_at 20 = .ok (.aconst_null, 1) := by decide +kernel
theorem dX0_at_21 : decode cX0_at 21 = .ok (.areturn, 1) := by decide +kernel
def ins_X0_at (pc : Nat) : HOp := cond (Nat.blt pc 12) (cond (Nat.blt pc 5) (cond (Nat.blt pc 1) (cond (Nat.beq pc 0) (o_iload 1 1) o_bad) (cond (Nat.blt pc 2) (cond (Nat.beq pc 1) (o_aload 0 2) o_bad) (cond (Nat.beq pc 2) (o_getf 0 1 5) o_bad))) (cond (Nat.blt pc 8) (cond (Nat.beq pc 5) (o_callS 2 sp_X10_isBelow 8) o_bad) (cond (Nat.blt pc 11) (cond (Nat.beq pc 8) (o_if (fun x => x = 0) 20 11) o_bad) (cond (Nat.beq pc 11) (o_aload 0 12) o_bad)))) (cond (Nat.blt pc 17) (cond (Nat.blt pc 15) (cond (Nat.beq pc 12) (o_getf 0 0 15) o_bad) (cond (Nat.blt pc 16) (cond (Nat.beq pc 15) (o_iload 1 16) o_bad) (cond (Nat.beq pc 16) (o_aald 17) o_bad))) (cond (Nat.blt pc 20) (cond (Nat.beq pc 17) (o_goto 21) o_bad) (cond (Nat.blt pc 21) (cond (Nat.beq pc 20) (o_null 99 21) o_bad) (cond (Nat.beq pc 21) (o_aret) o_bad))))
set_option maxRecDepth 20000 in
theorem ok_X0_at : HOKs cX0_at RX0 2 (some (.object "VisitHall$Visit")) 2 ins_X0_at := fun _ => hnd (hnd (hnd (hlf (ok_iload_n dX0_at_0 rfl rfl)) (hnd (hlf (ok_aload_n dX0_at_1 rfl rfl)) (hlf (ok_getf (C := RX0) (T := TX0) dX0_at_2 rfl rfl (by decide) rfl inX0 wd_148 rfl)))) (hnd (hlf (ok_callSN (y := yX10_isBelow) dX0_at_5 ct_X10_isBelow (by decide) (by decide) wd_319 wd_771 wd_318 wd_41 (by decide +kernel) rfl)) (hnd (hlf (ok_if_eq dX0_at_8 (by decide) rfl)) (hlf (ok_aload_n dX0_at_11 rfl rfl))))) (hnd (hnd (hlf (ok_getf (C := RX0) (T := TX0) dX0_at_12 rfl rfl (by decide) rfl inX0 wd_145 rfl)) (hnd (hlf (ok_iload_n dX0_at_15 rfl rfl)) (hlf (ok_aald dX0_at_16 rfl)))) (hnd (hlf (ok_goto dX0_at_17 (by decide))) (hnd (hlf (ok_null dX0_at_20 rfl)) (hlf (ok_aret dX0_at_21)))))

theorem vc_X0_at : MVC ins_X0_at 2 2 sp_X0_at := by
  refine mvc0 60 fun as w σ q hl hs => ?_
  unfold sp_X0_at at hs
  split at hs
  rotate_left
  · exact hs.elim
  rename_i x
  obtain ⟨n, ⟨hn, hsz, hra⟩, h1, h2⟩ := hs
  apply br2
  · intro h
    have h : 0 ≤ x ∧ x < σ 0 0 1 := h
    rw [hsz] at h
    obtain ⟨i, hi, rfl⟩ := in_of h
    refine And.intro (fun h => absurd h (by decide)) (fun _ => ?_)
    refine And.intro (vp_in_nI (N := 100) (by omega) (by decide)) (fun o ho => ?_)
    obtain rfl := ra_at ho (hra i hi)
    exact h1 i hi rfl
  · intro h
    have h : ¬ (0 ≤ x ∧ x < σ 0 0 1) := h
    rw [hsz] at h
    exact And.intro (fun _ => h2 h) (fun h => absurd rfl h)
theorem ct_X0_at : Ctr yX0_at cX0_at 2 (some (.object "VisitHall$Visit")) 2 0 0 2 sp_X0_at := ctr_of (by decide +kernel) rfl (by decide) ok_X0_at vc_X0_at

def sp_X0_letAhead : HSp := fun as w σ K => match as with
  | [.inr (.inl (0, some 0)), .inl p] => ∃ n, Bk w σ n ∧ K (some (HI (nI (cnt (fun i => decide (σ 9 i 6 = 0 ∧ σ 9 i 0 = p ∧ ¬ σ 9 i 2 < σ 0 0 2)) n)))) w σ
  | _ => False
theorem dX0_letAhead_0 : decode cX0_letAhead 0 = .ok (.iconst 0, 1) := by decide +kernel
theorem dX0_letAhead_1 : decode cX0_letAhead 1 = .ok (.istore_n 2, 1) := by decide +kernel
theorem dX0_letAhead_2 : decode cX0_letAhead 2 = .ok (.iconst 0, 1) := by decide +kernel
theorem dX0_letAhead_3 : decode cX0_letAhead 3 = .ok (.istore_n 3, 1) := by decide +kernel
theorem dX0_letAhead_4 : decode cX0_letAhead 4 = .ok (.iload_n 3, 1) := by decide +kernel
theorem dX0_letAhead_5 : decode cX0_letAhead 5 = .ok (.aload_n 0, 1) := by decide +kernel
theorem dX0_letAhead_6 : decode cX0_letAhead 6 = .ok (.getfield 17, 3) := by decide +kernel
theorem dX0_letAhead_9 : decode cX0_letAhead 9 = .ok (.if_icmp .ge 54, 3) := by decide +kernel
theorem dX0_letAhead_12 : decode cX0_letAhead 12 = .ok (.aload_n 0, 1) := by decide +kernel
theorem dX0_letAhead_13 : decode cX0_letAhead 13 = .ok (.getfield 13, 3) := by decide +kernel
theorem dX0_letAhead_16 : decode cX0_letAhead 16 = .ok (.iload_n 3, 1) := by decide +kernel
theorem dX0_letAhead_17 : decode cX0_letAhead 17 = .ok (.aaload, 1) := by decide +kernel
theorem dX0_letAhead_18 : decode cX0_letAhead 18 = .ok (.astore 4, 2) := by decide +kernel
theorem dX0_letAhead_20 : decode cX0_letAhead 20 = .ok (.iload_n 2, 1) := by decide +kernel
theorem dX0_letAhead_21 : decode cX0_letAhead 21 = .ok (.aload 4, 2) := by decide +kernel
theorem dX0_letAhead_23 : decode cX0_letAhead 23 = .ok (.getfield 30, 3) := by decide +kernel
theorem dX0_letAhead_26 : decode cX0_letAhead 26 = .ok (.ifCond .ne 28, 3) := by decide +kernel
theorem dX0_letAhead_29 : decode cX0_letAhead 29 = .ok (.aload 4, 2) := by decide +kernel
theorem dX0_letAhead_31 : decode cX0_letAhead 31 = .ok (.getfield 33, 3) := by decide +kernel
theorem dX0_letAhead_34 : decode cX0_letAhead 34 = .ok (.iload_n 1, 1) := by decide +kernel
theorem dX0_letAhead_35 : decode cX0_letAhead 35 = .ok (.if_icmp .ne 19, 3) := by decide +kernel
theorem dX0_letAhead_38 : decode cX0_letAhead 38 = .ok (.aload 4, 2) := by decide +kernel
theorem dX0_letAhead_40 : decode cX0_letAhead 40 = .ok (.getfield 36, 3) := by decide +kernel
theorem dX0_letAhead_43 : decode cX0_letAhead 43 = .ok (.aload_n 0, 1) := by decide +kernel
theorem dX0_letAhead_44 : decode cX0_letAhead 44 = .ok (.getfield 39, 3) := by decide +kernel
theorem dX0_letAhead_47 : decode cX0_letAhead 47 = .ok (.if_icmp .lt 7, 3) := by decide +kernel
theorem dX0_letAhead_50 : decode cX0_letAhead 50 = .ok (.iconst 1, 1) := by decide +kernel
theorem dX0_letAhead_51 : decode cX0_letAhead 51 = .ok (.goto 4, 3) := by decide +kernel
theorem dX0_letAhead_54 : decode cX0_letAhead 54 = .ok (.iconst 0, 1) := by decide +kernel
theorem dX0_letAhead_55 : decode cX0_letAhead 55 = .ok (.iadd, 1) := by decide +kernel
theorem dX0_letAhead_56 : decode cX0_letAhead 56 = .ok (.istore_n 2, 1) := by decide +kernel
theorem dX0_letAhead_57 : decode cX0_letAhead 57 = .ok (.iinc 3 1, 3) := by decide +kernel
theorem dX0_letAhead_60 : decode cX0_letAhead 60 = .ok (.goto (-56), 3) := by decide +kernel
theorem dX0_letAhead_63 : decode cX0_letAhead 63 = .ok (.iload_n 2, 1) := by decide +kernel
theorem dX0_letAhead_64 : decode cX0_letAhead 64 = .ok (.ireturn, 1) := by decide +kernel
def ins_X0_letAhead (pc : Nat) : HOp := cond (Nat.blt pc 29) (cond (Nat.blt pc 12) (cond (Nat.blt pc 4) (cond (Nat.blt pc 2) (cond (Nat.blt pc 1) (cond (Nat.beq pc 0) (o_const (0) 1) o_bad) (cond (Nat.beq pc 1) (o_istore 2 2) o_bad)) (cond (Nat.blt pc 3) (cond (Nat.beq pc 2) (o_const (0) 3) o_bad) (cond (Nat.beq pc 3) (o_istore 3 4) o_bad))) (cond (Nat.blt pc 6) (cond (Nat.blt pc 5) (cond (Nat.beq pc 4) (o_iload 3 5) o_bad) (cond (Nat.beq pc 5) (o_aload 0 6) o_bad)) (cond (Nat.blt pc 9) (cond (Nat.beq pc 6) (o_getf 0 1 9) o_bad) (cond (Nat.beq pc 9) (o_icmp (fun x y => y ≤ x) 63 12) o_bad)))) (cond (Nat.blt pc 18) (cond (Nat.blt pc 16) (cond (Nat.blt pc 13) (cond (Nat.beq pc 12) (o_aload 0 13) o_bad) (cond (Nat.beq pc 13) (o_getf 0 0 16) o_bad)) (cond (Nat.blt pc 17) (cond (Nat.beq pc 16) (o_iload 3 17) o_bad) (cond (Nat.beq pc 17) (o_aald 18) o_bad))) (cond (Nat.blt pc 21) (cond (Nat.blt pc 20) (cond (Nat.beq pc 18) (o_astore 4 20) o_bad) (cond (Nat.beq pc 20) (o_iload 2 21) o_bad)) (cond (Nat.blt pc 23) (cond (Nat.beq pc 21) (o_aload 4 23) o_bad) (cond (Nat.blt pc 26) (cond (Nat.beq pc 23) (o_getf 9 6 26) o_bad) (cond (Nat.beq pc 26) (o_if (fun x => x = 0) 29 54) o_bad)))))) (cond (Nat.blt pc 50) (cond (Nat.blt pc 38) (cond (Nat.blt pc 34) (cond (Nat.blt pc 31) (cond (Nat.beq pc 29) (o_aload 4 31) o_bad) (cond (Nat.beq pc 31) (o_getf 9 0 34) o_bad)) (cond (Nat.blt pc 35) (cond (Nat.beq pc 34) (o_iload 1 35) o_bad) (cond (Nat.beq pc 35) (o_icmp (fun x y => x = y) 38 54) o_bad))) (cond (Nat.blt pc 43) (cond (Nat.blt pc 40) (cond (Nat.beq pc 38) (o_aload 4 40) o_bad) (cond (Nat.beq pc 40) (o_getf 9 2 43) o_bad)) (cond (Nat.blt pc 44) (cond (Nat.beq pc 43) (o_aload 0 44) o_bad) (cond (Nat.blt pc 47) (cond (Nat.beq pc 44) (o_getf 0 2 47) o_bad) (cond (Nat.beq pc 47) (o_icmp (fun x y => x < y) 54 50) o_bad))))) (cond (Nat.blt pc 56) (cond (Nat.blt pc 54) (cond (Nat.blt pc 51) (cond (Nat.beq pc 50) (o_const (1) 51) o_bad) (cond (Nat.beq pc 51) (o_goto 55) o_bad)) (cond (Nat.blt pc 55) (cond (Nat.beq pc 54) (o_const (0) 55) o_bad) (cond (Nat.beq pc 55) (o_bin (fun x y => x + y) 56) o_bad))) (cond (Nat.blt pc 60) (cond (Nat.blt pc 57) (cond (Nat.beq pc 56) (o_istore 2 57) o_bad) (cond (Nat.beq pc 57) (o_iinc 3 (1) 60) o_bad)) (cond (Nat.blt pc 63) (cond (Nat.beq pc 60) (o_goto 4) o_bad) (cond (Nat.blt pc 64) (cond (Nat.beq pc 63) (o_iload 2 64) o_bad) (cond (Nat.beq pc 64) (o_iret) o_bad))))))
set_option maxRecDepth 20000 in
theorem ok_X0_letAhead : HOKs cX0_letAhead RX0 5 (some .int) 1 ins_X0_letAhead := fun _ => hnd (hnd (hnd (hnd (hnd (hlf (ok_iconst dX0_letAhead_0 (by decide) rfl)) (hlf (ok_istore_n dX0_letAhead_1 rfl (by decide) rfl))) (hnd (hlf (ok_iconst dX0_letAhead_2 (by decide) rfl)) (hlf (ok_istore_n dX0_letAhead_3 rfl (by decide) rfl)))) (hnd (hnd (hlf (ok_iload_n dX0_letAhead_4 rfl rfl)) (hlf (ok_aload_n dX0_letAhead_5 rfl rfl))) (hnd (hlf (ok_getf (C := RX0) (T := TX0) dX0_letAhead_6 rfl rfl (by decide) rfl inX0 wd_148 rfl)) (hlf (ok_icmp_ge dX0_letAhead_9 (by decide) rfl))))) (hnd (hnd (hnd (hlf (ok_aload_n dX0_letAhead_12 rfl rfl)) (hlf (ok_getf (C := RX0) (T := TX0) dX0_letAhead_13 rfl rfl (by decide) rfl inX0 wd_145 rfl))) (hnd (hlf (ok_iload_n dX0_letAhead_16 rfl rfl)) (hlf (ok_aald dX0_letAhead_17 rfl)))) (hnd (hnd (hlf (ok_astore dX0_letAhead_18 (by decide) rfl)) (hlf (ok_iload_n dX0_letAhead_20 rfl rfl))) (hnd (hlf (ok_aload dX0_letAhead_21 rfl)) (hnd (hlf (ok_getfN (C := RX9) (T := TX9) dX0_letAhead_23 rfl rfl (by decide) rfl inX9 wd_263 rfl)) (hlf (ok_if_ne dX0_letAhead_26 (by decide) rfl))))))) (hnd (hnd (hnd (hnd (hlf (ok_aload dX0_letAhead_29 rfl)) (hlf (ok_getfN (C := RX9) (T := TX9) dX0_letAhead_31 rfl rfl (by decide) rfl inX9 wd_236 rfl))) (hnd (hlf (ok_iload_n dX0_letAhead_34 rfl rfl)) (hlf (ok_icmp_ne dX0_letAhead_35 (by decide) rfl)))) (hnd (hnd (hlf (ok_aload dX0_letAhead_38 rfl)) (hlf (ok_getfN (C := RX9) (T := TX9) dX0_letAhead_40 rfl rfl (by decide) rfl inX9 wd_247 rfl))) (hnd (hlf (ok_aload_n dX0_letAhead_43 rfl rfl)) (hnd (hlf (ok_getf (C := RX0) (T := TX0) dX0_letAhead_44 rfl rfl (by decide) rfl inX0 wd_153 rfl)) (hlf (ok_icmp_lt dX0_letAhead_47 (by decide) rfl)))))) (hnd (hnd (hnd (hlf (ok_iconst dX0_letAhead_50 (by decide) rfl)) (hlf (ok_goto dX0_letAhead_51 (by decide)))) (hnd (hlf (ok_iconst dX0_letAhead_54 (by decide) rfl)) (hlf (ok_iadd dX0_letAhead_55 rfl)))) (hnd (hnd (hlf (ok_istore_n dX0_letAhead_56 rfl (by decide) rfl)) (hlf (ok_iinc dX0_letAhead_57 (by decide) (by decide) rfl))) (hnd (hlf (ok_goto dX0_letAhead_60 (by decide))) (hnd (hlf (ok_iload_n dX0_letAhead_63 rfl rfl)) (hlf (ok_iret dX0_letAhead_64)))))))

theorem vc_X0_letAhead : MVC ins_X0_letAhead 5 2 sp_X0_letAhead := by
  refine mvc1 4 60 fun as w σ q hl hs => ?_
  unfold sp_X0_letAhead at hs
  split at hs
  rotate_left
  · exact hs.elim
  rename_i p
  obtain ⟨n, ⟨hn, hsz, hra⟩, hq⟩ := hs
  refine ⟨fun N ls st w' σ' => ∃ (i : Nat) (u v : Int32) (x : Option HV), i ≤ n ∧ N = n - i ∧ u = nI (cnt (fun i => decide (σ 9 i 6 = 0 ∧ σ 9 i 0 = p ∧ ¬ σ 9 i 2 < σ 0 0 2)) i) ∧ v = nI i ∧ ls = [some (HR 0 0), some (HI p), some (HI u), some (HI v), x] ∧ st = [] ∧ w = w' ∧ σ = σ', ?_, ?_⟩
  · rintro N ls st w' σ' ⟨i, u, v, x, hi, rfl, rfl, rfl, rfl, rfl, rfl, rfl⟩
    apply br2
    · intro h1
      obtain rfl := lp_end hsz hi h1
      exact hq
    · intro h1
      have hlt := lp_go hsz hi h1
      refine And.intro (vp_in_nI (N := 100) (by omega) (by decide)) (fun o ho => ?_)
      obtain rfl := ra_at ho (hra i hlt)
      repeat' (first | apply br2 | intro _)
      all_goals first
        | exact ⟨n - (i + 1), by omega, i + 1, _, _, _, hlt, rfl, by rw [cnt_n (by grind)]; exact Int32.add_zero _, nI_1 i, rfl, rfl, rfl, rfl⟩
        | exact ⟨n - (i + 1), by omega, i + 1, _, _, _, hlt, rfl, by rw [cnt_y (by grind)]; exact nI_1 _, nI_1 i, rfl, rfl, rfl, rfl⟩
  · exact ⟨n, 0, 0, 0, none, Nat.zero_le _, rfl, rfl, rfl, rfl, rfl, rfl, rfl⟩
theorem ct_X0_letAhead : Ctr yX0_letAhead cX0_letAhead 5 (some .int) 1 0 0 2 sp_X0_letAhead := ctr_of (by decide +kernel) rfl (by decide) ok_X0_letAhead vc_X0_letAhead

def sp_X0_letAt : HSp := fun as w σ K => match as with
  | [.inr (.inl (0, some 0)), .inl day, .inl half] => ∃ n, Bk w σ n ∧ K (some (HI (nI (cnt (fun i => decide (atL σ i day half)) n)))) w σ
  | _ => False
theorem dX0_letAt_0 : decode cX0_letAt 0 = .ok (.iconst 0, 1) := by decide +kernel
theorem dX0_letAt_1 : decode cX0_letAt 1 = .ok (.istore_n 3, 1) := by decide +kernel
theorem dX0_letAt_2 : decode cX0_letAt 2 = .ok (.iconst 0, 1) := by decide +kernel
theorem dX0_letAt_3 : decode cX0_letAt 3 = .ok (.istore 4, 2) := by decide +kernel
theorem dX0_letAt_5 : decode cX0_letAt 5 = .ok (.iload 4, 2) := by decide +kernel
theorem dX0_letAt_7 : decode cX0_letAt 7 = .ok (.aload_n 0, 1) := by decide +kernel
theorem dX0_letAt_8 : decode cX0_letAt 8 = .ok (.getfield 17, 3) := by decide +kernel
theorem dX0_letAt_11 : decode cX0_letAt 11 = .ok (.if_icmp .ge 32, 3) := by decide +kernel
theorem dX0_letAt_14 : decode cX0_letAt 14 = .ok (.iload_n 3, 1) := by decide +kernel
theorem dX0_letAt_15 : decode cX0_letAt 15 = .ok (.aload_n 0, 1) := by decide +kernel
theorem dX0_letAt_16 : decode cX0_letAt 16 = .ok (.getfield 13, 3) := by decide +kernel
theorem dX0_letAt_19 : decode cX0_letAt 19 = .ok (.iload 4, 2) := by decide +kernel
theorem dX0_letAt_21 : decode cX0_letAt 21 = .ok (.aaload, 1) := by decide +kernel
theorem dX0_letAt_22 : decode cX0_letAt 22 = .ok (.iload_n 1, 1) := by decide +kernel
theorem dX0_letAt_23 : decode cX0_letAt 23 = .ok (.iload_n 2, 1) := by decide +kernel
theorem dX0_letAt_24 : decode cX0_letAt 24 = .ok (.invokevirtual 42, 3) := by decide +kernel
theorem dX0_letAt_27 : decode cX0_letAt 27 = .ok (.ifCond .eq 7, 3) := by decide +kernel
theorem dX0_letAt_30 : decode cX0_letAt 30 = .ok (.iconst 1, 1) := by decide +kernel
theorem dX0_letAt_31 : decode cX0_letAt 31 = .ok (.goto 4, 3) := by decide +kernel
theorem dX0_letAt_34 : decode cX0_letAt 34 = .ok (.iconst 0, 1) := by decide +kernel
theorem dX0_letAt_35 : decode cX0_letAt 35 = .ok (.iadd, 1) := by decide +kernel
theorem dX0_letAt_36 : decode cX0_letAt 36 = .ok (.istore_n 3, 1) := by decide +kernel
theorem dX0_letAt_37 : decode cX0_letAt 37 = .ok (.iinc 4 1, 3) := by decide +kernel
theorem dX0_letAt_40 : decode cX0_letAt 40 = .ok (.goto (-35), 3) := by decide +kernel
theorem dX0_letAt_43 : decode cX0_letAt 43 = .ok (.iload_n 3, 1) := by decide +kernel
theorem dX0_letAt_44 : decode cX0_letAt 44 = .ok (.ireturn, 1) := by decide +kernel
def ins_X0_letAt (pc : Nat) : HOp := cond (Nat.blt pc 22) (cond (Nat.blt pc 8) (cond (Nat.blt pc 3) (cond (Nat.blt pc 1) (cond (Nat.beq pc 0) (o_const (0) 1) o_bad) (cond (Nat.blt pc 2) (cond (Nat.beq pc 1) (o_istore 3 2) o_bad) (cond (Nat.beq pc 2) (o_const (0) 3) o_bad))) (cond (Nat.blt pc 5) (cond (Nat.beq pc 3) (o_istore 4 5) o_bad) (cond (Nat.blt pc 7) (cond (Nat.beq pc 5) (o_iload 4 7) o_bad) (cond (Nat.beq pc 7) (o_aload 0 8) o_bad)))) (cond (Nat.blt pc 15) (cond (Nat.blt pc 11) (cond (Nat.beq pc 8) (o_getf 0 1 11) o_bad) (cond (Nat.blt pc 14) (cond (Nat.beq pc 11) (o_icmp (fun x y => y ≤ x) 43 14) o_bad) (cond (Nat.beq pc 14) (o_iload 3 15) o_bad))) (cond (Nat.blt pc 19) (cond (Nat.blt pc 16) (cond (Nat.beq pc 15) (o_aload 0 16) o_bad) (cond (Nat.beq pc 16) (o_getf 0 0 19) o_bad)) (cond (Nat.blt pc 21) (cond (Nat.beq pc 19) (o_iload 4 21) o_bad) (cond (Nat.beq pc 21) (o_aald 22) o_bad))))) (cond (Nat.blt pc 34) (cond (Nat.blt pc 27) (cond (Nat.blt pc 23) (cond (Nat.beq pc 22) (o_iload 1 23) o_bad) (cond (Nat.blt pc 24) (cond (Nat.beq pc 23) (o_iload 2 24) o_bad) (cond (Nat.beq pc 24) (o_callV 3 9 sp_X9_isLetAt 27) o_bad))) (cond (Nat.blt pc 30) (cond (Nat.beq pc 27) (o_if (fun x => x = 0) 34 30) o_bad) (cond (Nat.blt pc 31) (cond (Nat.beq pc 30) (o_const (1) 31) o_bad) (cond (Nat.beq pc 31) (o_goto 35) o_bad)))) (cond (Nat.blt pc 37) (cond (Nat.blt pc 35) (cond (Nat.beq pc 34) (o_const (0) 35) o_bad) (cond (Nat.blt pc 36) (cond (Nat.beq pc 35) (o_bin (fun x y => x + y) 36) o_bad) (cond (Nat.beq pc 36) (o_istore 3 37) o_bad))) (cond (Nat.blt pc 43) (cond (Nat.blt pc 40) (cond (Nat.beq pc 37) (o_iinc 4 (1) 40) o_bad) (cond (Nat.beq pc 40) (o_goto 5) o_bad)) (cond (Nat.blt pc 44) (cond (Nat.beq pc 43) (o_iload 3 44) o_bad) (cond (Nat.beq pc 44) (o_iret) o_bad)))))
set_option maxRecDepth 20000 in
theorem ok_X0_letAt : HOKs cX0_letAt RX0 5 (some .int) 2 ins_X0_letAt := fun _ => hnd (hnd (hnd (hnd (hlf (ok_iconst dX0_letAt_0 (by decide) rfl)) (hnd (hlf (ok_istore_n dX0_letAt_1 rfl (by decide) rfl)) (hlf (ok_iconst dX0_letAt_2 (by decide) rfl)))) (hnd (hlf (ok_istore dX0_letAt_3 (by decide) rfl)) (hnd (hlf (ok_iload dX0_letAt_5 rfl)) (hlf (ok_aload_n dX0_letAt_7 rfl rfl))))) (hnd (hnd (hlf (ok_getf (C := RX0) (T := TX0) dX0_letAt_8 rfl rfl (by decide) rfl inX0 wd_148 rfl)) (hnd (hlf (ok_icmp_ge dX0_letAt_11 (by decide) rfl)) (hlf (ok_iload_n dX0_letAt_14 rfl rfl)))) (hnd (hnd (hlf (ok_aload_n dX0_letAt_15 rfl rfl)) (hlf (ok_getf (C := RX0) (T := TX0) dX0_letAt_16 rfl rfl (by decide) rfl inX0 wd_145 rfl))) (hnd (hlf (ok_iload dX0_letAt_19 rfl)) (hlf (ok_aald dX0_letAt_21 rfl)))))) (hnd (hnd (hnd (hlf (ok_iload_n dX0_letAt_22 rfl rfl)) (hnd (hlf (ok_iload_n dX0_letAt_23 rfl rfl)) (hlf (ok_callV (y := yX9_isLetAt) (n' := 2) (C := RX9) (T := TX9) dX0_letAt_24 ct_X9_isLetAt (by decide) (by decide) wd_508 wd_505 wd_506 wd_507 wd_49 rfl (by decide +kernel) rfl rfl rfl)))) (hnd (hlf (ok_if_eq dX0_letAt_27 (by decide) rfl)) (hnd (hlf (ok_iconst dX0_letAt_30 (by decide) rfl)) (hlf (ok_goto dX0_letAt_31 (by decide)))))) (hnd (hnd (hlf (ok_iconst dX0_letAt_34 (by decide) rfl)) (hnd (hlf (ok_iadd dX0_letAt_35 rfl)) (hlf (ok_istore_n dX0_letAt_36 rfl (by decide) rfl)))) (hnd (hnd (hlf (ok_iinc dX0_letAt_37 (by decide) (by decide) rfl)) (hlf (ok_goto dX0_letAt_40 (by decide)))) (hnd (hlf (ok_iload_n dX0_letAt_43 rfl rfl)) (hlf (ok_iret dX0_letAt_44))))))

theorem vc_X0_letAt : MVC ins_X0_letAt 5 3 sp_X0_letAt := by
  refine mvc1 5 60 fun as w σ q hl hs => ?_
  unfold sp_X0_letAt at hs
  split at hs
  rotate_left
  · exact hs.elim
  rename_i day half
  obtain ⟨n, ⟨hn, hsz, hra⟩, hq⟩ := hs
  refine ⟨fun N ls st w' σ' => ∃ (i : Nat) (u v : Int32), i ≤ n ∧ N = n - i ∧ u = nI (cnt (fun i => decide (atL σ i day half)) i) ∧ v = nI i ∧ ls = [some (HR 0 0), some (HI day), some (HI half), some (HI u), some (HI v)] ∧ st = [] ∧ w = w' ∧ σ = σ', ?_, ?_⟩
  · rintro N ls st w' σ' ⟨i, u, v, hi, rfl, rfl, rfl, rfl, rfl, rfl, rfl⟩
    apply br2
    · intro h1
      obtain rfl := lp_end hsz hi h1
      exact hq
    · intro h1
      have hlt := lp_go hsz hi h1
      refine And.intro (vp_in_nI (N := 100) (by omega) (by decide)) (fun o ho => ?_)
      obtain rfl := ra_at ho (hra i hlt)
      apply br2
      · intro h2
        refine And.intro (fun h => absurd h (by decide)) (fun _ => ?_)
        exact ⟨n - (i + 1), by omega, i + 1, _, _, hlt, rfl, by rw [cnt_y (decide_eq_true h2)]; exact nI_1 _, nI_1 i, rfl, rfl, rfl, rfl⟩
      · intro h2
        refine And.intro (fun _ => ?_) (fun h => absurd rfl h)
        exact ⟨n - (i + 1), by omega, i + 1, _, _, hlt, rfl, by rw [cnt_n (decide_eq_false h2)]; exact Int32.add_zero _, nI_1 i, rfl, rfl, rfl, rfl⟩
  · exact ⟨n, 0, 0, 0, Nat.zero_le _, rfl, rfl, rfl, rfl, rfl, rfl, rfl⟩
theorem ct_X0_letAt : Ctr yX0_letAt cX0_letAt 5 (some .int) 2 0 0 3 sp_X0_letAt := ctr_of (by decide +kernel) rfl (by decide) ok_X0_letAt vc_X0_letAt

