/-! VisitHall.Visit -/
abbrev atL (σ : HS) (i : Nat) (day half : Int32) : Prop := σ 9 i 6 = 0 ∧ σ 9 i 7 = 0 ∧ σ 9 i 2 = day ∧ ¬ half < σ 9 i 3 ∧ ¬ σ 9 i 3 + σ 9 i 4 ≤ half
abbrev shH (σ : HS) (i j : Nat) : Prop := σ 9 i 2 = σ 9 j 2 ∧ ¬ σ 9 j 3 + σ 9 j 4 ≤ σ 9 i 3 ∧ ¬ σ 9 i 3 + σ 9 i 4 ≤ σ 9 j 3
abbrev shP (σ : HS) (i j : Nat) : Prop := σ 9 i 0 = σ 9 j 0 ∨ ¬ σ 9 i 1 &&& σ 9 j 1 = 0
def sp_X9_isLetAt : HSp := fun as w σ K => match as with
  | [.inr (.inl (9, some i)), .inl day, .inl half] => spZ (atL σ i day half) w σ K
  | _ => False
theorem dX9_isLetAt_0 : decode cX9_isLetAt 0 = .ok (.aload_n 0, 1) := by decide +kernel
theorem dX9_isLetAt_1 : decode cX9_isLetAt 1 = .ok (.getfield 9, 3) := by decide +kernel
theorem dX9_isLetAt_4 : decode cX9_isLetAt 4 = .ok (.ifCond .ne 43, 3) := by decide +kernel
theorem dX9_isLetAt_7 : decode cX9_isLetAt 7 = .ok (.aload_n 0, 1) := by decide +kernel
theorem dX9_isLetAt_8 : decode cX9_isLetAt 8 = .ok (.getfield 34, 3) := by decide +kernel
theorem dX9_isLetAt_11 : decode cX9_isLetAt 11 = .ok (.ifCond .ne 36, 3) := by decide +kernel
theorem dX9_isLetAt_14 : decode cX9_isLetAt 14 = .ok (.aload_n 0, 1) := by decide +kernel
theorem dX9_isLetAt_15 : decode cX9_isLetAt 15 = .ok (.getfield 21, 3) := by decide +kernel
theorem dX9_isLetAt_18 : decode cX9_isLetAt 18 = .ok (.iload_n 1, 1) := by decide +kernel
theorem dX9_isLetAt_19 : decode cX9_isLetAt 19 = .ok (.if_icmp .ne 28, 3) := by decide +kernel
theorem dX9_isLetAt_22 : decode cX9_isLetAt 22 = .ok (.iload_n 2, 1) := by decide +kernel
theorem dX9_isLetAt_23 : decode cX9_isLetAt 23 = .ok (.aload_n 0, 1) := by decide +kernel
theorem dX9_isLetAt_24 : decode cX9_isLetAt 24 = .ok (.getfield 24, 3) := by decide +kernel
theorem dX9_isLetAt_27 : decode cX9_isLetAt 27 = .ok (.if_icmp .lt 20, 3) := by decide +kernel
theorem dX9_isLetAt_30 : decode cX9_isLetAt 30 = .ok (.iload_n 2, 1) := by decide +kernel
theorem dX9_isLetAt_31 : decode cX9_isLetAt 31 = .ok (.aload_n 0, 1) := by decide +kernel
theorem dX9_isLetAt_32 : decode cX9_isLetAt 32 = .ok (.getfield 24, 3) := by decide +kernel
theorem dX9_isLetAt_35 : decode cX9_isLetAt 35 = .ok (.aload_n 0, 1) := by decide +kernel
theorem dX9_isLetAt_36 : decode cX9_isLetAt 36 = .ok (.getfield 27, 3) := by decide +kernel
theorem dX9_isLetAt_39 : decode cX9_isLetAt 39 = .ok (.iadd, 1) := by decide +kernel
theorem dX9_isLetAt_40 : decode cX9_isLetAt 40 = .ok (.if_icmp .ge 7, 3) := by decide +kernel
theorem dX9_isLetAt_43 : decode cX9_isLetAt 43 = .ok (.iconst 1, 1) := by decide +kernel
theorem dX9_isLetAt_44 : decode cX9_isLetAt 44 = .ok (.goto 4, 3) := by decide +kernel
theorem dX9_isLetAt_47 : decode cX9_isLetAt 47 = .ok (.iconst 0, 1) := by decide +kernel
theorem dX9_isLetAt_48 : decode cX9_isLetAt 48 = .ok (.ireturn, 1) := by decide +kernel
def ins_X9_isLetAt (pc : Nat) : HOp := cond (Nat.blt pc 24) (cond (Nat.blt pc 14) (cond (Nat.blt pc 7) (cond (Nat.blt pc 1) (cond (Nat.beq pc 0) (o_aload 0 1) o_bad) (cond (Nat.blt pc 4) (cond (Nat.beq pc 1) (o_getf 9 6 4) o_bad) (cond (Nat.beq pc 4) (o_if (fun x => x = 0) 7 47) o_bad))) (cond (Nat.blt pc 8) (cond (Nat.beq pc 7) (o_aload 0 8) o_bad) (cond (Nat.blt pc 11) (cond (Nat.beq pc 8) (o_getf 9 7 11) o_bad) (cond (Nat.beq pc 11) (o_if (fun x => x = 0) 14 47) o_bad)))) (cond (Nat.blt pc 19) (cond (Nat.blt pc 15) (cond (Nat.beq pc 14) (o_aload 0 15) o_bad) (cond (Nat.blt pc 18) (cond (Nat.beq pc 15) (o_getf 9 2 18) o_bad) (cond (Nat.beq pc 18) (o_iload 1 19) o_bad))) (cond (Nat.blt pc 22) (cond (Nat.beq pc 19) (o_icmp (fun x y => x = y) 22 47) o_bad) (cond (Nat.blt pc 23) (cond (Nat.beq pc 22) (o_iload 2 23) o_bad) (cond (Nat.beq pc 23) (o_aload 0 24) o_bad))))) (cond (Nat.blt pc 36) (cond (Nat.blt pc 31) (cond (Nat.blt pc 27) (cond (Nat.beq pc 24) (o_getf 9 3 27) o_bad) (cond (Nat.blt pc 30) (cond (Nat.beq pc 27) (o_icmp (fun x y => x < y) 47 30) o_bad) (cond (Nat.beq pc 30) (o_iload 2 31) o_bad))) (cond (Nat.blt pc 32) (cond (Nat.beq pc 31) (o_aload 0 32) o_bad) (cond (Nat.blt pc 35) (cond (Nat.beq pc 32) (o_getf 9 3 35) o_bad) (cond (Nat.beq pc 35) (o_aload 0 36) o_bad)))) (cond (Nat.blt pc 43) (cond (Nat.blt pc 39) (cond (Nat.beq pc 36) (o_getf 9 4 39) o_bad) (cond (Nat.blt pc 40) (cond (Nat.beq pc 39) (o_bin (fun x y => x + y) 40) o_bad) (cond (Nat.beq pc 40) (o_icmp (fun x y => y ≤ x) 47 43) o_bad))) (cond (Nat.blt pc 47) (cond (Nat.blt pc 44) (cond (Nat.beq pc 43) (o_const (1) 44) o_bad) (cond (Nat.beq pc 44) (o_goto 48) o_bad)) (cond (Nat.blt pc 48) (cond (Nat.beq pc 47) (o_const (0) 48) o_bad) (cond (Nat.beq pc 48) (o_zret) o_bad)))))
set_option maxRecDepth 20000 in
theorem ok_X9_isLetAt : HOKs cX9_isLetAt RX9 3 (some .boolean) 1 ins_X9_isLetAt := fun _ => hnd (hnd (hnd (hnd (hlf (ok_aload_n dX9_isLetAt_0 rfl rfl)) (hnd (hlf (ok_getf (C := RX9) (T := TX9) dX9_isLetAt_1 rfl rfl (by decide) rfl inX9 wd_260 rfl)) (hlf (ok_if_ne dX9_isLetAt_4 (by decide) rfl)))) (hnd (hlf (ok_aload_n dX9_isLetAt_7 rfl rfl)) (hnd (hlf (ok_getf (C := RX9) (T := TX9) dX9_isLetAt_8 rfl rfl (by decide) rfl inX9 wd_265 rfl)) (hlf (ok_if_ne dX9_isLetAt_11 (by decide) rfl))))) (hnd (hnd (hlf (ok_aload_n dX9_isLetAt_14 rfl rfl)) (hnd (hlf (ok_getf (C := RX9) (T := TX9) dX9_isLetAt_15 rfl rfl (by decide) rfl inX9 wd_244 rfl)) (hlf (ok_iload_n dX9_isLetAt_18 rfl rfl)))) (hnd (hlf (ok_icmp_ne dX9_isLetAt_19 (by decide) rfl)) (hnd (hlf (ok_iload_n dX9_isLetAt_22 rfl rfl)) (hlf (ok_aload_n dX9_isLetAt_23 rfl rfl)))))) (hnd (hnd (hnd (hlf (ok_getf (C := RX9) (T := TX9) dX9_isLetAt_24 rfl rfl (by decide) rfl inX9 wd_249 rfl)) (hnd (hlf (ok_icmp_lt dX9_isLetAt_27 (by decide) rfl)) (hlf (ok_iload_n dX9_isLetAt_30 rfl rfl)))) (hnd (hlf (ok_aload_n dX9_isLetAt_31 rfl rfl)) (hnd (hlf (ok_getf (C := RX9) (T := TX9) dX9_isLetAt_32 rfl rfl (by decide) rfl inX9 wd_249 rfl)) (hlf (ok_aload_n dX9_isLetAt_35 rfl rfl))))) (hnd (hnd (hlf (ok_getf (C := RX9) (T := TX9) dX9_isLetAt_36 rfl rfl (by decide) rfl inX9 wd_253 rfl)) (hnd (hlf (ok_iadd dX9_isLetAt_39 rfl)) (hlf (ok_icmp_ge dX9_isLetAt_40 (by decide) rfl)))) (hnd (hnd (hlf (ok_iconst dX9_isLetAt_43 (by decide) rfl)) (hlf (ok_goto dX9_isLetAt_44 (by decide)))) (hnd (hlf (ok_iconst dX9_isLetAt_47 (by decide) rfl)) (hlf (ok_zret dX9_isLetAt_48))))))

theorem vc_X9_isLetAt : MVC ins_X9_isLetAt 3 3 sp_X9_isLetAt := by
  refine mvc0 60 fun as w σ q hl hs => ?_
  unfold sp_X9_isLetAt at hs
  split at hs
  rotate_left
  · exact hs.elim
  rename_i i day half
  clear hl
  repeat' (first | apply br2 | intro _)
  all_goals first | exact ⟨Or.inl rfl, hs.2 (by grind)⟩ | exact ⟨Or.inr rfl, hs.1 (by grind)⟩
theorem ct_X9_isLetAt : Ctr yX9_isLetAt cX9_isLetAt 3 (some .boolean) 1 0 0 3 sp_X9_isLetAt := ctr_of (by decide +kernel) rfl (by decide) ok_X9_isLetAt vc_X9_isLetAt

def sp_X9_sharesHalfWith : HSp := fun as w σ K => match as with
  | [.inr (.inl (9, some i)), .inr (.inl (9, some j))] => spZ (shH σ i j) w σ K
  | _ => False
theorem dX9_sharesHalfWith_0 : decode cX9_sharesHalfWith 0 = .ok (.aload_n 0, 1) := by decide +kernel
theorem dX9_sharesHalfWith_1 : decode cX9_sharesHalfWith 1 = .ok (.getfield 21, 3) := by decide +kernel
theorem dX9_sharesHalfWith_4 : decode cX9_sharesHalfWith 4 = .ok (.aload_n 1, 1) := by decide +kernel
theorem dX9_sharesHalfWith_5 : decode cX9_sharesHalfWith 5 = .ok (.getfield 21, 3) := by decide +kernel
theorem dX9_sharesHalfWith_8 : decode cX9_sharesHalfWith 8 = .ok (.if_icmp .ne 39, 3) := by decide +kernel
theorem dX9_sharesHalfWith_11 : decode cX9_sharesHalfWith 11 = .ok (.aload_n 0, 1) := by decide +kernel
theorem dX9_sharesHalfWith_12 : decode cX9_sharesHalfWith 12 = .ok (.getfield 24, 3) := by decide +kernel
theorem dX9_sharesHalfWith_15 : decode cX9_sharesHalfWith 15 = .ok (.aload_n 1, 1) := by decide +kernel
theorem dX9_sharesHalfWith_16 : decode cX9_sharesHalfWith 16 = .ok (.getfield 24, 3) := by decide +kernel
theorem dX9_sharesHalfWith_19 : decode cX9_sharesHalfWith 19 = .ok (.aload_n 1, 1) := by decide +kernel
theorem dX9_sharesHalfWith_20 : decode cX9_sharesHalfWith 20 = .ok (.getfield 27, 3) := by decide +kernel
theorem dX9_sharesHalfWith_23 : decode cX9_sharesHalfWith 23 = .ok (.iadd, 1) := by decide +kernel
theorem dX9_sharesHalfWith_24 : decode cX9_sharesHalfWith 24 = .ok (.if_icmp .ge 23, 3) := by decide +kernel
theorem dX9_sharesHalfWith_27 : decode cX9_sharesHalfWith 27 = .ok (.aload_n 1, 1) := by decide +kernel
theorem dX9_sharesHalfWith_28 : decode cX9_sharesHalfWith 28 = .ok (.getfield 24, 3) := by decide +kernel
theorem dX9_sharesHalfWith_31 : decode cX9_sharesHalfWith 31 = .ok (.aload_n 0, 1) := by decide +kernel
theorem dX9_sharesHalfWith_32 : decode cX9_sharesHalfWith 32 = .ok (.getfield 24, 3) := by decide +kernel
theorem dX9_sharesHalfWith_35 : decode cX9_sharesHalfWith 35 = .ok (.aload_n 0, 1) := by decide +kernel
theorem dX9_sharesHalfWith_36 : decode cX9_sharesHalfWith 36 = .ok (.getfield 27, 3) := by decide +kernel
theorem dX9_sharesHalfWith_39 : decode cX9_sharesHalfWith 39 = .ok (.iadd, 1) := by decide +kernel
theorem dX9_sharesHalfWith_40 : decode cX9_sharesHalfWith 40 = .ok (.if_icmp .ge 7, 3) := by decide +kernel
theorem dX9_sharesHalfWith_43 : decode cX9_sharesHalfWith 43 = .ok (.iconst 1, 1) := by decide +kernel
theorem dX9_sharesHalfWith_44 : decode cX9_sharesHalfWith 44 = .ok (.goto 4, 3) := by decide +kernel
theorem dX9_sharesHalfWith_47 : decode cX9_sharesHalfWith 47 = .ok (.iconst 0, 1) := by decide +kernel
theorem dX9_sharesHalfWith_48 : decode cX9_sharesHalfWith 48 = .ok (.ireturn, 1) := by decide +kernel
def ins_X9_sharesHalfWith (pc : Nat) : HOp := cond (Nat.blt pc 24) (cond (Nat.blt pc 12) (cond (Nat.blt pc 5) (cond (Nat.blt pc 1) (cond (Nat.beq pc 0) (o_aload 0 1) o_bad) (cond (Nat.blt pc 4) (cond (Nat.beq pc 1) (o_getf 9 2 4) o_bad) (cond (Nat.beq pc 4) (o_aload 1 5) o_bad))) (cond (Nat.blt pc 8) (cond (Nat.beq pc 5) (o_getf 9 2 8) o_bad) (cond (Nat.blt pc 11) (cond (Nat.beq pc 8) (o_icmp (fun x y => x = y) 11 47) o_bad) (cond (Nat.beq pc 11) (o_aload 0 12) o_bad)))) (cond (Nat.blt pc 19) (cond (Nat.blt pc 15) (cond (Nat.beq pc 12) (o_getf 9 3 15) o_bad) (cond (Nat.blt pc 16) (cond (Nat.beq pc 15) (o_aload 1 16) o_bad) (cond (Nat.beq pc 16) (o_getf 9 3 19) o_bad))) (cond (Nat.blt pc 20) (cond (Nat.beq pc 19) (o_aload 1 20) o_bad) (cond (Nat.blt pc 23) (cond (Nat.beq pc 20) (o_getf 9 4 23) o_bad) (cond (Nat.beq pc 23) (o_bin (fun x y => x + y) 24) o_bad))))) (cond (Nat.blt pc 36) (cond (Nat.blt pc 31) (cond (Nat.blt pc 27) (cond (Nat.beq pc 24) (o_icmp (fun x y => y ≤ x) 47 27) o_bad) (cond (Nat.blt pc 28) (cond (Nat.beq pc 27) (o_aload 1 28) o_bad) (cond (Nat.beq pc 28) (o_getf 9 3 31) o_bad))) (cond (Nat.blt pc 32) (cond (Nat.beq pc 31) (o_aload 0 32) o_bad) (cond (Nat.blt pc 35) (cond (Nat.beq pc 32) (o_getf 9 3 35) o_bad) (cond (Nat.beq pc 35) (o_aload 0 36) o_bad)))) (cond (Nat.blt pc 43) (cond (Nat.blt pc 39) (cond (Nat.beq pc 36) (o_getf 9 4 39) o_bad) (cond (Nat.blt pc 40) (cond (Nat.beq pc 39) (o_bin (fun x y => x + y) 40) o_bad) (cond (Nat.beq pc 40) (o_icmp (fun x y => y ≤ x) 47 43) o_bad))) (cond (Nat.blt pc 47) (cond (Nat.blt pc 44) (cond (Nat.beq pc 43) (o_const (1) 44) o_bad) (cond (Nat.beq pc 44) (o_goto 48) o_bad)) (cond (Nat.blt pc 48) (cond (Nat.beq pc 47) (o_const (0) 48) o_bad) (cond (Nat.beq pc 48) (o_zret) o_bad)))))
set_option maxRecDepth 20000 in
theorem ok_X9_sharesHalfWith : HOKs cX9_sharesHalfWith RX9 2 (some .boolean) 1 ins_X9_sharesHalfWith := fun _ => hnd (hnd (hnd (hnd (hlf (ok_aload_n dX9_sharesHalfWith_0 rfl rfl)) (hnd (hlf (ok_getf (C := RX9) (T := TX9) dX9_sharesHalfWith_1 rfl rfl (by decide) rfl inX9 wd_244 rfl)) (hlf (ok_aload_n dX9_sharesHalfWith_4 rfl rfl)))) (hnd (hlf (ok_getf (C := RX9) (T := TX9) dX9_sharesHalfWith_5 rfl rfl (by decide) rfl inX9 wd_244 rfl)) (hnd (hlf (ok_icmp_ne dX9_sharesHalfWith_8 (by decide) rfl)) (hlf (ok_aload_n dX9_sharesHalfWith_11 rfl rfl))))) (hnd (hnd (hlf (ok_getf (C := RX9) (T := TX9) dX9_sharesHalfWith_12 rfl rfl (by decide) rfl inX9 wd_249 rfl)) (hnd (hlf (ok_aload_n dX9_sharesHalfWith_15 rfl rfl)) (hlf (ok_getf (C := RX9) (T := TX9) dX9_sharesHalfWith_16 rfl rfl (by decide) rfl inX9 wd_249 rfl)))) (hnd (hlf (ok_aload_n dX9_sharesHalfWith_19 rfl rfl)) (hnd (hlf (ok_getf (C := RX9) (T := TX9) dX9_sharesHalfWith_20 rfl rfl (by decide) rfl inX9 wd_253 rfl)) (hlf (ok_iadd dX9_sharesHalfWith_23 rfl)))))) (hnd (hnd (hnd (hlf (ok_icmp_ge dX9_sharesHalfWith_24 (by decide) rfl)) (hnd (hlf (ok_aload_n dX9_sharesHalfWith_27 rfl rfl)) (hlf (ok_getf (C := RX9) (T := TX9) dX9_sharesHalfWith_28 rfl rfl (by decide) rfl inX9 wd_249 rfl)))) (hnd (hlf (ok_aload_n dX9_sharesHalfWith_31 rfl rfl)) (hnd (hlf (ok_getf (C := RX9) (T := TX9) dX9_sharesHalfWith_32 rfl rfl (by decide) rfl inX9 wd_249 rfl)) (hlf (ok_aload_n dX9_sharesHalfWith_35 rfl rfl))))) (hnd (hnd (hlf (ok_getf (C := RX9) (T := TX9) dX9_sharesHalfWith_36 rfl rfl (by decide) rfl inX9 wd_253 rfl)) (hnd (hlf (ok_iadd dX9_sharesHalfWith_39 rfl)) (hlf (ok_icmp_ge dX9_sharesHalfWith_40 (by decide) rfl)))) (hnd (hnd (hlf (ok_iconst dX9_sharesHalfWith_43 (by decide) rfl)) (hlf (ok_goto dX9_sharesHalfWith_44 (by decide)))) (hnd (hlf (ok_iconst dX9_sharesHalfWith_47 (by decide) rfl)) (hlf (ok_zret dX9_sharesHalfWith_48))))))

theorem vc_X9_sharesHalfWith : MVC ins_X9_sharesHalfWith 2 2 sp_X9_sharesHalfWith := by
  refine mvc0 60 fun as w σ q hl hs => ?_
  unfold sp_X9_sharesHalfWith at hs
  split at hs
  rotate_left
  · exact hs.elim
  rename_i i j
  clear hl
  repeat' (first | apply br2 | intro _)
  all_goals first | exact ⟨Or.inl rfl, hs.2 (by grind)⟩ | exact ⟨Or.inr rfl, hs.1 (by grind)⟩
theorem ct_X9_sharesHalfWith : Ctr yX9_sharesHalfWith cX9_sharesHalfWith 2 (some .boolean) 1 0 0 2 sp_X9_sharesHalfWith := ctr_of (by decide +kernel) rfl (by decide) ok_X9_sharesHalfWith vc_X9_sharesHalfWith

def sp_X9_sharesPeopleWith : HSp := fun as w σ K => match as with
  | [.inr (.inl (9, some i)), .inr (.inl (9, some j))] => spZ (shP σ i j) w σ K
  | _ => False
theorem dX9_sharesPeopleWith_0 : decode cX9_sharesPeopleWith 0 = .ok (.aload_n 0, 1) := by decide +kernel
theorem dX9_sharesPeopleWith_1 : decode cX9_sharesPeopleWith 1 = .ok (.getfield 15, 3) := by decide +kernel
theorem dX9_sharesPeopleWith_4 : decode cX9_sharesPeopleWith 4 = .ok (.aload_n 1, 1) := by decide +kernel
theorem dX9_sharesPeopleWith_5 : decode cX9_sharesPeopleWith 5 = .ok (.getfield 15, 3) := by decide +kernel
theorem dX9_sharesPeopleWith_8 : decode cX9_sharesPeopleWith 8 = .ok (.if_icmp .eq 15, 3) := by decide +kernel
theorem dX9_sharesPeopleWith_11 : decode cX9_sharesPeopleWith 11 = .ok (.aload_n 0, 1) := by decide +kernel
theorem dX9_sharesPeopleWith_12 : decode cX9_sharesPeopleWith 12 = .ok (.getfield 18, 3) := by decide +kernel
theorem dX9_sharesPeopleWith_15 : decode cX9_sharesPeopleWith 15 = .ok (.aload_n 1, 1) := by decide +kernel
theorem dX9_sharesPeopleWith_16 : decode cX9_sharesPeopleWith 16 = .ok (.getfield 18, 3) := by decide +kernel
theorem dX9_sharesPeopleWith_19 : decode cX9_sharesPeopleWith 19 = .ok (.iand, 1) := by decide +kernel
theorem dX9_sharesPeopleWith_20 : decode cX9_sharesPeopleWith 20 = .ok (.ifCond .eq 7, 3) := by decide +kernel
theorem dX9_sharesPeopleWith_23 : decode cX9_sharesPeopleWith 23 = .ok (.iconst 1, 1) := by decide +kernel
theorem dX9_sharesPeopleWith_24 : decode cX9_sharesPeopleWith 24 = .ok (.goto 4, 3) := by decide +kernel
theorem dX9_sharesPeopleWith_27 : decode cX9_sharesPeopleWith 27 = .ok (.iconst 0, 1) := by decide +kernel
theorem dX9_sharesPeopleWith_28 : decode cX9_sharesPeopleWith 28 = .ok (.ireturn, 1) := by decide +kernel
def ins_X9_sharesPeopleWith (pc : Nat) : HOp := cond (Nat.blt pc 15) (cond (Nat.blt pc 5) (cond (Nat.blt pc 1) (cond (Nat.beq pc 0) (o_aload 0 1) o_bad) (cond (Nat.blt pc 4) (cond (Nat.beq pc 1) (o_getf 9 0 4) o_bad) (cond (Nat.beq pc 4) (o_aload 1 5) o_bad))) (cond (Nat.blt pc 11) (cond (Nat.blt pc 8) (cond (Nat.beq pc 5) (o_getf 9 0 8) o_bad) (cond (Nat.beq pc 8) (o_icmp (fun x y => x = y) 23 11) o_bad)) (cond (Nat.blt pc 12) (cond (Nat.beq pc 11) (o_aload 0 12) o_bad) (cond (Nat.beq pc 12) (o_getf 9 1 15) o_bad)))) (cond (Nat.blt pc 23) (cond (Nat.blt pc 19) (cond (Nat.blt pc 16) (cond (Nat.beq pc 15) (o_aload 1 16) o_bad) (cond (Nat.beq pc 16) (o_getf 9 1 19) o_bad)) (cond (Nat.blt pc 20) (cond (Nat.beq pc 19) (o_bin (fun x y => x &&& y) 20) o_bad) (cond (Nat.beq pc 20) (o_if (fun x => x = 0) 27 23) o_bad))) (cond (Nat.blt pc 27) (cond (Nat.blt pc 24) (cond (Nat.beq pc 23) (o_const (1) 24) o_bad) (cond (Nat.beq pc 24) (o_goto 28) o_bad)) (cond (Nat.blt pc 28) (cond (Nat.beq pc 27) (o_const (0) 28) o_bad) (cond (Nat.beq pc 28) (o_zret) o_bad))))
set_option maxRecDepth 20000 in
theorem ok_X9_sharesPeopleWith : HOKs cX9_sharesPeopleWith RX9 2 (some .boolean) 1 ins_X9_sharesPeopleWith := fun _ => hnd (hnd (hnd (hlf (ok_aload_n dX9_sharesPeopleWith_0 rfl rfl)) (hnd (hlf (ok_getf (C := RX9) (T := TX9) dX9_sharesPeopleWith_1 rfl rfl (by decide) rfl inX9 wd_234 rfl)) (hlf (ok_aload_n dX9_sharesPeopleWith_4 rfl rfl)))) (hnd (hnd (hlf (ok_getf (C := RX9) (T := TX9) dX9_sharesPeopleWith_5 rfl rfl (by decide) rfl inX9 wd_234 rfl)) (hlf (ok_icmp_eq dX9_sharesPeopleWith_8 (by decide) rfl))) (hnd (hlf (ok_aload_n dX9_sharesPeopleWith_11 rfl rfl)) (hlf (ok_getf (C := RX9) (T := TX9) dX9_sharesPeopleWith_12 rfl rfl (by decide) rfl inX9 wd_238 rfl))))) (hnd (hnd (hnd (hlf (ok_aload_n dX9_sharesPeopleWith_15 rfl rfl)) (hlf (ok_getf (C := RX9) (T := TX9) dX9_sharesPeopleWith_16 rfl rfl (by decide) rfl inX9 wd_238 rfl))) (hnd (hlf (ok_iand dX9_sharesPeopleWith_19 rfl)) (hlf (ok_if_eq dX9_sharesPeopleWith_20 (by decide) rfl)))) (hnd (hnd (hlf (ok_iconst dX9_sharesPeopleWith_23 (by decide) rfl)) (hlf (ok_goto dX9_sharesPeopleWith_24 (by decide)))) (hnd (hlf (ok_iconst dX9_sharesPeopleWith_27 (by decide) rfl)) (hlf (ok_zret dX9_sharesPeopleWith_28)))))

theorem vc_X9_sharesPeopleWith : MVC ins_X9_sharesPeopleWith 2 2 sp_X9_sharesPeopleWith := by
  refine mvc0 60 fun as w σ q hl hs => ?_
  unfold sp_X9_sharesPeopleWith at hs
  split at hs
  rotate_left
  · exact hs.elim
  rename_i i j
  clear hl
  repeat' (first | apply br2 | intro _)
  all_goals first | exact ⟨Or.inl rfl, hs.2 (by grind)⟩ | exact ⟨Or.inr rfl, hs.1 (by grind)⟩
theorem ct_X9_sharesPeopleWith : Ctr yX9_sharesPeopleWith cX9_sharesPeopleWith 2 (some .boolean) 1 0 0 2 sp_X9_sharesPeopleWith := ctr_of (by decide +kernel) rfl (by decide) ok_X9_sharesPeopleWith vc_X9_sharesPeopleWith

def fillS (σ : HS) (i : Nat) (p s d h lw : Int32) : HS := up3 (up3 (up3 (up3 (up3 (up3 σ 9 i 0 p) 9 i 1 s) 9 i 2 d) 9 i 3 (h / 10)) 9 i 4 (h - h / 10 * 10)) 9 i 5 lw
def sp_X9_fill : HSp := fun as w σ K => match as with
  | [.inr (.inl (9, some i)), .inl p, .inl s, .inl d, .inl h, .inl lw] => (lw = 0 ∨ lw = 1) ∧ K none w (fillS σ i p s d h lw)
  | _ => False
theorem dX9_fill_0 : decode cX9_fill 0 = .ok (.aload_n 0, 1) := by decide +kernel
theorem dX9_fill_1 : decode cX9_fill 1 = .ok (.iload_n 1, 1) := by decide +kernel
theorem dX9_fill_2 : decode cX9_fill 2 = .ok (.putfield 15, 3) := by decide +kernel
theorem dX9_fill_5 : decode cX9_fill 5 = .ok (.aload_n 0, 1) := by decide +kernel
theorem dX9_fill_6 : decode cX9_fill 6 = .ok (.iload_n 2, 1) := by decide +kernel
theorem dX9_fill_7 : decode cX9_fill 7 = .ok (.putfield 18, 3) := by decide +kernel
theorem dX9_fill_10 : decode cX9_fill 10 = .ok (.aload_n 0, 1) := by decide +kernel
theorem dX9_fill_11 : decode cX9_fill 11 = .ok (.iload_n 3, 1) := by decide +kernel
theorem dX9_fill_12 : decode cX9_fill 12 = .ok (.putfield 21, 3) := by decide +kernel
theorem dX9_fill_15 : decode cX9_fill 15 = .ok (.aload_n 0, 1) := by decide +kernel
theorem dX9_fill_16 : decode cX9_fill 16 = .ok (.iload 4, 2) := by decide +kernel
theorem dX9_fill_18 : decode cX9_fill 18 = .ok (.bipush 10, 2) := by decide +kernel
theorem dX9_fill_20 : decode cX9_fill 20 = .ok (.idiv, 1) := by decide +kernel
theorem dX9_fill_21 : decode cX9_fill 21 = .ok (.putfield 24, 3) := by decide +kernel
theorem dX9_fill_24 : decode cX9_fill 24 = .ok (.aload_n 0, 1) := by decide +kernel
theorem dX9_fill_25 : decode cX9_fill 25 = .ok (.iload 4, 2) := by decide +kernel
theorem dX9_fill_27 : decode cX9_fill 27 = .ok (.bipush 10, 2) := by decide +kernel
theorem dX9_fill_29 : decode cX9_fill 29 = .ok (.irem, 1) := by decide +kernel
theorem dX9_fill_30 : decode cX9_fill 30 = .ok (.putfield 27, 3) := by decide +kernel
theorem dX9_fill_33 : decode cX9_fill 33 = .ok (.aload_n 0, 1) := by decide +kernel
theorem dX9_fill_34 : decode cX9_fill 34 = .ok (.iload 5, 2) := by decide +kernel
theorem dX9_fill_36 : decode cX9_fill 36 = .ok (.putfield 30, 3) := by decide +kernel
theorem dX9_fill_39 : decode cX9_fill 39 = .ok (.return_, 1) := by decide +kernel
def ins_X9_fill (pc : Nat) : HOp := cond (Nat.blt pc 18) (cond (Nat.blt pc 7) (cond (Nat.blt pc 2) (cond (Nat.blt pc 1) (cond (Nat.beq pc 0) (o_aload 0 1) o_bad) (cond (Nat.beq pc 1) (o_iload 1 2) o_bad)) (cond (Nat.blt pc 5) (cond (Nat.beq pc 2) (o_putf 9 0 5) o_bad) (cond (Nat.blt pc 6) (cond (Nat.beq pc 5) (o_aload 0 6) o_bad) (cond (Nat.beq pc 6) (o_iload 2 7) o_bad)))) (cond (Nat.blt pc 12) (cond (Nat.blt pc 10) (cond (Nat.beq pc 7) (o_putf 9 1 10) o_bad) (cond (Nat.blt pc 11) (cond (Nat.beq pc 10) (o_aload 0 11) o_bad) (cond (Nat.beq pc 11) (o_iload 3 12) o_bad))) (cond (Nat.blt pc 15) (cond (Nat.beq pc 12) (o_putf 9 2 15) o_bad) (cond (Nat.blt pc 16) (cond (Nat.beq pc 15) (o_aload 0 16) o_bad) (cond (Nat.beq pc 16) (o_iload 4 18) o_bad))))) (cond (Nat.blt pc 29) (cond (Nat.blt pc 24) (cond (Nat.blt pc 20) (cond (Nat.beq pc 18) (o_const (10) 20) o_bad) (cond (Nat.blt pc 21) (cond (Nat.beq pc 20) (o_dv (fun x y => x / y) 21) o_bad) (cond (Nat.beq pc 21) (o_putf 9 3 24) o_bad))) (cond (Nat.blt pc 25) (cond (Nat.beq pc 24) (o_aload 0 25) o_bad) (cond (Nat.blt pc 27) (cond (Nat.beq pc 25) (o_iload 4 27) o_bad) (cond (Nat.beq pc 27) (o_const (10) 29) o_bad)))) (cond (Nat.blt pc 34) (cond (Nat.blt pc 30) (cond (Nat.beq pc 29) (o_dv (fun x y => x - x / y * y) 30) o_bad) (cond (Nat.blt pc 33) (cond (Nat.beq pc 30) (o_putf 9 4 33) o_bad) (cond (Nat.beq pc 33) (o_aload 0 34) o_bad))) (cond (Nat.blt pc 36) (cond (Nat.beq pc 34) (o_iload 5 36) o_bad) (cond (Nat.blt pc 39) (cond (Nat.beq pc 36) (o_putz 9 5 39) o_bad) (cond (Nat.beq pc 39) (o_vret) o_bad)))))
set_option maxRecDepth 20000 in
theorem ok_X9_fill : HOKs cX9_fill RX9 6 none 1 ins_X9_fill := fun _ => hnd (hnd (hnd (hnd (hlf (ok_aload_n dX9_fill_0 rfl rfl)) (hlf (ok_iload_n dX9_fill_1 rfl rfl))) (hnd (hlf (ok_putf (C := RX9) (T := TX9) dX9_fill_2 rfl rfl (by decide) rfl inX9 tyX9_ok nmX9 rfl rfl (fun _ _ => rfl) wd_234 rfl)) (hnd (hlf (ok_aload_n dX9_fill_5 rfl rfl)) (hlf (ok_iload_n dX9_fill_6 rfl rfl))))) (hnd (hnd (hlf (ok_putf (C := RX9) (T := TX9) dX9_fill_7 rfl rfl (by decide) rfl inX9 tyX9_ok nmX9 rfl rfl (fun _ _ => rfl) wd_238 rfl)) (hnd (hlf (ok_aload_n dX9_fill_10 rfl rfl)) (hlf (ok_iload_n dX9_fill_11 rfl rfl)))) (hnd (hlf (ok_putf (C := RX9) (T := TX9) dX9_fill_12 rfl rfl (by decide) rfl inX9 tyX9_ok nmX9 rfl rfl (fun _ _ => rfl) wd_244 rfl)) (hnd (hlf (ok_aload_n dX9_fill_15 rfl rfl)) (hlf (ok_iload dX9_fill_16 rfl)))))) (hnd (hnd (hnd (hlf (ok_bipush dX9_fill_18 (by decide) rfl)) (hnd (hlf (ok_idiv dX9_fill_20 rfl)) (hlf (ok_putf (C := RX9) (T := TX9) dX9_fill_21 rfl rfl (by decide) rfl inX9 tyX9_ok nmX9 rfl rfl (fun _ _ => rfl) wd_249 rfl)))) (hnd (hlf (ok_aload_n dX9_fill_24 rfl rfl)) (hnd (hlf (ok_iload dX9_fill_25 rfl)) (hlf (ok_bipush dX9_fill_27 (by decide) rfl))))) (hnd (hnd (hlf (ok_irem dX9_fill_29 rfl)) (hnd (hlf (ok_putf (C := RX9) (T := TX9) dX9_fill_30 rfl rfl (by decide) rfl inX9 tyX9_ok nmX9 rfl rfl (fun _ _ => rfl) wd_253 rfl)) (hlf (ok_aload_n dX9_fill_33 rfl rfl)))) (hnd (hlf (ok_iload dX9_fill_34 rfl)) (hnd (hlf (ok_putz (C := RX9) (T := TX9) dX9_fill_36 rfl rfl (by decide) rfl inX9 tyX9_ok nmX9 rfl rfl (fun _ _ => rfl) wd_256 rfl)) (hlf (ok_vret dX9_fill_39))))))

theorem vc_X9_fill : MVC ins_X9_fill 6 6 sp_X9_fill := by
  refine mvc0 60 fun as w σ q hl hs => ?_
  unfold sp_X9_fill at hs
  split at hs
  rotate_left
  · exact hs.elim
  rename_i i p s d h lw
  refine And.intro (by decide) ?_
  refine And.intro (by decide) ?_
  exact And.intro hs.1 hs.2
theorem ct_X9_fill : Ctr yX9_fill cX9_fill 6 none 1 0 0 6 sp_X9_fill := ctr_of (by decide +kernel) rfl (by decide) ok_X9_fill vc_X9_fill

/-! VisitHall, shared -/
def wB (bits place on : Int32) : Int32 := if on = 1 then bits ||| (1 <<< (place &&& 31)) else bits &&& ((1 <<< (place &&& 31)) ^^^ (-1))
def sp_X10_withBit : HSp := fun as w σ K => match as with
  | [.inl b, .inl p, .inl o] => K (some (HI (wB b p o))) w σ
  | _ => False
theorem dX10_withBit_0 : decode cX10_withBit 0 = .ok (.iload_n 2, 1) := by decide +kernel
theorem dX10_withBit_1 : decode cX10_withBit 1 = .ok (.iconst 1, 1) := by decide +kernel
theorem dX10_withBit_2 : decode cX10_withBit 2 = .ok (.if_icmp .ne 11, 3) := by decide +kernel
theorem dX10_withBit_5 : decode cX10_withBit 5 = .ok (.iload_n 0, 1) := by decide +kernel
theorem dX10_withBit_6 : decode cX10_withBit 6 = .ok (.iconst 1, 1) := by decide +kernel
theorem dX10_withBit_7 : decode cX10_withBit 7 = .ok (.iload_n 1, 1) := by decide +kernel
theorem dX10_withBit_8 : decode cX10_withBit 8 = .ok (.ishl, 1) := by decide +kernel
theorem dX10_withBit_9 : decode cX10_withBit 9 = .ok (.ior, 1) := by decide +kernel
theorem dX10_withBit_10 : decode cX10_withBit 10 = .ok (.goto 10, 3) := by decide +kernel
theorem dX10_withBit_13 : decode cX10_withBit 13 = .ok (.iload_n 0, 1) := by decide +kernel
theorem dX10_withBit_14 : decode cX10_withBit 14 = .ok (.iconst 1, 1) := by decide +kernel
theorem dX10_withBit_15 : decode cX10_withBit 15 = .ok (.iload_n 1, 1) := by decide +kernel
theorem dX10_withBit_16 : decode cX10_withBit 16 = .ok (.ishl, 1) := by decide +kernel
theorem dX10_withBit_17 : decode cX10_withBit 17 = .ok (.iconst (-1), 1) := by decide +kernel
theorem dX10_withBit_18 : decode cX10_withBit 18 = .ok (.ixor, 1) := by decide +kernel
theorem dX10_withBit_19 : decode cX10_withBit 19 = .ok (.iand, 1) := by decide +kernel
theorem dX10_withBit_20 : decode cX10_withBit 20 = .ok (.ireturn, 1) := by decide +kernel
def ins_X10_withBit (pc : Nat) : HOp := cond (Nat.blt pc 10) (cond (Nat.blt pc 6) (cond (Nat.blt pc 2) (cond (Nat.blt pc 1) (cond (Nat.beq pc 0) (o_iload 2 1) o_bad) (cond (Nat.beq pc 1) (o_const (1) 2) o_bad)) (cond (Nat.blt pc 5) (cond (Nat.beq pc 2) (o_icmp (fun x y => x = y) 5 13) o_bad) (cond (Nat.beq pc 5) (o_iload 0 6) o_bad))) (cond (Nat.blt pc 8) (cond (Nat.blt pc 7) (cond (Nat.beq pc 6) (o_const (1) 7) o_bad) (cond (Nat.beq pc 7) (o_iload 1 8) o_bad)) (cond (Nat.blt pc 9) (cond (Nat.beq pc 8) (o_bin (fun x y => x <<< (y &&& 31)) 9) o_bad) (cond (Nat.beq pc 9) (o_bin (fun x y => x ||| y) 10) o_bad)))) (cond (Nat.blt pc 16) (cond (Nat.blt pc 14) (cond (Nat.blt pc 13) (cond (Nat.beq pc 10) (o_goto 20) o_bad) (cond (Nat.beq pc 13) (o_iload 0 14) o_bad)) (cond (Nat.blt pc 15) (cond (Nat.beq pc 14) (o_const (1) 15) o_bad) (cond (Nat.beq pc 15) (o_iload 1 16) o_bad))) (cond (Nat.blt pc 18) (cond (Nat.blt pc 17) (cond (Nat.beq pc 16) (o_bin (fun x y => x <<< (y &&& 31)) 17) o_bad) (cond (Nat.beq pc 17) (o_const (-1) 18) o_bad)) (cond (Nat.blt pc 19) (cond (Nat.beq pc 18) (o_bin (fun x y => x ^^^ y) 19) o_bad) (cond (Nat.blt pc 20) (cond (Nat.beq pc 19) (o_bin (fun x y => x &&& y) 20) o_bad) (cond (Nat.beq pc 20) (o_iret) o_bad)))))
set_option maxRecDepth 20000 in
theorem ok_X10_withBit : HOKs cX10_withBit RX10 3 (some .int) 1 ins_X10_withBit := fun _ => hnd (hnd (hnd (hnd (hlf (ok_iload_n dX10_withBit_0 rfl rfl)) (hlf (ok_iconst dX10_withBit_1 (by decide) rfl))) (hnd (hlf (ok_icmp_ne dX10_withBit_2 (by decide) rfl)) (hlf (ok_iload_n dX10_withBit_5 rfl rfl)))) (hnd (hnd (hlf (ok_iconst dX10_withBit_6 (by decide) rfl)) (hlf (ok_iload_n dX10_withBit_7 rfl rfl))) (hnd (hlf (ok_ishl dX10_withBit_8 rfl)) (hlf (ok_ior dX10_withBit_9 rfl))))) (hnd (hnd (hnd (hlf (ok_goto dX10_withBit_10 (by decide))) (hlf (ok_iload_n dX10_withBit_13 rfl rfl))) (hnd (hlf (ok_iconst dX10_withBit_14 (by decide) rfl)) (hlf (ok_iload_n dX10_withBit_15 rfl rfl)))) (hnd (hnd (hlf (ok_ishl dX10_withBit_16 rfl)) (hlf (ok_iconst dX10_withBit_17 (by decide) rfl))) (hnd (hlf (ok_ixor dX10_withBit_18 rfl)) (hnd (hlf (ok_iand dX10_withBit_19 rfl)) (hlf (ok_iret dX10_withBit_20))))))

theorem vc_X10_withBit : MVC ins_X10_withBit 3 3 sp_X10_withBit := by
  refine mvc0 60 fun as w σ q hl hs => ?_
  unfold sp_X10_withBit at hs
  split at hs
  rotate_left
  · exact hs.elim
  rename_i b p o
  unfold wB at hs
  apply br2
  · intro h
    rw [if_pos h] at hs
    exact hs
  · intro h
    rw [if_neg h] at hs
    exact hs
theorem ct_X10_withBit : Ctr yX10_withBit cX10_withBit 3 (some .int) 1 0 0 3 sp_X10_withBit := ctr_of (by decide +kernel) rfl (by decide) ok_X10_withBit vc_X10_withBit

abbrev hvs (h : Int32) : Prop := 0 ≤ h ∧ ¬ h - h / 10 * 10 < 1 ∧ ¬ 4 < h - h / 10 * 10 ∧ ¬ 12 ≤ h / 10 ∧ ¬ 12 < h / 10 + (h - h / 10 * 10)
def sp_X10_areHalves : HSp := fun as w σ K => match as with
  | [.inl h] => spZ (hvs h) w σ K
  | _ => False
theorem dX10_areHalves_0 : decode cX10_areHalves 0 = .ok (.iload_n 0, 1) := by decide +kernel
theorem dX10_areHalves_1 : decode cX10_areHalves 1 = .ok (.ifCond .ge 5, 3) := by decide +kernel
theorem dX10_areHalves_4 : decode cX10_areHalves 4 = .ok (.iconst 0, 1) := by decide +kernel
theorem dX10_areHalves_5 : decode cX10_areHalves 5 = .ok (.ireturn, 1) := by decide +kernel
theorem dX10_areHalves_6 : decode cX10_areHalves 6 = .ok (.iload_n 0, 1) := by decide +kernel
theorem dX10_areHalves_7 : decode cX10_areHalves 7 = .ok (.bipush 10, 2) := by decide +kernel
theorem dX10_areHalves_9 : decode cX10_areHalves 9 = .ok (.idiv, 1) := by decide +kernel
theorem dX10_areHalves_10 : decode cX10_areHalves 10 = .ok (.istore_n 1, 1) := by decide +kernel
theorem dX10_areHalves_11 : decode cX10_areHalves 11 = .ok (.iload_n 0, 1) := by decide +kernel
theorem dX10_areHalves_12 : decode cX10_areHalves 12 = .ok (.bipush 10, 2) := by decide +kernel
theorem dX10_areHalves_14 : decode cX10_areHalves 14 = .ok (.irem, 1) := by decide +kernel
theorem dX10_areHalves_15 : decode cX10_areHalves 15 = .ok (.istore_n 2, 1) := by decide +kernel
theorem dX10_areHalves_16 : decode cX10_areHalves 16 = .ok (.iload_n 2, 1) := by decide +kernel
theorem dX10_areHalves_17 : decode cX10_areHalves 17 = .ok (.iconst 1, 1) := by decide +kernel
theorem dX10_areHalves_18 : decode cX10_areHalves 18 = .ok (.if_icmp .lt 26, 3) := by decide +kernel
theorem dX10_areHalves_21 : decode cX10_areHalves 21 = .ok (.iload_n 2, 1) := by decide +kernel
theorem dX10_areHalves_22 : decode cX10_areHalves 22 = .ok (.iconst 4, 1) := by decide +kernel
theorem dX10_areHalves_23 : decode cX10_areHalves 23 = .ok (.if_icmp .gt 21, 3) := by decide +kernel
theorem dX10_areHalves_26 : decode cX10_areHalves 26 = .ok (.iload_n 1, 1) := by decide +kernel
theorem dX10_areHalves_27 : decode cX10_areHalves 27 = .ok (.bipush 12, 2) := by decide +kernel
theorem dX10_areHalves_29 : decode cX10_areHalves 29 = .ok (.if_icmp .ge 15, 3) := by decide +kernel
theorem dX10_areHalves_32 : decode cX10_areHalves 32 = .ok (.iload_n 1, 1) := by decide +kernel
theorem dX10_areHalves_33 : decode cX10_areHalves 33 = .ok (.iload_n 2, 1) := by decide +kernel
theorem dX10_areHalves_34 : decode cX10_areHalves 34 = .ok (.iadd, 1) := by decide +kernel
theorem dX10_areHalves_35 : decode cX10_areHalves 35 = .ok (.bipush 12, 2) := by decide +kernel
theorem dX10_areHalves_37 : decode cX10_areHalves 37 = .ok (.if_icmp .gt 7, 3) := by decide +kernel
theorem dX10_areHalves_40 : decode cX10_areHalves 40 = .ok (.iconst 1, 1) := by decide +kernel
theorem dX10_areHalves_41 : decode cX10_areHalves 41 = .ok (.goto 4, 3) := by decide +kernel
theorem dX10_areHalves_44 : decode cX10_areHalves 44 = .ok (.iconst 0, 1) := by decide +kernel
theorem dX10_areHalves_45 : decode cX10_areHalves 45 = .ok (.ireturn, 1) := by decide +kernel
def ins_X10_areHalves (pc : Nat) : HOp := cond (Nat.blt pc 21) (cond (Nat.blt pc 10) (cond (Nat.blt pc 5) (cond (Nat.blt pc 1) (cond (Nat.beq pc 0) (o_iload 0 1) o_bad) (cond (Nat.blt pc 4) (cond (Nat.beq pc 1) (o_if (fun x => 0 ≤ x) 6 4) o_bad) (cond (Nat.beq pc 4) (o_const (0) 5) o_bad))) (cond (Nat.blt pc 7) (cond (Nat.blt pc 6) (cond (Nat.beq pc 5) (o_zret) o_bad) (cond (Nat.beq pc 6) (o_iload 0 7) o_bad)) (cond (Nat.blt pc 9) (cond (Nat.beq pc 7) (o_const (10) 9) o_bad) (cond (Nat.beq pc 9) (o_dv (fun x y => x / y) 10) o_bad)))) (cond (Nat.blt pc 15) (cond (Nat.blt pc 12) (cond (Nat.blt pc 11) (cond (Nat.beq pc 10) (o_istore 1 11) o_bad) (cond (Nat.beq pc 11) (o_iload 0 12) o_bad)) (cond (Nat.blt pc 14) (cond (Nat.beq pc 12) (o_const (10) 14) o_bad) (cond (Nat.beq pc 14) (o_dv (fun x y => x - x / y * y) 15) o_bad))) (cond (Nat.blt pc 17) (cond (Nat.blt pc 16) (cond (Nat.beq pc 15) (o_istore 2 16) o_bad) (cond (Nat.beq pc 16) (o_iload 2 17) o_bad)) (cond (Nat.blt pc 18) (cond (Nat.beq pc 17) (o_const (1) 18) o_bad) (cond (Nat.beq pc 18) (o_icmp (fun x y => x < y) 44 21) o_bad))))) (cond (Nat.blt pc 33) (cond (Nat.blt pc 26) (cond (Nat.blt pc 22) (cond (Nat.beq pc 21) (o_iload 2 22) o_bad) (cond (Nat.blt pc 23) (cond (Nat.beq pc 22) (o_const (4) 23) o_bad) (cond (Nat.beq pc 23) (o_icmp (fun x y => y < x) 44 26) o_bad))) (cond (Nat.blt pc 29) (cond (Nat.blt pc 27) (cond (Nat.beq pc 26) (o_iload 1 27) o_bad) (cond (Nat.beq pc 27) (o_const (12) 29) o_bad)) (cond (Nat.blt pc 32) (cond (Nat.beq pc 29) (o_icmp (fun x y => y ≤ x) 44 32) o_bad) (cond (Nat.beq pc 32) (o_iload 1 33) o_bad)))) (cond (Nat.blt pc 40) (cond (Nat.blt pc 35) (cond (Nat.blt pc 34) (cond (Nat.beq pc 33) (o_iload 2 34) o_bad) (cond (Nat.beq pc 34) (o_bin (fun x y => x + y) 35) o_bad)) (cond (Nat.blt pc 37) (cond (Nat.beq pc 35) (o_const (12) 37) o_bad) (cond (Nat.beq pc 37) (o_icmp (fun x y => y < x) 44 40) o_bad))) (cond (Nat.blt pc 44) (cond (Nat.blt pc 41) (cond (Nat.beq pc 40) (o_const (1) 41) o_bad) (cond (Nat.beq pc 41) (o_goto 45) o_bad)) (cond (Nat.blt pc 45) (cond (Nat.beq pc 44) (o_const (0) 45) o_bad) (cond (Nat.beq pc 45) (o_zret) o_bad)))))
set_option maxRecDepth 20000 in
theorem ok_X10_areHalves : HOKs cX10_areHalves RX10 3 (some .boolean) 1 ins_X10_areHalves := fun _ => hnd (hnd (hnd (hnd (hlf (ok_iload_n dX10_areHalves_0 rfl rfl)) (hnd (hlf (ok_if_ge dX10_areHalves_1 (by decide) rfl)) (hlf (ok_iconst dX10_areHalves_4 (by decide) rfl)))) (hnd (hnd (hlf (ok_zret dX10_areHalves_5)) (hlf (ok_iload_n dX10_areHalves_6 rfl rfl))) (hnd (hlf (ok_bipush dX10_areHalves_7 (by decide) rfl)) (hlf (ok_idiv dX10_areHalves_9 rfl))))) (hnd (hnd (hnd (hlf (ok_istore_n dX10_areHalves_10 rfl (by decide) rfl)) (hlf (ok_iload_n dX10_areHalves_11 rfl rfl))) (hnd (hlf (ok_bipush dX10_areHalves_12 (by decide) rfl)) (hlf (ok_irem dX10_areHalves_14 rfl)))) (hnd (hnd (hlf (ok_istore_n dX10_areHalves_15 rfl (by decide) rfl)) (hlf (ok_iload_n dX10_areHalves_16 rfl rfl))) (hnd (hlf (ok_iconst dX10_areHalves_17 (by decide) rfl)) (hlf (ok_icmp_lt dX10_areHalves_18 (by decide) rfl)))))) (hnd (hnd (hnd (hlf (ok_iload_n dX10_areHalves_21 rfl rfl)) (hnd (hlf (ok_iconst dX10_areHalves_22 (by decide) rfl)) (hlf (ok_icmp_gt dX10_areHalves_23 (by decide) rfl)))) (hnd (hnd (hlf (ok_iload_n dX10_areHalves_26 rfl rfl)) (hlf (ok_bipush dX10_areHalves_27 (by decide) rfl))) (hnd (hlf (ok_icmp_ge dX10_areHalves_29 (by decide) rfl)) (hlf (ok_iload_n dX10_areHalves_32 rfl rfl))))) (hnd (hnd (hnd (hlf (ok_iload_n dX10_areHalves_33 rfl rfl)) (hlf (ok_iadd dX10_areHalves_34 rfl))) (hnd (hlf (ok_bipush dX10_areHalves_35 (by decide) rfl)) (hlf (ok_icmp_gt dX10_areHalves_37 (by decide) rfl)))) (hnd (hnd (hlf (ok_iconst dX10_areHalves_40 (by decide) rfl)) (hlf (ok_goto dX10_areHalves_41 (by decide)))) (hnd (hlf (ok_iconst dX10_areHalves_44 (by decide) rfl)) (hlf (ok_zret dX10_areHalves_45))))))

theorem vc_X10_areHalves : MVC ins_X10_areHalves 3 1 sp_X10_areHalves := by
  refine mvc0 80 fun as w σ q hl hs => ?_
  unfold sp_X10_areHalves at hs
  split at hs
  rotate_left
  · exact hs.elim
  rename_i h
  clear hl
  apply br2
  · intro h1
    refine And.intro (by decide) ?_
    refine And.intro (by decide) ?_
    repeat' (first | apply br2 | intro _)
    all_goals first | exact ⟨Or.inl rfl, hs.2 (by grind )⟩ | exact ⟨Or.inr rfl, hs.1 (by grind )⟩
  · intro h1
    exact ⟨Or.inl rfl, hs.2 (fun h => h1 h.1)⟩
theorem ct_X10_areHalves : Ctr yX10_areHalves cX10_areHalves 3 (some .boolean) 1 0 0 1 sp_X10_areHalves := ctr_of (by decide +kernel) rfl (by decide) ok_X10_areHalves vc_X10_areHalves

abbrev mayR (a v : Int32) : Prop := (a = 0 ∧ ¬ v < 1 ∧ ¬ 6 < v) ∨ (a = 1 ∧ ¬ v < 1 ∧ ¬ 100 < v) ∨ a = 2
def sp_X10_mayRule : HSp := fun as w σ K => match as with
  | [.inl a, .inl v] => spZ (mayR a v) w σ K
  | _ => False
theorem dX10_mayRule_0 : decode cX10_mayRule 0 = .ok (.iload_n 0, 1) := by decide +kernel
theorem dX10_mayRule_1 : decode cX10_mayRule 1 = .ok (.lookupswitch 61 #[(0, 27), (1, 44)], 27) := by decide +kernel
theorem dX10_mayRule_28 : decode cX10_mayRule 28 = .ok (.iload_n 1, 1) := by decide +kernel
theorem dX10_mayRule_29 : decode cX10_mayRule 29 = .ok (.iconst 1, 1) := by decide +kernel
theorem dX10_mayRule_30 : decode cX10_mayRule 30 = .ok (.if_icmp .lt 13, 3) := by decide +kernel
theorem dX10_mayRule_33 : decode cX10_mayRule 33 = .ok (.iload_n 1, 1) := by decide +kernel
theorem dX10_mayRule_34 : decode cX10_mayRule 34 = .ok (.bipush 6, 2) := by decide +kernel
theorem dX10_mayRule_36 : decode cX10_mayRule 36 = .ok (.if_icmp .gt 7, 3) := by decide +kernel
theorem dX10_mayRule_39 : decode cX10_mayRule 39 = .ok (.iconst 1, 1) := by decide +kernel
theorem dX10_mayRule_40 : decode cX10_mayRule 40 = .ok (.goto 4, 3) := by decide +kernel
theorem dX10_mayRule_43 : decode cX10_mayRule 43 = .ok (.iconst 0, 1) := by decide +kernel
theorem dX10_mayRule_44 : decode cX10_mayRule 44 = .ok (.ireturn, 1) := by decide +kernel
theorem dX10_mayRule_45 : decode cX10_mayRule 45 = .ok (.iload_n 1, 1) := by decide +kernel
theorem dX10_mayRule_46 : decode cX10_mayRule 46 = .ok (.iconst 1, 1) := by decide +kernel
theorem dX10_mayRule_47 : decode cX10_mayRule 47 = .ok (.if_icmp .lt 13, 3) := by decide +kernel
theorem dX10_mayRule_50 : decode cX10_mayRule 50 = .ok (.iload_n 1, 1) := by decide +kernel
theorem dX10_mayRule_51 : decode cX10_mayRule 51 = .ok (.bipush 100, 2) := by decide +kernel
theorem dX10_mayRule_53 : decode cX10_mayRule 53 = .ok (.if_icmp .gt 7, 3) := by decide +kernel
theorem dX10_mayRule_56 : decode cX10_mayRule 56 = .ok (.iconst 1, 1) := by decide +kernel
theorem dX10_mayRule_57 : decode cX10_mayRule 57 = .ok (.goto 4, 3) := by decide +kernel
theorem dX10_mayRule_60 : decode cX10_mayRule 60 = .ok (.iconst 0, 1) := by decide +kernel
theorem dX10_mayRule_61 : decode cX10_mayRule 61 = .ok (.ireturn, 1) := by decide +kernel
theorem dX10_mayRule_62 : decode cX10_mayRule 62 = .ok (.iload_n 0, 1) := by decide +kernel
theorem dX10_mayRule_63 : decode cX10_mayRule 63 = .ok (.iconst 2, 1) := by decide +kernel
theorem dX10_mayRule_64 : decode cX10_mayRule 64 = .ok (.if_icmp .ne 7, 3) := by decide +kernel
theorem dX10_mayRule_67 : decode cX10_mayRule 67 = .ok (.iconst 1, 1) := by decide +kernel
theorem dX10_mayRule_68 : decode cX10_mayRule 68 = .ok (.goto 4, 3) := by decide +kernel
theorem dX10_mayRule_71 : decode cX10_mayRule 71 = .ok (.iconst 0, 1) := by decide +kernel
theorem dX10_mayRule_72 : decode cX10_mayRule 72 = .ok (.ireturn, 1) := by decide +kernel
def ins_X10_mayRule (pc : Nat) : HOp := cond (Nat.blt pc 47) (cond (Nat.blt pc 36) (cond (Nat.blt pc 29) (cond (Nat.blt pc 1) (cond (Nat.beq pc 0) (o_iload 0 1) o_bad) (cond (Nat.blt pc 28) (cond (Nat.beq pc 1) (o_sw [(0, 28), (1, 45)] 62) o_bad) (cond (Nat.beq pc 28) (o_iload 1 29) o_bad))) (cond (Nat.blt pc 33) (cond (Nat.blt pc 30) (cond (Nat.beq pc 29) (o_const (1) 30) o_bad) (cond (Nat.beq pc 30) (o_icmp (fun x y => x < y) 43 33) o_bad)) (cond (Nat.blt pc 34) (cond (Nat.beq pc 33) (o_iload 1 34) o_bad) (cond (Nat.beq pc 34) (o_const (6) 36) o_bad)))) (cond (Nat.blt pc 43) (cond (Nat.blt pc 39) (cond (Nat.beq pc 36) (o_icmp (fun x y => y < x) 43 39) o_bad) (cond (Nat.blt pc 40) (cond (Nat.beq pc 39) (o_const (1) 40) o_bad) (cond (Nat.beq pc 40) (o_goto 44) o_bad))) (cond (Nat.blt pc 45) (cond (Nat.blt pc 44) (cond (Nat.beq pc 43) (o_const (0) 44) o_bad) (cond (Nat.beq pc 44) (o_zret) o_bad)) (cond (Nat.blt pc 46) (cond (Nat.beq pc 45) (o_iload 1 46) o_bad) (cond (Nat.beq pc 46) (o_const (1) 47) o_bad))))) (cond (Nat.blt pc 61) (cond (Nat.blt pc 53) (cond (Nat.blt pc 50) (cond (Nat.beq pc 47) (o_icmp (fun x y => x < y) 60 50) o_bad) (cond (Nat.blt pc 51) (cond (Nat.beq pc 50) (o_iload 1 51) o_bad) (cond (Nat.beq pc 51) (o_const (100) 53) o_bad))) (cond (Nat.blt pc 57) (cond (Nat.blt pc 56) (cond (Nat.beq pc 53) (o_icmp (fun x y => y < x) 60 56) o_bad) (cond (Nat.beq pc 56) (o_const (1) 57) o_bad)) (cond (Nat.blt pc 60) (cond (Nat.beq pc 57) (o_goto 61) o_bad) (cond (Nat.beq pc 60) (o_const (0) 61) o_bad)))) (cond (Nat.blt pc 67) (cond (Nat.blt pc 63) (cond (Nat.blt pc 62) (cond (Nat.beq pc 61) (o_zret) o_bad) (cond (Nat.beq pc 62) (o_iload 0 63) o_bad)) (cond (Nat.blt pc 64) (cond (Nat.beq pc 63) (o_const (2) 64) o_bad) (cond (Nat.beq pc 64) (o_icmp (fun x y => x = y) 67 71) o_bad))) (cond (Nat.blt pc 71) (cond (Nat.blt pc 68) (cond (Nat.beq pc 67) (o_const (1) 68) o_bad) (cond (Nat.beq pc 68) (o_goto 72) o_bad)) (cond (Nat.blt pc 72) (cond (Nat.beq pc 71) (o_const (0) 72) o_bad) (cond (Nat.beq pc 72) (o_zret) o_bad)))))
set_option maxRecDepth 20000 in
theorem ok_X10_mayRule : HOKs cX10_mayRule RX10 2 (some .boolean) 1 ins_X10_mayRule := fun _ => hnd (hnd (hnd (hnd (hlf (ok_iload_n dX10_mayRule_0 rfl rfl)) (hnd (hlf (ok_lsw dX10_mayRule_1 (by decide) (by decide) (by decide))) (hlf (ok_iload_n dX10_mayRule_28 rfl rfl)))) (hnd (hnd (hlf (ok_iconst dX10_mayRule_29 (by decide) rfl)) (hlf (ok_icmp_lt dX10_mayRule_30 (by decide) rfl))) (hnd (hlf (ok_iload_n dX10_mayRule_33 rfl rfl)) (hlf (ok_bipush dX10_mayRule_34 (by decide) rfl))))) (hnd (hnd (hlf (ok_icmp_gt dX10_mayRule_36 (by decide) rfl)) (hnd (hlf (ok_iconst dX10_mayRule_39 (by decide) rfl)) (hlf (ok_goto dX10_mayRule_40 (by decide))))) (hnd (hnd (hlf (ok_iconst dX10_mayRule_43 (by decide) rfl)) (hlf (ok_zret dX10_mayRule_44))) (hnd (hlf (ok_iload_n dX10_mayRule_45 rfl rfl)) (hlf (ok_iconst dX10_mayRule_46 (by decide) rfl)))))) (hnd (hnd (hnd (hlf (ok_icmp_lt dX10_mayRule_47 (by decide) rfl)) (hnd (hlf (ok_iload_n dX10_mayRule_50 rfl rfl)) (hlf (ok_bipush dX10_mayRule_51 (by decide) rfl)))) (hnd (hnd (hlf (ok_icmp_gt dX10_mayRule_53 (by decide) rfl)) (hlf (ok_iconst dX10_mayRule_56 (by decide) rfl))) (hnd (hlf (ok_goto dX10_mayRule_57 (by decide))) (hlf (ok_iconst dX10_mayRule_60 (by decide) rfl))))) (hnd (hnd (hnd (hlf (ok_zret dX10_mayRule_61)) (hlf (ok_iload_n dX10_mayRule_62 rfl rfl))) (hnd (hlf (ok_iconst dX10_mayRule_63 (by decide) rfl)) (hlf (ok_icmp_ne dX10_mayRule_64 (by decide) rfl)))) (hnd (hnd (hlf (ok_iconst dX10_mayRule_67 (by decide) rfl)) (hlf (ok_goto dX10_mayRule_68 (by decide)))) (hnd (hlf (ok_iconst dX10_mayRule_71 (by decide) rfl)) (hlf (ok_zret dX10_mayRule_72))))))

theorem vc_X10_mayRule : MVC ins_X10_mayRule 2 2 sp_X10_mayRule := by
  refine mvc0 60 fun as w σ q hl hs => ?_
  unfold sp_X10_mayRule at hs
  split at hs
  rotate_left
  · exact hs.elim
  rename_i a v
  clear hl
  repeat' (first | apply br2 | intro _)
  all_goals first | exact ⟨Or.inl rfl, hs.2 (by grind)⟩ | exact ⟨Or.inr rfl, hs.1 (by grind)⟩
theorem ct_X10_mayRule : Ctr yX10_mayRule cX10_mayRule 2 (some .boolean) 1 0 0 2 sp_X10_mayRule := ctr_of (by decide +kernel) rfl (by decide) ok_X10_mayRule vc_X10_mayRule

