/-! VisitHall.Sheet, Tape, Right, Prisoner -/
def sp_X7_isMissing : HSp := fun as w σ K => match as with
  | [.inr (.inl (7, some s))] => spZ (σ 7 s 1 = -1) w σ K
  | _ => False
theorem dX7_isMissing_0 : decode cX7_isMissing 0 = .ok (.aload_n 0, 1) := by decide +kernel
theorem dX7_isMissing_1 : decode cX7_isMissing 1 = .ok (.getfield 13, 3) := by decide +kernel
theorem dX7_isMissing_4 : decode cX7_isMissing 4 = .ok (.iconst (-1), 1) := by decide +kernel
theorem dX7_isMissing_5 : decode cX7_isMissing 5 = .ok (.if_icmp .ne 7, 3) := by decide +kernel
theorem dX7_isMissing_8 : decode cX7_isMissing 8 = .ok (.iconst 1, 1) := by decide +kernel
theorem dX7_isMissing_9 : decode cX7_isMissing 9 = .ok (.goto 4, 3) := by decide +kernel
theorem dX7_isMissing_12 : decode cX7_isMissing 12 = .ok (.iconst 0, 1) := by decide +kernel
theorem dX7_isMissing_13 : decode cX7_isMissing 13 = .ok (.ireturn, 1) := by decide +kernel
def ins_X7_isMissing (pc : Nat) : HOp := cond (Nat.blt pc 8) (cond (Nat.blt pc 4) (cond (Nat.blt pc 1) (cond (Nat.beq pc 0) (o_aload 0 1) o_bad) (cond (Nat.beq pc 1) (o_getf 7 1 4) o_bad)) (cond (Nat.blt pc 5) (cond (Nat.beq pc 4) (o_const (-1) 5) o_bad) (cond (Nat.beq pc 5) (o_icmp (fun x y => x = y) 8 12) o_bad))) (cond (Nat.blt pc 12) (cond (Nat.blt pc 9) (cond (Nat.beq pc 8) (o_const (1) 9) o_bad) (cond (Nat.beq pc 9) (o_goto 13) o_bad)) (cond (Nat.blt pc 13) (cond (Nat.beq pc 12) (o_const (0) 13) o_bad) (cond (Nat.beq pc 13) (o_zret) o_bad)))
set_option maxRecDepth 20000 in
theorem ok_X7_isMissing : HOKs cX7_isMissing RX7 1 (some .boolean) 1 ins_X7_isMissing := fun _ => hnd (hnd (hnd (hlf (ok_aload_n dX7_isMissing_0 rfl rfl)) (hlf (ok_getf (C := RX7) (T := TX7) dX7_isMissing_1 rfl rfl (by decide) rfl inX7 wd_172 rfl))) (hnd (hlf (ok_iconst dX7_isMissing_4 (by decide) rfl)) (hlf (ok_icmp_ne dX7_isMissing_5 (by decide) rfl)))) (hnd (hnd (hlf (ok_iconst dX7_isMissing_8 (by decide) rfl)) (hlf (ok_goto dX7_isMissing_9 (by decide)))) (hnd (hlf (ok_iconst dX7_isMissing_12 (by decide) rfl)) (hlf (ok_zret dX7_isMissing_13))))

theorem vc_X7_isMissing : MVC ins_X7_isMissing 1 1 sp_X7_isMissing := by
  refine mvc0 40 fun as w σ q hl hs => ?_
  unfold sp_X7_isMissing at hs
  split at hs
  rotate_left
  · exact hs.elim
  rename_i s
  clear hl
  repeat' (first | apply br2 | intro _)
  all_goals first | exact ⟨Or.inl rfl, hs.2 (by grind)⟩ | exact ⟨Or.inr rfl, hs.1 (by grind)⟩
theorem ct_X7_isMissing : Ctr yX7_isMissing cX7_isMissing 1 (some .boolean) 1 0 0 1 sp_X7_isMissing := ctr_of (by decide +kernel) rfl (by decide) ok_X7_isMissing vc_X7_isMissing

def sp_X7_has : HSp := fun as w σ K => match as with
  | [.inr (.inl (7, some s)), .inl x] => spZ (0 ≤ x ∧ x < σ 7 s 1) w σ K
  | _ => False
theorem dX7_has_0 : decode cX7_has 0 = .ok (.iload_n 1, 1) := by decide +kernel
theorem dX7_has_1 : decode cX7_has 1 = .ok (.aload_n 0, 1) := by decide +kernel
theorem dX7_has_2 : decode cX7_has 2 = .ok (.getfield 13, 3) := by decide +kernel
theorem dX7_has_5 : decode cX7_has 5 = .ok (.invokestatic 23, 3) := by decide +kernel
theorem dX7_has_8 : decode cX7_has 8 = .ok (.ireturn, 1) := by decide +kernel
def ins_X7_has (pc : Nat) : HOp := cond (Nat.blt pc 2) (cond (Nat.blt pc 1) (cond (Nat.beq pc 0) (o_iload 1 1) o_bad) (cond (Nat.beq pc 1) (o_aload 0 2) o_bad)) (cond (Nat.blt pc 5) (cond (Nat.beq pc 2) (o_getf 7 1 5) o_bad) (cond (Nat.blt pc 8) (cond (Nat.beq pc 5) (o_callS 2 sp_X10_isBelow 8) o_bad) (cond (Nat.beq pc 8) (o_zret) o_bad)))
set_option maxRecDepth 20000 in
theorem ok_X7_has : HOKs cX7_has RX7 2 (some .boolean) 2 ins_X7_has := fun _ => hnd (hnd (hlf (ok_iload_n dX7_has_0 rfl rfl)) (hlf (ok_aload_n dX7_has_1 rfl rfl))) (hnd (hlf (ok_getf (C := RX7) (T := TX7) dX7_has_2 rfl rfl (by decide) rfl inX7 wd_172 rfl)) (hnd (hlf (ok_callSN (y := yX10_isBelow) dX7_has_5 ct_X10_isBelow (by decide) (by decide) wd_319 wd_500 wd_318 wd_41 (by decide +kernel) rfl)) (hlf (ok_zret dX7_has_8))))

theorem vc_X7_has : MVC ins_X7_has 2 2 sp_X7_has := by
  refine mvc0 40 fun as w σ q hl hs => ?_
  unfold sp_X7_has at hs
  split at hs
  rotate_left
  · exact hs.elim
  rename_i s x
  exact br2 (fun h => ⟨Or.inr rfl, hs.1 h⟩) (fun h => ⟨Or.inl rfl, hs.2 h⟩)
theorem ct_X7_has : Ctr yX7_has cX7_has 2 (some .boolean) 2 0 0 2 sp_X7_has := ctr_of (by decide +kernel) rfl (by decide) ok_X7_has vc_X7_has

def sp_X7_hasRun : HSp := fun as w σ K => match as with
  | [.inr (.inl (7, some s)), .inl p, .inl m] => spZ (¬ m < 0 ∧ ¬ σ 7 s 1 < m ∧ ¬ p < 0 ∧ ¬ σ 7 s 1 - m < p) w σ K
  | _ => False
theorem dX7_hasRun_0 : decode cX7_hasRun 0 = .ok (.iload_n 2, 1) := by decide +kernel
theorem dX7_hasRun_1 : decode cX7_hasRun 1 = .ok (.ifCond .lt 29, 3) := by decide +kernel
theorem dX7_hasRun_4 : decode cX7_hasRun 4 = .ok (.iload_n 2, 1) := by decide +kernel
theorem dX7_hasRun_5 : decode cX7_hasRun 5 = .ok (.aload_n 0, 1) := by decide +kernel
theorem dX7_hasRun_6 : decode cX7_hasRun 6 = .ok (.getfield 13, 3) := by decide +kernel
theorem dX7_hasRun_9 : decode cX7_hasRun 9 = .ok (.if_icmp .gt 21, 3) := by decide +kernel
theorem dX7_hasRun_12 : decode cX7_hasRun 12 = .ok (.iload_n 1, 1) := by decide +kernel
theorem dX7_hasRun_13 : decode cX7_hasRun 13 = .ok (.ifCond .lt 17, 3) := by decide +kernel
theorem dX7_hasRun_16 : decode cX7_hasRun 16 = .ok (.iload_n 1, 1) := by decide +kernel
theorem dX7_hasRun_17 : decode cX7_hasRun 17 = .ok (.aload_n 0, 1) := by decide +kernel
theorem dX7_hasRun_18 : decode cX7_hasRun 18 = .ok (.getfield 13, 3) := by decide +kernel
theorem dX7_hasRun_21 : decode cX7_hasRun 21 = .ok (.iload_n 2, 1) := by decide +kernel
theorem dX7_hasRun_22 : decode cX7_hasRun 22 = .ok (.isub, 1) := by decide +kernel
theorem dX7_hasRun_23 : decode cX7_hasRun 23 = .ok (.if_icmp .gt 7, 3) := by decide +kernel
theorem dX7_hasRun_26 : decode cX7_hasRun 26 = .ok (.iconst 1, 1) := by decide +kernel
theorem dX7_hasRun_27 : decode cX7_hasRun 27 = .ok (.goto 4, 3) := by decide +kernel
theorem dX7_hasRun_30 : decode cX7_hasRun 30 = .ok (.iconst 0, 1) := by decide +kernel
theorem dX7_hasRun_31 : decode cX7_hasRun 31 = .ok (.ireturn, 1) := by decide +kernel
def ins_X7_hasRun (pc : Nat) : HOp := cond (Nat.blt pc 17) (cond (Nat.blt pc 6) (cond (Nat.blt pc 4) (cond (Nat.blt pc 1) (cond (Nat.beq pc 0) (o_iload 2 1) o_bad) (cond (Nat.beq pc 1) (o_if (fun x => x < 0) 30 4) o_bad)) (cond (Nat.blt pc 5) (cond (Nat.beq pc 4) (o_iload 2 5) o_bad) (cond (Nat.beq pc 5) (o_aload 0 6) o_bad))) (cond (Nat.blt pc 12) (cond (Nat.blt pc 9) (cond (Nat.beq pc 6) (o_getf 7 1 9) o_bad) (cond (Nat.beq pc 9) (o_icmp (fun x y => y < x) 30 12) o_bad)) (cond (Nat.blt pc 13) (cond (Nat.beq pc 12) (o_iload 1 13) o_bad) (cond (Nat.blt pc 16) (cond (Nat.beq pc 13) (o_if (fun x => x < 0) 30 16) o_bad) (cond (Nat.beq pc 16) (o_iload 1 17) o_bad))))) (cond (Nat.blt pc 23) (cond (Nat.blt pc 21) (cond (Nat.blt pc 18) (cond (Nat.beq pc 17) (o_aload 0 18) o_bad) (cond (Nat.beq pc 18) (o_getf 7 1 21) o_bad)) (cond (Nat.blt pc 22) (cond (Nat.beq pc 21) (o_iload 2 22) o_bad) (cond (Nat.beq pc 22) (o_bin (fun x y => x - y) 23) o_bad))) (cond (Nat.blt pc 27) (cond (Nat.blt pc 26) (cond (Nat.beq pc 23) (o_icmp (fun x y => y < x) 30 26) o_bad) (cond (Nat.beq pc 26) (o_const (1) 27) o_bad)) (cond (Nat.blt pc 30) (cond (Nat.beq pc 27) (o_goto 31) o_bad) (cond (Nat.blt pc 31) (cond (Nat.beq pc 30) (o_const (0) 31) o_bad) (cond (Nat.beq pc 31) (o_zret) o_bad)))))
set_option maxRecDepth 20000 in
theorem ok_X7_hasRun : HOKs cX7_hasRun RX7 3 (some .boolean) 1 ins_X7_hasRun := fun _ => hnd (hnd (hnd (hnd (hlf (ok_iload_n dX7_hasRun_0 rfl rfl)) (hlf (ok_if_lt dX7_hasRun_1 (by decide) rfl))) (hnd (hlf (ok_iload_n dX7_hasRun_4 rfl rfl)) (hlf (ok_aload_n dX7_hasRun_5 rfl rfl)))) (hnd (hnd (hlf (ok_getf (C := RX7) (T := TX7) dX7_hasRun_6 rfl rfl (by decide) rfl inX7 wd_172 rfl)) (hlf (ok_icmp_gt dX7_hasRun_9 (by decide) rfl))) (hnd (hlf (ok_iload_n dX7_hasRun_12 rfl rfl)) (hnd (hlf (ok_if_lt dX7_hasRun_13 (by decide) rfl)) (hlf (ok_iload_n dX7_hasRun_16 rfl rfl)))))) (hnd (hnd (hnd (hlf (ok_aload_n dX7_hasRun_17 rfl rfl)) (hlf (ok_getf (C := RX7) (T := TX7) dX7_hasRun_18 rfl rfl (by decide) rfl inX7 wd_172 rfl))) (hnd (hlf (ok_iload_n dX7_hasRun_21 rfl rfl)) (hlf (ok_isub dX7_hasRun_22 rfl)))) (hnd (hnd (hlf (ok_icmp_gt dX7_hasRun_23 (by decide) rfl)) (hlf (ok_iconst dX7_hasRun_26 (by decide) rfl))) (hnd (hlf (ok_goto dX7_hasRun_27 (by decide))) (hnd (hlf (ok_iconst dX7_hasRun_30 (by decide) rfl)) (hlf (ok_zret dX7_hasRun_31))))))

theorem vc_X7_hasRun : MVC ins_X7_hasRun 3 3 sp_X7_hasRun := by
  refine mvc0 60 fun as w σ q hl hs => ?_
  unfold sp_X7_hasRun at hs
  split at hs
  rotate_left
  · exact hs.elim
  rename_i s p m
  clear hl
  repeat' (first | apply br2 | intro _)
  all_goals first | exact ⟨Or.inl rfl, hs.2 (by grind)⟩ | exact ⟨Or.inr rfl, hs.1 (by grind)⟩
theorem ct_X7_hasRun : Ctr yX7_hasRun cX7_hasRun 3 (some .boolean) 1 0 0 3 sp_X7_hasRun := ctr_of (by decide +kernel) rfl (by decide) ok_X7_hasRun vc_X7_hasRun

def sp_X8_hasRoom : HSp := fun as w σ K => match as with
  | [.inr (.inl (8, some 0))] => spZ (¬ 60 < σ 8 0 1 + 12) w σ K
  | _ => False
theorem dX8_hasRoom_0 : decode cX8_hasRoom 0 = .ok (.aload_n 0, 1) := by decide +kernel
theorem dX8_hasRoom_1 : decode cX8_hasRoom 1 = .ok (.getfield 13, 3) := by decide +kernel
theorem dX8_hasRoom_4 : decode cX8_hasRoom 4 = .ok (.bipush 12, 2) := by decide +kernel
theorem dX8_hasRoom_6 : decode cX8_hasRoom 6 = .ok (.iadd, 1) := by decide +kernel
theorem dX8_hasRoom_7 : decode cX8_hasRoom 7 = .ok (.bipush 60, 2) := by decide +kernel
theorem dX8_hasRoom_9 : decode cX8_hasRoom 9 = .ok (.if_icmp .gt 7, 3) := by decide +kernel
theorem dX8_hasRoom_12 : decode cX8_hasRoom 12 = .ok (.iconst 1, 1) := by decide +kernel
theorem dX8_hasRoom_13 : decode cX8_hasRoom 13 = .ok (.goto 4, 3) := by decide +kernel
theorem dX8_hasRoom_16 : decode cX8_hasRoom 16 = .ok (.iconst 0, 1) := by decide +kernel
theorem dX8_hasRoom_17 : decode cX8_hasRoom 17 = .ok (.ireturn, 1) := by decide +kernel
def ins_X8_hasRoom (pc : Nat) : HOp := cond (Nat.blt pc 9) (cond (Nat.blt pc 4) (cond (Nat.blt pc 1) (cond (Nat.beq pc 0) (o_aload 0 1) o_bad) (cond (Nat.beq pc 1) (o_getf 8 1 4) o_bad)) (cond (Nat.blt pc 6) (cond (Nat.beq pc 4) (o_const (12) 6) o_bad) (cond (Nat.blt pc 7) (cond (Nat.beq pc 6) (o_bin (fun x y => x + y) 7) o_bad) (cond (Nat.beq pc 7) (o_const (60) 9) o_bad)))) (cond (Nat.blt pc 13) (cond (Nat.blt pc 12) (cond (Nat.beq pc 9) (o_icmp (fun x y => y < x) 16 12) o_bad) (cond (Nat.beq pc 12) (o_const (1) 13) o_bad)) (cond (Nat.blt pc 16) (cond (Nat.beq pc 13) (o_goto 17) o_bad) (cond (Nat.blt pc 17) (cond (Nat.beq pc 16) (o_const (0) 17) o_bad) (cond (Nat.beq pc 17) (o_zret) o_bad))))
set_option maxRecDepth 20000 in
theorem ok_X8_hasRoom : HOKs cX8_hasRoom RX8 1 (some .boolean) 1 ins_X8_hasRoom := fun _ => hnd (hnd (hnd (hlf (ok_aload_n dX8_hasRoom_0 rfl rfl)) (hlf (ok_getf (C := RX8) (T := TX8) dX8_hasRoom_1 rfl rfl (by decide) rfl inX8 wd_106 rfl))) (hnd (hlf (ok_bipush dX8_hasRoom_4 (by decide) rfl)) (hnd (hlf (ok_iadd dX8_hasRoom_6 rfl)) (hlf (ok_bipush dX8_hasRoom_7 (by decide) rfl))))) (hnd (hnd (hlf (ok_icmp_gt dX8_hasRoom_9 (by decide) rfl)) (hlf (ok_iconst dX8_hasRoom_12 (by decide) rfl))) (hnd (hlf (ok_goto dX8_hasRoom_13 (by decide))) (hnd (hlf (ok_iconst dX8_hasRoom_16 (by decide) rfl)) (hlf (ok_zret dX8_hasRoom_17)))))

theorem vc_X8_hasRoom : MVC ins_X8_hasRoom 1 1 sp_X8_hasRoom := by
  refine mvc0 60 fun as w σ q hl hs => ?_
  unfold sp_X8_hasRoom at hs
  split at hs
  rotate_left
  · exact hs.elim
  clear hl
  repeat' (first | apply br2 | intro _)
  all_goals first | exact ⟨Or.inl rfl, hs.2 (by grind)⟩ | exact ⟨Or.inr rfl, hs.1 (by grind)⟩
theorem ct_X8_hasRoom : Ctr yX8_hasRoom cX8_hasRoom 1 (some .boolean) 1 0 0 1 sp_X8_hasRoom := ctr_of (by decide +kernel) rfl (by decide) ok_X8_hasRoom vc_X8_hasRoom

abbrev alw (σ : HS) (r v : Nat) : Prop := σ 4 r 5 >>> ((σ 9 v 2 - σ 9 v 2 / 7 * 7) &&& 31) &&& 1 = 0 ∧ ¬ σ 4 r 4 < σ 9 v 4
def sp_X4_allows : HSp := fun as w σ K => match as with
  | [.inr (.inl (4, some r)), .inr (.inl (9, some v))] => spZ (alw σ r v) w σ K
  | _ => False
theorem dX4_allows_0 : decode cX4_allows 0 = .ok (.aload_n 0, 1) := by decide +kernel
theorem dX4_allows_1 : decode cX4_allows 1 = .ok (.getfield 19, 3) := by decide +kernel
theorem dX4_allows_4 : decode cX4_allows 4 = .ok (.aload_n 1, 1) := by decide +kernel
theorem dX4_allows_5 : decode cX4_allows 5 = .ok (.getfield 22, 3) := by decide +kernel
theorem dX4_allows_8 : decode cX4_allows 8 = .ok (.bipush 7, 2) := by decide +kernel
theorem dX4_allows_10 : decode cX4_allows 10 = .ok (.irem, 1) := by decide +kernel
theorem dX4_allows_11 : decode cX4_allows 11 = .ok (.ishr, 1) := by decide +kernel
theorem dX4_allows_12 : decode cX4_allows 12 = .ok (.iconst 1, 1) := by decide +kernel
theorem dX4_allows_13 : decode cX4_allows 13 = .ok (.iand, 1) := by decide +kernel
theorem dX4_allows_14 : decode cX4_allows 14 = .ok (.ifCond .ne 18, 3) := by decide +kernel
theorem dX4_allows_17 : decode cX4_allows 17 = .ok (.aload_n 1, 1) := by decide +kernel
theorem dX4_allows_18 : decode cX4_allows 18 = .ok (.getfield 27, 3) := by decide +kernel
theorem dX4_allows_21 : decode cX4_allows 21 = .ok (.aload_n 0, 1) := by decide +kernel
theorem dX4_allows_22 : decode cX4_allows 22 = .ok (.getfield 16, 3) := by decide +kernel
theorem dX4_allows_25 : decode cX4_allows 25 = .ok (.if_icmp .gt 7, 3) := by decide +kernel
theorem dX4_allows_28 : decode cX4_allows 28 = .ok (.iconst 1, 1) := by decide +kernel
theorem dX4_allows_29 : decode cX4_allows 29 = .ok (.goto 4, 3) := by decide +kernel
theorem dX4_allows_32 : decode cX4_allows 32 = .ok (.iconst 0, 1) := by decide +kernel
theorem dX4_allows_33 : decode cX4_allows 33 = .ok (.ireturn, 1) := by decide +kernel
def ins_X4_allows (pc : Nat) : HOp := cond (Nat.blt pc 14) (cond (Nat.blt pc 8) (cond (Nat.blt pc 4) (cond (Nat.blt pc 1) (cond (Nat.beq pc 0) (o_aload 0 1) o_bad) (cond (Nat.beq pc 1) (o_getf 4 5 4) o_bad)) (cond (Nat.blt pc 5) (cond (Nat.beq pc 4) (o_aload 1 5) o_bad) (cond (Nat.beq pc 5) (o_getf 9 2 8) o_bad))) (cond (Nat.blt pc 11) (cond (Nat.blt pc 10) (cond (Nat.beq pc 8) (o_const (7) 10) o_bad) (cond (Nat.beq pc 10) (o_dv (fun x y => x - x / y * y) 11) o_bad)) (cond (Nat.blt pc 12) (cond (Nat.beq pc 11) (o_bin (fun x y => x >>> (y &&& 31)) 12) o_bad) (cond (Nat.blt pc 13) (cond (Nat.beq pc 12) (o_const (1) 13) o_bad) (cond (Nat.beq pc 13) (o_bin (fun x y => x &&& y) 14) o_bad))))) (cond (Nat.blt pc 25) (cond (Nat.blt pc 18) (cond (Nat.blt pc 17) (cond (Nat.beq pc 14) (o_if (fun x => x = 0) 17 32) o_bad) (cond (Nat.beq pc 17) (o_aload 1 18) o_bad)) (cond (Nat.blt pc 21) (cond (Nat.beq pc 18) (o_getf 9 4 21) o_bad) (cond (Nat.blt pc 22) (cond (Nat.beq pc 21) (o_aload 0 22) o_bad) (cond (Nat.beq pc 22) (o_getf 4 4 25) o_bad)))) (cond (Nat.blt pc 29) (cond (Nat.blt pc 28) (cond (Nat.beq pc 25) (o_icmp (fun x y => y < x) 32 28) o_bad) (cond (Nat.beq pc 28) (o_const (1) 29) o_bad)) (cond (Nat.blt pc 32) (cond (Nat.beq pc 29) (o_goto 33) o_bad) (cond (Nat.blt pc 33) (cond (Nat.beq pc 32) (o_const (0) 33) o_bad) (cond (Nat.beq pc 33) (o_zret) o_bad)))))
set_option maxRecDepth 20000 in
theorem ok_X4_allows : HOKs cX4_allows RX4 2 (some .boolean) 1 ins_X4_allows := fun _ => hnd (hnd (hnd (hnd (hlf (ok_aload_n dX4_allows_0 rfl rfl)) (hlf (ok_getf (C := RX4) (T := TX4) dX4_allows_1 rfl rfl (by decide) rfl inX4 wd_599 rfl))) (hnd (hlf (ok_aload_n dX4_allows_4 rfl rfl)) (hlf (ok_getfN (C := RX9) (T := TX9) dX4_allows_5 rfl rfl (by decide) rfl inX9 wd_243 rfl)))) (hnd (hnd (hlf (ok_bipush dX4_allows_8 (by decide) rfl)) (hlf (ok_irem dX4_allows_10 rfl))) (hnd (hlf (ok_ishr dX4_allows_11 rfl)) (hnd (hlf (ok_iconst dX4_allows_12 (by decide) rfl)) (hlf (ok_iand dX4_allows_13 rfl)))))) (hnd (hnd (hnd (hlf (ok_if_ne dX4_allows_14 (by decide) rfl)) (hlf (ok_aload_n dX4_allows_17 rfl rfl))) (hnd (hlf (ok_getfN (C := RX9) (T := TX9) dX4_allows_18 rfl rfl (by decide) rfl inX9 wd_252 rfl)) (hnd (hlf (ok_aload_n dX4_allows_21 rfl rfl)) (hlf (ok_getf (C := RX4) (T := TX4) dX4_allows_22 rfl rfl (by decide) rfl inX4 wd_596 rfl))))) (hnd (hnd (hlf (ok_icmp_gt dX4_allows_25 (by decide) rfl)) (hlf (ok_iconst dX4_allows_28 (by decide) rfl))) (hnd (hlf (ok_goto dX4_allows_29 (by decide))) (hnd (hlf (ok_iconst dX4_allows_32 (by decide) rfl)) (hlf (ok_zret dX4_allows_33))))))

theorem vc_X4_allows : MVC ins_X4_allows 2 2 sp_X4_allows := by
  refine mvc0 60 fun as w σ q hl hs => ?_
  unfold sp_X4_allows at hs
  split at hs
  rotate_left
  · exact hs.elim
  rename_i r v
  clear hl
  refine And.intro (by decide) ?_
  repeat' (first | apply br2 | intro _)
  all_goals first | exact ⟨Or.inl rfl, hs.2 (by grind)⟩ | exact ⟨Or.inr rfl, hs.1 (by grind)⟩
theorem ct_X4_allows : Ctr yX4_allows cX4_allows 2 (some .boolean) 1 0 0 2 sp_X4_allows := ctr_of (by decide +kernel) rfl (by decide) ok_X4_allows vc_X4_allows

def sp_X4_gives : HSp := fun as w σ K => match as with
  | [.inr (.inl (4, some r)), .inl b] => K (some (HI (if b = 0 then σ 4 r 0 else σ 4 r 0 + σ 4 r 3))) w σ
  | _ => False
theorem dX4_gives_0 : decode cX4_gives 0 = .ok (.iload_n 1, 1) := by decide +kernel
theorem dX4_gives_1 : decode cX4_gives 1 = .ok (.ifCond .eq 15, 3) := by decide +kernel
theorem dX4_gives_4 : decode cX4_gives 4 = .ok (.aload_n 0, 1) := by decide +kernel
theorem dX4_gives_5 : decode cX4_gives 5 = .ok (.getfield 30, 3) := by decide +kernel
theorem dX4_gives_8 : decode cX4_gives 8 = .ok (.aload_n 0, 1) := by decide +kernel
theorem dX4_gives_9 : decode cX4_gives 9 = .ok (.getfield 33, 3) := by decide +kernel
theorem dX4_gives_12 : decode cX4_gives 12 = .ok (.iadd, 1) := by decide +kernel
theorem dX4_gives_13 : decode cX4_gives 13 = .ok (.goto 7, 3) := by decide +kernel
theorem dX4_gives_16 : decode cX4_gives 16 = .ok (.aload_n 0, 1) := by decide +kernel
theorem dX4_gives_17 : decode cX4_gives 17 = .ok (.getfield 30, 3) := by decide +kernel
theorem dX4_gives_20 : decode cX4_gives 20 = .ok (.ireturn, 1) := by decide +kernel
def ins_X4_gives (pc : Nat) : HOp := cond (Nat.blt pc 9) (cond (Nat.blt pc 4) (cond (Nat.blt pc 1) (cond (Nat.beq pc 0) (o_iload 1 1) o_bad) (cond (Nat.beq pc 1) (o_if (fun x => x = 0) 16 4) o_bad)) (cond (Nat.blt pc 5) (cond (Nat.beq pc 4) (o_aload 0 5) o_bad) (cond (Nat.blt pc 8) (cond (Nat.beq pc 5) (o_getf 4 0 8) o_bad) (cond (Nat.beq pc 8) (o_aload 0 9) o_bad)))) (cond (Nat.blt pc 16) (cond (Nat.blt pc 12) (cond (Nat.beq pc 9) (o_getf 4 3 12) o_bad) (cond (Nat.blt pc 13) (cond (Nat.beq pc 12) (o_bin (fun x y => x + y) 13) o_bad) (cond (Nat.beq pc 13) (o_goto 20) o_bad))) (cond (Nat.blt pc 17) (cond (Nat.beq pc 16) (o_aload 0 17) o_bad) (cond (Nat.blt pc 20) (cond (Nat.beq pc 17) (o_getf 4 0 20) o_bad) (cond (Nat.beq pc 20) (o_iret) o_bad))))
set_option maxRecDepth 20000 in
theorem ok_X4_gives : HOKs cX4_gives RX4 2 (some .int) 1 ins_X4_gives := fun _ => hnd (hnd (hnd (hlf (ok_iload_n dX4_gives_0 rfl rfl)) (hlf (ok_if_eq dX4_gives_1 (by decide) rfl))) (hnd (hlf (ok_aload_n dX4_gives_4 rfl rfl)) (hnd (hlf (ok_getf (C := RX4) (T := TX4) dX4_gives_5 rfl rfl (by decide) rfl inX4 wd_583 rfl)) (hlf (ok_aload_n dX4_gives_8 rfl rfl))))) (hnd (hnd (hlf (ok_getf (C := RX4) (T := TX4) dX4_gives_9 rfl rfl (by decide) rfl inX4 wd_593 rfl)) (hnd (hlf (ok_iadd dX4_gives_12 rfl)) (hlf (ok_goto dX4_gives_13 (by decide))))) (hnd (hlf (ok_aload_n dX4_gives_16 rfl rfl)) (hnd (hlf (ok_getf (C := RX4) (T := TX4) dX4_gives_17 rfl rfl (by decide) rfl inX4 wd_583 rfl)) (hlf (ok_iret dX4_gives_20)))))

theorem vc_X4_gives : MVC ins_X4_gives 2 2 sp_X4_gives := by
  refine mvc0 60 fun as w σ q hl hs => ?_
  unfold sp_X4_gives at hs
  split at hs
  rotate_left
  · exact hs.elim
  rename_i r b
  apply br2
  · intro h
    rw [if_pos h] at hs
    exact hs
  · intro h
    rw [if_neg h] at hs
    exact hs
theorem ct_X4_gives : Ctr yX4_gives cX4_gives 2 (some .int) 1 0 0 2 sp_X4_gives := ctr_of (by decide +kernel) rfl (by decide) ok_X4_gives vc_X4_gives

theorem al13 (p : Nat) : al 13 (p + 4) = 14 := rfl
theorem in14 {v : Int32} (h : 0 ≤ v ∧ v < 14) : vp_in v 14 := by
  obtain ⟨i, hi, rfl⟩ := in_of (n := 14) h
  exact vp_in_nI hi (by decide)
def sp_X3_barredFrom : HSp := fun as w σ K => match as with
  | [.inr (.inl (3, some p)), .inl v] => ((0 ≤ v ∧ v < 14) → K (some (HI (σ 13 (p + 4) v.toNatClampNeg))) w σ) ∧ (¬ (0 ≤ v ∧ v < 14) → K (some (HI 401)) w σ)
  | _ => False
theorem dX3_barredFrom_0 : decode cX3_barredFrom 0 = .ok (.iload_n 1, 1) := by decide +kernel
theorem dX3_barredFrom_1 : decode cX3_barredFrom 1 = .ok (.aload_n 0, 1) := by decide +kernel
theorem dX3_barredFrom_2 : decode cX3_barredFrom 2 = .ok (.getfield 17, 3) := by decide +kernel
theorem dX3_barredFrom_5 : decode cX3_barredFrom 5 = .ok (.arraylength, 1) := by decide +kernel
theorem dX3_barredFrom_6 : decode cX3_barredFrom 6 = .ok (.invokestatic 34, 3) := by decide +kernel
theorem dX3_barredFrom_9 : decode cX3_barredFrom 9 = .ok (.ifCond .eq 12, 3) := by decide +kernel
theorem dX3_barredFrom_12 : decode cX3_barredFrom 12 = .ok (.aload_n 0, 1) := by decide +kernel
theorem dX3_barredFrom_13 : decode cX3_barredFrom 13 = .ok (.getfield 17, 3) := by decide +kernel
theorem dX3_barredFrom_16 : decode cX3_barredFrom 16 = .ok (.iload_n 1, 1) := by decide +kernel
theorem dX3_barredFrom_17 : decode cX3_barredFrom 17 = .ok (.iaload, 1) := by decide +kernel
theorem dX3_barredFrom_18 : decode cX3_barredFrom 18 = .ok (.goto 6, 3) := by decide +kernel
theorem dX3_barredFrom_21 : decode cX3_barredFrom 21 = .ok (.sipush 401, 3) := by decide +kernel
theorem dX3_barredFrom_24 : decode cX3_barredFrom 24 = .ok (.ireturn, 1) := by decide +kernel
def ins_X3_barredFrom (pc : Nat) : HOp := cond (Nat.blt pc 12) (cond (Nat.blt pc 5) (cond (Nat.blt pc 1) (cond (Nat.beq pc 0) (o_iload 1 1) o_bad) (cond (Nat.blt pc 2) (cond (Nat.beq pc 1) (o_aload 0 2) o_bad) (cond (Nat.beq pc 2) (o_getf 3 4 5) o_bad))) (cond (Nat.blt pc 6) (cond (Nat.beq pc 5) (o_alen 6) o_bad) (cond (Nat.blt pc 9) (cond (Nat.beq pc 6) (o_callS 2 sp_X10_isBelow 9) o_bad) (cond (Nat.beq pc 9) (o_if (fun x => x = 0) 21 12) o_bad)))) (cond (Nat.blt pc 17) (cond (Nat.blt pc 13) (cond (Nat.beq pc 12) (o_aload 0 13) o_bad) (cond (Nat.blt pc 16) (cond (Nat.beq pc 13) (o_getf 3 4 16) o_bad) (cond (Nat.beq pc 16) (o_iload 1 17) o_bad))) (cond (Nat.blt pc 21) (cond (Nat.blt pc 18) (cond (Nat.beq pc 17) (o_iald 18) o_bad) (cond (Nat.beq pc 18) (o_goto 24) o_bad)) (cond (Nat.blt pc 24) (cond (Nat.beq pc 21) (o_const (401) 24) o_bad) (cond (Nat.beq pc 24) (o_iret) o_bad))))
set_option maxRecDepth 20000 in
theorem ok_X3_barredFrom : HOKs cX3_barredFrom RX3 2 (some .int) 2 ins_X3_barredFrom := fun _ => hnd (hnd (hnd (hlf (ok_iload_n dX3_barredFrom_0 rfl rfl)) (hnd (hlf (ok_aload_n dX3_barredFrom_1 rfl rfl)) (hlf (ok_getf (C := RX3) (T := TX3) dX3_barredFrom_2 rfl rfl (by decide) rfl inX3 wd_346 rfl)))) (hnd (hlf (ok_alen dX3_barredFrom_5 rfl)) (hnd (hlf (ok_callSN (y := yX10_isBelow) dX3_barredFrom_6 ct_X10_isBelow (by decide) (by decide) wd_319 wd_398 wd_318 wd_41 (by decide +kernel) rfl)) (hlf (ok_if_eq dX3_barredFrom_9 (by decide) rfl))))) (hnd (hnd (hlf (ok_aload_n dX3_barredFrom_12 rfl rfl)) (hnd (hlf (ok_getf (C := RX3) (T := TX3) dX3_barredFrom_13 rfl rfl (by decide) rfl inX3 wd_346 rfl)) (hlf (ok_iload_n dX3_barredFrom_16 rfl rfl)))) (hnd (hnd (hlf (ok_iald dX3_barredFrom_17 rfl)) (hlf (ok_goto dX3_barredFrom_18 (by decide)))) (hnd (hlf (ok_sipush dX3_barredFrom_21 (by decide) rfl)) (hlf (ok_iret dX3_barredFrom_24)))))

theorem vc_X3_barredFrom : MVC ins_X3_barredFrom 2 2 sp_X3_barredFrom := by
  refine mvc0 60 fun as w σ q hl hs => ?_
  unfold sp_X3_barredFrom at hs
  split at hs
  rotate_left
  · exact hs.elim
  rename_i p v
  apply br2
  · intro h
    exact And.intro (fun h => absurd h (by decide)) (fun _ => And.intro (in14 h) (hs.1 h))
  · intro h
    exact And.intro (fun _ => hs.2 h) (fun h => absurd rfl h)
theorem ct_X3_barredFrom : Ctr yX3_barredFrom cX3_barredFrom 2 (some .int) 2 0 0 2 sp_X3_barredFrom := ctr_of (by decide +kernel) rfl (by decide) ok_X3_barredFrom vc_X3_barredFrom

def sp_X3_barFrom : HSp := fun as w σ K => match as with
  | [.inr (.inl (3, some p)), .inl v, .inl d] => ((0 ≤ v ∧ v < 14) → K none w (up3 σ 13 (p + 4) v.toNatClampNeg d)) ∧ (¬ (0 ≤ v ∧ v < 14) → K none w σ)
  | _ => False
theorem dX3_barFrom_0 : decode cX3_barFrom 0 = .ok (.iload_n 1, 1) := by decide +kernel
theorem dX3_barFrom_1 : decode cX3_barFrom 1 = .ok (.aload_n 0, 1) := by decide +kernel
theorem dX3_barFrom_2 : decode cX3_barFrom 2 = .ok (.getfield 17, 3) := by decide +kernel
theorem dX3_barFrom_5 : decode cX3_barFrom 5 = .ok (.arraylength, 1) := by decide +kernel
theorem dX3_barFrom_6 : decode cX3_barFrom 6 = .ok (.invokestatic 34, 3) := by decide +kernel
theorem dX3_barFrom_9 : decode cX3_barFrom 9 = .ok (.ifCond .eq 10, 3) := by decide +kernel
theorem dX3_barFrom_12 : decode cX3_barFrom 12 = .ok (.aload_n 0, 1) := by decide +kernel
theorem dX3_barFrom_13 : decode cX3_barFrom 13 = .ok (.getfield 17, 3) := by decide +kernel
theorem dX3_barFrom_16 : decode cX3_barFrom 16 = .ok (.iload_n 1, 1) := by decide +kernel
theorem dX3_barFrom_17 : decode cX3_barFrom 17 = .ok (.iload_n 2, 1) := by decide +kernel
theorem dX3_barFrom_18 : decode cX3_barFrom 18 = .ok (.iastore, 1) := by decide +kernel
theorem dX3_barFrom_19 : decode cX3_barFrom 19 = .ok (.return_, 1) := by decide +kernel
def ins_X3_barFrom (pc : Nat) : HOp := cond (Nat.blt pc 12) (cond (Nat.blt pc 5) (cond (Nat.blt pc 1) (cond (Nat.beq pc 0) (o_iload 1 1) o_bad) (cond (Nat.blt pc 2) (cond (Nat.beq pc 1) (o_aload 0 2) o_bad) (cond (Nat.beq pc 2) (o_getf 3 4 5) o_bad))) (cond (Nat.blt pc 6) (cond (Nat.beq pc 5) (o_alen 6) o_bad) (cond (Nat.blt pc 9) (cond (Nat.beq pc 6) (o_callS 2 sp_X10_isBelow 9) o_bad) (cond (Nat.beq pc 9) (o_if (fun x => x = 0) 19 12) o_bad)))) (cond (Nat.blt pc 17) (cond (Nat.blt pc 13) (cond (Nat.beq pc 12) (o_aload 0 13) o_bad) (cond (Nat.blt pc 16) (cond (Nat.beq pc 13) (o_getf 3 4 16) o_bad) (cond (Nat.beq pc 16) (o_iload 1 17) o_bad))) (cond (Nat.blt pc 18) (cond (Nat.beq pc 17) (o_iload 2 18) o_bad) (cond (Nat.blt pc 19) (cond (Nat.beq pc 18) (o_iast 19) o_bad) (cond (Nat.beq pc 19) (o_vret) o_bad))))
set_option maxRecDepth 20000 in
theorem ok_X3_barFrom : HOKs cX3_barFrom RX3 3 none 2 ins_X3_barFrom := fun _ => hnd (hnd (hnd (hlf (ok_iload_n dX3_barFrom_0 rfl rfl)) (hnd (hlf (ok_aload_n dX3_barFrom_1 rfl rfl)) (hlf (ok_getf (C := RX3) (T := TX3) dX3_barFrom_2 rfl rfl (by decide) rfl inX3 wd_346 rfl)))) (hnd (hlf (ok_alen dX3_barFrom_5 rfl)) (hnd (hlf (ok_callSN (y := yX10_isBelow) dX3_barFrom_6 ct_X10_isBelow (by decide) (by decide) wd_319 wd_398 wd_318 wd_41 (by decide +kernel) rfl)) (hlf (ok_if_eq dX3_barFrom_9 (by decide) rfl))))) (hnd (hnd (hlf (ok_aload_n dX3_barFrom_12 rfl rfl)) (hnd (hlf (ok_getf (C := RX3) (T := TX3) dX3_barFrom_13 rfl rfl (by decide) rfl inX3 wd_346 rfl)) (hlf (ok_iload_n dX3_barFrom_16 rfl rfl)))) (hnd (hlf (ok_iload_n dX3_barFrom_17 rfl rfl)) (hnd (hlf (ok_iast dX3_barFrom_18 rfl)) (hlf (ok_vret dX3_barFrom_19)))))

theorem vc_X3_barFrom : MVC ins_X3_barFrom 3 3 sp_X3_barFrom := by
  refine mvc0 60 fun as w σ q hl hs => ?_
  unfold sp_X3_barFrom at hs
  split at hs
  rotate_left
  · exact hs.elim
  rename_i p v d
  apply br2
  · intro h
    exact And.intro (fun h => absurd h (by decide)) (fun _ => And.intro (in14 h) (hs.1 h))
  · intro h
    exact And.intro (fun _ => hs.2 h) (fun h => absurd rfl h)
theorem ct_X3_barFrom : Ctr yX3_barFrom cX3_barFrom 3 none 2 0 0 3 sp_X3_barFrom := ctr_of (by decide +kernel) rfl (by decide) ok_X3_barFrom vc_X3_barFrom

/-- bit v of a set -/
abbrev bt1 (s : Int32) (v : Nat) : Prop := s >>> (nI v &&& 31) &&& 1 = 1
def sp_X3_isBarred : HSp := fun as w σ K => match as with
  | [.inr (.inl (3, some p)), .inl s, .inl d] => spZ (∃ v, v < 14 ∧ bt1 s v ∧ ¬ d < σ 13 (p + 4) v) w σ K
  | _ => False
theorem dX3_isBarred_0 : decode cX3_isBarred 0 = .ok (.iconst 0, 1) := by decide +kernel
theorem dX3_isBarred_1 : decode cX3_isBarred 1 = .ok (.istore_n 3, 1) := by decide +kernel
theorem dX3_isBarred_2 : decode cX3_isBarred 2 = .ok (.iload_n 3, 1) := by decide +kernel
theorem dX3_isBarred_3 : decode cX3_isBarred 3 = .ok (.aload_n 0, 1) := by decide +kernel
theorem dX3_isBarred_4 : decode cX3_isBarred 4 = .ok (.getfield 17, 3) := by decide +kernel
theorem dX3_isBarred_7 : decode cX3_isBarred 7 = .ok (.arraylength, 1) := by decide +kernel
theorem dX3_isBarred_8 : decode cX3_isBarred 8 = .ok (.if_icmp .ge 30, 3) := by decide +kernel
theorem dX3_isBarred_11 : decode cX3_isBarred 11 = .ok (.iload_n 1, 1) := by decide +kernel
theorem dX3_isBarred_12 : decode cX3_isBarred 12 = .ok (.iload_n 3, 1) := by decide +kernel
theorem dX3_isBarred_13 : decode cX3_isBarred 13 = .ok (.ishr, 1) := by decide +kernel
theorem dX3_isBarred_14 : decode cX3_isBarred 14 = .ok (.iconst 1, 1) := by decide +kernel
theorem dX3_isBarred_15 : decode cX3_isBarred 15 = .ok (.iand, 1) := by decide +kernel
theorem dX3_isBarred_16 : decode cX3_isBarred 16 = .ok (.iconst 1, 1) := by decide +kernel
theorem dX3_isBarred_17 : decode cX3_isBarred 17 = .ok (.if_icmp .ne 15, 3) := by decide +kernel
theorem dX3_isBarred_20 : decode cX3_isBarred 20 = .ok (.aload_n 0, 1) := by decide +kernel
theorem dX3_isBarred_21 : decode cX3_isBarred 21 = .ok (.getfield 17, 3) := by decide +kernel
theorem dX3_isBarred_24 : decode cX3_isBarred 24 = .ok (.iload_n 3, 1) := by decide +kernel
theorem dX3_isBarred_25 : decode cX3_isBarred 25 = .ok (.iaload, 1) := by decide +kernel
theorem dX3_isBarred_26 : decode cX3_isBarred 26 = .ok (.iload_n 2, 1) := by decide +kernel
theorem dX3_isBarred_27 : decode cX3_isBarred 27 = .ok (.if_icmp .gt 5, 3) := by decide +kernel
theorem dX3_isBarred_30 : decode cX3_isBarred 30 = .ok (.iconst 1, 1) := by decide +kernel
theorem dX3_isBarred_31 : decode cX3_isBarred 31 = .ok (.ireturn, 1) := by decide +kernel
theorem dX3_isBarred_32 : decode cX3_isBarred 32 = .ok (.iinc 3 1, 3) := by decide +kernel
theorem dX3_isBarred_35 : decode cX3_isBarred 35 = .ok (.goto (-33), 3) := by decide +kernel
theorem dX3_isBarred_38 : decode cX3_isBarred 38 = .ok (.iconst 0, 1) := by decide +kernel
theorem dX3_isBarred_39 : decode cX3_isBarred 39 = .ok (.ireturn, 1) := by decide +kernel
def ins_X3_isBarred (pc : Nat) : HOp := cond (Nat.blt pc 17) (cond (Nat.blt pc 8) (cond (Nat.blt pc 3) (cond (Nat.blt pc 1) (cond (Nat.beq pc 0) (o_const (0) 1) o_bad) (cond (Nat.blt pc 2) (cond (Nat.beq pc 1) (o_istore 3 2) o_bad) (cond (Nat.beq pc 2) (o_iload 3 3) o_bad))) (cond (Nat.blt pc 4) (cond (Nat.beq pc 3) (o_aload 0 4) o_bad) (cond (Nat.blt pc 7) (cond (Nat.beq pc 4) (o_getf 3 4 7) o_bad) (cond (Nat.beq pc 7) (o_alen 8) o_bad)))) (cond (Nat.blt pc 13) (cond (Nat.blt pc 11) (cond (Nat.beq pc 8) (o_icmp (fun x y => y ≤ x) 38 11) o_bad) (cond (Nat.blt pc 12) (cond (Nat.beq pc 11) (o_iload 1 12) o_bad) (cond (Nat.beq pc 12) (o_iload 3 13) o_bad))) (cond (Nat.blt pc 15) (cond (Nat.blt pc 14) (cond (Nat.beq pc 13) (o_bin (fun x y => x >>> (y &&& 31)) 14) o_bad) (cond (Nat.beq pc 14) (o_const (1) 15) o_bad)) (cond (Nat.blt pc 16) (cond (Nat.beq pc 15) (o_bin (fun x y => x &&& y) 16) o_bad) (cond (Nat.beq pc 16) (o_const (1) 17) o_bad))))) (cond (Nat.blt pc 27) (cond (Nat.blt pc 24) (cond (Nat.blt pc 20) (cond (Nat.beq pc 17) (o_icmp (fun x y => x = y) 20 32) o_bad) (cond (Nat.blt pc 21) (cond (Nat.beq pc 20) (o_aload 0 21) o_bad) (cond (Nat.beq pc 21) (o_getf 3 4 24) o_bad))) (cond (Nat.blt pc 25) (cond (Nat.beq pc 24) (o_iload 3 25) o_bad) (cond (Nat.blt pc 26) (cond (Nat.beq pc 25) (o_iald 26) o_bad) (cond (Nat.beq pc 26) (o_iload 2 27) o_bad)))) (cond (Nat.blt pc 32) (cond (Nat.blt pc 30) (cond (Nat.beq pc 27) (o_icmp (fun x y => y < x) 32 30) o_bad) (cond (Nat.blt pc 31) (cond (Nat.beq pc 30) (o_const (1) 31) o_bad) (cond (Nat.beq pc 31) (o_zret) o_bad))) (cond (Nat.blt pc 38) (cond (Nat.blt pc 35) (cond (Nat.beq pc 32) (o_iinc 3 (1) 35) o_bad) (cond (Nat.beq pc 35) (o_goto 2) o_bad)) (cond (Nat.blt pc 39) (cond (Nat.beq pc 38) (o_const (0) 39) o_bad) (cond (Nat.beq pc 39) (o_zret) o_bad)))))
set_option maxRecDepth 20000 in
theorem ok_X3_isBarred : HOKs cX3_isBarred RX3 4 (some .boolean) 1 ins_X3_isBarred := fun _ => hnd (hnd (hnd (hnd (hlf (ok_iconst dX3_isBarred_0 (by decide) rfl)) (hnd (hlf (ok_istore_n dX3_isBarred_1 rfl (by decide) rfl)) (hlf (ok_iload_n dX3_isBarred_2 rfl rfl)))) (hnd (hlf (ok_aload_n dX3_isBarred_3 rfl rfl)) (hnd (hlf (ok_getf (C := RX3) (T := TX3) dX3_isBarred_4 rfl rfl (by decide) rfl inX3 wd_346 rfl)) (hlf (ok_alen dX3_isBarred_7 rfl))))) (hnd (hnd (hlf (ok_icmp_ge dX3_isBarred_8 (by decide) rfl)) (hnd (hlf (ok_iload_n dX3_isBarred_11 rfl rfl)) (hlf (ok_iload_n dX3_isBarred_12 rfl rfl)))) (hnd (hnd (hlf (ok_ishr dX3_isBarred_13 rfl)) (hlf (ok_iconst dX3_isBarred_14 (by decide) rfl))) (hnd (hlf (ok_iand dX3_isBarred_15 rfl)) (hlf (ok_iconst dX3_isBarred_16 (by decide) rfl)))))) (hnd (hnd (hnd (hlf (ok_icmp_ne dX3_isBarred_17 (by decide) rfl)) (hnd (hlf (ok_aload_n dX3_isBarred_20 rfl rfl)) (hlf (ok_getf (C := RX3) (T := TX3) dX3_isBarred_21 rfl rfl (by decide) rfl inX3 wd_346 rfl)))) (hnd (hlf (ok_iload_n dX3_isBarred_24 rfl rfl)) (hnd (hlf (ok_iald dX3_isBarred_25 rfl)) (hlf (ok_iload_n dX3_isBarred_26 rfl rfl))))) (hnd (hnd (hlf (ok_icmp_gt dX3_isBarred_27 (by decide) rfl)) (hnd (hlf (ok_iconst dX3_isBarred_30 (by decide) rfl)) (hlf (ok_zret dX3_isBarred_31)))) (hnd (hnd (hlf (ok_iinc dX3_isBarred_32 (by decide) (by decide) rfl)) (hlf (ok_goto dX3_isBarred_35 (by decide)))) (hnd (hlf (ok_iconst dX3_isBarred_38 (by decide) rfl)) (hlf (ok_zret dX3_isBarred_39))))))

theorem vc_X3_isBarred : MVC ins_X3_isBarred 4 3 sp_X3_isBarred := by
  refine mvc1 2 60 fun as w σ q hl hs => ?_
  unfold sp_X3_isBarred at hs
  split at hs
  rotate_left
  · exact hs.elim
  rename_i p s d
  refine ⟨fun N ls st w' σ' => ∃ (i : Nat) (u : Int32), i ≤ 14 ∧ N = 14 - i ∧ u = nI i ∧ (∀ j, j < i → ¬ (bt1 s j ∧ ¬ d < σ 13 (p + 4) j)) ∧ ls = [some (HR 3 p), some (HI s), some (HI d), some (HI u)] ∧ st = [] ∧ w = w' ∧ σ = σ', ?_, ?_⟩
  · rintro N ls st w' σ' ⟨i, u, hi, rfl, rfl, hno, rfl, rfl, rfl, rfl⟩
    apply br2
    · intro h1
      obtain rfl := lp_end (n := 14) rfl hi h1
      exact ⟨Or.inl rfl, hs.2 fun ⟨j, h1, h2⟩ => hno j h1 h2⟩
    · intro h1
      have hlt := lp_go (n := 14) rfl hi h1
      have no : ¬ (bt1 s i ∧ ¬ d < σ 13 (p + 4) i) → ∃ N', N' < 14 - i ∧ ∃ (i' : Nat) (u : Int32), i' ≤ 14 ∧ N' = 14 - i' ∧ u = nI i' ∧ (∀ j, j < i' → ¬ (bt1 s j ∧ ¬ d < σ 13 (p + 4) j)) ∧ [some (HR 3 p), some (HI s), some (HI d), some (HI (nI i + 1))] = [some (HR 3 p), some (HI s), some (HI d), some (HI u)] ∧ ([] : List HV) = [] ∧ w = w ∧ σ = σ := fun h =>
        ⟨14 - (i + 1), by omega, i + 1, _, hlt, rfl, nI_1 i, fun j hj => (Nat.lt_succ_iff_lt_or_eq.mp hj).elim (hno j) (fun e => e ▸ h), rfl, rfl, rfl, rfl⟩
      apply br2
      rotate_left
      · intro h2
        exact no fun h => h2 h.1
      intro h2
      refine And.intro (vp_in_nI (N := 14) hlt (by decide)) ?_
      have e : (nI i).toNatClampNeg = i := nI_clamp (by omega)
      apply br2
      · intro h3
        exact no fun h => h.2 (by have h3 : d < σ 13 (p + 4) (nI i).toNatClampNeg := h3; rwa [e] at h3)
      · intro h3
        exact ⟨Or.inr rfl, hs.1 ⟨i, hlt, h2, by have h3 : ¬ d < σ 13 (p + 4) (nI i).toNatClampNeg := h3; rwa [e] at h3⟩⟩
  · exact ⟨14, 0, 0, Nat.zero_le _, rfl, rfl, fun j hj => absurd hj (by omega), rfl, rfl, rfl, rfl⟩
theorem ct_X3_isBarred : Ctr yX3_isBarred cX3_isBarred 4 (some .boolean) 1 0 0 3 sp_X3_isBarred := ctr_of (by decide +kernel) rfl (by decide) ok_X3_isBarred vc_X3_isBarred

def sp_X3_ordersThere : HSp := fun as w σ K => match as with
  | [.inr (.inl (3, some p))] => K (some (HI (nI (cnt (fun v => decide (¬ σ 13 (p + 4) v = 401)) 14)))) w σ
  | _ => False
theorem dX3_ordersThere_0 : decode cX3_ordersThere 0 = .ok (.iconst 0, 1) := by decide +kernel
theorem dX3_ordersThere_1 : decode cX3_ordersThere 1 = .ok (.istore_n 1, 1) := by decide +kernel
theorem dX3_ordersThere_2 : decode cX3_ordersThere 2 = .ok (.iconst 0, 1) := by decide +kernel
theorem dX3_ordersThere_3 : decode cX3_ordersThere 3 = .ok (.istore_n 2, 1) := by decide +kernel
theorem dX3_ordersThere_4 : decode cX3_ordersThere 4 = .ok (.iload_n 2, 1) := by decide +kernel
theorem dX3_ordersThere_5 : decode cX3_ordersThere 5 = .ok (.aload_n 0, 1) := by decide +kernel
theorem dX3_ordersThere_6 : decode cX3_ordersThere 6 = .ok (.getfield 17, 3) := by decide +kernel
theorem dX3_ordersThere_9 : decode cX3_ordersThere 9 = .ok (.arraylength, 1) := by decide +kernel
theorem dX3_ordersThere_10 : decode cX3_ordersThere 10 = .ok (.if_icmp .ge 29, 3) := by decide +kernel
theorem dX3_ordersThere_13 : decode cX3_ordersThere 13 = .ok (.iload_n 1, 1) := by decide +kernel
theorem dX3_ordersThere_14 : decode cX3_ordersThere 14 = .ok (.aload_n 0, 1) := by decide +kernel
theorem dX3_ordersThere_15 : decode cX3_ordersThere 15 = .ok (.getfield 17, 3) := by decide +kernel
theorem dX3_ordersThere_18 : decode cX3_ordersThere 18 = .ok (.iload_n 2, 1) := by decide +kernel
theorem dX3_ordersThere_19 : decode cX3_ordersThere 19 = .ok (.iaload, 1) := by decide +kernel
theorem dX3_ordersThere_20 : decode cX3_ordersThere 20 = .ok (.sipush 401, 3) := by decide +kernel
theorem dX3_ordersThere_23 : decode cX3_ordersThere 23 = .ok (.if_icmp .ne 7, 3) := by decide +kernel
theorem dX3_ordersThere_26 : decode cX3_ordersThere 26 = .ok (.iconst 0, 1) := by decide +kernel
theorem dX3_ordersThere_27 : decode cX3_ordersThere 27 = .ok (.goto 4, 3) := by decide +kernel
theorem dX3_ordersThere_30 : decode cX3_ordersThere 30 = .ok (.iconst 1, 1) := by decide +kernel
theorem dX3_ordersThere_31 : decode cX3_ordersThere 31 = .ok (.iadd, 1) := by decide +kernel
theorem dX3_ordersThere_32 : decode cX3_ordersThere 32 = .ok (.istore_n 1, 1) := by decide +kernel
theorem dX3_ordersThere_33 : decode cX3_ordersThere 33 = .ok (.iinc 2 1, 3) := by decide +kernel
theorem dX3_ordersThere_36 : decode cX3_ordersThere 36 = .ok (.goto (-32), 3) := by decide +kernel
theorem dX3_ordersThere_39 : decode cX3_ordersThere 39 = .ok (.iload_n 1, 1) := by decide +kernel
theorem dX3_ordersThere_40 : decode cX3_ordersThere 40 = .ok (.ireturn, 1) := by decide +kernel
def ins_X3_ordersThere (pc : Nat) : HOp := cond (Nat.blt pc 18) (cond (Nat.blt pc 6) (cond (Nat.blt pc 3) (cond (Nat.blt pc 1) (cond (Nat.beq pc 0) (o_const (0) 1) o_bad) (cond (Nat.blt pc 2) (cond (Nat.beq pc 1) (o_istore 1 2) o_bad) (cond (Nat.beq pc 2) (o_const (0) 3) o_bad))) (cond (Nat.blt pc 4) (cond (Nat.beq pc 3) (o_istore 2 4) o_bad) (cond (Nat.blt pc 5) (cond (Nat.beq pc 4) (o_iload 2 5) o_bad) (cond (Nat.beq pc 5) (o_aload 0 6) o_bad)))) (cond (Nat.blt pc 13) (cond (Nat.blt pc 9) (cond (Nat.beq pc 6) (o_getf 3 4 9) o_bad) (cond (Nat.blt pc 10) (cond (Nat.beq pc 9) (o_alen 10) o_bad) (cond (Nat.beq pc 10) (o_icmp (fun x y => y ≤ x) 39 13) o_bad))) (cond (Nat.blt pc 14) (cond (Nat.beq pc 13) (o_iload 1 14) o_bad) (cond (Nat.blt pc 15) (cond (Nat.beq pc 14) (o_aload 0 15) o_bad) (cond (Nat.beq pc 15) (o_getf 3 4 18) o_bad))))) (cond (Nat.blt pc 30) (cond (Nat.blt pc 23) (cond (Nat.blt pc 19) (cond (Nat.beq pc 18) (o_iload 2 19) o_bad) (cond (Nat.blt pc 20) (cond (Nat.beq pc 19) (o_iald 20) o_bad) (cond (Nat.beq pc 20) (o_const (401) 23) o_bad))) (cond (Nat.blt pc 26) (cond (Nat.beq pc 23) (o_icmp (fun x y => x = y) 26 30) o_bad) (cond (Nat.blt pc 27) (cond (Nat.beq pc 26) (o_const (0) 27) o_bad) (cond (Nat.beq pc 27) (o_goto 31) o_bad)))) (cond (Nat.blt pc 33) (cond (Nat.blt pc 31) (cond (Nat.beq pc 30) (o_const (1) 31) o_bad) (cond (Nat.blt pc 32) (cond (Nat.beq pc 31) (o_bin (fun x y => x + y) 32) o_bad) (cond (Nat.beq pc 32) (o_istore 1 33) o_bad))) (cond (Nat.blt pc 39) (cond (Nat.blt pc 36) (cond (Nat.beq pc 33) (o_iinc 2 (1) 36) o_bad) (cond (Nat.beq pc 36) (o_goto 4) o_bad)) (cond (Nat.blt pc 40) (cond (Nat.beq pc 39) (o_iload 1 40) o_bad) (cond (Nat.beq pc 40) (o_iret) o_bad)))))
set_option maxRecDepth 20000 in
theorem ok_X3_ordersThere : HOKs cX3_ordersThere RX3 3 (some .int) 1 ins_X3_ordersThere := fun _ => hnd (hnd (hnd (hnd (hlf (ok_iconst dX3_ordersThere_0 (by decide) rfl)) (hnd (hlf (ok_istore_n dX3_ordersThere_1 rfl (by decide) rfl)) (hlf (ok_iconst dX3_ordersThere_2 (by decide) rfl)))) (hnd (hlf (ok_istore_n dX3_ordersThere_3 rfl (by decide) rfl)) (hnd (hlf (ok_iload_n dX3_ordersThere_4 rfl rfl)) (hlf (ok_aload_n dX3_ordersThere_5 rfl rfl))))) (hnd (hnd (hlf (ok_getf (C := RX3) (T := TX3) dX3_ordersThere_6 rfl rfl (by decide) rfl inX3 wd_346 rfl)) (hnd (hlf (ok_alen dX3_ordersThere_9 rfl)) (hlf (ok_icmp_ge dX3_ordersThere_10 (by decide) rfl)))) (hnd (hlf (ok_iload_n dX3_ordersThere_13 rfl rfl)) (hnd (hlf (ok_aload_n dX3_ordersThere_14 rfl rfl)) (hlf (ok_getf (C := RX3) (T := TX3) dX3_ordersThere_15 rfl rfl (by decide) rfl inX3 wd_346 rfl)))))) (hnd (hnd (hnd (hlf (ok_iload_n dX3_ordersThere_18 rfl rfl)) (hnd (hlf (ok_iald dX3_ordersThere_19 rfl)) (hlf (ok_sipush dX3_ordersThere_20 (by decide) rfl)))) (hnd (hlf (ok_icmp_ne dX3_ordersThere_23 (by decide) rfl)) (hnd (hlf (ok_iconst dX3_ordersThere_26 (by decide) rfl)) (hlf (ok_goto dX3_ordersThere_27 (by decide)))))) (hnd (hnd (hlf (ok_iconst dX3_ordersThere_30 (by decide) rfl)) (hnd (hlf (ok_iadd dX3_ordersThere_31 rfl)) (hlf (ok_istore_n dX3_ordersThere_32 rfl (by decide) rfl)))) (hnd (hnd (hlf (ok_iinc dX3_ordersThere_33 (by decide) (by decide) rfl)) (hlf (ok_goto dX3_ordersThere_36 (by decide)))) (hnd (hlf (ok_iload_n dX3_ordersThere_39 rfl rfl)) (hlf (ok_iret dX3_ordersThere_40))))))

theorem vc_X3_ordersThere : MVC ins_X3_ordersThere 3 1 sp_X3_ordersThere := by
  refine mvc1 4 60 fun as w σ q hl hs => ?_
  unfold sp_X3_ordersThere at hs
  split at hs
  rotate_left
  · exact hs.elim
  rename_i p
  refine ⟨fun N ls st w' σ' => ∃ (i : Nat) (u v : Int32), i ≤ 14 ∧ N = 14 - i ∧ u = nI (cnt (fun v => decide (¬ σ 13 (p + 4) v = 401)) i) ∧ v = nI i ∧ ls = [some (HR 3 p), some (HI u), some (HI v)] ∧ st = [] ∧ w = w' ∧ σ = σ', ?_, ?_⟩
  · rintro N ls st w' σ' ⟨i, u, v, hi, rfl, rfl, rfl, rfl, rfl, rfl, rfl⟩
    apply br2
    · intro h1
      obtain rfl := lp_end (n := 14) rfl hi h1
      exact hs
    · intro h1
      have hlt := lp_go (n := 14) rfl hi h1
      refine And.intro (vp_in_nI (N := 14) hlt (by decide)) ?_
      have e : (nI i).toNatClampNeg = i := nI_clamp (by omega)
      apply br2
      · intro h3
        have h3 : σ 13 (p + 4) (nI i).toNatClampNeg = 401 := h3
        rw [e] at h3
        exact ⟨14 - (i + 1), by omega, i + 1, _, _, hlt, rfl, by rw [cnt_n (decide_eq_false (not_not_intro h3))]; exact Int32.add_zero _, nI_1 i, rfl, rfl, rfl, rfl⟩
      · intro h3
        have h3 : ¬ σ 13 (p + 4) (nI i).toNatClampNeg = 401 := h3
        rw [e] at h3
        exact ⟨14 - (i + 1), by omega, i + 1, _, _, hlt, rfl, by rw [cnt_y (decide_eq_true h3)]; exact nI_1 _, nI_1 i, rfl, rfl, rfl, rfl⟩
  · exact ⟨14, 0, 0, 0, Nat.zero_le _, rfl, rfl, rfl, rfl, rfl, rfl, rfl⟩
theorem ct_X3_ordersThere : Ctr yX3_ordersThere cX3_ordersThere 3 (some .int) 1 0 0 1 sp_X3_ordersThere := ctr_of (by decide +kernel) rfl (by decide) ok_X3_ordersThere vc_X3_ordersThere

/-! VisitHall.People, reads -/
def Pk (w : HW) (σ : HS) (np : Nat) : Prop := np ≤ 10 ∧ σ 2 0 1 = nI np ∧ ∀ j, j < np → w.2 15 j = some j
def sp_X2_prisonerAt : HSp := fun as w σ K => match as with
  | [.inr (.inl (2, some 0)), .inl x] => ∃ np, Pk w σ np ∧ (∀ i, i < np → x = nI i → K (some (HR 3 i)) w σ) ∧ (¬ (0 ≤ x ∧ x < nI np) → K (some (HO 99 none)) w σ)
  | _ => False
theorem dX2_prisonerAt_0 : decode cX2_prisonerAt 0 = .ok (.iload_n 1, 1) := by decide +kernel
theorem dX2_prisonerAt_1 : decode cX2_prisonerAt 1 = .ok (.aload_n 0, 1) := by decide +kernel
theorem dX2_prisonerAt_2 : decode cX2_prisonerAt 2 = .ok (.getfield 27, 3) := by decide +kernel
theorem dX2_prisonerAt_5 : decode cX2_prisonerAt 5 = .ok (.invokestatic 35, 3) := by decide +kernel
theorem dX2_prisonerAt_8 : decode cX2_prisonerAt 8 = .ok (.ifCond .eq 12, 3) := by decide +kernel
theorem dX2_prisonerAt_11 : decode cX2_prisonerAt 11 = .ok (.aload_n 0, 1) := by decide +kernel
theorem dX2_prisonerAt_12 : decode cX2_prisonerAt 12 = .ok (.getfield 13, 3) := by decide +kernel
theorem dX2_prisonerAt_15 : decode cX2_prisonerAt 15 = .ok (.iload_n 1, 1) := by decide +kernel
theorem dX2_prisonerAt_16 : decode cX2_prisonerAt 16 = .ok (.aaload, 1) := by decide +kernel
theorem dX2_prisonerAt_17 : decode cX2_prisonerAt 17 = .ok (.goto 4, 3) := by decide +kernel
theorem dX2_prisonerAt_20 : decode cX2_prisonerAt 20 = .ok (.aconst_null, 1) := by decide +kernel
theorem dX2_prisonerAt_21 : decode cX2_prisonerAt 21 = .ok (.areturn, 1) := by decide +kernel
def ins_X2_prisonerAt (pc : Nat) : HOp := cond (Nat.blt pc 12) (cond (Nat.blt pc 5) (cond (Nat.blt pc 1) (cond (Nat.beq pc 0) (o_iload 1 1) o_bad) (cond (Nat.blt pc 2) (cond (Nat.beq pc 1) (o_aload 0 2) o_bad) (cond (Nat.beq pc 2) (o_getf 2 1 5) o_bad))) (cond (Nat.blt pc 8) (cond (Nat.beq pc 5) (o_callS 2 sp_X10_isBelow 8) o_bad) (cond (Nat.blt pc 11) (cond (Nat.beq pc 8) (o_if (fun x => x = 0) 20 11) o_bad) (cond (Nat.beq pc 11) (o_aload 0 12) o_bad)))) (cond (Nat.blt pc 17) (cond (Nat.blt pc 15) (cond (Nat.beq pc 12) (o_getf 2 0 15) o_bad) (cond (Nat.blt pc 16) (cond (Nat.beq pc 15) (o_iload 1 16) o_bad) (cond (Nat.beq pc 16) (o_aald 17) o_bad))) (cond (Nat.blt pc 20) (cond (Nat.beq pc 17) (o_goto 21) o_bad) (cond (Nat.blt pc 21) (cond (Nat.beq pc 20) (o_null 99 21) o_bad) (cond (Nat.beq pc 21) (o_aret) o_bad))))
set_option maxRecDepth 20000 in
theorem ok_X2_prisonerAt : HOKs cX2_prisonerAt RX2 2 (some (.object "VisitHall$Prisoner")) 2 ins_X2_prisonerAt := fun _ => hnd (hnd (hnd (hlf (ok_iload_n dX2_prisonerAt_0 rfl rfl)) (hnd (hlf (ok_aload_n dX2_prisonerAt_1 rfl rfl)) (hlf (ok_getf (C := RX2) (T := TX2) dX2_prisonerAt_2 rfl rfl (by decide) rfl inX2 wd_78 rfl)))) (hnd (hlf (ok_callSN (y := yX10_isBelow) dX2_prisonerAt_5 ct_X10_isBelow (by decide) (by decide) wd_319 wd_374 wd_318 wd_41 (by decide +kernel) rfl)) (hnd (hlf (ok_if_eq dX2_prisonerAt_8 (by decide) rfl)) (hlf (ok_aload_n dX2_prisonerAt_11 rfl rfl))))) (hnd (hnd (hlf (ok_getf (C := RX2) (T := TX2) dX2_prisonerAt_12 rfl rfl (by decide) rfl inX2 wd_77 rfl)) (hnd (hlf (ok_iload_n dX2_prisonerAt_15 rfl rfl)) (hlf (ok_aald dX2_prisonerAt_16 rfl)))) (hnd (hlf (ok_goto dX2_prisonerAt_17 (by decide))) (hnd (hlf (ok_null dX2_prisonerAt_20 rfl)) (hlf (ok_aret dX2_prisonerAt_21)))))

theorem vc_X2_prisonerAt : MVC ins_X2_prisonerAt 2 2 sp_X2_prisonerAt := by
  refine mvc0 60 fun as w σ q hl hs => ?_
  unfold sp_X2_prisonerAt at hs
  split at hs
  rotate_left
  · exact hs.elim
  rename_i x
  obtain ⟨n, ⟨hn, hsz, hra⟩, h1, h2⟩ := hs
  apply br2
  · intro h
    have h : 0 ≤ x ∧ x < σ 2 0 1 := h
    rw [hsz] at h
    obtain ⟨i, hi, rfl⟩ := in_of h
    refine And.intro (fun h => absurd h (by decide)) (fun _ => ?_)
    refine And.intro (vp_in_nI (N := 10) (by omega) (by decide)) (fun o ho => ?_)
    obtain rfl := ra_at ho (hra i hi)
    exact h1 i hi rfl
  · intro h
    have h : ¬ (0 ≤ x ∧ x < σ 2 0 1) := h
    rw [hsz] at h
    exact And.intro (fun _ => h2 h) (fun h => absurd rfl h)
theorem ct_X2_prisonerAt : Ctr yX2_prisonerAt cX2_prisonerAt 2 (some (.object "VisitHall$Prisoner")) 2 0 0 2 sp_X2_prisonerAt := ctr_of (by decide +kernel) rfl (by decide) ok_X2_prisonerAt vc_X2_prisonerAt

def sp_X2_isVisitor : HSp := fun as w σ K => match as with
  | [.inr (.inl (2, some 0)), .inl x] => spZ (0 ≤ x ∧ x < σ 2 0 4) w σ K
  | _ => False
theorem dX2_isVisitor_0 : decode cX2_isVisitor 0 = .ok (.iload_n 1, 1) := by decide +kernel
theorem dX2_isVisitor_1 : decode cX2_isVisitor 1 = .ok (.aload_n 0, 1) := by decide +kernel
theorem dX2_isVisitor_2 : decode cX2_isVisitor 2 = .ok (.getfield 39, 3) := by decide +kernel
theorem dX2_isVisitor_5 : decode cX2_isVisitor 5 = .ok (.invokestatic 35, 3) := by decide +kernel
theorem dX2_isVisitor_8 : decode cX2_isVisitor 8 = .ok (.ireturn, 1) := by decide +kernel
def ins_X2_isVisitor (pc : Nat) : HOp := cond (Nat.blt pc 2) (cond (Nat.blt pc 1) (cond (Nat.beq pc 0) (o_iload 1 1) o_bad) (cond (Nat.beq pc 1) (o_aload 0 2) o_bad)) (cond (Nat.blt pc 5) (cond (Nat.beq pc 2) (o_getf 2 4 5) o_bad) (cond (Nat.blt pc 8) (cond (Nat.beq pc 5) (o_callS 2 sp_X10_isBelow 8) o_bad) (cond (Nat.beq pc 8) (o_zret) o_bad)))
set_option maxRecDepth 20000 in
theorem ok_X2_isVisitor : HOKs cX2_isVisitor RX2 2 (some .boolean) 2 ins_X2_isVisitor := fun _ => hnd (hnd (hlf (ok_iload_n dX2_isVisitor_0 rfl rfl)) (hlf (ok_aload_n dX2_isVisitor_1 rfl rfl))) (hnd (hlf (ok_getf (C := RX2) (T := TX2) dX2_isVisitor_2 rfl rfl (by decide) rfl inX2 wd_81 rfl)) (hnd (hlf (ok_callSN (y := yX10_isBelow) dX2_isVisitor_5 ct_X10_isBelow (by decide) (by decide) wd_319 wd_374 wd_318 wd_41 (by decide +kernel) rfl)) (hlf (ok_zret dX2_isVisitor_8))))

theorem vc_X2_isVisitor : MVC ins_X2_isVisitor 2 2 sp_X2_isVisitor := by
  refine mvc0 40 fun as w σ q hl hs => ?_
  unfold sp_X2_isVisitor at hs
  split at hs
  rotate_left
  · exact hs.elim
  rename_i x
  exact br2 (fun h => ⟨Or.inr rfl, hs.1 h⟩) (fun h => ⟨Or.inl rfl, hs.2 h⟩)
theorem ct_X2_isVisitor : Ctr yX2_isVisitor cX2_isVisitor 2 (some .boolean) 2 0 0 2 sp_X2_isVisitor := ctr_of (by decide +kernel) rfl (by decide) ok_X2_isVisitor vc_X2_isVisitor

theorem in4 {v : Int32} (h : 0 ≤ v ∧ v < 4) : vp_in v 4 := by
  obtain ⟨i, hi, rfl⟩ := in_of (n := 4) h
  exact vp_in_nI hi (by decide)
def sp_X2_ofKind : HSp := fun as w σ K => match as with
  | [.inr (.inl (2, some 0)), .inl x] => ((0 ≤ x ∧ x < 4) → K (some (HI (σ 13 0 x.toNatClampNeg))) w σ) ∧ (¬ (0 ≤ x ∧ x < 4) → K (some (HI 0)) w σ)
  | _ => False
theorem dX2_ofKind_0 : decode cX2_ofKind 0 = .ok (.iload_n 1, 1) := by decide +kernel
theorem dX2_ofKind_1 : decode cX2_ofKind 1 = .ok (.iconst 4, 1) := by decide +kernel
theorem dX2_ofKind_2 : decode cX2_ofKind 2 = .ok (.invokestatic 35, 3) := by decide +kernel
theorem dX2_ofKind_5 : decode cX2_ofKind 5 = .ok (.ifCond .eq 12, 3) := by decide +kernel
theorem dX2_ofKind_8 : decode cX2_ofKind 8 = .ok (.aload_n 0, 1) := by decide +kernel
theorem dX2_ofKind_9 : decode cX2_ofKind 9 = .ok (.getfield 17, 3) := by decide +kernel
theorem dX2_ofKind_12 : decode cX2_ofKind 12 = .ok (.iload_n 1, 1) := by decide +kernel
theorem dX2_ofKind_13 : decode cX2_ofKind 13 = .ok (.iaload, 1) := by decide +kernel
theorem dX2_ofKind_14 : decode cX2_ofKind 14 = .ok (.goto 4, 3) := by decide +kernel
theorem dX2_ofKind_17 : decode cX2_ofKind 17 = .ok (.iconst 0, 1) := by decide +kernel
theorem dX2_ofKind_18 : decode cX2_ofKind 18 = .ok (.ireturn, 1) := by decide +kernel
def ins_X2_ofKind (pc : Nat) : HOp := cond (Nat.blt pc 9) (cond (Nat.blt pc 2) (cond (Nat.blt pc 1) (cond (Nat.beq pc 0) (o_iload 1 1) o_bad) (cond (Nat.beq pc 1) (o_const (4) 2) o_bad)) (cond (Nat.blt pc 5) (cond (Nat.beq pc 2) (o_callS 2 sp_X10_isBelow 5) o_bad) (cond (Nat.blt pc 8) (cond (Nat.beq pc 5) (o_if (fun x => x = 0) 17 8) o_bad) (cond (Nat.beq pc 8) (o_aload 0 9) o_bad)))) (cond (Nat.blt pc 14) (cond (Nat.blt pc 12) (cond (Nat.beq pc 9) (o_getf 2 2 12) o_bad) (cond (Nat.blt pc 13) (cond (Nat.beq pc 12) (o_iload 1 13) o_bad) (cond (Nat.beq pc 13) (o_iald 14) o_bad))) (cond (Nat.blt pc 17) (cond (Nat.beq pc 14) (o_goto 18) o_bad) (cond (Nat.blt pc 18) (cond (Nat.beq pc 17) (o_const (0) 18) o_bad) (cond (Nat.beq pc 18) (o_iret) o_bad))))
set_option maxRecDepth 20000 in
theorem ok_X2_ofKind : HOKs cX2_ofKind RX2 2 (some .int) 2 ins_X2_ofKind := fun _ => hnd (hnd (hnd (hlf (ok_iload_n dX2_ofKind_0 rfl rfl)) (hlf (ok_iconst dX2_ofKind_1 (by decide) rfl))) (hnd (hlf (ok_callSN (y := yX10_isBelow) dX2_ofKind_2 ct_X10_isBelow (by decide) (by decide) wd_319 wd_374 wd_318 wd_41 (by decide +kernel) rfl)) (hnd (hlf (ok_if_eq dX2_ofKind_5 (by decide) rfl)) (hlf (ok_aload_n dX2_ofKind_8 rfl rfl))))) (hnd (hnd (hlf (ok_getf (C := RX2) (T := TX2) dX2_ofKind_9 rfl rfl (by decide) rfl inX2 wd_79 rfl)) (hnd (hlf (ok_iload_n dX2_ofKind_12 rfl rfl)) (hlf (ok_iald dX2_ofKind_13 rfl)))) (hnd (hlf (ok_goto dX2_ofKind_14 (by decide))) (hnd (hlf (ok_iconst dX2_ofKind_17 (by decide) rfl)) (hlf (ok_iret dX2_ofKind_18)))))

theorem vc_X2_ofKind : MVC ins_X2_ofKind 2 2 sp_X2_ofKind := by
  refine mvc0 60 fun as w σ q hl hs => ?_
  unfold sp_X2_ofKind at hs
  split at hs
  rotate_left
  · exact hs.elim
  rename_i x
  apply br2
  · intro h
    exact And.intro (fun h => absurd h (by decide)) (fun _ => And.intro (in4 h) (hs.1 h))
  · intro h
    exact And.intro (fun _ => hs.2 h) (fun h => absurd rfl h)
theorem ct_X2_ofKind : Ctr yX2_ofKind cX2_ofKind 2 (some .int) 2 0 0 2 sp_X2_ofKind := ctr_of (by decide +kernel) rfl (by decide) ok_X2_ofKind vc_X2_ofKind

abbrev lwC (σ : HS) (s : Int32) : Prop := s &&& (σ 13 0 2 ^^^ (-1)) = 0
def sp_X2_areLawyers : HSp := fun as w σ K => match as with
  | [.inr (.inl (2, some 0)), .inl s] => spZ (lwC σ s) w σ K
  | _ => False
theorem dX2_areLawyers_0 : decode cX2_areLawyers 0 = .ok (.iload_n 1, 1) := by decide +kernel
theorem dX2_areLawyers_1 : decode cX2_areLawyers 1 = .ok (.aload_n 0, 1) := by decide +kernel
theorem dX2_areLawyers_2 : decode cX2_areLawyers 2 = .ok (.getfield 17, 3) := by decide +kernel
theorem dX2_areLawyers_5 : decode cX2_areLawyers 5 = .ok (.iconst 2, 1) := by decide +kernel
theorem dX2_areLawyers_6 : decode cX2_areLawyers 6 = .ok (.iaload, 1) := by decide +kernel
theorem dX2_areLawyers_7 : decode cX2_areLawyers 7 = .ok (.iconst (-1), 1) := by decide +kernel
theorem dX2_areLawyers_8 : decode cX2_areLawyers 8 = .ok (.ixor, 1) := by decide +kernel
theorem dX2_areLawyers_9 : decode cX2_areLawyers 9 = .ok (.iand, 1) := by decide +kernel
theorem dX2_areLawyers_10 : decode cX2_areLawyers 10 = .ok (.ifCond .ne 7, 3) := by decide +kernel
theorem dX2_areLawyers_13 : decode cX2_areLawyers 13 = .ok (.iconst 1, 1) := by decide +kernel
theorem dX2_areLawyers_14 : decode cX2_areLawyers 14 = .ok (.goto 4, 3) := by decide +kernel
theorem dX2_areLawyers_17 : decode cX2_areLawyers 17 = .ok (.iconst 0, 1) := by decide +kernel
theorem dX2_areLawyers_18 : decode cX2_areLawyers 18 = .ok (.ireturn, 1) := by decide +kernel
def ins_X2_areLawyers (pc : Nat) : HOp := cond (Nat.blt pc 8) (cond (Nat.blt pc 5) (cond (Nat.blt pc 1) (cond (Nat.beq pc 0) (o_iload 1 1) o_bad) (cond (Nat.blt pc 2) (cond (Nat.beq pc 1) (o_aload 0 2) o_bad) (cond (Nat.beq pc 2) (o_getf 2 2 5) o_bad))) (cond (Nat.blt pc 6) (cond (Nat.beq pc 5) (o_const (2) 6) o_bad) (cond (Nat.blt pc 7) (cond (Nat.beq pc 6) (o_iald 7) o_bad) (cond (Nat.beq pc 7) (o_const (-1) 8) o_bad)))) (cond (Nat.blt pc 13) (cond (Nat.blt pc 9) (cond (Nat.beq pc 8) (o_bin (fun x y => x ^^^ y) 9) o_bad) (cond (Nat.blt pc 10) (cond (Nat.beq pc 9) (o_bin (fun x y => x &&& y) 10) o_bad) (cond (Nat.beq pc 10) (o_if (fun x => x = 0) 13 17) o_bad))) (cond (Nat.blt pc 17) (cond (Nat.blt pc 14) (cond (Nat.beq pc 13) (o_const (1) 14) o_bad) (cond (Nat.beq pc 14) (o_goto 18) o_bad)) (cond (Nat.blt pc 18) (cond (Nat.beq pc 17) (o_const (0) 18) o_bad) (cond (Nat.beq pc 18) (o_zret) o_bad))))
set_option maxRecDepth 20000 in
theorem ok_X2_areLawyers : HOKs cX2_areLawyers RX2 2 (some .boolean) 1 ins_X2_areLawyers := fun _ => hnd (hnd (hnd (hlf (ok_iload_n dX2_areLawyers_0 rfl rfl)) (hnd (hlf (ok_aload_n dX2_areLawyers_1 rfl rfl)) (hlf (ok_getf (C := RX2) (T := TX2) dX2_areLawyers_2 rfl rfl (by decide) rfl inX2 wd_79 rfl)))) (hnd (hlf (ok_iconst dX2_areLawyers_5 (by decide) rfl)) (hnd (hlf (ok_iald dX2_areLawyers_6 rfl)) (hlf (ok_iconst dX2_areLawyers_7 (by decide) rfl))))) (hnd (hnd (hlf (ok_ixor dX2_areLawyers_8 rfl)) (hnd (hlf (ok_iand dX2_areLawyers_9 rfl)) (hlf (ok_if_ne dX2_areLawyers_10 (by decide) rfl)))) (hnd (hnd (hlf (ok_iconst dX2_areLawyers_13 (by decide) rfl)) (hlf (ok_goto dX2_areLawyers_14 (by decide)))) (hnd (hlf (ok_iconst dX2_areLawyers_17 (by decide) rfl)) (hlf (ok_zret dX2_areLawyers_18)))))

theorem vc_X2_areLawyers : MVC ins_X2_areLawyers 2 2 sp_X2_areLawyers := by
  refine mvc0 60 fun as w σ q hl hs => ?_
  unfold sp_X2_areLawyers at hs
  split at hs
  rotate_left
  · exact hs.elim
  rename_i s
  exact And.intro (vp_in_nI (n := 2) (N := 4) (by decide) (by decide)) (And.intro (fun h => ⟨Or.inr rfl, hs.1 h⟩) (fun h => ⟨Or.inl rfl, hs.2 h⟩))
theorem ct_X2_areLawyers : Ctr yX2_areLawyers cX2_areLawyers 2 (some .boolean) 1 0 0 2 sp_X2_areLawyers := ctr_of (by decide +kernel) rfl (by decide) ok_X2_areLawyers vc_X2_areLawyers

abbrev nkC (σ : HS) (s : Int32) : Prop := ¬ s &&& σ 13 0 3 = 0 ∧ s &&& σ 13 0 1 &&& (σ 13 0 3 ^^^ (-1)) = 0
def sp_X2_needsKin : HSp := fun as w σ K => match as with
  | [.inr (.inl (2, some 0)), .inl s] => spZ (nkC σ s) w σ K
  | _ => False
theorem dX2_needsKin_0 : decode cX2_needsKin 0 = .ok (.iload_n 1, 1) := by decide +kernel
theorem dX2_needsKin_1 : decode cX2_needsKin 1 = .ok (.aload_n 0, 1) := by decide +kernel
theorem dX2_needsKin_2 : decode cX2_needsKin 2 = .ok (.getfield 17, 3) := by decide +kernel
theorem dX2_needsKin_5 : decode cX2_needsKin 5 = .ok (.iconst 3, 1) := by decide +kernel
theorem dX2_needsKin_6 : decode cX2_needsKin 6 = .ok (.iaload, 1) := by decide +kernel
theorem dX2_needsKin_7 : decode cX2_needsKin 7 = .ok (.iand, 1) := by decide +kernel
theorem dX2_needsKin_8 : decode cX2_needsKin 8 = .ok (.ifCond .eq 27, 3) := by decide +kernel
theorem dX2_needsKin_11 : decode cX2_needsKin 11 = .ok (.iload_n 1, 1) := by decide +kernel
theorem dX2_needsKin_12 : decode cX2_needsKin 12 = .ok (.aload_n 0, 1) := by decide +kernel
theorem dX2_needsKin_13 : decode cX2_needsKin 13 = .ok (.getfield 17, 3) := by decide +kernel
theorem dX2_needsKin_16 : decode cX2_needsKin 16 = .ok (.iconst 1, 1) := by decide +kernel
theorem dX2_needsKin_17 : decode cX2_needsKin 17 = .ok (.iaload, 1) := by decide +kernel
theorem dX2_needsKin_18 : decode cX2_needsKin 18 = .ok (.iand, 1) := by decide +kernel
theorem dX2_needsKin_19 : decode cX2_needsKin 19 = .ok (.aload_n 0, 1) := by decide +kernel
theorem dX2_needsKin_20 : decode cX2_needsKin 20 = .ok (.getfield 17, 3) := by decide +kernel
theorem dX2_needsKin_23 : decode cX2_needsKin 23 = .ok (.iconst 3, 1) := by decide +kernel
theorem dX2_needsKin_24 : decode cX2_needsKin 24 = .ok (.iaload, 1) := by decide +kernel
theorem dX2_needsKin_25 : decode cX2_needsKin 25 = .ok (.iconst (-1), 1) := by decide +kernel
theorem dX2_needsKin_26 : decode cX2_needsKin 26 = .ok (.ixor, 1) := by decide +kernel
theorem dX2_needsKin_27 : decode cX2_needsKin 27 = .ok (.iand, 1) := by decide +kernel
theorem dX2_needsKin_28 : decode cX2_needsKin 28 = .ok (.ifCond .ne 7, 3) := by decide +kernel
theorem dX2_needsKin_31 : decode cX2_needsKin 31 = .ok (.iconst 1, 1) := by decide +kernel
theorem dX2_needsKin_32 : decode cX2_needsKin 32 = .ok (.goto 4, 3) := by decide +kernel
theorem dX2_needsKin_35 : decode cX2_needsKin 35 = .ok (.iconst 0, 1) := by decide +kernel
theorem dX2_needsKin_36 : decode cX2_needsKin 36 = .ok (.ireturn, 1) := by decide +kernel
def ins_X2_needsKin (pc : Nat) : HOp := cond (Nat.blt pc 18) (cond (Nat.blt pc 8) (cond (Nat.blt pc 5) (cond (Nat.blt pc 1) (cond (Nat.beq pc 0) (o_iload 1 1) o_bad) (cond (Nat.blt pc 2) (cond (Nat.beq pc 1) (o_aload 0 2) o_bad) (cond (Nat.beq pc 2) (o_getf 2 2 5) o_bad))) (cond (Nat.blt pc 6) (cond (Nat.beq pc 5) (o_const (3) 6) o_bad) (cond (Nat.blt pc 7) (cond (Nat.beq pc 6) (o_iald 7) o_bad) (cond (Nat.beq pc 7) (o_bin (fun x y => x &&& y) 8) o_bad)))) (cond (Nat.blt pc 13) (cond (Nat.blt pc 11) (cond (Nat.beq pc 8) (o_if (fun x => x = 0) 35 11) o_bad) (cond (Nat.blt pc 12) (cond (Nat.beq pc 11) (o_iload 1 12) o_bad) (cond (Nat.beq pc 12) (o_aload 0 13) o_bad))) (cond (Nat.blt pc 16) (cond (Nat.beq pc 13) (o_getf 2 2 16) o_bad) (cond (Nat.blt pc 17) (cond (Nat.beq pc 16) (o_const (1) 17) o_bad) (cond (Nat.beq pc 17) (o_iald 18) o_bad))))) (cond (Nat.blt pc 26) (cond (Nat.blt pc 23) (cond (Nat.blt pc 19) (cond (Nat.beq pc 18) (o_bin (fun x y => x &&& y) 19) o_bad) (cond (Nat.blt pc 20) (cond (Nat.beq pc 19) (o_aload 0 20) o_bad) (cond (Nat.beq pc 20) (o_getf 2 2 23) o_bad))) (cond (Nat.blt pc 24) (cond (Nat.beq pc 23) (o_const (3) 24) o_bad) (cond (Nat.blt pc 25) (cond (Nat.beq pc 24) (o_iald 25) o_bad) (cond (Nat.beq pc 25) (o_const (-1) 26) o_bad)))) (cond (Nat.blt pc 31) (cond (Nat.blt pc 27) (cond (Nat.beq pc 26) (o_bin (fun x y => x ^^^ y) 27) o_bad) (cond (Nat.blt pc 28) (cond (Nat.beq pc 27) (o_bin (fun x y => x &&& y) 28) o_bad) (cond (Nat.beq pc 28) (o_if (fun x => x = 0) 31 35) o_bad))) (cond (Nat.blt pc 35) (cond (Nat.blt pc 32) (cond (Nat.beq pc 31) (o_const (1) 32) o_bad) (cond (Nat.beq pc 32) (o_goto 36) o_bad)) (cond (Nat.blt pc 36) (cond (Nat.beq pc 35) (o_const (0) 36) o_bad) (cond (Nat.beq pc 36) (o_zret) o_bad)))))
set_option maxRecDepth 20000 in
theorem ok_X2_needsKin : HOKs cX2_needsKin RX2 2 (some .boolean) 1 ins_X2_needsKin := fun _ => hnd (hnd (hnd (hnd (hlf (ok_iload_n dX2_needsKin_0 rfl rfl)) (hnd (hlf (ok_aload_n dX2_needsKin_1 rfl rfl)) (hlf (ok_getf (C := RX2) (T := TX2) dX2_needsKin_2 rfl rfl (by decide) rfl inX2 wd_79 rfl)))) (hnd (hlf (ok_iconst dX2_needsKin_5 (by decide) rfl)) (hnd (hlf (ok_iald dX2_needsKin_6 rfl)) (hlf (ok_iand dX2_needsKin_7 rfl))))) (hnd (hnd (hlf (ok_if_eq dX2_needsKin_8 (by decide) rfl)) (hnd (hlf (ok_iload_n dX2_needsKin_11 rfl rfl)) (hlf (ok_aload_n dX2_needsKin_12 rfl rfl)))) (hnd (hlf (ok_getf (C := RX2) (T := TX2) dX2_needsKin_13 rfl rfl (by decide) rfl inX2 wd_79 rfl)) (hnd (hlf (ok_iconst dX2_needsKin_16 (by decide) rfl)) (hlf (ok_iald dX2_needsKin_17 rfl)))))) (hnd (hnd (hnd (hlf (ok_iand dX2_needsKin_18 rfl)) (hnd (hlf (ok_aload_n dX2_needsKin_19 rfl rfl)) (hlf (ok_getf (C := RX2) (T := TX2) dX2_needsKin_20 rfl rfl (by decide) rfl inX2 wd_79 rfl)))) (hnd (hlf (ok_iconst dX2_needsKin_23 (by decide) rfl)) (hnd (hlf (ok_iald dX2_needsKin_24 rfl)) (hlf (ok_iconst dX2_needsKin_25 (by decide) rfl))))) (hnd (hnd (hlf (ok_ixor dX2_needsKin_26 rfl)) (hnd (hlf (ok_iand dX2_needsKin_27 rfl)) (hlf (ok_if_ne dX2_needsKin_28 (by decide) rfl)))) (hnd (hnd (hlf (ok_iconst dX2_needsKin_31 (by decide) rfl)) (hlf (ok_goto dX2_needsKin_32 (by decide)))) (hnd (hlf (ok_iconst dX2_needsKin_35 (by decide) rfl)) (hlf (ok_zret dX2_needsKin_36))))))

theorem vc_X2_needsKin : MVC ins_X2_needsKin 2 2 sp_X2_needsKin := by
  refine mvc0 60 fun as w σ q hl hs => ?_
  unfold sp_X2_needsKin at hs
  split at hs
  rotate_left
  · exact hs.elim
  rename_i s
  have h3 : vp_in (3 : Int32) 4 := vp_in_nI (n := 3) (N := 4) (by decide) (by decide)
  have h1 : vp_in (1 : Int32) 4 := vp_in_nI (n := 1) (N := 4) (by decide) (by decide)
  refine And.intro h3 (And.intro (fun h => ⟨Or.inl rfl, hs.2 (fun q => q.1 h)⟩) (fun h => And.intro h1 (And.intro h3 ?_)))
  exact And.intro (fun h4 => ⟨Or.inr rfl, hs.1 ⟨h, h4⟩⟩) (fun h4 => ⟨Or.inl rfl, hs.2 (fun q => h4 q.2)⟩)
theorem ct_X2_needsKin : Ctr yX2_needsKin cX2_needsKin 2 (some .boolean) 1 0 0 2 sp_X2_needsKin := ctr_of (by decide +kernel) rfl (by decide) ok_X2_needsKin vc_X2_needsKin

abbrev liC (σ : HS) (p : Nat) (s : Int32) : Prop := s &&& (σ 3 p 3 ^^^ (-1)) &&& (σ 13 0 2 ^^^ (-1)) = 0
def sp_X2_areListed : HSp := fun as w σ K => match as with
  | [.inr (.inl (2, some 0)), .inr (.inl (3, some p)), .inl s] => spZ (liC σ p s) w σ K
  | _ => False
theorem dX2_areListed_0 : decode cX2_areListed 0 = .ok (.iload_n 2, 1) := by decide +kernel
theorem dX2_areListed_1 : decode cX2_areListed 1 = .ok (.aload_n 1, 1) := by decide +kernel
theorem dX2_areListed_2 : decode cX2_areListed 2 = .ok (.getfield 48, 3) := by decide +kernel
theorem dX2_areListed_5 : decode cX2_areListed 5 = .ok (.iconst (-1), 1) := by decide +kernel
theorem dX2_areListed_6 : decode cX2_areListed 6 = .ok (.ixor, 1) := by decide +kernel
theorem dX2_areListed_7 : decode cX2_areListed 7 = .ok (.iand, 1) := by decide +kernel
theorem dX2_areListed_8 : decode cX2_areListed 8 = .ok (.aload_n 0, 1) := by decide +kernel
theorem dX2_areListed_9 : decode cX2_areListed 9 = .ok (.getfield 17, 3) := by decide +kernel
theorem dX2_areListed_12 : decode cX2_areListed 12 = .ok (.iconst 2, 1) := by decide +kernel
theorem dX2_areListed_13 : decode cX2_areListed 13 = .ok (.iaload, 1) := by decide +kernel
theorem dX2_areListed_14 : decode cX2_areListed 14 = .ok (.iconst (-1), 1) := by decide +kernel
theorem dX2_areListed_15 : decode cX2_areListed 15 = .ok (.ixor, 1) := by decide +kernel
theorem dX2_areListed_16 : decode cX2_areListed 16 = .ok (.iand, 1) := by decide +kernel
theorem dX2_areListed_17 : decode cX2_areListed 17 = .ok (.ifCond .ne 7, 3) := by decide +kernel
theorem dX2_areListed_20 : decode cX2_areListed 20 = .ok (.iconst 1, 1) := by decide +kernel
theorem dX2_areListed_21 : decode cX2_areListed 21 = .ok (.goto 4, 3) := by decide +kernel
theorem dX2_areListed_24 : decode cX2_areListed 24 = .ok (.iconst 0, 1) := by decide +kernel
theorem dX2_areListed_25 : decode cX2_areListed 25 = .ok (.ireturn, 1) := by decide +kernel
def ins_X2_areListed (pc : Nat) : HOp := cond (Nat.blt pc 13) (cond (Nat.blt pc 6) (cond (Nat.blt pc 2) (cond (Nat.blt pc 1) (cond (Nat.beq pc 0) (o_iload 2 1) o_bad) (cond (Nat.beq pc 1) (o_aload 1 2) o_bad)) (cond (Nat.blt pc 5) (cond (Nat.beq pc 2) (o_getf 3 3 5) o_bad) (cond (Nat.beq pc 5) (o_const (-1) 6) o_bad))) (cond (Nat.blt pc 8) (cond (Nat.blt pc 7) (cond (Nat.beq pc 6) (o_bin (fun x y => x ^^^ y) 7) o_bad) (cond (Nat.beq pc 7) (o_bin (fun x y => x &&& y) 8) o_bad)) (cond (Nat.blt pc 9) (cond (Nat.beq pc 8) (o_aload 0 9) o_bad) (cond (Nat.blt pc 12) (cond (Nat.beq pc 9) (o_getf 2 2 12) o_bad) (cond (Nat.beq pc 12) (o_const (2) 13) o_bad))))) (cond (Nat.blt pc 17) (cond (Nat.blt pc 15) (cond (Nat.blt pc 14) (cond (Nat.beq pc 13) (o_iald 14) o_bad) (cond (Nat.beq pc 14) (o_const (-1) 15) o_bad)) (cond (Nat.blt pc 16) (cond (Nat.beq pc 15) (o_bin (fun x y => x ^^^ y) 16) o_bad) (cond (Nat.beq pc 16) (o_bin (fun x y => x &&& y) 17) o_bad))) (cond (Nat.blt pc 21) (cond (Nat.blt pc 20) (cond (Nat.beq pc 17) (o_if (fun x => x = 0) 20 24) o_bad) (cond (Nat.beq pc 20) (o_const (1) 21) o_bad)) (cond (Nat.blt pc 24) (cond (Nat.beq pc 21) (o_goto 25) o_bad) (cond (Nat.blt pc 25) (cond (Nat.beq pc 24) (o_const (0) 25) o_bad) (cond (Nat.beq pc 25) (o_zret) o_bad)))))
set_option maxRecDepth 20000 in
theorem ok_X2_areListed : HOKs cX2_areListed RX2 3 (some .boolean) 1 ins_X2_areListed := fun _ => hnd (hnd (hnd (hnd (hlf (ok_iload_n dX2_areListed_0 rfl rfl)) (hlf (ok_aload_n dX2_areListed_1 rfl rfl))) (hnd (hlf (ok_getfN (C := RX3) (T := TX3) dX2_areListed_2 rfl rfl (by decide) rfl inX3 wd_345 rfl)) (hlf (ok_iconst dX2_areListed_5 (by decide) rfl)))) (hnd (hnd (hlf (ok_ixor dX2_areListed_6 rfl)) (hlf (ok_iand dX2_areListed_7 rfl))) (hnd (hlf (ok_aload_n dX2_areListed_8 rfl rfl)) (hnd (hlf (ok_getf (C := RX2) (T := TX2) dX2_areListed_9 rfl rfl (by decide) rfl inX2 wd_79 rfl)) (hlf (ok_iconst dX2_areListed_12 (by decide) rfl)))))) (hnd (hnd (hnd (hlf (ok_iald dX2_areListed_13 rfl)) (hlf (ok_iconst dX2_areListed_14 (by decide) rfl))) (hnd (hlf (ok_ixor dX2_areListed_15 rfl)) (hlf (ok_iand dX2_areListed_16 rfl)))) (hnd (hnd (hlf (ok_if_ne dX2_areListed_17 (by decide) rfl)) (hlf (ok_iconst dX2_areListed_20 (by decide) rfl))) (hnd (hlf (ok_goto dX2_areListed_21 (by decide))) (hnd (hlf (ok_iconst dX2_areListed_24 (by decide) rfl)) (hlf (ok_zret dX2_areListed_25))))))

theorem vc_X2_areListed : MVC ins_X2_areListed 3 3 sp_X2_areListed := by
  refine mvc0 60 fun as w σ q hl hs => ?_
  unfold sp_X2_areListed at hs
  split at hs
  rotate_left
  · exact hs.elim
  rename_i p s
  exact And.intro (vp_in_nI (n := 2) (N := 4) (by decide) (by decide)) (And.intro (fun h => ⟨Or.inr rfl, hs.1 h⟩) (fun h => ⟨Or.inl rfl, hs.2 h⟩))
theorem ct_X2_areListed : Ctr yX2_areListed cX2_areListed 3 (some .boolean) 1 0 0 3 sp_X2_areListed := ctr_of (by decide +kernel) rfl (by decide) ok_X2_areListed vc_X2_areListed

def sp_X2_isChild : HSp := fun as w σ K => match as with
  | [.inr (.inl (2, some 0)), .inl v] => spZ (σ 13 0 3 >>> (v &&& 31) &&& 1 = 1) w σ K
  | _ => False
theorem dX2_isChild_0 : decode cX2_isChild 0 = .ok (.aload_n 0, 1) := by decide +kernel
theorem dX2_isChild_1 : decode cX2_isChild 1 = .ok (.getfield 17, 3) := by decide +kernel
theorem dX2_isChild_4 : decode cX2_isChild 4 = .ok (.iconst 3, 1) := by decide +kernel
theorem dX2_isChild_5 : decode cX2_isChild 5 = .ok (.iaload, 1) := by decide +kernel
theorem dX2_isChild_6 : decode cX2_isChild 6 = .ok (.iload_n 1, 1) := by decide +kernel
theorem dX2_isChild_7 : decode cX2_isChild 7 = .ok (.ishr, 1) := by decide +kernel
theorem dX2_isChild_8 : decode cX2_isChild 8 = .ok (.iconst 1, 1) := by decide +kernel
theorem dX2_isChild_9 : decode cX2_isChild 9 = .ok (.iand, 1) := by decide +kernel
theorem dX2_isChild_10 : decode cX2_isChild 10 = .ok (.iconst 1, 1) := by decide +kernel
theorem dX2_isChild_11 : decode cX2_isChild 11 = .ok (.if_icmp .ne 7, 3) := by decide +kernel
theorem dX2_isChild_14 : decode cX2_isChild 14 = .ok (.iconst 1, 1) := by decide +kernel
theorem dX2_isChild_15 : decode cX2_isChild 15 = .ok (.goto 4, 3) := by decide +kernel
theorem dX2_isChild_18 : decode cX2_isChild 18 = .ok (.iconst 0, 1) := by decide +kernel
theorem dX2_isChild_19 : decode cX2_isChild 19 = .ok (.ireturn, 1) := by decide +kernel
def ins_X2_isChild (pc : Nat) : HOp := cond (Nat.blt pc 9) (cond (Nat.blt pc 5) (cond (Nat.blt pc 1) (cond (Nat.beq pc 0) (o_aload 0 1) o_bad) (cond (Nat.blt pc 4) (cond (Nat.beq pc 1) (o_getf 2 2 4) o_bad) (cond (Nat.beq pc 4) (o_const (3) 5) o_bad))) (cond (Nat.blt pc 7) (cond (Nat.blt pc 6) (cond (Nat.beq pc 5) (o_iald 6) o_bad) (cond (Nat.beq pc 6) (o_iload 1 7) o_bad)) (cond (Nat.blt pc 8) (cond (Nat.beq pc 7) (o_bin (fun x y => x >>> (y &&& 31)) 8) o_bad) (cond (Nat.beq pc 8) (o_const (1) 9) o_bad)))) (cond (Nat.blt pc 14) (cond (Nat.blt pc 10) (cond (Nat.beq pc 9) (o_bin (fun x y => x &&& y) 10) o_bad) (cond (Nat.blt pc 11) (cond (Nat.beq pc 10) (o_const (1) 11) o_bad) (cond (Nat.beq pc 11) (o_icmp (fun x y => x = y) 14 18) o_bad))) (cond (Nat.blt pc 18) (cond (Nat.blt pc 15) (cond (Nat.beq pc 14) (o_const (1) 15) o_bad) (cond (Nat.beq pc 15) (o_goto 19) o_bad)) (cond (Nat.blt pc 19) (cond (Nat.beq pc 18) (o_const (0) 19) o_bad) (cond (Nat.beq pc 19) (o_zret) o_bad))))
set_option maxRecDepth 20000 in
theorem ok_X2_isChild : HOKs cX2_isChild RX2 2 (some .boolean) 1 ins_X2_isChild := fun _ => hnd (hnd (hnd (hlf (ok_aload_n dX2_isChild_0 rfl rfl)) (hnd (hlf (ok_getf (C := RX2) (T := TX2) dX2_isChild_1 rfl rfl (by decide) rfl inX2 wd_79 rfl)) (hlf (ok_iconst dX2_isChild_4 (by decide) rfl)))) (hnd (hnd (hlf (ok_iald dX2_isChild_5 rfl)) (hlf (ok_iload_n dX2_isChild_6 rfl rfl))) (hnd (hlf (ok_ishr dX2_isChild_7 rfl)) (hlf (ok_iconst dX2_isChild_8 (by decide) rfl))))) (hnd (hnd (hlf (ok_iand dX2_isChild_9 rfl)) (hnd (hlf (ok_iconst dX2_isChild_10 (by decide) rfl)) (hlf (ok_icmp_ne dX2_isChild_11 (by decide) rfl)))) (hnd (hnd (hlf (ok_iconst dX2_isChild_14 (by decide) rfl)) (hlf (ok_goto dX2_isChild_15 (by decide)))) (hnd (hlf (ok_iconst dX2_isChild_18 (by decide) rfl)) (hlf (ok_zret dX2_isChild_19)))))

theorem vc_X2_isChild : MVC ins_X2_isChild 2 2 sp_X2_isChild := by
  refine mvc0 60 fun as w σ q hl hs => ?_
  unfold sp_X2_isChild at hs
  split at hs
  rotate_left
  · exact hs.elim
  rename_i v
  exact And.intro (vp_in_nI (n := 3) (N := 4) (by decide) (by decide)) (And.intro (fun h => ⟨Or.inr rfl, hs.1 h⟩) (fun h => ⟨Or.inl rfl, hs.2 h⟩))
theorem ct_X2_isChild : Ctr yX2_isChild cX2_isChild 2 (some .boolean) 1 0 0 2 sp_X2_isChild := ctr_of (by decide +kernel) rfl (by decide) ok_X2_isChild vc_X2_isChild

def sp_X2_areRivals : HSp := fun as w σ K => match as with
  | [.inr (.inl (2, some 0)), .inl f, .inl o] => ∃ i, i < 10 ∧ f = nI i ∧ spZ (σ 13 2 i >>> (o &&& 31) &&& 1 = 1) w σ K
  | _ => False
theorem dX2_areRivals_0 : decode cX2_areRivals 0 = .ok (.aload_n 0, 1) := by decide +kernel
theorem dX2_areRivals_1 : decode cX2_areRivals 1 = .ok (.getfield 24, 3) := by decide +kernel
theorem dX2_areRivals_4 : decode cX2_areRivals 4 = .ok (.iload_n 1, 1) := by decide +kernel
theorem dX2_areRivals_5 : decode cX2_areRivals 5 = .ok (.iaload, 1) := by decide +kernel
theorem dX2_areRivals_6 : decode cX2_areRivals 6 = .ok (.iload_n 2, 1) := by decide +kernel
theorem dX2_areRivals_7 : decode cX2_areRivals 7 = .ok (.ishr, 1) := by decide +kernel
theorem dX2_areRivals_8 : decode cX2_areRivals 8 = .ok (.iconst 1, 1) := by decide +kernel
theorem dX2_areRivals_9 : decode cX2_areRivals 9 = .ok (.iand, 1) := by decide +kernel
theorem dX2_areRivals_10 : decode cX2_areRivals 10 = .ok (.iconst 1, 1) := by decide +kernel
theorem dX2_areRivals_11 : decode cX2_areRivals 11 = .ok (.if_icmp .ne 7, 3) := by decide +kernel
theorem dX2_areRivals_14 : decode cX2_areRivals 14 = .ok (.iconst 1, 1) := by decide +kernel
theorem dX2_areRivals_15 : decode cX2_areRivals 15 = .ok (.goto 4, 3) := by decide +kernel
theorem dX2_areRivals_18 : decode cX2_areRivals 18 = .ok (.iconst 0, 1) := by decide +kernel
theorem dX2_areRivals_19 : decode cX2_areRivals 19 = .ok (.ireturn, 1) := by decide +kernel
def ins_X2_areRivals (pc : Nat) : HOp := cond (Nat.blt pc 9) (cond (Nat.blt pc 5) (cond (Nat.blt pc 1) (cond (Nat.beq pc 0) (o_aload 0 1) o_bad) (cond (Nat.blt pc 4) (cond (Nat.beq pc 1) (o_getf 2 5 4) o_bad) (cond (Nat.beq pc 4) (o_iload 1 5) o_bad))) (cond (Nat.blt pc 7) (cond (Nat.blt pc 6) (cond (Nat.beq pc 5) (o_iald 6) o_bad) (cond (Nat.beq pc 6) (o_iload 2 7) o_bad)) (cond (Nat.blt pc 8) (cond (Nat.beq pc 7) (o_bin (fun x y => x >>> (y &&& 31)) 8) o_bad) (cond (Nat.beq pc 8) (o_const (1) 9) o_bad)))) (cond (Nat.blt pc 14) (cond (Nat.blt pc 10) (cond (Nat.beq pc 9) (o_bin (fun x y => x &&& y) 10) o_bad) (cond (Nat.blt pc 11) (cond (Nat.beq pc 10) (o_const (1) 11) o_bad) (cond (Nat.beq pc 11) (o_icmp (fun x y => x = y) 14 18) o_bad))) (cond (Nat.blt pc 18) (cond (Nat.blt pc 15) (cond (Nat.beq pc 14) (o_const (1) 15) o_bad) (cond (Nat.beq pc 15) (o_goto 19) o_bad)) (cond (Nat.blt pc 19) (cond (Nat.beq pc 18) (o_const (0) 19) o_bad) (cond (Nat.beq pc 19) (o_zret) o_bad))))
set_option maxRecDepth 20000 in
theorem ok_X2_areRivals : HOKs cX2_areRivals RX2 3 (some .boolean) 1 ins_X2_areRivals := fun _ => hnd (hnd (hnd (hlf (ok_aload_n dX2_areRivals_0 rfl rfl)) (hnd (hlf (ok_getf (C := RX2) (T := TX2) dX2_areRivals_1 rfl rfl (by decide) rfl inX2 wd_83 rfl)) (hlf (ok_iload_n dX2_areRivals_4 rfl rfl)))) (hnd (hnd (hlf (ok_iald dX2_areRivals_5 rfl)) (hlf (ok_iload_n dX2_areRivals_6 rfl rfl))) (hnd (hlf (ok_ishr dX2_areRivals_7 rfl)) (hlf (ok_iconst dX2_areRivals_8 (by decide) rfl))))) (hnd (hnd (hlf (ok_iand dX2_areRivals_9 rfl)) (hnd (hlf (ok_iconst dX2_areRivals_10 (by decide) rfl)) (hlf (ok_icmp_ne dX2_areRivals_11 (by decide) rfl)))) (hnd (hnd (hlf (ok_iconst dX2_areRivals_14 (by decide) rfl)) (hlf (ok_goto dX2_areRivals_15 (by decide)))) (hnd (hlf (ok_iconst dX2_areRivals_18 (by decide) rfl)) (hlf (ok_zret dX2_areRivals_19)))))

theorem vc_X2_areRivals : MVC ins_X2_areRivals 3 3 sp_X2_areRivals := by
  refine mvc0 60 fun as w σ q hl hs => ?_
  unfold sp_X2_areRivals at hs
  split at hs
  rotate_left
  · exact hs.elim
  rename_i f o
  obtain ⟨i, hi, rfl, hs⟩ := hs
  have e : (nI i).toNatClampNeg = i := nI_clamp (by omega)
  rw [← e] at hs
  exact And.intro (vp_in_nI (N := 10) hi (by decide)) (And.intro (fun h => ⟨Or.inr rfl, hs.1 h⟩) (fun h => ⟨Or.inl rfl, hs.2 h⟩))
theorem ct_X2_areRivals : Ctr yX2_areRivals cX2_areRivals 3 (some .boolean) 1 0 0 3 sp_X2_areRivals := ctr_of (by decide +kernel) rfl (by decide) ok_X2_areRivals vc_X2_areRivals

