/-! The reference, 1 -/
def sp_X11_isIn : HSp := fun as w σ K => match as with
  | [.inl v, .inl a, .inl b] => spZ (¬ v < a ∧ ¬ b < v) w σ K
  | _ => False
theorem dX11_isIn_0 : decode cX11_isIn 0 = .ok (.iload_n 0, 1) := by decide +kernel
theorem dX11_isIn_1 : decode cX11_isIn 1 = .ok (.iload_n 1, 1) := by decide +kernel
theorem dX11_isIn_2 : decode cX11_isIn 2 = .ok (.if_icmp .lt 12, 3) := by decide +kernel
theorem dX11_isIn_5 : decode cX11_isIn 5 = .ok (.iload_n 0, 1) := by decide +kernel
theorem dX11_isIn_6 : decode cX11_isIn 6 = .ok (.iload_n 2, 1) := by decide +kernel
theorem dX11_isIn_7 : decode cX11_isIn 7 = .ok (.if_icmp .gt 7, 3) := by decide +kernel
theorem dX11_isIn_10 : decode cX11_isIn 10 = .ok (.iconst 1, 1) := by decide +kernel
theorem dX11_isIn_11 : decode cX11_isIn 11 = .ok (.goto 4, 3) := by decide +kernel
theorem dX11_isIn_14 : decode cX11_isIn 14 = .ok (.iconst 0, 1) := by decide +kernel
theorem dX11_isIn_15 : decode cX11_isIn 15 = .ok (.ireturn, 1) := by decide +kernel
def ins_X11_isIn (pc : Nat) : HOp := cond (Nat.blt pc 7) (cond (Nat.blt pc 2) (cond (Nat.blt pc 1) (cond (Nat.beq pc 0) (o_iload 0 1) o_bad) (cond (Nat.beq pc 1) (o_iload 1 2) o_bad)) (cond (Nat.blt pc 5) (cond (Nat.beq pc 2) (o_icmp (fun x y => x < y) 14 5) o_bad) (cond (Nat.blt pc 6) (cond (Nat.beq pc 5) (o_iload 0 6) o_bad) (cond (Nat.beq pc 6) (o_iload 2 7) o_bad)))) (cond (Nat.blt pc 11) (cond (Nat.blt pc 10) (cond (Nat.beq pc 7) (o_icmp (fun x y => y < x) 14 10) o_bad) (cond (Nat.beq pc 10) (o_const (1) 11) o_bad)) (cond (Nat.blt pc 14) (cond (Nat.beq pc 11) (o_goto 15) o_bad) (cond (Nat.blt pc 15) (cond (Nat.beq pc 14) (o_const (0) 15) o_bad) (cond (Nat.beq pc 15) (o_zret) o_bad))))
set_option maxRecDepth 20000 in
theorem ok_X11_isIn : HOKs cX11_isIn RX11 3 (some .boolean) 1 ins_X11_isIn := fun _ => hnd (hnd (hnd (hlf (ok_iload_n dX11_isIn_0 rfl rfl)) (hlf (ok_iload_n dX11_isIn_1 rfl rfl))) (hnd (hlf (ok_icmp_lt dX11_isIn_2 (by decide) rfl)) (hnd (hlf (ok_iload_n dX11_isIn_5 rfl rfl)) (hlf (ok_iload_n dX11_isIn_6 rfl rfl))))) (hnd (hnd (hlf (ok_icmp_gt dX11_isIn_7 (by decide) rfl)) (hlf (ok_iconst dX11_isIn_10 (by decide) rfl))) (hnd (hlf (ok_goto dX11_isIn_11 (by decide))) (hnd (hlf (ok_iconst dX11_isIn_14 (by decide) rfl)) (hlf (ok_zret dX11_isIn_15)))))

theorem vc_X11_isIn : MVC ins_X11_isIn 3 3 sp_X11_isIn := by
  refine mvc0 40 fun as w σ q hl hs => ?_
  unfold sp_X11_isIn at hs
  split at hs
  rotate_left
  · exact hs.elim
  rename_i v a b
  clear hl
  repeat' (first | apply br2 | intro _)
  all_goals first | exact ⟨Or.inl rfl, hs.2 (by grind)⟩ | exact ⟨Or.inr rfl, hs.1 (by grind)⟩
theorem ct_X11_isIn : Ctr yX11_isIn cX11_isIn 3 (some .boolean) 1 0 0 3 sp_X11_isIn := ctr_of (by decide +kernel) rfl (by decide) ok_X11_isIn vc_X11_isIn

def sp_X11_has : HSp := fun as w σ K => match as with
  | [.inl s, .inl v] => spZ (s >>> (v &&& 31) &&& 1 = 1) w σ K
  | _ => False
theorem dX11_has_0 : decode cX11_has 0 = .ok (.iload_n 0, 1) := by decide +kernel
theorem dX11_has_1 : decode cX11_has 1 = .ok (.iload_n 1, 1) := by decide +kernel
theorem dX11_has_2 : decode cX11_has 2 = .ok (.ishr, 1) := by decide +kernel
theorem dX11_has_3 : decode cX11_has 3 = .ok (.iconst 1, 1) := by decide +kernel
theorem dX11_has_4 : decode cX11_has 4 = .ok (.iand, 1) := by decide +kernel
theorem dX11_has_5 : decode cX11_has 5 = .ok (.iconst 1, 1) := by decide +kernel
theorem dX11_has_6 : decode cX11_has 6 = .ok (.if_icmp .ne 7, 3) := by decide +kernel
theorem dX11_has_9 : decode cX11_has 9 = .ok (.iconst 1, 1) := by decide +kernel
theorem dX11_has_10 : decode cX11_has 10 = .ok (.goto 4, 3) := by decide +kernel
theorem dX11_has_13 : decode cX11_has 13 = .ok (.iconst 0, 1) := by decide +kernel
theorem dX11_has_14 : decode cX11_has 14 = .ok (.ireturn, 1) := by decide +kernel
def ins_X11_has (pc : Nat) : HOp := cond (Nat.blt pc 5) (cond (Nat.blt pc 2) (cond (Nat.blt pc 1) (cond (Nat.beq pc 0) (o_iload 0 1) o_bad) (cond (Nat.beq pc 1) (o_iload 1 2) o_bad)) (cond (Nat.blt pc 3) (cond (Nat.beq pc 2) (o_bin (fun x y => x >>> (y &&& 31)) 3) o_bad) (cond (Nat.blt pc 4) (cond (Nat.beq pc 3) (o_const (1) 4) o_bad) (cond (Nat.beq pc 4) (o_bin (fun x y => x &&& y) 5) o_bad)))) (cond (Nat.blt pc 10) (cond (Nat.blt pc 6) (cond (Nat.beq pc 5) (o_const (1) 6) o_bad) (cond (Nat.blt pc 9) (cond (Nat.beq pc 6) (o_icmp (fun x y => x = y) 9 13) o_bad) (cond (Nat.beq pc 9) (o_const (1) 10) o_bad))) (cond (Nat.blt pc 13) (cond (Nat.beq pc 10) (o_goto 14) o_bad) (cond (Nat.blt pc 14) (cond (Nat.beq pc 13) (o_const (0) 14) o_bad) (cond (Nat.beq pc 14) (o_zret) o_bad))))
set_option maxRecDepth 20000 in
theorem ok_X11_has : HOKs cX11_has RX11 2 (some .boolean) 1 ins_X11_has := fun _ => hnd (hnd (hnd (hlf (ok_iload_n dX11_has_0 rfl rfl)) (hlf (ok_iload_n dX11_has_1 rfl rfl))) (hnd (hlf (ok_ishr dX11_has_2 rfl)) (hnd (hlf (ok_iconst dX11_has_3 (by decide) rfl)) (hlf (ok_iand dX11_has_4 rfl))))) (hnd (hnd (hlf (ok_iconst dX11_has_5 (by decide) rfl)) (hnd (hlf (ok_icmp_ne dX11_has_6 (by decide) rfl)) (hlf (ok_iconst dX11_has_9 (by decide) rfl)))) (hnd (hlf (ok_goto dX11_has_10 (by decide))) (hnd (hlf (ok_iconst dX11_has_13 (by decide) rfl)) (hlf (ok_zret dX11_has_14)))))

theorem vc_X11_has : MVC ins_X11_has 2 2 sp_X11_has := by
  refine mvc0 40 fun as w σ q hl hs => ?_
  unfold sp_X11_has at hs
  split at hs
  rotate_left
  · exact hs.elim
  rename_i s v
  clear hl
  repeat' (first | apply br2 | intro _)
  all_goals first | exact ⟨Or.inl rfl, hs.2 (by grind)⟩ | exact ⟨Or.inr rfl, hs.1 (by grind)⟩
theorem ct_X11_has : Ctr yX11_has cX11_has 2 (some .boolean) 1 0 0 2 sp_X11_has := ctr_of (by decide +kernel) rfl (by decide) ok_X11_has vc_X11_has

def sp_X11_isPrisoner : HSp := fun as w σ K => match as with
  | [.inr (.inl (11, some 0)), .inl x] => spZ (¬ x < 0 ∧ ¬ σ 11 0 1 - 1 < x) w σ K
  | _ => False
theorem dX11_isPrisoner_0 : decode cX11_isPrisoner 0 = .ok (.iload_n 1, 1) := by decide +kernel
theorem dX11_isPrisoner_1 : decode cX11_isPrisoner 1 = .ok (.iconst 0, 1) := by decide +kernel
theorem dX11_isPrisoner_2 : decode cX11_isPrisoner 2 = .ok (.aload_n 0, 1) := by decide +kernel
theorem dX11_isPrisoner_3 : decode cX11_isPrisoner 3 = .ok (.getfield 99, 3) := by decide +kernel
theorem dX11_isPrisoner_6 : decode cX11_isPrisoner 6 = .ok (.iconst 1, 1) := by decide +kernel
theorem dX11_isPrisoner_7 : decode cX11_isPrisoner 7 = .ok (.isub, 1) := by decide +kernel
theorem dX11_isPrisoner_8 : decode cX11_isPrisoner 8 = .ok (.invokestatic 102, 3) := by decide +kernel
theorem dX11_isPrisoner_11 : decode cX11_isPrisoner 11 = .ok (.ireturn, 1) := by decide +kernel
def ins_X11_isPrisoner (pc : Nat) : HOp := cond (Nat.blt pc 6) (cond (Nat.blt pc 2) (cond (Nat.blt pc 1) (cond (Nat.beq pc 0) (o_iload 1 1) o_bad) (cond (Nat.beq pc 1) (o_const (0) 2) o_bad)) (cond (Nat.blt pc 3) (cond (Nat.beq pc 2) (o_aload 0 3) o_bad) (cond (Nat.beq pc 3) (o_getf 11 1 6) o_bad))) (cond (Nat.blt pc 8) (cond (Nat.blt pc 7) (cond (Nat.beq pc 6) (o_const (1) 7) o_bad) (cond (Nat.beq pc 7) (o_bin (fun x y => x - y) 8) o_bad)) (cond (Nat.blt pc 11) (cond (Nat.beq pc 8) (o_callS 3 sp_X11_isIn 11) o_bad) (cond (Nat.beq pc 11) (o_zret) o_bad)))
set_option maxRecDepth 20000 in
theorem ok_X11_isPrisoner : HOKs cX11_isPrisoner RX11 2 (some .boolean) 2 ins_X11_isPrisoner := fun _ => hnd (hnd (hnd (hlf (ok_iload_n dX11_isPrisoner_0 rfl rfl)) (hlf (ok_iconst dX11_isPrisoner_1 (by decide) rfl))) (hnd (hlf (ok_aload_n dX11_isPrisoner_2 rfl rfl)) (hlf (ok_getf (C := RX11) (T := TX11) dX11_isPrisoner_3 rfl rfl (by decide) rfl inX11 wd_878 rfl)))) (hnd (hnd (hlf (ok_iconst dX11_isPrisoner_6 (by decide) rfl)) (hlf (ok_isub dX11_isPrisoner_7 rfl))) (hnd (hlf (ok_callS (y := yX11_isIn) dX11_isPrisoner_8 ct_X11_isIn (by decide) (by decide) wd_1017 wd_1015 wd_1016 wd_50 (by decide +kernel) rfl)) (hlf (ok_zret dX11_isPrisoner_11))))

theorem vc_X11_isPrisoner : MVC ins_X11_isPrisoner 2 2 sp_X11_isPrisoner := by
  refine mvc0 40 fun as w σ q hl hs => ?_
  unfold sp_X11_isPrisoner at hs
  split at hs
  rotate_left
  · exact hs.elim
  rename_i x
  exact br2 (fun h => ⟨Or.inr rfl, hs.1 h⟩) (fun h => ⟨Or.inl rfl, hs.2 h⟩)
theorem ct_X11_isPrisoner : Ctr yX11_isPrisoner cX11_isPrisoner 2 (some .boolean) 2 0 0 2 sp_X11_isPrisoner := ctr_of (by decide +kernel) rfl (by decide) ok_X11_isPrisoner vc_X11_isPrisoner

def sp_X11_isVisitor : HSp := fun as w σ K => match as with
  | [.inr (.inl (11, some 0)), .inl x] => spZ (¬ x < 0 ∧ ¬ σ 11 0 7 - 1 < x) w σ K
  | _ => False
theorem dX11_isVisitor_0 : decode cX11_isVisitor 0 = .ok (.iload_n 1, 1) := by decide +kernel
theorem dX11_isVisitor_1 : decode cX11_isVisitor 1 = .ok (.iconst 0, 1) := by decide +kernel
theorem dX11_isVisitor_2 : decode cX11_isVisitor 2 = .ok (.aload_n 0, 1) := by decide +kernel
theorem dX11_isVisitor_3 : decode cX11_isVisitor 3 = .ok (.getfield 106, 3) := by decide +kernel
theorem dX11_isVisitor_6 : decode cX11_isVisitor 6 = .ok (.iconst 1, 1) := by decide +kernel
theorem dX11_isVisitor_7 : decode cX11_isVisitor 7 = .ok (.isub, 1) := by decide +kernel
theorem dX11_isVisitor_8 : decode cX11_isVisitor 8 = .ok (.invokestatic 102, 3) := by decide +kernel
theorem dX11_isVisitor_11 : decode cX11_isVisitor 11 = .ok (.ireturn, 1) := by decide +kernel
def ins_X11_isVisitor (pc : Nat) : HOp := cond (Nat.blt pc 6) (cond (Nat.blt pc 2) (cond (Nat.blt pc 1) (cond (Nat.beq pc 0) (o_iload 1 1) o_bad) (cond (Nat.beq pc 1) (o_const (0) 2) o_bad)) (cond (Nat.blt pc 3) (cond (Nat.beq pc 2) (o_aload 0 3) o_bad) (cond (Nat.beq pc 3) (o_getf 11 7 6) o_bad))) (cond (Nat.blt pc 8) (cond (Nat.blt pc 7) (cond (Nat.beq pc 6) (o_const (1) 7) o_bad) (cond (Nat.beq pc 7) (o_bin (fun x y => x - y) 8) o_bad)) (cond (Nat.blt pc 11) (cond (Nat.beq pc 8) (o_callS 3 sp_X11_isIn 11) o_bad) (cond (Nat.beq pc 11) (o_zret) o_bad)))
set_option maxRecDepth 20000 in
theorem ok_X11_isVisitor : HOKs cX11_isVisitor RX11 2 (some .boolean) 2 ins_X11_isVisitor := fun _ => hnd (hnd (hnd (hlf (ok_iload_n dX11_isVisitor_0 rfl rfl)) (hlf (ok_iconst dX11_isVisitor_1 (by decide) rfl))) (hnd (hlf (ok_aload_n dX11_isVisitor_2 rfl rfl)) (hlf (ok_getf (C := RX11) (T := TX11) dX11_isVisitor_3 rfl rfl (by decide) rfl inX11 wd_884 rfl)))) (hnd (hnd (hlf (ok_iconst dX11_isVisitor_6 (by decide) rfl)) (hlf (ok_isub dX11_isVisitor_7 rfl))) (hnd (hlf (ok_callS (y := yX11_isIn) dX11_isVisitor_8 ct_X11_isIn (by decide) (by decide) wd_1017 wd_1015 wd_1016 wd_50 (by decide +kernel) rfl)) (hlf (ok_zret dX11_isVisitor_11))))

theorem vc_X11_isVisitor : MVC ins_X11_isVisitor 2 2 sp_X11_isVisitor := by
  refine mvc0 40 fun as w σ q hl hs => ?_
  unfold sp_X11_isVisitor at hs
  split at hs
  rotate_left
  · exact hs.elim
  rename_i x
  exact br2 (fun h => ⟨Or.inr rfl, hs.1 h⟩) (fun h => ⟨Or.inl rfl, hs.2 h⟩)
theorem ct_X11_isVisitor : Ctr yX11_isVisitor cX11_isVisitor 2 (some .boolean) 2 0 0 2 sp_X11_isVisitor := ctr_of (by decide +kernel) rfl (by decide) ok_X11_isVisitor vc_X11_isVisitor

abbrev Nv (σ : HS) (nv : Nat) : Prop := nv ≤ 14 ∧ σ 11 0 7 = nI nv
abbrev Nn (σ : HS) (n : Nat) : Prop := n ≤ 100 ∧ σ 11 0 21 = nI n
abbrev lwM (σ : HS) (nv : Nat) (s : Int32) : Prop := ∀ v, v < nv → bt1 s v → σ 20 5 v = 2
def sp_X11_isLawyers : HSp := fun as w σ K => match as with
  | [.inr (.inl (11, some 0)), .inl s] => ∃ nv, Nv σ nv ∧ spZ (lwM σ nv s) w σ K
  | _ => False
theorem dX11_isLawyers_0 : decode cX11_isLawyers 0 = .ok (.iconst 0, 1) := by decide +kernel
theorem dX11_isLawyers_1 : decode cX11_isLawyers 1 = .ok (.istore_n 2, 1) := by decide +kernel
theorem dX11_isLawyers_2 : decode cX11_isLawyers 2 = .ok (.iload_n 2, 1) := by decide +kernel
theorem dX11_isLawyers_3 : decode cX11_isLawyers 3 = .ok (.aload_n 0, 1) := by decide +kernel
theorem dX11_isLawyers_4 : decode cX11_isLawyers 4 = .ok (.getfield 106, 3) := by decide +kernel
theorem dX11_isLawyers_7 : decode cX11_isLawyers 7 = .ok (.if_icmp .ge 29, 3) := by decide +kernel
theorem dX11_isLawyers_10 : decode cX11_isLawyers 10 = .ok (.iload_n 1, 1) := by decide +kernel
theorem dX11_isLawyers_11 : decode cX11_isLawyers 11 = .ok (.iload_n 2, 1) := by decide +kernel
theorem dX11_isLawyers_12 : decode cX11_isLawyers 12 = .ok (.invokestatic 121, 3) := by decide +kernel
theorem dX11_isLawyers_15 : decode cX11_isLawyers 15 = .ok (.ifCond .eq 15, 3) := by decide +kernel
theorem dX11_isLawyers_18 : decode cX11_isLawyers 18 = .ok (.aload_n 0, 1) := by decide +kernel
theorem dX11_isLawyers_19 : decode cX11_isLawyers 19 = .ok (.getfield 25, 3) := by decide +kernel
theorem dX11_isLawyers_22 : decode cX11_isLawyers 22 = .ok (.iload_n 2, 1) := by decide +kernel
theorem dX11_isLawyers_23 : decode cX11_isLawyers 23 = .ok (.iaload, 1) := by decide +kernel
theorem dX11_isLawyers_24 : decode cX11_isLawyers 24 = .ok (.iconst 2, 1) := by decide +kernel
theorem dX11_isLawyers_25 : decode cX11_isLawyers 25 = .ok (.if_icmp .eq 5, 3) := by decide +kernel
theorem dX11_isLawyers_28 : decode cX11_isLawyers 28 = .ok (.iconst 0, 1) := by decide +kernel
theorem dX11_isLawyers_29 : decode cX11_isLawyers 29 = .ok (.ireturn, 1) := by decide +kernel
theorem dX11_isLawyers_30 : decode cX11_isLawyers 30 = .ok (.iinc 2 1, 3) := by decide +kernel
theorem dX11_isLawyers_33 : decode cX11_isLawyers 33 = .ok (.goto (-31), 3) := by decide +kernel
theorem dX11_isLawyers_36 : decode cX11_isLawyers 36 = .ok (.iconst 1, 1) := by decide +kernel
theorem dX11_isLawyers_37 : decode cX11_isLawyers 37 = .ok (.ireturn, 1) := by decide +kernel
def ins_X11_isLawyers (pc : Nat) : HOp := cond (Nat.blt pc 19) (cond (Nat.blt pc 7) (cond (Nat.blt pc 2) (cond (Nat.blt pc 1) (cond (Nat.beq pc 0) (o_const (0) 1) o_bad) (cond (Nat.beq pc 1) (o_istore 2 2) o_bad)) (cond (Nat.blt pc 3) (cond (Nat.beq pc 2) (o_iload 2 3) o_bad) (cond (Nat.blt pc 4) (cond (Nat.beq pc 3) (o_aload 0 4) o_bad) (cond (Nat.beq pc 4) (o_getf 11 7 7) o_bad)))) (cond (Nat.blt pc 12) (cond (Nat.blt pc 10) (cond (Nat.beq pc 7) (o_icmp (fun x y => y ≤ x) 36 10) o_bad) (cond (Nat.blt pc 11) (cond (Nat.beq pc 10) (o_iload 1 11) o_bad) (cond (Nat.beq pc 11) (o_iload 2 12) o_bad))) (cond (Nat.blt pc 15) (cond (Nat.beq pc 12) (o_callS 2 sp_X11_has 15) o_bad) (cond (Nat.blt pc 18) (cond (Nat.beq pc 15) (o_if (fun x => x = 0) 30 18) o_bad) (cond (Nat.beq pc 18) (o_aload 0 19) o_bad))))) (cond (Nat.blt pc 28) (cond (Nat.blt pc 23) (cond (Nat.blt pc 22) (cond (Nat.beq pc 19) (o_getf 11 8 22) o_bad) (cond (Nat.beq pc 22) (o_iload 2 23) o_bad)) (cond (Nat.blt pc 24) (cond (Nat.beq pc 23) (o_iald 24) o_bad) (cond (Nat.blt pc 25) (cond (Nat.beq pc 24) (o_const (2) 25) o_bad) (cond (Nat.beq pc 25) (o_icmp (fun x y => x = y) 30 28) o_bad)))) (cond (Nat.blt pc 33) (cond (Nat.blt pc 29) (cond (Nat.beq pc 28) (o_const (0) 29) o_bad) (cond (Nat.blt pc 30) (cond (Nat.beq pc 29) (o_zret) o_bad) (cond (Nat.beq pc 30) (o_iinc 2 (1) 33) o_bad))) (cond (Nat.blt pc 36) (cond (Nat.beq pc 33) (o_goto 2) o_bad) (cond (Nat.blt pc 37) (cond (Nat.beq pc 36) (o_const (1) 37) o_bad) (cond (Nat.beq pc 37) (o_zret) o_bad)))))
set_option maxRecDepth 20000 in
theorem ok_X11_isLawyers : HOKs cX11_isLawyers RX11 3 (some .boolean) 2 ins_X11_isLawyers := fun _ => hnd (hnd (hnd (hnd (hlf (ok_iconst dX11_isLawyers_0 (by decide) rfl)) (hlf (ok_istore_n dX11_isLawyers_1 rfl (by decide) rfl))) (hnd (hlf (ok_iload_n dX11_isLawyers_2 rfl rfl)) (hnd (hlf (ok_aload_n dX11_isLawyers_3 rfl rfl)) (hlf (ok_getf (C := RX11) (T := TX11) dX11_isLawyers_4 rfl rfl (by decide) rfl inX11 wd_884 rfl))))) (hnd (hnd (hlf (ok_icmp_ge dX11_isLawyers_7 (by decide) rfl)) (hnd (hlf (ok_iload_n dX11_isLawyers_10 rfl rfl)) (hlf (ok_iload_n dX11_isLawyers_11 rfl rfl)))) (hnd (hlf (ok_callS (y := yX11_has) dX11_isLawyers_12 ct_X11_has (by decide) (by decide) wd_1046 wd_1044 wd_1045 wd_50 (by decide +kernel) rfl)) (hnd (hlf (ok_if_eq dX11_isLawyers_15 (by decide) rfl)) (hlf (ok_aload_n dX11_isLawyers_18 rfl rfl)))))) (hnd (hnd (hnd (hlf (ok_getf (C := RX11) (T := TX11) dX11_isLawyers_19 rfl rfl (by decide) rfl inX11 wd_885 rfl)) (hlf (ok_iload_n dX11_isLawyers_22 rfl rfl))) (hnd (hlf (ok_iald dX11_isLawyers_23 rfl)) (hnd (hlf (ok_iconst dX11_isLawyers_24 (by decide) rfl)) (hlf (ok_icmp_eq dX11_isLawyers_25 (by decide) rfl))))) (hnd (hnd (hlf (ok_iconst dX11_isLawyers_28 (by decide) rfl)) (hnd (hlf (ok_zret dX11_isLawyers_29)) (hlf (ok_iinc dX11_isLawyers_30 (by decide) (by decide) rfl)))) (hnd (hlf (ok_goto dX11_isLawyers_33 (by decide))) (hnd (hlf (ok_iconst dX11_isLawyers_36 (by decide) rfl)) (hlf (ok_zret dX11_isLawyers_37))))))

theorem vc_X11_isLawyers : MVC ins_X11_isLawyers 3 2 sp_X11_isLawyers := by
  refine mvc1 2 60 fun as w σ q hl hs => ?_
  unfold sp_X11_isLawyers at hs
  split at hs
  rotate_left
  · exact hs.elim
  rename_i s
  obtain ⟨n, ⟨hn, hsz⟩, hs⟩ := hs
  refine ⟨fun N ls st w' σ' => ∃ (i : Nat) (u : Int32), i ≤ n ∧ N = n - i ∧ u = nI i ∧ (∀ v, v < i → bt1 s v → σ 20 5 v = 2) ∧ ls = [some (HR 11 0), some (HI s), some (HI u)] ∧ st = [] ∧ w = w' ∧ σ = σ', ?_, ?_⟩
  · rintro N ls st w' σ' ⟨i, u, hi, rfl, rfl, hno, rfl, rfl, rfl, rfl⟩
    apply br2
    · intro h1
      obtain rfl := lp_end hsz hi h1
      exact ⟨Or.inr rfl, hs.1 hno⟩
    intro h1
    have hlt := lp_go hsz hi h1
    have e : (nI i).toNatClampNeg = i := nI_clamp (by omega)
    have go : (bt1 s i → σ 20 5 i = 2) → ∃ N', N' < n - i ∧ ∃ (i' : Nat) (u : Int32), i' ≤ n ∧ N' = n - i' ∧ u = nI i' ∧ (∀ v, v < i' → bt1 s v → σ 20 5 v = 2) ∧ [some (HR 11 0), some (HI s), some (HI (nI i + 1))] = [some (HR 11 0), some (HI s), some (HI u)] ∧ ([] : List HV) = [] ∧ w = w ∧ σ = σ := fun h =>
      ⟨n - (i + 1), by omega, i + 1, _, hlt, rfl, nI_1 i, fun j hj => (Nat.lt_succ_iff_lt_or_eq.mp hj).elim (hno j) (fun e => e ▸ h), rfl, rfl, rfl, rfl⟩
    apply br2
    rotate_left
    · intro h2
      exact And.intro (fun _ => go fun h => absurd h h2) (fun h => absurd rfl h)
    intro h2
    refine And.intro (fun h => absurd h (by decide)) (fun _ => And.intro (vp_in_nI (N := 14) (by omega) (by decide)) ?_)
    apply br2
    · intro h3
      have h3 : σ 20 5 (nI i).toNatClampNeg = 2 := h3
      rw [e] at h3
      exact go fun _ => h3
    · intro h3
      have h3 : ¬ σ 20 5 (nI i).toNatClampNeg = 2 := h3
      rw [e] at h3
      exact ⟨Or.inl rfl, hs.2 fun q => h3 (q i hlt h2)⟩
  · exact ⟨n, 0, 0, Nat.zero_le _, rfl, rfl, fun j hj => absurd hj (by omega), rfl, rfl, rfl, rfl⟩
theorem ct_X11_isLawyers : Ctr yX11_isLawyers cX11_isLawyers 3 (some .boolean) 2 0 0 2 sp_X11_isLawyers := ctr_of (by decide +kernel) rfl (by decide) ok_X11_isLawyers vc_X11_isLawyers

def tbM (σ : HS) (day : Int32) : Int32 := if day < σ 20 22 0 then (if ¬ σ 20 23 day.toNatClampNeg < 0 ∧ ¬ 6 < σ 20 23 day.toNatClampNeg then σ 20 23 day.toNatClampNeg else 0) else σ 11 0 28
def sp_X11_tablesOn : HSp := fun as w σ K => match as with
  | [.inr (.inl (11, some 0)), .inl day] => 0 ≤ day ∧ σ 20 22 0 ≤ 60 ∧ K (some (HI (tbM σ day))) w σ
  | _ => False
theorem dX11_tablesOn_0 : decode cX11_tablesOn 0 = .ok (.iload_n 1, 1) := by decide +kernel
theorem dX11_tablesOn_1 : decode cX11_tablesOn 1 = .ok (.aload_n 0, 1) := by decide +kernel
theorem dX11_tablesOn_2 : decode cX11_tablesOn 2 = .ok (.getfield 87, 3) := by decide +kernel
theorem dX11_tablesOn_5 : decode cX11_tablesOn 5 = .ok (.iconst 0, 1) := by decide +kernel
theorem dX11_tablesOn_6 : decode cX11_tablesOn 6 = .ok (.iaload, 1) := by decide +kernel
theorem dX11_tablesOn_7 : decode cX11_tablesOn 7 = .ok (.if_icmp .lt 8, 3) := by decide +kernel
theorem dX11_tablesOn_10 : decode cX11_tablesOn 10 = .ok (.aload_n 0, 1) := by decide +kernel
theorem dX11_tablesOn_11 : decode cX11_tablesOn 11 = .ok (.getfield 80, 3) := by decide +kernel
theorem dX11_tablesOn_14 : decode cX11_tablesOn 14 = .ok (.ireturn, 1) := by decide +kernel
theorem dX11_tablesOn_15 : decode cX11_tablesOn 15 = .ok (.aload_n 0, 1) := by decide +kernel
theorem dX11_tablesOn_16 : decode cX11_tablesOn 16 = .ok (.getfield 90, 3) := by decide +kernel
theorem dX11_tablesOn_19 : decode cX11_tablesOn 19 = .ok (.iload_n 1, 1) := by decide +kernel
theorem dX11_tablesOn_20 : decode cX11_tablesOn 20 = .ok (.iaload, 1) := by decide +kernel
theorem dX11_tablesOn_21 : decode cX11_tablesOn 21 = .ok (.iconst 0, 1) := by decide +kernel
theorem dX11_tablesOn_22 : decode cX11_tablesOn 22 = .ok (.bipush 6, 2) := by decide +kernel
theorem dX11_tablesOn_24 : decode cX11_tablesOn 24 = .ok (.invokestatic 102, 3) := by decide +kernel
theorem dX11_tablesOn_27 : decode cX11_tablesOn 27 = .ok (.ifCond .eq 12, 3) := by decide +kernel
theorem dX11_tablesOn_30 : decode cX11_tablesOn 30 = .ok (.aload_n 0, 1) := by decide +kernel
theorem dX11_tablesOn_31 : decode cX11_tablesOn 31 = .ok (.getfield 90, 3) := by decide +kernel
theorem dX11_tablesOn_34 : decode cX11_tablesOn 34 = .ok (.iload_n 1, 1) := by decide +kernel
theorem dX11_tablesOn_35 : decode cX11_tablesOn 35 = .ok (.iaload, 1) := by decide +kernel
theorem dX11_tablesOn_36 : decode cX11_tablesOn 36 = .ok (.goto 4, 3) := by decide +kernel
theorem dX11_tablesOn_39 : decode cX11_tablesOn 39 = .ok (.iconst 0, 1) := by decide +kernel
theorem dX11_tablesOn_40 : decode cX11_tablesOn 40 = .ok (.ireturn, 1) := by decide +kernel
def ins_X11_tablesOn (pc : Nat) : HOp := cond (Nat.blt pc 20) (cond (Nat.blt pc 10) (cond (Nat.blt pc 5) (cond (Nat.blt pc 1) (cond (Nat.beq pc 0) (o_iload 1 1) o_bad) (cond (Nat.blt pc 2) (cond (Nat.beq pc 1) (o_aload 0 2) o_bad) (cond (Nat.beq pc 2) (o_getf 11 31 5) o_bad))) (cond (Nat.blt pc 6) (cond (Nat.beq pc 5) (o_const (0) 6) o_bad) (cond (Nat.blt pc 7) (cond (Nat.beq pc 6) (o_iald 7) o_bad) (cond (Nat.beq pc 7) (o_icmp (fun x y => x < y) 15 10) o_bad)))) (cond (Nat.blt pc 15) (cond (Nat.blt pc 11) (cond (Nat.beq pc 10) (o_aload 0 11) o_bad) (cond (Nat.blt pc 14) (cond (Nat.beq pc 11) (o_getf 11 28 14) o_bad) (cond (Nat.beq pc 14) (o_iret) o_bad))) (cond (Nat.blt pc 16) (cond (Nat.beq pc 15) (o_aload 0 16) o_bad) (cond (Nat.blt pc 19) (cond (Nat.beq pc 16) (o_getf 11 32 19) o_bad) (cond (Nat.beq pc 19) (o_iload 1 20) o_bad))))) (cond (Nat.blt pc 31) (cond (Nat.blt pc 24) (cond (Nat.blt pc 21) (cond (Nat.beq pc 20) (o_iald 21) o_bad) (cond (Nat.blt pc 22) (cond (Nat.beq pc 21) (o_const (0) 22) o_bad) (cond (Nat.beq pc 22) (o_const (6) 24) o_bad))) (cond (Nat.blt pc 27) (cond (Nat.beq pc 24) (o_callS 3 sp_X11_isIn 27) o_bad) (cond (Nat.blt pc 30) (cond (Nat.beq pc 27) (o_if (fun x => x = 0) 39 30) o_bad) (cond (Nat.beq pc 30) (o_aload 0 31) o_bad)))) (cond (Nat.blt pc 36) (cond (Nat.blt pc 34) (cond (Nat.beq pc 31) (o_getf 11 32 34) o_bad) (cond (Nat.blt pc 35) (cond (Nat.beq pc 34) (o_iload 1 35) o_bad) (cond (Nat.beq pc 35) (o_iald 36) o_bad))) (cond (Nat.blt pc 39) (cond (Nat.beq pc 36) (o_goto 40) o_bad) (cond (Nat.blt pc 40) (cond (Nat.beq pc 39) (o_const (0) 40) o_bad) (cond (Nat.beq pc 40) (o_iret) o_bad)))))
set_option maxRecDepth 20000 in
theorem ok_X11_tablesOn : HOKs cX11_tablesOn RX11 2 (some .int) 2 ins_X11_tablesOn := fun _ => hnd (hnd (hnd (hnd (hlf (ok_iload_n dX11_tablesOn_0 rfl rfl)) (hnd (hlf (ok_aload_n dX11_tablesOn_1 rfl rfl)) (hlf (ok_getf (C := RX11) (T := TX11) dX11_tablesOn_2 rfl rfl (by decide) rfl inX11 wd_908 rfl)))) (hnd (hlf (ok_iconst dX11_tablesOn_5 (by decide) rfl)) (hnd (hlf (ok_iald dX11_tablesOn_6 rfl)) (hlf (ok_icmp_lt dX11_tablesOn_7 (by decide) rfl))))) (hnd (hnd (hlf (ok_aload_n dX11_tablesOn_10 rfl rfl)) (hnd (hlf (ok_getf (C := RX11) (T := TX11) dX11_tablesOn_11 rfl rfl (by decide) rfl inX11 wd_905 rfl)) (hlf (ok_iret dX11_tablesOn_14)))) (hnd (hlf (ok_aload_n dX11_tablesOn_15 rfl rfl)) (hnd (hlf (ok_getf (C := RX11) (T := TX11) dX11_tablesOn_16 rfl rfl (by decide) rfl inX11 wd_909 rfl)) (hlf (ok_iload_n dX11_tablesOn_19 rfl rfl)))))) (hnd (hnd (hnd (hlf (ok_iald dX11_tablesOn_20 rfl)) (hnd (hlf (ok_iconst dX11_tablesOn_21 (by decide) rfl)) (hlf (ok_bipush dX11_tablesOn_22 (by decide) rfl)))) (hnd (hlf (ok_callS (y := yX11_isIn) dX11_tablesOn_24 ct_X11_isIn (by decide) (by decide) wd_1017 wd_1015 wd_1016 wd_50 (by decide +kernel) rfl)) (hnd (hlf (ok_if_eq dX11_tablesOn_27 (by decide) rfl)) (hlf (ok_aload_n dX11_tablesOn_30 rfl rfl))))) (hnd (hnd (hlf (ok_getf (C := RX11) (T := TX11) dX11_tablesOn_31 rfl rfl (by decide) rfl inX11 wd_909 rfl)) (hnd (hlf (ok_iload_n dX11_tablesOn_34 rfl rfl)) (hlf (ok_iald dX11_tablesOn_35 rfl)))) (hnd (hlf (ok_goto dX11_tablesOn_36 (by decide))) (hnd (hlf (ok_iconst dX11_tablesOn_39 (by decide) rfl)) (hlf (ok_iret dX11_tablesOn_40))))))

theorem vc_X11_tablesOn : MVC ins_X11_tablesOn 2 2 sp_X11_tablesOn := by
  refine mvc0 60 fun as w σ q hl hs => ?_
  unfold sp_X11_tablesOn at hs
  split at hs
  rotate_left
  · exact hs.elim
  rename_i day
  obtain ⟨h0, hz, hs⟩ := hs
  unfold tbM at hs
  refine And.intro (vp_in_nI (n := 0) (N := 2) (by decide) (by decide)) ?_
  apply br2
  · intro h
    have h : day < σ 20 22 0 := h
    rw [if_pos h] at hs
    have hin : vp_in day 120 := by
      obtain ⟨i, hi, rfl⟩ := in_of (x := day) (n := 60) ⟨h0, Int32.lt_of_lt_of_le h hz⟩
      exact vp_in_nI (by omega) (by decide)
    refine And.intro hin ?_
    apply br2
    · intro h2
      have h2 : ¬ σ 20 23 day.toNatClampNeg < 0 ∧ ¬ 6 < σ 20 23 day.toNatClampNeg := h2
      rw [if_pos h2] at hs
      exact And.intro (fun h => absurd h (by decide)) (fun _ => And.intro hin hs)
    · intro h2
      have h2 : ¬ (¬ σ 20 23 day.toNatClampNeg < 0 ∧ ¬ 6 < σ 20 23 day.toNatClampNeg) := h2
      rw [if_neg h2] at hs
      exact And.intro (fun _ => hs) (fun h => absurd rfl h)
  · intro h
    have h : ¬ day < σ 20 22 0 := h
    rw [if_neg h] at hs
    exact hs
theorem ct_X11_tablesOn : Ctr yX11_tablesOn cX11_tablesOn 2 (some .int) 2 0 0 2 sp_X11_tablesOn := ctr_of (by decide +kernel) rfl (by decide) ok_X11_tablesOn vc_X11_tablesOn

/-- the reference's visits, by the class's numbers of fields -/
def mV (σ : HS) (i f : Nat) : Int32 := match f with
  | 0 => σ 20 16 i | 1 => σ 20 17 i | 2 => σ 20 18 i | 3 => σ 20 19 i | 4 => σ 20 20 i | _ => σ 20 21 i
abbrev atM (σ : HS) (i : Nat) (day h : Int32) : Prop := σ 20 21 i = 0 ∧ σ 20 18 i = day ∧ ¬ h < σ 20 19 i ∧ ¬ σ 20 19 i + σ 20 20 i ≤ h
def sp_X11_isAt : HSp := fun as w σ K => match as with
  | [.inr (.inl (11, some 0)), .inl x, .inl day, .inl half] => ∃ k, k < 100 ∧ x = nI k ∧ spZ (atM σ k day half) w σ K
  | _ => False
theorem dX11_isAt_0 : decode cX11_isAt 0 = .ok (.aload_n 0, 1) := by decide +kernel
theorem dX11_isAt_1 : decode cX11_isAt 1 = .ok (.getfield 77, 3) := by decide +kernel
theorem dX11_isAt_4 : decode cX11_isAt 4 = .ok (.iload_n 1, 1) := by decide +kernel
theorem dX11_isAt_5 : decode cX11_isAt 5 = .ok (.iaload, 1) := by decide +kernel
theorem dX11_isAt_6 : decode cX11_isAt 6 = .ok (.ifCond .ne 44, 3) := by decide +kernel
theorem dX11_isAt_9 : decode cX11_isAt 9 = .ok (.aload_n 0, 1) := by decide +kernel
theorem dX11_isAt_10 : decode cX11_isAt 10 = .ok (.getfield 68, 3) := by decide +kernel
theorem dX11_isAt_13 : decode cX11_isAt 13 = .ok (.iload_n 1, 1) := by decide +kernel
theorem dX11_isAt_14 : decode cX11_isAt 14 = .ok (.iaload, 1) := by decide +kernel
theorem dX11_isAt_15 : decode cX11_isAt 15 = .ok (.iload_n 2, 1) := by decide +kernel
theorem dX11_isAt_16 : decode cX11_isAt 16 = .ok (.if_icmp .ne 34, 3) := by decide +kernel
theorem dX11_isAt_19 : decode cX11_isAt 19 = .ok (.iload_n 3, 1) := by decide +kernel
theorem dX11_isAt_20 : decode cX11_isAt 20 = .ok (.aload_n 0, 1) := by decide +kernel
theorem dX11_isAt_21 : decode cX11_isAt 21 = .ok (.getfield 71, 3) := by decide +kernel
theorem dX11_isAt_24 : decode cX11_isAt 24 = .ok (.iload_n 1, 1) := by decide +kernel
theorem dX11_isAt_25 : decode cX11_isAt 25 = .ok (.iaload, 1) := by decide +kernel
theorem dX11_isAt_26 : decode cX11_isAt 26 = .ok (.if_icmp .lt 24, 3) := by decide +kernel
theorem dX11_isAt_29 : decode cX11_isAt 29 = .ok (.iload_n 3, 1) := by decide +kernel
theorem dX11_isAt_30 : decode cX11_isAt 30 = .ok (.aload_n 0, 1) := by decide +kernel
theorem dX11_isAt_31 : decode cX11_isAt 31 = .ok (.getfield 71, 3) := by decide +kernel
theorem dX11_isAt_34 : decode cX11_isAt 34 = .ok (.iload_n 1, 1) := by decide +kernel
theorem dX11_isAt_35 : decode cX11_isAt 35 = .ok (.iaload, 1) := by decide +kernel
theorem dX11_isAt_36 : decode cX11_isAt 36 = .ok (.aload_n 0, 1) := by decide +kernel
theorem dX11_isAt_37 : decode cX11_isAt 37 = .ok (.getfield 74, 3) := by decide +kernel
theorem dX11_isAt_40 : decode cX11_isAt 40 = .ok (.iload_n 1, 1) := by decide +kernel
theorem dX11_isAt_41 : decode cX11_isAt 41 = .ok (.iaload, 1) := by decide +kernel
theorem dX11_isAt_42 : decode cX11_isAt 42 = .ok (.iadd, 1) := by decide +kernel
theorem dX11_isAt_43 : decode cX11_isAt 43 = .ok (.if_icmp .ge 7, 3) := by decide +kernel
theorem dX11_isAt_46 : decode cX11_isAt 46 = .ok (.iconst 1, 1) := by decide +kernel
theorem dX11_isAt_47 : decode cX11_isAt 47 = .ok (.goto 4, 3) := by decide +kernel
theorem dX11_isAt_50 : decode cX11_isAt 50 = .ok (.iconst 0, 1) := by decide +kernel
theorem dX11_isAt_51 : decode cX11_isAt 51 = .ok (.ireturn, 1) := by decide +kernel
def ins_X11_isAt (pc : Nat) : HOp := cond (Nat.blt pc 26) (cond (Nat.blt pc 14) (cond (Nat.blt pc 6) (cond (Nat.blt pc 4) (cond (Nat.blt pc 1) (cond (Nat.beq pc 0) (o_aload 0 1) o_bad) (cond (Nat.beq pc 1) (o_getf 11 27 4) o_bad)) (cond (Nat.blt pc 5) (cond (Nat.beq pc 4) (o_iload 1 5) o_bad) (cond (Nat.beq pc 5) (o_iald 6) o_bad))) (cond (Nat.blt pc 10) (cond (Nat.blt pc 9) (cond (Nat.beq pc 6) (o_if (fun x => x = 0) 9 50) o_bad) (cond (Nat.beq pc 9) (o_aload 0 10) o_bad)) (cond (Nat.blt pc 13) (cond (Nat.beq pc 10) (o_getf 11 24 13) o_bad) (cond (Nat.beq pc 13) (o_iload 1 14) o_bad)))) (cond (Nat.blt pc 20) (cond (Nat.blt pc 16) (cond (Nat.blt pc 15) (cond (Nat.beq pc 14) (o_iald 15) o_bad) (cond (Nat.beq pc 15) (o_iload 2 16) o_bad)) (cond (Nat.blt pc 19) (cond (Nat.beq pc 16) (o_icmp (fun x y => x = y) 19 50) o_bad) (cond (Nat.beq pc 19) (o_iload 3 20) o_bad))) (cond (Nat.blt pc 24) (cond (Nat.blt pc 21) (cond (Nat.beq pc 20) (o_aload 0 21) o_bad) (cond (Nat.beq pc 21) (o_getf 11 25 24) o_bad)) (cond (Nat.blt pc 25) (cond (Nat.beq pc 24) (o_iload 1 25) o_bad) (cond (Nat.beq pc 25) (o_iald 26) o_bad))))) (cond (Nat.blt pc 40) (cond (Nat.blt pc 34) (cond (Nat.blt pc 30) (cond (Nat.blt pc 29) (cond (Nat.beq pc 26) (o_icmp (fun x y => x < y) 50 29) o_bad) (cond (Nat.beq pc 29) (o_iload 3 30) o_bad)) (cond (Nat.blt pc 31) (cond (Nat.beq pc 30) (o_aload 0 31) o_bad) (cond (Nat.beq pc 31) (o_getf 11 25 34) o_bad))) (cond (Nat.blt pc 36) (cond (Nat.blt pc 35) (cond (Nat.beq pc 34) (o_iload 1 35) o_bad) (cond (Nat.beq pc 35) (o_iald 36) o_bad)) (cond (Nat.blt pc 37) (cond (Nat.beq pc 36) (o_aload 0 37) o_bad) (cond (Nat.beq pc 37) (o_getf 11 26 40) o_bad)))) (cond (Nat.blt pc 46) (cond (Nat.blt pc 42) (cond (Nat.blt pc 41) (cond (Nat.beq pc 40) (o_iload 1 41) o_bad) (cond (Nat.beq pc 41) (o_iald 42) o_bad)) (cond (Nat.blt pc 43) (cond (Nat.beq pc 42) (o_bin (fun x y => x + y) 43) o_bad) (cond (Nat.beq pc 43) (o_icmp (fun x y => y ≤ x) 50 46) o_bad))) (cond (Nat.blt pc 50) (cond (Nat.blt pc 47) (cond (Nat.beq pc 46) (o_const (1) 47) o_bad) (cond (Nat.beq pc 47) (o_goto 51) o_bad)) (cond (Nat.blt pc 51) (cond (Nat.beq pc 50) (o_const (0) 51) o_bad) (cond (Nat.beq pc 51) (o_zret) o_bad)))))
set_option maxRecDepth 20000 in
theorem ok_X11_isAt : HOKs cX11_isAt RX11 4 (some .boolean) 1 ins_X11_isAt := fun _ => hnd (hnd (hnd (hnd (hnd (hlf (ok_aload_n dX11_isAt_0 rfl rfl)) (hlf (ok_getf (C := RX11) (T := TX11) dX11_isAt_1 rfl rfl (by decide) rfl inX11 wd_904 rfl))) (hnd (hlf (ok_iload_n dX11_isAt_4 rfl rfl)) (hlf (ok_iald dX11_isAt_5 rfl)))) (hnd (hnd (hlf (ok_if_ne dX11_isAt_6 (by decide) rfl)) (hlf (ok_aload_n dX11_isAt_9 rfl rfl))) (hnd (hlf (ok_getf (C := RX11) (T := TX11) dX11_isAt_10 rfl rfl (by decide) rfl inX11 wd_901 rfl)) (hlf (ok_iload_n dX11_isAt_13 rfl rfl))))) (hnd (hnd (hnd (hlf (ok_iald dX11_isAt_14 rfl)) (hlf (ok_iload_n dX11_isAt_15 rfl rfl))) (hnd (hlf (ok_icmp_ne dX11_isAt_16 (by decide) rfl)) (hlf (ok_iload_n dX11_isAt_19 rfl rfl)))) (hnd (hnd (hlf (ok_aload_n dX11_isAt_20 rfl rfl)) (hlf (ok_getf (C := RX11) (T := TX11) dX11_isAt_21 rfl rfl (by decide) rfl inX11 wd_902 rfl))) (hnd (hlf (ok_iload_n dX11_isAt_24 rfl rfl)) (hlf (ok_iald dX11_isAt_25 rfl)))))) (hnd (hnd (hnd (hnd (hlf (ok_icmp_lt dX11_isAt_26 (by decide) rfl)) (hlf (ok_iload_n dX11_isAt_29 rfl rfl))) (hnd (hlf (ok_aload_n dX11_isAt_30 rfl rfl)) (hlf (ok_getf (C := RX11) (T := TX11) dX11_isAt_31 rfl rfl (by decide) rfl inX11 wd_902 rfl)))) (hnd (hnd (hlf (ok_iload_n dX11_isAt_34 rfl rfl)) (hlf (ok_iald dX11_isAt_35 rfl))) (hnd (hlf (ok_aload_n dX11_isAt_36 rfl rfl)) (hlf (ok_getf (C := RX11) (T := TX11) dX11_isAt_37 rfl rfl (by decide) rfl inX11 wd_903 rfl))))) (hnd (hnd (hnd (hlf (ok_iload_n dX11_isAt_40 rfl rfl)) (hlf (ok_iald dX11_isAt_41 rfl))) (hnd (hlf (ok_iadd dX11_isAt_42 rfl)) (hlf (ok_icmp_ge dX11_isAt_43 (by decide) rfl)))) (hnd (hnd (hlf (ok_iconst dX11_isAt_46 (by decide) rfl)) (hlf (ok_goto dX11_isAt_47 (by decide)))) (hnd (hlf (ok_iconst dX11_isAt_50 (by decide) rfl)) (hlf (ok_zret dX11_isAt_51))))))

theorem vc_X11_isAt : MVC ins_X11_isAt 4 4 sp_X11_isAt := by
  refine mvc0 80 fun as w σ q hl hs => ?_
  unfold sp_X11_isAt at hs
  split at hs
  rotate_left
  · exact hs.elim
  rename_i x day half
  clear hl
  obtain ⟨k, hk, rfl, hs⟩ := hs
  have e : (nI k).toNatClampNeg = k := nI_clamp (by omega)
  have hin : vp_in (nI k) 100 := vp_in_nI hk (by decide)
  rw [← e] at hs
  repeat' (first | refine And.intro hin ?_ | apply br2 | intro _)
  all_goals first | exact ⟨Or.inl rfl, hs.2 (by grind)⟩ | exact ⟨Or.inr rfl, hs.1 (by grind)⟩
theorem ct_X11_isAt : Ctr yX11_isAt cX11_isAt 4 (some .boolean) 1 0 0 4 sp_X11_isAt := ctr_of (by decide +kernel) rfl (by decide) ok_X11_isAt vc_X11_isAt

def sp_X11_letAt : HSp := fun as w σ K => match as with
  | [.inr (.inl (11, some 0)), .inl day, .inl half] => ∃ n, Nn σ n ∧ K (some (HI (nI (cnt (fun i => decide (atM σ i day half)) n)))) w σ
  | _ => False
theorem dX11_letAt_0 : decode cX11_letAt 0 = .ok (.iconst 0, 1) := by decide +kernel
theorem dX11_letAt_1 : decode cX11_letAt 1 = .ok (.istore_n 3, 1) := by decide +kernel
theorem dX11_letAt_2 : decode cX11_letAt 2 = .ok (.iconst 0, 1) := by decide +kernel
theorem dX11_letAt_3 : decode cX11_letAt 3 = .ok (.istore 4, 2) := by decide +kernel
theorem dX11_letAt_5 : decode cX11_letAt 5 = .ok (.iload 4, 2) := by decide +kernel
theorem dX11_letAt_7 : decode cX11_letAt 7 = .ok (.aload_n 0, 1) := by decide +kernel
theorem dX11_letAt_8 : decode cX11_letAt 8 = .ok (.getfield 118, 3) := by decide +kernel
theorem dX11_letAt_11 : decode cX11_letAt 11 = .ok (.if_icmp .ge 28, 3) := by decide +kernel
theorem dX11_letAt_14 : decode cX11_letAt 14 = .ok (.iload_n 3, 1) := by decide +kernel
theorem dX11_letAt_15 : decode cX11_letAt 15 = .ok (.aload_n 0, 1) := by decide +kernel
theorem dX11_letAt_16 : decode cX11_letAt 16 = .ok (.iload 4, 2) := by decide +kernel
theorem dX11_letAt_18 : decode cX11_letAt 18 = .ok (.iload_n 1, 1) := by decide +kernel
theorem dX11_letAt_19 : decode cX11_letAt 19 = .ok (.iload_n 2, 1) := by decide +kernel
theorem dX11_letAt_20 : decode cX11_letAt 20 = .ok (.invokevirtual 184, 3) := by decide +kernel
theorem dX11_letAt_23 : decode cX11_letAt 23 = .ok (.ifCond .eq 7, 3) := by decide +kernel
theorem dX11_letAt_26 : decode cX11_letAt 26 = .ok (.iconst 1, 1) := by decide +kernel
theorem dX11_letAt_27 : decode cX11_letAt 27 = .ok (.goto 4, 3) := by decide +kernel
theorem dX11_letAt_30 : decode cX11_letAt 30 = .ok (.iconst 0, 1) := by decide +kernel
theorem dX11_letAt_31 : decode cX11_letAt 31 = .ok (.iadd, 1) := by decide +kernel
theorem dX11_letAt_32 : decode cX11_letAt 32 = .ok (.istore_n 3, 1) := by decide +kernel
theorem dX11_letAt_33 : decode cX11_letAt 33 = .ok (.iinc 4 1, 3) := by decide +kernel
theorem dX11_letAt_36 : decode cX11_letAt 36 = .ok (.goto (-31), 3) := by decide +kernel
theorem dX11_letAt_39 : decode cX11_letAt 39 = .ok (.iload_n 3, 1) := by decide +kernel
theorem dX11_letAt_40 : decode cX11_letAt 40 = .ok (.ireturn, 1) := by decide +kernel
def ins_X11_letAt (pc : Nat) : HOp := cond (Nat.blt pc 19) (cond (Nat.blt pc 8) (cond (Nat.blt pc 3) (cond (Nat.blt pc 1) (cond (Nat.beq pc 0) (o_const (0) 1) o_bad) (cond (Nat.blt pc 2) (cond (Nat.beq pc 1) (o_istore 3 2) o_bad) (cond (Nat.beq pc 2) (o_const (0) 3) o_bad))) (cond (Nat.blt pc 5) (cond (Nat.beq pc 3) (o_istore 4 5) o_bad) (cond (Nat.blt pc 7) (cond (Nat.beq pc 5) (o_iload 4 7) o_bad) (cond (Nat.beq pc 7) (o_aload 0 8) o_bad)))) (cond (Nat.blt pc 15) (cond (Nat.blt pc 11) (cond (Nat.beq pc 8) (o_getf 11 21 11) o_bad) (cond (Nat.blt pc 14) (cond (Nat.beq pc 11) (o_icmp (fun x y => y ≤ x) 39 14) o_bad) (cond (Nat.beq pc 14) (o_iload 3 15) o_bad))) (cond (Nat.blt pc 16) (cond (Nat.beq pc 15) (o_aload 0 16) o_bad) (cond (Nat.blt pc 18) (cond (Nat.beq pc 16) (o_iload 4 18) o_bad) (cond (Nat.beq pc 18) (o_iload 1 19) o_bad))))) (cond (Nat.blt pc 31) (cond (Nat.blt pc 26) (cond (Nat.blt pc 20) (cond (Nat.beq pc 19) (o_iload 2 20) o_bad) (cond (Nat.blt pc 23) (cond (Nat.beq pc 20) (o_callV 4 11 sp_X11_isAt 23) o_bad) (cond (Nat.beq pc 23) (o_if (fun x => x = 0) 30 26) o_bad))) (cond (Nat.blt pc 27) (cond (Nat.beq pc 26) (o_const (1) 27) o_bad) (cond (Nat.blt pc 30) (cond (Nat.beq pc 27) (o_goto 31) o_bad) (cond (Nat.beq pc 30) (o_const (0) 31) o_bad)))) (cond (Nat.blt pc 36) (cond (Nat.blt pc 32) (cond (Nat.beq pc 31) (o_bin (fun x y => x + y) 32) o_bad) (cond (Nat.blt pc 33) (cond (Nat.beq pc 32) (o_istore 3 33) o_bad) (cond (Nat.beq pc 33) (o_iinc 4 (1) 36) o_bad))) (cond (Nat.blt pc 39) (cond (Nat.beq pc 36) (o_goto 5) o_bad) (cond (Nat.blt pc 40) (cond (Nat.beq pc 39) (o_iload 3 40) o_bad) (cond (Nat.beq pc 40) (o_iret) o_bad)))))
set_option maxRecDepth 20000 in
theorem ok_X11_letAt : HOKs cX11_letAt RX11 5 (some .int) 2 ins_X11_letAt := fun _ => hnd (hnd (hnd (hnd (hlf (ok_iconst dX11_letAt_0 (by decide) rfl)) (hnd (hlf (ok_istore_n dX11_letAt_1 rfl (by decide) rfl)) (hlf (ok_iconst dX11_letAt_2 (by decide) rfl)))) (hnd (hlf (ok_istore dX11_letAt_3 (by decide) rfl)) (hnd (hlf (ok_iload dX11_letAt_5 rfl)) (hlf (ok_aload_n dX11_letAt_7 rfl rfl))))) (hnd (hnd (hlf (ok_getf (C := RX11) (T := TX11) dX11_letAt_8 rfl rfl (by decide) rfl inX11 wd_898 rfl)) (hnd (hlf (ok_icmp_ge dX11_letAt_11 (by decide) rfl)) (hlf (ok_iload_n dX11_letAt_14 rfl rfl)))) (hnd (hlf (ok_aload_n dX11_letAt_15 rfl rfl)) (hnd (hlf (ok_iload dX11_letAt_16 rfl)) (hlf (ok_iload_n dX11_letAt_18 rfl rfl)))))) (hnd (hnd (hnd (hlf (ok_iload_n dX11_letAt_19 rfl rfl)) (hnd (hlf (ok_callV (y := yX11_isAt) (n' := 3) (C := RX11) (T := TX11) dX11_letAt_20 ct_X11_isAt (by decide) (by decide) wd_1096 wd_1093 wd_1095 wd_29 wd_50 rfl (by decide +kernel) rfl rfl rfl)) (hlf (ok_if_eq dX11_letAt_23 (by decide) rfl)))) (hnd (hlf (ok_iconst dX11_letAt_26 (by decide) rfl)) (hnd (hlf (ok_goto dX11_letAt_27 (by decide))) (hlf (ok_iconst dX11_letAt_30 (by decide) rfl))))) (hnd (hnd (hlf (ok_iadd dX11_letAt_31 rfl)) (hnd (hlf (ok_istore_n dX11_letAt_32 rfl (by decide) rfl)) (hlf (ok_iinc dX11_letAt_33 (by decide) (by decide) rfl)))) (hnd (hlf (ok_goto dX11_letAt_36 (by decide))) (hnd (hlf (ok_iload_n dX11_letAt_39 rfl rfl)) (hlf (ok_iret dX11_letAt_40))))))

theorem vc_X11_letAt : MVC ins_X11_letAt 5 3 sp_X11_letAt := by
  refine mvc1 5 60 fun as w σ q hl hs => ?_
  unfold sp_X11_letAt at hs
  split at hs
  rotate_left
  · exact hs.elim
  rename_i day half
  obtain ⟨n, ⟨hn, hsz⟩, hq⟩ := hs
  refine ⟨fun N ls st w' σ' => ∃ (i : Nat) (u v : Int32), i ≤ n ∧ N = n - i ∧ u = nI (cnt (fun i => decide (atM σ i day half)) i) ∧ v = nI i ∧ ls = [some (HR 11 0), some (HI day), some (HI half), some (HI u), some (HI v)] ∧ st = [] ∧ w = w' ∧ σ = σ', ?_, ?_⟩
  · rintro N ls st w' σ' ⟨i, u, v, hi, rfl, rfl, rfl, rfl, rfl, rfl, rfl⟩
    apply br2
    · intro h1
      obtain rfl := lp_end hsz hi h1
      exact hq
    intro h1
    have hlt := lp_go hsz hi h1
    refine ⟨i, by omega, rfl, ?_⟩
    apply br2
    · intro h2
      refine And.intro (fun h => absurd h (by decide)) (fun _ => ?_)
      exact ⟨n - (i + 1), by omega, i + 1, _, _, hlt, rfl, by rw [cnt_y (decide_eq_true h2)]; exact nI_1 _, nI_1 i, rfl, rfl, rfl, rfl⟩
    · intro h2
      refine And.intro (fun _ => ?_) (fun h => absurd rfl h)
      exact ⟨n - (i + 1), by omega, i + 1, _, _, hlt, rfl, by rw [cnt_n (decide_eq_false h2)]; exact Int32.add_zero _, nI_1 i, rfl, rfl, rfl, rfl⟩
  · exact ⟨n, 0, 0, 0, Nat.zero_le _, rfl, rfl, rfl, rfl, rfl, rfl, rfl⟩
theorem ct_X11_letAt : Ctr yX11_letAt cX11_letAt 5 (some .int) 2 0 0 3 sp_X11_letAt := ctr_of (by decide +kernel) rfl (by decide) ok_X11_letAt vc_X11_letAt

abbrev meM (σ : HS) (k : Nat) (day a b : Int32) : Prop := σ 20 21 k = 0 ∧ σ 20 18 k = day ∧ ¬ a + b ≤ σ 20 19 k ∧ ¬ σ 20 19 k + σ 20 20 k ≤ a
def sp_X11_meets : HSp := fun as w σ K => match as with
  | [.inr (.inl (11, some 0)), .inl x, .inl day, .inl a, .inl b] => ∃ k, k < 100 ∧ x = nI k ∧ spZ (meM σ k day a b) w σ K
  | _ => False
theorem dX11_meets_0 : decode cX11_meets 0 = .ok (.aload_n 0, 1) := by decide +kernel
theorem dX11_meets_1 : decode cX11_meets 1 = .ok (.getfield 77, 3) := by decide +kernel
theorem dX11_meets_4 : decode cX11_meets 4 = .ok (.iload_n 1, 1) := by decide +kernel
theorem dX11_meets_5 : decode cX11_meets 5 = .ok (.iaload, 1) := by decide +kernel
theorem dX11_meets_6 : decode cX11_meets 6 = .ok (.ifCond .ne 47, 3) := by decide +kernel
theorem dX11_meets_9 : decode cX11_meets 9 = .ok (.aload_n 0, 1) := by decide +kernel
theorem dX11_meets_10 : decode cX11_meets 10 = .ok (.getfield 68, 3) := by decide +kernel
theorem dX11_meets_13 : decode cX11_meets 13 = .ok (.iload_n 1, 1) := by decide +kernel
theorem dX11_meets_14 : decode cX11_meets 14 = .ok (.iaload, 1) := by decide +kernel
theorem dX11_meets_15 : decode cX11_meets 15 = .ok (.iload_n 2, 1) := by decide +kernel
theorem dX11_meets_16 : decode cX11_meets 16 = .ok (.if_icmp .ne 37, 3) := by decide +kernel
theorem dX11_meets_19 : decode cX11_meets 19 = .ok (.aload_n 0, 1) := by decide +kernel
theorem dX11_meets_20 : decode cX11_meets 20 = .ok (.getfield 71, 3) := by decide +kernel
theorem dX11_meets_23 : decode cX11_meets 23 = .ok (.iload_n 1, 1) := by decide +kernel
theorem dX11_meets_24 : decode cX11_meets 24 = .ok (.iaload, 1) := by decide +kernel
theorem dX11_meets_25 : decode cX11_meets 25 = .ok (.iload_n 3, 1) := by decide +kernel
theorem dX11_meets_26 : decode cX11_meets 26 = .ok (.iload 4, 2) := by decide +kernel
theorem dX11_meets_28 : decode cX11_meets 28 = .ok (.iadd, 1) := by decide +kernel
theorem dX11_meets_29 : decode cX11_meets 29 = .ok (.if_icmp .ge 24, 3) := by decide +kernel
theorem dX11_meets_32 : decode cX11_meets 32 = .ok (.iload_n 3, 1) := by decide +kernel
theorem dX11_meets_33 : decode cX11_meets 33 = .ok (.aload_n 0, 1) := by decide +kernel
theorem dX11_meets_34 : decode cX11_meets 34 = .ok (.getfield 71, 3) := by decide +kernel
theorem dX11_meets_37 : decode cX11_meets 37 = .ok (.iload_n 1, 1) := by decide +kernel
theorem dX11_meets_38 : decode cX11_meets 38 = .ok (.iaload, 1) := by decide +kernel
theorem dX11_meets_39 : decode cX11_meets 39 = .ok (.aload_n 0, 1) := by decide +kernel
theorem dX11_meets_40 : decode cX11_meets 40 = .ok (.getfield 74, 3) := by decide +kernel
theorem dX11_meets_43 : decode cX11_meets 43 = .ok (.iload_n 1, 1) := by decide +kernel
theorem dX11_meets_44 : decode cX11_meets 44 = .ok (.iaload, 1) := by decide +kernel
theorem dX11_meets_45 : decode cX11_meets 45 = .ok (.iadd, 1) := by decide +kernel
theorem dX11_meets_46 : decode cX11_meets 46 = .ok (.if_icmp .ge 7, 3) := by decide +kernel
theorem dX11_meets_49 : decode cX11_meets 49 = .ok (.iconst 1, 1) := by decide +kernel
theorem dX11_meets_50 : decode cX11_meets 50 = .ok (.goto 4, 3) := by decide +kernel
theorem dX11_meets_53 : decode cX11_meets 53 = .ok (.iconst 0, 1) := by decide +kernel
theorem dX11_meets_54 : decode cX11_meets 54 = .ok (.ireturn, 1) := by decide +kernel
def ins_X11_meets (pc : Nat) : HOp := cond (Nat.blt pc 28) (cond (Nat.blt pc 14) (cond (Nat.blt pc 6) (cond (Nat.blt pc 4) (cond (Nat.blt pc 1) (cond (Nat.beq pc 0) (o_aload 0 1) o_bad) (cond (Nat.beq pc 1) (o_getf 11 27 4) o_bad)) (cond (Nat.blt pc 5) (cond (Nat.beq pc 4) (o_iload 1 5) o_bad) (cond (Nat.beq pc 5) (o_iald 6) o_bad))) (cond (Nat.blt pc 10) (cond (Nat.blt pc 9) (cond (Nat.beq pc 6) (o_if (fun x => x = 0) 9 53) o_bad) (cond (Nat.beq pc 9) (o_aload 0 10) o_bad)) (cond (Nat.blt pc 13) (cond (Nat.beq pc 10) (o_getf 11 24 13) o_bad) (cond (Nat.beq pc 13) (o_iload 1 14) o_bad)))) (cond (Nat.blt pc 20) (cond (Nat.blt pc 16) (cond (Nat.blt pc 15) (cond (Nat.beq pc 14) (o_iald 15) o_bad) (cond (Nat.beq pc 15) (o_iload 2 16) o_bad)) (cond (Nat.blt pc 19) (cond (Nat.beq pc 16) (o_icmp (fun x y => x = y) 19 53) o_bad) (cond (Nat.beq pc 19) (o_aload 0 20) o_bad))) (cond (Nat.blt pc 24) (cond (Nat.blt pc 23) (cond (Nat.beq pc 20) (o_getf 11 25 23) o_bad) (cond (Nat.beq pc 23) (o_iload 1 24) o_bad)) (cond (Nat.blt pc 25) (cond (Nat.beq pc 24) (o_iald 25) o_bad) (cond (Nat.blt pc 26) (cond (Nat.beq pc 25) (o_iload 3 26) o_bad) (cond (Nat.beq pc 26) (o_iload 4 28) o_bad)))))) (cond (Nat.blt pc 40) (cond (Nat.blt pc 34) (cond (Nat.blt pc 32) (cond (Nat.blt pc 29) (cond (Nat.beq pc 28) (o_bin (fun x y => x + y) 29) o_bad) (cond (Nat.beq pc 29) (o_icmp (fun x y => y ≤ x) 53 32) o_bad)) (cond (Nat.blt pc 33) (cond (Nat.beq pc 32) (o_iload 3 33) o_bad) (cond (Nat.beq pc 33) (o_aload 0 34) o_bad))) (cond (Nat.blt pc 38) (cond (Nat.blt pc 37) (cond (Nat.beq pc 34) (o_getf 11 25 37) o_bad) (cond (Nat.beq pc 37) (o_iload 1 38) o_bad)) (cond (Nat.blt pc 39) (cond (Nat.beq pc 38) (o_iald 39) o_bad) (cond (Nat.beq pc 39) (o_aload 0 40) o_bad)))) (cond (Nat.blt pc 46) (cond (Nat.blt pc 44) (cond (Nat.blt pc 43) (cond (Nat.beq pc 40) (o_getf 11 26 43) o_bad) (cond (Nat.beq pc 43) (o_iload 1 44) o_bad)) (cond (Nat.blt pc 45) (cond (Nat.beq pc 44) (o_iald 45) o_bad) (cond (Nat.beq pc 45) (o_bin (fun x y => x + y) 46) o_bad))) (cond (Nat.blt pc 50) (cond (Nat.blt pc 49) (cond (Nat.beq pc 46) (o_icmp (fun x y => y ≤ x) 53 49) o_bad) (cond (Nat.beq pc 49) (o_const (1) 50) o_bad)) (cond (Nat.blt pc 53) (cond (Nat.beq pc 50) (o_goto 54) o_bad) (cond (Nat.blt pc 54) (cond (Nat.beq pc 53) (o_const (0) 54) o_bad) (cond (Nat.beq pc 54) (o_zret) o_bad))))))
set_option maxRecDepth 20000 in
theorem ok_X11_meets : HOKs cX11_meets RX11 5 (some .boolean) 1 ins_X11_meets := fun _ => hnd (hnd (hnd (hnd (hnd (hlf (ok_aload_n dX11_meets_0 rfl rfl)) (hlf (ok_getf (C := RX11) (T := TX11) dX11_meets_1 rfl rfl (by decide) rfl inX11 wd_904 rfl))) (hnd (hlf (ok_iload_n dX11_meets_4 rfl rfl)) (hlf (ok_iald dX11_meets_5 rfl)))) (hnd (hnd (hlf (ok_if_ne dX11_meets_6 (by decide) rfl)) (hlf (ok_aload_n dX11_meets_9 rfl rfl))) (hnd (hlf (ok_getf (C := RX11) (T := TX11) dX11_meets_10 rfl rfl (by decide) rfl inX11 wd_901 rfl)) (hlf (ok_iload_n dX11_meets_13 rfl rfl))))) (hnd (hnd (hnd (hlf (ok_iald dX11_meets_14 rfl)) (hlf (ok_iload_n dX11_meets_15 rfl rfl))) (hnd (hlf (ok_icmp_ne dX11_meets_16 (by decide) rfl)) (hlf (ok_aload_n dX11_meets_19 rfl rfl)))) (hnd (hnd (hlf (ok_getf (C := RX11) (T := TX11) dX11_meets_20 rfl rfl (by decide) rfl inX11 wd_902 rfl)) (hlf (ok_iload_n dX11_meets_23 rfl rfl))) (hnd (hlf (ok_iald dX11_meets_24 rfl)) (hnd (hlf (ok_iload_n dX11_meets_25 rfl rfl)) (hlf (ok_iload dX11_meets_26 rfl))))))) (hnd (hnd (hnd (hnd (hlf (ok_iadd dX11_meets_28 rfl)) (hlf (ok_icmp_ge dX11_meets_29 (by decide) rfl))) (hnd (hlf (ok_iload_n dX11_meets_32 rfl rfl)) (hlf (ok_aload_n dX11_meets_33 rfl rfl)))) (hnd (hnd (hlf (ok_getf (C := RX11) (T := TX11) dX11_meets_34 rfl rfl (by decide) rfl inX11 wd_902 rfl)) (hlf (ok_iload_n dX11_meets_37 rfl rfl))) (hnd (hlf (ok_iald dX11_meets_38 rfl)) (hlf (ok_aload_n dX11_meets_39 rfl rfl))))) (hnd (hnd (hnd (hlf (ok_getf (C := RX11) (T := TX11) dX11_meets_40 rfl rfl (by decide) rfl inX11 wd_903 rfl)) (hlf (ok_iload_n dX11_meets_43 rfl rfl))) (hnd (hlf (ok_iald dX11_meets_44 rfl)) (hlf (ok_iadd dX11_meets_45 rfl)))) (hnd (hnd (hlf (ok_icmp_ge dX11_meets_46 (by decide) rfl)) (hlf (ok_iconst dX11_meets_49 (by decide) rfl))) (hnd (hlf (ok_goto dX11_meets_50 (by decide))) (hnd (hlf (ok_iconst dX11_meets_53 (by decide) rfl)) (hlf (ok_zret dX11_meets_54)))))))

theorem vc_X11_meets : MVC ins_X11_meets 5 5 sp_X11_meets := by
  refine mvc0 80 fun as w σ q hl hs => ?_
  unfold sp_X11_meets at hs
  split at hs
  rotate_left
  · exact hs.elim
  rename_i x day a b
  clear hl
  obtain ⟨k, hk, rfl, hs⟩ := hs
  have e : (nI k).toNatClampNeg = k := nI_clamp (by omega)
  have hin : vp_in (nI k) 100 := vp_in_nI hk (by decide)
  rw [← e] at hs
  repeat' (first | refine And.intro hin ?_ | apply br2 | intro _)
  all_goals first | exact ⟨Or.inl rfl, hs.2 (by grind)⟩ | exact ⟨Or.inr rfl, hs.1 (by grind)⟩
theorem ct_X11_meets : Ctr yX11_meets cX11_meets 5 (some .boolean) 1 0 0 5 sp_X11_meets := ctr_of (by decide +kernel) rfl (by decide) ok_X11_meets vc_X11_meets

theorem ord_ix {p v : Nat} (hp : p < 10) (hv : v < 14) : (14 : Int32) * nI p + nI v = nI (14 * p + v) ∧ vp_in ((14 : Int32) * nI p + nI v) 140 := by
  have e : (14 : Int32) * nI p + nI v = nI (14 * p + v) := by
    rw [show (14 : Int32) = nI 14 from rfl, pk_mul, nI_add]
  exact ⟨e, by rw [e]; exact vp_in_nI (by omega) (by decide)⟩
abbrev baM (σ : HS) (nv p : Nat) (s d : Int32) : Prop := ∃ v, v < nv ∧ bt1 s v ∧ ¬ σ 20 4 (14 * p + v) < 0 ∧ ¬ d < σ 20 4 (14 * p + v)
def sp_X11_isBarred : HSp := fun as w σ K => match as with
  | [.inr (.inl (11, some 0)), .inl x, .inl s, .inl d] => ∃ nv p, Nv σ nv ∧ p < 10 ∧ x = nI p ∧ spZ (baM σ nv p s d) w σ K
  | _ => False
theorem dX11_isBarred_0 : decode cX11_isBarred 0 = .ok (.iconst 0, 1) := by decide +kernel
theorem dX11_isBarred_1 : decode cX11_isBarred 1 = .ok (.istore 4, 2) := by decide +kernel
theorem dX11_isBarred_3 : decode cX11_isBarred 3 = .ok (.iload 4, 2) := by decide +kernel
theorem dX11_isBarred_5 : decode cX11_isBarred 5 = .ok (.aload_n 0, 1) := by decide +kernel
theorem dX11_isBarred_6 : decode cX11_isBarred 6 = .ok (.getfield 106, 3) := by decide +kernel
theorem dX11_isBarred_9 : decode cX11_isBarred 9 = .ok (.if_icmp .ge 45, 3) := by decide +kernel
theorem dX11_isBarred_12 : decode cX11_isBarred 12 = .ok (.aload_n 0, 1) := by decide +kernel
theorem dX11_isBarred_13 : decode cX11_isBarred 13 = .ok (.getfield 22, 3) := by decide +kernel
theorem dX11_isBarred_16 : decode cX11_isBarred 16 = .ok (.bipush 14, 2) := by decide +kernel
theorem dX11_isBarred_18 : decode cX11_isBarred 18 = .ok (.iload_n 1, 1) := by decide +kernel
theorem dX11_isBarred_19 : decode cX11_isBarred 19 = .ok (.imul, 1) := by decide +kernel
theorem dX11_isBarred_20 : decode cX11_isBarred 20 = .ok (.iload 4, 2) := by decide +kernel
theorem dX11_isBarred_22 : decode cX11_isBarred 22 = .ok (.iadd, 1) := by decide +kernel
theorem dX11_isBarred_23 : decode cX11_isBarred 23 = .ok (.iaload, 1) := by decide +kernel
theorem dX11_isBarred_24 : decode cX11_isBarred 24 = .ok (.istore 5, 2) := by decide +kernel
theorem dX11_isBarred_26 : decode cX11_isBarred 26 = .ok (.iload_n 2, 1) := by decide +kernel
theorem dX11_isBarred_27 : decode cX11_isBarred 27 = .ok (.iload 4, 2) := by decide +kernel
theorem dX11_isBarred_29 : decode cX11_isBarred 29 = .ok (.invokestatic 121, 3) := by decide +kernel
theorem dX11_isBarred_32 : decode cX11_isBarred 32 = .ok (.ifCond .eq 16, 3) := by decide +kernel
theorem dX11_isBarred_35 : decode cX11_isBarred 35 = .ok (.iload 5, 2) := by decide +kernel
theorem dX11_isBarred_37 : decode cX11_isBarred 37 = .ok (.ifCond .lt 11, 3) := by decide +kernel
theorem dX11_isBarred_40 : decode cX11_isBarred 40 = .ok (.iload 5, 2) := by decide +kernel
theorem dX11_isBarred_42 : decode cX11_isBarred 42 = .ok (.iload_n 3, 1) := by decide +kernel
theorem dX11_isBarred_43 : decode cX11_isBarred 43 = .ok (.if_icmp .gt 5, 3) := by decide +kernel
theorem dX11_isBarred_46 : decode cX11_isBarred 46 = .ok (.iconst 1, 1) := by decide +kernel
theorem dX11_isBarred_47 : decode cX11_isBarred 47 = .ok (.ireturn, 1) := by decide +kernel
theorem dX11_isBarred_48 : decode cX11_isBarred 48 = .ok (.iinc 4 1, 3) := by decide +kernel
theorem dX11_isBarred_51 : decode cX11_isBarred 51 = .ok (.goto (-48), 3) := by decide +kernel
theorem dX11_isBarred_54 : decode cX11_isBarred 54 = .ok (.iconst 0, 1) := by decide +kernel
theorem dX11_isBarred_55 : decode cX11_isBarred 55 = .ok (.ireturn, 1) := by decide +kernel
def ins_X11_isBarred (pc : Nat) : HOp := cond (Nat.blt pc 26) (cond (Nat.blt pc 13) (cond (Nat.blt pc 5) (cond (Nat.blt pc 1) (cond (Nat.beq pc 0) (o_const (0) 1) o_bad) (cond (Nat.blt pc 3) (cond (Nat.beq pc 1) (o_istore 4 3) o_bad) (cond (Nat.beq pc 3) (o_iload 4 5) o_bad))) (cond (Nat.blt pc 9) (cond (Nat.blt pc 6) (cond (Nat.beq pc 5) (o_aload 0 6) o_bad) (cond (Nat.beq pc 6) (o_getf 11 7 9) o_bad)) (cond (Nat.blt pc 12) (cond (Nat.beq pc 9) (o_icmp (fun x y => y ≤ x) 54 12) o_bad) (cond (Nat.beq pc 12) (o_aload 0 13) o_bad)))) (cond (Nat.blt pc 20) (cond (Nat.blt pc 18) (cond (Nat.blt pc 16) (cond (Nat.beq pc 13) (o_getf 11 6 16) o_bad) (cond (Nat.beq pc 16) (o_const (14) 18) o_bad)) (cond (Nat.blt pc 19) (cond (Nat.beq pc 18) (o_iload 1 19) o_bad) (cond (Nat.beq pc 19) (o_bin (fun x y => x * y) 20) o_bad))) (cond (Nat.blt pc 23) (cond (Nat.blt pc 22) (cond (Nat.beq pc 20) (o_iload 4 22) o_bad) (cond (Nat.beq pc 22) (o_bin (fun x y => x + y) 23) o_bad)) (cond (Nat.blt pc 24) (cond (Nat.beq pc 23) (o_iald 24) o_bad) (cond (Nat.beq pc 24) (o_istore 5 26) o_bad))))) (cond (Nat.blt pc 42) (cond (Nat.blt pc 32) (cond (Nat.blt pc 27) (cond (Nat.beq pc 26) (o_iload 2 27) o_bad) (cond (Nat.blt pc 29) (cond (Nat.beq pc 27) (o_iload 4 29) o_bad) (cond (Nat.beq pc 29) (o_callS 2 sp_X11_has 32) o_bad))) (cond (Nat.blt pc 37) (cond (Nat.blt pc 35) (cond (Nat.beq pc 32) (o_if (fun x => x = 0) 48 35) o_bad) (cond (Nat.beq pc 35) (o_iload 5 37) o_bad)) (cond (Nat.blt pc 40) (cond (Nat.beq pc 37) (o_if (fun x => x < 0) 48 40) o_bad) (cond (Nat.beq pc 40) (o_iload 5 42) o_bad)))) (cond (Nat.blt pc 48) (cond (Nat.blt pc 46) (cond (Nat.blt pc 43) (cond (Nat.beq pc 42) (o_iload 3 43) o_bad) (cond (Nat.beq pc 43) (o_icmp (fun x y => y < x) 48 46) o_bad)) (cond (Nat.blt pc 47) (cond (Nat.beq pc 46) (o_const (1) 47) o_bad) (cond (Nat.beq pc 47) (o_zret) o_bad))) (cond (Nat.blt pc 54) (cond (Nat.blt pc 51) (cond (Nat.beq pc 48) (o_iinc 4 (1) 51) o_bad) (cond (Nat.beq pc 51) (o_goto 3) o_bad)) (cond (Nat.blt pc 55) (cond (Nat.beq pc 54) (o_const (0) 55) o_bad) (cond (Nat.beq pc 55) (o_zret) o_bad)))))
set_option maxRecDepth 20000 in
theorem ok_X11_isBarred : HOKs cX11_isBarred RX11 6 (some .boolean) 2 ins_X11_isBarred := fun _ => hnd (hnd (hnd (hnd (hlf (ok_iconst dX11_isBarred_0 (by decide) rfl)) (hnd (hlf (ok_istore dX11_isBarred_1 (by decide) rfl)) (hlf (ok_iload dX11_isBarred_3 rfl)))) (hnd (hnd (hlf (ok_aload_n dX11_isBarred_5 rfl rfl)) (hlf (ok_getf (C := RX11) (T := TX11) dX11_isBarred_6 rfl rfl (by decide) rfl inX11 wd_884 rfl))) (hnd (hlf (ok_icmp_ge dX11_isBarred_9 (by decide) rfl)) (hlf (ok_aload_n dX11_isBarred_12 rfl rfl))))) (hnd (hnd (hnd (hlf (ok_getf (C := RX11) (T := TX11) dX11_isBarred_13 rfl rfl (by decide) rfl inX11 wd_883 rfl)) (hlf (ok_bipush dX11_isBarred_16 (by decide) rfl))) (hnd (hlf (ok_iload_n dX11_isBarred_18 rfl rfl)) (hlf (ok_imul dX11_isBarred_19 rfl)))) (hnd (hnd (hlf (ok_iload dX11_isBarred_20 rfl)) (hlf (ok_iadd dX11_isBarred_22 rfl))) (hnd (hlf (ok_iald dX11_isBarred_23 rfl)) (hlf (ok_istore dX11_isBarred_24 (by decide) rfl)))))) (hnd (hnd (hnd (hlf (ok_iload_n dX11_isBarred_26 rfl rfl)) (hnd (hlf (ok_iload dX11_isBarred_27 rfl)) (hlf (ok_callS (y := yX11_has) dX11_isBarred_29 ct_X11_has (by decide) (by decide) wd_1046 wd_1044 wd_1045 wd_50 (by decide +kernel) rfl)))) (hnd (hnd (hlf (ok_if_eq dX11_isBarred_32 (by decide) rfl)) (hlf (ok_iload dX11_isBarred_35 rfl))) (hnd (hlf (ok_if_lt dX11_isBarred_37 (by decide) rfl)) (hlf (ok_iload dX11_isBarred_40 rfl))))) (hnd (hnd (hnd (hlf (ok_iload_n dX11_isBarred_42 rfl rfl)) (hlf (ok_icmp_gt dX11_isBarred_43 (by decide) rfl))) (hnd (hlf (ok_iconst dX11_isBarred_46 (by decide) rfl)) (hlf (ok_zret dX11_isBarred_47)))) (hnd (hnd (hlf (ok_iinc dX11_isBarred_48 (by decide) (by decide) rfl)) (hlf (ok_goto dX11_isBarred_51 (by decide)))) (hnd (hlf (ok_iconst dX11_isBarred_54 (by decide) rfl)) (hlf (ok_zret dX11_isBarred_55))))))

theorem vc_X11_isBarred : MVC ins_X11_isBarred 6 4 sp_X11_isBarred := by
  refine mvc1 3 60 fun as w σ q hl hs => ?_
  unfold sp_X11_isBarred at hs
  split at hs
  rotate_left
  · exact hs.elim
  rename_i x s d
  obtain ⟨n, p, ⟨hn, hsz⟩, hp, rfl, hs⟩ := hs
  refine ⟨fun N ls st w' σ' => ∃ (i : Nat) (u : Int32) (o : Option HV), i ≤ n ∧ N = n - i ∧ u = nI i ∧ (∀ v, v < i → ¬ (bt1 s v ∧ ¬ σ 20 4 (14 * p + v) < 0 ∧ ¬ d < σ 20 4 (14 * p + v))) ∧ ls = [some (HR 11 0), some (HI (nI p)), some (HI s), some (HI d), some (HI u), o] ∧ st = [] ∧ w = w' ∧ σ = σ', ?_, ?_⟩
  · rintro N ls st w' σ' ⟨i, u, o, hi, rfl, rfl, hno, rfl, rfl, rfl, rfl⟩
    apply br2
    · intro h1
      obtain rfl := lp_end hsz hi h1
      exact ⟨Or.inl rfl, hs.2 fun ⟨j, h1, h2⟩ => hno j h1 h2⟩
    intro h1
    have hlt := lp_go hsz hi h1
    obtain ⟨ex, hin⟩ := ord_ix hp (v := i) (by omega)
    have e : ((14 : Int32) * nI p + nI i).toNatClampNeg = 14 * p + i := by rw [ex]; exact nI_clamp (by omega)
    have go : ¬ (bt1 s i ∧ ¬ σ 20 4 (14 * p + i) < 0 ∧ ¬ d < σ 20 4 (14 * p + i)) → ∃ N', N' < n - i ∧ ∃ (i' : Nat) (u : Int32) (o : Option HV), i' ≤ n ∧ N' = n - i' ∧ u = nI i' ∧ (∀ v, v < i' → ¬ (bt1 s v ∧ ¬ σ 20 4 (14 * p + v) < 0 ∧ ¬ d < σ 20 4 (14 * p + v))) ∧ [some (HR 11 0), some (HI (nI p)), some (HI s), some (HI d), some (HI (nI i + 1)), some (HI (σ 20 4 ((14 : Int32) * nI p + nI i).toNatClampNeg))] = [some (HR 11 0), some (HI (nI p)), some (HI s), some (HI d), some (HI u), o] ∧ ([] : List HV) = [] ∧ w = w ∧ σ = σ := fun h =>
      ⟨n - (i + 1), by omega, i + 1, _, _, hlt, rfl, nI_1 i, fun j hj => (Nat.lt_succ_iff_lt_or_eq.mp hj).elim (hno j) (fun e => e ▸ h), rfl, rfl, rfl, rfl⟩
    refine And.intro hin ?_
    apply br2
    rotate_left
    · intro h2
      exact And.intro (fun _ => go fun h => h2 h.1) (fun h => absurd rfl h)
    intro h2
    refine And.intro (fun h => absurd h (by decide)) (fun _ => ?_)
    apply br2
    · intro h3
      have h3 : σ 20 4 ((14 : Int32) * nI p + nI i).toNatClampNeg < 0 := h3
      rw [e] at h3
      exact go fun h => h.2.1 h3
    intro h3
    have h3 : ¬ σ 20 4 ((14 : Int32) * nI p + nI i).toNatClampNeg < 0 := h3
    rw [e] at h3
    apply br2
    · intro h4
      have h4 : d < σ 20 4 ((14 : Int32) * nI p + nI i).toNatClampNeg := h4
      rw [e] at h4
      exact go fun h => h.2.2 h4
    · intro h4
      have h4 : ¬ d < σ 20 4 ((14 : Int32) * nI p + nI i).toNatClampNeg := h4
      rw [e] at h4
      exact ⟨Or.inr rfl, hs.1 ⟨i, hlt, h2, h3, h4⟩⟩
  · exact ⟨n, 0, 0, none, Nat.zero_le _, rfl, rfl, fun j hj => absurd hj (by omega), rfl, rfl, rfl, rfl⟩
theorem ct_X11_isBarred : Ctr yX11_isBarred cX11_isBarred 6 (some .boolean) 2 0 0 4 sp_X11_isBarred := ctr_of (by decide +kernel) rfl (by decide) ok_X11_isBarred vc_X11_isBarred

abbrev ulM (σ : HS) (nv p : Nat) (s : Int32) : Prop := ∃ v, v < nv ∧ bt1 s v ∧ ¬ σ 20 5 v = 2 ∧ ¬ bt1 (σ 20 3 p) v
def sp_X11_isUnlisted : HSp := fun as w σ K => match as with
  | [.inr (.inl (11, some 0)), .inl x, .inl s] => ∃ nv p, Nv σ nv ∧ p < 10 ∧ x = nI p ∧ spZ (ulM σ nv p s) w σ K
  | _ => False
theorem dX11_isUnlisted_0 : decode cX11_isUnlisted 0 = .ok (.iconst 0, 1) := by decide +kernel
theorem dX11_isUnlisted_1 : decode cX11_isUnlisted 1 = .ok (.istore_n 3, 1) := by decide +kernel
theorem dX11_isUnlisted_2 : decode cX11_isUnlisted 2 = .ok (.iload_n 3, 1) := by decide +kernel
theorem dX11_isUnlisted_3 : decode cX11_isUnlisted 3 = .ok (.aload_n 0, 1) := by decide +kernel
theorem dX11_isUnlisted_4 : decode cX11_isUnlisted 4 = .ok (.getfield 106, 3) := by decide +kernel
theorem dX11_isUnlisted_7 : decode cX11_isUnlisted 7 = .ok (.if_icmp .ge 42, 3) := by decide +kernel
theorem dX11_isUnlisted_10 : decode cX11_isUnlisted 10 = .ok (.iload_n 2, 1) := by decide +kernel
theorem dX11_isUnlisted_11 : decode cX11_isUnlisted 11 = .ok (.iload_n 3, 1) := by decide +kernel
theorem dX11_isUnlisted_12 : decode cX11_isUnlisted 12 = .ok (.invokestatic 121, 3) := by decide +kernel
theorem dX11_isUnlisted_15 : decode cX11_isUnlisted 15 = .ok (.ifCond .eq 28, 3) := by decide +kernel
theorem dX11_isUnlisted_18 : decode cX11_isUnlisted 18 = .ok (.aload_n 0, 1) := by decide +kernel
theorem dX11_isUnlisted_19 : decode cX11_isUnlisted 19 = .ok (.getfield 25, 3) := by decide +kernel
theorem dX11_isUnlisted_22 : decode cX11_isUnlisted 22 = .ok (.iload_n 3, 1) := by decide +kernel
theorem dX11_isUnlisted_23 : decode cX11_isUnlisted 23 = .ok (.iaload, 1) := by decide +kernel
theorem dX11_isUnlisted_24 : decode cX11_isUnlisted 24 = .ok (.iconst 2, 1) := by decide +kernel
theorem dX11_isUnlisted_25 : decode cX11_isUnlisted 25 = .ok (.if_icmp .eq 18, 3) := by decide +kernel
theorem dX11_isUnlisted_28 : decode cX11_isUnlisted 28 = .ok (.aload_n 0, 1) := by decide +kernel
theorem dX11_isUnlisted_29 : decode cX11_isUnlisted 29 = .ok (.getfield 19, 3) := by decide +kernel
theorem dX11_isUnlisted_32 : decode cX11_isUnlisted 32 = .ok (.iload_n 1, 1) := by decide +kernel
theorem dX11_isUnlisted_33 : decode cX11_isUnlisted 33 = .ok (.iaload, 1) := by decide +kernel
theorem dX11_isUnlisted_34 : decode cX11_isUnlisted 34 = .ok (.iload_n 3, 1) := by decide +kernel
theorem dX11_isUnlisted_35 : decode cX11_isUnlisted 35 = .ok (.invokestatic 121, 3) := by decide +kernel
theorem dX11_isUnlisted_38 : decode cX11_isUnlisted 38 = .ok (.ifCond .ne 5, 3) := by decide +kernel
theorem dX11_isUnlisted_41 : decode cX11_isUnlisted 41 = .ok (.iconst 1, 1) := by decide +kernel
theorem dX11_isUnlisted_42 : decode cX11_isUnlisted 42 = .ok (.ireturn, 1) := by decide +kernel
theorem dX11_isUnlisted_43 : decode cX11_isUnlisted 43 = .ok (.iinc 3 1, 3) := by decide +kernel
theorem dX11_isUnlisted_46 : decode cX11_isUnlisted 46 = .ok (.goto (-44), 3) := by decide +kernel
theorem dX11_isUnlisted_49 : decode cX11_isUnlisted 49 = .ok (.iconst 0, 1) := by decide +kernel
theorem dX11_isUnlisted_50 : decode cX11_isUnlisted 50 = .ok (.ireturn, 1) := by decide +kernel
def ins_X11_isUnlisted (pc : Nat) : HOp := cond (Nat.blt pc 24) (cond (Nat.blt pc 11) (cond (Nat.blt pc 3) (cond (Nat.blt pc 1) (cond (Nat.beq pc 0) (o_const (0) 1) o_bad) (cond (Nat.blt pc 2) (cond (Nat.beq pc 1) (o_istore 3 2) o_bad) (cond (Nat.beq pc 2) (o_iload 3 3) o_bad))) (cond (Nat.blt pc 7) (cond (Nat.blt pc 4) (cond (Nat.beq pc 3) (o_aload 0 4) o_bad) (cond (Nat.beq pc 4) (o_getf 11 7 7) o_bad)) (cond (Nat.blt pc 10) (cond (Nat.beq pc 7) (o_icmp (fun x y => y ≤ x) 49 10) o_bad) (cond (Nat.beq pc 10) (o_iload 2 11) o_bad)))) (cond (Nat.blt pc 18) (cond (Nat.blt pc 12) (cond (Nat.beq pc 11) (o_iload 3 12) o_bad) (cond (Nat.blt pc 15) (cond (Nat.beq pc 12) (o_callS 2 sp_X11_has 15) o_bad) (cond (Nat.beq pc 15) (o_if (fun x => x = 0) 43 18) o_bad))) (cond (Nat.blt pc 22) (cond (Nat.blt pc 19) (cond (Nat.beq pc 18) (o_aload 0 19) o_bad) (cond (Nat.beq pc 19) (o_getf 11 8 22) o_bad)) (cond (Nat.blt pc 23) (cond (Nat.beq pc 22) (o_iload 3 23) o_bad) (cond (Nat.beq pc 23) (o_iald 24) o_bad))))) (cond (Nat.blt pc 35) (cond (Nat.blt pc 29) (cond (Nat.blt pc 25) (cond (Nat.beq pc 24) (o_const (2) 25) o_bad) (cond (Nat.blt pc 28) (cond (Nat.beq pc 25) (o_icmp (fun x y => x = y) 43 28) o_bad) (cond (Nat.beq pc 28) (o_aload 0 29) o_bad))) (cond (Nat.blt pc 33) (cond (Nat.blt pc 32) (cond (Nat.beq pc 29) (o_getf 11 5 32) o_bad) (cond (Nat.beq pc 32) (o_iload 1 33) o_bad)) (cond (Nat.blt pc 34) (cond (Nat.beq pc 33) (o_iald 34) o_bad) (cond (Nat.beq pc 34) (o_iload 3 35) o_bad)))) (cond (Nat.blt pc 43) (cond (Nat.blt pc 41) (cond (Nat.blt pc 38) (cond (Nat.beq pc 35) (o_callS 2 sp_X11_has 38) o_bad) (cond (Nat.beq pc 38) (o_if (fun x => x = 0) 41 43) o_bad)) (cond (Nat.blt pc 42) (cond (Nat.beq pc 41) (o_const (1) 42) o_bad) (cond (Nat.beq pc 42) (o_zret) o_bad))) (cond (Nat.blt pc 49) (cond (Nat.blt pc 46) (cond (Nat.beq pc 43) (o_iinc 3 (1) 46) o_bad) (cond (Nat.beq pc 46) (o_goto 2) o_bad)) (cond (Nat.blt pc 50) (cond (Nat.beq pc 49) (o_const (0) 50) o_bad) (cond (Nat.beq pc 50) (o_zret) o_bad)))))
set_option maxRecDepth 20000 in
theorem ok_X11_isUnlisted : HOKs cX11_isUnlisted RX11 4 (some .boolean) 2 ins_X11_isUnlisted := fun _ => hnd (hnd (hnd (hnd (hlf (ok_iconst dX11_isUnlisted_0 (by decide) rfl)) (hnd (hlf (ok_istore_n dX11_isUnlisted_1 rfl (by decide) rfl)) (hlf (ok_iload_n dX11_isUnlisted_2 rfl rfl)))) (hnd (hnd (hlf (ok_aload_n dX11_isUnlisted_3 rfl rfl)) (hlf (ok_getf (C := RX11) (T := TX11) dX11_isUnlisted_4 rfl rfl (by decide) rfl inX11 wd_884 rfl))) (hnd (hlf (ok_icmp_ge dX11_isUnlisted_7 (by decide) rfl)) (hlf (ok_iload_n dX11_isUnlisted_10 rfl rfl))))) (hnd (hnd (hlf (ok_iload_n dX11_isUnlisted_11 rfl rfl)) (hnd (hlf (ok_callS (y := yX11_has) dX11_isUnlisted_12 ct_X11_has (by decide) (by decide) wd_1046 wd_1044 wd_1045 wd_50 (by decide +kernel) rfl)) (hlf (ok_if_eq dX11_isUnlisted_15 (by decide) rfl)))) (hnd (hnd (hlf (ok_aload_n dX11_isUnlisted_18 rfl rfl)) (hlf (ok_getf (C := RX11) (T := TX11) dX11_isUnlisted_19 rfl rfl (by decide) rfl inX11 wd_885 rfl))) (hnd (hlf (ok_iload_n dX11_isUnlisted_22 rfl rfl)) (hlf (ok_iald dX11_isUnlisted_23 rfl)))))) (hnd (hnd (hnd (hlf (ok_iconst dX11_isUnlisted_24 (by decide) rfl)) (hnd (hlf (ok_icmp_eq dX11_isUnlisted_25 (by decide) rfl)) (hlf (ok_aload_n dX11_isUnlisted_28 rfl rfl)))) (hnd (hnd (hlf (ok_getf (C := RX11) (T := TX11) dX11_isUnlisted_29 rfl rfl (by decide) rfl inX11 wd_882 rfl)) (hlf (ok_iload_n dX11_isUnlisted_32 rfl rfl))) (hnd (hlf (ok_iald dX11_isUnlisted_33 rfl)) (hlf (ok_iload_n dX11_isUnlisted_34 rfl rfl))))) (hnd (hnd (hnd (hlf (ok_callS (y := yX11_has) dX11_isUnlisted_35 ct_X11_has (by decide) (by decide) wd_1046 wd_1044 wd_1045 wd_50 (by decide +kernel) rfl)) (hlf (ok_if_ne dX11_isUnlisted_38 (by decide) rfl))) (hnd (hlf (ok_iconst dX11_isUnlisted_41 (by decide) rfl)) (hlf (ok_zret dX11_isUnlisted_42)))) (hnd (hnd (hlf (ok_iinc dX11_isUnlisted_43 (by decide) (by decide) rfl)) (hlf (ok_goto dX11_isUnlisted_46 (by decide)))) (hnd (hlf (ok_iconst dX11_isUnlisted_49 (by decide) rfl)) (hlf (ok_zret dX11_isUnlisted_50))))))

theorem vc_X11_isUnlisted : MVC ins_X11_isUnlisted 4 3 sp_X11_isUnlisted := by
  refine mvc1 2 60 fun as w σ q hl hs => ?_
  unfold sp_X11_isUnlisted at hs
  split at hs
  rotate_left
  · exact hs.elim
  rename_i x s
  obtain ⟨n, p, ⟨hn, hsz⟩, hp, rfl, hs⟩ := hs
  have ep : (nI p).toNatClampNeg = p := nI_clamp (by omega)
  refine ⟨fun N ls st w' σ' => ∃ (i : Nat) (u : Int32), i ≤ n ∧ N = n - i ∧ u = nI i ∧ (∀ v, v < i → ¬ (bt1 s v ∧ ¬ σ 20 5 v = 2 ∧ ¬ bt1 (σ 20 3 p) v)) ∧ ls = [some (HR 11 0), some (HI (nI p)), some (HI s), some (HI u)] ∧ st = [] ∧ w = w' ∧ σ = σ', ?_, ?_⟩
  · rintro N ls st w' σ' ⟨i, u, hi, rfl, rfl, hno, rfl, rfl, rfl, rfl⟩
    apply br2
    · intro h1
      obtain rfl := lp_end hsz hi h1
      exact ⟨Or.inl rfl, hs.2 fun ⟨j, h1, h2⟩ => hno j h1 h2⟩
    intro h1
    have hlt := lp_go hsz hi h1
    have e : (nI i).toNatClampNeg = i := nI_clamp (by omega)
    have go : ¬ (bt1 s i ∧ ¬ σ 20 5 i = 2 ∧ ¬ bt1 (σ 20 3 p) i) → ∃ N', N' < n - i ∧ ∃ (i' : Nat) (u : Int32), i' ≤ n ∧ N' = n - i' ∧ u = nI i' ∧ (∀ v, v < i' → ¬ (bt1 s v ∧ ¬ σ 20 5 v = 2 ∧ ¬ bt1 (σ 20 3 p) v)) ∧ [some (HR 11 0), some (HI (nI p)), some (HI s), some (HI (nI i + 1))] = [some (HR 11 0), some (HI (nI p)), some (HI s), some (HI u)] ∧ ([] : List HV) = [] ∧ w = w ∧ σ = σ := fun h =>
      ⟨n - (i + 1), by omega, i + 1, _, hlt, rfl, nI_1 i, fun j hj => (Nat.lt_succ_iff_lt_or_eq.mp hj).elim (hno j) (fun e => e ▸ h), rfl, rfl, rfl, rfl⟩
    apply br2
    rotate_left
    · intro h2
      exact And.intro (fun _ => go fun h => h2 h.1) (fun h => absurd rfl h)
    intro h2
    refine And.intro (fun h => absurd h (by decide)) (fun _ => And.intro (vp_in_nI (N := 14) (by omega) (by decide)) ?_)
    apply br2
    · intro h3
      have h3 : σ 20 5 (nI i).toNatClampNeg = 2 := h3
      rw [e] at h3
      exact go fun h => h.2.1 h3
    intro h3
    have h3 : ¬ σ 20 5 (nI i).toNatClampNeg = 2 := h3
    rw [e] at h3
    refine And.intro (vp_in_nI (N := 10) hp (by decide)) ?_
    apply br2
    · intro h4
      have h4 : σ 20 3 (nI p).toNatClampNeg >>> (nI i &&& 31) &&& 1 = 1 := h4
      rw [ep] at h4
      exact And.intro (fun h => absurd h (by decide)) (fun _ => go fun h => h.2.2 h4)
    · intro h4
      have h4 : ¬ σ 20 3 (nI p).toNatClampNeg >>> (nI i &&& 31) &&& 1 = 1 := h4
      rw [ep] at h4
      exact And.intro (fun _ => ⟨Or.inr rfl, hs.1 ⟨i, hlt, h2, h3, h4⟩⟩) (fun h => absurd rfl h)
  · exact ⟨n, 0, 0, Nat.zero_le _, rfl, rfl, fun j hj => absurd hj (by omega), rfl, rfl, rfl, rfl⟩
theorem ct_X11_isUnlisted : Ctr yX11_isUnlisted cX11_isUnlisted 4 (some .boolean) 2 0 0 3 sp_X11_isUnlisted := ctr_of (by decide +kernel) rfl (by decide) ok_X11_isUnlisted vc_X11_isUnlisted

abbrev caM (σ : HS) (nv : Nat) (s : Int32) : Prop := (∃ v, v < nv ∧ bt1 s v ∧ σ 20 5 v = 3) ∧ ¬ ∃ v, v < nv ∧ bt1 s v ∧ σ 20 5 v = 1
abbrev chP (σ : HS) (s : Int32) (i : Nat) (c : Int32) (x : Int32) : Prop := (x = 1 ∧ ∃ v, v < i ∧ bt1 s v ∧ σ 20 5 v = c) ∨ (x = 0 ∧ ¬ ∃ v, v < i ∧ bt1 s v ∧ σ 20 5 v = c)
theorem ch_same {σ : HS} {s c x : Int32} {i : Nat} (h : chP σ s i c x) (hn : ¬ (bt1 s i ∧ σ 20 5 i = c)) : chP σ s (i + 1) c x := by
  rcases h with ⟨h1, v, hv, h2⟩ | ⟨h1, h2⟩
  · exact Or.inl ⟨h1, v, by omega, h2⟩
  · exact Or.inr ⟨h1, fun ⟨v, hv, h3⟩ => (Nat.lt_succ_iff_lt_or_eq.mp hv).elim (fun q => h2 ⟨v, q, h3⟩) (fun q => hn (q ▸ h3))⟩
theorem ch_one {σ : HS} {s c x : Int32} {i : Nat} (h : chP σ s i c x) (h1 : ¬ x = 0) : chP σ s (i + 1) c 1 := by
  rcases h with ⟨_, v, hv, h2⟩ | ⟨h2, _⟩
  · exact Or.inl ⟨rfl, v, by omega, h2⟩
  · exact absurd h2 h1
theorem ch_new {σ : HS} {s c : Int32} {i : Nat} (h : bt1 s i ∧ σ 20 5 i = c) : chP σ s (i + 1) c 1 := Or.inl ⟨rfl, i, by omega, h⟩
def sp_X11_isChildAlone : HSp := fun as w σ K => match as with
  | [.inr (.inl (11, some 0)), .inl s] => ∃ nv, Nv σ nv ∧ spZ (caM σ nv s) w σ K
  | _ => False
theorem dX11_isChildAlone_0 : decode cX11_isChildAlone 0 = .ok (.iconst 0, 1) := by decide +kernel
theorem dX11_isChildAlone_1 : decode cX11_isChildAlone 1 = .ok (.istore_n 2, 1) := by decide +kernel
theorem dX11_isChildAlone_2 : decode cX11_isChildAlone 2 = .ok (.iconst 0, 1) := by decide +kernel
theorem dX11_isChildAlone_3 : decode cX11_isChildAlone 3 = .ok (.istore_n 3, 1) := by decide +kernel
theorem dX11_isChildAlone_4 : decode cX11_isChildAlone 4 = .ok (.iconst 0, 1) := by decide +kernel
theorem dX11_isChildAlone_5 : decode cX11_isChildAlone 5 = .ok (.istore 4, 2) := by decide +kernel
theorem dX11_isChildAlone_7 : decode cX11_isChildAlone 7 = .ok (.iload 4, 2) := by decide +kernel
theorem dX11_isChildAlone_9 : decode cX11_isChildAlone 9 = .ok (.aload_n 0, 1) := by decide +kernel
theorem dX11_isChildAlone_10 : decode cX11_isChildAlone 10 = .ok (.getfield 106, 3) := by decide +kernel
theorem dX11_isChildAlone_13 : decode cX11_isChildAlone 13 = .ok (.if_icmp .ge 69, 3) := by decide +kernel
theorem dX11_isChildAlone_16 : decode cX11_isChildAlone 16 = .ok (.iload_n 2, 1) := by decide +kernel
theorem dX11_isChildAlone_17 : decode cX11_isChildAlone 17 = .ok (.ifCond .ne 23, 3) := by decide +kernel
theorem dX11_isChildAlone_20 : decode cX11_isChildAlone 20 = .ok (.iload_n 1, 1) := by decide +kernel
theorem dX11_isChildAlone_21 : decode cX11_isChildAlone 21 = .ok (.iload 4, 2) := by decide +kernel
theorem dX11_isChildAlone_23 : decode cX11_isChildAlone 23 = .ok (.invokestatic 121, 3) := by decide +kernel
theorem dX11_isChildAlone_26 : decode cX11_isChildAlone 26 = .ok (.ifCond .eq 18, 3) := by decide +kernel
theorem dX11_isChildAlone_29 : decode cX11_isChildAlone 29 = .ok (.aload_n 0, 1) := by decide +kernel
theorem dX11_isChildAlone_30 : decode cX11_isChildAlone 30 = .ok (.getfield 25, 3) := by decide +kernel
theorem dX11_isChildAlone_33 : decode cX11_isChildAlone 33 = .ok (.iload 4, 2) := by decide +kernel
theorem dX11_isChildAlone_35 : decode cX11_isChildAlone 35 = .ok (.iaload, 1) := by decide +kernel
theorem dX11_isChildAlone_36 : decode cX11_isChildAlone 36 = .ok (.iconst 3, 1) := by decide +kernel
theorem dX11_isChildAlone_37 : decode cX11_isChildAlone 37 = .ok (.if_icmp .ne 7, 3) := by decide +kernel
theorem dX11_isChildAlone_40 : decode cX11_isChildAlone 40 = .ok (.iconst 1, 1) := by decide +kernel
theorem dX11_isChildAlone_41 : decode cX11_isChildAlone 41 = .ok (.goto 4, 3) := by decide +kernel
theorem dX11_isChildAlone_44 : decode cX11_isChildAlone 44 = .ok (.iconst 0, 1) := by decide +kernel
theorem dX11_isChildAlone_45 : decode cX11_isChildAlone 45 = .ok (.istore_n 2, 1) := by decide +kernel
theorem dX11_isChildAlone_46 : decode cX11_isChildAlone 46 = .ok (.iload_n 3, 1) := by decide +kernel
theorem dX11_isChildAlone_47 : decode cX11_isChildAlone 47 = .ok (.ifCond .ne 23, 3) := by decide +kernel
theorem dX11_isChildAlone_50 : decode cX11_isChildAlone 50 = .ok (.iload_n 1, 1) := by decide +kernel
theorem dX11_isChildAlone_51 : decode cX11_isChildAlone 51 = .ok (.iload 4, 2) := by decide +kernel
theorem dX11_isChildAlone_53 : decode cX11_isChildAlone 53 = .ok (.invokestatic 121, 3) := by decide +kernel
theorem dX11_isChildAlone_56 : decode cX11_isChildAlone 56 = .ok (.ifCond .eq 18, 3) := by decide +kernel
theorem dX11_isChildAlone_59 : decode cX11_isChildAlone 59 = .ok (.aload_n 0, 1) := by decide +kernel
theorem dX11_isChildAlone_60 : decode cX11_isChildAlone 60 = .ok (.getfield 25, 3) := by decide +kernel
theorem dX11_isChildAlone_63 : decode cX11_isChildAlone 63 = .ok (.iload 4, 2) := by decide +kernel
theorem dX11_isChildAlone_65 : decode cX11_isChildAlone 65 = .ok (.iaload, 1) := by decide +kernel
theorem dX11_isChildAlone_66 : decode cX11_isChildAlone 66 = .ok (.iconst 1, 1) := by decide +kernel
theorem dX11_isChildAlone_67 : decode cX11_isChildAlone 67 = .ok (.if_icmp .ne 7, 3) := by decide +kernel
theorem dX11_isChildAlone_70 : decode cX11_isChildAlone 70 = .ok (.iconst 1, 1) := by decide +kernel
theorem dX11_isChildAlone_71 : decode cX11_isChildAlone 71 = .ok (.goto 4, 3) := by decide +kernel
theorem dX11_isChildAlone_74 : decode cX11_isChildAlone 74 = .ok (.iconst 0, 1) := by decide +kernel
theorem dX11_isChildAlone_75 : decode cX11_isChildAlone 75 = .ok (.istore_n 3, 1) := by decide +kernel
theorem dX11_isChildAlone_76 : decode cX11_isChildAlone 76 = .ok (.iinc 4 1, 3) := by decide +kernel
theorem dX11_isChildAlone_79 : decode cX11_isChildAlone 79 = .ok (.goto (-72), 3) := by decide +kernel
theorem dX11_isChildAlone_82 : decode cX11_isChildAlone 82 = .ok (.iload_n 2, 1) := by decide +kernel
theorem dX11_isChildAlone_83 : decode cX11_isChildAlone 83 = .ok (.ifCond .eq 11, 3) := by decide +kernel
theorem dX11_isChildAlone_86 : decode cX11_isChildAlone 86 = .ok (.iload_n 3, 1) := by decide +kernel
theorem dX11_isChildAlone_87 : decode cX11_isChildAlone 87 = .ok (.ifCond .ne 7, 3) := by decide +kernel
theorem dX11_isChildAlone_90 : decode cX11_isChildAlone 90 = .ok (.iconst 1, 1) := by decide +kernel
theorem dX11_isChildAlone_91 : decode cX11_isChildAlone 91 = .ok (.goto 4, 3) := by decide +kernel
theorem dX11_isChildAlone_94 : decode cX11_isChildAlone 94 = .ok (.iconst 0, 1) := by decide +kernel
theorem dX11_isChildAlone_95 : decode cX11_isChildAlone 95 = .ok (.ireturn, 1) := by decide +kernel
def ins_X11_isChildAlone (pc : Nat) : HOp := cond (Nat.blt pc 46) (cond (Nat.blt pc 21) (cond (Nat.blt pc 7) (cond (Nat.blt pc 3) (cond (Nat.blt pc 1) (cond (Nat.beq pc 0) (o_const (0) 1) o_bad) (cond (Nat.blt pc 2) (cond (Nat.beq pc 1) (o_istore 2 2) o_bad) (cond (Nat.beq pc 2) (o_const (0) 3) o_bad))) (cond (Nat.blt pc 4) (cond (Nat.beq pc 3) (o_istore 3 4) o_bad) (cond (Nat.blt pc 5) (cond (Nat.beq pc 4) (o_const (0) 5) o_bad) (cond (Nat.beq pc 5) (o_istore 4 7) o_bad)))) (cond (Nat.blt pc 13) (cond (Nat.blt pc 9) (cond (Nat.beq pc 7) (o_iload 4 9) o_bad) (cond (Nat.blt pc 10) (cond (Nat.beq pc 9) (o_aload 0 10) o_bad) (cond (Nat.beq pc 10) (o_getf 11 7 13) o_bad))) (cond (Nat.blt pc 17) (cond (Nat.blt pc 16) (cond (Nat.beq pc 13) (o_icmp (fun x y => y ≤ x) 82 16) o_bad) (cond (Nat.beq pc 16) (o_iload 2 17) o_bad)) (cond (Nat.blt pc 20) (cond (Nat.beq pc 17) (o_if (fun x => x = 0) 20 40) o_bad) (cond (Nat.beq pc 20) (o_iload 1 21) o_bad))))) (cond (Nat.blt pc 35) (cond (Nat.blt pc 29) (cond (Nat.blt pc 23) (cond (Nat.beq pc 21) (o_iload 4 23) o_bad) (cond (Nat.blt pc 26) (cond (Nat.beq pc 23) (o_callS 2 sp_X11_has 26) o_bad) (cond (Nat.beq pc 26) (o_if (fun x => x = 0) 44 29) o_bad))) (cond (Nat.blt pc 30) (cond (Nat.beq pc 29) (o_aload 0 30) o_bad) (cond (Nat.blt pc 33) (cond (Nat.beq pc 30) (o_getf 11 8 33) o_bad) (cond (Nat.beq pc 33) (o_iload 4 35) o_bad)))) (cond (Nat.blt pc 40) (cond (Nat.blt pc 36) (cond (Nat.beq pc 35) (o_iald 36) o_bad) (cond (Nat.blt pc 37) (cond (Nat.beq pc 36) (o_const (3) 37) o_bad) (cond (Nat.beq pc 37) (o_icmp (fun x y => x = y) 40 44) o_bad))) (cond (Nat.blt pc 44) (cond (Nat.blt pc 41) (cond (Nat.beq pc 40) (o_const (1) 41) o_bad) (cond (Nat.beq pc 41) (o_goto 45) o_bad)) (cond (Nat.blt pc 45) (cond (Nat.beq pc 44) (o_const (0) 45) o_bad) (cond (Nat.beq pc 45) (o_istore 2 46) o_bad)))))) (cond (Nat.blt pc 71) (cond (Nat.blt pc 59) (cond (Nat.blt pc 51) (cond (Nat.blt pc 47) (cond (Nat.beq pc 46) (o_iload 3 47) o_bad) (cond (Nat.blt pc 50) (cond (Nat.beq pc 47) (o_if (fun x => x = 0) 50 70) o_bad) (cond (Nat.beq pc 50) (o_iload 1 51) o_bad))) (cond (Nat.blt pc 53) (cond (Nat.beq pc 51) (o_iload 4 53) o_bad) (cond (Nat.blt pc 56) (cond (Nat.beq pc 53) (o_callS 2 sp_X11_has 56) o_bad) (cond (Nat.beq pc 56) (o_if (fun x => x = 0) 74 59) o_bad)))) (cond (Nat.blt pc 65) (cond (Nat.blt pc 60) (cond (Nat.beq pc 59) (o_aload 0 60) o_bad) (cond (Nat.blt pc 63) (cond (Nat.beq pc 60) (o_getf 11 8 63) o_bad) (cond (Nat.beq pc 63) (o_iload 4 65) o_bad))) (cond (Nat.blt pc 67) (cond (Nat.blt pc 66) (cond (Nat.beq pc 65) (o_iald 66) o_bad) (cond (Nat.beq pc 66) (o_const (1) 67) o_bad)) (cond (Nat.blt pc 70) (cond (Nat.beq pc 67) (o_icmp (fun x y => x = y) 70 74) o_bad) (cond (Nat.beq pc 70) (o_const (1) 71) o_bad))))) (cond (Nat.blt pc 83) (cond (Nat.blt pc 76) (cond (Nat.blt pc 74) (cond (Nat.beq pc 71) (o_goto 75) o_bad) (cond (Nat.blt pc 75) (cond (Nat.beq pc 74) (o_const (0) 75) o_bad) (cond (Nat.beq pc 75) (o_istore 3 76) o_bad))) (cond (Nat.blt pc 79) (cond (Nat.beq pc 76) (o_iinc 4 (1) 79) o_bad) (cond (Nat.blt pc 82) (cond (Nat.beq pc 79) (o_goto 7) o_bad) (cond (Nat.beq pc 82) (o_iload 2 83) o_bad)))) (cond (Nat.blt pc 90) (cond (Nat.blt pc 86) (cond (Nat.beq pc 83) (o_if (fun x => x = 0) 94 86) o_bad) (cond (Nat.blt pc 87) (cond (Nat.beq pc 86) (o_iload 3 87) o_bad) (cond (Nat.beq pc 87) (o_if (fun x => x = 0) 90 94) o_bad))) (cond (Nat.blt pc 94) (cond (Nat.blt pc 91) (cond (Nat.beq pc 90) (o_const (1) 91) o_bad) (cond (Nat.beq pc 91) (o_goto 95) o_bad)) (cond (Nat.blt pc 95) (cond (Nat.beq pc 94) (o_const (0) 95) o_bad) (cond (Nat.beq pc 95) (o_zret) o_bad))))))
set_option maxRecDepth 20000 in
theorem ok_X11_isChildAlone : HOKs cX11_isChildAlone RX11 5 (some .boolean) 2 ins_X11_isChildAlone := fun _ => hnd (hnd (hnd (hnd (hnd (hlf (ok_iconst dX11_isChildAlone_0 (by decide) rfl)) (hnd (hlf (ok_istore_n dX11_isChildAlone_1 rfl (by decide) rfl)) (hlf (ok_iconst dX11_isChildAlone_2 (by decide) rfl)))) (hnd (hlf (ok_istore_n dX11_isChildAlone_3 rfl (by decide) rfl)) (hnd (hlf (ok_iconst dX11_isChildAlone_4 (by decide) rfl)) (hlf (ok_istore dX11_isChildAlone_5 (by decide) rfl))))) (hnd (hnd (hlf (ok_iload dX11_isChildAlone_7 rfl)) (hnd (hlf (ok_aload_n dX11_isChildAlone_9 rfl rfl)) (hlf (ok_getf (C := RX11) (T := TX11) dX11_isChildAlone_10 rfl rfl (by decide) rfl inX11 wd_884 rfl)))) (hnd (hnd (hlf (ok_icmp_ge dX11_isChildAlone_13 (by decide) rfl)) (hlf (ok_iload_n dX11_isChildAlone_16 rfl rfl))) (hnd (hlf (ok_if_ne dX11_isChildAlone_17 (by decide) rfl)) (hlf (ok_iload_n dX11_isChildAlone_20 rfl rfl)))))) (hnd (hnd (hnd (hlf (ok_iload dX11_isChildAlone_21 rfl)) (hnd (hlf (ok_callS (y := yX11_has) dX11_isChildAlone_23 ct_X11_has (by decide) (by decide) wd_1046 wd_1044 wd_1045 wd_50 (by decide +kernel) rfl)) (hlf (ok_if_eq dX11_isChildAlone_26 (by decide) rfl)))) (hnd (hlf (ok_aload_n dX11_isChildAlone_29 rfl rfl)) (hnd (hlf (ok_getf (C := RX11) (T := TX11) dX11_isChildAlone_30 rfl rfl (by decide) rfl inX11 wd_885 rfl)) (hlf (ok_iload dX11_isChildAlone_33 rfl))))) (hnd (hnd (hlf (ok_iald dX11_isChildAlone_35 rfl)) (hnd (hlf (ok_iconst dX11_isChildAlone_36 (by decide) rfl)) (hlf (ok_icmp_ne dX11_isChildAlone_37 (by decide) rfl)))) (hnd (hnd (hlf (ok_iconst dX11_isChildAlone_40 (by decide) rfl)) (hlf (ok_goto dX11_isChildAlone_41 (by decide)))) (hnd (hlf (ok_iconst dX11_isChildAlone_44 (by decide) rfl)) (hlf (ok_istore_n dX11_isChildAlone_45 rfl (by decide) rfl))))))) (hnd (hnd (hnd (hnd (hlf (ok_iload_n dX11_isChildAlone_46 rfl rfl)) (hnd (hlf (ok_if_ne dX11_isChildAlone_47 (by decide) rfl)) (hlf (ok_iload_n dX11_isChildAlone_50 rfl rfl)))) (hnd (hlf (ok_iload dX11_isChildAlone_51 rfl)) (hnd (hlf (ok_callS (y := yX11_has) dX11_isChildAlone_53 ct_X11_has (by decide) (by decide) wd_1046 wd_1044 wd_1045 wd_50 (by decide +kernel) rfl)) (hlf (ok_if_eq dX11_isChildAlone_56 (by decide) rfl))))) (hnd (hnd (hlf (ok_aload_n dX11_isChildAlone_59 rfl rfl)) (hnd (hlf (ok_getf (C := RX11) (T := TX11) dX11_isChildAlone_60 rfl rfl (by decide) rfl inX11 wd_885 rfl)) (hlf (ok_iload dX11_isChildAlone_63 rfl)))) (hnd (hnd (hlf (ok_iald dX11_isChildAlone_65 rfl)) (hlf (ok_iconst dX11_isChildAlone_66 (by decide) rfl))) (hnd (hlf (ok_icmp_ne dX11_isChildAlone_67 (by decide) rfl)) (hlf (ok_iconst dX11_isChildAlone_70 (by decide) rfl)))))) (hnd (hnd (hnd (hlf (ok_goto dX11_isChildAlone_71 (by decide))) (hnd (hlf (ok_iconst dX11_isChildAlone_74 (by decide) rfl)) (hlf (ok_istore_n dX11_isChildAlone_75 rfl (by decide) rfl)))) (hnd (hlf (ok_iinc dX11_isChildAlone_76 (by decide) (by decide) rfl)) (hnd (hlf (ok_goto dX11_isChildAlone_79 (by decide))) (hlf (ok_iload_n dX11_isChildAlone_82 rfl rfl))))) (hnd (hnd (hlf (ok_if_eq dX11_isChildAlone_83 (by decide) rfl)) (hnd (hlf (ok_iload_n dX11_isChildAlone_86 rfl rfl)) (hlf (ok_if_ne dX11_isChildAlone_87 (by decide) rfl)))) (hnd (hnd (hlf (ok_iconst dX11_isChildAlone_90 (by decide) rfl)) (hlf (ok_goto dX11_isChildAlone_91 (by decide)))) (hnd (hlf (ok_iconst dX11_isChildAlone_94 (by decide) rfl)) (hlf (ok_zret dX11_isChildAlone_95)))))))

theorem vc_X11_isChildAlone : MVC ins_X11_isChildAlone 5 2 sp_X11_isChildAlone := by
  intro as w σ q hl hs
  unfold sp_X11_isChildAlone at hs
  split at hs
  rotate_left
  · exact hs.elim
  rename_i s
  obtain ⟨n, ⟨hn, hsz⟩, hs⟩ := hs
  refine ⟨fun pc => Nat.beq pc 7 || Nat.beq pc 45, fun pc N ls st w' σ' =>
    (pc = 7 ∧ ∃ (i : Nat) (u x y : Int32), i ≤ n ∧ N = 2 * (n - i) ∧ u = nI i ∧ chP σ s i 3 x ∧ chP σ s i 1 y ∧ ls = [some (HR 11 0), some (HI s), some (HI x), some (HI y), some (HI u)] ∧ st = [] ∧ w = w' ∧ σ = σ') ∨
    (pc = 45 ∧ ∃ (i : Nat) (x z y : Int32), i < n ∧ N = 2 * (n - i) - 1 ∧ chP σ s (i + 1) 3 z ∧ chP σ s i 1 y ∧ ls = [some (HR 11 0), some (HI s), some (HI x), some (HI y), some (HI (nI i))] ∧ st = [HI z] ∧ w = w' ∧ σ = σ'), 60, 60, ?_, ?_⟩
  · rintro N pc ls st w' σ' hh (⟨rfl, i, u, x, y, hi, rfl, rfl, hx, hy, rfl, rfl, rfl, rfl⟩ | ⟨rfl, i, x, z, y, hlt, rfl, hz, hy, rfl, rfl, rfl, rfl⟩)
    · apply br2
      · intro h1
        obtain rfl := lp_end hsz hi h1
        apply br2
        · intro h2
          exact ⟨Or.inl rfl, hs.2 fun q => hx.elim (fun h => absurd (h.1.symm.trans h2) (by decide)) (fun h => h.2 q.1)⟩
        · intro h2
          have hc : ∃ v, v < i ∧ bt1 s v ∧ σ 20 5 v = 3 := hx.elim (fun h => h.2) (fun h => absurd h.1 h2)
          apply br2
          · intro h3
            exact ⟨Or.inr rfl, hs.1 ⟨hc, hy.elim (fun h => absurd (h.1.symm.trans h3) (by decide)) (fun h => h.2)⟩⟩
          · intro h3
            exact ⟨Or.inl rfl, hs.2 fun q => q.2 (hy.elim (fun h => h.2) (fun h => absurd h.1 h3))⟩
      · intro h1
        have hlt := lp_go hsz hi h1
        have e : (nI i).toNatClampNeg = i := nI_clamp (by omega)
        have hin : vp_in (nI i) 14 := vp_in_nI (by omega) (by decide)
        have go : ∀ z, chP σ s (i + 1) 3 z → ∃ N', N' < 2 * (n - i) ∧ ((45 = 7 ∧ ∃ (i : Nat) (u x y : Int32), i ≤ n ∧ N' = 2 * (n - i) ∧ u = nI i ∧ chP σ s i 3 x ∧ chP σ s i 1 y ∧ [some (HR 11 0), some (HI s), some (HI x), some (HI y), some (HI u)] = [some (HR 11 0), some (HI s), some (HI x), some (HI y), some (HI u)] ∧ [HI z] = [] ∧ w = w ∧ σ = σ) ∨
            (45 = 45 ∧ ∃ (i' : Nat) (x' z' y' : Int32), i' < n ∧ N' = 2 * (n - i') - 1 ∧ chP σ s (i' + 1) 3 z' ∧ chP σ s i' 1 y' ∧ [some (HR 11 0), some (HI s), some (HI x), some (HI y), some (HI (nI i))] = [some (HR 11 0), some (HI s), some (HI x'), some (HI y'), some (HI (nI i'))] ∧ [HI z] = [HI z'] ∧ w = w ∧ σ = σ)) := fun z hz =>
          ⟨2 * (n - i) - 1, by omega, Or.inr ⟨rfl, i, x, z, y, hlt, rfl, hz, hy, rfl, rfl, rfl, rfl⟩⟩
        have go2 : ∀ z, chP σ s (i + 1) 3 z → ∃ N', N' < 2 * (n - i) ∧ ((45 = 7 ∧ ∃ (i' : Nat) (u x' y' : Int32), i' ≤ n ∧ N' = 2 * (n - i') ∧ u = nI i' ∧ chP σ s i' 3 x' ∧ chP σ s i' 1 y' ∧ [some (HR 11 0), some (HI s), some (HI x), some (HI y), some (HI (nI i))] = [some (HR 11 0), some (HI s), some (HI x'), some (HI y'), some (HI u)] ∧ [HI z] = [] ∧ w = w ∧ σ = σ) ∨
            (45 = 45 ∧ ∃ (i' : Nat) (x' z' y' : Int32), i' < n ∧ N' = 2 * (n - i') - 1 ∧ chP σ s (i' + 1) 3 z' ∧ chP σ s i' 1 y' ∧ [some (HR 11 0), some (HI s), some (HI x), some (HI y), some (HI (nI i))] = [some (HR 11 0), some (HI s), some (HI x'), some (HI y'), some (HI (nI i'))] ∧ [HI z] = [HI z'] ∧ w = w ∧ σ = σ)) := fun z hz =>
          ⟨2 * (n - i) - 1, by omega, Or.inr ⟨rfl, i, x, z, y, hlt, rfl, hz, hy, rfl, rfl, rfl, rfl⟩⟩
        apply br2
        · intro h2
          have h0 : x = 0 := h2
          subst h0
          apply br2
          · intro h3
            refine And.intro (fun h => absurd h (by decide)) (fun _ => And.intro hin ?_)
            apply br2
            · intro h4
              have h4 : σ 20 5 (nI i).toNatClampNeg = 3 := h4
              rw [e] at h4
              exact go2 1 (ch_new ⟨h3, h4⟩)
            · intro h4
              have h4 : ¬ σ 20 5 (nI i).toNatClampNeg = 3 := h4
              rw [e] at h4
              exact go2 0 (ch_same hx fun q => h4 q.2)
          · intro h3
            exact And.intro (fun _ => go2 0 (ch_same hx fun q => h3 q.1)) (fun h => absurd rfl h)
        · intro h2
          exact go2 1 (ch_one hx h2)
    · have e : (nI i).toNatClampNeg = i := nI_clamp (by omega)
      have hin : vp_in (nI i) 14 := vp_in_nI (by omega) (by decide)
      have go : ∀ y', chP σ s (i + 1) 1 y' → ∃ N', N' < 2 * (n - i) - 1 ∧ ((7 = 7 ∧ ∃ (i' : Nat) (u x' y'' : Int32), i' ≤ n ∧ N' = 2 * (n - i') ∧ u = nI i' ∧ chP σ s i' 3 x' ∧ chP σ s i' 1 y'' ∧ [some (HR 11 0), some (HI s), some (HI z), some (HI y'), some (HI (nI i + 1))] = [some (HR 11 0), some (HI s), some (HI x'), some (HI y''), some (HI u)] ∧ ([] : List HV) = [] ∧ w = w ∧ σ = σ) ∨
            (7 = 45 ∧ ∃ (i' : Nat) (x' z' y'' : Int32), i' < n ∧ N' = 2 * (n - i') - 1 ∧ chP σ s (i' + 1) 3 z' ∧ chP σ s i' 1 y'' ∧ [some (HR 11 0), some (HI s), some (HI z), some (HI y'), some (HI (nI i + 1))] = [some (HR 11 0), some (HI s), some (HI x'), some (HI y''), some (HI (nI i'))] ∧ ([] : List HV) = [HI z'] ∧ w = w ∧ σ = σ)) := fun y' hy' =>
        ⟨2 * (n - (i + 1)), by omega, Or.inl ⟨rfl, i + 1, _, z, y', hlt, rfl, nI_1 i, hz, hy', rfl, rfl, rfl, rfl⟩⟩
      apply br2
      · intro h2
        have h0 : y = 0 := h2
        subst h0
        apply br2
        · intro h3
          refine And.intro (fun h => absurd h (by decide)) (fun _ => And.intro hin ?_)
          apply br2
          · intro h4
            have h4 : σ 20 5 (nI i).toNatClampNeg = 1 := h4
            rw [e] at h4
            exact go 1 (ch_new ⟨h3, h4⟩)
          · intro h4
            have h4 : ¬ σ 20 5 (nI i).toNatClampNeg = 1 := h4
            rw [e] at h4
            exact go 0 (ch_same hy fun q => h4 q.2)
        · intro h3
          exact And.intro (fun _ => go 0 (ch_same hy fun q => h3 q.1)) (fun h => absurd rfl h)
      · intro h2
        exact go 1 (ch_one hy h2)
  · exact ⟨_, Or.inl ⟨rfl, 0, 0, 0, 0, Nat.zero_le _, rfl, rfl, Or.inr ⟨rfl, fun ⟨v, hv, _⟩ => absurd hv (by omega)⟩, Or.inr ⟨rfl, fun ⟨v, hv, _⟩ => absurd hv (by omega)⟩, rfl, rfl, rfl, rfl⟩⟩
theorem ct_X11_isChildAlone : Ctr yX11_isChildAlone cX11_isChildAlone 5 (some .boolean) 2 0 0 2 sp_X11_isChildAlone := ctr_of (by decide +kernel) rfl (by decide) ok_X11_isChildAlone vc_X11_isChildAlone

