/-! VisitHall.RightReader, without its words -/
abbrev okF (σ : HS) : Prop := σ 5 0 3 = -1
def sp_X5_hasFault : HSp := fun as w σ K => match as with
  | [.inr (.inl (5, some 0))] => spZ (¬ okF σ) w σ K
  | _ => False
theorem dX5_hasFault_0 : decode cX5_hasFault 0 = .ok (.aload_n 0, 1) := by decide +kernel
theorem dX5_hasFault_1 : decode cX5_hasFault 1 = .ok (.getfield 11, 3) := by decide +kernel
theorem dX5_hasFault_4 : decode cX5_hasFault 4 = .ok (.iconst (-1), 1) := by decide +kernel
theorem dX5_hasFault_5 : decode cX5_hasFault 5 = .ok (.if_icmp .eq 7, 3) := by decide +kernel
theorem dX5_hasFault_8 : decode cX5_hasFault 8 = .ok (.iconst 1, 1) := by decide +kernel
theorem dX5_hasFault_9 : decode cX5_hasFault 9 = .ok (.goto 4, 3) := by decide +kernel
theorem dX5_hasFault_12 : decode cX5_hasFault 12 = .ok (.iconst 0, 1) := by decide +kernel
theorem dX5_hasFault_13 : decode cX5_hasFault 13 = .ok (.ireturn, 1) := by decide +kernel
def ins_X5_hasFault (pc : Nat) : HOp := cond (Nat.blt pc 8) (cond (Nat.blt pc 4) (cond (Nat.blt pc 1) (cond (Nat.beq pc 0) (o_aload 0 1) o_bad) (cond (Nat.beq pc 1) (o_getf 5 3 4) o_bad)) (cond (Nat.blt pc 5) (cond (Nat.beq pc 4) (o_const (-1) 5) o_bad) (cond (Nat.beq pc 5) (o_icmp (fun x y => x = y) 12 8) o_bad))) (cond (Nat.blt pc 12) (cond (Nat.blt pc 9) (cond (Nat.beq pc 8) (o_const (1) 9) o_bad) (cond (Nat.beq pc 9) (o_goto 13) o_bad)) (cond (Nat.blt pc 13) (cond (Nat.beq pc 12) (o_const (0) 13) o_bad) (cond (Nat.beq pc 13) (o_zret) o_bad)))
set_option maxRecDepth 20000 in
theorem ok_X5_hasFault : HOKs cX5_hasFault RX5 1 (some .boolean) 1 ins_X5_hasFault := fun _ => hnd (hnd (hnd (hlf (ok_aload_n dX5_hasFault_0 rfl rfl)) (hlf (ok_getf (C := RX5) (T := TX5) dX5_hasFault_1 rfl rfl (by decide) rfl inX5 wd_124 rfl))) (hnd (hlf (ok_iconst dX5_hasFault_4 (by decide) rfl)) (hlf (ok_icmp_eq dX5_hasFault_5 (by decide) rfl)))) (hnd (hnd (hlf (ok_iconst dX5_hasFault_8 (by decide) rfl)) (hlf (ok_goto dX5_hasFault_9 (by decide)))) (hnd (hlf (ok_iconst dX5_hasFault_12 (by decide) rfl)) (hlf (ok_zret dX5_hasFault_13))))

theorem vc_X5_hasFault : MVC ins_X5_hasFault 1 1 sp_X5_hasFault := by
  refine mvc0 30 fun as w σ q hl hs => ?_
  unfold sp_X5_hasFault at hs
  split at hs
  rotate_left
  · exact hs.elim
  exact And.intro (fun h => ⟨Or.inl rfl, hs.2 fun z => z h⟩) (fun h => ⟨Or.inr rfl, hs.1 h⟩)
theorem ct_X5_hasFault : Ctr yX5_hasFault cX5_hasFault 1 (some .boolean) 1 0 0 1 sp_X5_hasFault := ctr_of (by decide +kernel) rfl (by decide) ok_X5_hasFault vc_X5_hasFault

def sp_X5_refuse : HSp := fun as w σ K => match as with
  | [.inr (.inl (5, some 0))] => (okF σ → K none w (up3 σ 5 0 3 (σ 5 0 1))) ∧ (¬ okF σ → K none w σ)
  | _ => False
theorem dX5_refuse_0 : decode cX5_refuse 0 = .ok (.aload_n 0, 1) := by decide +kernel
theorem dX5_refuse_1 : decode cX5_refuse 1 = .ok (.invokevirtual 90, 3) := by decide +kernel
theorem dX5_refuse_4 : decode cX5_refuse 4 = .ok (.ifCond .ne 11, 3) := by decide +kernel
theorem dX5_refuse_7 : decode cX5_refuse 7 = .ok (.aload_n 0, 1) := by decide +kernel
theorem dX5_refuse_8 : decode cX5_refuse 8 = .ok (.aload_n 0, 1) := by decide +kernel
theorem dX5_refuse_9 : decode cX5_refuse 9 = .ok (.getfield 19, 3) := by decide +kernel
theorem dX5_refuse_12 : decode cX5_refuse 12 = .ok (.putfield 11, 3) := by decide +kernel
theorem dX5_refuse_15 : decode cX5_refuse 15 = .ok (.return_, 1) := by decide +kernel
def ins_X5_refuse (pc : Nat) : HOp := cond (Nat.blt pc 8) (cond (Nat.blt pc 4) (cond (Nat.blt pc 1) (cond (Nat.beq pc 0) (o_aload 0 1) o_bad) (cond (Nat.beq pc 1) (o_callV 1 5 sp_X5_hasFault 4) o_bad)) (cond (Nat.blt pc 7) (cond (Nat.beq pc 4) (o_if (fun x => x = 0) 7 15) o_bad) (cond (Nat.beq pc 7) (o_aload 0 8) o_bad))) (cond (Nat.blt pc 12) (cond (Nat.blt pc 9) (cond (Nat.beq pc 8) (o_aload 0 9) o_bad) (cond (Nat.beq pc 9) (o_getf 5 1 12) o_bad)) (cond (Nat.blt pc 15) (cond (Nat.beq pc 12) (o_putf 5 3 15) o_bad) (cond (Nat.beq pc 15) (o_vret) o_bad)))
set_option maxRecDepth 20000 in
theorem ok_X5_refuse : HOKs cX5_refuse RX5 1 none 2 ins_X5_refuse := fun _ => hnd (hnd (hnd (hlf (ok_aload_n dX5_refuse_0 rfl rfl)) (hlf (ok_callV (y := yX5_hasFault) (n' := 0) (C := RX5) (T := TX5) dX5_refuse_1 ct_X5_hasFault (by decide) (by decide) wd_626 wd_623 wd_624 wd_625 wd_44 rfl (by decide +kernel) rfl rfl rfl))) (hnd (hlf (ok_if_ne dX5_refuse_4 (by decide) rfl)) (hlf (ok_aload_n dX5_refuse_7 rfl rfl)))) (hnd (hnd (hlf (ok_aload_n dX5_refuse_8 rfl rfl)) (hlf (ok_getf (C := RX5) (T := TX5) dX5_refuse_9 rfl rfl (by decide) rfl inX5 wd_122 rfl))) (hnd (hlf (ok_putf (C := RX5) (T := TX5) dX5_refuse_12 rfl rfl (by decide) rfl inX5 tyX5_ok nmX5 rfl rfl (fun _ _ => rfl) wd_124 rfl)) (hlf (ok_vret dX5_refuse_15))))

theorem vc_X5_refuse : MVC ins_X5_refuse 1 1 sp_X5_refuse := by
  refine mvc0 30 fun as w σ q hl hs => ?_
  unfold sp_X5_refuse at hs
  split at hs
  rotate_left
  · exact hs.elim
  apply br2
  · intro h
    exact And.intro (fun h => absurd h (by decide)) (fun _ => hs.2 h)
  · intro h
    refine And.intro (fun _ => hs.1 (Classical.not_not.mp h)) (fun h => absurd rfl h)
theorem ct_X5_refuse : Ctr yX5_refuse cX5_refuse 1 none 2 0 0 1 sp_X5_refuse := ctr_of (by decide +kernel) rfl (by decide) ok_X5_refuse vc_X5_refuse

def nxC (σ : HS) (a b : Nat) : HS := up3 (up3 σ 5 0 1 (nI a)) 5 0 2 (nI b)
def sp_X5_next : HSp := fun as w σ K => match as with
  | [.inr (.inl (5, some 0))] => (¬ okF σ → K none w σ) ∧ (okF σ → ∃ T e z, σ 12 0 = T ∧ e ≤ z ∧ z ≤ 60 ∧ σ 5 0 2 = nI e ∧ σ 8 0 1 = nI z ∧ K none w (nxC σ (wA T z e) (we T z e)))
  | _ => False
theorem dX5_next_0 : decode cX5_next 0 = .ok (.aload_n 0, 1) := by decide +kernel
theorem dX5_next_1 : decode cX5_next 1 = .ok (.invokevirtual 90, 3) := by decide +kernel
theorem dX5_next_4 : decode cX5_next 4 = .ok (.ifCond .eq 4, 3) := by decide +kernel
theorem dX5_next_7 : decode cX5_next 7 = .ok (.return_, 1) := by decide +kernel
theorem dX5_next_8 : decode cX5_next 8 = .ok (.aload_n 0, 1) := by decide +kernel
theorem dX5_next_9 : decode cX5_next 9 = .ok (.aload_n 0, 1) := by decide +kernel
theorem dX5_next_10 : decode cX5_next 10 = .ok (.getfield 22, 3) := by decide +kernel
theorem dX5_next_13 : decode cX5_next 13 = .ok (.putfield 19, 3) := by decide +kernel
theorem dX5_next_16 : decode cX5_next 16 = .ok (.aload_n 0, 1) := by decide +kernel
theorem dX5_next_17 : decode cX5_next 17 = .ok (.getfield 19, 3) := by decide +kernel
theorem dX5_next_20 : decode cX5_next 20 = .ok (.aload_n 0, 1) := by decide +kernel
theorem dX5_next_21 : decode cX5_next 21 = .ok (.getfield 15, 3) := by decide +kernel
theorem dX5_next_24 : decode cX5_next 24 = .ok (.getfield 57, 3) := by decide +kernel
theorem dX5_next_27 : decode cX5_next 27 = .ok (.if_icmp .ge 33, 3) := by decide +kernel
theorem dX5_next_30 : decode cX5_next 30 = .ok (.aload_n 0, 1) := by decide +kernel
theorem dX5_next_31 : decode cX5_next 31 = .ok (.getfield 15, 3) := by decide +kernel
theorem dX5_next_34 : decode cX5_next 34 = .ok (.getfield 94, 3) := by decide +kernel
theorem dX5_next_37 : decode cX5_next 37 = .ok (.aload_n 0, 1) := by decide +kernel
theorem dX5_next_38 : decode cX5_next 38 = .ok (.getfield 19, 3) := by decide +kernel
theorem dX5_next_41 : decode cX5_next 41 = .ok (.baload, 1) := by decide +kernel
theorem dX5_next_42 : decode cX5_next 42 = .ok (.bipush 32, 2) := by decide +kernel
theorem dX5_next_44 : decode cX5_next 44 = .ok (.if_icmp .ne 16, 3) := by decide +kernel
theorem dX5_next_47 : decode cX5_next 47 = .ok (.aload_n 0, 1) := by decide +kernel
theorem dX5_next_48 : decode cX5_next 48 = .ok (.dup, 1) := by decide +kernel
theorem dX5_next_49 : decode cX5_next 49 = .ok (.getfield 19, 3) := by decide +kernel
theorem dX5_next_52 : decode cX5_next 52 = .ok (.iconst 1, 1) := by decide +kernel
theorem dX5_next_53 : decode cX5_next 53 = .ok (.iadd, 1) := by decide +kernel
theorem dX5_next_54 : decode cX5_next 54 = .ok (.putfield 19, 3) := by decide +kernel
theorem dX5_next_57 : decode cX5_next 57 = .ok (.goto (-41), 3) := by decide +kernel
theorem dX5_next_60 : decode cX5_next 60 = .ok (.aload_n 0, 1) := by decide +kernel
theorem dX5_next_61 : decode cX5_next 61 = .ok (.aload_n 0, 1) := by decide +kernel
theorem dX5_next_62 : decode cX5_next 62 = .ok (.getfield 19, 3) := by decide +kernel
theorem dX5_next_65 : decode cX5_next 65 = .ok (.putfield 22, 3) := by decide +kernel
theorem dX5_next_68 : decode cX5_next 68 = .ok (.aload_n 0, 1) := by decide +kernel
theorem dX5_next_69 : decode cX5_next 69 = .ok (.getfield 22, 3) := by decide +kernel
theorem dX5_next_72 : decode cX5_next 72 = .ok (.aload_n 0, 1) := by decide +kernel
theorem dX5_next_73 : decode cX5_next 73 = .ok (.getfield 15, 3) := by decide +kernel
theorem dX5_next_76 : decode cX5_next 76 = .ok (.getfield 57, 3) := by decide +kernel
theorem dX5_next_79 : decode cX5_next 79 = .ok (.if_icmp .ge 33, 3) := by decide +kernel
theorem dX5_next_82 : decode cX5_next 82 = .ok (.aload_n 0, 1) := by decide +kernel
theorem dX5_next_83 : decode cX5_next 83 = .ok (.getfield 15, 3) := by decide +kernel
theorem dX5_next_86 : decode cX5_next 86 = .ok (.getfield 94, 3) := by decide +kernel
theorem dX5_next_89 : decode cX5_next 89 = .ok (.aload_n 0, 1) := by decide +kernel
theorem dX5_next_90 : decode cX5_next 90 = .ok (.getfield 22, 3) := by decide +kernel
theorem dX5_next_93 : decode cX5_next 93 = .ok (.baload, 1) := by decide +kernel
theorem dX5_next_94 : decode cX5_next 94 = .ok (.bipush 32, 2) := by decide +kernel
theorem dX5_next_96 : decode cX5_next 96 = .ok (.if_icmp .eq 16, 3) := by decide +kernel
theorem dX5_next_99 : decode cX5_next 99 = .ok (.aload_n 0, 1) := by decide +kernel
theorem dX5_next_100 : decode cX5_next 100 = .ok (.dup, 1) := by decide +kernel
theorem dX5_next_101 : decode cX5_next 101 = .ok (.getfield 22, 3) := by decide +kernel
theorem dX5_next_104 : decode cX5_next 104 = .ok (.iconst 1, 1) := by decide +kernel
theorem dX5_next_105 : decode cX5_next 105 = .ok (.iadd, 1) := by decide +kernel
theorem dX5_next_106 : decode cX5_next 106 = .ok (.putfield 22, 3) := by decide +kernel
theorem dX5_next_109 : decode cX5_next 109 = .ok (.goto (-41), 3) := by decide +kernel
theorem dX5_next_112 : decode cX5_next 112 = .ok (.return_, 1) := by decide +kernel
def ins_X5_next (pc : Nat) : HOp := cond (Nat.blt pc 54) (cond (Nat.blt pc 27) (cond (Nat.blt pc 10) (cond (Nat.blt pc 7) (cond (Nat.blt pc 1) (cond (Nat.beq pc 0) (o_aload 0 1) o_bad) (cond (Nat.blt pc 4) (cond (Nat.beq pc 1) (o_callV 1 5 sp_X5_hasFault 4) o_bad) (cond (Nat.beq pc 4) (o_if (fun x => x = 0) 8 7) o_bad))) (cond (Nat.blt pc 8) (cond (Nat.beq pc 7) (o_vret) o_bad) (cond (Nat.blt pc 9) (cond (Nat.beq pc 8) (o_aload 0 9) o_bad) (cond (Nat.beq pc 9) (o_aload 0 10) o_bad)))) (cond (Nat.blt pc 17) (cond (Nat.blt pc 13) (cond (Nat.beq pc 10) (o_getf 5 2 13) o_bad) (cond (Nat.blt pc 16) (cond (Nat.beq pc 13) (o_putf 5 1 16) o_bad) (cond (Nat.beq pc 16) (o_aload 0 17) o_bad))) (cond (Nat.blt pc 21) (cond (Nat.blt pc 20) (cond (Nat.beq pc 17) (o_getf 5 1 20) o_bad) (cond (Nat.beq pc 20) (o_aload 0 21) o_bad)) (cond (Nat.blt pc 24) (cond (Nat.beq pc 21) (o_getf 5 0 24) o_bad) (cond (Nat.beq pc 24) (o_getf 8 1 27) o_bad))))) (cond (Nat.blt pc 42) (cond (Nat.blt pc 34) (cond (Nat.blt pc 30) (cond (Nat.beq pc 27) (o_icmp (fun x y => y ≤ x) 60 30) o_bad) (cond (Nat.blt pc 31) (cond (Nat.beq pc 30) (o_aload 0 31) o_bad) (cond (Nat.beq pc 31) (o_getf 5 0 34) o_bad))) (cond (Nat.blt pc 38) (cond (Nat.blt pc 37) (cond (Nat.beq pc 34) (o_getf 8 0 37) o_bad) (cond (Nat.beq pc 37) (o_aload 0 38) o_bad)) (cond (Nat.blt pc 41) (cond (Nat.beq pc 38) (o_getf 5 1 41) o_bad) (cond (Nat.beq pc 41) (o_bald 42) o_bad)))) (cond (Nat.blt pc 48) (cond (Nat.blt pc 44) (cond (Nat.beq pc 42) (o_const (32) 44) o_bad) (cond (Nat.blt pc 47) (cond (Nat.beq pc 44) (o_icmp (fun x y => x = y) 47 60) o_bad) (cond (Nat.beq pc 47) (o_aload 0 48) o_bad))) (cond (Nat.blt pc 52) (cond (Nat.blt pc 49) (cond (Nat.beq pc 48) (o_dup 49) o_bad) (cond (Nat.beq pc 49) (o_getf 5 1 52) o_bad)) (cond (Nat.blt pc 53) (cond (Nat.beq pc 52) (o_const (1) 53) o_bad) (cond (Nat.beq pc 53) (o_bin (fun x y => x + y) 54) o_bad)))))) (cond (Nat.blt pc 86) (cond (Nat.blt pc 69) (cond (Nat.blt pc 61) (cond (Nat.blt pc 57) (cond (Nat.beq pc 54) (o_putf 5 1 57) o_bad) (cond (Nat.blt pc 60) (cond (Nat.beq pc 57) (o_goto 16) o_bad) (cond (Nat.beq pc 60) (o_aload 0 61) o_bad))) (cond (Nat.blt pc 65) (cond (Nat.blt pc 62) (cond (Nat.beq pc 61) (o_aload 0 62) o_bad) (cond (Nat.beq pc 62) (o_getf 5 1 65) o_bad)) (cond (Nat.blt pc 68) (cond (Nat.beq pc 65) (o_putf 5 2 68) o_bad) (cond (Nat.beq pc 68) (o_aload 0 69) o_bad)))) (cond (Nat.blt pc 76) (cond (Nat.blt pc 72) (cond (Nat.beq pc 69) (o_getf 5 2 72) o_bad) (cond (Nat.blt pc 73) (cond (Nat.beq pc 72) (o_aload 0 73) o_bad) (cond (Nat.beq pc 73) (o_getf 5 0 76) o_bad))) (cond (Nat.blt pc 82) (cond (Nat.blt pc 79) (cond (Nat.beq pc 76) (o_getf 8 1 79) o_bad) (cond (Nat.beq pc 79) (o_icmp (fun x y => y ≤ x) 112 82) o_bad)) (cond (Nat.blt pc 83) (cond (Nat.beq pc 82) (o_aload 0 83) o_bad) (cond (Nat.beq pc 83) (o_getf 5 0 86) o_bad))))) (cond (Nat.blt pc 100) (cond (Nat.blt pc 93) (cond (Nat.blt pc 89) (cond (Nat.beq pc 86) (o_getf 8 0 89) o_bad) (cond (Nat.blt pc 90) (cond (Nat.beq pc 89) (o_aload 0 90) o_bad) (cond (Nat.beq pc 90) (o_getf 5 2 93) o_bad))) (cond (Nat.blt pc 96) (cond (Nat.blt pc 94) (cond (Nat.beq pc 93) (o_bald 94) o_bad) (cond (Nat.beq pc 94) (o_const (32) 96) o_bad)) (cond (Nat.blt pc 99) (cond (Nat.beq pc 96) (o_icmp (fun x y => x = y) 112 99) o_bad) (cond (Nat.beq pc 99) (o_aload 0 100) o_bad)))) (cond (Nat.blt pc 105) (cond (Nat.blt pc 101) (cond (Nat.beq pc 100) (o_dup 101) o_bad) (cond (Nat.blt pc 104) (cond (Nat.beq pc 101) (o_getf 5 2 104) o_bad) (cond (Nat.beq pc 104) (o_const (1) 105) o_bad))) (cond (Nat.blt pc 109) (cond (Nat.blt pc 106) (cond (Nat.beq pc 105) (o_bin (fun x y => x + y) 106) o_bad) (cond (Nat.beq pc 106) (o_putf 5 2 109) o_bad)) (cond (Nat.blt pc 112) (cond (Nat.beq pc 109) (o_goto 68) o_bad) (cond (Nat.beq pc 112) (o_vret) o_bad))))))
set_option maxRecDepth 20000 in
theorem ok_X5_next : HOKs cX5_next RX5 1 none 2 ins_X5_next := fun _ => hnd (hnd (hnd (hnd (hnd (hlf (ok_aload_n dX5_next_0 rfl rfl)) (hnd (hlf (ok_callV (y := yX5_hasFault) (n' := 0) (C := RX5) (T := TX5) dX5_next_1 ct_X5_hasFault (by decide) (by decide) wd_626 wd_623 wd_624 wd_625 wd_44 rfl (by decide +kernel) rfl rfl rfl)) (hlf (ok_if_eq dX5_next_4 (by decide) rfl)))) (hnd (hlf (ok_vret dX5_next_7)) (hnd (hlf (ok_aload_n dX5_next_8 rfl rfl)) (hlf (ok_aload_n dX5_next_9 rfl rfl))))) (hnd (hnd (hlf (ok_getf (C := RX5) (T := TX5) dX5_next_10 rfl rfl (by decide) rfl inX5 wd_123 rfl)) (hnd (hlf (ok_putf (C := RX5) (T := TX5) dX5_next_13 rfl rfl (by decide) rfl inX5 tyX5_ok nmX5 rfl rfl (fun _ _ => rfl) wd_122 rfl)) (hlf (ok_aload_n dX5_next_16 rfl rfl)))) (hnd (hnd (hlf (ok_getf (C := RX5) (T := TX5) dX5_next_17 rfl rfl (by decide) rfl inX5 wd_122 rfl)) (hlf (ok_aload_n dX5_next_20 rfl rfl))) (hnd (hlf (ok_getf (C := RX5) (T := TX5) dX5_next_21 rfl rfl (by decide) rfl inX5 wd_121 rfl)) (hlf (ok_getfN (C := RX8) (T := TX8) dX5_next_24 rfl rfl (by decide) rfl inX8 wd_107 rfl)))))) (hnd (hnd (hnd (hlf (ok_icmp_ge dX5_next_27 (by decide) rfl)) (hnd (hlf (ok_aload_n dX5_next_30 rfl rfl)) (hlf (ok_getf (C := RX5) (T := TX5) dX5_next_31 rfl rfl (by decide) rfl inX5 wd_121 rfl)))) (hnd (hnd (hlf (ok_getfN (C := RX8) (T := TX8) dX5_next_34 rfl rfl (by decide) rfl inX8 wd_105 rfl)) (hlf (ok_aload_n dX5_next_37 rfl rfl))) (hnd (hlf (ok_getf (C := RX5) (T := TX5) dX5_next_38 rfl rfl (by decide) rfl inX5 wd_122 rfl)) (hlf (ok_bald dX5_next_41 rfl))))) (hnd (hnd (hlf (ok_bipush dX5_next_42 (by decide) rfl)) (hnd (hlf (ok_icmp_ne dX5_next_44 (by decide) rfl)) (hlf (ok_aload_n dX5_next_47 rfl rfl)))) (hnd (hnd (hlf (ok_dup dX5_next_48 rfl)) (hlf (ok_getf (C := RX5) (T := TX5) dX5_next_49 rfl rfl (by decide) rfl inX5 wd_122 rfl))) (hnd (hlf (ok_iconst dX5_next_52 (by decide) rfl)) (hlf (ok_iadd dX5_next_53 rfl))))))) (hnd (hnd (hnd (hnd (hlf (ok_putf (C := RX5) (T := TX5) dX5_next_54 rfl rfl (by decide) rfl inX5 tyX5_ok nmX5 rfl rfl (fun _ _ => rfl) wd_122 rfl)) (hnd (hlf (ok_goto dX5_next_57 (by decide))) (hlf (ok_aload_n dX5_next_60 rfl rfl)))) (hnd (hnd (hlf (ok_aload_n dX5_next_61 rfl rfl)) (hlf (ok_getf (C := RX5) (T := TX5) dX5_next_62 rfl rfl (by decide) rfl inX5 wd_122 rfl))) (hnd (hlf (ok_putf (C := RX5) (T := TX5) dX5_next_65 rfl rfl (by decide) rfl inX5 tyX5_ok nmX5 rfl rfl (fun _ _ => rfl) wd_123 rfl)) (hlf (ok_aload_n dX5_next_68 rfl rfl))))) (hnd (hnd (hlf (ok_getf (C := RX5) (T := TX5) dX5_next_69 rfl rfl (by decide) rfl inX5 wd_123 rfl)) (hnd (hlf (ok_aload_n dX5_next_72 rfl rfl)) (hlf (ok_getf (C := RX5) (T := TX5) dX5_next_73 rfl rfl (by decide) rfl inX5 wd_121 rfl)))) (hnd (hnd (hlf (ok_getfN (C := RX8) (T := TX8) dX5_next_76 rfl rfl (by decide) rfl inX8 wd_107 rfl)) (hlf (ok_icmp_ge dX5_next_79 (by decide) rfl))) (hnd (hlf (ok_aload_n dX5_next_82 rfl rfl)) (hlf (ok_getf (C := RX5) (T := TX5) dX5_next_83 rfl rfl (by decide) rfl inX5 wd_121 rfl)))))) (hnd (hnd (hnd (hlf (ok_getfN (C := RX8) (T := TX8) dX5_next_86 rfl rfl (by decide) rfl inX8 wd_105 rfl)) (hnd (hlf (ok_aload_n dX5_next_89 rfl rfl)) (hlf (ok_getf (C := RX5) (T := TX5) dX5_next_90 rfl rfl (by decide) rfl inX5 wd_123 rfl)))) (hnd (hnd (hlf (ok_bald dX5_next_93 rfl)) (hlf (ok_bipush dX5_next_94 (by decide) rfl))) (hnd (hlf (ok_icmp_eq dX5_next_96 (by decide) rfl)) (hlf (ok_aload_n dX5_next_99 rfl rfl))))) (hnd (hnd (hlf (ok_dup dX5_next_100 rfl)) (hnd (hlf (ok_getf (C := RX5) (T := TX5) dX5_next_101 rfl rfl (by decide) rfl inX5 wd_123 rfl)) (hlf (ok_iconst dX5_next_104 (by decide) rfl)))) (hnd (hnd (hlf (ok_iadd dX5_next_105 rfl)) (hlf (ok_putf (C := RX5) (T := TX5) dX5_next_106 rfl rfl (by decide) rfl inX5 tyX5_ok nmX5 rfl rfl (fun _ _ => rfl) wd_123 rfl))) (hnd (hlf (ok_goto dX5_next_109 (by decide))) (hlf (ok_vret dX5_next_112)))))))

set_option maxHeartbeats 1000000 in
theorem vc_X5_next : MVC ins_X5_next 1 1 sp_X5_next := by
  intro as w σ q hl hs
  unfold sp_X5_next at hs
  split at hs
  rotate_left
  · exact hs.elim
  by_cases hF : okF σ
  rotate_left
  · refine ⟨fun _ => false, fun _ _ _ _ _ _ => False, 0, 60, fun _ _ _ _ _ _ h _ => (Bool.false_ne_true h).elim, ?_⟩
    apply br2
    · intro h
      exact And.intro (fun h => absurd h (by decide)) (fun _ => hs.1 hF)
    · intro h
      exact absurd hF h
  obtain ⟨T, e, z, hTT, hez, hz, he, hsz, hq⟩ := hs.2 hF
  subst hTT
  clear hs
  obtain ⟨A, hA⟩ : ∃ A, A = wA (σ 12 0) z e := ⟨_, rfl⟩
  obtain ⟨B, hB⟩ : ∃ B, B = wE (σ 12 0) z A := ⟨_, rfl⟩
  unfold we at hq
  rw [← hA, ← hB] at hq
  have hAz := wA_le (T := σ 12 0) hez
  rw [← hA] at hAz
  refine ⟨fun pc => Nat.beq pc 16 || Nat.beq pc 68, fun pc N ls st w' σ' => ls = [some (HR 5 0)] ∧ st = [] ∧ w = w' ∧
    ((pc = 16 ∧ ∃ i, i ≤ z ∧ N = 1000 + (z - i) ∧ σ' = up3 σ 5 0 1 (nI i) ∧ wA (σ 12 0) z i = A) ∨
     (pc = 68 ∧ ∃ i, A ≤ i ∧ i ≤ z ∧ N = z - i ∧ σ' = nxC σ A i ∧ wE (σ 12 0) z i = B)), 60, 60, ?_, ?_⟩
  · rintro N pc ls st w' σ' hh ⟨rfl, rfl, rfl, (⟨rfl, i, hi, rfl, rfl, hr⟩ | ⟨rfl, i, hAi, hi, rfl, rfl, hr⟩)⟩
    · have e20 : up3 σ 5 0 1 (nI i) 8 0 1 = nI z := by rw [up3_o (by omega)]; exact hsz
      have e33 : up3 σ 5 0 1 (nI i) 5 0 1 = nI i := up3_v
      have ex : A = i → ∃ N', N' < 1000 + (z - i) ∧ [some (HR 5 0)] = [some (HR 5 0)] ∧ ([] : List HV) = [] ∧ w = w ∧ ((68 = 16 ∧ ∃ i2, i2 ≤ z ∧ N' = 1000 + (z - i2) ∧ up3 (up3 σ 5 0 1 (nI i)) 5 0 2 (up3 σ 5 0 1 (nI i) 5 0 1) = up3 σ 5 0 1 (nI i2) ∧ wA (σ 12 0) z i2 = A) ∨ (68 = 68 ∧ ∃ i2, A ≤ i2 ∧ i2 ≤ z ∧ N' = z - i2 ∧ up3 (up3 σ 5 0 1 (nI i)) 5 0 2 (up3 σ 5 0 1 (nI i) 5 0 1) = nxC σ A i2 ∧ wE (σ 12 0) z i2 = B)) := fun h => by
        refine ⟨z - i, by omega, rfl, rfl, rfl, Or.inr ⟨rfl, i, by omega, hi, rfl, ?_, by rw [← h, hB]⟩⟩
        rw [up3_v, h]
        rfl
      apply br2
      · intro h1
        have h1 : up3 σ 5 0 1 (nI i) 8 0 1 ≤ up3 σ 5 0 1 (nI i) 5 0 1 := h1
        rw [e33] at h1
        obtain rfl := lp_end e20 hi h1
        exact ex (by rw [← hr]; exact run_z)
      intro h1
      have h1 : ¬ up3 σ 5 0 1 (nI i) 8 0 1 ≤ up3 σ 5 0 1 (nI i) 5 0 1 := h1
      rw [e33] at h1
      have hlt := lp_go e20 hi h1
      have et : up3 σ 5 0 1 (nI i) 12 0 (up3 σ 5 0 1 (nI i) 5 0 1).toNatClampNeg = σ 12 0 i := by rw [e33, nI_clamp (by omega), up3_o (by omega)]
      refine And.intro (by rw [e33]; exact vp_in_nI (N := 60) (by omega) (by decide)) ?_
      apply br2
      · intro h2
        have h2 : up3 σ 5 0 1 (nI i) 12 0 (up3 σ 5 0 1 (nI i) 5 0 1).toNatClampNeg = 32 := h2
        rw [et] at h2
        refine ⟨1000 + (z - (i + 1)), by omega, rfl, rfl, rfl, Or.inl ⟨rfl, i + 1, hlt, rfl, ?_, ?_⟩⟩
        · rw [e33, up3_2]
          congr 1
          exact nI_1 i
        · rw [← hr]
          exact (run_y hlt (decide_eq_true h2)).symm
      · intro h2
        have h2 : ¬ up3 σ 5 0 1 (nI i) 12 0 (up3 σ 5 0 1 (nI i) 5 0 1).toNatClampNeg = 32 := h2
        rw [et] at h2
        exact ex (by rw [← hr]; exact run_n hlt (decide_eq_false h2))
    · obtain ⟨σ1, hσ⟩ : ∃ σ1, σ1 = nxC σ A i := ⟨_, rfl⟩
      rw [← hσ]
      have e20 : σ1 8 0 1 = nI z := by rw [hσ]; unfold nxC; rw [up3_o (by omega), up3_o (by omega)]; exact hsz
      have e33 : σ1 5 0 2 = nI i := by rw [hσ]; exact up3_v
      have eT : ∀ j, σ1 12 0 j = σ 12 0 j := fun j => by rw [hσ]; unfold nxC; rw [up3_o (by omega), up3_o (by omega)]
      have ex : B = i → q none w σ1 := fun h => by
        rw [hσ, ← h]
        exact hq
      apply br2
      · intro h1
        have h1 : σ1 8 0 1 ≤ σ1 5 0 2 := h1
        rw [e33] at h1
        obtain rfl := lp_end e20 hi h1
        exact ex (by rw [← hr]; exact run_z)
      intro h1
      have h1 : ¬ σ1 8 0 1 ≤ σ1 5 0 2 := h1
      rw [e33] at h1
      have hlt := lp_go e20 hi h1
      have et : σ1 12 0 (σ1 5 0 2).toNatClampNeg = σ 12 0 i := by rw [e33, nI_clamp (by omega), eT]
      refine And.intro (by rw [e33]; exact vp_in_nI (N := 60) (by omega) (by decide)) ?_
      apply br2
      · intro h2
        have h2 : σ1 12 0 (σ1 5 0 2).toNatClampNeg = 32 := h2
        rw [et] at h2
        exact ex (by rw [← hr]; exact run_n hlt (decide_eq_false fun z => z h2))
      · intro h2
        have h2 : ¬ σ1 12 0 (σ1 5 0 2).toNatClampNeg = 32 := h2
        rw [et] at h2
        refine ⟨z - (i + 1), by omega, rfl, rfl, rfl, Or.inr ⟨rfl, i + 1, by omega, hlt, rfl, ?_, ?_⟩⟩
        · rw [e33, hσ]
          unfold nxC
          rw [up3_2]
          congr 1
          exact nI_1 i
        · rw [← hr]
          exact (run_y hlt (decide_eq_true h2)).symm
  · refine And.intro (fun h => absurd hF h) (fun _ => ?_)
    refine And.intro (fun _ => ?_) (fun h => absurd rfl h)
    exact ⟨1000 + (z - e), rfl, rfl, rfl, Or.inl ⟨rfl, e, hez, rfl, by rw [he], hA.symm⟩⟩
theorem ct_X5_next : Ctr yX5_next cX5_next 1 none 2 0 0 1 sp_X5_next := ctr_of (by decide +kernel) rfl (by decide) ok_X5_next vc_X5_next

theorem dg_i {t : Int32} : (0 ≤ t - 48 ∧ t - 48 < 10) ↔ (¬ t < 48 ∧ ¬ 57 < t) := by
  constructor
  · intro h
    obtain ⟨i, hi, e⟩ := in_of (n := 10) h
    have e2 : t = nI (i + 48) := by
      rw [← nI_add, ← e]
      show t = t - 48 + 48
      rw [Int32.sub_add_cancel]
    rw [e2]
    exact ⟨nI_nlt (b := 48) (by omega) (by omega), nI_nlt (a := 57) (by omega) (by omega)⟩
  · intro h
    obtain ⟨j, hj, rfl⟩ := in_of (n := 58) (x := t) ⟨Int32.le_trans (by decide) (Int32.not_lt.mp h.1), Int32.lt_of_le_of_lt (Int32.not_lt.mp h.2) (by decide)⟩
    have hj2 : 48 ≤ j := by
      rcases Nat.lt_or_ge j 48 with y | y
      · exact absurd (nI_lt (b := 48) y (by omega)) h.1
      · exact y
    rw [show (48 : Int32) = nI 48 from rfl, pk_sub hj2]
    exact ⟨nI_pos' (by omega), nI_lt (b := 10) (by omega) (by omega)⟩
def sp_X5_wordAsNumber : HSp := fun as w σ K => match as with
  | [.inr (.inl (5, some 0))] => ∃ a b, a ≤ b ∧ b ≤ 60 ∧ σ 5 0 1 = nI a ∧ σ 5 0 2 = nI b ∧ K (some (HI (num (σ 12 0) a b))) w σ
  | _ => False
theorem dX5_wordAsNumber_0 : decode cX5_wordAsNumber 0 = .ok (.aload_n 0, 1) := by decide +kernel
theorem dX5_wordAsNumber_1 : decode cX5_wordAsNumber 1 = .ok (.getfield 19, 3) := by decide +kernel
theorem dX5_wordAsNumber_4 : decode cX5_wordAsNumber 4 = .ok (.aload_n 0, 1) := by decide +kernel
theorem dX5_wordAsNumber_5 : decode cX5_wordAsNumber 5 = .ok (.getfield 22, 3) := by decide +kernel
theorem dX5_wordAsNumber_8 : decode cX5_wordAsNumber 8 = .ok (.if_icmp .ne 5, 3) := by decide +kernel
theorem dX5_wordAsNumber_11 : decode cX5_wordAsNumber 11 = .ok (.iconst (-1), 1) := by decide +kernel
theorem dX5_wordAsNumber_12 : decode cX5_wordAsNumber 12 = .ok (.ireturn, 1) := by decide +kernel
theorem dX5_wordAsNumber_13 : decode cX5_wordAsNumber 13 = .ok (.iconst 0, 1) := by decide +kernel
theorem dX5_wordAsNumber_14 : decode cX5_wordAsNumber 14 = .ok (.istore_n 1, 1) := by decide +kernel
theorem dX5_wordAsNumber_15 : decode cX5_wordAsNumber 15 = .ok (.aload_n 0, 1) := by decide +kernel
theorem dX5_wordAsNumber_16 : decode cX5_wordAsNumber 16 = .ok (.getfield 19, 3) := by decide +kernel
theorem dX5_wordAsNumber_19 : decode cX5_wordAsNumber 19 = .ok (.istore_n 2, 1) := by decide +kernel
theorem dX5_wordAsNumber_20 : decode cX5_wordAsNumber 20 = .ok (.iload_n 2, 1) := by decide +kernel
theorem dX5_wordAsNumber_21 : decode cX5_wordAsNumber 21 = .ok (.aload_n 0, 1) := by decide +kernel
theorem dX5_wordAsNumber_22 : decode cX5_wordAsNumber 22 = .ok (.getfield 22, 3) := by decide +kernel
theorem dX5_wordAsNumber_25 : decode cX5_wordAsNumber 25 = .ok (.if_icmp .ge 46, 3) := by decide +kernel
theorem dX5_wordAsNumber_28 : decode cX5_wordAsNumber 28 = .ok (.aload_n 0, 1) := by decide +kernel
theorem dX5_wordAsNumber_29 : decode cX5_wordAsNumber 29 = .ok (.getfield 15, 3) := by decide +kernel
theorem dX5_wordAsNumber_32 : decode cX5_wordAsNumber 32 = .ok (.getfield 94, 3) := by decide +kernel
theorem dX5_wordAsNumber_35 : decode cX5_wordAsNumber 35 = .ok (.iload_n 2, 1) := by decide +kernel
theorem dX5_wordAsNumber_36 : decode cX5_wordAsNumber 36 = .ok (.baload, 1) := by decide +kernel
theorem dX5_wordAsNumber_37 : decode cX5_wordAsNumber 37 = .ok (.bipush 48, 2) := by decide +kernel
theorem dX5_wordAsNumber_39 : decode cX5_wordAsNumber 39 = .ok (.isub, 1) := by decide +kernel
theorem dX5_wordAsNumber_40 : decode cX5_wordAsNumber 40 = .ok (.istore_n 3, 1) := by decide +kernel
theorem dX5_wordAsNumber_41 : decode cX5_wordAsNumber 41 = .ok (.iload_n 3, 1) := by decide +kernel
theorem dX5_wordAsNumber_42 : decode cX5_wordAsNumber 42 = .ok (.bipush 10, 2) := by decide +kernel
theorem dX5_wordAsNumber_44 : decode cX5_wordAsNumber 44 = .ok (.invokestatic 111, 3) := by decide +kernel
theorem dX5_wordAsNumber_47 : decode cX5_wordAsNumber 47 = .ok (.ifCond .ne 5, 3) := by decide +kernel
theorem dX5_wordAsNumber_50 : decode cX5_wordAsNumber 50 = .ok (.iconst (-1), 1) := by decide +kernel
theorem dX5_wordAsNumber_51 : decode cX5_wordAsNumber 51 = .ok (.ireturn, 1) := by decide +kernel
theorem dX5_wordAsNumber_52 : decode cX5_wordAsNumber 52 = .ok (.iload_n 1, 1) := by decide +kernel
theorem dX5_wordAsNumber_53 : decode cX5_wordAsNumber 53 = .ok (.bipush 10, 2) := by decide +kernel
theorem dX5_wordAsNumber_55 : decode cX5_wordAsNumber 55 = .ok (.imul, 1) := by decide +kernel
theorem dX5_wordAsNumber_56 : decode cX5_wordAsNumber 56 = .ok (.iload_n 3, 1) := by decide +kernel
theorem dX5_wordAsNumber_57 : decode cX5_wordAsNumber 57 = .ok (.iadd, 1) := by decide +kernel
theorem dX5_wordAsNumber_58 : decode cX5_wordAsNumber 58 = .ok (.sipush 1000, 3) := by decide +kernel
theorem dX5_wordAsNumber_61 : decode cX5_wordAsNumber 61 = .ok (.invokestatic 115, 3) := by decide +kernel
theorem dX5_wordAsNumber_64 : decode cX5_wordAsNumber 64 = .ok (.istore_n 1, 1) := by decide +kernel
theorem dX5_wordAsNumber_65 : decode cX5_wordAsNumber 65 = .ok (.iinc 2 1, 3) := by decide +kernel
theorem dX5_wordAsNumber_68 : decode cX5_wordAsNumber 68 = .ok (.goto (-48), 3) := by decide +kernel
theorem dX5_wordAsNumber_71 : decode cX5_wordAsNumber 71 = .ok (.iload_n 1, 1) := by decide +kernel
theorem dX5_wordAsNumber_72 : decode cX5_wordAsNumber 72 = .ok (.ireturn, 1) := by decide +kernel
def ins_X5_wordAsNumber (pc : Nat) : HOp := cond (Nat.blt pc 37) (cond (Nat.blt pc 16) (cond (Nat.blt pc 11) (cond (Nat.blt pc 4) (cond (Nat.blt pc 1) (cond (Nat.beq pc 0) (o_aload 0 1) o_bad) (cond (Nat.beq pc 1) (o_getf 5 1 4) o_bad)) (cond (Nat.blt pc 5) (cond (Nat.beq pc 4) (o_aload 0 5) o_bad) (cond (Nat.blt pc 8) (cond (Nat.beq pc 5) (o_getf 5 2 8) o_bad) (cond (Nat.beq pc 8) (o_icmp (fun x y => x = y) 11 13) o_bad)))) (cond (Nat.blt pc 13) (cond (Nat.blt pc 12) (cond (Nat.beq pc 11) (o_const (-1) 12) o_bad) (cond (Nat.beq pc 12) (o_iret) o_bad)) (cond (Nat.blt pc 14) (cond (Nat.beq pc 13) (o_const (0) 14) o_bad) (cond (Nat.blt pc 15) (cond (Nat.beq pc 14) (o_istore 1 15) o_bad) (cond (Nat.beq pc 15) (o_aload 0 16) o_bad))))) (cond (Nat.blt pc 25) (cond (Nat.blt pc 20) (cond (Nat.blt pc 19) (cond (Nat.beq pc 16) (o_getf 5 1 19) o_bad) (cond (Nat.beq pc 19) (o_istore 2 20) o_bad)) (cond (Nat.blt pc 21) (cond (Nat.beq pc 20) (o_iload 2 21) o_bad) (cond (Nat.blt pc 22) (cond (Nat.beq pc 21) (o_aload 0 22) o_bad) (cond (Nat.beq pc 22) (o_getf 5 2 25) o_bad)))) (cond (Nat.blt pc 32) (cond (Nat.blt pc 28) (cond (Nat.beq pc 25) (o_icmp (fun x y => y ≤ x) 71 28) o_bad) (cond (Nat.blt pc 29) (cond (Nat.beq pc 28) (o_aload 0 29) o_bad) (cond (Nat.beq pc 29) (o_getf 5 0 32) o_bad))) (cond (Nat.blt pc 35) (cond (Nat.beq pc 32) (o_getf 8 0 35) o_bad) (cond (Nat.blt pc 36) (cond (Nat.beq pc 35) (o_iload 2 36) o_bad) (cond (Nat.beq pc 36) (o_bald 37) o_bad)))))) (cond (Nat.blt pc 53) (cond (Nat.blt pc 44) (cond (Nat.blt pc 40) (cond (Nat.blt pc 39) (cond (Nat.beq pc 37) (o_const (48) 39) o_bad) (cond (Nat.beq pc 39) (o_bin (fun x y => x - y) 40) o_bad)) (cond (Nat.blt pc 41) (cond (Nat.beq pc 40) (o_istore 3 41) o_bad) (cond (Nat.blt pc 42) (cond (Nat.beq pc 41) (o_iload 3 42) o_bad) (cond (Nat.beq pc 42) (o_const (10) 44) o_bad)))) (cond (Nat.blt pc 50) (cond (Nat.blt pc 47) (cond (Nat.beq pc 44) (o_callS 2 sp_X10_isBelow 47) o_bad) (cond (Nat.beq pc 47) (o_if (fun x => x = 0) 50 52) o_bad)) (cond (Nat.blt pc 51) (cond (Nat.beq pc 50) (o_const (-1) 51) o_bad) (cond (Nat.blt pc 52) (cond (Nat.beq pc 51) (o_iret) o_bad) (cond (Nat.beq pc 52) (o_iload 1 53) o_bad))))) (cond (Nat.blt pc 61) (cond (Nat.blt pc 56) (cond (Nat.blt pc 55) (cond (Nat.beq pc 53) (o_const (10) 55) o_bad) (cond (Nat.beq pc 55) (o_bin (fun x y => x * y) 56) o_bad)) (cond (Nat.blt pc 57) (cond (Nat.beq pc 56) (o_iload 3 57) o_bad) (cond (Nat.blt pc 58) (cond (Nat.beq pc 57) (o_bin (fun x y => x + y) 58) o_bad) (cond (Nat.beq pc 58) (o_const (1000) 61) o_bad)))) (cond (Nat.blt pc 68) (cond (Nat.blt pc 64) (cond (Nat.beq pc 61) (o_min 64) o_bad) (cond (Nat.blt pc 65) (cond (Nat.beq pc 64) (o_istore 1 65) o_bad) (cond (Nat.beq pc 65) (o_iinc 2 (1) 68) o_bad))) (cond (Nat.blt pc 71) (cond (Nat.beq pc 68) (o_goto 20) o_bad) (cond (Nat.blt pc 72) (cond (Nat.beq pc 71) (o_iload 1 72) o_bad) (cond (Nat.beq pc 72) (o_iret) o_bad))))))
set_option maxRecDepth 20000 in
theorem ok_X5_wordAsNumber : HOKs cX5_wordAsNumber RX5 4 (some .int) 2 ins_X5_wordAsNumber := fun _ => hnd (hnd (hnd (hnd (hnd (hlf (ok_aload_n dX5_wordAsNumber_0 rfl rfl)) (hlf (ok_getf (C := RX5) (T := TX5) dX5_wordAsNumber_1 rfl rfl (by decide) rfl inX5 wd_122 rfl))) (hnd (hlf (ok_aload_n dX5_wordAsNumber_4 rfl rfl)) (hnd (hlf (ok_getf (C := RX5) (T := TX5) dX5_wordAsNumber_5 rfl rfl (by decide) rfl inX5 wd_123 rfl)) (hlf (ok_icmp_ne dX5_wordAsNumber_8 (by decide) rfl))))) (hnd (hnd (hlf (ok_iconst dX5_wordAsNumber_11 (by decide) rfl)) (hlf (ok_iret dX5_wordAsNumber_12))) (hnd (hlf (ok_iconst dX5_wordAsNumber_13 (by decide) rfl)) (hnd (hlf (ok_istore_n dX5_wordAsNumber_14 rfl (by decide) rfl)) (hlf (ok_aload_n dX5_wordAsNumber_15 rfl rfl)))))) (hnd (hnd (hnd (hlf (ok_getf (C := RX5) (T := TX5) dX5_wordAsNumber_16 rfl rfl (by decide) rfl inX5 wd_122 rfl)) (hlf (ok_istore_n dX5_wordAsNumber_19 rfl (by decide) rfl))) (hnd (hlf (ok_iload_n dX5_wordAsNumber_20 rfl rfl)) (hnd (hlf (ok_aload_n dX5_wordAsNumber_21 rfl rfl)) (hlf (ok_getf (C := RX5) (T := TX5) dX5_wordAsNumber_22 rfl rfl (by decide) rfl inX5 wd_123 rfl))))) (hnd (hnd (hlf (ok_icmp_ge dX5_wordAsNumber_25 (by decide) rfl)) (hnd (hlf (ok_aload_n dX5_wordAsNumber_28 rfl rfl)) (hlf (ok_getf (C := RX5) (T := TX5) dX5_wordAsNumber_29 rfl rfl (by decide) rfl inX5 wd_121 rfl)))) (hnd (hlf (ok_getfN (C := RX8) (T := TX8) dX5_wordAsNumber_32 rfl rfl (by decide) rfl inX8 wd_105 rfl)) (hnd (hlf (ok_iload_n dX5_wordAsNumber_35 rfl rfl)) (hlf (ok_bald dX5_wordAsNumber_36 rfl))))))) (hnd (hnd (hnd (hnd (hlf (ok_bipush dX5_wordAsNumber_37 (by decide) rfl)) (hlf (ok_isub dX5_wordAsNumber_39 rfl))) (hnd (hlf (ok_istore_n dX5_wordAsNumber_40 rfl (by decide) rfl)) (hnd (hlf (ok_iload_n dX5_wordAsNumber_41 rfl rfl)) (hlf (ok_bipush dX5_wordAsNumber_42 (by decide) rfl))))) (hnd (hnd (hlf (ok_callSN (y := yX10_isBelow) dX5_wordAsNumber_44 ct_X10_isBelow (by decide) (by decide) wd_319 wd_631 wd_318 wd_41 (by decide +kernel) rfl)) (hlf (ok_if_ne dX5_wordAsNumber_47 (by decide) rfl))) (hnd (hlf (ok_iconst dX5_wordAsNumber_50 (by decide) rfl)) (hnd (hlf (ok_iret dX5_wordAsNumber_51)) (hlf (ok_iload_n dX5_wordAsNumber_52 rfl rfl)))))) (hnd (hnd (hnd (hlf (ok_bipush dX5_wordAsNumber_53 (by decide) rfl)) (hlf (ok_imul dX5_wordAsNumber_55 rfl))) (hnd (hlf (ok_iload_n dX5_wordAsNumber_56 rfl rfl)) (hnd (hlf (ok_iadd dX5_wordAsNumber_57 rfl)) (hlf (ok_sipush dX5_wordAsNumber_58 (by decide) rfl))))) (hnd (hnd (hlf (ok_min dX5_wordAsNumber_61 wd_632 wd_633 wd_53 wd_634 (by decide) rfl)) (hnd (hlf (ok_istore_n dX5_wordAsNumber_64 rfl (by decide) rfl)) (hlf (ok_iinc dX5_wordAsNumber_65 (by decide) (by decide) rfl)))) (hnd (hlf (ok_goto dX5_wordAsNumber_68 (by decide))) (hnd (hlf (ok_iload_n dX5_wordAsNumber_71 rfl rfl)) (hlf (ok_iret dX5_wordAsNumber_72)))))))

theorem vc_X5_wordAsNumber : MVC ins_X5_wordAsNumber 4 1 sp_X5_wordAsNumber := by
  refine mvc1 20 60 fun as w σ q hl hs => ?_
  unfold sp_X5_wordAsNumber at hs
  split at hs
  rotate_left
  · exact hs.elim
  obtain ⟨a, b, hab, hb, ha, hl, hq⟩ := hs
  refine ⟨fun N ls st w' σ' => ∃ (i : Nat) (u v : Int32) (o : Option HV), a < b ∧ a ≤ i ∧ i ≤ b ∧ N = b - i ∧ v = nI i ∧ nb (σ 12 0) (b - i) i u = nb (σ 12 0) (b - a) a 0 ∧ ls = [some (HR 5 0), some (HI u), some (HI v), o] ∧ st = [] ∧ w = w' ∧ σ = σ', ?_, ?_⟩
  · rintro N ls st w' σ' ⟨i, u, v, o, hlt0, hai, hi, rfl, rfl, hR, rfl, rfl, rfl, rfl⟩
    unfold num at hq
    rw [if_neg (by omega)] at hq
    apply br2
    · intro h1
      obtain rfl := lp_end hl hi h1
      rw [Nat.sub_self] at hR
      rw [← hR] at hq
      exact hq
    intro h1
    have hlt := lp_go hl hi h1
    have e1 : (nI i).toNatClampNeg = i := nI_clamp (by omega)
    have hin : vp_in (nI i) 60 := vp_in_nI (by omega) (by decide)
    rw [nb_s hlt] at hR
    refine And.intro hin ?_
    apply br2
    · intro h2
      have h2 : 0 ≤ σ 12 0 (nI i).toNatClampNeg - 48 ∧ σ 12 0 (nI i).toNatClampNeg - 48 < 10 := h2
      rw [e1, dg_i] at h2
      rw [if_pos h2] at hR
      refine And.intro (fun h => absurd h (by decide)) (fun _ => ?_)
      refine ⟨b - (i + 1), by omega, i + 1, _, _, _, hlt0, by omega, hlt, rfl, nI_1 i, ?_, rfl, rfl, rfl, rfl⟩
      rw [← hR, e1]
      congr 1
      unfold mn1
      show (if (1000 : Int32) < u * 10 + (σ 12 0 i - 48) then (1000 : Int32) else u * 10 + (σ 12 0 i - 48)) = _
      rw [show u * 10 + (σ 12 0 i - 48) = 10 * u + σ 12 0 i - 48 from by rw [Int32.mul_comm, Int32.sub_eq_add_neg, Int32.sub_eq_add_neg, Int32.add_assoc]]
      by_cases c : 10 * u + σ 12 0 i - 48 ≤ 1000
      · rw [if_pos c, if_neg (Int32.not_lt.mpr c)]
      · rw [if_neg c, if_pos (Int32.not_le.mp c)]
    · intro h2
      have h2 : ¬ (0 ≤ σ 12 0 (nI i).toNatClampNeg - 48 ∧ σ 12 0 (nI i).toNatClampNeg - 48 < 10) := h2
      rw [e1, dg_i] at h2
      rw [if_neg h2] at hR
      rw [← hR] at hq
      exact And.intro (fun _ => hq) (fun h => absurd rfl h)
  · apply br2
    · intro h
      have h : σ 5 0 1 = σ 5 0 2 := h
      rw [ha, hl] at h
      have := nI_inj h
      unfold num at hq
      rw [if_pos this] at hq
      exact hq
    · intro h
      have h : ¬ σ 5 0 1 = σ 5 0 2 := h
      rw [ha, hl] at h
      have : ¬ a = b := fun z => h (by rw [z])
      exact ⟨b - a, a, 0, _, none, by omega, Nat.le_refl _, hab, rfl, ha, rfl, rfl, rfl, rfl, rfl⟩
theorem ct_X5_wordAsNumber : Ctr yX5_wordAsNumber cX5_wordAsNumber 4 (some .int) 2 0 0 1 sp_X5_wordAsNumber := ctr_of (by decide +kernel) rfl (by decide) ok_X5_wordAsNumber vc_X5_wordAsNumber

def sp_X5_nextNumber : HSp := fun as w σ K => match as with
  | [.inr (.inl (5, some 0)), .inl lo, .inl hi] => (¬ okF σ → (∃ a b, a ≤ b ∧ b ≤ 60 ∧ σ 5 0 1 = nI a ∧ σ 5 0 2 = nI b) ∧ ∀ v, K (some (HI v)) w σ) ∧ (okF σ → ∃ T e z, σ 12 0 = T ∧ e ≤ z ∧ z ≤ 60 ∧ σ 5 0 2 = nI e ∧ σ 8 0 1 = nI z ∧
      ((¬ num T (wA T z e) (we T z e) < lo ∧ ¬ hi < num T (wA T z e) (we T z e)) → K (some (HI (num T (wA T z e) (we T z e)))) w (nxC σ (wA T z e) (we T z e))) ∧
      (¬ (¬ num T (wA T z e) (we T z e) < lo ∧ ¬ hi < num T (wA T z e) (we T z e)) → K (some (HI lo)) w (up3 (nxC σ (wA T z e) (we T z e)) 5 0 3 (nI (wA T z e)))))
  | _ => False
theorem dX5_nextNumber_0 : decode cX5_nextNumber 0 = .ok (.aload_n 0, 1) := by decide +kernel
theorem dX5_nextNumber_1 : decode cX5_nextNumber 1 = .ok (.invokevirtual 44, 3) := by decide +kernel
theorem dX5_nextNumber_4 : decode cX5_nextNumber 4 = .ok (.aload_n 0, 1) := by decide +kernel
theorem dX5_nextNumber_5 : decode cX5_nextNumber 5 = .ok (.invokevirtual 108, 3) := by decide +kernel
theorem dX5_nextNumber_8 : decode cX5_nextNumber 8 = .ok (.istore_n 3, 1) := by decide +kernel
theorem dX5_nextNumber_9 : decode cX5_nextNumber 9 = .ok (.iload_n 3, 1) := by decide +kernel
theorem dX5_nextNumber_10 : decode cX5_nextNumber 10 = .ok (.iload_n 1, 1) := by decide +kernel
theorem dX5_nextNumber_11 : decode cX5_nextNumber 11 = .ok (.if_icmp .lt 8, 3) := by decide +kernel
theorem dX5_nextNumber_14 : decode cX5_nextNumber 14 = .ok (.iload_n 3, 1) := by decide +kernel
theorem dX5_nextNumber_15 : decode cX5_nextNumber 15 = .ok (.iload_n 2, 1) := by decide +kernel
theorem dX5_nextNumber_16 : decode cX5_nextNumber 16 = .ok (.if_icmp .le 9, 3) := by decide +kernel
theorem dX5_nextNumber_19 : decode cX5_nextNumber 19 = .ok (.aload_n 0, 1) := by decide +kernel
theorem dX5_nextNumber_20 : decode cX5_nextNumber 20 = .ok (.invokevirtual 62, 3) := by decide +kernel
theorem dX5_nextNumber_23 : decode cX5_nextNumber 23 = .ok (.iload_n 1, 1) := by decide +kernel
theorem dX5_nextNumber_24 : decode cX5_nextNumber 24 = .ok (.ireturn, 1) := by decide +kernel
theorem dX5_nextNumber_25 : decode cX5_nextNumber 25 = .ok (.iload_n 3, 1) := by decide +kernel
theorem dX5_nextNumber_26 : decode cX5_nextNumber 26 = .ok (.ireturn, 1) := by decide +kernel
def ins_X5_nextNumber (pc : Nat) : HOp := cond (Nat.blt pc 14) (cond (Nat.blt pc 8) (cond (Nat.blt pc 4) (cond (Nat.blt pc 1) (cond (Nat.beq pc 0) (o_aload 0 1) o_bad) (cond (Nat.beq pc 1) (o_callV 1 5 sp_X5_next 4) o_bad)) (cond (Nat.blt pc 5) (cond (Nat.beq pc 4) (o_aload 0 5) o_bad) (cond (Nat.beq pc 5) (o_callV 1 5 sp_X5_wordAsNumber 8) o_bad))) (cond (Nat.blt pc 10) (cond (Nat.blt pc 9) (cond (Nat.beq pc 8) (o_istore 3 9) o_bad) (cond (Nat.beq pc 9) (o_iload 3 10) o_bad)) (cond (Nat.blt pc 11) (cond (Nat.beq pc 10) (o_iload 1 11) o_bad) (cond (Nat.beq pc 11) (o_icmp (fun x y => x < y) 19 14) o_bad)))) (cond (Nat.blt pc 20) (cond (Nat.blt pc 16) (cond (Nat.blt pc 15) (cond (Nat.beq pc 14) (o_iload 3 15) o_bad) (cond (Nat.beq pc 15) (o_iload 2 16) o_bad)) (cond (Nat.blt pc 19) (cond (Nat.beq pc 16) (o_icmp (fun x y => x ≤ y) 25 19) o_bad) (cond (Nat.beq pc 19) (o_aload 0 20) o_bad))) (cond (Nat.blt pc 24) (cond (Nat.blt pc 23) (cond (Nat.beq pc 20) (o_callV 1 5 sp_X5_refuse 23) o_bad) (cond (Nat.beq pc 23) (o_iload 1 24) o_bad)) (cond (Nat.blt pc 25) (cond (Nat.beq pc 24) (o_iret) o_bad) (cond (Nat.blt pc 26) (cond (Nat.beq pc 25) (o_iload 3 26) o_bad) (cond (Nat.beq pc 26) (o_iret) o_bad)))))
set_option maxRecDepth 20000 in
theorem ok_X5_nextNumber : HOKs cX5_nextNumber RX5 4 (some .int) 3 ins_X5_nextNumber := fun _ => hnd (hnd (hnd (hnd (hlf (ok_aload_n dX5_nextNumber_0 rfl rfl)) (hlf (ok_callV (y := yX5_next) (n' := 0) (C := RX5) (T := TX5) dX5_nextNumber_1 ct_X5_next (by decide) (by decide) wd_622 wd_619 wd_621 wd_8 wd_44 rfl (by decide +kernel) rfl rfl rfl))) (hnd (hlf (ok_aload_n dX5_nextNumber_4 rfl rfl)) (hlf (ok_callV (y := yX5_wordAsNumber) (n' := 0) (C := RX5) (T := TX5) dX5_nextNumber_5 ct_X5_wordAsNumber (by decide) (by decide) wd_630 wd_627 wd_629 wd_9 wd_44 rfl (by decide +kernel) rfl rfl rfl)))) (hnd (hnd (hlf (ok_istore_n dX5_nextNumber_8 rfl (by decide) rfl)) (hlf (ok_iload_n dX5_nextNumber_9 rfl rfl))) (hnd (hlf (ok_iload_n dX5_nextNumber_10 rfl rfl)) (hlf (ok_icmp_lt dX5_nextNumber_11 (by decide) rfl))))) (hnd (hnd (hnd (hlf (ok_iload_n dX5_nextNumber_14 rfl rfl)) (hlf (ok_iload_n dX5_nextNumber_15 rfl rfl))) (hnd (hlf (ok_icmp_le dX5_nextNumber_16 (by decide) rfl)) (hlf (ok_aload_n dX5_nextNumber_19 rfl rfl)))) (hnd (hnd (hlf (ok_callV (y := yX5_refuse) (n' := 0) (C := RX5) (T := TX5) dX5_nextNumber_20 ct_X5_refuse (by decide) (by decide) wd_638 wd_635 wd_637 wd_10 wd_44 rfl (by decide +kernel) rfl rfl rfl)) (hlf (ok_iload_n dX5_nextNumber_23 rfl rfl))) (hnd (hlf (ok_iret dX5_nextNumber_24)) (hnd (hlf (ok_iload_n dX5_nextNumber_25 rfl rfl)) (hlf (ok_iret dX5_nextNumber_26))))))

set_option maxHeartbeats 1000000 in
theorem vc_X5_nextNumber : MVC ins_X5_nextNumber 4 3 sp_X5_nextNumber := by
  refine mvc0 60 fun as w σ q hl hs => ?_
  unfold sp_X5_nextNumber at hs
  split at hs
  rotate_left
  · exact hs.elim
  rename_i lo hi
  apply br2
  · intro hF
    obtain ⟨⟨a, b, hab, hb, ha, hl⟩, hq⟩ := hs.1 hF
    refine ⟨a, b, hab, hb, ha, hl, ?_⟩
    apply br2
    · intro h
      exact And.intro (fun h => absurd h hF) (fun _ => hq lo)
    · intro h
      apply br2
      · intro h
        exact hq _
      · intro h
        exact And.intro (fun h => absurd h hF) (fun _ => hq lo)
  · intro hF
    obtain ⟨T, e, z, hTT, hez, hz, he, hsz, hy, hn⟩ := hs.2 hF
    subst hTT
    refine ⟨_, e, z, rfl, hez, hz, he, hsz, ?_⟩
    have l := we_le (T := σ 12 0) hez
    have eT : nxC σ (wA (σ 12 0) z e) (we (σ 12 0) z e) 12 0 = σ 12 0 := by
      funext j
      unfold nxC
      rw [up3_o (by omega), up3_o (by omega)]
    have e1 : nxC σ (wA (σ 12 0) z e) (we (σ 12 0) z e) 5 0 1 = nI (wA (σ 12 0) z e) := by
      unfold nxC
      rw [up3_o (by omega)]
      exact up3_v
    have e3 : okF (nxC σ (wA (σ 12 0) z e) (we (σ 12 0) z e)) := by
      unfold nxC okF
      rw [up3_o (by omega), up3_o (by omega)]
      exact hF
    refine ⟨wA (σ 12 0) z e, we (σ 12 0) z e, l.2.1, Nat.le_trans l.2.2 hz, e1, up3_v, ?_⟩
    rw [eT]
    have bad : ¬ (¬ num (σ 12 0) (wA (σ 12 0) z e) (we (σ 12 0) z e) < lo ∧ ¬ hi < num (σ 12 0) (wA (σ 12 0) z e) (we (σ 12 0) z e)) → q (some (HI lo)) w (up3 (nxC σ (wA (σ 12 0) z e) (we (σ 12 0) z e)) 5 0 3 (nxC σ (wA (σ 12 0) z e) (we (σ 12 0) z e) 5 0 1)) := fun h => by
      rw [e1]
      exact hn h
    apply br2
    · intro h
      exact And.intro (fun _ => bad fun y => y.1 h) (fun h => absurd e3 h)
    · intro h
      apply br2
      · intro h2
        exact hy ⟨h, Int32.not_lt.mpr h2⟩
      · intro h2
        exact And.intro (fun _ => bad fun y => y.2 (Int32.not_le.mp h2)) (fun h => absurd e3 h)
theorem ct_X5_nextNumber : Ctr yX5_nextNumber cX5_nextNumber 4 (some .int) 3 0 0 3 sp_X5_nextNumber := ctr_of (by decide +kernel) rfl (by decide) ok_X5_nextNumber vc_X5_nextNumber

