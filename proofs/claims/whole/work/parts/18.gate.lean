/-! VisitHall.Gate, 1 -/
noncomputable def cif {α : Type} (c : Prop) (a b : α) : α := @ite α c (Classical.propDecidable c) a b
theorem cif_p {α : Type} {c : Prop} {a b : α} (h : c) : cif c a b = a := by unfold cif; exact if_pos h
theorem cif_n {α : Type} {c : Prop} {a b : α} (h : ¬ c) : cif c a b = b := by unfold cif; exact if_neg h
theorem cif_cg {α : Type} {c d : Prop} {a b a' b' : α} (h : c ↔ d) (ha : a = a') (hb : b = b') : cif c a b = cif d a' b' := by
  subst ha hb
  by_cases q : c
  · rw [cif_p q, cif_p (h.mp q)]
  · rw [cif_n q, cif_n (fun z => q (h.mpr z))]
def tbC (σ : HS) (day : Int32) : Int32 := if 0 ≤ day ∧ day < σ 7 0 1 then (if 0 ≤ σ 12 1 day.toNatClampNeg ∧ σ 12 1 day.toNatClampNeg < 7 then σ 12 1 day.toNatClampNeg else 0) else σ 1 0 4
def sp_X1_tablesOn : HSp := fun as w σ K => match as with
  | [.inr (.inl (1, some 0)), .inl day] => σ 7 0 1 ≤ 60 ∧ K (some (HI (tbC σ day))) w σ
  | _ => False
theorem in60 {x z : Int32} (h : 0 ≤ x ∧ x < z) (hz : z ≤ 60) : vp_in x 60 := by
  obtain ⟨i, hi, rfl⟩ := in_of (x := x) (n := 60) ⟨h.1, Int32.lt_of_lt_of_le h.2 hz⟩
  exact vp_in_nI hi (by decide)
theorem dX1_tablesOn_0 : decode cX1_tablesOn 0 = .ok (.aload_n 0, 1) := by decide +kernel
theorem dX1_tablesOn_1 : decode cX1_tablesOn 1 = .ok (.getfield 33, 3) := by decide +kernel
theorem dX1_tablesOn_4 : decode cX1_tablesOn 4 = .ok (.iload_n 1, 1) := by decide +kernel
theorem dX1_tablesOn_5 : decode cX1_tablesOn 5 = .ok (.invokevirtual 37, 3) := by decide +kernel
theorem dX1_tablesOn_8 : decode cX1_tablesOn 8 = .ok (.ifCond .ne 8, 3) := by decide +kernel
theorem dX1_tablesOn_11 : decode cX1_tablesOn 11 = .ok (.aload_n 0, 1) := by decide +kernel
theorem dX1_tablesOn_12 : decode cX1_tablesOn 12 = .ok (.getfield 11, 3) := by decide +kernel
theorem dX1_tablesOn_15 : decode cX1_tablesOn 15 = .ok (.ireturn, 1) := by decide +kernel
theorem dX1_tablesOn_16 : decode cX1_tablesOn 16 = .ok (.aload_n 0, 1) := by decide +kernel
theorem dX1_tablesOn_17 : decode cX1_tablesOn 17 = .ok (.getfield 33, 3) := by decide +kernel
theorem dX1_tablesOn_20 : decode cX1_tablesOn 20 = .ok (.getfield 43, 3) := by decide +kernel
theorem dX1_tablesOn_23 : decode cX1_tablesOn 23 = .ok (.iload_n 1, 1) := by decide +kernel
theorem dX1_tablesOn_24 : decode cX1_tablesOn 24 = .ok (.baload, 1) := by decide +kernel
theorem dX1_tablesOn_25 : decode cX1_tablesOn 25 = .ok (.istore_n 2, 1) := by decide +kernel
theorem dX1_tablesOn_26 : decode cX1_tablesOn 26 = .ok (.iload_n 2, 1) := by decide +kernel
theorem dX1_tablesOn_27 : decode cX1_tablesOn 27 = .ok (.bipush 7, 2) := by decide +kernel
theorem dX1_tablesOn_29 : decode cX1_tablesOn 29 = .ok (.invokestatic 47, 3) := by decide +kernel
theorem dX1_tablesOn_32 : decode cX1_tablesOn 32 = .ok (.ifCond .eq 7, 3) := by decide +kernel
theorem dX1_tablesOn_35 : decode cX1_tablesOn 35 = .ok (.iload_n 2, 1) := by decide +kernel
theorem dX1_tablesOn_36 : decode cX1_tablesOn 36 = .ok (.goto 4, 3) := by decide +kernel
theorem dX1_tablesOn_39 : decode cX1_tablesOn 39 = .ok (.iconst 0, 1) := by decide +kernel
theorem dX1_tablesOn_40 : decode cX1_tablesOn 40 = .ok (.ireturn, 1) := by decide +kernel
def ins_X1_tablesOn (pc : Nat) : HOp := cond (Nat.blt pc 23) (cond (Nat.blt pc 11) (cond (Nat.blt pc 4) (cond (Nat.blt pc 1) (cond (Nat.beq pc 0) (o_aload 0 1) o_bad) (cond (Nat.beq pc 1) (o_getf 1 3 4) o_bad)) (cond (Nat.blt pc 5) (cond (Nat.beq pc 4) (o_iload 1 5) o_bad) (cond (Nat.blt pc 8) (cond (Nat.beq pc 5) (o_callV 2 7 sp_X7_has 8) o_bad) (cond (Nat.beq pc 8) (o_if (fun x => x = 0) 11 16) o_bad)))) (cond (Nat.blt pc 16) (cond (Nat.blt pc 12) (cond (Nat.beq pc 11) (o_aload 0 12) o_bad) (cond (Nat.blt pc 15) (cond (Nat.beq pc 12) (o_getf 1 4 15) o_bad) (cond (Nat.beq pc 15) (o_iret) o_bad))) (cond (Nat.blt pc 17) (cond (Nat.beq pc 16) (o_aload 0 17) o_bad) (cond (Nat.blt pc 20) (cond (Nat.beq pc 17) (o_getf 1 3 20) o_bad) (cond (Nat.beq pc 20) (o_getf 7 0 23) o_bad))))) (cond (Nat.blt pc 29) (cond (Nat.blt pc 25) (cond (Nat.blt pc 24) (cond (Nat.beq pc 23) (o_iload 1 24) o_bad) (cond (Nat.beq pc 24) (o_bald 25) o_bad)) (cond (Nat.blt pc 26) (cond (Nat.beq pc 25) (o_istore 2 26) o_bad) (cond (Nat.blt pc 27) (cond (Nat.beq pc 26) (o_iload 2 27) o_bad) (cond (Nat.beq pc 27) (o_const (7) 29) o_bad)))) (cond (Nat.blt pc 36) (cond (Nat.blt pc 32) (cond (Nat.beq pc 29) (o_callS 2 sp_X10_isBelow 32) o_bad) (cond (Nat.blt pc 35) (cond (Nat.beq pc 32) (o_if (fun x => x = 0) 39 35) o_bad) (cond (Nat.beq pc 35) (o_iload 2 36) o_bad))) (cond (Nat.blt pc 39) (cond (Nat.beq pc 36) (o_goto 40) o_bad) (cond (Nat.blt pc 40) (cond (Nat.beq pc 39) (o_const (0) 40) o_bad) (cond (Nat.beq pc 40) (o_iret) o_bad)))))
set_option maxRecDepth 20000 in
theorem ok_X1_tablesOn : HOKs cX1_tablesOn RX1 3 (some .int) 3 ins_X1_tablesOn := fun _ => hnd (hnd (hnd (hnd (hlf (ok_aload_n dX1_tablesOn_0 rfl rfl)) (hlf (ok_getf (C := RX1) (T := TX1) dX1_tablesOn_1 rfl rfl (by decide) rfl inX1 wd_188 rfl))) (hnd (hlf (ok_iload_n dX1_tablesOn_4 rfl rfl)) (hnd (hlf (ok_callV (y := yX7_has) (n' := 1) (C := RX7) (T := TX7) dX1_tablesOn_5 ct_X7_has (by decide) (by decide) wd_499 wd_496 wd_497 wd_498 wd_46 rfl (by decide +kernel) rfl rfl rfl)) (hlf (ok_if_ne dX1_tablesOn_8 (by decide) rfl))))) (hnd (hnd (hlf (ok_aload_n dX1_tablesOn_11 rfl rfl)) (hnd (hlf (ok_getf (C := RX1) (T := TX1) dX1_tablesOn_12 rfl rfl (by decide) rfl inX1 wd_189 rfl)) (hlf (ok_iret dX1_tablesOn_15)))) (hnd (hlf (ok_aload_n dX1_tablesOn_16 rfl rfl)) (hnd (hlf (ok_getf (C := RX1) (T := TX1) dX1_tablesOn_17 rfl rfl (by decide) rfl inX1 wd_188 rfl)) (hlf (ok_getfN (C := RX7) (T := TX7) dX1_tablesOn_20 rfl rfl (by decide) rfl inX7 wd_170 rfl)))))) (hnd (hnd (hnd (hlf (ok_iload_n dX1_tablesOn_23 rfl rfl)) (hlf (ok_bald dX1_tablesOn_24 rfl))) (hnd (hlf (ok_istore_n dX1_tablesOn_25 rfl (by decide) rfl)) (hnd (hlf (ok_iload_n dX1_tablesOn_26 rfl rfl)) (hlf (ok_bipush dX1_tablesOn_27 (by decide) rfl))))) (hnd (hnd (hlf (ok_callSN (y := yX10_isBelow) dX1_tablesOn_29 ct_X10_isBelow (by decide) (by decide) wd_319 wd_441 wd_318 wd_41 (by decide +kernel) rfl)) (hnd (hlf (ok_if_eq dX1_tablesOn_32 (by decide) rfl)) (hlf (ok_iload_n dX1_tablesOn_35 rfl rfl)))) (hnd (hlf (ok_goto dX1_tablesOn_36 (by decide))) (hnd (hlf (ok_iconst dX1_tablesOn_39 (by decide) rfl)) (hlf (ok_iret dX1_tablesOn_40))))))

theorem vc_X1_tablesOn : MVC ins_X1_tablesOn 3 2 sp_X1_tablesOn := by
  refine mvc0 60 fun as w σ q hl hs => ?_
  unfold sp_X1_tablesOn at hs
  split at hs
  rotate_left
  · exact hs.elim
  rename_i day
  obtain ⟨hz, hs⟩ := hs
  unfold tbC at hs
  apply br2
  · intro h
    have h : 0 ≤ day ∧ day < σ 7 0 1 := h
    rw [if_pos h] at hs
    refine And.intro (fun h => absurd h (by decide)) (fun _ => ?_)
    refine And.intro (in60 h hz) ?_
    apply br2
    · intro h2
      have h2 : 0 ≤ σ 12 1 day.toNatClampNeg ∧ σ 12 1 day.toNatClampNeg < 7 := h2
      rw [if_pos h2] at hs
      exact And.intro (fun h => absurd h (by decide)) (fun _ => hs)
    · intro h2
      have h2 : ¬ (0 ≤ σ 12 1 day.toNatClampNeg ∧ σ 12 1 day.toNatClampNeg < 7) := h2
      rw [if_neg h2] at hs
      exact And.intro (fun _ => hs) (fun h => absurd rfl h)
  · intro h
    have h : ¬ (0 ≤ day ∧ day < σ 7 0 1) := h
    rw [if_neg h] at hs
    exact And.intro (fun _ => hs) (fun h => absurd rfl h)
theorem ct_X1_tablesOn : Ctr yX1_tablesOn cX1_tablesOn 3 (some .int) 3 0 0 2 sp_X1_tablesOn := ctr_of (by decide +kernel) rfl (by decide) ok_X1_tablesOn vc_X1_tablesOn

theorem nI_inj {a b : Nat} (h : nI a = nI b) (ha : a < 2 ^ 31 := by omega) (hb : b < 2 ^ 31 := by omega) : a = b := (nI_eq ha hb).mp h
theorem pa_in {w : HW} {σ : HS} {np p : Nat} {x : Int32} (hP : Pk w σ np) (hp : p < np) (hx : x = nI p) : 0 ≤ x ∧ x < nI np := by
  have h10 := hP.1
  rw [hx]
  exact ⟨nI_pos' (by omega), nI_lt hp (by omega)⟩
theorem pa_eq {w : HW} {σ : HS} {np p i : Nat} {x : Int32} (hP : Pk w σ np) (hp : p < np) (hx : x = nI p) (hi : i < np) (e : x = nI i) : i = p := by
  have h10 := hP.1
  exact nI_inj (e.symm.trans hx)
abbrev baC (σ : HS) (v p : Nat) : Prop := ∃ u, u < 14 ∧ bt1 (σ 9 v 1) u ∧ ¬ σ 9 v 2 < σ 13 (p + 4) u
noncomputable def rpC (σ : HS) (v p : Nat) : Int32 := cif (σ 3 p 2 = 0) 1 (cif (¬ liC σ p (σ 9 v 1)) 2 (cif (baC σ v p) 3 (cif (nkC σ (σ 9 v 1)) 4 0)))
def sp_X1_reasonOfPeople : HSp := fun as w σ K => match as with
  | [.inr (.inl (1, some 0)), .inr (.inl (9, some v))] => ∃ np p, Pk w σ np ∧ p < np ∧ σ 9 v 0 = nI p ∧ K (some (HI (rpC σ v p))) w σ
  | _ => False
theorem dX1_reasonOfPeople_0 : decode cX1_reasonOfPeople 0 = .ok (.aload_n 0, 1) := by decide +kernel
theorem dX1_reasonOfPeople_1 : decode cX1_reasonOfPeople 1 = .ok (.getfield 21, 3) := by decide +kernel
theorem dX1_reasonOfPeople_4 : decode cX1_reasonOfPeople 4 = .ok (.aload_n 1, 1) := by decide +kernel
theorem dX1_reasonOfPeople_5 : decode cX1_reasonOfPeople 5 = .ok (.getfield 102, 3) := by decide +kernel
theorem dX1_reasonOfPeople_8 : decode cX1_reasonOfPeople 8 = .ok (.invokevirtual 105, 3) := by decide +kernel
theorem dX1_reasonOfPeople_11 : decode cX1_reasonOfPeople 11 = .ok (.astore_n 2, 1) := by decide +kernel
theorem dX1_reasonOfPeople_12 : decode cX1_reasonOfPeople 12 = .ok (.aload_n 2, 1) := by decide +kernel
theorem dX1_reasonOfPeople_13 : decode cX1_reasonOfPeople 13 = .ok (.ifnull 10, 3) := by decide +kernel
theorem dX1_reasonOfPeople_16 : decode cX1_reasonOfPeople 16 = .ok (.aload_n 2, 1) := by decide +kernel
theorem dX1_reasonOfPeople_17 : decode cX1_reasonOfPeople 17 = .ok (.getfield 111, 3) := by decide +kernel
theorem dX1_reasonOfPeople_20 : decode cX1_reasonOfPeople 20 = .ok (.ifCond .ne 5, 3) := by decide +kernel
theorem dX1_reasonOfPeople_23 : decode cX1_reasonOfPeople 23 = .ok (.iconst 1, 1) := by decide +kernel
theorem dX1_reasonOfPeople_24 : decode cX1_reasonOfPeople 24 = .ok (.ireturn, 1) := by decide +kernel
theorem dX1_reasonOfPeople_25 : decode cX1_reasonOfPeople 25 = .ok (.aload_n 0, 1) := by decide +kernel
theorem dX1_reasonOfPeople_26 : decode cX1_reasonOfPeople 26 = .ok (.getfield 21, 3) := by decide +kernel
theorem dX1_reasonOfPeople_29 : decode cX1_reasonOfPeople 29 = .ok (.aload_n 2, 1) := by decide +kernel
theorem dX1_reasonOfPeople_30 : decode cX1_reasonOfPeople 30 = .ok (.aload_n 1, 1) := by decide +kernel
theorem dX1_reasonOfPeople_31 : decode cX1_reasonOfPeople 31 = .ok (.getfield 116, 3) := by decide +kernel
theorem dX1_reasonOfPeople_34 : decode cX1_reasonOfPeople 34 = .ok (.invokevirtual 119, 3) := by decide +kernel
theorem dX1_reasonOfPeople_37 : decode cX1_reasonOfPeople 37 = .ok (.ifCond .ne 5, 3) := by decide +kernel
theorem dX1_reasonOfPeople_40 : decode cX1_reasonOfPeople 40 = .ok (.iconst 2, 1) := by decide +kernel
theorem dX1_reasonOfPeople_41 : decode cX1_reasonOfPeople 41 = .ok (.ireturn, 1) := by decide +kernel
theorem dX1_reasonOfPeople_42 : decode cX1_reasonOfPeople 42 = .ok (.aload_n 2, 1) := by decide +kernel
theorem dX1_reasonOfPeople_43 : decode cX1_reasonOfPeople 43 = .ok (.aload_n 1, 1) := by decide +kernel
theorem dX1_reasonOfPeople_44 : decode cX1_reasonOfPeople 44 = .ok (.getfield 116, 3) := by decide +kernel
theorem dX1_reasonOfPeople_47 : decode cX1_reasonOfPeople 47 = .ok (.aload_n 1, 1) := by decide +kernel
theorem dX1_reasonOfPeople_48 : decode cX1_reasonOfPeople 48 = .ok (.getfield 89, 3) := by decide +kernel
theorem dX1_reasonOfPeople_51 : decode cX1_reasonOfPeople 51 = .ok (.invokevirtual 123, 3) := by decide +kernel
theorem dX1_reasonOfPeople_54 : decode cX1_reasonOfPeople 54 = .ok (.ifCond .eq 5, 3) := by decide +kernel
theorem dX1_reasonOfPeople_57 : decode cX1_reasonOfPeople 57 = .ok (.iconst 3, 1) := by decide +kernel
theorem dX1_reasonOfPeople_58 : decode cX1_reasonOfPeople 58 = .ok (.ireturn, 1) := by decide +kernel
theorem dX1_reasonOfPeople_59 : decode cX1_reasonOfPeople 59 = .ok (.aload_n 0, 1) := by decide +kernel
theorem dX1_reasonOfPeople_60 : decode cX1_reasonOfPeople 60 = .ok (.getfield 21, 3) := by decide +kernel
theorem dX1_reasonOfPeople_63 : decode cX1_reasonOfPeople 63 = .ok (.aload_n 1, 1) := by decide +kernel
theorem dX1_reasonOfPeople_64 : decode cX1_reasonOfPeople 64 = .ok (.getfield 116, 3) := by decide +kernel
theorem dX1_reasonOfPeople_67 : decode cX1_reasonOfPeople 67 = .ok (.invokevirtual 126, 3) := by decide +kernel
theorem dX1_reasonOfPeople_70 : decode cX1_reasonOfPeople 70 = .ok (.ifCond .eq 7, 3) := by decide +kernel
theorem dX1_reasonOfPeople_73 : decode cX1_reasonOfPeople 73 = .ok (.iconst 4, 1) := by decide +kernel
theorem dX1_reasonOfPeople_74 : decode cX1_reasonOfPeople 74 = .ok (.goto 4, 3) := by decide +kernel
theorem dX1_reasonOfPeople_77 : decode cX1_reasonOfPeople 77 = .ok (.iconst 0, 1) := by decide +kernel
theorem dX1_reasonOfPeople_78 : decode cX1_reasonOfPeople 78 = .ok (.ireturn, 1) := by decide +kernel
def ins_X1_reasonOfPeople (pc : Nat) : HOp := cond (Nat.blt pc 40) (cond (Nat.blt pc 20) (cond (Nat.blt pc 11) (cond (Nat.blt pc 4) (cond (Nat.blt pc 1) (cond (Nat.beq pc 0) (o_aload 0 1) o_bad) (cond (Nat.beq pc 1) (o_getf 1 0 4) o_bad)) (cond (Nat.blt pc 5) (cond (Nat.beq pc 4) (o_aload 1 5) o_bad) (cond (Nat.blt pc 8) (cond (Nat.beq pc 5) (o_getf 9 0 8) o_bad) (cond (Nat.beq pc 8) (o_callV 2 2 sp_X2_prisonerAt 11) o_bad)))) (cond (Nat.blt pc 13) (cond (Nat.blt pc 12) (cond (Nat.beq pc 11) (o_astore 2 12) o_bad) (cond (Nat.beq pc 12) (o_aload 2 13) o_bad)) (cond (Nat.blt pc 16) (cond (Nat.beq pc 13) (o_ifnull 23 16) o_bad) (cond (Nat.blt pc 17) (cond (Nat.beq pc 16) (o_aload 2 17) o_bad) (cond (Nat.beq pc 17) (o_getf 3 2 20) o_bad))))) (cond (Nat.blt pc 29) (cond (Nat.blt pc 24) (cond (Nat.blt pc 23) (cond (Nat.beq pc 20) (o_if (fun x => x = 0) 23 25) o_bad) (cond (Nat.beq pc 23) (o_const (1) 24) o_bad)) (cond (Nat.blt pc 25) (cond (Nat.beq pc 24) (o_iret) o_bad) (cond (Nat.blt pc 26) (cond (Nat.beq pc 25) (o_aload 0 26) o_bad) (cond (Nat.beq pc 26) (o_getf 1 0 29) o_bad)))) (cond (Nat.blt pc 31) (cond (Nat.blt pc 30) (cond (Nat.beq pc 29) (o_aload 2 30) o_bad) (cond (Nat.beq pc 30) (o_aload 1 31) o_bad)) (cond (Nat.blt pc 34) (cond (Nat.beq pc 31) (o_getf 9 1 34) o_bad) (cond (Nat.blt pc 37) (cond (Nat.beq pc 34) (o_callV 3 2 sp_X2_areListed 37) o_bad) (cond (Nat.beq pc 37) (o_if (fun x => x = 0) 40 42) o_bad)))))) (cond (Nat.blt pc 58) (cond (Nat.blt pc 47) (cond (Nat.blt pc 42) (cond (Nat.blt pc 41) (cond (Nat.beq pc 40) (o_const (2) 41) o_bad) (cond (Nat.beq pc 41) (o_iret) o_bad)) (cond (Nat.blt pc 43) (cond (Nat.beq pc 42) (o_aload 2 43) o_bad) (cond (Nat.blt pc 44) (cond (Nat.beq pc 43) (o_aload 1 44) o_bad) (cond (Nat.beq pc 44) (o_getf 9 1 47) o_bad)))) (cond (Nat.blt pc 51) (cond (Nat.blt pc 48) (cond (Nat.beq pc 47) (o_aload 1 48) o_bad) (cond (Nat.beq pc 48) (o_getf 9 2 51) o_bad)) (cond (Nat.blt pc 54) (cond (Nat.beq pc 51) (o_callV 3 3 sp_X3_isBarred 54) o_bad) (cond (Nat.blt pc 57) (cond (Nat.beq pc 54) (o_if (fun x => x = 0) 59 57) o_bad) (cond (Nat.beq pc 57) (o_const (3) 58) o_bad))))) (cond (Nat.blt pc 67) (cond (Nat.blt pc 60) (cond (Nat.blt pc 59) (cond (Nat.beq pc 58) (o_iret) o_bad) (cond (Nat.beq pc 59) (o_aload 0 60) o_bad)) (cond (Nat.blt pc 63) (cond (Nat.beq pc 60) (o_getf 1 0 63) o_bad) (cond (Nat.blt pc 64) (cond (Nat.beq pc 63) (o_aload 1 64) o_bad) (cond (Nat.beq pc 64) (o_getf 9 1 67) o_bad)))) (cond (Nat.blt pc 74) (cond (Nat.blt pc 70) (cond (Nat.beq pc 67) (o_callV 2 2 sp_X2_needsKin 70) o_bad) (cond (Nat.blt pc 73) (cond (Nat.beq pc 70) (o_if (fun x => x = 0) 77 73) o_bad) (cond (Nat.beq pc 73) (o_const (4) 74) o_bad))) (cond (Nat.blt pc 77) (cond (Nat.beq pc 74) (o_goto 78) o_bad) (cond (Nat.blt pc 78) (cond (Nat.beq pc 77) (o_const (0) 78) o_bad) (cond (Nat.beq pc 78) (o_iret) o_bad))))))
set_option maxRecDepth 20000 in
theorem ok_X1_reasonOfPeople : HOKs cX1_reasonOfPeople RX1 3 (some .int) 3 ins_X1_reasonOfPeople := fun _ => hnd (hnd (hnd (hnd (hnd (hlf (ok_aload_n dX1_reasonOfPeople_0 rfl rfl)) (hlf (ok_getf (C := RX1) (T := TX1) dX1_reasonOfPeople_1 rfl rfl (by decide) rfl inX1 wd_185 rfl))) (hnd (hlf (ok_aload_n dX1_reasonOfPeople_4 rfl rfl)) (hnd (hlf (ok_getfN (C := RX9) (T := TX9) dX1_reasonOfPeople_5 rfl rfl (by decide) rfl inX9 wd_235 rfl)) (hlf (ok_callV (y := yX2_prisonerAt) (n' := 1) (C := RX2) (T := TX2) dX1_reasonOfPeople_8 ct_X2_prisonerAt (by decide) (by decide) wd_386 wd_424 wd_384 wd_385 wd_42 rfl (by decide +kernel) rfl rfl rfl))))) (hnd (hnd (hlf (ok_astore_n dX1_reasonOfPeople_11 rfl (by decide) rfl)) (hlf (ok_aload_n dX1_reasonOfPeople_12 rfl rfl))) (hnd (hlf (ok_ifnull dX1_reasonOfPeople_13 (by decide) rfl)) (hnd (hlf (ok_aload_n dX1_reasonOfPeople_16 rfl rfl)) (hlf (ok_getfN (C := RX3) (T := TX3) dX1_reasonOfPeople_17 rfl rfl (by decide) rfl inX3 wd_341 rfl)))))) (hnd (hnd (hnd (hlf (ok_if_ne dX1_reasonOfPeople_20 (by decide) rfl)) (hlf (ok_iconst dX1_reasonOfPeople_23 (by decide) rfl))) (hnd (hlf (ok_iret dX1_reasonOfPeople_24)) (hnd (hlf (ok_aload_n dX1_reasonOfPeople_25 rfl rfl)) (hlf (ok_getf (C := RX1) (T := TX1) dX1_reasonOfPeople_26 rfl rfl (by decide) rfl inX1 wd_185 rfl))))) (hnd (hnd (hlf (ok_aload_n dX1_reasonOfPeople_29 rfl rfl)) (hlf (ok_aload_n dX1_reasonOfPeople_30 rfl rfl))) (hnd (hlf (ok_getfN (C := RX9) (T := TX9) dX1_reasonOfPeople_31 rfl rfl (by decide) rfl inX9 wd_240 rfl)) (hnd (hlf (ok_callV (y := yX2_areListed) (n' := 2) (C := RX2) (T := TX2) dX1_reasonOfPeople_34 ct_X2_areListed (by decide) (by decide) wd_428 wd_425 wd_426 wd_427 wd_42 rfl (by decide +kernel) rfl rfl rfl)) (hlf (ok_if_ne dX1_reasonOfPeople_37 (by decide) rfl))))))) (hnd (hnd (hnd (hnd (hlf (ok_iconst dX1_reasonOfPeople_40 (by decide) rfl)) (hlf (ok_iret dX1_reasonOfPeople_41))) (hnd (hlf (ok_aload_n dX1_reasonOfPeople_42 rfl rfl)) (hnd (hlf (ok_aload_n dX1_reasonOfPeople_43 rfl rfl)) (hlf (ok_getfN (C := RX9) (T := TX9) dX1_reasonOfPeople_44 rfl rfl (by decide) rfl inX9 wd_240 rfl))))) (hnd (hnd (hlf (ok_aload_n dX1_reasonOfPeople_47 rfl rfl)) (hlf (ok_getfN (C := RX9) (T := TX9) dX1_reasonOfPeople_48 rfl rfl (by decide) rfl inX9 wd_246 rfl))) (hnd (hlf (ok_callV (y := yX3_isBarred) (n' := 2) (C := RX3) (T := TX3) dX1_reasonOfPeople_51 ct_X3_isBarred (by decide) (by decide) wd_432 wd_429 wd_430 wd_431 wd_51 rfl (by decide +kernel) rfl rfl rfl)) (hnd (hlf (ok_if_eq dX1_reasonOfPeople_54 (by decide) rfl)) (hlf (ok_iconst dX1_reasonOfPeople_57 (by decide) rfl)))))) (hnd (hnd (hnd (hlf (ok_iret dX1_reasonOfPeople_58)) (hlf (ok_aload_n dX1_reasonOfPeople_59 rfl rfl))) (hnd (hlf (ok_getf (C := RX1) (T := TX1) dX1_reasonOfPeople_60 rfl rfl (by decide) rfl inX1 wd_185 rfl)) (hnd (hlf (ok_aload_n dX1_reasonOfPeople_63 rfl rfl)) (hlf (ok_getfN (C := RX9) (T := TX9) dX1_reasonOfPeople_64 rfl rfl (by decide) rfl inX9 wd_240 rfl))))) (hnd (hnd (hlf (ok_callV (y := yX2_needsKin) (n' := 1) (C := RX2) (T := TX2) dX1_reasonOfPeople_67 ct_X2_needsKin (by decide) (by decide) wd_436 wd_433 wd_434 wd_435 wd_42 rfl (by decide +kernel) rfl rfl rfl)) (hnd (hlf (ok_if_eq dX1_reasonOfPeople_70 (by decide) rfl)) (hlf (ok_iconst dX1_reasonOfPeople_73 (by decide) rfl)))) (hnd (hlf (ok_goto dX1_reasonOfPeople_74 (by decide))) (hnd (hlf (ok_iconst dX1_reasonOfPeople_77 (by decide) rfl)) (hlf (ok_iret dX1_reasonOfPeople_78)))))))

theorem vc_X1_reasonOfPeople : MVC ins_X1_reasonOfPeople 3 2 sp_X1_reasonOfPeople := by
  refine mvc0 80 fun as w σ q hl hs => ?_
  unfold sp_X1_reasonOfPeople at hs
  split at hs
  rotate_left
  · exact hs.elim
  rename_i v
  obtain ⟨np, p, hP, hp, hv, hs⟩ := hs
  unfold rpC at hs
  refine ⟨np, hP, fun i hi e => ?_, fun h => absurd (pa_in hP hp hv) h⟩
  obtain rfl := pa_eq hP hp hv hi e
  apply br2
  · intro h1
    rw [cif_p h1] at hs
    exact hs
  intro h1
  rw [cif_n h1] at hs
  apply br2
  rotate_left
  · intro h2
    rw [cif_p h2] at hs
    exact And.intro (fun _ => hs) (fun h => absurd rfl h)
  intro h2
  rw [cif_n (not_not_intro h2)] at hs
  refine And.intro (fun h => absurd h (by decide)) (fun _ => ?_)
  apply br2
  · intro h3
    rw [cif_p h3] at hs
    exact And.intro (fun h => absurd h (by decide)) (fun _ => hs)
  intro h3
  rw [cif_n h3] at hs
  refine And.intro (fun _ => ?_) (fun h => absurd rfl h)
  apply br2
  · intro h4
    rw [cif_p h4] at hs
    exact And.intro (fun h => absurd h (by decide)) (fun _ => hs)
  · intro h4
    rw [cif_n h4] at hs
    exact And.intro (fun _ => hs) (fun h => absurd rfl h)
theorem ct_X1_reasonOfPeople : Ctr yX1_reasonOfPeople cX1_reasonOfPeople 3 (some .int) 3 0 0 2 sp_X1_reasonOfPeople := ctr_of (by decide +kernel) rfl (by decide) ok_X1_reasonOfPeople vc_X1_reasonOfPeople

/-- rivals: the families of prisoner p and of visit i's prisoner -/
abbrev rvI (σ : HS) (p i : Nat) : Prop := σ 13 2 (σ 3 p 1).toNatClampNeg >>> (σ 3 (σ 9 i 0).toNatClampNeg 1 &&& 31) &&& 1 = 1
/-- every visit's prisoner is known, every prisoner's family -/
abbrev Vp (σ : HS) (np n : Nat) : Prop := ∀ i, i < n → ∃ q, q < np ∧ σ 9 i 0 = nI q
abbrev Fp (σ : HS) (np : Nat) : Prop := ∀ p, p < np → ∃ f, f < 10 ∧ σ 3 p 1 = nI f
abbrev mrC (σ : HS) (n v : Nat) : Prop := ∃ i, i < n ∧ σ 9 i 6 = 0 ∧ shH σ i v ∧ rvI σ (σ 9 v 0).toNatClampNeg i
abbrev hmC (σ : HS) (n v : Nat) : Prop := ∃ i, i < n ∧ σ 9 i 6 = 0 ∧ shH σ i v ∧ shP σ i v
def sp_X1_meetsRivals : HSp := fun as w σ K => match as with
  | [.inr (.inl (1, some 0)), .inr (.inl (9, some v))] => ∃ n np p, Bk w σ n ∧ Pk w σ np ∧ p < np ∧ σ 9 v 0 = nI p ∧ Vp σ np n ∧ Fp σ np ∧ spZ (mrC σ n v) w σ K
  | _ => False
theorem dX1_meetsRivals_0 : decode cX1_meetsRivals 0 = .ok (.aload_n 0, 1) := by decide +kernel
theorem dX1_meetsRivals_1 : decode cX1_meetsRivals 1 = .ok (.getfield 21, 3) := by decide +kernel
theorem dX1_meetsRivals_4 : decode cX1_meetsRivals 4 = .ok (.aload_n 1, 1) := by decide +kernel
theorem dX1_meetsRivals_5 : decode cX1_meetsRivals 5 = .ok (.getfield 102, 3) := by decide +kernel
theorem dX1_meetsRivals_8 : decode cX1_meetsRivals 8 = .ok (.invokevirtual 105, 3) := by decide +kernel
theorem dX1_meetsRivals_11 : decode cX1_meetsRivals 11 = .ok (.astore_n 2, 1) := by decide +kernel
theorem dX1_meetsRivals_12 : decode cX1_meetsRivals 12 = .ok (.iconst 0, 1) := by decide +kernel
theorem dX1_meetsRivals_13 : decode cX1_meetsRivals 13 = .ok (.istore_n 3, 1) := by decide +kernel
theorem dX1_meetsRivals_14 : decode cX1_meetsRivals 14 = .ok (.iload_n 3, 1) := by decide +kernel
theorem dX1_meetsRivals_15 : decode cX1_meetsRivals 15 = .ok (.aload_n 0, 1) := by decide +kernel
theorem dX1_meetsRivals_16 : decode cX1_meetsRivals 16 = .ok (.getfield 29, 3) := by decide +kernel
theorem dX1_meetsRivals_19 : decode cX1_meetsRivals 19 = .ok (.getfield 82, 3) := by decide +kernel
theorem dX1_meetsRivals_22 : decode cX1_meetsRivals 22 = .ok (.if_icmp .ge 81, 3) := by decide +kernel
theorem dX1_meetsRivals_25 : decode cX1_meetsRivals 25 = .ok (.aload_n 0, 1) := by decide +kernel
theorem dX1_meetsRivals_26 : decode cX1_meetsRivals 26 = .ok (.getfield 29, 3) := by decide +kernel
theorem dX1_meetsRivals_29 : decode cX1_meetsRivals 29 = .ok (.getfield 85, 3) := by decide +kernel
theorem dX1_meetsRivals_32 : decode cX1_meetsRivals 32 = .ok (.iload_n 3, 1) := by decide +kernel
theorem dX1_meetsRivals_33 : decode cX1_meetsRivals 33 = .ok (.aaload, 1) := by decide +kernel
theorem dX1_meetsRivals_34 : decode cX1_meetsRivals 34 = .ok (.astore 4, 2) := by decide +kernel
theorem dX1_meetsRivals_36 : decode cX1_meetsRivals 36 = .ok (.aload_n 0, 1) := by decide +kernel
theorem dX1_meetsRivals_37 : decode cX1_meetsRivals 37 = .ok (.getfield 21, 3) := by decide +kernel
theorem dX1_meetsRivals_40 : decode cX1_meetsRivals 40 = .ok (.aload 4, 2) := by decide +kernel
theorem dX1_meetsRivals_42 : decode cX1_meetsRivals 42 = .ok (.getfield 102, 3) := by decide +kernel
theorem dX1_meetsRivals_45 : decode cX1_meetsRivals 45 = .ok (.invokevirtual 105, 3) := by decide +kernel
theorem dX1_meetsRivals_48 : decode cX1_meetsRivals 48 = .ok (.astore 5, 2) := by decide +kernel
theorem dX1_meetsRivals_50 : decode cX1_meetsRivals 50 = .ok (.aload_n 2, 1) := by decide +kernel
theorem dX1_meetsRivals_51 : decode cX1_meetsRivals 51 = .ok (.ifnull 46, 3) := by decide +kernel
theorem dX1_meetsRivals_54 : decode cX1_meetsRivals 54 = .ok (.aload 5, 2) := by decide +kernel
theorem dX1_meetsRivals_56 : decode cX1_meetsRivals 56 = .ok (.ifnull 41, 3) := by decide +kernel
theorem dX1_meetsRivals_59 : decode cX1_meetsRivals 59 = .ok (.aload_n 0, 1) := by decide +kernel
theorem dX1_meetsRivals_60 : decode cX1_meetsRivals 60 = .ok (.getfield 21, 3) := by decide +kernel
theorem dX1_meetsRivals_63 : decode cX1_meetsRivals 63 = .ok (.aload_n 2, 1) := by decide +kernel
theorem dX1_meetsRivals_64 : decode cX1_meetsRivals 64 = .ok (.getfield 190, 3) := by decide +kernel
theorem dX1_meetsRivals_67 : decode cX1_meetsRivals 67 = .ok (.aload 5, 2) := by decide +kernel
theorem dX1_meetsRivals_69 : decode cX1_meetsRivals 69 = .ok (.getfield 190, 3) := by decide +kernel
theorem dX1_meetsRivals_72 : decode cX1_meetsRivals 72 = .ok (.invokevirtual 193, 3) := by decide +kernel
theorem dX1_meetsRivals_75 : decode cX1_meetsRivals 75 = .ok (.ifCond .eq 22, 3) := by decide +kernel
theorem dX1_meetsRivals_78 : decode cX1_meetsRivals 78 = .ok (.aload 4, 2) := by decide +kernel
theorem dX1_meetsRivals_80 : decode cX1_meetsRivals 80 = .ok (.getfield 79, 3) := by decide +kernel
theorem dX1_meetsRivals_83 : decode cX1_meetsRivals 83 = .ok (.ifCond .ne 14, 3) := by decide +kernel
theorem dX1_meetsRivals_86 : decode cX1_meetsRivals 86 = .ok (.aload 4, 2) := by decide +kernel
theorem dX1_meetsRivals_88 : decode cX1_meetsRivals 88 = .ok (.aload_n 1, 1) := by decide +kernel
theorem dX1_meetsRivals_89 : decode cX1_meetsRivals 89 = .ok (.invokevirtual 196, 3) := by decide +kernel
theorem dX1_meetsRivals_92 : decode cX1_meetsRivals 92 = .ok (.ifCond .eq 5, 3) := by decide +kernel
theorem dX1_meetsRivals_95 : decode cX1_meetsRivals 95 = .ok (.iconst 1, 1) := by decide +kernel
theorem dX1_meetsRivals_96 : decode cX1_meetsRivals 96 = .ok (.ireturn, 1) := by decide +kernel
theorem dX1_meetsRivals_97 : decode cX1_meetsRivals 97 = .ok (.iinc 3 1, 3) := by decide +kernel
theorem dX1_meetsRivals_100 : decode cX1_meetsRivals 100 = .ok (.goto (-86), 3) := by decide +kernel
theorem dX1_meetsRivals_103 : decode cX1_meetsRivals 103 = .ok (.iconst 0, 1) := by decide +kernel
theorem dX1_meetsRivals_104 : decode cX1_meetsRivals 104 = .ok (.ireturn, 1) := by decide +kernel
def ins_X1_meetsRivals (pc : Nat) : HOp := cond (Nat.blt pc 50) (cond (Nat.blt pc 22) (cond (Nat.blt pc 12) (cond (Nat.blt pc 5) (cond (Nat.blt pc 1) (cond (Nat.beq pc 0) (o_aload 0 1) o_bad) (cond (Nat.blt pc 4) (cond (Nat.beq pc 1) (o_getf 1 0 4) o_bad) (cond (Nat.beq pc 4) (o_aload 1 5) o_bad))) (cond (Nat.blt pc 8) (cond (Nat.beq pc 5) (o_getf 9 0 8) o_bad) (cond (Nat.blt pc 11) (cond (Nat.beq pc 8) (o_callV 2 2 sp_X2_prisonerAt 11) o_bad) (cond (Nat.beq pc 11) (o_astore 2 12) o_bad)))) (cond (Nat.blt pc 15) (cond (Nat.blt pc 13) (cond (Nat.beq pc 12) (o_const (0) 13) o_bad) (cond (Nat.blt pc 14) (cond (Nat.beq pc 13) (o_istore 3 14) o_bad) (cond (Nat.beq pc 14) (o_iload 3 15) o_bad))) (cond (Nat.blt pc 16) (cond (Nat.beq pc 15) (o_aload 0 16) o_bad) (cond (Nat.blt pc 19) (cond (Nat.beq pc 16) (o_getf 1 2 19) o_bad) (cond (Nat.beq pc 19) (o_getf 0 1 22) o_bad))))) (cond (Nat.blt pc 34) (cond (Nat.blt pc 29) (cond (Nat.blt pc 25) (cond (Nat.beq pc 22) (o_icmp (fun x y => y ≤ x) 103 25) o_bad) (cond (Nat.blt pc 26) (cond (Nat.beq pc 25) (o_aload 0 26) o_bad) (cond (Nat.beq pc 26) (o_getf 1 2 29) o_bad))) (cond (Nat.blt pc 32) (cond (Nat.beq pc 29) (o_getf 0 0 32) o_bad) (cond (Nat.blt pc 33) (cond (Nat.beq pc 32) (o_iload 3 33) o_bad) (cond (Nat.beq pc 33) (o_aald 34) o_bad)))) (cond (Nat.blt pc 40) (cond (Nat.blt pc 36) (cond (Nat.beq pc 34) (o_astore 4 36) o_bad) (cond (Nat.blt pc 37) (cond (Nat.beq pc 36) (o_aload 0 37) o_bad) (cond (Nat.beq pc 37) (o_getf 1 0 40) o_bad))) (cond (Nat.blt pc 45) (cond (Nat.blt pc 42) (cond (Nat.beq pc 40) (o_aload 4 42) o_bad) (cond (Nat.beq pc 42) (o_getf 9 0 45) o_bad)) (cond (Nat.blt pc 48) (cond (Nat.beq pc 45) (o_callV 2 2 sp_X2_prisonerAt 48) o_bad) (cond (Nat.beq pc 48) (o_astore 5 50) o_bad)))))) (cond (Nat.blt pc 78) (cond (Nat.blt pc 63) (cond (Nat.blt pc 56) (cond (Nat.blt pc 51) (cond (Nat.beq pc 50) (o_aload 2 51) o_bad) (cond (Nat.blt pc 54) (cond (Nat.beq pc 51) (o_ifnull 97 54) o_bad) (cond (Nat.beq pc 54) (o_aload 5 56) o_bad))) (cond (Nat.blt pc 59) (cond (Nat.beq pc 56) (o_ifnull 97 59) o_bad) (cond (Nat.blt pc 60) (cond (Nat.beq pc 59) (o_aload 0 60) o_bad) (cond (Nat.beq pc 60) (o_getf 1 0 63) o_bad)))) (cond (Nat.blt pc 69) (cond (Nat.blt pc 64) (cond (Nat.beq pc 63) (o_aload 2 64) o_bad) (cond (Nat.blt pc 67) (cond (Nat.beq pc 64) (o_getf 3 1 67) o_bad) (cond (Nat.beq pc 67) (o_aload 5 69) o_bad))) (cond (Nat.blt pc 72) (cond (Nat.beq pc 69) (o_getf 3 1 72) o_bad) (cond (Nat.blt pc 75) (cond (Nat.beq pc 72) (o_callV 3 2 sp_X2_areRivals 75) o_bad) (cond (Nat.beq pc 75) (o_if (fun x => x = 0) 97 78) o_bad))))) (cond (Nat.blt pc 92) (cond (Nat.blt pc 86) (cond (Nat.blt pc 80) (cond (Nat.beq pc 78) (o_aload 4 80) o_bad) (cond (Nat.blt pc 83) (cond (Nat.beq pc 80) (o_getf 9 6 83) o_bad) (cond (Nat.beq pc 83) (o_if (fun x => x = 0) 86 97) o_bad))) (cond (Nat.blt pc 88) (cond (Nat.beq pc 86) (o_aload 4 88) o_bad) (cond (Nat.blt pc 89) (cond (Nat.beq pc 88) (o_aload 1 89) o_bad) (cond (Nat.beq pc 89) (o_callV 2 9 sp_X9_sharesHalfWith 92) o_bad)))) (cond (Nat.blt pc 97) (cond (Nat.blt pc 95) (cond (Nat.beq pc 92) (o_if (fun x => x = 0) 97 95) o_bad) (cond (Nat.blt pc 96) (cond (Nat.beq pc 95) (o_const (1) 96) o_bad) (cond (Nat.beq pc 96) (o_zret) o_bad))) (cond (Nat.blt pc 103) (cond (Nat.blt pc 100) (cond (Nat.beq pc 97) (o_iinc 3 (1) 100) o_bad) (cond (Nat.beq pc 100) (o_goto 14) o_bad)) (cond (Nat.blt pc 104) (cond (Nat.beq pc 103) (o_const (0) 104) o_bad) (cond (Nat.beq pc 104) (o_zret) o_bad))))))
set_option maxRecDepth 20000 in
theorem ok_X1_meetsRivals : HOKs cX1_meetsRivals RX1 6 (some .boolean) 3 ins_X1_meetsRivals := fun _ => hnd (hnd (hnd (hnd (hnd (hlf (ok_aload_n dX1_meetsRivals_0 rfl rfl)) (hnd (hlf (ok_getf (C := RX1) (T := TX1) dX1_meetsRivals_1 rfl rfl (by decide) rfl inX1 wd_185 rfl)) (hlf (ok_aload_n dX1_meetsRivals_4 rfl rfl)))) (hnd (hlf (ok_getfN (C := RX9) (T := TX9) dX1_meetsRivals_5 rfl rfl (by decide) rfl inX9 wd_235 rfl)) (hnd (hlf (ok_callV (y := yX2_prisonerAt) (n' := 1) (C := RX2) (T := TX2) dX1_meetsRivals_8 ct_X2_prisonerAt (by decide) (by decide) wd_386 wd_424 wd_384 wd_385 wd_42 rfl (by decide +kernel) rfl rfl rfl)) (hlf (ok_astore_n dX1_meetsRivals_11 rfl (by decide) rfl))))) (hnd (hnd (hlf (ok_iconst dX1_meetsRivals_12 (by decide) rfl)) (hnd (hlf (ok_istore_n dX1_meetsRivals_13 rfl (by decide) rfl)) (hlf (ok_iload_n dX1_meetsRivals_14 rfl rfl)))) (hnd (hlf (ok_aload_n dX1_meetsRivals_15 rfl rfl)) (hnd (hlf (ok_getf (C := RX1) (T := TX1) dX1_meetsRivals_16 rfl rfl (by decide) rfl inX1 wd_187 rfl)) (hlf (ok_getfN (C := RX0) (T := TX0) dX1_meetsRivals_19 rfl rfl (by decide) rfl inX0 wd_150 rfl)))))) (hnd (hnd (hnd (hlf (ok_icmp_ge dX1_meetsRivals_22 (by decide) rfl)) (hnd (hlf (ok_aload_n dX1_meetsRivals_25 rfl rfl)) (hlf (ok_getf (C := RX1) (T := TX1) dX1_meetsRivals_26 rfl rfl (by decide) rfl inX1 wd_187 rfl)))) (hnd (hlf (ok_getfN (C := RX0) (T := TX0) dX1_meetsRivals_29 rfl rfl (by decide) rfl inX0 wd_147 rfl)) (hnd (hlf (ok_iload_n dX1_meetsRivals_32 rfl rfl)) (hlf (ok_aald dX1_meetsRivals_33 rfl))))) (hnd (hnd (hlf (ok_astore dX1_meetsRivals_34 (by decide) rfl)) (hnd (hlf (ok_aload_n dX1_meetsRivals_36 rfl rfl)) (hlf (ok_getf (C := RX1) (T := TX1) dX1_meetsRivals_37 rfl rfl (by decide) rfl inX1 wd_185 rfl)))) (hnd (hnd (hlf (ok_aload dX1_meetsRivals_40 rfl)) (hlf (ok_getfN (C := RX9) (T := TX9) dX1_meetsRivals_42 rfl rfl (by decide) rfl inX9 wd_235 rfl))) (hnd (hlf (ok_callV (y := yX2_prisonerAt) (n' := 1) (C := RX2) (T := TX2) dX1_meetsRivals_45 ct_X2_prisonerAt (by decide) (by decide) wd_386 wd_424 wd_384 wd_385 wd_42 rfl (by decide +kernel) rfl rfl rfl)) (hlf (ok_astore dX1_meetsRivals_48 (by decide) rfl))))))) (hnd (hnd (hnd (hnd (hlf (ok_aload_n dX1_meetsRivals_50 rfl rfl)) (hnd (hlf (ok_ifnull dX1_meetsRivals_51 (by decide) rfl)) (hlf (ok_aload dX1_meetsRivals_54 rfl)))) (hnd (hlf (ok_ifnull dX1_meetsRivals_56 (by decide) rfl)) (hnd (hlf (ok_aload_n dX1_meetsRivals_59 rfl rfl)) (hlf (ok_getf (C := RX1) (T := TX1) dX1_meetsRivals_60 rfl rfl (by decide) rfl inX1 wd_185 rfl))))) (hnd (hnd (hlf (ok_aload_n dX1_meetsRivals_63 rfl rfl)) (hnd (hlf (ok_getfN (C := RX3) (T := TX3) dX1_meetsRivals_64 rfl rfl (by decide) rfl inX3 wd_339 rfl)) (hlf (ok_aload dX1_meetsRivals_67 rfl)))) (hnd (hlf (ok_getfN (C := RX3) (T := TX3) dX1_meetsRivals_69 rfl rfl (by decide) rfl inX3 wd_339 rfl)) (hnd (hlf (ok_callV (y := yX2_areRivals) (n' := 2) (C := RX2) (T := TX2) dX1_meetsRivals_72 ct_X2_areRivals (by decide) (by decide) wd_490 wd_487 wd_488 wd_489 wd_42 rfl (by decide +kernel) rfl rfl rfl)) (hlf (ok_if_eq dX1_meetsRivals_75 (by decide) rfl)))))) (hnd (hnd (hnd (hlf (ok_aload dX1_meetsRivals_78 rfl)) (hnd (hlf (ok_getfN (C := RX9) (T := TX9) dX1_meetsRivals_80 rfl rfl (by decide) rfl inX9 wd_262 rfl)) (hlf (ok_if_ne dX1_meetsRivals_83 (by decide) rfl)))) (hnd (hlf (ok_aload dX1_meetsRivals_86 rfl)) (hnd (hlf (ok_aload_n dX1_meetsRivals_88 rfl rfl)) (hlf (ok_callV (y := yX9_sharesHalfWith) (n' := 1) (C := RX9) (T := TX9) dX1_meetsRivals_89 ct_X9_sharesHalfWith (by decide) (by decide) wd_478 wd_491 wd_476 wd_477 wd_49 rfl (by decide +kernel) rfl rfl rfl))))) (hnd (hnd (hlf (ok_if_eq dX1_meetsRivals_92 (by decide) rfl)) (hnd (hlf (ok_iconst dX1_meetsRivals_95 (by decide) rfl)) (hlf (ok_zret dX1_meetsRivals_96)))) (hnd (hnd (hlf (ok_iinc dX1_meetsRivals_97 (by decide) (by decide) rfl)) (hlf (ok_goto dX1_meetsRivals_100 (by decide)))) (hnd (hlf (ok_iconst dX1_meetsRivals_103 (by decide) rfl)) (hlf (ok_zret dX1_meetsRivals_104)))))))

theorem vc_X1_meetsRivals : MVC ins_X1_meetsRivals 6 2 sp_X1_meetsRivals := by
  refine mvc1 14 100 fun as w σ q hl hs => ?_
  unfold sp_X1_meetsRivals at hs
  split at hs
  rotate_left
  · exact hs.elim
  rename_i v
  obtain ⟨n, np, p, ⟨hn, hsz, hra⟩, hP, hp, hv, hV, hF, hq⟩ := hs
  have h10 := hP.1
  have ep : (σ 9 v 0).toNatClampNeg = p := by rw [hv]; exact nI_clamp (by omega)
  obtain ⟨f, hf, hf2⟩ := hF p hp
  have ef : (σ 3 p 1).toNatClampNeg = f := by rw [hf2]; exact nI_clamp (by omega)
  refine ⟨fun N ls st w' σ' => ∃ (i : Nat) (u : Int32) (x y : Option HV), i ≤ n ∧ N = n - i ∧ u = nI i ∧ (∀ j, j < i → ¬ (σ 9 j 6 = 0 ∧ shH σ j v ∧ rvI σ (σ 9 v 0).toNatClampNeg j)) ∧ ls = [some (HR 1 0), some (HR 9 v), some (HR 3 p), some (HI u), x, y] ∧ st = [] ∧ w = w' ∧ σ = σ', ?_, ?_⟩
  · rintro N ls st w' σ' ⟨i, u, x, y, hi, rfl, rfl, hno, rfl, rfl, rfl, rfl⟩
    apply br2
    · intro h1
      obtain rfl := lp_end hsz hi h1
      exact ⟨Or.inl rfl, hq.2 fun ⟨j, h1, h2⟩ => hno j h1 h2⟩
    · intro h1
      have hlt := lp_go hsz hi h1
      refine And.intro (vp_in_nI (N := 100) (by omega) (by decide)) (fun o ho => ?_)
      obtain rfl := ra_at ho (hra i hlt)
      obtain ⟨q', hq1, hq2⟩ := hV i hlt
      refine ⟨np, hP, fun j hj e => ?_, fun h => absurd (pa_in hP hq1 hq2) h⟩
      obtain rfl := pa_eq hP hq1 hq2 hj e
      have eq' : (σ 9 i 0).toNatClampNeg = j := by rw [hq2]; exact nI_clamp (by omega)
      have no : ¬ (σ 9 i 6 = 0 ∧ shH σ i v ∧ rvI σ (σ 9 v 0).toNatClampNeg i) → ∃ N', N' < n - i ∧ ∃ (i' : Nat) (u : Int32) (x y : Option HV), i' ≤ n ∧ N' = n - i' ∧ u = nI i' ∧ (∀ j, j < i' → ¬ (σ 9 j 6 = 0 ∧ shH σ j v ∧ rvI σ (σ 9 v 0).toNatClampNeg j)) ∧ [some (HR 1 0), some (HR 9 v), some (HR 3 p), some (HI (nI i + 1)), some (HR 9 i), some (HR 3 j)] = [some (HR 1 0), some (HR 9 v), some (HR 3 p), some (HI u), x, y] ∧ ([] : List HV) = [] ∧ w = w ∧ σ = σ := fun h =>
        ⟨n - (i + 1), by omega, i + 1, _, _, _, hlt, rfl, nI_1 i, fun j hj => (Nat.lt_succ_iff_lt_or_eq.mp hj).elim (hno j) (fun e => e ▸ h), rfl, rfl, rfl, rfl⟩
      have hr : rvI σ (σ 9 v 0).toNatClampNeg i ↔ σ 13 2 f >>> (σ 3 j 1 &&& 31) &&& 1 = 1 := by
        unfold rvI
        rw [ep, ef, eq']
      refine ⟨f, hf, hf2, ?_⟩
      apply br2
      rotate_left
      · intro h4
        exact And.intro (fun _ => no fun h => h4 (hr.mp h.2.2)) (fun h => absurd rfl h)
      intro h4
      refine And.intro (fun h => absurd h (by decide)) (fun _ => ?_)
      apply br2
      rotate_left
      · intro h2
        exact no fun h => h2 h.1
      intro h2
      apply br2
      · intro h3
        exact And.intro (fun h => absurd h (by decide)) (fun _ => ⟨Or.inr rfl, hq.1 ⟨i, hlt, h2, h3, hr.mpr h4⟩⟩)
      · intro h3
        exact And.intro (fun _ => no fun h => h3 h.2.1) (fun h => absurd rfl h)
  · refine ⟨np, hP, fun j hj e => ?_, fun h => absurd (pa_in hP hp hv) h⟩
    obtain rfl := pa_eq hP hp hv hj e
    exact ⟨n, 0, 0, none, none, Nat.zero_le _, rfl, rfl, fun j hj => absurd hj (by omega), rfl, rfl, rfl, rfl⟩
theorem ct_X1_meetsRivals : Ctr yX1_meetsRivals cX1_meetsRivals 6 (some .boolean) 3 0 0 2 sp_X1_meetsRivals := ctr_of (by decide +kernel) rfl (by decide) ok_X1_meetsRivals vc_X1_meetsRivals

abbrev ntC (σ : HS) (n v a b : Nat) : Prop := ∃ h, a ≤ h ∧ h < a + b ∧ ¬ nI (cnt (fun i => decide (atL σ i (σ 9 v 2) (nI h))) n) < tbC σ (σ 9 v 2)
noncomputable def rhC (σ : HS) (n v a b : Nat) : Int32 := cif (hmC σ n v) 7 (cif (mrC σ n v) 8 (cif (ntC σ n v a b) 9 0))
def sp_X1_reasonOfHall : HSp := fun as w σ K => match as with
  | [.inr (.inl (1, some 0)), .inr (.inl (9, some v))] => ∃ n np p a b, Bk w σ n ∧ Pk w σ np ∧ p < np ∧ σ 9 v 0 = nI p ∧ Vp σ np n ∧ Fp σ np ∧ σ 7 0 1 ≤ 60 ∧ σ 9 v 3 = nI a ∧ σ 9 v 4 = nI b ∧ a + b ≤ 12 ∧ K (some (HI (rhC σ n v a b))) w σ
  | _ => False
theorem dX1_reasonOfHall_0 : decode cX1_reasonOfHall 0 = .ok (.aload_n 0, 1) := by decide +kernel
theorem dX1_reasonOfHall_1 : decode cX1_reasonOfHall 1 = .ok (.getfield 29, 3) := by decide +kernel
theorem dX1_reasonOfHall_4 : decode cX1_reasonOfHall 4 = .ok (.aload_n 1, 1) := by decide +kernel
theorem dX1_reasonOfHall_5 : decode cX1_reasonOfHall 5 = .ok (.invokevirtual 171, 3) := by decide +kernel
theorem dX1_reasonOfHall_8 : decode cX1_reasonOfHall 8 = .ok (.ifCond .eq 6, 3) := by decide +kernel
theorem dX1_reasonOfHall_11 : decode cX1_reasonOfHall 11 = .ok (.bipush 7, 2) := by decide +kernel
theorem dX1_reasonOfHall_13 : decode cX1_reasonOfHall 13 = .ok (.ireturn, 1) := by decide +kernel
theorem dX1_reasonOfHall_14 : decode cX1_reasonOfHall 14 = .ok (.aload_n 0, 1) := by decide +kernel
theorem dX1_reasonOfHall_15 : decode cX1_reasonOfHall 15 = .ok (.aload_n 1, 1) := by decide +kernel
theorem dX1_reasonOfHall_16 : decode cX1_reasonOfHall 16 = .ok (.invokevirtual 174, 3) := by decide +kernel
theorem dX1_reasonOfHall_19 : decode cX1_reasonOfHall 19 = .ok (.ifCond .eq 6, 3) := by decide +kernel
theorem dX1_reasonOfHall_22 : decode cX1_reasonOfHall 22 = .ok (.bipush 8, 2) := by decide +kernel
theorem dX1_reasonOfHall_24 : decode cX1_reasonOfHall 24 = .ok (.ireturn, 1) := by decide +kernel
theorem dX1_reasonOfHall_25 : decode cX1_reasonOfHall 25 = .ok (.aload_n 0, 1) := by decide +kernel
theorem dX1_reasonOfHall_26 : decode cX1_reasonOfHall 26 = .ok (.aload_n 1, 1) := by decide +kernel
theorem dX1_reasonOfHall_27 : decode cX1_reasonOfHall 27 = .ok (.getfield 89, 3) := by decide +kernel
theorem dX1_reasonOfHall_30 : decode cX1_reasonOfHall 30 = .ok (.invokevirtual 177, 3) := by decide +kernel
theorem dX1_reasonOfHall_33 : decode cX1_reasonOfHall 33 = .ok (.istore_n 2, 1) := by decide +kernel
theorem dX1_reasonOfHall_34 : decode cX1_reasonOfHall 34 = .ok (.aload_n 1, 1) := by decide +kernel
theorem dX1_reasonOfHall_35 : decode cX1_reasonOfHall 35 = .ok (.getfield 181, 3) := by decide +kernel
theorem dX1_reasonOfHall_38 : decode cX1_reasonOfHall 38 = .ok (.istore_n 3, 1) := by decide +kernel
theorem dX1_reasonOfHall_39 : decode cX1_reasonOfHall 39 = .ok (.iload_n 3, 1) := by decide +kernel
theorem dX1_reasonOfHall_40 : decode cX1_reasonOfHall 40 = .ok (.aload_n 1, 1) := by decide +kernel
theorem dX1_reasonOfHall_41 : decode cX1_reasonOfHall 41 = .ok (.getfield 181, 3) := by decide +kernel
theorem dX1_reasonOfHall_44 : decode cX1_reasonOfHall 44 = .ok (.aload_n 1, 1) := by decide +kernel
theorem dX1_reasonOfHall_45 : decode cX1_reasonOfHall 45 = .ok (.getfield 184, 3) := by decide +kernel
theorem dX1_reasonOfHall_48 : decode cX1_reasonOfHall 48 = .ok (.iadd, 1) := by decide +kernel
theorem dX1_reasonOfHall_49 : decode cX1_reasonOfHall 49 = .ok (.if_icmp .ge 28, 3) := by decide +kernel
theorem dX1_reasonOfHall_52 : decode cX1_reasonOfHall 52 = .ok (.aload_n 0, 1) := by decide +kernel
theorem dX1_reasonOfHall_53 : decode cX1_reasonOfHall 53 = .ok (.getfield 29, 3) := by decide +kernel
theorem dX1_reasonOfHall_56 : decode cX1_reasonOfHall 56 = .ok (.aload_n 1, 1) := by decide +kernel
theorem dX1_reasonOfHall_57 : decode cX1_reasonOfHall 57 = .ok (.getfield 89, 3) := by decide +kernel
theorem dX1_reasonOfHall_60 : decode cX1_reasonOfHall 60 = .ok (.iload_n 3, 1) := by decide +kernel
theorem dX1_reasonOfHall_61 : decode cX1_reasonOfHall 61 = .ok (.invokevirtual 187, 3) := by decide +kernel
theorem dX1_reasonOfHall_64 : decode cX1_reasonOfHall 64 = .ok (.iload_n 2, 1) := by decide +kernel
theorem dX1_reasonOfHall_65 : decode cX1_reasonOfHall 65 = .ok (.if_icmp .lt 6, 3) := by decide +kernel
theorem dX1_reasonOfHall_68 : decode cX1_reasonOfHall 68 = .ok (.bipush 9, 2) := by decide +kernel
theorem dX1_reasonOfHall_70 : decode cX1_reasonOfHall 70 = .ok (.ireturn, 1) := by decide +kernel
theorem dX1_reasonOfHall_71 : decode cX1_reasonOfHall 71 = .ok (.iinc 3 1, 3) := by decide +kernel
theorem dX1_reasonOfHall_74 : decode cX1_reasonOfHall 74 = .ok (.goto (-35), 3) := by decide +kernel
theorem dX1_reasonOfHall_77 : decode cX1_reasonOfHall 77 = .ok (.iconst 0, 1) := by decide +kernel
theorem dX1_reasonOfHall_78 : decode cX1_reasonOfHall 78 = .ok (.ireturn, 1) := by decide +kernel
def ins_X1_reasonOfHall (pc : Nat) : HOp := cond (Nat.blt pc 39) (cond (Nat.blt pc 19) (cond (Nat.blt pc 11) (cond (Nat.blt pc 4) (cond (Nat.blt pc 1) (cond (Nat.beq pc 0) (o_aload 0 1) o_bad) (cond (Nat.beq pc 1) (o_getf 1 2 4) o_bad)) (cond (Nat.blt pc 5) (cond (Nat.beq pc 4) (o_aload 1 5) o_bad) (cond (Nat.blt pc 8) (cond (Nat.beq pc 5) (o_callV 2 0 sp_X0_hasMeetingOfSamePeople 8) o_bad) (cond (Nat.beq pc 8) (o_if (fun x => x = 0) 14 11) o_bad)))) (cond (Nat.blt pc 14) (cond (Nat.blt pc 13) (cond (Nat.beq pc 11) (o_const (7) 13) o_bad) (cond (Nat.beq pc 13) (o_iret) o_bad)) (cond (Nat.blt pc 15) (cond (Nat.beq pc 14) (o_aload 0 15) o_bad) (cond (Nat.blt pc 16) (cond (Nat.beq pc 15) (o_aload 1 16) o_bad) (cond (Nat.beq pc 16) (o_callV 2 1 sp_X1_meetsRivals 19) o_bad))))) (cond (Nat.blt pc 27) (cond (Nat.blt pc 24) (cond (Nat.blt pc 22) (cond (Nat.beq pc 19) (o_if (fun x => x = 0) 25 22) o_bad) (cond (Nat.beq pc 22) (o_const (8) 24) o_bad)) (cond (Nat.blt pc 25) (cond (Nat.beq pc 24) (o_iret) o_bad) (cond (Nat.blt pc 26) (cond (Nat.beq pc 25) (o_aload 0 26) o_bad) (cond (Nat.beq pc 26) (o_aload 1 27) o_bad)))) (cond (Nat.blt pc 34) (cond (Nat.blt pc 30) (cond (Nat.beq pc 27) (o_getf 9 2 30) o_bad) (cond (Nat.blt pc 33) (cond (Nat.beq pc 30) (o_callV 2 1 sp_X1_tablesOn 33) o_bad) (cond (Nat.beq pc 33) (o_istore 2 34) o_bad))) (cond (Nat.blt pc 35) (cond (Nat.beq pc 34) (o_aload 1 35) o_bad) (cond (Nat.blt pc 38) (cond (Nat.beq pc 35) (o_getf 9 3 38) o_bad) (cond (Nat.beq pc 38) (o_istore 3 39) o_bad)))))) (cond (Nat.blt pc 57) (cond (Nat.blt pc 48) (cond (Nat.blt pc 41) (cond (Nat.blt pc 40) (cond (Nat.beq pc 39) (o_iload 3 40) o_bad) (cond (Nat.beq pc 40) (o_aload 1 41) o_bad)) (cond (Nat.blt pc 44) (cond (Nat.beq pc 41) (o_getf 9 3 44) o_bad) (cond (Nat.blt pc 45) (cond (Nat.beq pc 44) (o_aload 1 45) o_bad) (cond (Nat.beq pc 45) (o_getf 9 4 48) o_bad)))) (cond (Nat.blt pc 52) (cond (Nat.blt pc 49) (cond (Nat.beq pc 48) (o_bin (fun x y => x + y) 49) o_bad) (cond (Nat.beq pc 49) (o_icmp (fun x y => y ≤ x) 77 52) o_bad)) (cond (Nat.blt pc 53) (cond (Nat.beq pc 52) (o_aload 0 53) o_bad) (cond (Nat.blt pc 56) (cond (Nat.beq pc 53) (o_getf 1 2 56) o_bad) (cond (Nat.beq pc 56) (o_aload 1 57) o_bad))))) (cond (Nat.blt pc 68) (cond (Nat.blt pc 61) (cond (Nat.blt pc 60) (cond (Nat.beq pc 57) (o_getf 9 2 60) o_bad) (cond (Nat.beq pc 60) (o_iload 3 61) o_bad)) (cond (Nat.blt pc 64) (cond (Nat.beq pc 61) (o_callV 3 0 sp_X0_letAt 64) o_bad) (cond (Nat.blt pc 65) (cond (Nat.beq pc 64) (o_iload 2 65) o_bad) (cond (Nat.beq pc 65) (o_icmp (fun x y => x < y) 71 68) o_bad)))) (cond (Nat.blt pc 74) (cond (Nat.blt pc 70) (cond (Nat.beq pc 68) (o_const (9) 70) o_bad) (cond (Nat.blt pc 71) (cond (Nat.beq pc 70) (o_iret) o_bad) (cond (Nat.beq pc 71) (o_iinc 3 (1) 74) o_bad))) (cond (Nat.blt pc 77) (cond (Nat.beq pc 74) (o_goto 39) o_bad) (cond (Nat.blt pc 78) (cond (Nat.beq pc 77) (o_const (0) 78) o_bad) (cond (Nat.beq pc 78) (o_iret) o_bad))))))
set_option maxRecDepth 20000 in
theorem ok_X1_reasonOfHall : HOKs cX1_reasonOfHall RX1 4 (some .int) 4 ins_X1_reasonOfHall := fun _ => hnd (hnd (hnd (hnd (hnd (hlf (ok_aload_n dX1_reasonOfHall_0 rfl rfl)) (hlf (ok_getf (C := RX1) (T := TX1) dX1_reasonOfHall_1 rfl rfl (by decide) rfl inX1 wd_187 rfl))) (hnd (hlf (ok_aload_n dX1_reasonOfHall_4 rfl rfl)) (hnd (hlf (ok_callV (y := yX0_hasMeetingOfSamePeople) (n' := 1) (C := RX0) (T := TX0) dX1_reasonOfHall_5 ct_X0_hasMeetingOfSamePeople (by decide) (by decide) wd_474 wd_471 wd_472 wd_473 wd_45 rfl (by decide +kernel) rfl rfl rfl)) (hlf (ok_if_eq dX1_reasonOfHall_8 (by decide) rfl))))) (hnd (hnd (hlf (ok_bipush dX1_reasonOfHall_11 (by decide) rfl)) (hlf (ok_iret dX1_reasonOfHall_13))) (hnd (hlf (ok_aload_n dX1_reasonOfHall_14 rfl rfl)) (hnd (hlf (ok_aload_n dX1_reasonOfHall_15 rfl rfl)) (hlf (ok_callV (y := yX1_meetsRivals) (n' := 1) (C := RX1) (T := TX1) dX1_reasonOfHall_16 ct_X1_meetsRivals (by decide) (by decide) wd_486 wd_483 wd_485 wd_5 wd_47 rfl (by decide +kernel) rfl rfl rfl)))))) (hnd (hnd (hnd (hlf (ok_if_eq dX1_reasonOfHall_19 (by decide) rfl)) (hlf (ok_bipush dX1_reasonOfHall_22 (by decide) rfl))) (hnd (hlf (ok_iret dX1_reasonOfHall_24)) (hnd (hlf (ok_aload_n dX1_reasonOfHall_25 rfl rfl)) (hlf (ok_aload_n dX1_reasonOfHall_26 rfl rfl))))) (hnd (hnd (hlf (ok_getfN (C := RX9) (T := TX9) dX1_reasonOfHall_27 rfl rfl (by decide) rfl inX9 wd_246 rfl)) (hnd (hlf (ok_callV (y := yX1_tablesOn) (n' := 1) (C := RX1) (T := TX1) dX1_reasonOfHall_30 ct_X1_tablesOn (by decide) (by decide) wd_495 wd_492 wd_493 wd_494 wd_47 rfl (by decide +kernel) rfl rfl rfl)) (hlf (ok_istore_n dX1_reasonOfHall_33 rfl (by decide) rfl)))) (hnd (hlf (ok_aload_n dX1_reasonOfHall_34 rfl rfl)) (hnd (hlf (ok_getfN (C := RX9) (T := TX9) dX1_reasonOfHall_35 rfl rfl (by decide) rfl inX9 wd_250 rfl)) (hlf (ok_istore_n dX1_reasonOfHall_38 rfl (by decide) rfl))))))) (hnd (hnd (hnd (hnd (hlf (ok_iload_n dX1_reasonOfHall_39 rfl rfl)) (hlf (ok_aload_n dX1_reasonOfHall_40 rfl rfl))) (hnd (hlf (ok_getfN (C := RX9) (T := TX9) dX1_reasonOfHall_41 rfl rfl (by decide) rfl inX9 wd_250 rfl)) (hnd (hlf (ok_aload_n dX1_reasonOfHall_44 rfl rfl)) (hlf (ok_getfN (C := RX9) (T := TX9) dX1_reasonOfHall_45 rfl rfl (by decide) rfl inX9 wd_254 rfl))))) (hnd (hnd (hlf (ok_iadd dX1_reasonOfHall_48 rfl)) (hlf (ok_icmp_ge dX1_reasonOfHall_49 (by decide) rfl))) (hnd (hlf (ok_aload_n dX1_reasonOfHall_52 rfl rfl)) (hnd (hlf (ok_getf (C := RX1) (T := TX1) dX1_reasonOfHall_53 rfl rfl (by decide) rfl inX1 wd_187 rfl)) (hlf (ok_aload_n dX1_reasonOfHall_56 rfl rfl)))))) (hnd (hnd (hnd (hlf (ok_getfN (C := RX9) (T := TX9) dX1_reasonOfHall_57 rfl rfl (by decide) rfl inX9 wd_246 rfl)) (hlf (ok_iload_n dX1_reasonOfHall_60 rfl rfl))) (hnd (hlf (ok_callV (y := yX0_letAt) (n' := 2) (C := RX0) (T := TX0) dX1_reasonOfHall_61 ct_X0_letAt (by decide) (by decide) wd_504 wd_501 wd_502 wd_503 wd_45 rfl (by decide +kernel) rfl rfl rfl)) (hnd (hlf (ok_iload_n dX1_reasonOfHall_64 rfl rfl)) (hlf (ok_icmp_lt dX1_reasonOfHall_65 (by decide) rfl))))) (hnd (hnd (hlf (ok_bipush dX1_reasonOfHall_68 (by decide) rfl)) (hnd (hlf (ok_iret dX1_reasonOfHall_70)) (hlf (ok_iinc dX1_reasonOfHall_71 (by decide) (by decide) rfl)))) (hnd (hlf (ok_goto dX1_reasonOfHall_74 (by decide))) (hnd (hlf (ok_iconst dX1_reasonOfHall_77 (by decide) rfl)) (hlf (ok_iret dX1_reasonOfHall_78)))))))

theorem vc_X1_reasonOfHall : MVC ins_X1_reasonOfHall 4 2 sp_X1_reasonOfHall := by
  refine mvc1 39 60 fun as w σ q hl hs => ?_
  unfold sp_X1_reasonOfHall at hs
  split at hs
  rotate_left
  · exact hs.elim
  rename_i v
  obtain ⟨n, np, p, a, b, hB, hP, hp, hv, hV, hF, hz, ha, hb, hab, hq⟩ := hs
  unfold rhC at hq
  refine ⟨fun N ls st w' σ' => ¬ hmC σ n v ∧ ¬ mrC σ n v ∧ ∃ (i : Nat) (u : Int32), a ≤ i ∧ i ≤ a + b ∧ N = a + b - i ∧ u = nI i ∧ (∀ j, a ≤ j → j < i → nI (cnt (fun i => decide (atL σ i (σ 9 v 2) (nI j))) n) < tbC σ (σ 9 v 2)) ∧ ls = [some (HR 1 0), some (HR 9 v), some (HI (tbC σ (σ 9 v 2))), some (HI u)] ∧ st = [] ∧ w = w' ∧ σ = σ', ?_, ?_⟩
  · rintro N ls st w' σ' ⟨h7, h8, i, u, hai, hi, rfl, rfl, hno, rfl, rfl, rfl, rfl⟩
    rw [cif_n h7, cif_n h8] at hq
    have e : σ 9 v 3 + σ 9 v 4 = nI (a + b) := by rw [ha, hb]; exact nI_add a b
    apply br2
    · intro h1
      obtain rfl := lp_end e hi h1
      rw [cif_n fun ⟨h, h2, h3, h4⟩ => h4 (hno h h2 h3)] at hq
      exact hq
    · intro h1
      have hlt := lp_go e hi h1
      refine ⟨n, hB, ?_⟩
      apply br2
      · intro h2
        exact ⟨a + b - (i + 1), by omega, h7, h8, i + 1, _, by omega, hlt, rfl, nI_1 i, fun j hj1 hj => (Nat.lt_succ_iff_lt_or_eq.mp hj).elim (hno j hj1) (fun e => e ▸ h2), rfl, rfl, rfl, rfl⟩
      · intro h2
        rw [cif_p ⟨i, hai, hlt, h2⟩] at hq
        exact hq
  · refine ⟨n, hB, ?_⟩
    apply br2
    · intro h7
      rw [cif_p h7] at hq
      exact And.intro (fun h => absurd h (by decide)) (fun _ => hq)
    intro h7
    rw [cif_n h7] at hq
    refine And.intro (fun _ => ?_) (fun h => absurd rfl h)
    refine ⟨n, np, p, hB, hP, hp, hv, hV, hF, ?_⟩
    apply br2
    · intro h8
      rw [cif_p h8] at hq
      exact And.intro (fun h => absurd h (by decide)) (fun _ => hq)
    intro h8
    refine And.intro (fun _ => ?_) (fun h => absurd rfl h)
    refine ⟨hz, ?_⟩
    exact ⟨b, h7, h8, a, _, Nat.le_refl _, by omega, by omega, ha, fun j h1 h2 => absurd h1 (by omega), rfl, rfl, rfl, rfl⟩
theorem ct_X1_reasonOfHall : Ctr yX1_reasonOfHall cX1_reasonOfHall 4 (some .int) 4 0 0 2 sp_X1_reasonOfHall := ctr_of (by decide +kernel) rfl (by decide) ok_X1_reasonOfHall vc_X1_reasonOfHall

