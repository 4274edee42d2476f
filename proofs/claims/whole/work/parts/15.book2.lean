abbrev yld (σ : HS) (i : Nat) (day half : Int32) : Prop := atL σ i day half ∧ σ 9 i 5 = 0
def sp_X0_lastThatYields : HSp := fun as w σ K => match as with
  | [.inr (.inl (0, some 0)), .inl day, .inl half] => ∃ n, Bk w σ n ∧ (∀ i, i < n → yld σ i day half → (∀ j, i < j → j < n → ¬ yld σ j day half) → K (some (HR 9 i)) w σ) ∧ ((∀ j, j < n → ¬ yld σ j day half) → K (some (HO 99 none)) w σ)
  | _ => False
theorem nI_m1 {i : Nat} (h : 0 < i) : nI i + (-1) = nI (i - 1) := by
  obtain ⟨j, rfl⟩ : ∃ j, i = j + 1 := ⟨i - 1, by omega⟩
  exact pk_m1 j
theorem dX0_lastThatYields_0 : decode cX0_lastThatYields 0 = .ok (.aload_n 0, 1) := by decide +kernel
theorem dX0_lastThatYields_1 : decode cX0_lastThatYields 1 = .ok (.getfield 17, 3) := by decide +kernel
theorem dX0_lastThatYields_4 : decode cX0_lastThatYields 4 = .ok (.iconst 1, 1) := by decide +kernel
theorem dX0_lastThatYields_5 : decode cX0_lastThatYields 5 = .ok (.isub, 1) := by decide +kernel
theorem dX0_lastThatYields_6 : decode cX0_lastThatYields 6 = .ok (.istore_n 3, 1) := by decide +kernel
theorem dX0_lastThatYields_7 : decode cX0_lastThatYields 7 = .ok (.iload_n 3, 1) := by decide +kernel
theorem dX0_lastThatYields_8 : decode cX0_lastThatYields 8 = .ok (.ifCond .lt 42, 3) := by decide +kernel
theorem dX0_lastThatYields_11 : decode cX0_lastThatYields 11 = .ok (.aload_n 0, 1) := by decide +kernel
theorem dX0_lastThatYields_12 : decode cX0_lastThatYields 12 = .ok (.getfield 13, 3) := by decide +kernel
theorem dX0_lastThatYields_15 : decode cX0_lastThatYields 15 = .ok (.iload_n 3, 1) := by decide +kernel
theorem dX0_lastThatYields_16 : decode cX0_lastThatYields 16 = .ok (.aaload, 1) := by decide +kernel
theorem dX0_lastThatYields_17 : decode cX0_lastThatYields 17 = .ok (.iload_n 1, 1) := by decide +kernel
theorem dX0_lastThatYields_18 : decode cX0_lastThatYields 18 = .ok (.iload_n 2, 1) := by decide +kernel
theorem dX0_lastThatYields_19 : decode cX0_lastThatYields 19 = .ok (.invokevirtual 42, 3) := by decide +kernel
theorem dX0_lastThatYields_22 : decode cX0_lastThatYields 22 = .ok (.ifCond .eq 22, 3) := by decide +kernel
theorem dX0_lastThatYields_25 : decode cX0_lastThatYields 25 = .ok (.aload_n 0, 1) := by decide +kernel
theorem dX0_lastThatYields_26 : decode cX0_lastThatYields 26 = .ok (.getfield 13, 3) := by decide +kernel
theorem dX0_lastThatYields_29 : decode cX0_lastThatYields 29 = .ok (.iload_n 3, 1) := by decide +kernel
theorem dX0_lastThatYields_30 : decode cX0_lastThatYields 30 = .ok (.aaload, 1) := by decide +kernel
theorem dX0_lastThatYields_31 : decode cX0_lastThatYields 31 = .ok (.getfield 45, 3) := by decide +kernel
theorem dX0_lastThatYields_34 : decode cX0_lastThatYields 34 = .ok (.ifCond .ne 10, 3) := by decide +kernel
theorem dX0_lastThatYields_37 : decode cX0_lastThatYields 37 = .ok (.aload_n 0, 1) := by decide +kernel
theorem dX0_lastThatYields_38 : decode cX0_lastThatYields 38 = .ok (.getfield 13, 3) := by decide +kernel
theorem dX0_lastThatYields_41 : decode cX0_lastThatYields 41 = .ok (.iload_n 3, 1) := by decide +kernel
theorem dX0_lastThatYields_42 : decode cX0_lastThatYields 42 = .ok (.aaload, 1) := by decide +kernel
theorem dX0_lastThatYields_43 : decode cX0_lastThatYields 43 = .ok (.areturn, 1) := by decide +kernel
theorem dX0_lastThatYields_44 : decode cX0_lastThatYields 44 = .ok (.iinc 3 (-1), 3) := by decide +kernel
theorem dX0_lastThatYields_47 : decode cX0_lastThatYields 47 = .ok (.goto (-40), 3) := by decide +kernel
theorem dX0_lastThatYields_50 : decode cX0_lastThatYields 50 = .ok (.aconst_null, 1) := by decide +kernel
theorem dX0_lastThatYields_51 : decode cX0_lastThatYields 51 = .ok (.areturn, 1) := by decide +kernel
def ins_X0_lastThatYields (pc : Nat) : HOp := cond (Nat.blt pc 25) (cond (Nat.blt pc 11) (cond (Nat.blt pc 5) (cond (Nat.blt pc 1) (cond (Nat.beq pc 0) (o_aload 0 1) o_bad) (cond (Nat.blt pc 4) (cond (Nat.beq pc 1) (o_getf 0 1 4) o_bad) (cond (Nat.beq pc 4) (o_const (1) 5) o_bad))) (cond (Nat.blt pc 7) (cond (Nat.blt pc 6) (cond (Nat.beq pc 5) (o_bin (fun x y => x - y) 6) o_bad) (cond (Nat.beq pc 6) (o_istore 3 7) o_bad)) (cond (Nat.blt pc 8) (cond (Nat.beq pc 7) (o_iload 3 8) o_bad) (cond (Nat.beq pc 8) (o_if (fun x => x < 0) 50 11) o_bad)))) (cond (Nat.blt pc 17) (cond (Nat.blt pc 15) (cond (Nat.blt pc 12) (cond (Nat.beq pc 11) (o_aload 0 12) o_bad) (cond (Nat.beq pc 12) (o_getf 0 0 15) o_bad)) (cond (Nat.blt pc 16) (cond (Nat.beq pc 15) (o_iload 3 16) o_bad) (cond (Nat.beq pc 16) (o_aald 17) o_bad))) (cond (Nat.blt pc 19) (cond (Nat.blt pc 18) (cond (Nat.beq pc 17) (o_iload 1 18) o_bad) (cond (Nat.beq pc 18) (o_iload 2 19) o_bad)) (cond (Nat.blt pc 22) (cond (Nat.beq pc 19) (o_callV 3 9 sp_X9_isLetAt 22) o_bad) (cond (Nat.beq pc 22) (o_if (fun x => x = 0) 44 25) o_bad))))) (cond (Nat.blt pc 38) (cond (Nat.blt pc 30) (cond (Nat.blt pc 26) (cond (Nat.beq pc 25) (o_aload 0 26) o_bad) (cond (Nat.blt pc 29) (cond (Nat.beq pc 26) (o_getf 0 0 29) o_bad) (cond (Nat.beq pc 29) (o_iload 3 30) o_bad))) (cond (Nat.blt pc 34) (cond (Nat.blt pc 31) (cond (Nat.beq pc 30) (o_aald 31) o_bad) (cond (Nat.beq pc 31) (o_getf 9 5 34) o_bad)) (cond (Nat.blt pc 37) (cond (Nat.beq pc 34) (o_if (fun x => x = 0) 37 44) o_bad) (cond (Nat.beq pc 37) (o_aload 0 38) o_bad)))) (cond (Nat.blt pc 44) (cond (Nat.blt pc 42) (cond (Nat.blt pc 41) (cond (Nat.beq pc 38) (o_getf 0 0 41) o_bad) (cond (Nat.beq pc 41) (o_iload 3 42) o_bad)) (cond (Nat.blt pc 43) (cond (Nat.beq pc 42) (o_aald 43) o_bad) (cond (Nat.beq pc 43) (o_aret) o_bad))) (cond (Nat.blt pc 50) (cond (Nat.blt pc 47) (cond (Nat.beq pc 44) (o_iinc 3 (-1) 47) o_bad) (cond (Nat.beq pc 47) (o_goto 7) o_bad)) (cond (Nat.blt pc 51) (cond (Nat.beq pc 50) (o_null 99 51) o_bad) (cond (Nat.beq pc 51) (o_aret) o_bad)))))
set_option maxRecDepth 20000 in
theorem ok_X0_lastThatYields : HOKs cX0_lastThatYields RX0 4 (some (.object "VisitHall$Visit")) 2 ins_X0_lastThatYields := fun _ => hnd (hnd (hnd (hnd (hlf (ok_aload_n dX0_lastThatYields_0 rfl rfl)) (hnd (hlf (ok_getf (C := RX0) (T := TX0) dX0_lastThatYields_1 rfl rfl (by decide) rfl inX0 wd_148 rfl)) (hlf (ok_iconst dX0_lastThatYields_4 (by decide) rfl)))) (hnd (hnd (hlf (ok_isub dX0_lastThatYields_5 rfl)) (hlf (ok_istore_n dX0_lastThatYields_6 rfl (by decide) rfl))) (hnd (hlf (ok_iload_n dX0_lastThatYields_7 rfl rfl)) (hlf (ok_if_lt dX0_lastThatYields_8 (by decide) rfl))))) (hnd (hnd (hnd (hlf (ok_aload_n dX0_lastThatYields_11 rfl rfl)) (hlf (ok_getf (C := RX0) (T := TX0) dX0_lastThatYields_12 rfl rfl (by decide) rfl inX0 wd_145 rfl))) (hnd (hlf (ok_iload_n dX0_lastThatYields_15 rfl rfl)) (hlf (ok_aald dX0_lastThatYields_16 rfl)))) (hnd (hnd (hlf (ok_iload_n dX0_lastThatYields_17 rfl rfl)) (hlf (ok_iload_n dX0_lastThatYields_18 rfl rfl))) (hnd (hlf (ok_callV (y := yX9_isLetAt) (n' := 2) (C := RX9) (T := TX9) dX0_lastThatYields_19 ct_X9_isLetAt (by decide) (by decide) wd_508 wd_505 wd_506 wd_507 wd_49 rfl (by decide +kernel) rfl rfl rfl)) (hlf (ok_if_eq dX0_lastThatYields_22 (by decide) rfl)))))) (hnd (hnd (hnd (hlf (ok_aload_n dX0_lastThatYields_25 rfl rfl)) (hnd (hlf (ok_getf (C := RX0) (T := TX0) dX0_lastThatYields_26 rfl rfl (by decide) rfl inX0 wd_145 rfl)) (hlf (ok_iload_n dX0_lastThatYields_29 rfl rfl)))) (hnd (hnd (hlf (ok_aald dX0_lastThatYields_30 rfl)) (hlf (ok_getfN (C := RX9) (T := TX9) dX0_lastThatYields_31 rfl rfl (by decide) rfl inX9 wd_258 rfl))) (hnd (hlf (ok_if_ne dX0_lastThatYields_34 (by decide) rfl)) (hlf (ok_aload_n dX0_lastThatYields_37 rfl rfl))))) (hnd (hnd (hnd (hlf (ok_getf (C := RX0) (T := TX0) dX0_lastThatYields_38 rfl rfl (by decide) rfl inX0 wd_145 rfl)) (hlf (ok_iload_n dX0_lastThatYields_41 rfl rfl))) (hnd (hlf (ok_aald dX0_lastThatYields_42 rfl)) (hlf (ok_aret dX0_lastThatYields_43)))) (hnd (hnd (hlf (ok_iinc dX0_lastThatYields_44 (by decide) (by decide) rfl)) (hlf (ok_goto dX0_lastThatYields_47 (by decide)))) (hnd (hlf (ok_null dX0_lastThatYields_50 rfl)) (hlf (ok_aret dX0_lastThatYields_51))))))

theorem vc_X0_lastThatYields : MVC ins_X0_lastThatYields 4 3 sp_X0_lastThatYields := by
  refine mvc1 7 60 fun as w σ q hl hs => ?_
  unfold sp_X0_lastThatYields at hs
  split at hs
  rotate_left
  · exact hs.elim
  rename_i day half
  obtain ⟨n, ⟨hn, hsz, hra⟩, hq1, hq2⟩ := hs
  refine ⟨fun N ls st w' σ' => ∃ (v : Int32), N ≤ n ∧ v = nI N - 1 ∧ (∀ j, N ≤ j → j < n → ¬ yld σ j day half) ∧ ls = [some (HR 0 0), some (HI day), some (HI half), some (HI v)] ∧ st = [] ∧ w = w' ∧ σ = σ', ?_, ?_⟩
  · rintro N ls st w' σ' ⟨v, hi, rfl, hno, rfl, rfl, rfl, rfl⟩
    cases N with
    | zero =>
      refine And.intro (fun _ => hq2 fun j hj => hno j (Nat.zero_le _) hj) (fun h => absurd (by decide) h)
    | succ i =>
      have e : nI (i + 1) - 1 = nI i := nI_pred i
      rw [e]
      refine And.intro (fun h => absurd h (nI_pos (by omega))) (fun _ => ?_)
      have hin : vp_in (nI i) 100 := vp_in_nI (N := 100) (by omega) (by decide)
      refine And.intro hin (fun o ho => ?_)
      obtain rfl := ra_at ho (hra i (by omega))
      have hback : ¬ yld σ i day half → ∃ N', N' < i + 1 ∧ ∃ (v : Int32), N' ≤ n ∧ v = nI N' - 1 ∧ (∀ j, N' ≤ j → j < n → ¬ yld σ j day half) ∧ [some (HR 0 0), some (HI day), some (HI half), some (HI (nI i + (-1)))] = [some (HR 0 0), some (HI day), some (HI half), some (HI v)] ∧ ([] : List HV) = [] ∧ w = w ∧ σ = σ := fun h =>
        ⟨i, by omega, nI i - 1, by omega, rfl, fun j h1 h2 => (Nat.eq_or_lt_of_le h1).elim (fun e => e ▸ h) (fun h3 => hno j h3 h2), by rw [show nI i + (-1) = nI i - 1 from (Int32.sub_eq_add_neg ..).symm], rfl, rfl, rfl⟩
      apply br2
      · intro h2
        refine And.intro (fun h => absurd h (by decide)) (fun _ => ?_)
        refine And.intro hin (fun o ho => ?_)
        obtain rfl := ra_at ho (hra i (by omega))
        apply br2
        · intro h3
          refine And.intro hin (fun o ho => ?_)
          obtain rfl := ra_at ho (hra i (by omega))
          exact hq1 i (by omega) ⟨h2, h3⟩ (fun j h4 h5 => hno j h4 h5)
        · intro h3
          exact hback fun h => h3 h.2
      · intro h2
        refine And.intro (fun _ => ?_) (fun h => absurd rfl h)
        exact hback fun h => h2 h.1
  · exact ⟨n, σ 0 0 1 - 1, Nat.le_refl _, by rw [hsz], fun j h1 h2 => absurd h1 (by omega), rfl, rfl, rfl, rfl⟩
theorem ct_X0_lastThatYields : Ctr yX0_lastThatYields cX0_lastThatYields 4 (some (.object "VisitHall$Visit")) 2 0 0 3 sp_X0_lastThatYields := ctr_of (by decide +kernel) rfl (by decide) ok_X0_lastThatYields vc_X0_lastThatYields

abbrev gbP (σ : HS) (i : Nat) (p s d : Int32) : Prop := σ 9 i 6 = 0 ∧ σ 9 i 0 = p ∧ ¬ σ 9 i 1 &&& s = 0 ∧ ¬ σ 9 i 2 < d ∧ ¬ σ 9 i 2 < σ 0 0 2
def gbS (σ : HS) (p s d : Int32) (n : Nat) : HS := fun k i f => if k = 9 ∧ f = 6 ∧ i < n ∧ gbP σ i p s d then 2 else σ k i f
def sp_X0_giveBackAll : HSp := fun as w σ K => match as with
  | [.inr (.inl (0, some 0)), .inl p, .inl s, .inl d] => ∃ n, Bk w σ n ∧ K (some (HI (nI (cnt (fun i => decide (gbP σ i p s d)) n)))) w (gbS σ p s d n)
  | _ => False
theorem gbS_0 (σ : HS) (p s d : Int32) : gbS σ p s d 0 = σ := by
  funext k i f
  simp [gbS]
theorem gbS_y {σ : HS} {p s d : Int32} {i : Nat} (h : gbP σ i p s d) : up3 (gbS σ p s d i) 9 i 6 2 = gbS σ p s d (i + 1) := by
  funext k j f
  simp only [gbS, up3]
  grind
theorem gbS_n {σ : HS} {p s d : Int32} {i : Nat} (h : ¬ gbP σ i p s d) : gbS σ p s d i = gbS σ p s d (i + 1) := by
  funext k j f
  simp only [gbS]
  grind
theorem gbS_at {σ : HS} {p s d : Int32} {i f : Nat} : gbS σ p s d i 9 i f = σ 9 i f := by
  simp [gbS]
theorem gbS_o {σ : HS} {p s d : Int32} {i k j f : Nat} (h : k ≠ 9) : gbS σ p s d i k j f = σ k j f := by
  simp [gbS, h]
theorem dX0_giveBackAll_0 : decode cX0_giveBackAll 0 = .ok (.iconst 0, 1) := by decide +kernel
theorem dX0_giveBackAll_1 : decode cX0_giveBackAll 1 = .ok (.istore 4, 2) := by decide +kernel
theorem dX0_giveBackAll_3 : decode cX0_giveBackAll 3 = .ok (.iconst 0, 1) := by decide +kernel
theorem dX0_giveBackAll_4 : decode cX0_giveBackAll 4 = .ok (.istore 5, 2) := by decide +kernel
theorem dX0_giveBackAll_6 : decode cX0_giveBackAll 6 = .ok (.iload 5, 2) := by decide +kernel
theorem dX0_giveBackAll_8 : decode cX0_giveBackAll 8 = .ok (.aload_n 0, 1) := by decide +kernel
theorem dX0_giveBackAll_9 : decode cX0_giveBackAll 9 = .ok (.getfield 17, 3) := by decide +kernel
theorem dX0_giveBackAll_12 : decode cX0_giveBackAll 12 = .ok (.if_icmp .ge 75, 3) := by decide +kernel
theorem dX0_giveBackAll_15 : decode cX0_giveBackAll 15 = .ok (.aload_n 0, 1) := by decide +kernel
theorem dX0_giveBackAll_16 : decode cX0_giveBackAll 16 = .ok (.getfield 13, 3) := by decide +kernel
theorem dX0_giveBackAll_19 : decode cX0_giveBackAll 19 = .ok (.iload 5, 2) := by decide +kernel
theorem dX0_giveBackAll_21 : decode cX0_giveBackAll 21 = .ok (.aaload, 1) := by decide +kernel
theorem dX0_giveBackAll_22 : decode cX0_giveBackAll 22 = .ok (.astore 6, 2) := by decide +kernel
theorem dX0_giveBackAll_24 : decode cX0_giveBackAll 24 = .ok (.aload 6, 2) := by decide +kernel
theorem dX0_giveBackAll_26 : decode cX0_giveBackAll 26 = .ok (.getfield 30, 3) := by decide +kernel
theorem dX0_giveBackAll_29 : decode cX0_giveBackAll 29 = .ok (.ifCond .ne 52, 3) := by decide +kernel
theorem dX0_giveBackAll_32 : decode cX0_giveBackAll 32 = .ok (.aload 6, 2) := by decide +kernel
theorem dX0_giveBackAll_34 : decode cX0_giveBackAll 34 = .ok (.getfield 33, 3) := by decide +kernel
theorem dX0_giveBackAll_37 : decode cX0_giveBackAll 37 = .ok (.iload_n 1, 1) := by decide +kernel
theorem dX0_giveBackAll_38 : decode cX0_giveBackAll 38 = .ok (.if_icmp .ne 43, 3) := by decide +kernel
theorem dX0_giveBackAll_41 : decode cX0_giveBackAll 41 = .ok (.aload 6, 2) := by decide +kernel
theorem dX0_giveBackAll_43 : decode cX0_giveBackAll 43 = .ok (.getfield 49, 3) := by decide +kernel
theorem dX0_giveBackAll_46 : decode cX0_giveBackAll 46 = .ok (.iload_n 2, 1) := by decide +kernel
theorem dX0_giveBackAll_47 : decode cX0_giveBackAll 47 = .ok (.iand, 1) := by decide +kernel
theorem dX0_giveBackAll_48 : decode cX0_giveBackAll 48 = .ok (.ifCond .eq 33, 3) := by decide +kernel
theorem dX0_giveBackAll_51 : decode cX0_giveBackAll 51 = .ok (.aload 6, 2) := by decide +kernel
theorem dX0_giveBackAll_53 : decode cX0_giveBackAll 53 = .ok (.getfield 36, 3) := by decide +kernel
theorem dX0_giveBackAll_56 : decode cX0_giveBackAll 56 = .ok (.iload_n 3, 1) := by decide +kernel
theorem dX0_giveBackAll_57 : decode cX0_giveBackAll 57 = .ok (.if_icmp .lt 24, 3) := by decide +kernel
theorem dX0_giveBackAll_60 : decode cX0_giveBackAll 60 = .ok (.aload 6, 2) := by decide +kernel
theorem dX0_giveBackAll_62 : decode cX0_giveBackAll 62 = .ok (.getfield 36, 3) := by decide +kernel
theorem dX0_giveBackAll_65 : decode cX0_giveBackAll 65 = .ok (.aload_n 0, 1) := by decide +kernel
theorem dX0_giveBackAll_66 : decode cX0_giveBackAll 66 = .ok (.getfield 39, 3) := by decide +kernel
theorem dX0_giveBackAll_69 : decode cX0_giveBackAll 69 = .ok (.if_icmp .lt 12, 3) := by decide +kernel
theorem dX0_giveBackAll_72 : decode cX0_giveBackAll 72 = .ok (.aload 6, 2) := by decide +kernel
theorem dX0_giveBackAll_74 : decode cX0_giveBackAll 74 = .ok (.iconst 2, 1) := by decide +kernel
theorem dX0_giveBackAll_75 : decode cX0_giveBackAll 75 = .ok (.putfield 30, 3) := by decide +kernel
theorem dX0_giveBackAll_78 : decode cX0_giveBackAll 78 = .ok (.iinc 4 1, 3) := by decide +kernel
theorem dX0_giveBackAll_81 : decode cX0_giveBackAll 81 = .ok (.iinc 5 1, 3) := by decide +kernel
theorem dX0_giveBackAll_84 : decode cX0_giveBackAll 84 = .ok (.goto (-78), 3) := by decide +kernel
theorem dX0_giveBackAll_87 : decode cX0_giveBackAll 87 = .ok (.iload 4, 2) := by decide +kernel
theorem dX0_giveBackAll_89 : decode cX0_giveBackAll 89 = .ok (.ireturn, 1) := by decide +kernel
def ins_X0_giveBackAll (pc : Nat) : HOp := cond (Nat.blt pc 43) (cond (Nat.blt pc 19) (cond (Nat.blt pc 8) (cond (Nat.blt pc 3) (cond (Nat.blt pc 1) (cond (Nat.beq pc 0) (o_const (0) 1) o_bad) (cond (Nat.beq pc 1) (o_istore 4 3) o_bad)) (cond (Nat.blt pc 4) (cond (Nat.beq pc 3) (o_const (0) 4) o_bad) (cond (Nat.blt pc 6) (cond (Nat.beq pc 4) (o_istore 5 6) o_bad) (cond (Nat.beq pc 6) (o_iload 5 8) o_bad)))) (cond (Nat.blt pc 12) (cond (Nat.blt pc 9) (cond (Nat.beq pc 8) (o_aload 0 9) o_bad) (cond (Nat.beq pc 9) (o_getf 0 1 12) o_bad)) (cond (Nat.blt pc 15) (cond (Nat.beq pc 12) (o_icmp (fun x y => y ≤ x) 87 15) o_bad) (cond (Nat.blt pc 16) (cond (Nat.beq pc 15) (o_aload 0 16) o_bad) (cond (Nat.beq pc 16) (o_getf 0 0 19) o_bad))))) (cond (Nat.blt pc 29) (cond (Nat.blt pc 22) (cond (Nat.blt pc 21) (cond (Nat.beq pc 19) (o_iload 5 21) o_bad) (cond (Nat.beq pc 21) (o_aald 22) o_bad)) (cond (Nat.blt pc 24) (cond (Nat.beq pc 22) (o_astore 6 24) o_bad) (cond (Nat.blt pc 26) (cond (Nat.beq pc 24) (o_aload 6 26) o_bad) (cond (Nat.beq pc 26) (o_getf 9 6 29) o_bad)))) (cond (Nat.blt pc 37) (cond (Nat.blt pc 32) (cond (Nat.beq pc 29) (o_if (fun x => x = 0) 32 81) o_bad) (cond (Nat.blt pc 34) (cond (Nat.beq pc 32) (o_aload 6 34) o_bad) (cond (Nat.beq pc 34) (o_getf 9 0 37) o_bad))) (cond (Nat.blt pc 38) (cond (Nat.beq pc 37) (o_iload 1 38) o_bad) (cond (Nat.blt pc 41) (cond (Nat.beq pc 38) (o_icmp (fun x y => x = y) 41 81) o_bad) (cond (Nat.beq pc 41) (o_aload 6 43) o_bad)))))) (cond (Nat.blt pc 65) (cond (Nat.blt pc 53) (cond (Nat.blt pc 47) (cond (Nat.blt pc 46) (cond (Nat.beq pc 43) (o_getf 9 1 46) o_bad) (cond (Nat.beq pc 46) (o_iload 2 47) o_bad)) (cond (Nat.blt pc 48) (cond (Nat.beq pc 47) (o_bin (fun x y => x &&& y) 48) o_bad) (cond (Nat.blt pc 51) (cond (Nat.beq pc 48) (o_if (fun x => x = 0) 81 51) o_bad) (cond (Nat.beq pc 51) (o_aload 6 53) o_bad)))) (cond (Nat.blt pc 57) (cond (Nat.blt pc 56) (cond (Nat.beq pc 53) (o_getf 9 2 56) o_bad) (cond (Nat.beq pc 56) (o_iload 3 57) o_bad)) (cond (Nat.blt pc 60) (cond (Nat.beq pc 57) (o_icmp (fun x y => x < y) 81 60) o_bad) (cond (Nat.blt pc 62) (cond (Nat.beq pc 60) (o_aload 6 62) o_bad) (cond (Nat.beq pc 62) (o_getf 9 2 65) o_bad))))) (cond (Nat.blt pc 75) (cond (Nat.blt pc 69) (cond (Nat.blt pc 66) (cond (Nat.beq pc 65) (o_aload 0 66) o_bad) (cond (Nat.beq pc 66) (o_getf 0 2 69) o_bad)) (cond (Nat.blt pc 72) (cond (Nat.beq pc 69) (o_icmp (fun x y => x < y) 81 72) o_bad) (cond (Nat.blt pc 74) (cond (Nat.beq pc 72) (o_aload 6 74) o_bad) (cond (Nat.beq pc 74) (o_const (2) 75) o_bad)))) (cond (Nat.blt pc 84) (cond (Nat.blt pc 78) (cond (Nat.beq pc 75) (o_putf 9 6 78) o_bad) (cond (Nat.blt pc 81) (cond (Nat.beq pc 78) (o_iinc 4 (1) 81) o_bad) (cond (Nat.beq pc 81) (o_iinc 5 (1) 84) o_bad))) (cond (Nat.blt pc 87) (cond (Nat.beq pc 84) (o_goto 6) o_bad) (cond (Nat.blt pc 89) (cond (Nat.beq pc 87) (o_iload 4 89) o_bad) (cond (Nat.beq pc 89) (o_iret) o_bad))))))
set_option maxRecDepth 20000 in
theorem ok_X0_giveBackAll : HOKs cX0_giveBackAll RX0 7 (some .int) 1 ins_X0_giveBackAll := fun _ => hnd (hnd (hnd (hnd (hnd (hlf (ok_iconst dX0_giveBackAll_0 (by decide) rfl)) (hlf (ok_istore dX0_giveBackAll_1 (by decide) rfl))) (hnd (hlf (ok_iconst dX0_giveBackAll_3 (by decide) rfl)) (hnd (hlf (ok_istore dX0_giveBackAll_4 (by decide) rfl)) (hlf (ok_iload dX0_giveBackAll_6 rfl))))) (hnd (hnd (hlf (ok_aload_n dX0_giveBackAll_8 rfl rfl)) (hlf (ok_getf (C := RX0) (T := TX0) dX0_giveBackAll_9 rfl rfl (by decide) rfl inX0 wd_148 rfl))) (hnd (hlf (ok_icmp_ge dX0_giveBackAll_12 (by decide) rfl)) (hnd (hlf (ok_aload_n dX0_giveBackAll_15 rfl rfl)) (hlf (ok_getf (C := RX0) (T := TX0) dX0_giveBackAll_16 rfl rfl (by decide) rfl inX0 wd_145 rfl)))))) (hnd (hnd (hnd (hlf (ok_iload dX0_giveBackAll_19 rfl)) (hlf (ok_aald dX0_giveBackAll_21 rfl))) (hnd (hlf (ok_astore dX0_giveBackAll_22 (by decide) rfl)) (hnd (hlf (ok_aload dX0_giveBackAll_24 rfl)) (hlf (ok_getfN (C := RX9) (T := TX9) dX0_giveBackAll_26 rfl rfl (by decide) rfl inX9 wd_263 rfl))))) (hnd (hnd (hlf (ok_if_ne dX0_giveBackAll_29 (by decide) rfl)) (hnd (hlf (ok_aload dX0_giveBackAll_32 rfl)) (hlf (ok_getfN (C := RX9) (T := TX9) dX0_giveBackAll_34 rfl rfl (by decide) rfl inX9 wd_236 rfl)))) (hnd (hlf (ok_iload_n dX0_giveBackAll_37 rfl rfl)) (hnd (hlf (ok_icmp_ne dX0_giveBackAll_38 (by decide) rfl)) (hlf (ok_aload dX0_giveBackAll_41 rfl))))))) (hnd (hnd (hnd (hnd (hlf (ok_getfN (C := RX9) (T := TX9) dX0_giveBackAll_43 rfl rfl (by decide) rfl inX9 wd_241 rfl)) (hlf (ok_iload_n dX0_giveBackAll_46 rfl rfl))) (hnd (hlf (ok_iand dX0_giveBackAll_47 rfl)) (hnd (hlf (ok_if_eq dX0_giveBackAll_48 (by decide) rfl)) (hlf (ok_aload dX0_giveBackAll_51 rfl))))) (hnd (hnd (hlf (ok_getfN (C := RX9) (T := TX9) dX0_giveBackAll_53 rfl rfl (by decide) rfl inX9 wd_247 rfl)) (hlf (ok_iload_n dX0_giveBackAll_56 rfl rfl))) (hnd (hlf (ok_icmp_lt dX0_giveBackAll_57 (by decide) rfl)) (hnd (hlf (ok_aload dX0_giveBackAll_60 rfl)) (hlf (ok_getfN (C := RX9) (T := TX9) dX0_giveBackAll_62 rfl rfl (by decide) rfl inX9 wd_247 rfl)))))) (hnd (hnd (hnd (hlf (ok_aload_n dX0_giveBackAll_65 rfl rfl)) (hlf (ok_getf (C := RX0) (T := TX0) dX0_giveBackAll_66 rfl rfl (by decide) rfl inX0 wd_153 rfl))) (hnd (hlf (ok_icmp_lt dX0_giveBackAll_69 (by decide) rfl)) (hnd (hlf (ok_aload dX0_giveBackAll_72 rfl)) (hlf (ok_iconst dX0_giveBackAll_74 (by decide) rfl))))) (hnd (hnd (hlf (ok_putfN (C := RX9) (T := TX9) dX0_giveBackAll_75 rfl rfl (by decide) rfl inX9 tyX9_ok nmX9 rfl rfl (fun _ _ => rfl) wd_263 rfl)) (hnd (hlf (ok_iinc dX0_giveBackAll_78 (by decide) (by decide) rfl)) (hlf (ok_iinc dX0_giveBackAll_81 (by decide) (by decide) rfl)))) (hnd (hlf (ok_goto dX0_giveBackAll_84 (by decide))) (hnd (hlf (ok_iload dX0_giveBackAll_87 rfl)) (hlf (ok_iret dX0_giveBackAll_89)))))))

theorem vc_X0_giveBackAll : MVC ins_X0_giveBackAll 7 4 sp_X0_giveBackAll := by
  refine mvc1 6 70 fun as w σ q hl hs => ?_
  unfold sp_X0_giveBackAll at hs
  split at hs
  rotate_left
  · exact hs.elim
  rename_i p s d
  obtain ⟨n, ⟨hn, hsz, hra⟩, hq⟩ := hs
  refine ⟨fun N ls st w' σ' => ∃ (i : Nat) (u v : Int32) (x : Option HV), i ≤ n ∧ N = n - i ∧ u = nI (cnt (fun i => decide (gbP σ i p s d)) i) ∧ v = nI i ∧ ls = [some (HR 0 0), some (HI p), some (HI s), some (HI d), some (HI u), some (HI v), x] ∧ st = [] ∧ w = w' ∧ σ' = gbS σ p s d i, ?_, ?_⟩
  · rintro N ls st w' σ' ⟨i, u, v, x, hi, rfl, rfl, rfl, rfl, rfl, rfl, rfl⟩
    have e1 : gbS σ p s d i 0 0 1 = nI n := by rw [gbS_o (by decide)]; exact hsz
    have e2 : gbS σ p s d i 0 0 2 = σ 0 0 2 := gbS_o (by decide)
    apply br2
    · intro h1
      obtain rfl := lp_end e1 hi h1
      exact hq
    · intro h1
      have hlt := lp_go e1 hi h1
      refine And.intro (vp_in_nI (N := 100) (by omega) (by decide)) (fun o ho => ?_)
      obtain rfl := ra_at ho (hra i hlt)
      have no : ¬ gbP σ i p s d → ∃ N', N' < n - i ∧ ∃ (i' : Nat) (u v : Int32) (x : Option HV), i' ≤ n ∧ N' = n - i' ∧ u = nI (cnt (fun i => decide (gbP σ i p s d)) i') ∧ v = nI i' ∧ [some (HR 0 0), some (HI p), some (HI s), some (HI d), some (HI (nI (cnt (fun i => decide (gbP σ i p s d)) i))), some (HI (nI i + 1)), some (HR 9 i)] = [some (HR 0 0), some (HI p), some (HI s), some (HI d), some (HI u), some (HI v), x] ∧ ([] : List HV) = [] ∧ w = w ∧ gbS σ p s d i = gbS σ p s d i' := fun h =>
        ⟨n - (i + 1), by omega, i + 1, _, _, _, hlt, rfl, by rw [cnt_n (decide_eq_false h)], nI_1 i, rfl, rfl, rfl, gbS_n h⟩
      apply br2
      rotate_left
      · intro h2
        exact no fun h => h2 (by show gbS σ p s d i 9 i 6 = 0; rw [gbS_at]; exact h.1)
      intro h2
      apply br2
      rotate_left
      · intro h3
        exact no fun h => h3 (by show gbS σ p s d i 9 i 0 = p; rw [gbS_at]; exact h.2.1)
      intro h3
      apply br2
      · intro h4
        exact no fun h => h.2.2.1 (by have h4 : gbS σ p s d i 9 i 1 &&& s = 0 := h4; rwa [gbS_at] at h4)
      intro h4
      apply br2
      · intro h5
        exact no fun h => h.2.2.2.1 (by have h5 : gbS σ p s d i 9 i 2 < d := h5; rwa [gbS_at] at h5)
      intro h5
      apply br2
      · intro h6
        exact no fun h => h.2.2.2.2 (by have h6 : gbS σ p s d i 9 i 2 < gbS σ p s d i 0 0 2 := h6; rwa [gbS_at, e2] at h6)
      intro h6
      have hg : gbP σ i p s d := by
        have h2 : gbS σ p s d i 9 i 6 = 0 := h2
        have h3 : gbS σ p s d i 9 i 0 = p := h3
        have h4 : ¬ gbS σ p s d i 9 i 1 &&& s = 0 := h4
        have h5 : ¬ gbS σ p s d i 9 i 2 < d := h5
        have h6 : ¬ gbS σ p s d i 9 i 2 < gbS σ p s d i 0 0 2 := h6
        rw [gbS_at] at h2 h3 h4 h5 h6
        rw [e2] at h6
        exact ⟨h2, h3, h4, h5, h6⟩
      exact ⟨n - (i + 1), by omega, i + 1, _, _, _, hlt, rfl, by rw [cnt_y (decide_eq_true hg)]; exact nI_1 _, nI_1 i, rfl, rfl, rfl, gbS_y hg⟩
  · exact ⟨n, 0, 0, 0, none, Nat.zero_le _, rfl, rfl, rfl, rfl, rfl, rfl, (gbS_0 σ p s d).symm⟩
theorem ct_X0_giveBackAll : Ctr yX0_giveBackAll cX0_giveBackAll 7 (some .int) 1 0 0 4 sp_X0_giveBackAll := ctr_of (by decide +kernel) rfl (by decide) ok_X0_giveBackAll vc_X0_giveBackAll

def sp_X0_hasMeetingOfSamePeople : HSp := fun as w σ K => match as with
  | [.inr (.inl (0, some 0)), .inr (.inl (9, some v))] => ∃ n, Bk w σ n ∧ spZ (∃ i, i < n ∧ σ 9 i 6 = 0 ∧ shH σ i v ∧ shP σ i v) w σ K
  | _ => False
theorem dX0_hasMeetingOfSamePeople_0 : decode cX0_hasMeetingOfSamePeople 0 = .ok (.iconst 0, 1) := by decide +kernel
theorem dX0_hasMeetingOfSamePeople_1 : decode cX0_hasMeetingOfSamePeople 1 = .ok (.istore_n 2, 1) := by decide +kernel
theorem dX0_hasMeetingOfSamePeople_2 : decode cX0_hasMeetingOfSamePeople 2 = .ok (.iload_n 2, 1) := by decide +kernel
theorem dX0_hasMeetingOfSamePeople_3 : decode cX0_hasMeetingOfSamePeople 3 = .ok (.aload_n 0, 1) := by decide +kernel
theorem dX0_hasMeetingOfSamePeople_4 : decode cX0_hasMeetingOfSamePeople 4 = .ok (.getfield 17, 3) := by decide +kernel
theorem dX0_hasMeetingOfSamePeople_7 : decode cX0_hasMeetingOfSamePeople 7 = .ok (.if_icmp .ge 41, 3) := by decide +kernel
theorem dX0_hasMeetingOfSamePeople_10 : decode cX0_hasMeetingOfSamePeople 10 = .ok (.aload_n 0, 1) := by decide +kernel
theorem dX0_hasMeetingOfSamePeople_11 : decode cX0_hasMeetingOfSamePeople 11 = .ok (.getfield 13, 3) := by decide +kernel
theorem dX0_hasMeetingOfSamePeople_14 : decode cX0_hasMeetingOfSamePeople 14 = .ok (.iload_n 2, 1) := by decide +kernel
theorem dX0_hasMeetingOfSamePeople_15 : decode cX0_hasMeetingOfSamePeople 15 = .ok (.aaload, 1) := by decide +kernel
theorem dX0_hasMeetingOfSamePeople_16 : decode cX0_hasMeetingOfSamePeople 16 = .ok (.astore_n 3, 1) := by decide +kernel
theorem dX0_hasMeetingOfSamePeople_17 : decode cX0_hasMeetingOfSamePeople 17 = .ok (.aload_n 3, 1) := by decide +kernel
theorem dX0_hasMeetingOfSamePeople_18 : decode cX0_hasMeetingOfSamePeople 18 = .ok (.getfield 30, 3) := by decide +kernel
theorem dX0_hasMeetingOfSamePeople_21 : decode cX0_hasMeetingOfSamePeople 21 = .ok (.ifCond .ne 21, 3) := by decide +kernel
theorem dX0_hasMeetingOfSamePeople_24 : decode cX0_hasMeetingOfSamePeople 24 = .ok (.aload_n 3, 1) := by decide +kernel
theorem dX0_hasMeetingOfSamePeople_25 : decode cX0_hasMeetingOfSamePeople 25 = .ok (.aload_n 1, 1) := by decide +kernel
theorem dX0_hasMeetingOfSamePeople_26 : decode cX0_hasMeetingOfSamePeople 26 = .ok (.invokevirtual 52, 3) := by decide +kernel
theorem dX0_hasMeetingOfSamePeople_29 : decode cX0_hasMeetingOfSamePeople 29 = .ok (.ifCond .eq 13, 3) := by decide +kernel
theorem dX0_hasMeetingOfSamePeople_32 : decode cX0_hasMeetingOfSamePeople 32 = .ok (.aload_n 3, 1) := by decide +kernel
theorem dX0_hasMeetingOfSamePeople_33 : decode cX0_hasMeetingOfSamePeople 33 = .ok (.aload_n 1, 1) := by decide +kernel
theorem dX0_hasMeetingOfSamePeople_34 : decode cX0_hasMeetingOfSamePeople 34 = .ok (.invokevirtual 56, 3) := by decide +kernel
theorem dX0_hasMeetingOfSamePeople_37 : decode cX0_hasMeetingOfSamePeople 37 = .ok (.ifCond .eq 5, 3) := by decide +kernel
theorem dX0_hasMeetingOfSamePeople_40 : decode cX0_hasMeetingOfSamePeople 40 = .ok (.iconst 1, 1) := by decide +kernel
theorem dX0_hasMeetingOfSamePeople_41 : decode cX0_hasMeetingOfSamePeople 41 = .ok (.ireturn, 1) := by decide +kernel
theorem dX0_hasMeetingOfSamePeople_42 : decode cX0_hasMeetingOfSamePeople 42 = .ok (.iinc 2 1, 3) := by decide +kernel
theorem dX0_hasMeetingOfSamePeople_45 : decode cX0_hasMeetingOfSamePeople 45 = .ok (.goto (-43), 3) := by decide +kernel
theorem dX0_hasMeetingOfSamePeople_48 : decode cX0_hasMeetingOfSamePeople 48 = .ok (.iconst 0, 1) := by decide +kernel
theorem dX0_hasMeetingOfSamePeople_49 : decode cX0_hasMeetingOfSamePeople 49 = .ok (.ireturn, 1) := by decide +kernel
def ins_X0_hasMeetingOfSamePeople (pc : Nat) : HOp := cond (Nat.blt pc 24) (cond (Nat.blt pc 11) (cond (Nat.blt pc 3) (cond (Nat.blt pc 1) (cond (Nat.beq pc 0) (o_const (0) 1) o_bad) (cond (Nat.blt pc 2) (cond (Nat.beq pc 1) (o_istore 2 2) o_bad) (cond (Nat.beq pc 2) (o_iload 2 3) o_bad))) (cond (Nat.blt pc 7) (cond (Nat.blt pc 4) (cond (Nat.beq pc 3) (o_aload 0 4) o_bad) (cond (Nat.beq pc 4) (o_getf 0 1 7) o_bad)) (cond (Nat.blt pc 10) (cond (Nat.beq pc 7) (o_icmp (fun x y => y ≤ x) 48 10) o_bad) (cond (Nat.beq pc 10) (o_aload 0 11) o_bad)))) (cond (Nat.blt pc 16) (cond (Nat.blt pc 14) (cond (Nat.beq pc 11) (o_getf 0 0 14) o_bad) (cond (Nat.blt pc 15) (cond (Nat.beq pc 14) (o_iload 2 15) o_bad) (cond (Nat.beq pc 15) (o_aald 16) o_bad))) (cond (Nat.blt pc 18) (cond (Nat.blt pc 17) (cond (Nat.beq pc 16) (o_astore 3 17) o_bad) (cond (Nat.beq pc 17) (o_aload 3 18) o_bad)) (cond (Nat.blt pc 21) (cond (Nat.beq pc 18) (o_getf 9 6 21) o_bad) (cond (Nat.beq pc 21) (o_if (fun x => x = 0) 24 42) o_bad))))) (cond (Nat.blt pc 37) (cond (Nat.blt pc 29) (cond (Nat.blt pc 25) (cond (Nat.beq pc 24) (o_aload 3 25) o_bad) (cond (Nat.blt pc 26) (cond (Nat.beq pc 25) (o_aload 1 26) o_bad) (cond (Nat.beq pc 26) (o_callV 2 9 sp_X9_sharesHalfWith 29) o_bad))) (cond (Nat.blt pc 33) (cond (Nat.blt pc 32) (cond (Nat.beq pc 29) (o_if (fun x => x = 0) 42 32) o_bad) (cond (Nat.beq pc 32) (o_aload 3 33) o_bad)) (cond (Nat.blt pc 34) (cond (Nat.beq pc 33) (o_aload 1 34) o_bad) (cond (Nat.beq pc 34) (o_callV 2 9 sp_X9_sharesPeopleWith 37) o_bad)))) (cond (Nat.blt pc 42) (cond (Nat.blt pc 40) (cond (Nat.beq pc 37) (o_if (fun x => x = 0) 42 40) o_bad) (cond (Nat.blt pc 41) (cond (Nat.beq pc 40) (o_const (1) 41) o_bad) (cond (Nat.beq pc 41) (o_zret) o_bad))) (cond (Nat.blt pc 48) (cond (Nat.blt pc 45) (cond (Nat.beq pc 42) (o_iinc 2 (1) 45) o_bad) (cond (Nat.beq pc 45) (o_goto 2) o_bad)) (cond (Nat.blt pc 49) (cond (Nat.beq pc 48) (o_const (0) 49) o_bad) (cond (Nat.beq pc 49) (o_zret) o_bad)))))
set_option maxRecDepth 20000 in
theorem ok_X0_hasMeetingOfSamePeople : HOKs cX0_hasMeetingOfSamePeople RX0 4 (some .boolean) 2 ins_X0_hasMeetingOfSamePeople := fun _ => hnd (hnd (hnd (hnd (hlf (ok_iconst dX0_hasMeetingOfSamePeople_0 (by decide) rfl)) (hnd (hlf (ok_istore_n dX0_hasMeetingOfSamePeople_1 rfl (by decide) rfl)) (hlf (ok_iload_n dX0_hasMeetingOfSamePeople_2 rfl rfl)))) (hnd (hnd (hlf (ok_aload_n dX0_hasMeetingOfSamePeople_3 rfl rfl)) (hlf (ok_getf (C := RX0) (T := TX0) dX0_hasMeetingOfSamePeople_4 rfl rfl (by decide) rfl inX0 wd_148 rfl))) (hnd (hlf (ok_icmp_ge dX0_hasMeetingOfSamePeople_7 (by decide) rfl)) (hlf (ok_aload_n dX0_hasMeetingOfSamePeople_10 rfl rfl))))) (hnd (hnd (hlf (ok_getf (C := RX0) (T := TX0) dX0_hasMeetingOfSamePeople_11 rfl rfl (by decide) rfl inX0 wd_145 rfl)) (hnd (hlf (ok_iload_n dX0_hasMeetingOfSamePeople_14 rfl rfl)) (hlf (ok_aald dX0_hasMeetingOfSamePeople_15 rfl)))) (hnd (hnd (hlf (ok_astore_n dX0_hasMeetingOfSamePeople_16 rfl (by decide) rfl)) (hlf (ok_aload_n dX0_hasMeetingOfSamePeople_17 rfl rfl))) (hnd (hlf (ok_getfN (C := RX9) (T := TX9) dX0_hasMeetingOfSamePeople_18 rfl rfl (by decide) rfl inX9 wd_263 rfl)) (hlf (ok_if_ne dX0_hasMeetingOfSamePeople_21 (by decide) rfl)))))) (hnd (hnd (hnd (hlf (ok_aload_n dX0_hasMeetingOfSamePeople_24 rfl rfl)) (hnd (hlf (ok_aload_n dX0_hasMeetingOfSamePeople_25 rfl rfl)) (hlf (ok_callV (y := yX9_sharesHalfWith) (n' := 1) (C := RX9) (T := TX9) dX0_hasMeetingOfSamePeople_26 ct_X9_sharesHalfWith (by decide) (by decide) wd_478 wd_475 wd_476 wd_477 wd_49 rfl (by decide +kernel) rfl rfl rfl)))) (hnd (hnd (hlf (ok_if_eq dX0_hasMeetingOfSamePeople_29 (by decide) rfl)) (hlf (ok_aload_n dX0_hasMeetingOfSamePeople_32 rfl rfl))) (hnd (hlf (ok_aload_n dX0_hasMeetingOfSamePeople_33 rfl rfl)) (hlf (ok_callV (y := yX9_sharesPeopleWith) (n' := 1) (C := RX9) (T := TX9) dX0_hasMeetingOfSamePeople_34 ct_X9_sharesPeopleWith (by decide) (by decide) wd_482 wd_479 wd_480 wd_481 wd_49 rfl (by decide +kernel) rfl rfl rfl))))) (hnd (hnd (hlf (ok_if_eq dX0_hasMeetingOfSamePeople_37 (by decide) rfl)) (hnd (hlf (ok_iconst dX0_hasMeetingOfSamePeople_40 (by decide) rfl)) (hlf (ok_zret dX0_hasMeetingOfSamePeople_41)))) (hnd (hnd (hlf (ok_iinc dX0_hasMeetingOfSamePeople_42 (by decide) (by decide) rfl)) (hlf (ok_goto dX0_hasMeetingOfSamePeople_45 (by decide)))) (hnd (hlf (ok_iconst dX0_hasMeetingOfSamePeople_48 (by decide) rfl)) (hlf (ok_zret dX0_hasMeetingOfSamePeople_49))))))

theorem vc_X0_hasMeetingOfSamePeople : MVC ins_X0_hasMeetingOfSamePeople 4 2 sp_X0_hasMeetingOfSamePeople := by
  refine mvc1 2 60 fun as w σ q hl hs => ?_
  unfold sp_X0_hasMeetingOfSamePeople at hs
  split at hs
  rotate_left
  · exact hs.elim
  rename_i v
  obtain ⟨n, ⟨hn, hsz, hra⟩, hq⟩ := hs
  refine ⟨fun N ls st w' σ' => ∃ (i : Nat) (u : Int32) (x : Option HV), i ≤ n ∧ N = n - i ∧ u = nI i ∧ (∀ j, j < i → ¬ (σ 9 j 6 = 0 ∧ shH σ j v ∧ shP σ j v)) ∧ ls = [some (HR 0 0), some (HR 9 v), some (HI u), x] ∧ st = [] ∧ w = w' ∧ σ = σ', ?_, ?_⟩
  · rintro N ls st w' σ' ⟨i, u, x, hi, rfl, rfl, hno, rfl, rfl, rfl, rfl⟩
    apply br2
    · intro h1
      obtain rfl := lp_end hsz hi h1
      exact ⟨Or.inl rfl, hq.2 fun ⟨j, h1, h2⟩ => hno j h1 h2⟩
    · intro h1
      have hlt := lp_go hsz hi h1
      refine And.intro (vp_in_nI (N := 100) (by omega) (by decide)) (fun o ho => ?_)
      obtain rfl := ra_at ho (hra i hlt)
      have no : ¬ (σ 9 i 6 = 0 ∧ shH σ i v ∧ shP σ i v) → ∃ N', N' < n - i ∧ ∃ (i' : Nat) (u : Int32) (x : Option HV), i' ≤ n ∧ N' = n - i' ∧ u = nI i' ∧ (∀ j, j < i' → ¬ (σ 9 j 6 = 0 ∧ shH σ j v ∧ shP σ j v)) ∧ [some (HR 0 0), some (HR 9 v), some (HI (nI i + 1)), some (HR 9 i)] = [some (HR 0 0), some (HR 9 v), some (HI u), x] ∧ ([] : List HV) = [] ∧ w = w ∧ σ = σ := fun h =>
        ⟨n - (i + 1), by omega, i + 1, _, _, hlt, rfl, nI_1 i, fun j hj => (Nat.lt_succ_iff_lt_or_eq.mp hj).elim (hno j) (fun e => e ▸ h), rfl, rfl, rfl, rfl⟩
      apply br2
      rotate_left
      · intro h2
        exact no fun h => h2 h.1
      intro h2
      apply br2
      rotate_left
      · intro h3
        exact And.intro (fun _ => no fun h => h3 h.2.1) (fun h => absurd rfl h)
      intro h3
      refine And.intro (fun h => absurd h (by decide)) (fun _ => ?_)
      apply br2
      rotate_left
      · intro h4
        exact And.intro (fun _ => no fun h => h4 h.2.2) (fun h => absurd rfl h)
      intro h4
      refine And.intro (fun h => absurd h (by decide)) (fun _ => ?_)
      exact ⟨Or.inr rfl, hq.1 ⟨i, hlt, h2, h3, h4⟩⟩
  · exact ⟨n, 0, 0, none, Nat.zero_le _, rfl, rfl, fun j hj => absurd hj (by omega), rfl, rfl, rfl, rfl⟩
theorem ct_X0_hasMeetingOfSamePeople : Ctr yX0_hasMeetingOfSamePeople cX0_hasMeetingOfSamePeople 4 (some .boolean) 2 0 0 2 sp_X0_hasMeetingOfSamePeople := ctr_of (by decide +kernel) rfl (by decide) ok_X0_hasMeetingOfSamePeople vc_X0_hasMeetingOfSamePeople

def kpS (σ : HS) (n : Nat) : HS := fun k i f => if k = 9 ∧ f = 7 ∧ i < n then 0 else σ k i f
def sp_X0_keepAll : HSp := fun as w σ K => match as with
  | [.inr (.inl (0, some 0))] => ∃ n, Bk w σ n ∧ K none w (kpS σ n)
  | _ => False
theorem dX0_keepAll_0 : decode cX0_keepAll 0 = .ok (.iconst 0, 1) := by decide +kernel
theorem dX0_keepAll_1 : decode cX0_keepAll 1 = .ok (.istore_n 1, 1) := by decide +kernel
theorem dX0_keepAll_2 : decode cX0_keepAll 2 = .ok (.iload_n 1, 1) := by decide +kernel
theorem dX0_keepAll_3 : decode cX0_keepAll 3 = .ok (.aload_n 0, 1) := by decide +kernel
theorem dX0_keepAll_4 : decode cX0_keepAll 4 = .ok (.getfield 17, 3) := by decide +kernel
theorem dX0_keepAll_7 : decode cX0_keepAll 7 = .ok (.if_icmp .ge 19, 3) := by decide +kernel
theorem dX0_keepAll_10 : decode cX0_keepAll 10 = .ok (.aload_n 0, 1) := by decide +kernel
theorem dX0_keepAll_11 : decode cX0_keepAll 11 = .ok (.getfield 13, 3) := by decide +kernel
theorem dX0_keepAll_14 : decode cX0_keepAll 14 = .ok (.iload_n 1, 1) := by decide +kernel
theorem dX0_keepAll_15 : decode cX0_keepAll 15 = .ok (.aaload, 1) := by decide +kernel
theorem dX0_keepAll_16 : decode cX0_keepAll 16 = .ok (.iconst 0, 1) := by decide +kernel
theorem dX0_keepAll_17 : decode cX0_keepAll 17 = .ok (.putfield 59, 3) := by decide +kernel
theorem dX0_keepAll_20 : decode cX0_keepAll 20 = .ok (.iinc 1 1, 3) := by decide +kernel
theorem dX0_keepAll_23 : decode cX0_keepAll 23 = .ok (.goto (-21), 3) := by decide +kernel
theorem dX0_keepAll_26 : decode cX0_keepAll 26 = .ok (.return_, 1) := by decide +kernel
def ins_X0_keepAll (pc : Nat) : HOp := cond (Nat.blt pc 11) (cond (Nat.blt pc 3) (cond (Nat.blt pc 1) (cond (Nat.beq pc 0) (o_const (0) 1) o_bad) (cond (Nat.blt pc 2) (cond (Nat.beq pc 1) (o_istore 1 2) o_bad) (cond (Nat.beq pc 2) (o_iload 1 3) o_bad))) (cond (Nat.blt pc 7) (cond (Nat.blt pc 4) (cond (Nat.beq pc 3) (o_aload 0 4) o_bad) (cond (Nat.beq pc 4) (o_getf 0 1 7) o_bad)) (cond (Nat.blt pc 10) (cond (Nat.beq pc 7) (o_icmp (fun x y => y ≤ x) 26 10) o_bad) (cond (Nat.beq pc 10) (o_aload 0 11) o_bad)))) (cond (Nat.blt pc 17) (cond (Nat.blt pc 15) (cond (Nat.blt pc 14) (cond (Nat.beq pc 11) (o_getf 0 0 14) o_bad) (cond (Nat.beq pc 14) (o_iload 1 15) o_bad)) (cond (Nat.blt pc 16) (cond (Nat.beq pc 15) (o_aald 16) o_bad) (cond (Nat.beq pc 16) (o_const (0) 17) o_bad))) (cond (Nat.blt pc 23) (cond (Nat.blt pc 20) (cond (Nat.beq pc 17) (o_putz 9 7 20) o_bad) (cond (Nat.beq pc 20) (o_iinc 1 (1) 23) o_bad)) (cond (Nat.blt pc 26) (cond (Nat.beq pc 23) (o_goto 2) o_bad) (cond (Nat.beq pc 26) (o_vret) o_bad))))
set_option maxRecDepth 20000 in
theorem ok_X0_keepAll : HOKs cX0_keepAll RX0 2 none 1 ins_X0_keepAll := fun _ => hnd (hnd (hnd (hlf (ok_iconst dX0_keepAll_0 (by decide) rfl)) (hnd (hlf (ok_istore_n dX0_keepAll_1 rfl (by decide) rfl)) (hlf (ok_iload_n dX0_keepAll_2 rfl rfl)))) (hnd (hnd (hlf (ok_aload_n dX0_keepAll_3 rfl rfl)) (hlf (ok_getf (C := RX0) (T := TX0) dX0_keepAll_4 rfl rfl (by decide) rfl inX0 wd_148 rfl))) (hnd (hlf (ok_icmp_ge dX0_keepAll_7 (by decide) rfl)) (hlf (ok_aload_n dX0_keepAll_10 rfl rfl))))) (hnd (hnd (hnd (hlf (ok_getf (C := RX0) (T := TX0) dX0_keepAll_11 rfl rfl (by decide) rfl inX0 wd_145 rfl)) (hlf (ok_iload_n dX0_keepAll_14 rfl rfl))) (hnd (hlf (ok_aald dX0_keepAll_15 rfl)) (hlf (ok_iconst dX0_keepAll_16 (by decide) rfl)))) (hnd (hnd (hlf (ok_putzN (C := RX9) (T := TX9) dX0_keepAll_17 rfl rfl (by decide) rfl inX9 tyX9_ok nmX9 rfl rfl (fun _ _ => rfl) wd_266 rfl)) (hlf (ok_iinc dX0_keepAll_20 (by decide) (by decide) rfl))) (hnd (hlf (ok_goto dX0_keepAll_23 (by decide))) (hlf (ok_vret dX0_keepAll_26)))))

theorem vc_X0_keepAll : MVC ins_X0_keepAll 2 1 sp_X0_keepAll := by
  refine mvc1 2 60 fun as w σ q hl hs => ?_
  unfold sp_X0_keepAll at hs
  split at hs
  rotate_left
  · exact hs.elim
  obtain ⟨n, ⟨hn, hsz, hra⟩, hq⟩ := hs
  refine ⟨fun N ls st w' σ' => ∃ (i : Nat) (u : Int32), i ≤ n ∧ N = n - i ∧ u = nI i ∧ ls = [some (HR 0 0), some (HI u)] ∧ st = [] ∧ w = w' ∧ σ' = kpS σ i, ?_, ?_⟩
  · rintro N ls st w' σ' ⟨i, u, hi, rfl, rfl, rfl, rfl, rfl, rfl⟩
    have e1 : kpS σ i 0 0 1 = nI n := by rw [← hsz]; simp [kpS]
    apply br2
    · intro h1
      obtain rfl := lp_end e1 hi h1
      exact hq
    · intro h1
      have hlt := lp_go e1 hi h1
      refine And.intro (vp_in_nI (N := 100) (by omega) (by decide)) (fun o ho => ?_)
      obtain rfl := ra_at ho (hra i hlt)
      refine And.intro (Or.inl rfl) ?_
      refine ⟨n - (i + 1), by omega, i + 1, _, hlt, rfl, nI_1 i, rfl, rfl, rfl, ?_⟩
      funext k j f
      simp only [kpS, up3]
      grind
  · exact ⟨n, 0, 0, Nat.zero_le _, rfl, rfl, rfl, rfl, rfl, by funext k i f; simp [kpS]⟩
theorem ct_X0_keepAll : Ctr yX0_keepAll cX0_keepAll 2 none 1 0 0 1 sp_X0_keepAll := ctr_of (by decide +kernel) rfl (by decide) ok_X0_keepAll vc_X0_keepAll

def slS (σ : HS) (n : Nat) : HS := fun k i f => if k = 9 ∧ i < n ∧ ¬ σ 9 i 7 = 0 ∧ (f = 6 ∨ f = 7) then (if f = 7 then 0 else 1) else σ k i f
def sp_X0_sendLeaversToWait : HSp := fun as w σ K => match as with
  | [.inr (.inl (0, some 0))] => ∃ n, Bk w σ n ∧ K none w (slS σ n)
  | _ => False
theorem dX0_sendLeaversToWait_0 : decode cX0_sendLeaversToWait 0 = .ok (.iconst 0, 1) := by decide +kernel
theorem dX0_sendLeaversToWait_1 : decode cX0_sendLeaversToWait 1 = .ok (.istore_n 1, 1) := by decide +kernel
theorem dX0_sendLeaversToWait_2 : decode cX0_sendLeaversToWait 2 = .ok (.iload_n 1, 1) := by decide +kernel
theorem dX0_sendLeaversToWait_3 : decode cX0_sendLeaversToWait 3 = .ok (.aload_n 0, 1) := by decide +kernel
theorem dX0_sendLeaversToWait_4 : decode cX0_sendLeaversToWait 4 = .ok (.getfield 17, 3) := by decide +kernel
theorem dX0_sendLeaversToWait_7 : decode cX0_sendLeaversToWait 7 = .ok (.if_icmp .ge 41, 3) := by decide +kernel
theorem dX0_sendLeaversToWait_10 : decode cX0_sendLeaversToWait 10 = .ok (.aload_n 0, 1) := by decide +kernel
theorem dX0_sendLeaversToWait_11 : decode cX0_sendLeaversToWait 11 = .ok (.getfield 13, 3) := by decide +kernel
theorem dX0_sendLeaversToWait_14 : decode cX0_sendLeaversToWait 14 = .ok (.iload_n 1, 1) := by decide +kernel
theorem dX0_sendLeaversToWait_15 : decode cX0_sendLeaversToWait 15 = .ok (.aaload, 1) := by decide +kernel
theorem dX0_sendLeaversToWait_16 : decode cX0_sendLeaversToWait 16 = .ok (.getfield 59, 3) := by decide +kernel
theorem dX0_sendLeaversToWait_19 : decode cX0_sendLeaversToWait 19 = .ok (.ifCond .eq 23, 3) := by decide +kernel
theorem dX0_sendLeaversToWait_22 : decode cX0_sendLeaversToWait 22 = .ok (.aload_n 0, 1) := by decide +kernel
theorem dX0_sendLeaversToWait_23 : decode cX0_sendLeaversToWait 23 = .ok (.getfield 13, 3) := by decide +kernel
theorem dX0_sendLeaversToWait_26 : decode cX0_sendLeaversToWait 26 = .ok (.iload_n 1, 1) := by decide +kernel
theorem dX0_sendLeaversToWait_27 : decode cX0_sendLeaversToWait 27 = .ok (.aaload, 1) := by decide +kernel
theorem dX0_sendLeaversToWait_28 : decode cX0_sendLeaversToWait 28 = .ok (.iconst 0, 1) := by decide +kernel
theorem dX0_sendLeaversToWait_29 : decode cX0_sendLeaversToWait 29 = .ok (.putfield 59, 3) := by decide +kernel
theorem dX0_sendLeaversToWait_32 : decode cX0_sendLeaversToWait 32 = .ok (.aload_n 0, 1) := by decide +kernel
theorem dX0_sendLeaversToWait_33 : decode cX0_sendLeaversToWait 33 = .ok (.getfield 13, 3) := by decide +kernel
theorem dX0_sendLeaversToWait_36 : decode cX0_sendLeaversToWait 36 = .ok (.iload_n 1, 1) := by decide +kernel
theorem dX0_sendLeaversToWait_37 : decode cX0_sendLeaversToWait 37 = .ok (.aaload, 1) := by decide +kernel
theorem dX0_sendLeaversToWait_38 : decode cX0_sendLeaversToWait 38 = .ok (.iconst 1, 1) := by decide +kernel
theorem dX0_sendLeaversToWait_39 : decode cX0_sendLeaversToWait 39 = .ok (.putfield 30, 3) := by decide +kernel
theorem dX0_sendLeaversToWait_42 : decode cX0_sendLeaversToWait 42 = .ok (.iinc 1 1, 3) := by decide +kernel
theorem dX0_sendLeaversToWait_45 : decode cX0_sendLeaversToWait 45 = .ok (.goto (-43), 3) := by decide +kernel
theorem dX0_sendLeaversToWait_48 : decode cX0_sendLeaversToWait 48 = .ok (.return_, 1) := by decide +kernel
def ins_X0_sendLeaversToWait (pc : Nat) : HOp := cond (Nat.blt pc 23) (cond (Nat.blt pc 10) (cond (Nat.blt pc 3) (cond (Nat.blt pc 1) (cond (Nat.beq pc 0) (o_const (0) 1) o_bad) (cond (Nat.blt pc 2) (cond (Nat.beq pc 1) (o_istore 1 2) o_bad) (cond (Nat.beq pc 2) (o_iload 1 3) o_bad))) (cond (Nat.blt pc 4) (cond (Nat.beq pc 3) (o_aload 0 4) o_bad) (cond (Nat.blt pc 7) (cond (Nat.beq pc 4) (o_getf 0 1 7) o_bad) (cond (Nat.beq pc 7) (o_icmp (fun x y => y ≤ x) 48 10) o_bad)))) (cond (Nat.blt pc 15) (cond (Nat.blt pc 11) (cond (Nat.beq pc 10) (o_aload 0 11) o_bad) (cond (Nat.blt pc 14) (cond (Nat.beq pc 11) (o_getf 0 0 14) o_bad) (cond (Nat.beq pc 14) (o_iload 1 15) o_bad))) (cond (Nat.blt pc 19) (cond (Nat.blt pc 16) (cond (Nat.beq pc 15) (o_aald 16) o_bad) (cond (Nat.beq pc 16) (o_getf 9 7 19) o_bad)) (cond (Nat.blt pc 22) (cond (Nat.beq pc 19) (o_if (fun x => x = 0) 42 22) o_bad) (cond (Nat.beq pc 22) (o_aload 0 23) o_bad))))) (cond (Nat.blt pc 36) (cond (Nat.blt pc 28) (cond (Nat.blt pc 26) (cond (Nat.beq pc 23) (o_getf 0 0 26) o_bad) (cond (Nat.blt pc 27) (cond (Nat.beq pc 26) (o_iload 1 27) o_bad) (cond (Nat.beq pc 27) (o_aald 28) o_bad))) (cond (Nat.blt pc 32) (cond (Nat.blt pc 29) (cond (Nat.beq pc 28) (o_const (0) 29) o_bad) (cond (Nat.beq pc 29) (o_putz 9 7 32) o_bad)) (cond (Nat.blt pc 33) (cond (Nat.beq pc 32) (o_aload 0 33) o_bad) (cond (Nat.beq pc 33) (o_getf 0 0 36) o_bad)))) (cond (Nat.blt pc 39) (cond (Nat.blt pc 37) (cond (Nat.beq pc 36) (o_iload 1 37) o_bad) (cond (Nat.blt pc 38) (cond (Nat.beq pc 37) (o_aald 38) o_bad) (cond (Nat.beq pc 38) (o_const (1) 39) o_bad))) (cond (Nat.blt pc 45) (cond (Nat.blt pc 42) (cond (Nat.beq pc 39) (o_putf 9 6 42) o_bad) (cond (Nat.beq pc 42) (o_iinc 1 (1) 45) o_bad)) (cond (Nat.blt pc 48) (cond (Nat.beq pc 45) (o_goto 2) o_bad) (cond (Nat.beq pc 48) (o_vret) o_bad)))))
set_option maxRecDepth 20000 in
theorem ok_X0_sendLeaversToWait : HOKs cX0_sendLeaversToWait RX0 2 none 1 ins_X0_sendLeaversToWait := fun _ => hnd (hnd (hnd (hnd (hlf (ok_iconst dX0_sendLeaversToWait_0 (by decide) rfl)) (hnd (hlf (ok_istore_n dX0_sendLeaversToWait_1 rfl (by decide) rfl)) (hlf (ok_iload_n dX0_sendLeaversToWait_2 rfl rfl)))) (hnd (hlf (ok_aload_n dX0_sendLeaversToWait_3 rfl rfl)) (hnd (hlf (ok_getf (C := RX0) (T := TX0) dX0_sendLeaversToWait_4 rfl rfl (by decide) rfl inX0 wd_148 rfl)) (hlf (ok_icmp_ge dX0_sendLeaversToWait_7 (by decide) rfl))))) (hnd (hnd (hlf (ok_aload_n dX0_sendLeaversToWait_10 rfl rfl)) (hnd (hlf (ok_getf (C := RX0) (T := TX0) dX0_sendLeaversToWait_11 rfl rfl (by decide) rfl inX0 wd_145 rfl)) (hlf (ok_iload_n dX0_sendLeaversToWait_14 rfl rfl)))) (hnd (hnd (hlf (ok_aald dX0_sendLeaversToWait_15 rfl)) (hlf (ok_getfN (C := RX9) (T := TX9) dX0_sendLeaversToWait_16 rfl rfl (by decide) rfl inX9 wd_266 rfl))) (hnd (hlf (ok_if_eq dX0_sendLeaversToWait_19 (by decide) rfl)) (hlf (ok_aload_n dX0_sendLeaversToWait_22 rfl rfl)))))) (hnd (hnd (hnd (hlf (ok_getf (C := RX0) (T := TX0) dX0_sendLeaversToWait_23 rfl rfl (by decide) rfl inX0 wd_145 rfl)) (hnd (hlf (ok_iload_n dX0_sendLeaversToWait_26 rfl rfl)) (hlf (ok_aald dX0_sendLeaversToWait_27 rfl)))) (hnd (hnd (hlf (ok_iconst dX0_sendLeaversToWait_28 (by decide) rfl)) (hlf (ok_putzN (C := RX9) (T := TX9) dX0_sendLeaversToWait_29 rfl rfl (by decide) rfl inX9 tyX9_ok nmX9 rfl rfl (fun _ _ => rfl) wd_266 rfl))) (hnd (hlf (ok_aload_n dX0_sendLeaversToWait_32 rfl rfl)) (hlf (ok_getf (C := RX0) (T := TX0) dX0_sendLeaversToWait_33 rfl rfl (by decide) rfl inX0 wd_145 rfl))))) (hnd (hnd (hlf (ok_iload_n dX0_sendLeaversToWait_36 rfl rfl)) (hnd (hlf (ok_aald dX0_sendLeaversToWait_37 rfl)) (hlf (ok_iconst dX0_sendLeaversToWait_38 (by decide) rfl)))) (hnd (hnd (hlf (ok_putfN (C := RX9) (T := TX9) dX0_sendLeaversToWait_39 rfl rfl (by decide) rfl inX9 tyX9_ok nmX9 rfl rfl (fun _ _ => rfl) wd_263 rfl)) (hlf (ok_iinc dX0_sendLeaversToWait_42 (by decide) (by decide) rfl))) (hnd (hlf (ok_goto dX0_sendLeaversToWait_45 (by decide))) (hlf (ok_vret dX0_sendLeaversToWait_48))))))

theorem vc_X0_sendLeaversToWait : MVC ins_X0_sendLeaversToWait 2 1 sp_X0_sendLeaversToWait := by
  refine mvc1 2 60 fun as w σ q hl hs => ?_
  unfold sp_X0_sendLeaversToWait at hs
  split at hs
  rotate_left
  · exact hs.elim
  obtain ⟨n, ⟨hn, hsz, hra⟩, hq⟩ := hs
  refine ⟨fun N ls st w' σ' => ∃ (i : Nat) (u : Int32), i ≤ n ∧ N = n - i ∧ u = nI i ∧ ls = [some (HR 0 0), some (HI u)] ∧ st = [] ∧ w = w' ∧ σ' = slS σ i, ?_, ?_⟩
  · rintro N ls st w' σ' ⟨i, u, hi, rfl, rfl, rfl, rfl, rfl, rfl⟩
    have e1 : slS σ i 0 0 1 = nI n := by rw [← hsz]; simp [slS]
    have e7 : slS σ i 9 i 7 = σ 9 i 7 := by simp [slS]
    apply br2
    · intro h1
      obtain rfl := lp_end e1 hi h1
      exact hq
    · intro h1
      have hlt := lp_go e1 hi h1
      have hin : vp_in (nI i) 100 := vp_in_nI (N := 100) (by omega) (by decide)
      refine And.intro hin (fun o ho => ?_)
      obtain rfl := ra_at ho (hra i hlt)
      apply br2
      · intro h2
        have h2 : slS σ i 9 i 7 = 0 := h2
        rw [e7] at h2
        refine ⟨n - (i + 1), by omega, i + 1, _, hlt, rfl, nI_1 i, rfl, rfl, rfl, ?_⟩
        funext k j f
        simp only [slS]
        grind
      · intro h2
        have h2 : ¬ slS σ i 9 i 7 = 0 := h2
        rw [e7] at h2
        refine And.intro hin (fun o ho => ?_)
        obtain rfl := ra_at ho (hra i hlt)
        refine And.intro (Or.inl rfl) ?_
        refine And.intro hin (fun o ho => ?_)
        obtain rfl := ra_at ho (hra i hlt)
        refine ⟨n - (i + 1), by omega, i + 1, _, hlt, rfl, nI_1 i, rfl, rfl, rfl, ?_⟩
        funext k j f
        simp only [slS, up3]
        grind
  · exact ⟨n, 0, 0, Nat.zero_le _, rfl, rfl, rfl, rfl, rfl, by funext k i f; simp [slS]⟩
theorem ct_X0_sendLeaversToWait : Ctr yX0_sendLeaversToWait cX0_sendLeaversToWait 2 none 1 0 0 1 sp_X0_sendLeaversToWait := ctr_of (by decide +kernel) rfl (by decide) ok_X0_sendLeaversToWait vc_X0_sendLeaversToWait

