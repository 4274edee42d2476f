/-! RightReader: words -/
def isWc (T : Nat → Int32) (a b c : Nat) : Prop := b - a = slen.getD c 0 ∧ ∀ i, i < slen.getD c 0 → T (a + i) = (sbyt.getD c []).getD i 0
def sp_X5_isWord : HSp := fun as w σ K => match as with
  | [.inr (.inl (5, some 0)), .inr (.inl (43, some c))] => c < 6 ∧ (¬ okF σ → K (some (HI 0)) w σ) ∧ (okF σ → ∃ T a b, σ 12 0 = T ∧ a ≤ b ∧ b ≤ 60 ∧ σ 5 0 1 = nI a ∧ σ 5 0 2 = nI b ∧ spZ (isWc T a b c) w σ K)
  | _ => False
theorem len4 {c : Nat} (h : c < 6) : slen.getD c 0 ≤ 4 := by
  revert c
  decide
theorem dX5_isWord_0 : decode cX5_isWord 0 = .ok (.aload_n 0, 1) := by decide +kernel
theorem dX5_isWord_1 : decode cX5_isWord 1 = .ok (.invokevirtual 90, 3) := by decide +kernel
theorem dX5_isWord_4 : decode cX5_isWord 4 = .ok (.ifCond .ne 19, 3) := by decide +kernel
theorem dX5_isWord_7 : decode cX5_isWord 7 = .ok (.aload_n 0, 1) := by decide +kernel
theorem dX5_isWord_8 : decode cX5_isWord 8 = .ok (.getfield 22, 3) := by decide +kernel
theorem dX5_isWord_11 : decode cX5_isWord 11 = .ok (.aload_n 0, 1) := by decide +kernel
theorem dX5_isWord_12 : decode cX5_isWord 12 = .ok (.getfield 19, 3) := by decide +kernel
theorem dX5_isWord_15 : decode cX5_isWord 15 = .ok (.isub, 1) := by decide +kernel
theorem dX5_isWord_16 : decode cX5_isWord 16 = .ok (.aload_n 1, 1) := by decide +kernel
theorem dX5_isWord_17 : decode cX5_isWord 17 = .ok (.invokevirtual 98, 3) := by decide +kernel
theorem dX5_isWord_20 : decode cX5_isWord 20 = .ok (.if_icmp .eq 5, 3) := by decide +kernel
theorem dX5_isWord_23 : decode cX5_isWord 23 = .ok (.iconst 0, 1) := by decide +kernel
theorem dX5_isWord_24 : decode cX5_isWord 24 = .ok (.ireturn, 1) := by decide +kernel
theorem dX5_isWord_25 : decode cX5_isWord 25 = .ok (.iconst 0, 1) := by decide +kernel
theorem dX5_isWord_26 : decode cX5_isWord 26 = .ok (.istore_n 2, 1) := by decide +kernel
theorem dX5_isWord_27 : decode cX5_isWord 27 = .ok (.iload_n 2, 1) := by decide +kernel
theorem dX5_isWord_28 : decode cX5_isWord 28 = .ok (.aload_n 1, 1) := by decide +kernel
theorem dX5_isWord_29 : decode cX5_isWord 29 = .ok (.invokevirtual 98, 3) := by decide +kernel
theorem dX5_isWord_32 : decode cX5_isWord 32 = .ok (.if_icmp .ge 33, 3) := by decide +kernel
theorem dX5_isWord_35 : decode cX5_isWord 35 = .ok (.aload_n 0, 1) := by decide +kernel
theorem dX5_isWord_36 : decode cX5_isWord 36 = .ok (.getfield 15, 3) := by decide +kernel
theorem dX5_isWord_39 : decode cX5_isWord 39 = .ok (.getfield 94, 3) := by decide +kernel
theorem dX5_isWord_42 : decode cX5_isWord 42 = .ok (.aload_n 0, 1) := by decide +kernel
theorem dX5_isWord_43 : decode cX5_isWord 43 = .ok (.getfield 19, 3) := by decide +kernel
theorem dX5_isWord_46 : decode cX5_isWord 46 = .ok (.iload_n 2, 1) := by decide +kernel
theorem dX5_isWord_47 : decode cX5_isWord 47 = .ok (.iadd, 1) := by decide +kernel
theorem dX5_isWord_48 : decode cX5_isWord 48 = .ok (.baload, 1) := by decide +kernel
theorem dX5_isWord_49 : decode cX5_isWord 49 = .ok (.aload_n 1, 1) := by decide +kernel
theorem dX5_isWord_50 : decode cX5_isWord 50 = .ok (.iload_n 2, 1) := by decide +kernel
theorem dX5_isWord_51 : decode cX5_isWord 51 = .ok (.invokevirtual 104, 3) := by decide +kernel
theorem dX5_isWord_54 : decode cX5_isWord 54 = .ok (.if_icmp .eq 5, 3) := by decide +kernel
theorem dX5_isWord_57 : decode cX5_isWord 57 = .ok (.iconst 0, 1) := by decide +kernel
theorem dX5_isWord_58 : decode cX5_isWord 58 = .ok (.ireturn, 1) := by decide +kernel
theorem dX5_isWord_59 : decode cX5_isWord 59 = .ok (.iinc 2 1, 3) := by decide +kernel
theorem dX5_isWord_62 : decode cX5_isWord 62 = .ok (.goto (-35), 3) := by decide +kernel
theorem dX5_isWord_65 : decode cX5_isWord 65 = .ok (.iconst 1, 1) := by decide +kernel
theorem dX5_isWord_66 : decode cX5_isWord 66 = .ok (.ireturn, 1) := by decide +kernel
def ins_X5_isWord (pc : Nat) : HOp := cond (Nat.blt pc 32) (cond (Nat.blt pc 17) (cond (Nat.blt pc 8) (cond (Nat.blt pc 4) (cond (Nat.blt pc 1) (cond (Nat.beq pc 0) (o_aload 0 1) o_bad) (cond (Nat.beq pc 1) (o_callV 1 5 sp_X5_hasFault 4) o_bad)) (cond (Nat.blt pc 7) (cond (Nat.beq pc 4) (o_if (fun x => x = 0) 7 23) o_bad) (cond (Nat.beq pc 7) (o_aload 0 8) o_bad))) (cond (Nat.blt pc 12) (cond (Nat.blt pc 11) (cond (Nat.beq pc 8) (o_getf 5 2 11) o_bad) (cond (Nat.beq pc 11) (o_aload 0 12) o_bad)) (cond (Nat.blt pc 15) (cond (Nat.beq pc 12) (o_getf 5 1 15) o_bad) (cond (Nat.blt pc 16) (cond (Nat.beq pc 15) (o_bin (fun x y => x - y) 16) o_bad) (cond (Nat.beq pc 16) (o_aload 1 17) o_bad))))) (cond (Nat.blt pc 25) (cond (Nat.blt pc 23) (cond (Nat.blt pc 20) (cond (Nat.beq pc 17) (o_callT 1 sp_J0_length_8abf5 20) o_bad) (cond (Nat.beq pc 20) (o_icmp (fun x y => x = y) 25 23) o_bad)) (cond (Nat.blt pc 24) (cond (Nat.beq pc 23) (o_const (0) 24) o_bad) (cond (Nat.beq pc 24) (o_zret) o_bad))) (cond (Nat.blt pc 27) (cond (Nat.blt pc 26) (cond (Nat.beq pc 25) (o_const (0) 26) o_bad) (cond (Nat.beq pc 26) (o_istore 2 27) o_bad)) (cond (Nat.blt pc 28) (cond (Nat.beq pc 27) (o_iload 2 28) o_bad) (cond (Nat.blt pc 29) (cond (Nat.beq pc 28) (o_aload 1 29) o_bad) (cond (Nat.beq pc 29) (o_callT 1 sp_J0_length_8abf5 32) o_bad)))))) (cond (Nat.blt pc 49) (cond (Nat.blt pc 42) (cond (Nat.blt pc 36) (cond (Nat.blt pc 35) (cond (Nat.beq pc 32) (o_icmp (fun x y => y ≤ x) 65 35) o_bad) (cond (Nat.beq pc 35) (o_aload 0 36) o_bad)) (cond (Nat.blt pc 39) (cond (Nat.beq pc 36) (o_getf 5 0 39) o_bad) (cond (Nat.beq pc 39) (o_getf 8 0 42) o_bad))) (cond (Nat.blt pc 46) (cond (Nat.blt pc 43) (cond (Nat.beq pc 42) (o_aload 0 43) o_bad) (cond (Nat.beq pc 43) (o_getf 5 1 46) o_bad)) (cond (Nat.blt pc 47) (cond (Nat.beq pc 46) (o_iload 2 47) o_bad) (cond (Nat.blt pc 48) (cond (Nat.beq pc 47) (o_bin (fun x y => x + y) 48) o_bad) (cond (Nat.beq pc 48) (o_bald 49) o_bad))))) (cond (Nat.blt pc 58) (cond (Nat.blt pc 51) (cond (Nat.blt pc 50) (cond (Nat.beq pc 49) (o_aload 1 50) o_bad) (cond (Nat.beq pc 50) (o_iload 2 51) o_bad)) (cond (Nat.blt pc 54) (cond (Nat.beq pc 51) (o_callT 2 sp_J0_charAt_5068e 54) o_bad) (cond (Nat.blt pc 57) (cond (Nat.beq pc 54) (o_icmp (fun x y => x = y) 59 57) o_bad) (cond (Nat.beq pc 57) (o_const (0) 58) o_bad)))) (cond (Nat.blt pc 62) (cond (Nat.blt pc 59) (cond (Nat.beq pc 58) (o_zret) o_bad) (cond (Nat.beq pc 59) (o_iinc 2 (1) 62) o_bad)) (cond (Nat.blt pc 65) (cond (Nat.beq pc 62) (o_goto 27) o_bad) (cond (Nat.blt pc 66) (cond (Nat.beq pc 65) (o_const (1) 66) o_bad) (cond (Nat.beq pc 66) (o_zret) o_bad))))))
set_option maxRecDepth 20000 in
theorem ok_X5_isWord : HOKs cX5_isWord RX5 3 (some .boolean) 5 ins_X5_isWord := fun _ => hnd (hnd (hnd (hnd (hnd (hlf (ok_aload_n dX5_isWord_0 rfl rfl)) (hlf (ok_callV (y := yX5_hasFault) (n' := 0) (C := RX5) (T := TX5) dX5_isWord_1 ct_X5_hasFault (by decide) (by decide) wd_626 wd_623 wd_624 wd_625 wd_44 rfl (by decide +kernel) rfl rfl rfl))) (hnd (hlf (ok_if_ne dX5_isWord_4 (by decide) rfl)) (hlf (ok_aload_n dX5_isWord_7 rfl rfl)))) (hnd (hnd (hlf (ok_getf (C := RX5) (T := TX5) dX5_isWord_8 rfl rfl (by decide) rfl inX5 wd_123 rfl)) (hlf (ok_aload_n dX5_isWord_11 rfl rfl))) (hnd (hlf (ok_getf (C := RX5) (T := TX5) dX5_isWord_12 rfl rfl (by decide) rfl inX5 wd_122 rfl)) (hnd (hlf (ok_isub dX5_isWord_15 rfl)) (hlf (ok_aload_n dX5_isWord_16 rfl rfl)))))) (hnd (hnd (hnd (hlf (ok_callT (y := yJ0_length_8abf5) (n' := 0) dX5_isWord_17 ct_J0_length_8abf5 (by decide) (by decide) wd_651 wd_648 wd_649 wd_650 wd_55 rfl (by decide +kernel) rfl)) (hlf (ok_icmp_eq dX5_isWord_20 (by decide) rfl))) (hnd (hlf (ok_iconst dX5_isWord_23 (by decide) rfl)) (hlf (ok_zret dX5_isWord_24)))) (hnd (hnd (hlf (ok_iconst dX5_isWord_25 (by decide) rfl)) (hlf (ok_istore_n dX5_isWord_26 rfl (by decide) rfl))) (hnd (hlf (ok_iload_n dX5_isWord_27 rfl rfl)) (hnd (hlf (ok_aload_n dX5_isWord_28 rfl rfl)) (hlf (ok_callT (y := yJ0_length_8abf5) (n' := 0) dX5_isWord_29 ct_J0_length_8abf5 (by decide) (by decide) wd_651 wd_648 wd_649 wd_650 wd_55 rfl (by decide +kernel) rfl))))))) (hnd (hnd (hnd (hnd (hlf (ok_icmp_ge dX5_isWord_32 (by decide) rfl)) (hlf (ok_aload_n dX5_isWord_35 rfl rfl))) (hnd (hlf (ok_getf (C := RX5) (T := TX5) dX5_isWord_36 rfl rfl (by decide) rfl inX5 wd_121 rfl)) (hlf (ok_getfN (C := RX8) (T := TX8) dX5_isWord_39 rfl rfl (by decide) rfl inX8 wd_105 rfl)))) (hnd (hnd (hlf (ok_aload_n dX5_isWord_42 rfl rfl)) (hlf (ok_getf (C := RX5) (T := TX5) dX5_isWord_43 rfl rfl (by decide) rfl inX5 wd_122 rfl))) (hnd (hlf (ok_iload_n dX5_isWord_46 rfl rfl)) (hnd (hlf (ok_iadd dX5_isWord_47 rfl)) (hlf (ok_bald dX5_isWord_48 rfl)))))) (hnd (hnd (hnd (hlf (ok_aload_n dX5_isWord_49 rfl rfl)) (hlf (ok_iload_n dX5_isWord_50 rfl rfl))) (hnd (hlf (ok_callT (y := yJ0_charAt_5068e) (n' := 1) dX5_isWord_51 ct_J0_charAt_5068e (by decide) (by decide) wd_661 wd_658 wd_659 wd_660 wd_55 rfl (by decide +kernel) rfl)) (hnd (hlf (ok_icmp_eq dX5_isWord_54 (by decide) rfl)) (hlf (ok_iconst dX5_isWord_57 (by decide) rfl))))) (hnd (hnd (hlf (ok_zret dX5_isWord_58)) (hlf (ok_iinc dX5_isWord_59 (by decide) (by decide) rfl))) (hnd (hlf (ok_goto dX5_isWord_62 (by decide))) (hnd (hlf (ok_iconst dX5_isWord_65 (by decide) rfl)) (hlf (ok_zret dX5_isWord_66)))))))

set_option maxHeartbeats 1000000 in
theorem vc_X5_isWord : MVC ins_X5_isWord 3 2 sp_X5_isWord := by
  refine mvc1 27 60 fun as w σ q hl hs => ?_
  unfold sp_X5_isWord at hs
  split at hs
  rotate_left
  · exact hs.elim
  rename_i c
  obtain ⟨hc, hn, hy⟩ := hs
  have hl4 := len4 hc
  obtain ⟨L, hL⟩ : ∃ L, L = slen.getD c 0 := ⟨_, rfl⟩
  refine ⟨fun N ls st w' σ' => ∃ (a b i : Nat) (u : Int32), a ≤ b ∧ b ≤ 60 ∧ σ 5 0 1 = nI a ∧ b - a = L ∧ spZ (isWc (σ 12 0) a b c) w σ q ∧ i ≤ L ∧ N = L - i ∧ (∀ j, j < i → σ 12 0 (a + j) = (sbyt.getD c []).getD j 0) ∧ u = nI i ∧ ls = [some (HR 5 0), some (HR 43 c), some (HI u)] ∧ st = [] ∧ w = w' ∧ σ = σ', ?_, ?_⟩
  · rintro N ls st w' σ' ⟨a, b, i, u, hab, hb, ha, hl, hq, hi, rfl, hj, rfl, rfl, rfl, rfl, rfl⟩
    show bif Nat.beq 43 43 && Nat.blt c 6 && _ && _ && _ then _ else False
    rw [blt6 hc]
    refine ⟨hc, ?_⟩
    apply br2
    · intro h1
      have h1 : nI (slen.getD c 0) ≤ nI i := h1
      rw [← hL] at h1
      obtain rfl := lp_end rfl hi h1
      refine ⟨Or.inr rfl, hq.1 ⟨by rw [← hL]; exact hl, fun j h => hj j (by rw [hL]; exact h)⟩⟩
    intro h1
    have h1 : ¬ nI (slen.getD c 0) ≤ nI i := h1
    rw [← hL] at h1
    have hlt := lp_go rfl hi h1
    have e1 : σ 5 0 1 + nI i = nI (a + i) := by rw [ha, nI_add]
    have e2 : (σ 5 0 1 + nI i).toNatClampNeg = a + i := by rw [e1, nI_clamp (by omega)]
    refine And.intro (by show vp_in (σ 5 0 1 + nI i) 60; rw [e1]; exact vp_in_nI (N := 60) (by omega) (by decide)) ?_
    show bif Nat.beq 43 43 && Nat.blt c 6 && _ && _ && _ then _ else False
    rw [blt6 hc]
    refine ⟨i, hc, by rw [← hL]; exact hlt, rfl, ?_⟩
    apply br2
    · intro h2
      have h2 : σ 12 0 (σ 5 0 1 + nI i).toNatClampNeg = (sbyt.getD c []).getD i 0 := h2
      rw [e2] at h2
      refine ⟨L - (i + 1), by omega, a, b, i + 1, _, hab, hb, ha, hl, hq, hlt, rfl, fun j h => ?_, nI_1 i, rfl, rfl, rfl, rfl⟩
      rcases Nat.lt_or_ge j i with h3 | h3
      · exact hj j h3
      · have : j = i := by omega
        subst this
        exact h2
    · intro h2
      have h2 : ¬ σ 12 0 (σ 5 0 1 + nI i).toNatClampNeg = (sbyt.getD c []).getD i 0 := h2
      rw [e2] at h2
      exact ⟨Or.inl rfl, hq.2 fun z => h2 (z.2 i (by rw [← hL]; exact hlt))⟩
  · refine And.intro (fun hF => And.intro (fun h => absurd h (by decide)) (fun _ => ⟨Or.inl rfl, hn hF⟩)) (fun hF => And.intro (fun _ => ?_) (fun h => absurd rfl h))
    obtain ⟨T, a, b, hTT, hab, hb, ha, hbb, hq⟩ := hy (Classical.not_not.mp hF)
    subst hTT
    show bif Nat.beq 43 43 && Nat.blt c 6 && _ && _ && _ then _ else False
    rw [blt6 hc]
    refine ⟨hc, ?_⟩
    have e1 : σ 5 0 2 - σ 5 0 1 = nI (b - a) := by rw [ha, hbb, pk_sub hab]
    apply br2
    · intro h
      have h : σ 5 0 2 - σ 5 0 1 = nI (slen.getD c 0) := h
      rw [e1] at h
      have h2 := (nI_eq (by omega) (by omega)).mp h
      exact ⟨L, a, b, 0, _, hab, hb, ha, h2.trans hL.symm, hq, Nat.zero_le _, rfl, fun j h => absurd h (Nat.not_lt_zero j), rfl, rfl, rfl, rfl, rfl⟩
    · intro h
      have h : ¬ σ 5 0 2 - σ 5 0 1 = nI (slen.getD c 0) := h
      rw [e1] at h
      exact ⟨Or.inl rfl, hq.2 fun z => h (by rw [z.1])⟩
theorem ct_X5_isWord : Ctr yX5_isWord cX5_isWord 3 (some .boolean) 5 0 0 2 sp_X5_isWord := ctr_of (by decide +kernel) rfl (by decide) ok_X5_isWord vc_X5_isWord

def sp_X5_nextMustBe : HSp := fun as w σ K => match as with
  | [.inr (.inl (5, some 0)), .inr (.inl (43, some c))] => c < 6 ∧ (¬ okF σ → K none w σ) ∧ (okF σ → ∃ T e z, σ 12 0 = T ∧ e ≤ z ∧ z ≤ 60 ∧ σ 5 0 2 = nI e ∧ σ 8 0 1 = nI z ∧ (isWc T (wA T z e) (we T z e) c → K none w (nxC σ (wA T z e) (we T z e))) ∧ (¬ isWc T (wA T z e) (we T z e) c → K none w (up3 (nxC σ (wA T z e) (we T z e)) 5 0 3 (nI (wA T z e)))))
  | _ => False
theorem nx_T {σ : HS} {a b : Nat} : nxC σ a b 12 0 = σ 12 0 := by
  funext j
  unfold nxC
  rw [up3_o (by omega), up3_o (by omega)]
theorem nx_1 {σ : HS} {a b : Nat} : nxC σ a b 5 0 1 = nI a := by
  unfold nxC
  rw [up3_o (by omega)]
  exact up3_v
theorem nx_2 {σ : HS} {a b : Nat} : nxC σ a b 5 0 2 = nI b := up3_v
theorem nx_ok {σ : HS} {a b : Nat} (h : okF σ) : okF (nxC σ a b) := by
  unfold nxC okF
  rw [up3_o (by omega), up3_o (by omega)]
  exact h
theorem dX5_nextMustBe_0 : decode cX5_nextMustBe 0 = .ok (.aload_n 0, 1) := by decide +kernel
theorem dX5_nextMustBe_1 : decode cX5_nextMustBe 1 = .ok (.invokevirtual 44, 3) := by decide +kernel
theorem dX5_nextMustBe_4 : decode cX5_nextMustBe 4 = .ok (.aload_n 0, 1) := by decide +kernel
theorem dX5_nextMustBe_5 : decode cX5_nextMustBe 5 = .ok (.aload_n 1, 1) := by decide +kernel
theorem dX5_nextMustBe_6 : decode cX5_nextMustBe 6 = .ok (.invokevirtual 67, 3) := by decide +kernel
theorem dX5_nextMustBe_9 : decode cX5_nextMustBe 9 = .ok (.ifCond .ne 7, 3) := by decide +kernel
theorem dX5_nextMustBe_12 : decode cX5_nextMustBe 12 = .ok (.aload_n 0, 1) := by decide +kernel
theorem dX5_nextMustBe_13 : decode cX5_nextMustBe 13 = .ok (.invokevirtual 62, 3) := by decide +kernel
theorem dX5_nextMustBe_16 : decode cX5_nextMustBe 16 = .ok (.return_, 1) := by decide +kernel
def ins_X5_nextMustBe (pc : Nat) : HOp := cond (Nat.blt pc 6) (cond (Nat.blt pc 4) (cond (Nat.blt pc 1) (cond (Nat.beq pc 0) (o_aload 0 1) o_bad) (cond (Nat.beq pc 1) (o_callV 1 5 sp_X5_next 4) o_bad)) (cond (Nat.blt pc 5) (cond (Nat.beq pc 4) (o_aload 0 5) o_bad) (cond (Nat.beq pc 5) (o_aload 1 6) o_bad))) (cond (Nat.blt pc 12) (cond (Nat.blt pc 9) (cond (Nat.beq pc 6) (o_callV 2 5 sp_X5_isWord 9) o_bad) (cond (Nat.beq pc 9) (o_if (fun x => x = 0) 12 16) o_bad)) (cond (Nat.blt pc 13) (cond (Nat.beq pc 12) (o_aload 0 13) o_bad) (cond (Nat.blt pc 16) (cond (Nat.beq pc 13) (o_callV 1 5 sp_X5_refuse 16) o_bad) (cond (Nat.beq pc 16) (o_vret) o_bad))))
set_option maxRecDepth 20000 in
theorem ok_X5_nextMustBe : HOKs cX5_nextMustBe RX5 2 none 6 ins_X5_nextMustBe := fun _ => hnd (hnd (hnd (hlf (ok_aload_n dX5_nextMustBe_0 rfl rfl)) (hlf (ok_callV (y := yX5_next) (n' := 0) (C := RX5) (T := TX5) dX5_nextMustBe_1 ct_X5_next (by decide) (by decide) wd_622 wd_619 wd_621 wd_8 wd_44 rfl (by decide +kernel) rfl rfl rfl))) (hnd (hlf (ok_aload_n dX5_nextMustBe_4 rfl rfl)) (hlf (ok_aload_n dX5_nextMustBe_5 rfl rfl)))) (hnd (hnd (hlf (ok_callV (y := yX5_isWord) (n' := 1) (C := RX5) (T := TX5) dX5_nextMustBe_6 ct_X5_isWord (by decide) (by decide) wd_647 wd_644 wd_646 wd_12 wd_44 rfl (by decide +kernel) rfl rfl rfl)) (hlf (ok_if_ne dX5_nextMustBe_9 (by decide) rfl))) (hnd (hlf (ok_aload_n dX5_nextMustBe_12 rfl rfl)) (hnd (hlf (ok_callV (y := yX5_refuse) (n' := 0) (C := RX5) (T := TX5) dX5_nextMustBe_13 ct_X5_refuse (by decide) (by decide) wd_638 wd_635 wd_637 wd_10 wd_44 rfl (by decide +kernel) rfl rfl rfl)) (hlf (ok_vret dX5_nextMustBe_16)))))

set_option maxHeartbeats 1000000 in
theorem vc_X5_nextMustBe : MVC ins_X5_nextMustBe 2 2 sp_X5_nextMustBe := by
  refine mvc0 60 fun as w σ q hl hs => ?_
  unfold sp_X5_nextMustBe at hs
  split at hs
  rotate_left
  · exact hs.elim
  rename_i c
  obtain ⟨hc, hn, hy⟩ := hs
  apply br2
  · intro hF
    refine ⟨hc, fun _ => ?_, fun h => absurd h hF⟩
    refine And.intro (fun _ => ?_) (fun h => absurd rfl h)
    exact And.intro (fun h => absurd h hF) (fun _ => hn hF)
  · intro hF
    obtain ⟨T, e, z, hTT, hez, hz, he, hsz, hy1, hy2⟩ := hy hF
    subst hTT
    have l := we_le (T := σ 12 0) hez
    refine ⟨_, e, z, rfl, hez, hz, he, hsz, ?_⟩
    refine ⟨hc, fun h => absurd (nx_ok hF) h, fun _ => ⟨_, wA (σ 12 0) z e, we (σ 12 0) z e, rfl, l.2.1, Nat.le_trans l.2.2 hz, nx_1, nx_2, ?_⟩⟩
    rw [nx_T]
    apply br2
    · intro h
      exact And.intro (fun h => absurd h (by decide)) (fun _ => hy1 h)
    · intro h
      refine And.intro (fun _ => ?_) (fun h => absurd rfl h)
      refine And.intro (fun _ => ?_) (fun h => absurd (nx_ok hF) h)
      have := hy2 h
      show q none w (up3 (nxC σ (wA (σ 12 0) z e) (we (σ 12 0) z e)) 5 0 3 (nxC σ (wA (σ 12 0) z e) (we (σ 12 0) z e) 5 0 1))
      rw [nx_1]
      exact this
theorem ct_X5_nextMustBe : Ctr yX5_nextMustBe cX5_nextMustBe 2 none 6 0 0 2 sp_X5_nextMustBe := ctr_of (by decide +kernel) rfl (by decide) ok_X5_nextMustBe vc_X5_nextMustBe

