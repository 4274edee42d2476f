/-! VisitHall.Gate, 5: the reason, who is let -/
abbrev VW (σ : HS) (np v : Nat) : Prop := (∃ p, p < np ∧ σ 9 v 0 = nI p) ∧ (∃ a b, σ 9 v 3 = nI a ∧ σ 9 v 4 = nI b ∧ a + b ≤ 12) ∧ (σ 9 v 5 = 0 ∨ σ 9 v 5 = 1)
def CW (w : HW) (σ : HS) (n np nv : Nat) : Prop := Bk w σ n ∧ Pk w σ np ∧ (nv ≤ 14 ∧ σ 2 0 4 = nI nv) ∧ Fp σ np ∧ (∀ p, p < np → ∃ c, c < 4 ∧ σ 3 p 0 = nI c) ∧ (∀ c, c < 4 → ∀ r, w.2 16 c = some r → ∃ m, 1 ≤ m ∧ m ≤ 60 ∧ σ 4 r 1 = nI m) ∧ σ 7 0 1 ≤ 60 ∧ (∃ t, t ≤ 6 ∧ σ 1 0 4 = nI t) ∧ ∀ i, i < n → VW σ np i
theorem tb6 {w : HW} {σ : HS} {n np nv : Nat} (h : CW w σ n np nv) (day : Int32) : ∃ t, t ≤ 6 ∧ tbC σ day = nI t := by
  obtain ⟨t, h1, h2⟩ := h.2.2.2.2.2.2.2.1
  unfold tbC
  split
  · split
    · rename_i h4
      obtain ⟨i, hi, e⟩ := in_of (n := 7) h4
      exact ⟨i, by omega, e⟩
    · exact ⟨0, by omega, rfl⟩
  · exact ⟨t, h1, h2⟩
abbrev tooC (σ : HS) (v r n nv : Nat) : Prop := ∃ k, k < (σ 4 r 1).toNatClampNeg ∧ ¬ nI (winC σ v (σ 4 r 1).toNatClampNeg n k) + 1 ≤ gvC σ v r nv
noncomputable def rrC (w : HW) (σ : HS) (n nv v : Nat) : Int32 := (w.2 16 (σ 3 (σ 9 v 0).toNatClampNeg 0).toNatClampNeg).elim 5 fun r => cif (¬ alw σ r v) 5 (cif (tooC σ v r n nv) 6 0)
def rmC (σ : HS) (n v : Nat) : Option (Nat → Int32) := rms (σ 9) (fun i => σ 9 i 5) n (σ 9 v 2) (tbC σ (σ 9 v 2)).toNatClampNeg (σ 9 v 4).toNatClampNeg (σ 9 v 3).toNatClampNeg (effS σ)
noncomputable def rhV (σ : HS) (n v : Nat) : Int32 := rhC σ n v (σ 9 v 3).toNatClampNeg (σ 9 v 4).toNatClampNeg
noncomputable def rsC (w : HW) (σ : HS) (n nv v : Nat) : Int32 := cif (¬ rpC σ v (σ 9 v 0).toNatClampNeg = 0) (rpC σ v (σ 9 v 0).toNatClampNeg) (cif (σ 9 v 5 = 0 ∧ ¬ rrC w σ n nv v = 0) (rrC w σ n nv v) (cif (rhV σ n v = 9 ∧ ¬ σ 9 v 5 = 0 ∧ ¬ rmC σ n v = none) 0 (rhV σ n v)))
theorem rp_9 (σ : HS) (v p : Nat) : ¬ rpC σ v p = 9 := by
  unfold rpC
  by_cases h1 : σ 3 p 2 = 0
  · rw [cif_p h1]; decide
  rw [cif_n h1]
  by_cases h2 : ¬ liC σ p (σ 9 v 1)
  · rw [cif_p h2]; decide
  rw [cif_n h2]
  by_cases h3 : baC σ v p
  · rw [cif_p h3]; decide
  rw [cif_n h3]
  by_cases h4 : nkC σ (σ 9 v 1)
  · rw [cif_p h4]; decide
  rw [cif_n h4]
  decide
theorem eqT.r9 {σ σ' : HS} (h : eqT σ σ') : σ' 9 = σ 9 := funext fun i => funext fun f => h 9 i f (by omega)
theorem eqT.rk {σ σ' : HS} (h : eqT σ σ') (k : Nat) (hk : k ≠ 13) : σ' k = σ k := funext fun i => funext fun f => h k i f (fun q => hk q.1)
theorem eqT.r13 {σ σ' : HS} (h : eqT σ σ') (i : Nat) (hi : i ≠ 3) : σ' 13 i = σ 13 i := funext fun f => h 13 i f (fun q => hi q.2)
theorem eqT.rf {σ : HS} : eqT σ σ := fun _ _ _ _ => rfl
theorem eqT.tr {σ σ' σ'' : HS} (h : eqT σ σ') (h2 : eqT σ' σ'') : eqT σ σ'' := fun k i f hq => (h2 k i f hq).trans (h k i f hq)
theorem CW_T {w : HW} {σ σ' : HS} {n np nv : Nat} (h : eqT σ σ') (hC : CW w σ n np nv) : CW w σ' n np nv := by
  unfold CW Bk Pk at hC ⊢
  unfold Fp VW at hC ⊢
  rw [h.rk 0 (by decide), h.rk 2 (by decide), h.rk 3 (by decide), h.rk 4 (by decide), h.rk 7 (by decide), h.rk 1 (by decide), h.r9]
  exact hC
theorem tbT {σ σ' : HS} (h : eqT σ σ') : tbC σ' = tbC σ := by
  funext day
  unfold tbC
  rw [h.rk 7 (by decide), h.rk 12 (by decide), h.rk 1 (by decide)]
theorem rpT {σ σ' : HS} (h : eqT σ σ') : rpC σ' = rpC σ := by
  funext v p
  unfold rpC liC baC nkC
  rw [h.rk 3 (by decide), h.r9, h.r13 0 (by decide), h.r13 (p + 4) (by omega)]
theorem rhT {σ σ' : HS} (h : eqT σ σ') : rhC σ' = rhC σ := by
  funext n v a b
  unfold rhC hmC mrC ntC shH shP rvI atL
  rw [tbT h, h.rk 3 (by decide), h.r9, h.r13 2 (by decide)]
theorem gvT {σ σ' : HS} (h : eqT σ σ') : gvC σ' = gvC σ := by
  funext v r nv
  unfold gvC farC
  rw [h.rk 4 (by decide), h.r9, h.r13 1 (by decide)]
theorem wnT {σ σ' : HS} (h : eqT σ σ') : winC σ' = winC σ := by
  funext v m n k
  unfold winC tyP
  rw [h.r9]
theorem rrT {w : HW} {σ σ' : HS} (h : eqT σ σ') : rrC w σ' = rrC w σ := by
  funext n nv v
  unfold rrC tooC alw
  rw [gvT h, wnT h, h.rk 4 (by decide), h.rk 3 (by decide), h.r9]
theorem rmT {σ σ' : HS} (h : eqT σ σ') : rmC σ' = rmC σ := by
  funext n v
  have e : effS σ' = effS σ := by funext i; unfold effS; rw [h.r9]
  unfold rmC
  rw [tbT h, e, h.r9]
theorem rsT {w : HW} {σ σ' : HS} (h : eqT σ σ') : rsC w σ' = rsC w σ := by
  funext n nv v
  unfold rsC rhV
  rw [rpT h, rrT h, rhT h, rmT h, h.r9]
theorem kp_back {σ σ' : HS} {n : Nat} (h : lvO σ σ' n) (hz : ∀ i, i < n → σ 9 i 7 = 0) : kpS σ' n = σ := by
  funext k i f
  unfold kpS
  by_cases q : k = 9 ∧ f = 7 ∧ i < n
  · rw [if_pos q]
    obtain ⟨rfl, rfl, hi⟩ := q
    exact (hz i hi).symm
  · rw [if_neg q]
    exact h.1 k i f q
def sp_X1_reason : HSp := fun as w σ K => match as with
  | [.inr (.inl (1, some 0)), .inr (.inl (9, some v))] => ∃ n np nv, CW w σ n np nv ∧ VW σ np v ∧ (∀ i, i < n → σ 9 i 7 = 0) ∧ ∀ σ', eqT σ σ' → K (some (HI (rsC w σ n nv v))) w σ'
  | _ => False
theorem rh_in (σ : HS) (n v a b : Nat) : rhC σ n v a b = 7 ∨ rhC σ n v a b = 8 ∨ rhC σ n v a b = 9 ∨ rhC σ n v a b = 0 := by
  unfold rhC
  by_cases h1 : hmC σ n v
  · rw [cif_p h1]; exact Or.inl rfl
  rw [cif_n h1]
  by_cases h2 : mrC σ n v
  · rw [cif_p h2]; exact Or.inr (Or.inl rfl)
  rw [cif_n h2]
  by_cases h3 : ntC σ n v a b
  · rw [cif_p h3]; exact Or.inr (Or.inr (Or.inl rfl))
  · rw [cif_n h3]; exact Or.inr (Or.inr (Or.inr rfl))
theorem dX1_reason_0 : decode cX1_reason 0 = .ok (.aload_n 0, 1) := by decide +kernel
theorem dX1_reason_1 : decode cX1_reason 1 = .ok (.aload_n 1, 1) := by decide +kernel
theorem dX1_reason_2 : decode cX1_reason 2 = .ok (.invokevirtual 51, 3) := by decide +kernel
theorem dX1_reason_5 : decode cX1_reason 5 = .ok (.istore_n 2, 1) := by decide +kernel
theorem dX1_reason_6 : decode cX1_reason 6 = .ok (.iload_n 2, 1) := by decide +kernel
theorem dX1_reason_7 : decode cX1_reason 7 = .ok (.ifCond .ne 16, 3) := by decide +kernel
theorem dX1_reason_10 : decode cX1_reason 10 = .ok (.aload_n 1, 1) := by decide +kernel
theorem dX1_reason_11 : decode cX1_reason 11 = .ok (.getfield 55, 3) := by decide +kernel
theorem dX1_reason_14 : decode cX1_reason 14 = .ok (.ifCond .ne 9, 3) := by decide +kernel
theorem dX1_reason_17 : decode cX1_reason 17 = .ok (.aload_n 0, 1) := by decide +kernel
theorem dX1_reason_18 : decode cX1_reason 18 = .ok (.aload_n 1, 1) := by decide +kernel
theorem dX1_reason_19 : decode cX1_reason 19 = .ok (.invokevirtual 61, 3) := by decide +kernel
theorem dX1_reason_22 : decode cX1_reason 22 = .ok (.istore_n 2, 1) := by decide +kernel
theorem dX1_reason_23 : decode cX1_reason 23 = .ok (.iload_n 2, 1) := by decide +kernel
theorem dX1_reason_24 : decode cX1_reason 24 = .ok (.ifCond .ne 9, 3) := by decide +kernel
theorem dX1_reason_27 : decode cX1_reason 27 = .ok (.aload_n 0, 1) := by decide +kernel
theorem dX1_reason_28 : decode cX1_reason 28 = .ok (.aload_n 1, 1) := by decide +kernel
theorem dX1_reason_29 : decode cX1_reason 29 = .ok (.invokevirtual 64, 3) := by decide +kernel
theorem dX1_reason_32 : decode cX1_reason 32 = .ok (.istore_n 2, 1) := by decide +kernel
theorem dX1_reason_33 : decode cX1_reason 33 = .ok (.iload_n 2, 1) := by decide +kernel
theorem dX1_reason_34 : decode cX1_reason 34 = .ok (.bipush 9, 2) := by decide +kernel
theorem dX1_reason_36 : decode cX1_reason 36 = .ok (.if_icmp .ne 34, 3) := by decide +kernel
theorem dX1_reason_39 : decode cX1_reason 39 = .ok (.aload_n 1, 1) := by decide +kernel
theorem dX1_reason_40 : decode cX1_reason 40 = .ok (.getfield 55, 3) := by decide +kernel
theorem dX1_reason_43 : decode cX1_reason 43 = .ok (.ifCond .eq 27, 3) := by decide +kernel
theorem dX1_reason_46 : decode cX1_reason 46 = .ok (.aload_n 0, 1) := by decide +kernel
theorem dX1_reason_47 : decode cX1_reason 47 = .ok (.aload_n 1, 1) := by decide +kernel
theorem dX1_reason_48 : decode cX1_reason 48 = .ok (.invokevirtual 67, 3) := by decide +kernel
theorem dX1_reason_51 : decode cX1_reason 51 = .ok (.istore_n 3, 1) := by decide +kernel
theorem dX1_reason_52 : decode cX1_reason 52 = .ok (.aload_n 0, 1) := by decide +kernel
theorem dX1_reason_53 : decode cX1_reason 53 = .ok (.getfield 29, 3) := by decide +kernel
theorem dX1_reason_56 : decode cX1_reason 56 = .ok (.invokevirtual 71, 3) := by decide +kernel
theorem dX1_reason_59 : decode cX1_reason 59 = .ok (.iload_n 3, 1) := by decide +kernel
theorem dX1_reason_60 : decode cX1_reason 60 = .ok (.ifCond .eq 7, 3) := by decide +kernel
theorem dX1_reason_63 : decode cX1_reason 63 = .ok (.iconst 0, 1) := by decide +kernel
theorem dX1_reason_64 : decode cX1_reason 64 = .ok (.goto 5, 3) := by decide +kernel
theorem dX1_reason_67 : decode cX1_reason 67 = .ok (.bipush 9, 2) := by decide +kernel
theorem dX1_reason_69 : decode cX1_reason 69 = .ok (.ireturn, 1) := by decide +kernel
theorem dX1_reason_70 : decode cX1_reason 70 = .ok (.iload_n 2, 1) := by decide +kernel
theorem dX1_reason_71 : decode cX1_reason 71 = .ok (.ireturn, 1) := by decide +kernel
def ins_X1_reason (pc : Nat) : HOp := cond (Nat.blt pc 34) (cond (Nat.blt pc 18) (cond (Nat.blt pc 7) (cond (Nat.blt pc 2) (cond (Nat.blt pc 1) (cond (Nat.beq pc 0) (o_aload 0 1) o_bad) (cond (Nat.beq pc 1) (o_aload 1 2) o_bad)) (cond (Nat.blt pc 5) (cond (Nat.beq pc 2) (o_callV 2 1 sp_X1_reasonOfPeople 5) o_bad) (cond (Nat.blt pc 6) (cond (Nat.beq pc 5) (o_istore 2 6) o_bad) (cond (Nat.beq pc 6) (o_iload 2 7) o_bad)))) (cond (Nat.blt pc 11) (cond (Nat.blt pc 10) (cond (Nat.beq pc 7) (o_if (fun x => x = 0) 10 23) o_bad) (cond (Nat.beq pc 10) (o_aload 1 11) o_bad)) (cond (Nat.blt pc 14) (cond (Nat.beq pc 11) (o_getf 9 5 14) o_bad) (cond (Nat.blt pc 17) (cond (Nat.beq pc 14) (o_if (fun x => x = 0) 17 23) o_bad) (cond (Nat.beq pc 17) (o_aload 0 18) o_bad))))) (cond (Nat.blt pc 27) (cond (Nat.blt pc 22) (cond (Nat.blt pc 19) (cond (Nat.beq pc 18) (o_aload 1 19) o_bad) (cond (Nat.beq pc 19) (o_callV 2 1 sp_X1_reasonOfRight 22) o_bad)) (cond (Nat.blt pc 23) (cond (Nat.beq pc 22) (o_istore 2 23) o_bad) (cond (Nat.blt pc 24) (cond (Nat.beq pc 23) (o_iload 2 24) o_bad) (cond (Nat.beq pc 24) (o_if (fun x => x = 0) 27 33) o_bad)))) (cond (Nat.blt pc 29) (cond (Nat.blt pc 28) (cond (Nat.beq pc 27) (o_aload 0 28) o_bad) (cond (Nat.beq pc 28) (o_aload 1 29) o_bad)) (cond (Nat.blt pc 32) (cond (Nat.beq pc 29) (o_callV 2 1 sp_X1_reasonOfHall 32) o_bad) (cond (Nat.blt pc 33) (cond (Nat.beq pc 32) (o_istore 2 33) o_bad) (cond (Nat.beq pc 33) (o_iload 2 34) o_bad)))))) (cond (Nat.blt pc 53) (cond (Nat.blt pc 46) (cond (Nat.blt pc 39) (cond (Nat.blt pc 36) (cond (Nat.beq pc 34) (o_const (9) 36) o_bad) (cond (Nat.beq pc 36) (o_icmp (fun x y => x = y) 39 70) o_bad)) (cond (Nat.blt pc 40) (cond (Nat.beq pc 39) (o_aload 1 40) o_bad) (cond (Nat.blt pc 43) (cond (Nat.beq pc 40) (o_getf 9 5 43) o_bad) (cond (Nat.beq pc 43) (o_if (fun x => x = 0) 70 46) o_bad)))) (cond (Nat.blt pc 48) (cond (Nat.blt pc 47) (cond (Nat.beq pc 46) (o_aload 0 47) o_bad) (cond (Nat.beq pc 47) (o_aload 1 48) o_bad)) (cond (Nat.blt pc 51) (cond (Nat.beq pc 48) (o_callV 2 1 sp_X1_marksRoom 51) o_bad) (cond (Nat.blt pc 52) (cond (Nat.beq pc 51) (o_istore 3 52) o_bad) (cond (Nat.beq pc 52) (o_aload 0 53) o_bad))))) (cond (Nat.blt pc 64) (cond (Nat.blt pc 59) (cond (Nat.blt pc 56) (cond (Nat.beq pc 53) (o_getf 1 2 56) o_bad) (cond (Nat.beq pc 56) (o_callV 1 0 sp_X0_keepAll 59) o_bad)) (cond (Nat.blt pc 60) (cond (Nat.beq pc 59) (o_iload 3 60) o_bad) (cond (Nat.blt pc 63) (cond (Nat.beq pc 60) (o_if (fun x => x = 0) 67 63) o_bad) (cond (Nat.beq pc 63) (o_const (0) 64) o_bad)))) (cond (Nat.blt pc 69) (cond (Nat.blt pc 67) (cond (Nat.beq pc 64) (o_goto 69) o_bad) (cond (Nat.beq pc 67) (o_const (9) 69) o_bad)) (cond (Nat.blt pc 70) (cond (Nat.beq pc 69) (o_iret) o_bad) (cond (Nat.blt pc 71) (cond (Nat.beq pc 70) (o_iload 2 71) o_bad) (cond (Nat.beq pc 71) (o_iret) o_bad))))))
set_option maxRecDepth 20000 in
theorem ok_X1_reason : HOKs cX1_reason RX1 4 (some .int) 5 ins_X1_reason := fun _ => hnd (hnd (hnd (hnd (hnd (hlf (ok_aload_n dX1_reason_0 rfl rfl)) (hlf (ok_aload_n dX1_reason_1 rfl rfl))) (hnd (hlf (ok_callV (y := yX1_reasonOfPeople) (n' := 1) (C := RX1) (T := TX1) dX1_reason_2 ct_X1_reasonOfPeople (by decide) (by decide) wd_423 wd_420 wd_422 wd_0 wd_47 rfl (by decide +kernel) rfl rfl rfl)) (hnd (hlf (ok_istore_n dX1_reason_5 rfl (by decide) rfl)) (hlf (ok_iload_n dX1_reason_6 rfl rfl))))) (hnd (hnd (hlf (ok_if_ne dX1_reason_7 (by decide) rfl)) (hlf (ok_aload_n dX1_reason_10 rfl rfl))) (hnd (hlf (ok_getfN (C := RX9) (T := TX9) dX1_reason_11 rfl rfl (by decide) rfl inX9 wd_257 rfl)) (hnd (hlf (ok_if_ne dX1_reason_14 (by decide) rfl)) (hlf (ok_aload_n dX1_reason_17 rfl rfl)))))) (hnd (hnd (hnd (hlf (ok_aload_n dX1_reason_18 rfl rfl)) (hlf (ok_callV (y := yX1_reasonOfRight) (n' := 1) (C := RX1) (T := TX1) dX1_reason_19 ct_X1_reasonOfRight (by decide) (by decide) wd_440 wd_437 wd_439 wd_1 wd_47 rfl (by decide +kernel) rfl rfl rfl))) (hnd (hlf (ok_istore_n dX1_reason_22 rfl (by decide) rfl)) (hnd (hlf (ok_iload_n dX1_reason_23 rfl rfl)) (hlf (ok_if_ne dX1_reason_24 (by decide) rfl))))) (hnd (hnd (hlf (ok_aload_n dX1_reason_27 rfl rfl)) (hlf (ok_aload_n dX1_reason_28 rfl rfl))) (hnd (hlf (ok_callV (y := yX1_reasonOfHall) (n' := 1) (C := RX1) (T := TX1) dX1_reason_29 ct_X1_reasonOfHall (by decide) (by decide) wd_470 wd_467 wd_469 wd_4 wd_47 rfl (by decide +kernel) rfl rfl rfl)) (hnd (hlf (ok_istore_n dX1_reason_32 rfl (by decide) rfl)) (hlf (ok_iload_n dX1_reason_33 rfl rfl))))))) (hnd (hnd (hnd (hnd (hlf (ok_bipush dX1_reason_34 (by decide) rfl)) (hlf (ok_icmp_ne dX1_reason_36 (by decide) rfl))) (hnd (hlf (ok_aload_n dX1_reason_39 rfl rfl)) (hnd (hlf (ok_getfN (C := RX9) (T := TX9) dX1_reason_40 rfl rfl (by decide) rfl inX9 wd_257 rfl)) (hlf (ok_if_eq dX1_reason_43 (by decide) rfl))))) (hnd (hnd (hlf (ok_aload_n dX1_reason_46 rfl rfl)) (hlf (ok_aload_n dX1_reason_47 rfl rfl))) (hnd (hlf (ok_callV (y := yX1_marksRoom) (n' := 1) (C := RX1) (T := TX1) dX1_reason_48 ct_X1_marksRoom (by decide) (by decide) wd_512 wd_509 wd_511 wd_6 wd_47 rfl (by decide +kernel) rfl rfl rfl)) (hnd (hlf (ok_istore_n dX1_reason_51 rfl (by decide) rfl)) (hlf (ok_aload_n dX1_reason_52 rfl rfl)))))) (hnd (hnd (hnd (hlf (ok_getf (C := RX1) (T := TX1) dX1_reason_53 rfl rfl (by decide) rfl inX1 wd_187 rfl)) (hlf (ok_callV (y := yX0_keepAll) (n' := 0) (C := RX0) (T := TX0) dX1_reason_56 ct_X0_keepAll (by decide) (by decide) wd_520 wd_517 wd_518 wd_519 wd_45 rfl (by decide +kernel) rfl rfl rfl))) (hnd (hlf (ok_iload_n dX1_reason_59 rfl rfl)) (hnd (hlf (ok_if_eq dX1_reason_60 (by decide) rfl)) (hlf (ok_iconst dX1_reason_63 (by decide) rfl))))) (hnd (hnd (hlf (ok_goto dX1_reason_64 (by decide))) (hlf (ok_bipush dX1_reason_67 (by decide) rfl))) (hnd (hlf (ok_iret dX1_reason_69)) (hnd (hlf (ok_iload_n dX1_reason_70 rfl rfl)) (hlf (ok_iret dX1_reason_71)))))))

set_option maxHeartbeats 1000000 in
theorem vc_X1_reason : MVC ins_X1_reason 4 2 sp_X1_reason := by
  refine mvc1 23 80 fun as w σ q hl hs => ?_
  unfold sp_X1_reason at hs
  split at hs
  rotate_left
  · exact hs.elim
  rename_i v
  obtain ⟨n, np, nv, hC, hV, hz, hq⟩ := hs
  obtain ⟨hB, hP, hnv, hF, hcl, hrt, hsz, htb, hvs⟩ := id hC
  obtain ⟨⟨p, hp, hvp⟩, ⟨a, b, ha, hb, hab⟩, hlw⟩ := id hV
  have h10 := hP.1
  have hVp : Vp σ np n := fun i hi => (hvs i hi).1
  have ep : (σ 9 v 0).toNatClampNeg = p := by rw [hvp]; exact nI_clamp (by omega)
  have ea : (σ 9 v 3).toNatClampNeg = a := by rw [ha]; exact nI_clamp (by omega)
  have eb : (σ 9 v 4).toNatClampNeg = b := by rw [hb]; exact nI_clamp (by omega)
  obtain ⟨t, ht6, ht⟩ := tb6 hC (σ 9 v 2)
  have et : (tbC σ (σ 9 v 2)).toNatClampNeg = t := by rw [ht]; exact nI_clamp (by omega)
  refine ⟨fun N ls st w' σ' => N = 0 ∧ ∃ (r : Int32) (o : Option HV), ls = [some (HR 1 0), some (HR 9 v), some (HI r), o] ∧ st = [] ∧ w = w' ∧ eqT σ σ' ∧ ((¬ r = 0 ∧ ¬ r = 9 ∧ rsC w σ n nv v = r) ∨ (r = 0 ∧ rsC w σ n nv v = cif (rhV σ n v = 9 ∧ ¬ σ 9 v 5 = 0 ∧ ¬ rmC σ n v = none) 0 (rhV σ n v))), ?_, ?_⟩
  · rintro N ls st w' σ' ⟨rfl, r, o, rfl, rfl, rfl, hE, hr⟩
    have hq := hq σ' hE
    rcases hr with ⟨h0, h9, hr⟩ | ⟨rfl, hr⟩
    · rw [hr] at hq
      refine And.intro (fun h => absurd h h0) (fun _ => ?_)
      exact And.intro (fun h => absurd h h9) (fun _ => hq)
    · rw [hr] at hq
      refine And.intro (fun _ => ?_) (fun h => absurd rfl h)
      have e9 := hE.r9
      have hC' := CW_T hE hC
      obtain ⟨hB', hP', -, hF', -, -, hsz', -, hvs'⟩ := id hC'
      have hV' : VW σ' np v := by unfold VW; rw [e9]; exact hV
      refine ⟨n, np, p, a, b, hB', hP', hp, by rw [e9]; exact hvp, fun i hi => (hvs' i hi).1, hF', hsz', by rw [e9]; exact ha, by rw [e9]; exact hb, hab, ?_⟩
      have eh : rhC σ' n v a b = rhV σ n v := by rw [rhT hE]; unfold rhV; rw [ea, eb]
      rw [eh]
      apply br2
      rotate_left
      · intro h9
        rw [cif_n fun z => h9 z.1] at hq
        exact hq
      intro h9
      apply br2
      · intro h5
        have h5 : σ' 9 v 5 = 0 := h5
        rw [e9] at h5
        rw [cif_n fun z => z.2.1 h5] at hq
        exact hq
      intro h5
      have h5 : ¬ σ' 9 v 5 = 0 := h5
      rw [e9] at h5
      have ert : rms (σ' 9) (fun i => σ' 9 i 5) n (σ' 9 v 2) t b a (effS σ') = rmC σ n v := by
        rw [← rmT hE]
        unfold rmC
        rw [tbT hE, e9, ea, eb, et]
      refine ⟨n, a, b, t, hB', hsz', by rw [e9]; exact ha, by rw [e9]; exact hb, hab, by rw [tbT hE, e9]; exact ht, ht6, fun i hi => Or.inl (by rw [e9]; exact hz i hi), ?_, ?_⟩
      · intro S' hS σ2 hO _
        rw [ert] at hS
        rw [cif_p ⟨h9, h5, by rw [hS]; exact fun q => by cases q⟩] at hq
        refine ⟨n, ⟨hB'.1, by rw [hO.1 0 0 1 (by omega)]; exact hB'.2.1, hB'.2.2⟩, ?_⟩
        rw [kp_back hO (fun i hi => by rw [e9]; exact hz i hi)]
        exact And.intro (fun h => absurd h (by decide)) (fun _ => hq)
      · intro hS σ2 hO
        rw [ert] at hS
        rw [cif_n fun z => z.2.2 hS, h9] at hq
        refine ⟨n, ⟨hB'.1, by rw [hO.1 0 0 1 (by omega)]; exact hB'.2.1, hB'.2.2⟩, ?_⟩
        rw [kp_back hO (fun i hi => by rw [e9]; exact hz i hi)]
        exact And.intro (fun _ => hq) (fun h => absurd rfl h)
  · refine ⟨np, p, hP, hp, hvp, ?_⟩
    have hrs : rsC w σ n nv v = cif (¬ rpC σ v p = 0) (rpC σ v p) (cif (σ 9 v 5 = 0 ∧ ¬ rrC w σ n nv v = 0) (rrC w σ n nv v) (cif (rhV σ n v = 9 ∧ ¬ σ 9 v 5 = 0 ∧ ¬ rmC σ n v = none) 0 (rhV σ n v))) := by
      unfold rsC
      rw [ep]
    apply br2
    rotate_left
    · intro h1
      rw [cif_p h1] at hrs
      exact ⟨0, rfl, _, none, rfl, rfl, rfl, eqT.rf, Or.inl ⟨h1, rp_9 σ v p, hrs⟩⟩
    intro h1
    rw [cif_n (not_not_intro h1)] at hrs
    apply br2
    rotate_left
    · intro h2
      rw [cif_n fun z => h2 z.1] at hrs
      exact ⟨0, rfl, _, none, rfl, rfl, rfl, eqT.rf, Or.inr ⟨h1, hrs⟩⟩
    intro h2
    obtain ⟨c, hc, hc2⟩ := hcl p hp
    have ecl : (σ 3 (σ 9 v 0).toNatClampNeg 0).toNatClampNeg = c := by rw [ep, hc2]; exact nI_clamp (by omega)
    have d5 : ¬ (5 : Int32) = 0 := by decide
    refine ⟨n, np, p, c, nv, hB, hP, hp, hvp, hc, hc2, hnv.1, hnv.2, ?_, ?_⟩
    · intro hno
      have er : rrC w σ n nv v = 5 := by unfold rrC; rw [ecl, hno]; rfl
      rw [er, cif_p ⟨h2, d5⟩] at hrs
      exact ⟨0, rfl, _, none, rfl, rfl, rfl, eqT.rf, Or.inl ⟨d5, by decide, hrs⟩⟩
    · intro r hr
      obtain ⟨m, hm1, hm2, hm3⟩ := hrt c hc r hr
      have em : (σ 4 r 1).toNatClampNeg = m := by rw [hm3]; exact nI_clamp (by omega)
      have er : rrC w σ n nv v = cif (¬ alw σ r v) 5 (cif (tooC σ v r n nv) 6 0) := by unfold rrC; rw [ecl, hr]; rfl
      refine ⟨m, hm1, hm2, hm3, ?_, ?_⟩
      · intro h3
        rw [cif_p h3] at er
        rw [er, cif_p ⟨h2, d5⟩] at hrs
        exact ⟨0, rfl, _, none, rfl, rfl, rfl, eqT.rf, Or.inl ⟨d5, by decide, hrs⟩⟩
      · intro h3 σ' M hE hM h6
        rw [cif_n (not_not_intro h3)] at er
        have hti : (¬ nI M + 1 ≤ gvC σ v r nv) ↔ tooC σ v r n nv := by
          unfold tooC
          rw [em]
          constructor
          · intro h4
            obtain ⟨k, hk, hk2⟩ := hM.2
            exact ⟨k, hk, by rw [hk2]; exact h4⟩
          · rintro ⟨k, hk, h4⟩ h5
            refine h4 (Int32.le_trans ?_ h5)
            have h7 := hM.1 k hk
            rw [nI_1, nI_1]
            exact nI_le (by omega) (by omega)
        by_cases h4 : nI M + 1 ≤ gvC σ v r nv
        · rw [if_pos h4]
          rw [cif_n fun z => hti.mpr z h4] at er
          rw [er, cif_n fun z => z.2 rfl] at hrs
          exact ⟨0, rfl, _, none, rfl, rfl, rfl, hE, Or.inr ⟨rfl, hrs⟩⟩
        · rw [if_neg h4]
          rw [cif_p (hti.mp h4)] at er
          rw [er, cif_p ⟨h2, by decide⟩] at hrs
          exact ⟨0, rfl, _, none, rfl, rfl, rfl, hE, Or.inl ⟨by decide, by decide, hrs⟩⟩
theorem ct_X1_reason : Ctr yX1_reason cX1_reason 4 (some .int) 5 0 0 2 sp_X1_reason := ctr_of (by decide +kernel) rfl (by decide) ok_X1_reason vc_X1_reason

