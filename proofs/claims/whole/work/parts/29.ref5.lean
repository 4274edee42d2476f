/-! The reference, 5: refusal, walk -/
theorem tb6M {σ : HS} {n np nv : Nat} (h : MWf σ n np nv) (day : Int32) : ∃ t, t ≤ 6 ∧ tbM σ day = nI t := by
  obtain ⟨t, h1, h2⟩ := h.2.2.2.2.2.2.2.1
  unfold tbM
  split
  · split
    · rename_i h4
      obtain ⟨i, hi, e⟩ := in_of (n := 7) (x := σ 20 23 day.toNatClampNeg) ⟨Int32.not_lt.mp h4.1, Int32.lt_of_le_of_lt (Int32.not_lt.mp h4.2) (by decide)⟩
      exact ⟨i, by omega, e⟩
    · exact ⟨0, by omega, rfl⟩
  · exact ⟨t, h1, h2⟩
abbrev rfP (σ : HS) (n nv p d a b : Nat) (s : Int32) : Prop := reM σ n nv p d a b s = 9 ∧ lwM σ nv s ∧ ¬ rmM σ n nv a b (nI d) = none
noncomputable def rfM (σ : HS) (n nv p d a b : Nat) (s : Int32) : Int32 := cif (rfP σ n nv p d a b s) 0 (reM σ n nv p d a b s)
noncomputable def rfS (σ : HS) (n nv p d a b : Nat) (s : Int32) : Nat → Int32 := cif (rfP σ n nv p d a b s) ((rmM σ n nv a b (nI d)).getD (σ 20 21)) (σ 20 21)
def sp_X11_refusal : HSp := fun as w σ K => match as with
  | [.inr (.inl (11, some 0)), .inl x, .inl s, .inl y, .inl xa, .inl xb, .inl keep] => ∃ n np nv p d a b, MWf σ n np nv ∧ p < np ∧ x = nI p ∧ d ≤ 400 ∧ y = nI d ∧ xa = nI a ∧ xb = nI b ∧ a + b ≤ 12 ∧ (keep = 0 ∨ keep = 1) ∧ ∀ σ', eqB (msS σ (if keep = 0 then σ 20 21 else rfS σ n nv p d a b s) n) σ' → K (some (HI (rfM σ n nv p d a b s))) w σ'
  | _ => False
theorem dX11_refusal_0 : decode cX11_refusal 0 = .ok (.aload_n 0, 1) := by decide +kernel
theorem dX11_refusal_1 : decode cX11_refusal 1 = .ok (.iload_n 1, 1) := by decide +kernel
theorem dX11_refusal_2 : decode cX11_refusal 2 = .ok (.iload_n 2, 1) := by decide +kernel
theorem dX11_refusal_3 : decode cX11_refusal 3 = .ok (.iload_n 3, 1) := by decide +kernel
theorem dX11_refusal_4 : decode cX11_refusal 4 = .ok (.iload 4, 2) := by decide +kernel
theorem dX11_refusal_6 : decode cX11_refusal 6 = .ok (.iload 5, 2) := by decide +kernel
theorem dX11_refusal_8 : decode cX11_refusal 8 = .ok (.invokevirtual 213, 3) := by decide +kernel
theorem dX11_refusal_11 : decode cX11_refusal 11 = .ok (.istore 7, 2) := by decide +kernel
theorem dX11_refusal_13 : decode cX11_refusal 13 = .ok (.iload 7, 2) := by decide +kernel
theorem dX11_refusal_15 : decode cX11_refusal 15 = .ok (.bipush 9, 2) := by decide +kernel
theorem dX11_refusal_17 : decode cX11_refusal 17 = .ok (.if_icmp .ne 29, 3) := by decide +kernel
theorem dX11_refusal_20 : decode cX11_refusal 20 = .ok (.aload_n 0, 1) := by decide +kernel
theorem dX11_refusal_21 : decode cX11_refusal 21 = .ok (.iload_n 2, 1) := by decide +kernel
theorem dX11_refusal_22 : decode cX11_refusal 22 = .ok (.invokevirtual 187, 3) := by decide +kernel
theorem dX11_refusal_25 : decode cX11_refusal 25 = .ok (.ifCond .eq 21, 3) := by decide +kernel
theorem dX11_refusal_28 : decode cX11_refusal 28 = .ok (.aload_n 0, 1) := by decide +kernel
theorem dX11_refusal_29 : decode cX11_refusal 29 = .ok (.iload_n 3, 1) := by decide +kernel
theorem dX11_refusal_30 : decode cX11_refusal 30 = .ok (.iload 4, 2) := by decide +kernel
theorem dX11_refusal_32 : decode cX11_refusal 32 = .ok (.iload 5, 2) := by decide +kernel
theorem dX11_refusal_34 : decode cX11_refusal 34 = .ok (.iload 6, 2) := by decide +kernel
theorem dX11_refusal_36 : decode cX11_refusal 36 = .ok (.invokevirtual 217, 3) := by decide +kernel
theorem dX11_refusal_39 : decode cX11_refusal 39 = .ok (.ifCond .eq 7, 3) := by decide +kernel
theorem dX11_refusal_42 : decode cX11_refusal 42 = .ok (.iconst 0, 1) := by decide +kernel
theorem dX11_refusal_43 : decode cX11_refusal 43 = .ok (.goto 5, 3) := by decide +kernel
theorem dX11_refusal_46 : decode cX11_refusal 46 = .ok (.iload 7, 2) := by decide +kernel
theorem dX11_refusal_48 : decode cX11_refusal 48 = .ok (.ireturn, 1) := by decide +kernel
def ins_X11_refusal (pc : Nat) : HOp := cond (Nat.blt pc 22) (cond (Nat.blt pc 8) (cond (Nat.blt pc 3) (cond (Nat.blt pc 1) (cond (Nat.beq pc 0) (o_aload 0 1) o_bad) (cond (Nat.blt pc 2) (cond (Nat.beq pc 1) (o_iload 1 2) o_bad) (cond (Nat.beq pc 2) (o_iload 2 3) o_bad))) (cond (Nat.blt pc 4) (cond (Nat.beq pc 3) (o_iload 3 4) o_bad) (cond (Nat.blt pc 6) (cond (Nat.beq pc 4) (o_iload 4 6) o_bad) (cond (Nat.beq pc 6) (o_iload 5 8) o_bad)))) (cond (Nat.blt pc 15) (cond (Nat.blt pc 11) (cond (Nat.beq pc 8) (o_callV 6 11 sp_X11_reason 11) o_bad) (cond (Nat.blt pc 13) (cond (Nat.beq pc 11) (o_istore 7 13) o_bad) (cond (Nat.beq pc 13) (o_iload 7 15) o_bad))) (cond (Nat.blt pc 20) (cond (Nat.blt pc 17) (cond (Nat.beq pc 15) (o_const (9) 17) o_bad) (cond (Nat.beq pc 17) (o_icmp (fun x y => x = y) 20 46) o_bad)) (cond (Nat.blt pc 21) (cond (Nat.beq pc 20) (o_aload 0 21) o_bad) (cond (Nat.beq pc 21) (o_iload 2 22) o_bad))))) (cond (Nat.blt pc 34) (cond (Nat.blt pc 29) (cond (Nat.blt pc 25) (cond (Nat.beq pc 22) (o_callV 2 11 sp_X11_isLawyers 25) o_bad) (cond (Nat.blt pc 28) (cond (Nat.beq pc 25) (o_if (fun x => x = 0) 46 28) o_bad) (cond (Nat.beq pc 28) (o_aload 0 29) o_bad))) (cond (Nat.blt pc 30) (cond (Nat.beq pc 29) (o_iload 3 30) o_bad) (cond (Nat.blt pc 32) (cond (Nat.beq pc 30) (o_iload 4 32) o_bad) (cond (Nat.beq pc 32) (o_iload 5 34) o_bad)))) (cond (Nat.blt pc 42) (cond (Nat.blt pc 36) (cond (Nat.beq pc 34) (o_iload 6 36) o_bad) (cond (Nat.blt pc 39) (cond (Nat.beq pc 36) (o_callV 5 11 sp_X11_makesRoom 39) o_bad) (cond (Nat.beq pc 39) (o_if (fun x => x = 0) 46 42) o_bad))) (cond (Nat.blt pc 46) (cond (Nat.blt pc 43) (cond (Nat.beq pc 42) (o_const (0) 43) o_bad) (cond (Nat.beq pc 43) (o_goto 48) o_bad)) (cond (Nat.blt pc 48) (cond (Nat.beq pc 46) (o_iload 7 48) o_bad) (cond (Nat.beq pc 48) (o_iret) o_bad)))))
set_option maxRecDepth 20000 in
theorem ok_X11_refusal : HOKs cX11_refusal RX11 8 (some .int) 5 ins_X11_refusal := fun _ => hnd (hnd (hnd (hnd (hlf (ok_aload_n dX11_refusal_0 rfl rfl)) (hnd (hlf (ok_iload_n dX11_refusal_1 rfl rfl)) (hlf (ok_iload_n dX11_refusal_2 rfl rfl)))) (hnd (hlf (ok_iload_n dX11_refusal_3 rfl rfl)) (hnd (hlf (ok_iload dX11_refusal_4 rfl)) (hlf (ok_iload dX11_refusal_6 rfl))))) (hnd (hnd (hlf (ok_callV (y := yX11_reason) (n' := 5) (C := RX11) (T := TX11) dX11_refusal_8 ct_X11_reason (by decide) (by decide) wd_1063 wd_1060 wd_1062 wd_21 wd_50 rfl (by decide +kernel) rfl rfl rfl)) (hnd (hlf (ok_istore dX11_refusal_11 (by decide) rfl)) (hlf (ok_iload dX11_refusal_13 rfl)))) (hnd (hnd (hlf (ok_bipush dX11_refusal_15 (by decide) rfl)) (hlf (ok_icmp_ne dX11_refusal_17 (by decide) rfl))) (hnd (hlf (ok_aload_n dX11_refusal_20 rfl rfl)) (hlf (ok_iload_n dX11_refusal_21 rfl rfl)))))) (hnd (hnd (hnd (hlf (ok_callV (y := yX11_isLawyers) (n' := 1) (C := RX11) (T := TX11) dX11_refusal_22 ct_X11_isLawyers (by decide) (by decide) wd_1079 wd_1076 wd_1078 wd_25 wd_50 rfl (by decide +kernel) rfl rfl rfl)) (hnd (hlf (ok_if_eq dX11_refusal_25 (by decide) rfl)) (hlf (ok_aload_n dX11_refusal_28 rfl rfl)))) (hnd (hlf (ok_iload_n dX11_refusal_29 rfl rfl)) (hnd (hlf (ok_iload dX11_refusal_30 rfl)) (hlf (ok_iload dX11_refusal_32 rfl))))) (hnd (hnd (hlf (ok_iload dX11_refusal_34 rfl)) (hnd (hlf (ok_callV (y := yX11_makesRoom) (n' := 4) (C := RX11) (T := TX11) dX11_refusal_36 ct_X11_makesRoom (by decide) (by decide) wd_1104 wd_1101 wd_1103 wd_31 wd_50 rfl (by decide +kernel) rfl rfl rfl)) (hlf (ok_if_eq dX11_refusal_39 (by decide) rfl)))) (hnd (hnd (hlf (ok_iconst dX11_refusal_42 (by decide) rfl)) (hlf (ok_goto dX11_refusal_43 (by decide)))) (hnd (hlf (ok_iload dX11_refusal_46 rfl)) (hlf (ok_iret dX11_refusal_48))))))

set_option maxHeartbeats 1000000 in
theorem vc_X11_refusal : MVC ins_X11_refusal 8 7 sp_X11_refusal := by
  refine mvc0 60 fun as w σ q hl hs => ?_
  unfold sp_X11_refusal at hs
  split at hs
  rotate_left
  · exact hs.elim
  rename_i x s y xa xb keep
  obtain ⟨n, np, nv, p, d, a, b, hM, hp, rfl, hd, rfl, rfl, rfl, hab, hk, hq⟩ := hs
  obtain ⟨t, ht6, ht⟩ := tb6M hM (nI d)
  unfold rfM rfS at hq
  have no : ¬ rfP σ n nv p d a b s → ∀ σ', eqB σ σ' → q (some (HI (reM σ n nv p d a b s))) w σ' := fun h σ' hE => by
    have := hq σ' (by rw [cif_n h, ite_self, msS_self]; exact hE)
    rw [cif_n h] at this
    exact this
  refine ⟨n, np, nv, p, d, a, b, hM, hp, rfl, hd, rfl, rfl, rfl, hab, ?_⟩
  apply br2
  rotate_left
  · intro h1
    exact no (fun z => h1 z.1) σ eqB.rf
  intro h1
  refine ⟨nv, hM.1, ?_⟩
  apply br2
  rotate_left
  · intro h2
    exact And.intro (fun _ => no (fun z => h2 z.2.1) σ eqB.rf) (fun h => absurd rfl h)
  intro h2
  refine And.intro (fun h => absurd h (by decide)) (fun _ => ?_)
  refine ⟨n, nv, a, b, t, hM.1, hM.2.1, nI_pos' (by omega), hM.2.2.2.2.2.2.1, rfl, rfl, hab, ht, ht6, ?_, ?_⟩
  · intro S' hS σ' hE
    refine And.intro (fun h => absurd h (by decide)) (fun _ => ?_)
    have hP : rfP σ n nv p d a b s := ⟨h1, h2, by rw [hS]; exact fun z => by cases z⟩
    have := hq σ' (by rw [cif_p hP, hS]; exact hE)
    rw [cif_p hP] at this
    exact this
  · intro hS σ' hE
    exact And.intro (fun _ => no (fun z => z.2.2 hS) σ' hE) (fun h => absurd rfl h)
theorem ct_X11_refusal : Ctr yX11_refusal cX11_refusal 8 (some .int) 5 0 0 7 sp_X11_refusal := ctr_of (by decide +kernel) rfl (by decide) ok_X11_refusal vc_X11_refusal

abbrev VWm (σ : HS) (n np : Nat) : Prop := ∀ i, i < n → ∃ p d a b, p < np ∧ d ≤ 400 ∧ a + b ≤ 12 ∧ σ 20 16 i = nI p ∧ σ 20 18 i = nI d ∧ σ 20 19 i = nI a ∧ σ 20 20 i = nI b
noncomputable def rfV (σ : HS) (n nv : Nat) (S : Nat → Int32) (i : Nat) : Int32 := rfM (msS σ S n) n nv (σ 20 16 i).toNatClampNeg (σ 20 18 i).toNatClampNeg (σ 20 19 i).toNatClampNeg (σ 20 20 i).toNatClampNeg (σ 20 17 i)
noncomputable def rfT (σ : HS) (n nv : Nat) (S : Nat → Int32) (i : Nat) : Nat → Int32 := rfS (msS σ S n) n nv (σ 20 16 i).toNatClampNeg (σ 20 18 i).toNatClampNeg (σ 20 19 i).toNatClampNeg (σ 20 20 i).toNatClampNeg (σ 20 17 i)
noncomputable def wlM (σ : HS) (n nv : Nat) : Nat → (Nat → Int32) × Nat := wlk (rfV σ n nv) (rfT σ n nv) (fun k => ¬ σ 20 18 k < σ 11 0 0) (σ 20 21)
def zB (σ : HS) : HS := fun k i f => if k = 20 ∧ i = 24 then 0 else σ k i f
theorem eqB.z {σ σ' : HS} (h : eqB σ σ') : zB σ' = zB σ := by
  funext k i f
  unfold zB
  split
  · rfl
  · rename_i q; exact h k i f q
theorem re_z (σ : HS) (n nv p d a b : Nat) (s : Int32) : reM (zB σ) n nv p d a b s = reM σ n nv p d a b s := rfl
theorem rm_z (σ : HS) (n nv a b : Nat) (day : Int32) : rmM (zB σ) n nv a b day = rmM σ n nv a b day := rfl
theorem rf_z (σ : HS) (n nv p d a b : Nat) (s : Int32) : rfM (zB σ) n nv p d a b s = rfM σ n nv p d a b s := rfl
theorem rS_z (σ : HS) (n nv p d a b : Nat) (s : Int32) : rfS (zB σ) n nv p d a b s = rfS σ n nv p d a b s := rfl
theorem rf_B {σ σ' : HS} (h : eqB σ σ') (n nv p d a b : Nat) (s : Int32) : rfM σ' n nv p d a b s = rfM σ n nv p d a b s := by
  rw [← rf_z σ', h.z, rf_z]
theorem rS_B {σ σ' : HS} (h : eqB σ σ') (n nv p d a b : Nat) (s : Int32) : rfS σ' n nv p d a b s = rfS σ n nv p d a b s := by
  rw [← rS_z σ', h.z, rS_z]
theorem MW_z (σ : HS) (n np nv : Nat) : MWf (zB σ) n np nv = MWf σ n np nv := rfl
theorem MW_B {σ σ' : HS} (h : eqB σ σ') {n np nv : Nat} (hM : MWf σ n np nv) : MWf σ' n np nv := by
  rw [← MW_z σ', h.z, MW_z]
  exact hM
theorem MW_S {σ : HS} {S : Nat → Int32} {n m np nv : Nat} (hM : MWf σ n np nv) : MWf (msS σ S m) n np nv := hM
theorem msS_B {σ σ' : HS} {S S' : Nat → Int32} {n : Nat} (h : eqB (msS σ S n) σ') : eqB (msS σ S' n) (msS σ' S' n) := by
  intro k i f hq
  unfold msS
  by_cases z : k = 20 ∧ i = 21 ∧ f < n
  · rw [if_pos z, if_pos z]
  · rw [if_neg z, if_neg z, h k i f hq]
    exact if_neg z
def sp_X11_walk : HSp := fun as w σ K => match as with
  | [.inr (.inl (11, some 0))] => ∃ n np nv, MWf σ n np nv ∧ VWm σ n np ∧ ∀ σ', eqB (msS σ (wlM σ n nv n).1 n) σ' → K (some (HI (nI (wlM σ n nv n).2))) w σ'
  | _ => False
theorem dX11_walk_0 : decode cX11_walk 0 = .ok (.iconst 0, 1) := by decide +kernel
theorem dX11_walk_1 : decode cX11_walk 1 = .ok (.istore_n 1, 1) := by decide +kernel
theorem dX11_walk_2 : decode cX11_walk 2 = .ok (.iconst 0, 1) := by decide +kernel
theorem dX11_walk_3 : decode cX11_walk 3 = .ok (.istore_n 2, 1) := by decide +kernel
theorem dX11_walk_4 : decode cX11_walk 4 = .ok (.iload_n 2, 1) := by decide +kernel
theorem dX11_walk_5 : decode cX11_walk 5 = .ok (.aload_n 0, 1) := by decide +kernel
theorem dX11_walk_6 : decode cX11_walk 6 = .ok (.getfield 118, 3) := by decide +kernel
theorem dX11_walk_9 : decode cX11_walk 9 = .ok (.if_icmp .ge 80, 3) := by decide +kernel
theorem dX11_walk_12 : decode cX11_walk 12 = .ok (.aload_n 0, 1) := by decide +kernel
theorem dX11_walk_13 : decode cX11_walk 13 = .ok (.getfield 77, 3) := by decide +kernel
theorem dX11_walk_16 : decode cX11_walk 16 = .ok (.iload_n 2, 1) := by decide +kernel
theorem dX11_walk_17 : decode cX11_walk 17 = .ok (.iaload, 1) := by decide +kernel
theorem dX11_walk_18 : decode cX11_walk 18 = .ok (.iconst 1, 1) := by decide +kernel
theorem dX11_walk_19 : decode cX11_walk 19 = .ok (.if_icmp .ne 64, 3) := by decide +kernel
theorem dX11_walk_22 : decode cX11_walk 22 = .ok (.aload_n 0, 1) := by decide +kernel
theorem dX11_walk_23 : decode cX11_walk 23 = .ok (.getfield 68, 3) := by decide +kernel
theorem dX11_walk_26 : decode cX11_walk 26 = .ok (.iload_n 2, 1) := by decide +kernel
theorem dX11_walk_27 : decode cX11_walk 27 = .ok (.iaload, 1) := by decide +kernel
theorem dX11_walk_28 : decode cX11_walk 28 = .ok (.aload_n 0, 1) := by decide +kernel
theorem dX11_walk_29 : decode cX11_walk 29 = .ok (.getfield 125, 3) := by decide +kernel
theorem dX11_walk_32 : decode cX11_walk 32 = .ok (.if_icmp .lt 51, 3) := by decide +kernel
theorem dX11_walk_35 : decode cX11_walk 35 = .ok (.aload_n 0, 1) := by decide +kernel
theorem dX11_walk_36 : decode cX11_walk 36 = .ok (.aload_n 0, 1) := by decide +kernel
theorem dX11_walk_37 : decode cX11_walk 37 = .ok (.getfield 62, 3) := by decide +kernel
theorem dX11_walk_40 : decode cX11_walk 40 = .ok (.iload_n 2, 1) := by decide +kernel
theorem dX11_walk_41 : decode cX11_walk 41 = .ok (.iaload, 1) := by decide +kernel
theorem dX11_walk_42 : decode cX11_walk 42 = .ok (.aload_n 0, 1) := by decide +kernel
theorem dX11_walk_43 : decode cX11_walk 43 = .ok (.getfield 65, 3) := by decide +kernel
theorem dX11_walk_46 : decode cX11_walk 46 = .ok (.iload_n 2, 1) := by decide +kernel
theorem dX11_walk_47 : decode cX11_walk 47 = .ok (.iaload, 1) := by decide +kernel
theorem dX11_walk_48 : decode cX11_walk 48 = .ok (.aload_n 0, 1) := by decide +kernel
theorem dX11_walk_49 : decode cX11_walk 49 = .ok (.getfield 68, 3) := by decide +kernel
theorem dX11_walk_52 : decode cX11_walk 52 = .ok (.iload_n 2, 1) := by decide +kernel
theorem dX11_walk_53 : decode cX11_walk 53 = .ok (.iaload, 1) := by decide +kernel
theorem dX11_walk_54 : decode cX11_walk 54 = .ok (.aload_n 0, 1) := by decide +kernel
theorem dX11_walk_55 : decode cX11_walk 55 = .ok (.getfield 71, 3) := by decide +kernel
theorem dX11_walk_58 : decode cX11_walk 58 = .ok (.iload_n 2, 1) := by decide +kernel
theorem dX11_walk_59 : decode cX11_walk 59 = .ok (.iaload, 1) := by decide +kernel
theorem dX11_walk_60 : decode cX11_walk 60 = .ok (.aload_n 0, 1) := by decide +kernel
theorem dX11_walk_61 : decode cX11_walk 61 = .ok (.getfield 74, 3) := by decide +kernel
theorem dX11_walk_64 : decode cX11_walk 64 = .ok (.iload_n 2, 1) := by decide +kernel
theorem dX11_walk_65 : decode cX11_walk 65 = .ok (.iaload, 1) := by decide +kernel
theorem dX11_walk_66 : decode cX11_walk 66 = .ok (.iconst 1, 1) := by decide +kernel
theorem dX11_walk_67 : decode cX11_walk 67 = .ok (.invokevirtual 221, 3) := by decide +kernel
theorem dX11_walk_70 : decode cX11_walk 70 = .ok (.ifCond .ne 13, 3) := by decide +kernel
theorem dX11_walk_73 : decode cX11_walk 73 = .ok (.aload_n 0, 1) := by decide +kernel
theorem dX11_walk_74 : decode cX11_walk 74 = .ok (.getfield 77, 3) := by decide +kernel
theorem dX11_walk_77 : decode cX11_walk 77 = .ok (.iload_n 2, 1) := by decide +kernel
theorem dX11_walk_78 : decode cX11_walk 78 = .ok (.iconst 0, 1) := by decide +kernel
theorem dX11_walk_79 : decode cX11_walk 79 = .ok (.iastore, 1) := by decide +kernel
theorem dX11_walk_80 : decode cX11_walk 80 = .ok (.iinc 1 1, 3) := by decide +kernel
theorem dX11_walk_83 : decode cX11_walk 83 = .ok (.iinc 2 1, 3) := by decide +kernel
theorem dX11_walk_86 : decode cX11_walk 86 = .ok (.goto (-82), 3) := by decide +kernel
theorem dX11_walk_89 : decode cX11_walk 89 = .ok (.iload_n 1, 1) := by decide +kernel
theorem dX11_walk_90 : decode cX11_walk 90 = .ok (.ireturn, 1) := by decide +kernel
def ins_X11_walk (pc : Nat) : HOp := cond (Nat.blt pc 43) (cond (Nat.blt pc 19) (cond (Nat.blt pc 6) (cond (Nat.blt pc 3) (cond (Nat.blt pc 1) (cond (Nat.beq pc 0) (o_const (0) 1) o_bad) (cond (Nat.blt pc 2) (cond (Nat.beq pc 1) (o_istore 1 2) o_bad) (cond (Nat.beq pc 2) (o_const (0) 3) o_bad))) (cond (Nat.blt pc 4) (cond (Nat.beq pc 3) (o_istore 2 4) o_bad) (cond (Nat.blt pc 5) (cond (Nat.beq pc 4) (o_iload 2 5) o_bad) (cond (Nat.beq pc 5) (o_aload 0 6) o_bad)))) (cond (Nat.blt pc 13) (cond (Nat.blt pc 9) (cond (Nat.beq pc 6) (o_getf 11 21 9) o_bad) (cond (Nat.blt pc 12) (cond (Nat.beq pc 9) (o_icmp (fun x y => y ≤ x) 89 12) o_bad) (cond (Nat.beq pc 12) (o_aload 0 13) o_bad))) (cond (Nat.blt pc 17) (cond (Nat.blt pc 16) (cond (Nat.beq pc 13) (o_getf 11 27 16) o_bad) (cond (Nat.beq pc 16) (o_iload 2 17) o_bad)) (cond (Nat.blt pc 18) (cond (Nat.beq pc 17) (o_iald 18) o_bad) (cond (Nat.beq pc 18) (o_const (1) 19) o_bad))))) (cond (Nat.blt pc 32) (cond (Nat.blt pc 26) (cond (Nat.blt pc 22) (cond (Nat.beq pc 19) (o_icmp (fun x y => x = y) 22 83) o_bad) (cond (Nat.blt pc 23) (cond (Nat.beq pc 22) (o_aload 0 23) o_bad) (cond (Nat.beq pc 23) (o_getf 11 24 26) o_bad))) (cond (Nat.blt pc 28) (cond (Nat.blt pc 27) (cond (Nat.beq pc 26) (o_iload 2 27) o_bad) (cond (Nat.beq pc 27) (o_iald 28) o_bad)) (cond (Nat.blt pc 29) (cond (Nat.beq pc 28) (o_aload 0 29) o_bad) (cond (Nat.beq pc 29) (o_getf 11 0 32) o_bad)))) (cond (Nat.blt pc 37) (cond (Nat.blt pc 35) (cond (Nat.beq pc 32) (o_icmp (fun x y => x < y) 83 35) o_bad) (cond (Nat.blt pc 36) (cond (Nat.beq pc 35) (o_aload 0 36) o_bad) (cond (Nat.beq pc 36) (o_aload 0 37) o_bad))) (cond (Nat.blt pc 41) (cond (Nat.blt pc 40) (cond (Nat.beq pc 37) (o_getf 11 22 40) o_bad) (cond (Nat.beq pc 40) (o_iload 2 41) o_bad)) (cond (Nat.blt pc 42) (cond (Nat.beq pc 41) (o_iald 42) o_bad) (cond (Nat.beq pc 42) (o_aload 0 43) o_bad)))))) (cond (Nat.blt pc 65) (cond (Nat.blt pc 54) (cond (Nat.blt pc 48) (cond (Nat.blt pc 46) (cond (Nat.beq pc 43) (o_getf 11 23 46) o_bad) (cond (Nat.blt pc 47) (cond (Nat.beq pc 46) (o_iload 2 47) o_bad) (cond (Nat.beq pc 47) (o_iald 48) o_bad))) (cond (Nat.blt pc 52) (cond (Nat.blt pc 49) (cond (Nat.beq pc 48) (o_aload 0 49) o_bad) (cond (Nat.beq pc 49) (o_getf 11 24 52) o_bad)) (cond (Nat.blt pc 53) (cond (Nat.beq pc 52) (o_iload 2 53) o_bad) (cond (Nat.beq pc 53) (o_iald 54) o_bad)))) (cond (Nat.blt pc 59) (cond (Nat.blt pc 55) (cond (Nat.beq pc 54) (o_aload 0 55) o_bad) (cond (Nat.blt pc 58) (cond (Nat.beq pc 55) (o_getf 11 25 58) o_bad) (cond (Nat.beq pc 58) (o_iload 2 59) o_bad))) (cond (Nat.blt pc 61) (cond (Nat.blt pc 60) (cond (Nat.beq pc 59) (o_iald 60) o_bad) (cond (Nat.beq pc 60) (o_aload 0 61) o_bad)) (cond (Nat.blt pc 64) (cond (Nat.beq pc 61) (o_getf 11 26 64) o_bad) (cond (Nat.beq pc 64) (o_iload 2 65) o_bad))))) (cond (Nat.blt pc 78) (cond (Nat.blt pc 70) (cond (Nat.blt pc 66) (cond (Nat.beq pc 65) (o_iald 66) o_bad) (cond (Nat.blt pc 67) (cond (Nat.beq pc 66) (o_const (1) 67) o_bad) (cond (Nat.beq pc 67) (o_callV 7 11 sp_X11_refusal 70) o_bad))) (cond (Nat.blt pc 74) (cond (Nat.blt pc 73) (cond (Nat.beq pc 70) (o_if (fun x => x = 0) 73 83) o_bad) (cond (Nat.beq pc 73) (o_aload 0 74) o_bad)) (cond (Nat.blt pc 77) (cond (Nat.beq pc 74) (o_getf 11 27 77) o_bad) (cond (Nat.beq pc 77) (o_iload 2 78) o_bad)))) (cond (Nat.blt pc 83) (cond (Nat.blt pc 79) (cond (Nat.beq pc 78) (o_const (0) 79) o_bad) (cond (Nat.blt pc 80) (cond (Nat.beq pc 79) (o_iast 80) o_bad) (cond (Nat.beq pc 80) (o_iinc 1 (1) 83) o_bad))) (cond (Nat.blt pc 89) (cond (Nat.blt pc 86) (cond (Nat.beq pc 83) (o_iinc 2 (1) 86) o_bad) (cond (Nat.beq pc 86) (o_goto 4) o_bad)) (cond (Nat.blt pc 90) (cond (Nat.beq pc 89) (o_iload 1 90) o_bad) (cond (Nat.beq pc 90) (o_iret) o_bad))))))
set_option maxRecDepth 20000 in
theorem ok_X11_walk : HOKs cX11_walk RX11 3 (some .int) 6 ins_X11_walk := fun _ => hnd (hnd (hnd (hnd (hnd (hlf (ok_iconst dX11_walk_0 (by decide) rfl)) (hnd (hlf (ok_istore_n dX11_walk_1 rfl (by decide) rfl)) (hlf (ok_iconst dX11_walk_2 (by decide) rfl)))) (hnd (hlf (ok_istore_n dX11_walk_3 rfl (by decide) rfl)) (hnd (hlf (ok_iload_n dX11_walk_4 rfl rfl)) (hlf (ok_aload_n dX11_walk_5 rfl rfl))))) (hnd (hnd (hlf (ok_getf (C := RX11) (T := TX11) dX11_walk_6 rfl rfl (by decide) rfl inX11 wd_898 rfl)) (hnd (hlf (ok_icmp_ge dX11_walk_9 (by decide) rfl)) (hlf (ok_aload_n dX11_walk_12 rfl rfl)))) (hnd (hnd (hlf (ok_getf (C := RX11) (T := TX11) dX11_walk_13 rfl rfl (by decide) rfl inX11 wd_904 rfl)) (hlf (ok_iload_n dX11_walk_16 rfl rfl))) (hnd (hlf (ok_iald dX11_walk_17 rfl)) (hlf (ok_iconst dX11_walk_18 (by decide) rfl)))))) (hnd (hnd (hnd (hlf (ok_icmp_ne dX11_walk_19 (by decide) rfl)) (hnd (hlf (ok_aload_n dX11_walk_22 rfl rfl)) (hlf (ok_getf (C := RX11) (T := TX11) dX11_walk_23 rfl rfl (by decide) rfl inX11 wd_901 rfl)))) (hnd (hnd (hlf (ok_iload_n dX11_walk_26 rfl rfl)) (hlf (ok_iald dX11_walk_27 rfl))) (hnd (hlf (ok_aload_n dX11_walk_28 rfl rfl)) (hlf (ok_getf (C := RX11) (T := TX11) dX11_walk_29 rfl rfl (by decide) rfl inX11 wd_877 rfl))))) (hnd (hnd (hlf (ok_icmp_lt dX11_walk_32 (by decide) rfl)) (hnd (hlf (ok_aload_n dX11_walk_35 rfl rfl)) (hlf (ok_aload_n dX11_walk_36 rfl rfl)))) (hnd (hnd (hlf (ok_getf (C := RX11) (T := TX11) dX11_walk_37 rfl rfl (by decide) rfl inX11 wd_899 rfl)) (hlf (ok_iload_n dX11_walk_40 rfl rfl))) (hnd (hlf (ok_iald dX11_walk_41 rfl)) (hlf (ok_aload_n dX11_walk_42 rfl rfl))))))) (hnd (hnd (hnd (hnd (hlf (ok_getf (C := RX11) (T := TX11) dX11_walk_43 rfl rfl (by decide) rfl inX11 wd_900 rfl)) (hnd (hlf (ok_iload_n dX11_walk_46 rfl rfl)) (hlf (ok_iald dX11_walk_47 rfl)))) (hnd (hnd (hlf (ok_aload_n dX11_walk_48 rfl rfl)) (hlf (ok_getf (C := RX11) (T := TX11) dX11_walk_49 rfl rfl (by decide) rfl inX11 wd_901 rfl))) (hnd (hlf (ok_iload_n dX11_walk_52 rfl rfl)) (hlf (ok_iald dX11_walk_53 rfl))))) (hnd (hnd (hlf (ok_aload_n dX11_walk_54 rfl rfl)) (hnd (hlf (ok_getf (C := RX11) (T := TX11) dX11_walk_55 rfl rfl (by decide) rfl inX11 wd_902 rfl)) (hlf (ok_iload_n dX11_walk_58 rfl rfl)))) (hnd (hnd (hlf (ok_iald dX11_walk_59 rfl)) (hlf (ok_aload_n dX11_walk_60 rfl rfl))) (hnd (hlf (ok_getf (C := RX11) (T := TX11) dX11_walk_61 rfl rfl (by decide) rfl inX11 wd_903 rfl)) (hlf (ok_iload_n dX11_walk_64 rfl rfl)))))) (hnd (hnd (hnd (hlf (ok_iald dX11_walk_65 rfl)) (hnd (hlf (ok_iconst dX11_walk_66 (by decide) rfl)) (hlf (ok_callV (y := yX11_refusal) (n' := 6) (C := RX11) (T := TX11) dX11_walk_67 ct_X11_refusal (by decide) (by decide) wd_1059 wd_1056 wd_1058 wd_20 wd_50 rfl (by decide +kernel) rfl rfl rfl)))) (hnd (hnd (hlf (ok_if_ne dX11_walk_70 (by decide) rfl)) (hlf (ok_aload_n dX11_walk_73 rfl rfl))) (hnd (hlf (ok_getf (C := RX11) (T := TX11) dX11_walk_74 rfl rfl (by decide) rfl inX11 wd_904 rfl)) (hlf (ok_iload_n dX11_walk_77 rfl rfl))))) (hnd (hnd (hlf (ok_iconst dX11_walk_78 (by decide) rfl)) (hnd (hlf (ok_iast dX11_walk_79 rfl)) (hlf (ok_iinc dX11_walk_80 (by decide) (by decide) rfl)))) (hnd (hnd (hlf (ok_iinc dX11_walk_83 (by decide) (by decide) rfl)) (hlf (ok_goto dX11_walk_86 (by decide)))) (hnd (hlf (ok_iload_n dX11_walk_89 rfl rfl)) (hlf (ok_iret dX11_walk_90)))))))

set_option maxHeartbeats 1000000 in
theorem vc_X11_walk : MVC ins_X11_walk 3 1 sp_X11_walk := by
  refine mvc1 4 90 fun as w σ q hl hs => ?_
  unfold sp_X11_walk at hs
  split at hs
  rotate_left
  · exact hs.elim
  obtain ⟨n, np, nv, hM, hV, hq⟩ := hs
  have hn := hM.2.1.1
  have hnp := hM.2.2.1.1
  refine ⟨fun N ls st w' σ' => ∃ (i : Nat) (u v : Int32), i ≤ n ∧ N = n - i ∧ u = nI (wlM σ n nv i).2 ∧ v = nI i ∧ ls = [some (HR 11 0), some (HI u), some (HI v)] ∧ st = [] ∧ w = w' ∧ eqB (msS σ (wlM σ n nv i).1 n) σ', ?_, ?_⟩
  · rintro N ls st w' σ' ⟨i, u, v, hi, rfl, rfl, rfl, rfl, rfl, rfl, hE⟩
    have hM' : MWf σ' n np nv := MW_B hE (MW_S hM)
    have h20 : ∀ r j, r ≠ 21 → r ≠ 24 → σ' 20 r j = σ 20 r j := fun r j h1 h2 => by rw [hE 20 r j (by omega)]; exact msS_o (by omega)
    have h0 : σ' 11 0 0 = σ 11 0 0 := by rw [hE 11 0 0 (by omega)]; exact msS_o (by omega)
    apply br2
    · intro h1
      obtain rfl := lp_end hM'.2.1.2 hi h1
      exact hq σ' hE
    intro h1
    have hlt := lp_go hM'.2.1.2 hi h1
    have e1 : (nI i).toNatClampNeg = i := nI_clamp (by omega)
    have hin : vp_in (nI i) 100 := vp_in_nI (by omega) (by decide)
    have e6 : σ' 20 21 i = (wlM σ n nv i).1 i := by rw [hE 20 21 i (by omega)]; exact msS_y hlt
    have hst : wlM σ n nv (i + 1) = cif ((wlM σ n nv i).1 i = 1 ∧ ¬ σ 20 18 i < σ 11 0 0 ∧ rfV σ n nv (wlM σ n nv i).1 i = 0) (upd (rfT σ n nv (wlM σ n nv i).1 i) i 0, (wlM σ n nv i).2 + 1) (wlM σ n nv i) := rfl
    have no : ∀ σ2, eqB σ' σ2 → ¬ ((wlM σ n nv i).1 i = 1 ∧ ¬ σ 20 18 i < σ 11 0 0 ∧ rfV σ n nv (wlM σ n nv i).1 i = 0) → ∃ N', N' < n - i ∧ ∃ (i' : Nat) (u v : Int32), i' ≤ n ∧ N' = n - i' ∧ u = nI (wlM σ n nv i').2 ∧ v = nI i' ∧ [some (HR 11 0), some (HI (nI (wlM σ n nv i).2)), some (HI (nI i + 1))] = [some (HR 11 0), some (HI u), some (HI v)] ∧ ([] : List HV) = [] ∧ w = w ∧ eqB (msS σ (wlM σ n nv i').1 n) σ2 := fun σ2 hE2 h => by
      rw [cif_n h] at hst
      exact ⟨n - (i + 1), by omega, i + 1, _, _, hlt, rfl, by rw [hst], nI_1 i, rfl, rfl, rfl, by rw [hst]; exact hE.tr hE2⟩
    refine And.intro hin ?_
    apply br2
    rotate_left
    · intro h2
      have h2 : ¬ σ' 20 21 (nI i).toNatClampNeg = 1 := h2
      rw [e1, e6] at h2
      exact no σ' eqB.rf fun h => h2 h.1
    intro h2
    have h2 : σ' 20 21 (nI i).toNatClampNeg = 1 := h2
    rw [e1, e6] at h2
    refine And.intro hin ?_
    apply br2
    · intro h3
      have h3 : σ' 20 18 (nI i).toNatClampNeg < σ' 11 0 0 := h3
      rw [e1, h20 18 i (by decide) (by decide), h0] at h3
      exact no σ' eqB.rf fun h => h.2.1 h3
    intro h3
    have h3 : ¬ σ' 20 18 (nI i).toNatClampNeg < σ' 11 0 0 := h3
    rw [e1, h20 18 i (by decide) (by decide), h0] at h3
    obtain ⟨p, d, a, b, hp, hd, hab, q1, q2, q3, q4⟩ := hV i hlt
    refine And.intro hin (And.intro hin (And.intro hin (And.intro hin (And.intro hin ?_))))
    refine ⟨n, np, nv, p, d, a, b, hM', hp, by rw [e1, h20 16 i (by decide) (by decide)]; exact q1, hd, by rw [e1, h20 18 i (by decide) (by decide)]; exact q2, by rw [e1, h20 19 i (by decide) (by decide)]; exact q3, by rw [e1, h20 20 i (by decide) (by decide)]; exact q4, hab, Or.inr rfl, fun σ2 hE2 => ?_⟩
    rw [if_neg (by decide)] at hE2
    rw [e1, h20 17 i (by decide) (by decide)] at hE2 ⊢
    have ev : rfM σ' n nv p d a b (σ 20 17 i) = rfV σ n nv (wlM σ n nv i).1 i := by
      unfold rfV
      rw [q1, q2, q3, q4, nI_clamp (by omega), nI_clamp (by omega), nI_clamp (by omega), nI_clamp (by omega)]
      exact rf_B hE _ _ _ _ _ _ _
    have eT : rfS σ' n nv p d a b (σ 20 17 i) = rfT σ n nv (wlM σ n nv i).1 i := by
      unfold rfT
      rw [q1, q2, q3, q4, nI_clamp (by omega), nI_clamp (by omega), nI_clamp (by omega), nI_clamp (by omega)]
      exact rS_B hE _ _ _ _ _ _ _
    have hP : ¬ rfM σ' n nv p d a b (σ 20 17 i) = 0 → rfS σ' n nv p d a b (σ 20 17 i) = σ' 20 21 := fun h => by
      unfold rfM at h
      unfold rfS
      by_cases z : rfP σ' n nv p d a b (σ 20 17 i)
      · rw [cif_p z] at h; exact absurd rfl h
      · rw [cif_n z]
    apply br2
    rotate_left
    · intro h4
      have h4 : ¬ rfM σ' n nv p d a b (σ 20 17 i) = 0 := h4
      rw [hP h4, msS_self] at hE2
      rw [ev] at h4
      exact no σ2 hE2 fun h => h4 h.2.2
    intro h4
    have h4 : rfM σ' n nv p d a b (σ 20 17 i) = 0 := h4
    rw [ev] at h4
    rw [eT] at hE2
    rw [cif_p ⟨h2, h3, h4⟩] at hst
    refine And.intro hin ?_
    refine ⟨n - (i + 1), by omega, i + 1, _, _, hlt, rfl, by rw [hst]; exact nI_1 _, nI_1 i, rfl, rfl, rfl, ?_⟩
    rw [hst, e1]
    exact msS_up ((msS_B hE).tr hE2) hlt
  · refine ⟨n, 0, 0, 0, Nat.zero_le _, rfl, rfl, rfl, rfl, rfl, rfl, ?_⟩
    show eqB (msS σ (σ 20 21) n) σ
    rw [msS_self]
    exact eqB.rf
theorem ct_X11_walk : Ctr yX11_walk cX11_walk 3 (some .int) 6 0 0 1 sp_X11_walk := ctr_of (by decide +kernel) rfl (by decide) ok_X11_walk vc_X11_walk

