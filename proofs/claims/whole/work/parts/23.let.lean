/-! VisitHall.Gate, 6: X1_admit, X1_letWaiting -/
def stS (σ : HS) (S : Nat → Int32) (n : Nat) : HS := fun k i f => if k = 9 ∧ f = 6 ∧ i < n then S i else σ k i f
theorem sl_is {σ σ' : HS} {n : Nat} {S' : Nat → Int32} (h : lvO σ σ' n) (hz : ∀ i, i < n → σ 9 i 7 = 0) (hS : effS σ' = S') : slS σ' n = stS σ S' n := by
  subst hS
  funext k i f
  unfold slS stS
  by_cases hk : k = 9 ∧ i < n
  · obtain ⟨rfl, hi⟩ := hk
    have h7 := hz i hi
    unfold effS
    by_cases h0 : σ' 9 i 7 = 0
    · rw [if_neg fun q => q.2.2.1 h0]
      by_cases hf : f = 6
      · subst hf; rw [if_pos ⟨rfl, rfl, hi⟩, if_pos h0]
      · rw [if_neg fun q => hf q.2.1]
        by_cases hf7 : f = 7
        · subst hf7; rw [h0, h7]
        · exact h.1 9 i f (fun q => hf7 q.2.1)
    · by_cases hf : f = 6
      · subst hf; simp [h0, hi]
      · rw [if_neg (c := 9 = 9 ∧ f = 6 ∧ i < n) fun q => hf q.2.1]
        by_cases hf7 : f = 7
        · subst hf7; simp [h0, hi, h7]
        · rw [if_neg fun q => q.2.2.2.elim hf hf7]
          exact h.1 9 i f (fun q => hf7 q.2.1)
  · rw [if_neg fun q => hk ⟨q.1, q.2.1⟩, if_neg fun q => hk ⟨q.1, q.2.2⟩]
    exact h.1 k i f (fun q => hk ⟨q.1, q.2.2⟩)
def sp_X1_admit : HSp := fun as w σ K => match as with
  | [.inr (.inl (1, some 0)), .inr (.inl (9, some v))] => (σ 9 v 5 = 0 → K none w (up3 σ 9 v 6 0)) ∧ (¬ σ 9 v 5 = 0 → ∃ n np nv S', CW w σ n np nv ∧ VW σ np v ∧ (∀ i, i < n → σ 9 i 7 = 0) ∧ rmC σ n v = some S' ∧ K none w (up3 (stS σ S' n) 9 v 6 0))
  | _ => False
theorem dX1_admit_0 : decode cX1_admit 0 = .ok (.aload_n 1, 1) := by decide +kernel
theorem dX1_admit_1 : decode cX1_admit 1 = .ok (.getfield 55, 3) := by decide +kernel
theorem dX1_admit_4 : decode cX1_admit 4 = .ok (.ifCond .eq 18, 3) := by decide +kernel
theorem dX1_admit_7 : decode cX1_admit 7 = .ok (.aload_n 0, 1) := by decide +kernel
theorem dX1_admit_8 : decode cX1_admit 8 = .ok (.aload_n 1, 1) := by decide +kernel
theorem dX1_admit_9 : decode cX1_admit 9 = .ok (.invokevirtual 67, 3) := by decide +kernel
theorem dX1_admit_12 : decode cX1_admit 12 = .ok (.ifCond .eq 10, 3) := by decide +kernel
theorem dX1_admit_15 : decode cX1_admit 15 = .ok (.aload_n 0, 1) := by decide +kernel
theorem dX1_admit_16 : decode cX1_admit 16 = .ok (.getfield 29, 3) := by decide +kernel
theorem dX1_admit_19 : decode cX1_admit 19 = .ok (.invokevirtual 76, 3) := by decide +kernel
theorem dX1_admit_22 : decode cX1_admit 22 = .ok (.aload_n 1, 1) := by decide +kernel
theorem dX1_admit_23 : decode cX1_admit 23 = .ok (.iconst 0, 1) := by decide +kernel
theorem dX1_admit_24 : decode cX1_admit 24 = .ok (.putfield 79, 3) := by decide +kernel
theorem dX1_admit_27 : decode cX1_admit 27 = .ok (.return_, 1) := by decide +kernel
def ins_X1_admit (pc : Nat) : HOp := cond (Nat.blt pc 15) (cond (Nat.blt pc 7) (cond (Nat.blt pc 1) (cond (Nat.beq pc 0) (o_aload 1 1) o_bad) (cond (Nat.blt pc 4) (cond (Nat.beq pc 1) (o_getf 9 5 4) o_bad) (cond (Nat.beq pc 4) (o_if (fun x => x = 0) 22 7) o_bad))) (cond (Nat.blt pc 9) (cond (Nat.blt pc 8) (cond (Nat.beq pc 7) (o_aload 0 8) o_bad) (cond (Nat.beq pc 8) (o_aload 1 9) o_bad)) (cond (Nat.blt pc 12) (cond (Nat.beq pc 9) (o_callV 2 1 sp_X1_marksRoom 12) o_bad) (cond (Nat.beq pc 12) (o_if (fun x => x = 0) 22 15) o_bad)))) (cond (Nat.blt pc 22) (cond (Nat.blt pc 16) (cond (Nat.beq pc 15) (o_aload 0 16) o_bad) (cond (Nat.blt pc 19) (cond (Nat.beq pc 16) (o_getf 1 2 19) o_bad) (cond (Nat.beq pc 19) (o_callV 1 0 sp_X0_sendLeaversToWait 22) o_bad))) (cond (Nat.blt pc 24) (cond (Nat.blt pc 23) (cond (Nat.beq pc 22) (o_aload 1 23) o_bad) (cond (Nat.beq pc 23) (o_const (0) 24) o_bad)) (cond (Nat.blt pc 27) (cond (Nat.beq pc 24) (o_putf 9 6 27) o_bad) (cond (Nat.beq pc 27) (o_vret) o_bad))))
set_option maxRecDepth 20000 in
theorem ok_X1_admit : HOKs cX1_admit RX1 2 none 5 ins_X1_admit := fun _ => hnd (hnd (hnd (hlf (ok_aload_n dX1_admit_0 rfl rfl)) (hnd (hlf (ok_getfN (C := RX9) (T := TX9) dX1_admit_1 rfl rfl (by decide) rfl inX9 wd_257 rfl)) (hlf (ok_if_eq dX1_admit_4 (by decide) rfl)))) (hnd (hnd (hlf (ok_aload_n dX1_admit_7 rfl rfl)) (hlf (ok_aload_n dX1_admit_8 rfl rfl))) (hnd (hlf (ok_callV (y := yX1_marksRoom) (n' := 1) (C := RX1) (T := TX1) dX1_admit_9 ct_X1_marksRoom (by decide) (by decide) wd_512 wd_509 wd_511 wd_6 wd_47 rfl (by decide +kernel) rfl rfl rfl)) (hlf (ok_if_eq dX1_admit_12 (by decide) rfl))))) (hnd (hnd (hlf (ok_aload_n dX1_admit_15 rfl rfl)) (hnd (hlf (ok_getf (C := RX1) (T := TX1) dX1_admit_16 rfl rfl (by decide) rfl inX1 wd_187 rfl)) (hlf (ok_callV (y := yX0_sendLeaversToWait) (n' := 0) (C := RX0) (T := TX0) dX1_admit_19 ct_X0_sendLeaversToWait (by decide) (by decide) wd_528 wd_525 wd_526 wd_527 wd_45 rfl (by decide +kernel) rfl rfl rfl)))) (hnd (hnd (hlf (ok_aload_n dX1_admit_22 rfl rfl)) (hlf (ok_iconst dX1_admit_23 (by decide) rfl))) (hnd (hlf (ok_putfN (C := RX9) (T := TX9) dX1_admit_24 rfl rfl (by decide) rfl inX9 tyX9_ok nmX9 rfl rfl (fun _ _ => rfl) wd_262 rfl)) (hlf (ok_vret dX1_admit_27)))))

theorem vc_X1_admit : MVC ins_X1_admit 2 2 sp_X1_admit := by
  refine mvc0 60 fun as w σ q hl hs => ?_
  unfold sp_X1_admit at hs
  split at hs
  rotate_left
  · exact hs.elim
  rename_i v
  apply br2
  · intro h
    exact hs.1 h
  intro h
  obtain ⟨n, np, nv, S', hC, hV, hz, hS, hq⟩ := hs.2 h
  obtain ⟨hB, hP, hnv, hF, hcl, hrt, hsz, htb, hvs⟩ := id hC
  obtain ⟨⟨p, hp, hvp⟩, ⟨a, b, ha, hb, hab⟩, hlw⟩ := id hV
  have ea : (σ 9 v 3).toNatClampNeg = a := by rw [ha]; exact nI_clamp (by omega)
  have eb : (σ 9 v 4).toNatClampNeg = b := by rw [hb]; exact nI_clamp (by omega)
  obtain ⟨t, ht6, ht⟩ := tb6 hC (σ 9 v 2)
  have et : (tbC σ (σ 9 v 2)).toNatClampNeg = t := by rw [ht]; exact nI_clamp (by omega)
  unfold rmC at hS
  rw [ea, eb, et] at hS
  refine ⟨n, a, b, t, hB, hsz, ha, hb, hab, ht, ht6, fun i hi => Or.inl (hz i hi), ?_, ?_⟩
  · intro S2 hS2 σ2 hO hE
    rw [hS] at hS2
    cases hS2
    refine And.intro (fun h => absurd h (by decide)) (fun _ => ?_)
    refine ⟨n, ⟨hB.1, by rw [hO.1 0 0 1 (by omega)]; exact hB.2.1, hB.2.2⟩, ?_⟩
    rw [sl_is hO hz hE]
    exact hq
  · intro hS2
    rw [hS] at hS2
    cases hS2
theorem ct_X1_admit : Ctr yX1_admit cX1_admit 2 none 5 0 0 2 sp_X1_admit := ctr_of (by decide +kernel) rfl (by decide) ok_X1_admit vc_X1_admit

/-- those who wait, one after the other: what their states are behind the first k, and how many are let -/
noncomputable def wlk (rs : (Nat → Int32) → Nat → Int32) (rm : (Nat → Int32) → Nat → Nat → Int32) (ok : Nat → Prop) (S0 : Nat → Int32) : Nat → (Nat → Int32) × Nat
  | 0 => (S0, 0)
  | k + 1 => cif ((wlk rs rm ok S0 k).1 k = 1 ∧ ok k ∧ rs (wlk rs rm ok S0 k).1 k = 0) (upd (rm (wlk rs rm ok S0 k).1 k) k 0, (wlk rs rm ok S0 k).2 + 1) (wlk rs rm ok S0 k)
noncomputable def rmS (σ : HS) (n : Nat) (S : Nat → Int32) (k : Nat) : Nat → Int32 := cif (σ 9 k 5 = 0) S ((rmC (stS σ S n) n k).getD S)
noncomputable def wlC (w : HW) (σ : HS) (n nv : Nat) : Nat → (Nat → Int32) × Nat := wlk (fun S k => rsC w (stS σ S n) n nv k) (rmS σ n) (fun k => ¬ σ 9 k 2 < σ 0 0 2) (fun i => σ 9 i 6)
theorem stS_o {σ : HS} {S : Nat → Int32} {n k i f : Nat} (h : ¬ (k = 9 ∧ f = 6)) : stS σ S n k i f = σ k i f := if_neg fun q => h ⟨q.1, q.2.1⟩
theorem stS_k {σ : HS} {S : Nat → Int32} {n k : Nat} (h : k ≠ 9) : stS σ S n k = σ k := by
  funext i f
  exact stS_o fun q => h q.1
theorem stS_n {σ : HS} {S : Nat → Int32} {n i f : Nat} (h : f ≠ 6) : stS σ S n 9 i f = σ 9 i f := stS_o fun q => h q.2
theorem stS_6 {σ : HS} {S : Nat → Int32} {n i : Nat} (h : i < n) : stS σ S n 9 i 6 = S i := if_pos ⟨rfl, rfl, h⟩
theorem CW_S {w : HW} {σ : HS} {n np nv : Nat} {S : Nat → Int32} (hC : CW w σ n np nv) : CW w (stS σ S n) n np nv := by
  unfold CW Bk Pk at hC ⊢
  unfold Fp VW at hC ⊢
  rw [stS_k (by decide), stS_k (by decide), stS_k (by decide), stS_k (by decide), stS_k (by decide), stS_k (by decide)]
  obtain ⟨h1, h2, h3, h4, h5, h6, h7, h8, h9⟩ := hC
  refine ⟨h1, h2, h3, h4, h5, h6, h7, h8, fun i hi => ?_⟩
  rw [stS_n (by decide), stS_n (by decide), stS_n (by decide), stS_n (by decide)]
  exact h9 i hi
theorem lc0 {V : Nat → Nat → Int32} {L : Nat → Int32} {n t : Nat} {day : Int32} {S : Nat → Int32} : ∀ {b a : Nat}, (∀ h, a ≤ h → h < a + b → lcV V S day (nI h) n < t) → rms V L n day t b a S = some S
  | 0, _, _ => rfl
  | b + 1, a, h => by
    have h1 := h a (Nat.le_refl _) (by omega)
    have e : lcV V S day (nI a) n + 1 - t = 0 := by omega
    unfold rms
    rw [e]
    exact lc0 (fun h' h2 h3 => h h' (by omega) (by omega))
theorem rs_rm {w : HW} {σ : HS} {n np nv v : Nat} (hC : CW w σ n np nv) (hV : VW σ np v) (hz : ∀ i, i < n → σ 9 i 7 = 0) (h0 : rsC w σ n nv v = 0) (h5 : ¬ σ 9 v 5 = 0) : ∃ S', rmC σ n v = some S' := by
  obtain ⟨hB, hP, hnv, hF, hcl, hrt, hsz, htb, hvs⟩ := id hC
  obtain ⟨⟨p, hp, hvp⟩, ⟨a, b, ha, hb, hab⟩, hlw⟩ := id hV
  have hn := hB.1
  have ea : (σ 9 v 3).toNatClampNeg = a := by rw [ha]; exact nI_clamp (by omega)
  have eb : (σ 9 v 4).toNatClampNeg = b := by rw [hb]; exact nI_clamp (by omega)
  obtain ⟨t, ht6, ht⟩ := tb6 hC (σ 9 v 2)
  have et : (tbC σ (σ 9 v 2)).toNatClampNeg = t := by rw [ht]; exact nI_clamp (by omega)
  unfold rsC at h0
  by_cases c1 : ¬ rpC σ v (σ 9 v 0).toNatClampNeg = 0
  · rw [cif_p c1] at h0; exact absurd h0 c1
  rw [cif_n c1, cif_n fun z => h5 z.1] at h0
  by_cases c2 : rhV σ n v = 9 ∧ ¬ σ 9 v 5 = 0 ∧ ¬ rmC σ n v = none
  · cases e : rmC σ n v with
    | none => exact absurd e c2.2.2
    | some S' => exact ⟨S', rfl⟩
  rw [cif_n c2] at h0
  unfold rhV rhC at h0
  by_cases d1 : hmC σ n v
  · rw [cif_p d1] at h0; exact absurd h0 (by decide)
  rw [cif_n d1] at h0
  by_cases d2 : mrC σ n v
  · rw [cif_p d2] at h0; exact absurd h0 (by decide)
  rw [cif_n d2] at h0
  by_cases d3 : ntC σ n v (σ 9 v 3).toNatClampNeg (σ 9 v 4).toNatClampNeg
  · rw [cif_p d3] at h0; exact absurd h0 (by decide)
  rw [ea, eb] at d3
  refine ⟨effS σ, ?_⟩
  unfold rmC
  rw [ea, eb, et]
  refine lc0 fun h h1 h2 => ?_
  have hO : lvO σ σ n := ⟨fun _ _ _ _ => rfl, fun i hi => Or.inl (hz i hi)⟩
  rw [← lc_iff hO]
  rcases Nat.lt_or_ge (cnt (fun i => decide (atL σ i (σ 9 v 2) (nI h))) n) t with q | q
  · exact q
  · exact absurd ⟨h, h1, h2, by rw [ht]; have := cnt_le (fun i => decide (atL σ i (σ 9 v 2) (nI h))) n; exact nI_nlt q (by omega)⟩ d3
def sp_X1_letWaiting : HSp := fun as w σ K => match as with
  | [.inr (.inl (1, some 0))] => ∃ n np nv, CW w σ n np nv ∧ (∀ i, i < n → σ 9 i 7 = 0) ∧ ∀ σ', eqT (stS σ (wlC w σ n nv n).1 n) σ' → K (some (HI (nI (wlC w σ n nv n).2))) w σ'
  | _ => False
theorem stS_self (σ : HS) (n : Nat) : stS σ (fun i => σ 9 i 6) n = σ := by
  funext k i f
  unfold stS
  split
  · rename_i h; rw [h.1, h.2.1]
  · rfl
theorem stS_up {σ σ' : HS} {S : Nat → Int32} {n i : Nat} (h : eqT (stS σ S n) σ') (hi : i < n) : eqT (stS σ (upd S i 0) n) (up3 σ' 9 i 6 0) := by
  intro k j f hq
  by_cases e : k = 9 ∧ j = i ∧ f = 6
  · obtain ⟨rfl, rfl, rfl⟩ := e
    rw [stS_6 hi]
    simp [up3, upd]
  · rw [up3_o e, h k j f hq]
    unfold stS
    by_cases q : k = 9 ∧ f = 6 ∧ j < n
    · rw [if_pos q, if_pos q]
      unfold upd
      rw [if_neg fun z => e ⟨q.1, z, q.2.1⟩]
    · rw [if_neg q, if_neg q]
theorem stS_st {σ σ' : HS} {S S' : Nat → Int32} {n : Nat} (h : eqT (stS σ S n) σ') : eqT (stS σ S' n) (stS σ' S' n) := by
  intro k j f hq
  unfold stS
  by_cases q : k = 9 ∧ f = 6 ∧ j < n
  · rw [if_pos q, if_pos q]
  · rw [if_neg q, if_neg q, h k j f hq]
    exact if_neg q
theorem dX1_letWaiting_0 : decode cX1_letWaiting 0 = .ok (.iconst 0, 1) := by decide +kernel
theorem dX1_letWaiting_1 : decode cX1_letWaiting 1 = .ok (.istore_n 1, 1) := by decide +kernel
theorem dX1_letWaiting_2 : decode cX1_letWaiting 2 = .ok (.iconst 0, 1) := by decide +kernel
theorem dX1_letWaiting_3 : decode cX1_letWaiting 3 = .ok (.istore_n 2, 1) := by decide +kernel
theorem dX1_letWaiting_4 : decode cX1_letWaiting 4 = .ok (.iload_n 2, 1) := by decide +kernel
theorem dX1_letWaiting_5 : decode cX1_letWaiting 5 = .ok (.aload_n 0, 1) := by decide +kernel
theorem dX1_letWaiting_6 : decode cX1_letWaiting 6 = .ok (.getfield 29, 3) := by decide +kernel
theorem dX1_letWaiting_9 : decode cX1_letWaiting 9 = .ok (.getfield 82, 3) := by decide +kernel
theorem dX1_letWaiting_12 : decode cX1_letWaiting 12 = .ok (.if_icmp .ge 57, 3) := by decide +kernel
theorem dX1_letWaiting_15 : decode cX1_letWaiting 15 = .ok (.aload_n 0, 1) := by decide +kernel
theorem dX1_letWaiting_16 : decode cX1_letWaiting 16 = .ok (.getfield 29, 3) := by decide +kernel
theorem dX1_letWaiting_19 : decode cX1_letWaiting 19 = .ok (.getfield 85, 3) := by decide +kernel
theorem dX1_letWaiting_22 : decode cX1_letWaiting 22 = .ok (.iload_n 2, 1) := by decide +kernel
theorem dX1_letWaiting_23 : decode cX1_letWaiting 23 = .ok (.aaload, 1) := by decide +kernel
theorem dX1_letWaiting_24 : decode cX1_letWaiting 24 = .ok (.astore_n 3, 1) := by decide +kernel
theorem dX1_letWaiting_25 : decode cX1_letWaiting 25 = .ok (.aload_n 3, 1) := by decide +kernel
theorem dX1_letWaiting_26 : decode cX1_letWaiting 26 = .ok (.getfield 79, 3) := by decide +kernel
theorem dX1_letWaiting_29 : decode cX1_letWaiting 29 = .ok (.iconst 1, 1) := by decide +kernel
theorem dX1_letWaiting_30 : decode cX1_letWaiting 30 = .ok (.if_icmp .ne 33, 3) := by decide +kernel
theorem dX1_letWaiting_33 : decode cX1_letWaiting 33 = .ok (.aload_n 3, 1) := by decide +kernel
theorem dX1_letWaiting_34 : decode cX1_letWaiting 34 = .ok (.getfield 89, 3) := by decide +kernel
theorem dX1_letWaiting_37 : decode cX1_letWaiting 37 = .ok (.aload_n 0, 1) := by decide +kernel
theorem dX1_letWaiting_38 : decode cX1_letWaiting 38 = .ok (.getfield 29, 3) := by decide +kernel
theorem dX1_letWaiting_41 : decode cX1_letWaiting 41 = .ok (.getfield 92, 3) := by decide +kernel
theorem dX1_letWaiting_44 : decode cX1_letWaiting 44 = .ok (.if_icmp .lt 19, 3) := by decide +kernel
theorem dX1_letWaiting_47 : decode cX1_letWaiting 47 = .ok (.aload_n 0, 1) := by decide +kernel
theorem dX1_letWaiting_48 : decode cX1_letWaiting 48 = .ok (.aload_n 3, 1) := by decide +kernel
theorem dX1_letWaiting_49 : decode cX1_letWaiting 49 = .ok (.invokevirtual 95, 3) := by decide +kernel
theorem dX1_letWaiting_52 : decode cX1_letWaiting 52 = .ok (.ifCond .ne 11, 3) := by decide +kernel
theorem dX1_letWaiting_55 : decode cX1_letWaiting 55 = .ok (.aload_n 0, 1) := by decide +kernel
theorem dX1_letWaiting_56 : decode cX1_letWaiting 56 = .ok (.aload_n 3, 1) := by decide +kernel
theorem dX1_letWaiting_57 : decode cX1_letWaiting 57 = .ok (.invokevirtual 98, 3) := by decide +kernel
theorem dX1_letWaiting_60 : decode cX1_letWaiting 60 = .ok (.iinc 1 1, 3) := by decide +kernel
theorem dX1_letWaiting_63 : decode cX1_letWaiting 63 = .ok (.iinc 2 1, 3) := by decide +kernel
theorem dX1_letWaiting_66 : decode cX1_letWaiting 66 = .ok (.goto (-62), 3) := by decide +kernel
theorem dX1_letWaiting_69 : decode cX1_letWaiting 69 = .ok (.iload_n 1, 1) := by decide +kernel
theorem dX1_letWaiting_70 : decode cX1_letWaiting 70 = .ok (.ireturn, 1) := by decide +kernel
def ins_X1_letWaiting (pc : Nat) : HOp := cond (Nat.blt pc 30) (cond (Nat.blt pc 15) (cond (Nat.blt pc 4) (cond (Nat.blt pc 2) (cond (Nat.blt pc 1) (cond (Nat.beq pc 0) (o_const (0) 1) o_bad) (cond (Nat.beq pc 1) (o_istore 1 2) o_bad)) (cond (Nat.blt pc 3) (cond (Nat.beq pc 2) (o_const (0) 3) o_bad) (cond (Nat.beq pc 3) (o_istore 2 4) o_bad))) (cond (Nat.blt pc 6) (cond (Nat.blt pc 5) (cond (Nat.beq pc 4) (o_iload 2 5) o_bad) (cond (Nat.beq pc 5) (o_aload 0 6) o_bad)) (cond (Nat.blt pc 9) (cond (Nat.beq pc 6) (o_getf 1 2 9) o_bad) (cond (Nat.blt pc 12) (cond (Nat.beq pc 9) (o_getf 0 1 12) o_bad) (cond (Nat.beq pc 12) (o_icmp (fun x y => y ≤ x) 69 15) o_bad))))) (cond (Nat.blt pc 23) (cond (Nat.blt pc 19) (cond (Nat.blt pc 16) (cond (Nat.beq pc 15) (o_aload 0 16) o_bad) (cond (Nat.beq pc 16) (o_getf 1 2 19) o_bad)) (cond (Nat.blt pc 22) (cond (Nat.beq pc 19) (o_getf 0 0 22) o_bad) (cond (Nat.beq pc 22) (o_iload 2 23) o_bad))) (cond (Nat.blt pc 25) (cond (Nat.blt pc 24) (cond (Nat.beq pc 23) (o_aald 24) o_bad) (cond (Nat.beq pc 24) (o_astore 3 25) o_bad)) (cond (Nat.blt pc 26) (cond (Nat.beq pc 25) (o_aload 3 26) o_bad) (cond (Nat.blt pc 29) (cond (Nat.beq pc 26) (o_getf 9 6 29) o_bad) (cond (Nat.beq pc 29) (o_const (1) 30) o_bad)))))) (cond (Nat.blt pc 49) (cond (Nat.blt pc 38) (cond (Nat.blt pc 34) (cond (Nat.blt pc 33) (cond (Nat.beq pc 30) (o_icmp (fun x y => x = y) 33 63) o_bad) (cond (Nat.beq pc 33) (o_aload 3 34) o_bad)) (cond (Nat.blt pc 37) (cond (Nat.beq pc 34) (o_getf 9 2 37) o_bad) (cond (Nat.beq pc 37) (o_aload 0 38) o_bad))) (cond (Nat.blt pc 44) (cond (Nat.blt pc 41) (cond (Nat.beq pc 38) (o_getf 1 2 41) o_bad) (cond (Nat.beq pc 41) (o_getf 0 2 44) o_bad)) (cond (Nat.blt pc 47) (cond (Nat.beq pc 44) (o_icmp (fun x y => x < y) 63 47) o_bad) (cond (Nat.blt pc 48) (cond (Nat.beq pc 47) (o_aload 0 48) o_bad) (cond (Nat.beq pc 48) (o_aload 3 49) o_bad))))) (cond (Nat.blt pc 60) (cond (Nat.blt pc 55) (cond (Nat.blt pc 52) (cond (Nat.beq pc 49) (o_callV 2 1 sp_X1_reason 52) o_bad) (cond (Nat.beq pc 52) (o_if (fun x => x = 0) 55 63) o_bad)) (cond (Nat.blt pc 56) (cond (Nat.beq pc 55) (o_aload 0 56) o_bad) (cond (Nat.blt pc 57) (cond (Nat.beq pc 56) (o_aload 3 57) o_bad) (cond (Nat.beq pc 57) (o_callV 2 1 sp_X1_admit 60) o_bad)))) (cond (Nat.blt pc 66) (cond (Nat.blt pc 63) (cond (Nat.beq pc 60) (o_iinc 1 (1) 63) o_bad) (cond (Nat.beq pc 63) (o_iinc 2 (1) 66) o_bad)) (cond (Nat.blt pc 69) (cond (Nat.beq pc 66) (o_goto 4) o_bad) (cond (Nat.blt pc 70) (cond (Nat.beq pc 69) (o_iload 1 70) o_bad) (cond (Nat.beq pc 70) (o_iret) o_bad))))))
set_option maxRecDepth 20000 in
theorem ok_X1_letWaiting : HOKs cX1_letWaiting RX1 4 (some .int) 6 ins_X1_letWaiting := fun _ => hnd (hnd (hnd (hnd (hnd (hlf (ok_iconst dX1_letWaiting_0 (by decide) rfl)) (hlf (ok_istore_n dX1_letWaiting_1 rfl (by decide) rfl))) (hnd (hlf (ok_iconst dX1_letWaiting_2 (by decide) rfl)) (hlf (ok_istore_n dX1_letWaiting_3 rfl (by decide) rfl)))) (hnd (hnd (hlf (ok_iload_n dX1_letWaiting_4 rfl rfl)) (hlf (ok_aload_n dX1_letWaiting_5 rfl rfl))) (hnd (hlf (ok_getf (C := RX1) (T := TX1) dX1_letWaiting_6 rfl rfl (by decide) rfl inX1 wd_187 rfl)) (hnd (hlf (ok_getfN (C := RX0) (T := TX0) dX1_letWaiting_9 rfl rfl (by decide) rfl inX0 wd_150 rfl)) (hlf (ok_icmp_ge dX1_letWaiting_12 (by decide) rfl)))))) (hnd (hnd (hnd (hlf (ok_aload_n dX1_letWaiting_15 rfl rfl)) (hlf (ok_getf (C := RX1) (T := TX1) dX1_letWaiting_16 rfl rfl (by decide) rfl inX1 wd_187 rfl))) (hnd (hlf (ok_getfN (C := RX0) (T := TX0) dX1_letWaiting_19 rfl rfl (by decide) rfl inX0 wd_147 rfl)) (hlf (ok_iload_n dX1_letWaiting_22 rfl rfl)))) (hnd (hnd (hlf (ok_aald dX1_letWaiting_23 rfl)) (hlf (ok_astore_n dX1_letWaiting_24 rfl (by decide) rfl))) (hnd (hlf (ok_aload_n dX1_letWaiting_25 rfl rfl)) (hnd (hlf (ok_getfN (C := RX9) (T := TX9) dX1_letWaiting_26 rfl rfl (by decide) rfl inX9 wd_262 rfl)) (hlf (ok_iconst dX1_letWaiting_29 (by decide) rfl))))))) (hnd (hnd (hnd (hnd (hlf (ok_icmp_ne dX1_letWaiting_30 (by decide) rfl)) (hlf (ok_aload_n dX1_letWaiting_33 rfl rfl))) (hnd (hlf (ok_getfN (C := RX9) (T := TX9) dX1_letWaiting_34 rfl rfl (by decide) rfl inX9 wd_246 rfl)) (hlf (ok_aload_n dX1_letWaiting_37 rfl rfl)))) (hnd (hnd (hlf (ok_getf (C := RX1) (T := TX1) dX1_letWaiting_38 rfl rfl (by decide) rfl inX1 wd_187 rfl)) (hlf (ok_getfN (C := RX0) (T := TX0) dX1_letWaiting_41 rfl rfl (by decide) rfl inX0 wd_152 rfl))) (hnd (hlf (ok_icmp_lt dX1_letWaiting_44 (by decide) rfl)) (hnd (hlf (ok_aload_n dX1_letWaiting_47 rfl rfl)) (hlf (ok_aload_n dX1_letWaiting_48 rfl rfl)))))) (hnd (hnd (hnd (hlf (ok_callV (y := yX1_reason) (n' := 1) (C := RX1) (T := TX1) dX1_letWaiting_49 ct_X1_reason (by decide) (by decide) wd_419 wd_416 wd_417 wd_418 wd_47 rfl (by decide +kernel) rfl rfl rfl)) (hlf (ok_if_ne dX1_letWaiting_52 (by decide) rfl))) (hnd (hlf (ok_aload_n dX1_letWaiting_55 rfl rfl)) (hnd (hlf (ok_aload_n dX1_letWaiting_56 rfl rfl)) (hlf (ok_callV (y := yX1_admit) (n' := 1) (C := RX1) (T := TX1) dX1_letWaiting_57 ct_X1_admit (by decide) (by decide) wd_524 wd_521 wd_522 wd_523 wd_47 rfl (by decide +kernel) rfl rfl rfl))))) (hnd (hnd (hlf (ok_iinc dX1_letWaiting_60 (by decide) (by decide) rfl)) (hlf (ok_iinc dX1_letWaiting_63 (by decide) (by decide) rfl))) (hnd (hlf (ok_goto dX1_letWaiting_66 (by decide))) (hnd (hlf (ok_iload_n dX1_letWaiting_69 rfl rfl)) (hlf (ok_iret dX1_letWaiting_70)))))))

set_option maxHeartbeats 1000000 in
theorem vc_X1_letWaiting : MVC ins_X1_letWaiting 4 1 sp_X1_letWaiting := by
  refine mvc1 4 80 fun as w σ q hl hs => ?_
  unfold sp_X1_letWaiting at hs
  split at hs
  rotate_left
  · exact hs.elim
  obtain ⟨n, np, nv, hC, hz, hq⟩ := hs
  have hn := hC.1.1
  refine ⟨fun N ls st w' σ' => ∃ (i : Nat) (u v : Int32) (o : Option HV), i ≤ n ∧ N = n - i ∧ u = nI (wlC w σ n nv i).2 ∧ v = nI i ∧ ls = [some (HR 1 0), some (HI u), some (HI v), o] ∧ st = [] ∧ w = w' ∧ eqT (stS σ (wlC w σ n nv i).1 n) σ', ?_, ?_⟩
  · rintro N ls st w' σ' ⟨i, u, v, o, hi, rfl, rfl, rfl, rfl, rfl, rfl, hE⟩
    have hC1 := CW_S (S := (wlC w σ n nv i).1) hC
    have hC' := CW_T hE hC1
    have h9 : ∀ j f, f ≠ 6 → σ' 9 j f = σ 9 j f := fun j f hf => by rw [hE 9 j f (by omega)]; exact stS_n hf
    have h0 : ∀ f, σ' 0 0 f = σ 0 0 f := fun f => by rw [hE 0 0 f (by omega)]; exact stS_o (by omega)
    apply br2
    · intro h1
      obtain rfl := lp_end hC'.1.2.1 hi h1
      exact hq σ' hE
    intro h1
    have hlt := lp_go hC'.1.2.1 hi h1
    refine And.intro (vp_in_nI (N := 100) (by omega) (by decide)) (fun o ho => ?_)
    obtain rfl := ra_at ho (hC.1.2.2 i hlt)
    have e6 : σ' 9 i 6 = (wlC w σ n nv i).1 i := by rw [hE 9 i 6 (by omega)]; exact stS_6 hlt
    have hst : wlC w σ n nv (i + 1) = cif ((wlC w σ n nv i).1 i = 1 ∧ ¬ σ 9 i 2 < σ 0 0 2 ∧ rsC w (stS σ (wlC w σ n nv i).1 n) n nv i = 0) (upd (rmS σ n (wlC w σ n nv i).1 i) i 0, (wlC w σ n nv i).2 + 1) (wlC w σ n nv i) := rfl
    have no : ∀ σ2, eqT σ' σ2 → ¬ ((wlC w σ n nv i).1 i = 1 ∧ ¬ σ 9 i 2 < σ 0 0 2 ∧ rsC w (stS σ (wlC w σ n nv i).1 n) n nv i = 0) → ∃ N', N' < n - i ∧ ∃ (i' : Nat) (u v : Int32) (o : Option HV), i' ≤ n ∧ N' = n - i' ∧ u = nI (wlC w σ n nv i').2 ∧ v = nI i' ∧ [some (HR 1 0), some (HI (nI (wlC w σ n nv i).2)), some (HI (nI i + 1)), some (HR 9 i)] = [some (HR 1 0), some (HI u), some (HI v), o] ∧ ([] : List HV) = [] ∧ w = w ∧ eqT (stS σ (wlC w σ n nv i').1 n) σ2 := fun σ2 hE2 h => by
      rw [cif_n h] at hst
      exact ⟨n - (i + 1), by omega, i + 1, _, _, _, hlt, rfl, by rw [hst], nI_1 i, rfl, rfl, rfl, by rw [hst]; exact hE.tr hE2⟩
    apply br2
    rotate_left
    · intro h2
      exact no σ' eqT.rf fun h => h2 (by show σ' 9 i 6 = 1; rw [e6]; exact h.1)
    intro h2
    have h2 : σ' 9 i 6 = 1 := h2
    rw [e6] at h2
    apply br2
    · intro h3
      have h3 : σ' 9 i 2 < σ' 0 0 2 := h3
      rw [h9 i 2 (by decide), h0] at h3
      exact no σ' eqT.rf fun h => h.2.1 h3
    intro h3
    have h3 : ¬ σ' 9 i 2 < σ' 0 0 2 := h3
    rw [h9 i 2 (by decide), h0] at h3
    have hz' : ∀ j, j < n → σ' 9 j 7 = 0 := fun j hj => by rw [h9 j 7 (by decide)]; exact hz j hj
    refine ⟨n, np, nv, hC', hC'.2.2.2.2.2.2.2.2 i hlt, hz', fun σ2 hE2 => ?_⟩
    rw [rsT hE]
    apply br2
    rotate_left
    · intro h4
      exact no σ2 hE2 fun h => h4 h.2.2
    intro h4
    rw [cif_p ⟨h2, h3, h4⟩] at hst
    have hE3 := hE.tr hE2
    have h5 : σ2 9 i 5 = σ 9 i 5 := by rw [hE3 9 i 5 (by omega)]; exact stS_n (by decide)
    refine And.intro (fun h6 => ?_) (fun h6 => ?_)
    · rw [h5] at h6
      refine ⟨n - (i + 1), by omega, i + 1, _, _, _, hlt, rfl, by rw [hst]; exact nI_1 _, nI_1 i, rfl, rfl, rfl, ?_⟩
      rw [hst]
      unfold rmS
      rw [cif_p h6]
      exact stS_up hE3 hlt
    · have h6' := h6
      rw [h5] at h6
      have hC2 := CW_T hE2 hC'
      have hz2 : ∀ j, j < n → σ2 9 j 7 = 0 := fun j hj => by rw [hE2 9 j 7 (by omega)]; exact hz' j hj
      obtain ⟨S', hS⟩ := rs_rm hC2 (hC2.2.2.2.2.2.2.2.2 i hlt) hz2 (by rw [rsT hE2, rsT hE]; exact h4) h6'
      refine ⟨n, np, nv, S', hC2, hC2.2.2.2.2.2.2.2.2 i hlt, hz2, hS, ?_⟩
      refine ⟨n - (i + 1), by omega, i + 1, _, _, _, hlt, rfl, by rw [hst]; exact nI_1 _, nI_1 i, rfl, rfl, rfl, ?_⟩
      rw [hst]
      unfold rmS
      rw [cif_n h6]
      rw [rmT hE3] at hS
      rw [hS]
      exact stS_up (stS_st hE3) hlt
  · refine ⟨n, 0, 0, 0, none, Nat.zero_le _, rfl, rfl, rfl, rfl, rfl, rfl, ?_⟩
    show eqT (stS σ (fun i => σ 9 i 6) n) σ
    rw [stS_self]
    exact eqT.rf
theorem ct_X1_letWaiting : Ctr yX1_letWaiting cX1_letWaiting 4 (some .int) 6 0 0 1 sp_X1_letWaiting := ctr_of (by decide +kernel) rfl (by decide) ok_X1_letWaiting vc_X1_letWaiting

