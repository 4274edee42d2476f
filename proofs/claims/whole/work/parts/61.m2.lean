/-! calls, 2: isOf, list, told, of, visit, hall -/
section Who
variable {w : HW} {σ : HS} {n np nv : Nat}
theorem isPr (hV : Ivs w σ n np nv) {x : Int32} : (¬ x < 0 ∧ ¬ σ 11 0 1 - 1 < x) ↔ ∃ p, p < np ∧ x = nI p := by
  have := hV.2.1.1
  rw [hV.2.1.2.2.1, Pn (by omega)]
theorem isVi (hV : Ivs w σ n np nv) {x : Int32} : (¬ x < 0 ∧ ¬ σ 11 0 7 - 1 < x) ↔ ∃ v, v < nv ∧ x = nI v := by
  have := hV.2.2.1.1
  rw [hV.2.2.1.2.2.1, Pn (by omega)]
theorem isVc (hV : Ivs w σ n np nv) {x : Int32} : (0 ≤ x ∧ x < σ 2 0 4) ↔ ∃ v, v < nv ∧ x = nI v := by
  have := hV.2.2.1.1
  rw [hV.2.2.1.2.1, Bn (by omega)]
theorem isVs (hV : Ivs w σ n np nv) {x : Int32} : (¬ x < 0 ∧ ¬ σ 11 0 21 - 1 < x) ↔ ∃ j, j < n ∧ x = nI j := by
  have := hV.2.2.2.2.1.1
  rw [hV.2.2.2.2.1.2.2.1, Pn (by omega)]
theorem IvP.set3 {p : Nat} {x : Int32} (h : IvP σ np) (hp : p < np) : IvP (up3 (up3 σ 3 p 3 x) 20 3 p x) np := by
  obtain ⟨h1, h2, h3, h4, h5⟩ := h
  refine ⟨h1, h2, h3, fun p' hp' => ?_, fun p' hp' hp2 => ?_⟩
  · have q := h4 p' hp'
    refine ⟨?_, ?_, ?_, ?_, ?_, q.2.2.2.2.2⟩
    · rw [up3_o (by omega), up3_o (by omega), up3_o (by omega), up3_o (by omega)]; exact q.1
    · rw [up3_o (by omega), up3_o (by omega), up3_o (by omega), up3_o (by omega)]; exact q.2.1
    · rw [up3_o (by omega), up3_o (by omega)]; exact q.2.2.1
    · rw [up3_o (by omega), up3_o (by omega), up3_o (by omega), up3_o (by omega)]; exact q.2.2.2.1
    · by_cases c : p' = p
      · subst c
        rw [up3_v, up3_o (by omega), up3_v]
      · rw [up3_o (by omega), up3_o (by omega), up3_o (by omega), up3_o (by omega)]; exact q.2.2.2.2.1
  · have q := h5 p' hp' hp2
    exact ⟨by rw [up3_o (by omega), up3_o (by omega)]; exact q.1, q.2⟩
end Who
theorem eq_list : Eq3 Inv sp_X10_list sp_X11_list := by
  intro a b c w σ Q1 hI hK
  obtain ⟨n, np, nv, hV⟩ := id hI
  have h10 := hV.2.1.1
  have h14 := hV.2.2.1.1
  refine ⟨np, hV.pk, fun p hp e => ?_, fun hx => ?_⟩
  rotate_left
  · refine hK _ _ _ fun K2 h2 => ?_
    refine And.intro (fun z9 => absurd z9 (fun q => hx ((Bn (by omega)).mpr ((isPr hV).mp q)))) (fun _ => And.intro (fun _ => ?_) (fun z9 => absurd rfl z9))
    exact h2 _ _ hI
  subst e
  by_cases h3 : 0 ≤ b ∧ b < σ 2 0 4
  rotate_left
  · refine And.intro (fun z9 => absurd z9 (h3)) (fun _ => And.intro (fun _ => ?_) (fun z9 => absurd rfl z9))
    refine hK _ _ _ fun K2 h2 => ?_
    refine And.intro (fun _ => And.intro (fun z9 => absurd z9 (by decide)) (fun _ => ?_)) (fun z9 => absurd ((isPr hV).mpr ⟨p, hp, rfl⟩) z9)
    refine And.intro (fun z9 => absurd z9 (fun q => h3 ((isVc hV).mpr ((isVi hV).mp q)))) (fun _ => And.intro (fun _ => ?_) (fun z9 => absurd rfl z9))
    exact h2 _ _ hI
  refine And.intro (fun _ => And.intro (fun z9 => absurd z9 (by decide)) (fun _ => ?_)) (fun z9 => absurd (h3) z9)
  obtain ⟨v, hv, rfl⟩ := (isVc hV).mp h3
  by_cases h4 : 0 ≤ c ∧ c < 2
  rotate_left
  · refine And.intro (fun z9 => absurd z9 (h4)) (fun _ => And.intro (fun _ => ?_) (fun z9 => absurd rfl z9))
    refine hK _ _ _ fun K2 h2 => ?_
    refine And.intro (fun _ => And.intro (fun z9 => absurd z9 (by decide)) (fun _ => ?_)) (fun z9 => absurd ((isPr hV).mpr ⟨p, hp, rfl⟩) z9)
    refine And.intro (fun _ => And.intro (fun z9 => absurd z9 (by decide)) (fun _ => ?_)) (fun z9 => absurd ((isVi hV).mpr ⟨v, hv, rfl⟩) z9)
    refine And.intro (fun z9 => absurd z9 (fun q => h4 ((Bn (n := 2) (by decide)).mpr ((In (m := 1) (by decide)).mp q)))) (fun _ => And.intro (fun _ => ?_) (fun z9 => absurd rfl z9))
    exact h2 _ _ hI
  refine And.intro (fun _ => And.intro (fun z9 => absurd z9 (by decide)) (fun _ => ?_)) (fun z9 => absurd (h4) z9)
  obtain ⟨o, ho, rfl⟩ := (Bn (n := 2) (by decide)).mp h4
  have ho2 : nI o = 0 ∨ nI o = 1 := by
    have : o = 0 ∨ o = 1 := by omega
    rcases this with rfl | rfl
    · exact Or.inl rfl
    · exact Or.inr rfl
  have e1 : (nI p).toNatClampNeg = p := nI_clamp (by omega)
  have hin : vp_in (nI p) 10 := vp_in_nI (by omega) (by decide)
  have hl : σ 20 3 p = σ 3 p 3 := (hV.2.1.2.2.2.1 p hp).2.2.2.2.1
  refine hK _ _ _ fun K2 h2 => ?_
  refine And.intro (fun _ => And.intro (fun z9 => absurd z9 (by decide)) (fun _ => ?_)) (fun z9 => absurd ((isPr hV).mpr ⟨p, hp, rfl⟩) z9)
  refine And.intro (fun _ => And.intro (fun z9 => absurd z9 (by decide)) (fun _ => ?_)) (fun z9 => absurd ((isVi hV).mpr ⟨v, hv, rfl⟩) z9)
  refine And.intro (fun _ => And.intro (fun z9 => absurd z9 (by decide)) (fun _ => ?_)) (fun z9 => absurd ((In (m := 1) (by decide)).mpr ⟨o, ho, rfl⟩) z9)
  refine And.intro hin ?_
  by_cases h5 : σ 20 3 (nI p).toNatClampNeg >>> (nI v &&& 31) &&& 1 = nI o
  · refine And.intro (fun _ => ?_) (fun z9 => absurd (h5) z9)
    show K2 (some (HI (σ 20 3 (nI p).toNatClampNeg >>> (nI v &&& 31) &&& 1))) w (up3 σ 3 p 3 (wB (σ 3 p 3) (nI v) (nI o)))
    rw [e1, hl] at h5 ⊢
    rw [wB_x (by omega) ho2, if_pos h5, up3_id rfl]
    exact h2 _ _ hI
  · refine And.intro (fun z9 => absurd z9 (h5)) (fun _ => ?_)
    refine And.intro hin (And.intro hin ?_)
    show K2 (some (HI (σ 20 3 (nI p).toNatClampNeg >>> (nI v &&& 31) &&& 1))) w (up3 (up3 σ 3 p 3 (wB (σ 3 p 3) (nI v) (nI o))) 20 3 (nI p).toNatClampNeg (σ 20 3 (nI p).toNatClampNeg ^^^ (1 <<< (nI v &&& 31))))
    rw [e1, hl] at h5 ⊢
    rw [wB_x (by omega) ho2, if_neg h5]
    exact h2 _ _ ⟨n, np, nv, hV.1, hV.2.1.set3 hp, hV.2.2.1, (hV.2.2.2.1.up (by omega) (by omega) (by omega)).up (by omega) (by omega) (by omega), hV.2.2.2.2⟩
theorem eq_isOf : Eq2 Inv sp_X10_isOf sp_X11_isOf := by
  intro a b w σ Q1 hI hK
  obtain ⟨n, np, nv, hV⟩ := id hI
  have h14 := hV.2.2.1.1
  by_cases h3 : 0 ≤ a ∧ a < σ 2 0 4
  rotate_left
  · refine And.intro (fun z9 => absurd z9 (h3)) (fun _ => And.intro (fun _ => ?_) (fun z9 => absurd rfl z9))
    refine hK _ _ _ fun K2 h2 => ?_
    refine And.intro (fun z9 => absurd z9 (fun q => h3 ((isVc hV).mpr ((isVi hV).mp q)))) (fun _ => And.intro (fun _ => ?_) (fun z9 => absurd rfl z9))
    exact h2 _ _ hI
  refine And.intro (fun _ => And.intro (fun z9 => absurd z9 (by decide)) (fun _ => ?_)) (fun z9 => absurd (h3) z9)
  obtain ⟨v, hv, rfl⟩ := (isVc hV).mp h3
  by_cases h4 : 0 ≤ b ∧ b < 4
  rotate_left
  · refine And.intro (fun z9 => absurd z9 (h4)) (fun _ => And.intro (fun _ => ?_) (fun z9 => absurd rfl z9))
    refine hK _ _ _ fun K2 h2 => ?_
    refine And.intro (fun _ => And.intro (fun z9 => absurd z9 (by decide)) (fun _ => ?_)) (fun z9 => absurd ((isVi hV).mpr ⟨v, hv, rfl⟩) z9)
    refine And.intro (fun z9 => absurd z9 (fun q => h4 ((Bn (n := 4) (by decide)).mpr ((In (m := 3) (by decide)).mp q)))) (fun _ => And.intro (fun _ => ?_) (fun z9 => absurd rfl z9))
    exact h2 _ _ hI
  refine And.intro (fun _ => And.intro (fun z9 => absurd z9 (by decide)) (fun _ => ?_)) (fun z9 => absurd (h4) z9)
  refine And.intro (fun _ => ?_) (fun z => absurd h4 z)
  obtain ⟨kk, hk, rfl⟩ := (Bn (n := 4) (by decide)).mp h4
  have e1 : (nI v).toNatClampNeg = v := nI_clamp (by omega)
  have e2 : (nI kk).toNatClampNeg = kk := nI_clamp (by omega)
  have hin : vp_in (nI v) 14 := vp_in_nI (by omega) (by decide)
  obtain ⟨⟨kd, hkd, hkd2⟩, -⟩ := hV.2.2.1.2.2.2.1 v hv
  have hb := hV.2.2.1.2.2.2.2 kk hk v (by omega)
  have hc : ∀ r : Int32, ((nI kk = 0 ∨ nI kk = σ 20 5 v ∨ (nI kk = 1 ∧ σ 20 5 v = 3)) → r = 1) → (¬ (nI kk = 0 ∨ nI kk = σ 20 5 v ∨ (nI kk = 1 ∧ σ 20 5 v = 3)) → r = 0) → σ 13 0 (nI kk).toNatClampNeg >>> (nI v &&& 31) &&& 1 = r := fun r g1 g2 => by
    rw [e2]
    have hiff : (v < nv ∧ (kk = 0 ∨ σ 20 5 v = nI kk ∨ (kk = 1 ∧ σ 20 5 v = 3))) ↔ (nI kk = 0 ∨ nI kk = σ 20 5 v ∨ (nI kk = 1 ∧ σ 20 5 v = 3)) := by
      rw [show (0 : Int32) = nI 0 from rfl, show (1 : Int32) = nI 1 from rfl, nI_eq (by omega) (by omega), nI_eq (by omega) (by omega)]
      constructor
      · rintro ⟨-, q | q | q⟩
        · exact Or.inl q
        · exact Or.inr (Or.inl q.symm)
        · exact Or.inr (Or.inr q)
      · rintro (q | q | q)
        · exact ⟨hv, Or.inl q⟩
        · exact ⟨hv, Or.inr (Or.inl q.symm)⟩
        · exact ⟨hv, Or.inr (Or.inr q)⟩
    rw [hiff] at hb
    by_cases z : nI kk = 0 ∨ nI kk = σ 20 5 v ∨ (nI kk = 1 ∧ σ 20 5 v = 3)
    · rw [g1 z]
      exact (bt1_bt (by omega)).mpr (hb.mpr z)
    · rw [g2 z, bt0_bt (by omega)]
      cases hq : bt (σ 13 0 kk) v with
      | false => rfl
      | true => exact absurd (hb.mp hq) z
  refine hK _ _ _ fun K2 h2 => ?_
  refine And.intro (fun _ => And.intro (fun z9 => absurd z9 (by decide)) (fun _ => ?_)) (fun z9 => absurd ((isVi hV).mpr ⟨v, hv, rfl⟩) z9)
  refine And.intro (fun _ => And.intro (fun z9 => absurd z9 (by decide)) (fun _ => ?_)) (fun z9 => absurd ((In (m := 3) (by decide)).mpr ⟨kk, hk, rfl⟩) z9)
  refine And.intro hin ?_
  have r1 : (nI kk = 0 ∨ nI kk = σ 20 5 v ∨ (nI kk = 1 ∧ σ 20 5 v = 3)) → K2 (some (HI 1)) w σ := fun z => by
    have this : K2 (some (HI (σ 13 0 (nI kk).toNatClampNeg >>> (nI v &&& 31) &&& 1))) w σ := h2 w σ hI
    rw [hc 1 (fun _ => rfl) (fun q => absurd z q)] at this
    exact this
  have r0 : ¬ (nI kk = 0 ∨ nI kk = σ 20 5 v ∨ (nI kk = 1 ∧ σ 20 5 v = 3)) → K2 (some (HI 0)) w σ := fun z => by
    have this : K2 (some (HI (σ 13 0 (nI kk).toNatClampNeg >>> (nI v &&& 31) &&& 1))) w σ := h2 w σ hI
    rw [hc 0 (fun q => absurd q z) (fun _ => rfl)] at this
    exact this
  rw [← e1] at r1 r0
  refine And.intro (fun z => r1 (Or.inl z)) (fun z0 => ?_)
  refine And.intro (fun z => r1 (Or.inr (Or.inl z))) (fun z1 => ?_)
  refine And.intro (fun z2 => ?_) (fun z2 => r0 ?_)
  · refine And.intro (fun z => r1 (Or.inr (Or.inr ⟨z2, z⟩))) (fun z3 => r0 ?_)
    rintro (q | q | q)
    · exact z0 q
    · exact z1 q
    · exact z3 q.2
  · rintro (q | q | q)
    · exact z0 q
    · exact z1 q
    · exact z2 q.1
theorem eq_told : Eq2 Inv sp_X10_told sp_X11_told := by
  intro a b w σ Q1 hI hK
  obtain ⟨n, np, nv, hV⟩ := id hI
  have h10 := hV.2.1.1
  refine ⟨np, hV.pk, fun p hp e => ?_, fun hx => ?_⟩
  rotate_left
  · refine hK _ _ _ fun K2 h2 => ?_
    refine And.intro (fun z9 => absurd z9 (fun q => hx ((Bn (by omega)).mpr ((isPr hV).mp q)))) (fun _ => And.intro (fun _ => ?_) (fun z9 => absurd rfl z9))
    exact h2 _ _ hI
  subst e
  by_cases c : ¬ b < 0 ∧ ¬ 4 < b
  rotate_left
  · have ne : ∀ k, k < 5 → ¬ b = nI k := fun k hk e => c ((In (m := 4) (by decide)).mpr ⟨k, hk, e⟩)
    refine And.intro (fun z9 => absurd z9 (ne 0 (by decide))) (fun _ => ?_)
    refine And.intro (fun z9 => absurd z9 (ne 1 (by decide))) (fun _ => ?_)
    refine And.intro (fun z9 => absurd z9 (ne 2 (by decide))) (fun _ => ?_)
    refine And.intro (fun z9 => absurd z9 (ne 3 (by decide))) (fun _ => ?_)
    refine And.intro (fun z9 => absurd z9 (ne 4 (by decide))) (fun _ => ?_)
    refine hK _ _ _ fun K2 h2 => ?_
    refine And.intro (fun _ => And.intro (fun z9 => absurd z9 (by decide)) (fun _ => ?_)) (fun z9 => absurd ((isPr hV).mpr ⟨p, hp, rfl⟩) z9)
    refine And.intro (fun z9 => absurd z9 (c)) (fun _ => And.intro (fun _ => ?_) (fun z9 => absurd rfl z9))
    exact h2 _ _ hI
  have e1 : (nI p).toNatClampNeg = p := nI_clamp (by omega)
  have hin : vp_in (nI p) 10 := vp_in_nI (by omega) (by decide)
  obtain ⟨⟨c0, hc0, c1, c2⟩, ⟨f0, hf0, f1, f2⟩, hh, hh2, hl, -⟩ := hV.2.1.2.2.2.1 p hp
  obtain ⟨k, hk, rfl⟩ := (In (m := 4) (by decide)).mp c
  have hk5 : k = 0 ∨ k = 1 ∨ k = 2 ∨ k = 3 ∨ k = 4 := by omega
  rcases hk5 with rfl | rfl | rfl | rfl | rfl
  · refine And.intro (fun _ => ?_) (fun z9 => absurd (rfl) z9)
    refine hK _ _ _ fun K2 h2 => ?_
    refine And.intro (fun _ => And.intro (fun z9 => absurd z9 (by decide)) (fun _ => ?_)) (fun z9 => absurd ((isPr hV).mpr ⟨p, hp, rfl⟩) z9)
    refine And.intro (fun _ => And.intro (fun z9 => absurd z9 (by decide)) (fun _ => ?_)) (fun z9 => absurd (c) z9)
    refine And.intro (fun _ => ?_) (fun z9 => absurd (rfl) z9)
    refine And.intro hin ?_
    show K2 (some (HI (σ 20 0 (nI p).toNatClampNeg))) w σ
    rw [show σ 20 0 (nI p).toNatClampNeg = σ 3 p 0 from by rw [e1, c2, ← c1]]
    exact h2 _ _ hI
  · refine And.intro (fun z9 => absurd z9 (by decide)) (fun _ => ?_)
    refine And.intro (fun _ => ?_) (fun z9 => absurd (rfl) z9)
    refine hK _ _ _ fun K2 h2 => ?_
    refine And.intro (fun _ => And.intro (fun z9 => absurd z9 (by decide)) (fun _ => ?_)) (fun z9 => absurd ((isPr hV).mpr ⟨p, hp, rfl⟩) z9)
    refine And.intro (fun _ => And.intro (fun z9 => absurd z9 (by decide)) (fun _ => ?_)) (fun z9 => absurd (c) z9)
    refine And.intro (fun z9 => absurd z9 (by decide)) (fun _ => ?_)
    refine And.intro (fun _ => ?_) (fun z9 => absurd (rfl) z9)
    refine And.intro hin ?_
    show K2 (some (HI (σ 20 1 (nI p).toNatClampNeg))) w σ
    rw [show σ 20 1 (nI p).toNatClampNeg = σ 3 p 1 from by rw [e1, f2, ← f1]]
    exact h2 _ _ hI
  · refine And.intro (fun z9 => absurd z9 (by decide)) (fun _ => ?_)
    refine And.intro (fun z9 => absurd z9 (by decide)) (fun _ => ?_)
    refine And.intro (fun _ => ?_) (fun z9 => absurd (rfl) z9)
    have fin : ∀ r : Int32, r = σ 3 p 2 → Q1 (some (HI r)) w σ := fun r hr => by
      refine hK _ _ _ fun K2 h2 => ?_
      refine And.intro (fun _ => And.intro (fun z9 => absurd z9 (by decide)) (fun _ => ?_)) (fun z9 => absurd ((isPr hV).mpr ⟨p, hp, rfl⟩) z9)
      refine And.intro (fun _ => And.intro (fun z9 => absurd z9 (by decide)) (fun _ => ?_)) (fun z9 => absurd (c) z9)
      refine And.intro (fun z9 => absurd z9 (by decide)) (fun _ => ?_)
      refine And.intro (fun z9 => absurd z9 (by decide)) (fun _ => ?_)
      refine And.intro (fun _ => ?_) (fun z9 => absurd (rfl) z9)
      refine And.intro hin ?_
      show K2 (some (HI (σ 20 2 (nI p).toNatClampNeg))) w σ
      rw [e1, hh2, ← hr]
      exact h2 _ _ hI
    refine And.intro (fun z => fin 0 z.symm) (fun z => fin 1 (hh.resolve_left z).symm)
  · refine And.intro (fun z9 => absurd z9 (by decide)) (fun _ => ?_)
    refine And.intro (fun z9 => absurd z9 (by decide)) (fun _ => ?_)
    refine And.intro (fun z9 => absurd z9 (by decide)) (fun _ => ?_)
    refine And.intro (fun _ => ?_) (fun z9 => absurd (rfl) z9)
    refine hK _ _ _ fun K2 h2 => ?_
    refine And.intro (fun _ => And.intro (fun z9 => absurd z9 (by decide)) (fun _ => ?_)) (fun z9 => absurd ((isPr hV).mpr ⟨p, hp, rfl⟩) z9)
    refine And.intro (fun _ => And.intro (fun z9 => absurd z9 (by decide)) (fun _ => ?_)) (fun z9 => absurd (c) z9)
    refine And.intro (fun z9 => absurd z9 (by decide)) (fun _ => ?_)
    refine And.intro (fun z9 => absurd z9 (by decide)) (fun _ => ?_)
    refine And.intro (fun z9 => absurd z9 (by decide)) (fun _ => ?_)
    refine And.intro (fun _ => ?_) (fun z9 => absurd (rfl) z9)
    refine And.intro hin ?_
    show K2 (some (HI (σ 20 3 (nI p).toNatClampNeg))) w σ
    rw [show σ 20 3 (nI p).toNatClampNeg = σ 3 p 3 from by rw [e1, hl]]
    exact h2 _ _ hI
  · refine And.intro (fun z9 => absurd z9 (by decide)) (fun _ => ?_)
    refine And.intro (fun z9 => absurd z9 (by decide)) (fun _ => ?_)
    refine And.intro (fun z9 => absurd z9 (by decide)) (fun _ => ?_)
    refine And.intro (fun z9 => absurd z9 (by decide)) (fun _ => ?_)
    refine And.intro (fun _ => ?_) (fun z9 => absurd (rfl) z9)
    refine ⟨n, hV.bk, ?_⟩
    refine hK _ _ _ fun K2 h2 => ?_
    refine And.intro (fun _ => And.intro (fun z9 => absurd z9 (by decide)) (fun _ => ?_)) (fun z9 => absurd ((isPr hV).mpr ⟨p, hp, rfl⟩) z9)
    refine And.intro (fun _ => And.intro (fun z9 => absurd z9 (by decide)) (fun _ => ?_)) (fun z9 => absurd (c) z9)
    refine And.intro (fun z9 => absurd z9 (by decide)) (fun _ => ?_)
    refine And.intro (fun z9 => absurd z9 (by decide)) (fun _ => ?_)
    refine And.intro (fun z9 => absurd z9 (by decide)) (fun _ => ?_)
    refine And.intro (fun z9 => absurd z9 (by decide)) (fun _ => ?_)
    refine ⟨n, n, 0, nI p, _, 0, 0, ⟨hV.2.2.2.2.1.1, hV.2.2.2.2.1.2.2.1⟩, Nat.zero_le _, rfl, rfl, rfl, rfl, rfl, ?_⟩
    have ec : cnt (fun j => decide (σ 20 21 j = 0 ∧ σ 20 16 j = nI p ∧ ¬ σ 20 18 j < σ 11 0 0)) n = cnt (fun i => decide (σ 9 i 6 = 0 ∧ σ 9 i 0 = nI p ∧ ¬ σ 9 i 2 < σ 0 0 2)) n := cnt_cg fun j hj => by
      obtain ⟨⟨⟨p', d, x, y, hp', hd, hy1, hy4, hxy, g0, r0, g2, r2, -⟩, -⟩, -, hst⟩ := hV.2.2.2.2.1.2.2.2.1 j hj
      obtain ⟨td, -, t1, t2⟩ := hV.2.2.2.2.2.2.2.1
      rw [hst, g0, r0, g2, r2, t1, t2]
    rw [ec]
    exact h2 _ _ hI
theorem eq_visit : Eq2 Inv sp_X10_visit sp_X11_visit := by
  intro a b w σ Q1 hI hK
  obtain ⟨n, np, nv, hV⟩ := id hI
  have h100 := hV.2.2.2.2.1.1
  refine ⟨n, hV.bk, fun j hj e => ?_, fun hx => ?_⟩
  rotate_left
  · refine hK _ _ _ fun K2 h2 => ?_
    refine And.intro (fun z9 => absurd z9 (fun q => hx ((Bn (by omega)).mpr ((isVs hV).mp q)))) (fun _ => And.intro (fun _ => ?_) (fun z9 => absurd rfl z9))
    exact h2 _ _ hI
  subst e
  by_cases c : ¬ b < 0 ∧ ¬ 6 < b
  rotate_left
  · have ne : ∀ k, k < 7 → ¬ b = nI k := fun k hk e => c ((In (m := 6) (by decide)).mpr ⟨k, hk, e⟩)
    refine And.intro (fun z9 => absurd z9 (ne 0 (by decide))) (fun _ => ?_)
    refine And.intro (fun z9 => absurd z9 (ne 1 (by decide))) (fun _ => ?_)
    refine And.intro (fun z9 => absurd z9 (ne 2 (by decide))) (fun _ => ?_)
    refine And.intro (fun z9 => absurd z9 (ne 3 (by decide))) (fun _ => ?_)
    refine And.intro (fun z9 => absurd z9 (ne 4 (by decide))) (fun _ => ?_)
    refine And.intro (fun z9 => absurd z9 (ne 5 (by decide))) (fun _ => ?_)
    refine And.intro (fun z9 => absurd z9 (ne 6 (by decide))) (fun _ => ?_)
    refine hK _ _ _ fun K2 h2 => ?_
    refine And.intro (fun _ => And.intro (fun z9 => absurd z9 (by decide)) (fun _ => ?_)) (fun z9 => absurd ((isVs hV).mpr ⟨j, hj, rfl⟩) z9)
    refine And.intro (fun z9 => absurd z9 (c)) (fun _ => And.intro (fun _ => ?_) (fun z9 => absurd rfl z9))
    exact h2 _ _ hI
  have e1 : (nI j).toNatClampNeg = j := nI_clamp (by omega)
  have hin : vp_in (nI j) 100 := vp_in_nI (by omega) (by decide)
  obtain ⟨⟨⟨p', d, x, y, hp', hd, hy1, hy4, hxy, g0, r0, g2, r2, g3, r3, g4, r4⟩, rs, hset, h01, hlw⟩, -, hst⟩ := hV.2.2.2.2.1.2.2.2.1 j hj
  obtain ⟨k, hk, rfl⟩ := (In (m := 6) (by decide)).mp c
  have hk7 : k = 0 ∨ k = 1 ∨ k = 2 ∨ k = 3 ∨ k = 4 ∨ k = 5 ∨ k = 6 := by omega
  rcases hk7 with rfl | rfl | rfl | rfl | rfl | rfl | rfl
  · refine And.intro (fun _ => ?_) (fun z9 => absurd (rfl) z9)
    refine hK _ _ _ fun K2 h2 => ?_
    refine And.intro (fun _ => And.intro (fun z9 => absurd z9 (by decide)) (fun _ => ?_)) (fun z9 => absurd ((isVs hV).mpr ⟨j, hj, rfl⟩) z9)
    refine And.intro (fun _ => And.intro (fun z9 => absurd z9 (by decide)) (fun _ => ?_)) (fun z9 => absurd (c) z9)
    refine And.intro (fun _ => ?_) (fun z9 => absurd (rfl) z9)
    refine And.intro hin ?_
    show K2 (some (HI (σ 20 16 (nI j).toNatClampNeg))) w σ
    rw [show σ 20 16 (nI j).toNatClampNeg = σ 9 j 0 from by rw [e1, g0, r0]]
    exact h2 _ _ hI
  · refine And.intro (fun z9 => absurd z9 (by decide)) (fun _ => ?_)
    refine And.intro (fun _ => ?_) (fun z9 => absurd (rfl) z9)
    refine hK _ _ _ fun K2 h2 => ?_
    refine And.intro (fun _ => And.intro (fun z9 => absurd z9 (by decide)) (fun _ => ?_)) (fun z9 => absurd ((isVs hV).mpr ⟨j, hj, rfl⟩) z9)
    refine And.intro (fun _ => And.intro (fun z9 => absurd z9 (by decide)) (fun _ => ?_)) (fun z9 => absurd (c) z9)
    refine And.intro (fun z9 => absurd z9 (by decide)) (fun _ => ?_)
    refine And.intro (fun _ => ?_) (fun z9 => absurd (rfl) z9)
    refine And.intro hin ?_
    show K2 (some (HI (σ 20 17 (nI j).toNatClampNeg))) w σ
    rw [show σ 20 17 (nI j).toNatClampNeg = σ 9 j 1 from by rw [e1, rs]]
    exact h2 _ _ hI
  · refine And.intro (fun z9 => absurd z9 (by decide)) (fun _ => ?_)
    refine And.intro (fun z9 => absurd z9 (by decide)) (fun _ => ?_)
    refine And.intro (fun _ => ?_) (fun z9 => absurd (rfl) z9)
    refine hK _ _ _ fun K2 h2 => ?_
    refine And.intro (fun _ => And.intro (fun z9 => absurd z9 (by decide)) (fun _ => ?_)) (fun z9 => absurd ((isVs hV).mpr ⟨j, hj, rfl⟩) z9)
    refine And.intro (fun _ => And.intro (fun z9 => absurd z9 (by decide)) (fun _ => ?_)) (fun z9 => absurd (c) z9)
    refine And.intro (fun z9 => absurd z9 (by decide)) (fun _ => ?_)
    refine And.intro (fun z9 => absurd z9 (by decide)) (fun _ => ?_)
    refine And.intro (fun _ => ?_) (fun z9 => absurd (rfl) z9)
    refine And.intro hin ?_
    show K2 (some (HI (σ 20 18 (nI j).toNatClampNeg))) w σ
    rw [show σ 20 18 (nI j).toNatClampNeg = σ 9 j 2 from by rw [e1, g2, r2]]
    exact h2 _ _ hI
  · refine And.intro (fun z9 => absurd z9 (by decide)) (fun _ => ?_)
    refine And.intro (fun z9 => absurd z9 (by decide)) (fun _ => ?_)
    refine And.intro (fun z9 => absurd z9 (by decide)) (fun _ => ?_)
    refine And.intro (fun _ => ?_) (fun z9 => absurd (rfl) z9)
    refine hK _ _ _ fun K2 h2 => ?_
    refine And.intro (fun _ => And.intro (fun z9 => absurd z9 (by decide)) (fun _ => ?_)) (fun z9 => absurd ((isVs hV).mpr ⟨j, hj, rfl⟩) z9)
    refine And.intro (fun _ => And.intro (fun z9 => absurd z9 (by decide)) (fun _ => ?_)) (fun z9 => absurd (c) z9)
    refine And.intro (fun z9 => absurd z9 (by decide)) (fun _ => ?_)
    refine And.intro (fun z9 => absurd z9 (by decide)) (fun _ => ?_)
    refine And.intro (fun z9 => absurd z9 (by decide)) (fun _ => ?_)
    refine And.intro (fun _ => ?_) (fun z9 => absurd (rfl) z9)
    refine And.intro hin ?_
    show K2 (some (HI (σ 20 19 (nI j).toNatClampNeg))) w σ
    rw [show σ 20 19 (nI j).toNatClampNeg = σ 9 j 3 from by rw [e1, g3, r3]]
    exact h2 _ _ hI
  · refine And.intro (fun z9 => absurd z9 (by decide)) (fun _ => ?_)
    refine And.intro (fun z9 => absurd z9 (by decide)) (fun _ => ?_)
    refine And.intro (fun z9 => absurd z9 (by decide)) (fun _ => ?_)
    refine And.intro (fun z9 => absurd z9 (by decide)) (fun _ => ?_)
    refine And.intro (fun _ => ?_) (fun z9 => absurd (rfl) z9)
    refine hK _ _ _ fun K2 h2 => ?_
    refine And.intro (fun _ => And.intro (fun z9 => absurd z9 (by decide)) (fun _ => ?_)) (fun z9 => absurd ((isVs hV).mpr ⟨j, hj, rfl⟩) z9)
    refine And.intro (fun _ => And.intro (fun z9 => absurd z9 (by decide)) (fun _ => ?_)) (fun z9 => absurd (c) z9)
    refine And.intro (fun z9 => absurd z9 (by decide)) (fun _ => ?_)
    refine And.intro (fun z9 => absurd z9 (by decide)) (fun _ => ?_)
    refine And.intro (fun z9 => absurd z9 (by decide)) (fun _ => ?_)
    refine And.intro (fun z9 => absurd z9 (by decide)) (fun _ => ?_)
    refine And.intro (fun _ => ?_) (fun z9 => absurd (rfl) z9)
    refine And.intro hin ?_
    show K2 (some (HI (σ 20 20 (nI j).toNatClampNeg))) w σ
    rw [show σ 20 20 (nI j).toNatClampNeg = σ 9 j 4 from by rw [e1, g4, r4]]
    exact h2 _ _ hI
  · refine And.intro (fun z9 => absurd z9 (by decide)) (fun _ => ?_)
    refine And.intro (fun z9 => absurd z9 (by decide)) (fun _ => ?_)
    refine And.intro (fun z9 => absurd z9 (by decide)) (fun _ => ?_)
    refine And.intro (fun z9 => absurd z9 (by decide)) (fun _ => ?_)
    refine And.intro (fun z9 => absurd z9 (by decide)) (fun _ => ?_)
    refine And.intro (fun _ => ?_) (fun z9 => absurd (rfl) z9)
    refine hK _ _ _ fun K2 h2 => ?_
    refine And.intro (fun _ => And.intro (fun z9 => absurd z9 (by decide)) (fun _ => ?_)) (fun z9 => absurd ((isVs hV).mpr ⟨j, hj, rfl⟩) z9)
    refine And.intro (fun _ => And.intro (fun z9 => absurd z9 (by decide)) (fun _ => ?_)) (fun z9 => absurd (c) z9)
    refine And.intro (fun z9 => absurd z9 (by decide)) (fun _ => ?_)
    refine And.intro (fun z9 => absurd z9 (by decide)) (fun _ => ?_)
    refine And.intro (fun z9 => absurd z9 (by decide)) (fun _ => ?_)
    refine And.intro (fun z9 => absurd z9 (by decide)) (fun _ => ?_)
    refine And.intro (fun z9 => absurd z9 (by decide)) (fun _ => ?_)
    refine And.intro (fun _ => ?_) (fun z9 => absurd (rfl) z9)
    refine And.intro hin ?_
    show K2 (some (HI (σ 20 21 (nI j).toNatClampNeg))) w σ
    rw [show σ 20 21 (nI j).toNatClampNeg = σ 9 j 6 from by rw [e1, hst]]
    exact h2 _ _ hI
  · refine And.intro (fun z9 => absurd z9 (by decide)) (fun _ => ?_)
    refine And.intro (fun z9 => absurd z9 (by decide)) (fun _ => ?_)
    refine And.intro (fun z9 => absurd z9 (by decide)) (fun _ => ?_)
    refine And.intro (fun z9 => absurd z9 (by decide)) (fun _ => ?_)
    refine And.intro (fun z9 => absurd z9 (by decide)) (fun _ => ?_)
    refine And.intro (fun z9 => absurd z9 (by decide)) (fun _ => ?_)
    refine And.intro (fun _ => ?_) (fun z9 => absurd (rfl) z9)
    have fin : ∀ r : Int32, r = σ 9 j 5 → Q1 (some (HI r)) w σ := fun r hr => by
      refine hK _ _ _ fun K2 h2 => ?_
      refine And.intro (fun _ => And.intro (fun z9 => absurd z9 (by decide)) (fun _ => ?_)) (fun z9 => absurd ((isVs hV).mpr ⟨j, hj, rfl⟩) z9)
      refine And.intro (fun _ => And.intro (fun z9 => absurd z9 (by decide)) (fun _ => ?_)) (fun z9 => absurd (c) z9)
      refine And.intro (fun z9 => absurd z9 (by decide)) (fun _ => ?_)
      refine And.intro (fun z9 => absurd z9 (by decide)) (fun _ => ?_)
      refine And.intro (fun z9 => absurd z9 (by decide)) (fun _ => ?_)
      refine And.intro (fun z9 => absurd z9 (by decide)) (fun _ => ?_)
      refine And.intro (fun z9 => absurd z9 (by decide)) (fun _ => ?_)
      refine And.intro (fun z9 => absurd z9 (by decide)) (fun _ => ?_)
      refine And.intro hin ?_
      refine ⟨nv, ⟨hV.2.2.1.1, hV.2.2.1.2.2.1⟩, ?_⟩
      have eset : σ 20 17 (nI j).toNatClampNeg = σ 9 j 1 := by rw [e1, rs]
      rw [eset]
      refine And.intro (fun z => ?_) (fun z => ?_)
      · refine And.intro (fun y => absurd y (by decide)) (fun _ => ?_)
        have := h2 w σ hI
        rw [hr, hlw.mpr z] at this
        exact this
      · refine And.intro (fun _ => ?_) (fun y => absurd rfl y)
        have := h2 w σ hI
        rw [hr, h01.resolve_right (fun y => z (hlw.mp y))] at this
        exact this
    refine And.intro (fun z => fin 0 z.symm) (fun z => fin 1 (h01.resolve_left z).symm)
theorem eq_of : Eq2 Inv sp_X10_of sp_X11_of := by
  intro a b w σ Q1 hI hK
  obtain ⟨n, np, nv, hV⟩ := id hI
  by_cases h1 : 0 ≤ a ∧ a < 4
  rotate_left
  · refine And.intro (fun z9 => absurd z9 (h1)) (fun _ => And.intro (fun _ => ?_) (fun z9 => absurd rfl z9))
    refine hK _ _ _ fun K2 h2 => ?_
    refine And.intro (fun z9 => absurd z9 (fun q => h1 ((Bn (n := 4) (by decide)).mpr ((In (m := 3) (by decide)).mp q)))) (fun _ => And.intro (fun _ => ?_) (fun z9 => absurd rfl z9))
    exact h2 _ _ hI
  refine And.intro (fun _ => And.intro (fun z9 => absurd z9 (by decide)) (fun _ => ?_)) (fun z9 => absurd (h1) z9)
  obtain ⟨c, hc, rfl⟩ := (Bn (n := 4) (by decide)).mp h1
  have m1 : ¬ nI c < 0 ∧ ¬ 3 < nI c := (In (m := 3) (by decide)).mpr ⟨c, hc, rfl⟩
  by_cases h3 : 0 ≤ b ∧ b < 6
  rotate_left
  · refine And.intro (fun z9 => absurd z9 (h3)) (fun _ => And.intro (fun _ => ?_) (fun z9 => absurd rfl z9))
    refine hK _ _ _ fun K2 h2 => ?_
    refine And.intro (fun _ => And.intro (fun z9 => absurd z9 (by decide)) (fun _ => ?_)) (fun z9 => absurd (m1) z9)
    refine And.intro (fun z9 => absurd z9 (fun q => h3 ((Bn (n := 6) (by decide)).mpr ((In (m := 5) (by decide)).mp q)))) (fun _ => And.intro (fun _ => ?_) (fun z9 => absurd rfl z9))
    exact h2 _ _ hI
  refine And.intro (fun _ => And.intro (fun z9 => absurd z9 (by decide)) (fun _ => ?_)) (fun z9 => absurd (h3) z9)
  obtain ⟨k, hk, rfl⟩ := (Bn (n := 6) (by decide)).mp h3
  have m2 : ¬ nI k < 0 ∧ ¬ 5 < nI k := (In (m := 5) (by decide)).mpr ⟨k, hk, rfl⟩
  have e1 : (nI c).toNatClampNeg = c := nI_clamp (by omega)
  have hin : vp_in (nI c) 4 := vp_in_nI hc (by decide)
  refine And.intro hin (fun o ho => ?_)
  rw [e1] at ho
  rcases hV.2.2.2.1 c hc with ⟨q1, q2⟩ | ⟨r, q1, q2, q3, -⟩
  · obtain rfl := ho.symm.trans q1
    refine hK _ _ _ fun K2 h2 => ?_
    refine And.intro (fun _ => And.intro (fun z9 => absurd z9 (by decide)) (fun _ => ?_)) (fun z9 => absurd (m1) z9)
    refine And.intro (fun _ => And.intro (fun z9 => absurd z9 (by decide)) (fun _ => ?_)) (fun z9 => absurd (m2) z9)
    refine And.intro hin ?_
    refine And.intro (fun _ => ?_) (fun z9 => absurd ((by show σ 21 0 (nI c).toNatClampNeg = 0; rw [e1]; exact q2)) z9)
    exact h2 _ _ hI
  obtain rfl := ho.symm.trans q1
  have z1 : ¬ σ 21 0 (nI c).toNatClampNeg = 0 := by rw [e1, q2]; decide
  have hk6 : k = 0 ∨ k = 1 ∨ k = 2 ∨ k = 3 ∨ k = 4 ∨ k = 5 := by omega
  rcases hk6 with rfl | rfl | rfl | rfl | rfl | rfl
  · refine And.intro (fun _ => ?_) (fun z9 => absurd (rfl) z9)
    refine hK _ _ _ fun K2 h2 => ?_
    refine And.intro (fun _ => And.intro (fun z9 => absurd z9 (by decide)) (fun _ => ?_)) (fun z9 => absurd (m1) z9)
    refine And.intro (fun _ => And.intro (fun z9 => absurd z9 (by decide)) (fun _ => ?_)) (fun z9 => absurd (m2) z9)
    refine And.intro hin ?_
    refine And.intro (fun z9 => absurd z9 (z1)) (fun _ => ?_)
    refine And.intro (fun _ => ?_) (fun z9 => absurd (rfl) z9)
    refine And.intro hin ?_
    show K2 (some (HI (σ 20 9 (nI c).toNatClampNeg))) w σ
    rw [e1, ← show σ 4 r 0 = σ 20 9 c from q3 0 (by decide)]
    exact h2 _ _ hI
  · refine And.intro (fun z9 => absurd z9 (by decide)) (fun _ => ?_)
    refine And.intro (fun _ => ?_) (fun z9 => absurd (rfl) z9)
    refine hK _ _ _ fun K2 h2 => ?_
    refine And.intro (fun _ => And.intro (fun z9 => absurd z9 (by decide)) (fun _ => ?_)) (fun z9 => absurd (m1) z9)
    refine And.intro (fun _ => And.intro (fun z9 => absurd z9 (by decide)) (fun _ => ?_)) (fun z9 => absurd (m2) z9)
    refine And.intro hin ?_
    refine And.intro (fun z9 => absurd z9 (z1)) (fun _ => ?_)
    refine And.intro (fun z9 => absurd z9 (by decide)) (fun _ => ?_)
    refine And.intro (fun _ => ?_) (fun z9 => absurd (rfl) z9)
    refine And.intro hin ?_
    show K2 (some (HI (σ 20 10 (nI c).toNatClampNeg))) w σ
    rw [e1, ← show σ 4 r 1 = σ 20 10 c from q3 1 (by decide)]
    exact h2 _ _ hI
  · refine And.intro (fun z9 => absurd z9 (by decide)) (fun _ => ?_)
    refine And.intro (fun z9 => absurd z9 (by decide)) (fun _ => ?_)
    refine And.intro (fun _ => ?_) (fun z9 => absurd (rfl) z9)
    refine hK _ _ _ fun K2 h2 => ?_
    refine And.intro (fun _ => And.intro (fun z9 => absurd z9 (by decide)) (fun _ => ?_)) (fun z9 => absurd (m1) z9)
    refine And.intro (fun _ => And.intro (fun z9 => absurd z9 (by decide)) (fun _ => ?_)) (fun z9 => absurd (m2) z9)
    refine And.intro hin ?_
    refine And.intro (fun z9 => absurd z9 (z1)) (fun _ => ?_)
    refine And.intro (fun z9 => absurd z9 (by decide)) (fun _ => ?_)
    refine And.intro (fun z9 => absurd z9 (by decide)) (fun _ => ?_)
    refine And.intro (fun _ => ?_) (fun z9 => absurd (rfl) z9)
    refine And.intro hin ?_
    show K2 (some (HI (σ 20 11 (nI c).toNatClampNeg))) w σ
    rw [e1, ← show σ 4 r 2 = σ 20 11 c from q3 2 (by decide)]
    exact h2 _ _ hI
  · refine And.intro (fun z9 => absurd z9 (by decide)) (fun _ => ?_)
    refine And.intro (fun z9 => absurd z9 (by decide)) (fun _ => ?_)
    refine And.intro (fun z9 => absurd z9 (by decide)) (fun _ => ?_)
    refine And.intro (fun _ => ?_) (fun z9 => absurd (rfl) z9)
    refine hK _ _ _ fun K2 h2 => ?_
    refine And.intro (fun _ => And.intro (fun z9 => absurd z9 (by decide)) (fun _ => ?_)) (fun z9 => absurd (m1) z9)
    refine And.intro (fun _ => And.intro (fun z9 => absurd z9 (by decide)) (fun _ => ?_)) (fun z9 => absurd (m2) z9)
    refine And.intro hin ?_
    refine And.intro (fun z9 => absurd z9 (z1)) (fun _ => ?_)
    refine And.intro (fun z9 => absurd z9 (by decide)) (fun _ => ?_)
    refine And.intro (fun z9 => absurd z9 (by decide)) (fun _ => ?_)
    refine And.intro (fun z9 => absurd z9 (by decide)) (fun _ => ?_)
    refine And.intro (fun _ => ?_) (fun z9 => absurd (rfl) z9)
    refine And.intro hin ?_
    show K2 (some (HI (σ 20 12 (nI c).toNatClampNeg))) w σ
    rw [e1, ← show σ 4 r 3 = σ 20 12 c from q3 3 (by decide)]
    exact h2 _ _ hI
  · refine And.intro (fun z9 => absurd z9 (by decide)) (fun _ => ?_)
    refine And.intro (fun z9 => absurd z9 (by decide)) (fun _ => ?_)
    refine And.intro (fun z9 => absurd z9 (by decide)) (fun _ => ?_)
    refine And.intro (fun z9 => absurd z9 (by decide)) (fun _ => ?_)
    refine And.intro (fun _ => ?_) (fun z9 => absurd (rfl) z9)
    refine hK _ _ _ fun K2 h2 => ?_
    refine And.intro (fun _ => And.intro (fun z9 => absurd z9 (by decide)) (fun _ => ?_)) (fun z9 => absurd (m1) z9)
    refine And.intro (fun _ => And.intro (fun z9 => absurd z9 (by decide)) (fun _ => ?_)) (fun z9 => absurd (m2) z9)
    refine And.intro hin ?_
    refine And.intro (fun z9 => absurd z9 (z1)) (fun _ => ?_)
    refine And.intro (fun z9 => absurd z9 (by decide)) (fun _ => ?_)
    refine And.intro (fun z9 => absurd z9 (by decide)) (fun _ => ?_)
    refine And.intro (fun z9 => absurd z9 (by decide)) (fun _ => ?_)
    refine And.intro (fun z9 => absurd z9 (by decide)) (fun _ => ?_)
    refine And.intro (fun _ => ?_) (fun z9 => absurd (rfl) z9)
    refine And.intro hin ?_
    show K2 (some (HI (σ 20 13 (nI c).toNatClampNeg))) w σ
    rw [e1, ← show σ 4 r 4 = σ 20 13 c from q3 4 (by decide)]
    exact h2 _ _ hI
  · refine And.intro (fun z9 => absurd z9 (by decide)) (fun _ => ?_)
    refine And.intro (fun z9 => absurd z9 (by decide)) (fun _ => ?_)
    refine And.intro (fun z9 => absurd z9 (by decide)) (fun _ => ?_)
    refine And.intro (fun z9 => absurd z9 (by decide)) (fun _ => ?_)
    refine And.intro (fun z9 => absurd z9 (by decide)) (fun _ => ?_)
    refine hK _ _ _ fun K2 h2 => ?_
    refine And.intro (fun _ => And.intro (fun z9 => absurd z9 (by decide)) (fun _ => ?_)) (fun z9 => absurd (m1) z9)
    refine And.intro (fun _ => And.intro (fun z9 => absurd z9 (by decide)) (fun _ => ?_)) (fun z9 => absurd (m2) z9)
    refine And.intro hin ?_
    refine And.intro (fun z9 => absurd z9 (z1)) (fun _ => ?_)
    refine And.intro (fun z9 => absurd z9 (by decide)) (fun _ => ?_)
    refine And.intro (fun z9 => absurd z9 (by decide)) (fun _ => ?_)
    refine And.intro (fun z9 => absurd z9 (by decide)) (fun _ => ?_)
    refine And.intro (fun z9 => absurd z9 (by decide)) (fun _ => ?_)
    refine And.intro (fun z9 => absurd z9 (by decide)) (fun _ => ?_)
    refine And.intro hin ?_
    show K2 (some (HI (σ 20 14 (nI c).toNatClampNeg))) w σ
    rw [e1, ← show σ 4 r 5 = σ 20 14 c from q3 5 (by decide)]
    exact h2 _ _ hI
theorem eq_hall : Eq3 Inv sp_X10_hall sp_X11_hall := by
  intro a b c w σ Q1 hI hK
  obtain ⟨n, np, nv, hV⟩ := id hI
  by_cases h1 : 0 ≤ a ∧ a < 401
  rotate_left
  · refine And.intro (fun z9 => absurd z9 (h1)) (fun _ => And.intro (fun _ => ?_) (fun z9 => absurd rfl z9))
    refine hK _ _ _ fun K2 h2 => ?_
    refine And.intro (fun z9 => absurd z9 (fun q => h1 ((Bn (n := 401) (by decide)).mpr ((In (m := 400) (by decide)).mp q)))) (fun _ => And.intro (fun _ => ?_) (fun z9 => absurd rfl z9))
    exact h2 _ _ hI
  refine And.intro (fun _ => And.intro (fun z9 => absurd z9 (by decide)) (fun _ => ?_)) (fun z9 => absurd (h1) z9)
  obtain ⟨d, hd, rfl⟩ := (Bn (n := 401) (by decide)).mp h1
  have m1 : ¬ nI d < 0 ∧ ¬ 400 < nI d := (In (m := 400) (by decide)).mpr ⟨d, hd, rfl⟩
  by_cases h3 : 0 ≤ b ∧ b < 12
  rotate_left
  · refine And.intro (fun z9 => absurd z9 (h3)) (fun _ => And.intro (fun _ => ?_) (fun z9 => absurd rfl z9))
    refine hK _ _ _ fun K2 h2 => ?_
    refine And.intro (fun _ => And.intro (fun z9 => absurd z9 (by decide)) (fun _ => ?_)) (fun z9 => absurd (m1) z9)
    refine And.intro (fun z9 => absurd z9 (fun q => h3 ((Bn (n := 12) (by decide)).mpr ((In (m := 11) (by decide)).mp q)))) (fun _ => And.intro (fun _ => ?_) (fun z9 => absurd rfl z9))
    exact h2 _ _ hI
  refine And.intro (fun _ => And.intro (fun z9 => absurd z9 (by decide)) (fun _ => ?_)) (fun z9 => absurd (h3) z9)
  have m2 : ¬ b < 0 ∧ ¬ 11 < b := (In (m := 11) (by decide)).mpr ((Bn (n := 12) (by decide)).mp h3)
  by_cases h4 : 0 ≤ c ∧ c < 2
  rotate_left
  · refine And.intro (fun z9 => absurd z9 (h4)) (fun _ => And.intro (fun _ => ?_) (fun z9 => absurd rfl z9))
    refine hK _ _ _ fun K2 h2 => ?_
    refine And.intro (fun _ => And.intro (fun z9 => absurd z9 (by decide)) (fun _ => ?_)) (fun z9 => absurd (m1) z9)
    refine And.intro (fun _ => And.intro (fun z9 => absurd z9 (by decide)) (fun _ => ?_)) (fun z9 => absurd (m2) z9)
    refine And.intro (fun z9 => absurd z9 (fun q => h4 ((Bn (n := 2) (by decide)).mpr ((In (m := 1) (by decide)).mp q)))) (fun _ => And.intro (fun _ => ?_) (fun z9 => absurd rfl z9))
    exact h2 _ _ hI
  refine And.intro (fun _ => And.intro (fun z9 => absurd z9 (by decide)) (fun _ => ?_)) (fun z9 => absurd (h4) z9)
  have m3 : ¬ c < 0 ∧ ¬ 1 < c := (In (m := 1) (by decide)).mpr ((Bn (n := 2) (by decide)).mp h4)
  have ec : cnt (fun i => decide (atM σ i (nI d) b)) n = cnt (fun i => decide (atL σ i (nI d) b)) n := cnt_cg fun i hi => decide_eq_decide.mpr (at_eq hV.2.2.2.2.1 hi _ _).symm
  have et : tbM σ (nI d) = tbC σ (nI d) := (tb_eq hV.2.2.2.2.2.1 hV.2.2.2.2.2.2.2 (by omega)).symm
  refine ⟨n, hV.bk, ?_⟩
  have l60 := le60 hV.2.2.2.2.2.1 (s := 0) (by decide)
  by_cases h5 : c = 0
  · refine And.intro (fun _ => ?_) (fun z9 => absurd (h5) z9)
    refine hK _ _ _ fun K2 h2 => ?_
    refine And.intro (fun _ => And.intro (fun z9 => absurd z9 (by decide)) (fun _ => ?_)) (fun z9 => absurd (m1) z9)
    refine And.intro (fun _ => And.intro (fun z9 => absurd z9 (by decide)) (fun _ => ?_)) (fun z9 => absurd (m2) z9)
    refine And.intro (fun _ => And.intro (fun z9 => absurd z9 (by decide)) (fun _ => ?_)) (fun z9 => absurd (m3) z9)
    refine ⟨n, ⟨hV.2.2.2.2.1.1, hV.2.2.2.2.1.2.2.1⟩, nI_pos' (by omega), l60.2, ?_⟩
    refine And.intro (fun _ => ?_) (fun z9 => absurd (h5) z9)
    rw [ec]
    exact h2 _ _ hI
  · refine And.intro (fun z9 => absurd z9 (h5)) (fun _ => ?_)
    refine ⟨l60.1, ?_⟩
    refine hK _ _ _ fun K2 h2 => ?_
    refine And.intro (fun _ => And.intro (fun z9 => absurd z9 (by decide)) (fun _ => ?_)) (fun z9 => absurd (m1) z9)
    refine And.intro (fun _ => And.intro (fun z9 => absurd z9 (by decide)) (fun _ => ?_)) (fun z9 => absurd (m2) z9)
    refine And.intro (fun _ => And.intro (fun z9 => absurd z9 (by decide)) (fun _ => ?_)) (fun z9 => absurd (m3) z9)
    refine ⟨n, ⟨hV.2.2.2.2.1.1, hV.2.2.2.2.1.2.2.1⟩, nI_pos' (by omega), l60.2, ?_⟩
    refine And.intro (fun z9 => absurd z9 (h5)) (fun _ => ?_)
    rw [ec, et]
    have h6 : K2 (some (HI (if 0 < tbC σ (nI d) - nI (cnt (fun i => decide (atL σ i (nI d) b)) n) then tbC σ (nI d) - nI (cnt (fun i => decide (atL σ i (nI d) b)) n) else 0))) w σ := h2 _ _ hI
    refine And.intro (fun z => ?_) (fun z => ?_)
    · have z : 0 ≤ tbC σ (nI d) - nI (cnt (fun i => decide (atL σ i (nI d) b)) n) := z
      by_cases y : 0 < tbC σ (nI d) - nI (cnt (fun i => decide (atL σ i (nI d) b)) n)
      · rw [if_pos y] at h6
        exact h6
      · rw [if_neg y] at h6
        have e0 : tbC σ (nI d) - nI (cnt (fun i => decide (atL σ i (nI d) b)) n) = 0 := Int32.le_antisymm (Int32.not_lt.mp y) z
        show K2 (some (HI (tbC σ (nI d) - nI (cnt (fun i => decide (atL σ i (nI d) b)) n)))) w σ
        rw [e0]
        exact h6
    · have z : ¬ 0 ≤ tbC σ (nI d) - nI (cnt (fun i => decide (atL σ i (nI d) b)) n) := z
      rw [if_neg (fun y => z (Int32.le_of_lt y))] at h6
      exact h6
