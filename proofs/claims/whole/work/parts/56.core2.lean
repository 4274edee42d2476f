/-! one visit looked at, 2; all that wait -/
section Core2
variable {w : HW} {σ : HS} {n np nv : Nat}
theorem oEq_none {a b : Option (Nat → Int32)} (h : oEq n a b) : a = none ↔ b = none := by
  cases a with
  | none => cases b with
    | none => exact Iff.rfl
    | some y => exact h.elim
  | some x => cases b with
    | none => exact h.elim
    | some y => exact ⟨(fun q => nomatch q), (fun q => nomatch q)⟩
theorem rr_eq (hP : IvP σ np) (hV : IvV σ nv) (hR : IvR w σ) (hB : IvB σ n np nv) {v p d a b c : Nat} {s : Int32} (hv : VQ σ np nv v p d a b s) (hc : c < 4) (c1 : σ 3 p 0 = nI c) : rrC w σ n nv v = cif (r5M σ c (nI d) (nI b)) 5 (cif (tooM2 σ nv p (σ 20 10 c).toNatClampNeg n c d s) 6 0) := by
  obtain ⟨hp, hd, hab, v0, v1, v2, v3, v4, hset, -⟩ := id hv
  have h10 := hP.1
  have h14 := hV.1
  unfold rrC
  rw [v0, nI_clamp (by omega), c1, nI_clamp (by omega)]
  rcases hR c hc with ⟨q1, q2⟩ | ⟨r, q1, q2, q3, m, hm1, hm2, hm3⟩
  · rw [q1]
    exact (cif_p (Or.inl q2)).symm
  · rw [q1]
    have g0 : σ 4 r 0 = σ 20 9 c := q3 0 (by decide)
    have g1 : σ 4 r 1 = σ 20 10 c := q3 1 (by decide)
    have g2 : σ 4 r 2 = σ 20 11 c := q3 2 (by decide)
    have g3 : σ 4 r 3 = σ 20 12 c := q3 3 (by decide)
    have g4 : σ 4 r 4 = σ 20 13 c := q3 4 (by decide)
    have g5 : σ 4 r 5 = σ 20 14 c := q3 5 (by decide)
    show cif (¬ alw σ r v) 5 (cif (tooC σ v r n nv) 6 0) = _
    refine cif_cg ?_ rfl (cif_cg ?_ rfl rfl)
    · unfold alw r5M
      rw [v2, v4, g4, g5, q2, ← x1_n]
      constructor
      · intro h
        by_cases z : σ 20 14 c >>> ((nI d - nI d / 7 * 7) &&& 31) &&& 1 = 1
        · exact Or.inr (Or.inr z)
        · exact Or.inr (Or.inl (Classical.not_not.mp fun y => h ⟨z, y⟩))
      · rintro (h | h | h) ⟨z1, z2⟩
        · exact absurd h (by decide)
        · exact z2 h
        · exact z1 h
    · unfold tooC tooM2
      have eg : gvC σ v r nv = gvM σ nv c s := by
        unfold gvC gvM
        rw [g0, g3]
        refine cif_cg ?_ rfl rfl
        unfold farC farM
        rw [g2, v1]
        constructor
        · rintro ⟨h1, u, hu, h2, h3⟩
          exact ⟨u, hu, h2, h1, by rw [← (hV.2.2.2.1 u hu).2]; exact h3⟩
        · rintro ⟨u, hu, h2, h1, h3⟩
          exact ⟨h1, u, hu, h2, by rw [(hV.2.2.2.1 u hu).2]; exact h3⟩
      rw [eg, ← g1, hm3, nI_clamp (by omega)]
      have ew : ∀ k, k < m → nI (winC σ v m n k) + 1 = nI (1 + wnM σ nv p m n (nI d - nI m + 1 + nI k)) := fun k hk => by
        rw [win_eq hB v0 v2 hd hp h10 hm2 hk, nI_1, Nat.add_comm]
      constructor
      · rintro ⟨k, hk, h⟩
        exact ⟨k, hk, by rw [← ew k hk]; exact h⟩
      · rintro ⟨k, hk, h⟩
        exact ⟨k, hk, by rw [ew k hk]; exact h⟩
theorem rs_eq (hC : Core w σ n np nv) {v p d a b : Nat} {s : Int32} (hv : VQ σ np nv v p d a b s) : rsC w σ n nv v = rfM σ n nv p d a b s := by
  obtain ⟨hP, hV, hR, hB, hS, hM⟩ := hC
  obtain ⟨hp, hd, hab, v0, v1, v2, v3, v4, hset, h01, hlw⟩ := id hv
  have h10 := hP.1
  obtain ⟨⟨c, hc, c1, c2⟩, -, hhere, here2, hlist, hord⟩ := hP.2.2.2.1 p hp
  have erp : rpC σ v p = cif (σ 20 2 p = 0) 1 (cif (ulM σ nv p s) 2 (cif (baM σ nv p s (nI d)) 3 (cif (caM σ nv s) 4 0))) := by
    unfold rpC
    rw [v1]
    refine cif_cg (by rw [here2]) rfl (cif_cg (li_eq hV hset hlist) rfl (cif_cg ?_ rfl (cif_cg (nk_eq hV hset) rfl rfl)))
    unfold baC
    rw [v1, v2]
    exact ba_eq hV hset hord hd
  have ec : (σ 20 0 p).toNatClampNeg = c := by rw [c2, nI_clamp (by omega)]
  have hl2 := hv.lw
  have hrm := oEq_none (rm_eq hB hS hM hv)
  unfold rsC
  rw [v0, nI_clamp (by omega), erp, rr_eq hP hV hR hB hv hc c1, rh_eq hP hB hS hM hv]
  unfold rfM rfP reM
  rw [ec]
  by_cases h1 : σ 20 2 p = 0
  · simp only [cif_p h1]
    rw [cif_p (show ¬ (1 : Int32) = 0 by decide), cif_n (fun q => absurd q.1 (by decide))]
  simp only [cif_n h1]
  by_cases h2 : ulM σ nv p s
  · simp only [cif_p h2]
    rw [cif_p (show ¬ (2 : Int32) = 0 by decide), cif_n (fun q => absurd q.1 (by decide))]
  simp only [cif_n h2]
  by_cases h3 : baM σ nv p s (nI d)
  · simp only [cif_p h3]
    rw [cif_p (show ¬ (3 : Int32) = 0 by decide), cif_n (fun q => absurd q.1 (by decide))]
  simp only [cif_n h3]
  by_cases h4 : caM σ nv s
  · simp only [cif_p h4]
    rw [cif_p (show ¬ (4 : Int32) = 0 by decide), cif_n (fun q => absurd q.1 (by decide))]
  simp only [cif_n h4]
  rw [cif_n (show ¬ ¬ True from fun q => q trivial)]
  by_cases hl : lwM σ nv s
  · have z : ¬ σ 9 v 5 = 0 := fun q => hl2.mp q hl
    rw [cif_n (fun q => z q.1), cif_n (c := ¬ lwM σ nv s ∧ r5M σ c (nI d) (nI b)) (fun q => q.1 hl), cif_n (c := ¬ lwM σ nv s ∧ tooM2 σ nv p (σ 20 10 c).toNatClampNeg n c d s) (fun q => q.1 hl)]
    refine cif_cg ?_ rfl rfl
    constructor
    · rintro ⟨q1, -, q3⟩
      exact ⟨q1, hl, fun y => q3 (hrm.mpr y)⟩
    · rintro ⟨q1, -, q3⟩
      exact ⟨q1, z, fun y => q3 (hrm.mp y)⟩
  · have z : σ 9 v 5 = 0 := hl2.mpr hl
    by_cases h5 : r5M σ c (nI d) (nI b)
    · simp only [cif_p h5]
      rw [cif_p (show σ 9 v 5 = 0 ∧ ¬ (5 : Int32) = 0 from ⟨z, by decide⟩), cif_p (c := ¬ lwM σ nv s ∧ r5M σ c (nI d) (nI b)) ⟨hl, h5⟩, cif_n (fun q => absurd q.1 (by decide))]
    simp only [cif_n h5]
    rw [cif_n (c := ¬ lwM σ nv s ∧ r5M σ c (nI d) (nI b)) (fun q => h5 q.2)]
    by_cases h6 : tooM2 σ nv p (σ 20 10 c).toNatClampNeg n c d s
    · simp only [cif_p h6]
      rw [cif_p (show σ 9 v 5 = 0 ∧ ¬ (6 : Int32) = 0 from ⟨z, by decide⟩), cif_p (c := ¬ lwM σ nv s ∧ tooM2 σ nv p (σ 20 10 c).toNatClampNeg n c d s) ⟨hl, h6⟩, cif_n (fun q => absurd q.1 (by decide))]
    simp only [cif_n h6]
    rw [cif_n (c := ¬ lwM σ nv s ∧ tooM2 σ nv p (σ 20 10 c).toNatClampNeg n c d s) (fun q => h6 q.2), cif_n (show ¬ (σ 9 v 5 = 0 ∧ ¬ True) from fun q => q.2 trivial), cif_n (fun q => q.2.1 z), cif_n (fun q => hl q.2.1)]
theorem VR.q {i : Nat} (h : VR σ np nv i i) : ∃ p d a b, VQ σ np nv i p d a b (σ 9 i 1) ∧ 1 ≤ b ∧ b ≤ 4 ∧ σ 20 16 i = nI p ∧ σ 20 17 i = σ 9 i 1 ∧ σ 20 18 i = nI d ∧ σ 20 19 i = nI a ∧ σ 20 20 i = nI b := by
  obtain ⟨⟨p, d, a, b, hp, hd, hb1, hb4, hab, c0, r0, c2, r2, c3, r3, c4, r4⟩, rs, hset, h01, hlw⟩ := h
  exact ⟨p, d, a, b, ⟨hp, hd, hab, c0, rfl, c2, c3, c4, hset, h01, hlw⟩, hb1, hb4, r0, rs, r2, r3, r4⟩
theorem core_st (hC : Core w σ n np nv) {S S' : Nat → Int32} (hS : ∀ i, i < n → S i = S' i) (h012 : ∀ i, i < n → S i = 0 ∨ S i = 1 ∨ S i = 2) : Core w (stS (msS σ S' n) S n) n np nv := by
  obtain ⟨hP, hV, hR, hB, hSh, hM⟩ := hC
  have hR' : IvR w (stS (msS σ S' n) S n) := fun c hc => by
    rcases hR c hc with h | ⟨r, q1, q2, q3, q4⟩
    · exact Or.inl h
    · refine Or.inr ⟨r, q1, q2, fun f hf => ?_, q4⟩
      show σ 4 r f = msS σ S' n 20 (9 + f) c
      rw [msS_o (by omega)]
      exact q3 f hf
  refine ⟨hP, hV, hR', ⟨hB.1, hB.2.1, hB.2.2.1, fun j hj => ⟨(hB.2.2.2.1 j hj).1, ?_, ?_⟩, hB.2.2.2.2⟩, hSh, hM⟩
  · have e : stS (msS σ S' n) S n 9 j 6 = S j := if_pos ⟨rfl, rfl, hj⟩
    rw [e]
    exact h012 j hj
  · have e : stS (msS σ S' n) S n 9 j 6 = S j := if_pos ⟨rfl, rfl, hj⟩
    have e2 : stS (msS σ S' n) S n 20 21 j = S' j := by
      show msS σ S' n 20 21 j = S' j
      exact if_pos ⟨rfl, rfl, hj⟩
    rw [e, e2, hS j hj]
end Core2
