/-! calls, 4: those that let who wait -/
theorem mix_of {σc σu σs : HS} (h1 : ∀ k i f, k ≠ 11 → k ≠ 20 → k ≠ 21 → σs k i f = σc k i f) (h2 : ∀ k i f, k = 11 ∨ k = 20 ∨ k = 21 → σu k i f = σs k i f) : mix σc σu = σs := by
  funext k i f
  unfold mix
  split
  · exact h2 11 i f (Or.inl rfl)
  · exact h2 20 i f (Or.inr (Or.inl rfl))
  · exact h2 21 i f (Or.inr (Or.inr rfl))
  · rename_i a b c
    exact (h1 k i f a b c).symm
theorem pack {w : HW} {σc σs : HS} {n np nv : Nat} (hs : Ivs w σs n np nv) (hc : ∀ k i f, k ≠ 11 → k ≠ 20 → k ≠ 21 → σs k i f = σc k i f) : CW w σc n np nv ∧ (∀ i, i < n → σc 9 i 7 = 0) ∧ ∀ σ1 σu, eqT (stS σc (wlC w σc n nv n).1 n) σ1 → (∀ k i f, k ≠ 11 → k ≠ 20 → k ≠ 21 → σu k i f = σ1 k i f) → (∀ k i f, k = 11 ∨ k = 20 ∨ k = 21 → σu k i f = σs k i f) → MWf σu n np nv ∧ VWm σu n np ∧ ∀ σ2, eqB (msS σu (wlM σu n nv n).1 n) σ2 → Ivs w σ2 n np nv ∧ (wlC w σc n nv n).2 = (wlM σu n nv n).2 := by
  have e0 : mix σc σs = σs := mix_of hc (fun _ _ _ _ => rfl)
  have h0 : Ivs w (mix σc σs) n np nv := by rw [e0]; exact hs
  refine ⟨h0.cw, h0.lv, fun σ1 σu h1 h2 h3 => ?_⟩
  have e1 : mix σc σu = σs := mix_of hc h3
  have hI : Ivs w (mix σc σu) n np nv := by rw [e1]; exact hs
  exact ⟨hI.mw.1, hI.mw.2, fun σ2 h4 => walk_both hI h1 h2 h4⟩
theorem eqT_r {σc σ1 : HS} {S : Nat → Int32} {n k i f : Nat} (h : eqT (stS σc S n) σ1) (hk : k = 11 ∨ k = 20 ∨ k = 21) : σ1 k i f = σc k i f := by
  rw [h k i f (by omega)]
  exact if_neg (by omega)
section Sets
variable {w : HW} {σ : HS} {n np nv : Nat}
theorem IvP.ord {p v : Nat} {x y : Int32} (h : IvP σ np) (hp : p < np) (hv : v < 14) (hxy : ordR x y) : IvP (up3 (up3 σ 13 (p + 4) v x) 20 4 (14 * p + v) y) np := by
  obtain ⟨h1, h2, h3, h4, h5⟩ := h
  have es : ∀ k i f, ¬ (k = 13 ∧ i = p + 4 ∧ f = v) → ¬ (k = 20 ∧ i = 4 ∧ f = 14 * p + v) → up3 (up3 σ 13 (p + 4) v x) 20 4 (14 * p + v) y k i f = σ k i f := fun k i f g1 g2 => by rw [up3_o (by omega), up3_o (by omega)]
  refine ⟨h1, by rw [es _ _ _ (by omega) (by omega)]; exact h2, by rw [es _ _ _ (by omega) (by omega)]; exact h3, fun p' hp' => ?_, fun p' hp' hp2 => ?_⟩
  · have q := h4 p' hp'
    rw [es 3 p' 0 (by omega) (by omega), es 3 p' 1 (by omega) (by omega), es 3 p' 2 (by omega) (by omega), es 3 p' 3 (by omega) (by omega), es 20 0 p' (by omega) (by omega), es 20 1 p' (by omega) (by omega), es 20 2 p' (by omega) (by omega), es 20 3 p' (by omega) (by omega)]
    refine ⟨q.1, q.2.1, q.2.2.1, q.2.2.2.1, q.2.2.2.2.1, fun v' hv' => ?_⟩
    by_cases c : p' = p ∧ v' = v
    · obtain ⟨rfl, rfl⟩ := c
      rw [up3_v, up3_o (by omega), up3_v]
      exact hxy
    · rw [es _ _ _ (by omega) (by omega), es _ _ _ (by omega) (by omega)]
      exact q.2.2.2.2.2 v' hv'
  · have q := h5 p' hp' hp2
    exact ⟨by rw [es _ _ _ (by omega) (by omega)]; exact q.1, fun v' hv' => by rw [es _ _ _ (by omega) (by omega)]; exact q.2 v' hv'⟩
theorem ord_inv (hV : Ivs w σ n np nv) {p v : Nat} {x y : Int32} (hp : p < np) (hv : v < 14) (hxy : ordR x y) : Ivs w (up3 (up3 σ 13 (p + 4) v x) 20 4 (14 * p + v) y) n np nv := by
  obtain ⟨hW, hP, hVv, hR, hB, hS, hT, hM⟩ := hV
  have es : ∀ k i f, ¬ (k = 13 ∧ i = p + 4 ∧ f = v) → ¬ (k = 20 ∧ i = 4 ∧ f = 14 * p + v) → up3 (up3 σ 13 (p + 4) v x) 20 4 (14 * p + v) y k i f = σ k i f := fun k i f g1 g2 => by rw [up3_o (by omega), up3_o (by omega)]
  exact ⟨hW, hP.ord hp hv hxy, hVv.cd fun k i f hr => es k i f (by unfold rdVi at hr; omega) (by unfold rdVi at hr; omega), hR.cd fun k i f hr => es k i f (by unfold rdRi at hr; omega) (by unfold rdRi at hr; omega), hB.cd fun k i f hr => es k i f (by unfold rdBk at hr; omega) (by unfold rdBk at hr; omega), hS.cd fun k i f hr => es k i f (by unfold rdSh at hr; omega) (by unfold rdSh at hr; omega), hT.cd fun k i f hr => es k i f (by unfold rdTa at hr; omega) (by unfold rdTa at hr; omega), hM.cd fun k i f hr => es k i f (by unfold rdMi at hr; omega) (by unfold rdMi at hr; omega)⟩
end Sets
theorem ix14 {p v : Nat} (hp : p < 10) (hv : v < 14) : (14 * nI p + nI v).toNatClampNeg = 14 * p + v ∧ vp_in (14 * nI p + nI v) 140 := by
  have e : 14 * nI p + nI v = nI (14 * p + v) := by rw [show (14 : Int32) = nI 14 from rfl, pk_mul, nI_add]
  rw [e, nI_clamp (by omega)]
  exact ⟨rfl, vp_in_nI (by omega) (by decide)⟩
theorem inv14 {v : Nat} (hv : v < 14) : 0 ≤ nI v ∧ nI v < 14 := ⟨nI_pos' (by omega), nI_lt (b := 14) hv (by decide)⟩
theorem eq_lift : Eq2 Inv sp_X10_lift sp_X11_lift := by
  intro a b w σ Q1 hI hK
  obtain ⟨n, np, nv, hV⟩ := id hI
  have h10 := hV.2.1.1
  have h14 := hV.2.2.1.1
  refine ⟨np, hV.pk, fun p hp e => ?_, fun hx => ?_⟩
  rotate_left
  · refine hK _ _ _ fun K2 h2 => ?_
    refine And.intro (fun z9 => absurd z9 (fun q => hx ((Bn (by omega)).mpr ((isPr hV).mp q)))) (fun _ => And.intro (fun _ => ?_) (fun z9 => absurd rfl z9))
    exact h2 _ _ hI
  subst e
  by_cases h3 : 0 ≤ b ∧ b < σ 2 0 4
  rotate_left
  · refine And.intro (fun z9 => absurd z9 (h3)) (fun _ => And.intro (fun _ => ?_) (fun z9 => absurd rfl z9))
    refine hK _ _ _ fun K2 h2 => ?_
    refine And.intro (fun _ => And.intro (fun z9 => absurd z9 (by decide)) (fun _ => ?_)) (fun z9 => absurd ((isPr hV).mpr ⟨p, hp, rfl⟩) z9)
    refine And.intro (fun z9 => absurd z9 (fun q => h3 ((isVc hV).mpr ((isVi hV).mp q)))) (fun _ => And.intro (fun _ => ?_) (fun z9 => absurd rfl z9))
    exact h2 _ _ hI
  refine And.intro (fun _ => And.intro (fun z9 => absurd z9 (by decide)) (fun _ => ?_)) (fun z9 => absurd (h3) z9)
  obtain ⟨v, hv, rfl⟩ := (isVc hV).mp h3
  obtain ⟨e14, i14⟩ := ix14 (p := p) (v := v) (by omega) (by omega)
  have ev : (nI v).toNatClampNeg = v := nI_clamp (by omega)
  refine And.intro (fun _ => ?_) (fun z9 => absurd (inv14 (v := v) (by omega)) z9)
  rw [ev]
  rcases (hV.2.1.2.2.2.1 p hp).2.2.2.2.2 v (by omega) with ⟨o1, o2⟩ | ⟨d, hd, o1, o2⟩
  · refine And.intro (fun _ => ?_) (fun z9 => absurd (o1) z9)
    refine hK _ _ _ fun K2 h2 => ?_
    refine And.intro (fun _ => And.intro (fun z9 => absurd z9 (by decide)) (fun _ => ?_)) (fun z9 => absurd ((isPr hV).mpr ⟨p, hp, rfl⟩) z9)
    refine And.intro (fun _ => And.intro (fun z9 => absurd z9 (by decide)) (fun _ => ?_)) (fun z9 => absurd ((isVi hV).mpr ⟨v, hv, rfl⟩) z9)
    refine And.intro i14 ?_
    have z1 : ¬ 0 ≤ σ 20 4 (14 * nI p + nI v).toNatClampNeg := by rw [e14, o2]; decide
    refine And.intro (fun z9 => absurd z9 (z1)) (fun _ => ?_)
    exact h2 _ _ hI
  · have z0 : ¬ σ 13 (p + 4) v = 401 := by rw [o1]; exact fun q => by have := (nI_eq (b := 401) (by omega) (by decide)).mp q; omega
    refine And.intro (fun z9 => absurd z9 (z0)) (fun _ => ?_)
    refine And.intro (fun _ => ?_) (fun z9 => absurd (inv14 (v := v) (by omega)) z9)
    rw [ev]
    have hs := ord_inv hV hp (show v < 14 by omega) (Or.inl ⟨rfl, rfl⟩ : ordR 401 (-1))
    obtain ⟨hcw, hlv, hgo⟩ := pack (σc := up3 σ 13 (p + 4) v 401) hs (fun k i f g1 g2 g3 => up3_o (by omega))
    refine ⟨n, np, nv, hcw, hlv, fun σ1 hT => ?_⟩
    have er : ∀ k i f, k = 11 ∨ k = 20 ∨ k = 21 → σ1 k i f = σ k i f := fun k i f hk => by rw [eqT_r hT hk, up3_o (by omega)]
    refine hK _ _ _ fun K2 h2 => ?_
    have p1 : ¬ nI p < 0 ∧ ¬ σ1 11 0 1 - 1 < nI p := by rw [er _ _ _ (by omega)]; exact (isPr hV).mpr ⟨p, hp, rfl⟩
    refine And.intro (fun _ => And.intro (fun z9 => absurd z9 (by decide)) (fun _ => ?_)) (fun z9 => absurd (p1) z9)
    have p2 : ¬ nI v < 0 ∧ ¬ σ1 11 0 7 - 1 < nI v := by rw [er _ _ _ (by omega)]; exact (isVi hV).mpr ⟨v, hv, rfl⟩
    refine And.intro (fun _ => And.intro (fun z9 => absurd z9 (by decide)) (fun _ => ?_)) (fun z9 => absurd (p2) z9)
    refine And.intro i14 ?_
    have e20 : σ1 20 4 (14 * nI p + nI v).toNatClampNeg = nI d := by rw [e14, er _ _ _ (by omega), o2]
    have z1 : 0 ≤ σ1 20 4 (14 * nI p + nI v).toNatClampNeg := by rw [e20]; exact nI_pos' (by omega)
    refine And.intro (fun _ => ?_) (fun z9 => absurd (z1) z9)
    refine And.intro i14 ?_
    obtain ⟨hm, hvm, hgo2⟩ := hgo σ1 (up3 σ1 20 4 (14 * nI p + nI v).toNatClampNeg (-1)) hT (fun k i f g1 g2 g3 => up3_o (by omega)) (fun k i f hk => by
      rw [e14]
      by_cases c : k = 20 ∧ i = 4 ∧ f = 14 * p + v
      · obtain ⟨rfl, rfl, rfl⟩ := c
        rw [up3_v, up3_v]
      · rw [up3_o c, up3_o c, up3_o (by omega)]
        exact er k i f hk)
    refine ⟨n, np, nv, hm, hvm, fun σ2 h9 => ?_⟩
    show K2 (some (HI (σ1 20 4 (14 * nI p + nI v).toNatClampNeg))) w σ2
    rw [e20, ← o1]
    exact h2 _ _ ⟨n, np, nv, (hgo2 σ2 h9).1⟩
section Sets2
variable {w : HW} {σ : HS} {n np nv : Nat}
theorem eq_cd {σ σ' : HS} (hV : Ivs w σ n np nv) (hP : IvP σ' np) (hB : IvB σ' n np nv) (hM : IvM σ') (h : ∀ k i f, rdVi k i f ∨ rdRi k i f ∨ rdSh k i f ∨ rdTa k i f → σ' k i f = σ k i f) : Ivs w σ' n np nv :=
  ⟨hV.1, hP, hV.2.2.1.cd fun k i f hr => h k i f (Or.inl hr), hV.2.2.2.1.cd fun k i f hr => h k i f (Or.inr (Or.inl hr)), hB, hV.2.2.2.2.2.1.cd fun k i f hr => h k i f (Or.inr (Or.inr (Or.inl hr))), hV.2.2.2.2.2.2.1.cd fun k i f hr => h k i f (Or.inr (Or.inr (Or.inr hr))), hM⟩
/-- a new state of one visit -/
theorem st_inv (hV : Ivs w σ n np nv) {j : Nat} {x : Int32} (hx : x = 0 ∨ x = 1 ∨ x = 2) : Ivs w (up3 (up3 σ 9 j 6 x) 20 21 j x) n np nv := by
  have es : ∀ k i f, ¬ (k = 9 ∧ i = j ∧ f = 6) → ¬ (k = 20 ∧ i = 21 ∧ f = j) → up3 (up3 σ 9 j 6 x) 20 21 j x k i f = σ k i f := fun k i f g1 g2 => by rw [up3_o (by omega), up3_o (by omega)]
  refine eq_cd hV (hV.2.1.cd fun k i f hr => es k i f (by unfold rdPr at hr; omega) (by unfold rdPr at hr; omega)) ?_ (hV.2.2.2.2.2.2.2.cd fun k i f hr => es k i f (by unfold rdMi at hr; omega) (by unfold rdMi at hr; omega)) (fun k i f hr => es k i f (by unfold rdVi rdRi rdSh rdTa at hr; omega) (by unfold rdVi rdRi rdSh rdTa at hr; omega))
  obtain ⟨h1, h2, h3, h4, h5, h6⟩ := hV.2.2.2.2.1
  refine ⟨h1, by rw [es _ _ _ (by omega) (by omega)]; exact h2, by rw [es _ _ _ (by omega) (by omega)]; exact h3, fun i hi => ?_, fun i hi => by rw [es _ _ _ (by omega) (by omega)]; exact h5 i hi, fun i hi => by rw [es _ _ _ (by omega) (by omega)]; exact h6 i hi⟩
  obtain ⟨q1, q2, q3⟩ := h4 i hi
  refine ⟨?_, ?_⟩
  · have e9 : ∀ f, f ≠ 6 → up3 (up3 σ 9 j 6 x) 20 21 j x 9 i f = σ 9 i f := fun f hf => es _ _ _ (by omega) (by omega)
    have e20 : ∀ r, r ≠ 21 → up3 (up3 σ 9 j 6 x) 20 21 j x 20 r i = σ 20 r i := fun r hr => es _ _ _ (by omega) (by omega)
    have el : lwM (up3 (up3 σ 9 j 6 x) 20 21 j x) nv (σ 9 i 1) ↔ lwM σ nv (σ 9 i 1) := Iff.rfl
    unfold VR
    rw [e9 0 (by omega), e9 1 (by omega), e9 2 (by omega), e9 3 (by omega), e9 4 (by omega), e9 5 (by omega), e20 16 (by omega), e20 17 (by omega), e20 18 (by omega), e20 19 (by omega), e20 20 (by omega), el]
    exact q1
  · by_cases c : i = j
    · subst c
      have e1 : up3 (up3 σ 9 i 6 x) 20 21 i x 9 i 6 = x := by rw [up3_o (by omega)]; exact up3_v
      have e2 : up3 (up3 σ 9 i 6 x) 20 21 i x 20 21 i = x := up3_v
      rw [e1, e2]
      exact ⟨hx, rfl⟩
    · rw [es _ _ _ (by omega) (by omega), es _ _ _ (by omega) (by omega)]
      exact ⟨q2, q3⟩
end Sets2
theorem eq_giveBack : Eq1 Inv sp_X10_giveBack sp_X11_giveBack := by
  intro a w σ Q1 hI hK
  obtain ⟨n, np, nv, hV⟩ := id hI
  have h100 := hV.2.2.2.2.1.1
  refine ⟨n, hV.bk, fun j hj e => ?_, fun hx => ?_⟩
  rotate_left
  · refine hK _ _ _ fun K2 h2 => ?_
    refine And.intro (fun z9 => absurd z9 (fun q => hx ((Bn (by omega)).mpr ((isVs hV).mp q)))) (fun _ => And.intro (fun _ => ?_) (fun z9 => absurd rfl z9))
    exact h2 _ _ hI
  subst e
  have e1 : (nI j).toNatClampNeg = j := nI_clamp (by omega)
  have hin : vp_in (nI j) 100 := vp_in_nI (by omega) (by decide)
  obtain ⟨⟨⟨p', d, x, y, hp', hd, hy1, hy4, hxy, g0, r0, g2, r2, g3, r3, g4, r4⟩, rs, hset, h01, hlw⟩, -, hst⟩ := hV.2.2.2.2.1.2.2.2.1 j hj
  obtain ⟨td, -, t1, t2⟩ := hV.2.2.2.2.2.2.2.1
  by_cases h3 : σ 9 j 6 = 2
  · refine And.intro (fun _ => ?_) (fun z9 => absurd (h3) z9)
    refine hK _ _ _ fun K2 h2 => ?_
    refine And.intro (fun _ => And.intro (fun z9 => absurd z9 (by decide)) (fun _ => ?_)) (fun z9 => absurd ((isVs hV).mpr ⟨j, hj, rfl⟩) z9)
    refine And.intro hin ?_
    have z : σ 20 21 (nI j).toNatClampNeg = 2 := by rw [e1, hst]; exact h3
    refine And.intro (fun _ => ?_) (fun z9 => absurd (z) z9)
    exact h2 _ _ hI
  refine And.intro (fun z9 => absurd z9 (h3)) (fun _ => ?_)
  have z0 : ¬ σ 20 21 (nI j).toNatClampNeg = 2 := by rw [e1, hst]; exact h3
  by_cases h4 : σ 0 0 2 ≤ σ 9 j 2
  rotate_left
  · refine And.intro (fun z9 => absurd z9 (h4)) (fun _ => ?_)
    refine hK _ _ _ fun K2 h2 => ?_
    refine And.intro (fun _ => And.intro (fun z9 => absurd z9 (by decide)) (fun _ => ?_)) (fun z9 => absurd ((isVs hV).mpr ⟨j, hj, rfl⟩) z9)
    refine And.intro hin ?_
    refine And.intro (fun z9 => absurd z9 (z0)) (fun _ => ?_)
    refine And.intro hin ?_
    have z1 : ¬ σ 11 0 0 ≤ σ 20 18 (nI j).toNatClampNeg := by rw [e1, r2, t2, ← g2, ← t1]; exact h4
    refine And.intro (fun z9 => absurd z9 (z1)) (fun _ => ?_)
    exact h2 _ _ hI
  refine And.intro (fun _ => ?_) (fun z9 => absurd (h4) z9)
  have hs := st_inv hV (j := j) (x := 2) (Or.inr (Or.inr rfl))
  obtain ⟨hcw, hlv, hgo⟩ := pack (σc := up3 σ 9 j 6 2) hs (fun k i f g1 g2 g3 => up3_o (by omega))
  refine ⟨n, np, nv, hcw, hlv, fun σ1 hT => ?_⟩
  have er : ∀ k i f, k = 11 ∨ k = 20 ∨ k = 21 → σ1 k i f = σ k i f := fun k i f hk => by rw [eqT_r hT hk, up3_o (by omega)]
  refine hK _ _ _ fun K2 h2 => ?_
  have p1 : ¬ nI j < 0 ∧ ¬ σ1 11 0 21 - 1 < nI j := by rw [er _ _ _ (by omega)]; exact (isVs hV).mpr ⟨j, hj, rfl⟩
  refine And.intro (fun _ => And.intro (fun z9 => absurd z9 (by decide)) (fun _ => ?_)) (fun z9 => absurd (p1) z9)
  refine And.intro hin ?_
  have p2 : ¬ σ1 20 21 (nI j).toNatClampNeg = 2 := by rw [er _ _ _ (by omega)]; exact z0
  refine And.intro (fun z9 => absurd z9 (p2)) (fun _ => ?_)
  refine And.intro hin ?_
  have p3 : σ1 11 0 0 ≤ σ1 20 18 (nI j).toNatClampNeg := by rw [er _ _ _ (by omega), er _ _ _ (by omega), e1, r2, t2, ← g2, ← t1]; exact h4
  refine And.intro (fun _ => ?_) (fun z9 => absurd (p3) z9)
  refine And.intro hin ?_
  obtain ⟨hm, hvm, hgo2⟩ := hgo σ1 (up3 σ1 20 21 (nI j).toNatClampNeg 2) hT (fun k i f g1 g2 g3 => up3_o (by omega)) (fun k i f hk => by
    rw [e1]
    by_cases c : k = 20 ∧ i = 21 ∧ f = j
    · obtain ⟨rfl, rfl, rfl⟩ := c
      rw [up3_v, up3_v]
    · rw [up3_o c, up3_o c, up3_o (by omega)]
      exact er k i f hk)
  refine ⟨n, np, nv, hm, hvm, fun σ2 h9 => ?_⟩
  obtain ⟨f1, f2⟩ := hgo2 σ2 h9
  rw [← f2]
  exact h2 _ _ ⟨n, np, nv, f1⟩
theorem eq_rule : Eq2 Inv sp_X10_rule sp_X11_rule := by
  intro a b w σ Q1 hI hK
  obtain ⟨n, np, nv, hV⟩ := id hI
  obtain ⟨hd, ⟨tt, ht1, ht6, t1, t2⟩, ⟨oo, ho1, ho2, o1, o2⟩, hsd, hrest⟩ := hV.2.2.2.2.2.2.2
  by_cases h1 : mayR a b
  rotate_left
  · refine And.intro (fun z9 => absurd z9 (h1)) (fun _ => And.intro (fun _ => ?_) (fun z9 => absurd rfl z9))
    refine hK _ _ _ fun K2 h2 => ?_
    by_cases c : ¬ a < 0 ∧ ¬ 2 < a
    rotate_left
    · refine And.intro (fun z9 => absurd z9 (c)) (fun _ => And.intro (fun _ => ?_) (fun z9 => absurd rfl z9))
      exact h2 _ _ hI
    refine And.intro (fun _ => And.intro (fun z9 => absurd z9 (by decide)) (fun _ => ?_)) (fun z9 => absurd (c) z9)
    obtain ⟨k, hk, rfl⟩ := (In (m := 2) (by decide)).mp c
    have hk3 : k = 0 ∨ k = 1 ∨ k = 2 := by omega
    rcases hk3 with rfl | rfl | rfl
    · refine And.intro (fun _ => ?_) (fun z9 => absurd (rfl) z9)
      refine And.intro (fun z9 => absurd z9 (fun q => h1 (Or.inl ⟨rfl, q.1, q.2⟩))) (fun _ => And.intro (fun _ => ?_) (fun z9 => absurd rfl z9))
      exact h2 _ _ hI
    · refine And.intro (fun z9 => absurd z9 (by decide)) (fun _ => ?_)
      refine And.intro (fun _ => ?_) (fun z9 => absurd (rfl) z9)
      refine And.intro (fun z9 => absurd z9 (fun q => h1 (Or.inr (Or.inl ⟨rfl, q.1, q.2⟩)))) (fun _ => And.intro (fun _ => ?_) (fun z9 => absurd rfl z9))
      exact h2 _ _ hI
    · exact absurd (Or.inr (Or.inr rfl)) h1
  refine And.intro (fun _ => And.intro (fun z9 => absurd z9 (by decide)) (fun _ => ?_)) (fun z9 => absurd (h1) z9)
  rcases h1 with ⟨rfl, g1, g2⟩ | ⟨rfl, g1, g2⟩ | rfl
  · refine And.intro (fun _ => ?_) (fun z9 => absurd (rfl) z9)
    obtain ⟨m, hm, rfl⟩ := in_of (n := 7) (x := b) ⟨Int32.le_trans (by decide) (Int32.not_lt.mp g1), Int32.lt_of_le_of_lt (Int32.not_lt.mp g2) (by decide)⟩
    have hm1 : 1 ≤ m := by
      rcases Nat.lt_or_ge m 1 with q | q
      · exact absurd (nI_lt (b := 1) q (by decide)) g1
      · exact q
    have hs : Ivs w (up3 (up3 σ 1 0 4 (nI m)) 11 0 28 (nI m)) n np nv := ⟨hV.1, hV.2.1, hV.2.2.1, hV.2.2.2.1, hV.2.2.2.2.1, hV.2.2.2.2.2.1, hV.2.2.2.2.2.2.1, hd, ⟨m, hm1, by omega, rfl, rfl⟩, ⟨oo, ho1, ho2, o1, o2⟩, hsd, hrest⟩
    obtain ⟨hcw, hlv, hgo⟩ := pack (σc := up3 σ 1 0 4 (nI m)) hs (fun k i f g1 g2 g3 => up3_o (by omega))
    refine ⟨n, np, nv, hcw, hlv, fun σ1 hT => ?_⟩
    have er : ∀ k i f, k = 11 ∨ k = 20 ∨ k = 21 → σ1 k i f = σ k i f := fun k i f hk => by rw [eqT_r hT hk, up3_o (by omega)]
    refine hK _ _ _ fun K2 h2 => ?_
    refine And.intro (fun _ => And.intro (fun z9 => absurd z9 (by decide)) (fun _ => ?_)) (fun z9 => absurd ((by decide : ¬ (0 : Int32) < 0 ∧ ¬ (2 : Int32) < 0)) z9)
    refine And.intro (fun _ => ?_) (fun z9 => absurd (rfl) z9)
    refine And.intro (fun _ => And.intro (fun z9 => absurd z9 (by decide)) (fun _ => ?_)) (fun z9 => absurd (⟨g1, g2⟩) z9)
    refine And.intro (fun z9 => absurd z9 (by decide)) (fun _ => ?_)
    refine And.intro (fun _ => ?_) (fun z9 => absurd (rfl) z9)
    refine And.intro (fun _ => ?_) (fun z9 => absurd (rfl) z9)
    obtain ⟨hm, hvm, hgo2⟩ := hgo σ1 (up3 σ1 11 0 28 (nI m)) hT (fun k i f g1 g2 g3 => up3_o (by omega)) (fun k i f hk => by
      by_cases c : k = 11 ∧ i = 0 ∧ f = 28
      · obtain ⟨rfl, rfl, rfl⟩ := c
        rw [up3_v, up3_v]
      · rw [up3_o c, up3_o c, up3_o (by omega)]
        exact er k i f hk)
    refine ⟨n, np, nv, hm, hvm, fun σ2 h9 => ?_⟩
    show K2 (some (HI (σ1 11 0 28))) w σ2
    rw [er _ _ _ (by omega), t2, ← t1]
    exact h2 _ _ ⟨n, np, nv, (hgo2 σ2 h9).1⟩
  · refine And.intro (fun z9 => absurd z9 (by decide)) (fun _ => ?_)
    refine And.intro (fun _ => ?_) (fun z9 => absurd (rfl) z9)
    obtain ⟨m, hm, rfl⟩ := in_of (n := 101) (x := b) ⟨Int32.le_trans (by decide) (Int32.not_lt.mp g1), Int32.lt_of_le_of_lt (Int32.not_lt.mp g2) (by decide)⟩
    have hm1 : 1 ≤ m := by
      rcases Nat.lt_or_ge m 1 with q | q
      · exact absurd (nI_lt (b := 1) q (by decide)) g1
      · exact q
    refine hK _ _ _ fun K2 h2 => ?_
    refine And.intro (fun _ => And.intro (fun z9 => absurd z9 (by decide)) (fun _ => ?_)) (fun z9 => absurd ((by decide : ¬ (1 : Int32) < 0 ∧ ¬ (2 : Int32) < 1)) z9)
    refine And.intro (fun z9 => absurd z9 (by decide)) (fun _ => ?_)
    refine And.intro (fun _ => ?_) (fun z9 => absurd (rfl) z9)
    refine And.intro (fun _ => And.intro (fun z9 => absurd z9 (by decide)) (fun _ => ?_)) (fun z9 => absurd (⟨g1, g2⟩) z9)
    refine And.intro (fun z9 => absurd z9 (by decide)) (fun _ => ?_)
    refine And.intro (fun _ => ?_) (fun z9 => absurd (rfl) z9)
    refine And.intro (fun z9 => absurd z9 (by decide)) (fun _ => ?_)
    refine And.intro (fun _ => ?_) (fun z9 => absurd (rfl) z9)
    show K2 (some (HI (σ 11 0 29))) w (up3 (up3 σ 6 0 0 (nI m)) 11 0 29 (nI m))
    rw [o2, ← o1]
    exact h2 _ _ ⟨n, np, nv, hV.1, hV.2.1, hV.2.2.1, hV.2.2.2.1, hV.2.2.2.2.1, hV.2.2.2.2.2.1, hV.2.2.2.2.2.2.1, hd, ⟨tt, ht1, ht6, t1, t2⟩, ⟨m, hm1, by omega, rfl, rfl⟩, hsd, hrest⟩
  · refine And.intro (fun z9 => absurd z9 (by decide)) (fun _ => ?_)
    refine And.intro (fun z9 => absurd z9 (by decide)) (fun _ => ?_)
    refine hK _ _ _ fun K2 h2 => ?_
    refine And.intro (fun _ => And.intro (fun z9 => absurd z9 (by decide)) (fun _ => ?_)) (fun z9 => absurd ((by decide : ¬ (2 : Int32) < 0 ∧ ¬ (2 : Int32) < 2)) z9)
    refine And.intro (fun z9 => absurd z9 (by decide)) (fun _ => ?_)
    refine And.intro (fun z9 => absurd z9 (by decide)) (fun _ => ?_)
    refine And.intro (fun z9 => absurd z9 (by decide)) (fun _ => ?_)
    refine And.intro (fun z9 => absurd z9 (by decide)) (fun _ => ?_)
    refine And.intro (fun z9 => absurd z9 (by decide)) (fun _ => ?_)
    refine And.intro (fun z9 => absurd z9 (by decide)) (fun _ => ?_)
    show K2 (some (HI (σ 11 0 30))) w (up3 (up3 σ 6 0 1 b) 11 0 30 b)
    rw [hsd]
    exact h2 _ _ ⟨n, np, nv, hV.1, hV.2.1, hV.2.2.1, hV.2.2.2.1, hV.2.2.2.2.1, hV.2.2.2.2.2.1, hV.2.2.2.2.2.2.1, hd, ⟨tt, ht1, ht6, t1, t2⟩, ⟨oo, ho1, ho2, o1, o2⟩, rfl, hrest⟩
