/-! both walks; what the relation does not look at -/
/-- scratch -/
def Scr (n k i f : Nat) : Prop := (k = 13 ∧ i = 3) ∨ (k = 20 ∧ (i = 24 ∨ i = 25)) ∨ (k = 6 ∧ (f = 2 ∨ f = 3)) ∨ k = 5 ∨ (k = 11 ∧ 33 ≤ f ∧ f ≤ 41) ∨ 30 ≤ k ∨ (k = 9 ∧ n ≤ i ∧ f ≠ 7)
def eqS (n : Nat) (σ σ' : HS) : Prop := ∀ k i f, ¬ Scr n k i f → σ' k i f = σ k i f
theorem scr_n {n k i f : Nat} (h1 : ¬ (k = 13 ∧ i = 3)) (h2 : ¬ (k = 20 ∧ (i = 24 ∨ i = 25))) (h3 : ¬ (k = 6 ∧ (f = 2 ∨ f = 3))) (h4 : k ≠ 5) (h5 : ¬ (k = 11 ∧ 33 ≤ f ∧ f ≤ 41)) (h6 : k < 30) (h7 : ¬ (k = 9 ∧ n ≤ i ∧ f ≠ 7)) : ¬ Scr n k i f := by
  rintro (h | h | h | h | h | h | h)
  · exact h1 h
  · exact h2 h
  · exact h3 h
  · exact h4 h
  · exact h5 h
  · omega
  · exact h7 h
section Cg
variable {w : HW} {σ σ' : HS} {n np nv : Nat}
theorem IvP.cg (h : eqS n σ σ') (hI : IvP σ np) : IvP σ' np := by
  have e20 : ∀ i f, i ≠ 24 → i ≠ 25 → σ' 20 i f = σ 20 i f := fun i f h1 h2 => h 20 i f (scr_n (by omega) (by omega) (by omega) (by omega) (by omega) (by omega) (by omega))
  have e3 : ∀ i f, σ' 3 i f = σ 3 i f := fun i f => h 3 i f (scr_n (by omega) (by omega) (by omega) (by omega) (by omega) (by omega) (by omega))
  have e13 : ∀ i f, i ≠ 3 → σ' 13 i f = σ 13 i f := fun i f h1 => h 13 i f (scr_n (by omega) (by omega) (by omega) (by omega) (by omega) (by omega) (by omega))
  have e2 : ∀ i f, σ' 2 i f = σ 2 i f := fun i f => h 2 i f (scr_n (by omega) (by omega) (by omega) (by omega) (by omega) (by omega) (by omega))
  have e11 : ∀ i f, f < 33 → σ' 11 i f = σ 11 i f := fun i f h1 => h 11 i f (scr_n (by omega) (by omega) (by omega) (by omega) (by omega) (by omega) (by omega))
  obtain ⟨h1, h2, h3, h4, h5⟩ := hI
  refine ⟨h1, by rw [e2]; exact h2, by rw [e11 _ _ (by omega)]; exact h3, fun p hp => ?_, fun p hp hp2 => ?_⟩
  · have q := h4 p hp
    rw [e3, e3, e3, e3, e20 0 p (by omega) (by omega), e20 1 p (by omega) (by omega), e20 2 p (by omega) (by omega), e20 3 p (by omega) (by omega)]
    exact ⟨q.1, q.2.1, q.2.2.1, q.2.2.2.1, q.2.2.2.2.1, fun v hv => by rw [e13 _ _ (by omega), e20 4 _ (by omega) (by omega)]; exact q.2.2.2.2.2 v hv⟩
  · have q := h5 p hp hp2
    exact ⟨by rw [e20 3 p (by omega) (by omega)]; exact q.1, fun v hv => by rw [e20 4 _ (by omega) (by omega)]; exact q.2 v hv⟩
theorem IvV.cg (h : eqS n σ σ') (hI : IvV σ nv) : IvV σ' nv := by
  have e20 : ∀ i f, i ≠ 24 → i ≠ 25 → σ' 20 i f = σ 20 i f := fun i f h1 h2 => h 20 i f (scr_n (by omega) (by omega) (by omega) (by omega) (by omega) (by omega) (by omega))
  have e13 : ∀ i f, i ≠ 3 → σ' 13 i f = σ 13 i f := fun i f h1 => h 13 i f (scr_n (by omega) (by omega) (by omega) (by omega) (by omega) (by omega) (by omega))
  have e2 : ∀ i f, σ' 2 i f = σ 2 i f := fun i f => h 2 i f (scr_n (by omega) (by omega) (by omega) (by omega) (by omega) (by omega) (by omega))
  have e11 : ∀ i f, f < 33 → σ' 11 i f = σ 11 i f := fun i f h1 => h 11 i f (scr_n (by omega) (by omega) (by omega) (by omega) (by omega) (by omega) (by omega))
  obtain ⟨h1, h2, h3, h4, h5⟩ := hI
  refine ⟨h1, by rw [e2]; exact h2, by rw [e11 _ _ (by omega)]; exact h3, fun v hv => ?_, fun kk hk v hv => ?_⟩
  · rw [e20 5 v (by omega) (by omega), e20 7 v (by omega) (by omega), e13 1 v (by omega)]
    exact h4 v hv
  · rw [e20 5 v (by omega) (by omega), e13 0 kk (by omega)]
    exact h5 kk hk v hv
theorem IvR.cg (h : eqS n σ σ') (hI : IvR w σ) : IvR w σ' := by
  have e20 : ∀ i f, i ≠ 24 → i ≠ 25 → σ' 20 i f = σ 20 i f := fun i f h1 h2 => h 20 i f (scr_n (by omega) (by omega) (by omega) (by omega) (by omega) (by omega) (by omega))
  have e4 : ∀ i f, σ' 4 i f = σ 4 i f := fun i f => h 4 i f (scr_n (by omega) (by omega) (by omega) (by omega) (by omega) (by omega) (by omega))
  have e21 : ∀ i f, σ' 21 i f = σ 21 i f := fun i f => h 21 i f (scr_n (by omega) (by omega) (by omega) (by omega) (by omega) (by omega) (by omega))
  intro c hc
  rw [e21]
  rcases hI c hc with q | ⟨r, q1, q2, q3, q4⟩
  · exact Or.inl q
  · exact Or.inr ⟨r, q1, q2, fun f hf => by rw [e4, e20 _ _ (by omega) (by omega)]; exact q3 f hf, by rw [e4]; exact q4⟩
theorem lwM_cg (h : eqS n σ σ') (s : Int32) : lwM σ' nv s ↔ lwM σ nv s := by
  have e20 : ∀ f, σ' 20 5 f = σ 20 5 f := fun f => h 20 5 f (scr_n (by omega) (by omega) (by omega) (by omega) (by omega) (by omega) (by omega))
  unfold lwM
  simp only [e20]
theorem VR.cg (h : eqS n σ σ') {j i : Nat} (hj : j < n) (hI : VR σ np nv j i) : VR σ' np nv j i := by
  have e20 : ∀ i f, i ≠ 24 → i ≠ 25 → σ' 20 i f = σ 20 i f := fun i f h1 h2 => h 20 i f (scr_n (by omega) (by omega) (by omega) (by omega) (by omega) (by omega) (by omega))
  have e9 : ∀ f, σ' 9 j f = σ 9 j f := fun f => h 9 j f (scr_n (by omega) (by omega) (by omega) (by omega) (by omega) (by omega) (by omega))
  unfold VR
  rw [e9, e9, e9, e9, e9, e9, e20 16 i (by omega) (by omega), e20 17 i (by omega) (by omega), e20 18 i (by omega) (by omega), e20 19 i (by omega) (by omega), e20 20 i (by omega) (by omega), lwM_cg h]
  exact hI
theorem IvB.cg (h : eqS n σ σ') (hI : IvB σ n np nv) : IvB σ' n np nv := by
  obtain ⟨h1, h2, h3, h4, h5, h6⟩ := hI
  refine ⟨h1, ?_, ?_, fun j hj => ?_, fun j hj => ?_, fun j hj => ?_⟩
  · rw [h 0 0 1 (scr_n (by omega) (by omega) (by omega) (by omega) (by omega) (by omega) (by omega))]; exact h2
  · rw [h 11 0 21 (scr_n (by omega) (by omega) (by omega) (by omega) (by omega) (by omega) (by omega))]; exact h3
  · have q := h4 j hj
    rw [h 9 j 6 (scr_n (by omega) (by omega) (by omega) (by omega) (by omega) (by omega) (by omega)), h 20 21 j (scr_n (by omega) (by omega) (by omega) (by omega) (by omega) (by omega) (by omega))]
    exact ⟨q.1.cg h hj, q.2⟩
  · rw [h 9 j 7 (scr_n (by omega) (by omega) (by omega) (by omega) (by omega) (by omega) (by omega))]; exact h5 j hj
  · rw [h 9 j 1 (scr_n (by omega) (by omega) (by omega) (by omega) (by omega) (by omega) (by omega))]; exact h6 j hj
theorem IvS.cg (h : eqS n σ σ') (hI : IvS σ) : IvS σ' := by
  have e20 : ∀ i f, i ≠ 24 → i ≠ 25 → σ' 20 i f = σ 20 i f := fun i f h1 h2 => h 20 i f (scr_n (by omega) (by omega) (by omega) (by omega) (by omega) (by omega) (by omega))
  have e7 : ∀ i f, σ' 7 i f = σ 7 i f := fun i f => h 7 i f (scr_n (by omega) (by omega) (by omega) (by omega) (by omega) (by omega) (by omega))
  have e12 : ∀ i f, σ' 12 i f = σ 12 i f := fun i f => h 12 i f (scr_n (by omega) (by omega) (by omega) (by omega) (by omega) (by omega) (by omega))
  refine ⟨fun s hs => ?_, fun i j => by rw [e12]; exact hI.2 i j⟩
  rw [e7, e20 22 s (by omega) (by omega)]
  rcases hI.1 s hs with q | ⟨m, q1, q2, q3, q4⟩
  · exact Or.inl q
  · exact Or.inr ⟨m, q1, q2, q3, fun j hj => by rw [e12, e20 23 _ (by omega) (by omega)]; exact q4 j hj⟩
theorem IvT.cg (h : eqS n σ σ') (hI : IvT σ) : IvT σ' := by
  obtain ⟨t, h1, h2, h3, h4⟩ := hI
  refine ⟨t, h1, ?_, ?_, fun j hj => ?_⟩
  · rw [h 8 0 1 (scr_n (by omega) (by omega) (by omega) (by omega) (by omega) (by omega) (by omega))]; exact h2
  · rw [h 11 0 20 (scr_n (by omega) (by omega) (by omega) (by omega) (by omega) (by omega) (by omega))]; exact h3
  · rw [h 20 15 j (scr_n (by omega) (by omega) (by omega) (by omega) (by omega) (by omega) (by omega)), h 12 0 j (scr_n (by omega) (by omega) (by omega) (by omega) (by omega) (by omega) (by omega))]; exact h4 j hj
theorem IvM.cg (h : eqS n σ σ') (hI : IvM σ) : IvM σ' := by
  have e20 : ∀ i f, i ≠ 24 → i ≠ 25 → σ' 20 i f = σ 20 i f := fun i f h1 h2 => h 20 i f (scr_n (by omega) (by omega) (by omega) (by omega) (by omega) (by omega) (by omega))
  have e13 : ∀ i f, i ≠ 3 → σ' 13 i f = σ 13 i f := fun i f h1 => h 13 i f (scr_n (by omega) (by omega) (by omega) (by omega) (by omega) (by omega) (by omega))
  have e11 : ∀ i f, f < 33 → σ' 11 i f = σ 11 i f := fun i f h1 => h 11 i f (scr_n (by omega) (by omega) (by omega) (by omega) (by omega) (by omega) (by omega))
  obtain ⟨h1, h2, h3, h4, h5, h6⟩ := hI
  refine ⟨?_, ?_, ?_, ?_, fun f hf => ?_, fun f g hf hg => ?_⟩
  · rw [h 0 0 2 (scr_n (by omega) (by omega) (by omega) (by omega) (by omega) (by omega) (by omega)), e11 0 0 (by omega)]; exact h1
  · rw [h 1 0 4 (scr_n (by omega) (by omega) (by omega) (by omega) (by omega) (by omega) (by omega)), e11 0 28 (by omega)]; exact h2
  · rw [h 6 0 0 (scr_n (by omega) (by omega) (by omega) (by omega) (by omega) (by omega) (by omega)), e11 0 29 (by omega)]; exact h3
  · rw [h 6 0 1 (scr_n (by omega) (by omega) (by omega) (by omega) (by omega) (by omega) (by omega)), e11 0 30 (by omega)]; exact h4
  · rw [e20 8 f (by omega) (by omega), e13 2 f (by omega)]; exact h5 f hf
  · rw [e13 2 f (by omega), e13 2 g (by omega)]; exact h6 f g hf hg
theorem Ivs.cg (h : eqS n σ σ') (hI : Ivs w σ n np nv) : Ivs w σ' n np nv := ⟨hI.1, hI.2.1.cg h, hI.2.2.1.cg h, hI.2.2.2.1.cg h, hI.2.2.2.2.1.cg h, hI.2.2.2.2.2.1.cg h, hI.2.2.2.2.2.2.1.cg h, hI.2.2.2.2.2.2.2.cg h⟩
theorem Ivs.core (hI : Ivs w σ n np nv) : Core w σ n np nv := ⟨hI.2.1, hI.2.2.1, hI.2.2.2.1, hI.2.2.2.2.1, hI.2.2.2.2.2.1, hI.2.2.2.2.2.2.2⟩
theorem Ivs.bk (hI : Ivs w σ n np nv) : Bk w σ n := ⟨hI.2.2.2.2.1.1, hI.2.2.2.2.1.2.1, hI.1.2.2.2.2.1⟩
theorem Ivs.pk (hI : Ivs w σ n np nv) : Pk w σ np := ⟨hI.2.1.1, hI.2.1.2.1, hI.1.2.2.2.2.2.1⟩
theorem le60 {σ : HS} (h : IvS σ) {s : Nat} (hs : s < 2) : σ 7 s 1 ≤ 60 ∧ σ 20 22 s ≤ 60 := by
  rcases h.1 s hs with ⟨q1, q2⟩ | ⟨m, q1, q2, q3, -⟩
  · rw [q1, q2]; exact ⟨by decide, by decide⟩
  · rw [q2, q3]; exact ⟨nI_le (b := 60) q1 (by omega), nI_le (b := 60) q1 (by omega)⟩
theorem Ivs.cw (hI : Ivs w σ n np nv) : CW w σ n np nv := by
  obtain ⟨hW, hP, hV, hR, hB, hS, hT, hM⟩ := id hI
  refine ⟨hI.bk, hI.pk, ⟨hV.1, hV.2.1⟩, fun p hp => ?_, fun p hp => ?_, fun c hc r hr => ?_, (le60 hS (by decide)).1, ?_, fun i hi => ?_⟩
  · obtain ⟨-, ⟨f, hf, f1, -⟩, -⟩ := hP.2.2.2.1 p hp
    exact ⟨f, hf, f1⟩
  · obtain ⟨⟨c, hc, c1, -⟩, -⟩ := hP.2.2.2.1 p hp
    exact ⟨c, hc, c1⟩
  · rcases hR c hc with ⟨q1, -⟩ | ⟨r', q1, -, -, m, m1, m2, m3⟩
    · rw [q1] at hr; cases hr
    · rw [q1] at hr; cases hr; exact ⟨m, m1, m2, m3⟩
  · obtain ⟨t, -, t2, t3, -⟩ := hM.2.1
    exact ⟨t, t2, t3⟩
  · obtain ⟨⟨p, d, a, b, hp, hd, hb1, hb4, hab, c0, r0, c2, r2, c3, r3, c4, r4⟩, -, -, h01, -⟩ := (hB.2.2.2.1 i hi).1
    exact ⟨⟨p, hp, c0⟩, ⟨a, b, c3, c4, hab⟩, h01⟩
theorem Ivs.mw (hI : Ivs w σ n np nv) : MWf σ n np nv ∧ VWm σ n np := by
  obtain ⟨hW, hP, hV, hR, hB, hS, hT, hM⟩ := id hI
  refine ⟨⟨⟨hV.1, hV.2.2.1⟩, ⟨hB.1, hB.2.2.1⟩, ⟨hP.1, hP.2.2.1⟩, fun p hp => ?_, fun p hp => ?_, fun c hc h0 => ?_, (le60 hS (by decide)).2, ?_, fun i hi => ?_⟩, fun i hi => ?_⟩
  · obtain ⟨-, ⟨f, hf, -, f2⟩, -⟩ := hP.2.2.2.1 p hp
    exact ⟨f, hf, f2⟩
  · obtain ⟨⟨c, hc, -, c2⟩, -⟩ := hP.2.2.2.1 p hp
    exact ⟨c, hc, c2⟩
  · rcases hR c hc with ⟨-, q1⟩ | ⟨r', -, -, q3, m, m1, m2, m3⟩
    · exact absurd q1 h0
    · exact ⟨m, m1, m2, by rw [← m3]; exact (q3 1 (by decide)).symm⟩
  · obtain ⟨t, -, t2, -, t3⟩ := hM.2.1
    exact ⟨t, t2, t3⟩
  · obtain ⟨⟨p, d, a, b, hp, hd, hb1, hb4, hab, c0, r0, -⟩, -⟩ := (hB.2.2.2.1 i hi).1
    exact ⟨p, hp, r0⟩
  · obtain ⟨⟨p, d, a, b, hp, hd, hb1, hb4, hab, c0, r0, c2, r2, c3, r3, c4, r4⟩, -⟩ := (hB.2.2.2.1 i hi).1
    exact ⟨p, d, a, b, hp, hd, hab, r0, r2, r3, r4⟩
theorem Ivs.lv (hI : Ivs w σ n np nv) : ∀ i, i < n → σ 9 i 7 = 0 := fun i hi => hI.2.2.2.2.1.2.2.2.2.1 i (by omega)
end Cg
theorem walk_both {w : HW} {σc σ1 σu σ2 : HS} {n np nv : Nat} (hI : Ivs w (mix σc σu) n np nv) (h1 : eqT (stS σc (wlC w σc n nv n).1 n) σ1) (hu : ∀ k i f, k ≠ 11 → k ≠ 20 → k ≠ 21 → σu k i f = σ1 k i f) (h2 : eqB (msS σu (wlM σu n nv n).1 n) σ2) : Ivs w σ2 n np nv ∧ (wlC w σc n nv n).2 = (wlM σu n nv n).2 := by
  obtain ⟨e1, e2, e3⟩ := wl_eq hI.core n (Nat.le_refl n)
  have c1 : wlC w (mix σc σu) n nv n = wlC w σc n nv n := rfl
  have c2 : wlM (mix σc σu) n nv n = wlM σu n nv n := rfl
  rw [c1, c2] at e1 e2
  rw [c2] at e3
  refine ⟨?_, e1⟩
  have hC := core_st hI.core e2 (fun i hi => by rw [e2 i hi]; exact e3 i hi)
  have hI3 : Ivs w (stS (msS (mix σc σu) (wlM σu n nv n).1 n) (wlC w σc n nv n).1 n) n np nv := ⟨hI.1, hC.1, hC.2.1, hC.2.2.1, hC.2.2.2.1, hC.2.2.2.2.1, hI.2.2.2.2.2.2.1, hC.2.2.2.2.2⟩
  refine hI3.cg fun k i f hs => ?_
  have n1 : ¬ (k = 13 ∧ i = 3) := fun q => hs (Or.inl q)
  have n2 : ¬ (k = 20 ∧ i = 24) := fun q => hs (Or.inr (Or.inl ⟨q.1, Or.inl q.2⟩))
  rw [h2 k i f n2]
  by_cases hr : k = 11 ∨ k = 20 ∨ k = 21
  · have e4 : stS (msS (mix σc σu) (wlM σu n nv n).1 n) (wlC w σc n nv n).1 n k i f = msS (mix σc σu) (wlM σu n nv n).1 n k i f := if_neg (by omega)
    rw [e4]
    unfold msS
    split
    · rfl
    · rcases hr with rfl | rfl | rfl <;> rfl
  · have e4 : msS σu (wlM σu n nv n).1 n k i f = σu k i f := if_neg (by omega)
    rw [e4, hu k i f (by omega) (by omega) (by omega), h1 k i f n1]
    unfold stS
    split
    · rfl
    · have e5 : msS (mix σc σu) (wlM σu n nv n).1 n k i f = mix σc σu k i f := if_neg (by omega)
      rw [e5]
      unfold mix
      split
      · omega
      · omega
      · omega
      · rfl
