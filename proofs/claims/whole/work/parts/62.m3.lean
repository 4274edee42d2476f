/-! calls, 3: visitor, prisoner -/
/-! what each part of the relation reads -/
def rdSh (k i _f : Nat) : Prop := k = 7 ∨ k = 12 ∨ (k = 20 ∧ (i = 22 ∨ i = 23))
def rdTa (k i f : Nat) : Prop := (k = 8 ∧ i = 0 ∧ f = 1) ∨ (k = 11 ∧ i = 0 ∧ f = 20) ∨ (k = 20 ∧ i = 15) ∨ (k = 12 ∧ i = 0)
def rdMi (k i f : Nat) : Prop := (k = 0 ∧ i = 0 ∧ f = 2) ∨ (k = 11 ∧ i = 0 ∧ (f = 0 ∨ f = 28 ∨ f = 29 ∨ f = 30)) ∨ (k = 1 ∧ i = 0 ∧ f = 4) ∨ (k = 6 ∧ i = 0 ∧ f < 2) ∨ (k = 20 ∧ i = 8) ∨ (k = 13 ∧ i = 2)
def rdRi (k i _f : Nat) : Prop := k = 4 ∨ (k = 21 ∧ i = 0) ∨ (k = 20 ∧ 9 ≤ i ∧ i ≤ 14)
def rdPr (k i f : Nat) : Prop := (k = 2 ∧ i = 0 ∧ f = 1) ∨ (k = 11 ∧ i = 0 ∧ f = 1) ∨ (k = 3 ∧ f < 4) ∨ (k = 20 ∧ i ≤ 4) ∨ (k = 13 ∧ 4 ≤ i)
def rdVi (k i f : Nat) : Prop := (k = 2 ∧ i = 0 ∧ f = 4) ∨ (k = 11 ∧ i = 0 ∧ f = 7) ∨ (k = 20 ∧ (i = 5 ∨ i = 7)) ∨ (k = 13 ∧ i ≤ 1)
def rdBk (n k i f : Nat) : Prop := (k = 0 ∧ i = 0 ∧ f = 1) ∨ (k = 11 ∧ i = 0 ∧ f = 21) ∨ (k = 9 ∧ (i < n ∨ f = 7)) ∨ (k = 20 ∧ (i = 5 ∨ (16 ≤ i ∧ i ≤ 21)))
section Cd
variable {w : HW} {σ σ' : HS} {n np nv : Nat}
theorem IvS.cd (h : ∀ k i f, rdSh k i f → σ' k i f = σ k i f) (hI : IvS σ) : IvS σ' := by
  refine ⟨fun s hs => ?_, fun i j => by rw [h 12 i j (by unfold rdSh; omega)]; exact hI.2 i j⟩
  rw [h 7 s 1 (by unfold rdSh; omega), h 20 22 s (by unfold rdSh; omega)]
  rcases hI.1 s hs with q | ⟨m, q1, q2, q3, q4⟩
  · exact Or.inl q
  · exact Or.inr ⟨m, q1, q2, q3, fun j hj => by rw [h 12 (1 + s) j (by unfold rdSh; omega), h 20 23 _ (by unfold rdSh; omega)]; exact q4 j hj⟩
theorem IvT.cd (h : ∀ k i f, rdTa k i f → σ' k i f = σ k i f) (hI : IvT σ) : IvT σ' := by
  obtain ⟨t, h1, h2, h3, h4⟩ := hI
  exact ⟨t, h1, by rw [h 8 0 1 (by unfold rdTa; omega)]; exact h2, by rw [h 11 0 20 (by unfold rdTa; omega)]; exact h3, fun j hj => by rw [h 20 15 j (by unfold rdTa; omega), h 12 0 j (by unfold rdTa; omega)]; exact h4 j hj⟩
theorem IvM.cd (h : ∀ k i f, rdMi k i f → σ' k i f = σ k i f) (hI : IvM σ) : IvM σ' := by
  obtain ⟨h1, h2, h3, h4, h5, h6⟩ := hI
  refine ⟨?_, ?_, ?_, ?_, fun f hf => ?_, fun f g hf hg => ?_⟩
  · rw [h 0 0 2 (by unfold rdMi; omega), h 11 0 0 (by unfold rdMi; omega)]; exact h1
  · rw [h 1 0 4 (by unfold rdMi; omega), h 11 0 28 (by unfold rdMi; omega)]; exact h2
  · rw [h 6 0 0 (by unfold rdMi; omega), h 11 0 29 (by unfold rdMi; omega)]; exact h3
  · rw [h 6 0 1 (by unfold rdMi; omega), h 11 0 30 (by unfold rdMi; omega)]; exact h4
  · rw [h 20 8 f (by unfold rdMi; omega), h 13 2 f (by unfold rdMi; omega)]; exact h5 f hf
  · rw [h 13 2 f (by unfold rdMi; omega), h 13 2 g (by unfold rdMi; omega)]; exact h6 f g hf hg
theorem IvR.cd (h : ∀ k i f, rdRi k i f → σ' k i f = σ k i f) (hI : IvR w σ) : IvR w σ' := fun c hc => by
  rw [h 21 0 c (by unfold rdRi; omega)]
  rcases hI c hc with q | ⟨r, q1, q2, q3, q4⟩
  · exact Or.inl q
  · exact Or.inr ⟨r, q1, q2, fun g hg => by rw [h 4 r g (by unfold rdRi; omega), h 20 (9 + g) c (by unfold rdRi; omega)]; exact q3 g hg, by rw [h 4 r 1 (by unfold rdRi; omega)]; exact q4⟩
theorem IvP.cd (h : ∀ k i f, rdPr k i f → σ' k i f = σ k i f) (hI : IvP σ np) : IvP σ' np := by
  obtain ⟨h1, h2, h3, h4, h5⟩ := hI
  refine ⟨h1, by rw [h 2 0 1 (by unfold rdPr; omega)]; exact h2, by rw [h 11 0 1 (by unfold rdPr; omega)]; exact h3, fun p hp => ?_, fun p hp hp2 => ?_⟩
  · have q := h4 p hp
    rw [h 3 p 0 (by unfold rdPr; omega), h 3 p 1 (by unfold rdPr; omega), h 3 p 2 (by unfold rdPr; omega), h 3 p 3 (by unfold rdPr; omega), h 20 0 p (by unfold rdPr; omega), h 20 1 p (by unfold rdPr; omega), h 20 2 p (by unfold rdPr; omega), h 20 3 p (by unfold rdPr; omega)]
    exact ⟨q.1, q.2.1, q.2.2.1, q.2.2.2.1, q.2.2.2.2.1, fun v hv => by rw [h 13 (p + 4) v (by unfold rdPr; omega), h 20 4 _ (by unfold rdPr; omega)]; exact q.2.2.2.2.2 v hv⟩
  · have q := h5 p hp hp2
    exact ⟨by rw [h 20 3 p (by unfold rdPr; omega)]; exact q.1, fun v hv => by rw [h 20 4 _ (by unfold rdPr; omega)]; exact q.2 v hv⟩
theorem IvV.cd (h : ∀ k i f, rdVi k i f → σ' k i f = σ k i f) (hI : IvV σ nv) : IvV σ' nv := by
  obtain ⟨h1, h2, h3, h4, h5⟩ := hI
  refine ⟨h1, by rw [h 2 0 4 (by unfold rdVi; omega)]; exact h2, by rw [h 11 0 7 (by unfold rdVi; omega)]; exact h3, fun v hv => ?_, fun kk hk v hv => ?_⟩
  · rw [h 20 5 v (by unfold rdVi; omega), h 20 7 v (by unfold rdVi; omega), h 13 1 v (by unfold rdVi; omega)]
    exact h4 v hv
  · rw [h 20 5 v (by unfold rdVi; omega), h 13 0 kk (by unfold rdVi; omega)]
    exact h5 kk hk v hv
theorem VR.cd {j i : Nat} (h9 : ∀ f, σ' 9 j f = σ 9 j f) (h20 : ∀ r, 16 ≤ r → r ≤ 20 → σ' 20 r i = σ 20 r i) (h5 : ∀ v, σ' 20 5 v = σ 20 5 v) (hI : VR σ np nv j i) : VR σ' np nv j i := by
  have e : lwM σ' nv (σ 9 j 1) ↔ lwM σ nv (σ 9 j 1) := by
    unfold lwM
    simp only [h5]
  unfold VR
  rw [h9, h9, h9, h9, h9, h9, h20 16 (by omega) (by omega), h20 17 (by omega) (by omega), h20 18 (by omega) (by omega), h20 19 (by omega) (by omega), h20 20 (by omega) (by omega), e]
  exact hI
theorem IvB.cd (h : ∀ k i f, rdBk n k i f → σ' k i f = σ k i f) (hI : IvB σ n np nv) : IvB σ' n np nv := by
  obtain ⟨h1, h2, h3, h4, h5, h6⟩ := hI
  refine ⟨h1, by rw [h 0 0 1 (by unfold rdBk; omega)]; exact h2, by rw [h 11 0 21 (by unfold rdBk; omega)]; exact h3, fun j hj => ?_, fun j hj => by rw [h 9 j 7 (by unfold rdBk; omega)]; exact h5 j hj, fun j hj => by rw [h 9 j 1 (by unfold rdBk; omega)]; exact h6 j hj⟩
  have q := h4 j hj
  rw [h 9 j 6 (by unfold rdBk; omega), h 20 21 j (by unfold rdBk; omega)]
  exact ⟨q.1.cd (fun f => h 9 j f (by unfold rdBk; omega)) (fun r _ _ => h 20 r j (by unfold rdBk; omega)) (fun v => h 20 5 v (by unfold rdBk; omega)), q.2⟩
end Cd
section Vis
variable {w : HW} {σ : HS} {n np nv : Nat}
theorem av_o {k y : Int32} {kk i f : Nat} (h1 : ¬ (kk = 13 ∧ (i = 0 ∨ i = 1))) (h2 : ¬ (kk = 2 ∧ f = 4)) : avS σ k y kk i f = σ kk i f := by
  unfold avS
  rw [up3_o (by omega), up3_o (by omega)]
  split
  · rw [up3_o (by omega), up3_o (by omega), up3_o (by omega)]
  · rw [up3_o (by omega), up3_o (by omega)]
theorem av_w {k y : Int32} {f : Nat} : avS σ k y 13 1 f = if f = (σ 2 0 4).toNatClampNeg then y else σ 13 1 f := by
  unfold avS
  rw [up3_o (by omega)]
  by_cases c : f = (σ 2 0 4).toNatClampNeg
  · subst c
    rw [if_pos rfl]
    exact up3_v
  · rw [if_neg c, up3_o (by omega)]
    split
    · rw [up3_o (by omega), up3_o (by omega), up3_o (by omega)]
    · rw [up3_o (by omega), up3_o (by omega)]
theorem av_b (hV : IvV σ nv) (h14 : nv < 14) {kn : Nat} (hk : kn < 4) {y : Int32} {kk : Nat} (hkk : kk < 4) {v : Nat} (hv : v < 32) : bt (avS σ (nI kn) y 13 0 kk) v = true ↔ bt (σ 13 0 kk) v = true ∨ (v = nv ∧ (kk = 0 ∨ kk = kn ∨ (kk = 1 ∧ kn = 3))) := by
  have hb : ∀ x : Int32, (bt (x ||| (1 <<< (nI nv &&& 31))) v = true ↔ bt x v = true ∨ v = nv) := fun x => by
    rw [b_or, b_one (by omega) hv, Bool.or_eq_true, decide_eq_true_iff]
  have e3 : nI kn = 3 ↔ kn = 3 := nI_eq (b := 3) (by omega) (by decide)
  unfold avS
  rw [up3_o (by omega), up3_o (by omega), hV.2.1, nI_clamp (by omega)]
  by_cases c3 : nI kn = 3
  · rw [if_pos c3]
    have c3 := e3.mp c3
    subst c3
    by_cases c1 : kk = 1
    · subst c1
      rw [up3_v, hb, up3_o (by omega), up3_o (by omega)]
      constructor
      · rintro (q | q)
        · exact Or.inl q
        · exact Or.inr ⟨q, Or.inr (Or.inr ⟨rfl, rfl⟩)⟩
      · rintro (q | q)
        · exact Or.inl q
        · exact Or.inr q.1
    · rw [up3_o (by omega)]
      by_cases c4 : kk = 3
      · subst c4
        rw [up3_v, hb, up3_o (by omega)]
        constructor
        · rintro (q | q)
          · exact Or.inl q
          · exact Or.inr ⟨q, Or.inr (Or.inl rfl)⟩
        · rintro (q | q)
          · exact Or.inl q
          · exact Or.inr q.1
      · rw [up3_o (by omega)]
        by_cases c0 : kk = 0
        · subst c0
          rw [up3_v, hb]
          constructor
          · rintro (q | q)
            · exact Or.inl q
            · exact Or.inr ⟨q, Or.inl rfl⟩
          · rintro (q | q)
            · exact Or.inl q
            · exact Or.inr q.1
        · rw [up3_o (by omega)]
          constructor
          · exact Or.inl
          · rintro (q | q)
            · exact q
            · omega
  · rw [if_neg c3]
    have c3 : ¬ kn = 3 := fun q => c3 (e3.mpr q)
    by_cases ck : kk = kn
    · subst ck
      rw [up3_v, hb]
      by_cases c0 : kk = 0
      · subst c0
        rw [up3_v, hb]
        constructor
        · rintro ((q | q) | q)
          · exact Or.inl q
          · exact Or.inr ⟨q, Or.inl rfl⟩
          · exact Or.inr ⟨q, Or.inl rfl⟩
        · rintro (q | q)
          · exact Or.inl (Or.inl q)
          · exact Or.inr q.1
      · rw [up3_o (by omega)]
        constructor
        · rintro (q | q)
          · exact Or.inl q
          · exact Or.inr ⟨q, Or.inr (Or.inl rfl)⟩
        · rintro (q | q)
          · exact Or.inl q
          · exact Or.inr q.1
    · rw [up3_o (by omega)]
      by_cases c0 : kk = 0
      · subst c0
        rw [up3_v, hb]
        constructor
        · rintro (q | q)
          · exact Or.inl q
          · exact Or.inr ⟨q, Or.inl rfl⟩
        · rintro (q | q)
          · exact Or.inl q
          · exact Or.inr q.1
      · rw [up3_o (by omega)]
        constructor
        · exact Or.inl
        · rintro (q | q)
          · exact q
          · omega
/-- a visitor more, on both sides -/
def vsS (σ : HS) (nv kn : Nat) (fam y : Int32) : HS := up3 (up3 (up3 (up3 (avS σ (nI kn) y) 20 5 nv (nI kn)) 20 6 nv fam) 20 7 nv y) 11 0 7 (nI nv + 1)
theorem vs_inv (hV : Ivs w σ n np nv) (h14 : nv < 14) {kn : Nat} (hk : kn < 4) {fam y : Int32} : Ivs w (vsS σ nv kn fam y) n np (nv + 1) := by
  obtain ⟨hW, hP, hVv, hR, hB, hS, hT, hM⟩ := hV
  have es : ∀ k i f, ¬ (k = 13 ∧ (i = 0 ∨ i = 1)) → ¬ (k = 2 ∧ f = 4) → ¬ (k = 20 ∧ (i = 5 ∨ i = 6 ∨ i = 7)) → ¬ (k = 11 ∧ f = 7) → vsS σ nv kn fam y k i f = σ k i f := fun k i f h1 h2 h3 h4 => by
    unfold vsS
    rw [up3_o (by omega), up3_o (by omega), up3_o (by omega), up3_o (by omega), av_o h1 h2]
  have e5 : ∀ v, vsS σ nv kn fam y 20 5 v = if v = nv then nI kn else σ 20 5 v := fun v => by
    unfold vsS
    rw [up3_o (by omega), up3_o (by omega), up3_o (by omega)]
    by_cases c : v = nv
    · subst c
      rw [if_pos rfl]
      exact up3_v
    · rw [if_neg c, up3_o (by omega), av_o (by omega) (by omega)]
  have hlw : ∀ s, setOK nv s → (lwM (vsS σ nv kn fam y) (nv + 1) s ↔ lwM σ nv s) := fun s hs => by
    unfold lwM
    constructor
    · intro h v hv hb
      have := h v (by omega) hb
      rw [e5, if_neg (by omega)] at this
      exact this
    · intro h v hv hb
      have hlt := hs v (by omega) ((bt1_bt (by omega)).mp hb)
      rw [e5, if_neg (by omega)]
      exact h v hlt hb
  refine ⟨hW, hP.cd fun k i f hr => es k i f (by unfold rdPr at hr; omega) (by unfold rdPr at hr; omega) (by unfold rdPr at hr; omega) (by unfold rdPr at hr; omega), ?_, hR.cd fun k i f hr => es k i f (by unfold rdRi at hr; omega) (by unfold rdRi at hr; omega) (by unfold rdRi at hr; omega) (by unfold rdRi at hr; omega), ?_, hS.cd fun k i f hr => es k i f (by unfold rdSh at hr; omega) (by unfold rdSh at hr; omega) (by unfold rdSh at hr; omega) (by unfold rdSh at hr; omega), hT.cd fun k i f hr => es k i f (by unfold rdTa at hr; omega) (by unfold rdTa at hr; omega) (by unfold rdTa at hr; omega) (by unfold rdTa at hr; omega), hM.cd fun k i f hr => es k i f (by unfold rdMi at hr; omega) (by unfold rdMi at hr; omega) (by unfold rdMi at hr; omega) (by unfold rdMi at hr; omega)⟩
  · have e2 : vsS σ nv kn fam y 2 0 4 = nI (nv + 1) := by
      show σ 2 0 4 + 1 = nI (nv + 1)
      rw [hVv.2.1, nI_1]
    refine ⟨by omega, e2, nI_1 nv, fun v hv => ?_, fun kk hkk v hv => ?_⟩
    · have e7 : vsS σ nv kn fam y 20 7 v = if v = nv then y else σ 20 7 v := by
        unfold vsS
        rw [up3_o (by omega)]
        by_cases c : v = nv
        · subst c
          rw [if_pos rfl]
          exact up3_v
        · rw [if_neg c, up3_o (by omega), up3_o (by omega), up3_o (by omega), av_o (by omega) (by omega)]
      have e13 : vsS σ nv kn fam y 13 1 v = if v = nv then y else σ 13 1 v := by
        show avS σ (nI kn) y 13 1 v = _
        rw [av_w, hVv.2.1, nI_clamp (by omega)]
      rw [e5, e7, e13]
      by_cases c : v = nv
      · rw [if_pos c, if_pos c, if_pos c]
        exact ⟨⟨kn, hk, rfl⟩, rfl⟩
      · rw [if_neg c, if_neg c, if_neg c]
        exact hVv.2.2.2.1 v (by omega)
    · show bt (avS σ (nI kn) y 13 0 kk) v = true ↔ _
      rw [av_b hVv h14 hk hkk hv, hVv.2.2.2.2 kk hkk v hv, e5]
      by_cases c : v = nv
      · subst c
        rw [if_pos rfl, nI_eq (by omega) (by omega), show (3 : Int32) = nI 3 from rfl, nI_eq (by omega) (by omega)]
        constructor
        · rintro (q | q)
          · omega
          · refine ⟨by omega, ?_⟩
            rcases q.2 with z | z | z
            · exact Or.inl z
            · exact Or.inr (Or.inl z.symm)
            · exact Or.inr (Or.inr z)
        · rintro ⟨-, q⟩
          refine Or.inr ⟨rfl, ?_⟩
          rcases q with z | z | z
          · exact Or.inl z
          · exact Or.inr (Or.inl z.symm)
          · exact Or.inr (Or.inr z)
      · rw [if_neg c]
        constructor
        · rintro (q | q)
          · exact ⟨by omega, q.2⟩
          · exact absurd q.1 c
        · rintro ⟨q1, q2⟩
          exact Or.inl ⟨by omega, q2⟩
  · obtain ⟨h1, h2, h3, h4, h5, h6⟩ := hB
    refine ⟨h1, by rw [es _ _ _ (by omega) (by omega) (by omega) (by omega)]; exact h2, by rw [es _ _ _ (by omega) (by omega) (by omega) (by omega)]; exact h3, fun j hj => ?_, fun j hj => by rw [es _ _ _ (by omega) (by omega) (by omega) (by omega)]; exact h5 j hj, fun j hj => by rw [es _ _ _ (by omega) (by omega) (by omega) (by omega)]; exact h6 j hj⟩
    obtain ⟨⟨q1, q2, q3, q4, q5⟩, q6⟩ := h4 j hj
    have e9 : ∀ f, vsS σ nv kn fam y 9 j f = σ 9 j f := fun f => es _ _ _ (by omega) (by omega) (by omega) (by omega)
    have e20 : ∀ r, 16 ≤ r → vsS σ nv kn fam y 20 r j = σ 20 r j := fun r hr => es _ _ _ (by omega) (by omega) (by omega) (by omega)
    rw [e9 6, e20 21 (by omega)]
    refine ⟨?_, q6⟩
    unfold VR
    rw [e9, e9, e9, e9, e9, e9, e20 16 (by omega), e20 17 (by omega), e20 18 (by omega), e20 19 (by omega), e20 20 (by omega), hlw _ q3]
    exact ⟨q1, q2, fun v hv hb => by have := q3 v hv hb; omega, q4, q5⟩
end Vis
theorem eq_visitor : Eq3 Inv sp_X10_visitor sp_X11_visitor := by
  intro a b c w σ Q1 hI hK
  obtain ⟨n, np, nv, hV⟩ := id hI
  have h14 := hV.2.2.1.1
  by_cases h1 : 0 ≤ a ∧ a < 4
  rotate_left
  · refine And.intro (fun z9 => absurd z9 (h1)) (fun _ => And.intro (fun _ => ?_) (fun z9 => absurd rfl z9))
    refine hK _ _ _ fun K2 h2 => ?_
    refine And.intro (fun z9 => absurd z9 (fun q => h1 ((Bn (n := 4) (by decide)).mpr ((In (m := 3) (by decide)).mp q)))) (fun _ => And.intro (fun _ => ?_) (fun z9 => absurd rfl z9))
    exact h2 _ _ hI
  refine And.intro (fun _ => And.intro (fun z9 => absurd z9 (by decide)) (fun _ => ?_)) (fun z9 => absurd (h1) z9)
  obtain ⟨kn, hk, rfl⟩ := (Bn (n := 4) (by decide)).mp h1
  have m1 : ¬ nI kn < 0 ∧ ¬ 3 < nI kn := (In (m := 3) (by decide)).mpr ⟨kn, hk, rfl⟩
  by_cases h3 : 0 ≤ b ∧ b < 10
  rotate_left
  · refine And.intro (fun z9 => absurd z9 (h3)) (fun _ => And.intro (fun _ => ?_) (fun z9 => absurd rfl z9))
    refine hK _ _ _ fun K2 h2 => ?_
    refine And.intro (fun _ => And.intro (fun z9 => absurd z9 (by decide)) (fun _ => ?_)) (fun z9 => absurd (m1) z9)
    refine And.intro (fun z9 => absurd z9 (fun q => h3 ((Bn (n := 10) (by decide)).mpr ((In (m := 9) (by decide)).mp q)))) (fun _ => And.intro (fun _ => ?_) (fun z9 => absurd rfl z9))
    exact h2 _ _ hI
  refine And.intro (fun _ => And.intro (fun z9 => absurd z9 (by decide)) (fun _ => ?_)) (fun z9 => absurd (h3) z9)
  have m2 : ¬ b < 0 ∧ ¬ 9 < b := (In (m := 9) (by decide)).mpr ((Bn (n := 10) (by decide)).mp h3)
  by_cases h4 : 0 ≤ c ∧ c < 21
  rotate_left
  · refine And.intro (fun z9 => absurd z9 (h4)) (fun _ => And.intro (fun _ => ?_) (fun z9 => absurd rfl z9))
    refine hK _ _ _ fun K2 h2 => ?_
    refine And.intro (fun _ => And.intro (fun z9 => absurd z9 (by decide)) (fun _ => ?_)) (fun z9 => absurd (m1) z9)
    refine And.intro (fun _ => And.intro (fun z9 => absurd z9 (by decide)) (fun _ => ?_)) (fun z9 => absurd (m2) z9)
    refine And.intro (fun z9 => absurd z9 (fun q => h4 ((Bn (n := 21) (by decide)).mpr ((In (m := 20) (by decide)).mp q)))) (fun _ => And.intro (fun _ => ?_) (fun z9 => absurd rfl z9))
    exact h2 _ _ hI
  refine And.intro (fun _ => And.intro (fun z9 => absurd z9 (by decide)) (fun _ => ?_)) (fun z9 => absurd (h4) z9)
  have m3 : ¬ c < 0 ∧ ¬ 20 < c := (In (m := 20) (by decide)).mpr ((Bn (n := 21) (by decide)).mp h4)
  have e7 := hV.2.2.1.2.2.1
  refine ⟨nv, kn, h14, hV.2.2.1.2.1, hk, rfl, fun hlt => ?_, fun hge => ?_⟩
  · refine hK _ _ _ fun K2 h2 => ?_
    refine And.intro (fun _ => And.intro (fun z9 => absurd z9 (by decide)) (fun _ => ?_)) (fun z9 => absurd (m1) z9)
    refine And.intro (fun _ => And.intro (fun z9 => absurd z9 (by decide)) (fun _ => ?_)) (fun z9 => absurd (m2) z9)
    refine And.intro (fun _ => And.intro (fun z9 => absurd z9 (by decide)) (fun _ => ?_)) (fun z9 => absurd (m3) z9)
    have z : ¬ avS σ (nI kn) c 11 0 7 = 14 := by
      rw [av_o (by omega) (by omega), e7]
      exact fun q => by have := (nI_eq (b := 14) (by omega) (by decide)).mp q; omega
    refine And.intro (fun z9 => absurd z9 (z)) (fun _ => ?_)
    have e8 : avS σ (nI kn) c 11 0 7 = nI nv := by rw [av_o (by omega) (by omega)]; exact e7
    have e9 : (avS σ (nI kn) c 11 0 7).toNatClampNeg = nv := by rw [e8, nI_clamp (by omega)]
    have hin : vp_in (avS σ (nI kn) c 11 0 7) 14 := by rw [e8]; exact vp_in_nI hlt (by decide)
    refine And.intro hin (And.intro hin (And.intro hin ?_))
    show K2 (some (HI (avS σ (nI kn) c 11 0 7 + 1 - 1))) w (up3 (up3 (up3 (up3 (avS σ (nI kn) c) 20 5 (avS σ (nI kn) c 11 0 7).toNatClampNeg (nI kn)) 20 6 (avS σ (nI kn) c 11 0 7).toNatClampNeg b) 20 7 (avS σ (nI kn) c 11 0 7).toNatClampNeg c) 11 0 7 (avS σ (nI kn) c 11 0 7 + 1))
    rw [e9, e8, show nI nv + 1 - 1 = σ 2 0 4 from by rw [hV.2.2.1.2.1, nI_1, nI_pred]]
    exact h2 _ _ ⟨n, np, nv + 1, vs_inv hV hlt hk⟩
  · refine hK _ _ _ fun K2 h2 => ?_
    refine And.intro (fun _ => And.intro (fun z9 => absurd z9 (by decide)) (fun _ => ?_)) (fun z9 => absurd (m1) z9)
    refine And.intro (fun _ => And.intro (fun z9 => absurd z9 (by decide)) (fun _ => ?_)) (fun z9 => absurd (m2) z9)
    refine And.intro (fun _ => And.intro (fun z9 => absurd z9 (by decide)) (fun _ => ?_)) (fun z9 => absurd (m3) z9)
    have z : σ 11 0 7 = 14 := by rw [e7, show nv = 14 from by omega]; rfl
    refine And.intro (fun _ => ?_) (fun z9 => absurd (z) z9)
    exact h2 _ _ hI
/-- a prisoner more -/
def prS (σ : HS) (i m n : Nat) (a b : Int32) : HS := finS 3 i n (fiS (up3 (up3 (zr (up3 (zr σ 33 i) 33 i 2 1) 13 m) 33 i 0 a) 33 i 1 b) 13 m (al 13 m) 401)
def prW (w : HW) (np : Nat) : HW := ((finW 3 ((wRow (wRaw w 3) 13).1, up2 (wRow (wRaw w 3) 13).2 33 4 (some (w.1 13)))).1, up2 (finW 3 ((wRow (wRaw w 3) 13).1, up2 (wRow (wRaw w 3) 13).2 33 4 (some (w.1 13)))).2 15 np (some (w.1 3)))
def prT (σ : HS) (i np : Nat) (a b : Int32) : HS := up3 (up3 (up3 (up3 (up3 (prS σ i (np + 4) np a b) 2 0 1 (nI np + 1)) 20 0 np a) 20 1 np b) 20 2 np 1) 11 0 1 (nI np + 1)
theorem pr_o {σ : HS} {i np k j f : Nat} {a b : Int32} (h1 : k < 30) (h2 : ¬ (k = 3 ∧ j = np)) (h3 : ¬ (k = 13 ∧ j = np + 4)) : prS σ i (np + 4) np a b k j f = σ k j f := by
  unfold prS finS
  rw [if_neg h2]
  unfold fiS
  rw [if_neg (fun q => h3 ⟨q.1, q.2.1⟩), up3_o (by omega), up3_o (by omega)]
  unfold zr
  rw [if_neg h3, up3_o (by omega), if_neg (by omega)]
theorem pr_inv {w : HW} {σ : HS} {n np nv i : Nat} {a b : Int32} (hV : Ivs w σ n np nv) (h10 : np < 10) (ha : ∃ c, c < 4 ∧ a = nI c) (hb : ∃ f, f < 10 ∧ b = nI f) : Ivs (prW w np) (prT σ i np a b) n (np + 1) nv := by
  obtain ⟨hW, hP, hVv, hR, hB, hS, hT, hM⟩ := hV
  have es : ∀ k j f, k < 30 → ¬ (k = 3 ∧ j = np) → ¬ (k = 13 ∧ j = np + 4) → ¬ (k = 2 ∧ f = 1) → ¬ (k = 11 ∧ f = 1) → ¬ (k = 20 ∧ j ≤ 2 ∧ f = np) → prT σ i np a b k j f = σ k j f := fun k j f h1 h2 h3 h4 h5 h6 => by
    unfold prT
    rw [up3_o (by omega), up3_o (by omega), up3_o (by omega), up3_o (by omega), up3_o (by omega), pr_o h1 h2 h3]
  have n3 : ∀ f, prT σ i np a b 3 np f = if f = 1 then b else if f = 0 then a else if f = 2 then 1 else 0 := fun f => by
    show prS σ i (np + 4) np a b 3 np f = _
    unfold prS finS
    rw [if_pos ⟨rfl, rfl⟩]
    unfold fiS
    rw [if_neg (by omega)]
    by_cases c1 : f = 1
    · subst c1
      rw [if_pos rfl]
      exact up3_v
    rw [if_neg c1, up3_o (by omega)]
    by_cases c0 : f = 0
    · subst c0
      rw [if_pos rfl]
      exact up3_v
    rw [if_neg c0, up3_o (by omega)]
    unfold zr
    rw [if_neg (by omega)]
    by_cases c2 : f = 2
    · subst c2
      rw [if_pos rfl]
      exact up3_v
    rw [if_neg c2, up3_o (by omega), if_pos ⟨rfl, rfl⟩]
  have n13 : ∀ v, v < 14 → prT σ i np a b 13 (np + 4) v = 401 := fun v hv => by
    show prS σ i (np + 4) np a b 13 (np + 4) v = _
    unfold prS finS
    rw [if_neg (by omega)]
    unfold fiS
    rw [al13]
    exact if_pos ⟨rfl, rfl, hv⟩
  have w2 : ∀ k j, k < 30 → ¬ (k = 15 ∧ j = np) → ¬ k = 3 → (prW w np).2 k j = w.2 k j := fun k j h1 h2 h3 => by
    unfold prW
    show up2 _ 15 np _ k j = _
    unfold up2
    rw [if_neg h2]
    show (if k = 30 + 3 ∧ j = 99 then _ else if 3 = 10 ∧ k = 10 ∧ j = 0 then _ else _) = _
    rw [if_neg (by omega), if_neg (by omega)]
    show up2 _ 33 4 _ k j = _
    unfold up2
    rw [if_neg (by omega)]
    exact if_neg (by omega)
  have w1 : ∀ k, k < 30 → (prW w np).1 k = if k = 3 ∨ k = 13 then w.1 k + 1 else w.1 k := fun k h1 => by
    show up1 (up1 (up1 w.1 33) 13) 3 k = _
    by_cases c3 : k = 3
    · subst c3
      rw [up1_v, up1_ne (by omega), up1_ne (by omega), if_pos (Or.inl rfl)]
    rw [up1_ne c3]
    by_cases c13 : k = 13
    · subst c13
      rw [up1_v, up1_ne (by omega), if_pos (Or.inr rfl)]
    rw [up1_ne c13, up1_ne (by omega), if_neg (by omega)]
  refine ⟨?_, ?_, hVv.cd fun k i f hr => es k i f (by unfold rdVi at hr; omega) (by unfold rdVi at hr; omega) (by unfold rdVi at hr; omega) (by unfold rdVi at hr; omega) (by unfold rdVi at hr; omega) (by unfold rdVi at hr; omega), ?_, ?_, hS.cd fun k i f hr => es k i f (by unfold rdSh at hr; omega) (by unfold rdSh at hr; omega) (by unfold rdSh at hr; omega) (by unfold rdSh at hr; omega) (by unfold rdSh at hr; omega) (by unfold rdSh at hr; omega), hT.cd fun k i f hr => es k i f (by unfold rdTa at hr; omega) (by unfold rdTa at hr; omega) (by unfold rdTa at hr; omega) (by unfold rdTa at hr; omega) (by unfold rdTa at hr; omega) (by unfold rdTa at hr; omega), hM.cd fun k i f hr => es k i f (by unfold rdMi at hr; omega) (by unfold rdMi at hr; omega) (by unfold rdMi at hr; omega) (by unfold rdMi at hr; omega) (by unfold rdMi at hr; omega) (by unfold rdMi at hr; omega)⟩
  · obtain ⟨a1, a2, a3, a4, a5, a6, a7, a8, a9⟩ := hW
    refine ⟨by rw [w1 3 (by omega), if_pos (Or.inl rfl), a1], by rw [w1 13 (by omega), if_pos (Or.inr rfl), a2], by rw [w1 9 (by omega), if_neg (by omega)]; exact a3, by rw [w2 10 0 (by omega) (by omega) (by omega)]; exact a4, fun j hj => by rw [w2 18 j (by omega) (by omega) (by omega)]; exact a5 j hj, fun j hj => ?_, by rw [w2 17 0 (by omega) (by omega) (by omega)]; exact a7, by rw [w2 17 1 (by omega) (by omega) (by omega)]; exact a8, fun c r h => ?_⟩
    · by_cases c : j = np
      · subst c
        show up2 _ 15 j (some (w.1 3)) 15 j = some j
        rw [a1]
        exact if_pos ⟨rfl, rfl⟩
      · rw [w2 15 j (by omega) (by omega) (by omega)]
        exact a6 j (by omega)
    · rw [w2 16 c (by omega) (by omega) (by omega)] at h
      rw [w1 4 (by omega), if_neg (by omega)]
      exact a9 c r h
  · obtain ⟨h1, h2, h3, h4, h5⟩ := hP
    have o20 : ∀ r p, ¬ (r ≤ 2 ∧ p = np) → prT σ i np a b 20 r p = σ 20 r p := fun r p h => es _ _ _ (by omega) (by omega) (by omega) (by omega) (by omega) (by omega)
    refine ⟨by omega, nI_1 np, nI_1 np, fun p hp => ?_, fun p hp hp2 => ?_⟩
    · by_cases c : p = np
      · subst c
        have q := h5 p (by omega) (by omega)
        obtain ⟨ca, hca, rfl⟩ := ha
        obtain ⟨fb, hfb, rfl⟩ := hb
        have r0 : prT σ i p (nI ca) (nI fb) 20 0 p = nI ca := by
          unfold prT
          rw [up3_o (by omega), up3_o (by omega), up3_o (by omega)]
          exact up3_v
        have r1 : prT σ i p (nI ca) (nI fb) 20 1 p = nI fb := by
          unfold prT
          rw [up3_o (by omega), up3_o (by omega)]
          exact up3_v
        have r2 : prT σ i p (nI ca) (nI fb) 20 2 p = 1 := by
          unfold prT
          rw [up3_o (by omega)]
          exact up3_v
        rw [n3, n3, n3, n3, r0, r1, r2, o20 3 p (by omega)]
        refine ⟨⟨ca, hca, rfl, rfl⟩, ⟨fb, hfb, rfl, rfl⟩, Or.inr rfl, rfl, q.1, fun v hv => ?_⟩
        rw [n13 v hv, o20 4 _ (by omega)]
        exact Or.inl ⟨rfl, q.2 v hv⟩
      · have q := h4 p (by omega)
        have e3 : ∀ f, prT σ i np a b 3 p f = σ 3 p f := fun f => es _ _ _ (by omega) (by omega) (by omega) (by omega) (by omega) (by omega)
        rw [e3, e3, e3, e3, o20 0 p (by omega), o20 1 p (by omega), o20 2 p (by omega), o20 3 p (by omega)]
        exact ⟨q.1, q.2.1, q.2.2.1, q.2.2.2.1, q.2.2.2.2.1, fun v hv => by rw [es _ _ _ (by omega) (by omega) (by omega) (by omega) (by omega) (by omega), o20 4 _ (by omega)]; exact q.2.2.2.2.2 v hv⟩
    · have q := h5 p (by omega) hp2
      exact ⟨by rw [o20 3 p (by omega)]; exact q.1, fun v hv => by rw [o20 4 _ (by omega)]; exact q.2 v hv⟩
  · have hR' : IvR w (prT σ i np a b) := hR.cd fun k i f hr => es k i f (by unfold rdRi at hr; omega) (by unfold rdRi at hr; omega) (by unfold rdRi at hr; omega) (by unfold rdRi at hr; omega) (by unfold rdRi at hr; omega) (by unfold rdRi at hr; omega)
    intro c hc
    rw [w2 16 c (by omega) (by omega) (by omega)]
    exact hR' c hc
  · have hB' : IvB (prT σ i np a b) n np nv := hB.cd fun k i f hr => es k i f (by unfold rdBk at hr; omega) (by unfold rdBk at hr; omega) (by unfold rdBk at hr; omega) (by unfold rdBk at hr; omega) (by unfold rdBk at hr; omega) (by unfold rdBk at hr; omega)
    obtain ⟨h1, h2, h3, h4, h5⟩ := hB'
    refine ⟨h1, h2, h3, fun j hj => ?_, h5⟩
    obtain ⟨⟨⟨p, d, x, y, hp, hrest⟩, q2⟩, q6⟩ := h4 j hj
    exact ⟨⟨⟨p, d, x, y, by omega, hrest⟩, q2⟩, q6⟩
theorem eq_prisoner : Eq2 Inv sp_X10_prisoner sp_X11_prisoner := by
  intro a b w σ Q1 hI hK
  obtain ⟨n, np, nv, hV⟩ := id hI
  have h10 := hV.2.1.1
  by_cases h1 : 0 ≤ a ∧ a < 4
  rotate_left
  · refine And.intro (fun z9 => absurd z9 (h1)) (fun _ => And.intro (fun _ => ?_) (fun z9 => absurd rfl z9))
    refine hK _ _ _ fun K2 h2 => ?_
    refine And.intro (fun z9 => absurd z9 (fun q => h1 ((Bn (n := 4) (by decide)).mpr ((In (m := 3) (by decide)).mp q)))) (fun _ => And.intro (fun _ => ?_) (fun z9 => absurd rfl z9))
    exact h2 _ _ hI
  refine And.intro (fun _ => And.intro (fun z9 => absurd z9 (by decide)) (fun _ => ?_)) (fun z9 => absurd (h1) z9)
  have m1 : ¬ a < 0 ∧ ¬ 3 < a := (In (m := 3) (by decide)).mpr ((Bn (n := 4) (by decide)).mp h1)
  by_cases h3 : 0 ≤ b ∧ b < 10
  rotate_left
  · refine And.intro (fun z9 => absurd z9 (h3)) (fun _ => And.intro (fun _ => ?_) (fun z9 => absurd rfl z9))
    refine hK _ _ _ fun K2 h2 => ?_
    refine And.intro (fun _ => And.intro (fun z9 => absurd z9 (by decide)) (fun _ => ?_)) (fun z9 => absurd (m1) z9)
    refine And.intro (fun z9 => absurd z9 (fun q => h3 ((Bn (n := 10) (by decide)).mpr ((In (m := 9) (by decide)).mp q)))) (fun _ => And.intro (fun _ => ?_) (fun z9 => absurd rfl z9))
    exact h2 _ _ hI
  refine And.intro (fun _ => And.intro (fun z9 => absurd z9 (by decide)) (fun _ => ?_)) (fun z9 => absurd (h3) z9)
  have m2 : ¬ b < 0 ∧ ¬ 9 < b := (In (m := 9) (by decide)).mpr ((Bn (n := 10) (by decide)).mp h3)
  have e1 := hV.2.1.2.1
  have e11 := hV.2.1.2.2.1
  by_cases h4 : np < 10
  rotate_left
  · have z1 : ¬ σ 2 0 1 < 10 := by rw [e1, show np = 10 from by omega]; decide
    refine And.intro (fun z9 => absurd z9 (z1)) (fun _ => ?_)
    refine hK _ _ _ fun K2 h2 => ?_
    refine And.intro (fun _ => And.intro (fun z9 => absurd z9 (by decide)) (fun _ => ?_)) (fun z9 => absurd (m1) z9)
    refine And.intro (fun _ => And.intro (fun z9 => absurd z9 (by decide)) (fun _ => ?_)) (fun z9 => absurd (m2) z9)
    have z2 : σ 11 0 1 = 10 := by rw [e11, show np = 10 from by omega]; rfl
    refine And.intro (fun _ => ?_) (fun z9 => absurd (z2) z9)
    exact h2 _ _ hI
  have z1 : σ 2 0 1 < 10 := by rw [e1]; exact nI_lt (b := 10) h4 (by decide)
  refine And.intro (fun _ => ?_) (fun z9 => absurd (z1) z9)
  have hw3 : w.1 3 = np := hV.1.1
  have hw13 : w.1 13 = np + 4 := hV.1.2.1
  have hin1 : vp_in (σ 2 0 1) 10 := by rw [e1]; exact vp_in_nI h4 (by decide)
  have hfin : FinOK 3 (w.1 33) ((wRow (wRaw w 3) 13).1, up2 (wRow (wRaw w 3) 13).2 33 4 (some (w.1 13))) := ⟨rfl, fun h => absurd h (by decide), ⟨⟨⟨⟨⟨trivial, rfl⟩, rfl⟩, rfl⟩, rfl⟩, by
    show some (13, some (w.1 3 + 4)) = some (13, some (w.1 13))
    rw [hw3, hw13]⟩⟩
  refine ⟨Or.inr (Or.inr rfl), rfl, rfl, (by show al 13 (w.1 13) = 14; rw [hw13]; exact al13 np), rfl, Or.inl rfl, rfl, Or.inl rfl, rfl, rfl, rfl, hfin, hin1, ?_⟩
  refine hK _ _ _ fun K2 h2 => ?_
  refine And.intro (fun _ => And.intro (fun z9 => absurd z9 (by decide)) (fun _ => ?_)) (fun z9 => absurd (m1) z9)
  refine And.intro (fun _ => And.intro (fun z9 => absurd z9 (by decide)) (fun _ => ?_)) (fun z9 => absurd (m2) z9)
  have z2 : ¬ σ 11 0 1 = 10 := by rw [e11]; exact fun q => by have := (nI_eq (b := 10) (by omega) (by decide)).mp q; omega
  refine And.intro (fun z9 => absurd z9 (z2)) (fun _ => ?_)
  have hin2 : vp_in (σ 11 0 1) 10 := by rw [e11]; exact vp_in_nI h4 (by decide)
  have e9 : (σ 11 0 1).toNatClampNeg = np := by rw [e11, nI_clamp (by omega)]
  have e8 : (σ 2 0 1).toNatClampNeg = np := by rw [e1, nI_clamp (by omega)]
  refine And.intro hin2 (And.intro hin2 (And.intro hin2 ?_))
  have hfi : K2 (some (HI (σ 2 0 1))) (prW w np) (prT σ (w.1 33) np a b) := by
    exact h2 _ _ ⟨n, np + 1, nv, pr_inv hV h4 ((Bn (n := 4) (by decide)).mp h1) ((Bn (n := 10) (by decide)).mp h3)⟩
  show K2 (some (HI (σ 11 0 1 + 1 - 1))) ((finW 3 ((wRow (wRaw w 3) 13).1, up2 (wRow (wRaw w 3) 13).2 33 4 (some (w.1 13)))).1, up2 (finW 3 ((wRow (wRaw w 3) 13).1, up2 (wRow (wRaw w 3) 13).2 33 4 (some (w.1 13)))).2 15 (σ 2 0 1).toNatClampNeg (some (w.1 3))) (up3 (up3 (up3 (up3 (up3 (prS σ (w.1 33) (w.1 13) (w.1 3) a b) 2 0 1 (σ 2 0 1 + 1)) 20 0 (σ 11 0 1).toNatClampNeg a) 20 1 (σ 11 0 1).toNatClampNeg b) 20 2 (σ 11 0 1).toNatClampNeg 1) 11 0 1 (σ 11 0 1 + 1))
  rw [e9, e8, e11, e1, hw3, hw13]
  rw [e1] at hfi
  unfold prW prT at hfi
  rw [hw3, hw13] at hfi
  rw [show nI np + 1 - 1 = nI np from by rw [nI_1, nI_pred]]
  exact hfi
