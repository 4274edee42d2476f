/-! calls, 13: right -/
theorem pK_all {σ : HS} {w : HW} {K : HRt} {P : Prs} (h : ∀ x σ2, eqR σ σ2 → K (some (HI x)) w σ2) : pK σ w K P := by
  cases P with
  | inl p => exact fun σ2 h2 => h _ σ2 h2
  | inr t => exact fun σ2 h2 _ _ _ _ _ _ => h _ σ2 h2
theorem pack2 {w : HW} {σc σs : HS} {n np nv : Nat} (hs : Ivs w σs n np nv) (hc : ∀ k i f, k ≠ 11 → k ≠ 20 → k ≠ 21 → σs k i f = σc k i f) : CW w σc n np nv ∧ (∀ i, i < n → σc 9 i 7 = 0) ∧ ∀ σ1 σu, eqT (stS σc (wlC w σc n nv n).1 n) σ1 → (∀ k i f, k ≠ 11 → k ≠ 20 → k ≠ 21 → σu k i f = σ1 k i f) → (∀ k i f, k = 11 ∨ k = 20 ∨ k = 21 → ¬ (k = 11 ∧ 33 ≤ f ∧ f ≤ 41) → σu k i f = σs k i f) → MWf σu n np nv ∧ VWm σu n np ∧ ∀ σ2, eqB (msS σu (wlM σu n nv n).1 n) σ2 → Ivs w σ2 n np nv ∧ (wlC w σc n nv n).2 = (wlM σu n nv n).2 := by
  have e0 : mix σc σs = σs := mix_of hc (fun _ _ _ _ => rfl)
  have h0 : Ivs w (mix σc σs) n np nv := by rw [e0]; exact hs
  refine ⟨h0.cw, h0.lv, fun σ1 σu h1 h2 h3 => ?_⟩
  have hI : Ivs w (mix σc σu) n np nv := hs.cg fun k i f hk => by
    have n1 : ¬ (k = 11 ∧ 33 ≤ f ∧ f ≤ 41) := fun q => hk (by unfold Scr; omega)
    unfold mix
    split
    · exact h3 11 i f (Or.inl rfl) n1
    · exact h3 20 i f (Or.inr (Or.inl rfl)) n1
    · exact h3 21 i f (Or.inr (Or.inr rfl)) n1
    · rename_i a b c
      exact (hc k i f a b c).symm
  exact ⟨hI.mw.1, hI.mw.2, fun σ2 h4 => walk_both hI h1 h2 h4⟩
section Rt
variable {w : HW} {σ : HS} {n np nv : Nat}
/-- the tape is empty -/
theorem tape0 (hV : Ivs w σ n np nv) : Ivs w (up3 (up3 σ 8 0 1 0) 11 0 20 0) n np nv := ⟨hV.1, hV.2.1, hV.2.2.1, hV.2.2.2.1, hV.2.2.2.2.1, hV.2.2.2.2.2.1, ⟨0, by omega, rfl, rfl, fun j hj => absurd hj (Nat.not_lt_zero j)⟩, hV.2.2.2.2.2.2.2⟩
def rtW (w : HW) : HW := finW 4 (wRaw w 4)
theorem rtW_iv (h : IvW w n np) : IvW (rtW w) n np := by
  obtain ⟨h3, h13, h9, h10, h18, h15, h170, h171, h16⟩ := h
  exact ⟨h3, h13, h9, h10, h18, h15, h170, h171, fun c r q => Nat.lt_succ_of_lt (h16 c r q)⟩
/-- a right was read, and is not kept -/
theorem rt_no {σ1 : HS} (hV : Ivs w σ n np nv) (hD : eqD (w.1 34) (w.1 4) σ σ1) : Ivs (rtW w) σ1 n np nv := by
  have es : ∀ k i f, k ≠ 4 → k ≠ 5 → k < 30 → σ1 k i f = σ k i f := fun k i f h4 h5 h6 => hD k i f (by omega) (by omega) (by omega)
  have hR : IvR (rtW w) σ1 := fun c hc => by
    rcases hV.2.2.2.1 c hc with ⟨a, b⟩ | ⟨r, r1, r2, r3, r4⟩
    · exact Or.inl ⟨a, by rw [es _ _ _ (by omega) (by omega) (by omega)]; exact b⟩
    · have hr := hV.1.2.2.2.2.2.2.2.2 c r r1
      have e4 : ∀ f, σ1 4 r f = σ 4 r f := fun f => hD 4 r f (by omega) (by omega) (by omega)
      refine Or.inr ⟨r, r1, by rw [es _ _ _ (by omega) (by omega) (by omega)]; exact r2, fun f hf => by rw [e4, es _ _ _ (by omega) (by omega) (by omega)]; exact r3 f hf, by rw [e4]; exact r4⟩
  exact ⟨rtW_iv hV.1, hV.2.1.cd fun k i f hr => es k i f (by unfold rdPr at hr; omega) (by unfold rdPr at hr; omega) (by unfold rdPr at hr; omega), hV.2.2.1.cd fun k i f hr => es k i f (by unfold rdVi at hr; omega) (by unfold rdVi at hr; omega) (by unfold rdVi at hr; omega), hR, hV.2.2.2.2.1.cd fun k i f hr => es k i f (by unfold rdBk at hr; omega) (by unfold rdBk at hr; omega) (by unfold rdBk at hr; omega), hV.2.2.2.2.2.1.cd fun k i f hr => es k i f (by unfold rdSh at hr; omega) (by unfold rdSh at hr; omega) (by unfold rdSh at hr; omega), hV.2.2.2.2.2.2.1.cd fun k i f hr => es k i f (by unfold rdTa at hr; omega) (by unfold rdTa at hr; omega) (by unfold rdTa at hr; omega), hV.2.2.2.2.2.2.2.cd fun k i f hr => es k i f (by unfold rdMi at hr; omega) (by unfold rdMi at hr; omega) (by unfold rdMi at hr; omega)⟩
/-- a right is kept -/
def rtK (w : HW) (c : Nat) : HW := ((rtW w).1, up2 (rtW w).2 16 c (some (w.1 4)))
def rtS (σ : HS) (c : Nat) (t : Int32 × Int32 × Int32 × Int32 × Int32 × Int32) : HS := up3 (up3 (up3 (up3 (up3 (up3 (up3 σ 21 0 c 1) 20 9 c t.1) 20 10 c t.2.1) 20 11 c t.2.2.1) 20 12 c t.2.2.2.1) 20 13 c t.2.2.2.2.1) 20 14 c t.2.2.2.2.2
theorem rtS_o {c k i f : Nat} {t : Int32 × Int32 × Int32 × Int32 × Int32 × Int32} (h1 : ¬ (k = 21 ∧ i = 0 ∧ f = c)) (h2 : ¬ (k = 20 ∧ 9 ≤ i ∧ i ≤ 14 ∧ f = c)) : rtS σ c t k i f = σ k i f := by
  unfold rtS
  rw [up3_o (by omega), up3_o (by omega), up3_o (by omega), up3_o (by omega), up3_o (by omega), up3_o (by omega), up3_o h1]
theorem rtS_v {c : Nat} {t : Int32 × Int32 × Int32 × Int32 × Int32 × Int32} : rtS σ c t 21 0 c = 1 ∧ rtS σ c t 20 9 c = t.1 ∧ rtS σ c t 20 10 c = t.2.1 ∧ rtS σ c t 20 11 c = t.2.2.1 ∧ rtS σ c t 20 12 c = t.2.2.2.1 ∧ rtS σ c t 20 13 c = t.2.2.2.2.1 ∧ rtS σ c t 20 14 c = t.2.2.2.2.2 := by
  unfold rtS
  refine ⟨?_, ?_, ?_, ?_, ?_, ?_, up3_v⟩
  · rw [up3_o (by omega), up3_o (by omega), up3_o (by omega), up3_o (by omega), up3_o (by omega), up3_o (by omega), up3_v]
  · rw [up3_o (by omega), up3_o (by omega), up3_o (by omega), up3_o (by omega), up3_o (by omega), up3_v]
  · rw [up3_o (by omega), up3_o (by omega), up3_o (by omega), up3_o (by omega), up3_v]
  · rw [up3_o (by omega), up3_o (by omega), up3_o (by omega), up3_v]
  · rw [up3_o (by omega), up3_o (by omega), up3_v]
  · rw [up3_o (by omega), up3_v]
theorem rt_same {σ1 : HS} {c k i f : Nat} {t : Int32 × Int32 × Int32 × Int32 × Int32 × Int32} (d : (k = 21 ∧ i = 0 ∧ f = c) ∨ (k = 20 ∧ 9 ≤ i ∧ i ≤ 14 ∧ f = c)) : rtS σ1 c t k i f = rtS σ c t k i f := by
  obtain ⟨v21, v9, v10, v11, v12, v13, v14⟩ := @rtS_v σ1 c t
  obtain ⟨u21, u9, u10, u11, u12, u13, u14⟩ := @rtS_v σ c t
  rcases d with ⟨rfl, rfl, rfl⟩ | ⟨rfl, h1, h2, rfl⟩
  · rw [v21, u21]
  · have h : i = 9 ∨ i = 10 ∨ i = 11 ∨ i = 12 ∨ i = 13 ∨ i = 14 := by omega
    rcases h with rfl | rfl | rfl | rfl | rfl | rfl
    · rw [v9, u9]
    · rw [v10, u10]
    · rw [v11, u11]
    · rw [v12, u12]
    · rw [v13, u13]
    · rw [v14, u14]
theorem rt_yes {σ1 : HS} (hV : Ivs w σ n np nv) (h1 : Ivs (rtW w) σ1 n np nv) {c : Nat} (hc : c < 4) {t : Int32 × Int32 × Int32 × Int32 × Int32 × Int32} (hr : rdR (w.1 4) σ1 (.inr t)) (hm : ¬ t.2.1 < 1 ∧ ¬ 60 < t.2.1) : Ivs (rtK w c) (rtS σ1 c t) n np nv := by
  obtain ⟨h3, h13, h9, h10, h18, h15, h170, h171, h16⟩ := hV.1
  obtain ⟨-, q0, q1, q2, q3, q4, q5⟩ := hr
  obtain ⟨v21, v9, v10, v11, v12, v13, v14⟩ := @rtS_v σ1 c t
  have es : ∀ k i f, k ≠ 21 → ¬ (k = 20 ∧ 9 ≤ i ∧ i ≤ 14) → rtS σ1 c t k i f = σ1 k i f := fun k i f a b => rtS_o (by omega) (by omega)
  have hW : IvW (rtK w c) n np := by
    refine ⟨h3, h13, h9, h10, h18, h15, h170, h171, fun c' r q => ?_⟩
    have q' : (if 16 = 16 ∧ c' = c then some (w.1 4) else w.2 16 c') = some r := q
    show r < w.1 4 + 1
    by_cases e : c' = c
    · rw [if_pos ⟨rfl, e⟩] at q'
      cases q'
      omega
    · rw [if_neg fun z => e z.2] at q'
      exact Nat.lt_succ_of_lt (h16 c' r q')
  have hR : IvR (rtK w c) (rtS σ1 c t) := fun c' hc' => by
    by_cases e : c' = c
    · subst e
      obtain ⟨m, hm2, em⟩ := (In (m := 60) (by decide)).mp ⟨fun z => hm.1 (Int32.lt_trans z (by decide)), hm.2⟩
      have m1 : 1 ≤ m := (nI_leI (a := 1) (by omega) (by omega)).mp (Int32.not_lt.mp (by rw [← em]; exact hm.1))
      have e4 : ∀ f, rtS σ1 c' t 4 (w.1 4) f = σ1 4 (w.1 4) f := fun f => es _ _ _ (by omega) (by omega)
      refine Or.inr ⟨w.1 4, if_pos ⟨rfl, rfl⟩, v21, fun f hf => ?_, m, m1, by omega, by rw [e4, q1]; exact em⟩
      rw [e4]
      have hf6 : f = 0 ∨ f = 1 ∨ f = 2 ∨ f = 3 ∨ f = 4 ∨ f = 5 := by omega
      rcases hf6 with rfl | rfl | rfl | rfl | rfl | rfl
      · rw [q0]; exact v9.symm
      · rw [q1]; exact v10.symm
      · rw [q2]; exact v11.symm
      · rw [q3]; exact v12.symm
      · rw [q4]; exact v13.symm
      · rw [q5]; exact v14.symm
    · have e16 : (rtK w c).2 16 c' = (rtW w).2 16 c' := if_neg fun z => e z.2
      have o21 : rtS σ1 c t 21 0 c' = σ1 21 0 c' := rtS_o (by omega) (by omega)
      have o20 : ∀ i, rtS σ1 c t 20 i c' = σ1 20 i c' := fun i => rtS_o (by omega) (by omega)
      have o4 : ∀ r f, rtS σ1 c t 4 r f = σ1 4 r f := fun r f => es _ _ _ (by omega) (by omega)
      rw [e16, o21]
      simp only [o20, o4]
      exact h1.2.2.2.1 c' hc'
  exact ⟨hW, h1.2.1.cd fun k i f hr => es k i f (by unfold rdPr at hr; omega) (by unfold rdPr at hr; omega), h1.2.2.1.cd fun k i f hr => es k i f (by unfold rdVi at hr; omega) (by unfold rdVi at hr; omega), hR, h1.2.2.2.2.1.cd fun k i f hr => es k i f (by unfold rdBk at hr; omega) (by unfold rdBk at hr; omega), h1.2.2.2.2.2.1.cd fun k i f hr => es k i f (by unfold rdSh at hr; omega) (by unfold rdSh at hr; omega), h1.2.2.2.2.2.2.1.cd fun k i f hr => es k i f (by unfold rdTa at hr; omega) (by unfold rdTa at hr; omega), h1.2.2.2.2.2.2.2.cd fun k i f hr => es k i f (by unfold rdMi at hr; omega) (by unfold rdMi at hr; omega)⟩
end Rt
theorem eq_right : Eq1 Inv sp_X10_right sp_X11_right := by
  intro a w σ Q1 hI hK
  obtain ⟨n, np, nv, hV⟩ := id hI
  obtain ⟨t, ht, e8, e11, hby⟩ := hV.2.2.2.2.2.2.1
  have h0 := tape0 hV
  by_cases h1 : 0 ≤ a ∧ a < 4
  rotate_left
  · refine And.intro (fun z9 => absurd z9 (h1)) (fun _ => And.intro (fun _ => ?_) (fun z9 => absurd rfl z9))
    refine hK _ _ _ fun K2 h2 => ?_
    refine ⟨t, ht, e11, ?_⟩
    refine pK_all fun x σ2 hR => ?_
    refine And.intro (fun z9 => absurd z9 (fun q => h1 ((Bn (n := 4) (by decide)).mpr ((In (m := 3) (by decide)).mp q)))) (fun _ => And.intro (fun _ => ?_) (fun z9 => absurd rfl z9))
    refine h2 _ _ ⟨n, np, nv, h0.cg fun k i f hs => ?_⟩
    by_cases c : k = 11 ∧ i = 0 ∧ f = 20
    · obtain ⟨rfl, rfl, rfl⟩ := c
      rw [up3_v, up3_v]
    · rw [up3_o c, up3_o c]
      exact hR k i f fun q => hs (by unfold Scr; omega)
  refine And.intro (fun _ => And.intro (fun z9 => absurd z9 (by decide)) (fun _ => ?_)) (fun z9 => absurd (h1) z9)
  obtain ⟨c, hc, rfl⟩ := (Bn (n := 4) (by decide)).mp h1
  have m1 : ¬ nI c < 0 ∧ ¬ 3 < nI c := (In (m := 3) (by decide)).mpr ⟨c, by omega, rfl⟩
  have ec : (nI c).toNatClampNeg = c := nI_clamp (by omega)
  have inc : vp_in (nI c) 4 := vp_in_nI hc (by decide)
  refine ⟨t, ht, e8, fun σ1 hD hR => ?_⟩
  have er : ∀ k i f, k = 11 ∨ k = 20 ∨ k = 21 → σ1 k i f = σ k i f := fun k i f hk => hD k i f (by omega) (by omega) (by omega)
  have hN := rt_no hV hD
  have hN0 := tape0 hN
  have e20 : (up3 σ1 8 0 1 0) 20 15 = σ 20 15 := funext fun j => by rw [up3_o (by omega)]; exact er _ _ _ (by omega)
  have e1120 : (up3 σ1 8 0 1 0) 11 0 20 = nI t := by rw [up3_o (by omega), er _ _ _ (by omega)]; exact e11
  have hok := prs_ok (T := σ 12 0) ht
  cases hp : prs (σ 12 0) t with
  | inl p =>
    rw [hp] at hR hok
    have hp2 : prs ((up3 σ1 8 0 1 0) 20 15) t = .inl p := by rw [e20, ← prs_both hby]; exact hp
    have zf : ¬ σ1 5 0 3 = -1 := by
      rw [hR.2]
      exact fun q => absurd (q ▸ nI_pos' (n := p) (by have := hR.1; omega) : (0 : Int32) ≤ -1) (by decide)
    refine And.intro (fun _ => And.intro (fun z9 => absurd z9 (by decide)) (fun _ => ?_)) (fun z9 => absurd (zf) z9)
    refine hK _ _ _ fun K2 h2 => ?_
    refine ⟨t, ht, e1120, ?_⟩
    rw [hp2]
    intro σ2 hE
    refine And.intro (fun _ => And.intro (fun z9 => absurd z9 (by decide)) (fun _ => ?_)) (fun z9 => absurd (m1) z9)
    have z0 : ¬ nI p < 0 := nI_pos (by have := hR.1; omega)
    refine And.intro (fun z9 => absurd z9 (z0)) (fun _ => ?_)
    have fin : K2 (some (HI (-100 - σ1 5 0 3))) (rtW w) (up3 σ2 11 0 20 0) := by
      refine h2 _ _ ⟨n, np, nv, hN0.cg fun k i f hs => ?_⟩
      by_cases c : k = 11 ∧ i = 0 ∧ f = 20
      · obtain ⟨rfl, rfl, rfl⟩ := c
        rw [up3_v, up3_v]
      · rw [up3_o c, up3_o c]
        exact hE k i f fun q => hs (by unfold Scr; omega)
    rw [hR.2] at fin
    exact fin
  | inr tt =>
    rw [hp] at hR hok
    have hp2 : prs ((up3 σ1 8 0 1 0) 20 15) t = .inr tt := by rw [e20, ← prs_both hby]; exact hp
    have zf : ¬ ¬ σ1 5 0 3 = -1 := fun q => q hR.1
    refine And.intro (fun z9 => absurd z9 (zf)) (fun _ => And.intro (fun _ => ?_) (fun z9 => absurd rfl z9))
    refine And.intro inc ?_
    have hR0 : rdR (w.1 4) (up3 (up3 σ1 8 0 1 0) 11 0 20 0) (.inr tt) := hR
    have hs := rt_yes hV hN0 hc hR0 hok
    obtain ⟨hcw, hlv, hgo⟩ := pack2 (σc := up3 σ1 8 0 1 0) hs (fun k i f g1 g2 g3 => by rw [rtS_o (by omega) (by omega), up3_o (by omega)])
    have ew : (((finW 4 (wRaw w 4)).1, up2 (finW 4 (wRaw w 4)).2 16 (nI c).toNatClampNeg (some (w.1 4))) : HW) = rtK w c := by rw [ec]; rfl
    have main : ∃ n np nv, CW (rtK w c) (up3 σ1 8 0 1 0) n np nv ∧ (∀ i, i < n → (up3 σ1 8 0 1 0) 9 i 7 = 0) ∧ ∀ σ', eqT (stS (up3 σ1 8 0 1 0) (wlC (rtK w c) (up3 σ1 8 0 1 0) n nv n).1 n) σ' → Q1 (some (HI (nI (wlC (rtK w c) (up3 σ1 8 0 1 0) n nv n).2))) (rtK w c) σ' := by
      refine ⟨n, np, nv, hcw, hlv, fun σ3 hT => ?_⟩
      have er3 : ∀ k i f, k = 11 ∨ k = 20 ∨ k = 21 → σ3 k i f = σ1 k i f := fun k i f hk => by rw [eqT_r hT hk, up3_o (by omega)]
      refine hK _ _ _ fun K2 h2 => ?_
      refine ⟨t, ht, by rw [er3 _ _ _ (by omega), er _ _ _ (by omega)]; exact e11, ?_⟩
      have e20' : σ3 20 15 = σ 20 15 := funext fun j => by rw [er3 _ _ _ (by omega)]; exact er _ _ _ (by omega)
      have hp3 : prs (σ3 20 15) t = .inr tt := by rw [e20', ← prs_both hby]; exact hp
      rw [hp3]
      intro σ2 hE f36 f37 f38 f39 f40 f41
      refine And.intro (fun _ => And.intro (fun z9 => absurd z9 (by decide)) (fun _ => ?_)) (fun z9 => absurd (m1) z9)
      refine And.intro (fun _ => ?_) (fun z9 => absurd ((by decide : (-1 : Int32) < 0)) z9)
      refine And.intro (Or.inr rfl) (And.intro inc (And.intro inc (And.intro inc (And.intro inc (And.intro inc (And.intro inc (And.intro inc ?_)))))))
      obtain ⟨σu, hu⟩ : ∃ σu, σu = rtS (up3 σ2 11 0 20 0) c (σ2 11 0 36, σ2 11 0 37, σ2 11 0 38, σ2 11 0 39, σ2 11 0 40, σ2 11 0 41) := ⟨_, rfl⟩
      have ett : ((σ2 11 0 36, σ2 11 0 37, σ2 11 0 38, σ2 11 0 39, σ2 11 0 40, σ2 11 0 41) : Int32 × Int32 × Int32 × Int32 × Int32 × Int32) = tt := by
        rw [f36, f37, f38, f39, f40, f41]
      rw [ett] at hu
      obtain ⟨hm, hvm, hgo2⟩ := hgo σ3 σu hT (fun k i f g1 g2 g3 => by
        rw [hu, rtS_o (by omega) (by omega), up3_o (by omega)]
        exact hE k i f (by omega)) (fun k i f hk hn => by
        rw [hu]
        by_cases d : (k = 21 ∧ i = 0 ∧ f = c) ∨ (k = 20 ∧ 9 ≤ i ∧ i ≤ 14 ∧ f = c)
        · exact rt_same d
        · rw [rtS_o (by omega) (by omega), rtS_o (by omega) (by omega)]
          by_cases d2 : k = 11 ∧ i = 0 ∧ f = 20
          · obtain ⟨rfl, rfl, rfl⟩ := d2
            rw [up3_v, up3_v]
          · rw [up3_o d2, up3_o d2, up3_o (by omega), hE k i f (by omega)]
            exact er3 k i f hk)
      have last : ∀ σv, σv = σu → ∃ n np nv, MWf σv n np nv ∧ VWm σv n np ∧ ∀ σ', eqB (msS σv (wlM σv n nv n).1 n) σ' → K2 (some (HI (nI (wlM σv n nv n).2))) (rtK w c) σ' := by
        rintro σv rfl
        refine ⟨n, np, nv, hm, hvm, fun σ4 h9 => ?_⟩
        obtain ⟨g1, g2⟩ := hgo2 σ4 h9
        rw [← g2]
        exact h2 _ _ ⟨n, np, nv, g1⟩
      refine last _ ?_
      rw [hu, ← ett]
      show rtS (up3 σ2 11 0 20 0) (nI c).toNatClampNeg (σ2 11 0 36, σ2 11 0 37, σ2 11 0 38, σ2 11 0 39, σ2 11 0 40, σ2 11 0 41) = _
      rw [ec]
    rw [← ew] at main
    exact main
