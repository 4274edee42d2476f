/-! calls, 10: why -/
section Ask1
variable {w : HW} {σ : HS} {n np nv : Nat} {a s c h lw : Int32}
theorem fill_o {i k j f : Nat} (h1 : ¬ (k = 9 ∧ j = i ∧ f ≤ 5)) : fillS σ i a s c h lw k j f = σ k j f := by
  unfold fillS
  rw [up3_o (by omega), up3_o (by omega), up3_o (by omega), up3_o (by omega), up3_o (by omega), up3_o (by omega)]
theorem fill_v {i : Nat} : fillS σ i a s c h lw 9 i 0 = a ∧ fillS σ i a s c h lw 9 i 1 = s ∧ fillS σ i a s c h lw 9 i 2 = c ∧ fillS σ i a s c h lw 9 i 3 = h / 10 ∧ fillS σ i a s c h lw 9 i 4 = h - h / 10 * 10 ∧ fillS σ i a s c h lw 9 i 5 = lw := by
  unfold fillS
  refine ⟨?_, ?_, ?_, ?_, ?_, up3_v⟩
  · rw [up3_o (by omega), up3_o (by omega), up3_o (by omega), up3_o (by omega), up3_o (by omega), up3_v]
  · rw [up3_o (by omega), up3_o (by omega), up3_o (by omega), up3_o (by omega), up3_v]
  · rw [up3_o (by omega), up3_o (by omega), up3_o (by omega), up3_v]
  · rw [up3_o (by omega), up3_o (by omega), up3_v]
  · rw [up3_o (by omega), up3_v]
theorem fill_inv (hV : Ivs w σ n np nv) : Ivs w (fillS σ n a s c h lw) n np nv := hV.cg fun k i f hs => fill_o fun q => hs (by unfold Scr; omega)
theorem asked (hV : Ivs w σ n np nv) (hA : AskP σ np nv a s c h) (h01 : lw = 0 ∨ lw = 1) (hlw : lw = 1 ↔ lwC σ s) : ∃ p d x y, p < np ∧ a = nI p ∧ d ≤ 400 ∧ c = nI d ∧ h / 10 = nI x ∧ h - h / 10 * 10 = nI y ∧ 1 ≤ y ∧ y ≤ 4 ∧ x + y ≤ 12 ∧ VQ (fillS σ n a s c h lw) np nv n p d x y s := by
  obtain ⟨⟨p, hp, ea⟩, ⟨hset, hs1, hs3⟩, ⟨hc1, hc2⟩, x, hx, eh, y1, y4, hxy⟩ := hA
  obtain ⟨td, htd, t1, t2⟩ := hV.2.2.2.2.2.2.2.1
  obtain ⟨e1, e2⟩ := hv_q hx
  obtain ⟨f0, f1, f2, f3, f4, f5⟩ := @fill_v σ a s c h lw n
  have hc0 : ¬ c < 0 := fun z => hc1 (Int32.lt_of_lt_of_le z (by rw [t1]; exact nI_pos' (by omega)))
  obtain ⟨d, hd, ec⟩ := (In (m := 400) (by decide)).mp ⟨hc0, hc2⟩
  have eh1 : h / 10 = nI (x / 10) := by rw [eh]; exact e1
  have eh2 : h - h / 10 * 10 = nI (x % 10) := by rw [eh]; exact e2
  refine ⟨p, d, x / 10, x % 10, hp, ea, by omega, ec, eh1, eh2, y1, y4, hxy, hp, by omega, hxy, by rw [f0]; exact ea, f1, by rw [f2]; exact ec, by rw [f3]; exact eh1, by rw [f4]; exact eh2, hset, by rw [f5]; exact h01, ?_⟩
  · rw [f5, hlw]
    exact lw_eq hV.2.2.1 hset
theorem VQ.vw {v p d x y : Nat} (h : VQ σ np nv v p d x y s) : VW σ np v := by
  obtain ⟨hp, hd, hab, v0, v1, v2, v3, v4, hset, h01, hlw⟩ := h
  exact ⟨⟨p, hp, v0⟩, ⟨x, y, v3, v4, hab⟩, h01⟩
theorem rfM_eq {σ' : HS} {p d x y : Nat} (h : ∀ k i f, k = 11 ∨ k = 20 ∨ k = 21 → σ' k i f = σ k i f) : rfM σ' n nv p d x y s = rfM σ n nv p d x y s := by
  have e : mix σ σ' = σ := mix_of (fun _ _ _ _ _ _ => rfl) h
  have e1 : rfM (mix σ σ') n nv p d x y s = rfM σ' n nv p d x y s := rfl
  rw [← e1, e]
theorem rfS_eq {σ' : HS} {p d x y : Nat} (h : ∀ k i f, k = 11 ∨ k = 20 ∨ k = 21 → σ' k i f = σ k i f) : rfS σ' n nv p d x y s = rfS σ n nv p d x y s := by
  have e : mix σ σ' = σ := mix_of (fun _ _ _ _ _ _ => rfl) h
  have e1 : rfS (mix σ σ') n nv p d x y s = rfS σ' n nv p d x y s := rfl
  rw [← e1, e]
end Ask1
def RefOK (σ : HS) (a s c h : Int32) : Prop := (¬ a < 0 ∧ ¬ σ 11 0 1 - 1 < a) ∧ (¬ s < 1 ∧ ¬ (1 : Int32) <<< (σ 11 0 7 &&& 31) - 1 < s) ∧ ¬ 3 < bsum s 31 ∧ (¬ c < σ 11 0 0 ∧ ¬ 400 < c) ∧ ¬ h < 0 ∧ (¬ h - h / 10 * 10 < 1 ∧ ¬ 4 < h - h / 10 * 10) ∧ ¬ 12 < h / 10 + (h - h / 10 * 10)
theorem ref_ok {w : HW} {σ σ' : HS} {n np nv : Nat} {a s c h : Int32} (hV : Ivs w σ n np nv) (hA : AskP σ np nv a s c h) (e1 : σ' 11 0 1 = σ 11 0 1) (e7 : σ' 11 0 7 = σ 11 0 7) (e0 : σ' 11 0 0 = σ 11 0 0) : RefOK σ' a s c h := by
  obtain ⟨td, htd, t1, t2⟩ := hV.2.2.2.2.2.2.2.1
  have h10 := hV.2.1.1
  have h14 := hV.2.2.1.1
  unfold RefOK
  rw [e1, e7, e0, hV.2.1.2.2.1, hV.2.2.1.2.2.1, t2, ← t1]
  obtain ⟨q1, q2⟩ := (pt_ref h14).mpr hA.2.1
  obtain ⟨r1, r2, r3⟩ := hv_ref.mpr hA.2.2.2
  exact ⟨(Pn (by omega)).mpr hA.1, q1, q2, hA.2.2.1, r1, r2, r3⟩
theorem eq_why : Eq4 Inv sp_X10_why sp_X11_why := by
  intro a s c h w σ Q1 hI hK
  obtain ⟨n, np, nv, hV⟩ := id hI
  have h10 := hV.2.1.1
  have h14 := hV.2.2.1.1
  obtain ⟨td, htd, t1, t2⟩ := hV.2.2.2.2.2.2.2.1
  refine can_c hV (fun hA => ?_) (fun hN => ?_)
  rotate_left
  · refine And.intro (fun _ => ?_) (fun z => absurd rfl z)
    refine hK _ _ _ fun K2 h2 => ?_
    have hNN : ¬ ((∃ p, p < np ∧ a = nI p) ∧ PtP nv s ∧ (¬ c < σ 11 0 0 ∧ ¬ 400 < c) ∧ HvP h) := fun q => hN ⟨q.1, q.2.1, by rw [t1, ← t2]; exact q.2.2.1, q.2.2.2⟩
    have e1 : σ 11 0 1 = nI np := hV.2.1.2.2.1
    have e7 : σ 11 0 7 = nI nv := hV.2.2.1.2.2.1
    have hK2 := h2
    by_cases h1 : ¬ a < 0 ∧ ¬ σ 11 0 1 - 1 < a
    rotate_left
    · have p1 : ¬ ∃ p, p < np ∧ a = nI p := by
        rw [e1, Pn (by omega)] at h1
        exact h1
      refine And.intro (fun z9 => absurd z9 (h1)) (fun _ => And.intro (fun _ => ?_) (fun z9 => absurd rfl z9))
      by_cases t1 : ¬ c < σ 11 0 0 ∧ ¬ 400 < c
      rotate_left
      · refine And.intro (fun z9 => absurd z9 (t1)) (fun _ => And.intro (fun _ => ?_) (fun z9 => absurd rfl z9))
        refine And.intro (fun _ => ?_) (fun z9 => absurd (rfl) z9)
        exact ⟨Or.inl rfl, And.intro (fun _ => hK2 _ _ hI) (fun z9 => absurd rfl z9)⟩
      refine And.intro (fun _ => And.intro (fun z9 => absurd z9 (by decide)) (fun _ => ?_)) (fun z9 => absurd (t1) z9)
      by_cases t2 : h < 0
      · refine And.intro (fun _ => ?_) (fun z9 => absurd (t2) z9)
        refine And.intro (fun _ => ?_) (fun z9 => absurd (rfl) z9)
        exact ⟨Or.inl rfl, And.intro (fun _ => hK2 _ _ hI) (fun z9 => absurd rfl z9)⟩
      refine And.intro (fun z9 => absurd z9 (t2)) (fun _ => ?_)
      refine And.intro (by decide) ?_
      by_cases t3 : ¬ h - h / 10 * 10 < 1 ∧ ¬ 4 < h - h / 10 * 10
      rotate_left
      · refine And.intro (fun z9 => absurd z9 (t3)) (fun _ => And.intro (fun _ => ?_) (fun z9 => absurd rfl z9))
        refine And.intro (fun _ => ?_) (fun z9 => absurd (rfl) z9)
        exact ⟨Or.inl rfl, And.intro (fun _ => hK2 _ _ hI) (fun z9 => absurd rfl z9)⟩
      refine And.intro (fun _ => And.intro (fun z9 => absurd z9 (by decide)) (fun _ => ?_)) (fun z9 => absurd (t3) z9)
      refine And.intro (by decide) (And.intro (by decide) ?_)
      by_cases t4 : 12 < h / 10 + (h - h / 10 * 10)
      · refine And.intro (fun _ => ?_) (fun z9 => absurd (t4) z9)
        refine And.intro (fun _ => ?_) (fun z9 => absurd (rfl) z9)
        exact ⟨Or.inl rfl, And.intro (fun _ => hK2 _ _ hI) (fun z9 => absurd rfl z9)⟩
      refine And.intro (fun z9 => absurd z9 (t4)) (fun _ => ?_)
      refine And.intro (fun _ => ?_) (fun z9 => absurd (rfl) z9)
      exact ⟨Or.inl rfl, And.intro (fun _ => hK2 _ _ hI) (fun z9 => absurd rfl z9)⟩
    refine And.intro (fun _ => And.intro (fun z9 => absurd z9 (by decide)) (fun _ => ?_)) (fun z9 => absurd (h1) z9)
    have p1 := h1
    rw [e1, Pn (by omega)] at p1
    have pr := pt_ref (s := s) h14
    rw [← e7] at pr
    by_cases h2 : ¬ s < 1 ∧ ¬ (1 : Int32) <<< (σ 11 0 7 &&& 31) - 1 < s
    rotate_left
    · refine And.intro (fun z9 => absurd z9 (h2)) (fun _ => And.intro (fun _ => ?_) (fun z9 => absurd rfl z9))
      by_cases t1 : ¬ c < σ 11 0 0 ∧ ¬ 400 < c
      rotate_left
      · refine And.intro (fun z9 => absurd z9 (t1)) (fun _ => And.intro (fun _ => ?_) (fun z9 => absurd rfl z9))
        refine And.intro (fun _ => ?_) (fun z9 => absurd (rfl) z9)
        exact ⟨Or.inl rfl, And.intro (fun _ => hK2 _ _ hI) (fun z9 => absurd rfl z9)⟩
      refine And.intro (fun _ => And.intro (fun z9 => absurd z9 (by decide)) (fun _ => ?_)) (fun z9 => absurd (t1) z9)
      by_cases t2 : h < 0
      · refine And.intro (fun _ => ?_) (fun z9 => absurd (t2) z9)
        refine And.intro (fun _ => ?_) (fun z9 => absurd (rfl) z9)
        exact ⟨Or.inl rfl, And.intro (fun _ => hK2 _ _ hI) (fun z9 => absurd rfl z9)⟩
      refine And.intro (fun z9 => absurd z9 (t2)) (fun _ => ?_)
      refine And.intro (by decide) ?_
      by_cases t3 : ¬ h - h / 10 * 10 < 1 ∧ ¬ 4 < h - h / 10 * 10
      rotate_left
      · refine And.intro (fun z9 => absurd z9 (t3)) (fun _ => And.intro (fun _ => ?_) (fun z9 => absurd rfl z9))
        refine And.intro (fun _ => ?_) (fun z9 => absurd (rfl) z9)
        exact ⟨Or.inl rfl, And.intro (fun _ => hK2 _ _ hI) (fun z9 => absurd rfl z9)⟩
      refine And.intro (fun _ => And.intro (fun z9 => absurd z9 (by decide)) (fun _ => ?_)) (fun z9 => absurd (t3) z9)
      refine And.intro (by decide) (And.intro (by decide) ?_)
      by_cases t4 : 12 < h / 10 + (h - h / 10 * 10)
      · refine And.intro (fun _ => ?_) (fun z9 => absurd (t4) z9)
        refine And.intro (fun _ => ?_) (fun z9 => absurd (rfl) z9)
        exact ⟨Or.inl rfl, And.intro (fun _ => hK2 _ _ hI) (fun z9 => absurd rfl z9)⟩
      refine And.intro (fun z9 => absurd z9 (t4)) (fun _ => ?_)
      refine And.intro (fun _ => ?_) (fun z9 => absurd (rfl) z9)
      exact ⟨Or.inl rfl, And.intro (fun _ => hK2 _ _ hI) (fun z9 => absurd rfl z9)⟩
    refine And.intro (fun _ => And.intro (fun z9 => absurd z9 (by decide)) (fun _ => ?_)) (fun z9 => absurd (h2) z9)
    by_cases h3 : 3 < bsum s 31
    · refine And.intro (fun _ => ?_) (fun z9 => absurd (h3) z9)
      by_cases t1 : ¬ c < σ 11 0 0 ∧ ¬ 400 < c
      rotate_left
      · refine And.intro (fun z9 => absurd z9 (t1)) (fun _ => And.intro (fun _ => ?_) (fun z9 => absurd rfl z9))
        refine And.intro (fun _ => ?_) (fun z9 => absurd (rfl) z9)
        exact ⟨Or.inl rfl, And.intro (fun _ => hK2 _ _ hI) (fun z9 => absurd rfl z9)⟩
      refine And.intro (fun _ => And.intro (fun z9 => absurd z9 (by decide)) (fun _ => ?_)) (fun z9 => absurd (t1) z9)
      by_cases t2 : h < 0
      · refine And.intro (fun _ => ?_) (fun z9 => absurd (t2) z9)
        refine And.intro (fun _ => ?_) (fun z9 => absurd (rfl) z9)
        exact ⟨Or.inl rfl, And.intro (fun _ => hK2 _ _ hI) (fun z9 => absurd rfl z9)⟩
      refine And.intro (fun z9 => absurd z9 (t2)) (fun _ => ?_)
      refine And.intro (by decide) ?_
      by_cases t3 : ¬ h - h / 10 * 10 < 1 ∧ ¬ 4 < h - h / 10 * 10
      rotate_left
      · refine And.intro (fun z9 => absurd z9 (t3)) (fun _ => And.intro (fun _ => ?_) (fun z9 => absurd rfl z9))
        refine And.intro (fun _ => ?_) (fun z9 => absurd (rfl) z9)
        exact ⟨Or.inl rfl, And.intro (fun _ => hK2 _ _ hI) (fun z9 => absurd rfl z9)⟩
      refine And.intro (fun _ => And.intro (fun z9 => absurd z9 (by decide)) (fun _ => ?_)) (fun z9 => absurd (t3) z9)
      refine And.intro (by decide) (And.intro (by decide) ?_)
      by_cases t4 : 12 < h / 10 + (h - h / 10 * 10)
      · refine And.intro (fun _ => ?_) (fun z9 => absurd (t4) z9)
        refine And.intro (fun _ => ?_) (fun z9 => absurd (rfl) z9)
        exact ⟨Or.inl rfl, And.intro (fun _ => hK2 _ _ hI) (fun z9 => absurd rfl z9)⟩
      refine And.intro (fun z9 => absurd z9 (t4)) (fun _ => ?_)
      refine And.intro (fun _ => ?_) (fun z9 => absurd (rfl) z9)
      exact ⟨Or.inl rfl, And.intro (fun _ => hK2 _ _ hI) (fun z9 => absurd rfl z9)⟩
    refine And.intro (fun z9 => absurd z9 (h3)) (fun _ => ?_)
    have p2 := pr.mp ⟨h2, h3⟩
    by_cases t1 : ¬ c < σ 11 0 0 ∧ ¬ 400 < c
    rotate_left
    · refine And.intro (fun z9 => absurd z9 (t1)) (fun _ => And.intro (fun _ => ?_) (fun z9 => absurd rfl z9))
      refine And.intro (fun z9 => absurd z9 (by decide)) (fun _ => ?_)
      refine And.intro (fun _ => ?_) (fun z9 => absurd (rfl) z9)
      exact ⟨Or.inl rfl, And.intro (fun _ => hK2 _ _ hI) (fun z9 => absurd rfl z9)⟩
    refine And.intro (fun _ => And.intro (fun z9 => absurd z9 (by decide)) (fun _ => ?_)) (fun z9 => absurd (t1) z9)
    by_cases t2 : h < 0
    · refine And.intro (fun _ => ?_) (fun z9 => absurd (t2) z9)
      refine And.intro (fun z9 => absurd z9 (by decide)) (fun _ => ?_)
      refine And.intro (fun _ => ?_) (fun z9 => absurd (rfl) z9)
      exact ⟨Or.inl rfl, And.intro (fun _ => hK2 _ _ hI) (fun z9 => absurd rfl z9)⟩
    refine And.intro (fun z9 => absurd z9 (t2)) (fun _ => ?_)
    refine And.intro (by decide) ?_
    by_cases t3 : ¬ h - h / 10 * 10 < 1 ∧ ¬ 4 < h - h / 10 * 10
    rotate_left
    · refine And.intro (fun z9 => absurd z9 (t3)) (fun _ => And.intro (fun _ => ?_) (fun z9 => absurd rfl z9))
      refine And.intro (fun z9 => absurd z9 (by decide)) (fun _ => ?_)
      refine And.intro (fun _ => ?_) (fun z9 => absurd (rfl) z9)
      exact ⟨Or.inl rfl, And.intro (fun _ => hK2 _ _ hI) (fun z9 => absurd rfl z9)⟩
    refine And.intro (fun _ => And.intro (fun z9 => absurd z9 (by decide)) (fun _ => ?_)) (fun z9 => absurd (t3) z9)
    refine And.intro (by decide) (And.intro (by decide) ?_)
    by_cases t4 : 12 < h / 10 + (h - h / 10 * 10)
    · refine And.intro (fun _ => ?_) (fun z9 => absurd (t4) z9)
      refine And.intro (fun z9 => absurd z9 (by decide)) (fun _ => ?_)
      refine And.intro (fun _ => ?_) (fun z9 => absurd (rfl) z9)
      exact ⟨Or.inl rfl, And.intro (fun _ => hK2 _ _ hI) (fun z9 => absurd rfl z9)⟩
    refine And.intro (fun z9 => absurd z9 (t4)) (fun _ => ?_)
    refine And.intro (fun z9 => absurd z9 (by decide)) (fun _ => ?_)
    refine And.intro (fun z9 => absurd z9 (by decide)) (fun _ => ?_)
    exact absurd ⟨p1, p2, t1, hv_ref.mp ⟨t2, t3, t4⟩⟩ hNN
  refine And.intro (fun z9 => absurd z9 (by decide)) (fun _ => ?_)
  intro o ho
  have eo : o = some n := ho.symm.trans hV.1.2.2.2.1
  subst eo
  have fin : ∀ lw : Int32, (lw = 0 ∨ lw = 1) → (lw = 1 ↔ lwC σ s) → ∃ n' np' nv', CW w (fillS σ n a s c h lw) n' np' nv' ∧ VW (fillS σ n a s c h lw) np' n ∧ (∀ i, i < n' → fillS σ n a s c h lw 9 i 7 = 0) ∧ ∀ σ', eqT (fillS σ n a s c h lw) σ' → Q1 (some (HI (rsC w (fillS σ n a s c h lw) n' nv' n))) w σ' := by
    intro lw h01 hlw
    have hF : Ivs w (fillS σ n a s c h lw) n np nv := fill_inv hV
    obtain ⟨p, d, x, y, hp, ea, hd, ec, eh1, eh2, y1, y4, hxy, hq⟩ := asked hV hA h01 hlw
    refine ⟨n, np, nv, hF.cw, hq.vw, hF.lv, fun σ' hT => ?_⟩
    have hF' : Ivs w σ' n np nv := hF.cg fun k i f hs => hT k i f fun q => hs (Or.inl q)
    have er : ∀ k i f, k = 11 ∨ k = 20 ∨ k = 21 → σ' k i f = fillS σ n a s c h lw k i f := fun k i f hk => hT k i f (by omega)
    have er2 : ∀ k i f, k = 11 ∨ k = 20 ∨ k = 21 → σ' k i f = σ k i f := fun k i f hk => by rw [er k i f hk]; exact fill_o (by omega)
    rw [rs_eq hF.core hq]
    refine hK _ _ _ fun K2 h2 => ?_
    obtain ⟨p1, p2, p3, t1, t2, t3, t4⟩ := ref_ok (σ' := σ') hV hA (er2 _ _ _ (Or.inl rfl)) (er2 _ _ _ (Or.inl rfl)) (er2 _ _ _ (Or.inl rfl))
    refine And.intro (fun _ => And.intro (fun z9 => absurd z9 (by decide)) (fun _ => ?_)) (fun z9 => absurd (p1) z9)
    refine And.intro (fun _ => And.intro (fun z9 => absurd z9 (by decide)) (fun _ => ?_)) (fun z9 => absurd (p2) z9)
    refine And.intro (fun z9 => absurd z9 (p3)) (fun _ => ?_)
    refine And.intro (fun _ => And.intro (fun z9 => absurd z9 (by decide)) (fun _ => ?_)) (fun z9 => absurd (t1) z9)
    refine And.intro (fun z9 => absurd z9 (t2)) (fun _ => ?_)
    refine And.intro (by decide) ?_
    refine And.intro (fun _ => And.intro (fun z9 => absurd z9 (by decide)) (fun _ => ?_)) (fun z9 => absurd (t3) z9)
    refine And.intro (by decide) (And.intro (by decide) ?_)
    refine And.intro (fun z9 => absurd z9 (t4)) (fun _ => ?_)
    refine And.intro (fun z9 => absurd z9 (by decide)) (fun _ => ?_)
    refine And.intro (fun z9 => absurd z9 (by decide)) (fun _ => ?_)
    refine And.intro (Or.inr rfl) ?_
    refine And.intro (fun z9 => absurd z9 (by decide)) (fun _ => ?_)
    refine And.intro (by decide) (And.intro (by decide) ?_)
    refine ⟨n, np, nv, p, d, x, y, hF'.mw.1, hp, ea, hd, ec, eh1, eh2, hxy, Or.inl rfl, fun σ2 h9 => ?_⟩
    rw [rfM_eq er]
    refine h2 _ _ ⟨n, np, nv, hF'.cg fun k i f hs => ?_⟩
    rw [h9 k i f (fun q => hs (Or.inr (Or.inl ⟨q.1, Or.inl q.2⟩))), if_pos rfl, msS_self]
  by_cases hl : lwC σ s
  · refine And.intro (fun _ => ?_) (fun z9 => absurd (hl) z9)
    refine ⟨Or.inr rfl, ?_⟩
    intro o ho
    obtain rfl : o = some n := ho.symm.trans hV.1.2.2.2.1
    exact fin 1 (Or.inr rfl) ⟨fun _ => hl, fun _ => rfl⟩
  · refine And.intro (fun z9 => absurd z9 (hl)) (fun _ => ?_)
    refine ⟨Or.inl rfl, ?_⟩
    intro o ho
    obtain rfl : o = some n := ho.symm.trans hV.1.2.2.2.1
    exact fin 0 (Or.inl rfl) ⟨fun z => absurd z (by decide), fun z => absurd z hl⟩
