/-! calls, 1: days, trim, rule, lose, mark, sheet, isOf -/
theorem Pn {n : Nat} (hn : n < 2 ^ 30) {x : Int32} : (¬ x < 0 ∧ ¬ nI n - 1 < x) ↔ ∃ j, j < n ∧ x = nI j := by
  have e : (nI n - nI 1).toInt = (n : Int) - 1 := by
    have := pk_sub_toInt (a := n) (b := 1) (by omega) (by omega)
    simpa using this
  constructor
  · intro h
    obtain ⟨j, hj, rfl⟩ := nI_of h.1
    refine ⟨j, ?_, rfl⟩
    have h2 := h.2
    rw [show (1 : Int32) = nI 1 from rfl, Int32.lt_iff_toInt_lt, e, nI_toInt hj] at h2
    omega
  · rintro ⟨j, hj, rfl⟩
    refine ⟨nI_pos (by omega), fun q => ?_⟩
    rw [show (1 : Int32) = nI 1 from rfl, Int32.lt_iff_toInt_lt, e, nI_toInt (by omega)] at q
    omega
theorem In {m : Nat} (hm : m < 2 ^ 30) {x : Int32} : (¬ x < 0 ∧ ¬ nI m < x) ↔ ∃ j, j < m + 1 ∧ x = nI j := by
  constructor
  · intro h
    obtain ⟨j, hj, rfl⟩ := nI_of h.1
    refine ⟨j, ?_, rfl⟩
    rcases Nat.lt_or_ge m j with q | q
    · exact absurd (nI_lt q (by omega)) h.2
    · omega
  · rintro ⟨j, hj, rfl⟩
    exact ⟨nI_pos (by omega), nI_nlt (by omega) (by omega)⟩
theorem Bn {n : Nat} (hn : n < 2 ^ 30) {x : Int32} : (0 ≤ x ∧ x < nI n) ↔ ∃ j, j < n ∧ x = nI j := by
  constructor
  · exact fun h => in_of h
  · rintro ⟨j, hj, rfl⟩
    exact ⟨nI_pos' (by omega), nI_lt hj (by omega)⟩
theorem eq_days : Eq1 Inv sp_X10_days sp_X11_days := by
  intro a w σ Q1 hI hK
  obtain ⟨n, np, nv, hV⟩ := id hI
  obtain ⟨td, htd, t1, t2⟩ := hV.2.2.2.2.2.2.2.1
  by_cases h1 : a < 1
  · refine And.intro (fun _ => ?_) (fun z => absurd (h1) z)
    refine hK _ _ _ fun K2 h2 => ?_
    refine And.intro (fun z => absurd z (fun q => q.1 h1)) (fun _ => And.intro (fun _ => ?_) (fun z => absurd rfl z))
    exact h2 _ _ hI
  refine And.intro (fun z => absurd z (h1)) (fun _ => ?_)
  by_cases h3 : 60 < a
  · refine And.intro (fun _ => ?_) (fun z => absurd (h3) z)
    refine hK _ _ _ fun K2 h2 => ?_
    refine And.intro (fun z => absurd z (fun q => q.2 h3)) (fun _ => And.intro (fun _ => ?_) (fun z => absurd rfl z))
    exact h2 _ _ hI
  refine And.intro (fun z => absurd z (h3)) (fun _ => ?_)
  by_cases h4 : σ 0 0 2 + a ≤ 400
  · refine And.intro (fun _ => ?_) (fun z => absurd (h4) z)
    refine hK _ _ _ fun K2 h2 => ?_
    refine And.intro (fun _ => And.intro (fun z => absurd z (by decide)) (fun _ => ?_)) (fun z => absurd (⟨h1, h3⟩) z)
    have h5 : σ 11 0 0 + a ≤ 400 := by rw [t2, ← t1]; exact h4
    refine And.intro (fun _ => ?_) (fun z => absurd (h5) z)
    obtain ⟨m, hm, rfl⟩ := in_of (n := 61) (x := a) ⟨Int32.le_trans (by decide) (Int32.not_lt.mp h1), Int32.lt_of_le_of_lt (Int32.not_lt.mp h3) (by decide)⟩
    show K2 (some (HI (σ 11 0 0 + nI m))) w (up3 (up3 σ 0 0 2 (σ 0 0 2 + nI m)) 11 0 0 (σ 11 0 0 + nI m))
    have e : σ 11 0 0 = σ 0 0 2 := by rw [t1, t2]
    rw [e]
    refine h2 _ _ ⟨n, np, nv, hV.1, hV.2.1, hV.2.2.1, hV.2.2.2.1, hV.2.2.2.2.1, hV.2.2.2.2.2.1, hV.2.2.2.2.2.2.1, ⟨td + m, ?_, ?_, ?_⟩, hV.2.2.2.2.2.2.2.2⟩
    · rw [t1, nI_add] at h4
      exact (nI_leI (b := 400) (by omega) (by omega)).mp h4
    · show σ 0 0 2 + nI m = nI (td + m)
      rw [t1, nI_add]
    · show σ 0 0 2 + nI m = nI (td + m)
      rw [t1, nI_add]
  · refine And.intro (fun z => absurd z (h4)) (fun _ => ?_)
    refine hK _ _ _ fun K2 h2 => ?_
    refine And.intro (fun _ => And.intro (fun z => absurd z (by decide)) (fun _ => ?_)) (fun z => absurd (⟨h1, h3⟩) z)
    have h5 : ¬ σ 11 0 0 + a ≤ 400 := by rw [t2, ← t1]; exact h4
    refine And.intro (fun z => absurd z (h5)) (fun _ => ?_)
    exact h2 _ _ hI
theorem eq_trim : Eq1 Inv sp_X10_trim sp_X11_trim := by
  intro a w σ Q1 hI hK
  obtain ⟨n, np, nv, hV⟩ := id hI
  obtain ⟨t, ht, t1, t2, t3⟩ := hV.2.2.2.2.2.2.1
  by_cases h1 : a < 0
  · refine And.intro (fun _ => ?_) (fun z => absurd (h1) z)
    refine hK _ _ _ fun K2 h2 => ?_
    refine And.intro (fun z => absurd z (fun q => q.1 h1)) (fun _ => And.intro (fun _ => ?_) (fun z => absurd rfl z))
    exact h2 _ _ hI
  refine And.intro (fun z => absurd z (h1)) (fun _ => ?_)
  by_cases h3 : a ≤ σ 8 0 1
  · refine And.intro (fun _ => ?_) (fun z => absurd (h3) z)
    refine hK _ _ _ fun K2 h2 => ?_
    refine And.intro (fun _ => And.intro (fun z => absurd z (by decide)) (fun _ => ?_)) (fun z => absurd (⟨h1, by show ¬ σ 11 0 20 < a; rw [t2, ← t1]; exact Int32.not_lt.mpr h3⟩) z)
    obtain ⟨m, hm, rfl⟩ := nI_of h1
    rw [t1] at h3
    have h4 := (nI_leI hm (by omega)).mp h3
    exact h2 _ _ ⟨n, np, nv, hV.1, hV.2.1, hV.2.2.1, hV.2.2.2.1, hV.2.2.2.2.1, hV.2.2.2.2.2.1, ⟨m, by omega, rfl, rfl, fun j hj => t3 j (by omega)⟩, hV.2.2.2.2.2.2.2⟩
  · refine And.intro (fun z => absurd z (h3)) (fun _ => ?_)
    refine hK _ _ _ fun K2 h2 => ?_
    refine And.intro (fun z => absurd z (fun q => q.2 (by show σ 11 0 20 < a; rw [t2, ← t1]; exact Int32.not_le.mp h3))) (fun _ => And.intro (fun _ => ?_) (fun z => absurd rfl z))
    exact h2 _ _ hI
