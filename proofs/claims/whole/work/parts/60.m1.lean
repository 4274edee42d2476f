/-! calls, 1: days, trim, rule, lose, mark, sheet, isOf -/
theorem Pn {n : Nat} (hn : n < 2 ^ 30) {x : Int32} : (¬ x < 0 ∧ ¬ nI n - 1 < x) ↔ ∃ j, j < n ∧ x = nI j := by
  have e : (nI n - nI 1).toInt = (n : Int) - 1 := by
    have := pk_sub_toInt (a := n) (b := 1) (by omega) (by omega)
    simpa using this
  constructor
  · intro h
    obtain ⟨j, hj, rfl⟩ := nI_of h.1
    refine ⟨j, ?_, rfl⟩
    have h2 := h.2
    rw [show (1 : Int32) = nI 1 from rfl, Int32.lt_iff_toInt_lt, e, nI_toInt hj] at h2
    omega
  · rintro ⟨j, hj, rfl⟩
    refine ⟨nI_pos (by omega), fun q => ?_⟩
    rw [show (1 : Int32) = nI 1 from rfl, Int32.lt_iff_toInt_lt, e, nI_toInt (by omega)] at q
    omega
theorem In {m : Nat} (hm : m < 2 ^ 30) {x : Int32} : (¬ x < 0 ∧ ¬ nI m < x) ↔ ∃ j, j < m + 1 ∧ x = nI j := by
  constructor
  · intro h
    obtain ⟨j, hj, rfl⟩ := nI_of h.1
    refine ⟨j, ?_, rfl⟩
    rcases Nat.lt_or_ge m j with q | q
    · exact absurd (nI_lt q (by omega)) h.2
    · omega
  · rintro ⟨j, hj, rfl⟩
    exact ⟨nI_pos (by omega), nI_nlt (by omega) (by omega)⟩
theorem Bn {n : Nat} (hn : n < 2 ^ 30) {x : Int32} : (0 ≤ x ∧ x < nI n) ↔ ∃ j, j < n ∧ x = nI j := by
  constructor
  · exact fun h => in_of h
  · rintro ⟨j, hj, rfl⟩
    exact ⟨nI_pos' (by omega), nI_lt hj (by omega)⟩
theorem eq_days : Eq1 Inv sp_X10_days sp_X11_days := by
  intro a w σ Q1 hI hK
  obtain ⟨n, np, nv, hV⟩ := id hI
  obtain ⟨td, htd, t1, t2⟩ := hV.2.2.2.2.2.2.2.1
  by_cases h1 : a < 1
  · refine And.intro (fun _ => ?_) (fun z9 => absurd (h1) z9)
    refine hK _ _ _ fun K2 h2 => ?_
    refine And.intro (fun z9 => absurd z9 (fun q => q.1 h1)) (fun _ => And.intro (fun _ => ?_) (fun z9 => absurd rfl z9))
    exact h2 _ _ hI
  refine And.intro (fun z9 => absurd z9 (h1)) (fun _ => ?_)
  by_cases h3 : 60 < a
  · refine And.intro (fun _ => ?_) (fun z9 => absurd (h3) z9)
    refine hK _ _ _ fun K2 h2 => ?_
    refine And.intro (fun z9 => absurd z9 (fun q => q.2 h3)) (fun _ => And.intro (fun _ => ?_) (fun z9 => absurd rfl z9))
    exact h2 _ _ hI
  refine And.intro (fun z9 => absurd z9 (h3)) (fun _ => ?_)
  by_cases h4 : σ 0 0 2 + a ≤ 400
  · refine And.intro (fun _ => ?_) (fun z9 => absurd (h4) z9)
    refine hK _ _ _ fun K2 h2 => ?_
    refine And.intro (fun _ => And.intro (fun z9 => absurd z9 (by decide)) (fun _ => ?_)) (fun z9 => absurd (⟨h1, h3⟩) z9)
    have h5 : σ 11 0 0 + a ≤ 400 := by rw [t2, ← t1]; exact h4
    refine And.intro (fun _ => ?_) (fun z9 => absurd (h5) z9)
    obtain ⟨m, hm, rfl⟩ := in_of (n := 61) (x := a) ⟨Int32.le_trans (by decide) (Int32.not_lt.mp h1), Int32.lt_of_le_of_lt (Int32.not_lt.mp h3) (by decide)⟩
    show K2 (some (HI (σ 11 0 0 + nI m))) w (up3 (up3 σ 0 0 2 (σ 0 0 2 + nI m)) 11 0 0 (σ 11 0 0 + nI m))
    have e : σ 11 0 0 = σ 0 0 2 := by rw [t1, t2]
    rw [e]
    refine h2 _ _ ⟨n, np, nv, hV.1, hV.2.1, hV.2.2.1, hV.2.2.2.1, hV.2.2.2.2.1, hV.2.2.2.2.2.1, hV.2.2.2.2.2.2.1, ⟨td + m, ?_, ?_, ?_⟩, hV.2.2.2.2.2.2.2.2⟩
    · rw [t1, nI_add] at h4
      exact (nI_leI (b := 400) (by omega) (by omega)).mp h4
    · show σ 0 0 2 + nI m = nI (td + m)
      rw [t1, nI_add]
    · show σ 0 0 2 + nI m = nI (td + m)
      rw [t1, nI_add]
  · refine And.intro (fun z9 => absurd z9 (h4)) (fun _ => ?_)
    refine hK _ _ _ fun K2 h2 => ?_
    refine And.intro (fun _ => And.intro (fun z9 => absurd z9 (by decide)) (fun _ => ?_)) (fun z9 => absurd (⟨h1, h3⟩) z9)
    have h5 : ¬ σ 11 0 0 + a ≤ 400 := by rw [t2, ← t1]; exact h4
    refine And.intro (fun z9 => absurd z9 (h5)) (fun _ => ?_)
    exact h2 _ _ hI
theorem eq_trim : Eq1 Inv sp_X10_trim sp_X11_trim := by
  intro a w σ Q1 hI hK
  obtain ⟨n, np, nv, hV⟩ := id hI
  obtain ⟨t, ht, t1, t2, t3⟩ := hV.2.2.2.2.2.2.1
  by_cases h1 : a < 0
  · refine And.intro (fun _ => ?_) (fun z9 => absurd (h1) z9)
    refine hK _ _ _ fun K2 h2 => ?_
    refine And.intro (fun z9 => absurd z9 (fun q => q.1 h1)) (fun _ => And.intro (fun _ => ?_) (fun z9 => absurd rfl z9))
    exact h2 _ _ hI
  refine And.intro (fun z9 => absurd z9 (h1)) (fun _ => ?_)
  by_cases h3 : a ≤ σ 8 0 1
  · refine And.intro (fun _ => ?_) (fun z9 => absurd (h3) z9)
    refine hK _ _ _ fun K2 h2 => ?_
    refine And.intro (fun _ => And.intro (fun z9 => absurd z9 (by decide)) (fun _ => ?_)) (fun z9 => absurd (⟨h1, by show ¬ σ 11 0 20 < a; rw [t2, ← t1]; exact Int32.not_lt.mpr h3⟩) z9)
    obtain ⟨m, hm, rfl⟩ := nI_of h1
    rw [t1] at h3
    have h4 := (nI_leI hm (by omega)).mp h3
    exact h2 _ _ ⟨n, np, nv, hV.1, hV.2.1, hV.2.2.1, hV.2.2.2.1, hV.2.2.2.2.1, hV.2.2.2.2.2.1, ⟨m, by omega, rfl, rfl, fun j hj => t3 j (by omega)⟩, hV.2.2.2.2.2.2.2⟩
  · refine And.intro (fun z9 => absurd z9 (h3)) (fun _ => ?_)
    refine hK _ _ _ fun K2 h2 => ?_
    refine And.intro (fun z9 => absurd z9 (fun q => q.2 (by show σ 11 0 20 < a; rw [t2, ← t1]; exact Int32.not_le.mp h3))) (fun _ => And.intro (fun _ => ?_) (fun z9 => absurd rfl z9))
    exact h2 _ _ hI
section Up
variable {w : HW} {σ : HS} {n np nv k i f : Nat} {v : Int32}
theorem IvR.up (h : IvR w σ) (h1 : k ≠ 4) (h2 : k ≠ 21) (h3 : ¬ (k = 20 ∧ 9 ≤ i ∧ i < 15)) : IvR w (up3 σ k i f v) := fun c hc => by
  rw [up3_o (by omega)]
  rcases h c hc with q | ⟨r, q1, q2, q3, m, m1, m2, m3⟩
  · exact Or.inl q
  · exact Or.inr ⟨r, q1, q2, fun g hg => by rw [up3_o (by omega), up3_o (by omega)]; exact q3 g hg, m, m1, m2, by rw [up3_o (by omega)]; exact m3⟩
theorem IvT.up (h : IvT σ) (h1 : ¬ (k = 8 ∧ f = 1)) (h2 : ¬ (k = 11 ∧ f = 20)) (h3 : ¬ (k = 20 ∧ i = 15)) (h4 : ¬ (k = 12 ∧ i = 0)) : IvT (up3 σ k i f v) := by
  obtain ⟨t, q1, q2, q3, q4⟩ := h
  exact ⟨t, q1, by rw [up3_o (by omega)]; exact q2, by rw [up3_o (by omega)]; exact q3, fun j hj => by rw [up3_o (by omega), up3_o (by omega)]; exact q4 j hj⟩
theorem i8 (x : Int32) : x.toInt8.toInt32.toInt8.toInt32 = x.toInt8.toInt32 := by
  rw [← vp_nar_byte x.toInt8.toInt32, pk_vb]
end Up
theorem sh17 {w : HW} {n np s : Nat} (h : IvW w n np) (hs : s < 2) : w.2 17 s = some s := by
  have : s = 0 ∨ s = 1 := by omega
  rcases this with rfl | rfl
  · exact h.2.2.2.2.2.2.1
  · exact h.2.2.2.2.2.2.2.1
theorem eq_lose : Eq1 Inv sp_X10_lose sp_X11_lose := by
  intro a w σ Q1 hI hK
  obtain ⟨n, np, nv, hV⟩ := id hI
  by_cases h1 : 0 ≤ a ∧ a < 2
  rotate_left
  · refine And.intro (fun z9 => absurd z9 (h1)) (fun _ => And.intro (fun _ => ?_) (fun z9 => absurd rfl z9))
    refine hK _ _ _ fun K2 h2 => ?_
    refine And.intro (fun z9 => absurd z9 (fun q => h1 ((Bn (n := 2) (by decide)).mpr ((In (m := 1) (by decide)).mp q)))) (fun _ => And.intro (fun _ => ?_) (fun z9 => absurd rfl z9))
    exact h2 _ _ hI
  refine And.intro (fun _ => And.intro (fun z9 => absurd z9 (by decide)) (fun _ => ?_)) (fun z9 => absurd (h1) z9)
  obtain ⟨s, hs, rfl⟩ := (Bn (n := 2) (by decide)).mp h1
  have m1 : (¬ nI s < 0 ∧ ¬ 1 < nI s) := (In (m := 1) (by decide)).mpr ⟨s, hs, rfl⟩
  have e : (nI s).toNatClampNeg = s := nI_clamp (by omega)
  have hin : vp_in (nI s) 2 := vp_in_nI hs (by decide)
  refine And.intro hin (fun o ho => ?_)
  obtain rfl := ra_at ho (sh17 hV.1 hs)
  rcases hV.2.2.2.2.2.1.1 s hs with ⟨q1, q2⟩ | ⟨m, hm, q1, q2, q3⟩
  · refine And.intro (fun _ => And.intro (fun z9 => absurd z9 (by decide)) (fun _ => ?_)) (fun z9 => absurd (q1) z9)
    refine hK _ _ _ fun K2 h2 => ?_
    refine And.intro (fun _ => And.intro (fun z9 => absurd z9 (by decide)) (fun _ => ?_)) (fun z9 => absurd (m1) z9)
    refine And.intro hin ?_
    refine And.intro (fun z9 => absurd z9 ((by show ¬ 0 ≤ σ 20 22 (nI s).toNatClampNeg; rw [e, q2]; decide))) (fun _ => ?_)
    exact h2 _ _ hI
  · refine And.intro (fun z9 => absurd z9 ((by show ¬ σ 7 s 1 = -1; rw [q1]; exact fun z => absurd (z ▸ nI_pos' (n := m) (by omega)) (by decide)))) (fun _ => And.intro (fun _ => ?_) (fun z9 => absurd rfl z9))
    refine hK _ _ _ fun K2 h2 => ?_
    refine And.intro (fun _ => And.intro (fun z9 => absurd z9 (by decide)) (fun _ => ?_)) (fun z9 => absurd (m1) z9)
    refine And.intro hin ?_
    refine And.intro (fun _ => ?_) (fun z9 => absurd ((by show 0 ≤ σ 20 22 (nI s).toNatClampNeg; rw [e, q2]; exact nI_pos' (by omega))) z9)
    refine And.intro hin (And.intro hin ?_)
    show K2 (some (HI (σ 20 22 (nI s).toNatClampNeg))) w (up3 (up3 σ 7 s 1 (-1)) 20 22 (nI s).toNatClampNeg (-1))
    rw [e, q2, ← q1]
    refine h2 _ _ ⟨n, np, nv, hV.1, hV.2.1, hV.2.2.1, (hV.2.2.2.1.up (by omega) (by omega) (by omega)).up (by omega) (by omega) (by omega), hV.2.2.2.2.1, ⟨fun s' hs' => ?_, hV.2.2.2.2.2.1.2⟩, hV.2.2.2.2.2.2⟩
    by_cases c : s' = s
    · subst c
      exact Or.inl ⟨by rw [up3_o (by omega)]; exact up3_v, up3_v⟩
    · rcases hV.2.2.2.2.2.1.1 s' hs' with ⟨g1, g2⟩ | ⟨m', hm', g1, g2, g3⟩
      · exact Or.inl ⟨by rw [up3_o (by omega), up3_o (by omega)]; exact g1, by rw [up3_o (by omega)]; exact g2⟩
      · exact Or.inr ⟨m', hm', by rw [up3_o (by omega), up3_o (by omega)]; exact g1, by rw [up3_o (by omega)]; exact g2, g3⟩
theorem eq_mark : Eq3 Inv sp_X10_mark sp_X11_mark := by
  intro a b c w σ Q1 hI hK
  obtain ⟨n, np, nv, hV⟩ := id hI
  by_cases h1 : 0 ≤ a ∧ a < 2
  rotate_left
  · refine And.intro (fun z9 => absurd z9 (h1)) (fun _ => And.intro (fun _ => ?_) (fun z9 => absurd rfl z9))
    refine hK _ _ _ fun K2 h2 => ?_
    refine And.intro (fun z9 => absurd z9 (fun q => h1 ((Bn (n := 2) (by decide)).mpr ((In (m := 1) (by decide)).mp q)))) (fun _ => And.intro (fun _ => ?_) (fun z9 => absurd rfl z9))
    exact h2 _ _ hI
  refine And.intro (fun _ => And.intro (fun z9 => absurd z9 (by decide)) (fun _ => ?_)) (fun z9 => absurd (h1) z9)
  obtain ⟨s, hs, rfl⟩ := (Bn (n := 2) (by decide)).mp h1
  have m1 : (¬ nI s < 0 ∧ ¬ 1 < nI s) := (In (m := 1) (by decide)).mpr ⟨s, hs, rfl⟩
  have e : (nI s).toNatClampNeg = s := nI_clamp (by omega)
  have hin : vp_in (nI s) 2 := vp_in_nI hs (by decide)
  refine And.intro hin (fun o ho => ?_)
  obtain rfl := ra_at ho (sh17 hV.1 hs)
  rcases hV.2.2.2.2.2.1.1 s hs with ⟨q1, q2⟩ | ⟨m, hm, q1, q2, q3⟩
  · refine And.intro (fun _ => And.intro (fun z9 => absurd z9 (by decide)) (fun _ => ?_)) (fun z9 => absurd (q1) z9)
    refine hK _ _ _ fun K2 h2 => ?_
    refine And.intro (fun _ => And.intro (fun z9 => absurd z9 (by decide)) (fun _ => ?_)) (fun z9 => absurd (m1) z9)
    refine And.intro hin ?_
    refine And.intro (fun z9 => absurd z9 ((by show ¬ 0 ≤ σ 20 22 (nI s).toNatClampNeg; rw [e, q2]; decide))) (fun _ => ?_)
    exact h2 _ _ hI
  · refine And.intro (fun z9 => absurd z9 ((by show ¬ σ 7 s 1 = -1; rw [q1]; exact fun z => absurd (z ▸ nI_pos' (n := m) (by omega)) (by decide)))) (fun _ => And.intro (fun _ => ?_) (fun z9 => absurd rfl z9))
    have y1 : 0 ≤ σ 20 22 (nI s).toNatClampNeg := by rw [e, q2]; exact nI_pos' (by omega)
    by_cases h3 : 0 ≤ b ∧ b < σ 7 s 1
    rotate_left
    · refine And.intro (fun z9 => absurd z9 (h3)) (fun _ => And.intro (fun _ => ?_) (fun z9 => absurd rfl z9))
      refine hK _ _ _ fun K2 h2 => ?_
      refine And.intro (fun _ => And.intro (fun z9 => absurd z9 (by decide)) (fun _ => ?_)) (fun z9 => absurd (m1) z9)
      refine And.intro hin ?_
      refine And.intro (fun _ => ?_) (fun z9 => absurd (y1) z9)
      refine And.intro hin ?_
      have h4 : ¬ (¬ b < 0 ∧ ¬ σ 20 22 (nI s).toNatClampNeg - 1 < b) := by
        rw [e, q2, Pn (by omega), ← Bn (by omega), ← q1]
        exact h3
      refine And.intro (fun z9 => absurd z9 (h4)) (fun _ => And.intro (fun _ => ?_) (fun z9 => absurd rfl z9))
      exact h2 _ _ hI
    refine And.intro (fun _ => And.intro (fun z9 => absurd z9 (by decide)) (fun _ => ?_)) (fun z9 => absurd (h3) z9)
    rw [q1] at h3
    obtain ⟨j, hj, rfl⟩ := (Bn (by omega)).mp h3
    have e2 : (nI j).toNatClampNeg = j := nI_clamp (by omega)
    have hin2 : vp_in (nI j) 60 := vp_in_nI (by omega) (by decide)
    refine And.intro hin2 (And.intro hin2 ?_)
    refine hK _ _ _ fun K2 h2 => ?_
    refine And.intro (fun _ => And.intro (fun z9 => absurd z9 (by decide)) (fun _ => ?_)) (fun z9 => absurd (m1) z9)
    refine And.intro hin ?_
    refine And.intro (fun _ => ?_) (fun z9 => absurd (y1) z9)
    refine And.intro hin ?_
    have h4 : ¬ nI j < 0 ∧ ¬ σ 20 22 (nI s).toNatClampNeg - 1 < nI j := by
      rw [e, q2, Pn (by omega)]
      exact ⟨j, hj, rfl⟩
    refine And.intro (fun _ => And.intro (fun z9 => absurd z9 (by decide)) (fun _ => ?_)) (fun z9 => absurd (h4) z9)
    have e3 : 60 * nI s + nI j = nI (60 * s + j) := by rw [show (60 : Int32) = nI 60 from rfl, pk_mul, nI_add]
    have hin3 : vp_in (60 * nI s + nI j) 120 := by rw [e3]; exact vp_in_nI (by omega) (by decide)
    refine And.intro hin3 (And.intro hin3 ?_)
    have e4 : (60 * nI s + nI j).toNatClampNeg = 60 * s + j := by rw [e3, nI_clamp (by omega)]
    show K2 (some (HI (σ 20 23 (60 * nI s + nI j).toNatClampNeg))) w (up3 (up3 σ 12 (1 + s) (nI j).toNatClampNeg c.toInt8.toInt32.toInt8.toInt32) 20 23 (60 * nI s + nI j).toNatClampNeg c.toInt8.toInt32)
    rw [e4, ← q3 j hj]
    rw [e2, i8] at *
    refine h2 _ _ ⟨n, np, nv, hV.1, hV.2.1, hV.2.2.1, (hV.2.2.2.1.up (by omega) (by omega) (by omega)).up (by omega) (by omega) (by omega), hV.2.2.2.2.1, ⟨fun s' hs' => ?_, fun i' j' => ?_⟩, ?_, hV.2.2.2.2.2.2.2⟩
    · rcases hV.2.2.2.2.2.1.1 s' hs' with ⟨g1, g2⟩ | ⟨m', hm', g1, g2, g3⟩
      · exact Or.inl ⟨g1, g2⟩
      · refine Or.inr ⟨m', hm', g1, g2, fun j' hj' => ?_⟩
        by_cases cs : s' = s ∧ j' = j
        · obtain ⟨rfl, rfl⟩ := cs
          rw [up3_o (by omega), up3_v, up3_v]
        · rw [up3_o (by omega), up3_o (by omega), up3_o (by omega), up3_o (by omega)]
          exact g3 j' hj'
    · rw [up3_o (by omega)]
      by_cases cs : i' = 1 + s ∧ j' = j
      · obtain ⟨rfl, rfl⟩ := cs
        rw [up3_v]
        exact i8 c
      · rw [up3_o (by omega)]
        exact hV.2.2.2.2.2.1.2 i' j'
    · exact (hV.2.2.2.2.2.2.1.up (by omega) (by omega) (by omega) (by omega)).up (by omega) (by omega) (by omega) (by omega)
theorem eq_sheet : Eq2 Inv sp_X10_sheet sp_X11_sheet := by
  intro a b w σ Q1 hI hK
  obtain ⟨n, np, nv, hV⟩ := id hI
  by_cases h1 : 0 ≤ a ∧ a < 2
  rotate_left
  · refine And.intro (fun z9 => absurd z9 (h1)) (fun _ => And.intro (fun _ => ?_) (fun z9 => absurd rfl z9))
    refine hK _ _ _ fun K2 h2 => ?_
    refine And.intro (fun z9 => absurd z9 (fun q => h1 ((Bn (n := 2) (by decide)).mpr ((In (m := 1) (by decide)).mp q)))) (fun _ => And.intro (fun _ => ?_) (fun z9 => absurd rfl z9))
    exact h2 _ _ hI
  refine And.intro (fun _ => And.intro (fun z9 => absurd z9 (by decide)) (fun _ => ?_)) (fun z9 => absurd (h1) z9)
  obtain ⟨s, hs, rfl⟩ := (Bn (n := 2) (by decide)).mp h1
  have m1 : (¬ nI s < 0 ∧ ¬ 1 < nI s) := (In (m := 1) (by decide)).mpr ⟨s, hs, rfl⟩
  have e : (nI s).toNatClampNeg = s := nI_clamp (by omega)
  have hin : vp_in (nI s) 2 := vp_in_nI hs (by decide)
  by_cases h3 : b ≤ 60
  rotate_left
  · refine And.intro (fun z9 => absurd z9 (h3)) (fun _ => ?_)
    refine hK _ _ _ fun K2 h2 => ?_
    refine And.intro (fun _ => And.intro (fun z9 => absurd z9 (by decide)) (fun _ => ?_)) (fun z9 => absurd (m1) z9)
    refine And.intro (fun z9 => absurd z9 (h3)) (fun _ => ?_)
    exact h2 _ _ hI
  refine And.intro (fun _ => ?_) (fun z9 => absurd (h3) z9)
  by_cases h4 : 0 ≤ b
  rotate_left
  · refine And.intro (fun z9 => absurd z9 (h4)) (fun _ => ?_)
    refine hK _ _ _ fun K2 h2 => ?_
    refine And.intro (fun _ => And.intro (fun z9 => absurd z9 (by decide)) (fun _ => ?_)) (fun z9 => absurd (m1) z9)
    refine And.intro (fun _ => ?_) (fun z9 => absurd (h3) z9)
    refine And.intro (fun z9 => absurd z9 (h4)) (fun _ => ?_)
    exact h2 _ _ hI
  refine And.intro (fun _ => ?_) (fun z9 => absurd (h4) z9)
  obtain ⟨m, hm, rfl⟩ := nI_of (Int32.not_lt.mpr h4)
  have hm6 := (nI_leI (b := 60) hm (by decide)).mp h3
  refine And.intro hin (fun o ho => ?_)
  obtain rfl := ra_at ho (sh17 hV.1 hs)
  refine ⟨rfl, ?_⟩
  refine hK _ _ _ fun K2 h2 => ?_
  refine And.intro (fun _ => And.intro (fun z9 => absurd z9 (by decide)) (fun _ => ?_)) (fun z9 => absurd (m1) z9)
  refine And.intro (fun _ => ?_) (fun z9 => absurd (h3) z9)
  refine And.intro (fun _ => ?_) (fun z9 => absurd (h4) z9)
  refine And.intro hin ?_
  refine ⟨m, up3 (up3 (fiS σ 12 (1 + s) 60 0) 7 s 1 (nI m)) 20 22 s (nI m), s, m, 0, 0, hs, hm6, Nat.zero_le _, rfl, rfl, rfl, rfl, ?_, ?_⟩
  · show up3 (up3 (fiS σ 12 (1 + s) 60 0) 7 s 1 (nI m)) 20 22 (nI s).toNatClampNeg (nI m) = _
    rw [e]
    funext k r f
    unfold shS
    rw [if_neg (by omega)]
  · have es : ∀ k r f, ¬ (k = 20 ∧ (r = 22 ∨ r = 23)) → ¬ (k = 7) → ¬ (k = 12 ∧ r = 1 + s) → shS (up3 (up3 (fiS σ 12 (1 + s) 60 0) 7 s 1 (nI m)) 20 22 s (nI m)) s m k r f = σ k r f := fun k r f g1 g2 g3 => by
      unfold shS
      rw [if_neg (by omega), up3_o (by omega), up3_o (by omega)]
      unfold fiS
      rw [if_neg (by omega)]
    have hR2 : IvR w (shS (up3 (up3 (fiS σ 12 (1 + s) 60 0) 7 s 1 (nI m)) 20 22 s (nI m)) s m) := fun c hc => by
      rw [es _ _ _ (by omega) (by omega) (by omega)]
      rcases hV.2.2.2.1 c hc with q | ⟨r, q1, q2, q3, m', m1, m2, m3⟩
      · exact Or.inl q
      · exact Or.inr ⟨r, q1, q2, fun g hg => by rw [es _ _ _ (by omega) (by omega) (by omega), es _ _ _ (by omega) (by omega) (by omega)]; exact q3 g hg, m', m1, m2, by rw [es _ _ _ (by omega) (by omega) (by omega)]; exact m3⟩
    refine h2 _ _ ⟨n, np, nv, hV.1, hV.2.1, hV.2.2.1, hR2, hV.2.2.2.2.1, ⟨fun s' hs' => ?_, fun i' j' => ?_⟩, ?_, hV.2.2.2.2.2.2.2⟩
    · by_cases c : s' = s
      · subst c
        refine Or.inr ⟨m, hm6, ?_, ?_, fun j hj => ?_⟩
        · unfold shS
          rw [if_neg (by omega), up3_o (by omega)]
          exact up3_v
        · unfold shS
          rw [if_neg (by omega)]
          exact up3_v
        · have e1 : shS (up3 (up3 (fiS σ 12 (1 + s') 60 0) 7 s' 1 (nI m)) 20 22 s' (nI m)) s' m 20 23 (60 * s' + j) = 0 := if_pos ⟨rfl, rfl, by omega, by omega⟩
          rw [e1]
          unfold shS
          rw [if_neg (by omega), up3_o (by omega), up3_o (by omega)]
          exact if_pos ⟨rfl, rfl, by omega⟩
      · have e1 : shS (up3 (up3 (fiS σ 12 (1 + s) 60 0) 7 s 1 (nI m)) 20 22 s (nI m)) s m 7 s' 1 = σ 7 s' 1 := by
          unfold shS
          rw [if_neg (by omega), up3_o (by omega), up3_o (by omega)]
          exact if_neg (by omega)
        have e2 : shS (up3 (up3 (fiS σ 12 (1 + s) 60 0) 7 s 1 (nI m)) 20 22 s (nI m)) s m 20 22 s' = σ 20 22 s' := by
          unfold shS
          rw [if_neg (by omega), up3_o (by omega), up3_o (by omega)]
          exact if_neg (by omega)
        rw [e1, e2]
        rcases hV.2.2.2.2.2.1.1 s' hs' with ⟨g1, g2⟩ | ⟨m', hm', g1, g2, g3⟩
        · exact Or.inl ⟨g1, g2⟩
        · refine Or.inr ⟨m', hm', g1, g2, fun j' hj' => ?_⟩
          rw [es _ _ _ (by omega) (by omega) (by omega)]
          have e3 : shS (up3 (up3 (fiS σ 12 (1 + s) 60 0) 7 s 1 (nI m)) 20 22 s (nI m)) s m 20 23 (60 * s' + j') = σ 20 23 (60 * s' + j') := by
            unfold shS
            rw [if_neg (by omega), up3_o (by omega), up3_o (by omega)]
            exact if_neg (by omega)
          rw [e3]
          exact g3 j' hj'
    · by_cases c : i' = 1 + s
      · subst c
        unfold shS
        rw [if_neg (by omega), up3_o (by omega), up3_o (by omega)]
        unfold fiS
        split
        · decide
        · exact hV.2.2.2.2.2.1.2 _ _
      · rw [es _ _ _ (by omega) (by omega) (by omega)]
        exact hV.2.2.2.2.2.1.2 _ _
    · obtain ⟨t, ht, t1, t2, t3⟩ := hV.2.2.2.2.2.2.1
      exact ⟨t, ht, by rw [es _ _ _ (by omega) (by omega) (by omega)]; exact t1, by rw [es _ _ _ (by omega) (by omega) (by omega)]; exact t2, fun j hj => by rw [es _ _ _ (by omega) (by omega) (by omega), es _ _ _ (by omega) (by omega) (by omega)]; exact t3 j hj⟩
