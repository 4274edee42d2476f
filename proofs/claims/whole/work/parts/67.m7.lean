/-! calls, 7: copy, comes -/
theorem lc_gt {x y z : Int32} : 0 < lg_cmp (x.toInt64 + y.toInt64) z.toInt64 ↔ z.toInt < x.toInt + y.toInt := by
  have hx := Int32.le_toInt x
  have hx2 := Int32.toInt_lt x
  have hy := Int32.le_toInt y
  have hy2 := Int32.toInt_lt y
  have e : (x.toInt64 + y.toInt64).toInt = x.toInt + y.toInt := by
    rw [Int64.toInt_add, Int32.toInt_toInt64, Int32.toInt_toInt64]
    exact Int.bmod_eq_of_le (by omega) (by omega)
  unfold lg_cmp
  by_cases c : z.toInt64 < x.toInt64 + y.toInt64
  · rw [if_pos c]
    rw [Int64.lt_iff_toInt_lt, e, Int32.toInt_toInt64] at c
    exact ⟨fun _ => c, fun _ => by decide⟩
  · rw [if_neg c]
    rw [Int64.lt_iff_toInt_lt, e, Int32.toInt_toInt64] at c
    refine ⟨fun q => ?_, fun q => absurd q c⟩
    split at q
    · exact absurd q (by decide)
    · exact absurd q (by decide)
theorem run_iff {p m : Int32} {z : Nat} (hz : z ≤ 60) : (¬ m < 0 ∧ ¬ nI z < m ∧ ¬ p < 0 ∧ ¬ nI z - m < p) ↔ ∃ p' m', p' + m' ≤ z ∧ p = nI p' ∧ m = nI m' := by
  constructor
  · rintro ⟨h1, h2, h3, h4⟩
    obtain ⟨m', hm, rfl⟩ := nI_of h1
    obtain ⟨p', hp, rfl⟩ := nI_of h3
    have a1 : m' ≤ z := (nI_leI hm (by omega)).mp (Int32.not_lt.mp h2)
    rw [pk_sub a1] at h4
    have a2 : p' ≤ z - m' := (nI_leI hp (by omega)).mp (Int32.not_lt.mp h4)
    exact ⟨p', m', by omega, rfl, rfl⟩
  · rintro ⟨p', m', h, rfl, rfl⟩
    refine ⟨nI_pos (by omega), nI_nlt (by omega) (by omega), nI_pos (by omega), ?_⟩
    rw [pk_sub (by omega)]
    exact nI_nlt (by omega) (by omega)
theorem run_ref {p m : Int32} {z : Nat} (hz : z ≤ 60) (h1 : ¬ p < 0) (h2 : ¬ m < 0) : ¬ 0 < lg_cmp (p.toInt64 + m.toInt64) (nI z).toInt64 ↔ ∃ p' m', p' + m' ≤ z ∧ p = nI p' ∧ m = nI m' := by
  rw [lc_gt, nI_toInt (by omega)]
  obtain ⟨p', hp, rfl⟩ := nI_of h1
  obtain ⟨m', hm, rfl⟩ := nI_of h2
  rw [nI_toInt hp, nI_toInt hm]
  constructor
  · intro h
    exact ⟨p', m', by omega, rfl, rfl⟩
  · rintro ⟨p2, m2, h, e1, e2⟩
    have a1 := (nI_eq hp (by omega)).mp e1
    have a2 := (nI_eq hm (by omega)).mp e2
    omega
theorem fit8 {x : Int32} (h : x.toInt8.toInt32 = x) : fits .byte (.int x) = true := by
  rw [← h]
  exact pk_fb x
theorem eq_copy : Eq5 Inv sp_X10_copy sp_X11_copy := by
  intro a b c d e w σ Q1 hI hK
  obtain ⟨n, np, nv, hV⟩ := id hI
  by_cases h1 : 0 ≤ a ∧ a < 2
  rotate_left
  · refine And.intro (fun z9 => absurd z9 (h1)) (fun _ => And.intro (fun _ => ?_) (fun z9 => absurd rfl z9))
    refine hK _ _ _ fun K2 h2 => ?_
    refine And.intro (fun z9 => absurd z9 (fun q => h1 ((Bn (n := 2) (by decide)).mpr ((In (m := 1) (by decide)).mp q)))) (fun _ => And.intro (fun _ => ?_) (fun z9 => absurd rfl z9))
    exact h2 _ _ hI
  refine And.intro (fun _ => And.intro (fun z9 => absurd z9 (by decide)) (fun _ => ?_)) (fun z9 => absurd (h1) z9)
  obtain ⟨s, hs, rfl⟩ := (Bn (n := 2) (by decide)).mp h1
  have ms : (¬ nI s < 0 ∧ ¬ 1 < nI s) := (In (m := 1) (by decide)).mpr ⟨s, hs, rfl⟩
  have es : (nI s).toNatClampNeg = s := nI_clamp (by omega)
  have ins : vp_in (nI s) 2 := vp_in_nI hs (by decide)
  by_cases h3 : 0 ≤ c ∧ c < 2
  rotate_left
  · refine And.intro (fun z9 => absurd z9 (h3)) (fun _ => And.intro (fun _ => ?_) (fun z9 => absurd rfl z9))
    refine hK _ _ _ fun K2 h2 => ?_
    refine And.intro (fun _ => And.intro (fun z9 => absurd z9 (by decide)) (fun _ => ?_)) (fun z9 => absurd (ms) z9)
    refine And.intro (fun z9 => absurd z9 (fun q => h3 ((Bn (n := 2) (by decide)).mpr ((In (m := 1) (by decide)).mp q)))) (fun _ => And.intro (fun _ => ?_) (fun z9 => absurd rfl z9))
    exact h2 _ _ hI
  refine And.intro (fun _ => And.intro (fun z9 => absurd z9 (by decide)) (fun _ => ?_)) (fun z9 => absurd (h3) z9)
  obtain ⟨t, ht, rfl⟩ := (Bn (n := 2) (by decide)).mp h3
  have mt : (¬ nI t < 0 ∧ ¬ 1 < nI t) := (In (m := 1) (by decide)).mpr ⟨t, ht, rfl⟩
  have et : (nI t).toNatClampNeg = t := nI_clamp (by omega)
  have int : vp_in (nI t) 2 := vp_in_nI ht (by decide)
  refine And.intro ins (fun o1 ho1 => ?_)
  obtain rfl := ra_at ho1 (sh17 hV.1 hs)
  refine And.intro int (fun o2 ho2 => ?_)
  obtain rfl := ra_at ho2 (sh17 hV.1 ht)
  have m1 : ∀ {m : Nat}, m ≤ 60 → ¬ nI m = -1 := fun hm z => absurd (z ▸ nI_pos' (n := _) (by omega)) (by decide)
  rcases hV.2.2.2.2.2.1.1 s hs with ⟨q1, q2⟩ | ⟨zs, hzs, q1, q2, q3⟩
  · refine And.intro (fun _ => And.intro (fun z9 => absurd z9 (by decide)) (fun _ => ?_)) (fun z9 => absurd (q1) z9)
    refine hK _ _ _ fun K2 h2 => ?_
    refine And.intro (fun _ => And.intro (fun z9 => absurd z9 (by decide)) (fun _ => ?_)) (fun z9 => absurd (ms) z9)
    refine And.intro (fun _ => And.intro (fun z9 => absurd z9 (by decide)) (fun _ => ?_)) (fun z9 => absurd (mt) z9)
    refine And.intro ins ?_
    have z : σ 20 22 (nI s).toNatClampNeg < 0 := by rw [es, q2]; decide
    refine And.intro (fun _ => ?_) (fun z9 => absurd (z) z9)
    exact h2 _ _ hI
  have y1 : ¬ σ 20 22 (nI s).toNatClampNeg < 0 := by rw [es, q2]; exact nI_pos (by omega)
  refine And.intro (fun z9 => absurd z9 ((by rw [q1]; exact m1 hzs))) (fun _ => And.intro (fun _ => ?_) (fun z9 => absurd rfl z9))
  rcases hV.2.2.2.2.2.1.1 t ht with ⟨u1, u2⟩ | ⟨zt, hzt, u1, u2, u3⟩
  · refine And.intro (fun _ => And.intro (fun z9 => absurd z9 (by decide)) (fun _ => ?_)) (fun z9 => absurd (u1) z9)
    refine hK _ _ _ fun K2 h2 => ?_
    refine And.intro (fun _ => And.intro (fun z9 => absurd z9 (by decide)) (fun _ => ?_)) (fun z9 => absurd (ms) z9)
    refine And.intro (fun _ => And.intro (fun z9 => absurd z9 (by decide)) (fun _ => ?_)) (fun z9 => absurd (mt) z9)
    refine And.intro ins ?_
    refine And.intro (fun z9 => absurd z9 (y1)) (fun _ => ?_)
    refine And.intro int ?_
    have z : ¬ 0 ≤ σ 20 22 (nI t).toNatClampNeg := by rw [et, u2]; decide
    refine And.intro (fun z9 => absurd z9 (z)) (fun _ => ?_)
    exact h2 _ _ hI
  have y2 : 0 ≤ σ 20 22 (nI t).toNatClampNeg := by rw [et, u2]; exact nI_pos' (by omega)
  refine And.intro (fun z9 => absurd z9 ((by rw [u1]; exact m1 hzt))) (fun _ => And.intro (fun _ => ?_) (fun z9 => absurd rfl z9))
  have fail : ¬ ((∃ p' m', p' + m' ≤ zs ∧ b = nI p' ∧ e = nI m') ∧ (∃ p' m', p' + m' ≤ zt ∧ d = nI p' ∧ e = nI m')) → Q1 (some (HI (-1000000013))) w σ := fun hn => by
    refine hK _ _ _ fun K2 h2 => ?_
    refine And.intro (fun _ => And.intro (fun z9 => absurd z9 (by decide)) (fun _ => ?_)) (fun z9 => absurd (ms) z9)
    refine And.intro (fun _ => And.intro (fun z9 => absurd z9 (by decide)) (fun _ => ?_)) (fun z9 => absurd (mt) z9)
    refine And.intro ins ?_
    refine And.intro (fun z9 => absurd z9 (y1)) (fun _ => ?_)
    refine And.intro int ?_
    refine And.intro (fun _ => ?_) (fun z9 => absurd (y2) z9)
    by_cases g1 : b < 0
    · refine And.intro (fun _ => ?_) (fun z9 => absurd (g1) z9)
      exact h2 _ _ hI
    refine And.intro (fun z9 => absurd z9 (g1)) (fun _ => ?_)
    by_cases g2 : d < 0
    · refine And.intro (fun _ => ?_) (fun z9 => absurd (g2) z9)
      exact h2 _ _ hI
    refine And.intro (fun z9 => absurd z9 (g2)) (fun _ => ?_)
    by_cases g3 : e < 0
    · refine And.intro (fun _ => ?_) (fun z9 => absurd (g3) z9)
      exact h2 _ _ hI
    refine And.intro (fun z9 => absurd z9 (g3)) (fun _ => ?_)
    refine And.intro ins ?_
    rw [es, q2]
    by_cases g4 : 0 < lg_cmp (b.toInt64 + e.toInt64) (nI zs).toInt64
    · refine And.intro (fun _ => ?_) (fun z9 => absurd (g4) z9)
      exact h2 _ _ hI
    refine And.intro (fun z9 => absurd z9 (g4)) (fun _ => ?_)
    refine And.intro int ?_
    rw [et, u2]
    by_cases g5 : lg_cmp (d.toInt64 + e.toInt64) (nI zt).toInt64 ≤ 0
    · exact absurd ⟨(run_ref hzs g1 g3).mp g4, (run_ref hzt g2 g3).mp (Int32.not_lt.mpr g5)⟩ hn
    refine And.intro (fun z9 => absurd z9 (g5)) (fun _ => ?_)
    exact h2 _ _ hI
  by_cases h5 : ∃ p' m', p' + m' ≤ zs ∧ b = nI p' ∧ e = nI m'
  rotate_left
  · have x1 : ¬ (¬ e < 0 ∧ ¬ σ 7 s 1 < e ∧ ¬ b < 0 ∧ ¬ σ 7 s 1 - e < b) := by rw [q1, run_iff hzs]; exact h5
    refine And.intro (fun z9 => absurd z9 (x1)) (fun _ => And.intro (fun _ => ?_) (fun z9 => absurd rfl z9))
    exact fail fun q => h5 q.1
  have x1 : ¬ e < 0 ∧ ¬ σ 7 s 1 < e ∧ ¬ b < 0 ∧ ¬ σ 7 s 1 - e < b := by rw [q1, run_iff hzs]; exact h5
  refine And.intro (fun _ => And.intro (fun z9 => absurd z9 (by decide)) (fun _ => ?_)) (fun z9 => absurd (x1) z9)
  by_cases h6 : ∃ p' m', p' + m' ≤ zt ∧ d = nI p' ∧ e = nI m'
  rotate_left
  · have x2 : ¬ (¬ e < 0 ∧ ¬ σ 7 t 1 < e ∧ ¬ d < 0 ∧ ¬ σ 7 t 1 - e < d) := by rw [u1, run_iff hzt]; exact h6
    refine And.intro (fun z9 => absurd z9 (x2)) (fun _ => And.intro (fun _ => ?_) (fun z9 => absurd rfl z9))
    exact fail fun q => h6 q.2
  have x2 : ¬ e < 0 ∧ ¬ σ 7 t 1 < e ∧ ¬ d < 0 ∧ ¬ σ 7 t 1 - e < d := by rw [u1, run_iff hzt]; exact h6
  refine And.intro (fun _ => And.intro (fun z9 => absurd z9 (by decide)) (fun _ => ?_)) (fun z9 => absurd (x2) z9)
  clear fail
  obtain ⟨p, m, hpm, rfl, rfl⟩ := h5
  obtain ⟨q, m', hqm, rfl, em⟩ := h6
  have hmm : m' = m := by
    rcases Nat.lt_or_ge m' 100 with z | z
    · exact ((nI_eq (by omega) (by omega)).mp em).symm
    · omega
  subst hmm
  have ep : (nI p).toNatClampNeg = p := nI_clamp (by omega)
  have eq1 : (nI q).toNatClampNeg = q := nI_clamp (by omega)
  have emm : (nI m').toNatClampNeg = m' := nI_clamp (by omega)
  have k1 : ¬ nI p < 0 := nI_pos (by omega)
  have k2 : ¬ nI q < 0 := nI_pos (by omega)
  have k3 : ¬ nI m' < 0 := nI_pos (by omega)
  refine ⟨k1, k2, k3, by rw [ep, emm]; omega, by rw [eq1, emm]; omega, fun j => fit8 (hV.2.2.2.2.2.1.2 _ j), ?_⟩
  refine hK _ _ _ fun K2 h2 => ?_
  refine And.intro (fun _ => And.intro (fun z9 => absurd z9 (by decide)) (fun _ => ?_)) (fun z9 => absurd (ms) z9)
  refine And.intro (fun _ => And.intro (fun z9 => absurd z9 (by decide)) (fun _ => ?_)) (fun z9 => absurd (mt) z9)
  refine And.intro ins ?_
  refine And.intro (fun z9 => absurd z9 (y1)) (fun _ => ?_)
  refine And.intro int ?_
  refine And.intro (fun _ => ?_) (fun z9 => absurd (y2) z9)
  refine And.intro (fun z9 => absurd z9 (k1)) (fun _ => ?_)
  refine And.intro (fun z9 => absurd z9 (k2)) (fun _ => ?_)
  refine And.intro (fun z9 => absurd z9 (k3)) (fun _ => ?_)
  refine And.intro ins ?_
  have w1 : ¬ 0 < lg_cmp ((nI p).toInt64 + (nI m').toInt64) (σ 20 22 (nI s).toNatClampNeg).toInt64 := by rw [es, q2]; exact (run_ref hzs k1 k3).mpr ⟨p, m', hpm, rfl, rfl⟩
  refine And.intro (fun z9 => absurd z9 (w1)) (fun _ => ?_)
  refine And.intro int ?_
  have w2 : lg_cmp ((nI q).toInt64 + (nI m').toInt64) (σ 20 22 (nI t).toNatClampNeg).toInt64 ≤ 0 := by rw [et, u2]; exact Int32.not_lt.mp ((run_ref hzt k2 k3).mpr ⟨q, m', hqm, rfl, rfl⟩)
  refine And.intro (fun _ => ?_) (fun z9 => absurd (w2) z9)
  obtain ⟨σ1, hσ1⟩ : ∃ σ1, σ1 = acS σ (1 + s) (1 + t) p q m' := ⟨_, rfl⟩
  have hσ2 : acS σ (1 + s) (1 + t) (nI p).toNatClampNeg (nI q).toNatClampNeg (nI m').toNatClampNeg = σ1 := by rw [ep, eq1, emm, hσ1]
  rw [hσ2]
  refine ⟨1000 + m', σ1, s, p, t, q, m', 0, 0, hs, ht, by omega, by omega, Nat.zero_le _, rfl, rfl, rfl, Or.inl ⟨rfl, rfl, (cpA_0 _ _ _).symm⟩, ?_⟩
  have eo : ∀ k i f, ¬ (k = 12 ∧ i = 1 + t) → ¬ (k = 20 ∧ (i = 23 ∨ i = 25)) → cpB (cpA σ1 s p m') t q m' k i f = σ k i f := fun k i f g1 g2 => by
    unfold cpB cpA
    rw [if_neg (by omega), if_neg (by omega), hσ1]
    exact if_neg g1
  have eN : ∀ f, cpB (cpA σ1 s p m') t q m' 20 23 f = if 60 * t + q ≤ f ∧ f < 60 * t + q + m' then σ 20 23 (60 * s + p + (f - (60 * t + q))) else σ 20 23 f := fun f => by
    unfold cpB
    by_cases cc : 60 * t + q ≤ f ∧ f < 60 * t + q + m'
    · rw [if_pos ⟨rfl, rfl, cc.1, cc.2⟩, if_pos cc]
      unfold cpA
      rw [if_pos ⟨rfl, rfl, by omega⟩, hσ1]
      exact if_neg (by omega)
    · rw [if_neg (fun z => cc ⟨z.2.2.1, z.2.2.2⟩), if_neg cc]
      unfold cpA
      rw [if_neg (by omega), hσ1]
      exact if_neg (by omega)
  have eC : ∀ f, cpB (cpA σ1 s p m') t q m' 12 (1 + t) f = if q ≤ f ∧ f < q + m' then σ 12 (1 + s) (p + (f - q)) else σ 12 (1 + t) f := fun f => by
    unfold cpB cpA
    rw [if_neg (by omega), if_neg (by omega), hσ1]
    unfold acS
    rw [if_pos ⟨rfl, rfl⟩]
    rfl
  refine h2 _ _ ⟨n, np, nv, hV.1, hV.2.1.cd fun k i f hr => eo k i f (by unfold rdPr at hr; omega) (by unfold rdPr at hr; omega), hV.2.2.1.cd fun k i f hr => eo k i f (by unfold rdVi at hr; omega) (by unfold rdVi at hr; omega), hV.2.2.2.1.cd fun k i f hr => eo k i f (by unfold rdRi at hr; omega) (by unfold rdRi at hr; omega), hV.2.2.2.2.1.cd fun k i f hr => eo k i f (by unfold rdBk at hr; omega) (by unfold rdBk at hr; omega), ⟨fun s' hs' => ?_, fun i j => ?_⟩, hV.2.2.2.2.2.2.1.cd fun k i f hr => eo k i f (by unfold rdTa at hr; omega) (by unfold rdTa at hr; omega), hV.2.2.2.2.2.2.2.cd fun k i f hr => eo k i f (by unfold rdMi at hr; omega) (by unfold rdMi at hr; omega)⟩
  · rw [eo 7 s' 1 (by omega) (by omega), eo 20 22 s' (by omega) (by omega)]
    by_cases cs : s' = t
    · subst cs
      refine Or.inr ⟨zt, hzt, u1, u2, fun j hj => ?_⟩
      rw [eC, eN]
      by_cases cc : q ≤ j ∧ j < q + m'
      · rw [if_pos cc, if_pos (by omega), q3 _ (by omega)]
        congr 1
        omega
      · rw [if_neg cc, if_neg (by omega)]
        exact u3 j hj
    · rcases hV.2.2.2.2.2.1.1 s' hs' with ⟨g1, g2⟩ | ⟨zz, hzz, g1, g2, g3⟩
      · exact Or.inl ⟨g1, g2⟩
      · refine Or.inr ⟨zz, hzz, g1, g2, fun j hj => ?_⟩
        rw [eo 12 (1 + s') j (by omega) (by omega), eN, if_neg (by omega)]
        exact g3 j hj
  · by_cases ci : i = 1 + t
    · subst ci
      rw [eC]
      split
      · exact hV.2.2.2.2.2.1.2 _ _
      · exact hV.2.2.2.2.2.1.2 _ _
    · rw [eo 12 i j (by omega) (by omega)]
      exact hV.2.2.2.2.2.1.2 _ _
