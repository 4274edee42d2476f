/-! calls, 8: comes -/
section Draw
variable {ch ch' : Nat → Prop} {lim : Int32} {nv : Nat}
theorem rd_k {s : Int32} (u : T3) (hch : ∀ k, k < nv → (ch k ↔ ch' k)) (hnv : nv ≤ 14) : ∀ k, k ≤ nv → (∀ i, i < 32 → bt (rdI ch' lim s k u).1 i = (bt u.1 i || (bt (s &&& (u.1 ^^^ (-1))) i && decide (i < k)))) ∧ (rdI ch' lim s k u).2 = rcI ch lim (s &&& (u.1 ^^^ (-1))) k u.2 := by
  intro k
  induction k with
  | zero =>
    intro _
    refine ⟨fun i hi => ?_, rfl⟩
    rw [decide_eq_false (Nat.not_lt_zero i), Bool.and_false, Bool.or_false]
    rfl
  | succ k ih =>
    intro hk
    obtain ⟨h1, h2⟩ := ih (by omega)
    have hk32 : k < 32 := by omega
    have hc : (bt1 s k ∧ ¬ bt1 (rdI ch' lim s k u).1 k) ↔ bt (s &&& (u.1 ^^^ (-1))) k = true := by
      rw [bt1_bt hk32, bt1_bt hk32, h1 k hk32, decide_eq_false (Nat.lt_irrefl k), Bool.and_false, Bool.or_false, b_and, b_not hk32, Bool.and_eq_true]
      cases bt u.1 k <;> simp
    have e1 : rdI ch' lim s (k + 1) u = rdS ch' lim s k (rdI ch' lim s k u) := rfl
    have e2 : rcI ch lim (s &&& (u.1 ^^^ (-1))) (k + 1) u.2 = rcS ch lim (s &&& (u.1 ^^^ (-1))) k (rcI ch lim (s &&& (u.1 ^^^ (-1))) k u.2) := rfl
    rw [e1, e2, ← h2]
    unfold rdS rcS
    by_cases c : bt (s &&& (u.1 ^^^ (-1))) k = true
    · rw [cif_p (hc.mpr c), cif_n (c := (s &&& (u.1 ^^^ (-1))) >>> (nI k &&& 31) &&& 1 = 0) (fun z => by rw [(bt0_bt hk32).mp z] at c; cases c)]
      refine ⟨fun i hi => ?_, ?_⟩
      · show bt ((rdI ch' lim s k u).1 ||| (1 <<< (nI k &&& 31))) i = _
        rw [b_or, b_one hk32 hi, h1 i hi]
        by_cases q : i = k
        · subst q
          rw [decide_eq_true rfl, decide_eq_true (Nat.lt_succ_self i), c]
          simp
        · rw [decide_eq_false q, Bool.or_false]
          congr 2
          exact decide_eq_decide.mpr ⟨fun z => by omega, fun z => by omega⟩
      · show (cif (drH (drR (rdI ch' lim s k u).2.2) lim ∧ ¬ ch' k) ((rdI ch' lim s k u).2.1 ||| (1 <<< (nI k &&& 31))) (rdI ch' lim s k u).2.1, drR (rdI ch' lim s k u).2.2) = _
        rw [cif_cg (c := drH (drR (rdI ch' lim s k u).2.2) lim ∧ ¬ ch' k) (d := drH (drR (rdI ch' lim s k u).2.2) lim ∧ ¬ ch k) (by rw [hch k (by omega)]) rfl rfl]
    · have c0 : bt (s &&& (u.1 ^^^ (-1))) k = false := by
        cases h : bt (s &&& (u.1 ^^^ (-1))) k with
        | false => rfl
        | true => exact absurd h c
      rw [cif_n (fun z => c (hc.mp z)), cif_p ((bt0_bt hk32).mpr c0)]
      refine ⟨fun i hi => ?_, rfl⟩
      rw [h1 i hi]
      by_cases q : i = k
      · subst q
        rw [c0]
        simp
      · congr 2
        exact decide_eq_decide.mpr ⟨fun z => by omega, fun z => by omega⟩
theorem rc_more {s : Int32} {t : Int32 × Int32} (hs : ∀ v, v < 32 → bt s v = true → v < nv) : ∀ k, nv ≤ k → k ≤ 14 → rcI ch lim s k t = rcI ch lim s nv t := by
  intro k
  induction k with
  | zero =>
    intro h _
    have : nv = 0 := by omega
    rw [this]
  | succ k ih =>
    intro h h2
    rcases Nat.lt_or_ge k nv with q | q
    · have : nv = k + 1 := by omega
      rw [this]
    · have e2 : rcI ch lim s (k + 1) t = rcS ch lim s k (rcI ch lim s k t) := rfl
      rw [e2, ih q (by omega)]
      unfold rcS
      rw [cif_p]
      rw [bt0_bt (by omega)]
      cases hb : bt s k with
      | false => rfl
      | true => have := hs k (by omega) hb; omega
theorem rd_one {s : Int32} (u : T3) (hch : ∀ k, k < nv → (ch k ↔ ch' k)) (hnv : nv ≤ 14) (hs : setOK nv s) : rdI ch' lim s nv u = rcN ch lim (s &&& (u.1 ^^^ (-1))) u := by
  obtain ⟨h1, h2⟩ := rd_k (lim := lim) (s := s) u hch hnv nv (Nat.le_refl _)
  have hf : ∀ v, v < 32 → bt (s &&& (u.1 ^^^ (-1))) v = true → v < nv := fun v hv hb => by
    rw [b_and, Bool.and_eq_true] at hb
    exact hs v hv hb.1
  unfold rcN
  rw [rc_more (ch := ch) (lim := lim) hf 14 hnv (by omega)]
  have e : (rdI ch' lim s nv u).1 = u.1 ||| (s &&& (u.1 ^^^ (-1))) := b_ext fun i hi => by
    rw [h1 i hi, b_or]
    congr 1
    cases hb : bt (s &&& (u.1 ^^^ (-1))) i with
    | false => rfl
    | true => rw [decide_eq_true (hf i hi hb)]; rfl
  have h3 : rdI ch' lim s nv u = ((rdI ch' lim s nv u).1, (rdI ch' lim s nv u).2.1, (rdI ch' lim s nv u).2.2) := rfl
  rw [h3, e, h2]
theorem rd_all {set set' : Nat → Int32} {on on' : Nat → Prop} {t : T3} (hch : ∀ k, k < nv → (ch k ↔ ch' k)) (hnv : nv ≤ 14) : ∀ n, (∀ j, j < n → set j = set' j ∧ setOK nv (set j) ∧ (on j ↔ on' j)) → rdO ch' lim set' on' nv n t = rcO ch lim set on n t := by
  intro n
  induction n with
  | zero => exact fun _ => rfl
  | succ n ih =>
    intro h
    have h0 := ih fun j hj => h j (by omega)
    obtain ⟨a1, a2, a3⟩ := h n (by omega)
    have e1 : rdO ch' lim set' on' nv (n + 1) t = cif (on' n) (rdI ch' lim (set' n) nv (rdO ch' lim set' on' nv n t)) (rdO ch' lim set' on' nv n t) := rfl
    have e2 : rcO ch lim set on (n + 1) t = rcN ch lim (cif (on n) (set n &&& ((rcO ch lim set on n t).1 ^^^ (-1))) 0) (rcO ch lim set on n t) := rfl
    rw [e1, e2, h0]
    by_cases c : on n
    · rw [cif_p (a3.mp c), cif_p c, ← a1]
      exact rd_one _ hch hnv a2
    · rw [cif_n (fun z => c (a3.mpr z)), cif_n c]
      unfold rcN
      rw [rcI_0]
      have : (rcO ch lim set on n t).1 ||| 0 = (rcO ch lim set on n t).1 := b_ext fun i hi => by rw [b_or, b_0, Bool.or_false]
      rw [this]
end Draw
theorem eq_comes : Eq2 Inv sp_X10_comes sp_X11_comes := by
  intro a b w σ Q1 hI hK
  obtain ⟨n, np, nv, hV⟩ := id hI
  have h14 := hV.2.2.1.1
  by_cases h1 : 0 ≤ a ∧ a < 401
  rotate_left
  · refine And.intro (fun z9 => absurd z9 (h1)) (fun _ => And.intro (fun _ => ?_) (fun z9 => absurd rfl z9))
    refine hK _ _ _ fun K2 h2 => ?_
    refine And.intro (fun z9 => absurd z9 (fun q => h1 ((Bn (n := 401) (by decide)).mpr ((In (m := 400) (by decide)).mp q)))) (fun _ => And.intro (fun _ => ?_) (fun z9 => absurd rfl z9))
    exact h2 _ _ hI
  refine And.intro (fun _ => And.intro (fun z9 => absurd z9 (by decide)) (fun _ => ?_)) (fun z9 => absurd (h1) z9)
  have m1 : ¬ a < 0 ∧ ¬ 400 < a := (In (m := 400) (by decide)).mpr ((Bn (n := 401) (by decide)).mp h1)
  by_cases h3 : 0 ≤ b ∧ b < 2
  rotate_left
  · refine And.intro (fun z9 => absurd z9 (h3)) (fun _ => And.intro (fun _ => ?_) (fun z9 => absurd rfl z9))
    refine hK _ _ _ fun K2 h2 => ?_
    refine And.intro (fun _ => And.intro (fun z9 => absurd z9 (by decide)) (fun _ => ?_)) (fun z9 => absurd (m1) z9)
    refine And.intro (fun z9 => absurd z9 (fun q => h3 ((Bn (n := 2) (by decide)).mpr ((In (m := 1) (by decide)).mp q)))) (fun _ => And.intro (fun _ => ?_) (fun z9 => absurd rfl z9))
    exact h2 _ _ hI
  refine And.intro (fun _ => And.intro (fun z9 => absurd z9 (by decide)) (fun _ => ?_)) (fun z9 => absurd (h3) z9)
  have m2 : ¬ b < 0 ∧ ¬ 1 < b := (In (m := 1) (by decide)).mpr ((Bn (n := 2) (by decide)).mp h3)
  obtain ⟨-, -, ⟨oo, ho1, ho2, o1, o2⟩, hsd, -⟩ := hV.2.2.2.2.2.2.2
  refine ⟨n, hV.bk, by rw [o1]; exact nI_le (a := 1) ho1 (by omega), ?_⟩
  have ed : rdM σ a nv n = rdC σ a n := by
    unfold rdM rdC
    rw [o1, o2, hsd]
    refine rd_all (fun k hk => ?_) h14 n (fun j hj => ?_)
    · show bt1 (σ 13 0 3) k ↔ _
      rw [bt1_bt (by omega), kd_bit hV.2.2.1 (by decide) (by decide) (by decide) hk]
      rfl
    · obtain ⟨⟨⟨p', dd, x, y, hp', hdd, hy1, hy4, hxy, g0, r0, g2, r2, -⟩, rs, hset, -⟩, -, hst⟩ := hV.2.2.2.2.1.2.2.2.1 j hj
      refine ⟨rs.symm, hset, ?_⟩
      show (σ 9 j 6 = 0 ∧ σ 9 j 2 = a) ↔ (σ 20 21 j = 0 ∧ σ 20 18 j = a)
      rw [hst, g2, r2]
  have hI2 : Inv w (drF σ (rdC σ a n)) := ⟨n, np, nv, hV.cg fun k i f hs => drF_o fun q => hs (Or.inr (Or.inr (Or.inl ⟨q.1, q.2.2⟩)))⟩
  have fin : ∀ r : Int32, r = (if b = 0 then (rdC σ a n).1 else (rdC σ a n).2.1) → Q1 (some (HI r)) w (drF σ (rdC σ a n)) := fun r hr => by
    refine hK _ _ _ fun K2 h2 => ?_
    refine And.intro (fun _ => And.intro (fun z9 => absurd z9 (by decide)) (fun _ => ?_)) (fun z9 => absurd (m1) z9)
    refine And.intro (fun _ => And.intro (fun z9 => absurd z9 (by decide)) (fun _ => ?_)) (fun z9 => absurd (m2) z9)
    refine ⟨n * 100 + 50, n, nv, 0, a, b, 0, 0, _, 0, none, ⟨hV.2.2.2.2.1.1, hV.2.2.2.2.1.2.2.1⟩, ⟨h14, hV.2.2.1.2.2.1⟩, ?_, rfl, rfl, rfl, ?_, Or.inl ⟨rfl, Nat.zero_le _, rfl, rfl⟩⟩
    · show ¬ σ 11 0 29 = 0
      rw [o2]
      exact nI_ne0 ho1 (by omega)
    · have e4 : rdM (drF σ (rdC σ a n)) a nv n = rdM σ a nv n := rfl
      rw [e4, ed, ← hr]
      exact h2 _ _ hI2
  by_cases h5 : b = 0
  · refine And.intro (fun _ => ?_) (fun z9 => absurd (h5) z9)
    exact fin _ (by rw [if_pos h5]; rfl)
  · refine And.intro (fun z9 => absurd z9 (h5)) (fun _ => ?_)
    exact fin _ (by rw [if_neg h5]; rfl)
