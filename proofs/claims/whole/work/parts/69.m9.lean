/-! calls, 9: why -/
def HvP (h : Int32) : Prop := ∃ x, x < 2 ^ 31 ∧ h = nI x ∧ 1 ≤ x % 10 ∧ x % 10 ≤ 4 ∧ x / 10 + x % 10 ≤ 12
theorem hv_q {x : Nat} (hx : x < 2 ^ 31) : nI x / 10 = nI (x / 10) ∧ nI x - nI x / 10 * 10 = nI (x % 10) := by
  rw [show (10 : Int32) = nI 10 from rfl]
  exact ⟨pk_div hx (by omega) (by omega), pk_rem hx (by omega) (by omega)⟩
theorem hv_iff {h : Int32} : hvs h ↔ HvP h := by
  constructor
  · rintro ⟨h1, h2, h3, h4, h5⟩
    obtain ⟨x, hx, rfl⟩ := nI_of (Int32.not_lt.mpr h1)
    obtain ⟨e1, e2⟩ := hv_q hx
    rw [e2] at h2 h3
    rw [e1] at h4
    rw [e2, e1, nI_add] at h5
    have a1 : 1 ≤ x % 10 := (nI_leI (a := 1) (by omega) (by omega)).mp (Int32.not_lt.mp h2)
    have a2 : x % 10 ≤ 4 := (nI_leI (b := 4) (by omega) (by omega)).mp (Int32.not_lt.mp h3)
    have a3 : x / 10 + x % 10 ≤ 12 := (nI_leI (b := 12) (by omega) (by omega)).mp (Int32.not_lt.mp h5)
    exact ⟨x, hx, rfl, a1, a2, a3⟩
  · rintro ⟨x, hx, rfl, a1, a2, a3⟩
    obtain ⟨e1, e2⟩ := hv_q hx
    unfold hvs
    rw [e2, e1, nI_add]
    exact ⟨nI_pos' hx, nI_nlt (b := 1) (by omega) (by omega), nI_nlt (a := 4) (by omega) (by omega), nI_ge (b := 12) (by omega) (by omega), nI_nlt (a := 12) (by omega) (by omega)⟩
theorem hv_ref {h : Int32} : (¬ h < 0 ∧ (¬ h - h / 10 * 10 < 1 ∧ ¬ 4 < h - h / 10 * 10) ∧ ¬ 12 < h / 10 + (h - h / 10 * 10)) ↔ HvP h := by
  rw [← hv_iff]
  constructor
  · rintro ⟨h1, ⟨h2, h3⟩, h5⟩
    refine ⟨Int32.not_lt.mp h1, h2, h3, ?_, h5⟩
    obtain ⟨x, hx, rfl⟩ := nI_of h1
    obtain ⟨e1, e2⟩ := hv_q hx
    rw [e2] at h2
    rw [e2, e1, nI_add] at h5
    rw [e1]
    have a1 : 1 ≤ x % 10 := (nI_leI (a := 1) (by omega) (by omega)).mp (Int32.not_lt.mp h2)
    have a3 : x / 10 + x % 10 ≤ 12 := (nI_leI (b := 12) (by omega) (by omega)).mp (Int32.not_lt.mp h5)
    exact nI_ge (b := 12) (by omega) (by omega)
  · rintro ⟨h1, h2, h3, h4, h5⟩
    exact ⟨Int32.not_lt.mpr h1, ⟨h2, h3⟩, h5⟩
/-- one to three visitors that are there -/
def PtP (nv : Nat) (s : Int32) : Prop := setOK nv s ∧ 1 ≤ cnt (fun v => bt s v) 14 ∧ cnt (fun v => bt s v) 14 ≤ 3
theorem set_iff {nv : Nat} (h : nv ≤ 14) {s : Int32} : setOK nv s ↔ ∃ m, m < 2 ^ nv ∧ s = nI m := by
  constructor
  · intro hs
    refine ⟨s.toBitVec.toNat, ?_, ?_⟩
    · refine Nat.lt_pow_two_of_testBit _ fun i hi => ?_
      rw [BitVec.testBit_toNat]
      rcases Nat.lt_or_ge i 32 with q | q
      · cases hb : s.toBitVec.getLsbD i with
        | false => rfl
        | true => have := hs i q hb; omega
      · exact BitVec.getLsbD_of_ge _ _ q
    · apply Int32.toBitVec_inj.mp
      show s.toBitVec = BitVec.ofNat 32 s.toBitVec.toNat
      simp
  · rintro ⟨m, hm, rfl⟩ v hv hb
    rw [bt_nI hv] at hb
    rcases Nat.lt_or_ge v nv with q | q
    · exact q
    · rw [Nat.testBit_lt_two_pow (Nat.lt_of_lt_of_le hm (Nat.pow_le_pow_right (by decide) q))] at hb
      cases hb
theorem cnt_pos {c : Nat → Bool} {v : Nat} : ∀ {n : Nat}, v < n → c v = true → 1 ≤ cnt c n
  | 0, h, _ => absurd h (Nat.not_lt_zero _)
  | n + 1, h, hc => by
    unfold cnt
    rcases Nat.lt_or_ge v n with q | q
    · have := cnt_pos q hc
      omega
    · have : v = n := by omega
      subst this
      rw [if_pos hc]
      omega
theorem set_pos {nv : Nat} (h : nv ≤ 14) {s : Int32} (hs : setOK nv s) : 1 ≤ cnt (fun v => bt s v) 14 ↔ ¬ s = 0 := by
  constructor
  · intro h1 h2
    rw [h2, cnt_zz (fun j _ => b_0 j)] at h1
    omega
  · intro h1
    obtain ⟨i, hi, hb⟩ := b_nz.mp h1
    have := hs i hi hb
    exact cnt_pos (v := i) (by omega) hb
theorem pt_iff {σ : HS} {nv : Nat} (hV : IvV σ nv) {s : Int32} : ptC σ s ↔ PtP nv s := by
  have h14 := hV.1
  have e1 : s &&& (σ 13 0 0 ^^^ (-1)) = 0 ↔ setOK nv s := by
    rw [b_zero]
    constructor
    · intro h v hv hb
      have h1 := h v hv
      rw [b_and, b_not hv, bl1] at h1
      exact ((hV.2.2.2.2 0 (by decide) v hv).mp (h1 hb)).1
    · intro h i hi
      rw [b_and, b_not hi, bl1]
      exact fun hb => (hV.2.2.2.2 0 (by decide) i hi).mpr ⟨h i hi hb, Or.inl rfl⟩
  unfold ptC PtP
  rw [e1]
  constructor
  · rintro ⟨h1, h2, h3⟩
    have h4 := cnt_le (fun v => bt s v) 14
    rw [(pop_eq (fun v hv hb => by have := h1 v hv hb; omega)).1] at h2 h3
    exact ⟨h1, (nI_leI (a := 1) (by omega) (by omega)).mp (Int32.not_lt.mp h2), (nI_leI (b := 3) (by omega) (by omega)).mp (Int32.not_lt.mp h3)⟩
  · rintro ⟨h1, h2, h3⟩
    rw [(pop_eq (fun v hv hb => by have := h1 v hv hb; omega)).1]
    exact ⟨h1, nI_nlt (b := 1) h2 (by omega), nI_nlt (a := 3) h3 (by omega)⟩
theorem sh_m1 : ∀ nv, nv < 15 → (1 : Int32) <<< (nI nv &&& 31) - 1 = nI (2 ^ nv - 1) := by decide +kernel
theorem pt_ref {nv : Nat} (h : nv ≤ 14) {s : Int32} : ((¬ s < 1 ∧ ¬ (1 : Int32) <<< (nI nv &&& 31) - 1 < s) ∧ ¬ 3 < bsum s 31) ↔ PtP nv s := by
  have hp : 2 ^ nv ≤ 2 ^ 14 := Nat.pow_le_pow_right (by decide) h
  have hp0 : 1 ≤ 2 ^ nv := Nat.one_le_two_pow
  rw [sh_m1 nv (by omega)]
  constructor
  · rintro ⟨⟨h1, h2⟩, h3⟩
    obtain ⟨m, hm, rfl⟩ := nI_of (x := s) (fun z => h1 (Int32.lt_trans z (by decide)))
    have a1 : 1 ≤ m := (nI_leI (a := 1) (by omega) (by omega)).mp (Int32.not_lt.mp h1)
    have a2 : m ≤ 2 ^ nv - 1 := (nI_leI (by omega) (by omega)).mp (Int32.not_lt.mp h2)
    have hs : setOK nv (nI m) := (set_iff h).mpr ⟨m, by omega, rfl⟩
    have h4 := cnt_le (fun v => bt (nI m) v) 14
    rw [(pop_eq (fun v hv hb => by have := hs v hv hb; omega)).2] at h3
    exact ⟨hs, (set_pos h hs).mpr (nI_ne0 (by omega) (by omega)), (nI_leI (b := 3) (by omega) (by omega)).mp (Int32.not_lt.mp h3)⟩
  · rintro ⟨hs, h2, h3⟩
    have hz := (set_pos h hs).mp h2
    rw [(pop_eq (fun v hv hb => by have := hs v hv hb; omega)).2]
    obtain ⟨m, hm, rfl⟩ := (set_iff h).mp hs
    have m0 : 1 ≤ m := by
      rcases Nat.eq_zero_or_pos m with q | q
      · subst q; exact absurd rfl hz
      · exact q
    exact ⟨⟨nI_nlt (b := 1) m0 (by omega), nI_nlt (by omega) (by omega)⟩, nI_nlt (a := 3) h3 (by omega)⟩
/-- what may be asked -/
def AskP (σ : HS) (np nv : Nat) (a s c h : Int32) : Prop := (∃ p, p < np ∧ a = nI p) ∧ PtP nv s ∧ (¬ c < σ 0 0 2 ∧ ¬ 400 < c) ∧ HvP h
theorem can_c {w : HW} {σ : HS} {n np nv : Nat} (hV : Ivs w σ n np nv) {a s c h : Int32} {K : HRt} (k1 : AskP σ np nv a s c h → K (some (HI 1)) w σ) (k0 : ¬ AskP σ np nv a s c h → K (some (HI 0)) w σ) : sp_X10_canBeAsked [HR 10 0, HI a, HI s, HI c, HI h] w σ K := by
  have h10 := hV.2.1.1
  refine ⟨np, hV.pk, fun p hp e => ?_, fun hx => ?_⟩
  rotate_left
  · exact ⟨Or.inl rfl, k0 fun q => hx ((Bn (by omega)).mpr q.1)⟩
  by_cases h1 : ptC σ s
  rotate_left
  · refine And.intro (fun z9 => absurd z9 (h1)) (fun _ => And.intro (fun _ => ?_) (fun z9 => absurd rfl z9))
    exact ⟨Or.inl rfl, k0 fun q => h1 ((pt_iff hV.2.2.1).mpr q.2.1)⟩
  refine And.intro (fun _ => And.intro (fun z9 => absurd z9 (by decide)) (fun _ => ?_)) (fun z9 => absurd (h1) z9)
  by_cases h2 : c < σ 0 0 2
  · refine And.intro (fun _ => ?_) (fun z9 => absurd (h2) z9)
    exact ⟨Or.inl rfl, k0 fun q => q.2.2.1.1 h2⟩
  refine And.intro (fun z9 => absurd z9 (h2)) (fun _ => ?_)
  by_cases h3 : 400 < c
  · refine And.intro (fun _ => ?_) (fun z9 => absurd (h3) z9)
    exact ⟨Or.inl rfl, k0 fun q => q.2.2.1.2 h3⟩
  refine And.intro (fun z9 => absurd z9 (h3)) (fun _ => ?_)
  by_cases h4 : hvs h
  · refine And.intro (fun _ => And.intro (fun z9 => absurd z9 (by decide)) (fun _ => ?_)) (fun z9 => absurd (h4) z9)
    exact ⟨Or.inr rfl, k1 ⟨⟨p, hp, e⟩, (pt_iff hV.2.2.1).mp h1, ⟨h2, h3⟩, hv_iff.mp h4⟩⟩
  · refine And.intro (fun z9 => absurd z9 (h4)) (fun _ => And.intro (fun _ => ?_) (fun z9 => absurd rfl z9))
    exact ⟨Or.inl rfl, k0 fun q => h4 (hv_iff.mpr q.2.2.2)⟩
theorem can_m {w : HW} {σ : HS} {np nv : Nat} (h10 : np ≤ 10) (h14 : nv ≤ 14) (e1 : σ 11 0 1 = nI np) (e7 : σ 11 0 7 = nI nv) {a s c h : Int32} {K : HRt} (k1 : (∃ p, p < np ∧ a = nI p) → PtP nv s → (¬ c < σ 11 0 0 ∧ ¬ 400 < c) → HvP h → K (some (HI 1)) w σ) (k0 : ¬ ((∃ p, p < np ∧ a = nI p) ∧ PtP nv s ∧ (¬ c < σ 11 0 0 ∧ ¬ 400 < c) ∧ HvP h) → K (some (HI 0)) w σ) : sp_X11_isAsked [HR 11 0, HI a, HI s, HI c, HI h] w σ K := by
  by_cases h1 : ¬ a < 0 ∧ ¬ σ 11 0 1 - 1 < a
  rotate_left
  · have p1 : ¬ ∃ p, p < np ∧ a = nI p := by
      rw [e1, Pn (by omega)] at h1
      exact h1
    refine And.intro (fun z9 => absurd z9 (h1)) (fun _ => And.intro (fun _ => ?_) (fun z9 => absurd rfl z9))
    by_cases t1 : ¬ c < σ 11 0 0 ∧ ¬ 400 < c
    rotate_left
    · refine And.intro (fun z9 => absurd z9 (t1)) (fun _ => And.intro (fun _ => ?_) (fun z9 => absurd rfl z9))
      refine And.intro (fun _ => ?_) (fun z9 => absurd (rfl) z9)
      exact ⟨Or.inl rfl, k0 fun q => p1 q.1⟩
    refine And.intro (fun _ => And.intro (fun z9 => absurd z9 (by decide)) (fun _ => ?_)) (fun z9 => absurd (t1) z9)
    by_cases t2 : h < 0
    · refine And.intro (fun _ => ?_) (fun z9 => absurd (t2) z9)
      refine And.intro (fun _ => ?_) (fun z9 => absurd (rfl) z9)
      exact ⟨Or.inl rfl, k0 fun q => p1 q.1⟩
    refine And.intro (fun z9 => absurd z9 (t2)) (fun _ => ?_)
    refine And.intro (by decide) ?_
    by_cases t3 : ¬ h - h / 10 * 10 < 1 ∧ ¬ 4 < h - h / 10 * 10
    rotate_left
    · refine And.intro (fun z9 => absurd z9 (t3)) (fun _ => And.intro (fun _ => ?_) (fun z9 => absurd rfl z9))
      refine And.intro (fun _ => ?_) (fun z9 => absurd (rfl) z9)
      exact ⟨Or.inl rfl, k0 fun q => p1 q.1⟩
    refine And.intro (fun _ => And.intro (fun z9 => absurd z9 (by decide)) (fun _ => ?_)) (fun z9 => absurd (t3) z9)
    refine And.intro (by decide) (And.intro (by decide) ?_)
    by_cases t4 : 12 < h / 10 + (h - h / 10 * 10)
    · refine And.intro (fun _ => ?_) (fun z9 => absurd (t4) z9)
      refine And.intro (fun _ => ?_) (fun z9 => absurd (rfl) z9)
      exact ⟨Or.inl rfl, k0 fun q => p1 q.1⟩
    refine And.intro (fun z9 => absurd z9 (t4)) (fun _ => ?_)
    refine And.intro (fun _ => ?_) (fun z9 => absurd (rfl) z9)
    exact ⟨Or.inl rfl, k0 fun q => p1 q.1⟩
  refine And.intro (fun _ => And.intro (fun z9 => absurd z9 (by decide)) (fun _ => ?_)) (fun z9 => absurd (h1) z9)
  have p1 := h1
  rw [e1, Pn (by omega)] at p1
  have pr := pt_ref (s := s) h14
  rw [← e7] at pr
  by_cases h2 : ¬ s < 1 ∧ ¬ (1 : Int32) <<< (σ 11 0 7 &&& 31) - 1 < s
  rotate_left
  · refine And.intro (fun z9 => absurd z9 (h2)) (fun _ => And.intro (fun _ => ?_) (fun z9 => absurd rfl z9))
    by_cases t1 : ¬ c < σ 11 0 0 ∧ ¬ 400 < c
    rotate_left
    · refine And.intro (fun z9 => absurd z9 (t1)) (fun _ => And.intro (fun _ => ?_) (fun z9 => absurd rfl z9))
      refine And.intro (fun _ => ?_) (fun z9 => absurd (rfl) z9)
      exact ⟨Or.inl rfl, k0 fun q => h2 (pr.mpr q.2.1).1⟩
    refine And.intro (fun _ => And.intro (fun z9 => absurd z9 (by decide)) (fun _ => ?_)) (fun z9 => absurd (t1) z9)
    by_cases t2 : h < 0
    · refine And.intro (fun _ => ?_) (fun z9 => absurd (t2) z9)
      refine And.intro (fun _ => ?_) (fun z9 => absurd (rfl) z9)
      exact ⟨Or.inl rfl, k0 fun q => h2 (pr.mpr q.2.1).1⟩
    refine And.intro (fun z9 => absurd z9 (t2)) (fun _ => ?_)
    refine And.intro (by decide) ?_
    by_cases t3 : ¬ h - h / 10 * 10 < 1 ∧ ¬ 4 < h - h / 10 * 10
    rotate_left
    · refine And.intro (fun z9 => absurd z9 (t3)) (fun _ => And.intro (fun _ => ?_) (fun z9 => absurd rfl z9))
      refine And.intro (fun _ => ?_) (fun z9 => absurd (rfl) z9)
      exact ⟨Or.inl rfl, k0 fun q => h2 (pr.mpr q.2.1).1⟩
    refine And.intro (fun _ => And.intro (fun z9 => absurd z9 (by decide)) (fun _ => ?_)) (fun z9 => absurd (t3) z9)
    refine And.intro (by decide) (And.intro (by decide) ?_)
    by_cases t4 : 12 < h / 10 + (h - h / 10 * 10)
    · refine And.intro (fun _ => ?_) (fun z9 => absurd (t4) z9)
      refine And.intro (fun _ => ?_) (fun z9 => absurd (rfl) z9)
      exact ⟨Or.inl rfl, k0 fun q => h2 (pr.mpr q.2.1).1⟩
    refine And.intro (fun z9 => absurd z9 (t4)) (fun _ => ?_)
    refine And.intro (fun _ => ?_) (fun z9 => absurd (rfl) z9)
    exact ⟨Or.inl rfl, k0 fun q => h2 (pr.mpr q.2.1).1⟩
  refine And.intro (fun _ => And.intro (fun z9 => absurd z9 (by decide)) (fun _ => ?_)) (fun z9 => absurd (h2) z9)
  by_cases h3 : 3 < bsum s 31
  · refine And.intro (fun _ => ?_) (fun z9 => absurd (h3) z9)
    by_cases t1 : ¬ c < σ 11 0 0 ∧ ¬ 400 < c
    rotate_left
    · refine And.intro (fun z9 => absurd z9 (t1)) (fun _ => And.intro (fun _ => ?_) (fun z9 => absurd rfl z9))
      refine And.intro (fun _ => ?_) (fun z9 => absurd (rfl) z9)
      exact ⟨Or.inl rfl, k0 fun q => (pr.mpr q.2.1).2 h3⟩
    refine And.intro (fun _ => And.intro (fun z9 => absurd z9 (by decide)) (fun _ => ?_)) (fun z9 => absurd (t1) z9)
    by_cases t2 : h < 0
    · refine And.intro (fun _ => ?_) (fun z9 => absurd (t2) z9)
      refine And.intro (fun _ => ?_) (fun z9 => absurd (rfl) z9)
      exact ⟨Or.inl rfl, k0 fun q => (pr.mpr q.2.1).2 h3⟩
    refine And.intro (fun z9 => absurd z9 (t2)) (fun _ => ?_)
    refine And.intro (by decide) ?_
    by_cases t3 : ¬ h - h / 10 * 10 < 1 ∧ ¬ 4 < h - h / 10 * 10
    rotate_left
    · refine And.intro (fun z9 => absurd z9 (t3)) (fun _ => And.intro (fun _ => ?_) (fun z9 => absurd rfl z9))
      refine And.intro (fun _ => ?_) (fun z9 => absurd (rfl) z9)
      exact ⟨Or.inl rfl, k0 fun q => (pr.mpr q.2.1).2 h3⟩
    refine And.intro (fun _ => And.intro (fun z9 => absurd z9 (by decide)) (fun _ => ?_)) (fun z9 => absurd (t3) z9)
    refine And.intro (by decide) (And.intro (by decide) ?_)
    by_cases t4 : 12 < h / 10 + (h - h / 10 * 10)
    · refine And.intro (fun _ => ?_) (fun z9 => absurd (t4) z9)
      refine And.intro (fun _ => ?_) (fun z9 => absurd (rfl) z9)
      exact ⟨Or.inl rfl, k0 fun q => (pr.mpr q.2.1).2 h3⟩
    refine And.intro (fun z9 => absurd z9 (t4)) (fun _ => ?_)
    refine And.intro (fun _ => ?_) (fun z9 => absurd (rfl) z9)
    exact ⟨Or.inl rfl, k0 fun q => (pr.mpr q.2.1).2 h3⟩
  refine And.intro (fun z9 => absurd z9 (h3)) (fun _ => ?_)
  have p2 := pr.mp ⟨h2, h3⟩
  by_cases t1 : ¬ c < σ 11 0 0 ∧ ¬ 400 < c
  rotate_left
  · refine And.intro (fun z9 => absurd z9 (t1)) (fun _ => And.intro (fun _ => ?_) (fun z9 => absurd rfl z9))
    refine And.intro (fun z9 => absurd z9 (by decide)) (fun _ => ?_)
    refine And.intro (fun _ => ?_) (fun z9 => absurd (rfl) z9)
    exact ⟨Or.inl rfl, k0 fun q => t1 q.2.2.1⟩
  refine And.intro (fun _ => And.intro (fun z9 => absurd z9 (by decide)) (fun _ => ?_)) (fun z9 => absurd (t1) z9)
  by_cases t2 : h < 0
  · refine And.intro (fun _ => ?_) (fun z9 => absurd (t2) z9)
    refine And.intro (fun z9 => absurd z9 (by decide)) (fun _ => ?_)
    refine And.intro (fun _ => ?_) (fun z9 => absurd (rfl) z9)
    exact ⟨Or.inl rfl, k0 fun q => (hv_ref.mpr q.2.2.2).1 t2⟩
  refine And.intro (fun z9 => absurd z9 (t2)) (fun _ => ?_)
  refine And.intro (by decide) ?_
  by_cases t3 : ¬ h - h / 10 * 10 < 1 ∧ ¬ 4 < h - h / 10 * 10
  rotate_left
  · refine And.intro (fun z9 => absurd z9 (t3)) (fun _ => And.intro (fun _ => ?_) (fun z9 => absurd rfl z9))
    refine And.intro (fun z9 => absurd z9 (by decide)) (fun _ => ?_)
    refine And.intro (fun _ => ?_) (fun z9 => absurd (rfl) z9)
    exact ⟨Or.inl rfl, k0 fun q => t3 (hv_ref.mpr q.2.2.2).2.1⟩
  refine And.intro (fun _ => And.intro (fun z9 => absurd z9 (by decide)) (fun _ => ?_)) (fun z9 => absurd (t3) z9)
  refine And.intro (by decide) (And.intro (by decide) ?_)
  by_cases t4 : 12 < h / 10 + (h - h / 10 * 10)
  · refine And.intro (fun _ => ?_) (fun z9 => absurd (t4) z9)
    refine And.intro (fun z9 => absurd z9 (by decide)) (fun _ => ?_)
    refine And.intro (fun _ => ?_) (fun z9 => absurd (rfl) z9)
    exact ⟨Or.inl rfl, k0 fun q => (hv_ref.mpr q.2.2.2).2.2 t4⟩
  refine And.intro (fun z9 => absurd z9 (t4)) (fun _ => ?_)
  refine And.intro (fun z9 => absurd z9 (by decide)) (fun _ => ?_)
  refine And.intro (fun z9 => absurd z9 (by decide)) (fun _ => ?_)
  exact ⟨Or.inr rfl, k1 p1 p2 t1 (hv_ref.mp ⟨t2, t3, t4⟩)⟩
