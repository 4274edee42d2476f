/-! the relation between the class and the reference -/
def IvW (w : HW) (n np : Nat) : Prop := w.1 3 = np ∧ w.1 13 = np + 4 ∧ w.1 9 = n + 1 ∧ w.2 10 0 = some n ∧ (∀ j, j < n → w.2 18 j = some j) ∧ (∀ j, j < np → w.2 15 j = some j) ∧ w.2 17 0 = some 0 ∧ w.2 17 1 = some 1 ∧ (∀ c r, w.2 16 c = some r → r < w.1 4)
/-- an order: the class's day, the reference's -/
def ordR (x y : Int32) : Prop := (x = 401 ∧ y = -1) ∨ ∃ d, d ≤ 400 ∧ x = nI d ∧ y = nI d
def IvP (σ : HS) (np : Nat) : Prop := np ≤ 10 ∧ σ 2 0 1 = nI np ∧ σ 11 0 1 = nI np ∧ (∀ p, p < np → (∃ c, c < 4 ∧ σ 3 p 0 = nI c ∧ σ 20 0 p = nI c) ∧ (∃ f, f < 10 ∧ σ 3 p 1 = nI f ∧ σ 20 1 p = nI f) ∧ (σ 3 p 2 = 0 ∨ σ 3 p 2 = 1) ∧ σ 20 2 p = σ 3 p 2 ∧ σ 20 3 p = σ 3 p 3 ∧ ∀ v, v < 14 → ordR (σ 13 (p + 4) v) (σ 20 4 (14 * p + v))) ∧ (∀ p, np ≤ p → p < 10 → σ 20 3 p = 0 ∧ ∀ v, v < 14 → σ 20 4 (14 * p + v) = -1)
def IvV (σ : HS) (nv : Nat) : Prop := nv ≤ 14 ∧ σ 2 0 4 = nI nv ∧ σ 11 0 7 = nI nv ∧ (∀ v, v < nv → (∃ k, k < 4 ∧ σ 20 5 v = nI k) ∧ σ 13 1 v = σ 20 7 v) ∧ (∀ kk, kk < 4 → ∀ v, v < 32 → (bt (σ 13 0 kk) v = true ↔ v < nv ∧ (kk = 0 ∨ σ 20 5 v = nI kk ∨ (kk = 1 ∧ σ 20 5 v = 3))))
def IvR (w : HW) (σ : HS) : Prop := ∀ c, c < 4 → (w.2 16 c = none ∧ σ 21 0 c = 0) ∨ ∃ r, w.2 16 c = some r ∧ σ 21 0 c = 1 ∧ (∀ f, f < 6 → σ 4 r f = σ 20 (9 + f) c) ∧ ∃ m, 1 ≤ m ∧ m ≤ 60 ∧ σ 4 r 1 = nI m
/-- visit j of the class is the reference's visit i -/
def VR (σ : HS) (np nv j i : Nat) : Prop := (∃ p d a b, p < np ∧ d ≤ 400 ∧ 1 ≤ b ∧ b ≤ 4 ∧ a + b ≤ 12 ∧ σ 9 j 0 = nI p ∧ σ 20 16 i = nI p ∧ σ 9 j 2 = nI d ∧ σ 20 18 i = nI d ∧ σ 9 j 3 = nI a ∧ σ 20 19 i = nI a ∧ σ 9 j 4 = nI b ∧ σ 20 20 i = nI b) ∧ σ 20 17 i = σ 9 j 1 ∧ setOK nv (σ 9 j 1) ∧ (σ 9 j 5 = 0 ∨ σ 9 j 5 = 1) ∧ (σ 9 j 5 = 1 ↔ lwM σ nv (σ 9 j 1))
def IvB (σ : HS) (n np nv : Nat) : Prop := n ≤ 100 ∧ σ 0 0 1 = nI n ∧ σ 11 0 21 = nI n ∧ (∀ j, j < n → VR σ np nv j j ∧ (σ 9 j 6 = 0 ∨ σ 9 j 6 = 1 ∨ σ 9 j 6 = 2) ∧ σ 20 21 j = σ 9 j 6) ∧ (∀ j, j ≤ n → σ 9 j 7 = 0) ∧ ∀ j, j < n → ¬ σ 9 j 1 = 0
def IvS (σ : HS) : Prop := (∀ s, s < 2 → (σ 7 s 1 = -1 ∧ σ 20 22 s = -1) ∨ ∃ m, m ≤ 60 ∧ σ 7 s 1 = nI m ∧ σ 20 22 s = nI m ∧ ∀ j, j < m → σ 12 (1 + s) j = σ 20 23 (60 * s + j)) ∧ ∀ i j, (σ 12 i j).toInt8.toInt32 = σ 12 i j
def IvT (σ : HS) : Prop := ∃ t, t ≤ 60 ∧ σ 8 0 1 = nI t ∧ σ 11 0 20 = nI t ∧ ∀ j, j < t → ∃ x, σ 20 15 j = x &&& 255 ∧ σ 12 0 j = x.toInt8.toInt32
def IvM (σ : HS) : Prop := (∃ td, td ≤ 400 ∧ σ 0 0 2 = nI td ∧ σ 11 0 0 = nI td) ∧ (∃ t, 1 ≤ t ∧ t ≤ 6 ∧ σ 1 0 4 = nI t ∧ σ 11 0 28 = nI t) ∧ (∃ o, 1 ≤ o ∧ o ≤ 100 ∧ σ 6 0 0 = nI o ∧ σ 11 0 29 = nI o) ∧ σ 11 0 30 = σ 6 0 1 ∧ (∀ f, f < 10 → σ 20 8 f = σ 13 2 f ∧ ∀ v, v < 32 → bt (σ 13 2 f) v = true → v < 10) ∧ ∀ f g, f < 10 → g < 10 → bt (σ 13 2 f) g = bt (σ 13 2 g) f
def Ivs (w : HW) (σ : HS) (n np nv : Nat) : Prop := IvW w n np ∧ IvP σ np ∧ IvV σ nv ∧ IvR w σ ∧ IvB σ n np nv ∧ IvS σ ∧ IvT σ ∧ IvM σ
def Inv (w : HW) (σ : HS) : Prop := ∃ n np nv, Ivs w σ n np nv
section Bits2
variable {σ : HS} {nv : Nat} {s : Int32}
theorem kd_bit (hV : IvV σ nv) {kk : Nat} (hk : kk < 4) (h0 : kk ≠ 0) (h1 : kk ≠ 1) {v : Nat} (hv : v < nv) : bt (σ 13 0 kk) v = true ↔ σ 20 5 v = nI kk := by
  have := hV.1
  rw [hV.2.2.2.2 kk hk v (by omega)]
  constructor
  · rintro ⟨-, h | h | h⟩
    · exact absurd h h0
    · exact h
    · exact absurd h.1 h1
  · exact fun h => ⟨hv, Or.inr (Or.inl h)⟩
theorem lw_eq (hV : IvV σ nv) (hs : setOK nv s) : lwC σ s ↔ lwM σ nv s := by
  have h14 := hV.1
  show s &&& (σ 13 0 2 ^^^ (-1)) = 0 ↔ ∀ v, v < nv → bt1 s v → σ 20 5 v = 2
  rw [b_zero]
  constructor
  · intro h v hv hb
    have h1 := h v (by omega)
    rw [b_and, b_not (by omega), bl1] at h1
    exact (kd_bit hV (by decide) (by decide) (by decide) hv).mp (h1 ((bt1_bt (by omega)).mp hb))
  · intro h i hi
    rw [b_and, b_not hi, bl1]
    intro hb
    have hv := hs i hi hb
    exact (kd_bit hV (by decide) (by decide) (by decide) hv).mpr (h i hv ((bt1_bt hi).mpr hb))
theorem li_eq (hV : IvV σ nv) (hs : setOK nv s) {p : Nat} (hl : σ 20 3 p = σ 3 p 3) : ¬ liC σ p s ↔ ulM σ nv p s := by
  have h14 := hV.1
  show ¬ s &&& (σ 3 p 3 ^^^ (-1)) &&& (σ 13 0 2 ^^^ (-1)) = 0 ↔ ∃ v, v < nv ∧ bt1 s v ∧ ¬ σ 20 5 v = 2 ∧ ¬ bt1 (σ 20 3 p) v
  rw [b_nz, hl]
  constructor
  · rintro ⟨i, hi, hb⟩
    rw [b_and, b_and, b_not hi, b_not hi] at hb
    simp only [Bool.and_eq_true, Bool.not_eq_true'] at hb
    obtain ⟨⟨h1, h2⟩, h3⟩ := hb
    have hv := hs i hi h1
    refine ⟨i, hv, (bt1_bt hi).mpr h1, fun q => ?_, fun q => ?_⟩
    · rw [(kd_bit hV (by decide) (by decide) (by decide) hv).mpr q] at h3
      cases h3
    · rw [(bt1_bt hi).mp q] at h2
      cases h2
  · rintro ⟨v, hv, h1, h2, h3⟩
    have hi : v < 32 := by omega
    refine ⟨v, hi, ?_⟩
    rw [b_and, b_and, b_not hi, b_not hi]
    simp only [Bool.and_eq_true, Bool.not_eq_true']
    refine ⟨⟨(bt1_bt hi).mp h1, ?_⟩, ?_⟩
    · cases h : bt (σ 3 p 3) v with
      | false => rfl
      | true => exact absurd ((bt1_bt hi).mpr h) h3
    · cases h : bt (σ 13 0 2) v with
      | false => rfl
      | true => exact absurd ((kd_bit hV (by decide) (by decide) (by decide) hv).mp h) h2
theorem nk_eq (hV : IvV σ nv) (hs : setOK nv s) : nkC σ s ↔ caM σ nv s := by
  have h14 := hV.1
  show (¬ s &&& σ 13 0 3 = 0 ∧ s &&& σ 13 0 1 &&& (σ 13 0 3 ^^^ (-1)) = 0) ↔ ((∃ v, v < nv ∧ bt1 s v ∧ σ 20 5 v = 3) ∧ ¬ ∃ v, v < nv ∧ bt1 s v ∧ σ 20 5 v = 1)
  have e1 : ¬ s &&& σ 13 0 3 = 0 ↔ ∃ v, v < nv ∧ bt1 s v ∧ σ 20 5 v = 3 := by
    rw [b_nz]
    constructor
    · rintro ⟨i, hi, hb⟩
      rw [b_and, Bool.and_eq_true] at hb
      have hv := hs i hi hb.1
      exact ⟨i, hv, (bt1_bt hi).mpr hb.1, (kd_bit hV (by decide) (by decide) (by decide) hv).mp hb.2⟩
    · rintro ⟨v, hv, h1, h2⟩
      have hi : v < 32 := by omega
      refine ⟨v, hi, ?_⟩
      rw [b_and, Bool.and_eq_true]
      exact ⟨(bt1_bt hi).mp h1, (kd_bit hV (by decide) (by decide) (by decide) hv).mpr h2⟩
  have e2 : s &&& σ 13 0 1 &&& (σ 13 0 3 ^^^ (-1)) = 0 ↔ ¬ ∃ v, v < nv ∧ bt1 s v ∧ σ 20 5 v = 1 := by
    rw [b_zero]
    constructor
    · rintro h ⟨v, hv, h1, h2⟩
      have hi : v < 32 := by omega
      have h3 := h v hi
      rw [b_and, b_and, b_not hi, (bt1_bt hi).mp h1, (hV.2.2.2.2 1 (by decide) v hi).mpr ⟨hv, Or.inr (Or.inl h2)⟩] at h3
      have h4 : bt (σ 13 0 3) v = true := by simpa using h3
      have h5 := (kd_bit hV (by decide) (by decide) (by decide) hv).mp h4
      rw [h2] at h5
      exact absurd h5 (by decide)
    · intro h i hi
      cases hb : bt (s &&& σ 13 0 1 &&& (σ 13 0 3 ^^^ (-1))) i with
      | false => rfl
      | true =>
        exfalso
        rw [b_and, b_and, b_not hi] at hb
        simp only [Bool.and_eq_true, Bool.not_eq_true'] at hb
        obtain ⟨⟨h1, h2⟩, h3⟩ := hb
        have hv := hs i hi h1
        refine h ⟨i, hv, (bt1_bt hi).mpr h1, ?_⟩
        rcases ((hV.2.2.2.2 1 (by decide) i hi).mp h2).2 with q | q | q
        · exact absurd q (by decide)
        · exact q
        · rw [(kd_bit hV (by decide) (by decide) (by decide) hv).mpr q.2] at h3
          cases h3
  rw [e1, e2]
theorem ba_eq (hV : IvV σ nv) (hs : setOK nv s) {p d : Nat} (ho : ∀ v, v < 14 → ordR (σ 13 (p + 4) v) (σ 20 4 (14 * p + v))) (hd : d ≤ 400) : (∃ u, u < 14 ∧ bt1 s u ∧ ¬ nI d < σ 13 (p + 4) u) ↔ baM σ nv p s (nI d) := by
  have h14 := hV.1
  have key : ∀ u, u < 14 → (¬ nI d < σ 13 (p + 4) u ↔ ¬ σ 20 4 (14 * p + u) < 0 ∧ ¬ nI d < σ 20 4 (14 * p + u)) := fun u hu => by
    rcases ho u hu with ⟨h1, h2⟩ | ⟨e, he, h1, h2⟩
    · rw [h1, h2]
      constructor
      · intro h
        exact absurd (nI_lt (a := d) (b := 401) (by omega) (by omega)) h
      · intro h
        exact absurd (by decide) h.1
    · rw [h1, h2]
      exact ⟨fun h => ⟨nI_pos (by omega), h⟩, fun h => h.2⟩
  constructor
  · rintro ⟨u, hu, h1, h2⟩
    have h3 := (key u hu).mp h2
    exact ⟨u, hs u (by omega) ((bt1_bt (by omega)).mp h1), h1, h3.1, h3.2⟩
  · rintro ⟨v, hv, h1, h2, h3⟩
    exact ⟨v, by omega, h1, (key v (by omega)).mpr ⟨h2, h3⟩⟩
end Bits2
