/-! one visit looked at: the class's reason is the reference's -/
theorem sm_add (f g : Nat → Nat) : ∀ m, sm (fun j => f j + g j) m = sm f m + sm g m
  | 0 => rfl
  | m + 1 => by
    show sm (fun j => f j + g j) m + (f m + g m) = sm f m + f m + (sm g m + g m)
    rw [sm_add f g m]
    omega
theorem sm_z {f : Nat → Nat} : ∀ {m : Nat}, (∀ j, j < m → f j = 0) → sm f m = 0
  | 0, _ => rfl
  | m + 1, h => by
    show sm f m + f m = 0
    rw [sm_z (fun j hj => h j (by omega)), h m (by omega)]
theorem sm_u {c : Nat → Bool} {j0 : Nat} (h0 : c j0 = true) : ∀ {m : Nat}, j0 < m → (∀ j, j < m → c j = true → j = j0) → sm (fun j => if c j then 1 else 0) m = 1
  | 0, h, _ => absurd h (Nat.not_lt_zero _)
  | m + 1, h, hu => by
    show sm (fun j => if c j then 1 else 0) m + (if c m then 1 else 0) = 1
    rcases Nat.lt_or_ge j0 m with q | q
    · rw [sm_u h0 q (fun j hj => hu j (by omega))]
      have : ¬ c m = true := fun z => by have := hu m (by omega) z; omega
      rw [if_neg this]
    · have e : j0 = m := by omega
      subst e
      rw [if_pos h0, sm_z]
      intro j hj
      exact if_neg fun z => by have := hu j (by omega) z; omega
theorem sm_cnt {P : Nat → Nat → Bool} {q : Nat → Bool} {m : Nat} : ∀ {n : Nat}, (∀ i, i < n → sm (fun j => if P i j then 1 else 0) m = if q i then 1 else 0) → sm (fun j => cnt (fun i => P i j) n) m = cnt q n
  | 0, _ => sm_z fun _ _ => rfl
  | n + 1, h => by
    show sm (fun j => cnt (fun i => P i j) n + (if P n j then 1 else 0)) m = cnt q n + (if q n then 1 else 0)
    rw [sm_add, sm_cnt (fun i hi => h i (by omega)), h n (by omega)]
theorem i_sub {e d m f : Nat} : nI e - (nI d - nI m + 1) = nI f ↔ nI (e + m) = nI (d + 1 + f) := by
  rw [← nI_add, ← nI_add, ← nI_add]
  have h1 : nI 1 = (1 : Int32) := rfl
  rw [h1]
  constructor
  · intro h
    rw [← h]
    grind
  · intro h
    have : nI e = nI d + 1 + nI f - nI m := by rw [← h]; grind
    rw [this]
    grind
theorem i_F {d m k : Nat} : nI d - nI m + 1 + nI k = nI (d + 1 + k) - nI m := by
  rw [← nI_add, ← nI_add]
  have h1 : nI 1 = (1 : Int32) := rfl
  rw [h1]
  grind
theorem i_Fm {d m k : Nat} : nI (d + 1 + k) - nI m + nI m = nI (d + 1 + k) := by grind
section Core
variable {w : HW} {σ : HS} {n np nv : Nat}
theorem win_eq (hB : IvB σ n np nv) {v p d m k : Nat} (h0 : σ 9 v 0 = nI p) (h2 : σ 9 v 2 = nI d) (hd : d ≤ 400) (hp : p < np) (hnp : np ≤ 10) (hm : m ≤ 60) (hk : k < m) : winC σ v m n k = wnM σ nv p m n (nI d - nI m + 1 + nI k) := by
  unfold winC wnM
  refine sm_cnt (P := fun i j => decide (tyP σ v m i (k + j))) (q := fun i => decide (tmP σ nv p m i (nI d - nI m + 1 + nI k))) fun i hi => ?_
  obtain ⟨⟨⟨p', e, a, b, hp', he, hb1, hb4, hab, c0, r0, c2, r2, -⟩, rs, hset, h01, hlw⟩, hst, hst2⟩ := hB.2.2.2.1 i hi
  have hl : σ 9 i 5 = 0 ↔ ¬ lwM σ nv (σ 20 17 i) := by
    rw [rs, ← hlw]
    rcases h01 with h | h
    · rw [h]; exact ⟨fun _ => by decide, fun _ => rfl⟩
    · rw [h]; exact ⟨fun q => absurd q (by decide), fun q => absurd rfl q⟩
  have hz : tmP σ nv p m i (nI d - nI m + 1 + nI k) ↔ (σ 9 i 6 = 0 ∧ σ 9 i 5 = 0 ∧ σ 9 i 0 = σ 9 v 0) ∧ d + 1 + k ≤ e + m ∧ e < d + 1 + k := by
    unfold tmP
    rw [hst2, r0, c0, h0, r2, ← hl, i_F, i_Fm]
    have t1 : (nI (d + 1 + k) - nI m).toInt = ((d + 1 + k : Nat) : Int) - m := pk_sub_toInt (by omega) (by omega)
    have t2 : (nI e).toInt = (e : Int) := nI_toInt (by omega)
    rw [Int32.lt_iff_toInt_lt, t1, t2, nI_leI (by omega) (by omega)]
    constructor
    · rintro ⟨⟨q1, q2, q3⟩, q4, q5⟩
      exact ⟨⟨q1, q3, q2⟩, by omega, by omega⟩
    · rintro ⟨⟨q1, q2, q3⟩, q4, q5⟩
      exact ⟨⟨q1, q3, q2⟩, by omega, by omega⟩
  have hy : ∀ j, tyP σ v m i (k + j) ↔ (σ 9 i 6 = 0 ∧ σ 9 i 5 = 0 ∧ σ 9 i 0 = σ 9 v 0) ∧ e + m = d + 1 + (k + j) ∧ k + j < 2 * m - 1 := fun j => by
    unfold tyP
    rw [c2, h2, i_sub]
    constructor
    · rintro ⟨q1, q2, q3, q4, q5⟩
      exact ⟨⟨q1, q2, q3⟩, (nI_eq (by omega) (by omega)).mp q4, q5⟩
    · rintro ⟨⟨q1, q2, q3⟩, q4, q5⟩
      exact ⟨q1, q2, q3, by rw [q4], q5⟩
  by_cases c : tmP σ nv p m i (nI d - nI m + 1 + nI k)
  · rw [if_pos (decide_eq_true c)]
    have c := hz.mp c
    refine sm_u (c := fun j => decide (tyP σ v m i (k + j))) (j0 := e + m - (d + 1 + k)) (decide_eq_true ((hy _).mpr ⟨c.1, by omega, by omega⟩)) (by omega) (fun j hj hq => ?_)
    have := ((hy j).mp (of_decide_eq_true hq)).2.1
    omega
  · rw [if_neg (by rw [decide_eq_false c]; decide)]
    refine sm_z fun j hj => if_neg fun q => ?_
    have q := (hy j).mp (of_decide_eq_true q)
    exact c (hz.mpr ⟨q.1, by omega, by omega⟩)
/-- two functions of visits that say the same of those that are there -/
def oEq (n : Nat) : Option (Nat → Int32) → Option (Nat → Int32) → Prop
  | none, none => True
  | some x, some y => ∀ i, i < n → x i = y i
  | _, _ => False
theorem clr_cg {V V' : Nat → Nat → Int32} {L L' : Nat → Int32} {day h : Int32} (hV : ∀ i, i < n → V i 2 = V' i 2 ∧ V i 3 = V' i 3 ∧ V i 4 = V' i 4) (hL : ∀ i, i < n → (L i = 0 ↔ L' i = 0)) : ∀ (c : Nat) (S S' : Nat → Int32), (∀ i, i < n → S i = S' i) → oEq n (clr V L n day h c S) (clr V' L' n day h c S')
  | 0, S, S', hS => hS
  | c + 1, S, S', hS => by
    have e : lastY (fun i => decide (yV V L S i day h)) n = lastY (fun i => decide (yV V' L' S' i day h)) n := lastY_cg fun j hj => by
      have h1 := hV j hj
      have h2 := hL j hj
      unfold yV atV
      rw [h1.1, h1.2.1, h1.2.2, hS j hj]
      exact decide_eq_decide.mpr (and_congr Iff.rfl h2)
    unfold clr
    rw [e]
    cases lastY (fun i => decide (yV V' L' S' i day h)) n with
    | none => trivial
    | some i =>
      refine clr_cg hV hL c _ _ fun j hj => ?_
      unfold upd
      split
      · rfl
      · exact hS j hj
theorem rms_cg {V V' : Nat → Nat → Int32} {L L' : Nat → Int32} {day : Int32} {t : Nat} (hV : ∀ i, i < n → V i 2 = V' i 2 ∧ V i 3 = V' i 3 ∧ V i 4 = V' i 4) (hL : ∀ i, i < n → (L i = 0 ↔ L' i = 0)) : ∀ (b h : Nat) (S S' : Nat → Int32), (∀ i, i < n → S i = S' i) → oEq n (rms V L n day t b h S) (rms V' L' n day t b h S')
  | 0, _, _, _, hS => hS
  | b + 1, h, S, S', hS => by
    have e : lcV V S day (nI h) n = lcV V' S' day (nI h) n := cnt_cg fun j hj => by
      have h1 := hV j hj
      unfold atV
      rw [h1.1, h1.2.1, h1.2.2, hS j hj]
    unfold rms
    rw [e]
    have h1 := clr_cg (n := n) (day := day) (h := nI h) hV hL (lcV V' S' day (nI h) n + 1 - t) S S' hS
    cases h2 : clr V L n day (nI h) (lcV V' S' day (nI h) n + 1 - t) S with
    | none =>
      cases h3 : clr V' L' n day (nI h) (lcV V' S' day (nI h) n + 1 - t) S' with
      | none => trivial
      | some y => rw [h2, h3] at h1; exact h1.elim
    | some x =>
      cases h3 : clr V' L' n day (nI h) (lcV V' S' day (nI h) n + 1 - t) S' with
      | none => rw [h2, h3] at h1; exact h1.elim
      | some y =>
        rw [h2, h3] at h1
        exact rms_cg hV hL b (h + 1) x y h1
/-- what both sides must hold, for one look -/
def Core (w : HW) (σ : HS) (n np nv : Nat) : Prop := IvP σ np ∧ IvV σ nv ∧ IvR w σ ∧ IvB σ n np nv ∧ IvS σ ∧ IvM σ
/-- a visit of the class, with what the reference is told of it -/
def VQ (σ : HS) (np nv v p d a b : Nat) (s : Int32) : Prop := p < np ∧ d ≤ 400 ∧ a + b ≤ 12 ∧ σ 9 v 0 = nI p ∧ σ 9 v 1 = s ∧ σ 9 v 2 = nI d ∧ σ 9 v 3 = nI a ∧ σ 9 v 4 = nI b ∧ setOK nv s ∧ (σ 9 v 5 = 0 ∨ σ 9 v 5 = 1) ∧ (σ 9 v 5 = 1 ↔ lwM σ nv s)
theorem VQ.lw {v p d a b : Nat} {s : Int32} (h : VQ σ np nv v p d a b s) : σ 9 v 5 = 0 ↔ ¬ lwM σ nv s := by
  rw [← h.2.2.2.2.2.2.2.2.2.2]
  rcases h.2.2.2.2.2.2.2.2.2.1 with q | q
  · rw [q]; exact ⟨fun _ => by decide, fun _ => rfl⟩
  · rw [q]; exact ⟨fun z => absurd z (by decide), fun z => absurd rfl z⟩
theorem tb_eq (hS : IvS σ) (hM : IvM σ) {d : Nat} (hd : d ≤ 400) : tbC σ (nI d) = tbM σ (nI d) := by
  obtain ⟨t, -, -, t1, t2⟩ := hM.2.1
  unfold tbC tbM
  rw [nI_clamp (by omega)]
  rcases hS.1 0 (by decide) with ⟨h1, h2⟩ | ⟨m, hm, h1, h2, h3⟩
  · rw [h1, h2, if_neg (fun q => absurd q.2 (fun z => absurd (Int32.lt_of_le_of_lt (nI_pos' (by omega)) z) (by decide))), if_neg (fun z => absurd (Int32.lt_of_le_of_lt (nI_pos' (by omega)) z) (by decide)), t1, t2]
  · rw [h1, h2]
    by_cases c : d < m
    · have e := h3 d c
      rw [show 60 * 0 + d = d from by omega] at e
      rw [if_pos ⟨nI_pos' (by omega), nI_lt c (by omega)⟩, if_pos (nI_lt c (by omega)), show 1 + 0 = 1 from rfl] at *
      rw [e]
      by_cases q : 0 ≤ σ 20 23 d ∧ σ 20 23 d < 7
      · have q2 : ¬ 6 < σ 20 23 d := fun z => by
          obtain ⟨i, hi, ei⟩ := in_of (n := 7) (x := σ 20 23 d) q
          rw [ei] at z
          have := (nI_ltI (a := 6) (by omega) (by omega)).mp z
          omega
        rw [if_pos q, if_pos ⟨Int32.not_lt.mpr q.1, q2⟩]
      · rw [if_neg q, if_neg (fun z => q ⟨Int32.not_lt.mp z.1, Int32.lt_of_le_of_lt (Int32.not_lt.mp z.2) (by decide)⟩)]
    · have c1 : ¬ nI d < nI m := nI_nlt (by omega) (by omega)
      rw [if_neg (fun q => c1 q.2), if_neg c1, t1, t2]
theorem at_eq (hB : IvB σ n np nv) {i : Nat} (hi : i < n) (day h : Int32) : atL σ i day h ↔ atM σ i day h := by
  obtain ⟨⟨⟨p', e, a, b, hp', he, hb1, hb4, hab, c0, r0, c2, r2, c3, r3, c4, r4⟩, rs, hset, h01, hlw⟩, hst, hst2⟩ := hB.2.2.2.1 i hi
  have h7 := hB.2.2.2.2.1 i (by omega)
  unfold atL atM
  rw [hst2, c2, r2, c3, r3, c4, r4, h7]
  exact ⟨fun q => ⟨q.1, q.2.2.1, q.2.2.2⟩, fun q => ⟨q.1, rfl, q.2.1, q.2.2⟩⟩
theorem me_eq (hB : IvB σ n np nv) {v p d a b : Nat} {s : Int32} (hv : VQ σ np nv v p d a b s) {i : Nat} (hi : i < n) : (σ 9 i 6 = 0 ∧ shH σ i v) ↔ meM σ i (nI d) (nI a) (nI b) := by
  obtain ⟨⟨⟨p', e, a', b', hp', he, hb1, hb4, hab, c0, r0, c2, r2, c3, r3, c4, r4⟩, rs, hset, h01, hlw⟩, hst, hst2⟩ := hB.2.2.2.1 i hi
  obtain ⟨-, -, -, v0, v1, v2, v3, v4, -⟩ := hv
  unfold shH meM
  rw [hst2, c2, r2, c3, r3, c4, r4, v2, v3, v4]
theorem rh_eq (hP : IvP σ np) (hB : IvB σ n np nv) (hS : IvS σ) (hM : IvM σ) {v p d a b : Nat} {s : Int32} (hv : VQ σ np nv v p d a b s) : rhV σ n v = rhM σ n p a b s (nI d) := by
  obtain ⟨hp, hd, hab, v0, v1, v2, v3, v4, -⟩ := id hv
  have h10 := hP.1
  unfold rhV rhC rhM
  rw [v3, v4, nI_clamp (by omega), nI_clamp (by omega)]
  refine cif_cg ?_ rfl (cif_cg ?_ rfl (cif_cg ?_ rfl rfl))
  · unfold hmC smM
    constructor
    · rintro ⟨i, hi, h1, h2, h3⟩
      refine ⟨i, hi, (me_eq hB hv hi).mp ⟨h1, h2⟩, ?_⟩
      obtain ⟨⟨⟨p', e, a', b', hp', he, hb1, hb4, hab', c0, r0, -⟩, rs, -⟩, -⟩ := hB.2.2.2.1 i hi
      unfold shP at h3
      rw [c0, v0, v1] at h3
      rw [r0, rs]
      exact h3
    · rintro ⟨i, hi, h1, h3⟩
      have h2 := (me_eq hB hv hi).mpr h1
      refine ⟨i, hi, h2.1, h2.2, ?_⟩
      obtain ⟨⟨⟨p', e, a', b', hp', he, hb1, hb4, hab', c0, r0, -⟩, rs, -⟩, -⟩ := hB.2.2.2.1 i hi
      unfold shP
      rw [c0, v0, v1]
      rw [r0, rs] at h3
      exact h3
  · unfold mrC riM
    have hri : ∀ i, i < n → (rvI σ (σ 9 v 0).toNatClampNeg i ↔ σ 20 8 (σ 20 1 p).toNatClampNeg >>> (σ 20 1 (σ 20 16 i).toNatClampNeg &&& 31) &&& 1 = 1) := fun i hi => by
      obtain ⟨⟨⟨p', e, a', b', hp', he, hb1, hb4, hab', c0, r0, -⟩, rs, -⟩, -⟩ := hB.2.2.2.1 i hi
      obtain ⟨-, ⟨f, hf, f1, f2⟩, -⟩ := hP.2.2.2.1 p hp
      obtain ⟨-, ⟨f', hf', f1', f2'⟩, -⟩ := hP.2.2.2.1 p' hp'
      unfold rvI
      rw [v0, nI_clamp (by omega), f1, f2, nI_clamp (by omega), c0, r0, nI_clamp (by omega), f1', f2', (hM.2.2.2.2.1 f hf).1]
    constructor
    · rintro ⟨i, hi, h1, h2, h3⟩
      exact ⟨i, hi, (me_eq hB hv hi).mp ⟨h1, h2⟩, (hri i hi).mp h3⟩
    · rintro ⟨i, hi, h1, h3⟩
      have h2 := (me_eq hB hv hi).mpr h1
      exact ⟨i, hi, h2.1, h2.2, (hri i hi).mpr h3⟩
  · unfold ntC ntM
    rw [v2, tb_eq hS hM hd]
    have e : ∀ h, cnt (fun i => decide (atL σ i (nI d) (nI h))) n = cnt (fun i => decide (atM σ i (nI d) (nI h))) n := fun h => cnt_cg fun i hi => decide_eq_decide.mpr (at_eq hB hi _ _)
    constructor
    · rintro ⟨h, h1, h2, h3⟩
      exact ⟨h, h1, h2, by rw [← e]; exact h3⟩
    · rintro ⟨h, h1, h2, h3⟩
      exact ⟨h, h1, h2, by rw [e]; exact h3⟩
theorem rm_eq (hB : IvB σ n np nv) (hS : IvS σ) (hM : IvM σ) {v p d a b : Nat} {s : Int32} (hv : VQ σ np nv v p d a b s) : oEq n (rmC σ n v) (rmM σ n nv a b (nI d)) := by
  obtain ⟨hp, hd, hab, v0, v1, v2, v3, v4, -⟩ := id hv
  unfold rmC rmM
  rw [v2, v3, v4, nI_clamp (n := b) (by omega), nI_clamp (n := a) (by omega), tb_eq hS hM hd]
  refine rms_cg (fun i hi => ?_) (fun i hi => ?_) b a _ _ (fun i hi => ?_)
  · obtain ⟨⟨⟨p', e, a', b', hp', he, hb1, hb4, hab', c0, r0, c2, r2, c3, r3, c4, r4⟩, -⟩, -⟩ := hB.2.2.2.1 i hi
    show σ 9 i 2 = σ 20 18 i ∧ σ 9 i 3 = σ 20 19 i ∧ σ 9 i 4 = σ 20 20 i
    rw [c2, r2, c3, r3, c4, r4]
    exact ⟨rfl, rfl, rfl⟩
  · obtain ⟨⟨-, rs, hset, h01, hlw⟩, -⟩ := hB.2.2.2.1 i hi
    unfold lwL
    rw [rs]
    by_cases c : lwM σ nv (σ 9 i 1)
    · rw [cif_p c, hlw.mpr c]
    · rw [cif_n c]
      rcases h01 with q | q
      · rw [q]
      · exact absurd (hlw.mp q) c
  · unfold effS
    rw [if_pos (hB.2.2.2.2.1 i (by omega))]
    exact (hB.2.2.2.1 i hi).2.2.symm
end Core
