/-! calls, 6: feed, count -/
section Tape
variable {w : HW} {σ σ' : HS} {n np nv : Nat}
theorem ta_o {x : Int32} {k i f : Nat} (h1 : ¬ (k = 8 ∧ f = 1)) (h2 : ¬ (k = 12 ∧ i = 0)) : taS σ x k i f = σ k i f := by
  unfold taS ta1
  rw [up3_o (by omega), up3_o (by omega), up3_o (by omega), up3_o (by omega), up3_o (by omega), up3_o (by omega), up3_o (by omega), up3_o (by omega)]
theorem fo_o {x : Int32} {k i f : Nat} (h1 : ¬ (k = 11 ∧ f = 20)) (h2 : ¬ (k = 20 ∧ i = 15)) : foS σ x k i f = σ k i f := by
  unfold foS fo1
  rw [up3_o (by omega), up3_o (by omega), up3_o (by omega), up3_o (by omega), up3_o (by omega), up3_o (by omega), up3_o (by omega), up3_o (by omega)]
/-- the class's tape of one store, the reference's of another -/
def TR (σ σ' : HS) (t : Nat) : Prop := σ 8 0 1 = nI t ∧ σ' 11 0 20 = nI t ∧ ∀ j, j < t → ∃ y, σ' 20 15 j = y &&& 255 ∧ σ 12 0 j = y.toInt8.toInt32
theorem TR.one {t : Nat} (h : TR σ σ' t) (ht : t < 60) (x sh : Int32) : TR (ta1 σ x sh) (fo1 σ' x sh) (t + 1) := by
  obtain ⟨h1, h2, h3⟩ := h
  have e1 : (σ 8 0 1).toNatClampNeg = t := by rw [h1, nI_clamp (by omega)]
  have e2 : (σ' 11 0 20).toNatClampNeg = t := by rw [h2, nI_clamp (by omega)]
  refine ⟨?_, ?_, fun j hj => ?_⟩
  · show σ 8 0 1 + 1 = nI (t + 1)
    rw [h1, nI_1]
  · show σ' 11 0 20 + 1 = nI (t + 1)
    rw [h2, nI_1]
  · by_cases c : j = t
    · subst c
      refine ⟨x >>> (sh &&& 31), ?_, ?_⟩
      · unfold fo1
        rw [up3_o (by omega), e2, up3_v]
      · unfold ta1
        rw [up3_o (by omega), e1, up3_v, i8]
    · obtain ⟨y, y1, y2⟩ := h3 j (by omega)
      refine ⟨y, ?_, ?_⟩
      · unfold fo1
        rw [up3_o (by omega), up3_o (by omega)]
        exact y1
      · unfold ta1
        rw [up3_o (by omega), up3_o (by omega)]
        exact y2
theorem TR.four {t : Nat} (h : TR σ σ' t) (ht : t + 4 ≤ 60) (x : Int32) : TR (taS σ x) (foS σ' x) (t + 4) := (((h.one (by omega) x 24).one (by omega) x 16).one (by omega) x 8).one (by omega) x 0
theorem ta1_b (h : ∀ i j, (σ 12 i j).toInt8.toInt32 = σ 12 i j) (x sh : Int32) : ∀ i j, (ta1 σ x sh 12 i j).toInt8.toInt32 = ta1 σ x sh 12 i j := fun i j => by
  unfold ta1
  rw [up3_o (by omega)]
  by_cases c : 12 = 12 ∧ i = 0 ∧ j = (σ 8 0 1).toNatClampNeg
  · obtain ⟨-, rfl, rfl⟩ := c
    rw [up3_v]
    exact i8 _
  · rw [up3_o c]
    exact h i j
theorem taS_b (h : ∀ i j, (σ 12 i j).toInt8.toInt32 = σ 12 i j) (x : Int32) : ∀ i j, (taS σ x 12 i j).toInt8.toInt32 = taS σ x 12 i j := ta1_b (ta1_b (ta1_b (ta1_b h x 24) x 16) x 8) x 0
end Tape
theorem eq_feed : Eq3 Inv sp_X10_feed sp_X11_feed := by
  intro a b c w σ Q1 hI hK
  obtain ⟨n, np, nv, hV⟩ := id hI
  obtain ⟨t, ht, t1, t2, t3⟩ := hV.2.2.2.2.2.2.1
  by_cases h1 : t + 12 ≤ 60
  rotate_left
  · have z1 : ¬ ¬ 60 < σ 8 0 1 + 12 := by
      rw [t1, show (12 : Int32) = nI 12 from rfl, nI_add]
      exact fun q => q (nI_lt (a := 60) (by omega) (by omega))
    refine And.intro (fun z9 => absurd z9 (z1)) (fun _ => And.intro (fun _ => ?_) (fun z9 => absurd rfl z9))
    refine hK _ _ _ fun K2 h2 => ?_
    have z2 : ¬ σ 11 0 20 + 12 ≤ 60 := by
      rw [t2, show (12 : Int32) = nI 12 from rfl, nI_add]
      exact nI_ge (a := 60) (by omega) (by omega)
    refine And.intro (fun z9 => absurd z9 (z2)) (fun _ => ?_)
    exact h2 _ _ hI
  have z1 : ¬ 60 < σ 8 0 1 + 12 := by
    rw [t1, show (12 : Int32) = nI 12 from rfl, nI_add]
    exact nI_nlt (a := 60) (by omega) (by omega)
  refine And.intro (fun _ => And.intro (fun z9 => absurd z9 (by decide)) (fun _ => ?_)) (fun z9 => absurd (z1) z9)
  have r0 : TR σ (taS (taS (taS σ a) b) c) t := ⟨t1, by rw [ta_o (by omega) (by omega), ta_o (by omega) (by omega), ta_o (by omega) (by omega)]; exact t2, fun j hj => by
    rw [ta_o (by omega) (by omega), ta_o (by omega) (by omega), ta_o (by omega) (by omega)]
    exact t3 j hj⟩
  have r1 := r0.four (by omega) a
  have r2 := r1.four (by omega) b
  have r3 := r2.four (by omega) c
  refine ⟨t, by omega, t1, t + 4, by omega, r1.1, t + 4 + 4, by omega, r2.1, ?_⟩
  refine hK _ _ _ fun K2 h2 => ?_
  have z2 : taS (taS (taS σ a) b) c 11 0 20 + 12 ≤ 60 := by
    rw [r0.2.1, show (12 : Int32) = nI 12 from rfl, nI_add]
    exact nI_le (b := 60) (by omega) (by omega)
  refine And.intro (fun _ => ?_) (fun z9 => absurd (z2) z9)
  refine ⟨t, by omega, r0.2.1, t + 4, by omega, r1.2.1, t + 4 + 4, by omega, r2.2.1, ?_⟩
  show K2 (some (HI (foS (foS (foS (taS (taS (taS σ a) b) c) a) b) c 11 0 20))) w (foS (foS (foS (taS (taS (taS σ a) b) c) a) b) c)
  rw [r3.2.1]
  have hh : ∀ w2 σ2, Inv w2 σ2 → K2 (some (HI (taS (taS (taS σ a) b) c 8 0 1))) w2 σ2 := h2
  rw [r3.1] at hh
  have es : ∀ k i f, ¬ (k = 8 ∧ f = 1) → ¬ (k = 12 ∧ i = 0) → ¬ (k = 11 ∧ f = 20) → ¬ (k = 20 ∧ i = 15) → foS (foS (foS (taS (taS (taS σ a) b) c) a) b) c k i f = σ k i f := fun k i f g1 g2 g3 g4 => by
    rw [fo_o g3 g4, fo_o g3 g4, fo_o g3 g4, ta_o g1 g2, ta_o g1 g2, ta_o g1 g2]
  have ec : ∀ k i f, ¬ (k = 11 ∧ f = 20) → ¬ (k = 20 ∧ i = 15) → foS (foS (foS (taS (taS (taS σ a) b) c) a) b) c k i f = taS (taS (taS σ a) b) c k i f := fun k i f g3 g4 => by
    rw [fo_o g3 g4, fo_o g3 g4, fo_o g3 g4]
  refine hh _ _ ⟨n, np, nv, hV.1, hV.2.1.cd fun k i f hr => es k i f (by unfold rdPr at hr; omega) (by unfold rdPr at hr; omega) (by unfold rdPr at hr; omega) (by unfold rdPr at hr; omega), hV.2.2.1.cd fun k i f hr => es k i f (by unfold rdVi at hr; omega) (by unfold rdVi at hr; omega) (by unfold rdVi at hr; omega) (by unfold rdVi at hr; omega), hV.2.2.2.1.cd fun k i f hr => es k i f (by unfold rdRi at hr; omega) (by unfold rdRi at hr; omega) (by unfold rdRi at hr; omega) (by unfold rdRi at hr; omega), hV.2.2.2.2.1.cd fun k i f hr => es k i f (by unfold rdBk at hr; omega) (by unfold rdBk at hr; omega) (by unfold rdBk at hr; omega) (by unfold rdBk at hr; omega), ⟨fun s hs => ?_, fun i j => ?_⟩, ⟨t + 4 + 4 + 4, by omega, ?_, r3.2.1, fun j hj => ?_⟩, hV.2.2.2.2.2.2.2.cd fun k i f hr => es k i f (by unfold rdMi at hr; omega) (by unfold rdMi at hr; omega) (by unfold rdMi at hr; omega) (by unfold rdMi at hr; omega)⟩
  · rw [es 7 s 1 (by omega) (by omega) (by omega) (by omega), es 20 22 s (by omega) (by omega) (by omega) (by omega)]
    rcases hV.2.2.2.2.2.1.1 s hs with q | ⟨m, q1, q2, q3, q4⟩
    · exact Or.inl q
    · exact Or.inr ⟨m, q1, q2, q3, fun j hj => by rw [es 12 (1 + s) j (by omega) (by omega) (by omega) (by omega), es 20 23 _ (by omega) (by omega) (by omega) (by omega)]; exact q4 j hj⟩
  · rw [ec 12 i j (by omega) (by omega)]
    exact taS_b (taS_b (taS_b hV.2.2.2.2.2.1.2 a) b) c i j
  · rw [ec 8 0 1 (by omega) (by omega)]
    exact r3.1
  · rw [ec 12 0 j (by omega) (by omega)]
    exact r3.2.2 j hj
theorem isum_c {f : Nat → Int32} {g : Nat → Nat} : ∀ {n : Nat}, (∀ i, i < n → f i = nI (g i)) → isum f n = nI (sm g n)
  | 0, _ => rfl
  | n + 1, h => by
    show isum f n + f n = nI (sm g n + g n)
    rw [isum_c (fun i hi => h i (by omega)), h n (by omega), nI_add]
theorem sm_c {c : Nat → Bool} : ∀ {n : Nat}, sm (fun i => if c i then 1 else 0) n = cnt c n
  | 0 => rfl
  | n + 1 => by
    show sm (fun i => if c i then 1 else 0) n + (if c n then 1 else 0) = cnt c n + (if c n then 1 else 0)
    rw [sm_c]
theorem cnt_add {c : Nat → Bool} {a : Nat} : ∀ {b : Nat}, cnt c (a + b) = cnt c a + cnt (fun j => c (a + j)) b
  | 0 => rfl
  | b + 1 => by
    show cnt c (a + b) + (if c (a + b) then 1 else 0) = cnt c a + (cnt (fun j => c (a + j)) b + (if c (a + b) then 1 else 0))
    rw [cnt_add]
    omega
theorem cnt_rows {c : Nat → Bool} : ∀ {m : Nat}, cnt c (14 * m) = sm (fun p => cnt (fun v => c (14 * p + v)) 14) m
  | 0 => rfl
  | m + 1 => by
    show cnt c (14 * m + 14) = sm (fun p => cnt (fun v => c (14 * p + v)) 14) m + cnt (fun v => c (14 * m + v)) 14
    rw [cnt_add, cnt_rows]
theorem sm_cg2 {f g : Nat → Nat} : ∀ {m : Nat}, (∀ j, j < m → f j = g j) → sm f m = sm g m
  | 0, _ => rfl
  | m + 1, h => by
    show sm f m + f m = sm g m + g m
    rw [sm_cg2 (fun j hj => h j (by omega)), h m (by omega)]
theorem sm_ze {f : Nat → Nat} {a : Nat} : ∀ {b : Nat}, a ≤ b → (∀ v, a ≤ v → v < b → f v = 0) → sm f b = sm f a
  | 0, h, _ => by
    have : a = 0 := by omega
    rw [this]
  | b + 1, h, hz => by
    rcases Nat.lt_or_ge b a with q | q
    · have : a = b + 1 := by omega
      rw [this]
    · show sm f b + f b = sm f a
      rw [hz b q (by omega)]
      exact sm_ze q fun v h1 h2 => hz v h1 (by omega)
theorem cnt_zz {c : Nat → Bool} {n : Nat} (h : ∀ j, j < n → c j = false) : cnt c n = 0 := cnt_z (a := 0) (Nat.zero_le _) fun v _ h2 => h v h2
theorem eq_count : Eq1 Inv sp_X10_count sp_X11_count := by
  intro a w σ Q1 hI hK
  obtain ⟨n, np, nv, hV⟩ := id hI
  have h10 := hV.2.1.1
  by_cases c : ¬ a < 0 ∧ ¬ 8 < a
  rotate_left
  · have ne : ∀ k, k < 9 → ¬ a = nI k := fun k hk e => c ((In (m := 8) (by decide)).mpr ⟨k, hk, e⟩)
    refine And.intro (fun z9 => absurd z9 (ne 0 (by decide))) (fun _ => ?_)
    refine And.intro (fun z9 => absurd z9 (ne 1 (by decide))) (fun _ => ?_)
    refine And.intro (fun z9 => absurd z9 (ne 2 (by decide))) (fun _ => ?_)
    refine And.intro (fun z9 => absurd z9 (ne 3 (by decide))) (fun _ => ?_)
    refine And.intro (fun z9 => absurd z9 (ne 4 (by decide))) (fun _ => ?_)
    refine And.intro (fun z9 => absurd z9 (ne 5 (by decide))) (fun _ => ?_)
    refine And.intro (fun z9 => absurd z9 (ne 6 (by decide))) (fun _ => ?_)
    refine And.intro (fun z9 => absurd z9 (ne 7 (by decide))) (fun _ => ?_)
    refine And.intro (fun z9 => absurd z9 (ne 8 (by decide))) (fun _ => ?_)
    refine hK _ _ _ fun K2 h2 => ?_
    refine And.intro (fun z9 => absurd z9 (ne 0 (by decide))) (fun _ => ?_)
    refine And.intro (fun z9 => absurd z9 (ne 1 (by decide))) (fun _ => ?_)
    refine And.intro (fun z9 => absurd z9 (ne 2 (by decide))) (fun _ => ?_)
    refine And.intro (fun z9 => absurd z9 (ne 3 (by decide))) (fun _ => ?_)
    refine And.intro (fun z9 => absurd z9 (ne 4 (by decide))) (fun _ => ?_)
    refine And.intro (fun z9 => absurd z9 (ne 5 (by decide))) (fun _ => ?_)
    refine And.intro (fun z9 => absurd z9 (ne 6 (by decide))) (fun _ => ?_)
    refine And.intro (fun z9 => absurd z9 (ne 7 (by decide))) (fun _ => ?_)
    refine And.intro (fun z9 => absurd z9 (ne 8 (by decide))) (fun _ => ?_)
    exact h2 _ _ hI
  obtain ⟨k, hk, rfl⟩ := (In (m := 8) (by decide)).mp c
  have hk9 : k = 0 ∨ k = 1 ∨ k = 2 ∨ k = 3 ∨ k = 4 ∨ k = 5 ∨ k = 6 ∨ k = 7 ∨ k = 8 := by omega
  rcases hk9 with rfl | rfl | rfl | rfl | rfl | rfl | rfl | rfl | rfl
  · refine And.intro (fun _ => ?_) (fun z9 => absurd (rfl) z9)
    refine ⟨np, hV.pk, ?_⟩
    refine hK _ _ _ fun K2 h2 => ?_
    refine And.intro (fun _ => ?_) (fun z9 => absurd (rfl) z9)
    refine ⟨np, np, 0, nI 0, 0, 0, Nat.zero_le _, rfl, rfl, rfl, rfl, Or.inl ⟨rfl, h10, hV.2.1.2.2.1, rfl, ?_⟩⟩
    have e : isum (fun j => σ 20 2 j) np = nI (cnt (fun i => decide (¬ σ 3 i 2 = 0)) np) := by
      rw [← sm_c]
      refine isum_c fun i hi => ?_
      obtain ⟨-, -, hh, hh2, -⟩ := hV.2.1.2.2.2.1 i hi
      show σ 20 2 i = _
      rw [hh2]
      rcases hh with q | q
      · rw [q]; rfl
      · rw [q]; rfl
    rw [e]
    exact h2 _ _ hI
  · refine And.intro (fun z9 => absurd z9 (by decide)) (fun _ => ?_)
    refine And.intro (fun _ => ?_) (fun z9 => absurd (rfl) z9)
    refine hK _ _ _ fun K2 h2 => ?_
    refine And.intro (fun z9 => absurd z9 (by decide)) (fun _ => ?_)
    refine And.intro (fun _ => ?_) (fun z9 => absurd (rfl) z9)
    show K2 (some (HI (σ 11 0 7))) w σ
    rw [hV.2.2.1.2.2.1, ← hV.2.2.1.2.1]
    exact h2 _ _ hI
  · refine And.intro (fun z9 => absurd z9 (by decide)) (fun _ => ?_)
    refine And.intro (fun z9 => absurd z9 (by decide)) (fun _ => ?_)
    refine And.intro (fun _ => ?_) (fun z9 => absurd (rfl) z9)
    refine hK _ _ _ fun K2 h2 => ?_
    refine And.intro (fun z9 => absurd z9 (by decide)) (fun _ => ?_)
    refine And.intro (fun z9 => absurd z9 (by decide)) (fun _ => ?_)
    refine And.intro (fun _ => ?_) (fun z9 => absurd (rfl) z9)
    show K2 (some (HI (σ 11 0 21))) w σ
    rw [hV.2.2.2.2.1.2.2.1, ← hV.2.2.2.2.1.2.1]
    exact h2 _ _ hI
  · refine And.intro (fun z9 => absurd z9 (by decide)) (fun _ => ?_)
    refine And.intro (fun z9 => absurd z9 (by decide)) (fun _ => ?_)
    refine And.intro (fun z9 => absurd z9 (by decide)) (fun _ => ?_)
    refine And.intro (fun _ => ?_) (fun z9 => absurd (rfl) z9)
    refine ⟨n, hV.bk, ?_⟩
    refine hK _ _ _ fun K2 h2 => ?_
    refine And.intro (fun z9 => absurd z9 (by decide)) (fun _ => ?_)
    refine And.intro (fun z9 => absurd z9 (by decide)) (fun _ => ?_)
    refine And.intro (fun z9 => absurd z9 (by decide)) (fun _ => ?_)
    refine And.intro (fun _ => ?_) (fun z9 => absurd (rfl) z9)
    refine ⟨n, n, 0, nI 3, 0, 0, Nat.zero_le _, rfl, rfl, rfl, rfl, Or.inr (Or.inl ⟨rfl, ⟨hV.2.2.2.2.1.1, hV.2.2.2.2.1.2.2.1⟩, rfl, ?_⟩)⟩
    have e : cnt (fun j => decide (σ 20 21 j = nI 3 - 3)) n = cnt (fun i => decide (σ 9 i 6 = 0)) n := cnt_cg fun j hj => by
      rw [(hV.2.2.2.2.1.2.2.2.1 j hj).2.2]
      rfl
    rw [e]
    exact h2 _ _ hI
  · refine And.intro (fun z9 => absurd z9 (by decide)) (fun _ => ?_)
    refine And.intro (fun z9 => absurd z9 (by decide)) (fun _ => ?_)
    refine And.intro (fun z9 => absurd z9 (by decide)) (fun _ => ?_)
    refine And.intro (fun z9 => absurd z9 (by decide)) (fun _ => ?_)
    refine And.intro (fun _ => ?_) (fun z9 => absurd (rfl) z9)
    refine ⟨n, hV.bk, ?_⟩
    refine hK _ _ _ fun K2 h2 => ?_
    refine And.intro (fun z9 => absurd z9 (by decide)) (fun _ => ?_)
    refine And.intro (fun z9 => absurd z9 (by decide)) (fun _ => ?_)
    refine And.intro (fun z9 => absurd z9 (by decide)) (fun _ => ?_)
    refine And.intro (fun z9 => absurd z9 (by decide)) (fun _ => ?_)
    refine And.intro (fun _ => ?_) (fun z9 => absurd (rfl) z9)
    refine ⟨n, n, 0, nI 4, 0, 0, Nat.zero_le _, rfl, rfl, rfl, rfl, Or.inr (Or.inl ⟨rfl, ⟨hV.2.2.2.2.1.1, hV.2.2.2.2.1.2.2.1⟩, rfl, ?_⟩)⟩
    have e : cnt (fun j => decide (σ 20 21 j = nI 4 - 3)) n = cnt (fun i => decide (σ 9 i 6 = 1)) n := cnt_cg fun j hj => by
      rw [(hV.2.2.2.2.1.2.2.2.1 j hj).2.2]
      rfl
    rw [e]
    exact h2 _ _ hI
  · refine And.intro (fun z9 => absurd z9 (by decide)) (fun _ => ?_)
    refine And.intro (fun z9 => absurd z9 (by decide)) (fun _ => ?_)
    refine And.intro (fun z9 => absurd z9 (by decide)) (fun _ => ?_)
    refine And.intro (fun z9 => absurd z9 (by decide)) (fun _ => ?_)
    refine And.intro (fun z9 => absurd z9 (by decide)) (fun _ => ?_)
    refine And.intro (fun _ => ?_) (fun z9 => absurd (rfl) z9)
    refine ⟨np, hV.pk, ?_⟩
    refine hK _ _ _ fun K2 h2 => ?_
    refine And.intro (fun z9 => absurd z9 (by decide)) (fun _ => ?_)
    refine And.intro (fun z9 => absurd z9 (by decide)) (fun _ => ?_)
    refine And.intro (fun z9 => absurd z9 (by decide)) (fun _ => ?_)
    refine And.intro (fun z9 => absurd z9 (by decide)) (fun _ => ?_)
    refine And.intro (fun z9 => absurd z9 (by decide)) (fun _ => ?_)
    refine And.intro (fun _ => ?_) (fun z9 => absurd (rfl) z9)
    refine ⟨140, 140, 0, nI 5, 0, 0, Nat.zero_le _, rfl, rfl, rfl, rfl, Or.inr (Or.inr (Or.inl ⟨rfl, rfl, rfl, ?_⟩))⟩
    have e : cnt (fun j => decide (¬ σ 20 4 j < 0)) 140 = sm (fun p => cnt (fun v => decide (¬ σ 13 (p + 4) v = 401)) 14) np := by
      rw [show (140 : Nat) = 14 * 10 from rfl, cnt_rows, sm_ze h10 (fun p hp hp2 => cnt_zz fun v hv => ?_)]
      · refine sm_cg2 fun p hp => cnt_cg fun v hv => decide_eq_decide.mpr ?_
        rcases (hV.2.1.2.2.2.1 p hp).2.2.2.2.2 v hv with ⟨o1, o2⟩ | ⟨d, hd, o1, o2⟩
        · rw [o1, o2]
          exact ⟨fun q => absurd (by decide) q, fun q => absurd rfl q⟩
        · rw [o1, o2]
          exact ⟨fun _ q => by have := (nI_eq (b := 401) (by omega) (by decide)).mp q; omega, fun _ => nI_pos (by omega)⟩
      · rw [(hV.2.1.2.2.2.2 p hp hp2).2 v hv]
        decide
    rw [e]
    exact h2 _ _ hI
  · refine And.intro (fun z9 => absurd z9 (by decide)) (fun _ => ?_)
    refine And.intro (fun z9 => absurd z9 (by decide)) (fun _ => ?_)
    refine And.intro (fun z9 => absurd z9 (by decide)) (fun _ => ?_)
    refine And.intro (fun z9 => absurd z9 (by decide)) (fun _ => ?_)
    refine And.intro (fun z9 => absurd z9 (by decide)) (fun _ => ?_)
    refine And.intro (fun z9 => absurd z9 (by decide)) (fun _ => ?_)
    refine And.intro (fun _ => ?_) (fun z9 => absurd (rfl) z9)
    obtain ⟨td, -, t1, t2⟩ := hV.2.2.2.2.2.2.2.1
    refine hK _ _ _ fun K2 h2 => ?_
    refine And.intro (fun z9 => absurd z9 (by decide)) (fun _ => ?_)
    refine And.intro (fun z9 => absurd z9 (by decide)) (fun _ => ?_)
    refine And.intro (fun z9 => absurd z9 (by decide)) (fun _ => ?_)
    refine And.intro (fun z9 => absurd z9 (by decide)) (fun _ => ?_)
    refine And.intro (fun z9 => absurd z9 (by decide)) (fun _ => ?_)
    refine And.intro (fun z9 => absurd z9 (by decide)) (fun _ => ?_)
    refine And.intro (fun _ => ?_) (fun z9 => absurd (rfl) z9)
    show K2 (some (HI (σ 11 0 0))) w σ
    rw [t2, ← t1]
    exact h2 _ _ hI
  · refine And.intro (fun z9 => absurd z9 (by decide)) (fun _ => ?_)
    refine And.intro (fun z9 => absurd z9 (by decide)) (fun _ => ?_)
    refine And.intro (fun z9 => absurd z9 (by decide)) (fun _ => ?_)
    refine And.intro (fun z9 => absurd z9 (by decide)) (fun _ => ?_)
    refine And.intro (fun z9 => absurd z9 (by decide)) (fun _ => ?_)
    refine And.intro (fun z9 => absurd z9 (by decide)) (fun _ => ?_)
    refine And.intro (fun z9 => absurd z9 (by decide)) (fun _ => ?_)
    refine And.intro (fun _ => ?_) (fun z9 => absurd (rfl) z9)
    obtain ⟨tt, -, t1, t2, -⟩ := hV.2.2.2.2.2.2.1
    refine hK _ _ _ fun K2 h2 => ?_
    refine And.intro (fun z9 => absurd z9 (by decide)) (fun _ => ?_)
    refine And.intro (fun z9 => absurd z9 (by decide)) (fun _ => ?_)
    refine And.intro (fun z9 => absurd z9 (by decide)) (fun _ => ?_)
    refine And.intro (fun z9 => absurd z9 (by decide)) (fun _ => ?_)
    refine And.intro (fun z9 => absurd z9 (by decide)) (fun _ => ?_)
    refine And.intro (fun z9 => absurd z9 (by decide)) (fun _ => ?_)
    refine And.intro (fun z9 => absurd z9 (by decide)) (fun _ => ?_)
    refine And.intro (fun _ => ?_) (fun z9 => absurd (rfl) z9)
    show K2 (some (HI (σ 11 0 20))) w σ
    rw [t2, ← t1]
    exact h2 _ _ hI
  · refine And.intro (fun z9 => absurd z9 (by decide)) (fun _ => ?_)
    refine And.intro (fun z9 => absurd z9 (by decide)) (fun _ => ?_)
    refine And.intro (fun z9 => absurd z9 (by decide)) (fun _ => ?_)
    refine And.intro (fun z9 => absurd z9 (by decide)) (fun _ => ?_)
    refine And.intro (fun z9 => absurd z9 (by decide)) (fun _ => ?_)
    refine And.intro (fun z9 => absurd z9 (by decide)) (fun _ => ?_)
    refine And.intro (fun z9 => absurd z9 (by decide)) (fun _ => ?_)
    refine And.intro (fun z9 => absurd z9 (by decide)) (fun _ => ?_)
    refine And.intro (fun _ => ?_) (fun z9 => absurd (rfl) z9)
    obtain ⟨-, -, -, -, hr5, -⟩ := hV.2.2.2.2.2.2.2
    have hp : ∀ i, i < 10 → popc (σ 13 2 i) = nI (cnt (fun v => bt (σ 13 2 i) v) 14) ∧ bsum (σ 13 2 i) 31 = nI (cnt (fun v => bt (σ 13 2 i) v) 14) := fun i hi => pop_eq fun v hv hb => by have := (hr5 i hi).2 v hv hb; omega
    refine ⟨fun i => cnt (fun v => bt (σ 13 2 i) v) 14, fun i hi => ⟨(hp i hi).1, Nat.le_trans (cnt_le _ _) (by omega)⟩, ?_⟩
    refine hK _ _ _ fun K2 h2 => ?_
    refine And.intro (fun z9 => absurd z9 (by decide)) (fun _ => ?_)
    refine And.intro (fun z9 => absurd z9 (by decide)) (fun _ => ?_)
    refine And.intro (fun z9 => absurd z9 (by decide)) (fun _ => ?_)
    refine And.intro (fun z9 => absurd z9 (by decide)) (fun _ => ?_)
    refine And.intro (fun z9 => absurd z9 (by decide)) (fun _ => ?_)
    refine And.intro (fun z9 => absurd z9 (by decide)) (fun _ => ?_)
    refine And.intro (fun z9 => absurd z9 (by decide)) (fun _ => ?_)
    refine And.intro (fun z9 => absurd z9 (by decide)) (fun _ => ?_)
    refine And.intro (fun _ => ?_) (fun z9 => absurd (rfl) z9)
    refine ⟨10, 10, 0, nI 8, 0, 0, Nat.zero_le _, rfl, rfl, rfl, rfl, Or.inr (Or.inr (Or.inr ⟨rfl, rfl, rfl, ?_⟩))⟩
    have e : isum (fun j => bsum (σ 20 8 j) 31) 10 = nI (sm (fun i => cnt (fun v => bt (σ 13 2 i) v) 14) 10) := isum_c fun i hi => by
      rw [(hr5 i hi).1]
      exact (hp i hi).2
    rw [e]
    exact h2 _ _ hI
