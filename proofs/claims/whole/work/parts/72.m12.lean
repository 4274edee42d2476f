/-! calls, 12: a right's text, both ways -/
def Qc (x y : Int32) : Prop := x = y ∨ (x < 0 ∧ ¬ y < 128)
theorem Qc.eq {x y c : Int32} (h : Qc x y) (h0 : ¬ c < 0) (h1 : c < 128) : x = c ↔ y = c := by
  rcases h with rfl | ⟨a, b⟩
  · exact Iff.rfl
  · exact ⟨fun q => absurd (q ▸ a) h0, fun q => absurd (q ▸ h1) b⟩
theorem Qc.dg {x y : Int32} (h : Qc x y) : (¬ x < 48 ∧ ¬ 57 < x) ↔ (¬ y < 48 ∧ ¬ 57 < y) := by
  rcases h with rfl | ⟨a, b⟩
  · exact Iff.rfl
  · exact ⟨fun q => absurd (Int32.lt_trans a (by decide)) q.1, fun q => absurd (Int32.lt_of_lt_of_le (by decide) (Int32.not_lt.mp b)) q.2⟩
theorem Qc.dv {x y : Int32} (h : Qc x y) (hx : ¬ x < 48) : x = y := by
  rcases h with h | ⟨a, b⟩
  · exact h
  · exact absurd (Int32.lt_trans a (by decide)) hx
theorem qc_bv : ∀ x : BitVec 8, Qc (Int8.ofBitVec x).toInt32 (Int32.ofBitVec (x.zeroExtend 32)) := by
  unfold Qc
  decide +kernel
theorem and255 (x : Int32) : x &&& 255 = Int32.ofBitVec ((x.toInt8.toBitVec).zeroExtend 32) := by
  apply Int32.toBitVec_inj.mp
  show x.toBitVec &&& 255#32 = (x.toBitVec.signExtend 8).zeroExtend 32
  rw [BitVec.signExtend_eq_setWidth_of_le _ (by decide)]
  apply BitVec.eq_of_toNat_eq
  have h1 : x.toBitVec.toNat < 2 ^ 32 := x.toBitVec.isLt
  have h2 : x.toBitVec.toNat &&& 255 = x.toBitVec.toNat % 2 ^ 8 := Nat.and_two_pow_sub_one_eq_mod x.toBitVec.toNat 8
  rw [BitVec.toNat_and, BitVec.toNat_setWidth, BitVec.toNat_setWidth]
  show x.toBitVec.toNat &&& 255 = _
  omega
theorem qc_of (x : Int32) : Qc x.toInt8.toInt32 (x &&& 255) := by
  rw [and255]
  exact qc_bv x.toInt8.toBitVec
theorem run_cg {p q : Nat → Bool} : ∀ (k i : Nat), (∀ j, i ≤ j → j < i + k → p j = q j) → run p k i = run q k i
  | 0, _, _ => rfl
  | k + 1, i, h => by
    unfold run
    rw [h i (Nat.le_refl _) (by omega), run_cg k (i + 1) fun j h1 h2 => h j (by omega) (by omega)]
section Pc
variable {T T' : Nat → Int32} {z : Nat}
theorem wA_cg (h : ∀ j, j < z → Qc (T j) (T' j)) {e : Nat} (he : e ≤ z) : wA T z e = wA T' z e := run_cg _ _ fun j h1 h2 => decide_eq_decide.mpr ((h j (by omega)).eq (by decide) (by decide))
theorem wE_cg (h : ∀ j, j < z → Qc (T j) (T' j)) {e : Nat} (he : e ≤ z) : wE T z e = wE T' z e := run_cg _ _ fun j h1 h2 => decide_eq_decide.mpr (not_congr ((h j (by omega)).eq (by decide) (by decide)))
theorem we_cg (h : ∀ j, j < z → Qc (T j) (T' j)) {e : Nat} (he : e ≤ z) : we T z e = we T' z e := by
  unfold we
  rw [wA_cg h he, wE_cg h (wA_le he).2]
theorem nb_cg (h : ∀ j, j < z → Qc (T j) (T' j)) : ∀ (k i : Nat) (u : Int32), i + k ≤ z → nb T k i u = nb T' k i u
  | 0, _, _, _ => rfl
  | k + 1, i, u, hk => by
    unfold nb
    by_cases c : ¬ T i < 48 ∧ ¬ 57 < T i
    · rw [if_pos c, if_pos ((h i (by omega)).dg.mp c), (h i (by omega)).dv c.1]
      exact nb_cg h k (i + 1) _ (by omega)
    · rw [if_neg c, if_neg fun q => c ((h i (by omega)).dg.mpr q)]
theorem num_cg (h : ∀ j, j < z → Qc (T j) (T' j)) {a b : Nat} (hb : b ≤ z) : num T a b = num T' a b := by
  unfold num
  split
  · rfl
  · rcases Nat.lt_or_ge a b with q | q
    · exact nb_cg h _ _ _ (by omega)
    · rw [show b - a = 0 from by omega]
      rfl
theorem isW_cg (h : ∀ j, j < z → Qc (T j) (T' j)) {a b : Nat} {c1 c2 c3 c4 : Int32} (hb : b ≤ z) (h34 : c3 = 0 → c4 = 0) (k1 : ¬ c1 < 0 ∧ c1 < 128) (k2 : ¬ c2 < 0 ∧ c2 < 128) (k3 : ¬ c3 < 0 ∧ c3 < 128) (k4 : ¬ c4 < 0 ∧ c4 < 128) : isW T a b c1 c2 c3 c4 ↔ isW T' a b c1 c2 c3 c4 := by
  unfold isW
  by_cases hl : b - a = lenW c3 c4
  · have hl2 : 2 ≤ lenW c3 c4 ∧ (¬ c3 = 0 → 3 ≤ lenW c3 c4) ∧ (¬ c4 = 0 → 4 ≤ lenW c3 c4) := by
      unfold lenW
      by_cases q3 : c3 = 0
      · have q4 := h34 q3
        simp [q3, q4]
      · by_cases q4 : c4 = 0
        · simp [q3, q4]
        · simp [q3, q4]
    obtain ⟨l2, l3, l4⟩ := hl2
    rw [(h a (by omega)).eq k1.1 k1.2, (h (a + 1) (by omega)).eq k2.1 k2.2]
    refine and_congr Iff.rfl (and_congr Iff.rfl (and_congr Iff.rfl (and_congr ?_ ?_)))
    · by_cases q : c3 = 0
      · exact ⟨fun _ => Or.inl q, fun _ => Or.inl q⟩
      · rw [(h (a + 2) (by have := l3 q; omega)).eq k3.1 k3.2]
    · by_cases q : c4 = 0
      · exact ⟨fun _ => Or.inl q, fun _ => Or.inl q⟩
      · rw [(h (a + 3) (by have := l4 q; omega)).eq k4.1 k4.2]
  · exact ⟨fun q => absurd q.1 hl, fun q => absurd q.1 hl⟩
theorem pNum_cg (h : ∀ j, j < z → Qc (T j) (T' j)) {e : Nat} {lo hi : Int32} {k k' : Int32 → Nat → Prs} (he : e ≤ z) (hk : ∀ n e2, e2 ≤ z → k n e2 = k' n e2) : pNum T z e lo hi k = pNum T' z e lo hi k' := by
  have hb := (we_le (T := T') he).2.2
  unfold pNum
  rw [we_cg h he, wA_cg h he, num_cg h hb, hk _ _ hb]
theorem pWord_cg (h : ∀ j, j < z → Qc (T j) (T' j)) {e : Nat} {c1 c2 c3 c4 : Int32} {k k' : Nat → Prs} (he : e ≤ z) (h34 : c3 = 0 → c4 = 0) (k1 : ¬ c1 < 0 ∧ c1 < 128) (k2 : ¬ c2 < 0 ∧ c2 < 128) (k3 : ¬ c3 < 0 ∧ c3 < 128) (k4 : ¬ c4 < 0 ∧ c4 < 128) (hk : ∀ e2, e2 ≤ z → k e2 = k' e2) : pWord T z e c1 c2 c3 c4 k = pWord T' z e c1 c2 c3 c4 k' := by
  have hb := (we_le (T := T') he).2.2
  unfold pWord
  rw [we_cg h he, wA_cg h he, hk _ hb]
  exact cif_cg (isW_cg h hb h34 k1 k2 k3 k4) rfl rfl
theorem pNots_cg (h : ∀ j, j < z → Qc (T j) (T' j)) {k k' : Int32 → Nat → Prs} (hk : ∀ n e2, e2 ≤ z → k n e2 = k' n e2) : ∀ (m e : Nat) (lo acc : Int32), e ≤ z → pNots T z k m e lo acc = pNots T' z k' m e lo acc
  | 0, _, _, _, _ => rfl
  | m + 1, e, lo, acc, he => by
    unfold pNots
    refine pNum_cg h he fun n e2 h2 => ?_
    have hb := (we_le (T := T') h2).2.2
    rw [we_cg h h2, wA_cg h h2, pNots_cg h hk m _ _ _ hb, hk _ _ h2]
    exact cif_cg (isW_cg h hb (fun _ => rfl) (by decide) (by decide) (by decide) (by decide)) rfl rfl
theorem pNot_cg (h : ∀ j, j < z → Qc (T j) (T' j)) {e : Nat} {k k' : Int32 → Nat → Prs} (he : e ≤ z) (hk : ∀ n e2, e2 ≤ z → k n e2 = k' n e2) : pNot T z e k = pNot T' z e k' := by
  have hb := (we_le (T := T') he).2.2
  unfold pNot
  rw [we_cg h he, wA_cg h he, pNots_cg h hk _ _ _ _ hb, hk _ _ he]
  exact cif_cg (isW_cg h hb (by decide) (by decide) (by decide) (by decide) (by decide)) rfl rfl
theorem pFar_cg (h : ∀ j, j < z → Qc (T j) (T' j)) {e : Nat} {k k' : Int32 → Int32 → Nat → Prs} (he : e ≤ z) (hk : ∀ n m e2, e2 ≤ z → k n m e2 = k' n m e2) : pFar T z e k = pFar T' z e k' := by
  have hb := (we_le (T := T') he).2.2
  unfold pFar
  rw [we_cg h he, wA_cg h he, hk _ _ _ he]
  refine cif_cg (isW_cg h hb (by decide) (by decide) (by decide) (by decide) (by decide)) ?_ rfl
  exact pNum_cg h hb fun n e2 h2 => pWord_cg h h2 (by decide) (by decide) (by decide) (by decide) (by decide) fun e3 h3 => pNum_cg h h3 fun m e4 h4 => hk _ _ _ h4
theorem pLong_cg (h : ∀ j, j < z → Qc (T j) (T' j)) {e : Nat} {k k' : Int32 → Nat → Prs} (he : e ≤ z) (hk : ∀ n e2, e2 ≤ z → k n e2 = k' n e2) : pLong T z e k = pLong T' z e k' := by
  have hb := (we_le (T := T') he).2.2
  unfold pLong
  rw [we_cg h he, wA_cg h he, hk _ _ he]
  exact cif_cg (isW_cg h hb (by decide) (by decide) (by decide) (by decide) (by decide)) (pNum_cg h hb hk) rfl
theorem prs_cg (h : ∀ j, j < z → Qc (T j) (T' j)) : prs T z = prs T' z := by
  unfold prs
  refine pNum_cg h (Nat.zero_le _) fun n e1 h1 => pWord_cg h h1 (by decide) (by decide) (by decide) (by decide) (by decide) fun e2 h2 => pNum_cg h h2 fun m e3 h3 => pFar_cg h h3 fun f mo e4 h4 => ?_
  unfold pL
  refine pLong_cg h h4 fun l e5 h5 => pNot_cg h h5 fun nt e6 h6 => ?_
  unfold pEnd
  rw [we_cg h h6, wA_cg h h6]
end Pc
/-- what is read is a right -/
def OkP : Prs → Prop
  | .inl p => p ≤ 60
  | .inr t => ¬ t.2.1 < 1 ∧ ¬ 60 < t.2.1
section Po
variable {T : Nat → Int32} {z : Nat}
theorem pNum_P (hz : z ≤ 60) {e : Nat} {lo hi : Int32} {k : Int32 → Nat → Prs} (he : e ≤ z) (hk : ∀ n e2, e2 ≤ z → ¬ n < lo → ¬ hi < n → OkP (k n e2)) : OkP (pNum T z e lo hi k) := by
  have hb := we_le (T := T) he
  unfold pNum
  by_cases c : ¬ num T (wA T z e) (we T z e) < lo ∧ ¬ hi < num T (wA T z e) (we T z e)
  · rw [cif_p c]; exact hk _ _ hb.2.2 c.1 c.2
  · rw [cif_n c]; show wA T z e ≤ 60; omega
theorem cif_O {c : Prop} {a b : Prs} (h1 : OkP a) (h2 : OkP b) : OkP (cif c a b) := by
  by_cases hq : c
  · rw [cif_p hq]; exact h1
  · rw [cif_n hq]; exact h2
theorem pWord_P (hz : z ≤ 60) {e : Nat} {c1 c2 c3 c4 : Int32} {k : Nat → Prs} (he : e ≤ z) (hk : ∀ e2, e2 ≤ z → OkP (k e2)) : OkP (pWord T z e c1 c2 c3 c4 k) := by
  have hb := we_le (T := T) he
  exact cif_O (hk _ hb.2.2) (by show wA T z e ≤ 60; omega)
theorem pNots_P (hz : z ≤ 60) {k : Int32 → Nat → Prs} (hk : ∀ n e2, e2 ≤ z → OkP (k n e2)) : ∀ (m e : Nat) (lo acc : Int32), e ≤ z → OkP (pNots T z k m e lo acc)
  | 0, _, _, _, _ => Nat.zero_le _
  | m + 1, e, lo, acc, he => by
    unfold pNots
    refine pNum_P hz he fun n e2 h2 _ _ => cif_O (pNots_P hz hk m _ _ _ (we_le (T := T) h2).2.2) (hk _ _ h2)
theorem prs_ok (hz : z ≤ 60) : OkP (prs T z) := by
  unfold prs
  refine pNum_P hz (Nat.zero_le _) fun n e1 h1 _ _ => pWord_P hz h1 fun e2 h2 => pNum_P hz h2 fun m e3 h3 m1 m2 => ?_
  have hL : ∀ f mo e4, e4 ≤ z → OkP (pL T z n m f mo e4) := fun f mo e4 h4 => by
    unfold pL pLong
    have hN : ∀ l e5, e5 ≤ z → OkP (pNot T z e5 (pEnd T z n m f mo l)) := fun l e5 h5 => by
      have hE : ∀ nt e6, e6 ≤ z → OkP (pEnd T z n m f mo l nt e6) := fun nt e6 h6 => by
        have := we_le (T := T) h6
        exact cif_O ⟨m1, m2⟩ (by show wA T z e6 ≤ 60; omega)
      exact cif_O (pNots_P hz hE _ _ _ _ (we_le (T := T) h5).2.2) (hE _ _ h5)
    exact cif_O (pNum_P hz (we_le (T := T) h4).2.2 fun l e5 h5 _ _ => hN l e5 h5) (hN _ _ h4)
  unfold pFar
  exact cif_O (pNum_P hz (we_le (T := T) h3).2.2 fun f e4 h4 _ _ => pWord_P hz h4 fun e5 h5 => pNum_P hz h5 fun mo e6 h6 _ _ => hL _ _ _ h6) (hL _ _ _ h3)
end Po
theorem prs_both {σ : HS} {t : Nat} (h : ∀ j, j < t → ∃ x, σ 20 15 j = x &&& 255 ∧ σ 12 0 j = x.toInt8.toInt32) : prs (σ 12 0) t = prs (σ 20 15) t := prs_cg fun j hj => by
  obtain ⟨x, e1, e2⟩ := h j hj
  rw [e1, e2]
  exact qc_of x
