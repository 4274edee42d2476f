/-! bits -/
def bt (x : Int32) (i : Nat) : Bool := x.toBitVec.getLsbD i
theorem b_ext {x y : Int32} (h : ∀ i, i < 32 → bt x i = bt y i) : x = y := Int32.toBitVec_inj.mp (BitVec.eq_of_getLsbD_eq (fun i hi => h i hi))
theorem b_or (x y : Int32) (i : Nat) : bt (x ||| y) i = (bt x i || bt y i) := by unfold bt; rw [Int32.toBitVec_or, BitVec.getLsbD_or]
theorem b_and (x y : Int32) (i : Nat) : bt (x &&& y) i = (bt x i && bt y i) := by unfold bt; rw [Int32.toBitVec_and, BitVec.getLsbD_and]
theorem b_xor (x y : Int32) (i : Nat) : bt (x ^^^ y) i = (bt x i ^^ bt y i) := by unfold bt; rw [Int32.toBitVec_xor, BitVec.getLsbD_xor]
theorem b_big {x : Int32} {i : Nat} (h : 32 ≤ i) : bt x i = false := BitVec.getLsbD_of_ge _ _ h
theorem b_255 (i : Nat) : bt 255 i = decide (i < 8) := by
  rcases Nat.lt_or_ge i 32 with h | h
  · exact (by decide +kernel : ∀ i, i < 32 → bt 255 i = decide (i < 8)) i h
  · rw [b_big h, decide_eq_false (by omega)]
theorem b_65535 (i : Nat) : bt 65535 i = decide (i < 16) := by
  rcases Nat.lt_or_ge i 32 with h | h
  · exact (by decide +kernel : ∀ i, i < 32 → bt 65535 i = decide (i < 16)) i h
  · rw [b_big h, decide_eq_false (by omega)]
theorem b_m1 : ∀ i, i < 32 → bt (-1) i = true := by decide +kernel
theorem b_0 (i : Nat) : bt 0 i = false := BitVec.getLsbD_zero
theorem s_l : ∀ n, n < 32 → ((nI n &&& 31).toBitVec.smod 32).toNat = n := by decide +kernel
theorem s_u : ∀ n, n < 32 → (((nI n).toUInt32 &&& Int32.toUInt32 31).toBitVec % 32).toNat = n := by decide +kernel
theorem b_shl (n : Nat) (hn : n < 32) (x : Int32) {i : Nat} (hi : i < 32) : bt (x <<< (nI n &&& 31)) i = (decide (n ≤ i) && bt x (i - n)) := by
  unfold bt
  rw [Int32.toBitVec_shiftLeft]
  show (x.toBitVec <<< ((nI n &&& 31).toBitVec.smod 32).toNat).getLsbD i = _
  rw [s_l n hn, BitVec.getLsbD_shiftLeft]
  rcases Nat.lt_or_ge i n with h | h
  · simp [h, Nat.not_le.mpr h]
  · simp [hi, h, Nat.not_lt.mpr h]
theorem b_ushr (n : Nat) (hn : n < 32) (x : Int32) (i : Nat) : bt ((x.toUInt32 >>> ((nI n).toUInt32 &&& Int32.toUInt32 31)).toInt32) i = bt x (n + i) := by
  show (x.toUInt32 >>> ((nI n).toUInt32 &&& Int32.toUInt32 31)).toBitVec.getLsbD i = x.toUInt32.toBitVec.getLsbD (n + i)
  rw [UInt32.toBitVec_shiftRight]
  show (x.toUInt32.toBitVec >>> (((nI n).toUInt32 &&& Int32.toUInt32 31).toBitVec % 32).toNat).getLsbD i = _
  rw [s_u n hn, BitVec.getLsbD_ushiftRight]
theorem b_sshr (n : Nat) (hn : n < 32) (x : Int32) {i : Nat} (hi : i < 32) : bt (x >>> (nI n &&& 31)) i = if n + i < 32 then bt x (n + i) else bt x 31 := by
  unfold bt
  rw [Int32.toBitVec_shiftRight]
  show (x.toBitVec.sshiftRight ((nI n &&& 31).toBitVec.smod 32).toNat).getLsbD i = _
  rw [s_l n hn, BitVec.getLsbD_sshiftRight, BitVec.msb_eq_getLsbD_last]
  simp [hi]
theorem b_1 : ∀ i, i < 32 → bt 1 i = decide (i = 0) := by decide +kernel
theorem b_zero {x : Int32} : x = 0 ↔ ∀ i, i < 32 → bt x i = false := by
  constructor
  · intro h i _
    rw [h]
    exact b_0 i
  · intro h
    exact b_ext fun i hi => by rw [h i hi, b_0]
theorem b_nz {x : Int32} : ¬ x = 0 ↔ ∃ i, i < 32 ∧ bt x i = true := by
  constructor
  · intro h
    apply Classical.byContradiction
    intro q
    refine h (b_zero.mpr fun i hi => ?_)
    cases hb : bt x i with
    | false => rfl
    | true => exact absurd ⟨i, hi, hb⟩ q
  · rintro ⟨i, hi, hb⟩ h
    rw [h, b_0] at hb
    cases hb
theorem x1_1 {x : Int32} : x &&& 1 = 1 ↔ bt x 0 = true := by
  constructor
  · intro h
    have h1 := congrArg (fun z => bt z 0) h
    simp only [b_and, b_1 0 (by decide)] at h1
    simpa using h1
  · intro h
    refine b_ext fun i hi => ?_
    rw [b_and, b_1 i hi]
    by_cases q : i = 0
    · subst q
      simp [h]
    · simp [q]
theorem x1_0 {x : Int32} : x &&& 1 = 0 ↔ bt x 0 = false := by
  constructor
  · intro h
    have h1 := congrArg (fun z => bt z 0) h
    simp only [b_and, b_1 0 (by decide), b_0] at h1
    simpa using h1
  · intro h
    refine b_ext fun i hi => ?_
    rw [b_and, b_1 i hi, b_0]
    by_cases q : i = 0
    · subst q
      simp [h]
    · simp [q]
theorem x1_n {x : Int32} : ¬ x &&& 1 = 1 ↔ x &&& 1 = 0 := by
  rw [x1_1, x1_0]
  cases bt x 0 <;> simp
theorem b_at {s : Int32} {v : Nat} (h : v < 32) : bt (s >>> (nI v &&& 31)) 0 = bt s v := by
  rw [b_sshr v h s (by decide), if_pos (by omega), Nat.add_zero]
theorem bt1_bt {s : Int32} {v : Nat} (h : v < 32) : bt1 s v ↔ bt s v = true := by
  show s >>> (nI v &&& 31) &&& 1 = 1 ↔ _
  rw [x1_1, b_at h]
theorem bt0_bt {s : Int32} {v : Nat} (h : v < 32) : s >>> (nI v &&& 31) &&& 1 = 0 ↔ bt s v = false := by
  rw [x1_0, b_at h]
theorem b_one {v i : Nat} (hv : v < 32) (hi : i < 32) : bt (1 <<< (nI v &&& 31)) i = decide (i = v) := by
  rw [b_shl v hv 1 hi, b_1 _ (by omega)]
  by_cases q : i = v
  · subst q
    simp
  · rcases Nat.lt_or_ge i v with h | h
    · simp [q, Nat.not_le.mpr h]
    · have : ¬ i - v = 0 := by omega
      simp [q, this]
theorem b_not {x : Int32} {i : Nat} (hi : i < 32) : bt (x ^^^ (-1)) i = !bt x i := by
  rw [b_xor, b_m1 i hi]
  cases bt x i <;> rfl
theorem wB_x {b : Int32} {v : Nat} (hv : v < 32) {on : Int32} (hon : on = 0 ∨ on = 1) : wB b (nI v) on = if b >>> (nI v &&& 31) &&& 1 = on then b else b ^^^ (1 <<< (nI v &&& 31)) := by
  unfold wB
  refine b_ext fun i hi => ?_
  rcases hon with rfl | rfl
  · rw [if_neg (by decide)]
    by_cases c : b >>> (nI v &&& 31) &&& 1 = 0
    · rw [if_pos c, b_and, b_not hi, b_one hv hi]
      rw [bt0_bt hv] at c
      by_cases q : i = v
      · subst q; simp [c]
      · simp [q]
    · rw [if_neg c, b_and, b_not hi, b_xor, b_one hv hi]
      rw [bt0_bt hv] at c
      by_cases q : i = v
      · subst q
        have : bt b i = true := by cases h : bt b i with | false => exact absurd h c | true => rfl
        simp [this]
      · simp [q]
  · rw [if_pos rfl]
    by_cases c : b >>> (nI v &&& 31) &&& 1 = 1
    · rw [if_pos c, b_or, b_one hv hi]
      have c := (bt1_bt hv).mp c
      by_cases q : i = v
      · subst q; simp [c]
      · simp [q]
    · rw [if_neg c, b_or, b_xor, b_one hv hi]
      have c : ¬ bt b v = true := fun z => c ((bt1_bt hv).mpr z)
      by_cases q : i = v
      · subst q
        have : bt b i = false := by cases h : bt b i with | false => rfl | true => exact absurd h c
        simp [this]
      · simp [q]
theorem bl1 {a b : Bool} : (a && !b) = false ↔ (a = true → b = true) := by cases a <;> cases b <;> simp
/-- a set of visitors that are there -/
def setOK (nv : Nat) (s : Int32) : Prop := ∀ v, v < 32 → bt s v = true → v < nv
