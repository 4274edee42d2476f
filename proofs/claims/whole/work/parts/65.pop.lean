/-! counting bits -/
set_option maxRecDepth 100000 in
theorem pc_0 : ((List.range 2048).all fun k => decide (popc (nI (0 + k)) = bsum (nI (0 + k)) 14)) = true := by decide +kernel
set_option maxRecDepth 100000 in
theorem pc_1 : ((List.range 2048).all fun k => decide (popc (nI (2048 + k)) = bsum (nI (2048 + k)) 14)) = true := by decide +kernel
set_option maxRecDepth 100000 in
theorem pc_2 : ((List.range 2048).all fun k => decide (popc (nI (4096 + k)) = bsum (nI (4096 + k)) 14)) = true := by decide +kernel
set_option maxRecDepth 100000 in
theorem pc_3 : ((List.range 2048).all fun k => decide (popc (nI (6144 + k)) = bsum (nI (6144 + k)) 14)) = true := by decide +kernel
set_option maxRecDepth 100000 in
theorem pc_4 : ((List.range 2048).all fun k => decide (popc (nI (8192 + k)) = bsum (nI (8192 + k)) 14)) = true := by decide +kernel
set_option maxRecDepth 100000 in
theorem pc_5 : ((List.range 2048).all fun k => decide (popc (nI (10240 + k)) = bsum (nI (10240 + k)) 14)) = true := by decide +kernel
set_option maxRecDepth 100000 in
theorem pc_6 : ((List.range 2048).all fun k => decide (popc (nI (12288 + k)) = bsum (nI (12288 + k)) 14)) = true := by decide +kernel
set_option maxRecDepth 100000 in
theorem pc_7 : ((List.range 2048).all fun k => decide (popc (nI (14336 + k)) = bsum (nI (14336 + k)) 14)) = true := by decide +kernel
theorem pop14 {m : Nat} (h : m < 16384) : popc (nI m) = bsum (nI m) 14 := by
  have go : ∀ (c : Nat), ((List.range 2048).all fun k => decide (popc (nI (2048 * c + k)) = bsum (nI (2048 * c + k)) 14)) = true → 2048 * c ≤ m → m < 2048 * c + 2048 → popc (nI m) = bsum (nI m) 14 := fun c hc h1 h2 => by
    have h3 := of_decide_eq_true (List.all_eq_true.mp hc (m - 2048 * c) (List.mem_range.mpr (by omega)))
    rw [show 2048 * c + (m - 2048 * c) = m from by omega] at h3
    exact h3
  have hc : m / 2048 < 8 := by omega
  have hd : 2048 * (m / 2048) ≤ m ∧ m < 2048 * (m / 2048) + 2048 := by omega
  generalize m / 2048 = c at hc hd
  match c, hc with
  | 0, _ => exact go 0 pc_0 hd.1 hd.2
  | 1, _ => exact go 1 pc_1 hd.1 hd.2
  | 2, _ => exact go 2 pc_2 hd.1 hd.2
  | 3, _ => exact go 3 pc_3 hd.1 hd.2
  | 4, _ => exact go 4 pc_4 hd.1 hd.2
  | 5, _ => exact go 5 pc_5 hd.1 hd.2
  | 6, _ => exact go 6 pc_6 hd.1 hd.2
  | 7, _ => exact go 7 pc_7 hd.1 hd.2
theorem bt_nI {m v : Nat} (hv : v < 32) : bt (nI m) v = m.testBit v := by
  show (BitVec.ofNat 32 m).getLsbD v = _
  rw [BitVec.getLsbD_ofNat, decide_eq_true hv, Bool.true_and]
theorem set_nat {s : Int32} (h : ∀ v, v < 32 → bt s v = true → v < 14) : ∃ m, m < 16384 ∧ s = nI m := by
  refine ⟨s.toBitVec.toNat, ?_, ?_⟩
  · refine Nat.lt_pow_two_of_testBit (n := 14) _ fun i hi => ?_
    rw [BitVec.testBit_toNat]
    rcases Nat.lt_or_ge i 32 with q | q
    · cases hb : s.toBitVec.getLsbD i with
      | false => rfl
      | true => have := h i q hb; omega
    · exact BitVec.getLsbD_of_ge _ _ q
  · apply Int32.toBitVec_inj.mp
    show s.toBitVec = BitVec.ofNat 32 s.toBitVec.toNat
    simp
theorem bsum_c (s : Int32) : ∀ {n : Nat}, n ≤ 32 → bsum s n = nI (cnt (fun v => bt s v) n)
  | 0, _ => rfl
  | n + 1, h => by
    show bsum s n + (s >>> (nI n &&& 31) &&& 1) = nI (cnt (fun v => bt s v) n + (if bt s n then 1 else 0))
    rw [bsum_c s (by omega), ← nI_add]
    congr 1
    cases hb : bt s n with
    | false => exact (bt0_bt (by omega)).mpr hb
    | true => exact (bt1_bt (by omega)).mpr hb
theorem cnt_z {p : Nat → Bool} {a : Nat} : ∀ {b : Nat}, a ≤ b → (∀ v, a ≤ v → v < b → p v = false) → cnt p b = cnt p a
  | 0, h, _ => by
    have : a = 0 := by omega
    rw [this]
  | b + 1, h, hz => by
    rcases Nat.lt_or_ge b a with q | q
    · have : a = b + 1 := by omega
      rw [this]
    · rw [cnt_n (hz b q (by omega))]
      exact cnt_z q fun v h1 h2 => hz v h1 (by omega)
/-- the class's count of bits, and the reference's, of a set of at most 14 -/
theorem pop_eq {s : Int32} (h : ∀ v, v < 32 → bt s v = true → v < 14) : popc s = nI (cnt (fun v => bt s v) 14) ∧ bsum s 31 = nI (cnt (fun v => bt s v) 14) := by
  obtain ⟨m, hm, rfl⟩ := set_nat h
  refine ⟨by rw [pop14 hm, bsum_c _ (by omega)], ?_⟩
  rw [bsum_c _ (by omega)]
  congr 1
  refine cnt_z (by omega) fun v h1 h2 => ?_
  cases hb : bt (nI m) v with
  | false => rfl
  | true => have := h v (by omega) hb; omega
