/-! THE LAW, from its entry (draft: never built) -/
theorem whole_start {p : Program} {e : Env} {s : State} {m : MethodId} {below : List Frame} {meth : Method} {c : Code} (l : Launch) {b L : Nat} {xs : Nat → Int32} (hL : L ≤ 3072) (C0 : lw_At p s m meth c b L xs) : W p l e room_1 s m #[Value.ref b] below meth c s.heap [] 0 0 (lw_Z below #[Value.ref b] s) (entryFrame m ([Value.ref b] : List Value).toArray 4) := by
  obtain ⟨hx, hb, hr, hml, hown, hts0, hX, hbl, hlocks, hgv⟩ := id C0
  have hts : ∀ x ∈ TT, x.before #[Value.ref b] s = true := fun x hx => hts0 x (List.mem_filter.mp hx).1
  have hbA : ¬ (fun q : Nat => s.heap.size ≤ q) b := Nat.not_le.mpr hbl
  have hA0 : ∀ a : Nat, a < s.heap.size → ¬ (fun q : Nat => s.heap.size ≤ q) a := fun a h => Nat.not_le.mpr h
  obtain ⟨hAO, ho⟩ := ao_all hts0
  obtain ⟨D, cl, hK⟩ := know_all hts ho
  obtain ⟨adK, adV, hZ⟩ := zs_all (A := fun q : Nat => s.heap.size ≤ q) hts0 hgv hA0
  obtain ⟨hZS, hSR⟩ := hZ D cl
  have C : ∀ cells slots mc ms, cells ≤ mc → slots ≤ ms → mc ≤ 600000 → ms ≤ 7302250 → HCx p l e room_1 s m #[Value.ref b] below meth c cells slots mc ms (lw_Z below #[Value.ref b] s) (D, cl, adK, adV) (fun q : Nat => s.heap.size ≤ q) (fun k i => if k = 43 then adK i else if k = 44 then adV i else b) w00 (fun _ _ _ => False) code RL 4 ret 10 := fun cells slots mc ms h1 h2 h3 h4 => ⟨hx, hb, hml, hown, hts, hK adK adV, hr, hlocks, hZS, hSR, fun _ h => h, ⟨by decide, by decide⟩, ⟨Nat.le_trans h1 h3, Nat.le_trans h2 h4⟩, ⟨h1, h2⟩, fun _ _ _ h => h.elim⟩
  have hLX : LX b L xs s (fun q : Nat => s.heap.size ≤ q) (fun k i => if k = 43 then adK i else if k = 44 then adV i else b) w00 := ⟨hX, hbl, hbA, rfl, by decide⟩
  have h0 : Wat p l e room_1 s m #[Value.ref b] below meth c 0 0 (lw_Z below #[Value.ref b] s) (D, cl, adK, adV) (fun q : Nat => s.heap.size ≤ q) (fun k i => if k = 43 then adK i else if k = 44 then adV i else b) w00 4 0 [some (HR 45 0), none, none, none] [] w00 s00 := by
    refine wpl_sound (C 0 0 49 1797 (by omega) (by omega) (by omega) (by omega)) hLX rfl hAO ⟨by decide, by decide⟩ (okl_L b L xs) (B := B2 Inv 0) (fun pc P hP cells' slots' hc hs ls st w σ hp => ?_) 40 49 1797 0 0 (by omega) (by omega) 0 _ _ _ _ law_start
    unfold B2 at hP
    cases hb2 : Nat.beq pc 18 with
    | false => rw [hb2] at hP; cases hP
    | true =>
      rw [hb2] at hP
      cases hP
      obtain rfl := Nat.eq_of_beq_eq_true hb2
      obtain ⟨rfl, rfl, hI⟩ := hp
      exact law_loop C hLX rfl hAO (okl_L b L xs) (fun q h => h) hL all_eq 512 0 cells' slots' (by omega) (by omega) (by omega) (by omega) w σ hI
  have hz : ∀ k, k < 42 → w00.1 k = 0 := fun k hk => by
    show (if k = 43 then 7 else if k = 44 then 6 else if k = 45 then 1 else 0) = 0
    rw [if_neg (by omega), if_neg (by omega), if_neg (by omega)]
  have hR : RepS (D, cl, adK, adV) (fun q : Nat => s.heap.size ≤ q) (fun k i => if k = 43 then adK i else if k = 44 then adV i else b) w00 s00 s.heap := by
    refine ⟨fun k i hk hi => absurd (hz k hk ▸ hi) (Nat.not_lt_zero i), fun k i k' i' hk _ hi => absurd (hz k hk ▸ hi) (Nat.not_lt_zero i), ⟨fun _ => ⟨rfl, rfl⟩, rfl, rfl⟩, ?_⟩
    refine ⟨fun k i f kk o hi hf => ?_, fun k j o _ h => (by cases h), fun k hk => ?_, by decide⟩
    · rcases Nat.lt_or_ge k 42 with h | h
      · exact absurd (hz k h ▸ hi) (Nat.not_lt_zero i)
      · have h3 : k = 43 ∨ k = 44 ∨ k = 45 := by
          have hi' : i < (if k = 43 then 7 else if k = 44 then 6 else if k = 45 then 1 else 0) := hi
          by_cases a1 : k = 43
          · exact Or.inl a1
          by_cases a2 : k = 44
          · exact Or.inr (Or.inl a2)
          by_cases a3 : k = 45
          · exact Or.inr (Or.inr a3)
          rw [if_neg a1, if_neg a2, if_neg a3] at hi'
          exact absurd hi' (Nat.not_lt_zero i)
        rcases h3 with rfl | rfl | rfl <;> cases hf
    · rw [hz k (by unfold isRA at hk; rw [Bool.and_eq_true] at hk; have := Nat.le_of_ble_eq_true hk.2; omega)]
      exact Nat.zero_le 1
  rw [lg_entry_eq]
  refine h0 _ s.heap [] _ GE.rf hR va_S.rf ⟨lv_entry [Value.ref b] (n := 4) (Nat.le_of_ble_eq_true rfl), fun j v hj => ?_⟩ (fun _ h => absurd h List.not_mem_nil)
  match j, hj with
  | 0, hj => cases hj; exact ⟨(by decide : 0 < w00.1 45), rfl⟩
  | 1, hj => cases hj
  | 2, hj => cases hj
  | 3, hj => cases hj
  | j + 4, hj => cases hj
