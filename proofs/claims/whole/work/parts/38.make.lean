/-! OUR FRAME, 6: makers. What is new or changed in a world, one object at a time -/
def AO4 (U : State) : Prop := va_AO RX3 U ∧ va_AO RX4 U ∧ va_AO RX7 U ∧ va_AO RX9 U
theorem AO4.moved {u U : State} (h : u.vm.Alike U.vm) (q : AO4 u) : AO4 U := ⟨q.1.moved h, q.2.1.moved h, q.2.2.1.moved h, q.2.2.2.moved h⟩
theorem fr_w {w w' : HW} {k i f : Nat} (h : w'.2 k = w.2 k) : fr w' k i f = fr w k i f := by
  unfold fr
  split <;> first | rfl | simp only [h]
theorem fr_raw {w : HW} {k i f : Nat} (h : Nat.ble 30 k = true) : fr w k i f = (match frk (k - 30) f with | some t => some (t, w.2 k f) | none => none) := by
  unfold fr
  split
  all_goals first | (exact absurd h (by decide)) | (rw [h]; rfl)
theorem frk_big {k f : Nat} (h : nfr k ≤ f) : frk k f = none := by
  unfold frk
  split <;> first | rfl | (split <;> first | rfl | (exfalso; revert h; unfold nfr; decide))
theorem nfd_raw {k : Nat} (h : Nat.ble 30 k = true) : nfd k = nfr (k - 30) := by
  unfold nfd
  split
  all_goals first | (exact absurd h (by decide)) | (rw [h]; rfl)
theorem nfr_nfd {k : Nat} (h : k < 12) : nfr k = nfd k := by
  unfold nfr nfd
  split <;> first | rfl | (rw [show Nat.ble 30 k = false from by
      cases hb : Nat.ble 30 k with
      | false => rfl
      | true => have := Nat.le_of_ble_eq_true hb; omega]; rfl)
theorem fr_big {w : HW} {k i f : Nat} (h : nfd k ≤ f) : fr w k i f = none := by
  cases hb : Nat.ble 30 k with
  | true =>
    rw [fr_raw hb, frk_big (by rw [← nfd_raw hb]; exact h)]
  | false =>
    unfold fr
    split <;> first | (rw [hb]; rfl) | (split <;> first | rfl | (exfalso; revert h; unfold nfd; decide))
theorem ent_ge {G : HG} {g g' : HA} {w w' : HW} {σ σ' : HS} {k i : Nat} (hge : GE g w g' w') (hW : Wf w) (hi : i < w.1 k) (h2 : w'.2 k = w.2 k) (hσ : σ' k i = σ k i) : ent G g' w' σ' k i = ent G g w σ k i := by
  have h1 : ∀ f, toV g' (fld w' σ' k i f) = toV g (fld w σ k i f) := fun f => by
    have e : fld w' σ' k i f = fld w σ k i f := by simp only [fld, fr_w h2, hσ]
    rw [e]
    exact (toV_ge hge (fld_lv hW hi)).1
  have h3 : isRA k = true → (fun j => (w'.2 k j).map (g' (ek k))) = fun j => (w.2 k j).map (g (ek k)) := fun hr => by
    funext j
    rw [h2]
    cases h : w.2 k j with
    | none => rfl
    | some o => exact congrArg some (hge _ _ (hW.2.1 k j o hr h)).2
  unfold ent
  simp only [h1, hσ]
  cases hb : isRA k with
  | false => rfl
  | true => rw [h3 hb]
theorem RepS.grow {G : HG} {A : Nat → Prop} {g g' : HA} {w w' : HW} {σ σ' : HS} {H H1 : Heap} (hR : RepS G A g w σ H) (k i : Nat) (hge : GE g w g' w')
    (hold : ∀ k' i', k' < 42 → i' < w'.1 k' → lvd w' k' i' → ¬ (k' = k ∧ i' = i) → i' < w.1 k' ∧ lvd w k' i' ∧ w'.2 k' = w.2 k' ∧ σ' k' i' = σ k' i' ∧ H1[g k' i']? = H[g k' i']? ∧ g k' i' ≠ g' k i)
    (hnew : va_at G.1 vwCl (g' k i, ent G g' w' σ' k i) H1 ∧ A (g' k i))
    (hstr : w'.1 43 = 7 ∧ w'.1 44 = 6) (hg : ∀ c, g' 43 c = g 43 c ∧ g' 44 c = g 44 c) (hW : Wf w') : RepS G A g' w' σ' H1 := by
  refine ⟨fun k' i' hk' hi' hl' => ?_, fun k1 i1 k2 i2 hk1 hk2 hi1 hi2 hl1 hl2 he => ?_, ⟨fun c => ⟨(hg c).1.trans (hR.2.2.1.1 c).1, (hg c).2.trans (hR.2.2.1.1 c).2⟩, hstr⟩, hW⟩
  · by_cases h : k' = k ∧ i' = i
    · obtain ⟨rfl, rfl⟩ := h
      exact hnew
    · obtain ⟨h1, h2, h3, h4, h5, h6⟩ := hold k' i' hk' hi' hl' h
      have h7 := hR.1 k' i' hk' h1 h2
      rw [ent_ge hge hR.2.2.2 h1 h3 h4, (hge k' i' h1).2]
      exact ⟨h7.1.kept h5, h7.2⟩
  · by_cases c1 : k1 = k ∧ i1 = i
    · by_cases c2 : k2 = k ∧ i2 = i
      · exact ⟨c1.1.trans c2.1.symm, c1.2.trans c2.2.symm⟩
      · obtain ⟨h1, -, -, -, -, h6⟩ := hold k2 i2 hk2 hi2 hl2 c2
        obtain ⟨rfl, rfl⟩ := c1
        rw [(hge k2 i2 h1).2] at he
        exact absurd he.symm h6
    · obtain ⟨h1, h2, -, -, -, h6⟩ := hold k1 i1 hk1 hi1 hl1 c1
      rw [(hge k1 i1 h1).2] at he
      by_cases c2 : k2 = k ∧ i2 = i
      · obtain ⟨rfl, rfl⟩ := c2
        exact absurd he h6
      · obtain ⟨h3, h4, -, -, -, -⟩ := hold k2 i2 hk2 hi2 hl2 c2
        rw [(hge k2 i2 h3).2] at he
        exact hR.2.1 k1 i1 k2 i2 hk1 hk2 h1 h3 h2 h4 he
def upG (g : HA) (k n a : Nat) : HA := fun x y => if x = k ∧ y = n then a else g x y
def up1 (c : Nat → Nat) (k : Nat) : Nat → Nat := fun a => if a = k then c a + 1 else c a
def zr (σ : HS) (k i : Nat) : HS := fun a b c => if a = k ∧ b = i then 0 else σ a b c
theorem upG_ge {g : HA} {w w' : HW} {k a : Nat} (hc : w'.1 = up1 w.1 k) : GE g w (upG g k (w.1 k) a) w' := by
  intro x y h
  refine ⟨?_, if_neg fun q => ?_⟩
  · rw [hc]
    unfold up1
    split <;> omega
  · rw [q.1, q.2] at h
    omega
theorem upG_s {g : HA} {k n a : Nat} (hk : k < 42) : ∀ c, upG g k n a 43 c = g 43 c ∧ upG g k n a 44 c = g 44 c := fun c => ⟨if_neg (by omega), if_neg (by omega)⟩
theorem upG_v {g : HA} {k n a : Nat} : upG g k n a k n = a := if_pos ⟨rfl, rfl⟩
theorem up1_str {w w' : HW} {k : Nat} (hk : k < 42) (hc : w'.1 = up1 w.1 k) (h : w.1 43 = 7 ∧ w.1 44 = 6) : w'.1 43 = 7 ∧ w'.1 44 = 6 := by
  rw [hc]
  unfold up1
  rw [if_neg (by omega), if_neg (by omega)]
  exact h
theorem up1_ge {w w' : HW} {k a : Nat} (hc : w'.1 = up1 w.1 k) : w.1 a ≤ w'.1 a := by
  rw [hc]
  unfold up1
  split <;> omega
theorem up1_ne {c : Nat → Nat} {k a : Nat} (h : a ≠ k) : up1 c k a = c a := if_neg h
theorem up1_v {c : Nat → Nat} {k : Nat} : up1 c k k = c k + 1 := if_pos rfl
theorem zr_ne {σ : HS} {k i a b : Nat} (h : ¬ (a = k ∧ b = i)) : zr σ k i a b = σ a b := by
  funext c
  exact if_neg h
/-- a new object, all of whose fields are nought, not yet made up -/
def wRaw (w : HW) (kd : Nat) : HW := (up1 w.1 (30 + kd), fun a b => if a = 30 + kd then (if b = 99 then some (w.1 (30 + kd)) else none) else w.2 a b)
/-- a new row of ints -/
def wRow (w : HW) (k : Nat) : HW := (up1 w.1 k, w.2)
/-- a new row of references -/
def wRef (w : HW) (k : Nat) : HW := (up1 w.1 k, fun a b => if a = k then none else w.2 a b)
/-- an object is made up -/
def finW (kd : Nat) (w : HW) : HW := (up1 w.1 kd, fun a b => if a = 30 + kd ∧ b = 99 then none else if kd = 10 ∧ a = 10 ∧ b = 0 then w.2 40 8 else w.2 a b)
def finS (kd i n : Nat) (σ : HS) : HS := fun a b c => if a = kd ∧ b = n then σ (30 + kd) i c else σ a b c
def allF (P : Nat → Prop) : Nat → Prop
  | 0 => True
  | n + 1 => allF P n ∧ P n
theorem allF_at {P : Nat → Prop} : ∀ {n : Nat}, allF P n → ∀ f, f < n → P f
  | 0, _, f, h => absurd h (Nat.not_lt_zero f)
  | n + 1, q, f, h => by
    rcases Nat.lt_or_ge f n with h1 | h1
    · exact allF_at q.1 f h1
    · have : f = n := by omega
      subst this
      exact q.2
def FinOK (kd i : Nat) (w : HW) : Prop := w.2 (30 + kd) 99 = some i ∧ (kd = 10 → w.1 10 = 0) ∧ allF (fun f => fr (finW kd w) kd (w.1 kd) f = fr w (30 + kd) i f) (nfd kd)
theorem ble30 {k : Nat} (h : 30 ≤ k) : Nat.ble 30 k = true := Nat.ble_eq_true_of_le h
theorem ble30n {k : Nat} (h : k < 30) : Nat.ble 30 k = false := by
  cases hb : Nat.ble 30 k with
  | false => rfl
  | true => have := Nat.le_of_ble_eq_true hb; omega
theorem ra_lt {k : Nat} (h : isRA k = true) : 15 ≤ k ∧ k ≤ 18 := by
  rcases ra4 h with rfl | rfl | rfl | rfl <;> omega
theorem frk99 {k : Nat} : frk k 99 = none := by
  unfold frk
  split <;> rfl
theorem Wf.raw {w : HW} (h : Wf w) {kd : Nat} (hk : kd < 12) : Wf (wRaw w kd) := by
  have hc : (wRaw w kd).1 = up1 w.1 (30 + kd) := rfl
  refine ⟨fun k i f kk o hi he => ?_, fun k j o hr he => ?_, fun k hr => ?_, ?_⟩
  · by_cases e : k = 30 + kd
    · subst e
      rw [fr_raw (ble30 (by omega))] at he
      cases hx : frk (30 + kd - 30) f with
      | none => rw [hx] at he; cases he
      | some t =>
        rw [hx] at he
        have h99 : f ≠ 99 := fun z => by rw [z, frk99] at hx; cases hx
        have : (wRaw w kd).2 (30 + kd) f = none := by
          show (if 30 + kd = 30 + kd then (if f = 99 then _ else none) else _) = none
          rw [if_pos rfl, if_neg h99]
        rw [this] at he
        cases he
    · have h2 : (wRaw w kd).2 k = w.2 k := by
        funext b
        exact if_neg e
      rw [fr_w h2] at he
      exact Nat.lt_of_lt_of_le (h.1 k i f kk o (by rw [hc, up1_ne e] at hi; exact hi) he) (up1_ge hc)
  · have := ra_lt hr
    have h2 : (wRaw w kd).2 k j = w.2 k j := if_neg (by omega)
    rw [h2] at he
    exact Nat.lt_of_lt_of_le (h.2.1 k j o hr he) (up1_ge hc)
  · have := ra_lt hr
    rw [hc, up1_ne (by omega)]
    exact h.2.2.1 k hr
  · rw [hc, up1_ne (by omega)]
    exact h.2.2.2
theorem Wf.row {w : HW} (h : Wf w) {k : Nat} (hk : k = 12 ∨ k = 13 ∨ k = 20 ∨ k = 21) : Wf (wRow w k) := by
  have hc : (wRow w k).1 = up1 w.1 k := rfl
  refine ⟨fun k2 i f kk o hi he => ?_, fun k2 j o hr he => ?_, fun k2 hr => ?_, ?_⟩
  · rw [fr_w (w := w) (w' := wRow w k) rfl] at he
    by_cases e : k2 = k
    · subst e
      exfalso
      rcases hk with rfl | rfl | rfl | rfl <;> cases he
    · exact Nat.lt_of_lt_of_le (h.1 k2 i f kk o (by rw [hc, up1_ne e] at hi; exact hi) he) (up1_ge hc)
  · exact Nat.lt_of_lt_of_le (h.2.1 k2 j o hr he) (up1_ge hc)
  · have := ra_lt hr
    rw [hc, up1_ne (by omega)]
    exact h.2.2.1 k2 hr
  · rw [hc, up1_ne (by omega)]
    exact h.2.2.2
theorem Wf.ref {w : HW} (h : Wf w) {k : Nat} (hr : isRA k = true) (h0 : w.1 k = 0) : Wf (wRef w k) := by
  have hc : (wRef w k).1 = up1 w.1 k := rfl
  have hk := ra_lt hr
  have h2 : ∀ k2, k2 ≠ k → (wRef w k).2 k2 = w.2 k2 := fun k2 e => by
    funext b
    exact if_neg e
  refine ⟨fun k2 i f kk o hi he => ?_, fun k2 j o hr2 he => ?_, fun k2 hr2 => ?_, ?_⟩
  · by_cases e : k2 = k
    · subst e
      exfalso
      rcases ra4 hr with rfl | rfl | rfl | rfl <;> cases he
    · rw [fr_w (h2 k2 e)] at he
      exact Nat.lt_of_lt_of_le (h.1 k2 i f kk o (by rw [hc, up1_ne e] at hi; exact hi) he) (up1_ge hc)
  · by_cases e : k2 = k
    · subst e
      have : (wRef w k2).2 k2 j = none := if_pos rfl
      rw [this] at he
      cases he
    · rw [h2 k2 e] at he
      exact Nat.lt_of_lt_of_le (h.2.1 k2 j o hr2 he) (up1_ge hc)
  · by_cases e : k2 = k
    · subst e
      rw [hc, up1_v, h0]
      omega
    · rw [hc, up1_ne e]
      exact h.2.2.1 k2 hr2
  · rw [hc, up1_ne (by omega)]
    exact h.2.2.2
theorem fin_2 {w : HW} {kd k : Nat} (h1 : k ≠ 30 + kd) (h2 : ¬ (kd = 10 ∧ k = 10)) : (finW kd w).2 k = w.2 k := by
  funext b
  show (if k = 30 + kd ∧ b = 99 then _ else if kd = 10 ∧ k = 10 ∧ b = 0 then _ else _) = _
  rw [if_neg (fun q => h1 q.1), if_neg (fun q => h2 ⟨q.1, q.2.1⟩)]
theorem fin_fr {w : HW} {kd i : Nat} (hF : FinOK kd i w) (f : Nat) : fr (finW kd w) kd (w.1 kd) f = fr w (30 + kd) i f := by
  rcases Nat.lt_or_ge f (nfd kd) with h | h
  · exact allF_at hF.2.2 f h
  · rw [fr_big h]
    have h1 : nfd kd ≤ nfd kd := Nat.le_refl _
    rw [fr_raw (ble30 (by omega)), frk_big]
    rw [Nat.add_sub_cancel_left]
    exact Nat.le_trans (by
      unfold nfr nfd
      split <;> first | exact Nat.le_refl _ | exact Nat.zero_le _) h
theorem Wf.fin {w : HW} (h : Wf w) {kd i : Nat} (hk : kd < 12) (hi : i < w.1 (30 + kd)) (hF : FinOK kd i w) : Wf (finW kd w) := by
  have hc : (finW kd w).1 = up1 w.1 kd := rfl
  refine ⟨fun k j f kk o hj he => ?_, fun k j o hr he => ?_, fun k hr => ?_, ?_⟩
  · by_cases e : k = kd
    · subst e
      by_cases e2 : j = w.1 k
      · subst e2
        rw [fin_fr hF] at he
        exact Nat.lt_of_lt_of_le (h.1 _ _ f kk o hi he) (up1_ge hc)
      · have hj2 : j < w.1 k := by
          rw [hc, up1_v] at hj
          omega
        have h10 : ¬ (k = 10 ∧ k = 10) := fun q => by
          have := hF.2.1 q.1
          rw [q.1] at hj2
          omega
        rw [fr_w (fin_2 (by omega) h10)] at he
        exact Nat.lt_of_lt_of_le (h.1 _ _ f kk o hj2 he) (up1_ge hc)
    · rw [hc, up1_ne e] at hj
      by_cases e3 : k = 30 + kd
      · subst e3
        have hb : Nat.ble 30 (30 + kd) = true := ble30 (by omega)
        rw [fr_raw hb] at he
        have h4 := h.1 (30 + kd) j f kk o hj
        rw [fr_raw hb] at h4
        cases hx : frk (30 + kd - 30) f with
        | none => rw [hx] at he; cases he
        | some t =>
          rw [hx] at he h4
          have h99 : f ≠ 99 := fun z => by rw [z, frk99] at hx; cases hx
          have e5 : (finW kd w).2 (30 + kd) f = w.2 (30 + kd) f := by
            show (if 30 + kd = 30 + kd ∧ f = 99 then _ else if kd = 10 ∧ 30 + kd = 10 ∧ f = 0 then _ else _) = _
            rw [if_neg (fun q => h99 q.2), if_neg (by omega)]
          rw [e5] at he
          exact Nat.lt_of_lt_of_le (h4 he) (up1_ge hc)
      · by_cases e6 : kd = 10 ∧ k = 10
        · omega
        · rw [fr_w (fin_2 e3 e6)] at he
          exact Nat.lt_of_lt_of_le (h.1 _ _ f kk o hj he) (up1_ge hc)
  · have := ra_lt hr
    rw [fin_2 (by omega) (by omega)] at he
    exact Nat.lt_of_lt_of_le (h.2.1 k j o hr he) (up1_ge hc)
  · have := ra_lt hr
    rw [hc, up1_ne (by omega)]
    exact h.2.2.1 k hr
  · rw [hc]
    unfold up1
    split
    · rename_i q
      rw [hF.2.1 q.symm]
      omega
    · exact h.2.2.2
theorem RepS.fin {G : HG} {A : Nat → Prop} {g : HA} {w : HW} {σ : HS} {H : Heap} (hR : RepS G A g w σ H) {kd i : Nat} (hkd : kd < 12) (hi : i < w.1 (30 + kd)) (hF : FinOK kd i w) : RepS G A (upG g kd (w.1 kd) (g (30 + kd) i)) (finW kd w) (finS kd i (w.1 kd) σ) H := by
  have hge : GE g w (upG g kd (w.1 kd) (g (30 + kd) i)) (finW kd w) := upG_ge rfl
  have hraw : lvd w (30 + kd) i := fun _ => hF.1
  have h0 := hR.1 (30 + kd) i (by omega) hi hraw
  refine hR.grow kd (w.1 kd) hge (fun k' i' hk' hi' hl' hn => ?_) ?_ (up1_str (w := w) (by omega) rfl hR.2.2.1.2) (upG_s (by omega)) (hR.2.2.2.fin hkd hi hF)
  · have hi2 : i' < up1 w.1 kd k' := hi'
    have e3 : k' ≠ 30 + kd := fun q => by
      subst q
      have := hl' (ble30 (by omega))
      have e : (finW kd w).2 (30 + kd) 99 = none := if_pos ⟨rfl, rfl⟩
      rw [e] at this
      cases this
    have hlt : i' < w.1 k' := by
      by_cases e : k' = kd
      · subst e
        rw [up1_v] at hi2
        have : i' ≠ w.1 k' := fun q => hn ⟨rfl, q⟩
        omega
      · rwa [up1_ne e] at hi2
    have e4 : ¬ (kd = 10 ∧ k' = 10) := fun q => by
      have := hF.2.1 q.1
      rw [q.2] at hlt
      omega
    have e5 : (finW kd w).2 k' = w.2 k' := fin_2 e3 e4
    have hl : lvd w k' i' := fun z => by rw [← e5]; exact hl' z
    refine ⟨hlt, hl, e5, ?_, rfl, fun z => ?_⟩
    · funext c
      exact if_neg hn
    · rw [upG_v] at z
      exact e3 (hR.2.1 k' i' (30 + kd) i hk' (by omega) hlt hi hl hraw z).1
  · rw [upG_v]
    refine ⟨?_, h0.2⟩
    have e : ent G (upG g kd (w.1 kd) (g (30 + kd) i)) (finW kd w) (finS kd i (w.1 kd) σ) kd (w.1 kd) = ent G g w σ (30 + kd) i := by
      have hb : Nat.blt kd 12 = true := by rw [Nat.blt_eq]; exact hkd
      rw [ent_obj hb, ent_raw (ble30 (by omega)), Nat.add_sub_cancel_left]
      have en : nfd (30 + kd) = nfd kd := by
        rw [nfd_raw (ble30 (by omega)), Nat.add_sub_cancel_left]
        exact nfr_nfd hkd
      rw [en]
      refine congrArg (fun F => (Sum.inr (kd, List.map F (List.range (nfd kd))) : va_E)) (funext fun f => ?_)
      have e2 : fld (finW kd w) (finS kd i (w.1 kd) σ) kd (w.1 kd) f = fld w σ (30 + kd) i f := by
        have : finS kd i (w.1 kd) σ kd (w.1 kd) f = σ (30 + kd) i f := if_pos ⟨rfl, rfl⟩
        simp only [fld, fin_fr hF, this]
      rw [e2]
      exact (toV_ge hge (fld_lv hR.2.2.2 hi)).1
    rw [e]
    exact h0.1
