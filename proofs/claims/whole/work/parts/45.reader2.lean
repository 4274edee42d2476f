/-! RightReader: far, long, not -/
def eqC (n : Nat) (σ σ' : HS) : Prop := ∀ k i f, ¬ (k = 5 ∧ i = 0 ∧ 1 ≤ f ∧ f ≤ 3) → ¬ (k = 4 ∧ i = n) → σ' k i f = σ k i f
/-- no fault yet: the word ends at e, the right so far is F -/
def Gd (n : Nat) (σ0 σ : HS) (e : Nat) (F : Nat → Int32) : Prop := eqC n σ0 σ ∧ okF σ ∧ σ 5 0 2 = nI e ∧ σ 4 n = F
/-- a fault at p -/
def Bd (n : Nat) (σ0 σ : HS) (p : Nat) : Prop := eqC n σ0 σ ∧ σ 5 0 3 = nI p ∧ p ≤ 60 ∧ ∃ a b, a ≤ b ∧ b ≤ 60 ∧ σ 5 0 1 = nI a ∧ σ 5 0 2 = nI b
theorem Bd.nok {n : Nat} {σ0 σ : HS} {p : Nat} (h : Bd n σ0 σ p) : ¬ okF σ := fun z => by
  have h1 := h.2.1.symm.trans z
  have h2 := congrArg Int32.toInt h1
  rw [nI_toInt (by have := h.2.2.1; omega)] at h2
  have : (-1 : Int32).toInt = -1 := by decide
  omega
theorem Gd.T {n : Nat} {σ0 σ : HS} {e : Nat} {F T : Nat → Int32} (h : Gd n σ0 σ e F) (hT : σ0 12 0 = T) : σ 12 0 = T := by
  rw [← hT]
  funext j
  exact h.1 12 0 j (by omega) (by omega)
theorem Gd.z {n : Nat} {σ0 σ : HS} {e z : Nat} {F : Nat → Int32} (h : Gd n σ0 σ e F) (hz : σ0 8 0 1 = nI z) : σ 8 0 1 = nI z := by
  rw [h.1 8 0 1 (by omega) (by omega)]
  exact hz
theorem Gd.nx {n : Nat} {σ0 σ : HS} {e : Nat} {F : Nat → Int32} (h : Gd n σ0 σ e F) (a b : Nat) : Gd n σ0 (nxC σ a b) b F := by
  refine ⟨fun k i f h1 h2 => ?_, nx_ok h.2.1, nx_2, ?_⟩
  · unfold nxC
    rw [up3_o (by omega), up3_o (by omega)]
    exact h.1 k i f h1 h2
  · rw [← h.2.2.2]
    funext j
    unfold nxC
    rw [up3_o (by omega), up3_o (by omega)]
theorem Gd.put {n : Nat} {σ0 σ : HS} {e : Nat} {F : Nat → Int32} (h : Gd n σ0 σ e F) (f : Nat) (v : Int32) : Gd n σ0 (up3 σ 4 n f v) e (upd F f v) := by
  refine ⟨fun k i j h1 h2 => ?_, ?_, ?_, ?_⟩
  · rw [up3_o (by omega)]
    exact h.1 k i j h1 h2
  · unfold okF
    rw [up3_o (by omega)]
    exact h.2.1
  · rw [up3_o (by omega)]
    exact h.2.2.1
  · rw [up3_row, h.2.2.2]
theorem Bd.put {n : Nat} {σ0 σ : HS} {p : Nat} (h : Bd n σ0 σ p) (f : Nat) (v : Int32) : Bd n σ0 (up3 σ 4 n f v) p := by
  obtain ⟨h1, h2, h3, a, b, h4, h5, h6, h7⟩ := h
  refine ⟨fun k i j g1 g2 => ?_, by rw [up3_o (by omega)]; exact h2, h3, a, b, h4, h5, by rw [up3_o (by omega)]; exact h6, by rw [up3_o (by omega)]; exact h7⟩
  rw [up3_o (by omega)]
  exact h1 k i j g1 g2
theorem Gd.bad {n : Nat} {σ0 σ : HS} {e a b : Nat} {F : Nat → Int32} (h : Gd n σ0 σ e F) (hab : a ≤ b) (hb : b ≤ 60) : Bd n σ0 (up3 (nxC σ a b) 5 0 3 (nI a)) a := by
  refine ⟨fun k i j h1 h2 => ?_, up3_v, by omega, a, b, hab, hb, ?_, ?_⟩
  · unfold nxC
    rw [up3_o (by omega), up3_o (by omega), up3_o (by omega)]
    exact h.1 k i j h1 h2
  · rw [up3_o (by omega)]
    exact nx_1
  · rw [up3_o (by omega)]
    exact nx_2
theorem we_c {T : Nat → Int32} {a b : Nat} {c : Nat} {c1 c2 c3 c4 : Int32} (h : isWc T a b c ↔ isW T a b c1 c2 c3 c4) {α : Type} {x y : α} (hc : isWc T a b c) : cif (isW T a b c1 c2 c3 c4) x y = x := cif_p (h.mp hc)
theorem we_n {T : Nat → Int32} {a b : Nat} {c : Nat} {c1 c2 c3 c4 : Int32} (h : isWc T a b c ↔ isW T a b c1 c2 c3 c4) {α : Type} {x y : α} (hc : ¬ isWc T a b c) : cif (isW T a b c1 c2 c3 c4) x y = y := cif_n (fun z => hc (h.mpr z))
theorem wc2 {T : Nat → Int32} {a b c : Nat} {c1 c2 : Int32} (hl : slen.getD c 0 = 2) (h0 : (sbyt.getD c []).getD 0 0 = c1) (h1 : (sbyt.getD c []).getD 1 0 = c2) : isWc T a b c ↔ isW T a b c1 c2 0 0 := by
  unfold isWc isW
  rw [hl, show lenW 0 0 = 2 from by decide]
  constructor
  · intro h
    exact ⟨h.1, by rw [← h0]; exact h.2 0 (by omega), by rw [← h1]; exact h.2 1 (by omega), Or.inl rfl, Or.inl rfl⟩
  · intro h
    refine ⟨h.1, fun i hi => ?_⟩
    have : i = 0 ∨ i = 1 := by omega
    rcases this with rfl | rfl
    · rw [h0]; exact h.2.1
    · rw [h1]; exact h.2.2.1
theorem wc3 {T : Nat → Int32} {a b c : Nat} {c1 c2 c3 : Int32} (hl : slen.getD c 0 = 3) (h0 : (sbyt.getD c []).getD 0 0 = c1) (h1 : (sbyt.getD c []).getD 1 0 = c2) (h2 : (sbyt.getD c []).getD 2 0 = c3) (hz : ¬ c3 = 0) : isWc T a b c ↔ isW T a b c1 c2 c3 0 := by
  unfold isWc isW
  rw [hl, show lenW c3 0 = 3 from by unfold lenW; rw [if_neg hz, if_pos rfl]]
  constructor
  · intro h
    exact ⟨h.1, by rw [← h0]; exact h.2 0 (by omega), by rw [← h1]; exact h.2 1 (by omega), Or.inr (by rw [← h2]; exact h.2 2 (by omega)), Or.inl rfl⟩
  · intro h
    refine ⟨h.1, fun i hi => ?_⟩
    have : i = 0 ∨ i = 1 ∨ i = 2 := by omega
    rcases this with rfl | rfl | rfl
    · rw [h0]; exact h.2.1
    · rw [h1]; exact h.2.2.1
    · rw [h2]; exact h.2.2.2.1.resolve_left hz
theorem wc4 {T : Nat → Int32} {a b c : Nat} {c1 c2 c3 c4 : Int32} (hl : slen.getD c 0 = 4) (h0 : (sbyt.getD c []).getD 0 0 = c1) (h1 : (sbyt.getD c []).getD 1 0 = c2) (h2 : (sbyt.getD c []).getD 2 0 = c3) (h3 : (sbyt.getD c []).getD 3 0 = c4) (hz : ¬ c3 = 0) (hz4 : ¬ c4 = 0) : isWc T a b c ↔ isW T a b c1 c2 c3 c4 := by
  unfold isWc isW
  rw [hl, show lenW c3 c4 = 4 from by unfold lenW; rw [if_neg hz, if_neg hz4]]
  constructor
  · intro h
    exact ⟨h.1, by rw [← h0]; exact h.2 0 (by omega), by rw [← h1]; exact h.2 1 (by omega), Or.inr (by rw [← h2]; exact h.2 2 (by omega)), Or.inr (by rw [← h3]; exact h.2 3 (by omega))⟩
  · intro h
    refine ⟨h.1, fun i hi => ?_⟩
    have : i = 0 ∨ i = 1 ∨ i = 2 ∨ i = 3 := by omega
    rcases this with rfl | rfl | rfl | rfl
    · rw [h0]; exact h.2.1
    · rw [h1]; exact h.2.2.1
    · rw [h2]; exact h.2.2.2.1.resolve_left hz
    · rw [h3]; exact h.2.2.2.2.resolve_left hz4
theorem wc_in {T : Nat → Int32} {a b : Nat} : isWc T a b 0 ↔ isW T a b 105 110 0 0 := wc2 rfl rfl rfl
theorem wc_far {T : Nat → Int32} {a b : Nat} : isWc T a b 1 ↔ isW T a b 102 97 114 0 := wc3 rfl rfl rfl rfl (by decide)
theorem wc_and {T : Nat → Int32} {a b : Nat} : isWc T a b 2 ↔ isW T a b 97 110 100 0 := wc3 rfl rfl rfl rfl (by decide)
theorem wc_long {T : Nat → Int32} {a b : Nat} : isWc T a b 3 ↔ isW T a b 108 111 110 103 := wc4 rfl rfl rfl rfl rfl (by decide) (by decide)
theorem wc_not {T : Nat → Int32} {a b : Nat} : isWc T a b 4 ↔ isW T a b 110 111 116 0 := wc3 rfl rfl rfl rfl (by decide)
theorem wc_or {T : Nat → Int32} {a b : Nat} : isWc T a b 5 ↔ isW T a b 111 114 0 0 := wc2 rfl rfl rfl
noncomputable def sp_X5_readFar : HSp := fun as w σ K => match as with
  | [.inr (.inl (5, some 0)), .inr (.inl (4, some n))] => ∃ T z R σ0, z ≤ 60 ∧ σ0 8 0 1 = nI z ∧ σ0 12 0 = T ∧ ((∃ p, R = .inl p ∧ Bd n σ0 σ p) ∨ (∃ e F, e ≤ z ∧ Gd n σ0 σ (we T z e) F ∧ σ 5 0 1 = nI (wA T z e) ∧ R = (pFar T z e fun f mo e => pL T z (F 0) (F 1) f mo e) ∧ F 2 = -1000000005 ∧ F 3 = 0 ∧ F 4 = 2 ∧ F 5 = 0)) ∧ ∀ σ', ((∃ p, R = .inl p ∧ Bd n σ0 σ' p) ∨ (∃ e F, e ≤ z ∧ Gd n σ0 σ' (we T z e) F ∧ σ' 5 0 1 = nI (wA T z e) ∧ R = pL T z (F 0) (F 1) (F 2) (F 3) e ∧ F 4 = 2 ∧ F 5 = 0)) → K none w σ'
  | _ => False
theorem dX5_readFar_0 : decode cX5_readFar 0 = .ok (.aload_n 0, 1) := by decide +kernel
theorem dX5_readFar_1 : decode cX5_readFar 1 = .ok (.ldc 65, 2) := by decide +kernel
theorem dX5_readFar_3 : decode cX5_readFar 3 = .ok (.invokevirtual 67, 3) := by decide +kernel
theorem dX5_readFar_6 : decode cX5_readFar 6 = .ok (.ifCond .eq 35, 3) := by decide +kernel
theorem dX5_readFar_9 : decode cX5_readFar 9 = .ok (.aload_n 1, 1) := by decide +kernel
theorem dX5_readFar_10 : decode cX5_readFar 10 = .ok (.aload_n 0, 1) := by decide +kernel
theorem dX5_readFar_11 : decode cX5_readFar 11 = .ok (.iconst 0, 1) := by decide +kernel
theorem dX5_readFar_12 : decode cX5_readFar 12 = .ok (.bipush 20, 2) := by decide +kernel
theorem dX5_readFar_14 : decode cX5_readFar 14 = .ok (.invokevirtual 28, 3) := by decide +kernel
theorem dX5_readFar_17 : decode cX5_readFar 17 = .ok (.putfield 71, 3) := by decide +kernel
theorem dX5_readFar_20 : decode cX5_readFar 20 = .ok (.aload_n 0, 1) := by decide +kernel
theorem dX5_readFar_21 : decode cX5_readFar 21 = .ok (.ldc 73, 2) := by decide +kernel
theorem dX5_readFar_23 : decode cX5_readFar 23 = .ok (.invokevirtual 37, 3) := by decide +kernel
theorem dX5_readFar_26 : decode cX5_readFar 26 = .ok (.aload_n 1, 1) := by decide +kernel
theorem dX5_readFar_27 : decode cX5_readFar 27 = .ok (.aload_n 0, 1) := by decide +kernel
theorem dX5_readFar_28 : decode cX5_readFar 28 = .ok (.iconst 1, 1) := by decide +kernel
theorem dX5_readFar_29 : decode cX5_readFar 29 = .ok (.bipush 9, 2) := by decide +kernel
theorem dX5_readFar_31 : decode cX5_readFar 31 = .ok (.invokevirtual 28, 3) := by decide +kernel
theorem dX5_readFar_34 : decode cX5_readFar 34 = .ok (.putfield 75, 3) := by decide +kernel
theorem dX5_readFar_37 : decode cX5_readFar 37 = .ok (.aload_n 0, 1) := by decide +kernel
theorem dX5_readFar_38 : decode cX5_readFar 38 = .ok (.invokevirtual 44, 3) := by decide +kernel
theorem dX5_readFar_41 : decode cX5_readFar 41 = .ok (.return_, 1) := by decide +kernel
def ins_X5_readFar (pc : Nat) : HOp := cond (Nat.blt pc 21) (cond (Nat.blt pc 10) (cond (Nat.blt pc 3) (cond (Nat.blt pc 1) (cond (Nat.beq pc 0) (o_aload 0 1) o_bad) (cond (Nat.beq pc 1) (o_str 1 3) o_bad)) (cond (Nat.blt pc 6) (cond (Nat.beq pc 3) (o_callV 2 5 sp_X5_isWord 6) o_bad) (cond (Nat.blt pc 9) (cond (Nat.beq pc 6) (o_if (fun x => x = 0) 41 9) o_bad) (cond (Nat.beq pc 9) (o_aload 1 10) o_bad)))) (cond (Nat.blt pc 14) (cond (Nat.blt pc 11) (cond (Nat.beq pc 10) (o_aload 0 11) o_bad) (cond (Nat.blt pc 12) (cond (Nat.beq pc 11) (o_const (0) 12) o_bad) (cond (Nat.beq pc 12) (o_const (20) 14) o_bad))) (cond (Nat.blt pc 17) (cond (Nat.beq pc 14) (o_callV 3 5 sp_X5_nextNumber 17) o_bad) (cond (Nat.blt pc 20) (cond (Nat.beq pc 17) (o_putf 4 2 20) o_bad) (cond (Nat.beq pc 20) (o_aload 0 21) o_bad))))) (cond (Nat.blt pc 29) (cond (Nat.blt pc 26) (cond (Nat.blt pc 23) (cond (Nat.beq pc 21) (o_str 2 23) o_bad) (cond (Nat.beq pc 23) (o_callV 2 5 sp_X5_nextMustBe 26) o_bad)) (cond (Nat.blt pc 27) (cond (Nat.beq pc 26) (o_aload 1 27) o_bad) (cond (Nat.blt pc 28) (cond (Nat.beq pc 27) (o_aload 0 28) o_bad) (cond (Nat.beq pc 28) (o_const (1) 29) o_bad)))) (cond (Nat.blt pc 37) (cond (Nat.blt pc 31) (cond (Nat.beq pc 29) (o_const (9) 31) o_bad) (cond (Nat.blt pc 34) (cond (Nat.beq pc 31) (o_callV 3 5 sp_X5_nextNumber 34) o_bad) (cond (Nat.beq pc 34) (o_putf 4 3 37) o_bad))) (cond (Nat.blt pc 38) (cond (Nat.beq pc 37) (o_aload 0 38) o_bad) (cond (Nat.blt pc 41) (cond (Nat.beq pc 38) (o_callV 1 5 sp_X5_next 41) o_bad) (cond (Nat.beq pc 41) (o_vret) o_bad)))))
set_option maxRecDepth 20000 in
theorem ok_X5_readFar : HOKs cX5_readFar RX5 2 none 7 ins_X5_readFar := fun _ => hnd (hnd (hnd (hnd (hlf (ok_aload_n dX5_readFar_0 rfl rfl)) (hlf (ok_str1 dX5_readFar_1 rfl))) (hnd (hlf (ok_callV (y := yX5_isWord) (n' := 1) (C := RX5) (T := TX5) dX5_readFar_3 ct_X5_isWord (by decide) (by decide) wd_647 wd_644 wd_646 wd_12 wd_44 rfl (by decide +kernel) rfl rfl rfl)) (hnd (hlf (ok_if_eq dX5_readFar_6 (by decide) rfl)) (hlf (ok_aload_n dX5_readFar_9 rfl rfl))))) (hnd (hnd (hlf (ok_aload_n dX5_readFar_10 rfl rfl)) (hnd (hlf (ok_iconst dX5_readFar_11 (by decide) rfl)) (hlf (ok_bipush dX5_readFar_12 (by decide) rfl)))) (hnd (hlf (ok_callV (y := yX5_nextNumber) (n' := 2) (C := RX5) (T := TX5) dX5_readFar_14 ct_X5_nextNumber (by decide) (by decide) wd_618 wd_615 wd_617 wd_7 wd_44 rfl (by decide +kernel) rfl rfl rfl)) (hnd (hlf (ok_putfN (C := RX4) (T := TX4) dX5_readFar_17 rfl rfl (by decide) rfl inX4 tyX4_ok nmX4 rfl rfl (fun _ _ => rfl) wd_590 rfl)) (hlf (ok_aload_n dX5_readFar_20 rfl rfl)))))) (hnd (hnd (hnd (hlf (ok_str2 dX5_readFar_21 rfl)) (hlf (ok_callV (y := yX5_nextMustBe) (n' := 1) (C := RX5) (T := TX5) dX5_readFar_23 ct_X5_nextMustBe (by decide) (by decide) wd_643 wd_640 wd_642 wd_11 wd_44 rfl (by decide +kernel) rfl rfl rfl))) (hnd (hlf (ok_aload_n dX5_readFar_26 rfl rfl)) (hnd (hlf (ok_aload_n dX5_readFar_27 rfl rfl)) (hlf (ok_iconst dX5_readFar_28 (by decide) rfl))))) (hnd (hnd (hlf (ok_bipush dX5_readFar_29 (by decide) rfl)) (hnd (hlf (ok_callV (y := yX5_nextNumber) (n' := 2) (C := RX5) (T := TX5) dX5_readFar_31 ct_X5_nextNumber (by decide) (by decide) wd_618 wd_615 wd_617 wd_7 wd_44 rfl (by decide +kernel) rfl rfl rfl)) (hlf (ok_putfN (C := RX4) (T := TX4) dX5_readFar_34 rfl rfl (by decide) rfl inX4 tyX4_ok nmX4 rfl rfl (fun _ _ => rfl) wd_594 rfl)))) (hnd (hlf (ok_aload_n dX5_readFar_37 rfl rfl)) (hnd (hlf (ok_callV (y := yX5_next) (n' := 0) (C := RX5) (T := TX5) dX5_readFar_38 ct_X5_next (by decide) (by decide) wd_622 wd_619 wd_621 wd_8 wd_44 rfl (by decide +kernel) rfl rfl rfl)) (hlf (ok_vret dX5_readFar_41))))))

set_option maxHeartbeats 1000000 in
theorem vc_X5_readFar : MVC ins_X5_readFar 2 2 sp_X5_readFar := by
  refine mvc0 60 fun as w σ q hl hs => ?_
  unfold sp_X5_readFar at hs
  split at hs
  rotate_left
  · exact hs.elim
  rename_i n
  obtain ⟨T, z, R, σ0, hz, hsz, hT, hJ, hK⟩ := hs
  rcases hJ with ⟨p, hR, hB⟩ | ⟨e, F, hez, hG, h1, hR, f2, f3, f4, f5⟩
  · refine ⟨by decide, fun _ => ?_, fun h => absurd h hB.nok⟩
    exact And.intro (fun _ => hK σ (Or.inl ⟨p, hR, hB⟩)) (fun h => absurd rfl h)
  · have l := we_le (T := T) hez
    refine ⟨by decide, fun h => absurd hG.2.1 h, fun _ => ⟨T, wA T z e, we T z e, hG.T hT, l.2.1, Nat.le_trans l.2.2 hz, h1, hG.2.2.1, ?_⟩⟩
    unfold pFar at hR
    apply br2
    rotate_left
    · intro hc
      rw [we_n wc_far hc] at hR
      refine And.intro (fun _ => hK σ (Or.inr ⟨e, F, hez, hG, h1, ?_, f4, f5⟩)) (fun h => absurd rfl h)
      rw [f2, f3]
      exact hR
    intro hc
    rw [we_c wc_far hc] at hR
    refine And.intro (fun h => absurd h (by decide)) (fun _ => ?_)
    clear hc
    obtain ⟨e1, he1⟩ : ∃ e1, e1 = we T z e := ⟨_, rfl⟩
    rw [← he1] at hR hG l
    have l1 := we_le (T := T) l.2.2
    refine And.intro (fun h => absurd hG.2.1 h) (fun _ => ⟨T, e1, z, hG.T hT, l.2.2, hz, hG.2.2.1, hG.z hsz, ?_⟩)
    unfold pNum at hR
    apply br2
    rotate_left
    · intro hn
      rw [cif_n hn] at hR
      have hB := (hG.bad l1.2.1 (Nat.le_trans l1.2.2 hz)).put 2 0
      refine ⟨by decide, fun _ => ?_, fun h => absurd h hB.nok⟩
      refine And.intro (fun _ => ⟨hB.2.2.2, fun v => ?_⟩) (fun h => absurd h hB.nok)
      have hB2 := hB.put 3 v
      exact And.intro (fun _ => hK _ (Or.inl ⟨_, hR, hB2⟩)) (fun h => absurd h hB2.nok)
    intro hn
    rw [cif_p hn] at hR
    dsimp only at hR
    have hG2 := (hG.nx (wA T z e1) (we T z e1)).put 2 (num T (wA T z e1) (we T z e1))
    have l2 := we_le (T := T) l1.2.2
    refine ⟨by decide, fun h => absurd hG2.2.1 h, fun _ => ⟨T, we T z e1, z, hG2.T hT, l1.2.2, hz, hG2.2.2.1, hG2.z hsz, ?_⟩⟩
    unfold pWord at hR
    apply br2
    rotate_left
    · intro hc
      rw [we_n wc_and hc] at hR
      have hB := hG2.bad l2.2.1 (Nat.le_trans l2.2.2 hz)
      refine And.intro (fun _ => ⟨hB.2.2.2, fun v => ?_⟩) (fun h => absurd h hB.nok)
      have hB2 := hB.put 3 v
      exact And.intro (fun _ => hK _ (Or.inl ⟨_, hR, hB2⟩)) (fun h => absurd h hB2.nok)
    intro hc
    rw [we_c wc_and hc] at hR
    dsimp only at hR
    have hG3 := hG2.nx (wA T z (we T z e1)) (we T z (we T z e1))
    have l3 := we_le (T := T) l2.2.2
    refine And.intro (fun h => absurd hG3.2.1 h) (fun _ => ⟨T, we T z (we T z e1), z, hG3.T hT, l2.2.2, hz, hG3.2.2.1, hG3.z hsz, ?_⟩)
    apply br2
    rotate_left
    · intro hn2
      rw [cif_n hn2] at hR
      have hB := (hG3.bad l3.2.1 (Nat.le_trans l3.2.2 hz)).put 3 1
      exact And.intro (fun _ => hK _ (Or.inl ⟨_, hR, hB⟩)) (fun h => absurd h hB.nok)
    intro hn2
    rw [cif_p hn2] at hR
    have hG4 := (hG3.nx (wA T z (we T z (we T z e1))) (we T z (we T z (we T z e1)))).put 3 (num T (wA T z (we T z (we T z e1))) (we T z (we T z (we T z e1))))
    refine And.intro (fun h => absurd hG4.2.1 h) (fun _ => ⟨T, _, z, hG4.T hT, l3.2.2, hz, hG4.2.2.1, hG4.z hsz, ?_⟩)
    exact hK _ (Or.inr ⟨_, _, l3.2.2, hG4.nx _ _, nx_1, hR, f4, f5⟩)
theorem ct_X5_readFar : Ctr yX5_readFar cX5_readFar 2 none 7 0 0 2 sp_X5_readFar := ctr_of (by decide +kernel) rfl (by decide) ok_X5_readFar vc_X5_readFar

noncomputable def sp_X5_readLong : HSp := fun as w σ K => match as with
  | [.inr (.inl (5, some 0)), .inr (.inl (4, some n))] => ∃ T z R σ0, z ≤ 60 ∧ σ0 8 0 1 = nI z ∧ σ0 12 0 = T ∧ ((∃ p, R = .inl p ∧ Bd n σ0 σ p) ∨ (∃ e F, e ≤ z ∧ Gd n σ0 σ (we T z e) F ∧ σ 5 0 1 = nI (wA T z e) ∧ R = pL T z (F 0) (F 1) (F 2) (F 3) e ∧ F 4 = 2 ∧ F 5 = 0)) ∧ ∀ σ', ((∃ p, R = .inl p ∧ Bd n σ0 σ' p) ∨ (∃ e F, e ≤ z ∧ Gd n σ0 σ' (we T z e) F ∧ σ' 5 0 1 = nI (wA T z e) ∧ R = pNot T z e (pEnd T z (F 0) (F 1) (F 2) (F 3) (F 4)) ∧ F 5 = 0)) → K none w σ'
  | _ => False
theorem dX5_readLong_0 : decode cX5_readLong 0 = .ok (.aload_n 0, 1) := by decide +kernel
theorem dX5_readLong_1 : decode cX5_readLong 1 = .ok (.ldc 78, 2) := by decide +kernel
theorem dX5_readLong_3 : decode cX5_readLong 3 = .ok (.invokevirtual 67, 3) := by decide +kernel
theorem dX5_readLong_6 : decode cX5_readLong 6 = .ok (.ifCond .eq 17, 3) := by decide +kernel
theorem dX5_readLong_9 : decode cX5_readLong 9 = .ok (.aload_n 1, 1) := by decide +kernel
theorem dX5_readLong_10 : decode cX5_readLong 10 = .ok (.aload_n 0, 1) := by decide +kernel
theorem dX5_readLong_11 : decode cX5_readLong 11 = .ok (.iconst 1, 1) := by decide +kernel
theorem dX5_readLong_12 : decode cX5_readLong 12 = .ok (.iconst 4, 1) := by decide +kernel
theorem dX5_readLong_13 : decode cX5_readLong 13 = .ok (.invokevirtual 28, 3) := by decide +kernel
theorem dX5_readLong_16 : decode cX5_readLong 16 = .ok (.putfield 80, 3) := by decide +kernel
theorem dX5_readLong_19 : decode cX5_readLong 19 = .ok (.aload_n 0, 1) := by decide +kernel
theorem dX5_readLong_20 : decode cX5_readLong 20 = .ok (.invokevirtual 44, 3) := by decide +kernel
theorem dX5_readLong_23 : decode cX5_readLong 23 = .ok (.return_, 1) := by decide +kernel
def ins_X5_readLong (pc : Nat) : HOp := cond (Nat.blt pc 11) (cond (Nat.blt pc 6) (cond (Nat.blt pc 1) (cond (Nat.beq pc 0) (o_aload 0 1) o_bad) (cond (Nat.blt pc 3) (cond (Nat.beq pc 1) (o_str 3 3) o_bad) (cond (Nat.beq pc 3) (o_callV 2 5 sp_X5_isWord 6) o_bad))) (cond (Nat.blt pc 9) (cond (Nat.beq pc 6) (o_if (fun x => x = 0) 23 9) o_bad) (cond (Nat.blt pc 10) (cond (Nat.beq pc 9) (o_aload 1 10) o_bad) (cond (Nat.beq pc 10) (o_aload 0 11) o_bad)))) (cond (Nat.blt pc 16) (cond (Nat.blt pc 12) (cond (Nat.beq pc 11) (o_const (1) 12) o_bad) (cond (Nat.blt pc 13) (cond (Nat.beq pc 12) (o_const (4) 13) o_bad) (cond (Nat.beq pc 13) (o_callV 3 5 sp_X5_nextNumber 16) o_bad))) (cond (Nat.blt pc 20) (cond (Nat.blt pc 19) (cond (Nat.beq pc 16) (o_putf 4 4 19) o_bad) (cond (Nat.beq pc 19) (o_aload 0 20) o_bad)) (cond (Nat.blt pc 23) (cond (Nat.beq pc 20) (o_callV 1 5 sp_X5_next 23) o_bad) (cond (Nat.beq pc 23) (o_vret) o_bad))))
set_option maxRecDepth 20000 in
theorem ok_X5_readLong : HOKs cX5_readLong RX5 2 none 6 ins_X5_readLong := fun _ => hnd (hnd (hnd (hlf (ok_aload_n dX5_readLong_0 rfl rfl)) (hnd (hlf (ok_str3 dX5_readLong_1 rfl)) (hlf (ok_callV (y := yX5_isWord) (n' := 1) (C := RX5) (T := TX5) dX5_readLong_3 ct_X5_isWord (by decide) (by decide) wd_647 wd_644 wd_646 wd_12 wd_44 rfl (by decide +kernel) rfl rfl rfl)))) (hnd (hlf (ok_if_eq dX5_readLong_6 (by decide) rfl)) (hnd (hlf (ok_aload_n dX5_readLong_9 rfl rfl)) (hlf (ok_aload_n dX5_readLong_10 rfl rfl))))) (hnd (hnd (hlf (ok_iconst dX5_readLong_11 (by decide) rfl)) (hnd (hlf (ok_iconst dX5_readLong_12 (by decide) rfl)) (hlf (ok_callV (y := yX5_nextNumber) (n' := 2) (C := RX5) (T := TX5) dX5_readLong_13 ct_X5_nextNumber (by decide) (by decide) wd_618 wd_615 wd_617 wd_7 wd_44 rfl (by decide +kernel) rfl rfl rfl)))) (hnd (hnd (hlf (ok_putfN (C := RX4) (T := TX4) dX5_readLong_16 rfl rfl (by decide) rfl inX4 tyX4_ok nmX4 rfl rfl (fun _ _ => rfl) wd_597 rfl)) (hlf (ok_aload_n dX5_readLong_19 rfl rfl))) (hnd (hlf (ok_callV (y := yX5_next) (n' := 0) (C := RX5) (T := TX5) dX5_readLong_20 ct_X5_next (by decide) (by decide) wd_622 wd_619 wd_621 wd_8 wd_44 rfl (by decide +kernel) rfl rfl rfl)) (hlf (ok_vret dX5_readLong_23)))))

set_option maxHeartbeats 1000000 in
theorem vc_X5_readLong : MVC ins_X5_readLong 2 2 sp_X5_readLong := by
  refine mvc0 60 fun as w σ q hl hs => ?_
  unfold sp_X5_readLong at hs
  split at hs
  rotate_left
  · exact hs.elim
  rename_i n
  obtain ⟨T, z, R, σ0, hz, hsz, hT, hJ, hK⟩ := hs
  rcases hJ with ⟨p, hR, hB⟩ | ⟨e, F, hez, hG, h1, hR, f4, f5⟩
  · refine ⟨by decide, fun _ => ?_, fun h => absurd h hB.nok⟩
    exact And.intro (fun _ => hK σ (Or.inl ⟨p, hR, hB⟩)) (fun h => absurd rfl h)
  · have l := we_le (T := T) hez
    refine ⟨by decide, fun h => absurd hG.2.1 h, fun _ => ⟨T, wA T z e, we T z e, hG.T hT, l.2.1, Nat.le_trans l.2.2 hz, h1, hG.2.2.1, ?_⟩⟩
    unfold pL pLong at hR
    apply br2
    rotate_left
    · intro hc
      rw [we_n wc_long hc] at hR
      refine And.intro (fun _ => hK σ (Or.inr ⟨e, F, hez, hG, h1, ?_, f5⟩)) (fun h => absurd rfl h)
      rw [f4]
      exact hR
    intro hc
    rw [we_c wc_long hc] at hR
    refine And.intro (fun h => absurd h (by decide)) (fun _ => ?_)
    clear hc
    have l1 := we_le (T := T) l.2.2
    refine And.intro (fun h => absurd hG.2.1 h) (fun _ => ⟨T, we T z e, z, hG.T hT, l.2.2, hz, hG.2.2.1, hG.z hsz, ?_⟩)
    unfold pNum at hR
    apply br2
    rotate_left
    · intro hn
      rw [cif_n hn] at hR
      have hB := (hG.bad l1.2.1 (Nat.le_trans l1.2.2 hz)).put 4 1
      exact And.intro (fun _ => hK _ (Or.inl ⟨_, hR, hB⟩)) (fun h => absurd h hB.nok)
    intro hn
    rw [cif_p hn] at hR
    have hG2 := (hG.nx (wA T z (we T z e)) (we T z (we T z e))).put 4 (num T (wA T z (we T z e)) (we T z (we T z e)))
    refine And.intro (fun h => absurd hG2.2.1 h) (fun _ => ⟨T, _, z, hG2.T hT, l1.2.2, hz, hG2.2.2.1, hG2.z hsz, ?_⟩)
    exact hK _ (Or.inr ⟨_, _, l1.2.2, hG2.nx _ _, nx_1, hR, f5⟩)
theorem ct_X5_readLong : Ctr yX5_readLong cX5_readLong 2 none 6 0 0 2 sp_X5_readLong := ctr_of (by decide +kernel) rfl (by decide) ok_X5_readLong vc_X5_readLong

noncomputable def sp_X5_readNot : HSp := fun as w σ K => match as with
  | [.inr (.inl (5, some 0)), .inr (.inl (4, some n))] => ∃ T z R σ0, z ≤ 60 ∧ σ0 8 0 1 = nI z ∧ σ0 12 0 = T ∧ ((∃ p, R = .inl p ∧ Bd n σ0 σ p) ∨ (∃ e F, e ≤ z ∧ Gd n σ0 σ (we T z e) F ∧ σ 5 0 1 = nI (wA T z e) ∧ R = pNot T z e (pEnd T z (F 0) (F 1) (F 2) (F 3) (F 4)) ∧ F 5 = 0)) ∧ ∀ σ', ((∃ p, R = .inl p ∧ Bd n σ0 σ' p) ∨ (∃ e F, e ≤ z ∧ Gd n σ0 σ' (we T z e) F ∧ σ' 5 0 1 = nI (wA T z e) ∧ R = pEnd T z (F 0) (F 1) (F 2) (F 3) (F 4) (F 5) e)) → K none w σ'
  | _ => False
theorem dX5_readNot_0 : decode cX5_readNot 0 = .ok (.aload_n 0, 1) := by decide +kernel
theorem dX5_readNot_1 : decode cX5_readNot 1 = .ok (.ldc 83, 2) := by decide +kernel
theorem dX5_readNot_3 : decode cX5_readNot 3 = .ok (.invokevirtual 67, 3) := by decide +kernel
theorem dX5_readNot_6 : decode cX5_readNot 6 = .ok (.istore_n 2, 1) := by decide +kernel
theorem dX5_readNot_7 : decode cX5_readNot 7 = .ok (.iconst (-1), 1) := by decide +kernel
theorem dX5_readNot_8 : decode cX5_readNot 8 = .ok (.istore_n 3, 1) := by decide +kernel
theorem dX5_readNot_9 : decode cX5_readNot 9 = .ok (.iconst 0, 1) := by decide +kernel
theorem dX5_readNot_10 : decode cX5_readNot 10 = .ok (.istore 4, 2) := by decide +kernel
theorem dX5_readNot_12 : decode cX5_readNot 12 = .ok (.iload 4, 2) := by decide +kernel
theorem dX5_readNot_14 : decode cX5_readNot 14 = .ok (.bipush 60, 2) := by decide +kernel
theorem dX5_readNot_16 : decode cX5_readNot 16 = .ok (.if_icmp .ge 46, 3) := by decide +kernel
theorem dX5_readNot_19 : decode cX5_readNot 19 = .ok (.iload_n 2, 1) := by decide +kernel
theorem dX5_readNot_20 : decode cX5_readNot 20 = .ok (.ifCond .eq 42, 3) := by decide +kernel
theorem dX5_readNot_23 : decode cX5_readNot 23 = .ok (.aload_n 0, 1) := by decide +kernel
theorem dX5_readNot_24 : decode cX5_readNot 24 = .ok (.iload_n 3, 1) := by decide +kernel
theorem dX5_readNot_25 : decode cX5_readNot 25 = .ok (.iconst 1, 1) := by decide +kernel
theorem dX5_readNot_26 : decode cX5_readNot 26 = .ok (.iadd, 1) := by decide +kernel
theorem dX5_readNot_27 : decode cX5_readNot 27 = .ok (.bipush 6, 2) := by decide +kernel
theorem dX5_readNot_29 : decode cX5_readNot 29 = .ok (.invokevirtual 28, 3) := by decide +kernel
theorem dX5_readNot_32 : decode cX5_readNot 32 = .ok (.istore_n 3, 1) := by decide +kernel
theorem dX5_readNot_33 : decode cX5_readNot 33 = .ok (.aload_n 1, 1) := by decide +kernel
theorem dX5_readNot_34 : decode cX5_readNot 34 = .ok (.dup, 1) := by decide +kernel
theorem dX5_readNot_35 : decode cX5_readNot 35 = .ok (.getfield 85, 3) := by decide +kernel
theorem dX5_readNot_38 : decode cX5_readNot 38 = .ok (.iconst 1, 1) := by decide +kernel
theorem dX5_readNot_39 : decode cX5_readNot 39 = .ok (.iload_n 3, 1) := by decide +kernel
theorem dX5_readNot_40 : decode cX5_readNot 40 = .ok (.ishl, 1) := by decide +kernel
theorem dX5_readNot_41 : decode cX5_readNot 41 = .ok (.ior, 1) := by decide +kernel
theorem dX5_readNot_42 : decode cX5_readNot 42 = .ok (.putfield 85, 3) := by decide +kernel
theorem dX5_readNot_45 : decode cX5_readNot 45 = .ok (.aload_n 0, 1) := by decide +kernel
theorem dX5_readNot_46 : decode cX5_readNot 46 = .ok (.invokevirtual 44, 3) := by decide +kernel
theorem dX5_readNot_49 : decode cX5_readNot 49 = .ok (.aload_n 0, 1) := by decide +kernel
theorem dX5_readNot_50 : decode cX5_readNot 50 = .ok (.ldc 88, 2) := by decide +kernel
theorem dX5_readNot_52 : decode cX5_readNot 52 = .ok (.invokevirtual 67, 3) := by decide +kernel
theorem dX5_readNot_55 : decode cX5_readNot 55 = .ok (.istore_n 2, 1) := by decide +kernel
theorem dX5_readNot_56 : decode cX5_readNot 56 = .ok (.iinc 4 1, 3) := by decide +kernel
theorem dX5_readNot_59 : decode cX5_readNot 59 = .ok (.goto (-47), 3) := by decide +kernel
theorem dX5_readNot_62 : decode cX5_readNot 62 = .ok (.return_, 1) := by decide +kernel
def ins_X5_readNot (pc : Nat) : HOp := cond (Nat.blt pc 29) (cond (Nat.blt pc 14) (cond (Nat.blt pc 7) (cond (Nat.blt pc 3) (cond (Nat.blt pc 1) (cond (Nat.beq pc 0) (o_aload 0 1) o_bad) (cond (Nat.beq pc 1) (o_str 4 3) o_bad)) (cond (Nat.blt pc 6) (cond (Nat.beq pc 3) (o_callV 2 5 sp_X5_isWord 6) o_bad) (cond (Nat.beq pc 6) (o_istore 2 7) o_bad))) (cond (Nat.blt pc 9) (cond (Nat.blt pc 8) (cond (Nat.beq pc 7) (o_const (-1) 8) o_bad) (cond (Nat.beq pc 8) (o_istore 3 9) o_bad)) (cond (Nat.blt pc 10) (cond (Nat.beq pc 9) (o_const (0) 10) o_bad) (cond (Nat.blt pc 12) (cond (Nat.beq pc 10) (o_istore 4 12) o_bad) (cond (Nat.beq pc 12) (o_iload 4 14) o_bad))))) (cond (Nat.blt pc 23) (cond (Nat.blt pc 19) (cond (Nat.blt pc 16) (cond (Nat.beq pc 14) (o_const (60) 16) o_bad) (cond (Nat.beq pc 16) (o_icmp (fun x y => y ≤ x) 62 19) o_bad)) (cond (Nat.blt pc 20) (cond (Nat.beq pc 19) (o_iload 2 20) o_bad) (cond (Nat.beq pc 20) (o_if (fun x => x = 0) 62 23) o_bad))) (cond (Nat.blt pc 25) (cond (Nat.blt pc 24) (cond (Nat.beq pc 23) (o_aload 0 24) o_bad) (cond (Nat.beq pc 24) (o_iload 3 25) o_bad)) (cond (Nat.blt pc 26) (cond (Nat.beq pc 25) (o_const (1) 26) o_bad) (cond (Nat.blt pc 27) (cond (Nat.beq pc 26) (o_bin (fun x y => x + y) 27) o_bad) (cond (Nat.beq pc 27) (o_const (6) 29) o_bad)))))) (cond (Nat.blt pc 42) (cond (Nat.blt pc 35) (cond (Nat.blt pc 33) (cond (Nat.blt pc 32) (cond (Nat.beq pc 29) (o_callV 3 5 sp_X5_nextNumber 32) o_bad) (cond (Nat.beq pc 32) (o_istore 3 33) o_bad)) (cond (Nat.blt pc 34) (cond (Nat.beq pc 33) (o_aload 1 34) o_bad) (cond (Nat.beq pc 34) (o_dup 35) o_bad))) (cond (Nat.blt pc 39) (cond (Nat.blt pc 38) (cond (Nat.beq pc 35) (o_getf 4 5 38) o_bad) (cond (Nat.beq pc 38) (o_const (1) 39) o_bad)) (cond (Nat.blt pc 40) (cond (Nat.beq pc 39) (o_iload 3 40) o_bad) (cond (Nat.blt pc 41) (cond (Nat.beq pc 40) (o_bin (fun x y => x <<< (y &&& 31)) 41) o_bad) (cond (Nat.beq pc 41) (o_bin (fun x y => x ||| y) 42) o_bad))))) (cond (Nat.blt pc 52) (cond (Nat.blt pc 46) (cond (Nat.blt pc 45) (cond (Nat.beq pc 42) (o_putf 4 5 45) o_bad) (cond (Nat.beq pc 45) (o_aload 0 46) o_bad)) (cond (Nat.blt pc 49) (cond (Nat.beq pc 46) (o_callV 1 5 sp_X5_next 49) o_bad) (cond (Nat.blt pc 50) (cond (Nat.beq pc 49) (o_aload 0 50) o_bad) (cond (Nat.beq pc 50) (o_str 5 52) o_bad)))) (cond (Nat.blt pc 56) (cond (Nat.blt pc 55) (cond (Nat.beq pc 52) (o_callV 2 5 sp_X5_isWord 55) o_bad) (cond (Nat.beq pc 55) (o_istore 2 56) o_bad)) (cond (Nat.blt pc 59) (cond (Nat.beq pc 56) (o_iinc 4 (1) 59) o_bad) (cond (Nat.blt pc 62) (cond (Nat.beq pc 59) (o_goto 12) o_bad) (cond (Nat.beq pc 62) (o_vret) o_bad))))))
set_option maxRecDepth 20000 in
theorem ok_X5_readNot : HOKs cX5_readNot RX5 5 none 6 ins_X5_readNot := fun _ => hnd (hnd (hnd (hnd (hnd (hlf (ok_aload_n dX5_readNot_0 rfl rfl)) (hlf (ok_str4 dX5_readNot_1 rfl))) (hnd (hlf (ok_callV (y := yX5_isWord) (n' := 1) (C := RX5) (T := TX5) dX5_readNot_3 ct_X5_isWord (by decide) (by decide) wd_647 wd_644 wd_646 wd_12 wd_44 rfl (by decide +kernel) rfl rfl rfl)) (hlf (ok_istore_n dX5_readNot_6 rfl (by decide) rfl)))) (hnd (hnd (hlf (ok_iconst dX5_readNot_7 (by decide) rfl)) (hlf (ok_istore_n dX5_readNot_8 rfl (by decide) rfl))) (hnd (hlf (ok_iconst dX5_readNot_9 (by decide) rfl)) (hnd (hlf (ok_istore dX5_readNot_10 (by decide) rfl)) (hlf (ok_iload dX5_readNot_12 rfl)))))) (hnd (hnd (hnd (hlf (ok_bipush dX5_readNot_14 (by decide) rfl)) (hlf (ok_icmp_ge dX5_readNot_16 (by decide) rfl))) (hnd (hlf (ok_iload_n dX5_readNot_19 rfl rfl)) (hlf (ok_if_eq dX5_readNot_20 (by decide) rfl)))) (hnd (hnd (hlf (ok_aload_n dX5_readNot_23 rfl rfl)) (hlf (ok_iload_n dX5_readNot_24 rfl rfl))) (hnd (hlf (ok_iconst dX5_readNot_25 (by decide) rfl)) (hnd (hlf (ok_iadd dX5_readNot_26 rfl)) (hlf (ok_bipush dX5_readNot_27 (by decide) rfl))))))) (hnd (hnd (hnd (hnd (hlf (ok_callV (y := yX5_nextNumber) (n' := 2) (C := RX5) (T := TX5) dX5_readNot_29 ct_X5_nextNumber (by decide) (by decide) wd_618 wd_615 wd_617 wd_7 wd_44 rfl (by decide +kernel) rfl rfl rfl)) (hlf (ok_istore_n dX5_readNot_32 rfl (by decide) rfl))) (hnd (hlf (ok_aload_n dX5_readNot_33 rfl rfl)) (hlf (ok_dup dX5_readNot_34 rfl)))) (hnd (hnd (hlf (ok_getfN (C := RX4) (T := TX4) dX5_readNot_35 rfl rfl (by decide) rfl inX4 wd_600 rfl)) (hlf (ok_iconst dX5_readNot_38 (by decide) rfl))) (hnd (hlf (ok_iload_n dX5_readNot_39 rfl rfl)) (hnd (hlf (ok_ishl dX5_readNot_40 rfl)) (hlf (ok_ior dX5_readNot_41 rfl)))))) (hnd (hnd (hnd (hlf (ok_putfN (C := RX4) (T := TX4) dX5_readNot_42 rfl rfl (by decide) rfl inX4 tyX4_ok nmX4 rfl rfl (fun _ _ => rfl) wd_600 rfl)) (hlf (ok_aload_n dX5_readNot_45 rfl rfl))) (hnd (hlf (ok_callV (y := yX5_next) (n' := 0) (C := RX5) (T := TX5) dX5_readNot_46 ct_X5_next (by decide) (by decide) wd_622 wd_619 wd_621 wd_8 wd_44 rfl (by decide +kernel) rfl rfl rfl)) (hnd (hlf (ok_aload_n dX5_readNot_49 rfl rfl)) (hlf (ok_str5 dX5_readNot_50 rfl))))) (hnd (hnd (hlf (ok_callV (y := yX5_isWord) (n' := 1) (C := RX5) (T := TX5) dX5_readNot_52 ct_X5_isWord (by decide) (by decide) wd_647 wd_644 wd_646 wd_12 wd_44 rfl (by decide +kernel) rfl rfl rfl)) (hlf (ok_istore_n dX5_readNot_55 rfl (by decide) rfl))) (hnd (hlf (ok_iinc dX5_readNot_56 (by decide) (by decide) rfl)) (hnd (hlf (ok_goto dX5_readNot_59 (by decide))) (hlf (ok_vret dX5_readNot_62)))))))

set_option maxHeartbeats 1000000 in
theorem vc_X5_readNot : MVC ins_X5_readNot 5 2 sp_X5_readNot := by
  refine mvc1 12 60 fun as w σ q hl hs => ?_
  unfold sp_X5_readNot at hs
  split at hs
  rotate_left
  · exact hs.elim
  rename_i n
  obtain ⟨T, z, R, σ0, hz, hsz, hT, hJ, hK⟩ := hs
  refine ⟨fun N ls st w' σ' => ∃ (i : Nat) (a d u : Int32), u = nI i ∧ N = 60 - i ∧ i ≤ 8 ∧ ls = [some (HR 5 0), some (HR 4 n), some (HI a), some (HI d), some (HI u)] ∧ st = [] ∧ w = w' ∧
    ((a = 0 ∧ ((∃ p, R = .inl p ∧ Bd n σ0 σ' p) ∨ (∃ e F, e ≤ z ∧ Gd n σ0 σ' (we T z e) F ∧ σ' 5 0 1 = nI (wA T z e) ∧ R = pEnd T z (F 0) (F 1) (F 2) (F 3) (F 4) (F 5) e))) ∨
     (a = 1 ∧ ∃ e F m j, e ≤ z ∧ Gd n σ0 σ' (we T z e) F ∧ m + i = 8 ∧ i ≤ j ∧ j ≤ 7 ∧ d + 1 = nI j ∧ R = pNots T z (pEnd T z (F 0) (F 1) (F 2) (F 3) (F 4)) m (we T z e) (d + 1) (F 5))), ?_, ?_⟩
  · rintro N ls st w' σ' ⟨i, a, d, u, rfl, rfl, hi8, rfl, rfl, rfl, hS⟩
    apply br2
    · intro h1
      have h1 : (60 : Int32) ≤ nI i := h1
      have := (nI_leI (a := 60) (by omega) (by omega)).mp h1
      omega
    intro _
    rcases hS with ⟨rfl, hS⟩ | ⟨rfl, e, F, m, j, hez, hG, hm, hij, hj7, hd, hR⟩
    · exact And.intro (fun _ => hK σ' hS) (fun h => absurd rfl h)
    refine And.intro (fun h => absurd h (by decide)) (fun _ => ?_)
    have l := we_le (T := T) hez
    have l1 := we_le (T := T) l.2.2
    refine And.intro (fun h => absurd hG.2.1 h) (fun _ => ⟨T, we T z e, z, hG.T hT, l.2.2, hz, hG.2.2.1, hG.z hsz, ?_⟩)
    obtain ⟨m', rfl⟩ : ∃ m', m = m' + 1 := ⟨m - 1, by omega⟩
    unfold pNots pNum at hR
    apply br2
    rotate_left
    · intro hn
      have hn : ¬ (¬ num T (wA T z (we T z e)) (we T z (we T z e)) < d + 1 ∧ ¬ 6 < num T (wA T z (we T z e)) (we T z (we T z e))) := hn
      rw [cif_n hn] at hR
      have hB0 := hG.bad l1.2.1 (Nat.le_trans l1.2.2 hz)
      obtain ⟨x, hx⟩ : ∃ x, x = up3 (nxC σ' (wA T z (we T z e)) (we T z (we T z e))) 5 0 3 (nI (wA T z (we T z e))) 4 n 5 ||| (1 <<< ((d + 1) &&& 31)) := ⟨_, rfl⟩
      have hB := hB0.put 5 x
      rw [hx] at hB
      refine And.intro (fun _ => ?_) (fun h => absurd h hB.nok)
      refine ⟨by decide, fun _ => ?_, fun h => absurd h hB.nok⟩
      exact ⟨60 - (i + 1), by omega, i + 1, _, _, _, nI_1 i, rfl, by omega, rfl, rfl, rfl, Or.inl ⟨rfl, Or.inl ⟨_, hR, hB⟩⟩⟩
    intro hn
    have hn : ¬ num T (wA T z (we T z e)) (we T z (we T z e)) < d + 1 ∧ ¬ 6 < num T (wA T z (we T z e)) (we T z (we T z e)) := hn
    rw [cif_p hn] at hR
    dsimp only at hR
    have hG1 := hG.nx (wA T z (we T z e)) (we T z (we T z e))
    obtain ⟨v, hv⟩ : ∃ v, v = num T (wA T z (we T z e)) (we T z (we T z e)) := ⟨_, rfl⟩
    rw [← hv] at hn hR
    have hG2 := hG1.put 5 (nxC σ' (wA T z (we T z e)) (we T z (we T z e)) 4 n 5 ||| (1 <<< (v &&& 31)))
    rw [hG1.2.2.2] at hG2
    have es : up3 (nxC σ' (wA T z (we T z e)) (we T z (we T z e))) 4 n 5 (nxC σ' (wA T z (we T z e)) (we T z (we T z e)) 4 n 5 ||| (1 <<< (v &&& 31))) = up3 (nxC σ' (wA T z (we T z e)) (we T z (we T z e))) 4 n 5 (F 5 ||| (1 <<< (v &&& 31))) := by rw [hG1.2.2.2]
    have l2 := we_le (T := T) l1.2.2
    obtain ⟨j2, hj2, rfl2⟩ : ∃ j2, j2 ≤ 6 ∧ v = nI j2 := by
      obtain ⟨j2, h2, e2⟩ := in_of (n := 7) (x := v) ⟨Int32.le_trans (by rw [hd]; exact nI_pos' (by omega)) (Int32.not_lt.mp hn.1), Int32.lt_of_le_of_lt (Int32.not_lt.mp hn.2) (by decide)⟩
      exact ⟨j2, by omega, e2⟩
    have hjj : j ≤ j2 := by
      have h3 := Int32.not_lt.mp hn.1
      rw [hd, rfl2] at h3
      exact (nI_leI (by omega) (by omega)).mp h3
    refine And.intro (fun h => absurd hG2.2.1 (by rw [← es, hv]; exact h)) (fun _ => ⟨T, we T z (we T z e), z, by rw [← hv, es]; exact hG2.T hT, l1.2.2, hz, by rw [← hv, es]; exact hG2.2.2.1, by rw [← hv, es]; exact hG2.z hsz, ?_⟩)
    have hG3 := hG2.nx (wA T z (we T z (we T z e))) (we T z (we T z (we T z e)))
    rw [← es, hv] at hG3
    refine ⟨by decide, fun h => absurd hG3.2.1 h, fun _ => ⟨T, wA T z (we T z (we T z e)), we T z (we T z (we T z e)), hG3.T hT, l2.2.1, Nat.le_trans l2.2.2 hz, nx_1, nx_2, ?_⟩⟩
    rw [hv] at hR rfl2
    apply br2
    · intro hc
      rw [we_c wc_or hc] at hR
      exact ⟨60 - (i + 1), by omega, i + 1, _, _, _, nI_1 i, rfl, by omega, rfl, rfl, rfl, Or.inr ⟨rfl, we T z (we T z e), _, m', j2 + 1, l1.2.2, hG3, by omega, by omega, by omega, by rw [rfl2]; exact nI_1 j2, hR⟩⟩
    · intro hc
      rw [we_n wc_or hc] at hR
      exact ⟨60 - (i + 1), by omega, i + 1, _, _, _, nI_1 i, rfl, by omega, rfl, rfl, rfl, Or.inl ⟨rfl, Or.inr ⟨_, _, l1.2.2, hG3, nx_1, hR⟩⟩⟩
  · rcases hJ with ⟨p, hR, hB⟩ | ⟨e, F, hez, hG, h1, hR, f5⟩
    · refine ⟨by decide, fun _ => ?_, fun h => absurd h hB.nok⟩
      exact ⟨60, 0, _, _, _, rfl, rfl, by omega, rfl, rfl, rfl, Or.inl ⟨rfl, Or.inl ⟨p, hR, hB⟩⟩⟩
    · have l := we_le (T := T) hez
      refine ⟨by decide, fun h => absurd hG.2.1 h, fun _ => ⟨T, wA T z e, we T z e, hG.T hT, l.2.1, Nat.le_trans l.2.2 hz, h1, hG.2.2.1, ?_⟩⟩
      unfold pNot at hR
      apply br2
      · intro hc
        rw [we_c wc_not hc] at hR
        refine ⟨60, 0, _, _, _, rfl, rfl, by omega, rfl, rfl, rfl, Or.inr ⟨rfl, e, F, 8, 0, hez, hG, rfl, by omega, by omega, by decide, ?_⟩⟩
        rw [f5]
        exact hR
      · intro hc
        rw [we_n wc_not hc] at hR
        refine ⟨60, 0, _, _, _, rfl, rfl, by omega, rfl, rfl, rfl, Or.inl ⟨rfl, Or.inr ⟨e, F, hez, hG, h1, ?_⟩⟩⟩
        rw [f5]
        exact hR
theorem ct_X5_readNot : Ctr yX5_readNot cX5_readNot 5 none 6 0 0 2 sp_X5_readNot := ctr_of (by decide +kernel) rfl (by decide) ok_X5_readNot vc_X5_readNot

