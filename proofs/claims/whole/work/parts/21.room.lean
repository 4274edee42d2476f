/-! VisitHall.Gate, 4: making room for a lawyer's; common words for class and reference -/
def lastY (p : Nat → Bool) : Nat → Option Nat
  | 0 => none
  | n + 1 => if p n = true then some n else lastY p n
theorem lastY_some {p : Nat → Bool} {i : Nat} : ∀ {n : Nat}, i < n → p i = true → (∀ j, i < j → j < n → p j = false) → lastY p n = some i
  | 0, h, _, _ => absurd h (by omega)
  | n + 1, h, hp, hno => by
    unfold lastY
    rcases Nat.lt_succ_iff_lt_or_eq.mp h with q | q
    · rw [if_neg (by rw [hno n q (by omega)]; decide)]
      exact lastY_some q hp (fun j h1 h2 => hno j h1 (by omega))
    · subst q
      rw [if_pos hp]
theorem lastY_none {p : Nat → Bool} : ∀ {n : Nat}, (∀ j, j < n → p j = false) → lastY p n = none
  | 0, _ => rfl
  | n + 1, h => by
    unfold lastY
    rw [if_neg (by rw [h n (by omega)]; decide)]
    exact lastY_none (fun j hj => h j (by omega))
theorem lastY_at {p : Nat → Bool} {i : Nat} : ∀ {n : Nat}, lastY p n = some i → i < n ∧ p i = true
  | 0, h => by cases h
  | n + 1, h => by
    unfold lastY at h
    by_cases c : p n = true
    · rw [if_pos c] at h
      cases h
      exact ⟨by omega, c⟩
    · rw [if_neg c] at h
      have := lastY_at h
      exact ⟨by omega, this.2⟩
theorem lastY_cg {p q : Nat → Bool} : ∀ {n : Nat}, (∀ j, j < n → p j = q j) → lastY p n = lastY q n
  | 0, _ => rfl
  | n + 1, h => by
    unfold lastY
    rw [h n (by omega), lastY_cg (fun j hj => h j (by omega))]
theorem cnt_cg {p q : Nat → Bool} : ∀ {n : Nat}, (∀ j, j < n → p j = q j) → cnt p n = cnt q n
  | 0, _ => rfl
  | n + 1, h => by
    unfold cnt
    rw [h n (by omega), cnt_cg (fun j hj => h j (by omega))]
abbrev atV (V : Nat → Nat → Int32) (S : Nat → Int32) (i : Nat) (day h : Int32) : Prop := S i = 0 ∧ V i 2 = day ∧ ¬ h < V i 3 ∧ ¬ V i 3 + V i 4 ≤ h
abbrev yV (V : Nat → Nat → Int32) (L S : Nat → Int32) (i : Nat) (day h : Int32) : Prop := atV V S i day h ∧ L i = 0
def lcV (V : Nat → Nat → Int32) (S : Nat → Int32) (day h : Int32) (n : Nat) : Nat := cnt (fun i => decide (atV V S i day h)) n
def clr (V : Nat → Nat → Int32) (L : Nat → Int32) (n : Nat) (day h : Int32) : Nat → (Nat → Int32) → Option (Nat → Int32)
  | 0, S => some S
  | c + 1, S => (lastY (fun i => decide (yV V L S i day h)) n).bind fun i => clr V L n day h c (upd S i 1)
def rms (V : Nat → Nat → Int32) (L : Nat → Int32) (n : Nat) (day : Int32) (t : Nat) : Nat → Nat → (Nat → Int32) → Option (Nat → Int32)
  | 0, _, S => some S
  | b + 1, h, S => (clr V L n day (nI h) (lcV V S day (nI h) n + 1 - t) S).bind fun S' => rms V L n day t b (h + 1) S'
def effS (σ : HS) (i : Nat) : Int32 := if σ 9 i 7 = 0 then σ 9 i 6 else 1
def lvO (σ σ' : HS) (n : Nat) : Prop := (∀ k i f, ¬ (k = 9 ∧ f = 7 ∧ i < n) → σ' k i f = σ k i f) ∧ ∀ i, i < n → σ' 9 i 7 = 0 ∨ σ' 9 i 7 = 1
theorem eff_0 (σ : HS) (i : Nat) : effS σ i = 0 ↔ σ 9 i 6 = 0 ∧ σ 9 i 7 = 0 := by
  unfold effS
  by_cases h : σ 9 i 7 = 0
  · rw [if_pos h]; exact ⟨fun q => ⟨q, h⟩, fun q => q.1⟩
  · rw [if_neg h]; exact ⟨fun q => absurd q (by decide), fun q => absurd q.2 h⟩
theorem lvO_n {σ σ' : HS} {n : Nat} (h : lvO σ σ' n) {i f : Nat} (hf : f ≠ 7) : σ' 9 i f = σ 9 i f := h.1 9 i f (fun q => hf q.2.1)
theorem at_iff {σ σ' : HS} {n : Nat} (h : lvO σ σ' n) (i : Nat) (day hf : Int32) : atL σ' i day hf ↔ atV (σ 9) (effS σ') i day hf := by
  unfold atL atV
  rw [eff_0, lvO_n h (i := i) (f := 2) (by decide), lvO_n h (i := i) (f := 3) (by decide), lvO_n h (i := i) (f := 4) (by decide)]
  constructor
  · rintro ⟨a, b, c, d, e⟩; exact ⟨⟨a, b⟩, c, d, e⟩
  · rintro ⟨⟨a, b⟩, c, d, e⟩; exact ⟨a, b, c, d, e⟩
theorem lc_iff {σ σ' : HS} {n : Nat} (h : lvO σ σ' n) (day hf : Int32) : cnt (fun i => decide (atL σ' i day hf)) n = lcV (σ 9) (effS σ') day hf n :=
  cnt_cg fun j _ => decide_eq_decide.mpr (at_iff h j day hf)
theorem y_iff {σ σ' : HS} {n : Nat} (h : lvO σ σ' n) (i : Nat) (day hf : Int32) : yld σ' i day hf ↔ yV (σ 9) (fun i => σ 9 i 5) (effS σ') i day hf := by
  unfold yld yV
  rw [at_iff h, lvO_n h (i := i) (f := 5) (by decide)]
theorem tb_o {σ σ' : HS} {n : Nat} (h : lvO σ σ' n) (day : Int32) : tbC σ' day = tbC σ day := by
  unfold tbC
  rw [h.1 7 0 1 (by omega), h.1 12 1 _ (by omega), h.1 1 0 4 (by omega)]
theorem tooM : ∀ lc, lc < 101 → ∀ t, t < 7 → lc < t → nI lc - nI t + 1 ≤ 0 := by decide +kernel
theorem tooN {lc t : Nat} (h : t ≤ lc) : nI lc - nI t + 1 = nI (lc + 1 - t) := by
  rw [pk_sub h, nI_1]
  congr 1
  omega
theorem eff_up {σ σ' : HS} {n i : Nat} (h : lvO σ σ' n) (hi : i < n) : lvO σ (up3 σ' 9 i 7 1) n ∧ effS (up3 σ' 9 i 7 1) = upd (effS σ') i 1 := by
  refine ⟨⟨fun k j f hq => ?_, fun j hj => ?_⟩, ?_⟩
  · rw [up3_o (fun q => hq ⟨q.1, q.2.2, by omega⟩)]
    exact h.1 k j f hq
  · by_cases e : j = i
    · subst e; right; simp [up3]
    · rw [up3_o (fun q => e q.2.1)]; exact h.2 j hj
  · funext j
    by_cases e : j = i
    · subst e; simp [effS, up3, upd]
    · simp only [effS, upd, if_neg e]
      rw [up3_o (fun q => e q.2.1), up3_o (fun q => e q.2.1)]
def sp_X1_marksRoom : HSp := fun as w σ K => match as with
  | [.inr (.inl (1, some 0)), .inr (.inl (9, some v))] => ∃ n a b t, Bk w σ n ∧ σ 7 0 1 ≤ 60 ∧ σ 9 v 3 = nI a ∧ σ 9 v 4 = nI b ∧ a + b ≤ 12 ∧ tbC σ (σ 9 v 2) = nI t ∧ t ≤ 6 ∧ (∀ i, i < n → σ 9 i 7 = 0 ∨ σ 9 i 7 = 1) ∧ (∀ S', rms (σ 9) (fun i => σ 9 i 5) n (σ 9 v 2) t b a (effS σ) = some S' → ∀ σ', lvO σ σ' n → effS σ' = S' → K (some (HI 1)) w σ') ∧ (rms (σ 9) (fun i => σ 9 i 5) n (σ 9 v 2) t b a (effS σ) = none → ∀ σ', lvO σ σ' n → K (some (HI 0)) w σ')
  | _ => False
theorem dX1_marksRoom_0 : decode cX1_marksRoom 0 = .ok (.aload_n 0, 1) := by decide +kernel
theorem dX1_marksRoom_1 : decode cX1_marksRoom 1 = .ok (.aload_n 1, 1) := by decide +kernel
theorem dX1_marksRoom_2 : decode cX1_marksRoom 2 = .ok (.getfield 89, 3) := by decide +kernel
theorem dX1_marksRoom_5 : decode cX1_marksRoom 5 = .ok (.invokevirtual 177, 3) := by decide +kernel
theorem dX1_marksRoom_8 : decode cX1_marksRoom 8 = .ok (.istore_n 2, 1) := by decide +kernel
theorem dX1_marksRoom_9 : decode cX1_marksRoom 9 = .ok (.aload_n 1, 1) := by decide +kernel
theorem dX1_marksRoom_10 : decode cX1_marksRoom 10 = .ok (.getfield 181, 3) := by decide +kernel
theorem dX1_marksRoom_13 : decode cX1_marksRoom 13 = .ok (.istore_n 3, 1) := by decide +kernel
theorem dX1_marksRoom_14 : decode cX1_marksRoom 14 = .ok (.iload_n 3, 1) := by decide +kernel
theorem dX1_marksRoom_15 : decode cX1_marksRoom 15 = .ok (.aload_n 1, 1) := by decide +kernel
theorem dX1_marksRoom_16 : decode cX1_marksRoom 16 = .ok (.getfield 181, 3) := by decide +kernel
theorem dX1_marksRoom_19 : decode cX1_marksRoom 19 = .ok (.aload_n 1, 1) := by decide +kernel
theorem dX1_marksRoom_20 : decode cX1_marksRoom 20 = .ok (.getfield 184, 3) := by decide +kernel
theorem dX1_marksRoom_23 : decode cX1_marksRoom 23 = .ok (.iadd, 1) := by decide +kernel
theorem dX1_marksRoom_24 : decode cX1_marksRoom 24 = .ok (.if_icmp .ge 70, 3) := by decide +kernel
theorem dX1_marksRoom_27 : decode cX1_marksRoom 27 = .ok (.aload_n 0, 1) := by decide +kernel
theorem dX1_marksRoom_28 : decode cX1_marksRoom 28 = .ok (.getfield 29, 3) := by decide +kernel
theorem dX1_marksRoom_31 : decode cX1_marksRoom 31 = .ok (.aload_n 1, 1) := by decide +kernel
theorem dX1_marksRoom_32 : decode cX1_marksRoom 32 = .ok (.getfield 89, 3) := by decide +kernel
theorem dX1_marksRoom_35 : decode cX1_marksRoom 35 = .ok (.iload_n 3, 1) := by decide +kernel
theorem dX1_marksRoom_36 : decode cX1_marksRoom 36 = .ok (.invokevirtual 187, 3) := by decide +kernel
theorem dX1_marksRoom_39 : decode cX1_marksRoom 39 = .ok (.iload_n 2, 1) := by decide +kernel
theorem dX1_marksRoom_40 : decode cX1_marksRoom 40 = .ok (.isub, 1) := by decide +kernel
theorem dX1_marksRoom_41 : decode cX1_marksRoom 41 = .ok (.iconst 1, 1) := by decide +kernel
theorem dX1_marksRoom_42 : decode cX1_marksRoom 42 = .ok (.iadd, 1) := by decide +kernel
theorem dX1_marksRoom_43 : decode cX1_marksRoom 43 = .ok (.istore 4, 2) := by decide +kernel
theorem dX1_marksRoom_45 : decode cX1_marksRoom 45 = .ok (.iconst 0, 1) := by decide +kernel
theorem dX1_marksRoom_46 : decode cX1_marksRoom 46 = .ok (.istore 5, 2) := by decide +kernel
theorem dX1_marksRoom_48 : decode cX1_marksRoom 48 = .ok (.iload 5, 2) := by decide +kernel
theorem dX1_marksRoom_50 : decode cX1_marksRoom 50 = .ok (.iload 4, 2) := by decide +kernel
theorem dX1_marksRoom_52 : decode cX1_marksRoom 52 = .ok (.if_icmp .ge 36, 3) := by decide +kernel
theorem dX1_marksRoom_55 : decode cX1_marksRoom 55 = .ok (.aload_n 0, 1) := by decide +kernel
theorem dX1_marksRoom_56 : decode cX1_marksRoom 56 = .ok (.getfield 29, 3) := by decide +kernel
theorem dX1_marksRoom_59 : decode cX1_marksRoom 59 = .ok (.aload_n 1, 1) := by decide +kernel
theorem dX1_marksRoom_60 : decode cX1_marksRoom 60 = .ok (.getfield 89, 3) := by decide +kernel
theorem dX1_marksRoom_63 : decode cX1_marksRoom 63 = .ok (.iload_n 3, 1) := by decide +kernel
theorem dX1_marksRoom_64 : decode cX1_marksRoom 64 = .ok (.invokevirtual 199, 3) := by decide +kernel
theorem dX1_marksRoom_67 : decode cX1_marksRoom 67 = .ok (.astore 6, 2) := by decide +kernel
theorem dX1_marksRoom_69 : decode cX1_marksRoom 69 = .ok (.aload 6, 2) := by decide +kernel
theorem dX1_marksRoom_71 : decode cX1_marksRoom 71 = .ok (.ifnonnull 5, 3) := by decide +kernel
theorem dX1_marksRoom_74 : decode cX1_marksRoom 74 = .ok (.iconst 0, 1) := by decide +kernel
theorem dX1_marksRoom_75 : decode cX1_marksRoom 75 = .ok (.ireturn, 1) := by decide +kernel
theorem dX1_marksRoom_76 : decode cX1_marksRoom 76 = .ok (.aload 6, 2) := by decide +kernel
theorem dX1_marksRoom_78 : decode cX1_marksRoom 78 = .ok (.iconst 1, 1) := by decide +kernel
theorem dX1_marksRoom_79 : decode cX1_marksRoom 79 = .ok (.putfield 203, 3) := by decide +kernel
theorem dX1_marksRoom_82 : decode cX1_marksRoom 82 = .ok (.iinc 5 1, 3) := by decide +kernel
theorem dX1_marksRoom_85 : decode cX1_marksRoom 85 = .ok (.goto (-37), 3) := by decide +kernel
theorem dX1_marksRoom_88 : decode cX1_marksRoom 88 = .ok (.iinc 3 1, 3) := by decide +kernel
theorem dX1_marksRoom_91 : decode cX1_marksRoom 91 = .ok (.goto (-77), 3) := by decide +kernel
theorem dX1_marksRoom_94 : decode cX1_marksRoom 94 = .ok (.iconst 1, 1) := by decide +kernel
theorem dX1_marksRoom_95 : decode cX1_marksRoom 95 = .ok (.ireturn, 1) := by decide +kernel
def ins_X1_marksRoom (pc : Nat) : HOp := cond (Nat.blt pc 43) (cond (Nat.blt pc 20) (cond (Nat.blt pc 10) (cond (Nat.blt pc 5) (cond (Nat.blt pc 1) (cond (Nat.beq pc 0) (o_aload 0 1) o_bad) (cond (Nat.blt pc 2) (cond (Nat.beq pc 1) (o_aload 1 2) o_bad) (cond (Nat.beq pc 2) (o_getf 9 2 5) o_bad))) (cond (Nat.blt pc 8) (cond (Nat.beq pc 5) (o_callV 2 1 sp_X1_tablesOn 8) o_bad) (cond (Nat.blt pc 9) (cond (Nat.beq pc 8) (o_istore 2 9) o_bad) (cond (Nat.beq pc 9) (o_aload 1 10) o_bad)))) (cond (Nat.blt pc 15) (cond (Nat.blt pc 13) (cond (Nat.beq pc 10) (o_getf 9 3 13) o_bad) (cond (Nat.blt pc 14) (cond (Nat.beq pc 13) (o_istore 3 14) o_bad) (cond (Nat.beq pc 14) (o_iload 3 15) o_bad))) (cond (Nat.blt pc 16) (cond (Nat.beq pc 15) (o_aload 1 16) o_bad) (cond (Nat.blt pc 19) (cond (Nat.beq pc 16) (o_getf 9 3 19) o_bad) (cond (Nat.beq pc 19) (o_aload 1 20) o_bad))))) (cond (Nat.blt pc 32) (cond (Nat.blt pc 27) (cond (Nat.blt pc 23) (cond (Nat.beq pc 20) (o_getf 9 4 23) o_bad) (cond (Nat.blt pc 24) (cond (Nat.beq pc 23) (o_bin (fun x y => x + y) 24) o_bad) (cond (Nat.beq pc 24) (o_icmp (fun x y => y ≤ x) 94 27) o_bad))) (cond (Nat.blt pc 28) (cond (Nat.beq pc 27) (o_aload 0 28) o_bad) (cond (Nat.blt pc 31) (cond (Nat.beq pc 28) (o_getf 1 2 31) o_bad) (cond (Nat.beq pc 31) (o_aload 1 32) o_bad)))) (cond (Nat.blt pc 39) (cond (Nat.blt pc 35) (cond (Nat.beq pc 32) (o_getf 9 2 35) o_bad) (cond (Nat.blt pc 36) (cond (Nat.beq pc 35) (o_iload 3 36) o_bad) (cond (Nat.beq pc 36) (o_callV 3 0 sp_X0_letAt 39) o_bad))) (cond (Nat.blt pc 41) (cond (Nat.blt pc 40) (cond (Nat.beq pc 39) (o_iload 2 40) o_bad) (cond (Nat.beq pc 40) (o_bin (fun x y => x - y) 41) o_bad)) (cond (Nat.blt pc 42) (cond (Nat.beq pc 41) (o_const (1) 42) o_bad) (cond (Nat.beq pc 42) (o_bin (fun x y => x + y) 43) o_bad)))))) (cond (Nat.blt pc 69) (cond (Nat.blt pc 55) (cond (Nat.blt pc 48) (cond (Nat.blt pc 45) (cond (Nat.beq pc 43) (o_istore 4 45) o_bad) (cond (Nat.blt pc 46) (cond (Nat.beq pc 45) (o_const (0) 46) o_bad) (cond (Nat.beq pc 46) (o_istore 5 48) o_bad))) (cond (Nat.blt pc 50) (cond (Nat.beq pc 48) (o_iload 5 50) o_bad) (cond (Nat.blt pc 52) (cond (Nat.beq pc 50) (o_iload 4 52) o_bad) (cond (Nat.beq pc 52) (o_icmp (fun x y => y ≤ x) 88 55) o_bad)))) (cond (Nat.blt pc 60) (cond (Nat.blt pc 56) (cond (Nat.beq pc 55) (o_aload 0 56) o_bad) (cond (Nat.blt pc 59) (cond (Nat.beq pc 56) (o_getf 1 2 59) o_bad) (cond (Nat.beq pc 59) (o_aload 1 60) o_bad))) (cond (Nat.blt pc 64) (cond (Nat.blt pc 63) (cond (Nat.beq pc 60) (o_getf 9 2 63) o_bad) (cond (Nat.beq pc 63) (o_iload 3 64) o_bad)) (cond (Nat.blt pc 67) (cond (Nat.beq pc 64) (o_callV 3 0 sp_X0_lastThatYields 67) o_bad) (cond (Nat.beq pc 67) (o_astore 6 69) o_bad))))) (cond (Nat.blt pc 79) (cond (Nat.blt pc 75) (cond (Nat.blt pc 71) (cond (Nat.beq pc 69) (o_aload 6 71) o_bad) (cond (Nat.blt pc 74) (cond (Nat.beq pc 71) (o_ifnull 74 76) o_bad) (cond (Nat.beq pc 74) (o_const (0) 75) o_bad))) (cond (Nat.blt pc 76) (cond (Nat.beq pc 75) (o_zret) o_bad) (cond (Nat.blt pc 78) (cond (Nat.beq pc 76) (o_aload 6 78) o_bad) (cond (Nat.beq pc 78) (o_const (1) 79) o_bad)))) (cond (Nat.blt pc 88) (cond (Nat.blt pc 82) (cond (Nat.beq pc 79) (o_putz 9 7 82) o_bad) (cond (Nat.blt pc 85) (cond (Nat.beq pc 82) (o_iinc 5 (1) 85) o_bad) (cond (Nat.beq pc 85) (o_goto 48) o_bad))) (cond (Nat.blt pc 94) (cond (Nat.blt pc 91) (cond (Nat.beq pc 88) (o_iinc 3 (1) 91) o_bad) (cond (Nat.beq pc 91) (o_goto 14) o_bad)) (cond (Nat.blt pc 95) (cond (Nat.beq pc 94) (o_const (1) 95) o_bad) (cond (Nat.beq pc 95) (o_zret) o_bad))))))
set_option maxRecDepth 20000 in
theorem ok_X1_marksRoom : HOKs cX1_marksRoom RX1 7 (some .boolean) 4 ins_X1_marksRoom := fun _ => hnd (hnd (hnd (hnd (hnd (hlf (ok_aload_n dX1_marksRoom_0 rfl rfl)) (hnd (hlf (ok_aload_n dX1_marksRoom_1 rfl rfl)) (hlf (ok_getfN (C := RX9) (T := TX9) dX1_marksRoom_2 rfl rfl (by decide) rfl inX9 wd_246 rfl)))) (hnd (hlf (ok_callV (y := yX1_tablesOn) (n' := 1) (C := RX1) (T := TX1) dX1_marksRoom_5 ct_X1_tablesOn (by decide) (by decide) wd_495 wd_492 wd_493 wd_494 wd_47 rfl (by decide +kernel) rfl rfl rfl)) (hnd (hlf (ok_istore_n dX1_marksRoom_8 rfl (by decide) rfl)) (hlf (ok_aload_n dX1_marksRoom_9 rfl rfl))))) (hnd (hnd (hlf (ok_getfN (C := RX9) (T := TX9) dX1_marksRoom_10 rfl rfl (by decide) rfl inX9 wd_250 rfl)) (hnd (hlf (ok_istore_n dX1_marksRoom_13 rfl (by decide) rfl)) (hlf (ok_iload_n dX1_marksRoom_14 rfl rfl)))) (hnd (hlf (ok_aload_n dX1_marksRoom_15 rfl rfl)) (hnd (hlf (ok_getfN (C := RX9) (T := TX9) dX1_marksRoom_16 rfl rfl (by decide) rfl inX9 wd_250 rfl)) (hlf (ok_aload_n dX1_marksRoom_19 rfl rfl)))))) (hnd (hnd (hnd (hlf (ok_getfN (C := RX9) (T := TX9) dX1_marksRoom_20 rfl rfl (by decide) rfl inX9 wd_254 rfl)) (hnd (hlf (ok_iadd dX1_marksRoom_23 rfl)) (hlf (ok_icmp_ge dX1_marksRoom_24 (by decide) rfl)))) (hnd (hlf (ok_aload_n dX1_marksRoom_27 rfl rfl)) (hnd (hlf (ok_getf (C := RX1) (T := TX1) dX1_marksRoom_28 rfl rfl (by decide) rfl inX1 wd_187 rfl)) (hlf (ok_aload_n dX1_marksRoom_31 rfl rfl))))) (hnd (hnd (hlf (ok_getfN (C := RX9) (T := TX9) dX1_marksRoom_32 rfl rfl (by decide) rfl inX9 wd_246 rfl)) (hnd (hlf (ok_iload_n dX1_marksRoom_35 rfl rfl)) (hlf (ok_callV (y := yX0_letAt) (n' := 2) (C := RX0) (T := TX0) dX1_marksRoom_36 ct_X0_letAt (by decide) (by decide) wd_504 wd_501 wd_502 wd_503 wd_45 rfl (by decide +kernel) rfl rfl rfl)))) (hnd (hnd (hlf (ok_iload_n dX1_marksRoom_39 rfl rfl)) (hlf (ok_isub dX1_marksRoom_40 rfl))) (hnd (hlf (ok_iconst dX1_marksRoom_41 (by decide) rfl)) (hlf (ok_iadd dX1_marksRoom_42 rfl))))))) (hnd (hnd (hnd (hnd (hlf (ok_istore dX1_marksRoom_43 (by decide) rfl)) (hnd (hlf (ok_iconst dX1_marksRoom_45 (by decide) rfl)) (hlf (ok_istore dX1_marksRoom_46 (by decide) rfl)))) (hnd (hlf (ok_iload dX1_marksRoom_48 rfl)) (hnd (hlf (ok_iload dX1_marksRoom_50 rfl)) (hlf (ok_icmp_ge dX1_marksRoom_52 (by decide) rfl))))) (hnd (hnd (hlf (ok_aload_n dX1_marksRoom_55 rfl rfl)) (hnd (hlf (ok_getf (C := RX1) (T := TX1) dX1_marksRoom_56 rfl rfl (by decide) rfl inX1 wd_187 rfl)) (hlf (ok_aload_n dX1_marksRoom_59 rfl rfl)))) (hnd (hnd (hlf (ok_getfN (C := RX9) (T := TX9) dX1_marksRoom_60 rfl rfl (by decide) rfl inX9 wd_246 rfl)) (hlf (ok_iload_n dX1_marksRoom_63 rfl rfl))) (hnd (hlf (ok_callV (y := yX0_lastThatYields) (n' := 2) (C := RX0) (T := TX0) dX1_marksRoom_64 ct_X0_lastThatYields (by decide) (by decide) wd_516 wd_513 wd_514 wd_515 wd_45 rfl (by decide +kernel) rfl rfl rfl)) (hlf (ok_astore dX1_marksRoom_67 (by decide) rfl)))))) (hnd (hnd (hnd (hlf (ok_aload dX1_marksRoom_69 rfl)) (hnd (hlf (ok_ifnonnull dX1_marksRoom_71 (by decide) rfl)) (hlf (ok_iconst dX1_marksRoom_74 (by decide) rfl)))) (hnd (hlf (ok_zret dX1_marksRoom_75)) (hnd (hlf (ok_aload dX1_marksRoom_76 rfl)) (hlf (ok_iconst dX1_marksRoom_78 (by decide) rfl))))) (hnd (hnd (hlf (ok_putzN (C := RX9) (T := TX9) dX1_marksRoom_79 rfl rfl (by decide) rfl inX9 tyX9_ok nmX9 rfl rfl (fun _ _ => rfl) wd_267 rfl)) (hnd (hlf (ok_iinc dX1_marksRoom_82 (by decide) (by decide) rfl)) (hlf (ok_goto dX1_marksRoom_85 (by decide))))) (hnd (hnd (hlf (ok_iinc dX1_marksRoom_88 (by decide) (by decide) rfl)) (hlf (ok_goto dX1_marksRoom_91 (by decide)))) (hnd (hlf (ok_iconst dX1_marksRoom_94 (by decide) rfl)) (hlf (ok_zret dX1_marksRoom_95)))))))

theorem vc_X1_marksRoom : MVC ins_X1_marksRoom 7 2 sp_X1_marksRoom := by
  intro as w σ q hl hs
  unfold sp_X1_marksRoom at hs
  split at hs
  rotate_left
  · exact hs.elim
  rename_i v
  obtain ⟨n, a, b, t, hB, hz, ha, hb, hab, ht, ht6, hl7, hy, hno⟩ := hs
  have hn := hB.1
  obtain ⟨RR, hRR⟩ : ∃ R, R = rms (σ 9) (fun i => σ 9 i 5) n (σ 9 v 2) t b a (effS σ) := ⟨_, rfl⟩
  rw [← hRR] at hy hno
  have hBk : ∀ σ', lvO σ σ' n → Bk w σ' n := fun σ' h => ⟨hB.1, by rw [h.1 0 0 1 (by omega)]; exact hB.2.1, hB.2.2⟩
  refine ⟨fun pc => Nat.beq pc 14 || Nat.beq pc 48, fun pc N ls st w' σ' =>
    (pc = 14 ∧ ∃ (h : Nat) (x : Int32) (o4 o5 o6 : Option HV), a ≤ h ∧ h ≤ a + b ∧ N = (a + b - h) * 1000 + 999 ∧ x = nI h ∧ lvO σ σ' n ∧ rms (σ 9) (fun i => σ 9 i 5) n (σ 9 v 2) t (a + b - h) h (effS σ') = RR ∧ ls = [some (HR 1 0), some (HR 9 v), some (HI (nI t)), some (HI x), o4, o5, o6] ∧ st = [] ∧ w = w') ∨
    (pc = 48 ∧ ∃ (h c N0 : Nat) (x z y : Int32) (o6 : Option HV), a ≤ h ∧ h < a + b ∧ N0 ≤ 101 ∧ c ≤ N0 ∧ N = (a + b - h) * 1000 + (N0 - c) ∧ x = nI h ∧ (z = nI N0 ∨ (N0 = 0 ∧ z ≤ 0)) ∧ y = nI c ∧ lvO σ σ' n ∧ ((clr (σ 9) (fun i => σ 9 i 5) n (σ 9 v 2) (nI h) (N0 - c) (effS σ')).bind fun S' => rms (σ 9) (fun i => σ 9 i 5) n (σ 9 v 2) t (a + b - (h + 1)) (h + 1) S') = RR ∧ ls = [some (HR 1 0), some (HR 9 v), some (HI (nI t)), some (HI x), some (HI z), some (HI y), o6] ∧ st = [] ∧ w = w'), 80, 80, ?_, ?_⟩
  · rintro N pc ls st w' σ' hh (⟨rfl, h, x, o4, o5, o6, hah, hhb, rfl, rfl, hO, hR, rfl, rfl, rfl⟩ | ⟨rfl, h, c, N0, x, z, y, o6, hah, hhb, hN0, hc, rfl, rfl, hz0, rfl, hO, hR, rfl, rfl, rfl⟩)
    · have e3 : σ' 9 v 3 = nI a := by rw [lvO_n hO (by decide)]; exact ha
      have e4 : σ' 9 v 4 = nI b := by rw [lvO_n hO (by decide)]; exact hb
      have e2 : σ' 9 v 2 = σ 9 v 2 := lvO_n hO (by decide)
      have e : σ' 9 v 3 + σ' 9 v 4 = nI (a + b) := by rw [e3, e4]; exact nI_add a b
      apply br2
      · intro h1
        obtain rfl := lp_end e hhb h1
        rw [Nat.sub_self] at hR
        exact ⟨Or.inr rfl, hy _ hR.symm σ' hO rfl⟩
      · intro h1
        have hlt := lp_go e hhb h1
        refine ⟨n, hBk σ' hO, ?_⟩
        have hlc : cnt (fun i => decide (atL σ' i (σ' 9 v 2) (nI h))) n = lcV (σ 9) (effS σ') (σ 9 v 2) (nI h) n := by rw [e2]; exact lc_iff hO _ _
        have hle : lcV (σ 9) (effS σ') (σ 9 v 2) (nI h) n ≤ 100 := Nat.le_trans (cnt_le _ _) hn
        refine ⟨(a + b - h) * 1000 + (lcV (σ 9) (effS σ') (σ 9 v 2) (nI h) n + 1 - t - 0), by omega, Or.inr ⟨rfl, h, 0, lcV (σ 9) (effS σ') (σ 9 v 2) (nI h) n + 1 - t, _, _, _, _, hah, hlt, by omega, Nat.zero_le _, rfl, rfl, ?_, rfl, hO, ?_, rfl, rfl, rfl⟩⟩
        · rw [hlc]
          by_cases c : t ≤ lcV (σ 9) (effS σ') (σ 9 v 2) (nI h) n
          · exact Or.inl (tooN c)
          · exact Or.inr ⟨by omega, tooM _ (by omega) _ (by omega) (by omega)⟩
        · rw [Nat.sub_zero, ← hR]
          obtain ⟨k, hk⟩ : ∃ k, a + b - h = k + 1 := ⟨a + b - h - 1, by omega⟩
          rw [hk]
          have : a + b - (h + 1) = k := by omega
          rw [this]
          rfl
    · have e2 : σ' 9 v 2 = σ 9 v 2 := lvO_n hO (by decide)
      apply br2
      · intro h1
        have h1 : z ≤ nI c := h1
        have hcN : N0 - c = 0 := by
          rcases hz0 with e | ⟨e, _⟩
          · have := lp_end e hc h1
            omega
          · omega
        rw [hcN] at hR
        refine ⟨(a + b - (h + 1)) * 1000 + 999, by omega, Or.inl ⟨rfl, h + 1, _, _, _, _, by omega, hhb, rfl, nI_1 h, hO, hR, rfl, rfl, rfl⟩⟩
      · intro h1
        have h1 : ¬ z ≤ nI c := h1
        have hcN : c < N0 := by
          rcases hz0 with e | ⟨e, e2⟩
          · exact lp_go e hc h1
          · exact absurd (Int32.le_trans e2 (nI_pos' (by omega))) h1
        have hk : N0 - c = (N0 - (c + 1)) + 1 := by omega
        rw [hk] at hR
        refine ⟨n, hBk σ' hO, ?_, ?_⟩
        · intro i hi hyi hno2
          have hY : lastY (fun i => decide (yV (σ 9) (fun i => σ 9 i 5) (effS σ') i (σ 9 v 2) (nI h))) n = some i :=
            lastY_some hi (decide_eq_true ((y_iff hO i _ _).mp (e2 ▸ hyi))) (fun j h1 h2 => decide_eq_false fun q => hno2 j h1 h2 (e2.symm ▸ (y_iff hO j _ _).mpr q))
          unfold clr at hR
          rw [hY] at hR
          obtain ⟨g1, g2⟩ := eff_up hO hi
          refine And.intro (Or.inr rfl) ?_
          refine ⟨(a + b - h) * 1000 + (N0 - (c + 1)), by omega, Or.inr ⟨rfl, h, c + 1, N0, _, _, _, _, hah, hhb, hN0, hcN, rfl, rfl, hz0, nI_1 c, g1, ?_, rfl, rfl, rfl⟩⟩
          rw [g2]
          exact hR
        · intro hno2
          have hY : lastY (fun i => decide (yV (σ 9) (fun i => σ 9 i 5) (effS σ') i (σ 9 v 2) (nI h))) n = none :=
            lastY_none (fun j h1 => decide_eq_false fun q => hno2 j h1 (e2.symm ▸ (y_iff hO j _ _).mpr q))
          unfold clr at hR
          rw [hY] at hR
          exact ⟨Or.inl rfl, hno hR.symm σ' hO⟩
  · refine ⟨hz, ?_⟩
    have hO : lvO σ σ n := ⟨fun _ _ _ _ => rfl, hl7⟩
    refine ⟨_, Or.inl ⟨rfl, a, _, none, none, none, Nat.le_refl _, by omega, rfl, ha, hO, ?_, ?_, rfl, rfl⟩⟩
    · have : a + b - a = b := by omega
      rw [this, hRR]
    · rw [ht]; rfl
theorem ct_X1_marksRoom : Ctr yX1_marksRoom cX1_marksRoom 7 (some .boolean) 4 0 0 2 sp_X1_marksRoom := ctr_of (by decide +kernel) rfl (by decide) ok_X1_marksRoom vc_X1_marksRoom

