/-! Reading a right: words for both sides, and the reference's reader -/
def run (p : Nat → Bool) : Nat → Nat → Nat
  | 0, i => i
  | k + 1, i => if p i = true then run p k (i + 1) else i
theorem run_le (p : Nat → Bool) : ∀ k i, i ≤ run p k i ∧ run p k i ≤ i + k
  | 0, i => ⟨Nat.le_refl _, Nat.le_refl _⟩
  | k + 1, i => by
    have := run_le p k (i + 1)
    unfold run
    split <;> omega
theorem run_end (p : Nat → Bool) : ∀ k i, run p k i = i + k ∨ p (run p k i) = false
  | 0, i => Or.inl rfl
  | k + 1, i => by
    unfold run
    split
    · rcases run_end p k (i + 1) with h | h
      · left; omega
      · exact Or.inr h
    · rename_i h; right; simpa using h
theorem run_y {p : Nat → Bool} {z i : Nat} (hi : i < z) (h : p i = true) : run p (z - i) i = run p (z - (i + 1)) (i + 1) := by
  obtain ⟨k, hk⟩ : ∃ k, z - i = k + 1 := ⟨z - i - 1, by omega⟩
  rw [hk, show z - (i + 1) = k from by omega]
  show (if p i = true then run p k (i + 1) else i) = _
  rw [if_pos h]
theorem run_n {p : Nat → Bool} {z i : Nat} (hi : i < z) (h : p i = false) : run p (z - i) i = i := by
  obtain ⟨k, hk⟩ : ∃ k, z - i = k + 1 := ⟨z - i - 1, by omega⟩
  rw [hk]
  show (if p i = true then run p k (i + 1) else i) = _
  rw [if_neg (by rw [h]; decide)]
theorem run_z {p : Nat → Bool} {z : Nat} : run p (z - z) z = z := by
  rw [Nat.sub_self]; rfl
/-- where the next word begins and ends -/
def wA (T : Nat → Int32) (z e : Nat) : Nat := run (fun j => decide (T j = 32)) (z - e) e
def wE (T : Nat → Int32) (z a : Nat) : Nat := run (fun j => decide (¬ T j = 32)) (z - a) a
theorem wA_le {T : Nat → Int32} {z e : Nat} (h : e ≤ z) : e ≤ wA T z e ∧ wA T z e ≤ z := by
  have := run_le (fun j => decide (T j = 32)) (z - e) e
  unfold wA
  omega
theorem wE_le {T : Nat → Int32} {z e : Nat} (h : e ≤ z) : e ≤ wE T z e ∧ wE T z e ≤ z := by
  have := run_le (fun j => decide (¬ T j = 32)) (z - e) e
  unfold wE
  omega
theorem wE_lt {T : Nat → Int32} {z e : Nat} (h : e ≤ z) (h2 : wE T z (wA T z e) = wA T z e) : wA T z e = z := by
  have h3 := wA_le (T := T) h
  rcases Nat.lt_or_ge (wA T z e) z with q | q
  · exfalso
    have h4 := run_end (fun j => decide (T j = 32)) (z - e) e
    rcases h4 with h4 | h4
    · unfold wA at q; omega
    · have h5 : ¬ T (wA T z e) = 32 := by
        have := of_decide_eq_false h4
        exact this
      have h6 : wE T z (wA T z e) = wE T z (wA T z e + 1) := run_y q (decide_eq_true h5)
      have h7 := wE_le (T := T) (z := z) (e := wA T z e + 1) (by omega)
      omega
  · omega
def nxS (σ : HS) (a b : Nat) : HS := up3 (up3 (up3 σ 11 0 33 (nI b)) 11 0 34 (nI a)) 11 0 35 (nI (b - a))
def sp_X11_next : HSp := fun as w σ K => match as with
  | [.inr (.inl (11, some 0))] => ∃ e z, e ≤ z ∧ z ≤ 60 ∧ σ 11 0 33 = nI e ∧ σ 11 0 20 = nI z ∧ K none w (nxS σ (wA (σ 20 15) z e) (wE (σ 20 15) z (wA (σ 20 15) z e)))
  | _ => False
theorem up3_2 {σ : HS} {k i f : Nat} {x y : Int32} : up3 (up3 σ k i f x) k i f y = up3 σ k i f y := by
  funext a b c
  simp only [up3]
  split <;> rfl
theorem up3_cm {σ : HS} {k i f g : Nat} {x y : Int32} (h : f ≠ g) : up3 (up3 σ k i f x) k i g y = up3 (up3 σ k i g y) k i f x := by
  funext a b c
  simp only [up3]
  grind
theorem up3_v {σ : HS} {k i f : Nat} {x : Int32} : up3 σ k i f x k i f = x := by simp [up3]
theorem up3_id {σ : HS} {k i f : Nat} {x : Int32} (h : σ k i f = x) : up3 σ k i f x = σ := by
  funext a b c
  simp only [up3]
  split
  · rename_i q; rw [q.1, q.2.1, q.2.2, h]
  · rfl
theorem dX11_next_0 : decode cX11_next 0 = .ok (.aload_n 0, 1) := by decide +kernel
theorem dX11_next_1 : decode cX11_next 1 = .ok (.getfield 140, 3) := by decide +kernel
theorem dX11_next_4 : decode cX11_next 4 = .ok (.aload_n 0, 1) := by decide +kernel
theorem dX11_next_5 : decode cX11_next 5 = .ok (.getfield 133, 3) := by decide +kernel
theorem dX11_next_8 : decode cX11_next 8 = .ok (.if_icmp .ge 30, 3) := by decide +kernel
theorem dX11_next_11 : decode cX11_next 11 = .ok (.aload_n 0, 1) := by decide +kernel
theorem dX11_next_12 : decode cX11_next 12 = .ok (.getfield 59, 3) := by decide +kernel
theorem dX11_next_15 : decode cX11_next 15 = .ok (.aload_n 0, 1) := by decide +kernel
theorem dX11_next_16 : decode cX11_next 16 = .ok (.getfield 140, 3) := by decide +kernel
theorem dX11_next_19 : decode cX11_next 19 = .ok (.iaload, 1) := by decide +kernel
theorem dX11_next_20 : decode cX11_next 20 = .ok (.bipush 32, 2) := by decide +kernel
theorem dX11_next_22 : decode cX11_next 22 = .ok (.if_icmp .ne 16, 3) := by decide +kernel
theorem dX11_next_25 : decode cX11_next 25 = .ok (.aload_n 0, 1) := by decide +kernel
theorem dX11_next_26 : decode cX11_next 26 = .ok (.dup, 1) := by decide +kernel
theorem dX11_next_27 : decode cX11_next 27 = .ok (.getfield 140, 3) := by decide +kernel
theorem dX11_next_30 : decode cX11_next 30 = .ok (.iconst 1, 1) := by decide +kernel
theorem dX11_next_31 : decode cX11_next 31 = .ok (.iadd, 1) := by decide +kernel
theorem dX11_next_32 : decode cX11_next 32 = .ok (.putfield 140, 3) := by decide +kernel
theorem dX11_next_35 : decode cX11_next 35 = .ok (.goto (-35), 3) := by decide +kernel
theorem dX11_next_38 : decode cX11_next 38 = .ok (.aload_n 0, 1) := by decide +kernel
theorem dX11_next_39 : decode cX11_next 39 = .ok (.aload_n 0, 1) := by decide +kernel
theorem dX11_next_40 : decode cX11_next 40 = .ok (.getfield 140, 3) := by decide +kernel
theorem dX11_next_43 : decode cX11_next 43 = .ok (.putfield 143, 3) := by decide +kernel
theorem dX11_next_46 : decode cX11_next 46 = .ok (.aload_n 0, 1) := by decide +kernel
theorem dX11_next_47 : decode cX11_next 47 = .ok (.getfield 140, 3) := by decide +kernel
theorem dX11_next_50 : decode cX11_next 50 = .ok (.aload_n 0, 1) := by decide +kernel
theorem dX11_next_51 : decode cX11_next 51 = .ok (.getfield 133, 3) := by decide +kernel
theorem dX11_next_54 : decode cX11_next 54 = .ok (.if_icmp .ge 30, 3) := by decide +kernel
theorem dX11_next_57 : decode cX11_next 57 = .ok (.aload_n 0, 1) := by decide +kernel
theorem dX11_next_58 : decode cX11_next 58 = .ok (.getfield 59, 3) := by decide +kernel
theorem dX11_next_61 : decode cX11_next 61 = .ok (.aload_n 0, 1) := by decide +kernel
theorem dX11_next_62 : decode cX11_next 62 = .ok (.getfield 140, 3) := by decide +kernel
theorem dX11_next_65 : decode cX11_next 65 = .ok (.iaload, 1) := by decide +kernel
theorem dX11_next_66 : decode cX11_next 66 = .ok (.bipush 32, 2) := by decide +kernel
theorem dX11_next_68 : decode cX11_next 68 = .ok (.if_icmp .eq 16, 3) := by decide +kernel
theorem dX11_next_71 : decode cX11_next 71 = .ok (.aload_n 0, 1) := by decide +kernel
theorem dX11_next_72 : decode cX11_next 72 = .ok (.dup, 1) := by decide +kernel
theorem dX11_next_73 : decode cX11_next 73 = .ok (.getfield 140, 3) := by decide +kernel
theorem dX11_next_76 : decode cX11_next 76 = .ok (.iconst 1, 1) := by decide +kernel
theorem dX11_next_77 : decode cX11_next 77 = .ok (.iadd, 1) := by decide +kernel
theorem dX11_next_78 : decode cX11_next 78 = .ok (.putfield 140, 3) := by decide +kernel
theorem dX11_next_81 : decode cX11_next 81 = .ok (.goto (-35), 3) := by decide +kernel
theorem dX11_next_84 : decode cX11_next 84 = .ok (.aload_n 0, 1) := by decide +kernel
theorem dX11_next_85 : decode cX11_next 85 = .ok (.aload_n 0, 1) := by decide +kernel
theorem dX11_next_86 : decode cX11_next 86 = .ok (.getfield 140, 3) := by decide +kernel
theorem dX11_next_89 : decode cX11_next 89 = .ok (.aload_n 0, 1) := by decide +kernel
theorem dX11_next_90 : decode cX11_next 90 = .ok (.getfield 143, 3) := by decide +kernel
theorem dX11_next_93 : decode cX11_next 93 = .ok (.isub, 1) := by decide +kernel
theorem dX11_next_94 : decode cX11_next 94 = .ok (.putfield 146, 3) := by decide +kernel
theorem dX11_next_97 : decode cX11_next 97 = .ok (.return_, 1) := by decide +kernel
def ins_X11_next (pc : Nat) : HOp := cond (Nat.blt pc 50) (cond (Nat.blt pc 25) (cond (Nat.blt pc 12) (cond (Nat.blt pc 5) (cond (Nat.blt pc 1) (cond (Nat.beq pc 0) (o_aload 0 1) o_bad) (cond (Nat.blt pc 4) (cond (Nat.beq pc 1) (o_getf 11 33 4) o_bad) (cond (Nat.beq pc 4) (o_aload 0 5) o_bad))) (cond (Nat.blt pc 8) (cond (Nat.beq pc 5) (o_getf 11 20 8) o_bad) (cond (Nat.blt pc 11) (cond (Nat.beq pc 8) (o_icmp (fun x y => y ≤ x) 38 11) o_bad) (cond (Nat.beq pc 11) (o_aload 0 12) o_bad)))) (cond (Nat.blt pc 19) (cond (Nat.blt pc 15) (cond (Nat.beq pc 12) (o_getf 11 19 15) o_bad) (cond (Nat.blt pc 16) (cond (Nat.beq pc 15) (o_aload 0 16) o_bad) (cond (Nat.beq pc 16) (o_getf 11 33 19) o_bad))) (cond (Nat.blt pc 20) (cond (Nat.beq pc 19) (o_iald 20) o_bad) (cond (Nat.blt pc 22) (cond (Nat.beq pc 20) (o_const (32) 22) o_bad) (cond (Nat.beq pc 22) (o_icmp (fun x y => x = y) 25 38) o_bad))))) (cond (Nat.blt pc 35) (cond (Nat.blt pc 30) (cond (Nat.blt pc 26) (cond (Nat.beq pc 25) (o_aload 0 26) o_bad) (cond (Nat.blt pc 27) (cond (Nat.beq pc 26) (o_dup 27) o_bad) (cond (Nat.beq pc 27) (o_getf 11 33 30) o_bad))) (cond (Nat.blt pc 31) (cond (Nat.beq pc 30) (o_const (1) 31) o_bad) (cond (Nat.blt pc 32) (cond (Nat.beq pc 31) (o_bin (fun x y => x + y) 32) o_bad) (cond (Nat.beq pc 32) (o_putf 11 33 35) o_bad)))) (cond (Nat.blt pc 40) (cond (Nat.blt pc 38) (cond (Nat.beq pc 35) (o_goto 0) o_bad) (cond (Nat.blt pc 39) (cond (Nat.beq pc 38) (o_aload 0 39) o_bad) (cond (Nat.beq pc 39) (o_aload 0 40) o_bad))) (cond (Nat.blt pc 46) (cond (Nat.blt pc 43) (cond (Nat.beq pc 40) (o_getf 11 33 43) o_bad) (cond (Nat.beq pc 43) (o_putf 11 34 46) o_bad)) (cond (Nat.blt pc 47) (cond (Nat.beq pc 46) (o_aload 0 47) o_bad) (cond (Nat.beq pc 47) (o_getf 11 33 50) o_bad)))))) (cond (Nat.blt pc 73) (cond (Nat.blt pc 62) (cond (Nat.blt pc 57) (cond (Nat.blt pc 51) (cond (Nat.beq pc 50) (o_aload 0 51) o_bad) (cond (Nat.blt pc 54) (cond (Nat.beq pc 51) (o_getf 11 20 54) o_bad) (cond (Nat.beq pc 54) (o_icmp (fun x y => y ≤ x) 84 57) o_bad))) (cond (Nat.blt pc 58) (cond (Nat.beq pc 57) (o_aload 0 58) o_bad) (cond (Nat.blt pc 61) (cond (Nat.beq pc 58) (o_getf 11 19 61) o_bad) (cond (Nat.beq pc 61) (o_aload 0 62) o_bad)))) (cond (Nat.blt pc 68) (cond (Nat.blt pc 65) (cond (Nat.beq pc 62) (o_getf 11 33 65) o_bad) (cond (Nat.blt pc 66) (cond (Nat.beq pc 65) (o_iald 66) o_bad) (cond (Nat.beq pc 66) (o_const (32) 68) o_bad))) (cond (Nat.blt pc 71) (cond (Nat.beq pc 68) (o_icmp (fun x y => x = y) 84 71) o_bad) (cond (Nat.blt pc 72) (cond (Nat.beq pc 71) (o_aload 0 72) o_bad) (cond (Nat.beq pc 72) (o_dup 73) o_bad))))) (cond (Nat.blt pc 85) (cond (Nat.blt pc 78) (cond (Nat.blt pc 76) (cond (Nat.beq pc 73) (o_getf 11 33 76) o_bad) (cond (Nat.blt pc 77) (cond (Nat.beq pc 76) (o_const (1) 77) o_bad) (cond (Nat.beq pc 77) (o_bin (fun x y => x + y) 78) o_bad))) (cond (Nat.blt pc 81) (cond (Nat.beq pc 78) (o_putf 11 33 81) o_bad) (cond (Nat.blt pc 84) (cond (Nat.beq pc 81) (o_goto 46) o_bad) (cond (Nat.beq pc 84) (o_aload 0 85) o_bad)))) (cond (Nat.blt pc 90) (cond (Nat.blt pc 86) (cond (Nat.beq pc 85) (o_aload 0 86) o_bad) (cond (Nat.blt pc 89) (cond (Nat.beq pc 86) (o_getf 11 33 89) o_bad) (cond (Nat.beq pc 89) (o_aload 0 90) o_bad))) (cond (Nat.blt pc 94) (cond (Nat.blt pc 93) (cond (Nat.beq pc 90) (o_getf 11 34 93) o_bad) (cond (Nat.beq pc 93) (o_bin (fun x y => x - y) 94) o_bad)) (cond (Nat.blt pc 97) (cond (Nat.beq pc 94) (o_putf 11 35 97) o_bad) (cond (Nat.beq pc 97) (o_vret) o_bad))))))
set_option maxRecDepth 20000 in
theorem ok_X11_next : HOKs cX11_next RX11 1 none 1 ins_X11_next := fun _ => hnd (hnd (hnd (hnd (hnd (hlf (ok_aload_n dX11_next_0 rfl rfl)) (hnd (hlf (ok_getf (C := RX11) (T := TX11) dX11_next_1 rfl rfl (by decide) rfl inX11 wd_910 rfl)) (hlf (ok_aload_n dX11_next_4 rfl rfl)))) (hnd (hlf (ok_getf (C := RX11) (T := TX11) dX11_next_5 rfl rfl (by decide) rfl inX11 wd_897 rfl)) (hnd (hlf (ok_icmp_ge dX11_next_8 (by decide) rfl)) (hlf (ok_aload_n dX11_next_11 rfl rfl))))) (hnd (hnd (hlf (ok_getf (C := RX11) (T := TX11) dX11_next_12 rfl rfl (by decide) rfl inX11 wd_896 rfl)) (hnd (hlf (ok_aload_n dX11_next_15 rfl rfl)) (hlf (ok_getf (C := RX11) (T := TX11) dX11_next_16 rfl rfl (by decide) rfl inX11 wd_910 rfl)))) (hnd (hlf (ok_iald dX11_next_19 rfl)) (hnd (hlf (ok_bipush dX11_next_20 (by decide) rfl)) (hlf (ok_icmp_ne dX11_next_22 (by decide) rfl)))))) (hnd (hnd (hnd (hlf (ok_aload_n dX11_next_25 rfl rfl)) (hnd (hlf (ok_dup dX11_next_26 rfl)) (hlf (ok_getf (C := RX11) (T := TX11) dX11_next_27 rfl rfl (by decide) rfl inX11 wd_910 rfl)))) (hnd (hlf (ok_iconst dX11_next_30 (by decide) rfl)) (hnd (hlf (ok_iadd dX11_next_31 rfl)) (hlf (ok_putf (C := RX11) (T := TX11) dX11_next_32 rfl rfl (by decide) rfl inX11 tyX11_ok nmX11 rfl rfl (fun _ _ => rfl) wd_910 rfl))))) (hnd (hnd (hlf (ok_goto dX11_next_35 (by decide))) (hnd (hlf (ok_aload_n dX11_next_38 rfl rfl)) (hlf (ok_aload_n dX11_next_39 rfl rfl)))) (hnd (hnd (hlf (ok_getf (C := RX11) (T := TX11) dX11_next_40 rfl rfl (by decide) rfl inX11 wd_910 rfl)) (hlf (ok_putf (C := RX11) (T := TX11) dX11_next_43 rfl rfl (by decide) rfl inX11 tyX11_ok nmX11 rfl rfl (fun _ _ => rfl) wd_911 rfl))) (hnd (hlf (ok_aload_n dX11_next_46 rfl rfl)) (hlf (ok_getf (C := RX11) (T := TX11) dX11_next_47 rfl rfl (by decide) rfl inX11 wd_910 rfl))))))) (hnd (hnd (hnd (hnd (hlf (ok_aload_n dX11_next_50 rfl rfl)) (hnd (hlf (ok_getf (C := RX11) (T := TX11) dX11_next_51 rfl rfl (by decide) rfl inX11 wd_897 rfl)) (hlf (ok_icmp_ge dX11_next_54 (by decide) rfl)))) (hnd (hlf (ok_aload_n dX11_next_57 rfl rfl)) (hnd (hlf (ok_getf (C := RX11) (T := TX11) dX11_next_58 rfl rfl (by decide) rfl inX11 wd_896 rfl)) (hlf (ok_aload_n dX11_next_61 rfl rfl))))) (hnd (hnd (hlf (ok_getf (C := RX11) (T := TX11) dX11_next_62 rfl rfl (by decide) rfl inX11 wd_910 rfl)) (hnd (hlf (ok_iald dX11_next_65 rfl)) (hlf (ok_bipush dX11_next_66 (by decide) rfl)))) (hnd (hlf (ok_icmp_eq dX11_next_68 (by decide) rfl)) (hnd (hlf (ok_aload_n dX11_next_71 rfl rfl)) (hlf (ok_dup dX11_next_72 rfl)))))) (hnd (hnd (hnd (hlf (ok_getf (C := RX11) (T := TX11) dX11_next_73 rfl rfl (by decide) rfl inX11 wd_910 rfl)) (hnd (hlf (ok_iconst dX11_next_76 (by decide) rfl)) (hlf (ok_iadd dX11_next_77 rfl)))) (hnd (hlf (ok_putf (C := RX11) (T := TX11) dX11_next_78 rfl rfl (by decide) rfl inX11 tyX11_ok nmX11 rfl rfl (fun _ _ => rfl) wd_910 rfl)) (hnd (hlf (ok_goto dX11_next_81 (by decide))) (hlf (ok_aload_n dX11_next_84 rfl rfl))))) (hnd (hnd (hlf (ok_aload_n dX11_next_85 rfl rfl)) (hnd (hlf (ok_getf (C := RX11) (T := TX11) dX11_next_86 rfl rfl (by decide) rfl inX11 wd_910 rfl)) (hlf (ok_aload_n dX11_next_89 rfl rfl)))) (hnd (hnd (hlf (ok_getf (C := RX11) (T := TX11) dX11_next_90 rfl rfl (by decide) rfl inX11 wd_911 rfl)) (hlf (ok_isub dX11_next_93 rfl))) (hnd (hlf (ok_putf (C := RX11) (T := TX11) dX11_next_94 rfl rfl (by decide) rfl inX11 tyX11_ok nmX11 rfl rfl (fun _ _ => rfl) wd_912 rfl)) (hlf (ok_vret dX11_next_97)))))))

set_option maxHeartbeats 1000000 in
theorem vc_X11_next : MVC ins_X11_next 1 1 sp_X11_next := by
  intro as w σ q hl hs
  unfold sp_X11_next at hs
  split at hs
  rotate_left
  · exact hs.elim
  obtain ⟨e, z, hez, hz, he, hsz, hq⟩ := hs
  obtain ⟨A, hA⟩ : ∃ A, A = wA (σ 20 15) z e := ⟨_, rfl⟩
  obtain ⟨B, hB⟩ : ∃ B, B = wE (σ 20 15) z A := ⟨_, rfl⟩
  rw [← hA, ← hB] at hq
  have hAz := wA_le (T := σ 20 15) hez
  rw [← hA] at hAz
  refine ⟨fun pc => Nat.beq pc 0 || Nat.beq pc 46, fun pc N ls st w' σ' => ls = [some (HR 11 0)] ∧ st = [] ∧ w = w' ∧
    ((pc = 0 ∧ ∃ i, i ≤ z ∧ N = 1000 + (z - i) ∧ σ' = up3 σ 11 0 33 (nI i) ∧ wA (σ 20 15) z i = A) ∨
     (pc = 46 ∧ ∃ i, A ≤ i ∧ i ≤ z ∧ N = z - i ∧ σ' = up3 (up3 σ 11 0 33 (nI i)) 11 0 34 (nI A) ∧ wE (σ 20 15) z i = B)), 60, 60, ?_, ?_⟩
  · rintro N pc ls st w' σ' hh ⟨rfl, rfl, rfl, (⟨rfl, i, hi, rfl, rfl, hr⟩ | ⟨rfl, i, hAi, hi, rfl, rfl, hr⟩)⟩
    · have e20 : up3 σ 11 0 33 (nI i) 11 0 20 = nI z := by rw [up3_o (by omega)]; exact hsz
      have e33 : up3 σ 11 0 33 (nI i) 11 0 33 = nI i := up3_v
      have ex : A = i → ∃ N', N' < 1000 + (z - i) ∧ [some (HR 11 0)] = [some (HR 11 0)] ∧ ([] : List HV) = [] ∧ w = w ∧ ((46 = 0 ∧ ∃ i2, i2 ≤ z ∧ N' = 1000 + (z - i2) ∧ up3 (up3 σ 11 0 33 (nI i)) 11 0 34 (up3 σ 11 0 33 (nI i) 11 0 33) = up3 σ 11 0 33 (nI i2) ∧ wA (σ 20 15) z i2 = A) ∨ (46 = 46 ∧ ∃ i2, A ≤ i2 ∧ i2 ≤ z ∧ N' = z - i2 ∧ up3 (up3 σ 11 0 33 (nI i)) 11 0 34 (up3 σ 11 0 33 (nI i) 11 0 33) = up3 (up3 σ 11 0 33 (nI i2)) 11 0 34 (nI A) ∧ wE (σ 20 15) z i2 = B)) := fun h => by
        refine ⟨z - i, by omega, rfl, rfl, rfl, Or.inr ⟨rfl, i, by omega, hi, rfl, ?_, by rw [← h, hB]⟩⟩
        rw [up3_v, h]
      apply br2
      · intro h1
        have h1 : up3 σ 11 0 33 (nI i) 11 0 20 ≤ up3 σ 11 0 33 (nI i) 11 0 33 := h1
        rw [e33] at h1
        obtain rfl := lp_end e20 hi h1
        exact ex (by rw [← hr]; exact run_z)
      intro h1
      have h1 : ¬ up3 σ 11 0 33 (nI i) 11 0 20 ≤ up3 σ 11 0 33 (nI i) 11 0 33 := h1
      rw [e33] at h1
      have hlt := lp_go e20 hi h1
      have et : up3 σ 11 0 33 (nI i) 20 15 (up3 σ 11 0 33 (nI i) 11 0 33).toNatClampNeg = σ 20 15 i := by rw [e33, nI_clamp (by omega), up3_o (by omega)]
      refine And.intro (by rw [e33]; exact vp_in_nI (N := 60) (by omega) (by decide)) ?_
      apply br2
      · intro h2
        have h2 : up3 σ 11 0 33 (nI i) 20 15 (up3 σ 11 0 33 (nI i) 11 0 33).toNatClampNeg = 32 := h2
        rw [et] at h2
        refine ⟨1000 + (z - (i + 1)), by omega, rfl, rfl, rfl, Or.inl ⟨rfl, i + 1, hlt, rfl, ?_, ?_⟩⟩
        · rw [e33, up3_2]
          congr 1
          exact nI_1 i
        · rw [← hr]
          exact (run_y hlt (decide_eq_true h2)).symm
      · intro h2
        have h2 : ¬ up3 σ 11 0 33 (nI i) 20 15 (up3 σ 11 0 33 (nI i) 11 0 33).toNatClampNeg = 32 := h2
        rw [et] at h2
        exact ex (by rw [← hr]; exact run_n hlt (decide_eq_false h2))
    · obtain ⟨σ1, hσ⟩ : ∃ σ1, σ1 = up3 (up3 σ 11 0 33 (nI i)) 11 0 34 (nI A) := ⟨_, rfl⟩
      rw [← hσ]
      have e20 : σ1 11 0 20 = nI z := by rw [hσ, up3_o (by omega), up3_o (by omega)]; exact hsz
      have e33 : σ1 11 0 33 = nI i := by rw [hσ, up3_o (by omega)]; exact up3_v
      have e34 : σ1 11 0 34 = nI A := by rw [hσ]; exact up3_v
      have eT : ∀ j, σ1 20 15 j = σ 20 15 j := fun j => by rw [hσ, up3_o (by omega), up3_o (by omega)]
      have ex : B = i → q none w (up3 σ1 11 0 35 (σ1 11 0 33 - σ1 11 0 34)) := fun h => by
        rw [e33, e34, pk_sub hAi, hσ, ← h]
        exact hq
      apply br2
      · intro h1
        have h1 : σ1 11 0 20 ≤ σ1 11 0 33 := h1
        rw [e33] at h1
        obtain rfl := lp_end e20 hi h1
        exact ex (by rw [← hr]; exact run_z)
      intro h1
      have h1 : ¬ σ1 11 0 20 ≤ σ1 11 0 33 := h1
      rw [e33] at h1
      have hlt := lp_go e20 hi h1
      have et : σ1 20 15 (σ1 11 0 33).toNatClampNeg = σ 20 15 i := by rw [e33, nI_clamp (by omega), eT]
      refine And.intro (by rw [e33]; exact vp_in_nI (N := 60) (by omega) (by decide)) ?_
      apply br2
      · intro h2
        have h2 : σ1 20 15 (σ1 11 0 33).toNatClampNeg = 32 := h2
        rw [et] at h2
        exact ex (by rw [← hr]; exact run_n hlt (decide_eq_false fun z => z h2))
      · intro h2
        have h2 : ¬ σ1 20 15 (σ1 11 0 33).toNatClampNeg = 32 := h2
        rw [et] at h2
        refine ⟨z - (i + 1), by omega, rfl, rfl, rfl, Or.inr ⟨rfl, i + 1, by omega, hlt, rfl, ?_, ?_⟩⟩
        · rw [e33, hσ, up3_cm (by decide), up3_2]
          congr 2
          exact nI_1 i
        · rw [← hr]
          exact (run_y hlt (decide_eq_true h2)).symm
  · exact ⟨1000 + (z - e), rfl, rfl, rfl, Or.inl ⟨rfl, e, hez, rfl, (up3_id he).symm, hA.symm⟩⟩
theorem ct_X11_next : Ctr yX11_next cX11_next 1 none 1 0 0 1 sp_X11_next := ctr_of (by decide +kernel) rfl (by decide) ok_X11_next vc_X11_next

def mn1 (v : Int32) : Int32 := if v ≤ 1000 then v else 1000
def nb (T : Nat → Int32) : Nat → Nat → Int32 → Int32
  | 0, _, u => u
  | k + 1, i, u => if ¬ T i < 48 ∧ ¬ 57 < T i then nb T k (i + 1) (mn1 (10 * u + T i - 48)) else -1
/-- the number that a word writes, or -1 -/
def num (T : Nat → Int32) (a b : Nat) : Int32 := if a = b then -1 else nb T (b - a) a 0
theorem nb_s {T : Nat → Int32} {b i : Nat} {u : Int32} (h : i < b) : nb T (b - i) i u = if ¬ T i < 48 ∧ ¬ 57 < T i then nb T (b - (i + 1)) (i + 1) (mn1 (10 * u + T i - 48)) else -1 := by
  obtain ⟨k, hk⟩ : ∃ k, b - i = k + 1 := ⟨b - i - 1, by omega⟩
  rw [hk, show b - (i + 1) = k from by omega]
  rfl
def sp_X11_number : HSp := fun as w σ K => match as with
  | [.inr (.inl (11, some 0))] => ∃ a b, a ≤ b ∧ b ≤ 60 ∧ σ 11 0 34 = nI a ∧ σ 11 0 35 = nI (b - a) ∧ K (some (HI (num (σ 20 15) a b))) w σ
  | _ => False
theorem dX11_number_0 : decode cX11_number 0 = .ok (.iconst 0, 1) := by decide +kernel
theorem dX11_number_1 : decode cX11_number 1 = .ok (.istore_n 1, 1) := by decide +kernel
theorem dX11_number_2 : decode cX11_number 2 = .ok (.aload_n 0, 1) := by decide +kernel
theorem dX11_number_3 : decode cX11_number 3 = .ok (.getfield 143, 3) := by decide +kernel
theorem dX11_number_6 : decode cX11_number 6 = .ok (.istore_n 2, 1) := by decide +kernel
theorem dX11_number_7 : decode cX11_number 7 = .ok (.iload_n 2, 1) := by decide +kernel
theorem dX11_number_8 : decode cX11_number 8 = .ok (.aload_n 0, 1) := by decide +kernel
theorem dX11_number_9 : decode cX11_number 9 = .ok (.getfield 143, 3) := by decide +kernel
theorem dX11_number_12 : decode cX11_number 12 = .ok (.aload_n 0, 1) := by decide +kernel
theorem dX11_number_13 : decode cX11_number 13 = .ok (.getfield 146, 3) := by decide +kernel
theorem dX11_number_16 : decode cX11_number 16 = .ok (.iadd, 1) := by decide +kernel
theorem dX11_number_17 : decode cX11_number 17 = .ok (.if_icmp .ge 57, 3) := by decide +kernel
theorem dX11_number_20 : decode cX11_number 20 = .ok (.aload_n 0, 1) := by decide +kernel
theorem dX11_number_21 : decode cX11_number 21 = .ok (.getfield 59, 3) := by decide +kernel
theorem dX11_number_24 : decode cX11_number 24 = .ok (.iload_n 2, 1) := by decide +kernel
theorem dX11_number_25 : decode cX11_number 25 = .ok (.iaload, 1) := by decide +kernel
theorem dX11_number_26 : decode cX11_number 26 = .ok (.bipush 48, 2) := by decide +kernel
theorem dX11_number_28 : decode cX11_number 28 = .ok (.bipush 57, 2) := by decide +kernel
theorem dX11_number_30 : decode cX11_number 30 = .ok (.invokestatic 102, 3) := by decide +kernel
theorem dX11_number_33 : decode cX11_number 33 = .ok (.ifCond .ne 5, 3) := by decide +kernel
theorem dX11_number_36 : decode cX11_number 36 = .ok (.iconst (-1), 1) := by decide +kernel
theorem dX11_number_37 : decode cX11_number 37 = .ok (.ireturn, 1) := by decide +kernel
theorem dX11_number_38 : decode cX11_number 38 = .ok (.bipush 10, 2) := by decide +kernel
theorem dX11_number_40 : decode cX11_number 40 = .ok (.iload_n 1, 1) := by decide +kernel
theorem dX11_number_41 : decode cX11_number 41 = .ok (.imul, 1) := by decide +kernel
theorem dX11_number_42 : decode cX11_number 42 = .ok (.aload_n 0, 1) := by decide +kernel
theorem dX11_number_43 : decode cX11_number 43 = .ok (.getfield 59, 3) := by decide +kernel
theorem dX11_number_46 : decode cX11_number 46 = .ok (.iload_n 2, 1) := by decide +kernel
theorem dX11_number_47 : decode cX11_number 47 = .ok (.iaload, 1) := by decide +kernel
theorem dX11_number_48 : decode cX11_number 48 = .ok (.iadd, 1) := by decide +kernel
theorem dX11_number_49 : decode cX11_number 49 = .ok (.bipush 48, 2) := by decide +kernel
theorem dX11_number_51 : decode cX11_number 51 = .ok (.isub, 1) := by decide +kernel
theorem dX11_number_52 : decode cX11_number 52 = .ok (.istore_n 1, 1) := by decide +kernel
theorem dX11_number_53 : decode cX11_number 53 = .ok (.iload_n 1, 1) := by decide +kernel
theorem dX11_number_54 : decode cX11_number 54 = .ok (.sipush 1000, 3) := by decide +kernel
theorem dX11_number_57 : decode cX11_number 57 = .ok (.if_icmp .le 9, 3) := by decide +kernel
theorem dX11_number_60 : decode cX11_number 60 = .ok (.sipush 1000, 3) := by decide +kernel
theorem dX11_number_63 : decode cX11_number 63 = .ok (.goto 4, 3) := by decide +kernel
theorem dX11_number_66 : decode cX11_number 66 = .ok (.iload_n 1, 1) := by decide +kernel
theorem dX11_number_67 : decode cX11_number 67 = .ok (.istore_n 1, 1) := by decide +kernel
theorem dX11_number_68 : decode cX11_number 68 = .ok (.iinc 2 1, 3) := by decide +kernel
theorem dX11_number_71 : decode cX11_number 71 = .ok (.goto (-64), 3) := by decide +kernel
theorem dX11_number_74 : decode cX11_number 74 = .ok (.aload_n 0, 1) := by decide +kernel
theorem dX11_number_75 : decode cX11_number 75 = .ok (.getfield 146, 3) := by decide +kernel
theorem dX11_number_78 : decode cX11_number 78 = .ok (.ifCond .ne 7, 3) := by decide +kernel
theorem dX11_number_81 : decode cX11_number 81 = .ok (.iconst (-1), 1) := by decide +kernel
theorem dX11_number_82 : decode cX11_number 82 = .ok (.goto 4, 3) := by decide +kernel
theorem dX11_number_85 : decode cX11_number 85 = .ok (.iload_n 1, 1) := by decide +kernel
theorem dX11_number_86 : decode cX11_number 86 = .ok (.ireturn, 1) := by decide +kernel
def ins_X11_number (pc : Nat) : HOp := cond (Nat.blt pc 41) (cond (Nat.blt pc 20) (cond (Nat.blt pc 8) (cond (Nat.blt pc 3) (cond (Nat.blt pc 1) (cond (Nat.beq pc 0) (o_const (0) 1) o_bad) (cond (Nat.blt pc 2) (cond (Nat.beq pc 1) (o_istore 1 2) o_bad) (cond (Nat.beq pc 2) (o_aload 0 3) o_bad))) (cond (Nat.blt pc 6) (cond (Nat.beq pc 3) (o_getf 11 34 6) o_bad) (cond (Nat.blt pc 7) (cond (Nat.beq pc 6) (o_istore 2 7) o_bad) (cond (Nat.beq pc 7) (o_iload 2 8) o_bad)))) (cond (Nat.blt pc 13) (cond (Nat.blt pc 9) (cond (Nat.beq pc 8) (o_aload 0 9) o_bad) (cond (Nat.blt pc 12) (cond (Nat.beq pc 9) (o_getf 11 34 12) o_bad) (cond (Nat.beq pc 12) (o_aload 0 13) o_bad))) (cond (Nat.blt pc 16) (cond (Nat.beq pc 13) (o_getf 11 35 16) o_bad) (cond (Nat.blt pc 17) (cond (Nat.beq pc 16) (o_bin (fun x y => x + y) 17) o_bad) (cond (Nat.beq pc 17) (o_icmp (fun x y => y ≤ x) 74 20) o_bad))))) (cond (Nat.blt pc 30) (cond (Nat.blt pc 25) (cond (Nat.blt pc 21) (cond (Nat.beq pc 20) (o_aload 0 21) o_bad) (cond (Nat.blt pc 24) (cond (Nat.beq pc 21) (o_getf 11 19 24) o_bad) (cond (Nat.beq pc 24) (o_iload 2 25) o_bad))) (cond (Nat.blt pc 26) (cond (Nat.beq pc 25) (o_iald 26) o_bad) (cond (Nat.blt pc 28) (cond (Nat.beq pc 26) (o_const (48) 28) o_bad) (cond (Nat.beq pc 28) (o_const (57) 30) o_bad)))) (cond (Nat.blt pc 37) (cond (Nat.blt pc 33) (cond (Nat.beq pc 30) (o_callS 3 sp_X11_isIn 33) o_bad) (cond (Nat.blt pc 36) (cond (Nat.beq pc 33) (o_if (fun x => x = 0) 36 38) o_bad) (cond (Nat.beq pc 36) (o_const (-1) 37) o_bad))) (cond (Nat.blt pc 38) (cond (Nat.beq pc 37) (o_iret) o_bad) (cond (Nat.blt pc 40) (cond (Nat.beq pc 38) (o_const (10) 40) o_bad) (cond (Nat.beq pc 40) (o_iload 1 41) o_bad)))))) (cond (Nat.blt pc 60) (cond (Nat.blt pc 49) (cond (Nat.blt pc 46) (cond (Nat.blt pc 42) (cond (Nat.beq pc 41) (o_bin (fun x y => x * y) 42) o_bad) (cond (Nat.blt pc 43) (cond (Nat.beq pc 42) (o_aload 0 43) o_bad) (cond (Nat.beq pc 43) (o_getf 11 19 46) o_bad))) (cond (Nat.blt pc 47) (cond (Nat.beq pc 46) (o_iload 2 47) o_bad) (cond (Nat.blt pc 48) (cond (Nat.beq pc 47) (o_iald 48) o_bad) (cond (Nat.beq pc 48) (o_bin (fun x y => x + y) 49) o_bad)))) (cond (Nat.blt pc 53) (cond (Nat.blt pc 51) (cond (Nat.beq pc 49) (o_const (48) 51) o_bad) (cond (Nat.blt pc 52) (cond (Nat.beq pc 51) (o_bin (fun x y => x - y) 52) o_bad) (cond (Nat.beq pc 52) (o_istore 1 53) o_bad))) (cond (Nat.blt pc 54) (cond (Nat.beq pc 53) (o_iload 1 54) o_bad) (cond (Nat.blt pc 57) (cond (Nat.beq pc 54) (o_const (1000) 57) o_bad) (cond (Nat.beq pc 57) (o_icmp (fun x y => x ≤ y) 66 60) o_bad))))) (cond (Nat.blt pc 74) (cond (Nat.blt pc 67) (cond (Nat.blt pc 63) (cond (Nat.beq pc 60) (o_const (1000) 63) o_bad) (cond (Nat.blt pc 66) (cond (Nat.beq pc 63) (o_goto 67) o_bad) (cond (Nat.beq pc 66) (o_iload 1 67) o_bad))) (cond (Nat.blt pc 68) (cond (Nat.beq pc 67) (o_istore 1 68) o_bad) (cond (Nat.blt pc 71) (cond (Nat.beq pc 68) (o_iinc 2 (1) 71) o_bad) (cond (Nat.beq pc 71) (o_goto 7) o_bad)))) (cond (Nat.blt pc 81) (cond (Nat.blt pc 75) (cond (Nat.beq pc 74) (o_aload 0 75) o_bad) (cond (Nat.blt pc 78) (cond (Nat.beq pc 75) (o_getf 11 35 78) o_bad) (cond (Nat.beq pc 78) (o_if (fun x => x = 0) 81 85) o_bad))) (cond (Nat.blt pc 85) (cond (Nat.blt pc 82) (cond (Nat.beq pc 81) (o_const (-1) 82) o_bad) (cond (Nat.beq pc 82) (o_goto 86) o_bad)) (cond (Nat.blt pc 86) (cond (Nat.beq pc 85) (o_iload 1 86) o_bad) (cond (Nat.beq pc 86) (o_iret) o_bad))))))
set_option maxRecDepth 20000 in
theorem ok_X11_number : HOKs cX11_number RX11 3 (some .int) 2 ins_X11_number := fun _ => hnd (hnd (hnd (hnd (hnd (hlf (ok_iconst dX11_number_0 (by decide) rfl)) (hnd (hlf (ok_istore_n dX11_number_1 rfl (by decide) rfl)) (hlf (ok_aload_n dX11_number_2 rfl rfl)))) (hnd (hlf (ok_getf (C := RX11) (T := TX11) dX11_number_3 rfl rfl (by decide) rfl inX11 wd_911 rfl)) (hnd (hlf (ok_istore_n dX11_number_6 rfl (by decide) rfl)) (hlf (ok_iload_n dX11_number_7 rfl rfl))))) (hnd (hnd (hlf (ok_aload_n dX11_number_8 rfl rfl)) (hnd (hlf (ok_getf (C := RX11) (T := TX11) dX11_number_9 rfl rfl (by decide) rfl inX11 wd_911 rfl)) (hlf (ok_aload_n dX11_number_12 rfl rfl)))) (hnd (hlf (ok_getf (C := RX11) (T := TX11) dX11_number_13 rfl rfl (by decide) rfl inX11 wd_912 rfl)) (hnd (hlf (ok_iadd dX11_number_16 rfl)) (hlf (ok_icmp_ge dX11_number_17 (by decide) rfl)))))) (hnd (hnd (hnd (hlf (ok_aload_n dX11_number_20 rfl rfl)) (hnd (hlf (ok_getf (C := RX11) (T := TX11) dX11_number_21 rfl rfl (by decide) rfl inX11 wd_896 rfl)) (hlf (ok_iload_n dX11_number_24 rfl rfl)))) (hnd (hlf (ok_iald dX11_number_25 rfl)) (hnd (hlf (ok_bipush dX11_number_26 (by decide) rfl)) (hlf (ok_bipush dX11_number_28 (by decide) rfl))))) (hnd (hnd (hlf (ok_callS (y := yX11_isIn) dX11_number_30 ct_X11_isIn (by decide) (by decide) wd_1017 wd_1015 wd_1016 wd_50 (by decide +kernel) rfl)) (hnd (hlf (ok_if_ne dX11_number_33 (by decide) rfl)) (hlf (ok_iconst dX11_number_36 (by decide) rfl)))) (hnd (hlf (ok_iret dX11_number_37)) (hnd (hlf (ok_bipush dX11_number_38 (by decide) rfl)) (hlf (ok_iload_n dX11_number_40 rfl rfl))))))) (hnd (hnd (hnd (hnd (hlf (ok_imul dX11_number_41 rfl)) (hnd (hlf (ok_aload_n dX11_number_42 rfl rfl)) (hlf (ok_getf (C := RX11) (T := TX11) dX11_number_43 rfl rfl (by decide) rfl inX11 wd_896 rfl)))) (hnd (hlf (ok_iload_n dX11_number_46 rfl rfl)) (hnd (hlf (ok_iald dX11_number_47 rfl)) (hlf (ok_iadd dX11_number_48 rfl))))) (hnd (hnd (hlf (ok_bipush dX11_number_49 (by decide) rfl)) (hnd (hlf (ok_isub dX11_number_51 rfl)) (hlf (ok_istore_n dX11_number_52 rfl (by decide) rfl)))) (hnd (hlf (ok_iload_n dX11_number_53 rfl rfl)) (hnd (hlf (ok_sipush dX11_number_54 (by decide) rfl)) (hlf (ok_icmp_le dX11_number_57 (by decide) rfl)))))) (hnd (hnd (hnd (hlf (ok_sipush dX11_number_60 (by decide) rfl)) (hnd (hlf (ok_goto dX11_number_63 (by decide))) (hlf (ok_iload_n dX11_number_66 rfl rfl)))) (hnd (hlf (ok_istore_n dX11_number_67 rfl (by decide) rfl)) (hnd (hlf (ok_iinc dX11_number_68 (by decide) (by decide) rfl)) (hlf (ok_goto dX11_number_71 (by decide)))))) (hnd (hnd (hlf (ok_aload_n dX11_number_74 rfl rfl)) (hnd (hlf (ok_getf (C := RX11) (T := TX11) dX11_number_75 rfl rfl (by decide) rfl inX11 wd_912 rfl)) (hlf (ok_if_ne dX11_number_78 (by decide) rfl)))) (hnd (hnd (hlf (ok_iconst dX11_number_81 (by decide) rfl)) (hlf (ok_goto dX11_number_82 (by decide)))) (hnd (hlf (ok_iload_n dX11_number_85 rfl rfl)) (hlf (ok_iret dX11_number_86)))))))

theorem vc_X11_number : MVC ins_X11_number 3 1 sp_X11_number := by
  refine mvc1 7 60 fun as w σ q hl hs => ?_
  unfold sp_X11_number at hs
  split at hs
  rotate_left
  · exact hs.elim
  obtain ⟨a, b, hab, hb, ha, hl, hq⟩ := hs
  have esum : σ 11 0 34 + σ 11 0 35 = nI b := by rw [ha, hl, nI_add]; congr 1; omega
  refine ⟨fun N ls st w' σ' => ∃ (i : Nat) (u v : Int32), a ≤ i ∧ i ≤ b ∧ N = b - i ∧ v = nI i ∧ nb (σ 20 15) (b - i) i u = nb (σ 20 15) (b - a) a 0 ∧ ls = [some (HR 11 0), some (HI u), some (HI v)] ∧ st = [] ∧ w = w' ∧ σ = σ', ?_, ?_⟩
  · rintro N ls st w' σ' ⟨i, u, v, hai, hi, rfl, rfl, hR, rfl, rfl, rfl, rfl⟩
    apply br2
    · intro h1
      obtain rfl := lp_end esum hi h1
      rw [Nat.sub_self] at hR
      unfold num at hq
      apply br2
      · intro h2
        have h2 : σ 11 0 35 = 0 := h2
        rw [hl] at h2
        have h3 := nI_inj (b := 0) h2
        rw [if_pos (by omega)] at hq
        exact hq
      · intro h2
        have h2 : ¬ σ 11 0 35 = 0 := h2
        rw [hl] at h2
        rw [if_neg (fun z => h2 (by rw [z, Nat.sub_self]; rfl)), ← hR] at hq
        exact hq
    intro h1
    have hlt := lp_go esum hi h1
    have e1 : (nI i).toNatClampNeg = i := nI_clamp (by omega)
    have hin : vp_in (nI i) 60 := vp_in_nI (by omega) (by decide)
    have hne : ¬ a = b := by omega
    unfold num at hq
    rw [if_neg hne] at hq
    rw [nb_s hlt] at hR
    refine And.intro hin ?_
    apply br2
    · intro h2
      have h2 : ¬ σ 20 15 (nI i).toNatClampNeg < 48 ∧ ¬ 57 < σ 20 15 (nI i).toNatClampNeg := h2
      rw [e1] at h2
      rw [if_pos h2] at hR
      refine And.intro (fun h => absurd h (by decide)) (fun _ => And.intro hin ?_)
      apply br2
      · intro h3
        have h3 : 10 * u + σ 20 15 (nI i).toNatClampNeg - 48 ≤ 1000 := h3
        refine ⟨b - (i + 1), by omega, i + 1, _, _, by omega, hlt, rfl, nI_1 i, ?_, rfl, rfl, rfl, rfl⟩
        rw [e1] at h3 ⊢
        unfold mn1 at hR
        rw [if_pos h3] at hR
        exact hR
      · intro h3
        have h3 : ¬ 10 * u + σ 20 15 (nI i).toNatClampNeg - 48 ≤ 1000 := h3
        refine ⟨b - (i + 1), by omega, i + 1, _, _, by omega, hlt, rfl, nI_1 i, ?_, rfl, rfl, rfl, rfl⟩
        rw [e1] at h3
        unfold mn1 at hR
        rw [if_neg h3] at hR
        exact hR
    · intro h2
      have h2 : ¬ (¬ σ 20 15 (nI i).toNatClampNeg < 48 ∧ ¬ 57 < σ 20 15 (nI i).toNatClampNeg) := h2
      rw [e1] at h2
      rw [if_neg h2] at hR
      rw [← hR] at hq
      exact And.intro (fun _ => hq) (fun h => absurd rfl h)
  · exact ⟨b - a, a, 0, _, Nat.le_refl _, hab, rfl, ha, rfl, rfl, rfl, rfl, rfl⟩
theorem ct_X11_number : Ctr yX11_number cX11_number 3 (some .int) 2 0 0 1 sp_X11_number := ctr_of (by decide +kernel) rfl (by decide) ok_X11_number vc_X11_number

def sp_X11_here : HSp := fun as w σ K => match as with
  | [.inr (.inl (11, some 0))] => K (some (HI (if σ 11 0 35 = 0 then σ 11 0 20 else σ 11 0 34))) w σ
  | _ => False
theorem dX11_here_0 : decode cX11_here 0 = .ok (.aload_n 0, 1) := by decide +kernel
theorem dX11_here_1 : decode cX11_here 1 = .ok (.getfield 146, 3) := by decide +kernel
theorem dX11_here_4 : decode cX11_here 4 = .ok (.ifCond .ne 10, 3) := by decide +kernel
theorem dX11_here_7 : decode cX11_here 7 = .ok (.aload_n 0, 1) := by decide +kernel
theorem dX11_here_8 : decode cX11_here 8 = .ok (.getfield 133, 3) := by decide +kernel
theorem dX11_here_11 : decode cX11_here 11 = .ok (.goto 7, 3) := by decide +kernel
theorem dX11_here_14 : decode cX11_here 14 = .ok (.aload_n 0, 1) := by decide +kernel
theorem dX11_here_15 : decode cX11_here 15 = .ok (.getfield 143, 3) := by decide +kernel
theorem dX11_here_18 : decode cX11_here 18 = .ok (.ireturn, 1) := by decide +kernel
def ins_X11_here (pc : Nat) : HOp := cond (Nat.blt pc 8) (cond (Nat.blt pc 4) (cond (Nat.blt pc 1) (cond (Nat.beq pc 0) (o_aload 0 1) o_bad) (cond (Nat.beq pc 1) (o_getf 11 35 4) o_bad)) (cond (Nat.blt pc 7) (cond (Nat.beq pc 4) (o_if (fun x => x = 0) 7 14) o_bad) (cond (Nat.beq pc 7) (o_aload 0 8) o_bad))) (cond (Nat.blt pc 14) (cond (Nat.blt pc 11) (cond (Nat.beq pc 8) (o_getf 11 20 11) o_bad) (cond (Nat.beq pc 11) (o_goto 18) o_bad)) (cond (Nat.blt pc 15) (cond (Nat.beq pc 14) (o_aload 0 15) o_bad) (cond (Nat.blt pc 18) (cond (Nat.beq pc 15) (o_getf 11 34 18) o_bad) (cond (Nat.beq pc 18) (o_iret) o_bad))))
set_option maxRecDepth 20000 in
theorem ok_X11_here : HOKs cX11_here RX11 1 (some .int) 1 ins_X11_here := fun _ => hnd (hnd (hnd (hlf (ok_aload_n dX11_here_0 rfl rfl)) (hlf (ok_getf (C := RX11) (T := TX11) dX11_here_1 rfl rfl (by decide) rfl inX11 wd_912 rfl))) (hnd (hlf (ok_if_ne dX11_here_4 (by decide) rfl)) (hlf (ok_aload_n dX11_here_7 rfl rfl)))) (hnd (hnd (hlf (ok_getf (C := RX11) (T := TX11) dX11_here_8 rfl rfl (by decide) rfl inX11 wd_897 rfl)) (hlf (ok_goto dX11_here_11 (by decide)))) (hnd (hlf (ok_aload_n dX11_here_14 rfl rfl)) (hnd (hlf (ok_getf (C := RX11) (T := TX11) dX11_here_15 rfl rfl (by decide) rfl inX11 wd_911 rfl)) (hlf (ok_iret dX11_here_18)))))

theorem vc_X11_here : MVC ins_X11_here 1 1 sp_X11_here := by
  refine mvc0 30 fun as w σ q hl hs => ?_
  unfold sp_X11_here at hs
  split at hs
  rotate_left
  · exact hs.elim
  apply br2
  · intro h
    have h : σ 11 0 35 = 0 := h
    rw [if_pos h] at hs
    exact hs
  · intro h
    have h : ¬ σ 11 0 35 = 0 := h
    rw [if_neg h] at hs
    exact hs
theorem ct_X11_here : Ctr yX11_here cX11_here 1 (some .int) 1 0 0 1 sp_X11_here := ctr_of (by decide +kernel) rfl (by decide) ok_X11_here vc_X11_here

def lenW (c3 c4 : Int32) : Nat := if c3 = 0 then 2 else if c4 = 0 then 3 else 4
abbrev isW (T : Nat → Int32) (a b : Nat) (c1 c2 c3 c4 : Int32) : Prop := b - a = lenW c3 c4 ∧ T a = c1 ∧ T (a + 1) = c2 ∧ (c3 = 0 ∨ T (a + 2) = c3) ∧ (c4 = 0 ∨ T (a + 3) = c4)
def sp_X11_isWord : HSp := fun as w σ K => match as with
  | [.inr (.inl (11, some 0)), .inl c1, .inl c2, .inl c3, .inl c4] => (c3 = 0 → c4 = 0) ∧ ∃ a b, a ≤ b ∧ b ≤ 60 ∧ σ 11 0 34 = nI a ∧ σ 11 0 35 = nI (b - a) ∧ spZ (isW (σ 20 15) a b c1 c2 c3 c4) w σ K
  | _ => False
theorem dX11_isWord_0 : decode cX11_isWord 0 = .ok (.iload_n 3, 1) := by decide +kernel
theorem dX11_isWord_1 : decode cX11_isWord 1 = .ok (.ifCond .ne 7, 3) := by decide +kernel
theorem dX11_isWord_4 : decode cX11_isWord 4 = .ok (.iconst 2, 1) := by decide +kernel
theorem dX11_isWord_5 : decode cX11_isWord 5 = .ok (.goto 13, 3) := by decide +kernel
theorem dX11_isWord_8 : decode cX11_isWord 8 = .ok (.iload 4, 2) := by decide +kernel
theorem dX11_isWord_10 : decode cX11_isWord 10 = .ok (.ifCond .ne 7, 3) := by decide +kernel
theorem dX11_isWord_13 : decode cX11_isWord 13 = .ok (.iconst 3, 1) := by decide +kernel
theorem dX11_isWord_14 : decode cX11_isWord 14 = .ok (.goto 4, 3) := by decide +kernel
theorem dX11_isWord_17 : decode cX11_isWord 17 = .ok (.iconst 4, 1) := by decide +kernel
theorem dX11_isWord_18 : decode cX11_isWord 18 = .ok (.istore 5, 2) := by decide +kernel
theorem dX11_isWord_20 : decode cX11_isWord 20 = .ok (.aload_n 0, 1) := by decide +kernel
theorem dX11_isWord_21 : decode cX11_isWord 21 = .ok (.getfield 146, 3) := by decide +kernel
theorem dX11_isWord_24 : decode cX11_isWord 24 = .ok (.iload 5, 2) := by decide +kernel
theorem dX11_isWord_26 : decode cX11_isWord 26 = .ok (.if_icmp .ne 75, 3) := by decide +kernel
theorem dX11_isWord_29 : decode cX11_isWord 29 = .ok (.aload_n 0, 1) := by decide +kernel
theorem dX11_isWord_30 : decode cX11_isWord 30 = .ok (.getfield 59, 3) := by decide +kernel
theorem dX11_isWord_33 : decode cX11_isWord 33 = .ok (.aload_n 0, 1) := by decide +kernel
theorem dX11_isWord_34 : decode cX11_isWord 34 = .ok (.getfield 143, 3) := by decide +kernel
theorem dX11_isWord_37 : decode cX11_isWord 37 = .ok (.iaload, 1) := by decide +kernel
theorem dX11_isWord_38 : decode cX11_isWord 38 = .ok (.iload_n 1, 1) := by decide +kernel
theorem dX11_isWord_39 : decode cX11_isWord 39 = .ok (.if_icmp .ne 62, 3) := by decide +kernel
theorem dX11_isWord_42 : decode cX11_isWord 42 = .ok (.aload_n 0, 1) := by decide +kernel
theorem dX11_isWord_43 : decode cX11_isWord 43 = .ok (.getfield 59, 3) := by decide +kernel
theorem dX11_isWord_46 : decode cX11_isWord 46 = .ok (.aload_n 0, 1) := by decide +kernel
theorem dX11_isWord_47 : decode cX11_isWord 47 = .ok (.getfield 143, 3) := by decide +kernel
theorem dX11_isWord_50 : decode cX11_isWord 50 = .ok (.iconst 1, 1) := by decide +kernel
theorem dX11_isWord_51 : decode cX11_isWord 51 = .ok (.iadd, 1) := by decide +kernel
theorem dX11_isWord_52 : decode cX11_isWord 52 = .ok (.iaload, 1) := by decide +kernel
theorem dX11_isWord_53 : decode cX11_isWord 53 = .ok (.iload_n 2, 1) := by decide +kernel
theorem dX11_isWord_54 : decode cX11_isWord 54 = .ok (.if_icmp .ne 47, 3) := by decide +kernel
theorem dX11_isWord_57 : decode cX11_isWord 57 = .ok (.iload_n 3, 1) := by decide +kernel
theorem dX11_isWord_58 : decode cX11_isWord 58 = .ok (.ifCond .eq 18, 3) := by decide +kernel
theorem dX11_isWord_61 : decode cX11_isWord 61 = .ok (.aload_n 0, 1) := by decide +kernel
theorem dX11_isWord_62 : decode cX11_isWord 62 = .ok (.getfield 59, 3) := by decide +kernel
theorem dX11_isWord_65 : decode cX11_isWord 65 = .ok (.aload_n 0, 1) := by decide +kernel
theorem dX11_isWord_66 : decode cX11_isWord 66 = .ok (.getfield 143, 3) := by decide +kernel
theorem dX11_isWord_69 : decode cX11_isWord 69 = .ok (.iconst 2, 1) := by decide +kernel
theorem dX11_isWord_70 : decode cX11_isWord 70 = .ok (.iadd, 1) := by decide +kernel
theorem dX11_isWord_71 : decode cX11_isWord 71 = .ok (.iaload, 1) := by decide +kernel
theorem dX11_isWord_72 : decode cX11_isWord 72 = .ok (.iload_n 3, 1) := by decide +kernel
theorem dX11_isWord_73 : decode cX11_isWord 73 = .ok (.if_icmp .ne 28, 3) := by decide +kernel
theorem dX11_isWord_76 : decode cX11_isWord 76 = .ok (.iload 4, 2) := by decide +kernel
theorem dX11_isWord_78 : decode cX11_isWord 78 = .ok (.ifCond .eq 19, 3) := by decide +kernel
theorem dX11_isWord_81 : decode cX11_isWord 81 = .ok (.aload_n 0, 1) := by decide +kernel
theorem dX11_isWord_82 : decode cX11_isWord 82 = .ok (.getfield 59, 3) := by decide +kernel
theorem dX11_isWord_85 : decode cX11_isWord 85 = .ok (.aload_n 0, 1) := by decide +kernel
theorem dX11_isWord_86 : decode cX11_isWord 86 = .ok (.getfield 143, 3) := by decide +kernel
theorem dX11_isWord_89 : decode cX11_isWord 89 = .ok (.iconst 3, 1) := by decide +kernel
theorem dX11_isWord_90 : decode cX11_isWord 90 = .ok (.iadd, 1) := by decide +kernel
theorem dX11_isWord_91 : decode cX11_isWord 91 = .ok (.iaload, 1) := by decide +kernel
theorem dX11_isWord_92 : decode cX11_isWord 92 = .ok (.iload 4, 2) := by decide +kernel
theorem dX11_isWord_94 : decode cX11_isWord 94 = .ok (.if_icmp .ne 7, 3) := by decide +kernel
theorem dX11_isWord_97 : decode cX11_isWord 97 = .ok (.iconst 1, 1) := by decide +kernel
theorem dX11_isWord_98 : decode cX11_isWord 98 = .ok (.goto 4, 3) := by decide +kernel
theorem dX11_isWord_101 : decode cX11_isWord 101 = .ok (.iconst 0, 1) := by decide +kernel
theorem dX11_isWord_102 : decode cX11_isWord 102 = .ok (.ireturn, 1) := by decide +kernel
def ins_X11_isWord (pc : Nat) : HOp := cond (Nat.blt pc 53) (cond (Nat.blt pc 29) (cond (Nat.blt pc 14) (cond (Nat.blt pc 5) (cond (Nat.blt pc 1) (cond (Nat.beq pc 0) (o_iload 3 1) o_bad) (cond (Nat.blt pc 4) (cond (Nat.beq pc 1) (o_if (fun x => x = 0) 4 8) o_bad) (cond (Nat.beq pc 4) (o_const (2) 5) o_bad))) (cond (Nat.blt pc 10) (cond (Nat.blt pc 8) (cond (Nat.beq pc 5) (o_goto 18) o_bad) (cond (Nat.beq pc 8) (o_iload 4 10) o_bad)) (cond (Nat.blt pc 13) (cond (Nat.beq pc 10) (o_if (fun x => x = 0) 13 17) o_bad) (cond (Nat.beq pc 13) (o_const (3) 14) o_bad)))) (cond (Nat.blt pc 20) (cond (Nat.blt pc 17) (cond (Nat.beq pc 14) (o_goto 18) o_bad) (cond (Nat.blt pc 18) (cond (Nat.beq pc 17) (o_const (4) 18) o_bad) (cond (Nat.beq pc 18) (o_istore 5 20) o_bad))) (cond (Nat.blt pc 24) (cond (Nat.blt pc 21) (cond (Nat.beq pc 20) (o_aload 0 21) o_bad) (cond (Nat.beq pc 21) (o_getf 11 35 24) o_bad)) (cond (Nat.blt pc 26) (cond (Nat.beq pc 24) (o_iload 5 26) o_bad) (cond (Nat.beq pc 26) (o_icmp (fun x y => x = y) 29 101) o_bad))))) (cond (Nat.blt pc 42) (cond (Nat.blt pc 34) (cond (Nat.blt pc 30) (cond (Nat.beq pc 29) (o_aload 0 30) o_bad) (cond (Nat.blt pc 33) (cond (Nat.beq pc 30) (o_getf 11 19 33) o_bad) (cond (Nat.beq pc 33) (o_aload 0 34) o_bad))) (cond (Nat.blt pc 38) (cond (Nat.blt pc 37) (cond (Nat.beq pc 34) (o_getf 11 34 37) o_bad) (cond (Nat.beq pc 37) (o_iald 38) o_bad)) (cond (Nat.blt pc 39) (cond (Nat.beq pc 38) (o_iload 1 39) o_bad) (cond (Nat.beq pc 39) (o_icmp (fun x y => x = y) 42 101) o_bad)))) (cond (Nat.blt pc 47) (cond (Nat.blt pc 43) (cond (Nat.beq pc 42) (o_aload 0 43) o_bad) (cond (Nat.blt pc 46) (cond (Nat.beq pc 43) (o_getf 11 19 46) o_bad) (cond (Nat.beq pc 46) (o_aload 0 47) o_bad))) (cond (Nat.blt pc 51) (cond (Nat.blt pc 50) (cond (Nat.beq pc 47) (o_getf 11 34 50) o_bad) (cond (Nat.beq pc 50) (o_const (1) 51) o_bad)) (cond (Nat.blt pc 52) (cond (Nat.beq pc 51) (o_bin (fun x y => x + y) 52) o_bad) (cond (Nat.beq pc 52) (o_iald 53) o_bad)))))) (cond (Nat.blt pc 78) (cond (Nat.blt pc 66) (cond (Nat.blt pc 58) (cond (Nat.blt pc 54) (cond (Nat.beq pc 53) (o_iload 2 54) o_bad) (cond (Nat.blt pc 57) (cond (Nat.beq pc 54) (o_icmp (fun x y => x = y) 57 101) o_bad) (cond (Nat.beq pc 57) (o_iload 3 58) o_bad))) (cond (Nat.blt pc 62) (cond (Nat.blt pc 61) (cond (Nat.beq pc 58) (o_if (fun x => x = 0) 76 61) o_bad) (cond (Nat.beq pc 61) (o_aload 0 62) o_bad)) (cond (Nat.blt pc 65) (cond (Nat.beq pc 62) (o_getf 11 19 65) o_bad) (cond (Nat.beq pc 65) (o_aload 0 66) o_bad)))) (cond (Nat.blt pc 71) (cond (Nat.blt pc 69) (cond (Nat.beq pc 66) (o_getf 11 34 69) o_bad) (cond (Nat.blt pc 70) (cond (Nat.beq pc 69) (o_const (2) 70) o_bad) (cond (Nat.beq pc 70) (o_bin (fun x y => x + y) 71) o_bad))) (cond (Nat.blt pc 73) (cond (Nat.blt pc 72) (cond (Nat.beq pc 71) (o_iald 72) o_bad) (cond (Nat.beq pc 72) (o_iload 3 73) o_bad)) (cond (Nat.blt pc 76) (cond (Nat.beq pc 73) (o_icmp (fun x y => x = y) 76 101) o_bad) (cond (Nat.beq pc 76) (o_iload 4 78) o_bad))))) (cond (Nat.blt pc 91) (cond (Nat.blt pc 85) (cond (Nat.blt pc 81) (cond (Nat.beq pc 78) (o_if (fun x => x = 0) 97 81) o_bad) (cond (Nat.blt pc 82) (cond (Nat.beq pc 81) (o_aload 0 82) o_bad) (cond (Nat.beq pc 82) (o_getf 11 19 85) o_bad))) (cond (Nat.blt pc 89) (cond (Nat.blt pc 86) (cond (Nat.beq pc 85) (o_aload 0 86) o_bad) (cond (Nat.beq pc 86) (o_getf 11 34 89) o_bad)) (cond (Nat.blt pc 90) (cond (Nat.beq pc 89) (o_const (3) 90) o_bad) (cond (Nat.beq pc 90) (o_bin (fun x y => x + y) 91) o_bad)))) (cond (Nat.blt pc 97) (cond (Nat.blt pc 92) (cond (Nat.beq pc 91) (o_iald 92) o_bad) (cond (Nat.blt pc 94) (cond (Nat.beq pc 92) (o_iload 4 94) o_bad) (cond (Nat.beq pc 94) (o_icmp (fun x y => x = y) 97 101) o_bad))) (cond (Nat.blt pc 101) (cond (Nat.blt pc 98) (cond (Nat.beq pc 97) (o_const (1) 98) o_bad) (cond (Nat.beq pc 98) (o_goto 102) o_bad)) (cond (Nat.blt pc 102) (cond (Nat.beq pc 101) (o_const (0) 102) o_bad) (cond (Nat.beq pc 102) (o_zret) o_bad))))))
set_option maxRecDepth 20000 in
theorem ok_X11_isWord : HOKs cX11_isWord RX11 6 (some .boolean) 1 ins_X11_isWord := fun _ => hnd (hnd (hnd (hnd (hnd (hlf (ok_iload_n dX11_isWord_0 rfl rfl)) (hnd (hlf (ok_if_ne dX11_isWord_1 (by decide) rfl)) (hlf (ok_iconst dX11_isWord_4 (by decide) rfl)))) (hnd (hnd (hlf (ok_goto dX11_isWord_5 (by decide))) (hlf (ok_iload dX11_isWord_8 rfl))) (hnd (hlf (ok_if_ne dX11_isWord_10 (by decide) rfl)) (hlf (ok_iconst dX11_isWord_13 (by decide) rfl))))) (hnd (hnd (hlf (ok_goto dX11_isWord_14 (by decide))) (hnd (hlf (ok_iconst dX11_isWord_17 (by decide) rfl)) (hlf (ok_istore dX11_isWord_18 (by decide) rfl)))) (hnd (hnd (hlf (ok_aload_n dX11_isWord_20 rfl rfl)) (hlf (ok_getf (C := RX11) (T := TX11) dX11_isWord_21 rfl rfl (by decide) rfl inX11 wd_912 rfl))) (hnd (hlf (ok_iload dX11_isWord_24 rfl)) (hlf (ok_icmp_ne dX11_isWord_26 (by decide) rfl)))))) (hnd (hnd (hnd (hlf (ok_aload_n dX11_isWord_29 rfl rfl)) (hnd (hlf (ok_getf (C := RX11) (T := TX11) dX11_isWord_30 rfl rfl (by decide) rfl inX11 wd_896 rfl)) (hlf (ok_aload_n dX11_isWord_33 rfl rfl)))) (hnd (hnd (hlf (ok_getf (C := RX11) (T := TX11) dX11_isWord_34 rfl rfl (by decide) rfl inX11 wd_911 rfl)) (hlf (ok_iald dX11_isWord_37 rfl))) (hnd (hlf (ok_iload_n dX11_isWord_38 rfl rfl)) (hlf (ok_icmp_ne dX11_isWord_39 (by decide) rfl))))) (hnd (hnd (hlf (ok_aload_n dX11_isWord_42 rfl rfl)) (hnd (hlf (ok_getf (C := RX11) (T := TX11) dX11_isWord_43 rfl rfl (by decide) rfl inX11 wd_896 rfl)) (hlf (ok_aload_n dX11_isWord_46 rfl rfl)))) (hnd (hnd (hlf (ok_getf (C := RX11) (T := TX11) dX11_isWord_47 rfl rfl (by decide) rfl inX11 wd_911 rfl)) (hlf (ok_iconst dX11_isWord_50 (by decide) rfl))) (hnd (hlf (ok_iadd dX11_isWord_51 rfl)) (hlf (ok_iald dX11_isWord_52 rfl))))))) (hnd (hnd (hnd (hnd (hlf (ok_iload_n dX11_isWord_53 rfl rfl)) (hnd (hlf (ok_icmp_ne dX11_isWord_54 (by decide) rfl)) (hlf (ok_iload_n dX11_isWord_57 rfl rfl)))) (hnd (hnd (hlf (ok_if_eq dX11_isWord_58 (by decide) rfl)) (hlf (ok_aload_n dX11_isWord_61 rfl rfl))) (hnd (hlf (ok_getf (C := RX11) (T := TX11) dX11_isWord_62 rfl rfl (by decide) rfl inX11 wd_896 rfl)) (hlf (ok_aload_n dX11_isWord_65 rfl rfl))))) (hnd (hnd (hlf (ok_getf (C := RX11) (T := TX11) dX11_isWord_66 rfl rfl (by decide) rfl inX11 wd_911 rfl)) (hnd (hlf (ok_iconst dX11_isWord_69 (by decide) rfl)) (hlf (ok_iadd dX11_isWord_70 rfl)))) (hnd (hnd (hlf (ok_iald dX11_isWord_71 rfl)) (hlf (ok_iload_n dX11_isWord_72 rfl rfl))) (hnd (hlf (ok_icmp_ne dX11_isWord_73 (by decide) rfl)) (hlf (ok_iload dX11_isWord_76 rfl)))))) (hnd (hnd (hnd (hlf (ok_if_eq dX11_isWord_78 (by decide) rfl)) (hnd (hlf (ok_aload_n dX11_isWord_81 rfl rfl)) (hlf (ok_getf (C := RX11) (T := TX11) dX11_isWord_82 rfl rfl (by decide) rfl inX11 wd_896 rfl)))) (hnd (hnd (hlf (ok_aload_n dX11_isWord_85 rfl rfl)) (hlf (ok_getf (C := RX11) (T := TX11) dX11_isWord_86 rfl rfl (by decide) rfl inX11 wd_911 rfl))) (hnd (hlf (ok_iconst dX11_isWord_89 (by decide) rfl)) (hlf (ok_iadd dX11_isWord_90 rfl))))) (hnd (hnd (hlf (ok_iald dX11_isWord_91 rfl)) (hnd (hlf (ok_iload dX11_isWord_92 rfl)) (hlf (ok_icmp_ne dX11_isWord_94 (by decide) rfl)))) (hnd (hnd (hlf (ok_iconst dX11_isWord_97 (by decide) rfl)) (hlf (ok_goto dX11_isWord_98 (by decide)))) (hnd (hlf (ok_iconst dX11_isWord_101 (by decide) rfl)) (hlf (ok_zret dX11_isWord_102)))))))

set_option maxHeartbeats 1000000 in
theorem vc_X11_isWord : MVC ins_X11_isWord 6 5 sp_X11_isWord := by
  refine mvc0 80 fun as w σ q hl hs => ?_
  unfold sp_X11_isWord at hs
  split at hs
  rotate_left
  · exact hs.elim
  rename_i c1 c2 c3 c4
  clear hl
  obtain ⟨h34, a, b, hab, hb, ha, hl, hs⟩ := hs
  have iff : ∀ L : Nat, L ≤ 4 → (σ 11 0 35 = nI L ↔ b - a = L) := fun L hL => by
    rw [hl]
    exact ⟨fun h => nI_inj h, fun h => by rw [h]⟩
  have sm : ∀ j, σ 11 0 34 + nI j = nI (a + j) := fun j => by rw [ha, nI_add]
  have tj : ∀ j, a + j < 60 → vp_in (σ 11 0 34 + nI j) 60 ∧ σ 20 15 (σ 11 0 34 + nI j).toNatClampNeg = σ 20 15 (a + j) := fun j hj => by
    rw [sm j, nI_clamp (by omega)]
    exact ⟨vp_in_nI hj (by decide), rfl⟩
  have i2 := iff 2 (by omega)
  have i3 := iff 3 (by omega)
  have i4 := iff 4 (by omega)
  unfold isW lenW at hs
  have t0 : a < 60 → vp_in (σ 11 0 34) 60 ∧ σ 20 15 (σ 11 0 34).toNatClampNeg = σ 20 15 a := fun h => by
    rw [ha, nI_clamp (by omega)]
    exact ⟨vp_in_nI h (by decide), rfl⟩
  by_cases h3 : c3 = 0
  · have h4 := h34 h3
    subst h3
    subst h4
    rw [if_pos rfl] at hs
    refine And.intro (fun _ => ?_) (fun h => absurd rfl h)
    apply br2
    rotate_left
    · intro h
      have h : ¬ σ 11 0 35 = nI 2 := h
      exact ⟨Or.inl rfl, hs.2 fun z => h (i2.mpr z.1)⟩
    intro h
    have h := i2.mp h
    have q0 := t0 (by omega)
    have q1 := tj 1 (by omega)
    refine And.intro q0.1 ?_
    apply br2
    rotate_left
    · intro h5
      have h5 : ¬ σ 20 15 (σ 11 0 34).toNatClampNeg = c1 := h5
      exact ⟨Or.inl rfl, hs.2 fun z => h5 (q0.2.trans z.2.1)⟩
    intro h5
    refine And.intro q1.1 ?_
    apply br2
    rotate_left
    · intro h6
      have h6 : ¬ σ 20 15 (σ 11 0 34 + nI 1).toNatClampNeg = c2 := h6
      exact ⟨Or.inl rfl, hs.2 fun z => h6 (q1.2.trans z.2.2.1)⟩
    intro h6
    refine And.intro (fun _ => And.intro (fun _ => ?_) (fun h => absurd rfl h)) (fun h => absurd rfl h)
    exact ⟨Or.inr rfl, hs.1 ⟨h, q0.2.symm.trans h5, q1.2.symm.trans h6, Or.inl rfl, Or.inl rfl⟩⟩
  · rw [if_neg h3] at hs
    refine And.intro (fun h => absurd h h3) (fun _ => ?_)
    by_cases h4 : c4 = 0
    · subst h4
      rw [if_pos rfl] at hs
      refine And.intro (fun _ => ?_) (fun h => absurd rfl h)
      apply br2
      rotate_left
      · intro h
        have h : ¬ σ 11 0 35 = nI 3 := h
        exact ⟨Or.inl rfl, hs.2 fun z => h (i3.mpr z.1)⟩
      intro h
      have h := i3.mp h
      have q0 := t0 (by omega)
      have q1 := tj 1 (by omega)
      have q2 := tj 2 (by omega)
      refine And.intro q0.1 ?_
      apply br2
      rotate_left
      · intro h5
        have h5 : ¬ σ 20 15 (σ 11 0 34).toNatClampNeg = c1 := h5
        exact ⟨Or.inl rfl, hs.2 fun z => h5 (q0.2.trans z.2.1)⟩
      intro h5
      refine And.intro q1.1 ?_
      apply br2
      rotate_left
      · intro h6
        have h6 : ¬ σ 20 15 (σ 11 0 34 + nI 1).toNatClampNeg = c2 := h6
        exact ⟨Or.inl rfl, hs.2 fun z => h6 (q1.2.trans z.2.2.1)⟩
      intro h6
      refine And.intro (fun h => absurd h h3) (fun _ => And.intro q2.1 ?_)
      apply br2
      rotate_left
      · intro h7
        have h7 : ¬ σ 20 15 (σ 11 0 34 + nI 2).toNatClampNeg = c3 := h7
        exact ⟨Or.inl rfl, hs.2 fun z => h7 (q2.2.trans (z.2.2.2.1.resolve_left h3))⟩
      intro h7
      refine And.intro (fun _ => ?_) (fun h => absurd rfl h)
      exact ⟨Or.inr rfl, hs.1 ⟨h, q0.2.symm.trans h5, q1.2.symm.trans h6, Or.inr (q2.2.symm.trans h7), Or.inl rfl⟩⟩
    · rw [if_neg h4] at hs
      refine And.intro (fun h => absurd h h4) (fun _ => ?_)
      apply br2
      rotate_left
      · intro h
        have h : ¬ σ 11 0 35 = nI 4 := h
        exact ⟨Or.inl rfl, hs.2 fun z => h (i4.mpr z.1)⟩
      intro h
      have h := i4.mp h
      have q0 := t0 (by omega)
      have q1 := tj 1 (by omega)
      have q2 := tj 2 (by omega)
      have q3 := tj 3 (by omega)
      refine And.intro q0.1 ?_
      apply br2
      rotate_left
      · intro h5
        have h5 : ¬ σ 20 15 (σ 11 0 34).toNatClampNeg = c1 := h5
        exact ⟨Or.inl rfl, hs.2 fun z => h5 (q0.2.trans z.2.1)⟩
      intro h5
      refine And.intro q1.1 ?_
      apply br2
      rotate_left
      · intro h6
        have h6 : ¬ σ 20 15 (σ 11 0 34 + nI 1).toNatClampNeg = c2 := h6
        exact ⟨Or.inl rfl, hs.2 fun z => h6 (q1.2.trans z.2.2.1)⟩
      intro h6
      refine And.intro (fun h => absurd h h3) (fun _ => And.intro q2.1 ?_)
      apply br2
      rotate_left
      · intro h7
        have h7 : ¬ σ 20 15 (σ 11 0 34 + nI 2).toNatClampNeg = c3 := h7
        exact ⟨Or.inl rfl, hs.2 fun z => h7 (q2.2.trans (z.2.2.2.1.resolve_left h3))⟩
      intro h7
      refine And.intro (fun h => absurd h h4) (fun _ => And.intro q3.1 ?_)
      apply br2
      rotate_left
      · intro h8
        have h8 : ¬ σ 20 15 (σ 11 0 34 + nI 3).toNatClampNeg = c4 := h8
        exact ⟨Or.inl rfl, hs.2 fun z => h8 (q3.2.trans (z.2.2.2.2.resolve_left h4))⟩
      intro h8
      exact ⟨Or.inr rfl, hs.1 ⟨h, q0.2.symm.trans h5, q1.2.symm.trans h6, Or.inr (q2.2.symm.trans h7), Or.inr (q3.2.symm.trans h8)⟩⟩
theorem ct_X11_isWord : Ctr yX11_isWord cX11_isWord 6 (some .boolean) 1 0 0 5 sp_X11_isWord := ctr_of (by decide +kernel) rfl (by decide) ok_X11_isWord vc_X11_isWord

