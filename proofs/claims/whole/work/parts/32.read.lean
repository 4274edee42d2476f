/-! Reading a right: words for both sides, and the reference's reader -/
def run (p : Nat → Bool) : Nat → Nat → Nat
  | 0, i => i
  | k + 1, i => if p i = true then run p k (i + 1) else i
theorem run_le (p : Nat → Bool) : ∀ k i, i ≤ run p k i ∧ run p k i ≤ i + k
  | 0, i => ⟨Nat.le_refl _, Nat.le_refl _⟩
  | k + 1, i => by
    have := run_le p k (i + 1)
    unfold run
    split <;> omega
theorem run_end (p : Nat → Bool) : ∀ k i, run p k i = i + k ∨ p (run p k i) = false
  | 0, i => Or.inl rfl
  | k + 1, i => by
    unfold run
    split
    · rcases run_end p k (i + 1) with h | h
      · left; omega
      · exact Or.inr h
    · rename_i h; right; simpa using h
theorem run_y {p : Nat → Bool} {z i : Nat} (hi : i < z) (h : p i = true) : run p (z - i) i = run p (z - (i + 1)) (i + 1) := by
  obtain ⟨k, hk⟩ : ∃ k, z - i = k + 1 := ⟨z - i - 1, by omega⟩
  rw [hk, show z - (i + 1) = k from by omega]
  show (if p i = true then run p k (i + 1) else i) = _
  rw [if_pos h]
theorem run_n {p : Nat → Bool} {z i : Nat} (hi : i < z) (h : p i = false) : run p (z - i) i = i := by
  obtain ⟨k, hk⟩ : ∃ k, z - i = k + 1 := ⟨z - i - 1, by omega⟩
  rw [hk]
  show (if p i = true then run p k (i + 1) else i) = _
  rw [if_neg (by rw [h]; decide)]
theorem run_z {p : Nat → Bool} {z : Nat} : run p (z - z) z = z := by
  rw [Nat.sub_self]; rfl
/-- where the next word begins and ends -/
def wA (T : Nat → Int32) (z e : Nat) : Nat := run (fun j => decide (T j = 32)) (z - e) e
def wE (T : Nat → Int32) (z a : Nat) : Nat := run (fun j => decide (¬ T j = 32)) (z - a) a
theorem wA_le {T : Nat → Int32} {z e : Nat} (h : e ≤ z) : e ≤ wA T z e ∧ wA T z e ≤ z := by
  have := run_le (fun j => decide (T j = 32)) (z - e) e
  unfold wA
  omega
theorem wE_le {T : Nat → Int32} {z e : Nat} (h : e ≤ z) : e ≤ wE T z e ∧ wE T z e ≤ z := by
  have := run_le (fun j => decide (¬ T j = 32)) (z - e) e
  unfold wE
  omega
theorem wE_lt {T : Nat → Int32} {z e : Nat} (h : e ≤ z) (h2 : wE T z (wA T z e) = wA T z e) : wA T z e = z := by
  have h3 := wA_le (T := T) h
  rcases Nat.lt_or_ge (wA T z e) z with q | q
  · exfalso
    have h4 := run_end (fun j => decide (T j = 32)) (z - e) e
    rcases h4 with h4 | h4
    · unfold wA at q; omega
    · have h5 : ¬ T (wA T z e) = 32 := by
        have := of_decide_eq_false h4
        exact this
      have h6 : wE T z (wA T z e) = wE T z (wA T z e + 1) := run_y q (decide_eq_true h5)
      have h7 := wE_le (T := T) (z := z) (e := wA T z e + 1) (by omega)
      omega
  · omega
def nxS (σ : HS) (a b : Nat) : HS := up3 (up3 (up3 σ 11 0 33 (nI b)) 11 0 34 (nI a)) 11 0 35 (nI (b - a))
def sp_X11_next : HSp := fun as w σ K => match as with
  | [.inr (.inl (11, some 0))] => ∃ e z, e ≤ z ∧ z ≤ 60 ∧ σ 11 0 33 = nI e ∧ σ 11 0 20 = nI z ∧ K none w (nxS σ (wA (σ 20 15) z e) (wE (σ 20 15) z (wA (σ 20 15) z e)))
  | _ => False
theorem up3_2 {σ : HS} {k i f : Nat} {x y : Int32} : up3 (up3 σ k i f x) k i f y = up3 σ k i f y := by
  funext a b c
  simp only [up3]
  split <;> rfl
theorem up3_cm {σ : HS} {k i f g : Nat} {x y : Int32} (h : f ≠ g) : up3 (up3 σ k i f x) k i g y = up3 (up3 σ k i g y) k i f x := by
  funext a b c
  simp only [up3]
  grind
theorem up3_v {σ : HS} {k i f : Nat} {x : Int32} : up3 σ k i f x k i f = x := by simp [up3]
theorem up3_id {σ : HS} {k i f : Nat} {x : Int32} (h : σ k i f = x) : up3 σ k i f x = σ := by
  funext a b c
  simp only [up3]
  split
  · rename_i q; rw [q.1, q.2.1, q.2.2, h]
  · rfl
theorem dX11_next_0 : decode cX11_next 0 = .ok (.aload_n 0, 1) := by decide +kernel
theorem dX11_next_1 : decode cX11_next 1 = .ok (.getfield 140, 3) := by decide +kernel
theorem dX11_next_4 : decode cX11_next 4 = .ok (.aload_n 0, 1) := by decide +kernel
theorem dX11_next_5 : decode cX11_next 5 = .ok (.getfield 133, 3) := by decide +kernel
theorem dX11_next_8 : decode cX11_next 8 = .ok (.if_icmp .ge 30, 3) := by decide +kernel
theorem dX11_next_11 : decode cX11_next 11 = .ok (.aload_n 0, 1) := by decide +kernel
theorem dX11_next_12 : decode cX11_next 12 = .ok (.getfield 59, 3) := by decide +kernel
theorem dX11_next_15 : decode cX11_next 15 = .ok (.aload_n 0, 1) := by decide +kernel
theorem dX11_next_16 : decode cX11_next 16 = .ok (.getfield 140, 3) := by decide +kernel
theorem dX11_next_19 : decode cX11_next 19 = .ok (.iaload, 1) := by decide +kernel
theorem dX11_next_20 : decode cX11_next 20 = .ok (.bipush 32, 2) := by decide +kernel
theorem dX11_next_22 : decode cX11_next 22 = .ok (.if_icmp .ne 16, 3) := by decide +kernel
theorem dX11_next_25 : decode cX11_next 25 = .ok (.aload_n 0, 1) := by decide +kernel
theorem dX11_next_26 : decode cX11_next 26 = .ok (.dup, 1) := by decide +kernel
theorem dX11_next_27 : decode cX11_next 27 = .ok (.getfield 140, 3) := by decide +kernel
theorem dX11_next_30 : decode cX11_next 30 = .ok (.iconst 1, 1) := by decide +kernel
theorem dX11_next_31 : decode cX11_next 31 = .ok (.iadd, 1) := by decide +kernel
theorem dX11_next_32 : decode cX11_next 32 = .ok (.putfield 140, 3) := by decide +kernel
theorem dX11_next_35 : decode cX11_next 35 = .ok (.goto (-35), 3) := by decide +kernel
theorem dX11_next_38 : decode cX11_next 38 = .ok (.aload_n 0, 1) := by decide +kernel
theorem dX11_next_39 : decode cX11_next 39 = .ok (.aload_n 0, 1) := by decide +kernel
theorem dX11_next_40 : decode cX11_next 40 = .ok (.getfield 140, 3) := by decide +kernel
theorem dX11_next_43 : decode cX11_next 43 = .ok (.putfield 143, 3) := by decide +kernel
theorem dX11_next_46 : decode cX11_next 46 = .ok (.aload_n 0, 1) := by decide +kernel
theorem dX11_next_47 : decode cX11_next 47 = .ok (.getfield 140, 3) := by decide +kernel
theorem dX11_next_50 : decode cX11_next 50 = .ok (.aload_n 0, 1) := by decide +kernel
theorem dX11_next_51 : decode cX11_next 51 = .ok (.getfield 133, 3) := by decide +kernel
theorem dX11_next_54 : decode cX11_next 54 = .ok (.if_icmp .ge 30, 3) := by decide +kernel
theorem dX11_next_57 : decode cX11_next 57 = .ok (.aload_n 0, 1) := by decide +kernel
theorem dX11_next_58 : decode cX11_next 58 = .ok (.getfield 59, 3) := by decide +kernel
theorem dX11_next_61 : decode cX11_next 61 = .ok (.aload_n 0, 1) := by decide +kernel
theorem dX11_next_62 : decode cX11_next 62 = .ok (.getfield 140, 3) := by decide +kernel
theorem dX11_next_65 : decode cX11_next 65 = .ok (.iaload, 1) := by decide +kernel
theorem dX11_next_66 : decode cX11_next 66 = .ok (.bipush 32, 2) := by decide +kernel
theorem dX11_next_68 : decode cX11_next 68 = .ok (.if_icmp .eq 16, 3) := by decide +kernel
theorem dX11_next_71 : decode cX11_next 71 = .ok (.aload_n 0, 1) := by decide +kernel
theorem dX11_next_72 : decode cX11_next 72 = .ok (.dup, 1) := by decide +kernel
theorem dX11_next_73 : decode cX11_next 73 = .ok (.getfield 140, 3) := by decide +kernel
theorem dX11_next_76 : decode cX11_next 76 = .ok (.iconst 1, 1) := by decide +kernel
theorem dX11_next_77 : decode cX11_next 77 = .ok (.iadd, 1) := by decide +kernel
theorem dX11_next_78 : decode cX11_next 78 = .ok (.putfield 140, 3) := by decide +kernel
theorem dX11_next_81 : decode cX11_next 81 = .ok (.goto (-35), 3) := by decide +kernel
theorem dX11_next_84 : decode cX11_next 84 = .ok (.aload_n 0, 1) := by decide +kernel
theorem dX11_next_85 : decode cX11_next 85 = .ok (.aload_n 0, 1) := by decide +kernel
theorem dX11_next_86 : decode cX11_next 86 = .ok (.getfield 140, 3) := by decide +kernel
theorem dX11_next_89 : decode cX11_next 89 = .ok (.aload_n 0, 1) := by decide +kernel
theorem dX11_next_90 : decode cX11_next 90 = .ok (.getfield 143, 3) := by decide +kernel
theorem dX11_next_93 : decode cX11_next 93 = .ok (.isub, 1) := by decide +kernel
theorem dX11_next_94 : decode cX11_next 94 = .ok (.putfield 146, 3) := by decide +kernel
theorem dX11_next_97 : decode cX11_next 97 = .ok (.return_, 1) := by decide +kernel
def ins_X11_next (pc : Nat) : HOp := cond (Nat.blt pc 50) (cond (Nat.blt pc 25) (cond (Nat.blt pc 12) (cond (Nat.blt pc 5) (cond (Nat.blt pc 1) (cond (Nat.beq pc 0) (o_aload 0 1) o_bad) (cond (Nat.blt pc 4) (cond (Nat.beq pc 1) (o_getf 11 33 4) o_bad) (cond (Nat.beq pc 4) (o_aload 0 5) o_bad))) (cond (Nat.blt pc 8) (cond (Nat.beq pc 5) (o_getf 11 20 8) o_bad) (cond (Nat.blt pc 11) (cond (Nat.beq pc 8) (o_icmp (fun x y => y ≤ x) 38 11) o_bad) (cond (Nat.beq pc 11) (o_aload 0 12) o_bad)))) (cond (Nat.blt pc 19) (cond (Nat.blt pc 15) (cond (Nat.beq pc 12) (o_getf 11 19 15) o_bad) (cond (Nat.blt pc 16) (cond (Nat.beq pc 15) (o_aload 0 16) o_bad) (cond (Nat.beq pc 16) (o_getf 11 33 19) o_bad))) (cond (Nat.blt pc 20) (cond (Nat.beq pc 19) (o_iald 20) o_bad) (cond (Nat.blt pc 22) (cond (Nat.beq pc 20) (o_const (32) 22) o_bad) (cond (Nat.beq pc 22) (o_icmp (fun x y => x = y) 25 38) o_bad))))) (cond (Nat.blt pc 35) (cond (Nat.blt pc 30) (cond (Nat.blt pc 26) (cond (Nat.beq pc 25) (o_aload 0 26) o_bad) (cond (Nat.blt pc 27) (cond (Nat.beq pc 26) (o_dup 27) o_bad) (cond (Nat.beq pc 27) (o_getf 11 33 30) o_bad))) (cond (Nat.blt pc 31) (cond (Nat.beq pc 30) (o_const (1) 31) o_bad) (cond (Nat.blt pc 32) (cond (Nat.beq pc 31) (o_bin (fun x y => x + y) 32) o_bad) (cond (Nat.beq pc 32) (o_putf 11 33 35) o_bad)))) (cond (Nat.blt pc 40) (cond (Nat.blt pc 38) (cond (Nat.beq pc 35) (o_goto 0) o_bad) (cond (Nat.blt pc 39) (cond (Nat.beq pc 38) (o_aload 0 39) o_bad) (cond (Nat.beq pc 39) (o_aload 0 40) o_bad))) (cond (Nat.blt pc 46) (cond (Nat.blt pc 43) (cond (Nat.beq pc 40) (o_getf 11 33 43) o_bad) (cond (Nat.beq pc 43) (o_putf 11 34 46) o_bad)) (cond (Nat.blt pc 47) (cond (Nat.beq pc 46) (o_aload 0 47) o_bad) (cond (Nat.beq pc 47) (o_getf 11 33 50) o_bad)))))) (cond (Nat.blt pc 73) (cond (Nat.blt pc 62) (cond (Nat.blt pc 57) (cond (Nat.blt pc 51) (cond (Nat.beq pc 50) (o_aload 0 51) o_bad) (cond (Nat.blt pc 54) (cond (Nat.beq pc 51) (o_getf 11 20 54) o_bad) (cond (Nat.beq pc 54) (o_icmp (fun x y => y ≤ x) 84 57) o_bad))) (cond (Nat.blt pc 58) (cond (Nat.beq pc 57) (o_aload 0 58) o_bad) (cond (Nat.blt pc 61) (cond (Nat.beq pc 58) (o_getf 11 19 61) o_bad) (cond (Nat.beq pc 61) (o_aload 0 62) o_bad)))) (cond (Nat.blt pc 68) (cond (Nat.blt pc 65) (cond (Nat.beq pc 62) (o_getf 11 33 65) o_bad) (cond (Nat.blt pc 66) (cond (Nat.beq pc 65) (o_iald 66) o_bad) (cond (Nat.beq pc 66) (o_const (32) 68) o_bad))) (cond (Nat.blt pc 71) (cond (Nat.beq pc 68) (o_icmp (fun x y => x = y) 84 71) o_bad) (cond (Nat.blt pc 72) (cond (Nat.beq pc 71) (o_aload 0 72) o_bad) (cond (Nat.beq pc 72) (o_dup 73) o_bad))))) (cond (Nat.blt pc 85) (cond (Nat.blt pc 78) (cond (Nat.blt pc 76) (cond (Nat.beq pc 73) (o_getf 11 33 76) o_bad) (cond (Nat.blt pc 77) (cond (Nat.beq pc 76) (o_const (1) 77) o_bad) (cond (Nat.beq pc 77) (o_bin (fun x y => x + y) 78) o_bad))) (cond (Nat.blt pc 81) (cond (Nat.beq pc 78) (o_putf 11 33 81) o_bad) (cond (Nat.blt pc 84) (cond (Nat.beq pc 81) (o_goto 46) o_bad) (cond (Nat.beq pc 84) (o_aload 0 85) o_bad)))) (cond (Nat.blt pc 90) (cond (Nat.blt pc 86) (cond (Nat.beq pc 85) (o_aload 0 86) o_bad) (cond (Nat.blt pc 89) (cond (Nat.beq pc 86) (o_getf 11 33 89) o_bad) (cond (Nat.beq pc 89) (o_aload 0 90) o_bad))) (cond (Nat.blt pc 94) (cond (Nat.blt pc 93) (cond (Nat.beq pc 90) (o_getf 11 34 93) o_bad) (cond (Nat.beq pc 93) (o_bin (fun x y => x - y) 94) o_bad)) (cond (Nat.blt pc 97) (cond (Nat.beq pc 94) (o_putf 11 35 97) o_bad) (cond (Nat.beq pc 97) (o_vret) o_bad))))))
set_option maxRecDepth 20000 in
theorem ok_X11_next : HOKs cX11_next RX11 1 none 1 ins_X11_next := fun _ => hnd (hnd (hnd (hnd (hnd (hlf (ok_aload_n dX11_next_0 rfl rfl)) (hnd (hlf (ok_getf (C := RX11) (T := TX11) dX11_next_1 rfl rfl (by decide) rfl inX11 wd_915 rfl)) (hlf (ok_aload_n dX11_next_4 rfl rfl)))) (hnd (hlf (ok_getf (C := RX11) (T := TX11) dX11_next_5 rfl rfl (by decide) rfl inX11 wd_902 rfl)) (hnd (hlf (ok_icmp_ge dX11_next_8 (by decide) rfl)) (hlf (ok_aload_n dX11_next_11 rfl rfl))))) (hnd (hnd (hlf (ok_getf (C := RX11) (T := TX11) dX11_next_12 rfl rfl (by decide) rfl inX11 wd_901 rfl)) (hnd (hlf (ok_aload_n dX11_next_15 rfl rfl)) (hlf (ok_getf (C := RX11) (T := TX11) dX11_next_16 rfl rfl (by decide) rfl inX11 wd_915 rfl)))) (hnd (hlf (ok_iald dX11_next_19 rfl)) (hnd (hlf (ok_bipush dX11_next_20 (by decide) rfl)) (hlf (ok_icmp_ne dX11_next_22 (by decide) rfl)))))) (hnd (hnd (hnd (hlf (ok_aload_n dX11_next_25 rfl rfl)) (hnd (hlf (ok_dup dX11_next_26 rfl)) (hlf (ok_getf (C := RX11) (T := TX11) dX11_next_27 rfl rfl (by decide) rfl inX11 wd_915 rfl)))) (hnd (hlf (ok_iconst dX11_next_30 (by decide) rfl)) (hnd (hlf (ok_iadd dX11_next_31 rfl)) (hlf (ok_putf (C := RX11) (T := TX11) dX11_next_32 rfl rfl (by decide) rfl inX11 tyX11_ok nmX11 rfl rfl (fun _ _ => rfl) wd_915 rfl))))) (hnd (hnd (hlf (ok_goto dX11_next_35 (by decide))) (hnd (hlf (ok_aload_n dX11_next_38 rfl rfl)) (hlf (ok_aload_n dX11_next_39 rfl rfl)))) (hnd (hnd (hlf (ok_getf (C := RX11) (T := TX11) dX11_next_40 rfl rfl (by decide) rfl inX11 wd_915 rfl)) (hlf (ok_putf (C := RX11) (T := TX11) dX11_next_43 rfl rfl (by decide) rfl inX11 tyX11_ok nmX11 rfl rfl (fun _ _ => rfl) wd_916 rfl))) (hnd (hlf (ok_aload_n dX11_next_46 rfl rfl)) (hlf (ok_getf (C := RX11) (T := TX11) dX11_next_47 rfl rfl (by decide) rfl inX11 wd_915 rfl))))))) (hnd (hnd (hnd (hnd (hlf (ok_aload_n dX11_next_50 rfl rfl)) (hnd (hlf (ok_getf (C := RX11) (T := TX11) dX11_next_51 rfl rfl (by decide) rfl inX11 wd_902 rfl)) (hlf (ok_icmp_ge dX11_next_54 (by decide) rfl)))) (hnd (hlf (ok_aload_n dX11_next_57 rfl rfl)) (hnd (hlf (ok_getf (C := RX11) (T := TX11) dX11_next_58 rfl rfl (by decide) rfl inX11 wd_901 rfl)) (hlf (ok_aload_n dX11_next_61 rfl rfl))))) (hnd (hnd (hlf (ok_getf (C := RX11) (T := TX11) dX11_next_62 rfl rfl (by decide) rfl inX11 wd_915 rfl)) (hnd (hlf (ok_iald dX11_next_65 rfl)) (hlf (ok_bipush dX11_next_66 (by decide) rfl)))) (hnd (hlf (ok_icmp_eq dX11_next_68 (by decide) rfl)) (hnd (hlf (ok_aload_n dX11_next_71 rfl rfl)) (hlf (ok_dup dX11_next_72 rfl)))))) (hnd (hnd (hnd (hlf (ok_getf (C := RX11) (T := TX11) dX11_next_73 rfl rfl (by decide) rfl inX11 wd_915 rfl)) (hnd (hlf (ok_iconst dX11_next_76 (by decide) rfl)) (hlf (ok_iadd dX11_next_77 rfl)))) (hnd (hlf (ok_putf (C := RX11) (T := TX11) dX11_next_78 rfl rfl (by decide) rfl inX11 tyX11_ok nmX11 rfl rfl (fun _ _ => rfl) wd_915 rfl)) (hnd (hlf (ok_goto dX11_next_81 (by decide))) (hlf (ok_aload_n dX11_next_84 rfl rfl))))) (hnd (hnd (hlf (ok_aload_n dX11_next_85 rfl rfl)) (hnd (hlf (ok_getf (C := RX11) (T := TX11) dX11_next_86 rfl rfl (by decide) rfl inX11 wd_915 rfl)) (hlf (ok_aload_n dX11_next_89 rfl rfl)))) (hnd (hnd (hlf (ok_getf (C := RX11) (T := TX11) dX11_next_90 rfl rfl (by decide) rfl inX11 wd_916 rfl)) (hlf (ok_isub dX11_next_93 rfl))) (hnd (hlf (ok_putf (C := RX11) (T := TX11) dX11_next_94 rfl rfl (by decide) rfl inX11 tyX11_ok nmX11 rfl rfl (fun _ _ => rfl) wd_917 rfl)) (hlf (ok_vret dX11_next_97)))))))

set_option maxHeartbeats 1000000 in
theorem vc_X11_next : MVC ins_X11_next 1 1 sp_X11_next := by
  intro as w σ q hl hs
  unfold sp_X11_next at hs
  split at hs
  rotate_left
  · exact hs.elim
  obtain ⟨e, z, hez, hz, he, hsz, hq⟩ := hs
  obtain ⟨A, hA⟩ : ∃ A, A = wA (σ 20 15) z e := ⟨_, rfl⟩
  obtain ⟨B, hB⟩ : ∃ B, B = wE (σ 20 15) z A := ⟨_, rfl⟩
  rw [← hA, ← hB] at hq
  have hAz := wA_le (T := σ 20 15) hez
  rw [← hA] at hAz
  refine ⟨fun pc => Nat.beq pc 0 || Nat.beq pc 46, fun pc N ls st w' σ' => ls = [some (HR 11 0)] ∧ st = [] ∧ w = w' ∧
    ((pc = 0 ∧ ∃ i, i ≤ z ∧ N = 1000 + (z - i) ∧ σ' = up3 σ 11 0 33 (nI i) ∧ wA (σ 20 15) z i = A) ∨
     (pc = 46 ∧ ∃ i, A ≤ i ∧ i ≤ z ∧ N = z - i ∧ σ' = up3 (up3 σ 11 0 33 (nI i)) 11 0 34 (nI A) ∧ wE (σ 20 15) z i = B)), 60, 60, ?_, ?_⟩
  · rintro N pc ls st w' σ' hh ⟨rfl, rfl, rfl, (⟨rfl, i, hi, rfl, rfl, hr⟩ | ⟨rfl, i, hAi, hi, rfl, rfl, hr⟩)⟩
    · have e20 : up3 σ 11 0 33 (nI i) 11 0 20 = nI z := by rw [up3_o (by omega)]; exact hsz
      have e33 : up3 σ 11 0 33 (nI i) 11 0 33 = nI i := up3_v
      have ex : A = i → ∃ N', N' < 1000 + (z - i) ∧ [some (HR 11 0)] = [some (HR 11 0)] ∧ ([] : List HV) = [] ∧ w = w ∧ ((46 = 0 ∧ ∃ i2, i2 ≤ z ∧ N' = 1000 + (z - i2) ∧ up3 (up3 σ 11 0 33 (nI i)) 11 0 34 (up3 σ 11 0 33 (nI i) 11 0 33) = up3 σ 11 0 33 (nI i2) ∧ wA (σ 20 15) z i2 = A) ∨ (46 = 46 ∧ ∃ i2, A ≤ i2 ∧ i2 ≤ z ∧ N' = z - i2 ∧ up3 (up3 σ 11 0 33 (nI i)) 11 0 34 (up3 σ 11 0 33 (nI i) 11 0 33) = up3 (up3 σ 11 0 33 (nI i2)) 11 0 34 (nI A) ∧ wE (σ 20 15) z i2 = B)) := fun h => by
        refine ⟨z - i, by omega, rfl, rfl, rfl, Or.inr ⟨rfl, i, by omega, hi, rfl, ?_, by rw [← h, hB]⟩⟩
        rw [up3_v, h]
      apply br2
      · intro h1
        have h1 : up3 σ 11 0 33 (nI i) 11 0 20 ≤ up3 σ 11 0 33 (nI i) 11 0 33 := h1
        rw [e33] at h1
        obtain rfl := lp_end e20 hi h1
        exact ex (by rw [← hr]; exact run_z)
      intro h1
      have h1 : ¬ up3 σ 11 0 33 (nI i) 11 0 20 ≤ up3 σ 11 0 33 (nI i) 11 0 33 := h1
      rw [e33] at h1
      have hlt := lp_go e20 hi h1
      have et : up3 σ 11 0 33 (nI i) 20 15 (up3 σ 11 0 33 (nI i) 11 0 33).toNatClampNeg = σ 20 15 i := by rw [e33, nI_clamp (by omega), up3_o (by omega)]
      refine And.intro (by rw [e33]; exact vp_in_nI (N := 60) (by omega) (by decide)) ?_
      apply br2
      · intro h2
        have h2 : up3 σ 11 0 33 (nI i) 20 15 (up3 σ 11 0 33 (nI i) 11 0 33).toNatClampNeg = 32 := h2
        rw [et] at h2
        refine ⟨1000 + (z - (i + 1)), by omega, rfl, rfl, rfl, Or.inl ⟨rfl, i + 1, hlt, rfl, ?_, ?_⟩⟩
        · rw [e33, up3_2]
          congr 1
          exact nI_1 i
        · rw [← hr]
          exact (run_y hlt (decide_eq_true h2)).symm
      · intro h2
        have h2 : ¬ up3 σ 11 0 33 (nI i) 20 15 (up3 σ 11 0 33 (nI i) 11 0 33).toNatClampNeg = 32 := h2
        rw [et] at h2
        exact ex (by rw [← hr]; exact run_n hlt (decide_eq_false h2))
    · obtain ⟨σ1, hσ⟩ : ∃ σ1, σ1 = up3 (up3 σ 11 0 33 (nI i)) 11 0 34 (nI A) := ⟨_, rfl⟩
      rw [← hσ]
      have e20 : σ1 11 0 20 = nI z := by rw [hσ, up3_o (by omega), up3_o (by omega)]; exact hsz
      have e33 : σ1 11 0 33 = nI i := by rw [hσ, up3_o (by omega)]; exact up3_v
      have e34 : σ1 11 0 34 = nI A := by rw [hσ]; exact up3_v
      have eT : ∀ j, σ1 20 15 j = σ 20 15 j := fun j => by rw [hσ, up3_o (by omega), up3_o (by omega)]
      have ex : B = i → q none w (up3 σ1 11 0 35 (σ1 11 0 33 - σ1 11 0 34)) := fun h => by
        rw [e33, e34, pk_sub hAi, hσ, ← h]
        exact hq
      apply br2
      · intro h1
        have h1 : σ1 11 0 20 ≤ σ1 11 0 33 := h1
        rw [e33] at h1
        obtain rfl := lp_end e20 hi h1
        exact ex (by rw [← hr]; exact run_z)
      intro h1
      have h1 : ¬ σ1 11 0 20 ≤ σ1 11 0 33 := h1
      rw [e33] at h1
      have hlt := lp_go e20 hi h1
      have et : σ1 20 15 (σ1 11 0 33).toNatClampNeg = σ 20 15 i := by rw [e33, nI_clamp (by omega), eT]
      refine And.intro (by rw [e33]; exact vp_in_nI (N := 60) (by omega) (by decide)) ?_
      apply br2
      · intro h2
        have h2 : σ1 20 15 (σ1 11 0 33).toNatClampNeg = 32 := h2
        rw [et] at h2
        exact ex (by rw [← hr]; exact run_n hlt (decide_eq_false fun z => z h2))
      · intro h2
        have h2 : ¬ σ1 20 15 (σ1 11 0 33).toNatClampNeg = 32 := h2
        rw [et] at h2
        refine ⟨z - (i + 1), by omega, rfl, rfl, rfl, Or.inr ⟨rfl, i + 1, by omega, hlt, rfl, ?_, ?_⟩⟩
        · rw [e33, hσ, up3_cm (by decide), up3_2]
          congr 2
          exact nI_1 i
        · rw [← hr]
          exact (run_y hlt (decide_eq_true h2)).symm
  · exact ⟨1000 + (z - e), rfl, rfl, rfl, Or.inl ⟨rfl, e, hez, rfl, (up3_id he).symm, hA.symm⟩⟩
theorem ct_X11_next : Ctr yX11_next cX11_next 1 none 1 0 0 1 sp_X11_next := ctr_of (by decide +kernel) rfl (by decide) ok_X11_next vc_X11_next

