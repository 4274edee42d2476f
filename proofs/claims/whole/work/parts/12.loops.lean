/-! counting, and one loop in a method -/
def cnt (p : Nat → Bool) : Nat → Nat
  | 0 => 0
  | n + 1 => cnt p n + (if p n then 1 else 0)
theorem cnt_le (p : Nat → Bool) : ∀ n, cnt p n ≤ n
  | 0 => Nat.le_refl 0
  | n + 1 => by have := cnt_le p n; unfold cnt; split <;> omega
theorem cnt_y {p : Nat → Bool} {n : Nat} (h : p n = true) : cnt p (n + 1) = cnt p n + 1 := by simp [cnt, h]
theorem cnt_n {p : Nat → Bool} {n : Nat} (h : p n = false) : cnt p (n + 1) = cnt p n := by simp [cnt, h]
def cut1 (h : Nat) (I : Nat → HKp) (N : Nat) : Nat → Option HKp := fun pc => bif Nat.beq pc h then some (fun ls st w σ => ∃ N', N' < N ∧ I N' ls st w σ) else none
def cut1A (h : Nat) (I : Nat → HKp) : Nat → Option HKp := fun pc => bif Nat.beq pc h then some (fun ls st w σ => ∃ N, I N ls st w σ) else none
theorem mvc1 {ins : Nat → HOp} {nL n : Nat} {sp : HSp} (h F : Nat) (H : ∀ as w σ q, as.length = n → sp as w σ q → ∃ I : Nat → HKp, (∀ N ls st w' σ', I N ls st w' σ' → ins h (wp ins (cut1 h I N) q F) q ls st w' σ') ∧ wp ins (cut1A h I) q F 0 (loc0 nL as) [] w σ) : MVC ins nL n sp := by
  intro as w σ q hl hs
  obtain ⟨I, h1, h2⟩ := H as w σ q hl hs
  refine ⟨fun pc => Nat.beq pc h, fun _ => I, F, F, fun N pc ls st w' σ' hh hi => ?_, h2⟩
  have e := Nat.eq_of_beq_eq_true hh
  subst e
  exact h1 N ls st w' σ' hi
def Bk (w : HW) (σ : HS) (n : Nat) : Prop := n ≤ 100 ∧ σ 0 0 1 = nI n ∧ ∀ j, j < n → w.2 18 j = some j
theorem lp_end {a n : Nat} {z : Int32} (hz : z = nI n) (ha : a ≤ n) (h : z ≤ nI a) (hn : n < 2 ^ 31 := by omega) : a = n := by
  subst hz
  have := (nI_leI hn (by omega)).mp h
  omega
theorem lp_go {a n : Nat} {z : Int32} (hz : z = nI n) (ha : a ≤ n) (h : ¬ z ≤ nI a) (hn : n < 2 ^ 31 := by omega) : a < n := by
  subst hz
  rcases Nat.lt_or_ge a n with q | q
  · exact q
  · exact absurd (nI_le q (by omega)) h
theorem ra_at {w : HW} {k i j : Nat} {o : Option Nat} (h : w.2 k (nI i).toNatClampNeg = o) (hr : w.2 k i = some j) (hi : i < 2 ^ 31 := by omega) : o = some j := by
  rw [← h, nI_clamp hi, hr]
def sp_X0_inState : HSp := fun as w σ K => match as with
  | [.inr (.inl (0, some 0)), .inl x] => ∃ n, Bk w σ n ∧ K (some (HI (nI (cnt (fun i => decide (σ 9 i 6 = x)) n)))) w σ
  | _ => False
theorem dX0_inState_0 : decode cX0_inState 0 = .ok (.iconst 0, 1) := by decide +kernel
theorem dX0_inState_1 : decode cX0_inState 1 = .ok (.istore_n 2, 1) := by decide +kernel
theorem dX0_inState_2 : decode cX0_inState 2 = .ok (.iconst 0, 1) := by decide +kernel
theorem dX0_inState_3 : decode cX0_inState 3 = .ok (.istore_n 3, 1) := by decide +kernel
theorem dX0_inState_4 : decode cX0_inState 4 = .ok (.iload_n 3, 1) := by decide +kernel
theorem dX0_inState_5 : decode cX0_inState 5 = .ok (.aload_n 0, 1) := by decide +kernel
theorem dX0_inState_6 : decode cX0_inState 6 = .ok (.getfield 17, 3) := by decide +kernel
theorem dX0_inState_9 : decode cX0_inState 9 = .ok (.if_icmp .ge 30, 3) := by decide +kernel
theorem dX0_inState_12 : decode cX0_inState 12 = .ok (.iload_n 2, 1) := by decide +kernel
theorem dX0_inState_13 : decode cX0_inState 13 = .ok (.aload_n 0, 1) := by decide +kernel
theorem dX0_inState_14 : decode cX0_inState 14 = .ok (.getfield 13, 3) := by decide +kernel
theorem dX0_inState_17 : decode cX0_inState 17 = .ok (.iload_n 3, 1) := by decide +kernel
theorem dX0_inState_18 : decode cX0_inState 18 = .ok (.aaload, 1) := by decide +kernel
theorem dX0_inState_19 : decode cX0_inState 19 = .ok (.getfield 30, 3) := by decide +kernel
theorem dX0_inState_22 : decode cX0_inState 22 = .ok (.iload_n 1, 1) := by decide +kernel
theorem dX0_inState_23 : decode cX0_inState 23 = .ok (.if_icmp .ne 7, 3) := by decide +kernel
theorem dX0_inState_26 : decode cX0_inState 26 = .ok (.iconst 1, 1) := by decide +kernel
theorem dX0_inState_27 : decode cX0_inState 27 = .ok (.goto 4, 3) := by decide +kernel
theorem dX0_inState_30 : decode cX0_inState 30 = .ok (.iconst 0, 1) := by decide +kernel
theorem dX0_inState_31 : decode cX0_inState 31 = .ok (.iadd, 1) := by decide +kernel
theorem dX0_inState_32 : decode cX0_inState 32 = .ok (.istore_n 2, 1) := by decide +kernel
theorem dX0_inState_33 : decode cX0_inState 33 = .ok (.iinc 3 1, 3) := by decide +kernel
theorem dX0_inState_36 : decode cX0_inState 36 = .ok (.goto (-32), 3) := by decide +kernel
theorem dX0_inState_39 : decode cX0_inState 39 = .ok (.iload_n 2, 1) := by decide +kernel
theorem dX0_inState_40 : decode cX0_inState 40 = .ok (.ireturn, 1) := by decide +kernel
def ins_X0_inState (pc : Nat) : HOp := cond (Nat.blt pc 18) (cond (Nat.blt pc 6) (cond (Nat.blt pc 3) (cond (Nat.blt pc 1) (cond (Nat.beq pc 0) (o_const (0) 1) o_bad) (cond (Nat.blt pc 2) (cond (Nat.beq pc 1) (o_istore 2 2) o_bad) (cond (Nat.beq pc 2) (o_const (0) 3) o_bad))) (cond (Nat.blt pc 4) (cond (Nat.beq pc 3) (o_istore 3 4) o_bad) (cond (Nat.blt pc 5) (cond (Nat.beq pc 4) (o_iload 3 5) o_bad) (cond (Nat.beq pc 5) (o_aload 0 6) o_bad)))) (cond (Nat.blt pc 13) (cond (Nat.blt pc 9) (cond (Nat.beq pc 6) (o_getf 0 1 9) o_bad) (cond (Nat.blt pc 12) (cond (Nat.beq pc 9) (o_icmp (fun x y => y ≤ x) 39 12) o_bad) (cond (Nat.beq pc 12) (o_iload 2 13) o_bad))) (cond (Nat.blt pc 14) (cond (Nat.beq pc 13) (o_aload 0 14) o_bad) (cond (Nat.blt pc 17) (cond (Nat.beq pc 14) (o_getf 0 0 17) o_bad) (cond (Nat.beq pc 17) (o_iload 3 18) o_bad))))) (cond (Nat.blt pc 30) (cond (Nat.blt pc 23) (cond (Nat.blt pc 19) (cond (Nat.beq pc 18) (o_aald 19) o_bad) (cond (Nat.blt pc 22) (cond (Nat.beq pc 19) (o_getf 9 6 22) o_bad) (cond (Nat.beq pc 22) (o_iload 1 23) o_bad))) (cond (Nat.blt pc 26) (cond (Nat.beq pc 23) (o_icmp (fun x y => x = y) 26 30) o_bad) (cond (Nat.blt pc 27) (cond (Nat.beq pc 26) (o_const (1) 27) o_bad) (cond (Nat.beq pc 27) (o_goto 31) o_bad)))) (cond (Nat.blt pc 33) (cond (Nat.blt pc 31) (cond (Nat.beq pc 30) (o_const (0) 31) o_bad) (cond (Nat.blt pc 32) (cond (Nat.beq pc 31) (o_bin (fun x y => x + y) 32) o_bad) (cond (Nat.beq pc 32) (o_istore 2 33) o_bad))) (cond (Nat.blt pc 39) (cond (Nat.blt pc 36) (cond (Nat.beq pc 33) (o_iinc 3 (1) 36) o_bad) (cond (Nat.beq pc 36) (o_goto 4) o_bad)) (cond (Nat.blt pc 40) (cond (Nat.beq pc 39) (o_iload 2 40) o_bad) (cond (Nat.beq pc 40) (o_iret) o_bad)))))
set_option maxRecDepth 20000 in
theorem ok_X0_inState : HOKs cX0_inState RX0 4 (some .int) 1 ins_X0_inState := fun _ => hnd (hnd (hnd (hnd (hlf (ok_iconst dX0_inState_0 (by decide) rfl)) (hnd (hlf (ok_istore_n dX0_inState_1 rfl (by decide) rfl)) (hlf (ok_iconst dX0_inState_2 (by decide) rfl)))) (hnd (hlf (ok_istore_n dX0_inState_3 rfl (by decide) rfl)) (hnd (hlf (ok_iload_n dX0_inState_4 rfl rfl)) (hlf (ok_aload_n dX0_inState_5 rfl rfl))))) (hnd (hnd (hlf (ok_getf (C := RX0) (T := TX0) dX0_inState_6 rfl rfl (by decide) rfl inX0 wd_148 rfl)) (hnd (hlf (ok_icmp_ge dX0_inState_9 (by decide) rfl)) (hlf (ok_iload_n dX0_inState_12 rfl rfl)))) (hnd (hlf (ok_aload_n dX0_inState_13 rfl rfl)) (hnd (hlf (ok_getf (C := RX0) (T := TX0) dX0_inState_14 rfl rfl (by decide) rfl inX0 wd_145 rfl)) (hlf (ok_iload_n dX0_inState_17 rfl rfl)))))) (hnd (hnd (hnd (hlf (ok_aald dX0_inState_18 rfl)) (hnd (hlf (ok_getfN (C := RX9) (T := TX9) dX0_inState_19 rfl rfl (by decide) rfl inX9 wd_263 rfl)) (hlf (ok_iload_n dX0_inState_22 rfl rfl)))) (hnd (hlf (ok_icmp_ne dX0_inState_23 (by decide) rfl)) (hnd (hlf (ok_iconst dX0_inState_26 (by decide) rfl)) (hlf (ok_goto dX0_inState_27 (by decide)))))) (hnd (hnd (hlf (ok_iconst dX0_inState_30 (by decide) rfl)) (hnd (hlf (ok_iadd dX0_inState_31 rfl)) (hlf (ok_istore_n dX0_inState_32 rfl (by decide) rfl)))) (hnd (hnd (hlf (ok_iinc dX0_inState_33 (by decide) (by decide) rfl)) (hlf (ok_goto dX0_inState_36 (by decide)))) (hnd (hlf (ok_iload_n dX0_inState_39 rfl rfl)) (hlf (ok_iret dX0_inState_40))))))

theorem vc_X0_inState : MVC ins_X0_inState 4 2 sp_X0_inState := by
  refine mvc1 4 60 fun as w σ q hl hs => ?_
  unfold sp_X0_inState at hs
  split at hs
  · rename_i x
    obtain ⟨n, ⟨hn, hsz, hra⟩, hq⟩ := hs
    refine ⟨fun N ls st w' σ' => ∃ (i : Nat) (u v : Int32), i ≤ n ∧ N = n - i ∧ u = nI (cnt (fun i => decide (σ 9 i 6 = x)) i) ∧ v = nI i ∧ ls = [some (HR 0 0), some (HI x), some (HI u), some (HI v)] ∧ st = [] ∧ w = w' ∧ σ = σ', ?_, ?_⟩
    · rintro N ls st w' σ' ⟨i, u, v, hi, rfl, rfl, rfl, rfl, rfl, rfl, rfl⟩
      refine And.intro (fun h1 => ?_) (fun h1 => ?_)
      · obtain rfl := lp_end hsz hi h1
        exact hq
      · have hlt := lp_go hsz hi h1
        refine And.intro (vp_in_nI (N := 100) (by omega) (by decide)) (fun o ho => ?_)
        obtain rfl := ra_at ho (hra i hlt)
        refine And.intro (fun h2 => ?_) (fun h2 => ?_)
        · exact ⟨n - (i + 1), by omega, i + 1, _, _, hlt, rfl, by rw [cnt_y (decide_eq_true h2)]; exact nI_1 _, nI_1 i, rfl, rfl, rfl, rfl⟩
        · exact ⟨n - (i + 1), by omega, i + 1, _, _, hlt, rfl, by rw [cnt_n (decide_eq_false h2)]; exact Int32.add_zero _, nI_1 i, rfl, rfl, rfl, rfl⟩
    · exact ⟨n, 0, 0, 0, Nat.zero_le _, rfl, rfl, rfl, rfl, rfl, rfl, rfl⟩
  · exact hs.elim
theorem ct_X0_inState : Ctr yX0_inState cX0_inState 4 (some .int) 1 0 0 2 sp_X0_inState := ctr_of (by decide +kernel) rfl (by decide) ok_X0_inState vc_X0_inState

