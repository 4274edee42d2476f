/-! tables of steps as trees -/
theorem hnd {cc : ByteArray} {own : String} {nL : Nat} {ret : Option FieldType} {lv pc n : Nat} {x y : HOp} (h1 : HOK cc own nL ret lv pc x) (h2 : HOK cc own nL ret lv pc y) : HOK cc own nL ret lv pc (cond (Nat.blt pc n) x y) := by
  cases Nat.blt pc n
  · exact h2
  · exact h1
theorem hlf {cc : ByteArray} {own : String} {nL : Nat} {ret : Option FieldType} {lv pc n : Nat} {x : HOp} (h1 : HOK cc own nL ret lv n x) : HOK cc own nL ret lv pc (cond (Nat.beq pc n) x o_bad) := by
  cases hb : Nat.beq pc n with
  | false => exact ok_bad
  | true =>
    have e := Nat.eq_of_beq_eq_true hb
    subst e
    exact h1
/-- answers of boolean methods: two roads -/
def spZ (c : Prop) (w : HW) (σ : HS) (K : HRt) : Prop := (c → K (some (HI 1)) w σ) ∧ (¬ c → K (some (HI 0)) w σ)
theorem br2 {a b c d : Prop} (h1 : a → b) (h2 : c → d) : (a → b) ∧ (c → d) := ⟨h1, h2⟩
def sp_X10_isBelow : HSp := fun as w σ K => match as with
  | [.inl v, .inl b] => spZ (0 ≤ v ∧ v < b) w σ K
  | _ => False
/-- no loop -/
theorem mvc0 {ins : Nat → HOp} {nL n : Nat} {sp : HSp} (F : Nat) (h : ∀ as w σ q, as.length = n → sp as w σ q → wp ins (fun _ => none) q F 0 (loc0 nL as) [] w σ) : MVC ins nL n sp := fun as w σ q hl hs => ⟨fun _ => false, fun _ _ _ _ _ _ => False, 0, F, fun _ _ _ _ _ _ h _ => (Bool.false_ne_true h).elim, h as w σ q hl hs⟩
theorem dX10_isBelow_0 : decode cX10_isBelow 0 = .ok (.iload_n 0, 1) := by decide +kernel
theorem dX10_isBelow_1 : decode cX10_isBelow 1 = .ok (.ifCond .lt 12, 3) := by decide +kernel
theorem dX10_isBelow_4 : decode cX10_isBelow 4 = .ok (.iload_n 0, 1) := by decide +kernel
theorem dX10_isBelow_5 : decode cX10_isBelow 5 = .ok (.iload_n 1, 1) := by decide +kernel
theorem dX10_isBelow_6 : decode cX10_isBelow 6 = .ok (.if_icmp .ge 7, 3) := by decide +kernel
theorem dX10_isBelow_9 : decode cX10_isBelow 9 = .ok (.iconst 1, 1) := by decide +kernel
theorem dX10_isBelow_10 : decode cX10_isBelow 10 = .ok (.goto 4, 3) := by decide +kernel
theorem dX10_isBelow_13 : decode cX10_isBelow 13 = .ok (.iconst 0, 1) := by decide +kernel
theorem dX10_isBelow_14 : decode cX10_isBelow 14 = .ok (.ireturn, 1) := by decide +kernel
def ins_X10_isBelow (pc : Nat) : HOp := cond (Nat.blt pc 6) (cond (Nat.blt pc 4) (cond (Nat.blt pc 1) (cond (Nat.beq pc 0) (o_iload 0 1) o_bad) (cond (Nat.beq pc 1) (o_if (fun x => x < 0) 13 4) o_bad)) (cond (Nat.blt pc 5) (cond (Nat.beq pc 4) (o_iload 0 5) o_bad) (cond (Nat.beq pc 5) (o_iload 1 6) o_bad))) (cond (Nat.blt pc 10) (cond (Nat.blt pc 9) (cond (Nat.beq pc 6) (o_icmp (fun x y => y ≤ x) 13 9) o_bad) (cond (Nat.beq pc 9) (o_const (1) 10) o_bad)) (cond (Nat.blt pc 13) (cond (Nat.beq pc 10) (o_goto 14) o_bad) (cond (Nat.blt pc 14) (cond (Nat.beq pc 13) (o_const (0) 14) o_bad) (cond (Nat.beq pc 14) (o_zret) o_bad))))
set_option maxRecDepth 20000 in
theorem ok_X10_isBelow : HOKs cX10_isBelow RX10 2 (some .boolean) 1 ins_X10_isBelow := fun _ => hnd (hnd (hnd (hlf (ok_iload_n dX10_isBelow_0 rfl rfl)) (hlf (ok_if_lt dX10_isBelow_1 (by decide) rfl))) (hnd (hlf (ok_iload_n dX10_isBelow_4 rfl rfl)) (hlf (ok_iload_n dX10_isBelow_5 rfl rfl)))) (hnd (hnd (hlf (ok_icmp_ge dX10_isBelow_6 (by decide) rfl)) (hlf (ok_iconst dX10_isBelow_9 (by decide) rfl))) (hnd (hlf (ok_goto dX10_isBelow_10 (by decide))) (hnd (hlf (ok_iconst dX10_isBelow_13 (by decide) rfl)) (hlf (ok_zret dX10_isBelow_14)))))

