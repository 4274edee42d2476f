/-! what the Statement gives of the start: the six words -/
def tmS (i : Nat) : Term := match i with
  | 0 => .string RX5 35
  | 1 => .string RX5 65
  | 2 => .string RX5 73
  | 3 => .string RX5 78
  | 4 => .string RX5 83
  | _ => .string RX5 88
theorem six {P : Nat → Prop} (h0 : P 0) (h1 : P 1) (h2 : P 2) (h3 : P 3) (h4 : P 4) (h5 : P 5) : ∀ i, i < 6 → P i := fun i hi => by
  have h : i = 0 ∨ i = 1 ∨ i = 2 ∨ i = 3 ∨ i = 4 ∨ i = 5 := by omega
  rcases h with rfl | rfl | rfl | rfl | rfl | rfl
  · exact h0
  · exact h1
  · exact h2
  · exact h3
  · exact h4
  · exact h5
theorem str_at {args : Array Value} {s : State} {A : Nat → Prop} (h : (Jvm.Cond.and given_1 narrow_1).before args s = true) (hA : ∀ a : Nat, a < s.heap.size → ¬ A a) : ∃ adK adV : Nat → Nat, vk_S 6 slen sbyt adK adV A s s.heap ∧ ∀ i : Nat, i < 6 → (tmS i).eval args s none [] s = some (.ref (adK i)) := by
  have hs := flat_of_before _ h
  refine vk_Sof (tm := tmS) ?_ ?_ ?_ ?_ ?_ ?_ ?_ hA
  · exact six (by decide) (by decide) (by decide) (by decide) (by decide) (by decide)
  · exact six (hs _ (by decide +kernel)) (hs _ (by decide +kernel)) (hs _ (by decide +kernel)) (hs _ (by decide +kernel)) (hs _ (by decide +kernel)) (hs _ (by decide +kernel))
  · exact six (hs _ (by decide +kernel)) (hs _ (by decide +kernel)) (hs _ (by decide +kernel)) (hs _ (by decide +kernel)) (hs _ (by decide +kernel)) (hs _ (by decide +kernel))
  · exact six (hs _ (by decide +kernel)) (hs _ (by decide +kernel)) (hs _ (by decide +kernel)) (hs _ (by decide +kernel)) (hs _ (by decide +kernel)) (hs _ (by decide +kernel))
  · exact six (hs _ (by decide +kernel)) (hs _ (by decide +kernel)) (hs _ (by decide +kernel)) (hs _ (by decide +kernel)) (hs _ (by decide +kernel)) (hs _ (by decide +kernel))
  · have e2 : ∀ {P : Nat → Prop} {n : Nat}, n ≤ 4 → P 0 → P 1 → (2 < n → P 2) → (3 < n → P 3) → ∀ j, j < n → P j := fun hn p0 p1 p2 p3 j hj => by
      have h : j = 0 ∨ j = 1 ∨ j = 2 ∨ j = 3 := by omega
      rcases h with rfl | rfl | rfl | rfl
      · exact p0
      · exact p1
      · exact p2 hj
      · exact p3 hj
    exact six (e2 (by decide) (hs _ (by decide +kernel)) (hs _ (by decide +kernel)) (fun z => absurd z (by decide)) (fun z => absurd z (by decide))) (e2 (by decide) (hs _ (by decide +kernel)) (hs _ (by decide +kernel)) (fun _ => hs _ (by decide +kernel)) (fun z => absurd z (by decide))) (e2 (by decide) (hs _ (by decide +kernel)) (hs _ (by decide +kernel)) (fun _ => hs _ (by decide +kernel)) (fun z => absurd z (by decide))) (e2 (by decide) (hs _ (by decide +kernel)) (hs _ (by decide +kernel)) (fun _ => hs _ (by decide +kernel)) (fun _ => hs _ (by decide +kernel))) (e2 (by decide) (hs _ (by decide +kernel)) (hs _ (by decide +kernel)) (fun _ => hs _ (by decide +kernel)) (fun z => absurd z (by decide))) (e2 (by decide) (hs _ (by decide +kernel)) (hs _ (by decide +kernel)) (fun z => absurd z (by decide)) (fun z => absurd z (by decide)))
  · intro i j hi hj hij
    have hi' : i = 0 ∨ i = 1 ∨ i = 2 ∨ i = 3 ∨ i = 4 ∨ i = 5 := by omega
    have hj' : j = 0 ∨ j = 1 ∨ j = 2 ∨ j = 3 ∨ j = 4 ∨ j = 5 := by omega
    rcases hi' with rfl | rfl | rfl | rfl | rfl | rfl <;> rcases hj' with rfl | rfl | rfl | rfl | rfl | rfl <;> first | exact absurd rfl hij | exact Or.inl (hs _ (by decide +kernel)) | exact Or.inr (hs _ (by decide +kernel))
