/-! the law's start -/
def w00 : HW := (fun k => if k = 43 then 7 else if k = 44 then 6 else if k = 45 then 1 else 0, fun _ _ => none)
def s00 : HS := fun _ _ _ => 0
theorem law_start {L : Nat} {xs : Nat → Int32} {q : HRt} : wpm (tb_L SXc SMc L xs) (B2 Inv 0) q 40 49 1797 0 [some (HR 45 0), none, none, none] [] w00 s00 := by
  sorry
