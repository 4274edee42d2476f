theorem vc_X10_isBelow : MVC ins_X10_isBelow 2 2 sp_X10_isBelow := by
  refine mvc0 40 fun as w σ q hl hs => ?_
  unfold sp_X10_isBelow at hs
  split at hs
  · rename_i v b
    refine And.intro (fun h1 => ?_) (fun h1 => ?_)
    · refine And.intro (Or.inl rfl) (hs.2 ?_)
      intro h
      exact absurd h1 (Int32.not_lt.mpr h.1)
    · refine And.intro (fun h2 => ?_) (fun h2 => ?_)
      · refine And.intro (Or.inl rfl) (hs.2 ?_)
        intro h
        exact absurd h.2 (Int32.not_lt.mpr h2)
      · refine And.intro (Or.inr rfl) (hs.1 ⟨Int32.not_lt.mp h1, Int32.not_le.mp h2⟩)
  · exact hs.elim
theorem ct_X10_isBelow : Ctr yX10_isBelow cX10_isBelow 2 (some .boolean) 1 0 0 2 sp_X10_isBelow := ctr_of (by decide +kernel) rfl (by decide) ok_X10_isBelow vc_X10_isBelow

