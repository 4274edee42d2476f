/-! calls, 5: rivals, order, move -/
def rvS (σ : HS) (f g : Nat) : HS := up3 (up3 (up3 (up3 σ 13 2 f (σ 13 2 f ^^^ (1 <<< (nI g &&& 31)))) 13 2 g (σ 13 2 g ^^^ (1 <<< (nI f &&& 31)))) 20 8 f (σ 13 2 f ^^^ (1 <<< (nI g &&& 31)))) 20 8 g (σ 13 2 g ^^^ (1 <<< (nI f &&& 31)))
section Riv
variable {w : HW} {σ : HS} {n np nv : Nat}
theorem rv_inv (hV : Ivs w σ n np nv) {f g : Nat} (hf : f < 10) (hg : g < 10) (hne : f ≠ g) : Ivs w (rvS σ f g) n np nv := by
  have es : ∀ k i h, ¬ (k = 13 ∧ i = 2) → ¬ (k = 20 ∧ i = 8) → rvS σ f g k i h = σ k i h := fun k i h g1 g2 => by
    unfold rvS
    rw [up3_o (by omega), up3_o (by omega), up3_o (by omega), up3_o (by omega)]
  have e13 : ∀ h, rvS σ f g 13 2 h = if h = g then σ 13 2 g ^^^ (1 <<< (nI f &&& 31)) else if h = f then σ 13 2 f ^^^ (1 <<< (nI g &&& 31)) else σ 13 2 h := fun h => by
    unfold rvS
    rw [up3_o (by omega), up3_o (by omega)]
    by_cases c : h = g
    · subst c
      rw [if_pos rfl]
      exact up3_v
    · rw [if_neg c, up3_o (by omega)]
      by_cases c2 : h = f
      · subst c2
        rw [if_pos rfl]
        exact up3_v
      · rw [if_neg c2, up3_o (by omega)]
  have e20 : ∀ h, h < 10 → rvS σ f g 20 8 h = rvS σ f g 13 2 h := fun h hh => by
    rw [e13]
    unfold rvS
    by_cases c : h = g
    · subst c
      rw [if_pos rfl]
      exact up3_v
    · rw [if_neg c, up3_o (by omega)]
      by_cases c2 : h = f
      · subst c2
        rw [if_pos rfl]
        exact up3_v
      · rw [if_neg c2, up3_o (by omega), up3_o (by omega), up3_o (by omega)]
        exact (hV.2.2.2.2.2.2.2.2.2.2.2.1 h hh).1
  have eb : ∀ h v, v < 32 → bt (rvS σ f g 13 2 h) v = (bt (σ 13 2 h) v ^^ decide ((h = f ∧ v = g) ∨ (h = g ∧ v = f))) := fun h v hv => by
    rw [e13]
    by_cases c : h = g
    · subst c
      rw [if_pos rfl, b_xor, b_one (by omega) hv]
      congr 1
      exact decide_eq_decide.mpr ⟨fun q => Or.inr ⟨rfl, q⟩, fun q => by omega⟩
    · rw [if_neg c]
      by_cases c2 : h = f
      · subst c2
        rw [if_pos rfl, b_xor, b_one (by omega) hv]
        congr 1
        exact decide_eq_decide.mpr ⟨fun q => Or.inl ⟨rfl, q⟩, fun q => by omega⟩
      · rw [if_neg c2, decide_eq_false (by omega)]
        cases bt (σ 13 2 h) v <;> rfl
  refine eq_cd hV (hV.2.1.cd fun k i f hr => es k i f (by unfold rdPr at hr; omega) (by unfold rdPr at hr; omega)) (hV.2.2.2.2.1.cd fun k i f hr => es k i f (by unfold rdBk at hr; omega) (by unfold rdBk at hr; omega)) ?_ (fun k i f hr => es k i f (by unfold rdVi rdRi rdSh rdTa at hr; omega) (by unfold rdVi rdRi rdSh rdTa at hr; omega))
  obtain ⟨h1, h2, h3, h4, h5, h6⟩ := hV.2.2.2.2.2.2.2
  refine ⟨h1, h2, h3, h4, fun h hh => ⟨e20 h hh, fun v hv hb => ?_⟩, fun a b ha hb => ?_⟩
  · rw [eb h v hv] at hb
    by_cases c : (h = f ∧ v = g) ∨ (h = g ∧ v = f)
    · omega
    · rw [decide_eq_false c] at hb
      exact (h5 h hh).2 v hv (by simpa using hb)
  · rw [eb a b (by omega), eb b a (by omega), h6 a b ha hb]
    congr 1
    exact decide_eq_decide.mpr ⟨fun q => by omega, fun q => by omega⟩
end Riv
theorem eq_rivals : Eq3 Inv sp_X10_rivals sp_X11_rivals := by
  intro a b c w σ Q1 hI hK
  obtain ⟨n, np, nv, hV⟩ := id hI
  by_cases h1 : 0 ≤ a ∧ a < 10
  rotate_left
  · refine And.intro (fun z9 => absurd z9 (h1)) (fun _ => And.intro (fun _ => ?_) (fun z9 => absurd rfl z9))
    refine hK _ _ _ fun K2 h2 => ?_
    refine And.intro (fun z9 => absurd z9 (fun q => h1 ((Bn (n := 10) (by decide)).mpr ((In (m := 9) (by decide)).mp q)))) (fun _ => And.intro (fun _ => ?_) (fun z9 => absurd rfl z9))
    exact h2 _ _ hI
  refine And.intro (fun _ => And.intro (fun z9 => absurd z9 (by decide)) (fun _ => ?_)) (fun z9 => absurd (h1) z9)
  obtain ⟨f, hf, rfl⟩ := (Bn (n := 10) (by decide)).mp h1
  have m1 : ¬ nI f < 0 ∧ ¬ 9 < nI f := (In (m := 9) (by decide)).mpr ⟨f, hf, rfl⟩
  by_cases h3 : 0 ≤ b ∧ b < 10
  rotate_left
  · refine And.intro (fun z9 => absurd z9 (h3)) (fun _ => And.intro (fun _ => ?_) (fun z9 => absurd rfl z9))
    refine hK _ _ _ fun K2 h2 => ?_
    refine And.intro (fun _ => And.intro (fun z9 => absurd z9 (by decide)) (fun _ => ?_)) (fun z9 => absurd (m1) z9)
    refine And.intro (fun z9 => absurd z9 (fun q => h3 ((Bn (n := 10) (by decide)).mpr ((In (m := 9) (by decide)).mp q)))) (fun _ => And.intro (fun _ => ?_) (fun z9 => absurd rfl z9))
    exact h2 _ _ hI
  refine And.intro (fun _ => And.intro (fun z9 => absurd z9 (by decide)) (fun _ => ?_)) (fun z9 => absurd (h3) z9)
  obtain ⟨g, hg, rfl⟩ := (Bn (n := 10) (by decide)).mp h3
  have m2 : ¬ nI g < 0 ∧ ¬ 9 < nI g := (In (m := 9) (by decide)).mpr ⟨g, hg, rfl⟩
  by_cases h4 : nI f = nI g
  · refine And.intro (fun _ => ?_) (fun z9 => absurd (h4) z9)
    refine hK _ _ _ fun K2 h2 => ?_
    refine And.intro (fun _ => And.intro (fun z9 => absurd z9 (by decide)) (fun _ => ?_)) (fun z9 => absurd (m1) z9)
    refine And.intro (fun _ => And.intro (fun z9 => absurd z9 (by decide)) (fun _ => ?_)) (fun z9 => absurd (m2) z9)
    refine And.intro (fun _ => ?_) (fun z9 => absurd (h4) z9)
    exact h2 _ _ hI
  refine And.intro (fun z9 => absurd z9 (h4)) (fun _ => ?_)
  have hne : f ≠ g := fun q => h4 (by rw [q])
  by_cases h5 : 0 ≤ c ∧ c < 2
  rotate_left
  · refine And.intro (fun z9 => absurd z9 (h5)) (fun _ => And.intro (fun _ => ?_) (fun z9 => absurd rfl z9))
    refine hK _ _ _ fun K2 h2 => ?_
    refine And.intro (fun _ => And.intro (fun z9 => absurd z9 (by decide)) (fun _ => ?_)) (fun z9 => absurd (m1) z9)
    refine And.intro (fun _ => And.intro (fun z9 => absurd z9 (by decide)) (fun _ => ?_)) (fun z9 => absurd (m2) z9)
    refine And.intro (fun z9 => absurd z9 (h4)) (fun _ => ?_)
    refine And.intro (fun z9 => absurd z9 (fun q => h5 ((Bn (n := 2) (by decide)).mpr ((In (m := 1) (by decide)).mp q)))) (fun _ => And.intro (fun _ => ?_) (fun z9 => absurd rfl z9))
    exact h2 _ _ hI
  refine And.intro (fun _ => And.intro (fun z9 => absurd z9 (by decide)) (fun _ => ?_)) (fun z9 => absurd (h5) z9)
  obtain ⟨o, ho, rfl⟩ := (Bn (n := 2) (by decide)).mp h5
  have m3 : ¬ nI o < 0 ∧ ¬ 1 < nI o := (In (m := 1) (by decide)).mpr ⟨o, ho, rfl⟩
  have ho2 : nI o = 0 ∨ nI o = 1 := by
    have : o = 0 ∨ o = 1 := by omega
    rcases this with rfl | rfl
    · exact Or.inl rfl
    · exact Or.inr rfl
  have ef : (nI f).toNatClampNeg = f := nI_clamp (by omega)
  have eg : (nI g).toNatClampNeg = g := nI_clamp (by omega)
  have inf : vp_in (nI f) 10 := vp_in_nI hf (by decide)
  have ing : vp_in (nI g) 10 := vp_in_nI hg (by decide)
  obtain ⟨-, -, -, -, hr5, hr6⟩ := hV.2.2.2.2.2.2.2
  have l1 := (hr5 f hf).1
  have l2 := (hr5 g hg).1
  have hsy : (σ 13 2 f >>> (nI g &&& 31) &&& 1 = nI o) ↔ (σ 13 2 g >>> (nI f &&& 31) &&& 1 = nI o) := by
    rcases ho2 with q | q
    · rw [q, bt0_bt (by omega), bt0_bt (by omega), hr6 f g hf hg]
    · rw [q]
      show bt1 _ _ ↔ bt1 _ _
      rw [bt1_bt (by omega), bt1_bt (by omega), hr6 f g hf hg]
  obtain ⟨bit, hbit⟩ : ∃ bit, bit = σ 13 2 f >>> (nI g &&& 31) &&& 1 := ⟨_, rfl⟩
  by_cases hb : σ 13 2 f >>> (nI g &&& 31) &&& 1 = nI o
  · have esr : srS σ f g (nI o) = σ := by
      unfold srS
      rw [wB_x (by omega) ho2, if_pos hb, up3_id rfl, wB_x (by omega) ho2, if_pos (hsy.mp hb), up3_id rfl]
    obtain ⟨hcw, hlv, hgo⟩ := pack (σc := srS σ f g (nI o)) hV (fun k i h g1 g2 g3 => by rw [esr])
    have fin : ∀ r, r = bit → ∀ σ1, eqT (stS (srS σ f g (nI o)) (wlC w (srS σ f g (nI o)) n nv n).1 n) σ1 → Q1 (some (HI r)) w σ1 := fun r hr σ1 hT => by
      have er : ∀ k i f, k = 11 ∨ k = 20 ∨ k = 21 → σ1 k i f = σ k i f := fun k i f hk => by rw [eqT_r hT hk, esr]
      refine hK _ _ _ fun K2 h2 => ?_
      refine And.intro (fun _ => And.intro (fun z9 => absurd z9 (by decide)) (fun _ => ?_)) (fun z9 => absurd (m1) z9)
      refine And.intro (fun _ => And.intro (fun z9 => absurd z9 (by decide)) (fun _ => ?_)) (fun z9 => absurd (m2) z9)
      refine And.intro (fun z9 => absurd z9 (h4)) (fun _ => ?_)
      refine And.intro (fun _ => And.intro (fun z9 => absurd z9 (by decide)) (fun _ => ?_)) (fun z9 => absurd (m3) z9)
      refine And.intro inf ?_
      have e1 : σ1 20 8 (nI f).toNatClampNeg = σ 13 2 f := by rw [ef, er _ _ _ (by omega), l1]
      rw [e1]
      refine And.intro (fun _ => ?_) (fun z9 => absurd (hb) z9)
      obtain ⟨hm, hvm, hgo2⟩ := hgo σ1 σ1 hT (fun _ _ _ _ _ _ => rfl) er
      refine ⟨n, np, nv, hm, hvm, fun σ2 h9 => ?_⟩
      show K2 (some (HI (σ 13 2 f >>> (nI g &&& 31) &&& 1))) w σ2
      rw [← hbit, ← hr]
      exact h2 _ _ ⟨n, np, nv, (hgo2 σ2 h9).1⟩
    refine ⟨f, hf, rfl, ?_⟩
    refine And.intro (fun z => ?_) (fun z => ?_)
    · refine And.intro (fun y => absurd y (by decide)) (fun _ => ?_)
      refine ⟨f, g, hf, hg, rfl, rfl, n, np, nv, hcw, hlv, fun σ1 hT => fin 1 (by rw [hbit]; exact z.symm) σ1 hT⟩
    · refine And.intro (fun _ => ?_) (fun y => absurd rfl y)
      refine ⟨f, g, hf, hg, rfl, rfl, n, np, nv, hcw, hlv, fun σ1 hT => fin 0 (by rw [hbit]; exact (x1_n.mp z).symm) σ1 hT⟩
  · have esr : ∀ k i h, k ≠ 11 → k ≠ 20 → k ≠ 21 → rvS σ f g k i h = srS σ f g (nI o) k i h := fun k i h g1 g2 g3 => by
      unfold rvS srS
      rw [up3_o (σ := σ) (k := 13) (i := 2) (f := f) (a := 13) (b := 2) (c := g) (by omega), wB_x (by omega) ho2, if_neg hb, wB_x (by omega) ho2, if_neg (fun q => hb (hsy.mpr q)), up3_o (by omega), up3_o (by omega)]
    have hs := rv_inv hV hf hg hne
    obtain ⟨hcw, hlv, hgo⟩ := pack (σc := srS σ f g (nI o)) hs esr
    have fin : ∀ r, r = bit → ∀ σ1, eqT (stS (srS σ f g (nI o)) (wlC w (srS σ f g (nI o)) n nv n).1 n) σ1 → Q1 (some (HI r)) w σ1 := fun r hr σ1 hT => by
      have er : ∀ k i f, k = 11 ∨ k = 20 ∨ k = 21 → σ1 k i f = σ k i f := fun k i h hk => by
        rw [eqT_r hT hk]
        unfold srS
        rw [up3_o (by omega), up3_o (by omega)]
      refine hK _ _ _ fun K2 h2 => ?_
      refine And.intro (fun _ => And.intro (fun z9 => absurd z9 (by decide)) (fun _ => ?_)) (fun z9 => absurd (m1) z9)
      refine And.intro (fun _ => And.intro (fun z9 => absurd z9 (by decide)) (fun _ => ?_)) (fun z9 => absurd (m2) z9)
      refine And.intro (fun z9 => absurd z9 (h4)) (fun _ => ?_)
      refine And.intro (fun _ => And.intro (fun z9 => absurd z9 (by decide)) (fun _ => ?_)) (fun z9 => absurd (m3) z9)
      refine And.intro inf ?_
      have e1 : σ1 20 8 (nI f).toNatClampNeg = σ 13 2 f := by rw [ef, er _ _ _ (by omega), l1]
      have e2 : σ1 20 8 (nI g).toNatClampNeg = σ 13 2 g := by rw [eg, er _ _ _ (by omega), l2]
      have hb' : ¬ σ1 20 8 (nI f).toNatClampNeg >>> (nI g &&& 31) &&& 1 = nI o := by rw [e1]; exact hb
      refine And.intro (fun z9 => absurd z9 (hb')) (fun _ => ?_)
      refine And.intro inf (And.intro inf (And.intro ing (And.intro ing ?_)))
      have e3 : up3 σ1 20 8 (nI f).toNatClampNeg (σ1 20 8 (nI f).toNatClampNeg ^^^ (1 <<< (nI g &&& 31))) 20 8 (nI g).toNatClampNeg = σ 13 2 g := by rw [ef, eg, up3_o (by omega), er _ _ _ (by omega), l2]
      obtain ⟨hm, hvm, hgo2⟩ := hgo σ1 (up3 (up3 σ1 20 8 (nI f).toNatClampNeg (σ1 20 8 (nI f).toNatClampNeg ^^^ (1 <<< (nI g &&& 31)))) 20 8 (nI g).toNatClampNeg (up3 σ1 20 8 (nI f).toNatClampNeg (σ1 20 8 (nI f).toNatClampNeg ^^^ (1 <<< (nI g &&& 31))) 20 8 (nI g).toNatClampNeg ^^^ (1 <<< (nI f &&& 31)))) hT (fun k i f g1 g2 g3 => by rw [up3_o (by omega), up3_o (by omega)]) (fun k i h hk => by
        rw [e3, e1, ef, eg]
        unfold rvS
        by_cases c1 : k = 20 ∧ i = 8 ∧ h = g
        · obtain ⟨rfl, rfl, rfl⟩ := c1
          rw [up3_v, up3_v]
        · rw [up3_o c1, up3_o c1]
          by_cases c2 : k = 20 ∧ i = 8 ∧ h = f
          · obtain ⟨rfl, rfl, rfl⟩ := c2
            rw [up3_v, up3_v]
          · rw [up3_o c2, up3_o c2, up3_o (by omega), up3_o (by omega)]
            exact er k i h hk)
      refine ⟨n, np, nv, hm, hvm, fun σ2 h9 => ?_⟩
      show K2 (some (HI (σ1 20 8 (nI f).toNatClampNeg >>> (nI g &&& 31) &&& 1))) w σ2
      rw [e1, ← hbit, ← hr]
      exact h2 _ _ ⟨n, np, nv, (hgo2 σ2 h9).1⟩
    refine ⟨f, hf, rfl, ?_⟩
    refine And.intro (fun z => ?_) (fun z => ?_)
    · refine And.intro (fun y => absurd y (by decide)) (fun _ => ?_)
      refine ⟨f, g, hf, hg, rfl, rfl, n, np, nv, hcw, hlv, fun σ1 hT => fin 1 (by rw [hbit]; exact z.symm) σ1 hT⟩
    · refine And.intro (fun _ => ?_) (fun y => absurd rfl y)
      refine ⟨f, g, hf, hg, rfl, rfl, n, np, nv, hcw, hlv, fun σ1 hT => fin 0 (by rw [hbit]; exact (x1_n.mp z).symm) σ1 hT⟩
section Gb
variable {w : HW} {σ : HS} {n np nv : Nat}
theorem st_all (hI : Ivs w σ n np nv) {S : Nat → Int32} (h : s012 n S) : Ivs w (stS (msS σ S n) S n) n np nv := by
  have hC := core_st hI.core (S := S) (S' := S) (fun _ _ => rfl) h
  exact ⟨hI.1, hC.1, hC.2.1, hC.2.2.1, hC.2.2.2.1, hC.2.2.2.2.1, hI.2.2.2.2.2.2.1, hC.2.2.2.2.2⟩
/-- the states when those of which c holds are given back -/
def gvS (σ : HS) (c : Nat → Bool) (j : Nat) : Int32 := if c j = true then 2 else σ 9 j 6
theorem gv_y {c : Nat → Bool} {j : Nat} (h : c j = true) : gvS σ c j = 2 := if_pos h
theorem gv_n {c : Nat → Bool} {j : Nat} (h : ¬ c j = true) : gvS σ c j = σ 9 j 6 := if_neg h
theorem ca_yv {c : Nat → Bool} {f : Nat} (hf : f < n) (h : c f = true) : caS σ c n 20 21 f = 2 := if_pos ⟨rfl, rfl, hf, h⟩
theorem ca_nv {c : Nat → Bool} {f : Nat} (h : ¬ c f = true) : caS σ c n 20 21 f = σ 20 21 f := if_neg fun q => h q.2.2.2
theorem gb_yv {p s d : Int32} {i : Nat} (hi : i < n) (h : gbP σ i p s d) : gbS σ p s d n 9 i 6 = 2 := if_pos ⟨rfl, rfl, hi, h⟩
theorem gb_nv {p s d : Int32} {i : Nat} (h : ¬ gbP σ i p s d) : gbS σ p s d n 9 i 6 = σ 9 i 6 := if_neg fun q => h q.2.2.2
theorem gb_o {p s d : Int32} {k i f : Nat} (h : ¬ (k = 9 ∧ f = 6)) : gbS σ p s d n k i f = σ k i f := if_neg fun q => h ⟨q.1, q.2.1⟩
theorem st_y {S : Nat → Int32} {i : Nat} (h : i < n) : stS σ S n 9 i 6 = S i := if_pos ⟨rfl, rfl, h⟩
theorem st_n {S : Nat → Int32} {k i f : Nat} (h : ¬ (k = 9 ∧ f = 6 ∧ i < n)) : stS σ S n k i f = σ k i f := if_neg h
theorem ms_n {S : Nat → Int32} {k i f : Nat} (h : ¬ (k = 20 ∧ i = 21 ∧ f < n)) : msS σ S n k i f = σ k i f := if_neg h
theorem ca_n {c : Nat → Bool} {k i f : Nat} (h : ¬ (k = 20 ∧ i = 21 ∧ f < n)) : caS σ c n k i f = σ k i f := if_neg fun q => h ⟨q.1, q.2.1, q.2.2.1⟩
theorem gb_n {p s d : Int32} {k i f : Nat} (h : ¬ (k = 9 ∧ f = 6 ∧ i < n)) : gbS σ p s d n k i f = σ k i f := if_neg fun q => h ⟨q.1, q.2.1, q.2.2.1⟩
theorem gv_012 (hI : Ivs w σ n np nv) (c : Nat → Bool) : s012 n (gvS σ c) := fun i hi => by
  unfold gvS
  split
  · exact Or.inr (Or.inr rfl)
  · exact (hI.2.2.2.2.1.2.2.2.1 i hi).2.1
/-- a prisoner is moved -/
theorem here_inv (hV : Ivs w σ n np nv) {p : Nat} : Ivs w (up3 (up3 σ 3 p 2 0) 20 2 p 0) n np nv := by
  have es : ∀ k i f, ¬ (k = 3 ∧ i = p ∧ f = 2) → ¬ (k = 20 ∧ i = 2 ∧ f = p) → up3 (up3 σ 3 p 2 0) 20 2 p 0 k i f = σ k i f := fun k i f g1 g2 => by rw [up3_o (by omega), up3_o (by omega)]
  refine eq_cd hV ?_ (hV.2.2.2.2.1.cd fun k i f hr => es k i f (by unfold rdBk at hr; omega) (by unfold rdBk at hr; omega)) (hV.2.2.2.2.2.2.2.cd fun k i f hr => es k i f (by unfold rdMi at hr; omega) (by unfold rdMi at hr; omega)) (fun k i f hr => es k i f (by unfold rdVi rdRi rdSh rdTa at hr; omega) (by unfold rdVi rdRi rdSh rdTa at hr; omega))
  obtain ⟨h1, h2, h3, h4, h5⟩ := hV.2.1
  refine ⟨h1, by rw [es _ _ _ (by omega) (by omega)]; exact h2, by rw [es _ _ _ (by omega) (by omega)]; exact h3, fun p' hp' => ?_, fun p' hp' hp2 => ?_⟩
  · have q := h4 p' hp'
    rw [es 3 p' 0 (by omega) (by omega), es 3 p' 1 (by omega) (by omega), es 3 p' 3 (by omega) (by omega), es 20 0 p' (by omega) (by omega), es 20 1 p' (by omega) (by omega), es 20 3 p' (by omega) (by omega)]
    refine ⟨q.1, q.2.1, ?_, ?_, q.2.2.2.2.1, fun v hv => by rw [es _ _ _ (by omega) (by omega), es _ _ _ (by omega) (by omega)]; exact q.2.2.2.2.2 v hv⟩
    · by_cases c : p' = p
      · subst c
        rw [up3_o (by omega), up3_v]
        exact Or.inl rfl
      · rw [es _ _ _ (by omega) (by omega)]
        exact q.2.2.1
    · by_cases c : p' = p
      · subst c
        rw [up3_v, up3_o (by omega), up3_v]
      · rw [es _ _ _ (by omega) (by omega), es _ _ _ (by omega) (by omega)]
        exact q.2.2.2.1
  · have q := h5 p' hp' hp2
    exact ⟨by rw [es _ _ _ (by omega) (by omega)]; exact q.1, fun v hv => by rw [es _ _ _ (by omega) (by omega)]; exact q.2 v hv⟩
theorem b_andm1 {x : Int32} : x &&& (-1) = x := b_ext fun i hi => by
  rw [b_and, b_m1 i hi, Bool.and_true]
theorem b_and1 {x : Int32} {v : Nat} (hv : v < 32) : ¬ x &&& (1 <<< (nI v &&& 31)) = 0 ↔ x >>> (nI v &&& 31) &&& 1 = 1 := by
  rw [b_nz]
  show _ ↔ bt1 x v
  rw [bt1_bt hv]
  constructor
  · rintro ⟨i, hi, h⟩
    rw [b_and, b_one hv hi, Bool.and_eq_true, decide_eq_true_iff] at h
    rw [← h.2]
    exact h.1
  · intro h
    refine ⟨v, hv, ?_⟩
    rw [b_and, b_one hv hv, h, decide_eq_true rfl]
    rfl
end Gb
theorem eq_order : Eq3 Inv sp_X10_order sp_X11_order := by
  intro a b c w σ Q1 hI hK
  obtain ⟨n, np, nv, hV⟩ := id hI
  have h10 := hV.2.1.1
  have h14 := hV.2.2.1.1
  refine ⟨np, hV.pk, fun p hp e => ?_, fun hx => ?_⟩
  rotate_left
  · refine hK _ _ _ fun K2 h2 => ?_
    refine And.intro (fun z9 => absurd z9 (fun q => hx ((Bn (by omega)).mpr ((isPr hV).mp q)))) (fun _ => And.intro (fun _ => ?_) (fun z9 => absurd rfl z9))
    exact h2 _ _ hI
  subst e
  by_cases h3 : 0 ≤ b ∧ b < σ 2 0 4
  rotate_left
  · refine And.intro (fun z9 => absurd z9 (h3)) (fun _ => And.intro (fun _ => ?_) (fun z9 => absurd rfl z9))
    refine hK _ _ _ fun K2 h2 => ?_
    refine And.intro (fun _ => And.intro (fun z9 => absurd z9 (by decide)) (fun _ => ?_)) (fun z9 => absurd ((isPr hV).mpr ⟨p, hp, rfl⟩) z9)
    refine And.intro (fun z9 => absurd z9 (fun q => h3 ((isVc hV).mpr ((isVi hV).mp q)))) (fun _ => And.intro (fun _ => ?_) (fun z9 => absurd rfl z9))
    exact h2 _ _ hI
  refine And.intro (fun _ => And.intro (fun z9 => absurd z9 (by decide)) (fun _ => ?_)) (fun z9 => absurd (h3) z9)
  obtain ⟨v, hv, rfl⟩ := (isVc hV).mp h3
  by_cases h4 : 0 ≤ c ∧ c < 401
  rotate_left
  · refine And.intro (fun z9 => absurd z9 (h4)) (fun _ => And.intro (fun _ => ?_) (fun z9 => absurd rfl z9))
    refine hK _ _ _ fun K2 h2 => ?_
    refine And.intro (fun _ => And.intro (fun z9 => absurd z9 (by decide)) (fun _ => ?_)) (fun z9 => absurd ((isPr hV).mpr ⟨p, hp, rfl⟩) z9)
    refine And.intro (fun _ => And.intro (fun z9 => absurd z9 (by decide)) (fun _ => ?_)) (fun z9 => absurd ((isVi hV).mpr ⟨v, hv, rfl⟩) z9)
    refine And.intro (fun z9 => absurd z9 (fun q => h4 ((Bn (n := 401) (by decide)).mpr ((In (m := 400) (by decide)).mp q)))) (fun _ => And.intro (fun _ => ?_) (fun z9 => absurd rfl z9))
    exact h2 _ _ hI
  refine And.intro (fun _ => And.intro (fun z9 => absurd z9 (by decide)) (fun _ => ?_)) (fun z9 => absurd (h4) z9)
  obtain ⟨d, hd, rfl⟩ := (Bn (n := 401) (by decide)).mp h4
  obtain ⟨e14, i14⟩ := ix14 (p := p) (v := v) (by omega) (by omega)
  have ev : (nI v).toNatClampNeg = v := nI_clamp (by omega)
  refine And.intro (fun _ => ?_) (fun z9 => absurd (inv14 (v := v) (by omega)) z9)
  rw [ev]
  have hs := ord_inv hV hp (show v < 14 by omega) (Or.inr ⟨d, by omega, rfl, rfl⟩ : ordR (nI d) (nI d))
  have hbk : Bk w (up3 σ 13 (p + 4) v (nI d)) n := hV.bk
  refine ⟨n, hbk, ?_⟩
  obtain ⟨gc, hgc⟩ : ∃ gc : Nat → Bool, gc = fun i => decide (gbP (up3 σ 13 (p + 4) v (nI d)) i (nI p) (1 <<< (nI v &&& 31)) (nI d)) := ⟨_, rfl⟩
  refine hK _ _ _ fun K2 h2 => ?_
  have er : ∀ k i f, k ≠ 9 → k ≠ 13 → gbS (up3 σ 13 (p + 4) v (nI d)) (nI p) (1 <<< (nI v &&& 31)) (nI d) n k i f = σ k i f := fun k i f h9 h13 => by
    unfold gbS
    rw [if_neg (by omega), up3_o (by omega)]
  have p1 : ¬ nI p < 0 ∧ ¬ gbS (up3 σ 13 (p + 4) v (nI d)) (nI p) (1 <<< (nI v &&& 31)) (nI d) n 11 0 1 - 1 < nI p := by rw [er _ _ _ (by omega) (by omega)]; exact (isPr hV).mpr ⟨p, hp, rfl⟩
  refine And.intro (fun _ => And.intro (fun z9 => absurd z9 (by decide)) (fun _ => ?_)) (fun z9 => absurd (p1) z9)
  have p2 : ¬ nI v < 0 ∧ ¬ gbS (up3 σ 13 (p + 4) v (nI d)) (nI p) (1 <<< (nI v &&& 31)) (nI d) n 11 0 7 - 1 < nI v := by rw [er _ _ _ (by omega) (by omega)]; exact (isVi hV).mpr ⟨v, hv, rfl⟩
  refine And.intro (fun _ => And.intro (fun z9 => absurd z9 (by decide)) (fun _ => ?_)) (fun z9 => absurd (p2) z9)
  refine And.intro (fun _ => And.intro (fun z9 => absurd z9 (by decide)) (fun _ => ?_)) (fun z9 => absurd ((In (m := 400) (by decide)).mpr ⟨d, hd, rfl⟩) z9)
  refine And.intro i14 ?_
  obtain ⟨σ1, hσ1⟩ : ∃ σ1, σ1 = gbS (up3 σ 13 (p + 4) v (nI d)) (nI p) (1 <<< (nI v &&& 31)) (nI d) n := ⟨_, rfl⟩
  rw [← hσ1] at er ⊢
  have e20 : ∀ k i f, k ≠ 9 → k ≠ 13 → ¬ (k = 20 ∧ i = 4) → up3 σ1 20 4 (14 * nI p + nI v).toNatClampNeg (nI d) k i f = σ k i f := fun k i f h9 h13 h4 => by rw [up3_o (by omega)]; exact er k i f h9 h13
  have hoc : ∀ j, j < n → oC (up3 σ1 20 4 (14 * nI p + nI v).toNatClampNeg (nI d)) (nI p) (nI v) (nI d) j = gc j := fun j hj => by
    obtain ⟨⟨⟨p', dd, x, y, hp', hdd, hy1, hy4, hxy, g0, r0, g2, r2, -⟩, rs, -⟩, -, hst⟩ := hV.2.2.2.2.1.2.2.2.1 j hj
    obtain ⟨td, -, t1, t2⟩ := hV.2.2.2.2.2.2.2.1
    rw [hgc]
    unfold oC
    rw [e20 20 21 j (by omega) (by omega) (by omega), e20 20 16 j (by omega) (by omega) (by omega), e20 20 17 j (by omega) (by omega) (by omega), e20 20 18 j (by omega) (by omega) (by omega), e20 11 0 0 (by omega) (by omega) (by omega), hst, r0, rs, r2, t2]
    refine decide_eq_decide.mpr ?_
    show _ ↔ (σ 9 j 6 = 0 ∧ σ 9 j 0 = nI p ∧ ¬ σ 9 j 1 &&& (1 <<< (nI v &&& 31)) = 0 ∧ ¬ σ 9 j 2 < nI d ∧ ¬ σ 9 j 2 < σ 0 0 2)
    rw [g0, g2, t1, b_and1 (by omega)]
  refine ⟨n, up3 σ1 20 4 (14 * nI p + nI v).toNatClampNeg (nI d), n, 0, nI p, nI v, nI d, 0, 0, ⟨hV.2.2.2.2.1.1, ?_⟩, Nat.zero_le _, rfl, rfl, rfl, rfl, rfl, (caS_0 _ _).symm, ?_⟩
  · rw [e20 11 0 21 (by omega) (by omega) (by omega)]
    exact hV.2.2.2.2.1.2.2.1
  · have ecnt : cnt (oC (up3 σ1 20 4 (14 * nI p + nI v).toNatClampNeg (nI d)) (nI p) (nI v) (nI d)) n = cnt gc n := cnt_cg hoc
    rw [ecnt, hgc]
    refine h2 _ _ ⟨n, np, nv, (st_all hs (gv_012 hs gc)).cg fun k i f _ => ?_⟩
    by_cases c9 : k = 9 ∧ f = 6 ∧ i < n
    · obtain ⟨rfl, rfl, hin⟩ := c9
      rw [ca_n (by omega), st_y hin, up3_o (by omega), hσ1]
      by_cases cg : gbP (up3 σ 13 (p + 4) v (nI d)) i (nI p) (1 <<< (nI v &&& 31)) (nI d)
      · rw [gb_yv hin cg, gv_y (by rw [hgc]; exact decide_eq_true cg)]
      · rw [gb_nv cg, gv_n (by rw [hgc]; exact fun q => cg (of_decide_eq_true q))]
        rfl
    · rw [st_n c9]
      by_cases c20 : k = 20 ∧ i = 21 ∧ f < n
      · obtain ⟨rfl, rfl, hfn⟩ := c20
        rw [msS_y hfn]
        by_cases cg : gc f = true
        · rw [ca_yv hfn (by rw [hoc f hfn]; exact cg), gv_y cg]
        · rw [ca_nv (by rw [hoc f hfn]; exact cg), gv_n cg, e20 20 21 f (by omega) (by omega) (by omega)]
          exact (hV.2.2.2.2.1.2.2.2.1 f hfn).2.2
      · rw [ms_n c20, ca_n c20, e14]
        by_cases c4 : k = 20 ∧ i = 4 ∧ f = 14 * p + v
        · obtain ⟨rfl, rfl, rfl⟩ := c4
          rw [up3_v, up3_v]
        · rw [up3_o c4, up3_o c4, hσ1, gb_n c9]
theorem eq_move : Eq1 Inv sp_X10_move sp_X11_move := by
  intro a w σ Q1 hI hK
  obtain ⟨n, np, nv, hV⟩ := id hI
  have h10 := hV.2.1.1
  refine ⟨np, hV.pk, fun p hp e => ?_, fun hx => ?_⟩
  rotate_left
  · refine hK _ _ _ fun K2 h2 => ?_
    refine And.intro (fun z9 => absurd z9 (fun q => hx ((Bn (by omega)).mpr ((isPr hV).mp q)))) (fun _ => And.intro (fun _ => ?_) (fun z9 => absurd rfl z9))
    exact h2 _ _ hI
  subst e
  have ep : (nI p).toNatClampNeg = p := nI_clamp (by omega)
  have inp : vp_in (nI p) 10 := vp_in_nI (by omega) (by decide)
  have hh2 : σ 20 2 p = σ 3 p 2 := (hV.2.1.2.2.2.1 p hp).2.2.2.1
  by_cases h3 : σ 3 p 2 = 0
  · refine And.intro (fun _ => ?_) (fun z9 => absurd (h3) z9)
    refine hK _ _ _ fun K2 h2 => ?_
    refine And.intro (fun _ => And.intro (fun z9 => absurd z9 (by decide)) (fun _ => ?_)) (fun z9 => absurd ((isPr hV).mpr ⟨p, hp, rfl⟩) z9)
    refine And.intro inp ?_
    have z : σ 20 2 (nI p).toNatClampNeg = 0 := by rw [ep, hh2]; exact h3
    refine And.intro (fun _ => ?_) (fun z9 => absurd (z) z9)
    exact h2 _ _ hI
  refine And.intro (fun z9 => absurd z9 (h3)) (fun _ => ?_)
  refine ⟨Or.inl rfl, ?_⟩
  have hbk : Bk w (up3 σ 3 p 2 0) n := hV.bk
  refine ⟨n, hbk, ?_⟩
  obtain ⟨gc, hgc⟩ : ∃ gc : Nat → Bool, gc = fun i => decide (gbP (up3 σ 3 p 2 0) i (nI p) (-1) 0) := ⟨_, rfl⟩
  have hh := here_inv hV (p := p)
  have hs := st_all hh (gv_012 hh gc)
  have hcp : ∀ k i f, k ≠ 11 → k ≠ 20 → k ≠ 21 → stS (msS (up3 (up3 σ 3 p 2 0) 20 2 p 0) (gvS (up3 (up3 σ 3 p 2 0) 20 2 p 0) gc) n) (gvS (up3 (up3 σ 3 p 2 0) 20 2 p 0) gc) n k i f = gbS (up3 σ 3 p 2 0) (nI p) (-1) 0 n k i f := fun k i f g1 g2 g3 => by
    by_cases c9 : k = 9 ∧ f = 6 ∧ i < n
    · obtain ⟨rfl, rfl, hin⟩ := c9
      rw [st_y hin]
      by_cases cg : gbP (up3 σ 3 p 2 0) i (nI p) (-1) 0
      · rw [gb_yv hin cg, gv_y (by rw [hgc]; exact decide_eq_true cg)]
      · rw [gb_nv cg, gv_n (by rw [hgc]; exact fun q => cg (of_decide_eq_true q))]
        rfl
    · rw [st_n c9, gb_n c9, ms_n (by omega), up3_o (by omega)]
  obtain ⟨hcw, hlv, hgo⟩ := pack (σc := gbS (up3 σ 3 p 2 0) (nI p) (-1) 0 n) hs hcp
  refine ⟨n, np, nv, hcw, hlv, fun σ1 hT => ?_⟩
  have er : ∀ k i f, k = 11 ∨ k = 20 ∨ k = 21 → σ1 k i f = σ k i f := fun k i f hk => by
    rw [eqT_r hT hk]
    unfold gbS
    rw [if_neg (by omega), up3_o (by omega)]
  refine hK _ _ _ fun K2 h2 => ?_
  have p1 : ¬ nI p < 0 ∧ ¬ σ1 11 0 1 - 1 < nI p := by rw [er _ _ _ (by omega)]; exact (isPr hV).mpr ⟨p, hp, rfl⟩
  refine And.intro (fun _ => And.intro (fun z9 => absurd z9 (by decide)) (fun _ => ?_)) (fun z9 => absurd (p1) z9)
  refine And.intro inp ?_
  have p2 : ¬ σ1 20 2 (nI p).toNatClampNeg = 0 := by rw [er _ _ _ (by omega), ep, hh2]; exact h3
  refine And.intro (fun z9 => absurd z9 (p2)) (fun _ => ?_)
  refine And.intro inp ?_
  have e20 : ∀ k i f, k = 11 ∨ k = 20 ∨ k = 21 → ¬ (k = 20 ∧ i = 2) → up3 σ1 20 2 (nI p).toNatClampNeg 0 k i f = σ k i f := fun k i f hk h2 => by rw [up3_o (by omega)]; exact er k i f hk
  have hmc : ∀ j, j < n → mC (up3 σ1 20 2 (nI p).toNatClampNeg 0) (nI p) j = gc j := fun j hj => by
    obtain ⟨⟨⟨p', dd, x, y, hp', hdd, hy1, hy4, hxy, g0, r0, g2, r2, -⟩, rs, -⟩, -, hst⟩ := hV.2.2.2.2.1.2.2.2.1 j hj
    obtain ⟨td, -, t1, t2⟩ := hV.2.2.2.2.2.2.2.1
    have hnz := hV.2.2.2.2.1.2.2.2.2.2 j hj
    rw [hgc]
    unfold mC
    rw [e20 20 21 j (by omega) (by omega), e20 20 16 j (by omega) (by omega), e20 20 18 j (by omega) (by omega), e20 11 0 0 (by omega) (by omega), hst, r0, r2, t2]
    refine decide_eq_decide.mpr ?_
    show _ ↔ (σ 9 j 6 = 0 ∧ σ 9 j 0 = nI p ∧ ¬ σ 9 j 1 &&& (-1) = 0 ∧ ¬ σ 9 j 2 < 0 ∧ ¬ σ 9 j 2 < σ 0 0 2)
    rw [g0, g2, t1, b_andm1]
    exact ⟨fun q => ⟨q.1, q.2.1, hnz, nI_pos (by omega), q.2.2⟩, fun q => ⟨q.1, q.2.1, q.2.2.2.2⟩⟩
  obtain ⟨hm, hvm, hgo2⟩ := hgo σ1 (caS (up3 σ1 20 2 (nI p).toNatClampNeg 0) (mC (up3 σ1 20 2 (nI p).toNatClampNeg 0) (nI p)) n) hT (fun k i f g1 g2 g3 => by
    rw [caS_o (by omega), up3_o (by omega)]) (fun k i f hk => by
    have e4 : stS (msS (up3 (up3 σ 3 p 2 0) 20 2 p 0) (gvS (up3 (up3 σ 3 p 2 0) 20 2 p 0) gc) n) (gvS (up3 (up3 σ 3 p 2 0) 20 2 p 0) gc) n k i f = msS (up3 (up3 σ 3 p 2 0) 20 2 p 0) (gvS (up3 (up3 σ 3 p 2 0) 20 2 p 0) gc) n k i f := if_neg (by omega)
    rw [e4]
    by_cases c20 : k = 20 ∧ i = 21 ∧ f < n
    · obtain ⟨rfl, rfl, hfn⟩ := c20
      rw [msS_y hfn]
      by_cases cg : gc f = true
      · rw [ca_yv hfn (by rw [hmc f hfn]; exact cg), gv_y cg]
      · rw [ca_nv (by rw [hmc f hfn]; exact cg), gv_n cg, e20 20 21 f (by omega) (by omega)]
        exact (hV.2.2.2.2.1.2.2.2.1 f hfn).2.2
    · rw [ms_n c20, ca_n c20, ep]
      by_cases c4 : k = 20 ∧ i = 2 ∧ f = p
      · obtain ⟨rfl, rfl, rfl⟩ := c4
        rw [up3_v, up3_v]
      · rw [up3_o c4, up3_o c4, up3_o (by omega)]
        exact er k i f hk)
  refine ⟨n, up3 σ1 20 2 (nI p).toNatClampNeg 0, n, np, nv, 0, nI p, 0, 0, ⟨hV.2.2.2.2.1.1, ?_⟩, Nat.zero_le _, rfl, rfl, rfl, rfl, rfl, (caS_0 _ _).symm, hm, hvm, fun σ2 h9 => ?_⟩
  · rw [e20 11 0 21 (by omega) (by omega)]
    exact hV.2.2.2.2.1.2.2.1
  · have ecnt : cnt (mC (up3 σ1 20 2 (nI p).toNatClampNeg 0) (nI p)) n = cnt gc n := cnt_cg hmc
    rw [ecnt, hgc]
    exact h2 _ _ ⟨n, np, nv, (hgo2 σ2 h9).1⟩
