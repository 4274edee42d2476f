/-! calls, 11: ask -/
section Ask2
variable {w : HW} {σ : HS} {n np nv : Nat} {a s c h lw : Int32}
theorem cif_P {P : Int32 → Prop} {q : Prop} {x y : Int32} (h1 : P x) (h2 : P y) : P (cif q x y) := by
  by_cases hq : q
  · rw [cif_p hq]; exact h1
  · rw [cif_n hq]; exact h2
theorem rf_pos {p d x y : Nat} : 0 ≤ rfM σ n nv p d x y s := by
  have h1 : 0 ≤ reM σ n nv p d x y s := by
    unfold reM
    refine cif_P (P := fun z => 0 ≤ z) (by decide) (cif_P (P := fun z => 0 ≤ z) (by decide) (cif_P (P := fun z => 0 ≤ z) (by decide) (cif_P (P := fun z => 0 ≤ z) (by decide) (cif_P (P := fun z => 0 ≤ z) (by decide) (cif_P (P := fun z => 0 ≤ z) (by decide) ?_)))))
    unfold rhM
    exact cif_P (P := fun z => 0 ≤ z) (by decide) (cif_P (P := fun z => 0 ≤ z) (by decide) (cif_P (P := fun z => 0 ≤ z) (by decide) (by decide)))
  exact cif_P (P := fun z => 0 ≤ z) (by decide) h1
theorem rfS_id {p d x y : Nat} (h : ¬ rfM σ n nv p d x y s = 0) : rfS σ n nv p d x y s = σ 20 21 := cif_n fun q => h (cif_p q)
theorem rm_some (hC : Core w σ n np nv) {v p d a b : Nat} {s : Int32} (hv : VQ σ np nv v p d a b s) (h0 : rsC w σ n nv v = 0) (h5 : ¬ σ 9 v 5 = 0) : ∃ S', rmC σ n v = some S' := by
  have h0' := (rs_eq hC hv).symm.trans h0
  obtain ⟨hP, hV, hR, hB, hSh, hM⟩ := hC
  have hn := hB.1
  have hl : lwM σ nv s := Classical.not_not.mp fun z => h5 (hv.lw.mpr z)
  have hrm := rm_eq hB hSh hM hv
  by_cases hq : rfP σ n nv p d a b s
  · cases h1 : rmM σ n nv a b (nI d) with
    | none => exact absurd h1 hq.2.2
    | some y =>
      cases h2 : rmC σ n v with
      | none => rw [h1, h2] at hrm; exact hrm.elim
      | some x => exact ⟨x, rfl⟩
  · unfold rfM at h0'
    rw [cif_n hq] at h0'
    have hrh : rhM σ n p a b s (nI d) = 0 := by
      unfold reM at h0'
      by_cases h1 : σ 20 2 p = 0
      · rw [cif_p h1] at h0'; exact absurd h0' (by decide)
      rw [cif_n h1] at h0'
      by_cases h2 : ulM σ nv p s
      · rw [cif_p h2] at h0'; exact absurd h0' (by decide)
      rw [cif_n h2] at h0'
      by_cases h3 : baM σ nv p s (nI d)
      · rw [cif_p h3] at h0'; exact absurd h0' (by decide)
      rw [cif_n h3] at h0'
      by_cases h4 : caM σ nv s
      · rw [cif_p h4] at h0'; exact absurd h0' (by decide)
      rw [cif_n h4, cif_n (fun q => q.1 hl), cif_n (fun q => q.1 hl)] at h0'
      exact h0'
    have hnt : ¬ ntM σ n a b (nI d) := fun z => by
      unfold rhM at hrh
      by_cases h1 : smM σ n p s (nI d) (nI a) (nI b)
      · rw [cif_p h1] at hrh; exact absurd hrh (by decide)
      rw [cif_n h1] at hrh
      by_cases h2 : riM σ n p (nI d) (nI a) (nI b)
      · rw [cif_p h2] at hrh; exact absurd hrh (by decide)
      rw [cif_n h2, cif_p z] at hrh
      exact absurd hrh (by decide)
    have hid : rmM σ n nv a b (nI d) = some (σ 20 21) := rms_id fun h h1 h2 => by
      have h3 : nI (cnt (fun i => decide (atM σ i (nI d) (nI h))) n) < tbM σ (nI d) := Classical.not_not.mp fun z => hnt ⟨h, h1, h2, z⟩
      have h4 := cnt_le (fun i => decide (atM σ i (nI d) (nI h))) n
      have h5 := lt_cl h3 (by omega)
      exact h5
    cases h2 : rmC σ n v with
    | none => rw [hid, h2] at hrm; exact hrm.elim
    | some x => exact ⟨x, rfl⟩
theorem st_self : stS σ (fun i => σ 9 i 6) n = σ := by
  funext k i f
  unfold stS
  split
  · rename_i q
    obtain ⟨rfl, rfl, -⟩ := q
    rfl
  · rfl
theorem adm_c {K : HRt} (hF : Ivs w σ n np nv) {p d x y : Nat} (hq : VQ σ np nv n p d x y s) (h0 : rsC w σ n nv n = 0) (h : ∀ S, (∀ i, i < n → S i = rfS σ n nv p d x y s i) → K none w (up3 (stS σ S n) 9 n 6 0)) : sp_X1_admit [HR 1 0, HR 9 n] w σ K := by
  have ha := (adm_eq hF.core hq h0 (S := fun i => σ 9 i 6) (fun _ _ => rfl)).1
  refine ⟨fun h5 => ?_, fun h5 => ?_⟩
  · have h1 := h (fun i => σ 9 i 6) (fun i hi => by rw [← ha i hi, cif_p h5])
    rw [st_self] at h1
    exact h1
  · obtain ⟨S', e⟩ := rm_some hF.core hq h0 h5
    refine ⟨n, np, nv, S', hF.cw, hq.vw, hF.lv, e, h S' fun i hi => ?_⟩
    rw [← ha i hi, cif_n h5, e]
    rfl
theorem VQ.cg {σ' : HS} {v p d x y : Nat} (h : VQ σ np nv v p d x y s) (h9 : ∀ f, σ' 9 v f = σ 9 v f) (h20 : ∀ u, σ' 20 5 u = σ 20 5 u) : VQ σ' np nv v p d x y s := by
  have el : lwM σ' nv s ↔ lwM σ nv s := by
    show (∀ u, u < nv → bt1 s u → σ' 20 5 u = 2) ↔ (∀ u, u < nv → bt1 s u → σ 20 5 u = 2)
    simp only [h20]
  unfold VQ
  rw [h9 0, h9 1, h9 2, h9 3, h9 4, h9 5, el]
  exact h
theorem MWf_eq {σ' : HS} (h : ∀ k i f, k = 11 ∨ k = 20 ∨ k = 21 → σ' k i f = σ k i f) (hm : MWf σ n np nv) : MWf σ' n np nv := by
  have e : mix σ σ' = σ := mix_of (fun _ _ _ _ _ _ => rfl) h
  have e1 : MWf (mix σ σ') n np nv = MWf σ' n np nv := rfl
  rw [← e1, e]
  exact hm
/-- the world when visit n is numbered -/
def askW (w : HW) (j n : Nat) : HW := ((finW 9 (wRaw (w.1, up2 w.2 18 j (some n)) 9)).1, up2 (finW 9 (wRaw (w.1, up2 w.2 18 j (some n)) 9)).2 10 0 (some (w.1 9)))
def askS (σ : HS) (i m : Nat) : HS := finS 9 i m (up3 (zr (up3 σ 0 0 1 (σ 0 0 1 + 1)) 39 i) 39 i 6 2)
def askT (σ : HS) (j : Nat) (a s c x y st : Int32) : HS := up3 (up3 (up3 (up3 (up3 (up3 (up3 σ 20 16 j a) 20 17 j s) 20 18 j c) 20 19 j x) 20 20 j y) 20 21 j st) 11 0 21 (σ 11 0 21 + 1)
theorem askW_iv (h : IvW w n np) : IvW (askW w n n) (n + 1) np := by
  obtain ⟨h3, h13, h9, h10, h18, h15, h170, h171, h16⟩ := h
  refine ⟨h3, h13, ?_, ?_, fun j hj => ?_, h15, h170, h171, h16⟩
  · show w.1 9 + 1 = n + 1 + 1
    rw [h9]
  · show some (w.1 9) = some (n + 1)
    rw [h9]
  · show up2 w.2 18 n (some n) 18 j = some j
    unfold up2
    by_cases c : j = n
    · subst c
      simp
    · rw [if_neg fun q => c q.2]
      exact h18 j (by omega)
def Exc (n k i f : Nat) : Prop := (k = 0 ∧ i = 0 ∧ f = 1) ∨ (k = 11 ∧ i = 0 ∧ f = 21) ∨ (k = 9 ∧ n ≤ i) ∨ (k = 20 ∧ 16 ≤ i ∧ i ≤ 21 ∧ f = n) ∨ (k = 13 ∧ i = 3) ∨ (k = 20 ∧ i = 24) ∨ 30 ≤ k
theorem ask_inv {w' : HW} {τ : HS} (hV : Ivs w σ n np nv) (hn : n < 100) (hW : IvW w' (n + 1) np) (h16 : w'.2 16 = w.2 16) (ht : ∀ k i f, ¬ Exc n k i f → τ k i f = σ k i f) (e1 : τ 0 0 1 = nI (n + 1)) (e21 : τ 11 0 21 = nI (n + 1)) (hr : VR τ np nv n n) (h6 : τ 9 n 6 = 0 ∨ τ 9 n 6 = 1) (h61 : τ 20 21 n = τ 9 n 6) (h7 : τ 9 n 7 = 0) (h71 : τ 9 (n + 1) 7 = 0) (h1 : ¬ τ 9 n 1 = 0) : Ivs w' τ (n + 1) np nv := by
  obtain ⟨-, hP, hVv, hR, hB, hS, hT, hM⟩ := hV
  refine ⟨hW, hP.cd fun k i f hr => ht k i f (by unfold rdPr at hr; unfold Exc; omega), hVv.cd fun k i f hr => ht k i f (by unfold rdVi at hr; unfold Exc; omega), ?_, ?_, hS.cd fun k i f hr => ht k i f (by unfold rdSh at hr; unfold Exc; omega), hT.cd fun k i f hr => ht k i f (by unfold rdTa at hr; unfold Exc; omega), hM.cd fun k i f hr => ht k i f (by unfold rdMi at hr; unfold Exc; omega)⟩
  · have hR' : IvR w τ := hR.cd fun k i f hr => ht k i f (by unfold rdRi at hr; unfold Exc; omega)
    intro c hc
    rw [h16]
    exact hR' c hc
  · refine ⟨by omega, e1, e21, fun j hj => ?_, fun j hj => ?_, fun j hj => ?_⟩
    · by_cases c : j = n
      · subst c
        exact ⟨hr, h6.elim Or.inl (fun q => Or.inr (Or.inl q)), h61⟩
      · have q := hB.2.2.2.1 j (by omega)
        refine ⟨q.1.cd (fun f => ht _ _ _ (by unfold Exc; omega)) (fun r r1 r2 => ht _ _ _ (by unfold Exc; omega)) (fun v => ht _ _ _ (by unfold Exc; omega)), ?_⟩
        rw [ht 9 j 6 (by unfold Exc; omega), ht 20 21 j (by unfold Exc; omega)]
        exact q.2
    · by_cases c : j = n + 1
      · subst c
        exact h71
      by_cases c : j = n
      · subst c
        exact h7
      · rw [ht 9 j 7 (by unfold Exc; omega)]
        exact hB.2.2.2.2.1 j (by omega)
    · by_cases c : j = n
      · subst c
        exact h1
      · rw [ht 9 j 1 (by unfold Exc; omega)]
        exact hB.2.2.2.2.2 j (by omega)
end Ask2
section Ask3
variable {w : HW} {σ : HS} {n np nv : Nat} {a s c h e st : Int32}
theorem askS_o {j m k i f : Nat} (h1 : ¬ (k = 0 ∧ i = 0 ∧ f = 1)) (h2 : ¬ (k = 9 ∧ i = m)) (h3 : k < 30) : askS σ j m k i f = σ k i f := by
  unfold askS finS
  rw [if_neg h2, up3_o (by omega), zr_ne (by omega), up3_o h1]
theorem askS_1 {j m : Nat} : askS σ j m 0 0 1 = σ 0 0 1 + 1 := by
  unfold askS finS
  rw [if_neg (by omega), up3_o (by omega), zr_ne (by omega), up3_v]
theorem askS_7 {j m : Nat} : askS σ j m 9 m 7 = 0 := by
  unfold askS finS
  rw [if_pos ⟨rfl, rfl⟩]
  rw [up3_o (by omega)]
  unfold zr
  rw [if_pos ⟨rfl, rfl⟩]
theorem askT_o {j k i f : Nat} {x y : Int32} (h1 : ¬ (k = 20 ∧ 16 ≤ i ∧ i ≤ 21 ∧ f = j)) (h2 : ¬ (k = 11 ∧ i = 0 ∧ f = 21)) : askT σ j a s c x y st k i f = σ k i f := by
  unfold askT
  rw [up3_o h2, up3_o (by omega), up3_o (by omega), up3_o (by omega), up3_o (by omega), up3_o (by omega), up3_o (by omega)]
theorem askT_v {j : Nat} {x y : Int32} : askT σ j a s c x y st 20 16 j = a ∧ askT σ j a s c x y st 20 17 j = s ∧ askT σ j a s c x y st 20 18 j = c ∧ askT σ j a s c x y st 20 19 j = x ∧ askT σ j a s c x y st 20 20 j = y ∧ askT σ j a s c x y st 20 21 j = st ∧ askT σ j a s c x y st 11 0 21 = σ 11 0 21 + 1 := by
  unfold askT
  refine ⟨?_, ?_, ?_, ?_, ?_, ?_, up3_v⟩
  · rw [up3_o (by omega), up3_o (by omega), up3_o (by omega), up3_o (by omega), up3_o (by omega), up3_o (by omega), up3_v]
  · rw [up3_o (by omega), up3_o (by omega), up3_o (by omega), up3_o (by omega), up3_o (by omega), up3_v]
  · rw [up3_o (by omega), up3_o (by omega), up3_o (by omega), up3_o (by omega), up3_v]
  · rw [up3_o (by omega), up3_o (by omega), up3_o (by omega), up3_v]
  · rw [up3_o (by omega), up3_o (by omega), up3_v]
  · rw [up3_o (by omega), up3_v]
theorem rfS_012 (hF : Ivs w σ n np nv) {p d x y : Nat} : s012 n (rfS σ n nv p d x y s) := by
  have h012 : s012 n (σ 20 21) := fun i hi => by rw [(hF.2.2.2.2.1.2.2.2.1 i hi).2.2]; exact (hF.2.2.2.2.1.2.2.2.1 i hi).2.1
  unfold rfS
  by_cases hq : rfP σ n nv p d x y s
  · rw [cif_p hq]
    cases h1 : rmM σ n nv x y (nI d) with
    | none => exact absurd h1 hq.2.2
    | some z => exact rms_012 _ _ _ h012 z h1
  · rw [cif_n hq]
    exact h012
theorem ask_fin (hF : Ivs w σ n np nv) (hn : n < 100) {p d x y : Nat} (hq : VQ σ np nv n p d x y s) (hs0 : ¬ s = 0) (y1 : 1 ≤ y) (y4 : y ≤ 4) {S : Nat → Int32} (hS : ∀ i, i < n → S i = rfS σ n nv p d x y s i) (hst : st = 0 ∨ st = 1) {σB σ2 : HS} (hB : σB = askS (up3 (stS σ S n) 9 n 6 st) (w.1 39) (w.1 9)) (h9 : eqB (msS σB (rfS σ n nv p d x y s) n) σ2) : Ivs (askW w n n) (askT σ2 n (nI p) s (nI d) (nI x) (nI y) st) (n + 1) np nv := by
  have hw9 : w.1 9 = n + 1 := hF.1.2.2.1
  rw [hw9] at hB
  obtain ⟨R, hR⟩ : ∃ R, R = rfS σ n nv p d x y s := ⟨_, rfl⟩
  have h012 : s012 n R := by rw [hR]; exact rfS_012 hF
  rw [← hR] at hS h9
  obtain ⟨hp, hd, hab, v0, v1, v2, v3, v4, hset, h01, hlw⟩ := id hq
  obtain ⟨t16, t17, t18, t19, t20, t21, t11⟩ := @askT_v σ2 (nI p) s (nI d) st n (nI x) (nI y)
  have e2 : ∀ k i f, ¬ (k = 20 ∧ (i = 24 ∨ i = 21)) → σ2 k i f = σB k i f := fun k i f q => by rw [h9 k i f (by omega), ms_n (by omega)]
  have eB : ∀ k i f, ¬ (k = 0 ∧ i = 0 ∧ f = 1) → ¬ (k = 9 ∧ n < i) → ¬ (k = 9 ∧ f = 6) → k < 30 → σB k i f = σ k i f := fun k i f q1 q2 q3 q4 => by rw [hB, askS_o q1 (by omega) q4, up3_o (by omega), st_n (by omega)]
  have e1 : σ2 0 0 1 = nI (n + 1) := by
    rw [e2 _ _ _ (by omega), hB, askS_1, up3_o (by omega), st_n (by omega), hF.2.2.2.2.1.2.1, nI_1]
  have e21 : σ2 11 0 21 = nI n := by rw [e2 _ _ _ (by omega), eB _ _ _ (by omega) (by omega) (by omega) (by omega)]; exact hF.2.2.2.2.1.2.2.1
  have t9 : ∀ f, f ≠ 6 → askT σ2 n (nI p) s (nI d) (nI x) (nI y) st 9 n f = σ 9 n f := fun f hf => by rw [askT_o (by omega) (by omega), e2 _ _ _ (by omega), eB _ _ _ (by omega) (by omega) (by omega) (by omega)]
  have t96 : askT σ2 n (nI p) s (nI d) (nI x) (nI y) st 9 n 6 = st := by rw [askT_o (by omega) (by omega), e2 _ _ _ (by omega), hB, askS_o (by omega) (by omega) (by omega), up3_v]
  refine ask_inv (st_all hF h012) hn (askW_iv hF.1) rfl (fun k i f q => ?_) (by rw [askT_o (by omega) (by omega)]; exact e1) (by rw [t11, e21, nI_1]) ⟨⟨p, d, x, y, hp, hd, y1, y4, hab, by rw [t9 0 (by omega)]; exact v0, t16, by rw [t9 2 (by omega)]; exact v2, t18, by rw [t9 3 (by omega)]; exact v3, t19, by rw [t9 4 (by omega)]; exact v4, t20⟩, by rw [t9 1 (by omega), v1, t17], by rw [t9 1 (by omega), v1]; exact hset, by rw [t9 5 (by omega)]; exact h01, ?_⟩ (by rw [t96]; exact hst) (by rw [t96, t21]) (by rw [t9 7 (by omega)]; exact hF.2.2.2.2.1.2.2.2.2.1 n (Nat.le_refl n)) (by rw [askT_o (by omega) (by omega), e2 _ _ _ (by omega), hB]; exact askS_7) (by rw [t9 1 (by omega), v1]; exact hs0)
  · unfold Exc at q
    rw [askT_o (by omega) (by omega)]
    by_cases c20 : k = 20 ∧ i = 21 ∧ f < n
    · obtain ⟨rfl, rfl, hf⟩ := c20
      rw [h9 _ _ _ (by omega), msS_y hf, st_n (by omega), msS_y hf]
    · rw [h9 k i f (by omega), ms_n c20]
      by_cases c9 : k = 9 ∧ f = 6 ∧ i < n
      · obtain ⟨rfl, rfl, hi⟩ := c9
        rw [st_y hi, hB, askS_o (by omega) (by omega) (by omega), up3_o (by omega), st_y hi]
        exact hS i hi
      · rw [st_n c9, ms_n c20, hB, askS_o (by omega) (by omega) (by omega), up3_o (by omega), st_n c9]
  · rw [t9 5 (by omega), t9 1 (by omega), v1, hlw]
    show (∀ u, u < nv → bt1 s u → σ 20 5 u = 2) ↔ (∀ u, u < nv → bt1 s u → askT σ2 n (nI p) s (nI d) (nI x) (nI y) st 20 5 u = 2)
    have e5 : ∀ u, askT σ2 n (nI p) s (nI d) (nI x) (nI y) st 20 5 u = σ 20 5 u := fun u => by rw [askT_o (by omega) (by omega), e2 _ _ _ (by omega), eB _ _ _ (by omega) (by omega) (by omega) (by omega)]
    simp only [e5]
theorem ask_ref {K2 : HRt} (hF : Ivs w σ n np nv) (hn : n < 100) {p d x y : Nat} (hq : VQ σ np nv n p d x y s) (y1 : 1 ≤ y) (y4 : y ≤ 4) (hA : AskP σ np nv a s c h) (ea : a = nI p) (ec : c = nI d) (ex : h / 10 = nI x) (ey : h - h / 10 * 10 = nI y) {S : Nat → Int32} (hS : ∀ i, i < n → S i = rfS σ n nv p d x y s i) (he : ¬ e < 0 ∧ ¬ 1 < e) (hst : (rfM σ n nv p d x y s = 0 ∧ st = 0) ∨ (¬ rfM σ n nv p d x y s = 0 ∧ st = 1 ∧ ¬ rfM σ n nv p d x y s < 6 ∧ ¬ e = 0)) (h2 : ∀ w2 σ2, Inv w2 σ2 → K2 (some (HI (nI n))) w2 σ2) : sp_X11_ask [HR 11 0, HI a, HI s, HI c, HI h, HI e] (askW w n n) (askS (up3 (stS σ S n) 9 n 6 st) (w.1 39) (w.1 9)) K2 := by
  have h10 := hF.2.1.1
  have h14 := hF.2.2.1.1
  have hw9 : w.1 9 = n + 1 := hF.1.2.2.1
  have hs0 : ¬ s = 0 := (set_pos h14 hA.2.1.1).mp hA.2.1.2.1
  obtain ⟨σB, hB⟩ : ∃ σB, σB = askS (up3 (stS σ S n) 9 n 6 st) (w.1 39) (w.1 9) := ⟨_, rfl⟩
  rw [← hB]
  have er : ∀ k i f, k = 11 ∨ k = 20 ∨ k = 21 → σB k i f = σ k i f := fun k i f hk => by rw [hB, askS_o (by omega) (by omega) (by omega), up3_o (by omega), st_n (by omega)]
  obtain ⟨p1, p2, p3, t1, t2, t3, t4⟩ := ref_ok (σ' := σB) hF hA (er _ _ _ (Or.inl rfl)) (er _ _ _ (Or.inl rfl)) (er _ _ _ (Or.inl rfl))
  refine And.intro (fun _ => And.intro (fun z9 => absurd z9 (by decide)) (fun _ => ?_)) (fun z9 => absurd (p1) z9)
  refine And.intro (fun _ => And.intro (fun z9 => absurd z9 (by decide)) (fun _ => ?_)) (fun z9 => absurd (p2) z9)
  refine And.intro (fun z9 => absurd z9 (p3)) (fun _ => ?_)
  refine And.intro (fun _ => And.intro (fun z9 => absurd z9 (by decide)) (fun _ => ?_)) (fun z9 => absurd (t1) z9)
  refine And.intro (fun z9 => absurd z9 (t2)) (fun _ => ?_)
  refine And.intro (by decide) ?_
  refine And.intro (fun _ => And.intro (fun z9 => absurd z9 (by decide)) (fun _ => ?_)) (fun z9 => absurd (t3) z9)
  refine And.intro (by decide) (And.intro (by decide) ?_)
  refine And.intro (fun z9 => absurd z9 (t4)) (fun _ => ?_)
  refine And.intro (fun z9 => absurd z9 (by decide)) (fun _ => ?_)
  refine And.intro (fun z9 => absurd z9 (by decide)) (fun _ => ?_)
  refine And.intro (Or.inr rfl) ?_
  refine And.intro (fun z9 => absurd z9 (by decide)) (fun _ => ?_)
  refine And.intro (fun _ => And.intro (fun z9 => absurd z9 (by decide)) (fun _ => ?_)) (fun z9 => absurd (he) z9)
  have eB21 : σB 11 0 21 = nI n := by rw [er _ _ _ (Or.inl rfl)]; exact hF.2.2.2.2.1.2.2.1
  have z1 : ¬ σB 11 0 21 = 100 := by rw [eB21]; exact fun q => by have := (nI_eq (b := 100) (by omega) (by decide)).mp q; omega
  refine And.intro (fun z9 => absurd z9 (z1)) (fun _ => ?_)
  refine And.intro (by decide) (And.intro (by decide) ?_)
  refine ⟨n, np, nv, p, d, x, y, MWf_eq er hF.mw.1, hq.1, ea, hq.2.1, ec, ex, ey, hq.2.2.1, Or.inr rfl, fun σ2 h9 => ?_⟩
  have h9' : eqB (msS σB (rfS σ n nv p d x y s) n) σ2 := by
    rw [← rfS_eq er]
    exact h9
  have e21 : σ2 11 0 21 = nI n := by rw [h9 _ _ _ (by omega), ms_n (by omega)]; exact eB21
  have ecl : (σ2 11 0 21).toNatClampNeg = n := by rw [e21, nI_clamp (by omega)]
  have hin : vp_in (σ2 11 0 21) 100 := by rw [e21]; exact vp_in_nI hn (by decide)
  have erM := rfM_eq (n := n) (nv := nv) (s := s) (p := p) (d := d) (x := x) (y := y) er
  rcases hst with ⟨r0, rfl⟩ | ⟨r0, rfl, r6, e0⟩
  · have z2 : rfM σB n nv p d x y s ≤ 0 := by rw [erM, r0]; decide
    refine And.intro (fun _ => ?_) (fun z9 => absurd (z2) z9)
    refine And.intro hin (And.intro hin (And.intro hin (And.intro (by decide) (And.intro hin (And.intro (by decide) (And.intro hin ?_))))))
    have z3 : rfM σB n nv p d x y s = 0 := by rw [erM, r0]
    refine And.intro (fun _ => ?_) (fun z9 => absurd (z3) z9)
    refine And.intro hin ?_
    show K2 (some (HI (σ2 11 0 21 + 1 - 1))) (askW w n n) (askT σ2 (σ2 11 0 21).toNatClampNeg a s c (h / 10) (h - h / 10 * 10) 0)
    rw [ecl, e21, nI_1, nI_pred, ey, ex, ea, ec]
    exact h2 _ _ ⟨n + 1, np, nv, ask_fin hF hn hq hs0 y1 y4 hS (Or.inl rfl) hB h9'⟩
  · have z2 : ¬ rfM σB n nv p d x y s ≤ 0 := by
      rw [erM]
      exact fun z => r0 (Int32.le_antisymm z rf_pos)
    refine And.intro (fun z9 => absurd z9 (z2)) (fun _ => ?_)
    have z4 : ¬ rfM σB n nv p d x y s < 6 := by rw [erM]; exact r6
    refine And.intro (fun z9 => absurd z9 (z4)) (fun _ => ?_)
    refine And.intro (fun z9 => absurd z9 (e0)) (fun _ => ?_)
    refine And.intro hin (And.intro hin (And.intro hin (And.intro (by decide) (And.intro hin (And.intro (by decide) (And.intro hin ?_))))))
    have z3 : ¬ rfM σB n nv p d x y s = 0 := by rw [erM]; exact r0
    refine And.intro (fun z9 => absurd z9 (z3)) (fun _ => ?_)
    refine And.intro hin ?_
    show K2 (some (HI (σ2 11 0 21 + 1 - 1))) (askW w n n) (askT σ2 (σ2 11 0 21).toNatClampNeg a s c (h / 10) (h - h / 10 * 10) 1)
    rw [ecl, e21, nI_1, nI_pred, ey, ex, ea, ec]
    exact h2 _ _ ⟨n + 1, np, nv, ask_fin hF hn hq hs0 y1 y4 hS (Or.inr rfl) hB h9'⟩
theorem ask_no {K2 : HRt} (hF : Ivs w σ n np nv) (hn : n < 100) {p d x y : Nat} (hq : VQ σ np nv n p d x y s) (hA : AskP σ np nv a s c h) (ea : a = nI p) (ec : c = nI d) (ex : h / 10 = nI x) (ey : h - h / 10 * 10 = nI y) (he : ¬ e < 0 ∧ ¬ 1 < e) (r0 : ¬ rfM σ n nv p d x y s = 0) (hst : rfM σ n nv p d x y s < 6 ∨ e = 0) (h2 : ∀ w2 σ2, Inv w2 σ2 → K2 (some (HI (-10 - rfM σ n nv p d x y s))) w2 σ2) : sp_X11_ask [HR 11 0, HI a, HI s, HI c, HI h, HI e] w σ K2 := by
  obtain ⟨p1, p2, p3, t1, t2, t3, t4⟩ := ref_ok (σ' := σ) hF hA rfl rfl rfl
  refine And.intro (fun _ => And.intro (fun z9 => absurd z9 (by decide)) (fun _ => ?_)) (fun z9 => absurd (p1) z9)
  refine And.intro (fun _ => And.intro (fun z9 => absurd z9 (by decide)) (fun _ => ?_)) (fun z9 => absurd (p2) z9)
  refine And.intro (fun z9 => absurd z9 (p3)) (fun _ => ?_)
  refine And.intro (fun _ => And.intro (fun z9 => absurd z9 (by decide)) (fun _ => ?_)) (fun z9 => absurd (t1) z9)
  refine And.intro (fun z9 => absurd z9 (t2)) (fun _ => ?_)
  refine And.intro (by decide) ?_
  refine And.intro (fun _ => And.intro (fun z9 => absurd z9 (by decide)) (fun _ => ?_)) (fun z9 => absurd (t3) z9)
  refine And.intro (by decide) (And.intro (by decide) ?_)
  refine And.intro (fun z9 => absurd z9 (t4)) (fun _ => ?_)
  refine And.intro (fun z9 => absurd z9 (by decide)) (fun _ => ?_)
  refine And.intro (fun z9 => absurd z9 (by decide)) (fun _ => ?_)
  refine And.intro (Or.inr rfl) ?_
  refine And.intro (fun z9 => absurd z9 (by decide)) (fun _ => ?_)
  refine And.intro (fun _ => And.intro (fun z9 => absurd z9 (by decide)) (fun _ => ?_)) (fun z9 => absurd (he) z9)
  have eB21 : σ 11 0 21 = nI n := hF.2.2.2.2.1.2.2.1
  have z1 : ¬ σ 11 0 21 = 100 := by rw [eB21]; exact fun q => by have := (nI_eq (b := 100) (by omega) (by decide)).mp q; omega
  refine And.intro (fun z9 => absurd z9 (z1)) (fun _ => ?_)
  refine And.intro (by decide) (And.intro (by decide) ?_)
  refine ⟨n, np, nv, p, d, x, y, hF.mw.1, hq.1, ea, hq.2.1, ec, ex, ey, hq.2.2.1, Or.inr rfl, fun σ2 h9 => ?_⟩
  have z2 : ¬ rfM σ n nv p d x y s ≤ 0 := fun z => r0 (Int32.le_antisymm z rf_pos)
  have fin : K2 (some (HI (-10 - rfM σ n nv p d x y s))) w σ2 := by
    refine h2 _ _ ⟨n, np, nv, hF.cg fun k i f hs => ?_⟩
    rw [h9 k i f (fun q => hs (Or.inr (Or.inl ⟨q.1, Or.inl q.2⟩))), if_neg (by decide), rfS_id r0, msS_self]
  refine And.intro (fun z9 => absurd z9 (z2)) (fun _ => ?_)
  by_cases r6 : rfM σ n nv p d x y s < 6
  · refine And.intro (fun _ => ?_) (fun z9 => absurd (r6) z9)
    exact fin
  · refine And.intro (fun z9 => absurd z9 (r6)) (fun _ => ?_)
    have e0 : e = 0 := hst.elim (fun q => absurd q r6) id
    refine And.intro (fun _ => ?_) (fun z9 => absurd (e0) z9)
    exact fin
end Ask3
theorem eq_ask : Eq5 Inv sp_X10_ask sp_X11_ask := by
  intro a s c h e w σ Q1 hI hK
  obtain ⟨n, np, nv, hV⟩ := id hI
  have h10 := hV.2.1.1
  have h14 := hV.2.2.1.1
  have h100 := hV.2.2.2.2.1.1
  have en : σ 0 0 1 = nI n := hV.2.2.2.2.1.2.1
  have en2 : σ 11 0 21 = nI n := hV.2.2.2.2.1.2.2.1
  have hq10 : w.2 10 0 = some n := hV.1.2.2.2.1
  by_cases hA : AskP σ np nv a s c h
  rotate_left
  · have bad : Q1 (some (HI (-1000000001))) w σ := by
      refine hK _ _ _ fun K2 h2 => ?_
      obtain ⟨td, htd, t1, t2⟩ := hV.2.2.2.2.2.2.2.1
      have hNN : ¬ ((∃ p, p < np ∧ a = nI p) ∧ PtP nv s ∧ (¬ c < σ 11 0 0 ∧ ¬ 400 < c) ∧ HvP h) := fun q => hA ⟨q.1, q.2.1, by rw [t1, ← t2]; exact q.2.2.1, q.2.2.2⟩
      have e1 : σ 11 0 1 = nI np := hV.2.1.2.2.1
      have e7 : σ 11 0 7 = nI nv := hV.2.2.1.2.2.1
      have hK2 := h2
      by_cases h1 : ¬ a < 0 ∧ ¬ σ 11 0 1 - 1 < a
      rotate_left
      · have p1 : ¬ ∃ p, p < np ∧ a = nI p := by
          rw [e1, Pn (by omega)] at h1
          exact h1
        refine And.intro (fun z9 => absurd z9 (h1)) (fun _ => And.intro (fun _ => ?_) (fun z9 => absurd rfl z9))
        by_cases t1 : ¬ c < σ 11 0 0 ∧ ¬ 400 < c
        rotate_left
        · refine And.intro (fun z9 => absurd z9 (t1)) (fun _ => And.intro (fun _ => ?_) (fun z9 => absurd rfl z9))
          refine And.intro (fun _ => ?_) (fun z9 => absurd (rfl) z9)
          exact ⟨Or.inl rfl, And.intro (fun _ => hK2 _ _ hI) (fun z9 => absurd rfl z9)⟩
        refine And.intro (fun _ => And.intro (fun z9 => absurd z9 (by decide)) (fun _ => ?_)) (fun z9 => absurd (t1) z9)
        by_cases t2 : h < 0
        · refine And.intro (fun _ => ?_) (fun z9 => absurd (t2) z9)
          refine And.intro (fun _ => ?_) (fun z9 => absurd (rfl) z9)
          exact ⟨Or.inl rfl, And.intro (fun _ => hK2 _ _ hI) (fun z9 => absurd rfl z9)⟩
        refine And.intro (fun z9 => absurd z9 (t2)) (fun _ => ?_)
        refine And.intro (by decide) ?_
        by_cases t3 : ¬ h - h / 10 * 10 < 1 ∧ ¬ 4 < h - h / 10 * 10
        rotate_left
        · refine And.intro (fun z9 => absurd z9 (t3)) (fun _ => And.intro (fun _ => ?_) (fun z9 => absurd rfl z9))
          refine And.intro (fun _ => ?_) (fun z9 => absurd (rfl) z9)
          exact ⟨Or.inl rfl, And.intro (fun _ => hK2 _ _ hI) (fun z9 => absurd rfl z9)⟩
        refine And.intro (fun _ => And.intro (fun z9 => absurd z9 (by decide)) (fun _ => ?_)) (fun z9 => absurd (t3) z9)
        refine And.intro (by decide) (And.intro (by decide) ?_)
        by_cases t4 : 12 < h / 10 + (h - h / 10 * 10)
        · refine And.intro (fun _ => ?_) (fun z9 => absurd (t4) z9)
          refine And.intro (fun _ => ?_) (fun z9 => absurd (rfl) z9)
          exact ⟨Or.inl rfl, And.intro (fun _ => hK2 _ _ hI) (fun z9 => absurd rfl z9)⟩
        refine And.intro (fun z9 => absurd z9 (t4)) (fun _ => ?_)
        refine And.intro (fun _ => ?_) (fun z9 => absurd (rfl) z9)
        exact ⟨Or.inl rfl, And.intro (fun _ => hK2 _ _ hI) (fun z9 => absurd rfl z9)⟩
      refine And.intro (fun _ => And.intro (fun z9 => absurd z9 (by decide)) (fun _ => ?_)) (fun z9 => absurd (h1) z9)
      have p1 := h1
      rw [e1, Pn (by omega)] at p1
      have pr := pt_ref (s := s) h14
      rw [← e7] at pr
      by_cases h2 : ¬ s < 1 ∧ ¬ (1 : Int32) <<< (σ 11 0 7 &&& 31) - 1 < s
      rotate_left
      · refine And.intro (fun z9 => absurd z9 (h2)) (fun _ => And.intro (fun _ => ?_) (fun z9 => absurd rfl z9))
        by_cases t1 : ¬ c < σ 11 0 0 ∧ ¬ 400 < c
        rotate_left
        · refine And.intro (fun z9 => absurd z9 (t1)) (fun _ => And.intro (fun _ => ?_) (fun z9 => absurd rfl z9))
          refine And.intro (fun _ => ?_) (fun z9 => absurd (rfl) z9)
          exact ⟨Or.inl rfl, And.intro (fun _ => hK2 _ _ hI) (fun z9 => absurd rfl z9)⟩
        refine And.intro (fun _ => And.intro (fun z9 => absurd z9 (by decide)) (fun _ => ?_)) (fun z9 => absurd (t1) z9)
        by_cases t2 : h < 0
        · refine And.intro (fun _ => ?_) (fun z9 => absurd (t2) z9)
          refine And.intro (fun _ => ?_) (fun z9 => absurd (rfl) z9)
          exact ⟨Or.inl rfl, And.intro (fun _ => hK2 _ _ hI) (fun z9 => absurd rfl z9)⟩
        refine And.intro (fun z9 => absurd z9 (t2)) (fun _ => ?_)
        refine And.intro (by decide) ?_
        by_cases t3 : ¬ h - h / 10 * 10 < 1 ∧ ¬ 4 < h - h / 10 * 10
        rotate_left
        · refine And.intro (fun z9 => absurd z9 (t3)) (fun _ => And.intro (fun _ => ?_) (fun z9 => absurd rfl z9))
          refine And.intro (fun _ => ?_) (fun z9 => absurd (rfl) z9)
          exact ⟨Or.inl rfl, And.intro (fun _ => hK2 _ _ hI) (fun z9 => absurd rfl z9)⟩
        refine And.intro (fun _ => And.intro (fun z9 => absurd z9 (by decide)) (fun _ => ?_)) (fun z9 => absurd (t3) z9)
        refine And.intro (by decide) (And.intro (by decide) ?_)
        by_cases t4 : 12 < h / 10 + (h - h / 10 * 10)
        · refine And.intro (fun _ => ?_) (fun z9 => absurd (t4) z9)
          refine And.intro (fun _ => ?_) (fun z9 => absurd (rfl) z9)
          exact ⟨Or.inl rfl, And.intro (fun _ => hK2 _ _ hI) (fun z9 => absurd rfl z9)⟩
        refine And.intro (fun z9 => absurd z9 (t4)) (fun _ => ?_)
        refine And.intro (fun _ => ?_) (fun z9 => absurd (rfl) z9)
        exact ⟨Or.inl rfl, And.intro (fun _ => hK2 _ _ hI) (fun z9 => absurd rfl z9)⟩
      refine And.intro (fun _ => And.intro (fun z9 => absurd z9 (by decide)) (fun _ => ?_)) (fun z9 => absurd (h2) z9)
      by_cases h3 : 3 < bsum s 31
      · refine And.intro (fun _ => ?_) (fun z9 => absurd (h3) z9)
        by_cases t1 : ¬ c < σ 11 0 0 ∧ ¬ 400 < c
        rotate_left
        · refine And.intro (fun z9 => absurd z9 (t1)) (fun _ => And.intro (fun _ => ?_) (fun z9 => absurd rfl z9))
          refine And.intro (fun _ => ?_) (fun z9 => absurd (rfl) z9)
          exact ⟨Or.inl rfl, And.intro (fun _ => hK2 _ _ hI) (fun z9 => absurd rfl z9)⟩
        refine And.intro (fun _ => And.intro (fun z9 => absurd z9 (by decide)) (fun _ => ?_)) (fun z9 => absurd (t1) z9)
        by_cases t2 : h < 0
        · refine And.intro (fun _ => ?_) (fun z9 => absurd (t2) z9)
          refine And.intro (fun _ => ?_) (fun z9 => absurd (rfl) z9)
          exact ⟨Or.inl rfl, And.intro (fun _ => hK2 _ _ hI) (fun z9 => absurd rfl z9)⟩
        refine And.intro (fun z9 => absurd z9 (t2)) (fun _ => ?_)
        refine And.intro (by decide) ?_
        by_cases t3 : ¬ h - h / 10 * 10 < 1 ∧ ¬ 4 < h - h / 10 * 10
        rotate_left
        · refine And.intro (fun z9 => absurd z9 (t3)) (fun _ => And.intro (fun _ => ?_) (fun z9 => absurd rfl z9))
          refine And.intro (fun _ => ?_) (fun z9 => absurd (rfl) z9)
          exact ⟨Or.inl rfl, And.intro (fun _ => hK2 _ _ hI) (fun z9 => absurd rfl z9)⟩
        refine And.intro (fun _ => And.intro (fun z9 => absurd z9 (by decide)) (fun _ => ?_)) (fun z9 => absurd (t3) z9)
        refine And.intro (by decide) (And.intro (by decide) ?_)
        by_cases t4 : 12 < h / 10 + (h - h / 10 * 10)
        · refine And.intro (fun _ => ?_) (fun z9 => absurd (t4) z9)
          refine And.intro (fun _ => ?_) (fun z9 => absurd (rfl) z9)
          exact ⟨Or.inl rfl, And.intro (fun _ => hK2 _ _ hI) (fun z9 => absurd rfl z9)⟩
        refine And.intro (fun z9 => absurd z9 (t4)) (fun _ => ?_)
        refine And.intro (fun _ => ?_) (fun z9 => absurd (rfl) z9)
        exact ⟨Or.inl rfl, And.intro (fun _ => hK2 _ _ hI) (fun z9 => absurd rfl z9)⟩
      refine And.intro (fun z9 => absurd z9 (h3)) (fun _ => ?_)
      have p2 := pr.mp ⟨h2, h3⟩
      by_cases t1 : ¬ c < σ 11 0 0 ∧ ¬ 400 < c
      rotate_left
      · refine And.intro (fun z9 => absurd z9 (t1)) (fun _ => And.intro (fun _ => ?_) (fun z9 => absurd rfl z9))
        refine And.intro (fun z9 => absurd z9 (by decide)) (fun _ => ?_)
        refine And.intro (fun _ => ?_) (fun z9 => absurd (rfl) z9)
        exact ⟨Or.inl rfl, And.intro (fun _ => hK2 _ _ hI) (fun z9 => absurd rfl z9)⟩
      refine And.intro (fun _ => And.intro (fun z9 => absurd z9 (by decide)) (fun _ => ?_)) (fun z9 => absurd (t1) z9)
      by_cases t2 : h < 0
      · refine And.intro (fun _ => ?_) (fun z9 => absurd (t2) z9)
        refine And.intro (fun z9 => absurd z9 (by decide)) (fun _ => ?_)
        refine And.intro (fun _ => ?_) (fun z9 => absurd (rfl) z9)
        exact ⟨Or.inl rfl, And.intro (fun _ => hK2 _ _ hI) (fun z9 => absurd rfl z9)⟩
      refine And.intro (fun z9 => absurd z9 (t2)) (fun _ => ?_)
      refine And.intro (by decide) ?_
      by_cases t3 : ¬ h - h / 10 * 10 < 1 ∧ ¬ 4 < h - h / 10 * 10
      rotate_left
      · refine And.intro (fun z9 => absurd z9 (t3)) (fun _ => And.intro (fun _ => ?_) (fun z9 => absurd rfl z9))
        refine And.intro (fun z9 => absurd z9 (by decide)) (fun _ => ?_)
        refine And.intro (fun _ => ?_) (fun z9 => absurd (rfl) z9)
        exact ⟨Or.inl rfl, And.intro (fun _ => hK2 _ _ hI) (fun z9 => absurd rfl z9)⟩
      refine And.intro (fun _ => And.intro (fun z9 => absurd z9 (by decide)) (fun _ => ?_)) (fun z9 => absurd (t3) z9)
      refine And.intro (by decide) (And.intro (by decide) ?_)
      by_cases t4 : 12 < h / 10 + (h - h / 10 * 10)
      · refine And.intro (fun _ => ?_) (fun z9 => absurd (t4) z9)
        refine And.intro (fun z9 => absurd z9 (by decide)) (fun _ => ?_)
        refine And.intro (fun _ => ?_) (fun z9 => absurd (rfl) z9)
        exact ⟨Or.inl rfl, And.intro (fun _ => hK2 _ _ hI) (fun z9 => absurd rfl z9)⟩
      refine And.intro (fun z9 => absurd z9 (t4)) (fun _ => ?_)
      refine And.intro (fun z9 => absurd z9 (by decide)) (fun _ => ?_)
      refine And.intro (fun z9 => absurd z9 (by decide)) (fun _ => ?_)
      exact absurd ⟨p1, p2, t1, hv_ref.mp ⟨t2, t3, t4⟩⟩ hNN
    refine ⟨np, hV.pk, fun p hp ep => ?_, fun hx => ⟨Or.inl rfl, And.intro (fun _ => bad) (fun z9 => absurd rfl z9)⟩⟩
    by_cases c1 : ptC σ s
    rotate_left
    · refine And.intro (fun z9 => absurd z9 (c1)) (fun _ => And.intro (fun _ => ?_) (fun z9 => absurd rfl z9))
      exact ⟨Or.inl rfl, And.intro (fun _ => bad) (fun z9 => absurd rfl z9)⟩
    refine And.intro (fun _ => And.intro (fun z9 => absurd z9 (by decide)) (fun _ => ?_)) (fun z9 => absurd (c1) z9)
    by_cases c2 : c < σ 0 0 2
    · refine And.intro (fun _ => ?_) (fun z9 => absurd (c2) z9)
      exact ⟨Or.inl rfl, And.intro (fun _ => bad) (fun z9 => absurd rfl z9)⟩
    refine And.intro (fun z9 => absurd z9 (c2)) (fun _ => ?_)
    by_cases c3 : 400 < c
    · refine And.intro (fun _ => ?_) (fun z9 => absurd (c3) z9)
      exact ⟨Or.inl rfl, And.intro (fun _ => bad) (fun z9 => absurd rfl z9)⟩
    refine And.intro (fun z9 => absurd z9 (c3)) (fun _ => ?_)
    by_cases c4 : hvs h
    · exact absurd ⟨⟨p, hp, ep⟩, (pt_iff hV.2.2.1).mp c1, ⟨c2, c3⟩, hv_iff.mp c4⟩ hA
    · refine And.intro (fun z9 => absurd z9 (c4)) (fun _ => And.intro (fun _ => ?_) (fun z9 => absurd rfl z9))
      exact ⟨Or.inl rfl, And.intro (fun _ => bad) (fun z9 => absurd rfl z9)⟩
  refine ⟨np, hV.pk, fun p hp ep => ?_, fun hx => absurd ((Bn (by omega)).mpr hA.1) hx⟩
  refine And.intro (fun _ => And.intro (fun z9 => absurd z9 (by decide)) (fun _ => ?_)) (fun z9 => absurd ((pt_iff hV.2.2.1).mpr hA.2.1) z9)
  refine And.intro (fun z9 => absurd z9 (hA.2.2.1.1)) (fun _ => ?_)
  refine And.intro (fun z9 => absurd z9 (hA.2.2.1.2)) (fun _ => ?_)
  refine And.intro (fun _ => And.intro (fun z9 => absurd z9 (by decide)) (fun _ => ?_)) (fun z9 => absurd (hv_iff.mpr hA.2.2.2) z9)
  refine And.intro (Or.inr rfl) ?_
  refine And.intro (fun z9 => absurd z9 (by decide)) (fun _ => ?_)
  obtain ⟨p1, p2, p3, t1, t2, t3, t4⟩ := ref_ok (σ' := σ) hV hA rfl rfl rfl
  by_cases he : 0 ≤ e ∧ e < 2
  rotate_left
  · refine And.intro (fun z9 => absurd z9 (he)) (fun _ => And.intro (fun _ => ?_) (fun z9 => absurd rfl z9))
    refine hK _ _ _ fun K2 h2 => ?_
    refine And.intro (fun _ => And.intro (fun z9 => absurd z9 (by decide)) (fun _ => ?_)) (fun z9 => absurd (p1) z9)
    refine And.intro (fun _ => And.intro (fun z9 => absurd z9 (by decide)) (fun _ => ?_)) (fun z9 => absurd (p2) z9)
    refine And.intro (fun z9 => absurd z9 (p3)) (fun _ => ?_)
    refine And.intro (fun _ => And.intro (fun z9 => absurd z9 (by decide)) (fun _ => ?_)) (fun z9 => absurd (t1) z9)
    refine And.intro (fun z9 => absurd z9 (t2)) (fun _ => ?_)
    refine And.intro (by decide) ?_
    refine And.intro (fun _ => And.intro (fun z9 => absurd z9 (by decide)) (fun _ => ?_)) (fun z9 => absurd (t3) z9)
    refine And.intro (by decide) (And.intro (by decide) ?_)
    refine And.intro (fun z9 => absurd z9 (t4)) (fun _ => ?_)
    refine And.intro (fun z9 => absurd z9 (by decide)) (fun _ => ?_)
    refine And.intro (fun z9 => absurd z9 (by decide)) (fun _ => ?_)
    refine And.intro (Or.inr rfl) ?_
    refine And.intro (fun z9 => absurd z9 (by decide)) (fun _ => ?_)
    refine And.intro (fun z9 => absurd z9 (fun q => he ((Bn (n := 2) (by decide)).mpr ((In (m := 1) (by decide)).mp q)))) (fun _ => And.intro (fun _ => ?_) (fun z9 => absurd rfl z9))
    exact h2 _ _ hI
  refine And.intro (fun _ => And.intro (fun z9 => absurd z9 (by decide)) (fun _ => ?_)) (fun z9 => absurd (he) z9)
  have he1 : ¬ e < 0 ∧ ¬ 1 < e := (In (m := 1) (by decide)).mpr ((Bn (n := 2) (by decide)).mp he)
  by_cases hn : n < 100
  rotate_left
  · have z : ¬ σ 0 0 1 < 100 := by rw [en]; exact nI_nlt (b := 100) (by omega) (by omega)
    refine And.intro (fun _ => And.intro (fun z9 => absurd z9 (by decide)) (fun _ => ?_)) (fun z9 => absurd (z) z9)
    refine hK _ _ _ fun K2 h2 => ?_
    refine And.intro (fun _ => And.intro (fun z9 => absurd z9 (by decide)) (fun _ => ?_)) (fun z9 => absurd (p1) z9)
    refine And.intro (fun _ => And.intro (fun z9 => absurd z9 (by decide)) (fun _ => ?_)) (fun z9 => absurd (p2) z9)
    refine And.intro (fun z9 => absurd z9 (p3)) (fun _ => ?_)
    refine And.intro (fun _ => And.intro (fun z9 => absurd z9 (by decide)) (fun _ => ?_)) (fun z9 => absurd (t1) z9)
    refine And.intro (fun z9 => absurd z9 (t2)) (fun _ => ?_)
    refine And.intro (by decide) ?_
    refine And.intro (fun _ => And.intro (fun z9 => absurd z9 (by decide)) (fun _ => ?_)) (fun z9 => absurd (t3) z9)
    refine And.intro (by decide) (And.intro (by decide) ?_)
    refine And.intro (fun z9 => absurd z9 (t4)) (fun _ => ?_)
    refine And.intro (fun z9 => absurd z9 (by decide)) (fun _ => ?_)
    refine And.intro (fun z9 => absurd z9 (by decide)) (fun _ => ?_)
    refine And.intro (Or.inr rfl) ?_
    refine And.intro (fun z9 => absurd z9 (by decide)) (fun _ => ?_)
    refine And.intro (fun _ => And.intro (fun z9 => absurd z9 (by decide)) (fun _ => ?_)) (fun z9 => absurd (he1) z9)
    have z2 : σ 11 0 21 = 100 := by rw [en2, show n = 100 from by omega]; rfl
    refine And.intro (fun _ => ?_) (fun z9 => absurd (z2) z9)
    exact h2 _ _ hI
  have z : ¬ ¬ σ 0 0 1 < 100 := by rw [en]; exact fun q => q (nI_lt (b := 100) hn (by decide))
  refine And.intro (fun z9 => absurd z9 (z)) (fun _ => And.intro (fun _ => ?_) (fun z9 => absurd rfl z9))
  intro o ho
  obtain rfl : o = some n := ho.symm.trans hq10
  by_cases hl : lwC σ s
  · refine And.intro (fun _ => ?_) (fun z9 => absurd (hl) z9)
    have h01 : (1 : Int32) = 0 ∨ (1 : Int32) = 1 := Or.inr rfl
    have hlw : (1 : Int32) = 1 ↔ lwC σ s := ⟨fun _ => hl, fun _ => rfl⟩
    refine And.intro h01 ?_
    intro o ho
    obtain rfl : o = some n := ho.symm.trans hq10
    have hF0 : Ivs w (fillS σ n a s c h (1)) n np nv := fill_inv hV
    obtain ⟨p, d, x, y, hp2, ea, hd, ec, ex, ey, y1, y4, hxy, hq0⟩ := asked (lw := 1) hV hA h01 hlw
    refine ⟨n, np, nv, hF0.cw, hq0.vw, hF0.lv, fun σ1 hT => ?_⟩
    have hF : Ivs w σ1 n np nv := hF0.cg fun k i f hs => hT k i f fun q => hs (Or.inl q)
    have er : ∀ k i f, k = 11 ∨ k = 20 ∨ k = 21 → σ1 k i f = fillS σ n a s c h (1) k i f := fun k i f hk => hT k i f (by omega)
    have er2 : ∀ k i f, k = 11 ∨ k = 20 ∨ k = 21 → σ1 k i f = σ k i f := fun k i f hk => by rw [er k i f hk]; exact fill_o (by omega)
    have hq : VQ σ1 np nv n p d x y s := hq0.cg (fun f => hT _ _ _ (by omega)) (fun u => hT _ _ _ (by omega))
    have hA1 : AskP σ1 np nv a s c h := by
      refine ⟨hA.1, hA.2.1, ?_, hA.2.2.2⟩
      rw [hT 0 0 2 (by omega), fill_o (by omega)]
      exact hA.2.2.1
    have hr : rsC w (fillS σ n a s c h (1)) n nv n = rfM σ1 n nv p d x y s := (rs_eq hF0.core hq0).trans (rfM_eq er).symm
    have hr1 : rsC w σ1 n nv n = rfM σ1 n nv p d x y s := rs_eq hF.core hq
    have hq5 : σ1 9 n 5 = (1) := by rw [hT _ _ _ (by omega)]; exact fill_v.2.2.2.2.2
    have e01 : σ1 0 0 1 = nI n := hF.2.2.2.2.1.2.1
    have hw39 : FinOK 9 (w.1 39) (wRaw (w.1, up2 w.2 18 n (some n)) 9) := ⟨rfl, fun h => absurd h (by decide), ⟨⟨⟨⟨⟨⟨⟨⟨trivial, rfl⟩, rfl⟩, rfl⟩, rfl⟩, rfl⟩, rfl⟩, rfl⟩, rfl⟩⟩
    by_cases r0 : rsC w (fillS σ n a s c h (1)) n nv n = 0
    · refine And.intro (fun _ => ?_) (fun z9 => absurd (r0) z9)
      have h0 := hr1.trans (hr.symm.trans r0)
      intro o ho
      obtain rfl : o = some n := ho.symm.trans hq10
      have h5 : ¬ σ1 9 n 5 = 0 := by rw [hq5]; decide
      obtain ⟨S, e5⟩ := rm_some hF.core hq h0 h5
      have hS : ∀ i, i < n → S i = rfS σ1 n nv p d x y s i := fun i hi => by
        rw [← (adm_eq hF.core hq h0 (S := fun i => σ1 9 i 6) (fun _ _ => rfl)).1 i hi, cif_n h5, e5]
        rfl
      refine And.intro (fun z9 => absurd z9 h5) (fun _ => ⟨n, np, nv, S, hF.cw, hq.vw, hF.lv, e5, ?_⟩)
      intro o ho
      obtain rfl : o = some n := ho.symm.trans hq10
      have ea1 : (up3 (stS σ1 S n) 9 n 6 0) 0 0 1 = nI n := by rw [up3_o (by omega), st_n (by omega)]; exact e01
      have ecl : ((up3 (stS σ1 S n) 9 n 6 0) 0 0 1).toNatClampNeg = n := by rw [ea1, nI_clamp (by omega)]
      have zf : ¬ ¬ (up3 (stS σ1 S n) 9 n 6 0) 0 0 1 < 100 := by rw [ea1]; exact fun q => q (nI_lt (b := 100) hn (by decide))
      refine And.intro (fun z9 => absurd z9 (zf)) (fun _ => And.intro (fun _ => ?_) (fun z9 => absurd rfl z9))
      have hin : vp_in ((up3 (stS σ1 S n) 9 n 6 0) 0 0 1) 100 := by rw [ea1]; exact vp_in_nI hn (by decide)
      refine And.intro hin ?_
      have hfin : FinOK 9 (w.1 39) (wRaw (w.1, up2 w.2 18 ((up3 (stS σ1 S n) 9 n 6 0) 0 0 1).toNatClampNeg (some n)) 9) := by rw [ecl]; exact hw39
      refine ⟨Or.inl rfl, rfl, rfl, hfin, ?_⟩
      have hlast : Q1 (some (HI ((up3 (stS σ1 S n) 9 n 6 0) 0 0 1))) (askW w ((up3 (stS σ1 S n) 9 n 6 0) 0 0 1).toNatClampNeg n) (askS ((up3 (stS σ1 S n) 9 n 6 0)) (w.1 39) (w.1 9)) := by
        rw [ecl, ea1]
        refine hK _ _ _ fun K2 h2 => ?_
        have hg := ask_ref (st := 0) (e := e) hF hn hq y1 y4 hA1 ea ec ex ey hS he1 (Or.inl ⟨hr.symm.trans r0, rfl⟩) h2
        exact hg
      exact hlast
    refine And.intro (fun z9 => absurd z9 (r0)) (fun _ => ?_)
    have r0' : ¬ rfM σ1 n nv p d x y s = 0 := fun q => r0 (hr.trans q)
    have refd : (rfM σ1 n nv p d x y s < 6 ∨ e = 0) → Q1 (some (HI (-10 - rsC w (fillS σ n a s c h (1)) n nv n))) w σ1 := fun q => by
      rw [hr]
      exact hK _ _ _ fun K2 h2 => ask_no hF hn hq hA1 ea ec ex ey he1 r0' q h2
    by_cases e1 : e = 1
    rotate_left
    · refine And.intro (fun z9 => absurd z9 (e1)) (fun _ => ?_)
      obtain ⟨j, hj, ej⟩ := (Bn (n := 2) (by decide)).mp he
      refine refd (Or.inr ?_)
      rw [ej]
      have : j = 0 ∨ j = 1 := by omega
      rcases this with rfl | rfl
      · rfl
      · exact absurd ej e1
    refine And.intro (fun _ => ?_) (fun z9 => absurd (e1) z9)
    by_cases r6 : rsC w (fillS σ n a s c h (1)) n nv n < 6
    · refine And.intro (fun _ => ?_) (fun z9 => absurd (r6) z9)
      exact refd (Or.inl (by rw [← hr]; exact r6))
    refine And.intro (fun z9 => absurd z9 (r6)) (fun _ => ?_)
    intro o ho
    obtain rfl : o = some n := ho.symm.trans hq10
    intro o ho
    obtain rfl : o = some n := ho.symm.trans hq10
    obtain ⟨S, eS⟩ : ∃ S, S = fun i => σ1 9 i 6 := ⟨_, rfl⟩
    have hS : ∀ i, i < n → S i = rfS σ1 n nv p d x y s i := fun i hi => by
      rw [rfS_id r0', eS, (hF.2.2.2.2.1.2.2.2.1 i hi).2.2]
    have e6 : stS σ1 S n = σ1 := by rw [eS]; exact st_self
    have ea1 : (up3 σ1 9 n 6 1) 0 0 1 = nI n := by rw [up3_o (by omega)]; exact e01
    have ecl : ((up3 σ1 9 n 6 1) 0 0 1).toNatClampNeg = n := by rw [ea1, nI_clamp (by omega)]
    have zf : ¬ ¬ (up3 σ1 9 n 6 1) 0 0 1 < 100 := by rw [ea1]; exact fun q => q (nI_lt (b := 100) hn (by decide))
    refine And.intro (fun z9 => absurd z9 (zf)) (fun _ => And.intro (fun _ => ?_) (fun z9 => absurd rfl z9))
    have hin : vp_in ((up3 σ1 9 n 6 1) 0 0 1) 100 := by rw [ea1]; exact vp_in_nI hn (by decide)
    refine And.intro hin ?_
    have hfin : FinOK 9 (w.1 39) (wRaw (w.1, up2 w.2 18 ((up3 σ1 9 n 6 1) 0 0 1).toNatClampNeg (some n)) 9) := by rw [ecl]; exact hw39
    refine ⟨Or.inl rfl, rfl, rfl, hfin, ?_⟩
    have hlast : Q1 (some (HI ((up3 σ1 9 n 6 1) 0 0 1))) (askW w ((up3 σ1 9 n 6 1) 0 0 1).toNatClampNeg n) (askS (up3 σ1 9 n 6 1) (w.1 39) (w.1 9)) := by
      rw [ecl, ea1]
      refine hK _ _ _ fun K2 h2 => ?_
      have hg := ask_ref (st := 1) (e := e) hF hn hq y1 y4 hA1 ea ec ex ey hS he1 (Or.inr ⟨r0', rfl, by rw [← hr]; exact r6, by rw [e1]; decide⟩) h2
      rw [e6] at hg
      exact hg
    exact hlast
  · refine And.intro (fun z9 => absurd z9 (hl)) (fun _ => ?_)
    have h01 : (0 : Int32) = 0 ∨ (0 : Int32) = 1 := Or.inl rfl
    have hlw : (0 : Int32) = 1 ↔ lwC σ s := ⟨fun z => absurd z (by decide), fun z => absurd z hl⟩
    refine And.intro h01 ?_
    intro o ho
    obtain rfl : o = some n := ho.symm.trans hq10
    have hF0 : Ivs w (fillS σ n a s c h (0)) n np nv := fill_inv hV
    obtain ⟨p, d, x, y, hp2, ea, hd, ec, ex, ey, y1, y4, hxy, hq0⟩ := asked (lw := 0) hV hA h01 hlw
    refine ⟨n, np, nv, hF0.cw, hq0.vw, hF0.lv, fun σ1 hT => ?_⟩
    have hF : Ivs w σ1 n np nv := hF0.cg fun k i f hs => hT k i f fun q => hs (Or.inl q)
    have er : ∀ k i f, k = 11 ∨ k = 20 ∨ k = 21 → σ1 k i f = fillS σ n a s c h (0) k i f := fun k i f hk => hT k i f (by omega)
    have er2 : ∀ k i f, k = 11 ∨ k = 20 ∨ k = 21 → σ1 k i f = σ k i f := fun k i f hk => by rw [er k i f hk]; exact fill_o (by omega)
    have hq : VQ σ1 np nv n p d x y s := hq0.cg (fun f => hT _ _ _ (by omega)) (fun u => hT _ _ _ (by omega))
    have hA1 : AskP σ1 np nv a s c h := by
      refine ⟨hA.1, hA.2.1, ?_, hA.2.2.2⟩
      rw [hT 0 0 2 (by omega), fill_o (by omega)]
      exact hA.2.2.1
    have hr : rsC w (fillS σ n a s c h (0)) n nv n = rfM σ1 n nv p d x y s := (rs_eq hF0.core hq0).trans (rfM_eq er).symm
    have hr1 : rsC w σ1 n nv n = rfM σ1 n nv p d x y s := rs_eq hF.core hq
    have hq5 : σ1 9 n 5 = (0) := by rw [hT _ _ _ (by omega)]; exact fill_v.2.2.2.2.2
    have e01 : σ1 0 0 1 = nI n := hF.2.2.2.2.1.2.1
    have hw39 : FinOK 9 (w.1 39) (wRaw (w.1, up2 w.2 18 n (some n)) 9) := ⟨rfl, fun h => absurd h (by decide), ⟨⟨⟨⟨⟨⟨⟨⟨trivial, rfl⟩, rfl⟩, rfl⟩, rfl⟩, rfl⟩, rfl⟩, rfl⟩, rfl⟩⟩
    by_cases r0 : rsC w (fillS σ n a s c h (0)) n nv n = 0
    · refine And.intro (fun _ => ?_) (fun z9 => absurd (r0) z9)
      have h0 := hr1.trans (hr.symm.trans r0)
      intro o ho
      obtain rfl : o = some n := ho.symm.trans hq10
      have h5 : σ1 9 n 5 = 0 := hq5
      obtain ⟨S, eS⟩ : ∃ S, S = fun i => σ1 9 i 6 := ⟨_, rfl⟩
      have hS : ∀ i, i < n → S i = rfS σ1 n nv p d x y s i := fun i hi => by
        rw [← (adm_eq hF.core hq h0 (S := fun i => σ1 9 i 6) (fun _ _ => rfl)).1 i hi, cif_p h5, eS]
      have e6 : stS σ1 S n = σ1 := by rw [eS]; exact st_self
      refine And.intro (fun _ => ?_) (fun z9 => absurd h5 z9)
      intro o ho
      obtain rfl : o = some n := ho.symm.trans hq10
      have ea1 : (up3 σ1 9 n 6 0) 0 0 1 = nI n := by rw [up3_o (by omega)]; exact e01
      have ecl : ((up3 σ1 9 n 6 0) 0 0 1).toNatClampNeg = n := by rw [ea1, nI_clamp (by omega)]
      have zf : ¬ ¬ (up3 σ1 9 n 6 0) 0 0 1 < 100 := by rw [ea1]; exact fun q => q (nI_lt (b := 100) hn (by decide))
      refine And.intro (fun z9 => absurd z9 (zf)) (fun _ => And.intro (fun _ => ?_) (fun z9 => absurd rfl z9))
      have hin : vp_in ((up3 σ1 9 n 6 0) 0 0 1) 100 := by rw [ea1]; exact vp_in_nI hn (by decide)
      refine And.intro hin ?_
      have hfin : FinOK 9 (w.1 39) (wRaw (w.1, up2 w.2 18 ((up3 σ1 9 n 6 0) 0 0 1).toNatClampNeg (some n)) 9) := by rw [ecl]; exact hw39
      refine ⟨Or.inl rfl, rfl, rfl, hfin, ?_⟩
      have hlast : Q1 (some (HI ((up3 σ1 9 n 6 0) 0 0 1))) (askW w ((up3 σ1 9 n 6 0) 0 0 1).toNatClampNeg n) (askS ((up3 σ1 9 n 6 0)) (w.1 39) (w.1 9)) := by
        rw [ecl, ea1]
        refine hK _ _ _ fun K2 h2 => ?_
        have hg := ask_ref (st := 0) (e := e) hF hn hq y1 y4 hA1 ea ec ex ey hS he1 (Or.inl ⟨hr.symm.trans r0, rfl⟩) h2
        rw [e6] at hg
        exact hg
      exact hlast
    refine And.intro (fun z9 => absurd z9 (r0)) (fun _ => ?_)
    have r0' : ¬ rfM σ1 n nv p d x y s = 0 := fun q => r0 (hr.trans q)
    have refd : (rfM σ1 n nv p d x y s < 6 ∨ e = 0) → Q1 (some (HI (-10 - rsC w (fillS σ n a s c h (0)) n nv n))) w σ1 := fun q => by
      rw [hr]
      exact hK _ _ _ fun K2 h2 => ask_no hF hn hq hA1 ea ec ex ey he1 r0' q h2
    by_cases e1 : e = 1
    rotate_left
    · refine And.intro (fun z9 => absurd z9 (e1)) (fun _ => ?_)
      obtain ⟨j, hj, ej⟩ := (Bn (n := 2) (by decide)).mp he
      refine refd (Or.inr ?_)
      rw [ej]
      have : j = 0 ∨ j = 1 := by omega
      rcases this with rfl | rfl
      · rfl
      · exact absurd ej e1
    refine And.intro (fun _ => ?_) (fun z9 => absurd (e1) z9)
    by_cases r6 : rsC w (fillS σ n a s c h (0)) n nv n < 6
    · refine And.intro (fun _ => ?_) (fun z9 => absurd (r6) z9)
      exact refd (Or.inl (by rw [← hr]; exact r6))
    refine And.intro (fun z9 => absurd z9 (r6)) (fun _ => ?_)
    intro o ho
    obtain rfl : o = some n := ho.symm.trans hq10
    intro o ho
    obtain rfl : o = some n := ho.symm.trans hq10
    obtain ⟨S, eS⟩ : ∃ S, S = fun i => σ1 9 i 6 := ⟨_, rfl⟩
    have hS : ∀ i, i < n → S i = rfS σ1 n nv p d x y s i := fun i hi => by
      rw [rfS_id r0', eS, (hF.2.2.2.2.1.2.2.2.1 i hi).2.2]
    have e6 : stS σ1 S n = σ1 := by rw [eS]; exact st_self
    have ea1 : (up3 σ1 9 n 6 1) 0 0 1 = nI n := by rw [up3_o (by omega)]; exact e01
    have ecl : ((up3 σ1 9 n 6 1) 0 0 1).toNatClampNeg = n := by rw [ea1, nI_clamp (by omega)]
    have zf : ¬ ¬ (up3 σ1 9 n 6 1) 0 0 1 < 100 := by rw [ea1]; exact fun q => q (nI_lt (b := 100) hn (by decide))
    refine And.intro (fun z9 => absurd z9 (zf)) (fun _ => And.intro (fun _ => ?_) (fun z9 => absurd rfl z9))
    have hin : vp_in ((up3 σ1 9 n 6 1) 0 0 1) 100 := by rw [ea1]; exact vp_in_nI hn (by decide)
    refine And.intro hin ?_
    have hfin : FinOK 9 (w.1 39) (wRaw (w.1, up2 w.2 18 ((up3 σ1 9 n 6 1) 0 0 1).toNatClampNeg (some n)) 9) := by rw [ecl]; exact hw39
    refine ⟨Or.inl rfl, rfl, rfl, hfin, ?_⟩
    have hlast : Q1 (some (HI ((up3 σ1 9 n 6 1) 0 0 1))) (askW w ((up3 σ1 9 n 6 1) 0 0 1).toNatClampNeg n) (askS (up3 σ1 9 n 6 1) (w.1 39) (w.1 9)) := by
      rw [ecl, ea1]
      refine hK _ _ _ fun K2 h2 => ?_
      have hg := ask_ref (st := 1) (e := e) hF hn hq y1 y4 hA1 ea ec ex ey hS he1 (Or.inr ⟨r0', rfl, by rw [← hr]; exact r6, by rw [e1]; decide⟩) h2
      rw [e6] at hg
      exact hg
    exact hlast
