/-! all that wait: the class lets whom the reference lets -/
def mix (σ τ : HS) : HS := fun k => match k with
  | 11 => τ 11
  | 20 => τ 20
  | 21 => τ 21
  | k => σ k
theorem rms_id {V : Nat → Nat → Int32} {L S : Nat → Int32} {n t : Nat} {day : Int32} : ∀ {b a : Nat}, (∀ h, a ≤ h → h < a + b → lcV V S day (nI h) n < t) → rms V L n day t b a S = some S
  | 0, _, _ => rfl
  | b + 1, a, h => by
    unfold rms
    have h1 := h a (by omega) (by omega)
    rw [show lcV V S day (nI a) n + 1 - t = 0 from by omega]
    show rms V L n day t b (a + 1) S = some S
    exact rms_id fun h2 h3 h4 => h h2 (by omega) (by omega)
def s012 (n : Nat) (S : Nat → Int32) : Prop := ∀ i, i < n → S i = 0 ∨ S i = 1 ∨ S i = 2
theorem upd_012 {n j : Nat} {S : Nat → Int32} {x : Int32} (h : s012 n S) (hx : x = 0 ∨ x = 1 ∨ x = 2) : s012 n (upd S j x) := fun i hi => by
  unfold upd
  split
  · exact hx
  · exact h i hi
theorem clr_012 {V : Nat → Nat → Int32} {L : Nat → Int32} {n : Nat} {day h : Int32} : ∀ (c : Nat) (S : Nat → Int32), s012 n S → ∀ S', clr V L n day h c S = some S' → s012 n S'
  | 0, S, hS, S', e => by
    cases e
    exact hS
  | c + 1, S, hS, S', e => by
    unfold clr at e
    cases hl : lastY (fun i => decide (yV V L S i day h)) n with
    | none => rw [hl] at e; cases e
    | some i =>
      rw [hl] at e
      exact clr_012 c _ (upd_012 hS (Or.inr (Or.inl rfl))) S' e
theorem rms_012 {V : Nat → Nat → Int32} {L : Nat → Int32} {n t : Nat} {day : Int32} : ∀ (b a : Nat) (S : Nat → Int32), s012 n S → ∀ S', rms V L n day t b a S = some S' → s012 n S'
  | 0, _, S, hS, S', e => by
    cases e
    exact hS
  | b + 1, a, S, hS, S', e => by
    unfold rms at e
    cases hl : clr V L n day (nI a) (lcV V S day (nI a) n + 1 - t) S with
    | none => rw [hl] at e; cases e
    | some x =>
      rw [hl] at e
      exact rms_012 b (a + 1) x (clr_012 _ S hS x hl) S' e
theorem lt_cl {c : Nat} {x : Int32} (h : nI c < x) (hc : c < 2 ^ 31) : c < x.toNatClampNeg := by
  have h1 := Int32.lt_iff_toInt_lt.mp h
  rw [nI_toInt hc] at h1
  show c < x.toInt.toNat
  omega
section Walk
variable {w : HW} {σ : HS} {n np nv : Nat}
theorem adm_eq (hC : Core w σ n np nv) {v p d a b : Nat} {s : Int32} (hv : VQ σ np nv v p d a b s) (h0 : rsC w σ n nv v = 0) {S : Nat → Int32} (hS : ∀ i, i < n → S i = σ 9 i 6) : (∀ i, i < n → (cif (σ 9 v 5 = 0) S ((rmC σ n v).getD S)) i = rfS σ n nv p d a b s i) ∧ s012 n (rfS σ n nv p d a b s) := by
  have h0' := (rs_eq hC hv).symm.trans h0
  obtain ⟨hP, hV, hR, hB, hSh, hM⟩ := hC
  have hn := hB.1
  have hst : ∀ i, i < n → σ 20 21 i = S i := fun i hi => by rw [(hB.2.2.2.1 i hi).2.2, hS i hi]
  have h012 : s012 n (σ 20 21) := fun i hi => by rw [(hB.2.2.2.1 i hi).2.2]; exact (hB.2.2.2.1 i hi).2.1
  have hrm := rm_eq hB hSh hM hv
  unfold rfS
  by_cases hq : rfP σ n nv p d a b s
  · rw [cif_p hq, cif_n (fun z => hv.lw.mp z hq.2.1)]
    cases h1 : rmM σ n nv a b (nI d) with
    | none => exact absurd h1 hq.2.2
    | some y =>
      cases h2 : rmC σ n v with
      | none => rw [h1, h2] at hrm; exact hrm.elim
      | some x =>
        rw [h1, h2] at hrm
        exact ⟨hrm, rms_012 _ _ _ h012 y h1⟩
  · rw [cif_n hq]
    refine ⟨fun i hi => ?_, h012⟩
    by_cases hl : lwM σ nv s
    · rw [cif_n (fun z => hv.lw.mp z hl)]
      unfold rfM at h0'
      rw [cif_n hq] at h0'
      have hrh : rhM σ n p a b s (nI d) = 0 := by
        unfold reM at h0'
        by_cases h1 : σ 20 2 p = 0
        · rw [cif_p h1] at h0'; exact absurd h0' (by decide)
        rw [cif_n h1] at h0'
        by_cases h2 : ulM σ nv p s
        · rw [cif_p h2] at h0'; exact absurd h0' (by decide)
        rw [cif_n h2] at h0'
        by_cases h3 : baM σ nv p s (nI d)
        · rw [cif_p h3] at h0'; exact absurd h0' (by decide)
        rw [cif_n h3] at h0'
        by_cases h4 : caM σ nv s
        · rw [cif_p h4] at h0'; exact absurd h0' (by decide)
        rw [cif_n h4, cif_n (fun q => q.1 hl), cif_n (fun q => q.1 hl)] at h0'
        exact h0'
      have hnt : ¬ ntM σ n a b (nI d) := fun z => by
        unfold rhM at hrh
        by_cases h1 : smM σ n p s (nI d) (nI a) (nI b)
        · rw [cif_p h1] at hrh; exact absurd hrh (by decide)
        rw [cif_n h1] at hrh
        by_cases h2 : riM σ n p (nI d) (nI a) (nI b)
        · rw [cif_p h2] at hrh; exact absurd hrh (by decide)
        rw [cif_n h2, cif_p z] at hrh
        exact absurd hrh (by decide)
      have hid : rmM σ n nv a b (nI d) = some (σ 20 21) := rms_id fun h h1 h2 => by
        have h3 : nI (cnt (fun i => decide (atM σ i (nI d) (nI h))) n) < tbM σ (nI d) := Classical.not_not.mp fun z => hnt ⟨h, h1, h2, z⟩
        have h4 := cnt_le (fun i => decide (atM σ i (nI d) (nI h))) n
        have h5 := lt_cl h3 (by omega)
        exact h5
      cases h2 : rmC σ n v with
      | none => rw [hid, h2] at hrm; exact hrm.elim
      | some x =>
        rw [hid, h2] at hrm
        exact hrm i hi
    · rw [cif_p (hv.lw.mpr hl)]
      exact (hst i hi).symm
theorem wl_eq (hC : Core w σ n np nv) : ∀ k, k ≤ n → (wlC w σ n nv k).2 = (wlM σ n nv k).2 ∧ (∀ i, i < n → (wlC w σ n nv k).1 i = (wlM σ n nv k).1 i) ∧ s012 n (wlM σ n nv k).1 := by
  intro k
  induction k with
  | zero => exact fun _ => ⟨rfl, fun i hi => (hC.2.2.2.1.2.2.2.1 i hi).2.2.symm, fun i hi => by
      show σ 20 21 i = 0 ∨ σ 20 21 i = 1 ∨ σ 20 21 i = 2
      rw [(hC.2.2.2.1.2.2.2.1 i hi).2.2]
      exact (hC.2.2.2.1.2.2.2.1 i hi).2.1⟩
  | succ k ih =>
    intro hk
    obtain ⟨i1, i2, i3⟩ := ih (by omega)
    obtain ⟨S, hS⟩ : ∃ S, S = (wlC w σ n nv k).1 := ⟨_, rfl⟩
    obtain ⟨S', hS'⟩ : ∃ S', S' = (wlM σ n nv k).1 := ⟨_, rfl⟩
    rw [← hS, ← hS'] at i2
    rw [← hS'] at i3
    have c012 : s012 n S := fun i hi => by rw [i2 i hi]; exact i3 i hi
    have hC2 := core_st hC i2 c012
    obtain ⟨p, d, a, b, hv, hb1, hb4, r0, rs, r2, r3, r4⟩ := (hC2.2.2.2.1.2.2.2.1 k (by omega)).1.q
    have hd := hv.2.1
    have hp10 := hC.1.1
    have hp := hv.1
    have hab := hv.2.2.1
    have e1 : rsC w (stS σ S n) n nv k = rsC w (stS (msS σ S' n) S n) n nv k := rfl
    have e2 : rfV σ n nv S' k = rfM (stS (msS σ S' n) S n) n nv p d a b (stS (msS σ S' n) S n 9 k 1) := by
      have q0 : σ 20 16 k = nI p := r0
      have q1 : σ 20 17 k = stS (msS σ S' n) S n 9 k 1 := rs
      have q2 : σ 20 18 k = nI d := r2
      have q3 : σ 20 19 k = nI a := r3
      have q4 : σ 20 20 k = nI b := r4
      unfold rfV
      rw [q0, q1, q2, q3, q4, nI_clamp (by omega), nI_clamp (by omega), nI_clamp (by omega), nI_clamp (by omega)]
      rfl
    have e3 : rfT σ n nv S' k = rfS (stS (msS σ S' n) S n) n nv p d a b (stS (msS σ S' n) S n 9 k 1) := by
      have q0 : σ 20 16 k = nI p := r0
      have q1 : σ 20 17 k = stS (msS σ S' n) S n 9 k 1 := rs
      have q2 : σ 20 18 k = nI d := r2
      have q3 : σ 20 19 k = nI a := r3
      have q4 : σ 20 20 k = nI b := r4
      unfold rfT
      rw [q0, q1, q2, q3, q4, nI_clamp (by omega), nI_clamp (by omega), nI_clamp (by omega), nI_clamp (by omega)]
      rfl
    have e4 : (¬ σ 9 k 2 < σ 0 0 2) ↔ (¬ σ 20 18 k < σ 11 0 0) := by
      obtain ⟨td, -, t1, t2⟩ := hC.2.2.2.2.2.1
      have q2 : σ 20 18 k = nI d := r2
      have q9 : σ 9 k 2 = nI d := hv.2.2.2.2.2.1
      rw [q2, q9, t1, t2]
    have e5 : rsC w (stS σ S n) n nv k = rfV σ n nv S' k := by rw [e1, e2]; exact rs_eq hC2 hv
    have hiff : (S k = 1 ∧ (¬ σ 9 k 2 < σ 0 0 2) ∧ rsC w (stS σ S n) n nv k = 0) ↔ (S' k = 1 ∧ (¬ σ 20 18 k < σ 11 0 0) ∧ rfV σ n nv S' k = 0) := by
      rw [i2 k (by omega), e4, e5]
    have u1 : wlC w σ n nv (k + 1) = cif (S k = 1 ∧ (¬ σ 9 k 2 < σ 0 0 2) ∧ rsC w (stS σ S n) n nv k = 0) (upd (rmS σ n S k) k 0, (wlC w σ n nv k).2 + 1) (wlC w σ n nv k) := by
      rw [hS]
      rfl
    have u2 : wlM σ n nv (k + 1) = cif (S' k = 1 ∧ (¬ σ 20 18 k < σ 11 0 0) ∧ rfV σ n nv S' k = 0) (upd (rfT σ n nv S' k) k 0, (wlM σ n nv k).2 + 1) (wlM σ n nv k) := by
      rw [hS']
      rfl
    rw [u1, u2]
    by_cases hc : S' k = 1 ∧ (¬ σ 20 18 k < σ 11 0 0) ∧ rfV σ n nv S' k = 0
    · rw [cif_p hc, cif_p (hiff.mpr hc)]
      have h0 : rsC w (stS (msS σ S' n) S n) n nv k = 0 := (hiff.mpr hc).2.2
      obtain ⟨a1, a2⟩ := adm_eq hC2 hv h0 (S := S) (fun i hi => (if_pos ⟨rfl, rfl, hi⟩ : stS (msS σ S' n) S n 9 i 6 = S i).symm)
      rw [← e3] at a1 a2
      have e6 : rmS σ n S k = cif (stS (msS σ S' n) S n 9 k 5 = 0) S ((rmC (stS (msS σ S' n) S n) n k).getD S) := rfl
      rw [← e6] at a1
      refine ⟨by rw [i1], fun i hi => ?_, upd_012 a2 (Or.inl rfl)⟩
      show upd (rmS σ n S k) k 0 i = upd (rfT σ n nv S' k) k 0 i
      unfold upd
      split
      · rfl
      · exact a1 i hi
    · rw [cif_n hc, cif_n (fun z => hc (hiff.mp z))]
      exact ⟨i1, by rw [← hS, ← hS']; exact i2, by rw [← hS']; exact i3⟩
end Walk
