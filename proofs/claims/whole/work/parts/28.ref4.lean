/-! The reference, 4: room for lawyers -/
def eqB (σ σ' : HS) : Prop := ∀ k i f, ¬ (k = 20 ∧ i = 24) → σ' k i f = σ k i f
theorem eqB.rf {σ : HS} : eqB σ σ := fun _ _ _ _ => rfl
theorem eqB.tr {σ σ' σ'' : HS} (h : eqB σ σ') (h2 : eqB σ' σ'') : eqB σ σ'' := fun k i f hq => (h2 k i f hq).trans (h k i f hq)
def msS (σ : HS) (S : Nat → Int32) (n : Nat) : HS := fun k i f => if k = 20 ∧ i = 21 ∧ f < n then S f else σ k i f
theorem msS_o {σ : HS} {S : Nat → Int32} {n k i f : Nat} (h : ¬ (k = 20 ∧ i = 21)) : msS σ S n k i f = σ k i f := if_neg fun q => h ⟨q.1, q.2.1⟩
theorem msS_y {σ : HS} {S : Nat → Int32} {n f : Nat} (h : f < n) : msS σ S n 20 21 f = S f := if_pos ⟨rfl, rfl, h⟩
theorem msS_self (σ : HS) (n : Nat) : msS σ (σ 20 21) n = σ := by
  funext k i f
  unfold msS
  split
  · rename_i h; rw [h.1, h.2.1]
  · rfl
theorem msS_up {σ σ' : HS} {S : Nat → Int32} {n i : Nat} {x : Int32} (h : eqB (msS σ S n) σ') (hi : i < n) : eqB (msS σ (upd S i x) n) (up3 σ' 20 21 i x) := by
  intro k j f hq
  by_cases e : k = 20 ∧ j = 21 ∧ f = i
  · obtain ⟨rfl, rfl, rfl⟩ := e
    rw [msS_y hi]
    simp [up3, upd]
  · rw [up3_o e, h k j f hq]
    unfold msS
    by_cases q : k = 20 ∧ j = 21 ∧ f < n
    · rw [if_pos q, if_pos q]
      unfold upd
      rw [if_neg fun z => e ⟨q.1, q.2.1, z⟩]
    · rw [if_neg q, if_neg q]
theorem cnt_dec {p q : Nat → Bool} {i : Nat} (hp : p i = true) (hq : q i = false) (ho : ∀ j, j ≠ i → q j = p j) : ∀ {n : Nat}, i < n → cnt q n + 1 = cnt p n
  | 0, h => absurd h (by omega)
  | n + 1, h => by
    rcases Nat.lt_succ_iff_lt_or_eq.mp h with z | z
    · have := cnt_dec hp hq ho z
      unfold cnt
      rw [ho n (by omega)]
      omega
    · subst z
      have : cnt q i = cnt p i := cnt_cg fun j hj => ho j (by omega)
      unfold cnt
      rw [this, hp, hq]
      rfl
theorem lcV_up {V : Nat → Nat → Int32} {S : Nat → Int32} {day h : Int32} {i n : Nat} (hi : i < n) (ha : atV V S i day h) : lcV V (upd S i 1) day h n + 1 = lcV V S day h n := by
  refine cnt_dec (decide_eq_true ha) (decide_eq_false fun q => ?_) (fun j hj => ?_) hi
  · have h1 := q.1
    simp [upd] at h1
  · simp only [atV, upd, if_neg hj]
noncomputable def lwL (σ : HS) (nv : Nat) (i : Nat) : Int32 := cif (lwM σ nv (σ 20 17 i)) 1 0
noncomputable def rmM (σ : HS) (n nv a b : Nat) (day : Int32) : Option (Nat → Int32) := rms (mV σ) (lwL σ nv) n day (tbM σ day).toNatClampNeg b a (σ 20 21)
def sp_X11_makesRoom : HSp := fun as w σ K => match as with
  | [.inr (.inl (11, some 0)), .inl day, .inl xa, .inl xb, .inl keep] => ∃ n nv a b t, Nv σ nv ∧ Nn σ n ∧ 0 ≤ day ∧ σ 20 22 0 ≤ 60 ∧ xa = nI a ∧ xb = nI b ∧ a + b ≤ 12 ∧ tbM σ day = nI t ∧ t ≤ 6 ∧ (∀ S', rmM σ n nv a b day = some S' → ∀ σ', eqB (msS σ (if keep = 0 then σ 20 21 else S') n) σ' → K (some (HI 1)) w σ') ∧ (rmM σ n nv a b day = none → ∀ σ', eqB σ σ' → K (some (HI 0)) w σ')
  | _ => False
theorem mat {σ σ' : HS} {S : Nat → Int32} {n i : Nat} {day h : Int32} (hE : eqB (msS σ S n) σ') (hi : i < n) : atM σ' i day h ↔ atV (mV σ) S i day h := by
  unfold atM atV
  rw [hE 20 21 i (by omega), hE 20 18 i (by omega), hE 20 19 i (by omega), hE 20 20 i (by omega), msS_y hi, msS_o (by omega), msS_o (by omega), msS_o (by omega)]
  exact Iff.rfl
theorem mlw {σ σ' : HS} {S : Nat → Int32} {n nv : Nat} {s : Int32} (hE : eqB (msS σ S n) σ') : lwM σ' nv s ↔ lwM σ nv s := by
  unfold lwM
  constructor
  · intro h v hv hb
    have := h v hv hb
    rw [hE 20 5 v (by omega), msS_o (by omega)] at this
    exact this
  · intro h v hv hb
    rw [hE 20 5 v (by omega), msS_o (by omega)]
    exact h v hv hb
theorem mtb {σ σ' : HS} {S : Nat → Int32} {n : Nat} {day : Int32} (hE : eqB (msS σ S n) σ') : tbM σ' day = tbM σ day := by
  unfold tbM
  rw [hE 20 22 0 (by omega), hE 20 23 _ (by omega), hE 11 0 28 (by omega), msS_o (by omega), msS_o (by omega), msS_o (by omega)]
theorem lwL_0 {σ : HS} {nv i : Nat} : lwL σ nv i = 0 ↔ ¬ lwM σ nv (σ 20 17 i) := by
  unfold lwL
  by_cases h : lwM σ nv (σ 20 17 i)
  · rw [cif_p h]; exact ⟨fun q => absurd q (by decide), fun q => absurd h q⟩
  · rw [cif_n h]; exact ⟨fun _ => h, fun _ => rfl⟩
noncomputable def Imr (w : HW) (σ : HS) (n nv a b t : Nat) (day keep : Int32) (RR : Option (Nat → Int32)) : Nat → Nat → HKp := fun pc N ls st w' σ' =>
    st = [] ∧ w = w' ∧
    ((pc = 3 ∧ ∃ (k : Nat) (u : Int32) (o6 o7 o8 : Option HV), k ≤ n ∧ N = 10000000 + (n - k) ∧ u = nI k ∧ eqB σ σ' ∧ (∀ i, i < k → σ' 20 24 i = σ 20 21 i) ∧ ls = [some (HR 11 0), some (HI day), some (HI (nI a)), some (HI (nI b)), some (HI keep), some (HI u), o6, o7, o8]) ∨
    (pc = 38 ∧ ∃ (h : Nat) (g u : Int32) (S : Nat → Int32) (o7 o8 : Option HV), a ≤ h ∧ h ≤ a + b ∧ N = (a + b - h) * 100000 + 90000 ∧ u = nI h ∧ ((g = 1 ∧ rms (mV σ) (lwL σ nv) n day t (a + b - h) h S = RR) ∨ (g = 0 ∧ RR = none)) ∧ eqB (msS σ S n) σ' ∧ (∀ i, i < n → σ' 20 24 i = σ 20 21 i) ∧ ls = [some (HR 11 0), some (HI day), some (HI (nI a)), some (HI (nI b)), some (HI keep), some (HI g), some (HI u), o7, o8]) ∨
    (pc = 51 ∧ ∃ (h : Nat) (g u : Int32) (S : Nat → Int32) (o7 o8 : Option HV), a ≤ h ∧ h < a + b ∧ u = nI h ∧ ((g = 1 ∧ N = (a + b - h) * 100000 + lcV (mV σ) S day (nI h) n * 200 + 150 ∧ ((clr (mV σ) (lwL σ nv) n day (nI h) (lcV (mV σ) S day (nI h) n + 1 - t) S).bind fun S' => rms (mV σ) (lwL σ nv) n day t (a + b - (h + 1)) (h + 1) S') = RR) ∨ (g = 0 ∧ RR = none ∧ N = (a + b - h) * 100000)) ∧ eqB (msS σ S n) σ' ∧ (∀ i, i < n → σ' 20 24 i = σ 20 21 i) ∧ ls = [some (HR 11 0), some (HI day), some (HI (nI a)), some (HI (nI b)), some (HI keep), some (HI g), some (HI u), o7, o8]) ∨
    (pc = 77 ∧ ∃ (h i : Nat) (u v x : Int32) (S : Nat → Int32), a ≤ h ∧ h < a + b ∧ i ≤ n ∧ u = nI h ∧ v = nI i ∧ t ≤ lcV (mV σ) S day (nI h) n ∧ N = (a + b - h) * 100000 + lcV (mV σ) S day (nI h) n * 200 + (n - i) + 1 ∧ ((clr (mV σ) (lwL σ nv) n day (nI h) (lcV (mV σ) S day (nI h) n + 1 - t) S).bind fun S' => rms (mV σ) (lwL σ nv) n day t (a + b - (h + 1)) (h + 1) S') = RR ∧ ((lastY (fun i => decide (yV (mV σ) (lwL σ nv) S i day (nI h))) i = none ∧ x = -1) ∨ ∃ j, lastY (fun i => decide (yV (mV σ) (lwL σ nv) S i day (nI h))) i = some j ∧ x = nI j) ∧ eqB (msS σ S n) σ' ∧ (∀ i, i < n → σ' 20 24 i = σ 20 21 i) ∧ ls = [some (HR 11 0), some (HI day), some (HI (nI a)), some (HI (nI b)), some (HI keep), some (HI 1), some (HI u), some (HI x), some (HI v)]) ∨
    (pc = 174 ∧ ∃ (k : Nat) (g u : Int32) (S : Nat → Int32) (o7 o8 : Option HV), k ≤ n ∧ N = n - k ∧ u = nI k ∧ ((g = 1 ∧ keep = 0 ∧ ¬ RR = none) ∨ (g = 0 ∧ RR = none)) ∧ eqB (msS σ S n) σ' ∧ (∀ i, i < n → σ' 20 24 i = σ 20 21 i) ∧ (∀ i, i < k → S i = σ 20 21 i) ∧ ls = [some (HR 11 0), some (HI day), some (HI (nI a)), some (HI (nI b)), some (HI keep), some (HI g), some (HI u), o7, o8]))
theorem dX11_makesRoom_0 : decode cX11_makesRoom 0 = .ok (.iconst 0, 1) := by decide +kernel
theorem dX11_makesRoom_1 : decode cX11_makesRoom 1 = .ok (.istore 5, 2) := by decide +kernel
theorem dX11_makesRoom_3 : decode cX11_makesRoom 3 = .ok (.iload 5, 2) := by decide +kernel
theorem dX11_makesRoom_5 : decode cX11_makesRoom 5 = .ok (.aload_n 0, 1) := by decide +kernel
theorem dX11_makesRoom_6 : decode cX11_makesRoom 6 = .ok (.getfield 118, 3) := by decide +kernel
theorem dX11_makesRoom_9 : decode cX11_makesRoom 9 = .ok (.if_icmp .ge 23, 3) := by decide +kernel
theorem dX11_makesRoom_12 : decode cX11_makesRoom 12 = .ok (.aload_n 0, 1) := by decide +kernel
theorem dX11_makesRoom_13 : decode cX11_makesRoom 13 = .ok (.getfield 93, 3) := by decide +kernel
theorem dX11_makesRoom_16 : decode cX11_makesRoom 16 = .ok (.iload 5, 2) := by decide +kernel
theorem dX11_makesRoom_18 : decode cX11_makesRoom 18 = .ok (.aload_n 0, 1) := by decide +kernel
theorem dX11_makesRoom_19 : decode cX11_makesRoom 19 = .ok (.getfield 77, 3) := by decide +kernel
theorem dX11_makesRoom_22 : decode cX11_makesRoom 22 = .ok (.iload 5, 2) := by decide +kernel
theorem dX11_makesRoom_24 : decode cX11_makesRoom 24 = .ok (.iaload, 1) := by decide +kernel
theorem dX11_makesRoom_25 : decode cX11_makesRoom 25 = .ok (.iastore, 1) := by decide +kernel
theorem dX11_makesRoom_26 : decode cX11_makesRoom 26 = .ok (.iinc 5 1, 3) := by decide +kernel
theorem dX11_makesRoom_29 : decode cX11_makesRoom 29 = .ok (.goto (-26), 3) := by decide +kernel
theorem dX11_makesRoom_32 : decode cX11_makesRoom 32 = .ok (.iconst 1, 1) := by decide +kernel
theorem dX11_makesRoom_33 : decode cX11_makesRoom 33 = .ok (.istore 5, 2) := by decide +kernel
theorem dX11_makesRoom_35 : decode cX11_makesRoom 35 = .ok (.iload_n 2, 1) := by decide +kernel
theorem dX11_makesRoom_36 : decode cX11_makesRoom 36 = .ok (.istore 6, 2) := by decide +kernel
theorem dX11_makesRoom_38 : decode cX11_makesRoom 38 = .ok (.iload 6, 2) := by decide +kernel
theorem dX11_makesRoom_40 : decode cX11_makesRoom 40 = .ok (.iload_n 2, 1) := by decide +kernel
theorem dX11_makesRoom_41 : decode cX11_makesRoom 41 = .ok (.iload_n 3, 1) := by decide +kernel
theorem dX11_makesRoom_42 : decode cX11_makesRoom 42 = .ok (.iadd, 1) := by decide +kernel
theorem dX11_makesRoom_43 : decode cX11_makesRoom 43 = .ok (.if_icmp .ge 118, 3) := by decide +kernel
theorem dX11_makesRoom_46 : decode cX11_makesRoom 46 = .ok (.iload 5, 2) := by decide +kernel
theorem dX11_makesRoom_48 : decode cX11_makesRoom 48 = .ok (.ifCond .eq 113, 3) := by decide +kernel
theorem dX11_makesRoom_51 : decode cX11_makesRoom 51 = .ok (.iload 5, 2) := by decide +kernel
theorem dX11_makesRoom_53 : decode cX11_makesRoom 53 = .ok (.ifCond .eq 102, 3) := by decide +kernel
theorem dX11_makesRoom_56 : decode cX11_makesRoom 56 = .ok (.aload_n 0, 1) := by decide +kernel
theorem dX11_makesRoom_57 : decode cX11_makesRoom 57 = .ok (.iload_n 1, 1) := by decide +kernel
theorem dX11_makesRoom_58 : decode cX11_makesRoom 58 = .ok (.iload 6, 2) := by decide +kernel
theorem dX11_makesRoom_60 : decode cX11_makesRoom 60 = .ok (.invokevirtual 205, 3) := by decide +kernel
theorem dX11_makesRoom_63 : decode cX11_makesRoom 63 = .ok (.aload_n 0, 1) := by decide +kernel
theorem dX11_makesRoom_64 : decode cX11_makesRoom 64 = .ok (.iload_n 1, 1) := by decide +kernel
theorem dX11_makesRoom_65 : decode cX11_makesRoom 65 = .ok (.invokevirtual 209, 3) := by decide +kernel
theorem dX11_makesRoom_68 : decode cX11_makesRoom 68 = .ok (.if_icmp .lt 87, 3) := by decide +kernel
theorem dX11_makesRoom_71 : decode cX11_makesRoom 71 = .ok (.iconst (-1), 1) := by decide +kernel
theorem dX11_makesRoom_72 : decode cX11_makesRoom 72 = .ok (.istore 7, 2) := by decide +kernel
theorem dX11_makesRoom_74 : decode cX11_makesRoom 74 = .ok (.iconst 0, 1) := by decide +kernel
theorem dX11_makesRoom_75 : decode cX11_makesRoom 75 = .ok (.istore 8, 2) := by decide +kernel
theorem dX11_makesRoom_77 : decode cX11_makesRoom 77 = .ok (.iload 8, 2) := by decide +kernel
theorem dX11_makesRoom_79 : decode cX11_makesRoom 79 = .ok (.aload_n 0, 1) := by decide +kernel
theorem dX11_makesRoom_80 : decode cX11_makesRoom 80 = .ok (.getfield 118, 3) := by decide +kernel
theorem dX11_makesRoom_83 : decode cX11_makesRoom 83 = .ok (.if_icmp .ge 44, 3) := by decide +kernel
theorem dX11_makesRoom_86 : decode cX11_makesRoom 86 = .ok (.aload_n 0, 1) := by decide +kernel
theorem dX11_makesRoom_87 : decode cX11_makesRoom 87 = .ok (.iload 8, 2) := by decide +kernel
theorem dX11_makesRoom_89 : decode cX11_makesRoom 89 = .ok (.iload_n 1, 1) := by decide +kernel
theorem dX11_makesRoom_90 : decode cX11_makesRoom 90 = .ok (.iload 6, 2) := by decide +kernel
theorem dX11_makesRoom_92 : decode cX11_makesRoom 92 = .ok (.invokevirtual 184, 3) := by decide +kernel
theorem dX11_makesRoom_95 : decode cX11_makesRoom 95 = .ok (.ifCond .eq 22, 3) := by decide +kernel
theorem dX11_makesRoom_98 : decode cX11_makesRoom 98 = .ok (.aload_n 0, 1) := by decide +kernel
theorem dX11_makesRoom_99 : decode cX11_makesRoom 99 = .ok (.aload_n 0, 1) := by decide +kernel
theorem dX11_makesRoom_100 : decode cX11_makesRoom 100 = .ok (.getfield 65, 3) := by decide +kernel
theorem dX11_makesRoom_103 : decode cX11_makesRoom 103 = .ok (.iload 8, 2) := by decide +kernel
theorem dX11_makesRoom_105 : decode cX11_makesRoom 105 = .ok (.iaload, 1) := by decide +kernel
theorem dX11_makesRoom_106 : decode cX11_makesRoom 106 = .ok (.invokevirtual 187, 3) := by decide +kernel
theorem dX11_makesRoom_109 : decode cX11_makesRoom 109 = .ok (.ifCond .ne 8, 3) := by decide +kernel
theorem dX11_makesRoom_112 : decode cX11_makesRoom 112 = .ok (.iload 8, 2) := by decide +kernel
theorem dX11_makesRoom_114 : decode cX11_makesRoom 114 = .ok (.goto 5, 3) := by decide +kernel
theorem dX11_makesRoom_117 : decode cX11_makesRoom 117 = .ok (.iload 7, 2) := by decide +kernel
theorem dX11_makesRoom_119 : decode cX11_makesRoom 119 = .ok (.istore 7, 2) := by decide +kernel
theorem dX11_makesRoom_121 : decode cX11_makesRoom 121 = .ok (.iinc 8 1, 3) := by decide +kernel
theorem dX11_makesRoom_124 : decode cX11_makesRoom 124 = .ok (.goto (-47), 3) := by decide +kernel
theorem dX11_makesRoom_127 : decode cX11_makesRoom 127 = .ok (.iload 7, 2) := by decide +kernel
theorem dX11_makesRoom_129 : decode cX11_makesRoom 129 = .ok (.ifCond .lt 7, 3) := by decide +kernel
theorem dX11_makesRoom_132 : decode cX11_makesRoom 132 = .ok (.iconst 1, 1) := by decide +kernel
theorem dX11_makesRoom_133 : decode cX11_makesRoom 133 = .ok (.goto 4, 3) := by decide +kernel
theorem dX11_makesRoom_136 : decode cX11_makesRoom 136 = .ok (.iconst 0, 1) := by decide +kernel
theorem dX11_makesRoom_137 : decode cX11_makesRoom 137 = .ok (.istore 5, 2) := by decide +kernel
theorem dX11_makesRoom_139 : decode cX11_makesRoom 139 = .ok (.iload 5, 2) := by decide +kernel
theorem dX11_makesRoom_141 : decode cX11_makesRoom 141 = .ok (.ifCond .eq 11, 3) := by decide +kernel
theorem dX11_makesRoom_144 : decode cX11_makesRoom 144 = .ok (.aload_n 0, 1) := by decide +kernel
theorem dX11_makesRoom_145 : decode cX11_makesRoom 145 = .ok (.getfield 77, 3) := by decide +kernel
theorem dX11_makesRoom_148 : decode cX11_makesRoom 148 = .ok (.iload 7, 2) := by decide +kernel
theorem dX11_makesRoom_150 : decode cX11_makesRoom 150 = .ok (.iconst 1, 1) := by decide +kernel
theorem dX11_makesRoom_151 : decode cX11_makesRoom 151 = .ok (.iastore, 1) := by decide +kernel
theorem dX11_makesRoom_152 : decode cX11_makesRoom 152 = .ok (.goto (-101), 3) := by decide +kernel
theorem dX11_makesRoom_155 : decode cX11_makesRoom 155 = .ok (.iinc 6 1, 3) := by decide +kernel
theorem dX11_makesRoom_158 : decode cX11_makesRoom 158 = .ok (.goto (-120), 3) := by decide +kernel
theorem dX11_makesRoom_161 : decode cX11_makesRoom 161 = .ok (.iload 5, 2) := by decide +kernel
theorem dX11_makesRoom_163 : decode cX11_makesRoom 163 = .ok (.ifCond .eq 8, 3) := by decide +kernel
theorem dX11_makesRoom_166 : decode cX11_makesRoom 166 = .ok (.iload 4, 2) := by decide +kernel
theorem dX11_makesRoom_168 : decode cX11_makesRoom 168 = .ok (.ifCond .ne 35, 3) := by decide +kernel
theorem dX11_makesRoom_171 : decode cX11_makesRoom 171 = .ok (.iconst 0, 1) := by decide +kernel
theorem dX11_makesRoom_172 : decode cX11_makesRoom 172 = .ok (.istore 6, 2) := by decide +kernel
theorem dX11_makesRoom_174 : decode cX11_makesRoom 174 = .ok (.iload 6, 2) := by decide +kernel
theorem dX11_makesRoom_176 : decode cX11_makesRoom 176 = .ok (.aload_n 0, 1) := by decide +kernel
theorem dX11_makesRoom_177 : decode cX11_makesRoom 177 = .ok (.getfield 118, 3) := by decide +kernel
theorem dX11_makesRoom_180 : decode cX11_makesRoom 180 = .ok (.if_icmp .ge 23, 3) := by decide +kernel
theorem dX11_makesRoom_183 : decode cX11_makesRoom 183 = .ok (.aload_n 0, 1) := by decide +kernel
theorem dX11_makesRoom_184 : decode cX11_makesRoom 184 = .ok (.getfield 77, 3) := by decide +kernel
theorem dX11_makesRoom_187 : decode cX11_makesRoom 187 = .ok (.iload 6, 2) := by decide +kernel
theorem dX11_makesRoom_189 : decode cX11_makesRoom 189 = .ok (.aload_n 0, 1) := by decide +kernel
theorem dX11_makesRoom_190 : decode cX11_makesRoom 190 = .ok (.getfield 93, 3) := by decide +kernel
theorem dX11_makesRoom_193 : decode cX11_makesRoom 193 = .ok (.iload 6, 2) := by decide +kernel
theorem dX11_makesRoom_195 : decode cX11_makesRoom 195 = .ok (.iaload, 1) := by decide +kernel
theorem dX11_makesRoom_196 : decode cX11_makesRoom 196 = .ok (.iastore, 1) := by decide +kernel
theorem dX11_makesRoom_197 : decode cX11_makesRoom 197 = .ok (.iinc 6 1, 3) := by decide +kernel
theorem dX11_makesRoom_200 : decode cX11_makesRoom 200 = .ok (.goto (-26), 3) := by decide +kernel
theorem dX11_makesRoom_203 : decode cX11_makesRoom 203 = .ok (.iload 5, 2) := by decide +kernel
theorem dX11_makesRoom_205 : decode cX11_makesRoom 205 = .ok (.ireturn, 1) := by decide +kernel
def ins_X11_makesRoom (pc : Nat) : HOp := cond (Nat.blt pc 98) (cond (Nat.blt pc 46) (cond (Nat.blt pc 24) (cond (Nat.blt pc 12) (cond (Nat.blt pc 5) (cond (Nat.blt pc 1) (cond (Nat.beq pc 0) (o_const (0) 1) o_bad) (cond (Nat.blt pc 3) (cond (Nat.beq pc 1) (o_istore 5 3) o_bad) (cond (Nat.beq pc 3) (o_iload 5 5) o_bad))) (cond (Nat.blt pc 6) (cond (Nat.beq pc 5) (o_aload 0 6) o_bad) (cond (Nat.blt pc 9) (cond (Nat.beq pc 6) (o_getf 11 21 9) o_bad) (cond (Nat.beq pc 9) (o_icmp (fun x y => y ≤ x) 32 12) o_bad)))) (cond (Nat.blt pc 18) (cond (Nat.blt pc 13) (cond (Nat.beq pc 12) (o_aload 0 13) o_bad) (cond (Nat.blt pc 16) (cond (Nat.beq pc 13) (o_getf 11 42 16) o_bad) (cond (Nat.beq pc 16) (o_iload 5 18) o_bad))) (cond (Nat.blt pc 19) (cond (Nat.beq pc 18) (o_aload 0 19) o_bad) (cond (Nat.blt pc 22) (cond (Nat.beq pc 19) (o_getf 11 27 22) o_bad) (cond (Nat.beq pc 22) (o_iload 5 24) o_bad))))) (cond (Nat.blt pc 35) (cond (Nat.blt pc 29) (cond (Nat.blt pc 25) (cond (Nat.beq pc 24) (o_iald 25) o_bad) (cond (Nat.blt pc 26) (cond (Nat.beq pc 25) (o_iast 26) o_bad) (cond (Nat.beq pc 26) (o_iinc 5 (1) 29) o_bad))) (cond (Nat.blt pc 32) (cond (Nat.beq pc 29) (o_goto 3) o_bad) (cond (Nat.blt pc 33) (cond (Nat.beq pc 32) (o_const (1) 33) o_bad) (cond (Nat.beq pc 33) (o_istore 5 35) o_bad)))) (cond (Nat.blt pc 40) (cond (Nat.blt pc 36) (cond (Nat.beq pc 35) (o_iload 2 36) o_bad) (cond (Nat.blt pc 38) (cond (Nat.beq pc 36) (o_istore 6 38) o_bad) (cond (Nat.beq pc 38) (o_iload 6 40) o_bad))) (cond (Nat.blt pc 42) (cond (Nat.blt pc 41) (cond (Nat.beq pc 40) (o_iload 2 41) o_bad) (cond (Nat.beq pc 41) (o_iload 3 42) o_bad)) (cond (Nat.blt pc 43) (cond (Nat.beq pc 42) (o_bin (fun x y => x + y) 43) o_bad) (cond (Nat.beq pc 43) (o_icmp (fun x y => y ≤ x) 161 46) o_bad)))))) (cond (Nat.blt pc 72) (cond (Nat.blt pc 58) (cond (Nat.blt pc 53) (cond (Nat.blt pc 48) (cond (Nat.beq pc 46) (o_iload 5 48) o_bad) (cond (Nat.blt pc 51) (cond (Nat.beq pc 48) (o_if (fun x => x = 0) 161 51) o_bad) (cond (Nat.beq pc 51) (o_iload 5 53) o_bad))) (cond (Nat.blt pc 56) (cond (Nat.beq pc 53) (o_if (fun x => x = 0) 155 56) o_bad) (cond (Nat.blt pc 57) (cond (Nat.beq pc 56) (o_aload 0 57) o_bad) (cond (Nat.beq pc 57) (o_iload 1 58) o_bad)))) (cond (Nat.blt pc 64) (cond (Nat.blt pc 60) (cond (Nat.beq pc 58) (o_iload 6 60) o_bad) (cond (Nat.blt pc 63) (cond (Nat.beq pc 60) (o_callV 3 11 sp_X11_letAt 63) o_bad) (cond (Nat.beq pc 63) (o_aload 0 64) o_bad))) (cond (Nat.blt pc 68) (cond (Nat.blt pc 65) (cond (Nat.beq pc 64) (o_iload 1 65) o_bad) (cond (Nat.beq pc 65) (o_callV 2 11 sp_X11_tablesOn 68) o_bad)) (cond (Nat.blt pc 71) (cond (Nat.beq pc 68) (o_icmp (fun x y => x < y) 155 71) o_bad) (cond (Nat.beq pc 71) (o_const (-1) 72) o_bad))))) (cond (Nat.blt pc 83) (cond (Nat.blt pc 77) (cond (Nat.blt pc 74) (cond (Nat.beq pc 72) (o_istore 7 74) o_bad) (cond (Nat.blt pc 75) (cond (Nat.beq pc 74) (o_const (0) 75) o_bad) (cond (Nat.beq pc 75) (o_istore 8 77) o_bad))) (cond (Nat.blt pc 79) (cond (Nat.beq pc 77) (o_iload 8 79) o_bad) (cond (Nat.blt pc 80) (cond (Nat.beq pc 79) (o_aload 0 80) o_bad) (cond (Nat.beq pc 80) (o_getf 11 21 83) o_bad)))) (cond (Nat.blt pc 89) (cond (Nat.blt pc 86) (cond (Nat.beq pc 83) (o_icmp (fun x y => y ≤ x) 127 86) o_bad) (cond (Nat.blt pc 87) (cond (Nat.beq pc 86) (o_aload 0 87) o_bad) (cond (Nat.beq pc 87) (o_iload 8 89) o_bad))) (cond (Nat.blt pc 92) (cond (Nat.blt pc 90) (cond (Nat.beq pc 89) (o_iload 1 90) o_bad) (cond (Nat.beq pc 90) (o_iload 6 92) o_bad)) (cond (Nat.blt pc 95) (cond (Nat.beq pc 92) (o_callV 4 11 sp_X11_isAt 95) o_bad) (cond (Nat.beq pc 95) (o_if (fun x => x = 0) 117 98) o_bad))))))) (cond (Nat.blt pc 151) (cond (Nat.blt pc 124) (cond (Nat.blt pc 109) (cond (Nat.blt pc 103) (cond (Nat.blt pc 99) (cond (Nat.beq pc 98) (o_aload 0 99) o_bad) (cond (Nat.blt pc 100) (cond (Nat.beq pc 99) (o_aload 0 100) o_bad) (cond (Nat.beq pc 100) (o_getf 11 23 103) o_bad))) (cond (Nat.blt pc 105) (cond (Nat.beq pc 103) (o_iload 8 105) o_bad) (cond (Nat.blt pc 106) (cond (Nat.beq pc 105) (o_iald 106) o_bad) (cond (Nat.beq pc 106) (o_callV 2 11 sp_X11_isLawyers 109) o_bad)))) (cond (Nat.blt pc 117) (cond (Nat.blt pc 112) (cond (Nat.beq pc 109) (o_if (fun x => x = 0) 112 117) o_bad) (cond (Nat.blt pc 114) (cond (Nat.beq pc 112) (o_iload 8 114) o_bad) (cond (Nat.beq pc 114) (o_goto 119) o_bad))) (cond (Nat.blt pc 119) (cond (Nat.beq pc 117) (o_iload 7 119) o_bad) (cond (Nat.blt pc 121) (cond (Nat.beq pc 119) (o_istore 7 121) o_bad) (cond (Nat.beq pc 121) (o_iinc 8 (1) 124) o_bad))))) (cond (Nat.blt pc 137) (cond (Nat.blt pc 132) (cond (Nat.blt pc 127) (cond (Nat.beq pc 124) (o_goto 77) o_bad) (cond (Nat.blt pc 129) (cond (Nat.beq pc 127) (o_iload 7 129) o_bad) (cond (Nat.beq pc 129) (o_if (fun x => x < 0) 136 132) o_bad))) (cond (Nat.blt pc 133) (cond (Nat.beq pc 132) (o_const (1) 133) o_bad) (cond (Nat.blt pc 136) (cond (Nat.beq pc 133) (o_goto 137) o_bad) (cond (Nat.beq pc 136) (o_const (0) 137) o_bad)))) (cond (Nat.blt pc 144) (cond (Nat.blt pc 139) (cond (Nat.beq pc 137) (o_istore 5 139) o_bad) (cond (Nat.blt pc 141) (cond (Nat.beq pc 139) (o_iload 5 141) o_bad) (cond (Nat.beq pc 141) (o_if (fun x => x = 0) 152 144) o_bad))) (cond (Nat.blt pc 148) (cond (Nat.blt pc 145) (cond (Nat.beq pc 144) (o_aload 0 145) o_bad) (cond (Nat.beq pc 145) (o_getf 11 27 148) o_bad)) (cond (Nat.blt pc 150) (cond (Nat.beq pc 148) (o_iload 7 150) o_bad) (cond (Nat.beq pc 150) (o_const (1) 151) o_bad)))))) (cond (Nat.blt pc 180) (cond (Nat.blt pc 166) (cond (Nat.blt pc 158) (cond (Nat.blt pc 152) (cond (Nat.beq pc 151) (o_iast 152) o_bad) (cond (Nat.blt pc 155) (cond (Nat.beq pc 152) (o_goto 51) o_bad) (cond (Nat.beq pc 155) (o_iinc 6 (1) 158) o_bad))) (cond (Nat.blt pc 161) (cond (Nat.beq pc 158) (o_goto 38) o_bad) (cond (Nat.blt pc 163) (cond (Nat.beq pc 161) (o_iload 5 163) o_bad) (cond (Nat.beq pc 163) (o_if (fun x => x = 0) 171 166) o_bad)))) (cond (Nat.blt pc 172) (cond (Nat.blt pc 168) (cond (Nat.beq pc 166) (o_iload 4 168) o_bad) (cond (Nat.blt pc 171) (cond (Nat.beq pc 168) (o_if (fun x => x = 0) 171 203) o_bad) (cond (Nat.beq pc 171) (o_const (0) 172) o_bad))) (cond (Nat.blt pc 176) (cond (Nat.blt pc 174) (cond (Nat.beq pc 172) (o_istore 6 174) o_bad) (cond (Nat.beq pc 174) (o_iload 6 176) o_bad)) (cond (Nat.blt pc 177) (cond (Nat.beq pc 176) (o_aload 0 177) o_bad) (cond (Nat.beq pc 177) (o_getf 11 21 180) o_bad))))) (cond (Nat.blt pc 193) (cond (Nat.blt pc 187) (cond (Nat.blt pc 183) (cond (Nat.beq pc 180) (o_icmp (fun x y => y ≤ x) 203 183) o_bad) (cond (Nat.blt pc 184) (cond (Nat.beq pc 183) (o_aload 0 184) o_bad) (cond (Nat.beq pc 184) (o_getf 11 27 187) o_bad))) (cond (Nat.blt pc 189) (cond (Nat.beq pc 187) (o_iload 6 189) o_bad) (cond (Nat.blt pc 190) (cond (Nat.beq pc 189) (o_aload 0 190) o_bad) (cond (Nat.beq pc 190) (o_getf 11 42 193) o_bad)))) (cond (Nat.blt pc 197) (cond (Nat.blt pc 195) (cond (Nat.beq pc 193) (o_iload 6 195) o_bad) (cond (Nat.blt pc 196) (cond (Nat.beq pc 195) (o_iald 196) o_bad) (cond (Nat.beq pc 196) (o_iast 197) o_bad))) (cond (Nat.blt pc 203) (cond (Nat.blt pc 200) (cond (Nat.beq pc 197) (o_iinc 6 (1) 200) o_bad) (cond (Nat.beq pc 200) (o_goto 174) o_bad)) (cond (Nat.blt pc 205) (cond (Nat.beq pc 203) (o_iload 5 205) o_bad) (cond (Nat.beq pc 205) (o_zret) o_bad)))))))
set_option maxRecDepth 20000 in
theorem ok_X11_makesRoom : HOKs cX11_makesRoom RX11 9 (some .boolean) 3 ins_X11_makesRoom := fun _ => hnd (hnd (hnd (hnd (hnd (hnd (hlf (ok_iconst dX11_makesRoom_0 (by decide) rfl)) (hnd (hlf (ok_istore dX11_makesRoom_1 (by decide) rfl)) (hlf (ok_iload dX11_makesRoom_3 rfl)))) (hnd (hlf (ok_aload_n dX11_makesRoom_5 rfl rfl)) (hnd (hlf (ok_getf (C := RX11) (T := TX11) dX11_makesRoom_6 rfl rfl (by decide) rfl inX11 wd_898 rfl)) (hlf (ok_icmp_ge dX11_makesRoom_9 (by decide) rfl))))) (hnd (hnd (hlf (ok_aload_n dX11_makesRoom_12 rfl rfl)) (hnd (hlf (ok_getf (C := RX11) (T := TX11) dX11_makesRoom_13 rfl rfl (by decide) rfl inX11 wd_919 rfl)) (hlf (ok_iload dX11_makesRoom_16 rfl)))) (hnd (hlf (ok_aload_n dX11_makesRoom_18 rfl rfl)) (hnd (hlf (ok_getf (C := RX11) (T := TX11) dX11_makesRoom_19 rfl rfl (by decide) rfl inX11 wd_904 rfl)) (hlf (ok_iload dX11_makesRoom_22 rfl)))))) (hnd (hnd (hnd (hlf (ok_iald dX11_makesRoom_24 rfl)) (hnd (hlf (ok_iast dX11_makesRoom_25 rfl)) (hlf (ok_iinc dX11_makesRoom_26 (by decide) (by decide) rfl)))) (hnd (hlf (ok_goto dX11_makesRoom_29 (by decide))) (hnd (hlf (ok_iconst dX11_makesRoom_32 (by decide) rfl)) (hlf (ok_istore dX11_makesRoom_33 (by decide) rfl))))) (hnd (hnd (hlf (ok_iload_n dX11_makesRoom_35 rfl rfl)) (hnd (hlf (ok_istore dX11_makesRoom_36 (by decide) rfl)) (hlf (ok_iload dX11_makesRoom_38 rfl)))) (hnd (hnd (hlf (ok_iload_n dX11_makesRoom_40 rfl rfl)) (hlf (ok_iload_n dX11_makesRoom_41 rfl rfl))) (hnd (hlf (ok_iadd dX11_makesRoom_42 rfl)) (hlf (ok_icmp_ge dX11_makesRoom_43 (by decide) rfl))))))) (hnd (hnd (hnd (hnd (hlf (ok_iload dX11_makesRoom_46 rfl)) (hnd (hlf (ok_if_eq dX11_makesRoom_48 (by decide) rfl)) (hlf (ok_iload dX11_makesRoom_51 rfl)))) (hnd (hlf (ok_if_eq dX11_makesRoom_53 (by decide) rfl)) (hnd (hlf (ok_aload_n dX11_makesRoom_56 rfl rfl)) (hlf (ok_iload_n dX11_makesRoom_57 rfl rfl))))) (hnd (hnd (hlf (ok_iload dX11_makesRoom_58 rfl)) (hnd (hlf (ok_callV (y := yX11_letAt) (n' := 2) (C := RX11) (T := TX11) dX11_makesRoom_60 ct_X11_letAt (by decide) (by decide) wd_1092 wd_1089 wd_1091 wd_28 wd_50 rfl (by decide +kernel) rfl rfl rfl)) (hlf (ok_aload_n dX11_makesRoom_63 rfl rfl)))) (hnd (hnd (hlf (ok_iload_n dX11_makesRoom_64 rfl rfl)) (hlf (ok_callV (y := yX11_tablesOn) (n' := 1) (C := RX11) (T := TX11) dX11_makesRoom_65 ct_X11_tablesOn (by decide) (by decide) wd_1100 wd_1097 wd_1099 wd_30 wd_50 rfl (by decide +kernel) rfl rfl rfl))) (hnd (hlf (ok_icmp_lt dX11_makesRoom_68 (by decide) rfl)) (hlf (ok_iconst dX11_makesRoom_71 (by decide) rfl)))))) (hnd (hnd (hnd (hlf (ok_istore dX11_makesRoom_72 (by decide) rfl)) (hnd (hlf (ok_iconst dX11_makesRoom_74 (by decide) rfl)) (hlf (ok_istore dX11_makesRoom_75 (by decide) rfl)))) (hnd (hlf (ok_iload dX11_makesRoom_77 rfl)) (hnd (hlf (ok_aload_n dX11_makesRoom_79 rfl rfl)) (hlf (ok_getf (C := RX11) (T := TX11) dX11_makesRoom_80 rfl rfl (by decide) rfl inX11 wd_898 rfl))))) (hnd (hnd (hlf (ok_icmp_ge dX11_makesRoom_83 (by decide) rfl)) (hnd (hlf (ok_aload_n dX11_makesRoom_86 rfl rfl)) (hlf (ok_iload dX11_makesRoom_87 rfl)))) (hnd (hnd (hlf (ok_iload_n dX11_makesRoom_89 rfl rfl)) (hlf (ok_iload dX11_makesRoom_90 rfl))) (hnd (hlf (ok_callV (y := yX11_isAt) (n' := 3) (C := RX11) (T := TX11) dX11_makesRoom_92 ct_X11_isAt (by decide) (by decide) wd_1096 wd_1093 wd_1095 wd_29 wd_50 rfl (by decide +kernel) rfl rfl rfl)) (hlf (ok_if_eq dX11_makesRoom_95 (by decide) rfl)))))))) (hnd (hnd (hnd (hnd (hnd (hlf (ok_aload_n dX11_makesRoom_98 rfl rfl)) (hnd (hlf (ok_aload_n dX11_makesRoom_99 rfl rfl)) (hlf (ok_getf (C := RX11) (T := TX11) dX11_makesRoom_100 rfl rfl (by decide) rfl inX11 wd_900 rfl)))) (hnd (hlf (ok_iload dX11_makesRoom_103 rfl)) (hnd (hlf (ok_iald dX11_makesRoom_105 rfl)) (hlf (ok_callV (y := yX11_isLawyers) (n' := 1) (C := RX11) (T := TX11) dX11_makesRoom_106 ct_X11_isLawyers (by decide) (by decide) wd_1079 wd_1076 wd_1078 wd_25 wd_50 rfl (by decide +kernel) rfl rfl rfl))))) (hnd (hnd (hlf (ok_if_ne dX11_makesRoom_109 (by decide) rfl)) (hnd (hlf (ok_iload dX11_makesRoom_112 rfl)) (hlf (ok_goto dX11_makesRoom_114 (by decide))))) (hnd (hlf (ok_iload dX11_makesRoom_117 rfl)) (hnd (hlf (ok_istore dX11_makesRoom_119 (by decide) rfl)) (hlf (ok_iinc dX11_makesRoom_121 (by decide) (by decide) rfl)))))) (hnd (hnd (hnd (hlf (ok_goto dX11_makesRoom_124 (by decide))) (hnd (hlf (ok_iload dX11_makesRoom_127 rfl)) (hlf (ok_if_lt dX11_makesRoom_129 (by decide) rfl)))) (hnd (hlf (ok_iconst dX11_makesRoom_132 (by decide) rfl)) (hnd (hlf (ok_goto dX11_makesRoom_133 (by decide))) (hlf (ok_iconst dX11_makesRoom_136 (by decide) rfl))))) (hnd (hnd (hlf (ok_istore dX11_makesRoom_137 (by decide) rfl)) (hnd (hlf (ok_iload dX11_makesRoom_139 rfl)) (hlf (ok_if_eq dX11_makesRoom_141 (by decide) rfl)))) (hnd (hnd (hlf (ok_aload_n dX11_makesRoom_144 rfl rfl)) (hlf (ok_getf (C := RX11) (T := TX11) dX11_makesRoom_145 rfl rfl (by decide) rfl inX11 wd_904 rfl))) (hnd (hlf (ok_iload dX11_makesRoom_148 rfl)) (hlf (ok_iconst dX11_makesRoom_150 (by decide) rfl))))))) (hnd (hnd (hnd (hnd (hlf (ok_iast dX11_makesRoom_151 rfl)) (hnd (hlf (ok_goto dX11_makesRoom_152 (by decide))) (hlf (ok_iinc dX11_makesRoom_155 (by decide) (by decide) rfl)))) (hnd (hlf (ok_goto dX11_makesRoom_158 (by decide))) (hnd (hlf (ok_iload dX11_makesRoom_161 rfl)) (hlf (ok_if_eq dX11_makesRoom_163 (by decide) rfl))))) (hnd (hnd (hlf (ok_iload dX11_makesRoom_166 rfl)) (hnd (hlf (ok_if_ne dX11_makesRoom_168 (by decide) rfl)) (hlf (ok_iconst dX11_makesRoom_171 (by decide) rfl)))) (hnd (hnd (hlf (ok_istore dX11_makesRoom_172 (by decide) rfl)) (hlf (ok_iload dX11_makesRoom_174 rfl))) (hnd (hlf (ok_aload_n dX11_makesRoom_176 rfl rfl)) (hlf (ok_getf (C := RX11) (T := TX11) dX11_makesRoom_177 rfl rfl (by decide) rfl inX11 wd_898 rfl)))))) (hnd (hnd (hnd (hlf (ok_icmp_ge dX11_makesRoom_180 (by decide) rfl)) (hnd (hlf (ok_aload_n dX11_makesRoom_183 rfl rfl)) (hlf (ok_getf (C := RX11) (T := TX11) dX11_makesRoom_184 rfl rfl (by decide) rfl inX11 wd_904 rfl)))) (hnd (hlf (ok_iload dX11_makesRoom_187 rfl)) (hnd (hlf (ok_aload_n dX11_makesRoom_189 rfl rfl)) (hlf (ok_getf (C := RX11) (T := TX11) dX11_makesRoom_190 rfl rfl (by decide) rfl inX11 wd_919 rfl))))) (hnd (hnd (hlf (ok_iload dX11_makesRoom_193 rfl)) (hnd (hlf (ok_iald dX11_makesRoom_195 rfl)) (hlf (ok_iast dX11_makesRoom_196 rfl)))) (hnd (hnd (hlf (ok_iinc dX11_makesRoom_197 (by decide) (by decide) rfl)) (hlf (ok_goto dX11_makesRoom_200 (by decide)))) (hnd (hlf (ok_iload dX11_makesRoom_203 rfl)) (hlf (ok_zret dX11_makesRoom_205))))))))

set_option maxHeartbeats 2000000 in
theorem vc_X11_makesRoom : MVC ins_X11_makesRoom 9 5 sp_X11_makesRoom := by
  intro as w σ q hl hs
  unfold sp_X11_makesRoom at hs
  split at hs
  rotate_left
  · exact hs.elim
  rename_i day xa xb keep
  obtain ⟨n, nv, a, b, t, hNv, hNn, hday, hpl, rfl, rfl, hab, ht, ht6, hy, hno⟩ := hs
  have hn := hNn.1
  have et : (tbM σ day).toNatClampNeg = t := by rw [ht]; exact nI_clamp (by omega)
  obtain ⟨RR, hRR⟩ : ∃ R, R = rms (mV σ) (lwL σ nv) n day t b a (σ 20 21) := ⟨_, rfl⟩
  unfold rmM at hy hno
  rw [et, ← hRR] at hy hno
  have en : ∀ {σ' : HS} {S : Nat → Int32}, eqB (msS σ S n) σ' → σ' 11 0 21 = nI n := fun hE => by rw [hE 11 0 21 (by omega), msS_o (by omega)]; exact hNn.2
  have env : ∀ {σ' : HS} {S : Nat → Int32}, eqB (msS σ S n) σ' → Nv σ' nv := fun hE => ⟨hNv.1, by rw [hE 11 0 7 (by omega), msS_o (by omega)]; exact hNv.2⟩
  refine ⟨fun pc => Nat.beq pc 3 || Nat.beq pc 38 || Nat.beq pc 51 || Nat.beq pc 77 || Nat.beq pc 174, Imr w σ n nv a b t day keep RR, 90, 60, ?_, ?_⟩
  · rintro N pc ls st w' σ' hh ⟨rfl, rfl, (⟨rfl, k, u, o6, o7, o8, hk, rfl, rfl, hE, hB, rfl⟩ | ⟨rfl, h, g, u, S, o7, o8, hah, hhb, rfl, rfl, hg, hE, hB, rfl⟩ | ⟨rfl, h, g, u, S, o7, o8, hah, hhb, rfl, hg, hE, hB, rfl⟩ | ⟨rfl, h, i, u, v, x, S, hah, hhb, hi, rfl, rfl, htl, rfl, hR, hx, hE, hB, rfl⟩ | ⟨rfl, k, g, u, S, o7, o8, hk, rfl, rfl, hg, hE, hB, hS, rfl⟩)⟩
    · have e21 : σ' 11 0 21 = nI n := by rw [hE 11 0 21 (by omega)]; exact hNn.2
      apply br2
      · intro h1
        obtain rfl := lp_end e21 hk h1
        refine ⟨_, ?_, rfl, rfl, Or.inr (Or.inl ⟨rfl, a, 1, _, σ 20 21, _, _, Nat.le_refl _, by omega, rfl, rfl, Or.inl ⟨rfl, ?_⟩, ?_, hB, rfl⟩)⟩
        · omega
        · rw [hRR]; congr 1; omega
        · rw [msS_self]; exact hE
      · intro h1
        have hlt := lp_go e21 hk h1
        have e1 : (nI k).toNatClampNeg = k := nI_clamp (by omega)
        have hin : vp_in (nI k) 100 := vp_in_nI (by omega) (by decide)
        refine And.intro hin (And.intro hin ?_)
        refine ⟨_, ?_, rfl, rfl, Or.inl ⟨rfl, k + 1, _, _, _, _, hlt, rfl, nI_1 k, ?_, ?_, rfl⟩⟩
        · omega
        · intro k2 i f hq
          rw [up3_o (fun z => hq ⟨z.1, z.2.1⟩)]
          exact hE k2 i f hq
        · intro i hi
          rw [e1]
          by_cases e : i = k
          · subst e
            simp only [up3, and_self, if_true]
            exact hE 20 21 i (by omega)
          · rw [up3_o (fun z => e z.2.2)]
            exact hB i (by omega)
    · have fin1 : ∀ (o7 o8 : Option HV) (u : Int32), RR = some S → (keep = 0 → ∃ N', N' < (a + b - h) * 100000 + 90000 ∧ Imr w σ n nv a b t day keep RR 174 N' [some (HR 11 0), some (HI day), some (HI (nI a)), some (HI (nI b)), some (HI keep), some (HI 1), some (HI 0), o7, o8] [] w σ') ∧ (¬ keep = 0 → (((1 : Int32) = 0 ∨ (1 : Int32) = 1) ∧ q (some (HI 1)) w σ')) := fun o7 o8 u hR =>
        ⟨fun h2 => ⟨n - 0, by omega, rfl, rfl, Or.inr (Or.inr (Or.inr (Or.inr ⟨rfl, 0, 1, _, S, _, _, Nat.zero_le _, rfl, rfl, Or.inl ⟨rfl, h2, by rw [hR]; exact fun z => by cases z⟩, hE, hB, fun i hi => absurd hi (by omega), rfl⟩)))⟩, fun h2 => ⟨Or.inr rfl, hy S hR σ' (by rw [if_neg h2]; exact hE)⟩⟩
      have fin0 : ∀ (o7 o8 : Option HV), RR = none → ∃ N', N' < (a + b - h) * 100000 + 90000 ∧ Imr w σ n nv a b t day keep RR 174 N' [some (HR 11 0), some (HI day), some (HI (nI a)), some (HI (nI b)), some (HI keep), some (HI 0), some (HI 0), o7, o8] [] w σ' := fun o7 o8 hR =>
        ⟨n - 0, by omega, rfl, rfl, Or.inr (Or.inr (Or.inr (Or.inr ⟨rfl, 0, 0, _, S, _, _, Nat.zero_le _, rfl, rfl, Or.inr ⟨rfl, hR⟩, hE, hB, fun i hi => absurd hi (by omega), rfl⟩)))⟩
      apply br2
      · intro h1
        obtain rfl := lp_end (nI_add a b) hhb h1
        rw [Nat.sub_self] at hg
        rcases hg with ⟨rfl, hR⟩ | ⟨rfl, hR⟩
        · exact And.intro (fun h => absurd h (by decide)) (fun _ => fin1 o7 o8 0 hR.symm)
        · exact And.intro (fun _ => fin0 o7 o8 hR) (fun h => absurd rfl h)
      · intro h1
        have hlt := lp_go (nI_add a b) hhb h1
        rcases hg with ⟨rfl, hR⟩ | ⟨rfl, hR⟩
        · refine And.intro (fun h => absurd h (by decide)) (fun _ => ?_)
          refine ⟨_, ?_, rfl, rfl, Or.inr (Or.inr (Or.inl ⟨rfl, h, 1, _, S, _, _, hah, hlt, rfl, Or.inl ⟨rfl, rfl, ?_⟩, hE, hB, rfl⟩))⟩
          · have : lcV (mV σ) S day (nI h) n ≤ 100 := Nat.le_trans (cnt_le _ _) hn
            omega
          · rw [← hR]
            obtain ⟨k, hk⟩ : ∃ k, a + b - h = k + 1 := ⟨a + b - h - 1, by omega⟩
            rw [hk]
            have : a + b - (h + 1) = k := by omega
            rw [this]
            rfl
        · refine And.intro (fun _ => ?_) (fun h => absurd rfl h)
          exact And.intro (fun _ => fin0 o7 o8 hR) (fun h => absurd rfl h)
    · have out : ∀ (g : Int32), (g = 1 ∧ rms (mV σ) (lwL σ nv) n day t (a + b - (h + 1)) (h + 1) S = RR) ∨ (g = 0 ∧ RR = none) → ∃ N', N' < (a + b - h) * 100000 ∧ Imr w σ n nv a b t day keep RR 38 N' [some (HR 11 0), some (HI day), some (HI (nI a)), some (HI (nI b)), some (HI keep), some (HI g), some (HI (nI h + 1)), o7, o8] [] w σ' := fun g hg =>
        ⟨_, by omega, rfl, rfl, Or.inr (Or.inl ⟨rfl, h + 1, g, _, S, _, _, by omega, hhb, rfl, nI_1 h, hg, hE, hB, rfl⟩)⟩
      rcases hg with ⟨rfl, rfl, hR⟩ | ⟨rfl, hR, rfl⟩
      · refine And.intro (fun h => absurd h (by decide)) (fun _ => ?_)
        refine ⟨n, ⟨hn, en hE⟩, hday, by rw [hE 20 22 0 (by omega), msS_o (by omega)]; exact hpl, ?_⟩
        have hlc : cnt (fun i => decide (atM σ' i day (nI h))) n = lcV (mV σ) S day (nI h) n := cnt_cg fun j hj => decide_eq_decide.mpr (mat hE hj)
        have hle : lcV (mV σ) S day (nI h) n ≤ 100 := Nat.le_trans (cnt_le _ _) hn
        rw [hlc, mtb hE, ht]
        apply br2
        · intro h2
          have h2 : lcV (mV σ) S day (nI h) n < t := by
            rcases Nat.lt_or_ge (lcV (mV σ) S day (nI h) n) t with z | z
            · exact z
            · exact absurd h2 (nI_nlt z (by omega))
          rw [show lcV (mV σ) S day (nI h) n + 1 - t = 0 from Nat.sub_eq_zero_of_le h2] at hR
          obtain ⟨N', h3, h4⟩ := out 1 (Or.inl ⟨rfl, hR⟩)
          have h5 : N' < (a + b - h) * 100000 + lcV (mV σ) S day (nI h) n * 200 + 150 := Nat.lt_of_lt_of_le h3 (Nat.le_trans (Nat.le_add_right _ _) (Nat.le_add_right _ _))
          exact ⟨N', h5, h4⟩
        · intro h2
          have h2 : t ≤ lcV (mV σ) S day (nI h) n := by
            rcases Nat.lt_or_ge (lcV (mV σ) S day (nI h) n) t with z | z
            · exact absurd (nI_lt z (by omega)) h2
            · exact z
          exact ⟨_, by omega, rfl, rfl, Or.inr (Or.inr (Or.inr (Or.inl ⟨rfl, h, 0, _, _, _, S, hah, hhb, Nat.zero_le _, rfl, rfl, h2, rfl, hR, Or.inl ⟨rfl, rfl⟩, hE, hB, rfl⟩)))⟩
      · refine And.intro (fun _ => ?_) (fun h => absurd rfl h)
        exact out 0 (Or.inr ⟨rfl, hR⟩)
    · have hle : lcV (mV σ) S day (nI h) n ≤ 100 := Nat.le_trans (cnt_le _ _) hn
      apply br2
      · intro h1
        obtain rfl := lp_end (en hE) hi h1
        have hk : lcV (mV σ) S day (nI h) i + 1 - t = (lcV (mV σ) S day (nI h) i - t) + 1 := by omega
        rw [hk] at hR
        unfold clr at hR
        rcases hx with ⟨hY, rfl⟩ | ⟨j, hY, rfl⟩
        · rw [hY] at hR
          refine And.intro (fun _ => ?_) (fun h => absurd (by decide) h)
          refine And.intro (fun _ => ?_) (fun h => absurd rfl h)
          exact ⟨_, by omega, rfl, rfl, Or.inr (Or.inr (Or.inl ⟨rfl, h, 0, _, S, _, _, hah, hhb, rfl, Or.inr ⟨rfl, hR.symm, rfl⟩, hE, hB, rfl⟩))⟩
        · rw [hY] at hR
          obtain ⟨hj, hyj⟩ := lastY_at hY
          have hyj := of_decide_eq_true hyj
          have ej : (nI j).toNatClampNeg = j := nI_clamp (by omega)
          refine And.intro (fun h => absurd h (Int32.not_lt.mpr (nI_pos' (by omega)))) (fun _ => ?_)
          refine And.intro (fun h => absurd h (by decide)) (fun _ => ?_)
          refine And.intro (vp_in_nI (N := 100) (by omega) (by decide)) ?_
          have hl1 := lcV_up hj hyj.1
          refine ⟨_, ?_, rfl, rfl, Or.inr (Or.inr (Or.inl ⟨rfl, h, 1, _, upd S j 1, _, _, hah, hhb, rfl, Or.inl ⟨rfl, rfl, ?_⟩, ?_, ?_, rfl⟩))⟩
          · omega
          · have : lcV (mV σ) (upd S j 1) day (nI h) i + 1 - t = lcV (mV σ) S day (nI h) i - t := by omega
            rw [this]
            exact hR
          · rw [ej]; exact msS_up hE hj
          · intro i2 hi2
            rw [up3_o (by omega)]
            exact hB i2 hi2
      · intro h1
        have hlt := lp_go (en hE) hi h1
        have e1 : (nI i).toNatClampNeg = i := nI_clamp (by omega)
        have hin : vp_in (nI i) 100 := vp_in_nI (by omega) (by decide)
        have nxt : ∀ (x : Int32), ((lastY (fun i => decide (yV (mV σ) (lwL σ nv) S i day (nI h))) (i + 1) = none ∧ x = -1) ∨ ∃ j, lastY (fun i => decide (yV (mV σ) (lwL σ nv) S i day (nI h))) (i + 1) = some j ∧ x = nI j) → ∃ N', N' < (a + b - h) * 100000 + lcV (mV σ) S day (nI h) n * 200 + (n - i) + 1 ∧ Imr w σ n nv a b t day keep RR 77 N' [some (HR 11 0), some (HI day), some (HI (nI a)), some (HI (nI b)), some (HI keep), some (HI 1), some (HI (nI h)), some (HI x), some (HI (nI i + 1))] [] w σ' := fun x hx =>
          ⟨_, by omega, rfl, rfl, Or.inr (Or.inr (Or.inr (Or.inl ⟨rfl, h, i + 1, _, _, x, S, hah, hhb, hlt, rfl, nI_1 i, htl, rfl, hR, hx, hE, hB, rfl⟩)))⟩
        have no : ¬ yV (mV σ) (lwL σ nv) S i day (nI h) → ∃ N', N' < (a + b - h) * 100000 + lcV (mV σ) S day (nI h) n * 200 + (n - i) + 1 ∧ Imr w σ n nv a b t day keep RR 77 N' [some (HR 11 0), some (HI day), some (HI (nI a)), some (HI (nI b)), some (HI keep), some (HI 1), some (HI (nI h)), some (HI x), some (HI (nI i + 1))] [] w σ' := fun hn => by
          refine nxt x ?_
          have e : lastY (fun i => decide (yV (mV σ) (lwL σ nv) S i day (nI h))) (i + 1) = lastY (fun i => decide (yV (mV σ) (lwL σ nv) S i day (nI h))) i := by
            show (if decide (yV (mV σ) (lwL σ nv) S i day (nI h)) = true then some i else _) = _
            rw [if_neg (by rw [decide_eq_false hn]; decide)]
          rw [e]
          exact hx
        refine ⟨i, by omega, rfl, ?_⟩
        apply br2
        rotate_left
        · intro h2
          have h2 : ¬ atM σ' i day (nI h) := h2
          rw [mat hE hlt] at h2
          exact And.intro (fun _ => no fun z => h2 z.1) (fun h => absurd rfl h)
        intro h2
        have h2 : atM σ' i day (nI h) := h2
        rw [mat hE hlt] at h2
        refine And.intro (fun h => absurd h (by decide)) (fun _ => And.intro hin ?_)
        refine ⟨nv, env hE, ?_⟩
        apply br2
        · intro h3
          have h3 : lwM σ' nv (σ' 20 17 (nI i).toNatClampNeg) := h3
          rw [e1, mlw hE, hE 20 17 i (by omega), msS_o (by omega)] at h3
          exact And.intro (fun h => absurd h (by decide)) (fun _ => no fun z => lwL_0.mp z.2 h3)
        · intro h3
          have h3 : ¬ lwM σ' nv (σ' 20 17 (nI i).toNatClampNeg) := h3
          rw [e1, mlw hE, hE 20 17 i (by omega), msS_o (by omega)] at h3
          refine And.intro (fun _ => ?_) (fun h => absurd rfl h)
          refine nxt _ (Or.inr ⟨i, ?_, rfl⟩)
          show (if decide (yV (mV σ) (lwL σ nv) S i day (nI h)) = true then some i else _) = _
          exact if_pos (decide_eq_true ⟨h2, lwL_0.mpr h3⟩)
    · apply br2
      · intro h1
        obtain rfl := lp_end (en hE) hk h1
        have hS2 : msS σ S k = msS σ (σ 20 21) k := by
          funext k2 i f
          unfold msS
          by_cases z : k2 = 20 ∧ i = 21 ∧ f < k
          · rw [if_pos z, if_pos z]; exact hS f z.2.2
          · rw [if_neg z, if_neg z]
        rw [hS2] at hE
        rcases hg with ⟨rfl, hk0, hR⟩ | ⟨rfl, hR⟩
        · cases hz : RR with
          | none => exact absurd hz hR
          | some S' =>
            refine ⟨Or.inr rfl, hy S' hz σ' ?_⟩
            rw [if_pos hk0]
            exact hE
        · rw [msS_self] at hE
          exact ⟨Or.inl rfl, hno hR σ' hE⟩
      · intro h1
        have hlt := lp_go (en hE) hk h1
        have e1 : (nI k).toNatClampNeg = k := nI_clamp (by omega)
        have hin : vp_in (nI k) 100 := vp_in_nI (by omega) (by decide)
        refine And.intro hin (And.intro hin ?_)
        refine ⟨_, ?_, rfl, rfl, Or.inr (Or.inr (Or.inr (Or.inr ⟨rfl, k + 1, _, _, upd S k (σ 20 21 k), _, _, hlt, rfl, nI_1 k, hg, ?_, ?_, ?_, rfl⟩)))⟩
        · omega
        · rw [e1, hB k hlt]; exact msS_up hE hlt
        · intro i2 hi2
          rw [up3_o (by omega)]
          exact hB i2 hi2
        · intro i2 hi2
          unfold upd
          by_cases z : i2 = k
          · rw [if_pos z, z]
          · rw [if_neg z]; exact hS i2 (by omega)
  · refine ⟨10000000 + (n - 0), rfl, rfl, Or.inl ⟨rfl, 0, 0, none, none, none, Nat.zero_le _, rfl, rfl, eqB.rf, fun i hi => absurd hi (by omega), rfl⟩⟩
theorem ct_X11_makesRoom : Ctr yX11_makesRoom cX11_makesRoom 9 (some .boolean) 3 0 0 5 sp_X11_makesRoom := ctr_of (by decide +kernel) rfl (by decide) ok_X11_makesRoom vc_X11_makesRoom

