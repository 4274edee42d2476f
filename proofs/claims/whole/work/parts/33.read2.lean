/-! Reading a right, 2: what a text says, for both sides; the reference's reader -/
abbrev Prs := Nat ⊕ (Int32 × Int32 × Int32 × Int32 × Int32 × Int32)
abbrev we (T : Nat → Int32) (z e : Nat) : Nat := wE T z (wA T z e)
theorem we_le {T : Nat → Int32} {z e : Nat} (h : e ≤ z) : e ≤ wA T z e ∧ wA T z e ≤ we T z e ∧ we T z e ≤ z := by
  have h1 := wA_le (T := T) h
  have h2 := wE_le (T := T) h1.2
  exact ⟨h1.1, h2.1, h2.2⟩
noncomputable def pNum (T : Nat → Int32) (z e : Nat) (lo hi : Int32) (k : Int32 → Nat → Prs) : Prs := cif (¬ num T (wA T z e) (we T z e) < lo ∧ ¬ hi < num T (wA T z e) (we T z e)) (k (num T (wA T z e) (we T z e)) (we T z e)) (.inl (wA T z e))
noncomputable def pWord (T : Nat → Int32) (z e : Nat) (c1 c2 c3 c4 : Int32) (k : Nat → Prs) : Prs := cif (isW T (wA T z e) (we T z e) c1 c2 c3 c4) (k (we T z e)) (.inl (wA T z e))
noncomputable def pNots (T : Nat → Int32) (z : Nat) (k : Int32 → Nat → Prs) : Nat → Nat → Int32 → Int32 → Prs
  | 0, _, _, _ => .inl 0
  | m + 1, e, lo, acc => pNum T z e lo 6 fun n e2 => cif (isW T (wA T z e2) (we T z e2) 111 114 0 0) (pNots T z k m (we T z e2) (n + 1) (acc ||| (1 <<< (n &&& 31)))) (k (acc ||| (1 <<< (n &&& 31))) e2)
noncomputable def pNot (T : Nat → Int32) (z e : Nat) (k : Int32 → Nat → Prs) : Prs := cif (isW T (wA T z e) (we T z e) 110 111 116 0) (pNots T z k 8 (we T z e) 0 0) (k 0 e)
noncomputable def pFar (T : Nat → Int32) (z e : Nat) (k : Int32 → Int32 → Nat → Prs) : Prs := cif (isW T (wA T z e) (we T z e) 102 97 114 0) (pNum T z (we T z e) 0 20 fun f e => pWord T z e 97 110 100 0 fun e => pNum T z e 1 9 fun mo e => k f mo e) (k (-1000000005) 0 e)
noncomputable def pLong (T : Nat → Int32) (z e : Nat) (k : Int32 → Nat → Prs) : Prs := cif (isW T (wA T z e) (we T z e) 108 111 110 103) (pNum T z (we T z e) 1 4 k) (k 2 e)
noncomputable def pEnd (T : Nat → Int32) (z : Nat) (n m f mo l : Int32) (nt : Int32) (e : Nat) : Prs := cif (wA T z e = we T z e) (.inr (n, m, f, mo, l, nt)) (.inl (wA T z e))
noncomputable def pL (T : Nat → Int32) (z : Nat) (n m f mo : Int32) (e : Nat) : Prs := pLong T z e fun l e => pNot T z e (pEnd T z n m f mo l)
noncomputable def prs (T : Nat → Int32) (z : Nat) : Prs := pNum T z 0 0 50 fun n e => pWord T z e 105 110 0 0 fun e => pNum T z e 1 60 fun m e => pFar T z e fun f mo e => pL T z n m f mo e
def eqR (σ σ' : HS) : Prop := ∀ k i f, ¬ (k = 11 ∧ i = 0 ∧ 33 ≤ f ∧ f ≤ 41) → σ' k i f = σ k i f
def pK (σ : HS) (w : HW) (K : HRt) : Prs → Prop
  | .inl p => ∀ σ', eqR σ σ' → K (some (HI (nI p))) w σ'
  | .inr t => ∀ σ', eqR σ σ' → σ' 11 0 36 = t.1 → σ' 11 0 37 = t.2.1 → σ' 11 0 38 = t.2.2.1 → σ' 11 0 39 = t.2.2.2.1 → σ' 11 0 40 = t.2.2.2.2.1 → σ' 11 0 41 = t.2.2.2.2.2 → K (some (HI (-1))) w σ'
def RdE (σ σ' : HS) (e : Nat) (F : Nat → Int32) : Prop := eqR σ σ' ∧ σ' 11 0 33 = nI e ∧ ∀ f, 36 ≤ f → f ≤ 41 → σ' 11 0 f = F f
def Rd (σ : HS) (z : Nat) (σ' : HS) (e : Nat) (F : Nat → Int32) : Prop := RdE σ σ' (we (σ 20 15) z e) F ∧ σ' 11 0 34 = nI (wA (σ 20 15) z e) ∧ σ' 11 0 35 = nI (we (σ 20 15) z e - wA (σ 20 15) z e)
theorem eqR_T {σ σ' : HS} (h : eqR σ σ') : σ' 20 15 = σ 20 15 := funext fun j => h 20 15 j (by omega)
theorem eqR_z {σ σ' : HS} {z : Nat} (h : eqR σ σ') (hz : σ 11 0 20 = nI z) : σ' 11 0 20 = nI z := by rw [h 11 0 20 (by omega)]; exact hz
theorem RdE_put {σ σ' : HS} {e : Nat} {F : Nat → Int32} (h : RdE σ σ' e F) {f : Nat} (h1 : 36 ≤ f) (h2 : f ≤ 41) (v : Int32) : RdE σ (up3 σ' 11 0 f v) e (upd F f v) := by
  refine ⟨fun k i g hg => ?_, ?_, fun g hg1 hg2 => ?_⟩
  · rw [up3_o (by omega)]; exact h.1 k i g hg
  · rw [up3_o (by omega)]; exact h.2.1
  · by_cases e : g = f
    · subst e; simp [up3, upd]
    · rw [up3_o (by omega)]
      unfold upd
      rw [if_neg e]
      exact h.2.2 g hg1 hg2
theorem Rd_put {σ σ' : HS} {z e : Nat} {F : Nat → Int32} (h : Rd σ z σ' e F) {f : Nat} (h1 : 36 ≤ f) (h2 : f ≤ 41) (v : Int32) : Rd σ z (up3 σ' 11 0 f v) e (upd F f v) :=
  ⟨RdE_put h.1 h1 h2 v, by rw [up3_o (by omega)]; exact h.2.1, by rw [up3_o (by omega)]; exact h.2.2⟩
theorem Rd_next {σ σ' : HS} {z e : Nat} {F : Nat → Int32} (h : RdE σ σ' e F) : Rd σ z (nxS σ' (wA (σ' 20 15) z e) (wE (σ' 20 15) z (wA (σ' 20 15) z e))) e F := by
  rw [eqR_T h.1]
  refine ⟨⟨fun k i g hg => ?_, ?_, fun g hg1 hg2 => ?_⟩, ?_, ?_⟩
  · unfold nxS
    rw [up3_o (by omega), up3_o (by omega), up3_o (by omega)]; exact h.1 k i g hg
  · unfold nxS
    rw [up3_o (by omega), up3_o (by omega)]; exact up3_v
  · unfold nxS
    rw [up3_o (by omega), up3_o (by omega), up3_o (by omega)]; exact h.2.2 g hg1 hg2
  · unfold nxS
    rw [up3_o (by omega)]; exact up3_v
  · exact up3_v
theorem Rd_here {σ σ' : HS} {z e : Nat} {F : Nat → Int32} (hz : σ 11 0 20 = nI z) (hz6 : z ≤ 60) (he : e ≤ z) (h : Rd σ z σ' e F) : (if σ' 11 0 35 = 0 then σ' 11 0 20 else σ' 11 0 34) = nI (wA (σ 20 15) z e) := by
  have h1 := we_le (T := σ 20 15) he
  by_cases c : σ' 11 0 35 = 0
  · rw [if_pos c, eqR_z h.1.1 hz]
    rw [h.2.2] at c
    have c2 := nI_inj (b := 0) c
    rw [wE_lt (T := σ 20 15) he (by unfold we at c2 h1; omega)]
  · rw [if_neg c, h.2.1]
def sp_X11_readRight : HSp := fun as w σ K => match as with
  | [.inr (.inl (11, some 0))] => ∃ z, z ≤ 60 ∧ σ 11 0 20 = nI z ∧ pK σ w K (prs (σ 20 15) z)
  | _ => False
noncomputable def Ird (w : HW) (σ : HS) (z : Nat) (q : HRt) : Nat → Nat → HKp := fun pc N ls st w' σ' => st = [] ∧ w = w' ∧ ∃ (e : Nat) (F : Nat → Int32), e ≤ z ∧ Rd σ z σ' e F ∧
  ((pc = 213 ∧ N = 1000 ∧ F 40 = 2 ∧ F 41 = 0 ∧ (∃ o1 o2 o3 : Option HV, ls = [some (HR 11 0), o1, o2, o3]) ∧ pK σ w q (pL (σ 20 15) z (F 36) (F 37) (F 38) (F 39) e)) ∨
   (pc = 261 ∧ N = 900 ∧ F 41 = 0 ∧ (∃ o1 o2 o3 : Option HV, ls = [some (HR 11 0), o1, o2, o3]) ∧ pK σ w q (pNot (σ 20 15) z e (pEnd (σ 20 15) z (F 36) (F 37) (F 38) (F 39) (F 40)))) ∨
   (pc = 275 ∧ ∃ (g lo : Int32) (o3 : Option HV), ls = [some (HR 11 0), some (HI g), some (HI lo), o3] ∧
     ((g = 1 ∧ ∃ m j, N = m + 1 ∧ 8 ≤ m + j ∧ j ≤ 7 ∧ lo = nI j ∧ pK σ w q (pNots (σ 20 15) z (pEnd (σ 20 15) z (F 36) (F 37) (F 38) (F 39) (F 40)) m (we (σ 20 15) z e) lo (F 41))) ∨
      (g = 0 ∧ N = 0 ∧ pK σ w q (pEnd (σ 20 15) z (F 36) (F 37) (F 38) (F 39) (F 40) (F 41) e)))))
theorem dX11_readRight_0 : decode cX11_readRight 0 = .ok (.aload_n 0, 1) := by decide +kernel
theorem dX11_readRight_1 : decode cX11_readRight 1 = .ok (.iconst 0, 1) := by decide +kernel
theorem dX11_readRight_2 : decode cX11_readRight 2 = .ok (.putfield 140, 3) := by decide +kernel
theorem dX11_readRight_5 : decode cX11_readRight 5 = .ok (.aload_n 0, 1) := by decide +kernel
theorem dX11_readRight_6 : decode cX11_readRight 6 = .ok (.ldc 149, 2) := by decide +kernel
theorem dX11_readRight_8 : decode cX11_readRight 8 = .ok (.putfield 150, 3) := by decide +kernel
theorem dX11_readRight_11 : decode cX11_readRight 11 = .ok (.aload_n 0, 1) := by decide +kernel
theorem dX11_readRight_12 : decode cX11_readRight 12 = .ok (.iconst 0, 1) := by decide +kernel
theorem dX11_readRight_13 : decode cX11_readRight 13 = .ok (.putfield 153, 3) := by decide +kernel
theorem dX11_readRight_16 : decode cX11_readRight 16 = .ok (.aload_n 0, 1) := by decide +kernel
theorem dX11_readRight_17 : decode cX11_readRight 17 = .ok (.iconst 2, 1) := by decide +kernel
theorem dX11_readRight_18 : decode cX11_readRight 18 = .ok (.putfield 156, 3) := by decide +kernel
theorem dX11_readRight_21 : decode cX11_readRight 21 = .ok (.aload_n 0, 1) := by decide +kernel
theorem dX11_readRight_22 : decode cX11_readRight 22 = .ok (.iconst 0, 1) := by decide +kernel
theorem dX11_readRight_23 : decode cX11_readRight 23 = .ok (.putfield 159, 3) := by decide +kernel
theorem dX11_readRight_26 : decode cX11_readRight 26 = .ok (.aload_n 0, 1) := by decide +kernel
theorem dX11_readRight_27 : decode cX11_readRight 27 = .ok (.invokevirtual 162, 3) := by decide +kernel
theorem dX11_readRight_30 : decode cX11_readRight 30 = .ok (.aload_n 0, 1) := by decide +kernel
theorem dX11_readRight_31 : decode cX11_readRight 31 = .ok (.aload_n 0, 1) := by decide +kernel
theorem dX11_readRight_32 : decode cX11_readRight 32 = .ok (.invokevirtual 165, 3) := by decide +kernel
theorem dX11_readRight_35 : decode cX11_readRight 35 = .ok (.putfield 168, 3) := by decide +kernel
theorem dX11_readRight_38 : decode cX11_readRight 38 = .ok (.aload_n 0, 1) := by decide +kernel
theorem dX11_readRight_39 : decode cX11_readRight 39 = .ok (.getfield 168, 3) := by decide +kernel
theorem dX11_readRight_42 : decode cX11_readRight 42 = .ok (.iconst 0, 1) := by decide +kernel
theorem dX11_readRight_43 : decode cX11_readRight 43 = .ok (.bipush 50, 2) := by decide +kernel
theorem dX11_readRight_45 : decode cX11_readRight 45 = .ok (.invokestatic 102, 3) := by decide +kernel
theorem dX11_readRight_48 : decode cX11_readRight 48 = .ok (.ifCond .ne 8, 3) := by decide +kernel
theorem dX11_readRight_51 : decode cX11_readRight 51 = .ok (.aload_n 0, 1) := by decide +kernel
theorem dX11_readRight_52 : decode cX11_readRight 52 = .ok (.invokevirtual 171, 3) := by decide +kernel
theorem dX11_readRight_55 : decode cX11_readRight 55 = .ok (.ireturn, 1) := by decide +kernel
theorem dX11_readRight_56 : decode cX11_readRight 56 = .ok (.aload_n 0, 1) := by decide +kernel
theorem dX11_readRight_57 : decode cX11_readRight 57 = .ok (.invokevirtual 162, 3) := by decide +kernel
theorem dX11_readRight_60 : decode cX11_readRight 60 = .ok (.aload_n 0, 1) := by decide +kernel
theorem dX11_readRight_61 : decode cX11_readRight 61 = .ok (.bipush 105, 2) := by decide +kernel
theorem dX11_readRight_63 : decode cX11_readRight 63 = .ok (.bipush 110, 2) := by decide +kernel
theorem dX11_readRight_65 : decode cX11_readRight 65 = .ok (.iconst 0, 1) := by decide +kernel
theorem dX11_readRight_66 : decode cX11_readRight 66 = .ok (.iconst 0, 1) := by decide +kernel
theorem dX11_readRight_67 : decode cX11_readRight 67 = .ok (.invokevirtual 174, 3) := by decide +kernel
theorem dX11_readRight_70 : decode cX11_readRight 70 = .ok (.ifCond .ne 8, 3) := by decide +kernel
theorem dX11_readRight_73 : decode cX11_readRight 73 = .ok (.aload_n 0, 1) := by decide +kernel
theorem dX11_readRight_74 : decode cX11_readRight 74 = .ok (.invokevirtual 171, 3) := by decide +kernel
theorem dX11_readRight_77 : decode cX11_readRight 77 = .ok (.ireturn, 1) := by decide +kernel
theorem dX11_readRight_78 : decode cX11_readRight 78 = .ok (.aload_n 0, 1) := by decide +kernel
theorem dX11_readRight_79 : decode cX11_readRight 79 = .ok (.invokevirtual 162, 3) := by decide +kernel
theorem dX11_readRight_82 : decode cX11_readRight 82 = .ok (.aload_n 0, 1) := by decide +kernel
theorem dX11_readRight_83 : decode cX11_readRight 83 = .ok (.aload_n 0, 1) := by decide +kernel
theorem dX11_readRight_84 : decode cX11_readRight 84 = .ok (.invokevirtual 165, 3) := by decide +kernel
theorem dX11_readRight_87 : decode cX11_readRight 87 = .ok (.putfield 178, 3) := by decide +kernel
theorem dX11_readRight_90 : decode cX11_readRight 90 = .ok (.aload_n 0, 1) := by decide +kernel
theorem dX11_readRight_91 : decode cX11_readRight 91 = .ok (.getfield 178, 3) := by decide +kernel
theorem dX11_readRight_94 : decode cX11_readRight 94 = .ok (.iconst 1, 1) := by decide +kernel
theorem dX11_readRight_95 : decode cX11_readRight 95 = .ok (.bipush 60, 2) := by decide +kernel
theorem dX11_readRight_97 : decode cX11_readRight 97 = .ok (.invokestatic 102, 3) := by decide +kernel
theorem dX11_readRight_100 : decode cX11_readRight 100 = .ok (.ifCond .ne 8, 3) := by decide +kernel
theorem dX11_readRight_103 : decode cX11_readRight 103 = .ok (.aload_n 0, 1) := by decide +kernel
theorem dX11_readRight_104 : decode cX11_readRight 104 = .ok (.invokevirtual 171, 3) := by decide +kernel
theorem dX11_readRight_107 : decode cX11_readRight 107 = .ok (.ireturn, 1) := by decide +kernel
theorem dX11_readRight_108 : decode cX11_readRight 108 = .ok (.aload_n 0, 1) := by decide +kernel
theorem dX11_readRight_109 : decode cX11_readRight 109 = .ok (.invokevirtual 162, 3) := by decide +kernel
theorem dX11_readRight_112 : decode cX11_readRight 112 = .ok (.aload_n 0, 1) := by decide +kernel
theorem dX11_readRight_113 : decode cX11_readRight 113 = .ok (.bipush 102, 2) := by decide +kernel
theorem dX11_readRight_115 : decode cX11_readRight 115 = .ok (.bipush 97, 2) := by decide +kernel
theorem dX11_readRight_117 : decode cX11_readRight 117 = .ok (.bipush 114, 2) := by decide +kernel
theorem dX11_readRight_119 : decode cX11_readRight 119 = .ok (.iconst 0, 1) := by decide +kernel
theorem dX11_readRight_120 : decode cX11_readRight 120 = .ok (.invokevirtual 174, 3) := by decide +kernel
theorem dX11_readRight_123 : decode cX11_readRight 123 = .ok (.ifCond .eq 90, 3) := by decide +kernel
theorem dX11_readRight_126 : decode cX11_readRight 126 = .ok (.aload_n 0, 1) := by decide +kernel
theorem dX11_readRight_127 : decode cX11_readRight 127 = .ok (.invokevirtual 162, 3) := by decide +kernel
theorem dX11_readRight_130 : decode cX11_readRight 130 = .ok (.aload_n 0, 1) := by decide +kernel
theorem dX11_readRight_131 : decode cX11_readRight 131 = .ok (.aload_n 0, 1) := by decide +kernel
theorem dX11_readRight_132 : decode cX11_readRight 132 = .ok (.invokevirtual 165, 3) := by decide +kernel
theorem dX11_readRight_135 : decode cX11_readRight 135 = .ok (.putfield 150, 3) := by decide +kernel
theorem dX11_readRight_138 : decode cX11_readRight 138 = .ok (.aload_n 0, 1) := by decide +kernel
theorem dX11_readRight_139 : decode cX11_readRight 139 = .ok (.getfield 150, 3) := by decide +kernel
theorem dX11_readRight_142 : decode cX11_readRight 142 = .ok (.iconst 0, 1) := by decide +kernel
theorem dX11_readRight_143 : decode cX11_readRight 143 = .ok (.bipush 20, 2) := by decide +kernel
theorem dX11_readRight_145 : decode cX11_readRight 145 = .ok (.invokestatic 102, 3) := by decide +kernel
theorem dX11_readRight_148 : decode cX11_readRight 148 = .ok (.ifCond .ne 8, 3) := by decide +kernel
theorem dX11_readRight_151 : decode cX11_readRight 151 = .ok (.aload_n 0, 1) := by decide +kernel
theorem dX11_readRight_152 : decode cX11_readRight 152 = .ok (.invokevirtual 171, 3) := by decide +kernel
theorem dX11_readRight_155 : decode cX11_readRight 155 = .ok (.ireturn, 1) := by decide +kernel
theorem dX11_readRight_156 : decode cX11_readRight 156 = .ok (.aload_n 0, 1) := by decide +kernel
theorem dX11_readRight_157 : decode cX11_readRight 157 = .ok (.invokevirtual 162, 3) := by decide +kernel
theorem dX11_readRight_160 : decode cX11_readRight 160 = .ok (.aload_n 0, 1) := by decide +kernel
theorem dX11_readRight_161 : decode cX11_readRight 161 = .ok (.bipush 97, 2) := by decide +kernel
theorem dX11_readRight_163 : decode cX11_readRight 163 = .ok (.bipush 110, 2) := by decide +kernel
theorem dX11_readRight_165 : decode cX11_readRight 165 = .ok (.bipush 100, 2) := by decide +kernel
theorem dX11_readRight_167 : decode cX11_readRight 167 = .ok (.iconst 0, 1) := by decide +kernel
theorem dX11_readRight_168 : decode cX11_readRight 168 = .ok (.invokevirtual 174, 3) := by decide +kernel
theorem dX11_readRight_171 : decode cX11_readRight 171 = .ok (.ifCond .ne 8, 3) := by decide +kernel
theorem dX11_readRight_174 : decode cX11_readRight 174 = .ok (.aload_n 0, 1) := by decide +kernel
theorem dX11_readRight_175 : decode cX11_readRight 175 = .ok (.invokevirtual 171, 3) := by decide +kernel
theorem dX11_readRight_178 : decode cX11_readRight 178 = .ok (.ireturn, 1) := by decide +kernel
theorem dX11_readRight_179 : decode cX11_readRight 179 = .ok (.aload_n 0, 1) := by decide +kernel
theorem dX11_readRight_180 : decode cX11_readRight 180 = .ok (.invokevirtual 162, 3) := by decide +kernel
theorem dX11_readRight_183 : decode cX11_readRight 183 = .ok (.aload_n 0, 1) := by decide +kernel
theorem dX11_readRight_184 : decode cX11_readRight 184 = .ok (.aload_n 0, 1) := by decide +kernel
theorem dX11_readRight_185 : decode cX11_readRight 185 = .ok (.invokevirtual 165, 3) := by decide +kernel
theorem dX11_readRight_188 : decode cX11_readRight 188 = .ok (.putfield 153, 3) := by decide +kernel
theorem dX11_readRight_191 : decode cX11_readRight 191 = .ok (.aload_n 0, 1) := by decide +kernel
theorem dX11_readRight_192 : decode cX11_readRight 192 = .ok (.getfield 153, 3) := by decide +kernel
theorem dX11_readRight_195 : decode cX11_readRight 195 = .ok (.iconst 1, 1) := by decide +kernel
theorem dX11_readRight_196 : decode cX11_readRight 196 = .ok (.bipush 9, 2) := by decide +kernel
theorem dX11_readRight_198 : decode cX11_readRight 198 = .ok (.invokestatic 102, 3) := by decide +kernel
theorem dX11_readRight_201 : decode cX11_readRight 201 = .ok (.ifCond .ne 8, 3) := by decide +kernel
theorem dX11_readRight_204 : decode cX11_readRight 204 = .ok (.aload_n 0, 1) := by decide +kernel
theorem dX11_readRight_205 : decode cX11_readRight 205 = .ok (.invokevirtual 171, 3) := by decide +kernel
theorem dX11_readRight_208 : decode cX11_readRight 208 = .ok (.ireturn, 1) := by decide +kernel
theorem dX11_readRight_209 : decode cX11_readRight 209 = .ok (.aload_n 0, 1) := by decide +kernel
theorem dX11_readRight_210 : decode cX11_readRight 210 = .ok (.invokevirtual 162, 3) := by decide +kernel
theorem dX11_readRight_213 : decode cX11_readRight 213 = .ok (.aload_n 0, 1) := by decide +kernel
theorem dX11_readRight_214 : decode cX11_readRight 214 = .ok (.bipush 108, 2) := by decide +kernel
theorem dX11_readRight_216 : decode cX11_readRight 216 = .ok (.bipush 111, 2) := by decide +kernel
theorem dX11_readRight_218 : decode cX11_readRight 218 = .ok (.bipush 110, 2) := by decide +kernel
theorem dX11_readRight_220 : decode cX11_readRight 220 = .ok (.bipush 103, 2) := by decide +kernel
theorem dX11_readRight_222 : decode cX11_readRight 222 = .ok (.invokevirtual 174, 3) := by decide +kernel
theorem dX11_readRight_225 : decode cX11_readRight 225 = .ok (.ifCond .eq 36, 3) := by decide +kernel
theorem dX11_readRight_228 : decode cX11_readRight 228 = .ok (.aload_n 0, 1) := by decide +kernel
theorem dX11_readRight_229 : decode cX11_readRight 229 = .ok (.invokevirtual 162, 3) := by decide +kernel
theorem dX11_readRight_232 : decode cX11_readRight 232 = .ok (.aload_n 0, 1) := by decide +kernel
theorem dX11_readRight_233 : decode cX11_readRight 233 = .ok (.aload_n 0, 1) := by decide +kernel
theorem dX11_readRight_234 : decode cX11_readRight 234 = .ok (.invokevirtual 165, 3) := by decide +kernel
theorem dX11_readRight_237 : decode cX11_readRight 237 = .ok (.putfield 156, 3) := by decide +kernel
theorem dX11_readRight_240 : decode cX11_readRight 240 = .ok (.aload_n 0, 1) := by decide +kernel
theorem dX11_readRight_241 : decode cX11_readRight 241 = .ok (.getfield 156, 3) := by decide +kernel
theorem dX11_readRight_244 : decode cX11_readRight 244 = .ok (.iconst 1, 1) := by decide +kernel
theorem dX11_readRight_245 : decode cX11_readRight 245 = .ok (.iconst 4, 1) := by decide +kernel
theorem dX11_readRight_246 : decode cX11_readRight 246 = .ok (.invokestatic 102, 3) := by decide +kernel
theorem dX11_readRight_249 : decode cX11_readRight 249 = .ok (.ifCond .ne 8, 3) := by decide +kernel
theorem dX11_readRight_252 : decode cX11_readRight 252 = .ok (.aload_n 0, 1) := by decide +kernel
theorem dX11_readRight_253 : decode cX11_readRight 253 = .ok (.invokevirtual 171, 3) := by decide +kernel
theorem dX11_readRight_256 : decode cX11_readRight 256 = .ok (.ireturn, 1) := by decide +kernel
theorem dX11_readRight_257 : decode cX11_readRight 257 = .ok (.aload_n 0, 1) := by decide +kernel
theorem dX11_readRight_258 : decode cX11_readRight 258 = .ok (.invokevirtual 162, 3) := by decide +kernel
theorem dX11_readRight_261 : decode cX11_readRight 261 = .ok (.aload_n 0, 1) := by decide +kernel
theorem dX11_readRight_262 : decode cX11_readRight 262 = .ok (.bipush 110, 2) := by decide +kernel
theorem dX11_readRight_264 : decode cX11_readRight 264 = .ok (.bipush 111, 2) := by decide +kernel
theorem dX11_readRight_266 : decode cX11_readRight 266 = .ok (.bipush 116, 2) := by decide +kernel
theorem dX11_readRight_268 : decode cX11_readRight 268 = .ok (.iconst 0, 1) := by decide +kernel
theorem dX11_readRight_269 : decode cX11_readRight 269 = .ok (.invokevirtual 174, 3) := by decide +kernel
theorem dX11_readRight_272 : decode cX11_readRight 272 = .ok (.istore_n 1, 1) := by decide +kernel
theorem dX11_readRight_273 : decode cX11_readRight 273 = .ok (.iconst 0, 1) := by decide +kernel
theorem dX11_readRight_274 : decode cX11_readRight 274 = .ok (.istore_n 2, 1) := by decide +kernel
theorem dX11_readRight_275 : decode cX11_readRight 275 = .ok (.iload_n 1, 1) := by decide +kernel
theorem dX11_readRight_276 : decode cX11_readRight 276 = .ok (.ifCond .eq 61, 3) := by decide +kernel
theorem dX11_readRight_279 : decode cX11_readRight 279 = .ok (.aload_n 0, 1) := by decide +kernel
theorem dX11_readRight_280 : decode cX11_readRight 280 = .ok (.invokevirtual 162, 3) := by decide +kernel
theorem dX11_readRight_283 : decode cX11_readRight 283 = .ok (.aload_n 0, 1) := by decide +kernel
theorem dX11_readRight_284 : decode cX11_readRight 284 = .ok (.invokevirtual 165, 3) := by decide +kernel
theorem dX11_readRight_287 : decode cX11_readRight 287 = .ok (.istore_n 3, 1) := by decide +kernel
theorem dX11_readRight_288 : decode cX11_readRight 288 = .ok (.iload_n 3, 1) := by decide +kernel
theorem dX11_readRight_289 : decode cX11_readRight 289 = .ok (.iload_n 2, 1) := by decide +kernel
theorem dX11_readRight_290 : decode cX11_readRight 290 = .ok (.bipush 6, 2) := by decide +kernel
theorem dX11_readRight_292 : decode cX11_readRight 292 = .ok (.invokestatic 102, 3) := by decide +kernel
theorem dX11_readRight_295 : decode cX11_readRight 295 = .ok (.ifCond .ne 8, 3) := by decide +kernel
theorem dX11_readRight_298 : decode cX11_readRight 298 = .ok (.aload_n 0, 1) := by decide +kernel
theorem dX11_readRight_299 : decode cX11_readRight 299 = .ok (.invokevirtual 171, 3) := by decide +kernel
theorem dX11_readRight_302 : decode cX11_readRight 302 = .ok (.ireturn, 1) := by decide +kernel
theorem dX11_readRight_303 : decode cX11_readRight 303 = .ok (.aload_n 0, 1) := by decide +kernel
theorem dX11_readRight_304 : decode cX11_readRight 304 = .ok (.dup, 1) := by decide +kernel
theorem dX11_readRight_305 : decode cX11_readRight 305 = .ok (.getfield 159, 3) := by decide +kernel
theorem dX11_readRight_308 : decode cX11_readRight 308 = .ok (.iconst 1, 1) := by decide +kernel
theorem dX11_readRight_309 : decode cX11_readRight 309 = .ok (.iload_n 3, 1) := by decide +kernel
theorem dX11_readRight_310 : decode cX11_readRight 310 = .ok (.ishl, 1) := by decide +kernel
theorem dX11_readRight_311 : decode cX11_readRight 311 = .ok (.ior, 1) := by decide +kernel
theorem dX11_readRight_312 : decode cX11_readRight 312 = .ok (.putfield 159, 3) := by decide +kernel
theorem dX11_readRight_315 : decode cX11_readRight 315 = .ok (.iload_n 3, 1) := by decide +kernel
theorem dX11_readRight_316 : decode cX11_readRight 316 = .ok (.iconst 1, 1) := by decide +kernel
theorem dX11_readRight_317 : decode cX11_readRight 317 = .ok (.iadd, 1) := by decide +kernel
theorem dX11_readRight_318 : decode cX11_readRight 318 = .ok (.istore_n 2, 1) := by decide +kernel
theorem dX11_readRight_319 : decode cX11_readRight 319 = .ok (.aload_n 0, 1) := by decide +kernel
theorem dX11_readRight_320 : decode cX11_readRight 320 = .ok (.invokevirtual 162, 3) := by decide +kernel
theorem dX11_readRight_323 : decode cX11_readRight 323 = .ok (.aload_n 0, 1) := by decide +kernel
theorem dX11_readRight_324 : decode cX11_readRight 324 = .ok (.bipush 111, 2) := by decide +kernel
theorem dX11_readRight_326 : decode cX11_readRight 326 = .ok (.bipush 114, 2) := by decide +kernel
theorem dX11_readRight_328 : decode cX11_readRight 328 = .ok (.iconst 0, 1) := by decide +kernel
theorem dX11_readRight_329 : decode cX11_readRight 329 = .ok (.iconst 0, 1) := by decide +kernel
theorem dX11_readRight_330 : decode cX11_readRight 330 = .ok (.invokevirtual 174, 3) := by decide +kernel
theorem dX11_readRight_333 : decode cX11_readRight 333 = .ok (.istore_n 1, 1) := by decide +kernel
theorem dX11_readRight_334 : decode cX11_readRight 334 = .ok (.goto (-59), 3) := by decide +kernel
theorem dX11_readRight_337 : decode cX11_readRight 337 = .ok (.aload_n 0, 1) := by decide +kernel
theorem dX11_readRight_338 : decode cX11_readRight 338 = .ok (.getfield 146, 3) := by decide +kernel
theorem dX11_readRight_341 : decode cX11_readRight 341 = .ok (.ifCond .ne 7, 3) := by decide +kernel
theorem dX11_readRight_344 : decode cX11_readRight 344 = .ok (.iconst (-1), 1) := by decide +kernel
theorem dX11_readRight_345 : decode cX11_readRight 345 = .ok (.goto 7, 3) := by decide +kernel
theorem dX11_readRight_348 : decode cX11_readRight 348 = .ok (.aload_n 0, 1) := by decide +kernel
theorem dX11_readRight_349 : decode cX11_readRight 349 = .ok (.getfield 143, 3) := by decide +kernel
theorem dX11_readRight_352 : decode cX11_readRight 352 = .ok (.ireturn, 1) := by decide +kernel
def ins_X11_readRight (pc : Nat) : HOp := cond (Nat.blt pc 180) (cond (Nat.blt pc 87) (cond (Nat.blt pc 42) (cond (Nat.blt pc 18) (cond (Nat.blt pc 8) (cond (Nat.blt pc 2) (cond (Nat.blt pc 1) (cond (Nat.beq pc 0) (o_aload 0 1) o_bad) (cond (Nat.beq pc 1) (o_const (0) 2) o_bad)) (cond (Nat.blt pc 5) (cond (Nat.beq pc 2) (o_putf 11 33 5) o_bad) (cond (Nat.blt pc 6) (cond (Nat.beq pc 5) (o_aload 0 6) o_bad) (cond (Nat.beq pc 6) (o_const (-1000000005) 8) o_bad)))) (cond (Nat.blt pc 13) (cond (Nat.blt pc 11) (cond (Nat.beq pc 8) (o_putf 11 38 11) o_bad) (cond (Nat.blt pc 12) (cond (Nat.beq pc 11) (o_aload 0 12) o_bad) (cond (Nat.beq pc 12) (o_const (0) 13) o_bad))) (cond (Nat.blt pc 16) (cond (Nat.beq pc 13) (o_putf 11 39 16) o_bad) (cond (Nat.blt pc 17) (cond (Nat.beq pc 16) (o_aload 0 17) o_bad) (cond (Nat.beq pc 17) (o_const (2) 18) o_bad))))) (cond (Nat.blt pc 30) (cond (Nat.blt pc 23) (cond (Nat.blt pc 21) (cond (Nat.beq pc 18) (o_putf 11 40 21) o_bad) (cond (Nat.blt pc 22) (cond (Nat.beq pc 21) (o_aload 0 22) o_bad) (cond (Nat.beq pc 22) (o_const (0) 23) o_bad))) (cond (Nat.blt pc 26) (cond (Nat.beq pc 23) (o_putf 11 41 26) o_bad) (cond (Nat.blt pc 27) (cond (Nat.beq pc 26) (o_aload 0 27) o_bad) (cond (Nat.beq pc 27) (o_callV 1 11 sp_X11_next 30) o_bad)))) (cond (Nat.blt pc 35) (cond (Nat.blt pc 31) (cond (Nat.beq pc 30) (o_aload 0 31) o_bad) (cond (Nat.blt pc 32) (cond (Nat.beq pc 31) (o_aload 0 32) o_bad) (cond (Nat.beq pc 32) (o_callV 1 11 sp_X11_number 35) o_bad))) (cond (Nat.blt pc 38) (cond (Nat.beq pc 35) (o_putf 11 36 38) o_bad) (cond (Nat.blt pc 39) (cond (Nat.beq pc 38) (o_aload 0 39) o_bad) (cond (Nat.beq pc 39) (o_getf 11 36 42) o_bad)))))) (cond (Nat.blt pc 65) (cond (Nat.blt pc 55) (cond (Nat.blt pc 48) (cond (Nat.blt pc 43) (cond (Nat.beq pc 42) (o_const (0) 43) o_bad) (cond (Nat.blt pc 45) (cond (Nat.beq pc 43) (o_const (50) 45) o_bad) (cond (Nat.beq pc 45) (o_callS 3 sp_X11_isIn 48) o_bad))) (cond (Nat.blt pc 51) (cond (Nat.beq pc 48) (o_if (fun x => x = 0) 51 56) o_bad) (cond (Nat.blt pc 52) (cond (Nat.beq pc 51) (o_aload 0 52) o_bad) (cond (Nat.beq pc 52) (o_callV 1 11 sp_X11_here 55) o_bad)))) (cond (Nat.blt pc 60) (cond (Nat.blt pc 56) (cond (Nat.beq pc 55) (o_iret) o_bad) (cond (Nat.blt pc 57) (cond (Nat.beq pc 56) (o_aload 0 57) o_bad) (cond (Nat.beq pc 57) (o_callV 1 11 sp_X11_next 60) o_bad))) (cond (Nat.blt pc 61) (cond (Nat.beq pc 60) (o_aload 0 61) o_bad) (cond (Nat.blt pc 63) (cond (Nat.beq pc 61) (o_const (105) 63) o_bad) (cond (Nat.beq pc 63) (o_const (110) 65) o_bad))))) (cond (Nat.blt pc 77) (cond (Nat.blt pc 70) (cond (Nat.blt pc 66) (cond (Nat.beq pc 65) (o_const (0) 66) o_bad) (cond (Nat.blt pc 67) (cond (Nat.beq pc 66) (o_const (0) 67) o_bad) (cond (Nat.beq pc 67) (o_callV 5 11 sp_X11_isWord 70) o_bad))) (cond (Nat.blt pc 73) (cond (Nat.beq pc 70) (o_if (fun x => x = 0) 73 78) o_bad) (cond (Nat.blt pc 74) (cond (Nat.beq pc 73) (o_aload 0 74) o_bad) (cond (Nat.beq pc 74) (o_callV 1 11 sp_X11_here 77) o_bad)))) (cond (Nat.blt pc 82) (cond (Nat.blt pc 78) (cond (Nat.beq pc 77) (o_iret) o_bad) (cond (Nat.blt pc 79) (cond (Nat.beq pc 78) (o_aload 0 79) o_bad) (cond (Nat.beq pc 79) (o_callV 1 11 sp_X11_next 82) o_bad))) (cond (Nat.blt pc 83) (cond (Nat.beq pc 82) (o_aload 0 83) o_bad) (cond (Nat.blt pc 84) (cond (Nat.beq pc 83) (o_aload 0 84) o_bad) (cond (Nat.beq pc 84) (o_callV 1 11 sp_X11_number 87) o_bad))))))) (cond (Nat.blt pc 132) (cond (Nat.blt pc 109) (cond (Nat.blt pc 97) (cond (Nat.blt pc 91) (cond (Nat.blt pc 90) (cond (Nat.beq pc 87) (o_putf 11 37 90) o_bad) (cond (Nat.beq pc 90) (o_aload 0 91) o_bad)) (cond (Nat.blt pc 94) (cond (Nat.beq pc 91) (o_getf 11 37 94) o_bad) (cond (Nat.blt pc 95) (cond (Nat.beq pc 94) (o_const (1) 95) o_bad) (cond (Nat.beq pc 95) (o_const (60) 97) o_bad)))) (cond (Nat.blt pc 104) (cond (Nat.blt pc 100) (cond (Nat.beq pc 97) (o_callS 3 sp_X11_isIn 100) o_bad) (cond (Nat.blt pc 103) (cond (Nat.beq pc 100) (o_if (fun x => x = 0) 103 108) o_bad) (cond (Nat.beq pc 103) (o_aload 0 104) o_bad))) (cond (Nat.blt pc 107) (cond (Nat.beq pc 104) (o_callV 1 11 sp_X11_here 107) o_bad) (cond (Nat.blt pc 108) (cond (Nat.beq pc 107) (o_iret) o_bad) (cond (Nat.beq pc 108) (o_aload 0 109) o_bad))))) (cond (Nat.blt pc 120) (cond (Nat.blt pc 115) (cond (Nat.blt pc 112) (cond (Nat.beq pc 109) (o_callV 1 11 sp_X11_next 112) o_bad) (cond (Nat.blt pc 113) (cond (Nat.beq pc 112) (o_aload 0 113) o_bad) (cond (Nat.beq pc 113) (o_const (102) 115) o_bad))) (cond (Nat.blt pc 117) (cond (Nat.beq pc 115) (o_const (97) 117) o_bad) (cond (Nat.blt pc 119) (cond (Nat.beq pc 117) (o_const (114) 119) o_bad) (cond (Nat.beq pc 119) (o_const (0) 120) o_bad)))) (cond (Nat.blt pc 127) (cond (Nat.blt pc 123) (cond (Nat.beq pc 120) (o_callV 5 11 sp_X11_isWord 123) o_bad) (cond (Nat.blt pc 126) (cond (Nat.beq pc 123) (o_if (fun x => x = 0) 213 126) o_bad) (cond (Nat.beq pc 126) (o_aload 0 127) o_bad))) (cond (Nat.blt pc 130) (cond (Nat.beq pc 127) (o_callV 1 11 sp_X11_next 130) o_bad) (cond (Nat.blt pc 131) (cond (Nat.beq pc 130) (o_aload 0 131) o_bad) (cond (Nat.beq pc 131) (o_aload 0 132) o_bad)))))) (cond (Nat.blt pc 157) (cond (Nat.blt pc 145) (cond (Nat.blt pc 139) (cond (Nat.blt pc 135) (cond (Nat.beq pc 132) (o_callV 1 11 sp_X11_number 135) o_bad) (cond (Nat.blt pc 138) (cond (Nat.beq pc 135) (o_putf 11 38 138) o_bad) (cond (Nat.beq pc 138) (o_aload 0 139) o_bad))) (cond (Nat.blt pc 142) (cond (Nat.beq pc 139) (o_getf 11 38 142) o_bad) (cond (Nat.blt pc 143) (cond (Nat.beq pc 142) (o_const (0) 143) o_bad) (cond (Nat.beq pc 143) (o_const (20) 145) o_bad)))) (cond (Nat.blt pc 152) (cond (Nat.blt pc 148) (cond (Nat.beq pc 145) (o_callS 3 sp_X11_isIn 148) o_bad) (cond (Nat.blt pc 151) (cond (Nat.beq pc 148) (o_if (fun x => x = 0) 151 156) o_bad) (cond (Nat.beq pc 151) (o_aload 0 152) o_bad))) (cond (Nat.blt pc 155) (cond (Nat.beq pc 152) (o_callV 1 11 sp_X11_here 155) o_bad) (cond (Nat.blt pc 156) (cond (Nat.beq pc 155) (o_iret) o_bad) (cond (Nat.beq pc 156) (o_aload 0 157) o_bad))))) (cond (Nat.blt pc 168) (cond (Nat.blt pc 163) (cond (Nat.blt pc 160) (cond (Nat.beq pc 157) (o_callV 1 11 sp_X11_next 160) o_bad) (cond (Nat.blt pc 161) (cond (Nat.beq pc 160) (o_aload 0 161) o_bad) (cond (Nat.beq pc 161) (o_const (97) 163) o_bad))) (cond (Nat.blt pc 165) (cond (Nat.beq pc 163) (o_const (110) 165) o_bad) (cond (Nat.blt pc 167) (cond (Nat.beq pc 165) (o_const (100) 167) o_bad) (cond (Nat.beq pc 167) (o_const (0) 168) o_bad)))) (cond (Nat.blt pc 175) (cond (Nat.blt pc 171) (cond (Nat.beq pc 168) (o_callV 5 11 sp_X11_isWord 171) o_bad) (cond (Nat.blt pc 174) (cond (Nat.beq pc 171) (o_if (fun x => x = 0) 174 179) o_bad) (cond (Nat.beq pc 174) (o_aload 0 175) o_bad))) (cond (Nat.blt pc 178) (cond (Nat.beq pc 175) (o_callV 1 11 sp_X11_here 178) o_bad) (cond (Nat.blt pc 179) (cond (Nat.beq pc 178) (o_iret) o_bad) (cond (Nat.beq pc 179) (o_aload 0 180) o_bad)))))))) (cond (Nat.blt pc 273) (cond (Nat.blt pc 228) (cond (Nat.blt pc 204) (cond (Nat.blt pc 191) (cond (Nat.blt pc 184) (cond (Nat.blt pc 183) (cond (Nat.beq pc 180) (o_callV 1 11 sp_X11_next 183) o_bad) (cond (Nat.beq pc 183) (o_aload 0 184) o_bad)) (cond (Nat.blt pc 185) (cond (Nat.beq pc 184) (o_aload 0 185) o_bad) (cond (Nat.blt pc 188) (cond (Nat.beq pc 185) (o_callV 1 11 sp_X11_number 188) o_bad) (cond (Nat.beq pc 188) (o_putf 11 39 191) o_bad)))) (cond (Nat.blt pc 196) (cond (Nat.blt pc 192) (cond (Nat.beq pc 191) (o_aload 0 192) o_bad) (cond (Nat.blt pc 195) (cond (Nat.beq pc 192) (o_getf 11 39 195) o_bad) (cond (Nat.beq pc 195) (o_const (1) 196) o_bad))) (cond (Nat.blt pc 198) (cond (Nat.beq pc 196) (o_const (9) 198) o_bad) (cond (Nat.blt pc 201) (cond (Nat.beq pc 198) (o_callS 3 sp_X11_isIn 201) o_bad) (cond (Nat.beq pc 201) (o_if (fun x => x = 0) 204 209) o_bad))))) (cond (Nat.blt pc 214) (cond (Nat.blt pc 209) (cond (Nat.blt pc 205) (cond (Nat.beq pc 204) (o_aload 0 205) o_bad) (cond (Nat.blt pc 208) (cond (Nat.beq pc 205) (o_callV 1 11 sp_X11_here 208) o_bad) (cond (Nat.beq pc 208) (o_iret) o_bad))) (cond (Nat.blt pc 210) (cond (Nat.beq pc 209) (o_aload 0 210) o_bad) (cond (Nat.blt pc 213) (cond (Nat.beq pc 210) (o_callV 1 11 sp_X11_next 213) o_bad) (cond (Nat.beq pc 213) (o_aload 0 214) o_bad)))) (cond (Nat.blt pc 220) (cond (Nat.blt pc 216) (cond (Nat.beq pc 214) (o_const (108) 216) o_bad) (cond (Nat.blt pc 218) (cond (Nat.beq pc 216) (o_const (111) 218) o_bad) (cond (Nat.beq pc 218) (o_const (110) 220) o_bad))) (cond (Nat.blt pc 222) (cond (Nat.beq pc 220) (o_const (103) 222) o_bad) (cond (Nat.blt pc 225) (cond (Nat.beq pc 222) (o_callV 5 11 sp_X11_isWord 225) o_bad) (cond (Nat.beq pc 225) (o_if (fun x => x = 0) 261 228) o_bad)))))) (cond (Nat.blt pc 252) (cond (Nat.blt pc 240) (cond (Nat.blt pc 233) (cond (Nat.blt pc 229) (cond (Nat.beq pc 228) (o_aload 0 229) o_bad) (cond (Nat.blt pc 232) (cond (Nat.beq pc 229) (o_callV 1 11 sp_X11_next 232) o_bad) (cond (Nat.beq pc 232) (o_aload 0 233) o_bad))) (cond (Nat.blt pc 234) (cond (Nat.beq pc 233) (o_aload 0 234) o_bad) (cond (Nat.blt pc 237) (cond (Nat.beq pc 234) (o_callV 1 11 sp_X11_number 237) o_bad) (cond (Nat.beq pc 237) (o_putf 11 40 240) o_bad)))) (cond (Nat.blt pc 245) (cond (Nat.blt pc 241) (cond (Nat.beq pc 240) (o_aload 0 241) o_bad) (cond (Nat.blt pc 244) (cond (Nat.beq pc 241) (o_getf 11 40 244) o_bad) (cond (Nat.beq pc 244) (o_const (1) 245) o_bad))) (cond (Nat.blt pc 246) (cond (Nat.beq pc 245) (o_const (4) 246) o_bad) (cond (Nat.blt pc 249) (cond (Nat.beq pc 246) (o_callS 3 sp_X11_isIn 249) o_bad) (cond (Nat.beq pc 249) (o_if (fun x => x = 0) 252 257) o_bad))))) (cond (Nat.blt pc 262) (cond (Nat.blt pc 257) (cond (Nat.blt pc 253) (cond (Nat.beq pc 252) (o_aload 0 253) o_bad) (cond (Nat.blt pc 256) (cond (Nat.beq pc 253) (o_callV 1 11 sp_X11_here 256) o_bad) (cond (Nat.beq pc 256) (o_iret) o_bad))) (cond (Nat.blt pc 258) (cond (Nat.beq pc 257) (o_aload 0 258) o_bad) (cond (Nat.blt pc 261) (cond (Nat.beq pc 258) (o_callV 1 11 sp_X11_next 261) o_bad) (cond (Nat.beq pc 261) (o_aload 0 262) o_bad)))) (cond (Nat.blt pc 268) (cond (Nat.blt pc 264) (cond (Nat.beq pc 262) (o_const (110) 264) o_bad) (cond (Nat.blt pc 266) (cond (Nat.beq pc 264) (o_const (111) 266) o_bad) (cond (Nat.beq pc 266) (o_const (116) 268) o_bad))) (cond (Nat.blt pc 269) (cond (Nat.beq pc 268) (o_const (0) 269) o_bad) (cond (Nat.blt pc 272) (cond (Nat.beq pc 269) (o_callV 5 11 sp_X11_isWord 272) o_bad) (cond (Nat.beq pc 272) (o_istore 1 273) o_bad))))))) (cond (Nat.blt pc 311) (cond (Nat.blt pc 290) (cond (Nat.blt pc 280) (cond (Nat.blt pc 275) (cond (Nat.blt pc 274) (cond (Nat.beq pc 273) (o_const (0) 274) o_bad) (cond (Nat.beq pc 274) (o_istore 2 275) o_bad)) (cond (Nat.blt pc 276) (cond (Nat.beq pc 275) (o_iload 1 276) o_bad) (cond (Nat.blt pc 279) (cond (Nat.beq pc 276) (o_if (fun x => x = 0) 337 279) o_bad) (cond (Nat.beq pc 279) (o_aload 0 280) o_bad)))) (cond (Nat.blt pc 287) (cond (Nat.blt pc 283) (cond (Nat.beq pc 280) (o_callV 1 11 sp_X11_next 283) o_bad) (cond (Nat.blt pc 284) (cond (Nat.beq pc 283) (o_aload 0 284) o_bad) (cond (Nat.beq pc 284) (o_callV 1 11 sp_X11_number 287) o_bad))) (cond (Nat.blt pc 288) (cond (Nat.beq pc 287) (o_istore 3 288) o_bad) (cond (Nat.blt pc 289) (cond (Nat.beq pc 288) (o_iload 3 289) o_bad) (cond (Nat.beq pc 289) (o_iload 2 290) o_bad))))) (cond (Nat.blt pc 303) (cond (Nat.blt pc 298) (cond (Nat.blt pc 292) (cond (Nat.beq pc 290) (o_const (6) 292) o_bad) (cond (Nat.blt pc 295) (cond (Nat.beq pc 292) (o_callS 3 sp_X11_isIn 295) o_bad) (cond (Nat.beq pc 295) (o_if (fun x => x = 0) 298 303) o_bad))) (cond (Nat.blt pc 299) (cond (Nat.beq pc 298) (o_aload 0 299) o_bad) (cond (Nat.blt pc 302) (cond (Nat.beq pc 299) (o_callV 1 11 sp_X11_here 302) o_bad) (cond (Nat.beq pc 302) (o_iret) o_bad)))) (cond (Nat.blt pc 308) (cond (Nat.blt pc 304) (cond (Nat.beq pc 303) (o_aload 0 304) o_bad) (cond (Nat.blt pc 305) (cond (Nat.beq pc 304) (o_dup 305) o_bad) (cond (Nat.beq pc 305) (o_getf 11 41 308) o_bad))) (cond (Nat.blt pc 309) (cond (Nat.beq pc 308) (o_const (1) 309) o_bad) (cond (Nat.blt pc 310) (cond (Nat.beq pc 309) (o_iload 3 310) o_bad) (cond (Nat.beq pc 310) (o_bin (fun x y => x <<< (y &&& 31)) 311) o_bad)))))) (cond (Nat.blt pc 329) (cond (Nat.blt pc 319) (cond (Nat.blt pc 316) (cond (Nat.blt pc 312) (cond (Nat.beq pc 311) (o_bin (fun x y => x ||| y) 312) o_bad) (cond (Nat.blt pc 315) (cond (Nat.beq pc 312) (o_putf 11 41 315) o_bad) (cond (Nat.beq pc 315) (o_iload 3 316) o_bad))) (cond (Nat.blt pc 317) (cond (Nat.beq pc 316) (o_const (1) 317) o_bad) (cond (Nat.blt pc 318) (cond (Nat.beq pc 317) (o_bin (fun x y => x + y) 318) o_bad) (cond (Nat.beq pc 318) (o_istore 2 319) o_bad)))) (cond (Nat.blt pc 324) (cond (Nat.blt pc 320) (cond (Nat.beq pc 319) (o_aload 0 320) o_bad) (cond (Nat.blt pc 323) (cond (Nat.beq pc 320) (o_callV 1 11 sp_X11_next 323) o_bad) (cond (Nat.beq pc 323) (o_aload 0 324) o_bad))) (cond (Nat.blt pc 326) (cond (Nat.beq pc 324) (o_const (111) 326) o_bad) (cond (Nat.blt pc 328) (cond (Nat.beq pc 326) (o_const (114) 328) o_bad) (cond (Nat.beq pc 328) (o_const (0) 329) o_bad))))) (cond (Nat.blt pc 341) (cond (Nat.blt pc 334) (cond (Nat.blt pc 330) (cond (Nat.beq pc 329) (o_const (0) 330) o_bad) (cond (Nat.blt pc 333) (cond (Nat.beq pc 330) (o_callV 5 11 sp_X11_isWord 333) o_bad) (cond (Nat.beq pc 333) (o_istore 1 334) o_bad))) (cond (Nat.blt pc 337) (cond (Nat.beq pc 334) (o_goto 275) o_bad) (cond (Nat.blt pc 338) (cond (Nat.beq pc 337) (o_aload 0 338) o_bad) (cond (Nat.beq pc 338) (o_getf 11 35 341) o_bad)))) (cond (Nat.blt pc 348) (cond (Nat.blt pc 344) (cond (Nat.beq pc 341) (o_if (fun x => x = 0) 344 348) o_bad) (cond (Nat.blt pc 345) (cond (Nat.beq pc 344) (o_const (-1) 345) o_bad) (cond (Nat.beq pc 345) (o_goto 352) o_bad))) (cond (Nat.blt pc 349) (cond (Nat.beq pc 348) (o_aload 0 349) o_bad) (cond (Nat.blt pc 352) (cond (Nat.beq pc 349) (o_getf 11 34 352) o_bad) (cond (Nat.beq pc 352) (o_iret) o_bad))))))))
set_option maxRecDepth 20000 in
theorem ok_X11_readRight : HOKs cX11_readRight RX11 4 (some .int) 3 ins_X11_readRight := fun _ => hnd (hnd (hnd (hnd (hnd (hnd (hnd (hlf (ok_aload_n dX11_readRight_0 rfl rfl)) (hlf (ok_iconst dX11_readRight_1 (by decide) rfl))) (hnd (hlf (ok_putf (C := RX11) (T := TX11) dX11_readRight_2 rfl rfl (by decide) rfl inX11 tyX11_ok nmX11 rfl rfl (fun _ _ => rfl) wd_910 rfl)) (hnd (hlf (ok_aload_n dX11_readRight_5 rfl rfl)) (hlf (ok_ldc dX11_readRight_6 wd_1084 rfl))))) (hnd (hnd (hlf (ok_putf (C := RX11) (T := TX11) dX11_readRight_8 rfl rfl (by decide) rfl inX11 tyX11_ok nmX11 rfl rfl (fun _ _ => rfl) wd_915 rfl)) (hnd (hlf (ok_aload_n dX11_readRight_11 rfl rfl)) (hlf (ok_iconst dX11_readRight_12 (by decide) rfl)))) (hnd (hlf (ok_putf (C := RX11) (T := TX11) dX11_readRight_13 rfl rfl (by decide) rfl inX11 tyX11_ok nmX11 rfl rfl (fun _ _ => rfl) wd_916 rfl)) (hnd (hlf (ok_aload_n dX11_readRight_16 rfl rfl)) (hlf (ok_iconst dX11_readRight_17 (by decide) rfl)))))) (hnd (hnd (hnd (hlf (ok_putf (C := RX11) (T := TX11) dX11_readRight_18 rfl rfl (by decide) rfl inX11 tyX11_ok nmX11 rfl rfl (fun _ _ => rfl) wd_917 rfl)) (hnd (hlf (ok_aload_n dX11_readRight_21 rfl rfl)) (hlf (ok_iconst dX11_readRight_22 (by decide) rfl)))) (hnd (hlf (ok_putf (C := RX11) (T := TX11) dX11_readRight_23 rfl rfl (by decide) rfl inX11 tyX11_ok nmX11 rfl rfl (fun _ _ => rfl) wd_918 rfl)) (hnd (hlf (ok_aload_n dX11_readRight_26 rfl rfl)) (hlf (ok_callV (y := yX11_next) (n' := 0) (C := RX11) (T := TX11) dX11_readRight_27 ct_X11_next (by decide) (by decide) wd_1140 wd_1137 wd_1139 wd_34 wd_50 rfl (by decide +kernel) rfl rfl rfl))))) (hnd (hnd (hlf (ok_aload_n dX11_readRight_30 rfl rfl)) (hnd (hlf (ok_aload_n dX11_readRight_31 rfl rfl)) (hlf (ok_callV (y := yX11_number) (n' := 0) (C := RX11) (T := TX11) dX11_readRight_32 ct_X11_number (by decide) (by decide) wd_1144 wd_1141 wd_1143 wd_35 wd_50 rfl (by decide +kernel) rfl rfl rfl)))) (hnd (hlf (ok_putf (C := RX11) (T := TX11) dX11_readRight_35 rfl rfl (by decide) rfl inX11 tyX11_ok nmX11 rfl rfl (fun _ _ => rfl) wd_913 rfl)) (hnd (hlf (ok_aload_n dX11_readRight_38 rfl rfl)) (hlf (ok_getf (C := RX11) (T := TX11) dX11_readRight_39 rfl rfl (by decide) rfl inX11 wd_913 rfl))))))) (hnd (hnd (hnd (hnd (hlf (ok_iconst dX11_readRight_42 (by decide) rfl)) (hnd (hlf (ok_bipush dX11_readRight_43 (by decide) rfl)) (hlf (ok_callS (y := yX11_isIn) dX11_readRight_45 ct_X11_isIn (by decide) (by decide) wd_1017 wd_1015 wd_1016 wd_50 (by decide +kernel) rfl)))) (hnd (hlf (ok_if_ne dX11_readRight_48 (by decide) rfl)) (hnd (hlf (ok_aload_n dX11_readRight_51 rfl rfl)) (hlf (ok_callV (y := yX11_here) (n' := 0) (C := RX11) (T := TX11) dX11_readRight_52 ct_X11_here (by decide) (by decide) wd_1148 wd_1145 wd_1147 wd_36 wd_50 rfl (by decide +kernel) rfl rfl rfl))))) (hnd (hnd (hlf (ok_iret dX11_readRight_55)) (hnd (hlf (ok_aload_n dX11_readRight_56 rfl rfl)) (hlf (ok_callV (y := yX11_next) (n' := 0) (C := RX11) (T := TX11) dX11_readRight_57 ct_X11_next (by decide) (by decide) wd_1140 wd_1137 wd_1139 wd_34 wd_50 rfl (by decide +kernel) rfl rfl rfl)))) (hnd (hlf (ok_aload_n dX11_readRight_60 rfl rfl)) (hnd (hlf (ok_bipush dX11_readRight_61 (by decide) rfl)) (hlf (ok_bipush dX11_readRight_63 (by decide) rfl)))))) (hnd (hnd (hnd (hlf (ok_iconst dX11_readRight_65 (by decide) rfl)) (hnd (hlf (ok_iconst dX11_readRight_66 (by decide) rfl)) (hlf (ok_callV (y := yX11_isWord) (n' := 4) (C := RX11) (T := TX11) dX11_readRight_67 ct_X11_isWord (by decide) (by decide) wd_1152 wd_1149 wd_1151 wd_37 wd_50 rfl (by decide +kernel) rfl rfl rfl)))) (hnd (hlf (ok_if_ne dX11_readRight_70 (by decide) rfl)) (hnd (hlf (ok_aload_n dX11_readRight_73 rfl rfl)) (hlf (ok_callV (y := yX11_here) (n' := 0) (C := RX11) (T := TX11) dX11_readRight_74 ct_X11_here (by decide) (by decide) wd_1148 wd_1145 wd_1147 wd_36 wd_50 rfl (by decide +kernel) rfl rfl rfl))))) (hnd (hnd (hlf (ok_iret dX11_readRight_77)) (hnd (hlf (ok_aload_n dX11_readRight_78 rfl rfl)) (hlf (ok_callV (y := yX11_next) (n' := 0) (C := RX11) (T := TX11) dX11_readRight_79 ct_X11_next (by decide) (by decide) wd_1140 wd_1137 wd_1139 wd_34 wd_50 rfl (by decide +kernel) rfl rfl rfl)))) (hnd (hlf (ok_aload_n dX11_readRight_82 rfl rfl)) (hnd (hlf (ok_aload_n dX11_readRight_83 rfl rfl)) (hlf (ok_callV (y := yX11_number) (n' := 0) (C := RX11) (T := TX11) dX11_readRight_84 ct_X11_number (by decide) (by decide) wd_1144 wd_1141 wd_1143 wd_35 wd_50 rfl (by decide +kernel) rfl rfl rfl)))))))) (hnd (hnd (hnd (hnd (hnd (hlf (ok_putf (C := RX11) (T := TX11) dX11_readRight_87 rfl rfl (by decide) rfl inX11 tyX11_ok nmX11 rfl rfl (fun _ _ => rfl) wd_914 rfl)) (hlf (ok_aload_n dX11_readRight_90 rfl rfl))) (hnd (hlf (ok_getf (C := RX11) (T := TX11) dX11_readRight_91 rfl rfl (by decide) rfl inX11 wd_914 rfl)) (hnd (hlf (ok_iconst dX11_readRight_94 (by decide) rfl)) (hlf (ok_bipush dX11_readRight_95 (by decide) rfl))))) (hnd (hnd (hlf (ok_callS (y := yX11_isIn) dX11_readRight_97 ct_X11_isIn (by decide) (by decide) wd_1017 wd_1015 wd_1016 wd_50 (by decide +kernel) rfl)) (hnd (hlf (ok_if_ne dX11_readRight_100 (by decide) rfl)) (hlf (ok_aload_n dX11_readRight_103 rfl rfl)))) (hnd (hlf (ok_callV (y := yX11_here) (n' := 0) (C := RX11) (T := TX11) dX11_readRight_104 ct_X11_here (by decide) (by decide) wd_1148 wd_1145 wd_1147 wd_36 wd_50 rfl (by decide +kernel) rfl rfl rfl)) (hnd (hlf (ok_iret dX11_readRight_107)) (hlf (ok_aload_n dX11_readRight_108 rfl rfl)))))) (hnd (hnd (hnd (hlf (ok_callV (y := yX11_next) (n' := 0) (C := RX11) (T := TX11) dX11_readRight_109 ct_X11_next (by decide) (by decide) wd_1140 wd_1137 wd_1139 wd_34 wd_50 rfl (by decide +kernel) rfl rfl rfl)) (hnd (hlf (ok_aload_n dX11_readRight_112 rfl rfl)) (hlf (ok_bipush dX11_readRight_113 (by decide) rfl)))) (hnd (hlf (ok_bipush dX11_readRight_115 (by decide) rfl)) (hnd (hlf (ok_bipush dX11_readRight_117 (by decide) rfl)) (hlf (ok_iconst dX11_readRight_119 (by decide) rfl))))) (hnd (hnd (hlf (ok_callV (y := yX11_isWord) (n' := 4) (C := RX11) (T := TX11) dX11_readRight_120 ct_X11_isWord (by decide) (by decide) wd_1152 wd_1149 wd_1151 wd_37 wd_50 rfl (by decide +kernel) rfl rfl rfl)) (hnd (hlf (ok_if_eq dX11_readRight_123 (by decide) rfl)) (hlf (ok_aload_n dX11_readRight_126 rfl rfl)))) (hnd (hlf (ok_callV (y := yX11_next) (n' := 0) (C := RX11) (T := TX11) dX11_readRight_127 ct_X11_next (by decide) (by decide) wd_1140 wd_1137 wd_1139 wd_34 wd_50 rfl (by decide +kernel) rfl rfl rfl)) (hnd (hlf (ok_aload_n dX11_readRight_130 rfl rfl)) (hlf (ok_aload_n dX11_readRight_131 rfl rfl))))))) (hnd (hnd (hnd (hnd (hlf (ok_callV (y := yX11_number) (n' := 0) (C := RX11) (T := TX11) dX11_readRight_132 ct_X11_number (by decide) (by decide) wd_1144 wd_1141 wd_1143 wd_35 wd_50 rfl (by decide +kernel) rfl rfl rfl)) (hnd (hlf (ok_putf (C := RX11) (T := TX11) dX11_readRight_135 rfl rfl (by decide) rfl inX11 tyX11_ok nmX11 rfl rfl (fun _ _ => rfl) wd_915 rfl)) (hlf (ok_aload_n dX11_readRight_138 rfl rfl)))) (hnd (hlf (ok_getf (C := RX11) (T := TX11) dX11_readRight_139 rfl rfl (by decide) rfl inX11 wd_915 rfl)) (hnd (hlf (ok_iconst dX11_readRight_142 (by decide) rfl)) (hlf (ok_bipush dX11_readRight_143 (by decide) rfl))))) (hnd (hnd (hlf (ok_callS (y := yX11_isIn) dX11_readRight_145 ct_X11_isIn (by decide) (by decide) wd_1017 wd_1015 wd_1016 wd_50 (by decide +kernel) rfl)) (hnd (hlf (ok_if_ne dX11_readRight_148 (by decide) rfl)) (hlf (ok_aload_n dX11_readRight_151 rfl rfl)))) (hnd (hlf (ok_callV (y := yX11_here) (n' := 0) (C := RX11) (T := TX11) dX11_readRight_152 ct_X11_here (by decide) (by decide) wd_1148 wd_1145 wd_1147 wd_36 wd_50 rfl (by decide +kernel) rfl rfl rfl)) (hnd (hlf (ok_iret dX11_readRight_155)) (hlf (ok_aload_n dX11_readRight_156 rfl rfl)))))) (hnd (hnd (hnd (hlf (ok_callV (y := yX11_next) (n' := 0) (C := RX11) (T := TX11) dX11_readRight_157 ct_X11_next (by decide) (by decide) wd_1140 wd_1137 wd_1139 wd_34 wd_50 rfl (by decide +kernel) rfl rfl rfl)) (hnd (hlf (ok_aload_n dX11_readRight_160 rfl rfl)) (hlf (ok_bipush dX11_readRight_161 (by decide) rfl)))) (hnd (hlf (ok_bipush dX11_readRight_163 (by decide) rfl)) (hnd (hlf (ok_bipush dX11_readRight_165 (by decide) rfl)) (hlf (ok_iconst dX11_readRight_167 (by decide) rfl))))) (hnd (hnd (hlf (ok_callV (y := yX11_isWord) (n' := 4) (C := RX11) (T := TX11) dX11_readRight_168 ct_X11_isWord (by decide) (by decide) wd_1152 wd_1149 wd_1151 wd_37 wd_50 rfl (by decide +kernel) rfl rfl rfl)) (hnd (hlf (ok_if_ne dX11_readRight_171 (by decide) rfl)) (hlf (ok_aload_n dX11_readRight_174 rfl rfl)))) (hnd (hlf (ok_callV (y := yX11_here) (n' := 0) (C := RX11) (T := TX11) dX11_readRight_175 ct_X11_here (by decide) (by decide) wd_1148 wd_1145 wd_1147 wd_36 wd_50 rfl (by decide +kernel) rfl rfl rfl)) (hnd (hlf (ok_iret dX11_readRight_178)) (hlf (ok_aload_n dX11_readRight_179 rfl rfl))))))))) (hnd (hnd (hnd (hnd (hnd (hnd (hlf (ok_callV (y := yX11_next) (n' := 0) (C := RX11) (T := TX11) dX11_readRight_180 ct_X11_next (by decide) (by decide) wd_1140 wd_1137 wd_1139 wd_34 wd_50 rfl (by decide +kernel) rfl rfl rfl)) (hlf (ok_aload_n dX11_readRight_183 rfl rfl))) (hnd (hlf (ok_aload_n dX11_readRight_184 rfl rfl)) (hnd (hlf (ok_callV (y := yX11_number) (n' := 0) (C := RX11) (T := TX11) dX11_readRight_185 ct_X11_number (by decide) (by decide) wd_1144 wd_1141 wd_1143 wd_35 wd_50 rfl (by decide +kernel) rfl rfl rfl)) (hlf (ok_putf (C := RX11) (T := TX11) dX11_readRight_188 rfl rfl (by decide) rfl inX11 tyX11_ok nmX11 rfl rfl (fun _ _ => rfl) wd_916 rfl))))) (hnd (hnd (hlf (ok_aload_n dX11_readRight_191 rfl rfl)) (hnd (hlf (ok_getf (C := RX11) (T := TX11) dX11_readRight_192 rfl rfl (by decide) rfl inX11 wd_916 rfl)) (hlf (ok_iconst dX11_readRight_195 (by decide) rfl)))) (hnd (hlf (ok_bipush dX11_readRight_196 (by decide) rfl)) (hnd (hlf (ok_callS (y := yX11_isIn) dX11_readRight_198 ct_X11_isIn (by decide) (by decide) wd_1017 wd_1015 wd_1016 wd_50 (by decide +kernel) rfl)) (hlf (ok_if_ne dX11_readRight_201 (by decide) rfl)))))) (hnd (hnd (hnd (hlf (ok_aload_n dX11_readRight_204 rfl rfl)) (hnd (hlf (ok_callV (y := yX11_here) (n' := 0) (C := RX11) (T := TX11) dX11_readRight_205 ct_X11_here (by decide) (by decide) wd_1148 wd_1145 wd_1147 wd_36 wd_50 rfl (by decide +kernel) rfl rfl rfl)) (hlf (ok_iret dX11_readRight_208)))) (hnd (hlf (ok_aload_n dX11_readRight_209 rfl rfl)) (hnd (hlf (ok_callV (y := yX11_next) (n' := 0) (C := RX11) (T := TX11) dX11_readRight_210 ct_X11_next (by decide) (by decide) wd_1140 wd_1137 wd_1139 wd_34 wd_50 rfl (by decide +kernel) rfl rfl rfl)) (hlf (ok_aload_n dX11_readRight_213 rfl rfl))))) (hnd (hnd (hlf (ok_bipush dX11_readRight_214 (by decide) rfl)) (hnd (hlf (ok_bipush dX11_readRight_216 (by decide) rfl)) (hlf (ok_bipush dX11_readRight_218 (by decide) rfl)))) (hnd (hlf (ok_bipush dX11_readRight_220 (by decide) rfl)) (hnd (hlf (ok_callV (y := yX11_isWord) (n' := 4) (C := RX11) (T := TX11) dX11_readRight_222 ct_X11_isWord (by decide) (by decide) wd_1152 wd_1149 wd_1151 wd_37 wd_50 rfl (by decide +kernel) rfl rfl rfl)) (hlf (ok_if_eq dX11_readRight_225 (by decide) rfl))))))) (hnd (hnd (hnd (hnd (hlf (ok_aload_n dX11_readRight_228 rfl rfl)) (hnd (hlf (ok_callV (y := yX11_next) (n' := 0) (C := RX11) (T := TX11) dX11_readRight_229 ct_X11_next (by decide) (by decide) wd_1140 wd_1137 wd_1139 wd_34 wd_50 rfl (by decide +kernel) rfl rfl rfl)) (hlf (ok_aload_n dX11_readRight_232 rfl rfl)))) (hnd (hlf (ok_aload_n dX11_readRight_233 rfl rfl)) (hnd (hlf (ok_callV (y := yX11_number) (n' := 0) (C := RX11) (T := TX11) dX11_readRight_234 ct_X11_number (by decide) (by decide) wd_1144 wd_1141 wd_1143 wd_35 wd_50 rfl (by decide +kernel) rfl rfl rfl)) (hlf (ok_putf (C := RX11) (T := TX11) dX11_readRight_237 rfl rfl (by decide) rfl inX11 tyX11_ok nmX11 rfl rfl (fun _ _ => rfl) wd_917 rfl))))) (hnd (hnd (hlf (ok_aload_n dX11_readRight_240 rfl rfl)) (hnd (hlf (ok_getf (C := RX11) (T := TX11) dX11_readRight_241 rfl rfl (by decide) rfl inX11 wd_917 rfl)) (hlf (ok_iconst dX11_readRight_244 (by decide) rfl)))) (hnd (hlf (ok_iconst dX11_readRight_245 (by decide) rfl)) (hnd (hlf (ok_callS (y := yX11_isIn) dX11_readRight_246 ct_X11_isIn (by decide) (by decide) wd_1017 wd_1015 wd_1016 wd_50 (by decide +kernel) rfl)) (hlf (ok_if_ne dX11_readRight_249 (by decide) rfl)))))) (hnd (hnd (hnd (hlf (ok_aload_n dX11_readRight_252 rfl rfl)) (hnd (hlf (ok_callV (y := yX11_here) (n' := 0) (C := RX11) (T := TX11) dX11_readRight_253 ct_X11_here (by decide) (by decide) wd_1148 wd_1145 wd_1147 wd_36 wd_50 rfl (by decide +kernel) rfl rfl rfl)) (hlf (ok_iret dX11_readRight_256)))) (hnd (hlf (ok_aload_n dX11_readRight_257 rfl rfl)) (hnd (hlf (ok_callV (y := yX11_next) (n' := 0) (C := RX11) (T := TX11) dX11_readRight_258 ct_X11_next (by decide) (by decide) wd_1140 wd_1137 wd_1139 wd_34 wd_50 rfl (by decide +kernel) rfl rfl rfl)) (hlf (ok_aload_n dX11_readRight_261 rfl rfl))))) (hnd (hnd (hlf (ok_bipush dX11_readRight_262 (by decide) rfl)) (hnd (hlf (ok_bipush dX11_readRight_264 (by decide) rfl)) (hlf (ok_bipush dX11_readRight_266 (by decide) rfl)))) (hnd (hlf (ok_iconst dX11_readRight_268 (by decide) rfl)) (hnd (hlf (ok_callV (y := yX11_isWord) (n' := 4) (C := RX11) (T := TX11) dX11_readRight_269 ct_X11_isWord (by decide) (by decide) wd_1152 wd_1149 wd_1151 wd_37 wd_50 rfl (by decide +kernel) rfl rfl rfl)) (hlf (ok_istore_n dX11_readRight_272 rfl (by decide) rfl)))))))) (hnd (hnd (hnd (hnd (hnd (hlf (ok_iconst dX11_readRight_273 (by decide) rfl)) (hlf (ok_istore_n dX11_readRight_274 rfl (by decide) rfl))) (hnd (hlf (ok_iload_n dX11_readRight_275 rfl rfl)) (hnd (hlf (ok_if_eq dX11_readRight_276 (by decide) rfl)) (hlf (ok_aload_n dX11_readRight_279 rfl rfl))))) (hnd (hnd (hlf (ok_callV (y := yX11_next) (n' := 0) (C := RX11) (T := TX11) dX11_readRight_280 ct_X11_next (by decide) (by decide) wd_1140 wd_1137 wd_1139 wd_34 wd_50 rfl (by decide +kernel) rfl rfl rfl)) (hnd (hlf (ok_aload_n dX11_readRight_283 rfl rfl)) (hlf (ok_callV (y := yX11_number) (n' := 0) (C := RX11) (T := TX11) dX11_readRight_284 ct_X11_number (by decide) (by decide) wd_1144 wd_1141 wd_1143 wd_35 wd_50 rfl (by decide +kernel) rfl rfl rfl)))) (hnd (hlf (ok_istore_n dX11_readRight_287 rfl (by decide) rfl)) (hnd (hlf (ok_iload_n dX11_readRight_288 rfl rfl)) (hlf (ok_iload_n dX11_readRight_289 rfl rfl)))))) (hnd (hnd (hnd (hlf (ok_bipush dX11_readRight_290 (by decide) rfl)) (hnd (hlf (ok_callS (y := yX11_isIn) dX11_readRight_292 ct_X11_isIn (by decide) (by decide) wd_1017 wd_1015 wd_1016 wd_50 (by decide +kernel) rfl)) (hlf (ok_if_ne dX11_readRight_295 (by decide) rfl)))) (hnd (hlf (ok_aload_n dX11_readRight_298 rfl rfl)) (hnd (hlf (ok_callV (y := yX11_here) (n' := 0) (C := RX11) (T := TX11) dX11_readRight_299 ct_X11_here (by decide) (by decide) wd_1148 wd_1145 wd_1147 wd_36 wd_50 rfl (by decide +kernel) rfl rfl rfl)) (hlf (ok_iret dX11_readRight_302))))) (hnd (hnd (hlf (ok_aload_n dX11_readRight_303 rfl rfl)) (hnd (hlf (ok_dup dX11_readRight_304 rfl)) (hlf (ok_getf (C := RX11) (T := TX11) dX11_readRight_305 rfl rfl (by decide) rfl inX11 wd_918 rfl)))) (hnd (hlf (ok_iconst dX11_readRight_308 (by decide) rfl)) (hnd (hlf (ok_iload_n dX11_readRight_309 rfl rfl)) (hlf (ok_ishl dX11_readRight_310 rfl))))))) (hnd (hnd (hnd (hnd (hlf (ok_ior dX11_readRight_311 rfl)) (hnd (hlf (ok_putf (C := RX11) (T := TX11) dX11_readRight_312 rfl rfl (by decide) rfl inX11 tyX11_ok nmX11 rfl rfl (fun _ _ => rfl) wd_918 rfl)) (hlf (ok_iload_n dX11_readRight_315 rfl rfl)))) (hnd (hlf (ok_iconst dX11_readRight_316 (by decide) rfl)) (hnd (hlf (ok_iadd dX11_readRight_317 rfl)) (hlf (ok_istore_n dX11_readRight_318 rfl (by decide) rfl))))) (hnd (hnd (hlf (ok_aload_n dX11_readRight_319 rfl rfl)) (hnd (hlf (ok_callV (y := yX11_next) (n' := 0) (C := RX11) (T := TX11) dX11_readRight_320 ct_X11_next (by decide) (by decide) wd_1140 wd_1137 wd_1139 wd_34 wd_50 rfl (by decide +kernel) rfl rfl rfl)) (hlf (ok_aload_n dX11_readRight_323 rfl rfl)))) (hnd (hlf (ok_bipush dX11_readRight_324 (by decide) rfl)) (hnd (hlf (ok_bipush dX11_readRight_326 (by decide) rfl)) (hlf (ok_iconst dX11_readRight_328 (by decide) rfl)))))) (hnd (hnd (hnd (hlf (ok_iconst dX11_readRight_329 (by decide) rfl)) (hnd (hlf (ok_callV (y := yX11_isWord) (n' := 4) (C := RX11) (T := TX11) dX11_readRight_330 ct_X11_isWord (by decide) (by decide) wd_1152 wd_1149 wd_1151 wd_37 wd_50 rfl (by decide +kernel) rfl rfl rfl)) (hlf (ok_istore_n dX11_readRight_333 rfl (by decide) rfl)))) (hnd (hlf (ok_goto dX11_readRight_334 (by decide))) (hnd (hlf (ok_aload_n dX11_readRight_337 rfl rfl)) (hlf (ok_getf (C := RX11) (T := TX11) dX11_readRight_338 rfl rfl (by decide) rfl inX11 wd_912 rfl))))) (hnd (hnd (hlf (ok_if_ne dX11_readRight_341 (by decide) rfl)) (hnd (hlf (ok_iconst dX11_readRight_344 (by decide) rfl)) (hlf (ok_goto dX11_readRight_345 (by decide))))) (hnd (hlf (ok_aload_n dX11_readRight_348 rfl rfl)) (hnd (hlf (ok_getf (C := RX11) (T := TX11) dX11_readRight_349 rfl rfl (by decide) rfl inX11 wd_911 rfl)) (hlf (ok_iret dX11_readRight_352)))))))))

theorem fail_ok {σ σ' : HS} {w : HW} {q : HRt} {z e : Nat} {F : Nat → Int32} (hz : σ 11 0 20 = nI z) (hz6 : z ≤ 60) (he : e ≤ z) (R : Rd σ z σ' e F) (hq : pK σ w q (.inl (wA (σ 20 15) z e))) : q (some (HI (if σ' 11 0 35 = 0 then σ' 11 0 20 else σ' 11 0 34))) w σ' := by
  rw [Rd_here hz hz6 he R]
  exact hq σ' R.1.1
set_option maxHeartbeats 4000000 in
set_option maxRecDepth 100000 in
theorem vc_X11_readRight : MVC ins_X11_readRight 4 1 sp_X11_readRight := by
  intro as w σ q hl hs
  unfold sp_X11_readRight at hs
  split at hs
  rotate_left
  · exact hs.elim
  obtain ⟨z, hz, hsz, hq⟩ := hs
  refine ⟨fun pc => Nat.beq pc 213 || Nat.beq pc 261 || Nat.beq pc 275, Ird w σ z q, 120, 200, ?_, ?_⟩
  · clear hq
    rintro N pc ls st w' σ' hh ⟨rfl, rfl, e, F, he, R, (⟨rfl, rfl, f40, f41, ⟨o1, o2, o3, rfl⟩, hq⟩ | ⟨rfl, rfl, f41, ⟨o1, o2, o3, rfl⟩, hq⟩ | ⟨rfl, g, lo, o3, rfl, (⟨rfl, m, j, rfl, hmj, hj, rfl, hq⟩ | ⟨rfl, rfl, hq⟩)⟩)⟩
    · have l := we_le (T := (σ 20 15)) he
      unfold pL pLong at hq
      refine ⟨by decide, (wA (σ 20 15) z e), (we (σ 20 15) z e), l.2.1, Nat.le_trans l.2.2 hz, R.2.1, R.2.2, ?_⟩
      rw [eqR_T R.1.1]
      apply br2
      rotate_left
      · intro c
        rw [cif_n c] at hq
        refine And.intro (fun _ => ?_) (fun h => absurd rfl h)
        exact ⟨900, by decide, rfl, rfl, e, F, he, R, Or.inr (Or.inl ⟨rfl, rfl, f41, ⟨_, _, _, rfl⟩, by rw [f40]; exact hq⟩)⟩
      intro c
      rw [cif_p c] at hq
      try dsimp only at hq
      refine And.intro (fun h => absurd h (by decide)) (fun _ => ?_)
      refine ⟨(we (σ 20 15) z e), z, l.2.2, hz, R.1.2.1, eqR_z R.1.1 hsz, ?_⟩
      have R1 := Rd_next (z := z) R.1
      generalize nxS σ' (wA (σ' 20 15) z (we (σ 20 15) z e)) (wE (σ' 20 15) z (wA (σ' 20 15) z (we (σ 20 15) z e))) = s1 at R1 ⊢
      have l1 := we_le (T := (σ 20 15)) l.2.2
      refine ⟨(wA (σ 20 15) z (we (σ 20 15) z e)), (we (σ 20 15) z (we (σ 20 15) z e)), l1.2.1, Nat.le_trans l1.2.2 hz, R1.2.1, R1.2.2, ?_⟩
      rw [eqR_T R1.1.1]
      have R2 := Rd_put R1 (f := 40) (by decide) (by decide) (num (σ 20 15) (wA (σ 20 15) z (we (σ 20 15) z e)) (we (σ 20 15) z (we (σ 20 15) z e)))
      have v2 : (up3 s1 11 0 40 (num (σ 20 15) (wA (σ 20 15) z (we (σ 20 15) z e)) (we (σ 20 15) z (we (σ 20 15) z e)))) 11 0 40 = (num (σ 20 15) (wA (σ 20 15) z (we (σ 20 15) z e)) (we (σ 20 15) z (we (σ 20 15) z e))) := (R2.1.2.2 40 (by decide) (by decide)).trans (by simp [upd])
      try unfold pNum at hq
      apply br2
      rotate_left
      · intro c
        have c : ¬ (¬ (up3 s1 11 0 40 (num (σ 20 15) (wA (σ 20 15) z (we (σ 20 15) z e)) (we (σ 20 15) z (we (σ 20 15) z e)))) 11 0 40 < 1 ∧ ¬ 4 < (up3 s1 11 0 40 (num (σ 20 15) (wA (σ 20 15) z (we (σ 20 15) z e)) (we (σ 20 15) z (we (σ 20 15) z e)))) 11 0 40) := c
        rw [v2] at c
        rw [cif_n c] at hq
        refine And.intro (fun _ => ?_) (fun h => absurd rfl h)
        exact fail_ok hsz hz l.2.2 R2 hq
      intro c
      have c : ¬ (up3 s1 11 0 40 (num (σ 20 15) (wA (σ 20 15) z (we (σ 20 15) z e)) (we (σ 20 15) z (we (σ 20 15) z e)))) 11 0 40 < 1 ∧ ¬ 4 < (up3 s1 11 0 40 (num (σ 20 15) (wA (σ 20 15) z (we (σ 20 15) z e)) (we (σ 20 15) z (we (σ 20 15) z e)))) 11 0 40 := c
      rw [v2] at c
      rw [cif_p c] at hq
      try dsimp only at hq
      refine And.intro (fun h => absurd h (by decide)) (fun _ => ?_)
      refine ⟨(we (σ 20 15) z (we (σ 20 15) z e)), z, l1.2.2, hz, R2.1.2.1, eqR_z R2.1.1 hsz, ?_⟩
      have R3 := Rd_next (z := z) R2.1
      generalize nxS (up3 s1 11 0 40 (num (σ 20 15) (wA (σ 20 15) z (we (σ 20 15) z e)) (we (σ 20 15) z (we (σ 20 15) z e)))) (wA ((up3 s1 11 0 40 (num (σ 20 15) (wA (σ 20 15) z (we (σ 20 15) z e)) (we (σ 20 15) z (we (σ 20 15) z e)))) 20 15) z (we (σ 20 15) z (we (σ 20 15) z e))) (wE ((up3 s1 11 0 40 (num (σ 20 15) (wA (σ 20 15) z (we (σ 20 15) z e)) (we (σ 20 15) z (we (σ 20 15) z e)))) 20 15) z (wA ((up3 s1 11 0 40 (num (σ 20 15) (wA (σ 20 15) z (we (σ 20 15) z e)) (we (σ 20 15) z (we (σ 20 15) z e)))) 20 15) z (we (σ 20 15) z (we (σ 20 15) z e)))) = s3 at R3 ⊢
      have l3 := we_le (T := (σ 20 15)) l1.2.2
      refine ⟨900, by decide, rfl, rfl, _, _, l1.2.2, R3, Or.inr (Or.inl ⟨rfl, rfl, by simp [upd, f41], ⟨_, _, _, rfl⟩, ?_⟩)⟩
      simpa [upd] using hq
    · have l := we_le (T := (σ 20 15)) he
      unfold pNot at hq
      refine ⟨by decide, (wA (σ 20 15) z e), (we (σ 20 15) z e), l.2.1, Nat.le_trans l.2.2 hz, R.2.1, R.2.2, ?_⟩
      rw [eqR_T R.1.1]
      apply br2
      · intro c
        rw [cif_p c] at hq
        try dsimp only at hq
        exact ⟨9, by decide, rfl, rfl, e, F, he, R, Or.inr (Or.inr ⟨rfl, _, _, _, rfl, Or.inl ⟨rfl, 8, 0, rfl, by decide, by decide, rfl, by rw [f41]; exact hq⟩⟩)⟩
      · intro c
        rw [cif_n c] at hq
        exact ⟨0, by decide, rfl, rfl, e, F, he, R, Or.inr (Or.inr ⟨rfl, _, _, _, rfl, Or.inr ⟨rfl, rfl, by rw [f41]; exact hq⟩⟩)⟩
    · have l := we_le (T := (σ 20 15)) he
      refine And.intro (fun h => absurd h (by decide)) (fun _ => ?_)
      obtain ⟨m, rfl⟩ : ∃ m2, m = m2 + 1 := ⟨m - 1, by omega⟩
      refine ⟨(we (σ 20 15) z e), z, l.2.2, hz, R.1.2.1, eqR_z R.1.1 hsz, ?_⟩
      have R4 := Rd_next (z := z) R.1
      generalize nxS σ' (wA (σ' 20 15) z (we (σ 20 15) z e)) (wE (σ' 20 15) z (wA (σ' 20 15) z (we (σ 20 15) z e))) = s4 at R4 ⊢
      have l4 := we_le (T := (σ 20 15)) l.2.2
      refine ⟨(wA (σ 20 15) z (we (σ 20 15) z e)), (we (σ 20 15) z (we (σ 20 15) z e)), l4.2.1, Nat.le_trans l4.2.2 hz, R4.2.1, R4.2.2, ?_⟩
      rw [eqR_T R4.1.1]
      unfold pNots pNum at hq
      apply br2
      rotate_left
      · intro c
        rw [cif_n c] at hq
        refine And.intro (fun _ => ?_) (fun h => absurd rfl h)
        exact fail_ok hsz hz l.2.2 R4 hq
      intro c
      have c : ¬ (num (σ 20 15) (wA (σ 20 15) z (we (σ 20 15) z e)) (we (σ 20 15) z (we (σ 20 15) z e))) < nI j ∧ ¬ 6 < (num (σ 20 15) (wA (σ 20 15) z (we (σ 20 15) z e)) (we (σ 20 15) z (we (σ 20 15) z e))) := c
      rw [cif_p c] at hq
      try dsimp only at hq
      refine And.intro (fun h => absurd h (by decide)) (fun _ => ?_)
      obtain ⟨n, hn, hn2⟩ := in_of (n := 7) (x := (num (σ 20 15) (wA (σ 20 15) z (we (σ 20 15) z e)) (we (σ 20 15) z (we (σ 20 15) z e)))) ⟨Int32.le_trans (nI_pos' (by omega)) (Int32.not_lt.mp c.1), Int32.lt_of_le_of_lt (Int32.not_lt.mp c.2) (by decide)⟩
      rw [hn2] at c hq ⊢
      try dsimp only at hq
      have hjn : j ≤ n := by
        rcases Nat.lt_or_ge n j with y | y
        · exact absurd (nI_lt y (by omega)) c.1
        · exact y
      have e41 : s4 11 0 41 = F 41 := R4.1.2.2 41 (by decide) (by decide)
      have R5 := Rd_put R4 (f := 41) (by decide) (by decide) (s4 11 0 41 ||| (1 <<< (nI n &&& 31)))
      refine ⟨(we (σ 20 15) z (we (σ 20 15) z e)), z, l4.2.2, hz, R5.1.2.1, eqR_z R5.1.1 hsz, ?_⟩
      have R6 := Rd_next (z := z) R5.1
      generalize nxS (up3 s4 11 0 41 (s4 11 0 41 ||| (1 <<< (nI n &&& 31)))) (wA ((up3 s4 11 0 41 (s4 11 0 41 ||| (1 <<< (nI n &&& 31)))) 20 15) z (we (σ 20 15) z (we (σ 20 15) z e))) (wE ((up3 s4 11 0 41 (s4 11 0 41 ||| (1 <<< (nI n &&& 31)))) 20 15) z (wA ((up3 s4 11 0 41 (s4 11 0 41 ||| (1 <<< (nI n &&& 31)))) 20 15) z (we (σ 20 15) z (we (σ 20 15) z e)))) = s6 at R6 ⊢
      have l6 := we_le (T := (σ 20 15)) l4.2.2
      refine ⟨by decide, (wA (σ 20 15) z (we (σ 20 15) z (we (σ 20 15) z e))), (we (σ 20 15) z (we (σ 20 15) z (we (σ 20 15) z e))), l6.2.1, Nat.le_trans l6.2.2 hz, R6.2.1, R6.2.2, ?_⟩
      rw [eqR_T R6.1.1]
      apply br2
      · intro c2
        rw [cif_p c2] at hq
        refine ⟨m + 1, by omega, rfl, rfl, _, _, l4.2.2, R6, Or.inr (Or.inr ⟨rfl, _, _, _, rfl, Or.inl ⟨rfl, m, n + 1, rfl, ?_, by omega, nI_1 n, ?_⟩⟩)⟩
        · omega
        · simpa [upd, nI_1, e41] using hq
      · intro c2
        rw [cif_n c2] at hq
        refine ⟨0, by omega, rfl, rfl, _, _, l4.2.2, R6, Or.inr (Or.inr ⟨rfl, _, _, _, rfl, Or.inr ⟨rfl, rfl, ?_⟩⟩)⟩
        simpa [upd, e41] using hq
    · have l := we_le (T := (σ 20 15)) he
      refine And.intro (fun _ => ?_) (fun h => absurd rfl h)
      unfold pEnd at hq
      apply br2
      · intro c
        have c : σ' 11 0 35 = 0 := c
        rw [R.2.2] at c
        have c2 := nI_inj (b := 0) c
        rw [cif_p (by omega)] at hq
        exact hq σ' R.1.1 (R.1.2.2 36 (by decide) (by decide)) (R.1.2.2 37 (by decide) (by decide)) (R.1.2.2 38 (by decide) (by decide)) (R.1.2.2 39 (by decide) (by decide)) (R.1.2.2 40 (by decide) (by decide)) (R.1.2.2 41 (by decide) (by decide))
      · intro c
        have c : ¬ σ' 11 0 35 = 0 := c
        rw [R.2.2] at c
        rw [cif_n (fun y => c (by rw [← y, Nat.sub_self]; rfl))] at hq
        have h9 := hq σ' R.1.1
        rw [← R.2.1] at h9
        exact h9
  · have H0 : RdE σ (up3 (up3 (up3 (up3 (up3 σ 11 0 33 0) 11 0 38 (-1000000005)) 11 0 39 0) 11 0 40 2) 11 0 41 0) 0 (upd (upd (upd (upd (σ 11 0) 38 (-1000000005)) 39 0) 40 2) 41 0) := by
      have A0 : RdE σ (up3 σ 11 0 33 0) 0 (σ 11 0) := ⟨fun k i f hf => by rw [up3_o (by omega)], up3_v, fun f h1 h2 => by rw [up3_o (by omega)]⟩
      exact RdE_put (RdE_put (RdE_put (RdE_put A0 (by decide) (by decide) _) (by decide) (by decide) _) (by decide) (by decide) _) (by decide) (by decide) _
    unfold prs at hq
    have H00 : 0 ≤ z := Nat.zero_le _
    refine ⟨0, z, H00, hz, H0.2.1, eqR_z H0.1 hsz, ?_⟩
    have R7 := Rd_next (z := z) H0
    generalize nxS (up3 (up3 (up3 (up3 (up3 σ 11 0 33 0) 11 0 38 (-1000000005)) 11 0 39 0) 11 0 40 2) 11 0 41 0) (wA ((up3 (up3 (up3 (up3 (up3 σ 11 0 33 0) 11 0 38 (-1000000005)) 11 0 39 0) 11 0 40 2) 11 0 41 0) 20 15) z 0) (wE ((up3 (up3 (up3 (up3 (up3 σ 11 0 33 0) 11 0 38 (-1000000005)) 11 0 39 0) 11 0 40 2) 11 0 41 0) 20 15) z (wA ((up3 (up3 (up3 (up3 (up3 σ 11 0 33 0) 11 0 38 (-1000000005)) 11 0 39 0) 11 0 40 2) 11 0 41 0) 20 15) z 0)) = s7 at R7 ⊢
    have l7 := we_le (T := (σ 20 15)) H00
    refine ⟨(wA (σ 20 15) z 0), (we (σ 20 15) z 0), l7.2.1, Nat.le_trans l7.2.2 hz, R7.2.1, R7.2.2, ?_⟩
    rw [eqR_T R7.1.1]
    have R8 := Rd_put R7 (f := 36) (by decide) (by decide) (num (σ 20 15) (wA (σ 20 15) z 0) (we (σ 20 15) z 0))
    have v8 : (up3 s7 11 0 36 (num (σ 20 15) (wA (σ 20 15) z 0) (we (σ 20 15) z 0))) 11 0 36 = (num (σ 20 15) (wA (σ 20 15) z 0) (we (σ 20 15) z 0)) := (R8.1.2.2 36 (by decide) (by decide)).trans (by simp [upd])
    try unfold pNum at hq
    apply br2
    rotate_left
    · intro c
      have c : ¬ (¬ (up3 s7 11 0 36 (num (σ 20 15) (wA (σ 20 15) z 0) (we (σ 20 15) z 0))) 11 0 36 < 0 ∧ ¬ 50 < (up3 s7 11 0 36 (num (σ 20 15) (wA (σ 20 15) z 0) (we (σ 20 15) z 0))) 11 0 36) := c
      rw [v8] at c
      rw [cif_n c] at hq
      refine And.intro (fun _ => ?_) (fun h => absurd rfl h)
      exact fail_ok hsz hz H00 R8 hq
    intro c
    have c : ¬ (up3 s7 11 0 36 (num (σ 20 15) (wA (σ 20 15) z 0) (we (σ 20 15) z 0))) 11 0 36 < 0 ∧ ¬ 50 < (up3 s7 11 0 36 (num (σ 20 15) (wA (σ 20 15) z 0) (we (σ 20 15) z 0))) 11 0 36 := c
    rw [v8] at c
    rw [cif_p c] at hq
    try dsimp only at hq
    refine And.intro (fun h => absurd h (by decide)) (fun _ => ?_)
    refine ⟨(we (σ 20 15) z 0), z, l7.2.2, hz, R8.1.2.1, eqR_z R8.1.1 hsz, ?_⟩
    have R9 := Rd_next (z := z) R8.1
    generalize nxS (up3 s7 11 0 36 (num (σ 20 15) (wA (σ 20 15) z 0) (we (σ 20 15) z 0))) (wA ((up3 s7 11 0 36 (num (σ 20 15) (wA (σ 20 15) z 0) (we (σ 20 15) z 0))) 20 15) z (we (σ 20 15) z 0)) (wE ((up3 s7 11 0 36 (num (σ 20 15) (wA (σ 20 15) z 0) (we (σ 20 15) z 0))) 20 15) z (wA ((up3 s7 11 0 36 (num (σ 20 15) (wA (σ 20 15) z 0) (we (σ 20 15) z 0))) 20 15) z (we (σ 20 15) z 0))) = s9 at R9 ⊢
    have l9 := we_le (T := (σ 20 15)) l7.2.2
    refine ⟨by decide, (wA (σ 20 15) z (we (σ 20 15) z 0)), (we (σ 20 15) z (we (σ 20 15) z 0)), l9.2.1, Nat.le_trans l9.2.2 hz, R9.2.1, R9.2.2, ?_⟩
    rw [eqR_T R9.1.1]
    try unfold pWord at hq
    apply br2
    rotate_left
    · intro c
      rw [cif_n c] at hq
      refine And.intro (fun _ => ?_) (fun h => absurd rfl h)
      exact fail_ok hsz hz l7.2.2 R9 hq
    intro c
    rw [cif_p c] at hq
    try dsimp only at hq
    refine And.intro (fun h => absurd h (by decide)) (fun _ => ?_)
    refine ⟨(we (σ 20 15) z (we (σ 20 15) z 0)), z, l9.2.2, hz, R9.1.2.1, eqR_z R9.1.1 hsz, ?_⟩
    have R10 := Rd_next (z := z) R9.1
    generalize nxS s9 (wA (s9 20 15) z (we (σ 20 15) z (we (σ 20 15) z 0))) (wE (s9 20 15) z (wA (s9 20 15) z (we (σ 20 15) z (we (σ 20 15) z 0)))) = s10 at R10 ⊢
    have l10 := we_le (T := (σ 20 15)) l9.2.2
    refine ⟨(wA (σ 20 15) z (we (σ 20 15) z (we (σ 20 15) z 0))), (we (σ 20 15) z (we (σ 20 15) z (we (σ 20 15) z 0))), l10.2.1, Nat.le_trans l10.2.2 hz, R10.2.1, R10.2.2, ?_⟩
    rw [eqR_T R10.1.1]
    have R11 := Rd_put R10 (f := 37) (by decide) (by decide) (num (σ 20 15) (wA (σ 20 15) z (we (σ 20 15) z (we (σ 20 15) z 0))) (we (σ 20 15) z (we (σ 20 15) z (we (σ 20 15) z 0))))
    have v11 : (up3 s10 11 0 37 (num (σ 20 15) (wA (σ 20 15) z (we (σ 20 15) z (we (σ 20 15) z 0))) (we (σ 20 15) z (we (σ 20 15) z (we (σ 20 15) z 0))))) 11 0 37 = (num (σ 20 15) (wA (σ 20 15) z (we (σ 20 15) z (we (σ 20 15) z 0))) (we (σ 20 15) z (we (σ 20 15) z (we (σ 20 15) z 0)))) := (R11.1.2.2 37 (by decide) (by decide)).trans (by simp [upd])
    try unfold pNum at hq
    apply br2
    rotate_left
    · intro c
      have c : ¬ (¬ (up3 s10 11 0 37 (num (σ 20 15) (wA (σ 20 15) z (we (σ 20 15) z (we (σ 20 15) z 0))) (we (σ 20 15) z (we (σ 20 15) z (we (σ 20 15) z 0))))) 11 0 37 < 1 ∧ ¬ 60 < (up3 s10 11 0 37 (num (σ 20 15) (wA (σ 20 15) z (we (σ 20 15) z (we (σ 20 15) z 0))) (we (σ 20 15) z (we (σ 20 15) z (we (σ 20 15) z 0))))) 11 0 37) := c
      rw [v11] at c
      rw [cif_n c] at hq
      refine And.intro (fun _ => ?_) (fun h => absurd rfl h)
      exact fail_ok hsz hz l9.2.2 R11 hq
    intro c
    have c : ¬ (up3 s10 11 0 37 (num (σ 20 15) (wA (σ 20 15) z (we (σ 20 15) z (we (σ 20 15) z 0))) (we (σ 20 15) z (we (σ 20 15) z (we (σ 20 15) z 0))))) 11 0 37 < 1 ∧ ¬ 60 < (up3 s10 11 0 37 (num (σ 20 15) (wA (σ 20 15) z (we (σ 20 15) z (we (σ 20 15) z 0))) (we (σ 20 15) z (we (σ 20 15) z (we (σ 20 15) z 0))))) 11 0 37 := c
    rw [v11] at c
    rw [cif_p c] at hq
    try dsimp only at hq
    refine And.intro (fun h => absurd h (by decide)) (fun _ => ?_)
    refine ⟨(we (σ 20 15) z (we (σ 20 15) z (we (σ 20 15) z 0))), z, l10.2.2, hz, R11.1.2.1, eqR_z R11.1.1 hsz, ?_⟩
    have R12 := Rd_next (z := z) R11.1
    generalize nxS (up3 s10 11 0 37 (num (σ 20 15) (wA (σ 20 15) z (we (σ 20 15) z (we (σ 20 15) z 0))) (we (σ 20 15) z (we (σ 20 15) z (we (σ 20 15) z 0))))) (wA ((up3 s10 11 0 37 (num (σ 20 15) (wA (σ 20 15) z (we (σ 20 15) z (we (σ 20 15) z 0))) (we (σ 20 15) z (we (σ 20 15) z (we (σ 20 15) z 0))))) 20 15) z (we (σ 20 15) z (we (σ 20 15) z (we (σ 20 15) z 0)))) (wE ((up3 s10 11 0 37 (num (σ 20 15) (wA (σ 20 15) z (we (σ 20 15) z (we (σ 20 15) z 0))) (we (σ 20 15) z (we (σ 20 15) z (we (σ 20 15) z 0))))) 20 15) z (wA ((up3 s10 11 0 37 (num (σ 20 15) (wA (σ 20 15) z (we (σ 20 15) z (we (σ 20 15) z 0))) (we (σ 20 15) z (we (σ 20 15) z (we (σ 20 15) z 0))))) 20 15) z (we (σ 20 15) z (we (σ 20 15) z (we (σ 20 15) z 0))))) = s12 at R12 ⊢
    have l12 := we_le (T := (σ 20 15)) l10.2.2
    try unfold pFar at hq
    refine ⟨by decide, (wA (σ 20 15) z (we (σ 20 15) z (we (σ 20 15) z (we (σ 20 15) z 0)))), (we (σ 20 15) z (we (σ 20 15) z (we (σ 20 15) z (we (σ 20 15) z 0)))), l12.2.1, Nat.le_trans l12.2.2 hz, R12.2.1, R12.2.2, ?_⟩
    rw [eqR_T R12.1.1]
    apply br2
    rotate_left
    · intro c
      rw [cif_n c] at hq
      refine And.intro (fun _ => ?_) (fun h => absurd rfl h)
      refine ⟨1000, rfl, rfl, _, _, l10.2.2, R12, Or.inl ⟨rfl, rfl, by simp [upd], by simp [upd], ⟨_, _, _, rfl⟩, ?_⟩⟩
      simpa [upd] using hq
    intro c
    rw [cif_p c] at hq
    try dsimp only at hq
    refine And.intro (fun h => absurd h (by decide)) (fun _ => ?_)
    refine ⟨(we (σ 20 15) z (we (σ 20 15) z (we (σ 20 15) z (we (σ 20 15) z 0)))), z, l12.2.2, hz, R12.1.2.1, eqR_z R12.1.1 hsz, ?_⟩
    have R13 := Rd_next (z := z) R12.1
    generalize nxS s12 (wA (s12 20 15) z (we (σ 20 15) z (we (σ 20 15) z (we (σ 20 15) z (we (σ 20 15) z 0))))) (wE (s12 20 15) z (wA (s12 20 15) z (we (σ 20 15) z (we (σ 20 15) z (we (σ 20 15) z (we (σ 20 15) z 0)))))) = s13 at R13 ⊢
    have l13 := we_le (T := (σ 20 15)) l12.2.2
    refine ⟨(wA (σ 20 15) z (we (σ 20 15) z (we (σ 20 15) z (we (σ 20 15) z (we (σ 20 15) z 0))))), (we (σ 20 15) z (we (σ 20 15) z (we (σ 20 15) z (we (σ 20 15) z (we (σ 20 15) z 0))))), l13.2.1, Nat.le_trans l13.2.2 hz, R13.2.1, R13.2.2, ?_⟩
    rw [eqR_T R13.1.1]
    have R14 := Rd_put R13 (f := 38) (by decide) (by decide) (num (σ 20 15) (wA (σ 20 15) z (we (σ 20 15) z (we (σ 20 15) z (we (σ 20 15) z (we (σ 20 15) z 0))))) (we (σ 20 15) z (we (σ 20 15) z (we (σ 20 15) z (we (σ 20 15) z (we (σ 20 15) z 0))))))
    have v14 : (up3 s13 11 0 38 (num (σ 20 15) (wA (σ 20 15) z (we (σ 20 15) z (we (σ 20 15) z (we (σ 20 15) z (we (σ 20 15) z 0))))) (we (σ 20 15) z (we (σ 20 15) z (we (σ 20 15) z (we (σ 20 15) z (we (σ 20 15) z 0))))))) 11 0 38 = (num (σ 20 15) (wA (σ 20 15) z (we (σ 20 15) z (we (σ 20 15) z (we (σ 20 15) z (we (σ 20 15) z 0))))) (we (σ 20 15) z (we (σ 20 15) z (we (σ 20 15) z (we (σ 20 15) z (we (σ 20 15) z 0)))))) := (R14.1.2.2 38 (by decide) (by decide)).trans (by simp [upd])
    try unfold pNum at hq
    apply br2
    rotate_left
    · intro c
      have c : ¬ (¬ (up3 s13 11 0 38 (num (σ 20 15) (wA (σ 20 15) z (we (σ 20 15) z (we (σ 20 15) z (we (σ 20 15) z (we (σ 20 15) z 0))))) (we (σ 20 15) z (we (σ 20 15) z (we (σ 20 15) z (we (σ 20 15) z (we (σ 20 15) z 0))))))) 11 0 38 < 0 ∧ ¬ 20 < (up3 s13 11 0 38 (num (σ 20 15) (wA (σ 20 15) z (we (σ 20 15) z (we (σ 20 15) z (we (σ 20 15) z (we (σ 20 15) z 0))))) (we (σ 20 15) z (we (σ 20 15) z (we (σ 20 15) z (we (σ 20 15) z (we (σ 20 15) z 0))))))) 11 0 38) := c
      rw [v14] at c
      rw [cif_n c] at hq
      refine And.intro (fun _ => ?_) (fun h => absurd rfl h)
      exact fail_ok hsz hz l12.2.2 R14 hq
    intro c
    have c : ¬ (up3 s13 11 0 38 (num (σ 20 15) (wA (σ 20 15) z (we (σ 20 15) z (we (σ 20 15) z (we (σ 20 15) z (we (σ 20 15) z 0))))) (we (σ 20 15) z (we (σ 20 15) z (we (σ 20 15) z (we (σ 20 15) z (we (σ 20 15) z 0))))))) 11 0 38 < 0 ∧ ¬ 20 < (up3 s13 11 0 38 (num (σ 20 15) (wA (σ 20 15) z (we (σ 20 15) z (we (σ 20 15) z (we (σ 20 15) z (we (σ 20 15) z 0))))) (we (σ 20 15) z (we (σ 20 15) z (we (σ 20 15) z (we (σ 20 15) z (we (σ 20 15) z 0))))))) 11 0 38 := c
    rw [v14] at c
    rw [cif_p c] at hq
    try dsimp only at hq
    refine And.intro (fun h => absurd h (by decide)) (fun _ => ?_)
    refine ⟨(we (σ 20 15) z (we (σ 20 15) z (we (σ 20 15) z (we (σ 20 15) z (we (σ 20 15) z 0))))), z, l13.2.2, hz, R14.1.2.1, eqR_z R14.1.1 hsz, ?_⟩
    have R15 := Rd_next (z := z) R14.1
    generalize nxS (up3 s13 11 0 38 (num (σ 20 15) (wA (σ 20 15) z (we (σ 20 15) z (we (σ 20 15) z (we (σ 20 15) z (we (σ 20 15) z 0))))) (we (σ 20 15) z (we (σ 20 15) z (we (σ 20 15) z (we (σ 20 15) z (we (σ 20 15) z 0))))))) (wA ((up3 s13 11 0 38 (num (σ 20 15) (wA (σ 20 15) z (we (σ 20 15) z (we (σ 20 15) z (we (σ 20 15) z (we (σ 20 15) z 0))))) (we (σ 20 15) z (we (σ 20 15) z (we (σ 20 15) z (we (σ 20 15) z (we (σ 20 15) z 0))))))) 20 15) z (we (σ 20 15) z (we (σ 20 15) z (we (σ 20 15) z (we (σ 20 15) z (we (σ 20 15) z 0)))))) (wE ((up3 s13 11 0 38 (num (σ 20 15) (wA (σ 20 15) z (we (σ 20 15) z (we (σ 20 15) z (we (σ 20 15) z (we (σ 20 15) z 0))))) (we (σ 20 15) z (we (σ 20 15) z (we (σ 20 15) z (we (σ 20 15) z (we (σ 20 15) z 0))))))) 20 15) z (wA ((up3 s13 11 0 38 (num (σ 20 15) (wA (σ 20 15) z (we (σ 20 15) z (we (σ 20 15) z (we (σ 20 15) z (we (σ 20 15) z 0))))) (we (σ 20 15) z (we (σ 20 15) z (we (σ 20 15) z (we (σ 20 15) z (we (σ 20 15) z 0))))))) 20 15) z (we (σ 20 15) z (we (σ 20 15) z (we (σ 20 15) z (we (σ 20 15) z (we (σ 20 15) z 0))))))) = s15 at R15 ⊢
    have l15 := we_le (T := (σ 20 15)) l13.2.2
    refine ⟨by decide, (wA (σ 20 15) z (we (σ 20 15) z (we (σ 20 15) z (we (σ 20 15) z (we (σ 20 15) z (we (σ 20 15) z 0)))))), (we (σ 20 15) z (we (σ 20 15) z (we (σ 20 15) z (we (σ 20 15) z (we (σ 20 15) z (we (σ 20 15) z 0)))))), l15.2.1, Nat.le_trans l15.2.2 hz, R15.2.1, R15.2.2, ?_⟩
    rw [eqR_T R15.1.1]
    try unfold pWord at hq
    apply br2
    rotate_left
    · intro c
      rw [cif_n c] at hq
      refine And.intro (fun _ => ?_) (fun h => absurd rfl h)
      exact fail_ok hsz hz l13.2.2 R15 hq
    intro c
    rw [cif_p c] at hq
    try dsimp only at hq
    refine And.intro (fun h => absurd h (by decide)) (fun _ => ?_)
    refine ⟨(we (σ 20 15) z (we (σ 20 15) z (we (σ 20 15) z (we (σ 20 15) z (we (σ 20 15) z (we (σ 20 15) z 0)))))), z, l15.2.2, hz, R15.1.2.1, eqR_z R15.1.1 hsz, ?_⟩
    have R16 := Rd_next (z := z) R15.1
    generalize nxS s15 (wA (s15 20 15) z (we (σ 20 15) z (we (σ 20 15) z (we (σ 20 15) z (we (σ 20 15) z (we (σ 20 15) z (we (σ 20 15) z 0))))))) (wE (s15 20 15) z (wA (s15 20 15) z (we (σ 20 15) z (we (σ 20 15) z (we (σ 20 15) z (we (σ 20 15) z (we (σ 20 15) z (we (σ 20 15) z 0)))))))) = s16 at R16 ⊢
    have l16 := we_le (T := (σ 20 15)) l15.2.2
    refine ⟨(wA (σ 20 15) z (we (σ 20 15) z (we (σ 20 15) z (we (σ 20 15) z (we (σ 20 15) z (we (σ 20 15) z (we (σ 20 15) z 0))))))), (we (σ 20 15) z (we (σ 20 15) z (we (σ 20 15) z (we (σ 20 15) z (we (σ 20 15) z (we (σ 20 15) z (we (σ 20 15) z 0))))))), l16.2.1, Nat.le_trans l16.2.2 hz, R16.2.1, R16.2.2, ?_⟩
    rw [eqR_T R16.1.1]
    have R17 := Rd_put R16 (f := 39) (by decide) (by decide) (num (σ 20 15) (wA (σ 20 15) z (we (σ 20 15) z (we (σ 20 15) z (we (σ 20 15) z (we (σ 20 15) z (we (σ 20 15) z (we (σ 20 15) z 0))))))) (we (σ 20 15) z (we (σ 20 15) z (we (σ 20 15) z (we (σ 20 15) z (we (σ 20 15) z (we (σ 20 15) z (we (σ 20 15) z 0))))))))
    have v17 : (up3 s16 11 0 39 (num (σ 20 15) (wA (σ 20 15) z (we (σ 20 15) z (we (σ 20 15) z (we (σ 20 15) z (we (σ 20 15) z (we (σ 20 15) z (we (σ 20 15) z 0))))))) (we (σ 20 15) z (we (σ 20 15) z (we (σ 20 15) z (we (σ 20 15) z (we (σ 20 15) z (we (σ 20 15) z (we (σ 20 15) z 0))))))))) 11 0 39 = (num (σ 20 15) (wA (σ 20 15) z (we (σ 20 15) z (we (σ 20 15) z (we (σ 20 15) z (we (σ 20 15) z (we (σ 20 15) z (we (σ 20 15) z 0))))))) (we (σ 20 15) z (we (σ 20 15) z (we (σ 20 15) z (we (σ 20 15) z (we (σ 20 15) z (we (σ 20 15) z (we (σ 20 15) z 0)))))))) := (R17.1.2.2 39 (by decide) (by decide)).trans (by simp [upd])
    try unfold pNum at hq
    apply br2
    rotate_left
    · intro c
      have c : ¬ (¬ (up3 s16 11 0 39 (num (σ 20 15) (wA (σ 20 15) z (we (σ 20 15) z (we (σ 20 15) z (we (σ 20 15) z (we (σ 20 15) z (we (σ 20 15) z (we (σ 20 15) z 0))))))) (we (σ 20 15) z (we (σ 20 15) z (we (σ 20 15) z (we (σ 20 15) z (we (σ 20 15) z (we (σ 20 15) z (we (σ 20 15) z 0))))))))) 11 0 39 < 1 ∧ ¬ 9 < (up3 s16 11 0 39 (num (σ 20 15) (wA (σ 20 15) z (we (σ 20 15) z (we (σ 20 15) z (we (σ 20 15) z (we (σ 20 15) z (we (σ 20 15) z (we (σ 20 15) z 0))))))) (we (σ 20 15) z (we (σ 20 15) z (we (σ 20 15) z (we (σ 20 15) z (we (σ 20 15) z (we (σ 20 15) z (we (σ 20 15) z 0))))))))) 11 0 39) := c
      rw [v17] at c
      rw [cif_n c] at hq
      refine And.intro (fun _ => ?_) (fun h => absurd rfl h)
      exact fail_ok hsz hz l15.2.2 R17 hq
    intro c
    have c : ¬ (up3 s16 11 0 39 (num (σ 20 15) (wA (σ 20 15) z (we (σ 20 15) z (we (σ 20 15) z (we (σ 20 15) z (we (σ 20 15) z (we (σ 20 15) z (we (σ 20 15) z 0))))))) (we (σ 20 15) z (we (σ 20 15) z (we (σ 20 15) z (we (σ 20 15) z (we (σ 20 15) z (we (σ 20 15) z (we (σ 20 15) z 0))))))))) 11 0 39 < 1 ∧ ¬ 9 < (up3 s16 11 0 39 (num (σ 20 15) (wA (σ 20 15) z (we (σ 20 15) z (we (σ 20 15) z (we (σ 20 15) z (we (σ 20 15) z (we (σ 20 15) z (we (σ 20 15) z 0))))))) (we (σ 20 15) z (we (σ 20 15) z (we (σ 20 15) z (we (σ 20 15) z (we (σ 20 15) z (we (σ 20 15) z (we (σ 20 15) z 0))))))))) 11 0 39 := c
    rw [v17] at c
    rw [cif_p c] at hq
    try dsimp only at hq
    refine And.intro (fun h => absurd h (by decide)) (fun _ => ?_)
    refine ⟨(we (σ 20 15) z (we (σ 20 15) z (we (σ 20 15) z (we (σ 20 15) z (we (σ 20 15) z (we (σ 20 15) z (we (σ 20 15) z 0))))))), z, l16.2.2, hz, R17.1.2.1, eqR_z R17.1.1 hsz, ?_⟩
    have R18 := Rd_next (z := z) R17.1
    generalize nxS (up3 s16 11 0 39 (num (σ 20 15) (wA (σ 20 15) z (we (σ 20 15) z (we (σ 20 15) z (we (σ 20 15) z (we (σ 20 15) z (we (σ 20 15) z (we (σ 20 15) z 0))))))) (we (σ 20 15) z (we (σ 20 15) z (we (σ 20 15) z (we (σ 20 15) z (we (σ 20 15) z (we (σ 20 15) z (we (σ 20 15) z 0))))))))) (wA ((up3 s16 11 0 39 (num (σ 20 15) (wA (σ 20 15) z (we (σ 20 15) z (we (σ 20 15) z (we (σ 20 15) z (we (σ 20 15) z (we (σ 20 15) z (we (σ 20 15) z 0))))))) (we (σ 20 15) z (we (σ 20 15) z (we (σ 20 15) z (we (σ 20 15) z (we (σ 20 15) z (we (σ 20 15) z (we (σ 20 15) z 0))))))))) 20 15) z (we (σ 20 15) z (we (σ 20 15) z (we (σ 20 15) z (we (σ 20 15) z (we (σ 20 15) z (we (σ 20 15) z (we (σ 20 15) z 0)))))))) (wE ((up3 s16 11 0 39 (num (σ 20 15) (wA (σ 20 15) z (we (σ 20 15) z (we (σ 20 15) z (we (σ 20 15) z (we (σ 20 15) z (we (σ 20 15) z (we (σ 20 15) z 0))))))) (we (σ 20 15) z (we (σ 20 15) z (we (σ 20 15) z (we (σ 20 15) z (we (σ 20 15) z (we (σ 20 15) z (we (σ 20 15) z 0))))))))) 20 15) z (wA ((up3 s16 11 0 39 (num (σ 20 15) (wA (σ 20 15) z (we (σ 20 15) z (we (σ 20 15) z (we (σ 20 15) z (we (σ 20 15) z (we (σ 20 15) z (we (σ 20 15) z 0))))))) (we (σ 20 15) z (we (σ 20 15) z (we (σ 20 15) z (we (σ 20 15) z (we (σ 20 15) z (we (σ 20 15) z (we (σ 20 15) z 0))))))))) 20 15) z (we (σ 20 15) z (we (σ 20 15) z (we (σ 20 15) z (we (σ 20 15) z (we (σ 20 15) z (we (σ 20 15) z (we (σ 20 15) z 0))))))))) = s18 at R18 ⊢
    have l18 := we_le (T := (σ 20 15)) l16.2.2
    refine ⟨1000, rfl, rfl, _, _, l16.2.2, R18, Or.inl ⟨rfl, rfl, by simp [upd], by simp [upd], ⟨_, _, _, rfl⟩, ?_⟩⟩
    simpa [upd] using hq
theorem ct_X11_readRight : Ctr yX11_readRight cX11_readRight 4 (some .int) 3 0 0 1 sp_X11_readRight := ctr_of (by decide +kernel) rfl (by decide) ok_X11_readRight vc_X11_readRight

