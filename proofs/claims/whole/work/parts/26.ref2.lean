/-! The reference, 2: too many visits in a span -/
abbrev farM (σ : HS) (nv c : Nat) (s : Int32) : Prop := ∃ v, v < nv ∧ bt1 s v ∧ ¬ σ 20 11 c = -1000000005 ∧ ¬ σ 20 7 v < σ 20 11 c
noncomputable def gvM (σ : HS) (nv c : Nat) (s : Int32) : Int32 := cif (farM σ nv c s) (σ 20 9 c + σ 20 12 c) (σ 20 9 c)
abbrev tmP (σ : HS) (nv p m i : Nat) (f : Int32) : Prop := (σ 20 21 i = 0 ∧ σ 20 16 i = nI p ∧ ¬ lwM σ nv (σ 20 17 i)) ∧ ¬ σ 20 18 i < f ∧ ¬ f + nI m ≤ σ 20 18 i
def wnM (σ : HS) (nv p m n : Nat) (f : Int32) : Nat := cnt (fun i => decide (tmP σ nv p m i f)) n
abbrev tooM2 (σ : HS) (nv p m n c d : Nat) (s : Int32) : Prop := ∃ k, k < m ∧ ¬ nI (1 + wnM σ nv p m n (nI d - nI m + 1 + nI k)) ≤ gvM σ nv c s
theorem fk_eq (d m k : Nat) : nI d - nI m + 1 + nI k = nI (d + 1 + k) - nI m := by
  rw [Int32.sub_eq_add_neg, Int32.sub_eq_add_neg, ← nI_add, ← nI_add, show nI 1 = (1 : Int32) from rfl]
  simp only [Int32.add_assoc]
  congr 1
  rw [Int32.add_comm (-nI m)]
  simp only [Int32.add_assoc]
theorem fk_lt {d m k : Nat} (hd : d ≤ 400) (hm : m ≤ 60) (hk : k ≤ 60) : nI d < nI d - nI m + 1 + nI k ↔ m ≤ k := by
  rw [fk_eq, Int32.lt_iff_toInt_lt, pk_sub_toInt (by omega) (by omega), nI_toInt (by omega)]
  omega
def sp_X11_isTooMany : HSp := fun as w σ K => match as with
  | [.inr (.inl (11, some 0)), .inl x, .inl s, .inl y] => ∃ nv n p c m d, Nv σ nv ∧ Nn σ n ∧ p < 10 ∧ x = nI p ∧ c < 4 ∧ σ 20 0 p = nI c ∧ 1 ≤ m ∧ m ≤ 60 ∧ σ 20 10 c = nI m ∧ d ≤ 400 ∧ y = nI d ∧ spZ (tooM2 σ nv p m n c d s) w σ K
  | _ => False
def fgP (σ : HS) (c i : Nat) (s g : Int32) : Prop := (g = σ 20 9 c + σ 20 12 c ∧ ∃ v, v < i ∧ bt1 s v ∧ ¬ σ 20 11 c = -1000000005 ∧ ¬ σ 20 7 v < σ 20 11 c) ∨ (g = σ 20 9 c ∧ ¬ ∃ v, v < i ∧ bt1 s v ∧ ¬ σ 20 11 c = -1000000005 ∧ ¬ σ 20 7 v < σ 20 11 c)
noncomputable def Itm (w : HW) (σ : HS) (nv n p c m d : Nat) (s : Int32) : Nat → Nat → HKp := fun pc N ls st w' σ' =>
    (pc = 20 ∧ ∃ (i : Nat) (u g : Int32) (a b e : Option HV), i ≤ nv ∧ N = 100000 + (nv - i) ∧ u = nI i ∧ fgP σ c i s g ∧ ls = [some (HR 11 0), some (HI (nI p)), some (HI s), some (HI (nI d)), some (HI (nI c)), some (HI g), some (HI u), a, b, e] ∧ st = [] ∧ w = w' ∧ σ = σ') ∨
    (pc = 103 ∧ ∃ (k : Nat) (f : Int32) (a b e : Option HV), k ≤ m ∧ N = (m - k) * 1000 + 999 ∧ f = nI d - nI m + 1 + nI k ∧ (∀ j, j < k → nI (1 + wnM σ nv p m n (nI d - nI m + 1 + nI j)) ≤ gvM σ nv c s) ∧ ls = [some (HR 11 0), some (HI (nI p)), some (HI s), some (HI (nI d)), some (HI (nI c)), some (HI (gvM σ nv c s)), some (HI f), a, b, e] ∧ st = [] ∧ w = w' ∧ σ = σ') ∨
    (pc = 115 ∧ ∃ (k i : Nat) (f u v : Int32) (e : Option HV), k < m ∧ i ≤ n ∧ N = (m - k) * 1000 + (n - i) ∧ f = nI d - nI m + 1 + nI k ∧ (∀ j, j < k → nI (1 + wnM σ nv p m n (nI d - nI m + 1 + nI j)) ≤ gvM σ nv c s) ∧ u = nI (1 + wnM σ nv p m i f) ∧ v = nI i ∧ ls = [some (HR 11 0), some (HI (nI p)), some (HI s), some (HI (nI d)), some (HI (nI c)), some (HI (gvM σ nv c s)), some (HI f), some (HI u), some (HI v), e] ∧ st = [] ∧ w = w' ∧ σ = σ')
theorem dX11_isTooMany_0 : decode cX11_isTooMany 0 = .ok (.aload_n 0, 1) := by decide +kernel
theorem dX11_isTooMany_1 : decode cX11_isTooMany 1 = .ok (.getfield 7, 3) := by decide +kernel
theorem dX11_isTooMany_4 : decode cX11_isTooMany 4 = .ok (.iload_n 1, 1) := by decide +kernel
theorem dX11_isTooMany_5 : decode cX11_isTooMany 5 = .ok (.iaload, 1) := by decide +kernel
theorem dX11_isTooMany_6 : decode cX11_isTooMany 6 = .ok (.istore 4, 2) := by decide +kernel
theorem dX11_isTooMany_8 : decode cX11_isTooMany 8 = .ok (.aload_n 0, 1) := by decide +kernel
theorem dX11_isTooMany_9 : decode cX11_isTooMany 9 = .ok (.getfield 41, 3) := by decide +kernel
theorem dX11_isTooMany_12 : decode cX11_isTooMany 12 = .ok (.iload 4, 2) := by decide +kernel
theorem dX11_isTooMany_14 : decode cX11_isTooMany 14 = .ok (.iaload, 1) := by decide +kernel
theorem dX11_isTooMany_15 : decode cX11_isTooMany 15 = .ok (.istore 5, 2) := by decide +kernel
theorem dX11_isTooMany_17 : decode cX11_isTooMany 17 = .ok (.iconst 0, 1) := by decide +kernel
theorem dX11_isTooMany_18 : decode cX11_isTooMany 18 = .ok (.istore 6, 2) := by decide +kernel
theorem dX11_isTooMany_20 : decode cX11_isTooMany 20 = .ok (.iload 6, 2) := by decide +kernel
theorem dX11_isTooMany_22 : decode cX11_isTooMany 22 = .ok (.aload_n 0, 1) := by decide +kernel
theorem dX11_isTooMany_23 : decode cX11_isTooMany 23 = .ok (.getfield 106, 3) := by decide +kernel
theorem dX11_isTooMany_26 : decode cX11_isTooMany 26 = .ok (.if_icmp .ge 64, 3) := by decide +kernel
theorem dX11_isTooMany_29 : decode cX11_isTooMany 29 = .ok (.iload_n 2, 1) := by decide +kernel
theorem dX11_isTooMany_30 : decode cX11_isTooMany 30 = .ok (.iload 6, 2) := by decide +kernel
theorem dX11_isTooMany_32 : decode cX11_isTooMany 32 = .ok (.invokestatic 121, 3) := by decide +kernel
theorem dX11_isTooMany_35 : decode cX11_isTooMany 35 = .ok (.ifCond .eq 49, 3) := by decide +kernel
theorem dX11_isTooMany_38 : decode cX11_isTooMany 38 = .ok (.aload_n 0, 1) := by decide +kernel
theorem dX11_isTooMany_39 : decode cX11_isTooMany 39 = .ok (.getfield 47, 3) := by decide +kernel
theorem dX11_isTooMany_42 : decode cX11_isTooMany 42 = .ok (.iload 4, 2) := by decide +kernel
theorem dX11_isTooMany_44 : decode cX11_isTooMany 44 = .ok (.iaload, 1) := by decide +kernel
theorem dX11_isTooMany_45 : decode cX11_isTooMany 45 = .ok (.ldc 149, 2) := by decide +kernel
theorem dX11_isTooMany_47 : decode cX11_isTooMany 47 = .ok (.if_icmp .eq 37, 3) := by decide +kernel
theorem dX11_isTooMany_50 : decode cX11_isTooMany 50 = .ok (.aload_n 0, 1) := by decide +kernel
theorem dX11_isTooMany_51 : decode cX11_isTooMany 51 = .ok (.getfield 31, 3) := by decide +kernel
theorem dX11_isTooMany_54 : decode cX11_isTooMany 54 = .ok (.iload 6, 2) := by decide +kernel
theorem dX11_isTooMany_56 : decode cX11_isTooMany 56 = .ok (.iaload, 1) := by decide +kernel
theorem dX11_isTooMany_57 : decode cX11_isTooMany 57 = .ok (.aload_n 0, 1) := by decide +kernel
theorem dX11_isTooMany_58 : decode cX11_isTooMany 58 = .ok (.getfield 47, 3) := by decide +kernel
theorem dX11_isTooMany_61 : decode cX11_isTooMany 61 = .ok (.iload 4, 2) := by decide +kernel
theorem dX11_isTooMany_63 : decode cX11_isTooMany 63 = .ok (.iaload, 1) := by decide +kernel
theorem dX11_isTooMany_64 : decode cX11_isTooMany 64 = .ok (.if_icmp .lt 20, 3) := by decide +kernel
theorem dX11_isTooMany_67 : decode cX11_isTooMany 67 = .ok (.aload_n 0, 1) := by decide +kernel
theorem dX11_isTooMany_68 : decode cX11_isTooMany 68 = .ok (.getfield 41, 3) := by decide +kernel
theorem dX11_isTooMany_71 : decode cX11_isTooMany 71 = .ok (.iload 4, 2) := by decide +kernel
theorem dX11_isTooMany_73 : decode cX11_isTooMany 73 = .ok (.iaload, 1) := by decide +kernel
theorem dX11_isTooMany_74 : decode cX11_isTooMany 74 = .ok (.aload_n 0, 1) := by decide +kernel
theorem dX11_isTooMany_75 : decode cX11_isTooMany 75 = .ok (.getfield 50, 3) := by decide +kernel
theorem dX11_isTooMany_78 : decode cX11_isTooMany 78 = .ok (.iload 4, 2) := by decide +kernel
theorem dX11_isTooMany_80 : decode cX11_isTooMany 80 = .ok (.iaload, 1) := by decide +kernel
theorem dX11_isTooMany_81 : decode cX11_isTooMany 81 = .ok (.iadd, 1) := by decide +kernel
theorem dX11_isTooMany_82 : decode cX11_isTooMany 82 = .ok (.istore 5, 2) := by decide +kernel
theorem dX11_isTooMany_84 : decode cX11_isTooMany 84 = .ok (.iinc 6 1, 3) := by decide +kernel
theorem dX11_isTooMany_87 : decode cX11_isTooMany 87 = .ok (.goto (-67), 3) := by decide +kernel
theorem dX11_isTooMany_90 : decode cX11_isTooMany 90 = .ok (.iload_n 3, 1) := by decide +kernel
theorem dX11_isTooMany_91 : decode cX11_isTooMany 91 = .ok (.aload_n 0, 1) := by decide +kernel
theorem dX11_isTooMany_92 : decode cX11_isTooMany 92 = .ok (.getfield 44, 3) := by decide +kernel
theorem dX11_isTooMany_95 : decode cX11_isTooMany 95 = .ok (.iload 4, 2) := by decide +kernel
theorem dX11_isTooMany_97 : decode cX11_isTooMany 97 = .ok (.iaload, 1) := by decide +kernel
theorem dX11_isTooMany_98 : decode cX11_isTooMany 98 = .ok (.isub, 1) := by decide +kernel
theorem dX11_isTooMany_99 : decode cX11_isTooMany 99 = .ok (.iconst 1, 1) := by decide +kernel
theorem dX11_isTooMany_100 : decode cX11_isTooMany 100 = .ok (.iadd, 1) := by decide +kernel
theorem dX11_isTooMany_101 : decode cX11_isTooMany 101 = .ok (.istore 6, 2) := by decide +kernel
theorem dX11_isTooMany_103 : decode cX11_isTooMany 103 = .ok (.iload 6, 2) := by decide +kernel
theorem dX11_isTooMany_105 : decode cX11_isTooMany 105 = .ok (.iload_n 3, 1) := by decide +kernel
theorem dX11_isTooMany_106 : decode cX11_isTooMany 106 = .ok (.if_icmp .gt 128, 3) := by decide +kernel
theorem dX11_isTooMany_109 : decode cX11_isTooMany 109 = .ok (.iconst 1, 1) := by decide +kernel
theorem dX11_isTooMany_110 : decode cX11_isTooMany 110 = .ok (.istore 7, 2) := by decide +kernel
theorem dX11_isTooMany_112 : decode cX11_isTooMany 112 = .ok (.iconst 0, 1) := by decide +kernel
theorem dX11_isTooMany_113 : decode cX11_isTooMany 113 = .ok (.istore 8, 2) := by decide +kernel
theorem dX11_isTooMany_115 : decode cX11_isTooMany 115 = .ok (.iload 8, 2) := by decide +kernel
theorem dX11_isTooMany_117 : decode cX11_isTooMany 117 = .ok (.aload_n 0, 1) := by decide +kernel
theorem dX11_isTooMany_118 : decode cX11_isTooMany 118 = .ok (.getfield 118, 3) := by decide +kernel
theorem dX11_isTooMany_121 : decode cX11_isTooMany 121 = .ok (.if_icmp .ge 98, 3) := by decide +kernel
theorem dX11_isTooMany_124 : decode cX11_isTooMany 124 = .ok (.aload_n 0, 1) := by decide +kernel
theorem dX11_isTooMany_125 : decode cX11_isTooMany 125 = .ok (.getfield 77, 3) := by decide +kernel
theorem dX11_isTooMany_128 : decode cX11_isTooMany 128 = .ok (.iload 8, 2) := by decide +kernel
theorem dX11_isTooMany_130 : decode cX11_isTooMany 130 = .ok (.iaload, 1) := by decide +kernel
theorem dX11_isTooMany_131 : decode cX11_isTooMany 131 = .ok (.ifCond .ne 32, 3) := by decide +kernel
theorem dX11_isTooMany_134 : decode cX11_isTooMany 134 = .ok (.aload_n 0, 1) := by decide +kernel
theorem dX11_isTooMany_135 : decode cX11_isTooMany 135 = .ok (.getfield 62, 3) := by decide +kernel
theorem dX11_isTooMany_138 : decode cX11_isTooMany 138 = .ok (.iload 8, 2) := by decide +kernel
theorem dX11_isTooMany_140 : decode cX11_isTooMany 140 = .ok (.iaload, 1) := by decide +kernel
theorem dX11_isTooMany_141 : decode cX11_isTooMany 141 = .ok (.iload_n 1, 1) := by decide +kernel
theorem dX11_isTooMany_142 : decode cX11_isTooMany 142 = .ok (.if_icmp .ne 21, 3) := by decide +kernel
theorem dX11_isTooMany_145 : decode cX11_isTooMany 145 = .ok (.aload_n 0, 1) := by decide +kernel
theorem dX11_isTooMany_146 : decode cX11_isTooMany 146 = .ok (.aload_n 0, 1) := by decide +kernel
theorem dX11_isTooMany_147 : decode cX11_isTooMany 147 = .ok (.getfield 65, 3) := by decide +kernel
theorem dX11_isTooMany_150 : decode cX11_isTooMany 150 = .ok (.iload 8, 2) := by decide +kernel
theorem dX11_isTooMany_152 : decode cX11_isTooMany 152 = .ok (.iaload, 1) := by decide +kernel
theorem dX11_isTooMany_153 : decode cX11_isTooMany 153 = .ok (.invokevirtual 187, 3) := by decide +kernel
theorem dX11_isTooMany_156 : decode cX11_isTooMany 156 = .ok (.ifCond .ne 7, 3) := by decide +kernel
theorem dX11_isTooMany_159 : decode cX11_isTooMany 159 = .ok (.iconst 1, 1) := by decide +kernel
theorem dX11_isTooMany_160 : decode cX11_isTooMany 160 = .ok (.goto 4, 3) := by decide +kernel
theorem dX11_isTooMany_163 : decode cX11_isTooMany 163 = .ok (.iconst 0, 1) := by decide +kernel
theorem dX11_isTooMany_164 : decode cX11_isTooMany 164 = .ok (.istore 9, 2) := by decide +kernel
theorem dX11_isTooMany_166 : decode cX11_isTooMany 166 = .ok (.iload 7, 2) := by decide +kernel
theorem dX11_isTooMany_168 : decode cX11_isTooMany 168 = .ok (.iload 9, 2) := by decide +kernel
theorem dX11_isTooMany_170 : decode cX11_isTooMany 170 = .ok (.ifCond .eq 39, 3) := by decide +kernel
theorem dX11_isTooMany_173 : decode cX11_isTooMany 173 = .ok (.aload_n 0, 1) := by decide +kernel
theorem dX11_isTooMany_174 : decode cX11_isTooMany 174 = .ok (.getfield 68, 3) := by decide +kernel
theorem dX11_isTooMany_177 : decode cX11_isTooMany 177 = .ok (.iload 8, 2) := by decide +kernel
theorem dX11_isTooMany_179 : decode cX11_isTooMany 179 = .ok (.iaload, 1) := by decide +kernel
theorem dX11_isTooMany_180 : decode cX11_isTooMany 180 = .ok (.iload 6, 2) := by decide +kernel
theorem dX11_isTooMany_182 : decode cX11_isTooMany 182 = .ok (.if_icmp .lt 27, 3) := by decide +kernel
theorem dX11_isTooMany_185 : decode cX11_isTooMany 185 = .ok (.aload_n 0, 1) := by decide +kernel
theorem dX11_isTooMany_186 : decode cX11_isTooMany 186 = .ok (.getfield 68, 3) := by decide +kernel
theorem dX11_isTooMany_189 : decode cX11_isTooMany 189 = .ok (.iload 8, 2) := by decide +kernel
theorem dX11_isTooMany_191 : decode cX11_isTooMany 191 = .ok (.iaload, 1) := by decide +kernel
theorem dX11_isTooMany_192 : decode cX11_isTooMany 192 = .ok (.iload 6, 2) := by decide +kernel
theorem dX11_isTooMany_194 : decode cX11_isTooMany 194 = .ok (.aload_n 0, 1) := by decide +kernel
theorem dX11_isTooMany_195 : decode cX11_isTooMany 195 = .ok (.getfield 44, 3) := by decide +kernel
theorem dX11_isTooMany_198 : decode cX11_isTooMany 198 = .ok (.iload 4, 2) := by decide +kernel
theorem dX11_isTooMany_200 : decode cX11_isTooMany 200 = .ok (.iaload, 1) := by decide +kernel
theorem dX11_isTooMany_201 : decode cX11_isTooMany 201 = .ok (.iadd, 1) := by decide +kernel
theorem dX11_isTooMany_202 : decode cX11_isTooMany 202 = .ok (.if_icmp .ge 7, 3) := by decide +kernel
theorem dX11_isTooMany_205 : decode cX11_isTooMany 205 = .ok (.iconst 1, 1) := by decide +kernel
theorem dX11_isTooMany_206 : decode cX11_isTooMany 206 = .ok (.goto 4, 3) := by decide +kernel
theorem dX11_isTooMany_209 : decode cX11_isTooMany 209 = .ok (.iconst 0, 1) := by decide +kernel
theorem dX11_isTooMany_210 : decode cX11_isTooMany 210 = .ok (.iadd, 1) := by decide +kernel
theorem dX11_isTooMany_211 : decode cX11_isTooMany 211 = .ok (.istore 7, 2) := by decide +kernel
theorem dX11_isTooMany_213 : decode cX11_isTooMany 213 = .ok (.iinc 8 1, 3) := by decide +kernel
theorem dX11_isTooMany_216 : decode cX11_isTooMany 216 = .ok (.goto (-101), 3) := by decide +kernel
theorem dX11_isTooMany_219 : decode cX11_isTooMany 219 = .ok (.iload 7, 2) := by decide +kernel
theorem dX11_isTooMany_221 : decode cX11_isTooMany 221 = .ok (.iload 5, 2) := by decide +kernel
theorem dX11_isTooMany_223 : decode cX11_isTooMany 223 = .ok (.if_icmp .le 5, 3) := by decide +kernel
theorem dX11_isTooMany_226 : decode cX11_isTooMany 226 = .ok (.iconst 1, 1) := by decide +kernel
theorem dX11_isTooMany_227 : decode cX11_isTooMany 227 = .ok (.ireturn, 1) := by decide +kernel
theorem dX11_isTooMany_228 : decode cX11_isTooMany 228 = .ok (.iinc 6 1, 3) := by decide +kernel
theorem dX11_isTooMany_231 : decode cX11_isTooMany 231 = .ok (.goto (-128), 3) := by decide +kernel
theorem dX11_isTooMany_234 : decode cX11_isTooMany 234 = .ok (.iconst 0, 1) := by decide +kernel
theorem dX11_isTooMany_235 : decode cX11_isTooMany 235 = .ok (.ireturn, 1) := by decide +kernel
def ins_X11_isTooMany (pc : Nat) : HOp := cond (Nat.blt pc 113) (cond (Nat.blt pc 58) (cond (Nat.blt pc 26) (cond (Nat.blt pc 12) (cond (Nat.blt pc 5) (cond (Nat.blt pc 1) (cond (Nat.beq pc 0) (o_aload 0 1) o_bad) (cond (Nat.blt pc 4) (cond (Nat.beq pc 1) (o_getf 11 2 4) o_bad) (cond (Nat.beq pc 4) (o_iload 1 5) o_bad))) (cond (Nat.blt pc 8) (cond (Nat.blt pc 6) (cond (Nat.beq pc 5) (o_iald 6) o_bad) (cond (Nat.beq pc 6) (o_istore 4 8) o_bad)) (cond (Nat.blt pc 9) (cond (Nat.beq pc 8) (o_aload 0 9) o_bad) (cond (Nat.beq pc 9) (o_getf 11 13 12) o_bad)))) (cond (Nat.blt pc 18) (cond (Nat.blt pc 15) (cond (Nat.blt pc 14) (cond (Nat.beq pc 12) (o_iload 4 14) o_bad) (cond (Nat.beq pc 14) (o_iald 15) o_bad)) (cond (Nat.blt pc 17) (cond (Nat.beq pc 15) (o_istore 5 17) o_bad) (cond (Nat.beq pc 17) (o_const (0) 18) o_bad))) (cond (Nat.blt pc 22) (cond (Nat.blt pc 20) (cond (Nat.beq pc 18) (o_istore 6 20) o_bad) (cond (Nat.beq pc 20) (o_iload 6 22) o_bad)) (cond (Nat.blt pc 23) (cond (Nat.beq pc 22) (o_aload 0 23) o_bad) (cond (Nat.beq pc 23) (o_getf 11 7 26) o_bad))))) (cond (Nat.blt pc 44) (cond (Nat.blt pc 35) (cond (Nat.blt pc 30) (cond (Nat.blt pc 29) (cond (Nat.beq pc 26) (o_icmp (fun x y => y ≤ x) 90 29) o_bad) (cond (Nat.beq pc 29) (o_iload 2 30) o_bad)) (cond (Nat.blt pc 32) (cond (Nat.beq pc 30) (o_iload 6 32) o_bad) (cond (Nat.beq pc 32) (o_callS 2 sp_X11_has 35) o_bad))) (cond (Nat.blt pc 39) (cond (Nat.blt pc 38) (cond (Nat.beq pc 35) (o_if (fun x => x = 0) 84 38) o_bad) (cond (Nat.beq pc 38) (o_aload 0 39) o_bad)) (cond (Nat.blt pc 42) (cond (Nat.beq pc 39) (o_getf 11 15 42) o_bad) (cond (Nat.beq pc 42) (o_iload 4 44) o_bad)))) (cond (Nat.blt pc 51) (cond (Nat.blt pc 47) (cond (Nat.blt pc 45) (cond (Nat.beq pc 44) (o_iald 45) o_bad) (cond (Nat.beq pc 45) (o_const (-1000000005) 47) o_bad)) (cond (Nat.blt pc 50) (cond (Nat.beq pc 47) (o_icmp (fun x y => x = y) 84 50) o_bad) (cond (Nat.beq pc 50) (o_aload 0 51) o_bad))) (cond (Nat.blt pc 56) (cond (Nat.blt pc 54) (cond (Nat.beq pc 51) (o_getf 11 10 54) o_bad) (cond (Nat.beq pc 54) (o_iload 6 56) o_bad)) (cond (Nat.blt pc 57) (cond (Nat.beq pc 56) (o_iald 57) o_bad) (cond (Nat.beq pc 57) (o_aload 0 58) o_bad)))))) (cond (Nat.blt pc 87) (cond (Nat.blt pc 73) (cond (Nat.blt pc 64) (cond (Nat.blt pc 61) (cond (Nat.beq pc 58) (o_getf 11 15 61) o_bad) (cond (Nat.blt pc 63) (cond (Nat.beq pc 61) (o_iload 4 63) o_bad) (cond (Nat.beq pc 63) (o_iald 64) o_bad))) (cond (Nat.blt pc 68) (cond (Nat.blt pc 67) (cond (Nat.beq pc 64) (o_icmp (fun x y => x < y) 84 67) o_bad) (cond (Nat.beq pc 67) (o_aload 0 68) o_bad)) (cond (Nat.blt pc 71) (cond (Nat.beq pc 68) (o_getf 11 13 71) o_bad) (cond (Nat.beq pc 71) (o_iload 4 73) o_bad)))) (cond (Nat.blt pc 80) (cond (Nat.blt pc 75) (cond (Nat.blt pc 74) (cond (Nat.beq pc 73) (o_iald 74) o_bad) (cond (Nat.beq pc 74) (o_aload 0 75) o_bad)) (cond (Nat.blt pc 78) (cond (Nat.beq pc 75) (o_getf 11 16 78) o_bad) (cond (Nat.beq pc 78) (o_iload 4 80) o_bad))) (cond (Nat.blt pc 82) (cond (Nat.blt pc 81) (cond (Nat.beq pc 80) (o_iald 81) o_bad) (cond (Nat.beq pc 81) (o_bin (fun x y => x + y) 82) o_bad)) (cond (Nat.blt pc 84) (cond (Nat.beq pc 82) (o_istore 5 84) o_bad) (cond (Nat.beq pc 84) (o_iinc 6 (1) 87) o_bad))))) (cond (Nat.blt pc 100) (cond (Nat.blt pc 95) (cond (Nat.blt pc 91) (cond (Nat.blt pc 90) (cond (Nat.beq pc 87) (o_goto 20) o_bad) (cond (Nat.beq pc 90) (o_iload 3 91) o_bad)) (cond (Nat.blt pc 92) (cond (Nat.beq pc 91) (o_aload 0 92) o_bad) (cond (Nat.beq pc 92) (o_getf 11 14 95) o_bad))) (cond (Nat.blt pc 98) (cond (Nat.blt pc 97) (cond (Nat.beq pc 95) (o_iload 4 97) o_bad) (cond (Nat.beq pc 97) (o_iald 98) o_bad)) (cond (Nat.blt pc 99) (cond (Nat.beq pc 98) (o_bin (fun x y => x - y) 99) o_bad) (cond (Nat.beq pc 99) (o_const (1) 100) o_bad)))) (cond (Nat.blt pc 106) (cond (Nat.blt pc 103) (cond (Nat.blt pc 101) (cond (Nat.beq pc 100) (o_bin (fun x y => x + y) 101) o_bad) (cond (Nat.beq pc 101) (o_istore 6 103) o_bad)) (cond (Nat.blt pc 105) (cond (Nat.beq pc 103) (o_iload 6 105) o_bad) (cond (Nat.beq pc 105) (o_iload 3 106) o_bad))) (cond (Nat.blt pc 110) (cond (Nat.blt pc 109) (cond (Nat.beq pc 106) (o_icmp (fun x y => y < x) 234 109) o_bad) (cond (Nat.beq pc 109) (o_const (1) 110) o_bad)) (cond (Nat.blt pc 112) (cond (Nat.beq pc 110) (o_istore 7 112) o_bad) (cond (Nat.beq pc 112) (o_const (0) 113) o_bad))))))) (cond (Nat.blt pc 174) (cond (Nat.blt pc 142) (cond (Nat.blt pc 128) (cond (Nat.blt pc 118) (cond (Nat.blt pc 115) (cond (Nat.beq pc 113) (o_istore 8 115) o_bad) (cond (Nat.blt pc 117) (cond (Nat.beq pc 115) (o_iload 8 117) o_bad) (cond (Nat.beq pc 117) (o_aload 0 118) o_bad))) (cond (Nat.blt pc 124) (cond (Nat.blt pc 121) (cond (Nat.beq pc 118) (o_getf 11 21 121) o_bad) (cond (Nat.beq pc 121) (o_icmp (fun x y => y ≤ x) 219 124) o_bad)) (cond (Nat.blt pc 125) (cond (Nat.beq pc 124) (o_aload 0 125) o_bad) (cond (Nat.beq pc 125) (o_getf 11 27 128) o_bad)))) (cond (Nat.blt pc 135) (cond (Nat.blt pc 131) (cond (Nat.blt pc 130) (cond (Nat.beq pc 128) (o_iload 8 130) o_bad) (cond (Nat.beq pc 130) (o_iald 131) o_bad)) (cond (Nat.blt pc 134) (cond (Nat.beq pc 131) (o_if (fun x => x = 0) 134 163) o_bad) (cond (Nat.beq pc 134) (o_aload 0 135) o_bad))) (cond (Nat.blt pc 140) (cond (Nat.blt pc 138) (cond (Nat.beq pc 135) (o_getf 11 22 138) o_bad) (cond (Nat.beq pc 138) (o_iload 8 140) o_bad)) (cond (Nat.blt pc 141) (cond (Nat.beq pc 140) (o_iald 141) o_bad) (cond (Nat.beq pc 141) (o_iload 1 142) o_bad))))) (cond (Nat.blt pc 159) (cond (Nat.blt pc 150) (cond (Nat.blt pc 146) (cond (Nat.blt pc 145) (cond (Nat.beq pc 142) (o_icmp (fun x y => x = y) 145 163) o_bad) (cond (Nat.beq pc 145) (o_aload 0 146) o_bad)) (cond (Nat.blt pc 147) (cond (Nat.beq pc 146) (o_aload 0 147) o_bad) (cond (Nat.beq pc 147) (o_getf 11 23 150) o_bad))) (cond (Nat.blt pc 153) (cond (Nat.blt pc 152) (cond (Nat.beq pc 150) (o_iload 8 152) o_bad) (cond (Nat.beq pc 152) (o_iald 153) o_bad)) (cond (Nat.blt pc 156) (cond (Nat.beq pc 153) (o_callV 2 11 sp_X11_isLawyers 156) o_bad) (cond (Nat.beq pc 156) (o_if (fun x => x = 0) 159 163) o_bad)))) (cond (Nat.blt pc 166) (cond (Nat.blt pc 163) (cond (Nat.blt pc 160) (cond (Nat.beq pc 159) (o_const (1) 160) o_bad) (cond (Nat.beq pc 160) (o_goto 164) o_bad)) (cond (Nat.blt pc 164) (cond (Nat.beq pc 163) (o_const (0) 164) o_bad) (cond (Nat.beq pc 164) (o_istore 9 166) o_bad))) (cond (Nat.blt pc 170) (cond (Nat.blt pc 168) (cond (Nat.beq pc 166) (o_iload 7 168) o_bad) (cond (Nat.beq pc 168) (o_iload 9 170) o_bad)) (cond (Nat.blt pc 173) (cond (Nat.beq pc 170) (o_if (fun x => x = 0) 209 173) o_bad) (cond (Nat.beq pc 173) (o_aload 0 174) o_bad)))))) (cond (Nat.blt pc 205) (cond (Nat.blt pc 191) (cond (Nat.blt pc 182) (cond (Nat.blt pc 179) (cond (Nat.blt pc 177) (cond (Nat.beq pc 174) (o_getf 11 24 177) o_bad) (cond (Nat.beq pc 177) (o_iload 8 179) o_bad)) (cond (Nat.blt pc 180) (cond (Nat.beq pc 179) (o_iald 180) o_bad) (cond (Nat.beq pc 180) (o_iload 6 182) o_bad))) (cond (Nat.blt pc 186) (cond (Nat.blt pc 185) (cond (Nat.beq pc 182) (o_icmp (fun x y => x < y) 209 185) o_bad) (cond (Nat.beq pc 185) (o_aload 0 186) o_bad)) (cond (Nat.blt pc 189) (cond (Nat.beq pc 186) (o_getf 11 24 189) o_bad) (cond (Nat.beq pc 189) (o_iload 8 191) o_bad)))) (cond (Nat.blt pc 198) (cond (Nat.blt pc 194) (cond (Nat.blt pc 192) (cond (Nat.beq pc 191) (o_iald 192) o_bad) (cond (Nat.beq pc 192) (o_iload 6 194) o_bad)) (cond (Nat.blt pc 195) (cond (Nat.beq pc 194) (o_aload 0 195) o_bad) (cond (Nat.beq pc 195) (o_getf 11 14 198) o_bad))) (cond (Nat.blt pc 201) (cond (Nat.blt pc 200) (cond (Nat.beq pc 198) (o_iload 4 200) o_bad) (cond (Nat.beq pc 200) (o_iald 201) o_bad)) (cond (Nat.blt pc 202) (cond (Nat.beq pc 201) (o_bin (fun x y => x + y) 202) o_bad) (cond (Nat.beq pc 202) (o_icmp (fun x y => y ≤ x) 209 205) o_bad))))) (cond (Nat.blt pc 221) (cond (Nat.blt pc 211) (cond (Nat.blt pc 209) (cond (Nat.blt pc 206) (cond (Nat.beq pc 205) (o_const (1) 206) o_bad) (cond (Nat.beq pc 206) (o_goto 210) o_bad)) (cond (Nat.blt pc 210) (cond (Nat.beq pc 209) (o_const (0) 210) o_bad) (cond (Nat.beq pc 210) (o_bin (fun x y => x + y) 211) o_bad))) (cond (Nat.blt pc 216) (cond (Nat.blt pc 213) (cond (Nat.beq pc 211) (o_istore 7 213) o_bad) (cond (Nat.beq pc 213) (o_iinc 8 (1) 216) o_bad)) (cond (Nat.blt pc 219) (cond (Nat.beq pc 216) (o_goto 115) o_bad) (cond (Nat.beq pc 219) (o_iload 7 221) o_bad)))) (cond (Nat.blt pc 228) (cond (Nat.blt pc 226) (cond (Nat.blt pc 223) (cond (Nat.beq pc 221) (o_iload 5 223) o_bad) (cond (Nat.beq pc 223) (o_icmp (fun x y => x ≤ y) 228 226) o_bad)) (cond (Nat.blt pc 227) (cond (Nat.beq pc 226) (o_const (1) 227) o_bad) (cond (Nat.beq pc 227) (o_zret) o_bad))) (cond (Nat.blt pc 234) (cond (Nat.blt pc 231) (cond (Nat.beq pc 228) (o_iinc 6 (1) 231) o_bad) (cond (Nat.beq pc 231) (o_goto 103) o_bad)) (cond (Nat.blt pc 235) (cond (Nat.beq pc 234) (o_const (0) 235) o_bad) (cond (Nat.beq pc 235) (o_zret) o_bad)))))))
set_option maxRecDepth 20000 in
theorem ok_X11_isTooMany : HOKs cX11_isTooMany RX11 10 (some .boolean) 3 ins_X11_isTooMany := fun _ => hnd (hnd (hnd (hnd (hnd (hnd (hlf (ok_aload_n dX11_isTooMany_0 rfl rfl)) (hnd (hlf (ok_getf (C := RX11) (T := TX11) dX11_isTooMany_1 rfl rfl (by decide) rfl inX11 wd_879 rfl)) (hlf (ok_iload_n dX11_isTooMany_4 rfl rfl)))) (hnd (hnd (hlf (ok_iald dX11_isTooMany_5 rfl)) (hlf (ok_istore dX11_isTooMany_6 (by decide) rfl))) (hnd (hlf (ok_aload_n dX11_isTooMany_8 rfl rfl)) (hlf (ok_getf (C := RX11) (T := TX11) dX11_isTooMany_9 rfl rfl (by decide) rfl inX11 wd_890 rfl))))) (hnd (hnd (hnd (hlf (ok_iload dX11_isTooMany_12 rfl)) (hlf (ok_iald dX11_isTooMany_14 rfl))) (hnd (hlf (ok_istore dX11_isTooMany_15 (by decide) rfl)) (hlf (ok_iconst dX11_isTooMany_17 (by decide) rfl)))) (hnd (hnd (hlf (ok_istore dX11_isTooMany_18 (by decide) rfl)) (hlf (ok_iload dX11_isTooMany_20 rfl))) (hnd (hlf (ok_aload_n dX11_isTooMany_22 rfl rfl)) (hlf (ok_getf (C := RX11) (T := TX11) dX11_isTooMany_23 rfl rfl (by decide) rfl inX11 wd_884 rfl)))))) (hnd (hnd (hnd (hnd (hlf (ok_icmp_ge dX11_isTooMany_26 (by decide) rfl)) (hlf (ok_iload_n dX11_isTooMany_29 rfl rfl))) (hnd (hlf (ok_iload dX11_isTooMany_30 rfl)) (hlf (ok_callS (y := yX11_has) dX11_isTooMany_32 ct_X11_has (by decide) (by decide) wd_1046 wd_1044 wd_1045 wd_50 (by decide +kernel) rfl)))) (hnd (hnd (hlf (ok_if_eq dX11_isTooMany_35 (by decide) rfl)) (hlf (ok_aload_n dX11_isTooMany_38 rfl rfl))) (hnd (hlf (ok_getf (C := RX11) (T := TX11) dX11_isTooMany_39 rfl rfl (by decide) rfl inX11 wd_892 rfl)) (hlf (ok_iload dX11_isTooMany_42 rfl))))) (hnd (hnd (hnd (hlf (ok_iald dX11_isTooMany_44 rfl)) (hlf (ok_ldc dX11_isTooMany_45 wd_1084 rfl))) (hnd (hlf (ok_icmp_eq dX11_isTooMany_47 (by decide) rfl)) (hlf (ok_aload_n dX11_isTooMany_50 rfl rfl)))) (hnd (hnd (hlf (ok_getf (C := RX11) (T := TX11) dX11_isTooMany_51 rfl rfl (by decide) rfl inX11 wd_887 rfl)) (hlf (ok_iload dX11_isTooMany_54 rfl))) (hnd (hlf (ok_iald dX11_isTooMany_56 rfl)) (hlf (ok_aload_n dX11_isTooMany_57 rfl rfl))))))) (hnd (hnd (hnd (hnd (hlf (ok_getf (C := RX11) (T := TX11) dX11_isTooMany_58 rfl rfl (by decide) rfl inX11 wd_892 rfl)) (hnd (hlf (ok_iload dX11_isTooMany_61 rfl)) (hlf (ok_iald dX11_isTooMany_63 rfl)))) (hnd (hnd (hlf (ok_icmp_lt dX11_isTooMany_64 (by decide) rfl)) (hlf (ok_aload_n dX11_isTooMany_67 rfl rfl))) (hnd (hlf (ok_getf (C := RX11) (T := TX11) dX11_isTooMany_68 rfl rfl (by decide) rfl inX11 wd_890 rfl)) (hlf (ok_iload dX11_isTooMany_71 rfl))))) (hnd (hnd (hnd (hlf (ok_iald dX11_isTooMany_73 rfl)) (hlf (ok_aload_n dX11_isTooMany_74 rfl rfl))) (hnd (hlf (ok_getf (C := RX11) (T := TX11) dX11_isTooMany_75 rfl rfl (by decide) rfl inX11 wd_893 rfl)) (hlf (ok_iload dX11_isTooMany_78 rfl)))) (hnd (hnd (hlf (ok_iald dX11_isTooMany_80 rfl)) (hlf (ok_iadd dX11_isTooMany_81 rfl))) (hnd (hlf (ok_istore dX11_isTooMany_82 (by decide) rfl)) (hlf (ok_iinc dX11_isTooMany_84 (by decide) (by decide) rfl)))))) (hnd (hnd (hnd (hnd (hlf (ok_goto dX11_isTooMany_87 (by decide))) (hlf (ok_iload_n dX11_isTooMany_90 rfl rfl))) (hnd (hlf (ok_aload_n dX11_isTooMany_91 rfl rfl)) (hlf (ok_getf (C := RX11) (T := TX11) dX11_isTooMany_92 rfl rfl (by decide) rfl inX11 wd_891 rfl)))) (hnd (hnd (hlf (ok_iload dX11_isTooMany_95 rfl)) (hlf (ok_iald dX11_isTooMany_97 rfl))) (hnd (hlf (ok_isub dX11_isTooMany_98 rfl)) (hlf (ok_iconst dX11_isTooMany_99 (by decide) rfl))))) (hnd (hnd (hnd (hlf (ok_iadd dX11_isTooMany_100 rfl)) (hlf (ok_istore dX11_isTooMany_101 (by decide) rfl))) (hnd (hlf (ok_iload dX11_isTooMany_103 rfl)) (hlf (ok_iload_n dX11_isTooMany_105 rfl rfl)))) (hnd (hnd (hlf (ok_icmp_gt dX11_isTooMany_106 (by decide) rfl)) (hlf (ok_iconst dX11_isTooMany_109 (by decide) rfl))) (hnd (hlf (ok_istore dX11_isTooMany_110 (by decide) rfl)) (hlf (ok_iconst dX11_isTooMany_112 (by decide) rfl)))))))) (hnd (hnd (hnd (hnd (hnd (hlf (ok_istore dX11_isTooMany_113 (by decide) rfl)) (hnd (hlf (ok_iload dX11_isTooMany_115 rfl)) (hlf (ok_aload_n dX11_isTooMany_117 rfl rfl)))) (hnd (hnd (hlf (ok_getf (C := RX11) (T := TX11) dX11_isTooMany_118 rfl rfl (by decide) rfl inX11 wd_898 rfl)) (hlf (ok_icmp_ge dX11_isTooMany_121 (by decide) rfl))) (hnd (hlf (ok_aload_n dX11_isTooMany_124 rfl rfl)) (hlf (ok_getf (C := RX11) (T := TX11) dX11_isTooMany_125 rfl rfl (by decide) rfl inX11 wd_904 rfl))))) (hnd (hnd (hnd (hlf (ok_iload dX11_isTooMany_128 rfl)) (hlf (ok_iald dX11_isTooMany_130 rfl))) (hnd (hlf (ok_if_ne dX11_isTooMany_131 (by decide) rfl)) (hlf (ok_aload_n dX11_isTooMany_134 rfl rfl)))) (hnd (hnd (hlf (ok_getf (C := RX11) (T := TX11) dX11_isTooMany_135 rfl rfl (by decide) rfl inX11 wd_899 rfl)) (hlf (ok_iload dX11_isTooMany_138 rfl))) (hnd (hlf (ok_iald dX11_isTooMany_140 rfl)) (hlf (ok_iload_n dX11_isTooMany_141 rfl rfl)))))) (hnd (hnd (hnd (hnd (hlf (ok_icmp_ne dX11_isTooMany_142 (by decide) rfl)) (hlf (ok_aload_n dX11_isTooMany_145 rfl rfl))) (hnd (hlf (ok_aload_n dX11_isTooMany_146 rfl rfl)) (hlf (ok_getf (C := RX11) (T := TX11) dX11_isTooMany_147 rfl rfl (by decide) rfl inX11 wd_900 rfl)))) (hnd (hnd (hlf (ok_iload dX11_isTooMany_150 rfl)) (hlf (ok_iald dX11_isTooMany_152 rfl))) (hnd (hlf (ok_callV (y := yX11_isLawyers) (n' := 1) (C := RX11) (T := TX11) dX11_isTooMany_153 ct_X11_isLawyers (by decide) (by decide) wd_1079 wd_1076 wd_1078 wd_25 wd_50 rfl (by decide +kernel) rfl rfl rfl)) (hlf (ok_if_ne dX11_isTooMany_156 (by decide) rfl))))) (hnd (hnd (hnd (hlf (ok_iconst dX11_isTooMany_159 (by decide) rfl)) (hlf (ok_goto dX11_isTooMany_160 (by decide)))) (hnd (hlf (ok_iconst dX11_isTooMany_163 (by decide) rfl)) (hlf (ok_istore dX11_isTooMany_164 (by decide) rfl)))) (hnd (hnd (hlf (ok_iload dX11_isTooMany_166 rfl)) (hlf (ok_iload dX11_isTooMany_168 rfl))) (hnd (hlf (ok_if_eq dX11_isTooMany_170 (by decide) rfl)) (hlf (ok_aload_n dX11_isTooMany_173 rfl rfl))))))) (hnd (hnd (hnd (hnd (hnd (hlf (ok_getf (C := RX11) (T := TX11) dX11_isTooMany_174 rfl rfl (by decide) rfl inX11 wd_901 rfl)) (hlf (ok_iload dX11_isTooMany_177 rfl))) (hnd (hlf (ok_iald dX11_isTooMany_179 rfl)) (hlf (ok_iload dX11_isTooMany_180 rfl)))) (hnd (hnd (hlf (ok_icmp_lt dX11_isTooMany_182 (by decide) rfl)) (hlf (ok_aload_n dX11_isTooMany_185 rfl rfl))) (hnd (hlf (ok_getf (C := RX11) (T := TX11) dX11_isTooMany_186 rfl rfl (by decide) rfl inX11 wd_901 rfl)) (hlf (ok_iload dX11_isTooMany_189 rfl))))) (hnd (hnd (hnd (hlf (ok_iald dX11_isTooMany_191 rfl)) (hlf (ok_iload dX11_isTooMany_192 rfl))) (hnd (hlf (ok_aload_n dX11_isTooMany_194 rfl rfl)) (hlf (ok_getf (C := RX11) (T := TX11) dX11_isTooMany_195 rfl rfl (by decide) rfl inX11 wd_891 rfl)))) (hnd (hnd (hlf (ok_iload dX11_isTooMany_198 rfl)) (hlf (ok_iald dX11_isTooMany_200 rfl))) (hnd (hlf (ok_iadd dX11_isTooMany_201 rfl)) (hlf (ok_icmp_ge dX11_isTooMany_202 (by decide) rfl)))))) (hnd (hnd (hnd (hnd (hlf (ok_iconst dX11_isTooMany_205 (by decide) rfl)) (hlf (ok_goto dX11_isTooMany_206 (by decide)))) (hnd (hlf (ok_iconst dX11_isTooMany_209 (by decide) rfl)) (hlf (ok_iadd dX11_isTooMany_210 rfl)))) (hnd (hnd (hlf (ok_istore dX11_isTooMany_211 (by decide) rfl)) (hlf (ok_iinc dX11_isTooMany_213 (by decide) (by decide) rfl))) (hnd (hlf (ok_goto dX11_isTooMany_216 (by decide))) (hlf (ok_iload dX11_isTooMany_219 rfl))))) (hnd (hnd (hnd (hlf (ok_iload dX11_isTooMany_221 rfl)) (hlf (ok_icmp_le dX11_isTooMany_223 (by decide) rfl))) (hnd (hlf (ok_iconst dX11_isTooMany_226 (by decide) rfl)) (hlf (ok_zret dX11_isTooMany_227)))) (hnd (hnd (hlf (ok_iinc dX11_isTooMany_228 (by decide) (by decide) rfl)) (hlf (ok_goto dX11_isTooMany_231 (by decide)))) (hnd (hlf (ok_iconst dX11_isTooMany_234 (by decide) rfl)) (hlf (ok_zret dX11_isTooMany_235))))))))

set_option maxHeartbeats 1000000 in
theorem vc_X11_isTooMany : MVC ins_X11_isTooMany 10 4 sp_X11_isTooMany := by
  intro as w σ q hl hs
  unfold sp_X11_isTooMany at hs
  split at hs
  rotate_left
  · exact hs.elim
  rename_i x s y
  obtain ⟨nv, n, p, c, m, d, ⟨hnv, hnv2⟩, ⟨hn, hn2⟩, hp, rfl, hc, hc2, hm1, hm2, hm3, hd, rfl, hs⟩ := hs
  have ep : (nI p).toNatClampNeg = p := nI_clamp (by omega)
  have ec : (nI c).toNatClampNeg = c := nI_clamp (by omega)
  have hin4 : vp_in (nI c) 4 := vp_in_nI hc (by decide)
  refine ⟨fun pc => Nat.beq pc 20 || Nat.beq pc 103 || Nat.beq pc 115, Itm w σ nv n p c m d s, 90, 90, ?_, ?_⟩
  · rintro N pc ls st w' σ' hh (⟨rfl, i, u, g, a, b, e, hi, rfl, rfl, hg, rfl, rfl, rfl, rfl⟩ | ⟨rfl, k, f, a, b, e, hk, rfl, rfl, hno, rfl, rfl, rfl, rfl⟩ | ⟨rfl, k, i, f, u, v, e, hk, hi, rfl, rfl, hno, rfl, rfl, rfl, rfl, rfl, rfl⟩)
    · apply br2
      · intro h1
        obtain rfl := lp_end hnv2 hi h1
        have eg : g = gvM σ i c s := by
          unfold gvM
          rcases hg with ⟨h2, h3⟩ | ⟨h2, h3⟩
          · rw [cif_p h3]; exact h2
          · rw [cif_n h3]; exact h2
        subst eg
        refine And.intro hin4 ?_
        refine ⟨(m - 0) * 1000 + 999, by omega, Or.inr (Or.inl ⟨rfl, 0, _, a, b, e, Nat.zero_le _, rfl, ?_, fun j hj => absurd hj (by omega), rfl, rfl, rfl, rfl⟩)⟩
        show nI d - σ 20 10 (nI c).toNatClampNeg + 1 = _
        rw [ec, hm3, nI_0, Int32.add_zero]
      · intro h1
        have hlt := lp_go hnv2 hi h1
        have e1 : (nI i).toNatClampNeg = i := nI_clamp (by omega)
        have hin : vp_in (nI i) 14 := vp_in_nI (by omega) (by decide)
        have go : ∀ g', fgP σ c (i + 1) s g' → ∃ N', N' < 100000 + (nv - i) ∧ Itm w σ nv n p c m d s 20 N' [some (HR 11 0), some (HI (nI p)), some (HI s), some (HI (nI d)), some (HI (nI c)), some (HI g'), some (HI (nI i + 1)), a, b, e] [] w σ := fun g' hg' =>
          ⟨100000 + (nv - (i + 1)), by omega, Or.inl ⟨rfl, i + 1, _, g', a, b, e, hlt, rfl, nI_1 i, hg', rfl, rfl, rfl, rfl⟩⟩
        have keep : ¬ (bt1 s i ∧ ¬ σ 20 11 c = -1000000005 ∧ ¬ σ 20 7 i < σ 20 11 c) → fgP σ c (i + 1) s g := fun h => by
          rcases hg with ⟨h2, v, hv, h3⟩ | ⟨h2, h3⟩
          · exact Or.inl ⟨h2, v, by omega, h3⟩
          · exact Or.inr ⟨h2, fun ⟨v, hv, h4⟩ => (Nat.lt_succ_iff_lt_or_eq.mp hv).elim (fun z => h3 ⟨v, z, h4⟩) (fun z => h (z ▸ h4))⟩
        apply br2
        rotate_left
        · intro h2
          exact And.intro (fun _ => go g (keep fun h => h2 h.1)) (fun h => absurd rfl h)
        intro h2
        refine And.intro (fun h => absurd h (by decide)) (fun _ => And.intro hin4 ?_)
        apply br2
        · intro h3
          have h3 : σ 20 11 (nI c).toNatClampNeg = -1000000005 := h3
          rw [ec] at h3
          exact go g (keep fun h => h.2.1 h3)
        intro h3
        have h3 : ¬ σ 20 11 (nI c).toNatClampNeg = -1000000005 := h3
        rw [ec] at h3
        refine And.intro hin (And.intro hin4 ?_)
        apply br2
        · intro h4
          have h4 : σ 20 7 (nI i).toNatClampNeg < σ 20 11 (nI c).toNatClampNeg := h4
          rw [ec, e1] at h4
          exact go g (keep fun h => h.2.2 h4)
        · intro h4
          have h4 : ¬ σ 20 7 (nI i).toNatClampNeg < σ 20 11 (nI c).toNatClampNeg := h4
          rw [ec, e1] at h4
          refine And.intro hin4 (And.intro hin4 ?_)
          refine go _ (Or.inl ⟨?_, i, by omega, h2, h3, h4⟩)
          show σ 20 9 (nI c).toNatClampNeg + σ 20 12 (nI c).toNatClampNeg = _
          rw [ec]
    · apply br2
      · intro h1
        have h1 : nI d < nI d - nI m + 1 + nI k := h1
        have := (fk_lt hd hm2 (by omega)).mp h1
        exact ⟨Or.inl rfl, hs.2 fun ⟨j, hj, h2⟩ => h2 (hno j (by omega))⟩
      · intro h1
        have h1 : ¬ nI d < nI d - nI m + 1 + nI k := h1
        have hlt : k < m := by
          rcases Nat.lt_or_ge k m with z | z
          · exact z
          · exact absurd ((fk_lt hd hm2 (by omega)).mpr z) h1
        exact ⟨(m - k) * 1000 + (n - 0), by omega, Or.inr (Or.inr ⟨rfl, k, 0, _, _, _, e, hlt, Nat.zero_le _, rfl, rfl, hno, rfl, rfl, rfl, rfl, rfl, rfl⟩)⟩
    · obtain ⟨F, hF⟩ : ∃ F, F = nI d - nI m + 1 + nI k := ⟨_, rfl⟩
      rw [← hF]
      apply br2
      · intro h1
        obtain rfl := lp_end hn2 hi h1
        apply br2
        · intro h2
          refine ⟨(m - (k + 1)) * 1000 + 999, by omega, Or.inr (Or.inl ⟨rfl, k + 1, _, _, _, _, hk, rfl, ?_, fun j hj => (Nat.lt_succ_iff_lt_or_eq.mp hj).elim (hno j) (fun z => by rw [z, ← hF]; exact h2), rfl, rfl, rfl, rfl⟩)⟩
          rw [← nI_1 k, ← Int32.add_assoc, ← hF]
        · intro h2
          exact ⟨Or.inr rfl, hs.1 ⟨k, hk, by rw [← hF]; exact h2⟩⟩
      · intro h1
        have hlt := lp_go hn2 hi h1
        have e1 : (nI i).toNatClampNeg = i := nI_clamp (by omega)
        have hin : vp_in (nI i) 100 := vp_in_nI (by omega) (by decide)
        have goY : tmP σ nv p m i F → ∃ N', N' < (m - k) * 1000 + (n - i) ∧ Itm w σ nv n p c m d s 115 N' [some (HR 11 0), some (HI (nI p)), some (HI s), some (HI (nI d)), some (HI (nI c)), some (HI (gvM σ nv c s)), some (HI F), some (HI (nI (1 + wnM σ nv p m i F) + 1)), some (HI (nI i + 1)), some (HI 1)] [] w σ := fun ht => by
          refine ⟨(m - k) * 1000 + (n - (i + 1)), by omega, Or.inr (Or.inr ⟨rfl, k, i + 1, _, _, _, _, hk, hlt, rfl, hF, hno, ?_, nI_1 i, rfl, rfl, rfl, rfl⟩)⟩
          unfold wnM
          rw [cnt_y (decide_eq_true ht), ← Nat.add_assoc]
          exact nI_1 _
        have goN : ∀ z : Int32, ¬ tmP σ nv p m i F → ∃ N', N' < (m - k) * 1000 + (n - i) ∧ Itm w σ nv n p c m d s 115 N' [some (HR 11 0), some (HI (nI p)), some (HI s), some (HI (nI d)), some (HI (nI c)), some (HI (gvM σ nv c s)), some (HI F), some (HI (nI (1 + wnM σ nv p m i F) + 0)), some (HI (nI i + 1)), some (HI z)] [] w σ := fun z ht => by
          refine ⟨(m - k) * 1000 + (n - (i + 1)), by omega, Or.inr (Or.inr ⟨rfl, k, i + 1, _, _, _, _, hk, hlt, rfl, hF, hno, ?_, nI_1 i, rfl, rfl, rfl, rfl⟩)⟩
          unfold wnM
          rw [cnt_n (decide_eq_false ht)]
          exact Int32.add_zero _
        refine And.intro hin ?_
        apply br2
        rotate_left
        · intro h2
          have h2 : ¬ σ 20 21 (nI i).toNatClampNeg = 0 := h2
          rw [e1] at h2
          exact And.intro (fun _ => goN 0 fun h => h2 h.1.1) (fun h => absurd rfl h)
        intro h2
        have h2 : σ 20 21 (nI i).toNatClampNeg = 0 := h2
        rw [e1] at h2
        refine And.intro hin ?_
        apply br2
        rotate_left
        · intro h3
          have h3 : ¬ σ 20 16 (nI i).toNatClampNeg = nI p := h3
          rw [e1] at h3
          exact And.intro (fun _ => goN 0 fun h => h3 h.1.2.1) (fun h => absurd rfl h)
        intro h3
        have h3 : σ 20 16 (nI i).toNatClampNeg = nI p := h3
        rw [e1] at h3
        refine And.intro hin ?_
        refine ⟨nv, ⟨hnv, hnv2⟩, ?_⟩
        apply br2
        · intro h4
          have h4 : lwM σ nv (σ 20 17 (nI i).toNatClampNeg) := h4
          rw [e1] at h4
          refine And.intro (fun h => absurd h (by decide)) (fun _ => ?_)
          exact And.intro (fun _ => goN 0 fun h => h.1.2.2 h4) (fun h => absurd rfl h)
        intro h4
        have h4 : ¬ lwM σ nv (σ 20 17 (nI i).toNatClampNeg) := h4
        rw [e1] at h4
        refine And.intro (fun _ => ?_) (fun h => absurd rfl h)
        refine And.intro (fun h => absurd h (by decide)) (fun _ => And.intro hin ?_)
        apply br2
        · intro h5
          have h5 : σ 20 18 (nI i).toNatClampNeg < F := h5
          rw [e1] at h5
          exact goN 1 fun h => h.2.1 h5
        intro h5
        have h5 : ¬ σ 20 18 (nI i).toNatClampNeg < F := h5
        rw [e1] at h5
        refine And.intro hin (And.intro hin4 ?_)
        apply br2
        · intro h6
          have h6 : F + σ 20 10 (nI c).toNatClampNeg ≤ σ 20 18 (nI i).toNatClampNeg := h6
          rw [e1, ec, hm3] at h6
          exact goN 1 fun h => h.2.2 h6
        · intro h6
          have h6 : ¬ F + σ 20 10 (nI c).toNatClampNeg ≤ σ 20 18 (nI i).toNatClampNeg := h6
          rw [e1, ec, hm3] at h6
          exact goY ⟨⟨h2, h3, h4⟩, h5, h6⟩
  · refine And.intro (vp_in_nI hp (by decide)) ?_
    have hin5 : vp_in (σ 20 0 (nI p).toNatClampNeg) 4 := by rw [ep, hc2]; exact hin4
    refine And.intro hin5 ?_
    refine ⟨100000 + (nv - 0), Or.inl ⟨rfl, 0, 0, σ 20 9 (σ 20 0 (nI p).toNatClampNeg).toNatClampNeg, none, none, none, Nat.zero_le _, rfl, rfl, Or.inr ⟨by rw [ep, hc2, ec], fun ⟨v, hv, _⟩ => absurd hv (by omega)⟩, ?_, rfl, rfl, rfl⟩⟩
    rw [show [some (HR 11 0), some (HI (nI p)), some (HI s), some (HI (nI d)), some (HI (nI c)), some (HI (σ 20 9 (σ 20 0 (nI p).toNatClampNeg).toNatClampNeg)), some (HI 0), none, none, none] = [some (HR 11 0), some (HI (nI p)), some (HI s), some (HI (nI d)), some (HI (σ 20 0 (nI p).toNatClampNeg)), some (HI (σ 20 9 (σ 20 0 (nI p).toNatClampNeg).toNatClampNeg)), some (HI 0), none, none, none] from by rw [ep, hc2]]
    rfl
theorem ct_X11_isTooMany : Ctr yX11_isTooMany cX11_isTooMany 10 (some .boolean) 3 0 0 4 sp_X11_isTooMany := ctr_of (by decide +kernel) rfl (by decide) ok_X11_isTooMany vc_X11_isTooMany

