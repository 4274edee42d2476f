/-! The reference, 3: the reason -/
def MWf (σ : HS) (n np nv : Nat) : Prop := Nv σ nv ∧ Nn σ n ∧ (np ≤ 10 ∧ σ 11 0 1 = nI np) ∧ (∀ p, p < np → ∃ f, f < 10 ∧ σ 20 1 p = nI f) ∧ (∀ p, p < np → ∃ c, c < 4 ∧ σ 20 0 p = nI c) ∧ (∀ c, c < 4 → ¬ σ 21 0 c = 0 → ∃ m, 1 ≤ m ∧ m ≤ 60 ∧ σ 20 10 c = nI m) ∧ σ 20 22 0 ≤ 60 ∧ (∃ t, t ≤ 6 ∧ σ 11 0 28 = nI t) ∧ ∀ i, i < n → ∃ q, q < np ∧ σ 20 16 i = nI q
abbrev r5M (σ : HS) (c : Nat) (day b : Int32) : Prop := σ 21 0 c = 0 ∨ σ 20 13 c < b ∨ σ 20 14 c >>> ((day - day / 7 * 7) &&& 31) &&& 1 = 1
abbrev smM (σ : HS) (n p : Nat) (s day a b : Int32) : Prop := ∃ k, k < n ∧ meM σ k day a b ∧ (σ 20 16 k = nI p ∨ ¬ σ 20 17 k &&& s = 0)
abbrev riM (σ : HS) (n p : Nat) (day a b : Int32) : Prop := ∃ k, k < n ∧ meM σ k day a b ∧ σ 20 8 (σ 20 1 p).toNatClampNeg >>> (σ 20 1 (σ 20 16 k).toNatClampNeg &&& 31) &&& 1 = 1
abbrev ntM (σ : HS) (n a b : Nat) (day : Int32) : Prop := ∃ h, a ≤ h ∧ h < a + b ∧ ¬ nI (cnt (fun i => decide (atM σ i day (nI h))) n) < tbM σ day
noncomputable def rhM (σ : HS) (n p a b : Nat) (s day : Int32) : Int32 := cif (smM σ n p s day (nI a) (nI b)) 7 (cif (riM σ n p day (nI a) (nI b)) 8 (cif (ntM σ n a b day) 9 0))
noncomputable def reM (σ : HS) (n nv p d a b : Nat) (s : Int32) : Int32 := cif (σ 20 2 p = 0) 1 (cif (ulM σ nv p s) 2 (cif (baM σ nv p s (nI d)) 3 (cif (caM σ nv s) 4 (cif (¬ lwM σ nv s ∧ r5M σ (σ 20 0 p).toNatClampNeg (nI d) (nI b)) 5 (cif (¬ lwM σ nv s ∧ tooM2 σ nv p (σ 20 10 (σ 20 0 p).toNatClampNeg).toNatClampNeg n (σ 20 0 p).toNatClampNeg d s) 6 (rhM σ n p a b s (nI d)))))))
def sp_X11_reason : HSp := fun as w σ K => match as with
  | [.inr (.inl (11, some 0)), .inl x, .inl s, .inl y, .inl xa, .inl xb] => ∃ n np nv p d a b, MWf σ n np nv ∧ p < np ∧ x = nI p ∧ d ≤ 400 ∧ y = nI d ∧ xa = nI a ∧ xb = nI b ∧ a + b ≤ 12 ∧ K (some (HI (reM σ n nv p d a b s))) w σ
  | _ => False
noncomputable def Irm (w : HW) (σ : HS) (n p d a b : Nat) (s : Int32) (q : HRt) : Nat → Nat → HKp := fun pc N ls st w' σ' =>
    q (some (HI (rhM σ n p a b s (nI d)))) w σ ∧ st = [] ∧ w = w' ∧ σ = σ' ∧
    ((pc = 117 ∧ ∃ (i : Nat) (u : Int32), i ≤ n ∧ N = 1000 + (n - i) ∧ u = nI i ∧ (∀ k, k < i → ¬ (meM σ k (nI d) (nI a) (nI b) ∧ (σ 20 16 k = nI p ∨ ¬ σ 20 17 k &&& s = 0))) ∧ ls = [some (HR 11 0), some (HI (nI p)), some (HI s), some (HI (nI d)), some (HI (nI a)), some (HI (nI b)), some (HI u)]) ∨
    (pc = 175 ∧ ¬ smM σ n p s (nI d) (nI a) (nI b) ∧ ∃ (i : Nat) (u : Int32), i ≤ n ∧ N = 500 + (n - i) ∧ u = nI i ∧ (∀ k, k < i → ¬ (meM σ k (nI d) (nI a) (nI b) ∧ σ 20 8 (σ 20 1 p).toNatClampNeg >>> (σ 20 1 (σ 20 16 k).toNatClampNeg &&& 31) &&& 1 = 1)) ∧ ls = [some (HR 11 0), some (HI (nI p)), some (HI s), some (HI (nI d)), some (HI (nI a)), some (HI (nI b)), some (HI u)]) ∨
    (pc = 240 ∧ ¬ smM σ n p s (nI d) (nI a) (nI b) ∧ ¬ riM σ n p (nI d) (nI a) (nI b) ∧ ∃ (i : Nat) (u : Int32), a ≤ i ∧ i ≤ a + b ∧ N = a + b - i ∧ u = nI i ∧ (∀ h, a ≤ h → h < i → nI (cnt (fun i => decide (atM σ i (nI d) (nI h))) n) < tbM σ (nI d)) ∧ ls = [some (HR 11 0), some (HI (nI p)), some (HI s), some (HI (nI d)), some (HI (nI a)), some (HI (nI b)), some (HI u)]))
theorem dX11_reason_0 : decode cX11_reason 0 = .ok (.aload_n 0, 1) := by decide +kernel
theorem dX11_reason_1 : decode cX11_reason 1 = .ok (.getfield 16, 3) := by decide +kernel
theorem dX11_reason_4 : decode cX11_reason 4 = .ok (.iload_n 1, 1) := by decide +kernel
theorem dX11_reason_5 : decode cX11_reason 5 = .ok (.iaload, 1) := by decide +kernel
theorem dX11_reason_6 : decode cX11_reason 6 = .ok (.ifCond .ne 5, 3) := by decide +kernel
theorem dX11_reason_9 : decode cX11_reason 9 = .ok (.iconst 1, 1) := by decide +kernel
theorem dX11_reason_10 : decode cX11_reason 10 = .ok (.ireturn, 1) := by decide +kernel
theorem dX11_reason_11 : decode cX11_reason 11 = .ok (.aload_n 0, 1) := by decide +kernel
theorem dX11_reason_12 : decode cX11_reason 12 = .ok (.iload_n 1, 1) := by decide +kernel
theorem dX11_reason_13 : decode cX11_reason 13 = .ok (.iload_n 2, 1) := by decide +kernel
theorem dX11_reason_14 : decode cX11_reason 14 = .ok (.invokevirtual 190, 3) := by decide +kernel
theorem dX11_reason_17 : decode cX11_reason 17 = .ok (.ifCond .eq 5, 3) := by decide +kernel
theorem dX11_reason_20 : decode cX11_reason 20 = .ok (.iconst 2, 1) := by decide +kernel
theorem dX11_reason_21 : decode cX11_reason 21 = .ok (.ireturn, 1) := by decide +kernel
theorem dX11_reason_22 : decode cX11_reason 22 = .ok (.aload_n 0, 1) := by decide +kernel
theorem dX11_reason_23 : decode cX11_reason 23 = .ok (.iload_n 1, 1) := by decide +kernel
theorem dX11_reason_24 : decode cX11_reason 24 = .ok (.iload_n 2, 1) := by decide +kernel
theorem dX11_reason_25 : decode cX11_reason 25 = .ok (.iload_n 3, 1) := by decide +kernel
theorem dX11_reason_26 : decode cX11_reason 26 = .ok (.invokevirtual 193, 3) := by decide +kernel
theorem dX11_reason_29 : decode cX11_reason 29 = .ok (.ifCond .eq 5, 3) := by decide +kernel
theorem dX11_reason_32 : decode cX11_reason 32 = .ok (.iconst 3, 1) := by decide +kernel
theorem dX11_reason_33 : decode cX11_reason 33 = .ok (.ireturn, 1) := by decide +kernel
theorem dX11_reason_34 : decode cX11_reason 34 = .ok (.aload_n 0, 1) := by decide +kernel
theorem dX11_reason_35 : decode cX11_reason 35 = .ok (.iload_n 2, 1) := by decide +kernel
theorem dX11_reason_36 : decode cX11_reason 36 = .ok (.invokevirtual 196, 3) := by decide +kernel
theorem dX11_reason_39 : decode cX11_reason 39 = .ok (.ifCond .eq 5, 3) := by decide +kernel
theorem dX11_reason_42 : decode cX11_reason 42 = .ok (.iconst 4, 1) := by decide +kernel
theorem dX11_reason_43 : decode cX11_reason 43 = .ok (.ireturn, 1) := by decide +kernel
theorem dX11_reason_44 : decode cX11_reason 44 = .ok (.aload_n 0, 1) := by decide +kernel
theorem dX11_reason_45 : decode cX11_reason 45 = .ok (.iload_n 2, 1) := by decide +kernel
theorem dX11_reason_46 : decode cX11_reason 46 = .ok (.invokevirtual 187, 3) := by decide +kernel
theorem dX11_reason_49 : decode cX11_reason 49 = .ok (.ifCond .ne 65, 3) := by decide +kernel
theorem dX11_reason_52 : decode cX11_reason 52 = .ok (.aload_n 0, 1) := by decide +kernel
theorem dX11_reason_53 : decode cX11_reason 53 = .ok (.getfield 7, 3) := by decide +kernel
theorem dX11_reason_56 : decode cX11_reason 56 = .ok (.iload_n 1, 1) := by decide +kernel
theorem dX11_reason_57 : decode cX11_reason 57 = .ok (.iaload, 1) := by decide +kernel
theorem dX11_reason_58 : decode cX11_reason 58 = .ok (.istore 6, 2) := by decide +kernel
theorem dX11_reason_60 : decode cX11_reason 60 = .ok (.aload_n 0, 1) := by decide +kernel
theorem dX11_reason_61 : decode cX11_reason 61 = .ok (.getfield 37, 3) := by decide +kernel
theorem dX11_reason_64 : decode cX11_reason 64 = .ok (.iload 6, 2) := by decide +kernel
theorem dX11_reason_66 : decode cX11_reason 66 = .ok (.baload, 1) := by decide +kernel
theorem dX11_reason_67 : decode cX11_reason 67 = .ok (.ifCond .eq 32, 3) := by decide +kernel
theorem dX11_reason_70 : decode cX11_reason 70 = .ok (.iload 5, 2) := by decide +kernel
theorem dX11_reason_72 : decode cX11_reason 72 = .ok (.aload_n 0, 1) := by decide +kernel
theorem dX11_reason_73 : decode cX11_reason 73 = .ok (.getfield 53, 3) := by decide +kernel
theorem dX11_reason_76 : decode cX11_reason 76 = .ok (.iload 6, 2) := by decide +kernel
theorem dX11_reason_78 : decode cX11_reason 78 = .ok (.iaload, 1) := by decide +kernel
theorem dX11_reason_79 : decode cX11_reason 79 = .ok (.if_icmp .gt 20, 3) := by decide +kernel
theorem dX11_reason_82 : decode cX11_reason 82 = .ok (.aload_n 0, 1) := by decide +kernel
theorem dX11_reason_83 : decode cX11_reason 83 = .ok (.getfield 56, 3) := by decide +kernel
theorem dX11_reason_86 : decode cX11_reason 86 = .ok (.iload 6, 2) := by decide +kernel
theorem dX11_reason_88 : decode cX11_reason 88 = .ok (.iaload, 1) := by decide +kernel
theorem dX11_reason_89 : decode cX11_reason 89 = .ok (.iload_n 3, 1) := by decide +kernel
theorem dX11_reason_90 : decode cX11_reason 90 = .ok (.bipush 7, 2) := by decide +kernel
theorem dX11_reason_92 : decode cX11_reason 92 = .ok (.irem, 1) := by decide +kernel
theorem dX11_reason_93 : decode cX11_reason 93 = .ok (.invokestatic 121, 3) := by decide +kernel
theorem dX11_reason_96 : decode cX11_reason 96 = .ok (.ifCond .eq 5, 3) := by decide +kernel
theorem dX11_reason_99 : decode cX11_reason 99 = .ok (.iconst 5, 1) := by decide +kernel
theorem dX11_reason_100 : decode cX11_reason 100 = .ok (.ireturn, 1) := by decide +kernel
theorem dX11_reason_101 : decode cX11_reason 101 = .ok (.aload_n 0, 1) := by decide +kernel
theorem dX11_reason_102 : decode cX11_reason 102 = .ok (.iload_n 1, 1) := by decide +kernel
theorem dX11_reason_103 : decode cX11_reason 103 = .ok (.iload_n 2, 1) := by decide +kernel
theorem dX11_reason_104 : decode cX11_reason 104 = .ok (.iload_n 3, 1) := by decide +kernel
theorem dX11_reason_105 : decode cX11_reason 105 = .ok (.invokevirtual 199, 3) := by decide +kernel
theorem dX11_reason_108 : decode cX11_reason 108 = .ok (.ifCond .eq 6, 3) := by decide +kernel
theorem dX11_reason_111 : decode cX11_reason 111 = .ok (.bipush 6, 2) := by decide +kernel
theorem dX11_reason_113 : decode cX11_reason 113 = .ok (.ireturn, 1) := by decide +kernel
theorem dX11_reason_114 : decode cX11_reason 114 = .ok (.iconst 0, 1) := by decide +kernel
theorem dX11_reason_115 : decode cX11_reason 115 = .ok (.istore 6, 2) := by decide +kernel
theorem dX11_reason_117 : decode cX11_reason 117 = .ok (.iload 6, 2) := by decide +kernel
theorem dX11_reason_119 : decode cX11_reason 119 = .ok (.aload_n 0, 1) := by decide +kernel
theorem dX11_reason_120 : decode cX11_reason 120 = .ok (.getfield 118, 3) := by decide +kernel
theorem dX11_reason_123 : decode cX11_reason 123 = .ok (.if_icmp .ge 49, 3) := by decide +kernel
theorem dX11_reason_126 : decode cX11_reason 126 = .ok (.aload_n 0, 1) := by decide +kernel
theorem dX11_reason_127 : decode cX11_reason 127 = .ok (.iload 6, 2) := by decide +kernel
theorem dX11_reason_129 : decode cX11_reason 129 = .ok (.iload_n 3, 1) := by decide +kernel
theorem dX11_reason_130 : decode cX11_reason 130 = .ok (.iload 4, 2) := by decide +kernel
theorem dX11_reason_132 : decode cX11_reason 132 = .ok (.iload 5, 2) := by decide +kernel
theorem dX11_reason_134 : decode cX11_reason 134 = .ok (.invokevirtual 202, 3) := by decide +kernel
theorem dX11_reason_137 : decode cX11_reason 137 = .ok (.ifCond .eq 29, 3) := by decide +kernel
theorem dX11_reason_140 : decode cX11_reason 140 = .ok (.aload_n 0, 1) := by decide +kernel
theorem dX11_reason_141 : decode cX11_reason 141 = .ok (.getfield 62, 3) := by decide +kernel
theorem dX11_reason_144 : decode cX11_reason 144 = .ok (.iload 6, 2) := by decide +kernel
theorem dX11_reason_146 : decode cX11_reason 146 = .ok (.iaload, 1) := by decide +kernel
theorem dX11_reason_147 : decode cX11_reason 147 = .ok (.iload_n 1, 1) := by decide +kernel
theorem dX11_reason_148 : decode cX11_reason 148 = .ok (.if_icmp .eq 15, 3) := by decide +kernel
theorem dX11_reason_151 : decode cX11_reason 151 = .ok (.aload_n 0, 1) := by decide +kernel
theorem dX11_reason_152 : decode cX11_reason 152 = .ok (.getfield 65, 3) := by decide +kernel
theorem dX11_reason_155 : decode cX11_reason 155 = .ok (.iload 6, 2) := by decide +kernel
theorem dX11_reason_157 : decode cX11_reason 157 = .ok (.iaload, 1) := by decide +kernel
theorem dX11_reason_158 : decode cX11_reason 158 = .ok (.iload_n 2, 1) := by decide +kernel
theorem dX11_reason_159 : decode cX11_reason 159 = .ok (.iand, 1) := by decide +kernel
theorem dX11_reason_160 : decode cX11_reason 160 = .ok (.ifCond .eq 6, 3) := by decide +kernel
theorem dX11_reason_163 : decode cX11_reason 163 = .ok (.bipush 7, 2) := by decide +kernel
theorem dX11_reason_165 : decode cX11_reason 165 = .ok (.ireturn, 1) := by decide +kernel
theorem dX11_reason_166 : decode cX11_reason 166 = .ok (.iinc 6 1, 3) := by decide +kernel
theorem dX11_reason_169 : decode cX11_reason 169 = .ok (.goto (-52), 3) := by decide +kernel
theorem dX11_reason_172 : decode cX11_reason 172 = .ok (.iconst 0, 1) := by decide +kernel
theorem dX11_reason_173 : decode cX11_reason 173 = .ok (.istore 6, 2) := by decide +kernel
theorem dX11_reason_175 : decode cX11_reason 175 = .ok (.iload 6, 2) := by decide +kernel
theorem dX11_reason_177 : decode cX11_reason 177 = .ok (.aload_n 0, 1) := by decide +kernel
theorem dX11_reason_178 : decode cX11_reason 178 = .ok (.getfield 118, 3) := by decide +kernel
theorem dX11_reason_181 : decode cX11_reason 181 = .ok (.if_icmp .ge 55, 3) := by decide +kernel
theorem dX11_reason_184 : decode cX11_reason 184 = .ok (.aload_n 0, 1) := by decide +kernel
theorem dX11_reason_185 : decode cX11_reason 185 = .ok (.iload 6, 2) := by decide +kernel
theorem dX11_reason_187 : decode cX11_reason 187 = .ok (.iload_n 3, 1) := by decide +kernel
theorem dX11_reason_188 : decode cX11_reason 188 = .ok (.iload 4, 2) := by decide +kernel
theorem dX11_reason_190 : decode cX11_reason 190 = .ok (.iload 5, 2) := by decide +kernel
theorem dX11_reason_192 : decode cX11_reason 192 = .ok (.invokevirtual 202, 3) := by decide +kernel
theorem dX11_reason_195 : decode cX11_reason 195 = .ok (.ifCond .eq 35, 3) := by decide +kernel
theorem dX11_reason_198 : decode cX11_reason 198 = .ok (.aload_n 0, 1) := by decide +kernel
theorem dX11_reason_199 : decode cX11_reason 199 = .ok (.getfield 34, 3) := by decide +kernel
theorem dX11_reason_202 : decode cX11_reason 202 = .ok (.aload_n 0, 1) := by decide +kernel
theorem dX11_reason_203 : decode cX11_reason 203 = .ok (.getfield 13, 3) := by decide +kernel
theorem dX11_reason_206 : decode cX11_reason 206 = .ok (.iload_n 1, 1) := by decide +kernel
theorem dX11_reason_207 : decode cX11_reason 207 = .ok (.iaload, 1) := by decide +kernel
theorem dX11_reason_208 : decode cX11_reason 208 = .ok (.iaload, 1) := by decide +kernel
theorem dX11_reason_209 : decode cX11_reason 209 = .ok (.aload_n 0, 1) := by decide +kernel
theorem dX11_reason_210 : decode cX11_reason 210 = .ok (.getfield 13, 3) := by decide +kernel
theorem dX11_reason_213 : decode cX11_reason 213 = .ok (.aload_n 0, 1) := by decide +kernel
theorem dX11_reason_214 : decode cX11_reason 214 = .ok (.getfield 62, 3) := by decide +kernel
theorem dX11_reason_217 : decode cX11_reason 217 = .ok (.iload 6, 2) := by decide +kernel
theorem dX11_reason_219 : decode cX11_reason 219 = .ok (.iaload, 1) := by decide +kernel
theorem dX11_reason_220 : decode cX11_reason 220 = .ok (.iaload, 1) := by decide +kernel
theorem dX11_reason_221 : decode cX11_reason 221 = .ok (.invokestatic 121, 3) := by decide +kernel
theorem dX11_reason_224 : decode cX11_reason 224 = .ok (.ifCond .eq 6, 3) := by decide +kernel
theorem dX11_reason_227 : decode cX11_reason 227 = .ok (.bipush 8, 2) := by decide +kernel
theorem dX11_reason_229 : decode cX11_reason 229 = .ok (.ireturn, 1) := by decide +kernel
theorem dX11_reason_230 : decode cX11_reason 230 = .ok (.iinc 6 1, 3) := by decide +kernel
theorem dX11_reason_233 : decode cX11_reason 233 = .ok (.goto (-58), 3) := by decide +kernel
theorem dX11_reason_236 : decode cX11_reason 236 = .ok (.iload 4, 2) := by decide +kernel
theorem dX11_reason_238 : decode cX11_reason 238 = .ok (.istore 6, 2) := by decide +kernel
theorem dX11_reason_240 : decode cX11_reason 240 = .ok (.iload 6, 2) := by decide +kernel
theorem dX11_reason_242 : decode cX11_reason 242 = .ok (.iload 4, 2) := by decide +kernel
theorem dX11_reason_244 : decode cX11_reason 244 = .ok (.iload 5, 2) := by decide +kernel
theorem dX11_reason_246 : decode cX11_reason 246 = .ok (.iadd, 1) := by decide +kernel
theorem dX11_reason_247 : decode cX11_reason 247 = .ok (.if_icmp .ge 27, 3) := by decide +kernel
theorem dX11_reason_250 : decode cX11_reason 250 = .ok (.aload_n 0, 1) := by decide +kernel
theorem dX11_reason_251 : decode cX11_reason 251 = .ok (.iload_n 3, 1) := by decide +kernel
theorem dX11_reason_252 : decode cX11_reason 252 = .ok (.iload 6, 2) := by decide +kernel
theorem dX11_reason_254 : decode cX11_reason 254 = .ok (.invokevirtual 205, 3) := by decide +kernel
theorem dX11_reason_257 : decode cX11_reason 257 = .ok (.aload_n 0, 1) := by decide +kernel
theorem dX11_reason_258 : decode cX11_reason 258 = .ok (.iload_n 3, 1) := by decide +kernel
theorem dX11_reason_259 : decode cX11_reason 259 = .ok (.invokevirtual 209, 3) := by decide +kernel
theorem dX11_reason_262 : decode cX11_reason 262 = .ok (.if_icmp .lt 6, 3) := by decide +kernel
theorem dX11_reason_265 : decode cX11_reason 265 = .ok (.bipush 9, 2) := by decide +kernel
theorem dX11_reason_267 : decode cX11_reason 267 = .ok (.ireturn, 1) := by decide +kernel
theorem dX11_reason_268 : decode cX11_reason 268 = .ok (.iinc 6 1, 3) := by decide +kernel
theorem dX11_reason_271 : decode cX11_reason 271 = .ok (.goto (-31), 3) := by decide +kernel
theorem dX11_reason_274 : decode cX11_reason 274 = .ok (.iconst 0, 1) := by decide +kernel
theorem dX11_reason_275 : decode cX11_reason 275 = .ok (.ireturn, 1) := by decide +kernel
def ins_X11_reason (pc : Nat) : HOp := cond (Nat.blt pc 129) (cond (Nat.blt pc 60) (cond (Nat.blt pc 26) (cond (Nat.blt pc 13) (cond (Nat.blt pc 6) (cond (Nat.blt pc 4) (cond (Nat.blt pc 1) (cond (Nat.beq pc 0) (o_aload 0 1) o_bad) (cond (Nat.beq pc 1) (o_getf 11 4 4) o_bad)) (cond (Nat.blt pc 5) (cond (Nat.beq pc 4) (o_iload 1 5) o_bad) (cond (Nat.beq pc 5) (o_iald 6) o_bad))) (cond (Nat.blt pc 10) (cond (Nat.blt pc 9) (cond (Nat.beq pc 6) (o_if (fun x => x = 0) 9 11) o_bad) (cond (Nat.beq pc 9) (o_const (1) 10) o_bad)) (cond (Nat.blt pc 11) (cond (Nat.beq pc 10) (o_iret) o_bad) (cond (Nat.blt pc 12) (cond (Nat.beq pc 11) (o_aload 0 12) o_bad) (cond (Nat.beq pc 12) (o_iload 1 13) o_bad))))) (cond (Nat.blt pc 21) (cond (Nat.blt pc 17) (cond (Nat.blt pc 14) (cond (Nat.beq pc 13) (o_iload 2 14) o_bad) (cond (Nat.beq pc 14) (o_callV 3 11 sp_X11_isUnlisted 17) o_bad)) (cond (Nat.blt pc 20) (cond (Nat.beq pc 17) (o_if (fun x => x = 0) 22 20) o_bad) (cond (Nat.beq pc 20) (o_const (2) 21) o_bad))) (cond (Nat.blt pc 23) (cond (Nat.blt pc 22) (cond (Nat.beq pc 21) (o_iret) o_bad) (cond (Nat.beq pc 22) (o_aload 0 23) o_bad)) (cond (Nat.blt pc 24) (cond (Nat.beq pc 23) (o_iload 1 24) o_bad) (cond (Nat.blt pc 25) (cond (Nat.beq pc 24) (o_iload 2 25) o_bad) (cond (Nat.beq pc 25) (o_iload 3 26) o_bad)))))) (cond (Nat.blt pc 43) (cond (Nat.blt pc 34) (cond (Nat.blt pc 32) (cond (Nat.blt pc 29) (cond (Nat.beq pc 26) (o_callV 4 11 sp_X11_isBarred 29) o_bad) (cond (Nat.beq pc 29) (o_if (fun x => x = 0) 34 32) o_bad)) (cond (Nat.blt pc 33) (cond (Nat.beq pc 32) (o_const (3) 33) o_bad) (cond (Nat.beq pc 33) (o_iret) o_bad))) (cond (Nat.blt pc 36) (cond (Nat.blt pc 35) (cond (Nat.beq pc 34) (o_aload 0 35) o_bad) (cond (Nat.beq pc 35) (o_iload 2 36) o_bad)) (cond (Nat.blt pc 39) (cond (Nat.beq pc 36) (o_callV 2 11 sp_X11_isChildAlone 39) o_bad) (cond (Nat.blt pc 42) (cond (Nat.beq pc 39) (o_if (fun x => x = 0) 44 42) o_bad) (cond (Nat.beq pc 42) (o_const (4) 43) o_bad))))) (cond (Nat.blt pc 52) (cond (Nat.blt pc 45) (cond (Nat.blt pc 44) (cond (Nat.beq pc 43) (o_iret) o_bad) (cond (Nat.beq pc 44) (o_aload 0 45) o_bad)) (cond (Nat.blt pc 46) (cond (Nat.beq pc 45) (o_iload 2 46) o_bad) (cond (Nat.blt pc 49) (cond (Nat.beq pc 46) (o_callV 2 11 sp_X11_isLawyers 49) o_bad) (cond (Nat.beq pc 49) (o_if (fun x => x = 0) 52 114) o_bad)))) (cond (Nat.blt pc 56) (cond (Nat.blt pc 53) (cond (Nat.beq pc 52) (o_aload 0 53) o_bad) (cond (Nat.beq pc 53) (o_getf 11 2 56) o_bad)) (cond (Nat.blt pc 57) (cond (Nat.beq pc 56) (o_iload 1 57) o_bad) (cond (Nat.blt pc 58) (cond (Nat.beq pc 57) (o_iald 58) o_bad) (cond (Nat.beq pc 58) (o_istore 6 60) o_bad))))))) (cond (Nat.blt pc 96) (cond (Nat.blt pc 78) (cond (Nat.blt pc 67) (cond (Nat.blt pc 64) (cond (Nat.blt pc 61) (cond (Nat.beq pc 60) (o_aload 0 61) o_bad) (cond (Nat.beq pc 61) (o_getf 11 12 64) o_bad)) (cond (Nat.blt pc 66) (cond (Nat.beq pc 64) (o_iload 6 66) o_bad) (cond (Nat.beq pc 66) (o_bald 67) o_bad))) (cond (Nat.blt pc 72) (cond (Nat.blt pc 70) (cond (Nat.beq pc 67) (o_if (fun x => x = 0) 99 70) o_bad) (cond (Nat.beq pc 70) (o_iload 5 72) o_bad)) (cond (Nat.blt pc 73) (cond (Nat.beq pc 72) (o_aload 0 73) o_bad) (cond (Nat.blt pc 76) (cond (Nat.beq pc 73) (o_getf 11 17 76) o_bad) (cond (Nat.beq pc 76) (o_iload 6 78) o_bad))))) (cond (Nat.blt pc 88) (cond (Nat.blt pc 82) (cond (Nat.blt pc 79) (cond (Nat.beq pc 78) (o_iald 79) o_bad) (cond (Nat.beq pc 79) (o_icmp (fun x y => y < x) 99 82) o_bad)) (cond (Nat.blt pc 83) (cond (Nat.beq pc 82) (o_aload 0 83) o_bad) (cond (Nat.blt pc 86) (cond (Nat.beq pc 83) (o_getf 11 18 86) o_bad) (cond (Nat.beq pc 86) (o_iload 6 88) o_bad)))) (cond (Nat.blt pc 90) (cond (Nat.blt pc 89) (cond (Nat.beq pc 88) (o_iald 89) o_bad) (cond (Nat.beq pc 89) (o_iload 3 90) o_bad)) (cond (Nat.blt pc 92) (cond (Nat.beq pc 90) (o_const (7) 92) o_bad) (cond (Nat.blt pc 93) (cond (Nat.beq pc 92) (o_dv (fun x y => x - x / y * y) 93) o_bad) (cond (Nat.beq pc 93) (o_callS 2 sp_X11_has 96) o_bad)))))) (cond (Nat.blt pc 111) (cond (Nat.blt pc 102) (cond (Nat.blt pc 100) (cond (Nat.blt pc 99) (cond (Nat.beq pc 96) (o_if (fun x => x = 0) 101 99) o_bad) (cond (Nat.beq pc 99) (o_const (5) 100) o_bad)) (cond (Nat.blt pc 101) (cond (Nat.beq pc 100) (o_iret) o_bad) (cond (Nat.beq pc 101) (o_aload 0 102) o_bad))) (cond (Nat.blt pc 104) (cond (Nat.blt pc 103) (cond (Nat.beq pc 102) (o_iload 1 103) o_bad) (cond (Nat.beq pc 103) (o_iload 2 104) o_bad)) (cond (Nat.blt pc 105) (cond (Nat.beq pc 104) (o_iload 3 105) o_bad) (cond (Nat.blt pc 108) (cond (Nat.beq pc 105) (o_callV 4 11 sp_X11_isTooMany 108) o_bad) (cond (Nat.beq pc 108) (o_if (fun x => x = 0) 114 111) o_bad))))) (cond (Nat.blt pc 119) (cond (Nat.blt pc 114) (cond (Nat.blt pc 113) (cond (Nat.beq pc 111) (o_const (6) 113) o_bad) (cond (Nat.beq pc 113) (o_iret) o_bad)) (cond (Nat.blt pc 115) (cond (Nat.beq pc 114) (o_const (0) 115) o_bad) (cond (Nat.blt pc 117) (cond (Nat.beq pc 115) (o_istore 6 117) o_bad) (cond (Nat.beq pc 117) (o_iload 6 119) o_bad)))) (cond (Nat.blt pc 123) (cond (Nat.blt pc 120) (cond (Nat.beq pc 119) (o_aload 0 120) o_bad) (cond (Nat.beq pc 120) (o_getf 11 21 123) o_bad)) (cond (Nat.blt pc 126) (cond (Nat.beq pc 123) (o_icmp (fun x y => y ≤ x) 172 126) o_bad) (cond (Nat.blt pc 127) (cond (Nat.beq pc 126) (o_aload 0 127) o_bad) (cond (Nat.beq pc 127) (o_iload 6 129) o_bad)))))))) (cond (Nat.blt pc 203) (cond (Nat.blt pc 165) (cond (Nat.blt pc 147) (cond (Nat.blt pc 137) (cond (Nat.blt pc 132) (cond (Nat.blt pc 130) (cond (Nat.beq pc 129) (o_iload 3 130) o_bad) (cond (Nat.beq pc 130) (o_iload 4 132) o_bad)) (cond (Nat.blt pc 134) (cond (Nat.beq pc 132) (o_iload 5 134) o_bad) (cond (Nat.beq pc 134) (o_callV 5 11 sp_X11_meets 137) o_bad))) (cond (Nat.blt pc 141) (cond (Nat.blt pc 140) (cond (Nat.beq pc 137) (o_if (fun x => x = 0) 166 140) o_bad) (cond (Nat.beq pc 140) (o_aload 0 141) o_bad)) (cond (Nat.blt pc 144) (cond (Nat.beq pc 141) (o_getf 11 22 144) o_bad) (cond (Nat.blt pc 146) (cond (Nat.beq pc 144) (o_iload 6 146) o_bad) (cond (Nat.beq pc 146) (o_iald 147) o_bad))))) (cond (Nat.blt pc 157) (cond (Nat.blt pc 151) (cond (Nat.blt pc 148) (cond (Nat.beq pc 147) (o_iload 1 148) o_bad) (cond (Nat.beq pc 148) (o_icmp (fun x y => x = y) 163 151) o_bad)) (cond (Nat.blt pc 152) (cond (Nat.beq pc 151) (o_aload 0 152) o_bad) (cond (Nat.blt pc 155) (cond (Nat.beq pc 152) (o_getf 11 23 155) o_bad) (cond (Nat.beq pc 155) (o_iload 6 157) o_bad)))) (cond (Nat.blt pc 159) (cond (Nat.blt pc 158) (cond (Nat.beq pc 157) (o_iald 158) o_bad) (cond (Nat.beq pc 158) (o_iload 2 159) o_bad)) (cond (Nat.blt pc 160) (cond (Nat.beq pc 159) (o_bin (fun x y => x &&& y) 160) o_bad) (cond (Nat.blt pc 163) (cond (Nat.beq pc 160) (o_if (fun x => x = 0) 166 163) o_bad) (cond (Nat.beq pc 163) (o_const (7) 165) o_bad)))))) (cond (Nat.blt pc 184) (cond (Nat.blt pc 173) (cond (Nat.blt pc 169) (cond (Nat.blt pc 166) (cond (Nat.beq pc 165) (o_iret) o_bad) (cond (Nat.beq pc 166) (o_iinc 6 (1) 169) o_bad)) (cond (Nat.blt pc 172) (cond (Nat.beq pc 169) (o_goto 117) o_bad) (cond (Nat.beq pc 172) (o_const (0) 173) o_bad))) (cond (Nat.blt pc 177) (cond (Nat.blt pc 175) (cond (Nat.beq pc 173) (o_istore 6 175) o_bad) (cond (Nat.beq pc 175) (o_iload 6 177) o_bad)) (cond (Nat.blt pc 178) (cond (Nat.beq pc 177) (o_aload 0 178) o_bad) (cond (Nat.blt pc 181) (cond (Nat.beq pc 178) (o_getf 11 21 181) o_bad) (cond (Nat.beq pc 181) (o_icmp (fun x y => y ≤ x) 236 184) o_bad))))) (cond (Nat.blt pc 192) (cond (Nat.blt pc 187) (cond (Nat.blt pc 185) (cond (Nat.beq pc 184) (o_aload 0 185) o_bad) (cond (Nat.beq pc 185) (o_iload 6 187) o_bad)) (cond (Nat.blt pc 188) (cond (Nat.beq pc 187) (o_iload 3 188) o_bad) (cond (Nat.blt pc 190) (cond (Nat.beq pc 188) (o_iload 4 190) o_bad) (cond (Nat.beq pc 190) (o_iload 5 192) o_bad)))) (cond (Nat.blt pc 198) (cond (Nat.blt pc 195) (cond (Nat.beq pc 192) (o_callV 5 11 sp_X11_meets 195) o_bad) (cond (Nat.beq pc 195) (o_if (fun x => x = 0) 230 198) o_bad)) (cond (Nat.blt pc 199) (cond (Nat.beq pc 198) (o_aload 0 199) o_bad) (cond (Nat.blt pc 202) (cond (Nat.beq pc 199) (o_getf 11 11 202) o_bad) (cond (Nat.beq pc 202) (o_aload 0 203) o_bad))))))) (cond (Nat.blt pc 240) (cond (Nat.blt pc 219) (cond (Nat.blt pc 209) (cond (Nat.blt pc 207) (cond (Nat.blt pc 206) (cond (Nat.beq pc 203) (o_getf 11 3 206) o_bad) (cond (Nat.beq pc 206) (o_iload 1 207) o_bad)) (cond (Nat.blt pc 208) (cond (Nat.beq pc 207) (o_iald 208) o_bad) (cond (Nat.beq pc 208) (o_iald 209) o_bad))) (cond (Nat.blt pc 213) (cond (Nat.blt pc 210) (cond (Nat.beq pc 209) (o_aload 0 210) o_bad) (cond (Nat.beq pc 210) (o_getf 11 3 213) o_bad)) (cond (Nat.blt pc 214) (cond (Nat.beq pc 213) (o_aload 0 214) o_bad) (cond (Nat.blt pc 217) (cond (Nat.beq pc 214) (o_getf 11 22 217) o_bad) (cond (Nat.beq pc 217) (o_iload 6 219) o_bad))))) (cond (Nat.blt pc 229) (cond (Nat.blt pc 221) (cond (Nat.blt pc 220) (cond (Nat.beq pc 219) (o_iald 220) o_bad) (cond (Nat.beq pc 220) (o_iald 221) o_bad)) (cond (Nat.blt pc 224) (cond (Nat.beq pc 221) (o_callS 2 sp_X11_has 224) o_bad) (cond (Nat.blt pc 227) (cond (Nat.beq pc 224) (o_if (fun x => x = 0) 230 227) o_bad) (cond (Nat.beq pc 227) (o_const (8) 229) o_bad)))) (cond (Nat.blt pc 233) (cond (Nat.blt pc 230) (cond (Nat.beq pc 229) (o_iret) o_bad) (cond (Nat.beq pc 230) (o_iinc 6 (1) 233) o_bad)) (cond (Nat.blt pc 236) (cond (Nat.beq pc 233) (o_goto 175) o_bad) (cond (Nat.blt pc 238) (cond (Nat.beq pc 236) (o_iload 4 238) o_bad) (cond (Nat.beq pc 238) (o_istore 6 240) o_bad)))))) (cond (Nat.blt pc 257) (cond (Nat.blt pc 247) (cond (Nat.blt pc 244) (cond (Nat.blt pc 242) (cond (Nat.beq pc 240) (o_iload 6 242) o_bad) (cond (Nat.beq pc 242) (o_iload 4 244) o_bad)) (cond (Nat.blt pc 246) (cond (Nat.beq pc 244) (o_iload 5 246) o_bad) (cond (Nat.beq pc 246) (o_bin (fun x y => x + y) 247) o_bad))) (cond (Nat.blt pc 251) (cond (Nat.blt pc 250) (cond (Nat.beq pc 247) (o_icmp (fun x y => y ≤ x) 274 250) o_bad) (cond (Nat.beq pc 250) (o_aload 0 251) o_bad)) (cond (Nat.blt pc 252) (cond (Nat.beq pc 251) (o_iload 3 252) o_bad) (cond (Nat.blt pc 254) (cond (Nat.beq pc 252) (o_iload 6 254) o_bad) (cond (Nat.beq pc 254) (o_callV 3 11 sp_X11_letAt 257) o_bad))))) (cond (Nat.blt pc 267) (cond (Nat.blt pc 259) (cond (Nat.blt pc 258) (cond (Nat.beq pc 257) (o_aload 0 258) o_bad) (cond (Nat.beq pc 258) (o_iload 3 259) o_bad)) (cond (Nat.blt pc 262) (cond (Nat.beq pc 259) (o_callV 2 11 sp_X11_tablesOn 262) o_bad) (cond (Nat.blt pc 265) (cond (Nat.beq pc 262) (o_icmp (fun x y => x < y) 268 265) o_bad) (cond (Nat.beq pc 265) (o_const (9) 267) o_bad)))) (cond (Nat.blt pc 271) (cond (Nat.blt pc 268) (cond (Nat.beq pc 267) (o_iret) o_bad) (cond (Nat.beq pc 268) (o_iinc 6 (1) 271) o_bad)) (cond (Nat.blt pc 274) (cond (Nat.beq pc 271) (o_goto 240) o_bad) (cond (Nat.blt pc 275) (cond (Nat.beq pc 274) (o_const (0) 275) o_bad) (cond (Nat.beq pc 275) (o_iret) o_bad))))))))
set_option maxRecDepth 20000 in
theorem ok_X11_reason : HOKs cX11_reason RX11 7 (some .int) 4 ins_X11_reason := fun _ => hnd (hnd (hnd (hnd (hnd (hnd (hnd (hlf (ok_aload_n dX11_reason_0 rfl rfl)) (hlf (ok_getf (C := RX11) (T := TX11) dX11_reason_1 rfl rfl (by decide) rfl inX11 wd_881 rfl))) (hnd (hlf (ok_iload_n dX11_reason_4 rfl rfl)) (hlf (ok_iald dX11_reason_5 rfl)))) (hnd (hnd (hlf (ok_if_ne dX11_reason_6 (by decide) rfl)) (hlf (ok_iconst dX11_reason_9 (by decide) rfl))) (hnd (hlf (ok_iret dX11_reason_10)) (hnd (hlf (ok_aload_n dX11_reason_11 rfl rfl)) (hlf (ok_iload_n dX11_reason_12 rfl rfl)))))) (hnd (hnd (hnd (hlf (ok_iload_n dX11_reason_13 rfl rfl)) (hlf (ok_callV (y := yX11_isUnlisted) (n' := 2) (C := RX11) (T := TX11) dX11_reason_14 ct_X11_isUnlisted (by decide) (by decide) wd_1067 wd_1064 wd_1066 wd_22 wd_50 rfl (by decide +kernel) rfl rfl rfl))) (hnd (hlf (ok_if_eq dX11_reason_17 (by decide) rfl)) (hlf (ok_iconst dX11_reason_20 (by decide) rfl)))) (hnd (hnd (hlf (ok_iret dX11_reason_21)) (hlf (ok_aload_n dX11_reason_22 rfl rfl))) (hnd (hlf (ok_iload_n dX11_reason_23 rfl rfl)) (hnd (hlf (ok_iload_n dX11_reason_24 rfl rfl)) (hlf (ok_iload_n dX11_reason_25 rfl rfl))))))) (hnd (hnd (hnd (hnd (hlf (ok_callV (y := yX11_isBarred) (n' := 3) (C := RX11) (T := TX11) dX11_reason_26 ct_X11_isBarred (by decide) (by decide) wd_1071 wd_1068 wd_1070 wd_23 wd_50 rfl (by decide +kernel) rfl rfl rfl)) (hlf (ok_if_eq dX11_reason_29 (by decide) rfl))) (hnd (hlf (ok_iconst dX11_reason_32 (by decide) rfl)) (hlf (ok_iret dX11_reason_33)))) (hnd (hnd (hlf (ok_aload_n dX11_reason_34 rfl rfl)) (hlf (ok_iload_n dX11_reason_35 rfl rfl))) (hnd (hlf (ok_callV (y := yX11_isChildAlone) (n' := 1) (C := RX11) (T := TX11) dX11_reason_36 ct_X11_isChildAlone (by decide) (by decide) wd_1075 wd_1072 wd_1074 wd_24 wd_50 rfl (by decide +kernel) rfl rfl rfl)) (hnd (hlf (ok_if_eq dX11_reason_39 (by decide) rfl)) (hlf (ok_iconst dX11_reason_42 (by decide) rfl)))))) (hnd (hnd (hnd (hlf (ok_iret dX11_reason_43)) (hlf (ok_aload_n dX11_reason_44 rfl rfl))) (hnd (hlf (ok_iload_n dX11_reason_45 rfl rfl)) (hnd (hlf (ok_callV (y := yX11_isLawyers) (n' := 1) (C := RX11) (T := TX11) dX11_reason_46 ct_X11_isLawyers (by decide) (by decide) wd_1079 wd_1076 wd_1078 wd_25 wd_50 rfl (by decide +kernel) rfl rfl rfl)) (hlf (ok_if_ne dX11_reason_49 (by decide) rfl))))) (hnd (hnd (hlf (ok_aload_n dX11_reason_52 rfl rfl)) (hlf (ok_getf (C := RX11) (T := TX11) dX11_reason_53 rfl rfl (by decide) rfl inX11 wd_879 rfl))) (hnd (hlf (ok_iload_n dX11_reason_56 rfl rfl)) (hnd (hlf (ok_iald dX11_reason_57 rfl)) (hlf (ok_istore dX11_reason_58 (by decide) rfl)))))))) (hnd (hnd (hnd (hnd (hnd (hlf (ok_aload_n dX11_reason_60 rfl rfl)) (hlf (ok_getf (C := RX11) (T := TX11) dX11_reason_61 rfl rfl (by decide) rfl inX11 wd_889 rfl))) (hnd (hlf (ok_iload dX11_reason_64 rfl)) (hlf (ok_bald dX11_reason_66 rfl)))) (hnd (hnd (hlf (ok_if_eq dX11_reason_67 (by decide) rfl)) (hlf (ok_iload dX11_reason_70 rfl))) (hnd (hlf (ok_aload_n dX11_reason_72 rfl rfl)) (hnd (hlf (ok_getf (C := RX11) (T := TX11) dX11_reason_73 rfl rfl (by decide) rfl inX11 wd_894 rfl)) (hlf (ok_iload dX11_reason_76 rfl)))))) (hnd (hnd (hnd (hlf (ok_iald dX11_reason_78 rfl)) (hlf (ok_icmp_gt dX11_reason_79 (by decide) rfl))) (hnd (hlf (ok_aload_n dX11_reason_82 rfl rfl)) (hnd (hlf (ok_getf (C := RX11) (T := TX11) dX11_reason_83 rfl rfl (by decide) rfl inX11 wd_895 rfl)) (hlf (ok_iload dX11_reason_86 rfl))))) (hnd (hnd (hlf (ok_iald dX11_reason_88 rfl)) (hlf (ok_iload_n dX11_reason_89 rfl rfl))) (hnd (hlf (ok_bipush dX11_reason_90 (by decide) rfl)) (hnd (hlf (ok_irem dX11_reason_92 rfl)) (hlf (ok_callS (y := yX11_has) dX11_reason_93 ct_X11_has (by decide) (by decide) wd_1046 wd_1044 wd_1045 wd_50 (by decide +kernel) rfl))))))) (hnd (hnd (hnd (hnd (hlf (ok_if_eq dX11_reason_96 (by decide) rfl)) (hlf (ok_iconst dX11_reason_99 (by decide) rfl))) (hnd (hlf (ok_iret dX11_reason_100)) (hlf (ok_aload_n dX11_reason_101 rfl rfl)))) (hnd (hnd (hlf (ok_iload_n dX11_reason_102 rfl rfl)) (hlf (ok_iload_n dX11_reason_103 rfl rfl))) (hnd (hlf (ok_iload_n dX11_reason_104 rfl rfl)) (hnd (hlf (ok_callV (y := yX11_isTooMany) (n' := 3) (C := RX11) (T := TX11) dX11_reason_105 ct_X11_isTooMany (by decide) (by decide) wd_1083 wd_1080 wd_1082 wd_26 wd_50 rfl (by decide +kernel) rfl rfl rfl)) (hlf (ok_if_eq dX11_reason_108 (by decide) rfl)))))) (hnd (hnd (hnd (hlf (ok_bipush dX11_reason_111 (by decide) rfl)) (hlf (ok_iret dX11_reason_113))) (hnd (hlf (ok_iconst dX11_reason_114 (by decide) rfl)) (hnd (hlf (ok_istore dX11_reason_115 (by decide) rfl)) (hlf (ok_iload dX11_reason_117 rfl))))) (hnd (hnd (hlf (ok_aload_n dX11_reason_119 rfl rfl)) (hlf (ok_getf (C := RX11) (T := TX11) dX11_reason_120 rfl rfl (by decide) rfl inX11 wd_898 rfl))) (hnd (hlf (ok_icmp_ge dX11_reason_123 (by decide) rfl)) (hnd (hlf (ok_aload_n dX11_reason_126 rfl rfl)) (hlf (ok_iload dX11_reason_127 rfl))))))))) (hnd (hnd (hnd (hnd (hnd (hnd (hlf (ok_iload_n dX11_reason_129 rfl rfl)) (hlf (ok_iload dX11_reason_130 rfl))) (hnd (hlf (ok_iload dX11_reason_132 rfl)) (hlf (ok_callV (y := yX11_meets) (n' := 4) (C := RX11) (T := TX11) dX11_reason_134 ct_X11_meets (by decide) (by decide) wd_1088 wd_1085 wd_1087 wd_27 wd_50 rfl (by decide +kernel) rfl rfl rfl)))) (hnd (hnd (hlf (ok_if_eq dX11_reason_137 (by decide) rfl)) (hlf (ok_aload_n dX11_reason_140 rfl rfl))) (hnd (hlf (ok_getf (C := RX11) (T := TX11) dX11_reason_141 rfl rfl (by decide) rfl inX11 wd_899 rfl)) (hnd (hlf (ok_iload dX11_reason_144 rfl)) (hlf (ok_iald dX11_reason_146 rfl)))))) (hnd (hnd (hnd (hlf (ok_iload_n dX11_reason_147 rfl rfl)) (hlf (ok_icmp_eq dX11_reason_148 (by decide) rfl))) (hnd (hlf (ok_aload_n dX11_reason_151 rfl rfl)) (hnd (hlf (ok_getf (C := RX11) (T := TX11) dX11_reason_152 rfl rfl (by decide) rfl inX11 wd_900 rfl)) (hlf (ok_iload dX11_reason_155 rfl))))) (hnd (hnd (hlf (ok_iald dX11_reason_157 rfl)) (hlf (ok_iload_n dX11_reason_158 rfl rfl))) (hnd (hlf (ok_iand dX11_reason_159 rfl)) (hnd (hlf (ok_if_eq dX11_reason_160 (by decide) rfl)) (hlf (ok_bipush dX11_reason_163 (by decide) rfl))))))) (hnd (hnd (hnd (hnd (hlf (ok_iret dX11_reason_165)) (hlf (ok_iinc dX11_reason_166 (by decide) (by decide) rfl))) (hnd (hlf (ok_goto dX11_reason_169 (by decide))) (hlf (ok_iconst dX11_reason_172 (by decide) rfl)))) (hnd (hnd (hlf (ok_istore dX11_reason_173 (by decide) rfl)) (hlf (ok_iload dX11_reason_175 rfl))) (hnd (hlf (ok_aload_n dX11_reason_177 rfl rfl)) (hnd (hlf (ok_getf (C := RX11) (T := TX11) dX11_reason_178 rfl rfl (by decide) rfl inX11 wd_898 rfl)) (hlf (ok_icmp_ge dX11_reason_181 (by decide) rfl)))))) (hnd (hnd (hnd (hlf (ok_aload_n dX11_reason_184 rfl rfl)) (hlf (ok_iload dX11_reason_185 rfl))) (hnd (hlf (ok_iload_n dX11_reason_187 rfl rfl)) (hnd (hlf (ok_iload dX11_reason_188 rfl)) (hlf (ok_iload dX11_reason_190 rfl))))) (hnd (hnd (hlf (ok_callV (y := yX11_meets) (n' := 4) (C := RX11) (T := TX11) dX11_reason_192 ct_X11_meets (by decide) (by decide) wd_1088 wd_1085 wd_1087 wd_27 wd_50 rfl (by decide +kernel) rfl rfl rfl)) (hlf (ok_if_eq dX11_reason_195 (by decide) rfl))) (hnd (hlf (ok_aload_n dX11_reason_198 rfl rfl)) (hnd (hlf (ok_getf (C := RX11) (T := TX11) dX11_reason_199 rfl rfl (by decide) rfl inX11 wd_888 rfl)) (hlf (ok_aload_n dX11_reason_202 rfl rfl)))))))) (hnd (hnd (hnd (hnd (hnd (hlf (ok_getf (C := RX11) (T := TX11) dX11_reason_203 rfl rfl (by decide) rfl inX11 wd_880 rfl)) (hlf (ok_iload_n dX11_reason_206 rfl rfl))) (hnd (hlf (ok_iald dX11_reason_207 rfl)) (hlf (ok_iald dX11_reason_208 rfl)))) (hnd (hnd (hlf (ok_aload_n dX11_reason_209 rfl rfl)) (hlf (ok_getf (C := RX11) (T := TX11) dX11_reason_210 rfl rfl (by decide) rfl inX11 wd_880 rfl))) (hnd (hlf (ok_aload_n dX11_reason_213 rfl rfl)) (hnd (hlf (ok_getf (C := RX11) (T := TX11) dX11_reason_214 rfl rfl (by decide) rfl inX11 wd_899 rfl)) (hlf (ok_iload dX11_reason_217 rfl)))))) (hnd (hnd (hnd (hlf (ok_iald dX11_reason_219 rfl)) (hlf (ok_iald dX11_reason_220 rfl))) (hnd (hlf (ok_callS (y := yX11_has) dX11_reason_221 ct_X11_has (by decide) (by decide) wd_1046 wd_1044 wd_1045 wd_50 (by decide +kernel) rfl)) (hnd (hlf (ok_if_eq dX11_reason_224 (by decide) rfl)) (hlf (ok_bipush dX11_reason_227 (by decide) rfl))))) (hnd (hnd (hlf (ok_iret dX11_reason_229)) (hlf (ok_iinc dX11_reason_230 (by decide) (by decide) rfl))) (hnd (hlf (ok_goto dX11_reason_233 (by decide))) (hnd (hlf (ok_iload dX11_reason_236 rfl)) (hlf (ok_istore dX11_reason_238 (by decide) rfl))))))) (hnd (hnd (hnd (hnd (hlf (ok_iload dX11_reason_240 rfl)) (hlf (ok_iload dX11_reason_242 rfl))) (hnd (hlf (ok_iload dX11_reason_244 rfl)) (hlf (ok_iadd dX11_reason_246 rfl)))) (hnd (hnd (hlf (ok_icmp_ge dX11_reason_247 (by decide) rfl)) (hlf (ok_aload_n dX11_reason_250 rfl rfl))) (hnd (hlf (ok_iload_n dX11_reason_251 rfl rfl)) (hnd (hlf (ok_iload dX11_reason_252 rfl)) (hlf (ok_callV (y := yX11_letAt) (n' := 2) (C := RX11) (T := TX11) dX11_reason_254 ct_X11_letAt (by decide) (by decide) wd_1092 wd_1089 wd_1091 wd_28 wd_50 rfl (by decide +kernel) rfl rfl rfl)))))) (hnd (hnd (hnd (hlf (ok_aload_n dX11_reason_257 rfl rfl)) (hlf (ok_iload_n dX11_reason_258 rfl rfl))) (hnd (hlf (ok_callV (y := yX11_tablesOn) (n' := 1) (C := RX11) (T := TX11) dX11_reason_259 ct_X11_tablesOn (by decide) (by decide) wd_1100 wd_1097 wd_1099 wd_30 wd_50 rfl (by decide +kernel) rfl rfl rfl)) (hnd (hlf (ok_icmp_lt dX11_reason_262 (by decide) rfl)) (hlf (ok_bipush dX11_reason_265 (by decide) rfl))))) (hnd (hnd (hlf (ok_iret dX11_reason_267)) (hlf (ok_iinc dX11_reason_268 (by decide) (by decide) rfl))) (hnd (hlf (ok_goto dX11_reason_271 (by decide))) (hnd (hlf (ok_iconst dX11_reason_274 (by decide) rfl)) (hlf (ok_iret dX11_reason_275)))))))))

set_option maxHeartbeats 1000000 in
theorem vc_X11_reason : MVC ins_X11_reason 7 6 sp_X11_reason := by
  intro as w σ q hl hs
  unfold sp_X11_reason at hs
  split at hs
  rotate_left
  · exact hs.elim
  rename_i x s y xa xb
  obtain ⟨n, np, nv, p, d, a, b, hM, hp, rfl, hd, rfl, rfl, rfl, hab, hq⟩ := hs
  obtain ⟨hNv, hNn, ⟨hnp, hnp2⟩, hfa, hcl, hrt, hpl, htb, hof⟩ := id hM
  have hn := hNn.1
  have ep : (nI p).toNatClampNeg = p := nI_clamp (by omega)
  have hinp : vp_in (nI p) 10 := vp_in_nI (by omega) (by decide)
  obtain ⟨c, hc, hc2⟩ := hcl p hp
  obtain ⟨f, hf, hf2⟩ := hfa p hp
  have ec : (nI c).toNatClampNeg = c := nI_clamp (by omega)
  have hin4 : vp_in (nI c) 4 := vp_in_nI hc (by decide)
  have ecl : (σ 20 0 p).toNatClampNeg = c := by rw [hc2]; exact ec
  unfold reM at hq
  rw [ecl] at hq
  refine ⟨fun pc => Nat.beq pc 117 || Nat.beq pc 175 || Nat.beq pc 240, Irm w σ n p d a b s q, 90, 120, ?_, ?_⟩
  · rintro N pc ls st w' σ' hh ⟨hq, rfl, rfl, rfl, (⟨rfl, i, u, hi, rfl, rfl, hno, rfl⟩ | ⟨rfl, h7, i, u, hi, rfl, rfl, hno, rfl⟩ | ⟨rfl, h7, h8, i, u, hai, hi, rfl, rfl, hno, rfl⟩)⟩
    · apply br2
      · intro h1
        obtain rfl := lp_end hNn.2 hi h1
        exact ⟨500 + (i - 0), by omega, hq, rfl, rfl, rfl, Or.inr (Or.inl ⟨rfl, fun ⟨k, h2, h3⟩ => hno k h2 h3, 0, 0, Nat.zero_le _, rfl, rfl, fun k hk => absurd hk (by omega), rfl⟩)⟩
      · intro h1
        have hlt := lp_go hNn.2 hi h1
        have e1 : (nI i).toNatClampNeg = i := nI_clamp (by omega)
        have hin : vp_in (nI i) 100 := vp_in_nI (by omega) (by decide)
        have go : ¬ (meM σ i (nI d) (nI a) (nI b) ∧ (σ 20 16 i = nI p ∨ ¬ σ 20 17 i &&& s = 0)) → ∃ N', N' < 1000 + (n - i) ∧ Irm w σ n p d a b s q 117 N' [some (HR 11 0), some (HI (nI p)), some (HI s), some (HI (nI d)), some (HI (nI a)), some (HI (nI b)), some (HI (nI i + 1))] [] w σ := fun h =>
          ⟨1000 + (n - (i + 1)), by omega, hq, rfl, rfl, rfl, Or.inl ⟨rfl, i + 1, _, hlt, rfl, nI_1 i, fun j hj => (Nat.lt_succ_iff_lt_or_eq.mp hj).elim (hno j) (fun e => e ▸ h), rfl⟩⟩
        have yes : meM σ i (nI d) (nI a) (nI b) ∧ (σ 20 16 i = nI p ∨ ¬ σ 20 17 i &&& s = 0) → q (some (HI 7)) w σ := fun h => by
          unfold rhM at hq
          rw [cif_p ⟨i, hlt, h⟩] at hq
          exact hq
        refine ⟨i, by omega, rfl, ?_⟩
        apply br2
        rotate_left
        · intro h2
          exact And.intro (fun _ => go fun h => h2 h.1) (fun h => absurd rfl h)
        intro h2
        refine And.intro (fun h => absurd h (by decide)) (fun _ => And.intro hin ?_)
        apply br2
        · intro h3
          have h3 : σ 20 16 (nI i).toNatClampNeg = nI p := h3
          rw [e1] at h3
          exact yes ⟨h2, Or.inl h3⟩
        intro h3
        have h3 : ¬ σ 20 16 (nI i).toNatClampNeg = nI p := h3
        rw [e1] at h3
        refine And.intro hin ?_
        apply br2
        · intro h4
          have h4 : σ 20 17 (nI i).toNatClampNeg &&& s = 0 := h4
          rw [e1] at h4
          exact go fun h => h.2.elim h3 (fun z => z h4)
        · intro h4
          have h4 : ¬ σ 20 17 (nI i).toNatClampNeg &&& s = 0 := h4
          rw [e1] at h4
          exact yes ⟨h2, Or.inr h4⟩
    · apply br2
      · intro h1
        obtain rfl := lp_end hNn.2 hi h1
        exact ⟨a + b - a, by omega, hq, rfl, rfl, rfl, Or.inr (Or.inr ⟨rfl, h7, fun ⟨k, h2, h3⟩ => hno k h2 h3, a, _, Nat.le_refl _, by omega, rfl, rfl, fun k hk hk2 => absurd hk (by omega), rfl⟩)⟩
      · intro h1
        have hlt := lp_go hNn.2 hi h1
        have e1 : (nI i).toNatClampNeg = i := nI_clamp (by omega)
        have hin : vp_in (nI i) 100 := vp_in_nI (by omega) (by decide)
        have go : ¬ (meM σ i (nI d) (nI a) (nI b) ∧ σ 20 8 (σ 20 1 p).toNatClampNeg >>> (σ 20 1 (σ 20 16 i).toNatClampNeg &&& 31) &&& 1 = 1) → ∃ N', N' < 500 + (n - i) ∧ Irm w σ n p d a b s q 175 N' [some (HR 11 0), some (HI (nI p)), some (HI s), some (HI (nI d)), some (HI (nI a)), some (HI (nI b)), some (HI (nI i + 1))] [] w σ := fun h =>
          ⟨500 + (n - (i + 1)), by omega, hq, rfl, rfl, rfl, Or.inr (Or.inl ⟨rfl, h7, i + 1, _, hlt, rfl, nI_1 i, fun j hj => (Nat.lt_succ_iff_lt_or_eq.mp hj).elim (hno j) (fun e => e ▸ h), rfl⟩)⟩
        refine ⟨i, by omega, rfl, ?_⟩
        apply br2
        rotate_left
        · intro h2
          exact And.intro (fun _ => go fun h => h2 h.1) (fun h => absurd rfl h)
        intro h2
        obtain ⟨g, hg, hg2⟩ := hof i hlt
        have hinf : vp_in (σ 20 1 (nI p).toNatClampNeg) 10 := by rw [ep, hf2]; exact vp_in_nI hf (by decide)
        have hino : vp_in (σ 20 16 (nI i).toNatClampNeg) 10 := by rw [e1, hg2]; exact vp_in_nI (by omega) (by decide)
        refine And.intro (fun h => absurd h (by decide)) (fun _ => And.intro hinp (And.intro hinf (And.intro hin (And.intro hino ?_))))
        apply br2
        · intro h3
          have h3 : σ 20 8 (σ 20 1 (nI p).toNatClampNeg).toNatClampNeg >>> (σ 20 1 (σ 20 16 (nI i).toNatClampNeg).toNatClampNeg &&& 31) &&& 1 = 1 := h3
          rw [ep, e1] at h3
          unfold rhM at hq
          rw [cif_n h7, cif_p ⟨i, hlt, h2, h3⟩] at hq
          exact And.intro (fun h => absurd h (by decide)) (fun _ => hq)
        · intro h3
          have h3 : ¬ σ 20 8 (σ 20 1 (nI p).toNatClampNeg).toNatClampNeg >>> (σ 20 1 (σ 20 16 (nI i).toNatClampNeg).toNatClampNeg &&& 31) &&& 1 = 1 := h3
          rw [ep, e1] at h3
          exact And.intro (fun _ => go fun h => h3 h.2) (fun h => absurd rfl h)
    · unfold rhM at hq
      have hq0 := hq
      rw [cif_n h7, cif_n h8] at hq
      apply br2
      · intro h1
        obtain rfl := lp_end (nI_add a b) hi h1
        rw [cif_n fun ⟨h, h2, h3, h4⟩ => h4 (hno h h2 h3)] at hq
        exact hq
      · intro h1
        have hlt := lp_go (nI_add a b) hi h1
        refine ⟨n, hNn, ?_⟩
        refine ⟨nI_pos' (by omega), hpl, ?_⟩
        apply br2
        · intro h2
          exact ⟨a + b - (i + 1), by omega, hq0, rfl, rfl, rfl, Or.inr (Or.inr ⟨rfl, h7, h8, i + 1, _, by omega, hlt, rfl, nI_1 i, fun j hj1 hj => (Nat.lt_succ_iff_lt_or_eq.mp hj).elim (hno j hj1) (fun e => e ▸ h2), rfl⟩)⟩
        · intro h2
          rw [cif_p ⟨i, hai, hlt, h2⟩] at hq
          exact hq
  · refine And.intro hinp ?_
    apply br2
    · intro h1
      have h1 : σ 20 2 (nI p).toNatClampNeg = 0 := h1
      rw [ep] at h1
      rw [cif_p h1] at hq
      exact hq
    intro h1
    have h1 : ¬ σ 20 2 (nI p).toNatClampNeg = 0 := h1
    rw [ep] at h1
    rw [cif_n h1] at hq
    refine ⟨nv, p, hNv, by omega, rfl, ?_⟩
    apply br2
    · intro h2
      rw [cif_p h2] at hq
      exact And.intro (fun h => absurd h (by decide)) (fun _ => hq)
    intro h2
    rw [cif_n h2] at hq
    refine And.intro (fun _ => ?_) (fun h => absurd rfl h)
    refine ⟨nv, p, hNv, by omega, rfl, ?_⟩
    apply br2
    · intro h3
      rw [cif_p h3] at hq
      exact And.intro (fun h => absurd h (by decide)) (fun _ => hq)
    intro h3
    rw [cif_n h3] at hq
    refine And.intro (fun _ => ?_) (fun h => absurd rfl h)
    refine ⟨nv, hNv, ?_⟩
    apply br2
    · intro h4
      rw [cif_p h4] at hq
      exact And.intro (fun h => absurd h (by decide)) (fun _ => hq)
    intro h4
    rw [cif_n h4] at hq
    refine And.intro (fun _ => ?_) (fun h => absurd rfl h)
    refine ⟨nv, hNv, ?_⟩
    apply br2
    · intro h5
      rw [cif_n fun z => z.1 h5, cif_n fun z => z.1 h5] at hq
      refine And.intro (fun h => absurd h (by decide)) (fun _ => ?_)
      exact ⟨1000 + (n - 0), hq, rfl, rfl, rfl, Or.inl ⟨rfl, 0, 0, Nat.zero_le _, rfl, rfl, fun k hk => absurd hk (by omega), rfl⟩⟩
    intro h5
    refine And.intro (fun _ => And.intro hinp ?_) (fun h => absurd rfl h)
    have hin5 : vp_in (σ 20 0 (nI p).toNatClampNeg) 4 := by rw [ep, hc2]; exact hin4
    have e5 : (σ 20 0 (nI p).toNatClampNeg).toNatClampNeg = c := by rw [ep]; exact ecl
    refine And.intro hin5 ?_
    apply br2
    · intro h6
      have h6 : σ 21 0 (σ 20 0 (nI p).toNatClampNeg).toNatClampNeg = 0 := h6
      rw [e5] at h6
      rw [cif_p ⟨h5, Or.inl h6⟩] at hq
      exact hq
    intro h6
    have h6 : ¬ σ 21 0 (σ 20 0 (nI p).toNatClampNeg).toNatClampNeg = 0 := h6
    rw [e5] at h6
    refine And.intro hin5 ?_
    apply br2
    · intro h7
      have h7 : σ 20 13 (σ 20 0 (nI p).toNatClampNeg).toNatClampNeg < nI b := h7
      rw [e5] at h7
      rw [cif_p ⟨h5, Or.inr (Or.inl h7)⟩] at hq
      exact hq
    intro h7
    have h7 : ¬ σ 20 13 (σ 20 0 (nI p).toNatClampNeg).toNatClampNeg < nI b := h7
    rw [e5] at h7
    refine And.intro hin5 (And.intro (by decide) ?_)
    apply br2
    · intro h8
      have h8 : σ 20 14 (σ 20 0 (nI p).toNatClampNeg).toNatClampNeg >>> ((nI d - nI d / 7 * 7) &&& 31) &&& 1 = 1 := h8
      rw [e5] at h8
      rw [cif_p ⟨h5, Or.inr (Or.inr h8)⟩] at hq
      exact And.intro (fun h => absurd h (by decide)) (fun _ => hq)
    intro h8
    have h8 : ¬ σ 20 14 (σ 20 0 (nI p).toNatClampNeg).toNatClampNeg >>> ((nI d - nI d / 7 * 7) &&& 31) &&& 1 = 1 := h8
    rw [e5] at h8
    rw [cif_n fun z => z.2.elim h6 (fun z => z.elim h7 h8)] at hq
    refine And.intro (fun _ => ?_) (fun h => absurd rfl h)
    obtain ⟨m, hm1, hm2, hm3⟩ := hrt c hc h6
    have em : (σ 20 10 c).toNatClampNeg = m := by rw [hm3]; exact nI_clamp (by omega)
    rw [em] at hq
    refine ⟨nv, n, p, c, m, d, hNv, hNn, by omega, rfl, hc, hc2, hm1, hm2, hm3, hd, rfl, ?_⟩
    apply br2
    · intro h9
      rw [cif_p ⟨h5, h9⟩] at hq
      exact And.intro (fun h => absurd h (by decide)) (fun _ => hq)
    · intro h9
      rw [cif_n fun z => h9 z.2] at hq
      refine And.intro (fun _ => ?_) (fun h => absurd rfl h)
      refine ⟨1000 + (n - 0), hq, rfl, rfl, rfl, Or.inl ⟨rfl, 0, 0, Nat.zero_le _, rfl, rfl, fun k hk => absurd hk (by omega), ?_⟩⟩
      rfl
theorem ct_X11_reason : Ctr yX11_reason cX11_reason 7 (some .int) 4 0 0 6 sp_X11_reason := ctr_of (by decide +kernel) rfl (by decide) ok_X11_reason vc_X11_reason

