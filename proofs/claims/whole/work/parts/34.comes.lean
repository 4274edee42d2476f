/-! The reference, 8: who comes, and who is searched -/
abbrev T3 := Int32 × Int32 × Int32
def drR (r : Int32) : Int32 := r * 1664525 + 1013904223
def drH (r lim : Int32) : Prop := (r.toUInt32 >>> ((8 : Int32).toUInt32 &&& Int32.toUInt32 31)).toInt32 < lim
noncomputable def rdS (ch : Nat → Prop) (lim s : Int32) (k : Nat) (t : T3) : T3 := cif (bt1 s k ∧ ¬ bt1 t.1 k) (t.1 ||| (1 <<< (nI k &&& 31)), cif (drH (drR t.2.2) lim ∧ ¬ ch k) (t.2.1 ||| (1 <<< (nI k &&& 31))) t.2.1, drR t.2.2) t
noncomputable def rdI (ch : Nat → Prop) (lim s : Int32) : Nat → T3 → T3
  | 0, t => t
  | k + 1, t => rdS ch lim s k (rdI ch lim s k t)
noncomputable def rdO (ch : Nat → Prop) (lim : Int32) (set : Nat → Int32) (on : Nat → Prop) (nv : Nat) : Nat → T3 → T3
  | 0, t => t
  | i + 1, t => cif (on i) (rdI ch lim (set i) nv (rdO ch lim set on nv i t)) (rdO ch lim set on nv i t)
noncomputable def rdM (σ : HS) (x : Int32) (nv i : Nat) : T3 := rdO (fun k => σ 20 5 k = 3) (16777216 / σ 11 0 29) (σ 20 17) (fun j => σ 20 21 j = 0 ∧ σ 20 18 j = x) nv i (0, 0, σ 11 0 30 + x)
noncomputable def I_X11_comes (K : HRt) : Nat → Nat → HKp := fun pc N ls st w σ => ∃ (n nv i : Nat) (x y c f r u : Int32) (o : Option HV), Nn σ n ∧ Nv σ nv ∧ ¬ σ 11 0 29 = 0 ∧ u = nI i ∧ ls = [some (HR 11 0), some (HI x), some (HI y), some (HI c), some (HI f), some (HI r), some (HI u), o] ∧ st = [] ∧ K (some (HI (if y = 0 then (rdM σ x nv n).1 else (rdM σ x nv n).2.1))) w σ ∧
  ((pc = 35 ∧ i ≤ n ∧ N = (n - i) * 100 + 50 ∧ (c, f, r) = rdM σ x nv i) ∨
   (pc = 47 ∧ i < n ∧ ∃ (k : Nat) (v : Int32), k ≤ nv ∧ N = (n - i) * 100 + (nv - k) ∧ v = nI k ∧ o = some (HI v) ∧ (k = 0 ∨ (σ 20 21 i = 0 ∧ σ 20 18 i = x)) ∧ (c, f, r) = rdI (fun k => σ 20 5 k = 3) (16777216 / σ 11 0 29) (σ 20 17 i) k (rdM σ x nv i)))
theorem dX11_comes_0 : decode cX11_comes 0 = .ok (.iload_n 1, 1) := by decide +kernel
theorem dX11_comes_1 : decode cX11_comes 1 = .ok (.invokestatic 237, 3) := by decide +kernel
theorem dX11_comes_4 : decode cX11_comes 4 = .ok (.ifCond .eq 12, 3) := by decide +kernel
theorem dX11_comes_7 : decode cX11_comes 7 = .ok (.iload_n 2, 1) := by decide +kernel
theorem dX11_comes_8 : decode cX11_comes 8 = .ok (.iconst 0, 1) := by decide +kernel
theorem dX11_comes_9 : decode cX11_comes 9 = .ok (.iconst 1, 1) := by decide +kernel
theorem dX11_comes_10 : decode cX11_comes 10 = .ok (.invokestatic 102, 3) := by decide +kernel
theorem dX11_comes_13 : decode cX11_comes 13 = .ok (.ifCond .ne 6, 3) := by decide +kernel
theorem dX11_comes_16 : decode cX11_comes 16 = .ok (.ldc 109, 2) := by decide +kernel
theorem dX11_comes_18 : decode cX11_comes 18 = .ok (.ireturn, 1) := by decide +kernel
theorem dX11_comes_19 : decode cX11_comes 19 = .ok (.iconst 0, 1) := by decide +kernel
theorem dX11_comes_20 : decode cX11_comes 20 = .ok (.istore_n 3, 1) := by decide +kernel
theorem dX11_comes_21 : decode cX11_comes 21 = .ok (.iconst 0, 1) := by decide +kernel
theorem dX11_comes_22 : decode cX11_comes 22 = .ok (.istore 4, 2) := by decide +kernel
theorem dX11_comes_24 : decode cX11_comes 24 = .ok (.aload_n 0, 1) := by decide +kernel
theorem dX11_comes_25 : decode cX11_comes 25 = .ok (.getfield 234, 3) := by decide +kernel
theorem dX11_comes_28 : decode cX11_comes 28 = .ok (.iload_n 1, 1) := by decide +kernel
theorem dX11_comes_29 : decode cX11_comes 29 = .ok (.iadd, 1) := by decide +kernel
theorem dX11_comes_30 : decode cX11_comes 30 = .ok (.istore 5, 2) := by decide +kernel
theorem dX11_comes_32 : decode cX11_comes 32 = .ok (.iconst 0, 1) := by decide +kernel
theorem dX11_comes_33 : decode cX11_comes 33 = .ok (.istore 6, 2) := by decide +kernel
theorem dX11_comes_35 : decode cX11_comes 35 = .ok (.iload 6, 2) := by decide +kernel
theorem dX11_comes_37 : decode cX11_comes 37 = .ok (.aload_n 0, 1) := by decide +kernel
theorem dX11_comes_38 : decode cX11_comes 38 = .ok (.getfield 118, 3) := by decide +kernel
theorem dX11_comes_41 : decode cX11_comes 41 = .ok (.if_icmp .ge 127, 3) := by decide +kernel
theorem dX11_comes_44 : decode cX11_comes 44 = .ok (.iconst 0, 1) := by decide +kernel
theorem dX11_comes_45 : decode cX11_comes 45 = .ok (.istore 7, 2) := by decide +kernel
theorem dX11_comes_47 : decode cX11_comes 47 = .ok (.iload 7, 2) := by decide +kernel
theorem dX11_comes_49 : decode cX11_comes 49 = .ok (.aload_n 0, 1) := by decide +kernel
theorem dX11_comes_50 : decode cX11_comes 50 = .ok (.getfield 106, 3) := by decide +kernel
theorem dX11_comes_53 : decode cX11_comes 53 = .ok (.if_icmp .ge 109, 3) := by decide +kernel
theorem dX11_comes_56 : decode cX11_comes 56 = .ok (.aload_n 0, 1) := by decide +kernel
theorem dX11_comes_57 : decode cX11_comes 57 = .ok (.getfield 77, 3) := by decide +kernel
theorem dX11_comes_60 : decode cX11_comes 60 = .ok (.iload 6, 2) := by decide +kernel
theorem dX11_comes_62 : decode cX11_comes 62 = .ok (.iaload, 1) := by decide +kernel
theorem dX11_comes_63 : decode cX11_comes 63 = .ok (.ifCond .ne 99, 3) := by decide +kernel
theorem dX11_comes_66 : decode cX11_comes 66 = .ok (.aload_n 0, 1) := by decide +kernel
theorem dX11_comes_67 : decode cX11_comes 67 = .ok (.getfield 68, 3) := by decide +kernel
theorem dX11_comes_70 : decode cX11_comes 70 = .ok (.iload 6, 2) := by decide +kernel
theorem dX11_comes_72 : decode cX11_comes 72 = .ok (.iaload, 1) := by decide +kernel
theorem dX11_comes_73 : decode cX11_comes 73 = .ok (.iload_n 1, 1) := by decide +kernel
theorem dX11_comes_74 : decode cX11_comes 74 = .ok (.if_icmp .ne 88, 3) := by decide +kernel
theorem dX11_comes_77 : decode cX11_comes 77 = .ok (.aload_n 0, 1) := by decide +kernel
theorem dX11_comes_78 : decode cX11_comes 78 = .ok (.getfield 65, 3) := by decide +kernel
theorem dX11_comes_81 : decode cX11_comes 81 = .ok (.iload 6, 2) := by decide +kernel
theorem dX11_comes_83 : decode cX11_comes 83 = .ok (.iaload, 1) := by decide +kernel
theorem dX11_comes_84 : decode cX11_comes 84 = .ok (.iload 7, 2) := by decide +kernel
theorem dX11_comes_86 : decode cX11_comes 86 = .ok (.invokestatic 121, 3) := by decide +kernel
theorem dX11_comes_89 : decode cX11_comes 89 = .ok (.ifCond .eq 67, 3) := by decide +kernel
theorem dX11_comes_92 : decode cX11_comes 92 = .ok (.iload_n 3, 1) := by decide +kernel
theorem dX11_comes_93 : decode cX11_comes 93 = .ok (.iload 7, 2) := by decide +kernel
theorem dX11_comes_95 : decode cX11_comes 95 = .ok (.invokestatic 121, 3) := by decide +kernel
theorem dX11_comes_98 : decode cX11_comes 98 = .ok (.ifCond .eq 6, 3) := by decide +kernel
theorem dX11_comes_101 : decode cX11_comes 101 = .ok (.goto 55, 3) := by decide +kernel
theorem dX11_comes_104 : decode cX11_comes 104 = .ok (.iload_n 3, 1) := by decide +kernel
theorem dX11_comes_105 : decode cX11_comes 105 = .ok (.iconst 1, 1) := by decide +kernel
theorem dX11_comes_106 : decode cX11_comes 106 = .ok (.iload 7, 2) := by decide +kernel
theorem dX11_comes_108 : decode cX11_comes 108 = .ok (.ishl, 1) := by decide +kernel
theorem dX11_comes_109 : decode cX11_comes 109 = .ok (.ior, 1) := by decide +kernel
theorem dX11_comes_110 : decode cX11_comes 110 = .ok (.istore_n 3, 1) := by decide +kernel
theorem dX11_comes_111 : decode cX11_comes 111 = .ok (.iload 5, 2) := by decide +kernel
theorem dX11_comes_113 : decode cX11_comes 113 = .ok (.ldc 240, 2) := by decide +kernel
theorem dX11_comes_115 : decode cX11_comes 115 = .ok (.imul, 1) := by decide +kernel
theorem dX11_comes_116 : decode cX11_comes 116 = .ok (.ldc 241, 2) := by decide +kernel
theorem dX11_comes_118 : decode cX11_comes 118 = .ok (.iadd, 1) := by decide +kernel
theorem dX11_comes_119 : decode cX11_comes 119 = .ok (.istore 5, 2) := by decide +kernel
theorem dX11_comes_121 : decode cX11_comes 121 = .ok (.iload 5, 2) := by decide +kernel
theorem dX11_comes_123 : decode cX11_comes 123 = .ok (.bipush 8, 2) := by decide +kernel
theorem dX11_comes_125 : decode cX11_comes 125 = .ok (.iushr, 1) := by decide +kernel
theorem dX11_comes_126 : decode cX11_comes 126 = .ok (.ldc 242, 2) := by decide +kernel
theorem dX11_comes_128 : decode cX11_comes 128 = .ok (.aload_n 0, 1) := by decide +kernel
theorem dX11_comes_129 : decode cX11_comes 129 = .ok (.getfield 84, 3) := by decide +kernel
theorem dX11_comes_132 : decode cX11_comes 132 = .ok (.idiv, 1) := by decide +kernel
theorem dX11_comes_133 : decode cX11_comes 133 = .ok (.if_icmp .ge 23, 3) := by decide +kernel
theorem dX11_comes_136 : decode cX11_comes 136 = .ok (.aload_n 0, 1) := by decide +kernel
theorem dX11_comes_137 : decode cX11_comes 137 = .ok (.getfield 25, 3) := by decide +kernel
theorem dX11_comes_140 : decode cX11_comes 140 = .ok (.iload 7, 2) := by decide +kernel
theorem dX11_comes_142 : decode cX11_comes 142 = .ok (.iaload, 1) := by decide +kernel
theorem dX11_comes_143 : decode cX11_comes 143 = .ok (.iconst 3, 1) := by decide +kernel
theorem dX11_comes_144 : decode cX11_comes 144 = .ok (.if_icmp .eq 12, 3) := by decide +kernel
theorem dX11_comes_147 : decode cX11_comes 147 = .ok (.iload 4, 2) := by decide +kernel
theorem dX11_comes_149 : decode cX11_comes 149 = .ok (.iconst 1, 1) := by decide +kernel
theorem dX11_comes_150 : decode cX11_comes 150 = .ok (.iload 7, 2) := by decide +kernel
theorem dX11_comes_152 : decode cX11_comes 152 = .ok (.ishl, 1) := by decide +kernel
theorem dX11_comes_153 : decode cX11_comes 153 = .ok (.ior, 1) := by decide +kernel
theorem dX11_comes_154 : decode cX11_comes 154 = .ok (.istore 4, 2) := by decide +kernel
theorem dX11_comes_156 : decode cX11_comes 156 = .ok (.iinc 7 1, 3) := by decide +kernel
theorem dX11_comes_159 : decode cX11_comes 159 = .ok (.goto (-112), 3) := by decide +kernel
theorem dX11_comes_162 : decode cX11_comes 162 = .ok (.iinc 6 1, 3) := by decide +kernel
theorem dX11_comes_165 : decode cX11_comes 165 = .ok (.goto (-130), 3) := by decide +kernel
theorem dX11_comes_168 : decode cX11_comes 168 = .ok (.iload_n 2, 1) := by decide +kernel
theorem dX11_comes_169 : decode cX11_comes 169 = .ok (.ifCond .ne 7, 3) := by decide +kernel
theorem dX11_comes_172 : decode cX11_comes 172 = .ok (.iload_n 3, 1) := by decide +kernel
theorem dX11_comes_173 : decode cX11_comes 173 = .ok (.goto 5, 3) := by decide +kernel
theorem dX11_comes_176 : decode cX11_comes 176 = .ok (.iload 4, 2) := by decide +kernel
theorem dX11_comes_178 : decode cX11_comes 178 = .ok (.ireturn, 1) := by decide +kernel
def ins_X11_comes (pc : Nat) : HOp := cond (Nat.blt pc 89) (cond (Nat.blt pc 41) (cond (Nat.blt pc 21) (cond (Nat.blt pc 10) (cond (Nat.blt pc 7) (cond (Nat.blt pc 1) (cond (Nat.beq pc 0) (o_iload 1 1) o_bad) (cond (Nat.blt pc 4) (cond (Nat.beq pc 1) (o_callS 1 sp_X11_isDay 4) o_bad) (cond (Nat.beq pc 4) (o_if (fun x => x = 0) 16 7) o_bad))) (cond (Nat.blt pc 8) (cond (Nat.beq pc 7) (o_iload 2 8) o_bad) (cond (Nat.blt pc 9) (cond (Nat.beq pc 8) (o_const (0) 9) o_bad) (cond (Nat.beq pc 9) (o_const (1) 10) o_bad)))) (cond (Nat.blt pc 18) (cond (Nat.blt pc 13) (cond (Nat.beq pc 10) (o_callS 3 sp_X11_isIn 13) o_bad) (cond (Nat.blt pc 16) (cond (Nat.beq pc 13) (o_if (fun x => x = 0) 16 19) o_bad) (cond (Nat.beq pc 16) (o_const (-1000000001) 18) o_bad))) (cond (Nat.blt pc 19) (cond (Nat.beq pc 18) (o_iret) o_bad) (cond (Nat.blt pc 20) (cond (Nat.beq pc 19) (o_const (0) 20) o_bad) (cond (Nat.beq pc 20) (o_istore 3 21) o_bad))))) (cond (Nat.blt pc 30) (cond (Nat.blt pc 25) (cond (Nat.blt pc 22) (cond (Nat.beq pc 21) (o_const (0) 22) o_bad) (cond (Nat.blt pc 24) (cond (Nat.beq pc 22) (o_istore 4 24) o_bad) (cond (Nat.beq pc 24) (o_aload 0 25) o_bad))) (cond (Nat.blt pc 28) (cond (Nat.beq pc 25) (o_getf 11 30 28) o_bad) (cond (Nat.blt pc 29) (cond (Nat.beq pc 28) (o_iload 1 29) o_bad) (cond (Nat.beq pc 29) (o_bin (fun x y => x + y) 30) o_bad)))) (cond (Nat.blt pc 35) (cond (Nat.blt pc 32) (cond (Nat.beq pc 30) (o_istore 5 32) o_bad) (cond (Nat.blt pc 33) (cond (Nat.beq pc 32) (o_const (0) 33) o_bad) (cond (Nat.beq pc 33) (o_istore 6 35) o_bad))) (cond (Nat.blt pc 37) (cond (Nat.beq pc 35) (o_iload 6 37) o_bad) (cond (Nat.blt pc 38) (cond (Nat.beq pc 37) (o_aload 0 38) o_bad) (cond (Nat.beq pc 38) (o_getf 11 21 41) o_bad)))))) (cond (Nat.blt pc 66) (cond (Nat.blt pc 53) (cond (Nat.blt pc 47) (cond (Nat.blt pc 44) (cond (Nat.beq pc 41) (o_icmp (fun x y => y ≤ x) 168 44) o_bad) (cond (Nat.blt pc 45) (cond (Nat.beq pc 44) (o_const (0) 45) o_bad) (cond (Nat.beq pc 45) (o_istore 7 47) o_bad))) (cond (Nat.blt pc 49) (cond (Nat.beq pc 47) (o_iload 7 49) o_bad) (cond (Nat.blt pc 50) (cond (Nat.beq pc 49) (o_aload 0 50) o_bad) (cond (Nat.beq pc 50) (o_getf 11 7 53) o_bad)))) (cond (Nat.blt pc 60) (cond (Nat.blt pc 56) (cond (Nat.beq pc 53) (o_icmp (fun x y => y ≤ x) 162 56) o_bad) (cond (Nat.blt pc 57) (cond (Nat.beq pc 56) (o_aload 0 57) o_bad) (cond (Nat.beq pc 57) (o_getf 11 27 60) o_bad))) (cond (Nat.blt pc 62) (cond (Nat.beq pc 60) (o_iload 6 62) o_bad) (cond (Nat.blt pc 63) (cond (Nat.beq pc 62) (o_iald 63) o_bad) (cond (Nat.beq pc 63) (o_if (fun x => x = 0) 66 162) o_bad))))) (cond (Nat.blt pc 77) (cond (Nat.blt pc 72) (cond (Nat.blt pc 67) (cond (Nat.beq pc 66) (o_aload 0 67) o_bad) (cond (Nat.blt pc 70) (cond (Nat.beq pc 67) (o_getf 11 24 70) o_bad) (cond (Nat.beq pc 70) (o_iload 6 72) o_bad))) (cond (Nat.blt pc 73) (cond (Nat.beq pc 72) (o_iald 73) o_bad) (cond (Nat.blt pc 74) (cond (Nat.beq pc 73) (o_iload 1 74) o_bad) (cond (Nat.beq pc 74) (o_icmp (fun x y => x = y) 77 162) o_bad)))) (cond (Nat.blt pc 83) (cond (Nat.blt pc 78) (cond (Nat.beq pc 77) (o_aload 0 78) o_bad) (cond (Nat.blt pc 81) (cond (Nat.beq pc 78) (o_getf 11 23 81) o_bad) (cond (Nat.beq pc 81) (o_iload 6 83) o_bad))) (cond (Nat.blt pc 84) (cond (Nat.beq pc 83) (o_iald 84) o_bad) (cond (Nat.blt pc 86) (cond (Nat.beq pc 84) (o_iload 7 86) o_bad) (cond (Nat.beq pc 86) (o_callS 2 sp_X11_has 89) o_bad))))))) (cond (Nat.blt pc 132) (cond (Nat.blt pc 111) (cond (Nat.blt pc 104) (cond (Nat.blt pc 95) (cond (Nat.blt pc 92) (cond (Nat.beq pc 89) (o_if (fun x => x = 0) 156 92) o_bad) (cond (Nat.blt pc 93) (cond (Nat.beq pc 92) (o_iload 3 93) o_bad) (cond (Nat.beq pc 93) (o_iload 7 95) o_bad))) (cond (Nat.blt pc 98) (cond (Nat.beq pc 95) (o_callS 2 sp_X11_has 98) o_bad) (cond (Nat.blt pc 101) (cond (Nat.beq pc 98) (o_if (fun x => x = 0) 104 101) o_bad) (cond (Nat.beq pc 101) (o_goto 156) o_bad)))) (cond (Nat.blt pc 108) (cond (Nat.blt pc 105) (cond (Nat.beq pc 104) (o_iload 3 105) o_bad) (cond (Nat.blt pc 106) (cond (Nat.beq pc 105) (o_const (1) 106) o_bad) (cond (Nat.beq pc 106) (o_iload 7 108) o_bad))) (cond (Nat.blt pc 109) (cond (Nat.beq pc 108) (o_bin (fun x y => x <<< (y &&& 31)) 109) o_bad) (cond (Nat.blt pc 110) (cond (Nat.beq pc 109) (o_bin (fun x y => x ||| y) 110) o_bad) (cond (Nat.beq pc 110) (o_istore 3 111) o_bad))))) (cond (Nat.blt pc 121) (cond (Nat.blt pc 116) (cond (Nat.blt pc 113) (cond (Nat.beq pc 111) (o_iload 5 113) o_bad) (cond (Nat.blt pc 115) (cond (Nat.beq pc 113) (o_const (1664525) 115) o_bad) (cond (Nat.beq pc 115) (o_bin (fun x y => x * y) 116) o_bad))) (cond (Nat.blt pc 118) (cond (Nat.beq pc 116) (o_const (1013904223) 118) o_bad) (cond (Nat.blt pc 119) (cond (Nat.beq pc 118) (o_bin (fun x y => x + y) 119) o_bad) (cond (Nat.beq pc 119) (o_istore 5 121) o_bad)))) (cond (Nat.blt pc 126) (cond (Nat.blt pc 123) (cond (Nat.beq pc 121) (o_iload 5 123) o_bad) (cond (Nat.blt pc 125) (cond (Nat.beq pc 123) (o_const (8) 125) o_bad) (cond (Nat.beq pc 125) (o_bin (fun x y => (x.toUInt32 >>> (y.toUInt32 &&& Int32.toUInt32 31)).toInt32) 126) o_bad))) (cond (Nat.blt pc 128) (cond (Nat.beq pc 126) (o_const (16777216) 128) o_bad) (cond (Nat.blt pc 129) (cond (Nat.beq pc 128) (o_aload 0 129) o_bad) (cond (Nat.beq pc 129) (o_getf 11 29 132) o_bad)))))) (cond (Nat.blt pc 153) (cond (Nat.blt pc 143) (cond (Nat.blt pc 137) (cond (Nat.blt pc 133) (cond (Nat.beq pc 132) (o_dv (fun x y => x / y) 133) o_bad) (cond (Nat.blt pc 136) (cond (Nat.beq pc 133) (o_icmp (fun x y => y ≤ x) 156 136) o_bad) (cond (Nat.beq pc 136) (o_aload 0 137) o_bad))) (cond (Nat.blt pc 140) (cond (Nat.beq pc 137) (o_getf 11 8 140) o_bad) (cond (Nat.blt pc 142) (cond (Nat.beq pc 140) (o_iload 7 142) o_bad) (cond (Nat.beq pc 142) (o_iald 143) o_bad)))) (cond (Nat.blt pc 149) (cond (Nat.blt pc 144) (cond (Nat.beq pc 143) (o_const (3) 144) o_bad) (cond (Nat.blt pc 147) (cond (Nat.beq pc 144) (o_icmp (fun x y => x = y) 156 147) o_bad) (cond (Nat.beq pc 147) (o_iload 4 149) o_bad))) (cond (Nat.blt pc 150) (cond (Nat.beq pc 149) (o_const (1) 150) o_bad) (cond (Nat.blt pc 152) (cond (Nat.beq pc 150) (o_iload 7 152) o_bad) (cond (Nat.beq pc 152) (o_bin (fun x y => x <<< (y &&& 31)) 153) o_bad))))) (cond (Nat.blt pc 168) (cond (Nat.blt pc 159) (cond (Nat.blt pc 154) (cond (Nat.beq pc 153) (o_bin (fun x y => x ||| y) 154) o_bad) (cond (Nat.blt pc 156) (cond (Nat.beq pc 154) (o_istore 4 156) o_bad) (cond (Nat.beq pc 156) (o_iinc 7 (1) 159) o_bad))) (cond (Nat.blt pc 162) (cond (Nat.beq pc 159) (o_goto 47) o_bad) (cond (Nat.blt pc 165) (cond (Nat.beq pc 162) (o_iinc 6 (1) 165) o_bad) (cond (Nat.beq pc 165) (o_goto 35) o_bad)))) (cond (Nat.blt pc 173) (cond (Nat.blt pc 169) (cond (Nat.beq pc 168) (o_iload 2 169) o_bad) (cond (Nat.blt pc 172) (cond (Nat.beq pc 169) (o_if (fun x => x = 0) 172 176) o_bad) (cond (Nat.beq pc 172) (o_iload 3 173) o_bad))) (cond (Nat.blt pc 176) (cond (Nat.beq pc 173) (o_goto 178) o_bad) (cond (Nat.blt pc 178) (cond (Nat.beq pc 176) (o_iload 4 178) o_bad) (cond (Nat.beq pc 178) (o_iret) o_bad)))))))
set_option maxRecDepth 20000 in
theorem ok_X11_comes : HOKs cX11_comes RX11 8 (some .int) 3 ins_X11_comes := fun _ => hnd (hnd (hnd (hnd (hnd (hnd (hlf (ok_iload_n dX11_comes_0 rfl rfl)) (hnd (hlf (ok_callS (y := yX11_isDay) dX11_comes_1 ct_X11_isDay (by decide) (by decide) wd_1198 wd_1196 wd_1197 wd_50 (by decide +kernel) rfl)) (hlf (ok_if_eq dX11_comes_4 (by decide) rfl)))) (hnd (hlf (ok_iload_n dX11_comes_7 rfl rfl)) (hnd (hlf (ok_iconst dX11_comes_8 (by decide) rfl)) (hlf (ok_iconst dX11_comes_9 (by decide) rfl))))) (hnd (hnd (hlf (ok_callS (y := yX11_isIn) dX11_comes_10 ct_X11_isIn (by decide) (by decide) wd_1017 wd_1015 wd_1016 wd_50 (by decide +kernel) rfl)) (hnd (hlf (ok_if_ne dX11_comes_13 (by decide) rfl)) (hlf (ok_ldc dX11_comes_16 wd_1018 rfl)))) (hnd (hlf (ok_iret dX11_comes_18)) (hnd (hlf (ok_iconst dX11_comes_19 (by decide) rfl)) (hlf (ok_istore_n dX11_comes_20 rfl (by decide) rfl)))))) (hnd (hnd (hnd (hlf (ok_iconst dX11_comes_21 (by decide) rfl)) (hnd (hlf (ok_istore dX11_comes_22 (by decide) rfl)) (hlf (ok_aload_n dX11_comes_24 rfl rfl)))) (hnd (hlf (ok_getf (C := RX11) (T := TX11) dX11_comes_25 rfl rfl (by decide) rfl inX11 wd_907 rfl)) (hnd (hlf (ok_iload_n dX11_comes_28 rfl rfl)) (hlf (ok_iadd dX11_comes_29 rfl))))) (hnd (hnd (hlf (ok_istore dX11_comes_30 (by decide) rfl)) (hnd (hlf (ok_iconst dX11_comes_32 (by decide) rfl)) (hlf (ok_istore dX11_comes_33 (by decide) rfl)))) (hnd (hlf (ok_iload dX11_comes_35 rfl)) (hnd (hlf (ok_aload_n dX11_comes_37 rfl rfl)) (hlf (ok_getf (C := RX11) (T := TX11) dX11_comes_38 rfl rfl (by decide) rfl inX11 wd_898 rfl))))))) (hnd (hnd (hnd (hnd (hlf (ok_icmp_ge dX11_comes_41 (by decide) rfl)) (hnd (hlf (ok_iconst dX11_comes_44 (by decide) rfl)) (hlf (ok_istore dX11_comes_45 (by decide) rfl)))) (hnd (hlf (ok_iload dX11_comes_47 rfl)) (hnd (hlf (ok_aload_n dX11_comes_49 rfl rfl)) (hlf (ok_getf (C := RX11) (T := TX11) dX11_comes_50 rfl rfl (by decide) rfl inX11 wd_884 rfl))))) (hnd (hnd (hlf (ok_icmp_ge dX11_comes_53 (by decide) rfl)) (hnd (hlf (ok_aload_n dX11_comes_56 rfl rfl)) (hlf (ok_getf (C := RX11) (T := TX11) dX11_comes_57 rfl rfl (by decide) rfl inX11 wd_904 rfl)))) (hnd (hlf (ok_iload dX11_comes_60 rfl)) (hnd (hlf (ok_iald dX11_comes_62 rfl)) (hlf (ok_if_ne dX11_comes_63 (by decide) rfl)))))) (hnd (hnd (hnd (hlf (ok_aload_n dX11_comes_66 rfl rfl)) (hnd (hlf (ok_getf (C := RX11) (T := TX11) dX11_comes_67 rfl rfl (by decide) rfl inX11 wd_901 rfl)) (hlf (ok_iload dX11_comes_70 rfl)))) (hnd (hlf (ok_iald dX11_comes_72 rfl)) (hnd (hlf (ok_iload_n dX11_comes_73 rfl rfl)) (hlf (ok_icmp_ne dX11_comes_74 (by decide) rfl))))) (hnd (hnd (hlf (ok_aload_n dX11_comes_77 rfl rfl)) (hnd (hlf (ok_getf (C := RX11) (T := TX11) dX11_comes_78 rfl rfl (by decide) rfl inX11 wd_900 rfl)) (hlf (ok_iload dX11_comes_81 rfl)))) (hnd (hlf (ok_iald dX11_comes_83 rfl)) (hnd (hlf (ok_iload dX11_comes_84 rfl)) (hlf (ok_callS (y := yX11_has) dX11_comes_86 ct_X11_has (by decide) (by decide) wd_1046 wd_1044 wd_1045 wd_50 (by decide +kernel) rfl)))))))) (hnd (hnd (hnd (hnd (hnd (hlf (ok_if_eq dX11_comes_89 (by decide) rfl)) (hnd (hlf (ok_iload_n dX11_comes_92 rfl rfl)) (hlf (ok_iload dX11_comes_93 rfl)))) (hnd (hlf (ok_callS (y := yX11_has) dX11_comes_95 ct_X11_has (by decide) (by decide) wd_1046 wd_1044 wd_1045 wd_50 (by decide +kernel) rfl)) (hnd (hlf (ok_if_eq dX11_comes_98 (by decide) rfl)) (hlf (ok_goto dX11_comes_101 (by decide)))))) (hnd (hnd (hlf (ok_iload_n dX11_comes_104 rfl rfl)) (hnd (hlf (ok_iconst dX11_comes_105 (by decide) rfl)) (hlf (ok_iload dX11_comes_106 rfl)))) (hnd (hlf (ok_ishl dX11_comes_108 rfl)) (hnd (hlf (ok_ior dX11_comes_109 rfl)) (hlf (ok_istore_n dX11_comes_110 rfl (by decide) rfl)))))) (hnd (hnd (hnd (hlf (ok_iload dX11_comes_111 rfl)) (hnd (hlf (ok_ldc dX11_comes_113 wd_1203 rfl)) (hlf (ok_imul dX11_comes_115 rfl)))) (hnd (hlf (ok_ldc dX11_comes_116 wd_1204 rfl)) (hnd (hlf (ok_iadd dX11_comes_118 rfl)) (hlf (ok_istore dX11_comes_119 (by decide) rfl))))) (hnd (hnd (hlf (ok_iload dX11_comes_121 rfl)) (hnd (hlf (ok_bipush dX11_comes_123 (by decide) rfl)) (hlf (ok_iushr dX11_comes_125 rfl)))) (hnd (hlf (ok_ldc dX11_comes_126 wd_1205 rfl)) (hnd (hlf (ok_aload_n dX11_comes_128 rfl rfl)) (hlf (ok_getf (C := RX11) (T := TX11) dX11_comes_129 rfl rfl (by decide) rfl inX11 wd_906 rfl))))))) (hnd (hnd (hnd (hnd (hlf (ok_idiv dX11_comes_132 rfl)) (hnd (hlf (ok_icmp_ge dX11_comes_133 (by decide) rfl)) (hlf (ok_aload_n dX11_comes_136 rfl rfl)))) (hnd (hlf (ok_getf (C := RX11) (T := TX11) dX11_comes_137 rfl rfl (by decide) rfl inX11 wd_885 rfl)) (hnd (hlf (ok_iload dX11_comes_140 rfl)) (hlf (ok_iald dX11_comes_142 rfl))))) (hnd (hnd (hlf (ok_iconst dX11_comes_143 (by decide) rfl)) (hnd (hlf (ok_icmp_eq dX11_comes_144 (by decide) rfl)) (hlf (ok_iload dX11_comes_147 rfl)))) (hnd (hlf (ok_iconst dX11_comes_149 (by decide) rfl)) (hnd (hlf (ok_iload dX11_comes_150 rfl)) (hlf (ok_ishl dX11_comes_152 rfl)))))) (hnd (hnd (hnd (hlf (ok_ior dX11_comes_153 rfl)) (hnd (hlf (ok_istore dX11_comes_154 (by decide) rfl)) (hlf (ok_iinc dX11_comes_156 (by decide) (by decide) rfl)))) (hnd (hlf (ok_goto dX11_comes_159 (by decide))) (hnd (hlf (ok_iinc dX11_comes_162 (by decide) (by decide) rfl)) (hlf (ok_goto dX11_comes_165 (by decide)))))) (hnd (hnd (hlf (ok_iload_n dX11_comes_168 rfl rfl)) (hnd (hlf (ok_if_ne dX11_comes_169 (by decide) rfl)) (hlf (ok_iload_n dX11_comes_172 rfl rfl)))) (hnd (hlf (ok_goto dX11_comes_173 (by decide))) (hnd (hlf (ok_iload dX11_comes_176 rfl)) (hlf (ok_iret dX11_comes_178))))))))

set_option maxHeartbeats 2000000 in
def hd_X11_comes : Nat → Bool := fun pc => Nat.beq pc 35 || Nat.beq pc 47
noncomputable def sp_X11_comes : HSp := fun as w σ K => wp ins_X11_comes (cutA hd_X11_comes (I_X11_comes K)) K 90 0 (loc0 8 as) [] w σ
theorem vc_X11_comes : MVC ins_X11_comes 8 3 sp_X11_comes := by
  intro as w0 σ0 q _ hs
  refine ⟨hd_X11_comes, I_X11_comes q, 120, 90, ?_, hs⟩
  clear hs
  rintro N pc ls st w σ hh ⟨n, nv, i, x, y, c, f, r, u, o, hn, hv, h29, rfl, rfl, rfl, hq, (⟨rfl, hi, rfl, hT⟩ | ⟨rfl, hi, k, v, hk, rfl, rfl, rfl, hon, hT⟩)⟩
  · apply br2
    · intro h1
      obtain rfl := lp_end hn.2 hi h1 (by have := hn.1; omega)
      rw [← hT] at hq
      apply br2
      · intro h2
        have h2 : y = 0 := h2
        rw [if_pos h2] at hq
        exact hq
      · intro h2
        have h2 : ¬ y = 0 := h2
        rw [if_neg h2] at hq
        exact hq
    · intro h1
      have hlt := lp_go hn.2 hi h1 (by have := hn.1; omega)
      have hv1 := hv.1
      exact ⟨(n - i) * 100 + (nv - 0), by omega, n, nv, i, x, y, c, f, r, _, _, hn, hv, h29, rfl, rfl, rfl, hq, Or.inr ⟨rfl, hlt, 0, 0, Nat.zero_le _, rfl, rfl, rfl, Or.inl rfl, hT⟩⟩
  · have hn1 := hn.1
    have hv1 := hv.1
    have e1 : (nI i).toNatClampNeg = i := nI_clamp (by omega)
    have hin : vp_in (nI i) 100 := vp_in_nI (by omega) (by decide)
    have ek : (nI k).toNatClampNeg = k := nI_clamp (by omega)
    have hst : rdM σ x nv (i + 1) = cif (σ 20 21 i = 0 ∧ σ 20 18 i = x) (rdI (fun k => σ 20 5 k = 3) (16777216 / σ 11 0 29) (σ 20 17 i) nv (rdM σ x nv i)) (rdM σ x nv i) := rfl
    have out : ∀ o2 : Option HV, (c, f, r) = rdM σ x nv (i + 1) → ∃ N', N' < (n - i) * 100 + (nv - k) ∧ I_X11_comes q 35 N' [some (HR 11 0), some (HI x), some (HI y), some (HI c), some (HI f), some (HI r), some (HI (nI i + 1)), o2] [] w σ := fun o2 h =>
      ⟨(n - (i + 1)) * 100 + 50, by omega, n, nv, i + 1, x, y, c, f, r, _, _, hn, hv, h29, nI_1 i, rfl, rfl, hq, Or.inl ⟨rfl, hi, rfl, h⟩⟩
    apply br2
    · intro h1
      obtain rfl := lp_end hv.2 hk h1
      refine out _ ?_
      rw [hst]
      by_cases z : σ 20 21 i = 0 ∧ σ 20 18 i = x
      · rw [cif_p z]; exact hT
      · rw [cif_n z]
        obtain rfl := hon.resolve_right z
        exact hT
    intro h1
    have hlt := lp_go hv.2 hk h1
    have off : ¬ (σ 20 21 i = 0 ∧ σ 20 18 i = x) → (c, f, r) = rdM σ x nv (i + 1) := fun z => by
      obtain rfl := hon.resolve_right z
      rw [hst, cif_n z]
      exact hT
    have nx : ∀ c2 f2 r2 : Int32, (σ 20 21 i = 0 ∧ σ 20 18 i = x) → (c2, f2, r2) = rdS (fun k => σ 20 5 k = 3) (16777216 / σ 11 0 29) (σ 20 17 i) k (c, f, r) → ∃ N', N' < (n - i) * 100 + (nv - k) ∧ I_X11_comes q 47 N' [some (HR 11 0), some (HI x), some (HI y), some (HI c2), some (HI f2), some (HI r2), some (HI (nI i)), some (HI (nI k + 1))] [] w σ := fun c2 f2 r2 z h =>
      ⟨(n - i) * 100 + (nv - (k + 1)), by omega, n, nv, i, x, y, c2, f2, r2, _, _, hn, hv, h29, rfl, rfl, rfl, hq, Or.inr ⟨rfl, hi, k + 1, _, hlt, rfl, nI_1 k, rfl, Or.inr z, by rw [h, hT]; rfl⟩⟩
    refine And.intro hin ?_
    apply br2
    rotate_left
    · intro h2
      have h2 : ¬ σ 20 21 (nI i).toNatClampNeg = 0 := h2
      rw [e1] at h2
      exact out _ (off fun z => h2 z.1)
    intro h2
    have h2 : σ 20 21 (nI i).toNatClampNeg = 0 := h2
    rw [e1] at h2
    refine And.intro hin ?_
    apply br2
    rotate_left
    · intro h3
      have h3 : ¬ σ 20 18 (nI i).toNatClampNeg = x := h3
      rw [e1] at h3
      exact out _ (off fun z => h3 z.2)
    intro h3
    have h3 : σ 20 18 (nI i).toNatClampNeg = x := h3
    rw [e1] at h3
    refine And.intro hin ?_
    apply br2
    rotate_left
    · intro h4
      have h4 : ¬ σ 20 17 (nI i).toNatClampNeg >>> (nI k &&& 31) &&& 1 = 1 := h4
      rw [e1] at h4
      refine And.intro (fun _ => nx c f r ⟨h2, h3⟩ ?_) (fun h => absurd rfl h)
      unfold rdS
      rw [cif_n fun z => h4 z.1]
    intro h4
    have h4 : σ 20 17 (nI i).toNatClampNeg >>> (nI k &&& 31) &&& 1 = 1 := h4
    rw [e1] at h4
    refine And.intro (fun h => absurd h (by decide)) (fun _ => ?_)
    apply br2
    · intro h5
      have h5 : c >>> (nI k &&& 31) &&& 1 = 1 := h5
      refine And.intro (fun h => absurd h (by decide)) (fun _ => nx c f r ⟨h2, h3⟩ ?_)
      unfold rdS
      rw [cif_n fun z => z.2 h5]
    intro h5
    have h5 : ¬ c >>> (nI k &&& 31) &&& 1 = 1 := h5
    refine And.intro (fun _ => ?_) (fun h => absurd rfl h)
    refine And.intro h29 ?_
    apply br2
    · intro h6
      have h6 : 16777216 / σ 11 0 29 ≤ ((drR r).toUInt32 >>> ((8 : Int32).toUInt32 &&& Int32.toUInt32 31)).toInt32 := h6
      refine nx _ _ _ ⟨h2, h3⟩ ?_
      unfold rdS
      rw [cif_p ⟨h4, h5⟩, cif_n fun z => Int32.not_lt.mpr h6 z.1]
      rfl
    intro h6
    have h6 : ¬ 16777216 / σ 11 0 29 ≤ ((drR r).toUInt32 >>> ((8 : Int32).toUInt32 &&& Int32.toUInt32 31)).toInt32 := h6
    refine And.intro (vp_in_nI (N := 14) (by omega) (by decide)) ?_
    apply br2
    · intro h7
      have h7 : σ 20 5 (nI k).toNatClampNeg = 3 := h7
      rw [ek] at h7
      refine nx _ _ _ ⟨h2, h3⟩ ?_
      unfold rdS
      rw [cif_p ⟨h4, h5⟩, cif_n fun z => z.2 h7]
      rfl
    · intro h7
      have h7 : ¬ σ 20 5 (nI k).toNatClampNeg = 3 := h7
      rw [ek] at h7
      refine nx _ _ _ ⟨h2, h3⟩ ?_
      unfold rdS
      rw [cif_p ⟨h4, h5⟩, cif_p ⟨Int32.not_le.mp h6, h7⟩]
      rfl
theorem ct_X11_comes : Ctr yX11_comes cX11_comes 8 (some .int) 3 0 0 3 sp_X11_comes := ctr_of (by decide +kernel) rfl (by decide) ok_X11_comes vc_X11_comes

theorem dX11_right_0 : decode cX11_right 0 = .ok (.aload_n 0, 1) := by decide +kernel
theorem dX11_right_1 : decode cX11_right 1 = .ok (.invokevirtual 181, 3) := by decide +kernel
theorem dX11_right_4 : decode cX11_right 4 = .ok (.istore_n 2, 1) := by decide +kernel
theorem dX11_right_5 : decode cX11_right 5 = .ok (.aload_n 0, 1) := by decide +kernel
theorem dX11_right_6 : decode cX11_right 6 = .ok (.iconst 0, 1) := by decide +kernel
theorem dX11_right_7 : decode cX11_right 7 = .ok (.putfield 133, 3) := by decide +kernel
theorem dX11_right_10 : decode cX11_right 10 = .ok (.iload_n 1, 1) := by decide +kernel
theorem dX11_right_11 : decode cX11_right 11 = .ok (.iconst 0, 1) := by decide +kernel
theorem dX11_right_12 : decode cX11_right 12 = .ok (.iconst 3, 1) := by decide +kernel
theorem dX11_right_13 : decode cX11_right 13 = .ok (.invokestatic 102, 3) := by decide +kernel
theorem dX11_right_16 : decode cX11_right 16 = .ok (.ifCond .ne 6, 3) := by decide +kernel
theorem dX11_right_19 : decode cX11_right 19 = .ok (.ldc 109, 2) := by decide +kernel
theorem dX11_right_21 : decode cX11_right 21 = .ok (.ireturn, 1) := by decide +kernel
theorem dX11_right_22 : decode cX11_right 22 = .ok (.iload_n 2, 1) := by decide +kernel
theorem dX11_right_23 : decode cX11_right 23 = .ok (.ifCond .lt 8, 3) := by decide +kernel
theorem dX11_right_26 : decode cX11_right 26 = .ok (.bipush (-100), 2) := by decide +kernel
theorem dX11_right_28 : decode cX11_right 28 = .ok (.iload_n 2, 1) := by decide +kernel
theorem dX11_right_29 : decode cX11_right 29 = .ok (.isub, 1) := by decide +kernel
theorem dX11_right_30 : decode cX11_right 30 = .ok (.ireturn, 1) := by decide +kernel
theorem dX11_right_31 : decode cX11_right 31 = .ok (.aload_n 0, 1) := by decide +kernel
theorem dX11_right_32 : decode cX11_right 32 = .ok (.getfield 37, 3) := by decide +kernel
theorem dX11_right_35 : decode cX11_right 35 = .ok (.iload_n 1, 1) := by decide +kernel
theorem dX11_right_36 : decode cX11_right 36 = .ok (.iconst 1, 1) := by decide +kernel
theorem dX11_right_37 : decode cX11_right 37 = .ok (.bastore, 1) := by decide +kernel
theorem dX11_right_38 : decode cX11_right 38 = .ok (.aload_n 0, 1) := by decide +kernel
theorem dX11_right_39 : decode cX11_right 39 = .ok (.getfield 41, 3) := by decide +kernel
theorem dX11_right_42 : decode cX11_right 42 = .ok (.iload_n 1, 1) := by decide +kernel
theorem dX11_right_43 : decode cX11_right 43 = .ok (.aload_n 0, 1) := by decide +kernel
theorem dX11_right_44 : decode cX11_right 44 = .ok (.getfield 168, 3) := by decide +kernel
theorem dX11_right_47 : decode cX11_right 47 = .ok (.iastore, 1) := by decide +kernel
theorem dX11_right_48 : decode cX11_right 48 = .ok (.aload_n 0, 1) := by decide +kernel
theorem dX11_right_49 : decode cX11_right 49 = .ok (.getfield 44, 3) := by decide +kernel
theorem dX11_right_52 : decode cX11_right 52 = .ok (.iload_n 1, 1) := by decide +kernel
theorem dX11_right_53 : decode cX11_right 53 = .ok (.aload_n 0, 1) := by decide +kernel
theorem dX11_right_54 : decode cX11_right 54 = .ok (.getfield 178, 3) := by decide +kernel
theorem dX11_right_57 : decode cX11_right 57 = .ok (.iastore, 1) := by decide +kernel
theorem dX11_right_58 : decode cX11_right 58 = .ok (.aload_n 0, 1) := by decide +kernel
theorem dX11_right_59 : decode cX11_right 59 = .ok (.getfield 47, 3) := by decide +kernel
theorem dX11_right_62 : decode cX11_right 62 = .ok (.iload_n 1, 1) := by decide +kernel
theorem dX11_right_63 : decode cX11_right 63 = .ok (.aload_n 0, 1) := by decide +kernel
theorem dX11_right_64 : decode cX11_right 64 = .ok (.getfield 150, 3) := by decide +kernel
theorem dX11_right_67 : decode cX11_right 67 = .ok (.iastore, 1) := by decide +kernel
theorem dX11_right_68 : decode cX11_right 68 = .ok (.aload_n 0, 1) := by decide +kernel
theorem dX11_right_69 : decode cX11_right 69 = .ok (.getfield 50, 3) := by decide +kernel
theorem dX11_right_72 : decode cX11_right 72 = .ok (.iload_n 1, 1) := by decide +kernel
theorem dX11_right_73 : decode cX11_right 73 = .ok (.aload_n 0, 1) := by decide +kernel
theorem dX11_right_74 : decode cX11_right 74 = .ok (.getfield 153, 3) := by decide +kernel
theorem dX11_right_77 : decode cX11_right 77 = .ok (.iastore, 1) := by decide +kernel
theorem dX11_right_78 : decode cX11_right 78 = .ok (.aload_n 0, 1) := by decide +kernel
theorem dX11_right_79 : decode cX11_right 79 = .ok (.getfield 53, 3) := by decide +kernel
theorem dX11_right_82 : decode cX11_right 82 = .ok (.iload_n 1, 1) := by decide +kernel
theorem dX11_right_83 : decode cX11_right 83 = .ok (.aload_n 0, 1) := by decide +kernel
theorem dX11_right_84 : decode cX11_right 84 = .ok (.getfield 156, 3) := by decide +kernel
theorem dX11_right_87 : decode cX11_right 87 = .ok (.iastore, 1) := by decide +kernel
theorem dX11_right_88 : decode cX11_right 88 = .ok (.aload_n 0, 1) := by decide +kernel
theorem dX11_right_89 : decode cX11_right 89 = .ok (.getfield 56, 3) := by decide +kernel
theorem dX11_right_92 : decode cX11_right 92 = .ok (.iload_n 1, 1) := by decide +kernel
theorem dX11_right_93 : decode cX11_right 93 = .ok (.aload_n 0, 1) := by decide +kernel
theorem dX11_right_94 : decode cX11_right 94 = .ok (.getfield 159, 3) := by decide +kernel
theorem dX11_right_97 : decode cX11_right 97 = .ok (.iastore, 1) := by decide +kernel
theorem dX11_right_98 : decode cX11_right 98 = .ok (.aload_n 0, 1) := by decide +kernel
theorem dX11_right_99 : decode cX11_right 99 = .ok (.invokevirtual 129, 3) := by decide +kernel
theorem dX11_right_102 : decode cX11_right 102 = .ok (.ireturn, 1) := by decide +kernel
def ins_X11_right (pc : Nat) : HOp := cond (Nat.blt pc 49) (cond (Nat.blt pc 26) (cond (Nat.blt pc 11) (cond (Nat.blt pc 5) (cond (Nat.blt pc 1) (cond (Nat.beq pc 0) (o_aload 0 1) o_bad) (cond (Nat.blt pc 4) (cond (Nat.beq pc 1) (o_callV 1 11 sp_X11_readRight 4) o_bad) (cond (Nat.beq pc 4) (o_istore 2 5) o_bad))) (cond (Nat.blt pc 7) (cond (Nat.blt pc 6) (cond (Nat.beq pc 5) (o_aload 0 6) o_bad) (cond (Nat.beq pc 6) (o_const (0) 7) o_bad)) (cond (Nat.blt pc 10) (cond (Nat.beq pc 7) (o_putf 11 20 10) o_bad) (cond (Nat.beq pc 10) (o_iload 1 11) o_bad)))) (cond (Nat.blt pc 19) (cond (Nat.blt pc 13) (cond (Nat.blt pc 12) (cond (Nat.beq pc 11) (o_const (0) 12) o_bad) (cond (Nat.beq pc 12) (o_const (3) 13) o_bad)) (cond (Nat.blt pc 16) (cond (Nat.beq pc 13) (o_callS 3 sp_X11_isIn 16) o_bad) (cond (Nat.beq pc 16) (o_if (fun x => x = 0) 19 22) o_bad))) (cond (Nat.blt pc 22) (cond (Nat.blt pc 21) (cond (Nat.beq pc 19) (o_const (-1000000001) 21) o_bad) (cond (Nat.beq pc 21) (o_iret) o_bad)) (cond (Nat.blt pc 23) (cond (Nat.beq pc 22) (o_iload 2 23) o_bad) (cond (Nat.beq pc 23) (o_if (fun x => x < 0) 31 26) o_bad))))) (cond (Nat.blt pc 37) (cond (Nat.blt pc 31) (cond (Nat.blt pc 29) (cond (Nat.blt pc 28) (cond (Nat.beq pc 26) (o_const (-100) 28) o_bad) (cond (Nat.beq pc 28) (o_iload 2 29) o_bad)) (cond (Nat.blt pc 30) (cond (Nat.beq pc 29) (o_bin (fun x y => x - y) 30) o_bad) (cond (Nat.beq pc 30) (o_iret) o_bad))) (cond (Nat.blt pc 35) (cond (Nat.blt pc 32) (cond (Nat.beq pc 31) (o_aload 0 32) o_bad) (cond (Nat.beq pc 32) (o_getf 11 12 35) o_bad)) (cond (Nat.blt pc 36) (cond (Nat.beq pc 35) (o_iload 1 36) o_bad) (cond (Nat.beq pc 36) (o_const (1) 37) o_bad)))) (cond (Nat.blt pc 43) (cond (Nat.blt pc 39) (cond (Nat.blt pc 38) (cond (Nat.beq pc 37) (o_zast 38) o_bad) (cond (Nat.beq pc 38) (o_aload 0 39) o_bad)) (cond (Nat.blt pc 42) (cond (Nat.beq pc 39) (o_getf 11 13 42) o_bad) (cond (Nat.beq pc 42) (o_iload 1 43) o_bad))) (cond (Nat.blt pc 47) (cond (Nat.blt pc 44) (cond (Nat.beq pc 43) (o_aload 0 44) o_bad) (cond (Nat.beq pc 44) (o_getf 11 36 47) o_bad)) (cond (Nat.blt pc 48) (cond (Nat.beq pc 47) (o_iast 48) o_bad) (cond (Nat.beq pc 48) (o_aload 0 49) o_bad)))))) (cond (Nat.blt pc 77) (cond (Nat.blt pc 63) (cond (Nat.blt pc 57) (cond (Nat.blt pc 53) (cond (Nat.blt pc 52) (cond (Nat.beq pc 49) (o_getf 11 14 52) o_bad) (cond (Nat.beq pc 52) (o_iload 1 53) o_bad)) (cond (Nat.blt pc 54) (cond (Nat.beq pc 53) (o_aload 0 54) o_bad) (cond (Nat.beq pc 54) (o_getf 11 37 57) o_bad))) (cond (Nat.blt pc 59) (cond (Nat.blt pc 58) (cond (Nat.beq pc 57) (o_iast 58) o_bad) (cond (Nat.beq pc 58) (o_aload 0 59) o_bad)) (cond (Nat.blt pc 62) (cond (Nat.beq pc 59) (o_getf 11 15 62) o_bad) (cond (Nat.beq pc 62) (o_iload 1 63) o_bad)))) (cond (Nat.blt pc 69) (cond (Nat.blt pc 67) (cond (Nat.blt pc 64) (cond (Nat.beq pc 63) (o_aload 0 64) o_bad) (cond (Nat.beq pc 64) (o_getf 11 38 67) o_bad)) (cond (Nat.blt pc 68) (cond (Nat.beq pc 67) (o_iast 68) o_bad) (cond (Nat.beq pc 68) (o_aload 0 69) o_bad))) (cond (Nat.blt pc 73) (cond (Nat.blt pc 72) (cond (Nat.beq pc 69) (o_getf 11 16 72) o_bad) (cond (Nat.beq pc 72) (o_iload 1 73) o_bad)) (cond (Nat.blt pc 74) (cond (Nat.beq pc 73) (o_aload 0 74) o_bad) (cond (Nat.beq pc 74) (o_getf 11 39 77) o_bad))))) (cond (Nat.blt pc 89) (cond (Nat.blt pc 83) (cond (Nat.blt pc 79) (cond (Nat.blt pc 78) (cond (Nat.beq pc 77) (o_iast 78) o_bad) (cond (Nat.beq pc 78) (o_aload 0 79) o_bad)) (cond (Nat.blt pc 82) (cond (Nat.beq pc 79) (o_getf 11 17 82) o_bad) (cond (Nat.beq pc 82) (o_iload 1 83) o_bad))) (cond (Nat.blt pc 87) (cond (Nat.blt pc 84) (cond (Nat.beq pc 83) (o_aload 0 84) o_bad) (cond (Nat.beq pc 84) (o_getf 11 40 87) o_bad)) (cond (Nat.blt pc 88) (cond (Nat.beq pc 87) (o_iast 88) o_bad) (cond (Nat.beq pc 88) (o_aload 0 89) o_bad)))) (cond (Nat.blt pc 97) (cond (Nat.blt pc 93) (cond (Nat.blt pc 92) (cond (Nat.beq pc 89) (o_getf 11 18 92) o_bad) (cond (Nat.beq pc 92) (o_iload 1 93) o_bad)) (cond (Nat.blt pc 94) (cond (Nat.beq pc 93) (o_aload 0 94) o_bad) (cond (Nat.beq pc 94) (o_getf 11 41 97) o_bad))) (cond (Nat.blt pc 99) (cond (Nat.blt pc 98) (cond (Nat.beq pc 97) (o_iast 98) o_bad) (cond (Nat.beq pc 98) (o_aload 0 99) o_bad)) (cond (Nat.blt pc 102) (cond (Nat.beq pc 99) (o_callV 1 11 sp_X11_walk 102) o_bad) (cond (Nat.beq pc 102) (o_iret) o_bad))))))
set_option maxRecDepth 20000 in
theorem ok_X11_right : HOKs cX11_right RX11 3 (some .int) 7 ins_X11_right := fun _ => hnd (hnd (hnd (hnd (hnd (hlf (ok_aload_n dX11_right_0 rfl rfl)) (hnd (hlf (ok_callV (y := yX11_readRight) (n' := 0) (C := RX11) (T := TX11) dX11_right_1 ct_X11_readRight (by decide) (by decide) wd_1136 wd_1133 wd_1135 wd_33 wd_50 rfl (by decide +kernel) rfl rfl rfl)) (hlf (ok_istore_n dX11_right_4 rfl (by decide) rfl)))) (hnd (hnd (hlf (ok_aload_n dX11_right_5 rfl rfl)) (hlf (ok_iconst dX11_right_6 (by decide) rfl))) (hnd (hlf (ok_putf (C := RX11) (T := TX11) dX11_right_7 rfl rfl (by decide) rfl inX11 tyX11_ok nmX11 rfl rfl (fun _ _ => rfl) wd_897 rfl)) (hlf (ok_iload_n dX11_right_10 rfl rfl))))) (hnd (hnd (hnd (hlf (ok_iconst dX11_right_11 (by decide) rfl)) (hlf (ok_iconst dX11_right_12 (by decide) rfl))) (hnd (hlf (ok_callS (y := yX11_isIn) dX11_right_13 ct_X11_isIn (by decide) (by decide) wd_1017 wd_1015 wd_1016 wd_50 (by decide +kernel) rfl)) (hlf (ok_if_ne dX11_right_16 (by decide) rfl)))) (hnd (hnd (hlf (ok_ldc dX11_right_19 wd_1018 rfl)) (hlf (ok_iret dX11_right_21))) (hnd (hlf (ok_iload_n dX11_right_22 rfl rfl)) (hlf (ok_if_lt dX11_right_23 (by decide) rfl)))))) (hnd (hnd (hnd (hnd (hlf (ok_bipush dX11_right_26 (by decide) rfl)) (hlf (ok_iload_n dX11_right_28 rfl rfl))) (hnd (hlf (ok_isub dX11_right_29 rfl)) (hlf (ok_iret dX11_right_30)))) (hnd (hnd (hlf (ok_aload_n dX11_right_31 rfl rfl)) (hlf (ok_getf (C := RX11) (T := TX11) dX11_right_32 rfl rfl (by decide) rfl inX11 wd_889 rfl))) (hnd (hlf (ok_iload_n dX11_right_35 rfl rfl)) (hlf (ok_iconst dX11_right_36 (by decide) rfl))))) (hnd (hnd (hnd (hlf (ok_zast dX11_right_37 rfl)) (hlf (ok_aload_n dX11_right_38 rfl rfl))) (hnd (hlf (ok_getf (C := RX11) (T := TX11) dX11_right_39 rfl rfl (by decide) rfl inX11 wd_890 rfl)) (hlf (ok_iload_n dX11_right_42 rfl rfl)))) (hnd (hnd (hlf (ok_aload_n dX11_right_43 rfl rfl)) (hlf (ok_getf (C := RX11) (T := TX11) dX11_right_44 rfl rfl (by decide) rfl inX11 wd_913 rfl))) (hnd (hlf (ok_iast dX11_right_47 rfl)) (hlf (ok_aload_n dX11_right_48 rfl rfl))))))) (hnd (hnd (hnd (hnd (hnd (hlf (ok_getf (C := RX11) (T := TX11) dX11_right_49 rfl rfl (by decide) rfl inX11 wd_891 rfl)) (hlf (ok_iload_n dX11_right_52 rfl rfl))) (hnd (hlf (ok_aload_n dX11_right_53 rfl rfl)) (hlf (ok_getf (C := RX11) (T := TX11) dX11_right_54 rfl rfl (by decide) rfl inX11 wd_914 rfl)))) (hnd (hnd (hlf (ok_iast dX11_right_57 rfl)) (hlf (ok_aload_n dX11_right_58 rfl rfl))) (hnd (hlf (ok_getf (C := RX11) (T := TX11) dX11_right_59 rfl rfl (by decide) rfl inX11 wd_892 rfl)) (hlf (ok_iload_n dX11_right_62 rfl rfl))))) (hnd (hnd (hnd (hlf (ok_aload_n dX11_right_63 rfl rfl)) (hlf (ok_getf (C := RX11) (T := TX11) dX11_right_64 rfl rfl (by decide) rfl inX11 wd_915 rfl))) (hnd (hlf (ok_iast dX11_right_67 rfl)) (hlf (ok_aload_n dX11_right_68 rfl rfl)))) (hnd (hnd (hlf (ok_getf (C := RX11) (T := TX11) dX11_right_69 rfl rfl (by decide) rfl inX11 wd_893 rfl)) (hlf (ok_iload_n dX11_right_72 rfl rfl))) (hnd (hlf (ok_aload_n dX11_right_73 rfl rfl)) (hlf (ok_getf (C := RX11) (T := TX11) dX11_right_74 rfl rfl (by decide) rfl inX11 wd_916 rfl)))))) (hnd (hnd (hnd (hnd (hlf (ok_iast dX11_right_77 rfl)) (hlf (ok_aload_n dX11_right_78 rfl rfl))) (hnd (hlf (ok_getf (C := RX11) (T := TX11) dX11_right_79 rfl rfl (by decide) rfl inX11 wd_894 rfl)) (hlf (ok_iload_n dX11_right_82 rfl rfl)))) (hnd (hnd (hlf (ok_aload_n dX11_right_83 rfl rfl)) (hlf (ok_getf (C := RX11) (T := TX11) dX11_right_84 rfl rfl (by decide) rfl inX11 wd_917 rfl))) (hnd (hlf (ok_iast dX11_right_87 rfl)) (hlf (ok_aload_n dX11_right_88 rfl rfl))))) (hnd (hnd (hnd (hlf (ok_getf (C := RX11) (T := TX11) dX11_right_89 rfl rfl (by decide) rfl inX11 wd_895 rfl)) (hlf (ok_iload_n dX11_right_92 rfl rfl))) (hnd (hlf (ok_aload_n dX11_right_93 rfl rfl)) (hlf (ok_getf (C := RX11) (T := TX11) dX11_right_94 rfl rfl (by decide) rfl inX11 wd_918 rfl)))) (hnd (hnd (hlf (ok_iast dX11_right_97 rfl)) (hlf (ok_aload_n dX11_right_98 rfl rfl))) (hnd (hlf (ok_callV (y := yX11_walk) (n' := 0) (C := RX11) (T := TX11) dX11_right_99 ct_X11_walk (by decide) (by decide) wd_1055 wd_1052 wd_1054 wd_19 wd_50 rfl (by decide +kernel) rfl rfl rfl)) (hlf (ok_iret dX11_right_102)))))))

noncomputable def sp_X11_right : HSp := fun as w σ K => wp ins_X11_right (fun _ => none) K 90 0 (loc0 3 as) [] w σ
theorem vc_X11_right : MVC ins_X11_right 3 2 sp_X11_right := mvc0 90 fun _ _ _ _ _ h => h
theorem ct_X11_right : Ctr yX11_right cX11_right 3 (some .int) 7 0 0 2 sp_X11_right := ctr_of (by decide +kernel) rfl (by decide) ok_X11_right vc_X11_right

