/-! VisitHall.Searches -/
noncomputable def rcS (ch : Nat → Prop) (lim s : Int32) (k : Nat) (t : Int32 × Int32) : Int32 × Int32 := cif (s >>> (nI k &&& 31) &&& 1 = 0) t (cif (drH (drR t.2) lim ∧ ¬ ch k) (t.1 ||| (1 <<< (nI k &&& 31))) t.1, drR t.2)
noncomputable def rcI (ch : Nat → Prop) (lim s : Int32) : Nat → Int32 × Int32 → Int32 × Int32
  | 0, t => t
  | k + 1, t => rcS ch lim s k (rcI ch lim s k t)
noncomputable def rcN (ch : Nat → Prop) (lim s : Int32) (u : T3) : T3 := (u.1 ||| s, (rcI ch lim s 14 (u.2.1, u.2.2)).1, (rcI ch lim s 14 (u.2.1, u.2.2)).2)
noncomputable def rcO (ch : Nat → Prop) (lim : Int32) (set : Nat → Int32) (on : Nat → Prop) : Nat → T3 → T3
  | 0, t => t
  | i + 1, t => rcN ch lim (cif (on i) (set i &&& ((rcO ch lim set on i t).1 ^^^ (-1))) 0) (rcO ch lim set on i t)
abbrev chC (σ : HS) (k : Nat) : Prop := σ 13 0 3 >>> (nI k &&& 31) &&& 1 = 1
noncomputable def rdC (σ : HS) (x : Int32) (i : Nat) : T3 := rcO (chC σ) (16777216 / σ 6 0 0) (fun j => σ 9 j 1) (fun j => σ 9 j 6 = 0 ∧ σ 9 j 2 = x) i (0, 0, σ 6 0 1 + x)
theorem rcI_0 (ch : Nat → Prop) (lim : Int32) (t : Int32 × Int32) : ∀ k, rcI ch lim 0 k t = t
  | 0 => rfl
  | k + 1 => by
    show rcS ch lim 0 k (rcI ch lim 0 k t) = t
    rw [rcI_0 ch lim t k]
    unfold rcS
    rw [cif_p]
    have : (0 : Int32) >>> (nI k &&& 31) = 0 := by
      apply Int32.toBitVec_inj.mp
      simp
    rw [this]
    rfl
def drF (σ : HS) (t : T3) : HS := up3 (up3 σ 6 0 2 t.1) 6 0 3 t.2.1
theorem drF_o {σ : HS} {t : T3} {k i f : Nat} (h : ¬ (k = 6 ∧ i = 0 ∧ (f = 2 ∨ f = 3))) : drF σ t k i f = σ k i f := by
  unfold drF
  rw [up3_o (by omega), up3_o (by omega)]
def sp_X6_draw : HSp := fun as w σ K => match as with
  | [.inr (.inl (6, some 0)), .inr (.inl (0, some 0)), .inr (.inl (2, some 0)), .inl x] => ∃ n, Bk w σ n ∧ 1 ≤ σ 6 0 0 ∧ K none w (drF σ (rdC σ x n))
  | _ => False
theorem dX6_draw_0 : decode cX6_draw 0 = .ok (.aload_n 0, 1) := by decide +kernel
theorem dX6_draw_1 : decode cX6_draw 1 = .ok (.iconst 0, 1) := by decide +kernel
theorem dX6_draw_2 : decode cX6_draw 2 = .ok (.putfield 15, 3) := by decide +kernel
theorem dX6_draw_5 : decode cX6_draw 5 = .ok (.aload_n 0, 1) := by decide +kernel
theorem dX6_draw_6 : decode cX6_draw 6 = .ok (.iconst 0, 1) := by decide +kernel
theorem dX6_draw_7 : decode cX6_draw 7 = .ok (.putfield 18, 3) := by decide +kernel
theorem dX6_draw_10 : decode cX6_draw 10 = .ok (.aload_n 0, 1) := by decide +kernel
theorem dX6_draw_11 : decode cX6_draw 11 = .ok (.getfield 9, 3) := by decide +kernel
theorem dX6_draw_14 : decode cX6_draw 14 = .ok (.iconst 1, 1) := by decide +kernel
theorem dX6_draw_15 : decode cX6_draw 15 = .ok (.if_icmp .ge 4, 3) := by decide +kernel
theorem dX6_draw_18 : decode cX6_draw 18 = .ok (.return_, 1) := by decide +kernel
theorem dX6_draw_19 : decode cX6_draw 19 = .ok (.ldc 21, 2) := by decide +kernel
theorem dX6_draw_21 : decode cX6_draw 21 = .ok (.aload_n 0, 1) := by decide +kernel
theorem dX6_draw_22 : decode cX6_draw 22 = .ok (.getfield 9, 3) := by decide +kernel
theorem dX6_draw_25 : decode cX6_draw 25 = .ok (.idiv, 1) := by decide +kernel
theorem dX6_draw_26 : decode cX6_draw 26 = .ok (.istore 4, 2) := by decide +kernel
theorem dX6_draw_28 : decode cX6_draw 28 = .ok (.aload_n 0, 1) := by decide +kernel
theorem dX6_draw_29 : decode cX6_draw 29 = .ok (.getfield 22, 3) := by decide +kernel
theorem dX6_draw_32 : decode cX6_draw 32 = .ok (.iload_n 3, 1) := by decide +kernel
theorem dX6_draw_33 : decode cX6_draw 33 = .ok (.iadd, 1) := by decide +kernel
theorem dX6_draw_34 : decode cX6_draw 34 = .ok (.istore 5, 2) := by decide +kernel
theorem dX6_draw_36 : decode cX6_draw 36 = .ok (.iconst 0, 1) := by decide +kernel
theorem dX6_draw_37 : decode cX6_draw 37 = .ok (.istore 6, 2) := by decide +kernel
theorem dX6_draw_39 : decode cX6_draw 39 = .ok (.iload 6, 2) := by decide +kernel
theorem dX6_draw_41 : decode cX6_draw 41 = .ok (.aload_n 1, 1) := by decide +kernel
theorem dX6_draw_42 : decode cX6_draw 42 = .ok (.getfield 25, 3) := by decide +kernel
theorem dX6_draw_45 : decode cX6_draw 45 = .ok (.if_icmp .ge 140, 3) := by decide +kernel
theorem dX6_draw_48 : decode cX6_draw 48 = .ok (.aload_n 1, 1) := by decide +kernel
theorem dX6_draw_49 : decode cX6_draw 49 = .ok (.getfield 30, 3) := by decide +kernel
theorem dX6_draw_52 : decode cX6_draw 52 = .ok (.iload 6, 2) := by decide +kernel
theorem dX6_draw_54 : decode cX6_draw 54 = .ok (.aaload, 1) := by decide +kernel
theorem dX6_draw_55 : decode cX6_draw 55 = .ok (.astore 7, 2) := by decide +kernel
theorem dX6_draw_57 : decode cX6_draw 57 = .ok (.aload 7, 2) := by decide +kernel
theorem dX6_draw_59 : decode cX6_draw 59 = .ok (.getfield 34, 3) := by decide +kernel
theorem dX6_draw_62 : decode cX6_draw 62 = .ok (.ifCond .ne 27, 3) := by decide +kernel
theorem dX6_draw_65 : decode cX6_draw 65 = .ok (.aload 7, 2) := by decide +kernel
theorem dX6_draw_67 : decode cX6_draw 67 = .ok (.getfield 39, 3) := by decide +kernel
theorem dX6_draw_70 : decode cX6_draw 70 = .ok (.iload_n 3, 1) := by decide +kernel
theorem dX6_draw_71 : decode cX6_draw 71 = .ok (.if_icmp .ne 18, 3) := by decide +kernel
theorem dX6_draw_74 : decode cX6_draw 74 = .ok (.aload 7, 2) := by decide +kernel
theorem dX6_draw_76 : decode cX6_draw 76 = .ok (.getfield 42, 3) := by decide +kernel
theorem dX6_draw_79 : decode cX6_draw 79 = .ok (.aload_n 0, 1) := by decide +kernel
theorem dX6_draw_80 : decode cX6_draw 80 = .ok (.getfield 15, 3) := by decide +kernel
theorem dX6_draw_83 : decode cX6_draw 83 = .ok (.iconst (-1), 1) := by decide +kernel
theorem dX6_draw_84 : decode cX6_draw 84 = .ok (.ixor, 1) := by decide +kernel
theorem dX6_draw_85 : decode cX6_draw 85 = .ok (.iand, 1) := by decide +kernel
theorem dX6_draw_86 : decode cX6_draw 86 = .ok (.goto 4, 3) := by decide +kernel
theorem dX6_draw_89 : decode cX6_draw 89 = .ok (.iconst 0, 1) := by decide +kernel
theorem dX6_draw_90 : decode cX6_draw 90 = .ok (.istore 8, 2) := by decide +kernel
theorem dX6_draw_92 : decode cX6_draw 92 = .ok (.iconst 0, 1) := by decide +kernel
theorem dX6_draw_93 : decode cX6_draw 93 = .ok (.istore 9, 2) := by decide +kernel
theorem dX6_draw_95 : decode cX6_draw 95 = .ok (.iload 9, 2) := by decide +kernel
theorem dX6_draw_97 : decode cX6_draw 97 = .ok (.bipush 14, 2) := by decide +kernel
theorem dX6_draw_99 : decode cX6_draw 99 = .ok (.if_icmp .ge 69, 3) := by decide +kernel
theorem dX6_draw_102 : decode cX6_draw 102 = .ok (.iload 8, 2) := by decide +kernel
theorem dX6_draw_104 : decode cX6_draw 104 = .ok (.ifCond .eq 64, 3) := by decide +kernel
theorem dX6_draw_107 : decode cX6_draw 107 = .ok (.iload 8, 2) := by decide +kernel
theorem dX6_draw_109 : decode cX6_draw 109 = .ok (.iload 9, 2) := by decide +kernel
theorem dX6_draw_111 : decode cX6_draw 111 = .ok (.ishr, 1) := by decide +kernel
theorem dX6_draw_112 : decode cX6_draw 112 = .ok (.iconst 1, 1) := by decide +kernel
theorem dX6_draw_113 : decode cX6_draw 113 = .ok (.iand, 1) := by decide +kernel
theorem dX6_draw_114 : decode cX6_draw 114 = .ok (.ifCond .ne 6, 3) := by decide +kernel
theorem dX6_draw_117 : decode cX6_draw 117 = .ok (.goto 45, 3) := by decide +kernel
theorem dX6_draw_120 : decode cX6_draw 120 = .ok (.iload 5, 2) := by decide +kernel
theorem dX6_draw_122 : decode cX6_draw 122 = .ok (.ldc 47, 2) := by decide +kernel
theorem dX6_draw_124 : decode cX6_draw 124 = .ok (.imul, 1) := by decide +kernel
theorem dX6_draw_125 : decode cX6_draw 125 = .ok (.ldc 48, 2) := by decide +kernel
theorem dX6_draw_127 : decode cX6_draw 127 = .ok (.iadd, 1) := by decide +kernel
theorem dX6_draw_128 : decode cX6_draw 128 = .ok (.istore 5, 2) := by decide +kernel
theorem dX6_draw_130 : decode cX6_draw 130 = .ok (.iload 5, 2) := by decide +kernel
theorem dX6_draw_132 : decode cX6_draw 132 = .ok (.bipush 8, 2) := by decide +kernel
theorem dX6_draw_134 : decode cX6_draw 134 = .ok (.iushr, 1) := by decide +kernel
theorem dX6_draw_135 : decode cX6_draw 135 = .ok (.iload 4, 2) := by decide +kernel
theorem dX6_draw_137 : decode cX6_draw 137 = .ok (.if_icmp .ge 25, 3) := by decide +kernel
theorem dX6_draw_140 : decode cX6_draw 140 = .ok (.aload_n 2, 1) := by decide +kernel
theorem dX6_draw_141 : decode cX6_draw 141 = .ok (.iload 9, 2) := by decide +kernel
theorem dX6_draw_143 : decode cX6_draw 143 = .ok (.invokevirtual 49, 3) := by decide +kernel
theorem dX6_draw_146 : decode cX6_draw 146 = .ok (.ifCond .ne 16, 3) := by decide +kernel
theorem dX6_draw_149 : decode cX6_draw 149 = .ok (.aload_n 0, 1) := by decide +kernel
theorem dX6_draw_150 : decode cX6_draw 150 = .ok (.dup, 1) := by decide +kernel
theorem dX6_draw_151 : decode cX6_draw 151 = .ok (.getfield 18, 3) := by decide +kernel
theorem dX6_draw_154 : decode cX6_draw 154 = .ok (.iconst 1, 1) := by decide +kernel
theorem dX6_draw_155 : decode cX6_draw 155 = .ok (.iload 9, 2) := by decide +kernel
theorem dX6_draw_157 : decode cX6_draw 157 = .ok (.ishl, 1) := by decide +kernel
theorem dX6_draw_158 : decode cX6_draw 158 = .ok (.ior, 1) := by decide +kernel
theorem dX6_draw_159 : decode cX6_draw 159 = .ok (.putfield 18, 3) := by decide +kernel
theorem dX6_draw_162 : decode cX6_draw 162 = .ok (.iinc 9 1, 3) := by decide +kernel
theorem dX6_draw_165 : decode cX6_draw 165 = .ok (.goto (-70), 3) := by decide +kernel
theorem dX6_draw_168 : decode cX6_draw 168 = .ok (.aload_n 0, 1) := by decide +kernel
theorem dX6_draw_169 : decode cX6_draw 169 = .ok (.dup, 1) := by decide +kernel
theorem dX6_draw_170 : decode cX6_draw 170 = .ok (.getfield 15, 3) := by decide +kernel
theorem dX6_draw_173 : decode cX6_draw 173 = .ok (.iload 8, 2) := by decide +kernel
theorem dX6_draw_175 : decode cX6_draw 175 = .ok (.ior, 1) := by decide +kernel
theorem dX6_draw_176 : decode cX6_draw 176 = .ok (.putfield 15, 3) := by decide +kernel
theorem dX6_draw_179 : decode cX6_draw 179 = .ok (.iinc 6 1, 3) := by decide +kernel
theorem dX6_draw_182 : decode cX6_draw 182 = .ok (.goto (-143), 3) := by decide +kernel
theorem dX6_draw_185 : decode cX6_draw 185 = .ok (.return_, 1) := by decide +kernel
def ins_X6_draw (pc : Nat) : HOp := cond (Nat.blt pc 90) (cond (Nat.blt pc 41) (cond (Nat.blt pc 21) (cond (Nat.blt pc 10) (cond (Nat.blt pc 5) (cond (Nat.blt pc 1) (cond (Nat.beq pc 0) (o_aload 0 1) o_bad) (cond (Nat.blt pc 2) (cond (Nat.beq pc 1) (o_const (0) 2) o_bad) (cond (Nat.beq pc 2) (o_putf 6 2 5) o_bad))) (cond (Nat.blt pc 6) (cond (Nat.beq pc 5) (o_aload 0 6) o_bad) (cond (Nat.blt pc 7) (cond (Nat.beq pc 6) (o_const (0) 7) o_bad) (cond (Nat.beq pc 7) (o_putf 6 3 10) o_bad)))) (cond (Nat.blt pc 15) (cond (Nat.blt pc 11) (cond (Nat.beq pc 10) (o_aload 0 11) o_bad) (cond (Nat.blt pc 14) (cond (Nat.beq pc 11) (o_getf 6 0 14) o_bad) (cond (Nat.beq pc 14) (o_const (1) 15) o_bad))) (cond (Nat.blt pc 18) (cond (Nat.beq pc 15) (o_icmp (fun x y => y ≤ x) 19 18) o_bad) (cond (Nat.blt pc 19) (cond (Nat.beq pc 18) (o_vret) o_bad) (cond (Nat.beq pc 19) (o_const (16777216) 21) o_bad))))) (cond (Nat.blt pc 32) (cond (Nat.blt pc 26) (cond (Nat.blt pc 22) (cond (Nat.beq pc 21) (o_aload 0 22) o_bad) (cond (Nat.blt pc 25) (cond (Nat.beq pc 22) (o_getf 6 0 25) o_bad) (cond (Nat.beq pc 25) (o_dv (fun x y => x / y) 26) o_bad))) (cond (Nat.blt pc 28) (cond (Nat.beq pc 26) (o_istore 4 28) o_bad) (cond (Nat.blt pc 29) (cond (Nat.beq pc 28) (o_aload 0 29) o_bad) (cond (Nat.beq pc 29) (o_getf 6 1 32) o_bad)))) (cond (Nat.blt pc 36) (cond (Nat.blt pc 33) (cond (Nat.beq pc 32) (o_iload 3 33) o_bad) (cond (Nat.blt pc 34) (cond (Nat.beq pc 33) (o_bin (fun x y => x + y) 34) o_bad) (cond (Nat.beq pc 34) (o_istore 5 36) o_bad))) (cond (Nat.blt pc 37) (cond (Nat.beq pc 36) (o_const (0) 37) o_bad) (cond (Nat.blt pc 39) (cond (Nat.beq pc 37) (o_istore 6 39) o_bad) (cond (Nat.beq pc 39) (o_iload 6 41) o_bad)))))) (cond (Nat.blt pc 67) (cond (Nat.blt pc 54) (cond (Nat.blt pc 48) (cond (Nat.blt pc 42) (cond (Nat.beq pc 41) (o_aload 1 42) o_bad) (cond (Nat.blt pc 45) (cond (Nat.beq pc 42) (o_getf 0 1 45) o_bad) (cond (Nat.beq pc 45) (o_icmp (fun x y => y ≤ x) 185 48) o_bad))) (cond (Nat.blt pc 49) (cond (Nat.beq pc 48) (o_aload 1 49) o_bad) (cond (Nat.blt pc 52) (cond (Nat.beq pc 49) (o_getf 0 0 52) o_bad) (cond (Nat.beq pc 52) (o_iload 6 54) o_bad)))) (cond (Nat.blt pc 59) (cond (Nat.blt pc 55) (cond (Nat.beq pc 54) (o_aald 55) o_bad) (cond (Nat.blt pc 57) (cond (Nat.beq pc 55) (o_astore 7 57) o_bad) (cond (Nat.beq pc 57) (o_aload 7 59) o_bad))) (cond (Nat.blt pc 62) (cond (Nat.beq pc 59) (o_getf 9 6 62) o_bad) (cond (Nat.blt pc 65) (cond (Nat.beq pc 62) (o_if (fun x => x = 0) 65 89) o_bad) (cond (Nat.beq pc 65) (o_aload 7 67) o_bad))))) (cond (Nat.blt pc 80) (cond (Nat.blt pc 74) (cond (Nat.blt pc 70) (cond (Nat.beq pc 67) (o_getf 9 2 70) o_bad) (cond (Nat.blt pc 71) (cond (Nat.beq pc 70) (o_iload 3 71) o_bad) (cond (Nat.beq pc 71) (o_icmp (fun x y => x = y) 74 89) o_bad))) (cond (Nat.blt pc 76) (cond (Nat.beq pc 74) (o_aload 7 76) o_bad) (cond (Nat.blt pc 79) (cond (Nat.beq pc 76) (o_getf 9 1 79) o_bad) (cond (Nat.beq pc 79) (o_aload 0 80) o_bad)))) (cond (Nat.blt pc 85) (cond (Nat.blt pc 83) (cond (Nat.beq pc 80) (o_getf 6 2 83) o_bad) (cond (Nat.blt pc 84) (cond (Nat.beq pc 83) (o_const (-1) 84) o_bad) (cond (Nat.beq pc 84) (o_bin (fun x y => x ^^^ y) 85) o_bad))) (cond (Nat.blt pc 86) (cond (Nat.beq pc 85) (o_bin (fun x y => x &&& y) 86) o_bad) (cond (Nat.blt pc 89) (cond (Nat.beq pc 86) (o_goto 90) o_bad) (cond (Nat.beq pc 89) (o_const (0) 90) o_bad))))))) (cond (Nat.blt pc 135) (cond (Nat.blt pc 113) (cond (Nat.blt pc 102) (cond (Nat.blt pc 95) (cond (Nat.blt pc 92) (cond (Nat.beq pc 90) (o_istore 8 92) o_bad) (cond (Nat.blt pc 93) (cond (Nat.beq pc 92) (o_const (0) 93) o_bad) (cond (Nat.beq pc 93) (o_istore 9 95) o_bad))) (cond (Nat.blt pc 97) (cond (Nat.beq pc 95) (o_iload 9 97) o_bad) (cond (Nat.blt pc 99) (cond (Nat.beq pc 97) (o_const (14) 99) o_bad) (cond (Nat.beq pc 99) (o_icmp (fun x y => y ≤ x) 168 102) o_bad)))) (cond (Nat.blt pc 109) (cond (Nat.blt pc 104) (cond (Nat.beq pc 102) (o_iload 8 104) o_bad) (cond (Nat.blt pc 107) (cond (Nat.beq pc 104) (o_if (fun x => x = 0) 168 107) o_bad) (cond (Nat.beq pc 107) (o_iload 8 109) o_bad))) (cond (Nat.blt pc 111) (cond (Nat.beq pc 109) (o_iload 9 111) o_bad) (cond (Nat.blt pc 112) (cond (Nat.beq pc 111) (o_bin (fun x y => x >>> (y &&& 31)) 112) o_bad) (cond (Nat.beq pc 112) (o_const (1) 113) o_bad))))) (cond (Nat.blt pc 125) (cond (Nat.blt pc 120) (cond (Nat.blt pc 114) (cond (Nat.beq pc 113) (o_bin (fun x y => x &&& y) 114) o_bad) (cond (Nat.blt pc 117) (cond (Nat.beq pc 114) (o_if (fun x => x = 0) 117 120) o_bad) (cond (Nat.beq pc 117) (o_goto 162) o_bad))) (cond (Nat.blt pc 122) (cond (Nat.beq pc 120) (o_iload 5 122) o_bad) (cond (Nat.blt pc 124) (cond (Nat.beq pc 122) (o_const (1664525) 124) o_bad) (cond (Nat.beq pc 124) (o_bin (fun x y => x * y) 125) o_bad)))) (cond (Nat.blt pc 130) (cond (Nat.blt pc 127) (cond (Nat.beq pc 125) (o_const (1013904223) 127) o_bad) (cond (Nat.blt pc 128) (cond (Nat.beq pc 127) (o_bin (fun x y => x + y) 128) o_bad) (cond (Nat.beq pc 128) (o_istore 5 130) o_bad))) (cond (Nat.blt pc 132) (cond (Nat.beq pc 130) (o_iload 5 132) o_bad) (cond (Nat.blt pc 134) (cond (Nat.beq pc 132) (o_const (8) 134) o_bad) (cond (Nat.beq pc 134) (o_bin (fun x y => (x.toUInt32 >>> (y.toUInt32 &&& Int32.toUInt32 31)).toInt32) 135) o_bad)))))) (cond (Nat.blt pc 158) (cond (Nat.blt pc 149) (cond (Nat.blt pc 141) (cond (Nat.blt pc 137) (cond (Nat.beq pc 135) (o_iload 4 137) o_bad) (cond (Nat.blt pc 140) (cond (Nat.beq pc 137) (o_icmp (fun x y => y ≤ x) 162 140) o_bad) (cond (Nat.beq pc 140) (o_aload 2 141) o_bad))) (cond (Nat.blt pc 143) (cond (Nat.beq pc 141) (o_iload 9 143) o_bad) (cond (Nat.blt pc 146) (cond (Nat.beq pc 143) (o_callV 2 2 sp_X2_isChild 146) o_bad) (cond (Nat.beq pc 146) (o_if (fun x => x = 0) 149 162) o_bad)))) (cond (Nat.blt pc 154) (cond (Nat.blt pc 150) (cond (Nat.beq pc 149) (o_aload 0 150) o_bad) (cond (Nat.blt pc 151) (cond (Nat.beq pc 150) (o_dup 151) o_bad) (cond (Nat.beq pc 151) (o_getf 6 3 154) o_bad))) (cond (Nat.blt pc 155) (cond (Nat.beq pc 154) (o_const (1) 155) o_bad) (cond (Nat.blt pc 157) (cond (Nat.beq pc 155) (o_iload 9 157) o_bad) (cond (Nat.beq pc 157) (o_bin (fun x y => x <<< (y &&& 31)) 158) o_bad))))) (cond (Nat.blt pc 170) (cond (Nat.blt pc 165) (cond (Nat.blt pc 159) (cond (Nat.beq pc 158) (o_bin (fun x y => x ||| y) 159) o_bad) (cond (Nat.blt pc 162) (cond (Nat.beq pc 159) (o_putf 6 3 162) o_bad) (cond (Nat.beq pc 162) (o_iinc 9 (1) 165) o_bad))) (cond (Nat.blt pc 168) (cond (Nat.beq pc 165) (o_goto 95) o_bad) (cond (Nat.blt pc 169) (cond (Nat.beq pc 168) (o_aload 0 169) o_bad) (cond (Nat.beq pc 169) (o_dup 170) o_bad)))) (cond (Nat.blt pc 176) (cond (Nat.blt pc 173) (cond (Nat.beq pc 170) (o_getf 6 2 173) o_bad) (cond (Nat.blt pc 175) (cond (Nat.beq pc 173) (o_iload 8 175) o_bad) (cond (Nat.beq pc 175) (o_bin (fun x y => x ||| y) 176) o_bad))) (cond (Nat.blt pc 182) (cond (Nat.blt pc 179) (cond (Nat.beq pc 176) (o_putf 6 2 179) o_bad) (cond (Nat.beq pc 179) (o_iinc 6 (1) 182) o_bad)) (cond (Nat.blt pc 185) (cond (Nat.beq pc 182) (o_goto 39) o_bad) (cond (Nat.beq pc 185) (o_vret) o_bad)))))))
set_option maxRecDepth 20000 in
theorem ok_X6_draw : HOKs cX6_draw RX6 10 none 2 ins_X6_draw := fun _ => hnd (hnd (hnd (hnd (hnd (hnd (hlf (ok_aload_n dX6_draw_0 rfl rfl)) (hnd (hlf (ok_iconst dX6_draw_1 (by decide) rfl)) (hlf (ok_putf (C := RX6) (T := TX6) dX6_draw_2 rfl rfl (by decide) rfl inX6 tyX6_ok nmX6 rfl rfl (fun _ _ => rfl) wd_215 rfl)))) (hnd (hlf (ok_aload_n dX6_draw_5 rfl rfl)) (hnd (hlf (ok_iconst dX6_draw_6 (by decide) rfl)) (hlf (ok_putf (C := RX6) (T := TX6) dX6_draw_7 rfl rfl (by decide) rfl inX6 tyX6_ok nmX6 rfl rfl (fun _ _ => rfl) wd_217 rfl))))) (hnd (hnd (hlf (ok_aload_n dX6_draw_10 rfl rfl)) (hnd (hlf (ok_getf (C := RX6) (T := TX6) dX6_draw_11 rfl rfl (by decide) rfl inX6 wd_211 rfl)) (hlf (ok_iconst dX6_draw_14 (by decide) rfl)))) (hnd (hlf (ok_icmp_ge dX6_draw_15 (by decide) rfl)) (hnd (hlf (ok_vret dX6_draw_18)) (hlf (ok_ldc dX6_draw_19 wd_802 rfl)))))) (hnd (hnd (hnd (hlf (ok_aload_n dX6_draw_21 rfl rfl)) (hnd (hlf (ok_getf (C := RX6) (T := TX6) dX6_draw_22 rfl rfl (by decide) rfl inX6 wd_211 rfl)) (hlf (ok_idiv dX6_draw_25 rfl)))) (hnd (hlf (ok_istore dX6_draw_26 (by decide) rfl)) (hnd (hlf (ok_aload_n dX6_draw_28 rfl rfl)) (hlf (ok_getf (C := RX6) (T := TX6) dX6_draw_29 rfl rfl (by decide) rfl inX6 wd_213 rfl))))) (hnd (hnd (hlf (ok_iload_n dX6_draw_32 rfl rfl)) (hnd (hlf (ok_iadd dX6_draw_33 rfl)) (hlf (ok_istore dX6_draw_34 (by decide) rfl)))) (hnd (hlf (ok_iconst dX6_draw_36 (by decide) rfl)) (hnd (hlf (ok_istore dX6_draw_37 (by decide) rfl)) (hlf (ok_iload dX6_draw_39 rfl))))))) (hnd (hnd (hnd (hnd (hlf (ok_aload_n dX6_draw_41 rfl rfl)) (hnd (hlf (ok_getfN (C := RX0) (T := TX0) dX6_draw_42 rfl rfl (by decide) rfl inX0 wd_149 rfl)) (hlf (ok_icmp_ge dX6_draw_45 (by decide) rfl)))) (hnd (hlf (ok_aload_n dX6_draw_48 rfl rfl)) (hnd (hlf (ok_getfN (C := RX0) (T := TX0) dX6_draw_49 rfl rfl (by decide) rfl inX0 wd_146 rfl)) (hlf (ok_iload dX6_draw_52 rfl))))) (hnd (hnd (hlf (ok_aald dX6_draw_54 rfl)) (hnd (hlf (ok_astore dX6_draw_55 (by decide) rfl)) (hlf (ok_aload dX6_draw_57 rfl)))) (hnd (hlf (ok_getfN (C := RX9) (T := TX9) dX6_draw_59 rfl rfl (by decide) rfl inX9 wd_261 rfl)) (hnd (hlf (ok_if_ne dX6_draw_62 (by decide) rfl)) (hlf (ok_aload dX6_draw_65 rfl)))))) (hnd (hnd (hnd (hlf (ok_getfN (C := RX9) (T := TX9) dX6_draw_67 rfl rfl (by decide) rfl inX9 wd_245 rfl)) (hnd (hlf (ok_iload_n dX6_draw_70 rfl rfl)) (hlf (ok_icmp_ne dX6_draw_71 (by decide) rfl)))) (hnd (hlf (ok_aload dX6_draw_74 rfl)) (hnd (hlf (ok_getfN (C := RX9) (T := TX9) dX6_draw_76 rfl rfl (by decide) rfl inX9 wd_239 rfl)) (hlf (ok_aload_n dX6_draw_79 rfl rfl))))) (hnd (hnd (hlf (ok_getf (C := RX6) (T := TX6) dX6_draw_80 rfl rfl (by decide) rfl inX6 wd_215 rfl)) (hnd (hlf (ok_iconst dX6_draw_83 (by decide) rfl)) (hlf (ok_ixor dX6_draw_84 rfl)))) (hnd (hlf (ok_iand dX6_draw_85 rfl)) (hnd (hlf (ok_goto dX6_draw_86 (by decide))) (hlf (ok_iconst dX6_draw_89 (by decide) rfl)))))))) (hnd (hnd (hnd (hnd (hnd (hlf (ok_istore dX6_draw_90 (by decide) rfl)) (hnd (hlf (ok_iconst dX6_draw_92 (by decide) rfl)) (hlf (ok_istore dX6_draw_93 (by decide) rfl)))) (hnd (hlf (ok_iload dX6_draw_95 rfl)) (hnd (hlf (ok_bipush dX6_draw_97 (by decide) rfl)) (hlf (ok_icmp_ge dX6_draw_99 (by decide) rfl))))) (hnd (hnd (hlf (ok_iload dX6_draw_102 rfl)) (hnd (hlf (ok_if_eq dX6_draw_104 (by decide) rfl)) (hlf (ok_iload dX6_draw_107 rfl)))) (hnd (hlf (ok_iload dX6_draw_109 rfl)) (hnd (hlf (ok_ishr dX6_draw_111 rfl)) (hlf (ok_iconst dX6_draw_112 (by decide) rfl)))))) (hnd (hnd (hnd (hlf (ok_iand dX6_draw_113 rfl)) (hnd (hlf (ok_if_ne dX6_draw_114 (by decide) rfl)) (hlf (ok_goto dX6_draw_117 (by decide))))) (hnd (hlf (ok_iload dX6_draw_120 rfl)) (hnd (hlf (ok_ldc dX6_draw_122 wd_803 rfl)) (hlf (ok_imul dX6_draw_124 rfl))))) (hnd (hnd (hlf (ok_ldc dX6_draw_125 wd_804 rfl)) (hnd (hlf (ok_iadd dX6_draw_127 rfl)) (hlf (ok_istore dX6_draw_128 (by decide) rfl)))) (hnd (hlf (ok_iload dX6_draw_130 rfl)) (hnd (hlf (ok_bipush dX6_draw_132 (by decide) rfl)) (hlf (ok_iushr dX6_draw_134 rfl))))))) (hnd (hnd (hnd (hnd (hlf (ok_iload dX6_draw_135 rfl)) (hnd (hlf (ok_icmp_ge dX6_draw_137 (by decide) rfl)) (hlf (ok_aload_n dX6_draw_140 rfl rfl)))) (hnd (hlf (ok_iload dX6_draw_141 rfl)) (hnd (hlf (ok_callV (y := yX2_isChild) (n' := 1) (C := RX2) (T := TX2) dX6_draw_143 ct_X2_isChild (by decide) (by decide) wd_808 wd_805 wd_806 wd_807 wd_42 rfl (by decide +kernel) rfl rfl rfl)) (hlf (ok_if_ne dX6_draw_146 (by decide) rfl))))) (hnd (hnd (hlf (ok_aload_n dX6_draw_149 rfl rfl)) (hnd (hlf (ok_dup dX6_draw_150 rfl)) (hlf (ok_getf (C := RX6) (T := TX6) dX6_draw_151 rfl rfl (by decide) rfl inX6 wd_217 rfl)))) (hnd (hlf (ok_iconst dX6_draw_154 (by decide) rfl)) (hnd (hlf (ok_iload dX6_draw_155 rfl)) (hlf (ok_ishl dX6_draw_157 rfl)))))) (hnd (hnd (hnd (hlf (ok_ior dX6_draw_158 rfl)) (hnd (hlf (ok_putf (C := RX6) (T := TX6) dX6_draw_159 rfl rfl (by decide) rfl inX6 tyX6_ok nmX6 rfl rfl (fun _ _ => rfl) wd_217 rfl)) (hlf (ok_iinc dX6_draw_162 (by decide) (by decide) rfl)))) (hnd (hlf (ok_goto dX6_draw_165 (by decide))) (hnd (hlf (ok_aload_n dX6_draw_168 rfl rfl)) (hlf (ok_dup dX6_draw_169 rfl))))) (hnd (hnd (hlf (ok_getf (C := RX6) (T := TX6) dX6_draw_170 rfl rfl (by decide) rfl inX6 wd_215 rfl)) (hnd (hlf (ok_iload dX6_draw_173 rfl)) (hlf (ok_ior dX6_draw_175 rfl)))) (hnd (hnd (hlf (ok_putf (C := RX6) (T := TX6) dX6_draw_176 rfl rfl (by decide) rfl inX6 tyX6_ok nmX6 rfl rfl (fun _ _ => rfl) wd_215 rfl)) (hlf (ok_iinc dX6_draw_179 (by decide) (by decide) rfl))) (hnd (hlf (ok_goto dX6_draw_182 (by decide))) (hlf (ok_vret dX6_draw_185))))))))

set_option maxHeartbeats 2000000 in
theorem vc_X6_draw : MVC ins_X6_draw 10 4 sp_X6_draw := by
  intro as w σ q hl hs
  unfold sp_X6_draw at hs
  split at hs
  rotate_left
  · exact hs.elim
  rename_i x
  obtain ⟨n, ⟨hn, hsz, hra⟩, h1i, hq⟩ := hs
  have h00 : ¬ σ 6 0 0 = 0 := fun h => by rw [h] at h1i; exact absurd h1i (by decide)
  obtain ⟨lim, hlim⟩ : ∃ l, l = 16777216 / σ 6 0 0 := ⟨_, rfl⟩
  refine ⟨fun pc => Nat.beq pc 39 || Nat.beq pc 95, fun pc N ls st w' σ' => st = [] ∧ w = w' ∧ ∃ (i : Nat) (c f r u : Int32) (o7 o8 o9 : Option HV), u = nI i ∧ ls = [some (HR 6 0), some (HR 0 0), some (HR 2 0), some (HI x), some (HI lim), some (HI r), some (HI u), o7, o8, o9] ∧ (∃ r0, σ' = drF σ (c, f, r0)) ∧
    ((pc = 39 ∧ i ≤ n ∧ N = (n - i) * 100 + 50 ∧ (c, f, r) = rdC σ x i) ∨
     (pc = 95 ∧ i < n ∧ ∃ (k : Nat) (v s : Int32), k ≤ 14 ∧ N = (n - i) * 100 + (14 - k) ∧ v = nI k ∧ o8 = some (HI s) ∧ o9 = some (HI v) ∧ c = (rdC σ x i).1 ∧ s = cif (σ 9 i 6 = 0 ∧ σ 9 i 2 = x) (σ 9 i 1 &&& (c ^^^ (-1))) 0 ∧ (f, r) = rcI (chC σ) lim s k ((rdC σ x i).2.1, (rdC σ x i).2.2))), 120, 60, ?_, ?_⟩
  · rintro N pc ls st w' σ' hh ⟨rfl, rfl, i, c, f, r, u, o7, o8, o9, rfl, rfl, ⟨r0, rfl⟩, (⟨rfl, hi, rfl, hT⟩ | ⟨rfl, hi, k, v, s, hk, rfl, rfl, rfl, rfl, hc, hs, hT⟩)⟩
    · have esz : drF σ (c, f, r0) 0 0 1 = nI n := by rw [drF_o (by omega)]; exact hsz
      have e9 : ∀ g, drF σ (c, f, r0) 9 i g = σ 9 i g := fun g => drF_o (by omega)
      apply br2
      · intro h1
        obtain rfl := lp_end esz hi h1
        rw [← hT] at hq
        exact hq
      intro h1
      have hlt := lp_go esz hi h1
      have hc : c = (rdC σ x i).1 := by rw [← hT]
      have go : ∀ s : Int32, s = cif (σ 9 i 6 = 0 ∧ σ 9 i 2 = x) (σ 9 i 1 &&& (c ^^^ (-1))) 0 → ∃ N', N' < (n - i) * 100 + 50 ∧ ([] : List HV) = [] ∧ w = w ∧ ∃ (i' : Nat) (c' f' r' u : Int32) (o7 o8 o9 : Option HV), u = nI i' ∧ [some (HR 6 0), some (HR 0 0), some (HR 2 0), some (HI x), some (HI lim), some (HI r), some (HI (nI i)), some (HR 9 i), some (HI s), some (HI 0)] = [some (HR 6 0), some (HR 0 0), some (HR 2 0), some (HI x), some (HI lim), some (HI r'), some (HI u), o7, o8, o9] ∧ (∃ r0', drF σ (c, f, r0) = drF σ (c', f', r0')) ∧
          ((95 = 39 ∧ i' ≤ n ∧ N' = (n - i') * 100 + 50 ∧ (c', f', r') = rdC σ x i') ∨
           (95 = 95 ∧ i' < n ∧ ∃ (k : Nat) (v s : Int32), k ≤ 14 ∧ N' = (n - i') * 100 + (14 - k) ∧ v = nI k ∧ o8 = some (HI s) ∧ o9 = some (HI v) ∧ c' = (rdC σ x i').1 ∧ s = cif (σ 9 i' 6 = 0 ∧ σ 9 i' 2 = x) (σ 9 i' 1 &&& (c' ^^^ (-1))) 0 ∧ (f', r') = rcI (chC σ) lim s k ((rdC σ x i').2.1, (rdC σ x i').2.2))) := fun s hs =>
        ⟨(n - i) * 100 + (14 - 0), by omega, rfl, rfl, i, c, f, r, _, _, _, _, rfl, rfl, ⟨r0, rfl⟩, Or.inr ⟨rfl, hlt, 0, 0, s, by decide, rfl, rfl, rfl, rfl, hc, hs, by rw [← hT]; rfl⟩⟩
      refine And.intro (vp_in_nI (N := 100) (by omega) (by decide)) (fun o ho => ?_)
      obtain rfl := ra_at ho (hra i hlt)
      apply br2
      rotate_left
      · intro h2
        have h2 : ¬ drF σ (c, f, r0) 9 i 6 = 0 := h2
        rw [e9] at h2
        exact go 0 (by rw [cif_n fun z => h2 z.1])
      intro h2
      have h2 : drF σ (c, f, r0) 9 i 6 = 0 := h2
      rw [e9] at h2
      apply br2
      rotate_left
      · intro h3
        have h3 : ¬ drF σ (c, f, r0) 9 i 2 = x := h3
        rw [e9] at h3
        exact go 0 (by rw [cif_n fun z => h3 z.2])
      intro h3
      have h3 : drF σ (c, f, r0) 9 i 2 = x := h3
      rw [e9] at h3
      have e2 : drF σ (c, f, r0) 6 0 2 = c := by
        unfold drF
        rw [up3_o (by omega)]
        exact up3_v
      refine go (drF σ (c, f, r0) 9 i 1 &&& (drF σ (c, f, r0) 6 0 2 ^^^ (-1))) ?_
      rw [cif_p ⟨h2, h3⟩, e9, e2]
    · have hst : rdC σ x (i + 1) = rcN (chC σ) lim (cif (σ 9 i 6 = 0 ∧ σ 9 i 2 = x) (σ 9 i 1 &&& ((rdC σ x i).1 ^^^ (-1))) 0) (rdC σ x i) := by rw [hlim]; rfl
      rw [← hc, ← hs] at hst
      have e2 : drF σ (c, f, r0) 6 0 2 = c := by
        unfold drF
        rw [up3_o (by omega)]
        exact up3_v
      have e3 : drF σ (c, f, r0) 6 0 3 = f := up3_v
      have out : ((f, r) = rcI (chC σ) lim s 14 ((rdC σ x i).2.1, (rdC σ x i).2.2)) → ∃ N', N' < (n - i) * 100 + (14 - k) ∧ ([] : List HV) = [] ∧ w = w ∧ ∃ (i' : Nat) (c' f' r' u : Int32) (o7' o8 o9 : Option HV), u = nI i' ∧ [some (HR 6 0), some (HR 0 0), some (HR 2 0), some (HI x), some (HI lim), some (HI r), some (HI (nI i + 1)), o7, some (HI s), some (HI (nI k))] = [some (HR 6 0), some (HR 0 0), some (HR 2 0), some (HI x), some (HI lim), some (HI r'), some (HI u), o7', o8, o9] ∧ (∃ r0', up3 (drF σ (c, f, r0)) 6 0 2 (drF σ (c, f, r0) 6 0 2 ||| s) = drF σ (c', f', r0')) ∧
          ((39 = 39 ∧ i' ≤ n ∧ N' = (n - i') * 100 + 50 ∧ (c', f', r') = rdC σ x i') ∨
           (39 = 95 ∧ i' < n ∧ ∃ (k : Nat) (v s : Int32), k ≤ 14 ∧ N' = (n - i') * 100 + (14 - k) ∧ v = nI k ∧ o8 = some (HI s) ∧ o9 = some (HI v) ∧ c' = (rdC σ x i').1 ∧ s = cif (σ 9 i' 6 = 0 ∧ σ 9 i' 2 = x) (σ 9 i' 1 &&& (c' ^^^ (-1))) 0 ∧ (f', r') = rcI (chC σ) lim s k ((rdC σ x i').2.1, (rdC σ x i').2.2))) := fun h => by
        refine ⟨(n - (i + 1)) * 100 + 50, by omega, rfl, rfl, i + 1, c ||| s, f, r, _, _, _, _, nI_1 i, rfl, ⟨0, ?_⟩, Or.inl ⟨rfl, hi, rfl, ?_⟩⟩
        · rw [e2]
          unfold drF
          rw [up3_cm (by decide), up3_2]
        · rw [hst]
          unfold rcN
          rw [← h, hc]
      have nx : k < 14 → ∀ f2 r2 : Int32, (f2, r2) = rcS (chC σ) lim s k (f, r) → ∀ σ2, σ2 = drF σ (c, f2, r0) → ∃ N', N' < (n - i) * 100 + (14 - k) ∧ ([] : List HV) = [] ∧ w = w ∧ ∃ (i' : Nat) (c' f' r' u : Int32) (o7' o8 o9 : Option HV), u = nI i' ∧ [some (HR 6 0), some (HR 0 0), some (HR 2 0), some (HI x), some (HI lim), some (HI r2), some (HI (nI i)), o7, some (HI s), some (HI (nI k + 1))] = [some (HR 6 0), some (HR 0 0), some (HR 2 0), some (HI x), some (HI lim), some (HI r'), some (HI u), o7', o8, o9] ∧ (∃ r0', σ2 = drF σ (c', f', r0')) ∧
          ((95 = 39 ∧ i' ≤ n ∧ N' = (n - i') * 100 + 50 ∧ (c', f', r') = rdC σ x i') ∨
           (95 = 95 ∧ i' < n ∧ ∃ (k : Nat) (v s : Int32), k ≤ 14 ∧ N' = (n - i') * 100 + (14 - k) ∧ v = nI k ∧ o8 = some (HI s) ∧ o9 = some (HI v) ∧ c' = (rdC σ x i').1 ∧ s = cif (σ 9 i' 6 = 0 ∧ σ 9 i' 2 = x) (σ 9 i' 1 &&& (c' ^^^ (-1))) 0 ∧ (f', r') = rcI (chC σ) lim s k ((rdC σ x i').2.1, (rdC σ x i').2.2))) := fun hlt f2 r2 h σ2 hσ =>
        ⟨(n - i) * 100 + (14 - (k + 1)), by omega, rfl, rfl, i, c, f2, r2, _, _, _, _, rfl, rfl, ⟨r0, hσ⟩, Or.inr ⟨rfl, hi, k + 1, _, s, hlt, rfl, nI_1 k, rfl, rfl, hc, hs, by rw [h, hT]; rfl⟩⟩
      apply br2
      · intro h1
        obtain rfl := lp_end (n := 14) rfl hk h1
        exact out hT
      intro h1
      have hlt := lp_go (n := 14) rfl hk h1
      apply br2
      · intro h2
        have h2 : s = 0 := h2
        refine out ?_
        rw [h2, rcI_0] at hT ⊢
        exact hT
      intro h2
      apply br2
      · intro h3
        have h3 : s >>> (nI k &&& 31) &&& 1 = 0 := h3
        refine nx hlt f r ?_ _ rfl
        unfold rcS
        rw [cif_p h3]
      intro h3
      have h3 : ¬ s >>> (nI k &&& 31) &&& 1 = 0 := h3
      apply br2
      · intro h4
        have h4 : lim ≤ ((drR r).toUInt32 >>> ((8 : Int32).toUInt32 &&& Int32.toUInt32 31)).toInt32 := h4
        refine nx hlt f _ ?_ _ rfl
        unfold rcS
        rw [cif_n h3, cif_n fun z => Int32.not_lt.mpr h4 z.1]
        rfl
      intro h4
      have h4 : ¬ lim ≤ ((drR r).toUInt32 >>> ((8 : Int32).toUInt32 &&& Int32.toUInt32 31)).toInt32 := h4
      have e13 : drF σ (c, f, r0) 13 0 3 = σ 13 0 3 := drF_o (by omega)
      apply br2
      · intro h5
        have h5 : drF σ (c, f, r0) 13 0 3 >>> (nI k &&& 31) &&& 1 = 1 := h5
        rw [e13] at h5
        refine And.intro (fun h => absurd h (by decide)) (fun _ => ?_)
        refine nx hlt f _ ?_ _ rfl
        unfold rcS
        rw [cif_n h3, cif_n fun z => z.2 h5]
        rfl
      · intro h5
        have h5 : ¬ drF σ (c, f, r0) 13 0 3 >>> (nI k &&& 31) &&& 1 = 1 := h5
        rw [e13] at h5
        refine And.intro (fun _ => ?_) (fun h => absurd rfl h)
        refine nx hlt (f ||| (1 <<< (nI k &&& 31))) _ ?_ _ ?_
        · unfold rcS
          rw [cif_n h3, cif_p ⟨Int32.not_le.mp h4, h5⟩]
          rfl
        · show up3 (drF σ (c, f, r0)) 6 0 3 (drF σ (c, f, r0) 6 0 3 ||| (1 <<< (nI k &&& 31))) = _
          rw [e3]
          unfold drF
          rw [up3_2]
  · have e0 : up3 (up3 σ 6 0 2 0) 6 0 3 0 6 0 0 = σ 6 0 0 := by rw [up3_o (by omega), up3_o (by omega)]
    have e1 : up3 (up3 σ 6 0 2 0) 6 0 3 0 6 0 1 = σ 6 0 1 := by rw [up3_o (by omega), up3_o (by omega)]
    apply br2
    rotate_left
    · intro h
      have h : ¬ 1 ≤ up3 (up3 σ 6 0 2 0) 6 0 3 0 6 0 0 := h
      rw [e0] at h
      exact absurd h1i h
    intro h
    refine And.intro (by rw [e0]; exact h00) ?_
    exact ⟨(n - 0) * 100 + 50, rfl, rfl, 0, 0, 0, σ 6 0 1 + x, _, none, none, none, rfl, by rw [hlim]; rfl, ⟨0, rfl⟩, Or.inl ⟨rfl, Nat.zero_le _, rfl, rfl⟩⟩
theorem ct_X6_draw : Ctr yX6_draw cX6_draw 10 none 2 0 0 4 sp_X6_draw := ctr_of (by decide +kernel) rfl (by decide) ok_X6_draw vc_X6_draw

theorem dX10_comes_0 : decode cX10_comes 0 = .ok (.iload_n 1, 1) := by decide +kernel
theorem dX10_comes_1 : decode cX10_comes 1 = .ok (.sipush 401, 3) := by decide +kernel
theorem dX10_comes_4 : decode cX10_comes 4 = .ok (.invokestatic 75, 3) := by decide +kernel
theorem dX10_comes_7 : decode cX10_comes 7 = .ok (.ifCond .eq 11, 3) := by decide +kernel
theorem dX10_comes_10 : decode cX10_comes 10 = .ok (.iload_n 2, 1) := by decide +kernel
theorem dX10_comes_11 : decode cX10_comes 11 = .ok (.iconst 2, 1) := by decide +kernel
theorem dX10_comes_12 : decode cX10_comes 12 = .ok (.invokestatic 75, 3) := by decide +kernel
theorem dX10_comes_15 : decode cX10_comes 15 = .ok (.ifCond .ne 6, 3) := by decide +kernel
theorem dX10_comes_18 : decode cX10_comes 18 = .ok (.ldc 79, 2) := by decide +kernel
theorem dX10_comes_20 : decode cX10_comes 20 = .ok (.ireturn, 1) := by decide +kernel
theorem dX10_comes_21 : decode cX10_comes 21 = .ok (.aload_n 0, 1) := by decide +kernel
theorem dX10_comes_22 : decode cX10_comes 22 = .ok (.getfield 64, 3) := by decide +kernel
theorem dX10_comes_25 : decode cX10_comes 25 = .ok (.aload_n 0, 1) := by decide +kernel
theorem dX10_comes_26 : decode cX10_comes 26 = .ok (.getfield 41, 3) := by decide +kernel
theorem dX10_comes_29 : decode cX10_comes 29 = .ok (.aload_n 0, 1) := by decide +kernel
theorem dX10_comes_30 : decode cX10_comes 30 = .ok (.getfield 10, 3) := by decide +kernel
theorem dX10_comes_33 : decode cX10_comes 33 = .ok (.iload_n 1, 1) := by decide +kernel
theorem dX10_comes_34 : decode cX10_comes 34 = .ok (.invokevirtual 260, 3) := by decide +kernel
theorem dX10_comes_37 : decode cX10_comes 37 = .ok (.iload_n 2, 1) := by decide +kernel
theorem dX10_comes_38 : decode cX10_comes 38 = .ok (.ifCond .ne 13, 3) := by decide +kernel
theorem dX10_comes_41 : decode cX10_comes 41 = .ok (.aload_n 0, 1) := by decide +kernel
theorem dX10_comes_42 : decode cX10_comes 42 = .ok (.getfield 64, 3) := by decide +kernel
theorem dX10_comes_45 : decode cX10_comes 45 = .ok (.getfield 264, 3) := by decide +kernel
theorem dX10_comes_48 : decode cX10_comes 48 = .ok (.goto 10, 3) := by decide +kernel
theorem dX10_comes_51 : decode cX10_comes 51 = .ok (.aload_n 0, 1) := by decide +kernel
theorem dX10_comes_52 : decode cX10_comes 52 = .ok (.getfield 64, 3) := by decide +kernel
theorem dX10_comes_55 : decode cX10_comes 55 = .ok (.getfield 267, 3) := by decide +kernel
theorem dX10_comes_58 : decode cX10_comes 58 = .ok (.ireturn, 1) := by decide +kernel
def ins_X10_comes (pc : Nat) : HOp := cond (Nat.blt pc 29) (cond (Nat.blt pc 15) (cond (Nat.blt pc 7) (cond (Nat.blt pc 1) (cond (Nat.beq pc 0) (o_iload 1 1) o_bad) (cond (Nat.blt pc 4) (cond (Nat.beq pc 1) (o_const (401) 4) o_bad) (cond (Nat.beq pc 4) (o_callS 2 sp_X10_isBelow 7) o_bad))) (cond (Nat.blt pc 11) (cond (Nat.blt pc 10) (cond (Nat.beq pc 7) (o_if (fun x => x = 0) 18 10) o_bad) (cond (Nat.beq pc 10) (o_iload 2 11) o_bad)) (cond (Nat.blt pc 12) (cond (Nat.beq pc 11) (o_const (2) 12) o_bad) (cond (Nat.beq pc 12) (o_callS 2 sp_X10_isBelow 15) o_bad)))) (cond (Nat.blt pc 21) (cond (Nat.blt pc 18) (cond (Nat.beq pc 15) (o_if (fun x => x = 0) 18 21) o_bad) (cond (Nat.blt pc 20) (cond (Nat.beq pc 18) (o_const (-1000000001) 20) o_bad) (cond (Nat.beq pc 20) (o_iret) o_bad))) (cond (Nat.blt pc 25) (cond (Nat.blt pc 22) (cond (Nat.beq pc 21) (o_aload 0 22) o_bad) (cond (Nat.beq pc 22) (o_getf 10 7 25) o_bad)) (cond (Nat.blt pc 26) (cond (Nat.beq pc 25) (o_aload 0 26) o_bad) (cond (Nat.beq pc 26) (o_getf 10 4 29) o_bad))))) (cond (Nat.blt pc 42) (cond (Nat.blt pc 34) (cond (Nat.blt pc 30) (cond (Nat.beq pc 29) (o_aload 0 30) o_bad) (cond (Nat.blt pc 33) (cond (Nat.beq pc 30) (o_getf 10 0 33) o_bad) (cond (Nat.beq pc 33) (o_iload 1 34) o_bad))) (cond (Nat.blt pc 38) (cond (Nat.blt pc 37) (cond (Nat.beq pc 34) (o_callV 4 6 sp_X6_draw 37) o_bad) (cond (Nat.beq pc 37) (o_iload 2 38) o_bad)) (cond (Nat.blt pc 41) (cond (Nat.beq pc 38) (o_if (fun x => x = 0) 41 51) o_bad) (cond (Nat.beq pc 41) (o_aload 0 42) o_bad)))) (cond (Nat.blt pc 51) (cond (Nat.blt pc 45) (cond (Nat.beq pc 42) (o_getf 10 7 45) o_bad) (cond (Nat.blt pc 48) (cond (Nat.beq pc 45) (o_getf 6 2 48) o_bad) (cond (Nat.beq pc 48) (o_goto 58) o_bad))) (cond (Nat.blt pc 55) (cond (Nat.blt pc 52) (cond (Nat.beq pc 51) (o_aload 0 52) o_bad) (cond (Nat.beq pc 52) (o_getf 10 7 55) o_bad)) (cond (Nat.blt pc 58) (cond (Nat.beq pc 55) (o_getf 6 3 58) o_bad) (cond (Nat.beq pc 58) (o_iret) o_bad)))))
set_option maxRecDepth 20000 in
theorem ok_X10_comes : HOKs cX10_comes RX10 3 (some .int) 3 ins_X10_comes := fun _ => hnd (hnd (hnd (hnd (hlf (ok_iload_n dX10_comes_0 rfl rfl)) (hnd (hlf (ok_sipush dX10_comes_1 (by decide) rfl)) (hlf (ok_callS (y := yX10_isBelow) dX10_comes_4 ct_X10_isBelow (by decide) (by decide) wd_319 wd_317 wd_318 wd_41 (by decide +kernel) rfl)))) (hnd (hnd (hlf (ok_if_eq dX10_comes_7 (by decide) rfl)) (hlf (ok_iload_n dX10_comes_10 rfl rfl))) (hnd (hlf (ok_iconst dX10_comes_11 (by decide) rfl)) (hlf (ok_callS (y := yX10_isBelow) dX10_comes_12 ct_X10_isBelow (by decide) (by decide) wd_319 wd_317 wd_318 wd_41 (by decide +kernel) rfl))))) (hnd (hnd (hlf (ok_if_ne dX10_comes_15 (by decide) rfl)) (hnd (hlf (ok_ldc dX10_comes_18 wd_320 rfl)) (hlf (ok_iret dX10_comes_20)))) (hnd (hnd (hlf (ok_aload_n dX10_comes_21 rfl rfl)) (hlf (ok_getf (C := RX10) (T := TX10) dX10_comes_22 rfl rfl (by decide) rfl inX10 wd_292 rfl))) (hnd (hlf (ok_aload_n dX10_comes_25 rfl rfl)) (hlf (ok_getf (C := RX10) (T := TX10) dX10_comes_26 rfl rfl (by decide) rfl inX10 wd_289 rfl)))))) (hnd (hnd (hnd (hlf (ok_aload_n dX10_comes_29 rfl rfl)) (hnd (hlf (ok_getf (C := RX10) (T := TX10) dX10_comes_30 rfl rfl (by decide) rfl inX10 wd_285 rfl)) (hlf (ok_iload_n dX10_comes_33 rfl rfl)))) (hnd (hnd (hlf (ok_callV (y := yX6_draw) (n' := 3) (C := RX6) (T := TX6) dX10_comes_34 ct_X6_draw (by decide) (by decide) wd_801 wd_798 wd_799 wd_800 wd_48 rfl (by decide +kernel) rfl rfl rfl)) (hlf (ok_iload_n dX10_comes_37 rfl rfl))) (hnd (hlf (ok_if_ne dX10_comes_38 (by decide) rfl)) (hlf (ok_aload_n dX10_comes_41 rfl rfl))))) (hnd (hnd (hlf (ok_getf (C := RX10) (T := TX10) dX10_comes_42 rfl rfl (by decide) rfl inX10 wd_292 rfl)) (hnd (hlf (ok_getfN (C := RX6) (T := TX6) dX10_comes_45 rfl rfl (by decide) rfl inX6 wd_216 rfl)) (hlf (ok_goto dX10_comes_48 (by decide))))) (hnd (hnd (hlf (ok_aload_n dX10_comes_51 rfl rfl)) (hlf (ok_getf (C := RX10) (T := TX10) dX10_comes_52 rfl rfl (by decide) rfl inX10 wd_292 rfl))) (hnd (hlf (ok_getfN (C := RX6) (T := TX6) dX10_comes_55 rfl rfl (by decide) rfl inX6 wd_218 rfl)) (hlf (ok_iret dX10_comes_58))))))

noncomputable def sp_X10_comes : HSp := fun as w σ K => wp ins_X10_comes (fun _ => none) K 60 0 (loc0 3 as) [] w σ
theorem vc_X10_comes : MVC ins_X10_comes 3 3 sp_X10_comes := mvc0 60 fun _ _ _ _ _ h => h
theorem ct_X10_comes : Ctr yX10_comes cX10_comes 3 (some .int) 3 0 0 3 sp_X10_comes := ctr_of (by decide +kernel) rfl (by decide) ok_X10_comes vc_X10_comes

