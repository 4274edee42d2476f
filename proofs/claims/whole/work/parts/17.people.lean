/-! Arrays.fill, Integer.bitCount, the rest of People -/
def fiS (σ : HS) (k j n : Nat) (v : Int32) : HS := fun a b c => if a = k ∧ b = j ∧ c < n then v else σ a b c
theorem fiS_0 (σ : HS) (k j : Nat) (v : Int32) : fiS σ k j 0 v = σ := by
  funext a b c
  simp [fiS]
theorem fiS_s (σ : HS) (k j n : Nat) (v : Int32) : up3 (fiS σ k j n v) k j n v = fiS σ k j (n + 1) v := by
  funext a b c
  simp only [fiS, up3]
  grind
theorem al_le (k j : Nat) : al k j ≤ 140 := by
  unfold al
  repeat' split
  all_goals omega
def sp_J7_fill_53178 : HSp := fun as w σ K => match as with
  | [.inr (.inl (13, some j)), .inl v] => K none w (fiS σ 13 j (al 13 j) v)
  | _ => False
theorem dJ7_fill_53178_0 : decode cJ7_fill_53178 0 = .ok (.iconst 0, 1) := by decide +kernel
theorem dJ7_fill_53178_1 : decode cJ7_fill_53178 1 = .ok (.istore_n 2, 1) := by decide +kernel
theorem dJ7_fill_53178_2 : decode cJ7_fill_53178 2 = .ok (.aload_n 0, 1) := by decide +kernel
theorem dJ7_fill_53178_3 : decode cJ7_fill_53178 3 = .ok (.arraylength, 1) := by decide +kernel
theorem dJ7_fill_53178_4 : decode cJ7_fill_53178 4 = .ok (.istore_n 3, 1) := by decide +kernel
theorem dJ7_fill_53178_5 : decode cJ7_fill_53178 5 = .ok (.iload_n 2, 1) := by decide +kernel
theorem dJ7_fill_53178_6 : decode cJ7_fill_53178 6 = .ok (.iload_n 3, 1) := by decide +kernel
theorem dJ7_fill_53178_7 : decode cJ7_fill_53178 7 = .ok (.if_icmp .ge 13, 3) := by decide +kernel
theorem dJ7_fill_53178_10 : decode cJ7_fill_53178 10 = .ok (.aload_n 0, 1) := by decide +kernel
theorem dJ7_fill_53178_11 : decode cJ7_fill_53178 11 = .ok (.iload_n 2, 1) := by decide +kernel
theorem dJ7_fill_53178_12 : decode cJ7_fill_53178 12 = .ok (.iload_n 1, 1) := by decide +kernel
theorem dJ7_fill_53178_13 : decode cJ7_fill_53178 13 = .ok (.iastore, 1) := by decide +kernel
theorem dJ7_fill_53178_14 : decode cJ7_fill_53178 14 = .ok (.iinc 2 1, 3) := by decide +kernel
theorem dJ7_fill_53178_17 : decode cJ7_fill_53178 17 = .ok (.goto (-12), 3) := by decide +kernel
theorem dJ7_fill_53178_20 : decode cJ7_fill_53178 20 = .ok (.return_, 1) := by decide +kernel
def ins_J7_fill_53178 (pc : Nat) : HOp := cond (Nat.blt pc 7) (cond (Nat.blt pc 3) (cond (Nat.blt pc 1) (cond (Nat.beq pc 0) (o_const (0) 1) o_bad) (cond (Nat.blt pc 2) (cond (Nat.beq pc 1) (o_istore 2 2) o_bad) (cond (Nat.beq pc 2) (o_aload 0 3) o_bad))) (cond (Nat.blt pc 5) (cond (Nat.blt pc 4) (cond (Nat.beq pc 3) (o_alen 4) o_bad) (cond (Nat.beq pc 4) (o_istore 3 5) o_bad)) (cond (Nat.blt pc 6) (cond (Nat.beq pc 5) (o_iload 2 6) o_bad) (cond (Nat.beq pc 6) (o_iload 3 7) o_bad)))) (cond (Nat.blt pc 13) (cond (Nat.blt pc 11) (cond (Nat.blt pc 10) (cond (Nat.beq pc 7) (o_icmp (fun x y => y ≤ x) 20 10) o_bad) (cond (Nat.beq pc 10) (o_aload 0 11) o_bad)) (cond (Nat.blt pc 12) (cond (Nat.beq pc 11) (o_iload 2 12) o_bad) (cond (Nat.beq pc 12) (o_iload 1 13) o_bad))) (cond (Nat.blt pc 17) (cond (Nat.blt pc 14) (cond (Nat.beq pc 13) (o_iast 14) o_bad) (cond (Nat.beq pc 14) (o_iinc 2 (1) 17) o_bad)) (cond (Nat.blt pc 20) (cond (Nat.beq pc 17) (o_goto 5) o_bad) (cond (Nat.beq pc 20) (o_vret) o_bad))))
set_option maxRecDepth 20000 in
theorem ok_J7_fill_53178 : HOKs cJ7_fill_53178 RJ7 4 none 1 ins_J7_fill_53178 := fun _ => hnd (hnd (hnd (hlf (ok_iconst dJ7_fill_53178_0 (by decide) rfl)) (hnd (hlf (ok_istore_n dJ7_fill_53178_1 rfl (by decide) rfl)) (hlf (ok_aload_n dJ7_fill_53178_2 rfl rfl)))) (hnd (hnd (hlf (ok_alen dJ7_fill_53178_3 rfl)) (hlf (ok_istore_n dJ7_fill_53178_4 rfl (by decide) rfl))) (hnd (hlf (ok_iload_n dJ7_fill_53178_5 rfl rfl)) (hlf (ok_iload_n dJ7_fill_53178_6 rfl rfl))))) (hnd (hnd (hnd (hlf (ok_icmp_ge dJ7_fill_53178_7 (by decide) rfl)) (hlf (ok_aload_n dJ7_fill_53178_10 rfl rfl))) (hnd (hlf (ok_iload_n dJ7_fill_53178_11 rfl rfl)) (hlf (ok_iload_n dJ7_fill_53178_12 rfl rfl)))) (hnd (hnd (hlf (ok_iast dJ7_fill_53178_13 rfl)) (hlf (ok_iinc dJ7_fill_53178_14 (by decide) (by decide) rfl))) (hnd (hlf (ok_goto dJ7_fill_53178_17 (by decide))) (hlf (ok_vret dJ7_fill_53178_20)))))

theorem vc_J7_fill_53178 : MVC ins_J7_fill_53178 4 2 sp_J7_fill_53178 := by
  refine mvc1 5 60 fun as w σ q hl hs => ?_
  unfold sp_J7_fill_53178 at hs
  split at hs
  rotate_left
  · exact hs.elim
  rename_i j v
  have hle := al_le 13 j
  refine ⟨fun N ls st w' σ' => ∃ (i : Nat) (u : Int32), i ≤ al 13 j ∧ N = al 13 j - i ∧ u = nI i ∧ ls = [some (HR 13 j), some (HI v), some (HI u), some (HI (nI (al 13 j)))] ∧ st = [] ∧ w = w' ∧ σ' = fiS σ 13 j i v, ?_, ?_⟩
  · rintro N ls st w' σ' ⟨i, u, hi, rfl, rfl, rfl, rfl, rfl, rfl⟩
    apply br2
    · intro h1
      rw [← lp_end rfl hi h1] at hs
      exact hs
    · intro h1
      have hlt := lp_go rfl hi h1
      have e : (nI i).toNatClampNeg = i := nI_clamp (by omega)
      refine And.intro (vp_in_nI hlt (by omega)) ?_
      exact ⟨al 13 j - (i + 1), by omega, i + 1, _, hlt, rfl, nI_1 i, rfl, rfl, rfl, by rw [e]; exact fiS_s σ 13 j i v⟩
  · exact ⟨al 13 j, 0, 0, Nat.zero_le _, rfl, rfl, rfl, rfl, rfl, (fiS_0 σ 13 j v).symm⟩
theorem ct_J7_fill_53178 : Ctr yJ7_fill_53178 cJ7_fill_53178 4 none 1 0 0 2 sp_J7_fill_53178 := ctr_of (by decide +kernel) rfl (by decide) ok_J7_fill_53178 vc_J7_fill_53178

def sp_J7_fill_031fb : HSp := fun as w σ K => match as with
  | [.inr (.inl (12, some j)), .inl v] => v = 0 ∧ K none w (fiS σ 12 j 60 0)
  | _ => False
theorem dJ7_fill_031fb_0 : decode cJ7_fill_031fb 0 = .ok (.iconst 0, 1) := by decide +kernel
theorem dJ7_fill_031fb_1 : decode cJ7_fill_031fb 1 = .ok (.istore_n 2, 1) := by decide +kernel
theorem dJ7_fill_031fb_2 : decode cJ7_fill_031fb 2 = .ok (.aload_n 0, 1) := by decide +kernel
theorem dJ7_fill_031fb_3 : decode cJ7_fill_031fb 3 = .ok (.arraylength, 1) := by decide +kernel
theorem dJ7_fill_031fb_4 : decode cJ7_fill_031fb 4 = .ok (.istore_n 3, 1) := by decide +kernel
theorem dJ7_fill_031fb_5 : decode cJ7_fill_031fb 5 = .ok (.iload_n 2, 1) := by decide +kernel
theorem dJ7_fill_031fb_6 : decode cJ7_fill_031fb 6 = .ok (.iload_n 3, 1) := by decide +kernel
theorem dJ7_fill_031fb_7 : decode cJ7_fill_031fb 7 = .ok (.if_icmp .ge 13, 3) := by decide +kernel
theorem dJ7_fill_031fb_10 : decode cJ7_fill_031fb 10 = .ok (.aload_n 0, 1) := by decide +kernel
theorem dJ7_fill_031fb_11 : decode cJ7_fill_031fb 11 = .ok (.iload_n 2, 1) := by decide +kernel
theorem dJ7_fill_031fb_12 : decode cJ7_fill_031fb 12 = .ok (.iload_n 1, 1) := by decide +kernel
theorem dJ7_fill_031fb_13 : decode cJ7_fill_031fb 13 = .ok (.bastore, 1) := by decide +kernel
theorem dJ7_fill_031fb_14 : decode cJ7_fill_031fb 14 = .ok (.iinc 2 1, 3) := by decide +kernel
theorem dJ7_fill_031fb_17 : decode cJ7_fill_031fb 17 = .ok (.goto (-12), 3) := by decide +kernel
theorem dJ7_fill_031fb_20 : decode cJ7_fill_031fb 20 = .ok (.return_, 1) := by decide +kernel
def ins_J7_fill_031fb (pc : Nat) : HOp := cond (Nat.blt pc 7) (cond (Nat.blt pc 3) (cond (Nat.blt pc 1) (cond (Nat.beq pc 0) (o_const (0) 1) o_bad) (cond (Nat.blt pc 2) (cond (Nat.beq pc 1) (o_istore 2 2) o_bad) (cond (Nat.beq pc 2) (o_aload 0 3) o_bad))) (cond (Nat.blt pc 5) (cond (Nat.blt pc 4) (cond (Nat.beq pc 3) (o_alen 4) o_bad) (cond (Nat.beq pc 4) (o_istore 3 5) o_bad)) (cond (Nat.blt pc 6) (cond (Nat.beq pc 5) (o_iload 2 6) o_bad) (cond (Nat.beq pc 6) (o_iload 3 7) o_bad)))) (cond (Nat.blt pc 13) (cond (Nat.blt pc 11) (cond (Nat.blt pc 10) (cond (Nat.beq pc 7) (o_icmp (fun x y => y ≤ x) 20 10) o_bad) (cond (Nat.beq pc 10) (o_aload 0 11) o_bad)) (cond (Nat.blt pc 12) (cond (Nat.beq pc 11) (o_iload 2 12) o_bad) (cond (Nat.beq pc 12) (o_iload 1 13) o_bad))) (cond (Nat.blt pc 17) (cond (Nat.blt pc 14) (cond (Nat.beq pc 13) (o_bast 14) o_bad) (cond (Nat.beq pc 14) (o_iinc 2 (1) 17) o_bad)) (cond (Nat.blt pc 20) (cond (Nat.beq pc 17) (o_goto 5) o_bad) (cond (Nat.beq pc 20) (o_vret) o_bad))))
set_option maxRecDepth 20000 in
theorem ok_J7_fill_031fb : HOKs cJ7_fill_031fb RJ7 4 none 1 ins_J7_fill_031fb := fun _ => hnd (hnd (hnd (hlf (ok_iconst dJ7_fill_031fb_0 (by decide) rfl)) (hnd (hlf (ok_istore_n dJ7_fill_031fb_1 rfl (by decide) rfl)) (hlf (ok_aload_n dJ7_fill_031fb_2 rfl rfl)))) (hnd (hnd (hlf (ok_alen dJ7_fill_031fb_3 rfl)) (hlf (ok_istore_n dJ7_fill_031fb_4 rfl (by decide) rfl))) (hnd (hlf (ok_iload_n dJ7_fill_031fb_5 rfl rfl)) (hlf (ok_iload_n dJ7_fill_031fb_6 rfl rfl))))) (hnd (hnd (hnd (hlf (ok_icmp_ge dJ7_fill_031fb_7 (by decide) rfl)) (hlf (ok_aload_n dJ7_fill_031fb_10 rfl rfl))) (hnd (hlf (ok_iload_n dJ7_fill_031fb_11 rfl rfl)) (hlf (ok_iload_n dJ7_fill_031fb_12 rfl rfl)))) (hnd (hnd (hlf (ok_bast dJ7_fill_031fb_13 rfl)) (hlf (ok_iinc dJ7_fill_031fb_14 (by decide) (by decide) rfl))) (hnd (hlf (ok_goto dJ7_fill_031fb_17 (by decide))) (hlf (ok_vret dJ7_fill_031fb_20)))))

theorem vc_J7_fill_031fb : MVC ins_J7_fill_031fb 4 2 sp_J7_fill_031fb := by
  refine mvc1 5 60 fun as w σ q hl hs => ?_
  unfold sp_J7_fill_031fb at hs
  split at hs
  rotate_left
  · exact hs.elim
  rename_i j v
  obtain ⟨rfl, hs⟩ := hs
  refine ⟨fun N ls st w' σ' => ∃ (i : Nat) (u : Int32), i ≤ 60 ∧ N = 60 - i ∧ u = nI i ∧ ls = [some (HR 12 j), some (HI 0), some (HI u), some (HI 60)] ∧ st = [] ∧ w = w' ∧ σ' = fiS σ 12 j i 0, ?_, ?_⟩
  · rintro N ls st w' σ' ⟨i, u, hi, rfl, rfl, rfl, rfl, rfl, rfl⟩
    apply br2
    · intro h1
      rw [← lp_end (n := 60) rfl hi h1] at hs
      exact hs
    · intro h1
      have hlt := lp_go (n := 60) rfl hi h1
      have e : (nI i).toNatClampNeg = i := nI_clamp (by omega)
      refine And.intro (vp_in_nI (N := 60) hlt (by omega)) ?_
      exact ⟨60 - (i + 1), by omega, i + 1, _, hlt, rfl, nI_1 i, rfl, rfl, rfl, by rw [e]; exact fiS_s σ 12 j i 0⟩
  · exact ⟨60, 0, 0, Nat.zero_le _, rfl, rfl, rfl, rfl, rfl, (fiS_0 σ 12 j 0).symm⟩
theorem ct_J7_fill_031fb : Ctr yJ7_fill_031fb cJ7_fill_031fb 4 none 1 0 0 2 sp_J7_fill_031fb := ctr_of (by decide +kernel) rfl (by decide) ok_J7_fill_031fb vc_J7_fill_031fb

def ushr (x : Int32) (y : Int32) : Int32 := (x.toUInt32 >>> (y.toUInt32 &&& Int32.toUInt32 31)).toInt32
def pc1 (x : Int32) : Int32 := x - (ushr x 1 &&& 1431655765)
def pc2 (x : Int32) : Int32 := (x &&& 858993459) + (ushr x 2 &&& 858993459)
def pc3 (x : Int32) : Int32 := x + ushr x 4 &&& 252645135
def pc4 (x : Int32) : Int32 := x + ushr x 8
def pc5 (x : Int32) : Int32 := x + ushr x 16
def popc (x : Int32) : Int32 := pc5 (pc4 (pc3 (pc2 (pc1 x)))) &&& 63
def sp_J6_bitCount_0f7a4 : HSp := fun as w σ K => match as with
  | [.inl x] => K (some (HI (popc x))) w σ
  | _ => False
theorem dJ6_bitCount_0f7a4_0 : decode cJ6_bitCount_0f7a4 0 = .ok (.iload_n 0, 1) := by decide +kernel
theorem dJ6_bitCount_0f7a4_1 : decode cJ6_bitCount_0f7a4 1 = .ok (.iload_n 0, 1) := by decide +kernel
theorem dJ6_bitCount_0f7a4_2 : decode cJ6_bitCount_0f7a4 2 = .ok (.iconst 1, 1) := by decide +kernel
theorem dJ6_bitCount_0f7a4_3 : decode cJ6_bitCount_0f7a4 3 = .ok (.iushr, 1) := by decide +kernel
theorem dJ6_bitCount_0f7a4_4 : decode cJ6_bitCount_0f7a4 4 = .ok (.ldc_w 265, 3) := by decide +kernel
theorem dJ6_bitCount_0f7a4_7 : decode cJ6_bitCount_0f7a4 7 = .ok (.iand, 1) := by decide +kernel
theorem dJ6_bitCount_0f7a4_8 : decode cJ6_bitCount_0f7a4 8 = .ok (.isub, 1) := by decide +kernel
theorem dJ6_bitCount_0f7a4_9 : decode cJ6_bitCount_0f7a4 9 = .ok (.istore_n 0, 1) := by decide +kernel
theorem dJ6_bitCount_0f7a4_10 : decode cJ6_bitCount_0f7a4 10 = .ok (.iload_n 0, 1) := by decide +kernel
theorem dJ6_bitCount_0f7a4_11 : decode cJ6_bitCount_0f7a4 11 = .ok (.ldc_w 266, 3) := by decide +kernel
theorem dJ6_bitCount_0f7a4_14 : decode cJ6_bitCount_0f7a4 14 = .ok (.iand, 1) := by decide +kernel
theorem dJ6_bitCount_0f7a4_15 : decode cJ6_bitCount_0f7a4 15 = .ok (.iload_n 0, 1) := by decide +kernel
theorem dJ6_bitCount_0f7a4_16 : decode cJ6_bitCount_0f7a4 16 = .ok (.iconst 2, 1) := by decide +kernel
theorem dJ6_bitCount_0f7a4_17 : decode cJ6_bitCount_0f7a4 17 = .ok (.iushr, 1) := by decide +kernel
theorem dJ6_bitCount_0f7a4_18 : decode cJ6_bitCount_0f7a4 18 = .ok (.ldc_w 266, 3) := by decide +kernel
theorem dJ6_bitCount_0f7a4_21 : decode cJ6_bitCount_0f7a4 21 = .ok (.iand, 1) := by decide +kernel
theorem dJ6_bitCount_0f7a4_22 : decode cJ6_bitCount_0f7a4 22 = .ok (.iadd, 1) := by decide +kernel
theorem dJ6_bitCount_0f7a4_23 : decode cJ6_bitCount_0f7a4 23 = .ok (.istore_n 0, 1) := by decide +kernel
theorem dJ6_bitCount_0f7a4_24 : decode cJ6_bitCount_0f7a4 24 = .ok (.iload_n 0, 1) := by decide +kernel
theorem dJ6_bitCount_0f7a4_25 : decode cJ6_bitCount_0f7a4 25 = .ok (.iload_n 0, 1) := by decide +kernel
theorem dJ6_bitCount_0f7a4_26 : decode cJ6_bitCount_0f7a4 26 = .ok (.iconst 4, 1) := by decide +kernel
theorem dJ6_bitCount_0f7a4_27 : decode cJ6_bitCount_0f7a4 27 = .ok (.iushr, 1) := by decide +kernel
theorem dJ6_bitCount_0f7a4_28 : decode cJ6_bitCount_0f7a4 28 = .ok (.iadd, 1) := by decide +kernel
theorem dJ6_bitCount_0f7a4_29 : decode cJ6_bitCount_0f7a4 29 = .ok (.ldc_w 267, 3) := by decide +kernel
theorem dJ6_bitCount_0f7a4_32 : decode cJ6_bitCount_0f7a4 32 = .ok (.iand, 1) := by decide +kernel
theorem dJ6_bitCount_0f7a4_33 : decode cJ6_bitCount_0f7a4 33 = .ok (.istore_n 0, 1) := by decide +kernel
theorem dJ6_bitCount_0f7a4_34 : decode cJ6_bitCount_0f7a4 34 = .ok (.iload_n 0, 1) := by decide +kernel
theorem dJ6_bitCount_0f7a4_35 : decode cJ6_bitCount_0f7a4 35 = .ok (.iload_n 0, 1) := by decide +kernel
theorem dJ6_bitCount_0f7a4_36 : decode cJ6_bitCount_0f7a4 36 = .ok (.bipush 8, 2) := by decide +kernel
theorem dJ6_bitCount_0f7a4_38 : decode cJ6_bitCount_0f7a4 38 = .ok (.iushr, 1) := by decide +kernel
theorem dJ6_bitCount_0f7a4_39 : decode cJ6_bitCount_0f7a4 39 = .ok (.iadd, 1) := by decide +kernel
theorem dJ6_bitCount_0f7a4_40 : decode cJ6_bitCount_0f7a4 40 = .ok (.istore_n 0, 1) := by decide +kernel
theorem dJ6_bitCount_0f7a4_41 : decode cJ6_bitCount_0f7a4 41 = .ok (.iload_n 0, 1) := by decide +kernel
theorem dJ6_bitCount_0f7a4_42 : decode cJ6_bitCount_0f7a4 42 = .ok (.iload_n 0, 1) := by decide +kernel
theorem dJ6_bitCount_0f7a4_43 : decode cJ6_bitCount_0f7a4 43 = .ok (.bipush 16, 2) := by decide +kernel
theorem dJ6_bitCount_0f7a4_45 : decode cJ6_bitCount_0f7a4 45 = .ok (.iushr, 1) := by decide +kernel
theorem dJ6_bitCount_0f7a4_46 : decode cJ6_bitCount_0f7a4 46 = .ok (.iadd, 1) := by decide +kernel
theorem dJ6_bitCount_0f7a4_47 : decode cJ6_bitCount_0f7a4 47 = .ok (.istore_n 0, 1) := by decide +kernel
theorem dJ6_bitCount_0f7a4_48 : decode cJ6_bitCount_0f7a4 48 = .ok (.iload_n 0, 1) := by decide +kernel
theorem dJ6_bitCount_0f7a4_49 : decode cJ6_bitCount_0f7a4 49 = .ok (.bipush 63, 2) := by decide +kernel
theorem dJ6_bitCount_0f7a4_51 : decode cJ6_bitCount_0f7a4 51 = .ok (.iand, 1) := by decide +kernel
theorem dJ6_bitCount_0f7a4_52 : decode cJ6_bitCount_0f7a4 52 = .ok (.ireturn, 1) := by decide +kernel
def ins_J6_bitCount_0f7a4 (pc : Nat) : HOp := cond (Nat.blt pc 27) (cond (Nat.blt pc 14) (cond (Nat.blt pc 7) (cond (Nat.blt pc 2) (cond (Nat.blt pc 1) (cond (Nat.beq pc 0) (o_iload 0 1) o_bad) (cond (Nat.beq pc 1) (o_iload 0 2) o_bad)) (cond (Nat.blt pc 3) (cond (Nat.beq pc 2) (o_const (1) 3) o_bad) (cond (Nat.blt pc 4) (cond (Nat.beq pc 3) (o_bin (fun x y => (x.toUInt32 >>> (y.toUInt32 &&& Int32.toUInt32 31)).toInt32) 4) o_bad) (cond (Nat.beq pc 4) (o_const (1431655765) 7) o_bad)))) (cond (Nat.blt pc 9) (cond (Nat.blt pc 8) (cond (Nat.beq pc 7) (o_bin (fun x y => x &&& y) 8) o_bad) (cond (Nat.beq pc 8) (o_bin (fun x y => x - y) 9) o_bad)) (cond (Nat.blt pc 10) (cond (Nat.beq pc 9) (o_istore 0 10) o_bad) (cond (Nat.blt pc 11) (cond (Nat.beq pc 10) (o_iload 0 11) o_bad) (cond (Nat.beq pc 11) (o_const (858993459) 14) o_bad))))) (cond (Nat.blt pc 21) (cond (Nat.blt pc 16) (cond (Nat.blt pc 15) (cond (Nat.beq pc 14) (o_bin (fun x y => x &&& y) 15) o_bad) (cond (Nat.beq pc 15) (o_iload 0 16) o_bad)) (cond (Nat.blt pc 17) (cond (Nat.beq pc 16) (o_const (2) 17) o_bad) (cond (Nat.blt pc 18) (cond (Nat.beq pc 17) (o_bin (fun x y => (x.toUInt32 >>> (y.toUInt32 &&& Int32.toUInt32 31)).toInt32) 18) o_bad) (cond (Nat.beq pc 18) (o_const (858993459) 21) o_bad)))) (cond (Nat.blt pc 24) (cond (Nat.blt pc 22) (cond (Nat.beq pc 21) (o_bin (fun x y => x &&& y) 22) o_bad) (cond (Nat.blt pc 23) (cond (Nat.beq pc 22) (o_bin (fun x y => x + y) 23) o_bad) (cond (Nat.beq pc 23) (o_istore 0 24) o_bad))) (cond (Nat.blt pc 25) (cond (Nat.beq pc 24) (o_iload 0 25) o_bad) (cond (Nat.blt pc 26) (cond (Nat.beq pc 25) (o_iload 0 26) o_bad) (cond (Nat.beq pc 26) (o_const (4) 27) o_bad)))))) (cond (Nat.blt pc 40) (cond (Nat.blt pc 34) (cond (Nat.blt pc 29) (cond (Nat.blt pc 28) (cond (Nat.beq pc 27) (o_bin (fun x y => (x.toUInt32 >>> (y.toUInt32 &&& Int32.toUInt32 31)).toInt32) 28) o_bad) (cond (Nat.beq pc 28) (o_bin (fun x y => x + y) 29) o_bad)) (cond (Nat.blt pc 32) (cond (Nat.beq pc 29) (o_const (252645135) 32) o_bad) (cond (Nat.blt pc 33) (cond (Nat.beq pc 32) (o_bin (fun x y => x &&& y) 33) o_bad) (cond (Nat.beq pc 33) (o_istore 0 34) o_bad)))) (cond (Nat.blt pc 36) (cond (Nat.blt pc 35) (cond (Nat.beq pc 34) (o_iload 0 35) o_bad) (cond (Nat.beq pc 35) (o_iload 0 36) o_bad)) (cond (Nat.blt pc 38) (cond (Nat.beq pc 36) (o_const (8) 38) o_bad) (cond (Nat.blt pc 39) (cond (Nat.beq pc 38) (o_bin (fun x y => (x.toUInt32 >>> (y.toUInt32 &&& Int32.toUInt32 31)).toInt32) 39) o_bad) (cond (Nat.beq pc 39) (o_bin (fun x y => x + y) 40) o_bad))))) (cond (Nat.blt pc 46) (cond (Nat.blt pc 42) (cond (Nat.blt pc 41) (cond (Nat.beq pc 40) (o_istore 0 41) o_bad) (cond (Nat.beq pc 41) (o_iload 0 42) o_bad)) (cond (Nat.blt pc 43) (cond (Nat.beq pc 42) (o_iload 0 43) o_bad) (cond (Nat.blt pc 45) (cond (Nat.beq pc 43) (o_const (16) 45) o_bad) (cond (Nat.beq pc 45) (o_bin (fun x y => (x.toUInt32 >>> (y.toUInt32 &&& Int32.toUInt32 31)).toInt32) 46) o_bad)))) (cond (Nat.blt pc 49) (cond (Nat.blt pc 47) (cond (Nat.beq pc 46) (o_bin (fun x y => x + y) 47) o_bad) (cond (Nat.blt pc 48) (cond (Nat.beq pc 47) (o_istore 0 48) o_bad) (cond (Nat.beq pc 48) (o_iload 0 49) o_bad))) (cond (Nat.blt pc 51) (cond (Nat.beq pc 49) (o_const (63) 51) o_bad) (cond (Nat.blt pc 52) (cond (Nat.beq pc 51) (o_bin (fun x y => x &&& y) 52) o_bad) (cond (Nat.beq pc 52) (o_iret) o_bad))))))
set_option maxRecDepth 20000 in
theorem ok_J6_bitCount_0f7a4 : HOKs cJ6_bitCount_0f7a4 RJ6 1 (some .int) 1 ins_J6_bitCount_0f7a4 := fun _ => hnd (hnd (hnd (hnd (hnd (hlf (ok_iload_n dJ6_bitCount_0f7a4_0 rfl rfl)) (hlf (ok_iload_n dJ6_bitCount_0f7a4_1 rfl rfl))) (hnd (hlf (ok_iconst dJ6_bitCount_0f7a4_2 (by decide) rfl)) (hnd (hlf (ok_iushr dJ6_bitCount_0f7a4_3 rfl)) (hlf (ok_ldcw dJ6_bitCount_0f7a4_4 wd_733 rfl))))) (hnd (hnd (hlf (ok_iand dJ6_bitCount_0f7a4_7 rfl)) (hlf (ok_isub dJ6_bitCount_0f7a4_8 rfl))) (hnd (hlf (ok_istore_n dJ6_bitCount_0f7a4_9 rfl (by decide) rfl)) (hnd (hlf (ok_iload_n dJ6_bitCount_0f7a4_10 rfl rfl)) (hlf (ok_ldcw dJ6_bitCount_0f7a4_11 wd_734 rfl)))))) (hnd (hnd (hnd (hlf (ok_iand dJ6_bitCount_0f7a4_14 rfl)) (hlf (ok_iload_n dJ6_bitCount_0f7a4_15 rfl rfl))) (hnd (hlf (ok_iconst dJ6_bitCount_0f7a4_16 (by decide) rfl)) (hnd (hlf (ok_iushr dJ6_bitCount_0f7a4_17 rfl)) (hlf (ok_ldcw dJ6_bitCount_0f7a4_18 wd_734 rfl))))) (hnd (hnd (hlf (ok_iand dJ6_bitCount_0f7a4_21 rfl)) (hnd (hlf (ok_iadd dJ6_bitCount_0f7a4_22 rfl)) (hlf (ok_istore_n dJ6_bitCount_0f7a4_23 rfl (by decide) rfl)))) (hnd (hlf (ok_iload_n dJ6_bitCount_0f7a4_24 rfl rfl)) (hnd (hlf (ok_iload_n dJ6_bitCount_0f7a4_25 rfl rfl)) (hlf (ok_iconst dJ6_bitCount_0f7a4_26 (by decide) rfl))))))) (hnd (hnd (hnd (hnd (hlf (ok_iushr dJ6_bitCount_0f7a4_27 rfl)) (hlf (ok_iadd dJ6_bitCount_0f7a4_28 rfl))) (hnd (hlf (ok_ldcw dJ6_bitCount_0f7a4_29 wd_735 rfl)) (hnd (hlf (ok_iand dJ6_bitCount_0f7a4_32 rfl)) (hlf (ok_istore_n dJ6_bitCount_0f7a4_33 rfl (by decide) rfl))))) (hnd (hnd (hlf (ok_iload_n dJ6_bitCount_0f7a4_34 rfl rfl)) (hlf (ok_iload_n dJ6_bitCount_0f7a4_35 rfl rfl))) (hnd (hlf (ok_bipush dJ6_bitCount_0f7a4_36 (by decide) rfl)) (hnd (hlf (ok_iushr dJ6_bitCount_0f7a4_38 rfl)) (hlf (ok_iadd dJ6_bitCount_0f7a4_39 rfl)))))) (hnd (hnd (hnd (hlf (ok_istore_n dJ6_bitCount_0f7a4_40 rfl (by decide) rfl)) (hlf (ok_iload_n dJ6_bitCount_0f7a4_41 rfl rfl))) (hnd (hlf (ok_iload_n dJ6_bitCount_0f7a4_42 rfl rfl)) (hnd (hlf (ok_bipush dJ6_bitCount_0f7a4_43 (by decide) rfl)) (hlf (ok_iushr dJ6_bitCount_0f7a4_45 rfl))))) (hnd (hnd (hlf (ok_iadd dJ6_bitCount_0f7a4_46 rfl)) (hnd (hlf (ok_istore_n dJ6_bitCount_0f7a4_47 rfl (by decide) rfl)) (hlf (ok_iload_n dJ6_bitCount_0f7a4_48 rfl rfl)))) (hnd (hlf (ok_bipush dJ6_bitCount_0f7a4_49 (by decide) rfl)) (hnd (hlf (ok_iand dJ6_bitCount_0f7a4_51 rfl)) (hlf (ok_iret dJ6_bitCount_0f7a4_52)))))))

set_option maxRecDepth 100000 in
theorem vc_J6_bitCount_0f7a4 : MVC ins_J6_bitCount_0f7a4 1 1 sp_J6_bitCount_0f7a4 := by
  refine mvc0 80 fun as w σ q hl hs => ?_
  unfold sp_J6_bitCount_0f7a4 at hs
  split at hs
  rotate_left
  · exact hs.elim
  rename_i x
  exact hs
theorem ct_J6_bitCount_0f7a4 : Ctr yJ6_bitCount_0f7a4 cJ6_bitCount_0f7a4 1 (some .int) 1 0 0 1 sp_J6_bitCount_0f7a4 := ctr_of (by decide +kernel) rfl (by decide) ok_J6_bitCount_0f7a4 vc_J6_bitCount_0f7a4

def sp_X2_comesFrom : HSp := fun as w σ K => match as with
  | [.inr (.inl (2, some 0)), .inl s, .inl y] => ∃ nv, nv ≤ 14 ∧ σ 2 0 4 = nI nv ∧ spZ (∃ v, v < nv ∧ bt1 s v ∧ ¬ σ 13 1 v < y) w σ K
  | _ => False
theorem dX2_comesFrom_0 : decode cX2_comesFrom 0 = .ok (.iconst 0, 1) := by decide +kernel
theorem dX2_comesFrom_1 : decode cX2_comesFrom 1 = .ok (.istore_n 3, 1) := by decide +kernel
theorem dX2_comesFrom_2 : decode cX2_comesFrom 2 = .ok (.iload_n 3, 1) := by decide +kernel
theorem dX2_comesFrom_3 : decode cX2_comesFrom 3 = .ok (.aload_n 0, 1) := by decide +kernel
theorem dX2_comesFrom_4 : decode cX2_comesFrom 4 = .ok (.getfield 39, 3) := by decide +kernel
theorem dX2_comesFrom_7 : decode cX2_comesFrom 7 = .ok (.if_icmp .ge 30, 3) := by decide +kernel
theorem dX2_comesFrom_10 : decode cX2_comesFrom 10 = .ok (.iload_n 1, 1) := by decide +kernel
theorem dX2_comesFrom_11 : decode cX2_comesFrom 11 = .ok (.iload_n 3, 1) := by decide +kernel
theorem dX2_comesFrom_12 : decode cX2_comesFrom 12 = .ok (.ishr, 1) := by decide +kernel
theorem dX2_comesFrom_13 : decode cX2_comesFrom 13 = .ok (.iconst 1, 1) := by decide +kernel
theorem dX2_comesFrom_14 : decode cX2_comesFrom 14 = .ok (.iand, 1) := by decide +kernel
theorem dX2_comesFrom_15 : decode cX2_comesFrom 15 = .ok (.iconst 1, 1) := by decide +kernel
theorem dX2_comesFrom_16 : decode cX2_comesFrom 16 = .ok (.if_icmp .ne 15, 3) := by decide +kernel
theorem dX2_comesFrom_19 : decode cX2_comesFrom 19 = .ok (.aload_n 0, 1) := by decide +kernel
theorem dX2_comesFrom_20 : decode cX2_comesFrom 20 = .ok (.getfield 21, 3) := by decide +kernel
theorem dX2_comesFrom_23 : decode cX2_comesFrom 23 = .ok (.iload_n 3, 1) := by decide +kernel
theorem dX2_comesFrom_24 : decode cX2_comesFrom 24 = .ok (.iaload, 1) := by decide +kernel
theorem dX2_comesFrom_25 : decode cX2_comesFrom 25 = .ok (.iload_n 2, 1) := by decide +kernel
theorem dX2_comesFrom_26 : decode cX2_comesFrom 26 = .ok (.if_icmp .lt 5, 3) := by decide +kernel
theorem dX2_comesFrom_29 : decode cX2_comesFrom 29 = .ok (.iconst 1, 1) := by decide +kernel
theorem dX2_comesFrom_30 : decode cX2_comesFrom 30 = .ok (.ireturn, 1) := by decide +kernel
theorem dX2_comesFrom_31 : decode cX2_comesFrom 31 = .ok (.iinc 3 1, 3) := by decide +kernel
theorem dX2_comesFrom_34 : decode cX2_comesFrom 34 = .ok (.goto (-32), 3) := by decide +kernel
theorem dX2_comesFrom_37 : decode cX2_comesFrom 37 = .ok (.iconst 0, 1) := by decide +kernel
theorem dX2_comesFrom_38 : decode cX2_comesFrom 38 = .ok (.ireturn, 1) := by decide +kernel
def ins_X2_comesFrom (pc : Nat) : HOp := cond (Nat.blt pc 16) (cond (Nat.blt pc 10) (cond (Nat.blt pc 3) (cond (Nat.blt pc 1) (cond (Nat.beq pc 0) (o_const (0) 1) o_bad) (cond (Nat.blt pc 2) (cond (Nat.beq pc 1) (o_istore 3 2) o_bad) (cond (Nat.beq pc 2) (o_iload 3 3) o_bad))) (cond (Nat.blt pc 4) (cond (Nat.beq pc 3) (o_aload 0 4) o_bad) (cond (Nat.blt pc 7) (cond (Nat.beq pc 4) (o_getf 2 4 7) o_bad) (cond (Nat.beq pc 7) (o_icmp (fun x y => y ≤ x) 37 10) o_bad)))) (cond (Nat.blt pc 13) (cond (Nat.blt pc 11) (cond (Nat.beq pc 10) (o_iload 1 11) o_bad) (cond (Nat.blt pc 12) (cond (Nat.beq pc 11) (o_iload 3 12) o_bad) (cond (Nat.beq pc 12) (o_bin (fun x y => x >>> (y &&& 31)) 13) o_bad))) (cond (Nat.blt pc 14) (cond (Nat.beq pc 13) (o_const (1) 14) o_bad) (cond (Nat.blt pc 15) (cond (Nat.beq pc 14) (o_bin (fun x y => x &&& y) 15) o_bad) (cond (Nat.beq pc 15) (o_const (1) 16) o_bad))))) (cond (Nat.blt pc 26) (cond (Nat.blt pc 23) (cond (Nat.blt pc 19) (cond (Nat.beq pc 16) (o_icmp (fun x y => x = y) 19 31) o_bad) (cond (Nat.blt pc 20) (cond (Nat.beq pc 19) (o_aload 0 20) o_bad) (cond (Nat.beq pc 20) (o_getf 2 3 23) o_bad))) (cond (Nat.blt pc 24) (cond (Nat.beq pc 23) (o_iload 3 24) o_bad) (cond (Nat.blt pc 25) (cond (Nat.beq pc 24) (o_iald 25) o_bad) (cond (Nat.beq pc 25) (o_iload 2 26) o_bad)))) (cond (Nat.blt pc 31) (cond (Nat.blt pc 29) (cond (Nat.beq pc 26) (o_icmp (fun x y => x < y) 31 29) o_bad) (cond (Nat.blt pc 30) (cond (Nat.beq pc 29) (o_const (1) 30) o_bad) (cond (Nat.beq pc 30) (o_zret) o_bad))) (cond (Nat.blt pc 37) (cond (Nat.blt pc 34) (cond (Nat.beq pc 31) (o_iinc 3 (1) 34) o_bad) (cond (Nat.beq pc 34) (o_goto 2) o_bad)) (cond (Nat.blt pc 38) (cond (Nat.beq pc 37) (o_const (0) 38) o_bad) (cond (Nat.beq pc 38) (o_zret) o_bad)))))
set_option maxRecDepth 20000 in
theorem ok_X2_comesFrom : HOKs cX2_comesFrom RX2 4 (some .boolean) 1 ins_X2_comesFrom := fun _ => hnd (hnd (hnd (hnd (hlf (ok_iconst dX2_comesFrom_0 (by decide) rfl)) (hnd (hlf (ok_istore_n dX2_comesFrom_1 rfl (by decide) rfl)) (hlf (ok_iload_n dX2_comesFrom_2 rfl rfl)))) (hnd (hlf (ok_aload_n dX2_comesFrom_3 rfl rfl)) (hnd (hlf (ok_getf (C := RX2) (T := TX2) dX2_comesFrom_4 rfl rfl (by decide) rfl inX2 wd_81 rfl)) (hlf (ok_icmp_ge dX2_comesFrom_7 (by decide) rfl))))) (hnd (hnd (hlf (ok_iload_n dX2_comesFrom_10 rfl rfl)) (hnd (hlf (ok_iload_n dX2_comesFrom_11 rfl rfl)) (hlf (ok_ishr dX2_comesFrom_12 rfl)))) (hnd (hlf (ok_iconst dX2_comesFrom_13 (by decide) rfl)) (hnd (hlf (ok_iand dX2_comesFrom_14 rfl)) (hlf (ok_iconst dX2_comesFrom_15 (by decide) rfl)))))) (hnd (hnd (hnd (hlf (ok_icmp_ne dX2_comesFrom_16 (by decide) rfl)) (hnd (hlf (ok_aload_n dX2_comesFrom_19 rfl rfl)) (hlf (ok_getf (C := RX2) (T := TX2) dX2_comesFrom_20 rfl rfl (by decide) rfl inX2 wd_80 rfl)))) (hnd (hlf (ok_iload_n dX2_comesFrom_23 rfl rfl)) (hnd (hlf (ok_iald dX2_comesFrom_24 rfl)) (hlf (ok_iload_n dX2_comesFrom_25 rfl rfl))))) (hnd (hnd (hlf (ok_icmp_lt dX2_comesFrom_26 (by decide) rfl)) (hnd (hlf (ok_iconst dX2_comesFrom_29 (by decide) rfl)) (hlf (ok_zret dX2_comesFrom_30)))) (hnd (hnd (hlf (ok_iinc dX2_comesFrom_31 (by decide) (by decide) rfl)) (hlf (ok_goto dX2_comesFrom_34 (by decide)))) (hnd (hlf (ok_iconst dX2_comesFrom_37 (by decide) rfl)) (hlf (ok_zret dX2_comesFrom_38))))))

theorem vc_X2_comesFrom : MVC ins_X2_comesFrom 4 3 sp_X2_comesFrom := by
  refine mvc1 2 60 fun as w σ q hl hs => ?_
  unfold sp_X2_comesFrom at hs
  split at hs
  rotate_left
  · exact hs.elim
  rename_i s y
  obtain ⟨n, hn, hsz, hs⟩ := hs
  refine ⟨fun N ls st w' σ' => ∃ (i : Nat) (u : Int32), i ≤ n ∧ N = n - i ∧ u = nI i ∧ (∀ j, j < i → ¬ (bt1 s j ∧ ¬ σ 13 1 j < y)) ∧ ls = [some (HR 2 0), some (HI s), some (HI y), some (HI u)] ∧ st = [] ∧ w = w' ∧ σ = σ', ?_, ?_⟩
  · rintro N ls st w' σ' ⟨i, u, hi, rfl, rfl, hno, rfl, rfl, rfl, rfl⟩
    apply br2
    · intro h1
      obtain rfl := lp_end hsz hi h1
      exact ⟨Or.inl rfl, hs.2 fun ⟨j, h1, h2⟩ => hno j h1 h2⟩
    · intro h1
      have hlt := lp_go hsz hi h1
      have no : ¬ (bt1 s i ∧ ¬ σ 13 1 i < y) → ∃ N', N' < n - i ∧ ∃ (i' : Nat) (u : Int32), i' ≤ n ∧ N' = n - i' ∧ u = nI i' ∧ (∀ j, j < i' → ¬ (bt1 s j ∧ ¬ σ 13 1 j < y)) ∧ [some (HR 2 0), some (HI s), some (HI y), some (HI (nI i + 1))] = [some (HR 2 0), some (HI s), some (HI y), some (HI u)] ∧ ([] : List HV) = [] ∧ w = w ∧ σ = σ := fun h =>
        ⟨n - (i + 1), by omega, i + 1, _, hlt, rfl, nI_1 i, fun j hj => (Nat.lt_succ_iff_lt_or_eq.mp hj).elim (hno j) (fun e => e ▸ h), rfl, rfl, rfl, rfl⟩
      apply br2
      rotate_left
      · intro h2
        exact no fun h => h2 h.1
      intro h2
      refine And.intro (vp_in_nI (N := 14) (by omega) (by decide)) ?_
      have e : (nI i).toNatClampNeg = i := nI_clamp (by omega)
      apply br2
      · intro h3
        exact no fun h => h.2 (by have h3 : σ 13 1 (nI i).toNatClampNeg < y := h3; rwa [e] at h3)
      · intro h3
        exact ⟨Or.inr rfl, hs.1 ⟨i, hlt, h2, by have h3 : ¬ σ 13 1 (nI i).toNatClampNeg < y := h3; rwa [e] at h3⟩⟩
  · exact ⟨n, 0, 0, Nat.zero_le _, rfl, rfl, fun j hj => absurd hj (by omega), rfl, rfl, rfl, rfl⟩
theorem ct_X2_comesFrom : Ctr yX2_comesFrom cX2_comesFrom 4 (some .boolean) 1 0 0 3 sp_X2_comesFrom := ctr_of (by decide +kernel) rfl (by decide) ok_X2_comesFrom vc_X2_comesFrom

def srS (σ : HS) (f o : Nat) (on : Int32) : HS := up3 (up3 σ 13 2 f (wB (σ 13 2 f) (nI o) on)) 13 2 o (wB (up3 σ 13 2 f (wB (σ 13 2 f) (nI o) on) 13 2 o) (nI f) on)
def sp_X2_setRivals : HSp := fun as w σ K => match as with
  | [.inr (.inl (2, some 0)), .inl f, .inl o, .inl on] => ∃ i j, i < 10 ∧ j < 10 ∧ f = nI i ∧ o = nI j ∧ K none w (srS σ i j on)
  | _ => False
theorem dX2_setRivals_0 : decode cX2_setRivals 0 = .ok (.aload_n 0, 1) := by decide +kernel
theorem dX2_setRivals_1 : decode cX2_setRivals 1 = .ok (.getfield 24, 3) := by decide +kernel
theorem dX2_setRivals_4 : decode cX2_setRivals 4 = .ok (.iload_n 1, 1) := by decide +kernel
theorem dX2_setRivals_5 : decode cX2_setRivals 5 = .ok (.aload_n 0, 1) := by decide +kernel
theorem dX2_setRivals_6 : decode cX2_setRivals 6 = .ok (.getfield 24, 3) := by decide +kernel
theorem dX2_setRivals_9 : decode cX2_setRivals 9 = .ok (.iload_n 1, 1) := by decide +kernel
theorem dX2_setRivals_10 : decode cX2_setRivals 10 = .ok (.iaload, 1) := by decide +kernel
theorem dX2_setRivals_11 : decode cX2_setRivals 11 = .ok (.iload_n 2, 1) := by decide +kernel
theorem dX2_setRivals_12 : decode cX2_setRivals 12 = .ok (.iload_n 3, 1) := by decide +kernel
theorem dX2_setRivals_13 : decode cX2_setRivals 13 = .ok (.invokestatic 51, 3) := by decide +kernel
theorem dX2_setRivals_16 : decode cX2_setRivals 16 = .ok (.iastore, 1) := by decide +kernel
theorem dX2_setRivals_17 : decode cX2_setRivals 17 = .ok (.aload_n 0, 1) := by decide +kernel
theorem dX2_setRivals_18 : decode cX2_setRivals 18 = .ok (.getfield 24, 3) := by decide +kernel
theorem dX2_setRivals_21 : decode cX2_setRivals 21 = .ok (.iload_n 2, 1) := by decide +kernel
theorem dX2_setRivals_22 : decode cX2_setRivals 22 = .ok (.aload_n 0, 1) := by decide +kernel
theorem dX2_setRivals_23 : decode cX2_setRivals 23 = .ok (.getfield 24, 3) := by decide +kernel
theorem dX2_setRivals_26 : decode cX2_setRivals 26 = .ok (.iload_n 2, 1) := by decide +kernel
theorem dX2_setRivals_27 : decode cX2_setRivals 27 = .ok (.iaload, 1) := by decide +kernel
theorem dX2_setRivals_28 : decode cX2_setRivals 28 = .ok (.iload_n 1, 1) := by decide +kernel
theorem dX2_setRivals_29 : decode cX2_setRivals 29 = .ok (.iload_n 3, 1) := by decide +kernel
theorem dX2_setRivals_30 : decode cX2_setRivals 30 = .ok (.invokestatic 51, 3) := by decide +kernel
theorem dX2_setRivals_33 : decode cX2_setRivals 33 = .ok (.iastore, 1) := by decide +kernel
theorem dX2_setRivals_34 : decode cX2_setRivals 34 = .ok (.return_, 1) := by decide +kernel
def ins_X2_setRivals (pc : Nat) : HOp := cond (Nat.blt pc 17) (cond (Nat.blt pc 9) (cond (Nat.blt pc 4) (cond (Nat.blt pc 1) (cond (Nat.beq pc 0) (o_aload 0 1) o_bad) (cond (Nat.beq pc 1) (o_getf 2 5 4) o_bad)) (cond (Nat.blt pc 5) (cond (Nat.beq pc 4) (o_iload 1 5) o_bad) (cond (Nat.blt pc 6) (cond (Nat.beq pc 5) (o_aload 0 6) o_bad) (cond (Nat.beq pc 6) (o_getf 2 5 9) o_bad)))) (cond (Nat.blt pc 12) (cond (Nat.blt pc 10) (cond (Nat.beq pc 9) (o_iload 1 10) o_bad) (cond (Nat.blt pc 11) (cond (Nat.beq pc 10) (o_iald 11) o_bad) (cond (Nat.beq pc 11) (o_iload 2 12) o_bad))) (cond (Nat.blt pc 13) (cond (Nat.beq pc 12) (o_iload 3 13) o_bad) (cond (Nat.blt pc 16) (cond (Nat.beq pc 13) (o_callS 3 sp_X10_withBit 16) o_bad) (cond (Nat.beq pc 16) (o_iast 17) o_bad))))) (cond (Nat.blt pc 27) (cond (Nat.blt pc 22) (cond (Nat.blt pc 18) (cond (Nat.beq pc 17) (o_aload 0 18) o_bad) (cond (Nat.blt pc 21) (cond (Nat.beq pc 18) (o_getf 2 5 21) o_bad) (cond (Nat.beq pc 21) (o_iload 2 22) o_bad))) (cond (Nat.blt pc 23) (cond (Nat.beq pc 22) (o_aload 0 23) o_bad) (cond (Nat.blt pc 26) (cond (Nat.beq pc 23) (o_getf 2 5 26) o_bad) (cond (Nat.beq pc 26) (o_iload 2 27) o_bad)))) (cond (Nat.blt pc 30) (cond (Nat.blt pc 28) (cond (Nat.beq pc 27) (o_iald 28) o_bad) (cond (Nat.blt pc 29) (cond (Nat.beq pc 28) (o_iload 1 29) o_bad) (cond (Nat.beq pc 29) (o_iload 3 30) o_bad))) (cond (Nat.blt pc 33) (cond (Nat.beq pc 30) (o_callS 3 sp_X10_withBit 33) o_bad) (cond (Nat.blt pc 34) (cond (Nat.beq pc 33) (o_iast 34) o_bad) (cond (Nat.beq pc 34) (o_vret) o_bad)))))
set_option maxRecDepth 20000 in
theorem ok_X2_setRivals : HOKs cX2_setRivals RX2 4 none 2 ins_X2_setRivals := fun _ => hnd (hnd (hnd (hnd (hlf (ok_aload_n dX2_setRivals_0 rfl rfl)) (hlf (ok_getf (C := RX2) (T := TX2) dX2_setRivals_1 rfl rfl (by decide) rfl inX2 wd_83 rfl))) (hnd (hlf (ok_iload_n dX2_setRivals_4 rfl rfl)) (hnd (hlf (ok_aload_n dX2_setRivals_5 rfl rfl)) (hlf (ok_getf (C := RX2) (T := TX2) dX2_setRivals_6 rfl rfl (by decide) rfl inX2 wd_83 rfl))))) (hnd (hnd (hlf (ok_iload_n dX2_setRivals_9 rfl rfl)) (hnd (hlf (ok_iald dX2_setRivals_10 rfl)) (hlf (ok_iload_n dX2_setRivals_11 rfl rfl)))) (hnd (hlf (ok_iload_n dX2_setRivals_12 rfl rfl)) (hnd (hlf (ok_callSN (y := yX10_withBit) dX2_setRivals_13 ct_X10_withBit (by decide) (by decide) wd_389 wd_538 wd_388 wd_41 (by decide +kernel) rfl)) (hlf (ok_iast dX2_setRivals_16 rfl)))))) (hnd (hnd (hnd (hlf (ok_aload_n dX2_setRivals_17 rfl rfl)) (hnd (hlf (ok_getf (C := RX2) (T := TX2) dX2_setRivals_18 rfl rfl (by decide) rfl inX2 wd_83 rfl)) (hlf (ok_iload_n dX2_setRivals_21 rfl rfl)))) (hnd (hlf (ok_aload_n dX2_setRivals_22 rfl rfl)) (hnd (hlf (ok_getf (C := RX2) (T := TX2) dX2_setRivals_23 rfl rfl (by decide) rfl inX2 wd_83 rfl)) (hlf (ok_iload_n dX2_setRivals_26 rfl rfl))))) (hnd (hnd (hlf (ok_iald dX2_setRivals_27 rfl)) (hnd (hlf (ok_iload_n dX2_setRivals_28 rfl rfl)) (hlf (ok_iload_n dX2_setRivals_29 rfl rfl)))) (hnd (hlf (ok_callSN (y := yX10_withBit) dX2_setRivals_30 ct_X10_withBit (by decide) (by decide) wd_389 wd_538 wd_388 wd_41 (by decide +kernel) rfl)) (hnd (hlf (ok_iast dX2_setRivals_33 rfl)) (hlf (ok_vret dX2_setRivals_34))))))

theorem vc_X2_setRivals : MVC ins_X2_setRivals 4 4 sp_X2_setRivals := by
  refine mvc0 60 fun as w σ q hl hs => ?_
  unfold sp_X2_setRivals at hs
  split at hs
  rotate_left
  · exact hs.elim
  rename_i f o on
  obtain ⟨i, j, hi, hj, rfl, rfl, hs⟩ := hs
  have e1 : (nI i).toNatClampNeg = i := nI_clamp (by omega)
  have e2 : (nI j).toNatClampNeg = j := nI_clamp (by omega)
  have h1 : vp_in (nI i) 10 := vp_in_nI hi (by decide)
  have h2 : vp_in (nI j) 10 := vp_in_nI hj (by decide)
  refine And.intro h1 (And.intro h1 (And.intro h2 (And.intro h2 ?_)))
  rw [e1, e2]
  exact hs
theorem ct_X2_setRivals : Ctr yX2_setRivals cX2_setRivals 4 none 2 0 0 4 sp_X2_setRivals := ctr_of (by decide +kernel) rfl (by decide) ok_X2_setRivals vc_X2_setRivals

def sp_X2_prisonersHere : HSp := fun as w σ K => match as with
  | [.inr (.inl (2, some 0))] => ∃ np, Pk w σ np ∧ K (some (HI (nI (cnt (fun i => decide (¬ σ 3 i 2 = 0)) np)))) w σ
  | _ => False
theorem dX2_prisonersHere_0 : decode cX2_prisonersHere 0 = .ok (.iconst 0, 1) := by decide +kernel
theorem dX2_prisonersHere_1 : decode cX2_prisonersHere 1 = .ok (.istore_n 1, 1) := by decide +kernel
theorem dX2_prisonersHere_2 : decode cX2_prisonersHere 2 = .ok (.iconst 0, 1) := by decide +kernel
theorem dX2_prisonersHere_3 : decode cX2_prisonersHere 3 = .ok (.istore_n 2, 1) := by decide +kernel
theorem dX2_prisonersHere_4 : decode cX2_prisonersHere 4 = .ok (.iload_n 2, 1) := by decide +kernel
theorem dX2_prisonersHere_5 : decode cX2_prisonersHere 5 = .ok (.aload_n 0, 1) := by decide +kernel
theorem dX2_prisonersHere_6 : decode cX2_prisonersHere 6 = .ok (.getfield 27, 3) := by decide +kernel
theorem dX2_prisonersHere_9 : decode cX2_prisonersHere 9 = .ok (.if_icmp .ge 29, 3) := by decide +kernel
theorem dX2_prisonersHere_12 : decode cX2_prisonersHere 12 = .ok (.iload_n 1, 1) := by decide +kernel
theorem dX2_prisonersHere_13 : decode cX2_prisonersHere 13 = .ok (.aload_n 0, 1) := by decide +kernel
theorem dX2_prisonersHere_14 : decode cX2_prisonersHere 14 = .ok (.getfield 13, 3) := by decide +kernel
theorem dX2_prisonersHere_17 : decode cX2_prisonersHere 17 = .ok (.iload_n 2, 1) := by decide +kernel
theorem dX2_prisonersHere_18 : decode cX2_prisonersHere 18 = .ok (.aaload, 1) := by decide +kernel
theorem dX2_prisonersHere_19 : decode cX2_prisonersHere 19 = .ok (.getfield 55, 3) := by decide +kernel
theorem dX2_prisonersHere_22 : decode cX2_prisonersHere 22 = .ok (.ifCond .eq 7, 3) := by decide +kernel
theorem dX2_prisonersHere_25 : decode cX2_prisonersHere 25 = .ok (.iconst 1, 1) := by decide +kernel
theorem dX2_prisonersHere_26 : decode cX2_prisonersHere 26 = .ok (.goto 4, 3) := by decide +kernel
theorem dX2_prisonersHere_29 : decode cX2_prisonersHere 29 = .ok (.iconst 0, 1) := by decide +kernel
theorem dX2_prisonersHere_30 : decode cX2_prisonersHere 30 = .ok (.iadd, 1) := by decide +kernel
theorem dX2_prisonersHere_31 : decode cX2_prisonersHere 31 = .ok (.istore_n 1, 1) := by decide +kernel
theorem dX2_prisonersHere_32 : decode cX2_prisonersHere 32 = .ok (.iinc 2 1, 3) := by decide +kernel
theorem dX2_prisonersHere_35 : decode cX2_prisonersHere 35 = .ok (.goto (-31), 3) := by decide +kernel
theorem dX2_prisonersHere_38 : decode cX2_prisonersHere 38 = .ok (.iload_n 1, 1) := by decide +kernel
theorem dX2_prisonersHere_39 : decode cX2_prisonersHere 39 = .ok (.ireturn, 1) := by decide +kernel
def ins_X2_prisonersHere (pc : Nat) : HOp := cond (Nat.blt pc 18) (cond (Nat.blt pc 6) (cond (Nat.blt pc 3) (cond (Nat.blt pc 1) (cond (Nat.beq pc 0) (o_const (0) 1) o_bad) (cond (Nat.blt pc 2) (cond (Nat.beq pc 1) (o_istore 1 2) o_bad) (cond (Nat.beq pc 2) (o_const (0) 3) o_bad))) (cond (Nat.blt pc 4) (cond (Nat.beq pc 3) (o_istore 2 4) o_bad) (cond (Nat.blt pc 5) (cond (Nat.beq pc 4) (o_iload 2 5) o_bad) (cond (Nat.beq pc 5) (o_aload 0 6) o_bad)))) (cond (Nat.blt pc 13) (cond (Nat.blt pc 9) (cond (Nat.beq pc 6) (o_getf 2 1 9) o_bad) (cond (Nat.blt pc 12) (cond (Nat.beq pc 9) (o_icmp (fun x y => y ≤ x) 38 12) o_bad) (cond (Nat.beq pc 12) (o_iload 1 13) o_bad))) (cond (Nat.blt pc 14) (cond (Nat.beq pc 13) (o_aload 0 14) o_bad) (cond (Nat.blt pc 17) (cond (Nat.beq pc 14) (o_getf 2 0 17) o_bad) (cond (Nat.beq pc 17) (o_iload 2 18) o_bad))))) (cond (Nat.blt pc 30) (cond (Nat.blt pc 25) (cond (Nat.blt pc 19) (cond (Nat.beq pc 18) (o_aald 19) o_bad) (cond (Nat.blt pc 22) (cond (Nat.beq pc 19) (o_getf 3 2 22) o_bad) (cond (Nat.beq pc 22) (o_if (fun x => x = 0) 29 25) o_bad))) (cond (Nat.blt pc 26) (cond (Nat.beq pc 25) (o_const (1) 26) o_bad) (cond (Nat.blt pc 29) (cond (Nat.beq pc 26) (o_goto 30) o_bad) (cond (Nat.beq pc 29) (o_const (0) 30) o_bad)))) (cond (Nat.blt pc 35) (cond (Nat.blt pc 31) (cond (Nat.beq pc 30) (o_bin (fun x y => x + y) 31) o_bad) (cond (Nat.blt pc 32) (cond (Nat.beq pc 31) (o_istore 1 32) o_bad) (cond (Nat.beq pc 32) (o_iinc 2 (1) 35) o_bad))) (cond (Nat.blt pc 38) (cond (Nat.beq pc 35) (o_goto 4) o_bad) (cond (Nat.blt pc 39) (cond (Nat.beq pc 38) (o_iload 1 39) o_bad) (cond (Nat.beq pc 39) (o_iret) o_bad)))))
set_option maxRecDepth 20000 in
theorem ok_X2_prisonersHere : HOKs cX2_prisonersHere RX2 3 (some .int) 1 ins_X2_prisonersHere := fun _ => hnd (hnd (hnd (hnd (hlf (ok_iconst dX2_prisonersHere_0 (by decide) rfl)) (hnd (hlf (ok_istore_n dX2_prisonersHere_1 rfl (by decide) rfl)) (hlf (ok_iconst dX2_prisonersHere_2 (by decide) rfl)))) (hnd (hlf (ok_istore_n dX2_prisonersHere_3 rfl (by decide) rfl)) (hnd (hlf (ok_iload_n dX2_prisonersHere_4 rfl rfl)) (hlf (ok_aload_n dX2_prisonersHere_5 rfl rfl))))) (hnd (hnd (hlf (ok_getf (C := RX2) (T := TX2) dX2_prisonersHere_6 rfl rfl (by decide) rfl inX2 wd_78 rfl)) (hnd (hlf (ok_icmp_ge dX2_prisonersHere_9 (by decide) rfl)) (hlf (ok_iload_n dX2_prisonersHere_12 rfl rfl)))) (hnd (hlf (ok_aload_n dX2_prisonersHere_13 rfl rfl)) (hnd (hlf (ok_getf (C := RX2) (T := TX2) dX2_prisonersHere_14 rfl rfl (by decide) rfl inX2 wd_77 rfl)) (hlf (ok_iload_n dX2_prisonersHere_17 rfl rfl)))))) (hnd (hnd (hnd (hlf (ok_aald dX2_prisonersHere_18 rfl)) (hnd (hlf (ok_getfN (C := RX3) (T := TX3) dX2_prisonersHere_19 rfl rfl (by decide) rfl inX3 wd_343 rfl)) (hlf (ok_if_eq dX2_prisonersHere_22 (by decide) rfl)))) (hnd (hlf (ok_iconst dX2_prisonersHere_25 (by decide) rfl)) (hnd (hlf (ok_goto dX2_prisonersHere_26 (by decide))) (hlf (ok_iconst dX2_prisonersHere_29 (by decide) rfl))))) (hnd (hnd (hlf (ok_iadd dX2_prisonersHere_30 rfl)) (hnd (hlf (ok_istore_n dX2_prisonersHere_31 rfl (by decide) rfl)) (hlf (ok_iinc dX2_prisonersHere_32 (by decide) (by decide) rfl)))) (hnd (hlf (ok_goto dX2_prisonersHere_35 (by decide))) (hnd (hlf (ok_iload_n dX2_prisonersHere_38 rfl rfl)) (hlf (ok_iret dX2_prisonersHere_39))))))

theorem vc_X2_prisonersHere : MVC ins_X2_prisonersHere 3 1 sp_X2_prisonersHere := by
  refine mvc1 4 60 fun as w σ q hl hs => ?_
  unfold sp_X2_prisonersHere at hs
  split at hs
  rotate_left
  · exact hs.elim
  obtain ⟨n, ⟨hn, hsz, hra⟩, hq⟩ := hs
  refine ⟨fun N ls st w' σ' => ∃ (i : Nat) (u v : Int32), i ≤ n ∧ N = n - i ∧ u = nI (cnt (fun i => decide (¬ σ 3 i 2 = 0)) i) ∧ v = nI i ∧ ls = [some (HR 2 0), some (HI u), some (HI v)] ∧ st = [] ∧ w = w' ∧ σ = σ', ?_, ?_⟩
  · rintro N ls st w' σ' ⟨i, u, v, hi, rfl, rfl, rfl, rfl, rfl, rfl, rfl⟩
    apply br2
    · intro h1
      obtain rfl := lp_end hsz hi h1
      exact hq
    · intro h1
      have hlt := lp_go hsz hi h1
      refine And.intro (vp_in_nI (N := 10) (by omega) (by decide)) (fun o ho => ?_)
      obtain rfl := ra_at ho (hra i hlt)
      apply br2
      · intro h2
        exact ⟨n - (i + 1), by omega, i + 1, _, _, hlt, rfl, by rw [cnt_n (decide_eq_false (not_not_intro h2))]; exact Int32.add_zero _, nI_1 i, rfl, rfl, rfl, rfl⟩
      · intro h2
        exact ⟨n - (i + 1), by omega, i + 1, _, _, hlt, rfl, by rw [cnt_y (decide_eq_true h2)]; exact nI_1 _, nI_1 i, rfl, rfl, rfl, rfl⟩
  · exact ⟨n, 0, 0, 0, Nat.zero_le _, rfl, rfl, rfl, rfl, rfl, rfl, rfl⟩
theorem ct_X2_prisonersHere : Ctr yX2_prisonersHere cX2_prisonersHere 3 (some .int) 1 0 0 1 sp_X2_prisonersHere := ctr_of (by decide +kernel) rfl (by decide) ok_X2_prisonersHere vc_X2_prisonersHere

def sm (f : Nat → Nat) : Nat → Nat
  | 0 => 0
  | n + 1 => sm f n + f n
def sp_X2_orderCount : HSp := fun as w σ K => match as with
  | [.inr (.inl (2, some 0))] => ∃ np, Pk w σ np ∧ K (some (HI (nI (sm (fun p => cnt (fun v => decide (¬ σ 13 (p + 4) v = 401)) 14) np)))) w σ
  | _ => False
theorem dX2_orderCount_0 : decode cX2_orderCount 0 = .ok (.iconst 0, 1) := by decide +kernel
theorem dX2_orderCount_1 : decode cX2_orderCount 1 = .ok (.istore_n 1, 1) := by decide +kernel
theorem dX2_orderCount_2 : decode cX2_orderCount 2 = .ok (.iconst 0, 1) := by decide +kernel
theorem dX2_orderCount_3 : decode cX2_orderCount 3 = .ok (.istore_n 2, 1) := by decide +kernel
theorem dX2_orderCount_4 : decode cX2_orderCount 4 = .ok (.iload_n 2, 1) := by decide +kernel
theorem dX2_orderCount_5 : decode cX2_orderCount 5 = .ok (.aload_n 0, 1) := by decide +kernel
theorem dX2_orderCount_6 : decode cX2_orderCount 6 = .ok (.getfield 27, 3) := by decide +kernel
theorem dX2_orderCount_9 : decode cX2_orderCount 9 = .ok (.if_icmp .ge 21, 3) := by decide +kernel
theorem dX2_orderCount_12 : decode cX2_orderCount 12 = .ok (.iload_n 1, 1) := by decide +kernel
theorem dX2_orderCount_13 : decode cX2_orderCount 13 = .ok (.aload_n 0, 1) := by decide +kernel
theorem dX2_orderCount_14 : decode cX2_orderCount 14 = .ok (.getfield 13, 3) := by decide +kernel
theorem dX2_orderCount_17 : decode cX2_orderCount 17 = .ok (.iload_n 2, 1) := by decide +kernel
theorem dX2_orderCount_18 : decode cX2_orderCount 18 = .ok (.aaload, 1) := by decide +kernel
theorem dX2_orderCount_19 : decode cX2_orderCount 19 = .ok (.invokevirtual 59, 3) := by decide +kernel
theorem dX2_orderCount_22 : decode cX2_orderCount 22 = .ok (.iadd, 1) := by decide +kernel
theorem dX2_orderCount_23 : decode cX2_orderCount 23 = .ok (.istore_n 1, 1) := by decide +kernel
theorem dX2_orderCount_24 : decode cX2_orderCount 24 = .ok (.iinc 2 1, 3) := by decide +kernel
theorem dX2_orderCount_27 : decode cX2_orderCount 27 = .ok (.goto (-23), 3) := by decide +kernel
theorem dX2_orderCount_30 : decode cX2_orderCount 30 = .ok (.iload_n 1, 1) := by decide +kernel
theorem dX2_orderCount_31 : decode cX2_orderCount 31 = .ok (.ireturn, 1) := by decide +kernel
def ins_X2_orderCount (pc : Nat) : HOp := cond (Nat.blt pc 14) (cond (Nat.blt pc 5) (cond (Nat.blt pc 2) (cond (Nat.blt pc 1) (cond (Nat.beq pc 0) (o_const (0) 1) o_bad) (cond (Nat.beq pc 1) (o_istore 1 2) o_bad)) (cond (Nat.blt pc 3) (cond (Nat.beq pc 2) (o_const (0) 3) o_bad) (cond (Nat.blt pc 4) (cond (Nat.beq pc 3) (o_istore 2 4) o_bad) (cond (Nat.beq pc 4) (o_iload 2 5) o_bad)))) (cond (Nat.blt pc 9) (cond (Nat.blt pc 6) (cond (Nat.beq pc 5) (o_aload 0 6) o_bad) (cond (Nat.beq pc 6) (o_getf 2 1 9) o_bad)) (cond (Nat.blt pc 12) (cond (Nat.beq pc 9) (o_icmp (fun x y => y ≤ x) 30 12) o_bad) (cond (Nat.blt pc 13) (cond (Nat.beq pc 12) (o_iload 1 13) o_bad) (cond (Nat.beq pc 13) (o_aload 0 14) o_bad))))) (cond (Nat.blt pc 23) (cond (Nat.blt pc 18) (cond (Nat.blt pc 17) (cond (Nat.beq pc 14) (o_getf 2 0 17) o_bad) (cond (Nat.beq pc 17) (o_iload 2 18) o_bad)) (cond (Nat.blt pc 19) (cond (Nat.beq pc 18) (o_aald 19) o_bad) (cond (Nat.blt pc 22) (cond (Nat.beq pc 19) (o_callV 1 3 sp_X3_ordersThere 22) o_bad) (cond (Nat.beq pc 22) (o_bin (fun x y => x + y) 23) o_bad)))) (cond (Nat.blt pc 27) (cond (Nat.blt pc 24) (cond (Nat.beq pc 23) (o_istore 1 24) o_bad) (cond (Nat.beq pc 24) (o_iinc 2 (1) 27) o_bad)) (cond (Nat.blt pc 30) (cond (Nat.beq pc 27) (o_goto 4) o_bad) (cond (Nat.blt pc 31) (cond (Nat.beq pc 30) (o_iload 1 31) o_bad) (cond (Nat.beq pc 31) (o_iret) o_bad)))))
set_option maxRecDepth 20000 in
theorem ok_X2_orderCount : HOKs cX2_orderCount RX2 3 (some .int) 2 ins_X2_orderCount := fun _ => hnd (hnd (hnd (hnd (hlf (ok_iconst dX2_orderCount_0 (by decide) rfl)) (hlf (ok_istore_n dX2_orderCount_1 rfl (by decide) rfl))) (hnd (hlf (ok_iconst dX2_orderCount_2 (by decide) rfl)) (hnd (hlf (ok_istore_n dX2_orderCount_3 rfl (by decide) rfl)) (hlf (ok_iload_n dX2_orderCount_4 rfl rfl))))) (hnd (hnd (hlf (ok_aload_n dX2_orderCount_5 rfl rfl)) (hlf (ok_getf (C := RX2) (T := TX2) dX2_orderCount_6 rfl rfl (by decide) rfl inX2 wd_78 rfl))) (hnd (hlf (ok_icmp_ge dX2_orderCount_9 (by decide) rfl)) (hnd (hlf (ok_iload_n dX2_orderCount_12 rfl rfl)) (hlf (ok_aload_n dX2_orderCount_13 rfl rfl)))))) (hnd (hnd (hnd (hlf (ok_getf (C := RX2) (T := TX2) dX2_orderCount_14 rfl rfl (by decide) rfl inX2 wd_77 rfl)) (hlf (ok_iload_n dX2_orderCount_17 rfl rfl))) (hnd (hlf (ok_aald dX2_orderCount_18 rfl)) (hnd (hlf (ok_callV (y := yX3_ordersThere) (n' := 0) (C := RX3) (T := TX3) dX2_orderCount_19 ct_X3_ordersThere (by decide) (by decide) wd_866 wd_863 wd_864 wd_865 wd_51 rfl (by decide +kernel) rfl rfl rfl)) (hlf (ok_iadd dX2_orderCount_22 rfl))))) (hnd (hnd (hlf (ok_istore_n dX2_orderCount_23 rfl (by decide) rfl)) (hlf (ok_iinc dX2_orderCount_24 (by decide) (by decide) rfl))) (hnd (hlf (ok_goto dX2_orderCount_27 (by decide))) (hnd (hlf (ok_iload_n dX2_orderCount_30 rfl rfl)) (hlf (ok_iret dX2_orderCount_31))))))

theorem vc_X2_orderCount : MVC ins_X2_orderCount 3 1 sp_X2_orderCount := by
  refine mvc1 4 60 fun as w σ q hl hs => ?_
  unfold sp_X2_orderCount at hs
  split at hs
  rotate_left
  · exact hs.elim
  obtain ⟨n, ⟨hn, hsz, hra⟩, hq⟩ := hs
  refine ⟨fun N ls st w' σ' => ∃ (i : Nat) (u v : Int32), i ≤ n ∧ N = n - i ∧ u = nI (sm (fun p => cnt (fun v => decide (¬ σ 13 (p + 4) v = 401)) 14) i) ∧ v = nI i ∧ ls = [some (HR 2 0), some (HI u), some (HI v)] ∧ st = [] ∧ w = w' ∧ σ = σ', ?_, ?_⟩
  · rintro N ls st w' σ' ⟨i, u, v, hi, rfl, rfl, rfl, rfl, rfl, rfl, rfl⟩
    apply br2
    · intro h1
      obtain rfl := lp_end hsz hi h1
      exact hq
    · intro h1
      have hlt := lp_go hsz hi h1
      refine And.intro (vp_in_nI (N := 10) (by omega) (by decide)) (fun o ho => ?_)
      obtain rfl := ra_at ho (hra i hlt)
      exact ⟨n - (i + 1), by omega, i + 1, _, _, hlt, rfl, nI_add _ _, nI_1 i, rfl, rfl, rfl, rfl⟩
  · exact ⟨n, 0, 0, 0, Nat.zero_le _, rfl, rfl, rfl, rfl, rfl, rfl, rfl⟩
theorem ct_X2_orderCount : Ctr yX2_orderCount cX2_orderCount 3 (some .int) 2 0 0 1 sp_X2_orderCount := ctr_of (by decide +kernel) rfl (by decide) ok_X2_orderCount vc_X2_orderCount

def sp_X2_rivalPairs : HSp := fun as w σ K => match as with
  | [.inr (.inl (2, some 0))] => ∃ f : Nat → Nat, (∀ i, i < 10 → popc (σ 13 2 i) = nI (f i) ∧ f i ≤ 32) ∧ K (some (HI (nI (sm f 10) / 2))) w σ
  | _ => False
theorem dX2_rivalPairs_0 : decode cX2_rivalPairs 0 = .ok (.iconst 0, 1) := by decide +kernel
theorem dX2_rivalPairs_1 : decode cX2_rivalPairs 1 = .ok (.istore_n 1, 1) := by decide +kernel
theorem dX2_rivalPairs_2 : decode cX2_rivalPairs 2 = .ok (.iconst 0, 1) := by decide +kernel
theorem dX2_rivalPairs_3 : decode cX2_rivalPairs 3 = .ok (.istore_n 2, 1) := by decide +kernel
theorem dX2_rivalPairs_4 : decode cX2_rivalPairs 4 = .ok (.iload_n 2, 1) := by decide +kernel
theorem dX2_rivalPairs_5 : decode cX2_rivalPairs 5 = .ok (.bipush 10, 2) := by decide +kernel
theorem dX2_rivalPairs_7 : decode cX2_rivalPairs 7 = .ok (.if_icmp .ge 21, 3) := by decide +kernel
theorem dX2_rivalPairs_10 : decode cX2_rivalPairs 10 = .ok (.iload_n 1, 1) := by decide +kernel
theorem dX2_rivalPairs_11 : decode cX2_rivalPairs 11 = .ok (.aload_n 0, 1) := by decide +kernel
theorem dX2_rivalPairs_12 : decode cX2_rivalPairs 12 = .ok (.getfield 24, 3) := by decide +kernel
theorem dX2_rivalPairs_15 : decode cX2_rivalPairs 15 = .ok (.iload_n 2, 1) := by decide +kernel
theorem dX2_rivalPairs_16 : decode cX2_rivalPairs 16 = .ok (.iaload, 1) := by decide +kernel
theorem dX2_rivalPairs_17 : decode cX2_rivalPairs 17 = .ok (.invokestatic 42, 3) := by decide +kernel
theorem dX2_rivalPairs_20 : decode cX2_rivalPairs 20 = .ok (.iadd, 1) := by decide +kernel
theorem dX2_rivalPairs_21 : decode cX2_rivalPairs 21 = .ok (.istore_n 1, 1) := by decide +kernel
theorem dX2_rivalPairs_22 : decode cX2_rivalPairs 22 = .ok (.iinc 2 1, 3) := by decide +kernel
theorem dX2_rivalPairs_25 : decode cX2_rivalPairs 25 = .ok (.goto (-21), 3) := by decide +kernel
theorem dX2_rivalPairs_28 : decode cX2_rivalPairs 28 = .ok (.iload_n 1, 1) := by decide +kernel
theorem dX2_rivalPairs_29 : decode cX2_rivalPairs 29 = .ok (.iconst 2, 1) := by decide +kernel
theorem dX2_rivalPairs_30 : decode cX2_rivalPairs 30 = .ok (.idiv, 1) := by decide +kernel
theorem dX2_rivalPairs_31 : decode cX2_rivalPairs 31 = .ok (.ireturn, 1) := by decide +kernel
def ins_X2_rivalPairs (pc : Nat) : HOp := cond (Nat.blt pc 15) (cond (Nat.blt pc 5) (cond (Nat.blt pc 2) (cond (Nat.blt pc 1) (cond (Nat.beq pc 0) (o_const (0) 1) o_bad) (cond (Nat.beq pc 1) (o_istore 1 2) o_bad)) (cond (Nat.blt pc 3) (cond (Nat.beq pc 2) (o_const (0) 3) o_bad) (cond (Nat.blt pc 4) (cond (Nat.beq pc 3) (o_istore 2 4) o_bad) (cond (Nat.beq pc 4) (o_iload 2 5) o_bad)))) (cond (Nat.blt pc 10) (cond (Nat.blt pc 7) (cond (Nat.beq pc 5) (o_const (10) 7) o_bad) (cond (Nat.beq pc 7) (o_icmp (fun x y => y ≤ x) 28 10) o_bad)) (cond (Nat.blt pc 11) (cond (Nat.beq pc 10) (o_iload 1 11) o_bad) (cond (Nat.blt pc 12) (cond (Nat.beq pc 11) (o_aload 0 12) o_bad) (cond (Nat.beq pc 12) (o_getf 2 5 15) o_bad))))) (cond (Nat.blt pc 22) (cond (Nat.blt pc 17) (cond (Nat.blt pc 16) (cond (Nat.beq pc 15) (o_iload 2 16) o_bad) (cond (Nat.beq pc 16) (o_iald 17) o_bad)) (cond (Nat.blt pc 20) (cond (Nat.beq pc 17) (o_callS 1 sp_J6_bitCount_0f7a4 20) o_bad) (cond (Nat.blt pc 21) (cond (Nat.beq pc 20) (o_bin (fun x y => x + y) 21) o_bad) (cond (Nat.beq pc 21) (o_istore 1 22) o_bad)))) (cond (Nat.blt pc 29) (cond (Nat.blt pc 25) (cond (Nat.beq pc 22) (o_iinc 2 (1) 25) o_bad) (cond (Nat.blt pc 28) (cond (Nat.beq pc 25) (o_goto 4) o_bad) (cond (Nat.beq pc 28) (o_iload 1 29) o_bad))) (cond (Nat.blt pc 30) (cond (Nat.beq pc 29) (o_const (2) 30) o_bad) (cond (Nat.blt pc 31) (cond (Nat.beq pc 30) (o_dv (fun x y => x / y) 31) o_bad) (cond (Nat.beq pc 31) (o_iret) o_bad)))))
set_option maxRecDepth 20000 in
theorem ok_X2_rivalPairs : HOKs cX2_rivalPairs RX2 3 (some .int) 2 ins_X2_rivalPairs := fun _ => hnd (hnd (hnd (hnd (hlf (ok_iconst dX2_rivalPairs_0 (by decide) rfl)) (hlf (ok_istore_n dX2_rivalPairs_1 rfl (by decide) rfl))) (hnd (hlf (ok_iconst dX2_rivalPairs_2 (by decide) rfl)) (hnd (hlf (ok_istore_n dX2_rivalPairs_3 rfl (by decide) rfl)) (hlf (ok_iload_n dX2_rivalPairs_4 rfl rfl))))) (hnd (hnd (hlf (ok_bipush dX2_rivalPairs_5 (by decide) rfl)) (hlf (ok_icmp_ge dX2_rivalPairs_7 (by decide) rfl))) (hnd (hlf (ok_iload_n dX2_rivalPairs_10 rfl rfl)) (hnd (hlf (ok_aload_n dX2_rivalPairs_11 rfl rfl)) (hlf (ok_getf (C := RX2) (T := TX2) dX2_rivalPairs_12 rfl rfl (by decide) rfl inX2 wd_83 rfl)))))) (hnd (hnd (hnd (hlf (ok_iload_n dX2_rivalPairs_15 rfl rfl)) (hlf (ok_iald dX2_rivalPairs_16 rfl))) (hnd (hlf (ok_callS (y := yJ6_bitCount_0f7a4) dX2_rivalPairs_17 ct_J6_bitCount_0f7a4 (by decide) (by decide) wd_732 wd_730 wd_731 wd_59 (by decide +kernel) rfl)) (hnd (hlf (ok_iadd dX2_rivalPairs_20 rfl)) (hlf (ok_istore_n dX2_rivalPairs_21 rfl (by decide) rfl))))) (hnd (hnd (hlf (ok_iinc dX2_rivalPairs_22 (by decide) (by decide) rfl)) (hnd (hlf (ok_goto dX2_rivalPairs_25 (by decide))) (hlf (ok_iload_n dX2_rivalPairs_28 rfl rfl)))) (hnd (hlf (ok_iconst dX2_rivalPairs_29 (by decide) rfl)) (hnd (hlf (ok_idiv dX2_rivalPairs_30 rfl)) (hlf (ok_iret dX2_rivalPairs_31))))))

theorem vc_X2_rivalPairs : MVC ins_X2_rivalPairs 3 1 sp_X2_rivalPairs := by
  refine mvc1 4 60 fun as w σ q hl hs => ?_
  unfold sp_X2_rivalPairs at hs
  split at hs
  rotate_left
  · exact hs.elim
  obtain ⟨f, hf, hq⟩ := hs
  refine ⟨fun N ls st w' σ' => ∃ (i : Nat) (u v : Int32), i ≤ 10 ∧ N = 10 - i ∧ u = nI (sm f i) ∧ v = nI i ∧ ls = [some (HR 2 0), some (HI u), some (HI v)] ∧ st = [] ∧ w = w' ∧ σ = σ', ?_, ?_⟩
  · rintro N ls st w' σ' ⟨i, u, v, hi, rfl, rfl, rfl, rfl, rfl, rfl, rfl⟩
    apply br2
    · intro h1
      obtain rfl := lp_end (n := 10) rfl hi h1
      exact And.intro (by decide) hq
    · intro h1
      have hlt := lp_go (n := 10) rfl hi h1
      refine And.intro (vp_in_nI (N := 10) (by omega) (by decide)) ?_
      have e : (nI i).toNatClampNeg = i := nI_clamp (by omega)
      refine ⟨10 - (i + 1), by omega, i + 1, _, _, hlt, rfl, ?_, nI_1 i, rfl, rfl, rfl, rfl⟩
      rw [e, (hf i hlt).1]
      exact nI_add _ _
  · exact ⟨10, 0, 0, 0, Nat.zero_le _, rfl, rfl, rfl, rfl, rfl, rfl, rfl⟩
theorem ct_X2_rivalPairs : Ctr yX2_rivalPairs cX2_rivalPairs 3 (some .int) 2 0 0 1 sp_X2_rivalPairs := ctr_of (by decide +kernel) rfl (by decide) ok_X2_rivalPairs vc_X2_rivalPairs

abbrev ptC (σ : HS) (s : Int32) : Prop := s &&& (σ 13 0 0 ^^^ (-1)) = 0 ∧ ¬ popc s < 1 ∧ ¬ 3 < popc s
def sp_X2_isParty : HSp := fun as w σ K => match as with
  | [.inr (.inl (2, some 0)), .inl s] => spZ (ptC σ s) w σ K
  | _ => False
theorem dX2_isParty_0 : decode cX2_isParty 0 = .ok (.iload_n 1, 1) := by decide +kernel
theorem dX2_isParty_1 : decode cX2_isParty 1 = .ok (.invokestatic 42, 3) := by decide +kernel
theorem dX2_isParty_4 : decode cX2_isParty 4 = .ok (.istore_n 2, 1) := by decide +kernel
theorem dX2_isParty_5 : decode cX2_isParty 5 = .ok (.iload_n 1, 1) := by decide +kernel
theorem dX2_isParty_6 : decode cX2_isParty 6 = .ok (.aload_n 0, 1) := by decide +kernel
theorem dX2_isParty_7 : decode cX2_isParty 7 = .ok (.getfield 17, 3) := by decide +kernel
theorem dX2_isParty_10 : decode cX2_isParty 10 = .ok (.iconst 0, 1) := by decide +kernel
theorem dX2_isParty_11 : decode cX2_isParty 11 = .ok (.iaload, 1) := by decide +kernel
theorem dX2_isParty_12 : decode cX2_isParty 12 = .ok (.iconst (-1), 1) := by decide +kernel
theorem dX2_isParty_13 : decode cX2_isParty 13 = .ok (.ixor, 1) := by decide +kernel
theorem dX2_isParty_14 : decode cX2_isParty 14 = .ok (.iand, 1) := by decide +kernel
theorem dX2_isParty_15 : decode cX2_isParty 15 = .ok (.ifCond .ne 17, 3) := by decide +kernel
theorem dX2_isParty_18 : decode cX2_isParty 18 = .ok (.iload_n 2, 1) := by decide +kernel
theorem dX2_isParty_19 : decode cX2_isParty 19 = .ok (.iconst 1, 1) := by decide +kernel
theorem dX2_isParty_20 : decode cX2_isParty 20 = .ok (.if_icmp .lt 12, 3) := by decide +kernel
theorem dX2_isParty_23 : decode cX2_isParty 23 = .ok (.iload_n 2, 1) := by decide +kernel
theorem dX2_isParty_24 : decode cX2_isParty 24 = .ok (.iconst 3, 1) := by decide +kernel
theorem dX2_isParty_25 : decode cX2_isParty 25 = .ok (.if_icmp .gt 7, 3) := by decide +kernel
theorem dX2_isParty_28 : decode cX2_isParty 28 = .ok (.iconst 1, 1) := by decide +kernel
theorem dX2_isParty_29 : decode cX2_isParty 29 = .ok (.goto 4, 3) := by decide +kernel
theorem dX2_isParty_32 : decode cX2_isParty 32 = .ok (.iconst 0, 1) := by decide +kernel
theorem dX2_isParty_33 : decode cX2_isParty 33 = .ok (.ireturn, 1) := by decide +kernel
def ins_X2_isParty (pc : Nat) : HOp := cond (Nat.blt pc 15) (cond (Nat.blt pc 7) (cond (Nat.blt pc 4) (cond (Nat.blt pc 1) (cond (Nat.beq pc 0) (o_iload 1 1) o_bad) (cond (Nat.beq pc 1) (o_callS 1 sp_J6_bitCount_0f7a4 4) o_bad)) (cond (Nat.blt pc 5) (cond (Nat.beq pc 4) (o_istore 2 5) o_bad) (cond (Nat.blt pc 6) (cond (Nat.beq pc 5) (o_iload 1 6) o_bad) (cond (Nat.beq pc 6) (o_aload 0 7) o_bad)))) (cond (Nat.blt pc 12) (cond (Nat.blt pc 10) (cond (Nat.beq pc 7) (o_getf 2 2 10) o_bad) (cond (Nat.blt pc 11) (cond (Nat.beq pc 10) (o_const (0) 11) o_bad) (cond (Nat.beq pc 11) (o_iald 12) o_bad))) (cond (Nat.blt pc 13) (cond (Nat.beq pc 12) (o_const (-1) 13) o_bad) (cond (Nat.blt pc 14) (cond (Nat.beq pc 13) (o_bin (fun x y => x ^^^ y) 14) o_bad) (cond (Nat.beq pc 14) (o_bin (fun x y => x &&& y) 15) o_bad))))) (cond (Nat.blt pc 24) (cond (Nat.blt pc 19) (cond (Nat.blt pc 18) (cond (Nat.beq pc 15) (o_if (fun x => x = 0) 18 32) o_bad) (cond (Nat.beq pc 18) (o_iload 2 19) o_bad)) (cond (Nat.blt pc 20) (cond (Nat.beq pc 19) (o_const (1) 20) o_bad) (cond (Nat.blt pc 23) (cond (Nat.beq pc 20) (o_icmp (fun x y => x < y) 32 23) o_bad) (cond (Nat.beq pc 23) (o_iload 2 24) o_bad)))) (cond (Nat.blt pc 29) (cond (Nat.blt pc 25) (cond (Nat.beq pc 24) (o_const (3) 25) o_bad) (cond (Nat.blt pc 28) (cond (Nat.beq pc 25) (o_icmp (fun x y => y < x) 32 28) o_bad) (cond (Nat.beq pc 28) (o_const (1) 29) o_bad))) (cond (Nat.blt pc 32) (cond (Nat.beq pc 29) (o_goto 33) o_bad) (cond (Nat.blt pc 33) (cond (Nat.beq pc 32) (o_const (0) 33) o_bad) (cond (Nat.beq pc 33) (o_zret) o_bad)))))
set_option maxRecDepth 20000 in
theorem ok_X2_isParty : HOKs cX2_isParty RX2 3 (some .boolean) 2 ins_X2_isParty := fun _ => hnd (hnd (hnd (hnd (hlf (ok_iload_n dX2_isParty_0 rfl rfl)) (hlf (ok_callS (y := yJ6_bitCount_0f7a4) dX2_isParty_1 ct_J6_bitCount_0f7a4 (by decide) (by decide) wd_732 wd_730 wd_731 wd_59 (by decide +kernel) rfl))) (hnd (hlf (ok_istore_n dX2_isParty_4 rfl (by decide) rfl)) (hnd (hlf (ok_iload_n dX2_isParty_5 rfl rfl)) (hlf (ok_aload_n dX2_isParty_6 rfl rfl))))) (hnd (hnd (hlf (ok_getf (C := RX2) (T := TX2) dX2_isParty_7 rfl rfl (by decide) rfl inX2 wd_79 rfl)) (hnd (hlf (ok_iconst dX2_isParty_10 (by decide) rfl)) (hlf (ok_iald dX2_isParty_11 rfl)))) (hnd (hlf (ok_iconst dX2_isParty_12 (by decide) rfl)) (hnd (hlf (ok_ixor dX2_isParty_13 rfl)) (hlf (ok_iand dX2_isParty_14 rfl)))))) (hnd (hnd (hnd (hlf (ok_if_ne dX2_isParty_15 (by decide) rfl)) (hlf (ok_iload_n dX2_isParty_18 rfl rfl))) (hnd (hlf (ok_iconst dX2_isParty_19 (by decide) rfl)) (hnd (hlf (ok_icmp_lt dX2_isParty_20 (by decide) rfl)) (hlf (ok_iload_n dX2_isParty_23 rfl rfl))))) (hnd (hnd (hlf (ok_iconst dX2_isParty_24 (by decide) rfl)) (hnd (hlf (ok_icmp_gt dX2_isParty_25 (by decide) rfl)) (hlf (ok_iconst dX2_isParty_28 (by decide) rfl)))) (hnd (hlf (ok_goto dX2_isParty_29 (by decide))) (hnd (hlf (ok_iconst dX2_isParty_32 (by decide) rfl)) (hlf (ok_zret dX2_isParty_33))))))

theorem vc_X2_isParty : MVC ins_X2_isParty 3 2 sp_X2_isParty := by
  refine mvc0 60 fun as w σ q hl hs => ?_
  unfold sp_X2_isParty at hs
  split at hs
  rotate_left
  · exact hs.elim
  rename_i s
  clear hl
  refine And.intro (vp_in_nI (n := 0) (N := 4) (by decide) (by decide)) ?_
  have e0 : (0 : Int32).toNatClampNeg = 0 := rfl
  repeat' (first | apply br2 | intro _)
  all_goals first | exact ⟨Or.inl rfl, hs.2 (by grind)⟩ | exact ⟨Or.inr rfl, hs.1 (by grind)⟩
theorem ct_X2_isParty : Ctr yX2_isParty cX2_isParty 3 (some .boolean) 2 0 0 2 sp_X2_isParty := ctr_of (by decide +kernel) rfl (by decide) ok_X2_isParty vc_X2_isParty

/-- a visitor more -/
def avS (σ : HS) (k y : Int32) : HS :=
  let b := (1 : Int32) <<< (σ 2 0 4 &&& 31)
  let σ1 := up3 σ 13 0 0 (σ 13 0 0 ||| b)
  let σ2 := up3 σ1 13 0 k.toNatClampNeg (σ1 13 0 k.toNatClampNeg ||| b)
  let σ3 := if k = 3 then up3 σ2 13 0 1 (σ2 13 0 1 ||| b) else σ2
  up3 (up3 σ3 13 1 (σ 2 0 4).toNatClampNeg y) 2 0 4 (σ 2 0 4 + 1)
def sp_X2_addVisitor : HSp := fun as w σ K => match as with
  | [.inr (.inl (2, some 0)), .inl k, .inl y] => ∃ nv kn, nv ≤ 14 ∧ σ 2 0 4 = nI nv ∧ kn < 4 ∧ k = nI kn ∧ (nv < 14 → K (some (HI (σ 2 0 4))) w (avS σ k y)) ∧ (¬ nv < 14 → K (some (HI (-1000000003))) w σ)
  | _ => False
theorem up3_o {σ : HS} {k i f a b c : Nat} {v : Int32} (h : ¬ (a = k ∧ b = i ∧ c = f)) : up3 σ k i f v a b c = σ a b c := if_neg h
theorem dX2_addVisitor_0 : decode cX2_addVisitor 0 = .ok (.aload_n 0, 1) := by decide +kernel
theorem dX2_addVisitor_1 : decode cX2_addVisitor 1 = .ok (.getfield 39, 3) := by decide +kernel
theorem dX2_addVisitor_4 : decode cX2_addVisitor 4 = .ok (.bipush 14, 2) := by decide +kernel
theorem dX2_addVisitor_6 : decode cX2_addVisitor 6 = .ok (.if_icmp .lt 6, 3) := by decide +kernel
theorem dX2_addVisitor_9 : decode cX2_addVisitor 9 = .ok (.ldc 31, 2) := by decide +kernel
theorem dX2_addVisitor_11 : decode cX2_addVisitor 11 = .ok (.ireturn, 1) := by decide +kernel
theorem dX2_addVisitor_12 : decode cX2_addVisitor 12 = .ok (.iconst 1, 1) := by decide +kernel
theorem dX2_addVisitor_13 : decode cX2_addVisitor 13 = .ok (.aload_n 0, 1) := by decide +kernel
theorem dX2_addVisitor_14 : decode cX2_addVisitor 14 = .ok (.getfield 39, 3) := by decide +kernel
theorem dX2_addVisitor_17 : decode cX2_addVisitor 17 = .ok (.ishl, 1) := by decide +kernel
theorem dX2_addVisitor_18 : decode cX2_addVisitor 18 = .ok (.istore_n 3, 1) := by decide +kernel
theorem dX2_addVisitor_19 : decode cX2_addVisitor 19 = .ok (.aload_n 0, 1) := by decide +kernel
theorem dX2_addVisitor_20 : decode cX2_addVisitor 20 = .ok (.getfield 17, 3) := by decide +kernel
theorem dX2_addVisitor_23 : decode cX2_addVisitor 23 = .ok (.iconst 0, 1) := by decide +kernel
theorem dX2_addVisitor_24 : decode cX2_addVisitor 24 = .ok (.dup2, 1) := by decide +kernel
theorem dX2_addVisitor_25 : decode cX2_addVisitor 25 = .ok (.iaload, 1) := by decide +kernel
theorem dX2_addVisitor_26 : decode cX2_addVisitor 26 = .ok (.iload_n 3, 1) := by decide +kernel
theorem dX2_addVisitor_27 : decode cX2_addVisitor 27 = .ok (.ior, 1) := by decide +kernel
theorem dX2_addVisitor_28 : decode cX2_addVisitor 28 = .ok (.iastore, 1) := by decide +kernel
theorem dX2_addVisitor_29 : decode cX2_addVisitor 29 = .ok (.aload_n 0, 1) := by decide +kernel
theorem dX2_addVisitor_30 : decode cX2_addVisitor 30 = .ok (.getfield 17, 3) := by decide +kernel
theorem dX2_addVisitor_33 : decode cX2_addVisitor 33 = .ok (.iload_n 1, 1) := by decide +kernel
theorem dX2_addVisitor_34 : decode cX2_addVisitor 34 = .ok (.dup2, 1) := by decide +kernel
theorem dX2_addVisitor_35 : decode cX2_addVisitor 35 = .ok (.iaload, 1) := by decide +kernel
theorem dX2_addVisitor_36 : decode cX2_addVisitor 36 = .ok (.iload_n 3, 1) := by decide +kernel
theorem dX2_addVisitor_37 : decode cX2_addVisitor 37 = .ok (.ior, 1) := by decide +kernel
theorem dX2_addVisitor_38 : decode cX2_addVisitor 38 = .ok (.iastore, 1) := by decide +kernel
theorem dX2_addVisitor_39 : decode cX2_addVisitor 39 = .ok (.iload_n 1, 1) := by decide +kernel
theorem dX2_addVisitor_40 : decode cX2_addVisitor 40 = .ok (.iconst 3, 1) := by decide +kernel
theorem dX2_addVisitor_41 : decode cX2_addVisitor 41 = .ok (.if_icmp .ne 13, 3) := by decide +kernel
theorem dX2_addVisitor_44 : decode cX2_addVisitor 44 = .ok (.aload_n 0, 1) := by decide +kernel
theorem dX2_addVisitor_45 : decode cX2_addVisitor 45 = .ok (.getfield 17, 3) := by decide +kernel
theorem dX2_addVisitor_48 : decode cX2_addVisitor 48 = .ok (.iconst 1, 1) := by decide +kernel
theorem dX2_addVisitor_49 : decode cX2_addVisitor 49 = .ok (.dup2, 1) := by decide +kernel
theorem dX2_addVisitor_50 : decode cX2_addVisitor 50 = .ok (.iaload, 1) := by decide +kernel
theorem dX2_addVisitor_51 : decode cX2_addVisitor 51 = .ok (.iload_n 3, 1) := by decide +kernel
theorem dX2_addVisitor_52 : decode cX2_addVisitor 52 = .ok (.ior, 1) := by decide +kernel
theorem dX2_addVisitor_53 : decode cX2_addVisitor 53 = .ok (.iastore, 1) := by decide +kernel
theorem dX2_addVisitor_54 : decode cX2_addVisitor 54 = .ok (.aload_n 0, 1) := by decide +kernel
theorem dX2_addVisitor_55 : decode cX2_addVisitor 55 = .ok (.getfield 21, 3) := by decide +kernel
theorem dX2_addVisitor_58 : decode cX2_addVisitor 58 = .ok (.aload_n 0, 1) := by decide +kernel
theorem dX2_addVisitor_59 : decode cX2_addVisitor 59 = .ok (.getfield 39, 3) := by decide +kernel
theorem dX2_addVisitor_62 : decode cX2_addVisitor 62 = .ok (.iload_n 2, 1) := by decide +kernel
theorem dX2_addVisitor_63 : decode cX2_addVisitor 63 = .ok (.iastore, 1) := by decide +kernel
theorem dX2_addVisitor_64 : decode cX2_addVisitor 64 = .ok (.aload_n 0, 1) := by decide +kernel
theorem dX2_addVisitor_65 : decode cX2_addVisitor 65 = .ok (.dup, 1) := by decide +kernel
theorem dX2_addVisitor_66 : decode cX2_addVisitor 66 = .ok (.getfield 39, 3) := by decide +kernel
theorem dX2_addVisitor_69 : decode cX2_addVisitor 69 = .ok (.dup_x1, 1) := by decide +kernel
theorem dX2_addVisitor_70 : decode cX2_addVisitor 70 = .ok (.iconst 1, 1) := by decide +kernel
theorem dX2_addVisitor_71 : decode cX2_addVisitor 71 = .ok (.iadd, 1) := by decide +kernel
theorem dX2_addVisitor_72 : decode cX2_addVisitor 72 = .ok (.putfield 39, 3) := by decide +kernel
theorem dX2_addVisitor_75 : decode cX2_addVisitor 75 = .ok (.ireturn, 1) := by decide +kernel
def ins_X2_addVisitor (pc : Nat) : HOp := cond (Nat.blt pc 38) (cond (Nat.blt pc 23) (cond (Nat.blt pc 12) (cond (Nat.blt pc 6) (cond (Nat.blt pc 1) (cond (Nat.beq pc 0) (o_aload 0 1) o_bad) (cond (Nat.blt pc 4) (cond (Nat.beq pc 1) (o_getf 2 4 4) o_bad) (cond (Nat.beq pc 4) (o_const (14) 6) o_bad))) (cond (Nat.blt pc 9) (cond (Nat.beq pc 6) (o_icmp (fun x y => x < y) 12 9) o_bad) (cond (Nat.blt pc 11) (cond (Nat.beq pc 9) (o_const (-1000000003) 11) o_bad) (cond (Nat.beq pc 11) (o_iret) o_bad)))) (cond (Nat.blt pc 17) (cond (Nat.blt pc 13) (cond (Nat.beq pc 12) (o_const (1) 13) o_bad) (cond (Nat.blt pc 14) (cond (Nat.beq pc 13) (o_aload 0 14) o_bad) (cond (Nat.beq pc 14) (o_getf 2 4 17) o_bad))) (cond (Nat.blt pc 19) (cond (Nat.blt pc 18) (cond (Nat.beq pc 17) (o_bin (fun x y => x <<< (y &&& 31)) 18) o_bad) (cond (Nat.beq pc 18) (o_istore 3 19) o_bad)) (cond (Nat.blt pc 20) (cond (Nat.beq pc 19) (o_aload 0 20) o_bad) (cond (Nat.beq pc 20) (o_getf 2 2 23) o_bad))))) (cond (Nat.blt pc 29) (cond (Nat.blt pc 26) (cond (Nat.blt pc 24) (cond (Nat.beq pc 23) (o_const (0) 24) o_bad) (cond (Nat.blt pc 25) (cond (Nat.beq pc 24) (o_dup2 25) o_bad) (cond (Nat.beq pc 25) (o_iald 26) o_bad))) (cond (Nat.blt pc 27) (cond (Nat.beq pc 26) (o_iload 3 27) o_bad) (cond (Nat.blt pc 28) (cond (Nat.beq pc 27) (o_bin (fun x y => x ||| y) 28) o_bad) (cond (Nat.beq pc 28) (o_iast 29) o_bad)))) (cond (Nat.blt pc 34) (cond (Nat.blt pc 30) (cond (Nat.beq pc 29) (o_aload 0 30) o_bad) (cond (Nat.blt pc 33) (cond (Nat.beq pc 30) (o_getf 2 2 33) o_bad) (cond (Nat.beq pc 33) (o_iload 1 34) o_bad))) (cond (Nat.blt pc 36) (cond (Nat.blt pc 35) (cond (Nat.beq pc 34) (o_dup2 35) o_bad) (cond (Nat.beq pc 35) (o_iald 36) o_bad)) (cond (Nat.blt pc 37) (cond (Nat.beq pc 36) (o_iload 3 37) o_bad) (cond (Nat.beq pc 37) (o_bin (fun x y => x ||| y) 38) o_bad)))))) (cond (Nat.blt pc 55) (cond (Nat.blt pc 48) (cond (Nat.blt pc 41) (cond (Nat.blt pc 39) (cond (Nat.beq pc 38) (o_iast 39) o_bad) (cond (Nat.blt pc 40) (cond (Nat.beq pc 39) (o_iload 1 40) o_bad) (cond (Nat.beq pc 40) (o_const (3) 41) o_bad))) (cond (Nat.blt pc 44) (cond (Nat.beq pc 41) (o_icmp (fun x y => x = y) 44 54) o_bad) (cond (Nat.blt pc 45) (cond (Nat.beq pc 44) (o_aload 0 45) o_bad) (cond (Nat.beq pc 45) (o_getf 2 2 48) o_bad)))) (cond (Nat.blt pc 51) (cond (Nat.blt pc 49) (cond (Nat.beq pc 48) (o_const (1) 49) o_bad) (cond (Nat.blt pc 50) (cond (Nat.beq pc 49) (o_dup2 50) o_bad) (cond (Nat.beq pc 50) (o_iald 51) o_bad))) (cond (Nat.blt pc 53) (cond (Nat.blt pc 52) (cond (Nat.beq pc 51) (o_iload 3 52) o_bad) (cond (Nat.beq pc 52) (o_bin (fun x y => x ||| y) 53) o_bad)) (cond (Nat.blt pc 54) (cond (Nat.beq pc 53) (o_iast 54) o_bad) (cond (Nat.beq pc 54) (o_aload 0 55) o_bad))))) (cond (Nat.blt pc 65) (cond (Nat.blt pc 62) (cond (Nat.blt pc 58) (cond (Nat.beq pc 55) (o_getf 2 3 58) o_bad) (cond (Nat.blt pc 59) (cond (Nat.beq pc 58) (o_aload 0 59) o_bad) (cond (Nat.beq pc 59) (o_getf 2 4 62) o_bad))) (cond (Nat.blt pc 63) (cond (Nat.beq pc 62) (o_iload 2 63) o_bad) (cond (Nat.blt pc 64) (cond (Nat.beq pc 63) (o_iast 64) o_bad) (cond (Nat.beq pc 64) (o_aload 0 65) o_bad)))) (cond (Nat.blt pc 70) (cond (Nat.blt pc 66) (cond (Nat.beq pc 65) (o_dup 66) o_bad) (cond (Nat.blt pc 69) (cond (Nat.beq pc 66) (o_getf 2 4 69) o_bad) (cond (Nat.beq pc 69) (o_dupx1 70) o_bad))) (cond (Nat.blt pc 72) (cond (Nat.blt pc 71) (cond (Nat.beq pc 70) (o_const (1) 71) o_bad) (cond (Nat.beq pc 71) (o_bin (fun x y => x + y) 72) o_bad)) (cond (Nat.blt pc 75) (cond (Nat.beq pc 72) (o_putf 2 4 75) o_bad) (cond (Nat.beq pc 75) (o_iret) o_bad))))))
set_option maxRecDepth 20000 in
theorem ok_X2_addVisitor : HOKs cX2_addVisitor RX2 4 (some .int) 1 ins_X2_addVisitor := fun _ => hnd (hnd (hnd (hnd (hnd (hlf (ok_aload_n dX2_addVisitor_0 rfl rfl)) (hnd (hlf (ok_getf (C := RX2) (T := TX2) dX2_addVisitor_1 rfl rfl (by decide) rfl inX2 wd_81 rfl)) (hlf (ok_bipush dX2_addVisitor_4 (by decide) rfl)))) (hnd (hlf (ok_icmp_lt dX2_addVisitor_6 (by decide) rfl)) (hnd (hlf (ok_ldc dX2_addVisitor_9 wd_325 rfl)) (hlf (ok_iret dX2_addVisitor_11))))) (hnd (hnd (hlf (ok_iconst dX2_addVisitor_12 (by decide) rfl)) (hnd (hlf (ok_aload_n dX2_addVisitor_13 rfl rfl)) (hlf (ok_getf (C := RX2) (T := TX2) dX2_addVisitor_14 rfl rfl (by decide) rfl inX2 wd_81 rfl)))) (hnd (hnd (hlf (ok_ishl dX2_addVisitor_17 rfl)) (hlf (ok_istore_n dX2_addVisitor_18 rfl (by decide) rfl))) (hnd (hlf (ok_aload_n dX2_addVisitor_19 rfl rfl)) (hlf (ok_getf (C := RX2) (T := TX2) dX2_addVisitor_20 rfl rfl (by decide) rfl inX2 wd_79 rfl)))))) (hnd (hnd (hnd (hlf (ok_iconst dX2_addVisitor_23 (by decide) rfl)) (hnd (hlf (ok_dup2 dX2_addVisitor_24 rfl)) (hlf (ok_iald dX2_addVisitor_25 rfl)))) (hnd (hlf (ok_iload_n dX2_addVisitor_26 rfl rfl)) (hnd (hlf (ok_ior dX2_addVisitor_27 rfl)) (hlf (ok_iast dX2_addVisitor_28 rfl))))) (hnd (hnd (hlf (ok_aload_n dX2_addVisitor_29 rfl rfl)) (hnd (hlf (ok_getf (C := RX2) (T := TX2) dX2_addVisitor_30 rfl rfl (by decide) rfl inX2 wd_79 rfl)) (hlf (ok_iload_n dX2_addVisitor_33 rfl rfl)))) (hnd (hnd (hlf (ok_dup2 dX2_addVisitor_34 rfl)) (hlf (ok_iald dX2_addVisitor_35 rfl))) (hnd (hlf (ok_iload_n dX2_addVisitor_36 rfl rfl)) (hlf (ok_ior dX2_addVisitor_37 rfl))))))) (hnd (hnd (hnd (hnd (hlf (ok_iast dX2_addVisitor_38 rfl)) (hnd (hlf (ok_iload_n dX2_addVisitor_39 rfl rfl)) (hlf (ok_iconst dX2_addVisitor_40 (by decide) rfl)))) (hnd (hlf (ok_icmp_ne dX2_addVisitor_41 (by decide) rfl)) (hnd (hlf (ok_aload_n dX2_addVisitor_44 rfl rfl)) (hlf (ok_getf (C := RX2) (T := TX2) dX2_addVisitor_45 rfl rfl (by decide) rfl inX2 wd_79 rfl))))) (hnd (hnd (hlf (ok_iconst dX2_addVisitor_48 (by decide) rfl)) (hnd (hlf (ok_dup2 dX2_addVisitor_49 rfl)) (hlf (ok_iald dX2_addVisitor_50 rfl)))) (hnd (hnd (hlf (ok_iload_n dX2_addVisitor_51 rfl rfl)) (hlf (ok_ior dX2_addVisitor_52 rfl))) (hnd (hlf (ok_iast dX2_addVisitor_53 rfl)) (hlf (ok_aload_n dX2_addVisitor_54 rfl rfl)))))) (hnd (hnd (hnd (hlf (ok_getf (C := RX2) (T := TX2) dX2_addVisitor_55 rfl rfl (by decide) rfl inX2 wd_80 rfl)) (hnd (hlf (ok_aload_n dX2_addVisitor_58 rfl rfl)) (hlf (ok_getf (C := RX2) (T := TX2) dX2_addVisitor_59 rfl rfl (by decide) rfl inX2 wd_81 rfl)))) (hnd (hlf (ok_iload_n dX2_addVisitor_62 rfl rfl)) (hnd (hlf (ok_iast dX2_addVisitor_63 rfl)) (hlf (ok_aload_n dX2_addVisitor_64 rfl rfl))))) (hnd (hnd (hlf (ok_dup dX2_addVisitor_65 rfl)) (hnd (hlf (ok_getf (C := RX2) (T := TX2) dX2_addVisitor_66 rfl rfl (by decide) rfl inX2 wd_81 rfl)) (hlf (ok_dupx1 dX2_addVisitor_69 rfl)))) (hnd (hnd (hlf (ok_iconst dX2_addVisitor_70 (by decide) rfl)) (hlf (ok_iadd dX2_addVisitor_71 rfl))) (hnd (hlf (ok_putf (C := RX2) (T := TX2) dX2_addVisitor_72 rfl rfl (by decide) rfl inX2 tyX2_ok nmX2 rfl rfl (fun _ _ => rfl) wd_81 rfl)) (hlf (ok_iret dX2_addVisitor_75)))))))

set_option maxRecDepth 100000 in
theorem vc_X2_addVisitor : MVC ins_X2_addVisitor 4 3 sp_X2_addVisitor := by
  refine mvc0 90 fun as w σ q hl hs => ?_
  unfold sp_X2_addVisitor at hs
  split at hs
  rotate_left
  · exact hs.elim
  rename_i k y
  obtain ⟨nv, kn, hn, hsz, hk, rfl, h1, h2⟩ := hs
  have ik : vp_in (nI kn) 4 := vp_in_nI hk (by decide)
  have i0 : vp_in (0 : Int32) 4 := vp_in_nI (n := 0) (N := 4) (by decide) (by decide)
  have i1 : vp_in (1 : Int32) 4 := vp_in_nI (n := 1) (N := 4) (by decide) (by decide)
  apply br2
  · intro h
    have hlt : nv < 14 := by
      have h : σ 2 0 4 < 14 := h
      rw [hsz] at h
      exact (nI_ltI (by omega) (by decide)).mp h
    have h1 := h1 hlt
    have iv : vp_in (σ 2 0 4) 14 := by rw [hsz]; exact vp_in_nI hlt (by decide)
    refine And.intro i0 (And.intro i0 (And.intro ik (And.intro ik ?_)))
    apply br2
    · intro h3
      have e : nI kn = 3 := h3
      dsimp only [avS] at h1
      rw [if_pos e] at h1
      exact And.intro i1 (And.intro i1 (And.intro iv h1))
    · intro h3
      have e : ¬ nI kn = 3 := h3
      dsimp only [avS] at h1
      rw [if_neg e] at h1
      exact And.intro iv h1
  · intro h
    have hlt : ¬ nv < 14 := fun q => h (by show σ 2 0 4 < 14; rw [hsz]; exact (nI_ltI (by omega) (by decide)).mpr q)
    exact h2 hlt
theorem ct_X2_addVisitor : Ctr yX2_addVisitor cX2_addVisitor 4 (some .int) 1 0 0 3 sp_X2_addVisitor := ctr_of (by decide +kernel) rfl (by decide) ok_X2_addVisitor vc_X2_addVisitor

