/-! The reference, 7: sheets, counts -/
def shS (σ : HS) (s i : Nat) : HS := fun k r f => if k = 20 ∧ r = 23 ∧ 60 * s ≤ f ∧ f < 60 * s + i then 0 else σ k r f
theorem shS_0 (σ : HS) (s : Nat) : shS σ s 0 = σ := by
  funext k r f
  exact if_neg (by omega)
theorem shS_s (σ : HS) (s i : Nat) : up3 (shS σ s i) 20 23 (60 * s + i) 0 = shS σ s (i + 1) := by
  funext k r f
  simp only [shS, up3]
  grind
theorem sh_ix {s i : Nat} (hs : s < 2) (hi : i < 60) : (60 : Int32) * nI s + nI i = nI (60 * s + i) ∧ vp_in ((60 : Int32) * nI s + nI i) 120 := by
  have e : (60 : Int32) * nI s + nI i = nI (60 * s + i) := by
    rw [show (60 : Int32) = nI 60 from rfl, pk_mul, nI_add]
  exact ⟨e, by rw [e]; exact vp_in_nI (by omega) (by decide)⟩
def sp_X11_isSheet : HSp := fun as w σ K => match as with
  | [.inl x] => spZ (¬ x < 0 ∧ ¬ 1 < x) w σ K
  | _ => False
theorem dX11_isSheet_0 : decode cX11_isSheet 0 = .ok (.iload_n 0, 1) := by decide +kernel
theorem dX11_isSheet_1 : decode cX11_isSheet 1 = .ok (.iconst 0, 1) := by decide +kernel
theorem dX11_isSheet_2 : decode cX11_isSheet 2 = .ok (.iconst 1, 1) := by decide +kernel
theorem dX11_isSheet_3 : decode cX11_isSheet 3 = .ok (.invokestatic 102, 3) := by decide +kernel
theorem dX11_isSheet_6 : decode cX11_isSheet 6 = .ok (.ireturn, 1) := by decide +kernel
def ins_X11_isSheet (pc : Nat) : HOp := cond (Nat.blt pc 2) (cond (Nat.blt pc 1) (cond (Nat.beq pc 0) (o_iload 0 1) o_bad) (cond (Nat.beq pc 1) (o_const (0) 2) o_bad)) (cond (Nat.blt pc 3) (cond (Nat.beq pc 2) (o_const (1) 3) o_bad) (cond (Nat.blt pc 6) (cond (Nat.beq pc 3) (o_callS 3 sp_X11_isIn 6) o_bad) (cond (Nat.beq pc 6) (o_zret) o_bad)))
set_option maxRecDepth 20000 in
theorem ok_X11_isSheet : HOKs cX11_isSheet RX11 1 (some .boolean) 2 ins_X11_isSheet := fun _ => hnd (hnd (hlf (ok_iload_n dX11_isSheet_0 rfl rfl)) (hlf (ok_iconst dX11_isSheet_1 (by decide) rfl))) (hnd (hlf (ok_iconst dX11_isSheet_2 (by decide) rfl)) (hnd (hlf (ok_callS (y := yX11_isIn) dX11_isSheet_3 ct_X11_isIn (by decide) (by decide) wd_1017 wd_1015 wd_1016 wd_50 (by decide +kernel) rfl)) (hlf (ok_zret dX11_isSheet_6))))

theorem vc_X11_isSheet : MVC ins_X11_isSheet 1 1 sp_X11_isSheet := by
  refine mvc0 40 fun as w σ q hl hs => ?_
  unfold sp_X11_isSheet at hs
  split at hs
  rotate_left
  · exact hs.elim
  rename_i x
  exact br2 (fun h => ⟨Or.inr rfl, hs.1 h⟩) (fun h => ⟨Or.inl rfl, hs.2 h⟩)
theorem ct_X11_isSheet : Ctr yX11_isSheet cX11_isSheet 1 (some .boolean) 2 0 0 1 sp_X11_isSheet := ctr_of (by decide +kernel) rfl (by decide) ok_X11_isSheet vc_X11_isSheet

def sp_X11_isDay : HSp := fun as w σ K => match as with
  | [.inl x] => spZ (¬ x < 0 ∧ ¬ 400 < x) w σ K
  | _ => False
theorem dX11_isDay_0 : decode cX11_isDay 0 = .ok (.iload_n 0, 1) := by decide +kernel
theorem dX11_isDay_1 : decode cX11_isDay 1 = .ok (.iconst 0, 1) := by decide +kernel
theorem dX11_isDay_2 : decode cX11_isDay 2 = .ok (.sipush 400, 3) := by decide +kernel
theorem dX11_isDay_5 : decode cX11_isDay 5 = .ok (.invokestatic 102, 3) := by decide +kernel
theorem dX11_isDay_8 : decode cX11_isDay 8 = .ok (.ireturn, 1) := by decide +kernel
def ins_X11_isDay (pc : Nat) : HOp := cond (Nat.blt pc 2) (cond (Nat.blt pc 1) (cond (Nat.beq pc 0) (o_iload 0 1) o_bad) (cond (Nat.beq pc 1) (o_const (0) 2) o_bad)) (cond (Nat.blt pc 5) (cond (Nat.beq pc 2) (o_const (400) 5) o_bad) (cond (Nat.blt pc 8) (cond (Nat.beq pc 5) (o_callS 3 sp_X11_isIn 8) o_bad) (cond (Nat.beq pc 8) (o_zret) o_bad)))
set_option maxRecDepth 20000 in
theorem ok_X11_isDay : HOKs cX11_isDay RX11 1 (some .boolean) 2 ins_X11_isDay := fun _ => hnd (hnd (hlf (ok_iload_n dX11_isDay_0 rfl rfl)) (hlf (ok_iconst dX11_isDay_1 (by decide) rfl))) (hnd (hlf (ok_sipush dX11_isDay_2 (by decide) rfl)) (hnd (hlf (ok_callS (y := yX11_isIn) dX11_isDay_5 ct_X11_isIn (by decide) (by decide) wd_1017 wd_1015 wd_1016 wd_50 (by decide +kernel) rfl)) (hlf (ok_zret dX11_isDay_8))))

theorem vc_X11_isDay : MVC ins_X11_isDay 1 1 sp_X11_isDay := by
  refine mvc0 40 fun as w σ q hl hs => ?_
  unfold sp_X11_isDay at hs
  split at hs
  rotate_left
  · exact hs.elim
  rename_i x
  exact br2 (fun h => ⟨Or.inr rfl, hs.1 h⟩) (fun h => ⟨Or.inl rfl, hs.2 h⟩)
theorem ct_X11_isDay : Ctr yX11_isDay cX11_isDay 1 (some .boolean) 2 0 0 1 sp_X11_isDay := ctr_of (by decide +kernel) rfl (by decide) ok_X11_isDay vc_X11_isDay

def sp_X11_isVisit : HSp := fun as w σ K => match as with
  | [.inr (.inl (11, some 0)), .inl x] => spZ (¬ x < 0 ∧ ¬ σ 11 0 21 - 1 < x) w σ K
  | _ => False
theorem dX11_isVisit_0 : decode cX11_isVisit 0 = .ok (.iload_n 1, 1) := by decide +kernel
theorem dX11_isVisit_1 : decode cX11_isVisit 1 = .ok (.iconst 0, 1) := by decide +kernel
theorem dX11_isVisit_2 : decode cX11_isVisit 2 = .ok (.aload_n 0, 1) := by decide +kernel
theorem dX11_isVisit_3 : decode cX11_isVisit 3 = .ok (.getfield 118, 3) := by decide +kernel
theorem dX11_isVisit_6 : decode cX11_isVisit 6 = .ok (.iconst 1, 1) := by decide +kernel
theorem dX11_isVisit_7 : decode cX11_isVisit 7 = .ok (.isub, 1) := by decide +kernel
theorem dX11_isVisit_8 : decode cX11_isVisit 8 = .ok (.invokestatic 102, 3) := by decide +kernel
theorem dX11_isVisit_11 : decode cX11_isVisit 11 = .ok (.ireturn, 1) := by decide +kernel
def ins_X11_isVisit (pc : Nat) : HOp := cond (Nat.blt pc 6) (cond (Nat.blt pc 2) (cond (Nat.blt pc 1) (cond (Nat.beq pc 0) (o_iload 1 1) o_bad) (cond (Nat.beq pc 1) (o_const (0) 2) o_bad)) (cond (Nat.blt pc 3) (cond (Nat.beq pc 2) (o_aload 0 3) o_bad) (cond (Nat.beq pc 3) (o_getf 11 21 6) o_bad))) (cond (Nat.blt pc 8) (cond (Nat.blt pc 7) (cond (Nat.beq pc 6) (o_const (1) 7) o_bad) (cond (Nat.beq pc 7) (o_bin (fun x y => x - y) 8) o_bad)) (cond (Nat.blt pc 11) (cond (Nat.beq pc 8) (o_callS 3 sp_X11_isIn 11) o_bad) (cond (Nat.beq pc 11) (o_zret) o_bad)))
set_option maxRecDepth 20000 in
theorem ok_X11_isVisit : HOKs cX11_isVisit RX11 2 (some .boolean) 2 ins_X11_isVisit := fun _ => hnd (hnd (hnd (hlf (ok_iload_n dX11_isVisit_0 rfl rfl)) (hlf (ok_iconst dX11_isVisit_1 (by decide) rfl))) (hnd (hlf (ok_aload_n dX11_isVisit_2 rfl rfl)) (hlf (ok_getf (C := RX11) (T := TX11) dX11_isVisit_3 rfl rfl (by decide) rfl inX11 wd_898 rfl)))) (hnd (hnd (hlf (ok_iconst dX11_isVisit_6 (by decide) rfl)) (hlf (ok_isub dX11_isVisit_7 rfl))) (hnd (hlf (ok_callS (y := yX11_isIn) dX11_isVisit_8 ct_X11_isIn (by decide) (by decide) wd_1017 wd_1015 wd_1016 wd_50 (by decide +kernel) rfl)) (hlf (ok_zret dX11_isVisit_11))))

theorem vc_X11_isVisit : MVC ins_X11_isVisit 2 2 sp_X11_isVisit := by
  refine mvc0 40 fun as w σ q hl hs => ?_
  unfold sp_X11_isVisit at hs
  split at hs
  rotate_left
  · exact hs.elim
  rename_i x
  exact br2 (fun h => ⟨Or.inr rfl, hs.1 h⟩) (fun h => ⟨Or.inl rfl, hs.2 h⟩)
theorem ct_X11_isVisit : Ctr yX11_isVisit cX11_isVisit 2 (some .boolean) 2 0 0 2 sp_X11_isVisit := ctr_of (by decide +kernel) rfl (by decide) ok_X11_isVisit vc_X11_isVisit

def I_X11_sheet (K : HRt) : Nat → Nat → HKp := fun _ N ls st w σ' => ∃ (σ : HS) (s m i : Nat) (v : Int32), s < 2 ∧ m ≤ 60 ∧ i ≤ m ∧ N = m - i ∧ v = nI i ∧ ls = [some (HR 11 0), some (HI (nI s)), some (HI (nI m)), some (HI v)] ∧ st = [] ∧ σ' = shS σ s i ∧ K (some (HI (nI m))) w (shS σ s m)
theorem dX11_sheet_0 : decode cX11_sheet 0 = .ok (.iload_n 1, 1) := by decide +kernel
theorem dX11_sheet_1 : decode cX11_sheet 1 = .ok (.invokestatic 243, 3) := by decide +kernel
theorem dX11_sheet_4 : decode cX11_sheet 4 = .ok (.ifCond .eq 9, 3) := by decide +kernel
theorem dX11_sheet_7 : decode cX11_sheet 7 = .ok (.iload_n 2, 1) := by decide +kernel
theorem dX11_sheet_8 : decode cX11_sheet 8 = .ok (.bipush 60, 2) := by decide +kernel
theorem dX11_sheet_10 : decode cX11_sheet 10 = .ok (.if_icmp .le 6, 3) := by decide +kernel
theorem dX11_sheet_13 : decode cX11_sheet 13 = .ok (.ldc 109, 2) := by decide +kernel
theorem dX11_sheet_15 : decode cX11_sheet 15 = .ok (.ireturn, 1) := by decide +kernel
theorem dX11_sheet_16 : decode cX11_sheet 16 = .ok (.iload_n 2, 1) := by decide +kernel
theorem dX11_sheet_17 : decode cX11_sheet 17 = .ok (.ifCond .ge 6, 3) := by decide +kernel
theorem dX11_sheet_20 : decode cX11_sheet 20 = .ok (.ldc 246, 2) := by decide +kernel
theorem dX11_sheet_22 : decode cX11_sheet 22 = .ok (.ireturn, 1) := by decide +kernel
theorem dX11_sheet_23 : decode cX11_sheet 23 = .ok (.aload_n 0, 1) := by decide +kernel
theorem dX11_sheet_24 : decode cX11_sheet 24 = .ok (.getfield 87, 3) := by decide +kernel
theorem dX11_sheet_27 : decode cX11_sheet 27 = .ok (.iload_n 1, 1) := by decide +kernel
theorem dX11_sheet_28 : decode cX11_sheet 28 = .ok (.iload_n 2, 1) := by decide +kernel
theorem dX11_sheet_29 : decode cX11_sheet 29 = .ok (.iastore, 1) := by decide +kernel
theorem dX11_sheet_30 : decode cX11_sheet 30 = .ok (.iconst 0, 1) := by decide +kernel
theorem dX11_sheet_31 : decode cX11_sheet 31 = .ok (.istore_n 3, 1) := by decide +kernel
theorem dX11_sheet_32 : decode cX11_sheet 32 = .ok (.iload_n 3, 1) := by decide +kernel
theorem dX11_sheet_33 : decode cX11_sheet 33 = .ok (.iload_n 2, 1) := by decide +kernel
theorem dX11_sheet_34 : decode cX11_sheet 34 = .ok (.if_icmp .ge 21, 3) := by decide +kernel
theorem dX11_sheet_37 : decode cX11_sheet 37 = .ok (.aload_n 0, 1) := by decide +kernel
theorem dX11_sheet_38 : decode cX11_sheet 38 = .ok (.getfield 90, 3) := by decide +kernel
theorem dX11_sheet_41 : decode cX11_sheet 41 = .ok (.bipush 60, 2) := by decide +kernel
theorem dX11_sheet_43 : decode cX11_sheet 43 = .ok (.iload_n 1, 1) := by decide +kernel
theorem dX11_sheet_44 : decode cX11_sheet 44 = .ok (.imul, 1) := by decide +kernel
theorem dX11_sheet_45 : decode cX11_sheet 45 = .ok (.iload_n 3, 1) := by decide +kernel
theorem dX11_sheet_46 : decode cX11_sheet 46 = .ok (.iadd, 1) := by decide +kernel
theorem dX11_sheet_47 : decode cX11_sheet 47 = .ok (.iconst 0, 1) := by decide +kernel
theorem dX11_sheet_48 : decode cX11_sheet 48 = .ok (.iastore, 1) := by decide +kernel
theorem dX11_sheet_49 : decode cX11_sheet 49 = .ok (.iinc 3 1, 3) := by decide +kernel
theorem dX11_sheet_52 : decode cX11_sheet 52 = .ok (.goto (-20), 3) := by decide +kernel
theorem dX11_sheet_55 : decode cX11_sheet 55 = .ok (.iload_n 2, 1) := by decide +kernel
theorem dX11_sheet_56 : decode cX11_sheet 56 = .ok (.ireturn, 1) := by decide +kernel
def ins_X11_sheet (pc : Nat) : HOp := cond (Nat.blt pc 30) (cond (Nat.blt pc 16) (cond (Nat.blt pc 8) (cond (Nat.blt pc 4) (cond (Nat.blt pc 1) (cond (Nat.beq pc 0) (o_iload 1 1) o_bad) (cond (Nat.beq pc 1) (o_callS 1 sp_X11_isSheet 4) o_bad)) (cond (Nat.blt pc 7) (cond (Nat.beq pc 4) (o_if (fun x => x = 0) 13 7) o_bad) (cond (Nat.beq pc 7) (o_iload 2 8) o_bad))) (cond (Nat.blt pc 13) (cond (Nat.blt pc 10) (cond (Nat.beq pc 8) (o_const (60) 10) o_bad) (cond (Nat.beq pc 10) (o_icmp (fun x y => x ≤ y) 16 13) o_bad)) (cond (Nat.blt pc 15) (cond (Nat.beq pc 13) (o_const (-1000000001) 15) o_bad) (cond (Nat.beq pc 15) (o_iret) o_bad)))) (cond (Nat.blt pc 23) (cond (Nat.blt pc 20) (cond (Nat.blt pc 17) (cond (Nat.beq pc 16) (o_iload 2 17) o_bad) (cond (Nat.beq pc 17) (o_if (fun x => 0 ≤ x) 23 20) o_bad)) (cond (Nat.blt pc 22) (cond (Nat.beq pc 20) (o_const (-1000000014) 22) o_bad) (cond (Nat.beq pc 22) (o_iret) o_bad))) (cond (Nat.blt pc 27) (cond (Nat.blt pc 24) (cond (Nat.beq pc 23) (o_aload 0 24) o_bad) (cond (Nat.beq pc 24) (o_getf 11 31 27) o_bad)) (cond (Nat.blt pc 28) (cond (Nat.beq pc 27) (o_iload 1 28) o_bad) (cond (Nat.blt pc 29) (cond (Nat.beq pc 28) (o_iload 2 29) o_bad) (cond (Nat.beq pc 29) (o_iast 30) o_bad)))))) (cond (Nat.blt pc 44) (cond (Nat.blt pc 34) (cond (Nat.blt pc 32) (cond (Nat.blt pc 31) (cond (Nat.beq pc 30) (o_const (0) 31) o_bad) (cond (Nat.beq pc 31) (o_istore 3 32) o_bad)) (cond (Nat.blt pc 33) (cond (Nat.beq pc 32) (o_iload 3 33) o_bad) (cond (Nat.beq pc 33) (o_iload 2 34) o_bad))) (cond (Nat.blt pc 38) (cond (Nat.blt pc 37) (cond (Nat.beq pc 34) (o_icmp (fun x y => y ≤ x) 55 37) o_bad) (cond (Nat.beq pc 37) (o_aload 0 38) o_bad)) (cond (Nat.blt pc 41) (cond (Nat.beq pc 38) (o_getf 11 32 41) o_bad) (cond (Nat.blt pc 43) (cond (Nat.beq pc 41) (o_const (60) 43) o_bad) (cond (Nat.beq pc 43) (o_iload 1 44) o_bad))))) (cond (Nat.blt pc 48) (cond (Nat.blt pc 46) (cond (Nat.blt pc 45) (cond (Nat.beq pc 44) (o_bin (fun x y => x * y) 45) o_bad) (cond (Nat.beq pc 45) (o_iload 3 46) o_bad)) (cond (Nat.blt pc 47) (cond (Nat.beq pc 46) (o_bin (fun x y => x + y) 47) o_bad) (cond (Nat.beq pc 47) (o_const (0) 48) o_bad))) (cond (Nat.blt pc 52) (cond (Nat.blt pc 49) (cond (Nat.beq pc 48) (o_iast 49) o_bad) (cond (Nat.beq pc 49) (o_iinc 3 (1) 52) o_bad)) (cond (Nat.blt pc 55) (cond (Nat.beq pc 52) (o_goto 32) o_bad) (cond (Nat.blt pc 56) (cond (Nat.beq pc 55) (o_iload 2 56) o_bad) (cond (Nat.beq pc 56) (o_iret) o_bad))))))
set_option maxRecDepth 20000 in
theorem ok_X11_sheet : HOKs cX11_sheet RX11 4 (some .int) 3 ins_X11_sheet := fun _ => hnd (hnd (hnd (hnd (hnd (hlf (ok_iload_n dX11_sheet_0 rfl rfl)) (hlf (ok_callS (y := yX11_isSheet) dX11_sheet_1 ct_X11_isSheet (by decide) (by decide) wd_1212 wd_1210 wd_1211 wd_50 (by decide +kernel) rfl))) (hnd (hlf (ok_if_eq dX11_sheet_4 (by decide) rfl)) (hlf (ok_iload_n dX11_sheet_7 rfl rfl)))) (hnd (hnd (hlf (ok_bipush dX11_sheet_8 (by decide) rfl)) (hlf (ok_icmp_le dX11_sheet_10 (by decide) rfl))) (hnd (hlf (ok_ldc dX11_sheet_13 wd_1018 rfl)) (hlf (ok_iret dX11_sheet_15))))) (hnd (hnd (hnd (hlf (ok_iload_n dX11_sheet_16 rfl rfl)) (hlf (ok_if_ge dX11_sheet_17 (by decide) rfl))) (hnd (hlf (ok_ldc dX11_sheet_20 wd_1213 rfl)) (hlf (ok_iret dX11_sheet_22)))) (hnd (hnd (hlf (ok_aload_n dX11_sheet_23 rfl rfl)) (hlf (ok_getf (C := RX11) (T := TX11) dX11_sheet_24 rfl rfl (by decide) rfl inX11 wd_908 rfl))) (hnd (hlf (ok_iload_n dX11_sheet_27 rfl rfl)) (hnd (hlf (ok_iload_n dX11_sheet_28 rfl rfl)) (hlf (ok_iast dX11_sheet_29 rfl))))))) (hnd (hnd (hnd (hnd (hlf (ok_iconst dX11_sheet_30 (by decide) rfl)) (hlf (ok_istore_n dX11_sheet_31 rfl (by decide) rfl))) (hnd (hlf (ok_iload_n dX11_sheet_32 rfl rfl)) (hlf (ok_iload_n dX11_sheet_33 rfl rfl)))) (hnd (hnd (hlf (ok_icmp_ge dX11_sheet_34 (by decide) rfl)) (hlf (ok_aload_n dX11_sheet_37 rfl rfl))) (hnd (hlf (ok_getf (C := RX11) (T := TX11) dX11_sheet_38 rfl rfl (by decide) rfl inX11 wd_909 rfl)) (hnd (hlf (ok_bipush dX11_sheet_41 (by decide) rfl)) (hlf (ok_iload_n dX11_sheet_43 rfl rfl)))))) (hnd (hnd (hnd (hlf (ok_imul dX11_sheet_44 rfl)) (hlf (ok_iload_n dX11_sheet_45 rfl rfl))) (hnd (hlf (ok_iadd dX11_sheet_46 rfl)) (hlf (ok_iconst dX11_sheet_47 (by decide) rfl)))) (hnd (hnd (hlf (ok_iast dX11_sheet_48 rfl)) (hlf (ok_iinc dX11_sheet_49 (by decide) (by decide) rfl))) (hnd (hlf (ok_goto dX11_sheet_52 (by decide))) (hnd (hlf (ok_iload_n dX11_sheet_55 rfl rfl)) (hlf (ok_iret dX11_sheet_56)))))))

def hd_X11_sheet : Nat → Bool := fun pc => Nat.beq pc 32
noncomputable def sp_X11_sheet : HSp := fun as w σ K => wp ins_X11_sheet (cutA hd_X11_sheet (I_X11_sheet K)) K 80 0 (loc0 4 as) [] w σ
theorem vc_X11_sheet : MVC ins_X11_sheet 4 3 sp_X11_sheet := by
  intro as w0 σ0 q _ hs
  refine ⟨hd_X11_sheet, I_X11_sheet q, 60, 80, ?_, hs⟩
  clear hs
  rintro N pc ls st w σ' hh ⟨σ, s, m, i, v, hs, hm, hi, rfl, rfl, rfl, rfl, rfl, hq⟩
  obtain rfl := Nat.eq_of_beq_eq_true hh
  apply br2
  · intro h1
    obtain rfl := lp_end rfl hi h1
    exact hq
  · intro h1
    have hlt := lp_go rfl hi h1
    obtain ⟨e, hin⟩ := sh_ix hs (i := i) (by omega)
    refine And.intro hin ?_
    refine ⟨m - (i + 1), by omega, σ, s, m, i + 1, _, hs, hm, hlt, rfl, nI_1 i, rfl, rfl, ?_, hq⟩
    dsimp only
    rw [e, nI_clamp (by omega)]
    exact shS_s σ s i
theorem ct_X11_sheet : Ctr yX11_sheet cX11_sheet 4 (some .int) 3 0 0 3 sp_X11_sheet := ctr_of (by decide +kernel) rfl (by decide) ok_X11_sheet vc_X11_sheet

def cpA (σ : HS) (s a i : Nat) : HS := fun k r f => if k = 20 ∧ r = 25 ∧ f < i then σ 20 23 (60 * s + a + f) else σ k r f
def cpB (σ : HS) (t b i : Nat) : HS := fun k r f => if k = 20 ∧ r = 23 ∧ 60 * t + b ≤ f ∧ f < 60 * t + b + i then σ 20 25 (f - (60 * t + b)) else σ k r f
theorem cpA_0 (σ : HS) (s a : Nat) : cpA σ s a 0 = σ := by
  funext k r f
  exact if_neg (by omega)
theorem cpB_0 (σ : HS) (s a : Nat) : cpB σ s a 0 = σ := by
  funext k r f
  exact if_neg (by omega)
theorem cpA_s (σ : HS) (s a i : Nat) : up3 (cpA σ s a i) 20 25 i (cpA σ s a i 20 23 (60 * s + a + i)) = cpA σ s a (i + 1) := by
  funext k r f
  simp only [cpA, up3]
  grind
theorem cpB_s (σ : HS) (t b i : Nat) : up3 (cpB σ t b i) 20 23 (60 * t + b + i) (cpB σ t b i 20 25 i) = cpB σ t b (i + 1) := by
  funext k r f
  simp only [cpB, up3]
  grind
theorem cp_ix {s a i : Nat} (hs : s < 2) (hi : a + i < 60) : (60 : Int32) * nI s + nI a + nI i = nI (60 * s + a + i) ∧ vp_in ((60 : Int32) * nI s + nI a + nI i) 120 := by
  have e : (60 : Int32) * nI s + nI a + nI i = nI (60 * s + a + i) := by
    rw [show (60 : Int32) = nI 60 from rfl, pk_mul, nI_add, nI_add]
  exact ⟨e, by rw [e]; exact vp_in_nI (by omega) (by decide)⟩
def I_X11_copy (K : HRt) : Nat → Nat → HKp := fun pc N ls st w σ' => ∃ (σ : HS) (s a t b m i : Nat) (v : Int32), s < 2 ∧ t < 2 ∧ a + m ≤ 60 ∧ b + m ≤ 60 ∧ i ≤ m ∧ v = nI i ∧ ls = [some (HR 11 0), some (HI (nI s)), some (HI (nI a)), some (HI (nI t)), some (HI (nI b)), some (HI (nI m)), some (HI v)] ∧ st = [] ∧ ((pc = 93 ∧ N = 1000 + (m - i) ∧ σ' = cpA σ s a i) ∨ (pc = 130 ∧ N = m - i ∧ σ' = cpB (cpA σ s a m) t b i)) ∧ K (some (HI (nI m))) w (cpB (cpA σ s a m) t b m)
theorem dX11_copy_0 : decode cX11_copy 0 = .ok (.iload_n 1, 1) := by decide +kernel
theorem dX11_copy_1 : decode cX11_copy 1 = .ok (.invokestatic 243, 3) := by decide +kernel
theorem dX11_copy_4 : decode cX11_copy 4 = .ok (.ifCond .eq 10, 3) := by decide +kernel
theorem dX11_copy_7 : decode cX11_copy 7 = .ok (.iload_n 3, 1) := by decide +kernel
theorem dX11_copy_8 : decode cX11_copy 8 = .ok (.invokestatic 243, 3) := by decide +kernel
theorem dX11_copy_11 : decode cX11_copy 11 = .ok (.ifCond .ne 6, 3) := by decide +kernel
theorem dX11_copy_14 : decode cX11_copy 14 = .ok (.ldc 109, 2) := by decide +kernel
theorem dX11_copy_16 : decode cX11_copy 16 = .ok (.ireturn, 1) := by decide +kernel
theorem dX11_copy_17 : decode cX11_copy 17 = .ok (.aload_n 0, 1) := by decide +kernel
theorem dX11_copy_18 : decode cX11_copy 18 = .ok (.getfield 87, 3) := by decide +kernel
theorem dX11_copy_21 : decode cX11_copy 21 = .ok (.iload_n 1, 1) := by decide +kernel
theorem dX11_copy_22 : decode cX11_copy 22 = .ok (.iaload, 1) := by decide +kernel
theorem dX11_copy_23 : decode cX11_copy 23 = .ok (.ifCond .lt 12, 3) := by decide +kernel
theorem dX11_copy_26 : decode cX11_copy 26 = .ok (.aload_n 0, 1) := by decide +kernel
theorem dX11_copy_27 : decode cX11_copy 27 = .ok (.getfield 87, 3) := by decide +kernel
theorem dX11_copy_30 : decode cX11_copy 30 = .ok (.iload_n 3, 1) := by decide +kernel
theorem dX11_copy_31 : decode cX11_copy 31 = .ok (.iaload, 1) := by decide +kernel
theorem dX11_copy_32 : decode cX11_copy 32 = .ok (.ifCond .ge 6, 3) := by decide +kernel
theorem dX11_copy_35 : decode cX11_copy 35 = .ok (.ldc 247, 2) := by decide +kernel
theorem dX11_copy_37 : decode cX11_copy 37 = .ok (.ireturn, 1) := by decide +kernel
theorem dX11_copy_38 : decode cX11_copy 38 = .ok (.iload_n 2, 1) := by decide +kernel
theorem dX11_copy_39 : decode cX11_copy 39 = .ok (.ifCond .lt 48, 3) := by decide +kernel
theorem dX11_copy_42 : decode cX11_copy 42 = .ok (.iload 4, 2) := by decide +kernel
theorem dX11_copy_44 : decode cX11_copy 44 = .ok (.ifCond .lt 43, 3) := by decide +kernel
theorem dX11_copy_47 : decode cX11_copy 47 = .ok (.iload 5, 2) := by decide +kernel
theorem dX11_copy_49 : decode cX11_copy 49 = .ok (.ifCond .lt 38, 3) := by decide +kernel
theorem dX11_copy_52 : decode cX11_copy 52 = .ok (.iload_n 2, 1) := by decide +kernel
theorem dX11_copy_53 : decode cX11_copy 53 = .ok (.i2l, 1) := by decide +kernel
theorem dX11_copy_54 : decode cX11_copy 54 = .ok (.iload 5, 2) := by decide +kernel
theorem dX11_copy_56 : decode cX11_copy 56 = .ok (.i2l, 1) := by decide +kernel
theorem dX11_copy_57 : decode cX11_copy 57 = .ok (.ladd, 1) := by decide +kernel
theorem dX11_copy_58 : decode cX11_copy 58 = .ok (.aload_n 0, 1) := by decide +kernel
theorem dX11_copy_59 : decode cX11_copy 59 = .ok (.getfield 87, 3) := by decide +kernel
theorem dX11_copy_62 : decode cX11_copy 62 = .ok (.iload_n 1, 1) := by decide +kernel
theorem dX11_copy_63 : decode cX11_copy 63 = .ok (.iaload, 1) := by decide +kernel
theorem dX11_copy_64 : decode cX11_copy 64 = .ok (.i2l, 1) := by decide +kernel
theorem dX11_copy_65 : decode cX11_copy 65 = .ok (.lcmp, 1) := by decide +kernel
theorem dX11_copy_66 : decode cX11_copy 66 = .ok (.ifCond .gt 21, 3) := by decide +kernel
theorem dX11_copy_69 : decode cX11_copy 69 = .ok (.iload 4, 2) := by decide +kernel
theorem dX11_copy_71 : decode cX11_copy 71 = .ok (.i2l, 1) := by decide +kernel
theorem dX11_copy_72 : decode cX11_copy 72 = .ok (.iload 5, 2) := by decide +kernel
theorem dX11_copy_74 : decode cX11_copy 74 = .ok (.i2l, 1) := by decide +kernel
theorem dX11_copy_75 : decode cX11_copy 75 = .ok (.ladd, 1) := by decide +kernel
theorem dX11_copy_76 : decode cX11_copy 76 = .ok (.aload_n 0, 1) := by decide +kernel
theorem dX11_copy_77 : decode cX11_copy 77 = .ok (.getfield 87, 3) := by decide +kernel
theorem dX11_copy_80 : decode cX11_copy 80 = .ok (.iload_n 3, 1) := by decide +kernel
theorem dX11_copy_81 : decode cX11_copy 81 = .ok (.iaload, 1) := by decide +kernel
theorem dX11_copy_82 : decode cX11_copy 82 = .ok (.i2l, 1) := by decide +kernel
theorem dX11_copy_83 : decode cX11_copy 83 = .ok (.lcmp, 1) := by decide +kernel
theorem dX11_copy_84 : decode cX11_copy 84 = .ok (.ifCond .le 6, 3) := by decide +kernel
theorem dX11_copy_87 : decode cX11_copy 87 = .ok (.ldc 248, 2) := by decide +kernel
theorem dX11_copy_89 : decode cX11_copy 89 = .ok (.ireturn, 1) := by decide +kernel
theorem dX11_copy_90 : decode cX11_copy 90 = .ok (.iconst 0, 1) := by decide +kernel
theorem dX11_copy_91 : decode cX11_copy 91 = .ok (.istore 6, 2) := by decide +kernel
theorem dX11_copy_93 : decode cX11_copy 93 = .ok (.iload 6, 2) := by decide +kernel
theorem dX11_copy_95 : decode cX11_copy 95 = .ok (.iload 5, 2) := by decide +kernel
theorem dX11_copy_97 : decode cX11_copy 97 = .ok (.if_icmp .ge 30, 3) := by decide +kernel
theorem dX11_copy_100 : decode cX11_copy 100 = .ok (.aload_n 0, 1) := by decide +kernel
theorem dX11_copy_101 : decode cX11_copy 101 = .ok (.getfield 96, 3) := by decide +kernel
theorem dX11_copy_104 : decode cX11_copy 104 = .ok (.iload 6, 2) := by decide +kernel
theorem dX11_copy_106 : decode cX11_copy 106 = .ok (.aload_n 0, 1) := by decide +kernel
theorem dX11_copy_107 : decode cX11_copy 107 = .ok (.getfield 90, 3) := by decide +kernel
theorem dX11_copy_110 : decode cX11_copy 110 = .ok (.bipush 60, 2) := by decide +kernel
theorem dX11_copy_112 : decode cX11_copy 112 = .ok (.iload_n 1, 1) := by decide +kernel
theorem dX11_copy_113 : decode cX11_copy 113 = .ok (.imul, 1) := by decide +kernel
theorem dX11_copy_114 : decode cX11_copy 114 = .ok (.iload_n 2, 1) := by decide +kernel
theorem dX11_copy_115 : decode cX11_copy 115 = .ok (.iadd, 1) := by decide +kernel
theorem dX11_copy_116 : decode cX11_copy 116 = .ok (.iload 6, 2) := by decide +kernel
theorem dX11_copy_118 : decode cX11_copy 118 = .ok (.iadd, 1) := by decide +kernel
theorem dX11_copy_119 : decode cX11_copy 119 = .ok (.iaload, 1) := by decide +kernel
theorem dX11_copy_120 : decode cX11_copy 120 = .ok (.iastore, 1) := by decide +kernel
theorem dX11_copy_121 : decode cX11_copy 121 = .ok (.iinc 6 1, 3) := by decide +kernel
theorem dX11_copy_124 : decode cX11_copy 124 = .ok (.goto (-31), 3) := by decide +kernel
theorem dX11_copy_127 : decode cX11_copy 127 = .ok (.iconst 0, 1) := by decide +kernel
theorem dX11_copy_128 : decode cX11_copy 128 = .ok (.istore 6, 2) := by decide +kernel
theorem dX11_copy_130 : decode cX11_copy 130 = .ok (.iload 6, 2) := by decide +kernel
theorem dX11_copy_132 : decode cX11_copy 132 = .ok (.iload 5, 2) := by decide +kernel
theorem dX11_copy_134 : decode cX11_copy 134 = .ok (.if_icmp .ge 31, 3) := by decide +kernel
theorem dX11_copy_137 : decode cX11_copy 137 = .ok (.aload_n 0, 1) := by decide +kernel
theorem dX11_copy_138 : decode cX11_copy 138 = .ok (.getfield 90, 3) := by decide +kernel
theorem dX11_copy_141 : decode cX11_copy 141 = .ok (.bipush 60, 2) := by decide +kernel
theorem dX11_copy_143 : decode cX11_copy 143 = .ok (.iload_n 3, 1) := by decide +kernel
theorem dX11_copy_144 : decode cX11_copy 144 = .ok (.imul, 1) := by decide +kernel
theorem dX11_copy_145 : decode cX11_copy 145 = .ok (.iload 4, 2) := by decide +kernel
theorem dX11_copy_147 : decode cX11_copy 147 = .ok (.iadd, 1) := by decide +kernel
theorem dX11_copy_148 : decode cX11_copy 148 = .ok (.iload 6, 2) := by decide +kernel
theorem dX11_copy_150 : decode cX11_copy 150 = .ok (.iadd, 1) := by decide +kernel
theorem dX11_copy_151 : decode cX11_copy 151 = .ok (.aload_n 0, 1) := by decide +kernel
theorem dX11_copy_152 : decode cX11_copy 152 = .ok (.getfield 96, 3) := by decide +kernel
theorem dX11_copy_155 : decode cX11_copy 155 = .ok (.iload 6, 2) := by decide +kernel
theorem dX11_copy_157 : decode cX11_copy 157 = .ok (.iaload, 1) := by decide +kernel
theorem dX11_copy_158 : decode cX11_copy 158 = .ok (.iastore, 1) := by decide +kernel
theorem dX11_copy_159 : decode cX11_copy 159 = .ok (.iinc 6 1, 3) := by decide +kernel
theorem dX11_copy_162 : decode cX11_copy 162 = .ok (.goto (-32), 3) := by decide +kernel
theorem dX11_copy_165 : decode cX11_copy 165 = .ok (.iload 5, 2) := by decide +kernel
theorem dX11_copy_167 : decode cX11_copy 167 = .ok (.ireturn, 1) := by decide +kernel
def ins_X11_copy (pc : Nat) : HOp := cond (Nat.blt pc 83) (cond (Nat.blt pc 47) (cond (Nat.blt pc 23) (cond (Nat.blt pc 14) (cond (Nat.blt pc 7) (cond (Nat.blt pc 1) (cond (Nat.beq pc 0) (o_iload 1 1) o_bad) (cond (Nat.blt pc 4) (cond (Nat.beq pc 1) (o_callS 1 sp_X11_isSheet 4) o_bad) (cond (Nat.beq pc 4) (o_if (fun x => x = 0) 14 7) o_bad))) (cond (Nat.blt pc 8) (cond (Nat.beq pc 7) (o_iload 3 8) o_bad) (cond (Nat.blt pc 11) (cond (Nat.beq pc 8) (o_callS 1 sp_X11_isSheet 11) o_bad) (cond (Nat.beq pc 11) (o_if (fun x => x = 0) 14 17) o_bad)))) (cond (Nat.blt pc 18) (cond (Nat.blt pc 16) (cond (Nat.beq pc 14) (o_const (-1000000001) 16) o_bad) (cond (Nat.blt pc 17) (cond (Nat.beq pc 16) (o_iret) o_bad) (cond (Nat.beq pc 17) (o_aload 0 18) o_bad))) (cond (Nat.blt pc 21) (cond (Nat.beq pc 18) (o_getf 11 31 21) o_bad) (cond (Nat.blt pc 22) (cond (Nat.beq pc 21) (o_iload 1 22) o_bad) (cond (Nat.beq pc 22) (o_iald 23) o_bad))))) (cond (Nat.blt pc 35) (cond (Nat.blt pc 30) (cond (Nat.blt pc 26) (cond (Nat.beq pc 23) (o_if (fun x => x < 0) 35 26) o_bad) (cond (Nat.blt pc 27) (cond (Nat.beq pc 26) (o_aload 0 27) o_bad) (cond (Nat.beq pc 27) (o_getf 11 31 30) o_bad))) (cond (Nat.blt pc 31) (cond (Nat.beq pc 30) (o_iload 3 31) o_bad) (cond (Nat.blt pc 32) (cond (Nat.beq pc 31) (o_iald 32) o_bad) (cond (Nat.beq pc 32) (o_if (fun x => 0 ≤ x) 38 35) o_bad)))) (cond (Nat.blt pc 39) (cond (Nat.blt pc 37) (cond (Nat.beq pc 35) (o_const (-1000000011) 37) o_bad) (cond (Nat.blt pc 38) (cond (Nat.beq pc 37) (o_iret) o_bad) (cond (Nat.beq pc 38) (o_iload 2 39) o_bad))) (cond (Nat.blt pc 42) (cond (Nat.beq pc 39) (o_if (fun x => x < 0) 87 42) o_bad) (cond (Nat.blt pc 44) (cond (Nat.beq pc 42) (o_iload 4 44) o_bad) (cond (Nat.beq pc 44) (o_if (fun x => x < 0) 87 47) o_bad)))))) (cond (Nat.blt pc 65) (cond (Nat.blt pc 57) (cond (Nat.blt pc 53) (cond (Nat.blt pc 49) (cond (Nat.beq pc 47) (o_iload 5 49) o_bad) (cond (Nat.blt pc 52) (cond (Nat.beq pc 49) (o_if (fun x => x < 0) 87 52) o_bad) (cond (Nat.beq pc 52) (o_iload 2 53) o_bad))) (cond (Nat.blt pc 54) (cond (Nat.beq pc 53) (o_i2l 54) o_bad) (cond (Nat.blt pc 56) (cond (Nat.beq pc 54) (o_iload 5 56) o_bad) (cond (Nat.beq pc 56) (o_i2l 57) o_bad)))) (cond (Nat.blt pc 62) (cond (Nat.blt pc 58) (cond (Nat.beq pc 57) (o_ladd 58) o_bad) (cond (Nat.blt pc 59) (cond (Nat.beq pc 58) (o_aload 0 59) o_bad) (cond (Nat.beq pc 59) (o_getf 11 31 62) o_bad))) (cond (Nat.blt pc 63) (cond (Nat.beq pc 62) (o_iload 1 63) o_bad) (cond (Nat.blt pc 64) (cond (Nat.beq pc 63) (o_iald 64) o_bad) (cond (Nat.beq pc 64) (o_i2l 65) o_bad))))) (cond (Nat.blt pc 75) (cond (Nat.blt pc 71) (cond (Nat.blt pc 66) (cond (Nat.beq pc 65) (o_lcmp 66) o_bad) (cond (Nat.blt pc 69) (cond (Nat.beq pc 66) (o_if (fun x => 0 < x) 87 69) o_bad) (cond (Nat.beq pc 69) (o_iload 4 71) o_bad))) (cond (Nat.blt pc 72) (cond (Nat.beq pc 71) (o_i2l 72) o_bad) (cond (Nat.blt pc 74) (cond (Nat.beq pc 72) (o_iload 5 74) o_bad) (cond (Nat.beq pc 74) (o_i2l 75) o_bad)))) (cond (Nat.blt pc 80) (cond (Nat.blt pc 76) (cond (Nat.beq pc 75) (o_ladd 76) o_bad) (cond (Nat.blt pc 77) (cond (Nat.beq pc 76) (o_aload 0 77) o_bad) (cond (Nat.beq pc 77) (o_getf 11 31 80) o_bad))) (cond (Nat.blt pc 81) (cond (Nat.beq pc 80) (o_iload 3 81) o_bad) (cond (Nat.blt pc 82) (cond (Nat.beq pc 81) (o_iald 82) o_bad) (cond (Nat.beq pc 82) (o_i2l 83) o_bad))))))) (cond (Nat.blt pc 124) (cond (Nat.blt pc 106) (cond (Nat.blt pc 93) (cond (Nat.blt pc 89) (cond (Nat.blt pc 84) (cond (Nat.beq pc 83) (o_lcmp 84) o_bad) (cond (Nat.blt pc 87) (cond (Nat.beq pc 84) (o_if (fun x => x ≤ 0) 90 87) o_bad) (cond (Nat.beq pc 87) (o_const (-1000000013) 89) o_bad))) (cond (Nat.blt pc 90) (cond (Nat.beq pc 89) (o_iret) o_bad) (cond (Nat.blt pc 91) (cond (Nat.beq pc 90) (o_const (0) 91) o_bad) (cond (Nat.beq pc 91) (o_istore 6 93) o_bad)))) (cond (Nat.blt pc 100) (cond (Nat.blt pc 95) (cond (Nat.beq pc 93) (o_iload 6 95) o_bad) (cond (Nat.blt pc 97) (cond (Nat.beq pc 95) (o_iload 5 97) o_bad) (cond (Nat.beq pc 97) (o_icmp (fun x y => y ≤ x) 127 100) o_bad))) (cond (Nat.blt pc 101) (cond (Nat.beq pc 100) (o_aload 0 101) o_bad) (cond (Nat.blt pc 104) (cond (Nat.beq pc 101) (o_getf 11 43 104) o_bad) (cond (Nat.beq pc 104) (o_iload 6 106) o_bad))))) (cond (Nat.blt pc 115) (cond (Nat.blt pc 112) (cond (Nat.blt pc 107) (cond (Nat.beq pc 106) (o_aload 0 107) o_bad) (cond (Nat.blt pc 110) (cond (Nat.beq pc 107) (o_getf 11 32 110) o_bad) (cond (Nat.beq pc 110) (o_const (60) 112) o_bad))) (cond (Nat.blt pc 113) (cond (Nat.beq pc 112) (o_iload 1 113) o_bad) (cond (Nat.blt pc 114) (cond (Nat.beq pc 113) (o_bin (fun x y => x * y) 114) o_bad) (cond (Nat.beq pc 114) (o_iload 2 115) o_bad)))) (cond (Nat.blt pc 119) (cond (Nat.blt pc 116) (cond (Nat.beq pc 115) (o_bin (fun x y => x + y) 116) o_bad) (cond (Nat.blt pc 118) (cond (Nat.beq pc 116) (o_iload 6 118) o_bad) (cond (Nat.beq pc 118) (o_bin (fun x y => x + y) 119) o_bad))) (cond (Nat.blt pc 120) (cond (Nat.beq pc 119) (o_iald 120) o_bad) (cond (Nat.blt pc 121) (cond (Nat.beq pc 120) (o_iast 121) o_bad) (cond (Nat.beq pc 121) (o_iinc 6 (1) 124) o_bad)))))) (cond (Nat.blt pc 147) (cond (Nat.blt pc 137) (cond (Nat.blt pc 130) (cond (Nat.blt pc 127) (cond (Nat.beq pc 124) (o_goto 93) o_bad) (cond (Nat.blt pc 128) (cond (Nat.beq pc 127) (o_const (0) 128) o_bad) (cond (Nat.beq pc 128) (o_istore 6 130) o_bad))) (cond (Nat.blt pc 132) (cond (Nat.beq pc 130) (o_iload 6 132) o_bad) (cond (Nat.blt pc 134) (cond (Nat.beq pc 132) (o_iload 5 134) o_bad) (cond (Nat.beq pc 134) (o_icmp (fun x y => y ≤ x) 165 137) o_bad)))) (cond (Nat.blt pc 143) (cond (Nat.blt pc 138) (cond (Nat.beq pc 137) (o_aload 0 138) o_bad) (cond (Nat.blt pc 141) (cond (Nat.beq pc 138) (o_getf 11 32 141) o_bad) (cond (Nat.beq pc 141) (o_const (60) 143) o_bad))) (cond (Nat.blt pc 144) (cond (Nat.beq pc 143) (o_iload 3 144) o_bad) (cond (Nat.blt pc 145) (cond (Nat.beq pc 144) (o_bin (fun x y => x * y) 145) o_bad) (cond (Nat.beq pc 145) (o_iload 4 147) o_bad))))) (cond (Nat.blt pc 157) (cond (Nat.blt pc 151) (cond (Nat.blt pc 148) (cond (Nat.beq pc 147) (o_bin (fun x y => x + y) 148) o_bad) (cond (Nat.blt pc 150) (cond (Nat.beq pc 148) (o_iload 6 150) o_bad) (cond (Nat.beq pc 150) (o_bin (fun x y => x + y) 151) o_bad))) (cond (Nat.blt pc 152) (cond (Nat.beq pc 151) (o_aload 0 152) o_bad) (cond (Nat.blt pc 155) (cond (Nat.beq pc 152) (o_getf 11 43 155) o_bad) (cond (Nat.beq pc 155) (o_iload 6 157) o_bad)))) (cond (Nat.blt pc 162) (cond (Nat.blt pc 158) (cond (Nat.beq pc 157) (o_iald 158) o_bad) (cond (Nat.blt pc 159) (cond (Nat.beq pc 158) (o_iast 159) o_bad) (cond (Nat.beq pc 159) (o_iinc 6 (1) 162) o_bad))) (cond (Nat.blt pc 165) (cond (Nat.beq pc 162) (o_goto 130) o_bad) (cond (Nat.blt pc 167) (cond (Nat.beq pc 165) (o_iload 5 167) o_bad) (cond (Nat.beq pc 167) (o_iret) o_bad)))))))
set_option maxRecDepth 20000 in
theorem ok_X11_copy : HOKs cX11_copy RX11 7 (some .int) 3 ins_X11_copy := fun _ => hnd (hnd (hnd (hnd (hnd (hnd (hlf (ok_iload_n dX11_copy_0 rfl rfl)) (hnd (hlf (ok_callS (y := yX11_isSheet) dX11_copy_1 ct_X11_isSheet (by decide) (by decide) wd_1212 wd_1210 wd_1211 wd_50 (by decide +kernel) rfl)) (hlf (ok_if_eq dX11_copy_4 (by decide) rfl)))) (hnd (hlf (ok_iload_n dX11_copy_7 rfl rfl)) (hnd (hlf (ok_callS (y := yX11_isSheet) dX11_copy_8 ct_X11_isSheet (by decide) (by decide) wd_1212 wd_1210 wd_1211 wd_50 (by decide +kernel) rfl)) (hlf (ok_if_ne dX11_copy_11 (by decide) rfl))))) (hnd (hnd (hlf (ok_ldc dX11_copy_14 wd_1018 rfl)) (hnd (hlf (ok_iret dX11_copy_16)) (hlf (ok_aload_n dX11_copy_17 rfl rfl)))) (hnd (hlf (ok_getf (C := RX11) (T := TX11) dX11_copy_18 rfl rfl (by decide) rfl inX11 wd_908 rfl)) (hnd (hlf (ok_iload_n dX11_copy_21 rfl rfl)) (hlf (ok_iald dX11_copy_22 rfl)))))) (hnd (hnd (hnd (hlf (ok_if_lt dX11_copy_23 (by decide) rfl)) (hnd (hlf (ok_aload_n dX11_copy_26 rfl rfl)) (hlf (ok_getf (C := RX11) (T := TX11) dX11_copy_27 rfl rfl (by decide) rfl inX11 wd_908 rfl)))) (hnd (hlf (ok_iload_n dX11_copy_30 rfl rfl)) (hnd (hlf (ok_iald dX11_copy_31 rfl)) (hlf (ok_if_ge dX11_copy_32 (by decide) rfl))))) (hnd (hnd (hlf (ok_ldc dX11_copy_35 wd_1218 rfl)) (hnd (hlf (ok_iret dX11_copy_37)) (hlf (ok_iload_n dX11_copy_38 rfl rfl)))) (hnd (hlf (ok_if_lt dX11_copy_39 (by decide) rfl)) (hnd (hlf (ok_iload dX11_copy_42 rfl)) (hlf (ok_if_lt dX11_copy_44 (by decide) rfl))))))) (hnd (hnd (hnd (hnd (hlf (ok_iload dX11_copy_47 rfl)) (hnd (hlf (ok_if_lt dX11_copy_49 (by decide) rfl)) (hlf (ok_iload_n dX11_copy_52 rfl rfl)))) (hnd (hlf (ok_i2l dX11_copy_53 rfl)) (hnd (hlf (ok_iload dX11_copy_54 rfl)) (hlf (ok_i2l dX11_copy_56 rfl))))) (hnd (hnd (hlf (ok_ladd dX11_copy_57 rfl)) (hnd (hlf (ok_aload_n dX11_copy_58 rfl rfl)) (hlf (ok_getf (C := RX11) (T := TX11) dX11_copy_59 rfl rfl (by decide) rfl inX11 wd_908 rfl)))) (hnd (hlf (ok_iload_n dX11_copy_62 rfl rfl)) (hnd (hlf (ok_iald dX11_copy_63 rfl)) (hlf (ok_i2l dX11_copy_64 rfl)))))) (hnd (hnd (hnd (hlf (ok_lcmp dX11_copy_65 rfl)) (hnd (hlf (ok_if_gt dX11_copy_66 (by decide) rfl)) (hlf (ok_iload dX11_copy_69 rfl)))) (hnd (hlf (ok_i2l dX11_copy_71 rfl)) (hnd (hlf (ok_iload dX11_copy_72 rfl)) (hlf (ok_i2l dX11_copy_74 rfl))))) (hnd (hnd (hlf (ok_ladd dX11_copy_75 rfl)) (hnd (hlf (ok_aload_n dX11_copy_76 rfl rfl)) (hlf (ok_getf (C := RX11) (T := TX11) dX11_copy_77 rfl rfl (by decide) rfl inX11 wd_908 rfl)))) (hnd (hlf (ok_iload_n dX11_copy_80 rfl rfl)) (hnd (hlf (ok_iald dX11_copy_81 rfl)) (hlf (ok_i2l dX11_copy_82 rfl)))))))) (hnd (hnd (hnd (hnd (hnd (hlf (ok_lcmp dX11_copy_83 rfl)) (hnd (hlf (ok_if_le dX11_copy_84 (by decide) rfl)) (hlf (ok_ldc dX11_copy_87 wd_1219 rfl)))) (hnd (hlf (ok_iret dX11_copy_89)) (hnd (hlf (ok_iconst dX11_copy_90 (by decide) rfl)) (hlf (ok_istore dX11_copy_91 (by decide) rfl))))) (hnd (hnd (hlf (ok_iload dX11_copy_93 rfl)) (hnd (hlf (ok_iload dX11_copy_95 rfl)) (hlf (ok_icmp_ge dX11_copy_97 (by decide) rfl)))) (hnd (hlf (ok_aload_n dX11_copy_100 rfl rfl)) (hnd (hlf (ok_getf (C := RX11) (T := TX11) dX11_copy_101 rfl rfl (by decide) rfl inX11 wd_920 rfl)) (hlf (ok_iload dX11_copy_104 rfl)))))) (hnd (hnd (hnd (hlf (ok_aload_n dX11_copy_106 rfl rfl)) (hnd (hlf (ok_getf (C := RX11) (T := TX11) dX11_copy_107 rfl rfl (by decide) rfl inX11 wd_909 rfl)) (hlf (ok_bipush dX11_copy_110 (by decide) rfl)))) (hnd (hlf (ok_iload_n dX11_copy_112 rfl rfl)) (hnd (hlf (ok_imul dX11_copy_113 rfl)) (hlf (ok_iload_n dX11_copy_114 rfl rfl))))) (hnd (hnd (hlf (ok_iadd dX11_copy_115 rfl)) (hnd (hlf (ok_iload dX11_copy_116 rfl)) (hlf (ok_iadd dX11_copy_118 rfl)))) (hnd (hlf (ok_iald dX11_copy_119 rfl)) (hnd (hlf (ok_iast dX11_copy_120 rfl)) (hlf (ok_iinc dX11_copy_121 (by decide) (by decide) rfl))))))) (hnd (hnd (hnd (hnd (hlf (ok_goto dX11_copy_124 (by decide))) (hnd (hlf (ok_iconst dX11_copy_127 (by decide) rfl)) (hlf (ok_istore dX11_copy_128 (by decide) rfl)))) (hnd (hlf (ok_iload dX11_copy_130 rfl)) (hnd (hlf (ok_iload dX11_copy_132 rfl)) (hlf (ok_icmp_ge dX11_copy_134 (by decide) rfl))))) (hnd (hnd (hlf (ok_aload_n dX11_copy_137 rfl rfl)) (hnd (hlf (ok_getf (C := RX11) (T := TX11) dX11_copy_138 rfl rfl (by decide) rfl inX11 wd_909 rfl)) (hlf (ok_bipush dX11_copy_141 (by decide) rfl)))) (hnd (hlf (ok_iload_n dX11_copy_143 rfl rfl)) (hnd (hlf (ok_imul dX11_copy_144 rfl)) (hlf (ok_iload dX11_copy_145 rfl)))))) (hnd (hnd (hnd (hlf (ok_iadd dX11_copy_147 rfl)) (hnd (hlf (ok_iload dX11_copy_148 rfl)) (hlf (ok_iadd dX11_copy_150 rfl)))) (hnd (hlf (ok_aload_n dX11_copy_151 rfl rfl)) (hnd (hlf (ok_getf (C := RX11) (T := TX11) dX11_copy_152 rfl rfl (by decide) rfl inX11 wd_920 rfl)) (hlf (ok_iload dX11_copy_155 rfl))))) (hnd (hnd (hlf (ok_iald dX11_copy_157 rfl)) (hnd (hlf (ok_iast dX11_copy_158 rfl)) (hlf (ok_iinc dX11_copy_159 (by decide) (by decide) rfl)))) (hnd (hlf (ok_goto dX11_copy_162 (by decide))) (hnd (hlf (ok_iload dX11_copy_165 rfl)) (hlf (ok_iret dX11_copy_167))))))))

def hd_X11_copy : Nat → Bool := fun pc => Nat.beq pc 93 || Nat.beq pc 130
noncomputable def sp_X11_copy : HSp := fun as w σ K => wp ins_X11_copy (cutA hd_X11_copy (I_X11_copy K)) K 140 0 (loc0 7 as) [] w σ
theorem vc_X11_copy : MVC ins_X11_copy 7 6 sp_X11_copy := by
  intro as w0 σ0 q _ hs
  refine ⟨hd_X11_copy, I_X11_copy q, 60, 140, ?_, hs⟩
  clear hs
  rintro N pc ls st w σ' hh ⟨σ, s, a, t, b, m, i, v, hs, ht, ha, hb, hi, rfl, rfl, rfl, (⟨rfl, rfl, rfl⟩ | ⟨rfl, rfl, rfl⟩), hq⟩
  · apply br2
    · intro h1
      obtain rfl := lp_end rfl hi h1
      exact ⟨i - 0, by omega, σ, s, a, t, b, i, 0, _, hs, ht, ha, hb, Nat.zero_le _, rfl, rfl, rfl, Or.inr ⟨rfl, rfl, (cpB_0 _ _ _).symm⟩, hq⟩
    · intro h1
      have hlt := lp_go rfl hi h1
      obtain ⟨e, hin⟩ := cp_ix hs (a := a) (i := i) (by omega)
      have e1 : (nI i).toNatClampNeg = i := nI_clamp (by omega)
      refine And.intro hin (And.intro (vp_in_nI (N := 60) (by omega) (by decide)) ?_)
      refine ⟨1000 + (m - (i + 1)), by omega, σ, s, a, t, b, m, i + 1, _, hs, ht, ha, hb, hlt, nI_1 i, rfl, rfl, Or.inl ⟨rfl, rfl, ?_⟩, hq⟩
      dsimp only
      rw [e, nI_clamp (n := 60 * s + a + i) (by omega), e1]
      exact cpA_s σ s a i
  · apply br2
    · intro h1
      obtain rfl := lp_end rfl hi h1
      exact hq
    · intro h1
      have hlt := lp_go rfl hi h1
      obtain ⟨e, hin⟩ := cp_ix ht (a := b) (i := i) (by omega)
      have e1 : (nI i).toNatClampNeg = i := nI_clamp (by omega)
      refine And.intro (vp_in_nI (N := 60) (by omega) (by decide)) (And.intro hin ?_)
      refine ⟨m - (i + 1), by omega, σ, s, a, t, b, m, i + 1, _, hs, ht, ha, hb, hlt, nI_1 i, rfl, rfl, Or.inr ⟨rfl, rfl, ?_⟩, hq⟩
      dsimp only
      rw [e, nI_clamp (n := 60 * t + b + i) (by omega), e1]
      exact cpB_s _ t b i
theorem ct_X11_copy : Ctr yX11_copy cX11_copy 7 (some .int) 3 0 0 6 sp_X11_copy := ctr_of (by decide +kernel) rfl (by decide) ok_X11_copy vc_X11_copy

def isum (f : Nat → Int32) : Nat → Int32
  | 0 => 0
  | n + 1 => isum f n + f n
def I_X11_count (K : HRt) : Nat → Nat → HKp := fun pc N ls st w σ => ∃ (n i : Nat) (x u v : Int32), i ≤ n ∧ N = n - i ∧ v = nI i ∧ ls = [some (HR 11 0), some (HI x), some (HI u), some (HI v)] ∧ st = [] ∧
  ((pc = 54 ∧ n ≤ 10 ∧ σ 11 0 1 = nI n ∧ u = isum (fun j => σ 20 2 j) i ∧ K (some (HI (isum (fun j => σ 20 2 j) n))) w σ) ∨
   (pc = 91 ∧ Nn σ n ∧ u = nI (cnt (fun j => decide (σ 20 21 j = x - 3)) i) ∧ K (some (HI (nI (cnt (fun j => decide (σ 20 21 j = x - 3)) n)))) w σ) ∨
   (pc = 129 ∧ n = 140 ∧ u = nI (cnt (fun j => decide (¬ σ 20 4 j < 0)) i) ∧ K (some (HI (nI (cnt (fun j => decide (¬ σ 20 4 j < 0)) 140)))) w σ) ∨
   (pc = 173 ∧ n = 10 ∧ u = isum (fun j => bsum (σ 20 8 j) 31) i ∧ K (some (HI (isum (fun j => bsum (σ 20 8 j) 31) 10 / 2))) w σ))
theorem dX11_count_0 : decode cX11_count 0 = .ok (.iconst 0, 1) := by decide +kernel
theorem dX11_count_1 : decode cX11_count 1 = .ok (.istore_n 2, 1) := by decide +kernel
theorem dX11_count_2 : decode cX11_count 2 = .ok (.iload_n 1, 1) := by decide +kernel
theorem dX11_count_3 : decode cX11_count 3 = .ok (.tableswitch 198 0 8 #[49, 76, 81, 86, 86, 124, 158, 163, 168], 49) := by decide +kernel
theorem dX11_count_52 : decode cX11_count 52 = .ok (.iconst 0, 1) := by decide +kernel
theorem dX11_count_53 : decode cX11_count 53 = .ok (.istore_n 3, 1) := by decide +kernel
theorem dX11_count_54 : decode cX11_count 54 = .ok (.iload_n 3, 1) := by decide +kernel
theorem dX11_count_55 : decode cX11_count 55 = .ok (.aload_n 0, 1) := by decide +kernel
theorem dX11_count_56 : decode cX11_count 56 = .ok (.getfield 99, 3) := by decide +kernel
theorem dX11_count_59 : decode cX11_count 59 = .ok (.if_icmp .ge 18, 3) := by decide +kernel
theorem dX11_count_62 : decode cX11_count 62 = .ok (.iload_n 2, 1) := by decide +kernel
theorem dX11_count_63 : decode cX11_count 63 = .ok (.aload_n 0, 1) := by decide +kernel
theorem dX11_count_64 : decode cX11_count 64 = .ok (.getfield 16, 3) := by decide +kernel
theorem dX11_count_67 : decode cX11_count 67 = .ok (.iload_n 3, 1) := by decide +kernel
theorem dX11_count_68 : decode cX11_count 68 = .ok (.iaload, 1) := by decide +kernel
theorem dX11_count_69 : decode cX11_count 69 = .ok (.iadd, 1) := by decide +kernel
theorem dX11_count_70 : decode cX11_count 70 = .ok (.istore_n 2, 1) := by decide +kernel
theorem dX11_count_71 : decode cX11_count 71 = .ok (.iinc 3 1, 3) := by decide +kernel
theorem dX11_count_74 : decode cX11_count 74 = .ok (.goto (-20), 3) := by decide +kernel
theorem dX11_count_77 : decode cX11_count 77 = .ok (.iload_n 2, 1) := by decide +kernel
theorem dX11_count_78 : decode cX11_count 78 = .ok (.ireturn, 1) := by decide +kernel
theorem dX11_count_79 : decode cX11_count 79 = .ok (.aload_n 0, 1) := by decide +kernel
theorem dX11_count_80 : decode cX11_count 80 = .ok (.getfield 106, 3) := by decide +kernel
theorem dX11_count_83 : decode cX11_count 83 = .ok (.ireturn, 1) := by decide +kernel
theorem dX11_count_84 : decode cX11_count 84 = .ok (.aload_n 0, 1) := by decide +kernel
theorem dX11_count_85 : decode cX11_count 85 = .ok (.getfield 118, 3) := by decide +kernel
theorem dX11_count_88 : decode cX11_count 88 = .ok (.ireturn, 1) := by decide +kernel
theorem dX11_count_89 : decode cX11_count 89 = .ok (.iconst 0, 1) := by decide +kernel
theorem dX11_count_90 : decode cX11_count 90 = .ok (.istore_n 3, 1) := by decide +kernel
theorem dX11_count_91 : decode cX11_count 91 = .ok (.iload_n 3, 1) := by decide +kernel
theorem dX11_count_92 : decode cX11_count 92 = .ok (.aload_n 0, 1) := by decide +kernel
theorem dX11_count_93 : decode cX11_count 93 = .ok (.getfield 118, 3) := by decide +kernel
theorem dX11_count_96 : decode cX11_count 96 = .ok (.if_icmp .ge 29, 3) := by decide +kernel
theorem dX11_count_99 : decode cX11_count 99 = .ok (.iload_n 2, 1) := by decide +kernel
theorem dX11_count_100 : decode cX11_count 100 = .ok (.aload_n 0, 1) := by decide +kernel
theorem dX11_count_101 : decode cX11_count 101 = .ok (.getfield 77, 3) := by decide +kernel
theorem dX11_count_104 : decode cX11_count 104 = .ok (.iload_n 3, 1) := by decide +kernel
theorem dX11_count_105 : decode cX11_count 105 = .ok (.iaload, 1) := by decide +kernel
theorem dX11_count_106 : decode cX11_count 106 = .ok (.iload_n 1, 1) := by decide +kernel
theorem dX11_count_107 : decode cX11_count 107 = .ok (.iconst 3, 1) := by decide +kernel
theorem dX11_count_108 : decode cX11_count 108 = .ok (.isub, 1) := by decide +kernel
theorem dX11_count_109 : decode cX11_count 109 = .ok (.if_icmp .ne 7, 3) := by decide +kernel
theorem dX11_count_112 : decode cX11_count 112 = .ok (.iconst 1, 1) := by decide +kernel
theorem dX11_count_113 : decode cX11_count 113 = .ok (.goto 4, 3) := by decide +kernel
theorem dX11_count_116 : decode cX11_count 116 = .ok (.iconst 0, 1) := by decide +kernel
theorem dX11_count_117 : decode cX11_count 117 = .ok (.iadd, 1) := by decide +kernel
theorem dX11_count_118 : decode cX11_count 118 = .ok (.istore_n 2, 1) := by decide +kernel
theorem dX11_count_119 : decode cX11_count 119 = .ok (.iinc 3 1, 3) := by decide +kernel
theorem dX11_count_122 : decode cX11_count 122 = .ok (.goto (-31), 3) := by decide +kernel
theorem dX11_count_125 : decode cX11_count 125 = .ok (.iload_n 2, 1) := by decide +kernel
theorem dX11_count_126 : decode cX11_count 126 = .ok (.ireturn, 1) := by decide +kernel
theorem dX11_count_127 : decode cX11_count 127 = .ok (.iconst 0, 1) := by decide +kernel
theorem dX11_count_128 : decode cX11_count 128 = .ok (.istore_n 3, 1) := by decide +kernel
theorem dX11_count_129 : decode cX11_count 129 = .ok (.iload_n 3, 1) := by decide +kernel
theorem dX11_count_130 : decode cX11_count 130 = .ok (.sipush 140, 3) := by decide +kernel
theorem dX11_count_133 : decode cX11_count 133 = .ok (.if_icmp .ge 26, 3) := by decide +kernel
theorem dX11_count_136 : decode cX11_count 136 = .ok (.iload_n 2, 1) := by decide +kernel
theorem dX11_count_137 : decode cX11_count 137 = .ok (.aload_n 0, 1) := by decide +kernel
theorem dX11_count_138 : decode cX11_count 138 = .ok (.getfield 22, 3) := by decide +kernel
theorem dX11_count_141 : decode cX11_count 141 = .ok (.iload_n 3, 1) := by decide +kernel
theorem dX11_count_142 : decode cX11_count 142 = .ok (.iaload, 1) := by decide +kernel
theorem dX11_count_143 : decode cX11_count 143 = .ok (.ifCond .lt 7, 3) := by decide +kernel
theorem dX11_count_146 : decode cX11_count 146 = .ok (.iconst 1, 1) := by decide +kernel
theorem dX11_count_147 : decode cX11_count 147 = .ok (.goto 4, 3) := by decide +kernel
theorem dX11_count_150 : decode cX11_count 150 = .ok (.iconst 0, 1) := by decide +kernel
theorem dX11_count_151 : decode cX11_count 151 = .ok (.iadd, 1) := by decide +kernel
theorem dX11_count_152 : decode cX11_count 152 = .ok (.istore_n 2, 1) := by decide +kernel
theorem dX11_count_153 : decode cX11_count 153 = .ok (.iinc 3 1, 3) := by decide +kernel
theorem dX11_count_156 : decode cX11_count 156 = .ok (.goto (-27), 3) := by decide +kernel
theorem dX11_count_159 : decode cX11_count 159 = .ok (.iload_n 2, 1) := by decide +kernel
theorem dX11_count_160 : decode cX11_count 160 = .ok (.ireturn, 1) := by decide +kernel
theorem dX11_count_161 : decode cX11_count 161 = .ok (.aload_n 0, 1) := by decide +kernel
theorem dX11_count_162 : decode cX11_count 162 = .ok (.getfield 125, 3) := by decide +kernel
theorem dX11_count_165 : decode cX11_count 165 = .ok (.ireturn, 1) := by decide +kernel
theorem dX11_count_166 : decode cX11_count 166 = .ok (.aload_n 0, 1) := by decide +kernel
theorem dX11_count_167 : decode cX11_count 167 = .ok (.getfield 133, 3) := by decide +kernel
theorem dX11_count_170 : decode cX11_count 170 = .ok (.ireturn, 1) := by decide +kernel
theorem dX11_count_171 : decode cX11_count 171 = .ok (.iconst 0, 1) := by decide +kernel
theorem dX11_count_172 : decode cX11_count 172 = .ok (.istore_n 3, 1) := by decide +kernel
theorem dX11_count_173 : decode cX11_count 173 = .ok (.iload_n 3, 1) := by decide +kernel
theorem dX11_count_174 : decode cX11_count 174 = .ok (.bipush 10, 2) := by decide +kernel
theorem dX11_count_176 : decode cX11_count 176 = .ok (.if_icmp .ge 21, 3) := by decide +kernel
theorem dX11_count_179 : decode cX11_count 179 = .ok (.iload_n 2, 1) := by decide +kernel
theorem dX11_count_180 : decode cX11_count 180 = .ok (.aload_n 0, 1) := by decide +kernel
theorem dX11_count_181 : decode cX11_count 181 = .ok (.getfield 34, 3) := by decide +kernel
theorem dX11_count_184 : decode cX11_count 184 = .ok (.iload_n 3, 1) := by decide +kernel
theorem dX11_count_185 : decode cX11_count 185 = .ok (.iaload, 1) := by decide +kernel
theorem dX11_count_186 : decode cX11_count 186 = .ok (.invokestatic 225, 3) := by decide +kernel
theorem dX11_count_189 : decode cX11_count 189 = .ok (.iadd, 1) := by decide +kernel
theorem dX11_count_190 : decode cX11_count 190 = .ok (.istore_n 2, 1) := by decide +kernel
theorem dX11_count_191 : decode cX11_count 191 = .ok (.iinc 3 1, 3) := by decide +kernel
theorem dX11_count_194 : decode cX11_count 194 = .ok (.goto (-21), 3) := by decide +kernel
theorem dX11_count_197 : decode cX11_count 197 = .ok (.iload_n 2, 1) := by decide +kernel
theorem dX11_count_198 : decode cX11_count 198 = .ok (.iconst 2, 1) := by decide +kernel
theorem dX11_count_199 : decode cX11_count 199 = .ok (.idiv, 1) := by decide +kernel
theorem dX11_count_200 : decode cX11_count 200 = .ok (.ireturn, 1) := by decide +kernel
theorem dX11_count_201 : decode cX11_count 201 = .ok (.ldc 109, 2) := by decide +kernel
theorem dX11_count_203 : decode cX11_count 203 = .ok (.ireturn, 1) := by decide +kernel
def ins_X11_count (pc : Nat) : HOp := cond (Nat.blt pc 125) (cond (Nat.blt pc 84) (cond (Nat.blt pc 64) (cond (Nat.blt pc 54) (cond (Nat.blt pc 3) (cond (Nat.blt pc 1) (cond (Nat.beq pc 0) (o_const (0) 1) o_bad) (cond (Nat.blt pc 2) (cond (Nat.beq pc 1) (o_istore 2 2) o_bad) (cond (Nat.beq pc 2) (o_iload 1 3) o_bad))) (cond (Nat.blt pc 52) (cond (Nat.beq pc 3) (o_sw [(0, 52), (1, 79), (2, 84), (3, 89), (4, 89), (5, 127), (6, 161), (7, 166), (8, 171)] 201) o_bad) (cond (Nat.blt pc 53) (cond (Nat.beq pc 52) (o_const (0) 53) o_bad) (cond (Nat.beq pc 53) (o_istore 3 54) o_bad)))) (cond (Nat.blt pc 59) (cond (Nat.blt pc 55) (cond (Nat.beq pc 54) (o_iload 3 55) o_bad) (cond (Nat.blt pc 56) (cond (Nat.beq pc 55) (o_aload 0 56) o_bad) (cond (Nat.beq pc 56) (o_getf 11 1 59) o_bad))) (cond (Nat.blt pc 62) (cond (Nat.beq pc 59) (o_icmp (fun x y => y ≤ x) 77 62) o_bad) (cond (Nat.blt pc 63) (cond (Nat.beq pc 62) (o_iload 2 63) o_bad) (cond (Nat.beq pc 63) (o_aload 0 64) o_bad))))) (cond (Nat.blt pc 74) (cond (Nat.blt pc 69) (cond (Nat.blt pc 67) (cond (Nat.beq pc 64) (o_getf 11 4 67) o_bad) (cond (Nat.blt pc 68) (cond (Nat.beq pc 67) (o_iload 3 68) o_bad) (cond (Nat.beq pc 68) (o_iald 69) o_bad))) (cond (Nat.blt pc 70) (cond (Nat.beq pc 69) (o_bin (fun x y => x + y) 70) o_bad) (cond (Nat.blt pc 71) (cond (Nat.beq pc 70) (o_istore 2 71) o_bad) (cond (Nat.beq pc 71) (o_iinc 3 (1) 74) o_bad)))) (cond (Nat.blt pc 79) (cond (Nat.blt pc 77) (cond (Nat.beq pc 74) (o_goto 54) o_bad) (cond (Nat.blt pc 78) (cond (Nat.beq pc 77) (o_iload 2 78) o_bad) (cond (Nat.beq pc 78) (o_iret) o_bad))) (cond (Nat.blt pc 80) (cond (Nat.beq pc 79) (o_aload 0 80) o_bad) (cond (Nat.blt pc 83) (cond (Nat.beq pc 80) (o_getf 11 7 83) o_bad) (cond (Nat.beq pc 83) (o_iret) o_bad)))))) (cond (Nat.blt pc 104) (cond (Nat.blt pc 92) (cond (Nat.blt pc 89) (cond (Nat.blt pc 85) (cond (Nat.beq pc 84) (o_aload 0 85) o_bad) (cond (Nat.blt pc 88) (cond (Nat.beq pc 85) (o_getf 11 21 88) o_bad) (cond (Nat.beq pc 88) (o_iret) o_bad))) (cond (Nat.blt pc 90) (cond (Nat.beq pc 89) (o_const (0) 90) o_bad) (cond (Nat.blt pc 91) (cond (Nat.beq pc 90) (o_istore 3 91) o_bad) (cond (Nat.beq pc 91) (o_iload 3 92) o_bad)))) (cond (Nat.blt pc 99) (cond (Nat.blt pc 93) (cond (Nat.beq pc 92) (o_aload 0 93) o_bad) (cond (Nat.blt pc 96) (cond (Nat.beq pc 93) (o_getf 11 21 96) o_bad) (cond (Nat.beq pc 96) (o_icmp (fun x y => y ≤ x) 125 99) o_bad))) (cond (Nat.blt pc 100) (cond (Nat.beq pc 99) (o_iload 2 100) o_bad) (cond (Nat.blt pc 101) (cond (Nat.beq pc 100) (o_aload 0 101) o_bad) (cond (Nat.beq pc 101) (o_getf 11 27 104) o_bad))))) (cond (Nat.blt pc 112) (cond (Nat.blt pc 107) (cond (Nat.blt pc 105) (cond (Nat.beq pc 104) (o_iload 3 105) o_bad) (cond (Nat.blt pc 106) (cond (Nat.beq pc 105) (o_iald 106) o_bad) (cond (Nat.beq pc 106) (o_iload 1 107) o_bad))) (cond (Nat.blt pc 108) (cond (Nat.beq pc 107) (o_const (3) 108) o_bad) (cond (Nat.blt pc 109) (cond (Nat.beq pc 108) (o_bin (fun x y => x - y) 109) o_bad) (cond (Nat.beq pc 109) (o_icmp (fun x y => x = y) 112 116) o_bad)))) (cond (Nat.blt pc 117) (cond (Nat.blt pc 113) (cond (Nat.beq pc 112) (o_const (1) 113) o_bad) (cond (Nat.blt pc 116) (cond (Nat.beq pc 113) (o_goto 117) o_bad) (cond (Nat.beq pc 116) (o_const (0) 117) o_bad))) (cond (Nat.blt pc 119) (cond (Nat.blt pc 118) (cond (Nat.beq pc 117) (o_bin (fun x y => x + y) 118) o_bad) (cond (Nat.beq pc 118) (o_istore 2 119) o_bad)) (cond (Nat.blt pc 122) (cond (Nat.beq pc 119) (o_iinc 3 (1) 122) o_bad) (cond (Nat.beq pc 122) (o_goto 91) o_bad))))))) (cond (Nat.blt pc 165) (cond (Nat.blt pc 143) (cond (Nat.blt pc 133) (cond (Nat.blt pc 128) (cond (Nat.blt pc 126) (cond (Nat.beq pc 125) (o_iload 2 126) o_bad) (cond (Nat.blt pc 127) (cond (Nat.beq pc 126) (o_iret) o_bad) (cond (Nat.beq pc 127) (o_const (0) 128) o_bad))) (cond (Nat.blt pc 129) (cond (Nat.beq pc 128) (o_istore 3 129) o_bad) (cond (Nat.blt pc 130) (cond (Nat.beq pc 129) (o_iload 3 130) o_bad) (cond (Nat.beq pc 130) (o_const (140) 133) o_bad)))) (cond (Nat.blt pc 138) (cond (Nat.blt pc 136) (cond (Nat.beq pc 133) (o_icmp (fun x y => y ≤ x) 159 136) o_bad) (cond (Nat.blt pc 137) (cond (Nat.beq pc 136) (o_iload 2 137) o_bad) (cond (Nat.beq pc 137) (o_aload 0 138) o_bad))) (cond (Nat.blt pc 141) (cond (Nat.beq pc 138) (o_getf 11 6 141) o_bad) (cond (Nat.blt pc 142) (cond (Nat.beq pc 141) (o_iload 3 142) o_bad) (cond (Nat.beq pc 142) (o_iald 143) o_bad))))) (cond (Nat.blt pc 153) (cond (Nat.blt pc 150) (cond (Nat.blt pc 146) (cond (Nat.beq pc 143) (o_if (fun x => x < 0) 150 146) o_bad) (cond (Nat.blt pc 147) (cond (Nat.beq pc 146) (o_const (1) 147) o_bad) (cond (Nat.beq pc 147) (o_goto 151) o_bad))) (cond (Nat.blt pc 151) (cond (Nat.beq pc 150) (o_const (0) 151) o_bad) (cond (Nat.blt pc 152) (cond (Nat.beq pc 151) (o_bin (fun x y => x + y) 152) o_bad) (cond (Nat.beq pc 152) (o_istore 2 153) o_bad)))) (cond (Nat.blt pc 160) (cond (Nat.blt pc 156) (cond (Nat.beq pc 153) (o_iinc 3 (1) 156) o_bad) (cond (Nat.blt pc 159) (cond (Nat.beq pc 156) (o_goto 129) o_bad) (cond (Nat.beq pc 159) (o_iload 2 160) o_bad))) (cond (Nat.blt pc 161) (cond (Nat.beq pc 160) (o_iret) o_bad) (cond (Nat.blt pc 162) (cond (Nat.beq pc 161) (o_aload 0 162) o_bad) (cond (Nat.beq pc 162) (o_getf 11 0 165) o_bad)))))) (cond (Nat.blt pc 184) (cond (Nat.blt pc 173) (cond (Nat.blt pc 170) (cond (Nat.blt pc 166) (cond (Nat.beq pc 165) (o_iret) o_bad) (cond (Nat.blt pc 167) (cond (Nat.beq pc 166) (o_aload 0 167) o_bad) (cond (Nat.beq pc 167) (o_getf 11 20 170) o_bad))) (cond (Nat.blt pc 171) (cond (Nat.beq pc 170) (o_iret) o_bad) (cond (Nat.blt pc 172) (cond (Nat.beq pc 171) (o_const (0) 172) o_bad) (cond (Nat.beq pc 172) (o_istore 3 173) o_bad)))) (cond (Nat.blt pc 179) (cond (Nat.blt pc 174) (cond (Nat.beq pc 173) (o_iload 3 174) o_bad) (cond (Nat.blt pc 176) (cond (Nat.beq pc 174) (o_const (10) 176) o_bad) (cond (Nat.beq pc 176) (o_icmp (fun x y => y ≤ x) 197 179) o_bad))) (cond (Nat.blt pc 180) (cond (Nat.beq pc 179) (o_iload 2 180) o_bad) (cond (Nat.blt pc 181) (cond (Nat.beq pc 180) (o_aload 0 181) o_bad) (cond (Nat.beq pc 181) (o_getf 11 11 184) o_bad))))) (cond (Nat.blt pc 194) (cond (Nat.blt pc 189) (cond (Nat.blt pc 185) (cond (Nat.beq pc 184) (o_iload 3 185) o_bad) (cond (Nat.blt pc 186) (cond (Nat.beq pc 185) (o_iald 186) o_bad) (cond (Nat.beq pc 186) (o_callS 1 sp_X11_bits 189) o_bad))) (cond (Nat.blt pc 190) (cond (Nat.beq pc 189) (o_bin (fun x y => x + y) 190) o_bad) (cond (Nat.blt pc 191) (cond (Nat.beq pc 190) (o_istore 2 191) o_bad) (cond (Nat.beq pc 191) (o_iinc 3 (1) 194) o_bad)))) (cond (Nat.blt pc 199) (cond (Nat.blt pc 197) (cond (Nat.beq pc 194) (o_goto 173) o_bad) (cond (Nat.blt pc 198) (cond (Nat.beq pc 197) (o_iload 2 198) o_bad) (cond (Nat.beq pc 198) (o_const (2) 199) o_bad))) (cond (Nat.blt pc 201) (cond (Nat.blt pc 200) (cond (Nat.beq pc 199) (o_dv (fun x y => x / y) 200) o_bad) (cond (Nat.beq pc 200) (o_iret) o_bad)) (cond (Nat.blt pc 203) (cond (Nat.beq pc 201) (o_const (-1000000001) 203) o_bad) (cond (Nat.beq pc 203) (o_iret) o_bad)))))))
set_option maxRecDepth 20000 in
theorem ok_X11_count : HOKs cX11_count RX11 4 (some .int) 2 ins_X11_count := fun _ => hnd (hnd (hnd (hnd (hnd (hnd (hlf (ok_iconst dX11_count_0 (by decide) rfl)) (hnd (hlf (ok_istore_n dX11_count_1 rfl (by decide) rfl)) (hlf (ok_iload_n dX11_count_2 rfl rfl)))) (hnd (hlf (ok_tsw dX11_count_3 (by decide) (by decide) (by decide))) (hnd (hlf (ok_iconst dX11_count_52 (by decide) rfl)) (hlf (ok_istore_n dX11_count_53 rfl (by decide) rfl))))) (hnd (hnd (hlf (ok_iload_n dX11_count_54 rfl rfl)) (hnd (hlf (ok_aload_n dX11_count_55 rfl rfl)) (hlf (ok_getf (C := RX11) (T := TX11) dX11_count_56 rfl rfl (by decide) rfl inX11 wd_878 rfl)))) (hnd (hlf (ok_icmp_ge dX11_count_59 (by decide) rfl)) (hnd (hlf (ok_iload_n dX11_count_62 rfl rfl)) (hlf (ok_aload_n dX11_count_63 rfl rfl)))))) (hnd (hnd (hnd (hlf (ok_getf (C := RX11) (T := TX11) dX11_count_64 rfl rfl (by decide) rfl inX11 wd_881 rfl)) (hnd (hlf (ok_iload_n dX11_count_67 rfl rfl)) (hlf (ok_iald dX11_count_68 rfl)))) (hnd (hlf (ok_iadd dX11_count_69 rfl)) (hnd (hlf (ok_istore_n dX11_count_70 rfl (by decide) rfl)) (hlf (ok_iinc dX11_count_71 (by decide) (by decide) rfl))))) (hnd (hnd (hlf (ok_goto dX11_count_74 (by decide))) (hnd (hlf (ok_iload_n dX11_count_77 rfl rfl)) (hlf (ok_iret dX11_count_78)))) (hnd (hlf (ok_aload_n dX11_count_79 rfl rfl)) (hnd (hlf (ok_getf (C := RX11) (T := TX11) dX11_count_80 rfl rfl (by decide) rfl inX11 wd_884 rfl)) (hlf (ok_iret dX11_count_83))))))) (hnd (hnd (hnd (hnd (hlf (ok_aload_n dX11_count_84 rfl rfl)) (hnd (hlf (ok_getf (C := RX11) (T := TX11) dX11_count_85 rfl rfl (by decide) rfl inX11 wd_898 rfl)) (hlf (ok_iret dX11_count_88)))) (hnd (hlf (ok_iconst dX11_count_89 (by decide) rfl)) (hnd (hlf (ok_istore_n dX11_count_90 rfl (by decide) rfl)) (hlf (ok_iload_n dX11_count_91 rfl rfl))))) (hnd (hnd (hlf (ok_aload_n dX11_count_92 rfl rfl)) (hnd (hlf (ok_getf (C := RX11) (T := TX11) dX11_count_93 rfl rfl (by decide) rfl inX11 wd_898 rfl)) (hlf (ok_icmp_ge dX11_count_96 (by decide) rfl)))) (hnd (hlf (ok_iload_n dX11_count_99 rfl rfl)) (hnd (hlf (ok_aload_n dX11_count_100 rfl rfl)) (hlf (ok_getf (C := RX11) (T := TX11) dX11_count_101 rfl rfl (by decide) rfl inX11 wd_904 rfl)))))) (hnd (hnd (hnd (hlf (ok_iload_n dX11_count_104 rfl rfl)) (hnd (hlf (ok_iald dX11_count_105 rfl)) (hlf (ok_iload_n dX11_count_106 rfl rfl)))) (hnd (hlf (ok_iconst dX11_count_107 (by decide) rfl)) (hnd (hlf (ok_isub dX11_count_108 rfl)) (hlf (ok_icmp_ne dX11_count_109 (by decide) rfl))))) (hnd (hnd (hlf (ok_iconst dX11_count_112 (by decide) rfl)) (hnd (hlf (ok_goto dX11_count_113 (by decide))) (hlf (ok_iconst dX11_count_116 (by decide) rfl)))) (hnd (hnd (hlf (ok_iadd dX11_count_117 rfl)) (hlf (ok_istore_n dX11_count_118 rfl (by decide) rfl))) (hnd (hlf (ok_iinc dX11_count_119 (by decide) (by decide) rfl)) (hlf (ok_goto dX11_count_122 (by decide))))))))) (hnd (hnd (hnd (hnd (hnd (hlf (ok_iload_n dX11_count_125 rfl rfl)) (hnd (hlf (ok_iret dX11_count_126)) (hlf (ok_iconst dX11_count_127 (by decide) rfl)))) (hnd (hlf (ok_istore_n dX11_count_128 rfl (by decide) rfl)) (hnd (hlf (ok_iload_n dX11_count_129 rfl rfl)) (hlf (ok_sipush dX11_count_130 (by decide) rfl))))) (hnd (hnd (hlf (ok_icmp_ge dX11_count_133 (by decide) rfl)) (hnd (hlf (ok_iload_n dX11_count_136 rfl rfl)) (hlf (ok_aload_n dX11_count_137 rfl rfl)))) (hnd (hlf (ok_getf (C := RX11) (T := TX11) dX11_count_138 rfl rfl (by decide) rfl inX11 wd_883 rfl)) (hnd (hlf (ok_iload_n dX11_count_141 rfl rfl)) (hlf (ok_iald dX11_count_142 rfl)))))) (hnd (hnd (hnd (hlf (ok_if_lt dX11_count_143 (by decide) rfl)) (hnd (hlf (ok_iconst dX11_count_146 (by decide) rfl)) (hlf (ok_goto dX11_count_147 (by decide))))) (hnd (hlf (ok_iconst dX11_count_150 (by decide) rfl)) (hnd (hlf (ok_iadd dX11_count_151 rfl)) (hlf (ok_istore_n dX11_count_152 rfl (by decide) rfl))))) (hnd (hnd (hlf (ok_iinc dX11_count_153 (by decide) (by decide) rfl)) (hnd (hlf (ok_goto dX11_count_156 (by decide))) (hlf (ok_iload_n dX11_count_159 rfl rfl)))) (hnd (hlf (ok_iret dX11_count_160)) (hnd (hlf (ok_aload_n dX11_count_161 rfl rfl)) (hlf (ok_getf (C := RX11) (T := TX11) dX11_count_162 rfl rfl (by decide) rfl inX11 wd_877 rfl))))))) (hnd (hnd (hnd (hnd (hlf (ok_iret dX11_count_165)) (hnd (hlf (ok_aload_n dX11_count_166 rfl rfl)) (hlf (ok_getf (C := RX11) (T := TX11) dX11_count_167 rfl rfl (by decide) rfl inX11 wd_897 rfl)))) (hnd (hlf (ok_iret dX11_count_170)) (hnd (hlf (ok_iconst dX11_count_171 (by decide) rfl)) (hlf (ok_istore_n dX11_count_172 rfl (by decide) rfl))))) (hnd (hnd (hlf (ok_iload_n dX11_count_173 rfl rfl)) (hnd (hlf (ok_bipush dX11_count_174 (by decide) rfl)) (hlf (ok_icmp_ge dX11_count_176 (by decide) rfl)))) (hnd (hlf (ok_iload_n dX11_count_179 rfl rfl)) (hnd (hlf (ok_aload_n dX11_count_180 rfl rfl)) (hlf (ok_getf (C := RX11) (T := TX11) dX11_count_181 rfl rfl (by decide) rfl inX11 wd_888 rfl)))))) (hnd (hnd (hnd (hlf (ok_iload_n dX11_count_184 rfl rfl)) (hnd (hlf (ok_iald dX11_count_185 rfl)) (hlf (ok_callS (y := yX11_bits) dX11_count_186 ct_X11_bits (by decide) (by decide) wd_1167 wd_1165 wd_1166 wd_50 (by decide +kernel) rfl)))) (hnd (hlf (ok_iadd dX11_count_189 rfl)) (hnd (hlf (ok_istore_n dX11_count_190 rfl (by decide) rfl)) (hlf (ok_iinc dX11_count_191 (by decide) (by decide) rfl))))) (hnd (hnd (hlf (ok_goto dX11_count_194 (by decide))) (hnd (hlf (ok_iload_n dX11_count_197 rfl rfl)) (hlf (ok_iconst dX11_count_198 (by decide) rfl)))) (hnd (hnd (hlf (ok_idiv dX11_count_199 rfl)) (hlf (ok_iret dX11_count_200))) (hnd (hlf (ok_ldc dX11_count_201 wd_1018 rfl)) (hlf (ok_iret dX11_count_203))))))))

set_option maxHeartbeats 1000000 in
def hd_X11_count : Nat → Bool := fun pc => Nat.beq pc 54 || Nat.beq pc 91 || Nat.beq pc 129 || Nat.beq pc 173
noncomputable def sp_X11_count : HSp := fun as w σ K => wp ins_X11_count (cutA hd_X11_count (I_X11_count K)) K 60 0 (loc0 4 as) [] w σ
theorem vc_X11_count : MVC ins_X11_count 4 2 sp_X11_count := by
  intro as w0 σ0 q _ hs
  refine ⟨hd_X11_count, I_X11_count q, 60, 60, ?_, hs⟩
  clear hs
  rintro N pc ls st w σ hh ⟨n, i, x, u, v, hi, rfl, rfl, rfl, rfl, (⟨rfl, hn, hn2, rfl, hq⟩ | ⟨rfl, ⟨hn, hn2⟩, rfl, hq⟩ | ⟨rfl, rfl, rfl, hq⟩ | ⟨rfl, rfl, rfl, hq⟩)⟩
  · apply br2
    · intro h1
      obtain rfl := lp_end hn2 hi h1
      exact hq
    · intro h1
      have hlt := lp_go hn2 hi h1
      have e1 : (nI i).toNatClampNeg = i := nI_clamp (by omega)
      refine And.intro (vp_in_nI (N := 10) (by omega) (by decide)) ?_
      exact ⟨n - (i + 1), by omega, n, i + 1, _, _, _, hlt, rfl, nI_1 i, rfl, rfl, Or.inl ⟨rfl, hn, hn2, by rw [e1]; rfl, hq⟩⟩
  · apply br2
    · intro h1
      obtain rfl := lp_end hn2 hi h1
      exact hq
    · intro h1
      have hlt := lp_go hn2 hi h1
      have e1 : (nI i).toNatClampNeg = i := nI_clamp (by omega)
      refine And.intro (vp_in_nI (N := 100) (by omega) (by decide)) ?_
      apply br2
      · intro h2
        have h2 : σ 20 21 (nI i).toNatClampNeg = x - 3 := h2
        rw [e1] at h2
        exact ⟨n - (i + 1), by omega, n, i + 1, _, _, _, hlt, rfl, nI_1 i, rfl, rfl, Or.inr (Or.inl ⟨rfl, ⟨hn, hn2⟩, by rw [cnt_y (decide_eq_true h2)]; exact nI_1 _, hq⟩)⟩
      · intro h2
        have h2 : ¬ σ 20 21 (nI i).toNatClampNeg = x - 3 := h2
        rw [e1] at h2
        exact ⟨n - (i + 1), by omega, n, i + 1, _, _, _, hlt, rfl, nI_1 i, rfl, rfl, Or.inr (Or.inl ⟨rfl, ⟨hn, hn2⟩, by rw [cnt_n (decide_eq_false h2)]; exact Int32.add_zero _, hq⟩)⟩
  · apply br2
    · intro h1
      obtain rfl := lp_end (n := 140) rfl hi h1
      exact hq
    · intro h1
      have hlt := lp_go (n := 140) rfl hi h1
      have e1 : (nI i).toNatClampNeg = i := nI_clamp (by omega)
      refine And.intro (vp_in_nI (N := 140) (by omega) (by decide)) ?_
      apply br2
      · intro h2
        have h2 : σ 20 4 (nI i).toNatClampNeg < 0 := h2
        rw [e1] at h2
        exact ⟨140 - (i + 1), by omega, 140, i + 1, _, _, _, hlt, rfl, nI_1 i, rfl, rfl, Or.inr (Or.inr (Or.inl ⟨rfl, rfl, by rw [cnt_n (decide_eq_false fun z => z h2)]; exact Int32.add_zero _, hq⟩))⟩
      · intro h2
        have h2 : ¬ σ 20 4 (nI i).toNatClampNeg < 0 := h2
        rw [e1] at h2
        exact ⟨140 - (i + 1), by omega, 140, i + 1, _, _, _, hlt, rfl, nI_1 i, rfl, rfl, Or.inr (Or.inr (Or.inl ⟨rfl, rfl, by rw [cnt_y (decide_eq_true h2)]; exact nI_1 _, hq⟩))⟩
  · apply br2
    · intro h1
      obtain rfl := lp_end (n := 10) rfl hi h1
      exact And.intro (by decide) hq
    · intro h1
      have hlt := lp_go (n := 10) rfl hi h1
      have e1 : (nI i).toNatClampNeg = i := nI_clamp (by omega)
      refine And.intro (vp_in_nI (N := 10) (by omega) (by decide)) ?_
      exact ⟨10 - (i + 1), by omega, 10, i + 1, _, _, _, hlt, rfl, nI_1 i, rfl, rfl, Or.inr (Or.inr (Or.inr ⟨rfl, rfl, by rw [e1]; rfl, hq⟩))⟩
theorem ct_X11_count : Ctr yX11_count cX11_count 4 (some .int) 2 0 0 2 sp_X11_count := ctr_of (by decide +kernel) rfl (by decide) ok_X11_count vc_X11_count

theorem dX11_prisoner_0 : decode cX11_prisoner 0 = .ok (.iload_n 1, 1) := by decide +kernel
theorem dX11_prisoner_1 : decode cX11_prisoner 1 = .ok (.iconst 0, 1) := by decide +kernel
theorem dX11_prisoner_2 : decode cX11_prisoner 2 = .ok (.iconst 3, 1) := by decide +kernel
theorem dX11_prisoner_3 : decode cX11_prisoner 3 = .ok (.invokestatic 102, 3) := by decide +kernel
theorem dX11_prisoner_6 : decode cX11_prisoner 6 = .ok (.ifCond .eq 13, 3) := by decide +kernel
theorem dX11_prisoner_9 : decode cX11_prisoner 9 = .ok (.iload_n 2, 1) := by decide +kernel
theorem dX11_prisoner_10 : decode cX11_prisoner 10 = .ok (.iconst 0, 1) := by decide +kernel
theorem dX11_prisoner_11 : decode cX11_prisoner 11 = .ok (.bipush 9, 2) := by decide +kernel
theorem dX11_prisoner_13 : decode cX11_prisoner 13 = .ok (.invokestatic 102, 3) := by decide +kernel
theorem dX11_prisoner_16 : decode cX11_prisoner 16 = .ok (.ifCond .ne 6, 3) := by decide +kernel
theorem dX11_prisoner_19 : decode cX11_prisoner 19 = .ok (.ldc 109, 2) := by decide +kernel
theorem dX11_prisoner_21 : decode cX11_prisoner 21 = .ok (.ireturn, 1) := by decide +kernel
theorem dX11_prisoner_22 : decode cX11_prisoner 22 = .ok (.aload_n 0, 1) := by decide +kernel
theorem dX11_prisoner_23 : decode cX11_prisoner 23 = .ok (.getfield 99, 3) := by decide +kernel
theorem dX11_prisoner_26 : decode cX11_prisoner 26 = .ok (.bipush 10, 2) := by decide +kernel
theorem dX11_prisoner_28 : decode cX11_prisoner 28 = .ok (.if_icmp .ne 6, 3) := by decide +kernel
theorem dX11_prisoner_31 : decode cX11_prisoner 31 = .ok (.ldc 110, 2) := by decide +kernel
theorem dX11_prisoner_33 : decode cX11_prisoner 33 = .ok (.ireturn, 1) := by decide +kernel
theorem dX11_prisoner_34 : decode cX11_prisoner 34 = .ok (.aload_n 0, 1) := by decide +kernel
theorem dX11_prisoner_35 : decode cX11_prisoner 35 = .ok (.getfield 7, 3) := by decide +kernel
theorem dX11_prisoner_38 : decode cX11_prisoner 38 = .ok (.aload_n 0, 1) := by decide +kernel
theorem dX11_prisoner_39 : decode cX11_prisoner 39 = .ok (.getfield 99, 3) := by decide +kernel
theorem dX11_prisoner_42 : decode cX11_prisoner 42 = .ok (.iload_n 1, 1) := by decide +kernel
theorem dX11_prisoner_43 : decode cX11_prisoner 43 = .ok (.iastore, 1) := by decide +kernel
theorem dX11_prisoner_44 : decode cX11_prisoner 44 = .ok (.aload_n 0, 1) := by decide +kernel
theorem dX11_prisoner_45 : decode cX11_prisoner 45 = .ok (.getfield 13, 3) := by decide +kernel
theorem dX11_prisoner_48 : decode cX11_prisoner 48 = .ok (.aload_n 0, 1) := by decide +kernel
theorem dX11_prisoner_49 : decode cX11_prisoner 49 = .ok (.getfield 99, 3) := by decide +kernel
theorem dX11_prisoner_52 : decode cX11_prisoner 52 = .ok (.iload_n 2, 1) := by decide +kernel
theorem dX11_prisoner_53 : decode cX11_prisoner 53 = .ok (.iastore, 1) := by decide +kernel
theorem dX11_prisoner_54 : decode cX11_prisoner 54 = .ok (.aload_n 0, 1) := by decide +kernel
theorem dX11_prisoner_55 : decode cX11_prisoner 55 = .ok (.getfield 16, 3) := by decide +kernel
theorem dX11_prisoner_58 : decode cX11_prisoner 58 = .ok (.aload_n 0, 1) := by decide +kernel
theorem dX11_prisoner_59 : decode cX11_prisoner 59 = .ok (.getfield 99, 3) := by decide +kernel
theorem dX11_prisoner_62 : decode cX11_prisoner 62 = .ok (.iconst 1, 1) := by decide +kernel
theorem dX11_prisoner_63 : decode cX11_prisoner 63 = .ok (.iastore, 1) := by decide +kernel
theorem dX11_prisoner_64 : decode cX11_prisoner 64 = .ok (.aload_n 0, 1) := by decide +kernel
theorem dX11_prisoner_65 : decode cX11_prisoner 65 = .ok (.dup, 1) := by decide +kernel
theorem dX11_prisoner_66 : decode cX11_prisoner 66 = .ok (.getfield 99, 3) := by decide +kernel
theorem dX11_prisoner_69 : decode cX11_prisoner 69 = .ok (.iconst 1, 1) := by decide +kernel
theorem dX11_prisoner_70 : decode cX11_prisoner 70 = .ok (.iadd, 1) := by decide +kernel
theorem dX11_prisoner_71 : decode cX11_prisoner 71 = .ok (.putfield 99, 3) := by decide +kernel
theorem dX11_prisoner_74 : decode cX11_prisoner 74 = .ok (.aload_n 0, 1) := by decide +kernel
theorem dX11_prisoner_75 : decode cX11_prisoner 75 = .ok (.getfield 99, 3) := by decide +kernel
theorem dX11_prisoner_78 : decode cX11_prisoner 78 = .ok (.iconst 1, 1) := by decide +kernel
theorem dX11_prisoner_79 : decode cX11_prisoner 79 = .ok (.isub, 1) := by decide +kernel
theorem dX11_prisoner_80 : decode cX11_prisoner 80 = .ok (.ireturn, 1) := by decide +kernel
def ins_X11_prisoner (pc : Nat) : HOp := cond (Nat.blt pc 43) (cond (Nat.blt pc 21) (cond (Nat.blt pc 9) (cond (Nat.blt pc 2) (cond (Nat.blt pc 1) (cond (Nat.beq pc 0) (o_iload 1 1) o_bad) (cond (Nat.beq pc 1) (o_const (0) 2) o_bad)) (cond (Nat.blt pc 3) (cond (Nat.beq pc 2) (o_const (3) 3) o_bad) (cond (Nat.blt pc 6) (cond (Nat.beq pc 3) (o_callS 3 sp_X11_isIn 6) o_bad) (cond (Nat.beq pc 6) (o_if (fun x => x = 0) 19 9) o_bad)))) (cond (Nat.blt pc 13) (cond (Nat.blt pc 10) (cond (Nat.beq pc 9) (o_iload 2 10) o_bad) (cond (Nat.blt pc 11) (cond (Nat.beq pc 10) (o_const (0) 11) o_bad) (cond (Nat.beq pc 11) (o_const (9) 13) o_bad))) (cond (Nat.blt pc 16) (cond (Nat.beq pc 13) (o_callS 3 sp_X11_isIn 16) o_bad) (cond (Nat.blt pc 19) (cond (Nat.beq pc 16) (o_if (fun x => x = 0) 19 22) o_bad) (cond (Nat.beq pc 19) (o_const (-1000000001) 21) o_bad))))) (cond (Nat.blt pc 33) (cond (Nat.blt pc 26) (cond (Nat.blt pc 22) (cond (Nat.beq pc 21) (o_iret) o_bad) (cond (Nat.blt pc 23) (cond (Nat.beq pc 22) (o_aload 0 23) o_bad) (cond (Nat.beq pc 23) (o_getf 11 1 26) o_bad))) (cond (Nat.blt pc 28) (cond (Nat.beq pc 26) (o_const (10) 28) o_bad) (cond (Nat.blt pc 31) (cond (Nat.beq pc 28) (o_icmp (fun x y => x = y) 31 34) o_bad) (cond (Nat.beq pc 31) (o_const (-1000000003) 33) o_bad)))) (cond (Nat.blt pc 38) (cond (Nat.blt pc 34) (cond (Nat.beq pc 33) (o_iret) o_bad) (cond (Nat.blt pc 35) (cond (Nat.beq pc 34) (o_aload 0 35) o_bad) (cond (Nat.beq pc 35) (o_getf 11 2 38) o_bad))) (cond (Nat.blt pc 39) (cond (Nat.beq pc 38) (o_aload 0 39) o_bad) (cond (Nat.blt pc 42) (cond (Nat.beq pc 39) (o_getf 11 1 42) o_bad) (cond (Nat.beq pc 42) (o_iload 1 43) o_bad)))))) (cond (Nat.blt pc 63) (cond (Nat.blt pc 53) (cond (Nat.blt pc 48) (cond (Nat.blt pc 44) (cond (Nat.beq pc 43) (o_iast 44) o_bad) (cond (Nat.blt pc 45) (cond (Nat.beq pc 44) (o_aload 0 45) o_bad) (cond (Nat.beq pc 45) (o_getf 11 3 48) o_bad))) (cond (Nat.blt pc 49) (cond (Nat.beq pc 48) (o_aload 0 49) o_bad) (cond (Nat.blt pc 52) (cond (Nat.beq pc 49) (o_getf 11 1 52) o_bad) (cond (Nat.beq pc 52) (o_iload 2 53) o_bad)))) (cond (Nat.blt pc 58) (cond (Nat.blt pc 54) (cond (Nat.beq pc 53) (o_iast 54) o_bad) (cond (Nat.blt pc 55) (cond (Nat.beq pc 54) (o_aload 0 55) o_bad) (cond (Nat.beq pc 55) (o_getf 11 4 58) o_bad))) (cond (Nat.blt pc 59) (cond (Nat.beq pc 58) (o_aload 0 59) o_bad) (cond (Nat.blt pc 62) (cond (Nat.beq pc 59) (o_getf 11 1 62) o_bad) (cond (Nat.beq pc 62) (o_const (1) 63) o_bad))))) (cond (Nat.blt pc 71) (cond (Nat.blt pc 66) (cond (Nat.blt pc 64) (cond (Nat.beq pc 63) (o_iast 64) o_bad) (cond (Nat.blt pc 65) (cond (Nat.beq pc 64) (o_aload 0 65) o_bad) (cond (Nat.beq pc 65) (o_dup 66) o_bad))) (cond (Nat.blt pc 69) (cond (Nat.beq pc 66) (o_getf 11 1 69) o_bad) (cond (Nat.blt pc 70) (cond (Nat.beq pc 69) (o_const (1) 70) o_bad) (cond (Nat.beq pc 70) (o_bin (fun x y => x + y) 71) o_bad)))) (cond (Nat.blt pc 78) (cond (Nat.blt pc 74) (cond (Nat.beq pc 71) (o_putf 11 1 74) o_bad) (cond (Nat.blt pc 75) (cond (Nat.beq pc 74) (o_aload 0 75) o_bad) (cond (Nat.beq pc 75) (o_getf 11 1 78) o_bad))) (cond (Nat.blt pc 79) (cond (Nat.beq pc 78) (o_const (1) 79) o_bad) (cond (Nat.blt pc 80) (cond (Nat.beq pc 79) (o_bin (fun x y => x - y) 80) o_bad) (cond (Nat.beq pc 80) (o_iret) o_bad))))))
set_option maxRecDepth 20000 in
theorem ok_X11_prisoner : HOKs cX11_prisoner RX11 3 (some .int) 2 ins_X11_prisoner := fun _ => hnd (hnd (hnd (hnd (hnd (hlf (ok_iload_n dX11_prisoner_0 rfl rfl)) (hlf (ok_iconst dX11_prisoner_1 (by decide) rfl))) (hnd (hlf (ok_iconst dX11_prisoner_2 (by decide) rfl)) (hnd (hlf (ok_callS (y := yX11_isIn) dX11_prisoner_3 ct_X11_isIn (by decide) (by decide) wd_1017 wd_1015 wd_1016 wd_50 (by decide +kernel) rfl)) (hlf (ok_if_eq dX11_prisoner_6 (by decide) rfl))))) (hnd (hnd (hlf (ok_iload_n dX11_prisoner_9 rfl rfl)) (hnd (hlf (ok_iconst dX11_prisoner_10 (by decide) rfl)) (hlf (ok_bipush dX11_prisoner_11 (by decide) rfl)))) (hnd (hlf (ok_callS (y := yX11_isIn) dX11_prisoner_13 ct_X11_isIn (by decide) (by decide) wd_1017 wd_1015 wd_1016 wd_50 (by decide +kernel) rfl)) (hnd (hlf (ok_if_ne dX11_prisoner_16 (by decide) rfl)) (hlf (ok_ldc dX11_prisoner_19 wd_1018 rfl)))))) (hnd (hnd (hnd (hlf (ok_iret dX11_prisoner_21)) (hnd (hlf (ok_aload_n dX11_prisoner_22 rfl rfl)) (hlf (ok_getf (C := RX11) (T := TX11) dX11_prisoner_23 rfl rfl (by decide) rfl inX11 wd_878 rfl)))) (hnd (hlf (ok_bipush dX11_prisoner_26 (by decide) rfl)) (hnd (hlf (ok_icmp_ne dX11_prisoner_28 (by decide) rfl)) (hlf (ok_ldc dX11_prisoner_31 wd_1019 rfl))))) (hnd (hnd (hlf (ok_iret dX11_prisoner_33)) (hnd (hlf (ok_aload_n dX11_prisoner_34 rfl rfl)) (hlf (ok_getf (C := RX11) (T := TX11) dX11_prisoner_35 rfl rfl (by decide) rfl inX11 wd_879 rfl)))) (hnd (hlf (ok_aload_n dX11_prisoner_38 rfl rfl)) (hnd (hlf (ok_getf (C := RX11) (T := TX11) dX11_prisoner_39 rfl rfl (by decide) rfl inX11 wd_878 rfl)) (hlf (ok_iload_n dX11_prisoner_42 rfl rfl))))))) (hnd (hnd (hnd (hnd (hlf (ok_iast dX11_prisoner_43 rfl)) (hnd (hlf (ok_aload_n dX11_prisoner_44 rfl rfl)) (hlf (ok_getf (C := RX11) (T := TX11) dX11_prisoner_45 rfl rfl (by decide) rfl inX11 wd_880 rfl)))) (hnd (hlf (ok_aload_n dX11_prisoner_48 rfl rfl)) (hnd (hlf (ok_getf (C := RX11) (T := TX11) dX11_prisoner_49 rfl rfl (by decide) rfl inX11 wd_878 rfl)) (hlf (ok_iload_n dX11_prisoner_52 rfl rfl))))) (hnd (hnd (hlf (ok_iast dX11_prisoner_53 rfl)) (hnd (hlf (ok_aload_n dX11_prisoner_54 rfl rfl)) (hlf (ok_getf (C := RX11) (T := TX11) dX11_prisoner_55 rfl rfl (by decide) rfl inX11 wd_881 rfl)))) (hnd (hlf (ok_aload_n dX11_prisoner_58 rfl rfl)) (hnd (hlf (ok_getf (C := RX11) (T := TX11) dX11_prisoner_59 rfl rfl (by decide) rfl inX11 wd_878 rfl)) (hlf (ok_iconst dX11_prisoner_62 (by decide) rfl)))))) (hnd (hnd (hnd (hlf (ok_iast dX11_prisoner_63 rfl)) (hnd (hlf (ok_aload_n dX11_prisoner_64 rfl rfl)) (hlf (ok_dup dX11_prisoner_65 rfl)))) (hnd (hlf (ok_getf (C := RX11) (T := TX11) dX11_prisoner_66 rfl rfl (by decide) rfl inX11 wd_878 rfl)) (hnd (hlf (ok_iconst dX11_prisoner_69 (by decide) rfl)) (hlf (ok_iadd dX11_prisoner_70 rfl))))) (hnd (hnd (hlf (ok_putf (C := RX11) (T := TX11) dX11_prisoner_71 rfl rfl (by decide) rfl inX11 tyX11_ok nmX11 rfl rfl (fun _ _ => rfl) wd_878 rfl)) (hnd (hlf (ok_aload_n dX11_prisoner_74 rfl rfl)) (hlf (ok_getf (C := RX11) (T := TX11) dX11_prisoner_75 rfl rfl (by decide) rfl inX11 wd_878 rfl)))) (hnd (hlf (ok_iconst dX11_prisoner_78 (by decide) rfl)) (hnd (hlf (ok_isub dX11_prisoner_79 rfl)) (hlf (ok_iret dX11_prisoner_80)))))))

noncomputable def sp_X11_prisoner : HSp := fun as w σ K => wp ins_X11_prisoner (fun _ => none) K 90 0 (loc0 3 as) [] w σ
theorem vc_X11_prisoner : MVC ins_X11_prisoner 3 3 sp_X11_prisoner := mvc0 90 fun _ _ _ _ _ h => h
theorem ct_X11_prisoner : Ctr yX11_prisoner cX11_prisoner 3 (some .int) 2 0 0 3 sp_X11_prisoner := ctr_of (by decide +kernel) rfl (by decide) ok_X11_prisoner vc_X11_prisoner

theorem dX11_visitor_0 : decode cX11_visitor 0 = .ok (.iload_n 1, 1) := by decide +kernel
theorem dX11_visitor_1 : decode cX11_visitor 1 = .ok (.iconst 0, 1) := by decide +kernel
theorem dX11_visitor_2 : decode cX11_visitor 2 = .ok (.iconst 3, 1) := by decide +kernel
theorem dX11_visitor_3 : decode cX11_visitor 3 = .ok (.invokestatic 102, 3) := by decide +kernel
theorem dX11_visitor_6 : decode cX11_visitor 6 = .ok (.ifCond .eq 23, 3) := by decide +kernel
theorem dX11_visitor_9 : decode cX11_visitor 9 = .ok (.iload_n 2, 1) := by decide +kernel
theorem dX11_visitor_10 : decode cX11_visitor 10 = .ok (.iconst 0, 1) := by decide +kernel
theorem dX11_visitor_11 : decode cX11_visitor 11 = .ok (.bipush 9, 2) := by decide +kernel
theorem dX11_visitor_13 : decode cX11_visitor 13 = .ok (.invokestatic 102, 3) := by decide +kernel
theorem dX11_visitor_16 : decode cX11_visitor 16 = .ok (.ifCond .eq 13, 3) := by decide +kernel
theorem dX11_visitor_19 : decode cX11_visitor 19 = .ok (.iload_n 3, 1) := by decide +kernel
theorem dX11_visitor_20 : decode cX11_visitor 20 = .ok (.iconst 0, 1) := by decide +kernel
theorem dX11_visitor_21 : decode cX11_visitor 21 = .ok (.bipush 20, 2) := by decide +kernel
theorem dX11_visitor_23 : decode cX11_visitor 23 = .ok (.invokestatic 102, 3) := by decide +kernel
theorem dX11_visitor_26 : decode cX11_visitor 26 = .ok (.ifCond .ne 6, 3) := by decide +kernel
theorem dX11_visitor_29 : decode cX11_visitor 29 = .ok (.ldc 109, 2) := by decide +kernel
theorem dX11_visitor_31 : decode cX11_visitor 31 = .ok (.ireturn, 1) := by decide +kernel
theorem dX11_visitor_32 : decode cX11_visitor 32 = .ok (.aload_n 0, 1) := by decide +kernel
theorem dX11_visitor_33 : decode cX11_visitor 33 = .ok (.getfield 106, 3) := by decide +kernel
theorem dX11_visitor_36 : decode cX11_visitor 36 = .ok (.bipush 14, 2) := by decide +kernel
theorem dX11_visitor_38 : decode cX11_visitor 38 = .ok (.if_icmp .ne 6, 3) := by decide +kernel
theorem dX11_visitor_41 : decode cX11_visitor 41 = .ok (.ldc 110, 2) := by decide +kernel
theorem dX11_visitor_43 : decode cX11_visitor 43 = .ok (.ireturn, 1) := by decide +kernel
theorem dX11_visitor_44 : decode cX11_visitor 44 = .ok (.aload_n 0, 1) := by decide +kernel
theorem dX11_visitor_45 : decode cX11_visitor 45 = .ok (.getfield 25, 3) := by decide +kernel
theorem dX11_visitor_48 : decode cX11_visitor 48 = .ok (.aload_n 0, 1) := by decide +kernel
theorem dX11_visitor_49 : decode cX11_visitor 49 = .ok (.getfield 106, 3) := by decide +kernel
theorem dX11_visitor_52 : decode cX11_visitor 52 = .ok (.iload_n 1, 1) := by decide +kernel
theorem dX11_visitor_53 : decode cX11_visitor 53 = .ok (.iastore, 1) := by decide +kernel
theorem dX11_visitor_54 : decode cX11_visitor 54 = .ok (.aload_n 0, 1) := by decide +kernel
theorem dX11_visitor_55 : decode cX11_visitor 55 = .ok (.getfield 28, 3) := by decide +kernel
theorem dX11_visitor_58 : decode cX11_visitor 58 = .ok (.aload_n 0, 1) := by decide +kernel
theorem dX11_visitor_59 : decode cX11_visitor 59 = .ok (.getfield 106, 3) := by decide +kernel
theorem dX11_visitor_62 : decode cX11_visitor 62 = .ok (.iload_n 2, 1) := by decide +kernel
theorem dX11_visitor_63 : decode cX11_visitor 63 = .ok (.iastore, 1) := by decide +kernel
theorem dX11_visitor_64 : decode cX11_visitor 64 = .ok (.aload_n 0, 1) := by decide +kernel
theorem dX11_visitor_65 : decode cX11_visitor 65 = .ok (.getfield 31, 3) := by decide +kernel
theorem dX11_visitor_68 : decode cX11_visitor 68 = .ok (.aload_n 0, 1) := by decide +kernel
theorem dX11_visitor_69 : decode cX11_visitor 69 = .ok (.getfield 106, 3) := by decide +kernel
theorem dX11_visitor_72 : decode cX11_visitor 72 = .ok (.iload_n 3, 1) := by decide +kernel
theorem dX11_visitor_73 : decode cX11_visitor 73 = .ok (.iastore, 1) := by decide +kernel
theorem dX11_visitor_74 : decode cX11_visitor 74 = .ok (.aload_n 0, 1) := by decide +kernel
theorem dX11_visitor_75 : decode cX11_visitor 75 = .ok (.dup, 1) := by decide +kernel
theorem dX11_visitor_76 : decode cX11_visitor 76 = .ok (.getfield 106, 3) := by decide +kernel
theorem dX11_visitor_79 : decode cX11_visitor 79 = .ok (.iconst 1, 1) := by decide +kernel
theorem dX11_visitor_80 : decode cX11_visitor 80 = .ok (.iadd, 1) := by decide +kernel
theorem dX11_visitor_81 : decode cX11_visitor 81 = .ok (.putfield 106, 3) := by decide +kernel
theorem dX11_visitor_84 : decode cX11_visitor 84 = .ok (.aload_n 0, 1) := by decide +kernel
theorem dX11_visitor_85 : decode cX11_visitor 85 = .ok (.getfield 106, 3) := by decide +kernel
theorem dX11_visitor_88 : decode cX11_visitor 88 = .ok (.iconst 1, 1) := by decide +kernel
theorem dX11_visitor_89 : decode cX11_visitor 89 = .ok (.isub, 1) := by decide +kernel
theorem dX11_visitor_90 : decode cX11_visitor 90 = .ok (.ireturn, 1) := by decide +kernel
def ins_X11_visitor (pc : Nat) : HOp := cond (Nat.blt pc 49) (cond (Nat.blt pc 23) (cond (Nat.blt pc 10) (cond (Nat.blt pc 3) (cond (Nat.blt pc 1) (cond (Nat.beq pc 0) (o_iload 1 1) o_bad) (cond (Nat.blt pc 2) (cond (Nat.beq pc 1) (o_const (0) 2) o_bad) (cond (Nat.beq pc 2) (o_const (3) 3) o_bad))) (cond (Nat.blt pc 6) (cond (Nat.beq pc 3) (o_callS 3 sp_X11_isIn 6) o_bad) (cond (Nat.blt pc 9) (cond (Nat.beq pc 6) (o_if (fun x => x = 0) 29 9) o_bad) (cond (Nat.beq pc 9) (o_iload 2 10) o_bad)))) (cond (Nat.blt pc 16) (cond (Nat.blt pc 11) (cond (Nat.beq pc 10) (o_const (0) 11) o_bad) (cond (Nat.blt pc 13) (cond (Nat.beq pc 11) (o_const (9) 13) o_bad) (cond (Nat.beq pc 13) (o_callS 3 sp_X11_isIn 16) o_bad))) (cond (Nat.blt pc 20) (cond (Nat.blt pc 19) (cond (Nat.beq pc 16) (o_if (fun x => x = 0) 29 19) o_bad) (cond (Nat.beq pc 19) (o_iload 3 20) o_bad)) (cond (Nat.blt pc 21) (cond (Nat.beq pc 20) (o_const (0) 21) o_bad) (cond (Nat.beq pc 21) (o_const (20) 23) o_bad))))) (cond (Nat.blt pc 36) (cond (Nat.blt pc 31) (cond (Nat.blt pc 26) (cond (Nat.beq pc 23) (o_callS 3 sp_X11_isIn 26) o_bad) (cond (Nat.blt pc 29) (cond (Nat.beq pc 26) (o_if (fun x => x = 0) 29 32) o_bad) (cond (Nat.beq pc 29) (o_const (-1000000001) 31) o_bad))) (cond (Nat.blt pc 32) (cond (Nat.beq pc 31) (o_iret) o_bad) (cond (Nat.blt pc 33) (cond (Nat.beq pc 32) (o_aload 0 33) o_bad) (cond (Nat.beq pc 33) (o_getf 11 7 36) o_bad)))) (cond (Nat.blt pc 43) (cond (Nat.blt pc 38) (cond (Nat.beq pc 36) (o_const (14) 38) o_bad) (cond (Nat.blt pc 41) (cond (Nat.beq pc 38) (o_icmp (fun x y => x = y) 41 44) o_bad) (cond (Nat.beq pc 41) (o_const (-1000000003) 43) o_bad))) (cond (Nat.blt pc 45) (cond (Nat.blt pc 44) (cond (Nat.beq pc 43) (o_iret) o_bad) (cond (Nat.beq pc 44) (o_aload 0 45) o_bad)) (cond (Nat.blt pc 48) (cond (Nat.beq pc 45) (o_getf 11 8 48) o_bad) (cond (Nat.beq pc 48) (o_aload 0 49) o_bad)))))) (cond (Nat.blt pc 72) (cond (Nat.blt pc 59) (cond (Nat.blt pc 54) (cond (Nat.blt pc 52) (cond (Nat.beq pc 49) (o_getf 11 7 52) o_bad) (cond (Nat.blt pc 53) (cond (Nat.beq pc 52) (o_iload 1 53) o_bad) (cond (Nat.beq pc 53) (o_iast 54) o_bad))) (cond (Nat.blt pc 55) (cond (Nat.beq pc 54) (o_aload 0 55) o_bad) (cond (Nat.blt pc 58) (cond (Nat.beq pc 55) (o_getf 11 9 58) o_bad) (cond (Nat.beq pc 58) (o_aload 0 59) o_bad)))) (cond (Nat.blt pc 64) (cond (Nat.blt pc 62) (cond (Nat.beq pc 59) (o_getf 11 7 62) o_bad) (cond (Nat.blt pc 63) (cond (Nat.beq pc 62) (o_iload 2 63) o_bad) (cond (Nat.beq pc 63) (o_iast 64) o_bad))) (cond (Nat.blt pc 68) (cond (Nat.blt pc 65) (cond (Nat.beq pc 64) (o_aload 0 65) o_bad) (cond (Nat.beq pc 65) (o_getf 11 10 68) o_bad)) (cond (Nat.blt pc 69) (cond (Nat.beq pc 68) (o_aload 0 69) o_bad) (cond (Nat.beq pc 69) (o_getf 11 7 72) o_bad))))) (cond (Nat.blt pc 80) (cond (Nat.blt pc 75) (cond (Nat.blt pc 73) (cond (Nat.beq pc 72) (o_iload 3 73) o_bad) (cond (Nat.blt pc 74) (cond (Nat.beq pc 73) (o_iast 74) o_bad) (cond (Nat.beq pc 74) (o_aload 0 75) o_bad))) (cond (Nat.blt pc 76) (cond (Nat.beq pc 75) (o_dup 76) o_bad) (cond (Nat.blt pc 79) (cond (Nat.beq pc 76) (o_getf 11 7 79) o_bad) (cond (Nat.beq pc 79) (o_const (1) 80) o_bad)))) (cond (Nat.blt pc 85) (cond (Nat.blt pc 81) (cond (Nat.beq pc 80) (o_bin (fun x y => x + y) 81) o_bad) (cond (Nat.blt pc 84) (cond (Nat.beq pc 81) (o_putf 11 7 84) o_bad) (cond (Nat.beq pc 84) (o_aload 0 85) o_bad))) (cond (Nat.blt pc 89) (cond (Nat.blt pc 88) (cond (Nat.beq pc 85) (o_getf 11 7 88) o_bad) (cond (Nat.beq pc 88) (o_const (1) 89) o_bad)) (cond (Nat.blt pc 90) (cond (Nat.beq pc 89) (o_bin (fun x y => x - y) 90) o_bad) (cond (Nat.beq pc 90) (o_iret) o_bad))))))
set_option maxRecDepth 20000 in
theorem ok_X11_visitor : HOKs cX11_visitor RX11 4 (some .int) 2 ins_X11_visitor := fun _ => hnd (hnd (hnd (hnd (hnd (hlf (ok_iload_n dX11_visitor_0 rfl rfl)) (hnd (hlf (ok_iconst dX11_visitor_1 (by decide) rfl)) (hlf (ok_iconst dX11_visitor_2 (by decide) rfl)))) (hnd (hlf (ok_callS (y := yX11_isIn) dX11_visitor_3 ct_X11_isIn (by decide) (by decide) wd_1017 wd_1015 wd_1016 wd_50 (by decide +kernel) rfl)) (hnd (hlf (ok_if_eq dX11_visitor_6 (by decide) rfl)) (hlf (ok_iload_n dX11_visitor_9 rfl rfl))))) (hnd (hnd (hlf (ok_iconst dX11_visitor_10 (by decide) rfl)) (hnd (hlf (ok_bipush dX11_visitor_11 (by decide) rfl)) (hlf (ok_callS (y := yX11_isIn) dX11_visitor_13 ct_X11_isIn (by decide) (by decide) wd_1017 wd_1015 wd_1016 wd_50 (by decide +kernel) rfl)))) (hnd (hnd (hlf (ok_if_eq dX11_visitor_16 (by decide) rfl)) (hlf (ok_iload_n dX11_visitor_19 rfl rfl))) (hnd (hlf (ok_iconst dX11_visitor_20 (by decide) rfl)) (hlf (ok_bipush dX11_visitor_21 (by decide) rfl)))))) (hnd (hnd (hnd (hlf (ok_callS (y := yX11_isIn) dX11_visitor_23 ct_X11_isIn (by decide) (by decide) wd_1017 wd_1015 wd_1016 wd_50 (by decide +kernel) rfl)) (hnd (hlf (ok_if_ne dX11_visitor_26 (by decide) rfl)) (hlf (ok_ldc dX11_visitor_29 wd_1018 rfl)))) (hnd (hlf (ok_iret dX11_visitor_31)) (hnd (hlf (ok_aload_n dX11_visitor_32 rfl rfl)) (hlf (ok_getf (C := RX11) (T := TX11) dX11_visitor_33 rfl rfl (by decide) rfl inX11 wd_884 rfl))))) (hnd (hnd (hlf (ok_bipush dX11_visitor_36 (by decide) rfl)) (hnd (hlf (ok_icmp_ne dX11_visitor_38 (by decide) rfl)) (hlf (ok_ldc dX11_visitor_41 wd_1019 rfl)))) (hnd (hnd (hlf (ok_iret dX11_visitor_43)) (hlf (ok_aload_n dX11_visitor_44 rfl rfl))) (hnd (hlf (ok_getf (C := RX11) (T := TX11) dX11_visitor_45 rfl rfl (by decide) rfl inX11 wd_885 rfl)) (hlf (ok_aload_n dX11_visitor_48 rfl rfl))))))) (hnd (hnd (hnd (hnd (hlf (ok_getf (C := RX11) (T := TX11) dX11_visitor_49 rfl rfl (by decide) rfl inX11 wd_884 rfl)) (hnd (hlf (ok_iload_n dX11_visitor_52 rfl rfl)) (hlf (ok_iast dX11_visitor_53 rfl)))) (hnd (hlf (ok_aload_n dX11_visitor_54 rfl rfl)) (hnd (hlf (ok_getf (C := RX11) (T := TX11) dX11_visitor_55 rfl rfl (by decide) rfl inX11 wd_886 rfl)) (hlf (ok_aload_n dX11_visitor_58 rfl rfl))))) (hnd (hnd (hlf (ok_getf (C := RX11) (T := TX11) dX11_visitor_59 rfl rfl (by decide) rfl inX11 wd_884 rfl)) (hnd (hlf (ok_iload_n dX11_visitor_62 rfl rfl)) (hlf (ok_iast dX11_visitor_63 rfl)))) (hnd (hnd (hlf (ok_aload_n dX11_visitor_64 rfl rfl)) (hlf (ok_getf (C := RX11) (T := TX11) dX11_visitor_65 rfl rfl (by decide) rfl inX11 wd_887 rfl))) (hnd (hlf (ok_aload_n dX11_visitor_68 rfl rfl)) (hlf (ok_getf (C := RX11) (T := TX11) dX11_visitor_69 rfl rfl (by decide) rfl inX11 wd_884 rfl)))))) (hnd (hnd (hnd (hlf (ok_iload_n dX11_visitor_72 rfl rfl)) (hnd (hlf (ok_iast dX11_visitor_73 rfl)) (hlf (ok_aload_n dX11_visitor_74 rfl rfl)))) (hnd (hlf (ok_dup dX11_visitor_75 rfl)) (hnd (hlf (ok_getf (C := RX11) (T := TX11) dX11_visitor_76 rfl rfl (by decide) rfl inX11 wd_884 rfl)) (hlf (ok_iconst dX11_visitor_79 (by decide) rfl))))) (hnd (hnd (hlf (ok_iadd dX11_visitor_80 rfl)) (hnd (hlf (ok_putf (C := RX11) (T := TX11) dX11_visitor_81 rfl rfl (by decide) rfl inX11 tyX11_ok nmX11 rfl rfl (fun _ _ => rfl) wd_884 rfl)) (hlf (ok_aload_n dX11_visitor_84 rfl rfl)))) (hnd (hnd (hlf (ok_getf (C := RX11) (T := TX11) dX11_visitor_85 rfl rfl (by decide) rfl inX11 wd_884 rfl)) (hlf (ok_iconst dX11_visitor_88 (by decide) rfl))) (hnd (hlf (ok_isub dX11_visitor_89 rfl)) (hlf (ok_iret dX11_visitor_90)))))))

noncomputable def sp_X11_visitor : HSp := fun as w σ K => wp ins_X11_visitor (fun _ => none) K 90 0 (loc0 4 as) [] w σ
theorem vc_X11_visitor : MVC ins_X11_visitor 4 4 sp_X11_visitor := mvc0 90 fun _ _ _ _ _ h => h
theorem ct_X11_visitor : Ctr yX11_visitor cX11_visitor 4 (some .int) 2 0 0 4 sp_X11_visitor := ctr_of (by decide +kernel) rfl (by decide) ok_X11_visitor vc_X11_visitor

theorem dX11_isOf_0 : decode cX11_isOf 0 = .ok (.aload_n 0, 1) := by decide +kernel
theorem dX11_isOf_1 : decode cX11_isOf 1 = .ok (.iload_n 1, 1) := by decide +kernel
theorem dX11_isOf_2 : decode cX11_isOf 2 = .ok (.invokevirtual 111, 3) := by decide +kernel
theorem dX11_isOf_5 : decode cX11_isOf 5 = .ok (.ifCond .eq 12, 3) := by decide +kernel
theorem dX11_isOf_8 : decode cX11_isOf 8 = .ok (.iload_n 2, 1) := by decide +kernel
theorem dX11_isOf_9 : decode cX11_isOf 9 = .ok (.iconst 0, 1) := by decide +kernel
theorem dX11_isOf_10 : decode cX11_isOf 10 = .ok (.iconst 3, 1) := by decide +kernel
theorem dX11_isOf_11 : decode cX11_isOf 11 = .ok (.invokestatic 102, 3) := by decide +kernel
theorem dX11_isOf_14 : decode cX11_isOf 14 = .ok (.ifCond .ne 6, 3) := by decide +kernel
theorem dX11_isOf_17 : decode cX11_isOf 17 = .ok (.ldc 109, 2) := by decide +kernel
theorem dX11_isOf_19 : decode cX11_isOf 19 = .ok (.ireturn, 1) := by decide +kernel
theorem dX11_isOf_20 : decode cX11_isOf 20 = .ok (.aload_n 0, 1) := by decide +kernel
theorem dX11_isOf_21 : decode cX11_isOf 21 = .ok (.getfield 25, 3) := by decide +kernel
theorem dX11_isOf_24 : decode cX11_isOf 24 = .ok (.iload_n 1, 1) := by decide +kernel
theorem dX11_isOf_25 : decode cX11_isOf 25 = .ok (.iaload, 1) := by decide +kernel
theorem dX11_isOf_26 : decode cX11_isOf 26 = .ok (.istore_n 3, 1) := by decide +kernel
theorem dX11_isOf_27 : decode cX11_isOf 27 = .ok (.iload_n 2, 1) := by decide +kernel
theorem dX11_isOf_28 : decode cX11_isOf 28 = .ok (.ifCond .eq 18, 3) := by decide +kernel
theorem dX11_isOf_31 : decode cX11_isOf 31 = .ok (.iload_n 2, 1) := by decide +kernel
theorem dX11_isOf_32 : decode cX11_isOf 32 = .ok (.iload_n 3, 1) := by decide +kernel
theorem dX11_isOf_33 : decode cX11_isOf 33 = .ok (.if_icmp .eq 13, 3) := by decide +kernel
theorem dX11_isOf_36 : decode cX11_isOf 36 = .ok (.iload_n 2, 1) := by decide +kernel
theorem dX11_isOf_37 : decode cX11_isOf 37 = .ok (.iconst 1, 1) := by decide +kernel
theorem dX11_isOf_38 : decode cX11_isOf 38 = .ok (.if_icmp .ne 12, 3) := by decide +kernel
theorem dX11_isOf_41 : decode cX11_isOf 41 = .ok (.iload_n 3, 1) := by decide +kernel
theorem dX11_isOf_42 : decode cX11_isOf 42 = .ok (.iconst 3, 1) := by decide +kernel
theorem dX11_isOf_43 : decode cX11_isOf 43 = .ok (.if_icmp .ne 7, 3) := by decide +kernel
theorem dX11_isOf_46 : decode cX11_isOf 46 = .ok (.iconst 1, 1) := by decide +kernel
theorem dX11_isOf_47 : decode cX11_isOf 47 = .ok (.goto 4, 3) := by decide +kernel
theorem dX11_isOf_50 : decode cX11_isOf 50 = .ok (.iconst 0, 1) := by decide +kernel
theorem dX11_isOf_51 : decode cX11_isOf 51 = .ok (.ireturn, 1) := by decide +kernel
def ins_X11_isOf (pc : Nat) : HOp := cond (Nat.blt pc 26) (cond (Nat.blt pc 11) (cond (Nat.blt pc 5) (cond (Nat.blt pc 1) (cond (Nat.beq pc 0) (o_aload 0 1) o_bad) (cond (Nat.blt pc 2) (cond (Nat.beq pc 1) (o_iload 1 2) o_bad) (cond (Nat.beq pc 2) (o_callV 2 11 sp_X11_isVisitor 5) o_bad))) (cond (Nat.blt pc 9) (cond (Nat.blt pc 8) (cond (Nat.beq pc 5) (o_if (fun x => x = 0) 17 8) o_bad) (cond (Nat.beq pc 8) (o_iload 2 9) o_bad)) (cond (Nat.blt pc 10) (cond (Nat.beq pc 9) (o_const (0) 10) o_bad) (cond (Nat.beq pc 10) (o_const (3) 11) o_bad)))) (cond (Nat.blt pc 20) (cond (Nat.blt pc 17) (cond (Nat.blt pc 14) (cond (Nat.beq pc 11) (o_callS 3 sp_X11_isIn 14) o_bad) (cond (Nat.beq pc 14) (o_if (fun x => x = 0) 17 20) o_bad)) (cond (Nat.blt pc 19) (cond (Nat.beq pc 17) (o_const (-1000000001) 19) o_bad) (cond (Nat.beq pc 19) (o_iret) o_bad))) (cond (Nat.blt pc 24) (cond (Nat.blt pc 21) (cond (Nat.beq pc 20) (o_aload 0 21) o_bad) (cond (Nat.beq pc 21) (o_getf 11 8 24) o_bad)) (cond (Nat.blt pc 25) (cond (Nat.beq pc 24) (o_iload 1 25) o_bad) (cond (Nat.beq pc 25) (o_iald 26) o_bad))))) (cond (Nat.blt pc 38) (cond (Nat.blt pc 32) (cond (Nat.blt pc 28) (cond (Nat.blt pc 27) (cond (Nat.beq pc 26) (o_istore 3 27) o_bad) (cond (Nat.beq pc 27) (o_iload 2 28) o_bad)) (cond (Nat.blt pc 31) (cond (Nat.beq pc 28) (o_if (fun x => x = 0) 46 31) o_bad) (cond (Nat.beq pc 31) (o_iload 2 32) o_bad))) (cond (Nat.blt pc 36) (cond (Nat.blt pc 33) (cond (Nat.beq pc 32) (o_iload 3 33) o_bad) (cond (Nat.beq pc 33) (o_icmp (fun x y => x = y) 46 36) o_bad)) (cond (Nat.blt pc 37) (cond (Nat.beq pc 36) (o_iload 2 37) o_bad) (cond (Nat.beq pc 37) (o_const (1) 38) o_bad)))) (cond (Nat.blt pc 46) (cond (Nat.blt pc 42) (cond (Nat.blt pc 41) (cond (Nat.beq pc 38) (o_icmp (fun x y => x = y) 41 50) o_bad) (cond (Nat.beq pc 41) (o_iload 3 42) o_bad)) (cond (Nat.blt pc 43) (cond (Nat.beq pc 42) (o_const (3) 43) o_bad) (cond (Nat.beq pc 43) (o_icmp (fun x y => x = y) 46 50) o_bad))) (cond (Nat.blt pc 50) (cond (Nat.blt pc 47) (cond (Nat.beq pc 46) (o_const (1) 47) o_bad) (cond (Nat.beq pc 47) (o_goto 51) o_bad)) (cond (Nat.blt pc 51) (cond (Nat.beq pc 50) (o_const (0) 51) o_bad) (cond (Nat.beq pc 51) (o_iret) o_bad)))))
set_option maxRecDepth 20000 in
theorem ok_X11_isOf : HOKs cX11_isOf RX11 4 (some .int) 3 ins_X11_isOf := fun _ => hnd (hnd (hnd (hnd (hlf (ok_aload_n dX11_isOf_0 rfl rfl)) (hnd (hlf (ok_iload_n dX11_isOf_1 rfl rfl)) (hlf (ok_callV (y := yX11_isVisitor) (n' := 1) (C := RX11) (T := TX11) dX11_isOf_2 ct_X11_isVisitor (by decide) (by decide) wd_1031 wd_1028 wd_1030 wd_17 wd_50 rfl (by decide +kernel) rfl rfl rfl)))) (hnd (hnd (hlf (ok_if_eq dX11_isOf_5 (by decide) rfl)) (hlf (ok_iload_n dX11_isOf_8 rfl rfl))) (hnd (hlf (ok_iconst dX11_isOf_9 (by decide) rfl)) (hlf (ok_iconst dX11_isOf_10 (by decide) rfl))))) (hnd (hnd (hnd (hlf (ok_callS (y := yX11_isIn) dX11_isOf_11 ct_X11_isIn (by decide) (by decide) wd_1017 wd_1015 wd_1016 wd_50 (by decide +kernel) rfl)) (hlf (ok_if_ne dX11_isOf_14 (by decide) rfl))) (hnd (hlf (ok_ldc dX11_isOf_17 wd_1018 rfl)) (hlf (ok_iret dX11_isOf_19)))) (hnd (hnd (hlf (ok_aload_n dX11_isOf_20 rfl rfl)) (hlf (ok_getf (C := RX11) (T := TX11) dX11_isOf_21 rfl rfl (by decide) rfl inX11 wd_885 rfl))) (hnd (hlf (ok_iload_n dX11_isOf_24 rfl rfl)) (hlf (ok_iald dX11_isOf_25 rfl)))))) (hnd (hnd (hnd (hnd (hlf (ok_istore_n dX11_isOf_26 rfl (by decide) rfl)) (hlf (ok_iload_n dX11_isOf_27 rfl rfl))) (hnd (hlf (ok_if_eq dX11_isOf_28 (by decide) rfl)) (hlf (ok_iload_n dX11_isOf_31 rfl rfl)))) (hnd (hnd (hlf (ok_iload_n dX11_isOf_32 rfl rfl)) (hlf (ok_icmp_eq dX11_isOf_33 (by decide) rfl))) (hnd (hlf (ok_iload_n dX11_isOf_36 rfl rfl)) (hlf (ok_iconst dX11_isOf_37 (by decide) rfl))))) (hnd (hnd (hnd (hlf (ok_icmp_ne dX11_isOf_38 (by decide) rfl)) (hlf (ok_iload_n dX11_isOf_41 rfl rfl))) (hnd (hlf (ok_iconst dX11_isOf_42 (by decide) rfl)) (hlf (ok_icmp_ne dX11_isOf_43 (by decide) rfl)))) (hnd (hnd (hlf (ok_iconst dX11_isOf_46 (by decide) rfl)) (hlf (ok_goto dX11_isOf_47 (by decide)))) (hnd (hlf (ok_iconst dX11_isOf_50 (by decide) rfl)) (hlf (ok_iret dX11_isOf_51))))))

noncomputable def sp_X11_isOf : HSp := fun as w σ K => wp ins_X11_isOf (fun _ => none) K 60 0 (loc0 4 as) [] w σ
theorem vc_X11_isOf : MVC ins_X11_isOf 4 3 sp_X11_isOf := mvc0 60 fun _ _ _ _ _ h => h
theorem ct_X11_isOf : Ctr yX11_isOf cX11_isOf 4 (some .int) 3 0 0 3 sp_X11_isOf := ctr_of (by decide +kernel) rfl (by decide) ok_X11_isOf vc_X11_isOf

theorem dX11_list_0 : decode cX11_list 0 = .ok (.aload_n 0, 1) := by decide +kernel
theorem dX11_list_1 : decode cX11_list 1 = .ok (.iload_n 1, 1) := by decide +kernel
theorem dX11_list_2 : decode cX11_list 2 = .ok (.invokevirtual 115, 3) := by decide +kernel
theorem dX11_list_5 : decode cX11_list 5 = .ok (.ifCond .eq 20, 3) := by decide +kernel
theorem dX11_list_8 : decode cX11_list 8 = .ok (.aload_n 0, 1) := by decide +kernel
theorem dX11_list_9 : decode cX11_list 9 = .ok (.iload_n 2, 1) := by decide +kernel
theorem dX11_list_10 : decode cX11_list 10 = .ok (.invokevirtual 111, 3) := by decide +kernel
theorem dX11_list_13 : decode cX11_list 13 = .ok (.ifCond .eq 12, 3) := by decide +kernel
theorem dX11_list_16 : decode cX11_list 16 = .ok (.iload_n 3, 1) := by decide +kernel
theorem dX11_list_17 : decode cX11_list 17 = .ok (.iconst 0, 1) := by decide +kernel
theorem dX11_list_18 : decode cX11_list 18 = .ok (.iconst 1, 1) := by decide +kernel
theorem dX11_list_19 : decode cX11_list 19 = .ok (.invokestatic 102, 3) := by decide +kernel
theorem dX11_list_22 : decode cX11_list 22 = .ok (.ifCond .ne 6, 3) := by decide +kernel
theorem dX11_list_25 : decode cX11_list 25 = .ok (.ldc 109, 2) := by decide +kernel
theorem dX11_list_27 : decode cX11_list 27 = .ok (.ireturn, 1) := by decide +kernel
theorem dX11_list_28 : decode cX11_list 28 = .ok (.aload_n 0, 1) := by decide +kernel
theorem dX11_list_29 : decode cX11_list 29 = .ok (.getfield 19, 3) := by decide +kernel
theorem dX11_list_32 : decode cX11_list 32 = .ok (.iload_n 1, 1) := by decide +kernel
theorem dX11_list_33 : decode cX11_list 33 = .ok (.iaload, 1) := by decide +kernel
theorem dX11_list_34 : decode cX11_list 34 = .ok (.iload_n 2, 1) := by decide +kernel
theorem dX11_list_35 : decode cX11_list 35 = .ok (.ishr, 1) := by decide +kernel
theorem dX11_list_36 : decode cX11_list 36 = .ok (.iconst 1, 1) := by decide +kernel
theorem dX11_list_37 : decode cX11_list 37 = .ok (.iand, 1) := by decide +kernel
theorem dX11_list_38 : decode cX11_list 38 = .ok (.istore 4, 2) := by decide +kernel
theorem dX11_list_40 : decode cX11_list 40 = .ok (.iload 4, 2) := by decide +kernel
theorem dX11_list_42 : decode cX11_list 42 = .ok (.iload_n 3, 1) := by decide +kernel
theorem dX11_list_43 : decode cX11_list 43 = .ok (.if_icmp .eq 15, 3) := by decide +kernel
theorem dX11_list_46 : decode cX11_list 46 = .ok (.aload_n 0, 1) := by decide +kernel
theorem dX11_list_47 : decode cX11_list 47 = .ok (.getfield 19, 3) := by decide +kernel
theorem dX11_list_50 : decode cX11_list 50 = .ok (.iload_n 1, 1) := by decide +kernel
theorem dX11_list_51 : decode cX11_list 51 = .ok (.dup2, 1) := by decide +kernel
theorem dX11_list_52 : decode cX11_list 52 = .ok (.iaload, 1) := by decide +kernel
theorem dX11_list_53 : decode cX11_list 53 = .ok (.iconst 1, 1) := by decide +kernel
theorem dX11_list_54 : decode cX11_list 54 = .ok (.iload_n 2, 1) := by decide +kernel
theorem dX11_list_55 : decode cX11_list 55 = .ok (.ishl, 1) := by decide +kernel
theorem dX11_list_56 : decode cX11_list 56 = .ok (.ixor, 1) := by decide +kernel
theorem dX11_list_57 : decode cX11_list 57 = .ok (.iastore, 1) := by decide +kernel
theorem dX11_list_58 : decode cX11_list 58 = .ok (.iload 4, 2) := by decide +kernel
theorem dX11_list_60 : decode cX11_list 60 = .ok (.ireturn, 1) := by decide +kernel
def ins_X11_list (pc : Nat) : HOp := cond (Nat.blt pc 34) (cond (Nat.blt pc 17) (cond (Nat.blt pc 8) (cond (Nat.blt pc 2) (cond (Nat.blt pc 1) (cond (Nat.beq pc 0) (o_aload 0 1) o_bad) (cond (Nat.beq pc 1) (o_iload 1 2) o_bad)) (cond (Nat.blt pc 5) (cond (Nat.beq pc 2) (o_callV 2 11 sp_X11_isPrisoner 5) o_bad) (cond (Nat.beq pc 5) (o_if (fun x => x = 0) 25 8) o_bad))) (cond (Nat.blt pc 10) (cond (Nat.blt pc 9) (cond (Nat.beq pc 8) (o_aload 0 9) o_bad) (cond (Nat.beq pc 9) (o_iload 2 10) o_bad)) (cond (Nat.blt pc 13) (cond (Nat.beq pc 10) (o_callV 2 11 sp_X11_isVisitor 13) o_bad) (cond (Nat.blt pc 16) (cond (Nat.beq pc 13) (o_if (fun x => x = 0) 25 16) o_bad) (cond (Nat.beq pc 16) (o_iload 3 17) o_bad))))) (cond (Nat.blt pc 27) (cond (Nat.blt pc 19) (cond (Nat.blt pc 18) (cond (Nat.beq pc 17) (o_const (0) 18) o_bad) (cond (Nat.beq pc 18) (o_const (1) 19) o_bad)) (cond (Nat.blt pc 22) (cond (Nat.beq pc 19) (o_callS 3 sp_X11_isIn 22) o_bad) (cond (Nat.blt pc 25) (cond (Nat.beq pc 22) (o_if (fun x => x = 0) 25 28) o_bad) (cond (Nat.beq pc 25) (o_const (-1000000001) 27) o_bad)))) (cond (Nat.blt pc 29) (cond (Nat.blt pc 28) (cond (Nat.beq pc 27) (o_iret) o_bad) (cond (Nat.beq pc 28) (o_aload 0 29) o_bad)) (cond (Nat.blt pc 32) (cond (Nat.beq pc 29) (o_getf 11 5 32) o_bad) (cond (Nat.blt pc 33) (cond (Nat.beq pc 32) (o_iload 1 33) o_bad) (cond (Nat.beq pc 33) (o_iald 34) o_bad)))))) (cond (Nat.blt pc 50) (cond (Nat.blt pc 40) (cond (Nat.blt pc 36) (cond (Nat.blt pc 35) (cond (Nat.beq pc 34) (o_iload 2 35) o_bad) (cond (Nat.beq pc 35) (o_bin (fun x y => x >>> (y &&& 31)) 36) o_bad)) (cond (Nat.blt pc 37) (cond (Nat.beq pc 36) (o_const (1) 37) o_bad) (cond (Nat.blt pc 38) (cond (Nat.beq pc 37) (o_bin (fun x y => x &&& y) 38) o_bad) (cond (Nat.beq pc 38) (o_istore 4 40) o_bad)))) (cond (Nat.blt pc 43) (cond (Nat.blt pc 42) (cond (Nat.beq pc 40) (o_iload 4 42) o_bad) (cond (Nat.beq pc 42) (o_iload 3 43) o_bad)) (cond (Nat.blt pc 46) (cond (Nat.beq pc 43) (o_icmp (fun x y => x = y) 58 46) o_bad) (cond (Nat.blt pc 47) (cond (Nat.beq pc 46) (o_aload 0 47) o_bad) (cond (Nat.beq pc 47) (o_getf 11 5 50) o_bad))))) (cond (Nat.blt pc 55) (cond (Nat.blt pc 52) (cond (Nat.blt pc 51) (cond (Nat.beq pc 50) (o_iload 1 51) o_bad) (cond (Nat.beq pc 51) (o_dup2 52) o_bad)) (cond (Nat.blt pc 53) (cond (Nat.beq pc 52) (o_iald 53) o_bad) (cond (Nat.blt pc 54) (cond (Nat.beq pc 53) (o_const (1) 54) o_bad) (cond (Nat.beq pc 54) (o_iload 2 55) o_bad)))) (cond (Nat.blt pc 57) (cond (Nat.blt pc 56) (cond (Nat.beq pc 55) (o_bin (fun x y => x <<< (y &&& 31)) 56) o_bad) (cond (Nat.beq pc 56) (o_bin (fun x y => x ^^^ y) 57) o_bad)) (cond (Nat.blt pc 58) (cond (Nat.beq pc 57) (o_iast 58) o_bad) (cond (Nat.blt pc 60) (cond (Nat.beq pc 58) (o_iload 4 60) o_bad) (cond (Nat.beq pc 60) (o_iret) o_bad))))))
set_option maxRecDepth 20000 in
theorem ok_X11_list : HOKs cX11_list RX11 5 (some .int) 3 ins_X11_list := fun _ => hnd (hnd (hnd (hnd (hnd (hlf (ok_aload_n dX11_list_0 rfl rfl)) (hlf (ok_iload_n dX11_list_1 rfl rfl))) (hnd (hlf (ok_callV (y := yX11_isPrisoner) (n' := 1) (C := RX11) (T := TX11) dX11_list_2 ct_X11_isPrisoner (by decide) (by decide) wd_1039 wd_1036 wd_1038 wd_18 wd_50 rfl (by decide +kernel) rfl rfl rfl)) (hlf (ok_if_eq dX11_list_5 (by decide) rfl)))) (hnd (hnd (hlf (ok_aload_n dX11_list_8 rfl rfl)) (hlf (ok_iload_n dX11_list_9 rfl rfl))) (hnd (hlf (ok_callV (y := yX11_isVisitor) (n' := 1) (C := RX11) (T := TX11) dX11_list_10 ct_X11_isVisitor (by decide) (by decide) wd_1031 wd_1028 wd_1030 wd_17 wd_50 rfl (by decide +kernel) rfl rfl rfl)) (hnd (hlf (ok_if_eq dX11_list_13 (by decide) rfl)) (hlf (ok_iload_n dX11_list_16 rfl rfl)))))) (hnd (hnd (hnd (hlf (ok_iconst dX11_list_17 (by decide) rfl)) (hlf (ok_iconst dX11_list_18 (by decide) rfl))) (hnd (hlf (ok_callS (y := yX11_isIn) dX11_list_19 ct_X11_isIn (by decide) (by decide) wd_1017 wd_1015 wd_1016 wd_50 (by decide +kernel) rfl)) (hnd (hlf (ok_if_ne dX11_list_22 (by decide) rfl)) (hlf (ok_ldc dX11_list_25 wd_1018 rfl))))) (hnd (hnd (hlf (ok_iret dX11_list_27)) (hlf (ok_aload_n dX11_list_28 rfl rfl))) (hnd (hlf (ok_getf (C := RX11) (T := TX11) dX11_list_29 rfl rfl (by decide) rfl inX11 wd_882 rfl)) (hnd (hlf (ok_iload_n dX11_list_32 rfl rfl)) (hlf (ok_iald dX11_list_33 rfl))))))) (hnd (hnd (hnd (hnd (hlf (ok_iload_n dX11_list_34 rfl rfl)) (hlf (ok_ishr dX11_list_35 rfl))) (hnd (hlf (ok_iconst dX11_list_36 (by decide) rfl)) (hnd (hlf (ok_iand dX11_list_37 rfl)) (hlf (ok_istore dX11_list_38 (by decide) rfl))))) (hnd (hnd (hlf (ok_iload dX11_list_40 rfl)) (hlf (ok_iload_n dX11_list_42 rfl rfl))) (hnd (hlf (ok_icmp_eq dX11_list_43 (by decide) rfl)) (hnd (hlf (ok_aload_n dX11_list_46 rfl rfl)) (hlf (ok_getf (C := RX11) (T := TX11) dX11_list_47 rfl rfl (by decide) rfl inX11 wd_882 rfl)))))) (hnd (hnd (hnd (hlf (ok_iload_n dX11_list_50 rfl rfl)) (hlf (ok_dup2 dX11_list_51 rfl))) (hnd (hlf (ok_iald dX11_list_52 rfl)) (hnd (hlf (ok_iconst dX11_list_53 (by decide) rfl)) (hlf (ok_iload_n dX11_list_54 rfl rfl))))) (hnd (hnd (hlf (ok_ishl dX11_list_55 rfl)) (hlf (ok_ixor dX11_list_56 rfl))) (hnd (hlf (ok_iast dX11_list_57 rfl)) (hnd (hlf (ok_iload dX11_list_58 rfl)) (hlf (ok_iret dX11_list_60)))))))

noncomputable def sp_X11_list : HSp := fun as w σ K => wp ins_X11_list (fun _ => none) K 80 0 (loc0 5 as) [] w σ
theorem vc_X11_list : MVC ins_X11_list 5 4 sp_X11_list := mvc0 80 fun _ _ _ _ _ h => h
theorem ct_X11_list : Ctr yX11_list cX11_list 5 (some .int) 3 0 0 4 sp_X11_list := ctr_of (by decide +kernel) rfl (by decide) ok_X11_list vc_X11_list

theorem dX11_lift_0 : decode cX11_lift 0 = .ok (.aload_n 0, 1) := by decide +kernel
theorem dX11_lift_1 : decode cX11_lift 1 = .ok (.iload_n 1, 1) := by decide +kernel
theorem dX11_lift_2 : decode cX11_lift 2 = .ok (.invokevirtual 115, 3) := by decide +kernel
theorem dX11_lift_5 : decode cX11_lift 5 = .ok (.ifCond .eq 11, 3) := by decide +kernel
theorem dX11_lift_8 : decode cX11_lift 8 = .ok (.aload_n 0, 1) := by decide +kernel
theorem dX11_lift_9 : decode cX11_lift 9 = .ok (.iload_n 2, 1) := by decide +kernel
theorem dX11_lift_10 : decode cX11_lift 10 = .ok (.invokevirtual 111, 3) := by decide +kernel
theorem dX11_lift_13 : decode cX11_lift 13 = .ok (.ifCond .ne 6, 3) := by decide +kernel
theorem dX11_lift_16 : decode cX11_lift 16 = .ok (.ldc 109, 2) := by decide +kernel
theorem dX11_lift_18 : decode cX11_lift 18 = .ok (.ireturn, 1) := by decide +kernel
theorem dX11_lift_19 : decode cX11_lift 19 = .ok (.aload_n 0, 1) := by decide +kernel
theorem dX11_lift_20 : decode cX11_lift 20 = .ok (.getfield 22, 3) := by decide +kernel
theorem dX11_lift_23 : decode cX11_lift 23 = .ok (.bipush 14, 2) := by decide +kernel
theorem dX11_lift_25 : decode cX11_lift 25 = .ok (.iload_n 1, 1) := by decide +kernel
theorem dX11_lift_26 : decode cX11_lift 26 = .ok (.imul, 1) := by decide +kernel
theorem dX11_lift_27 : decode cX11_lift 27 = .ok (.iload_n 2, 1) := by decide +kernel
theorem dX11_lift_28 : decode cX11_lift 28 = .ok (.iadd, 1) := by decide +kernel
theorem dX11_lift_29 : decode cX11_lift 29 = .ok (.iaload, 1) := by decide +kernel
theorem dX11_lift_30 : decode cX11_lift 30 = .ok (.istore_n 3, 1) := by decide +kernel
theorem dX11_lift_31 : decode cX11_lift 31 = .ok (.iload_n 3, 1) := by decide +kernel
theorem dX11_lift_32 : decode cX11_lift 32 = .ok (.ifCond .ge 6, 3) := by decide +kernel
theorem dX11_lift_35 : decode cX11_lift 35 = .ok (.ldc 128, 2) := by decide +kernel
theorem dX11_lift_37 : decode cX11_lift 37 = .ok (.ireturn, 1) := by decide +kernel
theorem dX11_lift_38 : decode cX11_lift 38 = .ok (.aload_n 0, 1) := by decide +kernel
theorem dX11_lift_39 : decode cX11_lift 39 = .ok (.getfield 22, 3) := by decide +kernel
theorem dX11_lift_42 : decode cX11_lift 42 = .ok (.bipush 14, 2) := by decide +kernel
theorem dX11_lift_44 : decode cX11_lift 44 = .ok (.iload_n 1, 1) := by decide +kernel
theorem dX11_lift_45 : decode cX11_lift 45 = .ok (.imul, 1) := by decide +kernel
theorem dX11_lift_46 : decode cX11_lift 46 = .ok (.iload_n 2, 1) := by decide +kernel
theorem dX11_lift_47 : decode cX11_lift 47 = .ok (.iadd, 1) := by decide +kernel
theorem dX11_lift_48 : decode cX11_lift 48 = .ok (.iconst (-1), 1) := by decide +kernel
theorem dX11_lift_49 : decode cX11_lift 49 = .ok (.iastore, 1) := by decide +kernel
theorem dX11_lift_50 : decode cX11_lift 50 = .ok (.aload_n 0, 1) := by decide +kernel
theorem dX11_lift_51 : decode cX11_lift 51 = .ok (.invokevirtual 129, 3) := by decide +kernel
theorem dX11_lift_54 : decode cX11_lift 54 = .ok (.istore 4, 2) := by decide +kernel
theorem dX11_lift_56 : decode cX11_lift 56 = .ok (.iload_n 3, 1) := by decide +kernel
theorem dX11_lift_57 : decode cX11_lift 57 = .ok (.ireturn, 1) := by decide +kernel
def ins_X11_lift (pc : Nat) : HOp := cond (Nat.blt pc 30) (cond (Nat.blt pc 18) (cond (Nat.blt pc 8) (cond (Nat.blt pc 2) (cond (Nat.blt pc 1) (cond (Nat.beq pc 0) (o_aload 0 1) o_bad) (cond (Nat.beq pc 1) (o_iload 1 2) o_bad)) (cond (Nat.blt pc 5) (cond (Nat.beq pc 2) (o_callV 2 11 sp_X11_isPrisoner 5) o_bad) (cond (Nat.beq pc 5) (o_if (fun x => x = 0) 16 8) o_bad))) (cond (Nat.blt pc 10) (cond (Nat.blt pc 9) (cond (Nat.beq pc 8) (o_aload 0 9) o_bad) (cond (Nat.beq pc 9) (o_iload 2 10) o_bad)) (cond (Nat.blt pc 13) (cond (Nat.beq pc 10) (o_callV 2 11 sp_X11_isVisitor 13) o_bad) (cond (Nat.blt pc 16) (cond (Nat.beq pc 13) (o_if (fun x => x = 0) 16 19) o_bad) (cond (Nat.beq pc 16) (o_const (-1000000001) 18) o_bad))))) (cond (Nat.blt pc 25) (cond (Nat.blt pc 20) (cond (Nat.blt pc 19) (cond (Nat.beq pc 18) (o_iret) o_bad) (cond (Nat.beq pc 19) (o_aload 0 20) o_bad)) (cond (Nat.blt pc 23) (cond (Nat.beq pc 20) (o_getf 11 6 23) o_bad) (cond (Nat.beq pc 23) (o_const (14) 25) o_bad))) (cond (Nat.blt pc 27) (cond (Nat.blt pc 26) (cond (Nat.beq pc 25) (o_iload 1 26) o_bad) (cond (Nat.beq pc 26) (o_bin (fun x y => x * y) 27) o_bad)) (cond (Nat.blt pc 28) (cond (Nat.beq pc 27) (o_iload 2 28) o_bad) (cond (Nat.blt pc 29) (cond (Nat.beq pc 28) (o_bin (fun x y => x + y) 29) o_bad) (cond (Nat.beq pc 29) (o_iald 30) o_bad)))))) (cond (Nat.blt pc 45) (cond (Nat.blt pc 37) (cond (Nat.blt pc 32) (cond (Nat.blt pc 31) (cond (Nat.beq pc 30) (o_istore 3 31) o_bad) (cond (Nat.beq pc 31) (o_iload 3 32) o_bad)) (cond (Nat.blt pc 35) (cond (Nat.beq pc 32) (o_if (fun x => 0 ≤ x) 38 35) o_bad) (cond (Nat.beq pc 35) (o_const (-1000000002) 37) o_bad))) (cond (Nat.blt pc 39) (cond (Nat.blt pc 38) (cond (Nat.beq pc 37) (o_iret) o_bad) (cond (Nat.beq pc 38) (o_aload 0 39) o_bad)) (cond (Nat.blt pc 42) (cond (Nat.beq pc 39) (o_getf 11 6 42) o_bad) (cond (Nat.blt pc 44) (cond (Nat.beq pc 42) (o_const (14) 44) o_bad) (cond (Nat.beq pc 44) (o_iload 1 45) o_bad))))) (cond (Nat.blt pc 50) (cond (Nat.blt pc 47) (cond (Nat.blt pc 46) (cond (Nat.beq pc 45) (o_bin (fun x y => x * y) 46) o_bad) (cond (Nat.beq pc 46) (o_iload 2 47) o_bad)) (cond (Nat.blt pc 48) (cond (Nat.beq pc 47) (o_bin (fun x y => x + y) 48) o_bad) (cond (Nat.blt pc 49) (cond (Nat.beq pc 48) (o_const (-1) 49) o_bad) (cond (Nat.beq pc 49) (o_iast 50) o_bad)))) (cond (Nat.blt pc 54) (cond (Nat.blt pc 51) (cond (Nat.beq pc 50) (o_aload 0 51) o_bad) (cond (Nat.beq pc 51) (o_callV 1 11 sp_X11_walk 54) o_bad)) (cond (Nat.blt pc 56) (cond (Nat.beq pc 54) (o_istore 4 56) o_bad) (cond (Nat.blt pc 57) (cond (Nat.beq pc 56) (o_iload 3 57) o_bad) (cond (Nat.beq pc 57) (o_iret) o_bad))))))
set_option maxRecDepth 20000 in
theorem ok_X11_lift : HOKs cX11_lift RX11 5 (some .int) 7 ins_X11_lift := fun _ => hnd (hnd (hnd (hnd (hnd (hlf (ok_aload_n dX11_lift_0 rfl rfl)) (hlf (ok_iload_n dX11_lift_1 rfl rfl))) (hnd (hlf (ok_callV (y := yX11_isPrisoner) (n' := 1) (C := RX11) (T := TX11) dX11_lift_2 ct_X11_isPrisoner (by decide) (by decide) wd_1039 wd_1036 wd_1038 wd_18 wd_50 rfl (by decide +kernel) rfl rfl rfl)) (hlf (ok_if_eq dX11_lift_5 (by decide) rfl)))) (hnd (hnd (hlf (ok_aload_n dX11_lift_8 rfl rfl)) (hlf (ok_iload_n dX11_lift_9 rfl rfl))) (hnd (hlf (ok_callV (y := yX11_isVisitor) (n' := 1) (C := RX11) (T := TX11) dX11_lift_10 ct_X11_isVisitor (by decide) (by decide) wd_1031 wd_1028 wd_1030 wd_17 wd_50 rfl (by decide +kernel) rfl rfl rfl)) (hnd (hlf (ok_if_ne dX11_lift_13 (by decide) rfl)) (hlf (ok_ldc dX11_lift_16 wd_1018 rfl)))))) (hnd (hnd (hnd (hlf (ok_iret dX11_lift_18)) (hlf (ok_aload_n dX11_lift_19 rfl rfl))) (hnd (hlf (ok_getf (C := RX11) (T := TX11) dX11_lift_20 rfl rfl (by decide) rfl inX11 wd_883 rfl)) (hlf (ok_bipush dX11_lift_23 (by decide) rfl)))) (hnd (hnd (hlf (ok_iload_n dX11_lift_25 rfl rfl)) (hlf (ok_imul dX11_lift_26 rfl))) (hnd (hlf (ok_iload_n dX11_lift_27 rfl rfl)) (hnd (hlf (ok_iadd dX11_lift_28 rfl)) (hlf (ok_iald dX11_lift_29 rfl))))))) (hnd (hnd (hnd (hnd (hlf (ok_istore_n dX11_lift_30 rfl (by decide) rfl)) (hlf (ok_iload_n dX11_lift_31 rfl rfl))) (hnd (hlf (ok_if_ge dX11_lift_32 (by decide) rfl)) (hlf (ok_ldc dX11_lift_35 wd_1051 rfl)))) (hnd (hnd (hlf (ok_iret dX11_lift_37)) (hlf (ok_aload_n dX11_lift_38 rfl rfl))) (hnd (hlf (ok_getf (C := RX11) (T := TX11) dX11_lift_39 rfl rfl (by decide) rfl inX11 wd_883 rfl)) (hnd (hlf (ok_bipush dX11_lift_42 (by decide) rfl)) (hlf (ok_iload_n dX11_lift_44 rfl rfl)))))) (hnd (hnd (hnd (hlf (ok_imul dX11_lift_45 rfl)) (hlf (ok_iload_n dX11_lift_46 rfl rfl))) (hnd (hlf (ok_iadd dX11_lift_47 rfl)) (hnd (hlf (ok_iconst dX11_lift_48 (by decide) rfl)) (hlf (ok_iast dX11_lift_49 rfl))))) (hnd (hnd (hlf (ok_aload_n dX11_lift_50 rfl rfl)) (hlf (ok_callV (y := yX11_walk) (n' := 0) (C := RX11) (T := TX11) dX11_lift_51 ct_X11_walk (by decide) (by decide) wd_1055 wd_1052 wd_1054 wd_19 wd_50 rfl (by decide +kernel) rfl rfl rfl))) (hnd (hlf (ok_istore dX11_lift_54 (by decide) rfl)) (hnd (hlf (ok_iload_n dX11_lift_56 rfl rfl)) (hlf (ok_iret dX11_lift_57)))))))

noncomputable def sp_X11_lift : HSp := fun as w σ K => wp ins_X11_lift (fun _ => none) K 80 0 (loc0 5 as) [] w σ
theorem vc_X11_lift : MVC ins_X11_lift 5 3 sp_X11_lift := mvc0 80 fun _ _ _ _ _ h => h
theorem ct_X11_lift : Ctr yX11_lift cX11_lift 5 (some .int) 7 0 0 3 sp_X11_lift := ctr_of (by decide +kernel) rfl (by decide) ok_X11_lift vc_X11_lift

theorem dX11_rivals_0 : decode cX11_rivals 0 = .ok (.iload_n 1, 1) := by decide +kernel
theorem dX11_rivals_1 : decode cX11_rivals 1 = .ok (.iconst 0, 1) := by decide +kernel
theorem dX11_rivals_2 : decode cX11_rivals 2 = .ok (.bipush 9, 2) := by decide +kernel
theorem dX11_rivals_4 : decode cX11_rivals 4 = .ok (.invokestatic 102, 3) := by decide +kernel
theorem dX11_rivals_7 : decode cX11_rivals 7 = .ok (.ifCond .eq 27, 3) := by decide +kernel
theorem dX11_rivals_10 : decode cX11_rivals 10 = .ok (.iload_n 2, 1) := by decide +kernel
theorem dX11_rivals_11 : decode cX11_rivals 11 = .ok (.iconst 0, 1) := by decide +kernel
theorem dX11_rivals_12 : decode cX11_rivals 12 = .ok (.bipush 9, 2) := by decide +kernel
theorem dX11_rivals_14 : decode cX11_rivals 14 = .ok (.invokestatic 102, 3) := by decide +kernel
theorem dX11_rivals_17 : decode cX11_rivals 17 = .ok (.ifCond .eq 17, 3) := by decide +kernel
theorem dX11_rivals_20 : decode cX11_rivals 20 = .ok (.iload_n 1, 1) := by decide +kernel
theorem dX11_rivals_21 : decode cX11_rivals 21 = .ok (.iload_n 2, 1) := by decide +kernel
theorem dX11_rivals_22 : decode cX11_rivals 22 = .ok (.if_icmp .eq 12, 3) := by decide +kernel
theorem dX11_rivals_25 : decode cX11_rivals 25 = .ok (.iload_n 3, 1) := by decide +kernel
theorem dX11_rivals_26 : decode cX11_rivals 26 = .ok (.iconst 0, 1) := by decide +kernel
theorem dX11_rivals_27 : decode cX11_rivals 27 = .ok (.iconst 1, 1) := by decide +kernel
theorem dX11_rivals_28 : decode cX11_rivals 28 = .ok (.invokestatic 102, 3) := by decide +kernel
theorem dX11_rivals_31 : decode cX11_rivals 31 = .ok (.ifCond .ne 6, 3) := by decide +kernel
theorem dX11_rivals_34 : decode cX11_rivals 34 = .ok (.ldc 109, 2) := by decide +kernel
theorem dX11_rivals_36 : decode cX11_rivals 36 = .ok (.ireturn, 1) := by decide +kernel
theorem dX11_rivals_37 : decode cX11_rivals 37 = .ok (.aload_n 0, 1) := by decide +kernel
theorem dX11_rivals_38 : decode cX11_rivals 38 = .ok (.getfield 34, 3) := by decide +kernel
theorem dX11_rivals_41 : decode cX11_rivals 41 = .ok (.iload_n 1, 1) := by decide +kernel
theorem dX11_rivals_42 : decode cX11_rivals 42 = .ok (.iaload, 1) := by decide +kernel
theorem dX11_rivals_43 : decode cX11_rivals 43 = .ok (.iload_n 2, 1) := by decide +kernel
theorem dX11_rivals_44 : decode cX11_rivals 44 = .ok (.ishr, 1) := by decide +kernel
theorem dX11_rivals_45 : decode cX11_rivals 45 = .ok (.iconst 1, 1) := by decide +kernel
theorem dX11_rivals_46 : decode cX11_rivals 46 = .ok (.iand, 1) := by decide +kernel
theorem dX11_rivals_47 : decode cX11_rivals 47 = .ok (.istore 4, 2) := by decide +kernel
theorem dX11_rivals_49 : decode cX11_rivals 49 = .ok (.iload 4, 2) := by decide +kernel
theorem dX11_rivals_51 : decode cX11_rivals 51 = .ok (.iload_n 3, 1) := by decide +kernel
theorem dX11_rivals_52 : decode cX11_rivals 52 = .ok (.if_icmp .eq 27, 3) := by decide +kernel
theorem dX11_rivals_55 : decode cX11_rivals 55 = .ok (.aload_n 0, 1) := by decide +kernel
theorem dX11_rivals_56 : decode cX11_rivals 56 = .ok (.getfield 34, 3) := by decide +kernel
theorem dX11_rivals_59 : decode cX11_rivals 59 = .ok (.iload_n 1, 1) := by decide +kernel
theorem dX11_rivals_60 : decode cX11_rivals 60 = .ok (.dup2, 1) := by decide +kernel
theorem dX11_rivals_61 : decode cX11_rivals 61 = .ok (.iaload, 1) := by decide +kernel
theorem dX11_rivals_62 : decode cX11_rivals 62 = .ok (.iconst 1, 1) := by decide +kernel
theorem dX11_rivals_63 : decode cX11_rivals 63 = .ok (.iload_n 2, 1) := by decide +kernel
theorem dX11_rivals_64 : decode cX11_rivals 64 = .ok (.ishl, 1) := by decide +kernel
theorem dX11_rivals_65 : decode cX11_rivals 65 = .ok (.ixor, 1) := by decide +kernel
theorem dX11_rivals_66 : decode cX11_rivals 66 = .ok (.iastore, 1) := by decide +kernel
theorem dX11_rivals_67 : decode cX11_rivals 67 = .ok (.aload_n 0, 1) := by decide +kernel
theorem dX11_rivals_68 : decode cX11_rivals 68 = .ok (.getfield 34, 3) := by decide +kernel
theorem dX11_rivals_71 : decode cX11_rivals 71 = .ok (.iload_n 2, 1) := by decide +kernel
theorem dX11_rivals_72 : decode cX11_rivals 72 = .ok (.dup2, 1) := by decide +kernel
theorem dX11_rivals_73 : decode cX11_rivals 73 = .ok (.iaload, 1) := by decide +kernel
theorem dX11_rivals_74 : decode cX11_rivals 74 = .ok (.iconst 1, 1) := by decide +kernel
theorem dX11_rivals_75 : decode cX11_rivals 75 = .ok (.iload_n 1, 1) := by decide +kernel
theorem dX11_rivals_76 : decode cX11_rivals 76 = .ok (.ishl, 1) := by decide +kernel
theorem dX11_rivals_77 : decode cX11_rivals 77 = .ok (.ixor, 1) := by decide +kernel
theorem dX11_rivals_78 : decode cX11_rivals 78 = .ok (.iastore, 1) := by decide +kernel
theorem dX11_rivals_79 : decode cX11_rivals 79 = .ok (.aload_n 0, 1) := by decide +kernel
theorem dX11_rivals_80 : decode cX11_rivals 80 = .ok (.invokevirtual 129, 3) := by decide +kernel
theorem dX11_rivals_83 : decode cX11_rivals 83 = .ok (.istore 5, 2) := by decide +kernel
theorem dX11_rivals_85 : decode cX11_rivals 85 = .ok (.iload 4, 2) := by decide +kernel
theorem dX11_rivals_87 : decode cX11_rivals 87 = .ok (.ireturn, 1) := by decide +kernel
def ins_X11_rivals (pc : Nat) : HOp := cond (Nat.blt pc 47) (cond (Nat.blt pc 26) (cond (Nat.blt pc 12) (cond (Nat.blt pc 4) (cond (Nat.blt pc 1) (cond (Nat.beq pc 0) (o_iload 1 1) o_bad) (cond (Nat.blt pc 2) (cond (Nat.beq pc 1) (o_const (0) 2) o_bad) (cond (Nat.beq pc 2) (o_const (9) 4) o_bad))) (cond (Nat.blt pc 10) (cond (Nat.blt pc 7) (cond (Nat.beq pc 4) (o_callS 3 sp_X11_isIn 7) o_bad) (cond (Nat.beq pc 7) (o_if (fun x => x = 0) 34 10) o_bad)) (cond (Nat.blt pc 11) (cond (Nat.beq pc 10) (o_iload 2 11) o_bad) (cond (Nat.beq pc 11) (o_const (0) 12) o_bad)))) (cond (Nat.blt pc 20) (cond (Nat.blt pc 14) (cond (Nat.beq pc 12) (o_const (9) 14) o_bad) (cond (Nat.blt pc 17) (cond (Nat.beq pc 14) (o_callS 3 sp_X11_isIn 17) o_bad) (cond (Nat.beq pc 17) (o_if (fun x => x = 0) 34 20) o_bad))) (cond (Nat.blt pc 22) (cond (Nat.blt pc 21) (cond (Nat.beq pc 20) (o_iload 1 21) o_bad) (cond (Nat.beq pc 21) (o_iload 2 22) o_bad)) (cond (Nat.blt pc 25) (cond (Nat.beq pc 22) (o_icmp (fun x y => x = y) 34 25) o_bad) (cond (Nat.beq pc 25) (o_iload 3 26) o_bad))))) (cond (Nat.blt pc 38) (cond (Nat.blt pc 31) (cond (Nat.blt pc 27) (cond (Nat.beq pc 26) (o_const (0) 27) o_bad) (cond (Nat.blt pc 28) (cond (Nat.beq pc 27) (o_const (1) 28) o_bad) (cond (Nat.beq pc 28) (o_callS 3 sp_X11_isIn 31) o_bad))) (cond (Nat.blt pc 36) (cond (Nat.blt pc 34) (cond (Nat.beq pc 31) (o_if (fun x => x = 0) 34 37) o_bad) (cond (Nat.beq pc 34) (o_const (-1000000001) 36) o_bad)) (cond (Nat.blt pc 37) (cond (Nat.beq pc 36) (o_iret) o_bad) (cond (Nat.beq pc 37) (o_aload 0 38) o_bad)))) (cond (Nat.blt pc 43) (cond (Nat.blt pc 41) (cond (Nat.beq pc 38) (o_getf 11 11 41) o_bad) (cond (Nat.blt pc 42) (cond (Nat.beq pc 41) (o_iload 1 42) o_bad) (cond (Nat.beq pc 42) (o_iald 43) o_bad))) (cond (Nat.blt pc 45) (cond (Nat.blt pc 44) (cond (Nat.beq pc 43) (o_iload 2 44) o_bad) (cond (Nat.beq pc 44) (o_bin (fun x y => x >>> (y &&& 31)) 45) o_bad)) (cond (Nat.blt pc 46) (cond (Nat.beq pc 45) (o_const (1) 46) o_bad) (cond (Nat.beq pc 46) (o_bin (fun x y => x &&& y) 47) o_bad)))))) (cond (Nat.blt pc 67) (cond (Nat.blt pc 60) (cond (Nat.blt pc 52) (cond (Nat.blt pc 49) (cond (Nat.beq pc 47) (o_istore 4 49) o_bad) (cond (Nat.blt pc 51) (cond (Nat.beq pc 49) (o_iload 4 51) o_bad) (cond (Nat.beq pc 51) (o_iload 3 52) o_bad))) (cond (Nat.blt pc 56) (cond (Nat.blt pc 55) (cond (Nat.beq pc 52) (o_icmp (fun x y => x = y) 79 55) o_bad) (cond (Nat.beq pc 55) (o_aload 0 56) o_bad)) (cond (Nat.blt pc 59) (cond (Nat.beq pc 56) (o_getf 11 11 59) o_bad) (cond (Nat.beq pc 59) (o_iload 1 60) o_bad)))) (cond (Nat.blt pc 63) (cond (Nat.blt pc 61) (cond (Nat.beq pc 60) (o_dup2 61) o_bad) (cond (Nat.blt pc 62) (cond (Nat.beq pc 61) (o_iald 62) o_bad) (cond (Nat.beq pc 62) (o_const (1) 63) o_bad))) (cond (Nat.blt pc 65) (cond (Nat.blt pc 64) (cond (Nat.beq pc 63) (o_iload 2 64) o_bad) (cond (Nat.beq pc 64) (o_bin (fun x y => x <<< (y &&& 31)) 65) o_bad)) (cond (Nat.blt pc 66) (cond (Nat.beq pc 65) (o_bin (fun x y => x ^^^ y) 66) o_bad) (cond (Nat.beq pc 66) (o_iast 67) o_bad))))) (cond (Nat.blt pc 76) (cond (Nat.blt pc 72) (cond (Nat.blt pc 68) (cond (Nat.beq pc 67) (o_aload 0 68) o_bad) (cond (Nat.blt pc 71) (cond (Nat.beq pc 68) (o_getf 11 11 71) o_bad) (cond (Nat.beq pc 71) (o_iload 2 72) o_bad))) (cond (Nat.blt pc 74) (cond (Nat.blt pc 73) (cond (Nat.beq pc 72) (o_dup2 73) o_bad) (cond (Nat.beq pc 73) (o_iald 74) o_bad)) (cond (Nat.blt pc 75) (cond (Nat.beq pc 74) (o_const (1) 75) o_bad) (cond (Nat.beq pc 75) (o_iload 1 76) o_bad)))) (cond (Nat.blt pc 80) (cond (Nat.blt pc 78) (cond (Nat.blt pc 77) (cond (Nat.beq pc 76) (o_bin (fun x y => x <<< (y &&& 31)) 77) o_bad) (cond (Nat.beq pc 77) (o_bin (fun x y => x ^^^ y) 78) o_bad)) (cond (Nat.blt pc 79) (cond (Nat.beq pc 78) (o_iast 79) o_bad) (cond (Nat.beq pc 79) (o_aload 0 80) o_bad))) (cond (Nat.blt pc 85) (cond (Nat.blt pc 83) (cond (Nat.beq pc 80) (o_callV 1 11 sp_X11_walk 83) o_bad) (cond (Nat.beq pc 83) (o_istore 5 85) o_bad)) (cond (Nat.blt pc 87) (cond (Nat.beq pc 85) (o_iload 4 87) o_bad) (cond (Nat.beq pc 87) (o_iret) o_bad))))))
set_option maxRecDepth 20000 in
theorem ok_X11_rivals : HOKs cX11_rivals RX11 6 (some .int) 7 ins_X11_rivals := fun _ => hnd (hnd (hnd (hnd (hnd (hlf (ok_iload_n dX11_rivals_0 rfl rfl)) (hnd (hlf (ok_iconst dX11_rivals_1 (by decide) rfl)) (hlf (ok_bipush dX11_rivals_2 (by decide) rfl)))) (hnd (hnd (hlf (ok_callS (y := yX11_isIn) dX11_rivals_4 ct_X11_isIn (by decide) (by decide) wd_1017 wd_1015 wd_1016 wd_50 (by decide +kernel) rfl)) (hlf (ok_if_eq dX11_rivals_7 (by decide) rfl))) (hnd (hlf (ok_iload_n dX11_rivals_10 rfl rfl)) (hlf (ok_iconst dX11_rivals_11 (by decide) rfl))))) (hnd (hnd (hlf (ok_bipush dX11_rivals_12 (by decide) rfl)) (hnd (hlf (ok_callS (y := yX11_isIn) dX11_rivals_14 ct_X11_isIn (by decide) (by decide) wd_1017 wd_1015 wd_1016 wd_50 (by decide +kernel) rfl)) (hlf (ok_if_eq dX11_rivals_17 (by decide) rfl)))) (hnd (hnd (hlf (ok_iload_n dX11_rivals_20 rfl rfl)) (hlf (ok_iload_n dX11_rivals_21 rfl rfl))) (hnd (hlf (ok_icmp_eq dX11_rivals_22 (by decide) rfl)) (hlf (ok_iload_n dX11_rivals_25 rfl rfl)))))) (hnd (hnd (hnd (hlf (ok_iconst dX11_rivals_26 (by decide) rfl)) (hnd (hlf (ok_iconst dX11_rivals_27 (by decide) rfl)) (hlf (ok_callS (y := yX11_isIn) dX11_rivals_28 ct_X11_isIn (by decide) (by decide) wd_1017 wd_1015 wd_1016 wd_50 (by decide +kernel) rfl)))) (hnd (hnd (hlf (ok_if_ne dX11_rivals_31 (by decide) rfl)) (hlf (ok_ldc dX11_rivals_34 wd_1018 rfl))) (hnd (hlf (ok_iret dX11_rivals_36)) (hlf (ok_aload_n dX11_rivals_37 rfl rfl))))) (hnd (hnd (hlf (ok_getf (C := RX11) (T := TX11) dX11_rivals_38 rfl rfl (by decide) rfl inX11 wd_888 rfl)) (hnd (hlf (ok_iload_n dX11_rivals_41 rfl rfl)) (hlf (ok_iald dX11_rivals_42 rfl)))) (hnd (hnd (hlf (ok_iload_n dX11_rivals_43 rfl rfl)) (hlf (ok_ishr dX11_rivals_44 rfl))) (hnd (hlf (ok_iconst dX11_rivals_45 (by decide) rfl)) (hlf (ok_iand dX11_rivals_46 rfl))))))) (hnd (hnd (hnd (hnd (hlf (ok_istore dX11_rivals_47 (by decide) rfl)) (hnd (hlf (ok_iload dX11_rivals_49 rfl)) (hlf (ok_iload_n dX11_rivals_51 rfl rfl)))) (hnd (hnd (hlf (ok_icmp_eq dX11_rivals_52 (by decide) rfl)) (hlf (ok_aload_n dX11_rivals_55 rfl rfl))) (hnd (hlf (ok_getf (C := RX11) (T := TX11) dX11_rivals_56 rfl rfl (by decide) rfl inX11 wd_888 rfl)) (hlf (ok_iload_n dX11_rivals_59 rfl rfl))))) (hnd (hnd (hlf (ok_dup2 dX11_rivals_60 rfl)) (hnd (hlf (ok_iald dX11_rivals_61 rfl)) (hlf (ok_iconst dX11_rivals_62 (by decide) rfl)))) (hnd (hnd (hlf (ok_iload_n dX11_rivals_63 rfl rfl)) (hlf (ok_ishl dX11_rivals_64 rfl))) (hnd (hlf (ok_ixor dX11_rivals_65 rfl)) (hlf (ok_iast dX11_rivals_66 rfl)))))) (hnd (hnd (hnd (hlf (ok_aload_n dX11_rivals_67 rfl rfl)) (hnd (hlf (ok_getf (C := RX11) (T := TX11) dX11_rivals_68 rfl rfl (by decide) rfl inX11 wd_888 rfl)) (hlf (ok_iload_n dX11_rivals_71 rfl rfl)))) (hnd (hnd (hlf (ok_dup2 dX11_rivals_72 rfl)) (hlf (ok_iald dX11_rivals_73 rfl))) (hnd (hlf (ok_iconst dX11_rivals_74 (by decide) rfl)) (hlf (ok_iload_n dX11_rivals_75 rfl rfl))))) (hnd (hnd (hnd (hlf (ok_ishl dX11_rivals_76 rfl)) (hlf (ok_ixor dX11_rivals_77 rfl))) (hnd (hlf (ok_iast dX11_rivals_78 rfl)) (hlf (ok_aload_n dX11_rivals_79 rfl rfl)))) (hnd (hnd (hlf (ok_callV (y := yX11_walk) (n' := 0) (C := RX11) (T := TX11) dX11_rivals_80 ct_X11_walk (by decide) (by decide) wd_1055 wd_1052 wd_1054 wd_19 wd_50 rfl (by decide +kernel) rfl rfl rfl)) (hlf (ok_istore dX11_rivals_83 (by decide) rfl))) (hnd (hlf (ok_iload dX11_rivals_85 rfl)) (hlf (ok_iret dX11_rivals_87)))))))

noncomputable def sp_X11_rivals : HSp := fun as w σ K => wp ins_X11_rivals (fun _ => none) K 90 0 (loc0 6 as) [] w σ
theorem vc_X11_rivals : MVC ins_X11_rivals 6 4 sp_X11_rivals := mvc0 90 fun _ _ _ _ _ h => h
theorem ct_X11_rivals : Ctr yX11_rivals cX11_rivals 6 (some .int) 7 0 0 4 sp_X11_rivals := ctr_of (by decide +kernel) rfl (by decide) ok_X11_rivals vc_X11_rivals

theorem dX11_feed_0 : decode cX11_feed 0 = .ok (.aload_n 0, 1) := by decide +kernel
theorem dX11_feed_1 : decode cX11_feed 1 = .ok (.getfield 133, 3) := by decide +kernel
theorem dX11_feed_4 : decode cX11_feed 4 = .ok (.bipush 12, 2) := by decide +kernel
theorem dX11_feed_6 : decode cX11_feed 6 = .ok (.iadd, 1) := by decide +kernel
theorem dX11_feed_7 : decode cX11_feed 7 = .ok (.bipush 60, 2) := by decide +kernel
theorem dX11_feed_9 : decode cX11_feed 9 = .ok (.if_icmp .le 6, 3) := by decide +kernel
theorem dX11_feed_12 : decode cX11_feed 12 = .ok (.ldc 110, 2) := by decide +kernel
theorem dX11_feed_14 : decode cX11_feed 14 = .ok (.ireturn, 1) := by decide +kernel
theorem dX11_feed_15 : decode cX11_feed 15 = .ok (.aload_n 0, 1) := by decide +kernel
theorem dX11_feed_16 : decode cX11_feed 16 = .ok (.iload_n 1, 1) := by decide +kernel
theorem dX11_feed_17 : decode cX11_feed 17 = .ok (.invokevirtual 136, 3) := by decide +kernel
theorem dX11_feed_20 : decode cX11_feed 20 = .ok (.aload_n 0, 1) := by decide +kernel
theorem dX11_feed_21 : decode cX11_feed 21 = .ok (.iload_n 2, 1) := by decide +kernel
theorem dX11_feed_22 : decode cX11_feed 22 = .ok (.invokevirtual 136, 3) := by decide +kernel
theorem dX11_feed_25 : decode cX11_feed 25 = .ok (.aload_n 0, 1) := by decide +kernel
theorem dX11_feed_26 : decode cX11_feed 26 = .ok (.iload_n 3, 1) := by decide +kernel
theorem dX11_feed_27 : decode cX11_feed 27 = .ok (.invokevirtual 136, 3) := by decide +kernel
theorem dX11_feed_30 : decode cX11_feed 30 = .ok (.aload_n 0, 1) := by decide +kernel
theorem dX11_feed_31 : decode cX11_feed 31 = .ok (.getfield 133, 3) := by decide +kernel
theorem dX11_feed_34 : decode cX11_feed 34 = .ok (.ireturn, 1) := by decide +kernel
def ins_X11_feed (pc : Nat) : HOp := cond (Nat.blt pc 17) (cond (Nat.blt pc 9) (cond (Nat.blt pc 4) (cond (Nat.blt pc 1) (cond (Nat.beq pc 0) (o_aload 0 1) o_bad) (cond (Nat.beq pc 1) (o_getf 11 20 4) o_bad)) (cond (Nat.blt pc 6) (cond (Nat.beq pc 4) (o_const (12) 6) o_bad) (cond (Nat.blt pc 7) (cond (Nat.beq pc 6) (o_bin (fun x y => x + y) 7) o_bad) (cond (Nat.beq pc 7) (o_const (60) 9) o_bad)))) (cond (Nat.blt pc 14) (cond (Nat.blt pc 12) (cond (Nat.beq pc 9) (o_icmp (fun x y => x ≤ y) 15 12) o_bad) (cond (Nat.beq pc 12) (o_const (-1000000003) 14) o_bad)) (cond (Nat.blt pc 15) (cond (Nat.beq pc 14) (o_iret) o_bad) (cond (Nat.blt pc 16) (cond (Nat.beq pc 15) (o_aload 0 16) o_bad) (cond (Nat.beq pc 16) (o_iload 1 17) o_bad))))) (cond (Nat.blt pc 26) (cond (Nat.blt pc 21) (cond (Nat.blt pc 20) (cond (Nat.beq pc 17) (o_callV 2 11 sp_X11_four 20) o_bad) (cond (Nat.beq pc 20) (o_aload 0 21) o_bad)) (cond (Nat.blt pc 22) (cond (Nat.beq pc 21) (o_iload 2 22) o_bad) (cond (Nat.blt pc 25) (cond (Nat.beq pc 22) (o_callV 2 11 sp_X11_four 25) o_bad) (cond (Nat.beq pc 25) (o_aload 0 26) o_bad)))) (cond (Nat.blt pc 30) (cond (Nat.blt pc 27) (cond (Nat.beq pc 26) (o_iload 3 27) o_bad) (cond (Nat.beq pc 27) (o_callV 2 11 sp_X11_four 30) o_bad)) (cond (Nat.blt pc 31) (cond (Nat.beq pc 30) (o_aload 0 31) o_bad) (cond (Nat.blt pc 34) (cond (Nat.beq pc 31) (o_getf 11 20 34) o_bad) (cond (Nat.beq pc 34) (o_iret) o_bad)))))
set_option maxRecDepth 20000 in
theorem ok_X11_feed : HOKs cX11_feed RX11 4 (some .int) 2 ins_X11_feed := fun _ => hnd (hnd (hnd (hnd (hlf (ok_aload_n dX11_feed_0 rfl rfl)) (hlf (ok_getf (C := RX11) (T := TX11) dX11_feed_1 rfl rfl (by decide) rfl inX11 wd_897 rfl))) (hnd (hlf (ok_bipush dX11_feed_4 (by decide) rfl)) (hnd (hlf (ok_iadd dX11_feed_6 rfl)) (hlf (ok_bipush dX11_feed_7 (by decide) rfl))))) (hnd (hnd (hlf (ok_icmp_le dX11_feed_9 (by decide) rfl)) (hlf (ok_ldc dX11_feed_12 wd_1019 rfl))) (hnd (hlf (ok_iret dX11_feed_14)) (hnd (hlf (ok_aload_n dX11_feed_15 rfl rfl)) (hlf (ok_iload_n dX11_feed_16 rfl rfl)))))) (hnd (hnd (hnd (hlf (ok_callV (y := yX11_four) (n' := 1) (C := RX11) (T := TX11) dX11_feed_17 ct_X11_four (by decide) (by decide) wd_1124 wd_1121 wd_1123 wd_32 wd_50 rfl (by decide +kernel) rfl rfl rfl)) (hlf (ok_aload_n dX11_feed_20 rfl rfl))) (hnd (hlf (ok_iload_n dX11_feed_21 rfl rfl)) (hnd (hlf (ok_callV (y := yX11_four) (n' := 1) (C := RX11) (T := TX11) dX11_feed_22 ct_X11_four (by decide) (by decide) wd_1124 wd_1121 wd_1123 wd_32 wd_50 rfl (by decide +kernel) rfl rfl rfl)) (hlf (ok_aload_n dX11_feed_25 rfl rfl))))) (hnd (hnd (hlf (ok_iload_n dX11_feed_26 rfl rfl)) (hlf (ok_callV (y := yX11_four) (n' := 1) (C := RX11) (T := TX11) dX11_feed_27 ct_X11_four (by decide) (by decide) wd_1124 wd_1121 wd_1123 wd_32 wd_50 rfl (by decide +kernel) rfl rfl rfl))) (hnd (hlf (ok_aload_n dX11_feed_30 rfl rfl)) (hnd (hlf (ok_getf (C := RX11) (T := TX11) dX11_feed_31 rfl rfl (by decide) rfl inX11 wd_897 rfl)) (hlf (ok_iret dX11_feed_34))))))

noncomputable def sp_X11_feed : HSp := fun as w σ K => wp ins_X11_feed (fun _ => none) K 40 0 (loc0 4 as) [] w σ
theorem vc_X11_feed : MVC ins_X11_feed 4 4 sp_X11_feed := mvc0 40 fun _ _ _ _ _ h => h
theorem ct_X11_feed : Ctr yX11_feed cX11_feed 4 (some .int) 2 0 0 4 sp_X11_feed := ctr_of (by decide +kernel) rfl (by decide) ok_X11_feed vc_X11_feed

theorem dX11_trim_0 : decode cX11_trim 0 = .ok (.iload_n 1, 1) := by decide +kernel
theorem dX11_trim_1 : decode cX11_trim 1 = .ok (.iconst 0, 1) := by decide +kernel
theorem dX11_trim_2 : decode cX11_trim 2 = .ok (.aload_n 0, 1) := by decide +kernel
theorem dX11_trim_3 : decode cX11_trim 3 = .ok (.getfield 133, 3) := by decide +kernel
theorem dX11_trim_6 : decode cX11_trim 6 = .ok (.invokestatic 102, 3) := by decide +kernel
theorem dX11_trim_9 : decode cX11_trim 9 = .ok (.ifCond .ne 6, 3) := by decide +kernel
theorem dX11_trim_12 : decode cX11_trim 12 = .ok (.ldc 109, 2) := by decide +kernel
theorem dX11_trim_14 : decode cX11_trim 14 = .ok (.ireturn, 1) := by decide +kernel
theorem dX11_trim_15 : decode cX11_trim 15 = .ok (.aload_n 0, 1) := by decide +kernel
theorem dX11_trim_16 : decode cX11_trim 16 = .ok (.iload_n 1, 1) := by decide +kernel
theorem dX11_trim_17 : decode cX11_trim 17 = .ok (.putfield 133, 3) := by decide +kernel
theorem dX11_trim_20 : decode cX11_trim 20 = .ok (.iload_n 1, 1) := by decide +kernel
theorem dX11_trim_21 : decode cX11_trim 21 = .ok (.ireturn, 1) := by decide +kernel
def ins_X11_trim (pc : Nat) : HOp := cond (Nat.blt pc 12) (cond (Nat.blt pc 3) (cond (Nat.blt pc 1) (cond (Nat.beq pc 0) (o_iload 1 1) o_bad) (cond (Nat.blt pc 2) (cond (Nat.beq pc 1) (o_const (0) 2) o_bad) (cond (Nat.beq pc 2) (o_aload 0 3) o_bad))) (cond (Nat.blt pc 6) (cond (Nat.beq pc 3) (o_getf 11 20 6) o_bad) (cond (Nat.blt pc 9) (cond (Nat.beq pc 6) (o_callS 3 sp_X11_isIn 9) o_bad) (cond (Nat.beq pc 9) (o_if (fun x => x = 0) 12 15) o_bad)))) (cond (Nat.blt pc 16) (cond (Nat.blt pc 14) (cond (Nat.beq pc 12) (o_const (-1000000001) 14) o_bad) (cond (Nat.blt pc 15) (cond (Nat.beq pc 14) (o_iret) o_bad) (cond (Nat.beq pc 15) (o_aload 0 16) o_bad))) (cond (Nat.blt pc 20) (cond (Nat.blt pc 17) (cond (Nat.beq pc 16) (o_iload 1 17) o_bad) (cond (Nat.beq pc 17) (o_putf 11 20 20) o_bad)) (cond (Nat.blt pc 21) (cond (Nat.beq pc 20) (o_iload 1 21) o_bad) (cond (Nat.beq pc 21) (o_iret) o_bad))))
set_option maxRecDepth 20000 in
theorem ok_X11_trim : HOKs cX11_trim RX11 2 (some .int) 2 ins_X11_trim := fun _ => hnd (hnd (hnd (hlf (ok_iload_n dX11_trim_0 rfl rfl)) (hnd (hlf (ok_iconst dX11_trim_1 (by decide) rfl)) (hlf (ok_aload_n dX11_trim_2 rfl rfl)))) (hnd (hlf (ok_getf (C := RX11) (T := TX11) dX11_trim_3 rfl rfl (by decide) rfl inX11 wd_897 rfl)) (hnd (hlf (ok_callS (y := yX11_isIn) dX11_trim_6 ct_X11_isIn (by decide) (by decide) wd_1017 wd_1015 wd_1016 wd_50 (by decide +kernel) rfl)) (hlf (ok_if_ne dX11_trim_9 (by decide) rfl))))) (hnd (hnd (hlf (ok_ldc dX11_trim_12 wd_1018 rfl)) (hnd (hlf (ok_iret dX11_trim_14)) (hlf (ok_aload_n dX11_trim_15 rfl rfl)))) (hnd (hnd (hlf (ok_iload_n dX11_trim_16 rfl rfl)) (hlf (ok_putf (C := RX11) (T := TX11) dX11_trim_17 rfl rfl (by decide) rfl inX11 tyX11_ok nmX11 rfl rfl (fun _ _ => rfl) wd_897 rfl))) (hnd (hlf (ok_iload_n dX11_trim_20 rfl rfl)) (hlf (ok_iret dX11_trim_21)))))

noncomputable def sp_X11_trim : HSp := fun as w σ K => wp ins_X11_trim (fun _ => none) K 30 0 (loc0 2 as) [] w σ
theorem vc_X11_trim : MVC ins_X11_trim 2 2 sp_X11_trim := mvc0 30 fun _ _ _ _ _ h => h
theorem ct_X11_trim : Ctr yX11_trim cX11_trim 2 (some .int) 2 0 0 2 sp_X11_trim := ctr_of (by decide +kernel) rfl (by decide) ok_X11_trim vc_X11_trim

theorem dX11_of_0 : decode cX11_of 0 = .ok (.iload_n 1, 1) := by decide +kernel
theorem dX11_of_1 : decode cX11_of 1 = .ok (.iconst 0, 1) := by decide +kernel
theorem dX11_of_2 : decode cX11_of 2 = .ok (.iconst 3, 1) := by decide +kernel
theorem dX11_of_3 : decode cX11_of 3 = .ok (.invokestatic 102, 3) := by decide +kernel
theorem dX11_of_6 : decode cX11_of 6 = .ok (.ifCond .eq 12, 3) := by decide +kernel
theorem dX11_of_9 : decode cX11_of 9 = .ok (.iload_n 2, 1) := by decide +kernel
theorem dX11_of_10 : decode cX11_of 10 = .ok (.iconst 0, 1) := by decide +kernel
theorem dX11_of_11 : decode cX11_of 11 = .ok (.iconst 5, 1) := by decide +kernel
theorem dX11_of_12 : decode cX11_of 12 = .ok (.invokestatic 102, 3) := by decide +kernel
theorem dX11_of_15 : decode cX11_of 15 = .ok (.ifCond .ne 6, 3) := by decide +kernel
theorem dX11_of_18 : decode cX11_of 18 = .ok (.ldc 109, 2) := by decide +kernel
theorem dX11_of_20 : decode cX11_of 20 = .ok (.ireturn, 1) := by decide +kernel
theorem dX11_of_21 : decode cX11_of 21 = .ok (.aload_n 0, 1) := by decide +kernel
theorem dX11_of_22 : decode cX11_of 22 = .ok (.getfield 37, 3) := by decide +kernel
theorem dX11_of_25 : decode cX11_of 25 = .ok (.iload_n 1, 1) := by decide +kernel
theorem dX11_of_26 : decode cX11_of 26 = .ok (.baload, 1) := by decide +kernel
theorem dX11_of_27 : decode cX11_of 27 = .ok (.ifCond .ne 6, 3) := by decide +kernel
theorem dX11_of_30 : decode cX11_of 30 = .ok (.ldc 128, 2) := by decide +kernel
theorem dX11_of_32 : decode cX11_of 32 = .ok (.ireturn, 1) := by decide +kernel
theorem dX11_of_33 : decode cX11_of 33 = .ok (.iload_n 2, 1) := by decide +kernel
theorem dX11_of_34 : decode cX11_of 34 = .ok (.tableswitch 69 0 4 #[34, 41, 48, 55, 62], 34) := by decide +kernel
theorem dX11_of_68 : decode cX11_of 68 = .ok (.aload_n 0, 1) := by decide +kernel
theorem dX11_of_69 : decode cX11_of 69 = .ok (.getfield 41, 3) := by decide +kernel
theorem dX11_of_72 : decode cX11_of 72 = .ok (.iload_n 1, 1) := by decide +kernel
theorem dX11_of_73 : decode cX11_of 73 = .ok (.iaload, 1) := by decide +kernel
theorem dX11_of_74 : decode cX11_of 74 = .ok (.ireturn, 1) := by decide +kernel
theorem dX11_of_75 : decode cX11_of 75 = .ok (.aload_n 0, 1) := by decide +kernel
theorem dX11_of_76 : decode cX11_of 76 = .ok (.getfield 44, 3) := by decide +kernel
theorem dX11_of_79 : decode cX11_of 79 = .ok (.iload_n 1, 1) := by decide +kernel
theorem dX11_of_80 : decode cX11_of 80 = .ok (.iaload, 1) := by decide +kernel
theorem dX11_of_81 : decode cX11_of 81 = .ok (.ireturn, 1) := by decide +kernel
theorem dX11_of_82 : decode cX11_of 82 = .ok (.aload_n 0, 1) := by decide +kernel
theorem dX11_of_83 : decode cX11_of 83 = .ok (.getfield 47, 3) := by decide +kernel
theorem dX11_of_86 : decode cX11_of 86 = .ok (.iload_n 1, 1) := by decide +kernel
theorem dX11_of_87 : decode cX11_of 87 = .ok (.iaload, 1) := by decide +kernel
theorem dX11_of_88 : decode cX11_of 88 = .ok (.ireturn, 1) := by decide +kernel
theorem dX11_of_89 : decode cX11_of 89 = .ok (.aload_n 0, 1) := by decide +kernel
theorem dX11_of_90 : decode cX11_of 90 = .ok (.getfield 50, 3) := by decide +kernel
theorem dX11_of_93 : decode cX11_of 93 = .ok (.iload_n 1, 1) := by decide +kernel
theorem dX11_of_94 : decode cX11_of 94 = .ok (.iaload, 1) := by decide +kernel
theorem dX11_of_95 : decode cX11_of 95 = .ok (.ireturn, 1) := by decide +kernel
theorem dX11_of_96 : decode cX11_of 96 = .ok (.aload_n 0, 1) := by decide +kernel
theorem dX11_of_97 : decode cX11_of 97 = .ok (.getfield 53, 3) := by decide +kernel
theorem dX11_of_100 : decode cX11_of 100 = .ok (.iload_n 1, 1) := by decide +kernel
theorem dX11_of_101 : decode cX11_of 101 = .ok (.iaload, 1) := by decide +kernel
theorem dX11_of_102 : decode cX11_of 102 = .ok (.ireturn, 1) := by decide +kernel
theorem dX11_of_103 : decode cX11_of 103 = .ok (.aload_n 0, 1) := by decide +kernel
theorem dX11_of_104 : decode cX11_of 104 = .ok (.getfield 56, 3) := by decide +kernel
theorem dX11_of_107 : decode cX11_of 107 = .ok (.iload_n 1, 1) := by decide +kernel
theorem dX11_of_108 : decode cX11_of 108 = .ok (.iaload, 1) := by decide +kernel
theorem dX11_of_109 : decode cX11_of 109 = .ok (.ireturn, 1) := by decide +kernel
def ins_X11_of (pc : Nat) : HOp := cond (Nat.blt pc 74) (cond (Nat.blt pc 21) (cond (Nat.blt pc 10) (cond (Nat.blt pc 3) (cond (Nat.blt pc 1) (cond (Nat.beq pc 0) (o_iload 1 1) o_bad) (cond (Nat.blt pc 2) (cond (Nat.beq pc 1) (o_const (0) 2) o_bad) (cond (Nat.beq pc 2) (o_const (3) 3) o_bad))) (cond (Nat.blt pc 6) (cond (Nat.beq pc 3) (o_callS 3 sp_X11_isIn 6) o_bad) (cond (Nat.blt pc 9) (cond (Nat.beq pc 6) (o_if (fun x => x = 0) 18 9) o_bad) (cond (Nat.beq pc 9) (o_iload 2 10) o_bad)))) (cond (Nat.blt pc 15) (cond (Nat.blt pc 11) (cond (Nat.beq pc 10) (o_const (0) 11) o_bad) (cond (Nat.blt pc 12) (cond (Nat.beq pc 11) (o_const (5) 12) o_bad) (cond (Nat.beq pc 12) (o_callS 3 sp_X11_isIn 15) o_bad))) (cond (Nat.blt pc 18) (cond (Nat.beq pc 15) (o_if (fun x => x = 0) 18 21) o_bad) (cond (Nat.blt pc 20) (cond (Nat.beq pc 18) (o_const (-1000000001) 20) o_bad) (cond (Nat.beq pc 20) (o_iret) o_bad))))) (cond (Nat.blt pc 32) (cond (Nat.blt pc 26) (cond (Nat.blt pc 22) (cond (Nat.beq pc 21) (o_aload 0 22) o_bad) (cond (Nat.blt pc 25) (cond (Nat.beq pc 22) (o_getf 11 12 25) o_bad) (cond (Nat.beq pc 25) (o_iload 1 26) o_bad))) (cond (Nat.blt pc 27) (cond (Nat.beq pc 26) (o_bald 27) o_bad) (cond (Nat.blt pc 30) (cond (Nat.beq pc 27) (o_if (fun x => x = 0) 30 33) o_bad) (cond (Nat.beq pc 30) (o_const (-1000000002) 32) o_bad)))) (cond (Nat.blt pc 68) (cond (Nat.blt pc 33) (cond (Nat.beq pc 32) (o_iret) o_bad) (cond (Nat.blt pc 34) (cond (Nat.beq pc 33) (o_iload 2 34) o_bad) (cond (Nat.beq pc 34) (o_sw [(0, 68), (1, 75), (2, 82), (3, 89), (4, 96)] 103) o_bad))) (cond (Nat.blt pc 72) (cond (Nat.blt pc 69) (cond (Nat.beq pc 68) (o_aload 0 69) o_bad) (cond (Nat.beq pc 69) (o_getf 11 13 72) o_bad)) (cond (Nat.blt pc 73) (cond (Nat.beq pc 72) (o_iload 1 73) o_bad) (cond (Nat.beq pc 73) (o_iald 74) o_bad)))))) (cond (Nat.blt pc 93) (cond (Nat.blt pc 82) (cond (Nat.blt pc 79) (cond (Nat.blt pc 75) (cond (Nat.beq pc 74) (o_iret) o_bad) (cond (Nat.blt pc 76) (cond (Nat.beq pc 75) (o_aload 0 76) o_bad) (cond (Nat.beq pc 76) (o_getf 11 14 79) o_bad))) (cond (Nat.blt pc 80) (cond (Nat.beq pc 79) (o_iload 1 80) o_bad) (cond (Nat.blt pc 81) (cond (Nat.beq pc 80) (o_iald 81) o_bad) (cond (Nat.beq pc 81) (o_iret) o_bad)))) (cond (Nat.blt pc 87) (cond (Nat.blt pc 83) (cond (Nat.beq pc 82) (o_aload 0 83) o_bad) (cond (Nat.blt pc 86) (cond (Nat.beq pc 83) (o_getf 11 15 86) o_bad) (cond (Nat.beq pc 86) (o_iload 1 87) o_bad))) (cond (Nat.blt pc 89) (cond (Nat.blt pc 88) (cond (Nat.beq pc 87) (o_iald 88) o_bad) (cond (Nat.beq pc 88) (o_iret) o_bad)) (cond (Nat.blt pc 90) (cond (Nat.beq pc 89) (o_aload 0 90) o_bad) (cond (Nat.beq pc 90) (o_getf 11 16 93) o_bad))))) (cond (Nat.blt pc 101) (cond (Nat.blt pc 96) (cond (Nat.blt pc 94) (cond (Nat.beq pc 93) (o_iload 1 94) o_bad) (cond (Nat.blt pc 95) (cond (Nat.beq pc 94) (o_iald 95) o_bad) (cond (Nat.beq pc 95) (o_iret) o_bad))) (cond (Nat.blt pc 97) (cond (Nat.beq pc 96) (o_aload 0 97) o_bad) (cond (Nat.blt pc 100) (cond (Nat.beq pc 97) (o_getf 11 17 100) o_bad) (cond (Nat.beq pc 100) (o_iload 1 101) o_bad)))) (cond (Nat.blt pc 104) (cond (Nat.blt pc 102) (cond (Nat.beq pc 101) (o_iald 102) o_bad) (cond (Nat.blt pc 103) (cond (Nat.beq pc 102) (o_iret) o_bad) (cond (Nat.beq pc 103) (o_aload 0 104) o_bad))) (cond (Nat.blt pc 108) (cond (Nat.blt pc 107) (cond (Nat.beq pc 104) (o_getf 11 18 107) o_bad) (cond (Nat.beq pc 107) (o_iload 1 108) o_bad)) (cond (Nat.blt pc 109) (cond (Nat.beq pc 108) (o_iald 109) o_bad) (cond (Nat.beq pc 109) (o_iret) o_bad))))))
set_option maxRecDepth 20000 in
theorem ok_X11_of : HOKs cX11_of RX11 3 (some .int) 2 ins_X11_of := fun _ => hnd (hnd (hnd (hnd (hnd (hlf (ok_iload_n dX11_of_0 rfl rfl)) (hnd (hlf (ok_iconst dX11_of_1 (by decide) rfl)) (hlf (ok_iconst dX11_of_2 (by decide) rfl)))) (hnd (hlf (ok_callS (y := yX11_isIn) dX11_of_3 ct_X11_isIn (by decide) (by decide) wd_1017 wd_1015 wd_1016 wd_50 (by decide +kernel) rfl)) (hnd (hlf (ok_if_eq dX11_of_6 (by decide) rfl)) (hlf (ok_iload_n dX11_of_9 rfl rfl))))) (hnd (hnd (hlf (ok_iconst dX11_of_10 (by decide) rfl)) (hnd (hlf (ok_iconst dX11_of_11 (by decide) rfl)) (hlf (ok_callS (y := yX11_isIn) dX11_of_12 ct_X11_isIn (by decide) (by decide) wd_1017 wd_1015 wd_1016 wd_50 (by decide +kernel) rfl)))) (hnd (hlf (ok_if_ne dX11_of_15 (by decide) rfl)) (hnd (hlf (ok_ldc dX11_of_18 wd_1018 rfl)) (hlf (ok_iret dX11_of_20)))))) (hnd (hnd (hnd (hlf (ok_aload_n dX11_of_21 rfl rfl)) (hnd (hlf (ok_getf (C := RX11) (T := TX11) dX11_of_22 rfl rfl (by decide) rfl inX11 wd_889 rfl)) (hlf (ok_iload_n dX11_of_25 rfl rfl)))) (hnd (hlf (ok_bald dX11_of_26 rfl)) (hnd (hlf (ok_if_ne dX11_of_27 (by decide) rfl)) (hlf (ok_ldc dX11_of_30 wd_1051 rfl))))) (hnd (hnd (hlf (ok_iret dX11_of_32)) (hnd (hlf (ok_iload_n dX11_of_33 rfl rfl)) (hlf (ok_tsw dX11_of_34 (by decide) (by decide) (by decide))))) (hnd (hnd (hlf (ok_aload_n dX11_of_68 rfl rfl)) (hlf (ok_getf (C := RX11) (T := TX11) dX11_of_69 rfl rfl (by decide) rfl inX11 wd_890 rfl))) (hnd (hlf (ok_iload_n dX11_of_72 rfl rfl)) (hlf (ok_iald dX11_of_73 rfl))))))) (hnd (hnd (hnd (hnd (hlf (ok_iret dX11_of_74)) (hnd (hlf (ok_aload_n dX11_of_75 rfl rfl)) (hlf (ok_getf (C := RX11) (T := TX11) dX11_of_76 rfl rfl (by decide) rfl inX11 wd_891 rfl)))) (hnd (hlf (ok_iload_n dX11_of_79 rfl rfl)) (hnd (hlf (ok_iald dX11_of_80 rfl)) (hlf (ok_iret dX11_of_81))))) (hnd (hnd (hlf (ok_aload_n dX11_of_82 rfl rfl)) (hnd (hlf (ok_getf (C := RX11) (T := TX11) dX11_of_83 rfl rfl (by decide) rfl inX11 wd_892 rfl)) (hlf (ok_iload_n dX11_of_86 rfl rfl)))) (hnd (hnd (hlf (ok_iald dX11_of_87 rfl)) (hlf (ok_iret dX11_of_88))) (hnd (hlf (ok_aload_n dX11_of_89 rfl rfl)) (hlf (ok_getf (C := RX11) (T := TX11) dX11_of_90 rfl rfl (by decide) rfl inX11 wd_893 rfl)))))) (hnd (hnd (hnd (hlf (ok_iload_n dX11_of_93 rfl rfl)) (hnd (hlf (ok_iald dX11_of_94 rfl)) (hlf (ok_iret dX11_of_95)))) (hnd (hlf (ok_aload_n dX11_of_96 rfl rfl)) (hnd (hlf (ok_getf (C := RX11) (T := TX11) dX11_of_97 rfl rfl (by decide) rfl inX11 wd_894 rfl)) (hlf (ok_iload_n dX11_of_100 rfl rfl))))) (hnd (hnd (hlf (ok_iald dX11_of_101 rfl)) (hnd (hlf (ok_iret dX11_of_102)) (hlf (ok_aload_n dX11_of_103 rfl rfl)))) (hnd (hnd (hlf (ok_getf (C := RX11) (T := TX11) dX11_of_104 rfl rfl (by decide) rfl inX11 wd_895 rfl)) (hlf (ok_iload_n dX11_of_107 rfl rfl))) (hnd (hlf (ok_iald dX11_of_108 rfl)) (hlf (ok_iret dX11_of_109)))))))

noncomputable def sp_X11_of : HSp := fun as w σ K => wp ins_X11_of (fun _ => none) K 40 0 (loc0 3 as) [] w σ
theorem vc_X11_of : MVC ins_X11_of 3 3 sp_X11_of := mvc0 40 fun _ _ _ _ _ h => h
theorem ct_X11_of : Ctr yX11_of cX11_of 3 (some .int) 2 0 0 3 sp_X11_of := ctr_of (by decide +kernel) rfl (by decide) ok_X11_of vc_X11_of

theorem dX11_isAsked_0 : decode cX11_isAsked 0 = .ok (.aload_n 0, 1) := by decide +kernel
theorem dX11_isAsked_1 : decode cX11_isAsked 1 = .ok (.iload_n 1, 1) := by decide +kernel
theorem dX11_isAsked_2 : decode cX11_isAsked 2 = .ok (.invokevirtual 115, 3) := by decide +kernel
theorem dX11_isAsked_5 : decode cX11_isAsked 5 = .ok (.ifCond .eq 31, 3) := by decide +kernel
theorem dX11_isAsked_8 : decode cX11_isAsked 8 = .ok (.iload_n 2, 1) := by decide +kernel
theorem dX11_isAsked_9 : decode cX11_isAsked 9 = .ok (.iconst 1, 1) := by decide +kernel
theorem dX11_isAsked_10 : decode cX11_isAsked 10 = .ok (.iconst 1, 1) := by decide +kernel
theorem dX11_isAsked_11 : decode cX11_isAsked 11 = .ok (.aload_n 0, 1) := by decide +kernel
theorem dX11_isAsked_12 : decode cX11_isAsked 12 = .ok (.getfield 106, 3) := by decide +kernel
theorem dX11_isAsked_15 : decode cX11_isAsked 15 = .ok (.ishl, 1) := by decide +kernel
theorem dX11_isAsked_16 : decode cX11_isAsked 16 = .ok (.iconst 1, 1) := by decide +kernel
theorem dX11_isAsked_17 : decode cX11_isAsked 17 = .ok (.isub, 1) := by decide +kernel
theorem dX11_isAsked_18 : decode cX11_isAsked 18 = .ok (.invokestatic 102, 3) := by decide +kernel
theorem dX11_isAsked_21 : decode cX11_isAsked 21 = .ok (.ifCond .eq 15, 3) := by decide +kernel
theorem dX11_isAsked_24 : decode cX11_isAsked 24 = .ok (.iload_n 2, 1) := by decide +kernel
theorem dX11_isAsked_25 : decode cX11_isAsked 25 = .ok (.invokestatic 225, 3) := by decide +kernel
theorem dX11_isAsked_28 : decode cX11_isAsked 28 = .ok (.iconst 3, 1) := by decide +kernel
theorem dX11_isAsked_29 : decode cX11_isAsked 29 = .ok (.if_icmp .gt 7, 3) := by decide +kernel
theorem dX11_isAsked_32 : decode cX11_isAsked 32 = .ok (.iconst 1, 1) := by decide +kernel
theorem dX11_isAsked_33 : decode cX11_isAsked 33 = .ok (.goto 4, 3) := by decide +kernel
theorem dX11_isAsked_36 : decode cX11_isAsked 36 = .ok (.iconst 0, 1) := by decide +kernel
theorem dX11_isAsked_37 : decode cX11_isAsked 37 = .ok (.istore 5, 2) := by decide +kernel
theorem dX11_isAsked_39 : decode cX11_isAsked 39 = .ok (.iload_n 3, 1) := by decide +kernel
theorem dX11_isAsked_40 : decode cX11_isAsked 40 = .ok (.aload_n 0, 1) := by decide +kernel
theorem dX11_isAsked_41 : decode cX11_isAsked 41 = .ok (.getfield 125, 3) := by decide +kernel
theorem dX11_isAsked_44 : decode cX11_isAsked 44 = .ok (.sipush 400, 3) := by decide +kernel
theorem dX11_isAsked_47 : decode cX11_isAsked 47 = .ok (.invokestatic 102, 3) := by decide +kernel
theorem dX11_isAsked_50 : decode cX11_isAsked 50 = .ok (.ifCond .eq 41, 3) := by decide +kernel
theorem dX11_isAsked_53 : decode cX11_isAsked 53 = .ok (.iload 4, 2) := by decide +kernel
theorem dX11_isAsked_55 : decode cX11_isAsked 55 = .ok (.ifCond .lt 36, 3) := by decide +kernel
theorem dX11_isAsked_58 : decode cX11_isAsked 58 = .ok (.iload 4, 2) := by decide +kernel
theorem dX11_isAsked_60 : decode cX11_isAsked 60 = .ok (.bipush 10, 2) := by decide +kernel
theorem dX11_isAsked_62 : decode cX11_isAsked 62 = .ok (.irem, 1) := by decide +kernel
theorem dX11_isAsked_63 : decode cX11_isAsked 63 = .ok (.iconst 1, 1) := by decide +kernel
theorem dX11_isAsked_64 : decode cX11_isAsked 64 = .ok (.iconst 4, 1) := by decide +kernel
theorem dX11_isAsked_65 : decode cX11_isAsked 65 = .ok (.invokestatic 102, 3) := by decide +kernel
theorem dX11_isAsked_68 : decode cX11_isAsked 68 = .ok (.ifCond .eq 23, 3) := by decide +kernel
theorem dX11_isAsked_71 : decode cX11_isAsked 71 = .ok (.iload 4, 2) := by decide +kernel
theorem dX11_isAsked_73 : decode cX11_isAsked 73 = .ok (.bipush 10, 2) := by decide +kernel
theorem dX11_isAsked_75 : decode cX11_isAsked 75 = .ok (.idiv, 1) := by decide +kernel
theorem dX11_isAsked_76 : decode cX11_isAsked 76 = .ok (.iload 4, 2) := by decide +kernel
theorem dX11_isAsked_78 : decode cX11_isAsked 78 = .ok (.bipush 10, 2) := by decide +kernel
theorem dX11_isAsked_80 : decode cX11_isAsked 80 = .ok (.irem, 1) := by decide +kernel
theorem dX11_isAsked_81 : decode cX11_isAsked 81 = .ok (.iadd, 1) := by decide +kernel
theorem dX11_isAsked_82 : decode cX11_isAsked 82 = .ok (.bipush 12, 2) := by decide +kernel
theorem dX11_isAsked_84 : decode cX11_isAsked 84 = .ok (.if_icmp .gt 7, 3) := by decide +kernel
theorem dX11_isAsked_87 : decode cX11_isAsked 87 = .ok (.iconst 1, 1) := by decide +kernel
theorem dX11_isAsked_88 : decode cX11_isAsked 88 = .ok (.goto 4, 3) := by decide +kernel
theorem dX11_isAsked_91 : decode cX11_isAsked 91 = .ok (.iconst 0, 1) := by decide +kernel
theorem dX11_isAsked_92 : decode cX11_isAsked 92 = .ok (.istore 6, 2) := by decide +kernel
theorem dX11_isAsked_94 : decode cX11_isAsked 94 = .ok (.iload 5, 2) := by decide +kernel
theorem dX11_isAsked_96 : decode cX11_isAsked 96 = .ok (.ifCond .eq 12, 3) := by decide +kernel
theorem dX11_isAsked_99 : decode cX11_isAsked 99 = .ok (.iload 6, 2) := by decide +kernel
theorem dX11_isAsked_101 : decode cX11_isAsked 101 = .ok (.ifCond .eq 7, 3) := by decide +kernel
theorem dX11_isAsked_104 : decode cX11_isAsked 104 = .ok (.iconst 1, 1) := by decide +kernel
theorem dX11_isAsked_105 : decode cX11_isAsked 105 = .ok (.goto 4, 3) := by decide +kernel
theorem dX11_isAsked_108 : decode cX11_isAsked 108 = .ok (.iconst 0, 1) := by decide +kernel
theorem dX11_isAsked_109 : decode cX11_isAsked 109 = .ok (.ireturn, 1) := by decide +kernel
def ins_X11_isAsked (pc : Nat) : HOp := cond (Nat.blt pc 55) (cond (Nat.blt pc 24) (cond (Nat.blt pc 11) (cond (Nat.blt pc 5) (cond (Nat.blt pc 1) (cond (Nat.beq pc 0) (o_aload 0 1) o_bad) (cond (Nat.blt pc 2) (cond (Nat.beq pc 1) (o_iload 1 2) o_bad) (cond (Nat.beq pc 2) (o_callV 2 11 sp_X11_isPrisoner 5) o_bad))) (cond (Nat.blt pc 9) (cond (Nat.blt pc 8) (cond (Nat.beq pc 5) (o_if (fun x => x = 0) 36 8) o_bad) (cond (Nat.beq pc 8) (o_iload 2 9) o_bad)) (cond (Nat.blt pc 10) (cond (Nat.beq pc 9) (o_const (1) 10) o_bad) (cond (Nat.beq pc 10) (o_const (1) 11) o_bad)))) (cond (Nat.blt pc 16) (cond (Nat.blt pc 12) (cond (Nat.beq pc 11) (o_aload 0 12) o_bad) (cond (Nat.blt pc 15) (cond (Nat.beq pc 12) (o_getf 11 7 15) o_bad) (cond (Nat.beq pc 15) (o_bin (fun x y => x <<< (y &&& 31)) 16) o_bad))) (cond (Nat.blt pc 18) (cond (Nat.blt pc 17) (cond (Nat.beq pc 16) (o_const (1) 17) o_bad) (cond (Nat.beq pc 17) (o_bin (fun x y => x - y) 18) o_bad)) (cond (Nat.blt pc 21) (cond (Nat.beq pc 18) (o_callS 3 sp_X11_isIn 21) o_bad) (cond (Nat.beq pc 21) (o_if (fun x => x = 0) 36 24) o_bad))))) (cond (Nat.blt pc 37) (cond (Nat.blt pc 29) (cond (Nat.blt pc 25) (cond (Nat.beq pc 24) (o_iload 2 25) o_bad) (cond (Nat.blt pc 28) (cond (Nat.beq pc 25) (o_callS 1 sp_X11_bits 28) o_bad) (cond (Nat.beq pc 28) (o_const (3) 29) o_bad))) (cond (Nat.blt pc 33) (cond (Nat.blt pc 32) (cond (Nat.beq pc 29) (o_icmp (fun x y => y < x) 36 32) o_bad) (cond (Nat.beq pc 32) (o_const (1) 33) o_bad)) (cond (Nat.blt pc 36) (cond (Nat.beq pc 33) (o_goto 37) o_bad) (cond (Nat.beq pc 36) (o_const (0) 37) o_bad)))) (cond (Nat.blt pc 44) (cond (Nat.blt pc 40) (cond (Nat.blt pc 39) (cond (Nat.beq pc 37) (o_istore 5 39) o_bad) (cond (Nat.beq pc 39) (o_iload 3 40) o_bad)) (cond (Nat.blt pc 41) (cond (Nat.beq pc 40) (o_aload 0 41) o_bad) (cond (Nat.beq pc 41) (o_getf 11 0 44) o_bad))) (cond (Nat.blt pc 50) (cond (Nat.blt pc 47) (cond (Nat.beq pc 44) (o_const (400) 47) o_bad) (cond (Nat.beq pc 47) (o_callS 3 sp_X11_isIn 50) o_bad)) (cond (Nat.blt pc 53) (cond (Nat.beq pc 50) (o_if (fun x => x = 0) 91 53) o_bad) (cond (Nat.beq pc 53) (o_iload 4 55) o_bad)))))) (cond (Nat.blt pc 81) (cond (Nat.blt pc 68) (cond (Nat.blt pc 62) (cond (Nat.blt pc 58) (cond (Nat.beq pc 55) (o_if (fun x => x < 0) 91 58) o_bad) (cond (Nat.blt pc 60) (cond (Nat.beq pc 58) (o_iload 4 60) o_bad) (cond (Nat.beq pc 60) (o_const (10) 62) o_bad))) (cond (Nat.blt pc 64) (cond (Nat.blt pc 63) (cond (Nat.beq pc 62) (o_dv (fun x y => x - x / y * y) 63) o_bad) (cond (Nat.beq pc 63) (o_const (1) 64) o_bad)) (cond (Nat.blt pc 65) (cond (Nat.beq pc 64) (o_const (4) 65) o_bad) (cond (Nat.beq pc 65) (o_callS 3 sp_X11_isIn 68) o_bad)))) (cond (Nat.blt pc 75) (cond (Nat.blt pc 71) (cond (Nat.beq pc 68) (o_if (fun x => x = 0) 91 71) o_bad) (cond (Nat.blt pc 73) (cond (Nat.beq pc 71) (o_iload 4 73) o_bad) (cond (Nat.beq pc 73) (o_const (10) 75) o_bad))) (cond (Nat.blt pc 78) (cond (Nat.blt pc 76) (cond (Nat.beq pc 75) (o_dv (fun x y => x / y) 76) o_bad) (cond (Nat.beq pc 76) (o_iload 4 78) o_bad)) (cond (Nat.blt pc 80) (cond (Nat.beq pc 78) (o_const (10) 80) o_bad) (cond (Nat.beq pc 80) (o_dv (fun x y => x - x / y * y) 81) o_bad))))) (cond (Nat.blt pc 94) (cond (Nat.blt pc 87) (cond (Nat.blt pc 82) (cond (Nat.beq pc 81) (o_bin (fun x y => x + y) 82) o_bad) (cond (Nat.blt pc 84) (cond (Nat.beq pc 82) (o_const (12) 84) o_bad) (cond (Nat.beq pc 84) (o_icmp (fun x y => y < x) 91 87) o_bad))) (cond (Nat.blt pc 91) (cond (Nat.blt pc 88) (cond (Nat.beq pc 87) (o_const (1) 88) o_bad) (cond (Nat.beq pc 88) (o_goto 92) o_bad)) (cond (Nat.blt pc 92) (cond (Nat.beq pc 91) (o_const (0) 92) o_bad) (cond (Nat.beq pc 92) (o_istore 6 94) o_bad)))) (cond (Nat.blt pc 104) (cond (Nat.blt pc 99) (cond (Nat.blt pc 96) (cond (Nat.beq pc 94) (o_iload 5 96) o_bad) (cond (Nat.beq pc 96) (o_if (fun x => x = 0) 108 99) o_bad)) (cond (Nat.blt pc 101) (cond (Nat.beq pc 99) (o_iload 6 101) o_bad) (cond (Nat.beq pc 101) (o_if (fun x => x = 0) 108 104) o_bad))) (cond (Nat.blt pc 108) (cond (Nat.blt pc 105) (cond (Nat.beq pc 104) (o_const (1) 105) o_bad) (cond (Nat.beq pc 105) (o_goto 109) o_bad)) (cond (Nat.blt pc 109) (cond (Nat.beq pc 108) (o_const (0) 109) o_bad) (cond (Nat.beq pc 109) (o_zret) o_bad))))))
set_option maxRecDepth 20000 in
theorem ok_X11_isAsked : HOKs cX11_isAsked RX11 7 (some .boolean) 3 ins_X11_isAsked := fun _ => hnd (hnd (hnd (hnd (hnd (hlf (ok_aload_n dX11_isAsked_0 rfl rfl)) (hnd (hlf (ok_iload_n dX11_isAsked_1 rfl rfl)) (hlf (ok_callV (y := yX11_isPrisoner) (n' := 1) (C := RX11) (T := TX11) dX11_isAsked_2 ct_X11_isPrisoner (by decide) (by decide) wd_1039 wd_1036 wd_1038 wd_18 wd_50 rfl (by decide +kernel) rfl rfl rfl)))) (hnd (hnd (hlf (ok_if_eq dX11_isAsked_5 (by decide) rfl)) (hlf (ok_iload_n dX11_isAsked_8 rfl rfl))) (hnd (hlf (ok_iconst dX11_isAsked_9 (by decide) rfl)) (hlf (ok_iconst dX11_isAsked_10 (by decide) rfl))))) (hnd (hnd (hlf (ok_aload_n dX11_isAsked_11 rfl rfl)) (hnd (hlf (ok_getf (C := RX11) (T := TX11) dX11_isAsked_12 rfl rfl (by decide) rfl inX11 wd_884 rfl)) (hlf (ok_ishl dX11_isAsked_15 rfl)))) (hnd (hnd (hlf (ok_iconst dX11_isAsked_16 (by decide) rfl)) (hlf (ok_isub dX11_isAsked_17 rfl))) (hnd (hlf (ok_callS (y := yX11_isIn) dX11_isAsked_18 ct_X11_isIn (by decide) (by decide) wd_1017 wd_1015 wd_1016 wd_50 (by decide +kernel) rfl)) (hlf (ok_if_eq dX11_isAsked_21 (by decide) rfl)))))) (hnd (hnd (hnd (hlf (ok_iload_n dX11_isAsked_24 rfl rfl)) (hnd (hlf (ok_callS (y := yX11_bits) dX11_isAsked_25 ct_X11_bits (by decide) (by decide) wd_1167 wd_1165 wd_1166 wd_50 (by decide +kernel) rfl)) (hlf (ok_iconst dX11_isAsked_28 (by decide) rfl)))) (hnd (hnd (hlf (ok_icmp_gt dX11_isAsked_29 (by decide) rfl)) (hlf (ok_iconst dX11_isAsked_32 (by decide) rfl))) (hnd (hlf (ok_goto dX11_isAsked_33 (by decide))) (hlf (ok_iconst dX11_isAsked_36 (by decide) rfl))))) (hnd (hnd (hnd (hlf (ok_istore dX11_isAsked_37 (by decide) rfl)) (hlf (ok_iload_n dX11_isAsked_39 rfl rfl))) (hnd (hlf (ok_aload_n dX11_isAsked_40 rfl rfl)) (hlf (ok_getf (C := RX11) (T := TX11) dX11_isAsked_41 rfl rfl (by decide) rfl inX11 wd_877 rfl)))) (hnd (hnd (hlf (ok_sipush dX11_isAsked_44 (by decide) rfl)) (hlf (ok_callS (y := yX11_isIn) dX11_isAsked_47 ct_X11_isIn (by decide) (by decide) wd_1017 wd_1015 wd_1016 wd_50 (by decide +kernel) rfl))) (hnd (hlf (ok_if_eq dX11_isAsked_50 (by decide) rfl)) (hlf (ok_iload dX11_isAsked_53 rfl))))))) (hnd (hnd (hnd (hnd (hlf (ok_if_lt dX11_isAsked_55 (by decide) rfl)) (hnd (hlf (ok_iload dX11_isAsked_58 rfl)) (hlf (ok_bipush dX11_isAsked_60 (by decide) rfl)))) (hnd (hnd (hlf (ok_irem dX11_isAsked_62 rfl)) (hlf (ok_iconst dX11_isAsked_63 (by decide) rfl))) (hnd (hlf (ok_iconst dX11_isAsked_64 (by decide) rfl)) (hlf (ok_callS (y := yX11_isIn) dX11_isAsked_65 ct_X11_isIn (by decide) (by decide) wd_1017 wd_1015 wd_1016 wd_50 (by decide +kernel) rfl))))) (hnd (hnd (hlf (ok_if_eq dX11_isAsked_68 (by decide) rfl)) (hnd (hlf (ok_iload dX11_isAsked_71 rfl)) (hlf (ok_bipush dX11_isAsked_73 (by decide) rfl)))) (hnd (hnd (hlf (ok_idiv dX11_isAsked_75 rfl)) (hlf (ok_iload dX11_isAsked_76 rfl))) (hnd (hlf (ok_bipush dX11_isAsked_78 (by decide) rfl)) (hlf (ok_irem dX11_isAsked_80 rfl)))))) (hnd (hnd (hnd (hlf (ok_iadd dX11_isAsked_81 rfl)) (hnd (hlf (ok_bipush dX11_isAsked_82 (by decide) rfl)) (hlf (ok_icmp_gt dX11_isAsked_84 (by decide) rfl)))) (hnd (hnd (hlf (ok_iconst dX11_isAsked_87 (by decide) rfl)) (hlf (ok_goto dX11_isAsked_88 (by decide)))) (hnd (hlf (ok_iconst dX11_isAsked_91 (by decide) rfl)) (hlf (ok_istore dX11_isAsked_92 (by decide) rfl))))) (hnd (hnd (hnd (hlf (ok_iload dX11_isAsked_94 rfl)) (hlf (ok_if_eq dX11_isAsked_96 (by decide) rfl))) (hnd (hlf (ok_iload dX11_isAsked_99 rfl)) (hlf (ok_if_eq dX11_isAsked_101 (by decide) rfl)))) (hnd (hnd (hlf (ok_iconst dX11_isAsked_104 (by decide) rfl)) (hlf (ok_goto dX11_isAsked_105 (by decide)))) (hnd (hlf (ok_iconst dX11_isAsked_108 (by decide) rfl)) (hlf (ok_zret dX11_isAsked_109)))))))

noncomputable def sp_X11_isAsked : HSp := fun as w σ K => wp ins_X11_isAsked (fun _ => none) K 90 0 (loc0 7 as) [] w σ
theorem vc_X11_isAsked : MVC ins_X11_isAsked 7 5 sp_X11_isAsked := mvc0 90 fun _ _ _ _ _ h => h
theorem ct_X11_isAsked : Ctr yX11_isAsked cX11_isAsked 7 (some .boolean) 3 0 0 5 sp_X11_isAsked := ctr_of (by decide +kernel) rfl (by decide) ok_X11_isAsked vc_X11_isAsked

theorem dX11_ask_0 : decode cX11_ask 0 = .ok (.aload_n 0, 1) := by decide +kernel
theorem dX11_ask_1 : decode cX11_ask 1 = .ok (.iload_n 1, 1) := by decide +kernel
theorem dX11_ask_2 : decode cX11_ask 2 = .ok (.iload_n 2, 1) := by decide +kernel
theorem dX11_ask_3 : decode cX11_ask 3 = .ok (.iload_n 3, 1) := by decide +kernel
theorem dX11_ask_4 : decode cX11_ask 4 = .ok (.iload 4, 2) := by decide +kernel
theorem dX11_ask_6 : decode cX11_ask 6 = .ok (.invokevirtual 228, 3) := by decide +kernel
theorem dX11_ask_9 : decode cX11_ask 9 = .ok (.ifCond .eq 13, 3) := by decide +kernel
theorem dX11_ask_12 : decode cX11_ask 12 = .ok (.iload 5, 2) := by decide +kernel
theorem dX11_ask_14 : decode cX11_ask 14 = .ok (.iconst 0, 1) := by decide +kernel
theorem dX11_ask_15 : decode cX11_ask 15 = .ok (.iconst 1, 1) := by decide +kernel
theorem dX11_ask_16 : decode cX11_ask 16 = .ok (.invokestatic 102, 3) := by decide +kernel
theorem dX11_ask_19 : decode cX11_ask 19 = .ok (.ifCond .ne 6, 3) := by decide +kernel
theorem dX11_ask_22 : decode cX11_ask 22 = .ok (.ldc 109, 2) := by decide +kernel
theorem dX11_ask_24 : decode cX11_ask 24 = .ok (.ireturn, 1) := by decide +kernel
theorem dX11_ask_25 : decode cX11_ask 25 = .ok (.aload_n 0, 1) := by decide +kernel
theorem dX11_ask_26 : decode cX11_ask 26 = .ok (.getfield 118, 3) := by decide +kernel
theorem dX11_ask_29 : decode cX11_ask 29 = .ok (.bipush 100, 2) := by decide +kernel
theorem dX11_ask_31 : decode cX11_ask 31 = .ok (.if_icmp .ne 6, 3) := by decide +kernel
theorem dX11_ask_34 : decode cX11_ask 34 = .ok (.ldc 110, 2) := by decide +kernel
theorem dX11_ask_36 : decode cX11_ask 36 = .ok (.ireturn, 1) := by decide +kernel
theorem dX11_ask_37 : decode cX11_ask 37 = .ok (.aload_n 0, 1) := by decide +kernel
theorem dX11_ask_38 : decode cX11_ask 38 = .ok (.iload_n 1, 1) := by decide +kernel
theorem dX11_ask_39 : decode cX11_ask 39 = .ok (.iload_n 2, 1) := by decide +kernel
theorem dX11_ask_40 : decode cX11_ask 40 = .ok (.iload_n 3, 1) := by decide +kernel
theorem dX11_ask_41 : decode cX11_ask 41 = .ok (.iload 4, 2) := by decide +kernel
theorem dX11_ask_43 : decode cX11_ask 43 = .ok (.bipush 10, 2) := by decide +kernel
theorem dX11_ask_45 : decode cX11_ask 45 = .ok (.idiv, 1) := by decide +kernel
theorem dX11_ask_46 : decode cX11_ask 46 = .ok (.iload 4, 2) := by decide +kernel
theorem dX11_ask_48 : decode cX11_ask 48 = .ok (.bipush 10, 2) := by decide +kernel
theorem dX11_ask_50 : decode cX11_ask 50 = .ok (.irem, 1) := by decide +kernel
theorem dX11_ask_51 : decode cX11_ask 51 = .ok (.iconst 1, 1) := by decide +kernel
theorem dX11_ask_52 : decode cX11_ask 52 = .ok (.invokevirtual 221, 3) := by decide +kernel
theorem dX11_ask_55 : decode cX11_ask 55 = .ok (.istore 6, 2) := by decide +kernel
theorem dX11_ask_57 : decode cX11_ask 57 = .ok (.iload 6, 2) := by decide +kernel
theorem dX11_ask_59 : decode cX11_ask 59 = .ok (.ifCond .le 21, 3) := by decide +kernel
theorem dX11_ask_62 : decode cX11_ask 62 = .ok (.iload 6, 2) := by decide +kernel
theorem dX11_ask_64 : decode cX11_ask 64 = .ok (.bipush 6, 2) := by decide +kernel
theorem dX11_ask_66 : decode cX11_ask 66 = .ok (.if_icmp .lt 8, 3) := by decide +kernel
theorem dX11_ask_69 : decode cX11_ask 69 = .ok (.iload 5, 2) := by decide +kernel
theorem dX11_ask_71 : decode cX11_ask 71 = .ok (.ifCond .ne 9, 3) := by decide +kernel
theorem dX11_ask_74 : decode cX11_ask 74 = .ok (.bipush (-10), 2) := by decide +kernel
theorem dX11_ask_76 : decode cX11_ask 76 = .ok (.iload 6, 2) := by decide +kernel
theorem dX11_ask_78 : decode cX11_ask 78 = .ok (.isub, 1) := by decide +kernel
theorem dX11_ask_79 : decode cX11_ask 79 = .ok (.ireturn, 1) := by decide +kernel
theorem dX11_ask_80 : decode cX11_ask 80 = .ok (.aload_n 0, 1) := by decide +kernel
theorem dX11_ask_81 : decode cX11_ask 81 = .ok (.getfield 62, 3) := by decide +kernel
theorem dX11_ask_84 : decode cX11_ask 84 = .ok (.aload_n 0, 1) := by decide +kernel
theorem dX11_ask_85 : decode cX11_ask 85 = .ok (.getfield 118, 3) := by decide +kernel
theorem dX11_ask_88 : decode cX11_ask 88 = .ok (.iload_n 1, 1) := by decide +kernel
theorem dX11_ask_89 : decode cX11_ask 89 = .ok (.iastore, 1) := by decide +kernel
theorem dX11_ask_90 : decode cX11_ask 90 = .ok (.aload_n 0, 1) := by decide +kernel
theorem dX11_ask_91 : decode cX11_ask 91 = .ok (.getfield 65, 3) := by decide +kernel
theorem dX11_ask_94 : decode cX11_ask 94 = .ok (.aload_n 0, 1) := by decide +kernel
theorem dX11_ask_95 : decode cX11_ask 95 = .ok (.getfield 118, 3) := by decide +kernel
theorem dX11_ask_98 : decode cX11_ask 98 = .ok (.iload_n 2, 1) := by decide +kernel
theorem dX11_ask_99 : decode cX11_ask 99 = .ok (.iastore, 1) := by decide +kernel
theorem dX11_ask_100 : decode cX11_ask 100 = .ok (.aload_n 0, 1) := by decide +kernel
theorem dX11_ask_101 : decode cX11_ask 101 = .ok (.getfield 68, 3) := by decide +kernel
theorem dX11_ask_104 : decode cX11_ask 104 = .ok (.aload_n 0, 1) := by decide +kernel
theorem dX11_ask_105 : decode cX11_ask 105 = .ok (.getfield 118, 3) := by decide +kernel
theorem dX11_ask_108 : decode cX11_ask 108 = .ok (.iload_n 3, 1) := by decide +kernel
theorem dX11_ask_109 : decode cX11_ask 109 = .ok (.iastore, 1) := by decide +kernel
theorem dX11_ask_110 : decode cX11_ask 110 = .ok (.aload_n 0, 1) := by decide +kernel
theorem dX11_ask_111 : decode cX11_ask 111 = .ok (.getfield 71, 3) := by decide +kernel
theorem dX11_ask_114 : decode cX11_ask 114 = .ok (.aload_n 0, 1) := by decide +kernel
theorem dX11_ask_115 : decode cX11_ask 115 = .ok (.getfield 118, 3) := by decide +kernel
theorem dX11_ask_118 : decode cX11_ask 118 = .ok (.iload 4, 2) := by decide +kernel
theorem dX11_ask_120 : decode cX11_ask 120 = .ok (.bipush 10, 2) := by decide +kernel
theorem dX11_ask_122 : decode cX11_ask 122 = .ok (.idiv, 1) := by decide +kernel
theorem dX11_ask_123 : decode cX11_ask 123 = .ok (.iastore, 1) := by decide +kernel
theorem dX11_ask_124 : decode cX11_ask 124 = .ok (.aload_n 0, 1) := by decide +kernel
theorem dX11_ask_125 : decode cX11_ask 125 = .ok (.getfield 74, 3) := by decide +kernel
theorem dX11_ask_128 : decode cX11_ask 128 = .ok (.aload_n 0, 1) := by decide +kernel
theorem dX11_ask_129 : decode cX11_ask 129 = .ok (.getfield 118, 3) := by decide +kernel
theorem dX11_ask_132 : decode cX11_ask 132 = .ok (.iload 4, 2) := by decide +kernel
theorem dX11_ask_134 : decode cX11_ask 134 = .ok (.bipush 10, 2) := by decide +kernel
theorem dX11_ask_136 : decode cX11_ask 136 = .ok (.irem, 1) := by decide +kernel
theorem dX11_ask_137 : decode cX11_ask 137 = .ok (.iastore, 1) := by decide +kernel
theorem dX11_ask_138 : decode cX11_ask 138 = .ok (.aload_n 0, 1) := by decide +kernel
theorem dX11_ask_139 : decode cX11_ask 139 = .ok (.getfield 77, 3) := by decide +kernel
theorem dX11_ask_142 : decode cX11_ask 142 = .ok (.aload_n 0, 1) := by decide +kernel
theorem dX11_ask_143 : decode cX11_ask 143 = .ok (.getfield 118, 3) := by decide +kernel
theorem dX11_ask_146 : decode cX11_ask 146 = .ok (.iload 6, 2) := by decide +kernel
theorem dX11_ask_148 : decode cX11_ask 148 = .ok (.ifCond .ne 7, 3) := by decide +kernel
theorem dX11_ask_151 : decode cX11_ask 151 = .ok (.iconst 0, 1) := by decide +kernel
theorem dX11_ask_152 : decode cX11_ask 152 = .ok (.goto 4, 3) := by decide +kernel
theorem dX11_ask_155 : decode cX11_ask 155 = .ok (.iconst 1, 1) := by decide +kernel
theorem dX11_ask_156 : decode cX11_ask 156 = .ok (.iastore, 1) := by decide +kernel
theorem dX11_ask_157 : decode cX11_ask 157 = .ok (.aload_n 0, 1) := by decide +kernel
theorem dX11_ask_158 : decode cX11_ask 158 = .ok (.dup, 1) := by decide +kernel
theorem dX11_ask_159 : decode cX11_ask 159 = .ok (.getfield 118, 3) := by decide +kernel
theorem dX11_ask_162 : decode cX11_ask 162 = .ok (.iconst 1, 1) := by decide +kernel
theorem dX11_ask_163 : decode cX11_ask 163 = .ok (.iadd, 1) := by decide +kernel
theorem dX11_ask_164 : decode cX11_ask 164 = .ok (.putfield 118, 3) := by decide +kernel
theorem dX11_ask_167 : decode cX11_ask 167 = .ok (.aload_n 0, 1) := by decide +kernel
theorem dX11_ask_168 : decode cX11_ask 168 = .ok (.getfield 118, 3) := by decide +kernel
theorem dX11_ask_171 : decode cX11_ask 171 = .ok (.iconst 1, 1) := by decide +kernel
theorem dX11_ask_172 : decode cX11_ask 172 = .ok (.isub, 1) := by decide +kernel
theorem dX11_ask_173 : decode cX11_ask 173 = .ok (.ireturn, 1) := by decide +kernel
def ins_X11_ask (pc : Nat) : HOp := cond (Nat.blt pc 89) (cond (Nat.blt pc 41) (cond (Nat.blt pc 22) (cond (Nat.blt pc 9) (cond (Nat.blt pc 3) (cond (Nat.blt pc 1) (cond (Nat.beq pc 0) (o_aload 0 1) o_bad) (cond (Nat.blt pc 2) (cond (Nat.beq pc 1) (o_iload 1 2) o_bad) (cond (Nat.beq pc 2) (o_iload 2 3) o_bad))) (cond (Nat.blt pc 4) (cond (Nat.beq pc 3) (o_iload 3 4) o_bad) (cond (Nat.blt pc 6) (cond (Nat.beq pc 4) (o_iload 4 6) o_bad) (cond (Nat.beq pc 6) (o_callV 5 11 sp_X11_isAsked 9) o_bad)))) (cond (Nat.blt pc 15) (cond (Nat.blt pc 12) (cond (Nat.beq pc 9) (o_if (fun x => x = 0) 22 12) o_bad) (cond (Nat.blt pc 14) (cond (Nat.beq pc 12) (o_iload 5 14) o_bad) (cond (Nat.beq pc 14) (o_const (0) 15) o_bad))) (cond (Nat.blt pc 16) (cond (Nat.beq pc 15) (o_const (1) 16) o_bad) (cond (Nat.blt pc 19) (cond (Nat.beq pc 16) (o_callS 3 sp_X11_isIn 19) o_bad) (cond (Nat.beq pc 19) (o_if (fun x => x = 0) 22 25) o_bad))))) (cond (Nat.blt pc 34) (cond (Nat.blt pc 26) (cond (Nat.blt pc 24) (cond (Nat.beq pc 22) (o_const (-1000000001) 24) o_bad) (cond (Nat.blt pc 25) (cond (Nat.beq pc 24) (o_iret) o_bad) (cond (Nat.beq pc 25) (o_aload 0 26) o_bad))) (cond (Nat.blt pc 29) (cond (Nat.beq pc 26) (o_getf 11 21 29) o_bad) (cond (Nat.blt pc 31) (cond (Nat.beq pc 29) (o_const (100) 31) o_bad) (cond (Nat.beq pc 31) (o_icmp (fun x y => x = y) 34 37) o_bad)))) (cond (Nat.blt pc 38) (cond (Nat.blt pc 36) (cond (Nat.beq pc 34) (o_const (-1000000003) 36) o_bad) (cond (Nat.blt pc 37) (cond (Nat.beq pc 36) (o_iret) o_bad) (cond (Nat.beq pc 37) (o_aload 0 38) o_bad))) (cond (Nat.blt pc 39) (cond (Nat.beq pc 38) (o_iload 1 39) o_bad) (cond (Nat.blt pc 40) (cond (Nat.beq pc 39) (o_iload 2 40) o_bad) (cond (Nat.beq pc 40) (o_iload 3 41) o_bad)))))) (cond (Nat.blt pc 64) (cond (Nat.blt pc 51) (cond (Nat.blt pc 46) (cond (Nat.blt pc 43) (cond (Nat.beq pc 41) (o_iload 4 43) o_bad) (cond (Nat.blt pc 45) (cond (Nat.beq pc 43) (o_const (10) 45) o_bad) (cond (Nat.beq pc 45) (o_dv (fun x y => x / y) 46) o_bad))) (cond (Nat.blt pc 48) (cond (Nat.beq pc 46) (o_iload 4 48) o_bad) (cond (Nat.blt pc 50) (cond (Nat.beq pc 48) (o_const (10) 50) o_bad) (cond (Nat.beq pc 50) (o_dv (fun x y => x - x / y * y) 51) o_bad)))) (cond (Nat.blt pc 57) (cond (Nat.blt pc 52) (cond (Nat.beq pc 51) (o_const (1) 52) o_bad) (cond (Nat.blt pc 55) (cond (Nat.beq pc 52) (o_callV 7 11 sp_X11_refusal 55) o_bad) (cond (Nat.beq pc 55) (o_istore 6 57) o_bad))) (cond (Nat.blt pc 59) (cond (Nat.beq pc 57) (o_iload 6 59) o_bad) (cond (Nat.blt pc 62) (cond (Nat.beq pc 59) (o_if (fun x => x ≤ 0) 80 62) o_bad) (cond (Nat.beq pc 62) (o_iload 6 64) o_bad))))) (cond (Nat.blt pc 78) (cond (Nat.blt pc 71) (cond (Nat.blt pc 66) (cond (Nat.beq pc 64) (o_const (6) 66) o_bad) (cond (Nat.blt pc 69) (cond (Nat.beq pc 66) (o_icmp (fun x y => x < y) 74 69) o_bad) (cond (Nat.beq pc 69) (o_iload 5 71) o_bad))) (cond (Nat.blt pc 74) (cond (Nat.beq pc 71) (o_if (fun x => x = 0) 74 80) o_bad) (cond (Nat.blt pc 76) (cond (Nat.beq pc 74) (o_const (-10) 76) o_bad) (cond (Nat.beq pc 76) (o_iload 6 78) o_bad)))) (cond (Nat.blt pc 81) (cond (Nat.blt pc 79) (cond (Nat.beq pc 78) (o_bin (fun x y => x - y) 79) o_bad) (cond (Nat.blt pc 80) (cond (Nat.beq pc 79) (o_iret) o_bad) (cond (Nat.beq pc 80) (o_aload 0 81) o_bad))) (cond (Nat.blt pc 85) (cond (Nat.blt pc 84) (cond (Nat.beq pc 81) (o_getf 11 22 84) o_bad) (cond (Nat.beq pc 84) (o_aload 0 85) o_bad)) (cond (Nat.blt pc 88) (cond (Nat.beq pc 85) (o_getf 11 21 88) o_bad) (cond (Nat.beq pc 88) (o_iload 1 89) o_bad))))))) (cond (Nat.blt pc 132) (cond (Nat.blt pc 109) (cond (Nat.blt pc 99) (cond (Nat.blt pc 94) (cond (Nat.blt pc 90) (cond (Nat.beq pc 89) (o_iast 90) o_bad) (cond (Nat.blt pc 91) (cond (Nat.beq pc 90) (o_aload 0 91) o_bad) (cond (Nat.beq pc 91) (o_getf 11 23 94) o_bad))) (cond (Nat.blt pc 95) (cond (Nat.beq pc 94) (o_aload 0 95) o_bad) (cond (Nat.blt pc 98) (cond (Nat.beq pc 95) (o_getf 11 21 98) o_bad) (cond (Nat.beq pc 98) (o_iload 2 99) o_bad)))) (cond (Nat.blt pc 104) (cond (Nat.blt pc 100) (cond (Nat.beq pc 99) (o_iast 100) o_bad) (cond (Nat.blt pc 101) (cond (Nat.beq pc 100) (o_aload 0 101) o_bad) (cond (Nat.beq pc 101) (o_getf 11 24 104) o_bad))) (cond (Nat.blt pc 105) (cond (Nat.beq pc 104) (o_aload 0 105) o_bad) (cond (Nat.blt pc 108) (cond (Nat.beq pc 105) (o_getf 11 21 108) o_bad) (cond (Nat.beq pc 108) (o_iload 3 109) o_bad))))) (cond (Nat.blt pc 120) (cond (Nat.blt pc 114) (cond (Nat.blt pc 110) (cond (Nat.beq pc 109) (o_iast 110) o_bad) (cond (Nat.blt pc 111) (cond (Nat.beq pc 110) (o_aload 0 111) o_bad) (cond (Nat.beq pc 111) (o_getf 11 25 114) o_bad))) (cond (Nat.blt pc 115) (cond (Nat.beq pc 114) (o_aload 0 115) o_bad) (cond (Nat.blt pc 118) (cond (Nat.beq pc 115) (o_getf 11 21 118) o_bad) (cond (Nat.beq pc 118) (o_iload 4 120) o_bad)))) (cond (Nat.blt pc 124) (cond (Nat.blt pc 122) (cond (Nat.beq pc 120) (o_const (10) 122) o_bad) (cond (Nat.blt pc 123) (cond (Nat.beq pc 122) (o_dv (fun x y => x / y) 123) o_bad) (cond (Nat.beq pc 123) (o_iast 124) o_bad))) (cond (Nat.blt pc 128) (cond (Nat.blt pc 125) (cond (Nat.beq pc 124) (o_aload 0 125) o_bad) (cond (Nat.beq pc 125) (o_getf 11 26 128) o_bad)) (cond (Nat.blt pc 129) (cond (Nat.beq pc 128) (o_aload 0 129) o_bad) (cond (Nat.beq pc 129) (o_getf 11 21 132) o_bad)))))) (cond (Nat.blt pc 155) (cond (Nat.blt pc 142) (cond (Nat.blt pc 137) (cond (Nat.blt pc 134) (cond (Nat.beq pc 132) (o_iload 4 134) o_bad) (cond (Nat.blt pc 136) (cond (Nat.beq pc 134) (o_const (10) 136) o_bad) (cond (Nat.beq pc 136) (o_dv (fun x y => x - x / y * y) 137) o_bad))) (cond (Nat.blt pc 138) (cond (Nat.beq pc 137) (o_iast 138) o_bad) (cond (Nat.blt pc 139) (cond (Nat.beq pc 138) (o_aload 0 139) o_bad) (cond (Nat.beq pc 139) (o_getf 11 27 142) o_bad)))) (cond (Nat.blt pc 148) (cond (Nat.blt pc 143) (cond (Nat.beq pc 142) (o_aload 0 143) o_bad) (cond (Nat.blt pc 146) (cond (Nat.beq pc 143) (o_getf 11 21 146) o_bad) (cond (Nat.beq pc 146) (o_iload 6 148) o_bad))) (cond (Nat.blt pc 151) (cond (Nat.beq pc 148) (o_if (fun x => x = 0) 151 155) o_bad) (cond (Nat.blt pc 152) (cond (Nat.beq pc 151) (o_const (0) 152) o_bad) (cond (Nat.beq pc 152) (o_goto 156) o_bad))))) (cond (Nat.blt pc 163) (cond (Nat.blt pc 158) (cond (Nat.blt pc 156) (cond (Nat.beq pc 155) (o_const (1) 156) o_bad) (cond (Nat.blt pc 157) (cond (Nat.beq pc 156) (o_iast 157) o_bad) (cond (Nat.beq pc 157) (o_aload 0 158) o_bad))) (cond (Nat.blt pc 159) (cond (Nat.beq pc 158) (o_dup 159) o_bad) (cond (Nat.blt pc 162) (cond (Nat.beq pc 159) (o_getf 11 21 162) o_bad) (cond (Nat.beq pc 162) (o_const (1) 163) o_bad)))) (cond (Nat.blt pc 168) (cond (Nat.blt pc 164) (cond (Nat.beq pc 163) (o_bin (fun x y => x + y) 164) o_bad) (cond (Nat.blt pc 167) (cond (Nat.beq pc 164) (o_putf 11 21 167) o_bad) (cond (Nat.beq pc 167) (o_aload 0 168) o_bad))) (cond (Nat.blt pc 172) (cond (Nat.blt pc 171) (cond (Nat.beq pc 168) (o_getf 11 21 171) o_bad) (cond (Nat.beq pc 171) (o_const (1) 172) o_bad)) (cond (Nat.blt pc 173) (cond (Nat.beq pc 172) (o_bin (fun x y => x - y) 173) o_bad) (cond (Nat.beq pc 173) (o_iret) o_bad)))))))
set_option maxRecDepth 20000 in
theorem ok_X11_ask : HOKs cX11_ask RX11 7 (some .int) 6 ins_X11_ask := fun _ => hnd (hnd (hnd (hnd (hnd (hnd (hlf (ok_aload_n dX11_ask_0 rfl rfl)) (hnd (hlf (ok_iload_n dX11_ask_1 rfl rfl)) (hlf (ok_iload_n dX11_ask_2 rfl rfl)))) (hnd (hlf (ok_iload_n dX11_ask_3 rfl rfl)) (hnd (hlf (ok_iload dX11_ask_4 rfl)) (hlf (ok_callV (y := yX11_isAsked) (n' := 4) (C := RX11) (T := TX11) dX11_ask_6 ct_X11_isAsked (by decide) (by decide) wd_1164 wd_1161 wd_1163 wd_38 wd_50 rfl (by decide +kernel) rfl rfl rfl))))) (hnd (hnd (hlf (ok_if_eq dX11_ask_9 (by decide) rfl)) (hnd (hlf (ok_iload dX11_ask_12 rfl)) (hlf (ok_iconst dX11_ask_14 (by decide) rfl)))) (hnd (hlf (ok_iconst dX11_ask_15 (by decide) rfl)) (hnd (hlf (ok_callS (y := yX11_isIn) dX11_ask_16 ct_X11_isIn (by decide) (by decide) wd_1017 wd_1015 wd_1016 wd_50 (by decide +kernel) rfl)) (hlf (ok_if_ne dX11_ask_19 (by decide) rfl)))))) (hnd (hnd (hnd (hlf (ok_ldc dX11_ask_22 wd_1018 rfl)) (hnd (hlf (ok_iret dX11_ask_24)) (hlf (ok_aload_n dX11_ask_25 rfl rfl)))) (hnd (hlf (ok_getf (C := RX11) (T := TX11) dX11_ask_26 rfl rfl (by decide) rfl inX11 wd_898 rfl)) (hnd (hlf (ok_bipush dX11_ask_29 (by decide) rfl)) (hlf (ok_icmp_ne dX11_ask_31 (by decide) rfl))))) (hnd (hnd (hlf (ok_ldc dX11_ask_34 wd_1019 rfl)) (hnd (hlf (ok_iret dX11_ask_36)) (hlf (ok_aload_n dX11_ask_37 rfl rfl)))) (hnd (hlf (ok_iload_n dX11_ask_38 rfl rfl)) (hnd (hlf (ok_iload_n dX11_ask_39 rfl rfl)) (hlf (ok_iload_n dX11_ask_40 rfl rfl))))))) (hnd (hnd (hnd (hnd (hlf (ok_iload dX11_ask_41 rfl)) (hnd (hlf (ok_bipush dX11_ask_43 (by decide) rfl)) (hlf (ok_idiv dX11_ask_45 rfl)))) (hnd (hlf (ok_iload dX11_ask_46 rfl)) (hnd (hlf (ok_bipush dX11_ask_48 (by decide) rfl)) (hlf (ok_irem dX11_ask_50 rfl))))) (hnd (hnd (hlf (ok_iconst dX11_ask_51 (by decide) rfl)) (hnd (hlf (ok_callV (y := yX11_refusal) (n' := 6) (C := RX11) (T := TX11) dX11_ask_52 ct_X11_refusal (by decide) (by decide) wd_1059 wd_1056 wd_1058 wd_20 wd_50 rfl (by decide +kernel) rfl rfl rfl)) (hlf (ok_istore dX11_ask_55 (by decide) rfl)))) (hnd (hlf (ok_iload dX11_ask_57 rfl)) (hnd (hlf (ok_if_le dX11_ask_59 (by decide) rfl)) (hlf (ok_iload dX11_ask_62 rfl)))))) (hnd (hnd (hnd (hlf (ok_bipush dX11_ask_64 (by decide) rfl)) (hnd (hlf (ok_icmp_lt dX11_ask_66 (by decide) rfl)) (hlf (ok_iload dX11_ask_69 rfl)))) (hnd (hlf (ok_if_ne dX11_ask_71 (by decide) rfl)) (hnd (hlf (ok_bipush dX11_ask_74 (by decide) rfl)) (hlf (ok_iload dX11_ask_76 rfl))))) (hnd (hnd (hlf (ok_isub dX11_ask_78 rfl)) (hnd (hlf (ok_iret dX11_ask_79)) (hlf (ok_aload_n dX11_ask_80 rfl rfl)))) (hnd (hnd (hlf (ok_getf (C := RX11) (T := TX11) dX11_ask_81 rfl rfl (by decide) rfl inX11 wd_899 rfl)) (hlf (ok_aload_n dX11_ask_84 rfl rfl))) (hnd (hlf (ok_getf (C := RX11) (T := TX11) dX11_ask_85 rfl rfl (by decide) rfl inX11 wd_898 rfl)) (hlf (ok_iload_n dX11_ask_88 rfl rfl)))))))) (hnd (hnd (hnd (hnd (hnd (hlf (ok_iast dX11_ask_89 rfl)) (hnd (hlf (ok_aload_n dX11_ask_90 rfl rfl)) (hlf (ok_getf (C := RX11) (T := TX11) dX11_ask_91 rfl rfl (by decide) rfl inX11 wd_900 rfl)))) (hnd (hlf (ok_aload_n dX11_ask_94 rfl rfl)) (hnd (hlf (ok_getf (C := RX11) (T := TX11) dX11_ask_95 rfl rfl (by decide) rfl inX11 wd_898 rfl)) (hlf (ok_iload_n dX11_ask_98 rfl rfl))))) (hnd (hnd (hlf (ok_iast dX11_ask_99 rfl)) (hnd (hlf (ok_aload_n dX11_ask_100 rfl rfl)) (hlf (ok_getf (C := RX11) (T := TX11) dX11_ask_101 rfl rfl (by decide) rfl inX11 wd_901 rfl)))) (hnd (hlf (ok_aload_n dX11_ask_104 rfl rfl)) (hnd (hlf (ok_getf (C := RX11) (T := TX11) dX11_ask_105 rfl rfl (by decide) rfl inX11 wd_898 rfl)) (hlf (ok_iload_n dX11_ask_108 rfl rfl)))))) (hnd (hnd (hnd (hlf (ok_iast dX11_ask_109 rfl)) (hnd (hlf (ok_aload_n dX11_ask_110 rfl rfl)) (hlf (ok_getf (C := RX11) (T := TX11) dX11_ask_111 rfl rfl (by decide) rfl inX11 wd_902 rfl)))) (hnd (hlf (ok_aload_n dX11_ask_114 rfl rfl)) (hnd (hlf (ok_getf (C := RX11) (T := TX11) dX11_ask_115 rfl rfl (by decide) rfl inX11 wd_898 rfl)) (hlf (ok_iload dX11_ask_118 rfl))))) (hnd (hnd (hlf (ok_bipush dX11_ask_120 (by decide) rfl)) (hnd (hlf (ok_idiv dX11_ask_122 rfl)) (hlf (ok_iast dX11_ask_123 rfl)))) (hnd (hnd (hlf (ok_aload_n dX11_ask_124 rfl rfl)) (hlf (ok_getf (C := RX11) (T := TX11) dX11_ask_125 rfl rfl (by decide) rfl inX11 wd_903 rfl))) (hnd (hlf (ok_aload_n dX11_ask_128 rfl rfl)) (hlf (ok_getf (C := RX11) (T := TX11) dX11_ask_129 rfl rfl (by decide) rfl inX11 wd_898 rfl))))))) (hnd (hnd (hnd (hnd (hlf (ok_iload dX11_ask_132 rfl)) (hnd (hlf (ok_bipush dX11_ask_134 (by decide) rfl)) (hlf (ok_irem dX11_ask_136 rfl)))) (hnd (hlf (ok_iast dX11_ask_137 rfl)) (hnd (hlf (ok_aload_n dX11_ask_138 rfl rfl)) (hlf (ok_getf (C := RX11) (T := TX11) dX11_ask_139 rfl rfl (by decide) rfl inX11 wd_904 rfl))))) (hnd (hnd (hlf (ok_aload_n dX11_ask_142 rfl rfl)) (hnd (hlf (ok_getf (C := RX11) (T := TX11) dX11_ask_143 rfl rfl (by decide) rfl inX11 wd_898 rfl)) (hlf (ok_iload dX11_ask_146 rfl)))) (hnd (hlf (ok_if_ne dX11_ask_148 (by decide) rfl)) (hnd (hlf (ok_iconst dX11_ask_151 (by decide) rfl)) (hlf (ok_goto dX11_ask_152 (by decide))))))) (hnd (hnd (hnd (hlf (ok_iconst dX11_ask_155 (by decide) rfl)) (hnd (hlf (ok_iast dX11_ask_156 rfl)) (hlf (ok_aload_n dX11_ask_157 rfl rfl)))) (hnd (hlf (ok_dup dX11_ask_158 rfl)) (hnd (hlf (ok_getf (C := RX11) (T := TX11) dX11_ask_159 rfl rfl (by decide) rfl inX11 wd_898 rfl)) (hlf (ok_iconst dX11_ask_162 (by decide) rfl))))) (hnd (hnd (hlf (ok_iadd dX11_ask_163 rfl)) (hnd (hlf (ok_putf (C := RX11) (T := TX11) dX11_ask_164 rfl rfl (by decide) rfl inX11 tyX11_ok nmX11 rfl rfl (fun _ _ => rfl) wd_898 rfl)) (hlf (ok_aload_n dX11_ask_167 rfl rfl)))) (hnd (hnd (hlf (ok_getf (C := RX11) (T := TX11) dX11_ask_168 rfl rfl (by decide) rfl inX11 wd_898 rfl)) (hlf (ok_iconst dX11_ask_171 (by decide) rfl))) (hnd (hlf (ok_isub dX11_ask_172 rfl)) (hlf (ok_iret dX11_ask_173))))))))

noncomputable def sp_X11_ask : HSp := fun as w σ K => wp ins_X11_ask (fun _ => none) K 140 0 (loc0 7 as) [] w σ
theorem vc_X11_ask : MVC ins_X11_ask 7 6 sp_X11_ask := mvc0 140 fun _ _ _ _ _ h => h
theorem ct_X11_ask : Ctr yX11_ask cX11_ask 7 (some .int) 6 0 0 6 sp_X11_ask := ctr_of (by decide +kernel) rfl (by decide) ok_X11_ask vc_X11_ask

theorem dX11_why_0 : decode cX11_why 0 = .ok (.aload_n 0, 1) := by decide +kernel
theorem dX11_why_1 : decode cX11_why 1 = .ok (.iload_n 1, 1) := by decide +kernel
theorem dX11_why_2 : decode cX11_why 2 = .ok (.iload_n 2, 1) := by decide +kernel
theorem dX11_why_3 : decode cX11_why 3 = .ok (.iload_n 3, 1) := by decide +kernel
theorem dX11_why_4 : decode cX11_why 4 = .ok (.iload 4, 2) := by decide +kernel
theorem dX11_why_6 : decode cX11_why 6 = .ok (.invokevirtual 228, 3) := by decide +kernel
theorem dX11_why_9 : decode cX11_why 9 = .ok (.ifCond .eq 24, 3) := by decide +kernel
theorem dX11_why_12 : decode cX11_why 12 = .ok (.aload_n 0, 1) := by decide +kernel
theorem dX11_why_13 : decode cX11_why 13 = .ok (.iload_n 1, 1) := by decide +kernel
theorem dX11_why_14 : decode cX11_why 14 = .ok (.iload_n 2, 1) := by decide +kernel
theorem dX11_why_15 : decode cX11_why 15 = .ok (.iload_n 3, 1) := by decide +kernel
theorem dX11_why_16 : decode cX11_why 16 = .ok (.iload 4, 2) := by decide +kernel
theorem dX11_why_18 : decode cX11_why 18 = .ok (.bipush 10, 2) := by decide +kernel
theorem dX11_why_20 : decode cX11_why 20 = .ok (.idiv, 1) := by decide +kernel
theorem dX11_why_21 : decode cX11_why 21 = .ok (.iload 4, 2) := by decide +kernel
theorem dX11_why_23 : decode cX11_why 23 = .ok (.bipush 10, 2) := by decide +kernel
theorem dX11_why_25 : decode cX11_why 25 = .ok (.irem, 1) := by decide +kernel
theorem dX11_why_26 : decode cX11_why 26 = .ok (.iconst 0, 1) := by decide +kernel
theorem dX11_why_27 : decode cX11_why 27 = .ok (.invokevirtual 221, 3) := by decide +kernel
theorem dX11_why_30 : decode cX11_why 30 = .ok (.goto 5, 3) := by decide +kernel
theorem dX11_why_33 : decode cX11_why 33 = .ok (.ldc 109, 2) := by decide +kernel
theorem dX11_why_35 : decode cX11_why 35 = .ok (.ireturn, 1) := by decide +kernel
def ins_X11_why (pc : Nat) : HOp := cond (Nat.blt pc 16) (cond (Nat.blt pc 6) (cond (Nat.blt pc 2) (cond (Nat.blt pc 1) (cond (Nat.beq pc 0) (o_aload 0 1) o_bad) (cond (Nat.beq pc 1) (o_iload 1 2) o_bad)) (cond (Nat.blt pc 3) (cond (Nat.beq pc 2) (o_iload 2 3) o_bad) (cond (Nat.blt pc 4) (cond (Nat.beq pc 3) (o_iload 3 4) o_bad) (cond (Nat.beq pc 4) (o_iload 4 6) o_bad)))) (cond (Nat.blt pc 13) (cond (Nat.blt pc 9) (cond (Nat.beq pc 6) (o_callV 5 11 sp_X11_isAsked 9) o_bad) (cond (Nat.blt pc 12) (cond (Nat.beq pc 9) (o_if (fun x => x = 0) 33 12) o_bad) (cond (Nat.beq pc 12) (o_aload 0 13) o_bad))) (cond (Nat.blt pc 14) (cond (Nat.beq pc 13) (o_iload 1 14) o_bad) (cond (Nat.blt pc 15) (cond (Nat.beq pc 14) (o_iload 2 15) o_bad) (cond (Nat.beq pc 15) (o_iload 3 16) o_bad))))) (cond (Nat.blt pc 25) (cond (Nat.blt pc 20) (cond (Nat.blt pc 18) (cond (Nat.beq pc 16) (o_iload 4 18) o_bad) (cond (Nat.beq pc 18) (o_const (10) 20) o_bad)) (cond (Nat.blt pc 21) (cond (Nat.beq pc 20) (o_dv (fun x y => x / y) 21) o_bad) (cond (Nat.blt pc 23) (cond (Nat.beq pc 21) (o_iload 4 23) o_bad) (cond (Nat.beq pc 23) (o_const (10) 25) o_bad)))) (cond (Nat.blt pc 30) (cond (Nat.blt pc 26) (cond (Nat.beq pc 25) (o_dv (fun x y => x - x / y * y) 26) o_bad) (cond (Nat.blt pc 27) (cond (Nat.beq pc 26) (o_const (0) 27) o_bad) (cond (Nat.beq pc 27) (o_callV 7 11 sp_X11_refusal 30) o_bad))) (cond (Nat.blt pc 33) (cond (Nat.beq pc 30) (o_goto 35) o_bad) (cond (Nat.blt pc 35) (cond (Nat.beq pc 33) (o_const (-1000000001) 35) o_bad) (cond (Nat.beq pc 35) (o_iret) o_bad)))))
set_option maxRecDepth 20000 in
theorem ok_X11_why : HOKs cX11_why RX11 5 (some .int) 6 ins_X11_why := fun _ => hnd (hnd (hnd (hnd (hlf (ok_aload_n dX11_why_0 rfl rfl)) (hlf (ok_iload_n dX11_why_1 rfl rfl))) (hnd (hlf (ok_iload_n dX11_why_2 rfl rfl)) (hnd (hlf (ok_iload_n dX11_why_3 rfl rfl)) (hlf (ok_iload dX11_why_4 rfl))))) (hnd (hnd (hlf (ok_callV (y := yX11_isAsked) (n' := 4) (C := RX11) (T := TX11) dX11_why_6 ct_X11_isAsked (by decide) (by decide) wd_1164 wd_1161 wd_1163 wd_38 wd_50 rfl (by decide +kernel) rfl rfl rfl)) (hnd (hlf (ok_if_eq dX11_why_9 (by decide) rfl)) (hlf (ok_aload_n dX11_why_12 rfl rfl)))) (hnd (hlf (ok_iload_n dX11_why_13 rfl rfl)) (hnd (hlf (ok_iload_n dX11_why_14 rfl rfl)) (hlf (ok_iload_n dX11_why_15 rfl rfl)))))) (hnd (hnd (hnd (hlf (ok_iload dX11_why_16 rfl)) (hlf (ok_bipush dX11_why_18 (by decide) rfl))) (hnd (hlf (ok_idiv dX11_why_20 rfl)) (hnd (hlf (ok_iload dX11_why_21 rfl)) (hlf (ok_bipush dX11_why_23 (by decide) rfl))))) (hnd (hnd (hlf (ok_irem dX11_why_25 rfl)) (hnd (hlf (ok_iconst dX11_why_26 (by decide) rfl)) (hlf (ok_callV (y := yX11_refusal) (n' := 6) (C := RX11) (T := TX11) dX11_why_27 ct_X11_refusal (by decide) (by decide) wd_1059 wd_1056 wd_1058 wd_20 wd_50 rfl (by decide +kernel) rfl rfl rfl)))) (hnd (hlf (ok_goto dX11_why_30 (by decide))) (hnd (hlf (ok_ldc dX11_why_33 wd_1018 rfl)) (hlf (ok_iret dX11_why_35))))))

noncomputable def sp_X11_why : HSp := fun as w σ K => wp ins_X11_why (fun _ => none) K 40 0 (loc0 5 as) [] w σ
theorem vc_X11_why : MVC ins_X11_why 5 5 sp_X11_why := mvc0 40 fun _ _ _ _ _ h => h
theorem ct_X11_why : Ctr yX11_why cX11_why 5 (some .int) 6 0 0 5 sp_X11_why := ctr_of (by decide +kernel) rfl (by decide) ok_X11_why vc_X11_why

theorem dX11_giveBack_0 : decode cX11_giveBack 0 = .ok (.aload_n 0, 1) := by decide +kernel
theorem dX11_giveBack_1 : decode cX11_giveBack 1 = .ok (.iload_n 1, 1) := by decide +kernel
theorem dX11_giveBack_2 : decode cX11_giveBack 2 = .ok (.invokevirtual 231, 3) := by decide +kernel
theorem dX11_giveBack_5 : decode cX11_giveBack 5 = .ok (.ifCond .ne 6, 3) := by decide +kernel
theorem dX11_giveBack_8 : decode cX11_giveBack 8 = .ok (.ldc 109, 2) := by decide +kernel
theorem dX11_giveBack_10 : decode cX11_giveBack 10 = .ok (.ireturn, 1) := by decide +kernel
theorem dX11_giveBack_11 : decode cX11_giveBack 11 = .ok (.aload_n 0, 1) := by decide +kernel
theorem dX11_giveBack_12 : decode cX11_giveBack 12 = .ok (.getfield 77, 3) := by decide +kernel
theorem dX11_giveBack_15 : decode cX11_giveBack 15 = .ok (.iload_n 1, 1) := by decide +kernel
theorem dX11_giveBack_16 : decode cX11_giveBack 16 = .ok (.iaload, 1) := by decide +kernel
theorem dX11_giveBack_17 : decode cX11_giveBack 17 = .ok (.iconst 2, 1) := by decide +kernel
theorem dX11_giveBack_18 : decode cX11_giveBack 18 = .ok (.if_icmp .eq 16, 3) := by decide +kernel
theorem dX11_giveBack_21 : decode cX11_giveBack 21 = .ok (.aload_n 0, 1) := by decide +kernel
theorem dX11_giveBack_22 : decode cX11_giveBack 22 = .ok (.getfield 68, 3) := by decide +kernel
theorem dX11_giveBack_25 : decode cX11_giveBack 25 = .ok (.iload_n 1, 1) := by decide +kernel
theorem dX11_giveBack_26 : decode cX11_giveBack 26 = .ok (.iaload, 1) := by decide +kernel
theorem dX11_giveBack_27 : decode cX11_giveBack 27 = .ok (.aload_n 0, 1) := by decide +kernel
theorem dX11_giveBack_28 : decode cX11_giveBack 28 = .ok (.getfield 125, 3) := by decide +kernel
theorem dX11_giveBack_31 : decode cX11_giveBack 31 = .ok (.if_icmp .ge 6, 3) := by decide +kernel
theorem dX11_giveBack_34 : decode cX11_giveBack 34 = .ok (.ldc 128, 2) := by decide +kernel
theorem dX11_giveBack_36 : decode cX11_giveBack 36 = .ok (.ireturn, 1) := by decide +kernel
theorem dX11_giveBack_37 : decode cX11_giveBack 37 = .ok (.aload_n 0, 1) := by decide +kernel
theorem dX11_giveBack_38 : decode cX11_giveBack 38 = .ok (.getfield 77, 3) := by decide +kernel
theorem dX11_giveBack_41 : decode cX11_giveBack 41 = .ok (.iload_n 1, 1) := by decide +kernel
theorem dX11_giveBack_42 : decode cX11_giveBack 42 = .ok (.iconst 2, 1) := by decide +kernel
theorem dX11_giveBack_43 : decode cX11_giveBack 43 = .ok (.iastore, 1) := by decide +kernel
theorem dX11_giveBack_44 : decode cX11_giveBack 44 = .ok (.aload_n 0, 1) := by decide +kernel
theorem dX11_giveBack_45 : decode cX11_giveBack 45 = .ok (.invokevirtual 129, 3) := by decide +kernel
theorem dX11_giveBack_48 : decode cX11_giveBack 48 = .ok (.ireturn, 1) := by decide +kernel
def ins_X11_giveBack (pc : Nat) : HOp := cond (Nat.blt pc 25) (cond (Nat.blt pc 12) (cond (Nat.blt pc 5) (cond (Nat.blt pc 1) (cond (Nat.beq pc 0) (o_aload 0 1) o_bad) (cond (Nat.blt pc 2) (cond (Nat.beq pc 1) (o_iload 1 2) o_bad) (cond (Nat.beq pc 2) (o_callV 2 11 sp_X11_isVisit 5) o_bad))) (cond (Nat.blt pc 10) (cond (Nat.blt pc 8) (cond (Nat.beq pc 5) (o_if (fun x => x = 0) 8 11) o_bad) (cond (Nat.beq pc 8) (o_const (-1000000001) 10) o_bad)) (cond (Nat.blt pc 11) (cond (Nat.beq pc 10) (o_iret) o_bad) (cond (Nat.beq pc 11) (o_aload 0 12) o_bad)))) (cond (Nat.blt pc 17) (cond (Nat.blt pc 15) (cond (Nat.beq pc 12) (o_getf 11 27 15) o_bad) (cond (Nat.blt pc 16) (cond (Nat.beq pc 15) (o_iload 1 16) o_bad) (cond (Nat.beq pc 16) (o_iald 17) o_bad))) (cond (Nat.blt pc 21) (cond (Nat.blt pc 18) (cond (Nat.beq pc 17) (o_const (2) 18) o_bad) (cond (Nat.beq pc 18) (o_icmp (fun x y => x = y) 34 21) o_bad)) (cond (Nat.blt pc 22) (cond (Nat.beq pc 21) (o_aload 0 22) o_bad) (cond (Nat.beq pc 22) (o_getf 11 24 25) o_bad))))) (cond (Nat.blt pc 37) (cond (Nat.blt pc 28) (cond (Nat.blt pc 26) (cond (Nat.beq pc 25) (o_iload 1 26) o_bad) (cond (Nat.blt pc 27) (cond (Nat.beq pc 26) (o_iald 27) o_bad) (cond (Nat.beq pc 27) (o_aload 0 28) o_bad))) (cond (Nat.blt pc 34) (cond (Nat.blt pc 31) (cond (Nat.beq pc 28) (o_getf 11 0 31) o_bad) (cond (Nat.beq pc 31) (o_icmp (fun x y => y ≤ x) 37 34) o_bad)) (cond (Nat.blt pc 36) (cond (Nat.beq pc 34) (o_const (-1000000002) 36) o_bad) (cond (Nat.beq pc 36) (o_iret) o_bad)))) (cond (Nat.blt pc 43) (cond (Nat.blt pc 41) (cond (Nat.blt pc 38) (cond (Nat.beq pc 37) (o_aload 0 38) o_bad) (cond (Nat.beq pc 38) (o_getf 11 27 41) o_bad)) (cond (Nat.blt pc 42) (cond (Nat.beq pc 41) (o_iload 1 42) o_bad) (cond (Nat.beq pc 42) (o_const (2) 43) o_bad))) (cond (Nat.blt pc 45) (cond (Nat.blt pc 44) (cond (Nat.beq pc 43) (o_iast 44) o_bad) (cond (Nat.beq pc 44) (o_aload 0 45) o_bad)) (cond (Nat.blt pc 48) (cond (Nat.beq pc 45) (o_callV 1 11 sp_X11_walk 48) o_bad) (cond (Nat.beq pc 48) (o_iret) o_bad)))))
set_option maxRecDepth 20000 in
theorem ok_X11_giveBack : HOKs cX11_giveBack RX11 2 (some .int) 7 ins_X11_giveBack := fun _ => hnd (hnd (hnd (hnd (hlf (ok_aload_n dX11_giveBack_0 rfl rfl)) (hnd (hlf (ok_iload_n dX11_giveBack_1 rfl rfl)) (hlf (ok_callV (y := yX11_isVisit) (n' := 1) (C := RX11) (T := TX11) dX11_giveBack_2 ct_X11_isVisit (by decide) (by decide) wd_1179 wd_1176 wd_1178 wd_39 wd_50 rfl (by decide +kernel) rfl rfl rfl)))) (hnd (hnd (hlf (ok_if_ne dX11_giveBack_5 (by decide) rfl)) (hlf (ok_ldc dX11_giveBack_8 wd_1018 rfl))) (hnd (hlf (ok_iret dX11_giveBack_10)) (hlf (ok_aload_n dX11_giveBack_11 rfl rfl))))) (hnd (hnd (hlf (ok_getf (C := RX11) (T := TX11) dX11_giveBack_12 rfl rfl (by decide) rfl inX11 wd_904 rfl)) (hnd (hlf (ok_iload_n dX11_giveBack_15 rfl rfl)) (hlf (ok_iald dX11_giveBack_16 rfl)))) (hnd (hnd (hlf (ok_iconst dX11_giveBack_17 (by decide) rfl)) (hlf (ok_icmp_eq dX11_giveBack_18 (by decide) rfl))) (hnd (hlf (ok_aload_n dX11_giveBack_21 rfl rfl)) (hlf (ok_getf (C := RX11) (T := TX11) dX11_giveBack_22 rfl rfl (by decide) rfl inX11 wd_901 rfl)))))) (hnd (hnd (hnd (hlf (ok_iload_n dX11_giveBack_25 rfl rfl)) (hnd (hlf (ok_iald dX11_giveBack_26 rfl)) (hlf (ok_aload_n dX11_giveBack_27 rfl rfl)))) (hnd (hnd (hlf (ok_getf (C := RX11) (T := TX11) dX11_giveBack_28 rfl rfl (by decide) rfl inX11 wd_877 rfl)) (hlf (ok_icmp_ge dX11_giveBack_31 (by decide) rfl))) (hnd (hlf (ok_ldc dX11_giveBack_34 wd_1051 rfl)) (hlf (ok_iret dX11_giveBack_36))))) (hnd (hnd (hnd (hlf (ok_aload_n dX11_giveBack_37 rfl rfl)) (hlf (ok_getf (C := RX11) (T := TX11) dX11_giveBack_38 rfl rfl (by decide) rfl inX11 wd_904 rfl))) (hnd (hlf (ok_iload_n dX11_giveBack_41 rfl rfl)) (hlf (ok_iconst dX11_giveBack_42 (by decide) rfl)))) (hnd (hnd (hlf (ok_iast dX11_giveBack_43 rfl)) (hlf (ok_aload_n dX11_giveBack_44 rfl rfl))) (hnd (hlf (ok_callV (y := yX11_walk) (n' := 0) (C := RX11) (T := TX11) dX11_giveBack_45 ct_X11_walk (by decide) (by decide) wd_1055 wd_1052 wd_1054 wd_19 wd_50 rfl (by decide +kernel) rfl rfl rfl)) (hlf (ok_iret dX11_giveBack_48))))))

noncomputable def sp_X11_giveBack : HSp := fun as w σ K => wp ins_X11_giveBack (fun _ => none) K 60 0 (loc0 2 as) [] w σ
theorem vc_X11_giveBack : MVC ins_X11_giveBack 2 2 sp_X11_giveBack := mvc0 60 fun _ _ _ _ _ h => h
theorem ct_X11_giveBack : Ctr yX11_giveBack cX11_giveBack 2 (some .int) 7 0 0 2 sp_X11_giveBack := ctr_of (by decide +kernel) rfl (by decide) ok_X11_giveBack vc_X11_giveBack

theorem dX11_visit_0 : decode cX11_visit 0 = .ok (.aload_n 0, 1) := by decide +kernel
theorem dX11_visit_1 : decode cX11_visit 1 = .ok (.iload_n 1, 1) := by decide +kernel
theorem dX11_visit_2 : decode cX11_visit 2 = .ok (.invokevirtual 231, 3) := by decide +kernel
theorem dX11_visit_5 : decode cX11_visit 5 = .ok (.ifCond .eq 13, 3) := by decide +kernel
theorem dX11_visit_8 : decode cX11_visit 8 = .ok (.iload_n 2, 1) := by decide +kernel
theorem dX11_visit_9 : decode cX11_visit 9 = .ok (.iconst 0, 1) := by decide +kernel
theorem dX11_visit_10 : decode cX11_visit 10 = .ok (.bipush 6, 2) := by decide +kernel
theorem dX11_visit_12 : decode cX11_visit 12 = .ok (.invokestatic 102, 3) := by decide +kernel
theorem dX11_visit_15 : decode cX11_visit 15 = .ok (.ifCond .ne 6, 3) := by decide +kernel
theorem dX11_visit_18 : decode cX11_visit 18 = .ok (.ldc 109, 2) := by decide +kernel
theorem dX11_visit_20 : decode cX11_visit 20 = .ok (.ireturn, 1) := by decide +kernel
theorem dX11_visit_21 : decode cX11_visit 21 = .ok (.iload_n 2, 1) := by decide +kernel
theorem dX11_visit_22 : decode cX11_visit 22 = .ok (.tableswitch 80 0 5 #[38, 45, 52, 59, 66, 73], 38) := by decide +kernel
theorem dX11_visit_60 : decode cX11_visit 60 = .ok (.aload_n 0, 1) := by decide +kernel
theorem dX11_visit_61 : decode cX11_visit 61 = .ok (.getfield 62, 3) := by decide +kernel
theorem dX11_visit_64 : decode cX11_visit 64 = .ok (.iload_n 1, 1) := by decide +kernel
theorem dX11_visit_65 : decode cX11_visit 65 = .ok (.iaload, 1) := by decide +kernel
theorem dX11_visit_66 : decode cX11_visit 66 = .ok (.ireturn, 1) := by decide +kernel
theorem dX11_visit_67 : decode cX11_visit 67 = .ok (.aload_n 0, 1) := by decide +kernel
theorem dX11_visit_68 : decode cX11_visit 68 = .ok (.getfield 65, 3) := by decide +kernel
theorem dX11_visit_71 : decode cX11_visit 71 = .ok (.iload_n 1, 1) := by decide +kernel
theorem dX11_visit_72 : decode cX11_visit 72 = .ok (.iaload, 1) := by decide +kernel
theorem dX11_visit_73 : decode cX11_visit 73 = .ok (.ireturn, 1) := by decide +kernel
theorem dX11_visit_74 : decode cX11_visit 74 = .ok (.aload_n 0, 1) := by decide +kernel
theorem dX11_visit_75 : decode cX11_visit 75 = .ok (.getfield 68, 3) := by decide +kernel
theorem dX11_visit_78 : decode cX11_visit 78 = .ok (.iload_n 1, 1) := by decide +kernel
theorem dX11_visit_79 : decode cX11_visit 79 = .ok (.iaload, 1) := by decide +kernel
theorem dX11_visit_80 : decode cX11_visit 80 = .ok (.ireturn, 1) := by decide +kernel
theorem dX11_visit_81 : decode cX11_visit 81 = .ok (.aload_n 0, 1) := by decide +kernel
theorem dX11_visit_82 : decode cX11_visit 82 = .ok (.getfield 71, 3) := by decide +kernel
theorem dX11_visit_85 : decode cX11_visit 85 = .ok (.iload_n 1, 1) := by decide +kernel
theorem dX11_visit_86 : decode cX11_visit 86 = .ok (.iaload, 1) := by decide +kernel
theorem dX11_visit_87 : decode cX11_visit 87 = .ok (.ireturn, 1) := by decide +kernel
theorem dX11_visit_88 : decode cX11_visit 88 = .ok (.aload_n 0, 1) := by decide +kernel
theorem dX11_visit_89 : decode cX11_visit 89 = .ok (.getfield 74, 3) := by decide +kernel
theorem dX11_visit_92 : decode cX11_visit 92 = .ok (.iload_n 1, 1) := by decide +kernel
theorem dX11_visit_93 : decode cX11_visit 93 = .ok (.iaload, 1) := by decide +kernel
theorem dX11_visit_94 : decode cX11_visit 94 = .ok (.ireturn, 1) := by decide +kernel
theorem dX11_visit_95 : decode cX11_visit 95 = .ok (.aload_n 0, 1) := by decide +kernel
theorem dX11_visit_96 : decode cX11_visit 96 = .ok (.getfield 77, 3) := by decide +kernel
theorem dX11_visit_99 : decode cX11_visit 99 = .ok (.iload_n 1, 1) := by decide +kernel
theorem dX11_visit_100 : decode cX11_visit 100 = .ok (.iaload, 1) := by decide +kernel
theorem dX11_visit_101 : decode cX11_visit 101 = .ok (.ireturn, 1) := by decide +kernel
theorem dX11_visit_102 : decode cX11_visit 102 = .ok (.aload_n 0, 1) := by decide +kernel
theorem dX11_visit_103 : decode cX11_visit 103 = .ok (.aload_n 0, 1) := by decide +kernel
theorem dX11_visit_104 : decode cX11_visit 104 = .ok (.getfield 65, 3) := by decide +kernel
theorem dX11_visit_107 : decode cX11_visit 107 = .ok (.iload_n 1, 1) := by decide +kernel
theorem dX11_visit_108 : decode cX11_visit 108 = .ok (.iaload, 1) := by decide +kernel
theorem dX11_visit_109 : decode cX11_visit 109 = .ok (.invokevirtual 187, 3) := by decide +kernel
theorem dX11_visit_112 : decode cX11_visit 112 = .ok (.ifCond .eq 7, 3) := by decide +kernel
theorem dX11_visit_115 : decode cX11_visit 115 = .ok (.iconst 1, 1) := by decide +kernel
theorem dX11_visit_116 : decode cX11_visit 116 = .ok (.goto 4, 3) := by decide +kernel
theorem dX11_visit_119 : decode cX11_visit 119 = .ok (.iconst 0, 1) := by decide +kernel
theorem dX11_visit_120 : decode cX11_visit 120 = .ok (.ireturn, 1) := by decide +kernel
def ins_X11_visit (pc : Nat) : HOp := cond (Nat.blt pc 80) (cond (Nat.blt pc 60) (cond (Nat.blt pc 10) (cond (Nat.blt pc 5) (cond (Nat.blt pc 1) (cond (Nat.beq pc 0) (o_aload 0 1) o_bad) (cond (Nat.blt pc 2) (cond (Nat.beq pc 1) (o_iload 1 2) o_bad) (cond (Nat.beq pc 2) (o_callV 2 11 sp_X11_isVisit 5) o_bad))) (cond (Nat.blt pc 8) (cond (Nat.beq pc 5) (o_if (fun x => x = 0) 18 8) o_bad) (cond (Nat.blt pc 9) (cond (Nat.beq pc 8) (o_iload 2 9) o_bad) (cond (Nat.beq pc 9) (o_const (0) 10) o_bad)))) (cond (Nat.blt pc 18) (cond (Nat.blt pc 12) (cond (Nat.beq pc 10) (o_const (6) 12) o_bad) (cond (Nat.blt pc 15) (cond (Nat.beq pc 12) (o_callS 3 sp_X11_isIn 15) o_bad) (cond (Nat.beq pc 15) (o_if (fun x => x = 0) 18 21) o_bad))) (cond (Nat.blt pc 21) (cond (Nat.blt pc 20) (cond (Nat.beq pc 18) (o_const (-1000000001) 20) o_bad) (cond (Nat.beq pc 20) (o_iret) o_bad)) (cond (Nat.blt pc 22) (cond (Nat.beq pc 21) (o_iload 2 22) o_bad) (cond (Nat.beq pc 22) (o_sw [(0, 60), (1, 67), (2, 74), (3, 81), (4, 88), (5, 95)] 102) o_bad))))) (cond (Nat.blt pc 71) (cond (Nat.blt pc 65) (cond (Nat.blt pc 61) (cond (Nat.beq pc 60) (o_aload 0 61) o_bad) (cond (Nat.blt pc 64) (cond (Nat.beq pc 61) (o_getf 11 22 64) o_bad) (cond (Nat.beq pc 64) (o_iload 1 65) o_bad))) (cond (Nat.blt pc 67) (cond (Nat.blt pc 66) (cond (Nat.beq pc 65) (o_iald 66) o_bad) (cond (Nat.beq pc 66) (o_iret) o_bad)) (cond (Nat.blt pc 68) (cond (Nat.beq pc 67) (o_aload 0 68) o_bad) (cond (Nat.beq pc 68) (o_getf 11 23 71) o_bad)))) (cond (Nat.blt pc 74) (cond (Nat.blt pc 72) (cond (Nat.beq pc 71) (o_iload 1 72) o_bad) (cond (Nat.blt pc 73) (cond (Nat.beq pc 72) (o_iald 73) o_bad) (cond (Nat.beq pc 73) (o_iret) o_bad))) (cond (Nat.blt pc 78) (cond (Nat.blt pc 75) (cond (Nat.beq pc 74) (o_aload 0 75) o_bad) (cond (Nat.beq pc 75) (o_getf 11 24 78) o_bad)) (cond (Nat.blt pc 79) (cond (Nat.beq pc 78) (o_iload 1 79) o_bad) (cond (Nat.beq pc 79) (o_iald 80) o_bad)))))) (cond (Nat.blt pc 99) (cond (Nat.blt pc 88) (cond (Nat.blt pc 85) (cond (Nat.blt pc 81) (cond (Nat.beq pc 80) (o_iret) o_bad) (cond (Nat.blt pc 82) (cond (Nat.beq pc 81) (o_aload 0 82) o_bad) (cond (Nat.beq pc 82) (o_getf 11 25 85) o_bad))) (cond (Nat.blt pc 86) (cond (Nat.beq pc 85) (o_iload 1 86) o_bad) (cond (Nat.blt pc 87) (cond (Nat.beq pc 86) (o_iald 87) o_bad) (cond (Nat.beq pc 87) (o_iret) o_bad)))) (cond (Nat.blt pc 93) (cond (Nat.blt pc 89) (cond (Nat.beq pc 88) (o_aload 0 89) o_bad) (cond (Nat.blt pc 92) (cond (Nat.beq pc 89) (o_getf 11 26 92) o_bad) (cond (Nat.beq pc 92) (o_iload 1 93) o_bad))) (cond (Nat.blt pc 95) (cond (Nat.blt pc 94) (cond (Nat.beq pc 93) (o_iald 94) o_bad) (cond (Nat.beq pc 94) (o_iret) o_bad)) (cond (Nat.blt pc 96) (cond (Nat.beq pc 95) (o_aload 0 96) o_bad) (cond (Nat.beq pc 96) (o_getf 11 27 99) o_bad))))) (cond (Nat.blt pc 108) (cond (Nat.blt pc 102) (cond (Nat.blt pc 100) (cond (Nat.beq pc 99) (o_iload 1 100) o_bad) (cond (Nat.blt pc 101) (cond (Nat.beq pc 100) (o_iald 101) o_bad) (cond (Nat.beq pc 101) (o_iret) o_bad))) (cond (Nat.blt pc 104) (cond (Nat.blt pc 103) (cond (Nat.beq pc 102) (o_aload 0 103) o_bad) (cond (Nat.beq pc 103) (o_aload 0 104) o_bad)) (cond (Nat.blt pc 107) (cond (Nat.beq pc 104) (o_getf 11 23 107) o_bad) (cond (Nat.beq pc 107) (o_iload 1 108) o_bad)))) (cond (Nat.blt pc 115) (cond (Nat.blt pc 109) (cond (Nat.beq pc 108) (o_iald 109) o_bad) (cond (Nat.blt pc 112) (cond (Nat.beq pc 109) (o_callV 2 11 sp_X11_isLawyers 112) o_bad) (cond (Nat.beq pc 112) (o_if (fun x => x = 0) 119 115) o_bad))) (cond (Nat.blt pc 119) (cond (Nat.blt pc 116) (cond (Nat.beq pc 115) (o_const (1) 116) o_bad) (cond (Nat.beq pc 116) (o_goto 120) o_bad)) (cond (Nat.blt pc 120) (cond (Nat.beq pc 119) (o_const (0) 120) o_bad) (cond (Nat.beq pc 120) (o_iret) o_bad))))))
set_option maxRecDepth 20000 in
theorem ok_X11_visit : HOKs cX11_visit RX11 3 (some .int) 3 ins_X11_visit := fun _ => hnd (hnd (hnd (hnd (hnd (hlf (ok_aload_n dX11_visit_0 rfl rfl)) (hnd (hlf (ok_iload_n dX11_visit_1 rfl rfl)) (hlf (ok_callV (y := yX11_isVisit) (n' := 1) (C := RX11) (T := TX11) dX11_visit_2 ct_X11_isVisit (by decide) (by decide) wd_1179 wd_1176 wd_1178 wd_39 wd_50 rfl (by decide +kernel) rfl rfl rfl)))) (hnd (hlf (ok_if_eq dX11_visit_5 (by decide) rfl)) (hnd (hlf (ok_iload_n dX11_visit_8 rfl rfl)) (hlf (ok_iconst dX11_visit_9 (by decide) rfl))))) (hnd (hnd (hlf (ok_bipush dX11_visit_10 (by decide) rfl)) (hnd (hlf (ok_callS (y := yX11_isIn) dX11_visit_12 ct_X11_isIn (by decide) (by decide) wd_1017 wd_1015 wd_1016 wd_50 (by decide +kernel) rfl)) (hlf (ok_if_ne dX11_visit_15 (by decide) rfl)))) (hnd (hnd (hlf (ok_ldc dX11_visit_18 wd_1018 rfl)) (hlf (ok_iret dX11_visit_20))) (hnd (hlf (ok_iload_n dX11_visit_21 rfl rfl)) (hlf (ok_tsw dX11_visit_22 (by decide) (by decide) (by decide))))))) (hnd (hnd (hnd (hlf (ok_aload_n dX11_visit_60 rfl rfl)) (hnd (hlf (ok_getf (C := RX11) (T := TX11) dX11_visit_61 rfl rfl (by decide) rfl inX11 wd_899 rfl)) (hlf (ok_iload_n dX11_visit_64 rfl rfl)))) (hnd (hnd (hlf (ok_iald dX11_visit_65 rfl)) (hlf (ok_iret dX11_visit_66))) (hnd (hlf (ok_aload_n dX11_visit_67 rfl rfl)) (hlf (ok_getf (C := RX11) (T := TX11) dX11_visit_68 rfl rfl (by decide) rfl inX11 wd_900 rfl))))) (hnd (hnd (hlf (ok_iload_n dX11_visit_71 rfl rfl)) (hnd (hlf (ok_iald dX11_visit_72 rfl)) (hlf (ok_iret dX11_visit_73)))) (hnd (hnd (hlf (ok_aload_n dX11_visit_74 rfl rfl)) (hlf (ok_getf (C := RX11) (T := TX11) dX11_visit_75 rfl rfl (by decide) rfl inX11 wd_901 rfl))) (hnd (hlf (ok_iload_n dX11_visit_78 rfl rfl)) (hlf (ok_iald dX11_visit_79 rfl))))))) (hnd (hnd (hnd (hnd (hlf (ok_iret dX11_visit_80)) (hnd (hlf (ok_aload_n dX11_visit_81 rfl rfl)) (hlf (ok_getf (C := RX11) (T := TX11) dX11_visit_82 rfl rfl (by decide) rfl inX11 wd_902 rfl)))) (hnd (hlf (ok_iload_n dX11_visit_85 rfl rfl)) (hnd (hlf (ok_iald dX11_visit_86 rfl)) (hlf (ok_iret dX11_visit_87))))) (hnd (hnd (hlf (ok_aload_n dX11_visit_88 rfl rfl)) (hnd (hlf (ok_getf (C := RX11) (T := TX11) dX11_visit_89 rfl rfl (by decide) rfl inX11 wd_903 rfl)) (hlf (ok_iload_n dX11_visit_92 rfl rfl)))) (hnd (hnd (hlf (ok_iald dX11_visit_93 rfl)) (hlf (ok_iret dX11_visit_94))) (hnd (hlf (ok_aload_n dX11_visit_95 rfl rfl)) (hlf (ok_getf (C := RX11) (T := TX11) dX11_visit_96 rfl rfl (by decide) rfl inX11 wd_904 rfl)))))) (hnd (hnd (hnd (hlf (ok_iload_n dX11_visit_99 rfl rfl)) (hnd (hlf (ok_iald dX11_visit_100 rfl)) (hlf (ok_iret dX11_visit_101)))) (hnd (hnd (hlf (ok_aload_n dX11_visit_102 rfl rfl)) (hlf (ok_aload_n dX11_visit_103 rfl rfl))) (hnd (hlf (ok_getf (C := RX11) (T := TX11) dX11_visit_104 rfl rfl (by decide) rfl inX11 wd_900 rfl)) (hlf (ok_iload_n dX11_visit_107 rfl rfl))))) (hnd (hnd (hlf (ok_iald dX11_visit_108 rfl)) (hnd (hlf (ok_callV (y := yX11_isLawyers) (n' := 1) (C := RX11) (T := TX11) dX11_visit_109 ct_X11_isLawyers (by decide) (by decide) wd_1079 wd_1076 wd_1078 wd_25 wd_50 rfl (by decide +kernel) rfl rfl rfl)) (hlf (ok_if_eq dX11_visit_112 (by decide) rfl)))) (hnd (hnd (hlf (ok_iconst dX11_visit_115 (by decide) rfl)) (hlf (ok_goto dX11_visit_116 (by decide)))) (hnd (hlf (ok_iconst dX11_visit_119 (by decide) rfl)) (hlf (ok_iret dX11_visit_120)))))))

noncomputable def sp_X11_visit : HSp := fun as w σ K => wp ins_X11_visit (fun _ => none) K 50 0 (loc0 3 as) [] w σ
theorem vc_X11_visit : MVC ins_X11_visit 3 3 sp_X11_visit := mvc0 50 fun _ _ _ _ _ h => h
theorem ct_X11_visit : Ctr yX11_visit cX11_visit 3 (some .int) 3 0 0 3 sp_X11_visit := ctr_of (by decide +kernel) rfl (by decide) ok_X11_visit vc_X11_visit

theorem dX11_rule_0 : decode cX11_rule 0 = .ok (.iload_n 1, 1) := by decide +kernel
theorem dX11_rule_1 : decode cX11_rule 1 = .ok (.iconst 0, 1) := by decide +kernel
theorem dX11_rule_2 : decode cX11_rule 2 = .ok (.iconst 2, 1) := by decide +kernel
theorem dX11_rule_3 : decode cX11_rule 3 = .ok (.invokestatic 102, 3) := by decide +kernel
theorem dX11_rule_6 : decode cX11_rule 6 = .ok (.ifCond .eq 32, 3) := by decide +kernel
theorem dX11_rule_9 : decode cX11_rule 9 = .ok (.iload_n 1, 1) := by decide +kernel
theorem dX11_rule_10 : decode cX11_rule 10 = .ok (.ifCond .ne 13, 3) := by decide +kernel
theorem dX11_rule_13 : decode cX11_rule 13 = .ok (.iload_n 2, 1) := by decide +kernel
theorem dX11_rule_14 : decode cX11_rule 14 = .ok (.iconst 1, 1) := by decide +kernel
theorem dX11_rule_15 : decode cX11_rule 15 = .ok (.bipush 6, 2) := by decide +kernel
theorem dX11_rule_17 : decode cX11_rule 17 = .ok (.invokestatic 102, 3) := by decide +kernel
theorem dX11_rule_20 : decode cX11_rule 20 = .ok (.ifCond .eq 18, 3) := by decide +kernel
theorem dX11_rule_23 : decode cX11_rule 23 = .ok (.iload_n 1, 1) := by decide +kernel
theorem dX11_rule_24 : decode cX11_rule 24 = .ok (.iconst 1, 1) := by decide +kernel
theorem dX11_rule_25 : decode cX11_rule 25 = .ok (.if_icmp .ne 16, 3) := by decide +kernel
theorem dX11_rule_28 : decode cX11_rule 28 = .ok (.iload_n 2, 1) := by decide +kernel
theorem dX11_rule_29 : decode cX11_rule 29 = .ok (.iconst 1, 1) := by decide +kernel
theorem dX11_rule_30 : decode cX11_rule 30 = .ok (.bipush 100, 2) := by decide +kernel
theorem dX11_rule_32 : decode cX11_rule 32 = .ok (.invokestatic 102, 3) := by decide +kernel
theorem dX11_rule_35 : decode cX11_rule 35 = .ok (.ifCond .ne 6, 3) := by decide +kernel
theorem dX11_rule_38 : decode cX11_rule 38 = .ok (.ldc 109, 2) := by decide +kernel
theorem dX11_rule_40 : decode cX11_rule 40 = .ok (.ireturn, 1) := by decide +kernel
theorem dX11_rule_41 : decode cX11_rule 41 = .ok (.iload_n 1, 1) := by decide +kernel
theorem dX11_rule_42 : decode cX11_rule 42 = .ok (.ifCond .ne 10, 3) := by decide +kernel
theorem dX11_rule_45 : decode cX11_rule 45 = .ok (.aload_n 0, 1) := by decide +kernel
theorem dX11_rule_46 : decode cX11_rule 46 = .ok (.getfield 80, 3) := by decide +kernel
theorem dX11_rule_49 : decode cX11_rule 49 = .ok (.goto 19, 3) := by decide +kernel
theorem dX11_rule_52 : decode cX11_rule 52 = .ok (.iload_n 1, 1) := by decide +kernel
theorem dX11_rule_53 : decode cX11_rule 53 = .ok (.iconst 1, 1) := by decide +kernel
theorem dX11_rule_54 : decode cX11_rule 54 = .ok (.if_icmp .ne 10, 3) := by decide +kernel
theorem dX11_rule_57 : decode cX11_rule 57 = .ok (.aload_n 0, 1) := by decide +kernel
theorem dX11_rule_58 : decode cX11_rule 58 = .ok (.getfield 84, 3) := by decide +kernel
theorem dX11_rule_61 : decode cX11_rule 61 = .ok (.goto 7, 3) := by decide +kernel
theorem dX11_rule_64 : decode cX11_rule 64 = .ok (.aload_n 0, 1) := by decide +kernel
theorem dX11_rule_65 : decode cX11_rule 65 = .ok (.getfield 234, 3) := by decide +kernel
theorem dX11_rule_68 : decode cX11_rule 68 = .ok (.istore_n 3, 1) := by decide +kernel
theorem dX11_rule_69 : decode cX11_rule 69 = .ok (.iload_n 1, 1) := by decide +kernel
theorem dX11_rule_70 : decode cX11_rule 70 = .ok (.ifCond .ne 17, 3) := by decide +kernel
theorem dX11_rule_73 : decode cX11_rule 73 = .ok (.aload_n 0, 1) := by decide +kernel
theorem dX11_rule_74 : decode cX11_rule 74 = .ok (.iload_n 2, 1) := by decide +kernel
theorem dX11_rule_75 : decode cX11_rule 75 = .ok (.putfield 80, 3) := by decide +kernel
theorem dX11_rule_78 : decode cX11_rule 78 = .ok (.aload_n 0, 1) := by decide +kernel
theorem dX11_rule_79 : decode cX11_rule 79 = .ok (.invokevirtual 129, 3) := by decide +kernel
theorem dX11_rule_82 : decode cX11_rule 82 = .ok (.istore 4, 2) := by decide +kernel
theorem dX11_rule_84 : decode cX11_rule 84 = .ok (.goto 21, 3) := by decide +kernel
theorem dX11_rule_87 : decode cX11_rule 87 = .ok (.iload_n 1, 1) := by decide +kernel
theorem dX11_rule_88 : decode cX11_rule 88 = .ok (.iconst 1, 1) := by decide +kernel
theorem dX11_rule_89 : decode cX11_rule 89 = .ok (.if_icmp .ne 11, 3) := by decide +kernel
theorem dX11_rule_92 : decode cX11_rule 92 = .ok (.aload_n 0, 1) := by decide +kernel
theorem dX11_rule_93 : decode cX11_rule 93 = .ok (.iload_n 2, 1) := by decide +kernel
theorem dX11_rule_94 : decode cX11_rule 94 = .ok (.putfield 84, 3) := by decide +kernel
theorem dX11_rule_97 : decode cX11_rule 97 = .ok (.goto 8, 3) := by decide +kernel
theorem dX11_rule_100 : decode cX11_rule 100 = .ok (.aload_n 0, 1) := by decide +kernel
theorem dX11_rule_101 : decode cX11_rule 101 = .ok (.iload_n 2, 1) := by decide +kernel
theorem dX11_rule_102 : decode cX11_rule 102 = .ok (.putfield 234, 3) := by decide +kernel
theorem dX11_rule_105 : decode cX11_rule 105 = .ok (.iload_n 3, 1) := by decide +kernel
theorem dX11_rule_106 : decode cX11_rule 106 = .ok (.ireturn, 1) := by decide +kernel
def ins_X11_rule (pc : Nat) : HOp := cond (Nat.blt pc 53) (cond (Nat.blt pc 25) (cond (Nat.blt pc 13) (cond (Nat.blt pc 3) (cond (Nat.blt pc 1) (cond (Nat.beq pc 0) (o_iload 1 1) o_bad) (cond (Nat.blt pc 2) (cond (Nat.beq pc 1) (o_const (0) 2) o_bad) (cond (Nat.beq pc 2) (o_const (2) 3) o_bad))) (cond (Nat.blt pc 9) (cond (Nat.blt pc 6) (cond (Nat.beq pc 3) (o_callS 3 sp_X11_isIn 6) o_bad) (cond (Nat.beq pc 6) (o_if (fun x => x = 0) 38 9) o_bad)) (cond (Nat.blt pc 10) (cond (Nat.beq pc 9) (o_iload 1 10) o_bad) (cond (Nat.beq pc 10) (o_if (fun x => x = 0) 13 23) o_bad)))) (cond (Nat.blt pc 17) (cond (Nat.blt pc 14) (cond (Nat.beq pc 13) (o_iload 2 14) o_bad) (cond (Nat.blt pc 15) (cond (Nat.beq pc 14) (o_const (1) 15) o_bad) (cond (Nat.beq pc 15) (o_const (6) 17) o_bad))) (cond (Nat.blt pc 23) (cond (Nat.blt pc 20) (cond (Nat.beq pc 17) (o_callS 3 sp_X11_isIn 20) o_bad) (cond (Nat.beq pc 20) (o_if (fun x => x = 0) 38 23) o_bad)) (cond (Nat.blt pc 24) (cond (Nat.beq pc 23) (o_iload 1 24) o_bad) (cond (Nat.beq pc 24) (o_const (1) 25) o_bad))))) (cond (Nat.blt pc 40) (cond (Nat.blt pc 30) (cond (Nat.blt pc 28) (cond (Nat.beq pc 25) (o_icmp (fun x y => x = y) 28 41) o_bad) (cond (Nat.blt pc 29) (cond (Nat.beq pc 28) (o_iload 2 29) o_bad) (cond (Nat.beq pc 29) (o_const (1) 30) o_bad))) (cond (Nat.blt pc 35) (cond (Nat.blt pc 32) (cond (Nat.beq pc 30) (o_const (100) 32) o_bad) (cond (Nat.beq pc 32) (o_callS 3 sp_X11_isIn 35) o_bad)) (cond (Nat.blt pc 38) (cond (Nat.beq pc 35) (o_if (fun x => x = 0) 38 41) o_bad) (cond (Nat.beq pc 38) (o_const (-1000000001) 40) o_bad)))) (cond (Nat.blt pc 45) (cond (Nat.blt pc 41) (cond (Nat.beq pc 40) (o_iret) o_bad) (cond (Nat.blt pc 42) (cond (Nat.beq pc 41) (o_iload 1 42) o_bad) (cond (Nat.beq pc 42) (o_if (fun x => x = 0) 45 52) o_bad))) (cond (Nat.blt pc 49) (cond (Nat.blt pc 46) (cond (Nat.beq pc 45) (o_aload 0 46) o_bad) (cond (Nat.beq pc 46) (o_getf 11 28 49) o_bad)) (cond (Nat.blt pc 52) (cond (Nat.beq pc 49) (o_goto 68) o_bad) (cond (Nat.beq pc 52) (o_iload 1 53) o_bad)))))) (cond (Nat.blt pc 79) (cond (Nat.blt pc 68) (cond (Nat.blt pc 58) (cond (Nat.blt pc 54) (cond (Nat.beq pc 53) (o_const (1) 54) o_bad) (cond (Nat.blt pc 57) (cond (Nat.beq pc 54) (o_icmp (fun x y => x = y) 57 64) o_bad) (cond (Nat.beq pc 57) (o_aload 0 58) o_bad))) (cond (Nat.blt pc 64) (cond (Nat.blt pc 61) (cond (Nat.beq pc 58) (o_getf 11 29 61) o_bad) (cond (Nat.beq pc 61) (o_goto 68) o_bad)) (cond (Nat.blt pc 65) (cond (Nat.beq pc 64) (o_aload 0 65) o_bad) (cond (Nat.beq pc 65) (o_getf 11 30 68) o_bad)))) (cond (Nat.blt pc 73) (cond (Nat.blt pc 69) (cond (Nat.beq pc 68) (o_istore 3 69) o_bad) (cond (Nat.blt pc 70) (cond (Nat.beq pc 69) (o_iload 1 70) o_bad) (cond (Nat.beq pc 70) (o_if (fun x => x = 0) 73 87) o_bad))) (cond (Nat.blt pc 75) (cond (Nat.blt pc 74) (cond (Nat.beq pc 73) (o_aload 0 74) o_bad) (cond (Nat.beq pc 74) (o_iload 2 75) o_bad)) (cond (Nat.blt pc 78) (cond (Nat.beq pc 75) (o_putf 11 28 78) o_bad) (cond (Nat.beq pc 78) (o_aload 0 79) o_bad))))) (cond (Nat.blt pc 93) (cond (Nat.blt pc 87) (cond (Nat.blt pc 82) (cond (Nat.beq pc 79) (o_callV 1 11 sp_X11_walk 82) o_bad) (cond (Nat.blt pc 84) (cond (Nat.beq pc 82) (o_istore 4 84) o_bad) (cond (Nat.beq pc 84) (o_goto 105) o_bad))) (cond (Nat.blt pc 89) (cond (Nat.blt pc 88) (cond (Nat.beq pc 87) (o_iload 1 88) o_bad) (cond (Nat.beq pc 88) (o_const (1) 89) o_bad)) (cond (Nat.blt pc 92) (cond (Nat.beq pc 89) (o_icmp (fun x y => x = y) 92 100) o_bad) (cond (Nat.beq pc 92) (o_aload 0 93) o_bad)))) (cond (Nat.blt pc 101) (cond (Nat.blt pc 97) (cond (Nat.blt pc 94) (cond (Nat.beq pc 93) (o_iload 2 94) o_bad) (cond (Nat.beq pc 94) (o_putf 11 29 97) o_bad)) (cond (Nat.blt pc 100) (cond (Nat.beq pc 97) (o_goto 105) o_bad) (cond (Nat.beq pc 100) (o_aload 0 101) o_bad))) (cond (Nat.blt pc 105) (cond (Nat.blt pc 102) (cond (Nat.beq pc 101) (o_iload 2 102) o_bad) (cond (Nat.beq pc 102) (o_putf 11 30 105) o_bad)) (cond (Nat.blt pc 106) (cond (Nat.beq pc 105) (o_iload 3 106) o_bad) (cond (Nat.beq pc 106) (o_iret) o_bad))))))
set_option maxRecDepth 20000 in
theorem ok_X11_rule : HOKs cX11_rule RX11 5 (some .int) 7 ins_X11_rule := fun _ => hnd (hnd (hnd (hnd (hnd (hlf (ok_iload_n dX11_rule_0 rfl rfl)) (hnd (hlf (ok_iconst dX11_rule_1 (by decide) rfl)) (hlf (ok_iconst dX11_rule_2 (by decide) rfl)))) (hnd (hnd (hlf (ok_callS (y := yX11_isIn) dX11_rule_3 ct_X11_isIn (by decide) (by decide) wd_1017 wd_1015 wd_1016 wd_50 (by decide +kernel) rfl)) (hlf (ok_if_eq dX11_rule_6 (by decide) rfl))) (hnd (hlf (ok_iload_n dX11_rule_9 rfl rfl)) (hlf (ok_if_ne dX11_rule_10 (by decide) rfl))))) (hnd (hnd (hlf (ok_iload_n dX11_rule_13 rfl rfl)) (hnd (hlf (ok_iconst dX11_rule_14 (by decide) rfl)) (hlf (ok_bipush dX11_rule_15 (by decide) rfl)))) (hnd (hnd (hlf (ok_callS (y := yX11_isIn) dX11_rule_17 ct_X11_isIn (by decide) (by decide) wd_1017 wd_1015 wd_1016 wd_50 (by decide +kernel) rfl)) (hlf (ok_if_eq dX11_rule_20 (by decide) rfl))) (hnd (hlf (ok_iload_n dX11_rule_23 rfl rfl)) (hlf (ok_iconst dX11_rule_24 (by decide) rfl)))))) (hnd (hnd (hnd (hlf (ok_icmp_ne dX11_rule_25 (by decide) rfl)) (hnd (hlf (ok_iload_n dX11_rule_28 rfl rfl)) (hlf (ok_iconst dX11_rule_29 (by decide) rfl)))) (hnd (hnd (hlf (ok_bipush dX11_rule_30 (by decide) rfl)) (hlf (ok_callS (y := yX11_isIn) dX11_rule_32 ct_X11_isIn (by decide) (by decide) wd_1017 wd_1015 wd_1016 wd_50 (by decide +kernel) rfl))) (hnd (hlf (ok_if_ne dX11_rule_35 (by decide) rfl)) (hlf (ok_ldc dX11_rule_38 wd_1018 rfl))))) (hnd (hnd (hlf (ok_iret dX11_rule_40)) (hnd (hlf (ok_iload_n dX11_rule_41 rfl rfl)) (hlf (ok_if_ne dX11_rule_42 (by decide) rfl)))) (hnd (hnd (hlf (ok_aload_n dX11_rule_45 rfl rfl)) (hlf (ok_getf (C := RX11) (T := TX11) dX11_rule_46 rfl rfl (by decide) rfl inX11 wd_905 rfl))) (hnd (hlf (ok_goto dX11_rule_49 (by decide))) (hlf (ok_iload_n dX11_rule_52 rfl rfl))))))) (hnd (hnd (hnd (hnd (hlf (ok_iconst dX11_rule_53 (by decide) rfl)) (hnd (hlf (ok_icmp_ne dX11_rule_54 (by decide) rfl)) (hlf (ok_aload_n dX11_rule_57 rfl rfl)))) (hnd (hnd (hlf (ok_getf (C := RX11) (T := TX11) dX11_rule_58 rfl rfl (by decide) rfl inX11 wd_906 rfl)) (hlf (ok_goto dX11_rule_61 (by decide)))) (hnd (hlf (ok_aload_n dX11_rule_64 rfl rfl)) (hlf (ok_getf (C := RX11) (T := TX11) dX11_rule_65 rfl rfl (by decide) rfl inX11 wd_907 rfl))))) (hnd (hnd (hlf (ok_istore_n dX11_rule_68 rfl (by decide) rfl)) (hnd (hlf (ok_iload_n dX11_rule_69 rfl rfl)) (hlf (ok_if_ne dX11_rule_70 (by decide) rfl)))) (hnd (hnd (hlf (ok_aload_n dX11_rule_73 rfl rfl)) (hlf (ok_iload_n dX11_rule_74 rfl rfl))) (hnd (hlf (ok_putf (C := RX11) (T := TX11) dX11_rule_75 rfl rfl (by decide) rfl inX11 tyX11_ok nmX11 rfl rfl (fun _ _ => rfl) wd_905 rfl)) (hlf (ok_aload_n dX11_rule_78 rfl rfl)))))) (hnd (hnd (hnd (hlf (ok_callV (y := yX11_walk) (n' := 0) (C := RX11) (T := TX11) dX11_rule_79 ct_X11_walk (by decide) (by decide) wd_1055 wd_1052 wd_1054 wd_19 wd_50 rfl (by decide +kernel) rfl rfl rfl)) (hnd (hlf (ok_istore dX11_rule_82 (by decide) rfl)) (hlf (ok_goto dX11_rule_84 (by decide))))) (hnd (hnd (hlf (ok_iload_n dX11_rule_87 rfl rfl)) (hlf (ok_iconst dX11_rule_88 (by decide) rfl))) (hnd (hlf (ok_icmp_ne dX11_rule_89 (by decide) rfl)) (hlf (ok_aload_n dX11_rule_92 rfl rfl))))) (hnd (hnd (hnd (hlf (ok_iload_n dX11_rule_93 rfl rfl)) (hlf (ok_putf (C := RX11) (T := TX11) dX11_rule_94 rfl rfl (by decide) rfl inX11 tyX11_ok nmX11 rfl rfl (fun _ _ => rfl) wd_906 rfl))) (hnd (hlf (ok_goto dX11_rule_97 (by decide))) (hlf (ok_aload_n dX11_rule_100 rfl rfl)))) (hnd (hnd (hlf (ok_iload_n dX11_rule_101 rfl rfl)) (hlf (ok_putf (C := RX11) (T := TX11) dX11_rule_102 rfl rfl (by decide) rfl inX11 tyX11_ok nmX11 rfl rfl (fun _ _ => rfl) wd_907 rfl))) (hnd (hlf (ok_iload_n dX11_rule_105 rfl rfl)) (hlf (ok_iret dX11_rule_106)))))))

noncomputable def sp_X11_rule : HSp := fun as w σ K => wp ins_X11_rule (fun _ => none) K 80 0 (loc0 5 as) [] w σ
theorem vc_X11_rule : MVC ins_X11_rule 5 3 sp_X11_rule := mvc0 80 fun _ _ _ _ _ h => h
theorem ct_X11_rule : Ctr yX11_rule cX11_rule 5 (some .int) 7 0 0 3 sp_X11_rule := ctr_of (by decide +kernel) rfl (by decide) ok_X11_rule vc_X11_rule

theorem dX11_days_0 : decode cX11_days 0 = .ok (.iload_n 1, 1) := by decide +kernel
theorem dX11_days_1 : decode cX11_days 1 = .ok (.iconst 1, 1) := by decide +kernel
theorem dX11_days_2 : decode cX11_days 2 = .ok (.bipush 60, 2) := by decide +kernel
theorem dX11_days_4 : decode cX11_days 4 = .ok (.invokestatic 102, 3) := by decide +kernel
theorem dX11_days_7 : decode cX11_days 7 = .ok (.ifCond .eq 15, 3) := by decide +kernel
theorem dX11_days_10 : decode cX11_days 10 = .ok (.aload_n 0, 1) := by decide +kernel
theorem dX11_days_11 : decode cX11_days 11 = .ok (.getfield 125, 3) := by decide +kernel
theorem dX11_days_14 : decode cX11_days 14 = .ok (.iload_n 1, 1) := by decide +kernel
theorem dX11_days_15 : decode cX11_days 15 = .ok (.iadd, 1) := by decide +kernel
theorem dX11_days_16 : decode cX11_days 16 = .ok (.sipush 400, 3) := by decide +kernel
theorem dX11_days_19 : decode cX11_days 19 = .ok (.if_icmp .le 6, 3) := by decide +kernel
theorem dX11_days_22 : decode cX11_days 22 = .ok (.ldc 109, 2) := by decide +kernel
theorem dX11_days_24 : decode cX11_days 24 = .ok (.ireturn, 1) := by decide +kernel
theorem dX11_days_25 : decode cX11_days 25 = .ok (.aload_n 0, 1) := by decide +kernel
theorem dX11_days_26 : decode cX11_days 26 = .ok (.dup, 1) := by decide +kernel
theorem dX11_days_27 : decode cX11_days 27 = .ok (.getfield 125, 3) := by decide +kernel
theorem dX11_days_30 : decode cX11_days 30 = .ok (.iload_n 1, 1) := by decide +kernel
theorem dX11_days_31 : decode cX11_days 31 = .ok (.iadd, 1) := by decide +kernel
theorem dX11_days_32 : decode cX11_days 32 = .ok (.putfield 125, 3) := by decide +kernel
theorem dX11_days_35 : decode cX11_days 35 = .ok (.aload_n 0, 1) := by decide +kernel
theorem dX11_days_36 : decode cX11_days 36 = .ok (.getfield 125, 3) := by decide +kernel
theorem dX11_days_39 : decode cX11_days 39 = .ok (.ireturn, 1) := by decide +kernel
def ins_X11_days (pc : Nat) : HOp := cond (Nat.blt pc 22) (cond (Nat.blt pc 10) (cond (Nat.blt pc 2) (cond (Nat.blt pc 1) (cond (Nat.beq pc 0) (o_iload 1 1) o_bad) (cond (Nat.beq pc 1) (o_const (1) 2) o_bad)) (cond (Nat.blt pc 4) (cond (Nat.beq pc 2) (o_const (60) 4) o_bad) (cond (Nat.blt pc 7) (cond (Nat.beq pc 4) (o_callS 3 sp_X11_isIn 7) o_bad) (cond (Nat.beq pc 7) (o_if (fun x => x = 0) 22 10) o_bad)))) (cond (Nat.blt pc 15) (cond (Nat.blt pc 11) (cond (Nat.beq pc 10) (o_aload 0 11) o_bad) (cond (Nat.blt pc 14) (cond (Nat.beq pc 11) (o_getf 11 0 14) o_bad) (cond (Nat.beq pc 14) (o_iload 1 15) o_bad))) (cond (Nat.blt pc 16) (cond (Nat.beq pc 15) (o_bin (fun x y => x + y) 16) o_bad) (cond (Nat.blt pc 19) (cond (Nat.beq pc 16) (o_const (400) 19) o_bad) (cond (Nat.beq pc 19) (o_icmp (fun x y => x ≤ y) 25 22) o_bad))))) (cond (Nat.blt pc 30) (cond (Nat.blt pc 25) (cond (Nat.blt pc 24) (cond (Nat.beq pc 22) (o_const (-1000000001) 24) o_bad) (cond (Nat.beq pc 24) (o_iret) o_bad)) (cond (Nat.blt pc 26) (cond (Nat.beq pc 25) (o_aload 0 26) o_bad) (cond (Nat.blt pc 27) (cond (Nat.beq pc 26) (o_dup 27) o_bad) (cond (Nat.beq pc 27) (o_getf 11 0 30) o_bad)))) (cond (Nat.blt pc 35) (cond (Nat.blt pc 31) (cond (Nat.beq pc 30) (o_iload 1 31) o_bad) (cond (Nat.blt pc 32) (cond (Nat.beq pc 31) (o_bin (fun x y => x + y) 32) o_bad) (cond (Nat.beq pc 32) (o_putf 11 0 35) o_bad))) (cond (Nat.blt pc 36) (cond (Nat.beq pc 35) (o_aload 0 36) o_bad) (cond (Nat.blt pc 39) (cond (Nat.beq pc 36) (o_getf 11 0 39) o_bad) (cond (Nat.beq pc 39) (o_iret) o_bad)))))
set_option maxRecDepth 20000 in
theorem ok_X11_days : HOKs cX11_days RX11 2 (some .int) 2 ins_X11_days := fun _ => hnd (hnd (hnd (hnd (hlf (ok_iload_n dX11_days_0 rfl rfl)) (hlf (ok_iconst dX11_days_1 (by decide) rfl))) (hnd (hlf (ok_bipush dX11_days_2 (by decide) rfl)) (hnd (hlf (ok_callS (y := yX11_isIn) dX11_days_4 ct_X11_isIn (by decide) (by decide) wd_1017 wd_1015 wd_1016 wd_50 (by decide +kernel) rfl)) (hlf (ok_if_eq dX11_days_7 (by decide) rfl))))) (hnd (hnd (hlf (ok_aload_n dX11_days_10 rfl rfl)) (hnd (hlf (ok_getf (C := RX11) (T := TX11) dX11_days_11 rfl rfl (by decide) rfl inX11 wd_877 rfl)) (hlf (ok_iload_n dX11_days_14 rfl rfl)))) (hnd (hlf (ok_iadd dX11_days_15 rfl)) (hnd (hlf (ok_sipush dX11_days_16 (by decide) rfl)) (hlf (ok_icmp_le dX11_days_19 (by decide) rfl)))))) (hnd (hnd (hnd (hlf (ok_ldc dX11_days_22 wd_1018 rfl)) (hlf (ok_iret dX11_days_24))) (hnd (hlf (ok_aload_n dX11_days_25 rfl rfl)) (hnd (hlf (ok_dup dX11_days_26 rfl)) (hlf (ok_getf (C := RX11) (T := TX11) dX11_days_27 rfl rfl (by decide) rfl inX11 wd_877 rfl))))) (hnd (hnd (hlf (ok_iload_n dX11_days_30 rfl rfl)) (hnd (hlf (ok_iadd dX11_days_31 rfl)) (hlf (ok_putf (C := RX11) (T := TX11) dX11_days_32 rfl rfl (by decide) rfl inX11 tyX11_ok nmX11 rfl rfl (fun _ _ => rfl) wd_877 rfl)))) (hnd (hlf (ok_aload_n dX11_days_35 rfl rfl)) (hnd (hlf (ok_getf (C := RX11) (T := TX11) dX11_days_36 rfl rfl (by decide) rfl inX11 wd_877 rfl)) (hlf (ok_iret dX11_days_39))))))

noncomputable def sp_X11_days : HSp := fun as w σ K => wp ins_X11_days (fun _ => none) K 40 0 (loc0 2 as) [] w σ
theorem vc_X11_days : MVC ins_X11_days 2 2 sp_X11_days := mvc0 40 fun _ _ _ _ _ h => h
theorem ct_X11_days : Ctr yX11_days cX11_days 2 (some .int) 2 0 0 2 sp_X11_days := ctr_of (by decide +kernel) rfl (by decide) ok_X11_days vc_X11_days

theorem dX11_hall_0 : decode cX11_hall 0 = .ok (.iload_n 1, 1) := by decide +kernel
theorem dX11_hall_1 : decode cX11_hall 1 = .ok (.invokestatic 237, 3) := by decide +kernel
theorem dX11_hall_4 : decode cX11_hall 4 = .ok (.ifCond .eq 22, 3) := by decide +kernel
theorem dX11_hall_7 : decode cX11_hall 7 = .ok (.iload_n 2, 1) := by decide +kernel
theorem dX11_hall_8 : decode cX11_hall 8 = .ok (.iconst 0, 1) := by decide +kernel
theorem dX11_hall_9 : decode cX11_hall 9 = .ok (.bipush 11, 2) := by decide +kernel
theorem dX11_hall_11 : decode cX11_hall 11 = .ok (.invokestatic 102, 3) := by decide +kernel
theorem dX11_hall_14 : decode cX11_hall 14 = .ok (.ifCond .eq 12, 3) := by decide +kernel
theorem dX11_hall_17 : decode cX11_hall 17 = .ok (.iload_n 3, 1) := by decide +kernel
theorem dX11_hall_18 : decode cX11_hall 18 = .ok (.iconst 0, 1) := by decide +kernel
theorem dX11_hall_19 : decode cX11_hall 19 = .ok (.iconst 1, 1) := by decide +kernel
theorem dX11_hall_20 : decode cX11_hall 20 = .ok (.invokestatic 102, 3) := by decide +kernel
theorem dX11_hall_23 : decode cX11_hall 23 = .ok (.ifCond .ne 6, 3) := by decide +kernel
theorem dX11_hall_26 : decode cX11_hall 26 = .ok (.ldc 109, 2) := by decide +kernel
theorem dX11_hall_28 : decode cX11_hall 28 = .ok (.ireturn, 1) := by decide +kernel
theorem dX11_hall_29 : decode cX11_hall 29 = .ok (.aload_n 0, 1) := by decide +kernel
theorem dX11_hall_30 : decode cX11_hall 30 = .ok (.iload_n 1, 1) := by decide +kernel
theorem dX11_hall_31 : decode cX11_hall 31 = .ok (.iload_n 2, 1) := by decide +kernel
theorem dX11_hall_32 : decode cX11_hall 32 = .ok (.invokevirtual 205, 3) := by decide +kernel
theorem dX11_hall_35 : decode cX11_hall 35 = .ok (.istore 4, 2) := by decide +kernel
theorem dX11_hall_37 : decode cX11_hall 37 = .ok (.aload_n 0, 1) := by decide +kernel
theorem dX11_hall_38 : decode cX11_hall 38 = .ok (.iload_n 1, 1) := by decide +kernel
theorem dX11_hall_39 : decode cX11_hall 39 = .ok (.invokevirtual 209, 3) := by decide +kernel
theorem dX11_hall_42 : decode cX11_hall 42 = .ok (.iload 4, 2) := by decide +kernel
theorem dX11_hall_44 : decode cX11_hall 44 = .ok (.isub, 1) := by decide +kernel
theorem dX11_hall_45 : decode cX11_hall 45 = .ok (.istore 5, 2) := by decide +kernel
theorem dX11_hall_47 : decode cX11_hall 47 = .ok (.iload_n 3, 1) := by decide +kernel
theorem dX11_hall_48 : decode cX11_hall 48 = .ok (.ifCond .ne 8, 3) := by decide +kernel
theorem dX11_hall_51 : decode cX11_hall 51 = .ok (.iload 4, 2) := by decide +kernel
theorem dX11_hall_53 : decode cX11_hall 53 = .ok (.goto 14, 3) := by decide +kernel
theorem dX11_hall_56 : decode cX11_hall 56 = .ok (.iload 5, 2) := by decide +kernel
theorem dX11_hall_58 : decode cX11_hall 58 = .ok (.ifCond .ge 7, 3) := by decide +kernel
theorem dX11_hall_61 : decode cX11_hall 61 = .ok (.iconst 0, 1) := by decide +kernel
theorem dX11_hall_62 : decode cX11_hall 62 = .ok (.goto 5, 3) := by decide +kernel
theorem dX11_hall_65 : decode cX11_hall 65 = .ok (.iload 5, 2) := by decide +kernel
theorem dX11_hall_67 : decode cX11_hall 67 = .ok (.ireturn, 1) := by decide +kernel
def ins_X11_hall (pc : Nat) : HOp := cond (Nat.blt pc 32) (cond (Nat.blt pc 18) (cond (Nat.blt pc 8) (cond (Nat.blt pc 4) (cond (Nat.blt pc 1) (cond (Nat.beq pc 0) (o_iload 1 1) o_bad) (cond (Nat.beq pc 1) (o_callS 1 sp_X11_isDay 4) o_bad)) (cond (Nat.blt pc 7) (cond (Nat.beq pc 4) (o_if (fun x => x = 0) 26 7) o_bad) (cond (Nat.beq pc 7) (o_iload 2 8) o_bad))) (cond (Nat.blt pc 11) (cond (Nat.blt pc 9) (cond (Nat.beq pc 8) (o_const (0) 9) o_bad) (cond (Nat.beq pc 9) (o_const (11) 11) o_bad)) (cond (Nat.blt pc 14) (cond (Nat.beq pc 11) (o_callS 3 sp_X11_isIn 14) o_bad) (cond (Nat.blt pc 17) (cond (Nat.beq pc 14) (o_if (fun x => x = 0) 26 17) o_bad) (cond (Nat.beq pc 17) (o_iload 3 18) o_bad))))) (cond (Nat.blt pc 26) (cond (Nat.blt pc 20) (cond (Nat.blt pc 19) (cond (Nat.beq pc 18) (o_const (0) 19) o_bad) (cond (Nat.beq pc 19) (o_const (1) 20) o_bad)) (cond (Nat.blt pc 23) (cond (Nat.beq pc 20) (o_callS 3 sp_X11_isIn 23) o_bad) (cond (Nat.beq pc 23) (o_if (fun x => x = 0) 26 29) o_bad))) (cond (Nat.blt pc 29) (cond (Nat.blt pc 28) (cond (Nat.beq pc 26) (o_const (-1000000001) 28) o_bad) (cond (Nat.beq pc 28) (o_iret) o_bad)) (cond (Nat.blt pc 30) (cond (Nat.beq pc 29) (o_aload 0 30) o_bad) (cond (Nat.blt pc 31) (cond (Nat.beq pc 30) (o_iload 1 31) o_bad) (cond (Nat.beq pc 31) (o_iload 2 32) o_bad)))))) (cond (Nat.blt pc 48) (cond (Nat.blt pc 39) (cond (Nat.blt pc 37) (cond (Nat.blt pc 35) (cond (Nat.beq pc 32) (o_callV 3 11 sp_X11_letAt 35) o_bad) (cond (Nat.beq pc 35) (o_istore 4 37) o_bad)) (cond (Nat.blt pc 38) (cond (Nat.beq pc 37) (o_aload 0 38) o_bad) (cond (Nat.beq pc 38) (o_iload 1 39) o_bad))) (cond (Nat.blt pc 44) (cond (Nat.blt pc 42) (cond (Nat.beq pc 39) (o_callV 2 11 sp_X11_tablesOn 42) o_bad) (cond (Nat.beq pc 42) (o_iload 4 44) o_bad)) (cond (Nat.blt pc 45) (cond (Nat.beq pc 44) (o_bin (fun x y => x - y) 45) o_bad) (cond (Nat.blt pc 47) (cond (Nat.beq pc 45) (o_istore 5 47) o_bad) (cond (Nat.beq pc 47) (o_iload 3 48) o_bad))))) (cond (Nat.blt pc 58) (cond (Nat.blt pc 53) (cond (Nat.blt pc 51) (cond (Nat.beq pc 48) (o_if (fun x => x = 0) 51 56) o_bad) (cond (Nat.beq pc 51) (o_iload 4 53) o_bad)) (cond (Nat.blt pc 56) (cond (Nat.beq pc 53) (o_goto 67) o_bad) (cond (Nat.beq pc 56) (o_iload 5 58) o_bad))) (cond (Nat.blt pc 62) (cond (Nat.blt pc 61) (cond (Nat.beq pc 58) (o_if (fun x => 0 ≤ x) 65 61) o_bad) (cond (Nat.beq pc 61) (o_const (0) 62) o_bad)) (cond (Nat.blt pc 65) (cond (Nat.beq pc 62) (o_goto 67) o_bad) (cond (Nat.blt pc 67) (cond (Nat.beq pc 65) (o_iload 5 67) o_bad) (cond (Nat.beq pc 67) (o_iret) o_bad))))))
set_option maxRecDepth 20000 in
theorem ok_X11_hall : HOKs cX11_hall RX11 6 (some .int) 3 ins_X11_hall := fun _ => hnd (hnd (hnd (hnd (hnd (hlf (ok_iload_n dX11_hall_0 rfl rfl)) (hlf (ok_callS (y := yX11_isDay) dX11_hall_1 ct_X11_isDay (by decide) (by decide) wd_1198 wd_1196 wd_1197 wd_50 (by decide +kernel) rfl))) (hnd (hlf (ok_if_eq dX11_hall_4 (by decide) rfl)) (hlf (ok_iload_n dX11_hall_7 rfl rfl)))) (hnd (hnd (hlf (ok_iconst dX11_hall_8 (by decide) rfl)) (hlf (ok_bipush dX11_hall_9 (by decide) rfl))) (hnd (hlf (ok_callS (y := yX11_isIn) dX11_hall_11 ct_X11_isIn (by decide) (by decide) wd_1017 wd_1015 wd_1016 wd_50 (by decide +kernel) rfl)) (hnd (hlf (ok_if_eq dX11_hall_14 (by decide) rfl)) (hlf (ok_iload_n dX11_hall_17 rfl rfl)))))) (hnd (hnd (hnd (hlf (ok_iconst dX11_hall_18 (by decide) rfl)) (hlf (ok_iconst dX11_hall_19 (by decide) rfl))) (hnd (hlf (ok_callS (y := yX11_isIn) dX11_hall_20 ct_X11_isIn (by decide) (by decide) wd_1017 wd_1015 wd_1016 wd_50 (by decide +kernel) rfl)) (hlf (ok_if_ne dX11_hall_23 (by decide) rfl)))) (hnd (hnd (hlf (ok_ldc dX11_hall_26 wd_1018 rfl)) (hlf (ok_iret dX11_hall_28))) (hnd (hlf (ok_aload_n dX11_hall_29 rfl rfl)) (hnd (hlf (ok_iload_n dX11_hall_30 rfl rfl)) (hlf (ok_iload_n dX11_hall_31 rfl rfl))))))) (hnd (hnd (hnd (hnd (hlf (ok_callV (y := yX11_letAt) (n' := 2) (C := RX11) (T := TX11) dX11_hall_32 ct_X11_letAt (by decide) (by decide) wd_1092 wd_1089 wd_1091 wd_28 wd_50 rfl (by decide +kernel) rfl rfl rfl)) (hlf (ok_istore dX11_hall_35 (by decide) rfl))) (hnd (hlf (ok_aload_n dX11_hall_37 rfl rfl)) (hlf (ok_iload_n dX11_hall_38 rfl rfl)))) (hnd (hnd (hlf (ok_callV (y := yX11_tablesOn) (n' := 1) (C := RX11) (T := TX11) dX11_hall_39 ct_X11_tablesOn (by decide) (by decide) wd_1100 wd_1097 wd_1099 wd_30 wd_50 rfl (by decide +kernel) rfl rfl rfl)) (hlf (ok_iload dX11_hall_42 rfl))) (hnd (hlf (ok_isub dX11_hall_44 rfl)) (hnd (hlf (ok_istore dX11_hall_45 (by decide) rfl)) (hlf (ok_iload_n dX11_hall_47 rfl rfl)))))) (hnd (hnd (hnd (hlf (ok_if_ne dX11_hall_48 (by decide) rfl)) (hlf (ok_iload dX11_hall_51 rfl))) (hnd (hlf (ok_goto dX11_hall_53 (by decide))) (hlf (ok_iload dX11_hall_56 rfl)))) (hnd (hnd (hlf (ok_if_ge dX11_hall_58 (by decide) rfl)) (hlf (ok_iconst dX11_hall_61 (by decide) rfl))) (hnd (hlf (ok_goto dX11_hall_62 (by decide))) (hnd (hlf (ok_iload dX11_hall_65 rfl)) (hlf (ok_iret dX11_hall_67)))))))

noncomputable def sp_X11_hall : HSp := fun as w σ K => wp ins_X11_hall (fun _ => none) K 60 0 (loc0 6 as) [] w σ
theorem vc_X11_hall : MVC ins_X11_hall 6 4 sp_X11_hall := mvc0 60 fun _ _ _ _ _ h => h
theorem ct_X11_hall : Ctr yX11_hall cX11_hall 6 (some .int) 3 0 0 4 sp_X11_hall := ctr_of (by decide +kernel) rfl (by decide) ok_X11_hall vc_X11_hall

theorem dX11_mark_0 : decode cX11_mark 0 = .ok (.iload_n 1, 1) := by decide +kernel
theorem dX11_mark_1 : decode cX11_mark 1 = .ok (.invokestatic 243, 3) := by decide +kernel
theorem dX11_mark_4 : decode cX11_mark 4 = .ok (.ifCond .ne 6, 3) := by decide +kernel
theorem dX11_mark_7 : decode cX11_mark 7 = .ok (.ldc 109, 2) := by decide +kernel
theorem dX11_mark_9 : decode cX11_mark 9 = .ok (.ireturn, 1) := by decide +kernel
theorem dX11_mark_10 : decode cX11_mark 10 = .ok (.aload_n 0, 1) := by decide +kernel
theorem dX11_mark_11 : decode cX11_mark 11 = .ok (.getfield 87, 3) := by decide +kernel
theorem dX11_mark_14 : decode cX11_mark 14 = .ok (.iload_n 1, 1) := by decide +kernel
theorem dX11_mark_15 : decode cX11_mark 15 = .ok (.iaload, 1) := by decide +kernel
theorem dX11_mark_16 : decode cX11_mark 16 = .ok (.ifCond .ge 6, 3) := by decide +kernel
theorem dX11_mark_19 : decode cX11_mark 19 = .ok (.ldc 247, 2) := by decide +kernel
theorem dX11_mark_21 : decode cX11_mark 21 = .ok (.ireturn, 1) := by decide +kernel
theorem dX11_mark_22 : decode cX11_mark 22 = .ok (.iload_n 2, 1) := by decide +kernel
theorem dX11_mark_23 : decode cX11_mark 23 = .ok (.iconst 0, 1) := by decide +kernel
theorem dX11_mark_24 : decode cX11_mark 24 = .ok (.aload_n 0, 1) := by decide +kernel
theorem dX11_mark_25 : decode cX11_mark 25 = .ok (.getfield 87, 3) := by decide +kernel
theorem dX11_mark_28 : decode cX11_mark 28 = .ok (.iload_n 1, 1) := by decide +kernel
theorem dX11_mark_29 : decode cX11_mark 29 = .ok (.iaload, 1) := by decide +kernel
theorem dX11_mark_30 : decode cX11_mark 30 = .ok (.iconst 1, 1) := by decide +kernel
theorem dX11_mark_31 : decode cX11_mark 31 = .ok (.isub, 1) := by decide +kernel
theorem dX11_mark_32 : decode cX11_mark 32 = .ok (.invokestatic 102, 3) := by decide +kernel
theorem dX11_mark_35 : decode cX11_mark 35 = .ok (.ifCond .ne 6, 3) := by decide +kernel
theorem dX11_mark_38 : decode cX11_mark 38 = .ok (.ldc 248, 2) := by decide +kernel
theorem dX11_mark_40 : decode cX11_mark 40 = .ok (.ireturn, 1) := by decide +kernel
theorem dX11_mark_41 : decode cX11_mark 41 = .ok (.aload_n 0, 1) := by decide +kernel
theorem dX11_mark_42 : decode cX11_mark 42 = .ok (.getfield 90, 3) := by decide +kernel
theorem dX11_mark_45 : decode cX11_mark 45 = .ok (.bipush 60, 2) := by decide +kernel
theorem dX11_mark_47 : decode cX11_mark 47 = .ok (.iload_n 1, 1) := by decide +kernel
theorem dX11_mark_48 : decode cX11_mark 48 = .ok (.imul, 1) := by decide +kernel
theorem dX11_mark_49 : decode cX11_mark 49 = .ok (.iload_n 2, 1) := by decide +kernel
theorem dX11_mark_50 : decode cX11_mark 50 = .ok (.iadd, 1) := by decide +kernel
theorem dX11_mark_51 : decode cX11_mark 51 = .ok (.iaload, 1) := by decide +kernel
theorem dX11_mark_52 : decode cX11_mark 52 = .ok (.istore 4, 2) := by decide +kernel
theorem dX11_mark_54 : decode cX11_mark 54 = .ok (.aload_n 0, 1) := by decide +kernel
theorem dX11_mark_55 : decode cX11_mark 55 = .ok (.getfield 90, 3) := by decide +kernel
theorem dX11_mark_58 : decode cX11_mark 58 = .ok (.bipush 60, 2) := by decide +kernel
theorem dX11_mark_60 : decode cX11_mark 60 = .ok (.iload_n 1, 1) := by decide +kernel
theorem dX11_mark_61 : decode cX11_mark 61 = .ok (.imul, 1) := by decide +kernel
theorem dX11_mark_62 : decode cX11_mark 62 = .ok (.iload_n 2, 1) := by decide +kernel
theorem dX11_mark_63 : decode cX11_mark 63 = .ok (.iadd, 1) := by decide +kernel
theorem dX11_mark_64 : decode cX11_mark 64 = .ok (.iload_n 3, 1) := by decide +kernel
theorem dX11_mark_65 : decode cX11_mark 65 = .ok (.i2b, 1) := by decide +kernel
theorem dX11_mark_66 : decode cX11_mark 66 = .ok (.iastore, 1) := by decide +kernel
theorem dX11_mark_67 : decode cX11_mark 67 = .ok (.iload 4, 2) := by decide +kernel
theorem dX11_mark_69 : decode cX11_mark 69 = .ok (.ireturn, 1) := by decide +kernel
def ins_X11_mark (pc : Nat) : HOp := cond (Nat.blt pc 38) (cond (Nat.blt pc 21) (cond (Nat.blt pc 10) (cond (Nat.blt pc 4) (cond (Nat.blt pc 1) (cond (Nat.beq pc 0) (o_iload 1 1) o_bad) (cond (Nat.beq pc 1) (o_callS 1 sp_X11_isSheet 4) o_bad)) (cond (Nat.blt pc 7) (cond (Nat.beq pc 4) (o_if (fun x => x = 0) 7 10) o_bad) (cond (Nat.blt pc 9) (cond (Nat.beq pc 7) (o_const (-1000000001) 9) o_bad) (cond (Nat.beq pc 9) (o_iret) o_bad)))) (cond (Nat.blt pc 15) (cond (Nat.blt pc 11) (cond (Nat.beq pc 10) (o_aload 0 11) o_bad) (cond (Nat.blt pc 14) (cond (Nat.beq pc 11) (o_getf 11 31 14) o_bad) (cond (Nat.beq pc 14) (o_iload 1 15) o_bad))) (cond (Nat.blt pc 16) (cond (Nat.beq pc 15) (o_iald 16) o_bad) (cond (Nat.blt pc 19) (cond (Nat.beq pc 16) (o_if (fun x => 0 ≤ x) 22 19) o_bad) (cond (Nat.beq pc 19) (o_const (-1000000011) 21) o_bad))))) (cond (Nat.blt pc 28) (cond (Nat.blt pc 23) (cond (Nat.blt pc 22) (cond (Nat.beq pc 21) (o_iret) o_bad) (cond (Nat.beq pc 22) (o_iload 2 23) o_bad)) (cond (Nat.blt pc 24) (cond (Nat.beq pc 23) (o_const (0) 24) o_bad) (cond (Nat.blt pc 25) (cond (Nat.beq pc 24) (o_aload 0 25) o_bad) (cond (Nat.beq pc 25) (o_getf 11 31 28) o_bad)))) (cond (Nat.blt pc 31) (cond (Nat.blt pc 29) (cond (Nat.beq pc 28) (o_iload 1 29) o_bad) (cond (Nat.blt pc 30) (cond (Nat.beq pc 29) (o_iald 30) o_bad) (cond (Nat.beq pc 30) (o_const (1) 31) o_bad))) (cond (Nat.blt pc 32) (cond (Nat.beq pc 31) (o_bin (fun x y => x - y) 32) o_bad) (cond (Nat.blt pc 35) (cond (Nat.beq pc 32) (o_callS 3 sp_X11_isIn 35) o_bad) (cond (Nat.beq pc 35) (o_if (fun x => x = 0) 38 41) o_bad)))))) (cond (Nat.blt pc 54) (cond (Nat.blt pc 47) (cond (Nat.blt pc 41) (cond (Nat.blt pc 40) (cond (Nat.beq pc 38) (o_const (-1000000013) 40) o_bad) (cond (Nat.beq pc 40) (o_iret) o_bad)) (cond (Nat.blt pc 42) (cond (Nat.beq pc 41) (o_aload 0 42) o_bad) (cond (Nat.blt pc 45) (cond (Nat.beq pc 42) (o_getf 11 32 45) o_bad) (cond (Nat.beq pc 45) (o_const (60) 47) o_bad)))) (cond (Nat.blt pc 50) (cond (Nat.blt pc 48) (cond (Nat.beq pc 47) (o_iload 1 48) o_bad) (cond (Nat.blt pc 49) (cond (Nat.beq pc 48) (o_bin (fun x y => x * y) 49) o_bad) (cond (Nat.beq pc 49) (o_iload 2 50) o_bad))) (cond (Nat.blt pc 51) (cond (Nat.beq pc 50) (o_bin (fun x y => x + y) 51) o_bad) (cond (Nat.blt pc 52) (cond (Nat.beq pc 51) (o_iald 52) o_bad) (cond (Nat.beq pc 52) (o_istore 4 54) o_bad))))) (cond (Nat.blt pc 63) (cond (Nat.blt pc 60) (cond (Nat.blt pc 55) (cond (Nat.beq pc 54) (o_aload 0 55) o_bad) (cond (Nat.blt pc 58) (cond (Nat.beq pc 55) (o_getf 11 32 58) o_bad) (cond (Nat.beq pc 58) (o_const (60) 60) o_bad))) (cond (Nat.blt pc 61) (cond (Nat.beq pc 60) (o_iload 1 61) o_bad) (cond (Nat.blt pc 62) (cond (Nat.beq pc 61) (o_bin (fun x y => x * y) 62) o_bad) (cond (Nat.beq pc 62) (o_iload 2 63) o_bad)))) (cond (Nat.blt pc 66) (cond (Nat.blt pc 64) (cond (Nat.beq pc 63) (o_bin (fun x y => x + y) 64) o_bad) (cond (Nat.blt pc 65) (cond (Nat.beq pc 64) (o_iload 3 65) o_bad) (cond (Nat.beq pc 65) (o_un (fun x => x.toInt8.toInt32) 66) o_bad))) (cond (Nat.blt pc 67) (cond (Nat.beq pc 66) (o_iast 67) o_bad) (cond (Nat.blt pc 69) (cond (Nat.beq pc 67) (o_iload 4 69) o_bad) (cond (Nat.beq pc 69) (o_iret) o_bad))))))
set_option maxRecDepth 20000 in
theorem ok_X11_mark : HOKs cX11_mark RX11 5 (some .int) 3 ins_X11_mark := fun _ => hnd (hnd (hnd (hnd (hnd (hlf (ok_iload_n dX11_mark_0 rfl rfl)) (hlf (ok_callS (y := yX11_isSheet) dX11_mark_1 ct_X11_isSheet (by decide) (by decide) wd_1212 wd_1210 wd_1211 wd_50 (by decide +kernel) rfl))) (hnd (hlf (ok_if_ne dX11_mark_4 (by decide) rfl)) (hnd (hlf (ok_ldc dX11_mark_7 wd_1018 rfl)) (hlf (ok_iret dX11_mark_9))))) (hnd (hnd (hlf (ok_aload_n dX11_mark_10 rfl rfl)) (hnd (hlf (ok_getf (C := RX11) (T := TX11) dX11_mark_11 rfl rfl (by decide) rfl inX11 wd_908 rfl)) (hlf (ok_iload_n dX11_mark_14 rfl rfl)))) (hnd (hlf (ok_iald dX11_mark_15 rfl)) (hnd (hlf (ok_if_ge dX11_mark_16 (by decide) rfl)) (hlf (ok_ldc dX11_mark_19 wd_1218 rfl)))))) (hnd (hnd (hnd (hlf (ok_iret dX11_mark_21)) (hlf (ok_iload_n dX11_mark_22 rfl rfl))) (hnd (hlf (ok_iconst dX11_mark_23 (by decide) rfl)) (hnd (hlf (ok_aload_n dX11_mark_24 rfl rfl)) (hlf (ok_getf (C := RX11) (T := TX11) dX11_mark_25 rfl rfl (by decide) rfl inX11 wd_908 rfl))))) (hnd (hnd (hlf (ok_iload_n dX11_mark_28 rfl rfl)) (hnd (hlf (ok_iald dX11_mark_29 rfl)) (hlf (ok_iconst dX11_mark_30 (by decide) rfl)))) (hnd (hlf (ok_isub dX11_mark_31 rfl)) (hnd (hlf (ok_callS (y := yX11_isIn) dX11_mark_32 ct_X11_isIn (by decide) (by decide) wd_1017 wd_1015 wd_1016 wd_50 (by decide +kernel) rfl)) (hlf (ok_if_ne dX11_mark_35 (by decide) rfl))))))) (hnd (hnd (hnd (hnd (hlf (ok_ldc dX11_mark_38 wd_1219 rfl)) (hlf (ok_iret dX11_mark_40))) (hnd (hlf (ok_aload_n dX11_mark_41 rfl rfl)) (hnd (hlf (ok_getf (C := RX11) (T := TX11) dX11_mark_42 rfl rfl (by decide) rfl inX11 wd_909 rfl)) (hlf (ok_bipush dX11_mark_45 (by decide) rfl))))) (hnd (hnd (hlf (ok_iload_n dX11_mark_47 rfl rfl)) (hnd (hlf (ok_imul dX11_mark_48 rfl)) (hlf (ok_iload_n dX11_mark_49 rfl rfl)))) (hnd (hlf (ok_iadd dX11_mark_50 rfl)) (hnd (hlf (ok_iald dX11_mark_51 rfl)) (hlf (ok_istore dX11_mark_52 (by decide) rfl)))))) (hnd (hnd (hnd (hlf (ok_aload_n dX11_mark_54 rfl rfl)) (hnd (hlf (ok_getf (C := RX11) (T := TX11) dX11_mark_55 rfl rfl (by decide) rfl inX11 wd_909 rfl)) (hlf (ok_bipush dX11_mark_58 (by decide) rfl)))) (hnd (hlf (ok_iload_n dX11_mark_60 rfl rfl)) (hnd (hlf (ok_imul dX11_mark_61 rfl)) (hlf (ok_iload_n dX11_mark_62 rfl rfl))))) (hnd (hnd (hlf (ok_iadd dX11_mark_63 rfl)) (hnd (hlf (ok_iload_n dX11_mark_64 rfl rfl)) (hlf (ok_i2b dX11_mark_65 rfl)))) (hnd (hlf (ok_iast dX11_mark_66 rfl)) (hnd (hlf (ok_iload dX11_mark_67 rfl)) (hlf (ok_iret dX11_mark_69)))))))

noncomputable def sp_X11_mark : HSp := fun as w σ K => wp ins_X11_mark (fun _ => none) K 80 0 (loc0 5 as) [] w σ
theorem vc_X11_mark : MVC ins_X11_mark 5 4 sp_X11_mark := mvc0 80 fun _ _ _ _ _ h => h
theorem ct_X11_mark : Ctr yX11_mark cX11_mark 5 (some .int) 3 0 0 4 sp_X11_mark := ctr_of (by decide +kernel) rfl (by decide) ok_X11_mark vc_X11_mark

theorem dX11_lose_0 : decode cX11_lose 0 = .ok (.iload_n 1, 1) := by decide +kernel
theorem dX11_lose_1 : decode cX11_lose 1 = .ok (.invokestatic 243, 3) := by decide +kernel
theorem dX11_lose_4 : decode cX11_lose 4 = .ok (.ifCond .ne 6, 3) := by decide +kernel
theorem dX11_lose_7 : decode cX11_lose 7 = .ok (.ldc 109, 2) := by decide +kernel
theorem dX11_lose_9 : decode cX11_lose 9 = .ok (.ireturn, 1) := by decide +kernel
theorem dX11_lose_10 : decode cX11_lose 10 = .ok (.aload_n 0, 1) := by decide +kernel
theorem dX11_lose_11 : decode cX11_lose 11 = .ok (.getfield 87, 3) := by decide +kernel
theorem dX11_lose_14 : decode cX11_lose 14 = .ok (.iload_n 1, 1) := by decide +kernel
theorem dX11_lose_15 : decode cX11_lose 15 = .ok (.iaload, 1) := by decide +kernel
theorem dX11_lose_16 : decode cX11_lose 16 = .ok (.ifCond .ge 6, 3) := by decide +kernel
theorem dX11_lose_19 : decode cX11_lose 19 = .ok (.ldc 247, 2) := by decide +kernel
theorem dX11_lose_21 : decode cX11_lose 21 = .ok (.ireturn, 1) := by decide +kernel
theorem dX11_lose_22 : decode cX11_lose 22 = .ok (.aload_n 0, 1) := by decide +kernel
theorem dX11_lose_23 : decode cX11_lose 23 = .ok (.getfield 87, 3) := by decide +kernel
theorem dX11_lose_26 : decode cX11_lose 26 = .ok (.iload_n 1, 1) := by decide +kernel
theorem dX11_lose_27 : decode cX11_lose 27 = .ok (.iaload, 1) := by decide +kernel
theorem dX11_lose_28 : decode cX11_lose 28 = .ok (.istore_n 2, 1) := by decide +kernel
theorem dX11_lose_29 : decode cX11_lose 29 = .ok (.aload_n 0, 1) := by decide +kernel
theorem dX11_lose_30 : decode cX11_lose 30 = .ok (.getfield 87, 3) := by decide +kernel
theorem dX11_lose_33 : decode cX11_lose 33 = .ok (.iload_n 1, 1) := by decide +kernel
theorem dX11_lose_34 : decode cX11_lose 34 = .ok (.iconst (-1), 1) := by decide +kernel
theorem dX11_lose_35 : decode cX11_lose 35 = .ok (.iastore, 1) := by decide +kernel
theorem dX11_lose_36 : decode cX11_lose 36 = .ok (.iload_n 2, 1) := by decide +kernel
theorem dX11_lose_37 : decode cX11_lose 37 = .ok (.ireturn, 1) := by decide +kernel
def ins_X11_lose (pc : Nat) : HOp := cond (Nat.blt pc 22) (cond (Nat.blt pc 11) (cond (Nat.blt pc 7) (cond (Nat.blt pc 1) (cond (Nat.beq pc 0) (o_iload 1 1) o_bad) (cond (Nat.blt pc 4) (cond (Nat.beq pc 1) (o_callS 1 sp_X11_isSheet 4) o_bad) (cond (Nat.beq pc 4) (o_if (fun x => x = 0) 7 10) o_bad))) (cond (Nat.blt pc 9) (cond (Nat.beq pc 7) (o_const (-1000000001) 9) o_bad) (cond (Nat.blt pc 10) (cond (Nat.beq pc 9) (o_iret) o_bad) (cond (Nat.beq pc 10) (o_aload 0 11) o_bad)))) (cond (Nat.blt pc 16) (cond (Nat.blt pc 14) (cond (Nat.beq pc 11) (o_getf 11 31 14) o_bad) (cond (Nat.blt pc 15) (cond (Nat.beq pc 14) (o_iload 1 15) o_bad) (cond (Nat.beq pc 15) (o_iald 16) o_bad))) (cond (Nat.blt pc 19) (cond (Nat.beq pc 16) (o_if (fun x => 0 ≤ x) 22 19) o_bad) (cond (Nat.blt pc 21) (cond (Nat.beq pc 19) (o_const (-1000000011) 21) o_bad) (cond (Nat.beq pc 21) (o_iret) o_bad))))) (cond (Nat.blt pc 30) (cond (Nat.blt pc 27) (cond (Nat.blt pc 23) (cond (Nat.beq pc 22) (o_aload 0 23) o_bad) (cond (Nat.blt pc 26) (cond (Nat.beq pc 23) (o_getf 11 31 26) o_bad) (cond (Nat.beq pc 26) (o_iload 1 27) o_bad))) (cond (Nat.blt pc 28) (cond (Nat.beq pc 27) (o_iald 28) o_bad) (cond (Nat.blt pc 29) (cond (Nat.beq pc 28) (o_istore 2 29) o_bad) (cond (Nat.beq pc 29) (o_aload 0 30) o_bad)))) (cond (Nat.blt pc 35) (cond (Nat.blt pc 33) (cond (Nat.beq pc 30) (o_getf 11 31 33) o_bad) (cond (Nat.blt pc 34) (cond (Nat.beq pc 33) (o_iload 1 34) o_bad) (cond (Nat.beq pc 34) (o_const (-1) 35) o_bad))) (cond (Nat.blt pc 36) (cond (Nat.beq pc 35) (o_iast 36) o_bad) (cond (Nat.blt pc 37) (cond (Nat.beq pc 36) (o_iload 2 37) o_bad) (cond (Nat.beq pc 37) (o_iret) o_bad)))))
set_option maxRecDepth 20000 in
theorem ok_X11_lose : HOKs cX11_lose RX11 3 (some .int) 3 ins_X11_lose := fun _ => hnd (hnd (hnd (hnd (hlf (ok_iload_n dX11_lose_0 rfl rfl)) (hnd (hlf (ok_callS (y := yX11_isSheet) dX11_lose_1 ct_X11_isSheet (by decide) (by decide) wd_1212 wd_1210 wd_1211 wd_50 (by decide +kernel) rfl)) (hlf (ok_if_ne dX11_lose_4 (by decide) rfl)))) (hnd (hlf (ok_ldc dX11_lose_7 wd_1018 rfl)) (hnd (hlf (ok_iret dX11_lose_9)) (hlf (ok_aload_n dX11_lose_10 rfl rfl))))) (hnd (hnd (hlf (ok_getf (C := RX11) (T := TX11) dX11_lose_11 rfl rfl (by decide) rfl inX11 wd_908 rfl)) (hnd (hlf (ok_iload_n dX11_lose_14 rfl rfl)) (hlf (ok_iald dX11_lose_15 rfl)))) (hnd (hlf (ok_if_ge dX11_lose_16 (by decide) rfl)) (hnd (hlf (ok_ldc dX11_lose_19 wd_1218 rfl)) (hlf (ok_iret dX11_lose_21)))))) (hnd (hnd (hnd (hlf (ok_aload_n dX11_lose_22 rfl rfl)) (hnd (hlf (ok_getf (C := RX11) (T := TX11) dX11_lose_23 rfl rfl (by decide) rfl inX11 wd_908 rfl)) (hlf (ok_iload_n dX11_lose_26 rfl rfl)))) (hnd (hlf (ok_iald dX11_lose_27 rfl)) (hnd (hlf (ok_istore_n dX11_lose_28 rfl (by decide) rfl)) (hlf (ok_aload_n dX11_lose_29 rfl rfl))))) (hnd (hnd (hlf (ok_getf (C := RX11) (T := TX11) dX11_lose_30 rfl rfl (by decide) rfl inX11 wd_908 rfl)) (hnd (hlf (ok_iload_n dX11_lose_33 rfl rfl)) (hlf (ok_iconst dX11_lose_34 (by decide) rfl)))) (hnd (hlf (ok_iast dX11_lose_35 rfl)) (hnd (hlf (ok_iload_n dX11_lose_36 rfl rfl)) (hlf (ok_iret dX11_lose_37))))))

noncomputable def sp_X11_lose : HSp := fun as w σ K => wp ins_X11_lose (fun _ => none) K 50 0 (loc0 3 as) [] w σ
theorem vc_X11_lose : MVC ins_X11_lose 3 2 sp_X11_lose := mvc0 50 fun _ _ _ _ _ h => h
theorem ct_X11_lose : Ctr yX11_lose cX11_lose 3 (some .int) 3 0 0 2 sp_X11_lose := ctr_of (by decide +kernel) rfl (by decide) ok_X11_lose vc_X11_lose

