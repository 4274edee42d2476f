/-! Strings: calls, lengths and letters of the six constants -/
def o_cret : HOp := fun _ q _ st w σ => popI st fun v r => hnil r (narrow .char (.int v) = .int v ∧ q (some (HI v)) w σ)
def o_bret : HOp := fun _ q _ st w σ => popI st fun v r => hnil r (narrow .byte (.int v) = .int v ∧ q (some (HI v)) w σ)
theorem ok_cret {cc : ByteArray} {own : String} {nL : Nat} {lv pc : Nat} (hd : decode cc pc = .ok (.ireturn, 1)) : HOK cc own nL (some .char) lv pc o_cret := by
  intro p l e R s m args below meth c cells slots mc ms Q G A g0 w0 q C k hk ls st w σ ho
  obtain ⟨hx, hb, hml, hown, hts, hK, hr, hlk, hZ, hSR, hA, hlv, hcs, hcm, hQ⟩ := C
  intro g H locs la hge hR hS hL hst
  obtain ⟨v, r, rfl, ho1⟩ := popI_s ho
  obtain ⟨rfl, hz, ho2⟩ := hnil_s ho1
  rw [hQ _ _ _ ho2]
  refine W.widen hcm.1 hcm.2 ?_
  exact W.zret hx hb hr hz (fun t ht hW => ⟨⟨some (HI v), w, σ, g, rfl, ho2, hge, fun u hu => by cases hu; exact trivial, by rw [ht]; exact hR⟩, hS.F ht⟩) hS.2.2 hd hlk
theorem ok_bret {cc : ByteArray} {own : String} {nL : Nat} {lv pc : Nat} (hd : decode cc pc = .ok (.ireturn, 1)) : HOK cc own nL (some .byte) lv pc o_bret := by
  intro p l e R s m args below meth c cells slots mc ms Q G A g0 w0 q C k hk ls st w σ ho
  obtain ⟨hx, hb, hml, hown, hts, hK, hr, hlk, hZ, hSR, hA, hlv, hcs, hcm, hQ⟩ := C
  intro g H locs la hge hR hS hL hst
  obtain ⟨v, r, rfl, ho1⟩ := popI_s ho
  obtain ⟨rfl, hz, ho2⟩ := hnil_s ho1
  rw [hQ _ _ _ ho2]
  refine W.widen hcm.1 hcm.2 ?_
  exact W.zret hx hb hr hz (fun t ht hW => ⟨⟨some (HI v), w, σ, g, rfl, ho2, hge, fun u hu => by cases hu; exact trivial, by rw [ht]; exact hR⟩, hS.F ht⟩) hS.2.2 hd hlk
def o_callT (n : Nat) (sp : HSp) (nx : Nat) : HOp := fun k _ ls st w σ => popR (st.take n).reverse fun kk i As => bif Nat.beq kk 43 && Nat.blt i 6 && Nat.beq (As.length + 1) n && As.all c1b && Nat.ble (st.drop n).length 4 then sp (HR 43 i :: As) w σ (fun r w' σ' => k nx ls (r.toList ++ st.drop n) w' σ') else False
theorem ok_callT {cc : ByteArray} {own : String} {nL : Nat} {ret : Option FieldType} {lv pc : Nat} {ix n n' nx lv' maxL : Nat} {y : MethodName} {bytes : ByteArray} {rt : Option FieldType} {sp : HSp} (hd : decode cc pc = .ok (.invokevirtual ix, 3)) (hC : Ctr y bytes maxL rt lv' 0 0 n sp) (hl : lv' < lv) (hm : maxL ≤ 11) (hw1 : Cond.code y bytes maxL rt ∈ TT) (hw2 : Cond.methodLink own ix y ∈ TT) (hw3 : Cond.instanceMethod y ∈ TT) (hw5 : Cond.selects "java/lang/String" y y ∈ TT) (hw4 : Cond.initialized y.cls ∈ TT) (hnn : n' + 1 = n) (hy : y.cls ≠ "java/lang/invoke/MethodHandle" ∧ y.cls ≠ "java/lang/invoke/VarHandle" ∧ (parseMethodDescriptor y.desc).map (fun d => d.parameters.length) = some n') (hn : pc + 3 = nx) : HOK cc own nL ret lv pc (o_callT n sp nx) := by
  intro p l e R s m args below meth c cells slots mc ms Q G A g0 w0 q C k hk ls st w σ ho
  obtain ⟨hx, hb, hml, hown, hts, hK, hr, hlk, hZ, hSR, hA, hlv, hcs, hcm, hQ⟩ := C
  subst hn
  intro g H locs la hge hR hS hL hst
  obtain ⟨kk, i, As, hrev, ho0⟩ := popR_s ho
  obtain ⟨hcc, ho1⟩ := bif_s ho0
  simp only [Bool.and_eq_true] at hcc
  obtain ⟨⟨⟨⟨hc0, hc6⟩, hc1⟩, hc2⟩, hc3⟩ := hcc
  have ek : kk = 43 := Nat.eq_of_beq_eq_true hc0
  subst ek
  have h6 : i < 6 := by rw [Nat.blt_eq] at hc6; exact hc6
  have hn1 : As.length + 1 = n := Nat.eq_of_beq_eq_true hc1
  have htk : st.take n = As.reverse ++ [HR 43 i] := by
    rw [← List.reverse_reverse (st.take n), hrev, List.reverse_cons]
  have hlv1 : ∀ v ∈ HR 43 i :: As, VLv w v := fun v hv => hst v (List.mem_of_mem_take (List.mem_reverse.mp (hrev ▸ hv)))
  have hM := hC l G A g (HR 43 i :: As) w σ _ ho1 hlv1 (by rw [List.all_cons, hc2]; rfl) (by rw [List.length_cons]; exact hn1)
  have hrc := vk_recv hZ.1 h6 hS
  rw [← (hR.2.2.1.1 i).1] at hrc
  have hrun := va_runV (e := e) (g := F0 m pc la (st.map (toV g))) (As := As.map (toV g)) (b := g 43 i) (rest := (st.drop n).map (toV g)) (H := H) (locs := locs) (cells := cells) (slots := slots) (below := below) (meth := meth) ⟨hx, hb, hml, hown, hts⟩ hM ⟨callB_of n' hts (good1 hw1) rfl rfl rfl (hts _ hw4) (hts _ hw2) hy (room_of hlv hl hm), hts _ hw3, hts _ hw5⟩ ⟨pc_blind, hrc, fun U hU hW => ⟨rfl, PreC.at hts hK hZ hSR hA hR hS hU hW⟩⟩ rfl (by rw [List.length_map]; omega) hL.1.1 (by
    show st.map (toV g) = _
    have e2 := congrArg (List.map (toV g)) (List.take_append_drop n st)
    rw [htk] at e2
    rw [← e2]
    simp [List.map_append, List.map_reverse, toV]) (lv_room (Nat.le_trans cat_sum (by rw [List.length_map]; have := Nat.le_of_ble_eq_true hc3; omega))) hd hcs
  refine call_go hrun hS fun r w' σ' g' H1 locs1 hp hge2 hlr hR1 hS1 => ?_
  obtain ⟨e1, h2⟩ := live_tail (n := n) hge2 hst hlr
  rw [e1]
  exact hk _ _ _ _ _ hp g' H1 locs1 la (hge.tr hge2) hR1 hS1 (hL.ge hge2) h2
theorem blt6 {c : Nat} (h : c < 6) : (Nat.blt c 6) = true := by rw [Nat.blt_eq]; exact h
def sp_J0_coder_7d493 : HSp := fun as w σ K => match as with
  | [.inr (.inl (43, some c))] => c < 6 ∧ K (some (HI 0)) w σ
  | _ => False
theorem dJ0_coder_7d493_0 : decode cJ0_coder_7d493 0 = .ok (.getstatic 38, 3) := by decide +kernel
theorem dJ0_coder_7d493_3 : decode cJ0_coder_7d493 3 = .ok (.ifCond .eq 10, 3) := by decide +kernel
theorem dJ0_coder_7d493_6 : decode cJ0_coder_7d493 6 = .ok (.aload_n 0, 1) := by decide +kernel
theorem dJ0_coder_7d493_7 : decode cJ0_coder_7d493 7 = .ok (.getfield 15, 3) := by decide +kernel
theorem dJ0_coder_7d493_10 : decode cJ0_coder_7d493 10 = .ok (.goto 4, 3) := by decide +kernel
theorem dJ0_coder_7d493_13 : decode cJ0_coder_7d493 13 = .ok (.iconst 1, 1) := by decide +kernel
theorem dJ0_coder_7d493_14 : decode cJ0_coder_7d493 14 = .ok (.ireturn, 1) := by decide +kernel
def ins_J0_coder_7d493 (pc : Nat) : HOp := cond (Nat.blt pc 7) (cond (Nat.blt pc 3) (cond (Nat.beq pc 0) (o_cst 1 3) o_bad) (cond (Nat.blt pc 6) (cond (Nat.beq pc 3) (o_if (fun x => x = 0) 13 6) o_bad) (cond (Nat.beq pc 6) (o_aload 0 7) o_bad))) (cond (Nat.blt pc 13) (cond (Nat.blt pc 10) (cond (Nat.beq pc 7) (o_scod 10) o_bad) (cond (Nat.beq pc 10) (o_goto 14) o_bad)) (cond (Nat.blt pc 14) (cond (Nat.beq pc 13) (o_const (1) 14) o_bad) (cond (Nat.beq pc 14) (o_bret) o_bad)))
set_option maxRecDepth 20000 in
theorem ok_J0_coder_7d493 : HOKs cJ0_coder_7d493 RJ0 1 (some .byte) 1 ins_J0_coder_7d493 := fun _ => hnd (hnd (hlf (ok_gsC dJ0_coder_7d493_0 wd_656 rfl)) (hnd (hlf (ok_if_eq dJ0_coder_7d493_3 (by decide) rfl)) (hlf (ok_aload_n dJ0_coder_7d493_6 rfl rfl)))) (hnd (hnd (hlf (ok_scod dJ0_coder_7d493_7 wd_1233 rfl)) (hlf (ok_goto dJ0_coder_7d493_10 (by decide)))) (hnd (hlf (ok_iconst dJ0_coder_7d493_13 (by decide) rfl)) (hlf (ok_bret dJ0_coder_7d493_14))))

theorem vc_J0_coder_7d493 : MVC ins_J0_coder_7d493 1 1 sp_J0_coder_7d493 := by
  refine mvc0 30 fun as w σ q hl hs => ?_
  unfold sp_J0_coder_7d493 at hs
  split at hs
  rotate_left
  · exact hs.elim
  rename_i c
  refine And.intro (fun h => absurd h (by decide)) (fun _ => ?_)
  show bif Nat.beq 43 43 && Nat.blt c 6 then _ else False
  rw [blt6 hs.1]
  exact ⟨by decide, hs.2⟩
theorem ct_J0_coder_7d493 : Ctr yJ0_coder_7d493 cJ0_coder_7d493 1 (some .byte) 1 0 0 1 sp_J0_coder_7d493 := ctr_of (by decide +kernel) rfl (by decide) ok_J0_coder_7d493 vc_J0_coder_7d493

def sp_J0_isLatin1_aae02 : HSp := fun as w σ K => match as with
  | [.inr (.inl (43, some c))] => c < 6 ∧ K (some (HI 1)) w σ
  | _ => False
theorem dJ0_isLatin1_aae02_0 : decode cJ0_isLatin1_aae02 0 = .ok (.getstatic 38, 3) := by decide +kernel
theorem dJ0_isLatin1_aae02_3 : decode cJ0_isLatin1_aae02 3 = .ok (.ifCond .eq 14, 3) := by decide +kernel
theorem dJ0_isLatin1_aae02_6 : decode cJ0_isLatin1_aae02 6 = .ok (.aload_n 0, 1) := by decide +kernel
theorem dJ0_isLatin1_aae02_7 : decode cJ0_isLatin1_aae02 7 = .ok (.getfield 15, 3) := by decide +kernel
theorem dJ0_isLatin1_aae02_10 : decode cJ0_isLatin1_aae02 10 = .ok (.ifCond .ne 7, 3) := by decide +kernel
theorem dJ0_isLatin1_aae02_13 : decode cJ0_isLatin1_aae02 13 = .ok (.iconst 1, 1) := by decide +kernel
theorem dJ0_isLatin1_aae02_14 : decode cJ0_isLatin1_aae02 14 = .ok (.goto 4, 3) := by decide +kernel
theorem dJ0_isLatin1_aae02_17 : decode cJ0_isLatin1_aae02 17 = .ok (.iconst 0, 1) := by decide +kernel
theorem dJ0_isLatin1_aae02_18 : decode cJ0_isLatin1_aae02 18 = .ok (.ireturn, 1) := by decide +kernel
def ins_J0_isLatin1_aae02 (pc : Nat) : HOp := cond (Nat.blt pc 10) (cond (Nat.blt pc 6) (cond (Nat.blt pc 3) (cond (Nat.beq pc 0) (o_cst 1 3) o_bad) (cond (Nat.beq pc 3) (o_if (fun x => x = 0) 17 6) o_bad)) (cond (Nat.blt pc 7) (cond (Nat.beq pc 6) (o_aload 0 7) o_bad) (cond (Nat.beq pc 7) (o_scod 10) o_bad))) (cond (Nat.blt pc 14) (cond (Nat.blt pc 13) (cond (Nat.beq pc 10) (o_if (fun x => x = 0) 13 17) o_bad) (cond (Nat.beq pc 13) (o_const (1) 14) o_bad)) (cond (Nat.blt pc 17) (cond (Nat.beq pc 14) (o_goto 18) o_bad) (cond (Nat.blt pc 18) (cond (Nat.beq pc 17) (o_const (0) 18) o_bad) (cond (Nat.beq pc 18) (o_zret) o_bad))))
set_option maxRecDepth 20000 in
theorem ok_J0_isLatin1_aae02 : HOKs cJ0_isLatin1_aae02 RJ0 1 (some .boolean) 1 ins_J0_isLatin1_aae02 := fun _ => hnd (hnd (hnd (hlf (ok_gsC dJ0_isLatin1_aae02_0 wd_656 rfl)) (hlf (ok_if_eq dJ0_isLatin1_aae02_3 (by decide) rfl))) (hnd (hlf (ok_aload_n dJ0_isLatin1_aae02_6 rfl rfl)) (hlf (ok_scod dJ0_isLatin1_aae02_7 wd_1233 rfl)))) (hnd (hnd (hlf (ok_if_ne dJ0_isLatin1_aae02_10 (by decide) rfl)) (hlf (ok_iconst dJ0_isLatin1_aae02_13 (by decide) rfl))) (hnd (hlf (ok_goto dJ0_isLatin1_aae02_14 (by decide))) (hnd (hlf (ok_iconst dJ0_isLatin1_aae02_17 (by decide) rfl)) (hlf (ok_zret dJ0_isLatin1_aae02_18)))))

theorem vc_J0_isLatin1_aae02 : MVC ins_J0_isLatin1_aae02 1 1 sp_J0_isLatin1_aae02 := by
  refine mvc0 30 fun as w σ q hl hs => ?_
  unfold sp_J0_isLatin1_aae02 at hs
  split at hs
  rotate_left
  · exact hs.elim
  rename_i c
  refine And.intro (fun h => absurd h (by decide)) (fun _ => ?_)
  show bif Nat.beq 43 43 && Nat.blt c 6 then _ else False
  rw [blt6 hs.1]
  exact And.intro (fun _ => ⟨Or.inr rfl, hs.2⟩) (fun h => absurd rfl h)
theorem ct_J0_isLatin1_aae02 : Ctr yJ0_isLatin1_aae02 cJ0_isLatin1_aae02 1 (some .boolean) 1 0 0 1 sp_J0_isLatin1_aae02 := ctr_of (by decide +kernel) rfl (by decide) ok_J0_isLatin1_aae02 vc_J0_isLatin1_aae02

def sp_J3_checkIndex_8e157 : HSp := fun as w σ K => match as with
  | [.inl x, .inl y, .inr (.inl (43, _))] => ¬ x < 0 ∧ x < y ∧ K (some (HI x)) w σ
  | _ => False
theorem dJ3_checkIndex_8e157_0 : decode cJ3_checkIndex_8e157 0 = .ok (.iload_n 0, 1) := by decide +kernel
theorem dJ3_checkIndex_8e157_1 : decode cJ3_checkIndex_8e157 1 = .ok (.ifCond .lt 8, 3) := by decide +kernel
theorem dJ3_checkIndex_8e157_4 : decode cJ3_checkIndex_8e157 4 = .ok (.iload_n 0, 1) := by decide +kernel
theorem dJ3_checkIndex_8e157_5 : decode cJ3_checkIndex_8e157 5 = .ok (.iload_n 1, 1) := by decide +kernel
theorem dJ3_checkIndex_8e157_6 : decode cJ3_checkIndex_8e157 6 = .ok (.if_icmp .lt 10, 3) := by decide +kernel
theorem dJ3_checkIndex_8e157_9 : decode cJ3_checkIndex_8e157 9 = .ok (.aload_n 2, 1) := by decide +kernel
theorem dJ3_checkIndex_8e157_10 : decode cJ3_checkIndex_8e157 10 = .ok (.iload_n 0, 1) := by decide +kernel
theorem dJ3_checkIndex_8e157_11 : decode cJ3_checkIndex_8e157 11 = .ok (.iload_n 1, 1) := by decide +kernel
theorem dJ3_checkIndex_8e157_12 : decode cJ3_checkIndex_8e157 12 = .ok (.invokestatic 95, 3) := by decide +kernel
theorem dJ3_checkIndex_8e157_15 : decode cJ3_checkIndex_8e157 15 = .ok (.athrow, 1) := by decide +kernel
theorem dJ3_checkIndex_8e157_16 : decode cJ3_checkIndex_8e157 16 = .ok (.iload_n 0, 1) := by decide +kernel
theorem dJ3_checkIndex_8e157_17 : decode cJ3_checkIndex_8e157 17 = .ok (.ireturn, 1) := by decide +kernel
def ins_J3_checkIndex_8e157 (pc : Nat) : HOp := cond (Nat.blt pc 10) (cond (Nat.blt pc 5) (cond (Nat.blt pc 1) (cond (Nat.beq pc 0) (o_iload 0 1) o_bad) (cond (Nat.blt pc 4) (cond (Nat.beq pc 1) (o_if (fun x => x < 0) 9 4) o_bad) (cond (Nat.beq pc 4) (o_iload 0 5) o_bad))) (cond (Nat.blt pc 6) (cond (Nat.beq pc 5) (o_iload 1 6) o_bad) (cond (Nat.blt pc 9) (cond (Nat.beq pc 6) (o_icmp (fun x y => x < y) 16 9) o_bad) (cond (Nat.beq pc 9) (o_aload 2 10) o_bad)))) (cond (Nat.blt pc 15) (cond (Nat.blt pc 11) (cond (Nat.beq pc 10) (o_iload 0 11) o_bad) (cond (Nat.blt pc 12) (cond (Nat.beq pc 11) (o_iload 1 12) o_bad) (cond (Nat.beq pc 12) (o_bad) o_bad))) (cond (Nat.blt pc 16) (cond (Nat.beq pc 15) (o_bad) o_bad) (cond (Nat.blt pc 17) (cond (Nat.beq pc 16) (o_iload 0 17) o_bad) (cond (Nat.beq pc 17) (o_iret) o_bad))))
set_option maxRecDepth 20000 in
theorem ok_J3_checkIndex_8e157 : HOKs cJ3_checkIndex_8e157 RJ3 3 (some .int) 1 ins_J3_checkIndex_8e157 := fun _ => hnd (hnd (hnd (hlf (ok_iload_n dJ3_checkIndex_8e157_0 rfl rfl)) (hnd (hlf (ok_if_lt dJ3_checkIndex_8e157_1 (by decide) rfl)) (hlf (ok_iload_n dJ3_checkIndex_8e157_4 rfl rfl)))) (hnd (hlf (ok_iload_n dJ3_checkIndex_8e157_5 rfl rfl)) (hnd (hlf (ok_icmp_lt dJ3_checkIndex_8e157_6 (by decide) rfl)) (hlf (ok_aload_n dJ3_checkIndex_8e157_9 rfl rfl))))) (hnd (hnd (hlf (ok_iload_n dJ3_checkIndex_8e157_10 rfl rfl)) (hnd (hlf (ok_iload_n dJ3_checkIndex_8e157_11 rfl rfl)) (hlf (ok_bad)))) (hnd (hlf (ok_bad)) (hnd (hlf (ok_iload_n dJ3_checkIndex_8e157_16 rfl rfl)) (hlf (ok_iret dJ3_checkIndex_8e157_17)))))

theorem vc_J3_checkIndex_8e157 : MVC ins_J3_checkIndex_8e157 3 3 sp_J3_checkIndex_8e157 := by
  refine mvc0 30 fun as w σ q hl hs => ?_
  unfold sp_J3_checkIndex_8e157 at hs
  split at hs
  rotate_left
  · exact hs.elim
  rename_i x y
  refine And.intro (fun h => absurd h hs.1) (fun _ => ?_)
  exact And.intro (fun _ => hs.2.2) (fun h => absurd hs.2.1 h)
theorem ct_J3_checkIndex_8e157 : Ctr yJ3_checkIndex_8e157 cJ3_checkIndex_8e157 3 (some .int) 1 0 0 3 sp_J3_checkIndex_8e157 := ctr_of (by decide +kernel) rfl (by decide) ok_J3_checkIndex_8e157 vc_J3_checkIndex_8e157

def sp_J0_checkIndex_df160 : HSp := fun as w σ K => match as with
  | [.inl x, .inl y] => ¬ x < 0 ∧ x < y ∧ K none w σ
  | _ => False
theorem dJ0_checkIndex_df160_0 : decode cJ0_checkIndex_df160 0 = .ok (.iload_n 0, 1) := by decide +kernel
theorem dJ0_checkIndex_df160_1 : decode cJ0_checkIndex_df160 1 = .ok (.iload_n 1, 1) := by decide +kernel
theorem dJ0_checkIndex_df160_2 : decode cJ0_checkIndex_df160 2 = .ok (.getstatic 1053, 3) := by decide +kernel
theorem dJ0_checkIndex_df160_5 : decode cJ0_checkIndex_df160 5 = .ok (.invokestatic 1059, 3) := by decide +kernel
theorem dJ0_checkIndex_df160_8 : decode cJ0_checkIndex_df160 8 = .ok (.pop, 1) := by decide +kernel
theorem dJ0_checkIndex_df160_9 : decode cJ0_checkIndex_df160 9 = .ok (.return_, 1) := by decide +kernel
def ins_J0_checkIndex_df160 (pc : Nat) : HOp := cond (Nat.blt pc 5) (cond (Nat.blt pc 1) (cond (Nat.beq pc 0) (o_iload 0 1) o_bad) (cond (Nat.blt pc 2) (cond (Nat.beq pc 1) (o_iload 1 2) o_bad) (cond (Nat.beq pc 2) (o_fmt 5) o_bad))) (cond (Nat.blt pc 8) (cond (Nat.beq pc 5) (o_callS 3 sp_J3_checkIndex_8e157 8) o_bad) (cond (Nat.blt pc 9) (cond (Nat.beq pc 8) (o_pop 9) o_bad) (cond (Nat.beq pc 9) (o_vret) o_bad)))
set_option maxRecDepth 20000 in
theorem ok_J0_checkIndex_df160 : HOKs cJ0_checkIndex_df160 RJ0 2 none 2 ins_J0_checkIndex_df160 := fun _ => hnd (hnd (hlf (ok_iload_n dJ0_checkIndex_df160_0 rfl rfl)) (hnd (hlf (ok_iload_n dJ0_checkIndex_df160_1 rfl rfl)) (hlf (ok_gsF dJ0_checkIndex_df160_2 wd_672 rfl)))) (hnd (hlf (ok_callS (y := yJ3_checkIndex_8e157) dJ0_checkIndex_df160_5 ct_J3_checkIndex_8e157 (by decide) (by decide) wd_676 wd_674 wd_675 wd_57 (by decide +kernel) rfl)) (hnd (hlf (ok_pop dJ0_checkIndex_df160_8 rfl)) (hlf (ok_vret dJ0_checkIndex_df160_9))))

theorem vc_J0_checkIndex_df160 : MVC ins_J0_checkIndex_df160 2 2 sp_J0_checkIndex_df160 := by
  refine mvc0 30 fun as w σ q hl hs => ?_
  unfold sp_J0_checkIndex_df160 at hs
  split at hs
  rotate_left
  · exact hs.elim
  rename_i x y
  exact ⟨hs, hs⟩
theorem ct_J0_checkIndex_df160 : Ctr yJ0_checkIndex_df160 cJ0_checkIndex_df160 2 none 2 0 0 2 sp_J0_checkIndex_df160 := ctr_of (by decide +kernel) rfl (by decide) ok_J0_checkIndex_df160 vc_J0_checkIndex_df160

def sp_J1_charAt_3b067 : HSp := fun as w σ K => match as with
  | [.inr (.inl (44, some c)), .inl x] => ∃ i, c < 6 ∧ i < slen.getD c 0 ∧ x = nI i ∧ K (some (HI ((sbyt.getD c []).getD i 0))) w σ
  | _ => False
theorem let7 {c i : Nat} (hc : c < 6) (hi : i < slen.getD c 0) : i < 4 ∧ ((((sbyt.getD c []).getD i 0) &&& 255).toUInt32 % 65536).toInt32 = (sbyt.getD c []).getD i 0 ∧ narrow .char (.int ((sbyt.getD c []).getD i 0)) = .int ((sbyt.getD c []).getD i 0) ∧ nI i < nI (slen.getD c 0) := by
  have h5 : ∀ c, c < 6 → slen.getD c 0 ≤ 4 := by decide
  have h4 : i < 4 := Nat.lt_of_lt_of_le hi (h5 c hc)
  clear h5
  refine ⟨h4, ?_⟩
  revert hi
  revert i
  revert c
  decide +kernel
theorem dJ1_charAt_3b067_0 : decode cJ1_charAt_3b067 0 = .ok (.iload_n 1, 1) := by decide +kernel
theorem dJ1_charAt_3b067_1 : decode cJ1_charAt_3b067 1 = .ok (.aload_n 0, 1) := by decide +kernel
theorem dJ1_charAt_3b067_2 : decode cJ1_charAt_3b067 2 = .ok (.arraylength, 1) := by decide +kernel
theorem dJ1_charAt_3b067_3 : decode cJ1_charAt_3b067 3 = .ok (.invokestatic 9, 3) := by decide +kernel
theorem dJ1_charAt_3b067_6 : decode cJ1_charAt_3b067 6 = .ok (.aload_n 0, 1) := by decide +kernel
theorem dJ1_charAt_3b067_7 : decode cJ1_charAt_3b067 7 = .ok (.iload_n 1, 1) := by decide +kernel
theorem dJ1_charAt_3b067_8 : decode cJ1_charAt_3b067 8 = .ok (.baload, 1) := by decide +kernel
theorem dJ1_charAt_3b067_9 : decode cJ1_charAt_3b067 9 = .ok (.sipush 255, 3) := by decide +kernel
theorem dJ1_charAt_3b067_12 : decode cJ1_charAt_3b067 12 = .ok (.iand, 1) := by decide +kernel
theorem dJ1_charAt_3b067_13 : decode cJ1_charAt_3b067 13 = .ok (.i2c, 1) := by decide +kernel
theorem dJ1_charAt_3b067_14 : decode cJ1_charAt_3b067 14 = .ok (.ireturn, 1) := by decide +kernel
def ins_J1_charAt_3b067 (pc : Nat) : HOp := cond (Nat.blt pc 7) (cond (Nat.blt pc 2) (cond (Nat.blt pc 1) (cond (Nat.beq pc 0) (o_iload 1 1) o_bad) (cond (Nat.beq pc 1) (o_aload 0 2) o_bad)) (cond (Nat.blt pc 3) (cond (Nat.beq pc 2) (o_tlen 3) o_bad) (cond (Nat.blt pc 6) (cond (Nat.beq pc 3) (o_callS 2 sp_J0_checkIndex_df160 6) o_bad) (cond (Nat.beq pc 6) (o_aload 0 7) o_bad)))) (cond (Nat.blt pc 12) (cond (Nat.blt pc 8) (cond (Nat.beq pc 7) (o_iload 1 8) o_bad) (cond (Nat.blt pc 9) (cond (Nat.beq pc 8) (o_tbld 9) o_bad) (cond (Nat.beq pc 9) (o_const (255) 12) o_bad))) (cond (Nat.blt pc 13) (cond (Nat.beq pc 12) (o_bin (fun x y => x &&& y) 13) o_bad) (cond (Nat.blt pc 14) (cond (Nat.beq pc 13) (o_un (fun x => (x.toUInt32 % 65536).toInt32) 14) o_bad) (cond (Nat.beq pc 14) (o_cret) o_bad))))
set_option maxRecDepth 20000 in
theorem ok_J1_charAt_3b067 : HOKs cJ1_charAt_3b067 RJ1 2 (some .char) 3 ins_J1_charAt_3b067 := fun _ => hnd (hnd (hnd (hlf (ok_iload_n dJ1_charAt_3b067_0 rfl rfl)) (hlf (ok_aload_n dJ1_charAt_3b067_1 rfl rfl))) (hnd (hlf (ok_tlen dJ1_charAt_3b067_2 rfl)) (hnd (hlf (ok_callS (y := yJ0_checkIndex_df160) dJ1_charAt_3b067_3 ct_J0_checkIndex_df160 (by decide) (by decide) wd_671 wd_669 wd_670 wd_55 (by decide +kernel) rfl)) (hlf (ok_aload_n dJ1_charAt_3b067_6 rfl rfl))))) (hnd (hnd (hlf (ok_iload_n dJ1_charAt_3b067_7 rfl rfl)) (hnd (hlf (ok_tbld dJ1_charAt_3b067_8 rfl)) (hlf (ok_sipush dJ1_charAt_3b067_9 (by decide) rfl)))) (hnd (hlf (ok_iand dJ1_charAt_3b067_12 rfl)) (hnd (hlf (ok_i2c dJ1_charAt_3b067_13 rfl)) (hlf (ok_cret dJ1_charAt_3b067_14)))))

theorem vc_J1_charAt_3b067 : MVC ins_J1_charAt_3b067 2 2 sp_J1_charAt_3b067 := by
  refine mvc0 30 fun as w σ q hl hs => ?_
  unfold sp_J1_charAt_3b067 at hs
  split at hs
  rotate_left
  · exact hs.elim
  rename_i c x
  obtain ⟨i, hc, hi, rfl, hq⟩ := hs
  obtain ⟨h4, e1, e2, e3⟩ := let7 hc hi
  show bif Nat.beq 44 44 && Nat.blt c 6 then _ else False
  rw [blt6 hc]
  refine ⟨nI_pos (by omega), e3, ?_⟩
  show bif Nat.beq 44 44 && Nat.blt c 6 then _ else False
  rw [blt6 hc]
  have e4 : (nI i).toNatClampNeg = i := nI_clamp (by omega)
  refine ⟨fun h => h.elim (nI_pos (by omega)) (fun z => by rw [e4] at z; omega), ?_⟩
  rw [e4]
  refine ⟨?_, ?_⟩
  · show narrow .char (.int ((((sbyt.getD c []).getD i 0) &&& 255).toUInt32 % 65536).toInt32) = .int ((((sbyt.getD c []).getD i 0) &&& 255).toUInt32 % 65536).toInt32
    rw [e1]
    exact e2
  · show q (some (HI ((((sbyt.getD c []).getD i 0) &&& 255).toUInt32 % 65536).toInt32)) w σ
    rw [e1]
    exact hq
theorem ct_J1_charAt_3b067 : Ctr yJ1_charAt_3b067 cJ1_charAt_3b067 2 (some .char) 3 0 0 2 sp_J1_charAt_3b067 := ctr_of (by decide +kernel) rfl (by decide) ok_J1_charAt_3b067 vc_J1_charAt_3b067

def sp_J0_length_8abf5 : HSp := fun as w σ K => match as with
  | [.inr (.inl (43, some c))] => c < 6 ∧ K (some (HI (nI (slen.getD c 0)))) w σ
  | _ => False
theorem len7 {c : Nat} (hc : c < 6) : nI (slen.getD c 0) >>> (0 &&& 31) = nI (slen.getD c 0) := by
  revert c
  decide +kernel
theorem dJ0_length_8abf5_0 : decode cJ0_length_8abf5 0 = .ok (.aload_n 0, 1) := by decide +kernel
theorem dJ0_length_8abf5_1 : decode cJ0_length_8abf5 1 = .ok (.getfield 9, 3) := by decide +kernel
theorem dJ0_length_8abf5_4 : decode cJ0_length_8abf5 4 = .ok (.arraylength, 1) := by decide +kernel
theorem dJ0_length_8abf5_5 : decode cJ0_length_8abf5 5 = .ok (.aload_n 0, 1) := by decide +kernel
theorem dJ0_length_8abf5_6 : decode cJ0_length_8abf5 6 = .ok (.invokevirtual 335, 3) := by decide +kernel
theorem dJ0_length_8abf5_9 : decode cJ0_length_8abf5 9 = .ok (.ishr, 1) := by decide +kernel
theorem dJ0_length_8abf5_10 : decode cJ0_length_8abf5 10 = .ok (.ireturn, 1) := by decide +kernel
def ins_J0_length_8abf5 (pc : Nat) : HOp := cond (Nat.blt pc 5) (cond (Nat.blt pc 1) (cond (Nat.beq pc 0) (o_aload 0 1) o_bad) (cond (Nat.blt pc 4) (cond (Nat.beq pc 1) (o_sval 4) o_bad) (cond (Nat.beq pc 4) (o_tlen 5) o_bad))) (cond (Nat.blt pc 9) (cond (Nat.blt pc 6) (cond (Nat.beq pc 5) (o_aload 0 6) o_bad) (cond (Nat.beq pc 6) (o_callT 1 sp_J0_coder_7d493 9) o_bad)) (cond (Nat.blt pc 10) (cond (Nat.beq pc 9) (o_bin (fun x y => x >>> (y &&& 31)) 10) o_bad) (cond (Nat.beq pc 10) (o_iret) o_bad)))
set_option maxRecDepth 20000 in
theorem ok_J0_length_8abf5 : HOKs cJ0_length_8abf5 RJ0 1 (some .int) 2 ins_J0_length_8abf5 := fun _ => hnd (hnd (hlf (ok_aload_n dJ0_length_8abf5_0 rfl rfl)) (hnd (hlf (ok_sval dJ0_length_8abf5_1 wd_1232 rfl)) (hlf (ok_tlen dJ0_length_8abf5_4 rfl)))) (hnd (hnd (hlf (ok_aload_n dJ0_length_8abf5_5 rfl rfl)) (hlf (ok_callT (y := yJ0_coder_7d493) (n' := 0) dJ0_length_8abf5_6 ct_J0_coder_7d493 (by decide) (by decide) wd_655 wd_652 wd_653 wd_654 wd_55 rfl (by decide +kernel) rfl))) (hnd (hlf (ok_ishr dJ0_length_8abf5_9 rfl)) (hlf (ok_iret dJ0_length_8abf5_10))))

theorem vc_J0_length_8abf5 : MVC ins_J0_length_8abf5 1 1 sp_J0_length_8abf5 := by
  refine mvc0 30 fun as w σ q hl hs => ?_
  unfold sp_J0_length_8abf5 at hs
  split at hs
  rotate_left
  · exact hs.elim
  rename_i c
  show bif Nat.beq 43 43 && Nat.blt c 6 then _ else False
  rw [blt6 hs.1]
  show bif Nat.beq 44 44 && Nat.blt c 6 then _ else False
  rw [blt6 hs.1]
  show bif Nat.beq 43 43 && Nat.blt c 6 && _ && _ && _ then _ else False
  rw [blt6 hs.1]
  refine ⟨hs.1, ?_⟩
  show q (some (HI (nI (slen.getD c 0) >>> (0 &&& 31)))) w σ
  rw [len7 hs.1]
  exact hs.2
theorem ct_J0_length_8abf5 : Ctr yJ0_length_8abf5 cJ0_length_8abf5 1 (some .int) 2 0 0 1 sp_J0_length_8abf5 := ctr_of (by decide +kernel) rfl (by decide) ok_J0_length_8abf5 vc_J0_length_8abf5

def sp_J0_charAt_5068e : HSp := fun as w σ K => match as with
  | [.inr (.inl (43, some c)), .inl x] => ∃ i, c < 6 ∧ i < slen.getD c 0 ∧ x = nI i ∧ K (some (HI ((sbyt.getD c []).getD i 0))) w σ
  | _ => False
theorem dJ0_charAt_5068e_0 : decode cJ0_charAt_5068e 0 = .ok (.aload_n 0, 1) := by decide +kernel
theorem dJ0_charAt_5068e_1 : decode cJ0_charAt_5068e 1 = .ok (.invokevirtual 492, 3) := by decide +kernel
theorem dJ0_charAt_5068e_4 : decode cJ0_charAt_5068e 4 = .ok (.ifCond .eq 12, 3) := by decide +kernel
theorem dJ0_charAt_5068e_7 : decode cJ0_charAt_5068e 7 = .ok (.aload_n 0, 1) := by decide +kernel
theorem dJ0_charAt_5068e_8 : decode cJ0_charAt_5068e 8 = .ok (.getfield 9, 3) := by decide +kernel
theorem dJ0_charAt_5068e_11 : decode cJ0_charAt_5068e 11 = .ok (.iload_n 1, 1) := by decide +kernel
theorem dJ0_charAt_5068e_12 : decode cJ0_charAt_5068e 12 = .ok (.invokestatic 495, 3) := by decide +kernel
theorem dJ0_charAt_5068e_15 : decode cJ0_charAt_5068e 15 = .ok (.ireturn, 1) := by decide +kernel
theorem dJ0_charAt_5068e_16 : decode cJ0_charAt_5068e 16 = .ok (.aload_n 0, 1) := by decide +kernel
theorem dJ0_charAt_5068e_17 : decode cJ0_charAt_5068e 17 = .ok (.getfield 9, 3) := by decide +kernel
theorem dJ0_charAt_5068e_20 : decode cJ0_charAt_5068e 20 = .ok (.iload_n 1, 1) := by decide +kernel
theorem dJ0_charAt_5068e_21 : decode cJ0_charAt_5068e 21 = .ok (.invokestatic 498, 3) := by decide +kernel
theorem dJ0_charAt_5068e_24 : decode cJ0_charAt_5068e 24 = .ok (.ireturn, 1) := by decide +kernel
def ins_J0_charAt_5068e (pc : Nat) : HOp := cond (Nat.blt pc 12) (cond (Nat.blt pc 7) (cond (Nat.blt pc 1) (cond (Nat.beq pc 0) (o_aload 0 1) o_bad) (cond (Nat.blt pc 4) (cond (Nat.beq pc 1) (o_callT 1 sp_J0_isLatin1_aae02 4) o_bad) (cond (Nat.beq pc 4) (o_if (fun x => x = 0) 16 7) o_bad))) (cond (Nat.blt pc 8) (cond (Nat.beq pc 7) (o_aload 0 8) o_bad) (cond (Nat.blt pc 11) (cond (Nat.beq pc 8) (o_sval 11) o_bad) (cond (Nat.beq pc 11) (o_iload 1 12) o_bad)))) (cond (Nat.blt pc 17) (cond (Nat.blt pc 15) (cond (Nat.beq pc 12) (o_callS 2 sp_J1_charAt_3b067 15) o_bad) (cond (Nat.blt pc 16) (cond (Nat.beq pc 15) (o_cret) o_bad) (cond (Nat.beq pc 16) (o_aload 0 17) o_bad))) (cond (Nat.blt pc 21) (cond (Nat.blt pc 20) (cond (Nat.beq pc 17) (o_sval 20) o_bad) (cond (Nat.beq pc 20) (o_iload 1 21) o_bad)) (cond (Nat.blt pc 24) (cond (Nat.beq pc 21) (o_bad) o_bad) (cond (Nat.beq pc 24) (o_cret) o_bad))))
set_option maxRecDepth 20000 in
theorem ok_J0_charAt_5068e : HOKs cJ0_charAt_5068e RJ0 2 (some .char) 4 ins_J0_charAt_5068e := fun _ => hnd (hnd (hnd (hlf (ok_aload_n dJ0_charAt_5068e_0 rfl rfl)) (hnd (hlf (ok_callT (y := yJ0_isLatin1_aae02) (n' := 0) dJ0_charAt_5068e_1 ct_J0_isLatin1_aae02 (by decide) (by decide) wd_665 wd_662 wd_663 wd_664 wd_55 rfl (by decide +kernel) rfl)) (hlf (ok_if_eq dJ0_charAt_5068e_4 (by decide) rfl)))) (hnd (hlf (ok_aload_n dJ0_charAt_5068e_7 rfl rfl)) (hnd (hlf (ok_sval dJ0_charAt_5068e_8 wd_1232 rfl)) (hlf (ok_iload_n dJ0_charAt_5068e_11 rfl rfl))))) (hnd (hnd (hlf (ok_callS (y := yJ1_charAt_3b067) dJ0_charAt_5068e_12 ct_J1_charAt_3b067 (by decide) (by decide) wd_668 wd_666 wd_667 wd_56 (by decide +kernel) rfl)) (hnd (hlf (ok_cret dJ0_charAt_5068e_15)) (hlf (ok_aload_n dJ0_charAt_5068e_16 rfl rfl)))) (hnd (hnd (hlf (ok_sval dJ0_charAt_5068e_17 wd_1232 rfl)) (hlf (ok_iload_n dJ0_charAt_5068e_20 rfl rfl))) (hnd (hlf (ok_bad)) (hlf (ok_cret dJ0_charAt_5068e_24)))))

theorem vc_J0_charAt_5068e : MVC ins_J0_charAt_5068e 2 2 sp_J0_charAt_5068e := by
  refine mvc0 30 fun as w σ q hl hs => ?_
  unfold sp_J0_charAt_5068e at hs
  split at hs
  rotate_left
  · exact hs.elim
  rename_i c x
  obtain ⟨i, hc, hi, rfl, hq⟩ := hs
  show bif Nat.beq 43 43 && Nat.blt c 6 && _ && _ && _ then _ else False
  rw [blt6 hc]
  refine ⟨hc, ?_⟩
  refine And.intro (fun h => absurd h (by decide)) (fun _ => ?_)
  show bif Nat.beq 43 43 && Nat.blt c 6 then _ else False
  rw [blt6 hc]
  exact ⟨i, hc, hi, rfl, (let7 hc hi).2.2.1, hq⟩
theorem ct_J0_charAt_5068e : Ctr yJ0_charAt_5068e cJ0_charAt_5068e 2 (some .char) 4 0 0 2 sp_J0_charAt_5068e := ctr_of (by decide +kernel) rfl (by decide) ok_J0_charAt_5068e vc_J0_charAt_5068e

