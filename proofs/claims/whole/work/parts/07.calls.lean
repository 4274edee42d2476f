/-! OUR FRAME, 5: contracts, calls, conditions of a method -/
theorem TTgood {x : Cond} (h : x ∈ TT) : goodWord x = true ∨ isNest x = true := by
  have := (List.mem_filter.mp h).2
  unfold okw at this
  rw [Bool.or_eq_true] at this
  exact this
theorem TTw {s U : State} {args a' : Array Value} (hW : s.WarmedH U.vm) (hts : ∀ x ∈ TT, x.before args s = true) : ∀ x ∈ TT, x.before a' U = true := by
  intro x hx
  have h := hts x hx
  rcases TTgood hx with hg | hg
  · exact word_at hW (good_of_word hg) h
  · cases x <;> first
      | (simp [isNest] at hg; done)
      | exact va_Nw.use rfl (va_Nw.warmF hW (va_Nw.of rfl h))
      | exact va_Nw.use rfl (va_Nw.warmM hW (va_Nw.of rfl h))
def rmL (lv mc ms : Nat) : Room := { frames := lv, cells := mc, slots := ms, locals := 30 * lv }
def PreC (G : HG) (A : Nat → Prop) (g : HA) (w : HW) (σ : HS) (U : State) : Prop := (∀ x ∈ TT, x.before #[] U = true) ∧ va_K G.1 vwCl (tysG G) U ∧ ZS G A U U.heap ∧ SRf G U ∧ RepS G A g w σ U.heap ∧ ∀ q, U.heap.size ≤ q → A q
def c1b (v : HV) : Bool := match v with
  | .inr (.inr _) => false
  | _ => true
/-- a method's contract, as a transformer of conditions -/
def Ctr (y : MethodName) (bytes : ByteArray) (maxL : Nat) (ret : Option FieldType) (lv mc ms n : Nat) (sp : HSp) : Prop :=
  ∀ (l : Launch) (G : HG) (A : Nat → Prop) (g : HA) (as : List HV) (w : HW) (σ : HS) (K : HRt), sp as w σ K → (∀ v ∈ as, VLv w v) → as.all c1b = true → as.length = n → Met l y [.code y bytes maxL ret] (rmL lv mc ms) (va_Pc (as.map (toV g)) (PreC G A g w σ)) (QQ G A g w K) mc ms A
theorem PreC.calling {G : HG} {A : Nat → Prop} {g : HA} {w : HW} {σ : HS} {U : State} {gf : JFrame} {mk : MethodId} {a : Array Value} (h : PreC G A g w σ U) : PreC G A g w σ (U.calling gf mk a) := by
  obtain ⟨h1, h2, h3, h4, h5, h6⟩ := h
  obtain ⟨s1, s2, s3, s4, s5, s6⟩ := h4
  exact ⟨TTw (s := U) (U := U.calling gf mk a) (State.WarmedH.refl U) h1, va_K.moved (u := U) (Vm.Alike.refl U.vm) h2, ZS.moved (u := U) (Vm.Alike.refl U.vm) h3, ⟨s1.same rfl, s2.same rfl, s3.same rfl, s4.same rfl, s5.same rfl, s6.same rfl⟩, h5, h6⟩
theorem PreC.at {G : HG} {A : Nat → Prop} {g : HA} {w : HW} {σ : HS} {s U : State} {args : Array Value} {H : Heap} {locs : List Loc} (hts : ∀ x ∈ TT, x.before args s = true) (hK : va_K G.1 vwCl (tysG G) s) (hZ : ZS G A s s.heap) (hSR : SRf G s) (hA : ∀ q, s.heap.size ≤ q → A q) (hR : RepS G A g w σ H) (hS : va_S A s.heap H locs) (hU : U.heap = H) (hW : s.WarmedH U.vm) : PreC G A g w σ U := by
  subst hU
  obtain ⟨s1, s2, s3, s4, s5, s6⟩ := hSR
  exact ⟨TTw hW hts, hK.moved hW.alike, (hZ.kept hS.2.1).moved hW.alike, ⟨s1.warm hW, s2.warm hW, s3.warm hW, s4.warm hW, s5.warm hW, s6.warm hW⟩, hR, fun q h => hA q (Nat.le_trans hS.1 h)⟩
theorem pc_blind {G : HG} {A : Nat → Prop} {g : HA} {w : HW} {σ : HS} {vs : List Value} : FrameBlind (va_Pc vs (PreC G A g w σ)) := fun _ _ _ _ q => ⟨q.1, q.2.calling⟩
theorem good1 {y : MethodName} {bytes : ByteArray} {maxL : Nat} {ret : Option FieldType} (h : Cond.code y bytes maxL ret ∈ TT) : GoodIn TT [.code y bytes maxL ret] := by
  intro x hx
  rw [List.mem_singleton.mp hx]
  exact ⟨h, good_of_word rfl⟩
/-- a later heap, more places written: all of A -/
theorem vaS_on {A : Nat → Prop} {H0 H H1 : Heap} {locs L : List Loc} (h : va_S A H0 H locs) (hz : H.size ≤ H1.size) (hk : ∀ q : Nat, q < H.size → ¬ A q → H1[q]? = H[q]?) (hL : ∀ x ∈ L, A x.base) : va_S A H0 H1 (locs ++ L) := by
  obtain ⟨y1, y2, y3⟩ := h
  exact ⟨Nat.le_trans y1 hz, fun q z1 z2 => (hk q (Nat.lt_of_lt_of_le z1 y1) z2).trans (y2 q z1 z2), List.forall_mem_append.mpr ⟨y3, hL⟩⟩
section HCall
variable {p : Program} {l : Launch} {e : Env} {R : Room} {s : State} {m : MethodId} {args : Array Value} {below : List Frame} {meth : Method} {c : Code} {H : Heap} {locs : List Loc} {cells slots mc ms pc : Nat} {Q : State → Prop} {G : HG} {A : Nat → Prop} {g : HA} {w : HW} {K : HRt} {la : Array Slot} {st0 rest : List Value} {a : Array Value}
theorem call_go (hr : va_Run p l e R s m args below meth c H locs cells slots mc ms (F0 m pc la st0) rest (QQ G A g w K a) A) (hS : va_S A s.heap H locs)
    (kk : ∀ (r : Option HV) (w' : HW) (σ' : HS) (g' : HA) (H1 : Heap) (locs1 : List Loc), K r w' σ' → GE g w g' w' → (∀ v, r = some v → VLv w' v) → RepS G A g' w' σ' H1 → va_S A s.heap H1 locs1 → W p l e R s m args below meth c H1 locs1 (cells + mc) (slots + ms) Q (F0 m (pc + 3) la ((r.map (toV g')).toList ++ rest))) : W p l e R s m args below meth c H locs cells slots Q (F0 m pc la st0) := by
  intro U hU X
  obtain ⟨_, B, E, U2, L, q1, X2, q2, q3, -, ⟨⟨r, w', σ', g', i0, i1, i2, i3, i4⟩, i5, i6⟩, fin⟩ := hr U hU X
  obtain rfl := Outcome.returned.inj i0
  rw [q1, ← q3] at i5 i6
  rw [← q3] at i4
  obtain ⟨u, u1, u2⟩ := kk r w' σ' g' _ _ i1 i2 i3 i4 (vaS_on hS i5 i6 q2) U2 rfl X2
  exact ⟨u, fin u u1, u2⟩
end HCall
theorem cat_le (v : Value) : v.category ≤ 2 := by cases v <;> simp [Value.category]
theorem cat_sum : ∀ {st : List Value}, (st.map fun v => v.category).sum ≤ 2 * st.length
  | [] => Nat.le_refl _
  | a :: r => by
    have h1 := cat_le a
    have h2 := cat_sum (st := r)
    simp only [List.map_cons, List.sum_cons, List.length_cons]
    omega
theorem cat_one {g : HA} : ∀ {st : List HV}, st.all c1b = true → ((st.map (toV g)).map fun v => v.category).sum ≤ st.length
  | [], _ => Nat.le_refl _
  | a :: r, h => by
    rw [List.all_cons, Bool.and_eq_true] at h
    have h2 := cat_one (g := g) h.2
    have h1 : (toV g a).category ≤ 1 := by
      rcases a with x | ⟨k, x⟩ | x
      · exact Nat.le_refl 1
      · cases x <;> exact Nat.le_refl 1
      · exact absurd h.1 Bool.false_ne_true
    simp only [List.map_cons, List.sum_cons, List.length_cons]
    omega
/-- what may lie below a call -/
def dpt (st : List HV) : Bool := Nat.ble st.length 4 || (st.all c1b && Nat.ble st.length 8)
theorem dpt_le {g : HA} {st : List HV} (h : dpt st = true) : ((st.map (toV g)).map fun v => v.category).sum ≤ 8 := by
  unfold dpt at h
  rw [Bool.or_eq_true, Bool.and_eq_true] at h
  rcases h with h | ⟨h1, h2⟩
  · exact Nat.le_trans cat_sum (by rw [List.length_map]; have := Nat.le_of_ble_eq_true h; omega)
  · exact Nat.le_trans (cat_one h1) (Nat.le_of_ble_eq_true h2)
def o_callS (n : Nat) (sp : HSp) (nx : Nat) : HOp := fun k _ ls st w σ => bif Nat.beq (st.take n).length n && (st.take n).all c1b && Nat.ble (st.drop n).length 4 then sp (st.take n).reverse w σ (fun r w' σ' => k nx ls (r.toList ++ st.drop n) w' σ') else False
def o_callV (n kd : Nat) (sp : HSp) (nx : Nat) : HOp := fun k _ ls st w σ => popR (st.take n).reverse fun kk i As => bif Nat.beq kk kd && Nat.beq (As.length + 1) n && As.all c1b && dpt (st.drop n) then sp (HR kd i :: As) w σ (fun r w' σ' => k nx ls (r.toList ++ st.drop n) w' σ') else False
theorem room_of {R : Room} {lv lv' maxL : Nat} (hlv : lv ≤ R.frames ∧ 30 * lv ≤ R.locals) (h1 : lv' < lv) (h2 : maxL ≤ 11) : (rmL lv' 0 0).frames + 1 ≤ R.frames ∧ 8 + (maxL + 11) + (rmL lv' 0 0).locals ≤ R.locals := by
  show lv' + 1 ≤ R.frames ∧ 8 + (maxL + 11) + 30 * lv' ≤ R.locals
  omega
theorem live_tail {w w' : HW} {g g' : HA} {st : List HV} {n : Nat} {r : Option HV} (hge : GE g w g' w') (hst : ∀ v ∈ st, VLv w v) (hr : ∀ v, r = some v → VLv w' v) : (r.map (toV g')).toList ++ (st.drop n).map (toV g) = (r.toList ++ st.drop n).map (toV g') ∧ ∀ v ∈ r.toList ++ st.drop n, VLv w' v := by
  have hd : ∀ v ∈ st.drop n, VLv w v := fun v hv => hst v (List.mem_of_mem_drop hv)
  obtain ⟨h1, h2⟩ := map_ge hge hd
  refine ⟨by rw [List.map_append, h1]; cases r <;> rfl, fun v hv => ?_⟩
  rcases List.mem_append.mp hv with h | h
  · cases r with
    | none => simp at h
    | some u => simp at h; exact h ▸ hr u rfl
  · exact h2 v h
theorem ok_callS {cc : ByteArray} {own : String} {nL : Nat} {ret : Option FieldType} {lv pc : Nat} {ix n nx lv' maxL : Nat} {y : MethodName} {bytes : ByteArray} {rt : Option FieldType} {sp : HSp} (hd : decode cc pc = .ok (.invokestatic ix, 3)) (hC : Ctr y bytes maxL rt lv' 0 0 n sp) (hl : lv' < lv) (hm : maxL ≤ 11) (hw1 : Cond.code y bytes maxL rt ∈ TT) (hw2 : Cond.methodLink own ix y ∈ TT) (hw3 : Cond.static y ∈ TT) (hw4 : Cond.initialized y.cls ∈ TT) (hy : y.cls ≠ "java/lang/invoke/MethodHandle" ∧ y.cls ≠ "java/lang/invoke/VarHandle" ∧ (parseMethodDescriptor y.desc).map (fun d => d.parameters.length) = some n) (hn : pc + 3 = nx) : HOK cc own nL ret lv pc (o_callS n sp nx) := by
  intro p l e R s m args below meth c cells slots mc ms Q G A g0 w0 q C k hk ls st w σ ho
  obtain ⟨hx, hb, hml, hown, hts, hK, hr, hlk, hZ, hSR, hA, hlv, hcs, hcm, hQ⟩ := C
  subst hn
  intro g H locs la hge hR hS hL hst
  obtain ⟨hc, ho1⟩ := bif_s ho
  simp only [Bool.and_eq_true] at hc
  obtain ⟨⟨hc1, hc2⟩, hc3⟩ := hc
  have hn' : (st.take n).length = n := Nat.eq_of_beq_eq_true hc1
  have hM := hC l G A g (st.take n).reverse w σ _ ho1 (fun v hv => hst v (List.mem_of_mem_take (List.mem_reverse.mp hv))) (by rw [List.all_reverse]; exact hc2) (by rw [List.length_reverse]; exact hn')
  have hrun := va_runS (e := e) (g := F0 m pc la (st.map (toV g))) (rest := (st.drop n).map (toV g)) (H := H) (locs := locs) (cells := cells) (slots := slots) (below := below) (meth := meth) ⟨hx, hb, hml, hown, hts⟩ hM ⟨callB_of n hts (good1 hw1) rfl rfl rfl (hts _ hw4) (hts _ hw2) hy (room_of hlv hl hm), hts _ hw3⟩ ⟨pc_blind, fun U hU hW => ⟨rfl, PreC.at hts hK hZ hSR hA hR hS hU hW⟩⟩ rfl (by rw [List.length_map, List.length_reverse]; exact hn') hL.1.1 (by
    show st.map (toV g) = _
    rw [← List.map_reverse, List.reverse_reverse, ← List.map_append, List.take_append_drop]) (lv_room (Nat.le_trans cat_sum (by rw [List.length_map]; have := Nat.le_of_ble_eq_true hc3; omega))) hd hcs
  refine call_go hrun hS fun r w' σ' g' H1 locs1 hp hge2 hlr hR1 hS1 => ?_
  obtain ⟨e1, h2⟩ := live_tail (n := n) hge2 hst hlr
  rw [e1]
  exact hk _ _ _ _ _ hp g' H1 locs1 la (hge.tr hge2) hR1 hS1 (hL.ge hge2) h2
theorem ok_callSN {cc : ByteArray} {own : String} {nL : Nat} {ret : Option FieldType} {lv pc : Nat} {ix n nx lv' maxL : Nat} {host : String} {y : MethodName} {bytes : ByteArray} {rt : Option FieldType} {sp : HSp} (hd : decode cc pc = .ok (.invokestatic ix, 3)) (hC : Ctr y bytes maxL rt lv' 0 0 n sp) (hl : lv' < lv) (hm : maxL ≤ 11) (hw1 : Cond.code y bytes maxL rt ∈ TT) (hw2 : Cond.methodLinkNest own ix y host ∈ TT) (hw3 : Cond.static y ∈ TT) (hw4 : Cond.initialized y.cls ∈ TT) (hy : y.cls ≠ "java/lang/invoke/MethodHandle" ∧ y.cls ≠ "java/lang/invoke/VarHandle" ∧ (parseMethodDescriptor y.desc).map (fun d => d.parameters.length) = some n) (hn : pc + 3 = nx) : HOK cc own nL ret lv pc (o_callS n sp nx) := by
  intro p l e R s m args below meth c cells slots mc ms Q G A g0 w0 q C k hk ls st w σ ho
  obtain ⟨hx, hb, hml, hown, hts, hK, hr, hlk, hZ, hSR, hA, hlv, hcs, hcm, hQ⟩ := C
  subst hn
  intro g H locs la hge hR hS hL hst
  obtain ⟨hc, ho1⟩ := bif_s ho
  simp only [Bool.and_eq_true] at hc
  obtain ⟨⟨hc1, hc2⟩, hc3⟩ := hc
  have hn' : (st.take n).length = n := Nat.eq_of_beq_eq_true hc1
  have hM := hC l G A g (st.take n).reverse w σ _ ho1 (fun v hv => hst v (List.mem_of_mem_take (List.mem_reverse.mp hv))) (by rw [List.all_reverse]; exact hc2) (by rw [List.length_reverse]; exact hn')
  have hrun := va_runSN (e := e) (g := F0 m pc la (st.map (toV g))) (rest := (st.drop n).map (toV g)) (H := H) (locs := locs) (cells := cells) (slots := slots) (below := below) (meth := meth) ⟨hx, hb, hml, hown, hts⟩ hM ⟨va_cnB n hts (good1 hw1) rfl rfl rfl (va_Nw.of rfl (hts _ hw2)) (hts _ hw4) hy (room_of hlv hl hm), hts _ hw3, trivial⟩ ⟨pc_blind, fun U hU hW => ⟨rfl, PreC.at hts hK hZ hSR hA hR hS hU hW⟩⟩ rfl (by rw [List.length_map, List.length_reverse]; exact hn') hL.1.1 (by
    show st.map (toV g) = _
    rw [← List.map_reverse, List.reverse_reverse, ← List.map_append, List.take_append_drop]) (lv_room (Nat.le_trans cat_sum (by rw [List.length_map]; have := Nat.le_of_ble_eq_true hc3; omega))) hd hcs
  refine call_go hrun hS fun r w' σ' g' H1 locs1 hp hge2 hlr hR1 hS1 => ?_
  obtain ⟨e1, h2⟩ := live_tail (n := n) hge2 hst hlr
  rw [e1]
  exact hk _ _ _ _ _ hp g' H1 locs1 la (hge.tr hge2) hR1 hS1 (hL.ge hge2) h2
theorem ok_callV {cc : ByteArray} {own : String} {nL : Nat} {ret : Option FieldType} {lv pc : Nat} {ix n n' nx lv' maxL kd : Nat} {C : String} {T : u_T} {N : Nat} {y : MethodName} {bytes : ByteArray} {rt : Option FieldType} {sp : HSp} (hd : decode cc pc = .ok (.invokevirtual ix, 3)) (hC : Ctr y bytes maxL rt lv' 0 0 n sp) (hl : lv' < lv) (hm : maxL ≤ 11) (hw1 : Cond.code y bytes maxL rt ∈ TT) (hw2 : Cond.methodLink own ix y ∈ TT) (hw3 : Cond.instanceMethod y ∈ TT) (hw5 : Cond.selects C y y ∈ TT) (hw4 : Cond.initialized y.cls ∈ TT) (hnn : n' + 1 = n) (hy : y.cls ≠ "java/lang/invoke/MethodHandle" ∧ y.cls ≠ "java/lang/invoke/VarHandle" ∧ (parseMethodDescriptor y.desc).map (fun d => d.parameters.length) = some n') (hc : vwCl[kd]? = some (C, T, N)) (h12 : Nat.blt kd 12 = true) (hn : pc + 3 = nx) : HOK cc own nL ret lv pc (o_callV n kd sp nx) := by
  intro p l e R s m args below meth c cells slots mc ms Q G A g0 w0 q C k hk ls st w σ ho
  obtain ⟨hx, hb, hml, hown, hts, hK, hr, hlk, hZ, hSR, hA, hlv, hcs, hcm, hQ⟩ := C
  subst hn
  intro g H locs la hge hR hS hL hst
  obtain ⟨kk, i, As, hrev, ho0⟩ := popR_s ho
  obtain ⟨hcc, ho1⟩ := bif_s ho0
  simp only [Bool.and_eq_true] at hcc
  obtain ⟨⟨⟨hc0, hc1⟩, hc2⟩, hc3⟩ := hcc
  have ek : kk = kd := Nat.eq_of_beq_eq_true hc0
  subst ek
  have hn1 : As.length + 1 = n := Nat.eq_of_beq_eq_true hc1
  have htk : st.take n = As.reverse ++ [HR kk i] := by
    rw [← List.reverse_reverse (st.take n), hrev, List.reverse_cons]
  have hlv1 : ∀ v ∈ HR kk i :: As, VLv w v := fun v hv => hst v (List.mem_of_mem_take (List.mem_reverse.mp (hrev ▸ hv)))
  have hM := hC l G A g (HR kk i :: As) w σ _ ho1 hlv1 (by rw [List.all_cons, hc2]; rfl) (by rw [List.length_cons]; exact hn1)
  have hi : i < w.1 kk := hlv1 _ List.mem_cons_self
  have h22 : kk < 22 := Nat.lt_trans (b12 h12) (by decide)
  have hat := (hR.at (k := kk) h22 hi).1
  rw [ent_obj h12] at hat
  have hrun := va_runV (e := e) (g := F0 m pc la (st.map (toV g))) (As := As.map (toV g)) (b := g kk i) (rest := (st.drop n).map (toV g)) (H := H) (locs := locs) (cells := cells) (slots := slots) (below := below) (meth := meth) ⟨hx, hb, hml, hown, hts⟩ hM ⟨callB_of n' hts (good1 hw1) rfl rfl rfl (hts _ hw4) (hts _ hw2) hy (room_of hlv hl hm), hts _ hw3, hts _ hw5⟩ ⟨pc_blind, va_recv hK (va_one hat) hc (q0 := 0) rfl, fun U hU hW => ⟨rfl, PreC.at hts hK hZ hSR hA hR hS hU hW⟩⟩ rfl (by rw [List.length_map]; omega) hL.1.1 (by
    show st.map (toV g) = _
    have e2 := congrArg (List.map (toV g)) (List.take_append_drop n st)
    rw [htk] at e2
    rw [← e2]
    simp [List.map_append, List.map_reverse, toV]) (lv_room (dpt_le hc3)) hd hcs
  refine call_go hrun hS fun r w' σ' g' H1 locs1 hp hge2 hlr hR1 hS1 => ?_
  obtain ⟨e1, h2⟩ := live_tail (n := n) hge2 hst hlr
  rw [e1]
  exact hk _ _ _ _ _ hp g' H1 locs1 la (hge.tr hge2) hR1 hS1 (hL.ge hge2) h2
theorem ok_callVN {cc : ByteArray} {own : String} {nL : Nat} {ret : Option FieldType} {lv pc : Nat} {ix n n' nx lv' maxL kd : Nat} {C host : String} {T : u_T} {N : Nat} {y : MethodName} {bytes : ByteArray} {rt : Option FieldType} {sp : HSp} (hd : decode cc pc = .ok (.invokevirtual ix, 3)) (hC : Ctr y bytes maxL rt lv' 0 0 n sp) (hl : lv' < lv) (hm : maxL ≤ 11) (hw1 : Cond.code y bytes maxL rt ∈ TT) (hw2 : Cond.methodLinkNest own ix y host ∈ TT) (hw3 : Cond.instanceMethod y ∈ TT) (hw5 : Cond.selects C y y ∈ TT) (hw4 : Cond.initialized y.cls ∈ TT) (hnn : n' + 1 = n) (hy : y.cls ≠ "java/lang/invoke/MethodHandle" ∧ y.cls ≠ "java/lang/invoke/VarHandle" ∧ (parseMethodDescriptor y.desc).map (fun d => d.parameters.length) = some n') (hc : vwCl[kd]? = some (C, T, N)) (h12 : Nat.blt kd 12 = true) (hn : pc + 3 = nx) : HOK cc own nL ret lv pc (o_callV n kd sp nx) := by
  intro p l e R s m args below meth c cells slots mc ms Q G A g0 w0 q C k hk ls st w σ ho
  obtain ⟨hx, hb, hml, hown, hts, hK, hr, hlk, hZ, hSR, hA, hlv, hcs, hcm, hQ⟩ := C
  subst hn
  intro g H locs la hge hR hS hL hst
  obtain ⟨kk, i, As, hrev, ho0⟩ := popR_s ho
  obtain ⟨hcc, ho1⟩ := bif_s ho0
  simp only [Bool.and_eq_true] at hcc
  obtain ⟨⟨⟨hc0, hc1⟩, hc2⟩, hc3⟩ := hcc
  have ek : kk = kd := Nat.eq_of_beq_eq_true hc0
  subst ek
  have hn1 : As.length + 1 = n := Nat.eq_of_beq_eq_true hc1
  have htk : st.take n = As.reverse ++ [HR kk i] := by
    rw [← List.reverse_reverse (st.take n), hrev, List.reverse_cons]
  have hlv1 : ∀ v ∈ HR kk i :: As, VLv w v := fun v hv => hst v (List.mem_of_mem_take (List.mem_reverse.mp (hrev ▸ hv)))
  have hM := hC l G A g (HR kk i :: As) w σ _ ho1 hlv1 (by rw [List.all_cons, hc2]; rfl) (by rw [List.length_cons]; exact hn1)
  have hi : i < w.1 kk := hlv1 _ List.mem_cons_self
  have h22 : kk < 22 := Nat.lt_trans (b12 h12) (by decide)
  have hat := (hR.at (k := kk) h22 hi).1
  rw [ent_obj h12] at hat
  have hrun := va_runVN (e := e) (g := F0 m pc la (st.map (toV g))) (As := As.map (toV g)) (b := g kk i) (rest := (st.drop n).map (toV g)) (H := H) (locs := locs) (cells := cells) (slots := slots) (below := below) (meth := meth) ⟨hx, hb, hml, hown, hts⟩ hM ⟨va_cnB n' hts (good1 hw1) rfl rfl rfl (va_Nw.of rfl (hts _ hw2)) (hts _ hw4) hy (room_of hlv hl hm), hts _ hw3, hts _ hw5⟩ ⟨pc_blind, va_recv hK (va_one hat) hc (q0 := 0) rfl, fun U hU hW => ⟨rfl, PreC.at hts hK hZ hSR hA hR hS hU hW⟩⟩ rfl (by rw [List.length_map]; omega) hL.1.1 (by
    show st.map (toV g) = _
    have e2 := congrArg (List.map (toV g)) (List.take_append_drop n st)
    rw [htk] at e2
    rw [← e2]
    simp [List.map_append, List.map_reverse, toV]) (lv_room (dpt_le hc3)) hd hcs
  refine call_go hrun hS fun r w' σ' g' H1 locs1 hp hge2 hlr hR1 hS1 => ?_
  obtain ⟨e1, h2⟩ := live_tail (n := n) hge2 hst hlr
  rw [e1]
  exact hk _ _ _ _ _ hp g' H1 locs1 la (hge.tr hge2) hR1 hS1 (hL.ge hge2) h2
