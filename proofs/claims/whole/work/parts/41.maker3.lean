/-! OUR FRAME, 9: calls of makers, conditions and contracts of makers -/
def o_callM (n kd : Nat) (sp : HSp) (nx : Nat) : HOp := o_callV n kd sp nx
section MC
variable {cc : ByteArray} {own : String} {nL : Nat} {ret : Option FieldType} {lv pc : Nat} {nm : String}
theorem ok_callVM {ix n n' nx lv' maxL kd mc1 ms1 : Nat} {C : String} {T : u_T} {N : Nat} {y : MethodName} {bytes : ByteArray} {rt : Option FieldType} {sp : HSp} (hd : decode cc pc = .ok (.invokevirtual ix, 3)) (hC : CtrM y bytes maxL rt lv' mc1 ms1 n sp) (hl : lv' < lv) (hm : maxL ≤ 11) (hw1 : Cond.code y bytes maxL rt ∈ TT) (hw2 : Cond.methodLink own ix y ∈ TT) (hw3 : Cond.instanceMethod y ∈ TT) (hw5 : Cond.selects C y y ∈ TT) (hw4 : Cond.initialized y.cls ∈ TT) (hnn : n' + 1 = n) (hy : y.cls ≠ "java/lang/invoke/MethodHandle" ∧ y.cls ≠ "java/lang/invoke/VarHandle" ∧ (parseMethodDescriptor y.desc).map (fun d => d.parameters.length) = some n') (hc : vwCl[kd]? = some (C, T, N)) (h12 : Nat.blt kd 12 = true) (hn : pc + 3 = nx) : HOM cc own nL ret lv nm pc mc1 ms1 (o_callV n kd sp nx) := by
  intro p l e R s m args below meth c cells slots mc ms Q G A g0 w0 q C hnm hAO hmr hcd k hk ls st w σ ho
  obtain ⟨hx, hb, hml, hown, hts, hK, hr, hlk, hZ, hSR, hA, hlv, hcs, hcm, hQ⟩ := C
  subst hn
  intro g H locs la hge hR hS hL hst
  obtain ⟨kk, i, As, hrev, ho0⟩ := popR_s ho
  obtain ⟨hcc, ho1⟩ := bif_s ho0
  simp only [Bool.and_eq_true] at hcc
  obtain ⟨⟨⟨hc0, hc1⟩, hc2⟩, hc3⟩ := hcc
  have ek : kk = kd := Nat.eq_of_beq_eq_true hc0
  subst ek
  have hn1 : As.length + 1 = n := Nat.eq_of_beq_eq_true hc1
  have htk : st.take n = As.reverse ++ [HR kk i] := by
    rw [← List.reverse_reverse (st.take n), hrev, List.reverse_cons]
  have hlv1 : ∀ v ∈ HR kk i :: As, VLv w v := fun v hv => hst v (List.mem_of_mem_take (List.mem_reverse.mp (hrev ▸ hv)))
  have hM := hC l G A g (HR kk i :: As) w σ _ ho1 hlv1 (by rw [List.all_cons, hc2]; rfl) (by rw [List.length_cons]; exact hn1)
  have hi : i < w.1 kk := hlv1 _ List.mem_cons_self
  have h22 : kk < 22 := Nat.lt_trans (b12 h12) (by decide)
  have hat := (hR.at (k := kk) h22 hi).1
  rw [ent_obj h12] at hat
  have hrun := va_runV (e := e) (g := F0 m pc la (st.map (toV g))) (As := As.map (toV g)) (b := g kk i) (rest := (st.drop n).map (toV g)) (H := H) (locs := locs) (cells := cells) (slots := slots) (below := below) (meth := meth) ⟨hx, hb, hml, hown, hts⟩ hM ⟨callB_of n' hts (good1 hw1) rfl rfl rfl (hts _ hw4) (hts _ hw2) hy (room_of hlv hl hm), hts _ hw3, hts _ hw5⟩ ⟨pm_blind, va_recv hK (va_one hat) hc (q0 := 0) rfl, fun U hU hW => ⟨rfl, PreC.at hts hK hZ hSR hA hR hS hU hW, hAO.moved hW.alike⟩⟩ rfl (by rw [List.length_map]; omega) hL.1.1 (by
    show st.map (toV g) = _
    have e2 := congrArg (List.map (toV g)) (List.take_append_drop n st)
    rw [htk] at e2
    rw [← e2]
    simp [List.map_append, List.map_reverse, toV]) (lv_room (dpt_le hc3)) hd ⟨Nat.le_trans hcd.1 hmr.1, Nat.le_trans hcd.2 hmr.2⟩
  refine call_go hrun hS fun r w' σ' g' H1 locs1 hp hge2 hlr hR1 hS1 => ?_
  obtain ⟨e1, h2⟩ := live_tail (n := n) hge2 hst hlr
  rw [e1]
  exact hk _ _ _ _ _ hp g' H1 locs1 la (hge.tr hge2) hR1 hS1 (hL.ge hge2) h2
/-- a maker is called, and what it made is made up -/
def o_init (n kd : Nat) (sp : HSp) (nx : Nat) : HOp := fun k _ ls st w σ => popR (st.take n).reverse fun kk i As => bif Nat.beq kk (30 + kd) && Nat.beq (As.length + 1) n && As.all c1b && Nat.ble (st.drop n).length 4 then sp (HR (30 + kd) i :: As) w σ (fun r w' σ' => match r with
  | none => popR (st.drop n) fun kk2 i2 r2 => bif Nat.beq kk2 (30 + kd) then i2 = i ∧ FinOK kd i w' ∧ k nx ls (HR kd (w'.1 kd) :: r2) (finW kd w') (finS kd i (w'.1 kd) σ') else False
  | some _ => False) else False
theorem init_end {p : Program} {l : Launch} {e : Env} {R : Room} {s : State} {m : MethodId} {args : Array Value} {below : List Frame} {meth : Method} {c : Code} {H : Heap} {locs : List Loc} {cells slots mc1 ms1 : Nat} {Q : State → Prop} {G : HG} {A : Nat → Prop} {g g0 : HA} {w w0 : HW} {la : Array Slot} {a : Array Value} {kd i n : Nat} {k : HK} {nx : Nat} {ls : HLs} {st : List HV} (h12 : kd < 12) (hn : pc + 3 = nx) (hi : i < w.1 (30 + kd))
    (hrun : va_Run p l e R s m args below meth c H locs cells slots mc1 ms1 (F0 m pc la (st.map (toV g))) ((st.drop n).map (toV g)) (QQ G A g w (fun r w' σ' => match r with
  | none => popR (st.drop n) fun kk2 i2 r2 => bif Nat.beq kk2 (30 + kd) then i2 = i ∧ FinOK kd i w' ∧ k nx ls (HR kd (w'.1 kd) :: r2) (finW kd w') (finS kd i (w'.1 kd) σ') else False
  | some _ => False) a) A) (hge : GE g0 w0 g w) (hS : va_S A s.heap H locs) (hL : LsOK g w nL ls la) (hst : ∀ v ∈ st, VLv w v) (hk : ∀ pc' ls st w σ, k pc' ls st w σ → Wat p l e R s m args below meth c (cells + mc1) (slots + ms1) Q G A g0 w0 nL pc' ls st w σ) : W p l e R s m args below meth c H locs cells slots Q (F0 m pc la (st.map (toV g))) := by
  subst hn
  refine call_go hrun hS fun r w' σ' g' H1 locs1 hp hge2 hlr hR1 hS1 => ?_
  cases r with
  | some v => exact hp.elim
  | none =>
    obtain ⟨kk2, i2, r2, he, hp2⟩ := popR_s hp
    obtain ⟨hkk, hii, hF, hp3⟩ := bif_s hp2
    have ek : kk2 = 30 + kd := Nat.eq_of_beq_eq_true hkk
    subst ek
    subst hii
    have hi' : i2 < w'.1 (30 + kd) := (hge2 _ _ hi).1
    have hGE : GE g' w' (upG g' kd (w'.1 kd) (g' (30 + kd) i2)) (finW kd w') := upG_ge rfl
    have hdr : ∀ v ∈ st.drop n, VLv w v := fun v hv => hst v (List.mem_of_mem_drop hv)
    rw [he] at hdr
    have hr2 := map_ge (hge2.tr hGE) (tail1 hdr)
    have h5 := hk _ _ _ _ _ hp3 _ H1 locs1 la ((hge.tr hge2).tr hGE) (hR1.fin h12 hi' hF) hS1 ((hL.ge hge2).ge hGE) (cons1 (a := HR kd (w'.1 kd)) (by show w'.1 kd < up1 w'.1 kd kd; rw [up1_v]; omega) hr2.2)
    rw [List.map_cons, hr2.1] at h5
    have e4 : toV (upG g' kd (w'.1 kd) (g' (30 + kd) i2)) (HR kd (w'.1 kd)) = toV g (HR (30 + kd) i2) := congrArg Value.ref (upG_v.trans (hge2 _ _ hi).2)
    rw [e4] at h5
    rw [he]
    exact h5
theorem ok_init {ix n n' nx lv' maxL kd mc1 ms1 : Nat} {y : MethodName} {bytes : ByteArray} {sp : HSp} (hd : decode cc pc = .ok (.invokespecial ix, 3)) (hC : CtrM y bytes maxL none lv' mc1 ms1 n sp) (hl : lv' < lv) (hm : maxL ≤ 11) (hw1 : Cond.code y bytes maxL none ∈ TT) (hw2 : Cond.methodLink own ix y ∈ TT) (hw3 : Cond.instanceMethod y ∈ TT) (hw4 : Cond.initialized y.cls ∈ TT) (hyn : y.name = "<init>") (hnn : n' + 1 = n) (hy : y.cls ≠ "java/lang/invoke/MethodHandle" ∧ y.cls ≠ "java/lang/invoke/VarHandle" ∧ (parseMethodDescriptor y.desc).map (fun d => d.parameters.length) = some n') (h12 : kd < 12) (hn : pc + 3 = nx) : HOM cc own nL ret lv nm pc mc1 ms1 (o_init n kd sp nx) := by
  intro p l e R s m args below meth c cells slots mc ms Q G A g0 w0 q C hnm hAO hmr hcd k hk ls st w σ ho
  obtain ⟨hx, hb, hml, hown, hts, hK, hr, hlk, hZ, hSR, hA, hlv, hcs, hcm, hQ⟩ := C
  intro g H locs la hge hR hS hL hst
  obtain ⟨kk, i, As, hrev, ho0⟩ := popR_s ho
  obtain ⟨hcc, ho1⟩ := bif_s ho0
  simp only [Bool.and_eq_true] at hcc
  obtain ⟨⟨⟨hc0, hc1⟩, hc2⟩, hc3⟩ := hcc
  have ek : kk = 30 + kd := Nat.eq_of_beq_eq_true hc0
  subst ek
  have hn1 : As.length + 1 = n := Nat.eq_of_beq_eq_true hc1
  have htk : st.take n = As.reverse ++ [HR (30 + kd) i] := by
    rw [← List.reverse_reverse (st.take n), hrev, List.reverse_cons]
  have hlv1 : ∀ v ∈ HR (30 + kd) i :: As, VLv w v := fun v hv => hst v (List.mem_of_mem_take (List.mem_reverse.mp (hrev ▸ hv)))
  have hM := hC l G A g (HR (30 + kd) i :: As) w σ _ ho1 hlv1 (by rw [List.all_cons, hc2]; rfl) (by rw [List.length_cons]; exact hn1)
  have hi : i < w.1 (30 + kd) := hlv1 _ List.mem_cons_self
  have hrun := va_runI (e := e) (g := F0 m pc la (st.map (toV g))) (As := As.map (toV g)) (b := g (30 + kd) i) (rest := (st.drop n).map (toV g)) (H := H) (locs := locs) (cells := cells) (slots := slots) (below := below) (meth := meth) ⟨hx, hb, hml, hown, hts⟩ hM ⟨callB_of n' hts (good1 hw1) rfl rfl rfl (hts _ hw4) (hts _ hw2) hy (room_of hlv hl hm), hyn, hts _ hw3⟩ ⟨pm_blind, fun U hU hW => ⟨rfl, PreC.at hts hK hZ hSR hA hR hS hU hW, hAO.moved hW.alike⟩⟩ rfl (by rw [List.length_map]; omega) hL.1.1 (by
    show st.map (toV g) = _
    have e2 := congrArg (List.map (toV g)) (List.take_append_drop n st)
    rw [htk] at e2
    rw [← e2]
    simp [List.map_append, List.map_reverse, toV]) (lv_room (Nat.le_trans cat_sum (by rw [List.length_map]; have := Nat.le_of_ble_eq_true hc3; omega))) hd ⟨Nat.le_trans hcd.1 hmr.1, Nat.le_trans hcd.2 hmr.2⟩
  exact init_end h12 hn hi hrun hge hS hL hst hk
theorem ok_initN {ix n n' nx lv' maxL kd mc1 ms1 : Nat} {host : String} {y : MethodName} {bytes : ByteArray} {sp : HSp} (hd : decode cc pc = .ok (.invokespecial ix, 3)) (hC : CtrM y bytes maxL none lv' mc1 ms1 n sp) (hl : lv' < lv) (hm : maxL ≤ 11) (hw1 : Cond.code y bytes maxL none ∈ TT) (hw2 : Cond.methodLinkNest own ix y host ∈ TT) (hw3 : Cond.instanceMethod y ∈ TT) (hw4 : Cond.initialized y.cls ∈ TT) (hyn : y.name = "<init>") (hnn : n' + 1 = n) (hy : y.cls ≠ "java/lang/invoke/MethodHandle" ∧ y.cls ≠ "java/lang/invoke/VarHandle" ∧ (parseMethodDescriptor y.desc).map (fun d => d.parameters.length) = some n') (h12 : kd < 12) (hn : pc + 3 = nx) : HOM cc own nL ret lv nm pc mc1 ms1 (o_init n kd sp nx) := by
  intro p l e R s m args below meth c cells slots mc ms Q G A g0 w0 q C hnm hAO hmr hcd k hk ls st w σ ho
  obtain ⟨hx, hb, hml, hown, hts, hK, hr, hlk, hZ, hSR, hA, hlv, hcs, hcm, hQ⟩ := C
  intro g H locs la hge hR hS hL hst
  obtain ⟨kk, i, As, hrev, ho0⟩ := popR_s ho
  obtain ⟨hcc, ho1⟩ := bif_s ho0
  simp only [Bool.and_eq_true] at hcc
  obtain ⟨⟨⟨hc0, hc1⟩, hc2⟩, hc3⟩ := hcc
  have ek : kk = 30 + kd := Nat.eq_of_beq_eq_true hc0
  subst ek
  have hn1 : As.length + 1 = n := Nat.eq_of_beq_eq_true hc1
  have htk : st.take n = As.reverse ++ [HR (30 + kd) i] := by
    rw [← List.reverse_reverse (st.take n), hrev, List.reverse_cons]
  have hlv1 : ∀ v ∈ HR (30 + kd) i :: As, VLv w v := fun v hv => hst v (List.mem_of_mem_take (List.mem_reverse.mp (hrev ▸ hv)))
  have hM := hC l G A g (HR (30 + kd) i :: As) w σ _ ho1 hlv1 (by rw [List.all_cons, hc2]; rfl) (by rw [List.length_cons]; exact hn1)
  have hi : i < w.1 (30 + kd) := hlv1 _ List.mem_cons_self
  have hrun := va_runIN (e := e) (g := F0 m pc la (st.map (toV g))) (As := As.map (toV g)) (b := g (30 + kd) i) (rest := (st.drop n).map (toV g)) (H := H) (locs := locs) (cells := cells) (slots := slots) (below := below) (meth := meth) ⟨hx, hb, hml, hown, hts⟩ hM ⟨va_cnB n' hts (good1 hw1) rfl rfl rfl (va_Nw.of rfl (hts _ hw2)) (hts _ hw4) hy (room_of hlv hl hm), hyn, hts _ hw3⟩ ⟨pm_blind, fun U hU hW => ⟨rfl, PreC.at hts hK hZ hSR hA hR hS hU hW, hAO.moved hW.alike⟩⟩ rfl (by rw [List.length_map]; omega) hL.1.1 (by
    show st.map (toV g) = _
    have e2 := congrArg (List.map (toV g)) (List.take_append_drop n st)
    rw [htk] at e2
    rw [← e2]
    simp [List.map_append, List.map_reverse, toV]) (lv_room (Nat.le_trans cat_sum (by rw [List.length_map]; have := Nat.le_of_ble_eq_true hc3; omega))) hd ⟨Nat.le_trans hcd.1 hmr.1, Nat.le_trans hcd.2 hmr.2⟩
  exact init_end h12 hn hi hrun hge hS hL hst hk
end MC
abbrev HTb : Type := Nat → (Nat × Nat) × HOp
def HOMs (cc : ByteArray) (own : String) (nL : Nat) (ret : Option FieldType) (lv : Nat) (nm : String) (t : HTb) : Prop := ∀ pc, HOM cc own nL ret lv nm pc (t pc).1.1 (t pc).1.2 (t pc).2
noncomputable def wpm (t : HTb) (B : Nat → Option HKp) (q : HRt) (n : Nat) : Nat → Nat → HK := Nat.rec (fun _ _ _ _ _ _ _ => False) (fun _ ih b d pc ls st w σ => match B pc with | some P => P ls st w σ | none => bif Nat.ble (t pc).1.1 b && Nat.ble (t pc).1.2 d then (t pc).2 (ih (b - (t pc).1.1) (d - (t pc).1.2)) q ls st w σ else False) n
section SoundM
variable {p : Program} {l : Launch} {e : Env} {R : Room} {s : State} {m : MethodId} {args : Array Value} {below : List Frame} {meth : Method} {c : Code} {cells slots mc ms : Nat} {Q : State → Prop} {G : HG} {A : Nat → Prop} {g0 : HA} {w0 : HW} {q : HRt} {cc : ByteArray} {own : String} {nL : Nat} {ret : Option FieldType} {lv : Nat} {nm : String} {t : HTb}
theorem HCx.re (C : HCx p l e R s m args below meth c cells slots mc ms Q G A g0 w0 q cc own nL ret lv) (hR : mc ≤ R.cells ∧ ms ≤ R.slots) {cells' slots' : Nat} (h1 : cells' ≤ mc) (h2 : slots' ≤ ms) : HCx p l e R s m args below meth c cells' slots' mc ms Q G A g0 w0 q cc own nL ret lv := by
  obtain ⟨a1, a2, a3, a4, a5, a6, a7, a8, a9, b1, b2, b3, b4, b5, b6⟩ := C
  exact ⟨a1, a2, a3, a4, a5, a6, a7, a8, a9, b1, b2, b3, ⟨Nat.le_trans h1 hR.1, Nat.le_trans h2 hR.2⟩, ⟨h1, h2⟩, b6⟩
theorem wpm_sound (C : HCx p l e R s m args below meth c cells slots mc ms Q G A g0 w0 q cc own nL ret lv) (hnm : meth.name = nm) (hAO : AO4 s) (hR : mc ≤ R.cells ∧ ms ≤ R.slots) (hins : HOMs cc own nL ret lv nm t) {B : Nat → Option HKp} (hB : ∀ pc P, B pc = some P → ∀ cells' slots', cells' ≤ mc → slots' ≤ ms → ∀ ls st w σ, P ls st w σ → Wat p l e R s m args below meth c cells' slots' Q G A g0 w0 nL pc ls st w σ) : ∀ (n b d cells slots : Nat), cells + b ≤ mc → slots + d ≤ ms → ∀ (pc : Nat) (ls : HLs) (st : List HV) (w : HW) (σ : HS), wpm t B q n b d pc ls st w σ → Wat p l e R s m args below meth c cells slots Q G A g0 w0 nL pc ls st w σ := by
  intro n
  induction n with
  | zero => intro b d cells slots _ _ pc ls st w σ h; exact h.elim
  | succ n ih =>
    intro b d cells slots hb hd pc ls st w σ h
    have h1 : (match B pc with | some P => P ls st w σ | none => bif Nat.ble (t pc).1.1 b && Nat.ble (t pc).1.2 d then (t pc).2 (wpm t B q n (b - (t pc).1.1) (d - (t pc).1.2)) q ls st w σ else False) := h
    cases hB2 : B pc with
    | some P => rw [hB2] at h1; exact hB pc P hB2 cells slots (by omega) (by omega) ls st w σ h1
    | none =>
      rw [hB2] at h1
      obtain ⟨h2, h3⟩ := bif_s h1
      rw [Bool.and_eq_true] at h2
      have h4 := Nat.le_of_ble_eq_true h2.1
      have h5 := Nat.le_of_ble_eq_true h2.2
      exact hins pc p l e R s m args below meth c cells slots mc ms Q G A g0 w0 q (C.re hR (by omega) (by omega)) hnm hAO hR ⟨by omega, by omega⟩ (wpm t B q n (b - (t pc).1.1) (d - (t pc).1.2)) (fun pc' ls st w σ h6 => ih _ _ _ _ (by omega) (by omega) pc' ls st w σ h6) ls st w σ h3
end SoundM
/-- what stands at a cut of a maker, for all that may be around it -/
def HBK (cc : ByteArray) (own : String) (nL : Nat) (ret : Option FieldType) (lv : Nat) (pc : Nat) (P : HRt → HKp) : Prop := ∀ (p : Program) (l : Launch) (e : Env) (R : Room) (s : State) (m : MethodId) (args : Array Value) (below : List Frame) (meth : Method) (c : Code) (cells slots mc ms : Nat) (Q : State → Prop) (G : HG) (A : Nat → Prop) (g0 : HA) (w0 : HW) (q : HRt), HCx p l e R s m args below meth c cells slots mc ms Q G A g0 w0 q cc own nL ret lv → ∀ ls st w σ, P q ls st w σ → Wat p l e R s m args below meth c cells slots Q G A g0 w0 nL pc ls st w σ
theorem ctr_ofM {y : MethodName} {bytes : ByteArray} {maxL lv n mc ms F : Nat} {ret : Option FieldType} {t : HTb} {B : Nat → Option (HRt → HKp)} {own : String} (hy : plainName y.cls = true) (ho : y.cls = own) (hn : n ≤ maxL) (hins : HOMs bytes own maxL ret lv y.name t) (hB : ∀ pc P, B pc = some P → HBK bytes own maxL ret lv pc P) : CtrM y bytes maxL ret lv mc ms n (fun as w σ K => wpm t (fun pc => (B pc).map (fun P => P K)) K F mc ms 0 (loc0 maxL as) [] w σ) := by
  intro l G A g as w σ K hsp hlv hc1 hlen
  subst ho
  refine Met.ofW (cc := bytes) (maxL := maxL) (ret := ret) hy rfl ?_
  intro p e s m args below meth c s₁ BB hml hv
  obtain ⟨rfl, hP, hAO⟩ := hv
  obtain ⟨h1, h2, h3, h4, h5, h6⟩ := hP
  have hts : ∀ x ∈ TT, x.before (as.map (toV g)).toArray s = true := TTw (State.WarmedH.refl s) h1
  have C : HCx p l e (headSpec [Cond.code y bytes maxL ret] (rmL lv mc ms)).room s m (as.map (toV g)).toArray below meth c 0 0 mc ms (MQ below (QQ G A g w K) (as.map (toV g)).toArray s mc ms A) G A g w K bytes y.cls maxL ret lv :=
    ⟨BB.exec, BB.bytes, hml, findClass_of_methodNamed BB.named, hts, h2, BB.returns, BB.notSynchronized, h3, h4, h6, ⟨Nat.le_refl _, Nat.le_refl _⟩, ⟨Nat.zero_le _, Nat.zero_le _⟩, ⟨Nat.zero_le _, Nat.zero_le _⟩, fun _ _ _ _ => rfl⟩
  have hRR : mc ≤ (headSpec [Cond.code y bytes maxL ret] (rmL lv mc ms)).room.cells ∧ ms ≤ (headSpec [Cond.code y bytes maxL ret] (rmL lv mc ms)).room.slots := ⟨Nat.le_refl _, Nat.le_refl _⟩
  have hW := wpm_sound C (name_of_methodNamed BB.named BB.method).1 hAO hRR hins (B := fun pc => (B pc).map (fun P => P K)) (fun pc P hp cells' slots' hc hs ls st w σ hP => by
    cases hb : B pc with
    | none => rw [hb] at hp; cases hp
    | some P0 =>
      rw [hb] at hp
      cases hp
      exact hB pc P0 hb p l e _ s m _ below meth c cells' slots' mc ms _ G A g _ K (C.re hRR hc hs) ls st w σ hP) F mc ms 0 0 (by omega) (by omega) 0 _ [] w σ hsp g s.heap []
  have hc2 : ∀ v ∈ as.map (toV g), v.category = 1 := fun v hv => by
    obtain ⟨u, hu, rfl⟩ := List.mem_map.mp hv
    exact cat_c1 (List.all_eq_true.mp hc1 u hu)
  have hle : (lg_sl (as.map (toV g))).length ≤ maxL := by rw [sl_len hc2, List.length_map, hlen]; exact hn
  rw [lg_entry_eq]
  refine hW _ GE.rf h5 va_S.rf ⟨?_, fun j v hj => ?_⟩ (fun _ h => absurd h List.not_mem_nil)
  · have h9 := lv_entry (as.map (toV g)) (n := maxL) hle
    unfold loc0
    rw [asl_args hc1]
    exact h9
  · have h9 := lkp_args hj
    exact ⟨hlv v h9, cat_c1 (List.all_eq_true.mp hc1 v h9)⟩
theorem mnd {cc : ByteArray} {own : String} {nL : Nat} {ret : Option FieldType} {lv pc n : Nat} {nm : String} {x y : (Nat × Nat) × HOp} (h1 : HOM cc own nL ret lv nm pc x.1.1 x.1.2 x.2) (h2 : HOM cc own nL ret lv nm pc y.1.1 y.1.2 y.2) : HOM cc own nL ret lv nm pc (cond (Nat.blt pc n) x y).1.1 (cond (Nat.blt pc n) x y).1.2 (cond (Nat.blt pc n) x y).2 := by
  cases Nat.blt pc n
  · exact h2
  · exact h1
theorem mlf {cc : ByteArray} {own : String} {nL : Nat} {ret : Option FieldType} {lv pc n : Nat} {nm : String} {a b : Nat} {x : HOp} (h1 : HOM cc own nL ret lv nm n a b x) : HOM cc own nL ret lv nm pc (cond (Nat.beq pc n) ((a, b), x) ((0, 0), o_bad)).1.1 (cond (Nat.beq pc n) ((a, b), x) ((0, 0), o_bad)).1.2 (cond (Nat.beq pc n) ((a, b), x) ((0, 0), o_bad)).2 := by
  cases hb : Nat.beq pc n with
  | false => exact hom_of ok_bad
  | true =>
    have e := Nat.eq_of_beq_eq_true hb
    subst e
    exact h1
/-- another word for a contract -/
theorem CtrM.of {y : MethodName} {bytes : ByteArray} {maxL : Nat} {ret : Option FieldType} {lv mc ms n : Nat} {sp sp' : HSp} (h : CtrM y bytes maxL ret lv mc ms n sp) (hs : ∀ as w σ K, as.length = n → sp' as w σ K → sp as w σ K) : CtrM y bytes maxL ret lv mc ms n sp' := fun l G A g as w σ K h1 h2 h3 h4 => h l G A g as w σ K (hs as w σ K h4 h1) h2 h3 h4
