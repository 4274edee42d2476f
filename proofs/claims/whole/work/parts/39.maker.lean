/-! OUR FRAME, 7: makers. Steps that make and fill, calls of makers, their conditions and contracts -/
def PreM (G : HG) (A : Nat → Prop) (g : HA) (w : HW) (σ : HS) (U : State) : Prop := PreC G A g w σ U ∧ AO4 U
def CtrM (y : MethodName) (bytes : ByteArray) (maxL : Nat) (ret : Option FieldType) (lv mc ms n : Nat) (sp : HSp) : Prop :=
  ∀ (l : Launch) (G : HG) (A : Nat → Prop) (g : HA) (as : List HV) (w : HW) (σ : HS) (K : HRt), sp as w σ K → (∀ v ∈ as, VLv w v) → as.all c1b = true → as.length = n → Met l y [.code y bytes maxL ret] (rmL lv mc ms) (va_Pc (as.map (toV g)) (PreM G A g w σ)) (QQ G A g w K) mc ms A
theorem PreM.calling {G : HG} {A : Nat → Prop} {g : HA} {w : HW} {σ : HS} {U : State} {gf : JFrame} {mk : MethodId} {a : Array Value} (h : PreM G A g w σ U) : PreM G A g w σ (U.calling gf mk a) := ⟨h.1.calling, AO4.moved (u := U) (Vm.Alike.refl U.vm) h.2⟩
theorem pm_blind {G : HG} {A : Nat → Prop} {g : HA} {w : HW} {σ : HS} {vs : List Value} : FrameBlind (va_Pc vs (PreM G A g w σ)) := fun _ _ _ _ q => ⟨q.1, q.2.calling⟩
def HOM (cc : ByteArray) (own : String) (nL : Nat) (ret : Option FieldType) (lv : Nat) (nm : String) (pc dc ds : Nat) (op : HOp) : Prop :=
  ∀ (p : Program) (l : Launch) (e : Env) (R : Room) (s : State) (m : MethodId) (args : Array Value) (below : List Frame) (meth : Method) (c : Code) (cells slots mc ms : Nat) (Q : State → Prop) (G : HG) (A : Nat → Prop) (g0 : HA) (w0 : HW) (q : HRt),
    HCx p l e R s m args below meth c cells slots mc ms Q G A g0 w0 q cc own nL ret lv → meth.name = nm → AO4 s → (mc ≤ R.cells ∧ ms ≤ R.slots) → (cells + dc ≤ mc ∧ slots + ds ≤ ms) →
    ∀ k : HK, (∀ pc' ls st w σ, k pc' ls st w σ → Wat p l e R s m args below meth c (cells + dc) (slots + ds) Q G A g0 w0 nL pc' ls st w σ) → ∀ ls st w σ, op k q ls st w σ → Wat p l e R s m args below meth c cells slots Q G A g0 w0 nL pc ls st w σ
theorem hom_of {cc : ByteArray} {own : String} {nL : Nat} {ret : Option FieldType} {lv : Nat} {nm : String} {pc : Nat} {op : HOp} (h : HOK cc own nL ret lv pc op) : HOM cc own nL ret lv nm pc 0 0 op := fun p l e R s m args below meth c cells slots mc ms Q G A g0 w0 q C _ _ _ _ k hk => h p l e R s m args below meth c cells slots mc ms Q G A g0 w0 q C k hk
/-! a row of references -/
section HY
variable {p : Program} {l : Launch} {e : Env} {R : Room} {s : State} {m : MethodId} {args : Array Value} {below : List Frame} {meth : Method} {c : Code} {H : Heap} {locs : List Loc} {cells slots : Nat} {Q : State → Prop}
variable {pc : Nat} {ls : Array Slot} {rest : List Value} {D : va_G} {cl : List vw_C} {a ci t v n : Nat} {tys : List (ClassId × FieldType)} {cA : ClassId} {r : vw_C} {f : Nat → Option Nat}
theorem qrow_of (hK : va_K D cl tys s) (hc : cl[ci]? = some r) (ht : tys[t]? = some (cA, .object r.1)) : ∃ kA : Class, s.vm.classes[cA]? = some kA ∧ kA.kind = .array (D.1 ci) (.object r.1) := by
  obtain ⟨kA, x, y1, y2, y3, -⟩ := (hK.2 t _ ht).2
  rw [(hK.1 ci r hc).2.1] at y3
  cases y3
  exact ⟨kA, y1, y2⟩
theorem qrow_wr {j : Nat} {H1 : Heap} (h : H1[a]? = some ((vp_cell cA (n, .inr (.inr (.inr (.inr f))))).setSlot j (.ref v))) : va_at D cl (a, .inl (cA, n, .inr (.inr (.inr (.inr (va_up f j (some v))))))) H1 := by
  have hf : updV (fun i => va_rf (f i)) j (.ref v) = fun i => va_rf (va_up f j (some v) i) := funext fun i => (apply_ite va_rf (i = j) (some v) (f i)).symm
  rw [vp_cell_q, arrV_store, hf] at h
  exact h
theorem hx_astq (hx : p.tables.exec = Jvm.exec) (hK : va_K D cl tys s) (hc : cl[ci]? = some r) (ht : tys[t]? = some (cA, .object r.1)) {vs : List Value} (hat : va_at D cl (a, .inl (cA, n, .inr (.inr (.inr (.inr f))))) H) (hv : va_at D cl (v, .inr (ci, vs)) H) {i : Int32} (hi : vp_in i n) (hd : decode c.code pc = .ok (.aastore, 1))
    (go : Onto p l e R s m args below meth c H locs cells slots Q a (F0 m (pc + 1) ls rest) fun H1 => va_at D cl (a, .inl (cA, n, .inr (.inr (.inr (.inr (va_up f i.toNatClampNeg (some v))))))) H1) : W p l e R s m args below meth c H locs cells slots Q (F0 m pc ls (.ref v :: .int i :: .ref a :: rest)) := by
  obtain ⟨kA, y1, y2⟩ := qrow_of hK hc ht
  obtain ⟨-, -, ⟨cls, slts, vm⟩, x1, x2, x3, -⟩ := hv
  cases x2
  cases x3
  have hC : ClassAt s r.1 (D.1 ci) := (hK.1 ci r hc).2
  obtain ⟨-, kC, z1, -⟩ := id hC
  have hsz : ¬ i < 0 ∧ i.toNatClampNeg < (vp_cell cA (n, .inr (.inr (.inr (.inr f))))).slots.size := by
    rw [vp_cell_q, arrV_size]
    exact ⟨fun z => hi (.inl z), Nat.lt_of_not_le fun z => hi (.inr z)⟩
  exact W.aast hx rfl hat nofun nofun y1 y2 rfl z1 hsz x1 nofun z1 (va_assign hC) rfl rfl hd fun H1 z => go H1 _ (qrow_wr z)
end HY
theorem vaS_new {A : Nat → Prop} {H0 H H1 : Heap} {locs : List Loc} (hS : va_S A H0 H locs) (z : H1.size = H.size + 1) (o1 : ∀ q : Nat, q < H.size → H1[q]? = H[q]?) : va_S A H0 H1 locs := List.append_nil locs ▸ vaS_on hS (Nat.le_of_lt (z ▸ Nat.lt_succ_self _)) (fun q hq _ => o1 q hq) nofun
theorem push_at (H : Heap) (x : Cell) : (H.push x).size = H.size + 1 ∧ (H.push x)[H.size]? = some x ∧ ∀ q : Nat, q < H.size → (H.push x)[q]? = H[q]? :=
  ⟨Array.size_push .., Array.getElem?_push_size .., fun q hq => by simp [Array.getElem?_push, Nat.ne_of_lt hq]⟩
/-- a new cell: what the world then is -/
theorem RepS.push {G : HG} {A : Nat → Prop} {g : HA} {w w' : HW} {σ : HS} {H H1 : Heap} (hR : RepS G A g w σ H) {k : Nat} (hk : k < 42) (hc : w'.1 = up1 w.1 k) (h2 : ∀ k', k' ≠ k → w'.2 k' = w.2 k') (h3 : Nat.ble 30 k = true → w'.2 k 99 = some (w.1 k)) (h4 : Nat.ble 30 k = false → isRA k = true → w.1 k = 0) (h5 : Nat.ble 30 k = false → isRA k = false → w'.2 k = w.2 k) (hW : Wf w') (o1 : ∀ q : Nat, q < H.size → H1[q]? = H[q]?) (hA : A H.size)
    (hn : va_at G.1 vwCl (H.size, ent G (upG g k (w.1 k) H.size) w' (zr σ k (w.1 k)) k (w.1 k)) H1) : RepS G A (upG g k (w.1 k) H.size) w' (zr σ k (w.1 k)) H1 := by
  refine hR.grow k (w.1 k) (upG_ge hc) (fun k' i' hk' hi' hl' hnn => ?_) (by rw [upG_v]; exact ⟨hn, hA⟩) (up1_str hk hc hR.2.2.1.2) (upG_s hk) hW
  have hlt : i' < w.1 k' := by
    rw [hc] at hi'
    by_cases e : k' = k
    · subst e
      rw [up1_v] at hi'
      have : i' ≠ w.1 k' := fun q => hnn ⟨rfl, q⟩
      omega
    · rwa [up1_ne e] at hi'
  have h6 : w'.2 k' = w.2 k' := by
    by_cases e : k' = k
    · subst e
      cases hb : Nat.ble 30 k' with
      | true =>
        have := (hl' hb).symm.trans (h3 hb)
        have := Option.some.inj this
        omega
      | false =>
        cases hr : isRA k' with
        | true => have := h4 hb hr; omega
        | false => exact h5 hb hr
    · exact h2 k' e
  have hl : lvd w k' i' := fun z => by rw [← h6]; exact hl' z
  have h7 := (hR.1 k' i' hk' hlt hl).1.lt
  refine ⟨hlt, hl, h6, zr_ne hnn, o1 _ h7, fun q => ?_⟩
  rw [upG_v] at q
  simp only at h7
  omega
theorem ge_st {g g' : HA} {w w' : HW} {st : List HV} (h : GE g w g' w') (hst : ∀ v ∈ st, VLv w v) {v : HV} (hv : VLv w' v) : st.map (toV g) = st.map (toV g') ∧ ∀ u ∈ v :: st, VLv w' u := by
  obtain ⟨h1, h2⟩ := map_ge h hst
  exact ⟨h1.symm, cons1 hv h2⟩
def dfk (kd : Nat) (ty : Nat → FieldType) (N : Nat) : Bool := (List.range N).all fun j => match frk kd j, ty j with
  | some _, .object _ => true
  | some _, .array _ => true
  | none, .int => true
  | none, .boolean => true
  | _, _ => false
theorem dfk_at {kd N : Nat} {ty : Nat → FieldType} (h : dfk kd ty N = true) {j : Nat} (hj : j < N) : defaultValue (ty j) = (match frk kd j with | some _ => Value.null | none => Value.int 0) := by
  have h1 := List.all_eq_true.mp h j (List.mem_range.mpr hj)
  revert h1
  cases frk kd j <;> cases ty j <;> intro h1 <;> first | rfl | (exact absurd h1 (by decide)) | (exact absurd h1 Bool.false_ne_true)
def o_new (kd nx : Nat) : HOp := fun k _ ls st w σ => k nx ls (HR (30 + kd) (w.1 (30 + kd)) :: st) (wRaw w kd) (zr σ (30 + kd) (w.1 (30 + kd)))
theorem ok_new {cc : ByteArray} {own : String} {nL : Nat} {ret : Option FieldType} {lv pc : Nat} {nm : String} {ix kd nx N : Nat} {C : String} {T : u_T} {ty : Nat → FieldType} (hd : decode cc pc = .ok (.new ix, 3)) (hc : vwCl[kd]? = some (C, T, N)) (hN : nfr kd = N) (h12 : kd < 12) (hin : ∀ w ∈ u_ws C T N, w ∈ TT) (hty : ∀ k, k < N → parseFieldDescriptor (T k).2.2.1 = some (ty k)) (hdf : dfk kd ty N = true) (hw1 : Cond.classLink own ix C ∈ TT) (hw2 : Cond.instantiable C N ∈ TT) (hw3 : Cond.initialized C ∈ TT) (hn : pc + 3 = nx) : HOM cc own nL ret lv nm pc 1 N (o_new kd nx) := by
  intro p l e R s m args below meth c cells slots mc ms Q G A g0 w0 q C hnm hAO hmr hcd k hk ls st w σ ho
  obtain ⟨hx, hb, hml, hown, hts, hK, hr, hlk, hZ, hSR, hA, hlv, hcs, hcm, hQ⟩ := C
  subst hn
  intro g H locs la hge hR hS hL hst
  have hbr : Nat.ble 30 (30 + kd) = true := ble30 (by omega)
  have hGE : GE g w (upG g (30 + kd) (w.1 (30 + kd)) H.size) (wRaw w kd) := upG_ge rfl
  have hfs : ∀ j, j < N → defaultValue (ty j) = vp_V ((List.range (nfd (30 + kd))).map fun f => toV (upG g (30 + kd) (w.1 (30 + kd)) H.size) (fld (wRaw w kd) (zr σ (30 + kd) (w.1 (30 + kd))) (30 + kd) (w.1 (30 + kd)) f)) j := fun j hj => by
    have e1 : nfd (30 + kd) = N := by rw [nfd_raw hbr, Nat.add_sub_cancel_left]; exact hN
    rw [dfk_at hdf hj, e1]
    have e2 : ((List.range N).map fun f => toV (upG g (30 + kd) (w.1 (30 + kd)) H.size) (fld (wRaw w kd) (zr σ (30 + kd) (w.1 (30 + kd))) (30 + kd) (w.1 (30 + kd)) f))[j]? = some (toV (upG g (30 + kd) (w.1 (30 + kd)) H.size) (fld (wRaw w kd) (zr σ (30 + kd) (w.1 (30 + kd))) (30 + kd) (w.1 (30 + kd)) j)) := by simp [hj]
    unfold vp_V
    rw [List.getD_eq_getElem?_getD, e2, Option.getD_some]
    have e3 : fld (wRaw w kd) (zr σ (30 + kd) (w.1 (30 + kd))) (30 + kd) (w.1 (30 + kd)) j = (match frk kd j with | some t => HO t none | none => HI 0) := by
      unfold fld
      rw [fr_raw hbr, Nat.add_sub_cancel_left]
      cases hf : frk kd j with
      | none => exact congrArg Sum.inl (if_pos ⟨rfl, rfl⟩)
      | some t =>
        have h99 : j ≠ 99 := fun z => by rw [z, frk99] at hf; cases hf
        have : (wRaw w kd).2 (30 + kd) j = none := by
          show (if 30 + kd = 30 + kd then (if j = 99 then _ else none) else _) = none
          rw [if_pos rfl, if_neg h99]
        simp only [this]
    rw [e3]
    cases frk kd j <;> rfl
  refine W.newcK hx hb hown (hts _ hw1) (hts _ hw2) (hts _ hw3) rfl hd (Nat.le_trans hcd.1 hmr.1) (Nat.le_trans hcd.2 hmr.2) (hK.1 kd _ hc).2.1 rfl fun H1 kC hkC hbl hz oq => ?_
  have h1 : va_at G.1 vwCl (H.size, .inr (kd, _)) H1 := ⟨_, hc, (u_born ty hts hin (hK.1 kd _ hc) hkC hbl hty).to hfs⟩
  have hnew : va_at G.1 vwCl (H.size, ent G (upG g (30 + kd) (w.1 (30 + kd)) H.size) (wRaw w kd) (zr σ (30 + kd) (w.1 (30 + kd))) (30 + kd) (w.1 (30 + kd))) H1 := by
    rw [ent_raw hbr, Nat.add_sub_cancel_left]
    exact h1
  have hR' := hR.push (k := 30 + kd) (w' := wRaw w kd) (by omega) rfl (fun k' e => by funext b; exact if_neg e) (fun _ => by show (if 30 + kd = 30 + kd then (if 99 = 99 then _ else _) else _) = _; rw [if_pos rfl, if_pos rfl]) (fun z => by rw [hbr] at z; cases z) (fun z => by rw [hbr] at z; cases z) (hR.2.2.2.raw h12) oq (hA _ hS.1) hnew
  obtain ⟨e1, h2⟩ := ge_st hGE hst (v := HR (30 + kd) (w.1 (30 + kd))) (by show w.1 (30 + kd) < up1 w.1 (30 + kd) (30 + kd); rw [up1_v]; omega)
  have h3 := hk _ _ _ _ _ ho _ H1 locs la (hge.tr hGE) hR' (vaS_new hS hz oq) (hL.ge hGE) h2
  rw [e1]
  rw [List.map_cons] at h3
  have e4 : toV (upG g (30 + kd) (w.1 (30 + kd)) H.size) (HR (30 + kd) (w.1 (30 + kd))) = .ref H.size := congrArg Value.ref upG_v
  rw [e4] at h3
  exact h3
def o_newa (kk n nx : Nat) : HOp := fun k _ ls st w σ => popI st fun x r => x = nI n ∧ al kk (w.1 kk) = n ∧ k nx ls (HR kk (w.1 kk) :: r) (wRow w kk) (zr σ kk (w.1 kk))
theorem ok_newa {cc : ByteArray} {own : String} {nL : Nat} {ret : Option FieldType} {lv pc : Nat} {nm : String} {at_ : ArrayType} {kk n nx : Nat} {ty : FieldType} (hd : decode cc pc = .ok (.newarray at_, 2)) (h4 : kk = 12 ∨ kk = 13 ∨ kk = 20 ∨ kk = 21) (hty : newarray.typeOf at_ = ty) (htt : ∀ G : HG, (tysG G)[ac kk]? = some (G.2.1 (ac kk), ty)) (hra : ∀ (s : State) (cA : ClassId), va_RA s cA ty → s.vm.findClass ("[" ++ ty.toString) = some cA) (hdv : defaultValue ty = .int 0) (hw : Cond.arrayClass ty ∈ TT) (hn31 : n < 2 ^ 31) (hby : n * componentBytes ty ≤ 536870912) (hn : pc + 2 = nx) : HOM cc own nL ret lv nm pc 1 n (o_newa kk n nx) := by
  intro p l e R s m args below meth c cells slots mc ms Q G A g0 w0 q C hnm hAO hmr hcd k hk ls st w σ ho
  obtain ⟨hx, hb, hml, hown, hts, hK, hr, hlk, hZ, hSR, hA, hlv, hcs, hcm, hQ⟩ := C
  subst hn
  subst hty
  intro g H locs la hge hR hS hL hst
  obtain ⟨x, r, rfl, rfl, hal, ho1⟩ := popI_s ho
  have hbr : Nat.ble 30 kk = false := ble30n (by omega)
  have hb12 : Nat.blt kk 12 = false := by rcases h4 with rfl | rfl | rfl | rfl <;> rfl
  have hisr : isRA kk = false := by rcases h4 with rfl | rfl | rfl | rfl <;> rfl
  have hGE : GE g w (upG g kk (w.1 kk) H.size) (wRow w kk) := upG_ge rfl
  refine va_newaK hx hb (hts _ hw) (g := F0 m pc la _) rfl hd rfl (n := nI n) (N := n) (nI_pos (by omega)) (nI_clamp hn31) hby (Nat.le_trans hcd.1 hmr.1) (Nat.le_trans hcd.2 hmr.2) rfl fun H1 cA h1 hz oq hAr hNm => ?_
  have ecA : cA = G.2.1 (ac kk) := Option.some.inj (hNm.symm.trans (hra s _ (hK.2 _ _ (htt G)).2))
  have hnew : va_at G.1 vwCl (H.size, ent G (upG g kk (w.1 kk) H.size) (wRow w kk) (zr σ kk (w.1 kk)) kk (w.1 kk)) H1 := by
    rw [ent_row hb12 hisr hbr, hal]
    show H1[H.size]? = some (vp_cell _ _)
    rw [h1, vp_cell_i, ecA, hdv]
    congr 2
    funext j
    exact congrArg Value.int (if_pos ⟨rfl, rfl⟩).symm
  have hR' := hR.push (k := kk) (w' := wRow w kk) (by omega) rfl (fun k' e => rfl) (fun z => by rw [hbr] at z; cases z) (fun _ z => by rw [hisr] at z; cases z) (fun _ _ => rfl) (hR.2.2.2.row h4) oq (hA _ hS.1) hnew
  obtain ⟨e1, h2⟩ := ge_st hGE (tail1 hst) (v := HR kk (w.1 kk)) (by show w.1 kk < up1 w.1 kk kk; rw [up1_v]; omega)
  have h3 := hk _ _ _ _ _ ho1 _ H1 locs la (hge.tr hGE) hR' (vaS_new hS hz oq) (hL.ge hGE) h2
  rw [List.map_cons, ← e1] at h3
  have e4 : toV (upG g kk (w.1 kk) H.size) (HR kk (w.1 kk)) = .ref H.size := congrArg Value.ref upG_v
  rw [e4] at h3
  exact h3
def o_newq (kk n nx : Nat) : HOp := fun k _ ls st w σ => popI st fun x r => x = nI n ∧ w.1 kk = 0 ∧ k nx ls (HR kk 0 :: r) (wRef w kk) (zr σ kk 0)
theorem ok_newq {cc : ByteArray} {own : String} {nL : Nat} {ret : Option FieldType} {lv pc : Nat} {nm : String} {kk n nx ix : Nat} {C : String} (hd : decode cc pc = .ok (.anewarray ix, 3)) (hrr : isRA kk = true) (htt : ∀ G : HG, (tysG G)[ac kk]? = some (G.2.1 (ac kk), .object C)) (hao : ∀ s, AO4 s → va_AO C s) (hal : al kk 0 = n) (hw : Cond.classLink own ix C ∈ TT) (hn31 : n < 2 ^ 31) (hby : n * 4 ≤ 536870912) (hn : pc + 3 = nx) : HOM cc own nL ret lv nm pc 1 n (o_newq kk n nx) := by
  intro p l e R s m args below meth c cells slots mc ms Q G A g0 w0 q C hnm hAO hmr hcd k hk ls st w σ ho
  obtain ⟨hx, hb, hml, hown, hts, hK, hr, hlk, hZ, hSR, hA, hlv, hcs, hcm, hQ⟩ := C
  subst hn
  intro g H locs la hge hR hS hL hst
  obtain ⟨x, r, rfl, rfl, h0, ho1⟩ := popI_s ho
  have hk4 := ra_lt hrr
  have hbr : Nat.ble 30 kk = false := ble30n (by omega)
  have hb12 : Nat.blt kk 12 = false := by rcases ra4 hrr with rfl | rfl | rfl | rfl <;> rfl
  have hGE : GE g w (upG g kk (w.1 kk) H.size) (wRef w kk) := upG_ge rfl
  refine W.anew hx hb hown (hts _ hw) (va_AO.use (hao s hAO)) (g := F0 m pc la _) rfl hd rfl (n := nI n) (nI_pos (by omega)) (by rw [nI_clamp hn31]; exact hby) (Nat.le_trans hcd.1 hmr.1) (by rw [nI_clamp hn31]; exact Nat.le_trans hcd.2 hmr.2) fun cA kA comp f1 f2 f3 f4 => ?_
  rw [nI_clamp hn31]
  obtain ⟨hz, h1, oq⟩ := push_at H { cls := cA, slots := Array.replicate n .null, vm := .none }
  generalize H.push _ = H1 at hz h1 oq ⊢
  rw [arrV_new] at h1
  obtain ⟨kA', comp', -, -, -, hNm⟩ := (hK.2 _ _ (htt G)).2
  have ecA : cA = G.2.1 (ac kk) := Option.some.inj (f1.symm.trans hNm)
  have hnew : va_at G.1 vwCl (H.size, ent G (upG g kk (w.1 kk) H.size) (wRef w kk) (zr σ kk (w.1 kk)) kk (w.1 kk)) H1 := by
    rw [ent_ref hb12 hrr, h0, hal]
    show H1[H.size]? = some (vp_cell _ _)
    rw [h1, vp_cell_q, ecA]
    congr 2
    funext j
    have : (wRef w kk).2 kk j = none := if_pos rfl
    rw [this]
    rfl
  have hR' := hR.push (k := kk) (w' := wRef w kk) (by omega) rfl (fun k' e => by funext b; exact if_neg e) (fun z => by rw [hbr] at z; cases z) (fun _ _ => h0) (fun _ z => by rw [hrr] at z; cases z) (hR.2.2.2.ref hrr h0) oq (hA _ hS.1) hnew
  obtain ⟨e1, h2⟩ := ge_st hGE (tail1 hst) (v := HR kk (w.1 kk)) (by show w.1 kk < up1 w.1 kk kk; rw [up1_v]; omega)
  rw [h0] at hR' hGE e1 h2
  have h3 := hk _ _ _ _ _ ho1 _ H1 locs la (hge.tr hGE) hR' (vaS_new hS hz oq) (hL.ge hGE) h2
  rw [List.map_cons, ← e1] at h3
  have e4 : toV (upG g kk 0 H.size) (HR kk 0) = .ref H.size := congrArg Value.ref upG_v
  rw [e4] at h3
  exact h3
/-- Object's maker -/
def o_obj (nx : Nat) : HOp := fun k _ ls st w σ => bif Nat.ble st.length 4 then popR st (fun _ _ r => k nx ls r w σ) else False
theorem ok_obj {cc : ByteArray} {own : String} {nL : Nat} {ret : Option FieldType} {lv pc : Nat} {ix nx : Nat} (hd : decode cc pc = .ok (.invokespecial ix, 3)) (h1 : Cond.methodLink own ix Lib.objectInit ∈ TT) (h2 : Cond.instanceMethod Lib.objectInit ∈ TT) (h3 : Cond.code Lib.objectInit ⟨#[0xb1]⟩ 1 none ∈ TT) (hl : 1 ≤ lv) (hn : pc + 3 = nx) : HOK cc own nL ret lv pc (o_obj nx) := by
  intro p l e R s m args below meth c cells slots mc ms Q G A g0 w0 q C k hk ls st w σ ho
  obtain ⟨hx, hb, hml, hown, hts, hK, hr, hlk, hZ, hSR, hA, hlv, hcs, hcm, hQ⟩ := C
  subst hn
  intro g H locs la hge hR hS hL hst
  obtain ⟨h9, ho0⟩ := bif_s ho
  obtain ⟨kk, i, r, rfl, ho1⟩ := popR_s ho0
  have h8 := Nat.le_of_ble_eq_true h9
  refine W.objInit hx hb hown (hts _ h1) (hts _ h2) (hts _ h3) (g := F0 m pc la _) rfl (hL.1.1.trans hml.symm) rfl hd (by omega) ?_ (hk _ _ _ _ _ ho1 g H locs la hge hR hS hL (tail1 hst))
  have := cat_sum (st := r.map (toV g))
  rw [List.length_map] at this
  simp only [List.length_cons] at h8
  show 2 * 0 + ((r.map (toV g)).map fun v => v.category).sum + 12 ≤ R.locals
  omega
