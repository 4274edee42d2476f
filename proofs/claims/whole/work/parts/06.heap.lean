/-! OUR FRAME, 4: fields, rows, returns -/
theorem fld_lv {w : HW} {σ : HS} {k i f : Nat} (hW : Wf w) (hi : i < w.1 k) : VLv w (fld w σ k i f) := by
  unfold fld
  cases h : fr w k i f with
  | none => exact trivial
  | some r =>
    obtain ⟨kk, o⟩ := r
    cases o with
    | none => exact trivial
    | some o => exact hW.1 k i f kk o hi h
theorem fld_at {g : HA} {w : HW} {σ : HS} {k i f N : Nat} (hN : nfd k = N) (hf : f < N) : ((List.range (nfd k)).map fun f => toV g (fld w σ k i f))[f]? = some (toV g (fld w σ k i f)) := by
  simp [hN, hf]
theorem tail1 {w : HW} {a : HV} {r : List HV} (h : ∀ v ∈ a :: r, VLv w v) : ∀ v ∈ r, VLv w v := fun v hv => h v (List.mem_cons_of_mem _ hv)
theorem cons1 {w : HW} {a : HV} {r : List HV} (ha : VLv w a) (h : ∀ v ∈ r, VLv w v) : ∀ v ∈ a :: r, VLv w v := fun v hv => (List.mem_cons.mp hv).elim (fun e => e ▸ ha) (h v)
theorem b12 {k : Nat} (h : Nat.blt k 12 = true) : k < 12 := by
  rw [Nat.blt_eq] at h
  exact h
theorem ok_getf {cc : ByteArray} {own : String} {nL : Nat} {ret : Option FieldType} {lv pc : Nat} {ix kd f nx N : Nat} {C : String} {T : u_T} (hd : decode cc pc = .ok (.getfield ix, 3)) (hc : vwCl[kd]? = some (C, T, N)) (hN : nfd kd = N) (hf : f < N) (h12 : Nat.blt kd 12 = true) (hin : ∀ w ∈ u_ws C T N, w ∈ TT) (hw : Cond.fieldLink own ix (T f).1 (T f).2.1 (T f).2.2.1 ∈ TT) (hn : pc + 3 = nx) : HOK cc own nL ret lv pc (o_getf kd f nx) := by
  intro p l e R s m args below meth c cells slots mc ms Q G A g0 w0 q C k hk ls st w σ ho
  obtain ⟨hx, hb, hml, hown, hts, hK, hr, hlk, hZ, hSR, hA, hlv, hcs, hcm, hQ⟩ := C
  subst hn
  intro g H locs la hge hR hS hL hst
  obtain ⟨kk, i, r, rfl, ho1⟩ := popR_s ho
  obtain ⟨hkk, ho2⟩ := bif_s ho1
  have ek : kk = kd := Nat.eq_of_beq_eq_true hkk
  subst ek
  have hi : i < w.1 kk := hst _ List.mem_cons_self
  have h22 : kk < 22 := Nat.lt_trans (b12 h12) (by decide)
  have hat := (hR.at (k := kk) h22 hi).1
  rw [ent_obj h12] at hat
  exact va_get (D := G.1) (tys := tysG G) hx hb hts hin hown hK (va_one hat) 0 rfl hc f hf (hts _ hw) (fun _ h => h) (fld_at hN hf) hd (hk _ _ _ _ _ ho2 g H locs la hge hR hS hL (cons1 (fld_lv hR.2.2.2 hi) (tail1 hst)))
theorem ok_getfN {cc : ByteArray} {own : String} {nL : Nat} {ret : Option FieldType} {lv pc : Nat} {ix kd f nx N : Nat} {C host : String} {T : u_T} (hd : decode cc pc = .ok (.getfield ix, 3)) (hc : vwCl[kd]? = some (C, T, N)) (hN : nfd kd = N) (hf : f < N) (h12 : Nat.blt kd 12 = true) (hin : ∀ w ∈ u_ws C T N, w ∈ TT) (hw : Cond.fieldLinkNest own ix (T f).1 (T f).2.1 (T f).2.2.1 host ∈ TT) (hn : pc + 3 = nx) : HOK cc own nL ret lv pc (o_getf kd f nx) := by
  intro p l e R s m args below meth c cells slots mc ms Q G A g0 w0 q C k hk ls st w σ ho
  obtain ⟨hx, hb, hml, hown, hts, hK, hr, hlk, hZ, hSR, hA, hlv, hcs, hcm, hQ⟩ := C
  subst hn
  intro g H locs la hge hR hS hL hst
  obtain ⟨kk, i, r, rfl, ho1⟩ := popR_s ho
  obtain ⟨hkk, ho2⟩ := bif_s ho1
  have ek : kk = kd := Nat.eq_of_beq_eq_true hkk
  subst ek
  have hi : i < w.1 kk := hst _ List.mem_cons_self
  have h22 : kk < 22 := Nat.lt_trans (b12 h12) (by decide)
  have hat := (hR.at (k := kk) h22 hi).1
  rw [ent_obj h12] at hat
  exact va_getN (D := G.1) (tys := tysG G) hx hb hts hin hown hK (va_one hat) 0 rfl hc f hf (hts _ hw) (fun _ h => h) (fld_at hN hf) hd (hk _ _ _ _ _ ho2 g H locs la hge hR hS hL (cons1 (fld_lv hR.2.2.2 hi) (tail1 hst)))
theorem ok_getq {cc : ByteArray} {own : String} {nL : Nat} {ret : Option FieldType} {lv pc : Nat} {ix nx : Nat} (hd : decode cc pc = .ok (.getfield ix, 3)) (hw : Cond.fieldLink own ix (TX10 8).1 (TX10 8).2.1 (TX10 8).2.2.1 ∈ TT) (hn : pc + 3 = nx) : HOK cc own nL ret lv pc (o_getq 10 8 9 nx) := by
  intro p l e R s m args below meth c cells slots mc ms Q G A g0 w0 q C k hk ls st w σ ho
  obtain ⟨hx, hb, hml, hown, hts, hK, hr, hlk, hZ, hSR, hA, hlv, hcs, hcm, hQ⟩ := C
  subst hn
  intro g H locs la hge hR hS hL hst
  obtain ⟨kk, i, r, rfl, ho1⟩ := popR_s ho
  obtain ⟨hkk, ho2⟩ := bif_s ho1
  have ek : kk = 10 := Nat.eq_of_beq_eq_true hkk
  subst ek
  have hi : i < w.1 10 := hst _ List.mem_cons_self
  have hat := (hR.at (k := 10) (by decide) hi).1
  rw [ent_obj rfl] at hat
  exact va_get (D := G.1) (tys := tysG G) hx hb hts inX10 hown hK (va_one hat) 0 rfl rfl 8 (by decide) (hts _ hw) (fun _ h => h) (fld_at (f := 8) rfl (by decide)) hd (hk _ _ _ _ _ (ho2 _ rfl) g H locs la hge hR hS hL (cons1 (fld_lv (σ := σ) (f := 8) hR.2.2.2 hi) (tail1 hst)))
theorem nar_z {v : Int32} (h : v = 0 ∨ v = 1) : narrow .boolean (.int v) = .int v ∧ fits .boolean (.int v) = true := by
  rcases h with rfl | rfl <;> exact ⟨by decide, by decide⟩
theorem ok_putf {cc : ByteArray} {own : String} {nL : Nat} {ret : Option FieldType} {lv pc : Nat} {ix kd f nx N : Nat} {C : String} {T : u_T} {ty : Nat → FieldType} (hd : decode cc pc = .ok (.putfield ix, 3)) (hc : vwCl[kd]? = some (C, T, N)) (hN : nfd kd = N) (hf : f < N) (h12 : Nat.blt kd 12 = true) (hin : ∀ w ∈ u_ws C T N, w ∈ TT) (hty : ∀ k, k < N → parseFieldDescriptor (T k).2.2.1 = some (ty k)) (hnm : ∀ a, a < N → ∀ b, b < N → a ≠ b → (T a).2.1 ≠ (T b).2.1) (hfin : (T f).2.2.2 = false) (ht : parseFieldDescriptor (T f).2.2.1 = some .int) (hfr : ∀ w i, fr w kd i f = none) (hw : Cond.fieldLink own ix (T f).1 (T f).2.1 (T f).2.2.1 ∈ TT) (hn : pc + 3 = nx) : HOK cc own nL ret lv pc (o_putf kd f nx) := by
  intro p l e R s m args below meth c cells slots mc ms Q G A g0 w0 q C k hk ls st w σ ho
  obtain ⟨hx, hb, hml, hown, hts, hK, hr, hlk, hZ, hSR, hA, hlv, hcs, hcm, hQ⟩ := C
  subst hn
  intro g H locs la hge hR hS hL hst
  obtain ⟨v, r0, rfl, ho0⟩ := popI_s ho
  obtain ⟨kk, i, r, rfl, ho1⟩ := popR_s ho0
  obtain ⟨hkk, ho2⟩ := bif_s ho1
  have ek : kk = kd := Nat.eq_of_beq_eq_true hkk
  subst ek
  have hi : i < w.1 kk := tail1 hst _ List.mem_cons_self
  have h22 : kk < 22 := Nat.lt_trans (b12 h12) (by decide)
  have hat := (hR.at (k := kk) h22 hi).1
  rw [ent_obj h12] at hat
  exact hx_put hx (kls_of hc hK hts hin hty hnm) hown hat hf (hts _ hw) hfin ht ⟨vp_nar_int v, rfl⟩ (by simp [hN, hf]) (hb ▸ hd) fun H1 sl h1 hz oq =>
    hk _ _ _ _ _ ho2 g H1 _ la hge (hR.upd h22 hi (by rw [ent_obj h12, ← fld_put (hfr w i) (by rw [hN]; exact hf)]; exact h1) oq (fun k' i' h => up3_ne h)) (hS.put hz oq (hR.at (k := kk) h22 hi).2) hL (tail1 (tail1 hst))
theorem ok_putfN {cc : ByteArray} {own : String} {nL : Nat} {ret : Option FieldType} {lv pc : Nat} {ix kd f nx N : Nat} {C host : String} {T : u_T} {ty : Nat → FieldType} (hd : decode cc pc = .ok (.putfield ix, 3)) (hc : vwCl[kd]? = some (C, T, N)) (hN : nfd kd = N) (hf : f < N) (h12 : Nat.blt kd 12 = true) (hin : ∀ w ∈ u_ws C T N, w ∈ TT) (hty : ∀ k, k < N → parseFieldDescriptor (T k).2.2.1 = some (ty k)) (hnm : ∀ a, a < N → ∀ b, b < N → a ≠ b → (T a).2.1 ≠ (T b).2.1) (hfin : (T f).2.2.2 = false) (ht : parseFieldDescriptor (T f).2.2.1 = some .int) (hfr : ∀ w i, fr w kd i f = none) (hw : Cond.fieldLinkNest own ix (T f).1 (T f).2.1 (T f).2.2.1 host ∈ TT) (hn : pc + 3 = nx) : HOK cc own nL ret lv pc (o_putf kd f nx) := by
  intro p l e R s m args below meth c cells slots mc ms Q G A g0 w0 q C k hk ls st w σ ho
  obtain ⟨hx, hb, hml, hown, hts, hK, hr, hlk, hZ, hSR, hA, hlv, hcs, hcm, hQ⟩ := C
  subst hn
  intro g H locs la hge hR hS hL hst
  obtain ⟨v, r0, rfl, ho0⟩ := popI_s ho
  obtain ⟨kk, i, r, rfl, ho1⟩ := popR_s ho0
  obtain ⟨hkk, ho2⟩ := bif_s ho1
  have ek : kk = kd := Nat.eq_of_beq_eq_true hkk
  subst ek
  have hi : i < w.1 kk := tail1 hst _ List.mem_cons_self
  have h22 : kk < 22 := Nat.lt_trans (b12 h12) (by decide)
  have hat := (hR.at (k := kk) h22 hi).1
  rw [ent_obj h12] at hat
  exact hx_putN hx (kls_of hc hK hts hin hty hnm) hown hat hf (hts _ hw) hfin ht ⟨vp_nar_int v, rfl⟩ (by simp [hN, hf]) (hb ▸ hd) fun H1 sl h1 hz oq =>
    hk _ _ _ _ _ ho2 g H1 _ la hge (hR.upd h22 hi (by rw [ent_obj h12, ← fld_put (hfr w i) (by rw [hN]; exact hf)]; exact h1) oq (fun k' i' h => up3_ne h)) (hS.put hz oq (hR.at (k := kk) h22 hi).2) hL (tail1 (tail1 hst))
theorem ok_putz {cc : ByteArray} {own : String} {nL : Nat} {ret : Option FieldType} {lv pc : Nat} {ix kd f nx N : Nat} {C : String} {T : u_T} {ty : Nat → FieldType} (hd : decode cc pc = .ok (.putfield ix, 3)) (hc : vwCl[kd]? = some (C, T, N)) (hN : nfd kd = N) (hf : f < N) (h12 : Nat.blt kd 12 = true) (hin : ∀ w ∈ u_ws C T N, w ∈ TT) (hty : ∀ k, k < N → parseFieldDescriptor (T k).2.2.1 = some (ty k)) (hnm : ∀ a, a < N → ∀ b, b < N → a ≠ b → (T a).2.1 ≠ (T b).2.1) (hfin : (T f).2.2.2 = false) (ht : parseFieldDescriptor (T f).2.2.1 = some .boolean) (hfr : ∀ w i, fr w kd i f = none) (hw : Cond.fieldLink own ix (T f).1 (T f).2.1 (T f).2.2.1 ∈ TT) (hn : pc + 3 = nx) : HOK cc own nL ret lv pc (o_putz kd f nx) := by
  intro p l e R s m args below meth c cells slots mc ms Q G A g0 w0 q C k hk ls st w σ ho
  obtain ⟨hx, hb, hml, hown, hts, hK, hr, hlk, hZ, hSR, hA, hlv, hcs, hcm, hQ⟩ := C
  subst hn
  intro g H locs la hge hR hS hL hst
  obtain ⟨v, r0, rfl, ho0⟩ := popI_s ho
  obtain ⟨kk, i, r, rfl, ho1⟩ := popR_s ho0
  obtain ⟨hkk, hz1, ho2⟩ := bif_s ho1
  have ek : kk = kd := Nat.eq_of_beq_eq_true hkk
  subst ek
  have hi : i < w.1 kk := tail1 hst _ List.mem_cons_self
  have h22 : kk < 22 := Nat.lt_trans (b12 h12) (by decide)
  have hat := (hR.at (k := kk) h22 hi).1
  rw [ent_obj h12] at hat
  exact hx_put hx (kls_of hc hK hts hin hty hnm) hown hat hf (hts _ hw) hfin ht (nar_z hz1) (by simp [hN, hf]) (hb ▸ hd) fun H1 sl h1 hz oq =>
    hk _ _ _ _ _ ho2 g H1 _ la hge (hR.upd h22 hi (by rw [ent_obj h12, ← fld_put (hfr w i) (by rw [hN]; exact hf)]; exact h1) oq (fun k' i' h => up3_ne h)) (hS.put hz oq (hR.at (k := kk) h22 hi).2) hL (tail1 (tail1 hst))
theorem ok_putzN {cc : ByteArray} {own : String} {nL : Nat} {ret : Option FieldType} {lv pc : Nat} {ix kd f nx N : Nat} {C host : String} {T : u_T} {ty : Nat → FieldType} (hd : decode cc pc = .ok (.putfield ix, 3)) (hc : vwCl[kd]? = some (C, T, N)) (hN : nfd kd = N) (hf : f < N) (h12 : Nat.blt kd 12 = true) (hin : ∀ w ∈ u_ws C T N, w ∈ TT) (hty : ∀ k, k < N → parseFieldDescriptor (T k).2.2.1 = some (ty k)) (hnm : ∀ a, a < N → ∀ b, b < N → a ≠ b → (T a).2.1 ≠ (T b).2.1) (hfin : (T f).2.2.2 = false) (ht : parseFieldDescriptor (T f).2.2.1 = some .boolean) (hfr : ∀ w i, fr w kd i f = none) (hw : Cond.fieldLinkNest own ix (T f).1 (T f).2.1 (T f).2.2.1 host ∈ TT) (hn : pc + 3 = nx) : HOK cc own nL ret lv pc (o_putz kd f nx) := by
  intro p l e R s m args below meth c cells slots mc ms Q G A g0 w0 q C k hk ls st w σ ho
  obtain ⟨hx, hb, hml, hown, hts, hK, hr, hlk, hZ, hSR, hA, hlv, hcs, hcm, hQ⟩ := C
  subst hn
  intro g H locs la hge hR hS hL hst
  obtain ⟨v, r0, rfl, ho0⟩ := popI_s ho
  obtain ⟨kk, i, r, rfl, ho1⟩ := popR_s ho0
  obtain ⟨hkk, hz1, ho2⟩ := bif_s ho1
  have ek : kk = kd := Nat.eq_of_beq_eq_true hkk
  subst ek
  have hi : i < w.1 kk := tail1 hst _ List.mem_cons_self
  have h22 : kk < 22 := Nat.lt_trans (b12 h12) (by decide)
  have hat := (hR.at (k := kk) h22 hi).1
  rw [ent_obj h12] at hat
  exact hx_putN hx (kls_of hc hK hts hin hty hnm) hown hat hf (hts _ hw) hfin ht (nar_z hz1) (by simp [hN, hf]) (hb ▸ hd) fun H1 sl h1 hz oq =>
    hk _ _ _ _ _ ho2 g H1 _ la hge (hR.upd h22 hi (by rw [ent_obj h12, ← fld_put (hfr w i) (by rw [hN]; exact hf)]; exact h1) oq (fun k' i' h => up3_ne h)) (hS.put hz oq (hR.at (k := kk) h22 hi).2) hL (tail1 (tail1 hst))
theorem tys_at (G : HG) (k : Nat) : ∃ ty, (tysG G)[ac k]? = some (G.2.1 (ac k), ty) := by
  unfold ac
  split <;> exact ⟨_, rfl⟩
theorem ok_alen {cc : ByteArray} {own : String} {nL : Nat} {ret : Option FieldType} {lv pc : Nat} {nx : Nat} (hd : decode cc pc = .ok (.arraylength, 1)) (hn : pc + 1 = nx) : HOK cc own nL ret lv pc (o_alen nx) := by
  intro p l e R s m args below meth c cells slots mc ms Q G A g0 w0 q C k hk ls st w σ ho
  obtain ⟨hx, hb, hml, hown, hts, hK, hr, hlk, hZ, hSR, hA, hlv, hcs, hcm, hQ⟩ := C
  subst hn
  intro g H locs la hge hR hS hL hst
  obtain ⟨kk, i, r, rfl, ho1⟩ := popR_s ho
  obtain ⟨hkk, ho2⟩ := bif_s ho1
  have hb2 : 12 ≤ kk ∧ kk ≤ 21 := by
    rw [Bool.and_eq_true] at hkk
    exact ⟨Nat.le_of_ble_eq_true hkk.1, Nat.le_of_ble_eq_true hkk.2⟩
  have hi : i < w.1 kk := hst _ List.mem_cons_self
  have h12 : Nat.blt kk 12 = false := by
    cases h : Nat.blt kk 12 with
    | false => rfl
    | true => have := b12 h; omega
  have hat := (hR.at (k := kk) (by omega) hi).1
  obtain ⟨ty, hty⟩ := tys_at G kk
  have h2 := hk _ _ _ _ _ ho2 g H locs la hge hR hS hL (cons1 (a := HI _) trivial (tail1 hst))
  cases hra : isRA kk with
  | true =>
    rw [ent_ref h12 hra] at hat
    exact va_alen (D := G.1) (tys := tysG G) hx hb hK (va_one hat) 0 (ac kk) rfl hty rfl hd h2
  | false =>
    have h30 : Nat.ble 30 kk = false := by
      cases h : Nat.ble 30 kk with
      | false => rfl
      | true => have := Nat.le_of_ble_eq_true h; omega
    rw [ent_row h12 hra h30] at hat
    exact va_alen (D := G.1) (tys := tysG G) hx hb hK (va_one hat) 0 (ac kk) rfl hty rfl hd h2
theorem or_beq {a b c : Nat} (h : (Nat.beq a b || Nat.beq a c) = true) : a = b ∨ a = c := by
  rw [Bool.or_eq_true] at h
  exact h.imp Nat.eq_of_beq_eq_true Nat.eq_of_beq_eq_true
theorem ok_iald {cc : ByteArray} {own : String} {nL : Nat} {ret : Option FieldType} {lv pc : Nat} {nx : Nat} (hd : decode cc pc = .ok (.iaload, 1)) (hn : pc + 1 = nx) : HOK cc own nL ret lv pc (o_iald nx) := by
  intro p l e R s m args below meth c cells slots mc ms Q G A g0 w0 q C k hk ls st w σ ho
  obtain ⟨hx, hb, hml, hown, hts, hK, hr, hlk, hZ, hSR, hA, hlv, hcs, hcm, hQ⟩ := C
  subst hn
  intro g H locs la hge hR hS hL hst
  obtain ⟨j, r0, rfl, ho0⟩ := popI_s ho
  obtain ⟨kk, i, r, rfl, ho1⟩ := popR_s ho0
  obtain ⟨hkk, hin, ho2⟩ := bif_s ho1
  have hi : i < w.1 kk := tail1 hst _ List.mem_cons_self
  have h2 := hk _ _ _ _ _ ho2 g H locs la hge hR hS hL (cons1 (a := HI _) trivial (tail1 (tail1 hst)))
  rcases or_beq hkk with rfl | rfl
  · exact va_iald (D := G.1) (tys := tysG G) hx hb hK (va_one (hR.at (k := 13) (by decide) hi).1) 0 1 rfl rfl hin hd h2
  · exact va_iald (D := G.1) (tys := tysG G) hx hb hK (va_one (hR.at (k := 20) (by decide) hi).1) 0 1 rfl rfl hin hd h2
theorem ok_bald {cc : ByteArray} {own : String} {nL : Nat} {ret : Option FieldType} {lv pc : Nat} {nx : Nat} (hd : decode cc pc = .ok (.baload, 1)) (hn : pc + 1 = nx) : HOK cc own nL ret lv pc (o_bald nx) := by
  intro p l e R s m args below meth c cells slots mc ms Q G A g0 w0 q C k hk ls st w σ ho
  obtain ⟨hx, hb, hml, hown, hts, hK, hr, hlk, hZ, hSR, hA, hlv, hcs, hcm, hQ⟩ := C
  subst hn
  intro g H locs la hge hR hS hL hst
  obtain ⟨j, r0, rfl, ho0⟩ := popI_s ho
  obtain ⟨kk, i, r, rfl, ho1⟩ := popR_s ho0
  obtain ⟨hkk, hin, ho2⟩ := bif_s ho1
  have hi : i < w.1 kk := tail1 hst _ List.mem_cons_self
  have h2 := hk _ _ _ _ _ ho2 g H locs la hge hR hS hL (cons1 (a := HI _) trivial (tail1 (tail1 hst)))
  rcases or_beq hkk with rfl | rfl
  · exact va_bald (D := G.1) (tys := tysG G) hx hb hK (va_one (hR.at (k := 12) (by decide) hi).1) 0 0 rfl rfl hin hd h2
  · exact va_zald (D := G.1) (tys := tysG G) hx hb hK (va_one (hR.at (k := 21) (by decide) hi).1) 0 2 rfl rfl hin hd h2
theorem ra4 {k : Nat} (h : isRA k = true) : k = 15 ∨ k = 16 ∨ k = 17 ∨ k = 18 := by
  unfold isRA at h
  rw [Bool.and_eq_true] at h
  have h1 := Nat.le_of_ble_eq_true h.1
  have h2 := Nat.le_of_ble_eq_true h.2
  omega
theorem rf_map (g : HA) (t : Nat) (o : Option Nat) : va_rf (o.map (g t)) = toV g (HO t o) := by
  cases o <;> rfl
theorem ok_aald {cc : ByteArray} {own : String} {nL : Nat} {ret : Option FieldType} {lv pc : Nat} {nx : Nat} (hd : decode cc pc = .ok (.aaload, 1)) (hn : pc + 1 = nx) : HOK cc own nL ret lv pc (o_aald nx) := by
  intro p l e R s m args below meth c cells slots mc ms Q G A g0 w0 q C k hk ls st w σ ho
  obtain ⟨hx, hb, hml, hown, hts, hK, hr, hlk, hZ, hSR, hA, hlv, hcs, hcm, hQ⟩ := C
  subst hn
  intro g H locs la hge hR hS hL hst
  obtain ⟨j, r0, rfl, ho0⟩ := popI_s ho
  obtain ⟨kk, i, r, rfl, ho1⟩ := popR_s ho0
  obtain ⟨hkk, hin, ho2⟩ := bif_s ho1
  have hi : i < w.1 kk := tail1 hst _ List.mem_cons_self
  have hv : VLv w (HO (ek kk) (w.2 kk j.toNatClampNeg)) := by
    cases h : w.2 kk j.toNatClampNeg with
    | none => exact trivial
    | some o => exact hR.2.2.2.2.1 kk _ o hkk h
  have h2 := hk _ _ _ _ _ (ho2 _ rfl) g H locs la hge hR hS hL (cons1 hv (tail1 (tail1 hst)))
  rw [List.map_cons, ← rf_map] at h2
  rcases ra4 hkk with rfl | rfl | rfl | rfl
  · exact va_aldq (D := G.1) (tys := tysG G) (C := RX3) hx hb hK (va_one (hR.at (k := 15) (by decide) hi).1) 0 3 rfl rfl hin hd h2
  · exact va_aldq (D := G.1) (tys := tysG G) (C := RX4) hx hb hK (va_one (hR.at (k := 16) (by decide) hi).1) 0 4 rfl rfl hin hd h2
  · exact va_aldq (D := G.1) (tys := tysG G) (C := RX7) hx hb hK (va_one (hR.at (k := 17) (by decide) hi).1) 0 5 rfl rfl hin hd h2
  · exact va_aldq (D := G.1) (tys := tysG G) (C := RX9) hx hb hK (va_one (hR.at (k := 18) (by decide) hi).1) 0 6 rfl rfl hin hd h2
theorem up3_at {G : HG} {g : HA} {w : HW} {σ : HS} {k i f : Nat} {v : Int32} {H : Heap} (hk : Nat.blt k 12 = false) (h2 : isRA k = false) (h3 : Nat.ble 30 k = false) (h : va_at G.1 vwCl (g k i, .inl (G.2.1 (ac k), al k i, .inl (upd (σ k i) f v))) H) : va_at G.1 vwCl (g k i, ent G g w (up3 σ k i f v) k i) H := by
  rw [ent_row hk h2 h3, up3_row]
  exact h
theorem ok_iast {cc : ByteArray} {own : String} {nL : Nat} {ret : Option FieldType} {lv pc : Nat} {nx : Nat} (hd : decode cc pc = .ok (.iastore, 1)) (hn : pc + 1 = nx) : HOK cc own nL ret lv pc (o_iast nx) := by
  intro p l e R s m args below meth c cells slots mc ms Q G A g0 w0 q C k hk ls st w σ ho
  obtain ⟨hx, hb, hml, hown, hts, hK, hr, hlk, hZ, hSR, hA, hlv, hcs, hcm, hQ⟩ := C
  subst hn
  intro g H locs la hge hR hS hL hst
  obtain ⟨v, r1, rfl, ho3⟩ := popI_s ho
  obtain ⟨j, r0, rfl, ho0⟩ := popI_s ho3
  obtain ⟨kk, i, r, rfl, ho1⟩ := popR_s ho0
  obtain ⟨hkk, hin, ho2⟩ := bif_s ho1
  have hi : i < w.1 kk := tail1 (tail1 hst) _ List.mem_cons_self
  rcases or_beq hkk with rfl | rfl
  · exact hx_iast (D := G.1) (tys := tysG G) (t := 1) hx hK rfl (hR.at (k := 13) (by decide) hi).1 hin (hb ▸ hd) fun H1 sl h1 hz oq =>
      hk _ _ _ _ _ ho2 g H1 _ la hge (hR.upd (by decide) hi (up3_at rfl rfl rfl h1) oq (fun k' i' h => up3_ne h)) (hS.put hz oq (hR.at (k := 13) (by decide) hi).2) hL (tail1 (tail1 (tail1 hst)))
  · exact hx_iast (D := G.1) (tys := tysG G) (t := 1) hx hK rfl (hR.at (k := 20) (by decide) hi).1 hin (hb ▸ hd) fun H1 sl h1 hz oq =>
      hk _ _ _ _ _ ho2 g H1 _ la hge (hR.upd (by decide) hi (up3_at rfl rfl rfl h1) oq (fun k' i' h => up3_ne h)) (hS.put hz oq (hR.at (k := 20) (by decide) hi).2) hL (tail1 (tail1 (tail1 hst)))
theorem ok_bast {cc : ByteArray} {own : String} {nL : Nat} {ret : Option FieldType} {lv pc : Nat} {nx : Nat} (hd : decode cc pc = .ok (.bastore, 1)) (hn : pc + 1 = nx) : HOK cc own nL ret lv pc (o_bast nx) := by
  intro p l e R s m args below meth c cells slots mc ms Q G A g0 w0 q C k hk ls st w σ ho
  obtain ⟨hx, hb, hml, hown, hts, hK, hr, hlk, hZ, hSR, hA, hlv, hcs, hcm, hQ⟩ := C
  subst hn
  intro g H locs la hge hR hS hL hst
  obtain ⟨v, r1, rfl, ho3⟩ := popI_s ho
  obtain ⟨j, r0, rfl, ho0⟩ := popI_s ho3
  obtain ⟨kk, i, r, rfl, ho1⟩ := popR_s ho0
  obtain ⟨hkk, hin, ho2⟩ := bif_s ho1
  have hi : i < w.1 kk := tail1 (tail1 hst) _ List.mem_cons_self
  have ek := Nat.eq_of_beq_eq_true hkk
  subst ek
  exact hx_bast (D := G.1) (tys := tysG G) (t := 0) hx hK rfl (hR.at (k := 12) (by decide) hi).1 hin (hb ▸ hd) fun H1 sl h1 hz oq =>
      hk _ _ _ _ _ ho2 g H1 _ la hge (hR.upd (by decide) hi (up3_at rfl rfl rfl h1) oq (fun k' i' h => up3_ne h)) (hS.put hz oq (hR.at (k := 12) (by decide) hi).2) hL (tail1 (tail1 (tail1 hst)))
theorem ok_zast {cc : ByteArray} {own : String} {nL : Nat} {ret : Option FieldType} {lv pc : Nat} {nx : Nat} (hd : decode cc pc = .ok (.bastore, 1)) (hn : pc + 1 = nx) : HOK cc own nL ret lv pc (o_zast nx) := by
  intro p l e R s m args below meth c cells slots mc ms Q G A g0 w0 q C k hk ls st w σ ho
  obtain ⟨hx, hb, hml, hown, hts, hK, hr, hlk, hZ, hSR, hA, hlv, hcs, hcm, hQ⟩ := C
  subst hn
  intro g H locs la hge hR hS hL hst
  obtain ⟨v, r1, rfl, ho3⟩ := popI_s ho
  obtain ⟨j, r0, rfl, ho0⟩ := popI_s ho3
  obtain ⟨kk, i, r, rfl, ho1⟩ := popR_s ho0
  obtain ⟨hkk, hz1, hin, ho2⟩ := bif_s ho1
  have hi : i < w.1 kk := tail1 (tail1 hst) _ List.mem_cons_self
  have ek := Nat.eq_of_beq_eq_true hkk
  subst ek
  exact hx_zast (D := G.1) (tys := tysG G) (t := 2) hx hK rfl (hR.at (k := 21) (by decide) hi).1 hin (nar_z hz1).1 (hb ▸ hd) fun H1 sl h1 hz oq =>
      hk _ _ _ _ _ ho2 g H1 _ la hge (hR.upd (by decide) hi (up3_at rfl rfl rfl h1) oq (fun k' i' h => up3_ne h)) (hS.put hz oq (hR.at (k := 21) (by decide) hi).2) hL (tail1 (tail1 (tail1 hst)))
theorem ok_iret {cc : ByteArray} {own : String} {nL : Nat} {lv pc : Nat} (hd : decode cc pc = .ok (.ireturn, 1)) : HOK cc own nL (some .int) lv pc o_iret := by
  intro p l e R s m args below meth c cells slots mc ms Q G A g0 w0 q C k hk ls st w σ ho
  obtain ⟨hx, hb, hml, hown, hts, hK, hr, hlk, hZ, hSR, hA, hlv, hcs, hcm, hQ⟩ := C
  intro g H locs la hge hR hS hL hst
  obtain ⟨v, r, rfl, ho1⟩ := popI_s ho
  obtain ⟨rfl, ho2⟩ := hnil_s ho1
  rw [hQ _ _ _ ho2]
  refine W.widen hcm.1 hcm.2 ?_
  exact W.iret hx hb hr (fun t ht hW => ⟨⟨some (HI v), w, σ, g, rfl, ho2, hge, fun u hu => by cases hu; exact trivial, by rw [ht]; exact hR⟩, hS.F ht⟩) hS.2.2 hd hlk
theorem ok_zret {cc : ByteArray} {own : String} {nL : Nat} {lv pc : Nat} (hd : decode cc pc = .ok (.ireturn, 1)) : HOK cc own nL (some .boolean) lv pc o_zret := by
  intro p l e R s m args below meth c cells slots mc ms Q G A g0 w0 q C k hk ls st w σ ho
  obtain ⟨hx, hb, hml, hown, hts, hK, hr, hlk, hZ, hSR, hA, hlv, hcs, hcm, hQ⟩ := C
  intro g H locs la hge hR hS hL hst
  obtain ⟨v, r, rfl, ho1⟩ := popI_s ho
  obtain ⟨rfl, hz, ho2⟩ := hnil_s ho1
  rw [hQ _ _ _ ho2]
  refine W.widen hcm.1 hcm.2 ?_
  exact W.zret hx hb hr (nar_z hz).1 (fun t ht hW => ⟨⟨some (HI v), w, σ, g, rfl, ho2, hge, fun u hu => by cases hu; exact trivial, by rw [ht]; exact hR⟩, hS.F ht⟩) hS.2.2 hd hlk
theorem ok_aret {cc : ByteArray} {own C : String} {nL : Nat} {lv pc : Nat} (hd : decode cc pc = .ok (.areturn, 1)) : HOK cc own nL (some (.object C)) lv pc o_aret := by
  intro p l e R s m args below meth c cells slots mc ms Q G A g0 w0 q C k hk ls st w σ ho
  obtain ⟨hx, hb, hml, hown, hts, hK, hr, hlk, hZ, hSR, hA, hlv, hcs, hcm, hQ⟩ := C
  intro g H locs la hge hR hS hL hst
  obtain ⟨kd, o, r, rfl, ho1⟩ := popO_s ho
  obtain ⟨rfl, ho2⟩ := hnil_s ho1
  rw [hQ _ _ _ ho2]
  refine W.widen hcm.1 hcm.2 ?_
  exact W.aret (v := toV g (HO kd o)) hx hb hr (Or.inl ⟨_, rfl⟩) (by cases o; exact Or.inl rfl; exact Or.inr ⟨_, rfl⟩) (fun t ht hW => ⟨⟨some (HO kd o), w, σ, g, rfl, ho2, hge, fun u hu => by cases hu; exact hst _ List.mem_cons_self, by rw [ht]; exact hR⟩, hS.F ht⟩) hS.2.2 hd hlk
theorem ok_vret {cc : ByteArray} {own : String} {nL : Nat} {lv pc : Nat} (hd : decode cc pc = .ok (.return_, 1)) : HOK cc own nL none lv pc o_vret := by
  intro p l e R s m args below meth c cells slots mc ms Q G A g0 w0 q C k hk ls st w σ ho
  obtain ⟨hx, hb, hml, hown, hts, hK, hr, hlk, hZ, hSR, hA, hlv, hcs, hcm, hQ⟩ := C
  intro g H locs la hge hR hS hL hst
  obtain ⟨rfl, ho2⟩ := hnil_s ho
  rw [hQ _ _ _ ho2]
  refine W.widen hcm.1 hcm.2 ?_
  exact W.vret hx hb hr (fun t ht hW => ⟨⟨none, w, σ, g, rfl, ho2, hge, (fun u hu => nomatch hu), by rw [ht]; exact hR⟩, hS.F ht⟩) hS.2.2 hd hlk
