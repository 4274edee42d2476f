/-! OUR FRAME, 8: fields of objects that are being made; rows of references; calls of makers -/
theorem fld_putR {g : HA} {w : HW} {σ : HS} {k i f t : Nat} {o : Option Nat} (hb : Nat.ble 30 k = true) (ht : frk (k - 30) f = some t) (hn : f < nfd k) : ((List.range (nfd k)).map fun f => toV g (fld w σ k i f)).set f (toV g (HO t o)) = (List.range (nfd k)).map fun f' => toV g (fld (w.1, up2 w.2 k f o) σ k i f') := by
  have h := set_map (n := nfd k) (f := f) (fun f => toV g (fld w σ k i f)) (fun f' => toV g (fld (w.1, up2 w.2 k f o) σ k i f')) (fun j hj => by
    show toV g (fld (w.1, up2 w.2 k f o) σ k i j) = _
    have e : fr (w.1, up2 w.2 k f o) k i j = fr w k i j := by
      rw [fr_raw hb, fr_raw hb]
      have : up2 w.2 k f o k j = w.2 k j := if_neg fun q => hj q.2
      simp only [this]
    simp only [fld, e]) hn
  have e : toV g (fld (w.1, up2 w.2 k f o) σ k i f) = toV g (HO t o) := by
    have : up2 w.2 k f o k f = o := if_pos ⟨rfl, rfl⟩
    simp only [fld, fr_raw hb, ht, this]
  rw [← h]
  show _ = ((List.range (nfd k)).map _).set f (toV g (fld (w.1, up2 w.2 k f o) σ k i f))
  rw [e]
theorem ge_2 {g : HA} {w : HW} {r : Nat → Nat → Option Nat} : GE g w g (w.1, r) := fun _ _ h => ⟨h, rfl⟩
/-- a reference is written into one object -/
theorem RepS.set2 {G : HG} {A : Nat → Prop} {g : HA} {w : HW} {σ : HS} {H H1 : Heap} (hR : RepS G A g w σ H) {k i f : Nat} {o : Option Nat} (hk : k < 42) (hi : i < w.1 k) (hl : lvd w k i) (h99 : Nat.ble 30 k = true → f ≠ 99) (h1 : ∀ i', i' < w.1 k → lvd w k i' → i' = i) (hW : Wf (w.1, up2 w.2 k f o)) (hz : ∀ q : Nat, q ≠ g k i → H1[q]? = H[q]?) (hn : va_at G.1 vwCl (g k i, ent G g (w.1, up2 w.2 k f o) σ k i) H1) : RepS G A g (w.1, up2 w.2 k f o) σ H1 := by
  refine hR.grow k i ge_2 (fun k' i' hk' hi' hl' hnn => ?_) ⟨hn, (hR.1 k i hk hi hl).2⟩ hR.2.2.1.2 (fun _ => ⟨rfl, rfl⟩) hW
  have hl2 : lvd w k' i' := fun z => by
    have h2 := hl' z
    have : up2 w.2 k f o k' 99 = w.2 k' 99 := if_neg fun q => by
      obtain ⟨rfl, q2⟩ := q
      exact h99 z q2.symm
    rw [← this]
    exact h2
  have hne : k' ≠ k := fun q => by
    subst q
    exact hnn ⟨rfl, h1 i' hi' hl2⟩
  have hg : g k' i' ≠ g k i := fun q => hne (hR.2.1 k' i' k i hk' hk hi' hi hl2 hl q).1
  exact ⟨hi', hl2, by funext b; exact if_neg fun q => hne q.1, rfl, hz _ hg, hg⟩
theorem Wf.set2 {w : HW} (h : Wf w) {k f t : Nat} {o : Option Nat} (hb : Nat.ble 30 k = true) (ht : frk (k - 30) f = some t) (ho : ∀ x, o = some x → x < w.1 t) : Wf (w.1, up2 w.2 k f o) := by
  have h30 := Nat.le_of_ble_eq_true hb
  refine ⟨fun k2 j f2 kk x hj he => ?_, fun k2 j x hr he => ?_, h.2.2.1, h.2.2.2⟩
  · by_cases e : k2 = k
    · subst e
      rw [fr_raw hb] at he
      by_cases e2 : f2 = f
      · subst e2
        have : up2 w.2 k2 f2 o k2 f2 = o := if_pos ⟨rfl, rfl⟩
        rw [ht] at he
        simp only [this] at he
        cases he
        exact ho x rfl
      · have : up2 w.2 k2 f o k2 f2 = w.2 k2 f2 := if_neg fun q => e2 q.2
        simp only [this] at he
        refine h.1 k2 j f2 kk x hj ?_
        rw [fr_raw hb]
        exact he
    · rw [fr_w (w := w) (by funext b; exact if_neg fun q => e q.1)] at he
      exact h.1 k2 j f2 kk x hj he
  · have := ra_lt hr
    have e : up2 w.2 k f o k2 j = w.2 k2 j := if_neg (by omega)
    exact h.2.1 k2 j x hr (e.symm.trans he)
def o_putw (kd f nx : Nat) : HOp := fun k _ ls st w σ => popI st fun v r => popR r fun kk i r => bif Nat.beq kk (30 + kd) then w.2 (30 + kd) 99 = some i ∧ k nx ls r w (up3 σ (30 + kd) i f v) else False
def o_putr (kd f t nx : Nat) : HOp := fun k _ ls st w σ => popO st fun tt o r => popR r fun kk i r => bif Nat.beq kk (30 + kd) && Nat.beq tt t then w.2 (30 + kd) 99 = some i ∧ k nx ls r (w.1, up2 w.2 (30 + kd) f o) σ else False
def o_getw (kd f nx : Nat) : HOp := fun k _ ls st w σ => popR st fun kk i r => bif Nat.beq kk (30 + kd) then w.2 (30 + kd) 99 = some i ∧ k nx ls (fld w σ (30 + kd) i f :: r) w σ else False
/-- which ints a field takes -/
def tyI (ty : FieldType) (v : Int32) : Prop := narrow ty (.int v) = .int v ∧ fits ty (.int v) = true
theorem tyI_i {v : Int32} : tyI .int v := ⟨vp_nar_int v, rfl⟩
section PW
variable {cc : ByteArray} {own : String} {nL : Nat} {ret : Option FieldType} {lv pc : Nat} {ix kd f nx N : Nat} {C : String} {T : u_T} {ty : Nat → FieldType}
theorem ok_getw (hd : decode cc pc = .ok (.getfield ix, 3)) (hc : vwCl[kd]? = some (C, T, N)) (hN : nfr kd = N) (hf : f < N) (h12 : kd < 12) (hin : ∀ w ∈ u_ws C T N, w ∈ TT) (hw : Cond.fieldLink own ix (T f).1 (T f).2.1 (T f).2.2.1 ∈ TT) (hn : pc + 3 = nx) : HOK cc own nL ret lv pc (o_getw kd f nx) := by
  intro p l e R s m args below meth c cells slots mc ms Q G A g0 w0 q C k hk ls st w σ ho
  obtain ⟨hx, hb, hml, hown, hts, hK, hr, hlk, hZ, hSR, hA, hlv, hcs, hcm, hQ⟩ := C
  subst hn
  intro g H locs la hge hR hS hL hst
  obtain ⟨kk, i, r, rfl, ho1⟩ := popR_s ho
  obtain ⟨hkk, hl, ho2⟩ := bif_s ho1
  have ek : kk = 30 + kd := Nat.eq_of_beq_eq_true hkk
  subst ek
  have hbr : Nat.ble 30 (30 + kd) = true := ble30 (by omega)
  have hi : i < w.1 (30 + kd) := hst _ List.mem_cons_self
  have hat := (hR.1 (30 + kd) i (by omega) hi (fun _ => hl)).1
  rw [ent_raw hbr, Nat.add_sub_cancel_left] at hat
  have e1 : nfd (30 + kd) = N := by rw [nfd_raw hbr, Nat.add_sub_cancel_left]; exact hN
  exact va_get (D := G.1) (tys := tysG G) hx hb hts hin hown hK (va_one hat) 0 rfl hc f hf (hts _ hw) (fun _ h => h) (fld_at e1 hf) hd (hk _ _ _ _ _ ho2 g H locs la hge hR hS hL (cons1 (fld_lv hR.2.2.2 hi) (tail1 hst)))
theorem ok_putw {nm : String} {yz : FieldType} (hd : decode cc pc = .ok (.putfield ix, 3)) (hc : vwCl[kd]? = some (C, T, N)) (hN : nfr kd = N) (hf : f < N) (h12 : kd < 12) (hin : ∀ w ∈ u_ws C T N, w ∈ TT) (hty : ∀ k, k < N → parseFieldDescriptor (T k).2.2.1 = some (ty k)) (hnmm : ∀ a, a < N → ∀ b, b < N → a ≠ b → (T a).2.1 ≠ (T b).2.1) (hfin : (T f).2.2.2 = false ∨ ((T f).2.2.2 = true ∧ nm = "<init>" ∧ (T f).1 = own)) (ht : parseFieldDescriptor (T f).2.2.1 = some yz) (hyz : yz = .int ∨ yz = .boolean) (hfr : frk kd f = none) (hw : Cond.fieldLink own ix (T f).1 (T f).2.1 (T f).2.2.1 ∈ TT) (hn : pc + 3 = nx) : HOM cc own nL ret lv nm pc 0 0 (fun k q ls st w σ => popI st fun v _ => (yz = .int ∨ v = 0 ∨ v = 1) ∧ o_putw kd f nx k q ls st w σ) := by
  intro p l e R s m args below meth c cells slots mc ms Q G A g0 w0 q C hnm hAO hmr hcd k hk ls st w σ ho
  obtain ⟨hx, hb, hml, hown, hts, hK, hr, hlk, hZ, hSR, hA, hlv, hcs, hcm, hQ⟩ := C
  subst hn
  intro g H locs la hge hR hS hL hst
  obtain ⟨v, r0, rfl, hv, ho0⟩ := popI_s ho
  obtain ⟨v', r1, he, ho3⟩ := popI_s ho0
  cases he
  obtain ⟨kk, i, r, rfl, ho1⟩ := popR_s ho3
  obtain ⟨hkk, hl, ho2⟩ := bif_s ho1
  have ek : kk = 30 + kd := Nat.eq_of_beq_eq_true hkk
  subst ek
  have hbr : Nat.ble 30 (30 + kd) = true := ble30 (by omega)
  have hi : i < w.1 (30 + kd) := tail1 hst _ List.mem_cons_self
  have hat := (hR.1 (30 + kd) i (by omega) hi (fun _ => hl)).1
  have hAa := (hR.1 (30 + kd) i (by omega) hi (fun _ => hl)).2
  rw [ent_raw hbr, Nat.add_sub_cancel_left] at hat
  have e1 : nfd (30 + kd) = N := by rw [nfd_raw hbr, Nat.add_sub_cancel_left]; exact hN
  have hfrn : fr w (30 + kd) i f = none := by rw [fr_raw hbr, Nat.add_sub_cancel_left, hfr]
  have hty2 : tyI yz v := by
    rcases hyz with rfl | rfl
    · exact tyI_i
    · exact nar_z (hv.resolve_left (by decide))
  have go : ∀ (H1 : Heap) (sl : Nat), va_at G.1 vwCl (g (30 + kd) i, .inr (kd, ((List.range (nfd (30 + kd))).map fun f => toV g (fld w σ (30 + kd) i f)).set f (.int v))) H1 → H1.size = H.size → (∀ q : Nat, q ≠ g (30 + kd) i → H1[q]? = H[q]?) → W p l e R s m args below meth c H1 (locs ++ [⟨g (30 + kd) i, sl⟩]) cells slots Q (F0 m (pc + 3) la (r.map (toV g))) := fun H1 sl h1 hz oq =>
    hk _ _ _ _ _ ho2 g H1 _ la hge (hR.updL (by omega) hi (fun _ => hl) (by rw [ent_raw hbr, Nat.add_sub_cancel_left, ← fld_put hfrn (by rw [e1]; exact hf)]; exact h1) oq (fun k' i' h => up3_ne h)) (hS.put hz oq hAa) hL (tail1 (tail1 hst))
  rcases hfin with hfin | ⟨hfin, hnm2, hdecl⟩
  · exact hx_put hx (kls_of hc hK hts hin hty hnmm) hown hat hf (hts _ hw) hfin ht hty2 (by simp [e1, hf]) (hb ▸ hd) go
  · exact hx_putF hx (kls_of hc hK hts hin hty hnmm) hown hat hf (hts _ hw) hfin (hnm.trans hnm2) hdecl ht hty2 (by simp [e1, hf]) (hb ▸ hd) go
theorem fits_ref {ty : FieldType} (h : ty.isReference = true) {g : HA} {t : Nat} {o : Option Nat} : narrow ty (toV g (HO t o)) = toV g (HO t o) ∧ fits ty (toV g (HO t o)) = true := by
  cases ty <;> first | (exact absurd h (by decide)) | (cases o <;> exact ⟨rfl, rfl⟩)
theorem ok_putr {nm : String} {t : Nat} {yz : FieldType} (hd : decode cc pc = .ok (.putfield ix, 3)) (hc : vwCl[kd]? = some (C, T, N)) (hN : nfr kd = N) (hf : f < N) (h12 : kd < 12) (hin : ∀ w ∈ u_ws C T N, w ∈ TT) (hty : ∀ k, k < N → parseFieldDescriptor (T k).2.2.1 = some (ty k)) (hnmm : ∀ a, a < N → ∀ b, b < N → a ≠ b → (T a).2.1 ≠ (T b).2.1) (hfin : (T f).2.2.2 = false ∨ ((T f).2.2.2 = true ∧ nm = "<init>" ∧ (T f).1 = own)) (ht : parseFieldDescriptor (T f).2.2.1 = some yz) (hyz : yz.isReference = true) (hfr : frk kd f = some t) (hw : Cond.fieldLink own ix (T f).1 (T f).2.1 (T f).2.2.1 ∈ TT) (hn : pc + 3 = nx) : HOM cc own nL ret lv nm pc 0 0 (o_putr kd f t nx) := by
  intro p l e R s m args below meth c cells slots mc ms Q G A g0 w0 q C hnm hAO hmr hcd k hk ls st w σ ho
  obtain ⟨hx, hb, hml, hown, hts, hK, hr, hlk, hZ, hSR, hA, hlv, hcs, hcm, hQ⟩ := C
  subst hn
  intro g H locs la hge hR hS hL hst
  obtain ⟨tt, o, r0, rfl, ho3⟩ := popO_s ho
  obtain ⟨kk, i, r, rfl, ho1⟩ := popR_s ho3
  obtain ⟨hkk, hl, ho2⟩ := bif_s ho1
  rw [Bool.and_eq_true] at hkk
  have ek : kk = 30 + kd := Nat.eq_of_beq_eq_true hkk.1
  have et : tt = t := Nat.eq_of_beq_eq_true hkk.2
  subst ek
  subst et
  have hbr : Nat.ble 30 (30 + kd) = true := ble30 (by omega)
  have hi : i < w.1 (30 + kd) := tail1 hst _ List.mem_cons_self
  have hat := (hR.1 (30 + kd) i (by omega) hi (fun _ => hl)).1
  have hAa := (hR.1 (30 + kd) i (by omega) hi (fun _ => hl)).2
  rw [ent_raw hbr, Nat.add_sub_cancel_left] at hat
  have e1 : nfd (30 + kd) = N := by rw [nfd_raw hbr, Nat.add_sub_cancel_left]; exact hN
  have hty2 := fits_ref hyz (g := g) (t := tt) (o := o)
  have hfr2 : frk (30 + kd - 30) f = some tt := by rw [Nat.add_sub_cancel_left]; exact hfr
  have hov : ∀ x, o = some x → x < w.1 tt := fun x hx => by
    subst hx
    exact hst _ List.mem_cons_self
  have h99 : f ≠ 99 := fun z => by rw [z, frk99] at hfr; cases hfr
  have go : ∀ (H1 : Heap) (sl : Nat), va_at G.1 vwCl (g (30 + kd) i, .inr (kd, ((List.range (nfd (30 + kd))).map fun f => toV g (fld w σ (30 + kd) i f)).set f (toV g (HO tt o)))) H1 → H1.size = H.size → (∀ q : Nat, q ≠ g (30 + kd) i → H1[q]? = H[q]?) → W p l e R s m args below meth c H1 (locs ++ [⟨g (30 + kd) i, sl⟩]) cells slots Q (F0 m (pc + 3) la (r.map (toV g))) := fun H1 sl h1 hz oq =>
    hk _ _ _ _ _ ho2 g H1 _ la (hge.tr ge_2) (hR.set2 (by omega) hi (fun _ => hl) (fun _ => h99) (fun i' _ hl2 => Option.some.inj ((hl2 hbr).symm.trans hl)) (hR.2.2.2.set2 hbr hfr2 hov) oq (by rw [ent_raw hbr, Nat.add_sub_cancel_left, ← fld_putR hbr hfr2 (by rw [e1]; exact hf)]; exact h1)) (hS.put hz oq hAa) (hL.ge ge_2) (map_ge (ge_2 (g := g)) (tail1 (tail1 hst))).2
  rcases hfin with hfin | ⟨hfin, hnm2, hdecl⟩
  · exact hx_put hx (kls_of hc hK hts hin hty hnmm) hown hat hf (hts _ hw) hfin ht hty2 (by simp [e1, hf]) (hb ▸ hd) go
  · exact hx_putF hx (kls_of hc hK hts hin hty hnmm) hown hat hf (hts _ hw) hfin (hnm.trans hnm2) hdecl ht hty2 (by simp [e1, hf]) (hb ▸ hd) go
end PW
/-- the visit that is asked about: another one -/
def o_putq (nx : Nat) : HOp := fun k _ ls st w σ => popO st fun tt o r => popR r fun kk _ r => bif Nat.beq kk 10 && Nat.beq tt 9 then k nx ls r (w.1, up2 w.2 10 0 o) σ else False
theorem Wf.setq {w : HW} (h : Wf w) {o : Option Nat} (ho : ∀ x, o = some x → x < w.1 9) : Wf (w.1, up2 w.2 10 0 o) := by
  refine ⟨fun k2 j f2 kk x hj he => ?_, fun k2 j x hr he => ?_, h.2.2.1, h.2.2.2⟩
  · by_cases e : k2 = 10
    · subst e
      by_cases e8 : f2 = 8
      · subst e8
        have he : some (9, up2 w.2 10 0 o 10 0) = some (kk, some x) := he
        have : up2 w.2 10 0 o 10 0 = o := if_pos ⟨rfl, rfl⟩
        rw [this] at he
        cases he
        exact ho x rfl
      · refine h.1 10 j f2 kk x hj ?_
        rw [← he]
        unfold fr
        simp only
        split <;> first | rfl | exact absurd rfl e8
    · rw [fr_w (w := w) (by funext b; exact if_neg fun q => e q.1)] at he
      exact h.1 k2 j f2 kk x hj he
  · have := ra_lt hr
    have e : up2 w.2 10 0 o k2 j = w.2 k2 j := if_neg (by omega)
    exact h.2.1 k2 j x hr (e.symm.trans he)
theorem ok_putq {cc : ByteArray} {own : String} {nL : Nat} {ret : Option FieldType} {lv pc : Nat} {ix nx : Nat} (hd : decode cc pc = .ok (.putfield ix, 3)) (hw : Cond.fieldLink own ix (TX10 8).1 (TX10 8).2.1 (TX10 8).2.2.1 ∈ TT) (hn : pc + 3 = nx) : HOK cc own nL ret lv pc (o_putq nx) := by
  intro p l e R s m args below meth c cells slots mc ms Q G A g0 w0 q C k hk ls st w σ ho
  obtain ⟨hx, hb, hml, hown, hts, hK, hr, hlk, hZ, hSR, hA, hlv, hcs, hcm, hQ⟩ := C
  subst hn
  intro g H locs la hge hR hS hL hst
  obtain ⟨tt, o, r0, rfl, ho3⟩ := popO_s ho
  obtain ⟨kk, i, r, rfl, ho1⟩ := popR_s ho3
  obtain ⟨hkk, ho2⟩ := bif_s ho1
  rw [Bool.and_eq_true] at hkk
  have ek : kk = 10 := Nat.eq_of_beq_eq_true hkk.1
  have et : tt = 9 := Nat.eq_of_beq_eq_true hkk.2
  subst ek
  subst et
  have hi : i < w.1 10 := tail1 hst _ List.mem_cons_self
  have hat := hR.at (k := 10) (by decide) hi
  have hAa := hat.2
  have hat := hat.1
  rw [ent_obj rfl] at hat
  have hty2 := fits_ref (ty := .object "VisitHall$Visit") rfl (g := g) (t := 9) (o := o)
  have hov : ∀ x, o = some x → x < w.1 9 := fun x hx => by
    subst hx
    exact hst _ List.mem_cons_self
  refine hx_put (k := 8) hx (kls_of (D := G.1) (cl := vwCl) (ci := 10) (tys := tysG G) (C := RX10) (T := TX10) rfl hK hts inX10 tyX10_ok nmX10) hown hat (by decide) (hts _ hw) rfl (ty := .object "VisitHall$Visit") (by decide +kernel) hty2 (by simp [nfd]) (hb ▸ hd) fun H1 sl h1 hz oq => ?_
  have es : ((List.range (nfd 10)).map fun f => toV g (fld w σ 10 i f)).set 8 (toV g (HO 9 o)) = (List.range (nfd 10)).map fun f => toV g (fld (w.1, up2 w.2 10 0 o) σ 10 i f) := by
    have e0 : up2 w.2 10 0 o 10 0 = o := if_pos ⟨rfl, rfl⟩
    have h := set_map (n := nfd 10) (f := 8) (fun f => toV g (fld w σ 10 i f)) (fun f => toV g (fld (w.1, up2 w.2 10 0 o) σ 10 i f)) (fun j hj => by
      show toV g (fld (w.1, up2 w.2 10 0 o) σ 10 i j) = _
      have e : fr (w.1, up2 w.2 10 0 o) 10 i j = fr w 10 i j := by
        unfold fr
        simp only
        split <;> first | rfl | exact absurd rfl hj
      simp only [fld, e]) (by decide)
    rw [← h]
    have e2 : fld (w.1, up2 w.2 10 0 o) σ 10 i 8 = HO 9 (up2 w.2 10 0 o 10 0) := rfl
    rw [e0] at e2
    show _ = ((List.range (nfd 10)).map _).set 8 (toV g (fld (w.1, up2 w.2 10 0 o) σ 10 i 8))
    rw [e2]
  rw [es] at h1
  have h1w := hR.2.2.2.2.2.2
  exact hk _ _ _ _ _ ho2 g H1 _ la (hge.tr ge_2) (hR.set2 (by decide) hi (lvd_lt (by decide)) (fun z => absurd z (by decide)) (fun i' hi' _ => by omega) (hR.2.2.2.setq hov) oq (by rw [ent_obj rfl]; exact h1)) (hS.put hz oq hAa) (hL.ge ge_2) (map_ge (ge_2 (g := g)) (tail1 (tail1 hst))).2
/-- a row of references -/
def o_aast (nx : Nat) : HOp := fun k _ ls st w σ => popR st fun tt v r => popI r fun j r => popR r fun kk i r => bif isRA kk && Nat.beq tt (ek kk) then vp_in j (al kk i) ∧ k nx ls r (w.1, up2 w.2 kk j.toNatClampNeg (some v)) σ else False
theorem Wf.seta {w : HW} (h : Wf w) {k j v : Nat} (hr : isRA k = true) (hv : v < w.1 (ek k)) : Wf (w.1, up2 w.2 k j (some v)) := by
  have hk := ra_lt hr
  refine ⟨fun k2 i f2 kk x hj he => ?_, fun k2 j2 x hr2 he => ?_, h.2.2.1, h.2.2.2⟩
  · by_cases e : k2 = k
    · subst e
      exfalso
      rcases ra4 hr with rfl | rfl | rfl | rfl <;> cases he
    · rw [fr_w (w := w) (by funext b; exact if_neg fun q => e q.1)] at he
      exact h.1 k2 i f2 kk x hj he
  · have he : (if k2 = k ∧ j2 = j then some v else w.2 k2 j2) = some x := he
    split at he
    · rename_i q
      cases he
      rw [q.1]
      exact hv
    · exact h.2.1 k2 j2 x hr2 he
theorem ok_aast {cc : ByteArray} {own : String} {nL : Nat} {ret : Option FieldType} {lv pc : Nat} {nx : Nat} (hd : decode cc pc = .ok (.aastore, 1)) (hn : pc + 1 = nx) : HOK cc own nL ret lv pc (o_aast nx) := by
  intro p l e R s m args below meth c cells slots mc ms Q G A g0 w0 q C k hk ls st w σ ho
  obtain ⟨hx, hb, hml, hown, hts, hK, hr, hlk, hZ, hSR, hA, hlv, hcs, hcm, hQ⟩ := C
  subst hn
  intro g H locs la hge hR hS hL hst
  obtain ⟨tt, v, r0, rfl, ho3⟩ := popR_s ho
  obtain ⟨j, r1, rfl, ho4⟩ := popI_s ho3
  obtain ⟨kk, i, r, rfl, ho1⟩ := popR_s ho4
  obtain ⟨hkk, hin, ho2⟩ := bif_s ho1
  rw [Bool.and_eq_true] at hkk
  have et : tt = ek kk := Nat.eq_of_beq_eq_true hkk.2
  subst et
  have hrr := hkk.1
  have hk4 := ra_lt hrr
  have hv : v < w.1 (ek kk) := hst _ List.mem_cons_self
  have hi : i < w.1 kk := tail1 (tail1 hst) _ List.mem_cons_self
  have hat := hR.at (k := kk) (by omega) hi
  have hAa := hat.2
  have hat := hat.1
  have hb12 : Nat.blt kk 12 = false := by rcases ra4 hrr with rfl | rfl | rfl | rfl <;> rfl
  have hone := hR.2.2.2.2.2.1 kk hrr
  have go : ∀ (H1 : Heap) (sl : Nat), va_at G.1 vwCl (g kk i, .inl (G.2.1 (ac kk), al kk i, .inr (.inr (.inr (.inr (va_up (fun j => (w.2 kk j).map (g (ek kk))) j.toNatClampNeg (some (g (ek kk) v)))))))) H1 → H1.size = H.size → (∀ q : Nat, q ≠ g kk i → H1[q]? = H[q]?) → W p l e R s m args below meth c H1 (locs ++ [⟨g kk i, sl⟩]) cells slots Q (F0 m (pc + 1) la (r.map (toV g))) := fun H1 sl h1 hz oq => by
    have e2 : va_up (fun j => (w.2 kk j).map (g (ek kk))) j.toNatClampNeg (some (g (ek kk) v)) = fun j2 => (up2 w.2 kk j.toNatClampNeg (some v) kk j2).map (g (ek kk)) := by
      funext j2
      by_cases q : j2 = j.toNatClampNeg
      · subst q
        simp [va_up, up2]
      · simp [va_up, up2, q]
    rw [e2] at h1
    exact hk _ _ _ _ _ ho2 g H1 _ la (hge.tr ge_2) (hR.set2 (by omega) hi (lvd_lt (by omega)) (fun z => by rw [ble30n (by omega)] at z; cases z) (fun i' hi' _ => by omega) (hR.2.2.2.seta hrr hv) oq (by rw [ent_ref hb12 hrr]; exact h1)) (hS.put hz oq hAa) (hL.ge ge_2) (map_ge (ge_2 (g := g)) (tail1 (tail1 (tail1 hst)))).2
  rw [ent_ref hb12 hrr] at hat
  rcases ra4 hrr with rfl | rfl | rfl | rfl
  · exact hx_astq (D := G.1) (tys := tysG G) (cl := vwCl) (r := (RX3, TX3, 5)) (t := 3) (ci := 3) hx hK rfl rfl hat (hR.at (k := 3) (by decide) hv).1 hin (hb ▸ hd) go
  · exact hx_astq (D := G.1) (tys := tysG G) (cl := vwCl) (r := (RX4, TX4, 6)) (t := 4) (ci := 4) hx hK rfl rfl hat (hR.at (k := 4) (by decide) hv).1 hin (hb ▸ hd) go
  · exact hx_astq (D := G.1) (tys := tysG G) (cl := vwCl) (r := (RX7, TX7, 2)) (t := 5) (ci := 7) hx hK rfl rfl hat (hR.at (k := 7) (by decide) hv).1 hin (hb ▸ hd) go
  · exact hx_astq (D := G.1) (tys := tysG G) (cl := vwCl) (r := (RX9, TX9, 8)) (t := 6) (ci := 9) hx hK rfl rfl hat (hR.at (k := 9) (by decide) hv).1 hin (hb ▸ hd) go
