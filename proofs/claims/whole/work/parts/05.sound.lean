/-! OUR FRAME, 3: each instruction's step is sound -/
theorem ok_iload {cc : ByteArray} {own : String} {nL : Nat} {ret : Option FieldType} {lv pc : Nat} {i nx : Nat} (hd : decode cc pc = .ok (.iload i, 2)) (hn : pc + 2 = nx) : HOK cc own nL ret lv pc (o_iload i nx) := by
  intro p l e R s m args below meth c cells slots mc ms Q G A g0 w0 q C k hk ls st w σ ho
  obtain ⟨hx, hb, hml, hown, hts, hK, hr, hlk, hZ, hSR, hA, hlv, hcs, hcm, hQ⟩ := C
  subst hn
  intro g H locs la hge hR hS hL hst
  obtain ⟨v, hv, ho⟩ := hget_s ho
  obtain ⟨x, rfl, ho⟩ := hpI_s ho
  exact lv_iload hx hb hd (hL.at hv) (hk _ _ _ _ _ ho g H locs la hge hR hS hL (fun u hu => (List.mem_cons.mp hu).elim (fun e => e ▸ trivial) (hst u)))
theorem ok_iload_n {cc : ByteArray} {own : String} {nL : Nat} {ret : Option FieldType} {lv pc : Nat} {j : Fin 4} {i nx : Nat} (hd : decode cc pc = .ok (.iload_n j, 1)) (hj : (j : Nat) = i) (hn : pc + 1 = nx) : HOK cc own nL ret lv pc (o_iload i nx) := by
  intro p l e R s m args below meth c cells slots mc ms Q G A g0 w0 q C k hk ls st w σ ho
  obtain ⟨hx, hb, hml, hown, hts, hK, hr, hlk, hZ, hSR, hA, hlv, hcs, hcm, hQ⟩ := C
  subst hn
  intro g H locs la hge hR hS hL hst
  obtain ⟨v, hv, ho⟩ := hget_s ho
  obtain ⟨x, rfl, ho⟩ := hpI_s ho
  exact lv_iload_n hx hb hd hj (hL.at hv) (hk _ _ _ _ _ ho g H locs la hge hR hS hL (fun u hu => (List.mem_cons.mp hu).elim (fun e => e ▸ trivial) (hst u)))
theorem ok_aload {cc : ByteArray} {own : String} {nL : Nat} {ret : Option FieldType} {lv pc : Nat} {i nx : Nat} (hd : decode cc pc = .ok (.aload i, 2)) (hn : pc + 2 = nx) : HOK cc own nL ret lv pc (o_aload i nx) := by
  intro p l e R s m args below meth c cells slots mc ms Q G A g0 w0 q C k hk ls st w σ ho
  obtain ⟨hx, hb, hml, hown, hts, hK, hr, hlk, hZ, hSR, hA, hlv, hcs, hcm, hQ⟩ := C
  subst hn
  intro g H locs la hge hR hS hL hst
  obtain ⟨v, hv, ho⟩ := hget_s ho
  obtain ⟨kd, o, rfl, ho⟩ := hpO_s ho
  have hl := (hL.2 i _ hv).1
  have h2 := hk _ _ _ _ _ ho g H locs la hge hR hS hL (fun u hu => (List.mem_cons.mp hu).elim (fun e => e ▸ hl) (hst u))
  cases o with
  | none => exact lv_aloadN hx hb hd (hL.at hv) h2
  | some z => exact lv_aload hx hb hd (hL.at hv) h2
theorem ok_aload_n {cc : ByteArray} {own : String} {nL : Nat} {ret : Option FieldType} {lv pc : Nat} {j : Fin 4} {i nx : Nat} (hd : decode cc pc = .ok (.aload_n j, 1)) (hj : (j : Nat) = i) (hn : pc + 1 = nx) : HOK cc own nL ret lv pc (o_aload i nx) := by
  intro p l e R s m args below meth c cells slots mc ms Q G A g0 w0 q C k hk ls st w σ ho
  obtain ⟨hx, hb, hml, hown, hts, hK, hr, hlk, hZ, hSR, hA, hlv, hcs, hcm, hQ⟩ := C
  subst hn
  intro g H locs la hge hR hS hL hst
  obtain ⟨v, hv, ho⟩ := hget_s ho
  obtain ⟨kd, o, rfl, ho⟩ := hpO_s ho
  have hl := (hL.2 i _ hv).1
  have h2 := hk _ _ _ _ _ ho g H locs la hge hR hS hL (fun u hu => (List.mem_cons.mp hu).elim (fun e => e ▸ hl) (hst u))
  cases o with
  | none => exact lv_aload_nN hx hb hd hj (hL.at hv) h2
  | some z => exact lv_aload_n hx hb hd hj (hL.at hv) h2
theorem ok_iconst {cc : ByteArray} {own : String} {nL : Nat} {ret : Option FieldType} {lv pc : Nat} {n : Int} {v : Int32} {nx : Nat} (hd : decode cc pc = .ok (.iconst n, 1)) (hv : Int32.ofInt n = v) (hn : pc + 1 = nx) : HOK cc own nL ret lv pc (o_const v nx) := by
  intro p l e R s m args below meth c cells slots mc ms Q G A g0 w0 q C k hk ls st w σ ho
  obtain ⟨hx, hb, hml, hown, hts, hK, hr, hlk, hZ, hSR, hA, hlv, hcs, hcm, hQ⟩ := C
  subst hn
  intro g H locs la hge hR hS hL hst
  exact lv_iconst hx hb hd hv (hk _ _ _ _ _ ho g H locs la hge hR hS hL (fun u hu => (List.mem_cons.mp hu).elim (fun e => e ▸ trivial) (hst u)))
theorem ok_bipush {cc : ByteArray} {own : String} {nL : Nat} {ret : Option FieldType} {lv pc : Nat} {n : Int} {v : Int32} {nx : Nat} (hd : decode cc pc = .ok (.bipush n, 2)) (hv : (Int8.ofInt n).toInt32 = v) (hn : pc + 2 = nx) : HOK cc own nL ret lv pc (o_const v nx) := by
  intro p l e R s m args below meth c cells slots mc ms Q G A g0 w0 q C k hk ls st w σ ho
  obtain ⟨hx, hb, hml, hown, hts, hK, hr, hlk, hZ, hSR, hA, hlv, hcs, hcm, hQ⟩ := C
  subst hn
  intro g H locs la hge hR hS hL hst
  exact lv_bipush hx hb hd hv (hk _ _ _ _ _ ho g H locs la hge hR hS hL (fun u hu => (List.mem_cons.mp hu).elim (fun e => e ▸ trivial) (hst u)))
theorem ok_sipush {cc : ByteArray} {own : String} {nL : Nat} {ret : Option FieldType} {lv pc : Nat} {n : Int} {v : Int32} {nx : Nat} (hd : decode cc pc = .ok (.sipush n, 3)) (hv : (Int16.ofInt n).toInt32 = v) (hn : pc + 3 = nx) : HOK cc own nL ret lv pc (o_const v nx) := by
  intro p l e R s m args below meth c cells slots mc ms Q G A g0 w0 q C k hk ls st w σ ho
  obtain ⟨hx, hb, hml, hown, hts, hK, hr, hlk, hZ, hSR, hA, hlv, hcs, hcm, hQ⟩ := C
  subst hn
  intro g H locs la hge hR hS hL hst
  exact lv_sipush hx hb hd hv (hk _ _ _ _ _ ho g H locs la hge hR hS hL (fun u hu => (List.mem_cons.mp hu).elim (fun e => e ▸ trivial) (hst u)))
theorem ok_ldc {cc : ByteArray} {own : String} {nL : Nat} {ret : Option FieldType} {lv pc : Nat} {ix : Nat} {v : Int32} {nx : Nat} (hd : decode cc pc = .ok (.ldc ix, 2)) (hw : Cond.constant own ix v ∈ TT) (hn : pc + 2 = nx) : HOK cc own nL ret lv pc (o_const v nx) := by
  intro p l e R s m args below meth c cells slots mc ms Q G A g0 w0 q C k hk ls st w σ ho
  obtain ⟨hx, hb, hml, hown, hts, hK, hr, hlk, hZ, hSR, hA, hlv, hcs, hcm, hQ⟩ := C
  subst hn
  intro g H locs la hge hR hS hL hst
  exact lv_ldc hx hb hown (hts _ hw) hd (hk _ _ _ _ _ ho g H locs la hge hR hS hL (fun u hu => (List.mem_cons.mp hu).elim (fun e => e ▸ trivial) (hst u)))
theorem ok_ldcw {cc : ByteArray} {own : String} {nL : Nat} {ret : Option FieldType} {lv pc : Nat} {ix : Nat} {v : Int32} {nx : Nat} (hd : decode cc pc = .ok (.ldc_w ix, 3)) (hw : Cond.constant own ix v ∈ TT) (hn : pc + 3 = nx) : HOK cc own nL ret lv pc (o_const v nx) := by
  intro p l e R s m args below meth c cells slots mc ms Q G A g0 w0 q C k hk ls st w σ ho
  obtain ⟨hx, hb, hml, hown, hts, hK, hr, hlk, hZ, hSR, hA, hlv, hcs, hcm, hQ⟩ := C
  subst hn
  intro g H locs la hge hR hS hL hst
  exact lv_ldcw hx hb hown (hts _ hw) hd (hk _ _ _ _ _ ho g H locs la hge hR hS hL (fun u hu => (List.mem_cons.mp hu).elim (fun e => e ▸ trivial) (hst u)))
theorem ok_null {cc : ByteArray} {own : String} {nL : Nat} {ret : Option FieldType} {lv pc : Nat} {kd nx : Nat} (hd : decode cc pc = .ok (.aconst_null, 1)) (hn : pc + 1 = nx) : HOK cc own nL ret lv pc (o_null kd nx) := by
  intro p l e R s m args below meth c cells slots mc ms Q G A g0 w0 q C k hk ls st w σ ho
  obtain ⟨hx, hb, hml, hown, hts, hK, hr, hlk, hZ, hSR, hA, hlv, hcs, hcm, hQ⟩ := C
  subst hn
  intro g H locs la hge hR hS hL hst
  exact lv_null hx hb hd (hk _ _ _ _ _ ho g H locs la hge hR hS hL (fun u hu => (List.mem_cons.mp hu).elim (fun e => e ▸ trivial) (hst u)))
theorem ok_istore {cc : ByteArray} {own : String} {nL : Nat} {ret : Option FieldType} {lv pc : Nat} {i nx : Nat} (hd : decode cc pc = .ok (.istore i, 2)) (hi : i < nL) (hn : pc + 2 = nx) : HOK cc own nL ret lv pc (o_istore i nx) := by
  intro p l e R s m args below meth c cells slots mc ms Q G A g0 w0 q C k hk ls st w σ ho
  obtain ⟨hx, hb, hml, hown, hts, hK, hr, hlk, hZ, hSR, hA, hlv, hcs, hcm, hQ⟩ := C
  subst hn
  intro g H locs la hge hR hS hL hst
  obtain ⟨x, r, rfl, ho⟩ := popI_s ho
  exact lv_istore hx hb hd hL.1 hi rfl fun la' h' => hk _ _ _ _ _ ho g H locs la' hge hR hS (hL.store (v := HI x) trivial rfl h') (fun u hu => hst u (List.mem_cons_of_mem _ hu))
theorem ok_istore_n {cc : ByteArray} {own : String} {nL : Nat} {ret : Option FieldType} {lv pc : Nat} {j : Fin 4} {i nx : Nat} (hd : decode cc pc = .ok (.istore_n j, 1)) (hj : (j : Nat) = i) (hi : i < nL) (hn : pc + 1 = nx) : HOK cc own nL ret lv pc (o_istore i nx) := by
  intro p l e R s m args below meth c cells slots mc ms Q G A g0 w0 q C k hk ls st w σ ho
  obtain ⟨hx, hb, hml, hown, hts, hK, hr, hlk, hZ, hSR, hA, hlv, hcs, hcm, hQ⟩ := C
  subst hn
  intro g H locs la hge hR hS hL hst
  obtain ⟨x, r, rfl, ho⟩ := popI_s ho
  exact lv_istore_n hx hb hd hj hL.1 hi rfl fun la' h' => hk _ _ _ _ _ ho g H locs la' hge hR hS (hL.store (v := HI x) trivial rfl h') (fun u hu => hst u (List.mem_cons_of_mem _ hu))
theorem ok_astore {cc : ByteArray} {own : String} {nL : Nat} {ret : Option FieldType} {lv pc : Nat} {i nx : Nat} (hd : decode cc pc = .ok (.astore i, 2)) (hi : i < nL) (hn : pc + 2 = nx) : HOK cc own nL ret lv pc (o_astore i nx) := by
  intro p l e R s m args below meth c cells slots mc ms Q G A g0 w0 q C k hk ls st w σ ho
  obtain ⟨hx, hb, hml, hown, hts, hK, hr, hlk, hZ, hSR, hA, hlv, hcs, hcm, hQ⟩ := C
  subst hn
  intro g H locs la hge hR hS hL hst
  obtain ⟨kd, o, r, rfl, ho⟩ := popO_s ho
  have hl := hst _ List.mem_cons_self
  cases o with
  | none => exact lv_astoreN hx hb hd hL.1 hi rfl fun la' h' => hk _ _ _ _ _ ho g H locs la' hge hR hS (hL.store (v := HO kd none) hl rfl h') (fun u hu => hst u (List.mem_cons_of_mem _ hu))
  | some z => exact lv_astore hx hb hd hL.1 hi rfl fun la' h' => hk _ _ _ _ _ ho g H locs la' hge hR hS (hL.store (v := HR kd z) hl rfl h') (fun u hu => hst u (List.mem_cons_of_mem _ hu))
theorem ok_astore_n {cc : ByteArray} {own : String} {nL : Nat} {ret : Option FieldType} {lv pc : Nat} {j : Fin 4} {i nx : Nat} (hd : decode cc pc = .ok (.astore_n j, 1)) (hj : (j : Nat) = i) (hi : i < nL) (hn : pc + 1 = nx) : HOK cc own nL ret lv pc (o_astore i nx) := by
  intro p l e R s m args below meth c cells slots mc ms Q G A g0 w0 q C k hk ls st w σ ho
  obtain ⟨hx, hb, hml, hown, hts, hK, hr, hlk, hZ, hSR, hA, hlv, hcs, hcm, hQ⟩ := C
  subst hn
  intro g H locs la hge hR hS hL hst
  obtain ⟨kd, o, r, rfl, ho⟩ := popO_s ho
  have hl := hst _ List.mem_cons_self
  cases o with
  | none => exact lv_astore_nN hx hb hd hj hL.1 hi rfl fun la' h' => hk _ _ _ _ _ ho g H locs la' hge hR hS (hL.store (v := HO kd none) hl rfl h') (fun u hu => hst u (List.mem_cons_of_mem _ hu))
  | some z => exact lv_astore_n hx hb hd hj hL.1 hi rfl fun la' h' => hk _ _ _ _ _ ho g H locs la' hge hR hS (hL.store (v := HR kd z) hl rfl h') (fun u hu => hst u (List.mem_cons_of_mem _ hu))
theorem asl_idx {g : HA} {ls : HLs} {i : Nat} {v : HV} (h : lkp ls i = some v) : ∃ k : Nat, (asl g 0 ls)[k]? = some (i, toV g v) := by
  have h1 := asl_mem (g := g) (n := 0) h
  rw [Nat.zero_add] at h1
  exact List.getElem?_of_mem h1
theorem ok_iinc {cc : ByteArray} {own : String} {nL : Nat} {ret : Option FieldType} {lv pc : Nat} {i nx : Nat} {n : Int} {d : Int32} (hd : decode cc pc = .ok (.iinc i n, 3)) (hdd : Int32.ofInt n = d) (hi : i < nL) (hn : pc + 3 = nx) : HOK cc own nL ret lv pc (o_iinc i d nx) := by
  intro p l e R s m args below meth c cells slots mc ms Q G A g0 w0 q C k hk ls st w σ ho
  obtain ⟨hx, hb, hml, hown, hts, hK, hr, hlk, hZ, hSR, hA, hlv, hcs, hcm, hQ⟩ := C
  subst hn
  intro g H locs la hge hR hS hL hst
  obtain ⟨v, hv, ho⟩ := hget_s ho
  obtain ⟨x, rfl, ho⟩ := hpI_s ho
  obtain ⟨kx, hkx⟩ := asl_idx (g := g) hv
  exact lv_iinc hx hb hd hL.1 hkx (by rw [hdd]) hi rfl fun la' h' => hk _ _ _ _ _ ho g H locs la' hge hR hS (hL.store (v := HI (x + d)) trivial rfl h') hst
theorem ok_iadd {cc : ByteArray} {own : String} {nL : Nat} {ret : Option FieldType} {lv pc : Nat} {nx : Nat} (hd : decode cc pc = .ok (.iadd, 1)) (hn : pc + 1 = nx) : HOK cc own nL ret lv pc (o_bin (fun x y => x + y) nx) := by
  intro p l e R s m args below meth c cells slots mc ms Q G A g0 w0 q C k hk ls st w σ ho
  obtain ⟨hx, hb, hml, hown, hts, hK, hr, hlk, hZ, hSR, hA, hlv, hcs, hcm, hQ⟩ := C
  subst hn
  intro g H locs la hge hR hS hL hst
  obtain ⟨y, r0, rfl, ho1⟩ := popI_s ho
  obtain ⟨x, r, rfl, ho⟩ := popI_s ho1
  exact lv_iadd hx hb hd (hk _ _ _ _ _ ho g H locs la hge hR hS hL (fun u hu => (List.mem_cons.mp hu).elim (fun e => e ▸ trivial) (fun h => hst u (List.mem_cons_of_mem _ (List.mem_cons_of_mem _ h)))))
theorem ok_isub {cc : ByteArray} {own : String} {nL : Nat} {ret : Option FieldType} {lv pc : Nat} {nx : Nat} (hd : decode cc pc = .ok (.isub, 1)) (hn : pc + 1 = nx) : HOK cc own nL ret lv pc (o_bin (fun x y => x - y) nx) := by
  intro p l e R s m args below meth c cells slots mc ms Q G A g0 w0 q C k hk ls st w σ ho
  obtain ⟨hx, hb, hml, hown, hts, hK, hr, hlk, hZ, hSR, hA, hlv, hcs, hcm, hQ⟩ := C
  subst hn
  intro g H locs la hge hR hS hL hst
  obtain ⟨y, r0, rfl, ho1⟩ := popI_s ho
  obtain ⟨x, r, rfl, ho⟩ := popI_s ho1
  exact lv_isub hx hb hd (hk _ _ _ _ _ ho g H locs la hge hR hS hL (fun u hu => (List.mem_cons.mp hu).elim (fun e => e ▸ trivial) (fun h => hst u (List.mem_cons_of_mem _ (List.mem_cons_of_mem _ h)))))
theorem ok_imul {cc : ByteArray} {own : String} {nL : Nat} {ret : Option FieldType} {lv pc : Nat} {nx : Nat} (hd : decode cc pc = .ok (.imul, 1)) (hn : pc + 1 = nx) : HOK cc own nL ret lv pc (o_bin (fun x y => x * y) nx) := by
  intro p l e R s m args below meth c cells slots mc ms Q G A g0 w0 q C k hk ls st w σ ho
  obtain ⟨hx, hb, hml, hown, hts, hK, hr, hlk, hZ, hSR, hA, hlv, hcs, hcm, hQ⟩ := C
  subst hn
  intro g H locs la hge hR hS hL hst
  obtain ⟨y, r0, rfl, ho1⟩ := popI_s ho
  obtain ⟨x, r, rfl, ho⟩ := popI_s ho1
  exact lv_imul hx hb hd (hk _ _ _ _ _ ho g H locs la hge hR hS hL (fun u hu => (List.mem_cons.mp hu).elim (fun e => e ▸ trivial) (fun h => hst u (List.mem_cons_of_mem _ (List.mem_cons_of_mem _ h)))))
theorem ok_iand {cc : ByteArray} {own : String} {nL : Nat} {ret : Option FieldType} {lv pc : Nat} {nx : Nat} (hd : decode cc pc = .ok (.iand, 1)) (hn : pc + 1 = nx) : HOK cc own nL ret lv pc (o_bin (fun x y => x &&& y) nx) := by
  intro p l e R s m args below meth c cells slots mc ms Q G A g0 w0 q C k hk ls st w σ ho
  obtain ⟨hx, hb, hml, hown, hts, hK, hr, hlk, hZ, hSR, hA, hlv, hcs, hcm, hQ⟩ := C
  subst hn
  intro g H locs la hge hR hS hL hst
  obtain ⟨y, r0, rfl, ho1⟩ := popI_s ho
  obtain ⟨x, r, rfl, ho⟩ := popI_s ho1
  exact lv_iand hx hb hd (hk _ _ _ _ _ ho g H locs la hge hR hS hL (fun u hu => (List.mem_cons.mp hu).elim (fun e => e ▸ trivial) (fun h => hst u (List.mem_cons_of_mem _ (List.mem_cons_of_mem _ h)))))
theorem ok_ior {cc : ByteArray} {own : String} {nL : Nat} {ret : Option FieldType} {lv pc : Nat} {nx : Nat} (hd : decode cc pc = .ok (.ior, 1)) (hn : pc + 1 = nx) : HOK cc own nL ret lv pc (o_bin (fun x y => x ||| y) nx) := by
  intro p l e R s m args below meth c cells slots mc ms Q G A g0 w0 q C k hk ls st w σ ho
  obtain ⟨hx, hb, hml, hown, hts, hK, hr, hlk, hZ, hSR, hA, hlv, hcs, hcm, hQ⟩ := C
  subst hn
  intro g H locs la hge hR hS hL hst
  obtain ⟨y, r0, rfl, ho1⟩ := popI_s ho
  obtain ⟨x, r, rfl, ho⟩ := popI_s ho1
  exact lv_ior hx hb hd (hk _ _ _ _ _ ho g H locs la hge hR hS hL (fun u hu => (List.mem_cons.mp hu).elim (fun e => e ▸ trivial) (fun h => hst u (List.mem_cons_of_mem _ (List.mem_cons_of_mem _ h)))))
theorem ok_ixor {cc : ByteArray} {own : String} {nL : Nat} {ret : Option FieldType} {lv pc : Nat} {nx : Nat} (hd : decode cc pc = .ok (.ixor, 1)) (hn : pc + 1 = nx) : HOK cc own nL ret lv pc (o_bin (fun x y => x ^^^ y) nx) := by
  intro p l e R s m args below meth c cells slots mc ms Q G A g0 w0 q C k hk ls st w σ ho
  obtain ⟨hx, hb, hml, hown, hts, hK, hr, hlk, hZ, hSR, hA, hlv, hcs, hcm, hQ⟩ := C
  subst hn
  intro g H locs la hge hR hS hL hst
  obtain ⟨y, r0, rfl, ho1⟩ := popI_s ho
  obtain ⟨x, r, rfl, ho⟩ := popI_s ho1
  exact lv_ixor hx hb hd (hk _ _ _ _ _ ho g H locs la hge hR hS hL (fun u hu => (List.mem_cons.mp hu).elim (fun e => e ▸ trivial) (fun h => hst u (List.mem_cons_of_mem _ (List.mem_cons_of_mem _ h)))))
theorem ok_ishl {cc : ByteArray} {own : String} {nL : Nat} {ret : Option FieldType} {lv pc : Nat} {nx : Nat} (hd : decode cc pc = .ok (.ishl, 1)) (hn : pc + 1 = nx) : HOK cc own nL ret lv pc (o_bin (fun x y => x <<< (y &&& 31)) nx) := by
  intro p l e R s m args below meth c cells slots mc ms Q G A g0 w0 q C k hk ls st w σ ho
  obtain ⟨hx, hb, hml, hown, hts, hK, hr, hlk, hZ, hSR, hA, hlv, hcs, hcm, hQ⟩ := C
  subst hn
  intro g H locs la hge hR hS hL hst
  obtain ⟨y, r0, rfl, ho1⟩ := popI_s ho
  obtain ⟨x, r, rfl, ho⟩ := popI_s ho1
  exact lv_ishl hx hb hd (hk _ _ _ _ _ ho g H locs la hge hR hS hL (fun u hu => (List.mem_cons.mp hu).elim (fun e => e ▸ trivial) (fun h => hst u (List.mem_cons_of_mem _ (List.mem_cons_of_mem _ h)))))
theorem ok_ishr {cc : ByteArray} {own : String} {nL : Nat} {ret : Option FieldType} {lv pc : Nat} {nx : Nat} (hd : decode cc pc = .ok (.ishr, 1)) (hn : pc + 1 = nx) : HOK cc own nL ret lv pc (o_bin (fun x y => x >>> (y &&& 31)) nx) := by
  intro p l e R s m args below meth c cells slots mc ms Q G A g0 w0 q C k hk ls st w σ ho
  obtain ⟨hx, hb, hml, hown, hts, hK, hr, hlk, hZ, hSR, hA, hlv, hcs, hcm, hQ⟩ := C
  subst hn
  intro g H locs la hge hR hS hL hst
  obtain ⟨y, r0, rfl, ho1⟩ := popI_s ho
  obtain ⟨x, r, rfl, ho⟩ := popI_s ho1
  exact lv_ishr hx hb hd (hk _ _ _ _ _ ho g H locs la hge hR hS hL (fun u hu => (List.mem_cons.mp hu).elim (fun e => e ▸ trivial) (fun h => hst u (List.mem_cons_of_mem _ (List.mem_cons_of_mem _ h)))))
theorem ok_iushr {cc : ByteArray} {own : String} {nL : Nat} {ret : Option FieldType} {lv pc : Nat} {nx : Nat} (hd : decode cc pc = .ok (.iushr, 1)) (hn : pc + 1 = nx) : HOK cc own nL ret lv pc (o_bin (fun x y => (x.toUInt32 >>> (y.toUInt32 &&& Int32.toUInt32 31)).toInt32) nx) := by
  intro p l e R s m args below meth c cells slots mc ms Q G A g0 w0 q C k hk ls st w σ ho
  obtain ⟨hx, hb, hml, hown, hts, hK, hr, hlk, hZ, hSR, hA, hlv, hcs, hcm, hQ⟩ := C
  subst hn
  intro g H locs la hge hR hS hL hst
  obtain ⟨y, r0, rfl, ho1⟩ := popI_s ho
  obtain ⟨x, r, rfl, ho⟩ := popI_s ho1
  exact lv_iushr hx hb hd rfl (hk _ _ _ _ _ ho g H locs la hge hR hS hL (fun u hu => (List.mem_cons.mp hu).elim (fun e => e ▸ trivial) (fun h => hst u (List.mem_cons_of_mem _ (List.mem_cons_of_mem _ h)))))
theorem ok_idiv {cc : ByteArray} {own : String} {nL : Nat} {ret : Option FieldType} {lv pc : Nat} {nx : Nat} (hd : decode cc pc = .ok (.idiv, 1)) (hn : pc + 1 = nx) : HOK cc own nL ret lv pc (o_dv (fun x y => x / y) nx) := by
  intro p l e R s m args below meth c cells slots mc ms Q G A g0 w0 q C k hk ls st w σ ho
  obtain ⟨hx, hb, hml, hown, hts, hK, hr, hlk, hZ, hSR, hA, hlv, hcs, hcm, hQ⟩ := C
  subst hn
  intro g H locs la hge hR hS hL hst
  obtain ⟨y, r0, rfl, ho1⟩ := popI_s ho
  obtain ⟨x, r, rfl, h0, ho⟩ := popI_s ho1
  exact lv_idiv hx hb hd h0 (hk _ _ _ _ _ ho g H locs la hge hR hS hL (fun u hu => (List.mem_cons.mp hu).elim (fun e => e ▸ trivial) (fun h => hst u (List.mem_cons_of_mem _ (List.mem_cons_of_mem _ h)))))
theorem ok_irem {cc : ByteArray} {own : String} {nL : Nat} {ret : Option FieldType} {lv pc : Nat} {nx : Nat} (hd : decode cc pc = .ok (.irem, 1)) (hn : pc + 1 = nx) : HOK cc own nL ret lv pc (o_dv (fun x y => x - x / y * y) nx) := by
  intro p l e R s m args below meth c cells slots mc ms Q G A g0 w0 q C k hk ls st w σ ho
  obtain ⟨hx, hb, hml, hown, hts, hK, hr, hlk, hZ, hSR, hA, hlv, hcs, hcm, hQ⟩ := C
  subst hn
  intro g H locs la hge hR hS hL hst
  obtain ⟨y, r0, rfl, ho1⟩ := popI_s ho
  obtain ⟨x, r, rfl, h0, ho⟩ := popI_s ho1
  exact lv_irem hx hb hd h0 (hk _ _ _ _ _ ho g H locs la hge hR hS hL (fun u hu => (List.mem_cons.mp hu).elim (fun e => e ▸ trivial) (fun h => hst u (List.mem_cons_of_mem _ (List.mem_cons_of_mem _ h)))))
theorem ok_i2b {cc : ByteArray} {own : String} {nL : Nat} {ret : Option FieldType} {lv pc : Nat} {nx : Nat} (hd : decode cc pc = .ok (.i2b, 1)) (hn : pc + 1 = nx) : HOK cc own nL ret lv pc (o_un (fun x => x.toInt8.toInt32) nx) := by
  intro p l e R s m args below meth c cells slots mc ms Q G A g0 w0 q C k hk ls st w σ ho
  obtain ⟨hx, hb, hml, hown, hts, hK, hr, hlk, hZ, hSR, hA, hlv, hcs, hcm, hQ⟩ := C
  subst hn
  intro g H locs la hge hR hS hL hst
  obtain ⟨x, r, rfl, ho⟩ := popI_s ho
  exact lv_i2b hx hb hd rfl (hk _ _ _ _ _ ho g H locs la hge hR hS hL (fun u hu => (List.mem_cons.mp hu).elim (fun e => e ▸ trivial) (fun h => hst u (List.mem_cons_of_mem _ h))))
theorem ok_i2l {cc : ByteArray} {own : String} {nL : Nat} {ret : Option FieldType} {lv pc : Nat} {nx : Nat} (hd : decode cc pc = .ok (.i2l, 1)) (hn : pc + 1 = nx) : HOK cc own nL ret lv pc (o_i2l nx) := by
  intro p l e R s m args below meth c cells slots mc ms Q G A g0 w0 q C k hk ls st w σ ho
  obtain ⟨hx, hb, hml, hown, hts, hK, hr, hlk, hZ, hSR, hA, hlv, hcs, hcm, hQ⟩ := C
  subst hn
  intro g H locs la hge hR hS hL hst
  obtain ⟨x, r, rfl, ho⟩ := popI_s ho
  exact lv_i2l hx hb hd rfl (hk _ _ _ _ _ ho g H locs la hge hR hS hL (fun u hu => (List.mem_cons.mp hu).elim (fun e => e ▸ trivial) (fun h => hst u (List.mem_cons_of_mem _ h))))
theorem ok_ladd {cc : ByteArray} {own : String} {nL : Nat} {ret : Option FieldType} {lv pc : Nat} {nx : Nat} (hd : decode cc pc = .ok (.ladd, 1)) (hn : pc + 1 = nx) : HOK cc own nL ret lv pc (o_ladd nx) := by
  intro p l e R s m args below meth c cells slots mc ms Q G A g0 w0 q C k hk ls st w σ ho
  obtain ⟨hx, hb, hml, hown, hts, hK, hr, hlk, hZ, hSR, hA, hlv, hcs, hcm, hQ⟩ := C
  subst hn
  intro g H locs la hge hR hS hL hst
  obtain ⟨y, r0, rfl, ho1⟩ := popL_s ho
  obtain ⟨x, r, rfl, ho⟩ := popL_s ho1
  exact lv_ladd hx hb hd (hk _ _ _ _ _ ho g H locs la hge hR hS hL (fun u hu => (List.mem_cons.mp hu).elim (fun e => e ▸ trivial) (fun h => hst u (List.mem_cons_of_mem _ (List.mem_cons_of_mem _ h)))))
theorem ok_if_eq {cc : ByteArray} {own : String} {nL : Nat} {ret : Option FieldType} {lv pc : Nat} {off : Int} {t nx : Nat} (hd : decode cc pc = .ok (.ifCond .eq off, 3)) (ht : (pc : Int) + off = (t : Int)) (hn : pc + 3 = nx) : HOK cc own nL ret lv pc (o_if (fun x => x = 0) t nx) := by
  intro p l e R s m args below meth c cells slots mc ms Q G A g0 w0 q C k hk ls st w σ ho
  obtain ⟨hx, hb, hml, hown, hts, hK, hr, hlk, hZ, hSR, hA, hlv, hcs, hcm, hQ⟩ := C
  subst hn
  intro g H locs la hge hR hS hL hst
  obtain ⟨x, r, rfl, ho⟩ := popI_s ho
  obtain ⟨h1, h2⟩ := ho
  exact lv_if_eq hx hb hd ht (fun h => hk _ _ _ _ _ (h1 h) g H locs la hge hR hS hL (fun u hu => hst u (List.mem_cons_of_mem _ hu))) (fun h => hk _ _ _ _ _ (h2 h) g H locs la hge hR hS hL (fun u hu => hst u (List.mem_cons_of_mem _ hu)))
theorem ok_if_ne {cc : ByteArray} {own : String} {nL : Nat} {ret : Option FieldType} {lv pc : Nat} {off : Int} {t nx : Nat} (hd : decode cc pc = .ok (.ifCond .ne off, 3)) (ht : (pc : Int) + off = (t : Int)) (hn : pc + 3 = nx) : HOK cc own nL ret lv pc (o_if (fun x => x = 0) nx t) := by
  intro p l e R s m args below meth c cells slots mc ms Q G A g0 w0 q C k hk ls st w σ ho
  obtain ⟨hx, hb, hml, hown, hts, hK, hr, hlk, hZ, hSR, hA, hlv, hcs, hcm, hQ⟩ := C
  subst hn
  intro g H locs la hge hR hS hL hst
  obtain ⟨x, r, rfl, ho⟩ := popI_s ho
  obtain ⟨h1, h2⟩ := ho
  exact lv_if_ne hx hb hd ht (fun h => hk _ _ _ _ _ (h2 h) g H locs la hge hR hS hL (fun u hu => hst u (List.mem_cons_of_mem _ hu))) (fun h => hk _ _ _ _ _ (h1 h) g H locs la hge hR hS hL (fun u hu => hst u (List.mem_cons_of_mem _ hu)))
theorem ok_if_lt {cc : ByteArray} {own : String} {nL : Nat} {ret : Option FieldType} {lv pc : Nat} {off : Int} {t nx : Nat} (hd : decode cc pc = .ok (.ifCond .lt off, 3)) (ht : (pc : Int) + off = (t : Int)) (hn : pc + 3 = nx) : HOK cc own nL ret lv pc (o_if (fun x => x < 0) t nx) := by
  intro p l e R s m args below meth c cells slots mc ms Q G A g0 w0 q C k hk ls st w σ ho
  obtain ⟨hx, hb, hml, hown, hts, hK, hr, hlk, hZ, hSR, hA, hlv, hcs, hcm, hQ⟩ := C
  subst hn
  intro g H locs la hge hR hS hL hst
  obtain ⟨x, r, rfl, ho⟩ := popI_s ho
  obtain ⟨h1, h2⟩ := ho
  exact lv_if_lt hx hb hd ht (fun h => hk _ _ _ _ _ (h1 h) g H locs la hge hR hS hL (fun u hu => hst u (List.mem_cons_of_mem _ hu))) (fun h => hk _ _ _ _ _ (h2 h) g H locs la hge hR hS hL (fun u hu => hst u (List.mem_cons_of_mem _ hu)))
theorem ok_if_ge {cc : ByteArray} {own : String} {nL : Nat} {ret : Option FieldType} {lv pc : Nat} {off : Int} {t nx : Nat} (hd : decode cc pc = .ok (.ifCond .ge off, 3)) (ht : (pc : Int) + off = (t : Int)) (hn : pc + 3 = nx) : HOK cc own nL ret lv pc (o_if (fun x => 0 ≤ x) t nx) := by
  intro p l e R s m args below meth c cells slots mc ms Q G A g0 w0 q C k hk ls st w σ ho
  obtain ⟨hx, hb, hml, hown, hts, hK, hr, hlk, hZ, hSR, hA, hlv, hcs, hcm, hQ⟩ := C
  subst hn
  intro g H locs la hge hR hS hL hst
  obtain ⟨x, r, rfl, ho⟩ := popI_s ho
  obtain ⟨h1, h2⟩ := ho
  exact lv_if_ge hx hb hd ht (fun h => hk _ _ _ _ _ (h1 h) g H locs la hge hR hS hL (fun u hu => hst u (List.mem_cons_of_mem _ hu))) (fun h => hk _ _ _ _ _ (h2 h) g H locs la hge hR hS hL (fun u hu => hst u (List.mem_cons_of_mem _ hu)))
theorem ok_if_gt {cc : ByteArray} {own : String} {nL : Nat} {ret : Option FieldType} {lv pc : Nat} {off : Int} {t nx : Nat} (hd : decode cc pc = .ok (.ifCond .gt off, 3)) (ht : (pc : Int) + off = (t : Int)) (hn : pc + 3 = nx) : HOK cc own nL ret lv pc (o_if (fun x => 0 < x) t nx) := by
  intro p l e R s m args below meth c cells slots mc ms Q G A g0 w0 q C k hk ls st w σ ho
  obtain ⟨hx, hb, hml, hown, hts, hK, hr, hlk, hZ, hSR, hA, hlv, hcs, hcm, hQ⟩ := C
  subst hn
  intro g H locs la hge hR hS hL hst
  obtain ⟨x, r, rfl, ho⟩ := popI_s ho
  obtain ⟨h1, h2⟩ := ho
  exact lv_if_gt hx hb hd ht (fun h => hk _ _ _ _ _ (h1 h) g H locs la hge hR hS hL (fun u hu => hst u (List.mem_cons_of_mem _ hu))) (fun h => hk _ _ _ _ _ (h2 h) g H locs la hge hR hS hL (fun u hu => hst u (List.mem_cons_of_mem _ hu)))
theorem ok_if_le {cc : ByteArray} {own : String} {nL : Nat} {ret : Option FieldType} {lv pc : Nat} {off : Int} {t nx : Nat} (hd : decode cc pc = .ok (.ifCond .le off, 3)) (ht : (pc : Int) + off = (t : Int)) (hn : pc + 3 = nx) : HOK cc own nL ret lv pc (o_if (fun x => x ≤ 0) t nx) := by
  intro p l e R s m args below meth c cells slots mc ms Q G A g0 w0 q C k hk ls st w σ ho
  obtain ⟨hx, hb, hml, hown, hts, hK, hr, hlk, hZ, hSR, hA, hlv, hcs, hcm, hQ⟩ := C
  subst hn
  intro g H locs la hge hR hS hL hst
  obtain ⟨x, r, rfl, ho⟩ := popI_s ho
  obtain ⟨h1, h2⟩ := ho
  exact lv_if_le hx hb hd ht (fun h => hk _ _ _ _ _ (h1 h) g H locs la hge hR hS hL (fun u hu => hst u (List.mem_cons_of_mem _ hu))) (fun h => hk _ _ _ _ _ (h2 h) g H locs la hge hR hS hL (fun u hu => hst u (List.mem_cons_of_mem _ hu)))
theorem ok_icmp_eq {cc : ByteArray} {own : String} {nL : Nat} {ret : Option FieldType} {lv pc : Nat} {off : Int} {t nx : Nat} (hd : decode cc pc = .ok (.if_icmp .eq off, 3)) (ht : (pc : Int) + off = (t : Int)) (hn : pc + 3 = nx) : HOK cc own nL ret lv pc (o_icmp (fun x y => x = y) t nx) := by
  intro p l e R s m args below meth c cells slots mc ms Q G A g0 w0 q C k hk ls st w σ ho
  obtain ⟨hx, hb, hml, hown, hts, hK, hr, hlk, hZ, hSR, hA, hlv, hcs, hcm, hQ⟩ := C
  subst hn
  intro g H locs la hge hR hS hL hst
  obtain ⟨y, r0, rfl, ho1⟩ := popI_s ho
  obtain ⟨x, r, rfl, ho⟩ := popI_s ho1
  obtain ⟨h1, h2⟩ := ho
  exact lv_icmp_eq hx hb hd ht (fun h => hk _ _ _ _ _ (h1 h) g H locs la hge hR hS hL (fun u hu => hst u (List.mem_cons_of_mem _ (List.mem_cons_of_mem _ hu)))) (fun h => hk _ _ _ _ _ (h2 h) g H locs la hge hR hS hL (fun u hu => hst u (List.mem_cons_of_mem _ (List.mem_cons_of_mem _ hu))))
theorem ok_icmp_ne {cc : ByteArray} {own : String} {nL : Nat} {ret : Option FieldType} {lv pc : Nat} {off : Int} {t nx : Nat} (hd : decode cc pc = .ok (.if_icmp .ne off, 3)) (ht : (pc : Int) + off = (t : Int)) (hn : pc + 3 = nx) : HOK cc own nL ret lv pc (o_icmp (fun x y => x = y) nx t) := by
  intro p l e R s m args below meth c cells slots mc ms Q G A g0 w0 q C k hk ls st w σ ho
  obtain ⟨hx, hb, hml, hown, hts, hK, hr, hlk, hZ, hSR, hA, hlv, hcs, hcm, hQ⟩ := C
  subst hn
  intro g H locs la hge hR hS hL hst
  obtain ⟨y, r0, rfl, ho1⟩ := popI_s ho
  obtain ⟨x, r, rfl, ho⟩ := popI_s ho1
  obtain ⟨h1, h2⟩ := ho
  exact lv_icmp_ne hx hb hd ht (fun h => hk _ _ _ _ _ (h2 h) g H locs la hge hR hS hL (fun u hu => hst u (List.mem_cons_of_mem _ (List.mem_cons_of_mem _ hu)))) (fun h => hk _ _ _ _ _ (h1 h) g H locs la hge hR hS hL (fun u hu => hst u (List.mem_cons_of_mem _ (List.mem_cons_of_mem _ hu))))
theorem ok_icmp_lt {cc : ByteArray} {own : String} {nL : Nat} {ret : Option FieldType} {lv pc : Nat} {off : Int} {t nx : Nat} (hd : decode cc pc = .ok (.if_icmp .lt off, 3)) (ht : (pc : Int) + off = (t : Int)) (hn : pc + 3 = nx) : HOK cc own nL ret lv pc (o_icmp (fun x y => x < y) t nx) := by
  intro p l e R s m args below meth c cells slots mc ms Q G A g0 w0 q C k hk ls st w σ ho
  obtain ⟨hx, hb, hml, hown, hts, hK, hr, hlk, hZ, hSR, hA, hlv, hcs, hcm, hQ⟩ := C
  subst hn
  intro g H locs la hge hR hS hL hst
  obtain ⟨y, r0, rfl, ho1⟩ := popI_s ho
  obtain ⟨x, r, rfl, ho⟩ := popI_s ho1
  obtain ⟨h1, h2⟩ := ho
  exact lv_icmp_lt hx hb hd ht (fun h => hk _ _ _ _ _ (h1 h) g H locs la hge hR hS hL (fun u hu => hst u (List.mem_cons_of_mem _ (List.mem_cons_of_mem _ hu)))) (fun h => hk _ _ _ _ _ (h2 h) g H locs la hge hR hS hL (fun u hu => hst u (List.mem_cons_of_mem _ (List.mem_cons_of_mem _ hu))))
theorem ok_icmp_ge {cc : ByteArray} {own : String} {nL : Nat} {ret : Option FieldType} {lv pc : Nat} {off : Int} {t nx : Nat} (hd : decode cc pc = .ok (.if_icmp .ge off, 3)) (ht : (pc : Int) + off = (t : Int)) (hn : pc + 3 = nx) : HOK cc own nL ret lv pc (o_icmp (fun x y => y ≤ x) t nx) := by
  intro p l e R s m args below meth c cells slots mc ms Q G A g0 w0 q C k hk ls st w σ ho
  obtain ⟨hx, hb, hml, hown, hts, hK, hr, hlk, hZ, hSR, hA, hlv, hcs, hcm, hQ⟩ := C
  subst hn
  intro g H locs la hge hR hS hL hst
  obtain ⟨y, r0, rfl, ho1⟩ := popI_s ho
  obtain ⟨x, r, rfl, ho⟩ := popI_s ho1
  obtain ⟨h1, h2⟩ := ho
  exact lv_icmp_ge hx hb hd ht (fun h => hk _ _ _ _ _ (h1 h) g H locs la hge hR hS hL (fun u hu => hst u (List.mem_cons_of_mem _ (List.mem_cons_of_mem _ hu)))) (fun h => hk _ _ _ _ _ (h2 h) g H locs la hge hR hS hL (fun u hu => hst u (List.mem_cons_of_mem _ (List.mem_cons_of_mem _ hu))))
theorem ok_icmp_gt {cc : ByteArray} {own : String} {nL : Nat} {ret : Option FieldType} {lv pc : Nat} {off : Int} {t nx : Nat} (hd : decode cc pc = .ok (.if_icmp .gt off, 3)) (ht : (pc : Int) + off = (t : Int)) (hn : pc + 3 = nx) : HOK cc own nL ret lv pc (o_icmp (fun x y => y < x) t nx) := by
  intro p l e R s m args below meth c cells slots mc ms Q G A g0 w0 q C k hk ls st w σ ho
  obtain ⟨hx, hb, hml, hown, hts, hK, hr, hlk, hZ, hSR, hA, hlv, hcs, hcm, hQ⟩ := C
  subst hn
  intro g H locs la hge hR hS hL hst
  obtain ⟨y, r0, rfl, ho1⟩ := popI_s ho
  obtain ⟨x, r, rfl, ho⟩ := popI_s ho1
  obtain ⟨h1, h2⟩ := ho
  exact lv_icmp_gt hx hb hd ht (fun h => hk _ _ _ _ _ (h1 h) g H locs la hge hR hS hL (fun u hu => hst u (List.mem_cons_of_mem _ (List.mem_cons_of_mem _ hu)))) (fun h => hk _ _ _ _ _ (h2 h) g H locs la hge hR hS hL (fun u hu => hst u (List.mem_cons_of_mem _ (List.mem_cons_of_mem _ hu))))
theorem ok_icmp_le {cc : ByteArray} {own : String} {nL : Nat} {ret : Option FieldType} {lv pc : Nat} {off : Int} {t nx : Nat} (hd : decode cc pc = .ok (.if_icmp .le off, 3)) (ht : (pc : Int) + off = (t : Int)) (hn : pc + 3 = nx) : HOK cc own nL ret lv pc (o_icmp (fun x y => x ≤ y) t nx) := by
  intro p l e R s m args below meth c cells slots mc ms Q G A g0 w0 q C k hk ls st w σ ho
  obtain ⟨hx, hb, hml, hown, hts, hK, hr, hlk, hZ, hSR, hA, hlv, hcs, hcm, hQ⟩ := C
  subst hn
  intro g H locs la hge hR hS hL hst
  obtain ⟨y, r0, rfl, ho1⟩ := popI_s ho
  obtain ⟨x, r, rfl, ho⟩ := popI_s ho1
  obtain ⟨h1, h2⟩ := ho
  exact lv_icmp_le hx hb hd ht (fun h => hk _ _ _ _ _ (h1 h) g H locs la hge hR hS hL (fun u hu => hst u (List.mem_cons_of_mem _ (List.mem_cons_of_mem _ hu)))) (fun h => hk _ _ _ _ _ (h2 h) g H locs la hge hR hS hL (fun u hu => hst u (List.mem_cons_of_mem _ (List.mem_cons_of_mem _ hu))))
theorem ok_goto {cc : ByteArray} {own : String} {nL : Nat} {ret : Option FieldType} {lv pc : Nat} {off : Int} {t : Nat} (hd : decode cc pc = .ok (.goto off, 3)) (ht : (pc : Int) + off = (t : Int)) : HOK cc own nL ret lv pc (o_goto t) := by
  intro p l e R s m args below meth c cells slots mc ms Q G A g0 w0 q C k hk ls st w σ ho
  obtain ⟨hx, hb, hml, hown, hts, hK, hr, hlk, hZ, hSR, hA, hlv, hcs, hcm, hQ⟩ := C
  intro g H locs la hge hR hS hL hst
  exact lv_goto hx hb hd ht (hk _ _ _ _ _ ho g H locs la hge hR hS hL hst)
theorem ok_ifnull {cc : ByteArray} {own : String} {nL : Nat} {ret : Option FieldType} {lv pc : Nat} {off : Int} {t nx : Nat} (hd : decode cc pc = .ok (.ifnull off, 3)) (ht : (pc : Int) + off = (t : Int)) (hn : pc + 3 = nx) : HOK cc own nL ret lv pc (o_ifnull t nx) := by
  intro p l e R s m args below meth c cells slots mc ms Q G A g0 w0 q C k hk ls st w σ ho
  obtain ⟨hx, hb, hml, hown, hts, hK, hr, hlk, hZ, hSR, hA, hlv, hcs, hcm, hQ⟩ := C
  subst hn
  intro g H locs la hge hR hS hL hst
  obtain ⟨kd, o, r, rfl, ho⟩ := popO_s ho
  cases o with
  | none => exact lv_ifnullN hx hb hd ht (hk _ _ _ _ _ ho g H locs la hge hR hS hL (fun u hu => hst u (List.mem_cons_of_mem _ hu)))
  | some z => exact lv_ifnull hx hb hd (hk _ _ _ _ _ ho g H locs la hge hR hS hL (fun u hu => hst u (List.mem_cons_of_mem _ hu)))
theorem ok_ifnonnull {cc : ByteArray} {own : String} {nL : Nat} {ret : Option FieldType} {lv pc : Nat} {off : Int} {t nx : Nat} (hd : decode cc pc = .ok (.ifnonnull off, 3)) (ht : (pc : Int) + off = (t : Int)) (hn : pc + 3 = nx) : HOK cc own nL ret lv pc (o_ifnull nx t) := by
  intro p l e R s m args below meth c cells slots mc ms Q G A g0 w0 q C k hk ls st w σ ho
  obtain ⟨hx, hb, hml, hown, hts, hK, hr, hlk, hZ, hSR, hA, hlv, hcs, hcm, hQ⟩ := C
  subst hn
  intro g H locs la hge hR hS hL hst
  obtain ⟨kd, o, r, rfl, ho⟩ := popO_s ho
  cases o with
  | none => exact lv_ifnonnullN hx hb hd (hk _ _ _ _ _ ho g H locs la hge hR hS hL (fun u hu => hst u (List.mem_cons_of_mem _ hu)))
  | some z => exact lv_ifnonnull hx hb hd ht (hk _ _ _ _ _ ho g H locs la hge hR hS hL (fun u hu => hst u (List.mem_cons_of_mem _ hu)))
theorem ok_dup {cc : ByteArray} {own : String} {nL : Nat} {ret : Option FieldType} {lv pc : Nat} {nx : Nat} (hd : decode cc pc = .ok (.dup, 1)) (hn : pc + 1 = nx) : HOK cc own nL ret lv pc (o_dup nx) := by
  intro p l e R s m args below meth c cells slots mc ms Q G A g0 w0 q C k hk ls st w σ ho
  obtain ⟨hx, hb, hml, hown, hts, hK, hr, hlk, hZ, hSR, hA, hlv, hcs, hcm, hQ⟩ := C
  subst hn
  intro g H locs la hge hR hS hL hst
  obtain ⟨v, r, rfl, hc, ho⟩ := pop1_s ho
  exact lv_dup hx hb hd (hc g) (hk _ _ _ _ _ ho g H locs la hge hR hS hL (fun u hu => (List.mem_cons.mp hu).elim (fun e => e ▸ hst v List.mem_cons_self) (hst u)))
theorem ok_pop {cc : ByteArray} {own : String} {nL : Nat} {ret : Option FieldType} {lv pc : Nat} {nx : Nat} (hd : decode cc pc = .ok (.pop, 1)) (hn : pc + 1 = nx) : HOK cc own nL ret lv pc (o_pop nx) := by
  intro p l e R s m args below meth c cells slots mc ms Q G A g0 w0 q C k hk ls st w σ ho
  obtain ⟨hx, hb, hml, hown, hts, hK, hr, hlk, hZ, hSR, hA, hlv, hcs, hcm, hQ⟩ := C
  subst hn
  intro g H locs la hge hR hS hL hst
  obtain ⟨v, r, rfl, hc, ho⟩ := pop1_s ho
  exact lv_pop hx hb hd (hc g) (hk _ _ _ _ _ ho g H locs la hge hR hS hL (fun u hu => hst u (List.mem_cons_of_mem _ hu)))
theorem ok_dupx1 {cc : ByteArray} {own : String} {nL : Nat} {ret : Option FieldType} {lv pc : Nat} {nx : Nat} (hd : decode cc pc = .ok (.dup_x1, 1)) (hn : pc + 1 = nx) : HOK cc own nL ret lv pc (o_dupx1 nx) := by
  intro p l e R s m args below meth c cells slots mc ms Q G A g0 w0 q C k hk ls st w σ ho
  obtain ⟨hx, hb, hml, hown, hts, hK, hr, hlk, hZ, hSR, hA, hlv, hcs, hcm, hQ⟩ := C
  subst hn
  intro g H locs la hge hR hS hL hst
  obtain ⟨a, r0, rfl, hc, ho1⟩ := pop1_s ho
  obtain ⟨b, r, rfl, hc2, ho⟩ := pop1_s ho1
  exact lv_dup_x1 hx hb hd (hc g) (hc2 g) (hk _ _ _ _ _ ho g H locs la hge hR hS hL (fun u hu => by
    simp only [List.mem_cons] at hu hst
    rcases hu with h | h | h | h <;> exact hst u (by simp [h])))
theorem ok_dup2 {cc : ByteArray} {own : String} {nL : Nat} {ret : Option FieldType} {lv pc : Nat} {nx : Nat} (hd : decode cc pc = .ok (.dup2, 1)) (hn : pc + 1 = nx) : HOK cc own nL ret lv pc (o_dup2 nx) := by
  intro p l e R s m args below meth c cells slots mc ms Q G A g0 w0 q C k hk ls st w σ ho
  obtain ⟨hx, hb, hml, hown, hts, hK, hr, hlk, hZ, hSR, hA, hlv, hcs, hcm, hQ⟩ := C
  subst hn
  intro g H locs la hge hR hS hL hst
  obtain ⟨a, r0, rfl, hc, ho1⟩ := pop1_s ho
  obtain ⟨b, r, rfl, hc2, ho⟩ := pop1_s ho1
  exact lv_dup2_11 hx hb hd (hc g) (hc2 g) (hk _ _ _ _ _ ho g H locs la hge hR hS hL (fun u hu => by
    simp only [List.mem_cons] at hu hst
    rcases hu with h | h | h | h | h <;> exact hst u (by simp [h])))
