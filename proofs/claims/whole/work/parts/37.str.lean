/-! Strings: steps -/
def o_str (c nx : Nat) : HOp := fun k _ ls st w σ => k nx ls (HR 43 c :: st) w σ
theorem ok_str {cc : ByteArray} {nL : Nat} {ret : Option FieldType} {lv pc cn ix nx : Nat} {tx : String} (hp : ∀ G s, SRf G s → vk_R RX5 ix tx (G.2.2.1 cn) s) (hc : cn < 7) (hd : decode cc pc = .ok (.ldc ix, 2)) (hn : pc + 2 = nx) : HOK cc RX5 nL ret lv pc (o_str cn nx) := by
  intro p l e R s m args below meth c cells slots mc ms Q G A g0 w0 q C k hk ls st w σ ho
  obtain ⟨hx, hb, hml, hown, hts, hK, hr, hlk, hZ, hSR, hA, hlv, hcs, hcm, hQ⟩ := C
  subst hn
  intro g H locs la hge hR hS hL hst
  have h1 := hk _ _ _ _ _ ho g H locs la hge hR hS hL (cons1 (a := HR 43 cn) (by show cn < w.1 43; rw [hR.2.2.1.2.1]; exact hc) hst)
  refine va_ldcS hx hb hown (hp G s hSR) hd ?_
  rw [← (hR.2.2.1.1 cn).1]
  exact h1
def o_cst (x : Int32) (nx : Nat) : HOp := fun k _ ls st w σ => k nx ls (HI x :: st) w σ
theorem ok_gsC {cc : ByteArray} {nL : Nat} {ret : Option FieldType} {lv pc nx : Nat} {own : String} {ix : Nat} (hd : decode cc pc = .ok (.getstatic ix, 3)) (hw : Cond.fieldLink own ix "java/lang/String" "COMPACT_STRINGS" "Z" ∈ TT) (hn : pc + 3 = nx) : HOK cc own nL ret lv pc (o_cst 1 nx) := by
  intro p l e R s m args below meth c cells slots mc ms Q G A g0 w0 q C k hk ls st w σ ho
  obtain ⟨hx, hb, hml, hown, hts, hK, hr, hlk, hZ, hSR, hA, hlv, hcs, hcm, hQ⟩ := C
  subst hn
  intro g H locs la hge hR hS hL hst
  have h1 := hk _ _ _ _ _ ho g H locs la hge hR hS hL (cons1 (a := HI 1) trivial hst)
  exact va_gets hx hb hZ.2.1 hS hown (hts _ hw) (fun _ h => h) hd h1
/-- the formatter: an object, or null -/
def o_fmt (nx : Nat) : HOp := fun k _ ls st w σ => k nx ls (HR 43 6 :: st) w σ ∧ k nx ls (HO 43 none :: st) w σ
theorem ok_gsF {cc : ByteArray} {nL : Nat} {ret : Option FieldType} {lv pc nx : Nat} {own : String} {ix : Nat} (hd : decode cc pc = .ok (.getstatic ix, 3)) (hw : Cond.fieldLink own ix "jdk/internal/util/Preconditions" "SIOOBE_FORMATTER" "Ljava/util/function/BiFunction;" ∈ TT) (hn : pc + 3 = nx) : HOK cc own nL ret lv pc (o_fmt nx) := by
  intro p l e R s m args below meth c cells slots mc ms Q G A g0 w0 q C k hk ls st w σ ho
  obtain ⟨hx, hb, hml, hown, hts, hK, hr, hlk, hZ, hSR, hA, hlv, hcs, hcm, hQ⟩ := C
  subst hn
  intro g H locs la hge hR hS hL hst
  have h1 := hk _ _ _ _ _ ho.1 g H locs la hge hR hS hL (cons1 (a := HR 43 6) (by show 6 < w.1 43; rw [hR.2.2.1.2.1]; decide) hst)
  have h2 := hk _ _ _ _ _ ho.2 g H locs la hge hR hS hL (cons1 (a := HO 43 none) trivial hst)
  rcases hZ.2.2 with hz | hz
  · exact va_gets hx hb hz hS hown (hts _ hw) (fun _ h => h) hd h2
  · refine va_gets hx hb hz hS hown (hts _ hw) (fun _ h => h) hd ?_
    rw [← (hR.2.2.1.1 6).1]
    exact h1
def o_sval (nx : Nat) : HOp := fun k _ ls st w σ => popR st fun kk c r => bif Nat.beq kk 43 && Nat.blt c 6 then k nx ls (HR 44 c :: r) w σ else False
theorem ok_sval {cc : ByteArray} {nL : Nat} {ret : Option FieldType} {lv pc nx : Nat} {own : String} {ix : Nat} (hd : decode cc pc = .ok (.getfield ix, 3)) (hw : Cond.fieldLink own ix "java/lang/String" "value" "[B" ∈ TT) (hn : pc + 3 = nx) : HOK cc own nL ret lv pc (o_sval nx) := by
  intro p l e R s m args below meth c cells slots mc ms Q G A g0 w0 q C k hk ls st w σ ho
  obtain ⟨hx, hb, hml, hown, hts, hK, hr, hlk, hZ, hSR, hA, hlv, hcs, hcm, hQ⟩ := C
  subst hn
  intro g H locs la hge hR hS hL hst
  obtain ⟨kk, c, r, rfl, ho1⟩ := popR_s ho
  obtain ⟨h9, ho2⟩ := bif_s ho1
  rw [Bool.and_eq_true] at h9
  obtain rfl := Nat.eq_of_beq_eq_true h9.1
  have hc : c < 6 := by simpa using h9.2
  have h1 := hk _ _ _ _ _ ho2 g H locs la hge hR hS hL (cons1 (a := HR 44 c) (by show c < w.1 44; rw [hR.2.2.1.2.2]; exact hc) (tail1 hst))
  have h2 := vk_getf hx hb (hZ.1.1 c hc).2.2.1 hS hown (hts _ hw) (fun _ h => h) hd (kk := by rw [← (hR.2.2.1.1 c).2]; exact h1)
  rw [← (hR.2.2.1.1 c).1] at h2
  exact h2
def o_scod (nx : Nat) : HOp := fun k _ ls st w σ => popR st fun kk c r => bif Nat.beq kk 43 && Nat.blt c 6 then k nx ls (HI 0 :: r) w σ else False
theorem ok_scod {cc : ByteArray} {nL : Nat} {ret : Option FieldType} {lv pc nx : Nat} {own : String} {ix : Nat} (hd : decode cc pc = .ok (.getfield ix, 3)) (hw : Cond.fieldLink own ix "java/lang/String" "coder" "B" ∈ TT) (hn : pc + 3 = nx) : HOK cc own nL ret lv pc (o_scod nx) := by
  intro p l e R s m args below meth c cells slots mc ms Q G A g0 w0 q C k hk ls st w σ ho
  obtain ⟨hx, hb, hml, hown, hts, hK, hr, hlk, hZ, hSR, hA, hlv, hcs, hcm, hQ⟩ := C
  subst hn
  intro g H locs la hge hR hS hL hst
  obtain ⟨kk, c, r, rfl, ho1⟩ := popR_s ho
  obtain ⟨h9, ho2⟩ := bif_s ho1
  rw [Bool.and_eq_true] at h9
  obtain rfl := Nat.eq_of_beq_eq_true h9.1
  have hc : c < 6 := by simpa using h9.2
  have h1 := hk _ _ _ _ _ ho2 g H locs la hge hR hS hL (cons1 (a := HI 0) trivial (tail1 hst))
  have h2 := vk_getf hx hb (hZ.1.1 c hc).2.1 hS hown (hts _ hw) (fun _ h => h) hd h1
  rw [← (hR.2.2.1.1 c).1] at h2
  exact h2
theorem ok_str0 {cc : ByteArray} {nL : Nat} {ret : Option FieldType} {lv pc nx : Nat} (hd : decode cc pc = .ok (.ldc 35, 2)) (hn : pc + 2 = nx) : HOK cc RX5 nL ret lv pc (o_str 0 nx) := ok_str (fun _ _ h => h.1) (by decide) hd hn
theorem ok_str1 {cc : ByteArray} {nL : Nat} {ret : Option FieldType} {lv pc nx : Nat} (hd : decode cc pc = .ok (.ldc 65, 2)) (hn : pc + 2 = nx) : HOK cc RX5 nL ret lv pc (o_str 1 nx) := ok_str (fun _ _ h => h.2.1) (by decide) hd hn
theorem ok_str2 {cc : ByteArray} {nL : Nat} {ret : Option FieldType} {lv pc nx : Nat} (hd : decode cc pc = .ok (.ldc 73, 2)) (hn : pc + 2 = nx) : HOK cc RX5 nL ret lv pc (o_str 2 nx) := ok_str (fun _ _ h => h.2.2.1) (by decide) hd hn
theorem ok_str3 {cc : ByteArray} {nL : Nat} {ret : Option FieldType} {lv pc nx : Nat} (hd : decode cc pc = .ok (.ldc 78, 2)) (hn : pc + 2 = nx) : HOK cc RX5 nL ret lv pc (o_str 3 nx) := ok_str (fun _ _ h => h.2.2.2.1) (by decide) hd hn
theorem ok_str4 {cc : ByteArray} {nL : Nat} {ret : Option FieldType} {lv pc nx : Nat} (hd : decode cc pc = .ok (.ldc 83, 2)) (hn : pc + 2 = nx) : HOK cc RX5 nL ret lv pc (o_str 4 nx) := ok_str (fun _ _ h => h.2.2.2.2.1) (by decide) hd hn
theorem ok_str5 {cc : ByteArray} {nL : Nat} {ret : Option FieldType} {lv pc nx : Nat} (hd : decode cc pc = .ok (.ldc 88, 2)) (hn : pc + 2 = nx) : HOK cc RX5 nL ret lv pc (o_str 5 nx) := ok_str (fun _ _ h => h.2.2.2.2.2) (by decide) hd hn
def o_tlen (nx : Nat) : HOp := fun k _ ls st w σ => popR st fun kk c r => bif Nat.beq kk 44 && Nat.blt c 6 then k nx ls (HI (nI (slen.getD c 0)) :: r) w σ else False
theorem ok_tlen {cc : ByteArray} {own : String} {nL : Nat} {ret : Option FieldType} {lv pc : Nat} {nx : Nat} (hd : decode cc pc = .ok (.arraylength, 1)) (hn : pc + 1 = nx) : HOK cc own nL ret lv pc (o_tlen nx) := by
  intro p l e R s m args below meth c cells slots mc ms Q G A g0 w0 q C k hk ls st w σ ho
  obtain ⟨hx, hb, hml, hown, hts, hK, hr, hlk, hZ, hSR, hA, hlv, hcs, hcm, hQ⟩ := C
  subst hn
  intro g H locs la hge hR hS hL hst
  obtain ⟨kk, c, r, rfl, ho1⟩ := popR_s ho
  obtain ⟨h9, ho2⟩ := bif_s ho1
  rw [Bool.and_eq_true] at h9
  obtain rfl := Nat.eq_of_beq_eq_true h9.1
  have hc : c < 6 := by simpa using h9.2
  have h1 := hk _ _ _ _ _ ho2 g H locs la hge hR hS hL (cons1 (a := HI (nI (slen.getD c 0))) trivial (tail1 hst))
  have h2 := va_tlen hx hb (hZ.1.1 c hc).2.2.2 hS (v := nI (slen.getD c 0)) rfl hd h1
  rw [← (hR.2.2.1.1 c).2] at h2
  exact h2
def o_tbld (nx : Nat) : HOp := fun k _ ls st w σ => popI st fun x r => popR r fun kk c r => bif Nat.beq kk 44 && Nat.blt c 6 then vp_in x (slen.getD c 0) ∧ k nx ls (HI ((sbyt.getD c []).getD x.toNatClampNeg 0) :: r) w σ else False
theorem ok_tbld {cc : ByteArray} {own : String} {nL : Nat} {ret : Option FieldType} {lv pc : Nat} {nx : Nat} (hd : decode cc pc = .ok (.baload, 1)) (hn : pc + 1 = nx) : HOK cc own nL ret lv pc (o_tbld nx) := by
  intro p l e R s m args below meth c cells slots mc ms Q G A g0 w0 q C k hk ls st w σ ho
  obtain ⟨hx, hb, hml, hown, hts, hK, hr, hlk, hZ, hSR, hA, hlv, hcs, hcm, hQ⟩ := C
  subst hn
  intro g H locs la hge hR hS hL hst
  obtain ⟨x, r0, rfl, ho0⟩ := popI_s ho
  obtain ⟨kk, c, r, rfl, ho1⟩ := popR_s ho0
  obtain ⟨h9, hin, ho2⟩ := bif_s ho1
  rw [Bool.and_eq_true] at h9
  obtain rfl := Nat.eq_of_beq_eq_true h9.1
  have hc : c < 6 := by simpa using h9.2
  have h1 := hk _ _ _ _ _ ho2 g H locs la hge hR hS hL (cons1 (a := HI _) trivial (tail1 (tail1 hst)))
  have h2 := va_tb hx hb (hZ.1.1 c hc).2.2.2 hS hin rfl hd h1
  rw [← (hR.2.2.1.1 c).2] at h2
  exact h2
theorem ok_i2c {cc : ByteArray} {own : String} {nL : Nat} {ret : Option FieldType} {lv pc : Nat} {nx : Nat} (hd : decode cc pc = .ok (.i2c, 1)) (hn : pc + 1 = nx) : HOK cc own nL ret lv pc (o_un (fun x => (x.toUInt32 % 65536).toInt32) nx) := by
  intro p l e R s m args below meth c cells slots mc ms Q G A g0 w0 q C k hk ls st w σ ho
  obtain ⟨hx, hb, hml, hown, hts, hK, hr, hlk, hZ, hSR, hA, hlv, hcs, hcm, hQ⟩ := C
  subst hn
  intro g H locs la hge hR hS hL hst
  obtain ⟨x, r, rfl, ho⟩ := popI_s ho
  exact lv_i2c hx hb hd rfl (hk _ _ _ _ _ ho g H locs la hge hR hS hL (cons1 (a := HI _) trivial (tail1 hst)))
