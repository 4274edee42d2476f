/-! OUR FRAME, 6: switches, and a method's contract out of its conditions -/
theorem swc_s {k : Nat → Prop} {d : Nat} {x : Int32} : ∀ {ps : List (Int32 × Nat)}, swc k d x ps → (∃ q ∈ ps, x = q.1 ∧ k q.2) ∨ ((∀ q ∈ ps, x ≠ q.1) ∧ k d)
  | [], h => Or.inr ⟨fun _ hq => absurd hq List.not_mem_nil, h⟩
  | q :: r, h => by
    by_cases e : x = q.1
    · exact Or.inl ⟨q, List.mem_cons_self, e, h.1 e⟩
    · rcases swc_s (h.2 e) with ⟨p, h1, h2⟩ | ⟨h1, h2⟩
      · exact Or.inl ⟨p, List.mem_cons_of_mem _ h1, h2⟩
      · exact Or.inr ⟨fun p hp => (List.mem_cons.mp hp).elim (fun z => z ▸ e) (h1 p), h2⟩
theorem ok_tsw {cc : ByteArray} {own : String} {nL : Nat} {ret : Option FieldType} {lv pc : Nat} {dflt lo hi : Int} {offs : Array Int} {len d : Nat} {ps : List (Int32 × Nat)} (hd : decode cc pc = .ok (.tableswitch dflt lo hi offs, len)) (hdd : (pc : Int) + dflt = (d : Int)) (h1 : ps.all (fun q => decide (¬ q.1.toInt < lo) && decide (¬ hi < q.1.toInt) && (match offs[(q.1.toInt - lo).toNat]? with | some o => decide ((pc : Int) + o = (q.2 : Int)) | none => false)) = true) (h2 : (List.range (hi - lo + 1).toNat).all (fun (j : Nat) => ps.any fun q => decide (q.1.toInt = lo + (j : Int))) = true) : HOK cc own nL ret lv pc (o_sw ps d) := by
  intro p l e R s m args below meth c cells slots mc ms Q G A g0 w0 q C k hk ls st w σ ho
  obtain ⟨hx, hb, hml, hown, hts, hK, hr, hlk, hZ, hSR, hA, hlv, hcs, hcm, hQ⟩ := C
  intro g H locs la hge hR hS hL hst
  obtain ⟨x, r, rfl, ho1⟩ := popI_s ho
  rcases swc_s ho1 with ⟨q9, hq, rfl, h3⟩ | ⟨h3, h4⟩
  · have hq1 := List.all_eq_true.mp h1 q9 hq
    simp only [Bool.and_eq_true, decide_eq_true_eq] at hq1
    obtain ⟨⟨a1, a2⟩, a3⟩ := hq1
    cases ho9 : offs[(q9.1.toInt - lo).toNat]? with
    | none => rw [ho9] at a3; cases a3
    | some o =>
      rw [ho9] at a3
      exact lv_tableIn hx hb hd a1 a2 ho9 (of_decide_eq_true a3) (hk _ _ _ _ _ h3 g H locs la hge hR hS hL (tail1 hst))
  · refine lv_tableOut hx hb hd ?_ hdd (hk _ _ _ _ _ h4 g H locs la hge hR hS hL (tail1 hst))
    by_cases c1 : x.toInt < lo
    · exact Or.inl c1
    · by_cases c2 : hi < x.toInt
      · exact Or.inr c2
      · exfalso
        have h5 := List.all_eq_true.mp h2 (x.toInt - lo).toNat (List.mem_range.mpr (by omega))
        obtain ⟨q9, hq, h6⟩ := List.any_eq_true.mp h5
        have h7 := of_decide_eq_true h6
        exact h3 q9 hq (Int32.toInt_inj.mp (by rw [h7]; omega))
theorem lsw_off {dflt : Int} {d pc : Nat} (hdd : (pc : Int) + dflt = (d : Int)) {x : Int32} : ∀ {ps : List (Int32 × Nat)} {os : List (Int × Int)}, os = ps.map (fun q => (q.1.toInt, (q.2 : Int) - pc)) → ∀ {k : Nat → Prop}, swc k d x ps → ∃ t : Nat, (pc : Int) + Op.lookupswitch.offset os dflt x.toInt = (t : Int) ∧ k t
  | [], os, e, k, h => by subst e; exact ⟨d, hdd, h⟩
  | q :: r, os, e, k, h => by
    subst e
    rw [List.map_cons, Op.lookupswitch.offset_cons]
    by_cases c : x = q.1
    · rw [if_pos (by rw [c])]
      exact ⟨q.2, by omega, h.1 c⟩
    · rw [if_neg (fun z => c (Int32.toInt_inj.mp z.symm))]
      exact lsw_off hdd rfl (h.2 c)
theorem ok_lsw {cc : ByteArray} {own : String} {nL : Nat} {ret : Option FieldType} {lv pc : Nat} {dflt : Int} {os : Array (Int × Int)} {len d : Nat} {ps : List (Int32 × Nat)} (hd : decode cc pc = .ok (.lookupswitch dflt os, len)) (hdd : (pc : Int) + dflt = (d : Int)) (h1 : os.toList = ps.map (fun q => (q.1.toInt, (q.2 : Int) - pc))) (h2 : (os.toList.zip (os.toList.drop 1)).all (fun (a, next) => a.1 < next.1) = true) : HOK cc own nL ret lv pc (o_sw ps d) := by
  intro p l e R s m args below meth c cells slots mc ms Q G A g0 w0 q C k hk ls st w σ ho
  obtain ⟨hx, hb, hml, hown, hts, hK, hr, hlk, hZ, hSR, hA, hlv, hcs, hcm, hQ⟩ := C
  intro g H locs la hge hR hS hL hst
  obtain ⟨x, r, rfl, ho1⟩ := popI_s ho
  obtain ⟨t, ht, h3⟩ := lsw_off hdd h1 ho1
  exact lv_lookup hx hb hd h2 rfl ht (hk _ _ _ _ _ h3 g H locs la hge hR hS hL (tail1 hst))
def o_lcmp (nx : Nat) : HOp := fun k _ ls st w σ => popL st fun y r => popL r fun x r => k nx ls (HI (lg_cmp x y) :: r) w σ
theorem ok_lcmp {cc : ByteArray} {own : String} {nL : Nat} {ret : Option FieldType} {lv pc : Nat} {nx : Nat} (hd : decode cc pc = .ok (.lcmp, 1)) (hn : pc + 1 = nx) : HOK cc own nL ret lv pc (o_lcmp nx) := by
  intro p l e R s m args below meth c cells slots mc ms Q G A g0 w0 q C k hk ls st w σ ho
  obtain ⟨hx, hb, hml, hown, hts, hK, hr, hlk, hZ, hSR, hA, hlv, hcs, hcm, hQ⟩ := C
  subst hn
  intro g H locs la hge hR hS hL hst
  obtain ⟨y, r0, rfl, ho1⟩ := popL_s ho
  obtain ⟨x, r, rfl, ho2⟩ := popL_s ho1
  exact W.lcmp hx hb hd (hk _ _ _ _ _ ho2 g H locs la hge hR hS hL (cons1 (a := HI _) trivial (tail1 (tail1 hst))))
def o_max (nx : Nat) : HOp := fun k _ ls st w σ => bif Nat.ble st.length 4 then popI st (fun y r => popI r fun x r => k nx ls (HI (if x < y then y else x) :: r) w σ) else False
def o_min (nx : Nat) : HOp := fun k _ ls st w σ => bif Nat.ble st.length 4 then popI st (fun y r => popI r fun x r => k nx ls (HI (if y < x then y else x) :: r) w σ) else False
theorem ok_max {cc : ByteArray} {own : String} {nL : Nat} {ret : Option FieldType} {lv pc : Nat} {ix nx : Nat} (hd : decode cc pc = .ok (.invokestatic ix, 3)) (h1 : Cond.methodLink own ix Lib.Math.max.name ∈ TT) (h2 : Cond.static Lib.Math.max.name ∈ TT) (h3 : Cond.initialized "java/lang/Math" ∈ TT) (h4 : Cond.code Lib.Math.max.name Lib.Math.max.code 2 (some .int) ∈ TT) (hl : 1 ≤ lv) (hn : pc + 3 = nx) : HOK cc own nL ret lv pc (o_max nx) := by
  intro p l e R s m args below meth c cells slots mc ms Q G A g0 w0 q C k hk ls st w σ ho
  obtain ⟨hx, hb, hml, hown, hts, hK, hr, hlk, hZ, hSR, hA, hlv, hcs, hcm, hQ⟩ := C
  subst hn
  intro g H locs la hge hR hS hL hst
  obtain ⟨h9, ho0⟩ := bif_s ho
  obtain ⟨y, r0, rfl, ho1⟩ := popI_s ho0
  obtain ⟨x, r, rfl, ho2⟩ := popI_s ho1
  have h8 := Nat.le_of_ble_eq_true h9
  have h7 : ((r.map (toV g)).map fun v => v.category).sum + 13 ≤ R.locals := by
    have := cat_sum (st := r.map (toV g))
    rw [List.length_map] at this
    simp only [List.length_cons] at h8
    omega
  exact va_mmax hx hb (hml.trans hL.1.1.symm) hown (hts _ h1) (hts _ h2) (hts _ h3) (hts _ h4) (by omega) h7 hcs.1 hcs.2 hd (hk _ _ _ _ _ ho2 g H locs la hge hR hS hL (cons1 (a := HI _) trivial (tail1 (tail1 hst))))
theorem ok_min {cc : ByteArray} {own : String} {nL : Nat} {ret : Option FieldType} {lv pc : Nat} {ix nx : Nat} (hd : decode cc pc = .ok (.invokestatic ix, 3)) (h1 : Cond.methodLink own ix Lib.Math.min.name ∈ TT) (h2 : Cond.static Lib.Math.min.name ∈ TT) (h3 : Cond.initialized "java/lang/Math" ∈ TT) (h4 : Cond.code Lib.Math.min.name Lib.Math.min.code 2 (some .int) ∈ TT) (hl : 1 ≤ lv) (hn : pc + 3 = nx) : HOK cc own nL ret lv pc (o_min nx) := by
  intro p l e R s m args below meth c cells slots mc ms Q G A g0 w0 q C k hk ls st w σ ho
  obtain ⟨hx, hb, hml, hown, hts, hK, hr, hlk, hZ, hSR, hA, hlv, hcs, hcm, hQ⟩ := C
  subst hn
  intro g H locs la hge hR hS hL hst
  obtain ⟨h9, ho0⟩ := bif_s ho
  obtain ⟨y, r0, rfl, ho1⟩ := popI_s ho0
  obtain ⟨x, r, rfl, ho2⟩ := popI_s ho1
  have h8 := Nat.le_of_ble_eq_true h9
  have h7 : ((r.map (toV g)).map fun v => v.category).sum + 13 ≤ R.locals := by
    have := cat_sum (st := r.map (toV g))
    rw [List.length_map] at this
    simp only [List.length_cons] at h8
    omega
  exact va_mmin hx hb (hml.trans hL.1.1.symm) hown (hts _ h1) (hts _ h2) (hts _ h3) (hts _ h4) (by omega) h7 hcs.1 hcs.2 hd (hk _ _ _ _ _ ho2 g H locs la hge hR hS hL (cons1 (a := HI _) trivial (tail1 (tail1 hst))))
/-- the conditions of n steps from a place on; at a cut what stands there -/
noncomputable def wp (ins : Nat → HOp) (B : Nat → Option HKp) (q : HRt) (n : Nat) : HK := Nat.rec (fun _ _ _ _ _ => False) (fun _ ih pc ls st w σ => match B pc with | some P => P ls st w σ | none => ins pc ih q ls st w σ) n
def cutN (heads : Nat → Bool) (I : Nat → Nat → HKp) (N : Nat) : Nat → Option HKp := fun pc => bif heads pc then some (fun ls st w σ => ∃ N', N' < N ∧ I pc N' ls st w σ) else none
def cutA (heads : Nat → Bool) (I : Nat → Nat → HKp) : Nat → Option HKp := fun pc => bif heads pc then some (fun ls st w σ => ∃ N, I pc N ls st w σ) else none
def HOKs (cc : ByteArray) (own : String) (nL : Nat) (ret : Option FieldType) (lv : Nat) (ins : Nat → HOp) : Prop := ∀ pc, HOK cc own nL ret lv pc (ins pc)
section Sound
variable {p : Program} {l : Launch} {e : Env} {R : Room} {s : State} {m : MethodId} {args : Array Value} {below : List Frame} {meth : Method} {c : Code} {cells slots mc ms : Nat} {Q : State → Prop} {G : HG} {A : Nat → Prop} {g0 : HA} {w0 : HW} {q : HRt} {cc : ByteArray} {own : String} {nL : Nat} {ret : Option FieldType} {lv : Nat} {ins : Nat → HOp}
theorem wp_sound (C : HCx p l e R s m args below meth c cells slots mc ms Q G A g0 w0 q cc own nL ret lv) (hins : HOKs cc own nL ret lv ins) {B : Nat → Option HKp} (hB : ∀ pc P, B pc = some P → ∀ ls st w σ, P ls st w σ → Wat p l e R s m args below meth c cells slots Q G A g0 w0 nL pc ls st w σ) : ∀ (n pc : Nat) (ls : HLs) (st : List HV) (w : HW) (σ : HS), wp ins B q n pc ls st w σ → Wat p l e R s m args below meth c cells slots Q G A g0 w0 nL pc ls st w σ := by
  intro n
  induction n with
  | zero => intro pc ls st w σ h; exact h.elim
  | succ n ih =>
    intro pc ls st w σ h
    have h1 : (match B pc with | some P => P ls st w σ | none => ins pc (wp ins B q n) q ls st w σ) := h
    cases hb : B pc with
    | some P => rw [hb] at h1; exact hB pc P hb ls st w σ h1
    | none => rw [hb] at h1; exact hins pc p l e R s m args below meth c cells slots mc ms Q G A g0 w0 q C (wp ins B q n) ih ls st w σ h1
theorem wp_loop (C : HCx p l e R s m args below meth c cells slots mc ms Q G A g0 w0 q cc own nL ret lv) (hins : HOKs cc own nL ret lv ins) {heads : Nat → Bool} {I : Nat → Nat → HKp} {F : Nat} (h : ∀ N pc ls st w σ, heads pc = true → I pc N ls st w σ → ins pc (wp ins (cutN heads I N) q F) q ls st w σ) : ∀ (N pc : Nat) (ls : HLs) (st : List HV) (w : HW) (σ : HS), heads pc = true → I pc N ls st w σ → Wat p l e R s m args below meth c cells slots Q G A g0 w0 nL pc ls st w σ := by
  intro N
  induction N using Nat.strongRecOn with
  | _ N ih =>
    intro pc ls st w σ hh hi
    refine hins pc p l e R s m args below meth c cells slots mc ms Q G A g0 w0 q C (wp ins (cutN heads I N) q F) (fun pc' ls st w σ h' => wp_sound C hins (fun pc2 P hP ls st w σ h2 => ?_) F pc' ls st w σ h') ls st w σ (h N pc ls st w σ hh hi)
    unfold cutN at hP
    cases hb : heads pc2 with
    | false => rw [hb] at hP; cases hP
    | true =>
      rw [hb] at hP
      cases hP
      obtain ⟨N', hN, h3⟩ := h2
      exact ih N' hN pc2 ls st w σ hb h3
theorem wp_all (C : HCx p l e R s m args below meth c cells slots mc ms Q G A g0 w0 q cc own nL ret lv) (hins : HOKs cc own nL ret lv ins) {heads : Nat → Bool} {I : Nat → Nat → HKp} {F n pc : Nat} {ls : HLs} {st : List HV} {w : HW} {σ : HS} (h : ∀ N pc ls st w σ, heads pc = true → I pc N ls st w σ → ins pc (wp ins (cutN heads I N) q F) q ls st w σ) (h0 : wp ins (cutA heads I) q n pc ls st w σ) : Wat p l e R s m args below meth c cells slots Q G A g0 w0 nL pc ls st w σ := by
  refine wp_sound C hins (fun pc2 P hP ls st w σ h2 => ?_) n pc ls st w σ h0
  unfold cutA at hP
  cases hb : heads pc2 with
  | false => rw [hb] at hP; cases hP
  | true =>
    rw [hb] at hP
    cases hP
    obtain ⟨N', h3⟩ := h2
    exact wp_loop C hins h N' pc2 ls st w σ hb h3
end Sound
def loc0 (nL : Nat) (as : List HV) : HLs := as.map some ++ List.replicate (nL - as.length) none
/-- a method's conditions -/
def MVC (ins : Nat → HOp) (nL n : Nat) (sp : HSp) : Prop := ∀ as w σ q, as.length = n → sp as w σ q → ∃ (heads : Nat → Bool) (I : Nat → Nat → HKp) (F F0 : Nat), (∀ N pc ls st w' σ', heads pc = true → I pc N ls st w' σ' → ins pc (wp ins (cutN heads I N) q F) q ls st w' σ') ∧ wp ins (cutA heads I) q F0 0 (loc0 nL as) [] w σ
theorem lkp_args : ∀ {as : List HV} {r j : Nat} {v : HV}, lkp (as.map some ++ List.replicate r none) j = some v → v ∈ as
  | [], 0, j, v, h => by simp [lkp] at h
  | [], r + 1, 0, v, h => by simp [lkp, List.replicate] at h
  | [], r + 1, j + 1, v, h => by
    have h1 : lkp (([] : List HV).map some ++ List.replicate r none) j = some v := by simpa [lkp, List.replicate] using h
    exact lkp_args h1
  | a :: as, r, 0, v, h => by
    simp [lkp] at h
    simp [h]
  | a :: as, r, j + 1, v, h => by
    have h1 : lkp (as.map some ++ List.replicate r none) j = some v := by simpa [lkp] using h
    exact List.mem_cons_of_mem _ (lkp_args h1)
theorem asl_args {g : HA} : ∀ {as : List HV} {r i : Nat}, as.all c1b = true → asl g i (as.map some ++ List.replicate r none) = lv_args i (as.map (toV g))
  | [], 0, i, _ => rfl
  | [], r + 1, i, h => by
    have h1 := asl_args (g := g) (as := []) (r := r) (i := i + 1) h
    simpa [asl, List.replicate, lv_args] using h1
  | a :: as, r, i, h => by
    rw [List.all_cons, Bool.and_eq_true] at h
    have h1 := asl_args (g := g) (as := as) (r := r) (i := i + 1) h.2
    have h2 : ¬ (toV g a).category = 2 := by
      rcases a with x | ⟨k, _ | z⟩ | x
      · exact fun q => by simp [toV, Value.category] at q
      · exact fun q => by simp [toV, Value.category] at q
      · exact fun q => by simp [toV, Value.category] at q
      · exact absurd h.1 (by simp [c1b])
    simp only [List.map_cons, List.cons_append, asl, lv_args, if_neg h2, h1]
theorem cat_c1 {g : HA} {v : HV} (h : c1b v = true) : (toV g v).category = 1 := by
  rcases v with x | ⟨k, _ | z⟩ | x
  · rfl
  · rfl
  · rfl
  · cases h
theorem sl_len : ∀ {vs : List Value}, (∀ v ∈ vs, v.category = 1) → (lg_sl vs).length = vs.length
  | [], _ => rfl
  | a :: r, h => by
    have h1 := sl_len (vs := r) (fun v hv => h v (List.mem_cons_of_mem _ hv))
    have h2 := h a List.mem_cons_self
    unfold lg_sl at h1 ⊢
    rw [List.flatMap_cons, List.length_append, h1, if_neg (by omega)]
    simp
    omega
theorem ctr_of {y : MethodName} {bytes : ByteArray} {maxL lv n : Nat} {ret : Option FieldType} {ins : Nat → HOp} {sp : HSp} {own : String} (hy : plainName y.cls = true) (ho : y.cls = own) (hn : n ≤ maxL) (hins : HOKs bytes own maxL ret lv ins) (hvc : MVC ins maxL n sp) : Ctr y bytes maxL ret lv 0 0 n sp := by
  intro l G A g as w σ K hsp hlv hc1 hlen
  subst ho
  refine Met.ofW (cc := bytes) (maxL := maxL) (ret := ret) hy rfl ?_
  intro p e s m args below meth c s₁ B hml hv
  obtain ⟨rfl, hP⟩ := hv
  obtain ⟨h1, h2, h3, h4, h5, h6⟩ := hP
  have hts : ∀ x ∈ TT, x.before (as.map (toV g)).toArray s = true := TTw (State.WarmedH.refl s) h1
  have C : HCx p l e (headSpec [Cond.code y bytes maxL ret] (rmL lv 0 0)).room s m (as.map (toV g)).toArray below meth c 0 0 0 0 (MQ below (QQ G A g w K) (as.map (toV g)).toArray s 0 0 A) G A g w K bytes y.cls maxL ret lv :=
    ⟨B.exec, B.bytes, hml, findClass_of_methodNamed B.named, hts, h2, B.returns, B.notSynchronized, h3, h4, h6, ⟨Nat.le_refl _, Nat.le_refl _⟩, ⟨Nat.le_refl _, Nat.le_refl _⟩, ⟨Nat.le_refl _, Nat.le_refl _⟩, fun _ _ _ _ => rfl⟩
  obtain ⟨heads, I, F, F1, k1, k2⟩ := hvc as w σ K hlen hsp
  have hW := wp_all C hins k1 k2 g s.heap [] 
  have hc2 : ∀ v ∈ as.map (toV g), v.category = 1 := fun v hv => by
    obtain ⟨u, hu, rfl⟩ := List.mem_map.mp hv
    exact cat_c1 (List.all_eq_true.mp hc1 u hu)
  have hle : (lg_sl (as.map (toV g))).length ≤ maxL := by rw [sl_len hc2, List.length_map, hlen]; exact hn
  rw [lg_entry_eq]
  refine hW _ GE.rf h5 va_S.rf ⟨?_, fun j v hj => ?_⟩ (fun _ h => absurd h List.not_mem_nil)
  · have h9 := lv_entry (as.map (toV g)) (n := maxL) hle
    unfold loc0
    rw [asl_args hc1]
    exact h9
  · have h9 := lkp_args hj
    exact ⟨hlv v h9, cat_c1 (List.all_eq_true.mp hc1 v h9)⟩
