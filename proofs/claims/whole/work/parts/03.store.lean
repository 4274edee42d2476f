/-! OUR FRAME, 1: abstract values (an int, a reference by kind and number, a long), the world (how many of each kind; what rows of references hold), the store of ints; what a heap that holds them is -/
abbrev HV : Type := Int32 ⊕ (Nat × Option Nat) ⊕ Int64
abbrev HI (x : Int32) : HV := Sum.inl x
abbrev HO (k : Nat) (o : Option Nat) : HV := Sum.inr (Sum.inl (k, o))
abbrev HR (k i : Nat) : HV := Sum.inr (Sum.inl (k, some i))
abbrev HL (x : Int64) : HV := Sum.inr (Sum.inr x)
abbrev HA : Type := Nat → Nat → Nat
abbrev HW : Type := (Nat → Nat) × (Nat → Nat → Option Nat)
abbrev HS : Type := Nat → Nat → Nat → Int32
abbrev HLs : Type := List (Option HV)
abbrev HK : Type := Nat → HLs → List HV → HW → HS → Prop
abbrev HKp : Type := HLs → List HV → HW → HS → Prop
abbrev HRt : Type := Option HV → HW → HS → Prop
abbrev HSp : Type := List HV → HW → HS → HRt → Prop
abbrev HOp : Type := HK → HRt → HLs → List HV → HW → HS → Prop
abbrev HG : Type := va_G × (Nat → ClassId) × (Nat → Nat) × (Nat → Nat)
def toV (g : HA) (v : HV) : Value := match v with
  | .inl x => .int x
  | .inr (.inl (_, none)) => .null
  | .inr (.inl (k, some i)) => .ref (g k i)
  | .inr (.inr x) => .long x
def VLv (w : HW) (v : HV) : Prop := match v with
  | .inr (.inl (k, some i)) => i < w.1 k
  | _ => True
def up3 (σ : HS) (k i f : Nat) (v : Int32) : HS := fun a b c => if a = k ∧ b = i ∧ c = f then v else σ a b c
def up2 (r : Nat → Nat → Option Nat) (k j : Nat) (o : Option Nat) : Nat → Nat → Option Nat := fun a b => if a = k ∧ b = j then o else r a b
def frk (k f : Nat) : Option Nat := match k with
  | 0 => (match f with | 0 => some 18 | _ => none)
  | 1 => (match f with | 0 => some 2 | 1 => some 16 | 2 => some 0 | 3 => some 7 | 5 => some 13 | _ => none)
  | 2 => (match f with | 0 => some 15 | 2 => some 13 | 3 => some 13 | 5 => some 13 | _ => none)
  | 3 => (match f with | 4 => some 13 | _ => none)
  | 5 => (match f with | 0 => some 8 | _ => none)
  | 7 => (match f with | 0 => some 12 | _ => none)
  | 8 => (match f with | 0 => some 12 | _ => none)
  | 10 => (match f with | 0 => some 2 | 1 => some 8 | 2 => some 5 | 3 => some 16 | 4 => some 0 | 5 => some 17 | 6 => some 1 | 7 => some 6 | 8 => some 9 | _ => none)
  | 11 => (match f with | 2 => some 20 | 3 => some 20 | 4 => some 20 | 5 => some 20 | 6 => some 20 | 8 => some 20 | 9 => some 20 | 10 => some 20 | 11 => some 20 | 12 => some 21 | 13 => some 20 | 14 => some 20 | 15 => some 20 | 16 => some 20 | 17 => some 20 | 18 => some 20 | 19 => some 20 | 22 => some 20 | 23 => some 20 | 24 => some 20 | 25 => some 20 | 26 => some 20 | 27 => some 20 | 31 => some 20 | 32 => some 20 | 42 => some 20 | 43 => some 20 | _ => none)
  | _ => none
/-- which fields are references, and to what; kinds from 30 on are objects that are being made -/
def fr (w : HW) (k i f : Nat) : Option (Nat × Option Nat) := match k with
  | 0 => (match f with | 0 => some (18, some 0) | _ => none)
  | 1 => (match f with | 0 => some (2, some 0) | 1 => some (16, some 0) | 2 => some (0, some 0) | 3 => some (7, some 0) | 5 => some (13, some 3) | _ => none)
  | 2 => (match f with | 0 => some (15, some 0) | 2 => some (13, some 0) | 3 => some (13, some 1) | 5 => some (13, some 2) | _ => none)
  | 3 => (match f with | 4 => some (13, some (i + 4)) | _ => none)
  | 5 => (match f with | 0 => some (8, some 0) | _ => none)
  | 7 => (match f with | 0 => some (12, some (1 + i)) | _ => none)
  | 8 => (match f with | 0 => some (12, some 0) | _ => none)
  | 10 => (match f with | 0 => some (2, some 0) | 1 => some (8, some 0) | 2 => some (5, some 0) | 3 => some (16, some 0) | 4 => some (0, some 0) | 5 => some (17, some 0) | 6 => some (1, some 0) | 7 => some (6, some 0) | 8 => some (9, w.2 10 0) | _ => none)
  | 11 => (match f with | 2 => some (20, some 0) | 3 => some (20, some 1) | 4 => some (20, some 2) | 5 => some (20, some 3) | 6 => some (20, some 4) | 8 => some (20, some 5) | 9 => some (20, some 6) | 10 => some (20, some 7) | 11 => some (20, some 8) | 12 => some (21, some 0) | 13 => some (20, some 9) | 14 => some (20, some 10) | 15 => some (20, some 11) | 16 => some (20, some 12) | 17 => some (20, some 13) | 18 => some (20, some 14) | 19 => some (20, some 15) | 22 => some (20, some 16) | 23 => some (20, some 17) | 24 => some (20, some 18) | 25 => some (20, some 19) | 26 => some (20, some 20) | 27 => some (20, some 21) | 31 => some (20, some 22) | 32 => some (20, some 23) | 42 => some (20, some 24) | 43 => some (20, some 25) | _ => none)
  | k => bif Nat.ble 30 k then (match frk (k - 30) f with | some t => some (t, w.2 k f) | none => none) else none
def fld (w : HW) (σ : HS) (k i f : Nat) : HV := match fr w k i f with
  | some r => .inr (.inl r)
  | none => .inl (σ k i f)
def nfr (k : Nat) : Nat := match k with
  | 0 => 3 | 1 => 6 | 2 => 6 | 3 => 5 | 4 => 6 | 5 => 4 | 6 => 4 | 7 => 2 | 8 => 2 | 9 => 8 | 10 => 9 | 11 => 44 | _ => 0
def nfd (k : Nat) : Nat := match k with
  | 0 => 3 | 1 => 6 | 2 => 6 | 3 => 5 | 4 => 6 | 5 => 4 | 6 => 4 | 7 => 2 | 8 => 2 | 9 => 8 | 10 => 9 | 11 => 44 | k => bif Nat.ble 30 k then nfr (k - 30) else 0
def al (k i : Nat) : Nat := match k with
  | 12 => 60
  | 13 => (match i with | 0 => 4 | 1 => 14 | 2 => 10 | 3 => 119 | _ => 14)
  | 15 => 10 | 16 => 4 | 17 => 2 | 18 => 100
  | 20 => (match i with | 4 => 140 | 5 => 14 | 6 => 14 | 7 => 14 | 9 => 4 | 10 => 4 | 11 => 4 | 12 => 4 | 13 => 4 | 14 => 4 | 15 => 60 | 16 => 100 | 17 => 100 | 18 => 100 | 19 => 100 | 20 => 100 | 21 => 100 | 22 => 2 | 23 => 120 | 24 => 100 | 25 => 60 | _ => 10)
  | 21 => 4
  | _ => 0
/-- rows of references; the kind of what they hold; the number of a row's class -/
def isRA (k : Nat) : Bool := Nat.ble 15 k && Nat.ble k 18
def ek (k : Nat) : Nat := match k with
  | 15 => 3 | 16 => 4 | 17 => 7 | _ => 9
def ac (k : Nat) : Nat := match k with
  | 12 => 0 | 13 => 1 | 20 => 1 | 21 => 2 | 15 => 3 | 16 => 4 | 17 => 5 | _ => 6
def ent (G : HG) (g : HA) (w : HW) (σ : HS) (k i : Nat) : va_E :=
  bif Nat.blt k 12 then .inr (k, (List.range (nfd k)).map fun f => toV g (fld w σ k i f))
  else bif isRA k then .inl (G.2.1 (ac k), al k i, .inr (.inr (.inr (.inr fun j => (w.2 k j).map (g (ek k))))))
  else bif Nat.ble 30 k then .inr (k - 30, (List.range (nfd k)).map fun f => toV g (fld w σ k i f))
  else .inl (G.2.1 (ac k), al k i, .inl (σ k i))
def tysG (G : HG) : List (ClassId × FieldType) := [(G.2.1 0, .byte), (G.2.1 1, .int), (G.2.1 2, .boolean), (G.2.1 3, .object RX3), (G.2.1 4, .object RX4), (G.2.1 5, .object RX7), (G.2.1 6, .object RX9)]
def GE (g : HA) (w : HW) (g' : HA) (w' : HW) : Prop := ∀ k i, i < w.1 k → i < w'.1 k ∧ g' k i = g k i
def Wf (w : HW) : Prop := (∀ k i f kk o, i < w.1 k → fr w k i f = some (kk, some o) → o < w.1 kk) ∧ (∀ k j o, isRA k = true → w.2 k j = some o → o < w.1 (ek k)) ∧ (∀ k, isRA k = true → w.1 k ≤ 1) ∧ w.1 10 ≤ 1
/-- of the objects that are being made one a kind may live -/
def lvd (w : HW) (k i : Nat) : Prop := Nat.ble 30 k = true → w.2 k 99 = some i
theorem lvd_lt {w : HW} {k i : Nat} (h : k < 22) : lvd w k i := fun h2 => absurd (Nat.le_of_ble_eq_true h2) (by omega)
def RepS (G : HG) (A : Nat → Prop) (g : HA) (w : HW) (σ : HS) (H : Heap) : Prop :=
  (∀ k i, k < 42 → i < w.1 k → lvd w k i → va_at G.1 vwCl (g k i, ent G g w σ k i) H ∧ A (g k i)) ∧
  (∀ k i k' i', k < 42 → k' < 42 → i < w.1 k → i' < w.1 k' → lvd w k i → lvd w k' i' → g k i = g k' i' → k = k' ∧ i = i') ∧ ((∀ c, g 43 c = G.2.2.1 c ∧ g 44 c = G.2.2.2 c) ∧ w.1 43 = 7 ∧ w.1 44 = 6) ∧ Wf w
theorem RepS.at {G : HG} {A : Nat → Prop} {g : HA} {w : HW} {σ : HS} {H : Heap} (hR : RepS G A g w σ H) {k i : Nat} (hk : k < 22) (hi : i < w.1 k) : va_at G.1 vwCl (g k i, ent G g w σ k i) H ∧ A (g k i) := hR.1 k i (by omega) hi (lvd_lt hk)
theorem GE.rf {g : HA} {w : HW} : GE g w g w := fun _ _ h => ⟨h, rfl⟩
theorem GE.tr {g g' g'' : HA} {w w' w'' : HW} (h1 : GE g w g' w') (h2 : GE g' w' g'' w'') : GE g w g'' w'' := fun k i h =>
  ⟨(h2 k i (h1 k i h).1).1, ((h2 k i (h1 k i h).1).2).trans (h1 k i h).2⟩
theorem toV_ge {g g' : HA} {w w' : HW} (h : GE g w g' w') {v : HV} (hv : VLv w v) : toV g' v = toV g v ∧ VLv w' v := by
  rcases v with x | ⟨k, _ | i⟩ | x
  · exact ⟨rfl, trivial⟩
  · exact ⟨rfl, trivial⟩
  · exact ⟨congrArg Value.ref (h k i hv).2, (h k i hv).1⟩
  · exact ⟨rfl, trivial⟩
theorem map_ge {g g' : HA} {w w' : HW} (h : GE g w g' w') : ∀ {st : List HV}, (∀ v ∈ st, VLv w v) → st.map (toV g') = st.map (toV g) ∧ ∀ v ∈ st, VLv w' v
  | [], _ => ⟨rfl, fun _ hv => absurd hv List.not_mem_nil⟩
  | a :: r, hs => by
    have h1 := toV_ge h (hs a List.mem_cons_self)
    have h2 := map_ge h (st := r) (fun v hv => hs v (List.mem_cons_of_mem _ hv))
    exact ⟨by rw [List.map_cons, List.map_cons, h1.1, h2.1], fun v hv => (List.mem_cons.mp hv).elim (fun e => e ▸ h1.2) (h2.2 v)⟩
theorem up3_ne {σ : HS} {k i f k' i' : Nat} {v : Int32} (h : ¬ (k' = k ∧ i' = i)) : up3 σ k i f v k' i' = σ k' i' := by
  funext c
  exact if_neg fun q => h ⟨q.1, q.2.1⟩
theorem up3_row (σ : HS) (k i f : Nat) (v : Int32) : up3 σ k i f v k i = upd (σ k i) f v := by
  funext c
  by_cases h : c = f
  · subst h; simp [up3, upd]
  · simp [up3, upd, h]
theorem ent_congr {G : HG} {g : HA} {w : HW} {σ σ' : HS} {k i : Nat} (h : σ' k i = σ k i) : ent G g w σ' k i = ent G g w σ k i := by
  simp only [ent, fld, h]
theorem RepS.updL {G : HG} {A : Nat → Prop} {g : HA} {w : HW} {σ σ' : HS} {H H1 : Heap} (hR : RepS G A g w σ H) {k i : Nat} (hk : k < 42) (hi : i < w.1 k) (hl : lvd w k i) (he : va_at G.1 vwCl (g k i, ent G g w σ' k i) H1) (ho : ∀ q : Nat, q ≠ g k i → H1[q]? = H[q]?) (hσ : ∀ k' i', ¬ (k' = k ∧ i' = i) → σ' k' i' = σ k' i') : RepS G A g w σ' H1 := by
  refine ⟨fun k' i' hk' hi' hl' => ?_, hR.2⟩
  by_cases h : k' = k ∧ i' = i
  · obtain ⟨rfl, rfl⟩ := h
    exact ⟨he, (hR.1 _ _ hk hi hl).2⟩
  · rw [ent_congr (hσ _ _ h)]
    exact ⟨(hR.1 k' i' hk' hi' hl').1.kept (ho _ fun e => h (hR.2.1 _ _ _ _ hk' hk hi' hi hl' hl e)), (hR.1 k' i' hk' hi' hl').2⟩
theorem RepS.upd {G : HG} {A : Nat → Prop} {g : HA} {w : HW} {σ σ' : HS} {H H1 : Heap} (hR : RepS G A g w σ H) {k i : Nat} (hk : k < 22) (hi : i < w.1 k) (he : va_at G.1 vwCl (g k i, ent G g w σ' k i) H1) (ho : ∀ q : Nat, q ≠ g k i → H1[q]? = H[q]?) (hσ : ∀ k' i', ¬ (k' = k ∧ i' = i) → σ' k' i' = σ k' i') : RepS G A g w σ' H1 := hR.updL (by omega) hi (lvd_lt hk) he ho hσ
theorem set_map {n f : Nat} (F F' : Nat → Value) (h1 : ∀ j, j ≠ f → F' j = F j) (hf : f < n) : ((List.range n).map F).set f (F' f) = (List.range n).map F' := by
  apply List.ext_getElem?
  intro j
  by_cases hj : j = f
  · subst hj
    rw [List.getElem?_set_self (by simpa using hf)]
    simp [hf]
  · rw [List.getElem?_set_ne (Ne.symm hj)]
    by_cases hn : j < n
    · simp [hn, h1 j hj]
    · simp [hn]
theorem ent_obj {G : HG} {g : HA} {w : HW} {σ : HS} {k i : Nat} (hk : Nat.blt k 12 = true) : ent G g w σ k i = .inr (k, (List.range (nfd k)).map fun f => toV g (fld w σ k i f)) := by
  simp [ent, hk]
theorem ent_row {G : HG} {g : HA} {w : HW} {σ : HS} {k i : Nat} (hk : Nat.blt k 12 = false) (h2 : isRA k = false) (h3 : Nat.ble 30 k = false) : ent G g w σ k i = .inl (G.2.1 (ac k), al k i, .inl (σ k i)) := by
  simp only [ent, hk, h2, h3, cond_false]
theorem ent_raw {G : HG} {g : HA} {w : HW} {σ : HS} {k i : Nat} (h3 : Nat.ble 30 k = true) : ent G g w σ k i = .inr (k - 30, (List.range (nfd k)).map fun f => toV g (fld w σ k i f)) := by
  have h1 : Nat.blt k 12 = false := by
    cases h : Nat.blt k 12 with
    | false => rfl
    | true => rw [Nat.blt_eq] at h; have := Nat.le_of_ble_eq_true h3; omega
  have h2 : isRA k = false := by
    cases h : isRA k with
    | false => rfl
    | true =>
      unfold isRA at h
      rw [Bool.and_eq_true] at h
      have h4 := Nat.le_of_ble_eq_true h.2
      have := Nat.le_of_ble_eq_true h3
      omega
  simp only [ent, h1, h2, h3, cond_false, cond_true]
theorem ent_ref {G : HG} {g : HA} {w : HW} {σ : HS} {k i : Nat} (hk : Nat.blt k 12 = false) (h2 : isRA k = true) : ent G g w σ k i = .inl (G.2.1 (ac k), al k i, .inr (.inr (.inr (.inr fun j => (w.2 k j).map (g (ek k)))))) := by
  simp [ent, hk, h2]
theorem fld_put {g : HA} {w : HW} {σ : HS} {k i f : Nat} {v : Int32} (hf : fr w k i f = none) (hn : f < nfd k) : ((List.range (nfd k)).map fun f => toV g (fld w σ k i f)).set f (.int v) = (List.range (nfd k)).map fun f' => toV g (fld w (up3 σ k i f v) k i f') := by
  have h := set_map (n := nfd k) (f := f) (fun f => toV g (fld w σ k i f)) (fun f' => toV g (fld w (up3 σ k i f v) k i f')) (fun j hj => by
    show toV g (fld w (up3 σ k i f v) k i j) = _
    have : up3 σ k i f v k i j = σ k i j := if_neg fun q => hj q.2.2
    simp only [fld, this]) hn
  have e : toV g (fld w (up3 σ k i f v) k i f) = .int v := by
    have : up3 σ k i f v k i f = v := if_pos ⟨rfl, rfl, rfl⟩
    simp only [fld, hf, this]
    rfl
  rw [← h]
  show _ = ((List.range (nfd k)).map _).set f (toV g (fld w (up3 σ k i f v) k i f))
  rw [e]
theorem va_one {D : va_G} {cl : List vw_C} {q : Nat × va_E} {H : Heap} (h : va_at D cl q H) : va_P D cl [q] H := by
  intro k r hk
  cases k with
  | zero => rw [List.getElem?_cons_zero] at hk; cases hk; exact h
  | succ k => rw [List.getElem?_cons_succ] at hk; simp at hk
section HX
variable {p : Program} {l : Launch} {e : Env} {R : Room} {s : State} {m : MethodId} {args : Array Value} {below : List Frame} {meth : Method} {c : Code} {H : Heap} {locs : List Loc} {cells slots : Nat} {Q : State → Prop}
variable {cc : ByteArray} {pc : Nat} {ls : Array Slot} {rest : List Value} {D : va_G} {cl : List vw_C} {A : Nat → Prop} {a : Nat} {tys : List (ClassId × FieldType)} {H0 : Heap}
theorem hx_put (hexec : p.tables.exec = Jvm.exec) (hb : c.code = cc) {own C : String} {T : u_T} {N ci index : Nat} {Ts : List Cond} (hts : ∀ w ∈ Ts, w.before args s = true) (hin : ∀ w ∈ u_ws C T N, w ∈ Ts) (ty0 : Nat → FieldType) (hty : ∀ k, k < N → parseFieldDescriptor (T k).2.2.1 = some (ty0 k)) (hnm : ∀ a, a < N → ∀ b, b < N → a ≠ b → (T a).2.1 ≠ (T b).2.1) (hown : s.vm.findClass own = some m.cls) (hK : va_K D cl tys s) {fs : List Value} (hat : va_at D cl (a, .inr (ci, fs)) H) (hc : cl[ci]? = some (C, T, N)) (k : Nat) (hk : k < N) (hlink : (Cond.fieldLink own index (T k).1 (T k).2.1 (T k).2.2.1).before args s = true) (hfin : (T k).2.2.2 = false) {ty : FieldType} {v : Value} (hd : parseFieldDescriptor (T k).2.2.1 = some ty) (hn : narrow ty v = v) (hfit : fits ty v = true) (hl : k < fs.length)
    (hdg : decode cc pc = .ok (.putfield index, 3)) (kk : ∀ (H1 : Heap) (sl : Nat), va_at D cl (a, .inr (ci, fs.set k v)) H1 → H1.size = H.size → (∀ q : Nat, q ≠ a → H1[q]? = H[q]?) → W p l e R s m args below meth c H1 (locs ++ [⟨a, sl⟩]) cells slots Q (F0 m (pc + 3) ls rest)) : W p l e R s m args below meth c H locs cells slots Q (F0 m pc ls (v :: .ref a :: rest)) := by
  have hap := va_apart (own := own) hts hin ty0 hty hnm hK hc
  obtain ⟨r, h1, cell, q1, q2, q3, q4⟩ := hat
  have hr : r = (C, T, N) := Option.some.inj (h1.symm.trans hc)
  subst hr
  obtain ⟨hS, hfc, kC, hkC, hkind⟩ := hK.1 ci _ hc
  obtain ⟨cf, kf, fi, f, hi, hsl⟩ := hS k hk
  have hlay := hts _ (hin _ (u_in_lay hk))
  unfold u_lay at hlay
  rw [if_neg (by rw [hfin]; decide)] at hlay
  have hst := (u_facts hfc hkC (u_lays hts hin hk) hi).1
  have h6 := u_store hfc hkC hkind hlay hi hd hn hfit
  refine W.putK hexec hb (f := f) ⟨hown, hlink, ⟨_, _, _, hi⟩, hst⟩ (by rw [q2]; exact h6) q1 q3 (by rw [hsl]; exact k2_hasslot (q4 k hk)) rfl rfl hdg fun H' e1 e2 e3 => ?_
  rw [hsl] at e1 ⊢
  exact kk H' _ ⟨_, hc, t_OB.to (V := updV (vp_V fs) k v) ⟨_, e1, q2, q3, t_set q4 hap hk v⟩ (fun j _ => vp_updV_set hl v j)⟩ e2 e3
theorem hx_putN (hexec : p.tables.exec = Jvm.exec) (hb : c.code = cc) {own C host : String} {T : u_T} {N ci index : Nat} {Ts : List Cond} (hts : ∀ w ∈ Ts, w.before args s = true) (hin : ∀ w ∈ u_ws C T N, w ∈ Ts) (ty0 : Nat → FieldType) (hty : ∀ k, k < N → parseFieldDescriptor (T k).2.2.1 = some (ty0 k)) (hnm : ∀ a, a < N → ∀ b, b < N → a ≠ b → (T a).2.1 ≠ (T b).2.1) (hown : s.vm.findClass own = some m.cls) (hK : va_K D cl tys s) {fs : List Value} (hat : va_at D cl (a, .inr (ci, fs)) H) (hc : cl[ci]? = some (C, T, N)) (k : Nat) (hk : k < N) (hlink : (Cond.fieldLinkNest own index (T k).1 (T k).2.1 (T k).2.2.1 host).before args s = true) (hfin : (T k).2.2.2 = false) {ty : FieldType} {v : Value} (hd : parseFieldDescriptor (T k).2.2.1 = some ty) (hn : narrow ty v = v) (hfit : fits ty v = true) (hl : k < fs.length)
    (hdg : decode cc pc = .ok (.putfield index, 3)) (kk : ∀ (H1 : Heap) (sl : Nat), va_at D cl (a, .inr (ci, fs.set k v)) H1 → H1.size = H.size → (∀ q : Nat, q ≠ a → H1[q]? = H[q]?) → W p l e R s m args below meth c H1 (locs ++ [⟨a, sl⟩]) cells slots Q (F0 m (pc + 3) ls rest)) : W p l e R s m args below meth c H locs cells slots Q (F0 m pc ls (v :: .ref a :: rest)) := by
  have hap := va_apart (own := own) hts hin ty0 hty hnm hK hc
  obtain ⟨r, h1, cell, q1, q2, q3, q4⟩ := hat
  have hr : r = (C, T, N) := Option.some.inj (h1.symm.trans hc)
  subst hr
  obtain ⟨hS, hfc, kC, hkC, hkind⟩ := hK.1 ci _ hc
  obtain ⟨cf, kf, fi, f, hi, hsl⟩ := hS k hk
  have hlay := hts _ (hin _ (u_in_lay hk))
  unfold u_lay at hlay
  rw [if_neg (by rw [hfin]; decide)] at hlay
  have hst := (u_facts hfc hkC (u_lays hts hin hk) hi).1
  have h6 := u_store hfc hkC hkind hlay hi hd hn hfit
  refine va_WputK hexec hb (f := f) hown hlink hi hst (by rw [q2]; exact h6) q1 q3 (by rw [hsl]; exact k2_hasslot (q4 k hk)) rfl rfl hdg fun H' e1 e2 e3 => ?_
  rw [hsl] at e1 ⊢
  exact kk H' _ ⟨_, hc, t_OB.to (V := updV (vp_V fs) k v) ⟨_, e1, q2, q3, t_set q4 hap hk v⟩ (fun j _ => vp_updV_set hl v j)⟩ e2 e3
theorem hx_iast (hexec : p.tables.exec = Jvm.exec) (hb : c.code = cc) (hK : va_K D cl tys s) {t0 : Nat} {cA : ClassId} {n : Nat} {f : Nat → Int32} (hat : va_at D cl (a, .inl (cA, n, .inl f)) H) (ht : tys[t0]? = some (cA, .int)) {i : Int32} {x : Int32} (hin : vp_in i n) (hdg : decode cc pc = .ok (.iastore, 1))
    (kk : ∀ (H1 : Heap) (sl : Nat), va_at D cl (a, .inl (cA, n, .inl (upd f i.toNatClampNeg x))) H1 → H1.size = H.size → (∀ q : Nat, q ≠ a → H1[q]? = H[q]?) → W p l e R s m args below meth c H1 (locs ++ [⟨a, sl⟩]) cells slots Q (F0 m (pc + 1) ls rest)) : W p l e R s m args below meth c H locs cells slots Q (F0 m pc ls (.int x :: .int i :: .ref a :: rest)) := by
  refine W.iast hexec hb hat ((hK.2 t0 _ ht).1 n (fun j => .int (f j))) (fun q => by cases q) (by show ¬ (i < 0 ∨ (arrV _ _ _).slots.size ≤ _); rw [arrV_size]; exact hin) rfl rfl hdg fun H1 e z oq => ?_
  refine kk H1 _ ?_ z oq
  show H1[a]? = some (vp_cell _ _)
  rw [e]
  show some ((vp_cell cA (n, .inl f)).setSlot _ _) = _
  rw [vp_cell_i, vp_cell_i, arrV_store]
  congr 2
  funext q
  by_cases hq : q = i.toNatClampNeg
  · subst hq
    simp [updV, upd]
  · simp [updV, upd, hq]
theorem hx_bast (hexec : p.tables.exec = Jvm.exec) (hb : c.code = cc) (hK : va_K D cl tys s) {t0 : Nat} {cA : ClassId} {n : Nat} {f : Nat → Int32} (hat : va_at D cl (a, .inl (cA, n, .inl f)) H) (ht : tys[t0]? = some (cA, .byte)) {i : Int32} {x : Int32} (hin : vp_in i n) (hdg : decode cc pc = .ok (.bastore, 1))
    (kk : ∀ (H1 : Heap) (sl : Nat), va_at D cl (a, .inl (cA, n, .inl (upd f i.toNatClampNeg x.toInt8.toInt32))) H1 → H1.size = H.size → (∀ q : Nat, q ≠ a → H1[q]? = H[q]?) → W p l e R s m args below meth c H1 (locs ++ [⟨a, sl⟩]) cells slots Q (F0 m (pc + 1) ls rest)) : W p l e R s m args below meth c H locs cells slots Q (F0 m pc ls (.int x :: .int i :: .ref a :: rest)) := by
  refine W.bast hexec hb hat ((hK.2 t0 _ ht).1 n (fun j => .int (f j))) (fun q => by cases q) (by show ¬ (i < 0 ∨ (arrV _ _ _).slots.size ≤ _); rw [arrV_size]; exact hin) rfl rfl hdg fun H1 e z oq => ?_
  refine kk H1 _ ?_ z oq
  show H1[a]? = some (vp_cell _ _)
  rw [e]
  show some ((vp_cell cA (n, .inl f)).setSlot _ _) = _
  rw [← vp_nar_byte, vp_cell_i, vp_cell_i, arrV_store]
  congr 2
  funext q
  by_cases hq : q = i.toNatClampNeg
  · subst hq
    simp [updV, upd, vp_nar]
    try rfl
  · simp [updV, upd, hq]
theorem hx_zast (hexec : p.tables.exec = Jvm.exec) (hb : c.code = cc) (hK : va_K D cl tys s) {t0 : Nat} {cA : ClassId} {n : Nat} {f : Nat → Int32} (hat : va_at D cl (a, .inl (cA, n, .inl f)) H) (ht : tys[t0]? = some (cA, .boolean)) {i : Int32} {x : Int32} (hin : vp_in i n) (hnr : narrow .boolean (.int x) = .int x) (hdg : decode cc pc = .ok (.bastore, 1))
    (kk : ∀ (H1 : Heap) (sl : Nat), va_at D cl (a, .inl (cA, n, .inl (upd f i.toNatClampNeg x))) H1 → H1.size = H.size → (∀ q : Nat, q ≠ a → H1[q]? = H[q]?) → W p l e R s m args below meth c H1 (locs ++ [⟨a, sl⟩]) cells slots Q (F0 m (pc + 1) ls rest)) : W p l e R s m args below meth c H locs cells slots Q (F0 m pc ls (.int x :: .int i :: .ref a :: rest)) := by
  refine W.zast hexec hb hat ((hK.2 t0 _ ht).1 n (fun j => .int (f j))) (fun q => by cases q) (by show ¬ (i < 0 ∨ (arrV _ _ _).slots.size ≤ _); rw [arrV_size]; exact hin) rfl rfl hdg fun H1 e z oq => ?_
  refine kk H1 _ ?_ z oq
  show H1[a]? = some (vp_cell _ _)
  rw [e, hnr]
  show some ((vp_cell cA (n, .inl f)).setSlot _ _) = _
  rw [vp_cell_i, vp_cell_i, arrV_store]
  congr 2
  funext q
  by_cases hq : q = i.toNatClampNeg
  · subst hq
    simp [updV, upd]
  · simp [updV, upd, hq]
end HX
