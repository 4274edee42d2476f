/-! OUR FRAME, 1: abstract values (an int, a reference by kind and number, a long), the world (how many of each kind; what rows of references hold), the store of ints; what a heap that holds them is -/
abbrev HV : Type := Int32 ⊕ (Nat × Option Nat) ⊕ Int64
abbrev HI (x : Int32) : HV := Sum.inl x
abbrev HO (k : Nat) (o : Option Nat) : HV := Sum.inr (Sum.inl (k, o))
abbrev HR (k i : Nat) : HV := Sum.inr (Sum.inl (k, some i))
abbrev HL (x : Int64) : HV := Sum.inr (Sum.inr x)
abbrev HA : Type := Nat → Nat → Nat
abbrev HW : Type := (Nat → Nat) × (Nat → Nat → Option Nat)
abbrev HS : Type := Nat → Nat → Nat → Int32
abbrev HLs : Type := List (Option HV)
abbrev HK : Type := Nat → HLs → List HV → HW → HS → Prop
abbrev HKp : Type := HLs → List HV → HW → HS → Prop
abbrev HRt : Type := Option HV → HW → HS → Prop
abbrev HSp : Type := List HV → HW → HS → HRt → Prop
abbrev HOp : Type := HK → HRt → HLs → List HV → HW → HS → Prop
abbrev HG : Type := va_G × (Nat → ClassId) × (Nat → Nat) × (Nat → Nat)
def toV (g : HA) (v : HV) : Value := match v with
  | .inl x => .int x
  | .inr (.inl (_, none)) => .null
  | .inr (.inl (k, some i)) => .ref (g k i)
  | .inr (.inr x) => .long x
def VLv (w : HW) (v : HV) : Prop := match v with
  | .inr (.inl (k, some i)) => i < w.1 k
  | _ => True
def up3 (σ : HS) (k i f : Nat) (v : Int32) : HS := fun a b c => if a = k ∧ b = i ∧ c = f then v else σ a b c
def up2 (r : Nat → Nat → Option Nat) (k j : Nat) (o : Option Nat) : Nat → Nat → Option Nat := fun a b => if a = k ∧ b = j then o else r a b
def frk (k f : Nat) : Option Nat := match k with
  | 0 => (match f with | 0 => some 18 | _ => none)
  | 1 => (match f with | 0 => some 2 | 1 => some 16 | 2 => some 0 | 3 => some 7 | 5 => some 13 | _ => none)
  | 2 => (match f with | 0 => some 15 | 2 => some 13 | 3 => some 13 | 5 => some 13 | _ => none)
  | 3 => (match f with | 4 => some 13 | _ => none)
  | 5 => (match f with | 0 => some 8 | _ => none)
  | 7 => (match f with | 0 => some 12 | _ => none)
  | 8 => (match f with | 0 => some 12 | _ => none)
  | 10 => (match f with | 0 => some 2 | 1 => some 8 | 2 => some 5 | 3 => some 16 | 4 => some 0 | 5 => some 17 | 6 => some 1 | 7 => some 6 | 8 => some 9 | _ => none)
  | 11 => (match f with | 2 => some 20 | 3 => some 20 | 4 => some 20 | 5 => some 20 | 6 => some 20 | 8 => some 20 | 9 => some 20 | 10 => some 20 | 11 => some 20 | 12 => some 21 | 13 => some 20 | 14 => some 20 | 15 => some 20 | 16 => some 20 | 17 => some 20 | 18 => some 20 | 19 => some 20 | 22 => some 20 | 23 => some 20 | 24 => some 20 | 25 => some 20 | 26 => some 20 | 27 => some 20 | 31 => some 20 | 32 => some 20 | 42 => some 20 | 43 => some 20 | _ => none)
  | _ => none
/-- which fields are references, and to what; kinds from 30 on are objects that are being made -/
def fr (w : HW) (k i f : Nat) : Option (Nat × Option Nat) := match k with
  | 0 => (match f with | 0 => some (18, some 0) | _ => none)
  | 1 => (match f with | 0 => some (2, some 0) | 1 => some (16, some 0) | 2 => some (0, some 0) | 3 => some (7, some 0) | 5 => some (13, some 3) | _ => none)
  | 2 => (match f with | 0 => some (15, some 0) | 2 => some (13, some 0) | 3 => some (13, some 1) | 5 => some (13, some 2) | _ => none)
  | 3 => (match f with | 4 => some (13, some (i + 4)) | _ => none)
  | 5 => (match f with | 0 => some (8, some 0) | _ => none)
  | 7 => (match f with | 0 => some (12, some (1 + i)) | _ => none)
  | 8 => (match f with | 0 => some (12, some 0) | _ => none)
  | 10 => (match f with | 0 => some (2, some 0) | 1 => some (8, some 0) | 2 => some (5, some 0) | 3 => some (16, some 0) | 4 => some (0, some 0) | 5 => some (17, some 0) | 6 => some (1, some 0) | 7 => some (6, some 0) | 8 => some (9, w.2 10 0) | _ => none)
  | 11 => (match f with | 2 => some (20, some 0) | 3 => some (20, some 1) | 4 => some (20, some 2) | 5 => some (20, some 3) | 6 => some (20, some 4) | 8 => some (20, some 5) | 9 => some (20, some 6) | 10 => some (20, some 7) | 11 => some (20, some 8) | 12 => some (21, some 0) | 13 => some (20, some 9) | 14 => some (20, some 10) | 15 => some (20, some 11) | 16 => some (20, some 12) | 17 => some (20, some 13) | 18 => some (20, some 14) | 19 => some (20, some 15) | 22 => some (20, some 16) | 23 => some (20, some 17) | 24 => some (20, some 18) | 25 => some (20, some 19) | 26 => some (20, some 20) | 27 => some (20, some 21) | 31 => some (20, some 22) | 32 => some (20, some 23) | 42 => some (20, some 24) | 43 => some (20, some 25) | _ => none)
  | k => bif Nat.ble 30 k then (match frk (k - 30) f with | some t => some (t, w.2 k f) | none => none) else none
def fld (w : HW) (σ : HS) (k i f : Nat) : HV := match fr w k i f with
  | some r => .inr (.inl r)
  | none => .inl (σ k i f)
def nfr (k : Nat) : Nat := match k with
  | 0 => 3 | 1 => 6 | 2 => 6 | 3 => 5 | 4 => 6 | 5 => 4 | 6 => 4 | 7 => 2 | 8 => 2 | 9 => 8 | 10 => 9 | 11 => 44 | _ => 0
def nfd (k : Nat) : Nat := match k with
  | 0 => 3 | 1 => 6 | 2 => 6 | 3 => 5 | 4 => 6 | 5 => 4 | 6 => 4 | 7 => 2 | 8 => 2 | 9 => 8 | 10 => 9 | 11 => 44 | k => bif Nat.ble 30 k then nfr (k - 30) else 0
def al (k i : Nat) : Nat := match k with
  | 12 => 60
  | 13 => (match i with | 0 => 4 | 1 => 14 | 2 => 10 | 3 => 119 | _ => 14)
  | 15 => 10 | 16 => 4 | 17 => 2 | 18 => 100
  | 20 => (match i with | 4 => 140 | 5 => 14 | 6 => 14 | 7 => 14 | 9 => 4 | 10 => 4 | 11 => 4 | 12 => 4 | 13 => 4 | 14 => 4 | 15 => 60 | 16 => 100 | 17 => 100 | 18 => 100 | 19 => 100 | 20 => 100 | 21 => 100 | 22 => 2 | 23 => 120 | 24 => 100 | 25 => 60 | _ => 10)
  | 21 => 4
  | _ => 0
/-- rows of references; the kind of what they hold; the number of a row's class -/
def isRA (k : Nat) : Bool := Nat.ble 15 k && Nat.ble k 18
def ek (k : Nat) : Nat := match k with
  | 15 => 3 | 16 => 4 | 17 => 7 | _ => 9
def ac (k : Nat) : Nat := match k with
  | 12 => 0 | 13 => 1 | 20 => 1 | 21 => 2 | 15 => 3 | 16 => 4 | 17 => 5 | _ => 6
def ent (G : HG) (g : HA) (w : HW) (σ : HS) (k i : Nat) : va_E :=
  bif Nat.blt k 12 then .inr (k, (List.range (nfd k)).map fun f => toV g (fld w σ k i f))
  else bif isRA k then .inl (G.2.1 (ac k), al k i, .inr (.inr (.inr (.inr fun j => (w.2 k j).map (g (ek k))))))
  else bif Nat.ble 30 k then .inr (k - 30, (List.range (nfd k)).map fun f => toV g (fld w σ k i f))
  else .inl (G.2.1 (ac k), al k i, .inl (σ k i))
def tysG (G : HG) : List (ClassId × FieldType) := [(G.2.1 0, .byte), (G.2.1 1, .int), (G.2.1 2, .boolean), (G.2.1 3, .object RX3), (G.2.1 4, .object RX4), (G.2.1 5, .object RX7), (G.2.1 6, .object RX9)]
def GE (g : HA) (w : HW) (g' : HA) (w' : HW) : Prop := ∀ k i, i < w.1 k → i < w'.1 k ∧ g' k i = g k i
def Wf (w : HW) : Prop := (∀ k i f kk o, i < w.1 k → fr w k i f = some (kk, some o) → o < w.1 kk) ∧ (∀ k j o, isRA k = true → w.2 k j = some o → o < w.1 (ek k)) ∧ (∀ k, isRA k = true → w.1 k ≤ 1) ∧ w.1 10 ≤ 1
/-- of the objects that are being made one a kind may live -/
def lvd (w : HW) (k i : Nat) : Prop := Nat.ble 30 k = true → w.2 k 99 = some i
theorem lvd_lt {w : HW} {k i : Nat} (h : k < 22) : lvd w k i := fun h2 => absurd (Nat.le_of_ble_eq_true h2) (by omega)
def RepS (G : HG) (A : Nat → Prop) (g : HA) (w : HW) (σ : HS) (H : Heap) : Prop :=
  (∀ k i, k < 42 → i < w.1 k → lvd w k i → va_at G.1 vwCl (g k i, ent G g w σ k i) H ∧ A (g k i)) ∧
  (∀ k i k' i', k < 42 → k' < 42 → i < w.1 k → i' < w.1 k' → lvd w k i → lvd w k' i' → g k i = g k' i' → k = k' ∧ i = i') ∧ ((∀ c, g 43 c = G.2.2.1 c ∧ g 44 c = G.2.2.2 c) ∧ w.1 43 = 7 ∧ w.1 44 = 6) ∧ Wf w
theorem RepS.at {G : HG} {A : Nat → Prop} {g : HA} {w : HW} {σ : HS} {H : Heap} (hR : RepS G A g w σ H) {k i : Nat} (hk : k < 22) (hi : i < w.1 k) : va_at G.1 vwCl (g k i, ent G g w σ k i) H ∧ A (g k i) := hR.1 k i (by omega) hi (lvd_lt hk)
theorem GE.rf {g : HA} {w : HW} : GE g w g w := fun _ _ h => ⟨h, rfl⟩
theorem GE.tr {g g' g'' : HA} {w w' w'' : HW} (h1 : GE g w g' w') (h2 : GE g' w' g'' w'') : GE g w g'' w'' := fun k i h =>
  ⟨(h2 k i (h1 k i h).1).1, ((h2 k i (h1 k i h).1).2).trans (h1 k i h).2⟩
theorem toV_ge {g g' : HA} {w w' : HW} (h : GE g w g' w') {v : HV} (hv : VLv w v) : toV g' v = toV g v ∧ VLv w' v := by
  rcases v with x | ⟨k, _ | i⟩ | x
  · exact ⟨rfl, trivial⟩
  · exact ⟨rfl, trivial⟩
  · exact ⟨congrArg Value.ref (h k i hv).2, (h k i hv).1⟩
  · exact ⟨rfl, trivial⟩
theorem map_ge {g g' : HA} {w w' : HW} (h : GE g w g' w') : ∀ {st : List HV}, (∀ v ∈ st, VLv w v) → st.map (toV g') = st.map (toV g) ∧ ∀ v ∈ st, VLv w' v
  | [], _ => ⟨rfl, fun _ hv => absurd hv List.not_mem_nil⟩
  | a :: r, hs => by
    have h1 := toV_ge h (hs a List.mem_cons_self)
    have h2 := map_ge h (st := r) (fun v hv => hs v (List.mem_cons_of_mem _ hv))
    exact ⟨by rw [List.map_cons, List.map_cons, h1.1, h2.1], fun v hv => (List.mem_cons.mp hv).elim (fun e => e ▸ h1.2) (h2.2 v)⟩
theorem up3_ne {σ : HS} {k i f k' i' : Nat} {v : Int32} (h : ¬ (k' = k ∧ i' = i)) : up3 σ k i f v k' i' = σ k' i' := by
  funext c
  exact if_neg fun q => h ⟨q.1, q.2.1⟩
theorem up3_row (σ : HS) (k i f : Nat) (v : Int32) : up3 σ k i f v k i = upd (σ k i) f v := by
  funext c
  by_cases h : c = f
  · subst h; simp [up3, upd]
  · simp [up3, upd, h]
theorem ent_congr {G : HG} {g : HA} {w : HW} {σ σ' : HS} {k i : Nat} (h : σ' k i = σ k i) : ent G g w σ' k i = ent G g w σ k i := by
  simp only [ent, fld, h]
theorem RepS.updL {G : HG} {A : Nat → Prop} {g : HA} {w : HW} {σ σ' : HS} {H H1 : Heap} (hR : RepS G A g w σ H) {k i : Nat} (hk : k < 42) (hi : i < w.1 k) (hl : lvd w k i) (he : va_at G.1 vwCl (g k i, ent G g w σ' k i) H1) (ho : ∀ q : Nat, q ≠ g k i → H1[q]? = H[q]?) (hσ : ∀ k' i', ¬ (k' = k ∧ i' = i) → σ' k' i' = σ k' i') : RepS G A g w σ' H1 := by
  refine ⟨fun k' i' hk' hi' hl' => ?_, hR.2⟩
  by_cases h : k' = k ∧ i' = i
  · obtain ⟨rfl, rfl⟩ := h
    exact ⟨he, (hR.1 _ _ hk hi hl).2⟩
  · rw [ent_congr (hσ _ _ h)]
    exact ⟨(hR.1 k' i' hk' hi' hl').1.kept (ho _ fun e => h (hR.2.1 _ _ _ _ hk' hk hi' hi hl' hl e)), (hR.1 k' i' hk' hi' hl').2⟩
theorem RepS.upd {G : HG} {A : Nat → Prop} {g : HA} {w : HW} {σ σ' : HS} {H H1 : Heap} (hR : RepS G A g w σ H) {k i : Nat} (hk : k < 22) (hi : i < w.1 k) (he : va_at G.1 vwCl (g k i, ent G g w σ' k i) H1) (ho : ∀ q : Nat, q ≠ g k i → H1[q]? = H[q]?) (hσ : ∀ k' i', ¬ (k' = k ∧ i' = i) → σ' k' i' = σ k' i') : RepS G A g w σ' H1 := hR.updL (by omega) hi (lvd_lt hk) he ho hσ
theorem set_map {n f : Nat} (F F' : Nat → Value) (h1 : ∀ j, j ≠ f → F' j = F j) (hf : f < n) : ((List.range n).map F).set f (F' f) = (List.range n).map F' := by
  apply List.ext_getElem?
  intro j
  by_cases hj : j = f
  · subst hj
    rw [List.getElem?_set_self (by simpa using hf)]
    simp [hf]
  · rw [List.getElem?_set_ne (Ne.symm hj)]
    by_cases hn : j < n
    · simp [hn, h1 j hj]
    · simp [hn]
theorem ent_obj {G : HG} {g : HA} {w : HW} {σ : HS} {k i : Nat} (hk : Nat.blt k 12 = true) : ent G g w σ k i = .inr (k, (List.range (nfd k)).map fun f => toV g (fld w σ k i f)) := by
  simp [ent, hk]
theorem ent_row {G : HG} {g : HA} {w : HW} {σ : HS} {k i : Nat} (hk : Nat.blt k 12 = false) (h2 : isRA k = false) (h3 : Nat.ble 30 k = false) : ent G g w σ k i = .inl (G.2.1 (ac k), al k i, .inl (σ k i)) := by
  simp only [ent, hk, h2, h3, cond_false]
theorem ent_raw {G : HG} {g : HA} {w : HW} {σ : HS} {k i : Nat} (h3 : Nat.ble 30 k = true) : ent G g w σ k i = .inr (k - 30, (List.range (nfd k)).map fun f => toV g (fld w σ k i f)) := by
  have h1 : Nat.blt k 12 = false := by
    cases h : Nat.blt k 12 with
    | false => rfl
    | true => rw [Nat.blt_eq] at h; have := Nat.le_of_ble_eq_true h3; omega
  have h2 : isRA k = false := by
    cases h : isRA k with
    | false => rfl
    | true =>
      unfold isRA at h
      rw [Bool.and_eq_true] at h
      have h4 := Nat.le_of_ble_eq_true h.2
      have := Nat.le_of_ble_eq_true h3
      omega
  simp only [ent, h1, h2, h3, cond_false, cond_true]
theorem ent_ref {G : HG} {g : HA} {w : HW} {σ : HS} {k i : Nat} (hk : Nat.blt k 12 = false) (h2 : isRA k = true) : ent G g w σ k i = .inl (G.2.1 (ac k), al k i, .inr (.inr (.inr (.inr fun j => (w.2 k j).map (g (ek k)))))) := by
  simp [ent, hk, h2]
theorem fld_put {g : HA} {w : HW} {σ : HS} {k i f : Nat} {v : Int32} (hf : fr w k i f = none) (hn : f < nfd k) : ((List.range (nfd k)).map fun f => toV g (fld w σ k i f)).set f (.int v) = (List.range (nfd k)).map fun f' => toV g (fld w (up3 σ k i f v) k i f') := by
  have h := set_map (n := nfd k) (f := f) (fun f => toV g (fld w σ k i f)) (fun f' => toV g (fld w (up3 σ k i f v) k i f')) (fun j hj => by
    show toV g (fld w (up3 σ k i f v) k i j) = _
    have : up3 σ k i f v k i j = σ k i j := if_neg fun q => hj q.2.2
    simp only [fld, this]) hn
  have e : toV g (fld w (up3 σ k i f v) k i f) = .int v := by
    have : up3 σ k i f v k i f = v := if_pos ⟨rfl, rfl, rfl⟩
    simp only [fld, hf, this]
    rfl
  rw [← h]
  show _ = ((List.range (nfd k)).map _).set f (toV g (fld w (up3 σ k i f v) k i f))
  rw [e]
theorem va_one {D : va_G} {cl : List vw_C} {q : Nat × va_E} {H : Heap} (h : va_at D cl q H) : va_P D cl [q] H := by
  intro k r hk
  cases k with
  | zero => rw [List.getElem?_cons_zero] at hk; cases hk; exact h
  | succ k => rw [List.getElem?_cons_succ] at hk; simp at hk
/-! writes: what the tables say of a class's fields, what a write makes of an object, what it makes of a row -/
section HX
variable {p : Program} {l : Launch} {e : Env} {R : Room} {s : State} {m : MethodId} {args : Array Value} {below : List Frame} {meth : Method} {c : Code} {H : Heap} {locs : List Loc} {cells slots : Nat} {Q : State → Prop}
variable {pc ix : Nat} {ls : Array Slot} {rest : List Value} {D : va_G} {cl : List vw_C} {a ci N k : Nat} {tys : List (ClassId × FieldType)} {C own : String} {T : u_T}
/-- class number ci is C, its N fields are T's, the tables know them, and no two share a slot -/
def Kls (args : Array Value) (s : State) (D : va_G) (cl : List vw_C) (ci : Nat) (C : String) (T : u_T) (N : Nat) : Prop :=
  cl[ci]? = some (C, T, N) ∧ u_Kn s C T N (D.1 ci) (D.2 ci) ∧ (∀ w ∈ u_ws C T N, w.before args s = true) ∧ ∀ x y, x < N → y < N → x ≠ y → D.2 ci x ≠ D.2 ci y
theorem kls_of {Ts : List Cond} {ty : Nat → FieldType} (hc : cl[ci]? = some (C, T, N)) (hK : va_K D cl tys s) (hts : ∀ w ∈ Ts, w.before args s = true) (hin : ∀ w ∈ u_ws C T N, w ∈ Ts) (hty : ∀ k, k < N → parseFieldDescriptor (T k).2.2.1 = some (ty k)) (hnm : ∀ a, a < N → ∀ b, b < N → a ≠ b → (T a).2.1 ≠ (T b).2.1) : Kls args s D cl ci C T N :=
  ⟨hc, hK.1 ci _ hc, fun w h => hts w (hin w h), va_apart (own := C) hts hin ty hty hnm hK hc⟩
/-- field k as the machine finds it, and which values it takes -/
theorem Kls.found (h : Kls args s D cl ci C T N) (hk : k < N) : ∃ (o : Nat) (ko : Class) (i : Nat) (fd : Field), s.fieldFound? (T k).1 (T k).2.1 (T k).2.2.1 = some (o, ko, i, fd) ∧ fd.slot = D.2 ci k ∧ fd.isStatic = false ∧
    (∀ ty v, parseFieldDescriptor (T k).2.2.1 = some ty → narrow ty v = v ∧ fits ty v = true → (narrow fd.type v = v ∧ s.fitsSlot (D.1 ci) .none fd.slot v = true) ∧ ((T k).2.2.2 = false → k2_Sd s fd (D.1 ci) v)) ∧ ((T k).2.2.2 = true → s.vm.findClass (T k).1 = some o) := by
  obtain ⟨-, ⟨hS, hC, kC, hk1, hk2⟩, hw, -⟩ := h
  have hu := hw _ (u_in_lay hk)
  have hor := u_lays hw (fun _ z => z) hk
  obtain ⟨o, ko, i, fd, hi, hs⟩ := hS k hk
  refine ⟨o, ko, i, fd, hi, hs, (u_facts hC hk1 hor hi).1, fun ty v h1 h2 => ⟨u_fits hC hk1 hk2 hor hi h1 h2.1 h2.2, fun hf => ?_⟩, fun hf => ?_⟩
  · have hu : (Cond.lays C (T k).1 (T k).2.1 (T k).2.2.1).before args s = true := by simpa [u_lay, hf] using hu
    exact u_store hC hk1 hk2 hu hi h1 h2.1 h2.2
  · have hu : (Cond.laysFinal C (T k).1 (T k).2.1 (T k).2.2.1).before args s = true := by simpa [u_lay, hf] using hu
    have hz := Cond.laysFinal_spec hu
    rw [hi] at hz
    grind
/-- the cell of an object, and the object behind a write of its field k -/
theorem Kls.wrote (h : Kls args s D cl ci C T N) {fs : List Value} (hat : va_at D cl (a, .inr (ci, fs)) H) (hk : k < N) (hl : k < fs.length) : ∃ cell : Cell, H[a]? = some cell ∧ cell.cls = D.1 ci ∧ cell.vm = .none ∧ D.2 ci k < cell.slots.size ∧ ∀ (H1 : Heap) (v : Value), H1[a]? = some (cell.setSlot (D.2 ci k) v) → va_at D cl (a, .inr (ci, fs.set k v)) H1 := by
  obtain ⟨_, h0, cell, h1, h2, h3, h4⟩ := hat
  cases h0.symm.trans h.1
  refine ⟨cell, h1, h2, h3, k2_hasslot (h4 k hk), fun H1 v hH => ⟨_, h.1, _, hH, h2, h3, fun j hj => ?_⟩⟩
  rw [t_set h4 h.2.2.2 hk v j hj, vp_updV_set hl]
/-- the walk goes on at frame g, in any heap in which cell a alone is another, and P holds -/
abbrev Onto (p : Program) (l : Launch) (e : Env) (R : Room) (s : State) (m : MethodId) (args : Array Value) (below : List Frame) (meth : Method) (c : Code) (H : Heap) (locs : List Loc) (cells slots : Nat) (Q : State → Prop) (a : Nat) (g : JFrame) (P : Heap → Prop) : Prop :=
  ∀ (H1 : Heap) (sl : Nat), P H1 → H1.size = H.size → (∀ q : Nat, q ≠ a → H1[q]? = H[q]?) → W p l e R s m args below meth c H1 (locs ++ [⟨a, sl⟩]) cells slots Q g
theorem hx_put (hx : p.tables.exec = Jvm.exec) (hC : Kls args s D cl ci C T N) (hown : s.vm.findClass own = some m.cls) {fs : List Value} (hat : va_at D cl (a, .inr (ci, fs)) H) (hk : k < N) (hw : (Cond.fieldLink own ix (T k).1 (T k).2.1 (T k).2.2.1).before args s = true) (hf : (T k).2.2.2 = false) {ty : FieldType} {v : Value} (ht : parseFieldDescriptor (T k).2.2.1 = some ty) (hv : narrow ty v = v ∧ fits ty v = true) (hl : k < fs.length) (hd : decode c.code pc = .ok (.putfield ix, 3))
    (go : Onto p l e R s m args below meth c H locs cells slots Q a (F0 m (pc + 3) ls rest) fun H1 => va_at D cl (a, .inr (ci, fs.set k v)) H1) : W p l e R s m args below meth c H locs cells slots Q (F0 m pc ls (v :: .ref a :: rest)) := by
  obtain ⟨o, ko, i, fd, f1, f2, f3, f4, -⟩ := hC.found hk
  obtain ⟨cell, c1, c2, c3, c4, c5⟩ := hC.wrote hat hk hl
  have f5 := (f4 ty v ht hv).2 hf
  rw [← c2] at f5
  rw [← f2] at c4 c5
  exact W.putK hx rfl ⟨hown, hw, ⟨o, ko, i, f1⟩, f3⟩ f5 c1 c3 c4 rfl rfl hd fun H1 z => go H1 _ (c5 H1 v z)
theorem hx_putN (hx : p.tables.exec = Jvm.exec) (hC : Kls args s D cl ci C T N) (hown : s.vm.findClass own = some m.cls) {fs : List Value} (hat : va_at D cl (a, .inr (ci, fs)) H) (hk : k < N) {host : String} (hw : (Cond.fieldLinkNest own ix (T k).1 (T k).2.1 (T k).2.2.1 host).before args s = true) (hf : (T k).2.2.2 = false) {ty : FieldType} {v : Value} (ht : parseFieldDescriptor (T k).2.2.1 = some ty) (hv : narrow ty v = v ∧ fits ty v = true) (hl : k < fs.length) (hd : decode c.code pc = .ok (.putfield ix, 3))
    (go : Onto p l e R s m args below meth c H locs cells slots Q a (F0 m (pc + 3) ls rest) fun H1 => va_at D cl (a, .inr (ci, fs.set k v)) H1) : W p l e R s m args below meth c H locs cells slots Q (F0 m pc ls (v :: .ref a :: rest)) := by
  obtain ⟨o, ko, i, fd, f1, f2, f3, f4, -⟩ := hC.found hk
  obtain ⟨cell, c1, c2, c3, c4, c5⟩ := hC.wrote hat hk hl
  have f5 := (f4 ty v ht hv).2 hf
  rw [← c2] at f5
  rw [← f2] at c4 c5
  exact va_WputK hx rfl hown hw f1 f3 f5 c1 c3 c4 rfl rfl hd fun H1 z => go H1 _ (c5 H1 v z)
/-- a final field, in the class's own constructor -/
theorem hx_putF (hx : p.tables.exec = Jvm.exec) (hC : Kls args s D cl ci C T N) (hown : s.vm.findClass own = some m.cls) {fs : List Value} (hat : va_at D cl (a, .inr (ci, fs)) H) (hk : k < N) (hw : (Cond.fieldLink own ix (T k).1 (T k).2.1 (T k).2.2.1).before args s = true) (hf : (T k).2.2.2 = true) (hm : meth.name = "<init>") (ho : (T k).1 = own) {ty : FieldType} {v : Value} (ht : parseFieldDescriptor (T k).2.2.1 = some ty) (hv : narrow ty v = v ∧ fits ty v = true) (hl : k < fs.length) (hd : decode c.code pc = .ok (.putfield ix, 3))
    (go : Onto p l e R s m args below meth c H locs cells slots Q a (F0 m (pc + 3) ls rest) fun H1 => va_at D cl (a, .inr (ci, fs.set k v)) H1) : W p l e R s m args below meth c H locs cells slots Q (F0 m pc ls (v :: .ref a :: rest)) := by
  obtain ⟨o, ko, i, fd, f1, f2, f3, f4, f5⟩ := hC.found hk
  obtain ⟨cell, c1, c2, c3, c4, c5⟩ := hC.wrote hat hk hl
  have f6 := f5 hf
  rw [ho, hown] at f6
  have f7 := (f4 ty v ht hv).1
  rw [← c2] at f7
  rw [← f2] at c4 c5
  exact W.putFinK hx rfl hown hw f1 f3 (Option.some.inj f6) hm f7 c1 c3 c4 rfl rfl hd fun H1 z => go H1 _ (c5 H1 v z)
theorem row_in {cA : ClassId} {n : Nat} {f : Nat → Int32} {i : Int32} (h : vp_in i n) : ¬ (i < 0 ∨ (vp_cell cA (n, .inl f)).slots.size ≤ i.toNatClampNeg) := by
  rwa [vp_cell_i, arrV_size]
theorem row_wr {cA : ClassId} {n j : Nat} {f : Nat → Int32} {x : Int32} {H1 : Heap} (h : H1[a]? = some ((vp_cell cA (n, .inl f)).setSlot j (.int x))) : va_at D cl (a, .inl (cA, n, .inl (upd f j x))) H1 := by
  have hf : updV (fun i => .int (f i)) j (.int x) = fun i => .int (upd f j x i) := funext fun i => (apply_ite Value.int (i = j) x (f i)).symm
  rw [vp_cell_i, arrV_store, hf] at h
  exact h
section Rows
variable {t cA n : Nat} {f : Nat → Int32} {i x : Int32}
theorem hx_iast (hx : p.tables.exec = Jvm.exec) (hK : va_K D cl tys s) (ht : tys[t]? = some (cA, .int)) (hat : va_at D cl (a, .inl (cA, n, .inl f)) H) (hi : vp_in i n) (hd : decode c.code pc = .ok (.iastore, 1))
    (go : Onto p l e R s m args below meth c H locs cells slots Q a (F0 m (pc + 1) ls rest) fun H1 => va_at D cl (a, .inl (cA, n, .inl (upd f i.toNatClampNeg x))) H1) : W p l e R s m args below meth c H locs cells slots Q (F0 m pc ls (.int x :: .int i :: .ref a :: rest)) :=
  W.iast hx rfl hat ((hK.2 t _ ht).1 n fun j => .int (f j)) nofun (row_in hi) rfl rfl hd fun H1 z => go H1 _ (row_wr z)
theorem hx_bast (hx : p.tables.exec = Jvm.exec) (hK : va_K D cl tys s) (ht : tys[t]? = some (cA, .byte)) (hat : va_at D cl (a, .inl (cA, n, .inl f)) H) (hi : vp_in i n) (hd : decode c.code pc = .ok (.bastore, 1))
    (go : Onto p l e R s m args below meth c H locs cells slots Q a (F0 m (pc + 1) ls rest) fun H1 => va_at D cl (a, .inl (cA, n, .inl (upd f i.toNatClampNeg x.toInt8.toInt32))) H1) : W p l e R s m args below meth c H locs cells slots Q (F0 m pc ls (.int x :: .int i :: .ref a :: rest)) :=
  W.bast hx rfl hat ((hK.2 t _ ht).1 n fun j => .int (f j)) nofun (row_in hi) rfl rfl hd fun H1 z => go H1 _ (row_wr z)
theorem hx_zast (hx : p.tables.exec = Jvm.exec) (hK : va_K D cl tys s) (ht : tys[t]? = some (cA, .boolean)) (hat : va_at D cl (a, .inl (cA, n, .inl f)) H) (hi : vp_in i n) (hn : narrow .boolean (.int x) = .int x) (hd : decode c.code pc = .ok (.bastore, 1))
    (go : Onto p l e R s m args below meth c H locs cells slots Q a (F0 m (pc + 1) ls rest) fun H1 => va_at D cl (a, .inl (cA, n, .inl (upd f i.toNatClampNeg x))) H1) : W p l e R s m args below meth c H locs cells slots Q (F0 m pc ls (.int x :: .int i :: .ref a :: rest)) :=
  W.zast hx rfl hat ((hK.2 t _ ht).1 n fun j => .int (f j)) nofun (row_in hi) rfl rfl hd fun H1 z => go H1 _ (row_wr (hn ▸ z))
end Rows
end HX
