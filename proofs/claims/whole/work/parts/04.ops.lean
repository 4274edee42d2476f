/-! OUR FRAME, 2: instructions as steps of verification conditions, and that each is sound -/
def hpop (l : List HV) (f : HV → List HV → Prop) : Prop := match l with
  | a :: r => f a r
  | [] => False
def hpI (v : HV) (f : Int32 → Prop) : Prop := match v with
  | .inl x => f x
  | _ => False
def hpO (v : HV) (f : Nat → Option Nat → Prop) : Prop := match v with
  | .inr (.inl (k, o)) => f k o
  | _ => False
def hpR (v : HV) (f : Nat → Nat → Prop) : Prop := match v with
  | .inr (.inl (k, some i)) => f k i
  | _ => False
def hpL (v : HV) (f : Int64 → Prop) : Prop := match v with
  | .inr (.inr x) => f x
  | _ => False
def hp1 (v : HV) (P : Prop) : Prop := match v with
  | .inr (.inr _) => False
  | _ => P
def hnil (l : List HV) (P : Prop) : Prop := match l with
  | [] => P
  | _ => False
def hopt (o : Option Nat) (a b : Prop) : Prop := match o with
  | none => a
  | some _ => b
def lkp (ls : HLs) (i : Nat) : Option HV := match ls, i with
  | [], _ => none
  | a :: _, 0 => a
  | _ :: r, n + 1 => lkp r n
def hget (o : Option HV) (f : HV → Prop) : Prop := match o with
  | some v => f v
  | none => False
def popI (st : List HV) (f : Int32 → List HV → Prop) : Prop := hpop st fun v r => hpI v fun x => f x r
def popO (st : List HV) (f : Nat → Option Nat → List HV → Prop) : Prop := hpop st fun v r => hpO v fun k o => f k o r
def popR (st : List HV) (f : Nat → Nat → List HV → Prop) : Prop := hpop st fun v r => hpR v fun k i => f k i r
def popL (st : List HV) (f : Int64 → List HV → Prop) : Prop := hpop st fun v r => hpL v fun x => f x r
def pop1 (st : List HV) (f : HV → List HV → Prop) : Prop := hpop st fun v r => hp1 v (f v r)
theorem hpop_s {l : List HV} {f : HV → List HV → Prop} (h : hpop l f) : ∃ a r, l = a :: r ∧ f a r := by
  cases l with
  | nil => exact h.elim
  | cons a r => exact ⟨a, r, rfl, h⟩
theorem popI_s {l : List HV} {f : Int32 → List HV → Prop} (h : popI l f) : ∃ x r, l = HI x :: r ∧ f x r := by
  obtain ⟨a, r, rfl, h⟩ := hpop_s h
  rcases a with x | ⟨k, o⟩ | x
  · exact ⟨x, r, rfl, h⟩
  · exact h.elim
  · exact h.elim
theorem popO_s {l : List HV} {f : Nat → Option Nat → List HV → Prop} (h : popO l f) : ∃ k o r, l = HO k o :: r ∧ f k o r := by
  obtain ⟨a, r, rfl, h⟩ := hpop_s h
  rcases a with x | ⟨k, o⟩ | x
  · exact h.elim
  · exact ⟨k, o, r, rfl, h⟩
  · exact h.elim
theorem popR_s {l : List HV} {f : Nat → Nat → List HV → Prop} (h : popR l f) : ∃ k i r, l = HR k i :: r ∧ f k i r := by
  obtain ⟨a, r, rfl, h⟩ := hpop_s h
  rcases a with x | ⟨k, _ | i⟩ | x
  · exact h.elim
  · exact h.elim
  · exact ⟨k, i, r, rfl, h⟩
  · exact h.elim
theorem popL_s {l : List HV} {f : Int64 → List HV → Prop} (h : popL l f) : ∃ x r, l = HL x :: r ∧ f x r := by
  obtain ⟨a, r, rfl, h⟩ := hpop_s h
  rcases a with x | ⟨k, o⟩ | x
  · exact h.elim
  · exact h.elim
  · exact ⟨x, r, rfl, h⟩
theorem pop1_s {l : List HV} {f : HV → List HV → Prop} (h : pop1 l f) : ∃ a r, l = a :: r ∧ (∀ g, (toV g a).category = 1) ∧ f a r := by
  obtain ⟨a, r, rfl, h⟩ := hpop_s h
  rcases a with x | ⟨k, _ | i⟩ | x
  · exact ⟨_, r, rfl, fun _ => rfl, h⟩
  · exact ⟨_, r, rfl, fun _ => rfl, h⟩
  · exact ⟨_, r, rfl, fun _ => rfl, h⟩
  · exact h.elim
theorem hget_s {o : Option HV} {f : HV → Prop} (h : hget o f) : ∃ v, o = some v ∧ f v := by
  cases o with
  | none => exact h.elim
  | some v => exact ⟨v, rfl, h⟩
theorem hpI_s {v : HV} {f : Int32 → Prop} (h : hpI v f) : ∃ x, v = HI x ∧ f x := by
  rcases v with x | ⟨k, o⟩ | x
  · exact ⟨x, rfl, h⟩
  · exact h.elim
  · exact h.elim
theorem hpO_s {v : HV} {f : Nat → Option Nat → Prop} (h : hpO v f) : ∃ k o, v = HO k o ∧ f k o := by
  rcases v with x | ⟨k, o⟩ | x
  · exact h.elim
  · exact ⟨k, o, rfl, h⟩
  · exact h.elim
theorem hnil_s {l : List HV} {P : Prop} (h : hnil l P) : l = [] ∧ P := by
  cases l with
  | nil => exact ⟨rfl, h⟩
  | cons a r => exact h.elim
theorem bif_s {b : Bool} {P : Prop} (h : bif b then P else False) : b = true ∧ P := by
  cases b with
  | true => exact ⟨rfl, h⟩
  | false => exact h.elim
/-- locals -/
def asl (g : HA) : Nat → HLs → List (Nat × Value)
  | _, [] => []
  | n, none :: r => asl g (n + 1) r
  | n, some v :: r => (n, toV g v) :: asl g (n + 1) r
theorem asl_mem {g : HA} : ∀ {ls : HLs} {n j : Nat} {v : HV}, lkp ls j = some v → (n + j, toV g v) ∈ asl g n ls
  | [], n, j, v, h => by simp [lkp] at h
  | a :: r, n, 0, v, h => by
    simp [lkp] at h
    subst h
    simp [asl]
  | a :: r, n, j + 1, v, h => by
    have h2 := asl_mem (g := g) (ls := r) (n := n + 1) (j := j) (v := v) (by simpa [lkp] using h)
    have e : n + 1 + j = n + (j + 1) := by omega
    rw [e] at h2
    cases a with
    | none => simpa [asl] using h2
    | some b => exact List.mem_cons_of_mem _ h2
theorem asl_of {g : HA} : ∀ {ls : HLs} {n : Nat} {q : Nat × Value}, q ∈ asl g n ls → ∃ j v, lkp ls j = some v ∧ q = (n + j, toV g v)
  | [], n, q, h => by simp [asl] at h
  | none :: r, n, q, h => by
    obtain ⟨j, v, h1, h2⟩ := asl_of (g := g) (ls := r) (n := n + 1) (by simpa [asl] using h)
    exact ⟨j + 1, v, by simpa [lkp] using h1, by rw [h2]; congr 1; omega⟩
  | some b :: r, n, q, h => by
    rcases List.mem_cons.mp h with h | h
    · exact ⟨0, b, rfl, h⟩
    · obtain ⟨j, v, h1, h2⟩ := asl_of (g := g) (ls := r) (n := n + 1) h
      exact ⟨j + 1, v, by simpa [lkp] using h1, by rw [h2]; congr 1; omega⟩
theorem lkp_set : ∀ {ls : HLs} {i j : Nat} {x : Option HV} {v : HV}, lkp (ls.set i x) j = some v → (j = i ∧ x = some v) ∨ (j ≠ i ∧ lkp ls j = some v)
  | [], i, j, x, v, h => by simp [lkp] at h
  | a :: r, 0, 0, x, v, h => by simp [lkp] at h; exact Or.inl ⟨rfl, h⟩
  | a :: r, 0, j + 1, x, v, h => by simp [lkp] at h; exact Or.inr ⟨by omega, by simpa [lkp] using h⟩
  | a :: r, i + 1, 0, x, v, h => by simp [lkp] at h; exact Or.inr ⟨by omega, by simpa [lkp] using h⟩
  | a :: r, i + 1, j + 1, x, v, h => by
    have h1 : lkp (r.set i x) j = some v := by simpa [lkp] using h
    rcases lkp_set h1 with ⟨e, h2⟩ | ⟨e, h2⟩
    · exact Or.inl ⟨by omega, h2⟩
    · exact Or.inr ⟨by omega, by simpa [lkp] using h2⟩
def LsOK (g : HA) (w : HW) (nL : Nat) (ls : HLs) (la : Array Slot) : Prop := lv_has la nL (asl g 0 ls) ∧ ∀ j v, lkp ls j = some v → VLv w v ∧ (toV g v).category = 1
theorem LsOK.at {g : HA} {w : HW} {nL : Nat} {ls : HLs} {la : Array Slot} (h : LsOK g w nL ls la) {i : Nat} {v : HV} (hv : lkp ls i = some v) : la[i]? = some (.val (toV g v)) := by
  have h1 := h.1.2.2 (0 + i, toV g v) (asl_mem hv)
  rw [Nat.zero_add] at h1
  exact h1
theorem LsOK.store {g : HA} {w : HW} {nL : Nat} {ls : HLs} {la la' : Array Slot} (h : LsOK g w nL ls la) {i : Nat} {v : HV} (hv : VLv w v) (hc : (toV g v).category = 1) (hn : lv_has la' nL ((i, toV g v) :: (asl g 0 ls).filter (fun q => !(q.1 == i) && !(q.1 + 1 == i && q.2.category == 2)))) : LsOK g w nL (ls.set i (some v)) la' := by
  refine ⟨⟨hn.1, hn.2.1, fun q hq => ?_⟩, fun j u hu => ?_⟩
  · obtain ⟨j, u, h1, rfl⟩ := asl_of hq
    rw [Nat.zero_add]
    rcases lkp_set h1 with ⟨e, h2⟩ | ⟨e, h2⟩
    · cases h2
      subst e
      exact hn.2.2 _ List.mem_cons_self
    · refine hn.2.2 (j, toV g u) (List.mem_cons_of_mem _ (List.mem_filter.mpr ⟨?_, ?_⟩))
      · have := asl_mem (g := g) (n := 0) h2
        rwa [Nat.zero_add] at this
      · have h3 := (h.2 j u h2).2
        simp [e, h3]
  · rcases lkp_set hu with ⟨e, h2⟩ | ⟨e, h2⟩
    · cases h2
      exact ⟨hv, hc⟩
    · exact h.2 j u h2
theorem asl_ge {g g' : HA} {w w' : HW} (h : GE g w g' w') : ∀ {ls : HLs} {n : Nat}, (∀ j v, lkp ls j = some v → VLv w v) → asl g' n ls = asl g n ls
  | [], _, _ => rfl
  | none :: r, n, hs => asl_ge h (ls := r) (n := n + 1) (fun j v hv => hs (j + 1) v (by simpa [lkp] using hv))
  | some b :: r, n, hs => by
    have h1 := (toV_ge h (hs 0 b rfl)).1
    have h2 := asl_ge h (ls := r) (n := n + 1) (fun j v hv => hs (j + 1) v (by simpa [lkp] using hv))
    simp only [asl, h1, h2]
theorem LsOK.ge {g g' : HA} {w w' : HW} {nL : Nat} {ls : HLs} {la : Array Slot} (hl : LsOK g w nL ls la) (h : GE g w g' w') : LsOK g' w' nL ls la := by
  refine ⟨?_, fun j v hv => ?_⟩
  · rw [asl_ge h fun j v hv => (hl.2 j v hv).1]
    exact hl.1
  · have h1 := toV_ge h (hl.2 j v hv).1
    exact ⟨h1.2, by rw [h1.1]; exact (hl.2 j v hv).2⟩
/-- what the machine's state at a place of a method is, in abstract words; it comes to a state with Q -/
def Wat (p : Program) (l : Launch) (e : Env) (R : Room) (s : State) (m : MethodId) (args : Array Value) (below : List Frame) (meth : Method) (c : Code) (cells slots : Nat) (Q : State → Prop) (G : HG) (A : Nat → Prop) (g0 : HA) (w0 : HW) (nL : Nat) (pc : Nat) (ls : HLs) (st : List HV) (w : HW) (σ : HS) : Prop :=
  ∀ (g : HA) (H : Heap) (locs : List Loc) (la : Array Slot), GE g0 w0 g w → RepS G A g w σ H → va_S A s.heap H locs → LsOK g w nL ls la → (∀ v ∈ st, VLv w v) → W p l e R s m args below meth c H locs cells slots Q (F0 m pc la (st.map (toV g)))
def slen : List Nat := [2, 3, 3, 4, 3, 2]
def sbyt : List (List Int32) := [[105, 110], [102, 97, 114], [97, 110, 100], [108, 111, 110, 103], [110, 111, 116], [111, 114]]
def ZS (G : HG) (A : Nat → Prop) (U : State) (H : Heap) : Prop := vk_S 6 slen sbyt G.2.2.1 G.2.2.2 A U H ∧ va_Z "java/lang/String" "COMPACT_STRINGS" "Z" (.int 1) A U H ∧ (va_Z "jdk/internal/util/Preconditions" "SIOOBE_FORMATTER" "Ljava/util/function/BiFunction;" .null A U H ∨ va_Z "jdk/internal/util/Preconditions" "SIOOBE_FORMATTER" "Ljava/util/function/BiFunction;" (.ref (G.2.2.1 6)) A U H)
theorem ZS.moved {G : HG} {A : Nat → Prop} {u U : State} {H : Heap} (hvm : u.vm.Alike U.vm) (h : ZS G A u H) : ZS G A U H := ⟨h.1.moved hvm, h.2.1.moved hvm, h.2.2.imp (fun q => q.moved hvm) (fun q => q.moved hvm)⟩
theorem ZS.kept {G : HG} {A : Nat → Prop} {U : State} {H H1 : Heap} (h : ZS G A U H) (hq : ∀ a : Nat, a < H.size → ¬ A a → H1[a]? = H[a]?) : ZS G A U H1 := ⟨h.1.kept hq, h.2.1.kept hq, h.2.2.imp (fun q => q.kept hq) (fun q => q.kept hq)⟩
def SRf (G : HG) (U : State) : Prop := vk_R RX5 35 "in" (G.2.2.1 0) U ∧ vk_R RX5 65 "far" (G.2.2.1 1) U ∧ vk_R RX5 73 "and" (G.2.2.1 2) U ∧ vk_R RX5 78 "long" (G.2.2.1 3) U ∧ vk_R RX5 83 "not" (G.2.2.1 4) U ∧ vk_R RX5 88 "or" (G.2.2.1 5) U
def QQ (G : HG) (A : Nat → Prop) (g : HA) (w : HW) (K : HRt) : Array Value → State → Outcome → State → Prop := fun _ st oc t => (∃ (r : Option HV) (w' : HW) (σ' : HS) (g' : HA), oc = .returned (r.map (toV g')) ∧ K r w' σ' ∧ GE g w g' w' ∧ (∀ v, r = some v → VLv w' v) ∧ RepS G A g' w' σ' t.heap) ∧ va_F A st t
def HCx (p : Program) (_ : Launch) (_ : Env) (R : Room) (s : State) (m : MethodId) (args : Array Value) (below : List Frame) (meth : Method) (c : Code) (cells slots mc ms : Nat) (Q : State → Prop) (G : HG) (A : Nat → Prop) (g0 : HA) (w0 : HW) (q : HRt) (cc : ByteArray) (own : String) (nL : Nat) (ret : Option FieldType) (lv : Nat) : Prop :=
  p.tables.exec = Jvm.exec ∧ c.code = cc ∧ c.maxLocals = nL ∧ s.vm.findClass own = some m.cls ∧ (∀ x ∈ TT, x.before args s = true) ∧ va_K G.1 vwCl (tysG G) s ∧ meth.sig.returnType = ret ∧ meth.locks = false ∧ ZS G A s s.heap ∧ SRf G s ∧ (∀ q, s.heap.size ≤ q → A q) ∧ (lv ≤ R.frames ∧ 30 * lv ≤ R.locals) ∧ (cells ≤ R.cells ∧ slots ≤ R.slots) ∧ (cells ≤ mc ∧ slots ≤ ms) ∧ (∀ v w σ, q v w σ → Q = MQ below (QQ G A g0 w0 q) args s mc ms A)
def HOK (cc : ByteArray) (own : String) (nL : Nat) (ret : Option FieldType) (lv : Nat) (pc : Nat) (op : HOp) : Prop :=
  ∀ (p : Program) (l : Launch) (e : Env) (R : Room) (s : State) (m : MethodId) (args : Array Value) (below : List Frame) (meth : Method) (c : Code) (cells slots mc ms : Nat) (Q : State → Prop) (G : HG) (A : Nat → Prop) (g0 : HA) (w0 : HW) (q : HRt),
    HCx p l e R s m args below meth c cells slots mc ms Q G A g0 w0 q cc own nL ret lv →
    ∀ k : HK, (∀ pc' ls st w σ, k pc' ls st w σ → Wat p l e R s m args below meth c cells slots Q G A g0 w0 nL pc' ls st w σ) → ∀ ls st w σ, op k q ls st w σ → Wat p l e R s m args below meth c cells slots Q G A g0 w0 nL pc ls st w σ
def o_bad : HOp := fun _ _ _ _ _ _ => False
def o_iload (i nx : Nat) : HOp := fun k _ ls st w σ => hget (lkp ls i) fun v => hpI v fun x => k nx ls (HI x :: st) w σ
def o_aload (i nx : Nat) : HOp := fun k _ ls st w σ => hget (lkp ls i) fun v => hpO v fun kd o => k nx ls (HO kd o :: st) w σ
def o_const (v : Int32) (nx : Nat) : HOp := fun k _ ls st w σ => k nx ls (HI v :: st) w σ
def o_null (kd nx : Nat) : HOp := fun k _ ls st w σ => k nx ls (HO kd none :: st) w σ
def o_istore (i nx : Nat) : HOp := fun k _ ls st w σ => popI st fun x r => k nx (ls.set i (some (HI x))) r w σ
def o_astore (i nx : Nat) : HOp := fun k _ ls st w σ => popO st fun kd o r => k nx (ls.set i (some (HO kd o))) r w σ
def o_iinc (i : Nat) (d : Int32) (nx : Nat) : HOp := fun k _ ls st w σ => hget (lkp ls i) fun v => hpI v fun x => k nx (ls.set i (some (HI (x + d)))) st w σ
def o_bin (f : Int32 → Int32 → Int32) (nx : Nat) : HOp := fun k _ ls st w σ => popI st fun y r => popI r fun x r => k nx ls (HI (f x y) :: r) w σ
def o_un (f : Int32 → Int32) (nx : Nat) : HOp := fun k _ ls st w σ => popI st fun x r => k nx ls (HI (f x) :: r) w σ
def o_dv (f : Int32 → Int32 → Int32) (nx : Nat) : HOp := fun k _ ls st w σ => popI st fun y r => popI r fun x r => ¬ y = 0 ∧ k nx ls (HI (f x y) :: r) w σ
def o_if (c : Int32 → Prop) (t1 t2 : Nat) : HOp := fun k _ ls st w σ => popI st fun x r => (c x → k t1 ls r w σ) ∧ (¬ c x → k t2 ls r w σ)
def o_icmp (c : Int32 → Int32 → Prop) (t1 t2 : Nat) : HOp := fun k _ ls st w σ => popI st fun y r => popI r fun x r => (c x y → k t1 ls r w σ) ∧ (¬ c x y → k t2 ls r w σ)
def o_goto (t : Nat) : HOp := fun k _ ls st w σ => k t ls st w σ
def o_ifnull (t nx : Nat) : HOp := fun k _ ls st w σ => popO st fun _ o r => hopt o (k t ls r w σ) (k nx ls r w σ)
def o_dup (nx : Nat) : HOp := fun k _ ls st w σ => pop1 st fun v r => k nx ls (v :: v :: r) w σ
def o_pop (nx : Nat) : HOp := fun k _ ls st w σ => pop1 st fun _ r => k nx ls r w σ
def o_dupx1 (nx : Nat) : HOp := fun k _ ls st w σ => pop1 st fun a r => pop1 r fun b r => k nx ls (a :: b :: a :: r) w σ
def o_dup2 (nx : Nat) : HOp := fun k _ ls st w σ => pop1 st fun a r => pop1 r fun b r => k nx ls (a :: b :: a :: b :: r) w σ
def o_getf (kd f nx : Nat) : HOp := fun k _ ls st w σ => popR st fun kk i r => bif Nat.beq kk kd then k nx ls (fld w σ kd i f :: r) w σ else False
/-- a field whose reference is not known beforehand -/
def o_getq (kd f t nx : Nat) : HOp := fun k _ ls st w σ => popR st fun kk _ r => bif Nat.beq kk kd then (∀ o, w.2 kd 0 = o → k nx ls (HO t o :: r) w σ) else False
def o_putf (kd f nx : Nat) : HOp := fun k _ ls st w σ => popI st fun v r => popR r fun kk i r => bif Nat.beq kk kd then k nx ls r w (up3 σ kd i f v) else False
def o_putz (kd f nx : Nat) : HOp := fun k _ ls st w σ => popI st fun v r => popR r fun kk i r => bif Nat.beq kk kd then (v = 0 ∨ v = 1) ∧ k nx ls r w (up3 σ kd i f v) else False
def o_alen (nx : Nat) : HOp := fun k _ ls st w σ => popR st fun kk i r => bif Nat.ble 12 kk && Nat.ble kk 21 then k nx ls (HI (nI (al kk i)) :: r) w σ else False
def o_iald (nx : Nat) : HOp := fun k _ ls st w σ => popI st fun j r => popR r fun kk i r => bif Nat.beq kk 13 || Nat.beq kk 20 then vp_in j (al kk i) ∧ k nx ls (HI (σ kk i j.toNatClampNeg) :: r) w σ else False
def o_bald (nx : Nat) : HOp := fun k _ ls st w σ => popI st fun j r => popR r fun kk i r => bif Nat.beq kk 12 || Nat.beq kk 21 then vp_in j (al kk i) ∧ k nx ls (HI (σ kk i j.toNatClampNeg) :: r) w σ else False
def o_aald (nx : Nat) : HOp := fun k _ ls st w σ => popI st fun j r => popR r fun kk i r => bif isRA kk then vp_in j (al kk i) ∧ (∀ o, w.2 kk j.toNatClampNeg = o → k nx ls (HO (ek kk) o :: r) w σ) else False
def o_iast (nx : Nat) : HOp := fun k _ ls st w σ => popI st fun v r => popI r fun j r => popR r fun kk i r => bif Nat.beq kk 13 || Nat.beq kk 20 then vp_in j (al kk i) ∧ k nx ls r w (up3 σ kk i j.toNatClampNeg v) else False
def o_bast (nx : Nat) : HOp := fun k _ ls st w σ => popI st fun v r => popI r fun j r => popR r fun kk i r => bif Nat.beq kk 12 then vp_in j (al kk i) ∧ k nx ls r w (up3 σ kk i j.toNatClampNeg v.toInt8.toInt32) else False
def o_zast (nx : Nat) : HOp := fun k _ ls st w σ => popI st fun v r => popI r fun j r => popR r fun kk i r => bif Nat.beq kk 21 then (v = 0 ∨ v = 1) ∧ vp_in j (al kk i) ∧ k nx ls r w (up3 σ kk i j.toNatClampNeg v) else False
def o_iret : HOp := fun _ q _ st w σ => popI st fun v r => hnil r (q (some (HI v)) w σ)
def o_zret : HOp := fun _ q _ st w σ => popI st fun v r => hnil r ((v = 0 ∨ v = 1) ∧ q (some (HI v)) w σ)
def o_aret : HOp := fun _ q _ st w σ => popO st fun kd o r => hnil r (q (some (HO kd o)) w σ)
def o_vret : HOp := fun _ q _ st w σ => hnil st (q none w σ)
def o_call (n : Nat) (sp : HSp) (nx : Nat) : HOp := fun k _ ls st w σ => sp (st.take n).reverse w σ fun r w' σ' => k nx ls (r.toList ++ st.drop n) w' σ'
def swc (k : Nat → Prop) (d : Nat) (x : Int32) : List (Int32 × Nat) → Prop
  | [] => k d
  | q :: r => (x = q.1 → k q.2) ∧ (¬ x = q.1 → swc k d x r)
def o_sw (ps : List (Int32 × Nat)) (d : Nat) : HOp := fun k _ ls st w σ => popI st fun x r => swc (fun t => k t ls r w σ) d x ps
def o_i2l (nx : Nat) : HOp := fun k _ ls st w σ => popI st fun x r => k nx ls (HL x.toInt64 :: r) w σ
def o_ladd (nx : Nat) : HOp := fun k _ ls st w σ => popL st fun y r => popL r fun x r => k nx ls (HL (x + y) :: r) w σ
theorem ok_bad {cc : ByteArray} {own : String} {nL : Nat} {ret : Option FieldType} {lv pc : Nat} : HOK cc own nL ret lv pc o_bad := fun _ _ _ _ _ _ _ _ _ _ _ _ _ _ _ _ _ _ _ _ _ _ _ _ _ _ _ h => h.elim
