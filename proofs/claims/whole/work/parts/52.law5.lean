/-! the law: a call of the script, for any two sides that answer alike; its loop -/
/-! THE CLAIM OUT OF ONE WALK OF THE LAW'S BODY. Your part is whole_start (and what it stands on); all else here is the same for every law, but numbers. -/
def R_law : String := "VisitHallLaw"
def lw_P (b : Addr) (xs : List Int32) (args : Array Value) (s : State) : Prop := args = #[.ref b] ∧ s.IntsAt b xs ∧ xs.length ≤ 3072 ∧ (Jvm.Cond.and given_1 narrow_1).before args s = true
def lw_Q (_ : Array Value) (s : State) (o : Outcome) (t : State) : Prop := o = .returned (some (.int 1)) ∧ Framed s o t [] 600000 7302250
def lw_Z (below : List Frame) (a : Array Value) (s : State) : State → Prop := fun t => ∃ o, t.status = .running ∧ Ended t below o ∧ lw_Q a s o t
/-- the law's own end, with 1 on the stack, nothing written that was there before, its room as the claim has it -/
theorem lw_ret {p : Program} {l : Launch} {e : Env} {s : State} {m : MethodId} {below : List Frame} {meth : Method} {c : Code} {b : Nat} (hx : p.tables.exec = Jvm.exec) (hb : c.code = code) (hr : meth.sig.returnType = ret) (hlocks : meth.locks = false) {pc : Nat} {H : Heap} {ls : Array Slot} (hdg : decode code pc = .ok (.ireturn, 1)) : W p l e room_1 s m #[Value.ref b] below meth c H [] 600000 7302250 (lw_Z below #[Value.ref b] s) (F0 m pc ls [.int 1]) := by
  intro T hT X
  obtain ⟨fs, hret, hrun, hended, hW, hframe⟩ := X.leave (v := some (.int 1)) (hlocks := hlocks) (fun h => by rw [hr] at h; cases h)
  have hmeth' : T.vm.method? m = some meth := X.method'
  refine ⟨T.setFrames fs, ?_, .returned (some (.int 1)), hrun, hended, rfl, ⟨_, rfl⟩, hW, hframe⟩
  jvm_step X.here [X.here.top, hx, hb, hdg, hmeth', hr, ret, narrow_b1]
  (try refine ⟨rfl, ?_⟩); (try refine ⟨rfl, ?_⟩)
  first | (intro acts; rw [hret _ acts rfl rfl rfl]) | rw [hret _ _ rfl rfl rfl]
  exact Steps.refl _
/-- what holds at the law's entry: the machine, the code, the tables' words (any of lw_tbl by 'hts w (by decide +kernel)'), the script of L ints xs at the cell b, what the Statement gives of the start (any of its parts by flat_of_before) -/
def lw_At (p : Program) (s : State) (m : MethodId) (meth : Method) (c : Code) (b L : Nat) (xs : Nat → Int32) : Prop :=
  p.tables.exec = Jvm.exec ∧ c.code = code ∧ meth.sig.returnType = ret ∧ c.maxLocals = 4 ∧ s.vm.findClass R_law = some m.cls ∧ (∀ w ∈ lw_tbl, w.before #[Value.ref b] s = true) ∧ va_X b L xs s s.heap ∧ b < s.heap.size ∧ meth.locks = false ∧ (Jvm.Cond.and given_1 narrow_1).before #[Value.ref b] s = true
abbrev LsL (i : Nat) : HLs := [some (HR 45 0), some (HR 10 0), some (HR 11 0), some (HI (nI i))]
/-- the class answers, and then the reference answers the same -/
def Eq1 (I : HW → HS → Prop) (X M : HSp) : Prop := ∀ (a : Int32) (w : HW) (σ : HS) (Q1 : HRt), I w σ → (∀ (r : Int32) (w1 : HW) (σ1 : HS), (∀ K2 : HRt, (∀ w2 σ2, I w2 σ2 → K2 (some (HI r)) w2 σ2) → M [HR 11 0, HI a] w1 σ1 K2) → Q1 (some (HI r)) w1 σ1) → X [HR 10 0, HI a] w σ Q1
/-- the class answers, and then the reference answers the same -/
def Eq2 (I : HW → HS → Prop) (X M : HSp) : Prop := ∀ (a b : Int32) (w : HW) (σ : HS) (Q1 : HRt), I w σ → (∀ (r : Int32) (w1 : HW) (σ1 : HS), (∀ K2 : HRt, (∀ w2 σ2, I w2 σ2 → K2 (some (HI r)) w2 σ2) → M [HR 11 0, HI a, HI b] w1 σ1 K2) → Q1 (some (HI r)) w1 σ1) → X [HR 10 0, HI a, HI b] w σ Q1
/-- the class answers, and then the reference answers the same -/
def Eq3 (I : HW → HS → Prop) (X M : HSp) : Prop := ∀ (a b c : Int32) (w : HW) (σ : HS) (Q1 : HRt), I w σ → (∀ (r : Int32) (w1 : HW) (σ1 : HS), (∀ K2 : HRt, (∀ w2 σ2, I w2 σ2 → K2 (some (HI r)) w2 σ2) → M [HR 11 0, HI a, HI b, HI c] w1 σ1 K2) → Q1 (some (HI r)) w1 σ1) → X [HR 10 0, HI a, HI b, HI c] w σ Q1
/-- the class answers, and then the reference answers the same -/
def Eq4 (I : HW → HS → Prop) (X M : HSp) : Prop := ∀ (a b c d : Int32) (w : HW) (σ : HS) (Q1 : HRt), I w σ → (∀ (r : Int32) (w1 : HW) (σ1 : HS), (∀ K2 : HRt, (∀ w2 σ2, I w2 σ2 → K2 (some (HI r)) w2 σ2) → M [HR 11 0, HI a, HI b, HI c, HI d] w1 σ1 K2) → Q1 (some (HI r)) w1 σ1) → X [HR 10 0, HI a, HI b, HI c, HI d] w σ Q1
/-- the class answers, and then the reference answers the same -/
def Eq5 (I : HW → HS → Prop) (X M : HSp) : Prop := ∀ (a b c d e : Int32) (w : HW) (σ : HS) (Q1 : HRt), I w σ → (∀ (r : Int32) (w1 : HW) (σ1 : HS), (∀ K2 : HRt, (∀ w2 σ2, I w2 σ2 → K2 (some (HI r)) w2 σ2) → M [HR 11 0, HI a, HI b, HI c, HI d, HI e] w1 σ1 K2) → Q1 (some (HI r)) w1 σ1) → X [HR 10 0, HI a, HI b, HI c, HI d, HI e] w σ Q1
def AllEq (I : HW → HS → Prop) (SX SM : Nat → HSp) : Prop := Eq2 I (SX 0) (SM 0) ∧ Eq3 I (SX 1) (SM 1) ∧ Eq2 I (SX 2) (SM 2) ∧ Eq3 I (SX 3) (SM 3) ∧ Eq3 I (SX 4) (SM 4) ∧ Eq2 I (SX 5) (SM 5) ∧ Eq3 I (SX 6) (SM 6) ∧ Eq1 I (SX 7) (SM 7) ∧ Eq2 I (SX 8) (SM 8) ∧ Eq3 I (SX 9) (SM 9) ∧ Eq1 I (SX 10) (SM 10) ∧ Eq1 I (SX 11) (SM 11) ∧ Eq2 I (SX 12) (SM 12) ∧ Eq5 I (SX 13) (SM 13) ∧ Eq4 I (SX 14) (SM 14) ∧ Eq1 I (SX 15) (SM 15) ∧ Eq2 I (SX 16) (SM 16) ∧ Eq2 I (SX 17) (SM 17) ∧ Eq1 I (SX 18) (SM 18) ∧ Eq3 I (SX 19) (SM 19) ∧ Eq2 I (SX 20) (SM 20) ∧ Eq2 I (SX 21) (SM 21) ∧ Eq3 I (SX 22) (SM 22) ∧ Eq5 I (SX 23) (SM 23) ∧ Eq1 I (SX 24) (SM 24) ∧ Eq1 I (SX 25) (SM 25)
def B1 (I : HW → HS → Prop) (i : Nat) : Nat → Option HKp := fun pc => bif Nat.beq pc 1090 then some (fun ls st w σ => ls = LsL i ∧ st = [] ∧ I w σ) else none
def B2 (I : HW → HS → Prop) (i : Nat) : Nat → Option HKp := fun pc => bif Nat.beq pc 18 then some (fun ls st w σ => ls = LsL i ∧ st = [] ∧ I w σ) else none
def B3 : Nat → Option HKp := fun pc => bif Nat.beq pc 1096 then some (fun _ st _ _ => st = []) else none
theorem lw_lt {L i : Nat} (hL : L ≤ 3072) (hi : i ≤ 4000) : nI L - 6 < nI i ↔ L < i + 6 := by
  have e : (nI L - nI 6).toInt = (L : Int) - 6 := pk_sub_toInt (by omega) (by omega)
  have e2 : (nI i).toInt = (i : Int) := nI_toInt (by omega)
  rw [show (6 : Int32) = nI 6 from rfl, Int32.lt_iff_toInt_lt, e, e2]
  omega
set_option maxHeartbeats 4000000 in
theorem law_step {SX SM : Nat → HSp} {I : HW → HS → Prop} {L : Nat} {xs : Nat → Int32} {i : Nat} {w : HW} {σ : HS} {q : HRt} (hE : AllEq I SX SM) (hi : i + 6 ≤ L) (hL : L ≤ 3072) (hI : I w σ) : wpm (tb_L SX SM L xs) (B1 I i) q 100 2 19 18 (LsL i) [] w σ := by
  obtain ⟨h0, h1, h2, h3, h4, h5, h6, h7, h8, h9, h10, h11, h12, h13, h14, h15, h16, h17, h18, h19, h20, h21, h22, h23, h24, h25⟩ := hE
  have hin : ∀ j, j < 6 → vp_in (nI i + nI j) L := fun j hj => by rw [nI_add]; exact vp_in_nI (by omega) (by omega)
  have hin0 : vp_in (nI i) L := vp_in_nI (by omega) (by omega)
  have hx : ¬ nI L - 6 < nI i := fun h => by have := (lw_lt hL (by omega)).mp h; omega
  refine And.intro (fun h => absurd h hx) (fun _ => ?_)
  refine And.intro hin0 ?_
  refine And.intro (fun _ => ?_) (fun _ => ?_)
  · refine ⟨hin 1 (by decide), hin 2 (by decide), ?_⟩
    refine h0 _ _ w σ _ hI fun r w1 σ1 h2 => ?_
    refine ⟨hin 1 (by decide), hin 2 (by decide), ?_⟩
    refine h2 _ fun w2 σ2 hI2 => ?_
    refine And.intro (fun _ => ?_) (fun h => absurd rfl h)
    exact ⟨rfl, rfl, hI2⟩
  refine And.intro (fun _ => ?_) (fun _ => ?_)
  · refine ⟨hin 1 (by decide), hin 2 (by decide), hin 3 (by decide), ?_⟩
    refine h1 _ _ _ w σ _ hI fun r w1 σ1 h2 => ?_
    refine ⟨hin 1 (by decide), hin 2 (by decide), hin 3 (by decide), ?_⟩
    refine h2 _ fun w2 σ2 hI2 => ?_
    refine And.intro (fun _ => ?_) (fun h => absurd rfl h)
    exact ⟨rfl, rfl, hI2⟩
  refine And.intro (fun _ => ?_) (fun _ => ?_)
  · refine ⟨hin 1 (by decide), hin 2 (by decide), ?_⟩
    refine h2 _ _ w σ _ hI fun r w1 σ1 h2 => ?_
    refine ⟨hin 1 (by decide), hin 2 (by decide), ?_⟩
    refine h2 _ fun w2 σ2 hI2 => ?_
    refine And.intro (fun _ => ?_) (fun h => absurd rfl h)
    exact ⟨rfl, rfl, hI2⟩
  refine And.intro (fun _ => ?_) (fun _ => ?_)
  · refine ⟨hin 1 (by decide), hin 2 (by decide), hin 3 (by decide), ?_⟩
    refine h3 _ _ _ w σ _ hI fun r w1 σ1 h2 => ?_
    refine ⟨hin 1 (by decide), hin 2 (by decide), hin 3 (by decide), ?_⟩
    refine h2 _ fun w2 σ2 hI2 => ?_
    refine And.intro (fun _ => ?_) (fun h => absurd rfl h)
    exact ⟨rfl, rfl, hI2⟩
  refine And.intro (fun _ => ?_) (fun _ => ?_)
  · refine ⟨hin 1 (by decide), hin 2 (by decide), hin 3 (by decide), ?_⟩
    refine h4 _ _ _ w σ _ hI fun r w1 σ1 h2 => ?_
    refine ⟨hin 1 (by decide), hin 2 (by decide), hin 3 (by decide), ?_⟩
    refine h2 _ fun w2 σ2 hI2 => ?_
    refine And.intro (fun _ => ?_) (fun h => absurd rfl h)
    exact ⟨rfl, rfl, hI2⟩
  refine And.intro (fun _ => ?_) (fun _ => ?_)
  · refine ⟨hin 1 (by decide), hin 2 (by decide), ?_⟩
    refine h5 _ _ w σ _ hI fun r w1 σ1 h2 => ?_
    refine ⟨hin 1 (by decide), hin 2 (by decide), ?_⟩
    refine h2 _ fun w2 σ2 hI2 => ?_
    refine And.intro (fun _ => ?_) (fun h => absurd rfl h)
    exact ⟨rfl, rfl, hI2⟩
  refine And.intro (fun _ => ?_) (fun _ => ?_)
  · refine ⟨hin 1 (by decide), hin 2 (by decide), hin 3 (by decide), ?_⟩
    refine h6 _ _ _ w σ _ hI fun r w1 σ1 h2 => ?_
    refine ⟨hin 1 (by decide), hin 2 (by decide), hin 3 (by decide), ?_⟩
    refine h2 _ fun w2 σ2 hI2 => ?_
    refine And.intro (fun _ => ?_) (fun h => absurd rfl h)
    exact ⟨rfl, rfl, hI2⟩
  refine And.intro (fun _ => ?_) (fun _ => ?_)
  · refine ⟨hin 1 (by decide), ?_⟩
    refine h7 _ w σ _ hI fun r w1 σ1 h2 => ?_
    refine ⟨hin 1 (by decide), ?_⟩
    refine h2 _ fun w2 σ2 hI2 => ?_
    refine And.intro (fun _ => ?_) (fun h => absurd rfl h)
    exact ⟨rfl, rfl, hI2⟩
  refine And.intro (fun _ => ?_) (fun _ => ?_)
  · refine ⟨hin 1 (by decide), hin 2 (by decide), ?_⟩
    refine h8 _ _ w σ _ hI fun r w1 σ1 h2 => ?_
    refine ⟨hin 1 (by decide), hin 2 (by decide), ?_⟩
    refine h2 _ fun w2 σ2 hI2 => ?_
    refine And.intro (fun _ => ?_) (fun h => absurd rfl h)
    exact ⟨rfl, rfl, hI2⟩
  refine And.intro (fun _ => ?_) (fun _ => ?_)
  · refine ⟨hin 1 (by decide), hin 2 (by decide), hin 3 (by decide), ?_⟩
    refine h9 _ _ _ w σ _ hI fun r w1 σ1 h2 => ?_
    refine ⟨hin 1 (by decide), hin 2 (by decide), hin 3 (by decide), ?_⟩
    refine h2 _ fun w2 σ2 hI2 => ?_
    refine And.intro (fun _ => ?_) (fun h => absurd rfl h)
    exact ⟨rfl, rfl, hI2⟩
  refine And.intro (fun _ => ?_) (fun _ => ?_)
  · refine ⟨hin 1 (by decide), ?_⟩
    refine h10 _ w σ _ hI fun r w1 σ1 h2 => ?_
    refine ⟨hin 1 (by decide), ?_⟩
    refine h2 _ fun w2 σ2 hI2 => ?_
    refine And.intro (fun _ => ?_) (fun h => absurd rfl h)
    exact ⟨rfl, rfl, hI2⟩
  refine And.intro (fun _ => ?_) (fun _ => ?_)
  · refine ⟨hin 1 (by decide), ?_⟩
    refine h11 _ w σ _ hI fun r w1 σ1 h2 => ?_
    refine ⟨hin 1 (by decide), ?_⟩
    refine h2 _ fun w2 σ2 hI2 => ?_
    refine And.intro (fun _ => ?_) (fun h => absurd rfl h)
    exact ⟨rfl, rfl, hI2⟩
  refine And.intro (fun _ => ?_) (fun _ => ?_)
  · refine ⟨hin 1 (by decide), hin 2 (by decide), ?_⟩
    refine h12 _ _ w σ _ hI fun r w1 σ1 h2 => ?_
    refine ⟨hin 1 (by decide), hin 2 (by decide), ?_⟩
    refine h2 _ fun w2 σ2 hI2 => ?_
    refine And.intro (fun _ => ?_) (fun h => absurd rfl h)
    exact ⟨rfl, rfl, hI2⟩
  refine And.intro (fun _ => ?_) (fun _ => ?_)
  · refine ⟨hin 1 (by decide), hin 2 (by decide), hin 3 (by decide), hin 4 (by decide), hin 5 (by decide), ?_⟩
    refine h13 _ _ _ _ _ w σ _ hI fun r w1 σ1 h2 => ?_
    refine ⟨hin 1 (by decide), hin 2 (by decide), hin 3 (by decide), hin 4 (by decide), hin 5 (by decide), ?_⟩
    refine h2 _ fun w2 σ2 hI2 => ?_
    refine And.intro (fun _ => ?_) (fun h => absurd rfl h)
    exact ⟨rfl, rfl, hI2⟩
  refine And.intro (fun _ => ?_) (fun _ => ?_)
  · refine ⟨hin 1 (by decide), hin 2 (by decide), hin 3 (by decide), hin 4 (by decide), ?_⟩
    refine h14 _ _ _ _ w σ _ hI fun r w1 σ1 h2 => ?_
    refine ⟨hin 1 (by decide), hin 2 (by decide), hin 3 (by decide), hin 4 (by decide), ?_⟩
    refine h2 _ fun w2 σ2 hI2 => ?_
    refine And.intro (fun _ => ?_) (fun h => absurd rfl h)
    exact ⟨rfl, rfl, hI2⟩
  refine And.intro (fun _ => ?_) (fun _ => ?_)
  · refine ⟨hin 1 (by decide), ?_⟩
    refine h15 _ w σ _ hI fun r w1 σ1 h2 => ?_
    refine ⟨hin 1 (by decide), ?_⟩
    refine h2 _ fun w2 σ2 hI2 => ?_
    refine And.intro (fun _ => ?_) (fun h => absurd rfl h)
    exact ⟨rfl, rfl, hI2⟩
  refine And.intro (fun _ => ?_) (fun _ => ?_)
  · refine ⟨hin 1 (by decide), hin 2 (by decide), ?_⟩
    refine h16 _ _ w σ _ hI fun r w1 σ1 h2 => ?_
    refine ⟨hin 1 (by decide), hin 2 (by decide), ?_⟩
    refine h2 _ fun w2 σ2 hI2 => ?_
    refine And.intro (fun _ => ?_) (fun h => absurd rfl h)
    exact ⟨rfl, rfl, hI2⟩
  refine And.intro (fun _ => ?_) (fun _ => ?_)
  · refine ⟨hin 1 (by decide), hin 2 (by decide), ?_⟩
    refine h17 _ _ w σ _ hI fun r w1 σ1 h2 => ?_
    refine ⟨hin 1 (by decide), hin 2 (by decide), ?_⟩
    refine h2 _ fun w2 σ2 hI2 => ?_
    refine And.intro (fun _ => ?_) (fun h => absurd rfl h)
    exact ⟨rfl, rfl, hI2⟩
  refine And.intro (fun _ => ?_) (fun _ => ?_)
  · refine ⟨hin 1 (by decide), ?_⟩
    refine h18 _ w σ _ hI fun r w1 σ1 h2 => ?_
    refine ⟨hin 1 (by decide), ?_⟩
    refine h2 _ fun w2 σ2 hI2 => ?_
    refine And.intro (fun _ => ?_) (fun h => absurd rfl h)
    exact ⟨rfl, rfl, hI2⟩
  refine And.intro (fun _ => ?_) (fun _ => ?_)
  · refine ⟨hin 1 (by decide), hin 2 (by decide), hin 3 (by decide), ?_⟩
    refine h19 _ _ _ w σ _ hI fun r w1 σ1 h2 => ?_
    refine ⟨hin 1 (by decide), hin 2 (by decide), hin 3 (by decide), ?_⟩
    refine h2 _ fun w2 σ2 hI2 => ?_
    refine And.intro (fun _ => ?_) (fun h => absurd rfl h)
    exact ⟨rfl, rfl, hI2⟩
  refine And.intro (fun _ => ?_) (fun _ => ?_)
  · refine ⟨hin 1 (by decide), hin 2 (by decide), ?_⟩
    refine h20 _ _ w σ _ hI fun r w1 σ1 h2 => ?_
    refine ⟨hin 1 (by decide), hin 2 (by decide), ?_⟩
    refine h2 _ fun w2 σ2 hI2 => ?_
    refine And.intro (fun _ => ?_) (fun h => absurd rfl h)
    exact ⟨rfl, rfl, hI2⟩
  refine And.intro (fun _ => ?_) (fun _ => ?_)
  · refine ⟨hin 1 (by decide), hin 2 (by decide), ?_⟩
    refine h21 _ _ w σ _ hI fun r w1 σ1 h2 => ?_
    refine ⟨hin 1 (by decide), hin 2 (by decide), ?_⟩
    refine h2 _ fun w2 σ2 hI2 => ?_
    refine And.intro (fun _ => ?_) (fun h => absurd rfl h)
    exact ⟨rfl, rfl, hI2⟩
  refine And.intro (fun _ => ?_) (fun _ => ?_)
  · refine ⟨hin 1 (by decide), hin 2 (by decide), hin 3 (by decide), ?_⟩
    refine h22 _ _ _ w σ _ hI fun r w1 σ1 h2 => ?_
    refine ⟨hin 1 (by decide), hin 2 (by decide), hin 3 (by decide), ?_⟩
    refine h2 _ fun w2 σ2 hI2 => ?_
    refine And.intro (fun _ => ?_) (fun h => absurd rfl h)
    exact ⟨rfl, rfl, hI2⟩
  refine And.intro (fun _ => ?_) (fun _ => ?_)
  · refine ⟨hin 1 (by decide), hin 2 (by decide), hin 3 (by decide), hin 4 (by decide), hin 5 (by decide), ?_⟩
    refine h23 _ _ _ _ _ w σ _ hI fun r w1 σ1 h2 => ?_
    refine ⟨hin 1 (by decide), hin 2 (by decide), hin 3 (by decide), hin 4 (by decide), hin 5 (by decide), ?_⟩
    refine h2 _ fun w2 σ2 hI2 => ?_
    refine And.intro (fun _ => ?_) (fun h => absurd rfl h)
    exact ⟨rfl, rfl, hI2⟩
  refine And.intro (fun _ => ?_) (fun _ => ?_)
  · refine ⟨hin 1 (by decide), ?_⟩
    refine h24 _ w σ _ hI fun r w1 σ1 h2 => ?_
    refine ⟨hin 1 (by decide), ?_⟩
    refine h2 _ fun w2 σ2 hI2 => ?_
    refine And.intro (fun _ => ?_) (fun h => absurd rfl h)
    exact ⟨rfl, rfl, hI2⟩
  refine And.intro (fun _ => ?_) (fun _ => ?_)
  · refine ⟨hin 1 (by decide), ?_⟩
    refine h25 _ w σ _ hI fun r w1 σ1 h2 => ?_
    refine ⟨hin 1 (by decide), ?_⟩
    refine h2 _ fun w2 σ2 hI2 => ?_
    refine And.intro (fun _ => ?_) (fun h => absurd rfl h)
    exact ⟨rfl, rfl, hI2⟩
  exact ⟨rfl, rfl, hI⟩
section LawExit
variable {p : Program} {l : Launch} {e : Env} {s : State} {m : MethodId} {below : List Frame} {meth : Method} {c : Code} {b L : Nat} {xs : Nat → Int32} {G : HG} {A : Nat → Prop} {g0 : HA} {w0 : HW} {SX SM : Nat → HSp}
theorem law_exit (C : ∀ cells slots mc ms, cells ≤ mc → slots ≤ ms → mc ≤ 600000 → ms ≤ 7302250 → HCx p l e room_1 s m #[Value.ref b] below meth c cells slots mc ms (lw_Z below #[Value.ref b] s) G A g0 w0 (fun _ _ _ => False) code RL 4 ret 10) (hLX : LX b L xs s A g0 w0) {nm : String} (hnm : meth.name = nm) (hAO : AO4 s) (hins : HOLs b L xs code RL 4 ret 10 nm (tb_L SX SM L xs)) (hA : ∀ q, A q → s.heap.size ≤ q) (hL : L ≤ 3072) {i cells slots : Nat} (hi : L < i + 6) (h2 : i ≤ 3078) (h3 : cells ≤ 600000) (h4 : slots ≤ 7302250) {w : HW} {σ : HS} : Wat p l e room_1 s m #[Value.ref b] below meth c cells slots (lw_Z below #[Value.ref b] s) G A g0 w0 4 18 (LsL i) [] w σ := by
  refine wpl_sound (C cells slots cells slots (Nat.le_refl _) (Nat.le_refl _) h3 h4) hLX hnm hAO ⟨h3, h4⟩ hins (B := B3) (fun pc P hP cells' slots' hc hs ls st w σ hp => ?_) 20 0 0 cells slots (Nat.le_refl _) (Nat.le_refl _) 18 (LsL i) [] w σ (And.intro (fun _ => rfl) (fun h => absurd ((lw_lt hL (by omega)).mpr hi) h))
  unfold B3 at hP
  cases hb : Nat.beq pc 1096 with
  | false => rw [hb] at hP; cases hP
  | true =>
    rw [hb] at hP
    cases hP
    obtain rfl := Nat.eq_of_beq_eq_true hb
    have hp : st = [] := hp
    subst hp
    obtain ⟨hx, hb2, hml, hown, hts, hK, hr, hlk, hrest⟩ := C cells slots cells slots (Nat.le_refl _) (Nat.le_refl _) h3 h4
    intro g H locs la hge hR hS hL2 hst
    refine lv_iconst hx hb2 dL_law_1096 (v := 1) rfl ?_
    refine va_forget (fun q hq => hA _ (hS.2.2 q hq)) ?_
    refine W.widen (k := 600000) (n := 7302250) (by omega) (by omega) ?_
    exact lw_ret hx hb2 hr hlk dL_law_1097
end LawExit
section LawLoop
variable {p : Program} {l : Launch} {e : Env} {s : State} {m : MethodId} {below : List Frame} {meth : Method} {c : Code} {b L : Nat} {xs : Nat → Int32} {G : HG} {A : Nat → Prop} {g0 : HA} {w0 : HW} {SX SM : Nat → HSp} {I : HW → HS → Prop}
theorem law_loop (C : ∀ cells slots mc ms, cells ≤ mc → slots ≤ ms → mc ≤ 600000 → ms ≤ 7302250 → HCx p l e room_1 s m #[Value.ref b] below meth c cells slots mc ms (lw_Z below #[Value.ref b] s) G A g0 w0 (fun _ _ _ => False) code RL 4 ret 10) (hLX : LX b L xs s A g0 w0) {nm : String} (hnm : meth.name = nm) (hAO : AO4 s) (hins : HOLs b L xs code RL 4 ret 10 nm (tb_L SX SM L xs)) (hA : ∀ q, A q → s.heap.size ≤ q) (hL : L ≤ 3072) (hE : AllEq I SX SM) : ∀ (n i cells slots : Nat), L ≤ 6 * n + i + 5 → i ≤ 3078 → cells + 2 * n ≤ 600000 → slots + 19 * n ≤ 7302250 → ∀ w σ, I w σ → Wat p l e room_1 s m #[Value.ref b] below meth c cells slots (lw_Z below #[Value.ref b] s) G A g0 w0 4 18 (LsL i) [] w σ := by
  intro n
  induction n with
  | zero =>
    intro i cells slots h1 h2 h3 h4 w σ hI
    exact law_exit C hLX hnm hAO hins hA hL (by omega) h2 (by omega) (by omega)
  | succ n ih =>
    intro i cells slots h1 h2 h3 h4 w σ hI
    by_cases hi : i + 6 ≤ L
    · refine wpl_sound (C cells slots (cells + 2) (slots + 19) (by omega) (by omega) (by omega) (by omega)) hLX hnm hAO ⟨(show cells + 2 ≤ 600000 by omega), (show slots + 19 ≤ 7302250 by omega)⟩ hins (B := B1 I i) (fun pc P hP cells' slots' hc hs ls st w σ hp => ?_) 100 2 19 cells slots (Nat.le_refl _) (Nat.le_refl _) 18 (LsL i) [] w σ (law_step hE hi hL hI)
      unfold B1 at hP
      cases hb : Nat.beq pc 1090 with
      | false => rw [hb] at hP; cases hP
      | true =>
        rw [hb] at hP
        cases hP
        obtain rfl := Nat.eq_of_beq_eq_true hb
        obtain ⟨rfl, rfl, hI2⟩ := hp
        refine wpl_sound (C cells' slots' cells' slots' (by omega) (by omega) (by omega) (by omega)) hLX hnm hAO ⟨(show cells' ≤ 600000 by omega), (show slots' ≤ 7302250 by omega)⟩ hins (B := B2 I (i + 6)) (fun pc P hP cells2 slots2 hc2 hs2 ls st w σ hp => ?_) 5 0 0 cells' slots' (Nat.le_refl _) (Nat.le_refl _) 1090 (LsL i) [] w σ ⟨congrArg (fun z => [some (HR 45 0), some (HR 10 0), some (HR 11 0), some (HI z)]) (nI_add i 6), rfl, hI2⟩
        unfold B2 at hP
        cases hb : Nat.beq pc 18 with
        | false => rw [hb] at hP; cases hP
        | true =>
          rw [hb] at hP
          cases hP
          obtain rfl := Nat.eq_of_beq_eq_true hb
          obtain ⟨rfl, rfl, hI3⟩ := hp
          exact ih (i + 6) cells2 slots2 (by omega) (by omega) (by omega) (by omega) w σ hI3
    · exact law_exit C hLX hnm hAO hins hA hL (by omega) h2 (by omega) (by omega)
end LawLoop
