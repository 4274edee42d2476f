/-! THE LAW, from its entry (draft: never built) -/
theorem whole_start {p : Program} {e : Env} {s : State} {m : MethodId} {below : List Frame} {meth : Method} {c : Code} (l : Launch) {b L : Nat} {xs : Nat → Int32} (hL : L ≤ 3072) (C0 : lw_At p s m meth c b L xs) : W p l e room_1 s m #[Value.ref b] below meth c s.heap [] 0 0 (lw_Z below #[Value.ref b] s) (entryFrame m ([Value.ref b] : List Value).toArray 4) := by
  obtain ⟨hx, hb, hr, hml, hown, hts0, hX, hbl, hlocks, hgv⟩ := id C0
  have hts : ∀ x ∈ TT, x.before #[Value.ref b] s = true := fun x hx => hts0 x (List.mem_filter.mp hx).1
  have hbA : ¬ (fun q : Nat => s.heap.size ≤ q) b := Nat.not_le.mpr hbl
  have hA0 : ∀ a : Nat, a < s.heap.size → ¬ (fun q : Nat => s.heap.size ≤ q) a := fun a h => Nat.not_le.mpr h
  obtain ⟨hAO, ho⟩ := ao_all hts0
  obtain ⟨D, cl, hK⟩ := know_all hts ho
  obtain ⟨adK, adV, hZ⟩ := zs_all (A := fun q : Nat => s.heap.size ≤ q) hts0 hgv hA0
  obtain ⟨hZS, hSR⟩ := hZ D cl
  have C : ∀ cells slots mc ms, cells ≤ mc → slots ≤ ms → mc ≤ 600000 → ms ≤ 7302250 → HCx p l e room_1 s m #[Value.ref b] below meth c cells slots mc ms (lw_Z below #[Value.ref b] s) (D, cl, adK, adV) (fun q : Nat => s.heap.size ≤ q) (fun k i => if k = 43 then adK i else if k = 44 then adV i else b) w00 (fun _ _ _ => False) code RL 4 ret 10 := fun cells slots mc ms h1 h2 h3 h4 => ⟨hx, hb, hml, hown, hts, hK adK adV, hr, hlocks, hZS, hSR, fun _ h => h, ⟨by decide, by decide⟩, ⟨Nat.le_trans h1 h3, Nat.le_trans h2 h4⟩, ⟨h1, h2⟩, fun _ _ _ h => h.elim⟩
  have hLX : LX b L xs s (fun q : Nat => s.heap.size ≤ q) (fun k i => if k = 43 then adK i else if k = 44 then adV i else b) w00 := ⟨hX, hbl, hbA, rfl, by decide⟩
  have h0 : Wat p l e room_1 s m #[Value.ref b] below meth c 0 0 (lw_Z below #[Value.ref b] s) (D, cl, adK, adV) (fun q : Nat => s.heap.size ≤ q) (fun k i => if k = 43 then adK i else if k = 44 then adV i else b) w00 4 0 [some (HR 45 0), none, none, none] [] w00 s00 := by
    refine wpl_sound (C 0 0 49 1797 (by omega) (by omega) (by omega) (by omega)) hLX rfl hAO ⟨by decide, by decide⟩ (okl_L b L xs) (B := B2 Inv 0) (fun pc P hP cells' slots' hc hs ls st w σ hp => ?_) 40 49 1797 0 0 (by omega) (by omega) 0 _ _ _ _ law_start
    unfold B2 at hP
    cases hb2 : Nat.beq pc 18 with
    | false => rw [hb2] at hP; cases hP
    | true =>
      rw [hb2] at hP
      cases hP
      obtain rfl := Nat.eq_of_beq_eq_true hb2
      obtain ⟨rfl, rfl, hI⟩ := hp
      exact law_loop C hLX rfl hAO (okl_L b L xs) (fun q h => h) hL all_eq 512 0 cells' slots' (by omega) (by omega) (by omega) (by omega) w σ hI
  have hz : ∀ k, k < 42 → w00.1 k = 0 := fun k hk => by
    show (if k = 43 then 7 else if k = 44 then 6 else if k = 45 then 1 else 0) = 0
    rw [if_neg (by omega), if_neg (by omega), if_neg (by omega)]
  have hR : RepS (D, cl, adK, adV) (fun q : Nat => s.heap.size ≤ q) (fun k i => if k = 43 then adK i else if k = 44 then adV i else b) w00 s00 s.heap := by
    refine ⟨fun k i hk hi => absurd (hz k hk ▸ hi) (Nat.not_lt_zero i), fun k i k' i' hk _ hi => absurd (hz k hk ▸ hi) (Nat.not_lt_zero i), ⟨fun _ => ⟨rfl, rfl⟩, rfl, rfl⟩, ?_⟩
    refine ⟨fun k i f kk o hi hf => ?_, fun k j o _ h => (by cases h), fun k hk => ?_, by decide⟩
    · rcases Nat.lt_or_ge k 42 with h | h
      · exact absurd (hz k h ▸ hi) (Nat.not_lt_zero i)
      · have h3 : k = 43 ∨ k = 44 ∨ k = 45 := by
          have hi' : i < (if k = 43 then 7 else if k = 44 then 6 else if k = 45 then 1 else 0) := hi
          by_cases a1 : k = 43
          · exact Or.inl a1
          by_cases a2 : k = 44
          · exact Or.inr (Or.inl a2)
          by_cases a3 : k = 45
          · exact Or.inr (Or.inr a3)
          rw [if_neg a1, if_neg a2, if_neg a3] at hi'
          exact absurd hi' (Nat.not_lt_zero i)
        rcases h3 with rfl | rfl | rfl <;> cases hf
    · rw [hz k (by unfold isRA at hk; rw [Bool.and_eq_true] at hk; have := Nat.le_of_ble_eq_true hk.2; omega)]
      exact Nat.zero_le 1
  rw [lg_entry_eq]
  refine h0 _ s.heap [] _ GE.rf hR va_S.rf ⟨lv_entry [Value.ref b] (n := 4) (Nat.le_of_ble_eq_true rfl), fun j v hj => ?_⟩ (fun _ h => absurd h List.not_mem_nil)
  match j, hj with
  | 0, hj => cases hj; exact ⟨(by decide : 0 < w00.1 45), rfl⟩
  | 1, hj => cases hj
  | 2, hj => cases hj
  | 3, hj => cases hj
  | j + 4, hj => cases hj
set_option maxHeartbeats 4000000 in
theorem lw_walk (l : Launch) (b : Addr) (xs : List Int32) : MetFree l x (headSpec (Jvm.Cond.code x code maxLocals ret :: tables_1) room_1) (lw_P b xs) (fun _ _ _ _ _ => True) lw_Q := by
  refine MetFree.of_bodyS (code := code) (maxLocals := maxLocals) (ret := ret) (by decide) ?_ ?_
  · intro args s m h hn
    obtain ⟨meth, c, h1, h2, h3, h4, h5, h6, -, -⟩ := Cond.code_spec hn (atoms_spec (ws := Jvm.Cond.code x code maxLocals ret :: tables_1) h _ List.mem_cons_self)
    exact ⟨meth, c, h1, h2, h3, h4, h5, h6⟩
  · intro p e s m args below meth c s₁ B hml0 hP _
    obtain ⟨rfl, hx, hbd, hgv⟩ := hP
    obtain ⟨scr, harrAt, hlist, hof, hsmall⟩ := hx
    obtain ⟨hcb, hkn, -, -⟩ := State.arrayAt?_spec harrAt
    have hown : s.vm.findClass R_law = some m.cls := findClass_of_methodNamed B.named
    have hts0 : ∀ c ∈ (Jvm.Cond.code x code maxLocals ret :: tables_1), c.before #[Value.ref b] s = true := atoms_spec (ws := Jvm.Cond.code x code maxLocals ret :: tables_1) B.pre
    have hts : ∀ w ∈ lw_tbl, w.before #[Value.ref b] s = true := k2_hts_sels lw_privs (fun w hw => hts0 w (List.mem_cons_of_mem _ hw)) lw_privs_ok
    have hml : c.maxLocals = 4 := B.maxLocals_eq (hts0 _ List.mem_cons_self)
    have X₀ : Stand p l e room_1 s m #[Value.ref b] below meth c s₁ [] 0 0 := Stand.of_body B
    have hh0 : s₁.heap = s.heap := by rw [B.state]; rfl
    have hsz : scr.slots.size = xs.length := by rw [← Array.length_toList, hlist, List.length_map]
    have hval : ∀ j : Nat, j < xs.length → scr.slots[j]? = some (.int (xs.getD j 0)) := fun j hj => by
      rw [← Array.getElem?_toList, hlist]
      simp [hj]
    have hbl : b < s.heap.size := (Array.getElem?_eq_some_iff.mp hcb).1
    have hX : va_X b xs.length (fun j => xs.getD j 0) s s.heap := ⟨scr, hcb, hof, hkn, hsz, hval⟩
    have K : W p l e room_1 s m #[Value.ref b] below meth c s₁.heap [] 0 0 (lw_Z below #[Value.ref b] s) (entryFrame m ([Value.ref b] : List Value).toArray 4) := by
      rw [hh0]
      exact whole_start l hbd ⟨B.exec, B.bytes, B.returns, hml, hown, hts, hX, hbl, B.notSynchronized, hgv⟩
    obtain ⟨t, a1, o, b1, b2, b3⟩ := K s₁ rfl X₀
    exact ⟨t, o, a1, b1, b2, b3⟩
theorem lw_pre_spec {args : Array Value} {s : State} (h : (Jvm.Cond.and given_1 narrow_1).before args s = true) (hr : rest_1_c.before args s = true) : ∃ (b : Addr) (xs : List Int32), lw_P b xs args s := by
  have hs := flat_of_before _ h
  have hq := flat_of_before _ hr
  have hc : (Cond.count 1).before args s = true := hs _ (by decide +kernel)
  have harr : (Cond.arrayOf (.arg 0) .int).before args s = true := hs _ (by decide +kernel)
  have hle : (Cond.le (.length (.arg 0)) (.int 3072)).before args s = true := hs _ (by decide +kernel)
  have hlen : (Cond.isInt (.length (.arg 0))).before args s = true := hq _ (by decide +kernel)
  have hall : (Cond.all (.arg 0) (.isInt (.elem (.arg 0) (.index 0)))).before args s = true := hq _ (by decide +kernel)
  obtain ⟨b, xs, hb, hx⟩ := State.ints_of_pre rfl harr hlen hall
  have hsm : xs.length < 2 ^ 31 := hx.choose_spec.2.2.2
  have hev : (Term.length (.arg 0)).eval args s none [] s = some (.int xs.length.toInt32) := hx.length_eval hb
  have hv := Cond.le_ints hev (show (Term.int 3072).eval args s none [] s = some (.int 3072) from rfl)
  have hd : xs.length.toInt32 ≤ 3072 := by
    simpa [Cond.before, Cond.holds, hv] using hle
  have hN : xs.length ≤ 3072 := (Int32.ofNat_le_ofNat hsm (by decide)).mp (show Int32.ofNat xs.length ≤ Int32.ofNat 3072 from hd)
  exact ⟨b, xs, Cond.one_arg hc (show args[0]? = some (.ref b) from hb), hx, hN, h⟩
theorem lw_comes (l : Launch) : Comes l x (Jvm.Cond.code x code maxLocals ret :: tables_1) room_1 (fun tb e args s => Calls_1 tb e args s ∧ rest_1 tb e args s ∧ Pre_1 tb e args s)
    (fun _ _ args s o t => lw_Q args s o t) := by
  intro p e ha hc hk s m args below hf hfit hheap happ hpre
  obtain ⟨b, xs, hP⟩ := lw_pre_spec hpre.2.2 hpre.2.1
  obtain ⟨k, o, h1, h2, h3, hQ⟩ := lw_walk l b xs p e ha hc hk s m args below hf ((Spec.applies_iff_loose hf).mp happ).1 hP trivial
  exact ⟨k, o, h1, h2, h3, hQ⟩
theorem lw_frame {s t : State} {o : Outcome} {args : Array Value} (h : Framed s o t [] 600000 7302250) :
    Framed s o t (fieldLocs frame_1_writes args s ++ arrayLocs frame_1_arrays args s ++ staticLocs frame_1_statics s) 600000 7302250 := h
theorem lw_limb (L : Cond) (hL : ∀ (args : Array Value) (s t : State), L.after args s (.returned (some (.int 1))) t = true) :
    ArmFor flags0 classFile x code maxLocals ret World_1 tables_1 room_1 Calls_1 rest_1 Pre_1
      (fun tb e a s o t => postC L tb e a s o t ∧ Framed s o t (fieldLocs frame_1_writes a s ++ arrayLocs frame_1_arrays a s ++ staticLocs frame_1_statics s) 600000 7302250) := by
  intro l _ _ _ p e ha hc hk s m args below hf hfit hheap happ hpre
  obtain ⟨k, o, h1, h2, h3, rfl, hF⟩ := lw_comes l p e ha hc hk s m args below hf hfit hheap happ hpre
  exact ⟨k, _, h1, h2, h3, hL args s _, lw_frame hF⟩
theorem i_vc : Claimed_1_1 ∧ Claimed_1_2 := ⟨lw_limb limb_1_1 (fun args s t => by simp [limb_1_1, Cond.after, Cond.holds, Cond.value]), lw_limb limb_1_2 (fun args s t => Cond.after_iff.mpr (by
  first | (rw [show limb_1_2 = Cond.eq .result (.int 1) from rfl, Cond.eq_ints (x := 1) (y := 1) rfl rfl]; simp; done) | (simp [limb_1_2, Cond.value, Term.eval]; done)))⟩
