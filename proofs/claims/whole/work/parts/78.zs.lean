/-! what the start gives: words, statics -/
theorem vk_S.cg {N : Nat} {len : List Nat} {byt : List (List Int32)} {adK adK' adV : Nat → Nat} {A : Nat → Prop} {U : State} {H : Heap} (h : vk_S N len byt adK adV A U H) (e : ∀ i, i < N → adK' i = adK i) : vk_S N len byt adK' adV A U H :=
  ⟨fun i hi => by rw [e i hi]; exact h.1 i hi, fun i j hi hj q => h.2 i j hi hj (by rw [← e i hi, ← e j hj]; exact q)⟩
theorem zs_all {s : State} {b : Nat} {A : Nat → Prop} (hts : ∀ x ∈ lw_tbl, x.before #[Value.ref b] s = true) (hgv : (Jvm.Cond.and given_1 narrow_1).before #[Value.ref b] s = true) (hA : ∀ a : Nat, a < s.heap.size → ¬ A a) : ∃ adK adV : Nat → Nat, ∀ (D : va_G) (cl : Nat → ClassId), ZS (D, cl, adK, adV) A s s.heap ∧ SRf (D, cl, adK, adV) s := by
  have hs := flat_of_before _ hgv
  obtain ⟨adK, adV, hS, hE⟩ := str_at hgv hA
  have hC : va_Z "java/lang/String" "COMPACT_STRINGS" "Z" (.int 1) A s s.heap := va_Zof (hts _ (by decide +kernel)) (hts _ (by decide +kernel)) (va_eqi (hs _ (by decide +kernel))) hA
  have hF : va_Zq "jdk/internal/util/Preconditions" "SIOOBE_FORMATTER" "Ljava/util/function/BiFunction;" A s s.heap := va_Zqof (hts _ (by decide +kernel)) (hts _ (by decide +kernel)) (hs _ (by decide +kernel)) hA
  have fin : ∀ t, (va_Z "jdk/internal/util/Preconditions" "SIOOBE_FORMATTER" "Ljava/util/function/BiFunction;" .null A s s.heap ∨ va_Z "jdk/internal/util/Preconditions" "SIOOBE_FORMATTER" "Ljava/util/function/BiFunction;" (.ref t) A s s.heap) → ∃ adK adV : Nat → Nat, ∀ (D : va_G) (cl : Nat → ClassId), ZS (D, cl, adK, adV) A s s.heap ∧ SRf (D, cl, adK, adV) s := fun t ht => by
    have e : ∀ i, i < 6 → (fun i => if i = 6 then t else adK i) i = adK i := fun i hi => if_neg (by omega)
    refine ⟨fun i => if i = 6 then t else adK i, adV, fun D cl => ⟨⟨hS.cg e, hC, ht⟩, ?_⟩⟩
    exact ⟨vk_R.of (hts _ (by decide +kernel)) (hE 0 (by decide)), vk_R.of (hts _ (by decide +kernel)) (hE 1 (by decide)), vk_R.of (hts _ (by decide +kernel)) (hE 2 (by decide)), vk_R.of (hts _ (by decide +kernel)) (hE 3 (by decide)), vk_R.of (hts _ (by decide +kernel)) (hE 4 (by decide)), vk_R.of (hts _ (by decide +kernel)) (hE 5 (by decide))⟩
  rcases hF with h | ⟨t, h⟩
  · exact fin 0 (Or.inl h)
  · exact fin t (Or.inr h)
theorem ao_all {s : State} {args : Array Value} (hts : ∀ x ∈ lw_tbl, x.before args s = true) : AO4 s ∧ ∀ C, C = RX3 ∨ C = RX4 ∨ C = RX7 ∨ C = RX9 → (Cond.arrayOver (.object C)).before args s = true := by
  have h3 := hts (.arrayOver (.object RX3)) (by decide +kernel)
  have h4 := hts (.arrayOver (.object RX4)) (by decide +kernel)
  have h7 := hts (.arrayOver (.object RX7)) (by decide +kernel)
  have h9 := hts (.arrayOver (.object RX9)) (by decide +kernel)
  refine ⟨⟨va_AO.of h3, va_AO.of h4, va_AO.of h7, va_AO.of h9⟩, fun C hC => ?_⟩
  rcases hC with rfl | rfl | rfl | rfl
  · exact h3
  · exact h4
  · exact h7
  · exact h9
