/-! what the Statement gives at the start -/
def tmS (i : Nat) : Term := .string "SheafVotes$TextReader" (strK.getD i 0)
theorem gv_st (t : Nat) (ht : t < 4) {s : State} {b : Nat} (hts : ∀ w ∈ lw_tbl, w.before #[Value.ref b] s = true) (hs : ∀ w ∈ flatC (Jvm.Cond.and given_1 narrow_1), w.before #[Value.ref b] s = true) {A : Nat → Prop} (hA : ∀ a : Nat, a < s.heap.size → ¬ A a) : ∃ a, va_Z "SheafVotes" (stN t) "[I" (.ref a) A s s.heap ∧ va_T .int a (stL t).length (fun j => .int ((stL t).getD j 0)) A s s.heap := by
  have m1 : ∀ t, t < 4 → Cond.arrayOf (.static "SheafVotes" (stN t) "[I") .int ∈ flatC (Jvm.Cond.and given_1 narrow_1) := by decide +kernel
  have m2 : ∀ t, t < 4 → Cond.eq (.length (.static "SheafVotes" (stN t) "[I")) (.int (Int32.ofNat (stL t).length)) ∈ flatC (Jvm.Cond.and given_1 narrow_1) := by decide +kernel
  have m3 : ∀ t, t < 4 → ∀ j, j < (stL t).length → Cond.eq (.elem (.static "SheafVotes" (stN t) "[I") (.int (Int32.ofNat j))) (.int ((stL t).getD j 0)) ∈ flatC (Jvm.Cond.and given_1 narrow_1) := by decide +kernel
  have m4 : ∀ t, t < 4 → Cond.laysStatic "SheafVotes" (stN t) "[I" ∈ lw_tbl := by decide +kernel
  have m5 : Cond.initialized "SheafVotes" ∈ lw_tbl := by decide +kernel
  have m6 : ∀ t, t < 4 → (stL t).length < 2 ^ 31 := by decide +kernel
  obtain ⟨a, h1, h2⟩ := va_Tof (tm := .static "SheafVotes" (stN t) "[I") (f := fun j => .int ((stL t).getD j 0)) (m6 t ht) (hs _ (m1 t ht)) (va_eqt (hs _ (m2 t ht))) (fun j hj => va_eqt (hs _ (m3 t ht j hj))) hA
  exact ⟨a, va_Zof (hts _ (m4 t ht)) (hts _ m5) h1 hA, h2⟩
theorem gv_str {s : State} {b : Nat} (hs : ∀ w ∈ flatC (Jvm.Cond.and given_1 narrow_1), w.before #[Value.ref b] s = true) {A : Nat → Prop} (hA : ∀ a : Nat, a < s.heap.size → ¬ A a) : ∃ adK adV : Nat → Nat, vk_S 12 strN strB adK adV A s s.heap ∧ ∀ i : Nat, i < 12 → (tmS i).eval #[Value.ref b] s none [] s = some (.ref (adK i)) := by
  have m1 : ∀ i, i < 12 → Cond.exactly (tmS i) "java/lang/String" ∈ flatC (Jvm.Cond.and given_1 narrow_1) := by decide +kernel
  have m2 : ∀ i, i < 12 → Cond.eq (.field (tmS i) "java/lang/String" "coder" "B") (.int 0) ∈ flatC (Jvm.Cond.and given_1 narrow_1) := by decide +kernel
  have m3 : ∀ i, i < 12 → Cond.arrayOf (.field (tmS i) "java/lang/String" "value" "[B") .byte ∈ flatC (Jvm.Cond.and given_1 narrow_1) := by decide +kernel
  have m4 : ∀ i, i < 12 → Cond.eq (.length (.field (tmS i) "java/lang/String" "value" "[B")) (.int (Int32.ofNat (strN.getD i 0))) ∈ flatC (Jvm.Cond.and given_1 narrow_1) := by decide +kernel
  have m5 : ∀ i, i < 12 → ∀ j, j < strN.getD i 0 → Cond.eq (.elem (.field (tmS i) "java/lang/String" "value" "[B") (.int (Int32.ofNat j))) (.int ((strB.getD i []).getD j 0)) ∈ flatC (Jvm.Cond.and given_1 narrow_1) := by decide +kernel
  have m6 : ∀ i, i < 12 → ∀ j, j < 12 → i ≠ j → Cond.not (Cond.eq (tmS i) (tmS j)) ∈ flatC (Jvm.Cond.and given_1 narrow_1) ∨ Cond.not (Cond.eq (tmS j) (tmS i)) ∈ flatC (Jvm.Cond.and given_1 narrow_1) := by decide +kernel
  have m7 : ∀ i, i < 12 → strN.getD i 0 < 2 ^ 31 := by decide +kernel
  exact vk_Sof (tm := tmS) m7 (fun i hi => hs _ (m1 i hi)) (fun i hi => hs _ (m2 i hi)) (fun i hi => hs _ (m3 i hi)) (fun i hi => hs _ (m4 i hi)) (fun i hi j hj => hs _ (m5 i hi j hj)) (fun i j hi hj hne => by
    rcases m6 i hi j hj hne with q | q
    · exact Or.inl (hs _ q)
    · exact Or.inr (hs _ q)) hA
theorem gv_all {s : State} {b : Nat} (hts : ∀ w ∈ lw_tbl, w.before #[Value.ref b] s = true) (hgv : (Jvm.Cond.and given_1 narrow_1).before #[Value.ref b] s = true) : ∃ (a1 aK aV : Nat → Nat) (a9 : Nat), ∀ g : GH, (∀ t, t < 4 → g.1 (100 + t) = a1 t) → (∀ i, i < 12 → g.1 (200 + i) = aK i) → (∀ i, i < 12 → g.1 (300 + i) = aV i) → g.1 999 = a9 → (∀ k, k < 62 → s.heap.size ≤ g.1 k) → Stt g s s.heap := by
  have hs := flat_of_before _ hgv
  have hA : ∀ a : Nat, a < s.heap.size → ¬ (fun q : Nat => s.heap.size ≤ q) a := fun a ha q => absurd ha (Nat.not_lt.mpr q)
  obtain ⟨p0, z0, t0⟩ := gv_st 0 (by decide) hts hs hA
  obtain ⟨p1, z1, t1⟩ := gv_st 1 (by decide) hts hs hA
  obtain ⟨p2, z2, t2⟩ := gv_st 2 (by decide) hts hs hA
  obtain ⟨p3, z3, t3⟩ := gv_st 3 (by decide) hts hs hA
  obtain ⟨aK, aV, hS, hE⟩ := gv_str hs hA
  have n1 : Cond.eq (.static "java/lang/String" "COMPACT_STRINGS" "Z") (.int 1) ∈ flatC (Jvm.Cond.and given_1 narrow_1) := by decide +kernel
  have n2 : Cond.isRef (.static "jdk/internal/util/Preconditions" "SIOOBE_FORMATTER" "Ljava/util/function/BiFunction;") ∈ flatC (Jvm.Cond.and given_1 narrow_1) := by decide +kernel
  have l1 : Cond.laysStatic "java/lang/String" "COMPACT_STRINGS" "Z" ∈ lw_tbl := by decide +kernel
  have l2 : Cond.laysStatic "jdk/internal/util/Preconditions" "SIOOBE_FORMATTER" "Ljava/util/function/BiFunction;" ∈ lw_tbl := by decide +kernel
  have l3 : Cond.initialized "java/lang/String" ∈ lw_tbl := by decide +kernel
  have l4 : Cond.initialized "jdk/internal/util/Preconditions" ∈ lw_tbl := by decide +kernel
  have l5 : ∀ i, i < 12 → Cond.stringRef "SheafVotes$TextReader" (strK.getD i 0) (strT.getD i "") ∈ lw_tbl := by decide +kernel
  have zc := va_Zof (hts _ l1) (hts _ l3) (va_eqi (hs _ n1)) hA
  have zq := va_Zqof (hts _ l2) (hts _ l4) (hs _ n2) hA
  obtain ⟨a9, h9⟩ : ∃ a9 : Nat, va_Z "jdk/internal/util/Preconditions" "SIOOBE_FORMATTER" "Ljava/util/function/BiFunction;" .null (fun q : Nat => s.heap.size ≤ q) s s.heap ∨ va_Z "jdk/internal/util/Preconditions" "SIOOBE_FORMATTER" "Ljava/util/function/BiFunction;" (.ref a9) (fun q : Nat => s.heap.size ≤ q) s s.heap := by
    rcases zq with q | ⟨t, q⟩
    · exact ⟨0, Or.inl q⟩
    · exact ⟨t, Or.inr q⟩
  refine ⟨fun t => [p0, p1, p2, p3].getD t 0, aK, aV, a9, fun g g1 gK gV g9 gA => ?_⟩
  have hB : ∀ q, Ag g q → (fun q : Nat => s.heap.size ≤ q) q := by
    rintro q ⟨k, hk, rfl⟩
    exact gA k hk
  refine ⟨fun w hw => va_Nw.of (nest_tab (nest_in hw)) (hts w (List.mem_filter.mp hw).1), fun t ht => ?_, fun i hi => ?_, ⟨fun i hi => ?_, fun i j hi hj e => ?_⟩, zc.narrow hB, ?_⟩
  · unfold stOne
    rw [g1 t ht]
    match t, ht with
    | 0, _ => exact ⟨z0.narrow hB, t0.narrow hB⟩
    | 1, _ => exact ⟨z1.narrow hB, t1.narrow hB⟩
    | 2, _ => exact ⟨z2.narrow hB, t2.narrow hB⟩
    | 3, _ => exact ⟨z3.narrow hB, t3.narrow hB⟩
  · rw [gK i hi]
    exact vk_R.of (hts _ (l5 i hi)) (hE i hi)
  · dsimp only
    rw [gK i hi, gV i hi]
    exact (hS.narrow hB).1 i hi
  · dsimp only at e
    rw [gK i hi, gK j hj] at e
    exact hS.2 i j hi hj e
  · unfold sioZ
    rw [g9]
    rcases h9 with q | q
    · exact Or.inl (q.narrow hB)
    · exact Or.inr (q.narrow hB)
