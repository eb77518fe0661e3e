/-! calls by the kind of their contract; switches case by case -/
abbrev CnE (M : MT) (as : List Value) (mem : Mem) (r : Option Value) (m2 : Mem) : Prop := Cn M as mem (fun r' m' => r' = r ∧ m' = m2)
abbrev CnI (M : MT) (as : List Value) (mem : Mem) (P : Int32 → Mem → Prop) : Prop := Cn M as mem (fun r m' => ∃ x, r = some (.int x) ∧ P x m')
abbrev CnV (M : MT) (as : List Value) (mem : Mem) (P : Mem → Prop) : Prop := Cn M as mem (fun r m' => r = none ∧ P m')
section WRAP
variable {M M' : MT} {Z : ZT} {pc n' idx n : Nat} {ls : List (Option Value)} {st rest as : List Value} {mem : Mem}
theorem s_E {r : Option Value} {m2 : Mem} (hd : decode M.2.1 pc = .ok (.invokestatic idx, 3)) (hn : pc + 3 = n') (hL : MLk M.1.cls idx M') (hM : MOK M' n) (hst : Cond.static M'.1 ∈ tb) (hR : Rok Z M') (hC : CnE M' as mem r m2) (hlen : as.length = n) (hsk : st = as.reverse ++ rest) (hcat : (rest.map fun v => v.category).sum ≤ 8) (k : Wm M Z n' ls (r.toList ++ rest) m2) : Wm M Z pc ls st mem :=
  w_callS hd hn hL hM hst hR hlen hcat hsk hC (fun r' m' h => by obtain ⟨rfl, rfl⟩ := h; exact k)
theorem s_I {P : Int32 → Mem → Prop} (hd : decode M.2.1 pc = .ok (.invokestatic idx, 3)) (hn : pc + 3 = n') (hL : MLk M.1.cls idx M') (hM : MOK M' n) (hst : Cond.static M'.1 ∈ tb) (hR : Rok Z M') (hC : CnI M' as mem P) (hlen : as.length = n) (hsk : st = as.reverse ++ rest) (hcat : (rest.map fun v => v.category).sum ≤ 8) (k : ∀ x m', P x m' → Wm M Z n' ls (.int x :: rest) m') : Wm M Z pc ls st mem :=
  w_callS hd hn hL hM hst hR hlen hcat hsk hC (fun r' m' h => by obtain ⟨x, rfl, h⟩ := h; exact k x m' h)
theorem s_V {P : Mem → Prop} (hd : decode M.2.1 pc = .ok (.invokestatic idx, 3)) (hn : pc + 3 = n') (hL : MLk M.1.cls idx M') (hM : MOK M' n) (hst : Cond.static M'.1 ∈ tb) (hR : Rok Z M') (hC : CnV M' as mem P) (hlen : as.length = n) (hsk : st = as.reverse ++ rest) (hcat : (rest.map fun v => v.category).sum ≤ 8) (k : ∀ m', P m' → Wm M Z n' ls rest m') : Wm M Z pc ls st mem :=
  w_callS hd hn hL hM hst hR hlen hcat hsk hC (fun r' m' h => by obtain ⟨rfl, h⟩ := h; exact k m' h)
theorem v_E {r : Option Value} {m2 : Mem} {b ci : Nat} (hd : decode M.2.1 pc = .ok (.invokevirtual idx, 3)) (hn : pc + 3 = n') (hL : Cond.methodLink M.1.cls idx M'.1 ∈ tb) (hM : MOK M' n) (hV : VOK M') (hR : Rok Z M') (hC : CnE M' (.ref b :: as) mem r m2) (hlen : as.length = n) (hsk : st = as.reverse ++ .ref b :: rest) (hcat : (rest.map fun v => v.category).sum ≤ 8) (hk : kd b = ci) (hci : ci < 7) (hc : (clC ci).1 = M'.1.cls) (k : Wm M Z n' ls (r.toList ++ rest) m2) : Wm M Z pc ls st mem :=
  w_callV hd hn hL hM hV hR hlen hcat hk hci hc hsk hC (fun r' m' h => by obtain ⟨rfl, rfl⟩ := h; exact k)
theorem v_I {P : Int32 → Mem → Prop} {b ci : Nat} (hd : decode M.2.1 pc = .ok (.invokevirtual idx, 3)) (hn : pc + 3 = n') (hL : Cond.methodLink M.1.cls idx M'.1 ∈ tb) (hM : MOK M' n) (hV : VOK M') (hR : Rok Z M') (hC : CnI M' (.ref b :: as) mem P) (hlen : as.length = n) (hsk : st = as.reverse ++ .ref b :: rest) (hcat : (rest.map fun v => v.category).sum ≤ 8) (hk : kd b = ci) (hci : ci < 7) (hc : (clC ci).1 = M'.1.cls) (k : ∀ x m', P x m' → Wm M Z n' ls (.int x :: rest) m') : Wm M Z pc ls st mem :=
  w_callV hd hn hL hM hV hR hlen hcat hk hci hc hsk hC (fun r' m' h => by obtain ⟨x, rfl, h⟩ := h; exact k x m' h)
theorem v_V {P : Mem → Prop} {b ci : Nat} (hd : decode M.2.1 pc = .ok (.invokevirtual idx, 3)) (hn : pc + 3 = n') (hL : Cond.methodLink M.1.cls idx M'.1 ∈ tb) (hM : MOK M' n) (hV : VOK M') (hR : Rok Z M') (hC : CnV M' (.ref b :: as) mem P) (hlen : as.length = n) (hsk : st = as.reverse ++ .ref b :: rest) (hcat : (rest.map fun v => v.category).sum ≤ 8) (hk : kd b = ci) (hci : ci < 7) (hc : (clC ci).1 = M'.1.cls) (k : ∀ m', P m' → Wm M Z n' ls rest m') : Wm M Z pc ls st mem :=
  w_callV hd hn hL hM hV hR hlen hcat hk hci hc hsk hC (fun r' m' h => by obtain ⟨rfl, h⟩ := h; exact k m' h)
/-- one case of a switch is asked, the rest stays -/
theorem w_tc {dflt lo hi off : Int} {offs : Array Int} {len tgt : Nat} {x : Int32} (v : Int32) (hd : decode M.2.1 pc = .ok (.tableswitch dflt lo hi offs, len)) (h1 : ¬ v.toInt < lo) (h2 : ¬ hi < v.toInt) (ho : offs[(v.toInt - lo).toNat]? = some off) (ht : (pc : Int) + off = (tgt : Int)) (kt : x = v → Wm M Z tgt ls st mem) (kf : ¬ x = v → Wm M Z pc ls (.int x :: st) mem) : Wm M Z pc ls (.int x :: st) mem := by
  by_cases h : x = v
  · subst h
    exact w_tableIn hd h1 h2 ho ht (kt rfl)
  · exact kf h
theorem sw_out {x : Int32} {lo hi : Int} (vs : List Int32) (hx : ∀ v ∈ vs, ¬ x = v) (hv : vs.map Int32.toInt = (List.range (hi + 1 - lo).toNat).map (fun i : Nat => lo + (i : Int))) : x.toInt < lo ∨ hi < x.toInt := by
  rcases Int.lt_or_le x.toInt lo with h | h
  · exact Or.inl h
  · rcases Int.lt_or_le hi x.toInt with h2 | h2
    · exact Or.inr h2
    · exfalso
      have hin : x.toInt ∈ vs.map Int32.toInt := by
        rw [hv, List.mem_map]
        exact ⟨(x.toInt - lo).toNat, List.mem_range.mpr (by omega), by omega⟩
      obtain ⟨v, h3, h4⟩ := List.mem_map.mp hin
      exact hx v h3 (Int32.toInt_inj.mp h4.symm)
theorem w_td {dflt lo hi : Int} {offs : Array Int} {len tgt : Nat} {x : Int32} (vs : List Int32) (hd : decode M.2.1 pc = .ok (.tableswitch dflt lo hi offs, len)) (ht : (pc : Int) + dflt = (tgt : Int)) (hv : vs.map Int32.toInt = (List.range (hi + 1 - lo).toNat).map (fun i : Nat => lo + (i : Int))) (hx : ∀ v ∈ vs, ¬ x = v) (k : Wm M Z tgt ls st mem) : Wm M Z pc ls (.int x :: st) mem :=
  w_tableOut hd (sw_out vs hx hv) ht k
end WRAP
theorem w_ialdV {M : MT} {Z : ZT} {pc n' : Nat} {ls : List (Option Value)} {st : List Value} {mem : Mem} {t n : Nat} {i v : Int32} (hd : decode M.2.1 pc = .ok (.iaload, 1)) (hn : pc + 1 = n') (ht : t < 4) (hi : i = nI n) (hlt : n < (stL t).length) (hv : (stL t).getD n 0 = v) (kk : Wm M Z n' ls (.int v :: st) mem) : Wm M Z pc ls (.int i :: .ref (100 + t) :: st) mem := by
  subst hv
  exact w_ialdS hd hn ht hi hlt kk
