/-! what will be: the trial parish -/
def yrs (m : Mem) (k n : Nat) : Nat → Mem
  | 0 => m
  | y + 1 => yearMem (yrs m k n y) k n
theorem yearMem_k (m : Mem) (k n j : Nat) (hj : j ≠ 4) : yearMem m k n k j = m k j := by
  unfold yearMem
  rw [upR_same]
  simp [upd, hj]
theorem yearMem_o (m : Mem) {k n a : Nat} (h : a < k + 3 ∨ k + 3 + n ≤ a) (hk : a ≠ k) : yearMem m k n a = m a := by
  unfold yearMem
  rw [upR_ne _ _ hk]
  simp only [yrT]
  rw [if_neg (by omega)]
theorem PO_of {m m' : Mem} {k n : Nat} (h : PO m k n) (h3 : m' k 3 = m k 3) (hw : m' (k + 1) 0 = m (k + 1) 0) (hc : CaOK m') : PO m' k n := ⟨h.1, by rw [h3]; exact h.2.1, h.2.2.1, by rw [hw]; exact h.2.2.2.1, hc⟩
theorem yearMem_Ca {m : Mem} {k n : Nat} (hk : kd k = 1) (h : CaOK m) : CaOK (yearMem m k n) := upR_Ca (by rw [hk]; decide) (yrT_Ca _ _ _ _ _ h)
theorem PO_year {m : Mem} {k n : Nat} (h : PO m k n) : PO (yearMem m k n) k n := PO_of h (yearMem_k _ _ _ _ (by decide)) (by rw [yearMem_o _ (by omega) (by omega)]) (yearMem_Ca h.1 h.2.2.2.2)
theorem PO_yrs {m : Mem} {k n : Nat} (h : PO m k n) : ∀ y, PO (yrs m k n y) k n
  | 0 => h
  | y + 1 => PO_year (PO_yrs h y)
theorem yrs_o (m : Mem) {k n a : Nat} (h : a < k ∨ k + 12 ≤ a) (hn : n ≤ 8) : ∀ y, yrs m k n y a = m a
  | 0 => rfl
  | y + 1 => by rw [yrs, yearMem_o _ (by omega) (by omega)]; exact yrs_o m h hn y
theorem Same.year {a b c : Mem} {k n : Nat} (hk : kd k = 1) (hn : n ≤ 8) (h : Same a b) (h2 : pr c = pr (yearMem b k n)) (hc : CaOK c) : Same (yearMem a k n) c := ⟨h2.trans (year_congr hk hn h), hc⟩
theorem bec_o (m : Mem) {k o n a : Nat} (h : a < k ∨ k + 12 ≤ a) (hn : n ≤ 8) : becMem m k o n a = m a := by
  unfold becMem
  rw [upR_ne _ _ (by omega), bcT_out _ (by omega), upR_ne _ _ (by omega), upR_ne _ _ (by omega)]
theorem bec_k (m : Mem) (k o n : Nat) : becMem m k o n k 3 = m o 3 ∧ becMem m k o n k 4 = m o 4 ∧ becMem m k o n k 5 = m o 5 := by
  unfold becMem
  rw [upR_same]
  simp [upd]
theorem bec_w (m : Mem) {k o n j : Nat} (hj : j < 3) : becMem m k o n (k + 1) j = m (o + 1) j := by
  unfold becMem
  rw [upR_ne _ _ (by omega), bcT_out _ (by omega), upR_ne _ _ (by omega), upR_same, pk_cpy_in (by omega) (by omega)]
  simp
theorem bec_s (m : Mem) {k o n j : Nat} (hn : n ≤ 8) (ho : o + 12 ≤ k ∨ k + 12 ≤ o) (hj : j < 10) : becMem m k o n (k + 11) j = m (o + 11) j := by
  unfold becMem
  rw [upR_ne _ _ (by omega), bcT_out _ (by omega), upR_same, pk_cpy_in (by omega) (by omega)]
  simp
theorem copy7_at {f g : Nat → Int32} {j : Nat} (hj : j < 7) : copy7 f g j = g j := by
  have : j = 0 ∨ j = 1 ∨ j = 2 ∨ j = 3 ∨ j = 4 ∨ j = 5 ∨ j = 6 := by omega
  rcases this with rfl | rfl | rfl | rfl | rfl | rfl | rfl <;> simp [copy7, upd]
theorem bec_f (m : Mem) {k o n i j : Nat} (hn : n ≤ 8) (ho : o + 12 ≤ k ∨ k + 12 ≤ o) (hi : i < n) (hj : j < 7) : becMem m k o n (k + 3 + i) j = m (o + 3 + i) j := by
  unfold becMem
  rw [upR_ne _ _ (by omega)]
  simp only [bcT]
  rw [if_pos (by omega), copy7_at hj, show o + 3 + (k + 3 + i - (k + 3)) = o + 3 + i by omega, upR_ne _ _ (by omega), upR_ne _ _ (by omega)]
theorem bec_Ca {m : Mem} {k o n : Nat} (hk : kd k = 1) (ho : kd o = 1) (hne : k ≠ o) (hn : n ≤ 8) (h : CaOK m) : CaOK (becMem m k o n) := by
  have hap := par_apart hk ho hne
  intro a ha
  have hak : a ≠ k := by intro e; rw [e, hk] at ha; exact absurd ha (by decide)
  by_cases h1 : k + 3 ≤ a ∧ a < k + 3 + n
  · obtain ⟨i, rfl⟩ : ∃ i, a = k + 3 + i := ⟨a - (k + 3), by omega⟩
    have h5 := fun j (hj : j < 7) => bec_f m (k := k) (o := o) (n := n) (i := i) hn hap (by omega) hj
    rw [h5 0 (by decide), h5 1 (by decide), h5 2 (by decide), h5 5 (by decide), h5 6 (by decide)]
    exact h (o + 3 + i) ((kPa ho).2.2.1 i (by omega))
  · have e : becMem m k o n a = m a := by
      unfold becMem
      rw [upR_ne _ _ hak, bcT_out _ (by omega), upR_ne _ _ (by intro e; rw [e, (kPa hk).2.2.2.1] at ha; exact absurd ha (by decide)), upR_ne _ _ (by intro e; rw [e, (kPa hk).1.1] at ha; exact absurd ha (by decide))]
    rw [e]
    exact h a ha
theorem PO_bec {m : Mem} {k o n : Nat} (hk : kd k = 1) (h : PO m o n) (hne : k ≠ o) : PO (becMem m k o n) k n :=
  ⟨hk, by rw [(bec_k m k o n).1]; exact h.2.1, h.2.2.1, by rw [bec_w m (by decide)]; exact h.2.2.2.1, bec_Ca hk h.1 hne h.2.2.1 h.2.2.2.2⟩
/-- nothing but the trial parish, and what farms keep, is otherwise -/
def QS (mem m' : Mem) : Prop := CaOK m' ∧ ∀ a, (a < 25 ∨ 37 ≤ a) → eqC (m' a) (mem a) ∧ (kd a ≠ 0 → m' a = mem a)
theorem QS.of {mem M m' : Mem} (h : Same M m') (ho : ∀ a, (a < 25 ∨ 37 ≤ a) → M a = mem a) : QS mem m' :=
  ⟨h.2, fun a ha => ⟨by rw [← ho a ha]; exact eqC_of h.1 a, fun hk => by rw [← ho a ha]; exact h.row hk⟩⟩
theorem QS.ofS {mem m' : Mem} (h : Same mem m') : QS mem m' := QS.of h (fun _ _ => rfl)
theorem QS.up {mem M m' : Mem} (h : Same M m') (h2 : QS mem M) : QS mem m' := by
  refine ⟨h.2, fun a ha => ⟨fun j h5 h6 => ?_, fun hk => ?_⟩⟩
  · rw [← (h2.2 a ha).1 j h5 h6]
    exact eqC_of h.1 a j h5 h6
  · rw [h.row hk, (h2.2 a ha).2 hk]
def tri (m : Mem) (n y : Nat) : Mem := yrs (becMem m 25 1 n) 25 n y
theorem tri_o (m : Mem) {n a : Nat} (hn : n ≤ 8) (y : Nat) (h : a < 25 ∨ 37 ≤ a) : tri m n y a = m a := by
  unfold tri
  rw [yrs_o _ (by omega) hn, bec_o _ (by omega) hn]
theorem tri_PO {m : Mem} {n : Nat} (h : PO m 1 n) (y : Nat) : PO (tri m n y) 25 n := PO_yrs (PO_bec rfl h (by decide)) y
theorem tri_QS {m m' : Mem} {n y : Nat} (hn : n ≤ 8) (h : Same (tri m n y) m') : QS m m' := QS.of h (fun a ha => tri_o m hn y ha)
theorem tri_1 {m m' : Mem} {n y : Nat} (h : PO m 1 n) (h2 : Same (tri m n y) m') : PO m' 1 n :=
  PO_of h (by rw [h2.row (k := 1) (by decide), tri_o m h.2.2.1 y (by omega)]) (by rw [h2.row (k := 2) (by decide), tri_o m h.2.2.1 y (by omega)]) h2.2
theorem tri_step {m m1 c : Mem} {n y : Nat} (h : PO m 1 n) (h2 : Same (tri m n y) m1) (h3 : pr c = pr (yearMem m1 25 n) ∧ CaOK c) : Same (tri m n (y + 1)) c := Same.year rfl h.2.2.1 h2 h3.1 h3.2
theorem tri_z {m : Mem} {n : Nat} (h : PO m 1 n) : Same (tri m n 0) (becMem m 25 1 n) := ⟨rfl, (PO_bec (k := 25) rfl h (by decide)).2.2.2.2⟩
set_option maxHeartbeats 4000000 in
theorem c_trialBehind {n y : Nat} {mem : Mem} (h : PO mem 1 n) (hy : y ≤ 1000) : Cn mX5_trialBehind [.ref 0, .int (nI y)] mem (fun r m' => r = some (.ref 25) ∧ Same (tri mem n y) m') := by
  refine Cn.of (ls := [some (.ref 0), some (.int (nI y)), none]) (by decide) rfl (Nat.le_of_ble_eq_true rfl) ?_
  refine w_aload_n (i := 0) (n' := 1) dX5_trialBehind_0 rfl rfl rfl ?_
  refine w_get (ci := 5) (j := 2) (n' := 4) dX5_trialBehind_1 rfl fRX5_19 (Nat.le_of_ble_eq_true rfl) (Nat.le_of_ble_eq_true rfl) rfl rfl ?_
  refine w_aload_n (i := 0) (n' := 5) dX5_trialBehind_4 rfl rfl rfl ?_
  refine w_get (ci := 5) (j := 0) (n' := 8) dX5_trialBehind_5 rfl fRX5_10 (Nat.le_of_ble_eq_true rfl) (Nat.le_of_ble_eq_true rfl) rfl rfl ?_
  refine v_E (ci := 1) (n' := 11) dX5_trialBehind_8 rfl lRX5_151 okX1_becomes voX1_becomes ⟨⟨Nat.le_of_ble_eq_true rfl, Nat.le_of_ble_eq_true rfl⟩, Nat.le_of_ble_eq_true rfl, Nat.le_of_ble_eq_true rfl⟩ (c_becomes (k := 25) rfl h.N (by decide)) rfl rfl (Nat.le_of_ble_eq_true rfl) rfl (Nat.le_of_ble_eq_true rfl) rfl ?_
  refine w_iconst (v := 0) (n' := 12) dX5_trialBehind_11 rfl rfl ?_
  refine w_istore_n (i := 2) (n' := 13) (ls' := [_, _, _]) dX5_trialBehind_12 rfl rfl (Nat.le_of_ble_eq_true rfl) rfl rfl ?_
  have L : ∀ (i : Nat) (s : Mem), i ≤ y → Same (tri mem n i) s → Wm mX5_trialBehind (zM mX5_trialBehind (fun r m' => r = some (.ref 25) ∧ Same (tri mem n y) m')) 13 [some (.ref 0), some (.int (nI y)), some (.int (nI i))] [] s := by
    refine for_ind y ?_
    intro i s hi h1 ih
    have hp := h1.PO (tri_PO h i)
    refine w_iload_n (i := 2) (n' := 14) dX5_trialBehind_13 rfl rfl rfl ?_
    refine w_iload_n (i := 1) (n' := 15) dX5_trialBehind_14 rfl rfl rfl ?_
    refine w_icmp_ge (n' := 18) (tgt := 31) dX5_trialBehind_15 rfl rfl (fun h15 => ?_) (fun h15 => ?_)
    · have hin : i = y := by
        rcases Nat.lt_or_ge i y with q | q
        · exact absurd h15 (nI_ge q (by omega))
        · omega
      subst hin
      refine w_aload_n (i := 0) (n' := 32) dX5_trialBehind_31 rfl rfl rfl ?_
      refine w_get (ci := 5) (j := 2) (n' := 35) dX5_trialBehind_32 rfl fRX5_19 (Nat.le_of_ble_eq_true rfl) (Nat.le_of_ble_eq_true rfl) rfl rfl ?_
      exact w_aret dX5_trialBehind_35 rfl ⟨rfl, h1⟩
    · have hlt : i < y := by
        rcases Nat.lt_or_ge i y with q | q
        · exact q
        · exact absurd (nI_le q (by omega)) h15
      refine w_aload_n (i := 0) (n' := 19) dX5_trialBehind_18 rfl rfl rfl ?_
      refine w_get (ci := 5) (j := 2) (n' := 22) dX5_trialBehind_19 rfl fRX5_19 (Nat.le_of_ble_eq_true rfl) (Nat.le_of_ble_eq_true rfl) rfl rfl ?_
      refine v_V (ci := 1) (n' := 25) dX5_trialBehind_22 rfl lRX5_135 okX1_passYear voX1_passYear ⟨⟨Nat.le_of_ble_eq_true rfl, Nat.le_of_ble_eq_true rfl⟩, Nat.le_of_ble_eq_true rfl, Nat.le_of_ble_eq_true rfl⟩ (c_passYear hp) rfl rfl (Nat.le_of_ble_eq_true rfl) rfl (Nat.le_of_ble_eq_true rfl) rfl (fun m22 q22 => ?_)
      refine w_iinc (n' := 28) (v := nI (i + 1)) (ls' := [_, _, _]) dX5_trialBehind_25 rfl rfl (nI_1 i) (Nat.le_of_ble_eq_true rfl) rfl rfl ?_
      refine w_goto (tgt := 13) dX5_trialBehind_28 rfl ?_
      exact ih hlt _ (tri_step h h1 q22)
  exact L 0 _ (Nat.zero_le _) (tri_z h)
section WREF
variable {M M' : MT} {Z : ZT} {pc n' idx n : Nat} {ls : List (Option Value)} {st rest as : List Value} {mem : Mem}
theorem v_A {P : Mem → Prop} {b ci q : Nat} (hd : decode M.2.1 pc = .ok (.invokevirtual idx, 3)) (hn : pc + 3 = n') (hL : Cond.methodLink M.1.cls idx M'.1 ∈ tb) (hM : MOK M' n) (hV : VOK M') (hR : Rok Z M') (hC : Cn M' (.ref b :: as) mem (fun r m' => r = some (.ref q) ∧ P m')) (hlen : as.length = n) (hsk : st = as.reverse ++ .ref b :: rest) (hcat : (rest.map fun v => v.category).sum ≤ 8) (hk : kd b = ci) (hci : ci < 7) (hc : (clC ci).1 = M'.1.cls) (k : ∀ m', P m' → Wm M Z n' ls (.ref q :: rest) m') : Wm M Z pc ls st mem :=
  w_callV hd hn hL hM hV hR hlen hcat hk hci hc hsk hC (fun r' m' h => by obtain ⟨rfl, h⟩ := h; exact k m' h)
end WREF
set_option maxHeartbeats 4000000 in
theorem c5_holder {n : Nat} {mem : Mem} (h : PO mem 1 n) (a : Int32) : CnI mX5_holder [.ref 0, .int a] mem (fun x m' => (inR a 0 60 = 0 ∧ x = -1000001 ∧ m' = fnd mem 0) ∨ (∃ y, y ≤ 60 ∧ a = nI y ∧ x = (lbS (DP (tri mem n y) 25) 1000000 n).1 ∧ QS mem m')) := by
  refine Cn.of (ls := [some (.ref 0), some (.int a)]) (by decide) rfl (Nat.le_of_ble_eq_true rfl) ?_
  refine w_iload_n (i := 1) (n' := 1) dX5_holder_0 rfl rfl rfl ?_
  refine s_E (n' := 4) dX5_holder_1 rfl lRX5_144 okX5_isAhead stX5_isAhead ⟨⟨Nat.le_of_ble_eq_true rfl, Nat.le_of_ble_eq_true rfl⟩, Nat.le_of_ble_eq_true rfl, Nat.le_of_ble_eq_true rfl⟩ (c_isAhead _ _) rfl rfl (Nat.le_of_ble_eq_true rfl) ?_
  refine w_if_ne (n' := 7) (tgt := 13) dX5_holder_4 rfl rfl (fun h4 => ?_) (fun h4 => ?_)
  · obtain ⟨y, hy1, hy2⟩ := inR_of (N := 60) (by decide) h4
    subst hy2
    refine w_aload_n (i := 0) (n' := 14) dX5_holder_13 rfl rfl rfl ?_
    refine w_iload_n (i := 1) (n' := 15) dX5_holder_14 rfl rfl rfl ?_
    refine v_A (ci := 5) (n' := 18) dX5_holder_15 rfl lRX5_147 okX5_trialBehind voX5_trialBehind ⟨⟨Nat.le_of_ble_eq_true rfl, Nat.le_of_ble_eq_true rfl⟩, Nat.le_of_ble_eq_true rfl, Nat.le_of_ble_eq_true rfl⟩ (c_trialBehind h (show y ≤ 1000 by omega)) rfl rfl (Nat.le_of_ble_eq_true rfl) rfl (Nat.le_of_ble_eq_true rfl) rfl (fun m15 q15 => ?_)
    refine v_I (ci := 1) (n' := 21) dX5_holder_18 rfl lRX5_110 okX1_latest voX1_latest ⟨⟨Nat.le_of_ble_eq_true rfl, Nat.le_of_ble_eq_true rfl⟩, Nat.le_of_ble_eq_true rfl, Nat.le_of_ble_eq_true rfl⟩ (c_latest (q15.PO (tri_PO h y))) rfl rfl (Nat.le_of_ble_eq_true rfl) rfl (Nat.le_of_ble_eq_true rfl) rfl (fun x18 m18 q18 => ?_)
    exact w_iret dX5_holder_21 rfl ⟨_, rfl, Or.inr ⟨y, hy1, rfl, by rw [q18.1, q15.DP rfl], tri_QS h.2.2.1 (q15.tr q18.2)⟩⟩
  · refine w_aload_n (i := 0) (n' := 8) dX5_holder_7 rfl rfl rfl ?_
    refine w_iconst (v := 0) (n' := 9) dX5_holder_8 rfl rfl ?_
    refine v_E (ci := 5) (n' := 12) dX5_holder_9 rfl lRX5_57 okX5_finding voX5_finding ⟨⟨Nat.le_of_ble_eq_true rfl, Nat.le_of_ble_eq_true rfl⟩, Nat.le_of_ble_eq_true rfl, Nat.le_of_ble_eq_true rfl⟩ (c_finding 0 _ (by decide) (by decide) _) rfl rfl (Nat.le_of_ble_eq_true rfl) rfl (Nat.le_of_ble_eq_true rfl) rfl ?_
    exact w_iret dX5_holder_12 rfl ⟨_, rfl, Or.inl ⟨by simpa using h4, rfl, rfl⟩⟩
set_option maxHeartbeats 4000000 in
theorem c5_leans {n : Nat} {mem : Mem} (h : PO mem 1 n) (a : Int32) : CnI mX5_leans [.ref 0, .int a] mem (fun x m' => (inR a 0 60 = 0 ∧ x = -1000001 ∧ m' = fnd mem 0) ∨ (∃ y, y ≤ 60 ∧ a = nI y ∧ x = leanM (tri mem n y) 25 n ∧ QS mem m')) := by
  refine Cn.of (ls := [some (.ref 0), some (.int a)]) (by decide) rfl (Nat.le_of_ble_eq_true rfl) ?_
  refine w_iload_n (i := 1) (n' := 1) dX5_leans_0 rfl rfl rfl ?_
  refine s_E (n' := 4) dX5_leans_1 rfl lRX5_144 okX5_isAhead stX5_isAhead ⟨⟨Nat.le_of_ble_eq_true rfl, Nat.le_of_ble_eq_true rfl⟩, Nat.le_of_ble_eq_true rfl, Nat.le_of_ble_eq_true rfl⟩ (c_isAhead _ _) rfl rfl (Nat.le_of_ble_eq_true rfl) ?_
  refine w_if_ne (n' := 7) (tgt := 13) dX5_leans_4 rfl rfl (fun h4 => ?_) (fun h4 => ?_)
  · obtain ⟨y, hy1, hy2⟩ := inR_of (N := 60) (by decide) h4
    subst hy2
    refine w_aload_n (i := 0) (n' := 14) dX5_leans_13 rfl rfl rfl ?_
    refine w_iload_n (i := 1) (n' := 15) dX5_leans_14 rfl rfl rfl ?_
    refine v_A (ci := 5) (n' := 18) dX5_leans_15 rfl lRX5_147 okX5_trialBehind voX5_trialBehind ⟨⟨Nat.le_of_ble_eq_true rfl, Nat.le_of_ble_eq_true rfl⟩, Nat.le_of_ble_eq_true rfl, Nat.le_of_ble_eq_true rfl⟩ (c_trialBehind h (show y ≤ 1000 by omega)) rfl rfl (Nat.le_of_ble_eq_true rfl) rfl (Nat.le_of_ble_eq_true rfl) rfl (fun m15 q15 => ?_)
    refine v_I (ci := 1) (n' := 21) dX5_leans_18 rfl lRX5_122 okX1_leanNow voX1_leanNow ⟨⟨Nat.le_of_ble_eq_true rfl, Nat.le_of_ble_eq_true rfl⟩, Nat.le_of_ble_eq_true rfl, Nat.le_of_ble_eq_true rfl⟩ (c_leanNow (q15.PO (tri_PO h y))) rfl rfl (Nat.le_of_ble_eq_true rfl) rfl (Nat.le_of_ble_eq_true rfl) rfl (fun x18 m18 q18 => ?_)
    exact w_iret dX5_leans_21 rfl ⟨_, rfl, Or.inr ⟨y, hy1, rfl, by rw [q18.1, q15.lean rfl], tri_QS h.2.2.1 (q15.tr q18.2)⟩⟩
  · refine w_aload_n (i := 0) (n' := 8) dX5_leans_7 rfl rfl rfl ?_
    refine w_iconst (v := 0) (n' := 9) dX5_leans_8 rfl rfl ?_
    refine v_E (ci := 5) (n' := 12) dX5_leans_9 rfl lRX5_57 okX5_finding voX5_finding ⟨⟨Nat.le_of_ble_eq_true rfl, Nat.le_of_ble_eq_true rfl⟩, Nat.le_of_ble_eq_true rfl, Nat.le_of_ble_eq_true rfl⟩ (c_finding 0 _ (by decide) (by decide) _) rfl rfl (Nat.le_of_ble_eq_true rfl) rfl (Nat.le_of_ble_eq_true rfl) rfl ?_
    exact w_iret dX5_leans_12 rfl ⟨_, rfl, Or.inl ⟨by simpa using h4, rfl, rfl⟩⟩
theorem toldF_congr {f g : Nat → Int32} (h : eqC f g) (a : Int32) : toldF f a = toldF g a := by
  unfold toldF
  rw [h 0 (by decide) (by decide), h 1 (by decide) (by decide), h 2 (by decide) (by decide), h 3 (by decide) (by decide), h 4 (by decide) (by decide)]
set_option maxHeartbeats 4000000 in
theorem c5_ahead {n : Nat} {mem : Mem} (h : PO mem 1 n) (f a b : Int32) : CnI mX5_ahead [.ref 0, .int f, .int a, .int b] mem (fun x m' => ((inR f 0 (nI n - 1) = 0 ∨ inR a 2 4 = 0 ∨ inR b 0 60 = 0) ∧ x = -1000001 ∧ m' = fnd mem 0) ∨ (¬ inR a 2 4 = 0 ∧ ∃ i, i < n ∧ f = nI i ∧ ∃ y, y ≤ 60 ∧ b = nI y ∧ x = toldF (tri mem n y (28 + i)) a ∧ QS mem m')) := by
  refine Cn.of (ls := [some (.ref 0), some (.int f), some (.int a), some (.int b)]) (by decide) rfl (Nat.le_of_ble_eq_true rfl) ?_
  refine w_aload_n (i := 0) (n' := 1) dX5_ahead_0 rfl rfl rfl ?_
  refine w_get (ci := 5) (j := 0) (n' := 4) dX5_ahead_1 rfl fRX5_10 (Nat.le_of_ble_eq_true rfl) (Nat.le_of_ble_eq_true rfl) rfl rfl ?_
  refine w_iload_n (i := 1) (n' := 5) dX5_ahead_4 rfl rfl rfl ?_
  refine v_E (ci := 1) (n' := 8) dX5_ahead_5 rfl lRX5_78 okX1_hasFarm voX1_hasFarm ⟨⟨Nat.le_of_ble_eq_true rfl, Nat.le_of_ble_eq_true rfl⟩, Nat.le_of_ble_eq_true rfl, Nat.le_of_ble_eq_true rfl⟩ (c_hasFarm rfl _ _) rfl rfl (Nat.le_of_ble_eq_true rfl) rfl (Nat.le_of_ble_eq_true rfl) rfl ?_
  refine w_if_eq (n' := 11) (tgt := 27) dX5_ahead_8 rfl rfl (fun h8 => ?_) (fun h8 => ?_)
  · rw [h.2.1] at h8
    refine w_aload_n (i := 0) (n' := 28) dX5_ahead_27 rfl rfl rfl ?_
    refine w_iconst (v := 0) (n' := 29) dX5_ahead_28 rfl rfl ?_
    refine v_E (ci := 5) (n' := 32) dX5_ahead_29 rfl lRX5_57 okX5_finding voX5_finding ⟨⟨Nat.le_of_ble_eq_true rfl, Nat.le_of_ble_eq_true rfl⟩, Nat.le_of_ble_eq_true rfl, Nat.le_of_ble_eq_true rfl⟩ (c_finding 0 _ (by decide) (by decide) _) rfl rfl (Nat.le_of_ble_eq_true rfl) rfl (Nat.le_of_ble_eq_true rfl) rfl ?_
    exact w_iret dX5_ahead_32 rfl ⟨_, rfl, Or.inl ⟨Or.inl h8, rfl, rfl⟩⟩
  · obtain ⟨i, hi1, hi2⟩ := hasF_of (n := n) (by have := h.2.2.1; omega) (by rw [← h.2.1]; exact h8)
    refine w_iload_n (i := 2) (n' := 12) dX5_ahead_11 rfl rfl rfl ?_
    refine w_iconst (v := 2) (n' := 13) dX5_ahead_12 rfl rfl ?_
    refine w_iconst (v := 4) (n' := 14) dX5_ahead_13 rfl rfl ?_
    refine s_E (n' := 17) dX5_ahead_14 rfl lRX5_53 okX5_within stX5_within ⟨⟨Nat.le_of_ble_eq_true rfl, Nat.le_of_ble_eq_true rfl⟩, Nat.le_of_ble_eq_true rfl, Nat.le_of_ble_eq_true rfl⟩ (c_within _ _ _ _) rfl rfl (Nat.le_of_ble_eq_true rfl) ?_
    refine w_if_eq (n' := 20) (tgt := 27) dX5_ahead_17 rfl rfl (fun h17 => ?_) (fun h17 => ?_)
    · refine w_aload_n (i := 0) (n' := 28) dX5_ahead_27 rfl rfl rfl ?_
      refine w_iconst (v := 0) (n' := 29) dX5_ahead_28 rfl rfl ?_
      refine v_E (ci := 5) (n' := 32) dX5_ahead_29 rfl lRX5_57 okX5_finding voX5_finding ⟨⟨Nat.le_of_ble_eq_true rfl, Nat.le_of_ble_eq_true rfl⟩, Nat.le_of_ble_eq_true rfl, Nat.le_of_ble_eq_true rfl⟩ (c_finding 0 _ (by decide) (by decide) _) rfl rfl (Nat.le_of_ble_eq_true rfl) rfl (Nat.le_of_ble_eq_true rfl) rfl ?_
      exact w_iret dX5_ahead_32 rfl ⟨_, rfl, Or.inl ⟨Or.inr (Or.inl h17), rfl, rfl⟩⟩
    · refine w_iload_n (i := 3) (n' := 21) dX5_ahead_20 rfl rfl rfl ?_
      refine s_E (n' := 24) dX5_ahead_21 rfl lRX5_144 okX5_isAhead stX5_isAhead ⟨⟨Nat.le_of_ble_eq_true rfl, Nat.le_of_ble_eq_true rfl⟩, Nat.le_of_ble_eq_true rfl, Nat.le_of_ble_eq_true rfl⟩ (c_isAhead _ _) rfl rfl (Nat.le_of_ble_eq_true rfl) ?_
      refine w_if_ne (n' := 27) (tgt := 33) dX5_ahead_24 rfl rfl (fun h24 => ?_) (fun h24 => ?_)
      · obtain ⟨y, hy1, hy2⟩ := inR_of (N := 60) (by decide) h24
        subst hy2
        refine w_aload_n (i := 0) (n' := 34) dX5_ahead_33 rfl rfl rfl ?_
        refine w_iload_n (i := 3) (n' := 35) dX5_ahead_34 rfl rfl rfl ?_
        refine v_A (ci := 5) (n' := 38) dX5_ahead_35 rfl lRX5_147 okX5_trialBehind voX5_trialBehind ⟨⟨Nat.le_of_ble_eq_true rfl, Nat.le_of_ble_eq_true rfl⟩, Nat.le_of_ble_eq_true rfl, Nat.le_of_ble_eq_true rfl⟩ (c_trialBehind h (show y ≤ 1000 by omega)) rfl rfl (Nat.le_of_ble_eq_true rfl) rfl (Nat.le_of_ble_eq_true rfl) rfl (fun m35 q35 => ?_)
        refine w_get (ci := 1) (j := 1) (n' := 41) dX5_ahead_38 rfl fRX5_82 (Nat.le_of_ble_eq_true rfl) (Nat.le_of_ble_eq_true rfl) rfl rfl ?_
        refine w_iload_n (i := 1) (n' := 42) dX5_ahead_41 rfl rfl rfl ?_
        refine w_aaldF (n := i) (n' := 43) dX5_ahead_42 rfl rfl hi2 (show i < 8 by have := h.2.2.1; omega) ?_
        refine w_iload_n (i := 2) (n' := 44) dX5_ahead_43 rfl rfl rfl ?_
        refine v_E (ci := 0) (n' := 47) dX5_ahead_44 rfl lRX5_100 okX0_told voX0_told ⟨⟨Nat.le_of_ble_eq_true rfl, Nat.le_of_ble_eq_true rfl⟩, Nat.le_of_ble_eq_true rfl, Nat.le_of_ble_eq_true rfl⟩ (c_told (show kd (28 + i) = 0 from (kPa (k := 25) rfl).2.2.1 i (by have := h.2.2.1; omega)) _ _) rfl rfl (Nat.le_of_ble_eq_true rfl) (show kd (28 + i) = 0 from (kPa (k := 25) rfl).2.2.1 i (by have := h.2.2.1; omega)) (Nat.le_of_ble_eq_true rfl) rfl ?_
        exact w_iret dX5_ahead_47 rfl ⟨_, rfl, Or.inr ⟨h17, i, hi1, hi2, y, hy1, rfl, toldF_congr (eqC_of q35.1 _) _, tri_QS h.2.2.1 q35⟩⟩
      · refine w_aload_n (i := 0) (n' := 28) dX5_ahead_27 rfl rfl rfl ?_
        refine w_iconst (v := 0) (n' := 29) dX5_ahead_28 rfl rfl ?_
        refine v_E (ci := 5) (n' := 32) dX5_ahead_29 rfl lRX5_57 okX5_finding voX5_finding ⟨⟨Nat.le_of_ble_eq_true rfl, Nat.le_of_ble_eq_true rfl⟩, Nat.le_of_ble_eq_true rfl, Nat.le_of_ble_eq_true rfl⟩ (c_finding 0 _ (by decide) (by decide) _) rfl rfl (Nat.le_of_ble_eq_true rfl) rfl (Nat.le_of_ble_eq_true rfl) rfl ?_
        exact w_iret dX5_ahead_32 rfl ⟨_, rfl, Or.inl ⟨Or.inr (Or.inr (by simpa using h24)), rfl, rfl⟩⟩
/-- the first of lo .. hi at which P, or hi + 1 -/
def Fst (P : Nat → Prop) (lo hi y : Nat) : Prop := lo ≤ y ∧ y ≤ hi + 1 ∧ (∀ z, lo ≤ z → z < y → ¬ P z) ∧ (y ≤ hi → P y)
theorem Fst.eq {P Q : Nat → Prop} {lo hi y z : Nat} (h : Fst P lo hi y) (h2 : Fst Q lo hi z) (e : ∀ t, lo ≤ t → t ≤ hi → (P t ↔ Q t)) : y = z := by
  rcases Nat.lt_trichotomy y z with q | q | q
  · exfalso
    have h3 := h2.2.1
    exact h2.2.2.1 y h.1 q ((e y h.1 (by omega)).mp (h.2.2.2 (by omega)))
  · exact q
  · exfalso
    have h3 := h.2.1
    exact h.2.2.1 z h2.1 q ((e z h2.1 (by omega)).mpr (h2.2.2.2 (by omega)))
theorem fnd_o (m : Mem) (w : Nat) {a : Nat} (h : a ≠ 49) : fnd m w a = m a := up2_ne m w _ h
theorem fnd_Ca {m : Mem} {w : Nat} (h : CaOK m) : CaOK (fnd m w) := by
  unfold fnd
  rw [up2_eq]
  exact upR_Ca (by decide) h
set_option maxHeartbeats 4000000 in
theorem c5_when {n : Nat} {mem : Mem} (h : PO mem 1 n) (f : Int32) : CnI mX5_when [.ref 0, .int f] mem (fun x m' => (inR f 0 (nI n - 1) = 0 ∧ x = -1000001 ∧ m' = fnd mem 0) ∨ (¬ inR f 0 (nI n - 1) = 0 ∧ ∃ y, Fst (fun z => ¬ bitI (lbS (DP (tri mem n z) 25) 1000000 n).1 f = 0) 0 60 y ∧ ((y ≤ 60 ∧ x = nI y ∧ QS mem m') ∨ (y = 61 ∧ x = -1000004 ∧ (∃ m2, QS mem m2 ∧ m' = fnd m2 3))))) := by
  refine Cn.of (ls := [some (.ref 0), some (.int f), none]) (by decide) rfl (Nat.le_of_ble_eq_true rfl) ?_
  refine w_aload_n (i := 0) (n' := 1) dX5_when_0 rfl rfl rfl ?_
  refine w_get (ci := 5) (j := 0) (n' := 4) dX5_when_1 rfl fRX5_10 (Nat.le_of_ble_eq_true rfl) (Nat.le_of_ble_eq_true rfl) rfl rfl ?_
  refine w_iload_n (i := 1) (n' := 5) dX5_when_4 rfl rfl rfl ?_
  refine v_E (ci := 1) (n' := 8) dX5_when_5 rfl lRX5_78 okX1_hasFarm voX1_hasFarm ⟨⟨Nat.le_of_ble_eq_true rfl, Nat.le_of_ble_eq_true rfl⟩, Nat.le_of_ble_eq_true rfl, Nat.le_of_ble_eq_true rfl⟩ (c_hasFarm rfl _ _) rfl rfl (Nat.le_of_ble_eq_true rfl) rfl (Nat.le_of_ble_eq_true rfl) rfl ?_
  refine w_if_ne (n' := 11) (tgt := 17) dX5_when_8 rfl rfl (fun h8 => ?_) (fun h8 => ?_)
  · rw [h.2.1] at h8
    refine w_aload_n (i := 0) (n' := 18) dX5_when_17 rfl rfl rfl ?_
    refine w_get (ci := 5) (j := 2) (n' := 21) dX5_when_18 rfl fRX5_19 (Nat.le_of_ble_eq_true rfl) (Nat.le_of_ble_eq_true rfl) rfl rfl ?_
    refine w_aload_n (i := 0) (n' := 22) dX5_when_21 rfl rfl rfl ?_
    refine w_get (ci := 5) (j := 0) (n' := 25) dX5_when_22 rfl fRX5_10 (Nat.le_of_ble_eq_true rfl) (Nat.le_of_ble_eq_true rfl) rfl rfl ?_
    refine v_E (ci := 1) (n' := 28) dX5_when_25 rfl lRX5_151 okX1_becomes voX1_becomes ⟨⟨Nat.le_of_ble_eq_true rfl, Nat.le_of_ble_eq_true rfl⟩, Nat.le_of_ble_eq_true rfl, Nat.le_of_ble_eq_true rfl⟩ (c_becomes (k := 25) rfl h.N (by decide)) rfl rfl (Nat.le_of_ble_eq_true rfl) rfl (Nat.le_of_ble_eq_true rfl) rfl ?_
    refine w_iconst (v := 0) (n' := 29) dX5_when_28 rfl rfl ?_
    refine w_istore_n (i := 2) (n' := 30) (ls' := [_, _, _]) dX5_when_29 rfl rfl (Nat.le_of_ble_eq_true rfl) rfl rfl ?_
    have L : ∀ (i : Nat) (s : Mem), i ≤ 61 → (Same (tri mem n i) s ∧ ∀ z, z < i → bitI (lbS (DP (tri mem n z) 25) 1000000 n).1 f = 0) → Wm mX5_when (zM mX5_when (fun r m' => ∃ x, r = some (.int x) ∧ (fun x m' => (inR f 0 (nI n - 1) = 0 ∧ x = -1000001 ∧ m' = fnd mem 0) ∨ (¬ inR f 0 (nI n - 1) = 0 ∧ ∃ y, Fst (fun z => ¬ bitI (lbS (DP (tri mem n z) 25) 1000000 n).1 f = 0) 0 60 y ∧ ((y ≤ 60 ∧ x = nI y ∧ QS mem m') ∨ (y = 61 ∧ x = -1000004 ∧ (∃ m2, QS mem m2 ∧ m' = fnd m2 3))))) x m')) 30 [some (.ref 0), some (.int f), some (.int (nI i))] [] s := by
      refine for_ind 61 ?_
      rintro i s hi ⟨h1, h2⟩ ih
      have hp := h1.PO (tri_PO h i)
      refine w_iload_n (i := 2) (n' := 31) dX5_when_30 rfl rfl rfl ?_
      refine w_bipush (v := 60) (n' := 33) dX5_when_31 rfl (by decide) ?_
      refine w_icmp_gt (n' := 36) (tgt := 62) dX5_when_33 rfl rfl (fun h33 => ?_) (fun h33 => ?_)
      · have hin : i = 61 := by
          rcases Nat.lt_or_ge i 61 with q | q
          · exact absurd h33 (nI_nlt (a := 60) (b := i) (by omega) (by decide))
          · omega
        subst hin
        refine w_aload_n (i := 0) (n' := 63) dX5_when_62 rfl rfl rfl ?_
        refine w_iconst (v := 3) (n' := 64) dX5_when_63 rfl rfl ?_
        refine v_E (ci := 5) (n' := 67) dX5_when_64 rfl lRX5_57 okX5_finding voX5_finding ⟨⟨Nat.le_of_ble_eq_true rfl, Nat.le_of_ble_eq_true rfl⟩, Nat.le_of_ble_eq_true rfl, Nat.le_of_ble_eq_true rfl⟩ (c_finding 3 _ (by decide) (by decide) _) rfl rfl (Nat.le_of_ble_eq_true rfl) rfl (Nat.le_of_ble_eq_true rfl) rfl ?_
        exact w_iret dX5_when_67 rfl ⟨_, rfl, Or.inr ⟨h8, 61, ⟨Nat.zero_le _, by omega, fun z _ hz q => q (h2 z hz), fun hh => absurd hh (by decide)⟩, Or.inr ⟨rfl, rfl, _, tri_QS h.2.2.1 h1, rfl⟩⟩⟩
      · have hlt : i < 61 := by
          rcases Nat.lt_or_ge i 61 with q | q
          · exact q
          · exact absurd (nI_lt (a := 60) (b := i) (by omega) (by omega)) h33
        refine w_aload_n (i := 0) (n' := 37) dX5_when_36 rfl rfl rfl ?_
        refine w_get (ci := 5) (j := 2) (n' := 40) dX5_when_37 rfl fRX5_19 (Nat.le_of_ble_eq_true rfl) (Nat.le_of_ble_eq_true rfl) rfl rfl ?_
        refine w_iload_n (i := 1) (n' := 41) dX5_when_40 rfl rfl rfl ?_
        refine v_I (ci := 1) (n' := 44) dX5_when_41 rfl lRX5_155 okX1_isLatest voX1_isLatest ⟨⟨Nat.le_of_ble_eq_true rfl, Nat.le_of_ble_eq_true rfl⟩, Nat.le_of_ble_eq_true rfl, Nat.le_of_ble_eq_true rfl⟩ (c_isLatest hp _) rfl rfl (Nat.le_of_ble_eq_true rfl) rfl (Nat.le_of_ble_eq_true rfl) rfl (fun x41 m41 q41 => ?_)
        refine w_if_eq (n' := 47) (tgt := 49) dX5_when_44 rfl rfl (fun h44 => ?_) (fun h44 => ?_)
        · refine w_aload_n (i := 0) (n' := 50) dX5_when_49 rfl rfl rfl ?_
          refine w_get (ci := 5) (j := 2) (n' := 53) dX5_when_50 rfl fRX5_19 (Nat.le_of_ble_eq_true rfl) (Nat.le_of_ble_eq_true rfl) rfl rfl ?_
          refine v_V (ci := 1) (n' := 56) dX5_when_53 rfl lRX5_135 okX1_passYear voX1_passYear ⟨⟨Nat.le_of_ble_eq_true rfl, Nat.le_of_ble_eq_true rfl⟩, Nat.le_of_ble_eq_true rfl, Nat.le_of_ble_eq_true rfl⟩ (c_passYear (q41.2.PO hp)) rfl rfl (Nat.le_of_ble_eq_true rfl) rfl (Nat.le_of_ble_eq_true rfl) rfl (fun m53 q53 => ?_)
          refine w_iinc (n' := 59) (v := nI (i + 1)) (ls' := [_, _, _]) dX5_when_56 rfl rfl (nI_1 i) (Nat.le_of_ble_eq_true rfl) rfl rfl ?_
          refine w_goto (tgt := 30) dX5_when_59 rfl ?_
          exact ih hlt _ ⟨tri_step h (h1.tr q41.2) q53, fun z hz => by
            rcases Nat.lt_or_ge z i with q | q
            · exact h2 z q
            · rw [show z = i by omega, ← h1.DP rfl, ← q41.1]; exact h44⟩
        · refine w_iload_n (i := 2) (n' := 48) dX5_when_47 rfl rfl rfl ?_
          exact w_iret dX5_when_48 rfl ⟨_, rfl, Or.inr ⟨h8, i, ⟨Nat.zero_le _, by omega, fun z _ hz q => q (h2 z hz), fun _ => by show ¬ bitI _ _ = 0; rw [← h1.DP rfl, ← q41.1]; exact h44⟩, Or.inl ⟨by omega, rfl, tri_QS h.2.2.1 (h1.tr q41.2)⟩⟩⟩
    exact L 0 _ (Nat.zero_le _) ⟨tri_z h, fun z hz => absurd hz (by omega)⟩
  · refine w_aload_n (i := 0) (n' := 12) dX5_when_11 rfl rfl rfl ?_
    refine w_iconst (v := 0) (n' := 13) dX5_when_12 rfl rfl ?_
    refine v_E (ci := 5) (n' := 16) dX5_when_13 rfl lRX5_57 okX5_finding voX5_finding ⟨⟨Nat.le_of_ble_eq_true rfl, Nat.le_of_ble_eq_true rfl⟩, Nat.le_of_ble_eq_true rfl, Nat.le_of_ble_eq_true rfl⟩ (c_finding 0 _ (by decide) (by decide) _) rfl rfl (Nat.le_of_ble_eq_true rfl) rfl (Nat.le_of_ble_eq_true rfl) rfl ?_
    exact w_iret dX5_when_16 rfl ⟨_, rfl, Or.inl ⟨by simpa [h.2.1] using h8, rfl, rfl⟩⟩
def ush (x k : Int32) : Int32 := (x.toUInt32 >>> (k.toUInt32 &&& Int32.toUInt32 31)).toInt32
def bc1 (x : Int32) : Int32 := x - (ush x 1 &&& 1431655765)
def bc2 (x : Int32) : Int32 := (x &&& 858993459) + (ush x 2 &&& 858993459)
def bc3 (x : Int32) : Int32 := (x + ush x 4) &&& 252645135
def bc4 (x : Int32) : Int32 := x + ush x 8
def bc5 (x : Int32) : Int32 := x + ush x 16
def bcI (x : Int32) : Int32 := bc5 (bc4 (bc3 (bc2 (bc1 x)))) &&& 63
set_option maxHeartbeats 4000000 in
theorem c_bitCount (x : Int32) (mem : Mem) : CnE mJ6_bitCount_0f7a4 [.int x] mem (some (.int (bcI x))) mem := by
  refine Cn.of (ls := [some (.int x)]) (by decide) rfl (Nat.le_of_ble_eq_true rfl) ?_
  refine w_iload_n (i := 0) (n' := 1) dJ6_bitCount_0f7a4_0 rfl rfl rfl ?_
  refine w_iload_n (i := 0) (n' := 2) dJ6_bitCount_0f7a4_1 rfl rfl rfl ?_
  refine w_iconst (v := 1) (n' := 3) dJ6_bitCount_0f7a4_2 rfl rfl ?_
  refine w_iushr (n' := 4) (v := ush x 1) dJ6_bitCount_0f7a4_3 rfl rfl ?_
  refine w_ldcw (v := 1431655765) (n' := 7) dJ6_bitCount_0f7a4_4 rfl kRJ6_265 ?_
  refine w_iand (n' := 8) dJ6_bitCount_0f7a4_7 rfl ?_
  refine w_isub (n' := 9) dJ6_bitCount_0f7a4_8 rfl ?_
  refine w_istore_n (i := 0) (n' := 10) (ls' := [_]) dJ6_bitCount_0f7a4_9 rfl rfl (Nat.le_of_ble_eq_true rfl) rfl rfl ?_
  refine w_iload_n (i := 0) (n' := 11) dJ6_bitCount_0f7a4_10 rfl rfl rfl ?_
  refine w_ldcw (v := 858993459) (n' := 14) dJ6_bitCount_0f7a4_11 rfl kRJ6_266 ?_
  refine w_iand (n' := 15) dJ6_bitCount_0f7a4_14 rfl ?_
  refine w_iload_n (i := 0) (n' := 16) dJ6_bitCount_0f7a4_15 rfl rfl rfl ?_
  refine w_iconst (v := 2) (n' := 17) dJ6_bitCount_0f7a4_16 rfl rfl ?_
  refine w_iushr (n' := 18) (v := ush (bc1 x) 2) dJ6_bitCount_0f7a4_17 rfl rfl ?_
  refine w_ldcw (v := 858993459) (n' := 21) dJ6_bitCount_0f7a4_18 rfl kRJ6_266 ?_
  refine w_iand (n' := 22) dJ6_bitCount_0f7a4_21 rfl ?_
  refine w_iadd (n' := 23) dJ6_bitCount_0f7a4_22 rfl ?_
  refine w_istore_n (i := 0) (n' := 24) (ls' := [_]) dJ6_bitCount_0f7a4_23 rfl rfl (Nat.le_of_ble_eq_true rfl) rfl rfl ?_
  refine w_iload_n (i := 0) (n' := 25) dJ6_bitCount_0f7a4_24 rfl rfl rfl ?_
  refine w_iload_n (i := 0) (n' := 26) dJ6_bitCount_0f7a4_25 rfl rfl rfl ?_
  refine w_iconst (v := 4) (n' := 27) dJ6_bitCount_0f7a4_26 rfl rfl ?_
  refine w_iushr (n' := 28) (v := ush (bc2 (bc1 x)) 4) dJ6_bitCount_0f7a4_27 rfl rfl ?_
  refine w_iadd (n' := 29) dJ6_bitCount_0f7a4_28 rfl ?_
  refine w_ldcw (v := 252645135) (n' := 32) dJ6_bitCount_0f7a4_29 rfl kRJ6_267 ?_
  refine w_iand (n' := 33) dJ6_bitCount_0f7a4_32 rfl ?_
  refine w_istore_n (i := 0) (n' := 34) (ls' := [_]) dJ6_bitCount_0f7a4_33 rfl rfl (Nat.le_of_ble_eq_true rfl) rfl rfl ?_
  refine w_iload_n (i := 0) (n' := 35) dJ6_bitCount_0f7a4_34 rfl rfl rfl ?_
  refine w_iload_n (i := 0) (n' := 36) dJ6_bitCount_0f7a4_35 rfl rfl rfl ?_
  refine w_bipush (v := 8) (n' := 38) dJ6_bitCount_0f7a4_36 rfl (by decide) ?_
  refine w_iushr (n' := 39) (v := ush (bc3 (bc2 (bc1 x))) 8) dJ6_bitCount_0f7a4_38 rfl rfl ?_
  refine w_iadd (n' := 40) dJ6_bitCount_0f7a4_39 rfl ?_
  refine w_istore_n (i := 0) (n' := 41) (ls' := [_]) dJ6_bitCount_0f7a4_40 rfl rfl (Nat.le_of_ble_eq_true rfl) rfl rfl ?_
  refine w_iload_n (i := 0) (n' := 42) dJ6_bitCount_0f7a4_41 rfl rfl rfl ?_
  refine w_iload_n (i := 0) (n' := 43) dJ6_bitCount_0f7a4_42 rfl rfl rfl ?_
  refine w_bipush (v := 16) (n' := 45) dJ6_bitCount_0f7a4_43 rfl (by decide) ?_
  refine w_iushr (n' := 46) (v := ush (bc4 (bc3 (bc2 (bc1 x)))) 16) dJ6_bitCount_0f7a4_45 rfl rfl ?_
  refine w_iadd (n' := 47) dJ6_bitCount_0f7a4_46 rfl ?_
  refine w_istore_n (i := 0) (n' := 48) (ls' := [_]) dJ6_bitCount_0f7a4_47 rfl rfl (Nat.le_of_ble_eq_true rfl) rfl rfl ?_
  refine w_iload_n (i := 0) (n' := 49) dJ6_bitCount_0f7a4_48 rfl rfl rfl ?_
  refine w_bipush (v := 63) (n' := 51) dJ6_bitCount_0f7a4_49 rfl (by decide) ?_
  refine w_iand (n' := 52) dJ6_bitCount_0f7a4_51 rfl ?_
  exact w_iret dJ6_bitCount_0f7a4_52 rfl ⟨rfl, rfl⟩
set_option maxHeartbeats 4000000 in
theorem c5_tie {n : Nat} {mem : Mem} (h : PO mem 1 n) : CnI mX5_tie [.ref 0] mem (fun x m' => ∃ y, Fst (fun z => ¬ bcI (lbS (DP (tri mem n z) 25) 1000000 n).1 ≤ 1) 0 60 y ∧ ((y ≤ 60 ∧ x = nI y ∧ QS mem m') ∨ (y = 61 ∧ x = -1000004 ∧ (∃ m2, QS mem m2 ∧ m' = fnd m2 3)))) := by
  refine Cn.of (ls := [some (.ref 0), none]) (by decide) rfl (Nat.le_of_ble_eq_true rfl) ?_
  refine w_aload_n (i := 0) (n' := 1) dX5_tie_0 rfl rfl rfl ?_
  refine w_get (ci := 5) (j := 2) (n' := 4) dX5_tie_1 rfl fRX5_19 (Nat.le_of_ble_eq_true rfl) (Nat.le_of_ble_eq_true rfl) rfl rfl ?_
  refine w_aload_n (i := 0) (n' := 5) dX5_tie_4 rfl rfl rfl ?_
  refine w_get (ci := 5) (j := 0) (n' := 8) dX5_tie_5 rfl fRX5_10 (Nat.le_of_ble_eq_true rfl) (Nat.le_of_ble_eq_true rfl) rfl rfl ?_
  refine v_E (ci := 1) (n' := 11) dX5_tie_8 rfl lRX5_151 okX1_becomes voX1_becomes ⟨⟨Nat.le_of_ble_eq_true rfl, Nat.le_of_ble_eq_true rfl⟩, Nat.le_of_ble_eq_true rfl, Nat.le_of_ble_eq_true rfl⟩ (c_becomes (k := 25) rfl h.N (by decide)) rfl rfl (Nat.le_of_ble_eq_true rfl) rfl (Nat.le_of_ble_eq_true rfl) rfl ?_
  refine w_iconst (v := 0) (n' := 12) dX5_tie_11 rfl rfl ?_
  refine w_istore_n (i := 1) (n' := 13) (ls' := [_, _]) dX5_tie_12 rfl rfl (Nat.le_of_ble_eq_true rfl) rfl rfl ?_
  have L : ∀ (i : Nat) (s : Mem), i ≤ 61 → (Same (tri mem n i) s ∧ ∀ z, z < i → bcI (lbS (DP (tri mem n z) 25) 1000000 n).1 ≤ 1) → Wm mX5_tie (zM mX5_tie (fun r m' => ∃ x, r = some (.int x) ∧ (fun x m' => ∃ y, Fst (fun z => ¬ bcI (lbS (DP (tri mem n z) 25) 1000000 n).1 ≤ 1) 0 60 y ∧ ((y ≤ 60 ∧ x = nI y ∧ QS mem m') ∨ (y = 61 ∧ x = -1000004 ∧ (∃ m2, QS mem m2 ∧ m' = fnd m2 3)))) x m')) 13 [some (.ref 0), some (.int (nI i))] [] s := by
    refine for_ind 61 ?_
    rintro i s hi ⟨h1, h2⟩ ih
    have hp := h1.PO (tri_PO h i)
    refine w_iload_n (i := 1) (n' := 14) dX5_tie_13 rfl rfl rfl ?_
    refine w_bipush (v := 60) (n' := 16) dX5_tie_14 rfl (by decide) ?_
    refine w_icmp_gt (n' := 19) (tgt := 48) dX5_tie_16 rfl rfl (fun h16 => ?_) (fun h16 => ?_)
    · have hin : i = 61 := by
        rcases Nat.lt_or_ge i 61 with q | q
        · exact absurd h16 (nI_nlt (a := 60) (b := i) (by omega) (by decide))
        · omega
      subst hin
      refine w_aload_n (i := 0) (n' := 49) dX5_tie_48 rfl rfl rfl ?_
      refine w_iconst (v := 3) (n' := 50) dX5_tie_49 rfl rfl ?_
      refine v_E (ci := 5) (n' := 53) dX5_tie_50 rfl lRX5_57 okX5_finding voX5_finding ⟨⟨Nat.le_of_ble_eq_true rfl, Nat.le_of_ble_eq_true rfl⟩, Nat.le_of_ble_eq_true rfl, Nat.le_of_ble_eq_true rfl⟩ (c_finding 3 _ (by decide) (by decide) _) rfl rfl (Nat.le_of_ble_eq_true rfl) rfl (Nat.le_of_ble_eq_true rfl) rfl ?_
      exact w_iret dX5_tie_53 rfl ⟨_, rfl, 61, ⟨Nat.zero_le _, by omega, fun z _ hz q => q (h2 z hz), fun hh => absurd hh (by decide)⟩, Or.inr ⟨rfl, rfl, _, tri_QS h.2.2.1 h1, rfl⟩⟩
    · have hlt : i < 61 := by
        rcases Nat.lt_or_ge i 61 with q | q
        · exact q
        · exact absurd (nI_lt (a := 60) (b := i) (by omega) (by omega)) h16
      refine w_aload_n (i := 0) (n' := 20) dX5_tie_19 rfl rfl rfl ?_
      refine w_get (ci := 5) (j := 2) (n' := 23) dX5_tie_20 rfl fRX5_19 (Nat.le_of_ble_eq_true rfl) (Nat.le_of_ble_eq_true rfl) rfl rfl ?_
      refine v_I (ci := 1) (n' := 26) dX5_tie_23 rfl lRX5_110 okX1_latest voX1_latest ⟨⟨Nat.le_of_ble_eq_true rfl, Nat.le_of_ble_eq_true rfl⟩, Nat.le_of_ble_eq_true rfl, Nat.le_of_ble_eq_true rfl⟩ (c_latest hp) rfl rfl (Nat.le_of_ble_eq_true rfl) rfl (Nat.le_of_ble_eq_true rfl) rfl (fun x23 m23 q23 => ?_)
      refine s_E (n' := 29) dX5_tie_26 rfl lRX5_158 okJ6_bitCount_0f7a4 stJ6_bitCount_0f7a4 ⟨⟨Nat.le_of_ble_eq_true rfl, Nat.le_of_ble_eq_true rfl⟩, Nat.le_of_ble_eq_true rfl, Nat.le_of_ble_eq_true rfl⟩ (c_bitCount _ _) rfl rfl (Nat.le_of_ble_eq_true rfl) ?_
      refine w_iconst (v := 1) (n' := 30) dX5_tie_29 rfl rfl ?_
      refine w_icmp_le (n' := 33) (tgt := 35) dX5_tie_30 rfl rfl (fun h30 => ?_) (fun h30 => ?_)
      · refine w_aload_n (i := 0) (n' := 36) dX5_tie_35 rfl rfl rfl ?_
        refine w_get (ci := 5) (j := 2) (n' := 39) dX5_tie_36 rfl fRX5_19 (Nat.le_of_ble_eq_true rfl) (Nat.le_of_ble_eq_true rfl) rfl rfl ?_
        refine v_V (ci := 1) (n' := 42) dX5_tie_39 rfl lRX5_135 okX1_passYear voX1_passYear ⟨⟨Nat.le_of_ble_eq_true rfl, Nat.le_of_ble_eq_true rfl⟩, Nat.le_of_ble_eq_true rfl, Nat.le_of_ble_eq_true rfl⟩ (c_passYear (q23.2.PO hp)) rfl rfl (Nat.le_of_ble_eq_true rfl) rfl (Nat.le_of_ble_eq_true rfl) rfl (fun m39 q39 => ?_)
        refine w_iinc (n' := 45) (v := nI (i + 1)) (ls' := [_, _]) dX5_tie_42 rfl rfl (nI_1 i) (Nat.le_of_ble_eq_true rfl) rfl rfl ?_
        refine w_goto (tgt := 13) dX5_tie_45 rfl ?_
        exact ih hlt _ ⟨tri_step h (h1.tr q23.2) q39, fun z hz => by
          rcases Nat.lt_or_ge z i with q | q
          · exact h2 z q
          · rw [show z = i by omega, ← h1.DP rfl, ← q23.1]; exact h30⟩
      · refine w_iload_n (i := 1) (n' := 34) dX5_tie_33 rfl rfl rfl ?_
        exact w_iret dX5_tie_34 rfl ⟨_, rfl, i, ⟨Nat.zero_le _, by omega, fun z _ hz q => q (h2 z hz), fun _ => by show ¬ bcI _ ≤ 1; rw [← h1.DP rfl, ← q23.1]; exact h30⟩, Or.inl ⟨by omega, rfl, tri_QS h.2.2.1 (h1.tr q23.2)⟩⟩
  exact L 0 _ (Nat.zero_le _) ⟨tri_z h, fun z hz => absurd hz (by omega)⟩
theorem bec_congr {m m' : Mem} {k o n : Nat} (hk : kd k = 1) (ho : kd o = 1) (hn : n ≤ 8) (h : pr m' = pr m) : pr (becMem m' k o n) = pr (becMem m k o n) := by
  have row : ∀ a, kd a ≠ 0 → m' a = m a := fun a ha => by rw [← pr_k (m := m') ha, ← pr_k (m := m) ha, h]
  have r1 := row k (by rw [hk]; decide)
  have r2 := row o (by rw [ho]; decide)
  have r3 := row (k + 1) (by rw [(kPa hk).1.1]; decide)
  have r4 := row (o + 1) (by rw [(kPa ho).1.1]; decide)
  have r5 := row (k + 11) (by rw [(kPa hk).2.2.2.1]; decide)
  have r6 := row (o + 11) (by rw [(kPa ho).2.2.2.1]; decide)
  unfold becMem
  rw [r1, r2, r3, r4, r5, r6]
  refine upR_congr ?_ rfl
  have hb := upR_congr (k := k + 11) (f := va_cpy (m (o + 11)) (m (k + 11)) 0 0 10) (upR_congr (k := k + 1) (f := va_cpy (m (o + 1)) (m (k + 1)) 0 0 3) h rfl) rfl
  refine pr_of (fun a => ?_)
  simp only [bcT]
  by_cases ha : k + 3 ≤ a ∧ a < k + 3 + n
  · rw [if_pos ha, if_pos ha]
    refine ⟨fun _ => ?_, fun hk2 => ?_⟩
    · have e1 := eqC_of hb a
      have e2 := eqC_of hb (o + 3 + (a - (k + 3)))
      intro j h5 h6
      by_cases hj : j < 7
      · rw [copy7_at hj, copy7_at hj]
        exact e2 j h5 h6
      · have hj2 : ∀ f g : Nat → Int32, copy7 f g j = f j := by
          intro f g
          simp [copy7, upd, show j ≠ 0 by omega, show j ≠ 1 by omega, show j ≠ 2 by omega, show j ≠ 3 by omega, show j ≠ 4 by omega, h5, h6]
        rw [hj2, hj2]
        exact e1 j h5 h6
    · exact absurd (by have := (kPa hk).2.2.1 (a - (k + 3)) (by omega); rwa [show k + 3 + (a - (k + 3)) = a by omega] at this) hk2
  · rw [if_neg ha, if_neg ha]
    exact ⟨fun _ => eqC_of hb a, fun hk => by have e := congrFun hb a; rw [pr_k hk, pr_k hk] at e; exact e⟩
theorem tri_congr {m m' : Mem} {n : Nat} (h : PO m 1 n) (h2 : Same m m') : ∀ y, Same (tri m n y) (tri m' n y)
  | 0 => ⟨bec_congr rfl rfl h.2.2.1 h2.1, (PO_bec (k := 25) rfl (h2.PO h) (by decide)).2.2.2.2⟩
  | y + 1 => ⟨year_congr rfl h.2.2.1 (tri_congr h h2 y), (tri_PO (h2.PO h) (y + 1)).2.2.2.2⟩
theorem tri_Same {m m' c : Mem} {n y : Nat} (h2 : Same m m') (h : PO m 1 n) (h3 : Same (tri m' n y) c) : Same (tri m n y) c := (tri_congr h h2 y).tr h3
set_option maxHeartbeats 4000000 in
theorem c5_turns {n : Nat} {mem : Mem} (h : PO mem 1 n) (f : Int32) : CnI mX5_turns [.ref 0, .int f] mem (fun x m' => (inR f (-99) 99 = 0 ∧ x = -1000001 ∧ m' = fnd mem 0) ∨ (¬ inR f (-99) 99 = 0 ∧ ∃ y, Fst (fun z => ¬ (if leanM (tri mem n z) 25 n < f then (0 : Int32) else 1) = (if leanM mem 1 n < f then 0 else 1)) 1 60 y ∧ ((y ≤ 60 ∧ x = nI y ∧ QS mem m') ∨ (y = 61 ∧ x = -1000004 ∧ (∃ m2, QS mem m2 ∧ m' = fnd m2 3))))) := by
  refine Cn.of (ls := [some (.ref 0), some (.int f), none, none]) (by decide) rfl (Nat.le_of_ble_eq_true rfl) ?_
  refine w_iload_n (i := 1) (n' := 1) dX5_turns_0 rfl rfl rfl ?_
  refine s_E (n' := 4) dX5_turns_1 rfl lRX5_125 okX5_isQuestion stX5_isQuestion ⟨⟨Nat.le_of_ble_eq_true rfl, Nat.le_of_ble_eq_true rfl⟩, Nat.le_of_ble_eq_true rfl, Nat.le_of_ble_eq_true rfl⟩ (c_isQuestion _ _) rfl rfl (Nat.le_of_ble_eq_true rfl) ?_
  refine w_if_ne (n' := 7) (tgt := 13) dX5_turns_4 rfl rfl (fun h4 => ?_) (fun h4 => ?_)
  · refine w_aload_n (i := 0) (n' := 14) dX5_turns_13 rfl rfl rfl ?_
    refine w_get (ci := 5) (j := 0) (n' := 17) dX5_turns_14 rfl fRX5_10 (Nat.le_of_ble_eq_true rfl) (Nat.le_of_ble_eq_true rfl) rfl rfl ?_
    refine w_iload_n (i := 1) (n' := 18) dX5_turns_17 rfl rfl rfl ?_
    refine v_I (ci := 1) (n' := 21) dX5_turns_18 rfl lRX5_128 okX1_answerTo voX1_answerTo ⟨⟨Nat.le_of_ble_eq_true rfl, Nat.le_of_ble_eq_true rfl⟩, Nat.le_of_ble_eq_true rfl, Nat.le_of_ble_eq_true rfl⟩ (c_answerTo h _) rfl rfl (Nat.le_of_ble_eq_true rfl) rfl (Nat.le_of_ble_eq_true rfl) rfl (fun x18 m18 q18 => ?_)
    have hz := q18.2.PO h
    refine w_istore_n (i := 2) (n' := 22) (ls' := [_, _, _, _]) dX5_turns_21 rfl rfl (Nat.le_of_ble_eq_true rfl) rfl rfl ?_
    refine w_aload_n (i := 0) (n' := 23) dX5_turns_22 rfl rfl rfl ?_
    refine w_get (ci := 5) (j := 2) (n' := 26) dX5_turns_23 rfl fRX5_19 (Nat.le_of_ble_eq_true rfl) (Nat.le_of_ble_eq_true rfl) rfl rfl ?_
    refine w_aload_n (i := 0) (n' := 27) dX5_turns_26 rfl rfl rfl ?_
    refine w_get (ci := 5) (j := 0) (n' := 30) dX5_turns_27 rfl fRX5_10 (Nat.le_of_ble_eq_true rfl) (Nat.le_of_ble_eq_true rfl) rfl rfl ?_
    refine v_E (ci := 1) (n' := 33) dX5_turns_30 rfl lRX5_151 okX1_becomes voX1_becomes ⟨⟨Nat.le_of_ble_eq_true rfl, Nat.le_of_ble_eq_true rfl⟩, Nat.le_of_ble_eq_true rfl, Nat.le_of_ble_eq_true rfl⟩ (c_becomes (k := 25) rfl hz.N (by decide)) rfl rfl (Nat.le_of_ble_eq_true rfl) rfl (Nat.le_of_ble_eq_true rfl) rfl ?_
    refine w_iconst (v := 1) (n' := 34) dX5_turns_33 rfl rfl ?_
    refine w_istore_n (i := 3) (n' := 35) (ls' := [_, _, _, _]) dX5_turns_34 rfl rfl (Nat.le_of_ble_eq_true rfl) rfl rfl ?_
    have L : ∀ (i : Nat) (s : Mem), i ≤ 61 → (1 ≤ i ∧ Same (tri m18 n (i - 1)) s ∧ ∀ z, 1 ≤ z → z < i → (if leanM (tri mem n z) 25 n < f then (0 : Int32) else 1) = x18) → Wm mX5_turns (zM mX5_turns (fun r m' => ∃ x, r = some (.int x) ∧ (fun x m' => (inR f (-99) 99 = 0 ∧ x = -1000001 ∧ m' = fnd mem 0) ∨ (¬ inR f (-99) 99 = 0 ∧ ∃ y, Fst (fun z => ¬ (if leanM (tri mem n z) 25 n < f then (0 : Int32) else 1) = (if leanM mem 1 n < f then 0 else 1)) 1 60 y ∧ ((y ≤ 60 ∧ x = nI y ∧ QS mem m') ∨ (y = 61 ∧ x = -1000004 ∧ (∃ m2, QS mem m2 ∧ m' = fnd m2 3))))) x m')) 35 [some (.ref 0), some (.int f), some (.int x18), some (.int (nI i))] [] s := by
      refine for_ind 61 ?_
      rintro i s hi ⟨h0, h1, h2⟩ ih
      have hp := h1.PO (tri_PO hz (i - 1))
      refine w_iload_n (i := 3) (n' := 36) dX5_turns_35 rfl rfl rfl ?_
      refine w_bipush (v := 60) (n' := 38) dX5_turns_36 rfl (by decide) ?_
      refine w_icmp_gt (n' := 41) (tgt := 68) dX5_turns_38 rfl rfl (fun h38 => ?_) (fun h38 => ?_)
      · have hin : i = 61 := by
          rcases Nat.lt_or_ge i 61 with q | q
          · exact absurd h38 (nI_nlt (a := 60) (b := i) (by omega) (by decide))
          · omega
        subst hin
        refine w_aload_n (i := 0) (n' := 69) dX5_turns_68 rfl rfl rfl ?_
        refine w_iconst (v := 3) (n' := 70) dX5_turns_69 rfl rfl ?_
        refine v_E (ci := 5) (n' := 73) dX5_turns_70 rfl lRX5_57 okX5_finding voX5_finding ⟨⟨Nat.le_of_ble_eq_true rfl, Nat.le_of_ble_eq_true rfl⟩, Nat.le_of_ble_eq_true rfl, Nat.le_of_ble_eq_true rfl⟩ (c_finding 3 _ (by decide) (by decide) _) rfl rfl (Nat.le_of_ble_eq_true rfl) rfl (Nat.le_of_ble_eq_true rfl) rfl ?_
        exact w_iret dX5_turns_73 rfl ⟨_, rfl, Or.inr ⟨h4, 61, ⟨by omega, by omega, fun z hz1 hz2 q => q (by rw [h2 z hz1 hz2, q18.1]), fun hh => absurd hh (by decide)⟩, Or.inr ⟨rfl, rfl, _, tri_QS h.2.2.1 (tri_Same q18.2 h h1), rfl⟩⟩⟩
      · have hlt : i < 61 := by
          rcases Nat.lt_or_ge i 61 with q | q
          · exact q
          · exact absurd (nI_lt (a := 60) (b := i) (by omega) (by omega)) h38
        refine w_aload_n (i := 0) (n' := 42) dX5_turns_41 rfl rfl rfl ?_
        refine w_get (ci := 5) (j := 2) (n' := 45) dX5_turns_42 rfl fRX5_19 (Nat.le_of_ble_eq_true rfl) (Nat.le_of_ble_eq_true rfl) rfl rfl ?_
        refine v_V (ci := 1) (n' := 48) dX5_turns_45 rfl lRX5_135 okX1_passYear voX1_passYear ⟨⟨Nat.le_of_ble_eq_true rfl, Nat.le_of_ble_eq_true rfl⟩, Nat.le_of_ble_eq_true rfl, Nat.le_of_ble_eq_true rfl⟩ (c_passYear hp) rfl rfl (Nat.le_of_ble_eq_true rfl) rfl (Nat.le_of_ble_eq_true rfl) rfl (fun m45 q45 => ?_)
        have s53 : Same (tri m18 n i) m45 := by
          have := tri_step hz h1 q45
          rwa [show i - 1 + 1 = i by omega] at this
        have a53 : leanM m45 25 n = leanM (tri mem n i) 25 n := (tri_Same q18.2 h s53).lean rfl n
        refine w_aload_n (i := 0) (n' := 49) dX5_turns_48 rfl rfl rfl ?_
        refine w_get (ci := 5) (j := 2) (n' := 52) dX5_turns_49 rfl fRX5_19 (Nat.le_of_ble_eq_true rfl) (Nat.le_of_ble_eq_true rfl) rfl rfl ?_
        refine w_iload_n (i := 1) (n' := 53) dX5_turns_52 rfl rfl rfl ?_
        refine v_I (ci := 1) (n' := 56) dX5_turns_53 rfl lRX5_128 okX1_answerTo voX1_answerTo ⟨⟨Nat.le_of_ble_eq_true rfl, Nat.le_of_ble_eq_true rfl⟩, Nat.le_of_ble_eq_true rfl, Nat.le_of_ble_eq_true rfl⟩ (c_answerTo (s53.PO (tri_PO hz i)) _) rfl rfl (Nat.le_of_ble_eq_true rfl) rfl (Nat.le_of_ble_eq_true rfl) rfl (fun x53 m53 q53 => ?_)
        refine w_iload_n (i := 2) (n' := 57) dX5_turns_56 rfl rfl rfl ?_
        refine w_icmp_eq (n' := 60) (tgt := 62) dX5_turns_57 rfl rfl (fun h57 => ?_) (fun h57 => ?_)
        · refine w_iinc (n' := 65) (v := nI (i + 1)) (ls' := [_, _, _, _]) dX5_turns_62 rfl rfl (nI_1 i) (Nat.le_of_ble_eq_true rfl) rfl rfl ?_
          refine w_goto (tgt := 35) dX5_turns_65 rfl ?_
          exact ih hlt _ ⟨by omega, s53.tr q53.2, fun z hz1 hz2 => by
            rcases Nat.lt_or_ge z i with q | q
            · exact h2 z hz1 q
            · rw [show z = i by omega, ← a53, ← q53.1]; exact h57⟩
        · refine w_iload_n (i := 3) (n' := 61) dX5_turns_60 rfl rfl rfl ?_
          exact w_iret dX5_turns_61 rfl ⟨_, rfl, Or.inr ⟨h4, i, ⟨h0, by omega, fun z hz1 hz2 q => q (by rw [h2 z hz1 hz2, q18.1]), fun _ => by show ¬ _ = _; rw [← a53, ← q53.1, ← q18.1]; exact h57⟩, Or.inl ⟨by omega, rfl, tri_QS h.2.2.1 (tri_Same q18.2 h (s53.tr q53.2))⟩⟩⟩
    exact L 1 _ (by omega) ⟨by omega, tri_z hz, fun z hz hz2 => absurd hz2 (by omega)⟩
  · refine w_aload_n (i := 0) (n' := 8) dX5_turns_7 rfl rfl rfl ?_
    refine w_iconst (v := 0) (n' := 9) dX5_turns_8 rfl rfl ?_
    refine v_E (ci := 5) (n' := 12) dX5_turns_9 rfl lRX5_57 okX5_finding voX5_finding ⟨⟨Nat.le_of_ble_eq_true rfl, Nat.le_of_ble_eq_true rfl⟩, Nat.le_of_ble_eq_true rfl, Nat.le_of_ble_eq_true rfl⟩ (c_finding 0 _ (by decide) (by decide) _) rfl rfl (Nat.le_of_ble_eq_true rfl) rfl (Nat.le_of_ble_eq_true rfl) rfl ?_
    exact w_iret dX5_turns_12 rfl ⟨_, rfl, Or.inl ⟨by simpa using h4, rfl, rfl⟩⟩
