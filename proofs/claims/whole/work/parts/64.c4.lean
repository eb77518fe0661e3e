/-! the class: reading -/
/-- a parish holds what a row of the reference holds (all but the year) -/
def PR (m : Mem) (k n : Nat) (r : Nat → Int32) : Prop := r 0 = nI n ∧ m k 3 = nI n ∧ n ≤ 8 ∧ m k 5 = r 2 ∧ (∀ j, j < 3 → m (k + 1) j = r (3 + j)) ∧ (∀ i j, i < n → j < 5 → m (k + 3 + i) j = r (6 + 5 * i + j)) ∧ ∀ j, j < 10 → m (k + 11) j = r (46 + j)
theorem PR.congr {m m' : Mem} {k n : Nat} {r : Nat → Int32} (h : PR m k n r) (e1 : m' k 3 = m k 3) (e2 : m' k 5 = m k 5) (e3 : ∀ j, j < 3 → m' (k + 1) j = m (k + 1) j) (e4 : ∀ i j, i < n → j < 5 → m' (k + 3 + i) j = m (k + 3 + i) j) (e5 : ∀ j, j < 10 → m' (k + 11) j = m (k + 11) j) : PR m' k n r :=
  ⟨h.1, by rw [e1]; exact h.2.1, h.2.2.1, by rw [e2]; exact h.2.2.2.1, fun j hj => by rw [e3 j hj]; exact h.2.2.2.2.1 j hj, fun i j hi hj => by rw [e4 i j hi hj]; exact h.2.2.2.2.2.1 i j hi hj, fun j hj => by rw [e5 j hj]; exact h.2.2.2.2.2.2 j hj⟩
def CS (m0 : Mem) (T f n : Nat) (r : Nat → Int32) (s : Mem) : Prop := PR s 25 n r ∧ s 25 4 = r 1 ∧ CaOK s ∧ TK s T f ∧ ∀ a, (a < 25 ∨ 38 ≤ a) → s a = m0 a
theorem BT_of {m s : Mem} {T : Nat} (h : s 56 = m 56) : BT s T = BT m T := by
  funext j
  unfold BT
  rw [h]
theorem CS.B {m0 s : Mem} {T f n : Nat} {r : Nat → Int32} (h : CS m0 T f n r s) : BT s T = BT m0 T := BT_of (h.2.2.2.2 56 (by omega))
theorem CS.R {m0 s : Mem} {T f n : Nat} {r : Nat → Int32} (h : CS m0 T f n r s) (hB : BR m0 T) : BR s T := fun j hj => by rw [h.2.2.2.2 56 (by omega), h.2.2.2.2 38 (by omega)]; exact hB j hj
theorem CS.tk {m0 s : Mem} {T f n : Nat} {r : Nat → Int32} (h : CS m0 T f n r s) : TK s T f := h.2.2.2.1
theorem CS.adv {m0 s : Mem} {T f n : Nat} {r : Nat → Int32} (h : CS m0 T f n r s) (g : Nat) : CS m0 T g n r (clM s T g) := by
  have o : ∀ a, a ≠ 37 → clM s T g a = s a := fun a ha => ct_o _ _ _ _ _ ha
  refine ⟨h.1.congr (by rw [o _ (by decide)]) (by rw [o _ (by decide)]) (fun j _ => by rw [o _ (by decide)]) (fun i j hi _ => by rw [o _ (by have := h.1.2.2.1; omega)]) (fun j _ => by rw [o _ (by decide)]), by rw [o _ (by decide)]; exact h.2.1, upR_Ca (by decide) h.2.2.1, TK_cl h.2.2.2.1.1, fun a ha => by rw [o _ (by omega)]; exact h.2.2.2.2 a ha⟩
theorem c4_adv {m0 s : Mem} {T f n : Nat} {r : Nat → Int32} (h : CS m0 T f n r s) (hT2 : T ≤ 120) (hB : BR m0 T) (hf : f ≤ T) : CnE mX3_advance [.ref 37] s none (clM s T (nxF (BT m0 T) T f)) := by
  have := c3_advance (mem := s) (T := T) (p := lexE (BT s T) T f) h.2.2.2.1.1 hT2 (h.R hB) h.2.2.2.1.2.2.1 (lexE_le hf).2
  rw [h.B] at this
  exact this
theorem alt_Ca {m : Mem} {c : Nat} (a v : Int32) (h : CaOK m) : CaOK (alterF m c a v) := by
  intro k hk
  unfold alterF
  by_cases e : k = c
  · subst e
    left
    rw [up2_same]
    simp [upd]
  · rw [up2_ne _ _ _ e, up2_ne _ _ _ e]
    exact h k hk
theorem CS.alt {m0 s : Mem} {T f n i j : Nat} {r : Nat → Int32} (h : CS m0 T f n r s) (hi : i < n) (a v : Int32) (ha : slotF a = j) (hj : j < 5) : CS m0 T f n (upd r (6 + 5 * i + j) v) (alterF s (28 + i) a v) := by
  have hn := h.1.2.2.1
  have o : ∀ b, b ≠ 28 + i → alterF s (28 + i) a v b = s b := fun b hb => by unfold alterF; rw [up2_ne _ _ _ hb, up2_ne _ _ _ hb]
  have hB : BT (alterF s (28 + i) a v) T = BT s T := BT_of (o 56 (by omega))
  refine ⟨⟨?_, by rw [o _ (by omega)]; exact h.1.2.1, hn, ?_, fun q hq => ?_, fun p q hp hq => ?_, fun q hq => ?_⟩, ?_, alt_Ca _ _ h.2.2.1, ?_, fun b hb => by rw [o _ (by omega)]; exact h.2.2.2.2 b hb⟩
  · simp only [upd]
    rw [if_neg (by omega)]
    exact h.1.1
  · rw [o _ (by omega)]
    simp only [upd]
    rw [if_neg (by omega)]
    exact h.1.2.2.2.1
  · rw [o _ (by omega)]
    simp only [upd]
    rw [if_neg (by omega)]
    exact h.1.2.2.2.2.1 q hq
  · by_cases e : p = i
    · subst e
      unfold alterF
      rw [ha, up2_v, up2_v]
      simp only [upd]
      rw [if_neg (by omega)]
      by_cases e2 : q = j
      · rw [if_pos ⟨trivial, e2⟩, if_pos (by omega)]
      · rw [if_neg (by omega), if_neg (by omega)]
        exact h.1.2.2.2.2.2.1 p q hp hq
    · rw [o _ (by omega)]
      simp only [upd]
      rw [if_neg (by omega)]
      exact h.1.2.2.2.2.2.1 p q hp hq
  · rw [o _ (by omega)]
    simp only [upd]
    rw [if_neg (by omega)]
    exact h.1.2.2.2.2.2.2 q hq
  · rw [o _ (by omega)]
    simp only [upd]
    rw [if_neg (by omega)]
    exact h.2.1
  · unfold TK
    rw [hB, o _ (by omega)]
    exact h.2.2.2.1
theorem CS.wea {m0 s : Mem} {T f n a : Nat} {r : Nat → Int32} (h : CS m0 T f n r s) (ha : a < 3) (v : Int32) : CS m0 T f n (upd r (3 + a) v) (up2 s 26 a v) := by
  have hn := h.1.2.2.1
  have o : ∀ b, b ≠ 26 → up2 s 26 a v b = s b := fun b hb => up2_ne _ _ _ hb
  have hB : BT (up2 s 26 a v) T = BT s T := BT_of (o 56 (by omega))
  refine ⟨⟨?_, by rw [o _ (by omega)]; exact h.1.2.1, hn, ?_, fun q hq => ?_, fun p q hp hq => ?_, fun q hq => ?_⟩, ?_, ?_, ?_, fun b hb => by rw [o _ (by omega)]; exact h.2.2.2.2 b hb⟩
  · simp only [upd]
    rw [if_neg (by omega)]
    exact h.1.1
  · rw [o _ (by omega)]
    simp only [upd]
    rw [if_neg (by omega)]
    exact h.1.2.2.2.1
  · rw [up2_v]
    simp only [upd]
    by_cases e : q = a
    · rw [if_pos ⟨trivial, e⟩, if_pos (by omega)]
    · rw [if_neg (by omega), if_neg (by omega)]
      exact h.1.2.2.2.2.1 q hq
  · rw [o _ (by omega)]
    simp only [upd]
    rw [if_neg (by omega)]
    exact h.1.2.2.2.2.2.1 p q hp hq
  · rw [o _ (by omega)]
    simp only [upd]
    rw [if_neg (by omega)]
    exact h.1.2.2.2.2.2.2 q hq
  · rw [o _ (by omega)]
    simp only [upd]
    rw [if_neg (by omega)]
    exact h.2.1
  · exact upR_Ca (by decide) h.2.2.1
  · unfold TK
    rw [hB, o _ (by omega)]
    exact h.2.2.2.1
theorem CS.add {m0 s : Mem} {T f n : Nat} {r : Nat → Int32} (h : CS m0 T f n r s) (hn : n < 8) (a b : Int32) : CS m0 T f (n + 1) (comR r n a b) (up2 (upR s (25 + 3 + n) (beginF (s (25 + 3 + n)) a b)) 25 3 (nI (n + 1))) := by
  have o : ∀ c, c ≠ 25 → c ≠ 28 + n → up2 (upR s (25 + 3 + n) (beginF (s (25 + 3 + n)) a b)) 25 3 (nI (n + 1)) c = s c := fun c h1 h2 => by rw [up2_ne _ _ _ h1, upR_ne _ _ (by omega)]
  have o25 : ∀ j, j ≠ 3 → up2 (upR s (25 + 3 + n) (beginF (s (25 + 3 + n)) a b)) 25 3 (nI (n + 1)) 25 j = s 25 j := fun j hj => by rw [up2_v, if_neg (by omega), upR_ne _ _ (by omega)]
  have hB : BT (up2 (upR s (25 + 3 + n) (beginF (s (25 + 3 + n)) a b)) 25 3 (nI (n + 1))) T = BT s T := BT_of (o 56 (by omega) (by omega))
  have c0 : ∀ j, j ≠ 0 → (j < 6 + 5 * n ∨ 6 + 5 * n + 5 ≤ j) → comR r n a b j = r j := by
    intro j h0 h1
    unfold comR
    simp only [upd]
    rw [if_neg h0, if_neg (by omega), if_neg (by omega), if_neg (by omega), if_neg (by omega), if_neg (by omega)]
  refine ⟨⟨comR_0 _ _ _ _, by rw [up2_v, if_pos ⟨rfl, rfl⟩], by omega, ?_, fun q hq => ?_, fun p q hp hq => ?_, fun q hq => ?_⟩, ?_, ?_, ?_, fun c hc => by rw [o _ (by omega) (by omega)]; exact h.2.2.2.2 c hc⟩
  · rw [o25 _ (by omega), c0 _ (by omega) (by omega)]
    exact h.1.2.2.2.1
  · rw [o _ (by omega) (by omega), c0 _ (by omega) (by omega)]
    exact h.1.2.2.2.2.1 q hq
  · rcases Nat.lt_or_ge p n with e | e
    · rw [o _ (by omega) (by omega), c0 _ (by omega) (by omega)]
      exact h.1.2.2.2.2.2.1 p q e hq
    · have e2 : p = n := by omega
      subst e2
      rw [up2_ne _ _ _ (by omega), upR_same]
      unfold beginF comR
      simp only [upd]
      match q, hq with
      | 0, _ => simp
      | 1, _ => simp
      | 2, _ => simp
      | 3, _ => simp
      | 4, _ => simp
  · rw [o _ (by omega) (by omega), c0 _ (by omega) (by omega)]
    exact h.1.2.2.2.2.2.2 q hq
  · rw [o25 _ (by omega), c0 _ (by omega) (by omega)]
    exact h.2.1
  · refine upR_Ca (by decide) ?_
    intro k hk
    by_cases e : k = 25 + 3 + n
    · subst e
      left
      rw [upR_same]
      simp [beginF, upd]
    · rw [upR_ne _ _ e]
      exact h.2.2.1 k hk
  · unfold TK
    rw [hB, o _ (by omega) (by omega)]
    exact h.2.2.2.1
theorem nm_v {B : Nat → Int32} {T f : Nat} {lo hi : Int32} (hh : hi ≤ 999) (h : nmB B T f lo hi = true) : lexC B T f = lexV B T f := by
  unfold nmB at h
  rw [Bool.and_eq_true, decide_eq_true_iff, decide_eq_true_iff] at h
  exact (Rv_in (Rv_lex B T f) hh).2 h.2
set_option maxHeartbeats 4000000 in
theorem c4_weather {m0 : Mem} {T f n : Nat} {r : Nat → Int32} {mem : Mem} (h : CS m0 T f n r mem) (hT2 : T ≤ 120) (hB : BR m0 T) (hf : f ≤ T) {a : Nat} (ha : a < 3) : CnI mX4_readsWeather [.ref 39, .int (nI a)] mem (fun x m' => x = bB (wthP (BT m0 T) T a f r).1 ∧ CS m0 T (wthP (BT m0 T) T a f r).2.1 n (wthP (BT m0 T) T a f r).2.2 m') := by
  have hg := (nxF_le (m := m0) hf).2
  have hg2 := (nxF_le (m := m0) hg).2
  have h1 := h.adv (nxF (BT m0 T) T f)
  refine Cn.of (ls := [some (.ref 39), some (.int (nI a))]) (by decide) rfl (Nat.le_of_ble_eq_true rfl) ?_
  refine w_aload_n (i := 0) (n' := 1) dX4_readsWeather_0 rfl rfl rfl ?_
  refine w_get (ci := 4) (j := 0) (n' := 4) dX4_readsWeather_1 rfl fRX4_9 (Nat.le_of_ble_eq_true rfl) (Nat.le_of_ble_eq_true rfl) rfl rfl ?_
  refine v_E (ci := 3) (n' := 7) dX4_readsWeather_4 rfl lRX4_32 okX3_advance voX3_advance ⟨⟨Nat.le_of_ble_eq_true rfl, Nat.le_of_ble_eq_true rfl⟩, Nat.le_of_ble_eq_true rfl, Nat.le_of_ble_eq_true rfl⟩ (c4_adv h hT2 hB hf) rfl rfl (Nat.le_of_ble_eq_true rfl) rfl (Nat.le_of_ble_eq_true rfl) rfl ?_
  refine w_aload_n (i := 0) (n' := 8) dX4_readsWeather_7 rfl rfl rfl ?_
  refine w_get (ci := 4) (j := 0) (n' := 11) dX4_readsWeather_8 rfl fRX4_9 (Nat.le_of_ble_eq_true rfl) (Nat.le_of_ble_eq_true rfl) rfl rfl ?_
  refine w_iconst (v := 0) (n' := 12) dX4_readsWeather_11 rfl rfl ?_
  refine w_bipush (v := 99) (n' := 14) dX4_readsWeather_12 rfl (by decide) ?_
  refine v_E (ci := 3) (n' := 17) dX4_readsWeather_14 rfl lRX4_61 okX3_isNumber voX3_isNumber ⟨⟨Nat.le_of_ble_eq_true rfl, Nat.le_of_ble_eq_true rfl⟩, Nat.le_of_ble_eq_true rfl, Nat.le_of_ble_eq_true rfl⟩ (c3_isNumber h1.tk (0) (99) (by decide)) rfl rfl (Nat.le_of_ble_eq_true rfl) rfl (Nat.le_of_ble_eq_true rfl) rfl ?_
  rw [h1.B]
  refine w_if_ne (n' := 20) (tgt := 22) dX4_readsWeather_17 rfl rfl (fun h17 => ?_) (fun h17 => ?_)
  · have hn := bB_n.mp h17
    have hV := nm_v (by decide) hn
    have h2 := (h1.wea ha (lexV (BT m0 T) T (nxF (BT m0 T) T f)))
    refine w_aload_n (i := 0) (n' := 23) dX4_readsWeather_22 rfl rfl rfl ?_
    refine w_get (ci := 4) (j := 1) (n' := 26) dX4_readsWeather_23 rfl fRX4_15 (Nat.le_of_ble_eq_true rfl) (Nat.le_of_ble_eq_true rfl) rfl rfl ?_
    refine w_get (ci := 1) (j := 0) (n' := 29) dX4_readsWeather_26 rfl fRX4_65 (Nat.le_of_ble_eq_true rfl) (Nat.le_of_ble_eq_true rfl) rfl rfl ?_
    refine w_iload_n (i := 1) (n' := 30) dX4_readsWeather_29 rfl rfl rfl ?_
    refine w_aload_n (i := 0) (n' := 31) dX4_readsWeather_30 rfl rfl rfl ?_
    refine w_get (ci := 4) (j := 0) (n' := 34) dX4_readsWeather_31 rfl fRX4_9 (Nat.le_of_ble_eq_true rfl) (Nat.le_of_ble_eq_true rfl) rfl rfl ?_
    refine w_get (ci := 3) (j := 5) (n' := 37) dX4_readsWeather_34 rfl fRX4_69 (Nat.le_of_ble_eq_true rfl) (Nat.le_of_ble_eq_true rfl) rfl rfl ?_
    rw [h1.tk.2.2.2.2, h1.B, nm_v (by decide) hn]
    refine w_iast (n := a) (n' := 38) dX4_readsWeather_37 rfl rfl rfl ha ?_
    refine w_aload_n (i := 0) (n' := 39) dX4_readsWeather_38 rfl rfl rfl ?_
    refine w_get (ci := 4) (j := 0) (n' := 42) dX4_readsWeather_39 rfl fRX4_9 (Nat.le_of_ble_eq_true rfl) (Nat.le_of_ble_eq_true rfl) rfl rfl ?_
    refine v_E (ci := 3) (n' := 45) dX4_readsWeather_42 rfl lRX4_32 okX3_advance voX3_advance ⟨⟨Nat.le_of_ble_eq_true rfl, Nat.le_of_ble_eq_true rfl⟩, Nat.le_of_ble_eq_true rfl, Nat.le_of_ble_eq_true rfl⟩ (c4_adv h2 hT2 hB hg) rfl rfl (Nat.le_of_ble_eq_true rfl) rfl (Nat.le_of_ble_eq_true rfl) rfl ?_
    refine w_iconst (v := 1) (n' := 46) dX4_readsWeather_45 rfl rfl ?_
    exact w_zret dX4_readsWeather_46 rfl rfl ⟨_, rfl, by rw [wthP, if_pos hn]; exact ⟨rfl, h2.adv _⟩⟩
  · have hn := bB_0.mp h17
    refine w_iconst (v := 0) (n' := 21) dX4_readsWeather_20 rfl rfl ?_
    exact w_zret dX4_readsWeather_21 rfl rfl ⟨_, rfl, by rw [wthP, if_neg (by rw [hn]; decide)]; exact ⟨rfl, h1⟩⟩
set_option maxHeartbeats 4000000 in
theorem c4_hands {m0 : Mem} {T f n : Nat} {r : Nat → Int32} {mem : Mem} (h : CS m0 T f n r mem) (hT2 : T ≤ 120) (hB : BR m0 T) (hf : f ≤ T) {i : Nat} (hi : i < n) : CnI mX4_readsHands [.ref 39, .ref (28 + i)] mem (fun x m' => x = bB (hanP (BT m0 T) T i f r).1 ∧ CS m0 T (hanP (BT m0 T) T i f r).2.1 n (hanP (BT m0 T) T i f r).2.2 m') := by
  have hg := (nxF_le (m := m0) hf).2
  have hg2 := (nxF_le (m := m0) hg).2
  have h1 := h.adv (nxF (BT m0 T) T f)
  have h8 := h.1.2.2.1
  have hk : kd (28 + i) = 0 := kT_r (by omega)
  refine Cn.of (ls := [some (.ref 39), some (.ref (28 + i))]) (by decide) rfl (Nat.le_of_ble_eq_true rfl) ?_
  refine w_aload_n (i := 0) (n' := 1) dX4_readsHands_0 rfl rfl rfl ?_
  refine w_get (ci := 4) (j := 0) (n' := 4) dX4_readsHands_1 rfl fRX4_9 (Nat.le_of_ble_eq_true rfl) (Nat.le_of_ble_eq_true rfl) rfl rfl ?_
  refine w_ldcS (i := 7) (n' := 6) dX4_readsHands_4 rfl (Nat.le_of_ble_eq_true rfl) rfl rfl ?_
  refine v_E (ci := 3) (n' := 9) dX4_readsHands_6 rfl lRX4_42 okX3_isWord voX3_isWord ⟨⟨Nat.le_of_ble_eq_true rfl, Nat.le_of_ble_eq_true rfl⟩, Nat.le_of_ble_eq_true rfl, Nat.le_of_ble_eq_true rfl⟩ (c3_isWord (i := 7) h.tk hT2 hf (h.R hB) (by decide)) rfl rfl (Nat.le_of_ble_eq_true rfl) rfl (Nat.le_of_ble_eq_true rfl) rfl ?_
  rw [h.B]
  refine w_if_ne (n' := 12) (tgt := 14) dX4_readsHands_9 rfl rfl (fun h9 => ?_) (fun h9 => ?_)
  · have hw : wP (BT m0 T) T f wHands = true := bB_n.mp h9
    refine w_aload_n (i := 0) (n' := 15) dX4_readsHands_14 rfl rfl rfl ?_
    refine w_get (ci := 4) (j := 0) (n' := 18) dX4_readsHands_15 rfl fRX4_9 (Nat.le_of_ble_eq_true rfl) (Nat.le_of_ble_eq_true rfl) rfl rfl ?_
    refine v_E (ci := 3) (n' := 21) dX4_readsHands_18 rfl lRX4_32 okX3_advance voX3_advance ⟨⟨Nat.le_of_ble_eq_true rfl, Nat.le_of_ble_eq_true rfl⟩, Nat.le_of_ble_eq_true rfl, Nat.le_of_ble_eq_true rfl⟩ (c4_adv h hT2 hB hf) rfl rfl (Nat.le_of_ble_eq_true rfl) rfl (Nat.le_of_ble_eq_true rfl) rfl ?_
    refine w_aload_n (i := 0) (n' := 22) dX4_readsHands_21 rfl rfl rfl ?_
    refine w_get (ci := 4) (j := 0) (n' := 25) dX4_readsHands_22 rfl fRX4_9 (Nat.le_of_ble_eq_true rfl) (Nat.le_of_ble_eq_true rfl) rfl rfl ?_
    refine w_gets (t := 0) (n' := 28) dX4_readsHands_25 rfl fRX4_72 (Nat.le_of_ble_eq_true rfl) ?_
    refine w_iconst (v := 2) (n' := 29) dX4_readsHands_28 rfl rfl ?_
    refine w_ialdV (t := 0) (n := 2) (v := 1) (n' := 30) dX4_readsHands_29 rfl (Nat.le_of_ble_eq_true rfl) (by decide) (by decide) rfl ?_
    refine w_gets (t := 1) (n' := 33) dX4_readsHands_30 rfl fRX4_75 (Nat.le_of_ble_eq_true rfl) ?_
    refine w_iconst (v := 2) (n' := 34) dX4_readsHands_33 rfl rfl ?_
    refine w_ialdV (t := 1) (n := 2) (v := 20) (n' := 35) dX4_readsHands_34 rfl (Nat.le_of_ble_eq_true rfl) (by decide) (by decide) rfl ?_
    refine v_E (ci := 3) (n' := 38) dX4_readsHands_35 rfl lRX4_61 okX3_isNumber voX3_isNumber ⟨⟨Nat.le_of_ble_eq_true rfl, Nat.le_of_ble_eq_true rfl⟩, Nat.le_of_ble_eq_true rfl, Nat.le_of_ble_eq_true rfl⟩ (c3_isNumber h1.tk (1) (20) (by decide)) rfl rfl (Nat.le_of_ble_eq_true rfl) rfl (Nat.le_of_ble_eq_true rfl) rfl ?_
    rw [h1.B]
    refine w_if_ne (n' := 41) (tgt := 43) dX4_readsHands_38 rfl rfl (fun h38 => ?_) (fun h38 => ?_)
    · have hn := bB_n.mp h38
      have h2 := (h1.alt hi 2 (lexV (BT m0 T) T (nxF (BT m0 T) T f)) (j := 2) rfl (by decide))
      refine w_aload_n (i := 1) (n' := 44) dX4_readsHands_43 rfl rfl rfl ?_
      refine w_iconst (v := 2) (n' := 45) dX4_readsHands_44 rfl rfl ?_
      refine w_aload_n (i := 0) (n' := 46) dX4_readsHands_45 rfl rfl rfl ?_
      refine w_get (ci := 4) (j := 0) (n' := 49) dX4_readsHands_46 rfl fRX4_9 (Nat.le_of_ble_eq_true rfl) (Nat.le_of_ble_eq_true rfl) rfl rfl ?_
      refine w_get (ci := 3) (j := 5) (n' := 52) dX4_readsHands_49 rfl fRX4_69 (Nat.le_of_ble_eq_true rfl) (Nat.le_of_ble_eq_true rfl) rfl rfl ?_
      rw [h1.tk.2.2.2.2, h1.B, nm_v (by decide) hn]
      refine v_E (ci := 0) (n' := 55) dX4_readsHands_52 rfl lRX4_95 okX0_alter voX0_alter ⟨⟨Nat.le_of_ble_eq_true rfl, Nat.le_of_ble_eq_true rfl⟩, Nat.le_of_ble_eq_true rfl, Nat.le_of_ble_eq_true rfl⟩ (c_alter hk _ _ _) rfl rfl (Nat.le_of_ble_eq_true rfl) hk (Nat.le_of_ble_eq_true rfl) rfl ?_
      refine w_aload_n (i := 0) (n' := 56) dX4_readsHands_55 rfl rfl rfl ?_
      refine w_get (ci := 4) (j := 0) (n' := 59) dX4_readsHands_56 rfl fRX4_9 (Nat.le_of_ble_eq_true rfl) (Nat.le_of_ble_eq_true rfl) rfl rfl ?_
      refine v_E (ci := 3) (n' := 62) dX4_readsHands_59 rfl lRX4_32 okX3_advance voX3_advance ⟨⟨Nat.le_of_ble_eq_true rfl, Nat.le_of_ble_eq_true rfl⟩, Nat.le_of_ble_eq_true rfl, Nat.le_of_ble_eq_true rfl⟩ (c4_adv h2 hT2 hB hg) rfl rfl (Nat.le_of_ble_eq_true rfl) rfl (Nat.le_of_ble_eq_true rfl) rfl ?_
      refine w_iconst (v := 1) (n' := 63) dX4_readsHands_62 rfl rfl ?_
      exact w_zret dX4_readsHands_63 rfl rfl ⟨_, rfl, by rw [hanP, if_pos hw, if_pos hn]; exact ⟨rfl, h2.adv _⟩⟩
    · have hn := bB_0.mp h38
      refine w_iconst (v := 0) (n' := 42) dX4_readsHands_41 rfl rfl ?_
      exact w_zret dX4_readsHands_42 rfl rfl ⟨_, rfl, by rw [hanP, if_pos hw, if_neg (by rw [hn]; decide)]; exact ⟨rfl, h1⟩⟩
  · have hw : wP (BT m0 T) T f wHands = false := bB_0.mp h9
    refine w_iconst (v := 1) (n' := 13) dX4_readsHands_12 rfl rfl ?_
    exact w_zret dX4_readsHands_13 rfl rfl ⟨_, rfl, by rw [hanP, if_neg (by rw [hw]; decide)]; exact ⟨rfl, h⟩⟩
set_option maxHeartbeats 4000000 in
theorem c4_opinion {m0 : Mem} {T f n : Nat} {r : Nat → Int32} {mem : Mem} (h : CS m0 T f n r mem) (hT2 : T ≤ 120) (hB : BR m0 T) (hf : f ≤ T) {i : Nat} (hi : i < n) : CnI mX4_readsOpinion [.ref 39, .ref (28 + i)] mem (fun x m' => x = bB (thiP (BT m0 T) T i f r).1 ∧ CS m0 T (thiP (BT m0 T) T i f r).2.1 n (thiP (BT m0 T) T i f r).2.2 m') := by
  have hg := (nxF_le (m := m0) hf).2
  have hg2 := (nxF_le (m := m0) hg).2
  have h1 := h.adv (nxF (BT m0 T) T f)
  have h8 := h.1.2.2.1
  have hk : kd (28 + i) = 0 := kT_r (by omega)
  have hG : thiG (BT m0 T) T f ≤ T := by
    unfold thiG
    split
    · exact hg2
    · exact hg
  refine Cn.of (ls := [some (.ref 39), some (.ref (28 + i)), none]) (by decide) rfl (Nat.le_of_ble_eq_true rfl) ?_
  refine w_aload_n (i := 0) (n' := 1) dX4_readsOpinion_0 rfl rfl rfl ?_
  refine w_get (ci := 4) (j := 0) (n' := 4) dX4_readsOpinion_1 rfl fRX4_9 (Nat.le_of_ble_eq_true rfl) (Nat.le_of_ble_eq_true rfl) rfl rfl ?_
  refine w_ldcS (i := 8) (n' := 6) dX4_readsOpinion_4 rfl (Nat.le_of_ble_eq_true rfl) rfl rfl ?_
  refine v_E (ci := 3) (n' := 9) dX4_readsOpinion_6 rfl lRX4_42 okX3_isWord voX3_isWord ⟨⟨Nat.le_of_ble_eq_true rfl, Nat.le_of_ble_eq_true rfl⟩, Nat.le_of_ble_eq_true rfl, Nat.le_of_ble_eq_true rfl⟩ (c3_isWord (i := 8) h.tk hT2 hf (h.R hB) (by decide)) rfl rfl (Nat.le_of_ble_eq_true rfl) rfl (Nat.le_of_ble_eq_true rfl) rfl ?_
  rw [h.B]
  refine w_if_ne (n' := 12) (tgt := 14) dX4_readsOpinion_9 rfl rfl (fun h9 => ?_) (fun h9 => ?_)
  · have hw : wP (BT m0 T) T f wThinks = true := bB_n.mp h9
    refine w_aload_n (i := 0) (n' := 15) dX4_readsOpinion_14 rfl rfl rfl ?_
    refine w_get (ci := 4) (j := 0) (n' := 18) dX4_readsOpinion_15 rfl fRX4_9 (Nat.le_of_ble_eq_true rfl) (Nat.le_of_ble_eq_true rfl) rfl rfl ?_
    refine v_E (ci := 3) (n' := 21) dX4_readsOpinion_18 rfl lRX4_32 okX3_advance voX3_advance ⟨⟨Nat.le_of_ble_eq_true rfl, Nat.le_of_ble_eq_true rfl⟩, Nat.le_of_ble_eq_true rfl, Nat.le_of_ble_eq_true rfl⟩ (c4_adv h hT2 hB hf) rfl rfl (Nat.le_of_ble_eq_true rfl) rfl (Nat.le_of_ble_eq_true rfl) rfl ?_
    refine w_aload_n (i := 0) (n' := 22) dX4_readsOpinion_21 rfl rfl rfl ?_
    refine w_get (ci := 4) (j := 0) (n' := 25) dX4_readsOpinion_22 rfl fRX4_9 (Nat.le_of_ble_eq_true rfl) (Nat.le_of_ble_eq_true rfl) rfl rfl ?_
    refine w_get (ci := 3) (j := 4) (n' := 28) dX4_readsOpinion_25 rfl fRX4_28 (Nat.le_of_ble_eq_true rfl) (Nat.le_of_ble_eq_true rfl) rfl rfl ?_
    rw [h1.tk.2.2.2.1, h1.B]
    refine w_iconst (v := 3) (n' := 29) dX4_readsOpinion_28 rfl rfl ?_
    refine w_icmp_ne (n' := 32) (tgt := 36) dX4_readsOpinion_29 rfl rfl (fun h29 => ?_) (fun h29 => ?_)
    · have hq : ¬ lexK ((BT m0 T) (nxF (BT m0 T) T f)) = 5 := fun q => h29 ((srt_x _).2.2.mpr q)
      have hGe : (thiG (BT m0 T) T f) = nxF (BT m0 T) T f := if_neg hq
      have hVe : thiV (BT m0 T) T f = lexV (BT m0 T) T (thiG (BT m0 T) T f) := if_neg hq
      have h2 := h1
      rw [← hGe] at h2
      refine w_iconst (v := 0) (n' := 37) dX4_readsOpinion_36 rfl rfl ?_
      refine w_istore_n (i := 2) (n' := 38) (ls' := [_, _, _]) dX4_readsOpinion_37 rfl rfl (Nat.le_of_ble_eq_true rfl) rfl rfl ?_
      refine w_iload_n (i := 2) (n' := 39) dX4_readsOpinion_38 rfl rfl rfl ?_
      refine w_if_eq (n' := 42) (tgt := 49) dX4_readsOpinion_39 rfl rfl (fun h39 => ?_) (fun h39 => absurd rfl h39)
      rw [← hGe]
      refine w_aload_n (i := 0) (n' := 50) dX4_readsOpinion_49 rfl rfl rfl ?_
      refine w_get (ci := 4) (j := 0) (n' := 53) dX4_readsOpinion_50 rfl fRX4_9 (Nat.le_of_ble_eq_true rfl) (Nat.le_of_ble_eq_true rfl) rfl rfl ?_
      refine w_iconst (v := 0) (n' := 54) dX4_readsOpinion_53 rfl rfl ?_
      refine w_gets (t := 1) (n' := 57) dX4_readsOpinion_54 rfl fRX4_75 (Nat.le_of_ble_eq_true rfl) ?_
      refine w_iconst (v := 3) (n' := 58) dX4_readsOpinion_57 rfl rfl ?_
      refine w_ialdV (t := 1) (n := 3) (v := 9) (n' := 59) dX4_readsOpinion_58 rfl (Nat.le_of_ble_eq_true rfl) (by decide) (by decide) rfl ?_
      refine v_E (ci := 3) (n' := 62) dX4_readsOpinion_59 rfl lRX4_61 okX3_isNumber voX3_isNumber ⟨⟨Nat.le_of_ble_eq_true rfl, Nat.le_of_ble_eq_true rfl⟩, Nat.le_of_ble_eq_true rfl, Nat.le_of_ble_eq_true rfl⟩ (c3_isNumber h2.tk (0) (9) (by decide)) rfl rfl (Nat.le_of_ble_eq_true rfl) rfl (Nat.le_of_ble_eq_true rfl) rfl ?_
      rw [h2.B]
      refine w_if_ne (n' := 65) (tgt := 67) dX4_readsOpinion_62 rfl rfl (fun h62 => ?_) (fun h62 => ?_)
      · have hn := bB_n.mp h62
        have h3 := (h2.alt hi 3 (thiV (BT m0 T) T f) (j := 3) rfl (by decide))
        refine w_aload_n (i := 1) (n' := 68) dX4_readsOpinion_67 rfl rfl rfl ?_
        refine w_iconst (v := 3) (n' := 69) dX4_readsOpinion_68 rfl rfl ?_
        refine w_iload_n (i := 2) (n' := 70) dX4_readsOpinion_69 rfl rfl rfl ?_
        refine w_if_eq (n' := 73) (tgt := 84) dX4_readsOpinion_70 rfl rfl (fun h70 => ?_) (fun h70 => absurd rfl h70)
        refine w_aload_n (i := 0) (n' := 85) dX4_readsOpinion_84 rfl rfl rfl ?_
        refine w_get (ci := 4) (j := 0) (n' := 88) dX4_readsOpinion_85 rfl fRX4_9 (Nat.le_of_ble_eq_true rfl) (Nat.le_of_ble_eq_true rfl) rfl rfl ?_
        refine w_get (ci := 3) (j := 5) (n' := 91) dX4_readsOpinion_88 rfl fRX4_69 (Nat.le_of_ble_eq_true rfl) (Nat.le_of_ble_eq_true rfl) rfl rfl ?_
        rw [h2.tk.2.2.2.2, h2.B, nm_v (by decide) hn]
        rw [← hVe]
        refine v_E (ci := 0) (n' := 94) dX4_readsOpinion_91 rfl lRX4_95 okX0_alter voX0_alter ⟨⟨Nat.le_of_ble_eq_true rfl, Nat.le_of_ble_eq_true rfl⟩, Nat.le_of_ble_eq_true rfl, Nat.le_of_ble_eq_true rfl⟩ (c_alter hk _ _ _) rfl rfl (Nat.le_of_ble_eq_true rfl) hk (Nat.le_of_ble_eq_true rfl) rfl ?_
        refine w_aload_n (i := 0) (n' := 95) dX4_readsOpinion_94 rfl rfl rfl ?_
        refine w_get (ci := 4) (j := 0) (n' := 98) dX4_readsOpinion_95 rfl fRX4_9 (Nat.le_of_ble_eq_true rfl) (Nat.le_of_ble_eq_true rfl) rfl rfl ?_
        refine v_E (ci := 3) (n' := 101) dX4_readsOpinion_98 rfl lRX4_32 okX3_advance voX3_advance ⟨⟨Nat.le_of_ble_eq_true rfl, Nat.le_of_ble_eq_true rfl⟩, Nat.le_of_ble_eq_true rfl, Nat.le_of_ble_eq_true rfl⟩ (c4_adv h3 hT2 hB hG) rfl rfl (Nat.le_of_ble_eq_true rfl) rfl (Nat.le_of_ble_eq_true rfl) rfl ?_
        refine w_iconst (v := 1) (n' := 102) dX4_readsOpinion_101 rfl rfl ?_
        exact w_zret dX4_readsOpinion_102 rfl rfl ⟨_, rfl, by rw [thiP, if_pos hw, if_pos hn]; exact ⟨rfl, h3.adv _⟩⟩
      · have hn := bB_0.mp h62
        refine w_iconst (v := 0) (n' := 66) dX4_readsOpinion_65 rfl rfl ?_
        exact w_zret dX4_readsOpinion_66 rfl rfl ⟨_, rfl, by rw [thiP, if_pos hw, if_neg (by rw [hn]; decide)]; exact ⟨rfl, h2⟩⟩
    · have hq : lexK ((BT m0 T) (nxF (BT m0 T) T f)) = 5 := (srt_x _).2.2.mp h29
      have hGe : (thiG (BT m0 T) T f) = nxF (BT m0 T) T (nxF (BT m0 T) T f) := if_pos hq
      have hVe : thiV (BT m0 T) T f = 0 - lexV (BT m0 T) T (thiG (BT m0 T) T f) := if_pos hq
      have h2 := h1.adv (nxF (BT m0 T) T (nxF (BT m0 T) T f))
      rw [← hGe] at h2
      refine w_iconst (v := 1) (n' := 33) dX4_readsOpinion_32 rfl rfl ?_
      refine w_goto (tgt := 37) dX4_readsOpinion_33 rfl ?_
      refine w_istore_n (i := 2) (n' := 38) (ls' := [_, _, _]) dX4_readsOpinion_37 rfl rfl (Nat.le_of_ble_eq_true rfl) rfl rfl ?_
      refine w_iload_n (i := 2) (n' := 39) dX4_readsOpinion_38 rfl rfl rfl ?_
      refine w_if_eq (n' := 42) (tgt := 49) dX4_readsOpinion_39 rfl rfl (fun h39 => absurd h39 (by decide)) (fun h39 => ?_)
      refine w_aload_n (i := 0) (n' := 43) dX4_readsOpinion_42 rfl rfl rfl ?_
      refine w_get (ci := 4) (j := 0) (n' := 46) dX4_readsOpinion_43 rfl fRX4_9 (Nat.le_of_ble_eq_true rfl) (Nat.le_of_ble_eq_true rfl) rfl rfl ?_
      refine v_E (ci := 3) (n' := 49) dX4_readsOpinion_46 rfl lRX4_32 okX3_advance voX3_advance ⟨⟨Nat.le_of_ble_eq_true rfl, Nat.le_of_ble_eq_true rfl⟩, Nat.le_of_ble_eq_true rfl, Nat.le_of_ble_eq_true rfl⟩ (c4_adv h1 hT2 hB hg) rfl rfl (Nat.le_of_ble_eq_true rfl) rfl (Nat.le_of_ble_eq_true rfl) rfl ?_
      rw [← hGe]
      refine w_aload_n (i := 0) (n' := 50) dX4_readsOpinion_49 rfl rfl rfl ?_
      refine w_get (ci := 4) (j := 0) (n' := 53) dX4_readsOpinion_50 rfl fRX4_9 (Nat.le_of_ble_eq_true rfl) (Nat.le_of_ble_eq_true rfl) rfl rfl ?_
      refine w_iconst (v := 0) (n' := 54) dX4_readsOpinion_53 rfl rfl ?_
      refine w_gets (t := 1) (n' := 57) dX4_readsOpinion_54 rfl fRX4_75 (Nat.le_of_ble_eq_true rfl) ?_
      refine w_iconst (v := 3) (n' := 58) dX4_readsOpinion_57 rfl rfl ?_
      refine w_ialdV (t := 1) (n := 3) (v := 9) (n' := 59) dX4_readsOpinion_58 rfl (Nat.le_of_ble_eq_true rfl) (by decide) (by decide) rfl ?_
      refine v_E (ci := 3) (n' := 62) dX4_readsOpinion_59 rfl lRX4_61 okX3_isNumber voX3_isNumber ⟨⟨Nat.le_of_ble_eq_true rfl, Nat.le_of_ble_eq_true rfl⟩, Nat.le_of_ble_eq_true rfl, Nat.le_of_ble_eq_true rfl⟩ (c3_isNumber h2.tk (0) (9) (by decide)) rfl rfl (Nat.le_of_ble_eq_true rfl) rfl (Nat.le_of_ble_eq_true rfl) rfl ?_
      rw [h2.B]
      refine w_if_ne (n' := 65) (tgt := 67) dX4_readsOpinion_62 rfl rfl (fun h62 => ?_) (fun h62 => ?_)
      · have hn := bB_n.mp h62
        have h3 := (h2.alt hi 3 (thiV (BT m0 T) T f) (j := 3) rfl (by decide))
        refine w_aload_n (i := 1) (n' := 68) dX4_readsOpinion_67 rfl rfl rfl ?_
        refine w_iconst (v := 3) (n' := 69) dX4_readsOpinion_68 rfl rfl ?_
        refine w_iload_n (i := 2) (n' := 70) dX4_readsOpinion_69 rfl rfl rfl ?_
        refine w_if_eq (n' := 73) (tgt := 84) dX4_readsOpinion_70 rfl rfl (fun h70 => absurd h70 (by decide)) (fun h70 => ?_)
        refine w_aload_n (i := 0) (n' := 74) dX4_readsOpinion_73 rfl rfl rfl ?_
        refine w_get (ci := 4) (j := 0) (n' := 77) dX4_readsOpinion_74 rfl fRX4_9 (Nat.le_of_ble_eq_true rfl) (Nat.le_of_ble_eq_true rfl) rfl rfl ?_
        refine w_get (ci := 3) (j := 5) (n' := 80) dX4_readsOpinion_77 rfl fRX4_69 (Nat.le_of_ble_eq_true rfl) (Nat.le_of_ble_eq_true rfl) rfl rfl ?_
        rw [h2.tk.2.2.2.2, h2.B, nm_v (by decide) hn]
        refine w_ineg (n' := 81) dX4_readsOpinion_80 rfl ?_
        rw [← hVe]
        refine w_goto (tgt := 91) dX4_readsOpinion_81 rfl ?_
        refine v_E (ci := 0) (n' := 94) dX4_readsOpinion_91 rfl lRX4_95 okX0_alter voX0_alter ⟨⟨Nat.le_of_ble_eq_true rfl, Nat.le_of_ble_eq_true rfl⟩, Nat.le_of_ble_eq_true rfl, Nat.le_of_ble_eq_true rfl⟩ (c_alter hk _ _ _) rfl rfl (Nat.le_of_ble_eq_true rfl) hk (Nat.le_of_ble_eq_true rfl) rfl ?_
        refine w_aload_n (i := 0) (n' := 95) dX4_readsOpinion_94 rfl rfl rfl ?_
        refine w_get (ci := 4) (j := 0) (n' := 98) dX4_readsOpinion_95 rfl fRX4_9 (Nat.le_of_ble_eq_true rfl) (Nat.le_of_ble_eq_true rfl) rfl rfl ?_
        refine v_E (ci := 3) (n' := 101) dX4_readsOpinion_98 rfl lRX4_32 okX3_advance voX3_advance ⟨⟨Nat.le_of_ble_eq_true rfl, Nat.le_of_ble_eq_true rfl⟩, Nat.le_of_ble_eq_true rfl, Nat.le_of_ble_eq_true rfl⟩ (c4_adv h3 hT2 hB hG) rfl rfl (Nat.le_of_ble_eq_true rfl) rfl (Nat.le_of_ble_eq_true rfl) rfl ?_
        refine w_iconst (v := 1) (n' := 102) dX4_readsOpinion_101 rfl rfl ?_
        exact w_zret dX4_readsOpinion_102 rfl rfl ⟨_, rfl, by rw [thiP, if_pos hw, if_pos hn]; exact ⟨rfl, h3.adv _⟩⟩
      · have hn := bB_0.mp h62
        refine w_iconst (v := 0) (n' := 66) dX4_readsOpinion_65 rfl rfl ?_
        exact w_zret dX4_readsOpinion_66 rfl rfl ⟨_, rfl, by rw [thiP, if_pos hw, if_neg (by rw [hn]; decide)]; exact ⟨rfl, h2⟩⟩
  · have hw : wP (BT m0 T) T f wThinks = false := bB_0.mp h9
    refine w_iconst (v := 1) (n' := 13) dX4_readsOpinion_12 rfl rfl ?_
    exact w_zret dX4_readsOpinion_13 rfl rfl ⟨_, rfl, by rw [thiP, if_neg (by rw [hw]; decide)]; exact ⟨rfl, h⟩⟩
theorem and_t {q : RT} {k : Nat → (Nat → Int32) → RT} (h : q.1 = true) : andP q k = k q.2.1 q.2.2 := if_pos h
theorem and_f {q : RT} {k : Nat → (Nat → Int32) → RT} (h : q.1 = false) : andP q k = q := if_neg (by rw [h]; decide)
set_option maxHeartbeats 4000000 in
theorem c4_farm {m0 : Mem} {T f n : Nat} {r : Nat → Int32} {mem : Mem} (h : CS m0 T f n r mem) (hT2 : T ≤ 120) (hB : BR m0 T) (hf : f ≤ T) (hn8 : n < 8) (k : Int32) : CnI mX4_readsFarm [.ref 39, .int k] mem (fun x m' => x = bB (frmP (BT m0 T) T n k f r).1 ∧ ∃ n', CS m0 T (frmP (BT m0 T) T n k f r).2.1 n' (frmP (BT m0 T) T n k f r).2.2 m') := by
  have hg := (nxF_le (m := m0) hf).2
  have hg2 := (nxF_le (m := m0) hg).2
  have h1 := h.adv (nxF (BT m0 T) T f)
  have hne : ¬ n = 8 := by omega
  refine Cn.of (ls := [some (.ref 39), some (.int k), none]) (by decide) rfl (Nat.le_of_ble_eq_true rfl) ?_
  refine w_aload_n (i := 0) (n' := 1) dX4_readsFarm_0 rfl rfl rfl ?_
  refine w_get (ci := 4) (j := 0) (n' := 4) dX4_readsFarm_1 rfl fRX4_9 (Nat.le_of_ble_eq_true rfl) (Nat.le_of_ble_eq_true rfl) rfl rfl ?_
  refine v_E (ci := 3) (n' := 7) dX4_readsFarm_4 rfl lRX4_32 okX3_advance voX3_advance ⟨⟨Nat.le_of_ble_eq_true rfl, Nat.le_of_ble_eq_true rfl⟩, Nat.le_of_ble_eq_true rfl, Nat.le_of_ble_eq_true rfl⟩ (c4_adv h hT2 hB hf) rfl rfl (Nat.le_of_ble_eq_true rfl) rfl (Nat.le_of_ble_eq_true rfl) rfl ?_
  refine w_aload_n (i := 0) (n' := 8) dX4_readsFarm_7 rfl rfl rfl ?_
  refine w_get (ci := 4) (j := 0) (n' := 11) dX4_readsFarm_8 rfl fRX4_9 (Nat.le_of_ble_eq_true rfl) (Nat.le_of_ble_eq_true rfl) rfl rfl ?_
  refine w_gets (t := 0) (n' := 14) dX4_readsFarm_11 rfl fRX4_72 (Nat.le_of_ble_eq_true rfl) ?_
  refine w_iconst (v := 1) (n' := 15) dX4_readsFarm_14 rfl rfl ?_
  refine w_ialdV (t := 0) (n := 1) (v := 0) (n' := 16) dX4_readsFarm_15 rfl (Nat.le_of_ble_eq_true rfl) (by decide) (by decide) rfl ?_
  refine w_gets (t := 1) (n' := 19) dX4_readsFarm_16 rfl fRX4_75 (Nat.le_of_ble_eq_true rfl) ?_
  refine w_iconst (v := 1) (n' := 20) dX4_readsFarm_19 rfl rfl ?_
  refine w_ialdV (t := 1) (n := 1) (v := 999) (n' := 21) dX4_readsFarm_20 rfl (Nat.le_of_ble_eq_true rfl) (by decide) (by decide) rfl ?_
  refine v_E (ci := 3) (n' := 24) dX4_readsFarm_21 rfl lRX4_61 okX3_isNumber voX3_isNumber ⟨⟨Nat.le_of_ble_eq_true rfl, Nat.le_of_ble_eq_true rfl⟩, Nat.le_of_ble_eq_true rfl, Nat.le_of_ble_eq_true rfl⟩ (c3_isNumber h1.tk (0) (999) (by decide)) rfl rfl (Nat.le_of_ble_eq_true rfl) rfl (Nat.le_of_ble_eq_true rfl) rfl ?_
  rw [h1.B]
  refine w_if_ne (n' := 27) (tgt := 29) dX4_readsFarm_24 rfl rfl (fun h24 => ?_) (fun h24 => ?_)
  · have hn := bB_n.mp h24
    have h2 := h1.add hn8 k (lexV (BT m0 T) T (nxF (BT m0 T) T f))
    refine w_aload_n (i := 0) (n' := 30) dX4_readsFarm_29 rfl rfl rfl ?_
    refine w_get (ci := 4) (j := 1) (n' := 33) dX4_readsFarm_30 rfl fRX4_15 (Nat.le_of_ble_eq_true rfl) (Nat.le_of_ble_eq_true rfl) rfl rfl ?_
    refine w_get (ci := 1) (j := 1) (n' := 36) dX4_readsFarm_33 rfl fRX4_78 (Nat.le_of_ble_eq_true rfl) (Nat.le_of_ble_eq_true rfl) rfl rfl ?_
    refine w_aload_n (i := 0) (n' := 37) dX4_readsFarm_36 rfl rfl rfl ?_
    refine w_get (ci := 4) (j := 1) (n' := 40) dX4_readsFarm_37 rfl fRX4_15 (Nat.le_of_ble_eq_true rfl) (Nat.le_of_ble_eq_true rfl) rfl rfl ?_
    refine w_iload_n (i := 1) (n' := 41) dX4_readsFarm_40 rfl rfl rfl ?_
    refine w_aload_n (i := 0) (n' := 42) dX4_readsFarm_41 rfl rfl rfl ?_
    refine w_get (ci := 4) (j := 0) (n' := 45) dX4_readsFarm_42 rfl fRX4_9 (Nat.le_of_ble_eq_true rfl) (Nat.le_of_ble_eq_true rfl) rfl rfl ?_
    refine w_get (ci := 3) (j := 5) (n' := 48) dX4_readsFarm_45 rfl fRX4_69 (Nat.le_of_ble_eq_true rfl) (Nat.le_of_ble_eq_true rfl) rfl rfl ?_
    rw [h1.tk.2.2.2.2, h1.B, nm_v (by decide) hn]
    refine v_E (ci := 1) (n' := 51) dX4_readsFarm_48 rfl lRX4_82 okX1_addFarm voX1_addFarm ⟨⟨Nat.le_of_ble_eq_true rfl, Nat.le_of_ble_eq_true rfl⟩, Nat.le_of_ble_eq_true rfl, Nat.le_of_ble_eq_true rfl⟩ (c_addFarm (k := 25) (n := n) ⟨rfl, h1.1.2.1, by omega⟩ hn8 _ _) rfl rfl (Nat.le_of_ble_eq_true rfl) rfl (Nat.le_of_ble_eq_true rfl) rfl ?_
    refine w_aaldF (n := n) (n' := 52) dX4_readsFarm_51 rfl rfl rfl hn8 ?_
    refine w_astore_n (i := 2) (n' := 53) (ls' := [_, _, _]) dX4_readsFarm_52 rfl rfl (Nat.le_of_ble_eq_true rfl) rfl rfl ?_
    refine w_aload_n (i := 0) (n' := 54) dX4_readsFarm_53 rfl rfl rfl ?_
    refine w_get (ci := 4) (j := 0) (n' := 57) dX4_readsFarm_54 rfl fRX4_9 (Nat.le_of_ble_eq_true rfl) (Nat.le_of_ble_eq_true rfl) rfl rfl ?_
    refine v_E (ci := 3) (n' := 60) dX4_readsFarm_57 rfl lRX4_32 okX3_advance voX3_advance ⟨⟨Nat.le_of_ble_eq_true rfl, Nat.le_of_ble_eq_true rfl⟩, Nat.le_of_ble_eq_true rfl, Nat.le_of_ble_eq_true rfl⟩ (c4_adv h2 hT2 hB hg) rfl rfl (Nat.le_of_ble_eq_true rfl) rfl (Nat.le_of_ble_eq_true rfl) rfl ?_
    refine w_aload_n (i := 0) (n' := 61) dX4_readsFarm_60 rfl rfl rfl ?_
    refine w_aload_n (i := 2) (n' := 62) dX4_readsFarm_61 rfl rfl rfl ?_
    refine v_I (ci := 4) (n' := 65) dX4_readsFarm_62 rfl lRX4_86 okX4_readsHands voX4_readsHands ⟨⟨Nat.le_of_ble_eq_true rfl, Nat.le_of_ble_eq_true rfl⟩, Nat.le_of_ble_eq_true rfl, Nat.le_of_ble_eq_true rfl⟩ (c4_hands (h2.adv _) hT2 hB hg2 (i := n) (by omega)) rfl rfl (Nat.le_of_ble_eq_true rfl) rfl (Nat.le_of_ble_eq_true rfl) rfl (fun x62 m62 q62 => ?_)
    obtain ⟨rfl, h3⟩ := q62
    refine w_if_eq (n' := 68) (tgt := 80) dX4_readsFarm_65 rfl rfl (fun h65 => ?_) (fun h65 => ?_)
    · have ha := bB_0.mp h65
      refine w_iconst (v := 0) (n' := 81) dX4_readsFarm_80 rfl rfl ?_
      exact w_zret dX4_readsFarm_81 rfl rfl ⟨_, rfl, by rw [frmP, if_neg hne, if_pos hn, and_f ha]; exact ⟨by rw [ha]; rfl, _, h3⟩⟩
    · have ha := bB_n.mp h65
      refine w_aload_n (i := 0) (n' := 69) dX4_readsFarm_68 rfl rfl rfl ?_
      refine w_aload_n (i := 2) (n' := 70) dX4_readsFarm_69 rfl rfl rfl ?_
      refine v_I (ci := 4) (n' := 73) dX4_readsFarm_70 rfl lRX4_90 okX4_readsOpinion voX4_readsOpinion ⟨⟨Nat.le_of_ble_eq_true rfl, Nat.le_of_ble_eq_true rfl⟩, Nat.le_of_ble_eq_true rfl, Nat.le_of_ble_eq_true rfl⟩ (c4_opinion h3 hT2 hB (han_le hg2 _ _) (i := n) (by omega)) rfl rfl (Nat.le_of_ble_eq_true rfl) rfl (Nat.le_of_ble_eq_true rfl) rfl (fun x70 m70 q70 => ?_)
      obtain ⟨rfl, h4⟩ := q70
      refine w_if_eq (n' := 76) (tgt := 80) dX4_readsFarm_73 rfl rfl (fun h73 => ?_) (fun h73 => ?_)
      · have hb := bB_0.mp h73
        refine w_iconst (v := 0) (n' := 81) dX4_readsFarm_80 rfl rfl ?_
        exact w_zret dX4_readsFarm_81 rfl rfl ⟨_, rfl, by rw [frmP, if_neg hne, if_pos hn, and_t ha]; exact ⟨by rw [hb]; rfl, _, h4⟩⟩
      · have hb := bB_n.mp h73
        refine w_iconst (v := 1) (n' := 77) dX4_readsFarm_76 rfl rfl ?_
        refine w_goto (tgt := 81) dX4_readsFarm_77 rfl ?_
        exact w_zret dX4_readsFarm_81 rfl rfl ⟨_, rfl, by rw [frmP, if_neg hne, if_pos hn, and_t ha]; exact ⟨by rw [hb]; rfl, _, h4⟩⟩
  · have hn := bB_0.mp h24
    refine w_iconst (v := 0) (n' := 28) dX4_readsFarm_27 rfl rfl ?_
    exact w_zret dX4_readsFarm_28 rfl rfl ⟨_, rfl, by rw [frmP, if_neg hne, if_neg (by rw [hn]; decide)]; exact ⟨rfl, n, h1⟩⟩
