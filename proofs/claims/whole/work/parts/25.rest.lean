/-! lending, telling, years of the parish itself, odds and cuts -/
def lentM (m : Mem) (n l t : Nat) : Mem := up2 (up2 (becMem m 25 1 n) (28 + l) 2 (m (4 + l) 2 - 1)) (28 + t) 2 (m (4 + t) 2 + 1)
set_option maxHeartbeats 4000000 in
theorem c_lent {n l t : Nat} {mem : Mem} (h : PO mem 1 n) (hl : l < n) (ht : t < n) (hne : l ≠ t) (f : Int32) : CnI mX5_isLatestIfLent [.ref 0, .int f, .int (nI l), .int (nI t)] mem (fun x m' => x = (if mem (4 + l) 2 ≤ 1 then 0 else if mem (4 + t) 2 < 20 then bitI (lbS (DP (lentM mem n l t) 25) 1000000 n).1 f else 0) ∧ QS mem m') := by
  have h8 := h.2.2.1
  have e1 : (becMem mem 25 1 n) (28 + l) 2 = mem (4 + l) 2 := bec_f mem (k := 25) (o := 1) h8 (by decide) hl (by decide)
  have e2 : (becMem mem 25 1 n) (28 + t) 2 = mem (4 + t) 2 := bec_f mem (k := 25) (o := 1) h8 (by decide) ht (by decide)
  refine Cn.of (ls := [some (.ref 0), some (.int f), some (.int (nI l)), some (.int (nI t)), none, none]) (by decide) rfl (Nat.le_of_ble_eq_true rfl) ?_
  refine w_aload_n (i := 0) (n' := 1) dX5_isLatestIfLent_0 rfl rfl rfl ?_
  refine w_get (ci := 5) (j := 2) (n' := 4) dX5_isLatestIfLent_1 rfl fRX5_19 (Nat.le_of_ble_eq_true rfl) (Nat.le_of_ble_eq_true rfl) rfl rfl ?_
  refine w_aload_n (i := 0) (n' := 5) dX5_isLatestIfLent_4 rfl rfl rfl ?_
  refine w_get (ci := 5) (j := 0) (n' := 8) dX5_isLatestIfLent_5 rfl fRX5_10 (Nat.le_of_ble_eq_true rfl) (Nat.le_of_ble_eq_true rfl) rfl rfl ?_
  refine v_E (ci := 1) (n' := 11) dX5_isLatestIfLent_8 rfl lRX5_151 okX1_becomes voX1_becomes ⟨⟨Nat.le_of_ble_eq_true rfl, Nat.le_of_ble_eq_true rfl⟩, Nat.le_of_ble_eq_true rfl, Nat.le_of_ble_eq_true rfl⟩ (c_becomes (k := 25) rfl h.N (by decide)) rfl rfl (Nat.le_of_ble_eq_true rfl) rfl (Nat.le_of_ble_eq_true rfl) rfl ?_
  refine w_aload_n (i := 0) (n' := 12) dX5_isLatestIfLent_11 rfl rfl rfl ?_
  refine w_get (ci := 5) (j := 2) (n' := 15) dX5_isLatestIfLent_12 rfl fRX5_19 (Nat.le_of_ble_eq_true rfl) (Nat.le_of_ble_eq_true rfl) rfl rfl ?_
  refine w_get (ci := 1) (j := 1) (n' := 18) dX5_isLatestIfLent_15 rfl fRX5_82 (Nat.le_of_ble_eq_true rfl) (Nat.le_of_ble_eq_true rfl) rfl rfl ?_
  refine w_iload_n (i := 2) (n' := 19) dX5_isLatestIfLent_18 rfl rfl rfl ?_
  refine w_aaldF (n := l) (n' := 20) dX5_isLatestIfLent_19 rfl rfl rfl (show l < 8 by omega) ?_
  refine w_astore (n' := 22) (ls' := [_, _, _, _, _, _]) dX5_isLatestIfLent_20 rfl (Nat.le_of_ble_eq_true rfl) rfl rfl ?_
  refine w_aload_n (i := 0) (n' := 23) dX5_isLatestIfLent_22 rfl rfl rfl ?_
  refine w_get (ci := 5) (j := 2) (n' := 26) dX5_isLatestIfLent_23 rfl fRX5_19 (Nat.le_of_ble_eq_true rfl) (Nat.le_of_ble_eq_true rfl) rfl rfl ?_
  refine w_get (ci := 1) (j := 1) (n' := 29) dX5_isLatestIfLent_26 rfl fRX5_82 (Nat.le_of_ble_eq_true rfl) (Nat.le_of_ble_eq_true rfl) rfl rfl ?_
  refine w_iload_n (i := 3) (n' := 30) dX5_isLatestIfLent_29 rfl rfl rfl ?_
  refine w_aaldF (n := t) (n' := 31) dX5_isLatestIfLent_30 rfl rfl rfl (show t < 8 by omega) ?_
  refine w_astore (n' := 33) (ls' := [_, _, _, _, _, _]) dX5_isLatestIfLent_31 rfl (Nat.le_of_ble_eq_true rfl) rfl rfl ?_
  refine w_aload (n' := 35) dX5_isLatestIfLent_33 rfl rfl ?_
  refine w_get (ci := 0) (j := 2) (n' := 38) dX5_isLatestIfLent_35 rfl fRX5_178 (Nat.le_of_ble_eq_true rfl) (Nat.le_of_ble_eq_true rfl) (show kd (28 + l) = 0 from (kPa (k := 25) rfl).2.2.1 l (by have := h.2.2.1; omega)) rfl ?_
  refine w_gets (t := 0) (n' := 41) dX5_isLatestIfLent_38 rfl fRX5_166 (Nat.le_of_ble_eq_true rfl) ?_
  refine w_iconst (v := 2) (n' := 42) dX5_isLatestIfLent_41 rfl rfl ?_
  refine w_ialdV (t := 0) (n := 2) (v := 1) (n' := 43) dX5_isLatestIfLent_42 rfl (Nat.le_of_ble_eq_true rfl) (by decide) (by decide) rfl ?_
  refine w_icmp_le (n' := 46) (tgt := 59) dX5_isLatestIfLent_43 rfl rfl (fun h43 => ?_) (fun h43 => ?_)
  · rw [e1] at h43
    refine w_iconst (v := 0) (n' := 60) dX5_isLatestIfLent_59 rfl rfl ?_
    exact w_zret dX5_isLatestIfLent_60 rfl rfl ⟨_, rfl, by rw [if_pos h43], tri_QS h8 (tri_z h)⟩
  · rw [e1] at h43
    refine w_aload (n' := 48) dX5_isLatestIfLent_46 rfl rfl ?_
    refine w_get (ci := 0) (j := 2) (n' := 51) dX5_isLatestIfLent_48 rfl fRX5_178 (Nat.le_of_ble_eq_true rfl) (Nat.le_of_ble_eq_true rfl) (show kd (28 + t) = 0 from (kPa (k := 25) rfl).2.2.1 t (by have := h.2.2.1; omega)) rfl ?_
    refine w_gets (t := 1) (n' := 54) dX5_isLatestIfLent_51 rfl fRX5_163 (Nat.le_of_ble_eq_true rfl) ?_
    refine w_iconst (v := 2) (n' := 55) dX5_isLatestIfLent_54 rfl rfl ?_
    refine w_ialdV (t := 1) (n := 2) (v := 20) (n' := 56) dX5_isLatestIfLent_55 rfl (Nat.le_of_ble_eq_true rfl) (by decide) (by decide) rfl ?_
    refine w_icmp_lt (n' := 59) (tgt := 61) dX5_isLatestIfLent_56 rfl rfl (fun h56 => ?_) (fun h56 => ?_)
    · rw [e2] at h56
      refine w_aload (n' := 63) dX5_isLatestIfLent_61 rfl rfl ?_
      refine w_iconst (v := 2) (n' := 64) dX5_isLatestIfLent_63 rfl rfl ?_
      refine w_aload (n' := 66) dX5_isLatestIfLent_64 rfl rfl ?_
      refine w_get (ci := 0) (j := 2) (n' := 69) dX5_isLatestIfLent_66 rfl fRX5_178 (Nat.le_of_ble_eq_true rfl) (Nat.le_of_ble_eq_true rfl) (show kd (28 + l) = 0 from (kPa (k := 25) rfl).2.2.1 l (by have := h.2.2.1; omega)) rfl ?_
      refine w_iconst (v := 1) (n' := 70) dX5_isLatestIfLent_69 rfl rfl ?_
      refine w_isub (n' := 71) dX5_isLatestIfLent_70 rfl ?_
      refine v_E (ci := 0) (n' := 74) dX5_isLatestIfLent_71 rfl lRX5_103 okX0_alter voX0_alter ⟨⟨Nat.le_of_ble_eq_true rfl, Nat.le_of_ble_eq_true rfl⟩, Nat.le_of_ble_eq_true rfl, Nat.le_of_ble_eq_true rfl⟩ (c_alter (show kd (28 + l) = 0 from (kPa (k := 25) rfl).2.2.1 l (by have := h.2.2.1; omega)) _ _ _) rfl rfl (Nat.le_of_ble_eq_true rfl) (show kd (28 + l) = 0 from (kPa (k := 25) rfl).2.2.1 l (by have := h.2.2.1; omega)) (Nat.le_of_ble_eq_true rfl) rfl ?_
      have s1 : Same (up2 (becMem mem 25 1 n) (28 + l) 2 ((becMem mem 25 1 n) (28 + l) 2 - 1)) (alterF (becMem mem 25 1 n) (28 + l) 2 ((becMem mem 25 1 n) (28 + l) 2 - 1)) := alt_Same (a := 2) (show kd (28 + l) = 0 from (kPa (k := 25) rfl).2.2.1 l (by have := h.2.2.1; omega)) (by decide) (Agr.rf (PO_bec (k := 25) rfl h (by decide)).2.2.2.2)
      have e3 : alterF (becMem mem 25 1 n) (28 + l) 2 ((becMem mem 25 1 n) (28 + l) 2 - 1) (28 + t) 2 = mem (4 + t) 2 := by
        rw [s1.at (isCa_j (by decide)), up2_ne _ _ _ (by omega), e2]
      refine w_aload (n' := 76) dX5_isLatestIfLent_74 rfl rfl ?_
      refine w_iconst (v := 2) (n' := 77) dX5_isLatestIfLent_76 rfl rfl ?_
      refine w_aload (n' := 79) dX5_isLatestIfLent_77 rfl rfl ?_
      refine w_get (ci := 0) (j := 2) (n' := 82) dX5_isLatestIfLent_79 rfl fRX5_178 (Nat.le_of_ble_eq_true rfl) (Nat.le_of_ble_eq_true rfl) (show kd (28 + t) = 0 from (kPa (k := 25) rfl).2.2.1 t (by have := h.2.2.1; omega)) rfl ?_
      refine w_iconst (v := 1) (n' := 83) dX5_isLatestIfLent_82 rfl rfl ?_
      refine w_iadd (n' := 84) dX5_isLatestIfLent_83 rfl ?_
      refine v_E (ci := 0) (n' := 87) dX5_isLatestIfLent_84 rfl lRX5_103 okX0_alter voX0_alter ⟨⟨Nat.le_of_ble_eq_true rfl, Nat.le_of_ble_eq_true rfl⟩, Nat.le_of_ble_eq_true rfl, Nat.le_of_ble_eq_true rfl⟩ (c_alter (show kd (28 + t) = 0 from (kPa (k := 25) rfl).2.2.1 t (by have := h.2.2.1; omega)) _ _ _) rfl rfl (Nat.le_of_ble_eq_true rfl) (show kd (28 + t) = 0 from (kPa (k := 25) rfl).2.2.1 t (by have := h.2.2.1; omega)) (Nat.le_of_ble_eq_true rfl) rfl ?_
      rw [e3]
      rw [e1] at s1 ⊢
      have s2 : Same (lentM mem n l t) (alterF (alterF (becMem mem 25 1 n) (28 + l) 2 (mem (4 + l) 2 - 1)) (28 + t) 2 (mem (4 + t) 2 + 1)) := alt_Same (a := 2) (show kd (28 + t) = 0 from (kPa (k := 25) rfl).2.2.1 t (by have := h.2.2.1; omega)) (by decide) ⟨s1.2, fun b q hb hc => s1.at hc⟩
      have hp : PO (alterF (alterF (becMem mem 25 1 n) (28 + l) 2 (mem (4 + l) 2 - 1)) (28 + t) 2 (mem (4 + t) 2 + 1)) 25 n := PO_of (PO_bec (k := 25) rfl h (by decide)) (by rw [s2.row (k := 25) (by decide), lentM, up2_ne _ _ _ (by omega), up2_ne _ _ _ (by omega)]) (by rw [s2.row (k := 26) (by decide), lentM, up2_ne _ _ _ (by omega), up2_ne _ _ _ (by omega)]) s2.2
      refine w_aload_n (i := 0) (n' := 88) dX5_isLatestIfLent_87 rfl rfl rfl ?_
      refine w_get (ci := 5) (j := 2) (n' := 91) dX5_isLatestIfLent_88 rfl fRX5_19 (Nat.le_of_ble_eq_true rfl) (Nat.le_of_ble_eq_true rfl) rfl rfl ?_
      refine w_iload_n (i := 1) (n' := 92) dX5_isLatestIfLent_91 rfl rfl rfl ?_
      refine v_I (ci := 1) (n' := 95) dX5_isLatestIfLent_92 rfl lRX5_155 okX1_isLatest voX1_isLatest ⟨⟨Nat.le_of_ble_eq_true rfl, Nat.le_of_ble_eq_true rfl⟩, Nat.le_of_ble_eq_true rfl, Nat.le_of_ble_eq_true rfl⟩ (c_isLatest hp _) rfl rfl (Nat.le_of_ble_eq_true rfl) rfl (Nat.le_of_ble_eq_true rfl) rfl (fun x92 m92 q92 => ?_)
      exact w_zret dX5_isLatestIfLent_95 rfl (by rw [q92.1]; exact bitI_nar _ _) ⟨_, rfl, by rw [if_neg h43, if_pos h56, q92.1, s2.DP rfl], QS.of (s2.tr q92.2) (fun a ha => by rw [lentM, up2_ne _ _ _ (by omega), up2_ne _ _ _ (by omega), bec_o _ (by omega) h8])⟩
    · rw [e2] at h56
      refine w_iconst (v := 0) (n' := 60) dX5_isLatestIfLent_59 rfl rfl ?_
      exact w_zret dX5_isLatestIfLent_60 rfl rfl ⟨_, rfl, by rw [if_neg h43, if_neg h56], tri_QS h8 (tri_z h)⟩
theorem QS.tr {a b c : Mem} (h : QS a b) (h2 : QS b c) : QS a c := ⟨h2.1, fun k hk => ⟨fun j h5 h6 => by rw [(h2.2 k hk).1 j h5 h6, (h.2 k hk).1 j h5 h6], fun q => by rw [(h2.2 k hk).2 q, (h.2 k hk).2 q]⟩⟩
theorem QS_PO {m m' : Mem} {n : Nat} (h : PO m 1 n) (h2 : QS m m') : PO m' 1 n := PO_of h (by rw [(h2.2 1 (by omega)).2 (by decide)]) (by rw [(h2.2 2 (by omega)).2 (by decide)]) h2.1
theorem QS_Same {m m' : Mem} (h : Same m m') : QS m m' := QS.ofS h
theorem DP_congr {m m' : Mem} {k k' : Nat} (h : ∀ i j, j < 3 → m' (k' + 3 + i) j = m (k + 3 + i) j) (hw : m' (k' + 1) 0 = m (k + 1) 0) : DP m' k' = DP m k := by
  funext i
  unfold DP
  rw [h i 0 (by decide), h i 1 (by decide), h i 2 (by decide), hw]
def lendQ (m : Mem) (n : Nat) (f : Int32) (p : Nat) : Prop := p / 8 < n ∧ p % 8 < n ∧ p / 8 ≠ p % 8 ∧ ¬ m (4 + p / 8) 2 ≤ 1 ∧ m (4 + p % 8) 2 < 20 ∧ ¬ bitI (lbS (DP (lentM m n (p / 8) (p % 8)) 25) 1000000 n).1 f = 0
theorem lbS_congr {D E : Nat → Int32} {b : Int32} : ∀ n, (∀ i, i < n → D i = E i) → lbS D b n = lbS E b n := by
  intro n
  induction n with
  | zero => intro _; rfl
  | succ n ih => intro h; rw [lbS, lbS, ih (fun i hi => h i (by omega)), h n (by omega)]
theorem erS_congr {D E : Nat → Int32} : ∀ n, (∀ i, i < n → D i = E i) → erS D n = erS E n := by
  intro n
  induction n with
  | zero => intro _; rfl
  | succ n ih => intro h; rw [erS, erS, ih (fun i hi => h i (by omega)), h n (by omega)]
theorem mx_congr {D E : Nat → Int32} : ∀ n, (∀ i, i < n → D i = E i) → mx D n = mx E n := by
  intro n
  induction n with
  | zero => intro _; rfl
  | succ n ih => intro h; rw [mx, mx, ih (fun i hi => h i (by omega)), h n (by omega)]
theorem up2_v (m : Mem) (k j : Nat) (x : Int32) (a b : Nat) : up2 m k j x a b = if a = k ∧ b = j then x else m a b := by
  by_cases h : a = k
  · subst h
    rw [up2_same]
    by_cases h2 : b = j <;> simp [upd, h2]
  · rw [up2_ne _ _ _ h]
    simp [h]
theorem lent_congr {m m' : Mem} {n l t : Nat} (h : QS m m') (hn : n ≤ 8) (hl : l < n) (ht : t < n) : (lbS (DP (lentM m' n l t) 25) 1000000 n).1 = (lbS (DP (lentM m n l t) 25) 1000000 n).1 := by
  have e : ∀ i j, i < n → j < 3 → m' (4 + i) j = m (4 + i) j := fun i j hi hj => (h.2 (4 + i) (by omega)).1 j (by omega) (by omega)
  have key : ∀ i j, i < n → j < 3 → lentM m' n l t (25 + 3 + i) j = lentM m n l t (25 + 3 + i) j := by
    intro i j hi hj
    have hb : ∀ x : Mem, becMem x 25 1 n (25 + 3 + i) j = x (4 + i) j := fun x => bec_f x (k := 25) (o := 1) hn (by decide) hi (by omega)
    unfold lentM
    rw [up2_v, up2_v, up2_v, up2_v, e l 2 hl (by decide), e t 2 ht (by decide), hb, hb, e i j hi hj]
  have hw : lentM m' n l t 26 0 = lentM m n l t 26 0 := by
    unfold lentM
    rw [up2_ne _ _ _ (by omega), up2_ne _ _ _ (by omega), up2_ne _ _ _ (by omega), up2_ne _ _ _ (by omega), bec_w m' (k := 25) (o := 1) (by decide), bec_w m (k := 25) (o := 1) (by decide), (h.2 2 (by omega)).2 (by decide)]
  rw [lbS_congr n (fun i hi => ?_)]
  unfold DP
  rw [key i 0 hi (by decide), key i 1 hi (by decide), key i 2 hi (by decide), hw]
set_option maxHeartbeats 4000000 in
theorem c5_lend {n : Nat} {mem : Mem} (h : PO mem 1 n) (f : Int32) : CnI mX5_lend [.ref 0, .int f] mem (fun x m' => (inR f 0 (nI n - 1) = 0 ∧ x = -1000001 ∧ m' = fnd mem 0) ∨ (¬ inR f 0 (nI n - 1) = 0 ∧ ∃ y, Fst (lendQ mem n f) 0 63 y ∧ ((y ≤ 63 ∧ x = nI y ∧ QS mem m') ∨ (y = 64 ∧ x = -1000004 ∧ (∃ m2, QS mem m2 ∧ m' = fnd m2 3))))) := by
  have h8n := h.2.2.1
  refine Cn.of (ls := [some (.ref 0), some (.int f), none, none]) (by decide) rfl (Nat.le_of_ble_eq_true rfl) ?_
  refine w_aload_n (i := 0) (n' := 1) dX5_lend_0 rfl rfl rfl ?_
  refine w_get (ci := 5) (j := 0) (n' := 4) dX5_lend_1 rfl fRX5_10 (Nat.le_of_ble_eq_true rfl) (Nat.le_of_ble_eq_true rfl) rfl rfl ?_
  refine w_iload_n (i := 1) (n' := 5) dX5_lend_4 rfl rfl rfl ?_
  refine v_E (ci := 1) (n' := 8) dX5_lend_5 rfl lRX5_78 okX1_hasFarm voX1_hasFarm ⟨⟨Nat.le_of_ble_eq_true rfl, Nat.le_of_ble_eq_true rfl⟩, Nat.le_of_ble_eq_true rfl, Nat.le_of_ble_eq_true rfl⟩ (c_hasFarm rfl _ _) rfl rfl (Nat.le_of_ble_eq_true rfl) rfl (Nat.le_of_ble_eq_true rfl) rfl ?_
  refine w_if_ne (n' := 11) (tgt := 17) dX5_lend_8 rfl rfl (fun h8 => ?_) (fun h8 => ?_)
  · rw [h.2.1] at h8
    refine w_iconst (v := 0) (n' := 18) dX5_lend_17 rfl rfl ?_
    refine w_istore_n (i := 2) (n' := 19) (ls' := [_, _, _, _]) dX5_lend_18 rfl rfl (Nat.le_of_ble_eq_true rfl) rfl rfl ?_
    have L : ∀ (i : Nat) (s : Option Value × Mem), i ≤ n → (QS mem s.2 ∧ ∀ p, p < 8 * i → ¬ lendQ mem n f p) → Wm mX5_lend (zM mX5_lend (fun r m' => ∃ x, r = some (.int x) ∧ (fun x m' => (inR f 0 (nI n - 1) = 0 ∧ x = -1000001 ∧ m' = fnd mem 0) ∨ (¬ inR f 0 (nI n - 1) = 0 ∧ ∃ y, Fst (lendQ mem n f) 0 63 y ∧ ((y ≤ 63 ∧ x = nI y ∧ QS mem m') ∨ (y = 64 ∧ x = -1000004 ∧ (∃ m2, QS mem m2 ∧ m' = fnd m2 3))))) x m')) 19 [some (.ref 0), some (.int f), some (.int (nI i)), s.1] [] s.2 := by
      refine for_ind n ?_
      rintro i ⟨lx, s⟩ hi ⟨h1, h2⟩ ih
      dsimp only at h1 h2 ih ⊢
      have hp := QS_PO h h1
      refine w_iload_n (i := 2) (n' := 20) dX5_lend_19 rfl rfl rfl ?_
      refine w_aload_n (i := 0) (n' := 21) dX5_lend_20 rfl rfl rfl ?_
      refine w_get (ci := 5) (j := 0) (n' := 24) dX5_lend_21 rfl fRX5_10 (Nat.le_of_ble_eq_true rfl) (Nat.le_of_ble_eq_true rfl) rfl rfl ?_
      refine w_get (ci := 1) (j := 3) (n' := 27) dX5_lend_24 rfl fRX5_172 (Nat.le_of_ble_eq_true rfl) (Nat.le_of_ble_eq_true rfl) rfl rfl ?_
      refine w_icmp_ge (n' := 30) (tgt := 77) dX5_lend_27 rfl rfl (fun h27 => ?_) (fun h27 => ?_)
      · have hin : i = n := by
          rcases Nat.lt_or_ge i n with q | q
          · exact absurd h27 (by rw [hp.2.1]; exact nI_ge q (by omega))
          · omega
        subst hin
        refine w_aload_n (i := 0) (n' := 78) dX5_lend_77 rfl rfl rfl ?_
        refine w_iconst (v := 3) (n' := 79) dX5_lend_78 rfl rfl ?_
        refine v_E (ci := 5) (n' := 82) dX5_lend_79 rfl lRX5_57 okX5_finding voX5_finding ⟨⟨Nat.le_of_ble_eq_true rfl, Nat.le_of_ble_eq_true rfl⟩, Nat.le_of_ble_eq_true rfl, Nat.le_of_ble_eq_true rfl⟩ (c_finding 3 _ (by decide) (by decide) _) rfl rfl (Nat.le_of_ble_eq_true rfl) rfl (Nat.le_of_ble_eq_true rfl) rfl ?_
        refine w_iret dX5_lend_82 rfl ⟨_, rfl, Or.inr ⟨h8, 64, ⟨Nat.zero_le _, by omega, fun p _ _ z => ?_, fun hh => absurd hh (by decide)⟩, Or.inr ⟨rfl, rfl, _, h1, rfl⟩⟩⟩
        rcases Nat.lt_or_ge p (8 * i) with q | q
        · exact h2 p q z
        · have := z.1
          omega
      · have hlt : i < n := by
          rcases Nat.lt_or_ge i n with q | q
          · exact q
          · exact absurd (by rw [hp.2.1]; exact nI_le q (by omega)) h27
        refine w_iconst (v := 0) (n' := 31) dX5_lend_30 rfl rfl ?_
        refine w_istore_n (i := 3) (n' := 32) (ls' := [_, _, _, _]) dX5_lend_31 rfl rfl (Nat.le_of_ble_eq_true rfl) rfl rfl ?_
        have L2 : ∀ (j : Nat) (s : Mem), j ≤ n → (QS mem s ∧ ∀ p, p < 8 * i + j → ¬ lendQ mem n f p) → Wm mX5_lend (zM mX5_lend (fun r m' => ∃ x, r = some (.int x) ∧ (fun x m' => (inR f 0 (nI n - 1) = 0 ∧ x = -1000001 ∧ m' = fnd mem 0) ∨ (¬ inR f 0 (nI n - 1) = 0 ∧ ∃ y, Fst (lendQ mem n f) 0 63 y ∧ ((y ≤ 63 ∧ x = nI y ∧ QS mem m') ∨ (y = 64 ∧ x = -1000004 ∧ (∃ m2, QS mem m2 ∧ m' = fnd m2 3))))) x m')) 32 [some (.ref 0), some (.int f), some (.int (nI i)), some (.int (nI j))] [] s := by
          refine for_ind n ?_
          rintro j s hj ⟨k1, k2⟩ ih2
          have hq := QS_PO h k1
          have d1 : (8 * i + j) / 8 = i ∨ 8 ≤ j := by omega
          have d2 : (8 * i + j) % 8 = j ∨ 8 ≤ j := by omega
          refine w_iload_n (i := 3) (n' := 33) dX5_lend_32 rfl rfl rfl ?_
          refine w_aload_n (i := 0) (n' := 34) dX5_lend_33 rfl rfl rfl ?_
          refine w_get (ci := 5) (j := 0) (n' := 37) dX5_lend_34 rfl fRX5_10 (Nat.le_of_ble_eq_true rfl) (Nat.le_of_ble_eq_true rfl) rfl rfl ?_
          refine w_get (ci := 1) (j := 3) (n' := 40) dX5_lend_37 rfl fRX5_172 (Nat.le_of_ble_eq_true rfl) (Nat.le_of_ble_eq_true rfl) rfl rfl ?_
          refine w_icmp_ge (n' := 43) (tgt := 71) dX5_lend_40 rfl rfl (fun h40 => ?_) (fun h40 => ?_)
          · have hin : j = n := by
              rcases Nat.lt_or_ge j n with q | q
              · exact absurd h40 (by rw [hq.2.1]; exact nI_ge q (by omega))
              · omega
            refine w_iinc (n' := 74) (v := nI (i + 1)) (ls' := [_, _, _, _]) dX5_lend_71 rfl rfl (nI_1 i) (Nat.le_of_ble_eq_true rfl) rfl rfl ?_
            refine w_goto (tgt := 19) dX5_lend_74 rfl ?_
            exact ih hlt (_, _) ⟨k1, fun p hp => by
              rcases Nat.lt_or_ge p (8 * i + n) with q | q
              · exact k2 p (by omega)
              · intro z
                have h5 := z.2.1
                omega⟩
          · have hlt2 : j < n := by
              rcases Nat.lt_or_ge j n with q | q
              · exact q
              · exact absurd (by rw [hq.2.1]; exact nI_le q (by omega)) h40
            refine w_iload_n (i := 2) (n' := 44) dX5_lend_43 rfl rfl rfl ?_
            refine w_iload_n (i := 3) (n' := 45) dX5_lend_44 rfl rfl rfl ?_
            refine w_icmp_eq (n' := 48) (tgt := 65) dX5_lend_45 rfl rfl (fun h45 => ?_) (fun h45 => ?_)
            · refine w_iinc (n' := 68) (v := nI (j + 1)) (ls' := [_, _, _, _]) dX5_lend_65 rfl rfl (nI_1 j) (Nat.le_of_ble_eq_true rfl) rfl rfl ?_
              refine w_goto (tgt := 32) dX5_lend_68 rfl ?_
              exact ih2 hlt2 _ ⟨k1, fun p hp => by
                rcases Nat.lt_or_ge p (8 * i + j) with q | q
                · exact k2 p q
                · intro z
                  have e : p = 8 * i + j := by omega
                  subst e
                  apply z.2.2.1
                  rw [d1.resolve_right (by omega), d2.resolve_right (by omega)]
                  have := (nI_eq (by omega) (by omega)).mp h45
                  exact this⟩
            · refine w_aload_n (i := 0) (n' := 49) dX5_lend_48 rfl rfl rfl ?_
              refine w_iload_n (i := 1) (n' := 50) dX5_lend_49 rfl rfl rfl ?_
              refine w_iload_n (i := 2) (n' := 51) dX5_lend_50 rfl rfl rfl ?_
              refine w_iload_n (i := 3) (n' := 52) dX5_lend_51 rfl rfl rfl ?_
              refine v_I (ci := 5) (n' := 55) dX5_lend_52 rfl lRX5_175 okX5_isLatestIfLent voX5_isLatestIfLent ⟨⟨Nat.le_of_ble_eq_true rfl, Nat.le_of_ble_eq_true rfl⟩, Nat.le_of_ble_eq_true rfl, Nat.le_of_ble_eq_true rfl⟩ (c_lent hq hlt hlt2 (fun e => h45 (by rw [e])) _) rfl rfl (Nat.le_of_ble_eq_true rfl) rfl (Nat.le_of_ble_eq_true rfl) rfl (fun x52 m52 q52 => ?_)
              have eL : s (4 + i) 2 = mem (4 + i) 2 := (k1.2 (4 + i) (by omega)).1 2 (by decide) (by decide)
              have eT : s (4 + j) 2 = mem (4 + j) 2 := (k1.2 (4 + j) (by omega)).1 2 (by decide) (by decide)
              have e55 : ¬ mem (4 + i) 2 ≤ 1 → mem (4 + j) 2 < 20 → x52 = bitI (lbS (DP (lentM mem n i j) 25) 1000000 n).1 f := by
                intro z1 z2
                rw [q52.1, eL, eT, if_neg z1, if_pos z2, lent_congr k1 h8n hlt hlt2]
              refine w_if_eq (n' := 58) (tgt := 65) dX5_lend_55 rfl rfl (fun h55 => ?_) (fun h55 => ?_)
              · refine w_iinc (n' := 68) (v := nI (j + 1)) (ls' := [_, _, _, _]) dX5_lend_65 rfl rfl (nI_1 j) (Nat.le_of_ble_eq_true rfl) rfl rfl ?_
                refine w_goto (tgt := 32) dX5_lend_68 rfl ?_
                exact ih2 hlt2 _ ⟨k1.tr q52.2, fun p hp => by
                  rcases Nat.lt_or_ge p (8 * i + j) with q | q
                  · exact k2 p q
                  · intro z
                    have e : p = 8 * i + j := by omega
                    subst e
                    obtain ⟨z1, z2, z3, z4, z5, z6⟩ := z
                    rw [d1.resolve_right (by omega), d2.resolve_right (by omega)] at z6
                    rw [d1.resolve_right (by omega)] at z4
                    rw [d2.resolve_right (by omega)] at z5
                    apply z6
                    rw [← e55 z4 z5]
                    exact h55⟩
              · refine w_bipush (v := 8) (n' := 60) dX5_lend_58 rfl (by decide) ?_
                refine w_iload_n (i := 2) (n' := 61) dX5_lend_60 rfl rfl rfl ?_
                refine w_imul (n' := 62) dX5_lend_61 rfl ?_
                refine w_iload_n (i := 3) (n' := 63) dX5_lend_62 rfl rfl rfl ?_
                refine w_iadd (n' := 64) dX5_lend_63 rfl ?_
                refine w_iret dX5_lend_64 rfl ⟨_, rfl, Or.inr ⟨h8, 8 * i + j, ⟨Nat.zero_le _, by omega, fun z _ hz => k2 z hz, fun _ => ?_⟩, Or.inl ⟨by omega, by rw [← nI_add, ← pk_mul]; rfl, k1.tr q52.2⟩⟩⟩
                have c1 : ¬ mem (4 + i) 2 ≤ 1 := fun z => h55 (by rw [q52.1, eL, if_pos z])
                have c2 : mem (4 + j) 2 < 20 := by
                  by_cases z : mem (4 + j) 2 < 20
                  · exact z
                  · exact absurd (by rw [q52.1, eL, eT, if_neg c1, if_neg z]) h55
                unfold lendQ
                rw [d1.resolve_right (by omega), d2.resolve_right (by omega)]
                exact ⟨hlt, hlt2, fun e => h45 (by rw [e]), c1, c2, by rw [← e55 c1 c2]; exact h55⟩
        exact L2 0 _ (Nat.zero_le _) ⟨h1, fun p hp => h2 p (by omega)⟩
    exact L 0 (_, _) (Nat.zero_le _) ⟨QS_Same (Same.rf h.2.2.2.2), fun p hp => absurd hp (by omega)⟩
  · refine w_aload_n (i := 0) (n' := 12) dX5_lend_11 rfl rfl rfl ?_
    refine w_iconst (v := 0) (n' := 13) dX5_lend_12 rfl rfl ?_
    refine v_E (ci := 5) (n' := 16) dX5_lend_13 rfl lRX5_57 okX5_finding voX5_finding ⟨⟨Nat.le_of_ble_eq_true rfl, Nat.le_of_ble_eq_true rfl⟩, Nat.le_of_ble_eq_true rfl, Nat.le_of_ble_eq_true rfl⟩ (c_finding 0 _ (by decide) (by decide) _) rfl rfl (Nat.le_of_ble_eq_true rfl) rfl (Nat.le_of_ble_eq_true rfl) rfl ?_
    exact w_iret dX5_lend_16 rfl ⟨_, rfl, Or.inl ⟨by simpa [h.2.1] using h8, rfl, rfl⟩⟩
