/-! years of the parish itself, fits, odds, cuts, counts -/
theorem inR_1 {a b M : Int32} {N K : Nat} (ha : a.toInt = K) (hM : M.toInt = N) (h : ¬ inR b a M = 0) : ∃ y, K ≤ y ∧ y ≤ N ∧ b = nI y := by
  have h1 : inR b a M = 1 := (inR_01 b a M).resolve_left h
  rw [inR_iff] at h1
  have hb : ¬ b < 0 := by
    rw [Int32.lt_iff_toInt_lt]
    have e : (0 : Int32).toInt = 0 := by decide
    omega
  obtain ⟨y, hy1, hy2⟩ := nI_of hb
  rw [hy2, nI_toInt hy1] at h1
  exact ⟨y, by omega, by omega, hy2⟩
set_option maxHeartbeats 4000000 in
theorem c5_go {n : Nat} {mem : Mem} (h : PO mem 1 n) (a : Int32) : CnI mX5_go [.ref 0, .int a] mem (fun x m' => (inR a 1 60 = 0 ∧ x = -1000001 ∧ m' = fnd mem 0) ∨ (¬ inR a 1 60 = 0 ∧ ¬ mem 1 4 + a ≤ 99999 ∧ x = -1000005 ∧ m' = fnd mem 4) ∨ (∃ y, 1 ≤ y ∧ y ≤ 60 ∧ a = nI y ∧ mem 1 4 + a ≤ 99999 ∧ x = leanM (yrs mem 1 n y) 1 n ∧ Same (yrs mem 1 n y) m')) := by
  refine Cn.of (ls := [some (.ref 0), some (.int a), none]) (by decide) rfl (Nat.le_of_ble_eq_true rfl) ?_
  refine w_iload_n (i := 1) (n' := 1) dX5_go_0 rfl rfl rfl ?_
  refine w_iconst (v := 1) (n' := 2) dX5_go_1 rfl rfl ?_
  refine w_bipush (v := 60) (n' := 4) dX5_go_2 rfl (by decide) ?_
  refine s_E (n' := 7) dX5_go_4 rfl lRX5_53 okX5_within stX5_within ⟨⟨Nat.le_of_ble_eq_true rfl, Nat.le_of_ble_eq_true rfl⟩, Nat.le_of_ble_eq_true rfl, Nat.le_of_ble_eq_true rfl⟩ (c_within _ _ _ _) rfl rfl (Nat.le_of_ble_eq_true rfl) ?_
  refine w_if_ne (n' := 10) (tgt := 16) dX5_go_7 rfl rfl (fun h7 => ?_) (fun h7 => ?_)
  · refine w_aload_n (i := 0) (n' := 17) dX5_go_16 rfl rfl rfl ?_
    refine w_get (ci := 5) (j := 0) (n' := 20) dX5_go_17 rfl fRX5_10 (Nat.le_of_ble_eq_true rfl) (Nat.le_of_ble_eq_true rfl) rfl rfl ?_
    refine w_get (ci := 1) (j := 4) (n' := 23) dX5_go_20 rfl fRX5_131 (Nat.le_of_ble_eq_true rfl) (Nat.le_of_ble_eq_true rfl) rfl rfl ?_
    refine w_iload_n (i := 1) (n' := 24) dX5_go_23 rfl rfl rfl ?_
    refine w_iadd (n' := 25) dX5_go_24 rfl ?_
    refine w_ldc (v := 99999) (n' := 27) dX5_go_25 rfl kRX5_134 ?_
    refine w_icmp_le (n' := 30) (tgt := 36) dX5_go_27 rfl rfl (fun h27 => ?_) (fun h27 => ?_)
    · obtain ⟨y, hy1, hy2, hy3⟩ := inR_1 (K := 1) (N := 60) (by decide) (by decide) h7
      refine w_iconst (v := 0) (n' := 37) dX5_go_36 rfl rfl ?_
      refine w_istore_n (i := 2) (n' := 38) (ls' := [_, _, _]) dX5_go_37 rfl rfl (Nat.le_of_ble_eq_true rfl) rfl rfl ?_
      have L : ∀ (i : Nat) (s : Mem), i ≤ y → Same (yrs mem 1 n i) s → Wm mX5_go (zM mX5_go (fun r m' => ∃ x, r = some (.int x) ∧ (fun x m' => (inR a 1 60 = 0 ∧ x = -1000001 ∧ m' = fnd mem 0) ∨ (¬ inR a 1 60 = 0 ∧ ¬ mem 1 4 + a ≤ 99999 ∧ x = -1000005 ∧ m' = fnd mem 4) ∨ (∃ y, 1 ≤ y ∧ y ≤ 60 ∧ a = nI y ∧ mem 1 4 + a ≤ 99999 ∧ x = leanM (yrs mem 1 n y) 1 n ∧ Same (yrs mem 1 n y) m')) x m')) 38 [some (.ref 0), some (.int a), some (.int (nI i))] [] s := by
        refine for_ind y ?_
        intro i s hi h1 ih
        have hp := h1.PO (PO_yrs h i)
        refine w_iload_n (i := 2) (n' := 39) dX5_go_38 rfl rfl rfl ?_
        refine w_iload_n (i := 1) (n' := 40) dX5_go_39 rfl rfl rfl ?_
        refine w_icmp_ge (n' := 43) (tgt := 56) dX5_go_40 rfl rfl (fun h40 => ?_) (fun h40 => ?_)
        · have hin : i = y := by
            rcases Nat.lt_or_ge i y with c | c
            · exact absurd h40 (by rw [hy3]; exact nI_ge (b := y) c (by omega))
            · omega
          subst hin
          refine w_aload_n (i := 0) (n' := 57) dX5_go_56 rfl rfl rfl ?_
          refine w_get (ci := 5) (j := 0) (n' := 60) dX5_go_57 rfl fRX5_10 (Nat.le_of_ble_eq_true rfl) (Nat.le_of_ble_eq_true rfl) rfl rfl ?_
          refine v_I (ci := 1) (n' := 63) dX5_go_60 rfl lRX5_122 okX1_leanNow voX1_leanNow ⟨⟨Nat.le_of_ble_eq_true rfl, Nat.le_of_ble_eq_true rfl⟩, Nat.le_of_ble_eq_true rfl, Nat.le_of_ble_eq_true rfl⟩ (c_leanNow hp) rfl rfl (Nat.le_of_ble_eq_true rfl) rfl (Nat.le_of_ble_eq_true rfl) rfl (fun x60 m60 q60 => ?_)
          exact w_iret dX5_go_63 rfl ⟨_, rfl, Or.inr (Or.inr ⟨i, hy1, hy2, hy3, h27, by rw [q60.1, h1.lean rfl], h1.tr q60.2⟩)⟩
        · have hlt : i < y := by
            rcases Nat.lt_or_ge i y with c | c
            · exact c
            · exact absurd (by rw [hy3]; exact nI_le (a := y) c (by omega)) h40
          refine w_aload_n (i := 0) (n' := 44) dX5_go_43 rfl rfl rfl ?_
          refine w_get (ci := 5) (j := 0) (n' := 47) dX5_go_44 rfl fRX5_10 (Nat.le_of_ble_eq_true rfl) (Nat.le_of_ble_eq_true rfl) rfl rfl ?_
          refine v_V (ci := 1) (n' := 50) dX5_go_47 rfl lRX5_135 okX1_passYear voX1_passYear ⟨⟨Nat.le_of_ble_eq_true rfl, Nat.le_of_ble_eq_true rfl⟩, Nat.le_of_ble_eq_true rfl, Nat.le_of_ble_eq_true rfl⟩ (c_passYear hp) rfl rfl (Nat.le_of_ble_eq_true rfl) rfl (Nat.le_of_ble_eq_true rfl) rfl (fun m47 q47 => ?_)
          refine w_iinc (n' := 53) (v := nI (i + 1)) (ls' := [_, _, _]) dX5_go_50 rfl rfl (nI_1 i) (Nat.le_of_ble_eq_true rfl) rfl rfl ?_
          refine w_goto (tgt := 38) dX5_go_53 rfl ?_
          exact ih hlt _ (Same.year rfl h.2.2.1 h1 q47.1 q47.2)
      exact L 0 _ (Nat.zero_le _) (Same.rf h.2.2.2.2)
    · refine w_aload_n (i := 0) (n' := 31) dX5_go_30 rfl rfl rfl ?_
      refine w_iconst (v := 4) (n' := 32) dX5_go_31 rfl rfl ?_
      refine v_E (ci := 5) (n' := 35) dX5_go_32 rfl lRX5_57 okX5_finding voX5_finding ⟨⟨Nat.le_of_ble_eq_true rfl, Nat.le_of_ble_eq_true rfl⟩, Nat.le_of_ble_eq_true rfl, Nat.le_of_ble_eq_true rfl⟩ (c_finding 4 _ (by decide) (by decide) _) rfl rfl (Nat.le_of_ble_eq_true rfl) rfl (Nat.le_of_ble_eq_true rfl) rfl ?_
      exact w_iret dX5_go_35 rfl ⟨_, rfl, Or.inr (Or.inl ⟨h7, h27, rfl, rfl⟩)⟩
  · refine w_aload_n (i := 0) (n' := 11) dX5_go_10 rfl rfl rfl ?_
    refine w_iconst (v := 0) (n' := 12) dX5_go_11 rfl rfl ?_
    refine v_E (ci := 5) (n' := 15) dX5_go_12 rfl lRX5_57 okX5_finding voX5_finding ⟨⟨Nat.le_of_ble_eq_true rfl, Nat.le_of_ble_eq_true rfl⟩, Nat.le_of_ble_eq_true rfl, Nat.le_of_ble_eq_true rfl⟩ (c_finding 0 _ (by decide) (by decide) _) rfl rfl (Nat.le_of_ble_eq_true rfl) rfl (Nat.le_of_ble_eq_true rfl) rfl ?_
    exact w_iret dX5_go_15 rfl ⟨_, rfl, Or.inl ⟨by simpa using h7, rfl, rfl⟩⟩
def drw (z : Int32) : Int32 := z * 1103515245 + 12345
def dr8 (z : Int32) : Int32 := ((drw z).toUInt32 >>> ((8 : Int32).toUInt32 &&& Int32.toUInt32 31)).toInt32
def rem100 (x : Int32) : Int32 := x - x / 100 * 100
def wdr (m : Mem) : Mem := up2 (up2 (up2 (up2 m 1 5 (drw (m 1 5))) 2 0 (rem100 (dr8 (m 1 5)))) 1 5 (drw (drw (m 1 5)))) 2 2 (rem100 (dr8 (drw (m 1 5))))
def wths (m : Mem) (n : Nat) : Nat → Mem
  | 0 => m
  | y + 1 => yearMem (wdr (wths m n y)) 1 n
theorem dr8_nn (z : Int32) : 0 ≤ (dr8 z).toInt ∧ (dr8 z).toInt < 16777216 := by
  obtain ⟨w, hw⟩ : ∃ w, w = (drw z).toBitVec.toNat := ⟨_, rfl⟩
  have hlt : w < 2 ^ 32 := by rw [hw]; exact (drw z).toBitVec.isLt
  have e : dr8 z = nI (w / 2 ^ 8) := by
    have h2 := pk_ushr (drw z) 8 8 (by decide)
    apply Int32.toBitVec_inj.mp
    apply BitVec.eq_of_toNat_eq
    rw [show (dr8 z).toBitVec.toNat = (drw z).toBitVec.toNat / 2 ^ 8 from h2, pk_tn (by omega), hw]
  rw [e, nI_toInt (by omega)]
  omega
theorem rem100_nn (z : Int32) : ∃ r, r < 100 ∧ rem100 (dr8 z) = nI r := by
  obtain ⟨h1, h2⟩ := dr8_nn z
  have hb : ¬ dr8 z < 0 := by
    rw [Int32.lt_iff_toInt_lt]
    have e : (0 : Int32).toInt = 0 := by decide
    omega
  obtain ⟨y, hy1, hy2⟩ := nI_of hb
  refine ⟨y % 100, Nat.mod_lt _ (by decide), ?_⟩
  unfold rem100
  rw [hy2]
  exact pk_rem hy1 (by decide) (by decide)
theorem nI_nem1 {r : Nat} (h : r < 1000) : nI r ≠ -1 := by
  intro q
  have := congrArg Int32.toInt q
  rw [nI_toInt (by omega)] at this
  have e : (-1 : Int32).toInt = -1 := by decide
  omega
theorem wdr_PO {m : Mem} {n : Nat} (h : PO m 1 n) : PO (wdr m) 1 n := by
  obtain ⟨r, hr1, hr2⟩ := rem100_nn (m 1 5)
  refine ⟨rfl, ?_, h.2.2.1, ?_, ?_⟩
  · simp only [wdr, up2_v]
    simpa using h.2.1
  · simp only [wdr, up2_v]
    simp
    rw [hr2]
    exact nI_nem1 (by omega)
  · unfold wdr
    simp only [up2_eq]
    exact upR_Ca (by decide) (upR_Ca (by decide) (upR_Ca (by decide) (upR_Ca (by decide) h.2.2.2.2)))
theorem wdr_Same {m m' : Mem} (h : Same m m') : Same (wdr m) (wdr m') := by
  have e1 : m' 1 = m 1 := h.row (by decide)
  refine ⟨?_, ?_⟩
  · refine pr_of (fun a => ?_)
    have key : ∀ j, (kd a = 0 → j ≠ 5 → j ≠ 6 → wdr m' a j = wdr m a j) ∧ (kd a ≠ 0 → wdr m' a j = wdr m a j) := by
      intro j
      have hb : (kd a = 0 → j ≠ 5 → j ≠ 6 → m' a j = m a j) ∧ (kd a ≠ 0 → m' a j = m a j) := ⟨fun _ h5 h6 => eqC_of h.1 a j h5 h6, fun hk => by rw [h.row hk]⟩
      unfold wdr
      simp only [up2_v, e1]
      refine ⟨fun h0 h5 h6 => ?_, fun hk => ?_⟩
      · rw [hb.1 h0 h5 h6]
      · rw [hb.2 hk]
    exact ⟨fun h0 j h5 h6 => (key j).1 h0 h5 h6, fun hk => funext fun j => (key j).2 hk⟩
  · unfold wdr
    simp only [up2_eq]
    exact upR_Ca (by decide) (upR_Ca (by decide) (upR_Ca (by decide) (upR_Ca (by decide) h.2)))
theorem PO_wths {m : Mem} {n : Nat} (h : PO m 1 n) : ∀ y, PO (wths m n y) 1 n
  | 0 => h
  | y + 1 => PO_year (wdr_PO (PO_wths h y))
set_option maxHeartbeats 4000000 in
theorem c5_weathers {n : Nat} {mem : Mem} (h : PO mem 1 n) (a : Int32) : CnI mX5_weathers [.ref 0, .int a] mem (fun x m' => (inR a 1 20 = 0 ∧ x = -1000001 ∧ m' = fnd mem 0) ∨ (¬ inR a 1 20 = 0 ∧ ¬ mem 1 4 + a ≤ 99999 ∧ x = -1000005 ∧ m' = fnd mem 4) ∨ (∃ y, 1 ≤ y ∧ y ≤ 20 ∧ a = nI y ∧ mem 1 4 + a ≤ 99999 ∧ x = leanM (wths mem n y) 1 n ∧ Same (wths mem n y) m')) := by
  refine Cn.of (ls := [some (.ref 0), some (.int a), none]) (by decide) rfl (Nat.le_of_ble_eq_true rfl) ?_
  refine w_iload_n (i := 1) (n' := 1) dX5_weathers_0 rfl rfl rfl ?_
  refine w_iconst (v := 1) (n' := 2) dX5_weathers_1 rfl rfl ?_
  refine w_bipush (v := 20) (n' := 4) dX5_weathers_2 rfl (by decide) ?_
  refine s_E (n' := 7) dX5_weathers_4 rfl lRX5_53 okX5_within stX5_within ⟨⟨Nat.le_of_ble_eq_true rfl, Nat.le_of_ble_eq_true rfl⟩, Nat.le_of_ble_eq_true rfl, Nat.le_of_ble_eq_true rfl⟩ (c_within _ _ _ _) rfl rfl (Nat.le_of_ble_eq_true rfl) ?_
  refine w_if_ne (n' := 10) (tgt := 16) dX5_weathers_7 rfl rfl (fun h7 => ?_) (fun h7 => ?_)
  · refine w_aload_n (i := 0) (n' := 17) dX5_weathers_16 rfl rfl rfl ?_
    refine w_get (ci := 5) (j := 0) (n' := 20) dX5_weathers_17 rfl fRX5_10 (Nat.le_of_ble_eq_true rfl) (Nat.le_of_ble_eq_true rfl) rfl rfl ?_
    refine w_get (ci := 1) (j := 4) (n' := 23) dX5_weathers_20 rfl fRX5_131 (Nat.le_of_ble_eq_true rfl) (Nat.le_of_ble_eq_true rfl) rfl rfl ?_
    refine w_iload_n (i := 1) (n' := 24) dX5_weathers_23 rfl rfl rfl ?_
    refine w_iadd (n' := 25) dX5_weathers_24 rfl ?_
    refine w_ldc (v := 99999) (n' := 27) dX5_weathers_25 rfl kRX5_134 ?_
    refine w_icmp_le (n' := 30) (tgt := 36) dX5_weathers_27 rfl rfl (fun h27 => ?_) (fun h27 => ?_)
    · obtain ⟨y, hy1, hy2, hy3⟩ := inR_1 (K := 1) (N := 20) (by decide) (by decide) h7
      refine w_iconst (v := 0) (n' := 37) dX5_weathers_36 rfl rfl ?_
      refine w_istore_n (i := 2) (n' := 38) (ls' := [_, _, _]) dX5_weathers_37 rfl rfl (Nat.le_of_ble_eq_true rfl) rfl rfl ?_
      have L : ∀ (i : Nat) (s : Mem), i ≤ y → Same (wths mem n i) s → Wm mX5_weathers (zM mX5_weathers (fun r m' => ∃ x, r = some (.int x) ∧ (fun x m' => (inR a 1 20 = 0 ∧ x = -1000001 ∧ m' = fnd mem 0) ∨ (¬ inR a 1 20 = 0 ∧ ¬ mem 1 4 + a ≤ 99999 ∧ x = -1000005 ∧ m' = fnd mem 4) ∨ (∃ y, 1 ≤ y ∧ y ≤ 20 ∧ a = nI y ∧ mem 1 4 + a ≤ 99999 ∧ x = leanM (wths mem n y) 1 n ∧ Same (wths mem n y) m')) x m')) 38 [some (.ref 0), some (.int a), some (.int (nI i))] [] s := by
        refine for_ind y ?_
        intro i s hi h1 ih
        have hp := h1.PO (PO_wths h i)
        refine w_iload_n (i := 2) (n' := 39) dX5_weathers_38 rfl rfl rfl ?_
        refine w_iload_n (i := 1) (n' := 40) dX5_weathers_39 rfl rfl rfl ?_
        refine w_icmp_ge (n' := 43) (tgt := 94) dX5_weathers_40 rfl rfl (fun h40 => ?_) (fun h40 => ?_)
        · have hin : i = y := by
            rcases Nat.lt_or_ge i y with c | c
            · exact absurd h40 (by rw [hy3]; exact nI_ge (b := y) c (by omega))
            · omega
          subst hin
          refine w_aload_n (i := 0) (n' := 95) dX5_weathers_94 rfl rfl rfl ?_
          refine w_get (ci := 5) (j := 0) (n' := 98) dX5_weathers_95 rfl fRX5_10 (Nat.le_of_ble_eq_true rfl) (Nat.le_of_ble_eq_true rfl) rfl rfl ?_
          refine v_I (ci := 1) (n' := 101) dX5_weathers_98 rfl lRX5_122 okX1_leanNow voX1_leanNow ⟨⟨Nat.le_of_ble_eq_true rfl, Nat.le_of_ble_eq_true rfl⟩, Nat.le_of_ble_eq_true rfl, Nat.le_of_ble_eq_true rfl⟩ (c_leanNow hp) rfl rfl (Nat.le_of_ble_eq_true rfl) rfl (Nat.le_of_ble_eq_true rfl) rfl (fun x98 m98 q98 => ?_)
          exact w_iret dX5_weathers_101 rfl ⟨_, rfl, Or.inr (Or.inr ⟨i, hy1, hy2, hy3, h27, by rw [q98.1, h1.lean rfl], h1.tr q98.2⟩)⟩
        · have hlt : i < y := by
            rcases Nat.lt_or_ge i y with c | c
            · exact c
            · exact absurd (by rw [hy3]; exact nI_le (a := y) c (by omega)) h40
          refine w_aload_n (i := 0) (n' := 44) dX5_weathers_43 rfl rfl rfl ?_
          refine w_get (ci := 5) (j := 0) (n' := 47) dX5_weathers_44 rfl fRX5_10 (Nat.le_of_ble_eq_true rfl) (Nat.le_of_ble_eq_true rfl) rfl rfl ?_
          refine w_get (ci := 1) (j := 0) (n' := 50) dX5_weathers_47 rfl fRX5_61 (Nat.le_of_ble_eq_true rfl) (Nat.le_of_ble_eq_true rfl) rfl rfl ?_
          refine w_iconst (v := 0) (n' := 51) dX5_weathers_50 rfl rfl ?_
          refine w_aload_n (i := 0) (n' := 52) dX5_weathers_51 rfl rfl rfl ?_
          refine w_get (ci := 5) (j := 0) (n' := 55) dX5_weathers_52 rfl fRX5_10 (Nat.le_of_ble_eq_true rfl) (Nat.le_of_ble_eq_true rfl) rfl rfl ?_
          refine v_E (ci := 1) (n' := 58) dX5_weathers_55 rfl lRX5_220 okX1_draw voX1_draw ⟨⟨Nat.le_of_ble_eq_true rfl, Nat.le_of_ble_eq_true rfl⟩, Nat.le_of_ble_eq_true rfl, Nat.le_of_ble_eq_true rfl⟩ (c_draw rfl _) rfl rfl (Nat.le_of_ble_eq_true rfl) rfl (Nat.le_of_ble_eq_true rfl) rfl ?_
          refine w_bipush (v := 100) (n' := 60) dX5_weathers_58 rfl (by decide) ?_
          refine w_irem (n' := 61) dX5_weathers_60 rfl (by decide) ?_
          refine w_iast (n := 0) (n' := 62) dX5_weathers_61 rfl rfl (by decide) (by decide) ?_
          refine w_aload_n (i := 0) (n' := 63) dX5_weathers_62 rfl rfl rfl ?_
          refine w_get (ci := 5) (j := 0) (n' := 66) dX5_weathers_63 rfl fRX5_10 (Nat.le_of_ble_eq_true rfl) (Nat.le_of_ble_eq_true rfl) rfl rfl ?_
          refine w_get (ci := 1) (j := 0) (n' := 69) dX5_weathers_66 rfl fRX5_61 (Nat.le_of_ble_eq_true rfl) (Nat.le_of_ble_eq_true rfl) rfl rfl ?_
          refine w_iconst (v := 2) (n' := 70) dX5_weathers_69 rfl rfl ?_
          refine w_aload_n (i := 0) (n' := 71) dX5_weathers_70 rfl rfl rfl ?_
          refine w_get (ci := 5) (j := 0) (n' := 74) dX5_weathers_71 rfl fRX5_10 (Nat.le_of_ble_eq_true rfl) (Nat.le_of_ble_eq_true rfl) rfl rfl ?_
          refine v_E (ci := 1) (n' := 77) dX5_weathers_74 rfl lRX5_220 okX1_draw voX1_draw ⟨⟨Nat.le_of_ble_eq_true rfl, Nat.le_of_ble_eq_true rfl⟩, Nat.le_of_ble_eq_true rfl, Nat.le_of_ble_eq_true rfl⟩ (c_draw rfl _) rfl rfl (Nat.le_of_ble_eq_true rfl) rfl (Nat.le_of_ble_eq_true rfl) rfl ?_
          refine w_bipush (v := 100) (n' := 79) dX5_weathers_77 rfl (by decide) ?_
          refine w_irem (n' := 80) dX5_weathers_79 rfl (by decide) ?_
          refine w_iast (n := 2) (n' := 81) dX5_weathers_80 rfl rfl (by decide) (by decide) ?_
          have ew : wdr s = up2 (up2 (up2 (up2 s 1 5 (drw (s 1 5))) 2 0 (rem100 (dr8 (s 1 5)))) 1 5 (drw (drw (s 1 5)))) 2 2 (rem100 (dr8 (drw (s 1 5)))) := rfl
          show Wm _ _ 81 _ _ (wdr s)
          have hq := wdr_PO hp
          refine w_aload_n (i := 0) (n' := 82) dX5_weathers_81 rfl rfl rfl ?_
          refine w_get (ci := 5) (j := 0) (n' := 85) dX5_weathers_82 rfl fRX5_10 (Nat.le_of_ble_eq_true rfl) (Nat.le_of_ble_eq_true rfl) rfl rfl ?_
          refine v_V (ci := 1) (n' := 88) dX5_weathers_85 rfl lRX5_135 okX1_passYear voX1_passYear ⟨⟨Nat.le_of_ble_eq_true rfl, Nat.le_of_ble_eq_true rfl⟩, Nat.le_of_ble_eq_true rfl, Nat.le_of_ble_eq_true rfl⟩ (c_passYear hq) rfl rfl (Nat.le_of_ble_eq_true rfl) rfl (Nat.le_of_ble_eq_true rfl) rfl (fun m85 q85 => ?_)
          refine w_iinc (n' := 91) (v := nI (i + 1)) (ls' := [_, _, _]) dX5_weathers_88 rfl rfl (nI_1 i) (Nat.le_of_ble_eq_true rfl) rfl rfl ?_
          refine w_goto (tgt := 38) dX5_weathers_91 rfl ?_
          exact ih hlt _ (Same.year rfl h.2.2.1 (wdr_Same h1) q85.1 q85.2)
      exact L 0 _ (Nat.zero_le _) (Same.rf h.2.2.2.2)
    · refine w_aload_n (i := 0) (n' := 31) dX5_weathers_30 rfl rfl rfl ?_
      refine w_iconst (v := 4) (n' := 32) dX5_weathers_31 rfl rfl ?_
      refine v_E (ci := 5) (n' := 35) dX5_weathers_32 rfl lRX5_57 okX5_finding voX5_finding ⟨⟨Nat.le_of_ble_eq_true rfl, Nat.le_of_ble_eq_true rfl⟩, Nat.le_of_ble_eq_true rfl, Nat.le_of_ble_eq_true rfl⟩ (c_finding 4 _ (by decide) (by decide) _) rfl rfl (Nat.le_of_ble_eq_true rfl) rfl (Nat.le_of_ble_eq_true rfl) rfl ?_
      exact w_iret dX5_weathers_35 rfl ⟨_, rfl, Or.inr (Or.inl ⟨h7, h27, rfl, rfl⟩)⟩
  · refine w_aload_n (i := 0) (n' := 11) dX5_weathers_10 rfl rfl rfl ?_
    refine w_iconst (v := 0) (n' := 12) dX5_weathers_11 rfl rfl ?_
    refine v_E (ci := 5) (n' := 15) dX5_weathers_12 rfl lRX5_57 okX5_finding voX5_finding ⟨⟨Nat.le_of_ble_eq_true rfl, Nat.le_of_ble_eq_true rfl⟩, Nat.le_of_ble_eq_true rfl, Nat.le_of_ble_eq_true rfl⟩ (c_finding 0 _ (by decide) (by decide) _) rfl rfl (Nat.le_of_ble_eq_true rfl) rfl (Nat.le_of_ble_eq_true rfl) rfl ?_
    exact w_iret dX5_weathers_15 rfl ⟨_, rfl, Or.inl ⟨by simpa using h7, rfl, rfl⟩⟩
def pwL (f : Int64) : Nat → Int64
  | 0 => 1
  | i + 1 => pwL f i * f
set_option maxHeartbeats 4000000 in
theorem c5_odds (a b : Int32) (mem : Mem) : Cn mX5_odds [.ref 0, .int a, .int b] mem (fun r m' => ((inR a 0 12 = 0 ∨ inR b 0 1 = 0) ∧ r = some (.long (-1000001 : Int32).toInt64) ∧ m' = fnd mem 0) ∨ (¬ inR b 0 1 = 0 ∧ ∃ y, y ≤ 12 ∧ a = nI y ∧ r = some (.long (pwL (if b = 0 then 3 else 5) y)) ∧ m' = mem)) := by
  refine Cn.of (ls := [some (.ref 0), some (.int a), some (.int b), none, none, none, none, none]) (by decide) rfl (Nat.le_of_ble_eq_true rfl) ?_
  refine w_iload_n (i := 1) (n' := 1) dX5_odds_0 rfl rfl rfl ?_
  refine w_iconst (v := 0) (n' := 2) dX5_odds_1 rfl rfl ?_
  refine w_bipush (v := 12) (n' := 4) dX5_odds_2 rfl (by decide) ?_
  refine s_E (n' := 7) dX5_odds_4 rfl lRX5_53 okX5_within stX5_within ⟨⟨Nat.le_of_ble_eq_true rfl, Nat.le_of_ble_eq_true rfl⟩, Nat.le_of_ble_eq_true rfl, Nat.le_of_ble_eq_true rfl⟩ (c_within _ _ _ _) rfl rfl (Nat.le_of_ble_eq_true rfl) ?_
  refine w_if_eq (n' := 10) (tgt := 19) dX5_odds_7 rfl rfl (fun h7 => ?_) (fun h7 => ?_)
  · refine w_aload_n (i := 0) (n' := 20) dX5_odds_19 rfl rfl rfl ?_
    refine w_iconst (v := 0) (n' := 21) dX5_odds_20 rfl rfl ?_
    refine v_E (ci := 5) (n' := 24) dX5_odds_21 rfl lRX5_57 okX5_finding voX5_finding ⟨⟨Nat.le_of_ble_eq_true rfl, Nat.le_of_ble_eq_true rfl⟩, Nat.le_of_ble_eq_true rfl, Nat.le_of_ble_eq_true rfl⟩ (c_finding 0 _ (by decide) (by decide) _) rfl rfl (Nat.le_of_ble_eq_true rfl) rfl (Nat.le_of_ble_eq_true rfl) rfl ?_
    refine w_i2l (v := _) (n' := 25) dX5_odds_24 rfl rfl ?_
    exact w_lret dX5_odds_25 rfl (Or.inl ⟨Or.inl h7, rfl, rfl⟩)
  · refine w_iload_n (i := 2) (n' := 11) dX5_odds_10 rfl rfl rfl ?_
    refine w_iconst (v := 0) (n' := 12) dX5_odds_11 rfl rfl ?_
    refine w_iconst (v := 1) (n' := 13) dX5_odds_12 rfl rfl ?_
    refine s_E (n' := 16) dX5_odds_13 rfl lRX5_53 okX5_within stX5_within ⟨⟨Nat.le_of_ble_eq_true rfl, Nat.le_of_ble_eq_true rfl⟩, Nat.le_of_ble_eq_true rfl, Nat.le_of_ble_eq_true rfl⟩ (c_within _ _ _ _) rfl rfl (Nat.le_of_ble_eq_true rfl) ?_
    refine w_if_ne (n' := 19) (tgt := 26) dX5_odds_16 rfl rfl (fun h16 => ?_) (fun h16 => ?_)
    · obtain ⟨y, hy1, hy2⟩ := inR_of (N := 12) (by decide) h7
      refine w_iload_n (i := 2) (n' := 27) dX5_odds_26 rfl rfl rfl ?_
      refine w_if_ne (n' := 30) (tgt := 36) dX5_odds_27 rfl rfl (fun h27 => ?_) (fun h27 => ?_)
      · refine w_ldc2 (v := 5) (n' := 39) dX5_odds_36 rfl kRX5_225 ?_
        refine w_lstore_n (i := 3) (n' := 40) (ls' := [_, _, _, _, _, _, _, _]) dX5_odds_39 rfl rfl (Nat.le_of_ble_eq_true rfl) rfl rfl ?_
        refine w_lconst (v := 1) (n' := 41) dX5_odds_40 rfl rfl ?_
        refine w_lstore (n' := 43) (ls' := [_, _, _, _, _, _, _, _]) dX5_odds_41 rfl (Nat.le_of_ble_eq_true rfl) rfl rfl ?_
        refine w_iconst (v := 0) (n' := 44) dX5_odds_43 rfl rfl ?_
        refine w_istore (n' := 46) (ls' := [_, _, _, _, _, _, _, _]) dX5_odds_44 rfl (Nat.le_of_ble_eq_true rfl) rfl rfl ?_
        have L : ∀ (i : Nat) (v : Int64), i ≤ y → v = pwL 5 i → Wm mX5_odds (zM mX5_odds (fun r m' => ((inR a 0 12 = 0 ∨ inR b 0 1 = 0) ∧ r = some (.long (-1000001 : Int32).toInt64) ∧ m' = fnd mem 0) ∨ (¬ inR b 0 1 = 0 ∧ ∃ y, y ≤ 12 ∧ a = nI y ∧ r = some (.long (pwL (if b = 0 then 3 else 5) y)) ∧ m' = mem))) 46 [some (.ref 0), some (.int a), some (.int b), some (.long 5), none, some (.long v), none, some (.int (nI i))] [] mem := by
          refine for_ind y ?_
          intro i v hi h1 ih
          refine w_iload (n' := 48) dX5_odds_46 rfl rfl ?_
          refine w_iload_n (i := 1) (n' := 49) dX5_odds_48 rfl rfl rfl ?_
          refine w_icmp_ge (n' := 52) (tgt := 64) dX5_odds_49 rfl rfl (fun h49 => ?_) (fun h49 => ?_)
          · have hin : i = y := by
              rcases Nat.lt_or_ge i y with c | c
              · exact absurd h49 (by rw [hy2]; exact nI_ge (b := y) c (by omega))
              · omega
            subst hin
            refine w_lload (n' := 66) dX5_odds_64 rfl rfl ?_
            exact w_lret dX5_odds_66 rfl (Or.inr ⟨h16, i, hy1, hy2, by rw [h1, if_neg h27], rfl⟩)
          · have hlt : i < y := by
              rcases Nat.lt_or_ge i y with c | c
              · exact c
              · exact absurd (by rw [hy2]; exact nI_le (a := y) c (by omega)) h49
            refine w_lload (n' := 54) dX5_odds_52 rfl rfl ?_
            refine w_lload_n (i := 3) (n' := 55) dX5_odds_54 rfl rfl rfl ?_
            refine w_lmul (n' := 56) dX5_odds_55 rfl ?_
            refine w_lstore (n' := 58) (ls' := [_, _, _, _, _, _, _, _]) dX5_odds_56 rfl (Nat.le_of_ble_eq_true rfl) rfl rfl ?_
            refine w_iinc (n' := 61) (v := nI (i + 1)) (ls' := [_, _, _, _, _, _, _, _]) dX5_odds_58 rfl rfl (nI_1 i) (Nat.le_of_ble_eq_true rfl) rfl rfl ?_
            refine w_goto (tgt := 46) dX5_odds_61 rfl ?_
            exact ih hlt _ (by rw [h1]; rfl)
        exact L 0 1 (Nat.zero_le _) rfl
      · refine w_ldc2 (v := 3) (n' := 33) dX5_odds_30 rfl kRX5_223 ?_
        refine w_goto (tgt := 39) dX5_odds_33 rfl ?_
        refine w_lstore_n (i := 3) (n' := 40) (ls' := [_, _, _, _, _, _, _, _]) dX5_odds_39 rfl rfl (Nat.le_of_ble_eq_true rfl) rfl rfl ?_
        refine w_lconst (v := 1) (n' := 41) dX5_odds_40 rfl rfl ?_
        refine w_lstore (n' := 43) (ls' := [_, _, _, _, _, _, _, _]) dX5_odds_41 rfl (Nat.le_of_ble_eq_true rfl) rfl rfl ?_
        refine w_iconst (v := 0) (n' := 44) dX5_odds_43 rfl rfl ?_
        refine w_istore (n' := 46) (ls' := [_, _, _, _, _, _, _, _]) dX5_odds_44 rfl (Nat.le_of_ble_eq_true rfl) rfl rfl ?_
        have L : ∀ (i : Nat) (v : Int64), i ≤ y → v = pwL 3 i → Wm mX5_odds (zM mX5_odds (fun r m' => ((inR a 0 12 = 0 ∨ inR b 0 1 = 0) ∧ r = some (.long (-1000001 : Int32).toInt64) ∧ m' = fnd mem 0) ∨ (¬ inR b 0 1 = 0 ∧ ∃ y, y ≤ 12 ∧ a = nI y ∧ r = some (.long (pwL (if b = 0 then 3 else 5) y)) ∧ m' = mem))) 46 [some (.ref 0), some (.int a), some (.int b), some (.long 3), none, some (.long v), none, some (.int (nI i))] [] mem := by
          refine for_ind y ?_
          intro i v hi h1 ih
          refine w_iload (n' := 48) dX5_odds_46 rfl rfl ?_
          refine w_iload_n (i := 1) (n' := 49) dX5_odds_48 rfl rfl rfl ?_
          refine w_icmp_ge (n' := 52) (tgt := 64) dX5_odds_49 rfl rfl (fun h49 => ?_) (fun h49 => ?_)
          · have hin : i = y := by
              rcases Nat.lt_or_ge i y with c | c
              · exact absurd h49 (by rw [hy2]; exact nI_ge (b := y) c (by omega))
              · omega
            subst hin
            refine w_lload (n' := 66) dX5_odds_64 rfl rfl ?_
            exact w_lret dX5_odds_66 rfl (Or.inr ⟨h16, i, hy1, hy2, by rw [h1, if_pos (by simpa using h27)], rfl⟩)
          · have hlt : i < y := by
              rcases Nat.lt_or_ge i y with c | c
              · exact c
              · exact absurd (by rw [hy2]; exact nI_le (a := y) c (by omega)) h49
            refine w_lload (n' := 54) dX5_odds_52 rfl rfl ?_
            refine w_lload_n (i := 3) (n' := 55) dX5_odds_54 rfl rfl rfl ?_
            refine w_lmul (n' := 56) dX5_odds_55 rfl ?_
            refine w_lstore (n' := 58) (ls' := [_, _, _, _, _, _, _, _]) dX5_odds_56 rfl (Nat.le_of_ble_eq_true rfl) rfl rfl ?_
            refine w_iinc (n' := 61) (v := nI (i + 1)) (ls' := [_, _, _, _, _, _, _, _]) dX5_odds_58 rfl rfl (nI_1 i) (Nat.le_of_ble_eq_true rfl) rfl rfl ?_
            refine w_goto (tgt := 46) dX5_odds_61 rfl ?_
            exact ih hlt _ (by rw [h1]; rfl)
        exact L 0 1 (Nat.zero_le _) rfl
    · refine w_aload_n (i := 0) (n' := 20) dX5_odds_19 rfl rfl rfl ?_
      refine w_iconst (v := 0) (n' := 21) dX5_odds_20 rfl rfl ?_
      refine v_E (ci := 5) (n' := 24) dX5_odds_21 rfl lRX5_57 okX5_finding voX5_finding ⟨⟨Nat.le_of_ble_eq_true rfl, Nat.le_of_ble_eq_true rfl⟩, Nat.le_of_ble_eq_true rfl, Nat.le_of_ble_eq_true rfl⟩ (c_finding 0 _ (by decide) (by decide) _) rfl rfl (Nat.le_of_ble_eq_true rfl) rfl (Nat.le_of_ble_eq_true rfl) rfl ?_
      refine w_i2l (v := _) (n' := 25) dX5_odds_24 rfl rfl ?_
      exact w_lret dX5_odds_25 rfl (Or.inl ⟨Or.inr (by simpa using h16), rfl, rfl⟩)
def winC (a b : Int32) : Int32 := a - 1 - (a - 1) / (maxI 1 b + 1) * (maxI 1 b + 1)
theorem win_ne {b : Int32} (h : ¬ inR b 1 20 = 0) : ¬ maxI 1 b + 1 = 0 := by
  obtain ⟨y, h1, h2, rfl⟩ := inR_1 (K := 1) (N := 20) (by decide) (by decide) h
  have : maxI 1 (nI y) = nI y := by
    unfold maxI
    by_cases c : (1 : Int32) < nI y
    · rw [if_pos c]
    · rw [if_neg c]
      have : ¬ 1 < y := fun q => c (nI_lt (a := 1) q (by omega))
      rw [show y = 1 by omega]
      rfl
  rw [this, nI_1]
  exact nI_ne0 (by omega) (by omega)
theorem cut_c {a b : Int32} (h : ¬ (if inR a 1 200 = 0 then (0 : Int32) else if inR b 1 20 = 0 then 0 else 1) = 0) : ¬ inR a 1 200 = 0 ∧ ¬ inR b 1 20 = 0 := by
  refine ⟨fun q => h (by rw [if_pos q]), fun q => h ?_⟩
  by_cases c : inR a 1 200 = 0
  · rw [if_pos c]
  · rw [if_neg c, if_pos q]
theorem cut_d {a b : Int32} (h : (if inR a 1 200 = 0 then (0 : Int32) else if inR b 1 20 = 0 then 0 else 1) = 0) : inR a 1 200 = 0 ∨ inR b 1 20 = 0 := by
  by_cases c : inR a 1 200 = 0
  · exact Or.inl c
  · rw [if_neg c] at h
    by_cases d : inR b 1 20 = 0
    · exact Or.inr d
    · rw [if_neg d] at h
      exact absurd h (by decide)
set_option maxHeartbeats 4000000 in
theorem c5_wins (a b : Int32) (mem : Mem) : CnI mX5_wins [.ref 0, .int a, .int b] mem (fun x m' => ((inR a 1 200 = 0 ∨ inR b 1 20 = 0) ∧ x = -1000001 ∧ m' = fnd mem 0) ∨ (¬ inR a 1 200 = 0 ∧ ¬ inR b 1 20 = 0 ∧ x = (if winC a b ≤ 0 then 0 else 1) ∧ m' = mem)) := by
  refine Cn.of (ls := [some (.ref 0), some (.int a), some (.int b)]) (by decide) rfl (Nat.le_of_ble_eq_true rfl) ?_
  refine w_iload_n (i := 1) (n' := 1) dX5_wins_0 rfl rfl rfl ?_
  refine w_iload_n (i := 2) (n' := 2) dX5_wins_1 rfl rfl rfl ?_
  refine s_E (n' := 5) dX5_wins_2 rfl lRX5_195 okX5_isCutting stX5_isCutting ⟨⟨Nat.le_of_ble_eq_true rfl, Nat.le_of_ble_eq_true rfl⟩, Nat.le_of_ble_eq_true rfl, Nat.le_of_ble_eq_true rfl⟩ (c_isCutting _ _ _) rfl rfl (Nat.le_of_ble_eq_true rfl) ?_
  refine w_if_ne (n' := 8) (tgt := 14) dX5_wins_5 rfl rfl (fun h5 => ?_) (fun h5 => ?_)
  · have g := cut_c h5
    refine w_iload_n (i := 1) (n' := 15) dX5_wins_14 rfl rfl rfl ?_
    refine w_iload_n (i := 2) (n' := 16) dX5_wins_15 rfl rfl rfl ?_
    refine s_E (n' := 19) dX5_wins_16 rfl lRX5_198 okX5_winningCut stX5_winningCut ⟨⟨Nat.le_of_ble_eq_true rfl, Nat.le_of_ble_eq_true rfl⟩, Nat.le_of_ble_eq_true rfl, Nat.le_of_ble_eq_true rfl⟩ (c_winningCut _ _ (win_ne g.2) _) rfl rfl (Nat.le_of_ble_eq_true rfl) ?_
    refine w_if_le (n' := 22) (tgt := 26) dX5_wins_19 rfl rfl (fun h19 => ?_) (fun h19 => ?_)
    · refine w_iconst (v := 0) (n' := 27) dX5_wins_26 rfl rfl ?_
      exact w_iret dX5_wins_27 rfl ⟨_, rfl, Or.inr ⟨g.1, g.2, by rw [winC, if_pos h19], rfl⟩⟩
    · refine w_iconst (v := 1) (n' := 23) dX5_wins_22 rfl rfl ?_
      refine w_goto (tgt := 27) dX5_wins_23 rfl ?_
      exact w_iret dX5_wins_27 rfl ⟨_, rfl, Or.inr ⟨g.1, g.2, by rw [winC, if_neg h19], rfl⟩⟩
  · refine w_aload_n (i := 0) (n' := 9) dX5_wins_8 rfl rfl rfl ?_
    refine w_iconst (v := 0) (n' := 10) dX5_wins_9 rfl rfl ?_
    refine v_E (ci := 5) (n' := 13) dX5_wins_10 rfl lRX5_57 okX5_finding voX5_finding ⟨⟨Nat.le_of_ble_eq_true rfl, Nat.le_of_ble_eq_true rfl⟩, Nat.le_of_ble_eq_true rfl, Nat.le_of_ble_eq_true rfl⟩ (c_finding 0 _ (by decide) (by decide) _) rfl rfl (Nat.le_of_ble_eq_true rfl) rfl (Nat.le_of_ble_eq_true rfl) rfl ?_
    exact w_iret dX5_wins_13 rfl ⟨_, rfl, Or.inl ⟨cut_d (by simpa using h5), rfl, rfl⟩⟩
set_option maxHeartbeats 4000000 in
theorem c5_cut (a b : Int32) (mem : Mem) : CnI mX5_cut [.ref 0, .int a, .int b] mem (fun x m' => ((inR a 1 200 = 0 ∨ inR b 1 20 = 0) ∧ x = -1000001 ∧ m' = fnd mem 0) ∨ (¬ inR a 1 200 = 0 ∧ ¬ inR b 1 20 = 0 ∧ ((winC a b ≤ 0 ∧ x = -1000004 ∧ m' = fnd mem 3) ∨ (¬ winC a b ≤ 0 ∧ x = winC a b ∧ m' = mem)))) := by
  refine Cn.of (ls := [some (.ref 0), some (.int a), some (.int b), none]) (by decide) rfl (Nat.le_of_ble_eq_true rfl) ?_
  refine w_iload_n (i := 1) (n' := 1) dX5_cut_0 rfl rfl rfl ?_
  refine w_iload_n (i := 2) (n' := 2) dX5_cut_1 rfl rfl rfl ?_
  refine s_E (n' := 5) dX5_cut_2 rfl lRX5_195 okX5_isCutting stX5_isCutting ⟨⟨Nat.le_of_ble_eq_true rfl, Nat.le_of_ble_eq_true rfl⟩, Nat.le_of_ble_eq_true rfl, Nat.le_of_ble_eq_true rfl⟩ (c_isCutting _ _ _) rfl rfl (Nat.le_of_ble_eq_true rfl) ?_
  refine w_if_ne (n' := 8) (tgt := 14) dX5_cut_5 rfl rfl (fun h5 => ?_) (fun h5 => ?_)
  · have g := cut_c h5
    refine w_iload_n (i := 1) (n' := 15) dX5_cut_14 rfl rfl rfl ?_
    refine w_iload_n (i := 2) (n' := 16) dX5_cut_15 rfl rfl rfl ?_
    refine s_E (n' := 19) dX5_cut_16 rfl lRX5_198 okX5_winningCut stX5_winningCut ⟨⟨Nat.le_of_ble_eq_true rfl, Nat.le_of_ble_eq_true rfl⟩, Nat.le_of_ble_eq_true rfl, Nat.le_of_ble_eq_true rfl⟩ (c_winningCut _ _ (win_ne g.2) _) rfl rfl (Nat.le_of_ble_eq_true rfl) ?_
    refine w_istore_n (i := 3) (n' := 20) (ls' := [_, _, _, _]) dX5_cut_19 rfl rfl (Nat.le_of_ble_eq_true rfl) rfl rfl ?_
    refine w_iload_n (i := 3) (n' := 21) dX5_cut_20 rfl rfl rfl ?_
    refine w_if_le (n' := 24) (tgt := 28) dX5_cut_21 rfl rfl (fun h21 => ?_) (fun h21 => ?_)
    · refine w_aload_n (i := 0) (n' := 29) dX5_cut_28 rfl rfl rfl ?_
      refine w_iconst (v := 3) (n' := 30) dX5_cut_29 rfl rfl ?_
      refine v_E (ci := 5) (n' := 33) dX5_cut_30 rfl lRX5_57 okX5_finding voX5_finding ⟨⟨Nat.le_of_ble_eq_true rfl, Nat.le_of_ble_eq_true rfl⟩, Nat.le_of_ble_eq_true rfl, Nat.le_of_ble_eq_true rfl⟩ (c_finding 3 _ (by decide) (by decide) _) rfl rfl (Nat.le_of_ble_eq_true rfl) rfl (Nat.le_of_ble_eq_true rfl) rfl ?_
      exact w_iret dX5_cut_33 rfl ⟨_, rfl, Or.inr ⟨g.1, g.2, Or.inl ⟨h21, rfl, rfl⟩⟩⟩
    · refine w_iload_n (i := 3) (n' := 25) dX5_cut_24 rfl rfl rfl ?_
      refine w_goto (tgt := 33) dX5_cut_25 rfl ?_
      exact w_iret dX5_cut_33 rfl ⟨_, rfl, Or.inr ⟨g.1, g.2, Or.inr ⟨h21, rfl, rfl⟩⟩⟩
  · refine w_aload_n (i := 0) (n' := 9) dX5_cut_8 rfl rfl rfl ?_
    refine w_iconst (v := 0) (n' := 10) dX5_cut_9 rfl rfl ?_
    refine v_E (ci := 5) (n' := 13) dX5_cut_10 rfl lRX5_57 okX5_finding voX5_finding ⟨⟨Nat.le_of_ble_eq_true rfl, Nat.le_of_ble_eq_true rfl⟩, Nat.le_of_ble_eq_true rfl, Nat.le_of_ble_eq_true rfl⟩ (c_finding 0 _ (by decide) (by decide) _) rfl rfl (Nat.le_of_ble_eq_true rfl) rfl (Nat.le_of_ble_eq_true rfl) rfl ?_
    exact w_iret dX5_cut_13 rfl ⟨_, rfl, Or.inl ⟨cut_d (by simpa using h5), rfl, rfl⟩⟩
def cntC (m : Mem) (n : Nat) (a : Int32) : Int32 := if a = 0 then m 1 4 else if a = 1 then m 1 3 else if a = 2 then bcI (lbS (DP m 1) 1000000 n).1 else if a = 3 then sumT (fun i => toldF (m (4 + i)) 2) n else if a = 4 then sumT (fun i => toldF (m (4 + i)) 3) n else if a = 5 then m 37 1 else if a = 6 then m 1 5 else cntT (fun i => decide (¬ m 12 i = -1)) 10
set_option maxHeartbeats 4000000 in
theorem c5_count {n : Nat} {mem : Mem} (h : PO mem 1 n) (a : Int32) : CnI mX5_count [.ref 0, .int a] mem (fun x m' => ((¬ a = 0 ∧ ¬ a = 1 ∧ ¬ a = 2 ∧ ¬ a = 3 ∧ ¬ a = 4 ∧ ¬ a = 5 ∧ ¬ a = 6 ∧ ¬ a = 7) ∧ x = -1000001 ∧ m' = fnd mem 0) ∨ ((a = 0 ∨ a = 1 ∨ a = 2 ∨ a = 3 ∨ a = 4 ∨ a = 5 ∨ a = 6 ∨ a = 7) ∧ x = cntC mem n a ∧ Same mem m')) := by
  refine Cn.of (ls := [some (.ref 0), some (.int a)]) (by decide) rfl (Nat.le_of_ble_eq_true rfl) ?_
  refine w_iload_n (i := 1) (n' := 1) dX5_count_0 rfl rfl rfl ?_
  refine w_tc (0) (tgt := 48) dX5_count_1 (by decide) (by decide) rfl rfl (fun e1_0 => ?_) (fun e1_0 => ?_)
  · refine w_aload_n (i := 0) (n' := 49) dX5_count_48 rfl rfl rfl ?_
    refine w_get (ci := 5) (j := 0) (n' := 52) dX5_count_49 rfl fRX5_10 (Nat.le_of_ble_eq_true rfl) (Nat.le_of_ble_eq_true rfl) rfl rfl ?_
    refine w_get (ci := 1) (j := 4) (n' := 55) dX5_count_52 rfl fRX5_131 (Nat.le_of_ble_eq_true rfl) (Nat.le_of_ble_eq_true rfl) rfl rfl ?_
    exact w_iret dX5_count_55 rfl ⟨_, rfl, Or.inr ⟨by simp [e1_0], by simp [cntC, e1_0], Same.rf h.2.2.2.2⟩⟩
  refine w_tc (1) (tgt := 56) dX5_count_1 (by decide) (by decide) rfl rfl (fun e1_1 => ?_) (fun e1_1 => ?_)
  · refine w_aload_n (i := 0) (n' := 57) dX5_count_56 rfl rfl rfl ?_
    refine w_get (ci := 5) (j := 0) (n' := 60) dX5_count_57 rfl fRX5_10 (Nat.le_of_ble_eq_true rfl) (Nat.le_of_ble_eq_true rfl) rfl rfl ?_
    refine w_get (ci := 1) (j := 3) (n' := 63) dX5_count_60 rfl fRX5_172 (Nat.le_of_ble_eq_true rfl) (Nat.le_of_ble_eq_true rfl) rfl rfl ?_
    exact w_iret dX5_count_63 rfl ⟨_, rfl, Or.inr ⟨by simp [e1_1], by simp [cntC, e1_0, e1_1], Same.rf h.2.2.2.2⟩⟩
  refine w_tc (2) (tgt := 64) dX5_count_1 (by decide) (by decide) rfl rfl (fun e1_2 => ?_) (fun e1_2 => ?_)
  · refine w_aload_n (i := 0) (n' := 65) dX5_count_64 rfl rfl rfl ?_
    refine w_get (ci := 5) (j := 0) (n' := 68) dX5_count_65 rfl fRX5_10 (Nat.le_of_ble_eq_true rfl) (Nat.le_of_ble_eq_true rfl) rfl rfl ?_
    refine v_I (ci := 1) (n' := 71) dX5_count_68 rfl lRX5_110 okX1_latest voX1_latest ⟨⟨Nat.le_of_ble_eq_true rfl, Nat.le_of_ble_eq_true rfl⟩, Nat.le_of_ble_eq_true rfl, Nat.le_of_ble_eq_true rfl⟩ (c_latest h) rfl rfl (Nat.le_of_ble_eq_true rfl) rfl (Nat.le_of_ble_eq_true rfl) rfl (fun x68 m68 q68 => ?_)
    refine s_E (n' := 74) dX5_count_71 rfl lRX5_158 okJ6_bitCount_0f7a4 stJ6_bitCount_0f7a4 ⟨⟨Nat.le_of_ble_eq_true rfl, Nat.le_of_ble_eq_true rfl⟩, Nat.le_of_ble_eq_true rfl, Nat.le_of_ble_eq_true rfl⟩ (c_bitCount _ _) rfl rfl (Nat.le_of_ble_eq_true rfl) ?_
    exact w_iret dX5_count_74 rfl ⟨_, rfl, Or.inr ⟨by simp [e1_2], by simp [cntC, e1_0, e1_1, e1_2, q68.1], q68.2⟩⟩
  refine w_tc (3) (tgt := 75) dX5_count_1 (by decide) (by decide) rfl rfl (fun e1_3 => ?_) (fun e1_3 => ?_)
  · refine w_aload_n (i := 0) (n' := 76) dX5_count_75 rfl rfl rfl ?_
    refine w_get (ci := 5) (j := 0) (n' := 79) dX5_count_76 rfl fRX5_10 (Nat.le_of_ble_eq_true rfl) (Nat.le_of_ble_eq_true rfl) rfl rfl ?_
    refine w_iconst (v := 2) (n' := 80) dX5_count_79 rfl rfl ?_
    refine v_E (ci := 1) (n' := 83) dX5_count_80 rfl lRX5_138 okX1_together voX1_together ⟨⟨Nat.le_of_ble_eq_true rfl, Nat.le_of_ble_eq_true rfl⟩, Nat.le_of_ble_eq_true rfl, Nat.le_of_ble_eq_true rfl⟩ (c_together h.N _) rfl rfl (Nat.le_of_ble_eq_true rfl) rfl (Nat.le_of_ble_eq_true rfl) rfl ?_
    exact w_iret dX5_count_83 rfl ⟨_, rfl, Or.inr ⟨by simp [e1_3], by simp [cntC, e1_0, e1_1, e1_2, e1_3], Same.rf h.2.2.2.2⟩⟩
  refine w_tc (4) (tgt := 84) dX5_count_1 (by decide) (by decide) rfl rfl (fun e1_4 => ?_) (fun e1_4 => ?_)
  · refine w_aload_n (i := 0) (n' := 85) dX5_count_84 rfl rfl rfl ?_
    refine w_get (ci := 5) (j := 0) (n' := 88) dX5_count_85 rfl fRX5_10 (Nat.le_of_ble_eq_true rfl) (Nat.le_of_ble_eq_true rfl) rfl rfl ?_
    refine w_iconst (v := 3) (n' := 89) dX5_count_88 rfl rfl ?_
    refine v_E (ci := 1) (n' := 92) dX5_count_89 rfl lRX5_138 okX1_together voX1_together ⟨⟨Nat.le_of_ble_eq_true rfl, Nat.le_of_ble_eq_true rfl⟩, Nat.le_of_ble_eq_true rfl, Nat.le_of_ble_eq_true rfl⟩ (c_together h.N _) rfl rfl (Nat.le_of_ble_eq_true rfl) rfl (Nat.le_of_ble_eq_true rfl) rfl ?_
    exact w_iret dX5_count_92 rfl ⟨_, rfl, Or.inr ⟨by simp [e1_4], by simp [cntC, e1_0, e1_1, e1_2, e1_3, e1_4], Same.rf h.2.2.2.2⟩⟩
  refine w_tc (5) (tgt := 93) dX5_count_1 (by decide) (by decide) rfl rfl (fun e1_5 => ?_) (fun e1_5 => ?_)
  · refine w_aload_n (i := 0) (n' := 94) dX5_count_93 rfl rfl rfl ?_
    refine w_get (ci := 5) (j := 3) (n' := 97) dX5_count_94 rfl fRX5_25 (Nat.le_of_ble_eq_true rfl) (Nat.le_of_ble_eq_true rfl) rfl rfl ?_
    refine w_get (ci := 3) (j := 1) (n' := 100) dX5_count_97 rfl fRX5_230 (Nat.le_of_ble_eq_true rfl) (Nat.le_of_ble_eq_true rfl) rfl rfl ?_
    exact w_iret dX5_count_100 rfl ⟨_, rfl, Or.inr ⟨by simp [e1_5], by simp [cntC, e1_0, e1_1, e1_2, e1_3, e1_4, e1_5], Same.rf h.2.2.2.2⟩⟩
  refine w_tc (6) (tgt := 101) dX5_count_1 (by decide) (by decide) rfl rfl (fun e1_6 => ?_) (fun e1_6 => ?_)
  · refine w_aload_n (i := 0) (n' := 102) dX5_count_101 rfl rfl rfl ?_
    refine w_get (ci := 5) (j := 0) (n' := 105) dX5_count_102 rfl fRX5_10 (Nat.le_of_ble_eq_true rfl) (Nat.le_of_ble_eq_true rfl) rfl rfl ?_
    refine w_get (ci := 1) (j := 5) (n' := 108) dX5_count_105 rfl fRX5_227 (Nat.le_of_ble_eq_true rfl) (Nat.le_of_ble_eq_true rfl) rfl rfl ?_
    exact w_iret dX5_count_108 rfl ⟨_, rfl, Or.inr ⟨by simp [e1_6], by simp [cntC, e1_0, e1_1, e1_2, e1_3, e1_4, e1_5, e1_6], Same.rf h.2.2.2.2⟩⟩
  refine w_tc (7) (tgt := 109) dX5_count_1 (by decide) (by decide) rfl rfl (fun e1_7 => ?_) (fun e1_7 => ?_)
  · refine w_aload_n (i := 0) (n' := 110) dX5_count_109 rfl rfl rfl ?_
    refine w_get (ci := 5) (j := 0) (n' := 113) dX5_count_110 rfl fRX5_10 (Nat.le_of_ble_eq_true rfl) (Nat.le_of_ble_eq_true rfl) rfl rfl ?_
    refine v_E (ci := 1) (n' := 116) dX5_count_113 rfl lRX5_273 okX1_spotsHeld voX1_spotsHeld ⟨⟨Nat.le_of_ble_eq_true rfl, Nat.le_of_ble_eq_true rfl⟩, Nat.le_of_ble_eq_true rfl, Nat.le_of_ble_eq_true rfl⟩ (c_spotsHeld rfl) rfl rfl (Nat.le_of_ble_eq_true rfl) rfl (Nat.le_of_ble_eq_true rfl) rfl ?_
    exact w_iret dX5_count_116 rfl ⟨_, rfl, Or.inr ⟨by simp [e1_7], by rw [cntC, if_neg e1_0, if_neg e1_1, if_neg e1_2, if_neg e1_3, if_neg e1_4, if_neg e1_5, if_neg e1_6], Same.rf h.2.2.2.2⟩⟩
  refine w_td [0, 1, 2, 3, 4, 5, 6, 7] (tgt := 117) dX5_count_1 rfl (by decide) (List.forall_mem_cons.mpr ⟨e1_0, (List.forall_mem_cons.mpr ⟨e1_1, (List.forall_mem_cons.mpr ⟨e1_2, (List.forall_mem_cons.mpr ⟨e1_3, (List.forall_mem_cons.mpr ⟨e1_4, (List.forall_mem_cons.mpr ⟨e1_5, (List.forall_mem_cons.mpr ⟨e1_6, (List.forall_mem_cons.mpr ⟨e1_7, (fun _ h => absurd h List.not_mem_nil)⟩)⟩)⟩)⟩)⟩)⟩)⟩)⟩) ?_
  refine w_aload_n (i := 0) (n' := 118) dX5_count_117 rfl rfl rfl ?_
  refine w_iconst (v := 0) (n' := 119) dX5_count_118 rfl rfl ?_
  refine v_E (ci := 5) (n' := 122) dX5_count_119 rfl lRX5_57 okX5_finding voX5_finding ⟨⟨Nat.le_of_ble_eq_true rfl, Nat.le_of_ble_eq_true rfl⟩, Nat.le_of_ble_eq_true rfl, Nat.le_of_ble_eq_true rfl⟩ (c_finding 0 _ (by decide) (by decide) _) rfl rfl (Nat.le_of_ble_eq_true rfl) rfl (Nat.le_of_ble_eq_true rfl) rfl ?_
  exact w_iret dX5_count_122 rfl ⟨_, rfl, Or.inl ⟨⟨e1_0, e1_1, e1_2, e1_3, e1_4, e1_5, e1_6, e1_7⟩, rfl, rfl⟩⟩
set_option maxHeartbeats 4000000 in
theorem c5_status (a : Int32) (mem : Mem) : CnI mX5_status [.ref 0, .int a] mem (fun x m' => (inR a (-1) 6 = 0 ∧ x = -1000001 ∧ m' = fnd mem 0) ∨ (¬ inR a (-1) 6 = 0 ∧ m' = mem ∧ ((a = -1 ∧ x = sumT (mem 49) 7) ∨ (∃ i, i < 7 ∧ a = nI i ∧ x = mem 49 i)))) := by
  refine Cn.of (ls := [some (.ref 0), some (.int a), none, none]) (by decide) rfl (Nat.le_of_ble_eq_true rfl) ?_
  refine w_iload_n (i := 1) (n' := 1) dX5_status_0 rfl rfl rfl ?_
  refine w_iconst (v := -1) (n' := 2) dX5_status_1 rfl rfl ?_
  refine w_bipush (v := 6) (n' := 4) dX5_status_2 rfl (by decide) ?_
  refine s_E (n' := 7) dX5_status_4 rfl lRX5_53 okX5_within stX5_within ⟨⟨Nat.le_of_ble_eq_true rfl, Nat.le_of_ble_eq_true rfl⟩, Nat.le_of_ble_eq_true rfl, Nat.le_of_ble_eq_true rfl⟩ (c_within _ _ _ _) rfl rfl (Nat.le_of_ble_eq_true rfl) ?_
  refine w_if_ne (n' := 10) (tgt := 16) dX5_status_7 rfl rfl (fun h7 => ?_) (fun h7 => ?_)
  · refine w_iload_n (i := 1) (n' := 17) dX5_status_16 rfl rfl rfl ?_
    refine w_if_lt (n' := 20) (tgt := 27) dX5_status_17 rfl rfl (fun h17 => ?_) (fun h17 => ?_)
    · have ea : a = -1 := by
        have h1 := (inR_iff (x := a)).mp ((inR_01 a (-1) 6).resolve_left h7)
        rw [Int32.lt_iff_toInt_lt] at h17
        have e0 : (0 : Int32).toInt = 0 := by decide
        have e1 : (-1 : Int32).toInt = -1 := by decide
        exact Int32.toInt_inj.mp (by omega)
      refine w_iconst (v := 0) (n' := 28) dX5_status_27 rfl rfl ?_
      refine w_istore_n (i := 2) (n' := 29) (ls' := [_, _, _, _]) dX5_status_28 rfl rfl (Nat.le_of_ble_eq_true rfl) rfl rfl ?_
      refine w_iconst (v := 0) (n' := 30) dX5_status_29 rfl rfl ?_
      refine w_istore_n (i := 3) (n' := 31) (ls' := [_, _, _, _]) dX5_status_30 rfl rfl (Nat.le_of_ble_eq_true rfl) rfl rfl ?_
      have L : ∀ (i : Nat) (v : Int32), i ≤ 7 → v = sumT (mem 49) i → Wm mX5_status (zM mX5_status (fun r m' => ∃ x, r = some (.int x) ∧ (fun x m' => (inR a (-1) 6 = 0 ∧ x = -1000001 ∧ m' = fnd mem 0) ∨ (¬ inR a (-1) 6 = 0 ∧ m' = mem ∧ ((a = -1 ∧ x = sumT (mem 49) 7) ∨ (∃ i, i < 7 ∧ a = nI i ∧ x = mem 49 i)))) x m')) 31 [some (.ref 0), some (.int a), some (.int v), some (.int (nI i))] [] mem := by
        refine for_ind 7 ?_
        intro i v hi h1 ih
        refine w_iload_n (i := 3) (n' := 32) dX5_status_31 rfl rfl rfl ?_
        refine w_bipush (v := 7) (n' := 34) dX5_status_32 rfl (by decide) ?_
        refine w_icmp_ge (n' := 37) (tgt := 52) dX5_status_34 rfl rfl (fun h34 => ?_) (fun h34 => ?_)
        · have hin : i = 7 := by
            rcases Nat.lt_or_ge i 7 with c | c
            · exact absurd h34 (by exact nI_ge (b := 7) c (by omega))
            · omega
          subst hin
          refine w_iload_n (i := 2) (n' := 53) dX5_status_52 rfl rfl rfl ?_
          exact w_iret dX5_status_53 rfl ⟨_, rfl, Or.inr ⟨h7, rfl, Or.inl ⟨ea, h1⟩⟩⟩
        · have hlt : i < 7 := by
            rcases Nat.lt_or_ge i 7 with c | c
            · exact c
            · exact absurd (by exact nI_le (a := 7) c (by omega)) h34
          refine w_iload_n (i := 2) (n' := 38) dX5_status_37 rfl rfl rfl ?_
          refine w_aload_n (i := 0) (n' := 39) dX5_status_38 rfl rfl rfl ?_
          refine w_get (ci := 5) (j := 6) (n' := 42) dX5_status_39 rfl fRX5_45 (Nat.le_of_ble_eq_true rfl) (Nat.le_of_ble_eq_true rfl) rfl rfl ?_
          refine w_iload_n (i := 3) (n' := 43) dX5_status_42 rfl rfl rfl ?_
          refine w_iald (n := i) (n' := 44) dX5_status_43 rfl rfl rfl (show i < 7 by omega) ?_
          refine w_iadd (n' := 45) dX5_status_44 rfl ?_
          refine w_istore_n (i := 2) (n' := 46) (ls' := [_, _, _, _]) dX5_status_45 rfl rfl (Nat.le_of_ble_eq_true rfl) rfl rfl ?_
          refine w_iinc (n' := 49) (v := nI (i + 1)) (ls' := [_, _, _, _]) dX5_status_46 rfl rfl (nI_1 i) (Nat.le_of_ble_eq_true rfl) rfl rfl ?_
          refine w_goto (tgt := 31) dX5_status_49 rfl ?_
          exact ih hlt _ (by rw [h1]; rfl)
      exact L 0 0 (Nat.zero_le _) rfl
    · obtain ⟨i, hi1, hi2⟩ : ∃ i, i ≤ 6 ∧ a = nI i := by
        have h1 := (inR_iff (x := a)).mp ((inR_01 a (-1) 6).resolve_left h7)
        obtain ⟨i, hi1, hi2⟩ := nI_of h17
        rw [hi2, nI_toInt hi1] at h1
        have e6 : (6 : Int32).toInt = 6 := by decide
        exact ⟨i, by omega, hi2⟩
      refine w_aload_n (i := 0) (n' := 21) dX5_status_20 rfl rfl rfl ?_
      refine w_get (ci := 5) (j := 6) (n' := 24) dX5_status_21 rfl fRX5_45 (Nat.le_of_ble_eq_true rfl) (Nat.le_of_ble_eq_true rfl) rfl rfl ?_
      refine w_iload_n (i := 1) (n' := 25) dX5_status_24 rfl rfl rfl ?_
      refine w_iald (n := i) (n' := 26) dX5_status_25 rfl rfl hi2 (show i < 7 by omega) ?_
      exact w_iret dX5_status_26 rfl ⟨_, rfl, Or.inr ⟨h7, rfl, Or.inr ⟨i, by omega, hi2, rfl⟩⟩⟩
  · refine w_aload_n (i := 0) (n' := 11) dX5_status_10 rfl rfl rfl ?_
    refine w_iconst (v := 0) (n' := 12) dX5_status_11 rfl rfl ?_
    refine v_E (ci := 5) (n' := 15) dX5_status_12 rfl lRX5_57 okX5_finding voX5_finding ⟨⟨Nat.le_of_ble_eq_true rfl, Nat.le_of_ble_eq_true rfl⟩, Nat.le_of_ble_eq_true rfl, Nat.le_of_ble_eq_true rfl⟩ (c_finding 0 _ (by decide) (by decide) _) rfl rfl (Nat.le_of_ble_eq_true rfl) rfl (Nat.le_of_ble_eq_true rfl) rfl ?_
    exact w_iret dX5_status_15 rfl ⟨_, rfl, Or.inl ⟨by simpa using h7, rfl, rfl⟩⟩
