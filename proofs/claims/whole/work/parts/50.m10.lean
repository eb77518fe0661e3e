/-! the reference: sheets, images, counts -/
theorem four_le (s : Int32) : 4 ≤ s ↔ 3 < s := by
  rw [Int32.le_iff_toInt_le, Int32.lt_iff_toInt_lt]
  have e1 : (4 : Int32).toInt = 4 := by decide
  have e2 : (3 : Int32).toInt = 3 := by decide
  omega
set_option maxHeartbeats 4000000 in
theorem c6_isSheet (s : Int32) (mem : Mem) : CnE mX6_isSheet [.int s] mem (some (.int (inR s 0 3))) mem := by
  refine Cn.of (ls := [some (.int s)]) (by decide) rfl (Nat.le_of_ble_eq_true rfl) ?_
  refine w_iload_n (i := 0) (n' := 1) dX6_isSheet_0 rfl rfl rfl ?_
  refine w_if_lt (n' := 4) (tgt := 13) dX6_isSheet_1 rfl rfl (fun h1 => ?_) (fun h1 => ?_)
  · refine w_iconst (v := 0) (n' := 14) dX6_isSheet_13 rfl rfl ?_
    exact w_zret dX6_isSheet_14 rfl rfl ⟨by rw [inR, if_pos h1], rfl⟩
  · refine w_iload_n (i := 0) (n' := 5) dX6_isSheet_4 rfl rfl rfl ?_
    refine w_iconst (v := 4) (n' := 6) dX6_isSheet_5 rfl rfl ?_
    refine w_icmp_ge (n' := 9) (tgt := 13) dX6_isSheet_6 rfl rfl (fun h6 => ?_) (fun h6 => ?_)
    · refine w_iconst (v := 0) (n' := 14) dX6_isSheet_13 rfl rfl ?_
      exact w_zret dX6_isSheet_14 rfl rfl ⟨by rw [inR, if_neg h1, if_pos ((four_le s).mp h6)], rfl⟩
    · refine w_iconst (v := 1) (n' := 10) dX6_isSheet_9 rfl rfl ?_
      refine w_goto (tgt := 14) dX6_isSheet_10 rfl ?_
      exact w_zret dX6_isSheet_14 rfl rfl ⟨by rw [inR, if_neg h1, if_neg (fun q => h6 ((four_le s).mpr q))], rfl⟩
def wantM (m : Mem) (s : Int32) : Int32 := if inR s 0 3 = 0 then -1000001 else if 0 ≤ m 57 s.toNatClampNeg then 0 else -1000006
def wantW (s : Int32) : Nat := if inR s 0 3 = 0 then 0 else 5
theorem c6_findsW {s : Int32} (mem : Mem) (h : ¬ wantM mem s = 0) : CnE mX6_finds [.ref 50, .int (wantM mem s)] mem (some (.int (wantM mem s))) (fndM mem (wantW s)) := by
  refine c6_finds (wantW s) _ ?_ ?_ _
  · unfold wantM wantW at *
    by_cases c : inR s 0 3 = 0
    · rw [if_pos c, if_pos c]; decide
    · rw [if_neg c, if_neg c] at *
      by_cases d : 0 ≤ mem 57 s.toNatClampNeg
      · rw [if_pos d] at h; exact absurd rfl h
      · rw [if_neg d]; decide
  · unfold wantW
    split <;> decide
theorem want_0 {m : Mem} {s : Int32} (h : wantM m s = 0) : ∃ q, q < 4 ∧ s = nI q ∧ ¬ inR s 0 3 = 0 ∧ 0 ≤ m 57 q := by
  unfold wantM at h
  by_cases c : inR s 0 3 = 0
  · rw [if_pos c] at h; exact absurd h (by decide)
  · rw [if_neg c] at h
    obtain ⟨q, h1, h2⟩ := inR_of (N := 3) (by decide) c
    refine ⟨q, by omega, h2, c, ?_⟩
    by_cases d : 0 ≤ m 57 s.toNatClampNeg
    · rw [h2, nI_clamp (by omega)] at d; exact d
    · rw [if_neg d] at h; exact absurd h (by decide)
theorem want_n {m : Mem} {s : Int32} (h : ¬ wantM m s = 0) : (inR s 0 3 = 0 ∧ wantM m s = -1000001 ∧ wantW s = 0) ∨ (∃ q, q < 4 ∧ s = nI q ∧ ¬ inR s 0 3 = 0 ∧ ¬ 0 ≤ m 57 q ∧ wantM m s = -1000006 ∧ wantW s = 5) := by
  unfold wantM wantW at *
  by_cases c : inR s 0 3 = 0
  · exact Or.inl ⟨c, by rw [if_pos c], by rw [if_pos c]⟩
  · rw [if_neg c] at *
    obtain ⟨q, h1, h2⟩ := inR_of (N := 3) (by decide) c
    refine Or.inr ⟨q, by omega, h2, c, ?_⟩
    have e : s.toNatClampNeg = q := by rw [h2, nI_clamp (by omega)]
    rw [e] at h ⊢
    by_cases d : 0 ≤ m 57 q
    · rw [if_pos d] at h; exact absurd rfl h
    · exact ⟨d, by rw [if_neg d], by rw [if_neg c]⟩
set_option maxHeartbeats 4000000 in
theorem c6_wants (s : Int32) (mem : Mem) : CnE mX6_wants [.ref 50, .int s] mem (some (.int (wantM mem s))) mem := by
  refine Cn.of (ls := [some (.ref 50), some (.int s)]) (by decide) rfl (Nat.le_of_ble_eq_true rfl) ?_
  refine w_iload_n (i := 1) (n' := 1) dX6_wants_0 rfl rfl rfl ?_
  refine s_E (n' := 4) dX6_wants_1 rfl lRX6_292 okX6_isSheet stX6_isSheet ⟨⟨Nat.le_of_ble_eq_true rfl, Nat.le_of_ble_eq_true rfl⟩, Nat.le_of_ble_eq_true rfl, Nat.le_of_ble_eq_true rfl⟩ (c6_isSheet _ _) rfl rfl (Nat.le_of_ble_eq_true rfl) ?_
  refine w_if_ne (n' := 7) (tgt := 12) dX6_wants_4 rfl rfl (fun h4 => ?_) (fun h4 => ?_)
  · obtain ⟨q, hq1, hq2⟩ := inR_of (N := 3) (by decide) h4
    have ec : s.toNatClampNeg = q := by rw [hq2, nI_clamp (by omega)]
    refine w_aload_n (i := 0) (n' := 13) dX6_wants_12 rfl rfl rfl ?_
    refine w_get (ci := 6) (j := 8) (n' := 16) dX6_wants_13 rfl fRX6_28 (Nat.le_of_ble_eq_true rfl) (Nat.le_of_ble_eq_true rfl) rfl rfl ?_
    refine w_iload_n (i := 1) (n' := 17) dX6_wants_16 rfl rfl rfl ?_
    refine w_iald (n := q) (n' := 18) dX6_wants_17 rfl rfl hq2 (show q < 4 by omega) ?_
    refine w_if_ge (n' := 21) (tgt := 27) dX6_wants_18 rfl rfl (fun h18 => ?_) (fun h18 => ?_)
    · refine w_iconst (v := 0) (n' := 28) dX6_wants_27 rfl rfl ?_
      exact w_iret dX6_wants_28 rfl ⟨by rw [wantM, if_neg h4, ec, if_pos h18], rfl⟩
    · refine w_ldcw (v := -1000006) (n' := 24) dX6_wants_21 rfl kRX6_287 ?_
      refine w_goto (tgt := 28) dX6_wants_24 rfl ?_
      exact w_iret dX6_wants_28 rfl ⟨by rw [wantM, if_neg h4, ec, if_neg h18], rfl⟩
  · refine w_ldc (v := -1000001) (n' := 9) dX6_wants_7 rfl kRX6_43 ?_
    refine w_goto (tgt := 28) dX6_wants_9 rfl ?_
    exact w_iret dX6_wants_28 rfl ⟨by rw [wantM, if_pos h4], rfl⟩
def shM (m : Mem) (q : Nat) (b n : Int32) (k : Nat) : Mem := upR (up2 (up2 m 57 q (if b = 0 then -1 else b)) 58 q (if b = 0 then 0 else n)) 59 (fun j => if 40 * q ≤ j ∧ j < 40 * q + k then 0 else m 59 j)
theorem sh_0 (m : Mem) (q : Nat) (b n : Int32) : up2 (up2 m 57 q (if b = 0 then -1 else b)) 58 q (if b = 0 then 0 else n) = shM m q b n 0 := by
  unfold shM
  funext a
  by_cases h : a = 59
  · subst h
    rw [upR_same, up2_ne _ _ _ (by decide), up2_ne _ _ _ (by decide)]
    funext j
    rw [if_neg (by omega)]
  · rw [upR_ne _ _ h]
theorem sh_s (m : Mem) (q : Nat) (b n : Int32) (k : Nat) : up2 (shM m q b n k) 59 (40 * q + k) 0 = shM m q b n (k + 1) := by
  funext a
  by_cases h : a = 59
  · subst h
    rw [up2_same]
    unfold shM
    rw [upR_same, upR_same]
    funext j
    by_cases c : j = 40 * q + k
    · subst c
      simp only [upd, if_true]
      rw [if_pos (by omega)]
    · simp only [upd, if_neg c]
      by_cases d : 40 * q ≤ j ∧ j < 40 * q + k
      · rw [if_pos d, if_pos (by omega)]
      · rw [if_neg d, if_neg (by omega)]
  · rw [up2_ne _ _ _ h]
    unfold shM
    rw [upR_ne _ _ h, upR_ne _ _ h]
theorem sh_size (m : Mem) (q : Nat) (b n : Int32) (k : Nat) : shM m q b n k 58 q = if b = 0 then 0 else n := by
  unfold shM
  rw [upR_ne _ _ (by decide), up2_v1]
theorem hasB_no {b : Int32} (h0 : ¬ b = 0) (h1 : ¬ b = 8) (h2 : ¬ b = 16) (h3 : ¬ b = 32) : hasB b = 0 := by
  unfold hasB
  rw [if_neg h0, if_neg h1, if_neg h2, if_neg h3]
set_option maxHeartbeats 4000000 in
theorem c6_sheet (s b n : Int32) (mem : Mem) : CnI mX6_sheet [.ref 50, .int s, .int b, .int n] mem (fun x m' => ((inR s 0 3 = 0 ∨ hasB b = 0) ∧ x = -1000001 ∧ m' = fndM mem 0) ∨ (¬ inR s 0 3 = 0 ∧ ¬ hasB b = 0 ∧ n < 0 ∧ x = -1000007 ∧ m' = fndM mem 6) ∨ (¬ inR s 0 3 = 0 ∧ ¬ hasB b = 0 ∧ ¬ n < 0 ∧ 40 < n ∧ x = -1000001 ∧ m' = fndM mem 0) ∨ (∃ q, q < 4 ∧ s = nI q ∧ ¬ inR s 0 3 = 0 ∧ ¬ hasB b = 0 ∧ ¬ n < 0 ∧ ¬ 40 < n ∧ x = (if b = 0 then 0 else n) ∧ m' = shM mem q b n 40)) := by
  refine Cn.of (ls := [some (.ref 50), some (.int s), some (.int b), some (.int n), none]) (by decide) rfl (Nat.le_of_ble_eq_true rfl) ?_
  refine w_iload_n (i := 1) (n' := 1) dX6_sheet_0 rfl rfl rfl ?_
  refine s_E (n' := 4) dX6_sheet_1 rfl lRX6_292 okX6_isSheet stX6_isSheet ⟨⟨Nat.le_of_ble_eq_true rfl, Nat.le_of_ble_eq_true rfl⟩, Nat.le_of_ble_eq_true rfl, Nat.le_of_ble_eq_true rfl⟩ (c6_isSheet _ _) rfl rfl (Nat.le_of_ble_eq_true rfl) ?_
  refine w_if_eq (n' := 7) (tgt := 29) dX6_sheet_4 rfl rfl (fun h4 => ?_) (fun h4 => ?_)
  · refine w_aload_n (i := 0) (n' := 30) dX6_sheet_29 rfl rfl rfl ?_
    refine w_ldc (v := -1000001) (n' := 32) dX6_sheet_30 rfl kRX6_43 ?_
    refine v_E (ci := 6) (n' := 35) dX6_sheet_32 rfl lRX6_45 okX6_finds voX6_finds ⟨⟨Nat.le_of_ble_eq_true rfl, Nat.le_of_ble_eq_true rfl⟩, Nat.le_of_ble_eq_true rfl, Nat.le_of_ble_eq_true rfl⟩ (c6_finds 0 _ (by decide) (by decide) _) rfl rfl (Nat.le_of_ble_eq_true rfl) rfl (Nat.le_of_ble_eq_true rfl) rfl ?_
    exact w_iret dX6_sheet_35 rfl ⟨_, rfl, Or.inl ⟨Or.inl h4, rfl, rfl⟩⟩
  · obtain ⟨q, hq1, hq2⟩ := inR_of (N := 3) (by decide) h4
    refine w_iload_n (i := 2) (n' := 8) dX6_sheet_7 rfl rfl rfl ?_
    refine w_if_eq (n' := 11) (tgt := 36) dX6_sheet_8 rfl rfl (fun h8 => ?_) (fun h8 => ?_)
    · have hb : hasB b = 1 := by unfold hasB; simp [h8]
      have hb0 : ¬ hasB b = 0 := by rw [hb]; decide
      refine w_iload_n (i := 3) (n' := 37) dX6_sheet_36 rfl rfl rfl ?_
      refine w_if_ge (n' := 40) (tgt := 48) dX6_sheet_37 rfl rfl (fun h37 => ?_) (fun h37 => ?_)
      · have h37n : ¬ n < 0 := Int32.not_lt.mpr h37
        refine w_iload_n (i := 3) (n' := 49) dX6_sheet_48 rfl rfl rfl ?_
        refine w_bipush (v := 40) (n' := 51) dX6_sheet_49 rfl (by decide) ?_
        refine w_icmp_le (n' := 54) (tgt := 61) dX6_sheet_51 rfl rfl (fun h51 => ?_) (fun h51 => ?_)
        · have h51n : ¬ 40 < n := Int32.not_lt.mpr h51
          refine w_aload_n (i := 0) (n' := 62) dX6_sheet_61 rfl rfl rfl ?_
          refine w_get (ci := 6) (j := 8) (n' := 65) dX6_sheet_62 rfl fRX6_28 (Nat.le_of_ble_eq_true rfl) (Nat.le_of_ble_eq_true rfl) rfl rfl ?_
          refine w_iload_n (i := 1) (n' := 66) dX6_sheet_65 rfl rfl rfl ?_
          refine w_iload_n (i := 2) (n' := 67) dX6_sheet_66 rfl rfl rfl ?_
          refine w_if_ne (n' := 70) (tgt := 74) dX6_sheet_67 rfl rfl (fun h67 => ?_) (fun h67 => ?_)
          · have h67 : ¬ b = 0 := h67
            refine w_iload_n (i := 2) (n' := 75) dX6_sheet_74 rfl rfl rfl ?_
            refine w_iast (n := q) (n' := 76) dX6_sheet_75 rfl rfl hq2 (show q < 4 by omega) ?_
            refine w_aload_n (i := 0) (n' := 77) dX6_sheet_76 rfl rfl rfl ?_
            refine w_get (ci := 6) (j := 9) (n' := 80) dX6_sheet_77 rfl fRX6_31 (Nat.le_of_ble_eq_true rfl) (Nat.le_of_ble_eq_true rfl) rfl rfl ?_
            refine w_iload_n (i := 1) (n' := 81) dX6_sheet_80 rfl rfl rfl ?_
            refine w_iload_n (i := 2) (n' := 82) dX6_sheet_81 rfl rfl rfl ?_
            refine w_if_ne (n' := 85) (tgt := 89) dX6_sheet_82 rfl rfl (fun h82 => ?_) (fun h82 => absurd h82 h67)
            refine w_iload_n (i := 3) (n' := 90) dX6_sheet_89 rfl rfl rfl ?_
            refine w_iast (n := q) (n' := 91) dX6_sheet_90 rfl rfl hq2 (show q < 4 by omega) ?_
            rw [show up2 (up2 mem 57 q b) 58 q n = shM mem q b n 0 from by rw [← sh_0, if_neg h67, if_neg h67]]
            refine w_iconst (v := 0) (n' := 92) dX6_sheet_91 rfl rfl ?_
            refine w_istore (n' := 94) (ls' := [_, _, _, _, _]) dX6_sheet_92 rfl (Nat.le_of_ble_eq_true rfl) rfl rfl ?_
            have L : ∀ (k : Nat) (t : Mem), k ≤ 40 → t = shM mem q b n k → Wm mX6_sheet (zM mX6_sheet (fun rZ mZ => ∃ xZ, rZ = some (.int xZ) ∧ (fun x m' => ((inR s 0 3 = 0 ∨ hasB b = 0) ∧ x = -1000001 ∧ m' = fndM mem 0) ∨ (¬ inR s 0 3 = 0 ∧ ¬ hasB b = 0 ∧ n < 0 ∧ x = -1000007 ∧ m' = fndM mem 6) ∨ (¬ inR s 0 3 = 0 ∧ ¬ hasB b = 0 ∧ ¬ n < 0 ∧ 40 < n ∧ x = -1000001 ∧ m' = fndM mem 0) ∨ (∃ q, q < 4 ∧ s = nI q ∧ ¬ inR s 0 3 = 0 ∧ ¬ hasB b = 0 ∧ ¬ n < 0 ∧ ¬ 40 < n ∧ x = (if b = 0 then 0 else n) ∧ m' = shM mem q b n 40)) xZ mZ)) 94 [some (.ref 50), some (.int s), some (.int b), some (.int n), some (.int (nI k))] [] t := by
              refine for_ind 40 ?_
              intro k t hk h1 ih
              refine w_iload (n' := 96) dX6_sheet_94 rfl rfl ?_
              refine w_bipush (v := 40) (n' := 98) dX6_sheet_96 rfl (by decide) ?_
              refine w_icmp_ge (n' := 101) (tgt := 120) dX6_sheet_98 rfl rfl (fun h98 => ?_) (fun h98 => ?_)
              · have hin : k = 40 := by
                  rcases Nat.lt_or_ge k 40 with c | c
                  · exact absurd h98 (by exact nI_ge (b := 40) c (by omega))
                  · omega
                refine w_aload_n (i := 0) (n' := 121) dX6_sheet_120 rfl rfl rfl ?_
                refine w_get (ci := 6) (j := 9) (n' := 124) dX6_sheet_121 rfl fRX6_31 (Nat.le_of_ble_eq_true rfl) (Nat.le_of_ble_eq_true rfl) rfl rfl ?_
                refine w_iload_n (i := 1) (n' := 125) dX6_sheet_124 rfl rfl rfl ?_
                refine w_iald (n := q) (n' := 126) dX6_sheet_125 rfl rfl hq2 (show q < 4 by omega) ?_
                exact w_iret dX6_sheet_126 rfl ⟨_, rfl, Or.inr (Or.inr (Or.inr ⟨q, by omega, hq2, h4, hb0, h37n, h51n, by rw [h1, sh_size], by rw [h1, hin]⟩))⟩
              · have hlt : k < 40 := by
                  rcases Nat.lt_or_ge k 40 with c | c
                  · exact c
                  · exact absurd (by exact nI_le (a := 40) c (by omega)) h98
                refine w_aload_n (i := 0) (n' := 102) dX6_sheet_101 rfl rfl rfl ?_
                refine w_get (ci := 6) (j := 10) (n' := 105) dX6_sheet_102 rfl fRX6_34 (Nat.le_of_ble_eq_true rfl) (Nat.le_of_ble_eq_true rfl) rfl rfl ?_
                refine w_bipush (v := 40) (n' := 107) dX6_sheet_105 rfl (by decide) ?_
                refine w_iload_n (i := 1) (n' := 108) dX6_sheet_107 rfl rfl rfl ?_
                refine w_imul (n' := 109) dX6_sheet_108 rfl ?_
                refine w_iload (n' := 111) dX6_sheet_109 rfl rfl ?_
                refine w_iadd (n' := 112) dX6_sheet_111 rfl ?_
                refine w_iconst (v := 0) (n' := 113) dX6_sheet_112 rfl rfl ?_
                refine w_iast (n := 40 * q + k) (n' := 114) dX6_sheet_113 rfl rfl (by rw [hq2, show (40 : Int32) = nI 40 from rfl, pk_mul, nI_add]) (show 40 * q + k < 160 by omega) ?_
                refine w_iinc (n' := 117) (v := nI (k + 1)) (ls' := [_, _, _, _, _]) dX6_sheet_114 rfl rfl (nI_1 k) (Nat.le_of_ble_eq_true rfl) rfl rfl ?_
                refine w_goto (tgt := 94) dX6_sheet_117 rfl ?_
                exact ih hlt _ (by rw [h1, sh_s])
            exact L 0 _ (Nat.zero_le _) rfl
          · have h67 : b = 0 := h67
            refine w_iconst (v := -1) (n' := 71) dX6_sheet_70 rfl rfl ?_
            refine w_goto (tgt := 75) dX6_sheet_71 rfl ?_
            refine w_iast (n := q) (n' := 76) dX6_sheet_75 rfl rfl hq2 (show q < 4 by omega) ?_
            refine w_aload_n (i := 0) (n' := 77) dX6_sheet_76 rfl rfl rfl ?_
            refine w_get (ci := 6) (j := 9) (n' := 80) dX6_sheet_77 rfl fRX6_31 (Nat.le_of_ble_eq_true rfl) (Nat.le_of_ble_eq_true rfl) rfl rfl ?_
            refine w_iload_n (i := 1) (n' := 81) dX6_sheet_80 rfl rfl rfl ?_
            refine w_iload_n (i := 2) (n' := 82) dX6_sheet_81 rfl rfl rfl ?_
            refine w_if_ne (n' := 85) (tgt := 89) dX6_sheet_82 rfl rfl (fun h82 => absurd h67 h82) (fun h82 => ?_)
            refine w_iconst (v := 0) (n' := 86) dX6_sheet_85 rfl rfl ?_
            refine w_goto (tgt := 90) dX6_sheet_86 rfl ?_
            refine w_iast (n := q) (n' := 91) dX6_sheet_90 rfl rfl hq2 (show q < 4 by omega) ?_
            rw [show up2 (up2 mem 57 q (-1)) 58 q 0 = shM mem q b n 0 from by rw [← sh_0, if_pos h67, if_pos h67]]
            refine w_iconst (v := 0) (n' := 92) dX6_sheet_91 rfl rfl ?_
            refine w_istore (n' := 94) (ls' := [_, _, _, _, _]) dX6_sheet_92 rfl (Nat.le_of_ble_eq_true rfl) rfl rfl ?_
            have L : ∀ (k : Nat) (t : Mem), k ≤ 40 → t = shM mem q b n k → Wm mX6_sheet (zM mX6_sheet (fun rZ mZ => ∃ xZ, rZ = some (.int xZ) ∧ (fun x m' => ((inR s 0 3 = 0 ∨ hasB b = 0) ∧ x = -1000001 ∧ m' = fndM mem 0) ∨ (¬ inR s 0 3 = 0 ∧ ¬ hasB b = 0 ∧ n < 0 ∧ x = -1000007 ∧ m' = fndM mem 6) ∨ (¬ inR s 0 3 = 0 ∧ ¬ hasB b = 0 ∧ ¬ n < 0 ∧ 40 < n ∧ x = -1000001 ∧ m' = fndM mem 0) ∨ (∃ q, q < 4 ∧ s = nI q ∧ ¬ inR s 0 3 = 0 ∧ ¬ hasB b = 0 ∧ ¬ n < 0 ∧ ¬ 40 < n ∧ x = (if b = 0 then 0 else n) ∧ m' = shM mem q b n 40)) xZ mZ)) 94 [some (.ref 50), some (.int s), some (.int b), some (.int n), some (.int (nI k))] [] t := by
              refine for_ind 40 ?_
              intro k t hk h1 ih
              refine w_iload (n' := 96) dX6_sheet_94 rfl rfl ?_
              refine w_bipush (v := 40) (n' := 98) dX6_sheet_96 rfl (by decide) ?_
              refine w_icmp_ge (n' := 101) (tgt := 120) dX6_sheet_98 rfl rfl (fun h98 => ?_) (fun h98 => ?_)
              · have hin : k = 40 := by
                  rcases Nat.lt_or_ge k 40 with c | c
                  · exact absurd h98 (by exact nI_ge (b := 40) c (by omega))
                  · omega
                refine w_aload_n (i := 0) (n' := 121) dX6_sheet_120 rfl rfl rfl ?_
                refine w_get (ci := 6) (j := 9) (n' := 124) dX6_sheet_121 rfl fRX6_31 (Nat.le_of_ble_eq_true rfl) (Nat.le_of_ble_eq_true rfl) rfl rfl ?_
                refine w_iload_n (i := 1) (n' := 125) dX6_sheet_124 rfl rfl rfl ?_
                refine w_iald (n := q) (n' := 126) dX6_sheet_125 rfl rfl hq2 (show q < 4 by omega) ?_
                exact w_iret dX6_sheet_126 rfl ⟨_, rfl, Or.inr (Or.inr (Or.inr ⟨q, by omega, hq2, h4, hb0, h37n, h51n, by rw [h1, sh_size], by rw [h1, hin]⟩))⟩
              · have hlt : k < 40 := by
                  rcases Nat.lt_or_ge k 40 with c | c
                  · exact c
                  · exact absurd (by exact nI_le (a := 40) c (by omega)) h98
                refine w_aload_n (i := 0) (n' := 102) dX6_sheet_101 rfl rfl rfl ?_
                refine w_get (ci := 6) (j := 10) (n' := 105) dX6_sheet_102 rfl fRX6_34 (Nat.le_of_ble_eq_true rfl) (Nat.le_of_ble_eq_true rfl) rfl rfl ?_
                refine w_bipush (v := 40) (n' := 107) dX6_sheet_105 rfl (by decide) ?_
                refine w_iload_n (i := 1) (n' := 108) dX6_sheet_107 rfl rfl rfl ?_
                refine w_imul (n' := 109) dX6_sheet_108 rfl ?_
                refine w_iload (n' := 111) dX6_sheet_109 rfl rfl ?_
                refine w_iadd (n' := 112) dX6_sheet_111 rfl ?_
                refine w_iconst (v := 0) (n' := 113) dX6_sheet_112 rfl rfl ?_
                refine w_iast (n := 40 * q + k) (n' := 114) dX6_sheet_113 rfl rfl (by rw [hq2, show (40 : Int32) = nI 40 from rfl, pk_mul, nI_add]) (show 40 * q + k < 160 by omega) ?_
                refine w_iinc (n' := 117) (v := nI (k + 1)) (ls' := [_, _, _, _, _]) dX6_sheet_114 rfl rfl (nI_1 k) (Nat.le_of_ble_eq_true rfl) rfl rfl ?_
                refine w_goto (tgt := 94) dX6_sheet_117 rfl ?_
                exact ih hlt _ (by rw [h1, sh_s])
            exact L 0 _ (Nat.zero_le _) rfl
        · have h51n : 40 < n := Int32.not_le.mp h51
          refine w_aload_n (i := 0) (n' := 55) dX6_sheet_54 rfl rfl rfl ?_
          refine w_ldc (v := -1000001) (n' := 57) dX6_sheet_55 rfl kRX6_43 ?_
          refine v_E (ci := 6) (n' := 60) dX6_sheet_57 rfl lRX6_45 okX6_finds voX6_finds ⟨⟨Nat.le_of_ble_eq_true rfl, Nat.le_of_ble_eq_true rfl⟩, Nat.le_of_ble_eq_true rfl, Nat.le_of_ble_eq_true rfl⟩ (c6_finds 0 _ (by decide) (by decide) _) rfl rfl (Nat.le_of_ble_eq_true rfl) rfl (Nat.le_of_ble_eq_true rfl) rfl ?_
          exact w_iret dX6_sheet_60 rfl ⟨_, rfl, Or.inr (Or.inr (Or.inl ⟨h4, hb0, h37n, h51n, rfl, rfl⟩))⟩
      · have h37n : n < 0 := Int32.not_le.mp h37
        refine w_aload_n (i := 0) (n' := 41) dX6_sheet_40 rfl rfl rfl ?_
        refine w_ldcw (v := -1000007) (n' := 44) dX6_sheet_41 rfl kRX6_295 ?_
        refine v_E (ci := 6) (n' := 47) dX6_sheet_44 rfl lRX6_45 okX6_finds voX6_finds ⟨⟨Nat.le_of_ble_eq_true rfl, Nat.le_of_ble_eq_true rfl⟩, Nat.le_of_ble_eq_true rfl, Nat.le_of_ble_eq_true rfl⟩ (c6_finds 6 _ (by decide) (by decide) _) rfl rfl (Nat.le_of_ble_eq_true rfl) rfl (Nat.le_of_ble_eq_true rfl) rfl ?_
        exact w_iret dX6_sheet_47 rfl ⟨_, rfl, Or.inr (Or.inl ⟨h4, hb0, h37n, rfl, rfl⟩)⟩
    · refine w_iload_n (i := 2) (n' := 12) dX6_sheet_11 rfl rfl rfl ?_
      refine w_bipush (v := 8) (n' := 14) dX6_sheet_12 rfl (by decide) ?_
      refine w_icmp_eq (n' := 17) (tgt := 36) dX6_sheet_14 rfl rfl (fun h14 => ?_) (fun h14 => ?_)
      · have hb : hasB b = 1 := by unfold hasB; simp [h14]
        have hb0 : ¬ hasB b = 0 := by rw [hb]; decide
        refine w_iload_n (i := 3) (n' := 37) dX6_sheet_36 rfl rfl rfl ?_
        refine w_if_ge (n' := 40) (tgt := 48) dX6_sheet_37 rfl rfl (fun h37 => ?_) (fun h37 => ?_)
        · have h37n : ¬ n < 0 := Int32.not_lt.mpr h37
          refine w_iload_n (i := 3) (n' := 49) dX6_sheet_48 rfl rfl rfl ?_
          refine w_bipush (v := 40) (n' := 51) dX6_sheet_49 rfl (by decide) ?_
          refine w_icmp_le (n' := 54) (tgt := 61) dX6_sheet_51 rfl rfl (fun h51 => ?_) (fun h51 => ?_)
          · have h51n : ¬ 40 < n := Int32.not_lt.mpr h51
            refine w_aload_n (i := 0) (n' := 62) dX6_sheet_61 rfl rfl rfl ?_
            refine w_get (ci := 6) (j := 8) (n' := 65) dX6_sheet_62 rfl fRX6_28 (Nat.le_of_ble_eq_true rfl) (Nat.le_of_ble_eq_true rfl) rfl rfl ?_
            refine w_iload_n (i := 1) (n' := 66) dX6_sheet_65 rfl rfl rfl ?_
            refine w_iload_n (i := 2) (n' := 67) dX6_sheet_66 rfl rfl rfl ?_
            refine w_if_ne (n' := 70) (tgt := 74) dX6_sheet_67 rfl rfl (fun h67 => ?_) (fun h67 => ?_)
            · have h67 : ¬ b = 0 := h67
              refine w_iload_n (i := 2) (n' := 75) dX6_sheet_74 rfl rfl rfl ?_
              refine w_iast (n := q) (n' := 76) dX6_sheet_75 rfl rfl hq2 (show q < 4 by omega) ?_
              refine w_aload_n (i := 0) (n' := 77) dX6_sheet_76 rfl rfl rfl ?_
              refine w_get (ci := 6) (j := 9) (n' := 80) dX6_sheet_77 rfl fRX6_31 (Nat.le_of_ble_eq_true rfl) (Nat.le_of_ble_eq_true rfl) rfl rfl ?_
              refine w_iload_n (i := 1) (n' := 81) dX6_sheet_80 rfl rfl rfl ?_
              refine w_iload_n (i := 2) (n' := 82) dX6_sheet_81 rfl rfl rfl ?_
              refine w_if_ne (n' := 85) (tgt := 89) dX6_sheet_82 rfl rfl (fun h82 => ?_) (fun h82 => absurd h82 h67)
              refine w_iload_n (i := 3) (n' := 90) dX6_sheet_89 rfl rfl rfl ?_
              refine w_iast (n := q) (n' := 91) dX6_sheet_90 rfl rfl hq2 (show q < 4 by omega) ?_
              rw [show up2 (up2 mem 57 q b) 58 q n = shM mem q b n 0 from by rw [← sh_0, if_neg h67, if_neg h67]]
              refine w_iconst (v := 0) (n' := 92) dX6_sheet_91 rfl rfl ?_
              refine w_istore (n' := 94) (ls' := [_, _, _, _, _]) dX6_sheet_92 rfl (Nat.le_of_ble_eq_true rfl) rfl rfl ?_
              have L : ∀ (k : Nat) (t : Mem), k ≤ 40 → t = shM mem q b n k → Wm mX6_sheet (zM mX6_sheet (fun rZ mZ => ∃ xZ, rZ = some (.int xZ) ∧ (fun x m' => ((inR s 0 3 = 0 ∨ hasB b = 0) ∧ x = -1000001 ∧ m' = fndM mem 0) ∨ (¬ inR s 0 3 = 0 ∧ ¬ hasB b = 0 ∧ n < 0 ∧ x = -1000007 ∧ m' = fndM mem 6) ∨ (¬ inR s 0 3 = 0 ∧ ¬ hasB b = 0 ∧ ¬ n < 0 ∧ 40 < n ∧ x = -1000001 ∧ m' = fndM mem 0) ∨ (∃ q, q < 4 ∧ s = nI q ∧ ¬ inR s 0 3 = 0 ∧ ¬ hasB b = 0 ∧ ¬ n < 0 ∧ ¬ 40 < n ∧ x = (if b = 0 then 0 else n) ∧ m' = shM mem q b n 40)) xZ mZ)) 94 [some (.ref 50), some (.int s), some (.int b), some (.int n), some (.int (nI k))] [] t := by
                refine for_ind 40 ?_
                intro k t hk h1 ih
                refine w_iload (n' := 96) dX6_sheet_94 rfl rfl ?_
                refine w_bipush (v := 40) (n' := 98) dX6_sheet_96 rfl (by decide) ?_
                refine w_icmp_ge (n' := 101) (tgt := 120) dX6_sheet_98 rfl rfl (fun h98 => ?_) (fun h98 => ?_)
                · have hin : k = 40 := by
                    rcases Nat.lt_or_ge k 40 with c | c
                    · exact absurd h98 (by exact nI_ge (b := 40) c (by omega))
                    · omega
                  refine w_aload_n (i := 0) (n' := 121) dX6_sheet_120 rfl rfl rfl ?_
                  refine w_get (ci := 6) (j := 9) (n' := 124) dX6_sheet_121 rfl fRX6_31 (Nat.le_of_ble_eq_true rfl) (Nat.le_of_ble_eq_true rfl) rfl rfl ?_
                  refine w_iload_n (i := 1) (n' := 125) dX6_sheet_124 rfl rfl rfl ?_
                  refine w_iald (n := q) (n' := 126) dX6_sheet_125 rfl rfl hq2 (show q < 4 by omega) ?_
                  exact w_iret dX6_sheet_126 rfl ⟨_, rfl, Or.inr (Or.inr (Or.inr ⟨q, by omega, hq2, h4, hb0, h37n, h51n, by rw [h1, sh_size], by rw [h1, hin]⟩))⟩
                · have hlt : k < 40 := by
                    rcases Nat.lt_or_ge k 40 with c | c
                    · exact c
                    · exact absurd (by exact nI_le (a := 40) c (by omega)) h98
                  refine w_aload_n (i := 0) (n' := 102) dX6_sheet_101 rfl rfl rfl ?_
                  refine w_get (ci := 6) (j := 10) (n' := 105) dX6_sheet_102 rfl fRX6_34 (Nat.le_of_ble_eq_true rfl) (Nat.le_of_ble_eq_true rfl) rfl rfl ?_
                  refine w_bipush (v := 40) (n' := 107) dX6_sheet_105 rfl (by decide) ?_
                  refine w_iload_n (i := 1) (n' := 108) dX6_sheet_107 rfl rfl rfl ?_
                  refine w_imul (n' := 109) dX6_sheet_108 rfl ?_
                  refine w_iload (n' := 111) dX6_sheet_109 rfl rfl ?_
                  refine w_iadd (n' := 112) dX6_sheet_111 rfl ?_
                  refine w_iconst (v := 0) (n' := 113) dX6_sheet_112 rfl rfl ?_
                  refine w_iast (n := 40 * q + k) (n' := 114) dX6_sheet_113 rfl rfl (by rw [hq2, show (40 : Int32) = nI 40 from rfl, pk_mul, nI_add]) (show 40 * q + k < 160 by omega) ?_
                  refine w_iinc (n' := 117) (v := nI (k + 1)) (ls' := [_, _, _, _, _]) dX6_sheet_114 rfl rfl (nI_1 k) (Nat.le_of_ble_eq_true rfl) rfl rfl ?_
                  refine w_goto (tgt := 94) dX6_sheet_117 rfl ?_
                  exact ih hlt _ (by rw [h1, sh_s])
              exact L 0 _ (Nat.zero_le _) rfl
            · have h67 : b = 0 := h67
              refine w_iconst (v := -1) (n' := 71) dX6_sheet_70 rfl rfl ?_
              refine w_goto (tgt := 75) dX6_sheet_71 rfl ?_
              refine w_iast (n := q) (n' := 76) dX6_sheet_75 rfl rfl hq2 (show q < 4 by omega) ?_
              refine w_aload_n (i := 0) (n' := 77) dX6_sheet_76 rfl rfl rfl ?_
              refine w_get (ci := 6) (j := 9) (n' := 80) dX6_sheet_77 rfl fRX6_31 (Nat.le_of_ble_eq_true rfl) (Nat.le_of_ble_eq_true rfl) rfl rfl ?_
              refine w_iload_n (i := 1) (n' := 81) dX6_sheet_80 rfl rfl rfl ?_
              refine w_iload_n (i := 2) (n' := 82) dX6_sheet_81 rfl rfl rfl ?_
              refine w_if_ne (n' := 85) (tgt := 89) dX6_sheet_82 rfl rfl (fun h82 => absurd h67 h82) (fun h82 => ?_)
              refine w_iconst (v := 0) (n' := 86) dX6_sheet_85 rfl rfl ?_
              refine w_goto (tgt := 90) dX6_sheet_86 rfl ?_
              refine w_iast (n := q) (n' := 91) dX6_sheet_90 rfl rfl hq2 (show q < 4 by omega) ?_
              rw [show up2 (up2 mem 57 q (-1)) 58 q 0 = shM mem q b n 0 from by rw [← sh_0, if_pos h67, if_pos h67]]
              refine w_iconst (v := 0) (n' := 92) dX6_sheet_91 rfl rfl ?_
              refine w_istore (n' := 94) (ls' := [_, _, _, _, _]) dX6_sheet_92 rfl (Nat.le_of_ble_eq_true rfl) rfl rfl ?_
              have L : ∀ (k : Nat) (t : Mem), k ≤ 40 → t = shM mem q b n k → Wm mX6_sheet (zM mX6_sheet (fun rZ mZ => ∃ xZ, rZ = some (.int xZ) ∧ (fun x m' => ((inR s 0 3 = 0 ∨ hasB b = 0) ∧ x = -1000001 ∧ m' = fndM mem 0) ∨ (¬ inR s 0 3 = 0 ∧ ¬ hasB b = 0 ∧ n < 0 ∧ x = -1000007 ∧ m' = fndM mem 6) ∨ (¬ inR s 0 3 = 0 ∧ ¬ hasB b = 0 ∧ ¬ n < 0 ∧ 40 < n ∧ x = -1000001 ∧ m' = fndM mem 0) ∨ (∃ q, q < 4 ∧ s = nI q ∧ ¬ inR s 0 3 = 0 ∧ ¬ hasB b = 0 ∧ ¬ n < 0 ∧ ¬ 40 < n ∧ x = (if b = 0 then 0 else n) ∧ m' = shM mem q b n 40)) xZ mZ)) 94 [some (.ref 50), some (.int s), some (.int b), some (.int n), some (.int (nI k))] [] t := by
                refine for_ind 40 ?_
                intro k t hk h1 ih
                refine w_iload (n' := 96) dX6_sheet_94 rfl rfl ?_
                refine w_bipush (v := 40) (n' := 98) dX6_sheet_96 rfl (by decide) ?_
                refine w_icmp_ge (n' := 101) (tgt := 120) dX6_sheet_98 rfl rfl (fun h98 => ?_) (fun h98 => ?_)
                · have hin : k = 40 := by
                    rcases Nat.lt_or_ge k 40 with c | c
                    · exact absurd h98 (by exact nI_ge (b := 40) c (by omega))
                    · omega
                  refine w_aload_n (i := 0) (n' := 121) dX6_sheet_120 rfl rfl rfl ?_
                  refine w_get (ci := 6) (j := 9) (n' := 124) dX6_sheet_121 rfl fRX6_31 (Nat.le_of_ble_eq_true rfl) (Nat.le_of_ble_eq_true rfl) rfl rfl ?_
                  refine w_iload_n (i := 1) (n' := 125) dX6_sheet_124 rfl rfl rfl ?_
                  refine w_iald (n := q) (n' := 126) dX6_sheet_125 rfl rfl hq2 (show q < 4 by omega) ?_
                  exact w_iret dX6_sheet_126 rfl ⟨_, rfl, Or.inr (Or.inr (Or.inr ⟨q, by omega, hq2, h4, hb0, h37n, h51n, by rw [h1, sh_size], by rw [h1, hin]⟩))⟩
                · have hlt : k < 40 := by
                    rcases Nat.lt_or_ge k 40 with c | c
                    · exact c
                    · exact absurd (by exact nI_le (a := 40) c (by omega)) h98
                  refine w_aload_n (i := 0) (n' := 102) dX6_sheet_101 rfl rfl rfl ?_
                  refine w_get (ci := 6) (j := 10) (n' := 105) dX6_sheet_102 rfl fRX6_34 (Nat.le_of_ble_eq_true rfl) (Nat.le_of_ble_eq_true rfl) rfl rfl ?_
                  refine w_bipush (v := 40) (n' := 107) dX6_sheet_105 rfl (by decide) ?_
                  refine w_iload_n (i := 1) (n' := 108) dX6_sheet_107 rfl rfl rfl ?_
                  refine w_imul (n' := 109) dX6_sheet_108 rfl ?_
                  refine w_iload (n' := 111) dX6_sheet_109 rfl rfl ?_
                  refine w_iadd (n' := 112) dX6_sheet_111 rfl ?_
                  refine w_iconst (v := 0) (n' := 113) dX6_sheet_112 rfl rfl ?_
                  refine w_iast (n := 40 * q + k) (n' := 114) dX6_sheet_113 rfl rfl (by rw [hq2, show (40 : Int32) = nI 40 from rfl, pk_mul, nI_add]) (show 40 * q + k < 160 by omega) ?_
                  refine w_iinc (n' := 117) (v := nI (k + 1)) (ls' := [_, _, _, _, _]) dX6_sheet_114 rfl rfl (nI_1 k) (Nat.le_of_ble_eq_true rfl) rfl rfl ?_
                  refine w_goto (tgt := 94) dX6_sheet_117 rfl ?_
                  exact ih hlt _ (by rw [h1, sh_s])
              exact L 0 _ (Nat.zero_le _) rfl
          · have h51n : 40 < n := Int32.not_le.mp h51
            refine w_aload_n (i := 0) (n' := 55) dX6_sheet_54 rfl rfl rfl ?_
            refine w_ldc (v := -1000001) (n' := 57) dX6_sheet_55 rfl kRX6_43 ?_
            refine v_E (ci := 6) (n' := 60) dX6_sheet_57 rfl lRX6_45 okX6_finds voX6_finds ⟨⟨Nat.le_of_ble_eq_true rfl, Nat.le_of_ble_eq_true rfl⟩, Nat.le_of_ble_eq_true rfl, Nat.le_of_ble_eq_true rfl⟩ (c6_finds 0 _ (by decide) (by decide) _) rfl rfl (Nat.le_of_ble_eq_true rfl) rfl (Nat.le_of_ble_eq_true rfl) rfl ?_
            exact w_iret dX6_sheet_60 rfl ⟨_, rfl, Or.inr (Or.inr (Or.inl ⟨h4, hb0, h37n, h51n, rfl, rfl⟩))⟩
        · have h37n : n < 0 := Int32.not_le.mp h37
          refine w_aload_n (i := 0) (n' := 41) dX6_sheet_40 rfl rfl rfl ?_
          refine w_ldcw (v := -1000007) (n' := 44) dX6_sheet_41 rfl kRX6_295 ?_
          refine v_E (ci := 6) (n' := 47) dX6_sheet_44 rfl lRX6_45 okX6_finds voX6_finds ⟨⟨Nat.le_of_ble_eq_true rfl, Nat.le_of_ble_eq_true rfl⟩, Nat.le_of_ble_eq_true rfl, Nat.le_of_ble_eq_true rfl⟩ (c6_finds 6 _ (by decide) (by decide) _) rfl rfl (Nat.le_of_ble_eq_true rfl) rfl (Nat.le_of_ble_eq_true rfl) rfl ?_
          exact w_iret dX6_sheet_47 rfl ⟨_, rfl, Or.inr (Or.inl ⟨h4, hb0, h37n, rfl, rfl⟩)⟩
      · refine w_iload_n (i := 2) (n' := 18) dX6_sheet_17 rfl rfl rfl ?_
        refine w_bipush (v := 16) (n' := 20) dX6_sheet_18 rfl (by decide) ?_
        refine w_icmp_eq (n' := 23) (tgt := 36) dX6_sheet_20 rfl rfl (fun h20 => ?_) (fun h20 => ?_)
        · have hb : hasB b = 1 := by unfold hasB; simp [h20]
          have hb0 : ¬ hasB b = 0 := by rw [hb]; decide
          refine w_iload_n (i := 3) (n' := 37) dX6_sheet_36 rfl rfl rfl ?_
          refine w_if_ge (n' := 40) (tgt := 48) dX6_sheet_37 rfl rfl (fun h37 => ?_) (fun h37 => ?_)
          · have h37n : ¬ n < 0 := Int32.not_lt.mpr h37
            refine w_iload_n (i := 3) (n' := 49) dX6_sheet_48 rfl rfl rfl ?_
            refine w_bipush (v := 40) (n' := 51) dX6_sheet_49 rfl (by decide) ?_
            refine w_icmp_le (n' := 54) (tgt := 61) dX6_sheet_51 rfl rfl (fun h51 => ?_) (fun h51 => ?_)
            · have h51n : ¬ 40 < n := Int32.not_lt.mpr h51
              refine w_aload_n (i := 0) (n' := 62) dX6_sheet_61 rfl rfl rfl ?_
              refine w_get (ci := 6) (j := 8) (n' := 65) dX6_sheet_62 rfl fRX6_28 (Nat.le_of_ble_eq_true rfl) (Nat.le_of_ble_eq_true rfl) rfl rfl ?_
              refine w_iload_n (i := 1) (n' := 66) dX6_sheet_65 rfl rfl rfl ?_
              refine w_iload_n (i := 2) (n' := 67) dX6_sheet_66 rfl rfl rfl ?_
              refine w_if_ne (n' := 70) (tgt := 74) dX6_sheet_67 rfl rfl (fun h67 => ?_) (fun h67 => ?_)
              · have h67 : ¬ b = 0 := h67
                refine w_iload_n (i := 2) (n' := 75) dX6_sheet_74 rfl rfl rfl ?_
                refine w_iast (n := q) (n' := 76) dX6_sheet_75 rfl rfl hq2 (show q < 4 by omega) ?_
                refine w_aload_n (i := 0) (n' := 77) dX6_sheet_76 rfl rfl rfl ?_
                refine w_get (ci := 6) (j := 9) (n' := 80) dX6_sheet_77 rfl fRX6_31 (Nat.le_of_ble_eq_true rfl) (Nat.le_of_ble_eq_true rfl) rfl rfl ?_
                refine w_iload_n (i := 1) (n' := 81) dX6_sheet_80 rfl rfl rfl ?_
                refine w_iload_n (i := 2) (n' := 82) dX6_sheet_81 rfl rfl rfl ?_
                refine w_if_ne (n' := 85) (tgt := 89) dX6_sheet_82 rfl rfl (fun h82 => ?_) (fun h82 => absurd h82 h67)
                refine w_iload_n (i := 3) (n' := 90) dX6_sheet_89 rfl rfl rfl ?_
                refine w_iast (n := q) (n' := 91) dX6_sheet_90 rfl rfl hq2 (show q < 4 by omega) ?_
                rw [show up2 (up2 mem 57 q b) 58 q n = shM mem q b n 0 from by rw [← sh_0, if_neg h67, if_neg h67]]
                refine w_iconst (v := 0) (n' := 92) dX6_sheet_91 rfl rfl ?_
                refine w_istore (n' := 94) (ls' := [_, _, _, _, _]) dX6_sheet_92 rfl (Nat.le_of_ble_eq_true rfl) rfl rfl ?_
                have L : ∀ (k : Nat) (t : Mem), k ≤ 40 → t = shM mem q b n k → Wm mX6_sheet (zM mX6_sheet (fun rZ mZ => ∃ xZ, rZ = some (.int xZ) ∧ (fun x m' => ((inR s 0 3 = 0 ∨ hasB b = 0) ∧ x = -1000001 ∧ m' = fndM mem 0) ∨ (¬ inR s 0 3 = 0 ∧ ¬ hasB b = 0 ∧ n < 0 ∧ x = -1000007 ∧ m' = fndM mem 6) ∨ (¬ inR s 0 3 = 0 ∧ ¬ hasB b = 0 ∧ ¬ n < 0 ∧ 40 < n ∧ x = -1000001 ∧ m' = fndM mem 0) ∨ (∃ q, q < 4 ∧ s = nI q ∧ ¬ inR s 0 3 = 0 ∧ ¬ hasB b = 0 ∧ ¬ n < 0 ∧ ¬ 40 < n ∧ x = (if b = 0 then 0 else n) ∧ m' = shM mem q b n 40)) xZ mZ)) 94 [some (.ref 50), some (.int s), some (.int b), some (.int n), some (.int (nI k))] [] t := by
                  refine for_ind 40 ?_
                  intro k t hk h1 ih
                  refine w_iload (n' := 96) dX6_sheet_94 rfl rfl ?_
                  refine w_bipush (v := 40) (n' := 98) dX6_sheet_96 rfl (by decide) ?_
                  refine w_icmp_ge (n' := 101) (tgt := 120) dX6_sheet_98 rfl rfl (fun h98 => ?_) (fun h98 => ?_)
                  · have hin : k = 40 := by
                      rcases Nat.lt_or_ge k 40 with c | c
                      · exact absurd h98 (by exact nI_ge (b := 40) c (by omega))
                      · omega
                    refine w_aload_n (i := 0) (n' := 121) dX6_sheet_120 rfl rfl rfl ?_
                    refine w_get (ci := 6) (j := 9) (n' := 124) dX6_sheet_121 rfl fRX6_31 (Nat.le_of_ble_eq_true rfl) (Nat.le_of_ble_eq_true rfl) rfl rfl ?_
                    refine w_iload_n (i := 1) (n' := 125) dX6_sheet_124 rfl rfl rfl ?_
                    refine w_iald (n := q) (n' := 126) dX6_sheet_125 rfl rfl hq2 (show q < 4 by omega) ?_
                    exact w_iret dX6_sheet_126 rfl ⟨_, rfl, Or.inr (Or.inr (Or.inr ⟨q, by omega, hq2, h4, hb0, h37n, h51n, by rw [h1, sh_size], by rw [h1, hin]⟩))⟩
                  · have hlt : k < 40 := by
                      rcases Nat.lt_or_ge k 40 with c | c
                      · exact c
                      · exact absurd (by exact nI_le (a := 40) c (by omega)) h98
                    refine w_aload_n (i := 0) (n' := 102) dX6_sheet_101 rfl rfl rfl ?_
                    refine w_get (ci := 6) (j := 10) (n' := 105) dX6_sheet_102 rfl fRX6_34 (Nat.le_of_ble_eq_true rfl) (Nat.le_of_ble_eq_true rfl) rfl rfl ?_
                    refine w_bipush (v := 40) (n' := 107) dX6_sheet_105 rfl (by decide) ?_
                    refine w_iload_n (i := 1) (n' := 108) dX6_sheet_107 rfl rfl rfl ?_
                    refine w_imul (n' := 109) dX6_sheet_108 rfl ?_
                    refine w_iload (n' := 111) dX6_sheet_109 rfl rfl ?_
                    refine w_iadd (n' := 112) dX6_sheet_111 rfl ?_
                    refine w_iconst (v := 0) (n' := 113) dX6_sheet_112 rfl rfl ?_
                    refine w_iast (n := 40 * q + k) (n' := 114) dX6_sheet_113 rfl rfl (by rw [hq2, show (40 : Int32) = nI 40 from rfl, pk_mul, nI_add]) (show 40 * q + k < 160 by omega) ?_
                    refine w_iinc (n' := 117) (v := nI (k + 1)) (ls' := [_, _, _, _, _]) dX6_sheet_114 rfl rfl (nI_1 k) (Nat.le_of_ble_eq_true rfl) rfl rfl ?_
                    refine w_goto (tgt := 94) dX6_sheet_117 rfl ?_
                    exact ih hlt _ (by rw [h1, sh_s])
                exact L 0 _ (Nat.zero_le _) rfl
              · have h67 : b = 0 := h67
                refine w_iconst (v := -1) (n' := 71) dX6_sheet_70 rfl rfl ?_
                refine w_goto (tgt := 75) dX6_sheet_71 rfl ?_
                refine w_iast (n := q) (n' := 76) dX6_sheet_75 rfl rfl hq2 (show q < 4 by omega) ?_
                refine w_aload_n (i := 0) (n' := 77) dX6_sheet_76 rfl rfl rfl ?_
                refine w_get (ci := 6) (j := 9) (n' := 80) dX6_sheet_77 rfl fRX6_31 (Nat.le_of_ble_eq_true rfl) (Nat.le_of_ble_eq_true rfl) rfl rfl ?_
                refine w_iload_n (i := 1) (n' := 81) dX6_sheet_80 rfl rfl rfl ?_
                refine w_iload_n (i := 2) (n' := 82) dX6_sheet_81 rfl rfl rfl ?_
                refine w_if_ne (n' := 85) (tgt := 89) dX6_sheet_82 rfl rfl (fun h82 => absurd h67 h82) (fun h82 => ?_)
                refine w_iconst (v := 0) (n' := 86) dX6_sheet_85 rfl rfl ?_
                refine w_goto (tgt := 90) dX6_sheet_86 rfl ?_
                refine w_iast (n := q) (n' := 91) dX6_sheet_90 rfl rfl hq2 (show q < 4 by omega) ?_
                rw [show up2 (up2 mem 57 q (-1)) 58 q 0 = shM mem q b n 0 from by rw [← sh_0, if_pos h67, if_pos h67]]
                refine w_iconst (v := 0) (n' := 92) dX6_sheet_91 rfl rfl ?_
                refine w_istore (n' := 94) (ls' := [_, _, _, _, _]) dX6_sheet_92 rfl (Nat.le_of_ble_eq_true rfl) rfl rfl ?_
                have L : ∀ (k : Nat) (t : Mem), k ≤ 40 → t = shM mem q b n k → Wm mX6_sheet (zM mX6_sheet (fun rZ mZ => ∃ xZ, rZ = some (.int xZ) ∧ (fun x m' => ((inR s 0 3 = 0 ∨ hasB b = 0) ∧ x = -1000001 ∧ m' = fndM mem 0) ∨ (¬ inR s 0 3 = 0 ∧ ¬ hasB b = 0 ∧ n < 0 ∧ x = -1000007 ∧ m' = fndM mem 6) ∨ (¬ inR s 0 3 = 0 ∧ ¬ hasB b = 0 ∧ ¬ n < 0 ∧ 40 < n ∧ x = -1000001 ∧ m' = fndM mem 0) ∨ (∃ q, q < 4 ∧ s = nI q ∧ ¬ inR s 0 3 = 0 ∧ ¬ hasB b = 0 ∧ ¬ n < 0 ∧ ¬ 40 < n ∧ x = (if b = 0 then 0 else n) ∧ m' = shM mem q b n 40)) xZ mZ)) 94 [some (.ref 50), some (.int s), some (.int b), some (.int n), some (.int (nI k))] [] t := by
                  refine for_ind 40 ?_
                  intro k t hk h1 ih
                  refine w_iload (n' := 96) dX6_sheet_94 rfl rfl ?_
                  refine w_bipush (v := 40) (n' := 98) dX6_sheet_96 rfl (by decide) ?_
                  refine w_icmp_ge (n' := 101) (tgt := 120) dX6_sheet_98 rfl rfl (fun h98 => ?_) (fun h98 => ?_)
                  · have hin : k = 40 := by
                      rcases Nat.lt_or_ge k 40 with c | c
                      · exact absurd h98 (by exact nI_ge (b := 40) c (by omega))
                      · omega
                    refine w_aload_n (i := 0) (n' := 121) dX6_sheet_120 rfl rfl rfl ?_
                    refine w_get (ci := 6) (j := 9) (n' := 124) dX6_sheet_121 rfl fRX6_31 (Nat.le_of_ble_eq_true rfl) (Nat.le_of_ble_eq_true rfl) rfl rfl ?_
                    refine w_iload_n (i := 1) (n' := 125) dX6_sheet_124 rfl rfl rfl ?_
                    refine w_iald (n := q) (n' := 126) dX6_sheet_125 rfl rfl hq2 (show q < 4 by omega) ?_
                    exact w_iret dX6_sheet_126 rfl ⟨_, rfl, Or.inr (Or.inr (Or.inr ⟨q, by omega, hq2, h4, hb0, h37n, h51n, by rw [h1, sh_size], by rw [h1, hin]⟩))⟩
                  · have hlt : k < 40 := by
                      rcases Nat.lt_or_ge k 40 with c | c
                      · exact c
                      · exact absurd (by exact nI_le (a := 40) c (by omega)) h98
                    refine w_aload_n (i := 0) (n' := 102) dX6_sheet_101 rfl rfl rfl ?_
                    refine w_get (ci := 6) (j := 10) (n' := 105) dX6_sheet_102 rfl fRX6_34 (Nat.le_of_ble_eq_true rfl) (Nat.le_of_ble_eq_true rfl) rfl rfl ?_
                    refine w_bipush (v := 40) (n' := 107) dX6_sheet_105 rfl (by decide) ?_
                    refine w_iload_n (i := 1) (n' := 108) dX6_sheet_107 rfl rfl rfl ?_
                    refine w_imul (n' := 109) dX6_sheet_108 rfl ?_
                    refine w_iload (n' := 111) dX6_sheet_109 rfl rfl ?_
                    refine w_iadd (n' := 112) dX6_sheet_111 rfl ?_
                    refine w_iconst (v := 0) (n' := 113) dX6_sheet_112 rfl rfl ?_
                    refine w_iast (n := 40 * q + k) (n' := 114) dX6_sheet_113 rfl rfl (by rw [hq2, show (40 : Int32) = nI 40 from rfl, pk_mul, nI_add]) (show 40 * q + k < 160 by omega) ?_
                    refine w_iinc (n' := 117) (v := nI (k + 1)) (ls' := [_, _, _, _, _]) dX6_sheet_114 rfl rfl (nI_1 k) (Nat.le_of_ble_eq_true rfl) rfl rfl ?_
                    refine w_goto (tgt := 94) dX6_sheet_117 rfl ?_
                    exact ih hlt _ (by rw [h1, sh_s])
                exact L 0 _ (Nat.zero_le _) rfl
            · have h51n : 40 < n := Int32.not_le.mp h51
              refine w_aload_n (i := 0) (n' := 55) dX6_sheet_54 rfl rfl rfl ?_
              refine w_ldc (v := -1000001) (n' := 57) dX6_sheet_55 rfl kRX6_43 ?_
              refine v_E (ci := 6) (n' := 60) dX6_sheet_57 rfl lRX6_45 okX6_finds voX6_finds ⟨⟨Nat.le_of_ble_eq_true rfl, Nat.le_of_ble_eq_true rfl⟩, Nat.le_of_ble_eq_true rfl, Nat.le_of_ble_eq_true rfl⟩ (c6_finds 0 _ (by decide) (by decide) _) rfl rfl (Nat.le_of_ble_eq_true rfl) rfl (Nat.le_of_ble_eq_true rfl) rfl ?_
              exact w_iret dX6_sheet_60 rfl ⟨_, rfl, Or.inr (Or.inr (Or.inl ⟨h4, hb0, h37n, h51n, rfl, rfl⟩))⟩
          · have h37n : n < 0 := Int32.not_le.mp h37
            refine w_aload_n (i := 0) (n' := 41) dX6_sheet_40 rfl rfl rfl ?_
            refine w_ldcw (v := -1000007) (n' := 44) dX6_sheet_41 rfl kRX6_295 ?_
            refine v_E (ci := 6) (n' := 47) dX6_sheet_44 rfl lRX6_45 okX6_finds voX6_finds ⟨⟨Nat.le_of_ble_eq_true rfl, Nat.le_of_ble_eq_true rfl⟩, Nat.le_of_ble_eq_true rfl, Nat.le_of_ble_eq_true rfl⟩ (c6_finds 6 _ (by decide) (by decide) _) rfl rfl (Nat.le_of_ble_eq_true rfl) rfl (Nat.le_of_ble_eq_true rfl) rfl ?_
            exact w_iret dX6_sheet_47 rfl ⟨_, rfl, Or.inr (Or.inl ⟨h4, hb0, h37n, rfl, rfl⟩)⟩
        · refine w_iload_n (i := 2) (n' := 24) dX6_sheet_23 rfl rfl rfl ?_
          refine w_bipush (v := 32) (n' := 26) dX6_sheet_24 rfl (by decide) ?_
          refine w_icmp_eq (n' := 29) (tgt := 36) dX6_sheet_26 rfl rfl (fun h26 => ?_) (fun h26 => ?_)
          · have hb : hasB b = 1 := by unfold hasB; simp [h26]
            have hb0 : ¬ hasB b = 0 := by rw [hb]; decide
            refine w_iload_n (i := 3) (n' := 37) dX6_sheet_36 rfl rfl rfl ?_
            refine w_if_ge (n' := 40) (tgt := 48) dX6_sheet_37 rfl rfl (fun h37 => ?_) (fun h37 => ?_)
            · have h37n : ¬ n < 0 := Int32.not_lt.mpr h37
              refine w_iload_n (i := 3) (n' := 49) dX6_sheet_48 rfl rfl rfl ?_
              refine w_bipush (v := 40) (n' := 51) dX6_sheet_49 rfl (by decide) ?_
              refine w_icmp_le (n' := 54) (tgt := 61) dX6_sheet_51 rfl rfl (fun h51 => ?_) (fun h51 => ?_)
              · have h51n : ¬ 40 < n := Int32.not_lt.mpr h51
                refine w_aload_n (i := 0) (n' := 62) dX6_sheet_61 rfl rfl rfl ?_
                refine w_get (ci := 6) (j := 8) (n' := 65) dX6_sheet_62 rfl fRX6_28 (Nat.le_of_ble_eq_true rfl) (Nat.le_of_ble_eq_true rfl) rfl rfl ?_
                refine w_iload_n (i := 1) (n' := 66) dX6_sheet_65 rfl rfl rfl ?_
                refine w_iload_n (i := 2) (n' := 67) dX6_sheet_66 rfl rfl rfl ?_
                refine w_if_ne (n' := 70) (tgt := 74) dX6_sheet_67 rfl rfl (fun h67 => ?_) (fun h67 => ?_)
                · have h67 : ¬ b = 0 := h67
                  refine w_iload_n (i := 2) (n' := 75) dX6_sheet_74 rfl rfl rfl ?_
                  refine w_iast (n := q) (n' := 76) dX6_sheet_75 rfl rfl hq2 (show q < 4 by omega) ?_
                  refine w_aload_n (i := 0) (n' := 77) dX6_sheet_76 rfl rfl rfl ?_
                  refine w_get (ci := 6) (j := 9) (n' := 80) dX6_sheet_77 rfl fRX6_31 (Nat.le_of_ble_eq_true rfl) (Nat.le_of_ble_eq_true rfl) rfl rfl ?_
                  refine w_iload_n (i := 1) (n' := 81) dX6_sheet_80 rfl rfl rfl ?_
                  refine w_iload_n (i := 2) (n' := 82) dX6_sheet_81 rfl rfl rfl ?_
                  refine w_if_ne (n' := 85) (tgt := 89) dX6_sheet_82 rfl rfl (fun h82 => ?_) (fun h82 => absurd h82 h67)
                  refine w_iload_n (i := 3) (n' := 90) dX6_sheet_89 rfl rfl rfl ?_
                  refine w_iast (n := q) (n' := 91) dX6_sheet_90 rfl rfl hq2 (show q < 4 by omega) ?_
                  rw [show up2 (up2 mem 57 q b) 58 q n = shM mem q b n 0 from by rw [← sh_0, if_neg h67, if_neg h67]]
                  refine w_iconst (v := 0) (n' := 92) dX6_sheet_91 rfl rfl ?_
                  refine w_istore (n' := 94) (ls' := [_, _, _, _, _]) dX6_sheet_92 rfl (Nat.le_of_ble_eq_true rfl) rfl rfl ?_
                  have L : ∀ (k : Nat) (t : Mem), k ≤ 40 → t = shM mem q b n k → Wm mX6_sheet (zM mX6_sheet (fun rZ mZ => ∃ xZ, rZ = some (.int xZ) ∧ (fun x m' => ((inR s 0 3 = 0 ∨ hasB b = 0) ∧ x = -1000001 ∧ m' = fndM mem 0) ∨ (¬ inR s 0 3 = 0 ∧ ¬ hasB b = 0 ∧ n < 0 ∧ x = -1000007 ∧ m' = fndM mem 6) ∨ (¬ inR s 0 3 = 0 ∧ ¬ hasB b = 0 ∧ ¬ n < 0 ∧ 40 < n ∧ x = -1000001 ∧ m' = fndM mem 0) ∨ (∃ q, q < 4 ∧ s = nI q ∧ ¬ inR s 0 3 = 0 ∧ ¬ hasB b = 0 ∧ ¬ n < 0 ∧ ¬ 40 < n ∧ x = (if b = 0 then 0 else n) ∧ m' = shM mem q b n 40)) xZ mZ)) 94 [some (.ref 50), some (.int s), some (.int b), some (.int n), some (.int (nI k))] [] t := by
                    refine for_ind 40 ?_
                    intro k t hk h1 ih
                    refine w_iload (n' := 96) dX6_sheet_94 rfl rfl ?_
                    refine w_bipush (v := 40) (n' := 98) dX6_sheet_96 rfl (by decide) ?_
                    refine w_icmp_ge (n' := 101) (tgt := 120) dX6_sheet_98 rfl rfl (fun h98 => ?_) (fun h98 => ?_)
                    · have hin : k = 40 := by
                        rcases Nat.lt_or_ge k 40 with c | c
                        · exact absurd h98 (by exact nI_ge (b := 40) c (by omega))
                        · omega
                      refine w_aload_n (i := 0) (n' := 121) dX6_sheet_120 rfl rfl rfl ?_
                      refine w_get (ci := 6) (j := 9) (n' := 124) dX6_sheet_121 rfl fRX6_31 (Nat.le_of_ble_eq_true rfl) (Nat.le_of_ble_eq_true rfl) rfl rfl ?_
                      refine w_iload_n (i := 1) (n' := 125) dX6_sheet_124 rfl rfl rfl ?_
                      refine w_iald (n := q) (n' := 126) dX6_sheet_125 rfl rfl hq2 (show q < 4 by omega) ?_
                      exact w_iret dX6_sheet_126 rfl ⟨_, rfl, Or.inr (Or.inr (Or.inr ⟨q, by omega, hq2, h4, hb0, h37n, h51n, by rw [h1, sh_size], by rw [h1, hin]⟩))⟩
                    · have hlt : k < 40 := by
                        rcases Nat.lt_or_ge k 40 with c | c
                        · exact c
                        · exact absurd (by exact nI_le (a := 40) c (by omega)) h98
                      refine w_aload_n (i := 0) (n' := 102) dX6_sheet_101 rfl rfl rfl ?_
                      refine w_get (ci := 6) (j := 10) (n' := 105) dX6_sheet_102 rfl fRX6_34 (Nat.le_of_ble_eq_true rfl) (Nat.le_of_ble_eq_true rfl) rfl rfl ?_
                      refine w_bipush (v := 40) (n' := 107) dX6_sheet_105 rfl (by decide) ?_
                      refine w_iload_n (i := 1) (n' := 108) dX6_sheet_107 rfl rfl rfl ?_
                      refine w_imul (n' := 109) dX6_sheet_108 rfl ?_
                      refine w_iload (n' := 111) dX6_sheet_109 rfl rfl ?_
                      refine w_iadd (n' := 112) dX6_sheet_111 rfl ?_
                      refine w_iconst (v := 0) (n' := 113) dX6_sheet_112 rfl rfl ?_
                      refine w_iast (n := 40 * q + k) (n' := 114) dX6_sheet_113 rfl rfl (by rw [hq2, show (40 : Int32) = nI 40 from rfl, pk_mul, nI_add]) (show 40 * q + k < 160 by omega) ?_
                      refine w_iinc (n' := 117) (v := nI (k + 1)) (ls' := [_, _, _, _, _]) dX6_sheet_114 rfl rfl (nI_1 k) (Nat.le_of_ble_eq_true rfl) rfl rfl ?_
                      refine w_goto (tgt := 94) dX6_sheet_117 rfl ?_
                      exact ih hlt _ (by rw [h1, sh_s])
                  exact L 0 _ (Nat.zero_le _) rfl
                · have h67 : b = 0 := h67
                  refine w_iconst (v := -1) (n' := 71) dX6_sheet_70 rfl rfl ?_
                  refine w_goto (tgt := 75) dX6_sheet_71 rfl ?_
                  refine w_iast (n := q) (n' := 76) dX6_sheet_75 rfl rfl hq2 (show q < 4 by omega) ?_
                  refine w_aload_n (i := 0) (n' := 77) dX6_sheet_76 rfl rfl rfl ?_
                  refine w_get (ci := 6) (j := 9) (n' := 80) dX6_sheet_77 rfl fRX6_31 (Nat.le_of_ble_eq_true rfl) (Nat.le_of_ble_eq_true rfl) rfl rfl ?_
                  refine w_iload_n (i := 1) (n' := 81) dX6_sheet_80 rfl rfl rfl ?_
                  refine w_iload_n (i := 2) (n' := 82) dX6_sheet_81 rfl rfl rfl ?_
                  refine w_if_ne (n' := 85) (tgt := 89) dX6_sheet_82 rfl rfl (fun h82 => absurd h67 h82) (fun h82 => ?_)
                  refine w_iconst (v := 0) (n' := 86) dX6_sheet_85 rfl rfl ?_
                  refine w_goto (tgt := 90) dX6_sheet_86 rfl ?_
                  refine w_iast (n := q) (n' := 91) dX6_sheet_90 rfl rfl hq2 (show q < 4 by omega) ?_
                  rw [show up2 (up2 mem 57 q (-1)) 58 q 0 = shM mem q b n 0 from by rw [← sh_0, if_pos h67, if_pos h67]]
                  refine w_iconst (v := 0) (n' := 92) dX6_sheet_91 rfl rfl ?_
                  refine w_istore (n' := 94) (ls' := [_, _, _, _, _]) dX6_sheet_92 rfl (Nat.le_of_ble_eq_true rfl) rfl rfl ?_
                  have L : ∀ (k : Nat) (t : Mem), k ≤ 40 → t = shM mem q b n k → Wm mX6_sheet (zM mX6_sheet (fun rZ mZ => ∃ xZ, rZ = some (.int xZ) ∧ (fun x m' => ((inR s 0 3 = 0 ∨ hasB b = 0) ∧ x = -1000001 ∧ m' = fndM mem 0) ∨ (¬ inR s 0 3 = 0 ∧ ¬ hasB b = 0 ∧ n < 0 ∧ x = -1000007 ∧ m' = fndM mem 6) ∨ (¬ inR s 0 3 = 0 ∧ ¬ hasB b = 0 ∧ ¬ n < 0 ∧ 40 < n ∧ x = -1000001 ∧ m' = fndM mem 0) ∨ (∃ q, q < 4 ∧ s = nI q ∧ ¬ inR s 0 3 = 0 ∧ ¬ hasB b = 0 ∧ ¬ n < 0 ∧ ¬ 40 < n ∧ x = (if b = 0 then 0 else n) ∧ m' = shM mem q b n 40)) xZ mZ)) 94 [some (.ref 50), some (.int s), some (.int b), some (.int n), some (.int (nI k))] [] t := by
                    refine for_ind 40 ?_
                    intro k t hk h1 ih
                    refine w_iload (n' := 96) dX6_sheet_94 rfl rfl ?_
                    refine w_bipush (v := 40) (n' := 98) dX6_sheet_96 rfl (by decide) ?_
                    refine w_icmp_ge (n' := 101) (tgt := 120) dX6_sheet_98 rfl rfl (fun h98 => ?_) (fun h98 => ?_)
                    · have hin : k = 40 := by
                        rcases Nat.lt_or_ge k 40 with c | c
                        · exact absurd h98 (by exact nI_ge (b := 40) c (by omega))
                        · omega
                      refine w_aload_n (i := 0) (n' := 121) dX6_sheet_120 rfl rfl rfl ?_
                      refine w_get (ci := 6) (j := 9) (n' := 124) dX6_sheet_121 rfl fRX6_31 (Nat.le_of_ble_eq_true rfl) (Nat.le_of_ble_eq_true rfl) rfl rfl ?_
                      refine w_iload_n (i := 1) (n' := 125) dX6_sheet_124 rfl rfl rfl ?_
                      refine w_iald (n := q) (n' := 126) dX6_sheet_125 rfl rfl hq2 (show q < 4 by omega) ?_
                      exact w_iret dX6_sheet_126 rfl ⟨_, rfl, Or.inr (Or.inr (Or.inr ⟨q, by omega, hq2, h4, hb0, h37n, h51n, by rw [h1, sh_size], by rw [h1, hin]⟩))⟩
                    · have hlt : k < 40 := by
                        rcases Nat.lt_or_ge k 40 with c | c
                        · exact c
                        · exact absurd (by exact nI_le (a := 40) c (by omega)) h98
                      refine w_aload_n (i := 0) (n' := 102) dX6_sheet_101 rfl rfl rfl ?_
                      refine w_get (ci := 6) (j := 10) (n' := 105) dX6_sheet_102 rfl fRX6_34 (Nat.le_of_ble_eq_true rfl) (Nat.le_of_ble_eq_true rfl) rfl rfl ?_
                      refine w_bipush (v := 40) (n' := 107) dX6_sheet_105 rfl (by decide) ?_
                      refine w_iload_n (i := 1) (n' := 108) dX6_sheet_107 rfl rfl rfl ?_
                      refine w_imul (n' := 109) dX6_sheet_108 rfl ?_
                      refine w_iload (n' := 111) dX6_sheet_109 rfl rfl ?_
                      refine w_iadd (n' := 112) dX6_sheet_111 rfl ?_
                      refine w_iconst (v := 0) (n' := 113) dX6_sheet_112 rfl rfl ?_
                      refine w_iast (n := 40 * q + k) (n' := 114) dX6_sheet_113 rfl rfl (by rw [hq2, show (40 : Int32) = nI 40 from rfl, pk_mul, nI_add]) (show 40 * q + k < 160 by omega) ?_
                      refine w_iinc (n' := 117) (v := nI (k + 1)) (ls' := [_, _, _, _, _]) dX6_sheet_114 rfl rfl (nI_1 k) (Nat.le_of_ble_eq_true rfl) rfl rfl ?_
                      refine w_goto (tgt := 94) dX6_sheet_117 rfl ?_
                      exact ih hlt _ (by rw [h1, sh_s])
                  exact L 0 _ (Nat.zero_le _) rfl
              · have h51n : 40 < n := Int32.not_le.mp h51
                refine w_aload_n (i := 0) (n' := 55) dX6_sheet_54 rfl rfl rfl ?_
                refine w_ldc (v := -1000001) (n' := 57) dX6_sheet_55 rfl kRX6_43 ?_
                refine v_E (ci := 6) (n' := 60) dX6_sheet_57 rfl lRX6_45 okX6_finds voX6_finds ⟨⟨Nat.le_of_ble_eq_true rfl, Nat.le_of_ble_eq_true rfl⟩, Nat.le_of_ble_eq_true rfl, Nat.le_of_ble_eq_true rfl⟩ (c6_finds 0 _ (by decide) (by decide) _) rfl rfl (Nat.le_of_ble_eq_true rfl) rfl (Nat.le_of_ble_eq_true rfl) rfl ?_
                exact w_iret dX6_sheet_60 rfl ⟨_, rfl, Or.inr (Or.inr (Or.inl ⟨h4, hb0, h37n, h51n, rfl, rfl⟩))⟩
            · have h37n : n < 0 := Int32.not_le.mp h37
              refine w_aload_n (i := 0) (n' := 41) dX6_sheet_40 rfl rfl rfl ?_
              refine w_ldcw (v := -1000007) (n' := 44) dX6_sheet_41 rfl kRX6_295 ?_
              refine v_E (ci := 6) (n' := 47) dX6_sheet_44 rfl lRX6_45 okX6_finds voX6_finds ⟨⟨Nat.le_of_ble_eq_true rfl, Nat.le_of_ble_eq_true rfl⟩, Nat.le_of_ble_eq_true rfl, Nat.le_of_ble_eq_true rfl⟩ (c6_finds 6 _ (by decide) (by decide) _) rfl rfl (Nat.le_of_ble_eq_true rfl) rfl (Nat.le_of_ble_eq_true rfl) rfl ?_
              exact w_iret dX6_sheet_47 rfl ⟨_, rfl, Or.inr (Or.inl ⟨h4, hb0, h37n, rfl, rfl⟩)⟩
          · refine w_aload_n (i := 0) (n' := 30) dX6_sheet_29 rfl rfl rfl ?_
            refine w_ldc (v := -1000001) (n' := 32) dX6_sheet_30 rfl kRX6_43 ?_
            refine v_E (ci := 6) (n' := 35) dX6_sheet_32 rfl lRX6_45 okX6_finds voX6_finds ⟨⟨Nat.le_of_ble_eq_true rfl, Nat.le_of_ble_eq_true rfl⟩, Nat.le_of_ble_eq_true rfl, Nat.le_of_ble_eq_true rfl⟩ (c6_finds 0 _ (by decide) (by decide) _) rfl rfl (Nat.le_of_ble_eq_true rfl) rfl (Nat.le_of_ble_eq_true rfl) rfl ?_
            exact w_iret dX6_sheet_35 rfl ⟨_, rfl, Or.inl ⟨Or.inr (hasB_no h8 h14 h20 h26), rfl, rfl⟩⟩
set_option maxHeartbeats 4000000 in
theorem c6_write (s a v : Int32) (mem : Mem) (hl : ∀ q, q < 4 → ∃ z, z ≤ 40 ∧ mem 58 q = nI z) : CnI mX6_write [.ref 50, .int s, .int a, .int v] mem (fun x m' => (inR s 0 3 = 0 ∧ x = -1000001 ∧ m' = fndM mem 0) ∨ (∃ q, q < 4 ∧ s = nI q ∧ ¬ inR s 0 3 = 0 ∧ ((¬ 0 ≤ mem 57 q ∧ x = -1000006 ∧ m' = fndM mem 5) ∨ (0 ≤ mem 57 q ∧ ((inR a 0 (mem 58 q - 1) = 0 ∧ x = -1000001 ∧ m' = fndM mem 0) ∨ (∃ i z, mem 58 q = nI z ∧ z ≤ 40 ∧ i < z ∧ a = nI i ∧ x = 1 ∧ m' = up2 mem 59 (40 * q + i) (cutB (mem 57 q) v))))))) := by
  refine Cn.of (ls := [some (.ref 50), some (.int s), some (.int a), some (.int v)]) (by decide) rfl (Nat.le_of_ble_eq_true rfl) ?_
  refine w_iload_n (i := 1) (n' := 1) dX6_write_0 rfl rfl rfl ?_
  refine s_E (n' := 4) dX6_write_1 rfl lRX6_292 okX6_isSheet stX6_isSheet ⟨⟨Nat.le_of_ble_eq_true rfl, Nat.le_of_ble_eq_true rfl⟩, Nat.le_of_ble_eq_true rfl, Nat.le_of_ble_eq_true rfl⟩ (c6_isSheet _ _) rfl rfl (Nat.le_of_ble_eq_true rfl) ?_
  refine w_if_ne (n' := 7) (tgt := 14) dX6_write_4 rfl rfl (fun h4 => ?_) (fun h4 => ?_)
  · obtain ⟨q, hq1, hq2⟩ := inR_of (N := 3) (by decide) h4
    obtain ⟨z, hz1, hz2⟩ := hl q (by omega)
    refine w_aload_n (i := 0) (n' := 15) dX6_write_14 rfl rfl rfl ?_
    refine w_get (ci := 6) (j := 8) (n' := 18) dX6_write_15 rfl fRX6_28 (Nat.le_of_ble_eq_true rfl) (Nat.le_of_ble_eq_true rfl) rfl rfl ?_
    refine w_iload_n (i := 1) (n' := 19) dX6_write_18 rfl rfl rfl ?_
    refine w_iald (n := q) (n' := 20) dX6_write_19 rfl rfl hq2 (show q < 4 by omega) ?_
    refine w_if_ge (n' := 23) (tgt := 31) dX6_write_20 rfl rfl (fun h20 => ?_) (fun h20 => ?_)
    · refine w_iload_n (i := 2) (n' := 32) dX6_write_31 rfl rfl rfl ?_
      refine w_i2l (v := _) (n' := 33) dX6_write_32 rfl rfl ?_
      refine w_lconst (v := 0) (n' := 34) dX6_write_33 rfl rfl ?_
      refine w_aload_n (i := 0) (n' := 35) dX6_write_34 rfl rfl rfl ?_
      refine w_get (ci := 6) (j := 9) (n' := 38) dX6_write_35 rfl fRX6_31 (Nat.le_of_ble_eq_true rfl) (Nat.le_of_ble_eq_true rfl) rfl rfl ?_
      refine w_iload_n (i := 1) (n' := 39) dX6_write_38 rfl rfl rfl ?_
      refine w_iald (n := q) (n' := 40) dX6_write_39 rfl rfl hq2 (show q < 4 by omega) ?_
      refine w_iconst (v := 1) (n' := 41) dX6_write_40 rfl rfl ?_
      refine w_isub (n' := 42) dX6_write_41 rfl ?_
      refine w_i2l (v := _) (n' := 43) dX6_write_42 rfl rfl ?_
      refine s_E (n' := 46) dX6_write_43 rfl lRX6_51 okX6_isIn stX6_isIn ⟨⟨Nat.le_of_ble_eq_true rfl, Nat.le_of_ble_eq_true rfl⟩, Nat.le_of_ble_eq_true rfl, Nat.le_of_ble_eq_true rfl⟩ (c6_isIn _ 0 (mem 58 q - 1) _ _ (by decide) rfl _) rfl rfl (Nat.le_of_ble_eq_true rfl) ?_
      refine w_if_ne (n' := 49) (tgt := 56) dX6_write_46 rfl rfl (fun h46 => ?_) (fun h46 => ?_)
      · obtain ⟨p, hp1, hp2⟩ := hasF_of (n := z) (by omega) (by rw [← hz2]; exact h46)
        refine w_aload_n (i := 0) (n' := 57) dX6_write_56 rfl rfl rfl ?_
        refine w_get (ci := 6) (j := 10) (n' := 60) dX6_write_57 rfl fRX6_34 (Nat.le_of_ble_eq_true rfl) (Nat.le_of_ble_eq_true rfl) rfl rfl ?_
        refine w_bipush (v := 40) (n' := 62) dX6_write_60 rfl (by decide) ?_
        refine w_iload_n (i := 1) (n' := 63) dX6_write_62 rfl rfl rfl ?_
        refine w_imul (n' := 64) dX6_write_63 rfl ?_
        refine w_iload_n (i := 2) (n' := 65) dX6_write_64 rfl rfl rfl ?_
        refine w_iadd (n' := 66) dX6_write_65 rfl ?_
        refine w_aload_n (i := 0) (n' := 67) dX6_write_66 rfl rfl rfl ?_
        refine w_get (ci := 6) (j := 8) (n' := 70) dX6_write_67 rfl fRX6_28 (Nat.le_of_ble_eq_true rfl) (Nat.le_of_ble_eq_true rfl) rfl rfl ?_
        refine w_iload_n (i := 1) (n' := 71) dX6_write_70 rfl rfl rfl ?_
        refine w_iald (n := q) (n' := 72) dX6_write_71 rfl rfl hq2 (show q < 4 by omega) ?_
        refine w_bipush (v := 8) (n' := 74) dX6_write_72 rfl (by decide) ?_
        refine w_icmp_ne (n' := 77) (tgt := 82) dX6_write_74 rfl rfl (fun h74 => ?_) (fun h74 => ?_)
        · refine w_aload_n (i := 0) (n' := 83) dX6_write_82 rfl rfl rfl ?_
          refine w_get (ci := 6) (j := 8) (n' := 86) dX6_write_83 rfl fRX6_28 (Nat.le_of_ble_eq_true rfl) (Nat.le_of_ble_eq_true rfl) rfl rfl ?_
          refine w_iload_n (i := 1) (n' := 87) dX6_write_86 rfl rfl rfl ?_
          refine w_iald (n := q) (n' := 88) dX6_write_87 rfl rfl hq2 (show q < 4 by omega) ?_
          refine w_bipush (v := 16) (n' := 90) dX6_write_88 rfl (by decide) ?_
          refine w_icmp_ne (n' := 93) (tgt := 98) dX6_write_90 rfl rfl (fun h90 => ?_) (fun h90 => ?_)
          · refine w_iload_n (i := 3) (n' := 99) dX6_write_98 rfl rfl rfl ?_
            refine w_iast (n := 40 * q + p) (n' := 100) dX6_write_99 rfl rfl (by rw [hq2, hp2, show (40 : Int32) = nI 40 from rfl, pk_mul, nI_add]) (show 40 * q + p < 160 by omega) ?_
            refine w_iconst (v := 1) (n' := 101) dX6_write_100 rfl rfl ?_
            exact w_iret dX6_write_101 rfl ⟨_, rfl, Or.inr ⟨q, by omega, hq2, h4, Or.inr ⟨h20, Or.inr ⟨p, z, hz2, hz1, hp1, hp2, rfl, by rw [cutB, if_neg h74, if_neg h90]⟩⟩⟩⟩
          · refine w_iload_n (i := 3) (n' := 94) dX6_write_93 rfl rfl rfl ?_
            refine w_i2s (v := _) (n' := 95) dX6_write_94 rfl rfl ?_
            refine w_goto (tgt := 99) dX6_write_95 rfl ?_
            refine w_iast (n := 40 * q + p) (n' := 100) dX6_write_99 rfl rfl (by rw [hq2, hp2, show (40 : Int32) = nI 40 from rfl, pk_mul, nI_add]) (show 40 * q + p < 160 by omega) ?_
            refine w_iconst (v := 1) (n' := 101) dX6_write_100 rfl rfl ?_
            exact w_iret dX6_write_101 rfl ⟨_, rfl, Or.inr ⟨q, by omega, hq2, h4, Or.inr ⟨h20, Or.inr ⟨p, z, hz2, hz1, hp1, hp2, rfl, by rw [cutB, if_neg h74, if_pos h90]⟩⟩⟩⟩
        · refine w_iload_n (i := 3) (n' := 78) dX6_write_77 rfl rfl rfl ?_
          refine w_i2b (v := _) (n' := 79) dX6_write_78 rfl rfl ?_
          refine w_goto (tgt := 99) dX6_write_79 rfl ?_
          refine w_iast (n := 40 * q + p) (n' := 100) dX6_write_99 rfl rfl (by rw [hq2, hp2, show (40 : Int32) = nI 40 from rfl, pk_mul, nI_add]) (show 40 * q + p < 160 by omega) ?_
          refine w_iconst (v := 1) (n' := 101) dX6_write_100 rfl rfl ?_
          exact w_iret dX6_write_101 rfl ⟨_, rfl, Or.inr ⟨q, by omega, hq2, h4, Or.inr ⟨h20, Or.inr ⟨p, z, hz2, hz1, hp1, hp2, rfl, by rw [cutB, if_pos h74]⟩⟩⟩⟩
      · refine w_aload_n (i := 0) (n' := 50) dX6_write_49 rfl rfl rfl ?_
        refine w_ldc (v := -1000001) (n' := 52) dX6_write_50 rfl kRX6_43 ?_
        refine v_E (ci := 6) (n' := 55) dX6_write_52 rfl lRX6_45 okX6_finds voX6_finds ⟨⟨Nat.le_of_ble_eq_true rfl, Nat.le_of_ble_eq_true rfl⟩, Nat.le_of_ble_eq_true rfl, Nat.le_of_ble_eq_true rfl⟩ (c6_finds 0 _ (by decide) (by decide) _) rfl rfl (Nat.le_of_ble_eq_true rfl) rfl (Nat.le_of_ble_eq_true rfl) rfl ?_
        exact w_iret dX6_write_55 rfl ⟨_, rfl, Or.inr ⟨q, by omega, hq2, h4, Or.inr ⟨h20, Or.inl ⟨by simpa using h46, rfl, rfl⟩⟩⟩⟩
    · refine w_aload_n (i := 0) (n' := 24) dX6_write_23 rfl rfl rfl ?_
      refine w_ldcw (v := -1000006) (n' := 27) dX6_write_24 rfl kRX6_287 ?_
      refine v_E (ci := 6) (n' := 30) dX6_write_27 rfl lRX6_45 okX6_finds voX6_finds ⟨⟨Nat.le_of_ble_eq_true rfl, Nat.le_of_ble_eq_true rfl⟩, Nat.le_of_ble_eq_true rfl, Nat.le_of_ble_eq_true rfl⟩ (c6_finds 5 _ (by decide) (by decide) _) rfl rfl (Nat.le_of_ble_eq_true rfl) rfl (Nat.le_of_ble_eq_true rfl) rfl ?_
      exact w_iret dX6_write_30 rfl ⟨_, rfl, Or.inr ⟨q, by omega, hq2, h4, Or.inl ⟨h20, rfl, rfl⟩⟩⟩
  · refine w_aload_n (i := 0) (n' := 8) dX6_write_7 rfl rfl rfl ?_
    refine w_ldc (v := -1000001) (n' := 10) dX6_write_8 rfl kRX6_43 ?_
    refine v_E (ci := 6) (n' := 13) dX6_write_10 rfl lRX6_45 okX6_finds voX6_finds ⟨⟨Nat.le_of_ble_eq_true rfl, Nat.le_of_ble_eq_true rfl⟩, Nat.le_of_ble_eq_true rfl, Nat.le_of_ble_eq_true rfl⟩ (c6_finds 0 _ (by decide) (by decide) _) rfl rfl (Nat.le_of_ble_eq_true rfl) rfl (Nat.le_of_ble_eq_true rfl) rfl ?_
    exact w_iret dX6_write_13 rfl ⟨_, rfl, Or.inl ⟨by simpa using h4, rfl, rfl⟩⟩
