/-! the reference: draws, odds, the tape, spots, sheets -/
set_option maxHeartbeats 4000000 in
theorem c6_draw (mem : Mem) : CnE mX6_draw [.ref 50] mem (some (.int (dr8 (mem 51 2)))) (up2 mem 51 2 (drw (mem 51 2))) := by
  refine Cn.of (ls := [some (.ref 50)]) (by decide) rfl (Nat.le_of_ble_eq_true rfl) ?_
  refine w_aload_n (i := 0) (n' := 1) dX6_draw_0 rfl rfl rfl ?_
  refine w_get (ci := 6) (j := 0) (n' := 4) dX6_draw_1 rfl fRX6_7 (Nat.le_of_ble_eq_true rfl) (Nat.le_of_ble_eq_true rfl) rfl rfl ?_
  refine w_iconst (v := 2) (n' := 5) dX6_draw_4 rfl rfl ?_
  refine w_aload_n (i := 0) (n' := 6) dX6_draw_5 rfl rfl rfl ?_
  refine w_get (ci := 6) (j := 0) (n' := 9) dX6_draw_6 rfl fRX6_7 (Nat.le_of_ble_eq_true rfl) (Nat.le_of_ble_eq_true rfl) rfl rfl ?_
  refine w_iconst (v := 2) (n' := 10) dX6_draw_9 rfl rfl ?_
  refine w_iald (n := 2) (n' := 11) dX6_draw_10 rfl rfl (by decide) (by decide) ?_
  refine w_ldc (v := 1103515245) (n' := 13) dX6_draw_11 rfl kRX6_204 ?_
  refine w_imul (n' := 14) dX6_draw_13 rfl ?_
  refine w_sipush (v := 12345) (n' := 17) dX6_draw_14 rfl (by decide) ?_
  refine w_iadd (n' := 18) dX6_draw_17 rfl ?_
  refine w_iast (n := 2) (n' := 19) dX6_draw_18 rfl rfl (by decide) (by decide) ?_
  refine w_aload_n (i := 0) (n' := 20) dX6_draw_19 rfl rfl rfl ?_
  refine w_get (ci := 6) (j := 0) (n' := 23) dX6_draw_20 rfl fRX6_7 (Nat.le_of_ble_eq_true rfl) (Nat.le_of_ble_eq_true rfl) rfl rfl ?_
  refine w_iconst (v := 2) (n' := 24) dX6_draw_23 rfl rfl ?_
  refine w_iald (n := 2) (n' := 25) dX6_draw_24 rfl rfl (by decide) (by decide) ?_
  rw [up2_v1]
  refine w_bipush (v := 8) (n' := 27) dX6_draw_25 rfl (by decide) ?_
  refine w_iushr (n' := 28) (v := _) dX6_draw_27 rfl rfl ?_
  exact w_iret dX6_draw_28 rfl ⟨rfl, rfl⟩
def wdrR (r : Nat → Int32) : Nat → Int32 := upd (upd (upd (upd r 2 (drw (r 2))) 3 (rem100 (dr8 (r 2)))) 2 (drw (drw (r 2)))) 5 (rem100 (dr8 (drw (r 2))))
def wthR (r : Nat → Int32) (n : Nat) : Nat → Nat → Int32
  | 0 => r
  | y + 1 => yearR (wdrR (wthR r n y)) n
theorem MOR_wdr {r : Nat → Int32} {n : Nat} (h : MOR r n) : MOR (wdrR r) n := by
  obtain ⟨w, w1, w2⟩ := rem100_nn (r 2)
  refine ⟨by rw [← h.1]; simp [wdrR, upd], h.2.1, ⟨w, by omega, by rw [← w2]; simp [wdrR, upd]⟩, fun i hi => ?_⟩
  refine FB_congr (fun j hj => ?_) (h.2.2.2 i hi)
  unfold wdrR
  simp only [upd]
  rw [if_neg (by omega), if_neg (by omega), if_neg (by omega), if_neg (by omega)]
theorem MOR_wth {r : Nat → Int32} {n : Nat} (h : MOR r n) : ∀ y, MOR (wthR r n y) n
  | 0 => h
  | y + 1 => MOR_year (MOR_wdr (MOR_wth h y))
theorem wdr_rw {mem s : Mem} {r : Nat → Int32} (h : RW mem r s) : RW mem (wdrR r) (up2 (up2 (up2 (up2 s 51 2 (drw (s 51 2))) 51 3 (rem100 (dr8 (s 51 2)))) 51 2 (drw (drw (s 51 2)))) 51 5 (rem100 (dr8 (drw (s 51 2))))) := by
  refine ⟨?_, fun a a1 a2 => by rw [up2_ne _ _ _ a1, up2_ne _ _ _ a1, up2_ne _ _ _ a1, up2_ne _ _ _ a1]; exact h.2 a a1 a2⟩
  rw [up2_same, up2_same, up2_same, up2_same, h.1]
  rfl
set_option maxHeartbeats 4000000 in
theorem c6_weathers {n : Nat} {mem : Mem} (h : MO mem n) (a : Int32) : CnI mX6_weathers [.ref 50, .int a] mem (fun x m' => (inR a 1 20 = 0 ∧ x = -1000001 ∧ m' = fndM mem 0) ∨ (¬ inR a 1 20 = 0 ∧ ¬ mem 51 1 + a ≤ 99999 ∧ x = -1000005 ∧ m' = fndM mem 4) ∨ (∃ y, 1 ≤ y ∧ y ≤ 20 ∧ a = nI y ∧ mem 51 1 + a ≤ 99999 ∧ x = leanR (wthR (mem 51) n y) n (lastS (DR (wthR (mem 51) n y)) n) ∧ RW mem (wthR (mem 51) n y) m')) := by
  have h8 := h.2.1
  have hR := MO_R.mp h
  refine Cn.of (ls := [some (.ref 50), some (.int a), none]) (by decide) rfl (Nat.le_of_ble_eq_true rfl) ?_
  refine w_iload_n (i := 1) (n' := 1) dX6_weathers_0 rfl rfl rfl ?_
  refine w_i2l (v := _) (n' := 2) dX6_weathers_1 rfl rfl ?_
  refine w_lconst (v := 1) (n' := 3) dX6_weathers_2 rfl rfl ?_
  refine w_ldc2 (v := 20) (n' := 6) dX6_weathers_3 rfl kRX6_94 ?_
  refine s_E (n' := 9) dX6_weathers_6 rfl lRX6_51 okX6_isIn stX6_isIn ⟨⟨Nat.le_of_ble_eq_true rfl, Nat.le_of_ble_eq_true rfl⟩, Nat.le_of_ble_eq_true rfl, Nat.le_of_ble_eq_true rfl⟩ (c6_isIn _ (1) (20) _ _ (by decide) (by decide) _) rfl rfl (Nat.le_of_ble_eq_true rfl) ?_
  refine w_if_ne (n' := 12) (tgt := 19) dX6_weathers_9 rfl rfl (fun h9 => ?_) (fun h9 => ?_)
  · refine w_aload_n (i := 0) (n' := 20) dX6_weathers_19 rfl rfl rfl ?_
    refine w_get (ci := 6) (j := 0) (n' := 23) dX6_weathers_20 rfl fRX6_7 (Nat.le_of_ble_eq_true rfl) (Nat.le_of_ble_eq_true rfl) rfl rfl ?_
    refine w_iconst (v := 1) (n' := 24) dX6_weathers_23 rfl rfl ?_
    refine w_iald (n := 1) (n' := 25) dX6_weathers_24 rfl rfl (by decide) (by decide) ?_
    refine w_iload_n (i := 1) (n' := 26) dX6_weathers_25 rfl rfl rfl ?_
    refine w_iadd (n' := 27) dX6_weathers_26 rfl ?_
    refine w_ldc (v := 99999) (n' := 29) dX6_weathers_27 rfl kRX6_147 ?_
    refine w_icmp_le (n' := 32) (tgt := 39) dX6_weathers_29 rfl rfl (fun h29 => ?_) (fun h29 => ?_)
    · obtain ⟨y, hy1, hy2, hy3⟩ := inR_1 (K := 1) (N := 20) (by decide) (by decide) h9
      refine w_iconst (v := 0) (n' := 40) dX6_weathers_39 rfl rfl ?_
      refine w_istore_n (i := 2) (n' := 41) (ls' := [_, _, _]) dX6_weathers_40 rfl rfl (Nat.le_of_ble_eq_true rfl) rfl rfl ?_
      have L : ∀ (i : Nat) (s : Mem), i ≤ y → RW mem (wthR (mem 51) n i) s → Wm mX6_weathers (zM mX6_weathers (fun rZ mZ => ∃ xZ, rZ = some (.int xZ) ∧ (fun x m' => (inR a 1 20 = 0 ∧ x = -1000001 ∧ m' = fndM mem 0) ∨ (¬ inR a 1 20 = 0 ∧ ¬ mem 51 1 + a ≤ 99999 ∧ x = -1000005 ∧ m' = fndM mem 4) ∨ (∃ y, 1 ≤ y ∧ y ≤ 20 ∧ a = nI y ∧ mem 51 1 + a ≤ 99999 ∧ x = leanR (wthR (mem 51) n y) n (lastS (DR (wthR (mem 51) n y)) n) ∧ RW mem (wthR (mem 51) n y) m')) xZ mZ)) 41 [some (.ref 50), some (.int a), some (.int (nI i))] [] s := by
        refine for_ind y ?_
        intro i s hi h1 ih
        have hp := h1.MO (MOR_wth hR i)
        refine w_iload_n (i := 2) (n' := 42) dX6_weathers_41 rfl rfl rfl ?_
        refine w_iload_n (i := 1) (n' := 43) dX6_weathers_42 rfl rfl rfl ?_
        refine w_icmp_ge (n' := 46) (tgt := 82) dX6_weathers_43 rfl rfl (fun h43 => ?_) (fun h43 => ?_)
        · have hin : i = y := by
            rcases Nat.lt_or_ge i y with c | c
            · exact absurd h43 (by rw [hy3]; exact nI_ge (b := y) c (by omega))
            · omega
          subst hin
          refine w_aload_n (i := 0) (n' := 83) dX6_weathers_82 rfl rfl rfl ?_
          refine v_E (ci := 6) (n' := 86) dX6_weathers_83 rfl lRX6_131 okX6_leanNow voX6_leanNow ⟨⟨Nat.le_of_ble_eq_true rfl, Nat.le_of_ble_eq_true rfl⟩, Nat.le_of_ble_eq_true rfl, Nat.le_of_ble_eq_true rfl⟩ (c6_leanNow hp) rfl rfl (Nat.le_of_ble_eq_true rfl) rfl (Nat.le_of_ble_eq_true rfl) rfl ?_
          exact w_iret dX6_weathers_86 rfl ⟨_, rfl, Or.inr (Or.inr ⟨i, hy1, hy2, hy3, h29, by rw [h1.lean, h1.DM], h1.cd⟩)⟩
        · have hlt : i < y := by
            rcases Nat.lt_or_ge i y with c | c
            · exact c
            · exact absurd (by rw [hy3]; exact nI_le (a := y) c (by omega)) h43
          refine w_aload_n (i := 0) (n' := 47) dX6_weathers_46 rfl rfl rfl ?_
          refine w_get (ci := 6) (j := 0) (n' := 50) dX6_weathers_47 rfl fRX6_7 (Nat.le_of_ble_eq_true rfl) (Nat.le_of_ble_eq_true rfl) rfl rfl ?_
          refine w_iconst (v := 3) (n' := 51) dX6_weathers_50 rfl rfl ?_
          refine w_aload_n (i := 0) (n' := 52) dX6_weathers_51 rfl rfl rfl ?_
          refine v_E (ci := 6) (n' := 55) dX6_weathers_52 rfl lRX6_205 okX6_draw voX6_draw ⟨⟨Nat.le_of_ble_eq_true rfl, Nat.le_of_ble_eq_true rfl⟩, Nat.le_of_ble_eq_true rfl, Nat.le_of_ble_eq_true rfl⟩ (c6_draw _) rfl rfl (Nat.le_of_ble_eq_true rfl) rfl (Nat.le_of_ble_eq_true rfl) rfl ?_
          refine w_bipush (v := 100) (n' := 57) dX6_weathers_55 rfl (by decide) ?_
          refine w_irem (n' := 58) dX6_weathers_57 rfl (by decide) ?_
          refine w_iast (n := 3) (n' := 59) dX6_weathers_58 rfl rfl (by decide) (by decide) ?_
          refine w_aload_n (i := 0) (n' := 60) dX6_weathers_59 rfl rfl rfl ?_
          refine w_get (ci := 6) (j := 0) (n' := 63) dX6_weathers_60 rfl fRX6_7 (Nat.le_of_ble_eq_true rfl) (Nat.le_of_ble_eq_true rfl) rfl rfl ?_
          refine w_iconst (v := 5) (n' := 64) dX6_weathers_63 rfl rfl ?_
          refine w_aload_n (i := 0) (n' := 65) dX6_weathers_64 rfl rfl rfl ?_
          refine v_E (ci := 6) (n' := 68) dX6_weathers_65 rfl lRX6_205 okX6_draw voX6_draw ⟨⟨Nat.le_of_ble_eq_true rfl, Nat.le_of_ble_eq_true rfl⟩, Nat.le_of_ble_eq_true rfl, Nat.le_of_ble_eq_true rfl⟩ (c6_draw _) rfl rfl (Nat.le_of_ble_eq_true rfl) rfl (Nat.le_of_ble_eq_true rfl) rfl ?_
          rw [show up2 (up2 s 51 2 (drw (s 51 2))) 51 3 (dr8 (s 51 2) - dr8 (s 51 2) / 100 * 100) 51 2 = drw (s 51 2) from by simp [up2_v]]
          refine w_bipush (v := 100) (n' := 70) dX6_weathers_68 rfl (by decide) ?_
          refine w_irem (n' := 71) dX6_weathers_70 rfl (by decide) ?_
          refine w_iast (n := 5) (n' := 72) dX6_weathers_71 rfl rfl (by decide) (by decide) ?_
          have h3 := wdr_rw h1
          unfold rem100 at h3
          have hq := h3.MO (MOR_wdr (MOR_wth hR i))
          refine w_aload_n (i := 0) (n' := 73) dX6_weathers_72 rfl rfl rfl ?_
          refine v_V (ci := 6) (n' := 76) dX6_weathers_73 rfl lRX6_142 okX6_year voX6_year ⟨⟨Nat.le_of_ble_eq_true rfl, Nat.le_of_ble_eq_true rfl⟩, Nat.le_of_ble_eq_true rfl, Nat.le_of_ble_eq_true rfl⟩ (c6_year hq) rfl rfl (Nat.le_of_ble_eq_true rfl) rfl (Nat.le_of_ble_eq_true rfl) rfl (fun m73 q73 => ?_)
          refine w_iinc (n' := 79) (v := nI (i + 1)) (ls' := [_, _, _]) dX6_weathers_76 rfl rfl (nI_1 i) (Nat.le_of_ble_eq_true rfl) rfl rfl ?_
          refine w_goto (tgt := 41) dX6_weathers_79 rfl ?_
          exact ih hlt _ (by rw [h3.1] at q73; exact h3.tr q73)
      exact L 0 _ (Nat.zero_le _) (RW.rf mem)
    · refine w_aload_n (i := 0) (n' := 33) dX6_weathers_32 rfl rfl rfl ?_
      refine w_ldc (v := -1000005) (n' := 35) dX6_weathers_33 rfl kRX6_148 ?_
      refine v_E (ci := 6) (n' := 38) dX6_weathers_35 rfl lRX6_45 okX6_finds voX6_finds ⟨⟨Nat.le_of_ble_eq_true rfl, Nat.le_of_ble_eq_true rfl⟩, Nat.le_of_ble_eq_true rfl, Nat.le_of_ble_eq_true rfl⟩ (c6_finds 4 _ (by decide) (by decide) _) rfl rfl (Nat.le_of_ble_eq_true rfl) rfl (Nat.le_of_ble_eq_true rfl) rfl ?_
      exact w_iret dX6_weathers_38 rfl ⟨_, rfl, Or.inr (Or.inl ⟨h9, h29, rfl, rfl⟩)⟩
  · refine w_aload_n (i := 0) (n' := 13) dX6_weathers_12 rfl rfl rfl ?_
    refine w_ldc (v := -1000001) (n' := 15) dX6_weathers_13 rfl kRX6_43 ?_
    refine v_E (ci := 6) (n' := 18) dX6_weathers_15 rfl lRX6_45 okX6_finds voX6_finds ⟨⟨Nat.le_of_ble_eq_true rfl, Nat.le_of_ble_eq_true rfl⟩, Nat.le_of_ble_eq_true rfl, Nat.le_of_ble_eq_true rfl⟩ (c6_finds 0 _ (by decide) (by decide) _) rfl rfl (Nat.le_of_ble_eq_true rfl) rfl (Nat.le_of_ble_eq_true rfl) rfl ?_
    exact w_iret dX6_weathers_18 rfl ⟨_, rfl, Or.inl ⟨by simpa using h9, rfl, rfl⟩⟩
set_option maxHeartbeats 4000000 in
theorem c6_odds (a b : Int32) (mem : Mem) : Cn mX6_odds [.ref 50, .int a, .int b] mem (fun r m' => ((inR a 0 12 = 0 ∨ inR b 0 1 = 0) ∧ r = some (.long (-1000001 : Int32).toInt64) ∧ m' = fndM mem 0) ∨ (¬ inR b 0 1 = 0 ∧ ∃ y, y ≤ 12 ∧ a = nI y ∧ r = some (.long (pwL (if b = 0 then 3 else 5) y)) ∧ m' = mem)) := by
  refine Cn.of (ls := [some (.ref 50), some (.int a), some (.int b), none, none, none]) (by decide) rfl (Nat.le_of_ble_eq_true rfl) ?_
  refine w_iload_n (i := 1) (n' := 1) dX6_odds_0 rfl rfl rfl ?_
  refine w_i2l (v := _) (n' := 2) dX6_odds_1 rfl rfl ?_
  refine w_lconst (v := 0) (n' := 3) dX6_odds_2 rfl rfl ?_
  refine w_ldc2 (v := 12) (n' := 6) dX6_odds_3 rfl kRX6_208 ?_
  refine s_E (n' := 9) dX6_odds_6 rfl lRX6_51 okX6_isIn stX6_isIn ⟨⟨Nat.le_of_ble_eq_true rfl, Nat.le_of_ble_eq_true rfl⟩, Nat.le_of_ble_eq_true rfl, Nat.le_of_ble_eq_true rfl⟩ (c6_isIn _ (0) (12) _ _ (by decide) (by decide) _) rfl rfl (Nat.le_of_ble_eq_true rfl) ?_
  refine w_if_eq (n' := 12) (tgt := 22) dX6_odds_9 rfl rfl (fun h9 => ?_) (fun h9 => ?_)
  · refine w_aload_n (i := 0) (n' := 23) dX6_odds_22 rfl rfl rfl ?_
    refine w_ldc (v := -1000001) (n' := 25) dX6_odds_23 rfl kRX6_43 ?_
    refine v_E (ci := 6) (n' := 28) dX6_odds_25 rfl lRX6_45 okX6_finds voX6_finds ⟨⟨Nat.le_of_ble_eq_true rfl, Nat.le_of_ble_eq_true rfl⟩, Nat.le_of_ble_eq_true rfl, Nat.le_of_ble_eq_true rfl⟩ (c6_finds 0 _ (by decide) (by decide) _) rfl rfl (Nat.le_of_ble_eq_true rfl) rfl (Nat.le_of_ble_eq_true rfl) rfl ?_
    refine w_i2l (v := _) (n' := 29) dX6_odds_28 rfl rfl ?_
    exact w_lret dX6_odds_29 rfl (Or.inl ⟨Or.inl h9, rfl, rfl⟩)
  · refine w_iload_n (i := 2) (n' := 13) dX6_odds_12 rfl rfl rfl ?_
    refine w_i2l (v := _) (n' := 14) dX6_odds_13 rfl rfl ?_
    refine w_lconst (v := 0) (n' := 15) dX6_odds_14 rfl rfl ?_
    refine w_lconst (v := 1) (n' := 16) dX6_odds_15 rfl rfl ?_
    refine s_E (n' := 19) dX6_odds_16 rfl lRX6_51 okX6_isIn stX6_isIn ⟨⟨Nat.le_of_ble_eq_true rfl, Nat.le_of_ble_eq_true rfl⟩, Nat.le_of_ble_eq_true rfl, Nat.le_of_ble_eq_true rfl⟩ (c6_isIn _ (0) (1) _ _ (by decide) (by decide) _) rfl rfl (Nat.le_of_ble_eq_true rfl) ?_
    refine w_if_ne (n' := 22) (tgt := 30) dX6_odds_19 rfl rfl (fun h19 => ?_) (fun h19 => ?_)
    · obtain ⟨y, hy1, hy2⟩ := inR_of (N := 12) (by decide) h9
      refine w_lconst (v := 1) (n' := 31) dX6_odds_30 rfl rfl ?_
      refine w_lstore_n (i := 3) (n' := 32) (ls' := [_, _, _, _, _, _]) dX6_odds_31 rfl rfl (Nat.le_of_ble_eq_true rfl) rfl rfl ?_
      refine w_iconst (v := 0) (n' := 33) dX6_odds_32 rfl rfl ?_
      refine w_istore (n' := 35) (ls' := [_, _, _, _, _, _]) dX6_odds_33 rfl (Nat.le_of_ble_eq_true rfl) rfl rfl ?_
      have L : ∀ (i : Nat) (v : Int64), i ≤ y → v = pwL (if b = 0 then 3 else 5) i → Wm mX6_odds (zM mX6_odds (fun r m' => ((inR a 0 12 = 0 ∨ inR b 0 1 = 0) ∧ r = some (.long (-1000001 : Int32).toInt64) ∧ m' = fndM mem 0) ∨ (¬ inR b 0 1 = 0 ∧ ∃ y, y ≤ 12 ∧ a = nI y ∧ r = some (.long (pwL (if b = 0 then 3 else 5) y)) ∧ m' = mem))) 35 [some (.ref 50), some (.int a), some (.int b), some (.long v), none, some (.int (nI i))] [] mem := by
        refine for_ind y ?_
        intro i v hi h1 ih
        refine w_iload (n' := 37) dX6_odds_35 rfl rfl ?_
        refine w_iload_n (i := 1) (n' := 38) dX6_odds_37 rfl rfl rfl ?_
        refine w_icmp_ge (n' := 41) (tgt := 63) dX6_odds_38 rfl rfl (fun h38 => ?_) (fun h38 => ?_)
        · have hin : i = y := by
            rcases Nat.lt_or_ge i y with c | c
            · exact absurd h38 (by rw [hy2]; exact nI_ge (b := y) c (by omega))
            · omega
          refine w_lload_n (i := 3) (n' := 64) dX6_odds_63 rfl rfl rfl ?_
          exact w_lret dX6_odds_64 rfl (Or.inr ⟨h19, y, hy1, hy2, by rw [h1, hin], rfl⟩)
        · have hlt : i < y := by
            rcases Nat.lt_or_ge i y with c | c
            · exact c
            · exact absurd (by rw [hy2]; exact nI_le (a := y) c (by omega)) h38
          refine w_lload_n (i := 3) (n' := 42) dX6_odds_41 rfl rfl rfl ?_
          refine w_iload_n (i := 2) (n' := 43) dX6_odds_42 rfl rfl rfl ?_
          refine w_if_ne (n' := 46) (tgt := 52) dX6_odds_43 rfl rfl (fun h43 => ?_) (fun h43 => ?_)
          · refine w_ldc2 (v := 5) (n' := 55) dX6_odds_52 rfl kRX6_212 ?_
            refine w_lmul (n' := 56) dX6_odds_55 rfl ?_
            refine w_lstore_n (i := 3) (n' := 57) (ls' := [_, _, _, _, _, _]) dX6_odds_56 rfl rfl (Nat.le_of_ble_eq_true rfl) rfl rfl ?_
            refine w_iinc (n' := 60) (v := nI (i + 1)) (ls' := [_, _, _, _, _, _]) dX6_odds_57 rfl rfl (nI_1 i) (Nat.le_of_ble_eq_true rfl) rfl rfl ?_
            refine w_goto (tgt := 35) dX6_odds_60 rfl ?_
            exact ih hlt _ (by rw [h1, pwL, if_neg h43])
          · refine w_ldc2 (v := 3) (n' := 49) dX6_odds_46 rfl kRX6_210 ?_
            refine w_goto (tgt := 55) dX6_odds_49 rfl ?_
            refine w_lmul (n' := 56) dX6_odds_55 rfl ?_
            refine w_lstore_n (i := 3) (n' := 57) (ls' := [_, _, _, _, _, _]) dX6_odds_56 rfl rfl (Nat.le_of_ble_eq_true rfl) rfl rfl ?_
            refine w_iinc (n' := 60) (v := nI (i + 1)) (ls' := [_, _, _, _, _, _]) dX6_odds_57 rfl rfl (nI_1 i) (Nat.le_of_ble_eq_true rfl) rfl rfl ?_
            refine w_goto (tgt := 35) dX6_odds_60 rfl ?_
            exact ih hlt _ (by rw [h1, pwL, if_pos h43])
      exact L 0 1 (Nat.zero_le _) rfl
    · refine w_aload_n (i := 0) (n' := 23) dX6_odds_22 rfl rfl rfl ?_
      refine w_ldc (v := -1000001) (n' := 25) dX6_odds_23 rfl kRX6_43 ?_
      refine v_E (ci := 6) (n' := 28) dX6_odds_25 rfl lRX6_45 okX6_finds voX6_finds ⟨⟨Nat.le_of_ble_eq_true rfl, Nat.le_of_ble_eq_true rfl⟩, Nat.le_of_ble_eq_true rfl, Nat.le_of_ble_eq_true rfl⟩ (c6_finds 0 _ (by decide) (by decide) _) rfl rfl (Nat.le_of_ble_eq_true rfl) rfl (Nat.le_of_ble_eq_true rfl) rfl ?_
      refine w_i2l (v := _) (n' := 29) dX6_odds_28 rfl rfl ?_
      exact w_lret dX6_odds_29 rfl (Or.inl ⟨Or.inr (by simpa using h19), rfl, rfl⟩)
theorem fd_dec (k e : Nat) : nI (e - 1 - k) + (-1) = nI (e - (k + 1)) - 1 := by
  rw [show e - 1 - k = e - (k + 1) by omega, Int32.sub_eq_add_neg]
def byN (v : Int32) (t : Nat) : Int32 := (v >>> ((8 * nI t) &&& 31)) &&& 255
def fedM (m : Mem) (v : Int32) (c e k : Nat) : Mem := upR (up2 m 50 7 (nI (c + k))) 56 (fun j => if c ≤ j ∧ j < c + k then byN v (e - 1 - (j - c)) else m 56 j)
theorem fed_0 {m : Mem} {v : Int32} {c e : Nat} (h : m 50 7 = nI c) : fedM m v c e 0 = m := by
  unfold fedM
  funext a
  by_cases h1 : a = 56
  · subst h1
    rw [upR_same]
    funext j
    rw [if_neg (by omega)]
  · rw [upR_ne _ _ h1, Nat.add_zero, ← h]
    by_cases h2 : a = 50
    · subst h2
      rw [up2_same, upd_self]
    · rw [up2_ne _ _ _ h2]
theorem fed_at (m : Mem) (v : Int32) (c e k : Nat) : fedM m v c e k 50 7 = nI (c + k) := by
  unfold fedM
  rw [upR_ne _ _ (by decide), up2_v1]
theorem fed_s (m : Mem) (v : Int32) {c e k : Nat} (hk : k < e) : up2 (up2 (fedM m v c e k) 56 (c + k) (byN v (e - 1 - k))) 50 7 (nI (c + k + 1)) = fedM m v c e (k + 1) := by
  funext a
  by_cases h1 : a = 56
  · subst h1
    rw [up2_ne _ _ _ (by decide), up2_same]
    unfold fedM
    rw [upR_same, upR_same]
    funext j
    by_cases h2 : j = c + k
    · subst h2
      simp only [upd, if_true]
      rw [if_pos (by omega), show c + k - c = k by omega]
    · simp only [upd, if_neg h2]
      by_cases h3 : c ≤ j ∧ j < c + k
      · rw [if_pos h3, if_pos (by omega)]
      · rw [if_neg h3, if_neg (by omega)]
  · by_cases h2 : a = 50
    · subst h2
      rw [up2_same, up2_ne _ _ _ h1]
      unfold fedM
      rw [upR_ne _ _ h1, upR_ne _ _ h1, up2_same, up2_same]
      funext j
      by_cases h3 : j = 7 <;> simp [upd, h3, Nat.add_assoc]
    · rw [up2_ne _ _ _ h2, up2_ne _ _ _ h1]
      unfold fedM
      rw [upR_ne _ _ h1, upR_ne _ _ h1, up2_ne _ _ _ h2, up2_ne _ _ _ h2]
set_option maxHeartbeats 4000000 in
theorem c6_feed {c : Nat} {mem : Mem} (hc : mem 50 7 = nI c) (hc2 : c ≤ 120) (v l : Int32) : CnI mX6_feed [.ref 50, .int v, .int l] mem (fun x m' => (inR l 1 4 = 0 ∧ x = -1000001 ∧ m' = fndM mem 0) ∨ (∃ e, 1 ≤ e ∧ e ≤ 4 ∧ l = nI e ∧ ((¬ c + e ≤ 120 ∧ x = -1000002 ∧ m' = fndM mem 1) ∨ (c + e ≤ 120 ∧ x = nI (c + e) ∧ m' = fedM mem v c e e)))) := by
  refine Cn.of (ls := [some (.ref 50), some (.int v), some (.int l), none]) (by decide) rfl (Nat.le_of_ble_eq_true rfl) ?_
  refine w_iload_n (i := 2) (n' := 1) dX6_feed_0 rfl rfl rfl ?_
  refine w_i2l (v := _) (n' := 2) dX6_feed_1 rfl rfl ?_
  refine w_lconst (v := 1) (n' := 3) dX6_feed_2 rfl rfl ?_
  refine w_ldc2 (v := 4) (n' := 6) dX6_feed_3 rfl kRX6_166 ?_
  refine s_E (n' := 9) dX6_feed_6 rfl lRX6_51 okX6_isIn stX6_isIn ⟨⟨Nat.le_of_ble_eq_true rfl, Nat.le_of_ble_eq_true rfl⟩, Nat.le_of_ble_eq_true rfl, Nat.le_of_ble_eq_true rfl⟩ (c6_isIn _ (1) (4) _ _ (by decide) (by decide) _) rfl rfl (Nat.le_of_ble_eq_true rfl) ?_
  refine w_if_ne (n' := 12) (tgt := 19) dX6_feed_9 rfl rfl (fun h9 => ?_) (fun h9 => ?_)
  · obtain ⟨e, e1, e2, e3⟩ := inR_1 (K := 1) (N := 4) (by decide) (by decide) h9
    have hce : mem 50 7 + l = nI (c + e) := by rw [hc, e3, nI_add]
    refine w_aload_n (i := 0) (n' := 20) dX6_feed_19 rfl rfl rfl ?_
    refine w_get (ci := 6) (j := 7) (n' := 23) dX6_feed_20 rfl fRX6_214 (Nat.le_of_ble_eq_true rfl) (Nat.le_of_ble_eq_true rfl) rfl rfl ?_
    refine w_iload_n (i := 2) (n' := 24) dX6_feed_23 rfl rfl rfl ?_
    refine w_iadd (n' := 25) dX6_feed_24 rfl ?_
    rw [hce]
    refine w_bipush (v := 120) (n' := 27) dX6_feed_25 rfl (by decide) ?_
    refine w_icmp_le (n' := 30) (tgt := 37) dX6_feed_27 rfl rfl (fun h27 => ?_) (fun h27 => ?_)
    · have hle : c + e ≤ 120 := by
        rcases Nat.lt_or_ge 120 (c + e) with q | q
        · exact absurd h27 (nI_ge (a := 120) q (by omega))
        · exact q
      refine w_iload_n (i := 2) (n' := 38) dX6_feed_37 rfl rfl rfl ?_
      refine w_iconst (v := 1) (n' := 39) dX6_feed_38 rfl rfl ?_
      refine w_isub (n' := 40) dX6_feed_39 rfl ?_
      rw [show l - 1 = nI (e - 0) - 1 from by rw [e3, Nat.sub_zero]]
      refine w_istore_n (i := 3) (n' := 41) (ls' := [_, _, _, _]) dX6_feed_40 rfl rfl (Nat.le_of_ble_eq_true rfl) rfl rfl ?_
      have L : ∀ (k : Nat) (s : Mem), k ≤ e → s = fedM mem v c e k → Wm mX6_feed (zM mX6_feed (fun rZ mZ => ∃ xZ, rZ = some (.int xZ) ∧ (fun x m' => (inR l 1 4 = 0 ∧ x = -1000001 ∧ m' = fndM mem 0) ∨ (∃ e, 1 ≤ e ∧ e ≤ 4 ∧ l = nI e ∧ ((¬ c + e ≤ 120 ∧ x = -1000002 ∧ m' = fndM mem 1) ∨ (c + e ≤ 120 ∧ x = nI (c + e) ∧ m' = fedM mem v c e e)))) xZ mZ)) 41 [some (.ref 50), some (.int v), some (.int l), some (.int (nI (e - k) - 1))] [] s := by
        refine for_ind e ?_
        intro k s hk h1 ih
        have hs : s 50 7 = nI (c + k) := by rw [h1]; exact fed_at _ _ _ _ _
        refine w_iload_n (i := 3) (n' := 42) dX6_feed_41 rfl rfl rfl ?_
        refine w_if_lt (n' := 45) (tgt := 80) dX6_feed_42 rfl rfl (fun h42 => ?_) (fun h42 => ?_)
        · have hin : k = e := by
            rcases Nat.lt_or_ge k e with q | q
            · exfalso
              rw [show (1 : Int32) = nI 1 from rfl, pk_sub (by omega)] at h42
              exact nI_pos (by omega) h42
            · omega
          refine w_aload_n (i := 0) (n' := 81) dX6_feed_80 rfl rfl rfl ?_
          refine w_get (ci := 6) (j := 7) (n' := 84) dX6_feed_81 rfl fRX6_214 (Nat.le_of_ble_eq_true rfl) (Nat.le_of_ble_eq_true rfl) rfl rfl ?_
          exact w_iret dX6_feed_84 rfl ⟨_, rfl, Or.inr ⟨e, e1, e2, e3, Or.inr ⟨hle, by rw [hs, hin], by rw [h1, hin]⟩⟩⟩
        · have hlt : k < e := by
            rcases Nat.lt_or_ge k e with q | q
            · exact q
            · exact absurd (show nI (e - k) - 1 < 0 by rw [show e - k = 0 by omega]; decide) h42
          rw [show nI (e - k) - 1 = nI (e - 1 - k) from by rw [show (1 : Int32) = nI 1 from rfl, pk_sub (by omega)]; congr 1; omega]
          refine w_aload_n (i := 0) (n' := 46) dX6_feed_45 rfl rfl rfl ?_
          refine w_get (ci := 6) (j := 6) (n' := 49) dX6_feed_46 rfl fRX6_25 (Nat.le_of_ble_eq_true rfl) (Nat.le_of_ble_eq_true rfl) rfl rfl ?_
          refine w_aload_n (i := 0) (n' := 50) dX6_feed_49 rfl rfl rfl ?_
          refine w_get (ci := 6) (j := 7) (n' := 53) dX6_feed_50 rfl fRX6_214 (Nat.le_of_ble_eq_true rfl) (Nat.le_of_ble_eq_true rfl) rfl rfl ?_
          refine w_iload_n (i := 1) (n' := 54) dX6_feed_53 rfl rfl rfl ?_
          refine w_bipush (v := 8) (n' := 56) dX6_feed_54 rfl (by decide) ?_
          refine w_iload_n (i := 3) (n' := 57) dX6_feed_56 rfl rfl rfl ?_
          refine w_imul (n' := 58) dX6_feed_57 rfl ?_
          refine w_ishr (n' := 59) dX6_feed_58 rfl ?_
          refine w_sipush (v := 255) (n' := 62) dX6_feed_59 rfl (by decide) ?_
          refine w_iand (n' := 63) dX6_feed_62 rfl ?_
          refine w_iast (n := c + k) (n' := 64) dX6_feed_63 rfl rfl hs (show c + k < 120 by omega) ?_
          refine w_aload_n (i := 0) (n' := 65) dX6_feed_64 rfl rfl rfl ?_
          refine w_dup (n' := 66) dX6_feed_65 rfl rfl ?_
          refine w_get (ci := 6) (j := 7) (n' := 69) dX6_feed_66 rfl fRX6_214 (Nat.le_of_ble_eq_true rfl) (Nat.le_of_ble_eq_true rfl) rfl rfl ?_
          refine w_iconst (v := 1) (n' := 70) dX6_feed_69 rfl rfl ?_
          refine w_iadd (n' := 71) dX6_feed_70 rfl ?_
          refine w_put (ci := 6) (j := 7) (n' := 74) dX6_feed_71 rfl fRX6_214 (Nat.le_of_ble_eq_true rfl) (Nat.le_of_ble_eq_true rfl) rfl rfl rfl rfl ?_
          refine w_iinc (n' := 77) (v := nI (e - (k + 1)) - 1) (ls' := [_, _, _, _]) dX6_feed_74 rfl rfl (fd_dec k e) (Nat.le_of_ble_eq_true rfl) rfl rfl ?_
          refine w_goto (tgt := 41) dX6_feed_77 rfl ?_
          exact ih hlt _ (by rw [show up2 s 56 (c + k) ((v >>> (8 * nI (e - 1 - k) &&& 31)) &&& 255) 50 7 + 1 = nI (c + k + 1) from by rw [up2_ne _ _ _ (by decide), hs, nI_1]]; rw [h1]; exact fed_s _ _ hlt)
      exact L 0 _ (Nat.zero_le _) (fed_0 hc).symm
    · have hle : ¬ c + e ≤ 120 := fun q => h27 (nI_le (b := 120) q (by omega))
      refine w_aload_n (i := 0) (n' := 31) dX6_feed_30 rfl rfl rfl ?_
      refine w_ldc (v := -1000002) (n' := 33) dX6_feed_31 rfl kRX6_65 ?_
      refine v_E (ci := 6) (n' := 36) dX6_feed_33 rfl lRX6_45 okX6_finds voX6_finds ⟨⟨Nat.le_of_ble_eq_true rfl, Nat.le_of_ble_eq_true rfl⟩, Nat.le_of_ble_eq_true rfl, Nat.le_of_ble_eq_true rfl⟩ (c6_finds 1 _ (by decide) (by decide) _) rfl rfl (Nat.le_of_ble_eq_true rfl) rfl (Nat.le_of_ble_eq_true rfl) rfl ?_
      exact w_iret dX6_feed_36 rfl ⟨_, rfl, Or.inr ⟨e, e1, e2, e3, Or.inl ⟨hle, rfl, rfl⟩⟩⟩
  · refine w_aload_n (i := 0) (n' := 13) dX6_feed_12 rfl rfl rfl ?_
    refine w_ldc (v := -1000001) (n' := 15) dX6_feed_13 rfl kRX6_43 ?_
    refine v_E (ci := 6) (n' := 18) dX6_feed_15 rfl lRX6_45 okX6_finds voX6_finds ⟨⟨Nat.le_of_ble_eq_true rfl, Nat.le_of_ble_eq_true rfl⟩, Nat.le_of_ble_eq_true rfl, Nat.le_of_ble_eq_true rfl⟩ (c6_finds 0 _ (by decide) (by decide) _) rfl rfl (Nat.le_of_ble_eq_true rfl) rfl (Nat.le_of_ble_eq_true rfl) rfl ?_
    exact w_iret dX6_feed_18 rfl ⟨_, rfl, Or.inl ⟨by simpa using h9, rfl, rfl⟩⟩
set_option maxHeartbeats 4000000 in
theorem c6_hold {n : Nat} {mem : Mem} (h : mem 51 0 = nI n) (h8 : n ≤ 8) (a f : Int32) : CnI mX6_hold [.ref 50, .int a, .int f] mem (fun x m' => ((inR a 0 9 = 0 ∨ (¬ f = -1 ∧ inR f 0 (nI n - 1) = 0)) ∧ x = -1000001 ∧ m' = fndM mem 0) ∨ (∃ i, i < 10 ∧ a = nI i ∧ (f = -1 ∨ ¬ inR f 0 (nI n - 1) = 0) ∧ x = 1 ∧ m' = up2 mem 51 (46 + i) f)) := by
  refine Cn.of (ls := [some (.ref 50), some (.int a), some (.int f)]) (by decide) rfl (Nat.le_of_ble_eq_true rfl) ?_
  refine w_iload_n (i := 1) (n' := 1) dX6_hold_0 rfl rfl rfl ?_
  refine w_i2l (v := _) (n' := 2) dX6_hold_1 rfl rfl ?_
  refine w_lconst (v := 0) (n' := 3) dX6_hold_2 rfl rfl ?_
  refine w_ldc2 (v := 9) (n' := 6) dX6_hold_3 rfl kRX6_98 ?_
  refine s_E (n' := 9) dX6_hold_6 rfl lRX6_51 okX6_isIn stX6_isIn ⟨⟨Nat.le_of_ble_eq_true rfl, Nat.le_of_ble_eq_true rfl⟩, Nat.le_of_ble_eq_true rfl, Nat.le_of_ble_eq_true rfl⟩ (c6_isIn _ (0) (9) _ _ (by decide) (by decide) _) rfl rfl (Nat.le_of_ble_eq_true rfl) ?_
  refine w_if_eq (n' := 12) (tgt := 25) dX6_hold_9 rfl rfl (fun h9 => ?_) (fun h9 => ?_)
  · refine w_aload_n (i := 0) (n' := 26) dX6_hold_25 rfl rfl rfl ?_
    refine w_ldc (v := -1000001) (n' := 28) dX6_hold_26 rfl kRX6_43 ?_
    refine v_E (ci := 6) (n' := 31) dX6_hold_28 rfl lRX6_45 okX6_finds voX6_finds ⟨⟨Nat.le_of_ble_eq_true rfl, Nat.le_of_ble_eq_true rfl⟩, Nat.le_of_ble_eq_true rfl, Nat.le_of_ble_eq_true rfl⟩ (c6_finds 0 _ (by decide) (by decide) _) rfl rfl (Nat.le_of_ble_eq_true rfl) rfl (Nat.le_of_ble_eq_true rfl) rfl ?_
    exact w_iret dX6_hold_31 rfl ⟨_, rfl, Or.inl ⟨Or.inl h9, rfl, rfl⟩⟩
  · obtain ⟨i, hi1, hi2⟩ := inR_of (N := 9) (by decide) h9
    subst hi2
    refine w_iload_n (i := 2) (n' := 13) dX6_hold_12 rfl rfl rfl ?_
    refine w_iconst (v := -1) (n' := 14) dX6_hold_13 rfl rfl ?_
    refine w_icmp_eq (n' := 17) (tgt := 32) dX6_hold_14 rfl rfl (fun h14 => ?_) (fun h14 => ?_)
    · refine w_aload_n (i := 0) (n' := 33) dX6_hold_32 rfl rfl rfl ?_
      refine w_get (ci := 6) (j := 0) (n' := 36) dX6_hold_33 rfl fRX6_7 (Nat.le_of_ble_eq_true rfl) (Nat.le_of_ble_eq_true rfl) rfl rfl ?_
      refine w_bipush (v := 46) (n' := 38) dX6_hold_36 rfl (by decide) ?_
      refine w_iload_n (i := 1) (n' := 39) dX6_hold_38 rfl rfl rfl ?_
      refine w_iadd (n' := 40) dX6_hold_39 rfl ?_
      refine w_iload_n (i := 2) (n' := 41) dX6_hold_40 rfl rfl rfl ?_
      refine w_iast (n := 46 + i) (n' := 42) dX6_hold_41 rfl rfl (by rw [show (46 : Int32) = nI 46 from rfl, nI_add]) (show 46 + i < 56 by omega) ?_
      refine w_iconst (v := 1) (n' := 43) dX6_hold_42 rfl rfl ?_
      exact w_iret dX6_hold_43 rfl ⟨_, rfl, Or.inr ⟨i, by omega, rfl, Or.inl h14, rfl, rfl⟩⟩
    · refine w_aload_n (i := 0) (n' := 18) dX6_hold_17 rfl rfl rfl ?_
      refine w_iload_n (i := 2) (n' := 19) dX6_hold_18 rfl rfl rfl ?_
      refine v_E (ci := 6) (n' := 22) dX6_hold_19 rfl lRX6_82 okX6_isFarm voX6_isFarm ⟨⟨Nat.le_of_ble_eq_true rfl, Nat.le_of_ble_eq_true rfl⟩, Nat.le_of_ble_eq_true rfl, Nat.le_of_ble_eq_true rfl⟩ (c6_isFarm h h8 _) rfl rfl (Nat.le_of_ble_eq_true rfl) rfl (Nat.le_of_ble_eq_true rfl) rfl ?_
      refine w_if_ne (n' := 25) (tgt := 32) dX6_hold_22 rfl rfl (fun h22 => ?_) (fun h22 => ?_)
      · refine w_aload_n (i := 0) (n' := 33) dX6_hold_32 rfl rfl rfl ?_
        refine w_get (ci := 6) (j := 0) (n' := 36) dX6_hold_33 rfl fRX6_7 (Nat.le_of_ble_eq_true rfl) (Nat.le_of_ble_eq_true rfl) rfl rfl ?_
        refine w_bipush (v := 46) (n' := 38) dX6_hold_36 rfl (by decide) ?_
        refine w_iload_n (i := 1) (n' := 39) dX6_hold_38 rfl rfl rfl ?_
        refine w_iadd (n' := 40) dX6_hold_39 rfl ?_
        refine w_iload_n (i := 2) (n' := 41) dX6_hold_40 rfl rfl rfl ?_
        refine w_iast (n := 46 + i) (n' := 42) dX6_hold_41 rfl rfl (by rw [show (46 : Int32) = nI 46 from rfl, nI_add]) (show 46 + i < 56 by omega) ?_
        refine w_iconst (v := 1) (n' := 43) dX6_hold_42 rfl rfl ?_
        exact w_iret dX6_hold_43 rfl ⟨_, rfl, Or.inr ⟨i, by omega, rfl, Or.inr h22, rfl, rfl⟩⟩
      · refine w_aload_n (i := 0) (n' := 26) dX6_hold_25 rfl rfl rfl ?_
        refine w_ldc (v := -1000001) (n' := 28) dX6_hold_26 rfl kRX6_43 ?_
        refine v_E (ci := 6) (n' := 31) dX6_hold_28 rfl lRX6_45 okX6_finds voX6_finds ⟨⟨Nat.le_of_ble_eq_true rfl, Nat.le_of_ble_eq_true rfl⟩, Nat.le_of_ble_eq_true rfl, Nat.le_of_ble_eq_true rfl⟩ (c6_finds 0 _ (by decide) (by decide) _) rfl rfl (Nat.le_of_ble_eq_true rfl) rfl (Nat.le_of_ble_eq_true rfl) rfl ?_
        exact w_iret dX6_hold_31 rfl ⟨_, rfl, Or.inl ⟨Or.inr ⟨h14, h22⟩, rfl, rfl⟩⟩
def undI (k o : Int32) : Int32 := if o = 0 ∨ k = o ∨ (o = 2 ∧ (k = 3 ∨ k = 4)) ∨ (o = 3 ∧ k = 4) ∨ (o = 1 ∧ k = 6) then 1 else 0
set_option maxHeartbeats 4000000 in
theorem c6_isUnder (k o : Int32) (mem : Mem) : CnE mX6_isUnder [.int k, .int o] mem (some (.int (undI k o))) mem := by
  refine Cn.of (ls := [some (.int k), some (.int o)]) (by decide) rfl (Nat.le_of_ble_eq_true rfl) ?_
  refine w_iload_n (i := 1) (n' := 1) dX6_isUnder_0 rfl rfl rfl ?_
  refine w_if_eq (n' := 4) (tgt := 45) dX6_isUnder_1 rfl rfl (fun h1 => ?_) (fun h1 => ?_)
  · refine w_iconst (v := 1) (n' := 46) dX6_isUnder_45 rfl rfl ?_
    refine w_goto (tgt := 50) dX6_isUnder_46 rfl ?_
    exact w_zret dX6_isUnder_50 rfl rfl ⟨by unfold undI; simp_all, rfl⟩
  · refine w_iload_n (i := 0) (n' := 5) dX6_isUnder_4 rfl rfl rfl ?_
    refine w_iload_n (i := 1) (n' := 6) dX6_isUnder_5 rfl rfl rfl ?_
    refine w_icmp_eq (n' := 9) (tgt := 45) dX6_isUnder_6 rfl rfl (fun h6 => ?_) (fun h6 => ?_)
    · refine w_iconst (v := 1) (n' := 46) dX6_isUnder_45 rfl rfl ?_
      refine w_goto (tgt := 50) dX6_isUnder_46 rfl ?_
      exact w_zret dX6_isUnder_50 rfl rfl ⟨by unfold undI; simp_all, rfl⟩
    · refine w_iload_n (i := 1) (n' := 10) dX6_isUnder_9 rfl rfl rfl ?_
      refine w_iconst (v := 2) (n' := 11) dX6_isUnder_10 rfl rfl ?_
      refine w_icmp_ne (n' := 14) (tgt := 24) dX6_isUnder_11 rfl rfl (fun h11 => ?_) (fun h11 => ?_)
      · refine w_iload_n (i := 1) (n' := 25) dX6_isUnder_24 rfl rfl rfl ?_
        refine w_iconst (v := 3) (n' := 26) dX6_isUnder_25 rfl rfl ?_
        refine w_icmp_ne (n' := 29) (tgt := 34) dX6_isUnder_26 rfl rfl (fun h26 => ?_) (fun h26 => ?_)
        · refine w_iload_n (i := 1) (n' := 35) dX6_isUnder_34 rfl rfl rfl ?_
          refine w_iconst (v := 1) (n' := 36) dX6_isUnder_35 rfl rfl ?_
          refine w_icmp_ne (n' := 39) (tgt := 49) dX6_isUnder_36 rfl rfl (fun h36 => ?_) (fun h36 => ?_)
          · refine w_iconst (v := 0) (n' := 50) dX6_isUnder_49 rfl rfl ?_
            exact w_zret dX6_isUnder_50 rfl rfl ⟨by unfold undI; simp_all, rfl⟩
          · refine w_iload_n (i := 0) (n' := 40) dX6_isUnder_39 rfl rfl rfl ?_
            refine w_bipush (v := 6) (n' := 42) dX6_isUnder_40 rfl (by decide) ?_
            refine w_icmp_ne (n' := 45) (tgt := 49) dX6_isUnder_42 rfl rfl (fun h42 => ?_) (fun h42 => ?_)
            · refine w_iconst (v := 0) (n' := 50) dX6_isUnder_49 rfl rfl ?_
              exact w_zret dX6_isUnder_50 rfl rfl ⟨by unfold undI; simp_all, rfl⟩
            · refine w_iconst (v := 1) (n' := 46) dX6_isUnder_45 rfl rfl ?_
              refine w_goto (tgt := 50) dX6_isUnder_46 rfl ?_
              exact w_zret dX6_isUnder_50 rfl rfl ⟨by unfold undI; simp_all, rfl⟩
        · refine w_iload_n (i := 0) (n' := 30) dX6_isUnder_29 rfl rfl rfl ?_
          refine w_iconst (v := 4) (n' := 31) dX6_isUnder_30 rfl rfl ?_
          refine w_icmp_eq (n' := 34) (tgt := 45) dX6_isUnder_31 rfl rfl (fun h31 => ?_) (fun h31 => ?_)
          · refine w_iconst (v := 1) (n' := 46) dX6_isUnder_45 rfl rfl ?_
            refine w_goto (tgt := 50) dX6_isUnder_46 rfl ?_
            exact w_zret dX6_isUnder_50 rfl rfl ⟨by unfold undI; simp_all, rfl⟩
          · refine w_iload_n (i := 1) (n' := 35) dX6_isUnder_34 rfl rfl rfl ?_
            refine w_iconst (v := 1) (n' := 36) dX6_isUnder_35 rfl rfl ?_
            refine w_icmp_ne (n' := 39) (tgt := 49) dX6_isUnder_36 rfl rfl (fun h36 => ?_) (fun h36 => ?_)
            · refine w_iconst (v := 0) (n' := 50) dX6_isUnder_49 rfl rfl ?_
              exact w_zret dX6_isUnder_50 rfl rfl ⟨by unfold undI; simp_all, rfl⟩
            · refine w_iload_n (i := 0) (n' := 40) dX6_isUnder_39 rfl rfl rfl ?_
              refine w_bipush (v := 6) (n' := 42) dX6_isUnder_40 rfl (by decide) ?_
              refine w_icmp_ne (n' := 45) (tgt := 49) dX6_isUnder_42 rfl rfl (fun h42 => ?_) (fun h42 => ?_)
              · refine w_iconst (v := 0) (n' := 50) dX6_isUnder_49 rfl rfl ?_
                exact w_zret dX6_isUnder_50 rfl rfl ⟨by unfold undI; simp_all, rfl⟩
              · refine w_iconst (v := 1) (n' := 46) dX6_isUnder_45 rfl rfl ?_
                refine w_goto (tgt := 50) dX6_isUnder_46 rfl ?_
                exact w_zret dX6_isUnder_50 rfl rfl ⟨by unfold undI; simp_all, rfl⟩
      · refine w_iload_n (i := 0) (n' := 15) dX6_isUnder_14 rfl rfl rfl ?_
        refine w_iconst (v := 3) (n' := 16) dX6_isUnder_15 rfl rfl ?_
        refine w_icmp_eq (n' := 19) (tgt := 45) dX6_isUnder_16 rfl rfl (fun h16 => ?_) (fun h16 => ?_)
        · refine w_iconst (v := 1) (n' := 46) dX6_isUnder_45 rfl rfl ?_
          refine w_goto (tgt := 50) dX6_isUnder_46 rfl ?_
          exact w_zret dX6_isUnder_50 rfl rfl ⟨by unfold undI; simp_all, rfl⟩
        · refine w_iload_n (i := 0) (n' := 20) dX6_isUnder_19 rfl rfl rfl ?_
          refine w_iconst (v := 4) (n' := 21) dX6_isUnder_20 rfl rfl ?_
          refine w_icmp_eq (n' := 24) (tgt := 45) dX6_isUnder_21 rfl rfl (fun h21 => ?_) (fun h21 => ?_)
          · refine w_iconst (v := 1) (n' := 46) dX6_isUnder_45 rfl rfl ?_
            refine w_goto (tgt := 50) dX6_isUnder_46 rfl ?_
            exact w_zret dX6_isUnder_50 rfl rfl ⟨by unfold undI; simp_all, rfl⟩
          · refine w_iload_n (i := 1) (n' := 25) dX6_isUnder_24 rfl rfl rfl ?_
            refine w_iconst (v := 3) (n' := 26) dX6_isUnder_25 rfl rfl ?_
            refine w_icmp_ne (n' := 29) (tgt := 34) dX6_isUnder_26 rfl rfl (fun h26 => ?_) (fun h26 => ?_)
            · refine w_iload_n (i := 1) (n' := 35) dX6_isUnder_34 rfl rfl rfl ?_
              refine w_iconst (v := 1) (n' := 36) dX6_isUnder_35 rfl rfl ?_
              refine w_icmp_ne (n' := 39) (tgt := 49) dX6_isUnder_36 rfl rfl (fun h36 => ?_) (fun h36 => ?_)
              · refine w_iconst (v := 0) (n' := 50) dX6_isUnder_49 rfl rfl ?_
                exact w_zret dX6_isUnder_50 rfl rfl ⟨by unfold undI; simp_all, rfl⟩
              · refine w_iload_n (i := 0) (n' := 40) dX6_isUnder_39 rfl rfl rfl ?_
                refine w_bipush (v := 6) (n' := 42) dX6_isUnder_40 rfl (by decide) ?_
                refine w_icmp_ne (n' := 45) (tgt := 49) dX6_isUnder_42 rfl rfl (fun h42 => ?_) (fun h42 => ?_)
                · refine w_iconst (v := 0) (n' := 50) dX6_isUnder_49 rfl rfl ?_
                  exact w_zret dX6_isUnder_50 rfl rfl ⟨by unfold undI; simp_all, rfl⟩
                · refine w_iconst (v := 1) (n' := 46) dX6_isUnder_45 rfl rfl ?_
                  refine w_goto (tgt := 50) dX6_isUnder_46 rfl ?_
                  exact w_zret dX6_isUnder_50 rfl rfl ⟨by unfold undI; simp_all, rfl⟩
            · refine w_iload_n (i := 0) (n' := 30) dX6_isUnder_29 rfl rfl rfl ?_
              refine w_iconst (v := 4) (n' := 31) dX6_isUnder_30 rfl rfl ?_
              refine w_icmp_eq (n' := 34) (tgt := 45) dX6_isUnder_31 rfl rfl (fun h31 => ?_) (fun h31 => ?_)
              · refine w_iconst (v := 1) (n' := 46) dX6_isUnder_45 rfl rfl ?_
                refine w_goto (tgt := 50) dX6_isUnder_46 rfl ?_
                exact w_zret dX6_isUnder_50 rfl rfl ⟨by unfold undI; simp_all, rfl⟩
              · refine w_iload_n (i := 1) (n' := 35) dX6_isUnder_34 rfl rfl rfl ?_
                refine w_iconst (v := 1) (n' := 36) dX6_isUnder_35 rfl rfl ?_
                refine w_icmp_ne (n' := 39) (tgt := 49) dX6_isUnder_36 rfl rfl (fun h36 => ?_) (fun h36 => ?_)
                · refine w_iconst (v := 0) (n' := 50) dX6_isUnder_49 rfl rfl ?_
                  exact w_zret dX6_isUnder_50 rfl rfl ⟨by unfold undI; simp_all, rfl⟩
                · refine w_iload_n (i := 0) (n' := 40) dX6_isUnder_39 rfl rfl rfl ?_
                  refine w_bipush (v := 6) (n' := 42) dX6_isUnder_40 rfl (by decide) ?_
                  refine w_icmp_ne (n' := 45) (tgt := 49) dX6_isUnder_42 rfl rfl (fun h42 => ?_) (fun h42 => ?_)
                  · refine w_iconst (v := 0) (n' := 50) dX6_isUnder_49 rfl rfl ?_
                    exact w_zret dX6_isUnder_50 rfl rfl ⟨by unfold undI; simp_all, rfl⟩
                  · refine w_iconst (v := 1) (n' := 46) dX6_isUnder_45 rfl rfl ?_
                    refine w_goto (tgt := 50) dX6_isUnder_46 rfl ?_
                    exact w_zret dX6_isUnder_50 rfl rfl ⟨by unfold undI; simp_all, rfl⟩
set_option maxHeartbeats 4000000 in
theorem c6_as {n : Nat} {mem : Mem} (h8 : n ≤ 8) (hS : ∀ i, i < 10 → mem 51 (46 + i) = -1 ∨ ∃ r, r < n ∧ mem 51 (46 + i) = nI r) (a b : Int32) : CnI mX6_as [.ref 50, .int a, .int b] mem (fun x m' => ((inR a 0 9 = 0 ∨ inR b 0 6 = 0) ∧ x = -1000001 ∧ m' = fndM mem 0) ∨ (∃ i, i < 10 ∧ a = nI i ∧ ¬ inR b 0 6 = 0 ∧ ((mem 51 (46 + i) = -1 ∧ x = -1000006 ∧ m' = fndM mem 5) ∨ (∃ r, r < n ∧ mem 51 (46 + i) = nI r ∧ ((undI (FM mem r 0) b = 0 ∧ x = -1000003 ∧ m' = fndM mem 2) ∨ (¬ undI (FM mem r 0) b = 0 ∧ x = nI r ∧ m' = mem)))))) := by
  refine Cn.of (ls := [some (.ref 50), some (.int a), some (.int b), none]) (by decide) rfl (Nat.le_of_ble_eq_true rfl) ?_
  refine w_iload_n (i := 1) (n' := 1) dX6_as_0 rfl rfl rfl ?_
  refine w_i2l (v := _) (n' := 2) dX6_as_1 rfl rfl ?_
  refine w_lconst (v := 0) (n' := 3) dX6_as_2 rfl rfl ?_
  refine w_ldc2 (v := 9) (n' := 6) dX6_as_3 rfl kRX6_98 ?_
  refine s_E (n' := 9) dX6_as_6 rfl lRX6_51 okX6_isIn stX6_isIn ⟨⟨Nat.le_of_ble_eq_true rfl, Nat.le_of_ble_eq_true rfl⟩, Nat.le_of_ble_eq_true rfl, Nat.le_of_ble_eq_true rfl⟩ (c6_isIn _ (0) (9) _ _ (by decide) (by decide) _) rfl rfl (Nat.le_of_ble_eq_true rfl) ?_
  refine w_if_eq (n' := 12) (tgt := 24) dX6_as_9 rfl rfl (fun h9 => ?_) (fun h9 => ?_)
  · refine w_aload_n (i := 0) (n' := 25) dX6_as_24 rfl rfl rfl ?_
    refine w_ldc (v := -1000001) (n' := 27) dX6_as_25 rfl kRX6_43 ?_
    refine v_E (ci := 6) (n' := 30) dX6_as_27 rfl lRX6_45 okX6_finds voX6_finds ⟨⟨Nat.le_of_ble_eq_true rfl, Nat.le_of_ble_eq_true rfl⟩, Nat.le_of_ble_eq_true rfl, Nat.le_of_ble_eq_true rfl⟩ (c6_finds 0 _ (by decide) (by decide) _) rfl rfl (Nat.le_of_ble_eq_true rfl) rfl (Nat.le_of_ble_eq_true rfl) rfl ?_
    exact w_iret dX6_as_30 rfl ⟨_, rfl, Or.inl ⟨Or.inl h9, rfl, rfl⟩⟩
  · obtain ⟨i, hi1, hi2⟩ := inR_of (N := 9) (by decide) h9
    subst hi2
    refine w_iload_n (i := 2) (n' := 13) dX6_as_12 rfl rfl rfl ?_
    refine w_i2l (v := _) (n' := 14) dX6_as_13 rfl rfl ?_
    refine w_lconst (v := 0) (n' := 15) dX6_as_14 rfl rfl ?_
    refine w_ldc2 (v := 6) (n' := 18) dX6_as_15 rfl kRX6_61 ?_
    refine s_E (n' := 21) dX6_as_18 rfl lRX6_51 okX6_isIn stX6_isIn ⟨⟨Nat.le_of_ble_eq_true rfl, Nat.le_of_ble_eq_true rfl⟩, Nat.le_of_ble_eq_true rfl, Nat.le_of_ble_eq_true rfl⟩ (c6_isIn _ (0) (6) _ _ (by decide) (by decide) _) rfl rfl (Nat.le_of_ble_eq_true rfl) ?_
    refine w_if_ne (n' := 24) (tgt := 31) dX6_as_21 rfl rfl (fun h21 => ?_) (fun h21 => ?_)
    · refine w_aload_n (i := 0) (n' := 32) dX6_as_31 rfl rfl rfl ?_
      refine w_get (ci := 6) (j := 0) (n' := 35) dX6_as_32 rfl fRX6_7 (Nat.le_of_ble_eq_true rfl) (Nat.le_of_ble_eq_true rfl) rfl rfl ?_
      refine w_bipush (v := 46) (n' := 37) dX6_as_35 rfl (by decide) ?_
      refine w_iload_n (i := 1) (n' := 38) dX6_as_37 rfl rfl rfl ?_
      refine w_iadd (n' := 39) dX6_as_38 rfl ?_
      refine w_iald (n := 46 + i) (n' := 40) dX6_as_39 rfl rfl (by rw [show (46 : Int32) = nI 46 from rfl, nI_add]) (show 46 + i < 56 by omega) ?_
      refine w_istore_n (i := 3) (n' := 41) (ls' := [_, _, _, _]) dX6_as_40 rfl rfl (Nat.le_of_ble_eq_true rfl) rfl rfl ?_
      refine w_iload_n (i := 3) (n' := 42) dX6_as_41 rfl rfl rfl ?_
      refine w_if_ge (n' := 45) (tgt := 53) dX6_as_42 rfl rfl (fun h42 => ?_) (fun h42 => ?_)
      · obtain ⟨r, hr1, hr2⟩ : ∃ r, r < n ∧ mem 51 (46 + i) = nI r := by
          rcases hS i (by omega) with e | e
          · rw [e] at h42
            exact absurd h42 (by decide)
          · exact e
        rw [hr2]
        refine w_aload_n (i := 0) (n' := 54) dX6_as_53 rfl rfl rfl ?_
        refine w_iload_n (i := 3) (n' := 55) dX6_as_54 rfl rfl rfl ?_
        refine w_iconst (v := 0) (n' := 56) dX6_as_55 rfl rfl ?_
        refine v_E (ci := 6) (n' := 59) dX6_as_56 rfl lRX6_70 okX6_its voX6_its ⟨⟨Nat.le_of_ble_eq_true rfl, Nat.le_of_ble_eq_true rfl⟩, Nat.le_of_ble_eq_true rfl, Nat.le_of_ble_eq_true rfl⟩ (c6_its (i := r) (j := 0) _ _ rfl (by decide) (by omega) _) rfl rfl (Nat.le_of_ble_eq_true rfl) rfl (Nat.le_of_ble_eq_true rfl) rfl ?_
        refine w_iload_n (i := 2) (n' := 60) dX6_as_59 rfl rfl rfl ?_
        refine s_E (n' := 63) dX6_as_60 rfl lRX6_288 okX6_isUnder stX6_isUnder ⟨⟨Nat.le_of_ble_eq_true rfl, Nat.le_of_ble_eq_true rfl⟩, Nat.le_of_ble_eq_true rfl, Nat.le_of_ble_eq_true rfl⟩ (c6_isUnder _ _ _) rfl rfl (Nat.le_of_ble_eq_true rfl) ?_
        refine w_if_eq (n' := 66) (tgt := 70) dX6_as_63 rfl rfl (fun h63 => ?_) (fun h63 => ?_)
        · refine w_aload_n (i := 0) (n' := 71) dX6_as_70 rfl rfl rfl ?_
          refine w_ldcw (v := -1000003) (n' := 74) dX6_as_71 rfl kRX6_291 ?_
          refine v_E (ci := 6) (n' := 77) dX6_as_74 rfl lRX6_45 okX6_finds voX6_finds ⟨⟨Nat.le_of_ble_eq_true rfl, Nat.le_of_ble_eq_true rfl⟩, Nat.le_of_ble_eq_true rfl, Nat.le_of_ble_eq_true rfl⟩ (c6_finds 2 _ (by decide) (by decide) _) rfl rfl (Nat.le_of_ble_eq_true rfl) rfl (Nat.le_of_ble_eq_true rfl) rfl ?_
          exact w_iret dX6_as_77 rfl ⟨_, rfl, Or.inr ⟨i, by omega, rfl, h21, Or.inr ⟨r, hr1, hr2, Or.inl ⟨h63, rfl, rfl⟩⟩⟩⟩
        · refine w_iload_n (i := 3) (n' := 67) dX6_as_66 rfl rfl rfl ?_
          refine w_goto (tgt := 77) dX6_as_67 rfl ?_
          exact w_iret dX6_as_77 rfl ⟨_, rfl, Or.inr ⟨i, by omega, rfl, h21, Or.inr ⟨r, hr1, hr2, Or.inr ⟨h63, rfl, rfl⟩⟩⟩⟩
      · have hm : mem 51 (46 + i) = -1 := by
          rcases hS i (by omega) with e | ⟨r, e1, e2⟩
          · exact e
          · rw [e2] at h42
            exact absurd (nI_pos' (by omega)) h42
        refine w_aload_n (i := 0) (n' := 46) dX6_as_45 rfl rfl rfl ?_
        refine w_ldcw (v := -1000006) (n' := 49) dX6_as_46 rfl kRX6_287 ?_
        refine v_E (ci := 6) (n' := 52) dX6_as_49 rfl lRX6_45 okX6_finds voX6_finds ⟨⟨Nat.le_of_ble_eq_true rfl, Nat.le_of_ble_eq_true rfl⟩, Nat.le_of_ble_eq_true rfl, Nat.le_of_ble_eq_true rfl⟩ (c6_finds 5 _ (by decide) (by decide) _) rfl rfl (Nat.le_of_ble_eq_true rfl) rfl (Nat.le_of_ble_eq_true rfl) rfl ?_
        exact w_iret dX6_as_52 rfl ⟨_, rfl, Or.inr ⟨i, by omega, rfl, h21, Or.inl ⟨hm, rfl, rfl⟩⟩⟩
    · refine w_aload_n (i := 0) (n' := 25) dX6_as_24 rfl rfl rfl ?_
      refine w_ldc (v := -1000001) (n' := 27) dX6_as_25 rfl kRX6_43 ?_
      refine v_E (ci := 6) (n' := 30) dX6_as_27 rfl lRX6_45 okX6_finds voX6_finds ⟨⟨Nat.le_of_ble_eq_true rfl, Nat.le_of_ble_eq_true rfl⟩, Nat.le_of_ble_eq_true rfl, Nat.le_of_ble_eq_true rfl⟩ (c6_finds 0 _ (by decide) (by decide) _) rfl rfl (Nat.le_of_ble_eq_true rfl) rfl (Nat.le_of_ble_eq_true rfl) rfl ?_
      exact w_iret dX6_as_30 rfl ⟨_, rfl, Or.inl ⟨Or.inr h21, rfl, rfl⟩⟩
