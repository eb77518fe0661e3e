/-! the reference: opinions that fit -/
def wanF (m : Mem) (n : Nat) (s f : Int32) : Int32 := if wantM m s = 0 then (if inR f 0 (nI n - 1) = 0 then -1000001 else 0) else wantM m s
def wanW (m : Mem) (s : Int32) : Nat := if wantM m s = 0 then 0 else wantW s
set_option maxHeartbeats 4000000 in
theorem c6_wantsFor {n : Nat} {mem : Mem} (h : mem 51 0 = nI n) (h8 : n ≤ 8) (s f : Int32) : CnE mX6_wantsFor [.ref 50, .int s, .int f] mem (some (.int (wanF mem n s f))) mem := by
  refine Cn.of (ls := [some (.ref 50), some (.int s), some (.int f)]) (by decide) rfl (Nat.le_of_ble_eq_true rfl) ?_
  refine w_aload_n (i := 0) (n' := 1) dX6_wantsFor_0 rfl rfl rfl ?_
  refine w_iload_n (i := 1) (n' := 2) dX6_wantsFor_1 rfl rfl rfl ?_
  refine v_E (ci := 6) (n' := 5) dX6_wantsFor_2 rfl lRX6_195 okX6_wants voX6_wants ⟨⟨Nat.le_of_ble_eq_true rfl, Nat.le_of_ble_eq_true rfl⟩, Nat.le_of_ble_eq_true rfl, Nat.le_of_ble_eq_true rfl⟩ (c6_wants _ _) rfl rfl (Nat.le_of_ble_eq_true rfl) rfl (Nat.le_of_ble_eq_true rfl) rfl ?_
  refine w_if_eq (n' := 8) (tgt := 16) dX6_wantsFor_5 rfl rfl (fun h5 => ?_) (fun h5 => ?_)
  · refine w_aload_n (i := 0) (n' := 17) dX6_wantsFor_16 rfl rfl rfl ?_
    refine w_iload_n (i := 2) (n' := 18) dX6_wantsFor_17 rfl rfl rfl ?_
    refine v_E (ci := 6) (n' := 21) dX6_wantsFor_18 rfl lRX6_82 okX6_isFarm voX6_isFarm ⟨⟨Nat.le_of_ble_eq_true rfl, Nat.le_of_ble_eq_true rfl⟩, Nat.le_of_ble_eq_true rfl, Nat.le_of_ble_eq_true rfl⟩ (c6_isFarm h h8 _) rfl rfl (Nat.le_of_ble_eq_true rfl) rfl (Nat.le_of_ble_eq_true rfl) rfl ?_
    refine w_if_eq (n' := 24) (tgt := 28) dX6_wantsFor_21 rfl rfl (fun h21 => ?_) (fun h21 => ?_)
    · refine w_ldc (v := -1000001) (n' := 30) dX6_wantsFor_28 rfl kRX6_43 ?_
      exact w_iret dX6_wantsFor_30 rfl ⟨by rw [wanF, if_pos h5, if_pos h21], rfl⟩
    · refine w_iconst (v := 0) (n' := 25) dX6_wantsFor_24 rfl rfl ?_
      refine w_goto (tgt := 30) dX6_wantsFor_25 rfl ?_
      exact w_iret dX6_wantsFor_30 rfl ⟨by rw [wanF, if_pos h5, if_neg h21], rfl⟩
  · refine w_aload_n (i := 0) (n' := 9) dX6_wantsFor_8 rfl rfl rfl ?_
    refine w_iload_n (i := 1) (n' := 10) dX6_wantsFor_9 rfl rfl rfl ?_
    refine v_E (ci := 6) (n' := 13) dX6_wantsFor_10 rfl lRX6_195 okX6_wants voX6_wants ⟨⟨Nat.le_of_ble_eq_true rfl, Nat.le_of_ble_eq_true rfl⟩, Nat.le_of_ble_eq_true rfl, Nat.le_of_ble_eq_true rfl⟩ (c6_wants _ _) rfl rfl (Nat.le_of_ble_eq_true rfl) rfl (Nat.le_of_ble_eq_true rfl) rfl ?_
    refine w_goto (tgt := 30) dX6_wantsFor_13 rfl ?_
    exact w_iret dX6_wantsFor_30 rfl ⟨by rw [wanF, if_neg h5], rfl⟩
theorem c6_findsF {n : Nat} {s f : Int32} (mem : Mem) (h : ¬ wanF mem n s f = 0) : CnE mX6_finds [.ref 50, .int (wanF mem n s f)] mem (some (.int (wanF mem n s f))) (fndM mem (wanW mem s)) := by
  by_cases c : wantM mem s = 0
  · have e : wanF mem n s f = -1000001 := by
      unfold wanF at *
      rw [if_pos c] at *
      by_cases d : inR f 0 (nI n - 1) = 0
      · rw [if_pos d]
      · rw [if_neg d] at h; exact absurd rfl h
    rw [e, show wanW mem s = 0 from if_pos c]
    exact c6_finds 0 _ (by decide) (by decide) _
  · rw [show wanF mem n s f = wantM mem s from if_neg c, show wanW mem s = wantW s from if_neg c]
    exact c6_findsW mem c
/-- the told leans hold for so many years -/
def toldB (m : Mem) (q n : Nat) (r : Nat → Int32) : Nat → Bool
  | 0 => true
  | i + 1 => toldB m q n r i && (decide (m 59 (40 * q + i) = 9999) || decide (m 59 (40 * q + i) = leanR (yrsR r n i) n (lastS (DR (yrsR r n i)) n)))
theorem toldB_no {m : Mem} {q n : Nat} {r : Nat → Int32} {i : Nat} (h : toldB m q n r i = false) : ∀ k, i ≤ k → toldB m q n r k = false := by
  intro k
  induction k with
  | zero => intro e; rw [show i = 0 by omega] at h; exact h
  | succ k ih =>
    intro e
    by_cases c : i = k + 1
    · rw [← c]; exact h
    · rw [toldB, ih (by omega), Bool.false_and]
def bB (b : Bool) : Int32 := if b then 1 else 0
theorem bB_01 (b : Bool) : bB b = 0 ∨ bB b = 1 := by cases b <;> decide
theorem bB_0 {b : Bool} : bB b = 0 ↔ b = false := by cases b <;> decide
theorem bB_n {b : Bool} : ¬ bB b = 0 ↔ b = true := by cases b <;> decide
set_option maxHeartbeats 4000000 in
theorem c6_isTold {n q z : Nat} {mem : Mem} (h : MO mem n) (hq : q < 4) (hz : z ≤ 40) (hs : mem 58 q = nI z) (s : Int32) (hq2 : s = nI q) : CnI mX6_isTold [.ref 50, .int s] mem (fun x m' => x = bB (toldB mem q n (mem 51) z) ∧ QX mem m') := by
  have h8 := h.2.1
  have hR := MO_R.mp h
  have hA : RW (rowC mem 51 54) (yrsR (mem 51) n 0) (rowC mem 51 54) := by
    have := RW.rf (rowC mem 51 54)
    rw [asd_51] at this
    exact this
  have hQ : QX mem mem := ⟨rfl, fun _ _ _ _ => rfl⟩
  refine Cn.of (ls := [some (.ref 50), some (.int s), none, none, none]) (by decide) rfl (Nat.le_of_ble_eq_true rfl) ?_
  refine w_aload_n (i := 0) (n' := 1) dX6_isTold_0 rfl rfl rfl ?_
  refine w_get (ci := 6) (j := 0) (n' := 4) dX6_isTold_1 rfl fRX6_7 (Nat.le_of_ble_eq_true rfl) (Nat.le_of_ble_eq_true rfl) rfl rfl ?_
  refine w_aload_n (i := 0) (n' := 5) dX6_isTold_4 rfl rfl rfl ?_
  refine w_get (ci := 6) (j := 3) (n' := 8) dX6_isTold_5 rfl fRX6_19 (Nat.le_of_ble_eq_true rfl) (Nat.le_of_ble_eq_true rfl) rfl rfl ?_
  refine s_E (n' := 11) dX6_isTold_8 rfl lRX6_162 okX6_copyRow stX6_copyRow ⟨⟨Nat.le_of_ble_eq_true rfl, Nat.le_of_ble_eq_true rfl⟩, Nat.le_of_ble_eq_true rfl, Nat.le_of_ble_eq_true rfl⟩ (c6_copyRow (a := 51) (b := 54) rfl rfl rfl rfl (by decide) _) rfl rfl (Nat.le_of_ble_eq_true rfl) ?_
  refine w_iconst (v := 1) (n' := 12) dX6_isTold_11 rfl rfl ?_
  refine w_istore_n (i := 2) (n' := 13) (ls' := [_, _, _, _, _]) dX6_isTold_12 rfl rfl (Nat.le_of_ble_eq_true rfl) rfl rfl ?_
  refine w_iconst (v := 0) (n' := 14) dX6_isTold_13 rfl rfl ?_
  refine w_istore_n (i := 3) (n' := 15) (ls' := [_, _, _, _, _]) dX6_isTold_14 rfl rfl (Nat.le_of_ble_eq_true rfl) rfl rfl ?_
  have L : ∀ (i : Nat) (st : Int32 × Option Value × Mem), i ≤ z → (RW (rowC mem 51 54) (yrsR (mem 51) n i) st.2.2 ∧ st.1 = bB (toldB mem q n (mem 51) i)) → Wm mX6_isTold (zM mX6_isTold (fun rZ mZ => ∃ xZ, rZ = some (.int xZ) ∧ (fun x m' => x = bB (toldB mem q n (mem 51) z) ∧ QX mem m') xZ mZ)) 15 [some (.ref 50), some (.int s), some (.int st.1), some (.int (nI i)), st.2.1] [] st.2.2 := by
    refine for_ind z ?_
    rintro i ⟨ok, l4, t⟩ hi ⟨h1, h2⟩ ih
    dsimp only at h1 h2 ih ⊢
    have hp := h1.MO (MOR_yrs hR i)
    have e58 : t 58 q = nI z := by rw [h1.2 58 (by decide) (by decide)]; unfold rowC; rw [upR_ne _ _ (by decide)]; exact hs
    have e59 : t 59 = mem 59 := by rw [h1.2 59 (by decide) (by decide)]; unfold rowC; rw [upR_ne _ _ (by decide)]
    refine w_iload_n (i := 3) (n' := 16) dX6_isTold_15 rfl rfl rfl ?_
    refine w_aload_n (i := 0) (n' := 17) dX6_isTold_16 rfl rfl rfl ?_
    refine w_get (ci := 6) (j := 9) (n' := 20) dX6_isTold_17 rfl fRX6_31 (Nat.le_of_ble_eq_true rfl) (Nat.le_of_ble_eq_true rfl) rfl rfl ?_
    refine w_iload_n (i := 1) (n' := 21) dX6_isTold_20 rfl rfl rfl ?_
    refine w_iald (n := q) (n' := 22) dX6_isTold_21 rfl rfl hq2 (show q < 4 by omega) ?_
    rw [e58]
    refine w_icmp_ge (n' := 25) (tgt := 75) dX6_isTold_22 rfl rfl (fun h22 => ?_) (fun h22 => ?_)
    · have hin : i = z := by
        rcases Nat.lt_or_ge i z with c | c
        · exact absurd h22 (by exact nI_ge (b := z) c (by omega))
        · omega
      refine w_aload_n (i := 0) (n' := 76) dX6_isTold_75 rfl rfl rfl ?_
      refine w_get (ci := 6) (j := 3) (n' := 79) dX6_isTold_76 rfl fRX6_19 (Nat.le_of_ble_eq_true rfl) (Nat.le_of_ble_eq_true rfl) rfl rfl ?_
      refine w_aload_n (i := 0) (n' := 80) dX6_isTold_79 rfl rfl rfl ?_
      refine w_get (ci := 6) (j := 0) (n' := 83) dX6_isTold_80 rfl fRX6_7 (Nat.le_of_ble_eq_true rfl) (Nat.le_of_ble_eq_true rfl) rfl rfl ?_
      refine s_E (n' := 86) dX6_isTold_83 rfl lRX6_162 okX6_copyRow stX6_copyRow ⟨⟨Nat.le_of_ble_eq_true rfl, Nat.le_of_ble_eq_true rfl⟩, Nat.le_of_ble_eq_true rfl, Nat.le_of_ble_eq_true rfl⟩ (c6_copyRow (a := 54) (b := 51) rfl rfl rfl rfl (by decide) _) rfl rfl (Nat.le_of_ble_eq_true rfl) ?_
      refine w_iload_n (i := 2) (n' := 87) dX6_isTold_86 rfl rfl rfl ?_
      exact w_zret dX6_isTold_87 rfl (z_nar (by rw [h2]; exact bB_01 _)) ⟨_, rfl, by rw [h2, hin], hQ.back h1 (fun j hj => yrsR_hi h8 hj _)⟩
    · have hlt : i < z := by
        rcases Nat.lt_or_ge i z with c | c
        · exact c
        · exact absurd (by exact nI_le (a := z) c (by omega)) h22
      have ih2 := fun (b9 : Int32) (l6 : Option Value) (m9 : Mem) hh => ih hlt (b9, l6, m9) hh
      dsimp only at ih2
      refine w_iload_n (i := 2) (n' := 26) dX6_isTold_25 rfl rfl rfl ?_
      refine w_if_eq (n' := 29) (tgt := 75) dX6_isTold_26 rfl rfl (fun h26 => ?_) (fun h26 => ?_)
      · have hB : toldB mem q n (mem 51) i = false := bB_0.mp (by rw [← h2]; exact h26)
        refine w_aload_n (i := 0) (n' := 76) dX6_isTold_75 rfl rfl rfl ?_
        refine w_get (ci := 6) (j := 3) (n' := 79) dX6_isTold_76 rfl fRX6_19 (Nat.le_of_ble_eq_true rfl) (Nat.le_of_ble_eq_true rfl) rfl rfl ?_
        refine w_aload_n (i := 0) (n' := 80) dX6_isTold_79 rfl rfl rfl ?_
        refine w_get (ci := 6) (j := 0) (n' := 83) dX6_isTold_80 rfl fRX6_7 (Nat.le_of_ble_eq_true rfl) (Nat.le_of_ble_eq_true rfl) rfl rfl ?_
        refine s_E (n' := 86) dX6_isTold_83 rfl lRX6_162 okX6_copyRow stX6_copyRow ⟨⟨Nat.le_of_ble_eq_true rfl, Nat.le_of_ble_eq_true rfl⟩, Nat.le_of_ble_eq_true rfl, Nat.le_of_ble_eq_true rfl⟩ (c6_copyRow (a := 54) (b := 51) rfl rfl rfl rfl (by decide) _) rfl rfl (Nat.le_of_ble_eq_true rfl) ?_
        refine w_iload_n (i := 2) (n' := 87) dX6_isTold_86 rfl rfl rfl ?_
        exact w_zret dX6_isTold_87 rfl (z_nar (by rw [h2]; exact bB_01 _)) ⟨_, rfl, by rw [h2, hB, toldB_no hB z (by omega)], hQ.back h1 (fun j hj => yrsR_hi h8 hj _)⟩
      · have hB : toldB mem q n (mem 51) i = true := bB_n.mp (by rw [← h2]; exact h26)
        refine w_aload_n (i := 0) (n' := 30) dX6_isTold_29 rfl rfl rfl ?_
        refine w_get (ci := 6) (j := 10) (n' := 33) dX6_isTold_30 rfl fRX6_34 (Nat.le_of_ble_eq_true rfl) (Nat.le_of_ble_eq_true rfl) rfl rfl ?_
        refine w_bipush (v := 40) (n' := 35) dX6_isTold_33 rfl (by decide) ?_
        refine w_iload_n (i := 1) (n' := 36) dX6_isTold_35 rfl rfl rfl ?_
        refine w_imul (n' := 37) dX6_isTold_36 rfl ?_
        refine w_iload_n (i := 3) (n' := 38) dX6_isTold_37 rfl rfl rfl ?_
        refine w_iadd (n' := 39) dX6_isTold_38 rfl ?_
        refine w_iald (n := 40 * q + i) (n' := 40) dX6_isTold_39 rfl rfl (by rw [hq2, show (40 : Int32) = nI 40 from rfl, pk_mul, nI_add]) (show 40 * q + i < 160 by omega) ?_
        refine w_istore (n' := 42) (ls' := [_, _, _, _, _]) dX6_isTold_40 rfl (Nat.le_of_ble_eq_true rfl) rfl rfl ?_
        refine w_iload (n' := 44) dX6_isTold_42 rfl rfl ?_
        refine w_sipush (v := 9999) (n' := 47) dX6_isTold_44 rfl (by decide) ?_
        refine w_icmp_eq (n' := 50) (tgt := 59) dX6_isTold_47 rfl rfl (fun h47 => ?_) (fun h47 => ?_)
        · refine w_iconst (v := 1) (n' := 60) dX6_isTold_59 rfl rfl ?_
          refine w_goto (tgt := 64) dX6_isTold_60 rfl ?_
          refine w_istore_n (i := 2) (n' := 65) (ls' := [_, _, _, _, _]) dX6_isTold_64 rfl rfl (Nat.le_of_ble_eq_true rfl) rfl rfl ?_
          refine w_aload_n (i := 0) (n' := 66) dX6_isTold_65 rfl rfl rfl ?_
          refine v_V (ci := 6) (n' := 69) dX6_isTold_66 rfl lRX6_142 okX6_year voX6_year ⟨⟨Nat.le_of_ble_eq_true rfl, Nat.le_of_ble_eq_true rfl⟩, Nat.le_of_ble_eq_true rfl, Nat.le_of_ble_eq_true rfl⟩ (c6_year hp) rfl rfl (Nat.le_of_ble_eq_true rfl) rfl (Nat.le_of_ble_eq_true rfl) rfl (fun m66 q66 => ?_)
          refine w_iinc (n' := 72) (v := nI (i + 1)) (ls' := [_, _, _, _, _]) dX6_isTold_69 rfl rfl (nI_1 i) (Nat.le_of_ble_eq_true rfl) rfl rfl ?_
          refine w_goto (tgt := 15) dX6_isTold_72 rfl ?_
          exact ih2 _ _ _ ⟨h1.yr q66, by rw [toldB, hB, ← e59, h47]; rfl⟩
        · refine w_iload (n' := 52) dX6_isTold_50 rfl rfl ?_
          refine w_aload_n (i := 0) (n' := 53) dX6_isTold_52 rfl rfl rfl ?_
          refine v_E (ci := 6) (n' := 56) dX6_isTold_53 rfl lRX6_131 okX6_leanNow voX6_leanNow ⟨⟨Nat.le_of_ble_eq_true rfl, Nat.le_of_ble_eq_true rfl⟩, Nat.le_of_ble_eq_true rfl, Nat.le_of_ble_eq_true rfl⟩ (c6_leanNow hp) rfl rfl (Nat.le_of_ble_eq_true rfl) rfl (Nat.le_of_ble_eq_true rfl) rfl ?_
          refine w_icmp_ne (n' := 59) (tgt := 63) dX6_isTold_56 rfl rfl (fun h56 => ?_) (fun h56 => ?_)
          · refine w_iconst (v := 0) (n' := 64) dX6_isTold_63 rfl rfl ?_
            refine w_istore_n (i := 2) (n' := 65) (ls' := [_, _, _, _, _]) dX6_isTold_64 rfl rfl (Nat.le_of_ble_eq_true rfl) rfl rfl ?_
            refine w_aload_n (i := 0) (n' := 66) dX6_isTold_65 rfl rfl rfl ?_
            refine v_V (ci := 6) (n' := 69) dX6_isTold_66 rfl lRX6_142 okX6_year voX6_year ⟨⟨Nat.le_of_ble_eq_true rfl, Nat.le_of_ble_eq_true rfl⟩, Nat.le_of_ble_eq_true rfl, Nat.le_of_ble_eq_true rfl⟩ (c6_year (cd_MO hp)) rfl rfl (Nat.le_of_ble_eq_true rfl) rfl (Nat.le_of_ble_eq_true rfl) rfl (fun m66 q66 => ?_)
            refine w_iinc (n' := 72) (v := nI (i + 1)) (ls' := [_, _, _, _, _]) dX6_isTold_69 rfl rfl (nI_1 i) (Nat.le_of_ble_eq_true rfl) rfl rfl ?_
            refine w_goto (tgt := 15) dX6_isTold_72 rfl ?_
            exact ih2 _ _ _ ⟨h1.cd.yr q66, by rw [toldB, hB, ← e59, decide_eq_false h47, decide_eq_false (by rw [h1.lean, h1.DM] at h56; exact h56)]; rfl⟩
          · refine w_iconst (v := 1) (n' := 60) dX6_isTold_59 rfl rfl ?_
            refine w_goto (tgt := 64) dX6_isTold_60 rfl ?_
            refine w_istore_n (i := 2) (n' := 65) (ls' := [_, _, _, _, _]) dX6_isTold_64 rfl rfl (Nat.le_of_ble_eq_true rfl) rfl rfl ?_
            refine w_aload_n (i := 0) (n' := 66) dX6_isTold_65 rfl rfl rfl ?_
            refine v_V (ci := 6) (n' := 69) dX6_isTold_66 rfl lRX6_142 okX6_year voX6_year ⟨⟨Nat.le_of_ble_eq_true rfl, Nat.le_of_ble_eq_true rfl⟩, Nat.le_of_ble_eq_true rfl, Nat.le_of_ble_eq_true rfl⟩ (c6_year (cd_MO hp)) rfl rfl (Nat.le_of_ble_eq_true rfl) rfl (Nat.le_of_ble_eq_true rfl) rfl (fun m66 q66 => ?_)
            refine w_iinc (n' := 72) (v := nI (i + 1)) (ls' := [_, _, _, _, _]) dX6_isTold_69 rfl rfl (nI_1 i) (Nat.le_of_ble_eq_true rfl) rfl rfl ?_
            refine w_goto (tgt := 15) dX6_isTold_72 rfl ?_
            exact ih2 _ _ _ ⟨h1.cd.yr q66, by rw [toldB, hB, ← e59, decide_eq_false h47, decide_eq_true (by rw [h1.lean, h1.DM] at h56; exact h56)]; rfl⟩
  exact L 0 (_, _, _) (Nat.zero_le _) ⟨hA, rfl⟩
theorem MOR_op {s : Nat → Int32} {n i : Nat} {v : Int32} (h : MOR s n) (h1 : -9 ≤ v.toInt) (h2 : v.toInt ≤ 9) : MOR (upd s (6 + 5 * i + 3) v) n := by
  refine ⟨by rw [← h.1]; simp only [upd]; rw [if_neg (by omega)], h.2.1, ?_, fun k hk => ?_⟩
  · obtain ⟨w, w1, w2⟩ := h.2.2.1
    exact ⟨w, w1, by simp only [upd]; rw [if_neg (by omega)]; exact w2⟩
  · obtain ⟨a0, a1, a2, a3, a4⟩ := h.2.2.2 k hk
    by_cases c : k = i
    · subst c
      exact ⟨by simpa [upd] using a0, by simpa [upd] using a1, by simpa [upd] using a2, ⟨by simpa [upd] using h1, by simpa [upd] using h2⟩, by simpa [upd] using a4⟩
    · refine FB_congr (fun j hj => ?_) (h.2.2.2 k hk)
      simp only [upd]
      rw [if_neg (by omega)]
def opK (y : Nat) : Int32 := 9 - nI y
theorem opK_tab : ∀ y, y < 20 → (opK y).toInt = 9 - (y : Int) ∧ opK y + Int32.ofInt (-1) = opK (y + 1) := by decide +kernel
def fitB (m : Mem) (q n z i : Nat) (y : Nat) : Bool := toldB m q n (upd (m 51) (6 + 5 * i + 3) (opK y)) z
def lowF (B : Nat → Bool) (old : Int32) : Nat → Int32
  | 0 => old
  | y + 1 => if B y then opK y else lowF B old y
/-- while opinions are tried -/
def FiI (mem s : Mem) (p : Nat) (v c l : Int32) : Prop := s 51 = upd (mem 51) p v ∧ s 50 = upd (upd (mem 50) 13 c) 14 l ∧ ∀ a, a ≠ 50 → a ≠ 51 → a ≠ 54 → a ≠ 60 → s a = mem a
theorem toldB_congr {m m' : Mem} (h : m' 59 = m 59) (q n : Nat) (r : Nat → Int32) : ∀ z, toldB m' q n r z = toldB m q n r z
  | 0 => rfl
  | z + 1 => by rw [toldB, toldB, toldB_congr h q n r z, h]
theorem FiI.put {mem s : Mem} {p : Nat} {v c l x : Int32} (h : FiI mem s p v c l) : FiI mem (up2 s 51 p x) p x c l := by
  refine ⟨?_, by rw [up2_ne _ _ _ (by decide)]; exact h.2.1, fun a a0 a1 a2 a3 => by rw [up2_ne _ _ _ a1]; exact h.2.2 a a0 a1 a2 a3⟩
  rw [up2_same, h.1]
  funext j
  by_cases e : j = p <;> simp [upd, e]
theorem FiI.qx {mem s t : Mem} {p : Nat} {v c l : Int32} (h : FiI mem s p v c l) (h2 : QX s t) : FiI mem t p v c l := ⟨by rw [h2.1]; exact h.1, by rw [h2.2 50 (by decide) (by decide) (by decide)]; exact h.2.1, fun a a0 a1 a2 a3 => by rw [h2.2 a a1 a2 a3]; exact h.2.2 a a0 a1 a2 a3⟩
theorem FiI.up {mem s : Mem} {p : Nat} {v c l x y : Int32} (h : FiI mem s p v c l) (hx : x = c + 1) : FiI mem (up2 (up2 s 50 13 x) 50 14 y) p v (c + 1) y := by
  subst hx
  refine ⟨by rw [up2_ne _ _ _ (by decide), up2_ne _ _ _ (by decide)]; exact h.1, ?_, fun a a0 a1 a2 a3 => by rw [up2_ne _ _ _ a0, up2_ne _ _ _ a0]; exact h.2.2 a a0 a1 a2 a3⟩
  rw [up2_same, up2_same, h.2.1]
  funext j
  by_cases e : j = 14
  · simp [upd, e]
  · by_cases e2 : j = 13 <;> simp [upd, e, e2]
/-- the row, and all cells but the days, the cuts, the row aside and what was found of fits, stay -/
def QF (mem m' : Mem) : Prop := (∀ j, j < 56 → m' 51 j = mem 51 j) ∧ (∀ j, j ≠ 13 → j ≠ 14 → m' 50 j = mem 50 j) ∧ ∀ a, a ≠ 50 → a ≠ 51 → a ≠ 54 → a ≠ 60 → a ≠ 61 → m' a = mem a
theorem FiI.fin {mem s : Mem} {p : Nat} {v c l x : Int32} (h : FiI mem s p v c l) (hx : x = mem 51 p) : QF mem (up2 s 51 p x) := by
  subst hx
  refine ⟨fun j _ => ?_, fun j j1 j2 => ?_, fun a a0 a1 a2 a3 _ => by rw [up2_ne _ _ _ a1]; exact h.2.2 a a0 a1 a2 a3⟩
  · rw [up2_same, h.1]
    by_cases e : j = p <;> simp [upd, e]
  · rw [up2_ne _ _ _ (by decide), h.2.1]
    simp [upd, j1, j2]
set_option maxHeartbeats 4000000 in
theorem c6_findsFits {n q z i : Nat} {mem : Mem} (h : MO mem n) (hq : q < 4) (hz : z ≤ 40) (hs : mem 58 q = nI z) (hi : i < n) (s f : Int32) (hq2 : s = nI q) (hf : f = nI i) : CnV mX6_findsFits [.ref 50, .int s, .int f] mem (fun m' => QF mem m' ∧ m' 50 13 = cntT (fitB mem q n z i) 19 ∧ m' 50 14 = lowF (fitB mem q n z i) (mem 50 14) 19) := by
  have h8 := h.2.1
  have hR := MO_R.mp h
  refine Cn.of (ls := [some (.ref 50), some (.int s), some (.int f), none, none, none]) (by decide) rfl (Nat.le_of_ble_eq_true rfl) ?_
  refine w_bipush (v := 6) (n' := 2) dX6_findsFits_0 rfl (by decide) ?_
  refine w_iconst (v := 5) (n' := 3) dX6_findsFits_2 rfl rfl ?_
  refine w_iload_n (i := 2) (n' := 4) dX6_findsFits_3 rfl rfl rfl ?_
  refine w_imul (n' := 5) dX6_findsFits_4 rfl ?_
  refine w_iadd (n' := 6) dX6_findsFits_5 rfl ?_
  refine w_iconst (v := 3) (n' := 7) dX6_findsFits_6 rfl rfl ?_
  refine w_iadd (n' := 8) dX6_findsFits_7 rfl ?_
  rw [show (6 : Int32) + 5 * f + 3 = nI (6 + 5 * i + 3) from by rw [hf, show (6 : Int32) = nI 6 from rfl, show (5 : Int32) = nI 5 from rfl, show (3 : Int32) = nI 3 from rfl, pk_mul, nI_add, nI_add]]
  refine w_istore_n (i := 3) (n' := 9) (ls' := [_, _, _, _, _, _]) dX6_findsFits_8 rfl rfl (Nat.le_of_ble_eq_true rfl) rfl rfl ?_
  refine w_aload_n (i := 0) (n' := 10) dX6_findsFits_9 rfl rfl rfl ?_
  refine w_get (ci := 6) (j := 0) (n' := 13) dX6_findsFits_10 rfl fRX6_7 (Nat.le_of_ble_eq_true rfl) (Nat.le_of_ble_eq_true rfl) rfl rfl ?_
  refine w_iload_n (i := 3) (n' := 14) dX6_findsFits_13 rfl rfl rfl ?_
  refine w_iald (n := 6 + 5 * i + 3) (n' := 15) dX6_findsFits_14 rfl rfl rfl (show 6 + 5 * i + 3 < 56 by omega) ?_
  refine w_istore (n' := 17) (ls' := [_, _, _, _, _, _]) dX6_findsFits_15 rfl (Nat.le_of_ble_eq_true rfl) rfl rfl ?_
  refine w_aload_n (i := 0) (n' := 18) dX6_findsFits_17 rfl rfl rfl ?_
  refine w_iconst (v := 0) (n' := 19) dX6_findsFits_18 rfl rfl ?_
  refine w_put (ci := 6) (j := 13) (n' := 22) dX6_findsFits_19 rfl fRX6_185 (Nat.le_of_ble_eq_true rfl) (Nat.le_of_ble_eq_true rfl) rfl rfl rfl rfl ?_
  refine w_bipush (v := 9) (n' := 24) dX6_findsFits_22 rfl (by decide) ?_
  refine w_istore (n' := 26) (ls' := [_, _, _, _, _, _]) dX6_findsFits_24 rfl (Nat.le_of_ble_eq_true rfl) rfl rfl ?_
  have L : ∀ (y : Nat) (t : Mem), y ≤ 19 → (∃ v, FiI mem t (6 + 5 * i + 3) v (cntT (fitB mem q n z i) y) (lowF (fitB mem q n z i) (mem 50 14) y)) → Wm mX6_findsFits (zM mX6_findsFits (fun rZ mZ => rZ = none ∧ (fun m' => QF mem m' ∧ m' 50 13 = cntT (fitB mem q n z i) 19 ∧ m' 50 14 = lowF (fitB mem q n z i) (mem 50 14) 19) mZ)) 26 [some (.ref 50), some (.int s), some (.int f), some (.int (nI (6 + 5 * i + 3))), some (.int (mem 51 (6 + 5 * i + 3))), some (.int (opK y))] [] t := by
    refine for_ind 19 ?_
    rintro y t hy ⟨v, h1⟩ ih
    obtain ⟨o1, o2⟩ := opK_tab y (by omega)
    refine w_iload (n' := 28) dX6_findsFits_26 rfl rfl ?_
    refine w_bipush (v := -9) (n' := 30) dX6_findsFits_28 rfl (by decide) ?_
    refine w_icmp_lt (n' := 33) (tgt := 71) dX6_findsFits_30 rfl rfl (fun h30 => ?_) (fun h30 => ?_)
    · have hin : y = 19 := by
        rw [Int32.lt_iff_toInt_lt, o1, show (-9 : Int32).toInt = -9 by decide] at h30
        omega
      refine w_aload_n (i := 0) (n' := 72) dX6_findsFits_71 rfl rfl rfl ?_
      refine w_get (ci := 6) (j := 0) (n' := 75) dX6_findsFits_72 rfl fRX6_7 (Nat.le_of_ble_eq_true rfl) (Nat.le_of_ble_eq_true rfl) rfl rfl ?_
      refine w_iload_n (i := 3) (n' := 76) dX6_findsFits_75 rfl rfl rfl ?_
      refine w_iload (n' := 78) dX6_findsFits_76 rfl rfl ?_
      refine w_iast (n := 6 + 5 * i + 3) (n' := 79) dX6_findsFits_78 rfl rfl rfl (show 6 + 5 * i + 3 < 56 by omega) ?_
      exact w_vret dX6_findsFits_79 rfl ⟨rfl, h1.fin rfl, by rw [up2_ne _ _ _ (by decide), h1.2.1, ← hin]; simp [upd], by rw [up2_ne _ _ _ (by decide), h1.2.1, ← hin]; simp [upd]⟩
    · have hlt : y < 19 := by
        rw [Int32.lt_iff_toInt_lt, o1, show (-9 : Int32).toInt = -9 by decide] at h30
        omega
      refine w_aload_n (i := 0) (n' := 34) dX6_findsFits_33 rfl rfl rfl ?_
      refine w_get (ci := 6) (j := 0) (n' := 37) dX6_findsFits_34 rfl fRX6_7 (Nat.le_of_ble_eq_true rfl) (Nat.le_of_ble_eq_true rfl) rfl rfl ?_
      refine w_iload_n (i := 3) (n' := 38) dX6_findsFits_37 rfl rfl rfl ?_
      refine w_iload (n' := 40) dX6_findsFits_38 rfl rfl ?_
      refine w_iast (n := 6 + 5 * i + 3) (n' := 41) dX6_findsFits_40 rfl rfl rfl (show 6 + 5 * i + 3 < 56 by omega) ?_
      have h3 := h1.put (x := opK y)
      have hp : MO (up2 t 51 (6 + 5 * i + 3) (opK y)) n := MO_R.mpr (by rw [h3.1]; exact MOR_op hR (by omega) (by omega))
      have e59 : up2 t 51 (6 + 5 * i + 3) (opK y) 59 = mem 59 := h3.2.2 59 (by decide) (by decide) (by decide) (by decide)
      have e58 : up2 t 51 (6 + 5 * i + 3) (opK y) 58 q = nI z := by rw [h3.2.2 58 (by decide) (by decide) (by decide) (by decide)]; exact hs
      refine w_aload_n (i := 0) (n' := 42) dX6_findsFits_41 rfl rfl rfl ?_
      refine w_iload_n (i := 1) (n' := 43) dX6_findsFits_42 rfl rfl rfl ?_
      refine v_I (ci := 6) (n' := 46) dX6_findsFits_43 rfl lRX6_189 okX6_isTold voX6_isTold ⟨⟨Nat.le_of_ble_eq_true rfl, Nat.le_of_ble_eq_true rfl⟩, Nat.le_of_ble_eq_true rfl, Nat.le_of_ble_eq_true rfl⟩ (c6_isTold hp hq hz e58 _ hq2) rfl rfl (Nat.le_of_ble_eq_true rfl) rfl (Nat.le_of_ble_eq_true rfl) rfl (fun x43 m43 q43 => ?_)
      have hx : x43 = bB (fitB mem q n z i y) := by rw [q43.1, toldB_congr e59, h3.1]; rfl
      refine w_if_eq (n' := 49) (tgt := 65) dX6_findsFits_46 rfl rfl (fun h46 => ?_) (fun h46 => ?_)
      · have hB : ¬ fitB mem q n z i y = true := fun e => bB_n.mpr e (by rw [← hx]; exact h46)
        refine w_iinc (n' := 68) (v := opK (y + 1)) (ls' := [_, _, _, _, _, _]) dX6_findsFits_65 rfl rfl o2 (Nat.le_of_ble_eq_true rfl) rfl rfl ?_
        refine w_goto (tgt := 26) dX6_findsFits_68 rfl ?_
        exact ih hlt _ ⟨_, by rw [cntT, lowF, if_neg hB, if_neg hB]; exact h3.qx q43.2⟩
      · have hB : fitB mem q n z i y = true := bB_n.mp (by rw [← hx]; exact h46)
        refine w_aload_n (i := 0) (n' := 50) dX6_findsFits_49 rfl rfl rfl ?_
        refine w_dup (n' := 51) dX6_findsFits_50 rfl rfl ?_
        refine w_get (ci := 6) (j := 13) (n' := 54) dX6_findsFits_51 rfl fRX6_185 (Nat.le_of_ble_eq_true rfl) (Nat.le_of_ble_eq_true rfl) rfl rfl ?_
        refine w_iconst (v := 1) (n' := 55) dX6_findsFits_54 rfl rfl ?_
        refine w_iadd (n' := 56) dX6_findsFits_55 rfl ?_
        refine w_put (ci := 6) (j := 13) (n' := 59) dX6_findsFits_56 rfl fRX6_185 (Nat.le_of_ble_eq_true rfl) (Nat.le_of_ble_eq_true rfl) rfl rfl rfl rfl ?_
        refine w_aload_n (i := 0) (n' := 60) dX6_findsFits_59 rfl rfl rfl ?_
        refine w_iload (n' := 62) dX6_findsFits_60 rfl rfl ?_
        refine w_put (ci := 6) (j := 14) (n' := 65) dX6_findsFits_62 rfl fRX6_192 (Nat.le_of_ble_eq_true rfl) (Nat.le_of_ble_eq_true rfl) rfl rfl rfl rfl ?_
        refine w_iinc (n' := 68) (v := opK (y + 1)) (ls' := [_, _, _, _, _, _]) dX6_findsFits_65 rfl rfl o2 (Nat.le_of_ble_eq_true rfl) rfl rfl ?_
        refine w_goto (tgt := 26) dX6_findsFits_68 rfl ?_
        exact ih hlt _ ⟨_, by rw [cntT, lowF, if_pos hB, if_pos hB]; exact (h3.qx q43.2).up (by rw [(h3.qx q43.2).2.1]; simp [upd])⟩
  exact L 0 _ (Nat.zero_le _) ⟨mem 51 (6 + 5 * i + 3), by rw [upd_self, up2_ne _ _ _ (by decide)], by rw [up2_same]; funext j; by_cases e : j = 14 <;> by_cases e2 : j = 13 <;> simp [upd, cntT, lowF, e, e2], fun a a0 _ _ _ => by rw [up2_ne _ _ _ a0]⟩
theorem wanF_0 {m : Mem} {n : Nat} {s f : Int32} (hn : n ≤ 1000) (h : wanF m n s f = 0) : ∃ q i, q < 4 ∧ s = nI q ∧ ¬ inR s 0 3 = 0 ∧ 0 ≤ m 57 q ∧ i < n ∧ f = nI i := by
  unfold wanF at h
  by_cases c : wantM m s = 0
  · rw [if_pos c] at h
    by_cases d : inR f 0 (nI n - 1) = 0
    · rw [if_pos d] at h; exact absurd h (by decide)
    · obtain ⟨q, q1, q2, q3, q4⟩ := want_0 c
      obtain ⟨i, i1, i2⟩ := hasF_of hn d
      exact ⟨q, i, q1, q2, q3, q4, i1, i2⟩
  · rw [if_neg c] at h
    exact absurd h c
theorem wanF_n {m : Mem} {n : Nat} {s f : Int32} (h : ¬ wanF m n s f = 0) : (inR s 0 3 = 0 ∧ wanF m n s f = -1000001 ∧ wanW m s = 0) ∨ (∃ q, q < 4 ∧ s = nI q ∧ ¬ inR s 0 3 = 0 ∧ ((¬ 0 ≤ m 57 q ∧ wanF m n s f = -1000006 ∧ wanW m s = 5) ∨ (0 ≤ m 57 q ∧ inR f 0 (nI n - 1) = 0 ∧ wanF m n s f = -1000001 ∧ wanW m s = 0))) := by
  unfold wanF wanW at *
  by_cases c : wantM m s = 0
  · rw [if_pos c] at h
    rw [if_pos c, if_pos c]
    by_cases d : inR f 0 (nI n - 1) = 0
    · obtain ⟨q, q1, q2, q3, q4⟩ := want_0 c
      exact Or.inr ⟨q, q1, q2, q3, Or.inr ⟨q4, d, by rw [if_pos d], rfl⟩⟩
    · rw [if_neg d] at h; exact absurd rfl h
  · rw [if_neg c, if_neg c]
    rcases want_n c with ⟨e1, e2, e3⟩ | ⟨q, e1, e2, e3, e4, e5, e6⟩
    · exact Or.inl ⟨e1, e2, e3⟩
    · exact Or.inr ⟨q, e1, e2, e3, Or.inl ⟨e4, e5, e6⟩⟩
set_option maxHeartbeats 4000000 in
theorem c6_fits {n : Nat} {mem : Mem} (h : MO mem n) (s f : Int32) (hl : ∀ q, q < 4 → ∃ z, z ≤ 40 ∧ mem 58 q = nI z) : CnI mX6_fits [.ref 50, .int s, .int f] mem (fun x m' => (inR s 0 3 = 0 ∧ x = -1000001 ∧ m' = fndM mem 0) ∨ (∃ q, q < 4 ∧ s = nI q ∧ ¬ inR s 0 3 = 0 ∧ ((¬ 0 ≤ mem 57 q ∧ x = -1000006 ∧ m' = fndM mem 5) ∨ (0 ≤ mem 57 q ∧ ((inR f 0 (nI n - 1) = 0 ∧ x = -1000001 ∧ m' = fndM mem 0) ∨ (∃ i z, i < n ∧ f = nI i ∧ z ≤ 40 ∧ mem 58 q = nI z ∧ x = cntT (fitB mem q n z i) 19 ∧ QF mem m')))))) := by
  refine Cn.of (ls := [some (.ref 50), some (.int s), some (.int f), none]) (by decide) rfl (Nat.le_of_ble_eq_true rfl) ?_
  refine w_aload_n (i := 0) (n' := 1) dX6_fits_0 rfl rfl rfl ?_
  refine w_iload_n (i := 1) (n' := 2) dX6_fits_1 rfl rfl rfl ?_
  refine w_iload_n (i := 2) (n' := 3) dX6_fits_2 rfl rfl rfl ?_
  refine v_E (ci := 6) (n' := 6) dX6_fits_3 rfl lRX6_198 okX6_wantsFor voX6_wantsFor ⟨⟨Nat.le_of_ble_eq_true rfl, Nat.le_of_ble_eq_true rfl⟩, Nat.le_of_ble_eq_true rfl, Nat.le_of_ble_eq_true rfl⟩ (c6_wantsFor h.1 h.2.1 _ _) rfl rfl (Nat.le_of_ble_eq_true rfl) rfl (Nat.le_of_ble_eq_true rfl) rfl ?_
  refine w_istore_n (i := 3) (n' := 7) (ls' := [_, _, _, _]) dX6_fits_6 rfl rfl (Nat.le_of_ble_eq_true rfl) rfl rfl ?_
  refine w_iload_n (i := 3) (n' := 8) dX6_fits_7 rfl rfl rfl ?_
  refine w_if_eq (n' := 11) (tgt := 17) dX6_fits_8 rfl rfl (fun h8 => ?_) (fun h8 => ?_)
  · obtain ⟨q, i, hq1, hq2, hq3, hq4, hi1, hi2⟩ := wanF_0 (by have := h.2.1; omega) h8
    obtain ⟨z, hz1, hz2⟩ := hl q hq1
    refine w_aload_n (i := 0) (n' := 18) dX6_fits_17 rfl rfl rfl ?_
    refine w_iload_n (i := 1) (n' := 19) dX6_fits_18 rfl rfl rfl ?_
    refine w_iload_n (i := 2) (n' := 20) dX6_fits_19 rfl rfl rfl ?_
    refine v_V (ci := 6) (n' := 23) dX6_fits_20 rfl lRX6_201 okX6_findsFits voX6_findsFits ⟨⟨Nat.le_of_ble_eq_true rfl, Nat.le_of_ble_eq_true rfl⟩, Nat.le_of_ble_eq_true rfl, Nat.le_of_ble_eq_true rfl⟩ (c6_findsFits h hq1 hz1 hz2 hi1 _ _ hq2 hi2) rfl rfl (Nat.le_of_ble_eq_true rfl) rfl (Nat.le_of_ble_eq_true rfl) rfl (fun m20 q20 => ?_)
    refine w_aload_n (i := 0) (n' := 24) dX6_fits_23 rfl rfl rfl ?_
    refine w_get (ci := 6) (j := 13) (n' := 27) dX6_fits_24 rfl fRX6_185 (Nat.le_of_ble_eq_true rfl) (Nat.le_of_ble_eq_true rfl) rfl rfl ?_
    exact w_iret dX6_fits_27 rfl ⟨_, rfl, Or.inr ⟨q, hq1, hq2, hq3, Or.inr ⟨hq4, Or.inr ⟨i, z, hi1, hi2, hz1, hz2, q20.2.1, q20.1⟩⟩⟩⟩
  · refine w_aload_n (i := 0) (n' := 12) dX6_fits_11 rfl rfl rfl ?_
    refine w_iload_n (i := 3) (n' := 13) dX6_fits_12 rfl rfl rfl ?_
    refine v_E (ci := 6) (n' := 16) dX6_fits_13 rfl lRX6_45 okX6_finds voX6_finds ⟨⟨Nat.le_of_ble_eq_true rfl, Nat.le_of_ble_eq_true rfl⟩, Nat.le_of_ble_eq_true rfl, Nat.le_of_ble_eq_true rfl⟩ (c6_findsF mem h8) rfl rfl (Nat.le_of_ble_eq_true rfl) rfl (Nat.le_of_ble_eq_true rfl) rfl ?_
    exact w_iret dX6_fits_16 rfl ⟨_, rfl, by
      rcases wanF_n h8 with ⟨e1, e2, e3⟩ | ⟨q, e1, e2, e3, ⟨e4, e5, e6⟩ | ⟨e4, e5, e6, e7⟩⟩
      · exact Or.inl ⟨e1, e2, by rw [e3]⟩
      · exact Or.inr ⟨q, e1, e2, e3, Or.inl ⟨e4, e5, by rw [e6]⟩⟩
      · exact Or.inr ⟨q, e1, e2, e3, Or.inr ⟨e4, Or.inl ⟨e5, e6, by rw [e7]⟩⟩⟩⟩
set_option maxHeartbeats 4000000 in
theorem c6_thinks {n : Nat} {mem : Mem} (h : MO mem n) (s f : Int32) (hl : ∀ q, q < 4 → ∃ z, z ≤ 40 ∧ mem 58 q = nI z) : CnI mX6_thinks [.ref 50, .int s, .int f] mem (fun x m' => (inR s 0 3 = 0 ∧ x = -1000001 ∧ m' = fndM mem 0) ∨ (∃ q, q < 4 ∧ s = nI q ∧ ¬ inR s 0 3 = 0 ∧ ((¬ 0 ≤ mem 57 q ∧ x = -1000006 ∧ m' = fndM mem 5) ∨ (0 ≤ mem 57 q ∧ ((inR f 0 (nI n - 1) = 0 ∧ x = -1000001 ∧ m' = fndM mem 0) ∨ (∃ i z, i < n ∧ f = nI i ∧ z ≤ 40 ∧ mem 58 q = nI z ∧ ((cntT (fitB mem q n z i) 19 ≤ 0 ∧ x = -1000004 ∧ ∃ m2, QF mem m2 ∧ m' = fndM m2 3) ∨ (¬ cntT (fitB mem q n z i) 19 ≤ 0 ∧ x = lowF (fitB mem q n z i) (mem 50 14) 19 ∧ QF mem m')))))))) := by
  refine Cn.of (ls := [some (.ref 50), some (.int s), some (.int f), none]) (by decide) rfl (Nat.le_of_ble_eq_true rfl) ?_
  refine w_aload_n (i := 0) (n' := 1) dX6_thinks_0 rfl rfl rfl ?_
  refine w_iload_n (i := 1) (n' := 2) dX6_thinks_1 rfl rfl rfl ?_
  refine w_iload_n (i := 2) (n' := 3) dX6_thinks_2 rfl rfl rfl ?_
  refine v_E (ci := 6) (n' := 6) dX6_thinks_3 rfl lRX6_198 okX6_wantsFor voX6_wantsFor ⟨⟨Nat.le_of_ble_eq_true rfl, Nat.le_of_ble_eq_true rfl⟩, Nat.le_of_ble_eq_true rfl, Nat.le_of_ble_eq_true rfl⟩ (c6_wantsFor h.1 h.2.1 _ _) rfl rfl (Nat.le_of_ble_eq_true rfl) rfl (Nat.le_of_ble_eq_true rfl) rfl ?_
  refine w_istore_n (i := 3) (n' := 7) (ls' := [_, _, _, _]) dX6_thinks_6 rfl rfl (Nat.le_of_ble_eq_true rfl) rfl rfl ?_
  refine w_iload_n (i := 3) (n' := 8) dX6_thinks_7 rfl rfl rfl ?_
  refine w_if_eq (n' := 11) (tgt := 17) dX6_thinks_8 rfl rfl (fun h8 => ?_) (fun h8 => ?_)
  · obtain ⟨q, i, hq1, hq2, hq3, hq4, hi1, hi2⟩ := wanF_0 (by have := h.2.1; omega) h8
    obtain ⟨z, hz1, hz2⟩ := hl q hq1
    refine w_aload_n (i := 0) (n' := 18) dX6_thinks_17 rfl rfl rfl ?_
    refine w_iload_n (i := 1) (n' := 19) dX6_thinks_18 rfl rfl rfl ?_
    refine w_iload_n (i := 2) (n' := 20) dX6_thinks_19 rfl rfl rfl ?_
    refine v_V (ci := 6) (n' := 23) dX6_thinks_20 rfl lRX6_201 okX6_findsFits voX6_findsFits ⟨⟨Nat.le_of_ble_eq_true rfl, Nat.le_of_ble_eq_true rfl⟩, Nat.le_of_ble_eq_true rfl, Nat.le_of_ble_eq_true rfl⟩ (c6_findsFits h hq1 hz1 hz2 hi1 _ _ hq2 hi2) rfl rfl (Nat.le_of_ble_eq_true rfl) rfl (Nat.le_of_ble_eq_true rfl) rfl (fun m20 q20 => ?_)
    refine w_aload_n (i := 0) (n' := 24) dX6_thinks_23 rfl rfl rfl ?_
    refine w_get (ci := 6) (j := 13) (n' := 27) dX6_thinks_24 rfl fRX6_185 (Nat.le_of_ble_eq_true rfl) (Nat.le_of_ble_eq_true rfl) rfl rfl ?_
    refine w_if_le (n' := 30) (tgt := 37) dX6_thinks_27 rfl rfl (fun h27 => ?_) (fun h27 => ?_)
    · refine w_aload_n (i := 0) (n' := 38) dX6_thinks_37 rfl rfl rfl ?_
      refine w_ldc (v := -1000004) (n' := 40) dX6_thinks_38 rfl kRX6_44 ?_
      refine v_E (ci := 6) (n' := 43) dX6_thinks_40 rfl lRX6_45 okX6_finds voX6_finds ⟨⟨Nat.le_of_ble_eq_true rfl, Nat.le_of_ble_eq_true rfl⟩, Nat.le_of_ble_eq_true rfl, Nat.le_of_ble_eq_true rfl⟩ (c6_finds 3 _ (by decide) (by decide) _) rfl rfl (Nat.le_of_ble_eq_true rfl) rfl (Nat.le_of_ble_eq_true rfl) rfl ?_
      exact w_iret dX6_thinks_43 rfl ⟨_, rfl, Or.inr ⟨q, hq1, hq2, hq3, Or.inr ⟨hq4, Or.inr ⟨i, z, hi1, hi2, hz1, hz2, Or.inl ⟨by rw [← q20.2.1]; exact h27, rfl, _, q20.1, rfl⟩⟩⟩⟩⟩
    · refine w_aload_n (i := 0) (n' := 31) dX6_thinks_30 rfl rfl rfl ?_
      refine w_get (ci := 6) (j := 14) (n' := 34) dX6_thinks_31 rfl fRX6_192 (Nat.le_of_ble_eq_true rfl) (Nat.le_of_ble_eq_true rfl) rfl rfl ?_
      refine w_goto (tgt := 43) dX6_thinks_34 rfl ?_
      exact w_iret dX6_thinks_43 rfl ⟨_, rfl, Or.inr ⟨q, hq1, hq2, hq3, Or.inr ⟨hq4, Or.inr ⟨i, z, hi1, hi2, hz1, hz2, Or.inr ⟨by rw [← q20.2.1]; exact h27, q20.2.2, q20.1⟩⟩⟩⟩⟩
  · refine w_aload_n (i := 0) (n' := 12) dX6_thinks_11 rfl rfl rfl ?_
    refine w_iload_n (i := 3) (n' := 13) dX6_thinks_12 rfl rfl rfl ?_
    refine v_E (ci := 6) (n' := 16) dX6_thinks_13 rfl lRX6_45 okX6_finds voX6_finds ⟨⟨Nat.le_of_ble_eq_true rfl, Nat.le_of_ble_eq_true rfl⟩, Nat.le_of_ble_eq_true rfl, Nat.le_of_ble_eq_true rfl⟩ (c6_findsF mem h8) rfl rfl (Nat.le_of_ble_eq_true rfl) rfl (Nat.le_of_ble_eq_true rfl) rfl ?_
    exact w_iret dX6_thinks_16 rfl ⟨_, rfl, by
      rcases wanF_n h8 with ⟨e1, e2, e3⟩ | ⟨q, e1, e2, e3, ⟨e4, e5, e6⟩ | ⟨e4, e5, e6, e7⟩⟩
      · exact Or.inl ⟨e1, e2, by rw [e3]⟩
      · exact Or.inr ⟨q, e1, e2, e3, Or.inl ⟨e4, e5, by rw [e6]⟩⟩
      · exact Or.inr ⟨q, e1, e2, e3, Or.inr ⟨e4, Or.inl ⟨e5, e6, by rw [e7]⟩⟩⟩⟩
