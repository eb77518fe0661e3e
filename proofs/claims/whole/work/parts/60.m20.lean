/-! the reference: a text -/
theorem han_ge {m : Mem} {T f : Nat} (hf : f ≤ T) (i : Nat) (r : Nat → Int32) : f ≤ (hanP (BT m T) T i f r).2.1 := by
  have hg := nxF_le (m := m) hf
  have hg2 := nxF_le (m := m) hg.2
  unfold hanP
  split
  · split
    · exact Nat.le_trans hg.1 hg2.1
    · exact hg.1
  · exact Nat.le_refl _
theorem thi_ge {m : Mem} {T f : Nat} (hf : f ≤ T) (i : Nat) (r : Nat → Int32) : f ≤ (thiP (BT m T) T i f r).2.1 := by
  have hg := nxF_le (m := m) hf
  have hg2 := nxF_le (m := m) hg.2
  have hG : f ≤ thiG (BT m T) T f ∧ thiG (BT m T) T f ≤ T := by
    unfold thiG
    split
    · exact ⟨Nat.le_trans hg.1 hg2.1, hg2.2⟩
    · exact hg
  have hG2 := nxF_le (m := m) hG.2
  unfold thiP
  split
  · split
    · exact Nat.le_trans hG.1 hG2.1
    · exact hG.1
  · exact Nat.le_refl _
theorem frm_le {m : Mem} {T f : Nat} (hf : f ≤ T) (n : Nat) (k : Int32) (r : Nat → Int32) : f ≤ (frmP (BT m T) T n k f r).2.1 ∧ (frmP (BT m T) T n k f r).2.1 ≤ T := by
  have hg := nxF_le (m := m) hf
  have hg2 := nxF_le (m := m) hg.2
  unfold frmP
  split
  · exact ⟨Nat.le_refl _, hf⟩
  · split
    · unfold andP
      have h1 := han_ge (m := m) hg2.2 n (comR r n k (lexV (BT m T) T (nxF (BT m T) T f)))
      have h2 := han_le (m := m) hg2.2 n (comR r n k (lexV (BT m T) T (nxF (BT m T) T f)))
      split
      · exact ⟨Nat.le_trans (Nat.le_trans hg.1 hg2.1) (Nat.le_trans h1 (thi_ge h2 _ _)), thi_le h2 _ _⟩
      · exact ⟨Nat.le_trans (Nat.le_trans hg.1 hg2.1) h1, h2⟩
    · exact hg
theorem wth_le {m : Mem} {T f : Nat} (hf : f ≤ T) (a : Nat) (r : Nat → Int32) : f ≤ (wthP (BT m T) T a f r).2.1 ∧ (wthP (BT m T) T a f r).2.1 ≤ T := by
  have hg := nxF_le (m := m) hf
  have hg2 := nxF_le (m := m) hg.2
  unfold wthP
  split
  · exact ⟨Nat.le_trans hg.1 hg2.1, hg2.2⟩
  · exact hg
theorem itm_le {m : Mem} {T f : Nat} (hf : f ≤ T) (n : Nat) (r : Nat → Int32) : f ≤ (itmP (BT m T) T n f r).2.1 ∧ (itmP (BT m T) T n f r).2.1 ≤ T := by
  unfold itmP
  split
  · exact frm_le hf _ _ _
  · split
    · exact wth_le hf _ _
    · split
      · exact wth_le hf _ _
      · split
        · exact wth_le hf _ _
        · exact ⟨Nat.le_refl _, hf⟩
def NR (r : Nat → Int32) : Prop := ∃ n, n ≤ 8 ∧ r 0 = nI n
theorem frm_NR {B : Nat → Int32} {T n f : Nat} {k : Int32} {r : Nat → Int32} (h8 : n ≤ 8) (h : r 0 = nI n) : NR (frmP B T n k f r).2.2 := by
  unfold frmP
  split
  · exact ⟨n, h8, h⟩
  · split
    · unfold andP
      split
      · exact ⟨n + 1, by omega, by rw [thi_0, han_0, comR_0]⟩
      · exact ⟨n + 1, by omega, by rw [han_0, comR_0]⟩
    · exact ⟨n, h8, h⟩
theorem wth_0 (B : Nat → Int32) (T a f : Nat) (r : Nat → Int32) : (wthP B T a f r).2.2 0 = r 0 := by
  unfold wthP
  split
  · simp only [upd]
    rw [if_neg (by omega)]
  · rfl
theorem itm_NR {B : Nat → Int32} {T n f : Nat} {r : Nat → Int32} (h8 : n ≤ 8) (h : r 0 = nI n) : NR (itmP B T n f r).2.2 := by
  unfold itmP
  split
  · exact frm_NR h8 h
  · split
    · exact ⟨n, h8, by rw [wth_0]; exact h⟩
    · split
      · exact ⟨n, h8, by rw [wth_0]; exact h⟩
      · split
        · exact ⟨n, h8, by rw [wth_0]; exact h⟩
        · exact ⟨n, h8, h⟩
def itmQ (B : Nat → Int32) (T f : Nat) (r : Nat → Int32) : RT := itmP B T (r 0).toNatClampNeg f r
theorem itmQ_eq (B : Nat → Int32) (T f : Nat) {r : Nat → Int32} {n : Nat} (h8 : n ≤ 8) (h : r 0 = nI n) : itmQ B T f r = itmP B T n f r := by
  unfold itmQ
  rw [h, nI_clamp (by omega)]
def txtP (B : Nat → Int32) (T : Nat) : Nat → Nat → RT → Nat × RT
  | 0, it, q => (it, q)
  | k + 1, it, q => if q.1 = true ∧ lexK (B q.2.1) = 3 then txtP B T k (it + 1) (itmQ B T (nxF B T q.2.1) q.2.2) else (it, q)
theorem nxF_gt {m : Mem} {T f : Nat} (hf : f ≤ T) (h : lexK (BT m T f) = 3) : f < nxF (BT m T) T f := by
  have e : lexE (BT m T) T f = f + 1 := by
    unfold lexE
    rw [h, if_neg (by decide), if_neg (by decide), if_neg (by decide)]
  have h1 := lexE_le (m := m) hf
  have h2 := lexF_le (BT m T) h1.2
  unfold nxF
  omega
def txG (B : Nat → Int32) (R : Nat × RT) : Bool := R.2.1 && decide (lexK (B R.2.2.1) = 0)
def txX (B : Nat → Int32) (R : Nat × RT) : Int32 := if txG B R then nI R.1 else -1 - nI R.2.2.1
def TXM (mem : Mem) (s : Nat → Int32) (B : Nat → Int32) (R : Nat × RT) (x : Int32) (m' : Mem) : Prop := x = txX B R ∧ (∀ j, j < 56 → m' 51 j = if txG B R then R.2.2.2 j else s j) ∧ m' 50 7 = 0 ∧ (∀ j, j ≠ 7 → j < 15 → m' 50 j = mem 50 j) ∧ ∀ a, a ≠ 50 → a ≠ 51 → a ≠ 53 → m' a = mem a
theorem ps_50 (m : Mem) (T f : Nat) (r : Nat → Int32) (w : Int32) {j : Nat} (h : j < 15) : psM m T f r w 50 j = m 50 j := by
  unfold psM
  rw [up2_same]
  simp only [upd]
  rw [if_neg (by omega)]
  unfold tkM
  rw [upR_same, upR_ne _ _ (by decide)]
  simp only [upd]
  rw [if_neg (by omega), if_neg (by omega), if_neg (by omega), if_neg (by omega)]
theorem tx_no {m : Mem} {T : Nat} {R : Nat × RT} {s : Nat → Int32} (hs : ∀ j, j < 56 → m 53 j = s j) (hg : txG (BT m T) R = false) : TXM m s (BT m T) R (-1 - rowC (up2 (psM m T R.2.2.1 R.2.2.2 (nI R.2.2.1)) 50 7 0) 53 51 50 19) (rowC (up2 (psM m T R.2.2.1 R.2.2.2 (nI R.2.2.1)) 50 7 0) 53 51) := by
  have e50 : rowC (up2 (psM m T R.2.2.1 R.2.2.2 (nI R.2.2.1)) 50 7 0) 53 51 50 = upd (psM m T R.2.2.1 R.2.2.2 (nI R.2.2.1) 50) 7 0 := by
    unfold rowC
    rw [upR_ne _ _ (by decide), up2_same]
  refine ⟨?_, fun j hj => ?_, ?_, fun j h1 h2 => ?_, fun a h1 h2 h3 => ?_⟩
  · rw [e50, txX, hg]
    simp only [upd]
    rw [if_neg (by decide), ps_19]
    rfl
  · rw [hg]
    unfold rowC
    rw [upR_same, if_pos hj, up2_ne _ _ _ (by decide), ps_o _ _ _ _ _ (by decide) (by decide)]
    exact hs j hj
  · rw [e50]
    simp [upd]
  · rw [e50]
    simp only [upd]
    rw [if_neg h1, ps_50 _ _ _ _ _ h2]
  · unfold rowC
    rw [upR_ne _ _ h2, up2_ne _ _ _ h1, ps_o _ _ _ _ _ h1 h2]
theorem tx_yes {m : Mem} {T : Nat} {R : Nat × RT} {s : Nat → Int32} (w : Int32) (hg : txG (BT m T) R = true) : TXM m s (BT m T) R (nI R.1) (up2 (psM m T R.2.2.1 R.2.2.2 w) 50 7 0) := by
  refine ⟨?_, fun j hj => ?_, ?_, fun j h1 h2 => ?_, fun a h1 h2 h3 => ?_⟩
  · rw [txX, hg]; rfl
  · rw [hg, up2_ne _ _ _ (by decide), ps_51]; rfl
  · rw [up2_same]; simp [upd]
  · rw [up2_same]
    simp only [upd]
    rw [if_neg h1, ps_50 _ _ _ _ _ h2]
  · rw [up2_ne _ _ _ h1, ps_o _ _ _ _ _ h1 h2]
theorem psT_f {m : Mem} {T : Nat} {q : RT} {w : Int32} (h : q.1 = false) : psT m T q w = psM m T q.2.1 q.2.2 (nI q.2.1) := by unfold psT; rw [if_neg (by rw [h]; decide)]
theorem tx_0 (m : Mem) (T : Nat) : lexM (up2 m 50 17 0) T 0 = psM m T (lexF (BT m T) T 0) (m 51) (m 50 19) := by
  have eB : BT (up2 m 50 17 0) T = BT m T := by
    funext j
    unfold BT
    rw [up2_ne _ _ _ (by decide)]
  unfold lexM psM
  rw [eB]
  unfold tkM
  funext a
  by_cases h : a = 50
  · subst h
    rw [upR_same, up2_same, up2_same, upR_same, upR_ne _ _ (by decide)]
    funext j
    simp only [upd]
    repeat' split
    all_goals first | rfl | omega | (rename_i h9; rw [h9])
  · rw [upR_ne _ _ h, up2_ne _ _ _ h, up2_ne _ _ _ h, upR_ne _ _ h]
    by_cases h2 : a = 51
    · subst h2
      rw [upR_same]
    · rw [upR_ne _ _ h2]
set_option maxHeartbeats 4000000 in
theorem c6_itemHere {m : Mem} {T f : Nat} (hT : m 50 7 = nI T) (hT2 : T ≤ 120) (hf : f ≤ T) (r : Nat → Int32) (w : Int32) {n : Nat} (hn8 : n ≤ 8) (hr : r 0 = nI n) : CnE mX6_itemHere [.ref 50] (psM m T f r w) (some (.int (bB (itmP (BT m T) T n f r).1))) (psT m T (itmP (BT m T) T n f r) w) := by
  refine Cn.of (ls := [some (.ref 50), none]) (by decide) rfl (Nat.le_of_ble_eq_true rfl) ?_
  refine w_aload_n (i := 0) (n' := 1) dX6_itemHere_0 rfl rfl rfl ?_
  refine v_E (ci := 6) (n' := 4) dX6_itemHere_1 rfl lRX6_275 okX6_kindHere voX6_kindHere ⟨⟨Nat.le_of_ble_eq_true rfl, Nat.le_of_ble_eq_true rfl⟩, Nat.le_of_ble_eq_true rfl, Nat.le_of_ble_eq_true rfl⟩ (c6_kindP hT hT2 hf r w) rfl rfl (Nat.le_of_ble_eq_true rfl) rfl (Nat.le_of_ble_eq_true rfl) rfl ?_
  refine w_istore_n (i := 1) (n' := 5) (ls' := [_, _]) dX6_itemHere_4 rfl rfl (Nat.le_of_ble_eq_true rfl) rfl rfl ?_
  refine w_iload_n (i := 1) (n' := 6) dX6_itemHere_5 rfl rfl rfl ?_
  refine w_if_lt (n' := 9) (tgt := 15) dX6_itemHere_6 rfl rfl (fun h6 => ?_) (fun h6 => ?_)
  · have hk : ¬ 0 ≤ kdI (wP (BT m T) T f) := Int32.not_le.mpr h6
    refine w_aload_n (i := 0) (n' := 16) dX6_itemHere_15 rfl rfl rfl ?_
    refine w_iconst (v := 3) (n' := 17) dX6_itemHere_16 rfl rfl ?_
    refine v_E (ci := 6) (n' := 20) dX6_itemHere_17 rfl lRX6_241 okX6_isWord voX6_isWord ⟨⟨Nat.le_of_ble_eq_true rfl, Nat.le_of_ble_eq_true rfl⟩, Nat.le_of_ble_eq_true rfl, Nat.le_of_ble_eq_true rfl⟩ (c6_isWord _ _) rfl rfl (Nat.le_of_ble_eq_true rfl) rfl (Nat.le_of_ble_eq_true rfl) rfl ?_
    refine w_if_eq (n' := 23) (tgt := 43) dX6_itemHere_20 rfl rfl (fun h20 => ?_) (fun h20 => ?_)
    · have e3 : wP (BT m T) T f wWet = false := by
        have q : wI (psM m T f r w) (BT (psM m T f r w) T) f wWet = false := bB_0.mp (by rw [wWet, w3_eq, if_pos h20])
        rw [ps_w] at q
        exact q
      refine w_aload_n (i := 0) (n' := 44) dX6_itemHere_43 rfl rfl rfl ?_
      refine w_bipush (v := 109) (n' := 46) dX6_itemHere_44 rfl (by decide) ?_
      refine w_bipush (v := 105) (n' := 48) dX6_itemHere_46 rfl (by decide) ?_
      refine w_bipush (v := 99) (n' := 50) dX6_itemHere_48 rfl (by decide) ?_
      refine w_bipush (v := 101) (n' := 52) dX6_itemHere_50 rfl (by decide) ?_
      refine v_E (ci := 6) (n' := 55) dX6_itemHere_52 rfl lRX6_252 okX6_isFour voX6_isFour ⟨⟨Nat.le_of_ble_eq_true rfl, Nat.le_of_ble_eq_true rfl⟩, Nat.le_of_ble_eq_true rfl, Nat.le_of_ble_eq_true rfl⟩ (c6_fourP hT hT2 hf r w 109 105 99 101) rfl rfl (Nat.le_of_ble_eq_true rfl) rfl (Nat.le_of_ble_eq_true rfl) rfl ?_
      refine w_if_eq (n' := 58) (tgt := 64) dX6_itemHere_55 rfl rfl (fun h55 => ?_) (fun h55 => ?_)
      · have e4 : wP (BT m T) T f wMice = false := bB_0.mp h55
        refine w_aload_n (i := 0) (n' := 65) dX6_itemHere_64 rfl rfl rfl ?_
        refine w_bipush (v := 114) (n' := 67) dX6_itemHere_65 rfl (by decide) ?_
        refine w_bipush (v := 97) (n' := 69) dX6_itemHere_67 rfl (by decide) ?_
        refine w_bipush (v := 105) (n' := 71) dX6_itemHere_69 rfl (by decide) ?_
        refine w_bipush (v := 110) (n' := 73) dX6_itemHere_71 rfl (by decide) ?_
        refine v_E (ci := 6) (n' := 76) dX6_itemHere_73 rfl lRX6_252 okX6_isFour voX6_isFour ⟨⟨Nat.le_of_ble_eq_true rfl, Nat.le_of_ble_eq_true rfl⟩, Nat.le_of_ble_eq_true rfl, Nat.le_of_ble_eq_true rfl⟩ (c6_fourP hT hT2 hf r w 114 97 105 110) rfl rfl (Nat.le_of_ble_eq_true rfl) rfl (Nat.le_of_ble_eq_true rfl) rfl ?_
        refine w_if_eq (n' := 79) (tgt := 87) dX6_itemHere_76 rfl rfl (fun h76 => ?_) (fun h76 => ?_)
        · have e5 : wP (BT m T) T f wRain = false := bB_0.mp h76
          refine w_aload_n (i := 0) (n' := 88) dX6_itemHere_87 rfl rfl rfl ?_
          refine v_E (ci := 6) (n' := 91) dX6_itemHere_88 rfl lRX6_248 okX6_fails voX6_fails ⟨⟨Nat.le_of_ble_eq_true rfl, Nat.le_of_ble_eq_true rfl⟩, Nat.le_of_ble_eq_true rfl, Nat.le_of_ble_eq_true rfl⟩ (c6_fails _) rfl rfl (Nat.le_of_ble_eq_true rfl) rfl (Nat.le_of_ble_eq_true rfl) rfl ?_
          rw [ps_16, ps_fail]
          exact w_zret dX6_itemHere_91 rfl rfl ⟨by rw [itmP, if_neg hk, if_neg (by rw [e3]; decide), if_neg (by rw [e4]; decide), if_neg (by rw [e5]; decide)]; rfl, by rw [itmP, if_neg hk, if_neg (by rw [e3]; decide), if_neg (by rw [e4]; decide), if_neg (by rw [e5]; decide)]; rfl⟩
        · have e5 : wP (BT m T) T f wRain = true := bB_n.mp h76
          refine w_aload_n (i := 0) (n' := 80) dX6_itemHere_79 rfl rfl rfl ?_
          refine w_iconst (v := 2) (n' := 81) dX6_itemHere_80 rfl rfl ?_
          refine v_E (ci := 6) (n' := 84) dX6_itemHere_81 rfl lRX6_281 okX6_weatherHere voX6_weatherHere ⟨⟨Nat.le_of_ble_eq_true rfl, Nat.le_of_ble_eq_true rfl⟩, Nat.le_of_ble_eq_true rfl, Nat.le_of_ble_eq_true rfl⟩ (c6_weatherHere hT hT2 hf r w (a := 2) (by decide) _ rfl) rfl rfl (Nat.le_of_ble_eq_true rfl) rfl (Nat.le_of_ble_eq_true rfl) rfl ?_
          refine w_goto (tgt := 91) dX6_itemHere_84 rfl ?_
          exact w_zret dX6_itemHere_91 rfl (z_nar (bB_01 _)) ⟨by rw [itmP, if_neg hk, if_neg (by rw [e3]; decide), if_neg (by rw [e4]; decide), if_pos e5], by rw [itmP, if_neg hk, if_neg (by rw [e3]; decide), if_neg (by rw [e4]; decide), if_pos e5]⟩
      · have e4 : wP (BT m T) T f wMice = true := bB_n.mp h55
        refine w_aload_n (i := 0) (n' := 59) dX6_itemHere_58 rfl rfl rfl ?_
        refine w_iconst (v := 1) (n' := 60) dX6_itemHere_59 rfl rfl ?_
        refine v_E (ci := 6) (n' := 63) dX6_itemHere_60 rfl lRX6_281 okX6_weatherHere voX6_weatherHere ⟨⟨Nat.le_of_ble_eq_true rfl, Nat.le_of_ble_eq_true rfl⟩, Nat.le_of_ble_eq_true rfl, Nat.le_of_ble_eq_true rfl⟩ (c6_weatherHere hT hT2 hf r w (a := 1) (by decide) _ rfl) rfl rfl (Nat.le_of_ble_eq_true rfl) rfl (Nat.le_of_ble_eq_true rfl) rfl ?_
        exact w_zret dX6_itemHere_63 rfl (z_nar (bB_01 _)) ⟨by rw [itmP, if_neg hk, if_neg (by rw [e3]; decide), if_pos e4], by rw [itmP, if_neg hk, if_neg (by rw [e3]; decide), if_pos e4]⟩
    · refine w_aload_n (i := 0) (n' := 24) dX6_itemHere_23 rfl rfl rfl ?_
      refine w_iconst (v := 0) (n' := 25) dX6_itemHere_24 rfl rfl ?_
      refine w_bipush (v := 119) (n' := 27) dX6_itemHere_25 rfl (by decide) ?_
      refine w_bipush (v := 101) (n' := 29) dX6_itemHere_27 rfl (by decide) ?_
      refine w_bipush (v := 116) (n' := 31) dX6_itemHere_29 rfl (by decide) ?_
      refine v_E (ci := 6) (n' := 34) dX6_itemHere_31 rfl lRX6_244 okX6_has3 voX6_has3 ⟨⟨Nat.le_of_ble_eq_true rfl, Nat.le_of_ble_eq_true rfl⟩, Nat.le_of_ble_eq_true rfl, Nat.le_of_ble_eq_true rfl⟩ (c6_has3 (T := T) (f := f) (d := 0) (by rw [ps_7]; exact hT) hT2 (ps_16 _ _ _ _ _) (by omega) (by decide) _ _ _ _ rfl) rfl rfl (Nat.le_of_ble_eq_true rfl) rfl (Nat.le_of_ble_eq_true rfl) rfl ?_
      refine w_if_eq (n' := 37) (tgt := 43) dX6_itemHere_34 rfl rfl (fun h34 => ?_) (fun h34 => ?_)
      · have e3 : wP (BT m T) T f wWet = false := by
          have q : wI (psM m T f r w) (BT (psM m T f r w) T) f wWet = false := bB_0.mp (by rw [wWet, w3_eq, if_neg h20, if_pos h34])
          rw [ps_w] at q
          exact q
        refine w_aload_n (i := 0) (n' := 44) dX6_itemHere_43 rfl rfl rfl ?_
        refine w_bipush (v := 109) (n' := 46) dX6_itemHere_44 rfl (by decide) ?_
        refine w_bipush (v := 105) (n' := 48) dX6_itemHere_46 rfl (by decide) ?_
        refine w_bipush (v := 99) (n' := 50) dX6_itemHere_48 rfl (by decide) ?_
        refine w_bipush (v := 101) (n' := 52) dX6_itemHere_50 rfl (by decide) ?_
        refine v_E (ci := 6) (n' := 55) dX6_itemHere_52 rfl lRX6_252 okX6_isFour voX6_isFour ⟨⟨Nat.le_of_ble_eq_true rfl, Nat.le_of_ble_eq_true rfl⟩, Nat.le_of_ble_eq_true rfl, Nat.le_of_ble_eq_true rfl⟩ (c6_fourP hT hT2 hf r w 109 105 99 101) rfl rfl (Nat.le_of_ble_eq_true rfl) rfl (Nat.le_of_ble_eq_true rfl) rfl ?_
        refine w_if_eq (n' := 58) (tgt := 64) dX6_itemHere_55 rfl rfl (fun h55 => ?_) (fun h55 => ?_)
        · have e4 : wP (BT m T) T f wMice = false := bB_0.mp h55
          refine w_aload_n (i := 0) (n' := 65) dX6_itemHere_64 rfl rfl rfl ?_
          refine w_bipush (v := 114) (n' := 67) dX6_itemHere_65 rfl (by decide) ?_
          refine w_bipush (v := 97) (n' := 69) dX6_itemHere_67 rfl (by decide) ?_
          refine w_bipush (v := 105) (n' := 71) dX6_itemHere_69 rfl (by decide) ?_
          refine w_bipush (v := 110) (n' := 73) dX6_itemHere_71 rfl (by decide) ?_
          refine v_E (ci := 6) (n' := 76) dX6_itemHere_73 rfl lRX6_252 okX6_isFour voX6_isFour ⟨⟨Nat.le_of_ble_eq_true rfl, Nat.le_of_ble_eq_true rfl⟩, Nat.le_of_ble_eq_true rfl, Nat.le_of_ble_eq_true rfl⟩ (c6_fourP hT hT2 hf r w 114 97 105 110) rfl rfl (Nat.le_of_ble_eq_true rfl) rfl (Nat.le_of_ble_eq_true rfl) rfl ?_
          refine w_if_eq (n' := 79) (tgt := 87) dX6_itemHere_76 rfl rfl (fun h76 => ?_) (fun h76 => ?_)
          · have e5 : wP (BT m T) T f wRain = false := bB_0.mp h76
            refine w_aload_n (i := 0) (n' := 88) dX6_itemHere_87 rfl rfl rfl ?_
            refine v_E (ci := 6) (n' := 91) dX6_itemHere_88 rfl lRX6_248 okX6_fails voX6_fails ⟨⟨Nat.le_of_ble_eq_true rfl, Nat.le_of_ble_eq_true rfl⟩, Nat.le_of_ble_eq_true rfl, Nat.le_of_ble_eq_true rfl⟩ (c6_fails _) rfl rfl (Nat.le_of_ble_eq_true rfl) rfl (Nat.le_of_ble_eq_true rfl) rfl ?_
            rw [ps_16, ps_fail]
            exact w_zret dX6_itemHere_91 rfl rfl ⟨by rw [itmP, if_neg hk, if_neg (by rw [e3]; decide), if_neg (by rw [e4]; decide), if_neg (by rw [e5]; decide)]; rfl, by rw [itmP, if_neg hk, if_neg (by rw [e3]; decide), if_neg (by rw [e4]; decide), if_neg (by rw [e5]; decide)]; rfl⟩
          · have e5 : wP (BT m T) T f wRain = true := bB_n.mp h76
            refine w_aload_n (i := 0) (n' := 80) dX6_itemHere_79 rfl rfl rfl ?_
            refine w_iconst (v := 2) (n' := 81) dX6_itemHere_80 rfl rfl ?_
            refine v_E (ci := 6) (n' := 84) dX6_itemHere_81 rfl lRX6_281 okX6_weatherHere voX6_weatherHere ⟨⟨Nat.le_of_ble_eq_true rfl, Nat.le_of_ble_eq_true rfl⟩, Nat.le_of_ble_eq_true rfl, Nat.le_of_ble_eq_true rfl⟩ (c6_weatherHere hT hT2 hf r w (a := 2) (by decide) _ rfl) rfl rfl (Nat.le_of_ble_eq_true rfl) rfl (Nat.le_of_ble_eq_true rfl) rfl ?_
            refine w_goto (tgt := 91) dX6_itemHere_84 rfl ?_
            exact w_zret dX6_itemHere_91 rfl (z_nar (bB_01 _)) ⟨by rw [itmP, if_neg hk, if_neg (by rw [e3]; decide), if_neg (by rw [e4]; decide), if_pos e5], by rw [itmP, if_neg hk, if_neg (by rw [e3]; decide), if_neg (by rw [e4]; decide), if_pos e5]⟩
        · have e4 : wP (BT m T) T f wMice = true := bB_n.mp h55
          refine w_aload_n (i := 0) (n' := 59) dX6_itemHere_58 rfl rfl rfl ?_
          refine w_iconst (v := 1) (n' := 60) dX6_itemHere_59 rfl rfl ?_
          refine v_E (ci := 6) (n' := 63) dX6_itemHere_60 rfl lRX6_281 okX6_weatherHere voX6_weatherHere ⟨⟨Nat.le_of_ble_eq_true rfl, Nat.le_of_ble_eq_true rfl⟩, Nat.le_of_ble_eq_true rfl, Nat.le_of_ble_eq_true rfl⟩ (c6_weatherHere hT hT2 hf r w (a := 1) (by decide) _ rfl) rfl rfl (Nat.le_of_ble_eq_true rfl) rfl (Nat.le_of_ble_eq_true rfl) rfl ?_
          exact w_zret dX6_itemHere_63 rfl (z_nar (bB_01 _)) ⟨by rw [itmP, if_neg hk, if_neg (by rw [e3]; decide), if_pos e4], by rw [itmP, if_neg hk, if_neg (by rw [e3]; decide), if_pos e4]⟩
      · have e3 : wP (BT m T) T f wWet = true := by
          have q : wI (psM m T f r w) (BT (psM m T f r w) T) f wWet = true := bB_n.mp (by rw [wWet, w3_eq, if_neg h20, if_neg h34]; decide)
          rw [ps_w] at q
          exact q
        refine w_aload_n (i := 0) (n' := 38) dX6_itemHere_37 rfl rfl rfl ?_
        refine w_iconst (v := 0) (n' := 39) dX6_itemHere_38 rfl rfl ?_
        refine v_E (ci := 6) (n' := 42) dX6_itemHere_39 rfl lRX6_281 okX6_weatherHere voX6_weatherHere ⟨⟨Nat.le_of_ble_eq_true rfl, Nat.le_of_ble_eq_true rfl⟩, Nat.le_of_ble_eq_true rfl, Nat.le_of_ble_eq_true rfl⟩ (c6_weatherHere hT hT2 hf r w (a := 0) (by decide) _ rfl) rfl rfl (Nat.le_of_ble_eq_true rfl) rfl (Nat.le_of_ble_eq_true rfl) rfl ?_
        exact w_zret dX6_itemHere_42 rfl (z_nar (bB_01 _)) ⟨by rw [itmP, if_neg hk, if_pos e3], by rw [itmP, if_neg hk, if_pos e3]⟩
  · have hk : 0 ≤ kdI (wP (BT m T) T f) := Int32.not_lt.mp h6
    refine w_aload_n (i := 0) (n' := 10) dX6_itemHere_9 rfl rfl rfl ?_
    refine w_iload_n (i := 1) (n' := 11) dX6_itemHere_10 rfl rfl rfl ?_
    refine v_E (ci := 6) (n' := 14) dX6_itemHere_11 rfl lRX6_278 okX6_farmHere voX6_farmHere ⟨⟨Nat.le_of_ble_eq_true rfl, Nat.le_of_ble_eq_true rfl⟩, Nat.le_of_ble_eq_true rfl, Nat.le_of_ble_eq_true rfl⟩ (c6_farmHere hT hT2 hf r w hn8 hr _) rfl rfl (Nat.le_of_ble_eq_true rfl) rfl (Nat.le_of_ble_eq_true rfl) rfl ?_
    exact w_zret dX6_itemHere_14 rfl (z_nar (bB_01 _)) ⟨by rw [itmP, if_pos hk], by rw [itmP, if_pos hk]⟩
set_option maxHeartbeats 4000000 in
theorem tx_27 {m : Mem} {T : Nat} (hT : m 50 7 = nI T) (hT2 : T ≤ 120) {s : Nat → Int32} (hs : ∀ j, j < 56 → m 53 j = s j) (R : Nat × RT) (w : Int32) (Post : Option Value → Mem → Prop) (hP : ∀ x m', TXM m s (BT m T) R x m' → Post (some (.int x)) m') : ∀ (k it : Nat) (q : RT), T < q.2.1 + k → q.2.1 ≤ T → NR q.2.2 → txtP (BT m T) T k it q = R → Wm mX6_text (zM mX6_text Post) 27 [some (.ref 50), some (.int (nI it)), some (.int (bB q.1))] [] (psT m T q w) := by
  intro k
  induction k with
  | zero => intro it q h1 h2; omega
  | succ k ih =>
    intro it q hk hf hN hx
    obtain ⟨n, hn8, hn⟩ := hN
    refine w_iload_n (i := 2) (n' := 28) dX6_text_27 rfl rfl rfl ?_
    refine w_if_eq (n' := 31) (tgt := 54) dX6_text_28 rfl rfl (fun h28 => ?_) (fun h28 => ?_)
    · have hq := bB_0.mp h28
      have hR : R = (it, q) := by rw [← hx, txtP, if_neg (fun c => by rw [hq] at c; exact absurd c.1 (by decide))]
      rw [psT_f hq]
      have hG : txG (BT m T) R = false := by rw [hR, txG, hq]; rfl
      refine w_iload_n (i := 2) (n' := 55) dX6_text_54 rfl rfl rfl ?_
      refine w_if_eq (n' := 58) (tgt := 76) dX6_text_55 rfl rfl (fun h55 => ?_) (fun h55 => absurd h28 h55)
      refine w_iconst (v := 0) (n' := 77) dX6_text_76 rfl rfl ?_
      refine w_istore_n (i := 2) (n' := 78) (ls' := [_, _, _]) dX6_text_77 rfl rfl (Nat.le_of_ble_eq_true rfl) rfl rfl ?_
      refine w_aload_n (i := 0) (n' := 79) dX6_text_78 rfl rfl rfl ?_
      refine w_iconst (v := 0) (n' := 80) dX6_text_79 rfl rfl ?_
      refine w_put (ci := 6) (j := 7) (n' := 83) dX6_text_80 rfl fRX6_214 (Nat.le_of_ble_eq_true rfl) (Nat.le_of_ble_eq_true rfl) rfl rfl rfl rfl ?_
      refine w_iload_n (i := 2) (n' := 84) dX6_text_83 rfl rfl rfl ?_
      refine w_if_ne (n' := 87) (tgt := 98) dX6_text_84 rfl rfl (fun h84 => absurd rfl h84) (fun h84 => ?_)
      refine w_aload_n (i := 0) (n' := 88) dX6_text_87 rfl rfl rfl ?_
      refine w_get (ci := 6) (j := 2) (n' := 91) dX6_text_88 rfl fRX6_16 (Nat.le_of_ble_eq_true rfl) (Nat.le_of_ble_eq_true rfl) rfl rfl ?_
      refine w_aload_n (i := 0) (n' := 92) dX6_text_91 rfl rfl rfl ?_
      refine w_get (ci := 6) (j := 0) (n' := 95) dX6_text_92 rfl fRX6_7 (Nat.le_of_ble_eq_true rfl) (Nat.le_of_ble_eq_true rfl) rfl rfl ?_
      refine s_E (n' := 98) dX6_text_95 rfl lRX6_162 okX6_copyRow stX6_copyRow ⟨⟨Nat.le_of_ble_eq_true rfl, Nat.le_of_ble_eq_true rfl⟩, Nat.le_of_ble_eq_true rfl, Nat.le_of_ble_eq_true rfl⟩ (c6_copyRow (a := 53) (b := 51) rfl rfl rfl rfl (by decide) _) rfl rfl (Nat.le_of_ble_eq_true rfl) ?_
      refine w_iload_n (i := 2) (n' := 99) dX6_text_98 rfl rfl rfl ?_
      refine w_if_eq (n' := 102) (tgt := 106) dX6_text_99 rfl rfl (fun h99 => ?_) (fun h99 => absurd rfl h99)
      refine w_iconst (v := -1) (n' := 107) dX6_text_106 rfl rfl ?_
      refine w_aload_n (i := 0) (n' := 108) dX6_text_107 rfl rfl rfl ?_
      refine w_get (ci := 6) (j := 19) (n' := 111) dX6_text_108 rfl fRX6_238 (Nat.le_of_ble_eq_true rfl) (Nat.le_of_ble_eq_true rfl) rfl rfl ?_
      refine w_isub (n' := 112) dX6_text_111 rfl ?_
      exact w_iret dX6_text_112 rfl (hP _ _ (by rw [hR] at hG ⊢; exact tx_no (R := (it, q)) hs hG))
    · have hq := bB_n.mp h28
      rw [psT_t hq]
      refine w_aload_n (i := 0) (n' := 32) dX6_text_31 rfl rfl rfl ?_
      refine w_get (ci := 6) (j := 15) (n' := 35) dX6_text_32 rfl fRX6_232 (Nat.le_of_ble_eq_true rfl) (Nat.le_of_ble_eq_true rfl) rfl rfl ?_
      rw [ps_15]
      refine w_iconst (v := 3) (n' := 36) dX6_text_35 rfl rfl ?_
      refine w_icmp_ne (n' := 39) (tgt := 54) dX6_text_36 rfl rfl (fun h36 => ?_) (fun h36 => ?_)
      · have hR : R = (it, q) := by rw [← hx, txtP, if_neg (fun c => h36 c.2)]
        refine w_iload_n (i := 2) (n' := 55) dX6_text_54 rfl rfl rfl ?_
        refine w_if_eq (n' := 58) (tgt := 76) dX6_text_55 rfl rfl (fun h55 => absurd h55 h28) (fun h55 => ?_)
        refine w_aload_n (i := 0) (n' := 59) dX6_text_58 rfl rfl rfl ?_
        refine w_get (ci := 6) (j := 15) (n' := 62) dX6_text_59 rfl fRX6_232 (Nat.le_of_ble_eq_true rfl) (Nat.le_of_ble_eq_true rfl) rfl rfl ?_
        rw [ps_15]
        refine w_if_eq (n' := 65) (tgt := 72) dX6_text_62 rfl rfl (fun h62 => ?_) (fun h62 => ?_)
        · have hG : txG (BT m T) R = true := by rw [hR, txG, hq, decide_eq_true h62]; rfl
          refine w_iconst (v := 1) (n' := 73) dX6_text_72 rfl rfl ?_
          refine w_goto (tgt := 77) dX6_text_73 rfl ?_
          refine w_istore_n (i := 2) (n' := 78) (ls' := [_, _, _]) dX6_text_77 rfl rfl (Nat.le_of_ble_eq_true rfl) rfl rfl ?_
          refine w_aload_n (i := 0) (n' := 79) dX6_text_78 rfl rfl rfl ?_
          refine w_iconst (v := 0) (n' := 80) dX6_text_79 rfl rfl ?_
          refine w_put (ci := 6) (j := 7) (n' := 83) dX6_text_80 rfl fRX6_214 (Nat.le_of_ble_eq_true rfl) (Nat.le_of_ble_eq_true rfl) rfl rfl rfl rfl ?_
          refine w_iload_n (i := 2) (n' := 84) dX6_text_83 rfl rfl rfl ?_
          refine w_if_ne (n' := 87) (tgt := 98) dX6_text_84 rfl rfl (fun h84 => ?_) (fun h84 => absurd h84 (by decide))
          refine w_iload_n (i := 2) (n' := 99) dX6_text_98 rfl rfl rfl ?_
          refine w_if_eq (n' := 102) (tgt := 106) dX6_text_99 rfl rfl (fun h99 => absurd h99 (by decide)) (fun h99 => ?_)
          refine w_iload_n (i := 1) (n' := 103) dX6_text_102 rfl rfl rfl ?_
          refine w_goto (tgt := 112) dX6_text_103 rfl ?_
          exact w_iret dX6_text_112 rfl (hP _ _ (by rw [hR] at hG ⊢; exact tx_yes (R := (it, q)) w hG))
        · have hG : txG (BT m T) R = false := by rw [hR, txG, decide_eq_false h62, Bool.and_false]
          refine w_aload_n (i := 0) (n' := 66) dX6_text_65 rfl rfl rfl ?_
          refine v_E (ci := 6) (n' := 69) dX6_text_66 rfl lRX6_248 okX6_fails voX6_fails ⟨⟨Nat.le_of_ble_eq_true rfl, Nat.le_of_ble_eq_true rfl⟩, Nat.le_of_ble_eq_true rfl, Nat.le_of_ble_eq_true rfl⟩ (c6_fails _) rfl rfl (Nat.le_of_ble_eq_true rfl) rfl (Nat.le_of_ble_eq_true rfl) rfl ?_
          rw [ps_16, ps_fail]
          refine w_if_eq (n' := 72) (tgt := 76) dX6_text_69 rfl rfl (fun h69 => ?_) (fun h69 => absurd rfl h69)
          refine w_iconst (v := 0) (n' := 77) dX6_text_76 rfl rfl ?_
          refine w_istore_n (i := 2) (n' := 78) (ls' := [_, _, _]) dX6_text_77 rfl rfl (Nat.le_of_ble_eq_true rfl) rfl rfl ?_
          refine w_aload_n (i := 0) (n' := 79) dX6_text_78 rfl rfl rfl ?_
          refine w_iconst (v := 0) (n' := 80) dX6_text_79 rfl rfl ?_
          refine w_put (ci := 6) (j := 7) (n' := 83) dX6_text_80 rfl fRX6_214 (Nat.le_of_ble_eq_true rfl) (Nat.le_of_ble_eq_true rfl) rfl rfl rfl rfl ?_
          refine w_iload_n (i := 2) (n' := 84) dX6_text_83 rfl rfl rfl ?_
          refine w_if_ne (n' := 87) (tgt := 98) dX6_text_84 rfl rfl (fun h84 => absurd rfl h84) (fun h84 => ?_)
          refine w_aload_n (i := 0) (n' := 88) dX6_text_87 rfl rfl rfl ?_
          refine w_get (ci := 6) (j := 2) (n' := 91) dX6_text_88 rfl fRX6_16 (Nat.le_of_ble_eq_true rfl) (Nat.le_of_ble_eq_true rfl) rfl rfl ?_
          refine w_aload_n (i := 0) (n' := 92) dX6_text_91 rfl rfl rfl ?_
          refine w_get (ci := 6) (j := 0) (n' := 95) dX6_text_92 rfl fRX6_7 (Nat.le_of_ble_eq_true rfl) (Nat.le_of_ble_eq_true rfl) rfl rfl ?_
          refine s_E (n' := 98) dX6_text_95 rfl lRX6_162 okX6_copyRow stX6_copyRow ⟨⟨Nat.le_of_ble_eq_true rfl, Nat.le_of_ble_eq_true rfl⟩, Nat.le_of_ble_eq_true rfl, Nat.le_of_ble_eq_true rfl⟩ (c6_copyRow (a := 53) (b := 51) rfl rfl rfl rfl (by decide) _) rfl rfl (Nat.le_of_ble_eq_true rfl) ?_
          refine w_iload_n (i := 2) (n' := 99) dX6_text_98 rfl rfl rfl ?_
          refine w_if_eq (n' := 102) (tgt := 106) dX6_text_99 rfl rfl (fun h99 => ?_) (fun h99 => absurd rfl h99)
          refine w_iconst (v := -1) (n' := 107) dX6_text_106 rfl rfl ?_
          refine w_aload_n (i := 0) (n' := 108) dX6_text_107 rfl rfl rfl ?_
          refine w_get (ci := 6) (j := 19) (n' := 111) dX6_text_108 rfl fRX6_238 (Nat.le_of_ble_eq_true rfl) (Nat.le_of_ble_eq_true rfl) rfl rfl ?_
          refine w_isub (n' := 112) dX6_text_111 rfl ?_
          exact w_iret dX6_text_112 rfl (hP _ _ (by rw [hR] at hG ⊢; exact tx_no (R := (it, q)) hs hG))
      · have hg := nxF_le (m := m) hf
        have hgt := nxF_gt (m := m) hf h36
        refine w_aload_n (i := 0) (n' := 40) dX6_text_39 rfl rfl rfl ?_
        refine v_E (ci := 6) (n' := 43) dX6_text_40 rfl lRX6_259 okX6_nextToken voX6_nextToken ⟨⟨Nat.le_of_ble_eq_true rfl, Nat.le_of_ble_eq_true rfl⟩, Nat.le_of_ble_eq_true rfl, Nat.le_of_ble_eq_true rfl⟩ (c6_nextP hT hT2 hf _ _) rfl rfl (Nat.le_of_ble_eq_true rfl) rfl (Nat.le_of_ble_eq_true rfl) rfl ?_
        refine w_aload_n (i := 0) (n' := 44) dX6_text_43 rfl rfl rfl ?_
        refine v_E (ci := 6) (n' := 47) dX6_text_44 rfl lRX6_284 okX6_itemHere voX6_itemHere ⟨⟨Nat.le_of_ble_eq_true rfl, Nat.le_of_ble_eq_true rfl⟩, Nat.le_of_ble_eq_true rfl, Nat.le_of_ble_eq_true rfl⟩ (c6_itemHere hT hT2 hg.2 _ _ hn8 hn) rfl rfl (Nat.le_of_ble_eq_true rfl) rfl (Nat.le_of_ble_eq_true rfl) rfl ?_
        rw [← itmQ_eq _ _ _ hn8 hn]
        refine w_istore_n (i := 2) (n' := 48) (ls' := [_, _, _]) dX6_text_47 rfl rfl (Nat.le_of_ble_eq_true rfl) rfl rfl ?_
        refine w_iinc (n' := 51) (v := nI (it + 1)) (ls' := [_, _, _]) dX6_text_48 rfl rfl (nI_1 it) (Nat.le_of_ble_eq_true rfl) rfl rfl ?_
        refine w_goto (tgt := 27) dX6_text_51 rfl ?_
        exact ih (it + 1) _ (by rw [itmQ_eq _ _ _ hn8 hn]; have := (itm_le (m := m) hg.2 n q.2.2).1; omega) (by rw [itmQ_eq _ _ _ hn8 hn]; exact (itm_le (m := m) hg.2 n q.2.2).2) (by rw [itmQ_eq _ _ _ hn8 hn]; exact itm_NR hn8 hn) (by rw [← hx, txtP, if_pos ⟨hq, h36⟩])
set_option maxHeartbeats 4000000 in
theorem c6_text {T n : Nat} {mem : Mem} (hT : mem 50 7 = nI T) (hT2 : T ≤ 120) (h : mem 51 0 = nI n) (h8 : n ≤ 8) : CnI mX6_text [.ref 50] mem (fun x m' => TXM mem (mem 51) (BT mem T) (txtP (BT mem T) T (T + 1) 1 (itmQ (BT mem T) T (lexF (BT mem T) T 0) (mem 51))) x m') := by
  obtain ⟨m, hm⟩ : ∃ m, m = rowC mem 51 53 := ⟨_, rfl⟩
  have hTm : m 50 7 = nI T := by rw [hm, rowC, upR_ne _ _ (by decide)]; exact hT
  have h51 : m 51 = mem 51 := by rw [hm, rowC, upR_ne _ _ (by decide)]
  have hB : BT m T = BT mem T := by
    funext j
    unfold BT
    rw [hm, rowC, upR_ne _ _ (by decide)]
  have h53 : ∀ j, j < 56 → m 53 j = mem 51 j := fun j hj => by rw [hm, rowC, upR_same, if_pos hj]
  have hf := (lexF_le (BT m T) (Nat.zero_le T)).2
  have hr : m 51 0 = nI n := by rw [h51]; exact h
  refine Cn.of (ls := [some (.ref 50), none, none]) (by decide) rfl (Nat.le_of_ble_eq_true rfl) ?_
  refine w_aload_n (i := 0) (n' := 1) dX6_text_0 rfl rfl rfl ?_
  refine w_get (ci := 6) (j := 0) (n' := 4) dX6_text_1 rfl fRX6_7 (Nat.le_of_ble_eq_true rfl) (Nat.le_of_ble_eq_true rfl) rfl rfl ?_
  refine w_aload_n (i := 0) (n' := 5) dX6_text_4 rfl rfl rfl ?_
  refine w_get (ci := 6) (j := 2) (n' := 8) dX6_text_5 rfl fRX6_16 (Nat.le_of_ble_eq_true rfl) (Nat.le_of_ble_eq_true rfl) rfl rfl ?_
  refine s_E (n' := 11) dX6_text_8 rfl lRX6_162 okX6_copyRow stX6_copyRow ⟨⟨Nat.le_of_ble_eq_true rfl, Nat.le_of_ble_eq_true rfl⟩, Nat.le_of_ble_eq_true rfl, Nat.le_of_ble_eq_true rfl⟩ (c6_copyRow (a := 51) (b := 53) rfl rfl rfl rfl (by decide) _) rfl rfl (Nat.le_of_ble_eq_true rfl) ?_
  rw [← hm]
  refine w_aload_n (i := 0) (n' := 12) dX6_text_11 rfl rfl rfl ?_
  refine w_iconst (v := 0) (n' := 13) dX6_text_12 rfl rfl ?_
  refine w_put (ci := 6) (j := 17) (n' := 16) dX6_text_13 rfl fRX6_217 (Nat.le_of_ble_eq_true rfl) (Nat.le_of_ble_eq_true rfl) rfl rfl rfl rfl ?_
  refine w_aload_n (i := 0) (n' := 17) dX6_text_16 rfl rfl rfl ?_
  refine v_E (ci := 6) (n' := 20) dX6_text_17 rfl lRX6_259 okX6_nextToken voX6_nextToken ⟨⟨Nat.le_of_ble_eq_true rfl, Nat.le_of_ble_eq_true rfl⟩, Nat.le_of_ble_eq_true rfl, Nat.le_of_ble_eq_true rfl⟩ (c6_nextToken (T := T) (p := 0) (by rw [up2_same]; simp only [upd]; rw [if_neg (by decide)]; exact hTm) hT2 (by rw [up2_same]; simp [upd, nI_0]) (Nat.zero_le _)) rfl rfl (Nat.le_of_ble_eq_true rfl) rfl (Nat.le_of_ble_eq_true rfl) rfl ?_
  rw [tx_0]
  refine w_iconst (v := 1) (n' := 21) dX6_text_20 rfl rfl ?_
  refine w_istore_n (i := 1) (n' := 22) (ls' := [_, _, _]) dX6_text_21 rfl rfl (Nat.le_of_ble_eq_true rfl) rfl rfl ?_
  refine w_aload_n (i := 0) (n' := 23) dX6_text_22 rfl rfl rfl ?_
  refine v_E (ci := 6) (n' := 26) dX6_text_23 rfl lRX6_284 okX6_itemHere voX6_itemHere ⟨⟨Nat.le_of_ble_eq_true rfl, Nat.le_of_ble_eq_true rfl⟩, Nat.le_of_ble_eq_true rfl, Nat.le_of_ble_eq_true rfl⟩ (c6_itemHere hTm hT2 hf _ _ h8 hr) rfl rfl (Nat.le_of_ble_eq_true rfl) rfl (Nat.le_of_ble_eq_true rfl) rfl ?_
  rw [← itmQ_eq _ _ _ h8 hr]
  refine w_istore_n (i := 2) (n' := 27) (ls' := [_, _, _]) dX6_text_26 rfl rfl (Nat.le_of_ble_eq_true rfl) rfl rfl ?_
  refine tx_27 hTm hT2 h53 _ (m 50 19) _ (fun x m' hX => ?_) (T + 1) 1 (itmQ (BT m T) T (lexF (BT m T) T 0) (m 51)) (by omega) (by rw [itmQ_eq _ _ _ h8 hr]; exact (itm_le (m := m) hf n _).2) (by rw [itmQ_eq _ _ _ h8 hr]; exact itm_NR h8 hr) rfl
  rw [hB, h51] at hX
  refine ⟨x, rfl, hX.1, hX.2.1, hX.2.2.1, fun j h1 h2 => ?_, fun a h1 h2 h3 => ?_⟩
  · rw [hX.2.2.2.1 j h1 h2, hm, rowC, upR_ne _ _ (by decide)]
  · rw [hX.2.2.2.2 a h1 h2 h3, hm, rowC, upR_ne _ _ h3]
