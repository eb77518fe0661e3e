/-! the reference: items -/
def wP (B : Nat → Int32) (T f : Nat) (ws : List Int32) : Bool := decide (lexK (B f) = 1) && (decide (nI (lexE B T f) - nI f = nI ws.length) && eqW B f ws)
theorem ps_w (m : Mem) (T f : Nat) (r : Nat → Int32) (w : Int32) : wI (psM m T f r w) (BT (psM m T f r w) T) f = wP (BT m T) T f := by
  funext ws
  unfold wI wP
  rw [ps_15, ps_16, ps_17, ps_B]
abbrev RT : Type := Bool × Nat × (Nat → Int32)
def psT (m : Mem) (T : Nat) (q : RT) (w : Int32) : Mem := psM m T q.2.1 q.2.2 (if q.1 then w else nI q.2.1)
def hanP (B : Nat → Int32) (T i f : Nat) (r : Nat → Int32) : RT := if wP B T f wHands then (if nmB B T (nxF B T f) 1 20 then (true, nxF B T (nxF B T f), upd r (6 + 5 * i + 2) (lexV B T (nxF B T f))) else (false, nxF B T f, r)) else (true, f, r)
def thiG (B : Nat → Int32) (T f : Nat) : Nat := if lexK (B (nxF B T f)) = 5 then nxF B T (nxF B T f) else nxF B T f
def thiV (B : Nat → Int32) (T f : Nat) : Int32 := if lexK (B (nxF B T f)) = 5 then 0 - lexV B T (thiG B T f) else lexV B T (thiG B T f)
def thiP (B : Nat → Int32) (T i f : Nat) (r : Nat → Int32) : RT := if wP B T f wThinks then (if nmB B T (thiG B T f) 0 9 then (true, nxF B T (thiG B T f), upd r (6 + 5 * i + 3) (thiV B T f)) else (false, thiG B T f, r)) else (true, f, r)
def comR (r : Nat → Int32) (n : Nat) (a b : Int32) : Nat → Int32 := upd (upd (upd (upd (upd (upd r (6 + 5 * n) a) (6 + 5 * n + 1) b) (6 + 5 * n + 2) 4) (6 + 5 * n + 3) 0) (6 + 5 * n + 4) 0) 0 (nI (n + 1))
def andP (q : RT) (k : Nat → (Nat → Int32) → RT) : RT := if q.1 then k q.2.1 q.2.2 else q
def frmP (B : Nat → Int32) (T n : Nat) (k : Int32) (f : Nat) (r : Nat → Int32) : RT := if n = 8 then (false, f, r) else if nmB B T (nxF B T f) 0 999 then andP (hanP B T n (nxF B T (nxF B T f)) (comR r n k (lexV B T (nxF B T f)))) (thiP B T n) else (false, nxF B T f, r)
def wthP (B : Nat → Int32) (T a f : Nat) (r : Nat → Int32) : RT := if nmB B T (nxF B T f) 0 99 then (true, nxF B T (nxF B T f), upd r (3 + a) (lexV B T (nxF B T f))) else (false, nxF B T f, r)
def itmP (B : Nat → Int32) (T n f : Nat) (r : Nat → Int32) : RT := if 0 ≤ kdI (wP B T f) then frmP B T n (kdI (wP B T f)) f r else if wP B T f wWet then wthP B T 0 f r else if wP B T f wMice then wthP B T 1 f r else if wP B T f wRain then wthP B T 2 f r else (false, f, r)
theorem com_ps (m : Mem) (T f : Nat) (r : Nat → Int32) (w : Int32) (n : Nat) (a b : Int32) : comM (psM m T f r w) n a b = psM m T f (comR r n a b) w := by
  unfold comM comR
  rw [ps_row, ps_row, ps_row, ps_row, ps_row, ps_row]
theorem comR_0 (r : Nat → Int32) (n : Nat) (a b : Int32) : comR r n a b 0 = nI (n + 1) := by simp [comR, upd]
theorem ix_2 : ∀ i, i < 8 → (6 : Int32) + 5 * (nI (i + 1) - 1) + 2 = nI (6 + 5 * i + 2) := by decide +kernel
theorem ix_3 : ∀ i, i < 8 → (6 : Int32) + 5 * (nI (i + 1) - 1) + 3 = nI (6 + 5 * i + 3) := by decide +kernel
theorem c6_fourP {m : Mem} {T f : Nat} (hT : m 50 7 = nI T) (hT2 : T ≤ 120) (hf : f ≤ T) (r : Nat → Int32) (w : Int32) (a b c d : Int32) : CnE mX6_isFour [.ref 50, .int a, .int b, .int c, .int d] (psM m T f r w) (some (.int (bB (wP (BT m T) T f [a, b, c, d])))) (psM m T f r w) := by
  have := c6_isFour (mem := psM m T f r w) (T := T) (f := f) (by rw [ps_7]; exact hT) hT2 (ps_16 _ _ _ _ _) (by omega) a b c d
  rw [ps_w] at this
  exact this
theorem c6_fiveP {m : Mem} {T f : Nat} (hT : m 50 7 = nI T) (hT2 : T ≤ 120) (hf : f ≤ T) (r : Nat → Int32) (w : Int32) (a b c d e : Int32) : CnE mX6_isFive [.ref 50, .int a, .int b, .int c, .int d, .int e] (psM m T f r w) (some (.int (bB (wP (BT m T) T f [a, b, c, d, e])))) (psM m T f r w) := by
  have := c6_isFive (mem := psM m T f r w) (T := T) (f := f) (by rw [ps_7]; exact hT) hT2 (ps_16 _ _ _ _ _) (by omega) a b c d e
  rw [ps_w] at this
  exact this
theorem c6_sixP {m : Mem} {T f : Nat} (hT : m 50 7 = nI T) (hT2 : T ≤ 120) (hf : f ≤ T) (r : Nat → Int32) (w : Int32) (a b c d e g : Int32) : CnE mX6_isSix [.ref 50, .int a, .int b, .int c, .int d, .int e, .int g] (psM m T f r w) (some (.int (bB (wP (BT m T) T f [a, b, c, d, e, g])))) (psM m T f r w) := by
  have := c6_isSix (mem := psM m T f r w) (T := T) (f := f) (by rw [ps_7]; exact hT) hT2 (ps_16 _ _ _ _ _) (by omega) a b c d e g
  rw [ps_w] at this
  exact this
theorem c6_kindP {m : Mem} {T f : Nat} (hT : m 50 7 = nI T) (hT2 : T ≤ 120) (hf : f ≤ T) (r : Nat → Int32) (w : Int32) : CnE mX6_kindHere [.ref 50] (psM m T f r w) (some (.int (kdI (wP (BT m T) T f)))) (psM m T f r w) := by
  have := c6_kindHere (mem := psM m T f r w) (T := T) (f := f) (by rw [ps_7]; exact hT) hT2 (ps_16 _ _ _ _ _) (by omega)
  rw [ps_w] at this
  exact this
set_option maxHeartbeats 4000000 in
theorem c6_handsHere {m : Mem} {T f : Nat} (hT : m 50 7 = nI T) (hT2 : T ≤ 120) (hf : f ≤ T) (r : Nat → Int32) (w : Int32) {i : Nat} (hi : i < 8) (hr : r 0 = nI (i + 1)) : CnE mX6_handsHere [.ref 50] (psM m T f r w) (some (.int (bB (hanP (BT m T) T i f r).1))) (psT m T (hanP (BT m T) T i f r) w) := by
  have hg := (nxF_le (m := m) hf).2
  have hg2 := (nxF_le (m := m) hg).2
  refine Cn.of (ls := [some (.ref 50)]) (by decide) rfl (Nat.le_of_ble_eq_true rfl) ?_
  refine w_aload_n (i := 0) (n' := 1) dX6_handsHere_0 rfl rfl rfl ?_
  refine w_bipush (v := 104) (n' := 3) dX6_handsHere_1 rfl (by decide) ?_
  refine w_bipush (v := 97) (n' := 5) dX6_handsHere_3 rfl (by decide) ?_
  refine w_bipush (v := 110) (n' := 7) dX6_handsHere_5 rfl (by decide) ?_
  refine w_bipush (v := 100) (n' := 9) dX6_handsHere_7 rfl (by decide) ?_
  refine w_bipush (v := 115) (n' := 11) dX6_handsHere_9 rfl (by decide) ?_
  refine v_E (ci := 6) (n' := 14) dX6_handsHere_11 rfl lRX6_255 okX6_isFive voX6_isFive ⟨⟨Nat.le_of_ble_eq_true rfl, Nat.le_of_ble_eq_true rfl⟩, Nat.le_of_ble_eq_true rfl, Nat.le_of_ble_eq_true rfl⟩ (c6_fiveP hT hT2 hf r w 104 97 110 100 115) rfl rfl (Nat.le_of_ble_eq_true rfl) rfl (Nat.le_of_ble_eq_true rfl) rfl ?_
  refine w_if_ne (n' := 17) (tgt := 19) dX6_handsHere_14 rfl rfl (fun h14 => ?_) (fun h14 => ?_)
  · have hw : wP (BT m T) T f wHands = true := bB_n.mp h14
    refine w_aload_n (i := 0) (n' := 20) dX6_handsHere_19 rfl rfl rfl ?_
    refine v_E (ci := 6) (n' := 23) dX6_handsHere_20 rfl lRX6_259 okX6_nextToken voX6_nextToken ⟨⟨Nat.le_of_ble_eq_true rfl, Nat.le_of_ble_eq_true rfl⟩, Nat.le_of_ble_eq_true rfl, Nat.le_of_ble_eq_true rfl⟩ (c6_nextP hT hT2 hf _ _) rfl rfl (Nat.le_of_ble_eq_true rfl) rfl (Nat.le_of_ble_eq_true rfl) rfl ?_
    refine w_aload_n (i := 0) (n' := 24) dX6_handsHere_23 rfl rfl rfl ?_
    refine w_iconst (v := 1) (n' := 25) dX6_handsHere_24 rfl rfl ?_
    refine w_bipush (v := 20) (n' := 27) dX6_handsHere_25 rfl (by decide) ?_
    refine v_E (ci := 6) (n' := 30) dX6_handsHere_27 rfl lRX6_262 okX6_isNumber voX6_isNumber ⟨⟨Nat.le_of_ble_eq_true rfl, Nat.le_of_ble_eq_true rfl⟩, Nat.le_of_ble_eq_true rfl, Nat.le_of_ble_eq_true rfl⟩ (c6_isNumber _ _ 1 20) rfl rfl (Nat.le_of_ble_eq_true rfl) rfl (Nat.le_of_ble_eq_true rfl) rfl ?_
    refine w_if_ne (n' := 33) (tgt := 35) dX6_handsHere_30 rfl rfl (fun h30 => ?_) (fun h30 => ?_)
    · have hn : nmB (BT m T) T (nxF (BT m T) T f) 1 20 = true := bB_n.mp h30
      rw [if_pos hn]
      refine w_aload_n (i := 0) (n' := 36) dX6_handsHere_35 rfl rfl rfl ?_
      refine w_get (ci := 6) (j := 0) (n' := 39) dX6_handsHere_36 rfl fRX6_7 (Nat.le_of_ble_eq_true rfl) (Nat.le_of_ble_eq_true rfl) rfl rfl ?_
      refine w_bipush (v := 6) (n' := 41) dX6_handsHere_39 rfl (by decide) ?_
      refine w_iconst (v := 5) (n' := 42) dX6_handsHere_41 rfl rfl ?_
      refine w_aload_n (i := 0) (n' := 43) dX6_handsHere_42 rfl rfl rfl ?_
      refine w_get (ci := 6) (j := 0) (n' := 46) dX6_handsHere_43 rfl fRX6_7 (Nat.le_of_ble_eq_true rfl) (Nat.le_of_ble_eq_true rfl) rfl rfl ?_
      refine w_iconst (v := 0) (n' := 47) dX6_handsHere_46 rfl rfl ?_
      refine w_iald (n := 0) (n' := 48) dX6_handsHere_47 rfl rfl rfl (by decide) ?_
      rw [ps_51, hr]
      refine w_iconst (v := 1) (n' := 49) dX6_handsHere_48 rfl rfl ?_
      refine w_isub (n' := 50) dX6_handsHere_49 rfl ?_
      refine w_imul (n' := 51) dX6_handsHere_50 rfl ?_
      refine w_iadd (n' := 52) dX6_handsHere_51 rfl ?_
      refine w_iconst (v := 2) (n' := 53) dX6_handsHere_52 rfl rfl ?_
      refine w_iadd (n' := 54) dX6_handsHere_53 rfl ?_
      refine w_aload_n (i := 0) (n' := 55) dX6_handsHere_54 rfl rfl rfl ?_
      refine w_get (ci := 6) (j := 18) (n' := 58) dX6_handsHere_55 rfl fRX6_235 (Nat.le_of_ble_eq_true rfl) (Nat.le_of_ble_eq_true rfl) rfl rfl ?_
      rw [ps_18]
      refine w_iast (n := 6 + 5 * i + 2) (n' := 59) dX6_handsHere_58 rfl rfl (ix_2 i hi) (show 6 + 5 * i + 2 < 56 by omega) ?_
      rw [ps_row]
      refine w_aload_n (i := 0) (n' := 60) dX6_handsHere_59 rfl rfl rfl ?_
      refine v_E (ci := 6) (n' := 63) dX6_handsHere_60 rfl lRX6_259 okX6_nextToken voX6_nextToken ⟨⟨Nat.le_of_ble_eq_true rfl, Nat.le_of_ble_eq_true rfl⟩, Nat.le_of_ble_eq_true rfl, Nat.le_of_ble_eq_true rfl⟩ (c6_nextP hT hT2 hg _ _) rfl rfl (Nat.le_of_ble_eq_true rfl) rfl (Nat.le_of_ble_eq_true rfl) rfl ?_
      refine w_iconst (v := 1) (n' := 64) dX6_handsHere_63 rfl rfl ?_
      exact w_zret dX6_handsHere_64 rfl rfl ⟨by rw [hanP, if_pos hw, if_pos hn]; rfl, by rw [hanP, if_pos hw, if_pos hn]; rfl⟩
    · have hn : nmB (BT m T) T (nxF (BT m T) T f) 1 20 = false := bB_0.mp h30
      refine w_iconst (v := 0) (n' := 34) dX6_handsHere_33 rfl rfl ?_
      exact w_zret dX6_handsHere_34 rfl rfl ⟨by rw [hanP, if_pos hw, if_neg (by rw [hn]; decide)]; rfl, by rw [hanP, if_pos hw, if_neg (by rw [hn]; decide), if_neg (by rw [hn]; decide)]; rfl⟩
  · have hw : wP (BT m T) T f wHands = false := bB_0.mp h14
    refine w_iconst (v := 1) (n' := 18) dX6_handsHere_17 rfl rfl ?_
    exact w_zret dX6_handsHere_18 rfl rfl ⟨by rw [hanP, if_neg (by rw [hw]; decide)]; rfl, by rw [hanP, if_neg (by rw [hw]; decide)]; rfl⟩
set_option maxHeartbeats 4000000 in
theorem c6_thinksHere {m : Mem} {T f : Nat} (hT : m 50 7 = nI T) (hT2 : T ≤ 120) (hf : f ≤ T) (r : Nat → Int32) (w : Int32) {i : Nat} (hi : i < 8) (hr : r 0 = nI (i + 1)) : CnE mX6_thinksHere [.ref 50] (psM m T f r w) (some (.int (bB (thiP (BT m T) T i f r).1))) (psT m T (thiP (BT m T) T i f r) w) := by
  have hg := (nxF_le (m := m) hf).2
  have hg2 := (nxF_le (m := m) hg).2
  have hG : thiG (BT m T) T f ≤ T := by
    unfold thiG
    split
    · exact hg2
    · exact hg
  refine Cn.of (ls := [some (.ref 50), none]) (by decide) rfl (Nat.le_of_ble_eq_true rfl) ?_
  refine w_aload_n (i := 0) (n' := 1) dX6_thinksHere_0 rfl rfl rfl ?_
  refine w_bipush (v := 116) (n' := 3) dX6_thinksHere_1 rfl (by decide) ?_
  refine w_bipush (v := 104) (n' := 5) dX6_thinksHere_3 rfl (by decide) ?_
  refine w_bipush (v := 105) (n' := 7) dX6_thinksHere_5 rfl (by decide) ?_
  refine w_bipush (v := 110) (n' := 9) dX6_thinksHere_7 rfl (by decide) ?_
  refine w_bipush (v := 107) (n' := 11) dX6_thinksHere_9 rfl (by decide) ?_
  refine w_bipush (v := 115) (n' := 13) dX6_thinksHere_11 rfl (by decide) ?_
  refine v_E (ci := 6) (n' := 16) dX6_thinksHere_13 rfl lRX6_265 okX6_isSix voX6_isSix ⟨⟨Nat.le_of_ble_eq_true rfl, Nat.le_of_ble_eq_true rfl⟩, Nat.le_of_ble_eq_true rfl, Nat.le_of_ble_eq_true rfl⟩ (c6_sixP hT hT2 hf r w 116 104 105 110 107 115) rfl rfl (Nat.le_of_ble_eq_true rfl) rfl (Nat.le_of_ble_eq_true rfl) rfl ?_
  refine w_if_ne (n' := 19) (tgt := 21) dX6_thinksHere_16 rfl rfl (fun h16 => ?_) (fun h16 => ?_)
  · have hw : wP (BT m T) T f wThinks = true := bB_n.mp h16
    refine w_aload_n (i := 0) (n' := 22) dX6_thinksHere_21 rfl rfl rfl ?_
    refine v_E (ci := 6) (n' := 25) dX6_thinksHere_22 rfl lRX6_259 okX6_nextToken voX6_nextToken ⟨⟨Nat.le_of_ble_eq_true rfl, Nat.le_of_ble_eq_true rfl⟩, Nat.le_of_ble_eq_true rfl, Nat.le_of_ble_eq_true rfl⟩ (c6_nextP hT hT2 hf _ _) rfl rfl (Nat.le_of_ble_eq_true rfl) rfl (Nat.le_of_ble_eq_true rfl) rfl ?_
    refine w_aload_n (i := 0) (n' := 26) dX6_thinksHere_25 rfl rfl rfl ?_
    refine w_get (ci := 6) (j := 15) (n' := 29) dX6_thinksHere_26 rfl fRX6_232 (Nat.le_of_ble_eq_true rfl) (Nat.le_of_ble_eq_true rfl) rfl rfl ?_
    rw [ps_15]
    refine w_iconst (v := 5) (n' := 30) dX6_thinksHere_29 rfl rfl ?_
    refine w_icmp_ne (n' := 33) (tgt := 37) dX6_thinksHere_30 rfl rfl (fun h30 => ?_) (fun h30 => ?_)
    · have hGe : thiG (BT m T) T f = nxF (BT m T) T f := if_neg h30
      have hVe : thiV (BT m T) T f = lexV (BT m T) T (thiG (BT m T) T f) := if_neg h30
      refine w_iconst (v := 0) (n' := 38) dX6_thinksHere_37 rfl rfl ?_
      refine w_istore_n (i := 1) (n' := 39) (ls' := [_, _]) dX6_thinksHere_38 rfl rfl (Nat.le_of_ble_eq_true rfl) rfl rfl ?_
      refine w_iload_n (i := 1) (n' := 40) dX6_thinksHere_39 rfl rfl rfl ?_
      refine w_if_eq (n' := 43) (tgt := 47) dX6_thinksHere_40 rfl rfl (fun h40 => ?_) (fun h40 => absurd rfl h40)
      rw [← hGe]
      refine w_aload_n (i := 0) (n' := 48) dX6_thinksHere_47 rfl rfl rfl ?_
      refine w_iconst (v := 0) (n' := 49) dX6_thinksHere_48 rfl rfl ?_
      refine w_bipush (v := 9) (n' := 51) dX6_thinksHere_49 rfl (by decide) ?_
      refine v_E (ci := 6) (n' := 54) dX6_thinksHere_51 rfl lRX6_262 okX6_isNumber voX6_isNumber ⟨⟨Nat.le_of_ble_eq_true rfl, Nat.le_of_ble_eq_true rfl⟩, Nat.le_of_ble_eq_true rfl, Nat.le_of_ble_eq_true rfl⟩ (c6_isNumber _ _ 0 9) rfl rfl (Nat.le_of_ble_eq_true rfl) rfl (Nat.le_of_ble_eq_true rfl) rfl ?_
      refine w_if_ne (n' := 57) (tgt := 59) dX6_thinksHere_54 rfl rfl (fun h54 => ?_) (fun h54 => ?_)
      · have hn : nmB (BT m T) T (thiG (BT m T) T f) 0 9 = true := bB_n.mp h54
        rw [if_pos hn]
        refine w_aload_n (i := 0) (n' := 60) dX6_thinksHere_59 rfl rfl rfl ?_
        refine w_get (ci := 6) (j := 0) (n' := 63) dX6_thinksHere_60 rfl fRX6_7 (Nat.le_of_ble_eq_true rfl) (Nat.le_of_ble_eq_true rfl) rfl rfl ?_
        refine w_bipush (v := 6) (n' := 65) dX6_thinksHere_63 rfl (by decide) ?_
        refine w_iconst (v := 5) (n' := 66) dX6_thinksHere_65 rfl rfl ?_
        refine w_aload_n (i := 0) (n' := 67) dX6_thinksHere_66 rfl rfl rfl ?_
        refine w_get (ci := 6) (j := 0) (n' := 70) dX6_thinksHere_67 rfl fRX6_7 (Nat.le_of_ble_eq_true rfl) (Nat.le_of_ble_eq_true rfl) rfl rfl ?_
        refine w_iconst (v := 0) (n' := 71) dX6_thinksHere_70 rfl rfl ?_
        refine w_iald (n := 0) (n' := 72) dX6_thinksHere_71 rfl rfl rfl (by decide) ?_
        rw [ps_51, hr]
        refine w_iconst (v := 1) (n' := 73) dX6_thinksHere_72 rfl rfl ?_
        refine w_isub (n' := 74) dX6_thinksHere_73 rfl ?_
        refine w_imul (n' := 75) dX6_thinksHere_74 rfl ?_
        refine w_iadd (n' := 76) dX6_thinksHere_75 rfl ?_
        refine w_iconst (v := 3) (n' := 77) dX6_thinksHere_76 rfl rfl ?_
        refine w_iadd (n' := 78) dX6_thinksHere_77 rfl ?_
        refine w_iload_n (i := 1) (n' := 79) dX6_thinksHere_78 rfl rfl rfl ?_
        refine w_if_eq (n' := 82) (tgt := 90) dX6_thinksHere_79 rfl rfl (fun h79 => ?_) (fun h79 => absurd rfl h79)
        refine w_aload_n (i := 0) (n' := 91) dX6_thinksHere_90 rfl rfl rfl ?_
        refine w_get (ci := 6) (j := 18) (n' := 94) dX6_thinksHere_91 rfl fRX6_235 (Nat.le_of_ble_eq_true rfl) (Nat.le_of_ble_eq_true rfl) rfl rfl ?_
        rw [ps_18]
        refine w_iast (n := 6 + 5 * i + 3) (n' := 95) dX6_thinksHere_94 rfl rfl (ix_3 i hi) (show 6 + 5 * i + 3 < 56 by omega) ?_
        rw [ps_row, ← hVe]
        refine w_aload_n (i := 0) (n' := 96) dX6_thinksHere_95 rfl rfl rfl ?_
        refine v_E (ci := 6) (n' := 99) dX6_thinksHere_96 rfl lRX6_259 okX6_nextToken voX6_nextToken ⟨⟨Nat.le_of_ble_eq_true rfl, Nat.le_of_ble_eq_true rfl⟩, Nat.le_of_ble_eq_true rfl, Nat.le_of_ble_eq_true rfl⟩ (c6_nextP hT hT2 hG _ _) rfl rfl (Nat.le_of_ble_eq_true rfl) rfl (Nat.le_of_ble_eq_true rfl) rfl ?_
        refine w_iconst (v := 1) (n' := 100) dX6_thinksHere_99 rfl rfl ?_
        exact w_zret dX6_thinksHere_100 rfl rfl ⟨by rw [thiP, if_pos hw, if_pos hn]; rfl, by rw [thiP, if_pos hw, if_pos hn]; rfl⟩
      · have hn : nmB (BT m T) T (thiG (BT m T) T f) 0 9 = false := bB_0.mp h54
        refine w_iconst (v := 0) (n' := 58) dX6_thinksHere_57 rfl rfl ?_
        exact w_zret dX6_thinksHere_58 rfl rfl ⟨by rw [thiP, if_pos hw, if_neg (by rw [hn]; decide)]; rfl, by rw [thiP, if_pos hw, if_neg (by rw [hn]; decide), if_neg (by rw [hn]; decide)]; rfl⟩
    · have hGe : thiG (BT m T) T f = nxF (BT m T) T (nxF (BT m T) T f) := if_pos h30
      have hVe : thiV (BT m T) T f = 0 - lexV (BT m T) T (thiG (BT m T) T f) := if_pos h30
      refine w_iconst (v := 1) (n' := 34) dX6_thinksHere_33 rfl rfl ?_
      refine w_goto (tgt := 38) dX6_thinksHere_34 rfl ?_
      refine w_istore_n (i := 1) (n' := 39) (ls' := [_, _]) dX6_thinksHere_38 rfl rfl (Nat.le_of_ble_eq_true rfl) rfl rfl ?_
      refine w_iload_n (i := 1) (n' := 40) dX6_thinksHere_39 rfl rfl rfl ?_
      refine w_if_eq (n' := 43) (tgt := 47) dX6_thinksHere_40 rfl rfl (fun h40 => absurd h40 (by decide)) (fun h40 => ?_)
      refine w_aload_n (i := 0) (n' := 44) dX6_thinksHere_43 rfl rfl rfl ?_
      refine v_E (ci := 6) (n' := 47) dX6_thinksHere_44 rfl lRX6_259 okX6_nextToken voX6_nextToken ⟨⟨Nat.le_of_ble_eq_true rfl, Nat.le_of_ble_eq_true rfl⟩, Nat.le_of_ble_eq_true rfl, Nat.le_of_ble_eq_true rfl⟩ (c6_nextP hT hT2 hg _ _) rfl rfl (Nat.le_of_ble_eq_true rfl) rfl (Nat.le_of_ble_eq_true rfl) rfl ?_
      rw [← hGe]
      refine w_aload_n (i := 0) (n' := 48) dX6_thinksHere_47 rfl rfl rfl ?_
      refine w_iconst (v := 0) (n' := 49) dX6_thinksHere_48 rfl rfl ?_
      refine w_bipush (v := 9) (n' := 51) dX6_thinksHere_49 rfl (by decide) ?_
      refine v_E (ci := 6) (n' := 54) dX6_thinksHere_51 rfl lRX6_262 okX6_isNumber voX6_isNumber ⟨⟨Nat.le_of_ble_eq_true rfl, Nat.le_of_ble_eq_true rfl⟩, Nat.le_of_ble_eq_true rfl, Nat.le_of_ble_eq_true rfl⟩ (c6_isNumber _ _ 0 9) rfl rfl (Nat.le_of_ble_eq_true rfl) rfl (Nat.le_of_ble_eq_true rfl) rfl ?_
      refine w_if_ne (n' := 57) (tgt := 59) dX6_thinksHere_54 rfl rfl (fun h54 => ?_) (fun h54 => ?_)
      · have hn : nmB (BT m T) T (thiG (BT m T) T f) 0 9 = true := bB_n.mp h54
        rw [if_pos hn]
        refine w_aload_n (i := 0) (n' := 60) dX6_thinksHere_59 rfl rfl rfl ?_
        refine w_get (ci := 6) (j := 0) (n' := 63) dX6_thinksHere_60 rfl fRX6_7 (Nat.le_of_ble_eq_true rfl) (Nat.le_of_ble_eq_true rfl) rfl rfl ?_
        refine w_bipush (v := 6) (n' := 65) dX6_thinksHere_63 rfl (by decide) ?_
        refine w_iconst (v := 5) (n' := 66) dX6_thinksHere_65 rfl rfl ?_
        refine w_aload_n (i := 0) (n' := 67) dX6_thinksHere_66 rfl rfl rfl ?_
        refine w_get (ci := 6) (j := 0) (n' := 70) dX6_thinksHere_67 rfl fRX6_7 (Nat.le_of_ble_eq_true rfl) (Nat.le_of_ble_eq_true rfl) rfl rfl ?_
        refine w_iconst (v := 0) (n' := 71) dX6_thinksHere_70 rfl rfl ?_
        refine w_iald (n := 0) (n' := 72) dX6_thinksHere_71 rfl rfl rfl (by decide) ?_
        rw [ps_51, hr]
        refine w_iconst (v := 1) (n' := 73) dX6_thinksHere_72 rfl rfl ?_
        refine w_isub (n' := 74) dX6_thinksHere_73 rfl ?_
        refine w_imul (n' := 75) dX6_thinksHere_74 rfl ?_
        refine w_iadd (n' := 76) dX6_thinksHere_75 rfl ?_
        refine w_iconst (v := 3) (n' := 77) dX6_thinksHere_76 rfl rfl ?_
        refine w_iadd (n' := 78) dX6_thinksHere_77 rfl ?_
        refine w_iload_n (i := 1) (n' := 79) dX6_thinksHere_78 rfl rfl rfl ?_
        refine w_if_eq (n' := 82) (tgt := 90) dX6_thinksHere_79 rfl rfl (fun h79 => absurd h79 (by decide)) (fun h79 => ?_)
        refine w_aload_n (i := 0) (n' := 83) dX6_thinksHere_82 rfl rfl rfl ?_
        refine w_get (ci := 6) (j := 18) (n' := 86) dX6_thinksHere_83 rfl fRX6_235 (Nat.le_of_ble_eq_true rfl) (Nat.le_of_ble_eq_true rfl) rfl rfl ?_
        rw [ps_18]
        refine w_ineg (n' := 87) dX6_thinksHere_86 rfl ?_
        rw [← hVe]
        refine w_goto (tgt := 94) dX6_thinksHere_87 rfl ?_
        refine w_iast (n := 6 + 5 * i + 3) (n' := 95) dX6_thinksHere_94 rfl rfl (ix_3 i hi) (show 6 + 5 * i + 3 < 56 by omega) ?_
        rw [ps_row]
        refine w_aload_n (i := 0) (n' := 96) dX6_thinksHere_95 rfl rfl rfl ?_
        refine v_E (ci := 6) (n' := 99) dX6_thinksHere_96 rfl lRX6_259 okX6_nextToken voX6_nextToken ⟨⟨Nat.le_of_ble_eq_true rfl, Nat.le_of_ble_eq_true rfl⟩, Nat.le_of_ble_eq_true rfl, Nat.le_of_ble_eq_true rfl⟩ (c6_nextP hT hT2 hG _ _) rfl rfl (Nat.le_of_ble_eq_true rfl) rfl (Nat.le_of_ble_eq_true rfl) rfl ?_
        refine w_iconst (v := 1) (n' := 100) dX6_thinksHere_99 rfl rfl ?_
        exact w_zret dX6_thinksHere_100 rfl rfl ⟨by rw [thiP, if_pos hw, if_pos hn]; rfl, by rw [thiP, if_pos hw, if_pos hn]; rfl⟩
      · have hn : nmB (BT m T) T (thiG (BT m T) T f) 0 9 = false := bB_0.mp h54
        refine w_iconst (v := 0) (n' := 58) dX6_thinksHere_57 rfl rfl ?_
        exact w_zret dX6_thinksHere_58 rfl rfl ⟨by rw [thiP, if_pos hw, if_neg (by rw [hn]; decide)]; rfl, by rw [thiP, if_pos hw, if_neg (by rw [hn]; decide), if_neg (by rw [hn]; decide)]; rfl⟩
  · have hw : wP (BT m T) T f wThinks = false := bB_0.mp h16
    refine w_iconst (v := 1) (n' := 20) dX6_thinksHere_19 rfl rfl ?_
    exact w_zret dX6_thinksHere_20 rfl rfl ⟨by rw [thiP, if_neg (by rw [hw]; decide)]; rfl, by rw [thiP, if_neg (by rw [hw]; decide)]; rfl⟩
theorem han_le {m : Mem} {T f : Nat} (hf : f ≤ T) (i : Nat) (r : Nat → Int32) : (hanP (BT m T) T i f r).2.1 ≤ T := by
  have hg := (nxF_le (m := m) hf).2
  have hg2 := (nxF_le (m := m) hg).2
  unfold hanP
  split
  · split
    · exact hg2
    · exact hg
  · exact hf
theorem thi_le {m : Mem} {T f : Nat} (hf : f ≤ T) (i : Nat) (r : Nat → Int32) : (thiP (BT m T) T i f r).2.1 ≤ T := by
  have hg := (nxF_le (m := m) hf).2
  have hg2 := (nxF_le (m := m) hg).2
  have hG : thiG (BT m T) T f ≤ T := by
    unfold thiG
    split
    · exact hg2
    · exact hg
  have hG2 := (nxF_le (m := m) hG).2
  unfold thiP
  split
  · split
    · exact hG2
    · exact hG
  · exact hf
theorem han_0 (B : Nat → Int32) (T i f : Nat) (r : Nat → Int32) : (hanP B T i f r).2.2 0 = r 0 := by
  unfold hanP
  split
  · split
    · simp [upd]
    · rfl
  · rfl
theorem thi_0 (B : Nat → Int32) (T i f : Nat) (r : Nat → Int32) : (thiP B T i f r).2.2 0 = r 0 := by
  unfold thiP
  split
  · split
    · simp [upd]
    · rfl
  · rfl
theorem psT_t {m : Mem} {T : Nat} {q : RT} {w : Int32} (h : q.1 = true) : psT m T q w = psM m T q.2.1 q.2.2 w := by unfold psT; rw [if_pos h]
set_option maxHeartbeats 4000000 in
theorem c6_farmHere {m : Mem} {T f : Nat} (hT : m 50 7 = nI T) (hT2 : T ≤ 120) (hf : f ≤ T) (r : Nat → Int32) (w : Int32) {n : Nat} (hn8 : n ≤ 8) (hr : r 0 = nI n) (k : Int32) : CnE mX6_farmHere [.ref 50, .int k] (psM m T f r w) (some (.int (bB (frmP (BT m T) T n k f r).1))) (psT m T (frmP (BT m T) T n k f r) w) := by
  have hg := (nxF_le (m := m) hf).2
  have hg2 := (nxF_le (m := m) hg).2
  refine Cn.of (ls := [some (.ref 50), some (.int k)]) (by decide) rfl (Nat.le_of_ble_eq_true rfl) ?_
  refine w_aload_n (i := 0) (n' := 1) dX6_farmHere_0 rfl rfl rfl ?_
  refine w_get (ci := 6) (j := 0) (n' := 4) dX6_farmHere_1 rfl fRX6_7 (Nat.le_of_ble_eq_true rfl) (Nat.le_of_ble_eq_true rfl) rfl rfl ?_
  refine w_iconst (v := 0) (n' := 5) dX6_farmHere_4 rfl rfl ?_
  refine w_iald (n := 0) (n' := 6) dX6_farmHere_5 rfl rfl rfl (by decide) ?_
  rw [ps_51, hr]
  refine w_bipush (v := 8) (n' := 8) dX6_farmHere_6 rfl (by decide) ?_
  refine w_icmp_ne (n' := 11) (tgt := 16) dX6_farmHere_8 rfl rfl (fun h8 => ?_) (fun h8 => ?_)
  · have hn : ¬ n = 8 := fun q => h8 (by rw [q]; rfl)
    refine w_aload_n (i := 0) (n' := 17) dX6_farmHere_16 rfl rfl rfl ?_
    refine v_E (ci := 6) (n' := 20) dX6_farmHere_17 rfl lRX6_259 okX6_nextToken voX6_nextToken ⟨⟨Nat.le_of_ble_eq_true rfl, Nat.le_of_ble_eq_true rfl⟩, Nat.le_of_ble_eq_true rfl, Nat.le_of_ble_eq_true rfl⟩ (c6_nextP hT hT2 hf _ _) rfl rfl (Nat.le_of_ble_eq_true rfl) rfl (Nat.le_of_ble_eq_true rfl) rfl ?_
    refine w_aload_n (i := 0) (n' := 21) dX6_farmHere_20 rfl rfl rfl ?_
    refine w_iconst (v := 0) (n' := 22) dX6_farmHere_21 rfl rfl ?_
    refine w_sipush (v := 999) (n' := 25) dX6_farmHere_22 rfl (by decide) ?_
    refine v_E (ci := 6) (n' := 28) dX6_farmHere_25 rfl lRX6_262 okX6_isNumber voX6_isNumber ⟨⟨Nat.le_of_ble_eq_true rfl, Nat.le_of_ble_eq_true rfl⟩, Nat.le_of_ble_eq_true rfl, Nat.le_of_ble_eq_true rfl⟩ (c6_isNumber _ _ 0 999) rfl rfl (Nat.le_of_ble_eq_true rfl) rfl (Nat.le_of_ble_eq_true rfl) rfl ?_
    refine w_if_ne (n' := 31) (tgt := 33) dX6_farmHere_28 rfl rfl (fun h28 => ?_) (fun h28 => ?_)
    · have hm : nmB (BT m T) T (nxF (BT m T) T f) 0 999 = true := bB_n.mp h28
      rw [if_pos hm]
      refine w_aload_n (i := 0) (n' := 34) dX6_farmHere_33 rfl rfl rfl ?_
      refine w_iload_n (i := 1) (n' := 35) dX6_farmHere_34 rfl rfl rfl ?_
      refine w_aload_n (i := 0) (n' := 36) dX6_farmHere_35 rfl rfl rfl ?_
      refine w_get (ci := 6) (j := 18) (n' := 39) dX6_farmHere_36 rfl fRX6_235 (Nat.le_of_ble_eq_true rfl) (Nat.le_of_ble_eq_true rfl) rfl rfl ?_
      rw [ps_18]
      refine v_E (ci := 6) (n' := 42) dX6_farmHere_39 rfl lRX6_66 okX6_comes voX6_comes ⟨⟨Nat.le_of_ble_eq_true rfl, Nat.le_of_ble_eq_true rfl⟩, Nat.le_of_ble_eq_true rfl, Nat.le_of_ble_eq_true rfl⟩ (c6_comes (n := n) (by rw [ps_51]; exact hr) (by omega) _ _) rfl rfl (Nat.le_of_ble_eq_true rfl) rfl (Nat.le_of_ble_eq_true rfl) rfl ?_
      rw [com_ps]
      refine w_aload_n (i := 0) (n' := 43) dX6_farmHere_42 rfl rfl rfl ?_
      refine v_E (ci := 6) (n' := 46) dX6_farmHere_43 rfl lRX6_259 okX6_nextToken voX6_nextToken ⟨⟨Nat.le_of_ble_eq_true rfl, Nat.le_of_ble_eq_true rfl⟩, Nat.le_of_ble_eq_true rfl, Nat.le_of_ble_eq_true rfl⟩ (c6_nextP hT hT2 hg _ _) rfl rfl (Nat.le_of_ble_eq_true rfl) rfl (Nat.le_of_ble_eq_true rfl) rfl ?_
      refine w_aload_n (i := 0) (n' := 47) dX6_farmHere_46 rfl rfl rfl ?_
      refine v_E (ci := 6) (n' := 50) dX6_farmHere_47 rfl lRX6_269 okX6_handsHere voX6_handsHere ⟨⟨Nat.le_of_ble_eq_true rfl, Nat.le_of_ble_eq_true rfl⟩, Nat.le_of_ble_eq_true rfl, Nat.le_of_ble_eq_true rfl⟩ (c6_handsHere hT hT2 hg2 _ _ (show n < 8 by omega) (comR_0 _ _ _ _)) rfl rfl (Nat.le_of_ble_eq_true rfl) rfl (Nat.le_of_ble_eq_true rfl) rfl ?_
      refine w_if_eq (n' := 53) (tgt := 64) dX6_farmHere_50 rfl rfl (fun h50 => ?_) (fun h50 => ?_)
      · have ha := bB_0.mp h50
        refine w_iconst (v := 0) (n' := 65) dX6_farmHere_64 rfl rfl ?_
        exact w_zret dX6_farmHere_65 rfl rfl ⟨by rw [frmP, if_neg hn, if_pos hm, andP, if_neg (by rw [ha]; decide), ha]; rfl, by rw [frmP, if_neg hn, if_pos hm, andP, if_neg (by rw [ha]; decide)]⟩
      · have ha := bB_n.mp h50
        rw [psT_t ha]
        refine w_aload_n (i := 0) (n' := 54) dX6_farmHere_53 rfl rfl rfl ?_
        refine v_E (ci := 6) (n' := 57) dX6_farmHere_54 rfl lRX6_272 okX6_thinksHere voX6_thinksHere ⟨⟨Nat.le_of_ble_eq_true rfl, Nat.le_of_ble_eq_true rfl⟩, Nat.le_of_ble_eq_true rfl, Nat.le_of_ble_eq_true rfl⟩ (c6_thinksHere hT hT2 (han_le hg2 _ _) _ _ (show n < 8 by omega) (by rw [han_0, comR_0])) rfl rfl (Nat.le_of_ble_eq_true rfl) rfl (Nat.le_of_ble_eq_true rfl) rfl ?_
        refine w_if_eq (n' := 60) (tgt := 64) dX6_farmHere_57 rfl rfl (fun h57 => ?_) (fun h57 => ?_)
        · have hb := bB_0.mp h57
          refine w_iconst (v := 0) (n' := 65) dX6_farmHere_64 rfl rfl ?_
          exact w_zret dX6_farmHere_65 rfl rfl ⟨by rw [frmP, if_neg hn, if_pos hm, andP, if_pos ha, hb]; rfl, by rw [frmP, if_neg hn, if_pos hm, andP, if_pos ha]⟩
        · have hb := bB_n.mp h57
          refine w_iconst (v := 1) (n' := 61) dX6_farmHere_60 rfl rfl ?_
          refine w_goto (tgt := 65) dX6_farmHere_61 rfl ?_
          exact w_zret dX6_farmHere_65 rfl rfl ⟨by rw [frmP, if_neg hn, if_pos hm, andP, if_pos ha, hb]; rfl, by rw [frmP, if_neg hn, if_pos hm, andP, if_pos ha]⟩
    · have hm : nmB (BT m T) T (nxF (BT m T) T f) 0 999 = false := bB_0.mp h28
      refine w_iconst (v := 0) (n' := 32) dX6_farmHere_31 rfl rfl ?_
      exact w_zret dX6_farmHere_32 rfl rfl ⟨by rw [frmP, if_neg hn, if_neg (by rw [hm]; decide)]; rfl, by rw [frmP, if_neg hn, if_neg (by rw [hm]; decide), if_neg (by rw [hm]; decide)]; rfl⟩
  · have hn : n = 8 := (nI_eq (a := n) (b := 8) (by omega) (by omega)).mp h8
    refine w_aload_n (i := 0) (n' := 12) dX6_farmHere_11 rfl rfl rfl ?_
    refine v_E (ci := 6) (n' := 15) dX6_farmHere_12 rfl lRX6_248 okX6_fails voX6_fails ⟨⟨Nat.le_of_ble_eq_true rfl, Nat.le_of_ble_eq_true rfl⟩, Nat.le_of_ble_eq_true rfl, Nat.le_of_ble_eq_true rfl⟩ (c6_fails _) rfl rfl (Nat.le_of_ble_eq_true rfl) rfl (Nat.le_of_ble_eq_true rfl) rfl ?_
    rw [ps_16, ps_fail]
    exact w_zret dX6_farmHere_15 rfl rfl ⟨by rw [frmP, if_pos hn]; rfl, by rw [frmP, if_pos hn]; rfl⟩
set_option maxHeartbeats 4000000 in
theorem c6_weatherHere {m : Mem} {T f : Nat} (hT : m 50 7 = nI T) (hT2 : T ≤ 120) (hf : f ≤ T) (r : Nat → Int32) (w : Int32) {a : Nat} (ha : a < 3) (v : Int32) (hv : v = nI a) : CnE mX6_weatherHere [.ref 50, .int v] (psM m T f r w) (some (.int (bB (wthP (BT m T) T a f r).1))) (psT m T (wthP (BT m T) T a f r) w) := by
  have hg := (nxF_le (m := m) hf).2
  have hg2 := (nxF_le (m := m) hg).2
  refine Cn.of (ls := [some (.ref 50), some (.int v)]) (by decide) rfl (Nat.le_of_ble_eq_true rfl) ?_
  refine w_aload_n (i := 0) (n' := 1) dX6_weatherHere_0 rfl rfl rfl ?_
  refine v_E (ci := 6) (n' := 4) dX6_weatherHere_1 rfl lRX6_259 okX6_nextToken voX6_nextToken ⟨⟨Nat.le_of_ble_eq_true rfl, Nat.le_of_ble_eq_true rfl⟩, Nat.le_of_ble_eq_true rfl, Nat.le_of_ble_eq_true rfl⟩ (c6_nextP hT hT2 hf _ _) rfl rfl (Nat.le_of_ble_eq_true rfl) rfl (Nat.le_of_ble_eq_true rfl) rfl ?_
  refine w_aload_n (i := 0) (n' := 5) dX6_weatherHere_4 rfl rfl rfl ?_
  refine w_iconst (v := 0) (n' := 6) dX6_weatherHere_5 rfl rfl ?_
  refine w_bipush (v := 99) (n' := 8) dX6_weatherHere_6 rfl (by decide) ?_
  refine v_E (ci := 6) (n' := 11) dX6_weatherHere_8 rfl lRX6_262 okX6_isNumber voX6_isNumber ⟨⟨Nat.le_of_ble_eq_true rfl, Nat.le_of_ble_eq_true rfl⟩, Nat.le_of_ble_eq_true rfl, Nat.le_of_ble_eq_true rfl⟩ (c6_isNumber _ _ 0 99) rfl rfl (Nat.le_of_ble_eq_true rfl) rfl (Nat.le_of_ble_eq_true rfl) rfl ?_
  refine w_if_ne (n' := 14) (tgt := 16) dX6_weatherHere_11 rfl rfl (fun h11 => ?_) (fun h11 => ?_)
  · have hm : nmB (BT m T) T (nxF (BT m T) T f) 0 99 = true := bB_n.mp h11
    rw [if_pos hm]
    refine w_aload_n (i := 0) (n' := 17) dX6_weatherHere_16 rfl rfl rfl ?_
    refine w_get (ci := 6) (j := 0) (n' := 20) dX6_weatherHere_17 rfl fRX6_7 (Nat.le_of_ble_eq_true rfl) (Nat.le_of_ble_eq_true rfl) rfl rfl ?_
    refine w_iconst (v := 3) (n' := 21) dX6_weatherHere_20 rfl rfl ?_
    refine w_iload_n (i := 1) (n' := 22) dX6_weatherHere_21 rfl rfl rfl ?_
    refine w_iadd (n' := 23) dX6_weatherHere_22 rfl ?_
    refine w_aload_n (i := 0) (n' := 24) dX6_weatherHere_23 rfl rfl rfl ?_
    refine w_get (ci := 6) (j := 18) (n' := 27) dX6_weatherHere_24 rfl fRX6_235 (Nat.le_of_ble_eq_true rfl) (Nat.le_of_ble_eq_true rfl) rfl rfl ?_
    rw [ps_18]
    refine w_iast (n := 3 + a) (n' := 28) dX6_weatherHere_27 rfl rfl (by rw [hv, show (3 : Int32) = nI 3 from rfl, nI_add]) (show 3 + a < 56 by omega) ?_
    rw [ps_row]
    refine w_aload_n (i := 0) (n' := 29) dX6_weatherHere_28 rfl rfl rfl ?_
    refine v_E (ci := 6) (n' := 32) dX6_weatherHere_29 rfl lRX6_259 okX6_nextToken voX6_nextToken ⟨⟨Nat.le_of_ble_eq_true rfl, Nat.le_of_ble_eq_true rfl⟩, Nat.le_of_ble_eq_true rfl, Nat.le_of_ble_eq_true rfl⟩ (c6_nextP hT hT2 hg _ _) rfl rfl (Nat.le_of_ble_eq_true rfl) rfl (Nat.le_of_ble_eq_true rfl) rfl ?_
    refine w_iconst (v := 1) (n' := 33) dX6_weatherHere_32 rfl rfl ?_
    exact w_zret dX6_weatherHere_33 rfl rfl ⟨by rw [wthP, if_pos hm]; rfl, by rw [wthP, if_pos hm]; rfl⟩
  · have hm : nmB (BT m T) T (nxF (BT m T) T f) 0 99 = false := bB_0.mp h11
    refine w_iconst (v := 0) (n' := 15) dX6_weatherHere_14 rfl rfl ?_
    exact w_zret dX6_weatherHere_15 rfl rfl ⟨by rw [wthP, if_neg (by rw [hm]; decide)]; rfl, by rw [wthP, if_neg (by rw [hm]; decide), if_neg (by rw [hm]; decide)]; rfl⟩
