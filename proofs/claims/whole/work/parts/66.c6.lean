/-! the class: feed, text -/
def cbN (v : Int32) (t : Nat) : Int32 := ((v.toUInt32 >>> ((8 * nI t).toUInt32 &&& Int32.toUInt32 31)).toInt32).toInt8.toInt32.toInt8.toInt32
def fedC (m : Mem) (v : Int32) (c e k : Nat) : Mem := upR (up2 m 37 1 (nI (c + k))) 38 (fun j => if c ≤ j ∧ j < c + k then cbN v (e - 1 - (j - c)) else m 38 j)
theorem fec_0 {m : Mem} {v : Int32} {c e : Nat} (h : m 37 1 = nI c) : fedC m v c e 0 = m := by
  unfold fedC
  funext a
  by_cases h1 : a = 38
  · subst h1
    rw [upR_same]
    funext j
    rw [if_neg (by omega)]
  · rw [upR_ne _ _ h1, Nat.add_zero, ← h]
    by_cases h2 : a = 37
    · subst h2
      rw [up2_same, upd_self]
    · rw [up2_ne _ _ _ h2]
theorem fec_at (m : Mem) (v : Int32) (c e k : Nat) : fedC m v c e k 37 1 = nI (c + k) := by
  unfold fedC
  rw [upR_ne _ _ (by decide), up2_v1]
theorem fec_s (m : Mem) (v : Int32) {c e k : Nat} (hk : k < e) : up2 (up2 (fedC m v c e k) 38 (c + k) (cbN v (e - 1 - k))) 37 1 (nI (c + k + 1)) = fedC m v c e (k + 1) := by
  funext a
  by_cases h1 : a = 38
  · subst h1
    rw [up2_ne _ _ _ (by decide), up2_same]
    unfold fedC
    rw [upR_same, upR_same]
    funext j
    simp only [upd]
    by_cases e1 : j = c + k
    · subst e1
      rw [if_pos rfl, if_pos (by omega), Nat.add_sub_cancel_left]
    · rw [if_neg e1]
      by_cases e2 : c ≤ j ∧ j < c + k
      · rw [if_pos e2, if_pos (by omega)]
      · rw [if_neg e2, if_neg (by omega)]
  · by_cases h2 : a = 37
    · subst h2
      rw [up2_same, up2_ne _ _ _ (by decide)]
      unfold fedC
      rw [upR_ne _ _ (by decide), upR_ne _ _ (by decide), up2_same, up2_same]
      funext j
      simp only [upd]
      by_cases e1 : j = 1
      · rw [if_pos e1, if_pos e1, Nat.add_assoc]
      · rw [if_neg e1, if_neg e1, if_neg e1]
    · rw [up2_ne _ _ _ h2, up2_ne _ _ _ h1]
      unfold fedC
      rw [upR_ne _ _ h1, upR_ne _ _ h1, up2_ne _ _ _ h2, up2_ne _ _ _ h2]
set_option maxHeartbeats 4000000 in
theorem c5_feed {c : Nat} {mem : Mem} (hc : mem 37 1 = nI c) (hc2 : c ≤ 120) (v l : Int32) : CnI mX5_feed [.ref 0, .int v, .int l] mem (fun x m' => (inR l 1 4 = 0 ∧ x = -1000001 ∧ m' = fnd mem 0) ∨ (∃ e, 1 ≤ e ∧ e ≤ 4 ∧ l = nI e ∧ ((¬ c + e ≤ 120 ∧ x = -1000002 ∧ m' = fnd mem 1) ∨ (c + e ≤ 120 ∧ x = nI (c + e) ∧ m' = fedC mem v c e e)))) := by
  refine Cn.of (ls := [some (.ref 0), some (.int v), some (.int l), none]) (by decide) rfl (Nat.le_of_ble_eq_true rfl) ?_
  refine w_iload_n (i := 2) (n' := 1) dX5_feed_0 rfl rfl rfl ?_
  refine w_iconst (v := 1) (n' := 2) dX5_feed_1 rfl rfl ?_
  refine w_iconst (v := 4) (n' := 3) dX5_feed_2 rfl rfl ?_
  refine s_E (n' := 6) dX5_feed_3 rfl lRX5_53 okX5_within stX5_within ⟨⟨Nat.le_of_ble_eq_true rfl, Nat.le_of_ble_eq_true rfl⟩, Nat.le_of_ble_eq_true rfl, Nat.le_of_ble_eq_true rfl⟩ (c_within _ _ _ _) rfl rfl (Nat.le_of_ble_eq_true rfl) ?_
  refine w_if_ne (n' := 9) (tgt := 15) dX5_feed_6 rfl rfl (fun h6 => ?_) (fun h6 => ?_)
  · obtain ⟨e, e1, e2, e3⟩ := inR_1 (K := 1) (N := 4) (by decide) (by decide) h6
    refine w_aload_n (i := 0) (n' := 16) dX5_feed_15 rfl rfl rfl ?_
    refine w_get (ci := 5) (j := 3) (n' := 19) dX5_feed_16 rfl fRX5_25 (Nat.le_of_ble_eq_true rfl) (Nat.le_of_ble_eq_true rfl) rfl rfl ?_
    refine w_get (ci := 3) (j := 1) (n' := 22) dX5_feed_19 rfl fRX5_230 (Nat.le_of_ble_eq_true rfl) (Nat.le_of_ble_eq_true rfl) rfl rfl ?_
    rw [hc]
    refine w_iload_n (i := 2) (n' := 23) dX5_feed_22 rfl rfl rfl ?_
    refine w_iadd (n' := 24) dX5_feed_23 rfl ?_
    refine w_bipush (v := 120) (n' := 26) dX5_feed_24 rfl (by decide) ?_
    refine w_icmp_le (n' := 29) (tgt := 35) dX5_feed_26 rfl rfl (fun h26 => ?_) (fun h26 => ?_)
    · have hle : c + e ≤ 120 := by
        rw [e3, nI_add] at h26
        exact (nI_leI (a := c + e) (b := 120) (by omega) (by omega)).mp h26
      refine w_iload_n (i := 2) (n' := 36) dX5_feed_35 rfl rfl rfl ?_
      refine w_iconst (v := 1) (n' := 37) dX5_feed_36 rfl rfl ?_
      refine w_isub (n' := 38) dX5_feed_37 rfl ?_
      refine w_istore_n (i := 3) (n' := 39) (ls' := [_, _, _, _]) dX5_feed_38 rfl rfl (Nat.le_of_ble_eq_true rfl) rfl rfl ?_
      have L : ∀ (k : Nat) (s : Mem), k ≤ e → s = fedC mem v c e k → Wm mX5_feed (zM mX5_feed (fun rZ mZ => ∃ xZ, rZ = some (.int xZ) ∧ (fun x m' => (inR l 1 4 = 0 ∧ x = -1000001 ∧ m' = fnd mem 0) ∨ (∃ e, 1 ≤ e ∧ e ≤ 4 ∧ l = nI e ∧ ((¬ c + e ≤ 120 ∧ x = -1000002 ∧ m' = fnd mem 1) ∨ (c + e ≤ 120 ∧ x = nI (c + e) ∧ m' = fedC mem v c e e)))) xZ mZ)) 39 [some (.ref 0), some (.int v), some (.int l), some (.int (nI (e - k) - 1))] [] s := by
        refine for_ind e ?_
        intro k s hk h1 ih
        have hs : s 37 1 = nI (c + k) := by rw [h1]; exact fec_at _ _ _ _ _
        refine w_iload_n (i := 3) (n' := 40) dX5_feed_39 rfl rfl rfl ?_
        refine w_if_lt (n' := 43) (tgt := 63) dX5_feed_40 rfl rfl (fun h40 => ?_) (fun h40 => ?_)
        · have hin : k = e := by
            rcases Nat.lt_or_ge k e with q | q
            · rw [show e - k = (e - 1 - k) + 1 by omega, nI_pred] at h40
              exact absurd h40 (nI_pos (by omega))
            · omega
          refine w_aload_n (i := 0) (n' := 64) dX5_feed_63 rfl rfl rfl ?_
          refine w_get (ci := 5) (j := 3) (n' := 67) dX5_feed_64 rfl fRX5_25 (Nat.le_of_ble_eq_true rfl) (Nat.le_of_ble_eq_true rfl) rfl rfl ?_
          refine w_get (ci := 3) (j := 1) (n' := 70) dX5_feed_67 rfl fRX5_230 (Nat.le_of_ble_eq_true rfl) (Nat.le_of_ble_eq_true rfl) rfl rfl ?_
          rw [hs, hin]
          exact w_iret dX5_feed_70 rfl ⟨_, rfl, Or.inr ⟨e, e1, e2, e3, Or.inr ⟨hle, rfl, by rw [h1, hin]⟩⟩⟩
        · have hlt : k < e := by
            rcases Nat.lt_or_ge k e with q | q
            · exact q
            · rw [show e - k = 0 by omega] at h40
              exact absurd (by decide) h40
          rw [show e - k = (e - 1 - k) + 1 by omega, nI_pred]
          refine w_aload_n (i := 0) (n' := 44) dX5_feed_43 rfl rfl rfl ?_
          refine w_get (ci := 5) (j := 3) (n' := 47) dX5_feed_44 rfl fRX5_25 (Nat.le_of_ble_eq_true rfl) (Nat.le_of_ble_eq_true rfl) rfl rfl ?_
          refine w_iload_n (i := 1) (n' := 48) dX5_feed_47 rfl rfl rfl ?_
          refine w_bipush (v := 8) (n' := 50) dX5_feed_48 rfl (by decide) ?_
          refine w_iload_n (i := 3) (n' := 51) dX5_feed_50 rfl rfl rfl ?_
          refine w_imul (n' := 52) dX5_feed_51 rfl ?_
          refine w_iushr (n' := 53) (v := _) dX5_feed_52 rfl rfl ?_
          refine w_i2b (v := _) (n' := 54) dX5_feed_53 rfl rfl ?_
          refine v_E (ci := 3) (n' := 57) dX5_feed_54 rfl lRX5_233 okX3_add voX3_add ⟨⟨Nat.le_of_ble_eq_true rfl, Nat.le_of_ble_eq_true rfl⟩, Nat.le_of_ble_eq_true rfl, Nat.le_of_ble_eq_true rfl⟩ (c3_add (T := c + k) hs (by omega) _) rfl rfl (Nat.le_of_ble_eq_true rfl) rfl (Nat.le_of_ble_eq_true rfl) rfl ?_
          refine w_iinc (n' := 60) (v := nI (e - (k + 1)) - 1) (ls' := [_, _, _, _]) dX5_feed_57 rfl rfl (fd_dec k e) (Nat.le_of_ble_eq_true rfl) rfl rfl ?_
          refine w_goto (tgt := 39) dX5_feed_60 rfl ?_
          exact ih hlt _ (by rw [h1]; exact fec_s _ _ hlt)
      rw [e3]
      rw [e3] at L
      exact L 0 _ (Nat.zero_le _) (fec_0 hc).symm
    · have hgt : ¬ c + e ≤ 120 := fun q => h26 (by rw [e3, nI_add]; exact nI_le (a := c + e) (b := 120) q (by omega))
      refine w_aload_n (i := 0) (n' := 30) dX5_feed_29 rfl rfl rfl ?_
      refine w_iconst (v := 1) (n' := 31) dX5_feed_30 rfl rfl ?_
      refine v_E (ci := 5) (n' := 34) dX5_feed_31 rfl lRX5_57 okX5_finding voX5_finding ⟨⟨Nat.le_of_ble_eq_true rfl, Nat.le_of_ble_eq_true rfl⟩, Nat.le_of_ble_eq_true rfl, Nat.le_of_ble_eq_true rfl⟩ (c_finding 1 _ (by decide) (by decide) _) rfl rfl (Nat.le_of_ble_eq_true rfl) rfl (Nat.le_of_ble_eq_true rfl) rfl ?_
      exact w_iret dX5_feed_34 rfl ⟨_, rfl, Or.inr ⟨e, e1, e2, e3, Or.inl ⟨hgt, rfl, rfl⟩⟩⟩
  · refine w_aload_n (i := 0) (n' := 10) dX5_feed_9 rfl rfl rfl ?_
    refine w_iconst (v := 0) (n' := 11) dX5_feed_10 rfl rfl ?_
    refine v_E (ci := 5) (n' := 14) dX5_feed_11 rfl lRX5_57 okX5_finding voX5_finding ⟨⟨Nat.le_of_ble_eq_true rfl, Nat.le_of_ble_eq_true rfl⟩, Nat.le_of_ble_eq_true rfl, Nat.le_of_ble_eq_true rfl⟩ (c_finding 0 _ (by decide) (by decide) _) rfl rfl (Nat.le_of_ble_eq_true rfl) rfl (Nat.le_of_ble_eq_true rfl) rfl ?_
    exact w_iret dX5_feed_14 rfl ⟨_, rfl, Or.inl ⟨h6, rfl, rfl⟩⟩
theorem PR_bec {m : Mem} {k o n : Nat} {r : Nat → Int32} (hap : o + 12 ≤ k ∨ k + 12 ≤ o) (h : PR m o n r) : PR (becMem m k o n) k n r :=
  ⟨h.1, by rw [(bec_k m k o n).1]; exact h.2.1, h.2.2.1, by rw [(bec_k m k o n).2.2]; exact h.2.2.2.1, fun j hj => by rw [bec_w m hj]; exact h.2.2.2.2.1 j hj, fun i j hi hj => by rw [bec_f m h.2.2.1 hap hi (by omega)]; exact h.2.2.2.2.2.1 i j hi hj, fun j hj => by rw [bec_s m h.2.2.1 hap hj]; exact h.2.2.2.2.2.2 j hj⟩
def TXC (mem : Mem) (s : Nat → Int32) (B : Nat → Int32) (R : Nat × RT) (x : Int32) (m' : Mem) : Prop := x = txX B R ∧ (∃ n', PR m' 1 n' (if txG B R then R.2.2.2 else s)) ∧ m' 1 4 = (if txG B R then R.2.2.2 else s) 1 ∧ CaOK m' ∧ m' 37 1 = 0 ∧ ∀ a, a = 0 ∨ (13 ≤ a ∧ a < 25) ∨ 38 ≤ a → m' a = mem a
theorem txP_it (B : Nat → Int32) (T : Nat) : ∀ k it q, it ≤ (txtP B T k it q).1 ∧ (txtP B T k it q).1 ≤ it + k
  | 0, it, q => ⟨Nat.le_refl _, Nat.le_refl _⟩
  | k + 1, it, q => by
    rw [txtP]
    split
    · have := txP_it B T k (it + 1) (itmQ B T (nxF B T q.2.1) q.2.2)
      omega
    · exact ⟨Nat.le_refl _, by omega⟩
theorem neg_pl {f : Nat} (h : f ≤ 1000) : -1 - nI f ≤ 0 := by
  rw [Int32.le_iff_toInt_le, Int32.toInt_sub, nI_toInt (by omega)]
  have e : (-1 : Int32).toInt = -1 := by decide
  have e0 : (0 : Int32).toInt = 0 := by decide
  rw [e, e0, Int.bmod_eq_of_le (by omega) (by omega)]
  omega
theorem TK_1 {m : Mem} {T f : Nat} (h : TK m T f) : m 37 1 = nI T := h.1
theorem txP_le {m : Mem} {T : Nat} : ∀ k it (q : RT), q.2.1 ≤ T → NR q.2.2 → (txtP (BT m T) T k it q).2.2.1 ≤ T
  | 0, it, q, h, _ => h
  | k + 1, it, q, h, hN => by
    rw [txtP]
    split
    · obtain ⟨n, h8, hn⟩ := hN
      have hg := nxF_le (m := m) h
      exact txP_le k (it + 1) _ (by rw [itmQ_eq _ _ _ h8 hn]; exact (itm_le (m := m) hg.2 n _).2) (by rw [itmQ_eq _ _ _ h8 hn]; exact itm_NR h8 hn)
    · exact h
theorem txf_le {m : Mem} {T n : Nat} {r : Nat → Int32} (hn : r 0 = nI n) (h8 : n ≤ 8) : (txtP (BT m T) T (T + 1) 1 (itmQ (BT m T) T (lexF (BT m T) T 0) r)).2.2.1 ≤ T := by
  have hf := (lexF_le (BT m T) (Nat.zero_le T)).2
  exact txP_le _ _ _ (by rw [itmQ_eq _ _ _ h8 hn]; exact (itm_le (m := m) hf n _).2) (by rw [itmQ_eq _ _ _ h8 hn]; exact itm_NR h8 hn)
set_option maxHeartbeats 4000000 in
theorem c5_text {T n : Nat} {r : Nat → Int32} {mem : Mem} (hT : mem 37 1 = nI T) (hT2 : T ≤ 120) (hB : BR mem T) (h : PR mem 1 n r) (hy : mem 1 4 = r 1) (hc : CaOK mem) : CnI mX5_text [.ref 0] mem (fun x m' => TXC mem r (BT mem T) (txtP (BT mem T) T (T + 1) 1 (itmQ (BT mem T) T (lexF (BT mem T) T 0) r)) x m') := by
  have h8 := h.2.2.1
  have h1 := PR_bec (k := 25) (o := 1) (Or.inl (by decide)) h
  have o : ∀ a, (a < 25 ∨ 37 ≤ a) → becMem mem 25 1 n a = mem a := fun a ha => bec_o _ (by omega) h8
  refine Cn.of (ls := [some (.ref 0), none]) (by decide) rfl (Nat.le_of_ble_eq_true rfl) ?_
  refine w_aload_n (i := 0) (n' := 1) dX5_text_0 rfl rfl rfl ?_
  refine w_get (ci := 5) (j := 2) (n' := 4) dX5_text_1 rfl fRX5_19 (Nat.le_of_ble_eq_true rfl) (Nat.le_of_ble_eq_true rfl) rfl rfl ?_
  refine w_aload_n (i := 0) (n' := 5) dX5_text_4 rfl rfl rfl ?_
  refine w_get (ci := 5) (j := 0) (n' := 8) dX5_text_5 rfl fRX5_10 (Nat.le_of_ble_eq_true rfl) (Nat.le_of_ble_eq_true rfl) rfl rfl ?_
  refine v_E (ci := 1) (n' := 11) dX5_text_8 rfl lRX5_151 okX1_becomes voX1_becomes ⟨⟨Nat.le_of_ble_eq_true rfl, Nat.le_of_ble_eq_true rfl⟩, Nat.le_of_ble_eq_true rfl, Nat.le_of_ble_eq_true rfl⟩ (c_becomes (k := 25) (o := 1) (n := n) rfl ⟨rfl, h.2.1, h8⟩ (by decide)) rfl rfl (Nat.le_of_ble_eq_true rfl) rfl (Nat.le_of_ble_eq_true rfl) rfl ?_
  refine w_aload_n (i := 0) (n' := 12) dX5_text_11 rfl rfl rfl ?_
  refine w_get (ci := 5) (j := 4) (n' := 15) dX5_text_12 rfl fRX5_34 (Nat.le_of_ble_eq_true rfl) (Nat.le_of_ble_eq_true rfl) rfl rfl ?_
  refine v_I (ci := 4) (n' := 18) dX5_text_15 rfl lRX5_237 okX4_readItems voX4_readItems ⟨⟨Nat.le_of_ble_eq_true rfl, Nat.le_of_ble_eq_true rfl⟩, Nat.le_of_ble_eq_true rfl, Nat.le_of_ble_eq_true rfl⟩ (c4_items (m0 := mem) hT2 hB h1 (by rw [(bec_k mem 25 1 n).2.1]; exact hy) (bec_Ca rfl rfl (by decide) h8 hc) (by rw [o _ (by omega)]; exact hT) (fun a ha => o a (by omega))) rfl rfl (Nat.le_of_ble_eq_true rfl) rfl (Nat.le_of_ble_eq_true rfl) rfl (fun x15 m15 q15 => ?_)
  obtain ⟨rfl, n2, h2⟩ := q15
  obtain ⟨R, hR⟩ : ∃ R, R = txtP (BT mem T) T (T + 1) 1 (itmQ (BT mem T) T (lexF (BT mem T) T 0) r) := ⟨_, rfl⟩
  have hit := txP_it (BT mem T) T (T + 1) 1 (itmQ (BT mem T) T (lexF (BT mem T) T 0) r)
  rw [← hR] at h2 hit ⊢
  refine w_istore_n (i := 1) (n' := 19) (ls' := [_, _]) dX5_text_18 rfl rfl (Nat.le_of_ble_eq_true rfl) rfl rfl ?_
  refine w_iload_n (i := 1) (n' := 20) dX5_text_19 rfl rfl rfl ?_
  refine w_if_le (n' := 23) (tgt := 34) dX5_text_20 rfl rfl (fun h20 => ?_) (fun h20 => ?_)
  · have hg : txG (BT mem T) R = false := by
      by_cases c : txG (BT mem T) R = true
      · rw [txX, if_pos c] at h20
        exact absurd h20 (nI_nle (by omega) (by omega))
      · exact Bool.not_eq_true _ ▸ c
    refine w_aload_n (i := 0) (n' := 35) dX5_text_34 rfl rfl rfl ?_
    refine w_get (ci := 5) (j := 3) (n' := 38) dX5_text_35 rfl fRX5_25 (Nat.le_of_ble_eq_true rfl) (Nat.le_of_ble_eq_true rfl) rfl rfl ?_
    refine w_iconst (v := 0) (n' := 39) dX5_text_38 rfl rfl ?_
    refine w_put (ci := 3) (j := 1) (n' := 42) dX5_text_39 rfl fRX5_230 (Nat.le_of_ble_eq_true rfl) (Nat.le_of_ble_eq_true rfl) rfl rfl rfl rfl ?_
    refine w_iload_n (i := 1) (n' := 43) dX5_text_42 rfl rfl rfl ?_
    exact w_iret dX5_text_43 rfl ⟨_, rfl, (show TXC mem r (BT mem T) R (txX (BT mem T) R) (up2 m15 37 1 0) from ⟨rfl, ⟨n, by rw [hg]; exact h.congr (by rw [up2_ne _ _ _ (by decide), h2.2.2.2.2 1 (by omega)]) (by rw [up2_ne _ _ _ (by decide), h2.2.2.2.2 1 (by omega)]) (fun j _ => by rw [up2_ne _ _ _ (by decide), h2.2.2.2.2 2 (by omega)]) (fun i j hi _ => by rw [up2_ne _ _ _ (by omega), h2.2.2.2.2 _ (by omega)]) (fun j _ => by rw [up2_ne _ _ _ (by decide), h2.2.2.2.2 12 (by omega)])⟩, by rw [hg, up2_ne _ _ _ (by decide), h2.2.2.2.2 1 (by omega)]; exact hy, upR_Ca (by decide) h2.2.2.1, by rw [up2_v1], fun a ha => by rw [up2_ne _ _ _ (by omega), h2.2.2.2.2 a (by omega)]⟩)⟩
  · have hg : txG (BT mem T) R = true := by
      by_cases c : txG (BT mem T) R = true
      · exact c
      · rw [txX, if_neg c] at h20
        exact absurd (neg_pl (by have := txf_le (m := mem) (T := T) (r := r) h.1 h8; rw [← hR] at this; omega)) h20
    refine w_aload_n (i := 0) (n' := 24) dX5_text_23 rfl rfl rfl ?_
    refine w_get (ci := 5) (j := 0) (n' := 27) dX5_text_24 rfl fRX5_10 (Nat.le_of_ble_eq_true rfl) (Nat.le_of_ble_eq_true rfl) rfl rfl ?_
    refine w_aload_n (i := 0) (n' := 28) dX5_text_27 rfl rfl rfl ?_
    refine w_get (ci := 5) (j := 2) (n' := 31) dX5_text_28 rfl fRX5_19 (Nat.le_of_ble_eq_true rfl) (Nat.le_of_ble_eq_true rfl) rfl rfl ?_
    refine v_E (ci := 1) (n' := 34) dX5_text_31 rfl lRX5_151 okX1_becomes voX1_becomes ⟨⟨Nat.le_of_ble_eq_true rfl, Nat.le_of_ble_eq_true rfl⟩, Nat.le_of_ble_eq_true rfl, Nat.le_of_ble_eq_true rfl⟩ (c_becomes (k := 1) (o := 25) (n := n2) rfl ⟨rfl, h2.1.2.1, h2.1.2.2.1⟩ (by decide)) rfl rfl (Nat.le_of_ble_eq_true rfl) rfl (Nat.le_of_ble_eq_true rfl) rfl ?_
    refine w_aload_n (i := 0) (n' := 35) dX5_text_34 rfl rfl rfl ?_
    refine w_get (ci := 5) (j := 3) (n' := 38) dX5_text_35 rfl fRX5_25 (Nat.le_of_ble_eq_true rfl) (Nat.le_of_ble_eq_true rfl) rfl rfl ?_
    refine w_iconst (v := 0) (n' := 39) dX5_text_38 rfl rfl ?_
    refine w_put (ci := 3) (j := 1) (n' := 42) dX5_text_39 rfl fRX5_230 (Nat.le_of_ble_eq_true rfl) (Nat.le_of_ble_eq_true rfl) rfl rfl rfl rfl ?_
    refine w_iload_n (i := 1) (n' := 43) dX5_text_42 rfl rfl rfl ?_
    exact w_iret dX5_text_43 rfl ⟨_, rfl, (show TXC mem r (BT mem T) R (txX (BT mem T) R) (up2 (becMem m15 1 25 n2) 37 1 0) from ⟨rfl, ⟨n2, by rw [hg]; exact (PR_bec (k := 1) (o := 25) (Or.inr (by decide)) h2.1).congr (by rw [up2_ne _ _ _ (by decide)]) (by rw [up2_ne _ _ _ (by decide)]) (fun j _ => by rw [up2_ne _ _ _ (by decide)]) (fun i j hi _ => by rw [up2_ne _ _ _ (by have := h2.1.2.2.1; omega)]) (fun j _ => by rw [up2_ne _ _ _ (by decide)])⟩, by rw [hg, up2_ne _ _ _ (by decide), (bec_k m15 1 25 n2).2.1]; exact h2.2.1, upR_Ca (by decide) (bec_Ca rfl rfl (by decide) h2.1.2.2.1 h2.2.2.1), by rw [up2_v1], fun a ha => by rw [up2_ne _ _ _ (by omega), bec_o _ (by omega) h2.1.2.2.1, h2.2.2.2.2 a (by omega)]⟩)⟩
