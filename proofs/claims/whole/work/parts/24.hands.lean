/-! hands: one thing of the trial parish is otherwise -/
def Agr (M : Mem) (c j : Nat) (s : Mem) : Prop := CaOK s ∧ ∀ b q, ¬ (b = c ∧ q = j) → isCa b q = false → s b q = M b q
theorem Agr.rf {M : Mem} {c j : Nat} (h : CaOK M) : Agr M c j M := ⟨h, fun _ _ _ _ => rfl⟩
theorem Agr.of {M s : Mem} {c j : Nat} {v : Int32} (h : Same (up2 M c j v) s) : Agr M c j s := by
  refine ⟨h.2, fun b q hb hc => ?_⟩
  rw [h.at hc]
  by_cases e : b = c
  · subst e
    rw [up2_same]
    have : q ≠ j := fun e => hb ⟨rfl, e⟩
    simp [upd, this]
  · rw [up2_ne _ _ _ e]
theorem alt_Same {M s : Mem} {c : Nat} {a v : Int32} (hc : kd c = 0) (hs : slotF a < 5) (h : Agr M c (slotF a) s) : Same (up2 M c (slotF a) v) (alterF s c a v) := by
  refine ⟨?_, ?_⟩
  · funext b q
    by_cases hca : isCa b q = true
    · simp [pr, hca]
    · have hca2 : isCa b q = false := by simpa using hca
      simp only [pr, hca2]
      unfold alterF
      by_cases e : b = c
      · subst e
        have h5 : q ≠ 5 := by intro e; subst e; simp [isCa, hc] at hca2
        rw [up2_same, up2_same, up2_same]
        by_cases e2 : q = slotF a
        · subst e2; simp [upd, h5]
        · simp [upd, h5, e2, h.2 b q (fun z => e2 z.2) hca2]
      · rw [up2_ne _ _ _ e, up2_ne _ _ _ e, up2_ne _ _ _ e]
        simp [h.2 b q (fun z => e z.1) hca2]
  · intro b hb
    unfold alterF
    by_cases e : b = c
    · subst e
      left
      rw [up2_same]
      simp [upd]
    · rw [up2_ne _ _ _ e, up2_ne _ _ _ e]
      exact h.1 b hb
theorem sto_Same {M s : Mem} {c j : Nat} {v : Int32} (hc : isCa c j = false) (hk : kd c = 0 → 3 ≤ j ∧ j ≤ 4) (h : Agr M c j s) : Same (up2 M c j v) (up2 s c j v) := by
  refine ⟨?_, ?_⟩
  · funext b q
    by_cases hca : isCa b q = true
    · simp [pr, hca]
    · have hca2 : isCa b q = false := by simpa using hca
      simp only [pr, hca2]
      by_cases e : b = c
      · subst e
        rw [up2_same, up2_same]
        by_cases e2 : q = j
        · subst e2; simp [upd]
        · simp [upd, e2, h.2 b q (fun z => e2 z.2) hca2]
      · rw [up2_ne _ _ _ e, up2_ne _ _ _ e]
        simp [h.2 b q (fun z => e z.1) hca2]
  · intro b hb
    by_cases e : b = c
    · subst e
      have hj := hk hb
      have := h.1 b hb
      rw [up2_same]
      simpa [upd, show (5 : Nat) ≠ j by omega, show (6 : Nat) ≠ j by omega, show (0 : Nat) ≠ j by omega, show (1 : Nat) ≠ j by omega, show (2 : Nat) ≠ j by omega] using this
    · rw [up2_ne _ _ _ e]
      exact h.1 b hb
theorem Agr.PO {M s : Mem} {c j n : Nat} (h : Agr M c j s) (hp : PO M 25 n) (h1 : ¬ (25 = c ∧ 3 = j)) (h2 : s 26 0 ≠ -1) : PO s 25 n := ⟨hp.1, by rw [h.2 25 3 h1 (by decide)]; exact hp.2.1, hp.2.2.1, h2, h.1⟩
theorem up_QS {mem m' : Mem} {n c j : Nat} {v : Int32} (hn : n ≤ 8) (hc : 25 ≤ c ∧ c < 37) (h : Same (up2 (becMem mem 25 1 n) c j v) m') : QS mem m' := QS.of h (fun a ha => by rw [up2_ne _ _ _ (by omega), bec_o _ (by omega) hn])
theorem m1_sub {i : Nat} (h : i < 20) : nI (20 - i) + Int32.ofInt (-1) = nI (20 - (i + 1)) := by
  rw [show 20 - i = (20 - (i + 1)) + 1 by omega]
  exact pk_m1 _
set_option maxHeartbeats 4000000 in
theorem c5_mostHands {n : Nat} {mem : Mem} (h : PO mem 1 n) (f : Int32) : CnI mX5_mostHands [.ref 0, .int f] mem (fun x m' => (inR f 0 (nI n - 1) = 0 ∧ x = -1000001 ∧ m' = fnd mem 0) ∨ (∃ r, r < n ∧ f = nI r ∧ ∃ y, Fst (fun z => ¬ bitI (lbS (DP (up2 (becMem mem 25 1 n) (28 + r) 2 (nI (20 - z))) 25) 1000000 n).1 f = 0) 0 19 y ∧ ((y ≤ 19 ∧ x = nI (20 - y) ∧ QS mem m') ∨ (y = 20 ∧ x = -1000004 ∧ (∃ m2, QS mem m2 ∧ m' = fnd m2 3))))) := by
  refine Cn.of (ls := [some (.ref 0), some (.int f), none]) (by decide) rfl (Nat.le_of_ble_eq_true rfl) ?_
  refine w_aload_n (i := 0) (n' := 1) dX5_mostHands_0 rfl rfl rfl ?_
  refine w_get (ci := 5) (j := 0) (n' := 4) dX5_mostHands_1 rfl fRX5_10 (Nat.le_of_ble_eq_true rfl) (Nat.le_of_ble_eq_true rfl) rfl rfl ?_
  refine w_iload_n (i := 1) (n' := 5) dX5_mostHands_4 rfl rfl rfl ?_
  refine v_E (ci := 1) (n' := 8) dX5_mostHands_5 rfl lRX5_78 okX1_hasFarm voX1_hasFarm ⟨⟨Nat.le_of_ble_eq_true rfl, Nat.le_of_ble_eq_true rfl⟩, Nat.le_of_ble_eq_true rfl, Nat.le_of_ble_eq_true rfl⟩ (c_hasFarm rfl _ _) rfl rfl (Nat.le_of_ble_eq_true rfl) rfl (Nat.le_of_ble_eq_true rfl) rfl ?_
  refine w_if_ne (n' := 11) (tgt := 17) dX5_mostHands_8 rfl rfl (fun h8 => ?_) (fun h8 => ?_)
  · obtain ⟨r, hi1, hi2⟩ := hasF_of (n := n) (by have := h.2.2.1; omega) (by rw [← h.2.1]; exact h8)
    refine w_aload_n (i := 0) (n' := 18) dX5_mostHands_17 rfl rfl rfl ?_
    refine w_get (ci := 5) (j := 2) (n' := 21) dX5_mostHands_18 rfl fRX5_19 (Nat.le_of_ble_eq_true rfl) (Nat.le_of_ble_eq_true rfl) rfl rfl ?_
    refine w_aload_n (i := 0) (n' := 22) dX5_mostHands_21 rfl rfl rfl ?_
    refine w_get (ci := 5) (j := 0) (n' := 25) dX5_mostHands_22 rfl fRX5_10 (Nat.le_of_ble_eq_true rfl) (Nat.le_of_ble_eq_true rfl) rfl rfl ?_
    refine v_E (ci := 1) (n' := 28) dX5_mostHands_25 rfl lRX5_151 okX1_becomes voX1_becomes ⟨⟨Nat.le_of_ble_eq_true rfl, Nat.le_of_ble_eq_true rfl⟩, Nat.le_of_ble_eq_true rfl, Nat.le_of_ble_eq_true rfl⟩ (c_becomes (k := 25) rfl h.N (by decide)) rfl rfl (Nat.le_of_ble_eq_true rfl) rfl (Nat.le_of_ble_eq_true rfl) rfl ?_
    refine w_gets (t := 1) (n' := 31) dX5_mostHands_28 rfl fRX5_163 (Nat.le_of_ble_eq_true rfl) ?_
    refine w_iconst (v := 2) (n' := 32) dX5_mostHands_31 rfl rfl ?_
    refine w_ialdV (t := 1) (n := 2) (v := 20) (n' := 33) dX5_mostHands_32 rfl (Nat.le_of_ble_eq_true rfl) (by decide) (by decide) rfl ?_
    refine w_istore_n (i := 2) (n' := 34) (ls' := [_, _, _]) dX5_mostHands_33 rfl rfl (Nat.le_of_ble_eq_true rfl) rfl rfl ?_
    have L : ∀ (i : Nat) (s : Mem), i ≤ 20 → ((Agr (becMem mem 25 1 n) (28 + r) 2 s ∧ QS mem s) ∧ ∀ z, z < i → bitI (lbS (DP (up2 (becMem mem 25 1 n) (28 + r) 2 (nI (20 - z))) 25) 1000000 n).1 f = 0) → Wm mX5_mostHands (zM mX5_mostHands (fun r m' => ∃ x, r = some (.int x) ∧ (fun x m' => (inR f 0 (nI n - 1) = 0 ∧ x = -1000001 ∧ m' = fnd mem 0) ∨ (∃ r, r < n ∧ f = nI r ∧ ∃ y, Fst (fun z => ¬ bitI (lbS (DP (up2 (becMem mem 25 1 n) (28 + r) 2 (nI (20 - z))) 25) 1000000 n).1 f = 0) 0 19 y ∧ ((y ≤ 19 ∧ x = nI (20 - y) ∧ QS mem m') ∨ (y = 20 ∧ x = -1000004 ∧ (∃ m2, QS mem m2 ∧ m' = fnd m2 3))))) x m')) 34 [some (.ref 0), some (.int f), some (.int (nI (20 - i)))] [] s := by
      refine for_ind 20 ?_
      rintro i s hi ⟨⟨h1, h1q⟩, h2⟩ ih
      refine w_iload_n (i := 2) (n' := 35) dX5_mostHands_34 rfl rfl rfl ?_
      refine w_gets (t := 0) (n' := 38) dX5_mostHands_35 rfl fRX5_166 (Nat.le_of_ble_eq_true rfl) ?_
      refine w_iconst (v := 2) (n' := 39) dX5_mostHands_38 rfl rfl ?_
      refine w_ialdV (t := 0) (n := 2) (v := 1) (n' := 40) dX5_mostHands_39 rfl (Nat.le_of_ble_eq_true rfl) (by decide) (by decide) rfl ?_
      refine w_icmp_lt (n' := 43) (tgt := 76) dX5_mostHands_40 rfl rfl (fun h40 => ?_) (fun h40 => ?_)
      · have hin : i = 20 := by
          rcases Nat.lt_or_ge i 20 with q | q
          · exact absurd h40 (nI_nlt (a := 20 - i) (b := 1) (by omega) (by omega))
          · omega
        subst hin
        refine w_aload_n (i := 0) (n' := 77) dX5_mostHands_76 rfl rfl rfl ?_
        refine w_iconst (v := 3) (n' := 78) dX5_mostHands_77 rfl rfl ?_
        refine v_E (ci := 5) (n' := 81) dX5_mostHands_78 rfl lRX5_57 okX5_finding voX5_finding ⟨⟨Nat.le_of_ble_eq_true rfl, Nat.le_of_ble_eq_true rfl⟩, Nat.le_of_ble_eq_true rfl, Nat.le_of_ble_eq_true rfl⟩ (c_finding 3 _ (by decide) (by decide) _) rfl rfl (Nat.le_of_ble_eq_true rfl) rfl (Nat.le_of_ble_eq_true rfl) rfl ?_
        exact w_iret dX5_mostHands_81 rfl ⟨_, rfl, Or.inr ⟨r, hi1, hi2, 20, ⟨Nat.zero_le _, by omega, fun z _ hz q => q (h2 z hz), fun hh => absurd hh (by decide)⟩, Or.inr ⟨rfl, rfl, _, h1q, rfl⟩⟩⟩
      · have hlt : i < 20 := by
          rcases Nat.lt_or_ge i 20 with q | q
          · exact q
          · exact absurd (by rw [show 20 - i = 0 by omega]; decide) h40
        refine w_aload_n (i := 0) (n' := 44) dX5_mostHands_43 rfl rfl rfl ?_
        refine w_get (ci := 5) (j := 2) (n' := 47) dX5_mostHands_44 rfl fRX5_19 (Nat.le_of_ble_eq_true rfl) (Nat.le_of_ble_eq_true rfl) rfl rfl ?_
        refine w_get (ci := 1) (j := 1) (n' := 50) dX5_mostHands_47 rfl fRX5_82 (Nat.le_of_ble_eq_true rfl) (Nat.le_of_ble_eq_true rfl) rfl rfl ?_
        refine w_iload_n (i := 1) (n' := 51) dX5_mostHands_50 rfl rfl rfl ?_
        refine w_aaldF (n := r) (n' := 52) dX5_mostHands_51 rfl rfl hi2 (show r < 8 by have := h.2.2.1; omega) ?_
        refine w_iconst (v := 2) (n' := 53) dX5_mostHands_52 rfl rfl ?_
        refine w_iload_n (i := 2) (n' := 54) dX5_mostHands_53 rfl rfl rfl ?_
        refine v_E (ci := 0) (n' := 57) dX5_mostHands_54 rfl lRX5_103 okX0_alter voX0_alter ⟨⟨Nat.le_of_ble_eq_true rfl, Nat.le_of_ble_eq_true rfl⟩, Nat.le_of_ble_eq_true rfl, Nat.le_of_ble_eq_true rfl⟩ (c_alter (show kd (28 + r) = 0 from (kPa (k := 25) rfl).2.2.1 r (by have := h.2.2.1; omega)) _ _ _) rfl rfl (Nat.le_of_ble_eq_true rfl) (show kd (28 + r) = 0 from (kPa (k := 25) rfl).2.2.1 r (by have := h.2.2.1; omega)) (Nat.le_of_ble_eq_true rfl) rfl ?_
        have s54 : Same (up2 (becMem mem 25 1 n) (28 + r) 2 (nI (20 - i))) (alterF s (28 + r) 2 (nI (20 - i))) := alt_Same (a := 2) (show kd (28 + r) = 0 from (kPa (k := 25) rfl).2.2.1 r (by have := h.2.2.1; omega)) (by decide) h1
        have hp : PO (alterF s (28 + r) 2 (nI (20 - i))) 25 n := (Agr.of s54).PO (PO_bec (k := 25) rfl h (by decide)) (by omega) (by rw [s54.row (k := 26) (by decide), up2_ne _ _ _ (by omega)]; exact (PO_bec (k := 25) rfl h (by decide)).2.2.2.1)
        refine w_aload_n (i := 0) (n' := 58) dX5_mostHands_57 rfl rfl rfl ?_
        refine w_get (ci := 5) (j := 2) (n' := 61) dX5_mostHands_58 rfl fRX5_19 (Nat.le_of_ble_eq_true rfl) (Nat.le_of_ble_eq_true rfl) rfl rfl ?_
        refine w_iload_n (i := 1) (n' := 62) dX5_mostHands_61 rfl rfl rfl ?_
        refine v_I (ci := 1) (n' := 65) dX5_mostHands_62 rfl lRX5_155 okX1_isLatest voX1_isLatest ⟨⟨Nat.le_of_ble_eq_true rfl, Nat.le_of_ble_eq_true rfl⟩, Nat.le_of_ble_eq_true rfl, Nat.le_of_ble_eq_true rfl⟩ (c_isLatest hp _) rfl rfl (Nat.le_of_ble_eq_true rfl) rfl (Nat.le_of_ble_eq_true rfl) rfl (fun x62 m62 q62 => ?_)
        refine w_if_eq (n' := 68) (tgt := 70) dX5_mostHands_65 rfl rfl (fun h65 => ?_) (fun h65 => ?_)
        · refine w_iinc (n' := 73) (v := nI (20 - (i + 1))) (ls' := [_, _, _]) dX5_mostHands_70 rfl rfl (m1_sub hlt) (Nat.le_of_ble_eq_true rfl) rfl rfl ?_
          refine w_goto (tgt := 34) dX5_mostHands_73 rfl ?_
          exact ih hlt _ ⟨⟨Agr.of (s54.tr q62.2), up_QS h.2.2.1 (by have := h.2.2.1; omega) (s54.tr q62.2)⟩, fun z hz => by
            rcases Nat.lt_or_ge z i with q | q
            · exact h2 z q
            · rw [show z = i by omega, ← s54.DP rfl, ← q62.1]; exact h65⟩
        · refine w_iload_n (i := 2) (n' := 69) dX5_mostHands_68 rfl rfl rfl ?_
          exact w_iret dX5_mostHands_69 rfl ⟨_, rfl, Or.inr ⟨r, hi1, hi2, i, ⟨Nat.zero_le _, by omega, fun z _ hz q => q (h2 z hz), fun _ => by show ¬ bitI _ _ = 0; rw [← s54.DP rfl, ← q62.1]; exact h65⟩, Or.inl ⟨by omega, rfl, up_QS h.2.2.1 (by have := h.2.2.1; omega) (s54.tr q62.2)⟩⟩⟩
    exact L 0 _ (Nat.zero_le _) ⟨⟨Agr.rf (PO_bec (k := 25) rfl h (by decide)).2.2.2.2, tri_QS h.2.2.1 (tri_z h)⟩, fun z hz => absurd hz (by omega)⟩
  · refine w_aload_n (i := 0) (n' := 12) dX5_mostHands_11 rfl rfl rfl ?_
    refine w_iconst (v := 0) (n' := 13) dX5_mostHands_12 rfl rfl ?_
    refine v_E (ci := 5) (n' := 16) dX5_mostHands_13 rfl lRX5_57 okX5_finding voX5_finding ⟨⟨Nat.le_of_ble_eq_true rfl, Nat.le_of_ble_eq_true rfl⟩, Nat.le_of_ble_eq_true rfl, Nat.le_of_ble_eq_true rfl⟩ (c_finding 0 _ (by decide) (by decide) _) rfl rfl (Nat.le_of_ble_eq_true rfl) rfl (Nat.le_of_ble_eq_true rfl) rfl ?_
    exact w_iret dX5_mostHands_16 rfl ⟨_, rfl, Or.inl ⟨by simpa [h.2.1] using h8, rfl, rfl⟩⟩
set_option maxHeartbeats 4000000 in
theorem c5_fewestHands {n : Nat} {mem : Mem} (h : PO mem 1 n) (f : Int32) : CnI mX5_fewestHands [.ref 0, .int f] mem (fun x m' => (inR f 0 (nI n - 1) = 0 ∧ x = -1000001 ∧ m' = fnd mem 0) ∨ (∃ r, r < n ∧ f = nI r ∧ ∃ y, Fst (fun z => ¬ bitI (erS (DP (up2 (becMem mem 25 1 n) (28 + r) 2 (nI z)) 25) n).1 f = 0) 1 20 y ∧ ((y ≤ 20 ∧ x = nI y ∧ QS mem m') ∨ (y = 21 ∧ x = -1000004 ∧ (∃ m2, QS mem m2 ∧ m' = fnd m2 3))))) := by
  refine Cn.of (ls := [some (.ref 0), some (.int f), none]) (by decide) rfl (Nat.le_of_ble_eq_true rfl) ?_
  refine w_aload_n (i := 0) (n' := 1) dX5_fewestHands_0 rfl rfl rfl ?_
  refine w_get (ci := 5) (j := 0) (n' := 4) dX5_fewestHands_1 rfl fRX5_10 (Nat.le_of_ble_eq_true rfl) (Nat.le_of_ble_eq_true rfl) rfl rfl ?_
  refine w_iload_n (i := 1) (n' := 5) dX5_fewestHands_4 rfl rfl rfl ?_
  refine v_E (ci := 1) (n' := 8) dX5_fewestHands_5 rfl lRX5_78 okX1_hasFarm voX1_hasFarm ⟨⟨Nat.le_of_ble_eq_true rfl, Nat.le_of_ble_eq_true rfl⟩, Nat.le_of_ble_eq_true rfl, Nat.le_of_ble_eq_true rfl⟩ (c_hasFarm rfl _ _) rfl rfl (Nat.le_of_ble_eq_true rfl) rfl (Nat.le_of_ble_eq_true rfl) rfl ?_
  refine w_if_ne (n' := 11) (tgt := 17) dX5_fewestHands_8 rfl rfl (fun h8 => ?_) (fun h8 => ?_)
  · obtain ⟨r, hi1, hi2⟩ := hasF_of (n := n) (by have := h.2.2.1; omega) (by rw [← h.2.1]; exact h8)
    refine w_aload_n (i := 0) (n' := 18) dX5_fewestHands_17 rfl rfl rfl ?_
    refine w_get (ci := 5) (j := 2) (n' := 21) dX5_fewestHands_18 rfl fRX5_19 (Nat.le_of_ble_eq_true rfl) (Nat.le_of_ble_eq_true rfl) rfl rfl ?_
    refine w_aload_n (i := 0) (n' := 22) dX5_fewestHands_21 rfl rfl rfl ?_
    refine w_get (ci := 5) (j := 0) (n' := 25) dX5_fewestHands_22 rfl fRX5_10 (Nat.le_of_ble_eq_true rfl) (Nat.le_of_ble_eq_true rfl) rfl rfl ?_
    refine v_E (ci := 1) (n' := 28) dX5_fewestHands_25 rfl lRX5_151 okX1_becomes voX1_becomes ⟨⟨Nat.le_of_ble_eq_true rfl, Nat.le_of_ble_eq_true rfl⟩, Nat.le_of_ble_eq_true rfl, Nat.le_of_ble_eq_true rfl⟩ (c_becomes (k := 25) rfl h.N (by decide)) rfl rfl (Nat.le_of_ble_eq_true rfl) rfl (Nat.le_of_ble_eq_true rfl) rfl ?_
    refine w_gets (t := 0) (n' := 31) dX5_fewestHands_28 rfl fRX5_166 (Nat.le_of_ble_eq_true rfl) ?_
    refine w_iconst (v := 2) (n' := 32) dX5_fewestHands_31 rfl rfl ?_
    refine w_ialdV (t := 0) (n := 2) (v := 1) (n' := 33) dX5_fewestHands_32 rfl (Nat.le_of_ble_eq_true rfl) (by decide) (by decide) rfl ?_
    refine w_istore_n (i := 2) (n' := 34) (ls' := [_, _, _]) dX5_fewestHands_33 rfl rfl (Nat.le_of_ble_eq_true rfl) rfl rfl ?_
    have L : ∀ (i : Nat) (s : Mem), i ≤ 21 → (1 ≤ i ∧ (Agr (becMem mem 25 1 n) (28 + r) 2 s ∧ QS mem s) ∧ ∀ z, 1 ≤ z → z < i → bitI (erS (DP (up2 (becMem mem 25 1 n) (28 + r) 2 (nI z)) 25) n).1 f = 0) → Wm mX5_fewestHands (zM mX5_fewestHands (fun r m' => ∃ x, r = some (.int x) ∧ (fun x m' => (inR f 0 (nI n - 1) = 0 ∧ x = -1000001 ∧ m' = fnd mem 0) ∨ (∃ r, r < n ∧ f = nI r ∧ ∃ y, Fst (fun z => ¬ bitI (erS (DP (up2 (becMem mem 25 1 n) (28 + r) 2 (nI z)) 25) n).1 f = 0) 1 20 y ∧ ((y ≤ 20 ∧ x = nI y ∧ QS mem m') ∨ (y = 21 ∧ x = -1000004 ∧ (∃ m2, QS mem m2 ∧ m' = fnd m2 3))))) x m')) 34 [some (.ref 0), some (.int f), some (.int (nI i))] [] s := by
      refine for_ind 21 ?_
      rintro i s hi ⟨h0, ⟨h1, h1q⟩, h2⟩ ih
      refine w_iload_n (i := 2) (n' := 35) dX5_fewestHands_34 rfl rfl rfl ?_
      refine w_gets (t := 1) (n' := 38) dX5_fewestHands_35 rfl fRX5_163 (Nat.le_of_ble_eq_true rfl) ?_
      refine w_iconst (v := 2) (n' := 39) dX5_fewestHands_38 rfl rfl ?_
      refine w_ialdV (t := 1) (n := 2) (v := 20) (n' := 40) dX5_fewestHands_39 rfl (Nat.le_of_ble_eq_true rfl) (by decide) (by decide) rfl ?_
      refine w_icmp_gt (n' := 43) (tgt := 79) dX5_fewestHands_40 rfl rfl (fun h40 => ?_) (fun h40 => ?_)
      · have hin : i = 21 := by
          rcases Nat.lt_or_ge i 21 with q | q
          · exact absurd h40 (nI_nlt (a := 20) (b := i) (by omega) (by decide))
          · omega
        subst hin
        refine w_aload_n (i := 0) (n' := 80) dX5_fewestHands_79 rfl rfl rfl ?_
        refine w_iconst (v := 3) (n' := 81) dX5_fewestHands_80 rfl rfl ?_
        refine v_E (ci := 5) (n' := 84) dX5_fewestHands_81 rfl lRX5_57 okX5_finding voX5_finding ⟨⟨Nat.le_of_ble_eq_true rfl, Nat.le_of_ble_eq_true rfl⟩, Nat.le_of_ble_eq_true rfl, Nat.le_of_ble_eq_true rfl⟩ (c_finding 3 _ (by decide) (by decide) _) rfl rfl (Nat.le_of_ble_eq_true rfl) rfl (Nat.le_of_ble_eq_true rfl) rfl ?_
        exact w_iret dX5_fewestHands_84 rfl ⟨_, rfl, Or.inr ⟨r, hi1, hi2, 21, ⟨by omega, by omega, fun z hz0 hz q => q (h2 z hz0 hz), fun hh => absurd hh (by decide)⟩, Or.inr ⟨rfl, rfl, _, h1q, rfl⟩⟩⟩
      · have hlt : i < 21 := by
          rcases Nat.lt_or_ge i 21 with q | q
          · exact q
          · exact absurd (nI_lt (a := 20) (b := i) (by omega) (by omega)) h40
        refine w_aload_n (i := 0) (n' := 44) dX5_fewestHands_43 rfl rfl rfl ?_
        refine w_get (ci := 5) (j := 2) (n' := 47) dX5_fewestHands_44 rfl fRX5_19 (Nat.le_of_ble_eq_true rfl) (Nat.le_of_ble_eq_true rfl) rfl rfl ?_
        refine w_get (ci := 1) (j := 1) (n' := 50) dX5_fewestHands_47 rfl fRX5_82 (Nat.le_of_ble_eq_true rfl) (Nat.le_of_ble_eq_true rfl) rfl rfl ?_
        refine w_iload_n (i := 1) (n' := 51) dX5_fewestHands_50 rfl rfl rfl ?_
        refine w_aaldF (n := r) (n' := 52) dX5_fewestHands_51 rfl rfl hi2 (show r < 8 by have := h.2.2.1; omega) ?_
        refine w_iconst (v := 2) (n' := 53) dX5_fewestHands_52 rfl rfl ?_
        refine w_iload_n (i := 2) (n' := 54) dX5_fewestHands_53 rfl rfl rfl ?_
        refine v_E (ci := 0) (n' := 57) dX5_fewestHands_54 rfl lRX5_103 okX0_alter voX0_alter ⟨⟨Nat.le_of_ble_eq_true rfl, Nat.le_of_ble_eq_true rfl⟩, Nat.le_of_ble_eq_true rfl, Nat.le_of_ble_eq_true rfl⟩ (c_alter (show kd (28 + r) = 0 from (kPa (k := 25) rfl).2.2.1 r (by have := h.2.2.1; omega)) _ _ _) rfl rfl (Nat.le_of_ble_eq_true rfl) (show kd (28 + r) = 0 from (kPa (k := 25) rfl).2.2.1 r (by have := h.2.2.1; omega)) (Nat.le_of_ble_eq_true rfl) rfl ?_
        have s54 : Same (up2 (becMem mem 25 1 n) (28 + r) 2 (nI i)) (alterF s (28 + r) 2 (nI i)) := alt_Same (a := 2) (show kd (28 + r) = 0 from (kPa (k := 25) rfl).2.2.1 r (by have := h.2.2.1; omega)) (by decide) h1
        have hp : PO (alterF s (28 + r) 2 (nI i)) 25 n := (Agr.of s54).PO (PO_bec (k := 25) rfl h (by decide)) (by omega) (by rw [s54.row (k := 26) (by decide), up2_ne _ _ _ (by omega)]; exact (PO_bec (k := 25) rfl h (by decide)).2.2.2.1)
        refine w_aload_n (i := 0) (n' := 58) dX5_fewestHands_57 rfl rfl rfl ?_
        refine w_get (ci := 5) (j := 2) (n' := 61) dX5_fewestHands_58 rfl fRX5_19 (Nat.le_of_ble_eq_true rfl) (Nat.le_of_ble_eq_true rfl) rfl rfl ?_
        refine v_I (ci := 1) (n' := 64) dX5_fewestHands_61 rfl lRX5_113 okX1_earliest voX1_earliest ⟨⟨Nat.le_of_ble_eq_true rfl, Nat.le_of_ble_eq_true rfl⟩, Nat.le_of_ble_eq_true rfl, Nat.le_of_ble_eq_true rfl⟩ (c_earliest hp) rfl rfl (Nat.le_of_ble_eq_true rfl) rfl (Nat.le_of_ble_eq_true rfl) rfl (fun x61 m61 q61 => ?_)
        refine w_iload_n (i := 1) (n' := 65) dX5_fewestHands_64 rfl rfl rfl ?_
        refine s_E (n' := 68) dX5_fewestHands_65 rfl lRX5_169 okX5_isIn stX5_isIn ⟨⟨Nat.le_of_ble_eq_true rfl, Nat.le_of_ble_eq_true rfl⟩, Nat.le_of_ble_eq_true rfl, Nat.le_of_ble_eq_true rfl⟩ (c_isIn _ _ _) rfl rfl (Nat.le_of_ble_eq_true rfl) ?_
        refine w_if_eq (n' := 71) (tgt := 73) dX5_fewestHands_68 rfl rfl (fun h68 => ?_) (fun h68 => ?_)
        · refine w_iinc (n' := 76) (v := nI (i + 1)) (ls' := [_, _, _]) dX5_fewestHands_73 rfl rfl (nI_1 i) (Nat.le_of_ble_eq_true rfl) rfl rfl ?_
          refine w_goto (tgt := 34) dX5_fewestHands_76 rfl ?_
          exact ih hlt _ ⟨by omega, ⟨Agr.of (s54.tr q61.2), up_QS h.2.2.1 (by have := h.2.2.1; omega) (s54.tr q61.2)⟩, fun z hz0 hz => by
            rcases Nat.lt_or_ge z i with q | q
            · exact h2 z hz0 q
            · rw [show z = i by omega, ← s54.DP rfl, ← q61.1]; exact h68⟩
        · refine w_iload_n (i := 2) (n' := 72) dX5_fewestHands_71 rfl rfl rfl ?_
          exact w_iret dX5_fewestHands_72 rfl ⟨_, rfl, Or.inr ⟨r, hi1, hi2, i, ⟨h0, by omega, fun z hz0 hz q => q (h2 z hz0 hz), fun _ => by show ¬ bitI _ _ = 0; rw [← s54.DP rfl, ← q61.1]; exact h68⟩, Or.inl ⟨by omega, rfl, up_QS h.2.2.1 (by have := h.2.2.1; omega) (s54.tr q61.2)⟩⟩⟩
    exact L 1 _ (by omega) ⟨by omega, ⟨Agr.rf (PO_bec (k := 25) rfl h (by decide)).2.2.2.2, tri_QS h.2.2.1 (tri_z h)⟩, fun z hz hz2 => absurd hz2 (by omega)⟩
  · refine w_aload_n (i := 0) (n' := 12) dX5_fewestHands_11 rfl rfl rfl ?_
    refine w_iconst (v := 0) (n' := 13) dX5_fewestHands_12 rfl rfl ?_
    refine v_E (ci := 5) (n' := 16) dX5_fewestHands_13 rfl lRX5_57 okX5_finding voX5_finding ⟨⟨Nat.le_of_ble_eq_true rfl, Nat.le_of_ble_eq_true rfl⟩, Nat.le_of_ble_eq_true rfl, Nat.le_of_ble_eq_true rfl⟩ (c_finding 0 _ (by decide) (by decide) _) rfl rfl (Nat.le_of_ble_eq_true rfl) rfl (Nat.le_of_ble_eq_true rfl) rfl ?_
    exact w_iret dX5_fewestHands_16 rfl ⟨_, rfl, Or.inl ⟨by simpa [h.2.1] using h8, rfl, rfl⟩⟩
set_option maxHeartbeats 4000000 in
theorem c5_kinds {n : Nat} {mem : Mem} (h : PO mem 1 n) (f : Int32) : CnI mX5_kinds [.ref 0, .int f] mem (fun x m' => (inR f 0 (nI n - 1) = 0 ∧ x = -1000001 ∧ m' = fnd mem 0) ∨ (∃ r, r < n ∧ f = nI r ∧ x = bitT (fun z => decide (¬ bitI (lbS (DP (up2 (becMem mem 25 1 n) (28 + r) 0 (nI z)) 25) 1000000 n).1 f = 0)) 7 ∧ QS mem m')) := by
  refine Cn.of (ls := [some (.ref 0), some (.int f), none, none]) (by decide) rfl (Nat.le_of_ble_eq_true rfl) ?_
  refine w_aload_n (i := 0) (n' := 1) dX5_kinds_0 rfl rfl rfl ?_
  refine w_get (ci := 5) (j := 0) (n' := 4) dX5_kinds_1 rfl fRX5_10 (Nat.le_of_ble_eq_true rfl) (Nat.le_of_ble_eq_true rfl) rfl rfl ?_
  refine w_iload_n (i := 1) (n' := 5) dX5_kinds_4 rfl rfl rfl ?_
  refine v_E (ci := 1) (n' := 8) dX5_kinds_5 rfl lRX5_78 okX1_hasFarm voX1_hasFarm ⟨⟨Nat.le_of_ble_eq_true rfl, Nat.le_of_ble_eq_true rfl⟩, Nat.le_of_ble_eq_true rfl, Nat.le_of_ble_eq_true rfl⟩ (c_hasFarm rfl _ _) rfl rfl (Nat.le_of_ble_eq_true rfl) rfl (Nat.le_of_ble_eq_true rfl) rfl ?_
  refine w_if_ne (n' := 11) (tgt := 17) dX5_kinds_8 rfl rfl (fun h8 => ?_) (fun h8 => ?_)
  · obtain ⟨r, hi1, hi2⟩ := hasF_of (n := n) (by have := h.2.2.1; omega) (by rw [← h.2.1]; exact h8)
    refine w_aload_n (i := 0) (n' := 18) dX5_kinds_17 rfl rfl rfl ?_
    refine w_get (ci := 5) (j := 2) (n' := 21) dX5_kinds_18 rfl fRX5_19 (Nat.le_of_ble_eq_true rfl) (Nat.le_of_ble_eq_true rfl) rfl rfl ?_
    refine w_aload_n (i := 0) (n' := 22) dX5_kinds_21 rfl rfl rfl ?_
    refine w_get (ci := 5) (j := 0) (n' := 25) dX5_kinds_22 rfl fRX5_10 (Nat.le_of_ble_eq_true rfl) (Nat.le_of_ble_eq_true rfl) rfl rfl ?_
    refine v_E (ci := 1) (n' := 28) dX5_kinds_25 rfl lRX5_151 okX1_becomes voX1_becomes ⟨⟨Nat.le_of_ble_eq_true rfl, Nat.le_of_ble_eq_true rfl⟩, Nat.le_of_ble_eq_true rfl, Nat.le_of_ble_eq_true rfl⟩ (c_becomes (k := 25) rfl h.N (by decide)) rfl rfl (Nat.le_of_ble_eq_true rfl) rfl (Nat.le_of_ble_eq_true rfl) rfl ?_
    refine w_iconst (v := 0) (n' := 29) dX5_kinds_28 rfl rfl ?_
    refine w_istore_n (i := 2) (n' := 30) (ls' := [_, _, _, _]) dX5_kinds_29 rfl rfl (Nat.le_of_ble_eq_true rfl) rfl rfl ?_
    refine w_iconst (v := 0) (n' := 31) dX5_kinds_30 rfl rfl ?_
    refine w_istore_n (i := 3) (n' := 32) (ls' := [_, _, _, _]) dX5_kinds_31 rfl rfl (Nat.le_of_ble_eq_true rfl) rfl rfl ?_
    have L : ∀ (i : Nat) (s0 : Int32 × Mem), i ≤ 7 → ((Agr (becMem mem 25 1 n) (28 + r) 0 s0.2 ∧ QS mem s0.2) ∧ s0.1 = bitT (fun z => decide (¬ bitI (lbS (DP (up2 (becMem mem 25 1 n) (28 + r) 0 (nI z)) 25) 1000000 n).1 f = 0)) i) → Wm mX5_kinds (zM mX5_kinds (fun r m' => ∃ x, r = some (.int x) ∧ (fun x m' => (inR f 0 (nI n - 1) = 0 ∧ x = -1000001 ∧ m' = fnd mem 0) ∨ (∃ r, r < n ∧ f = nI r ∧ x = bitT (fun z => decide (¬ bitI (lbS (DP (up2 (becMem mem 25 1 n) (28 + r) 0 (nI z)) 25) 1000000 n).1 f = 0)) 7 ∧ QS mem m')) x m')) 32 [some (.ref 0), some (.int f), some (.int s0.1), some (.int (nI i))] [] s0.2 := by
      refine for_ind 7 ?_
      rintro i ⟨b, s⟩ hi ⟨⟨h1, h1q⟩, h2⟩ ih
      dsimp only at h1 h1q h2 ih ⊢
      refine w_iload_n (i := 3) (n' := 33) dX5_kinds_32 rfl rfl rfl ?_
      refine w_bipush (v := 7) (n' := 35) dX5_kinds_33 rfl (by decide) ?_
      refine w_icmp_ge (n' := 38) (tgt := 75) dX5_kinds_35 rfl rfl (fun h35 => ?_) (fun h35 => ?_)
      · have hin : i = 7 := by
          rcases Nat.lt_or_ge i 7 with q | q
          · exact absurd h35 (nI_ge (a := i) (b := 7) q (by omega))
          · omega
        subst hin
        refine w_iload_n (i := 2) (n' := 76) dX5_kinds_75 rfl rfl rfl ?_
        exact w_iret dX5_kinds_76 rfl ⟨_, rfl, Or.inr ⟨r, hi1, hi2, h2, h1q⟩⟩
      · have hlt : i < 7 := by
          rcases Nat.lt_or_ge i 7 with q | q
          · exact q
          · exact absurd (nI_le (a := 7) (b := i) q (by omega)) h35
        refine w_aload_n (i := 0) (n' := 39) dX5_kinds_38 rfl rfl rfl ?_
        refine w_get (ci := 5) (j := 2) (n' := 42) dX5_kinds_39 rfl fRX5_19 (Nat.le_of_ble_eq_true rfl) (Nat.le_of_ble_eq_true rfl) rfl rfl ?_
        refine w_get (ci := 1) (j := 1) (n' := 45) dX5_kinds_42 rfl fRX5_82 (Nat.le_of_ble_eq_true rfl) (Nat.le_of_ble_eq_true rfl) rfl rfl ?_
        refine w_iload_n (i := 1) (n' := 46) dX5_kinds_45 rfl rfl rfl ?_
        refine w_aaldF (n := r) (n' := 47) dX5_kinds_46 rfl rfl hi2 (show r < 8 by have := h.2.2.1; omega) ?_
        refine w_iconst (v := 0) (n' := 48) dX5_kinds_47 rfl rfl ?_
        refine w_iload_n (i := 3) (n' := 49) dX5_kinds_48 rfl rfl rfl ?_
        refine v_E (ci := 0) (n' := 52) dX5_kinds_49 rfl lRX5_103 okX0_alter voX0_alter ⟨⟨Nat.le_of_ble_eq_true rfl, Nat.le_of_ble_eq_true rfl⟩, Nat.le_of_ble_eq_true rfl, Nat.le_of_ble_eq_true rfl⟩ (c_alter (show kd (28 + r) = 0 from (kPa (k := 25) rfl).2.2.1 r (by have := h.2.2.1; omega)) _ _ _) rfl rfl (Nat.le_of_ble_eq_true rfl) (show kd (28 + r) = 0 from (kPa (k := 25) rfl).2.2.1 r (by have := h.2.2.1; omega)) (Nat.le_of_ble_eq_true rfl) rfl ?_
        have s49 : Same (up2 (becMem mem 25 1 n) (28 + r) 0 (nI i)) (alterF s (28 + r) 0 (nI i)) := alt_Same (a := 0) (show kd (28 + r) = 0 from (kPa (k := 25) rfl).2.2.1 r (by have := h.2.2.1; omega)) (by decide) h1
        have hp : PO (alterF s (28 + r) 0 (nI i)) 25 n := (Agr.of s49).PO (PO_bec (k := 25) rfl h (by decide)) (by omega) (by rw [s49.row (k := 26) (by decide), up2_ne _ _ _ (by omega)]; exact (PO_bec (k := 25) rfl h (by decide)).2.2.2.1)
        refine w_aload_n (i := 0) (n' := 53) dX5_kinds_52 rfl rfl rfl ?_
        refine w_get (ci := 5) (j := 2) (n' := 56) dX5_kinds_53 rfl fRX5_19 (Nat.le_of_ble_eq_true rfl) (Nat.le_of_ble_eq_true rfl) rfl rfl ?_
        refine w_iload_n (i := 1) (n' := 57) dX5_kinds_56 rfl rfl rfl ?_
        refine v_I (ci := 1) (n' := 60) dX5_kinds_57 rfl lRX5_155 okX1_isLatest voX1_isLatest ⟨⟨Nat.le_of_ble_eq_true rfl, Nat.le_of_ble_eq_true rfl⟩, Nat.le_of_ble_eq_true rfl, Nat.le_of_ble_eq_true rfl⟩ (c_isLatest hp _) rfl rfl (Nat.le_of_ble_eq_true rfl) rfl (Nat.le_of_ble_eq_true rfl) rfl (fun x57 m57 q57 => ?_)
        refine w_if_eq (n' := 63) (tgt := 69) dX5_kinds_60 rfl rfl (fun h60 => ?_) (fun h60 => ?_)
        · refine w_iinc (n' := 72) (v := nI (i + 1)) (ls' := [_, _, _, _]) dX5_kinds_69 rfl rfl (nI_1 i) (Nat.le_of_ble_eq_true rfl) rfl rfl ?_
          refine w_goto (tgt := 32) dX5_kinds_72 rfl ?_
          exact ih hlt (_, _) ⟨⟨Agr.of (s49.tr q57.2), up_QS h.2.2.1 (by have := h.2.2.1; omega) (s49.tr q57.2)⟩, by show _ = bitT _ (i + 1); rw [bitT, if_neg (by rw [decide_eq_true_iff]; intro q; apply q; rw [← s49.DP rfl, ← q57.1]; exact h60), h2]⟩
        · refine w_iload_n (i := 2) (n' := 64) dX5_kinds_63 rfl rfl rfl ?_
          refine w_iconst (v := 1) (n' := 65) dX5_kinds_64 rfl rfl ?_
          refine w_iload_n (i := 3) (n' := 66) dX5_kinds_65 rfl rfl rfl ?_
          refine w_ishl (n' := 67) dX5_kinds_66 rfl ?_
          refine w_ior (n' := 68) dX5_kinds_67 rfl ?_
          refine w_istore_n (i := 2) (n' := 69) (ls' := [_, _, _, _]) dX5_kinds_68 rfl rfl (Nat.le_of_ble_eq_true rfl) rfl rfl ?_
          refine w_iinc (n' := 72) (v := nI (i + 1)) (ls' := [_, _, _, _]) dX5_kinds_69 rfl rfl (nI_1 i) (Nat.le_of_ble_eq_true rfl) rfl rfl ?_
          refine w_goto (tgt := 32) dX5_kinds_72 rfl ?_
          exact ih hlt (_, _) ⟨⟨Agr.of (s49.tr q57.2), up_QS h.2.2.1 (by have := h.2.2.1; omega) (s49.tr q57.2)⟩, by show _ = bitT _ (i + 1); rw [bitT, if_pos (by rw [decide_eq_true_iff, ← s49.DP rfl, ← q57.1]; exact h60), h2]⟩
    exact L 0 (0, _) (Nat.zero_le _) ⟨⟨Agr.rf (PO_bec (k := 25) rfl h (by decide)).2.2.2.2, tri_QS h.2.2.1 (tri_z h)⟩, rfl⟩
  · refine w_aload_n (i := 0) (n' := 12) dX5_kinds_11 rfl rfl rfl ?_
    refine w_iconst (v := 0) (n' := 13) dX5_kinds_12 rfl rfl ?_
    refine v_E (ci := 5) (n' := 16) dX5_kinds_13 rfl lRX5_57 okX5_finding voX5_finding ⟨⟨Nat.le_of_ble_eq_true rfl, Nat.le_of_ble_eq_true rfl⟩, Nat.le_of_ble_eq_true rfl, Nat.le_of_ble_eq_true rfl⟩ (c_finding 0 _ (by decide) (by decide) _) rfl rfl (Nat.le_of_ble_eq_true rfl) rfl (Nat.le_of_ble_eq_true rfl) rfl ?_
    exact w_iret dX5_kinds_16 rfl ⟨_, rfl, Or.inl ⟨by simpa [h.2.1] using h8, rfl, rfl⟩⟩
set_option maxHeartbeats 4000000 in
theorem c5_wetFor {n : Nat} {mem : Mem} (h : PO mem 1 n) (f : Int32) : CnI mX5_wetFor [.ref 0, .int f] mem (fun x m' => (inR f 0 (nI n - 1) = 0 ∧ x = -1000001 ∧ m' = fnd mem 0) ∨ (∃ r, r < n ∧ f = nI r ∧ ∃ y, Fst (fun z => ¬ bitI (lbS (DP (up2 (becMem mem 25 1 n) 26 0 (nI z)) 25) 1000000 n).1 f = 0) 0 99 y ∧ ((y ≤ 99 ∧ x = nI y ∧ QS mem m') ∨ (y = 100 ∧ x = -1000004 ∧ (∃ m2, QS mem m2 ∧ m' = fnd m2 3))))) := by
  refine Cn.of (ls := [some (.ref 0), some (.int f), none]) (by decide) rfl (Nat.le_of_ble_eq_true rfl) ?_
  refine w_aload_n (i := 0) (n' := 1) dX5_wetFor_0 rfl rfl rfl ?_
  refine w_get (ci := 5) (j := 0) (n' := 4) dX5_wetFor_1 rfl fRX5_10 (Nat.le_of_ble_eq_true rfl) (Nat.le_of_ble_eq_true rfl) rfl rfl ?_
  refine w_iload_n (i := 1) (n' := 5) dX5_wetFor_4 rfl rfl rfl ?_
  refine v_E (ci := 1) (n' := 8) dX5_wetFor_5 rfl lRX5_78 okX1_hasFarm voX1_hasFarm ⟨⟨Nat.le_of_ble_eq_true rfl, Nat.le_of_ble_eq_true rfl⟩, Nat.le_of_ble_eq_true rfl, Nat.le_of_ble_eq_true rfl⟩ (c_hasFarm rfl _ _) rfl rfl (Nat.le_of_ble_eq_true rfl) rfl (Nat.le_of_ble_eq_true rfl) rfl ?_
  refine w_if_ne (n' := 11) (tgt := 17) dX5_wetFor_8 rfl rfl (fun h8 => ?_) (fun h8 => ?_)
  · obtain ⟨r, hi1, hi2⟩ := hasF_of (n := n) (by have := h.2.2.1; omega) (by rw [← h.2.1]; exact h8)
    refine w_aload_n (i := 0) (n' := 18) dX5_wetFor_17 rfl rfl rfl ?_
    refine w_get (ci := 5) (j := 2) (n' := 21) dX5_wetFor_18 rfl fRX5_19 (Nat.le_of_ble_eq_true rfl) (Nat.le_of_ble_eq_true rfl) rfl rfl ?_
    refine w_aload_n (i := 0) (n' := 22) dX5_wetFor_21 rfl rfl rfl ?_
    refine w_get (ci := 5) (j := 0) (n' := 25) dX5_wetFor_22 rfl fRX5_10 (Nat.le_of_ble_eq_true rfl) (Nat.le_of_ble_eq_true rfl) rfl rfl ?_
    refine v_E (ci := 1) (n' := 28) dX5_wetFor_25 rfl lRX5_151 okX1_becomes voX1_becomes ⟨⟨Nat.le_of_ble_eq_true rfl, Nat.le_of_ble_eq_true rfl⟩, Nat.le_of_ble_eq_true rfl, Nat.le_of_ble_eq_true rfl⟩ (c_becomes (k := 25) rfl h.N (by decide)) rfl rfl (Nat.le_of_ble_eq_true rfl) rfl (Nat.le_of_ble_eq_true rfl) rfl ?_
    refine w_iconst (v := 0) (n' := 29) dX5_wetFor_28 rfl rfl ?_
    refine w_istore_n (i := 2) (n' := 30) (ls' := [_, _, _]) dX5_wetFor_29 rfl rfl (Nat.le_of_ble_eq_true rfl) rfl rfl ?_
    have L : ∀ (i : Nat) (s : Mem), i ≤ 100 → ((Agr (becMem mem 25 1 n) 26 0 s ∧ QS mem s) ∧ ∀ z, z < i → bitI (lbS (DP (up2 (becMem mem 25 1 n) 26 0 (nI z)) 25) 1000000 n).1 f = 0) → Wm mX5_wetFor (zM mX5_wetFor (fun r m' => ∃ x, r = some (.int x) ∧ (fun x m' => (inR f 0 (nI n - 1) = 0 ∧ x = -1000001 ∧ m' = fnd mem 0) ∨ (∃ r, r < n ∧ f = nI r ∧ ∃ y, Fst (fun z => ¬ bitI (lbS (DP (up2 (becMem mem 25 1 n) 26 0 (nI z)) 25) 1000000 n).1 f = 0) 0 99 y ∧ ((y ≤ 99 ∧ x = nI y ∧ QS mem m') ∨ (y = 100 ∧ x = -1000004 ∧ (∃ m2, QS mem m2 ∧ m' = fnd m2 3))))) x m')) 30 [some (.ref 0), some (.int f), some (.int (nI i))] [] s := by
      refine for_ind 100 ?_
      rintro i s hi ⟨⟨h1, h1q⟩, h2⟩ ih
      refine w_iload_n (i := 2) (n' := 31) dX5_wetFor_30 rfl rfl rfl ?_
      refine w_bipush (v := 99) (n' := 33) dX5_wetFor_31 rfl (by decide) ?_
      refine w_icmp_gt (n' := 36) (tgt := 65) dX5_wetFor_33 rfl rfl (fun h33 => ?_) (fun h33 => ?_)
      · have hin : i = 100 := by
          rcases Nat.lt_or_ge i 100 with q | q
          · exact absurd h33 (nI_nlt (a := 99) (b := i) (by omega) (by decide))
          · omega
        subst hin
        refine w_aload_n (i := 0) (n' := 66) dX5_wetFor_65 rfl rfl rfl ?_
        refine w_iconst (v := 3) (n' := 67) dX5_wetFor_66 rfl rfl ?_
        refine v_E (ci := 5) (n' := 70) dX5_wetFor_67 rfl lRX5_57 okX5_finding voX5_finding ⟨⟨Nat.le_of_ble_eq_true rfl, Nat.le_of_ble_eq_true rfl⟩, Nat.le_of_ble_eq_true rfl, Nat.le_of_ble_eq_true rfl⟩ (c_finding 3 _ (by decide) (by decide) _) rfl rfl (Nat.le_of_ble_eq_true rfl) rfl (Nat.le_of_ble_eq_true rfl) rfl ?_
        exact w_iret dX5_wetFor_70 rfl ⟨_, rfl, Or.inr ⟨r, hi1, hi2, 100, ⟨Nat.zero_le _, by omega, fun z _ hz q => q (h2 z hz), fun hh => absurd hh (by decide)⟩, Or.inr ⟨rfl, rfl, _, h1q, rfl⟩⟩⟩
      · have hlt : i < 100 := by
          rcases Nat.lt_or_ge i 100 with q | q
          · exact q
          · exact absurd (nI_lt (a := 99) (b := i) (by omega) (by omega)) h33
        refine w_aload_n (i := 0) (n' := 37) dX5_wetFor_36 rfl rfl rfl ?_
        refine w_get (ci := 5) (j := 2) (n' := 40) dX5_wetFor_37 rfl fRX5_19 (Nat.le_of_ble_eq_true rfl) (Nat.le_of_ble_eq_true rfl) rfl rfl ?_
        refine w_get (ci := 1) (j := 0) (n' := 43) dX5_wetFor_40 rfl fRX5_61 (Nat.le_of_ble_eq_true rfl) (Nat.le_of_ble_eq_true rfl) rfl rfl ?_
        refine w_iconst (v := 0) (n' := 44) dX5_wetFor_43 rfl rfl ?_
        refine w_iload_n (i := 2) (n' := 45) dX5_wetFor_44 rfl rfl rfl ?_
        refine w_iast (n := 0) (n' := 46) dX5_wetFor_45 rfl rfl (by decide) (by decide) ?_
        have s45 : Same (up2 (becMem mem 25 1 n) 26 0 (nI i)) (up2 s 26 0 (nI i)) := sto_Same (by decide) (fun q => absurd q (by decide)) h1
        have hp : PO (up2 s 26 0 (nI i)) 25 n := (Agr.of s45).PO (PO_bec (k := 25) rfl h (by decide)) (by omega) (by rw [up2_same]; simp only [upd, if_true]; intro q; exact absurd (congrArg Int32.toInt q) (by rw [nI_toInt (by omega)]; have e : (-1 : Int32).toInt = -1 := (by decide); omega))
        refine w_aload_n (i := 0) (n' := 47) dX5_wetFor_46 rfl rfl rfl ?_
        refine w_get (ci := 5) (j := 2) (n' := 50) dX5_wetFor_47 rfl fRX5_19 (Nat.le_of_ble_eq_true rfl) (Nat.le_of_ble_eq_true rfl) rfl rfl ?_
        refine w_iload_n (i := 1) (n' := 51) dX5_wetFor_50 rfl rfl rfl ?_
        refine v_I (ci := 1) (n' := 54) dX5_wetFor_51 rfl lRX5_155 okX1_isLatest voX1_isLatest ⟨⟨Nat.le_of_ble_eq_true rfl, Nat.le_of_ble_eq_true rfl⟩, Nat.le_of_ble_eq_true rfl, Nat.le_of_ble_eq_true rfl⟩ (c_isLatest hp _) rfl rfl (Nat.le_of_ble_eq_true rfl) rfl (Nat.le_of_ble_eq_true rfl) rfl (fun x51 m51 q51 => ?_)
        refine w_if_eq (n' := 57) (tgt := 59) dX5_wetFor_54 rfl rfl (fun h54 => ?_) (fun h54 => ?_)
        · refine w_iinc (n' := 62) (v := nI (i + 1)) (ls' := [_, _, _]) dX5_wetFor_59 rfl rfl (nI_1 i) (Nat.le_of_ble_eq_true rfl) rfl rfl ?_
          refine w_goto (tgt := 30) dX5_wetFor_62 rfl ?_
          exact ih hlt _ ⟨⟨Agr.of (s45.tr q51.2), up_QS h.2.2.1 (by omega) (s45.tr q51.2)⟩, fun z hz => by
            rcases Nat.lt_or_ge z i with q | q
            · exact h2 z q
            · rw [show z = i by omega, ← s45.DP rfl, ← q51.1]; exact h54⟩
        · refine w_iload_n (i := 2) (n' := 58) dX5_wetFor_57 rfl rfl rfl ?_
          exact w_iret dX5_wetFor_58 rfl ⟨_, rfl, Or.inr ⟨r, hi1, hi2, i, ⟨Nat.zero_le _, by omega, fun z _ hz q => q (h2 z hz), fun _ => by show ¬ bitI _ _ = 0; rw [← s45.DP rfl, ← q51.1]; exact h54⟩, Or.inl ⟨by omega, rfl, up_QS h.2.2.1 (by omega) (s45.tr q51.2)⟩⟩⟩
    exact L 0 _ (Nat.zero_le _) ⟨⟨Agr.rf (PO_bec (k := 25) rfl h (by decide)).2.2.2.2, tri_QS h.2.2.1 (tri_z h)⟩, fun z hz => absurd hz (by omega)⟩
  · refine w_aload_n (i := 0) (n' := 12) dX5_wetFor_11 rfl rfl rfl ?_
    refine w_iconst (v := 0) (n' := 13) dX5_wetFor_12 rfl rfl ?_
    refine v_E (ci := 5) (n' := 16) dX5_wetFor_13 rfl lRX5_57 okX5_finding voX5_finding ⟨⟨Nat.le_of_ble_eq_true rfl, Nat.le_of_ble_eq_true rfl⟩, Nat.le_of_ble_eq_true rfl, Nat.le_of_ble_eq_true rfl⟩ (c_finding 0 _ (by decide) (by decide) _) rfl rfl (Nat.le_of_ble_eq_true rfl) rfl (Nat.le_of_ble_eq_true rfl) rfl ?_
    exact w_iret dX5_wetFor_16 rfl ⟨_, rfl, Or.inl ⟨by simpa [h.2.1] using h8, rfl, rfl⟩⟩
set_option maxHeartbeats 4000000 in
theorem c5_miceFor {n : Nat} {mem : Mem} (h : PO mem 1 n) (f v : Int32) : CnI mX5_miceFor [.ref 0, .int f, .int v] mem (fun x m' => ((inR f (-99) 99 = 0 ∨ inR v 0 1 = 0) ∧ x = -1000001 ∧ m' = fnd mem 0) ∨ (¬ inR f (-99) 99 = 0 ∧ ¬ inR v 0 1 = 0 ∧ ∃ y, Fst (fun z => (if leanM (up2 (becMem mem 25 1 n) 26 1 (nI z)) 25 n < f then (0 : Int32) else 1) = v) 0 99 y ∧ ((y ≤ 99 ∧ x = nI y ∧ QS mem m') ∨ (y = 100 ∧ x = -1000004 ∧ (∃ m2, QS mem m2 ∧ m' = fnd m2 3))))) := by
  refine Cn.of (ls := [some (.ref 0), some (.int f), some (.int v), none]) (by decide) rfl (Nat.le_of_ble_eq_true rfl) ?_
  refine w_iload_n (i := 1) (n' := 1) dX5_miceFor_0 rfl rfl rfl ?_
  refine s_E (n' := 4) dX5_miceFor_1 rfl lRX5_125 okX5_isQuestion stX5_isQuestion ⟨⟨Nat.le_of_ble_eq_true rfl, Nat.le_of_ble_eq_true rfl⟩, Nat.le_of_ble_eq_true rfl, Nat.le_of_ble_eq_true rfl⟩ (c_isQuestion _ _) rfl rfl (Nat.le_of_ble_eq_true rfl) ?_
  refine w_if_eq (n' := 7) (tgt := 16) dX5_miceFor_4 rfl rfl (fun h4 => ?_) (fun h4 => ?_)
  · refine w_aload_n (i := 0) (n' := 17) dX5_miceFor_16 rfl rfl rfl ?_
    refine w_iconst (v := 0) (n' := 18) dX5_miceFor_17 rfl rfl ?_
    refine v_E (ci := 5) (n' := 21) dX5_miceFor_18 rfl lRX5_57 okX5_finding voX5_finding ⟨⟨Nat.le_of_ble_eq_true rfl, Nat.le_of_ble_eq_true rfl⟩, Nat.le_of_ble_eq_true rfl, Nat.le_of_ble_eq_true rfl⟩ (c_finding 0 _ (by decide) (by decide) _) rfl rfl (Nat.le_of_ble_eq_true rfl) rfl (Nat.le_of_ble_eq_true rfl) rfl ?_
    exact w_iret dX5_miceFor_21 rfl ⟨_, rfl, Or.inl ⟨Or.inl h4, rfl, rfl⟩⟩
  · refine w_iload_n (i := 2) (n' := 8) dX5_miceFor_7 rfl rfl rfl ?_
    refine w_iconst (v := 0) (n' := 9) dX5_miceFor_8 rfl rfl ?_
    refine w_iconst (v := 1) (n' := 10) dX5_miceFor_9 rfl rfl ?_
    refine s_E (n' := 13) dX5_miceFor_10 rfl lRX5_53 okX5_within stX5_within ⟨⟨Nat.le_of_ble_eq_true rfl, Nat.le_of_ble_eq_true rfl⟩, Nat.le_of_ble_eq_true rfl, Nat.le_of_ble_eq_true rfl⟩ (c_within _ _ _ _) rfl rfl (Nat.le_of_ble_eq_true rfl) ?_
    refine w_if_ne (n' := 16) (tgt := 22) dX5_miceFor_13 rfl rfl (fun h13 => ?_) (fun h13 => ?_)
    · refine w_aload_n (i := 0) (n' := 23) dX5_miceFor_22 rfl rfl rfl ?_
      refine w_get (ci := 5) (j := 2) (n' := 26) dX5_miceFor_23 rfl fRX5_19 (Nat.le_of_ble_eq_true rfl) (Nat.le_of_ble_eq_true rfl) rfl rfl ?_
      refine w_aload_n (i := 0) (n' := 27) dX5_miceFor_26 rfl rfl rfl ?_
      refine w_get (ci := 5) (j := 0) (n' := 30) dX5_miceFor_27 rfl fRX5_10 (Nat.le_of_ble_eq_true rfl) (Nat.le_of_ble_eq_true rfl) rfl rfl ?_
      refine v_E (ci := 1) (n' := 33) dX5_miceFor_30 rfl lRX5_151 okX1_becomes voX1_becomes ⟨⟨Nat.le_of_ble_eq_true rfl, Nat.le_of_ble_eq_true rfl⟩, Nat.le_of_ble_eq_true rfl, Nat.le_of_ble_eq_true rfl⟩ (c_becomes (k := 25) rfl h.N (by decide)) rfl rfl (Nat.le_of_ble_eq_true rfl) rfl (Nat.le_of_ble_eq_true rfl) rfl ?_
      refine w_iconst (v := 0) (n' := 34) dX5_miceFor_33 rfl rfl ?_
      refine w_istore_n (i := 3) (n' := 35) (ls' := [_, _, _, _]) dX5_miceFor_34 rfl rfl (Nat.le_of_ble_eq_true rfl) rfl rfl ?_
      have L : ∀ (i : Nat) (s : Mem), i ≤ 100 → ((Agr (becMem mem 25 1 n) 26 1 s ∧ QS mem s) ∧ ∀ z, z < i → ¬ (if leanM (up2 (becMem mem 25 1 n) 26 1 (nI z)) 25 n < f then (0 : Int32) else 1) = v) → Wm mX5_miceFor (zM mX5_miceFor (fun r m' => ∃ x, r = some (.int x) ∧ (fun x m' => ((inR f (-99) 99 = 0 ∨ inR v 0 1 = 0) ∧ x = -1000001 ∧ m' = fnd mem 0) ∨ (¬ inR f (-99) 99 = 0 ∧ ¬ inR v 0 1 = 0 ∧ ∃ y, Fst (fun z => (if leanM (up2 (becMem mem 25 1 n) 26 1 (nI z)) 25 n < f then (0 : Int32) else 1) = v) 0 99 y ∧ ((y ≤ 99 ∧ x = nI y ∧ QS mem m') ∨ (y = 100 ∧ x = -1000004 ∧ (∃ m2, QS mem m2 ∧ m' = fnd m2 3))))) x m')) 35 [some (.ref 0), some (.int f), some (.int v), some (.int (nI i))] [] s := by
        refine for_ind 100 ?_
        rintro i s hi ⟨⟨h1, h1q⟩, h2⟩ ih
        refine w_iload_n (i := 3) (n' := 36) dX5_miceFor_35 rfl rfl rfl ?_
        refine w_bipush (v := 99) (n' := 38) dX5_miceFor_36 rfl (by decide) ?_
        refine w_icmp_gt (n' := 41) (tgt := 71) dX5_miceFor_38 rfl rfl (fun h38 => ?_) (fun h38 => ?_)
        · have hin : i = 100 := by
            rcases Nat.lt_or_ge i 100 with q | q
            · exact absurd h38 (nI_nlt (a := 99) (b := i) (by omega) (by decide))
            · omega
          subst hin
          refine w_aload_n (i := 0) (n' := 72) dX5_miceFor_71 rfl rfl rfl ?_
          refine w_iconst (v := 3) (n' := 73) dX5_miceFor_72 rfl rfl ?_
          refine v_E (ci := 5) (n' := 76) dX5_miceFor_73 rfl lRX5_57 okX5_finding voX5_finding ⟨⟨Nat.le_of_ble_eq_true rfl, Nat.le_of_ble_eq_true rfl⟩, Nat.le_of_ble_eq_true rfl, Nat.le_of_ble_eq_true rfl⟩ (c_finding 3 _ (by decide) (by decide) _) rfl rfl (Nat.le_of_ble_eq_true rfl) rfl (Nat.le_of_ble_eq_true rfl) rfl ?_
          exact w_iret dX5_miceFor_76 rfl ⟨_, rfl, Or.inr ⟨h4, h13, 100, ⟨Nat.zero_le _, by omega, fun z _ hz q => (h2 z hz) q, fun hh => absurd hh (by decide)⟩, Or.inr ⟨rfl, rfl, _, h1q, rfl⟩⟩⟩
        · have hlt : i < 100 := by
            rcases Nat.lt_or_ge i 100 with q | q
            · exact q
            · exact absurd (nI_lt (a := 99) (b := i) (by omega) (by omega)) h38
          refine w_aload_n (i := 0) (n' := 42) dX5_miceFor_41 rfl rfl rfl ?_
          refine w_get (ci := 5) (j := 2) (n' := 45) dX5_miceFor_42 rfl fRX5_19 (Nat.le_of_ble_eq_true rfl) (Nat.le_of_ble_eq_true rfl) rfl rfl ?_
          refine w_get (ci := 1) (j := 0) (n' := 48) dX5_miceFor_45 rfl fRX5_61 (Nat.le_of_ble_eq_true rfl) (Nat.le_of_ble_eq_true rfl) rfl rfl ?_
          refine w_iconst (v := 1) (n' := 49) dX5_miceFor_48 rfl rfl ?_
          refine w_iload_n (i := 3) (n' := 50) dX5_miceFor_49 rfl rfl rfl ?_
          refine w_iast (n := 1) (n' := 51) dX5_miceFor_50 rfl rfl (by decide) (by decide) ?_
          have s50 : Same (up2 (becMem mem 25 1 n) 26 1 (nI i)) (up2 s 26 1 (nI i)) := sto_Same (by decide) (fun q => absurd q (by decide)) h1
          have hp : PO (up2 s 26 1 (nI i)) 25 n := (Agr.of s50).PO (PO_bec (k := 25) rfl h (by decide)) (by omega) (by rw [s50.row (k := 26) (by decide), up2_same]; exact (PO_bec (k := 25) rfl h (by decide)).2.2.2.1)
          refine w_aload_n (i := 0) (n' := 52) dX5_miceFor_51 rfl rfl rfl ?_
          refine w_get (ci := 5) (j := 2) (n' := 55) dX5_miceFor_52 rfl fRX5_19 (Nat.le_of_ble_eq_true rfl) (Nat.le_of_ble_eq_true rfl) rfl rfl ?_
          refine w_iload_n (i := 1) (n' := 56) dX5_miceFor_55 rfl rfl rfl ?_
          refine v_I (ci := 1) (n' := 59) dX5_miceFor_56 rfl lRX5_128 okX1_answerTo voX1_answerTo ⟨⟨Nat.le_of_ble_eq_true rfl, Nat.le_of_ble_eq_true rfl⟩, Nat.le_of_ble_eq_true rfl, Nat.le_of_ble_eq_true rfl⟩ (c_answerTo hp _) rfl rfl (Nat.le_of_ble_eq_true rfl) rfl (Nat.le_of_ble_eq_true rfl) rfl (fun x56 m56 q56 => ?_)
          refine w_iload_n (i := 2) (n' := 60) dX5_miceFor_59 rfl rfl rfl ?_
          refine w_icmp_ne (n' := 63) (tgt := 65) dX5_miceFor_60 rfl rfl (fun h60 => ?_) (fun h60 => ?_)
          · refine w_iinc (n' := 68) (v := nI (i + 1)) (ls' := [_, _, _, _]) dX5_miceFor_65 rfl rfl (nI_1 i) (Nat.le_of_ble_eq_true rfl) rfl rfl ?_
            refine w_goto (tgt := 35) dX5_miceFor_68 rfl ?_
            exact ih hlt _ ⟨⟨Agr.of (s50.tr q56.2), up_QS h.2.2.1 (by omega) (s50.tr q56.2)⟩, fun z hz => by
              rcases Nat.lt_or_ge z i with q | q
              · exact h2 z q
              · rw [show z = i by omega, ← s50.lean rfl, ← q56.1]; exact h60⟩
          · refine w_iload_n (i := 3) (n' := 64) dX5_miceFor_63 rfl rfl rfl ?_
            exact w_iret dX5_miceFor_64 rfl ⟨_, rfl, Or.inr ⟨h4, h13, i, ⟨Nat.zero_le _, by omega, fun z _ hz q => (h2 z hz) q, fun _ => by show (if _ then (0 : Int32) else 1) = v; rw [← s50.lean rfl, ← q56.1]; simpa using h60⟩, Or.inl ⟨by omega, rfl, up_QS h.2.2.1 (by omega) (s50.tr q56.2)⟩⟩⟩
      exact L 0 _ (Nat.zero_le _) ⟨⟨Agr.rf (PO_bec (k := 25) rfl h (by decide)).2.2.2.2, tri_QS h.2.2.1 (tri_z h)⟩, fun z hz => absurd hz (by omega)⟩
    · refine w_aload_n (i := 0) (n' := 17) dX5_miceFor_16 rfl rfl rfl ?_
      refine w_iconst (v := 0) (n' := 18) dX5_miceFor_17 rfl rfl ?_
      refine v_E (ci := 5) (n' := 21) dX5_miceFor_18 rfl lRX5_57 okX5_finding voX5_finding ⟨⟨Nat.le_of_ble_eq_true rfl, Nat.le_of_ble_eq_true rfl⟩, Nat.le_of_ble_eq_true rfl, Nat.le_of_ble_eq_true rfl⟩ (c_finding 0 _ (by decide) (by decide) _) rfl rfl (Nat.le_of_ble_eq_true rfl) rfl (Nat.le_of_ble_eq_true rfl) rfl ?_
      exact w_iret dX5_miceFor_21 rfl ⟨_, rfl, Or.inl ⟨Or.inr (by simpa using h13), rfl, rfl⟩⟩
