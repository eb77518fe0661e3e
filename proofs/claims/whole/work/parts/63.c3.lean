/-! the class: numbers and words at the token -/
def Rv (v c : Int32) : Prop := (∃ t, t ≤ 999 ∧ v = nI t ∧ c = nI t) ∨ ((∃ t, 1000 ≤ t ∧ t < 10000 ∧ v = nI t) ∧ c = nI 1000)
theorem dg_n {x : Int32} (h : dgT x = true) : ∃ d, d ≤ 9 ∧ x = nI (48 + d) := by
  unfold dgT at h
  rw [Bool.and_eq_true, decide_eq_true_iff, decide_eq_true_iff] at h
  rw [Int32.le_iff_toInt_le, Int32.le_iff_toInt_le] at h
  have e1 : (48 : Int32).toInt = 48 := by decide
  have e2 : (57 : Int32).toInt = 57 := by decide
  rw [e1, e2] at h
  refine ⟨(x.toInt - 48).toNat, by omega, nI_ofInt (by omega)⟩
theorem mul10 (t : Nat) : nI t * 10 = nI (10 * t) := by
  rw [show (10 : Int32) = Int32.ofNat 10 from rfl]
  unfold nI
  rw [← Int32.ofNat_mul, Nat.mul_comm]
theorem dig_st (t d : Nat) : nI (10 * t) + nI (48 + d) - 48 = nI (10 * t + d) := by
  rw [nI_add, show 10 * t + (48 + d) = (10 * t + d) + 48 by omega, ← nI_add, show nI 48 = (48 : Int32) from rfl, Int32.add_sub_cancel]
theorem Rv_step {v c x : Int32} (h : Rv v c) (hx : dgT x = true) : Rv (if 999 < v then v else 10 * v + x - 48) (minI 1000 (c * 10 + x - 48)) := by
  obtain ⟨d, hd, rfl⟩ := dg_n hx
  rcases h with ⟨t, ht, rfl, rfl⟩ | ⟨⟨t, ht, ht2, rfl⟩, rfl⟩
  · rw [if_neg (show ¬ (999 : Int32) < nI t from nI_nlt (a := 999) (by omega) (by omega)), Int32.mul_comm, mul10, dig_st]
    rw [show (1000 : Int32) = nI 1000 from rfl, minI_N (by omega) (by omega)]
    rcases Nat.lt_or_ge (10 * t + d) 1000 with q | q
    · exact Or.inl ⟨10 * t + d, by omega, rfl, by rw [Nat.min_eq_right (by omega)]⟩
    · exact Or.inr ⟨⟨10 * t + d, q, by omega, rfl⟩, by rw [Nat.min_eq_left q]⟩
  · rw [if_pos (show (999 : Int32) < nI t from nI_lt (a := 999) (by omega) (by omega)), mul10, dig_st, show (1000 : Int32) = nI 1000 from rfl, minI_N (by omega) (by omega)]
    exact Or.inr ⟨⟨t, ht, ht2, rfl⟩, by rw [Nat.min_eq_left (by omega)]⟩
theorem Rv_run (B : Nat → Int32) : ∀ k p v c, Rv v c → Rv (valR B k p v) (vaC B k p c)
  | 0, _, _, _, h => h
  | k + 1, p, v, c, h => by
    rw [valR, vaC]
    by_cases q : dgT (B p) = true
    · rw [if_pos q, if_pos q]
      exact Rv_run B k (p + 1) _ _ (Rv_step h q)
    · rw [if_neg q, if_neg q]
      exact h
theorem Rv_lex (B : Nat → Int32) (T f : Nat) : Rv (lexV B T f) (lexC B T f) := by
  unfold lexV lexC
  have z : Rv 0 0 := Or.inl ⟨0, by omega, rfl, rfl⟩
  by_cases q : lexK (B f) = 2
  · rw [if_pos q, if_pos q]
    exact Rv_run B (T - f) f 0 0 z
  · rw [if_neg q, if_neg q]
    exact z
theorem Rv_in {v c lo hi : Int32} (h : Rv v c) (hh : hi ≤ 999) : inR c lo hi = inR v lo hi ∧ (¬ inR v lo hi = 0 → c = v) := by
  rcases h with ⟨t, ht, rfl, rfl⟩ | ⟨⟨t, ht, ht2, rfl⟩, rfl⟩
  · exact ⟨rfl, fun _ => rfl⟩
  · have key : ∀ y : Nat, 1000 ≤ y → y < 10000 → inR (nI y) lo hi = 0 := by
      intro y h1 h2
      unfold inR
      by_cases q : nI y < lo
      · rw [if_pos q]
      · rw [if_neg q, if_pos]
        rw [Int32.lt_iff_toInt_lt, nI_toInt (by omega)]
        rw [Int32.le_iff_toInt_le] at hh
        have e : (999 : Int32).toInt = 999 := by decide
        omega
    rw [key 1000 (by omega) (by omega), key t ht ht2]
    exact ⟨rfl, fun q => absurd rfl q⟩
theorem srt_1 {K : Int32} : srt K = 1 ↔ K = 2 := by
  unfold srt
  by_cases h1 : K = 1
  · rw [if_pos h1, h1]; decide
  · rw [if_neg h1]
    by_cases h2 : K = 2
    · rw [if_pos h2, h2]; decide
    · rw [if_neg h2]
      refine ⟨fun q => ?_, fun q => absurd q h2⟩
      split at q
      · exact absurd q (by decide)
      · split at q
        · exact absurd q (by decide)
        · split at q
          · exact absurd q (by decide)
          · exact absurd q (by decide)
theorem srt_0 {K : Int32} : srt K = 0 ↔ K = 1 := by
  unfold srt
  by_cases h1 : K = 1
  · rw [if_pos h1, h1]; decide
  · rw [if_neg h1]
    refine ⟨fun q => ?_, fun q => absurd q h1⟩
    split at q
    · exact absurd q (by decide)
    · split at q
      · exact absurd q (by decide)
      · split at q
        · exact absurd q (by decide)
        · split at q
          · exact absurd q (by decide)
          · exact absurd q (by decide)
theorem lexK_r (x : Int32) : lexK x = 0 ∨ lexK x = 1 ∨ lexK x = 2 ∨ lexK x = 3 ∨ lexK x = 4 ∨ lexK x = 5 := by
  unfold lexK
  split
  · split
    · split
      · split
        · exact Or.inr (Or.inr (Or.inr (Or.inl rfl)))
        · split
          · exact Or.inr (Or.inr (Or.inr (Or.inr (Or.inr rfl))))
          · exact Or.inr (Or.inr (Or.inr (Or.inr (Or.inl rfl))))
      · exact Or.inr (Or.inr (Or.inl rfl))
    · exact Or.inr (Or.inl rfl)
  · exact Or.inl rfl
theorem srt_x (x : Int32) : (srt (lexK x) = 5 ↔ lexK x = 0) ∧ (srt (lexK x) = 2 ↔ lexK x = 3) ∧ (srt (lexK x) = 3 ↔ lexK x = 5) := by
  rcases lexK_r x with h | h | h | h | h | h <;> rw [h] <;> decide
/-- the tape's cell shows the token at f -/
def TK (m : Mem) (T f : Nat) : Prop := m 37 1 = nI T ∧ m 37 2 = nI f ∧ m 37 3 = nI (lexE (BT m T) T f) ∧ m 37 4 = srt (lexK (BT m T f)) ∧ m 37 5 = lexC (BT m T) T f
theorem TK_cl {m : Mem} {T f : Nat} (hT : m 37 1 = nI T) : TK (clM m T f) T f := by
  unfold TK clM
  rw [ct_1, ct_2, ct_3, ct_4, ct_5, BT_ct]
  exact ⟨hT, rfl, rfl, rfl, rfl⟩
set_option maxHeartbeats 4000000 in
theorem c3_isNumber {T f : Nat} {mem : Mem} (h : TK mem T f) (lo hi : Int32) (hh : hi ≤ 999) : CnE mX3_isNumber [.ref 37, .int lo, .int hi] mem (some (.int (bB (nmB (BT mem T) T f lo hi)))) mem := by
  have hR := Rv_in (lo := lo) (Rv_lex (BT mem T) T f) hh
  refine Cn.of (ls := [some (.ref 37), some (.int lo), some (.int hi)]) (by decide) rfl (Nat.le_of_ble_eq_true rfl) ?_
  refine w_aload_n (i := 0) (n' := 1) dX3_isNumber_0 rfl rfl rfl ?_
  refine w_get (ci := 3) (j := 4) (n' := 4) dX3_isNumber_1 rfl fRX3_25 (Nat.le_of_ble_eq_true rfl) (Nat.le_of_ble_eq_true rfl) rfl rfl ?_
  rw [h.2.2.2.1]
  refine w_iconst (v := 1) (n' := 5) dX3_isNumber_4 rfl rfl ?_
  refine w_icmp_ne (n' := 8) (tgt := 24) dX3_isNumber_5 rfl rfl (fun h5 => ?_) (fun h5 => ?_)
  · refine w_iconst (v := 0) (n' := 25) dX3_isNumber_24 rfl rfl ?_
    exact w_zret dX3_isNumber_25 rfl rfl ⟨by rw [nmB, decide_eq_false (fun q => h5 (srt_1.mpr q))]; rfl, rfl⟩
  · refine w_aload_n (i := 0) (n' := 9) dX3_isNumber_8 rfl rfl rfl ?_
    refine w_get (ci := 3) (j := 5) (n' := 12) dX3_isNumber_9 rfl fRX3_28 (Nat.le_of_ble_eq_true rfl) (Nat.le_of_ble_eq_true rfl) rfl rfl ?_
    rw [h.2.2.2.2]
    refine w_iload_n (i := 1) (n' := 13) dX3_isNumber_12 rfl rfl rfl ?_
    refine w_iload_n (i := 2) (n' := 14) dX3_isNumber_13 rfl rfl rfl ?_
    refine s_E (n' := 17) dX3_isNumber_14 rfl lRX3_51 okX5_within stX5_within ⟨⟨Nat.le_of_ble_eq_true rfl, Nat.le_of_ble_eq_true rfl⟩, Nat.le_of_ble_eq_true rfl, Nat.le_of_ble_eq_true rfl⟩ (c_within _ _ _ _) rfl rfl (Nat.le_of_ble_eq_true rfl) ?_
    rw [hR.1]
    refine w_if_eq (n' := 20) (tgt := 24) dX3_isNumber_17 rfl rfl (fun h17 => ?_) (fun h17 => ?_)
    · refine w_iconst (v := 0) (n' := 25) dX3_isNumber_24 rfl rfl ?_
      exact w_zret dX3_isNumber_25 rfl rfl ⟨by rw [nmB, decide_eq_false (p := ¬ _) (fun q => q h17), Bool.and_false]; rfl, rfl⟩
    · refine w_iconst (v := 1) (n' := 21) dX3_isNumber_20 rfl rfl ?_
      refine w_goto (tgt := 25) dX3_isNumber_21 rfl ?_
      exact w_zret dX3_isNumber_25 rfl rfl ⟨by rw [nmB, decide_eq_true (srt_1.mp h5), decide_eq_true h17]; rfl, rfl⟩
theorem str_len : ∀ i, i < 12 → (strB.getD i []).length = strN.getD i 0 := by decide +kernel
theorem str_ch : ∀ i, i < 12 → ∀ j, j < 7 → j < strN.getD i 0 → ∃ z, z < 128 ∧ (strB.getD i []).getD j 0 = nI z := by decide +kernel
theorem drop_at {l : List Int32} {j : Nat} (h : j < l.length) : l.drop j = l.getD j 0 :: l.drop (j + 1) := by
  rw [List.drop_eq_getElem_cons h, List.getD_eq_getElem?_getD, List.getElem?_eq_getElem h]
  rfl
set_option maxHeartbeats 4000000 in
theorem c3_isWord {T f i : Nat} {mem : Mem} (h : TK mem T f) (hT2 : T ≤ 120) (hf : f ≤ T) (hB : BR mem T) (hi : i < 12) : CnE mX3_isWord [.ref 37, .ref (200 + i)] mem (some (.int (bB (wP (BT mem T) T f (strB.getD i []))))) mem := by
  have hE := lexE_le (m := mem) hf
  have hl := str_len i hi
  have h7 := str_le i hi
  refine Cn.of (ls := [some (.ref 37), some (.ref (200 + i)), none]) (by decide) rfl (Nat.le_of_ble_eq_true rfl) ?_
  refine w_aload_n (i := 0) (n' := 1) dX3_isWord_0 rfl rfl rfl ?_
  refine w_get (ci := 3) (j := 4) (n' := 4) dX3_isWord_1 rfl fRX3_25 (Nat.le_of_ble_eq_true rfl) (Nat.le_of_ble_eq_true rfl) rfl rfl ?_
  rw [h.2.2.2.1]
  refine w_if_ne (n' := 7) (tgt := 23) dX3_isWord_4 rfl rfl (fun h4 => ?_) (fun h4 => ?_)
  · have hw : wP (BT mem T) T f (strB.getD i []) = false := by rw [wP, decide_eq_false (fun q => h4 (srt_0.mpr q))]; rfl
    refine w_iconst (v := 0) (n' := 24) dX3_isWord_23 rfl rfl ?_
    exact w_zret dX3_isWord_24 rfl rfl ⟨by rw [hw]; rfl, rfl⟩
  · have hk := srt_0.mp h4
    refine w_aload_n (i := 0) (n' := 8) dX3_isWord_7 rfl rfl rfl ?_
    refine w_get (ci := 3) (j := 3) (n' := 11) dX3_isWord_8 rfl fRX3_22 (Nat.le_of_ble_eq_true rfl) (Nat.le_of_ble_eq_true rfl) rfl rfl ?_
    rw [h.2.2.1]
    refine w_aload_n (i := 0) (n' := 12) dX3_isWord_11 rfl rfl rfl ?_
    refine w_get (ci := 3) (j := 2) (n' := 15) dX3_isWord_12 rfl fRX3_19 (Nat.le_of_ble_eq_true rfl) (Nat.le_of_ble_eq_true rfl) rfl rfl ?_
    rw [h.2.1]
    refine w_isub (n' := 16) dX3_isWord_15 rfl ?_
    refine w_aload_n (i := 1) (n' := 17) dX3_isWord_16 rfl rfl rfl ?_
    refine t_E (i := i) (n' := 20) hi rfl dX3_isWord_17 rfl lRX3_55 okJ0_length_8abf5 voJ0_length_8abf5 ⟨⟨Nat.le_of_ble_eq_true rfl, Nat.le_of_ble_eq_true rfl⟩, Nat.le_of_ble_eq_true rfl, Nat.le_of_ble_eq_true rfl⟩ (c_length hi _) rfl rfl (Nat.le_of_ble_eq_true rfl) ?_
    refine w_icmp_eq (n' := 23) (tgt := 25) dX3_isWord_20 rfl rfl (fun h20 => ?_) (fun h20 => ?_)
    · have hw : wP (BT mem T) T f (strB.getD i []) = eqW (BT mem T) f (strB.getD i []) := by rw [wP, decide_eq_true hk, hl, decide_eq_true h20]; rfl
      have hfe : f + strN.getD i 0 ≤ T := by
        have e := h20
        rw [Int32.sub_eq_iff_eq_add] at e
        rw [nI_add] at e
        have := (nI_eq (by omega) (by omega)).mp e
        omega
      refine w_iconst (v := 0) (n' := 26) dX3_isWord_25 rfl rfl ?_
      refine w_istore_n (i := 2) (n' := 27) (ls' := [_, _, _]) dX3_isWord_26 rfl rfl (Nat.le_of_ble_eq_true rfl) rfl rfl ?_
      have L : ∀ (j : Nat) (u : Unit), j ≤ strN.getD i 0 → eqW (BT mem T) (f + j) ((strB.getD i []).drop j) = eqW (BT mem T) f (strB.getD i []) → Wm mX3_isWord (zM mX3_isWord (fun r' m' => r' = (some (.int (bB (wP (BT mem T) T f (strB.getD i []))))) ∧ m' = mem)) 27 [some (.ref 37), some (.ref (200 + i)), some (.int (nI j))] [] mem := by
        refine for_ind _ ?_
        intro j u hj h1 ih
        refine w_iload_n (i := 2) (n' := 28) dX3_isWord_27 rfl rfl rfl ?_
        refine w_aload_n (i := 1) (n' := 29) dX3_isWord_28 rfl rfl rfl ?_
        refine t_E (i := i) (n' := 32) hi rfl dX3_isWord_29 rfl lRX3_55 okJ0_length_8abf5 voJ0_length_8abf5 ⟨⟨Nat.le_of_ble_eq_true rfl, Nat.le_of_ble_eq_true rfl⟩, Nat.le_of_ble_eq_true rfl, Nat.le_of_ble_eq_true rfl⟩ (c_length hi _) rfl rfl (Nat.le_of_ble_eq_true rfl) ?_
        refine w_icmp_ge (n' := 35) (tgt := 62) dX3_isWord_32 rfl rfl (fun h32 => ?_) (fun h32 => ?_)
        · have hge : strN.getD i 0 ≤ j := by
            rcases Nat.lt_or_ge j (strN.getD i 0) with q | q
            · exact absurd h32 (nI_ge q (by omega))
            · exact q
          refine w_iconst (v := 1) (n' := 63) dX3_isWord_62 rfl rfl ?_
          exact w_zret dX3_isWord_63 rfl rfl ⟨by rw [hw, ← h1, List.drop_eq_nil_of_le (by rw [hl]; exact hge)]; rfl, rfl⟩
        · have hlt : j < strN.getD i 0 := by
            rcases Nat.lt_or_ge j (strN.getD i 0) with q | q
            · exact q
            · exact absurd (nI_le q (by omega)) h32
          obtain ⟨z, hz, ez⟩ := str_ch i hi j (by omega) hlt
          have hch : mem 38 (f + j) = (strB.getD i []).getD j 0 ↔ BT mem T (f + j) = (strB.getD i []).getD j 0 := by rw [ez]; exact BR_ch hB (by omega) hz
          refine w_aload_n (i := 0) (n' := 36) dX3_isWord_35 rfl rfl rfl ?_
          refine w_get (ci := 3) (j := 0) (n' := 39) dX3_isWord_36 rfl fRX3_9 (Nat.le_of_ble_eq_true rfl) (Nat.le_of_ble_eq_true rfl) rfl rfl ?_
          refine w_aload_n (i := 0) (n' := 40) dX3_isWord_39 rfl rfl rfl ?_
          refine w_get (ci := 3) (j := 2) (n' := 43) dX3_isWord_40 rfl fRX3_19 (Nat.le_of_ble_eq_true rfl) (Nat.le_of_ble_eq_true rfl) rfl rfl ?_
          rw [h.2.1]
          refine w_iload_n (i := 2) (n' := 44) dX3_isWord_43 rfl rfl rfl ?_
          refine w_iadd (n' := 45) dX3_isWord_44 rfl ?_
          refine w_bald (n := f + j) (n' := 46) dX3_isWord_45 rfl rfl (nI_add f j) (show f + j < 120 by omega) ?_
          refine w_aload_n (i := 1) (n' := 47) dX3_isWord_46 rfl rfl rfl ?_
          refine w_iload_n (i := 2) (n' := 48) dX3_isWord_47 rfl rfl rfl ?_
          refine t_E (i := i) (n' := 51) hi rfl dX3_isWord_48 rfl lRX3_61 okJ0_charAt_5068e voJ0_charAt_5068e ⟨⟨Nat.le_of_ble_eq_true rfl, Nat.le_of_ble_eq_true rfl⟩, Nat.le_of_ble_eq_true rfl, Nat.le_of_ble_eq_true rfl⟩ (c_charAt hi hlt _) rfl rfl (Nat.le_of_ble_eq_true rfl) ?_
          refine w_icmp_eq (n' := 54) (tgt := 56) dX3_isWord_51 rfl rfl (fun h51 => ?_) (fun h51 => ?_)
          · refine w_iinc (n' := 59) (v := nI (j + 1)) (ls' := [_, _, _]) dX3_isWord_56 rfl rfl (nI_1 j) (Nat.le_of_ble_eq_true rfl) rfl rfl ?_
            refine w_goto (tgt := 27) dX3_isWord_59 rfl ?_
            exact ih hlt () (by rw [← h1, drop_at (l := strB.getD i []) (j := j) (by rw [hl]; exact hlt), eqW, decide_eq_true (hch.mp h51), Nat.add_assoc]; rfl)
          · refine w_iconst (v := 0) (n' := 55) dX3_isWord_54 rfl rfl ?_
            exact w_zret dX3_isWord_55 rfl rfl ⟨by rw [hw, ← h1, drop_at (l := strB.getD i []) (j := j) (by rw [hl]; exact hlt), eqW, decide_eq_false (fun q => h51 (hch.mpr q))]; rfl, rfl⟩
      exact L 0 () (Nat.zero_le _) rfl
    · have hw : wP (BT mem T) T f (strB.getD i []) = false := by rw [wP, hl, decide_eq_false h20]; simp
      refine w_iconst (v := 0) (n' := 24) dX3_isWord_23 rfl rfl ?_
      exact w_zret dX3_isWord_24 rfl rfl ⟨by rw [hw]; rfl, rfl⟩
