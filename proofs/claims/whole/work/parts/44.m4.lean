/-! the reference: what is left, what will be -/
def lbR (kind hands wet : Int32) : Nat → Int32 → Int32
  | 0, t => t
  | d + 1, t => if t ≤ 0 then t else lbR kind hands wet d (maxI 0 (t - reapF kind hands wet t))
theorem lbR_0 (kind hands wet : Int32) {t : Int32} (h : t ≤ 0) : ∀ d, lbR kind hands wet d t = t
  | 0 => rfl
  | d + 1 => by rw [lbR, if_pos h]
set_option maxHeartbeats 4000000 in
theorem c6_leftBehind {i n d : Nat} {mem : Mem} (h : MO mem n) (hi : i < n) (hd : d ≤ 1000) : CnE mX6_leftBehind [.ref 50, .int (nI i), .int (nI d)] mem (some (.int (lbR (FM mem i 0) (FM mem i 2) (mem 51 3) d (FM mem i 1)))) mem := by
  have h8 := h.2.1
  refine Cn.of (ls := [some (.ref 50), some (.int (nI i)), some (.int (nI d)), none, none]) (by decide) rfl (Nat.le_of_ble_eq_true rfl) ?_
  refine w_aload_n (i := 0) (n' := 1) dX6_leftBehind_0 rfl rfl rfl ?_
  refine w_iload_n (i := 1) (n' := 2) dX6_leftBehind_1 rfl rfl rfl ?_
  refine w_iconst (v := 1) (n' := 3) dX6_leftBehind_2 rfl rfl ?_
  refine v_E (ci := 6) (n' := 6) dX6_leftBehind_3 rfl lRX6_70 okX6_its voX6_its ⟨⟨Nat.le_of_ble_eq_true rfl, Nat.le_of_ble_eq_true rfl⟩, Nat.le_of_ble_eq_true rfl, Nat.le_of_ble_eq_true rfl⟩ (c6_its (i := i) (j := 1) _ _ rfl (by decide) (by omega) _) rfl rfl (Nat.le_of_ble_eq_true rfl) rfl (Nat.le_of_ble_eq_true rfl) rfl ?_
  refine w_istore_n (i := 3) (n' := 7) (ls' := [_, _, _, _, _]) dX6_leftBehind_6 rfl rfl (Nat.le_of_ble_eq_true rfl) rfl rfl ?_
  refine w_iconst (v := 0) (n' := 8) dX6_leftBehind_7 rfl rfl ?_
  refine w_istore (n' := 10) (ls' := [_, _, _, _, _]) dX6_leftBehind_8 rfl (Nat.le_of_ble_eq_true rfl) rfl rfl ?_
  have L : ∀ (k : Nat) (s : Int32), k ≤ d → lbR (FM mem i 0) (FM mem i 2) (mem 51 3) (d - k) s = lbR (FM mem i 0) (FM mem i 2) (mem 51 3) d (FM mem i 1) → Wm mX6_leftBehind (zM mX6_leftBehind (fun r' m' => r' = (some (.int (lbR (FM mem i 0) (FM mem i 2) (mem 51 3) d (FM mem i 1)))) ∧ m' = mem)) 10 [some (.ref 50), some (.int (nI i)), some (.int (nI d)), some (.int s), some (.int (nI k))] [] mem := by
    refine for_ind d ?_
    intro k s hk h1 ih
    refine w_iload (n' := 12) dX6_leftBehind_10 rfl rfl ?_
    refine w_iload_n (i := 2) (n' := 13) dX6_leftBehind_12 rfl rfl rfl ?_
    refine w_icmp_ge (n' := 16) (tgt := 39) dX6_leftBehind_13 rfl rfl (fun h13 => ?_) (fun h13 => ?_)
    · have hin : k = d := by
        rcases Nat.lt_or_ge k d with c | c
        · exact absurd h13 (by exact nI_ge (b := d) c (by omega))
        · omega
      subst hin
      rw [Nat.sub_self, lbR] at h1
      refine w_iload_n (i := 3) (n' := 40) dX6_leftBehind_39 rfl rfl rfl ?_
      exact w_iret dX6_leftBehind_40 rfl ⟨by rw [h1], rfl⟩
    · have hlt : k < d := by
        rcases Nat.lt_or_ge k d with c | c
        · exact c
        · exact absurd (by exact nI_le (a := d) c (by omega)) h13
      refine w_iload_n (i := 3) (n' := 17) dX6_leftBehind_16 rfl rfl rfl ?_
      refine w_if_le (n' := 20) (tgt := 39) dX6_leftBehind_17 rfl rfl (fun h17 => ?_) (fun h17 => ?_)
      · rw [lbR_0 _ _ _ h17] at h1
        refine w_iload_n (i := 3) (n' := 40) dX6_leftBehind_39 rfl rfl rfl ?_
        exact w_iret dX6_leftBehind_40 rfl ⟨by rw [h1], rfl⟩
      · refine w_iconst (v := 0) (n' := 21) dX6_leftBehind_20 rfl rfl ?_
        refine w_iload_n (i := 3) (n' := 22) dX6_leftBehind_21 rfl rfl rfl ?_
        refine w_aload_n (i := 0) (n' := 23) dX6_leftBehind_22 rfl rfl rfl ?_
        refine w_iload_n (i := 1) (n' := 24) dX6_leftBehind_23 rfl rfl rfl ?_
        refine w_iload_n (i := 3) (n' := 25) dX6_leftBehind_24 rfl rfl rfl ?_
        refine v_E (ci := 6) (n' := 28) dX6_leftBehind_25 rfl lRX6_76 okX6_reaps voX6_reaps ⟨⟨Nat.le_of_ble_eq_true rfl, Nat.le_of_ble_eq_true rfl⟩, Nat.le_of_ble_eq_true rfl, Nat.le_of_ble_eq_true rfl⟩ (c6_reaps h hi _) rfl rfl (Nat.le_of_ble_eq_true rfl) rfl (Nat.le_of_ble_eq_true rfl) rfl ?_
        refine w_isub (n' := 29) dX6_leftBehind_28 rfl ?_
        refine s_E (n' := 32) dX6_leftBehind_29 rfl lRX6_73 okX6_greatest stX6_greatest ⟨⟨Nat.le_of_ble_eq_true rfl, Nat.le_of_ble_eq_true rfl⟩, Nat.le_of_ble_eq_true rfl, Nat.le_of_ble_eq_true rfl⟩ (c6_greatest _ _ _) rfl rfl (Nat.le_of_ble_eq_true rfl) ?_
        refine w_istore_n (i := 3) (n' := 33) (ls' := [_, _, _, _, _]) dX6_leftBehind_32 rfl rfl (Nat.le_of_ble_eq_true rfl) rfl rfl ?_
        refine w_iinc (n' := 36) (v := nI (k + 1)) (ls' := [_, _, _, _, _]) dX6_leftBehind_33 rfl rfl (nI_1 k) (Nat.le_of_ble_eq_true rfl) rfl rfl ?_
        refine w_goto (tgt := 10) dX6_leftBehind_36 rfl ?_
        exact ih hlt _ (by rw [← h1, show d - k = (d - (k + 1)) + 1 by omega, lbR, if_neg h17])
  exact L 0 _ (Nat.zero_le _) rfl
def ofM (m : Mem) (i j : Nat) : Int32 := if j = 5 then reapF (FM m i 0) (FM m i 2) (m 51 3) (FM m i 1) else if j = 6 then DM m i else if j = 7 then tellF (FM m i 0) (FM m i 4) else FM m i j
set_option maxHeartbeats 4000000 in
theorem c6_of {n : Nat} {mem : Mem} (h : MO mem n) (f a : Int32) : CnI mX6_of [.ref 50, .int f, .int a] mem (fun x m' => ((inR f 0 (nI n - 1) = 0 ∨ inR a 0 7 = 0) ∧ x = -1000001 ∧ m' = fndM mem 0) ∨ (¬ inR a 0 7 = 0 ∧ ∃ i j, i < n ∧ j ≤ 7 ∧ f = nI i ∧ a = nI j ∧ x = ofM mem i j ∧ m' = mem)) := by
  have h8 := h.2.1
  refine Cn.of (ls := [some (.ref 50), some (.int f), some (.int a)]) (by decide) rfl (Nat.le_of_ble_eq_true rfl) ?_
  refine w_aload_n (i := 0) (n' := 1) dX6_of_0 rfl rfl rfl ?_
  refine w_iload_n (i := 1) (n' := 2) dX6_of_1 rfl rfl rfl ?_
  refine v_E (ci := 6) (n' := 5) dX6_of_2 rfl lRX6_82 okX6_isFarm voX6_isFarm ⟨⟨Nat.le_of_ble_eq_true rfl, Nat.le_of_ble_eq_true rfl⟩, Nat.le_of_ble_eq_true rfl, Nat.le_of_ble_eq_true rfl⟩ (c6_isFarm h.1 h.2.1 _) rfl rfl (Nat.le_of_ble_eq_true rfl) rfl (Nat.le_of_ble_eq_true rfl) rfl ?_
  refine w_if_eq (n' := 8) (tgt := 20) dX6_of_5 rfl rfl (fun h5 => ?_) (fun h5 => ?_)
  · refine w_aload_n (i := 0) (n' := 21) dX6_of_20 rfl rfl rfl ?_
    refine w_ldc (v := -1000001) (n' := 23) dX6_of_21 rfl kRX6_43 ?_
    refine v_E (ci := 6) (n' := 26) dX6_of_23 rfl lRX6_45 okX6_finds voX6_finds ⟨⟨Nat.le_of_ble_eq_true rfl, Nat.le_of_ble_eq_true rfl⟩, Nat.le_of_ble_eq_true rfl, Nat.le_of_ble_eq_true rfl⟩ (c6_finds 0 _ (by decide) (by decide) _) rfl rfl (Nat.le_of_ble_eq_true rfl) rfl (Nat.le_of_ble_eq_true rfl) rfl ?_
    exact w_iret dX6_of_26 rfl ⟨_, rfl, Or.inl ⟨Or.inl h5, rfl, rfl⟩⟩
  · obtain ⟨i, hi1, hi2⟩ := hasF_of (n := n) (by omega) h5
    subst hi2
    refine w_iload_n (i := 2) (n' := 9) dX6_of_8 rfl rfl rfl ?_
    refine w_i2l (v := _) (n' := 10) dX6_of_9 rfl rfl ?_
    refine w_lconst (v := 0) (n' := 11) dX6_of_10 rfl rfl ?_
    refine w_ldc2 (v := 7) (n' := 14) dX6_of_11 rfl kRX6_86 ?_
    refine s_E (n' := 17) dX6_of_14 rfl lRX6_51 okX6_isIn stX6_isIn ⟨⟨Nat.le_of_ble_eq_true rfl, Nat.le_of_ble_eq_true rfl⟩, Nat.le_of_ble_eq_true rfl, Nat.le_of_ble_eq_true rfl⟩ (c6_isIn _ (0) (7) _ _ (by decide) (by decide) _) rfl rfl (Nat.le_of_ble_eq_true rfl) ?_
    refine w_if_ne (n' := 20) (tgt := 27) dX6_of_17 rfl rfl (fun h17 => ?_) (fun h17 => ?_)
    · obtain ⟨j, hj1, hj2⟩ := inR_of (N := 7) (by decide) h17
      subst hj2
      refine w_iload_n (i := 2) (n' := 28) dX6_of_27 rfl rfl rfl ?_
      refine w_tc (5) (tgt := 56) dX6_of_28 (by decide) (by decide) rfl rfl (fun e28_0 => ?_) (fun e28_0 => ?_)
      · refine w_aload_n (i := 0) (n' := 57) dX6_of_56 rfl rfl rfl ?_
        refine w_iload_n (i := 1) (n' := 58) dX6_of_57 rfl rfl rfl ?_
        refine w_aload_n (i := 0) (n' := 59) dX6_of_58 rfl rfl rfl ?_
        refine w_iload_n (i := 1) (n' := 60) dX6_of_59 rfl rfl rfl ?_
        refine w_iconst (v := 1) (n' := 61) dX6_of_60 rfl rfl ?_
        refine v_E (ci := 6) (n' := 64) dX6_of_61 rfl lRX6_70 okX6_its voX6_its ⟨⟨Nat.le_of_ble_eq_true rfl, Nat.le_of_ble_eq_true rfl⟩, Nat.le_of_ble_eq_true rfl, Nat.le_of_ble_eq_true rfl⟩ (c6_its (i := i) (j := 1) _ _ rfl (by decide) (by omega) _) rfl rfl (Nat.le_of_ble_eq_true rfl) rfl (Nat.le_of_ble_eq_true rfl) rfl ?_
        refine v_E (ci := 6) (n' := 67) dX6_of_64 rfl lRX6_76 okX6_reaps voX6_reaps ⟨⟨Nat.le_of_ble_eq_true rfl, Nat.le_of_ble_eq_true rfl⟩, Nat.le_of_ble_eq_true rfl, Nat.le_of_ble_eq_true rfl⟩ (c6_reaps h hi1 _) rfl rfl (Nat.le_of_ble_eq_true rfl) rfl (Nat.le_of_ble_eq_true rfl) rfl ?_
        exact w_iret dX6_of_67 rfl ⟨_, rfl, Or.inr ⟨h17, i, j, hi1, hj1, rfl, rfl, by rw [ofM, if_pos (by have := (nI_eq (a := j) (b := 5) (by omega) (by decide)).mp e28_0; exact this)]; rfl, rfl⟩⟩
      refine w_tc (6) (tgt := 68) dX6_of_28 (by decide) (by decide) rfl rfl (fun e28_1 => ?_) (fun e28_1 => ?_)
      · refine w_aload_n (i := 0) (n' := 69) dX6_of_68 rfl rfl rfl ?_
        refine w_iload_n (i := 1) (n' := 70) dX6_of_69 rfl rfl rfl ?_
        refine v_E (ci := 6) (n' := 73) dX6_of_70 rfl lRX6_88 okX6_days voX6_days ⟨⟨Nat.le_of_ble_eq_true rfl, Nat.le_of_ble_eq_true rfl⟩, Nat.le_of_ble_eq_true rfl, Nat.le_of_ble_eq_true rfl⟩ (c6_days h hi1) rfl rfl (Nat.le_of_ble_eq_true rfl) rfl (Nat.le_of_ble_eq_true rfl) rfl ?_
        exact w_iret dX6_of_73 rfl ⟨_, rfl, Or.inr ⟨h17, i, j, hi1, hj1, rfl, rfl, by rw [ofM, if_neg (fun q => e28_0 (by rw [q]; rfl)), if_pos (by have := (nI_eq (a := j) (b := 6) (by omega) (by decide)).mp e28_1; exact this)], rfl⟩⟩
      refine w_tc (7) (tgt := 74) dX6_of_28 (by decide) (by decide) rfl rfl (fun e28_2 => ?_) (fun e28_2 => ?_)
      · refine w_aload_n (i := 0) (n' := 75) dX6_of_74 rfl rfl rfl ?_
        refine w_iload_n (i := 1) (n' := 76) dX6_of_75 rfl rfl rfl ?_
        refine v_E (ci := 6) (n' := 79) dX6_of_76 rfl lRX6_91 okX6_tells voX6_tells ⟨⟨Nat.le_of_ble_eq_true rfl, Nat.le_of_ble_eq_true rfl⟩, Nat.le_of_ble_eq_true rfl, Nat.le_of_ble_eq_true rfl⟩ (c6_tells (by omega) _) rfl rfl (Nat.le_of_ble_eq_true rfl) rfl (Nat.le_of_ble_eq_true rfl) rfl ?_
        exact w_iret dX6_of_79 rfl ⟨_, rfl, Or.inr ⟨h17, i, j, hi1, hj1, rfl, rfl, by rw [ofM, if_neg (fun q => e28_0 (by rw [q]; rfl)), if_neg (fun q => e28_1 (by rw [q]; rfl)), if_pos (by have := (nI_eq (a := j) (b := 7) (by omega) (by decide)).mp e28_2; exact this)], rfl⟩⟩
      refine w_td [5, 6, 7] (tgt := 80) dX6_of_28 rfl (by decide) (List.forall_mem_cons.mpr ⟨e28_0, (List.forall_mem_cons.mpr ⟨e28_1, (List.forall_mem_cons.mpr ⟨e28_2, (fun _ h => absurd h List.not_mem_nil)⟩)⟩)⟩) ?_
      refine w_aload_n (i := 0) (n' := 81) dX6_of_80 rfl rfl rfl ?_
      refine w_iload_n (i := 1) (n' := 82) dX6_of_81 rfl rfl rfl ?_
      refine w_iload_n (i := 2) (n' := 83) dX6_of_82 rfl rfl rfl ?_
      refine v_E (ci := 6) (n' := 86) dX6_of_83 rfl lRX6_70 okX6_its voX6_its ⟨⟨Nat.le_of_ble_eq_true rfl, Nat.le_of_ble_eq_true rfl⟩, Nat.le_of_ble_eq_true rfl, Nat.le_of_ble_eq_true rfl⟩ (c6_its (i := i) (j := j) _ _ rfl rfl (by omega) _) rfl rfl (Nat.le_of_ble_eq_true rfl) rfl (Nat.le_of_ble_eq_true rfl) rfl ?_
      exact w_iret dX6_of_86 rfl ⟨_, rfl, Or.inr ⟨h17, i, j, hi1, hj1, rfl, rfl, by rw [ofM, if_neg (fun q => e28_0 (by rw [q]; rfl)), if_neg (fun q => e28_1 (by rw [q]; rfl)), if_neg (fun q => e28_2 (by rw [q]; rfl))]; rfl, rfl⟩⟩
    · refine w_aload_n (i := 0) (n' := 21) dX6_of_20 rfl rfl rfl ?_
      refine w_ldc (v := -1000001) (n' := 23) dX6_of_21 rfl kRX6_43 ?_
      refine v_E (ci := 6) (n' := 26) dX6_of_23 rfl lRX6_45 okX6_finds voX6_finds ⟨⟨Nat.le_of_ble_eq_true rfl, Nat.le_of_ble_eq_true rfl⟩, Nat.le_of_ble_eq_true rfl, Nat.le_of_ble_eq_true rfl⟩ (c6_finds 0 _ (by decide) (by decide) _) rfl rfl (Nat.le_of_ble_eq_true rfl) rfl (Nat.le_of_ble_eq_true rfl) rfl ?_
      exact w_iret dX6_of_26 rfl ⟨_, rfl, Or.inl ⟨Or.inr (by simpa using h17), rfl, rfl⟩⟩
def fitI (a v : Int32) : Int32 := if a = 0 then inR v 0 6 else if a = 1 then inR v 0 999 else if a = 2 then inR v 1 20 else if a = 3 then inR v (-9) 9 else if a = 4 then inR v 0 9999 else 0
theorem fit_j {a v : Int32} (h : ¬ fitI a v = 0) : ∃ j, j ≤ 4 ∧ a = nI j := by
  unfold fitI at h
  by_cases h0 : a = 0
  · exact ⟨0, by omega, h0⟩
  by_cases h1 : a = 1
  · exact ⟨1, by omega, h1⟩
  by_cases h2 : a = 2
  · exact ⟨2, by omega, h2⟩
  by_cases h3 : a = 3
  · exact ⟨3, by omega, h3⟩
  by_cases h4 : a = 4
  · exact ⟨4, by omega, h4⟩
  simp [h0, h1, h2, h3, h4] at h
set_option maxHeartbeats 4000000 in
theorem c6_isFit (a v : Int32) (mem : Mem) : CnE mX6_isFit [.int a, .int v] mem (some (.int (fitI a v))) mem := by
  refine Cn.of (ls := [some (.int a), some (.int v)]) (by decide) rfl (Nat.le_of_ble_eq_true rfl) ?_
  refine w_iload_n (i := 0) (n' := 1) dX6_isFit_0 rfl rfl rfl ?_
  refine w_tc (0) (tgt := 32) dX6_isFit_1 (by decide) (by decide) rfl rfl (fun e1_0 => ?_) (fun e1_0 => ?_)
  · refine w_iload_n (i := 1) (n' := 33) dX6_isFit_32 rfl rfl rfl ?_
    refine w_i2l (v := _) (n' := 34) dX6_isFit_33 rfl rfl ?_
    refine w_lconst (v := 0) (n' := 35) dX6_isFit_34 rfl rfl ?_
    refine w_ldc2 (v := 6) (n' := 38) dX6_isFit_35 rfl kRX6_61 ?_
    refine s_E (n' := 41) dX6_isFit_38 rfl lRX6_51 okX6_isIn stX6_isIn ⟨⟨Nat.le_of_ble_eq_true rfl, Nat.le_of_ble_eq_true rfl⟩, Nat.le_of_ble_eq_true rfl, Nat.le_of_ble_eq_true rfl⟩ (c6_isIn _ (0) (6) _ _ (by decide) (by decide) _) rfl rfl (Nat.le_of_ble_eq_true rfl) ?_
    exact w_zret dX6_isFit_41 rfl (inR_nar _ _ _) ⟨by rw [fitI, if_pos e1_0], rfl⟩
  refine w_tc (1) (tgt := 42) dX6_isFit_1 (by decide) (by decide) rfl rfl (fun e1_1 => ?_) (fun e1_1 => ?_)
  · refine w_iload_n (i := 1) (n' := 43) dX6_isFit_42 rfl rfl rfl ?_
    refine w_i2l (v := _) (n' := 44) dX6_isFit_43 rfl rfl ?_
    refine w_lconst (v := 0) (n' := 45) dX6_isFit_44 rfl rfl ?_
    refine w_ldc2 (v := 999) (n' := 48) dX6_isFit_45 rfl kRX6_63 ?_
    refine s_E (n' := 51) dX6_isFit_48 rfl lRX6_51 okX6_isIn stX6_isIn ⟨⟨Nat.le_of_ble_eq_true rfl, Nat.le_of_ble_eq_true rfl⟩, Nat.le_of_ble_eq_true rfl, Nat.le_of_ble_eq_true rfl⟩ (c6_isIn _ (0) (999) _ _ (by decide) (by decide) _) rfl rfl (Nat.le_of_ble_eq_true rfl) ?_
    exact w_zret dX6_isFit_51 rfl (inR_nar _ _ _) ⟨by rw [fitI, if_neg e1_0, if_pos e1_1], rfl⟩
  refine w_tc (2) (tgt := 52) dX6_isFit_1 (by decide) (by decide) rfl rfl (fun e1_2 => ?_) (fun e1_2 => ?_)
  · refine w_iload_n (i := 1) (n' := 53) dX6_isFit_52 rfl rfl rfl ?_
    refine w_i2l (v := _) (n' := 54) dX6_isFit_53 rfl rfl ?_
    refine w_lconst (v := 1) (n' := 55) dX6_isFit_54 rfl rfl ?_
    refine w_ldc2 (v := 20) (n' := 58) dX6_isFit_55 rfl kRX6_94 ?_
    refine s_E (n' := 61) dX6_isFit_58 rfl lRX6_51 okX6_isIn stX6_isIn ⟨⟨Nat.le_of_ble_eq_true rfl, Nat.le_of_ble_eq_true rfl⟩, Nat.le_of_ble_eq_true rfl, Nat.le_of_ble_eq_true rfl⟩ (c6_isIn _ (1) (20) _ _ (by decide) (by decide) _) rfl rfl (Nat.le_of_ble_eq_true rfl) ?_
    exact w_zret dX6_isFit_61 rfl (inR_nar _ _ _) ⟨by rw [fitI, if_neg e1_0, if_neg e1_1, if_pos e1_2], rfl⟩
  refine w_tc (3) (tgt := 62) dX6_isFit_1 (by decide) (by decide) rfl rfl (fun e1_3 => ?_) (fun e1_3 => ?_)
  · refine w_iload_n (i := 1) (n' := 63) dX6_isFit_62 rfl rfl rfl ?_
    refine w_i2l (v := _) (n' := 64) dX6_isFit_63 rfl rfl ?_
    refine w_ldc2 (v := -9) (n' := 67) dX6_isFit_64 rfl kRX6_96 ?_
    refine w_ldc2 (v := 9) (n' := 70) dX6_isFit_67 rfl kRX6_98 ?_
    refine s_E (n' := 73) dX6_isFit_70 rfl lRX6_51 okX6_isIn stX6_isIn ⟨⟨Nat.le_of_ble_eq_true rfl, Nat.le_of_ble_eq_true rfl⟩, Nat.le_of_ble_eq_true rfl, Nat.le_of_ble_eq_true rfl⟩ (c6_isIn _ (-9) (9) _ _ (by decide) (by decide) _) rfl rfl (Nat.le_of_ble_eq_true rfl) ?_
    exact w_zret dX6_isFit_73 rfl (inR_nar _ _ _) ⟨by rw [fitI, if_neg e1_0, if_neg e1_1, if_neg e1_2, if_pos e1_3], rfl⟩
  refine w_td [0, 1, 2, 3] (tgt := 74) dX6_isFit_1 rfl (by decide) (List.forall_mem_cons.mpr ⟨e1_0, (List.forall_mem_cons.mpr ⟨e1_1, (List.forall_mem_cons.mpr ⟨e1_2, (List.forall_mem_cons.mpr ⟨e1_3, (fun _ h => absurd h List.not_mem_nil)⟩)⟩)⟩)⟩) ?_
  refine w_iload_n (i := 0) (n' := 75) dX6_isFit_74 rfl rfl rfl ?_
  refine w_iconst (v := 4) (n' := 76) dX6_isFit_75 rfl rfl ?_
  refine w_icmp_ne (n' := 79) (tgt := 95) dX6_isFit_76 rfl rfl (fun h76 => ?_) (fun h76 => ?_)
  · refine w_iconst (v := 0) (n' := 96) dX6_isFit_95 rfl rfl ?_
    exact w_zret dX6_isFit_96 rfl rfl ⟨by rw [fitI, if_neg e1_0, if_neg e1_1, if_neg e1_2, if_neg e1_3, if_neg h76], rfl⟩
  · refine w_iload_n (i := 1) (n' := 80) dX6_isFit_79 rfl rfl rfl ?_
    refine w_i2l (v := _) (n' := 81) dX6_isFit_80 rfl rfl ?_
    refine w_lconst (v := 0) (n' := 82) dX6_isFit_81 rfl rfl ?_
    refine w_ldc2 (v := 9999) (n' := 85) dX6_isFit_82 rfl kRX6_100 ?_
    refine s_E (n' := 88) dX6_isFit_85 rfl lRX6_51 okX6_isIn stX6_isIn ⟨⟨Nat.le_of_ble_eq_true rfl, Nat.le_of_ble_eq_true rfl⟩, Nat.le_of_ble_eq_true rfl, Nat.le_of_ble_eq_true rfl⟩ (c6_isIn _ (0) (9999) _ _ (by decide) (by decide) _) rfl rfl (Nat.le_of_ble_eq_true rfl) ?_
    refine w_if_eq (n' := 91) (tgt := 95) dX6_isFit_88 rfl rfl (fun h88 => ?_) (fun h88 => ?_)
    · refine w_iconst (v := 0) (n' := 96) dX6_isFit_95 rfl rfl ?_
      exact w_zret dX6_isFit_96 rfl rfl ⟨by rw [fitI, if_neg e1_0, if_neg e1_1, if_neg e1_2, if_neg e1_3, if_pos (by simpa using h76), h88], rfl⟩
    · refine w_iconst (v := 1) (n' := 92) dX6_isFit_91 rfl rfl ?_
      refine w_goto (tgt := 96) dX6_isFit_92 rfl ?_
      exact w_zret dX6_isFit_96 rfl rfl ⟨by rw [fitI, if_neg e1_0, if_neg e1_1, if_neg e1_2, if_neg e1_3, if_pos (by simpa using h76)]; rw [(inR_01 v 0 9999).resolve_left h88], rfl⟩
set_option maxHeartbeats 4000000 in
theorem c6_change {n : Nat} {mem : Mem} (h : MO mem n) (f a v : Int32) : CnI mX6_change [.ref 50, .int f, .int a, .int v] mem (fun x m' => ((inR f 0 (nI n - 1) = 0 ∨ fitI a v = 0) ∧ x = -1000001 ∧ m' = fndM mem 0) ∨ (¬ fitI a v = 0 ∧ ∃ i j, i < n ∧ j ≤ 4 ∧ f = nI i ∧ a = nI j ∧ x = FM mem i j ∧ m' = up2 mem 51 (6 + 5 * i + j) v)) := by
  have h8 := h.2.1
  refine Cn.of (ls := [some (.ref 50), some (.int f), some (.int a), some (.int v)]) (by decide) rfl (Nat.le_of_ble_eq_true rfl) ?_
  refine w_aload_n (i := 0) (n' := 1) dX6_change_0 rfl rfl rfl ?_
  refine w_iload_n (i := 1) (n' := 2) dX6_change_1 rfl rfl rfl ?_
  refine v_E (ci := 6) (n' := 5) dX6_change_2 rfl lRX6_82 okX6_isFarm voX6_isFarm ⟨⟨Nat.le_of_ble_eq_true rfl, Nat.le_of_ble_eq_true rfl⟩, Nat.le_of_ble_eq_true rfl, Nat.le_of_ble_eq_true rfl⟩ (c6_isFarm h.1 h.2.1 _) rfl rfl (Nat.le_of_ble_eq_true rfl) rfl (Nat.le_of_ble_eq_true rfl) rfl ?_
  refine w_if_eq (n' := 8) (tgt := 32) dX6_change_5 rfl rfl (fun h5 => ?_) (fun h5 => ?_)
  · refine w_aload_n (i := 0) (n' := 33) dX6_change_32 rfl rfl rfl ?_
    refine w_ldc (v := -1000001) (n' := 35) dX6_change_33 rfl kRX6_43 ?_
    refine v_E (ci := 6) (n' := 38) dX6_change_35 rfl lRX6_45 okX6_finds voX6_finds ⟨⟨Nat.le_of_ble_eq_true rfl, Nat.le_of_ble_eq_true rfl⟩, Nat.le_of_ble_eq_true rfl, Nat.le_of_ble_eq_true rfl⟩ (c6_finds 0 _ (by decide) (by decide) _) rfl rfl (Nat.le_of_ble_eq_true rfl) rfl (Nat.le_of_ble_eq_true rfl) rfl ?_
    exact w_iret dX6_change_38 rfl ⟨_, rfl, Or.inl ⟨Or.inl h5, rfl, rfl⟩⟩
  · obtain ⟨i, hi1, hi2⟩ := hasF_of (n := n) (by omega) h5
    subst hi2
    refine w_iload_n (i := 2) (n' := 9) dX6_change_8 rfl rfl rfl ?_
    refine w_iload_n (i := 3) (n' := 10) dX6_change_9 rfl rfl rfl ?_
    refine s_E (n' := 13) dX6_change_10 rfl lRX6_102 okX6_isFit stX6_isFit ⟨⟨Nat.le_of_ble_eq_true rfl, Nat.le_of_ble_eq_true rfl⟩, Nat.le_of_ble_eq_true rfl, Nat.le_of_ble_eq_true rfl⟩ (c6_isFit _ _ _) rfl rfl (Nat.le_of_ble_eq_true rfl) ?_
    refine w_if_eq (n' := 16) (tgt := 32) dX6_change_13 rfl rfl (fun h13 => ?_) (fun h13 => ?_)
    · refine w_aload_n (i := 0) (n' := 33) dX6_change_32 rfl rfl rfl ?_
      refine w_ldc (v := -1000001) (n' := 35) dX6_change_33 rfl kRX6_43 ?_
      refine v_E (ci := 6) (n' := 38) dX6_change_35 rfl lRX6_45 okX6_finds voX6_finds ⟨⟨Nat.le_of_ble_eq_true rfl, Nat.le_of_ble_eq_true rfl⟩, Nat.le_of_ble_eq_true rfl, Nat.le_of_ble_eq_true rfl⟩ (c6_finds 0 _ (by decide) (by decide) _) rfl rfl (Nat.le_of_ble_eq_true rfl) rfl (Nat.le_of_ble_eq_true rfl) rfl ?_
      exact w_iret dX6_change_38 rfl ⟨_, rfl, Or.inl ⟨Or.inr h13, rfl, rfl⟩⟩
    · obtain ⟨j, hj1, hj2⟩ := fit_j h13
      subst hj2
      refine w_aload_n (i := 0) (n' := 17) dX6_change_16 rfl rfl rfl ?_
      refine w_bipush (v := 6) (n' := 19) dX6_change_17 rfl (by decide) ?_
      refine w_iconst (v := 5) (n' := 20) dX6_change_19 rfl rfl ?_
      refine w_iload_n (i := 1) (n' := 21) dX6_change_20 rfl rfl rfl ?_
      refine w_imul (n' := 22) dX6_change_21 rfl ?_
      refine w_iadd (n' := 23) dX6_change_22 rfl ?_
      refine w_iload_n (i := 2) (n' := 24) dX6_change_23 rfl rfl rfl ?_
      refine w_iadd (n' := 25) dX6_change_24 rfl ?_
      refine w_iload_n (i := 3) (n' := 26) dX6_change_25 rfl rfl rfl ?_
      refine v_E (ci := 6) (n' := 29) dX6_change_26 rfl lRX6_57 okX6_becomes voX6_becomes ⟨⟨Nat.le_of_ble_eq_true rfl, Nat.le_of_ble_eq_true rfl⟩, Nat.le_of_ble_eq_true rfl, Nat.le_of_ble_eq_true rfl⟩ (c6_becomes (p := 6 + 5 * i + j) _ _ (by rw [show (6 : Int32) = nI 6 from rfl, show (5 : Int32) = nI 5 from rfl, pk_mul, nI_add, nI_add]) (by omega) _) rfl rfl (Nat.le_of_ble_eq_true rfl) rfl (Nat.le_of_ble_eq_true rfl) rfl ?_
      refine w_goto (tgt := 38) dX6_change_29 rfl ?_
      exact w_iret dX6_change_38 rfl ⟨_, rfl, Or.inr ⟨h13, i, j, hi1, hj1, rfl, rfl, rfl, rfl⟩⟩
set_option maxHeartbeats 4000000 in
theorem c6_left {n : Nat} {mem : Mem} (h : MO mem n) (f a : Int32) : CnI mX6_left [.ref 50, .int f, .int a] mem (fun x m' => ((inR f 0 (nI n - 1) = 0 ∨ inR a 0 999 = 0) ∧ x = -1000001 ∧ m' = fndM mem 0) ∨ (¬ inR a 0 999 = 0 ∧ ∃ i d, i < n ∧ d ≤ 999 ∧ f = nI i ∧ a = nI d ∧ x = lbR (FM mem i 0) (FM mem i 2) (mem 51 3) d (FM mem i 1) ∧ m' = mem)) := by
  have h8 := h.2.1
  refine Cn.of (ls := [some (.ref 50), some (.int f), some (.int a)]) (by decide) rfl (Nat.le_of_ble_eq_true rfl) ?_
  refine w_aload_n (i := 0) (n' := 1) dX6_left_0 rfl rfl rfl ?_
  refine w_iload_n (i := 1) (n' := 2) dX6_left_1 rfl rfl rfl ?_
  refine v_E (ci := 6) (n' := 5) dX6_left_2 rfl lRX6_82 okX6_isFarm voX6_isFarm ⟨⟨Nat.le_of_ble_eq_true rfl, Nat.le_of_ble_eq_true rfl⟩, Nat.le_of_ble_eq_true rfl, Nat.le_of_ble_eq_true rfl⟩ (c6_isFarm h.1 h.2.1 _) rfl rfl (Nat.le_of_ble_eq_true rfl) rfl (Nat.le_of_ble_eq_true rfl) rfl ?_
  refine w_if_eq (n' := 8) (tgt := 29) dX6_left_5 rfl rfl (fun h5 => ?_) (fun h5 => ?_)
  · refine w_aload_n (i := 0) (n' := 30) dX6_left_29 rfl rfl rfl ?_
    refine w_ldc (v := -1000001) (n' := 32) dX6_left_30 rfl kRX6_43 ?_
    refine v_E (ci := 6) (n' := 35) dX6_left_32 rfl lRX6_45 okX6_finds voX6_finds ⟨⟨Nat.le_of_ble_eq_true rfl, Nat.le_of_ble_eq_true rfl⟩, Nat.le_of_ble_eq_true rfl, Nat.le_of_ble_eq_true rfl⟩ (c6_finds 0 _ (by decide) (by decide) _) rfl rfl (Nat.le_of_ble_eq_true rfl) rfl (Nat.le_of_ble_eq_true rfl) rfl ?_
    exact w_iret dX6_left_35 rfl ⟨_, rfl, Or.inl ⟨Or.inl h5, rfl, rfl⟩⟩
  · obtain ⟨i, hi1, hi2⟩ := hasF_of (n := n) (by omega) h5
    subst hi2
    refine w_iload_n (i := 2) (n' := 9) dX6_left_8 rfl rfl rfl ?_
    refine w_i2l (v := _) (n' := 10) dX6_left_9 rfl rfl ?_
    refine w_lconst (v := 0) (n' := 11) dX6_left_10 rfl rfl ?_
    refine w_ldc2 (v := 999) (n' := 14) dX6_left_11 rfl kRX6_63 ?_
    refine s_E (n' := 17) dX6_left_14 rfl lRX6_51 okX6_isIn stX6_isIn ⟨⟨Nat.le_of_ble_eq_true rfl, Nat.le_of_ble_eq_true rfl⟩, Nat.le_of_ble_eq_true rfl, Nat.le_of_ble_eq_true rfl⟩ (c6_isIn _ (0) (999) _ _ (by decide) (by decide) _) rfl rfl (Nat.le_of_ble_eq_true rfl) ?_
    refine w_if_eq (n' := 20) (tgt := 29) dX6_left_17 rfl rfl (fun h17 => ?_) (fun h17 => ?_)
    · refine w_aload_n (i := 0) (n' := 30) dX6_left_29 rfl rfl rfl ?_
      refine w_ldc (v := -1000001) (n' := 32) dX6_left_30 rfl kRX6_43 ?_
      refine v_E (ci := 6) (n' := 35) dX6_left_32 rfl lRX6_45 okX6_finds voX6_finds ⟨⟨Nat.le_of_ble_eq_true rfl, Nat.le_of_ble_eq_true rfl⟩, Nat.le_of_ble_eq_true rfl, Nat.le_of_ble_eq_true rfl⟩ (c6_finds 0 _ (by decide) (by decide) _) rfl rfl (Nat.le_of_ble_eq_true rfl) rfl (Nat.le_of_ble_eq_true rfl) rfl ?_
      exact w_iret dX6_left_35 rfl ⟨_, rfl, Or.inl ⟨Or.inr h17, rfl, rfl⟩⟩
    · obtain ⟨d, hd1, hd2⟩ := inR_of (N := 999) (by decide) h17
      subst hd2
      refine w_aload_n (i := 0) (n' := 21) dX6_left_20 rfl rfl rfl ?_
      refine w_iload_n (i := 1) (n' := 22) dX6_left_21 rfl rfl rfl ?_
      refine w_iload_n (i := 2) (n' := 23) dX6_left_22 rfl rfl rfl ?_
      refine v_E (ci := 6) (n' := 26) dX6_left_23 rfl lRX6_106 okX6_leftBehind voX6_leftBehind ⟨⟨Nat.le_of_ble_eq_true rfl, Nat.le_of_ble_eq_true rfl⟩, Nat.le_of_ble_eq_true rfl, Nat.le_of_ble_eq_true rfl⟩ (c6_leftBehind h hi1 (by omega)) rfl rfl (Nat.le_of_ble_eq_true rfl) rfl (Nat.le_of_ble_eq_true rfl) rfl ?_
      refine w_goto (tgt := 35) dX6_left_26 rfl ?_
      exact w_iret dX6_left_35 rfl ⟨_, rfl, Or.inr ⟨h17, i, d, hi1, hd1, rfl, rfl, rfl, rfl⟩⟩
theorem minI_N {a b : Nat} (ha : a < 2 ^ 31) (hb : b < 2 ^ 31) : minI (nI a) (nI b) = nI (min a b) := by
  unfold minI
  by_cases c : b < a
  · rw [if_pos (nI_lt c ha), Nat.min_eq_right (by omega)]
  · rw [if_neg (nI_nlt (by omega) hb), Nat.min_eq_left (by omega)]
theorem maxI_N {a b : Nat} (ha : a < 2 ^ 31) (hb : b < 2 ^ 31) : maxI (nI a) (nI b) = nI (max a b) := by
  unfold maxI
  by_cases c : a < b
  · rw [if_pos (nI_lt c hb), Nat.max_eq_right (by omega)]
  · rw [if_neg (nI_nlt (by omega) ha), Nat.max_eq_left (by omega)]
theorem clam9 (x : Int32) : -9 ≤ (maxI (-9) (minI 9 x)).toInt ∧ (maxI (-9) (minI 9 x)).toInt ≤ 9 := by
  have e1 : (-9 : Int32).toInt = -9 := by decide
  have e2 : (9 : Int32).toInt = 9 := by decide
  unfold maxI minI
  by_cases c : x < 9
  · rw [if_pos c]
    by_cases d : (-9 : Int32) < x
    · rw [if_pos d]
      rw [Int32.lt_iff_toInt_lt] at c d
      omega
    · rw [if_neg d]
      omega
  · rw [if_neg c]
    decide
theorem FB_yrS {L E b : Int32} {i : Nat} {r : Nat → Int32} (h : FB (fun j => r (6 + 5 * i + j))) : FB (fun j => yrS L E b i r (6 + 5 * i + j)) := by
  obtain ⟨h0, h1, ⟨d, d1, d2, d3⟩, h3, ⟨e, e1, e2⟩⟩ := h
  dsimp only at h0 h1 d3 h3 e2
  unfold FB yrS
  by_cases c : (L >>> (nI i &&& 31)) &&& 1 = 1
  · simp only [if_pos c]
    refine ⟨by simpa [upd] using h0, by simpa [upd] using h1, ⟨min 20 (d + 1), by omega, by omega, ?_⟩, by simpa [upd] using h3, ⟨min 9999 (e + 1), by omega, ?_⟩⟩
    · simp [upd]
      rw [d3, nI_1, show (20 : Int32) = nI 20 from rfl, minI_N (by decide) (by omega)]
    · simp [upd]
      rw [e2, nI_1, show (9999 : Int32) = nI 9999 from rfl, minI_N (by decide) (by omega)]
  · simp only [if_neg c]
    refine ⟨by simpa [upd] using h0, by simpa [upd] using h1, ?_, by simpa [upd] using clam9 _, ⟨e, e1, by simpa [upd] using e2⟩⟩
    simp [upd]
    unfold yrO
    by_cases q : (E >>> (nI i &&& 31)) &&& 1 = 1
    · refine ⟨max 1 (d - 1), by omega, by omega, ?_⟩
      rw [if_pos q, d3, show (1 : Int32) = nI 1 from rfl, pk_sub (by omega), maxI_N (by decide) (by omega)]
    · exact ⟨d, d1, d2, by rw [if_neg q, d3]⟩
theorem yrS_congr {L E b : Int32} {i : Nat} {r s : Nat → Int32} (h : ∀ j, j < 5 → r (6 + 5 * i + j) = s (6 + 5 * i + j)) {j : Nat} (hj : j < 5) : yrS L E b i r (6 + 5 * i + j) = yrS L E b i s (6 + 5 * i + j) := by
  have h2 := h 2 (by omega)
  have h3 := h 3 (by omega)
  have h4 := h 4 (by omega)
  have hj := h j hj
  unfold yrS yrO
  by_cases c : (L >>> (nI i &&& 31)) &&& 1 = 1
  · simp only [if_pos c, upd, h2, h4, hj]
  · simp only [if_neg c, upd, h2, h3, hj]
theorem yrR_at (s : Nat → Int32) (L E b : Int32) {i j : Nat} (hj : j < 5) : ∀ k, i < k → yrR s L E b k (6 + 5 * i + j) = yrS L E b i s (6 + 5 * i + j) := by
  intro k
  induction k with
  | zero => intro h; omega
  | succ k ih =>
    intro h
    rw [yrR]
    by_cases c : i = k
    · subst c
      exact yrS_congr (fun j hj => yrR_hi _ _ _ _ _ (by omega)) hj
    · rw [yrS_lo _ _ _ _ _ (by omega)]
      exact ih (by omega)
theorem FB_congr {f g : Nat → Int32} (h : ∀ j, j < 5 → f j = g j) (q : FB g) : FB f := by
  unfold FB at *
  rw [h 0 (by omega), h 1 (by omega), h 2 (by omega), h 3 (by omega), h 4 (by omega)]
  exact q
theorem MOR_year {s : Nat → Int32} {n : Nat} (h : MOR s n) : MOR (yearR s n) n := by
  refine ⟨?_, h.2.1, ?_, fun i hi => ?_⟩
  · unfold yearR
    simp only [upd]
    rw [if_neg (by omega), yrR_hi _ _ _ _ _ (by omega)]
    exact h.1
  · unfold yearR
    simp only [upd]
    rw [if_neg (by omega), yrR_hi _ _ _ _ _ (by omega)]
    exact h.2.2.1
  · refine FB_congr (fun j hj => ?_) (FB_yrS (L := lastS (DR s) n) (E := firstS (DR s) n) (b := sgnI (leanR s n (lastS (DR s) n))) (h.2.2.2 i hi))
    unfold yearR
    simp only [upd]
    rw [if_neg (by omega), yrR_at _ _ _ _ hj n hi]
def yrsR (s : Nat → Int32) (n : Nat) : Nat → Nat → Int32
  | 0 => s
  | y + 1 => yearR (yrsR s n y) n
theorem MOR_yrs {s : Nat → Int32} {n : Nat} (h : MOR s n) : ∀ y, MOR (yrsR s n y) n
  | 0 => h
  | y + 1 => MOR_year (MOR_yrs h y)
theorem yrsR_hi {s : Nat → Int32} {n : Nat} (hn : n ≤ 8) {j : Nat} (hj : 56 ≤ j) : ∀ y, yrsR s n y j = s j
  | 0 => rfl
  | y + 1 => by
    rw [yrsR]
    unfold yearR
    simp only [upd]
    rw [if_neg (by omega), yrR_hi _ _ _ _ _ (by omega)]
    exact yrsR_hi hn hj y
theorem RW.MO {mem m' : Mem} {r : Nat → Int32} {n : Nat} (h : RW mem r m') (hr : MOR r n) : MO m' n := MO_R.mpr (by rw [h.1]; exact hr)
theorem RW.tr {a b c : Mem} {r s : Nat → Int32} (h : RW a r b) (h2 : RW b s c) : RW a s c := ⟨h2.1, fun k k1 k2 => by rw [h2.2 k k1 k2, h.2 k k1 k2]⟩
theorem RW.rf (m : Mem) : RW m (m 51) m := ⟨rfl, fun _ _ _ => rfl⟩
theorem RW.cd {a b : Mem} {r : Nat → Int32} {n : Nat} (h : RW a r b) : RW a r (cdM b n) := ⟨by rw [cd_o _ _ (by decide)]; exact h.1, fun k k1 k2 => by rw [cd_o _ _ k2]; exact h.2 k k1 k2⟩
theorem RW.yr {a b c : Mem} {s : Nat → Int32} {n y : Nat} (h : RW a (yrsR s n y) b) (h2 : RW b (yearR (b 51) n) c) : RW a (yrsR s n (y + 1)) c := by
  rw [h.1] at h2
  exact h.tr h2
theorem RW.DM {a b : Mem} {r : Nat → Int32} (h : RW a r b) : DM b = DR r := by rw [DM_R, h.1]
theorem RW.lean {a b : Mem} {r : Nat → Int32} (h : RW a r b) (n : Nat) (L : Int32) : leanXM b n L = leanR r n L := by rw [leanXM_R, h.1]
set_option maxHeartbeats 4000000 in
theorem c6_years {n y : Nat} {mem : Mem} (h : MO mem n) (hy : y ≤ 1000) : CnV mX6_years [.ref 50, .int (nI y)] mem (fun m' => RW mem (yrsR (mem 51) n y) m') := by
  have hR := MO_R.mp h
  refine Cn.of (ls := [some (.ref 50), some (.int (nI y)), none]) (by decide) rfl (Nat.le_of_ble_eq_true rfl) ?_
  refine w_iconst (v := 0) (n' := 1) dX6_years_0 rfl rfl ?_
  refine w_istore_n (i := 2) (n' := 2) (ls' := [_, _, _]) dX6_years_1 rfl rfl (Nat.le_of_ble_eq_true rfl) rfl rfl ?_
  have L : ∀ (i : Nat) (s : Mem), i ≤ y → RW mem (yrsR (mem 51) n i) s → Wm mX6_years (zM mX6_years (fun rZ mZ => rZ = none ∧ (fun m' => RW mem (yrsR (mem 51) n y) m') mZ)) 2 [some (.ref 50), some (.int (nI y)), some (.int (nI i))] [] s := by
    refine for_ind y ?_
    intro i s hi h1 ih
    have hp := h1.MO (MOR_yrs hR i)
    refine w_iload_n (i := 2) (n' := 3) dX6_years_2 rfl rfl rfl ?_
    refine w_iload_n (i := 1) (n' := 4) dX6_years_3 rfl rfl rfl ?_
    refine w_icmp_ge (n' := 7) (tgt := 17) dX6_years_4 rfl rfl (fun h4 => ?_) (fun h4 => ?_)
    · have hin : i = y := by
        rcases Nat.lt_or_ge i y with c | c
        · exact absurd h4 (by exact nI_ge (b := y) c (by omega))
        · omega
      subst hin
      exact w_vret dX6_years_17 rfl ⟨rfl, h1⟩
    · have hlt : i < y := by
        rcases Nat.lt_or_ge i y with c | c
        · exact c
        · exact absurd (by exact nI_le (a := y) c (by omega)) h4
      refine w_aload_n (i := 0) (n' := 8) dX6_years_7 rfl rfl rfl ?_
      refine v_V (ci := 6) (n' := 11) dX6_years_8 rfl lRX6_142 okX6_year voX6_year ⟨⟨Nat.le_of_ble_eq_true rfl, Nat.le_of_ble_eq_true rfl⟩, Nat.le_of_ble_eq_true rfl, Nat.le_of_ble_eq_true rfl⟩ (c6_year hp) rfl rfl (Nat.le_of_ble_eq_true rfl) rfl (Nat.le_of_ble_eq_true rfl) rfl (fun m8 q8 => ?_)
      refine w_iinc (n' := 14) (v := nI (i + 1)) (ls' := [_, _, _]) dX6_years_11 rfl rfl (nI_1 i) (Nat.le_of_ble_eq_true rfl) rfl rfl ?_
      refine w_goto (tgt := 2) dX6_years_14 rfl ?_
      exact ih hlt _ (h1.yr q8)
  exact L 0 _ (Nat.zero_le _) (RW.rf mem)
set_option maxHeartbeats 4000000 in
theorem c6_go {n : Nat} {mem : Mem} (h : MO mem n) (a : Int32) : CnI mX6_go [.ref 50, .int a] mem (fun x m' => (inR a 1 60 = 0 ∧ x = -1000001 ∧ m' = fndM mem 0) ∨ (¬ inR a 1 60 = 0 ∧ ¬ mem 51 1 + a ≤ 99999 ∧ x = -1000005 ∧ m' = fndM mem 4) ∨ (∃ y, 1 ≤ y ∧ y ≤ 60 ∧ a = nI y ∧ mem 51 1 + a ≤ 99999 ∧ x = leanR (yrsR (mem 51) n y) n (lastS (DR (yrsR (mem 51) n y)) n) ∧ RW mem (yrsR (mem 51) n y) m')) := by
  refine Cn.of (ls := [some (.ref 50), some (.int a)]) (by decide) rfl (Nat.le_of_ble_eq_true rfl) ?_
  refine w_iload_n (i := 1) (n' := 1) dX6_go_0 rfl rfl rfl ?_
  refine w_i2l (v := _) (n' := 2) dX6_go_1 rfl rfl ?_
  refine w_lconst (v := 1) (n' := 3) dX6_go_2 rfl rfl ?_
  refine w_ldc2 (v := 60) (n' := 6) dX6_go_3 rfl kRX6_145 ?_
  refine s_E (n' := 9) dX6_go_6 rfl lRX6_51 okX6_isIn stX6_isIn ⟨⟨Nat.le_of_ble_eq_true rfl, Nat.le_of_ble_eq_true rfl⟩, Nat.le_of_ble_eq_true rfl, Nat.le_of_ble_eq_true rfl⟩ (c6_isIn _ (1) (60) _ _ (by decide) (by decide) _) rfl rfl (Nat.le_of_ble_eq_true rfl) ?_
  refine w_if_ne (n' := 12) (tgt := 19) dX6_go_9 rfl rfl (fun h9 => ?_) (fun h9 => ?_)
  · refine w_aload_n (i := 0) (n' := 20) dX6_go_19 rfl rfl rfl ?_
    refine w_get (ci := 6) (j := 0) (n' := 23) dX6_go_20 rfl fRX6_7 (Nat.le_of_ble_eq_true rfl) (Nat.le_of_ble_eq_true rfl) rfl rfl ?_
    refine w_iconst (v := 1) (n' := 24) dX6_go_23 rfl rfl ?_
    refine w_iald (n := 1) (n' := 25) dX6_go_24 rfl rfl (by decide) (by decide) ?_
    refine w_iload_n (i := 1) (n' := 26) dX6_go_25 rfl rfl rfl ?_
    refine w_iadd (n' := 27) dX6_go_26 rfl ?_
    refine w_ldc (v := 99999) (n' := 29) dX6_go_27 rfl kRX6_147 ?_
    refine w_icmp_le (n' := 32) (tgt := 39) dX6_go_29 rfl rfl (fun h29 => ?_) (fun h29 => ?_)
    · obtain ⟨y, hy0, hy1, hy2⟩ := inR_1 (K := 1) (N := 60) (by decide) (by decide) h9
      subst hy2
      refine w_aload_n (i := 0) (n' := 40) dX6_go_39 rfl rfl rfl ?_
      refine w_iload_n (i := 1) (n' := 41) dX6_go_40 rfl rfl rfl ?_
      refine v_V (ci := 6) (n' := 44) dX6_go_41 rfl lRX6_149 okX6_years voX6_years ⟨⟨Nat.le_of_ble_eq_true rfl, Nat.le_of_ble_eq_true rfl⟩, Nat.le_of_ble_eq_true rfl, Nat.le_of_ble_eq_true rfl⟩ (c6_years h (show y ≤ 1000 by omega)) rfl rfl (Nat.le_of_ble_eq_true rfl) rfl (Nat.le_of_ble_eq_true rfl) rfl (fun m41 q41 => ?_)
      refine w_aload_n (i := 0) (n' := 45) dX6_go_44 rfl rfl rfl ?_
      refine v_E (ci := 6) (n' := 48) dX6_go_45 rfl lRX6_131 okX6_leanNow voX6_leanNow ⟨⟨Nat.le_of_ble_eq_true rfl, Nat.le_of_ble_eq_true rfl⟩, Nat.le_of_ble_eq_true rfl, Nat.le_of_ble_eq_true rfl⟩ (c6_leanNow (q41.MO (MOR_yrs (MO_R.mp h) y))) rfl rfl (Nat.le_of_ble_eq_true rfl) rfl (Nat.le_of_ble_eq_true rfl) rfl ?_
      exact w_iret dX6_go_48 rfl ⟨_, rfl, Or.inr (Or.inr ⟨y, hy0, hy1, rfl, h29, by rw [q41.lean, q41.DM], q41.cd⟩)⟩
    · refine w_aload_n (i := 0) (n' := 33) dX6_go_32 rfl rfl rfl ?_
      refine w_ldc (v := -1000005) (n' := 35) dX6_go_33 rfl kRX6_148 ?_
      refine v_E (ci := 6) (n' := 38) dX6_go_35 rfl lRX6_45 okX6_finds voX6_finds ⟨⟨Nat.le_of_ble_eq_true rfl, Nat.le_of_ble_eq_true rfl⟩, Nat.le_of_ble_eq_true rfl, Nat.le_of_ble_eq_true rfl⟩ (c6_finds 4 _ (by decide) (by decide) _) rfl rfl (Nat.le_of_ble_eq_true rfl) rfl (Nat.le_of_ble_eq_true rfl) rfl ?_
      exact w_iret dX6_go_38 rfl ⟨_, rfl, Or.inr (Or.inl ⟨h9, h29, rfl, rfl⟩)⟩
  · refine w_aload_n (i := 0) (n' := 13) dX6_go_12 rfl rfl rfl ?_
    refine w_ldc (v := -1000001) (n' := 15) dX6_go_13 rfl kRX6_43 ?_
    refine v_E (ci := 6) (n' := 18) dX6_go_15 rfl lRX6_45 okX6_finds voX6_finds ⟨⟨Nat.le_of_ble_eq_true rfl, Nat.le_of_ble_eq_true rfl⟩, Nat.le_of_ble_eq_true rfl, Nat.le_of_ble_eq_true rfl⟩ (c6_finds 0 _ (by decide) (by decide) _) rfl rfl (Nat.le_of_ble_eq_true rfl) rfl (Nat.le_of_ble_eq_true rfl) rfl ?_
    exact w_iret dX6_go_18 rfl ⟨_, rfl, Or.inl ⟨by simpa using h9, rfl, rfl⟩⟩
set_option maxHeartbeats 4000000 in
theorem c6_sumOf {n j : Nat} {mem : Mem} (h : mem 51 0 = nI n) (h8 : n ≤ 8) (a : Int32) (ha : a = nI j) (hj : j < 5) : CnE mX6_sumOf [.ref 50, .int a] mem (some (.int (sumT (fun i => FM mem i j) n))) mem := by
  refine Cn.of (ls := [some (.ref 50), some (.int a), none, none]) (by decide) rfl (Nat.le_of_ble_eq_true rfl) ?_
  refine w_iconst (v := 0) (n' := 1) dX6_sumOf_0 rfl rfl ?_
  refine w_istore_n (i := 2) (n' := 2) (ls' := [_, _, _, _]) dX6_sumOf_1 rfl rfl (Nat.le_of_ble_eq_true rfl) rfl rfl ?_
  refine w_iconst (v := 0) (n' := 3) dX6_sumOf_2 rfl rfl ?_
  refine w_istore_n (i := 3) (n' := 4) (ls' := [_, _, _, _]) dX6_sumOf_3 rfl rfl (Nat.le_of_ble_eq_true rfl) rfl rfl ?_
  have L : ∀ (i : Nat) (s : Int32), i ≤ n → s = sumT (fun i => FM mem i j) i → Wm mX6_sumOf (zM mX6_sumOf (fun r' m' => r' = (some (.int (sumT (fun i => FM mem i j) n))) ∧ m' = mem)) 4 [some (.ref 50), some (.int a), some (.int s), some (.int (nI i))] [] mem := by
    refine for_ind n ?_
    intro i s hi h1 ih
    refine w_iload_n (i := 3) (n' := 5) dX6_sumOf_4 rfl rfl rfl ?_
    refine w_aload_n (i := 0) (n' := 6) dX6_sumOf_5 rfl rfl rfl ?_
    refine w_get (ci := 6) (j := 0) (n' := 9) dX6_sumOf_6 rfl fRX6_7 (Nat.le_of_ble_eq_true rfl) (Nat.le_of_ble_eq_true rfl) rfl rfl ?_
    refine w_iconst (v := 0) (n' := 10) dX6_sumOf_9 rfl rfl ?_
    refine w_iald (n := 0) (n' := 11) dX6_sumOf_10 rfl rfl (by decide) (by decide) ?_
    refine w_icmp_ge (n' := 14) (tgt := 29) dX6_sumOf_11 rfl rfl (fun h11 => ?_) (fun h11 => ?_)
    · have hin : i = n := by
        rcases Nat.lt_or_ge i n with c | c
        · exact absurd h11 (by rw [h]; exact nI_ge (b := n) c (by omega))
        · omega
      subst hin
      refine w_iload_n (i := 2) (n' := 30) dX6_sumOf_29 rfl rfl rfl ?_
      exact w_iret dX6_sumOf_30 rfl ⟨by rw [h1], rfl⟩
    · have hlt : i < n := by
        rcases Nat.lt_or_ge i n with c | c
        · exact c
        · exact absurd (by rw [h]; exact nI_le (a := n) c (by omega)) h11
      refine w_iload_n (i := 2) (n' := 15) dX6_sumOf_14 rfl rfl rfl ?_
      refine w_aload_n (i := 0) (n' := 16) dX6_sumOf_15 rfl rfl rfl ?_
      refine w_iload_n (i := 3) (n' := 17) dX6_sumOf_16 rfl rfl rfl ?_
      refine w_iload_n (i := 1) (n' := 18) dX6_sumOf_17 rfl rfl rfl ?_
      refine v_E (ci := 6) (n' := 21) dX6_sumOf_18 rfl lRX6_70 okX6_its voX6_its ⟨⟨Nat.le_of_ble_eq_true rfl, Nat.le_of_ble_eq_true rfl⟩, Nat.le_of_ble_eq_true rfl, Nat.le_of_ble_eq_true rfl⟩ (c6_its (i := i) (j := j) _ _ rfl ha (by omega) _) rfl rfl (Nat.le_of_ble_eq_true rfl) rfl (Nat.le_of_ble_eq_true rfl) rfl ?_
      refine w_iadd (n' := 22) dX6_sumOf_21 rfl ?_
      refine w_istore_n (i := 2) (n' := 23) (ls' := [_, _, _, _]) dX6_sumOf_22 rfl rfl (Nat.le_of_ble_eq_true rfl) rfl rfl ?_
      refine w_iinc (n' := 26) (v := nI (i + 1)) (ls' := [_, _, _, _]) dX6_sumOf_23 rfl rfl (nI_1 i) (Nat.le_of_ble_eq_true rfl) rfl rfl ?_
      refine w_goto (tgt := 4) dX6_sumOf_26 rfl ?_
      exact ih hlt _ (by rw [h1]; rfl)
  exact L 0 0 (Nat.zero_le _) rfl
set_option maxHeartbeats 4000000 in
theorem c6_hadEver {n : Nat} {mem : Mem} (h : mem 51 0 = nI n) (h8 : n ≤ 8) : CnE mX6_hadEver [.ref 50] mem (some (.int (bitT (fun i => decide (¬ FM mem i 4 ≤ 0)) n))) mem := by
  refine Cn.of (ls := [some (.ref 50), none, none]) (by decide) rfl (Nat.le_of_ble_eq_true rfl) ?_
  refine w_iconst (v := 0) (n' := 1) dX6_hadEver_0 rfl rfl ?_
  refine w_istore_n (i := 1) (n' := 2) (ls' := [_, _, _]) dX6_hadEver_1 rfl rfl (Nat.le_of_ble_eq_true rfl) rfl rfl ?_
  refine w_iconst (v := 0) (n' := 3) dX6_hadEver_2 rfl rfl ?_
  refine w_istore_n (i := 2) (n' := 4) (ls' := [_, _, _]) dX6_hadEver_3 rfl rfl (Nat.le_of_ble_eq_true rfl) rfl rfl ?_
  have L : ∀ (i : Nat) (s : Int32), i ≤ n → s = bitT (fun i => decide (¬ FM mem i 4 ≤ 0)) i → Wm mX6_hadEver (zM mX6_hadEver (fun r' m' => r' = (some (.int (bitT (fun i => decide (¬ FM mem i 4 ≤ 0)) n))) ∧ m' = mem)) 4 [some (.ref 50), some (.int s), some (.int (nI i))] [] mem := by
    refine for_ind n ?_
    intro i s hi h1 ih
    refine w_iload_n (i := 2) (n' := 5) dX6_hadEver_4 rfl rfl rfl ?_
    refine w_aload_n (i := 0) (n' := 6) dX6_hadEver_5 rfl rfl rfl ?_
    refine w_get (ci := 6) (j := 0) (n' := 9) dX6_hadEver_6 rfl fRX6_7 (Nat.le_of_ble_eq_true rfl) (Nat.le_of_ble_eq_true rfl) rfl rfl ?_
    refine w_iconst (v := 0) (n' := 10) dX6_hadEver_9 rfl rfl ?_
    refine w_iald (n := 0) (n' := 11) dX6_hadEver_10 rfl rfl (by decide) (by decide) ?_
    refine w_icmp_ge (n' := 14) (tgt := 39) dX6_hadEver_11 rfl rfl (fun h11 => ?_) (fun h11 => ?_)
    · have hin : i = n := by
        rcases Nat.lt_or_ge i n with c | c
        · exact absurd h11 (by rw [h]; exact nI_ge (b := n) c (by omega))
        · omega
      subst hin
      refine w_iload_n (i := 1) (n' := 40) dX6_hadEver_39 rfl rfl rfl ?_
      exact w_iret dX6_hadEver_40 rfl ⟨by rw [h1], rfl⟩
    · have hlt : i < n := by
        rcases Nat.lt_or_ge i n with c | c
        · exact c
        · exact absurd (by rw [h]; exact nI_le (a := n) c (by omega)) h11
      refine w_iload_n (i := 1) (n' := 15) dX6_hadEver_14 rfl rfl rfl ?_
      refine w_aload_n (i := 0) (n' := 16) dX6_hadEver_15 rfl rfl rfl ?_
      refine w_iload_n (i := 2) (n' := 17) dX6_hadEver_16 rfl rfl rfl ?_
      refine w_iconst (v := 4) (n' := 18) dX6_hadEver_17 rfl rfl ?_
      refine v_E (ci := 6) (n' := 21) dX6_hadEver_18 rfl lRX6_70 okX6_its voX6_its ⟨⟨Nat.le_of_ble_eq_true rfl, Nat.le_of_ble_eq_true rfl⟩, Nat.le_of_ble_eq_true rfl, Nat.le_of_ble_eq_true rfl⟩ (c6_its (i := i) (j := 4) _ _ rfl (by decide) (by omega) _) rfl rfl (Nat.le_of_ble_eq_true rfl) rfl (Nat.le_of_ble_eq_true rfl) rfl ?_
      refine w_if_le (n' := 24) (tgt := 30) dX6_hadEver_21 rfl rfl (fun h21 => ?_) (fun h21 => ?_)
      · refine w_iconst (v := 0) (n' := 31) dX6_hadEver_30 rfl rfl ?_
        refine w_ior (n' := 32) dX6_hadEver_31 rfl ?_
        refine w_istore_n (i := 1) (n' := 33) (ls' := [_, _, _]) dX6_hadEver_32 rfl rfl (Nat.le_of_ble_eq_true rfl) rfl rfl ?_
        refine w_iinc (n' := 36) (v := nI (i + 1)) (ls' := [_, _, _]) dX6_hadEver_33 rfl rfl (nI_1 i) (Nat.le_of_ble_eq_true rfl) rfl rfl ?_
        refine w_goto (tgt := 4) dX6_hadEver_36 rfl ?_
        exact ih hlt _ (by rw [h1, or_0, bitT, if_neg (by rw [decide_eq_true_iff]; exact fun q => q h21)])
      · refine w_iconst (v := 1) (n' := 25) dX6_hadEver_24 rfl rfl ?_
        refine w_iload_n (i := 2) (n' := 26) dX6_hadEver_25 rfl rfl rfl ?_
        refine w_ishl (n' := 27) dX6_hadEver_26 rfl ?_
        refine w_goto (tgt := 31) dX6_hadEver_27 rfl ?_
        refine w_ior (n' := 32) dX6_hadEver_31 rfl ?_
        refine w_istore_n (i := 1) (n' := 33) (ls' := [_, _, _]) dX6_hadEver_32 rfl rfl (Nat.le_of_ble_eq_true rfl) rfl rfl ?_
        refine w_iinc (n' := 36) (v := nI (i + 1)) (ls' := [_, _, _]) dX6_hadEver_33 rfl rfl (nI_1 i) (Nat.le_of_ble_eq_true rfl) rfl rfl ?_
        refine w_goto (tgt := 4) dX6_hadEver_36 rfl ?_
        exact ih hlt _ (by rw [h1, bitT, if_pos (by rw [decide_eq_true_iff]; exact h21)])
  exact L 0 0 (Nat.zero_le _) rfl
def nowM (m : Mem) (n : Nat) (a : Int32) : Int32 := if a = 0 then m 51 1 else if a = 1 then sumT (fun i => FM m i 2) n else if a = 2 then sumT (fun i => FM m i 3) n else if a = 3 then bitT (fun i => decide (¬ FM m i 4 ≤ 0)) n else if a = 4 then sumT (fun i => FM m i 1) n else mx (DM m) n
/-- the row, but for what lies past its farms, and all cells but the days, the cuts and the row aside stay -/
def QM (mem m' : Mem) : Prop := (∀ j, j < 56 → m' 51 j = mem 51 j) ∧ ∀ a, a ≠ 51 → a ≠ 54 → a ≠ 60 → a ≠ 61 → m' a = mem a
theorem QM.rf (m : Mem) : QM m m := ⟨fun _ _ => rfl, fun _ _ _ _ _ => rfl⟩
theorem QM.cd {a b : Mem} {n : Nat} (h : QM a b) : QM a (cdM b n) := ⟨fun j hj => by rw [cd_o _ _ (by decide)]; exact h.1 j hj, fun k k1 k2 k3 k4 => by rw [cd_o _ _ k3]; exact h.2 k k1 k2 k3 k4⟩
/-- aside, years, and back -/
theorem QM.back {mem m1 m2 : Mem} {r : Nat → Int32} (h : RW (rowC mem 51 54) r m1) (h2 : m2 = rowC m1 54 51) : QM mem m2 := by
  subst h2
  refine ⟨fun j hj => ?_, fun a a1 a2 a3 _ => ?_⟩
  · unfold rowC
    rw [upR_same, if_pos hj, h.2 54 (by decide) (by decide)]
    unfold rowC
    rw [upR_same, if_pos hj]
  · unfold rowC
    rw [upR_ne _ _ a1, h.2 a a1 a3]
    unfold rowC
    rw [upR_ne _ _ a2]
theorem asd_51 (m : Mem) : rowC m 51 54 51 = m 51 := by
  unfold rowC
  rw [upR_ne _ _ (by decide)]
theorem asd_MO {m : Mem} {n : Nat} (h : MO m n) : MO (rowC m 51 54) n := MO_of h (asd_51 m)
set_option maxHeartbeats 4000000 in
theorem c6_now {n : Nat} {mem : Mem} (h : MO mem n) (a : Int32) : CnI mX6_now [.ref 50, .int a] mem (fun x m' => ((¬ a = 0 ∧ ¬ a = 1 ∧ ¬ a = 2 ∧ ¬ a = 3 ∧ ¬ a = 4 ∧ ¬ a = 5) ∧ x = -1000001 ∧ m' = fndM mem 0) ∨ ((a = 0 ∨ a = 1 ∨ a = 2 ∨ a = 3 ∨ a = 4 ∨ a = 5) ∧ x = nowM mem n a ∧ QM mem m')) := by
  refine Cn.of (ls := [some (.ref 50), some (.int a)]) (by decide) rfl (Nat.le_of_ble_eq_true rfl) ?_
  refine w_iload_n (i := 1) (n' := 1) dX6_now_0 rfl rfl rfl ?_
  refine w_tc (0) (tgt := 40) dX6_now_1 (by decide) (by decide) rfl rfl (fun e1_0 => ?_) (fun e1_0 => ?_)
  · refine w_aload_n (i := 0) (n' := 41) dX6_now_40 rfl rfl rfl ?_
    refine w_get (ci := 6) (j := 0) (n' := 44) dX6_now_41 rfl fRX6_7 (Nat.le_of_ble_eq_true rfl) (Nat.le_of_ble_eq_true rfl) rfl rfl ?_
    refine w_iconst (v := 1) (n' := 45) dX6_now_44 rfl rfl ?_
    refine w_iald (n := 1) (n' := 46) dX6_now_45 rfl rfl (by decide) (by decide) ?_
    exact w_iret dX6_now_46 rfl ⟨_, rfl, Or.inr ⟨by simp [e1_0], by simp [nowM, e1_0], QM.rf _⟩⟩
  refine w_tc (1) (tgt := 47) dX6_now_1 (by decide) (by decide) rfl rfl (fun e1_1 => ?_) (fun e1_1 => ?_)
  · refine w_aload_n (i := 0) (n' := 48) dX6_now_47 rfl rfl rfl ?_
    refine w_iconst (v := 2) (n' := 49) dX6_now_48 rfl rfl ?_
    refine v_E (ci := 6) (n' := 52) dX6_now_49 rfl lRX6_153 okX6_sumOf voX6_sumOf ⟨⟨Nat.le_of_ble_eq_true rfl, Nat.le_of_ble_eq_true rfl⟩, Nat.le_of_ble_eq_true rfl, Nat.le_of_ble_eq_true rfl⟩ (c6_sumOf (j := 2) h.1 h.2.1 _ rfl (by decide)) rfl rfl (Nat.le_of_ble_eq_true rfl) rfl (Nat.le_of_ble_eq_true rfl) rfl ?_
    exact w_iret dX6_now_52 rfl ⟨_, rfl, Or.inr ⟨by simp [e1_1], by simp [nowM, e1_0, e1_1], QM.rf _⟩⟩
  refine w_tc (2) (tgt := 53) dX6_now_1 (by decide) (by decide) rfl rfl (fun e1_2 => ?_) (fun e1_2 => ?_)
  · refine w_aload_n (i := 0) (n' := 54) dX6_now_53 rfl rfl rfl ?_
    refine w_iconst (v := 3) (n' := 55) dX6_now_54 rfl rfl ?_
    refine v_E (ci := 6) (n' := 58) dX6_now_55 rfl lRX6_153 okX6_sumOf voX6_sumOf ⟨⟨Nat.le_of_ble_eq_true rfl, Nat.le_of_ble_eq_true rfl⟩, Nat.le_of_ble_eq_true rfl, Nat.le_of_ble_eq_true rfl⟩ (c6_sumOf (j := 3) h.1 h.2.1 _ rfl (by decide)) rfl rfl (Nat.le_of_ble_eq_true rfl) rfl (Nat.le_of_ble_eq_true rfl) rfl ?_
    exact w_iret dX6_now_58 rfl ⟨_, rfl, Or.inr ⟨by simp [e1_2], by simp [nowM, e1_0, e1_1, e1_2], QM.rf _⟩⟩
  refine w_tc (3) (tgt := 59) dX6_now_1 (by decide) (by decide) rfl rfl (fun e1_3 => ?_) (fun e1_3 => ?_)
  · refine w_aload_n (i := 0) (n' := 60) dX6_now_59 rfl rfl rfl ?_
    refine v_E (ci := 6) (n' := 63) dX6_now_60 rfl lRX6_156 okX6_hadEver voX6_hadEver ⟨⟨Nat.le_of_ble_eq_true rfl, Nat.le_of_ble_eq_true rfl⟩, Nat.le_of_ble_eq_true rfl, Nat.le_of_ble_eq_true rfl⟩ (c6_hadEver h.1 h.2.1) rfl rfl (Nat.le_of_ble_eq_true rfl) rfl (Nat.le_of_ble_eq_true rfl) rfl ?_
    exact w_iret dX6_now_63 rfl ⟨_, rfl, Or.inr ⟨by simp [e1_3], by simp [nowM, e1_0, e1_1, e1_2, e1_3], QM.rf _⟩⟩
  refine w_tc (4) (tgt := 64) dX6_now_1 (by decide) (by decide) rfl rfl (fun e1_4 => ?_) (fun e1_4 => ?_)
  · refine w_aload_n (i := 0) (n' := 65) dX6_now_64 rfl rfl rfl ?_
    refine w_iconst (v := 1) (n' := 66) dX6_now_65 rfl rfl ?_
    refine v_E (ci := 6) (n' := 69) dX6_now_66 rfl lRX6_153 okX6_sumOf voX6_sumOf ⟨⟨Nat.le_of_ble_eq_true rfl, Nat.le_of_ble_eq_true rfl⟩, Nat.le_of_ble_eq_true rfl, Nat.le_of_ble_eq_true rfl⟩ (c6_sumOf (j := 1) h.1 h.2.1 _ rfl (by decide)) rfl rfl (Nat.le_of_ble_eq_true rfl) rfl (Nat.le_of_ble_eq_true rfl) rfl ?_
    exact w_iret dX6_now_69 rfl ⟨_, rfl, Or.inr ⟨by simp [e1_4], by simp [nowM, e1_0, e1_1, e1_2, e1_3, e1_4], QM.rf _⟩⟩
  refine w_tc (5) (tgt := 70) dX6_now_1 (by decide) (by decide) rfl rfl (fun e1_5 => ?_) (fun e1_5 => ?_)
  · refine w_aload_n (i := 0) (n' := 71) dX6_now_70 rfl rfl rfl ?_
    refine v_E (ci := 6) (n' := 74) dX6_now_71 rfl lRX6_109 okX6_countsDays voX6_countsDays ⟨⟨Nat.le_of_ble_eq_true rfl, Nat.le_of_ble_eq_true rfl⟩, Nat.le_of_ble_eq_true rfl, Nat.le_of_ble_eq_true rfl⟩ (c6_countsDays h) rfl rfl (Nat.le_of_ble_eq_true rfl) rfl (Nat.le_of_ble_eq_true rfl) rfl ?_
    refine w_aload_n (i := 0) (n' := 75) dX6_now_74 rfl rfl rfl ?_
    refine v_E (ci := 6) (n' := 78) dX6_now_75 rfl lRX6_112 okX6_mostDays voX6_mostDays ⟨⟨Nat.le_of_ble_eq_true rfl, Nat.le_of_ble_eq_true rfl⟩, Nat.le_of_ble_eq_true rfl, Nat.le_of_ble_eq_true rfl⟩ (c6_mostDays (cd_MO h).1 h.2.1) rfl rfl (Nat.le_of_ble_eq_true rfl) rfl (Nat.le_of_ble_eq_true rfl) rfl ?_
    rw [cd_mx]
    exact w_iret dX6_now_78 rfl ⟨_, rfl, Or.inr ⟨by simp [e1_5], by simp [nowM, e1_0, e1_1, e1_2, e1_3, e1_4], (QM.rf _).cd⟩⟩
  refine w_td [0, 1, 2, 3, 4, 5] (tgt := 79) dX6_now_1 rfl (by decide) (List.forall_mem_cons.mpr ⟨e1_0, (List.forall_mem_cons.mpr ⟨e1_1, (List.forall_mem_cons.mpr ⟨e1_2, (List.forall_mem_cons.mpr ⟨e1_3, (List.forall_mem_cons.mpr ⟨e1_4, (List.forall_mem_cons.mpr ⟨e1_5, (fun _ h => absurd h List.not_mem_nil)⟩)⟩)⟩)⟩)⟩)⟩) ?_
  refine w_aload_n (i := 0) (n' := 80) dX6_now_79 rfl rfl rfl ?_
  refine w_ldc (v := -1000001) (n' := 82) dX6_now_80 rfl kRX6_43 ?_
  refine v_E (ci := 6) (n' := 85) dX6_now_82 rfl lRX6_45 okX6_finds voX6_finds ⟨⟨Nat.le_of_ble_eq_true rfl, Nat.le_of_ble_eq_true rfl⟩, Nat.le_of_ble_eq_true rfl, Nat.le_of_ble_eq_true rfl⟩ (c6_finds 0 _ (by decide) (by decide) _) rfl rfl (Nat.le_of_ble_eq_true rfl) rfl (Nat.le_of_ble_eq_true rfl) rfl ?_
  exact w_iret dX6_now_85 rfl ⟨_, rfl, Or.inl ⟨⟨e1_0, e1_1, e1_2, e1_3, e1_4, e1_5⟩, rfl, rfl⟩⟩
