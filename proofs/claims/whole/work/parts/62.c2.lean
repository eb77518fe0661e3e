/-! the class: the tape -/
def BR (m : Mem) (T : Nat) : Prop := ∀ j, j < T → ∃ k, k < 256 ∧ m 56 j = nI k ∧ m 38 j = (nI k).toInt8.toInt32
theorem byt_tab : ∀ k, k < 256 → leT (nI k).toInt8.toInt32 = leT (nI k) ∧ dgT (nI k).toInt8.toInt32 = dgT (nI k) ∧ ((nI k).toInt8.toInt32 = 32 ↔ nI k = 32) ∧ ((nI k).toInt8.toInt32 = 59 ↔ nI k = 59) ∧ ((nI k).toInt8.toInt32 = 45 ↔ nI k = 45) ∧ 0 ≤ nI k ∧ (dgT (nI k) = true → (nI k).toInt8.toInt32 = nI k) := by decide +kernel
theorem byt_lo : ∀ k, k < 128 → (nI k).toInt8.toInt32 = nI k := by decide +kernel
theorem byt_hi : ∀ k, k < 256 → 128 ≤ k → (nI k).toInt8.toInt32 < 0 := by decide +kernel
theorem byt_eq {k z : Nat} (hk : k < 256) (hz : z < 128) : (nI k).toInt8.toInt32 = nI z ↔ nI k = nI z := by
  rcases Nat.lt_or_ge k 128 with h | h
  · rw [byt_lo k h]
  · have h1 := byt_hi k hk h
    constructor
    · intro e
      rw [e] at h1
      exact absurd h1 (nI_pos (by omega))
    · intro e
      have := (nI_eq (by omega) (by omega)).mp e
      omega
theorem BR_at {m : Mem} {T j : Nat} (h : BR m T) (hj : j < T) : leT (m 38 j) = leT (BT m T j) ∧ dgT (m 38 j) = dgT (BT m T j) ∧ (m 38 j = 32 ↔ BT m T j = 32) ∧ (m 38 j = 59 ↔ BT m T j = 59) ∧ (m 38 j = 45 ↔ BT m T j = 45) ∧ 0 ≤ BT m T j ∧ (dgT (BT m T j) = true → m 38 j = BT m T j) := by
  obtain ⟨k, hk, e1, e2⟩ := h j hj
  have hB : BT m T j = nI k := by rw [BT, if_pos hj, e1]
  rw [hB, e2]
  exact byt_tab k hk
theorem BR_ch {m : Mem} {T j z : Nat} (h : BR m T) (hj : j < T) (hz : z < 128) : m 38 j = nI z ↔ BT m T j = nI z := by
  obtain ⟨k, hk, e1, e2⟩ := h j hj
  have hB : BT m T j = nI k := by rw [BT, if_pos hj, e1]
  rw [hB, e2]
  exact byt_eq hk hz
def srt (K : Int32) : Int32 := if K = 1 then 0 else if K = 2 then 1 else if K = 3 then 2 else if K = 5 then 3 else if K = 4 then 4 else 5
def vaC (B : Nat → Int32) : Nat → Nat → Int32 → Int32
  | 0, _, v => v
  | k + 1, p, v => if dgT (B p) then vaC B k (p + 1) (minI 1000 (v * 10 + B p - 48)) else v
def vaN (B : Nat → Int32) (T p : Nat) (v : Int32) : Int32 := vaC B (T - p) p v
theorem vaN_s {B : Nat → Int32} {T p : Nat} {v : Int32} (hp : p < T) (h : dgT (B p) = true) : vaN B T p v = vaN B T (p + 1) (minI 1000 (v * 10 + B p - 48)) := by
  unfold vaN
  rw [show T - p = (T - (p + 1)) + 1 by omega, vaC, if_pos h]
theorem vaN_e {B : Nat → Int32} {T p : Nat} {v : Int32} (h : ¬ dgT (B p) = true) : vaN B T p v = v := by
  unfold vaN
  cases T - p with
  | zero => rfl
  | succ k => rw [vaC, if_neg h]
def lexC (B : Nat → Int32) (T f : Nat) : Int32 := if lexK (B f) = 2 then vaN B T f 0 else 0
def ctM (m : Mem) (b e s v : Int32) : Mem := upR m 37 (upd (upd (upd (upd (m 37) 2 b) 3 e) 4 s) 5 v)
theorem ct_self (m : Mem) : ctM m (m 37 2) (m 37 3) (m 37 4) (m 37 5) = m := by
  unfold ctM
  simp only [upd_self]
  exact upR_self m 37
theorem ct_1 (m : Mem) (t f e v : Int32) : ctM m t f e v 37 1 = m 37 1 := by unfold ctM; rw [upR_same]; simp [upd]
theorem ct_2 (m : Mem) (t f e v : Int32) : ctM m t f e v 37 2 = t := by unfold ctM; rw [upR_same]; simp [upd]
theorem ct_3 (m : Mem) (t f e v : Int32) : ctM m t f e v 37 3 = f := by unfold ctM; rw [upR_same]; simp [upd]
theorem ct_4 (m : Mem) (t f e v : Int32) : ctM m t f e v 37 4 = e := by unfold ctM; rw [upR_same]; simp [upd]
theorem ct_5 (m : Mem) (t f e v : Int32) : ctM m t f e v 37 5 = v := by unfold ctM; rw [upR_same]; simp [upd]
theorem ct_o (m : Mem) (t f e v : Int32) {a : Nat} (h : a ≠ 37) : ctM m t f e v a = m a := upR_ne _ _ h
theorem ctw {m : Mem} {t f e v x : Int32} : up2 (ctM m t f e v) 37 2 x = ctM m x f e v ∧ up2 (ctM m t f e v) 37 3 x = ctM m t x e v ∧ up2 (ctM m t f e v) 37 4 x = ctM m t f x v ∧ up2 (ctM m t f e v) 37 5 x = ctM m t f e x := by
  unfold ctM
  refine ⟨?_, ?_, ?_, ?_⟩
  all_goals
    rw [up2_eq, upR_same, upR_upR]
    congr 1
    funext j
    simp only [upd]
    repeat' split
    all_goals first | rfl | omega
theorem ct_ct (m : Mem) (t f e v t' f' e' v' : Int32) : ctM (ctM m t f e v) t' f' e' v' = ctM m t' f' e' v' := by
  unfold ctM
  rw [upR_same, upR_upR]
  congr 1
  funext j
  simp only [upd]
  repeat' split
  all_goals first | rfl | omega
def clM (m : Mem) (T f : Nat) : Mem := ctM m (nI f) (nI (lexE (BT m T) T f)) (srt (lexK (BT m T f))) (lexC (BT m T) T f)
theorem lexK_T (m : Mem) {T f : Nat} (h : T ≤ f) : lexK (BT m T f) = 0 := by rw [BT_no h]; decide
theorem lexK_le {m : Mem} {T f : Nat} (h0 : 0 ≤ BT m T f) (h : leT (BT m T f) = true) : lexK (BT m T f) = 1 := by
  unfold lexK
  rw [if_pos h0, if_neg (bB_n.mpr h)]
theorem lexK_dg {m : Mem} {T f : Nat} (h0 : 0 ≤ BT m T f) (h : leT (BT m T f) = false) (h2 : dgT (BT m T f) = true) : lexK (BT m T f) = 2 := by
  unfold lexK
  rw [if_pos h0, if_pos (bB_0.mpr h), if_neg (bB_n.mpr h2)]
theorem lexK_si {m : Mem} {T f : Nat} (h0 : 0 ≤ BT m T f) (h : leT (BT m T f) = false) (h2 : dgT (BT m T f) = false) : lexK (BT m T f) = if BT m T f = 59 then 3 else if BT m T f = 45 then 5 else 4 := by
  unfold lexK
  rw [if_pos h0, if_pos (bB_0.mpr h), if_pos (bB_0.mpr h2)]
set_option maxHeartbeats 4000000 in
theorem c3_isLetter (x : Int32) (mem : Mem) : CnE mX3_isLetter [.int x] mem (some (.int (bB (leT x)))) mem := by
  refine Cn.of (ls := [some (.int x)]) (by decide) rfl (Nat.le_of_ble_eq_true rfl) ?_
  refine w_iload_n (i := 0) (n' := 1) dX3_isLetter_0 rfl rfl rfl ?_
  refine w_bipush (v := 97) (n' := 3) dX3_isLetter_1 rfl (by decide) ?_
  refine w_icmp_lt (n' := 6) (tgt := 16) dX3_isLetter_3 rfl rfl (fun h3 => ?_) (fun h3 => ?_)
  · refine w_iconst (v := 0) (n' := 17) dX3_isLetter_16 rfl rfl ?_
    exact w_zret dX3_isLetter_17 rfl rfl ⟨by rw [leT, decide_eq_false (Int32.not_le.mpr h3)]; rfl, rfl⟩
  · refine w_iload_n (i := 0) (n' := 7) dX3_isLetter_6 rfl rfl rfl ?_
    refine w_bipush (v := 122) (n' := 9) dX3_isLetter_7 rfl (by decide) ?_
    refine w_icmp_gt (n' := 12) (tgt := 16) dX3_isLetter_9 rfl rfl (fun h9 => ?_) (fun h9 => ?_)
    · refine w_iconst (v := 0) (n' := 17) dX3_isLetter_16 rfl rfl ?_
      exact w_zret dX3_isLetter_17 rfl rfl ⟨by rw [leT, decide_eq_false (Int32.not_le.mpr h9), Bool.and_false]; rfl, rfl⟩
    · refine w_iconst (v := 1) (n' := 13) dX3_isLetter_12 rfl rfl ?_
      refine w_goto (tgt := 17) dX3_isLetter_13 rfl ?_
      exact w_zret dX3_isLetter_17 rfl rfl ⟨by rw [leT, decide_eq_true (Int32.not_lt.mp h3), decide_eq_true (Int32.not_lt.mp h9)]; rfl, rfl⟩
set_option maxHeartbeats 4000000 in
theorem c3_isDigit (x : Int32) (mem : Mem) : CnE mX3_isDigit [.int x] mem (some (.int (bB (dgT x)))) mem := by
  refine Cn.of (ls := [some (.int x)]) (by decide) rfl (Nat.le_of_ble_eq_true rfl) ?_
  refine w_iload_n (i := 0) (n' := 1) dX3_isDigit_0 rfl rfl rfl ?_
  refine w_bipush (v := 48) (n' := 3) dX3_isDigit_1 rfl (by decide) ?_
  refine w_icmp_lt (n' := 6) (tgt := 16) dX3_isDigit_3 rfl rfl (fun h3 => ?_) (fun h3 => ?_)
  · refine w_iconst (v := 0) (n' := 17) dX3_isDigit_16 rfl rfl ?_
    exact w_zret dX3_isDigit_17 rfl rfl ⟨by rw [dgT, decide_eq_false (Int32.not_le.mpr h3)]; rfl, rfl⟩
  · refine w_iload_n (i := 0) (n' := 7) dX3_isDigit_6 rfl rfl rfl ?_
    refine w_bipush (v := 57) (n' := 9) dX3_isDigit_7 rfl (by decide) ?_
    refine w_icmp_gt (n' := 12) (tgt := 16) dX3_isDigit_9 rfl rfl (fun h9 => ?_) (fun h9 => ?_)
    · refine w_iconst (v := 0) (n' := 17) dX3_isDigit_16 rfl rfl ?_
      exact w_zret dX3_isDigit_17 rfl rfl ⟨by rw [dgT, decide_eq_false (Int32.not_le.mpr h9), Bool.and_false]; rfl, rfl⟩
    · refine w_iconst (v := 1) (n' := 13) dX3_isDigit_12 rfl rfl ?_
      refine w_goto (tgt := 17) dX3_isDigit_13 rfl ?_
      exact w_zret dX3_isDigit_17 rfl rfl ⟨by rw [dgT, decide_eq_true (Int32.not_lt.mp h3), decide_eq_true (Int32.not_lt.mp h9)]; rfl, rfl⟩
set_option maxHeartbeats 4000000 in
theorem c3_sortOfSign (x : Int32) (mem : Mem) : CnE mX3_sortOfSign [.int x] mem (some (.int (if x = 59 then 2 else if x = 45 then 3 else 4))) mem := by
  refine Cn.of (ls := [some (.int x)]) (by decide) rfl (Nat.le_of_ble_eq_true rfl) ?_
  refine w_iload_n (i := 0) (n' := 1) dX3_sortOfSign_0 rfl rfl rfl ?_
  refine w_bipush (v := 59) (n' := 3) dX3_sortOfSign_1 rfl (by decide) ?_
  refine w_icmp_ne (n' := 6) (tgt := 8) dX3_sortOfSign_3 rfl rfl (fun h3 => ?_) (fun h3 => ?_)
  · refine w_iload_n (i := 0) (n' := 9) dX3_sortOfSign_8 rfl rfl rfl ?_
    refine w_bipush (v := 45) (n' := 11) dX3_sortOfSign_9 rfl (by decide) ?_
    refine w_icmp_ne (n' := 14) (tgt := 18) dX3_sortOfSign_11 rfl rfl (fun h11 => ?_) (fun h11 => ?_)
    · refine w_iconst (v := 4) (n' := 19) dX3_sortOfSign_18 rfl rfl ?_
      exact w_iret dX3_sortOfSign_19 rfl ⟨by rw [if_neg h3, if_neg h11], rfl⟩
    · refine w_iconst (v := 3) (n' := 15) dX3_sortOfSign_14 rfl rfl ?_
      refine w_goto (tgt := 19) dX3_sortOfSign_15 rfl ?_
      exact w_iret dX3_sortOfSign_19 rfl ⟨by rw [if_neg h3, if_pos h11], rfl⟩
  · refine w_iconst (v := 2) (n' := 7) dX3_sortOfSign_6 rfl rfl ?_
    exact w_iret dX3_sortOfSign_7 rfl ⟨by rw [if_pos h3], rfl⟩
set_option maxHeartbeats 4000000 in
theorem c3_add {T : Nat} {mem : Mem} (hT : mem 37 1 = nI T) (hT2 : T < 120) (b : Int32) : CnE mX3_add [.ref 37, .int b] mem none (up2 (up2 mem 38 T b.toInt8.toInt32) 37 1 (nI (T + 1))) := by
  refine Cn.of (ls := [some (.ref 37), some (.int b)]) (by decide) rfl (Nat.le_of_ble_eq_true rfl) ?_
  refine w_aload_n (i := 0) (n' := 1) dX3_add_0 rfl rfl rfl ?_
  refine w_get (ci := 3) (j := 1) (n' := 4) dX3_add_1 rfl fRX3_15 (Nat.le_of_ble_eq_true rfl) (Nat.le_of_ble_eq_true rfl) rfl rfl ?_
  rw [hT]
  refine w_bipush (v := 120) (n' := 6) dX3_add_4 rfl (by decide) ?_
  refine w_icmp_ge (n' := 9) (tgt := 29) dX3_add_6 rfl rfl (fun h6 => absurd h6 (nI_ge (a := T) (b := 120) hT2 (by omega))) (fun h6 => ?_)
  refine w_aload_n (i := 0) (n' := 10) dX3_add_9 rfl rfl rfl ?_
  refine w_get (ci := 3) (j := 0) (n' := 13) dX3_add_10 rfl fRX3_9 (Nat.le_of_ble_eq_true rfl) (Nat.le_of_ble_eq_true rfl) rfl rfl ?_
  refine w_aload_n (i := 0) (n' := 14) dX3_add_13 rfl rfl rfl ?_
  refine w_get (ci := 3) (j := 1) (n' := 17) dX3_add_14 rfl fRX3_15 (Nat.le_of_ble_eq_true rfl) (Nat.le_of_ble_eq_true rfl) rfl rfl ?_
  rw [hT]
  refine w_iload_n (i := 1) (n' := 18) dX3_add_17 rfl rfl rfl ?_
  refine w_bast (n := T) (n' := 19) dX3_add_18 rfl rfl rfl (show T < 120 by omega) rfl ?_
  refine w_aload_n (i := 0) (n' := 20) dX3_add_19 rfl rfl rfl ?_
  refine w_dup (n' := 21) dX3_add_20 rfl rfl ?_
  refine w_get (ci := 3) (j := 1) (n' := 24) dX3_add_21 rfl fRX3_15 (Nat.le_of_ble_eq_true rfl) (Nat.le_of_ble_eq_true rfl) rfl rfl ?_
  rw [up2_ne _ _ _ (by decide), hT]
  refine w_iconst (v := 1) (n' := 25) dX3_add_24 rfl rfl ?_
  refine w_iadd (n' := 26) dX3_add_25 rfl ?_
  refine w_put (ci := 3) (j := 1) (n' := 29) dX3_add_26 rfl fRX3_15 (Nat.le_of_ble_eq_true rfl) (Nat.le_of_ble_eq_true rfl) rfl rfl rfl rfl ?_
  rw [nI_1]
  exact w_vret dX3_add_29 rfl ⟨rfl, rfl⟩
set_option maxHeartbeats 4000000 in
theorem adv_98 {T i : Nat} {mem : Mem} (hT : mem 37 1 = nI T) (hT2 : T ≤ 120) (hB : BR mem T) (hi : i ≤ T) (hK : lexK (BT mem T i) = 1) : Wm mX3_advance (zM mX3_advance (fun r' m' => r' = none ∧ m' = clM mem T i)) 98 [some (.ref 37)] [] (ctM mem (nI i) (nI i) 0 0) := by
  have L : ∀ (p : Nat) (u : Unit), p ≤ T → endN leT (BT mem T) T p = endN leT (BT mem T) T i → Wm mX3_advance (zM mX3_advance (fun r' m' => r' = none ∧ m' = clM mem T i)) 98 [some (.ref 37)] [] (ctM mem (nI i) (nI p) 0 0) := by
    refine for_ind T ?_
    intro p u hpT h1 ih
    refine w_aload_n (i := 0) (n' := 99) dX3_advance_98 rfl rfl rfl ?_
    refine w_get (ci := 3) (j := 3) (n' := 102) dX3_advance_99 rfl fRX3_22 (Nat.le_of_ble_eq_true rfl) (Nat.le_of_ble_eq_true rfl) rfl rfl ?_
    rw [ct_3]
    refine w_aload_n (i := 0) (n' := 103) dX3_advance_102 rfl rfl rfl ?_
    refine w_get (ci := 3) (j := 1) (n' := 106) dX3_advance_103 rfl fRX3_15 (Nat.le_of_ble_eq_true rfl) (Nat.le_of_ble_eq_true rfl) rfl rfl ?_
    rw [ct_1, hT]
    refine w_icmp_ge (n' := 109) (tgt := 252) dX3_advance_106 rfl rfl (fun h106 => ?_) (fun h106 => ?_)
    · have hge : T ≤ p := by
        rcases Nat.lt_or_ge p T with q | q
        · exact absurd h106 (nI_ge q (by omega))
        · exact q
      exact w_vret dX3_advance_252 rfl ⟨rfl, by rw [clM, lexE, lexC, hK, if_neg (by decide), if_pos rfl, if_pos (by decide), if_neg (by decide), ← h1, endN_e (by rw [BT_no hge]; decide)]; rfl⟩
    · have hlt : p < T := by
        rcases Nat.lt_or_ge p T with q | q
        · exact q
        · exact absurd (nI_le q (by omega)) h106
      have hb := BR_at hB hlt
      refine w_aload_n (i := 0) (n' := 110) dX3_advance_109 rfl rfl rfl ?_
      refine w_get (ci := 3) (j := 0) (n' := 113) dX3_advance_110 rfl fRX3_9 (Nat.le_of_ble_eq_true rfl) (Nat.le_of_ble_eq_true rfl) rfl rfl ?_
      refine w_aload_n (i := 0) (n' := 114) dX3_advance_113 rfl rfl rfl ?_
      refine w_get (ci := 3) (j := 3) (n' := 117) dX3_advance_114 rfl fRX3_22 (Nat.le_of_ble_eq_true rfl) (Nat.le_of_ble_eq_true rfl) rfl rfl ?_
      rw [ct_3]
      refine w_bald (n := p) (n' := 118) dX3_advance_117 rfl rfl rfl (show p < 120 by omega) ?_
      rw [ct_o _ _ _ _ _ (by decide)]
      refine s_E (n' := 121) dX3_advance_118 rfl lRX3_34 okX3_isLetter stX3_isLetter ⟨⟨Nat.le_of_ble_eq_true rfl, Nat.le_of_ble_eq_true rfl⟩, Nat.le_of_ble_eq_true rfl, Nat.le_of_ble_eq_true rfl⟩ (c3_isLetter _ _) rfl rfl (Nat.le_of_ble_eq_true rfl) ?_
      rw [hb.1]
      refine w_if_eq (n' := 124) (tgt := 252) dX3_advance_121 rfl rfl (fun h121 => ?_) (fun h121 => ?_)
      · have hd : ¬ leT (BT mem T p) = true := fun q => bB_n.mpr q h121
        exact w_vret dX3_advance_252 rfl ⟨rfl, by rw [clM, lexE, lexC, hK, if_neg (by decide), if_pos rfl, if_pos (by decide), if_neg (by decide), ← h1, endN_e hd]; rfl⟩
      · have hd : leT (BT mem T p) = true := bB_n.mp h121
        refine w_aload_n (i := 0) (n' := 125) dX3_advance_124 rfl rfl rfl ?_
        refine w_dup (n' := 126) dX3_advance_125 rfl rfl ?_
        refine w_get (ci := 3) (j := 3) (n' := 129) dX3_advance_126 rfl fRX3_22 (Nat.le_of_ble_eq_true rfl) (Nat.le_of_ble_eq_true rfl) rfl rfl ?_
        rw [ct_3]
        refine w_iconst (v := 1) (n' := 130) dX3_advance_129 rfl rfl ?_
        refine w_iadd (n' := 131) dX3_advance_130 rfl ?_
        refine w_put (ci := 3) (j := 3) (n' := 134) dX3_advance_131 rfl fRX3_22 (Nat.le_of_ble_eq_true rfl) (Nat.le_of_ble_eq_true rfl) rfl rfl rfl rfl ?_
        rw [ctw.2.1, nI_1]
        refine w_goto (tgt := 98) dX3_advance_134 rfl ?_
        exact ih hlt () (by rw [← h1]; exact (endN_s hlt hd).symm)
  exact L i () hi rfl
set_option maxHeartbeats 4000000 in
theorem adv_157 {T i : Nat} {mem : Mem} (hT : mem 37 1 = nI T) (hT2 : T ≤ 120) (hB : BR mem T) (hi : i ≤ T) (hK : lexK (BT mem T i) = 2) : Wm mX3_advance (zM mX3_advance (fun r' m' => r' = none ∧ m' = clM mem T i)) 157 [some (.ref 37)] [] (ctM mem (nI i) (nI i) 1 0) := by
  have L : ∀ (p : Nat) (v : Int32), p ≤ T → (endN dgT (BT mem T) T p = endN dgT (BT mem T) T i ∧ vaN (BT mem T) T p v = vaN (BT mem T) T i 0) → Wm mX3_advance (zM mX3_advance (fun r' m' => r' = none ∧ m' = clM mem T i)) 157 [some (.ref 37)] [] (ctM mem (nI i) (nI p) 1 v) := by
    refine for_ind T ?_
    rintro p v hpT ⟨h1, h2⟩ ih
    refine w_aload_n (i := 0) (n' := 158) dX3_advance_157 rfl rfl rfl ?_
    refine w_get (ci := 3) (j := 3) (n' := 161) dX3_advance_158 rfl fRX3_22 (Nat.le_of_ble_eq_true rfl) (Nat.le_of_ble_eq_true rfl) rfl rfl ?_
    rw [ct_3]
    refine w_aload_n (i := 0) (n' := 162) dX3_advance_161 rfl rfl rfl ?_
    refine w_get (ci := 3) (j := 1) (n' := 165) dX3_advance_162 rfl fRX3_15 (Nat.le_of_ble_eq_true rfl) (Nat.le_of_ble_eq_true rfl) rfl rfl ?_
    rw [ct_1, hT]
    refine w_icmp_ge (n' := 168) (tgt := 252) dX3_advance_165 rfl rfl (fun h165 => ?_) (fun h165 => ?_)
    · have hge : T ≤ p := by
        rcases Nat.lt_or_ge p T with q | q
        · exact absurd h165 (nI_ge q (by omega))
        · exact q
      exact w_vret dX3_advance_252 rfl ⟨rfl, by rw [clM, lexE, lexC, hK, if_pos rfl, if_neg (by decide), if_pos (by decide), if_pos rfl, ← h1, ← h2, endN_e (by rw [BT_no hge]; decide), vaN_e (by rw [BT_no hge]; decide)]; rfl⟩
    · have hlt : p < T := by
        rcases Nat.lt_or_ge p T with q | q
        · exact q
        · exact absurd (nI_le q (by omega)) h165
      have hb := BR_at hB hlt
      refine w_aload_n (i := 0) (n' := 169) dX3_advance_168 rfl rfl rfl ?_
      refine w_get (ci := 3) (j := 0) (n' := 172) dX3_advance_169 rfl fRX3_9 (Nat.le_of_ble_eq_true rfl) (Nat.le_of_ble_eq_true rfl) rfl rfl ?_
      refine w_aload_n (i := 0) (n' := 173) dX3_advance_172 rfl rfl rfl ?_
      refine w_get (ci := 3) (j := 3) (n' := 176) dX3_advance_173 rfl fRX3_22 (Nat.le_of_ble_eq_true rfl) (Nat.le_of_ble_eq_true rfl) rfl rfl ?_
      rw [ct_3]
      refine w_bald (n := p) (n' := 177) dX3_advance_176 rfl rfl rfl (show p < 120 by omega) ?_
      rw [ct_o _ _ _ _ _ (by decide)]
      refine s_E (n' := 180) dX3_advance_177 rfl lRX3_38 okX3_isDigit stX3_isDigit ⟨⟨Nat.le_of_ble_eq_true rfl, Nat.le_of_ble_eq_true rfl⟩, Nat.le_of_ble_eq_true rfl, Nat.le_of_ble_eq_true rfl⟩ (c3_isDigit _ _) rfl rfl (Nat.le_of_ble_eq_true rfl) ?_
      rw [hb.2.1]
      refine w_if_eq (n' := 183) (tgt := 252) dX3_advance_180 rfl rfl (fun h180 => ?_) (fun h180 => ?_)
      · have hd : ¬ dgT (BT mem T p) = true := fun q => bB_n.mpr q h180
        exact w_vret dX3_advance_252 rfl ⟨rfl, by rw [clM, lexE, lexC, hK, if_pos rfl, if_neg (by decide), if_pos (by decide), if_pos rfl, ← h1, ← h2, endN_e hd, vaN_e hd]; rfl⟩
      · have hd : dgT (BT mem T p) = true := bB_n.mp h180
        have hc := hb.2.2.2.2.2.2 hd
        refine w_aload_n (i := 0) (n' := 184) dX3_advance_183 rfl rfl rfl ?_
        refine w_sipush (v := 1000) (n' := 187) dX3_advance_184 rfl (by decide) ?_
        refine w_aload_n (i := 0) (n' := 188) dX3_advance_187 rfl rfl rfl ?_
        refine w_get (ci := 3) (j := 5) (n' := 191) dX3_advance_188 rfl fRX3_28 (Nat.le_of_ble_eq_true rfl) (Nat.le_of_ble_eq_true rfl) rfl rfl ?_
        rw [ct_5]
        refine w_bipush (v := 10) (n' := 193) dX3_advance_191 rfl (by decide) ?_
        refine w_imul (n' := 194) dX3_advance_193 rfl ?_
        refine w_aload_n (i := 0) (n' := 195) dX3_advance_194 rfl rfl rfl ?_
        refine w_get (ci := 3) (j := 0) (n' := 198) dX3_advance_195 rfl fRX3_9 (Nat.le_of_ble_eq_true rfl) (Nat.le_of_ble_eq_true rfl) rfl rfl ?_
        refine w_aload_n (i := 0) (n' := 199) dX3_advance_198 rfl rfl rfl ?_
        refine w_get (ci := 3) (j := 3) (n' := 202) dX3_advance_199 rfl fRX3_22 (Nat.le_of_ble_eq_true rfl) (Nat.le_of_ble_eq_true rfl) rfl rfl ?_
        rw [ct_3]
        refine w_bald (n := p) (n' := 203) dX3_advance_202 rfl rfl rfl (show p < 120 by omega) ?_
        rw [ct_o _ _ _ _ _ (by decide), hc]
        refine w_iadd (n' := 204) dX3_advance_203 rfl ?_
        refine w_bipush (v := 48) (n' := 206) dX3_advance_204 rfl (by decide) ?_
        refine w_isub (n' := 207) dX3_advance_206 rfl ?_
        refine w_min (n' := 210) dX3_advance_207 rfl lRX3_41 ⟨Nat.le_of_ble_eq_true rfl, Nat.le_of_ble_eq_true rfl, Nat.le_of_ble_eq_true rfl, Nat.le_of_ble_eq_true rfl⟩ ?_
        refine w_put (ci := 3) (j := 5) (n' := 213) dX3_advance_210 rfl fRX3_28 (Nat.le_of_ble_eq_true rfl) (Nat.le_of_ble_eq_true rfl) rfl rfl rfl rfl ?_
        rw [ctw.2.2.2]
        refine w_aload_n (i := 0) (n' := 214) dX3_advance_213 rfl rfl rfl ?_
        refine w_dup (n' := 215) dX3_advance_214 rfl rfl ?_
        refine w_get (ci := 3) (j := 3) (n' := 218) dX3_advance_215 rfl fRX3_22 (Nat.le_of_ble_eq_true rfl) (Nat.le_of_ble_eq_true rfl) rfl rfl ?_
        rw [ct_3]
        refine w_iconst (v := 1) (n' := 219) dX3_advance_218 rfl rfl ?_
        refine w_iadd (n' := 220) dX3_advance_219 rfl ?_
        refine w_put (ci := 3) (j := 3) (n' := 223) dX3_advance_220 rfl fRX3_22 (Nat.le_of_ble_eq_true rfl) (Nat.le_of_ble_eq_true rfl) rfl rfl rfl rfl ?_
        rw [ctw.2.1, nI_1]
        refine w_goto (tgt := 157) dX3_advance_223 rfl ?_
        exact ih hlt _ ⟨by rw [← h1]; exact (endN_s hlt hd).symm, by rw [← h2]; exact (vaN_s hlt hd).symm⟩
  exact L i 0 hi ⟨rfl, rfl⟩
set_option maxHeartbeats 4000000 in
theorem adv_46 {T i : Nat} {mem : Mem} (hT : mem 37 1 = nI T) (hT2 : T ≤ 120) (hB : BR mem T) (hi : i ≤ T) (e0 s0 v0 : Int32) : Wm mX3_advance (zM mX3_advance (fun r' m' => r' = none ∧ m' = clM mem T i)) 46 [some (.ref 37)] [] (ctM mem (nI i) e0 s0 v0) := by
  refine w_aload_n (i := 0) (n' := 47) dX3_advance_46 rfl rfl rfl ?_
  refine w_aload_n (i := 0) (n' := 48) dX3_advance_47 rfl rfl rfl ?_
  refine w_get (ci := 3) (j := 2) (n' := 51) dX3_advance_48 rfl fRX3_19 (Nat.le_of_ble_eq_true rfl) (Nat.le_of_ble_eq_true rfl) rfl rfl ?_
  rw [ct_2]
  refine w_put (ci := 3) (j := 3) (n' := 54) dX3_advance_51 rfl fRX3_22 (Nat.le_of_ble_eq_true rfl) (Nat.le_of_ble_eq_true rfl) rfl rfl rfl rfl ?_
  rw [ctw.2.1]
  refine w_aload_n (i := 0) (n' := 55) dX3_advance_54 rfl rfl rfl ?_
  refine w_iconst (v := 0) (n' := 56) dX3_advance_55 rfl rfl ?_
  refine w_put (ci := 3) (j := 5) (n' := 59) dX3_advance_56 rfl fRX3_28 (Nat.le_of_ble_eq_true rfl) (Nat.le_of_ble_eq_true rfl) rfl rfl rfl rfl ?_
  rw [ctw.2.2.2]
  refine w_aload_n (i := 0) (n' := 60) dX3_advance_59 rfl rfl rfl ?_
  refine w_get (ci := 3) (j := 2) (n' := 63) dX3_advance_60 rfl fRX3_19 (Nat.le_of_ble_eq_true rfl) (Nat.le_of_ble_eq_true rfl) rfl rfl ?_
  rw [ct_2]
  refine w_aload_n (i := 0) (n' := 64) dX3_advance_63 rfl rfl rfl ?_
  refine w_get (ci := 3) (j := 1) (n' := 67) dX3_advance_64 rfl fRX3_15 (Nat.le_of_ble_eq_true rfl) (Nat.le_of_ble_eq_true rfl) rfl rfl ?_
  rw [ct_1, hT]
  refine w_icmp_lt (n' := 70) (tgt := 78) dX3_advance_67 rfl rfl (fun h67 => ?_) (fun h67 => ?_)
  · have hlt : i < T := by
      rcases Nat.lt_or_ge i T with q | q
      · exact q
      · exact absurd h67 (nI_nlt q (by omega))
    have hb := BR_at hB hlt
    refine w_aload_n (i := 0) (n' := 79) dX3_advance_78 rfl rfl rfl ?_
    refine w_get (ci := 3) (j := 0) (n' := 82) dX3_advance_79 rfl fRX3_9 (Nat.le_of_ble_eq_true rfl) (Nat.le_of_ble_eq_true rfl) rfl rfl ?_
    refine w_aload_n (i := 0) (n' := 83) dX3_advance_82 rfl rfl rfl ?_
    refine w_get (ci := 3) (j := 2) (n' := 86) dX3_advance_83 rfl fRX3_19 (Nat.le_of_ble_eq_true rfl) (Nat.le_of_ble_eq_true rfl) rfl rfl ?_
    rw [ct_2]
    refine w_bald (n := i) (n' := 87) dX3_advance_86 rfl rfl rfl (show i < 120 by omega) ?_
    rw [ct_o _ _ _ _ _ (by decide)]
    refine s_E (n' := 90) dX3_advance_87 rfl lRX3_34 okX3_isLetter stX3_isLetter ⟨⟨Nat.le_of_ble_eq_true rfl, Nat.le_of_ble_eq_true rfl⟩, Nat.le_of_ble_eq_true rfl, Nat.le_of_ble_eq_true rfl⟩ (c3_isLetter _ _) rfl rfl (Nat.le_of_ble_eq_true rfl) ?_
    rw [hb.1]
    refine w_if_eq (n' := 93) (tgt := 137) dX3_advance_90 rfl rfl (fun h90 => ?_) (fun h90 => ?_)
    · have hl := bB_0.mp h90
      refine w_aload_n (i := 0) (n' := 138) dX3_advance_137 rfl rfl rfl ?_
      refine w_get (ci := 3) (j := 0) (n' := 141) dX3_advance_138 rfl fRX3_9 (Nat.le_of_ble_eq_true rfl) (Nat.le_of_ble_eq_true rfl) rfl rfl ?_
      refine w_aload_n (i := 0) (n' := 142) dX3_advance_141 rfl rfl rfl ?_
      refine w_get (ci := 3) (j := 2) (n' := 145) dX3_advance_142 rfl fRX3_19 (Nat.le_of_ble_eq_true rfl) (Nat.le_of_ble_eq_true rfl) rfl rfl ?_
      rw [ct_2]
      refine w_bald (n := i) (n' := 146) dX3_advance_145 rfl rfl rfl (show i < 120 by omega) ?_
      rw [ct_o _ _ _ _ _ (by decide)]
      refine s_E (n' := 149) dX3_advance_146 rfl lRX3_38 okX3_isDigit stX3_isDigit ⟨⟨Nat.le_of_ble_eq_true rfl, Nat.le_of_ble_eq_true rfl⟩, Nat.le_of_ble_eq_true rfl, Nat.le_of_ble_eq_true rfl⟩ (c3_isDigit _ _) rfl rfl (Nat.le_of_ble_eq_true rfl) ?_
      rw [hb.2.1]
      refine w_if_eq (n' := 152) (tgt := 226) dX3_advance_149 rfl rfl (fun h149 => ?_) (fun h149 => ?_)
      · have hd := bB_0.mp h149
        have hK := lexK_si (m := mem) (T := T) (f := i) hb.2.2.2.2.2.1 hl hd
        refine w_aload_n (i := 0) (n' := 227) dX3_advance_226 rfl rfl rfl ?_
        refine w_aload_n (i := 0) (n' := 228) dX3_advance_227 rfl rfl rfl ?_
        refine w_get (ci := 3) (j := 0) (n' := 231) dX3_advance_228 rfl fRX3_9 (Nat.le_of_ble_eq_true rfl) (Nat.le_of_ble_eq_true rfl) rfl rfl ?_
        refine w_aload_n (i := 0) (n' := 232) dX3_advance_231 rfl rfl rfl ?_
        refine w_get (ci := 3) (j := 2) (n' := 235) dX3_advance_232 rfl fRX3_19 (Nat.le_of_ble_eq_true rfl) (Nat.le_of_ble_eq_true rfl) rfl rfl ?_
        rw [ct_2]
        refine w_bald (n := i) (n' := 236) dX3_advance_235 rfl rfl rfl (show i < 120 by omega) ?_
        rw [ct_o _ _ _ _ _ (by decide)]
        refine s_E (n' := 239) dX3_advance_236 rfl lRX3_47 okX3_sortOfSign stX3_sortOfSign ⟨⟨Nat.le_of_ble_eq_true rfl, Nat.le_of_ble_eq_true rfl⟩, Nat.le_of_ble_eq_true rfl, Nat.le_of_ble_eq_true rfl⟩ (c3_sortOfSign _ _) rfl rfl (Nat.le_of_ble_eq_true rfl) ?_
        refine w_put (ci := 3) (j := 4) (n' := 242) dX3_advance_239 rfl fRX3_25 (Nat.le_of_ble_eq_true rfl) (Nat.le_of_ble_eq_true rfl) rfl rfl rfl rfl ?_
        rw [ctw.2.2.1]
        refine w_aload_n (i := 0) (n' := 243) dX3_advance_242 rfl rfl rfl ?_
        refine w_dup (n' := 244) dX3_advance_243 rfl rfl ?_
        refine w_get (ci := 3) (j := 3) (n' := 247) dX3_advance_244 rfl fRX3_22 (Nat.le_of_ble_eq_true rfl) (Nat.le_of_ble_eq_true rfl) rfl rfl ?_
        rw [ct_3]
        refine w_iconst (v := 1) (n' := 248) dX3_advance_247 rfl rfl ?_
        refine w_iadd (n' := 249) dX3_advance_248 rfl ?_
        refine w_put (ci := 3) (j := 3) (n' := 252) dX3_advance_249 rfl fRX3_22 (Nat.le_of_ble_eq_true rfl) (Nat.le_of_ble_eq_true rfl) rfl rfl rfl rfl ?_
        rw [ctw.2.1, nI_1]
        exact w_vret dX3_advance_252 rfl ⟨rfl, by
          have hsg : (if mem 38 i = 59 then (2 : Int32) else if mem 38 i = 45 then 3 else 4) = srt (lexK (BT mem T i)) ∧ ¬ lexK (BT mem T i) = 1 ∧ ¬ lexK (BT mem T i) = 2 ∧ ¬ lexK (BT mem T i) ≤ 2 := by
            rw [hK]
            by_cases c1 : BT mem T i = 59
            · rw [if_pos c1, if_pos (hb.2.2.2.1.mpr c1)]; decide
            · rw [if_neg c1, if_neg (fun q => c1 (hb.2.2.2.1.mp q))]
              by_cases c2 : BT mem T i = 45
              · rw [if_pos c2, if_pos (hb.2.2.2.2.1.mpr c2)]; decide
              · rw [if_neg c2, if_neg (fun q => c2 (hb.2.2.2.2.1.mp q))]; decide
          rw [hsg.1, clM, lexE, lexC, if_neg hsg.2.2.1, if_neg hsg.2.1, if_neg hsg.2.2.2, if_neg hsg.2.2.1]⟩
      · have hd := bB_n.mp h149
        refine w_aload_n (i := 0) (n' := 153) dX3_advance_152 rfl rfl rfl ?_
        refine w_iconst (v := 1) (n' := 154) dX3_advance_153 rfl rfl ?_
        refine w_put (ci := 3) (j := 4) (n' := 157) dX3_advance_154 rfl fRX3_25 (Nat.le_of_ble_eq_true rfl) (Nat.le_of_ble_eq_true rfl) rfl rfl rfl rfl ?_
        rw [ctw.2.2.1]
        exact adv_157 hT hT2 hB hi (lexK_dg hb.2.2.2.2.2.1 hl hd)
    · have hl := bB_n.mp h90
      refine w_aload_n (i := 0) (n' := 94) dX3_advance_93 rfl rfl rfl ?_
      refine w_iconst (v := 0) (n' := 95) dX3_advance_94 rfl rfl ?_
      refine w_put (ci := 3) (j := 4) (n' := 98) dX3_advance_95 rfl fRX3_25 (Nat.le_of_ble_eq_true rfl) (Nat.le_of_ble_eq_true rfl) rfl rfl rfl rfl ?_
      rw [ctw.2.2.1]
      exact adv_98 hT hT2 hB hi (lexK_le hb.2.2.2.2.2.1 hl)
  · have hge : T ≤ i := by
      rcases Nat.lt_or_ge i T with q | q
      · exact absurd (nI_lt q (by omega)) h67
      · exact q
    have hK := lexK_T mem hge
    refine w_aload_n (i := 0) (n' := 71) dX3_advance_70 rfl rfl rfl ?_
    refine w_iconst (v := 5) (n' := 72) dX3_advance_71 rfl rfl ?_
    refine w_put (ci := 3) (j := 4) (n' := 75) dX3_advance_72 rfl fRX3_25 (Nat.le_of_ble_eq_true rfl) (Nat.le_of_ble_eq_true rfl) rfl rfl rfl rfl ?_
    rw [ctw.2.2.1]
    refine w_goto (tgt := 252) dX3_advance_75 rfl ?_
    exact w_vret dX3_advance_252 rfl ⟨rfl, by rw [clM, lexE, lexC, hK, if_neg (by decide), if_neg (by decide), if_pos (by decide), if_neg (by decide)]; rfl⟩
set_option maxHeartbeats 4000000 in
theorem c3_advance {T p : Nat} {mem : Mem} (hT : mem 37 1 = nI T) (hT2 : T ≤ 120) (hB : BR mem T) (hp : mem 37 3 = nI p) (hpT : p ≤ T) : CnE mX3_advance [.ref 37] mem none (clM mem T (lexF (BT mem T) T p)) := by
  have e0 := (ctw (m := mem) (t := mem 37 2) (f := mem 37 3) (e := mem 37 4) (v := mem 37 5) (x := nI p)).1
  rw [ct_self] at e0
  have hF := lexF_le (BT mem T) hpT
  refine Cn.of (ls := [some (.ref 37)]) (by decide) rfl (Nat.le_of_ble_eq_true rfl) ?_
  refine w_aload_n (i := 0) (n' := 1) dX3_advance_0 rfl rfl rfl ?_
  refine w_aload_n (i := 0) (n' := 2) dX3_advance_1 rfl rfl rfl ?_
  refine w_get (ci := 3) (j := 3) (n' := 5) dX3_advance_2 rfl fRX3_22 (Nat.le_of_ble_eq_true rfl) (Nat.le_of_ble_eq_true rfl) rfl rfl ?_
  rw [hp]
  refine w_put (ci := 3) (j := 2) (n' := 8) dX3_advance_5 rfl fRX3_19 (Nat.le_of_ble_eq_true rfl) (Nat.le_of_ble_eq_true rfl) rfl rfl rfl rfl ?_
  rw [e0]
  have L : ∀ (i : Nat) (u : Unit), i ≤ T → endN spT (BT mem T) T i = endN spT (BT mem T) T p → Wm mX3_advance (zM mX3_advance (fun r' m' => r' = none ∧ m' = (clM mem T (lexF (BT mem T) T p)))) 8 [some (.ref 37)] [] (ctM mem (nI i) (mem 37 3) (mem 37 4) (mem 37 5)) := by
    refine for_ind T ?_
    intro i u hiT h1 ih
    refine w_aload_n (i := 0) (n' := 9) dX3_advance_8 rfl rfl rfl ?_
    refine w_get (ci := 3) (j := 2) (n' := 12) dX3_advance_9 rfl fRX3_19 (Nat.le_of_ble_eq_true rfl) (Nat.le_of_ble_eq_true rfl) rfl rfl ?_
    rw [ct_2]
    refine w_aload_n (i := 0) (n' := 13) dX3_advance_12 rfl rfl rfl ?_
    refine w_get (ci := 3) (j := 1) (n' := 16) dX3_advance_13 rfl fRX3_15 (Nat.le_of_ble_eq_true rfl) (Nat.le_of_ble_eq_true rfl) rfl rfl ?_
    rw [ct_1, hT]
    refine w_icmp_ge (n' := 19) (tgt := 46) dX3_advance_16 rfl rfl (fun h16 => ?_) (fun h16 => ?_)
    · have hge : T ≤ i := by
        rcases Nat.lt_or_ge i T with q | q
        · exact absurd h16 (nI_ge q (by omega))
        · exact q
      rw [show lexF (BT mem T) T p = i from by unfold lexF; rw [← h1]; exact endN_e (by rw [BT_no hge]; decide)]
      exact adv_46 hT hT2 hB hiT _ _ _
    · have hlt : i < T := by
        rcases Nat.lt_or_ge i T with q | q
        · exact q
        · exact absurd (nI_le q (by omega)) h16
      have hb := BR_at hB hlt
      refine w_aload_n (i := 0) (n' := 20) dX3_advance_19 rfl rfl rfl ?_
      refine w_get (ci := 3) (j := 0) (n' := 23) dX3_advance_20 rfl fRX3_9 (Nat.le_of_ble_eq_true rfl) (Nat.le_of_ble_eq_true rfl) rfl rfl ?_
      refine w_aload_n (i := 0) (n' := 24) dX3_advance_23 rfl rfl rfl ?_
      refine w_get (ci := 3) (j := 2) (n' := 27) dX3_advance_24 rfl fRX3_19 (Nat.le_of_ble_eq_true rfl) (Nat.le_of_ble_eq_true rfl) rfl rfl ?_
      rw [ct_2]
      refine w_bald (n := i) (n' := 28) dX3_advance_27 rfl rfl rfl (show i < 120 by omega) ?_
      rw [ct_o _ _ _ _ _ (by decide)]
      refine w_bipush (v := 32) (n' := 30) dX3_advance_28 rfl (by decide) ?_
      refine w_icmp_ne (n' := 33) (tgt := 46) dX3_advance_30 rfl rfl (fun h30 => ?_) (fun h30 => ?_)
      · rw [show lexF (BT mem T) T p = i from by unfold lexF; rw [← h1]; exact endN_e (by unfold spT; rw [decide_eq_true_iff]; exact fun q => h30 (hb.2.2.1.mpr q))]
        exact adv_46 hT hT2 hB hiT _ _ _
      · refine w_aload_n (i := 0) (n' := 34) dX3_advance_33 rfl rfl rfl ?_
        refine w_dup (n' := 35) dX3_advance_34 rfl rfl ?_
        refine w_get (ci := 3) (j := 2) (n' := 38) dX3_advance_35 rfl fRX3_19 (Nat.le_of_ble_eq_true rfl) (Nat.le_of_ble_eq_true rfl) rfl rfl ?_
        rw [ct_2]
        refine w_iconst (v := 1) (n' := 39) dX3_advance_38 rfl rfl ?_
        refine w_iadd (n' := 40) dX3_advance_39 rfl ?_
        refine w_put (ci := 3) (j := 2) (n' := 43) dX3_advance_40 rfl fRX3_19 (Nat.le_of_ble_eq_true rfl) (Nat.le_of_ble_eq_true rfl) rfl rfl rfl rfl ?_
        rw [ctw.1, nI_1]
        refine w_goto (tgt := 8) dX3_advance_43 rfl ?_
        exact ih hlt () (by rw [← h1]; exact (endN_s hlt (by rw [spT, hb.2.2.1.mp h30]; decide)).symm)
  exact L p () hpT rfl
theorem BT_ct (m : Mem) (T : Nat) (t f e v : Int32) : BT (ctM m t f e v) T = BT m T := by
  funext j
  unfold BT
  rw [ct_o _ _ _ _ _ (by decide)]
theorem clM_ct (m : Mem) (T f : Nat) (t s e v : Int32) : clM (ctM m t s e v) T f = clM m T f := by
  unfold clM
  rw [BT_ct, ct_ct]
set_option maxHeartbeats 4000000 in
theorem c3_look {T : Nat} {mem : Mem} (hT : mem 37 1 = nI T) (hT2 : T ≤ 120) (hB : BR mem T) : CnE mX3_lookFromBegin [.ref 37] mem none (clM mem T (lexF (BT mem T) T 0)) := by
  have e0 := (ctw (m := mem) (t := mem 37 2) (f := mem 37 3) (e := mem 37 4) (v := mem 37 5) (x := 0)).2.1
  rw [ct_self] at e0
  refine Cn.of (ls := [some (.ref 37)]) (by decide) rfl (Nat.le_of_ble_eq_true rfl) ?_
  refine w_aload_n (i := 0) (n' := 1) dX3_lookFromBegin_0 rfl rfl rfl ?_
  refine w_iconst (v := 0) (n' := 2) dX3_lookFromBegin_1 rfl rfl ?_
  refine w_put (ci := 3) (j := 3) (n' := 5) dX3_lookFromBegin_2 rfl fRX3_22 (Nat.le_of_ble_eq_true rfl) (Nat.le_of_ble_eq_true rfl) rfl rfl rfl rfl ?_
  rw [e0]
  refine w_aload_n (i := 0) (n' := 6) dX3_lookFromBegin_5 rfl rfl rfl ?_
  refine v_E (ci := 3) (n' := 9) dX3_lookFromBegin_6 rfl lRX3_31 okX3_advance voX3_advance ⟨⟨Nat.le_of_ble_eq_true rfl, Nat.le_of_ble_eq_true rfl⟩, Nat.le_of_ble_eq_true rfl, Nat.le_of_ble_eq_true rfl⟩ (c3_advance (T := T) (p := 0) (by rw [ct_1]; exact hT) hT2 (fun j hj => by rw [ct_o _ _ _ _ _ (by decide), ct_o _ _ _ _ _ (by decide)]; exact hB j hj) (by rw [ct_3]; rfl) (Nat.zero_le _)) rfl rfl (Nat.le_of_ble_eq_true rfl) rfl (Nat.le_of_ble_eq_true rfl) rfl ?_
  rw [BT_ct, clM_ct]
  exact w_vret dX3_lookFromBegin_9 rfl ⟨rfl, rfl⟩
