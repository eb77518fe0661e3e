/-! the reference: texts -/
def leT (x : Int32) : Bool := decide (97 ≤ x) && decide (x ≤ 122)
def dgT (x : Int32) : Bool := decide (48 ≤ x) && decide (x ≤ 57)
def spT (x : Int32) : Bool := decide (x = 32)
def BT (m : Mem) (T j : Nat) : Int32 := if j < T then m 56 j else -1
def runN (C : Int32 → Bool) (B : Nat → Int32) : Nat → Nat → Nat
  | 0, p => p
  | k + 1, p => if C (B p) then runN C B k (p + 1) else p
def endN (C : Int32 → Bool) (B : Nat → Int32) (T p : Nat) : Nat := runN C B (T - p) p
def valR (B : Nat → Int32) : Nat → Nat → Int32 → Int32
  | 0, _, v => v
  | k + 1, p, v => if dgT (B p) then valR B k (p + 1) (if 999 < v then v else 10 * v + B p - 48) else v
def valN (B : Nat → Int32) (T p : Nat) (v : Int32) : Int32 := valR B (T - p) p v
theorem endN_s {C : Int32 → Bool} {B : Nat → Int32} {T p : Nat} (hp : p < T) (h : C (B p) = true) : endN C B T p = endN C B T (p + 1) := by
  unfold endN
  rw [show T - p = (T - (p + 1)) + 1 by omega, runN, if_pos h]
theorem endN_e {C : Int32 → Bool} {B : Nat → Int32} {T p : Nat} (h : ¬ C (B p) = true) : endN C B T p = p := by
  unfold endN
  cases T - p with
  | zero => rfl
  | succ k => rw [runN, if_neg h]
theorem runN_le (C : Int32 → Bool) (B : Nat → Int32) : ∀ k p, p ≤ runN C B k p ∧ runN C B k p ≤ p + k
  | 0, p => ⟨Nat.le_refl _, Nat.le_refl _⟩
  | k + 1, p => by
    rw [runN]
    split
    · have := runN_le C B k (p + 1)
      omega
    · omega
theorem endN_le (C : Int32 → Bool) (B : Nat → Int32) {T p : Nat} (h : p ≤ T) : p ≤ endN C B T p ∧ endN C B T p ≤ T := by
  have := runN_le C B (T - p) p
  unfold endN
  omega
theorem valN_s {B : Nat → Int32} {T p : Nat} {v : Int32} (hp : p < T) (h : dgT (B p) = true) : valN B T p v = valN B T (p + 1) (if 999 < v then v else 10 * v + B p - 48) := by
  unfold valN
  rw [show T - p = (T - (p + 1)) + 1 by omega, valR, if_pos h]
theorem valN_e {B : Nat → Int32} {T p : Nat} {v : Int32} (h : ¬ dgT (B p) = true) : valN B T p v = v := by
  unfold valN
  cases T - p with
  | zero => rfl
  | succ k => rw [valR, if_neg h]
theorem BT_no {m : Mem} {T j : Nat} (h : T ≤ j) : BT m T j = -1 := if_neg (by omega)
def tkM (m : Mem) (t f e v : Int32) : Mem := upR m 50 (upd (upd (upd (upd (m 50) 15 t) 16 f) 17 e) 18 v)
theorem tk_self (m : Mem) : tkM m (m 50 15) (m 50 16) (m 50 17) (m 50 18) = m := by
  unfold tkM
  simp only [upd_self]
  exact upR_self m 50
theorem tk_15 (m : Mem) (t f e v : Int32) : tkM m t f e v 50 15 = t := by unfold tkM; rw [upR_same]; simp [upd]
theorem tk_16 (m : Mem) (t f e v : Int32) : tkM m t f e v 50 16 = f := by unfold tkM; rw [upR_same]; simp [upd]
theorem tk_17 (m : Mem) (t f e v : Int32) : tkM m t f e v 50 17 = e := by unfold tkM; rw [upR_same]; simp [upd]
theorem tk_18 (m : Mem) (t f e v : Int32) : tkM m t f e v 50 18 = v := by unfold tkM; rw [upR_same]; simp [upd]
theorem tk_7 (m : Mem) (t f e v : Int32) : tkM m t f e v 50 7 = m 50 7 := by unfold tkM; rw [upR_same]; simp [upd]
theorem tk_o (m : Mem) (t f e v : Int32) {a : Nat} (h : a ≠ 50) : tkM m t f e v a = m a := upR_ne _ _ h
theorem tkw {m : Mem} {t f e v x : Int32} : up2 (tkM m t f e v) 50 15 x = tkM m x f e v ∧ up2 (tkM m t f e v) 50 16 x = tkM m t x e v ∧ up2 (tkM m t f e v) 50 17 x = tkM m t f x v ∧ up2 (tkM m t f e v) 50 18 x = tkM m t f e x := by
  unfold tkM
  refine ⟨?_, ?_, ?_, ?_⟩
  all_goals
    rw [up2_eq, upR_same, upR_upR]
    congr 1
    funext j
    simp only [upd]
    repeat' split
    all_goals first | rfl | omega
theorem BT_tk (m : Mem) (T : Nat) (t f e v : Int32) : BT (tkM m t f e v) T = BT m T := by
  funext j
  unfold BT
  rw [tk_o _ _ _ _ _ (by decide)]
set_option maxHeartbeats 4000000 in
theorem c6_isLetter (x : Int32) (mem : Mem) : CnE mX6_isLetter [.int x] mem (some (.int (bB (leT x)))) mem := by
  refine Cn.of (ls := [some (.int x)]) (by decide) rfl (Nat.le_of_ble_eq_true rfl) ?_
  refine w_iload_n (i := 0) (n' := 1) dX6_isLetter_0 rfl rfl rfl ?_
  refine w_bipush (v := 97) (n' := 3) dX6_isLetter_1 rfl (by decide) ?_
  refine w_icmp_lt (n' := 6) (tgt := 16) dX6_isLetter_3 rfl rfl (fun h3 => ?_) (fun h3 => ?_)
  · refine w_iconst (v := 0) (n' := 17) dX6_isLetter_16 rfl rfl ?_
    exact w_zret dX6_isLetter_17 rfl rfl ⟨by rw [leT, decide_eq_false (Int32.not_le.mpr h3)]; rfl, rfl⟩
  · refine w_iload_n (i := 0) (n' := 7) dX6_isLetter_6 rfl rfl rfl ?_
    refine w_bipush (v := 122) (n' := 9) dX6_isLetter_7 rfl (by decide) ?_
    refine w_icmp_gt (n' := 12) (tgt := 16) dX6_isLetter_9 rfl rfl (fun h9 => ?_) (fun h9 => ?_)
    · refine w_iconst (v := 0) (n' := 17) dX6_isLetter_16 rfl rfl ?_
      exact w_zret dX6_isLetter_17 rfl rfl ⟨by rw [leT, decide_eq_false (Int32.not_le.mpr h9), Bool.and_false]; rfl, rfl⟩
    · refine w_iconst (v := 1) (n' := 13) dX6_isLetter_12 rfl rfl ?_
      refine w_goto (tgt := 17) dX6_isLetter_13 rfl ?_
      exact w_zret dX6_isLetter_17 rfl rfl ⟨by rw [leT, decide_eq_true (Int32.not_lt.mp h3), decide_eq_true (Int32.not_lt.mp h9)]; rfl, rfl⟩
set_option maxHeartbeats 4000000 in
theorem c6_isDigit (x : Int32) (mem : Mem) : CnE mX6_isDigit [.int x] mem (some (.int (bB (dgT x)))) mem := by
  refine Cn.of (ls := [some (.int x)]) (by decide) rfl (Nat.le_of_ble_eq_true rfl) ?_
  refine w_iload_n (i := 0) (n' := 1) dX6_isDigit_0 rfl rfl rfl ?_
  refine w_bipush (v := 48) (n' := 3) dX6_isDigit_1 rfl (by decide) ?_
  refine w_icmp_lt (n' := 6) (tgt := 16) dX6_isDigit_3 rfl rfl (fun h3 => ?_) (fun h3 => ?_)
  · refine w_iconst (v := 0) (n' := 17) dX6_isDigit_16 rfl rfl ?_
    exact w_zret dX6_isDigit_17 rfl rfl ⟨by rw [dgT, decide_eq_false (Int32.not_le.mpr h3)]; rfl, rfl⟩
  · refine w_iload_n (i := 0) (n' := 7) dX6_isDigit_6 rfl rfl rfl ?_
    refine w_bipush (v := 57) (n' := 9) dX6_isDigit_7 rfl (by decide) ?_
    refine w_icmp_gt (n' := 12) (tgt := 16) dX6_isDigit_9 rfl rfl (fun h9 => ?_) (fun h9 => ?_)
    · refine w_iconst (v := 0) (n' := 17) dX6_isDigit_16 rfl rfl ?_
      exact w_zret dX6_isDigit_17 rfl rfl ⟨by rw [dgT, decide_eq_false (Int32.not_le.mpr h9), Bool.and_false]; rfl, rfl⟩
    · refine w_iconst (v := 1) (n' := 13) dX6_isDigit_12 rfl rfl ?_
      refine w_goto (tgt := 17) dX6_isDigit_13 rfl ?_
      exact w_zret dX6_isDigit_17 rfl rfl ⟨by rw [dgT, decide_eq_true (Int32.not_lt.mp h3), decide_eq_true (Int32.not_lt.mp h9)]; rfl, rfl⟩
set_option maxHeartbeats 4000000 in
theorem c6_byteAt {T p : Nat} {mem : Mem} (hT : mem 50 7 = nI T) (hT2 : T ≤ 120) (hp : p ≤ 1000) (x : Int32) (hx : x = nI p) : CnE mX6_byteAt [.ref 50, .int x] mem (some (.int (BT mem T p))) mem := by
  refine Cn.of (ls := [some (.ref 50), some (.int x)]) (by decide) rfl (Nat.le_of_ble_eq_true rfl) ?_
  refine w_iload_n (i := 1) (n' := 1) dX6_byteAt_0 rfl rfl rfl ?_
  refine w_aload_n (i := 0) (n' := 2) dX6_byteAt_1 rfl rfl rfl ?_
  refine w_get (ci := 6) (j := 7) (n' := 5) dX6_byteAt_2 rfl fRX6_214 (Nat.le_of_ble_eq_true rfl) (Nat.le_of_ble_eq_true rfl) rfl rfl ?_
  refine w_icmp_ge (n' := 8) (tgt := 17) dX6_byteAt_5 rfl rfl (fun h5 => ?_) (fun h5 => ?_)
  · have hge : T ≤ p := by
      rcases Nat.lt_or_ge p T with q | q
      · rw [hT, hx] at h5
        exact absurd h5 (nI_ge q (by omega))
      · exact q
    refine w_iconst (v := -1) (n' := 18) dX6_byteAt_17 rfl rfl ?_
    exact w_iret dX6_byteAt_18 rfl ⟨by rw [BT_no hge], rfl⟩
  · have hlt : p < T := by
      rcases Nat.lt_or_ge p T with q | q
      · exact q
      · exact absurd (by rw [hT, hx]; exact nI_le q (by omega)) h5
    refine w_aload_n (i := 0) (n' := 9) dX6_byteAt_8 rfl rfl rfl ?_
    refine w_get (ci := 6) (j := 6) (n' := 12) dX6_byteAt_9 rfl fRX6_25 (Nat.le_of_ble_eq_true rfl) (Nat.le_of_ble_eq_true rfl) rfl rfl ?_
    refine w_iload_n (i := 1) (n' := 13) dX6_byteAt_12 rfl rfl rfl ?_
    refine w_iald (n := p) (n' := 14) dX6_byteAt_13 rfl rfl hx (show p < 120 by omega) ?_
    refine w_goto (tgt := 18) dX6_byteAt_14 rfl ?_
    exact w_iret dX6_byteAt_18 rfl ⟨by rw [BT, if_pos hlt], rfl⟩
def lexK (x : Int32) : Int32 := if 0 ≤ x then (if bB (leT x) = 0 then (if bB (dgT x) = 0 then (if x = 59 then 3 else if x = 45 then 5 else 4) else 2) else 1) else 0
def lexF (B : Nat → Int32) (T p : Nat) : Nat := endN spT B T p
def lexE (B : Nat → Int32) (T f : Nat) : Nat := (if lexK (B f) = 2 then endN dgT B T (if lexK (B f) = 1 then endN leT B T f else f) else (if lexK (B f) = 1 then endN leT B T f else f)) + (if lexK (B f) ≤ 2 then 0 else 1)
def lexV (B : Nat → Int32) (T f : Nat) : Int32 := if lexK (B f) = 2 then valN B T f 0 else 0
def lexM (m : Mem) (T p : Nat) : Mem := tkM m (lexK (BT m T (lexF (BT m T) T p))) (nI (lexF (BT m T) T p)) (nI (lexE (BT m T) T (lexF (BT m T) T p))) (lexV (BT m T) T (lexF (BT m T) T p))
theorem tkB {m : Mem} {t f e v : Int32} {T : Nat} (hT : m 50 7 = nI T) : tkM m t f e v 50 7 = nI T := by rw [tk_7]; exact hT
