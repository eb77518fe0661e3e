/-! the parish -/
theorem for_ind {σ : Type} {X I : Nat → σ → Prop} (n : Nat) (step : ∀ i s, i ≤ n → I i s → (i < n → ∀ s', I (i + 1) s' → X (i + 1) s') → X i s) : ∀ i s, i ≤ n → I i s → X i s := by
  have key : ∀ d i s, n - i = d → i ≤ n → I i s → X i s := by
    intro d
    induction d with
    | zero => intro i s h1 h2 h3; exact step i s h2 h3 (fun h => absurd h (by omega))
    | succ d ih => intro i s h1 h2 h3; exact step i s h2 h3 (fun h s' hI => ih (i + 1) s' (by omega) (by omega) hI)
  intro i s h1 h2
  exact key _ i s rfl h1 h2
theorem kdP_all : ∀ k, k < 62 → kd k = 1 → (kd (k + 1) = 10 ∧ al (k + 1) = 3) ∧ kd (k + 2) = 12 ∧ (∀ i, i < 8 → kd (k + 3 + i) = 0) ∧ kd (k + 11) = 10 ∧ al (k + 11) = 10 := by decide +kernel
theorem kPa {k : Nat} (h : kd k = 1) : (kd (k + 1) = 10 ∧ al (k + 1) = 3) ∧ kd (k + 2) = 12 ∧ (∀ i, i < 8 → kd (k + 3 + i) = 0) ∧ kd (k + 11) = 10 ∧ al (k + 11) = 10 := kdP_all k (kd_lt h (by omega)) h
def DP (m : Mem) (k i : Nat) : Int32 := dayI (m (k + 3 + i) 0) (m (k + 3 + i) 1) (m (k + 3 + i) 2) (m (k + 1) 0)
def Same (mem m' : Mem) : Prop := pr m' = pr mem ∧ CaOK m'
def PO (m : Mem) (k n : Nat) : Prop := kd k = 1 ∧ m k 3 = nI n ∧ n ≤ 8 ∧ m (k + 1) 0 ≠ -1 ∧ CaOK m
theorem Same.at {mem m' : Mem} (h : Same mem m') {k j : Nat} (hc : isCa k j = false) : m' k j = mem k j := pr_at h.1 hc
theorem bitI_01 (s i : Int32) : bitI s i = 0 ∨ bitI s i = 1 := by
  unfold bitI
  by_cases h : (s >>> (i &&& 31)) &&& 1 = 1
  · right; rw [if_pos h]
  · left; rw [if_neg h]
theorem z_nar {x : Int32} (h : x = 0 ∨ x = 1) : narrow .boolean (.int x) = .int x := by rcases h with rfl | rfl <;> rfl
theorem bitI_nar (s i : Int32) : narrow .boolean (.int (bitI s i)) = .int (bitI s i) := z_nar (bitI_01 s i)
theorem inR_nar (v a b : Int32) : narrow .boolean (.int (inR v a b)) = .int (inR v a b) := z_nar (inR_01 v a b)
theorem isCa_k {k j : Nat} (h : kd k ≠ 0) : isCa k j = false := by simp [isCa, h]
theorem isCa_j {k j : Nat} (h : j < 5) : isCa k j = false := by simp [isCa]; omega
theorem Same.row {mem m' : Mem} (h : Same mem m') {k : Nat} (hk : kd k ≠ 0) : m' k = mem k := by
  funext j
  exact h.at (isCa_k hk)
theorem Same.DP {mem m' : Mem} (h : Same mem m') {k : Nat} (hk : kd k = 1) : DP m' k = DP mem k := by
  funext i
  have h1 : kd (k + 1) ≠ 0 := by rw [(kPa hk).1.1]; decide
  show dayI _ _ _ _ = dayI _ _ _ _
  rw [h.at (isCa_j (by decide)), h.at (isCa_j (by decide)), h.at (isCa_j (by decide)), h.at (isCa_k h1)]
theorem Same.PO {mem m' : Mem} (h : Same mem m') {k n : Nat} (hp : PO mem k n) : PO m' k n := by
  obtain ⟨h1, h2, h3, h4, h5⟩ := hp
  have h7 : kd (k + 1) ≠ 0 := by rw [(kPa h1).1.1]; decide
  exact ⟨h1, by rw [h.row (by rw [h1]; decide)]; exact h2, h3, by rw [h.row h7]; exact h4, h.2⟩
theorem Same.rf {mem : Mem} (h : CaOK mem) : Same mem mem := ⟨rfl, h⟩
theorem Same.tr {a b c : Mem} (h : Same a b) (h2 : Same b c) : Same a c := ⟨h2.1.trans h.1, h2.2⟩
def mx (D : Nat → Int32) : Nat → Int32
  | 0 => 0
  | i + 1 => maxI (mx D i) (D i)
def lbS (D : Nat → Int32) (b : Int32) : Nat → Int32 × Int32
  | 0 => (0, 0)
  | i + 1 => if b ≤ D i then lbS D b i else if (lbS D b i).2 ≤ D i then (if D i ≤ (lbS D b i).2 then ((lbS D b i).1 ||| ((1 : Int32) <<< (nI i &&& 31)), D i) else ((1 : Int32) <<< (nI i &&& 31), D i)) else lbS D b i
def erS (D : Nat → Int32) : Nat → Int32 × Int32
  | 0 => (0, 1000000)
  | i + 1 => if D i ≤ (erS D i).2 then (if (erS D i).2 ≤ D i then ((erS D i).1 ||| ((1 : Int32) <<< (nI i &&& 31)), D i) else ((1 : Int32) <<< (nI i &&& 31), D i)) else erS D i
def sumC (F : Nat → Nat → Int32) (set : Int32) : Nat → Int32
  | 0 => 0
  | i + 1 => sumC F set i + (if bitI set (nI i) = 0 then 1 else 3) * F i 3 * tellF (F i 0) (F i 4)
def leanC (lean mice rain : Int32) : Int32 :=
  if rain < 60 then (if 0 ≤ lean then maxI 0 (absI lean - mice / 10) else 0 - maxI 0 (absI lean - mice / 10)) else 0 - (if 0 ≤ lean then maxI 0 (absI lean - mice / 10) else 0 - maxI 0 (absI lean - mice / 10))
def sumT (g : Nat → Int32) : Nat → Int32
  | 0 => 0
  | i + 1 => sumT g i + g i
def bitT (P : Nat → Bool) : Nat → Int32
  | 0 => 0
  | i + 1 => if P i then bitT P i ||| ((1 : Int32) <<< (nI i &&& 31)) else bitT P i
def cntT (P : Nat → Bool) : Nat → Int32
  | 0 => 0
  | i + 1 => if P i then cntT P i + 1 else cntT P i
set_option maxHeartbeats 4000000 in
theorem c_mostDays {k n : Nat} {mem : Mem} (h : PO mem k n) : CnI mX1_mostDays [.ref k] mem (fun x m' => x = mx (DP mem k) n ∧ Same mem m') := by
  have h8 := h.2.2.1
  refine Cn.of (ls := [some (.ref k), none, none]) (by decide) rfl (Nat.le_of_ble_eq_true rfl) ?_
  refine w_iconst (v := 0) (n' := 1) dX1_mostDays_0 rfl rfl ?_
  refine w_istore_n (i := 1) (n' := 2) (ls' := [_, _, _]) dX1_mostDays_1 rfl rfl (Nat.le_of_ble_eq_true rfl) rfl rfl ?_
  refine w_iconst (v := 0) (n' := 3) dX1_mostDays_2 rfl rfl ?_
  refine w_istore_n (i := 2) (n' := 4) (ls' := [_, _, _]) dX1_mostDays_3 rfl rfl (Nat.le_of_ble_eq_true rfl) rfl rfl ?_
  have L : ∀ (i : Nat) (s : Int32 × Mem), i ≤ n → (s.1 = mx (DP mem k) i ∧ Same mem s.2) → Wm mX1_mostDays (zM mX1_mostDays (fun r m' => ∃ x, r = some (.int x) ∧ (fun x m' => x = mx (DP mem k) n ∧ Same mem m') x m')) 4 [some (.ref k), some (.int s.1), some (.int (nI i))] [] s.2 := by
    refine for_ind n ?_
    rintro i ⟨most, m1⟩ hi ⟨h1, h2⟩ ih
    dsimp only at h1 h2 ih ⊢
    have hp := h2.PO h
    refine w_iload_n (i := 2) (n' := 5) dX1_mostDays_4 rfl rfl rfl ?_
    refine w_aload_n (i := 0) (n' := 6) dX1_mostDays_5 rfl rfl rfl ?_
    refine w_get (ci := 1) (j := 3) (n' := 9) dX1_mostDays_6 rfl fRX1_35 (Nat.le_of_ble_eq_true rfl) (Nat.le_of_ble_eq_true rfl) h.1 rfl ?_
    refine w_icmp_ge (n' := 12) (tgt := 38) dX1_mostDays_9 rfl rfl (fun h9 => ?_) (fun h9 => ?_)
    · have hin : i = n := by
        rcases Nat.lt_or_ge i n with q | q
        · exact absurd h9 (by rw [hp.2.1]; exact nI_ge q (by omega))
        · omega
      subst hin
      refine w_iload_n (i := 1) (n' := 39) dX1_mostDays_38 rfl rfl rfl ?_
      exact w_iret dX1_mostDays_39 rfl ⟨_, rfl, h1, h2⟩
    · have hlt : i < n := by
        rcases Nat.lt_or_ge i n with q | q
        · exact q
        · exact absurd (by rw [hp.2.1]; exact nI_le q (by omega)) h9
      refine w_iload_n (i := 1) (n' := 13) dX1_mostDays_12 rfl rfl rfl ?_
      refine w_aload_n (i := 0) (n' := 14) dX1_mostDays_13 rfl rfl rfl ?_
      refine w_get (ci := 1) (j := 1) (n' := 17) dX1_mostDays_14 rfl fRX1_17 (Nat.le_of_ble_eq_true rfl) (Nat.le_of_ble_eq_true rfl) h.1 rfl ?_
      refine w_iload_n (i := 2) (n' := 18) dX1_mostDays_17 rfl rfl rfl ?_
      refine w_aaldF (n := i) (n' := 19) dX1_mostDays_18 rfl (kPa h.1).2.1 rfl (show i < 8 by omega) ?_
      refine w_aload_n (i := 0) (n' := 20) dX1_mostDays_19 rfl rfl rfl ?_
      refine w_get (ci := 1) (j := 0) (n' := 23) dX1_mostDays_20 rfl fRX1_9 (Nat.le_of_ble_eq_true rfl) (Nat.le_of_ble_eq_true rfl) h.1 rfl ?_
      refine w_iconst (v := 0) (n' := 24) dX1_mostDays_23 rfl rfl ?_
      refine w_iald (n := 0) (n' := 25) dX1_mostDays_24 rfl (kPa h.1).1.1 (by decide) (by rw [(kPa h.1).1.2]; decide) ?_
      refine v_I (ci := 0) (n' := 28) dX1_mostDays_25 rfl lRX1_53 okX0_daysIn voX0_daysIn ⟨⟨Nat.le_of_ble_eq_true rfl, Nat.le_of_ble_eq_true rfl⟩, Nat.le_of_ble_eq_true rfl, Nat.le_of_ble_eq_true rfl⟩ (c_daysIn ((kPa h.1).2.2.1 i (by omega)) _ hp.2.2.2.1 _ hp.2.2.2.2) rfl rfl (Nat.le_of_ble_eq_true rfl) ((kPa h.1).2.2.1 i (by omega)) (Nat.le_of_ble_eq_true rfl) rfl (fun x25 m25 q25 => ?_)
      have hD : x25 = DP mem k i := by rw [q25.1, ← h2.DP h.1]; rfl
      have h2b : Same mem m25 := h2.tr ⟨q25.2.1, q25.2.2.1⟩
      refine w_max (n' := 31) dX1_mostDays_28 rfl lRX1_57 ⟨Nat.le_of_ble_eq_true rfl, Nat.le_of_ble_eq_true rfl, Nat.le_of_ble_eq_true rfl, Nat.le_of_ble_eq_true rfl⟩ ?_
      refine w_istore_n (i := 1) (n' := 32) (ls' := [_, _, _]) dX1_mostDays_31 rfl rfl (Nat.le_of_ble_eq_true rfl) rfl rfl ?_
      refine w_iinc (n' := 35) (v := nI (i + 1)) (ls' := [_, _, _]) dX1_mostDays_32 rfl rfl (nI_1 i) (Nat.le_of_ble_eq_true rfl) rfl rfl ?_
      refine w_goto (tgt := 4) dX1_mostDays_35 rfl ?_
      exact ih hlt (_, _) ⟨by rw [hD, h1]; rfl, h2b⟩
  exact L 0 (0, mem) (Nat.zero_le _) ⟨rfl, Same.rf h.2.2.2.2⟩
set_option maxHeartbeats 4000000 in
theorem c_latestBelow {k n : Nat} {mem : Mem} (h : PO mem k n) (b : Int32) : CnI mX1_latestBelow [.ref k, .int b] mem (fun x m' => x = (lbS (DP mem k) b n).1 ∧ Same mem m') := by
  have h8 := h.2.2.1
  refine Cn.of (ls := [some (.ref k), some (.int b), none, none, none, none]) (by decide) rfl (Nat.le_of_ble_eq_true rfl) ?_
  refine w_iconst (v := 0) (n' := 1) dX1_latestBelow_0 rfl rfl ?_
  refine w_istore_n (i := 2) (n' := 2) (ls' := [_, _, _, _, _, _]) dX1_latestBelow_1 rfl rfl (Nat.le_of_ble_eq_true rfl) rfl rfl ?_
  refine w_iconst (v := 0) (n' := 3) dX1_latestBelow_2 rfl rfl ?_
  refine w_istore_n (i := 3) (n' := 4) (ls' := [_, _, _, _, _, _]) dX1_latestBelow_3 rfl rfl (Nat.le_of_ble_eq_true rfl) rfl rfl ?_
  refine w_iconst (v := 0) (n' := 5) dX1_latestBelow_4 rfl rfl ?_
  refine w_istore (n' := 7) (ls' := [_, _, _, _, _, _]) dX1_latestBelow_5 rfl (Nat.le_of_ble_eq_true rfl) rfl rfl ?_
  have L : ∀ (i : Nat) (s : (Int32 × Int32) × Option Value × Mem), i ≤ n → (s.1 = lbS (DP mem k) b i ∧ Same mem s.2.2) → Wm mX1_latestBelow (zM mX1_latestBelow (fun r m' => ∃ x, r = some (.int x) ∧ (fun x m' => x = (lbS (DP mem k) b n).1 ∧ Same mem m') x m')) 7 [some (.ref k), some (.int b), some (.int s.1.1), some (.int s.1.2), some (.int (nI i)), s.2.1] [] s.2.2 := by
    refine for_ind n ?_
    rintro i ⟨⟨set, most⟩, lx, m1⟩ hi ⟨h1, h2⟩ ih
    dsimp only at h1 h2 ih ⊢
    have hp := h2.PO h
    have e1 : set = (lbS (DP mem k) b i).1 := by rw [← h1]
    have e2 : most = (lbS (DP mem k) b i).2 := by rw [← h1]
    refine w_iload (n' := 9) dX1_latestBelow_7 rfl rfl ?_
    refine w_aload_n (i := 0) (n' := 10) dX1_latestBelow_9 rfl rfl rfl ?_
    refine w_get (ci := 1) (j := 3) (n' := 13) dX1_latestBelow_10 rfl fRX1_35 (Nat.le_of_ble_eq_true rfl) (Nat.le_of_ble_eq_true rfl) h.1 rfl ?_
    refine w_icmp_ge (n' := 16) (tgt := 78) dX1_latestBelow_13 rfl rfl (fun h13 => ?_) (fun h13 => ?_)
    · have hin : i = n := by
        rcases Nat.lt_or_ge i n with q | q
        · exact absurd h13 (by rw [hp.2.1]; exact nI_ge q (by omega))
        · omega
      subst hin
      refine w_iload_n (i := 2) (n' := 79) dX1_latestBelow_78 rfl rfl rfl ?_
      exact w_iret dX1_latestBelow_79 rfl ⟨_, rfl, e1, h2⟩
    · have hlt : i < n := by
        rcases Nat.lt_or_ge i n with q | q
        · exact q
        · exact absurd (by rw [hp.2.1]; exact nI_le q (by omega)) h13
      refine w_aload_n (i := 0) (n' := 17) dX1_latestBelow_16 rfl rfl rfl ?_
      refine w_get (ci := 1) (j := 1) (n' := 20) dX1_latestBelow_17 rfl fRX1_17 (Nat.le_of_ble_eq_true rfl) (Nat.le_of_ble_eq_true rfl) h.1 rfl ?_
      refine w_iload (n' := 22) dX1_latestBelow_20 rfl rfl ?_
      refine w_aaldF (n := i) (n' := 23) dX1_latestBelow_22 rfl (kPa h.1).2.1 rfl (show i < 8 by omega) ?_
      refine w_aload_n (i := 0) (n' := 24) dX1_latestBelow_23 rfl rfl rfl ?_
      refine w_get (ci := 1) (j := 0) (n' := 27) dX1_latestBelow_24 rfl fRX1_9 (Nat.le_of_ble_eq_true rfl) (Nat.le_of_ble_eq_true rfl) h.1 rfl ?_
      refine w_iconst (v := 0) (n' := 28) dX1_latestBelow_27 rfl rfl ?_
      refine w_iald (n := 0) (n' := 29) dX1_latestBelow_28 rfl (kPa h.1).1.1 (by decide) (by rw [(kPa h.1).1.2]; decide) ?_
      refine v_I (ci := 0) (n' := 32) dX1_latestBelow_29 rfl lRX1_53 okX0_daysIn voX0_daysIn ⟨⟨Nat.le_of_ble_eq_true rfl, Nat.le_of_ble_eq_true rfl⟩, Nat.le_of_ble_eq_true rfl, Nat.le_of_ble_eq_true rfl⟩ (c_daysIn ((kPa h.1).2.2.1 i (by omega)) _ hp.2.2.2.1 _ hp.2.2.2.2) rfl rfl (Nat.le_of_ble_eq_true rfl) ((kPa h.1).2.2.1 i (by omega)) (Nat.le_of_ble_eq_true rfl) rfl (fun x29 m29 q29 => ?_)
      have hD : x29 = DP mem k i := by rw [q29.1, ← h2.DP h.1]; rfl
      have h2b : Same mem m29 := h2.tr ⟨q29.2.1, q29.2.2.1⟩
      refine w_istore (n' := 34) (ls' := [_, _, _, _, _, _]) dX1_latestBelow_32 rfl (Nat.le_of_ble_eq_true rfl) rfl rfl ?_
      refine w_iload (n' := 36) dX1_latestBelow_34 rfl rfl ?_
      refine w_iload_n (i := 1) (n' := 37) dX1_latestBelow_36 rfl rfl rfl ?_
      refine w_icmp_ge (n' := 40) (tgt := 72) dX1_latestBelow_37 rfl rfl (fun h37 => ?_) (fun h37 => ?_)
      · refine w_iinc (n' := 75) (v := nI (i + 1)) (ls' := [_, _, _, _, _, _]) dX1_latestBelow_72 rfl rfl (nI_1 i) (Nat.le_of_ble_eq_true rfl) rfl rfl ?_
        refine w_goto (tgt := 7) dX1_latestBelow_75 rfl ?_
        exact ih hlt ((_, _), _, _) ⟨by show _ = lbS _ _ (i + 1); rw [lbS, ← hD, if_pos h37, ← h1], h2b⟩
      · refine w_iload (n' := 42) dX1_latestBelow_40 rfl rfl ?_
        refine w_iload_n (i := 3) (n' := 43) dX1_latestBelow_42 rfl rfl rfl ?_
        refine w_icmp_ge (n' := 46) (tgt := 49) dX1_latestBelow_43 rfl rfl (fun h43 => ?_) (fun h43 => ?_)
        · refine w_iload (n' := 51) dX1_latestBelow_49 rfl rfl ?_
          refine w_iload_n (i := 3) (n' := 52) dX1_latestBelow_51 rfl rfl rfl ?_
          refine w_icmp_le (n' := 55) (tgt := 62) dX1_latestBelow_52 rfl rfl (fun h52 => ?_) (fun h52 => ?_)
          · refine w_iload_n (i := 2) (n' := 63) dX1_latestBelow_62 rfl rfl rfl ?_
            refine w_iconst (v := 1) (n' := 64) dX1_latestBelow_63 rfl rfl ?_
            refine w_iload (n' := 66) dX1_latestBelow_64 rfl rfl ?_
            refine w_ishl (n' := 67) dX1_latestBelow_66 rfl ?_
            refine w_ior (n' := 68) dX1_latestBelow_67 rfl ?_
            refine w_istore_n (i := 2) (n' := 69) (ls' := [_, _, _, _, _, _]) dX1_latestBelow_68 rfl rfl (Nat.le_of_ble_eq_true rfl) rfl rfl ?_
            refine w_iload (n' := 71) dX1_latestBelow_69 rfl rfl ?_
            refine w_istore_n (i := 3) (n' := 72) (ls' := [_, _, _, _, _, _]) dX1_latestBelow_71 rfl rfl (Nat.le_of_ble_eq_true rfl) rfl rfl ?_
            refine w_iinc (n' := 75) (v := nI (i + 1)) (ls' := [_, _, _, _, _, _]) dX1_latestBelow_72 rfl rfl (nI_1 i) (Nat.le_of_ble_eq_true rfl) rfl rfl ?_
            refine w_goto (tgt := 7) dX1_latestBelow_75 rfl ?_
            exact ih hlt ((_, _), _, _) ⟨by show _ = lbS _ _ (i + 1); rw [lbS, ← hD, if_neg h37, ← e2, if_pos h43, if_pos h52, ← e1], h2b⟩
          · refine w_iconst (v := 1) (n' := 56) dX1_latestBelow_55 rfl rfl ?_
            refine w_iload (n' := 58) dX1_latestBelow_56 rfl rfl ?_
            refine w_ishl (n' := 59) dX1_latestBelow_58 rfl ?_
            refine w_goto (tgt := 68) dX1_latestBelow_59 rfl ?_
            refine w_istore_n (i := 2) (n' := 69) (ls' := [_, _, _, _, _, _]) dX1_latestBelow_68 rfl rfl (Nat.le_of_ble_eq_true rfl) rfl rfl ?_
            refine w_iload (n' := 71) dX1_latestBelow_69 rfl rfl ?_
            refine w_istore_n (i := 3) (n' := 72) (ls' := [_, _, _, _, _, _]) dX1_latestBelow_71 rfl rfl (Nat.le_of_ble_eq_true rfl) rfl rfl ?_
            refine w_iinc (n' := 75) (v := nI (i + 1)) (ls' := [_, _, _, _, _, _]) dX1_latestBelow_72 rfl rfl (nI_1 i) (Nat.le_of_ble_eq_true rfl) rfl rfl ?_
            refine w_goto (tgt := 7) dX1_latestBelow_75 rfl ?_
            exact ih hlt ((_, _), _, _) ⟨by show _ = lbS _ _ (i + 1); rw [lbS, ← hD, if_neg h37, ← e2, if_pos h43, if_neg h52], h2b⟩
        · refine w_goto (tgt := 72) dX1_latestBelow_46 rfl ?_
          refine w_iinc (n' := 75) (v := nI (i + 1)) (ls' := [_, _, _, _, _, _]) dX1_latestBelow_72 rfl rfl (nI_1 i) (Nat.le_of_ble_eq_true rfl) rfl rfl ?_
          refine w_goto (tgt := 7) dX1_latestBelow_75 rfl ?_
          exact ih hlt ((_, _), _, _) ⟨by show _ = lbS _ _ (i + 1); rw [lbS, ← hD, if_neg h37, ← e2, if_neg h43, ← h1], h2b⟩
  exact L 0 ((0, 0), _, mem) (Nat.zero_le _) ⟨rfl, Same.rf h.2.2.2.2⟩
set_option maxHeartbeats 4000000 in
theorem c_earliest {k n : Nat} {mem : Mem} (h : PO mem k n) : CnI mX1_earliest [.ref k] mem (fun x m' => x = (erS (DP mem k) n).1 ∧ Same mem m') := by
  have h8 := h.2.2.1
  refine Cn.of (ls := [some (.ref k), none, none, none, none]) (by decide) rfl (Nat.le_of_ble_eq_true rfl) ?_
  refine w_iconst (v := 0) (n' := 1) dX1_earliest_0 rfl rfl ?_
  refine w_istore_n (i := 1) (n' := 2) (ls' := [_, _, _, _, _]) dX1_earliest_1 rfl rfl (Nat.le_of_ble_eq_true rfl) rfl rfl ?_
  refine w_ldc (v := 1000000) (n' := 4) dX1_earliest_2 rfl kRX1_63 ?_
  refine w_istore_n (i := 2) (n' := 5) (ls' := [_, _, _, _, _]) dX1_earliest_4 rfl rfl (Nat.le_of_ble_eq_true rfl) rfl rfl ?_
  refine w_iconst (v := 0) (n' := 6) dX1_earliest_5 rfl rfl ?_
  refine w_istore_n (i := 3) (n' := 7) (ls' := [_, _, _, _, _]) dX1_earliest_6 rfl rfl (Nat.le_of_ble_eq_true rfl) rfl rfl ?_
  have L : ∀ (i : Nat) (s : (Int32 × Int32) × Option Value × Mem), i ≤ n → (s.1 = erS (DP mem k) i ∧ Same mem s.2.2) → Wm mX1_earliest (zM mX1_earliest (fun r m' => ∃ x, r = some (.int x) ∧ (fun x m' => x = (erS (DP mem k) n).1 ∧ Same mem m') x m')) 7 [some (.ref k), some (.int s.1.1), some (.int s.1.2), some (.int (nI i)), s.2.1] [] s.2.2 := by
    refine for_ind n ?_
    rintro i ⟨⟨set, few⟩, lx, m1⟩ hi ⟨h1, h2⟩ ih
    dsimp only at h1 h2 ih ⊢
    have hp := h2.PO h
    have e1 : set = (erS (DP mem k) i).1 := by rw [← h1]
    have e2 : few = (erS (DP mem k) i).2 := by rw [← h1]
    refine w_iload_n (i := 3) (n' := 8) dX1_earliest_7 rfl rfl rfl ?_
    refine w_aload_n (i := 0) (n' := 9) dX1_earliest_8 rfl rfl rfl ?_
    refine w_get (ci := 1) (j := 3) (n' := 12) dX1_earliest_9 rfl fRX1_35 (Nat.le_of_ble_eq_true rfl) (Nat.le_of_ble_eq_true rfl) h.1 rfl ?_
    refine w_icmp_ge (n' := 15) (tgt := 68) dX1_earliest_12 rfl rfl (fun h12 => ?_) (fun h12 => ?_)
    · have hin : i = n := by
        rcases Nat.lt_or_ge i n with q | q
        · exact absurd h12 (by rw [hp.2.1]; exact nI_ge q (by omega))
        · omega
      subst hin
      refine w_iload_n (i := 1) (n' := 69) dX1_earliest_68 rfl rfl rfl ?_
      exact w_iret dX1_earliest_69 rfl ⟨_, rfl, e1, h2⟩
    · have hlt : i < n := by
        rcases Nat.lt_or_ge i n with q | q
        · exact q
        · exact absurd (by rw [hp.2.1]; exact nI_le q (by omega)) h12
      refine w_aload_n (i := 0) (n' := 16) dX1_earliest_15 rfl rfl rfl ?_
      refine w_get (ci := 1) (j := 1) (n' := 19) dX1_earliest_16 rfl fRX1_17 (Nat.le_of_ble_eq_true rfl) (Nat.le_of_ble_eq_true rfl) h.1 rfl ?_
      refine w_iload_n (i := 3) (n' := 20) dX1_earliest_19 rfl rfl rfl ?_
      refine w_aaldF (n := i) (n' := 21) dX1_earliest_20 rfl (kPa h.1).2.1 rfl (show i < 8 by omega) ?_
      refine w_aload_n (i := 0) (n' := 22) dX1_earliest_21 rfl rfl rfl ?_
      refine w_get (ci := 1) (j := 0) (n' := 25) dX1_earliest_22 rfl fRX1_9 (Nat.le_of_ble_eq_true rfl) (Nat.le_of_ble_eq_true rfl) h.1 rfl ?_
      refine w_iconst (v := 0) (n' := 26) dX1_earliest_25 rfl rfl ?_
      refine w_iald (n := 0) (n' := 27) dX1_earliest_26 rfl (kPa h.1).1.1 (by decide) (by rw [(kPa h.1).1.2]; decide) ?_
      refine v_I (ci := 0) (n' := 30) dX1_earliest_27 rfl lRX1_53 okX0_daysIn voX0_daysIn ⟨⟨Nat.le_of_ble_eq_true rfl, Nat.le_of_ble_eq_true rfl⟩, Nat.le_of_ble_eq_true rfl, Nat.le_of_ble_eq_true rfl⟩ (c_daysIn ((kPa h.1).2.2.1 i (by omega)) _ hp.2.2.2.1 _ hp.2.2.2.2) rfl rfl (Nat.le_of_ble_eq_true rfl) ((kPa h.1).2.2.1 i (by omega)) (Nat.le_of_ble_eq_true rfl) rfl (fun x27 m27 q27 => ?_)
      have hD : x27 = DP mem k i := by rw [q27.1, ← h2.DP h.1]; rfl
      have h2b : Same mem m27 := h2.tr ⟨q27.2.1, q27.2.2.1⟩
      refine w_istore (n' := 32) (ls' := [_, _, _, _, _]) dX1_earliest_30 rfl (Nat.le_of_ble_eq_true rfl) rfl rfl ?_
      refine w_iload (n' := 34) dX1_earliest_32 rfl rfl ?_
      refine w_iload_n (i := 2) (n' := 35) dX1_earliest_34 rfl rfl rfl ?_
      refine w_icmp_le (n' := 38) (tgt := 41) dX1_earliest_35 rfl rfl (fun h35 => ?_) (fun h35 => ?_)
      · refine w_iload (n' := 43) dX1_earliest_41 rfl rfl ?_
        refine w_iload_n (i := 2) (n' := 44) dX1_earliest_43 rfl rfl rfl ?_
        refine w_icmp_ge (n' := 47) (tgt := 53) dX1_earliest_44 rfl rfl (fun h44 => ?_) (fun h44 => ?_)
        · refine w_iload_n (i := 1) (n' := 54) dX1_earliest_53 rfl rfl rfl ?_
          refine w_iconst (v := 1) (n' := 55) dX1_earliest_54 rfl rfl ?_
          refine w_iload_n (i := 3) (n' := 56) dX1_earliest_55 rfl rfl rfl ?_
          refine w_ishl (n' := 57) dX1_earliest_56 rfl ?_
          refine w_ior (n' := 58) dX1_earliest_57 rfl ?_
          refine w_istore_n (i := 1) (n' := 59) (ls' := [_, _, _, _, _]) dX1_earliest_58 rfl rfl (Nat.le_of_ble_eq_true rfl) rfl rfl ?_
          refine w_iload (n' := 61) dX1_earliest_59 rfl rfl ?_
          refine w_istore_n (i := 2) (n' := 62) (ls' := [_, _, _, _, _]) dX1_earliest_61 rfl rfl (Nat.le_of_ble_eq_true rfl) rfl rfl ?_
          refine w_iinc (n' := 65) (v := nI (i + 1)) (ls' := [_, _, _, _, _]) dX1_earliest_62 rfl rfl (nI_1 i) (Nat.le_of_ble_eq_true rfl) rfl rfl ?_
          refine w_goto (tgt := 7) dX1_earliest_65 rfl ?_
          exact ih hlt ((_, _), _, _) ⟨by show _ = erS _ (i + 1); rw [erS, ← hD, ← e2, if_pos h35, if_pos h44, ← e1], h2b⟩
        · refine w_iconst (v := 1) (n' := 48) dX1_earliest_47 rfl rfl ?_
          refine w_iload_n (i := 3) (n' := 49) dX1_earliest_48 rfl rfl rfl ?_
          refine w_ishl (n' := 50) dX1_earliest_49 rfl ?_
          refine w_goto (tgt := 58) dX1_earliest_50 rfl ?_
          refine w_istore_n (i := 1) (n' := 59) (ls' := [_, _, _, _, _]) dX1_earliest_58 rfl rfl (Nat.le_of_ble_eq_true rfl) rfl rfl ?_
          refine w_iload (n' := 61) dX1_earliest_59 rfl rfl ?_
          refine w_istore_n (i := 2) (n' := 62) (ls' := [_, _, _, _, _]) dX1_earliest_61 rfl rfl (Nat.le_of_ble_eq_true rfl) rfl rfl ?_
          refine w_iinc (n' := 65) (v := nI (i + 1)) (ls' := [_, _, _, _, _]) dX1_earliest_62 rfl rfl (nI_1 i) (Nat.le_of_ble_eq_true rfl) rfl rfl ?_
          refine w_goto (tgt := 7) dX1_earliest_65 rfl ?_
          exact ih hlt ((_, _), _, _) ⟨by show _ = erS _ (i + 1); rw [erS, ← hD, ← e2, if_pos h35, if_neg h44], h2b⟩
      · refine w_goto (tgt := 62) dX1_earliest_38 rfl ?_
        refine w_iinc (n' := 65) (v := nI (i + 1)) (ls' := [_, _, _, _, _]) dX1_earliest_62 rfl rfl (nI_1 i) (Nat.le_of_ble_eq_true rfl) rfl rfl ?_
        refine w_goto (tgt := 7) dX1_earliest_65 rfl ?_
        exact ih hlt ((_, _), _, _) ⟨by show _ = erS _ (i + 1); rw [erS, ← hD, ← e2, if_neg h35, ← h1], h2b⟩
  exact L 0 ((0, 1000000), _, mem) (Nat.zero_le _) ⟨rfl, Same.rf h.2.2.2.2⟩
set_option maxHeartbeats 4000000 in
theorem c_latest {k n : Nat} {mem : Mem} (h : PO mem k n) : CnI mX1_latest [.ref k] mem (fun x m' => x = (lbS (DP mem k) 1000000 n).1 ∧ Same mem m') := by
  refine Cn.of (ls := [some (.ref k)]) (by decide) rfl (Nat.le_of_ble_eq_true rfl) ?_
  refine w_aload_n (i := 0) (n' := 1) dX1_latest_0 rfl rfl rfl ?_
  refine w_ldc (v := 1000000) (n' := 3) dX1_latest_1 rfl kRX1_63 ?_
  refine v_I (ci := 1) (n' := 6) dX1_latest_3 rfl lRX1_64 okX1_latestBelow voX1_latestBelow ⟨⟨Nat.le_of_ble_eq_true rfl, Nat.le_of_ble_eq_true rfl⟩, Nat.le_of_ble_eq_true rfl, Nat.le_of_ble_eq_true rfl⟩ (c_latestBelow h _) rfl rfl (Nat.le_of_ble_eq_true rfl) h.1 (Nat.le_of_ble_eq_true rfl) rfl (fun x3 m3 q3 => ?_)
  exact w_iret dX1_latest_6 rfl ⟨_, rfl, q3⟩
set_option maxHeartbeats 4000000 in
theorem c_isLatest {k n : Nat} {mem : Mem} (h : PO mem k n) (f : Int32) : CnI mX1_isLatest [.ref k, .int f] mem (fun x m' => x = bitI (lbS (DP mem k) 1000000 n).1 f ∧ Same mem m') := by
  refine Cn.of (ls := [some (.ref k), some (.int f)]) (by decide) rfl (Nat.le_of_ble_eq_true rfl) ?_
  refine w_aload_n (i := 0) (n' := 1) dX1_isLatest_0 rfl rfl rfl ?_
  refine w_ldc (v := 1000000) (n' := 3) dX1_isLatest_1 rfl kRX1_63 ?_
  refine v_I (ci := 1) (n' := 6) dX1_isLatest_3 rfl lRX1_64 okX1_latestBelow voX1_latestBelow ⟨⟨Nat.le_of_ble_eq_true rfl, Nat.le_of_ble_eq_true rfl⟩, Nat.le_of_ble_eq_true rfl, Nat.le_of_ble_eq_true rfl⟩ (c_latestBelow h _) rfl rfl (Nat.le_of_ble_eq_true rfl) h.1 (Nat.le_of_ble_eq_true rfl) rfl (fun x3 m3 q3 => ?_)
  refine w_iload_n (i := 1) (n' := 7) dX1_isLatest_6 rfl rfl rfl ?_
  refine s_E (n' := 10) dX1_isLatest_7 rfl lRX1_67 okX5_isIn stX5_isIn ⟨⟨Nat.le_of_ble_eq_true rfl, Nat.le_of_ble_eq_true rfl⟩, Nat.le_of_ble_eq_true rfl, Nat.le_of_ble_eq_true rfl⟩ (c_isIn _ _ _) rfl rfl (Nat.le_of_ble_eq_true rfl) ?_
  exact w_zret dX1_isLatest_10 rfl (bitI_nar _ _) ⟨_, rfl, by rw [q3.1], q3.2⟩
def FP (m : Mem) (k : Nat) : Nat → Nat → Int32 := fun i j => m (k + 3 + i) j
theorem sumC_congr {F G : Nat → Nat → Int32} {set : Int32} : ∀ n, (∀ i j, i < n → j < 5 → F i j = G i j) → sumC F set n = sumC G set n := by
  intro n
  induction n with
  | zero => intro _; rfl
  | succ n ih =>
    intro h
    rw [sumC, sumC, ih (fun i j hi hj => h i j (by omega) hj), h n 3 (by omega) (by omega), h n 0 (by omega) (by omega), h n 4 (by omega) (by omega)]
def leanM (m : Mem) (k n : Nat) : Int32 := leanC (sumC (FP m k) (lbS (DP m k) 1000000 n).1 n) (m (k + 1) 1) (m (k + 1) 2)
theorem Same.sumC {mem m' : Mem} (h : Same mem m') (k : Nat) (set : Int32) (n : Nat) : sumC (FP m' k) set n = sumC (FP mem k) set n := sumC_congr n (fun i j _ hj => h.at (isCa_j hj))
theorem Same.lean {mem m' : Mem} (h : Same mem m') {k : Nat} (hk : kd k = 1) (n : Nat) : leanM m' k n = leanM mem k n := by
  unfold leanM
  have h7 : kd (k + 1) ≠ 0 := by rw [(kPa hk).1.1]; decide
  rw [h.DP hk, h.sumC, h.row h7]
def yrF (L E lean : Int32) (i : Nat) (f : Nat → Int32) : Nat → Int32 := if bitI L (nI i) = 0 then heedF (if bitI E (nI i) = 0 then f else loseF f) lean else hasF f
def yrT (m : Mem) (k : Nat) (L E lean : Int32) (i : Nat) : Mem := fun a => if k + 3 ≤ a ∧ a < k + 3 + i then yrF L E lean (a - (k + 3)) (m a) else m a
theorem yrT_0 (m : Mem) (k : Nat) (L E lean : Int32) : yrT m k L E lean 0 = m := by
  funext a
  simp only [yrT]
  rw [if_neg (by omega)]
theorem yrT_at (m : Mem) (k : Nat) (L E lean : Int32) (i : Nat) : yrT m k L E lean i (k + 3 + i) = m (k + 3 + i) := by
  simp only [yrT]
  rw [if_neg (by omega)]
theorem yrT_k (m : Mem) {k a : Nat} (L E lean : Int32) (i : Nat) (h : a < k + 3) : yrT m k L E lean i a = m a := by
  simp only [yrT]
  rw [if_neg (by omega)]
theorem yrT_succ (m : Mem) (k : Nat) (L E lean : Int32) (i : Nat) : upR (yrT m k L E lean i) (k + 3 + i) (yrF L E lean i (m (k + 3 + i))) = yrT m k L E lean (i + 1) := by
  funext a
  by_cases h : a = k + 3 + i
  · subst h
    rw [upR_same]
    simp only [yrT]
    rw [if_pos (by omega), show k + 3 + i - (k + 3) = i by omega]
  · rw [upR_ne _ _ h]
    simp only [yrT]
    by_cases h2 : k + 3 ≤ a ∧ a < k + 3 + i
    · rw [if_pos h2, if_pos (by omega)]
    · rw [if_neg h2, if_neg (by omega)]
def yearMem (m : Mem) (k n : Nat) : Mem := upR (yrT m k (lbS (DP m k) 1000000 n).1 (erS (DP m k) n).1 (leanM m k n) n) k (upd (m k) 4 (minI 99999 (m k 4 + 1)))
def CaF (f : Nat → Int32) : Prop := f 5 = -1 ∨ f 6 = dayI (f 0) (f 1) (f 2) (f 5)
theorem CaF_has {f : Nat → Int32} (h : CaF f) : CaF (hasF f) := by
  unfold hasF
  split
  · left; simp [upd]
  · simpa [CaF, upd] using h
theorem CaF_lose {f : Nat → Int32} (h : CaF f) : CaF (loseF f) := by
  unfold loseF
  split
  · left; simp [upd]
  · exact h
theorem CaF_heed {f : Nat → Int32} (lean : Int32) (h : CaF f) : CaF (heedF f lean) := by
  unfold heedF
  split
  · simpa [CaF, upd] using h
  · split
    · simpa [CaF, upd] using h
    · exact h
theorem CaF_yr {f : Nat → Int32} (L E lean : Int32) (i : Nat) (h : CaF f) : CaF (yrF L E lean i f) := by
  unfold yrF
  split
  · split
    · exact CaF_heed lean h
    · exact CaF_heed lean (CaF_lose h)
  · exact CaF_has h
def eqC (f g : Nat → Int32) : Prop := ∀ j, j ≠ 5 → j ≠ 6 → f j = g j
theorem eqC_upd {f g : Nat → Int32} (h : eqC f g) (j : Nat) {x y : Int32} (e : x = y) : eqC (upd f j x) (upd g j y) := by
  intro i h5 h6
  subst e
  by_cases hi : i = j
  · subst hi; simp [upd]
  · simp [upd, hi, h i h5 h6]
theorem eqC_up5 {f g : Nat → Int32} (h : eqC f g) (x y : Int32) : eqC (upd f 5 x) (upd g 5 y) := by
  intro i h5 h6
  simp [upd, h5, h i h5 h6]
theorem eqC_has {f g : Nat → Int32} (h : eqC f g) : eqC (hasF f) (hasF g) := by
  unfold hasF
  rw [h 2 (by decide) (by decide), h 4 (by decide) (by decide)]
  split
  · exact eqC_up5 (eqC_upd (eqC_upd h 4 rfl) 2 rfl) _ _
  · exact eqC_upd h 4 rfl
theorem eqC_lose {f g : Nat → Int32} (h : eqC f g) : eqC (loseF f) (loseF g) := by
  unfold loseF
  rw [h 2 (by decide) (by decide)]
  split
  · exact eqC_up5 (eqC_upd h 2 rfl) _ _
  · exact h
theorem eqC_heed {f g : Nat → Int32} (lean : Int32) (h : eqC f g) : eqC (heedF f lean) (heedF g lean) := by
  unfold heedF
  rw [h 3 (by decide) (by decide)]
  split
  · exact eqC_upd h 3 rfl
  · split
    · exact eqC_upd h 3 rfl
    · exact h
theorem eqC_yr {f g : Nat → Int32} (L E lean : Int32) (i : Nat) (h : eqC f g) : eqC (yrF L E lean i f) (yrF L E lean i g) := by
  unfold yrF
  split
  · split
    · exact eqC_heed lean h
    · exact eqC_heed lean (eqC_lose h)
  · exact eqC_has h
theorem eqC_of {m m' : Mem} (h : pr m' = pr m) (a : Nat) : eqC (m' a) (m a) := by
  intro j h5 h6
  refine pr_at h ?_
  simp [isCa, h5, h6]
theorem pr_of {m m' : Mem} (h : ∀ a, (kd a = 0 → eqC (m' a) (m a)) ∧ (kd a ≠ 0 → m' a = m a)) : pr m' = pr m := by
  funext a j
  by_cases hc : isCa a j = true
  · simp [pr, hc]
  · simp only [pr, hc]
    by_cases ha : kd a = 0
    · refine (h a).1 ha j ?_ ?_
      · intro e; subst e; simp [isCa, ha] at hc
      · intro e; subst e; simp [isCa, ha] at hc
    · rw [(h a).2 ha]
theorem upR_congr {m m' : Mem} {k : Nat} {f f' : Nat → Int32} (h : pr m' = pr m) (hf : f' = f) : pr (upR m' k f') = pr (upR m k f) := by
  subst hf
  refine pr_of (fun a => ?_)
  by_cases ha : a = k
  · subst ha
    rw [upR_same, upR_same]
    exact ⟨fun _ _ _ _ => rfl, fun _ => rfl⟩
  · rw [upR_ne _ _ ha, upR_ne _ _ ha]
    refine ⟨fun _ => eqC_of h a, fun hk => ?_⟩
    rw [← pr_k (m := m') hk, ← pr_k (m := m) hk, h]
theorem yrT_congr {m m' : Mem} {k : Nat} (hk : kd k = 1) (L E lean : Int32) {i : Nat} (hi : i ≤ 8) (h : pr m' = pr m) : pr (yrT m' k L E lean i) = pr (yrT m k L E lean i) := by
  refine pr_of (fun a => ?_)
  simp only [yrT]
  by_cases ha : k + 3 ≤ a ∧ a < k + 3 + i
  · rw [if_pos ha, if_pos ha]
    refine ⟨fun _ => eqC_yr L E lean _ (eqC_of h a), fun hk2 => ?_⟩
    exact absurd (by have := (kPa hk).2.2.1 (a - (k + 3)) (by omega); rwa [show k + 3 + (a - (k + 3)) = a by omega] at this) hk2
  · rw [if_neg ha, if_neg ha]
    refine ⟨fun _ => eqC_of h a, fun hk => ?_⟩
    rw [← pr_k (m := m') hk, ← pr_k (m := m) hk, h]
theorem yrT_Ca {m : Mem} (k : Nat) (L E lean : Int32) (i : Nat) (h : CaOK m) : CaOK (yrT m k L E lean i) := by
  intro a ha
  show CaF (yrT m k L E lean i a)
  simp only [yrT]
  split
  · exact CaF_yr L E lean _ (h a ha)
  · exact h a ha
theorem upR_Ca {m : Mem} {k : Nat} {f : Nat → Int32} (hk : kd k ≠ 0) (h : CaOK m) : CaOK (upR m k f) := by
  intro a ha
  rw [upR_ne _ _ (fun e => hk (by rw [← e]; exact ha))]
  exact h a ha
theorem year_congr {m m' : Mem} {k n : Nat} (hk : kd k = 1) (hn : n ≤ 8) (h : Same m m') : pr (yearMem m' k n) = pr (yearMem m k n) := by
  unfold yearMem
  rw [h.DP hk, h.lean hk, h.row (show kd k ≠ 0 by rw [hk]; decide)]
  exact upR_congr (yrT_congr hk _ _ _ hn h.1) rfl
theorem year_fin {mem m4 : Mem} {k n : Nat} (h : PO mem k n) (s : Same mem m4) : pr (up2 (yrT m4 k (lbS (DP mem k) 1000000 n).1 (erS (DP mem k) n).1 (leanM mem k n) n) k 4 (minI 99999 (yrT m4 k (lbS (DP mem k) 1000000 n).1 (erS (DP mem k) n).1 (leanM mem k n) n k 4 + 1))) = pr (yearMem mem k n) ∧ CaOK (up2 (yrT m4 k (lbS (DP mem k) 1000000 n).1 (erS (DP mem k) n).1 (leanM mem k n) n) k 4 (minI 99999 (yrT m4 k (lbS (DP mem k) 1000000 n).1 (erS (DP mem k) n).1 (leanM mem k n) n k 4 + 1))) := by
  have hk0 : kd k ≠ 0 := by rw [h.1]; decide
  refine ⟨?_, ?_⟩
  · rw [← year_congr h.1 h.2.2.1 s]
    unfold yearMem
    rw [s.DP h.1, s.lean h.1, up2_eq, yrT_k _ _ _ _ _ (show k < k + 3 by omega)]
  · rw [up2_eq]
    exact upR_Ca hk0 (yrT_Ca _ _ _ _ _ s.2)
def PN (m : Mem) (k n : Nat) : Prop := kd k = 1 ∧ m k 3 = nI n ∧ n ≤ 8
theorem PO.N {m : Mem} {k n : Nat} (h : PO m k n) : PN m k n := ⟨h.1, h.2.1, h.2.2.1⟩
set_option maxHeartbeats 4000000 in
theorem c_leanBy {k n : Nat} {mem : Mem} (h : PN mem k n) (set : Int32) : CnE mX1_leanBy [.ref k, .int set] mem (some (.int (leanC (sumC (FP mem k) set n) (mem (k + 1) 1) (mem (k + 1) 2)))) mem := by
  have h8 := h.2.2
  refine Cn.of (ls := [some (.ref k), some (.int set), none, none, none]) (by decide) rfl (Nat.le_of_ble_eq_true rfl) ?_
  refine w_iconst (v := 0) (n' := 1) dX1_leanBy_0 rfl rfl ?_
  refine w_istore_n (i := 2) (n' := 2) (ls' := [_, _, _, _, _]) dX1_leanBy_1 rfl rfl (Nat.le_of_ble_eq_true rfl) rfl rfl ?_
  refine w_iconst (v := 0) (n' := 3) dX1_leanBy_2 rfl rfl ?_
  refine w_istore_n (i := 3) (n' := 4) (ls' := [_, _, _, _, _]) dX1_leanBy_3 rfl rfl (Nat.le_of_ble_eq_true rfl) rfl rfl ?_
  have L : ∀ (i : Nat) (s : Int32 × Option Value), i ≤ n → (s.1 = sumC (FP mem k) set i) → Wm mX1_leanBy (zM mX1_leanBy (fun r' m' => r' = (some (.int (leanC (sumC (FP mem k) set n) (mem (k + 1) 1) (mem (k + 1) 2)))) ∧ m' = mem)) 4 [some (.ref k), some (.int set), some (.int s.1), some (.int (nI i)), s.2] [] mem := by
    refine for_ind n ?_
    rintro i ⟨lean, lx⟩ hi h1 ih
    dsimp only at h1 ih ⊢
    have hp := h
    refine w_iload_n (i := 3) (n' := 5) dX1_leanBy_4 rfl rfl rfl ?_
    refine w_aload_n (i := 0) (n' := 6) dX1_leanBy_5 rfl rfl rfl ?_
    refine w_get (ci := 1) (j := 3) (n' := 9) dX1_leanBy_6 rfl fRX1_35 (Nat.le_of_ble_eq_true rfl) (Nat.le_of_ble_eq_true rfl) h.1 rfl ?_
    refine w_icmp_ge (n' := 12) (tgt := 58) dX1_leanBy_9 rfl rfl (fun h9 => ?_) (fun h9 => ?_)
    · have hin : i = n := by
        rcases Nat.lt_or_ge i n with q | q
        · exact absurd h9 (by rw [hp.2.1]; exact nI_ge q (by omega))
        · omega
      subst hin
      refine w_iconst (v := 0) (n' := 59) dX1_leanBy_58 rfl rfl ?_
      refine w_iload_n (i := 2) (n' := 60) dX1_leanBy_59 rfl rfl rfl ?_
      refine w_abs (n' := 63) dX1_leanBy_60 rfl lRX1_81 ⟨Nat.le_of_ble_eq_true rfl, Nat.le_of_ble_eq_true rfl, Nat.le_of_ble_eq_true rfl, Nat.le_of_ble_eq_true rfl⟩ ?_
      refine w_aload_n (i := 0) (n' := 64) dX1_leanBy_63 rfl rfl rfl ?_
      refine w_get (ci := 1) (j := 0) (n' := 67) dX1_leanBy_64 rfl fRX1_9 (Nat.le_of_ble_eq_true rfl) (Nat.le_of_ble_eq_true rfl) h.1 rfl ?_
      refine w_iconst (v := 1) (n' := 68) dX1_leanBy_67 rfl rfl ?_
      refine w_iald (n := 1) (n' := 69) dX1_leanBy_68 rfl (kPa h.1).1.1 (by decide) (by rw [(kPa h.1).1.2]; decide) ?_
      refine w_bipush (v := 10) (n' := 71) dX1_leanBy_69 rfl (by decide) ?_
      refine w_idiv (n' := 72) dX1_leanBy_71 rfl (by decide) ?_
      refine w_isub (n' := 73) dX1_leanBy_72 rfl ?_
      refine w_max (n' := 76) dX1_leanBy_73 rfl lRX1_57 ⟨Nat.le_of_ble_eq_true rfl, Nat.le_of_ble_eq_true rfl, Nat.le_of_ble_eq_true rfl, Nat.le_of_ble_eq_true rfl⟩ ?_
      refine w_istore_n (i := 3) (n' := 77) (ls' := [_, _, _, _, _]) dX1_leanBy_76 rfl rfl (Nat.le_of_ble_eq_true rfl) rfl rfl ?_
      refine w_iload_n (i := 2) (n' := 78) dX1_leanBy_77 rfl rfl rfl ?_
      refine w_if_ge (n' := 81) (tgt := 86) dX1_leanBy_78 rfl rfl (fun h78 => ?_) (fun h78 => ?_)
      · refine w_iload_n (i := 3) (n' := 87) dX1_leanBy_86 rfl rfl rfl ?_
        refine w_istore (n' := 89) (ls' := [_, _, _, _, _]) dX1_leanBy_87 rfl (Nat.le_of_ble_eq_true rfl) rfl rfl ?_
        refine w_aload_n (i := 0) (n' := 90) dX1_leanBy_89 rfl rfl rfl ?_
        refine w_get (ci := 1) (j := 0) (n' := 93) dX1_leanBy_90 rfl fRX1_9 (Nat.le_of_ble_eq_true rfl) (Nat.le_of_ble_eq_true rfl) h.1 rfl ?_
        refine w_iconst (v := 2) (n' := 94) dX1_leanBy_93 rfl rfl ?_
        refine w_iald (n := 2) (n' := 95) dX1_leanBy_94 rfl (kPa h.1).1.1 (by decide) (by rw [(kPa h.1).1.2]; decide) ?_
        refine w_bipush (v := 60) (n' := 97) dX1_leanBy_95 rfl (by decide) ?_
        refine w_icmp_lt (n' := 100) (tgt := 106) dX1_leanBy_97 rfl rfl (fun h97 => ?_) (fun h97 => ?_)
        · refine w_iload (n' := 108) dX1_leanBy_106 rfl rfl ?_
          exact w_iret dX1_leanBy_108 rfl ⟨by rw [leanC, ← h1]; simp only [h78, h97, if_true, if_false], rfl⟩
        · refine w_iload (n' := 102) dX1_leanBy_100 rfl rfl ?_
          refine w_ineg (n' := 103) dX1_leanBy_102 rfl ?_
          refine w_goto (tgt := 108) dX1_leanBy_103 rfl ?_
          exact w_iret dX1_leanBy_108 rfl ⟨by rw [leanC, ← h1]; simp only [h78, h97, if_true, if_false], rfl⟩
      · refine w_iload_n (i := 3) (n' := 82) dX1_leanBy_81 rfl rfl rfl ?_
        refine w_ineg (n' := 83) dX1_leanBy_82 rfl ?_
        refine w_goto (tgt := 87) dX1_leanBy_83 rfl ?_
        refine w_istore (n' := 89) (ls' := [_, _, _, _, _]) dX1_leanBy_87 rfl (Nat.le_of_ble_eq_true rfl) rfl rfl ?_
        refine w_aload_n (i := 0) (n' := 90) dX1_leanBy_89 rfl rfl rfl ?_
        refine w_get (ci := 1) (j := 0) (n' := 93) dX1_leanBy_90 rfl fRX1_9 (Nat.le_of_ble_eq_true rfl) (Nat.le_of_ble_eq_true rfl) h.1 rfl ?_
        refine w_iconst (v := 2) (n' := 94) dX1_leanBy_93 rfl rfl ?_
        refine w_iald (n := 2) (n' := 95) dX1_leanBy_94 rfl (kPa h.1).1.1 (by decide) (by rw [(kPa h.1).1.2]; decide) ?_
        refine w_bipush (v := 60) (n' := 97) dX1_leanBy_95 rfl (by decide) ?_
        refine w_icmp_lt (n' := 100) (tgt := 106) dX1_leanBy_97 rfl rfl (fun h97 => ?_) (fun h97 => ?_)
        · refine w_iload (n' := 108) dX1_leanBy_106 rfl rfl ?_
          exact w_iret dX1_leanBy_108 rfl ⟨by rw [leanC, ← h1]; simp only [h78, h97, if_true, if_false], rfl⟩
        · refine w_iload (n' := 102) dX1_leanBy_100 rfl rfl ?_
          refine w_ineg (n' := 103) dX1_leanBy_102 rfl ?_
          refine w_goto (tgt := 108) dX1_leanBy_103 rfl ?_
          exact w_iret dX1_leanBy_108 rfl ⟨by rw [leanC, ← h1]; simp only [h78, h97, if_true, if_false], rfl⟩
    · have hlt : i < n := by
        rcases Nat.lt_or_ge i n with q | q
        · exact q
        · exact absurd (by rw [hp.2.1]; exact nI_le q (by omega)) h9
      refine w_iload_n (i := 1) (n' := 13) dX1_leanBy_12 rfl rfl rfl ?_
      refine w_iload_n (i := 3) (n' := 14) dX1_leanBy_13 rfl rfl rfl ?_
      refine s_E (n' := 17) dX1_leanBy_14 rfl lRX1_67 okX5_isIn stX5_isIn ⟨⟨Nat.le_of_ble_eq_true rfl, Nat.le_of_ble_eq_true rfl⟩, Nat.le_of_ble_eq_true rfl, Nat.le_of_ble_eq_true rfl⟩ (c_isIn _ _ _) rfl rfl (Nat.le_of_ble_eq_true rfl) ?_
      refine w_if_eq (n' := 20) (tgt := 24) dX1_leanBy_17 rfl rfl (fun h17 => ?_) (fun h17 => ?_)
      · refine w_iconst (v := 1) (n' := 25) dX1_leanBy_24 rfl rfl ?_
        refine w_istore (n' := 27) (ls' := [_, _, _, _, _]) dX1_leanBy_25 rfl (Nat.le_of_ble_eq_true rfl) rfl rfl ?_
        refine w_iload_n (i := 2) (n' := 28) dX1_leanBy_27 rfl rfl rfl ?_
        refine w_iload (n' := 30) dX1_leanBy_28 rfl rfl ?_
        refine w_aload_n (i := 0) (n' := 31) dX1_leanBy_30 rfl rfl rfl ?_
        refine w_get (ci := 1) (j := 1) (n' := 34) dX1_leanBy_31 rfl fRX1_17 (Nat.le_of_ble_eq_true rfl) (Nat.le_of_ble_eq_true rfl) h.1 rfl ?_
        refine w_iload_n (i := 3) (n' := 35) dX1_leanBy_34 rfl rfl rfl ?_
        refine w_aaldF (n := i) (n' := 36) dX1_leanBy_35 rfl (kPa h.1).2.1 rfl (show i < 8 by omega) ?_
        refine w_get (ci := 0) (j := 3) (n' := 39) dX1_leanBy_36 rfl fRX1_74 (Nat.le_of_ble_eq_true rfl) (Nat.le_of_ble_eq_true rfl) ((kPa h.1).2.2.1 i (by omega)) rfl ?_
        refine w_imul (n' := 40) dX1_leanBy_39 rfl ?_
        refine w_aload_n (i := 0) (n' := 41) dX1_leanBy_40 rfl rfl rfl ?_
        refine w_get (ci := 1) (j := 1) (n' := 44) dX1_leanBy_41 rfl fRX1_17 (Nat.le_of_ble_eq_true rfl) (Nat.le_of_ble_eq_true rfl) h.1 rfl ?_
        refine w_iload_n (i := 3) (n' := 45) dX1_leanBy_44 rfl rfl rfl ?_
        refine w_aaldF (n := i) (n' := 46) dX1_leanBy_45 rfl (kPa h.1).2.1 rfl (show i < 8 by omega) ?_
        refine v_E (ci := 0) (n' := 49) dX1_leanBy_46 rfl lRX1_77 okX0_tells voX0_tells ⟨⟨Nat.le_of_ble_eq_true rfl, Nat.le_of_ble_eq_true rfl⟩, Nat.le_of_ble_eq_true rfl, Nat.le_of_ble_eq_true rfl⟩ (c_tells ((kPa h.1).2.2.1 i (by omega)) _) rfl rfl (Nat.le_of_ble_eq_true rfl) ((kPa h.1).2.2.1 i (by omega)) (Nat.le_of_ble_eq_true rfl) rfl ?_
        refine w_imul (n' := 50) dX1_leanBy_49 rfl ?_
        refine w_iadd (n' := 51) dX1_leanBy_50 rfl ?_
        refine w_istore_n (i := 2) (n' := 52) (ls' := [_, _, _, _, _]) dX1_leanBy_51 rfl rfl (Nat.le_of_ble_eq_true rfl) rfl rfl ?_
        refine w_iinc (n' := 55) (v := nI (i + 1)) (ls' := [_, _, _, _, _]) dX1_leanBy_52 rfl rfl (nI_1 i) (Nat.le_of_ble_eq_true rfl) rfl rfl ?_
        refine w_goto (tgt := 4) dX1_leanBy_55 rfl ?_
        exact ih hlt (_, _) (by show _ = sumC _ _ (i + 1); rw [sumC, if_pos h17, h1]; rfl)
      · refine w_iconst (v := 3) (n' := 21) dX1_leanBy_20 rfl rfl ?_
        refine w_goto (tgt := 25) dX1_leanBy_21 rfl ?_
        refine w_istore (n' := 27) (ls' := [_, _, _, _, _]) dX1_leanBy_25 rfl (Nat.le_of_ble_eq_true rfl) rfl rfl ?_
        refine w_iload_n (i := 2) (n' := 28) dX1_leanBy_27 rfl rfl rfl ?_
        refine w_iload (n' := 30) dX1_leanBy_28 rfl rfl ?_
        refine w_aload_n (i := 0) (n' := 31) dX1_leanBy_30 rfl rfl rfl ?_
        refine w_get (ci := 1) (j := 1) (n' := 34) dX1_leanBy_31 rfl fRX1_17 (Nat.le_of_ble_eq_true rfl) (Nat.le_of_ble_eq_true rfl) h.1 rfl ?_
        refine w_iload_n (i := 3) (n' := 35) dX1_leanBy_34 rfl rfl rfl ?_
        refine w_aaldF (n := i) (n' := 36) dX1_leanBy_35 rfl (kPa h.1).2.1 rfl (show i < 8 by omega) ?_
        refine w_get (ci := 0) (j := 3) (n' := 39) dX1_leanBy_36 rfl fRX1_74 (Nat.le_of_ble_eq_true rfl) (Nat.le_of_ble_eq_true rfl) ((kPa h.1).2.2.1 i (by omega)) rfl ?_
        refine w_imul (n' := 40) dX1_leanBy_39 rfl ?_
        refine w_aload_n (i := 0) (n' := 41) dX1_leanBy_40 rfl rfl rfl ?_
        refine w_get (ci := 1) (j := 1) (n' := 44) dX1_leanBy_41 rfl fRX1_17 (Nat.le_of_ble_eq_true rfl) (Nat.le_of_ble_eq_true rfl) h.1 rfl ?_
        refine w_iload_n (i := 3) (n' := 45) dX1_leanBy_44 rfl rfl rfl ?_
        refine w_aaldF (n := i) (n' := 46) dX1_leanBy_45 rfl (kPa h.1).2.1 rfl (show i < 8 by omega) ?_
        refine v_E (ci := 0) (n' := 49) dX1_leanBy_46 rfl lRX1_77 okX0_tells voX0_tells ⟨⟨Nat.le_of_ble_eq_true rfl, Nat.le_of_ble_eq_true rfl⟩, Nat.le_of_ble_eq_true rfl, Nat.le_of_ble_eq_true rfl⟩ (c_tells ((kPa h.1).2.2.1 i (by omega)) _) rfl rfl (Nat.le_of_ble_eq_true rfl) ((kPa h.1).2.2.1 i (by omega)) (Nat.le_of_ble_eq_true rfl) rfl ?_
        refine w_imul (n' := 50) dX1_leanBy_49 rfl ?_
        refine w_iadd (n' := 51) dX1_leanBy_50 rfl ?_
        refine w_istore_n (i := 2) (n' := 52) (ls' := [_, _, _, _, _]) dX1_leanBy_51 rfl rfl (Nat.le_of_ble_eq_true rfl) rfl rfl ?_
        refine w_iinc (n' := 55) (v := nI (i + 1)) (ls' := [_, _, _, _, _]) dX1_leanBy_52 rfl rfl (nI_1 i) (Nat.le_of_ble_eq_true rfl) rfl rfl ?_
        refine w_goto (tgt := 4) dX1_leanBy_55 rfl ?_
        exact ih hlt (_, _) (by show _ = sumC _ _ (i + 1); rw [sumC, if_neg h17, h1]; rfl)
  exact L 0 (0, _) (Nat.zero_le _) rfl
set_option maxHeartbeats 4000000 in
theorem c_leanNow {k n : Nat} {mem : Mem} (h : PO mem k n) : CnI mX1_leanNow [.ref k] mem (fun x m' => x = leanM mem k n ∧ Same mem m') := by
  refine Cn.of (ls := [some (.ref k)]) (by decide) rfl (Nat.le_of_ble_eq_true rfl) ?_
  refine w_aload_n (i := 0) (n' := 1) dX1_leanNow_0 rfl rfl rfl ?_
  refine w_aload_n (i := 0) (n' := 2) dX1_leanNow_1 rfl rfl rfl ?_
  refine w_ldc (v := 1000000) (n' := 4) dX1_leanNow_2 rfl kRX1_63 ?_
  refine v_I (ci := 1) (n' := 7) dX1_leanNow_4 rfl lRX1_64 okX1_latestBelow voX1_latestBelow ⟨⟨Nat.le_of_ble_eq_true rfl, Nat.le_of_ble_eq_true rfl⟩, Nat.le_of_ble_eq_true rfl, Nat.le_of_ble_eq_true rfl⟩ (c_latestBelow h _) rfl rfl (Nat.le_of_ble_eq_true rfl) h.1 (Nat.le_of_ble_eq_true rfl) rfl (fun x4 m4 q4 => ?_)
  refine v_E (ci := 1) (n' := 10) dX1_leanNow_7 rfl lRX1_71 okX1_leanBy voX1_leanBy ⟨⟨Nat.le_of_ble_eq_true rfl, Nat.le_of_ble_eq_true rfl⟩, Nat.le_of_ble_eq_true rfl, Nat.le_of_ble_eq_true rfl⟩ (c_leanBy (q4.2.PO h).N _) rfl rfl (Nat.le_of_ble_eq_true rfl) h.1 (Nat.le_of_ble_eq_true rfl) rfl ?_
  exact w_iret dX1_leanNow_10 rfl ⟨_, rfl, by rw [q4.1, q4.2.sumC, q4.2.row (show kd (k + 1) ≠ 0 by rw [(kPa h.1).1.1]; decide)]; rfl, q4.2⟩
set_option maxHeartbeats 4000000 in
theorem c_answerTo {k n : Nat} {mem : Mem} (h : PO mem k n) (q : Int32) : CnI mX1_answerTo [.ref k, .int q] mem (fun x m' => x = (if leanM mem k n < q then 0 else 1) ∧ Same mem m') := by
  refine Cn.of (ls := [some (.ref k), some (.int q)]) (by decide) rfl (Nat.le_of_ble_eq_true rfl) ?_
  refine w_aload_n (i := 0) (n' := 1) dX1_answerTo_0 rfl rfl rfl ?_
  refine w_aload_n (i := 0) (n' := 2) dX1_answerTo_1 rfl rfl rfl ?_
  refine w_ldc (v := 1000000) (n' := 4) dX1_answerTo_2 rfl kRX1_63 ?_
  refine v_I (ci := 1) (n' := 7) dX1_answerTo_4 rfl lRX1_64 okX1_latestBelow voX1_latestBelow ⟨⟨Nat.le_of_ble_eq_true rfl, Nat.le_of_ble_eq_true rfl⟩, Nat.le_of_ble_eq_true rfl, Nat.le_of_ble_eq_true rfl⟩ (c_latestBelow h _) rfl rfl (Nat.le_of_ble_eq_true rfl) h.1 (Nat.le_of_ble_eq_true rfl) rfl (fun x4 m4 q4 => ?_)
  refine v_E (ci := 1) (n' := 10) dX1_answerTo_7 rfl lRX1_71 okX1_leanBy voX1_leanBy ⟨⟨Nat.le_of_ble_eq_true rfl, Nat.le_of_ble_eq_true rfl⟩, Nat.le_of_ble_eq_true rfl, Nat.le_of_ble_eq_true rfl⟩ (c_leanBy (q4.2.PO h).N _) rfl rfl (Nat.le_of_ble_eq_true rfl) h.1 (Nat.le_of_ble_eq_true rfl) rfl ?_
  rw [q4.1, q4.2.sumC, q4.2.row (show kd (k + 1) ≠ 0 by rw [(kPa h.1).1.1]; decide)]
  show Wm _ _ 10 _ [.int (leanM mem k n)] _
  refine w_iload_n (i := 1) (n' := 11) dX1_answerTo_10 rfl rfl rfl ?_
  refine w_icmp_lt (n' := 14) (tgt := 18) dX1_answerTo_11 rfl rfl (fun h11 => ?_) (fun h11 => ?_)
  · refine w_iconst (v := 0) (n' := 19) dX1_answerTo_18 rfl rfl ?_
    exact w_iret dX1_answerTo_19 rfl ⟨_, rfl, by rw [if_pos h11], q4.2⟩
  · refine w_iconst (v := 1) (n' := 15) dX1_answerTo_14 rfl rfl ?_
    refine w_goto (tgt := 19) dX1_answerTo_15 rfl ?_
    exact w_iret dX1_answerTo_19 rfl ⟨_, rfl, by rw [if_neg h11], q4.2⟩
set_option maxHeartbeats 4000000 in
theorem c_passYear {k n : Nat} {mem : Mem} (h : PO mem k n) : CnV mX1_passYear [.ref k] mem (fun m' => pr m' = pr (yearMem mem k n) ∧ CaOK m') := by
  have h8 := h.2.2.1
  refine Cn.of (ls := [some (.ref k), none, none, none, none, none]) (by decide) rfl (Nat.le_of_ble_eq_true rfl) ?_
  refine w_aload_n (i := 0) (n' := 1) dX1_passYear_0 rfl rfl rfl ?_
  refine w_ldc (v := 1000000) (n' := 3) dX1_passYear_1 rfl kRX1_63 ?_
  refine v_I (ci := 1) (n' := 6) dX1_passYear_3 rfl lRX1_64 okX1_latestBelow voX1_latestBelow ⟨⟨Nat.le_of_ble_eq_true rfl, Nat.le_of_ble_eq_true rfl⟩, Nat.le_of_ble_eq_true rfl, Nat.le_of_ble_eq_true rfl⟩ (c_latestBelow h _) rfl rfl (Nat.le_of_ble_eq_true rfl) h.1 (Nat.le_of_ble_eq_true rfl) rfl (fun x3 m3 q3 => ?_)
  refine w_istore_n (i := 1) (n' := 7) (ls' := [_, _, _, _, _, _]) dX1_passYear_6 rfl rfl (Nat.le_of_ble_eq_true rfl) rfl rfl ?_
  refine w_aload_n (i := 0) (n' := 8) dX1_passYear_7 rfl rfl rfl ?_
  refine v_I (ci := 1) (n' := 11) dX1_passYear_8 rfl lRX1_84 okX1_earliest voX1_earliest ⟨⟨Nat.le_of_ble_eq_true rfl, Nat.le_of_ble_eq_true rfl⟩, Nat.le_of_ble_eq_true rfl, Nat.le_of_ble_eq_true rfl⟩ (c_earliest (q3.2.PO h)) rfl rfl (Nat.le_of_ble_eq_true rfl) h.1 (Nat.le_of_ble_eq_true rfl) rfl (fun x8 m8 q8 => ?_)
  refine w_istore_n (i := 2) (n' := 12) (ls' := [_, _, _, _, _, _]) dX1_passYear_11 rfl rfl (Nat.le_of_ble_eq_true rfl) rfl rfl ?_
  refine w_aload_n (i := 0) (n' := 13) dX1_passYear_12 rfl rfl rfl ?_
  refine w_iload_n (i := 1) (n' := 14) dX1_passYear_13 rfl rfl rfl ?_
  refine v_E (ci := 1) (n' := 17) dX1_passYear_14 rfl lRX1_71 okX1_leanBy voX1_leanBy ⟨⟨Nat.le_of_ble_eq_true rfl, Nat.le_of_ble_eq_true rfl⟩, Nat.le_of_ble_eq_true rfl, Nat.le_of_ble_eq_true rfl⟩ (c_leanBy ((q3.2.tr q8.2).PO h).N _) rfl rfl (Nat.le_of_ble_eq_true rfl) h.1 (Nat.le_of_ble_eq_true rfl) rfl ?_
  have s14 : Same mem m8 := q3.2.tr q8.2
  rw [q3.1, q8.1, q3.2.DP h.1, s14.sumC, s14.row (show kd (k + 1) ≠ 0 by rw [(kPa h.1).1.1]; decide)]
  show Wm _ _ 17 _ [.int (leanM mem k n)] _
  obtain ⟨L1, hL1⟩ : ∃ z, z = (lbS (DP mem k) 1000000 n).1 := ⟨_, rfl⟩
  obtain ⟨E1, hE1⟩ : ∃ z, z = (erS (DP mem k) n).1 := ⟨_, rfl⟩
  obtain ⟨N1, hN1⟩ : ∃ z, z = leanM mem k n := ⟨_, rfl⟩
  obtain ⟨m14, hm14⟩ : ∃ z, z = m8 := ⟨_, rfl⟩
  rw [← hL1, ← hE1, ← hN1, ← hm14]
  rw [← hm14] at s14
  have hs14 := s14.PO h
  refine w_istore_n (i := 3) (n' := 18) (ls' := [_, _, _, _, _, _]) dX1_passYear_17 rfl rfl (Nat.le_of_ble_eq_true rfl) rfl rfl ?_
  refine w_iconst (v := 0) (n' := 19) dX1_passYear_18 rfl rfl ?_
  refine w_istore (n' := 21) (ls' := [_, _, _, _, _, _]) dX1_passYear_19 rfl (Nat.le_of_ble_eq_true rfl) rfl rfl ?_
  have L : ∀ (i : Nat) (s : Option Value × Mem), i ≤ n → (s.2 = yrT m14 k L1 E1 N1 i) → Wm mX1_passYear (zM mX1_passYear (fun r m' => r = none ∧ (fun m' => pr m' = pr (yearMem mem k n) ∧ CaOK m') m')) 21 [some (.ref k), some (.int L1), some (.int E1), some (.int N1), some (.int (nI i)), s.1] [] s.2 := by
    refine for_ind n ?_
    rintro i ⟨lx, m1⟩ hi h1 ih
    dsimp only at h1 ih ⊢
    subst h1
    have hp : (yrT m14 k L1 E1 N1 i) k 3 = nI n := by rw [yrT_k _ _ _ _ _ (by omega)]; exact hs14.2.1
    have hf := (kPa h.1).2.2.1 i
    refine w_iload (n' := 23) dX1_passYear_21 rfl rfl ?_
    refine w_aload_n (i := 0) (n' := 24) dX1_passYear_23 rfl rfl rfl ?_
    refine w_get (ci := 1) (j := 3) (n' := 27) dX1_passYear_24 rfl fRX1_35 (Nat.le_of_ble_eq_true rfl) (Nat.le_of_ble_eq_true rfl) h.1 rfl ?_
    refine w_icmp_ge (n' := 30) (tgt := 82) dX1_passYear_27 rfl rfl (fun h27 => ?_) (fun h27 => ?_)
    · have hin : i = n := by
        rcases Nat.lt_or_ge i n with q | q
        · exact absurd h27 (by rw [hp]; exact nI_ge q (by omega))
        · omega
      subst hin
      refine w_aload_n (i := 0) (n' := 83) dX1_passYear_82 rfl rfl rfl ?_
      refine w_ldc (v := 99999) (n' := 85) dX1_passYear_83 rfl kRX1_97 ?_
      refine w_aload_n (i := 0) (n' := 86) dX1_passYear_85 rfl rfl rfl ?_
      refine w_get (ci := 1) (j := 4) (n' := 89) dX1_passYear_86 rfl fRX1_42 (Nat.le_of_ble_eq_true rfl) (Nat.le_of_ble_eq_true rfl) h.1 rfl ?_
      refine w_iconst (v := 1) (n' := 90) dX1_passYear_89 rfl rfl ?_
      refine w_iadd (n' := 91) dX1_passYear_90 rfl ?_
      refine w_min (n' := 94) dX1_passYear_91 rfl lRX1_98 ⟨Nat.le_of_ble_eq_true rfl, Nat.le_of_ble_eq_true rfl, Nat.le_of_ble_eq_true rfl, Nat.le_of_ble_eq_true rfl⟩ ?_
      refine w_put (ci := 1) (j := 4) (n' := 97) dX1_passYear_94 rfl fRX1_42 (Nat.le_of_ble_eq_true rfl) (Nat.le_of_ble_eq_true rfl) rfl rfl h.1 rfl ?_
      exact w_vret dX1_passYear_97 rfl ⟨rfl, by subst hL1 hE1 hN1; exact year_fin h s14⟩
    · have hlt : i < n := by
        rcases Nat.lt_or_ge i n with q | q
        · exact q
        · exact absurd (by rw [hp]; exact nI_le q (by omega)) h27
      have hfi : kd (k + 3 + i) = 0 := hf (by omega)
      refine w_aload_n (i := 0) (n' := 31) dX1_passYear_30 rfl rfl rfl ?_
      refine w_get (ci := 1) (j := 1) (n' := 34) dX1_passYear_31 rfl fRX1_17 (Nat.le_of_ble_eq_true rfl) (Nat.le_of_ble_eq_true rfl) h.1 rfl ?_
      refine w_iload (n' := 36) dX1_passYear_34 rfl rfl ?_
      refine w_aaldF (n := i) (n' := 37) dX1_passYear_36 rfl (kPa h.1).2.1 rfl (show i < 8 by omega) ?_
      refine w_astore (n' := 39) (ls' := [_, _, _, _, _, _]) dX1_passYear_37 rfl (Nat.le_of_ble_eq_true rfl) rfl rfl ?_
      refine w_iload_n (i := 1) (n' := 40) dX1_passYear_39 rfl rfl rfl ?_
      refine w_iload (n' := 42) dX1_passYear_40 rfl rfl ?_
      refine s_E (n' := 45) dX1_passYear_42 rfl lRX1_67 okX5_isIn stX5_isIn ⟨⟨Nat.le_of_ble_eq_true rfl, Nat.le_of_ble_eq_true rfl⟩, Nat.le_of_ble_eq_true rfl, Nat.le_of_ble_eq_true rfl⟩ (c_isIn _ _ _) rfl rfl (Nat.le_of_ble_eq_true rfl) ?_
      refine w_if_eq (n' := 48) (tgt := 56) dX1_passYear_45 rfl rfl (fun h45 => ?_) (fun h45 => ?_)
      · refine w_iload_n (i := 2) (n' := 57) dX1_passYear_56 rfl rfl rfl ?_
        refine w_iload (n' := 59) dX1_passYear_57 rfl rfl ?_
        refine s_E (n' := 62) dX1_passYear_59 rfl lRX1_67 okX5_isIn stX5_isIn ⟨⟨Nat.le_of_ble_eq_true rfl, Nat.le_of_ble_eq_true rfl⟩, Nat.le_of_ble_eq_true rfl, Nat.le_of_ble_eq_true rfl⟩ (c_isIn _ _ _) rfl rfl (Nat.le_of_ble_eq_true rfl) ?_
        refine w_if_eq (n' := 65) (tgt := 70) dX1_passYear_62 rfl rfl (fun h62 => ?_) (fun h62 => ?_)
        · refine w_aload (n' := 72) dX1_passYear_70 rfl rfl ?_
          refine w_iload_n (i := 3) (n' := 73) dX1_passYear_72 rfl rfl rfl ?_
          refine v_E (ci := 0) (n' := 76) dX1_passYear_73 rfl lRX1_93 okX0_heeds voX0_heeds ⟨⟨Nat.le_of_ble_eq_true rfl, Nat.le_of_ble_eq_true rfl⟩, Nat.le_of_ble_eq_true rfl, Nat.le_of_ble_eq_true rfl⟩ (c_heeds hfi _ _) rfl rfl (Nat.le_of_ble_eq_true rfl) hfi (Nat.le_of_ble_eq_true rfl) rfl ?_
          refine w_iinc (n' := 79) (v := nI (i + 1)) (ls' := [_, _, _, _, _, _]) dX1_passYear_76 rfl rfl (nI_1 i) (Nat.le_of_ble_eq_true rfl) rfl rfl ?_
          refine w_goto (tgt := 21) dX1_passYear_79 rfl ?_
          exact ih hlt (_, _) (by show upR _ _ _ = _; rw [yrT_at, ← yrT_succ, yrF, if_pos h45, if_pos h62])
        · refine w_aload (n' := 67) dX1_passYear_65 rfl rfl ?_
          refine v_E (ci := 0) (n' := 70) dX1_passYear_67 rfl lRX1_90 okX0_losesHand voX0_losesHand ⟨⟨Nat.le_of_ble_eq_true rfl, Nat.le_of_ble_eq_true rfl⟩, Nat.le_of_ble_eq_true rfl, Nat.le_of_ble_eq_true rfl⟩ (c_losesHand hfi _) rfl rfl (Nat.le_of_ble_eq_true rfl) hfi (Nat.le_of_ble_eq_true rfl) rfl ?_
          refine w_aload (n' := 72) dX1_passYear_70 rfl rfl ?_
          refine w_iload_n (i := 3) (n' := 73) dX1_passYear_72 rfl rfl rfl ?_
          refine v_E (ci := 0) (n' := 76) dX1_passYear_73 rfl lRX1_93 okX0_heeds voX0_heeds ⟨⟨Nat.le_of_ble_eq_true rfl, Nat.le_of_ble_eq_true rfl⟩, Nat.le_of_ble_eq_true rfl, Nat.le_of_ble_eq_true rfl⟩ (c_heeds hfi _ _) rfl rfl (Nat.le_of_ble_eq_true rfl) hfi (Nat.le_of_ble_eq_true rfl) rfl ?_
          refine w_iinc (n' := 79) (v := nI (i + 1)) (ls' := [_, _, _, _, _, _]) dX1_passYear_76 rfl rfl (nI_1 i) (Nat.le_of_ble_eq_true rfl) rfl rfl ?_
          refine w_goto (tgt := 21) dX1_passYear_79 rfl ?_
          exact ih hlt (_, _) (by show upR _ _ _ = _; rw [upR_same, upR_upR, yrT_at, ← yrT_succ, yrF, if_pos h45, if_neg h62])
      · refine w_aload (n' := 50) dX1_passYear_48 rfl rfl ?_
        refine v_E (ci := 0) (n' := 53) dX1_passYear_50 rfl lRX1_87 okX0_hasTheSheaf voX0_hasTheSheaf ⟨⟨Nat.le_of_ble_eq_true rfl, Nat.le_of_ble_eq_true rfl⟩, Nat.le_of_ble_eq_true rfl, Nat.le_of_ble_eq_true rfl⟩ (c_hasTheSheaf hfi _) rfl rfl (Nat.le_of_ble_eq_true rfl) hfi (Nat.le_of_ble_eq_true rfl) rfl ?_
        refine w_goto (tgt := 76) dX1_passYear_53 rfl ?_
        refine w_iinc (n' := 79) (v := nI (i + 1)) (ls' := [_, _, _, _, _, _]) dX1_passYear_76 rfl rfl (nI_1 i) (Nat.le_of_ble_eq_true rfl) rfl rfl ?_
        refine w_goto (tgt := 21) dX1_passYear_79 rfl ?_
        exact ih hlt (_, _) (by show upR _ _ _ = _; rw [yrT_at, ← yrT_succ, yrF, if_neg h45])
  exact L 0 (_, _) (Nat.zero_le _) (yrT_0 _ _ _ _ _).symm
set_option maxHeartbeats 4000000 in
theorem c_together {k n : Nat} {mem : Mem} (h : PN mem k n) (what : Int32) : CnE mX1_together [.ref k, .int what] mem (some (.int (sumT (fun i => toldF (mem (k + 3 + i)) what) n))) mem := by
  have h8 := h.2.2
  refine Cn.of (ls := [some (.ref k), some (.int what), none, none]) (by decide) rfl (Nat.le_of_ble_eq_true rfl) ?_
  refine w_iconst (v := 0) (n' := 1) dX1_together_0 rfl rfl ?_
  refine w_istore_n (i := 2) (n' := 2) (ls' := [_, _, _, _]) dX1_together_1 rfl rfl (Nat.le_of_ble_eq_true rfl) rfl rfl ?_
  refine w_iconst (v := 0) (n' := 3) dX1_together_2 rfl rfl ?_
  refine w_istore_n (i := 3) (n' := 4) (ls' := [_, _, _, _]) dX1_together_3 rfl rfl (Nat.le_of_ble_eq_true rfl) rfl rfl ?_
  have L : ∀ (i : Nat) (s : Int32), i ≤ n → (s = sumT (fun i => toldF (mem (k + 3 + i)) what) i) → Wm mX1_together (zM mX1_together (fun r' m' => r' = (some (.int (sumT (fun i => toldF (mem (k + 3 + i)) what) n))) ∧ m' = mem)) 4 [some (.ref k), some (.int what), some (.int s), some (.int (nI i))] [] mem := by
    refine for_ind n ?_
    intro i s hi h1 ih
    have hp := h
    refine w_iload_n (i := 3) (n' := 5) dX1_together_4 rfl rfl rfl ?_
    refine w_aload_n (i := 0) (n' := 6) dX1_together_5 rfl rfl rfl ?_
    refine w_get (ci := 1) (j := 3) (n' := 9) dX1_together_6 rfl fRX1_35 (Nat.le_of_ble_eq_true rfl) (Nat.le_of_ble_eq_true rfl) h.1 rfl ?_
    refine w_icmp_ge (n' := 12) (tgt := 31) dX1_together_9 rfl rfl (fun h9 => ?_) (fun h9 => ?_)
    · have hin : i = n := by
        rcases Nat.lt_or_ge i n with q | q
        · exact absurd h9 (by rw [hp.2.1]; exact nI_ge q (by omega))
        · omega
      subst hin
      refine w_iload_n (i := 2) (n' := 32) dX1_together_31 rfl rfl rfl ?_
      exact w_iret dX1_together_32 rfl ⟨by rw [h1], rfl⟩
    · have hlt : i < n := by
        rcases Nat.lt_or_ge i n with q | q
        · exact q
        · exact absurd (by rw [hp.2.1]; exact nI_le q (by omega)) h9
      refine w_iload_n (i := 2) (n' := 13) dX1_together_12 rfl rfl rfl ?_
      refine w_aload_n (i := 0) (n' := 14) dX1_together_13 rfl rfl rfl ?_
      refine w_get (ci := 1) (j := 1) (n' := 17) dX1_together_14 rfl fRX1_17 (Nat.le_of_ble_eq_true rfl) (Nat.le_of_ble_eq_true rfl) h.1 rfl ?_
      refine w_iload_n (i := 3) (n' := 18) dX1_together_17 rfl rfl rfl ?_
      refine w_aaldF (n := i) (n' := 19) dX1_together_18 rfl (kPa h.1).2.1 rfl (show i < 8 by omega) ?_
      refine w_iload_n (i := 1) (n' := 20) dX1_together_19 rfl rfl rfl ?_
      refine v_E (ci := 0) (n' := 23) dX1_together_20 rfl lRX1_101 okX0_told voX0_told ⟨⟨Nat.le_of_ble_eq_true rfl, Nat.le_of_ble_eq_true rfl⟩, Nat.le_of_ble_eq_true rfl, Nat.le_of_ble_eq_true rfl⟩ (c_told ((kPa h.1).2.2.1 i (by omega)) _ _) rfl rfl (Nat.le_of_ble_eq_true rfl) ((kPa h.1).2.2.1 i (by omega)) (Nat.le_of_ble_eq_true rfl) rfl ?_
      refine w_iadd (n' := 24) dX1_together_23 rfl ?_
      refine w_istore_n (i := 2) (n' := 25) (ls' := [_, _, _, _]) dX1_together_24 rfl rfl (Nat.le_of_ble_eq_true rfl) rfl rfl ?_
      refine w_iinc (n' := 28) (v := nI (i + 1)) (ls' := [_, _, _, _]) dX1_together_25 rfl rfl (nI_1 i) (Nat.le_of_ble_eq_true rfl) rfl rfl ?_
      refine w_goto (tgt := 4) dX1_together_28 rfl ?_
      exact ih hlt _ (by rw [h1]; rfl)
  exact L 0 0 (Nat.zero_le _) rfl
set_option maxHeartbeats 4000000 in
theorem c_whoHadIt {k n : Nat} {mem : Mem} (h : PN mem k n) : CnE mX1_whoHadIt [.ref k] mem (some (.int (bitT (fun i => decide (¬ mem (k + 3 + i) 4 ≤ 0)) n))) mem := by
  have h8 := h.2.2
  refine Cn.of (ls := [some (.ref k), none, none]) (by decide) rfl (Nat.le_of_ble_eq_true rfl) ?_
  refine w_iconst (v := 0) (n' := 1) dX1_whoHadIt_0 rfl rfl ?_
  refine w_istore_n (i := 1) (n' := 2) (ls' := [_, _, _]) dX1_whoHadIt_1 rfl rfl (Nat.le_of_ble_eq_true rfl) rfl rfl ?_
  refine w_iconst (v := 0) (n' := 3) dX1_whoHadIt_2 rfl rfl ?_
  refine w_istore_n (i := 2) (n' := 4) (ls' := [_, _, _]) dX1_whoHadIt_3 rfl rfl (Nat.le_of_ble_eq_true rfl) rfl rfl ?_
  have L : ∀ (i : Nat) (s : Int32), i ≤ n → (s = bitT (fun i => decide (¬ mem (k + 3 + i) 4 ≤ 0)) i) → Wm mX1_whoHadIt (zM mX1_whoHadIt (fun r' m' => r' = (some (.int (bitT (fun i => decide (¬ mem (k + 3 + i) 4 ≤ 0)) n))) ∧ m' = mem)) 4 [some (.ref k), some (.int s), some (.int (nI i))] [] mem := by
    refine for_ind n ?_
    intro i s hi h1 ih
    have hp := h
    refine w_iload_n (i := 2) (n' := 5) dX1_whoHadIt_4 rfl rfl rfl ?_
    refine w_aload_n (i := 0) (n' := 6) dX1_whoHadIt_5 rfl rfl rfl ?_
    refine w_get (ci := 1) (j := 3) (n' := 9) dX1_whoHadIt_6 rfl fRX1_35 (Nat.le_of_ble_eq_true rfl) (Nat.le_of_ble_eq_true rfl) h.1 rfl ?_
    refine w_icmp_ge (n' := 12) (tgt := 36) dX1_whoHadIt_9 rfl rfl (fun h9 => ?_) (fun h9 => ?_)
    · have hin : i = n := by
        rcases Nat.lt_or_ge i n with q | q
        · exact absurd h9 (by rw [hp.2.1]; exact nI_ge q (by omega))
        · omega
      subst hin
      refine w_iload_n (i := 1) (n' := 37) dX1_whoHadIt_36 rfl rfl rfl ?_
      exact w_iret dX1_whoHadIt_37 rfl ⟨by rw [h1], rfl⟩
    · have hlt : i < n := by
        rcases Nat.lt_or_ge i n with q | q
        · exact q
        · exact absurd (by rw [hp.2.1]; exact nI_le q (by omega)) h9
      refine w_aload_n (i := 0) (n' := 13) dX1_whoHadIt_12 rfl rfl rfl ?_
      refine w_get (ci := 1) (j := 1) (n' := 16) dX1_whoHadIt_13 rfl fRX1_17 (Nat.le_of_ble_eq_true rfl) (Nat.le_of_ble_eq_true rfl) h.1 rfl ?_
      refine w_iload_n (i := 2) (n' := 17) dX1_whoHadIt_16 rfl rfl rfl ?_
      refine w_aaldF (n := i) (n' := 18) dX1_whoHadIt_17 rfl (kPa h.1).2.1 rfl (show i < 8 by omega) ?_
      refine w_get (ci := 0) (j := 4) (n' := 21) dX1_whoHadIt_18 rfl fRX1_104 (Nat.le_of_ble_eq_true rfl) (Nat.le_of_ble_eq_true rfl) ((kPa h.1).2.2.1 i (by omega)) rfl ?_
      refine w_if_le (n' := 24) (tgt := 30) dX1_whoHadIt_21 rfl rfl (fun h21 => ?_) (fun h21 => ?_)
      · refine w_iinc (n' := 33) (v := nI (i + 1)) (ls' := [_, _, _]) dX1_whoHadIt_30 rfl rfl (nI_1 i) (Nat.le_of_ble_eq_true rfl) rfl rfl ?_
        refine w_goto (tgt := 4) dX1_whoHadIt_33 rfl ?_
        exact ih hlt _ (by rw [h1, bitT, if_neg (by rw [decide_eq_true_iff]; exact fun q => q h21)])
      · refine w_iload_n (i := 1) (n' := 25) dX1_whoHadIt_24 rfl rfl rfl ?_
        refine w_iconst (v := 1) (n' := 26) dX1_whoHadIt_25 rfl rfl ?_
        refine w_iload_n (i := 2) (n' := 27) dX1_whoHadIt_26 rfl rfl rfl ?_
        refine w_ishl (n' := 28) dX1_whoHadIt_27 rfl ?_
        refine w_ior (n' := 29) dX1_whoHadIt_28 rfl ?_
        refine w_istore_n (i := 1) (n' := 30) (ls' := [_, _, _]) dX1_whoHadIt_29 rfl rfl (Nat.le_of_ble_eq_true rfl) rfl rfl ?_
        refine w_iinc (n' := 33) (v := nI (i + 1)) (ls' := [_, _, _]) dX1_whoHadIt_30 rfl rfl (nI_1 i) (Nat.le_of_ble_eq_true rfl) rfl rfl ?_
        refine w_goto (tgt := 4) dX1_whoHadIt_33 rfl ?_
        exact ih hlt _ (by rw [h1, bitT, if_pos (decide_eq_true h21)])
  exact L 0 0 (Nat.zero_le _) rfl
set_option maxHeartbeats 4000000 in
theorem c_spotsHeld {k : Nat} {mem : Mem} (h : kd k = 1) : CnE mX1_spotsHeld [.ref k] mem (some (.int (cntT (fun i => decide (¬ mem (k + 11) i = -1)) 10))) mem := by
  refine Cn.of (ls := [some (.ref k), none, none, none, none, none]) (by decide) rfl (Nat.le_of_ble_eq_true rfl) ?_
  refine w_iconst (v := 0) (n' := 1) dX1_spotsHeld_0 rfl rfl ?_
  refine w_istore_n (i := 1) (n' := 2) (ls' := [_, _, _, _, _, _]) dX1_spotsHeld_1 rfl rfl (Nat.le_of_ble_eq_true rfl) rfl rfl ?_
  refine w_aload_n (i := 0) (n' := 3) dX1_spotsHeld_2 rfl rfl rfl ?_
  refine w_get (ci := 1) (j := 2) (n' := 6) dX1_spotsHeld_3 rfl fRX1_22 (Nat.le_of_ble_eq_true rfl) (Nat.le_of_ble_eq_true rfl) h rfl ?_
  refine w_astore_n (i := 2) (n' := 7) (ls' := [_, _, _, _, _, _]) dX1_spotsHeld_6 rfl rfl (Nat.le_of_ble_eq_true rfl) rfl rfl ?_
  refine w_aload_n (i := 2) (n' := 8) dX1_spotsHeld_7 rfl rfl rfl ?_
  refine w_alen (n := 10) (n' := 9) dX1_spotsHeld_8 rfl (kPa h).2.2.2.1 (kPa h).2.2.2.2 ?_
  refine w_istore_n (i := 3) (n' := 10) (ls' := [_, _, _, _, _, _]) dX1_spotsHeld_9 rfl rfl (Nat.le_of_ble_eq_true rfl) rfl rfl ?_
  refine w_iconst (v := 0) (n' := 11) dX1_spotsHeld_10 rfl rfl ?_
  refine w_istore (n' := 13) (ls' := [_, _, _, _, _, _]) dX1_spotsHeld_11 rfl (Nat.le_of_ble_eq_true rfl) rfl rfl ?_
  have L : ∀ (i : Nat) (s : Int32 × Option Value), i ≤ 10 → (s.1 = cntT (fun i => decide (¬ mem (k + 11) i = -1)) i) → Wm mX1_spotsHeld (zM mX1_spotsHeld (fun r' m' => r' = (some (.int (cntT (fun i => decide (¬ mem (k + 11) i = -1)) 10))) ∧ m' = mem)) 13 [some (.ref k), some (.int s.1), some (.ref (k + 11)), some (.int (nI 10)), some (.int (nI i)), s.2] [] mem := by
    refine for_ind 10 ?_
    rintro i ⟨s, lx⟩ hi h1 ih
    dsimp only at h1 ih ⊢
    refine w_iload (n' := 15) dX1_spotsHeld_13 rfl rfl ?_
    refine w_iload_n (i := 3) (n' := 16) dX1_spotsHeld_15 rfl rfl rfl ?_
    refine w_icmp_ge (n' := 19) (tgt := 40) dX1_spotsHeld_16 rfl rfl (fun h16 => ?_) (fun h16 => ?_)
    · have hin : i = 10 := by
        rcases Nat.lt_or_ge i 10 with q | q
        · exact absurd h16 (nI_ge q (by omega))
        · omega
      subst hin
      refine w_iload_n (i := 1) (n' := 41) dX1_spotsHeld_40 rfl rfl rfl ?_
      exact w_iret dX1_spotsHeld_41 rfl ⟨by rw [h1], rfl⟩
    · have hlt : i < 10 := by
        rcases Nat.lt_or_ge i 10 with q | q
        · exact q
        · exact absurd (nI_le q (by omega)) h16
      refine w_aload_n (i := 2) (n' := 20) dX1_spotsHeld_19 rfl rfl rfl ?_
      refine w_iload (n' := 22) dX1_spotsHeld_20 rfl rfl ?_
      refine w_iald (n := i) (n' := 23) dX1_spotsHeld_22 rfl (kPa h).2.2.2.1 rfl (by rw [(kPa h).2.2.2.2]; exact hlt) ?_
      refine w_istore (n' := 25) (ls' := [_, _, _, _, _, _]) dX1_spotsHeld_23 rfl (Nat.le_of_ble_eq_true rfl) rfl rfl ?_
      refine w_iload (n' := 27) dX1_spotsHeld_25 rfl rfl ?_
      refine w_iconst (v := -1) (n' := 28) dX1_spotsHeld_27 rfl rfl ?_
      refine w_icmp_eq (n' := 31) (tgt := 34) dX1_spotsHeld_28 rfl rfl (fun h28 => ?_) (fun h28 => ?_)
      · refine w_iinc (n' := 37) (v := nI (i + 1)) (ls' := [_, _, _, _, _, _]) dX1_spotsHeld_34 rfl rfl (nI_1 i) (Nat.le_of_ble_eq_true rfl) rfl rfl ?_
        refine w_goto (tgt := 13) dX1_spotsHeld_37 rfl ?_
        exact ih hlt (_, _) (by show _ = cntT _ (i + 1); rw [cntT, if_neg (by rw [decide_eq_true_iff]; exact fun q => q h28), h1])
      · refine w_iinc (n' := 34) (v := _ + 1) (ls' := [_, _, _, _, _, _]) dX1_spotsHeld_31 rfl rfl rfl (Nat.le_of_ble_eq_true rfl) rfl rfl ?_
        refine w_iinc (n' := 37) (v := nI (i + 1)) (ls' := [_, _, _, _, _, _]) dX1_spotsHeld_34 rfl rfl (nI_1 i) (Nat.le_of_ble_eq_true rfl) rfl rfl ?_
        refine w_goto (tgt := 13) dX1_spotsHeld_37 rfl ?_
        exact ih hlt (_, _) (by show _ = cntT _ (i + 1); rw [cntT, if_pos (decide_eq_true h28), h1])
  exact L 0 (0, _) (Nat.zero_le _) rfl
set_option maxHeartbeats 4000000 in
theorem c_draw {k : Nat} (h : kd k = 1) (mem : Mem) : CnE mX1_draw [.ref k] mem (some (.int (((mem k 5 * 1103515245 + 12345).toUInt32 >>> ((8 : Int32).toUInt32 &&& Int32.toUInt32 31)).toInt32)) ) (up2 mem k 5 (mem k 5 * 1103515245 + 12345)) := by
  refine Cn.of (ls := [some (.ref k)]) (by decide) rfl (Nat.le_of_ble_eq_true rfl) ?_
  refine w_aload_n (i := 0) (n' := 1) dX1_draw_0 rfl rfl rfl ?_
  refine w_aload_n (i := 0) (n' := 2) dX1_draw_1 rfl rfl rfl ?_
  refine w_get (ci := 1) (j := 5) (n' := 5) dX1_draw_2 rfl fRX1_25 (Nat.le_of_ble_eq_true rfl) (Nat.le_of_ble_eq_true rfl) h rfl ?_
  refine w_ldc (v := 1103515245) (n' := 7) dX1_draw_5 rfl kRX1_107 ?_
  refine w_imul (n' := 8) dX1_draw_7 rfl ?_
  refine w_sipush (v := 12345) (n' := 11) dX1_draw_8 rfl (by decide) ?_
  refine w_iadd (n' := 12) dX1_draw_11 rfl ?_
  refine w_put (ci := 1) (j := 5) (n' := 15) dX1_draw_12 rfl fRX1_25 (Nat.le_of_ble_eq_true rfl) (Nat.le_of_ble_eq_true rfl) rfl rfl h rfl ?_
  refine w_aload_n (i := 0) (n' := 16) dX1_draw_15 rfl rfl rfl ?_
  refine w_get (ci := 1) (j := 5) (n' := 19) dX1_draw_16 rfl fRX1_25 (Nat.le_of_ble_eq_true rfl) (Nat.le_of_ble_eq_true rfl) h rfl ?_
  refine w_bipush (v := 8) (n' := 21) dX1_draw_19 rfl (by decide) ?_
  refine w_iushr (n' := 22) (v := _) dX1_draw_21 rfl rfl ?_
  exact w_iret dX1_draw_22 rfl ⟨by simp [up2_eq, upR_same, upd], rfl⟩
set_option maxHeartbeats 4000000 in
theorem c_hasFarm {k : Nat} (h : kd k = 1) (f : Int32) (mem : Mem) : CnE mX1_hasFarm [.ref k, .int f] mem (some (.int (inR f 0 (mem k 3 - 1)))) mem := by
  refine Cn.of (ls := [some (.ref k), some (.int f)]) (by decide) rfl (Nat.le_of_ble_eq_true rfl) ?_
  refine w_iload_n (i := 1) (n' := 1) dX1_hasFarm_0 rfl rfl rfl ?_
  refine w_iconst (v := 0) (n' := 2) dX1_hasFarm_1 rfl rfl ?_
  refine w_aload_n (i := 0) (n' := 3) dX1_hasFarm_2 rfl rfl rfl ?_
  refine w_get (ci := 1) (j := 3) (n' := 6) dX1_hasFarm_3 rfl fRX1_35 (Nat.le_of_ble_eq_true rfl) (Nat.le_of_ble_eq_true rfl) h rfl ?_
  refine w_iconst (v := 1) (n' := 7) dX1_hasFarm_6 rfl rfl ?_
  refine w_isub (n' := 8) dX1_hasFarm_7 rfl ?_
  refine s_E (n' := 11) dX1_hasFarm_8 rfl lRX1_45 okX5_within stX5_within ⟨⟨Nat.le_of_ble_eq_true rfl, Nat.le_of_ble_eq_true rfl⟩, Nat.le_of_ble_eq_true rfl, Nat.le_of_ble_eq_true rfl⟩ (c_within _ _ _ _) rfl rfl (Nat.le_of_ble_eq_true rfl) ?_
  exact w_zret dX1_hasFarm_11 rfl (inR_nar _ _ _) ⟨rfl, rfl⟩
set_option maxHeartbeats 4000000 in
theorem c_isFull {k : Nat} (h : kd k = 1) (mem : Mem) : CnE mX1_isFull [.ref k] mem (some (.int (if mem k 3 < 8 then 0 else 1))) mem := by
  refine Cn.of (ls := [some (.ref k)]) (by decide) rfl (Nat.le_of_ble_eq_true rfl) ?_
  refine w_aload_n (i := 0) (n' := 1) dX1_isFull_0 rfl rfl rfl ?_
  refine w_get (ci := 1) (j := 3) (n' := 4) dX1_isFull_1 rfl fRX1_35 (Nat.le_of_ble_eq_true rfl) (Nat.le_of_ble_eq_true rfl) h rfl ?_
  refine w_bipush (v := 8) (n' := 6) dX1_isFull_4 rfl (by decide) ?_
  refine w_icmp_lt (n' := 9) (tgt := 13) dX1_isFull_6 rfl rfl (fun h6 => ?_) (fun h6 => ?_)
  · refine w_iconst (v := 0) (n' := 14) dX1_isFull_13 rfl rfl ?_
    exact w_zret dX1_isFull_14 rfl rfl ⟨by simp [h6], rfl⟩
  · refine w_iconst (v := 1) (n' := 10) dX1_isFull_9 rfl rfl ?_
    refine w_goto (tgt := 14) dX1_isFull_10 rfl ?_
    exact w_zret dX1_isFull_14 rfl rfl ⟨by simp [h6], rfl⟩
set_option maxHeartbeats 4000000 in
theorem c_addFarm {k n : Nat} {mem : Mem} (h : PN mem k n) (hn : n < 8) (a b : Int32) : CnE mX1_addFarm [.ref k, .int a, .int b] mem (some (.int (nI n))) (up2 (upR mem (k + 3 + n) (beginF (mem (k + 3 + n)) a b)) k 3 (nI (n + 1))) := by
  refine Cn.of (ls := [some (.ref k), some (.int a), some (.int b), none]) (by decide) rfl (Nat.le_of_ble_eq_true rfl) ?_
  refine w_aload_n (i := 0) (n' := 1) dX1_addFarm_0 rfl rfl rfl ?_
  refine w_get (ci := 1) (j := 3) (n' := 4) dX1_addFarm_1 rfl fRX1_35 (Nat.le_of_ble_eq_true rfl) (Nat.le_of_ble_eq_true rfl) h.1 rfl ?_
  refine w_istore_n (i := 3) (n' := 5) (ls' := [_, _, _, _]) dX1_addFarm_4 rfl rfl (Nat.le_of_ble_eq_true rfl) rfl rfl ?_
  refine w_aload_n (i := 0) (n' := 6) dX1_addFarm_5 rfl rfl rfl ?_
  refine w_get (ci := 1) (j := 1) (n' := 9) dX1_addFarm_6 rfl fRX1_17 (Nat.le_of_ble_eq_true rfl) (Nat.le_of_ble_eq_true rfl) h.1 rfl ?_
  refine w_iload_n (i := 3) (n' := 10) dX1_addFarm_9 rfl rfl rfl ?_
  refine w_aaldF (n := n) (n' := 11) dX1_addFarm_10 rfl (kPa h.1).2.1 h.2.1 hn ?_
  refine w_iload_n (i := 1) (n' := 12) dX1_addFarm_11 rfl rfl rfl ?_
  refine w_iload_n (i := 2) (n' := 13) dX1_addFarm_12 rfl rfl rfl ?_
  refine v_E (ci := 0) (n' := 16) dX1_addFarm_13 rfl lRX1_49 okX0_begin voX0_begin ⟨⟨Nat.le_of_ble_eq_true rfl, Nat.le_of_ble_eq_true rfl⟩, Nat.le_of_ble_eq_true rfl, Nat.le_of_ble_eq_true rfl⟩ (c_begin ((kPa h.1).2.2.1 n hn) _ _ _) rfl rfl (Nat.le_of_ble_eq_true rfl) ((kPa h.1).2.2.1 n hn) (Nat.le_of_ble_eq_true rfl) rfl ?_
  refine w_aload_n (i := 0) (n' := 17) dX1_addFarm_16 rfl rfl rfl ?_
  refine w_dup (n' := 18) dX1_addFarm_17 rfl rfl ?_
  refine w_get (ci := 1) (j := 3) (n' := 21) dX1_addFarm_18 rfl fRX1_35 (Nat.le_of_ble_eq_true rfl) (Nat.le_of_ble_eq_true rfl) h.1 rfl ?_
  refine w_iconst (v := 1) (n' := 22) dX1_addFarm_21 rfl rfl ?_
  refine w_iadd (n' := 23) dX1_addFarm_22 rfl ?_
  refine w_put (ci := 1) (j := 3) (n' := 26) dX1_addFarm_23 rfl fRX1_35 (Nat.le_of_ble_eq_true rfl) (Nat.le_of_ble_eq_true rfl) rfl rfl h.1 rfl ?_
  refine w_iload_n (i := 3) (n' := 27) dX1_addFarm_26 rfl rfl rfl ?_
  exact w_iret dX1_addFarm_27 rfl ⟨by rw [h.2.1], by rw [upR_ne _ _ (show k ≠ k + 3 + n by omega), h.2.1, nI_1]⟩
theorem par_3 : ∀ k, k < 62 → kd k = 1 → k = 1 ∨ k = 13 ∨ k = 25 := by decide +kernel
theorem par_apart {k o : Nat} (h : kd k = 1) (ho : kd o = 1) (hne : k ≠ o) : o + 12 ≤ k ∨ k + 12 ≤ o := by
  have h1 := par_3 k (kd_lt h (by omega)) h
  have h2 := par_3 o (kd_lt ho (by omega)) ho
  omega
def bcT (m : Mem) (k o i : Nat) : Mem := fun a => if k + 3 ≤ a ∧ a < k + 3 + i then copy7 (m a) (m (o + 3 + (a - (k + 3)))) else m a
theorem bcT_0 (m : Mem) (k o : Nat) : bcT m k o 0 = m := by
  funext a
  simp only [bcT]
  rw [if_neg (by omega)]
theorem bcT_out (m : Mem) {k o i a : Nat} (h : a < k + 3 ∨ k + 3 + i ≤ a) : bcT m k o i a = m a := by
  simp only [bcT]
  rw [if_neg (by omega)]
theorem bcT_succ (m : Mem) (k o i : Nat) : upR (bcT m k o i) (k + 3 + i) (copy7 (m (k + 3 + i)) (m (o + 3 + i))) = bcT m k o (i + 1) := by
  funext a
  by_cases h : a = k + 3 + i
  · subst h
    rw [upR_same]
    simp only [bcT]
    rw [if_pos (by omega), show k + 3 + i - (k + 3) = i by omega]
  · rw [upR_ne _ _ h]
    simp only [bcT]
    by_cases h2 : k + 3 ≤ a ∧ a < k + 3 + i
    · rw [if_pos h2, if_pos (by omega)]
    · rw [if_neg h2, if_neg (by omega)]
def becMem (m : Mem) (k o n : Nat) : Mem := upR (bcT (upR (upR m (k + 1) (va_cpy (m (o + 1)) (m (k + 1)) 0 0 3)) (k + 11) (va_cpy (m (o + 11)) (m (k + 11)) 0 0 10)) k o n) k (upd (upd (upd (m k) 3 (m o 3)) 4 (m o 4)) 5 (m o 5))
theorem bec_fin {mem m2 : Mem} {k o i : Nat} (hm2 : m2 = upR (upR mem (k + 1) (va_cpy (mem (o + 1)) (mem (k + 1)) 0 0 3)) (k + 11) (va_cpy (upR mem (k + 1) (va_cpy (mem (o + 1)) (mem (k + 1)) 0 0 3) (o + 11)) (upR mem (k + 1) (va_cpy (mem (o + 1)) (mem (k + 1)) 0 0 3) (k + 11)) 0 0 10)) (hap : o + 12 ≤ k ∨ k + 12 ≤ o) (hi : i ≤ 8) : up2 (up2 (up2 (bcT m2 k o i) k 3 (bcT m2 k o i o 3)) k 4 (up2 (bcT m2 k o i) k 3 (bcT m2 k o i o 3) o 4)) k 5 (up2 (up2 (bcT m2 k o i) k 3 (bcT m2 k o i o 3)) k 4 (up2 (bcT m2 k o i) k 3 (bcT m2 k o i o 3) o 4) o 5) = becMem mem k o i := by
  have hok : o ≠ k := by omega
  have ho3 : bcT m2 k o i o = mem o := by rw [bcT_out _ (by omega), hm2, upR_ne _ _ (by omega), upR_ne _ _ (by omega)]
  have hk3 : bcT m2 k o i k = mem k := by rw [bcT_out _ (by omega), hm2, upR_ne _ _ (by omega), upR_ne _ _ (by omega)]
  simp only [up2_eq, upR_same, upR_upR, upR_ne _ _ hok, ho3, hk3]
  unfold becMem
  rw [hm2, upR_ne mem (a := o + 11) _ (by omega), upR_ne mem (a := k + 11) _ (by omega)]
set_option maxHeartbeats 4000000 in
theorem c_becomes {k o n : Nat} {mem : Mem} (hk : kd k = 1) (h : PN mem o n) (hne : k ≠ o) : CnE mX1_becomes [.ref k, .ref o] mem none (becMem mem k o n) := by
  have h8 := h.2.2
  have hap := par_apart hk h.1 hne
  refine Cn.of (ls := [some (.ref k), some (.ref o), none]) (by decide) rfl (Nat.le_of_ble_eq_true rfl) ?_
  refine w_aload_n (i := 1) (n' := 1) dX1_becomes_0 rfl rfl rfl ?_
  refine w_get (ci := 1) (j := 0) (n' := 4) dX1_becomes_1 rfl fRX1_9 (Nat.le_of_ble_eq_true rfl) (Nat.le_of_ble_eq_true rfl) (by first | exact hk | exact h.1) rfl ?_
  refine w_iconst (v := 0) (n' := 5) dX1_becomes_4 rfl rfl ?_
  refine w_aload_n (i := 0) (n' := 6) dX1_becomes_5 rfl rfl rfl ?_
  refine w_get (ci := 1) (j := 0) (n' := 9) dX1_becomes_6 rfl fRX1_9 (Nat.le_of_ble_eq_true rfl) (Nat.le_of_ble_eq_true rfl) (by first | exact hk | exact h.1) rfl ?_
  refine w_iconst (v := 0) (n' := 10) dX1_becomes_9 rfl rfl ?_
  refine w_iconst (v := 3) (n' := 11) dX1_becomes_10 rfl rfl ?_
  refine w_copy (a := 0) (b := 0) (n := 3) (n' := 14) dX1_becomes_11 rfl lRX1_29 ⟨Nat.le_of_ble_eq_true rfl, Nat.le_of_ble_eq_true rfl⟩ (kPa h.1).1.1 (kPa hk).1.1 rfl rfl rfl (by rw [(kPa h.1).1.2]; decide) (by rw [(kPa hk).1.2]; decide) ?_
  refine w_aload_n (i := 1) (n' := 15) dX1_becomes_14 rfl rfl rfl ?_
  refine w_get (ci := 1) (j := 2) (n' := 18) dX1_becomes_15 rfl fRX1_22 (Nat.le_of_ble_eq_true rfl) (Nat.le_of_ble_eq_true rfl) (by first | exact hk | exact h.1) rfl ?_
  refine w_iconst (v := 0) (n' := 19) dX1_becomes_18 rfl rfl ?_
  refine w_aload_n (i := 0) (n' := 20) dX1_becomes_19 rfl rfl rfl ?_
  refine w_get (ci := 1) (j := 2) (n' := 23) dX1_becomes_20 rfl fRX1_22 (Nat.le_of_ble_eq_true rfl) (Nat.le_of_ble_eq_true rfl) (by first | exact hk | exact h.1) rfl ?_
  refine w_iconst (v := 0) (n' := 24) dX1_becomes_23 rfl rfl ?_
  refine w_bipush (v := 10) (n' := 26) dX1_becomes_24 rfl (by decide) ?_
  refine w_copy (a := 0) (b := 0) (n := 10) (n' := 29) dX1_becomes_26 rfl lRX1_29 ⟨Nat.le_of_ble_eq_true rfl, Nat.le_of_ble_eq_true rfl⟩ (kPa h.1).2.2.2.1 (kPa hk).2.2.2.1 rfl rfl rfl (by rw [(kPa h.1).2.2.2.2]; decide) (by rw [(kPa hk).2.2.2.2]; decide) ?_
  refine w_iconst (v := 0) (n' := 30) dX1_becomes_29 rfl rfl ?_
  refine w_istore_n (i := 2) (n' := 31) (ls' := [_, _, _]) dX1_becomes_30 rfl rfl (Nat.le_of_ble_eq_true rfl) rfl rfl ?_
  obtain ⟨m2, hm2⟩ : ∃ z, z = upR (upR mem (k + 1) (va_cpy (mem (o + 1)) (mem (k + 1)) 0 0 3)) (k + 11) (va_cpy (upR mem (k + 1) (va_cpy (mem (o + 1)) (mem (k + 1)) 0 0 3) (o + 11)) (upR mem (k + 1) (va_cpy (mem (o + 1)) (mem (k + 1)) 0 0 3) (k + 11)) 0 0 10) := ⟨_, rfl⟩
  rw [← hm2]
  have ho3 : m2 o = mem o := by rw [hm2, upR_ne _ _ (by omega), upR_ne _ _ (by omega)]
  have hk3 : m2 k = mem k := by rw [hm2, upR_ne _ _ (by omega), upR_ne _ _ (by omega)]
  have L : ∀ (i : Nat) (s : Mem), i ≤ n → (s = bcT m2 k o i) → Wm mX1_becomes (zM mX1_becomes (fun r' m' => r' = none ∧ m' = (becMem mem k o n))) 31 [some (.ref k), some (.ref o), some (.int (nI i))] [] s := by
    refine for_ind n ?_
    intro i s hi h1 ih
    subst h1
    have hp : bcT m2 k o i o 3 = nI n := by rw [bcT_out _ (by omega), ho3]; exact h.2.1
    refine w_iload_n (i := 2) (n' := 32) dX1_becomes_31 rfl rfl rfl ?_
    refine w_aload_n (i := 1) (n' := 33) dX1_becomes_32 rfl rfl rfl ?_
    refine w_get (ci := 1) (j := 3) (n' := 36) dX1_becomes_33 rfl fRX1_35 (Nat.le_of_ble_eq_true rfl) (Nat.le_of_ble_eq_true rfl) (by first | exact hk | exact h.1) rfl ?_
    refine w_icmp_ge (n' := 39) (tgt := 60) dX1_becomes_36 rfl rfl (fun h36 => ?_) (fun h36 => ?_)
    · have hin : i = n := by
        rcases Nat.lt_or_ge i n with q | q
        · exact absurd h36 (by rw [hp]; exact nI_ge q (by omega))
        · omega
      subst hin
      refine w_aload_n (i := 0) (n' := 61) dX1_becomes_60 rfl rfl rfl ?_
      refine w_aload_n (i := 1) (n' := 62) dX1_becomes_61 rfl rfl rfl ?_
      refine w_get (ci := 1) (j := 3) (n' := 65) dX1_becomes_62 rfl fRX1_35 (Nat.le_of_ble_eq_true rfl) (Nat.le_of_ble_eq_true rfl) (by first | exact hk | exact h.1) rfl ?_
      refine w_put (ci := 1) (j := 3) (n' := 68) dX1_becomes_65 rfl fRX1_35 (Nat.le_of_ble_eq_true rfl) (Nat.le_of_ble_eq_true rfl) rfl rfl (by first | exact hk | exact h.1) rfl ?_
      refine w_aload_n (i := 0) (n' := 69) dX1_becomes_68 rfl rfl rfl ?_
      refine w_aload_n (i := 1) (n' := 70) dX1_becomes_69 rfl rfl rfl ?_
      refine w_get (ci := 1) (j := 4) (n' := 73) dX1_becomes_70 rfl fRX1_42 (Nat.le_of_ble_eq_true rfl) (Nat.le_of_ble_eq_true rfl) (by first | exact hk | exact h.1) rfl ?_
      refine w_put (ci := 1) (j := 4) (n' := 76) dX1_becomes_73 rfl fRX1_42 (Nat.le_of_ble_eq_true rfl) (Nat.le_of_ble_eq_true rfl) rfl rfl (by first | exact hk | exact h.1) rfl ?_
      refine w_aload_n (i := 0) (n' := 77) dX1_becomes_76 rfl rfl rfl ?_
      refine w_aload_n (i := 1) (n' := 78) dX1_becomes_77 rfl rfl rfl ?_
      refine w_get (ci := 1) (j := 5) (n' := 81) dX1_becomes_78 rfl fRX1_25 (Nat.le_of_ble_eq_true rfl) (Nat.le_of_ble_eq_true rfl) (by first | exact hk | exact h.1) rfl ?_
      refine w_put (ci := 1) (j := 5) (n' := 84) dX1_becomes_81 rfl fRX1_25 (Nat.le_of_ble_eq_true rfl) (Nat.le_of_ble_eq_true rfl) rfl rfl (by first | exact hk | exact h.1) rfl ?_
      exact w_vret dX1_becomes_84 rfl ⟨rfl, bec_fin hm2 hap (by omega)⟩
    · have hlt : i < n := by
        rcases Nat.lt_or_ge i n with q | q
        · exact q
        · exact absurd (by rw [hp]; exact nI_le q (by omega)) h36
      refine w_aload_n (i := 0) (n' := 40) dX1_becomes_39 rfl rfl rfl ?_
      refine w_get (ci := 1) (j := 1) (n' := 43) dX1_becomes_40 rfl fRX1_17 (Nat.le_of_ble_eq_true rfl) (Nat.le_of_ble_eq_true rfl) (by first | exact hk | exact h.1) rfl ?_
      refine w_iload_n (i := 2) (n' := 44) dX1_becomes_43 rfl rfl rfl ?_
      refine w_aaldF (n := i) (n' := 45) dX1_becomes_44 rfl (kPa hk).2.1 rfl (show i < 8 by omega) ?_
      refine w_aload_n (i := 1) (n' := 46) dX1_becomes_45 rfl rfl rfl ?_
      refine w_get (ci := 1) (j := 1) (n' := 49) dX1_becomes_46 rfl fRX1_17 (Nat.le_of_ble_eq_true rfl) (Nat.le_of_ble_eq_true rfl) (by first | exact hk | exact h.1) rfl ?_
      refine w_iload_n (i := 2) (n' := 50) dX1_becomes_49 rfl rfl rfl ?_
      refine w_aaldF (n := i) (n' := 51) dX1_becomes_50 rfl (kPa h.1).2.1 rfl (show i < 8 by omega) ?_
      refine v_E (ci := 0) (n' := 54) dX1_becomes_51 rfl lRX1_38 okX0_becomes voX0_becomes ⟨⟨Nat.le_of_ble_eq_true rfl, Nat.le_of_ble_eq_true rfl⟩, Nat.le_of_ble_eq_true rfl, Nat.le_of_ble_eq_true rfl⟩ (c_farmBecomes ((kPa hk).2.2.1 i (by omega)) ((kPa h.1).2.2.1 i (by omega)) (by omega) _) rfl rfl (Nat.le_of_ble_eq_true rfl) ((kPa hk).2.2.1 i (by omega)) (Nat.le_of_ble_eq_true rfl) rfl ?_
      refine w_iinc (n' := 57) (v := nI (i + 1)) (ls' := [_, _, _]) dX1_becomes_54 rfl rfl (nI_1 i) (Nat.le_of_ble_eq_true rfl) rfl rfl ?_
      refine w_goto (tgt := 31) dX1_becomes_57 rfl ?_
      exact ih hlt _ (by rw [bcT_out m2 (a := k + 3 + i) (by omega), bcT_out m2 (a := o + 3 + i) (by omega), bcT_succ])
  exact L 0 _ (Nat.zero_le _) (bcT_0 _ _ _).symm
