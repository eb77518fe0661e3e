/-! the parish -/
theorem for_ind {σ : Type} {X I : Nat → σ → Prop} (n : Nat) (step : ∀ i s, i ≤ n → I i s → (i < n → ∀ s', I (i + 1) s' → X (i + 1) s') → X i s) : ∀ i s, i ≤ n → I i s → X i s := by
  have key : ∀ d i s, n - i = d → i ≤ n → I i s → X i s := by
    intro d
    induction d with
    | zero => intro i s h1 h2 h3; exact step i s h2 h3 (fun h => absurd h (by omega))
    | succ d ih => intro i s h1 h2 h3; exact step i s h2 h3 (fun h s' hI => ih (i + 1) s' (by omega) (by omega) hI)
  intro i s h1 h2
  exact key _ i s rfl h1 h2
theorem kdP_all : ∀ k, k < 62 → kd k = 1 → (kd (k + 1) = 10 ∧ al (k + 1) = 3) ∧ kd (k + 2) = 12 ∧ (∀ i, i < 8 → kd (k + 3 + i) = 0) ∧ kd (k + 11) = 10 ∧ al (k + 11) = 10 := by decide +kernel
theorem kPa {k : Nat} (h : kd k = 1) : (kd (k + 1) = 10 ∧ al (k + 1) = 3) ∧ kd (k + 2) = 12 ∧ (∀ i, i < 8 → kd (k + 3 + i) = 0) ∧ kd (k + 11) = 10 ∧ al (k + 11) = 10 := kdP_all k (kd_lt h (by omega)) h
def DP (m : Mem) (k i : Nat) : Int32 := dayI (m (k + 3 + i) 0) (m (k + 3 + i) 1) (m (k + 3 + i) 2) (m (k + 1) 0)
def Same (mem m' : Mem) : Prop := pr m' = pr mem ∧ CaOK m'
def PO (m : Mem) (k n : Nat) : Prop := kd k = 1 ∧ m k 3 = nI n ∧ n ≤ 8 ∧ m (k + 1) 0 ≠ -1 ∧ CaOK m
theorem Same.at {mem m' : Mem} (h : Same mem m') {k j : Nat} (hc : isCa k j = false) : m' k j = mem k j := pr_at h.1 hc
theorem bitI_01 (s i : Int32) : bitI s i = 0 ∨ bitI s i = 1 := by
  unfold bitI
  by_cases h : (s >>> (i &&& 31)) &&& 1 = 1
  · right; rw [if_pos h]
  · left; rw [if_neg h]
theorem z_nar {x : Int32} (h : x = 0 ∨ x = 1) : narrow .boolean (.int x) = .int x := by rcases h with rfl | rfl <;> rfl
theorem bitI_nar (s i : Int32) : narrow .boolean (.int (bitI s i)) = .int (bitI s i) := z_nar (bitI_01 s i)
theorem inR_nar (v a b : Int32) : narrow .boolean (.int (inR v a b)) = .int (inR v a b) := z_nar (inR_01 v a b)
theorem isCa_k {k j : Nat} (h : kd k ≠ 0) : isCa k j = false := by simp [isCa, h]
theorem isCa_j {k j : Nat} (h : j < 5) : isCa k j = false := by simp [isCa]; omega
theorem Same.row {mem m' : Mem} (h : Same mem m') {k : Nat} (hk : kd k ≠ 0) : m' k = mem k := by
  funext j
  exact h.at (isCa_k hk)
theorem Same.DP {mem m' : Mem} (h : Same mem m') {k : Nat} (hk : kd k = 1) : DP m' k = DP mem k := by
  funext i
  have h1 : kd (k + 1) ≠ 0 := by rw [(kPa hk).1.1]; decide
  show dayI _ _ _ _ = dayI _ _ _ _
  rw [h.at (isCa_j (by decide)), h.at (isCa_j (by decide)), h.at (isCa_j (by decide)), h.at (isCa_k h1)]
theorem Same.PO {mem m' : Mem} (h : Same mem m') {k n : Nat} (hp : PO mem k n) : PO m' k n := by
  obtain ⟨h1, h2, h3, h4, h5⟩ := hp
  have h7 : kd (k + 1) ≠ 0 := by rw [(kPa h1).1.1]; decide
  exact ⟨h1, by rw [h.row (by rw [h1]; decide)]; exact h2, h3, by rw [h.row h7]; exact h4, h.2⟩
theorem Same.rf {mem : Mem} (h : CaOK mem) : Same mem mem := ⟨rfl, h⟩
theorem Same.tr {a b c : Mem} (h : Same a b) (h2 : Same b c) : Same a c := ⟨h2.1.trans h.1, h2.2⟩
def mx (D : Nat → Int32) : Nat → Int32
  | 0 => 0
  | i + 1 => maxI (mx D i) (D i)
def lbS (D : Nat → Int32) (b : Int32) : Nat → Int32 × Int32
  | 0 => (0, 0)
  | i + 1 => if b ≤ D i then lbS D b i else if (lbS D b i).2 ≤ D i then (if D i ≤ (lbS D b i).2 then ((lbS D b i).1 ||| ((1 : Int32) <<< (nI i &&& 31)), D i) else ((1 : Int32) <<< (nI i &&& 31), D i)) else lbS D b i
def erS (D : Nat → Int32) : Nat → Int32 × Int32
  | 0 => (0, 2147483647)
  | i + 1 => if D i ≤ (erS D i).2 then (if (erS D i).2 ≤ D i then ((erS D i).1 ||| ((1 : Int32) <<< (nI i &&& 31)), D i) else ((1 : Int32) <<< (nI i &&& 31), D i)) else erS D i
def sumC (F : Nat → Nat → Int32) (set : Int32) : Nat → Int32
  | 0 => 0
  | i + 1 => sumC F set i + (if bitI set (nI i) = 0 then 1 else 3) * F i 3 * tellF (F i 0) (F i 4)
def leanC (lean mice rain : Int32) : Int32 :=
  if rain < 60 then (if 0 ≤ lean then maxI 0 (absI lean - mice / 10) else 0 - maxI 0 (absI lean - mice / 10)) else 0 - (if 0 ≤ lean then maxI 0 (absI lean - mice / 10) else 0 - maxI 0 (absI lean - mice / 10))
def sumT (g : Nat → Int32) : Nat → Int32
  | 0 => 0
  | i + 1 => sumT g i + g i
def bitT (P : Nat → Bool) : Nat → Int32
  | 0 => 0
  | i + 1 => if P i then bitT P i ||| ((1 : Int32) <<< (nI i &&& 31)) else bitT P i
def cntT (P : Nat → Bool) : Nat → Int32
  | 0 => 0
  | i + 1 => if P i then cntT P i + 1 else cntT P i
set_option maxHeartbeats 4000000 in
theorem c_mostDays {k n : Nat} {mem : Mem} (h : PO mem k n) : CnI mX1_mostDays [.ref k] mem (fun x m' => x = mx (DP mem k) n ∧ Same mem m') := by
  have h8 := h.2.2.1
  refine Cn.of (ls := [some (.ref k), none, none]) (by decide) rfl (Nat.le_of_ble_eq_true rfl) ?_
  refine w_iconst (v := 0) (n' := 1) dX1_mostDays_0 rfl rfl ?_
  refine w_istore_n (i := 1) (n' := 2) (ls' := [_, _, _]) dX1_mostDays_1 rfl rfl (Nat.le_of_ble_eq_true rfl) rfl rfl ?_
  refine w_iconst (v := 0) (n' := 3) dX1_mostDays_2 rfl rfl ?_
  refine w_istore_n (i := 2) (n' := 4) (ls' := [_, _, _]) dX1_mostDays_3 rfl rfl (Nat.le_of_ble_eq_true rfl) rfl rfl ?_
  have L : ∀ (i : Nat) (s : Int32 × Mem), i ≤ n → (s.1 = mx (DP mem k) i ∧ Same mem s.2) → Wm mX1_mostDays (zM mX1_mostDays (fun r m' => ∃ x, r = some (.int x) ∧ (fun x m' => x = mx (DP mem k) n ∧ Same mem m') x m')) 4 [some (.ref k), some (.int s.1), some (.int (nI i))] [] s.2 := by
    refine for_ind n ?_
    rintro i ⟨most, m1⟩ hi ⟨h1, h2⟩ ih
    dsimp only at h1 h2 ih ⊢
    have hp := h2.PO h
    refine w_iload_n (i := 2) (n' := 5) dX1_mostDays_4 rfl rfl rfl ?_
    refine w_aload_n (i := 0) (n' := 6) dX1_mostDays_5 rfl rfl rfl ?_
    refine w_get (ci := 1) (j := 3) (n' := 9) dX1_mostDays_6 rfl fRX1_37 (Nat.le_of_ble_eq_true rfl) (Nat.le_of_ble_eq_true rfl) h.1 rfl ?_
    refine w_icmp_ge (n' := 12) (tgt := 38) dX1_mostDays_9 rfl rfl (fun h9 => ?_) (fun h9 => ?_)
    · have hin : i = n := by
        rcases Nat.lt_or_ge i n with q | q
        · exact absurd h9 (by rw [hp.2.1]; exact nI_ge q (by omega))
        · omega
      subst hin
      refine w_iload_n (i := 1) (n' := 39) dX1_mostDays_38 rfl rfl rfl ?_
      exact w_iret dX1_mostDays_39 rfl ⟨_, rfl, h1, h2⟩
    · have hlt : i < n := by
        rcases Nat.lt_or_ge i n with q | q
        · exact q
        · exact absurd (by rw [hp.2.1]; exact nI_le q (by omega)) h9
      refine w_iload_n (i := 1) (n' := 13) dX1_mostDays_12 rfl rfl rfl ?_
      refine w_aload_n (i := 0) (n' := 14) dX1_mostDays_13 rfl rfl rfl ?_
      refine w_get (ci := 1) (j := 1) (n' := 17) dX1_mostDays_14 rfl fRX1_19 (Nat.le_of_ble_eq_true rfl) (Nat.le_of_ble_eq_true rfl) h.1 rfl ?_
      refine w_iload_n (i := 2) (n' := 18) dX1_mostDays_17 rfl rfl rfl ?_
      refine w_aaldF (n := i) (n' := 19) dX1_mostDays_18 rfl (kPa h.1).2.1 rfl (show i < 8 by omega) ?_
      refine w_aload_n (i := 0) (n' := 20) dX1_mostDays_19 rfl rfl rfl ?_
      refine w_get (ci := 1) (j := 0) (n' := 23) dX1_mostDays_20 rfl fRX1_11 (Nat.le_of_ble_eq_true rfl) (Nat.le_of_ble_eq_true rfl) h.1 rfl ?_
      refine w_iconst (v := 0) (n' := 24) dX1_mostDays_23 rfl rfl ?_
      refine w_iald (n := 0) (n' := 25) dX1_mostDays_24 rfl (kPa h.1).1.1 (by decide) (by rw [(kPa h.1).1.2]; decide) ?_
      refine v_I (ci := 0) (n' := 28) dX1_mostDays_25 rfl lRX1_55 okX0_daysIn voX0_daysIn ⟨⟨Nat.le_of_ble_eq_true rfl, Nat.le_of_ble_eq_true rfl⟩, Nat.le_of_ble_eq_true rfl, Nat.le_of_ble_eq_true rfl⟩ (c_daysIn ((kPa h.1).2.2.1 i (by omega)) _ hp.2.2.2.1 _ hp.2.2.2.2) rfl rfl (Nat.le_of_ble_eq_true rfl) ((kPa h.1).2.2.1 i (by omega)) (Nat.le_of_ble_eq_true rfl) rfl (fun x25 m25 q25 => ?_)
      have hD : x25 = DP mem k i := by rw [q25.1, ← h2.DP h.1]; rfl
      have h2b : Same mem m25 := h2.tr ⟨q25.2.1, q25.2.2.1⟩
      refine w_max (n' := 31) dX1_mostDays_28 rfl lRX1_59 ⟨Nat.le_of_ble_eq_true rfl, Nat.le_of_ble_eq_true rfl, Nat.le_of_ble_eq_true rfl, Nat.le_of_ble_eq_true rfl⟩ ?_
      refine w_istore_n (i := 1) (n' := 32) (ls' := [_, _, _]) dX1_mostDays_31 rfl rfl (Nat.le_of_ble_eq_true rfl) rfl rfl ?_
      refine w_iinc (n' := 35) (v := nI (i + 1)) (ls' := [_, _, _]) dX1_mostDays_32 rfl rfl (nI_1 i) (Nat.le_of_ble_eq_true rfl) rfl rfl ?_
      refine w_goto (tgt := 4) dX1_mostDays_35 rfl ?_
      exact ih hlt (_, _) ⟨by rw [hD, h1]; rfl, h2b⟩
  exact L 0 (0, mem) (Nat.zero_le _) ⟨rfl, Same.rf h.2.2.2.2⟩
set_option maxHeartbeats 4000000 in
theorem c_latestBelow {k n : Nat} {mem : Mem} (h : PO mem k n) (b : Int32) : CnI mX1_latestBelow [.ref k, .int b] mem (fun x m' => x = (lbS (DP mem k) b n).1 ∧ Same mem m') := by
  have h8 := h.2.2.1
  refine Cn.of (ls := [some (.ref k), some (.int b), none, none, none, none]) (by decide) rfl (Nat.le_of_ble_eq_true rfl) ?_
  refine w_iconst (v := 0) (n' := 1) dX1_latestBelow_0 rfl rfl ?_
  refine w_istore_n (i := 2) (n' := 2) (ls' := [_, _, _, _, _, _]) dX1_latestBelow_1 rfl rfl (Nat.le_of_ble_eq_true rfl) rfl rfl ?_
  refine w_iconst (v := 0) (n' := 3) dX1_latestBelow_2 rfl rfl ?_
  refine w_istore_n (i := 3) (n' := 4) (ls' := [_, _, _, _, _, _]) dX1_latestBelow_3 rfl rfl (Nat.le_of_ble_eq_true rfl) rfl rfl ?_
  refine w_iconst (v := 0) (n' := 5) dX1_latestBelow_4 rfl rfl ?_
  refine w_istore (n' := 7) (ls' := [_, _, _, _, _, _]) dX1_latestBelow_5 rfl (Nat.le_of_ble_eq_true rfl) rfl rfl ?_
  have L : ∀ (i : Nat) (s : (Int32 × Int32) × Option Value × Mem), i ≤ n → (s.1 = lbS (DP mem k) b i ∧ Same mem s.2.2) → Wm mX1_latestBelow (zM mX1_latestBelow (fun r m' => ∃ x, r = some (.int x) ∧ (fun x m' => x = (lbS (DP mem k) b n).1 ∧ Same mem m') x m')) 7 [some (.ref k), some (.int b), some (.int s.1.1), some (.int s.1.2), some (.int (nI i)), s.2.1] [] s.2.2 := by
    refine for_ind n ?_
    rintro i ⟨⟨set, most⟩, lx, m1⟩ hi ⟨h1, h2⟩ ih
    dsimp only at h1 h2 ih ⊢
    have hp := h2.PO h
    have e1 : set = (lbS (DP mem k) b i).1 := by rw [← h1]
    have e2 : most = (lbS (DP mem k) b i).2 := by rw [← h1]
    refine w_iload (n' := 9) dX1_latestBelow_7 rfl rfl ?_
    refine w_aload_n (i := 0) (n' := 10) dX1_latestBelow_9 rfl rfl rfl ?_
    refine w_get (ci := 1) (j := 3) (n' := 13) dX1_latestBelow_10 rfl fRX1_37 (Nat.le_of_ble_eq_true rfl) (Nat.le_of_ble_eq_true rfl) h.1 rfl ?_
    refine w_icmp_ge (n' := 16) (tgt := 78) dX1_latestBelow_13 rfl rfl (fun h13 => ?_) (fun h13 => ?_)
    · have hin : i = n := by
        rcases Nat.lt_or_ge i n with q | q
        · exact absurd h13 (by rw [hp.2.1]; exact nI_ge q (by omega))
        · omega
      subst hin
      refine w_iload_n (i := 2) (n' := 79) dX1_latestBelow_78 rfl rfl rfl ?_
      exact w_iret dX1_latestBelow_79 rfl ⟨_, rfl, e1, h2⟩
    · have hlt : i < n := by
        rcases Nat.lt_or_ge i n with q | q
        · exact q
        · exact absurd (by rw [hp.2.1]; exact nI_le q (by omega)) h13
      refine w_aload_n (i := 0) (n' := 17) dX1_latestBelow_16 rfl rfl rfl ?_
      refine w_get (ci := 1) (j := 1) (n' := 20) dX1_latestBelow_17 rfl fRX1_19 (Nat.le_of_ble_eq_true rfl) (Nat.le_of_ble_eq_true rfl) h.1 rfl ?_
      refine w_iload (n' := 22) dX1_latestBelow_20 rfl rfl ?_
      refine w_aaldF (n := i) (n' := 23) dX1_latestBelow_22 rfl (kPa h.1).2.1 rfl (show i < 8 by omega) ?_
      refine w_aload_n (i := 0) (n' := 24) dX1_latestBelow_23 rfl rfl rfl ?_
      refine w_get (ci := 1) (j := 0) (n' := 27) dX1_latestBelow_24 rfl fRX1_11 (Nat.le_of_ble_eq_true rfl) (Nat.le_of_ble_eq_true rfl) h.1 rfl ?_
      refine w_iconst (v := 0) (n' := 28) dX1_latestBelow_27 rfl rfl ?_
      refine w_iald (n := 0) (n' := 29) dX1_latestBelow_28 rfl (kPa h.1).1.1 (by decide) (by rw [(kPa h.1).1.2]; decide) ?_
      refine v_I (ci := 0) (n' := 32) dX1_latestBelow_29 rfl lRX1_55 okX0_daysIn voX0_daysIn ⟨⟨Nat.le_of_ble_eq_true rfl, Nat.le_of_ble_eq_true rfl⟩, Nat.le_of_ble_eq_true rfl, Nat.le_of_ble_eq_true rfl⟩ (c_daysIn ((kPa h.1).2.2.1 i (by omega)) _ hp.2.2.2.1 _ hp.2.2.2.2) rfl rfl (Nat.le_of_ble_eq_true rfl) ((kPa h.1).2.2.1 i (by omega)) (Nat.le_of_ble_eq_true rfl) rfl (fun x29 m29 q29 => ?_)
      have hD : x29 = DP mem k i := by rw [q29.1, ← h2.DP h.1]; rfl
      have h2b : Same mem m29 := h2.tr ⟨q29.2.1, q29.2.2.1⟩
      refine w_istore (n' := 34) (ls' := [_, _, _, _, _, _]) dX1_latestBelow_32 rfl (Nat.le_of_ble_eq_true rfl) rfl rfl ?_
      refine w_iload (n' := 36) dX1_latestBelow_34 rfl rfl ?_
      refine w_iload_n (i := 1) (n' := 37) dX1_latestBelow_36 rfl rfl rfl ?_
      refine w_icmp_ge (n' := 40) (tgt := 72) dX1_latestBelow_37 rfl rfl (fun h37 => ?_) (fun h37 => ?_)
      · refine w_iinc (n' := 75) (v := nI (i + 1)) (ls' := [_, _, _, _, _, _]) dX1_latestBelow_72 rfl rfl (nI_1 i) (Nat.le_of_ble_eq_true rfl) rfl rfl ?_
        refine w_goto (tgt := 7) dX1_latestBelow_75 rfl ?_
        exact ih hlt ((_, _), _, _) ⟨by show _ = lbS _ _ (i + 1); rw [lbS, ← hD, if_pos h37, ← h1], h2b⟩
      · refine w_iload (n' := 42) dX1_latestBelow_40 rfl rfl ?_
        refine w_iload_n (i := 3) (n' := 43) dX1_latestBelow_42 rfl rfl rfl ?_
        refine w_icmp_ge (n' := 46) (tgt := 49) dX1_latestBelow_43 rfl rfl (fun h43 => ?_) (fun h43 => ?_)
        · refine w_iload (n' := 51) dX1_latestBelow_49 rfl rfl ?_
          refine w_iload_n (i := 3) (n' := 52) dX1_latestBelow_51 rfl rfl rfl ?_
          refine w_icmp_le (n' := 55) (tgt := 62) dX1_latestBelow_52 rfl rfl (fun h52 => ?_) (fun h52 => ?_)
          · refine w_iload_n (i := 2) (n' := 63) dX1_latestBelow_62 rfl rfl rfl ?_
            refine w_iconst (v := 1) (n' := 64) dX1_latestBelow_63 rfl rfl ?_
            refine w_iload (n' := 66) dX1_latestBelow_64 rfl rfl ?_
            refine w_ishl (n' := 67) dX1_latestBelow_66 rfl ?_
            refine w_ior (n' := 68) dX1_latestBelow_67 rfl ?_
            refine w_istore_n (i := 2) (n' := 69) (ls' := [_, _, _, _, _, _]) dX1_latestBelow_68 rfl rfl (Nat.le_of_ble_eq_true rfl) rfl rfl ?_
            refine w_iload (n' := 71) dX1_latestBelow_69 rfl rfl ?_
            refine w_istore_n (i := 3) (n' := 72) (ls' := [_, _, _, _, _, _]) dX1_latestBelow_71 rfl rfl (Nat.le_of_ble_eq_true rfl) rfl rfl ?_
            refine w_iinc (n' := 75) (v := nI (i + 1)) (ls' := [_, _, _, _, _, _]) dX1_latestBelow_72 rfl rfl (nI_1 i) (Nat.le_of_ble_eq_true rfl) rfl rfl ?_
            refine w_goto (tgt := 7) dX1_latestBelow_75 rfl ?_
            exact ih hlt ((_, _), _, _) ⟨by show _ = lbS _ _ (i + 1); rw [lbS, ← hD, if_neg h37, ← e2, if_pos h43, if_pos h52, ← e1], h2b⟩
          · refine w_iconst (v := 1) (n' := 56) dX1_latestBelow_55 rfl rfl ?_
            refine w_iload (n' := 58) dX1_latestBelow_56 rfl rfl ?_
            refine w_ishl (n' := 59) dX1_latestBelow_58 rfl ?_
            refine w_goto (tgt := 68) dX1_latestBelow_59 rfl ?_
            refine w_istore_n (i := 2) (n' := 69) (ls' := [_, _, _, _, _, _]) dX1_latestBelow_68 rfl rfl (Nat.le_of_ble_eq_true rfl) rfl rfl ?_
            refine w_iload (n' := 71) dX1_latestBelow_69 rfl rfl ?_
            refine w_istore_n (i := 3) (n' := 72) (ls' := [_, _, _, _, _, _]) dX1_latestBelow_71 rfl rfl (Nat.le_of_ble_eq_true rfl) rfl rfl ?_
            refine w_iinc (n' := 75) (v := nI (i + 1)) (ls' := [_, _, _, _, _, _]) dX1_latestBelow_72 rfl rfl (nI_1 i) (Nat.le_of_ble_eq_true rfl) rfl rfl ?_
            refine w_goto (tgt := 7) dX1_latestBelow_75 rfl ?_
            exact ih hlt ((_, _), _, _) ⟨by show _ = lbS _ _ (i + 1); rw [lbS, ← hD, if_neg h37, ← e2, if_pos h43, if_neg h52], h2b⟩
        · refine w_goto (tgt := 72) dX1_latestBelow_46 rfl ?_
          refine w_iinc (n' := 75) (v := nI (i + 1)) (ls' := [_, _, _, _, _, _]) dX1_latestBelow_72 rfl rfl (nI_1 i) (Nat.le_of_ble_eq_true rfl) rfl rfl ?_
          refine w_goto (tgt := 7) dX1_latestBelow_75 rfl ?_
          exact ih hlt ((_, _), _, _) ⟨by show _ = lbS _ _ (i + 1); rw [lbS, ← hD, if_neg h37, ← e2, if_neg h43, ← h1], h2b⟩
  exact L 0 ((0, 0), _, mem) (Nat.zero_le _) ⟨rfl, Same.rf h.2.2.2.2⟩
set_option maxHeartbeats 4000000 in
theorem c_earliest {k n : Nat} {mem : Mem} (h : PO mem k n) : CnI mX1_earliest [.ref k] mem (fun x m' => x = (erS (DP mem k) n).1 ∧ Same mem m') := by
  have h8 := h.2.2.1
  refine Cn.of (ls := [some (.ref k), none, none, none, none]) (by decide) rfl (Nat.le_of_ble_eq_true rfl) ?_
  refine w_iconst (v := 0) (n' := 1) dX1_earliest_0 rfl rfl ?_
  refine w_istore_n (i := 1) (n' := 2) (ls' := [_, _, _, _, _]) dX1_earliest_1 rfl rfl (Nat.le_of_ble_eq_true rfl) rfl rfl ?_
  refine w_ldc (v := 2147483647) (n' := 4) dX1_earliest_2 rfl kRX1_65 ?_
  refine w_istore_n (i := 2) (n' := 5) (ls' := [_, _, _, _, _]) dX1_earliest_4 rfl rfl (Nat.le_of_ble_eq_true rfl) rfl rfl ?_
  refine w_iconst (v := 0) (n' := 6) dX1_earliest_5 rfl rfl ?_
  refine w_istore_n (i := 3) (n' := 7) (ls' := [_, _, _, _, _]) dX1_earliest_6 rfl rfl (Nat.le_of_ble_eq_true rfl) rfl rfl ?_
  have L : ∀ (i : Nat) (s : (Int32 × Int32) × Option Value × Mem), i ≤ n → (s.1 = erS (DP mem k) i ∧ Same mem s.2.2) → Wm mX1_earliest (zM mX1_earliest (fun r m' => ∃ x, r = some (.int x) ∧ (fun x m' => x = (erS (DP mem k) n).1 ∧ Same mem m') x m')) 7 [some (.ref k), some (.int s.1.1), some (.int s.1.2), some (.int (nI i)), s.2.1] [] s.2.2 := by
    refine for_ind n ?_
    rintro i ⟨⟨set, few⟩, lx, m1⟩ hi ⟨h1, h2⟩ ih
    dsimp only at h1 h2 ih ⊢
    have hp := h2.PO h
    have e1 : set = (erS (DP mem k) i).1 := by rw [← h1]
    have e2 : few = (erS (DP mem k) i).2 := by rw [← h1]
    refine w_iload_n (i := 3) (n' := 8) dX1_earliest_7 rfl rfl rfl ?_
    refine w_aload_n (i := 0) (n' := 9) dX1_earliest_8 rfl rfl rfl ?_
    refine w_get (ci := 1) (j := 3) (n' := 12) dX1_earliest_9 rfl fRX1_37 (Nat.le_of_ble_eq_true rfl) (Nat.le_of_ble_eq_true rfl) h.1 rfl ?_
    refine w_icmp_ge (n' := 15) (tgt := 68) dX1_earliest_12 rfl rfl (fun h12 => ?_) (fun h12 => ?_)
    · have hin : i = n := by
        rcases Nat.lt_or_ge i n with q | q
        · exact absurd h12 (by rw [hp.2.1]; exact nI_ge q (by omega))
        · omega
      subst hin
      refine w_iload_n (i := 1) (n' := 69) dX1_earliest_68 rfl rfl rfl ?_
      exact w_iret dX1_earliest_69 rfl ⟨_, rfl, e1, h2⟩
    · have hlt : i < n := by
        rcases Nat.lt_or_ge i n with q | q
        · exact q
        · exact absurd (by rw [hp.2.1]; exact nI_le q (by omega)) h12
      refine w_aload_n (i := 0) (n' := 16) dX1_earliest_15 rfl rfl rfl ?_
      refine w_get (ci := 1) (j := 1) (n' := 19) dX1_earliest_16 rfl fRX1_19 (Nat.le_of_ble_eq_true rfl) (Nat.le_of_ble_eq_true rfl) h.1 rfl ?_
      refine w_iload_n (i := 3) (n' := 20) dX1_earliest_19 rfl rfl rfl ?_
      refine w_aaldF (n := i) (n' := 21) dX1_earliest_20 rfl (kPa h.1).2.1 rfl (show i < 8 by omega) ?_
      refine w_aload_n (i := 0) (n' := 22) dX1_earliest_21 rfl rfl rfl ?_
      refine w_get (ci := 1) (j := 0) (n' := 25) dX1_earliest_22 rfl fRX1_11 (Nat.le_of_ble_eq_true rfl) (Nat.le_of_ble_eq_true rfl) h.1 rfl ?_
      refine w_iconst (v := 0) (n' := 26) dX1_earliest_25 rfl rfl ?_
      refine w_iald (n := 0) (n' := 27) dX1_earliest_26 rfl (kPa h.1).1.1 (by decide) (by rw [(kPa h.1).1.2]; decide) ?_
      refine v_I (ci := 0) (n' := 30) dX1_earliest_27 rfl lRX1_55 okX0_daysIn voX0_daysIn ⟨⟨Nat.le_of_ble_eq_true rfl, Nat.le_of_ble_eq_true rfl⟩, Nat.le_of_ble_eq_true rfl, Nat.le_of_ble_eq_true rfl⟩ (c_daysIn ((kPa h.1).2.2.1 i (by omega)) _ hp.2.2.2.1 _ hp.2.2.2.2) rfl rfl (Nat.le_of_ble_eq_true rfl) ((kPa h.1).2.2.1 i (by omega)) (Nat.le_of_ble_eq_true rfl) rfl (fun x27 m27 q27 => ?_)
      have hD : x27 = DP mem k i := by rw [q27.1, ← h2.DP h.1]; rfl
      have h2b : Same mem m27 := h2.tr ⟨q27.2.1, q27.2.2.1⟩
      refine w_istore (n' := 32) (ls' := [_, _, _, _, _]) dX1_earliest_30 rfl (Nat.le_of_ble_eq_true rfl) rfl rfl ?_
      refine w_iload (n' := 34) dX1_earliest_32 rfl rfl ?_
      refine w_iload_n (i := 2) (n' := 35) dX1_earliest_34 rfl rfl rfl ?_
      refine w_icmp_le (n' := 38) (tgt := 41) dX1_earliest_35 rfl rfl (fun h35 => ?_) (fun h35 => ?_)
      · refine w_iload (n' := 43) dX1_earliest_41 rfl rfl ?_
        refine w_iload_n (i := 2) (n' := 44) dX1_earliest_43 rfl rfl rfl ?_
        refine w_icmp_ge (n' := 47) (tgt := 53) dX1_earliest_44 rfl rfl (fun h44 => ?_) (fun h44 => ?_)
        · refine w_iload_n (i := 1) (n' := 54) dX1_earliest_53 rfl rfl rfl ?_
          refine w_iconst (v := 1) (n' := 55) dX1_earliest_54 rfl rfl ?_
          refine w_iload_n (i := 3) (n' := 56) dX1_earliest_55 rfl rfl rfl ?_
          refine w_ishl (n' := 57) dX1_earliest_56 rfl ?_
          refine w_ior (n' := 58) dX1_earliest_57 rfl ?_
          refine w_istore_n (i := 1) (n' := 59) (ls' := [_, _, _, _, _]) dX1_earliest_58 rfl rfl (Nat.le_of_ble_eq_true rfl) rfl rfl ?_
          refine w_iload (n' := 61) dX1_earliest_59 rfl rfl ?_
          refine w_istore_n (i := 2) (n' := 62) (ls' := [_, _, _, _, _]) dX1_earliest_61 rfl rfl (Nat.le_of_ble_eq_true rfl) rfl rfl ?_
          refine w_iinc (n' := 65) (v := nI (i + 1)) (ls' := [_, _, _, _, _]) dX1_earliest_62 rfl rfl (nI_1 i) (Nat.le_of_ble_eq_true rfl) rfl rfl ?_
          refine w_goto (tgt := 7) dX1_earliest_65 rfl ?_
          exact ih hlt ((_, _), _, _) ⟨by show _ = erS _ (i + 1); rw [erS, ← hD, ← e2, if_pos h35, if_pos h44, ← e1], h2b⟩
        · refine w_iconst (v := 1) (n' := 48) dX1_earliest_47 rfl rfl ?_
          refine w_iload_n (i := 3) (n' := 49) dX1_earliest_48 rfl rfl rfl ?_
          refine w_ishl (n' := 50) dX1_earliest_49 rfl ?_
          refine w_goto (tgt := 58) dX1_earliest_50 rfl ?_
          refine w_istore_n (i := 1) (n' := 59) (ls' := [_, _, _, _, _]) dX1_earliest_58 rfl rfl (Nat.le_of_ble_eq_true rfl) rfl rfl ?_
          refine w_iload (n' := 61) dX1_earliest_59 rfl rfl ?_
          refine w_istore_n (i := 2) (n' := 62) (ls' := [_, _, _, _, _]) dX1_earliest_61 rfl rfl (Nat.le_of_ble_eq_true rfl) rfl rfl ?_
          refine w_iinc (n' := 65) (v := nI (i + 1)) (ls' := [_, _, _, _, _]) dX1_earliest_62 rfl rfl (nI_1 i) (Nat.le_of_ble_eq_true rfl) rfl rfl ?_
          refine w_goto (tgt := 7) dX1_earliest_65 rfl ?_
          exact ih hlt ((_, _), _, _) ⟨by show _ = erS _ (i + 1); rw [erS, ← hD, ← e2, if_pos h35, if_neg h44], h2b⟩
      · refine w_goto (tgt := 62) dX1_earliest_38 rfl ?_
        refine w_iinc (n' := 65) (v := nI (i + 1)) (ls' := [_, _, _, _, _]) dX1_earliest_62 rfl rfl (nI_1 i) (Nat.le_of_ble_eq_true rfl) rfl rfl ?_
        refine w_goto (tgt := 7) dX1_earliest_65 rfl ?_
        exact ih hlt ((_, _), _, _) ⟨by show _ = erS _ (i + 1); rw [erS, ← hD, ← e2, if_neg h35, ← h1], h2b⟩
  exact L 0 ((0, 2147483647), _, mem) (Nat.zero_le _) ⟨rfl, Same.rf h.2.2.2.2⟩
set_option maxHeartbeats 4000000 in
theorem c_latest {k n : Nat} {mem : Mem} (h : PO mem k n) : CnI mX1_latest [.ref k] mem (fun x m' => x = (lbS (DP mem k) 2147483647 n).1 ∧ Same mem m') := by
  refine Cn.of (ls := [some (.ref k)]) (by decide) rfl (Nat.le_of_ble_eq_true rfl) ?_
  refine w_aload_n (i := 0) (n' := 1) dX1_latest_0 rfl rfl rfl ?_
  refine w_ldc (v := 2147483647) (n' := 3) dX1_latest_1 rfl kRX1_65 ?_
  refine v_I (ci := 1) (n' := 6) dX1_latest_3 rfl lRX1_66 okX1_latestBelow voX1_latestBelow ⟨⟨Nat.le_of_ble_eq_true rfl, Nat.le_of_ble_eq_true rfl⟩, Nat.le_of_ble_eq_true rfl, Nat.le_of_ble_eq_true rfl⟩ (c_latestBelow h _) rfl rfl (Nat.le_of_ble_eq_true rfl) h.1 (Nat.le_of_ble_eq_true rfl) rfl (fun x3 m3 q3 => ?_)
  exact w_iret dX1_latest_6 rfl ⟨_, rfl, q3⟩
set_option maxHeartbeats 4000000 in
theorem c_isLatest {k n : Nat} {mem : Mem} (h : PO mem k n) (f : Int32) : CnI mX1_isLatest [.ref k, .int f] mem (fun x m' => x = bitI (lbS (DP mem k) 2147483647 n).1 f ∧ Same mem m') := by
  refine Cn.of (ls := [some (.ref k), some (.int f)]) (by decide) rfl (Nat.le_of_ble_eq_true rfl) ?_
  refine w_aload_n (i := 0) (n' := 1) dX1_isLatest_0 rfl rfl rfl ?_
  refine w_ldc (v := 2147483647) (n' := 3) dX1_isLatest_1 rfl kRX1_65 ?_
  refine v_I (ci := 1) (n' := 6) dX1_isLatest_3 rfl lRX1_66 okX1_latestBelow voX1_latestBelow ⟨⟨Nat.le_of_ble_eq_true rfl, Nat.le_of_ble_eq_true rfl⟩, Nat.le_of_ble_eq_true rfl, Nat.le_of_ble_eq_true rfl⟩ (c_latestBelow h _) rfl rfl (Nat.le_of_ble_eq_true rfl) h.1 (Nat.le_of_ble_eq_true rfl) rfl (fun x3 m3 q3 => ?_)
  refine w_iload_n (i := 1) (n' := 7) dX1_isLatest_6 rfl rfl rfl ?_
  refine s_E (n' := 10) dX1_isLatest_7 rfl lRX1_69 okX5_isIn stX5_isIn ⟨⟨Nat.le_of_ble_eq_true rfl, Nat.le_of_ble_eq_true rfl⟩, Nat.le_of_ble_eq_true rfl, Nat.le_of_ble_eq_true rfl⟩ (c_isIn _ _ _) rfl rfl (Nat.le_of_ble_eq_true rfl) ?_
  exact w_zret dX1_isLatest_10 rfl (bitI_nar _ _) ⟨_, rfl, by rw [q3.1], q3.2⟩
