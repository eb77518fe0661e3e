/-! the class: items, texts -/
theorem kdI_at (W : List Int32 → Bool) : ∀ k, k < 7 → (∀ z, z < k → W (strB.getD z []) = false) → W (strB.getD k []) = true → kdI W = nI k
  | 0, _, _, h => by rw [kdI, if_pos (show W wFarm = true from h)]; rfl
  | 1, _, a, h => by rw [kdI, if_neg (by rw [show W wFarm = false from a 0 (by decide)]; decide), if_pos (show W wLame = true from h)]; rfl
  | 2, _, a, h => by rw [kdI, if_neg (by rw [show W wFarm = false from a 0 (by decide)]; decide), if_neg (by rw [show W wLame = false from a 1 (by decide)]; decide), if_pos (show W wProud = true from h)]; rfl
  | 3, _, a, h => by rw [kdI, if_neg (by rw [show W wFarm = false from a 0 (by decide)]; decide), if_neg (by rw [show W wLame = false from a 1 (by decide)]; decide), if_neg (by rw [show W wProud = false from a 2 (by decide)]; decide), if_pos (show W wSly = true from h)]; rfl
  | 4, _, a, h => by rw [kdI, if_neg (by rw [show W wFarm = false from a 0 (by decide)]; decide), if_neg (by rw [show W wLame = false from a 1 (by decide)]; decide), if_neg (by rw [show W wProud = false from a 2 (by decide)]; decide), if_neg (by rw [show W wSly = false from a 3 (by decide)]; decide), if_pos (show W wDeep = true from h)]; rfl
  | 5, _, a, h => by rw [kdI, if_neg (by rw [show W wFarm = false from a 0 (by decide)]; decide), if_neg (by rw [show W wLame = false from a 1 (by decide)]; decide), if_neg (by rw [show W wProud = false from a 2 (by decide)]; decide), if_neg (by rw [show W wSly = false from a 3 (by decide)]; decide), if_neg (by rw [show W wDeep = false from a 4 (by decide)]; decide), if_pos (show W wMach = true from h)]; rfl
  | 6, _, a, h => by rw [kdI, if_neg (by rw [show W wFarm = false from a 0 (by decide)]; decide), if_neg (by rw [show W wLame = false from a 1 (by decide)]; decide), if_neg (by rw [show W wProud = false from a 2 (by decide)]; decide), if_neg (by rw [show W wSly = false from a 3 (by decide)]; decide), if_neg (by rw [show W wDeep = false from a 4 (by decide)]; decide), if_neg (by rw [show W wMach = false from a 5 (by decide)]; decide), if_pos (show W wOld = true from h)]; rfl
theorem kdI_no (W : List Int32 → Bool) (a : ∀ z, z < 7 → W (strB.getD z []) = false) : kdI W = -1 := by
  rw [kdI, if_neg (by rw [show W wFarm = false from a 0 (by decide)]; decide), if_neg (by rw [show W wLame = false from a 1 (by decide)]; decide), if_neg (by rw [show W wProud = false from a 2 (by decide)]; decide), if_neg (by rw [show W wSly = false from a 3 (by decide)]; decide), if_neg (by rw [show W wDeep = false from a 4 (by decide)]; decide), if_neg (by rw [show W wMach = false from a 5 (by decide)]; decide), if_neg (by rw [show W wOld = false from a 6 (by decide)]; decide)]
def weaW (W : List Int32 → Bool) (q0 q1 q2 q3 : RT) : RT := if W wWet then q0 else if W wMice then q1 else if W wRain then q2 else q3
theorem wea_at (W : List Int32 → Bool) (q : Nat → RT) (q3 : RT) : ∀ k, k < 3 → (∀ z, z < k → W (strB.getD (9 + z) []) = false) → W (strB.getD (9 + k) []) = true → weaW W (q 0) (q 1) (q 2) q3 = q k
  | 0, _, _, h => by rw [weaW, if_pos (show W wWet = true from h)]
  | 1, _, a, h => by rw [weaW, if_neg (by rw [show W wWet = false from a 0 (by decide)]; decide), if_pos (show W wMice = true from h)]
  | 2, _, a, h => by rw [weaW, if_neg (by rw [show W wWet = false from a 0 (by decide)]; decide), if_neg (by rw [show W wMice = false from a 1 (by decide)]; decide), if_pos (show W wRain = true from h)]
theorem wea_no (W : List Int32 → Bool) (q0 q1 q2 q3 : RT) (a : ∀ z, z < 3 → W (strB.getD (9 + z) []) = false) : weaW W q0 q1 q2 q3 = q3 := by
  rw [weaW, if_neg (by rw [show W wWet = false from a 0 (by decide)]; decide), if_neg (by rw [show W wMice = false from a 1 (by decide)]; decide), if_neg (by rw [show W wRain = false from a 2 (by decide)]; decide)]
theorem itm_k {B : Nat → Int32} {T n f k : Nat} {r : Nat → Int32} (h : kdI (wP B T f) = nI k) (hk : k < 7) : itmP B T n f r = frmP B T n (nI k) f r := by
  rw [itmP, h, if_pos (nI_pos' (by omega))]
theorem itm_n {B : Nat → Int32} {T n f : Nat} {r : Nat → Int32} (h : kdI (wP B T f) = -1) : itmP B T n f r = weaW (wP B T f) (wthP B T 0 f r) (wthP B T 1 f r) (wthP B T 2 f r) (false, f, r) := by
  rw [itmP, h, if_neg (by decide)]
  rfl
theorem frm_8 (B : Nat → Int32) (T : Nat) (k : Int32) (f : Nat) (r : Nat → Int32) : frmP B T 8 k f r = (false, f, r) := if_pos rfl
set_option maxHeartbeats 4000000 in
theorem ri_54 {m0 : Mem} {T f n : Nat} {r : Nat → Int32} {mem : Mem} (h : CS m0 T f n r mem) (hT2 : T ≤ 120) (hB : BR m0 T) (hf : f ≤ T) (hk : kdI (wP (BT m0 T) T f) = -1) : Wm mX4_readsItem (zM mX4_readsItem (fun rZ mZ => ∃ xZ, rZ = some (.int xZ) ∧ (fun x m' => x = bB (itmP (BT m0 T) T n f r).1 ∧ ∃ n', CS m0 T (itmP (BT m0 T) T n f r).2.1 n' (itmP (BT m0 T) T n f r).2.2 m') xZ mZ)) 54 [some (.ref 39), some (.int 0)] [] mem := by
  have L : ∀ (i : Nat) (u : Unit), i ≤ 3 → (∀ z, z < i → wP (BT m0 T) T f (strB.getD (9 + z) []) = false) → Wm mX4_readsItem (zM mX4_readsItem (fun rZ mZ => ∃ xZ, rZ = some (.int xZ) ∧ (fun x m' => x = bB (itmP (BT m0 T) T n f r).1 ∧ ∃ n', CS m0 T (itmP (BT m0 T) T n f r).2.1 n' (itmP (BT m0 T) T n f r).2.2 m') xZ mZ)) 54 [some (.ref 39), some (.int (nI i))] [] mem := by
    refine for_ind 3 ?_
    intro i u hi h1 ih
    refine w_iload_n (i := 1) (n' := 55) dX4_readsItem_54 rfl rfl rfl ?_
    refine w_iconst (v := 3) (n' := 56) dX4_readsItem_55 rfl rfl ?_
    refine w_icmp_ge (n' := 59) (tgt := 85) dX4_readsItem_56 rfl rfl (fun h56 => ?_) (fun h56 => ?_)
    · have hge : 3 ≤ i := by
        rcases Nat.lt_or_ge i 3 with q | q
        · exact absurd h56 (nI_ge (a := i) (b := 3) q (by omega))
        · exact q
      refine w_iconst (v := 0) (n' := 86) dX4_readsItem_85 rfl rfl ?_
      exact w_zret dX4_readsItem_86 rfl rfl ⟨_, rfl, by rw [itm_n hk, wea_no _ _ _ _ _ (fun z hz => h1 z (by omega))]; exact ⟨rfl, n, h⟩⟩
    · have hlt : i < 3 := by
        rcases Nat.lt_or_ge i 3 with q | q
        · exact q
        · exact absurd (nI_le (a := 3) (b := i) q (by omega)) h56
      refine w_aload_n (i := 0) (n' := 60) dX4_readsItem_59 rfl rfl rfl ?_
      refine w_get (ci := 4) (j := 0) (n' := 63) dX4_readsItem_60 rfl fRX4_9 (Nat.le_of_ble_eq_true rfl) (Nat.le_of_ble_eq_true rfl) rfl rfl ?_
      refine w_iload_n (i := 1) (n' := 64) dX4_readsItem_63 rfl rfl rfl ?_
      refine s_E (n' := 67) dX4_readsItem_64 rfl lRX4_55 okX4_wordOfWeather stX4_wordOfWeather ⟨⟨Nat.le_of_ble_eq_true rfl, Nat.le_of_ble_eq_true rfl⟩, Nat.le_of_ble_eq_true rfl, Nat.le_of_ble_eq_true rfl⟩ (c_wordOfWeather i hlt _) rfl rfl (Nat.le_of_ble_eq_true rfl) ?_
      refine v_E (ci := 3) (n' := 70) dX4_readsItem_67 rfl lRX4_42 okX3_isWord voX3_isWord ⟨⟨Nat.le_of_ble_eq_true rfl, Nat.le_of_ble_eq_true rfl⟩, Nat.le_of_ble_eq_true rfl, Nat.le_of_ble_eq_true rfl⟩ (c3_isWord (i := 9 + i) h.tk hT2 hf (h.R hB) (by omega)) rfl rfl (Nat.le_of_ble_eq_true rfl) rfl (Nat.le_of_ble_eq_true rfl) rfl ?_
      rw [h.B]
      refine w_if_eq (n' := 73) (tgt := 79) dX4_readsItem_70 rfl rfl (fun h70 => ?_) (fun h70 => ?_)
      · have hw := bB_0.mp h70
        refine w_iinc (n' := 82) (v := nI (i + 1)) (ls' := [_, _]) dX4_readsItem_79 rfl rfl (nI_1 i) (Nat.le_of_ble_eq_true rfl) rfl rfl ?_
        refine w_goto (tgt := 54) dX4_readsItem_82 rfl ?_
        exact ih hlt () (fun z hz => by
          rcases Nat.lt_or_ge z i with q | q
          · exact h1 z q
          · rw [show z = i by omega]; exact hw)
      · have hw := bB_n.mp h70
        have hI : itmP (BT m0 T) T n f r = wthP (BT m0 T) T i f r := by rw [itm_n hk]; exact wea_at _ (fun a => wthP (BT m0 T) T a f r) _ i hlt h1 hw
        refine w_aload_n (i := 0) (n' := 74) dX4_readsItem_73 rfl rfl rfl ?_
        refine w_iload_n (i := 1) (n' := 75) dX4_readsItem_74 rfl rfl rfl ?_
        refine v_I (ci := 4) (n' := 78) dX4_readsItem_75 rfl lRX4_58 okX4_readsWeather voX4_readsWeather ⟨⟨Nat.le_of_ble_eq_true rfl, Nat.le_of_ble_eq_true rfl⟩, Nat.le_of_ble_eq_true rfl, Nat.le_of_ble_eq_true rfl⟩ (c4_weather h hT2 hB hf hlt) rfl rfl (Nat.le_of_ble_eq_true rfl) rfl (Nat.le_of_ble_eq_true rfl) rfl (fun x75 m75 q75 => ?_)
        obtain ⟨rfl, h2⟩ := q75
        exact w_zret dX4_readsItem_78 rfl (z_nar (bB_01 _)) ⟨_, rfl, by rw [hI]; exact ⟨rfl, n, h2⟩⟩
  exact L 0 () (by omega) (fun z hz => absurd hz (by omega))
set_option maxHeartbeats 4000000 in
theorem c4_item {m0 : Mem} {T f n : Nat} {r : Nat → Int32} {mem : Mem} (h : CS m0 T f n r mem) (hT2 : T ≤ 120) (hB : BR m0 T) (hf : f ≤ T) : CnI mX4_readsItem [.ref 39] mem (fun x m' => x = bB (itmP (BT m0 T) T n f r).1 ∧ ∃ n', CS m0 T (itmP (BT m0 T) T n f r).2.1 n' (itmP (BT m0 T) T n f r).2.2 m') := by
  have h8 := h.1.2.2.1
  refine Cn.of (ls := [some (.ref 39), none]) (by decide) rfl (Nat.le_of_ble_eq_true rfl) ?_
  refine w_iconst (v := 0) (n' := 1) dX4_readsItem_0 rfl rfl ?_
  refine w_istore_n (i := 1) (n' := 2) (ls' := [_, _]) dX4_readsItem_1 rfl rfl (Nat.le_of_ble_eq_true rfl) rfl rfl ?_
  have L : ∀ (i : Nat) (u : Unit), i ≤ 7 → (∀ z, z < i → wP (BT m0 T) T f (strB.getD z []) = false) → Wm mX4_readsItem (zM mX4_readsItem (fun rZ mZ => ∃ xZ, rZ = some (.int xZ) ∧ (fun x m' => x = bB (itmP (BT m0 T) T n f r).1 ∧ ∃ n', CS m0 T (itmP (BT m0 T) T n f r).2.1 n' (itmP (BT m0 T) T n f r).2.2 m') xZ mZ)) 2 [some (.ref 39), some (.int (nI i))] [] mem := by
    refine for_ind 7 ?_
    intro i u hi h1 ih
    refine w_iload_n (i := 1) (n' := 3) dX4_readsItem_2 rfl rfl rfl ?_
    refine w_bipush (v := 7) (n' := 5) dX4_readsItem_3 rfl (by decide) ?_
    refine w_icmp_ge (n' := 8) (tgt := 52) dX4_readsItem_5 rfl rfl (fun h5 => ?_) (fun h5 => ?_)
    · have hge : 7 ≤ i := by
        rcases Nat.lt_or_ge i 7 with q | q
        · exact absurd h5 (nI_ge (a := i) (b := 7) q (by omega))
        · exact q
      refine w_iconst (v := 0) (n' := 53) dX4_readsItem_52 rfl rfl ?_
      refine w_istore_n (i := 1) (n' := 54) (ls' := [_, _]) dX4_readsItem_53 rfl rfl (Nat.le_of_ble_eq_true rfl) rfl rfl ?_
      exact ri_54 h hT2 hB hf (kdI_no _ (fun z hz => h1 z (by omega)))
    · have hlt : i < 7 := by
        rcases Nat.lt_or_ge i 7 with q | q
        · exact q
        · exact absurd (nI_le (a := 7) (b := i) q (by omega)) h5
      refine w_aload_n (i := 0) (n' := 9) dX4_readsItem_8 rfl rfl rfl ?_
      refine w_get (ci := 4) (j := 0) (n' := 12) dX4_readsItem_9 rfl fRX4_9 (Nat.le_of_ble_eq_true rfl) (Nat.le_of_ble_eq_true rfl) rfl rfl ?_
      refine w_iload_n (i := 1) (n' := 13) dX4_readsItem_12 rfl rfl rfl ?_
      refine s_E (n' := 16) dX4_readsItem_13 rfl lRX4_38 okX4_wordOfKind stX4_wordOfKind ⟨⟨Nat.le_of_ble_eq_true rfl, Nat.le_of_ble_eq_true rfl⟩, Nat.le_of_ble_eq_true rfl, Nat.le_of_ble_eq_true rfl⟩ (c_wordOfKind i hlt _) rfl rfl (Nat.le_of_ble_eq_true rfl) ?_
      refine v_E (ci := 3) (n' := 19) dX4_readsItem_16 rfl lRX4_42 okX3_isWord voX3_isWord ⟨⟨Nat.le_of_ble_eq_true rfl, Nat.le_of_ble_eq_true rfl⟩, Nat.le_of_ble_eq_true rfl, Nat.le_of_ble_eq_true rfl⟩ (c3_isWord (i := i) h.tk hT2 hf (h.R hB) (by omega)) rfl rfl (Nat.le_of_ble_eq_true rfl) rfl (Nat.le_of_ble_eq_true rfl) rfl ?_
      rw [h.B]
      refine w_if_eq (n' := 22) (tgt := 46) dX4_readsItem_19 rfl rfl (fun h19 => ?_) (fun h19 => ?_)
      · have hw := bB_0.mp h19
        refine w_iinc (n' := 49) (v := nI (i + 1)) (ls' := [_, _]) dX4_readsItem_46 rfl rfl (nI_1 i) (Nat.le_of_ble_eq_true rfl) rfl rfl ?_
        refine w_goto (tgt := 2) dX4_readsItem_49 rfl ?_
        exact ih hlt () (fun z hz => by
          rcases Nat.lt_or_ge z i with q | q
          · exact h1 z q
          · rw [show z = i by omega]; exact hw)
      · have hw := bB_n.mp h19
        have hI := itm_k (n := n) (r := r) (kdI_at _ i hlt h1 hw) hlt
        refine w_aload_n (i := 0) (n' := 23) dX4_readsItem_22 rfl rfl rfl ?_
        refine w_get (ci := 4) (j := 1) (n' := 26) dX4_readsItem_23 rfl fRX4_15 (Nat.le_of_ble_eq_true rfl) (Nat.le_of_ble_eq_true rfl) rfl rfl ?_
        refine v_E (ci := 1) (n' := 29) dX4_readsItem_26 rfl lRX4_46 okX1_isFull voX1_isFull ⟨⟨Nat.le_of_ble_eq_true rfl, Nat.le_of_ble_eq_true rfl⟩, Nat.le_of_ble_eq_true rfl, Nat.le_of_ble_eq_true rfl⟩ (c_isFull (k := 25) rfl _) rfl rfl (Nat.le_of_ble_eq_true rfl) rfl (Nat.le_of_ble_eq_true rfl) rfl ?_
        rw [h.1.2.1]
        refine w_if_ne (n' := 32) (tgt := 44) dX4_readsItem_29 rfl rfl (fun h29 => ?_) (fun h29 => ?_)
        · have hfull : n = 8 := by
            rcases Nat.lt_or_ge n 8 with q | q
            · rw [if_pos (show nI n < (8 : Int32) from nI_lt (a := n) (b := 8) q (by omega))] at h29
              exact absurd rfl h29
            · omega
          refine w_iconst (v := 0) (n' := 45) dX4_readsItem_44 rfl rfl ?_
          exact w_zret dX4_readsItem_45 rfl rfl ⟨_, rfl, by rw [hI, hfull, frm_8]; exact ⟨rfl, n, h⟩⟩
        · have hn8 : n < 8 := by
            rcases Nat.lt_or_ge n 8 with q | q
            · exact q
            · rw [if_neg (show ¬ nI n < (8 : Int32) from nI_nlt (a := n) (b := 8) q (by omega))] at h29
              exact absurd h29 (by decide)
          refine w_aload_n (i := 0) (n' := 33) dX4_readsItem_32 rfl rfl rfl ?_
          refine w_iload_n (i := 1) (n' := 34) dX4_readsItem_33 rfl rfl rfl ?_
          refine v_I (ci := 4) (n' := 37) dX4_readsItem_34 rfl lRX4_51 okX4_readsFarm voX4_readsFarm ⟨⟨Nat.le_of_ble_eq_true rfl, Nat.le_of_ble_eq_true rfl⟩, Nat.le_of_ble_eq_true rfl, Nat.le_of_ble_eq_true rfl⟩ (c4_farm h hT2 hB hf hn8 _) rfl rfl (Nat.le_of_ble_eq_true rfl) rfl (Nat.le_of_ble_eq_true rfl) rfl (fun x34 m34 q34 => ?_)
          obtain ⟨rfl, n2, h2⟩ := q34
          refine w_if_eq (n' := 40) (tgt := 44) dX4_readsItem_37 rfl rfl (fun h37 => ?_) (fun h37 => ?_)
          · have ha := bB_0.mp h37
            refine w_iconst (v := 0) (n' := 45) dX4_readsItem_44 rfl rfl ?_
            exact w_zret dX4_readsItem_45 rfl rfl ⟨_, rfl, by rw [hI]; exact ⟨by rw [ha]; rfl, n2, h2⟩⟩
          · have ha := bB_n.mp h37
            refine w_iconst (v := 1) (n' := 41) dX4_readsItem_40 rfl rfl ?_
            refine w_goto (tgt := 45) dX4_readsItem_41 rfl ?_
            exact w_zret dX4_readsItem_45 rfl rfl ⟨_, rfl, by rw [hI]; exact ⟨by rw [ha]; rfl, n2, h2⟩⟩
  exact L 0 () (by omega) (fun z hz => absurd hz (by omega))
theorem wP_T {m : Mem} {T : Nat} (ws : List Int32) : wP (BT m T) T T ws = false := by rw [wP, lexK_T m (Nat.le_refl T)]; rfl
theorem itm_T {m : Mem} {T n : Nat} (r : Nat → Int32) : itmP (BT m T) T n T r = (false, T, r) := by
  rw [itm_n (kdI_no _ (fun z _ => wP_T _)), wea_no _ _ _ _ _ (fun z _ => wP_T _)]
theorem txt_f {B : Nat → Int32} {T k it : Nat} {q : RT} (h : q.1 = false) : txtP B T k it q = (it, q) := by
  cases k with
  | zero => rfl
  | succ k => rw [txtP, if_neg (fun c => by rw [h] at c; exact absurd c.1 (by decide))]
set_option maxHeartbeats 4000000 in
theorem rs_9 {m0 : Mem} {T : Nat} (hT2 : T ≤ 120) (hB : BR m0 T) (R : Nat × RT) (Post : Option Value → Mem → Prop) (hP : ∀ n f s, ∀ {it : Nat} {b : Bool} {r : Nat → Int32} {x : Int32}, CS m0 T f n r s → R = (it, (b, f, r)) → x = txX (BT m0 T) (it, (b, f, r)) → Post (some (.int x)) s) : ∀ (k it f n : Nat) (r : Nat → Int32) (s : Mem), T < f + k → f ≤ T → it ≤ f + 1 → CS m0 T f n r s → txtP (BT m0 T) T k it (itmQ (BT m0 T) T f r) = R → Wm mX4_readItems (zM mX4_readItems Post) 9 [some (.ref 39), some (.int (nI it))] [] s := by
  intro k
  induction k with
  | zero => intro it f n r s h1 h2; omega
  | succ k ih =>
    intro it f n r s hk hf hit0 h hx
    have hn8 := h.1.2.2.1
    refine w_iload_n (i := 1) (n' := 10) dX4_readItems_9 rfl rfl rfl ?_
    refine w_bipush (v := 120) (n' := 12) dX4_readItems_10 rfl (by decide) ?_
    refine w_icmp_gt (n' := 15) (tgt := 65) dX4_readItems_12 rfl rfl (fun h12 => ?_) (fun h12 => ?_)
    · have hit : it = f + 1 ∧ f = T := by
        rcases Nat.lt_or_ge 120 it with q | q
        · omega
        · exact absurd h12 (nI_nlt (a := 120) (b := it) q (by omega))
      have hI : itmQ (BT m0 T) T f r = (false, f, r) := by rw [itmQ_eq _ _ _ hn8 h.1.1, hit.2]; exact itm_T r
      have hR : R = (it, (false, f, r)) := by rw [← hx, hI]; exact txt_f rfl
      refine w_iconst (v := -1) (n' := 66) dX4_readItems_65 rfl rfl ?_
      refine w_aload_n (i := 0) (n' := 67) dX4_readItems_66 rfl rfl rfl ?_
      refine w_get (ci := 4) (j := 0) (n' := 70) dX4_readItems_67 rfl fRX4_9 (Nat.le_of_ble_eq_true rfl) (Nat.le_of_ble_eq_true rfl) rfl rfl ?_
      refine w_get (ci := 3) (j := 2) (n' := 73) dX4_readItems_70 rfl fRX4_35 (Nat.le_of_ble_eq_true rfl) (Nat.le_of_ble_eq_true rfl) rfl rfl ?_
      rw [h.tk.2.1]
      refine w_isub (n' := 74) dX4_readItems_73 rfl ?_
      exact w_iret dX4_readItems_74 rfl (hP _ _ _ h hR (by rw [txX, txG]; rfl))
    · refine w_aload_n (i := 0) (n' := 16) dX4_readItems_15 rfl rfl rfl ?_
      refine v_I (ci := 4) (n' := 19) dX4_readItems_16 rfl lRX4_24 okX4_readsItem voX4_readsItem ⟨⟨Nat.le_of_ble_eq_true rfl, Nat.le_of_ble_eq_true rfl⟩, Nat.le_of_ble_eq_true rfl, Nat.le_of_ble_eq_true rfl⟩ (c4_item h hT2 hB hf) rfl rfl (Nat.le_of_ble_eq_true rfl) rfl (Nat.le_of_ble_eq_true rfl) rfl (fun x16 m16 q16 => ?_)
      obtain ⟨rfl, n2, h2⟩ := q16
      rw [← itmQ_eq _ _ _ hn8 h.1.1] at h2
      rw [← itmQ_eq _ _ _ hn8 h.1.1]
      have hqf := (itm_le (m := m0) hf n r)
      rw [← itmQ_eq _ _ _ hn8 h.1.1] at hqf
      obtain ⟨q, hq⟩ : ∃ q, q = itmQ (BT m0 T) T f r := ⟨_, rfl⟩
      rw [← hq] at h2 hqf hx ⊢
      refine w_if_ne (n' := 22) (tgt := 25) dX4_readItems_19 rfl rfl (fun h19 => ?_) (fun h19 => ?_)
      · have hg := bB_n.mp h19
        refine w_aload_n (i := 0) (n' := 26) dX4_readItems_25 rfl rfl rfl ?_
        refine w_get (ci := 4) (j := 0) (n' := 29) dX4_readItems_26 rfl fRX4_9 (Nat.le_of_ble_eq_true rfl) (Nat.le_of_ble_eq_true rfl) rfl rfl ?_
        refine w_get (ci := 3) (j := 4) (n' := 32) dX4_readItems_29 rfl fRX4_28 (Nat.le_of_ble_eq_true rfl) (Nat.le_of_ble_eq_true rfl) rfl rfl ?_
        rw [h2.tk.2.2.2.1, h2.B]
        refine w_iconst (v := 5) (n' := 33) dX4_readItems_32 rfl rfl ?_
        refine w_icmp_ne (n' := 36) (tgt := 38) dX4_readItems_33 rfl rfl (fun h33 => ?_) (fun h33 => ?_)
        · have hk0 : ¬ lexK (BT m0 T q.2.1) = 0 := fun c => h33 ((srt_x _).1.mpr c)
          refine w_aload_n (i := 0) (n' := 39) dX4_readItems_38 rfl rfl rfl ?_
          refine w_get (ci := 4) (j := 0) (n' := 42) dX4_readItems_39 rfl fRX4_9 (Nat.le_of_ble_eq_true rfl) (Nat.le_of_ble_eq_true rfl) rfl rfl ?_
          refine w_get (ci := 3) (j := 4) (n' := 45) dX4_readItems_42 rfl fRX4_28 (Nat.le_of_ble_eq_true rfl) (Nat.le_of_ble_eq_true rfl) rfl rfl ?_
          rw [h2.tk.2.2.2.1, h2.B]
          refine w_iconst (v := 2) (n' := 46) dX4_readItems_45 rfl rfl ?_
          refine w_icmp_eq (n' := 49) (tgt := 52) dX4_readItems_46 rfl rfl (fun h46 => ?_) (fun h46 => ?_)
          · have hk3 := (srt_x _).2.1.mp h46
            have hgt := nxF_gt (m := m0) hqf.2 hk3
            have hge := nxF_le (m := m0) hqf.2
            refine w_aload_n (i := 0) (n' := 53) dX4_readItems_52 rfl rfl rfl ?_
            refine w_get (ci := 4) (j := 0) (n' := 56) dX4_readItems_53 rfl fRX4_9 (Nat.le_of_ble_eq_true rfl) (Nat.le_of_ble_eq_true rfl) rfl rfl ?_
            refine v_E (ci := 3) (n' := 59) dX4_readItems_56 rfl lRX4_32 okX3_advance voX3_advance ⟨⟨Nat.le_of_ble_eq_true rfl, Nat.le_of_ble_eq_true rfl⟩, Nat.le_of_ble_eq_true rfl, Nat.le_of_ble_eq_true rfl⟩ (c4_adv h2 hT2 hB hqf.2) rfl rfl (Nat.le_of_ble_eq_true rfl) rfl (Nat.le_of_ble_eq_true rfl) rfl ?_
            refine w_iinc (n' := 62) (v := nI (it + 1)) (ls' := [_, _]) dX4_readItems_59 rfl rfl (nI_1 it) (Nat.le_of_ble_eq_true rfl) rfl rfl ?_
            refine w_goto (tgt := 9) dX4_readItems_62 rfl ?_
            exact ih (it + 1) _ _ _ _ (by omega) hge.2 (by omega) (h2.adv _) (by rw [← hx, txtP, if_pos ⟨hg, hk3⟩])
          · have hk3 : ¬ lexK (BT m0 T q.2.1) = 3 := fun c => h46 ((srt_x _).2.1.mpr c)
            have hR : R = (it, q) := by rw [← hx, txtP, if_neg (fun c => hk3 c.2)]
            refine w_goto (tgt := 65) dX4_readItems_49 rfl ?_
            refine w_iconst (v := -1) (n' := 66) dX4_readItems_65 rfl rfl ?_
            refine w_aload_n (i := 0) (n' := 67) dX4_readItems_66 rfl rfl rfl ?_
            refine w_get (ci := 4) (j := 0) (n' := 70) dX4_readItems_67 rfl fRX4_9 (Nat.le_of_ble_eq_true rfl) (Nat.le_of_ble_eq_true rfl) rfl rfl ?_
            refine w_get (ci := 3) (j := 2) (n' := 73) dX4_readItems_70 rfl fRX4_35 (Nat.le_of_ble_eq_true rfl) (Nat.le_of_ble_eq_true rfl) rfl rfl ?_
            rw [h2.tk.2.1]
            refine w_isub (n' := 74) dX4_readItems_73 rfl ?_
            exact w_iret dX4_readItems_74 rfl (hP _ _ _ h2 hR (by rw [txX, txG, decide_eq_false hk0, Bool.and_false]; rfl))
        · have hk0 := (srt_x _).1.mp h33
          have hR : R = (it, q) := by rw [← hx, txtP, if_neg (fun c => by rw [hk0] at c; exact absurd c.2 (by decide))]
          refine w_iload_n (i := 1) (n' := 37) dX4_readItems_36 rfl rfl rfl ?_
          exact w_iret dX4_readItems_37 rfl (hP _ _ _ h2 hR (by rw [txX, txG, hg, decide_eq_true hk0]; rfl))
      · have hg := bB_0.mp h19
        have hR : R = (it, q) := by rw [← hx]; exact txt_f hg
        refine w_goto (tgt := 65) dX4_readItems_22 rfl ?_
        refine w_iconst (v := -1) (n' := 66) dX4_readItems_65 rfl rfl ?_
        refine w_aload_n (i := 0) (n' := 67) dX4_readItems_66 rfl rfl rfl ?_
        refine w_get (ci := 4) (j := 0) (n' := 70) dX4_readItems_67 rfl fRX4_9 (Nat.le_of_ble_eq_true rfl) (Nat.le_of_ble_eq_true rfl) rfl rfl ?_
        refine w_get (ci := 3) (j := 2) (n' := 73) dX4_readItems_70 rfl fRX4_35 (Nat.le_of_ble_eq_true rfl) (Nat.le_of_ble_eq_true rfl) rfl rfl ?_
        rw [h2.tk.2.1]
        refine w_isub (n' := 74) dX4_readItems_73 rfl ?_
        exact w_iret dX4_readItems_74 rfl (hP _ _ _ h2 hR (by rw [txX, txG, hg]; rfl))
set_option maxHeartbeats 4000000 in
theorem c4_items {m0 : Mem} {T n : Nat} {r : Nat → Int32} {mem : Mem} (hT2 : T ≤ 120) (hB : BR m0 T) (h1 : PR mem 25 n r) (h2 : mem 25 4 = r 1) (h3 : CaOK mem) (hT : mem 37 1 = nI T) (h4 : ∀ a, (a < 25 ∨ 38 ≤ a) → mem a = m0 a) : CnI mX4_readItems [.ref 39] mem (fun x m' => x = txX (BT m0 T) (txtP (BT m0 T) T (T + 1) 1 (itmQ (BT m0 T) T (lexF (BT m0 T) T 0) r)) ∧ ∃ n', CS m0 T (txtP (BT m0 T) T (T + 1) 1 (itmQ (BT m0 T) T (lexF (BT m0 T) T 0) r)).2.2.1 n' (txtP (BT m0 T) T (T + 1) 1 (itmQ (BT m0 T) T (lexF (BT m0 T) T 0) r)).2.2.2 m') := by
  have e56 : BT mem T = BT m0 T := BT_of (h4 56 (by omega))
  have eR : BR mem T := fun j hj => by rw [h4 56 (by omega), h4 38 (by omega)]; exact hB j hj
  have o : ∀ a, a ≠ 37 → clM mem T (lexF (BT mem T) T 0) a = mem a := fun a ha => ct_o _ _ _ _ _ ha
  have hf := (lexF_le (BT m0 T) (Nat.zero_le T)).2
  have hS : CS m0 T (lexF (BT m0 T) T 0) n r (clM mem T (lexF (BT mem T) T 0)) := by
    refine ⟨h1.congr (by rw [o _ (by decide)]) (by rw [o _ (by decide)]) (fun j _ => by rw [o _ (by decide)]) (fun i j hi _ => by rw [o _ (by have := h1.2.2.1; omega)]) (fun j _ => by rw [o _ (by decide)]), by rw [o _ (by decide)]; exact h2, upR_Ca (by decide) h3, by rw [e56]; exact TK_cl hT, fun a ha => by rw [o _ (by omega)]; exact h4 a ha⟩
  refine Cn.of (ls := [some (.ref 39), none]) (by decide) rfl (Nat.le_of_ble_eq_true rfl) ?_
  refine w_aload_n (i := 0) (n' := 1) dX4_readItems_0 rfl rfl rfl ?_
  refine w_get (ci := 4) (j := 0) (n' := 4) dX4_readItems_1 rfl fRX4_9 (Nat.le_of_ble_eq_true rfl) (Nat.le_of_ble_eq_true rfl) rfl rfl ?_
  refine v_E (ci := 3) (n' := 7) dX4_readItems_4 rfl lRX4_19 okX3_lookFromBegin voX3_lookFromBegin ⟨⟨Nat.le_of_ble_eq_true rfl, Nat.le_of_ble_eq_true rfl⟩, Nat.le_of_ble_eq_true rfl, Nat.le_of_ble_eq_true rfl⟩ (c3_look hT hT2 eR) rfl rfl (Nat.le_of_ble_eq_true rfl) rfl (Nat.le_of_ble_eq_true rfl) rfl ?_
  refine w_iconst (v := 1) (n' := 8) dX4_readItems_7 rfl rfl ?_
  refine w_istore_n (i := 1) (n' := 9) (ls' := [_, _]) dX4_readItems_8 rfl rfl (Nat.le_of_ble_eq_true rfl) rfl rfl ?_
  refine rs_9 hT2 hB _ _ ?_ (T + 1) 1 (lexF (BT m0 T) T 0) n r _ (by omega) hf (by omega) hS rfl
  intro n2 f s it b r2 x hC hR hx
  exact ⟨x, rfl, by rw [hR]; exact hx, n2, by rw [hR]; exact hC⟩
