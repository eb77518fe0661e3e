/-! opinions that fit a sheet; spots; feeding -/
def fitM (m : Mem) (n r : Nat) (v : Int32) (y : Nat) : Mem := yrs (up2 (becMem m 25 1 n) (28 + r) 3 v) 25 n y
def fitOK (m : Mem) (n r : Nat) (v : Int32) (c : Nat) (y : Nat) : Prop := m c y = 9999 ∨ m c y = leanM (fitM m n r v y) 25 n
theorem kT_r {r : Nat} (h : r < 8) : kd (28 + r) = 0 := (kPa (k := 25) rfl).2.2.1 r h
theorem fitM_0 {m : Mem} {n r : Nat} {v : Int32} (h : PO m 1 n) (hr : r < n) : Same (fitM m n r v 0) (up2 (becMem m 25 1 n) (28 + r) 3 v) := by
  have := sto_Same (M := becMem m 25 1 n) (s := becMem m 25 1 n) (c := 28 + r) (j := 3) (v := v) (isCa_j (by decide)) (fun _ => by decide) (Agr.rf (PO_bec (k := 25) rfl h (by decide)).2.2.2.2)
  exact ⟨rfl, this.2⟩
theorem fitM_PO {m : Mem} {n r : Nat} {v : Int32} (h : PO m 1 n) (hr : r < n) (y : Nat) : PO (fitM m n r v y) 25 n := by
  refine PO_yrs ?_ y
  refine PO_of (PO_bec (k := 25) rfl h (by decide)) ?_ ?_ (fitM_0 h hr).2
  · rw [up2_ne _ _ _ (by omega)]
  · rw [up2_ne _ _ _ (by omega)]
theorem fitM_QS {m m' : Mem} {n r y : Nat} {v : Int32} (h : PO m 1 n) (hr : r < n) (h2 : Same (fitM m n r v y) m') : QS m m' := by
  have h8 := h.2.2.1
  refine QS.of h2 (fun a ha => ?_)
  unfold fitM
  rw [yrs_o _ (by omega) h8, up2_ne _ _ _ (by omega), bec_o _ (by omega) h8]
set_option maxHeartbeats 4000000 in
theorem c_opinionFits {n r q z : Nat} {mem : Mem} (h : PO mem 1 n) (hr : r < n) (hq : q < 4) (hz1 : z ≤ 40) (hz : mem (40 + 1 + 2 * q) 2 = nI z) (v : Int32) : CnI mX5_opinionFits [.ref 0, .ref (40 + 1 + 2 * q), .int (nI r), .int v] mem (fun x m' => QS mem m' ∧ ((x = 1 ∧ ∀ y, y < z → fitOK mem n r v (40 + 1 + 2 * q + 1) y) ∨ (x = 0 ∧ ∃ y, y < z ∧ ¬ fitOK mem n r v (40 + 1 + 2 * q + 1) y))) := by
  have h8 := h.2.2.1
  refine Cn.of (ls := [some (.ref 0), some (.ref (40 + 1 + 2 * q)), some (.int (nI r)), some (.int v), none, none]) (by decide) rfl (Nat.le_of_ble_eq_true rfl) ?_
  refine w_aload_n (i := 0) (n' := 1) dX5_opinionFits_0 rfl rfl rfl ?_
  refine w_get (ci := 5) (j := 2) (n' := 4) dX5_opinionFits_1 rfl fRX5_19 (Nat.le_of_ble_eq_true rfl) (Nat.le_of_ble_eq_true rfl) rfl rfl ?_
  refine w_aload_n (i := 0) (n' := 5) dX5_opinionFits_4 rfl rfl rfl ?_
  refine w_get (ci := 5) (j := 0) (n' := 8) dX5_opinionFits_5 rfl fRX5_10 (Nat.le_of_ble_eq_true rfl) (Nat.le_of_ble_eq_true rfl) rfl rfl ?_
  refine v_E (ci := 1) (n' := 11) dX5_opinionFits_8 rfl lRX5_151 okX1_becomes voX1_becomes ⟨⟨Nat.le_of_ble_eq_true rfl, Nat.le_of_ble_eq_true rfl⟩, Nat.le_of_ble_eq_true rfl, Nat.le_of_ble_eq_true rfl⟩ (c_becomes (k := 25) rfl h.N (by decide)) rfl rfl (Nat.le_of_ble_eq_true rfl) rfl (Nat.le_of_ble_eq_true rfl) rfl ?_
  refine w_aload_n (i := 0) (n' := 12) dX5_opinionFits_11 rfl rfl rfl ?_
  refine w_get (ci := 5) (j := 2) (n' := 15) dX5_opinionFits_12 rfl fRX5_19 (Nat.le_of_ble_eq_true rfl) (Nat.le_of_ble_eq_true rfl) rfl rfl ?_
  refine w_get (ci := 1) (j := 1) (n' := 18) dX5_opinionFits_15 rfl fRX5_82 (Nat.le_of_ble_eq_true rfl) (Nat.le_of_ble_eq_true rfl) rfl rfl ?_
  refine w_iload_n (i := 2) (n' := 19) dX5_opinionFits_18 rfl rfl rfl ?_
  refine w_aaldF (n := r) (n' := 20) dX5_opinionFits_19 rfl rfl rfl (show r < 8 by omega) ?_
  refine w_iload_n (i := 3) (n' := 21) dX5_opinionFits_20 rfl rfl rfl ?_
  refine w_put (ci := 0) (j := 3) (n' := 24) dX5_opinionFits_21 rfl fRX5_187 (Nat.le_of_ble_eq_true rfl) (Nat.le_of_ble_eq_true rfl) rfl rfl (show kd (28 + r) = 0 from kT_r (by omega)) rfl ?_
  show Wm _ _ 24 _ _ (up2 (becMem mem 25 1 n) (28 + r) 3 v)
  refine w_iconst (v := 0) (n' := 25) dX5_opinionFits_24 rfl rfl ?_
  refine w_istore (n' := 27) (ls' := [_, _, _, _, _, _]) dX5_opinionFits_25 rfl (Nat.le_of_ble_eq_true rfl) rfl rfl ?_
  have L : ∀ (i : Nat) (s : Option Value × Mem), i ≤ z → (Same (fitM mem n r v (i - 1)) s.2 ∧ ∀ y, y < i → fitOK mem n r v (40 + 1 + 2 * q + 1) y) → Wm mX5_opinionFits (zM mX5_opinionFits (fun rZ mZ => ∃ xZ, rZ = some (.int xZ) ∧ (fun x m' => QS mem m' ∧ ((x = 1 ∧ ∀ y, y < z → fitOK mem n r v (40 + 1 + 2 * q + 1) y) ∨ (x = 0 ∧ ∃ y, y < z ∧ ¬ fitOK mem n r v (40 + 1 + 2 * q + 1) y))) xZ mZ)) 27 [some (.ref 0), some (.ref (40 + 1 + 2 * q)), some (.int (nI r)), some (.int v), some (.int (nI i)), s.1] [] s.2 := by
    refine for_ind z ?_
    rintro i ⟨lx, s⟩ hi ⟨h1, h2⟩ ih
    dsimp only at h1 h2 ih ⊢
    have hp := h1.PO (fitM_PO h hr (i - 1))
    have hQ := fitM_QS h hr h1
    have hN0 : s (40 + 1 + 2 * q) = mem (40 + 1 + 2 * q) := (hQ.2 _ (by omega)).2 (by rw [kS4 q (by omega)]; decide)
    refine w_iload (n' := 29) dX5_opinionFits_27 rfl rfl ?_
    refine w_aload_n (i := 1) (n' := 30) dX5_opinionFits_29 rfl rfl rfl ?_
    refine w_get (ci := 2) (j := 2) (n' := 33) dX5_opinionFits_30 rfl fRX5_214 (Nat.le_of_ble_eq_true rfl) (Nat.le_of_ble_eq_true rfl) (kS4 q (by omega)) rfl ?_
    refine w_icmp_ge (n' := 36) (tgt := 85) dX5_opinionFits_33 rfl rfl (fun h33 => ?_) (fun h33 => ?_)
    · have hin : i = z := by
        rcases Nat.lt_or_ge i z with c | c
        · exact absurd h33 (by rw [hN0, hz]; exact nI_ge (b := z) c (by omega))
        · omega
      refine w_iconst (v := 1) (n' := 86) dX5_opinionFits_85 rfl rfl ?_
      exact w_zret dX5_opinionFits_86 rfl rfl ⟨_, rfl, hQ, Or.inl ⟨rfl, by rw [← hin]; exact h2⟩⟩
    · have hlt : i < z := by
        rcases Nat.lt_or_ge i z with c | c
        · exact c
        · exact absurd (by rw [hN0, hz]; exact nI_le (a := z) c (by omega)) h33
      refine w_iload (n' := 38) dX5_opinionFits_36 rfl rfl ?_
      refine w_if_le (n' := 41) (tgt := 48) dX5_opinionFits_38 rfl rfl (fun h38 => ?_) (fun h38 => ?_)
      · have i0 : i = 0 := by
          rcases Nat.eq_zero_or_pos i with c | c
          · exact c
          · exact absurd h38 (nI_nle c (by omega))
        have sY : Same (fitM mem n r v i) s := by rw [i0]; rw [i0] at h1; exact h1
        obtain ⟨sC, hsC⟩ : ∃ w, w = s := ⟨_, rfl⟩
        rw [← hsC] at sY ⊢
        have hNy : sC (40 + 1 + 2 * q + 1) i = mem (40 + 1 + 2 * q + 1) i := by rw [((fitM_QS h hr sY).2 _ (by omega)).2 (by rw [(kSh (kS4 q (by omega))).1]; decide)]
        refine w_aload_n (i := 1) (n' := 49) dX5_opinionFits_48 rfl rfl rfl ?_
        refine w_get (ci := 2) (j := 0) (n' := 52) dX5_opinionFits_49 rfl fRX5_217 (Nat.le_of_ble_eq_true rfl) (Nat.le_of_ble_eq_true rfl) (kS4 q (by omega)) rfl ?_
        refine w_iload (n' := 54) dX5_opinionFits_52 rfl rfl ?_
        refine w_iald (n := i) (n' := 55) dX5_opinionFits_54 rfl (kSh (kS4 q (by omega))).1 rfl (by rw [(kSh (kS4 q (by omega))).2]; omega) ?_
        refine w_istore (n' := 57) (ls' := [_, _, _, _, _, _]) dX5_opinionFits_55 rfl (Nat.le_of_ble_eq_true rfl) rfl rfl ?_
        refine w_iload (n' := 59) dX5_opinionFits_57 rfl rfl ?_
        refine w_sipush (v := 9999) (n' := 62) dX5_opinionFits_59 rfl (by decide) ?_
        refine w_icmp_eq (n' := 65) (tgt := 79) dX5_opinionFits_62 rfl rfl (fun h62 => ?_) (fun h62 => ?_)
        · refine w_iinc (n' := 82) (v := nI (i + 1)) (ls' := [_, _, _, _, _, _]) dX5_opinionFits_79 rfl rfl (nI_1 i) (Nat.le_of_ble_eq_true rfl) rfl rfl ?_
          refine w_goto (tgt := 27) dX5_opinionFits_82 rfl ?_
          exact ih hlt (_, _) ⟨by rw [show i + 1 - 1 = i by omega]; exact sY, fun y hy => by
            rcases Nat.lt_or_ge y i with c | c
            · exact h2 y c
            · rw [show y = i by omega]; exact Or.inl (by rw [← hNy]; exact h62)⟩
        · refine w_iload (n' := 67) dX5_opinionFits_65 rfl rfl ?_
          refine w_aload_n (i := 0) (n' := 68) dX5_opinionFits_67 rfl rfl rfl ?_
          refine w_get (ci := 5) (j := 2) (n' := 71) dX5_opinionFits_68 rfl fRX5_19 (Nat.le_of_ble_eq_true rfl) (Nat.le_of_ble_eq_true rfl) rfl rfl ?_
          refine v_I (ci := 1) (n' := 74) dX5_opinionFits_71 rfl lRX5_122 okX1_leanNow voX1_leanNow ⟨⟨Nat.le_of_ble_eq_true rfl, Nat.le_of_ble_eq_true rfl⟩, Nat.le_of_ble_eq_true rfl, Nat.le_of_ble_eq_true rfl⟩ (c_leanNow (sY.PO (fitM_PO h hr i))) rfl rfl (Nat.le_of_ble_eq_true rfl) rfl (Nat.le_of_ble_eq_true rfl) rfl (fun x71 m71 q71 => ?_)
          refine w_icmp_eq (n' := 77) (tgt := 79) dX5_opinionFits_74 rfl rfl (fun h74 => ?_) (fun h74 => ?_)
          · refine w_iinc (n' := 82) (v := nI (i + 1)) (ls' := [_, _, _, _, _, _]) dX5_opinionFits_79 rfl rfl (nI_1 i) (Nat.le_of_ble_eq_true rfl) rfl rfl ?_
            refine w_goto (tgt := 27) dX5_opinionFits_82 rfl ?_
            exact ih hlt (_, _) ⟨by rw [show i + 1 - 1 = i by omega]; exact sY.tr q71.2, fun y hy => by
              rcases Nat.lt_or_ge y i with c | c
              · exact h2 y c
              · rw [show y = i by omega]; exact Or.inr (by rw [← hNy, h74, q71.1, sY.lean rfl])⟩
          · refine w_iconst (v := 0) (n' := 78) dX5_opinionFits_77 rfl rfl ?_
            exact w_zret dX5_opinionFits_78 rfl rfl ⟨_, rfl, fitM_QS h hr (sY.tr q71.2), Or.inr ⟨rfl, i, hlt, fun c => by
              rcases c with c | c
              · exact h62 (by rw [hNy]; exact c)
              · exact h74 (by rw [hNy, c, q71.1, sY.lean rfl])⟩⟩
      · have i0 : 0 < i := by
          rcases Nat.eq_zero_or_pos i with c | c
          · exact absurd (by rw [c]; decide) h38
          · exact c
        refine w_aload_n (i := 0) (n' := 42) dX5_opinionFits_41 rfl rfl rfl ?_
        refine w_get (ci := 5) (j := 2) (n' := 45) dX5_opinionFits_42 rfl fRX5_19 (Nat.le_of_ble_eq_true rfl) (Nat.le_of_ble_eq_true rfl) rfl rfl ?_
        refine v_V (ci := 1) (n' := 48) dX5_opinionFits_45 rfl lRX5_135 okX1_passYear voX1_passYear ⟨⟨Nat.le_of_ble_eq_true rfl, Nat.le_of_ble_eq_true rfl⟩, Nat.le_of_ble_eq_true rfl, Nat.le_of_ble_eq_true rfl⟩ (c_passYear hp) rfl rfl (Nat.le_of_ble_eq_true rfl) rfl (Nat.le_of_ble_eq_true rfl) rfl (fun m45 q45 => ?_)
        have sY : Same (fitM mem n r v i) m45 := by
          have := Same.year (k := 25) rfl h8 h1 q45.1 q45.2
          rw [show i = i - 1 + 1 by omega]
          exact this
        obtain ⟨sC, hsC⟩ : ∃ w, w = m45 := ⟨_, rfl⟩
        rw [← hsC] at sY ⊢
        have hNy : sC (40 + 1 + 2 * q + 1) i = mem (40 + 1 + 2 * q + 1) i := by rw [((fitM_QS h hr sY).2 _ (by omega)).2 (by rw [(kSh (kS4 q (by omega))).1]; decide)]
        refine w_aload_n (i := 1) (n' := 49) dX5_opinionFits_48 rfl rfl rfl ?_
        refine w_get (ci := 2) (j := 0) (n' := 52) dX5_opinionFits_49 rfl fRX5_217 (Nat.le_of_ble_eq_true rfl) (Nat.le_of_ble_eq_true rfl) (kS4 q (by omega)) rfl ?_
        refine w_iload (n' := 54) dX5_opinionFits_52 rfl rfl ?_
        refine w_iald (n := i) (n' := 55) dX5_opinionFits_54 rfl (kSh (kS4 q (by omega))).1 rfl (by rw [(kSh (kS4 q (by omega))).2]; omega) ?_
        refine w_istore (n' := 57) (ls' := [_, _, _, _, _, _]) dX5_opinionFits_55 rfl (Nat.le_of_ble_eq_true rfl) rfl rfl ?_
        refine w_iload (n' := 59) dX5_opinionFits_57 rfl rfl ?_
        refine w_sipush (v := 9999) (n' := 62) dX5_opinionFits_59 rfl (by decide) ?_
        refine w_icmp_eq (n' := 65) (tgt := 79) dX5_opinionFits_62 rfl rfl (fun h62 => ?_) (fun h62 => ?_)
        · refine w_iinc (n' := 82) (v := nI (i + 1)) (ls' := [_, _, _, _, _, _]) dX5_opinionFits_79 rfl rfl (nI_1 i) (Nat.le_of_ble_eq_true rfl) rfl rfl ?_
          refine w_goto (tgt := 27) dX5_opinionFits_82 rfl ?_
          exact ih hlt (_, _) ⟨by rw [show i + 1 - 1 = i by omega]; exact sY, fun y hy => by
            rcases Nat.lt_or_ge y i with c | c
            · exact h2 y c
            · rw [show y = i by omega]; exact Or.inl (by rw [← hNy]; exact h62)⟩
        · refine w_iload (n' := 67) dX5_opinionFits_65 rfl rfl ?_
          refine w_aload_n (i := 0) (n' := 68) dX5_opinionFits_67 rfl rfl rfl ?_
          refine w_get (ci := 5) (j := 2) (n' := 71) dX5_opinionFits_68 rfl fRX5_19 (Nat.le_of_ble_eq_true rfl) (Nat.le_of_ble_eq_true rfl) rfl rfl ?_
          refine v_I (ci := 1) (n' := 74) dX5_opinionFits_71 rfl lRX5_122 okX1_leanNow voX1_leanNow ⟨⟨Nat.le_of_ble_eq_true rfl, Nat.le_of_ble_eq_true rfl⟩, Nat.le_of_ble_eq_true rfl, Nat.le_of_ble_eq_true rfl⟩ (c_leanNow (sY.PO (fitM_PO h hr i))) rfl rfl (Nat.le_of_ble_eq_true rfl) rfl (Nat.le_of_ble_eq_true rfl) rfl (fun x71 m71 q71 => ?_)
          refine w_icmp_eq (n' := 77) (tgt := 79) dX5_opinionFits_74 rfl rfl (fun h74 => ?_) (fun h74 => ?_)
          · refine w_iinc (n' := 82) (v := nI (i + 1)) (ls' := [_, _, _, _, _, _]) dX5_opinionFits_79 rfl rfl (nI_1 i) (Nat.le_of_ble_eq_true rfl) rfl rfl ?_
            refine w_goto (tgt := 27) dX5_opinionFits_82 rfl ?_
            exact ih hlt (_, _) ⟨by rw [show i + 1 - 1 = i by omega]; exact sY.tr q71.2, fun y hy => by
              rcases Nat.lt_or_ge y i with c | c
              · exact h2 y c
              · rw [show y = i by omega]; exact Or.inr (by rw [← hNy, h74, q71.1, sY.lean rfl])⟩
          · refine w_iconst (v := 0) (n' := 78) dX5_opinionFits_77 rfl rfl ?_
            exact w_zret dX5_opinionFits_78 rfl rfl ⟨_, rfl, fitM_QS h hr (sY.tr q71.2), Or.inr ⟨rfl, i, hlt, fun c => by
              rcases c with c | c
              · exact h62 (by rw [hNy]; exact c)
              · exact h74 (by rw [hNy, c, q71.1, sY.lean rfl])⟩⟩
  exact L 0 (_, _) (Nat.zero_le _) ⟨fitM_0 h hr, fun y hy => absurd hy (by omega)⟩
def opV (t : Nat) : Int32 := nI t - 9
theorem opV_1 : ∀ t, t < 20 → opV t + Int32.ofInt 1 = opV (t + 1) := by decide +kernel
theorem opV_9 : ∀ t, t < 20 → ((9 : Int32) < opV t ↔ t = 19) := by decide +kernel
def cntP (P : Nat → Prop) (c : Nat → Nat) : Prop := c 0 = 0 ∧ ∀ t, (P t → c (t + 1) = c t + 1) ∧ (¬ P t → c (t + 1) = c t)
def eq5 (f g : Nat → Int32) : Prop := ∀ j, j < 5 → f j = g j
theorem eq5_upd {f g : Nat → Int32} (h : eq5 f g) (j : Nat) {x y : Int32} (e : x = y) : eq5 (upd f j x) (upd g j y) := by
  intro i hi
  subst e
  by_cases hij : i = j
  · subst hij; simp [upd]
  · simp [upd, hij, h i hi]
theorem eq5_has {f g : Nat → Int32} (h : eq5 f g) : eq5 (hasF f) (hasF g) := by
  unfold hasF
  rw [h 2 (by decide), h 4 (by decide)]
  split
  · exact eq5_upd (eq5_upd (eq5_upd h 4 rfl) 2 rfl) 5 rfl
  · exact eq5_upd h 4 rfl
theorem eq5_lose {f g : Nat → Int32} (h : eq5 f g) : eq5 (loseF f) (loseF g) := by
  unfold loseF
  rw [h 2 (by decide)]
  split
  · exact eq5_upd (eq5_upd h 2 rfl) 5 rfl
  · exact h
theorem eq5_heed {f g : Nat → Int32} (lean : Int32) (h : eq5 f g) : eq5 (heedF f lean) (heedF g lean) := by
  unfold heedF
  rw [h 3 (by decide)]
  split
  · exact eq5_upd h 3 rfl
  · split
    · exact eq5_upd h 3 rfl
    · exact h
theorem eq5_yr {f g : Nat → Int32} (L E lean : Int32) (i : Nat) (h : eq5 f g) : eq5 (yrF L E lean i f) (yrF L E lean i g) := by
  unfold yrF
  split
  · split
    · exact eq5_heed lean h
    · exact eq5_heed lean (eq5_lose h)
  · exact eq5_has h
theorem lean_ext {m m' : Mem} {n : Nat} (hn : n ≤ 8) (hf : ∀ i j, i < n → j < 5 → m' (28 + i) j = m (28 + i) j) (hw : ∀ j, j < 3 → m' 26 j = m 26 j) : leanM m' 25 n = leanM m 25 n := by
  unfold leanM
  have hD : ∀ i, i < n → DP m' 25 i = DP m 25 i := fun i hi => by
    unfold DP
    rw [show (25 + 3 + i : Nat) = 28 + i by omega, hf i 0 hi (by decide), hf i 1 hi (by decide), hf i 2 hi (by decide), hw 0 (by decide)]
  rw [lbS_congr n hD, sumC_congr n (fun i j hi hj => by show m' (25 + 3 + i) j = m (25 + 3 + i) j; rw [show (25 + 3 + i : Nat) = 28 + i by omega, hf i j hi hj]), hw 1 (by decide), hw 2 (by decide)]
  rfl
theorem year_ext {m m' : Mem} {n : Nat} (hn : n ≤ 8) (hf : ∀ i j, i < n → j < 5 → m' (28 + i) j = m (28 + i) j) (hw : ∀ j, j < 3 → m' 26 j = m 26 j) : (∀ i j, i < n → j < 5 → yearMem m' 25 n (28 + i) j = yearMem m 25 n (28 + i) j) ∧ (∀ j, j < 3 → yearMem m' 25 n 26 j = yearMem m 25 n 26 j) := by
  have hD : ∀ i, i < n → DP m' 25 i = DP m 25 i := fun i hi => by
    unfold DP
    rw [show (25 + 3 + i : Nat) = 28 + i by omega, hf i 0 hi (by decide), hf i 1 hi (by decide), hf i 2 hi (by decide), hw 0 (by decide)]
  refine ⟨fun i j hi hj => ?_, fun j hj => ?_⟩
  · unfold yearMem
    rw [upR_ne _ _ (by omega), upR_ne _ _ (by omega)]
    simp only [yrT]
    rw [if_pos (by omega), if_pos (by omega), lbS_congr n hD, erS_congr n hD, lean_ext hn hf hw]
    exact eq5_yr _ _ _ _ (fun j hj => hf i j hi hj) j hj
  · rw [yearMem_o _ (by omega) (by omega), yearMem_o _ (by omega) (by omega)]
    exact hw j hj
theorem yrs_ext {m m' : Mem} {n : Nat} (hn : n ≤ 8) (hf : ∀ i j, i < n → j < 5 → m' (28 + i) j = m (28 + i) j) (hw : ∀ j, j < 3 → m' 26 j = m 26 j) : ∀ y, (∀ i j, i < n → j < 5 → yrs m' 25 n y (28 + i) j = yrs m 25 n y (28 + i) j) ∧ (∀ j, j < 3 → yrs m' 25 n y 26 j = yrs m 25 n y 26 j)
  | 0 => ⟨hf, hw⟩
  | y + 1 => year_ext hn (yrs_ext hn hf hw y).1 (yrs_ext hn hf hw y).2
theorem fit_QS {mem s : Mem} {n r c y : Nat} {v : Int32} (hn : n ≤ 8) (hr : r < n) (hc : 37 ≤ c) (hk : kd c ≠ 0) (h : QS mem s) : fitOK s n r v c y ↔ fitOK mem n r v c y := by
  have e1 : s c = mem c := (h.2 c (by omega)).2 hk
  have e2 : leanM (fitM s n r v y) 25 n = leanM (fitM mem n r v y) 25 n := by
    have hf : ∀ i j, i < n → j < 5 → up2 (becMem s 25 1 n) (28 + r) 3 v (28 + i) j = up2 (becMem mem 25 1 n) (28 + r) 3 v (28 + i) j := by
      intro i j hi hj
      rw [up2_v, up2_v, show (28 + i : Nat) = 25 + 3 + i by omega, bec_f s (k := 25) (o := 1) hn (by decide) hi (by omega), bec_f mem (k := 25) (o := 1) hn (by decide) hi (by omega), (h.2 (1 + 3 + i) (by omega)).1 j (by omega) (by omega)]
    have hw : ∀ j, j < 3 → up2 (becMem s 25 1 n) (28 + r) 3 v 26 j = up2 (becMem mem 25 1 n) (28 + r) 3 v 26 j := by
      intro j hj
      rw [up2_ne _ _ _ (by omega), up2_ne _ _ _ (by omega), bec_w s (k := 25) (o := 1) hj, bec_w mem (k := 25) (o := 1) hj, (h.2 2 (by omega)).2 (by decide)]
    exact lean_ext hn (yrs_ext hn hf hw y).1 (yrs_ext hn hf hw y).2
  unfold fitOK
  rw [e1, e2]
