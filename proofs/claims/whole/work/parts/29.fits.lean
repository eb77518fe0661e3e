/-! opinions that fit a sheet; spots; feeding -/
def fitM (m : Mem) (n r : Nat) (v : Int32) (y : Nat) : Mem := yrs (up2 (becMem m 25 1 n) (28 + r) 3 v) 25 n y
def fitOK (m : Mem) (n r : Nat) (v : Int32) (c : Nat) (y : Nat) : Prop := m c y = 9999 ∨ m c y = leanM (fitM m n r v y) 25 n
theorem kT_r {r : Nat} (h : r < 8) : kd (28 + r) = 0 := (kPa (k := 25) rfl).2.2.1 r h
theorem fitM_0 {m : Mem} {n r : Nat} {v : Int32} (h : PO m 1 n) (hr : r < n) : Same (fitM m n r v 0) (up2 (becMem m 25 1 n) (28 + r) 3 v) := by
  have := sto_Same (M := becMem m 25 1 n) (s := becMem m 25 1 n) (c := 28 + r) (j := 3) (v := v) (isCa_j (by decide)) (fun _ => by decide) (Agr.rf (PO_bec (k := 25) rfl h (by decide)).2.2.2.2)
  exact ⟨rfl, this.2⟩
theorem fitM_PO {m : Mem} {n r : Nat} {v : Int32} (h : PO m 1 n) (hr : r < n) (y : Nat) : PO (fitM m n r v y) 25 n := by
  refine PO_yrs ?_ y
  refine PO_of (PO_bec (k := 25) rfl h (by decide)) ?_ ?_ (fitM_0 h hr).2
  · rw [up2_ne _ _ _ (by omega)]
  · rw [up2_ne _ _ _ (by omega)]
theorem fitM_QS {m m' : Mem} {n r y : Nat} {v : Int32} (h : PO m 1 n) (hr : r < n) (h2 : Same (fitM m n r v y) m') : QS m m' := by
  have h8 := h.2.2.1
  refine QS.of h2 (fun a ha => ?_)
  unfold fitM
  rw [yrs_o _ (by omega) h8, up2_ne _ _ _ (by omega), bec_o _ (by omega) h8]
set_option maxHeartbeats 4000000 in
theorem c_opinionFits {n r q z : Nat} {mem : Mem} (h : PO mem 1 n) (hr : r < n) (hq : q < 4) (hz1 : z ≤ 40) (hz : mem (40 + 1 + 2 * q) 2 = nI z) (v : Int32) : CnI mX5_opinionFits [.ref 0, .ref (40 + 1 + 2 * q), .int (nI r), .int v] mem (fun x m' => QS mem m' ∧ ((x = 1 ∧ ∀ y, y < z → fitOK mem n r v (40 + 1 + 2 * q + 1) y) ∨ (x = 0 ∧ ∃ y, y < z ∧ ¬ fitOK mem n r v (40 + 1 + 2 * q + 1) y))) := by
  have h8 := h.2.2.1
  refine Cn.of (ls := [some (.ref 0), some (.ref (40 + 1 + 2 * q)), some (.int (nI r)), some (.int v), none, none]) (by decide) rfl (Nat.le_of_ble_eq_true rfl) ?_
  refine w_aload_n (i := 0) (n' := 1) dX5_opinionFits_0 rfl rfl rfl ?_
  refine w_get (ci := 5) (j := 2) (n' := 4) dX5_opinionFits_1 rfl fRX5_19 (Nat.le_of_ble_eq_true rfl) (Nat.le_of_ble_eq_true rfl) rfl rfl ?_
  refine w_aload_n (i := 0) (n' := 5) dX5_opinionFits_4 rfl rfl rfl ?_
  refine w_get (ci := 5) (j := 0) (n' := 8) dX5_opinionFits_5 rfl fRX5_10 (Nat.le_of_ble_eq_true rfl) (Nat.le_of_ble_eq_true rfl) rfl rfl ?_
  refine v_E (ci := 1) (n' := 11) dX5_opinionFits_8 rfl lRX5_151 okX1_becomes voX1_becomes ⟨⟨Nat.le_of_ble_eq_true rfl, Nat.le_of_ble_eq_true rfl⟩, Nat.le_of_ble_eq_true rfl, Nat.le_of_ble_eq_true rfl⟩ (c_becomes (k := 25) rfl h.N (by decide)) rfl rfl (Nat.le_of_ble_eq_true rfl) rfl (Nat.le_of_ble_eq_true rfl) rfl ?_
  refine w_aload_n (i := 0) (n' := 12) dX5_opinionFits_11 rfl rfl rfl ?_
  refine w_get (ci := 5) (j := 2) (n' := 15) dX5_opinionFits_12 rfl fRX5_19 (Nat.le_of_ble_eq_true rfl) (Nat.le_of_ble_eq_true rfl) rfl rfl ?_
  refine w_get (ci := 1) (j := 1) (n' := 18) dX5_opinionFits_15 rfl fRX5_82 (Nat.le_of_ble_eq_true rfl) (Nat.le_of_ble_eq_true rfl) rfl rfl ?_
  refine w_iload_n (i := 2) (n' := 19) dX5_opinionFits_18 rfl rfl rfl ?_
  refine w_aaldF (n := r) (n' := 20) dX5_opinionFits_19 rfl rfl rfl (show r < 8 by omega) ?_
  refine w_iload_n (i := 3) (n' := 21) dX5_opinionFits_20 rfl rfl rfl ?_
  refine w_put (ci := 0) (j := 3) (n' := 24) dX5_opinionFits_21 rfl fRX5_187 (Nat.le_of_ble_eq_true rfl) (Nat.le_of_ble_eq_true rfl) rfl rfl (show kd (28 + r) = 0 from kT_r (by omega)) rfl ?_
  show Wm _ _ 24 _ _ (up2 (becMem mem 25 1 n) (28 + r) 3 v)
  refine w_iconst (v := 0) (n' := 25) dX5_opinionFits_24 rfl rfl ?_
  refine w_istore (n' := 27) (ls' := [_, _, _, _, _, _]) dX5_opinionFits_25 rfl (Nat.le_of_ble_eq_true rfl) rfl rfl ?_
  have L : ∀ (i : Nat) (s : Option Value × Mem), i ≤ z → (Same (fitM mem n r v (i - 1)) s.2 ∧ ∀ y, y < i → fitOK mem n r v (40 + 1 + 2 * q + 1) y) → Wm mX5_opinionFits (zM mX5_opinionFits (fun rZ mZ => ∃ xZ, rZ = some (.int xZ) ∧ (fun x m' => QS mem m' ∧ ((x = 1 ∧ ∀ y, y < z → fitOK mem n r v (40 + 1 + 2 * q + 1) y) ∨ (x = 0 ∧ ∃ y, y < z ∧ ¬ fitOK mem n r v (40 + 1 + 2 * q + 1) y))) xZ mZ)) 27 [some (.ref 0), some (.ref (40 + 1 + 2 * q)), some (.int (nI r)), some (.int v), some (.int (nI i)), s.1] [] s.2 := by
    refine for_ind z ?_
    rintro i ⟨lx, s⟩ hi ⟨h1, h2⟩ ih
    dsimp only at h1 h2 ih ⊢
    have hp := h1.PO (fitM_PO h hr (i - 1))
    have hQ := fitM_QS h hr h1
    have hN0 : s (40 + 1 + 2 * q) = mem (40 + 1 + 2 * q) := (hQ.2 _ (by omega)).2 (by rw [kS4 q (by omega)]; decide)
    refine w_iload (n' := 29) dX5_opinionFits_27 rfl rfl ?_
    refine w_aload_n (i := 1) (n' := 30) dX5_opinionFits_29 rfl rfl rfl ?_
    refine w_get (ci := 2) (j := 2) (n' := 33) dX5_opinionFits_30 rfl fRX5_214 (Nat.le_of_ble_eq_true rfl) (Nat.le_of_ble_eq_true rfl) (kS4 q (by omega)) rfl ?_
    refine w_icmp_ge (n' := 36) (tgt := 85) dX5_opinionFits_33 rfl rfl (fun h33 => ?_) (fun h33 => ?_)
    · have hin : i = z := by
        rcases Nat.lt_or_ge i z with c | c
        · exact absurd h33 (by rw [hN0, hz]; exact nI_ge (b := z) c (by omega))
        · omega
      refine w_iconst (v := 1) (n' := 86) dX5_opinionFits_85 rfl rfl ?_
      exact w_zret dX5_opinionFits_86 rfl rfl ⟨_, rfl, hQ, Or.inl ⟨rfl, by rw [← hin]; exact h2⟩⟩
    · have hlt : i < z := by
        rcases Nat.lt_or_ge i z with c | c
        · exact c
        · exact absurd (by rw [hN0, hz]; exact nI_le (a := z) c (by omega)) h33
      refine w_iload (n' := 38) dX5_opinionFits_36 rfl rfl ?_
      refine w_if_le (n' := 41) (tgt := 48) dX5_opinionFits_38 rfl rfl (fun h38 => ?_) (fun h38 => ?_)
      · have i0 : i = 0 := by
          rcases Nat.eq_zero_or_pos i with c | c
          · exact c
          · exact absurd h38 (nI_nle c (by omega))
        have sY : Same (fitM mem n r v i) s := by rw [i0]; rw [i0] at h1; exact h1
        obtain ⟨sC, hsC⟩ : ∃ w, w = s := ⟨_, rfl⟩
        rw [← hsC] at sY ⊢
        have hNy : sC (40 + 1 + 2 * q + 1) i = mem (40 + 1 + 2 * q + 1) i := by rw [((fitM_QS h hr sY).2 _ (by omega)).2 (by rw [(kSh (kS4 q (by omega))).1]; decide)]
        refine w_aload_n (i := 1) (n' := 49) dX5_opinionFits_48 rfl rfl rfl ?_
        refine w_get (ci := 2) (j := 0) (n' := 52) dX5_opinionFits_49 rfl fRX5_217 (Nat.le_of_ble_eq_true rfl) (Nat.le_of_ble_eq_true rfl) (kS4 q (by omega)) rfl ?_
        refine w_iload (n' := 54) dX5_opinionFits_52 rfl rfl ?_
        refine w_iald (n := i) (n' := 55) dX5_opinionFits_54 rfl (kSh (kS4 q (by omega))).1 rfl (by rw [(kSh (kS4 q (by omega))).2]; omega) ?_
        refine w_istore (n' := 57) (ls' := [_, _, _, _, _, _]) dX5_opinionFits_55 rfl (Nat.le_of_ble_eq_true rfl) rfl rfl ?_
        refine w_iload (n' := 59) dX5_opinionFits_57 rfl rfl ?_
        refine w_sipush (v := 9999) (n' := 62) dX5_opinionFits_59 rfl (by decide) ?_
        refine w_icmp_eq (n' := 65) (tgt := 79) dX5_opinionFits_62 rfl rfl (fun h62 => ?_) (fun h62 => ?_)
        · refine w_iinc (n' := 82) (v := nI (i + 1)) (ls' := [_, _, _, _, _, _]) dX5_opinionFits_79 rfl rfl (nI_1 i) (Nat.le_of_ble_eq_true rfl) rfl rfl ?_
          refine w_goto (tgt := 27) dX5_opinionFits_82 rfl ?_
          exact ih hlt (_, _) ⟨by rw [show i + 1 - 1 = i by omega]; exact sY, fun y hy => by
            rcases Nat.lt_or_ge y i with c | c
            · exact h2 y c
            · rw [show y = i by omega]; exact Or.inl (by rw [← hNy]; exact h62)⟩
        · refine w_iload (n' := 67) dX5_opinionFits_65 rfl rfl ?_
          refine w_aload_n (i := 0) (n' := 68) dX5_opinionFits_67 rfl rfl rfl ?_
          refine w_get (ci := 5) (j := 2) (n' := 71) dX5_opinionFits_68 rfl fRX5_19 (Nat.le_of_ble_eq_true rfl) (Nat.le_of_ble_eq_true rfl) rfl rfl ?_
          refine v_I (ci := 1) (n' := 74) dX5_opinionFits_71 rfl lRX5_122 okX1_leanNow voX1_leanNow ⟨⟨Nat.le_of_ble_eq_true rfl, Nat.le_of_ble_eq_true rfl⟩, Nat.le_of_ble_eq_true rfl, Nat.le_of_ble_eq_true rfl⟩ (c_leanNow (sY.PO (fitM_PO h hr i))) rfl rfl (Nat.le_of_ble_eq_true rfl) rfl (Nat.le_of_ble_eq_true rfl) rfl (fun x71 m71 q71 => ?_)
          refine w_icmp_eq (n' := 77) (tgt := 79) dX5_opinionFits_74 rfl rfl (fun h74 => ?_) (fun h74 => ?_)
          · refine w_iinc (n' := 82) (v := nI (i + 1)) (ls' := [_, _, _, _, _, _]) dX5_opinionFits_79 rfl rfl (nI_1 i) (Nat.le_of_ble_eq_true rfl) rfl rfl ?_
            refine w_goto (tgt := 27) dX5_opinionFits_82 rfl ?_
            exact ih hlt (_, _) ⟨by rw [show i + 1 - 1 = i by omega]; exact sY.tr q71.2, fun y hy => by
              rcases Nat.lt_or_ge y i with c | c
              · exact h2 y c
              · rw [show y = i by omega]; exact Or.inr (by rw [← hNy, h74, q71.1, sY.lean rfl])⟩
          · refine w_iconst (v := 0) (n' := 78) dX5_opinionFits_77 rfl rfl ?_
            exact w_zret dX5_opinionFits_78 rfl rfl ⟨_, rfl, fitM_QS h hr (sY.tr q71.2), Or.inr ⟨rfl, i, hlt, fun c => by
              rcases c with c | c
              · exact h62 (by rw [hNy]; exact c)
              · exact h74 (by rw [hNy, c, q71.1, sY.lean rfl])⟩⟩
      · have i0 : 0 < i := by
          rcases Nat.eq_zero_or_pos i with c | c
          · exact absurd (by rw [c]; decide) h38
          · exact c
        refine w_aload_n (i := 0) (n' := 42) dX5_opinionFits_41 rfl rfl rfl ?_
        refine w_get (ci := 5) (j := 2) (n' := 45) dX5_opinionFits_42 rfl fRX5_19 (Nat.le_of_ble_eq_true rfl) (Nat.le_of_ble_eq_true rfl) rfl rfl ?_
        refine v_V (ci := 1) (n' := 48) dX5_opinionFits_45 rfl lRX5_135 okX1_passYear voX1_passYear ⟨⟨Nat.le_of_ble_eq_true rfl, Nat.le_of_ble_eq_true rfl⟩, Nat.le_of_ble_eq_true rfl, Nat.le_of_ble_eq_true rfl⟩ (c_passYear hp) rfl rfl (Nat.le_of_ble_eq_true rfl) rfl (Nat.le_of_ble_eq_true rfl) rfl (fun m45 q45 => ?_)
        have sY : Same (fitM mem n r v i) m45 := by
          have := Same.year (k := 25) rfl h8 h1 q45.1 q45.2
          rw [show i = i - 1 + 1 by omega]
          exact this
        obtain ⟨sC, hsC⟩ : ∃ w, w = m45 := ⟨_, rfl⟩
        rw [← hsC] at sY ⊢
        have hNy : sC (40 + 1 + 2 * q + 1) i = mem (40 + 1 + 2 * q + 1) i := by rw [((fitM_QS h hr sY).2 _ (by omega)).2 (by rw [(kSh (kS4 q (by omega))).1]; decide)]
        refine w_aload_n (i := 1) (n' := 49) dX5_opinionFits_48 rfl rfl rfl ?_
        refine w_get (ci := 2) (j := 0) (n' := 52) dX5_opinionFits_49 rfl fRX5_217 (Nat.le_of_ble_eq_true rfl) (Nat.le_of_ble_eq_true rfl) (kS4 q (by omega)) rfl ?_
        refine w_iload (n' := 54) dX5_opinionFits_52 rfl rfl ?_
        refine w_iald (n := i) (n' := 55) dX5_opinionFits_54 rfl (kSh (kS4 q (by omega))).1 rfl (by rw [(kSh (kS4 q (by omega))).2]; omega) ?_
        refine w_istore (n' := 57) (ls' := [_, _, _, _, _, _]) dX5_opinionFits_55 rfl (Nat.le_of_ble_eq_true rfl) rfl rfl ?_
        refine w_iload (n' := 59) dX5_opinionFits_57 rfl rfl ?_
        refine w_sipush (v := 9999) (n' := 62) dX5_opinionFits_59 rfl (by decide) ?_
        refine w_icmp_eq (n' := 65) (tgt := 79) dX5_opinionFits_62 rfl rfl (fun h62 => ?_) (fun h62 => ?_)
        · refine w_iinc (n' := 82) (v := nI (i + 1)) (ls' := [_, _, _, _, _, _]) dX5_opinionFits_79 rfl rfl (nI_1 i) (Nat.le_of_ble_eq_true rfl) rfl rfl ?_
          refine w_goto (tgt := 27) dX5_opinionFits_82 rfl ?_
          exact ih hlt (_, _) ⟨by rw [show i + 1 - 1 = i by omega]; exact sY, fun y hy => by
            rcases Nat.lt_or_ge y i with c | c
            · exact h2 y c
            · rw [show y = i by omega]; exact Or.inl (by rw [← hNy]; exact h62)⟩
        · refine w_iload (n' := 67) dX5_opinionFits_65 rfl rfl ?_
          refine w_aload_n (i := 0) (n' := 68) dX5_opinionFits_67 rfl rfl rfl ?_
          refine w_get (ci := 5) (j := 2) (n' := 71) dX5_opinionFits_68 rfl fRX5_19 (Nat.le_of_ble_eq_true rfl) (Nat.le_of_ble_eq_true rfl) rfl rfl ?_
          refine v_I (ci := 1) (n' := 74) dX5_opinionFits_71 rfl lRX5_122 okX1_leanNow voX1_leanNow ⟨⟨Nat.le_of_ble_eq_true rfl, Nat.le_of_ble_eq_true rfl⟩, Nat.le_of_ble_eq_true rfl, Nat.le_of_ble_eq_true rfl⟩ (c_leanNow (sY.PO (fitM_PO h hr i))) rfl rfl (Nat.le_of_ble_eq_true rfl) rfl (Nat.le_of_ble_eq_true rfl) rfl (fun x71 m71 q71 => ?_)
          refine w_icmp_eq (n' := 77) (tgt := 79) dX5_opinionFits_74 rfl rfl (fun h74 => ?_) (fun h74 => ?_)
          · refine w_iinc (n' := 82) (v := nI (i + 1)) (ls' := [_, _, _, _, _, _]) dX5_opinionFits_79 rfl rfl (nI_1 i) (Nat.le_of_ble_eq_true rfl) rfl rfl ?_
            refine w_goto (tgt := 27) dX5_opinionFits_82 rfl ?_
            exact ih hlt (_, _) ⟨by rw [show i + 1 - 1 = i by omega]; exact sY.tr q71.2, fun y hy => by
              rcases Nat.lt_or_ge y i with c | c
              · exact h2 y c
              · rw [show y = i by omega]; exact Or.inr (by rw [← hNy, h74, q71.1, sY.lean rfl])⟩
          · refine w_iconst (v := 0) (n' := 78) dX5_opinionFits_77 rfl rfl ?_
            exact w_zret dX5_opinionFits_78 rfl rfl ⟨_, rfl, fitM_QS h hr (sY.tr q71.2), Or.inr ⟨rfl, i, hlt, fun c => by
              rcases c with c | c
              · exact h62 (by rw [hNy]; exact c)
              · exact h74 (by rw [hNy, c, q71.1, sY.lean rfl])⟩⟩
  exact L 0 (_, _) (Nat.zero_le _) ⟨fitM_0 h hr, fun y hy => absurd hy (by omega)⟩
def opV (t : Nat) : Int32 := nI t - 9
theorem opV_1 : ∀ t, t < 20 → opV t + Int32.ofInt 1 = opV (t + 1) := by decide +kernel
theorem opV_9 : ∀ t, t < 20 → ((9 : Int32) < opV t ↔ t = 19) := by decide +kernel
def cntP (P : Nat → Prop) (c : Nat → Nat) : Prop := c 0 = 0 ∧ ∀ t, (P t → c (t + 1) = c t + 1) ∧ (¬ P t → c (t + 1) = c t)
def eq5 (f g : Nat → Int32) : Prop := ∀ j, j < 5 → f j = g j
theorem eq5_upd {f g : Nat → Int32} (h : eq5 f g) (j : Nat) {x y : Int32} (e : x = y) : eq5 (upd f j x) (upd g j y) := by
  intro i hi
  subst e
  by_cases hij : i = j
  · subst hij; simp [upd]
  · simp [upd, hij, h i hi]
theorem eq5_has {f g : Nat → Int32} (h : eq5 f g) : eq5 (hasF f) (hasF g) := by
  unfold hasF
  rw [h 2 (by decide), h 4 (by decide)]
  split
  · exact eq5_upd (eq5_upd (eq5_upd h 4 rfl) 2 rfl) 5 rfl
  · exact eq5_upd h 4 rfl
theorem eq5_lose {f g : Nat → Int32} (h : eq5 f g) : eq5 (loseF f) (loseF g) := by
  unfold loseF
  rw [h 2 (by decide)]
  split
  · exact eq5_upd (eq5_upd h 2 rfl) 5 rfl
  · exact h
theorem eq5_heed {f g : Nat → Int32} (lean : Int32) (h : eq5 f g) : eq5 (heedF f lean) (heedF g lean) := by
  unfold heedF
  rw [h 3 (by decide)]
  split
  · exact eq5_upd h 3 rfl
  · split
    · exact eq5_upd h 3 rfl
    · exact h
theorem eq5_yr {f g : Nat → Int32} (L E lean : Int32) (i : Nat) (h : eq5 f g) : eq5 (yrF L E lean i f) (yrF L E lean i g) := by
  unfold yrF
  split
  · split
    · exact eq5_heed lean h
    · exact eq5_heed lean (eq5_lose h)
  · exact eq5_has h
theorem lean_ext {m m' : Mem} {n : Nat} (hn : n ≤ 8) (hf : ∀ i j, i < n → j < 5 → m' (28 + i) j = m (28 + i) j) (hw : ∀ j, j < 3 → m' 26 j = m 26 j) : leanM m' 25 n = leanM m 25 n := by
  unfold leanM
  have hD : ∀ i, i < n → DP m' 25 i = DP m 25 i := fun i hi => by
    unfold DP
    rw [show (25 + 3 + i : Nat) = 28 + i by omega, hf i 0 hi (by decide), hf i 1 hi (by decide), hf i 2 hi (by decide), hw 0 (by decide)]
  rw [lbS_congr n hD, sumC_congr n (fun i j hi hj => by show m' (25 + 3 + i) j = m (25 + 3 + i) j; rw [show (25 + 3 + i : Nat) = 28 + i by omega, hf i j hi hj]), hw 1 (by decide), hw 2 (by decide)]
  rfl
theorem year_ext {m m' : Mem} {n : Nat} (hn : n ≤ 8) (hf : ∀ i j, i < n → j < 5 → m' (28 + i) j = m (28 + i) j) (hw : ∀ j, j < 3 → m' 26 j = m 26 j) : (∀ i j, i < n → j < 5 → yearMem m' 25 n (28 + i) j = yearMem m 25 n (28 + i) j) ∧ (∀ j, j < 3 → yearMem m' 25 n 26 j = yearMem m 25 n 26 j) := by
  have hD : ∀ i, i < n → DP m' 25 i = DP m 25 i := fun i hi => by
    unfold DP
    rw [show (25 + 3 + i : Nat) = 28 + i by omega, hf i 0 hi (by decide), hf i 1 hi (by decide), hf i 2 hi (by decide), hw 0 (by decide)]
  refine ⟨fun i j hi hj => ?_, fun j hj => ?_⟩
  · unfold yearMem
    rw [upR_ne _ _ (by omega), upR_ne _ _ (by omega)]
    simp only [yrT]
    rw [if_pos (by omega), if_pos (by omega), lbS_congr n hD, erS_congr n hD, lean_ext hn hf hw]
    exact eq5_yr _ _ _ _ (fun j hj => hf i j hi hj) j hj
  · rw [yearMem_o _ (by omega) (by omega), yearMem_o _ (by omega) (by omega)]
    exact hw j hj
theorem yrs_ext {m m' : Mem} {n : Nat} (hn : n ≤ 8) (hf : ∀ i j, i < n → j < 5 → m' (28 + i) j = m (28 + i) j) (hw : ∀ j, j < 3 → m' 26 j = m 26 j) : ∀ y, (∀ i j, i < n → j < 5 → yrs m' 25 n y (28 + i) j = yrs m 25 n y (28 + i) j) ∧ (∀ j, j < 3 → yrs m' 25 n y 26 j = yrs m 25 n y 26 j)
  | 0 => ⟨hf, hw⟩
  | y + 1 => year_ext hn (yrs_ext hn hf hw y).1 (yrs_ext hn hf hw y).2
theorem fit_QS {mem s : Mem} {n r c y : Nat} {v : Int32} (hn : n ≤ 8) (hr : r < n) (hc : 37 ≤ c) (hk : kd c ≠ 0) (h : QS mem s) : fitOK s n r v c y ↔ fitOK mem n r v c y := by
  have e1 : s c = mem c := (h.2 c (by omega)).2 hk
  have e2 : leanM (fitM s n r v y) 25 n = leanM (fitM mem n r v y) 25 n := by
    have hf : ∀ i j, i < n → j < 5 → up2 (becMem s 25 1 n) (28 + r) 3 v (28 + i) j = up2 (becMem mem 25 1 n) (28 + r) 3 v (28 + i) j := by
      intro i j hi hj
      rw [up2_v, up2_v, show (28 + i : Nat) = 25 + 3 + i by omega, bec_f s (k := 25) (o := 1) hn (by decide) hi (by omega), bec_f mem (k := 25) (o := 1) hn (by decide) hi (by omega), (h.2 (1 + 3 + i) (by omega)).1 j (by omega) (by omega)]
    have hw : ∀ j, j < 3 → up2 (becMem s 25 1 n) (28 + r) 3 v 26 j = up2 (becMem mem 25 1 n) (28 + r) 3 v 26 j := by
      intro j hj
      rw [up2_ne _ _ _ (by omega), up2_ne _ _ _ (by omega), bec_w s (k := 25) (o := 1) hj, bec_w mem (k := 25) (o := 1) hj, (h.2 2 (by omega)).2 (by decide)]
    exact lean_ext hn (yrs_ext hn hf hw y).1 (yrs_ext hn hf hw y).2
  unfold fitOK
  rw [e1, e2]
theorem refF_c {m : Mem} {s f N : Int32} : ((if refS m s = -1 then (if inR f 0 N = 0 then (0 : Int32) else -1) else refS m s) = 0 ∧ inR s 0 3 = 0) ∨ (∃ q, q < 4 ∧ s = nI q ∧ ¬ inR s 0 3 = 0 ∧ (((if refS m s = -1 then (if inR f 0 N = 0 then (0 : Int32) else -1) else refS m s) = 5 ∧ m (40 + 1 + 2 * q) 1 = 0) ∨ ((if refS m s = -1 then (if inR f 0 N = 0 then (0 : Int32) else -1) else refS m s) = 0 ∧ ¬ m (40 + 1 + 2 * q) 1 = 0 ∧ inR f 0 N = 0) ∨ ((if refS m s = -1 then (if inR f 0 N = 0 then (0 : Int32) else -1) else refS m s) = -1 ∧ ¬ m (40 + 1 + 2 * q) 1 = 0 ∧ ¬ inR f 0 N = 0))) := by
  rcases refS_c (m := m) (s := s) with ⟨e, e2⟩ | ⟨q, hq1, hq2, hq3, ⟨e, e2⟩ | ⟨e, e2⟩⟩
  · left; rw [e]; exact ⟨by rw [if_neg (by decide)], e2⟩
  · right; refine ⟨q, hq1, hq2, hq3, Or.inl ?_⟩; rw [e]; exact ⟨by rw [if_neg (by decide)], e2⟩
  · right
    refine ⟨q, hq1, hq2, hq3, Or.inr ?_⟩
    rw [e]
    by_cases c : inR f 0 N = 0
    · left; exact ⟨by rw [if_pos rfl, if_pos c], e2, c⟩
    · right; exact ⟨by rw [if_pos rfl, if_neg c], e2, c⟩
noncomputable def cntQ (P : Nat → Prop) : Nat → Nat
  | 0 => 0
  | t + 1 => @ite _ (P t) (Classical.propDecidable _) (cntQ P t + 1) (cntQ P t)
theorem cntQ_y {P : Nat → Prop} {t : Nat} (h : P t) : cntQ P (t + 1) = cntQ P t + 1 := by
  rw [cntQ]
  exact @if_pos _ (Classical.propDecidable _) h _ _ _
theorem cntQ_n {P : Nat → Prop} {t : Nat} (h : ¬ P t) : cntQ P (t + 1) = cntQ P t := by
  rw [cntQ]
  exact @if_neg _ (Classical.propDecidable _) h _ _ _
theorem cntQ_le (P : Nat → Prop) : ∀ t, cntQ P t ≤ t
  | 0 => Nat.le_refl _
  | t + 1 => by
    by_cases h : P t
    · rw [cntQ_y h]; have := cntQ_le P t; omega
    · rw [cntQ_n h]; have := cntQ_le P t; omega
set_option maxHeartbeats 4000000 in
theorem c5_fits {n : Nat} {mem : Mem} (h : PO mem 1 n) (s f : Int32) (hl : ∀ q, q < 4 → ∃ z, z ≤ 40 ∧ mem (40 + 1 + 2 * q) 2 = nI z) : CnI mX5_fits [.ref 0, .int s, .int f] mem (fun x m' => ((inR s 0 3 = 0 ∧ x = -1000001 ∧ m' = fnd mem 0)) ∨ (∃ q, q < 4 ∧ s = nI q ∧ ¬ inR s 0 3 = 0 ∧ ((mem (40 + 1 + 2 * q) 1 = 0 ∧ x = -1000006 ∧ m' = fnd mem 5) ∨ (¬ mem (40 + 1 + 2 * q) 1 = 0 ∧ ((inR f 0 (nI n - 1) = 0 ∧ x = -1000001 ∧ m' = fnd mem 0) ∨ (∃ r z, r < n ∧ f = nI r ∧ z ≤ 40 ∧ mem (40 + 1 + 2 * q) 2 = nI z ∧ x = nI (cntQ (fun t => ∀ y, y < z → fitOK mem n r (opV t) (40 + 1 + 2 * q + 1) y) 19) ∧ QS mem m')))))) := by
  refine Cn.of (ls := [some (.ref 0), some (.int s), some (.int f), none, none, none]) (by decide) rfl (Nat.le_of_ble_eq_true rfl) ?_
  refine w_aload_n (i := 0) (n' := 1) dX5_fits_0 rfl rfl rfl ?_
  refine w_iload_n (i := 1) (n' := 2) dX5_fits_1 rfl rfl rfl ?_
  refine w_iload_n (i := 2) (n' := 3) dX5_fits_2 rfl rfl rfl ?_
  refine v_E (ci := 5) (n' := 6) dX5_fits_3 rfl lRX5_204 okX5_refusalOfFit voX5_refusalOfFit ⟨⟨Nat.le_of_ble_eq_true rfl, Nat.le_of_ble_eq_true rfl⟩, Nat.le_of_ble_eq_true rfl, Nat.le_of_ble_eq_true rfl⟩ (c_refusalOfFit _ _ _) rfl rfl (Nat.le_of_ble_eq_true rfl) rfl (Nat.le_of_ble_eq_true rfl) rfl ?_
  rw [h.2.1]
  rcases refF_c (m := mem) (s := s) (f := f) (N := nI n - 1) with ⟨e, e2⟩ | ⟨q, hq1, hq2, hq3, ⟨e, e2⟩ | ⟨e, e2, e3⟩ | ⟨e, e2, e3⟩⟩
  · rw [e]
    try dsimp only [Option.toList, List.cons_append, List.nil_append]
    refine w_istore_n (i := 3) (n' := 7) (ls' := [_, _, _, _, _, _]) dX5_fits_6 rfl rfl (Nat.le_of_ble_eq_true rfl) rfl rfl ?_
    refine w_iload_n (i := 3) (n' := 8) dX5_fits_7 rfl rfl rfl ?_
    refine w_iconst (v := -1) (n' := 9) dX5_fits_8 rfl rfl ?_
    refine w_icmp_eq (n' := 12) (tgt := 18) dX5_fits_9 rfl rfl (fun h9 => absurd h9 (by decide)) (fun h9 => ?_)
    refine w_aload_n (i := 0) (n' := 13) dX5_fits_12 rfl rfl rfl ?_
    refine w_iload_n (i := 3) (n' := 14) dX5_fits_13 rfl rfl rfl ?_
    refine v_E (ci := 5) (n' := 17) dX5_fits_14 rfl lRX5_57 okX5_finding voX5_finding ⟨⟨Nat.le_of_ble_eq_true rfl, Nat.le_of_ble_eq_true rfl⟩, Nat.le_of_ble_eq_true rfl, Nat.le_of_ble_eq_true rfl⟩ (c_finding 0 _ (by decide) (by decide) _) rfl rfl (Nat.le_of_ble_eq_true rfl) rfl (Nat.le_of_ble_eq_true rfl) rfl ?_
    exact w_iret dX5_fits_17 rfl ⟨_, rfl, Or.inl ⟨e2, rfl, rfl⟩⟩
  · rw [e]
    try dsimp only [Option.toList, List.cons_append, List.nil_append]
    refine w_istore_n (i := 3) (n' := 7) (ls' := [_, _, _, _, _, _]) dX5_fits_6 rfl rfl (Nat.le_of_ble_eq_true rfl) rfl rfl ?_
    refine w_iload_n (i := 3) (n' := 8) dX5_fits_7 rfl rfl rfl ?_
    refine w_iconst (v := -1) (n' := 9) dX5_fits_8 rfl rfl ?_
    refine w_icmp_eq (n' := 12) (tgt := 18) dX5_fits_9 rfl rfl (fun h9 => absurd h9 (by decide)) (fun h9 => ?_)
    refine w_aload_n (i := 0) (n' := 13) dX5_fits_12 rfl rfl rfl ?_
    refine w_iload_n (i := 3) (n' := 14) dX5_fits_13 rfl rfl rfl ?_
    refine v_E (ci := 5) (n' := 17) dX5_fits_14 rfl lRX5_57 okX5_finding voX5_finding ⟨⟨Nat.le_of_ble_eq_true rfl, Nat.le_of_ble_eq_true rfl⟩, Nat.le_of_ble_eq_true rfl, Nat.le_of_ble_eq_true rfl⟩ (c_finding 5 _ (by decide) (by decide) _) rfl rfl (Nat.le_of_ble_eq_true rfl) rfl (Nat.le_of_ble_eq_true rfl) rfl ?_
    exact w_iret dX5_fits_17 rfl ⟨_, rfl, Or.inr ⟨q, hq1, hq2, hq3, Or.inl ⟨e2, rfl, rfl⟩⟩⟩
  · rw [e]
    try dsimp only [Option.toList, List.cons_append, List.nil_append]
    refine w_istore_n (i := 3) (n' := 7) (ls' := [_, _, _, _, _, _]) dX5_fits_6 rfl rfl (Nat.le_of_ble_eq_true rfl) rfl rfl ?_
    refine w_iload_n (i := 3) (n' := 8) dX5_fits_7 rfl rfl rfl ?_
    refine w_iconst (v := -1) (n' := 9) dX5_fits_8 rfl rfl ?_
    refine w_icmp_eq (n' := 12) (tgt := 18) dX5_fits_9 rfl rfl (fun h9 => absurd h9 (by decide)) (fun h9 => ?_)
    refine w_aload_n (i := 0) (n' := 13) dX5_fits_12 rfl rfl rfl ?_
    refine w_iload_n (i := 3) (n' := 14) dX5_fits_13 rfl rfl rfl ?_
    refine v_E (ci := 5) (n' := 17) dX5_fits_14 rfl lRX5_57 okX5_finding voX5_finding ⟨⟨Nat.le_of_ble_eq_true rfl, Nat.le_of_ble_eq_true rfl⟩, Nat.le_of_ble_eq_true rfl, Nat.le_of_ble_eq_true rfl⟩ (c_finding 0 _ (by decide) (by decide) _) rfl rfl (Nat.le_of_ble_eq_true rfl) rfl (Nat.le_of_ble_eq_true rfl) rfl ?_
    exact w_iret dX5_fits_17 rfl ⟨_, rfl, Or.inr ⟨q, hq1, hq2, hq3, Or.inr ⟨e2, Or.inl ⟨e3, rfl, rfl⟩⟩⟩⟩
  · rw [e]
    try dsimp only [Option.toList, List.cons_append, List.nil_append]
    obtain ⟨z, hz1, hz2⟩ := hl q hq1
    obtain ⟨r, hr1, hr2⟩ := hasF_of (n := n) (by have := h.2.2.1; omega) e3
    have h8 := h.2.2.1
    refine w_istore_n (i := 3) (n' := 7) (ls' := [_, _, _, _, _, _]) dX5_fits_6 rfl rfl (Nat.le_of_ble_eq_true rfl) rfl rfl ?_
    refine w_iload_n (i := 3) (n' := 8) dX5_fits_7 rfl rfl rfl ?_
    refine w_iconst (v := -1) (n' := 9) dX5_fits_8 rfl rfl ?_
    refine w_icmp_eq (n' := 12) (tgt := 18) dX5_fits_9 rfl rfl (fun h9 => ?_) (fun h9 => absurd rfl h9)
    refine w_iconst (v := 0) (n' := 19) dX5_fits_18 rfl rfl ?_
    refine w_istore (n' := 21) (ls' := [_, _, _, _, _, _]) dX5_fits_19 rfl (Nat.le_of_ble_eq_true rfl) rfl rfl ?_
    refine w_gets (t := 0) (n' := 24) dX5_fits_21 rfl fRX5_166 (Nat.le_of_ble_eq_true rfl) ?_
    refine w_iconst (v := 3) (n' := 25) dX5_fits_24 rfl rfl ?_
    refine w_ialdV (t := 0) (n := 3) (v := -9) (n' := 26) dX5_fits_25 rfl (Nat.le_of_ble_eq_true rfl) (by decide) (by decide) rfl ?_
    refine w_istore (n' := 28) (ls' := [_, _, _, _, _, _]) dX5_fits_26 rfl (Nat.le_of_ble_eq_true rfl) rfl rfl ?_
    have L : ∀ (i : Nat) (s0 : Nat × Mem), i ≤ 19 → (QS mem s0.2 ∧ s0.1 = cntQ (fun t => ∀ y, y < z → fitOK mem n r (opV t) (40 + 1 + 2 * q + 1) y) i) → Wm mX5_fits (zM mX5_fits (fun rZ mZ => ∃ xZ, rZ = some (.int xZ) ∧ (fun x m' => ((inR s 0 3 = 0 ∧ x = -1000001 ∧ m' = fnd mem 0)) ∨ (∃ q, q < 4 ∧ s = nI q ∧ ¬ inR s 0 3 = 0 ∧ ((mem (40 + 1 + 2 * q) 1 = 0 ∧ x = -1000006 ∧ m' = fnd mem 5) ∨ (¬ mem (40 + 1 + 2 * q) 1 = 0 ∧ ((inR f 0 (nI n - 1) = 0 ∧ x = -1000001 ∧ m' = fnd mem 0) ∨ (∃ r z, r < n ∧ f = nI r ∧ z ≤ 40 ∧ mem (40 + 1 + 2 * q) 2 = nI z ∧ x = nI (cntQ (fun t => ∀ y, y < z → fitOK mem n r (opV t) (40 + 1 + 2 * q + 1) y) 19) ∧ QS mem m')))))) xZ mZ)) 28 [some (.ref 0), some (.int s), some (.int f), some (.int (-1)), some (.int (nI s0.1)), some (.int (opV i))] [] s0.2 := by
      refine for_ind 19 ?_
      rintro i ⟨c0, s1⟩ hi ⟨h1, h2⟩ ih
      dsimp only at h1 h2 ih ⊢
      refine w_iload (n' := 30) dX5_fits_28 rfl rfl ?_
      refine w_gets (t := 1) (n' := 33) dX5_fits_30 rfl fRX5_163 (Nat.le_of_ble_eq_true rfl) ?_
      refine w_iconst (v := 3) (n' := 34) dX5_fits_33 rfl rfl ?_
      refine w_ialdV (t := 1) (n := 3) (v := 9) (n' := 35) dX5_fits_34 rfl (Nat.le_of_ble_eq_true rfl) (by decide) (by decide) rfl ?_
      refine w_icmp_gt (n' := 38) (tgt := 63) dX5_fits_35 rfl rfl (fun h35 => ?_) (fun h35 => ?_)
      · have hin : i = 19 := (opV_9 i (by omega)).mp h35
        refine w_iload (n' := 65) dX5_fits_63 rfl rfl ?_
        exact w_iret dX5_fits_65 rfl ⟨_, rfl, Or.inr ⟨q, hq1, hq2, hq3, Or.inr ⟨e2, Or.inr ⟨r, z, hr1, hr2, hz1, hz2, by rw [h2, hin], h1⟩⟩⟩⟩
      · have hlt : i < 19 := by
          rcases Nat.lt_or_ge i 19 with c | c
          · exact c
          · exact absurd ((opV_9 i (by omega)).mpr (by omega)) h35
        refine w_aload_n (i := 0) (n' := 39) dX5_fits_38 rfl rfl rfl ?_
        refine w_aload_n (i := 0) (n' := 40) dX5_fits_39 rfl rfl rfl ?_
        refine w_get (ci := 5) (j := 5) (n' := 43) dX5_fits_40 rfl fRX5_40 (Nat.le_of_ble_eq_true rfl) (Nat.le_of_ble_eq_true rfl) rfl rfl ?_
        refine w_iload_n (i := 1) (n' := 44) dX5_fits_43 rfl rfl rfl ?_
        refine w_aaldS (n := q) (n' := 45) dX5_fits_44 rfl rfl hq2 (show q < 4 by omega) ?_
        refine w_iload_n (i := 2) (n' := 46) dX5_fits_45 rfl rfl rfl ?_
        refine w_iload (n' := 48) dX5_fits_46 rfl rfl ?_
        refine v_I (ci := 5) (n' := 51) dX5_fits_48 rfl lRX5_207 okX5_opinionFits voX5_opinionFits ⟨⟨Nat.le_of_ble_eq_true rfl, Nat.le_of_ble_eq_true rfl⟩, Nat.le_of_ble_eq_true rfl, Nat.le_of_ble_eq_true rfl⟩ (hr2 ▸ c_opinionFits (QS_PO h h1) hr1 hq1 hz1 (by rw [(h1.2 _ (by omega)).2 (by rw [kS4 q (by omega)]; decide)]; exact hz2) _) rfl rfl (Nat.le_of_ble_eq_true rfl) rfl (Nat.le_of_ble_eq_true rfl) rfl (fun x48 m48 q48 => ?_)
        have hb : (fun t => ∀ y, y < z → fitOK mem n r (opV t) (40 + 1 + 2 * q + 1) y) i ∧ x48 = 1 ∨ ¬ (fun t => ∀ y, y < z → fitOK mem n r (opV t) (40 + 1 + 2 * q + 1) y) i ∧ x48 = 0 := by
          have kk : kd (40 + 1 + 2 * q + 1) ≠ 0 := by rw [(kSh (kS4 q (by omega))).1]; decide
          rcases q48.2 with ⟨c1, c2⟩ | ⟨c1, y, c2, c3⟩
          · exact Or.inl ⟨fun y hy => (fit_QS h8 hr1 (by omega) kk h1).mp (c2 y hy), c1⟩
          · exact Or.inr ⟨fun w => c3 ((fit_QS h8 hr1 (by omega) kk h1).mpr (w y c2)), c1⟩
        refine w_if_eq (n' := 54) (tgt := 57) dX5_fits_51 rfl rfl (fun h51 => ?_) (fun h51 => ?_)
        · refine w_iinc (n' := 60) (v := opV (i + 1)) (ls' := [_, _, _, _, _, _]) dX5_fits_57 rfl rfl (opV_1 i (by omega)) (Nat.le_of_ble_eq_true rfl) rfl rfl ?_
          refine w_goto (tgt := 28) dX5_fits_60 rfl ?_
          exact ih hlt (_, _) ⟨h1.tr q48.1, by
            rcases hb with ⟨b1, b2⟩ | ⟨b1, b2⟩
            · exact absurd (h51.symm.trans b2) (by decide)
            · rw [cntQ_n b1, h2]⟩
        · refine w_iinc (n' := 57) (v := nI (c0 + 1)) (ls' := [_, _, _, _, _, _]) dX5_fits_54 rfl rfl (nI_1 c0) (Nat.le_of_ble_eq_true rfl) rfl rfl ?_
          refine w_iinc (n' := 60) (v := opV (i + 1)) (ls' := [_, _, _, _, _, _]) dX5_fits_57 rfl rfl (opV_1 i (by omega)) (Nat.le_of_ble_eq_true rfl) rfl rfl ?_
          refine w_goto (tgt := 28) dX5_fits_60 rfl ?_
          exact ih hlt (_, _) ⟨h1.tr q48.1, by
            rcases hb with ⟨b1, b2⟩ | ⟨b1, b2⟩
            · rw [cntQ_y b1, h2]
            · exact absurd b2 h51⟩
    exact L 0 (0, _) (Nat.zero_le _) ⟨QS_Same (Same.rf h.2.2.2.2), rfl⟩
set_option maxHeartbeats 4000000 in
theorem c5_thinks {n : Nat} {mem : Mem} (h : PO mem 1 n) (s f : Int32) (hl : ∀ q, q < 4 → ∃ z, z ≤ 40 ∧ mem (40 + 1 + 2 * q) 2 = nI z) : CnI mX5_thinks [.ref 0, .int s, .int f] mem (fun x m' => ((inR s 0 3 = 0 ∧ x = -1000001 ∧ m' = fnd mem 0)) ∨ (∃ q, q < 4 ∧ s = nI q ∧ ¬ inR s 0 3 = 0 ∧ ((mem (40 + 1 + 2 * q) 1 = 0 ∧ x = -1000006 ∧ m' = fnd mem 5) ∨ (¬ mem (40 + 1 + 2 * q) 1 = 0 ∧ ((inR f 0 (nI n - 1) = 0 ∧ x = -1000001 ∧ m' = fnd mem 0) ∨ (∃ r z, r < n ∧ f = nI r ∧ z ≤ 40 ∧ mem (40 + 1 + 2 * q) 2 = nI z ∧ ∃ y, Fst (fun t => ∀ y, y < z → fitOK mem n r (opV t) (40 + 1 + 2 * q + 1) y) 0 18 y ∧ ((y ≤ 18 ∧ x = opV y ∧ QS mem m') ∨ (y = 19 ∧ x = -1000004 ∧ (∃ m2, QS mem m2 ∧ m' = fnd m2 3))))))))) := by
  refine Cn.of (ls := [some (.ref 0), some (.int s), some (.int f), none, none]) (by decide) rfl (Nat.le_of_ble_eq_true rfl) ?_
  refine w_aload_n (i := 0) (n' := 1) dX5_thinks_0 rfl rfl rfl ?_
  refine w_iload_n (i := 1) (n' := 2) dX5_thinks_1 rfl rfl rfl ?_
  refine w_iload_n (i := 2) (n' := 3) dX5_thinks_2 rfl rfl rfl ?_
  refine v_E (ci := 5) (n' := 6) dX5_thinks_3 rfl lRX5_204 okX5_refusalOfFit voX5_refusalOfFit ⟨⟨Nat.le_of_ble_eq_true rfl, Nat.le_of_ble_eq_true rfl⟩, Nat.le_of_ble_eq_true rfl, Nat.le_of_ble_eq_true rfl⟩ (c_refusalOfFit _ _ _) rfl rfl (Nat.le_of_ble_eq_true rfl) rfl (Nat.le_of_ble_eq_true rfl) rfl ?_
  rw [h.2.1]
  rcases refF_c (m := mem) (s := s) (f := f) (N := nI n - 1) with ⟨e, e2⟩ | ⟨q, hq1, hq2, hq3, ⟨e, e2⟩ | ⟨e, e2, e3⟩ | ⟨e, e2, e3⟩⟩
  · rw [e]
    try dsimp only [Option.toList, List.cons_append, List.nil_append]
    refine w_istore_n (i := 3) (n' := 7) (ls' := [_, _, _, _, _]) dX5_thinks_6 rfl rfl (Nat.le_of_ble_eq_true rfl) rfl rfl ?_
    refine w_iload_n (i := 3) (n' := 8) dX5_thinks_7 rfl rfl rfl ?_
    refine w_iconst (v := -1) (n' := 9) dX5_thinks_8 rfl rfl ?_
    refine w_icmp_eq (n' := 12) (tgt := 18) dX5_thinks_9 rfl rfl (fun h9 => absurd h9 (by decide)) (fun h9 => ?_)
    refine w_aload_n (i := 0) (n' := 13) dX5_thinks_12 rfl rfl rfl ?_
    refine w_iload_n (i := 3) (n' := 14) dX5_thinks_13 rfl rfl rfl ?_
    refine v_E (ci := 5) (n' := 17) dX5_thinks_14 rfl lRX5_57 okX5_finding voX5_finding ⟨⟨Nat.le_of_ble_eq_true rfl, Nat.le_of_ble_eq_true rfl⟩, Nat.le_of_ble_eq_true rfl, Nat.le_of_ble_eq_true rfl⟩ (c_finding 0 _ (by decide) (by decide) _) rfl rfl (Nat.le_of_ble_eq_true rfl) rfl (Nat.le_of_ble_eq_true rfl) rfl ?_
    exact w_iret dX5_thinks_17 rfl ⟨_, rfl, Or.inl ⟨e2, rfl, rfl⟩⟩
  · rw [e]
    try dsimp only [Option.toList, List.cons_append, List.nil_append]
    refine w_istore_n (i := 3) (n' := 7) (ls' := [_, _, _, _, _]) dX5_thinks_6 rfl rfl (Nat.le_of_ble_eq_true rfl) rfl rfl ?_
    refine w_iload_n (i := 3) (n' := 8) dX5_thinks_7 rfl rfl rfl ?_
    refine w_iconst (v := -1) (n' := 9) dX5_thinks_8 rfl rfl ?_
    refine w_icmp_eq (n' := 12) (tgt := 18) dX5_thinks_9 rfl rfl (fun h9 => absurd h9 (by decide)) (fun h9 => ?_)
    refine w_aload_n (i := 0) (n' := 13) dX5_thinks_12 rfl rfl rfl ?_
    refine w_iload_n (i := 3) (n' := 14) dX5_thinks_13 rfl rfl rfl ?_
    refine v_E (ci := 5) (n' := 17) dX5_thinks_14 rfl lRX5_57 okX5_finding voX5_finding ⟨⟨Nat.le_of_ble_eq_true rfl, Nat.le_of_ble_eq_true rfl⟩, Nat.le_of_ble_eq_true rfl, Nat.le_of_ble_eq_true rfl⟩ (c_finding 5 _ (by decide) (by decide) _) rfl rfl (Nat.le_of_ble_eq_true rfl) rfl (Nat.le_of_ble_eq_true rfl) rfl ?_
    exact w_iret dX5_thinks_17 rfl ⟨_, rfl, Or.inr ⟨q, hq1, hq2, hq3, Or.inl ⟨e2, rfl, rfl⟩⟩⟩
  · rw [e]
    try dsimp only [Option.toList, List.cons_append, List.nil_append]
    refine w_istore_n (i := 3) (n' := 7) (ls' := [_, _, _, _, _]) dX5_thinks_6 rfl rfl (Nat.le_of_ble_eq_true rfl) rfl rfl ?_
    refine w_iload_n (i := 3) (n' := 8) dX5_thinks_7 rfl rfl rfl ?_
    refine w_iconst (v := -1) (n' := 9) dX5_thinks_8 rfl rfl ?_
    refine w_icmp_eq (n' := 12) (tgt := 18) dX5_thinks_9 rfl rfl (fun h9 => absurd h9 (by decide)) (fun h9 => ?_)
    refine w_aload_n (i := 0) (n' := 13) dX5_thinks_12 rfl rfl rfl ?_
    refine w_iload_n (i := 3) (n' := 14) dX5_thinks_13 rfl rfl rfl ?_
    refine v_E (ci := 5) (n' := 17) dX5_thinks_14 rfl lRX5_57 okX5_finding voX5_finding ⟨⟨Nat.le_of_ble_eq_true rfl, Nat.le_of_ble_eq_true rfl⟩, Nat.le_of_ble_eq_true rfl, Nat.le_of_ble_eq_true rfl⟩ (c_finding 0 _ (by decide) (by decide) _) rfl rfl (Nat.le_of_ble_eq_true rfl) rfl (Nat.le_of_ble_eq_true rfl) rfl ?_
    exact w_iret dX5_thinks_17 rfl ⟨_, rfl, Or.inr ⟨q, hq1, hq2, hq3, Or.inr ⟨e2, Or.inl ⟨e3, rfl, rfl⟩⟩⟩⟩
  · rw [e]
    try dsimp only [Option.toList, List.cons_append, List.nil_append]
    obtain ⟨z, hz1, hz2⟩ := hl q hq1
    obtain ⟨r, hr1, hr2⟩ := hasF_of (n := n) (by have := h.2.2.1; omega) e3
    have h8 := h.2.2.1
    refine w_istore_n (i := 3) (n' := 7) (ls' := [_, _, _, _, _]) dX5_thinks_6 rfl rfl (Nat.le_of_ble_eq_true rfl) rfl rfl ?_
    refine w_iload_n (i := 3) (n' := 8) dX5_thinks_7 rfl rfl rfl ?_
    refine w_iconst (v := -1) (n' := 9) dX5_thinks_8 rfl rfl ?_
    refine w_icmp_eq (n' := 12) (tgt := 18) dX5_thinks_9 rfl rfl (fun h9 => ?_) (fun h9 => absurd rfl h9)
    refine w_gets (t := 0) (n' := 21) dX5_thinks_18 rfl fRX5_166 (Nat.le_of_ble_eq_true rfl) ?_
    refine w_iconst (v := 3) (n' := 22) dX5_thinks_21 rfl rfl ?_
    refine w_ialdV (t := 0) (n := 3) (v := -9) (n' := 23) dX5_thinks_22 rfl (Nat.le_of_ble_eq_true rfl) (by decide) (by decide) rfl ?_
    refine w_istore (n' := 25) (ls' := [_, _, _, _, _]) dX5_thinks_23 rfl (Nat.le_of_ble_eq_true rfl) rfl rfl ?_
    have L : ∀ (i : Nat) (s1 : Mem), i ≤ 19 → (QS mem s1 ∧ ∀ t, t < i → ¬ (fun t => ∀ y, y < z → fitOK mem n r (opV t) (40 + 1 + 2 * q + 1) y) t) → Wm mX5_thinks (zM mX5_thinks (fun rZ mZ => ∃ xZ, rZ = some (.int xZ) ∧ (fun x m' => ((inR s 0 3 = 0 ∧ x = -1000001 ∧ m' = fnd mem 0)) ∨ (∃ q, q < 4 ∧ s = nI q ∧ ¬ inR s 0 3 = 0 ∧ ((mem (40 + 1 + 2 * q) 1 = 0 ∧ x = -1000006 ∧ m' = fnd mem 5) ∨ (¬ mem (40 + 1 + 2 * q) 1 = 0 ∧ ((inR f 0 (nI n - 1) = 0 ∧ x = -1000001 ∧ m' = fnd mem 0) ∨ (∃ r z, r < n ∧ f = nI r ∧ z ≤ 40 ∧ mem (40 + 1 + 2 * q) 2 = nI z ∧ ∃ y, Fst (fun t => ∀ y, y < z → fitOK mem n r (opV t) (40 + 1 + 2 * q + 1) y) 0 18 y ∧ ((y ≤ 18 ∧ x = opV y ∧ QS mem m') ∨ (y = 19 ∧ x = -1000004 ∧ (∃ m2, QS mem m2 ∧ m' = fnd m2 3))))))))) xZ mZ)) 25 [some (.ref 0), some (.int s), some (.int f), some (.int (-1)), some (.int (opV i))] [] s1 := by
      refine for_ind 19 ?_
      rintro i s1 hi ⟨h1, h2⟩ ih
      refine w_iload (n' := 27) dX5_thinks_25 rfl rfl ?_
      refine w_gets (t := 1) (n' := 30) dX5_thinks_27 rfl fRX5_163 (Nat.le_of_ble_eq_true rfl) ?_
      refine w_iconst (v := 3) (n' := 31) dX5_thinks_30 rfl rfl ?_
      refine w_ialdV (t := 1) (n := 3) (v := 9) (n' := 32) dX5_thinks_31 rfl (Nat.le_of_ble_eq_true rfl) (by decide) (by decide) rfl ?_
      refine w_icmp_gt (n' := 35) (tgt := 60) dX5_thinks_32 rfl rfl (fun h32 => ?_) (fun h32 => ?_)
      · have hin : i = 19 := (opV_9 i (by omega)).mp h32
        refine w_aload_n (i := 0) (n' := 61) dX5_thinks_60 rfl rfl rfl ?_
        refine w_iconst (v := 3) (n' := 62) dX5_thinks_61 rfl rfl ?_
        refine v_E (ci := 5) (n' := 65) dX5_thinks_62 rfl lRX5_57 okX5_finding voX5_finding ⟨⟨Nat.le_of_ble_eq_true rfl, Nat.le_of_ble_eq_true rfl⟩, Nat.le_of_ble_eq_true rfl, Nat.le_of_ble_eq_true rfl⟩ (c_finding 3 _ (by decide) (by decide) _) rfl rfl (Nat.le_of_ble_eq_true rfl) rfl (Nat.le_of_ble_eq_true rfl) rfl ?_
        exact w_iret dX5_thinks_65 rfl ⟨_, rfl, Or.inr ⟨q, hq1, hq2, hq3, Or.inr ⟨e2, Or.inr ⟨r, z, hr1, hr2, hz1, hz2, 19, ⟨Nat.zero_le _, by omega, fun t _ ht => h2 t (by omega), fun c => absurd c (by decide)⟩, Or.inr ⟨rfl, rfl, _, h1, rfl⟩⟩⟩⟩⟩
      · have hlt : i < 19 := by
          rcases Nat.lt_or_ge i 19 with c | c
          · exact c
          · exact absurd ((opV_9 i (by omega)).mpr (by omega)) h32
        refine w_aload_n (i := 0) (n' := 36) dX5_thinks_35 rfl rfl rfl ?_
        refine w_aload_n (i := 0) (n' := 37) dX5_thinks_36 rfl rfl rfl ?_
        refine w_get (ci := 5) (j := 5) (n' := 40) dX5_thinks_37 rfl fRX5_40 (Nat.le_of_ble_eq_true rfl) (Nat.le_of_ble_eq_true rfl) rfl rfl ?_
        refine w_iload_n (i := 1) (n' := 41) dX5_thinks_40 rfl rfl rfl ?_
        refine w_aaldS (n := q) (n' := 42) dX5_thinks_41 rfl rfl hq2 (show q < 4 by omega) ?_
        refine w_iload_n (i := 2) (n' := 43) dX5_thinks_42 rfl rfl rfl ?_
        refine w_iload (n' := 45) dX5_thinks_43 rfl rfl ?_
        refine v_I (ci := 5) (n' := 48) dX5_thinks_45 rfl lRX5_207 okX5_opinionFits voX5_opinionFits ⟨⟨Nat.le_of_ble_eq_true rfl, Nat.le_of_ble_eq_true rfl⟩, Nat.le_of_ble_eq_true rfl, Nat.le_of_ble_eq_true rfl⟩ (hr2 ▸ c_opinionFits (QS_PO h h1) hr1 hq1 hz1 (by rw [(h1.2 _ (by omega)).2 (by rw [kS4 q (by omega)]; decide)]; exact hz2) _) rfl rfl (Nat.le_of_ble_eq_true rfl) rfl (Nat.le_of_ble_eq_true rfl) rfl (fun x45 m45 q45 => ?_)
        have hb : (fun t => ∀ y, y < z → fitOK mem n r (opV t) (40 + 1 + 2 * q + 1) y) i ∧ x45 = 1 ∨ ¬ (fun t => ∀ y, y < z → fitOK mem n r (opV t) (40 + 1 + 2 * q + 1) y) i ∧ x45 = 0 := by
          have kk : kd (40 + 1 + 2 * q + 1) ≠ 0 := by rw [(kSh (kS4 q (by omega))).1]; decide
          rcases q45.2 with ⟨c1, c2⟩ | ⟨c1, y, c2, c3⟩
          · exact Or.inl ⟨fun y hy => (fit_QS h8 hr1 (by omega) kk h1).mp (c2 y hy), c1⟩
          · exact Or.inr ⟨fun w => c3 ((fit_QS h8 hr1 (by omega) kk h1).mpr (w y c2)), c1⟩
        refine w_if_eq (n' := 51) (tgt := 54) dX5_thinks_48 rfl rfl (fun h48 => ?_) (fun h48 => ?_)
        · refine w_iinc (n' := 57) (v := opV (i + 1)) (ls' := [_, _, _, _, _]) dX5_thinks_54 rfl rfl (opV_1 i (by omega)) (Nat.le_of_ble_eq_true rfl) rfl rfl ?_
          refine w_goto (tgt := 25) dX5_thinks_57 rfl ?_
          exact ih hlt _ ⟨h1.tr q45.1, fun t ht => by
            rcases Nat.lt_or_ge t i with c | c
            · exact h2 t c
            · rw [show t = i by omega]
              rcases hb with ⟨b1, b2⟩ | ⟨b1, b2⟩
              · exact absurd (h48.symm.trans b2) (by decide)
              · exact b1⟩
        · refine w_iload (n' := 53) dX5_thinks_51 rfl rfl ?_
          exact w_iret dX5_thinks_53 rfl ⟨_, rfl, Or.inr ⟨q, hq1, hq2, hq3, Or.inr ⟨e2, Or.inr ⟨r, z, hr1, hr2, hz1, hz2, i, ⟨Nat.zero_le _, by omega, fun t _ ht => h2 t ht, fun _ => by
            rcases hb with ⟨b1, b2⟩ | ⟨b1, b2⟩
            · exact b1
            · exact absurd b2 h48⟩, Or.inl ⟨by omega, rfl, h1.tr q45.1⟩⟩⟩⟩⟩
    exact L 0 _ (Nat.zero_le _) ⟨QS_Same (Same.rf h.2.2.2.2), fun t ht => absurd ht (by omega)⟩
def chn : Nat → List Int32
  | 0 => [0]
  | 1 => [1, 0]
  | 2 => [2, 0]
  | 3 => [3, 2, 0]
  | 4 => [4, 3, 2, 0]
  | 5 => [5, 0]
  | _ => [6, 1, 0]
theorem w_kstep {k : Nat} {a : Int32} {mem : Mem} {Post : Option Value → Mem → Prop} (o i : Nat) (w : Int32) (ho : o < 7) (hi : i < 7) (hw : (stL 2).getD o 0 = w) (h1 : nI o = a → Post (some (.int 1)) mem) (h2 : ¬ nI o = a → Wm mX0_isOfKind (zM mX0_isOfKind Post) 7 [some (.ref k), some (.int a), some (.int w), some (.int (nI (i + 1)))] [] mem) : Wm mX0_isOfKind (zM mX0_isOfKind Post) 7 [some (.ref k), some (.int a), some (.int (nI o)), some (.int (nI i))] [] mem := by
  refine w_iload_n (i := 3) (n' := 8) dX0_isOfKind_7 rfl rfl rfl ?_
  refine w_bipush (v := 7) (n' := 10) dX0_isOfKind_8 rfl (by decide) ?_
  refine w_icmp_ge (n' := 13) (tgt := 37) dX0_isOfKind_10 rfl rfl (fun h10 => absurd h10 (nI_ge (b := 7) hi (by decide))) (fun h10 => ?_)
  refine w_iload_n (i := 2) (n' := 14) dX0_isOfKind_13 rfl rfl rfl ?_
  refine w_iconst (v := -1) (n' := 15) dX0_isOfKind_14 rfl rfl ?_
  refine w_icmp_eq (n' := 18) (tgt := 37) dX0_isOfKind_15 rfl rfl (fun h15 => absurd h15 (by intro q; exact nI_nem1 (by omega) q)) (fun h15 => ?_)
  refine w_iload_n (i := 2) (n' := 19) dX0_isOfKind_18 rfl rfl rfl ?_
  refine w_iload_n (i := 1) (n' := 20) dX0_isOfKind_19 rfl rfl rfl ?_
  refine w_icmp_ne (n' := 23) (tgt := 25) dX0_isOfKind_20 rfl rfl (fun h20 => ?_) (fun h20 => ?_)
  · refine w_gets (t := 2) (n' := 28) dX0_isOfKind_25 rfl fRX0_44 (Nat.le_of_ble_eq_true rfl) ?_
    refine w_iload_n (i := 2) (n' := 29) dX0_isOfKind_28 rfl rfl rfl ?_
    refine w_ialdS (t := 2) (n := o) (n' := 30) dX0_isOfKind_29 rfl (Nat.le_of_ble_eq_true rfl) rfl (show o < 7 from ho) ?_
    refine w_istore_n (i := 2) (n' := 31) (ls' := [_, _, _, _]) dX0_isOfKind_30 rfl rfl (Nat.le_of_ble_eq_true rfl) rfl rfl ?_
    refine w_iinc (n' := 34) (v := nI (i + 1)) (ls' := [_, _, _, _]) dX0_isOfKind_31 rfl rfl (nI_1 i) (Nat.le_of_ble_eq_true rfl) rfl rfl ?_
    rw [hw]
    refine w_goto (tgt := 7) dX0_isOfKind_34 rfl ?_
    exact h2 h20
  · refine w_iconst (v := 1) (n' := 24) dX0_isOfKind_23 rfl rfl ?_
    exact w_zret dX0_isOfKind_24 rfl rfl (h1 (by simpa using h20))
theorem w_kend {k : Nat} {a : Int32} {mem : Mem} {Post : Option Value → Mem → Prop} (i : Nat) (h1 : Post (some (.int 0)) mem) : Wm mX0_isOfKind (zM mX0_isOfKind Post) 7 [some (.ref k), some (.int a), some (.int (-1)), some (.int (nI i))] [] mem := by
  refine w_iload_n (i := 3) (n' := 8) dX0_isOfKind_7 rfl rfl rfl ?_
  refine w_bipush (v := 7) (n' := 10) dX0_isOfKind_8 rfl (by decide) ?_
  refine w_icmp_ge (n' := 13) (tgt := 37) dX0_isOfKind_10 rfl rfl (fun h10 => ?_) (fun h10 => ?_)
  · refine w_iconst (v := 0) (n' := 38) dX0_isOfKind_37 rfl rfl ?_
    exact w_zret dX0_isOfKind_38 rfl rfl h1
  · refine w_iload_n (i := 2) (n' := 14) dX0_isOfKind_13 rfl rfl rfl ?_
    refine w_iconst (v := -1) (n' := 15) dX0_isOfKind_14 rfl rfl ?_
    refine w_icmp_eq (n' := 18) (tgt := 37) dX0_isOfKind_15 rfl rfl (fun h15 => ?_) (fun h15 => absurd rfl h15)
    refine w_iconst (v := 0) (n' := 38) dX0_isOfKind_37 rfl rfl ?_
    exact w_zret dX0_isOfKind_38 rfl rfl h1
set_option maxHeartbeats 4000000 in
theorem c_isOfKind {k : Nat} (hk : kd k = 0) (a : Int32) (o : Nat) (ho : o < 7) (mem : Mem) (hk0 : mem k 0 = nI o) : CnE mX0_isOfKind [.ref k, .int a] mem (some (.int (if a ∈ chn o then 1 else 0))) mem := by
  refine Cn.of (ls := [some (.ref k), some (.int a), none, none]) (by decide) rfl (Nat.le_of_ble_eq_true rfl) ?_
  refine w_aload_n (i := 0) (n' := 1) dX0_isOfKind_0 rfl rfl rfl ?_
  refine w_get (ci := 0) (j := 0) (n' := 4) dX0_isOfKind_1 rfl fRX0_9 (Nat.le_of_ble_eq_true rfl) (Nat.le_of_ble_eq_true rfl) hk rfl ?_
  refine w_istore_n (i := 2) (n' := 5) (ls' := [_, _, _, _]) dX0_isOfKind_4 rfl rfl (Nat.le_of_ble_eq_true rfl) rfl rfl ?_
  refine w_iconst (v := 0) (n' := 6) dX0_isOfKind_5 rfl rfl ?_
  refine w_istore_n (i := 3) (n' := 7) (ls' := [_, _, _, _]) dX0_isOfKind_6 rfl rfl (Nat.le_of_ble_eq_true rfl) rfl rfl ?_
  show Wm _ _ 7 [some (.ref k), some (.int a), some (.int (mem k 0)), some (.int (nI 0))] [] mem
  match o, ho, hk0 with
  | 0, _, hk0 =>
    rw [hk0]
    refine w_kstep 0 0 (-1) (by decide) (by decide) (by decide) (fun q => ⟨by rw [if_pos]; rw [← q]; decide, rfl⟩) (fun n0 => ?_)
    exact w_kend 1 ⟨by rw [if_neg (show ¬ a ∈ chn 0 from by simp only [chn, List.mem_cons, List.not_mem_nil, or_false]; exact fun q => n0 (q.symm))], rfl⟩
  | 1, _, hk0 =>
    rw [hk0]
    refine w_kstep 1 0 (nI 0) (by decide) (by decide) (by decide) (fun q => ⟨by rw [if_pos]; rw [← q]; decide, rfl⟩) (fun n1 => ?_)
    refine w_kstep 0 1 (-1) (by decide) (by decide) (by decide) (fun q => ⟨by rw [if_pos]; rw [← q]; decide, rfl⟩) (fun n0 => ?_)
    exact w_kend 2 ⟨by rw [if_neg (show ¬ a ∈ chn 1 from by simp only [chn, List.mem_cons, List.not_mem_nil, or_false, not_or]; exact ⟨fun q => n1 (q.symm), fun q => n0 (q.symm)⟩)], rfl⟩
  | 2, _, hk0 =>
    rw [hk0]
    refine w_kstep 2 0 (nI 0) (by decide) (by decide) (by decide) (fun q => ⟨by rw [if_pos]; rw [← q]; decide, rfl⟩) (fun n2 => ?_)
    refine w_kstep 0 1 (-1) (by decide) (by decide) (by decide) (fun q => ⟨by rw [if_pos]; rw [← q]; decide, rfl⟩) (fun n0 => ?_)
    exact w_kend 2 ⟨by rw [if_neg (show ¬ a ∈ chn 2 from by simp only [chn, List.mem_cons, List.not_mem_nil, or_false, not_or]; exact ⟨fun q => n2 (q.symm), fun q => n0 (q.symm)⟩)], rfl⟩
  | 3, _, hk0 =>
    rw [hk0]
    refine w_kstep 3 0 (nI 2) (by decide) (by decide) (by decide) (fun q => ⟨by rw [if_pos]; rw [← q]; decide, rfl⟩) (fun n3 => ?_)
    refine w_kstep 2 1 (nI 0) (by decide) (by decide) (by decide) (fun q => ⟨by rw [if_pos]; rw [← q]; decide, rfl⟩) (fun n2 => ?_)
    refine w_kstep 0 2 (-1) (by decide) (by decide) (by decide) (fun q => ⟨by rw [if_pos]; rw [← q]; decide, rfl⟩) (fun n0 => ?_)
    exact w_kend 3 ⟨by rw [if_neg (show ¬ a ∈ chn 3 from by simp only [chn, List.mem_cons, List.not_mem_nil, or_false, not_or]; exact ⟨fun q => n3 (q.symm), fun q => n2 (q.symm), fun q => n0 (q.symm)⟩)], rfl⟩
  | 4, _, hk0 =>
    rw [hk0]
    refine w_kstep 4 0 (nI 3) (by decide) (by decide) (by decide) (fun q => ⟨by rw [if_pos]; rw [← q]; decide, rfl⟩) (fun n4 => ?_)
    refine w_kstep 3 1 (nI 2) (by decide) (by decide) (by decide) (fun q => ⟨by rw [if_pos]; rw [← q]; decide, rfl⟩) (fun n3 => ?_)
    refine w_kstep 2 2 (nI 0) (by decide) (by decide) (by decide) (fun q => ⟨by rw [if_pos]; rw [← q]; decide, rfl⟩) (fun n2 => ?_)
    refine w_kstep 0 3 (-1) (by decide) (by decide) (by decide) (fun q => ⟨by rw [if_pos]; rw [← q]; decide, rfl⟩) (fun n0 => ?_)
    exact w_kend 4 ⟨by rw [if_neg (show ¬ a ∈ chn 4 from by simp only [chn, List.mem_cons, List.not_mem_nil, or_false, not_or]; exact ⟨fun q => n4 (q.symm), fun q => n3 (q.symm), fun q => n2 (q.symm), fun q => n0 (q.symm)⟩)], rfl⟩
  | 5, _, hk0 =>
    rw [hk0]
    refine w_kstep 5 0 (nI 0) (by decide) (by decide) (by decide) (fun q => ⟨by rw [if_pos]; rw [← q]; decide, rfl⟩) (fun n5 => ?_)
    refine w_kstep 0 1 (-1) (by decide) (by decide) (by decide) (fun q => ⟨by rw [if_pos]; rw [← q]; decide, rfl⟩) (fun n0 => ?_)
    exact w_kend 2 ⟨by rw [if_neg (show ¬ a ∈ chn 5 from by simp only [chn, List.mem_cons, List.not_mem_nil, or_false, not_or]; exact ⟨fun q => n5 (q.symm), fun q => n0 (q.symm)⟩)], rfl⟩
  | 6, _, hk0 =>
    rw [hk0]
    refine w_kstep 6 0 (nI 1) (by decide) (by decide) (by decide) (fun q => ⟨by rw [if_pos]; rw [← q]; decide, rfl⟩) (fun n6 => ?_)
    refine w_kstep 1 1 (nI 0) (by decide) (by decide) (by decide) (fun q => ⟨by rw [if_pos]; rw [← q]; decide, rfl⟩) (fun n1 => ?_)
    refine w_kstep 0 2 (-1) (by decide) (by decide) (by decide) (fun q => ⟨by rw [if_pos]; rw [← q]; decide, rfl⟩) (fun n0 => ?_)
    exact w_kend 3 ⟨by rw [if_neg (show ¬ a ∈ chn 6 from by simp only [chn, List.mem_cons, List.not_mem_nil, or_false, not_or]; exact ⟨fun q => n6 (q.symm), fun q => n1 (q.symm), fun q => n0 (q.symm)⟩)], rfl⟩
set_option maxHeartbeats 4000000 in
theorem c5_hold {n : Nat} {mem : Mem} (h : PN mem 1 n) (a f : Int32) : CnI mX5_hold [.ref 0, .int a, .int f] mem (fun x m' => ((inR a 0 9 = 0 ∨ (¬ f = -1 ∧ inR f 0 (nI n - 1) = 0)) ∧ x = -1000001 ∧ m' = fnd mem 0) ∨ (∃ i, i < 10 ∧ a = nI i ∧ (f = -1 ∨ ¬ inR f 0 (nI n - 1) = 0) ∧ x = 1 ∧ m' = up2 mem 12 i f)) := by
  refine Cn.of (ls := [some (.ref 0), some (.int a), some (.int f)]) (by decide) rfl (Nat.le_of_ble_eq_true rfl) ?_
  refine w_iload_n (i := 1) (n' := 1) dX5_hold_0 rfl rfl rfl ?_
  refine w_iconst (v := 0) (n' := 2) dX5_hold_1 rfl rfl ?_
  refine w_bipush (v := 9) (n' := 4) dX5_hold_2 rfl (by decide) ?_
  refine s_E (n' := 7) dX5_hold_4 rfl lRX5_53 okX5_within stX5_within ⟨⟨Nat.le_of_ble_eq_true rfl, Nat.le_of_ble_eq_true rfl⟩, Nat.le_of_ble_eq_true rfl, Nat.le_of_ble_eq_true rfl⟩ (c_within _ _ _ _) rfl rfl (Nat.le_of_ble_eq_true rfl) ?_
  refine w_if_eq (n' := 10) (tgt := 26) dX5_hold_7 rfl rfl (fun h7 => ?_) (fun h7 => ?_)
  · refine w_aload_n (i := 0) (n' := 27) dX5_hold_26 rfl rfl rfl ?_
    refine w_iconst (v := 0) (n' := 28) dX5_hold_27 rfl rfl ?_
    refine v_E (ci := 5) (n' := 31) dX5_hold_28 rfl lRX5_57 okX5_finding voX5_finding ⟨⟨Nat.le_of_ble_eq_true rfl, Nat.le_of_ble_eq_true rfl⟩, Nat.le_of_ble_eq_true rfl, Nat.le_of_ble_eq_true rfl⟩ (c_finding 0 _ (by decide) (by decide) _) rfl rfl (Nat.le_of_ble_eq_true rfl) rfl (Nat.le_of_ble_eq_true rfl) rfl ?_
    exact w_iret dX5_hold_31 rfl ⟨_, rfl, Or.inl ⟨Or.inl h7, rfl, rfl⟩⟩
  · obtain ⟨i, hi1, hi2⟩ := inR_of (N := 9) (by decide) h7
    refine w_iload_n (i := 2) (n' := 11) dX5_hold_10 rfl rfl rfl ?_
    refine w_iconst (v := -1) (n' := 12) dX5_hold_11 rfl rfl ?_
    refine w_icmp_eq (n' := 15) (tgt := 32) dX5_hold_12 rfl rfl (fun h12 => ?_) (fun h12 => ?_)
    · refine w_aload_n (i := 0) (n' := 33) dX5_hold_32 rfl rfl rfl ?_
      refine w_get (ci := 5) (j := 0) (n' := 36) dX5_hold_33 rfl fRX5_10 (Nat.le_of_ble_eq_true rfl) (Nat.le_of_ble_eq_true rfl) rfl rfl ?_
      refine w_get (ci := 1) (j := 2) (n' := 39) dX5_hold_36 rfl fRX5_240 (Nat.le_of_ble_eq_true rfl) (Nat.le_of_ble_eq_true rfl) rfl rfl ?_
      refine w_iload_n (i := 1) (n' := 40) dX5_hold_39 rfl rfl rfl ?_
      refine w_iload_n (i := 2) (n' := 41) dX5_hold_40 rfl rfl rfl ?_
      refine w_iast (n := i) (n' := 42) dX5_hold_41 rfl rfl hi2 (show i < 10 by omega) ?_
      refine w_iconst (v := 1) (n' := 43) dX5_hold_42 rfl rfl ?_
      exact w_iret dX5_hold_43 rfl ⟨_, rfl, Or.inr ⟨i, by omega, hi2, Or.inl h12, rfl, rfl⟩⟩
    · refine w_aload_n (i := 0) (n' := 16) dX5_hold_15 rfl rfl rfl ?_
      refine w_get (ci := 5) (j := 0) (n' := 19) dX5_hold_16 rfl fRX5_10 (Nat.le_of_ble_eq_true rfl) (Nat.le_of_ble_eq_true rfl) rfl rfl ?_
      refine w_iload_n (i := 2) (n' := 20) dX5_hold_19 rfl rfl rfl ?_
      refine v_E (ci := 1) (n' := 23) dX5_hold_20 rfl lRX5_78 okX1_hasFarm voX1_hasFarm ⟨⟨Nat.le_of_ble_eq_true rfl, Nat.le_of_ble_eq_true rfl⟩, Nat.le_of_ble_eq_true rfl, Nat.le_of_ble_eq_true rfl⟩ (c_hasFarm rfl _ _) rfl rfl (Nat.le_of_ble_eq_true rfl) rfl (Nat.le_of_ble_eq_true rfl) rfl ?_
      refine w_if_ne (n' := 26) (tgt := 32) dX5_hold_23 rfl rfl (fun h23 => ?_) (fun h23 => ?_)
      · rw [h.2.1] at h23
        refine w_aload_n (i := 0) (n' := 33) dX5_hold_32 rfl rfl rfl ?_
        refine w_get (ci := 5) (j := 0) (n' := 36) dX5_hold_33 rfl fRX5_10 (Nat.le_of_ble_eq_true rfl) (Nat.le_of_ble_eq_true rfl) rfl rfl ?_
        refine w_get (ci := 1) (j := 2) (n' := 39) dX5_hold_36 rfl fRX5_240 (Nat.le_of_ble_eq_true rfl) (Nat.le_of_ble_eq_true rfl) rfl rfl ?_
        refine w_iload_n (i := 1) (n' := 40) dX5_hold_39 rfl rfl rfl ?_
        refine w_iload_n (i := 2) (n' := 41) dX5_hold_40 rfl rfl rfl ?_
        refine w_iast (n := i) (n' := 42) dX5_hold_41 rfl rfl hi2 (show i < 10 by omega) ?_
        refine w_iconst (v := 1) (n' := 43) dX5_hold_42 rfl rfl ?_
        exact w_iret dX5_hold_43 rfl ⟨_, rfl, Or.inr ⟨i, by omega, hi2, Or.inr h23, rfl, rfl⟩⟩
      · refine w_aload_n (i := 0) (n' := 27) dX5_hold_26 rfl rfl rfl ?_
        refine w_iconst (v := 0) (n' := 28) dX5_hold_27 rfl rfl ?_
        refine v_E (ci := 5) (n' := 31) dX5_hold_28 rfl lRX5_57 okX5_finding voX5_finding ⟨⟨Nat.le_of_ble_eq_true rfl, Nat.le_of_ble_eq_true rfl⟩, Nat.le_of_ble_eq_true rfl, Nat.le_of_ble_eq_true rfl⟩ (c_finding 0 _ (by decide) (by decide) _) rfl rfl (Nat.le_of_ble_eq_true rfl) rfl (Nat.le_of_ble_eq_true rfl) rfl ?_
        exact w_iret dX5_hold_31 rfl ⟨_, rfl, Or.inl ⟨Or.inr ⟨h12, by simpa [h.2.1] using h23⟩, rfl, rfl⟩⟩
set_option maxHeartbeats 4000000 in
theorem c5_as {n : Nat} {mem : Mem} (h : PN mem 1 n) (hK : ∀ r, r < n → ∃ o, o < 7 ∧ mem (4 + r) 0 = nI o) (a b : Int32) : CnI mX5_as [.ref 0, .int a, .int b] mem (fun x m' => ((inR a 0 9 = 0 ∨ inR b 0 6 = 0) ∧ x = -1000001 ∧ m' = fnd mem 0) ∨ (∃ i, i < 10 ∧ a = nI i ∧ ¬ inR b 0 6 = 0 ∧ ((inR (mem 12 i) 0 (nI n - 1) = 0 ∧ x = -1000006 ∧ m' = fnd mem 5) ∨ (∃ r o, r < n ∧ mem 12 i = nI r ∧ o < 7 ∧ mem (4 + r) 0 = nI o ∧ ((b ∈ chn o ∧ x = nI r ∧ m' = mem) ∨ (¬ b ∈ chn o ∧ x = -1000003 ∧ m' = fnd mem 2)))))) := by
  refine Cn.of (ls := [some (.ref 0), some (.int a), some (.int b), none]) (by decide) rfl (Nat.le_of_ble_eq_true rfl) ?_
  refine w_iload_n (i := 1) (n' := 1) dX5_as_0 rfl rfl rfl ?_
  refine w_iconst (v := 0) (n' := 2) dX5_as_1 rfl rfl ?_
  refine w_bipush (v := 9) (n' := 4) dX5_as_2 rfl (by decide) ?_
  refine s_E (n' := 7) dX5_as_4 rfl lRX5_53 okX5_within stX5_within ⟨⟨Nat.le_of_ble_eq_true rfl, Nat.le_of_ble_eq_true rfl⟩, Nat.le_of_ble_eq_true rfl, Nat.le_of_ble_eq_true rfl⟩ (c_within _ _ _ _) rfl rfl (Nat.le_of_ble_eq_true rfl) ?_
  refine w_if_eq (n' := 10) (tgt := 18) dX5_as_7 rfl rfl (fun h7 => ?_) (fun h7 => ?_)
  · refine w_aload_n (i := 0) (n' := 19) dX5_as_18 rfl rfl rfl ?_
    refine w_iconst (v := 0) (n' := 20) dX5_as_19 rfl rfl ?_
    refine v_E (ci := 5) (n' := 23) dX5_as_20 rfl lRX5_57 okX5_finding voX5_finding ⟨⟨Nat.le_of_ble_eq_true rfl, Nat.le_of_ble_eq_true rfl⟩, Nat.le_of_ble_eq_true rfl, Nat.le_of_ble_eq_true rfl⟩ (c_finding 0 _ (by decide) (by decide) _) rfl rfl (Nat.le_of_ble_eq_true rfl) rfl (Nat.le_of_ble_eq_true rfl) rfl ?_
    exact w_iret dX5_as_23 rfl ⟨_, rfl, Or.inl ⟨Or.inl h7, rfl, rfl⟩⟩
  · obtain ⟨i, hi1, hi2⟩ := inR_of (N := 9) (by decide) h7
    refine w_iconst (v := 0) (n' := 11) dX5_as_10 rfl rfl ?_
    refine w_iload_n (i := 2) (n' := 12) dX5_as_11 rfl rfl rfl ?_
    refine s_E (n' := 15) dX5_as_12 rfl lRX5_64 okX0_mayBe stX0_mayBe ⟨⟨Nat.le_of_ble_eq_true rfl, Nat.le_of_ble_eq_true rfl⟩, Nat.le_of_ble_eq_true rfl, Nat.le_of_ble_eq_true rfl⟩ (c_may0 _ _) rfl rfl (Nat.le_of_ble_eq_true rfl) ?_
    refine w_if_ne (n' := 18) (tgt := 24) dX5_as_15 rfl rfl (fun h15 => ?_) (fun h15 => ?_)
    · refine w_aload_n (i := 0) (n' := 25) dX5_as_24 rfl rfl rfl ?_
      refine w_get (ci := 5) (j := 0) (n' := 28) dX5_as_25 rfl fRX5_10 (Nat.le_of_ble_eq_true rfl) (Nat.le_of_ble_eq_true rfl) rfl rfl ?_
      refine w_get (ci := 1) (j := 2) (n' := 31) dX5_as_28 rfl fRX5_240 (Nat.le_of_ble_eq_true rfl) (Nat.le_of_ble_eq_true rfl) rfl rfl ?_
      refine w_iload_n (i := 1) (n' := 32) dX5_as_31 rfl rfl rfl ?_
      refine w_iald (n := i) (n' := 33) dX5_as_32 rfl rfl hi2 (show i < 10 by omega) ?_
      refine w_istore_n (i := 3) (n' := 34) (ls' := [_, _, _, _]) dX5_as_33 rfl rfl (Nat.le_of_ble_eq_true rfl) rfl rfl ?_
      refine w_aload_n (i := 0) (n' := 35) dX5_as_34 rfl rfl rfl ?_
      refine w_get (ci := 5) (j := 0) (n' := 38) dX5_as_35 rfl fRX5_10 (Nat.le_of_ble_eq_true rfl) (Nat.le_of_ble_eq_true rfl) rfl rfl ?_
      refine w_iload_n (i := 3) (n' := 39) dX5_as_38 rfl rfl rfl ?_
      refine v_E (ci := 1) (n' := 42) dX5_as_39 rfl lRX5_78 okX1_hasFarm voX1_hasFarm ⟨⟨Nat.le_of_ble_eq_true rfl, Nat.le_of_ble_eq_true rfl⟩, Nat.le_of_ble_eq_true rfl, Nat.le_of_ble_eq_true rfl⟩ (c_hasFarm rfl _ _) rfl rfl (Nat.le_of_ble_eq_true rfl) rfl (Nat.le_of_ble_eq_true rfl) rfl ?_
      refine w_if_ne (n' := 45) (tgt := 51) dX5_as_42 rfl rfl (fun h42 => ?_) (fun h42 => ?_)
      · obtain ⟨r, hr1, hr2⟩ := hasF_of (n := n) (by have := h.2.2; omega) (by rw [← h.2.1]; exact h42)
        obtain ⟨o, ho1, ho2⟩ := hK r hr1
        refine w_aload_n (i := 0) (n' := 52) dX5_as_51 rfl rfl rfl ?_
        refine w_get (ci := 5) (j := 0) (n' := 55) dX5_as_52 rfl fRX5_10 (Nat.le_of_ble_eq_true rfl) (Nat.le_of_ble_eq_true rfl) rfl rfl ?_
        refine w_get (ci := 1) (j := 1) (n' := 58) dX5_as_55 rfl fRX5_82 (Nat.le_of_ble_eq_true rfl) (Nat.le_of_ble_eq_true rfl) rfl rfl ?_
        refine w_iload_n (i := 3) (n' := 59) dX5_as_58 rfl rfl rfl ?_
        refine w_aaldF (n := r) (n' := 60) dX5_as_59 rfl rfl hr2 (show r < 8 by have := h.2.2; omega) ?_
        refine w_iload_n (i := 2) (n' := 61) dX5_as_60 rfl rfl rfl ?_
        refine v_E (ci := 0) (n' := 64) dX5_as_61 rfl lRX5_243 okX0_isOfKind voX0_isOfKind ⟨⟨Nat.le_of_ble_eq_true rfl, Nat.le_of_ble_eq_true rfl⟩, Nat.le_of_ble_eq_true rfl, Nat.le_of_ble_eq_true rfl⟩ (c_isOfKind (show kd (4 + r) = 0 from (kPa (k := 1) rfl).2.2.1 r (by have := h.2.2; omega)) _ o ho1 _ ho2) rfl rfl (Nat.le_of_ble_eq_true rfl) (show kd (4 + r) = 0 from (kPa (k := 1) rfl).2.2.1 r (by have := h.2.2; omega)) (Nat.le_of_ble_eq_true rfl) rfl ?_
        refine w_if_eq (n' := 67) (tgt := 71) dX5_as_64 rfl rfl (fun h64 => ?_) (fun h64 => ?_)
        · have hb : ¬ b ∈ chn o := fun q => by
            rw [if_pos q] at h64
            exact absurd h64 (by decide)
          refine w_aload_n (i := 0) (n' := 72) dX5_as_71 rfl rfl rfl ?_
          refine w_iconst (v := 2) (n' := 73) dX5_as_72 rfl rfl ?_
          refine v_E (ci := 5) (n' := 76) dX5_as_73 rfl lRX5_57 okX5_finding voX5_finding ⟨⟨Nat.le_of_ble_eq_true rfl, Nat.le_of_ble_eq_true rfl⟩, Nat.le_of_ble_eq_true rfl, Nat.le_of_ble_eq_true rfl⟩ (c_finding 2 _ (by decide) (by decide) _) rfl rfl (Nat.le_of_ble_eq_true rfl) rfl (Nat.le_of_ble_eq_true rfl) rfl ?_
          exact w_iret dX5_as_76 rfl ⟨_, rfl, Or.inr ⟨i, by omega, hi2, h15, Or.inr ⟨r, o, hr1, hr2, ho1, ho2, Or.inr ⟨hb, rfl, rfl⟩⟩⟩⟩
        · have hb : b ∈ chn o := by
            by_cases q : b ∈ chn o
            · exact q
            · exact absurd (if_neg q) h64
          refine w_iload_n (i := 3) (n' := 68) dX5_as_67 rfl rfl rfl ?_
          refine w_goto (tgt := 76) dX5_as_68 rfl ?_
          exact w_iret dX5_as_76 rfl ⟨_, rfl, Or.inr ⟨i, by omega, hi2, h15, Or.inr ⟨r, o, hr1, hr2, ho1, ho2, Or.inl ⟨hb, hr2, rfl⟩⟩⟩⟩
      · refine w_aload_n (i := 0) (n' := 46) dX5_as_45 rfl rfl rfl ?_
        refine w_iconst (v := 5) (n' := 47) dX5_as_46 rfl rfl ?_
        refine v_E (ci := 5) (n' := 50) dX5_as_47 rfl lRX5_57 okX5_finding voX5_finding ⟨⟨Nat.le_of_ble_eq_true rfl, Nat.le_of_ble_eq_true rfl⟩, Nat.le_of_ble_eq_true rfl, Nat.le_of_ble_eq_true rfl⟩ (c_finding 5 _ (by decide) (by decide) _) rfl rfl (Nat.le_of_ble_eq_true rfl) rfl (Nat.le_of_ble_eq_true rfl) rfl ?_
        exact w_iret dX5_as_50 rfl ⟨_, rfl, Or.inr ⟨i, by omega, hi2, h15, Or.inl ⟨by simpa [h.2.1] using h42, rfl, rfl⟩⟩⟩
    · refine w_aload_n (i := 0) (n' := 19) dX5_as_18 rfl rfl rfl ?_
      refine w_iconst (v := 0) (n' := 20) dX5_as_19 rfl rfl ?_
      refine v_E (ci := 5) (n' := 23) dX5_as_20 rfl lRX5_57 okX5_finding voX5_finding ⟨⟨Nat.le_of_ble_eq_true rfl, Nat.le_of_ble_eq_true rfl⟩, Nat.le_of_ble_eq_true rfl, Nat.le_of_ble_eq_true rfl⟩ (c_finding 0 _ (by decide) (by decide) _) rfl rfl (Nat.le_of_ble_eq_true rfl) rfl (Nat.le_of_ble_eq_true rfl) rfl ?_
      exact w_iret dX5_as_23 rfl ⟨_, rfl, Or.inl ⟨Or.inr (by simpa using h15), rfl, rfl⟩⟩
