/-! the reference: lending, telling, the voice, cuts, draws -/
def lentR (r : Nat → Int32) (a b : Nat) : Nat → Int32 := upd (upd r (6 + 5 * a + 2) (r (6 + 5 * a + 2) - 1)) (6 + 5 * b + 2) (r (6 + 5 * b + 2) + 1)
theorem lent_rw {mem s : Mem} {a b : Nat} (hne : a ≠ b) (h : RW mem (mem 51) s) : RW mem (lentR (mem 51) a b) (up2 (up2 s 51 (6 + 5 * a + 2) (s 51 (6 + 5 * a + 2) - 1)) 51 (6 + 5 * b + 2) (up2 s 51 (6 + 5 * a + 2) (s 51 (6 + 5 * a + 2) - 1) 51 (6 + 5 * b + 2) + 1)) := by
  refine ⟨?_, fun k k1 k2 => by rw [up2_ne _ _ _ k1, up2_ne _ _ _ k1]; exact h.2 k k1 k2⟩
  rw [up2_same, up2_same, h.1]
  unfold lentR
  have : ¬ 6 + 5 * b + 2 = 6 + 5 * a + 2 := by omega
  funext j
  simp only [upd, if_neg this]
theorem lent_back {mem s : Mem} {a b : Nat} (hne : a ≠ b) (h : RW mem (lentR (mem 51) a b) s) : RW mem (mem 51) (up2 (up2 s 51 (6 + 5 * a + 2) (s 51 (6 + 5 * a + 2) + 1)) 51 (6 + 5 * b + 2) (up2 s 51 (6 + 5 * a + 2) (s 51 (6 + 5 * a + 2) + 1) 51 (6 + 5 * b + 2) - 1)) := by
  refine ⟨?_, fun k k1 k2 => by rw [up2_ne _ _ _ k1, up2_ne _ _ _ k1]; exact h.2 k k1 k2⟩
  rw [up2_same, up2_same, h.1]
  have e1 : ¬ 6 + 5 * b + 2 = 6 + 5 * a + 2 := by omega
  have e2 : ¬ 6 + 5 * a + 2 = 6 + 5 * b + 2 := by omega
  have a1 : ∀ x : Int32, x - 1 + 1 = x := fun x => by rw [Int32.sub_add_cancel]
  have a2 : ∀ x : Int32, x + 1 - 1 = x := fun x => by rw [Int32.add_sub_cancel]
  funext j
  unfold lentR
  by_cases c1 : j = 6 + 5 * b + 2
  · subst c1
    simp only [upd, if_neg e1, if_true, a2]
  · by_cases c2 : j = 6 + 5 * a + 2
    · subst c2
      simp only [upd, if_neg e2, if_true, a1]
    · simp only [upd, if_neg c1, if_neg c2]
def lendR (r : Nat → Int32) (n : Nat) (f : Int32) (p : Nat) : Prop := p / 8 < n ∧ p % 8 < n ∧ p / 8 ≠ p % 8 ∧ ¬ r (6 + 5 * (p / 8) + 2) ≤ 1 ∧ r (6 + 5 * (p % 8) + 2) < 20 ∧ ¬ bitI (lastS (DR (lentR r (p / 8) (p % 8))) n) f = 0
theorem MOR_lent {r : Nat → Int32} {n a b : Nat} (h : MOR r n) (ha : a < n) (hb : b < n) (h1 : ¬ r (6 + 5 * a + 2) ≤ 1) (h2 : r (6 + 5 * b + 2) < 20) : MOR (lentR r a b) n := by
  obtain ⟨x, x1, x2, x3⟩ := (h.2.2.2 a ha).2.2.1
  obtain ⟨y, y1, y2, y3⟩ := (h.2.2.2 b hb).2.2.1
  dsimp only at x3 y3
  rw [x3] at h1
  rw [y3] at h2
  have hx : 1 < x := by
    rcases Nat.lt_or_ge 1 x with c | c
    · exact c
    · exact absurd (nI_le (b := 1) c (by omega)) h1
  have hy : y < 20 := by
    rcases Nat.lt_or_ge y 20 with c | c
    · exact c
    · exact absurd h2 (nI_nlt (b := 20) c (by omega))
  unfold lentR
  rw [x3, y3, nI_1, show (1 : Int32) = nI 1 from rfl, pk_sub (by omega)]
  exact MOR_hands (MOR_hands h (by omega) (by omega)) (by omega) (by omega)
theorem div8 : ∀ z, z < 64 → nI z / 8 = nI (z / 8) ∧ nI z - nI z / 8 * 8 = nI (z % 8) := by decide +kernel
theorem RW.QM {mem s : Mem} (h : RW mem (mem 51) s) : QM mem s := ⟨fun j _ => by rw [h.1], fun a a1 _ a3 _ => h.2 a a1 a3⟩
theorem FoI.keep {P : Nat → Prop} {lo z : Nat} {fo : Int32} (h : FoI P lo z fo) (hf : ¬ 0 ≤ fo) (h2 : z < 1000) (hp : ¬ P z) : FoI P lo (z + 1) fo := by
  have e : fo = -1 := by
    rcases h with h | h
    · exact h.1
    · exact absurd (by rw [h.1]; exact nI_pos' (by omega)) hf
  have := h.no hf h2 hp
  rwa [← e] at this
theorem hasF_no {n a : Nat} (hn : n ≤ 1000) (ha : a ≤ 1000) (h : inR (nI a) 0 (nI n - 1) = 0) : ¬ a < n := fun c => by
  rw [hasF_in hn c] at h
  exact absurd h (by decide)
theorem hasF_yes {n a : Nat} (hn : n ≤ 1000) (ha : a ≤ 1000) (h : ¬ inR (nI a) 0 (nI n - 1) = 0) : a < n := by
  obtain ⟨i, h1, h2⟩ := hasF_of hn h
  have := (nI_eq (by omega) (by omega)).mp h2
  omega
set_option maxHeartbeats 4000000 in
theorem c6_lend {n : Nat} {mem : Mem} (h : MO mem n) (f : Int32) : CnI mX6_lend [.ref 50, .int f] mem (fun x m' => (inR f 0 (nI n - 1) = 0 ∧ x = -1000001 ∧ m' = fndM mem 0) ∨ (¬ inR f 0 (nI n - 1) = 0 ∧ ∃ y, Fst (lendR (mem 51) n f) 0 63 y ∧ ((y ≤ 63 ∧ x = nI y ∧ QM mem m') ∨ (y = 64 ∧ x = -1000004 ∧ (∃ m2, QM mem m2 ∧ m' = fndM m2 3))))) := by
  have h8 := h.2.1
  have hR := MO_R.mp h
  have hix : ∀ a : Nat, (6 : Int32) + 5 * nI a + 2 = nI (6 + 5 * a + 2) := fun a => by
    rw [show (6 : Int32) = nI 6 from rfl, show (5 : Int32) = nI 5 from rfl, show (2 : Int32) = nI 2 from rfl, pk_mul, nI_add, nI_add]
  refine Cn.of (ls := [some (.ref 50), some (.int f), none, none, none, none]) (by decide) rfl (Nat.le_of_ble_eq_true rfl) ?_
  refine w_aload_n (i := 0) (n' := 1) dX6_lend_0 rfl rfl rfl ?_
  refine w_iload_n (i := 1) (n' := 2) dX6_lend_1 rfl rfl rfl ?_
  refine v_E (ci := 6) (n' := 5) dX6_lend_2 rfl lRX6_82 okX6_isFarm voX6_isFarm ⟨⟨Nat.le_of_ble_eq_true rfl, Nat.le_of_ble_eq_true rfl⟩, Nat.le_of_ble_eq_true rfl, Nat.le_of_ble_eq_true rfl⟩ (c6_isFarm h.1 h.2.1 _) rfl rfl (Nat.le_of_ble_eq_true rfl) rfl (Nat.le_of_ble_eq_true rfl) rfl ?_
  refine w_if_ne (n' := 8) (tgt := 15) dX6_lend_5 rfl rfl (fun h5 => ?_) (fun h5 => ?_)
  · refine w_iconst (v := -1) (n' := 16) dX6_lend_15 rfl rfl ?_
    refine w_istore_n (i := 2) (n' := 17) (ls' := [_, _, _, _, _, _]) dX6_lend_16 rfl rfl (Nat.le_of_ble_eq_true rfl) rfl rfl ?_
    refine w_iconst (v := 0) (n' := 18) dX6_lend_17 rfl rfl ?_
    refine w_istore_n (i := 3) (n' := 19) (ls' := [_, _, _, _, _, _]) dX6_lend_18 rfl rfl (Nat.le_of_ble_eq_true rfl) rfl rfl ?_
    have L : ∀ (z : Nat) (st : Int32 × Option Value × Option Value × Mem), z ≤ 64 → (RW mem (mem 51) st.2.2.2 ∧ FoI (lendR (mem 51) n f) 0 z st.1) → Wm mX6_lend (zM mX6_lend (fun rZ mZ => ∃ xZ, rZ = some (.int xZ) ∧ (fun x m' => (inR f 0 (nI n - 1) = 0 ∧ x = -1000001 ∧ m' = fndM mem 0) ∨ (¬ inR f 0 (nI n - 1) = 0 ∧ ∃ y, Fst (lendR (mem 51) n f) 0 63 y ∧ ((y ≤ 63 ∧ x = nI y ∧ QM mem m') ∨ (y = 64 ∧ x = -1000004 ∧ (∃ m2, QM mem m2 ∧ m' = fndM m2 3))))) xZ mZ)) 19 [some (.ref 50), some (.int f), some (.int st.1), some (.int (nI z)), st.2.1, st.2.2.1] [] st.2.2.2 := by
      refine for_ind 64 ?_
      rintro z ⟨fo, l4, l5, s⟩ hz ⟨h1, h2⟩ ih
      dsimp only at h1 h2 ih ⊢
      have hp := h1.MO hR
      refine w_iload_n (i := 3) (n' := 20) dX6_lend_19 rfl rfl rfl ?_
      refine w_bipush (v := 64) (n' := 22) dX6_lend_20 rfl (by decide) ?_
      refine w_icmp_ge (n' := 25) (tgt := 181) dX6_lend_22 rfl rfl (fun h22 => ?_) (fun h22 => ?_)
      · have hin : z = 64 := by
          rcases Nat.lt_or_ge z 64 with c | c
          · exact absurd h22 (by exact nI_ge (b := 64) c (by omega))
          · omega
        refine w_aload_n (i := 0) (n' := 182) dX6_lend_181 rfl rfl rfl ?_
        refine w_iload_n (i := 2) (n' := 183) dX6_lend_182 rfl rfl rfl ?_
        refine v_I (ci := 6) (n' := 186) dX6_lend_183 rfl lRX6_174 okX6_orNone voX6_orNone ⟨⟨Nat.le_of_ble_eq_true rfl, Nat.le_of_ble_eq_true rfl⟩, Nat.le_of_ble_eq_true rfl, Nat.le_of_ble_eq_true rfl⟩ (c6_orNone _ _) rfl rfl (Nat.le_of_ble_eq_true rfl) rfl (Nat.le_of_ble_eq_true rfl) rfl (fun x183 m183 q183 => ?_)
        exact w_iret dX6_lend_186 rfl ⟨_, rfl, Or.inr ⟨h5, FoI.fin2 h2 hz (Nat.zero_le _) (by decide) (Or.inl hin) q183 h1.QM⟩⟩
      · have hlt : z < 64 := by
          rcases Nat.lt_or_ge z 64 with c | c
          · exact c
          · exact absurd (by exact nI_le (a := 64) c (by omega)) h22
        obtain ⟨d1, d2⟩ := div8 z hlt
        refine w_iload_n (i := 2) (n' := 26) dX6_lend_25 rfl rfl rfl ?_
        refine w_if_ge (n' := 29) (tgt := 181) dX6_lend_26 rfl rfl (fun h26 => ?_) (fun h26 => ?_)
        · refine w_aload_n (i := 0) (n' := 182) dX6_lend_181 rfl rfl rfl ?_
          refine w_iload_n (i := 2) (n' := 183) dX6_lend_182 rfl rfl rfl ?_
          refine v_I (ci := 6) (n' := 186) dX6_lend_183 rfl lRX6_174 okX6_orNone voX6_orNone ⟨⟨Nat.le_of_ble_eq_true rfl, Nat.le_of_ble_eq_true rfl⟩, Nat.le_of_ble_eq_true rfl, Nat.le_of_ble_eq_true rfl⟩ (c6_orNone _ _) rfl rfl (Nat.le_of_ble_eq_true rfl) rfl (Nat.le_of_ble_eq_true rfl) rfl (fun x183 m183 q183 => ?_)
          exact w_iret dX6_lend_186 rfl ⟨_, rfl, Or.inr ⟨h5, FoI.fin2 h2 hz (Nat.zero_le _) (by decide) (Or.inr h26) q183 h1.QM⟩⟩
        · refine w_iload_n (i := 3) (n' := 30) dX6_lend_29 rfl rfl rfl ?_
          refine w_bipush (v := 8) (n' := 32) dX6_lend_30 rfl (by decide) ?_
          refine w_idiv (n' := 33) dX6_lend_32 rfl (by decide) ?_
          rw [d1]
          refine w_istore (n' := 35) (ls' := [_, _, _, _, _, _]) dX6_lend_33 rfl (Nat.le_of_ble_eq_true rfl) rfl rfl ?_
          refine w_iload_n (i := 3) (n' := 36) dX6_lend_35 rfl rfl rfl ?_
          refine w_bipush (v := 8) (n' := 38) dX6_lend_36 rfl (by decide) ?_
          refine w_irem (n' := 39) dX6_lend_38 rfl (by decide) ?_
          rw [d2]
          refine w_istore (n' := 41) (ls' := [_, _, _, _, _, _]) dX6_lend_39 rfl (Nat.le_of_ble_eq_true rfl) rfl rfl ?_
          refine w_iload (n' := 43) dX6_lend_41 rfl rfl ?_
          refine w_iload (n' := 45) dX6_lend_43 rfl rfl ?_
          refine w_icmp_eq (n' := 48) (tgt := 175) dX6_lend_45 rfl rfl (fun h45 => ?_) (fun h45 => ?_)
          · refine w_iinc (n' := 178) (v := nI (z + 1)) (ls' := [_, _, _, _, _, _]) dX6_lend_175 rfl rfl (nI_1 z) (Nat.le_of_ble_eq_true rfl) rfl rfl ?_
            refine w_goto (tgt := 19) dX6_lend_178 rfl ?_
            exact ih hlt (_, _, _, _) ⟨h1, h2.keep h26 (by omega) (fun q => q.2.2.1 ((nI_eq (by omega) (by omega)).mp h45))⟩
          · have hne : z / 8 ≠ z % 8 := fun q => h45 (by rw [q])
            refine w_aload_n (i := 0) (n' := 49) dX6_lend_48 rfl rfl rfl ?_
            refine w_iload (n' := 51) dX6_lend_49 rfl rfl ?_
            refine v_E (ci := 6) (n' := 54) dX6_lend_51 rfl lRX6_82 okX6_isFarm voX6_isFarm ⟨⟨Nat.le_of_ble_eq_true rfl, Nat.le_of_ble_eq_true rfl⟩, Nat.le_of_ble_eq_true rfl, Nat.le_of_ble_eq_true rfl⟩ (c6_isFarm hp.1 h8 _) rfl rfl (Nat.le_of_ble_eq_true rfl) rfl (Nat.le_of_ble_eq_true rfl) rfl ?_
            refine w_if_eq (n' := 57) (tgt := 175) dX6_lend_54 rfl rfl (fun h54 => ?_) (fun h54 => ?_)
            · refine w_iinc (n' := 178) (v := nI (z + 1)) (ls' := [_, _, _, _, _, _]) dX6_lend_175 rfl rfl (nI_1 z) (Nat.le_of_ble_eq_true rfl) rfl rfl ?_
              refine w_goto (tgt := 19) dX6_lend_178 rfl ?_
              exact ih hlt (_, _, _, _) ⟨h1, h2.keep h26 (by omega) (fun q => hasF_no (by omega) (by omega) h54 q.1)⟩
            · have ha := hasF_yes (by omega) (by omega) h54
              refine w_aload_n (i := 0) (n' := 58) dX6_lend_57 rfl rfl rfl ?_
              refine w_iload (n' := 60) dX6_lend_58 rfl rfl ?_
              refine v_E (ci := 6) (n' := 63) dX6_lend_60 rfl lRX6_82 okX6_isFarm voX6_isFarm ⟨⟨Nat.le_of_ble_eq_true rfl, Nat.le_of_ble_eq_true rfl⟩, Nat.le_of_ble_eq_true rfl, Nat.le_of_ble_eq_true rfl⟩ (c6_isFarm hp.1 h8 _) rfl rfl (Nat.le_of_ble_eq_true rfl) rfl (Nat.le_of_ble_eq_true rfl) rfl ?_
              refine w_if_eq (n' := 66) (tgt := 175) dX6_lend_63 rfl rfl (fun h63 => ?_) (fun h63 => ?_)
              · refine w_iinc (n' := 178) (v := nI (z + 1)) (ls' := [_, _, _, _, _, _]) dX6_lend_175 rfl rfl (nI_1 z) (Nat.le_of_ble_eq_true rfl) rfl rfl ?_
                refine w_goto (tgt := 19) dX6_lend_178 rfl ?_
                exact ih hlt (_, _, _, _) ⟨h1, h2.keep h26 (by omega) (fun q => hasF_no (by omega) (by omega) h63 q.2.1)⟩
              · have hb := hasF_yes (by omega) (by omega) h63
                refine w_aload_n (i := 0) (n' := 67) dX6_lend_66 rfl rfl rfl ?_
                refine w_iload (n' := 69) dX6_lend_67 rfl rfl ?_
                refine w_iconst (v := 2) (n' := 70) dX6_lend_69 rfl rfl ?_
                refine v_E (ci := 6) (n' := 73) dX6_lend_70 rfl lRX6_70 okX6_its voX6_its ⟨⟨Nat.le_of_ble_eq_true rfl, Nat.le_of_ble_eq_true rfl⟩, Nat.le_of_ble_eq_true rfl, Nat.le_of_ble_eq_true rfl⟩ (c6_its (i := z / 8) (j := 2) _ _ rfl (by decide) (by omega) _) rfl rfl (Nat.le_of_ble_eq_true rfl) rfl (Nat.le_of_ble_eq_true rfl) rfl ?_
                refine w_iconst (v := 1) (n' := 74) dX6_lend_73 rfl rfl ?_
                refine w_icmp_le (n' := 77) (tgt := 175) dX6_lend_74 rfl rfl (fun h74 => ?_) (fun h74 => ?_)
                · refine w_iinc (n' := 178) (v := nI (z + 1)) (ls' := [_, _, _, _, _, _]) dX6_lend_175 rfl rfl (nI_1 z) (Nat.le_of_ble_eq_true rfl) rfl rfl ?_
                  refine w_goto (tgt := 19) dX6_lend_178 rfl ?_
                  exact ih hlt (_, _, _, _) ⟨h1, h2.keep h26 (by omega) (fun q => q.2.2.2.1 (by rw [← h1.1]; exact h74))⟩
                · have h74' : ¬ mem 51 (6 + 5 * (z / 8) + 2) ≤ 1 := by rw [← h1.1]; exact h74
                  refine w_aload_n (i := 0) (n' := 78) dX6_lend_77 rfl rfl rfl ?_
                  refine w_iload (n' := 80) dX6_lend_78 rfl rfl ?_
                  refine w_iconst (v := 2) (n' := 81) dX6_lend_80 rfl rfl ?_
                  refine v_E (ci := 6) (n' := 84) dX6_lend_81 rfl lRX6_70 okX6_its voX6_its ⟨⟨Nat.le_of_ble_eq_true rfl, Nat.le_of_ble_eq_true rfl⟩, Nat.le_of_ble_eq_true rfl, Nat.le_of_ble_eq_true rfl⟩ (c6_its (i := z % 8) (j := 2) _ _ rfl (by decide) (by omega) _) rfl rfl (Nat.le_of_ble_eq_true rfl) rfl (Nat.le_of_ble_eq_true rfl) rfl ?_
                  refine w_bipush (v := 20) (n' := 86) dX6_lend_84 rfl (by decide) ?_
                  refine w_icmp_ge (n' := 89) (tgt := 175) dX6_lend_86 rfl rfl (fun h86 => ?_) (fun h86 => ?_)
                  · refine w_iinc (n' := 178) (v := nI (z + 1)) (ls' := [_, _, _, _, _, _]) dX6_lend_175 rfl rfl (nI_1 z) (Nat.le_of_ble_eq_true rfl) rfl rfl ?_
                    refine w_goto (tgt := 19) dX6_lend_178 rfl ?_
                    exact ih hlt (_, _, _, _) ⟨h1, h2.keep h26 (by omega) (fun q => absurd q.2.2.2.2.1 (by rw [← h1.1]; exact Int32.not_lt.mpr h86))⟩
                  · have h86' : mem 51 (6 + 5 * (z % 8) + 2) < 20 := by rw [← h1.1]; exact Int32.not_le.mp h86
                    refine w_aload_n (i := 0) (n' := 90) dX6_lend_89 rfl rfl rfl ?_
                    refine w_get (ci := 6) (j := 0) (n' := 93) dX6_lend_90 rfl fRX6_7 (Nat.le_of_ble_eq_true rfl) (Nat.le_of_ble_eq_true rfl) rfl rfl ?_
                    refine w_bipush (v := 6) (n' := 95) dX6_lend_93 rfl (by decide) ?_
                    refine w_iconst (v := 5) (n' := 96) dX6_lend_95 rfl rfl ?_
                    refine w_iload (n' := 98) dX6_lend_96 rfl rfl ?_
                    refine w_imul (n' := 99) dX6_lend_98 rfl ?_
                    refine w_iadd (n' := 100) dX6_lend_99 rfl ?_
                    refine w_iconst (v := 2) (n' := 101) dX6_lend_100 rfl rfl ?_
                    refine w_iadd (n' := 102) dX6_lend_101 rfl ?_
                    refine w_dup2 (n' := 103) dX6_lend_102 rfl rfl rfl ?_
                    refine w_iald (n := 6 + 5 * (z / 8) + 2) (n' := 104) dX6_lend_103 rfl rfl (hix _) (show 6 + 5 * (z / 8) + 2 < 56 by omega) ?_
                    refine w_iconst (v := 1) (n' := 105) dX6_lend_104 rfl rfl ?_
                    refine w_isub (n' := 106) dX6_lend_105 rfl ?_
                    refine w_iast (n := 6 + 5 * (z / 8) + 2) (n' := 107) dX6_lend_106 rfl rfl (hix _) (show 6 + 5 * (z / 8) + 2 < 56 by omega) ?_
                    refine w_aload_n (i := 0) (n' := 108) dX6_lend_107 rfl rfl rfl ?_
                    refine w_get (ci := 6) (j := 0) (n' := 111) dX6_lend_108 rfl fRX6_7 (Nat.le_of_ble_eq_true rfl) (Nat.le_of_ble_eq_true rfl) rfl rfl ?_
                    refine w_bipush (v := 6) (n' := 113) dX6_lend_111 rfl (by decide) ?_
                    refine w_iconst (v := 5) (n' := 114) dX6_lend_113 rfl rfl ?_
                    refine w_iload (n' := 116) dX6_lend_114 rfl rfl ?_
                    refine w_imul (n' := 117) dX6_lend_116 rfl ?_
                    refine w_iadd (n' := 118) dX6_lend_117 rfl ?_
                    refine w_iconst (v := 2) (n' := 119) dX6_lend_118 rfl rfl ?_
                    refine w_iadd (n' := 120) dX6_lend_119 rfl ?_
                    refine w_dup2 (n' := 121) dX6_lend_120 rfl rfl rfl ?_
                    refine w_iald (n := 6 + 5 * (z % 8) + 2) (n' := 122) dX6_lend_121 rfl rfl (hix _) (show 6 + 5 * (z % 8) + 2 < 56 by omega) ?_
                    refine w_iconst (v := 1) (n' := 123) dX6_lend_122 rfl rfl ?_
                    refine w_iadd (n' := 124) dX6_lend_123 rfl ?_
                    refine w_iast (n := 6 + 5 * (z % 8) + 2) (n' := 125) dX6_lend_124 rfl rfl (hix _) (show 6 + 5 * (z % 8) + 2 < 56 by omega) ?_
                    have h3 := lent_rw hne h1
                    have hq := h3.MO (MOR_lent hR ha hb h74' h86')
                    refine w_aload_n (i := 0) (n' := 126) dX6_lend_125 rfl rfl rfl ?_
                    refine w_iload_n (i := 1) (n' := 127) dX6_lend_126 rfl rfl rfl ?_
                    refine v_E (ci := 6) (n' := 130) dX6_lend_127 rfl lRX6_171 okX6_isLast voX6_isLast ⟨⟨Nat.le_of_ble_eq_true rfl, Nat.le_of_ble_eq_true rfl⟩, Nat.le_of_ble_eq_true rfl, Nat.le_of_ble_eq_true rfl⟩ (c6_isLast hq _) rfl rfl (Nat.le_of_ble_eq_true rfl) rfl (Nat.le_of_ble_eq_true rfl) rfl ?_
                    refine w_if_eq (n' := 133) (tgt := 137) dX6_lend_130 rfl rfl (fun h130 => ?_) (fun h130 => ?_)
                    · refine w_iconst (v := -1) (n' := 138) dX6_lend_137 rfl rfl ?_
                      refine w_istore_n (i := 2) (n' := 139) (ls' := [_, _, _, _, _, _]) dX6_lend_138 rfl rfl (Nat.le_of_ble_eq_true rfl) rfl rfl ?_
                      refine w_aload_n (i := 0) (n' := 140) dX6_lend_139 rfl rfl rfl ?_
                      refine w_get (ci := 6) (j := 0) (n' := 143) dX6_lend_140 rfl fRX6_7 (Nat.le_of_ble_eq_true rfl) (Nat.le_of_ble_eq_true rfl) rfl rfl ?_
                      refine w_bipush (v := 6) (n' := 145) dX6_lend_143 rfl (by decide) ?_
                      refine w_iconst (v := 5) (n' := 146) dX6_lend_145 rfl rfl ?_
                      refine w_iload (n' := 148) dX6_lend_146 rfl rfl ?_
                      refine w_imul (n' := 149) dX6_lend_148 rfl ?_
                      refine w_iadd (n' := 150) dX6_lend_149 rfl ?_
                      refine w_iconst (v := 2) (n' := 151) dX6_lend_150 rfl rfl ?_
                      refine w_iadd (n' := 152) dX6_lend_151 rfl ?_
                      refine w_dup2 (n' := 153) dX6_lend_152 rfl rfl rfl ?_
                      refine w_iald (n := 6 + 5 * (z / 8) + 2) (n' := 154) dX6_lend_153 rfl rfl (hix _) (show 6 + 5 * (z / 8) + 2 < 56 by omega) ?_
                      refine w_iconst (v := 1) (n' := 155) dX6_lend_154 rfl rfl ?_
                      refine w_iadd (n' := 156) dX6_lend_155 rfl ?_
                      refine w_iast (n := 6 + 5 * (z / 8) + 2) (n' := 157) dX6_lend_156 rfl rfl (hix _) (show 6 + 5 * (z / 8) + 2 < 56 by omega) ?_
                      refine w_aload_n (i := 0) (n' := 158) dX6_lend_157 rfl rfl rfl ?_
                      refine w_get (ci := 6) (j := 0) (n' := 161) dX6_lend_158 rfl fRX6_7 (Nat.le_of_ble_eq_true rfl) (Nat.le_of_ble_eq_true rfl) rfl rfl ?_
                      refine w_bipush (v := 6) (n' := 163) dX6_lend_161 rfl (by decide) ?_
                      refine w_iconst (v := 5) (n' := 164) dX6_lend_163 rfl rfl ?_
                      refine w_iload (n' := 166) dX6_lend_164 rfl rfl ?_
                      refine w_imul (n' := 167) dX6_lend_166 rfl ?_
                      refine w_iadd (n' := 168) dX6_lend_167 rfl ?_
                      refine w_iconst (v := 2) (n' := 169) dX6_lend_168 rfl rfl ?_
                      refine w_iadd (n' := 170) dX6_lend_169 rfl ?_
                      refine w_dup2 (n' := 171) dX6_lend_170 rfl rfl rfl ?_
                      refine w_iald (n := 6 + 5 * (z % 8) + 2) (n' := 172) dX6_lend_171 rfl rfl (hix _) (show 6 + 5 * (z % 8) + 2 < 56 by omega) ?_
                      refine w_iconst (v := 1) (n' := 173) dX6_lend_172 rfl rfl ?_
                      refine w_isub (n' := 174) dX6_lend_173 rfl ?_
                      refine w_iast (n := 6 + 5 * (z % 8) + 2) (n' := 175) dX6_lend_174 rfl rfl (hix _) (show 6 + 5 * (z % 8) + 2 < 56 by omega) ?_
                      refine w_iinc (n' := 178) (v := nI (z + 1)) (ls' := [_, _, _, _, _, _]) dX6_lend_175 rfl rfl (nI_1 z) (Nat.le_of_ble_eq_true rfl) rfl rfl ?_
                      refine w_goto (tgt := 19) dX6_lend_178 rfl ?_
                      exact ih hlt (_, _, _, _) ⟨lent_back hne h3.cd, h2.no h26 (by omega) (fun q => q.2.2.2.2.2 (by rw [← h3.DM]; exact h130))⟩
                    · refine w_iload_n (i := 3) (n' := 134) dX6_lend_133 rfl rfl rfl ?_
                      refine w_goto (tgt := 138) dX6_lend_134 rfl ?_
                      refine w_istore_n (i := 2) (n' := 139) (ls' := [_, _, _, _, _, _]) dX6_lend_138 rfl rfl (Nat.le_of_ble_eq_true rfl) rfl rfl ?_
                      refine w_aload_n (i := 0) (n' := 140) dX6_lend_139 rfl rfl rfl ?_
                      refine w_get (ci := 6) (j := 0) (n' := 143) dX6_lend_140 rfl fRX6_7 (Nat.le_of_ble_eq_true rfl) (Nat.le_of_ble_eq_true rfl) rfl rfl ?_
                      refine w_bipush (v := 6) (n' := 145) dX6_lend_143 rfl (by decide) ?_
                      refine w_iconst (v := 5) (n' := 146) dX6_lend_145 rfl rfl ?_
                      refine w_iload (n' := 148) dX6_lend_146 rfl rfl ?_
                      refine w_imul (n' := 149) dX6_lend_148 rfl ?_
                      refine w_iadd (n' := 150) dX6_lend_149 rfl ?_
                      refine w_iconst (v := 2) (n' := 151) dX6_lend_150 rfl rfl ?_
                      refine w_iadd (n' := 152) dX6_lend_151 rfl ?_
                      refine w_dup2 (n' := 153) dX6_lend_152 rfl rfl rfl ?_
                      refine w_iald (n := 6 + 5 * (z / 8) + 2) (n' := 154) dX6_lend_153 rfl rfl (hix _) (show 6 + 5 * (z / 8) + 2 < 56 by omega) ?_
                      refine w_iconst (v := 1) (n' := 155) dX6_lend_154 rfl rfl ?_
                      refine w_iadd (n' := 156) dX6_lend_155 rfl ?_
                      refine w_iast (n := 6 + 5 * (z / 8) + 2) (n' := 157) dX6_lend_156 rfl rfl (hix _) (show 6 + 5 * (z / 8) + 2 < 56 by omega) ?_
                      refine w_aload_n (i := 0) (n' := 158) dX6_lend_157 rfl rfl rfl ?_
                      refine w_get (ci := 6) (j := 0) (n' := 161) dX6_lend_158 rfl fRX6_7 (Nat.le_of_ble_eq_true rfl) (Nat.le_of_ble_eq_true rfl) rfl rfl ?_
                      refine w_bipush (v := 6) (n' := 163) dX6_lend_161 rfl (by decide) ?_
                      refine w_iconst (v := 5) (n' := 164) dX6_lend_163 rfl rfl ?_
                      refine w_iload (n' := 166) dX6_lend_164 rfl rfl ?_
                      refine w_imul (n' := 167) dX6_lend_166 rfl ?_
                      refine w_iadd (n' := 168) dX6_lend_167 rfl ?_
                      refine w_iconst (v := 2) (n' := 169) dX6_lend_168 rfl rfl ?_
                      refine w_iadd (n' := 170) dX6_lend_169 rfl ?_
                      refine w_dup2 (n' := 171) dX6_lend_170 rfl rfl rfl ?_
                      refine w_iald (n := 6 + 5 * (z % 8) + 2) (n' := 172) dX6_lend_171 rfl rfl (hix _) (show 6 + 5 * (z % 8) + 2 < 56 by omega) ?_
                      refine w_iconst (v := 1) (n' := 173) dX6_lend_172 rfl rfl ?_
                      refine w_isub (n' := 174) dX6_lend_173 rfl ?_
                      refine w_iast (n := 6 + 5 * (z % 8) + 2) (n' := 175) dX6_lend_174 rfl rfl (hix _) (show 6 + 5 * (z % 8) + 2 < 56 by omega) ?_
                      refine w_iinc (n' := 178) (v := nI (z + 1)) (ls' := [_, _, _, _, _, _]) dX6_lend_175 rfl rfl (nI_1 z) (Nat.le_of_ble_eq_true rfl) rfl rfl ?_
                      refine w_goto (tgt := 19) dX6_lend_178 rfl ?_
                      exact ih hlt (_, _, _, _) ⟨lent_back hne h3.cd, h2.yes h26 (Nat.zero_le _) (by omega) ⟨ha, hb, hne, h74', h86', by rw [← h3.DM]; exact h130⟩⟩
    exact L 0 (_, _, _, _) (by omega) ⟨RW.rf mem, FoI.z⟩
  · refine w_aload_n (i := 0) (n' := 9) dX6_lend_8 rfl rfl rfl ?_
    refine w_ldc (v := -1000001) (n' := 11) dX6_lend_9 rfl kRX6_43 ?_
    refine v_E (ci := 6) (n' := 14) dX6_lend_11 rfl lRX6_45 okX6_finds voX6_finds ⟨⟨Nat.le_of_ble_eq_true rfl, Nat.le_of_ble_eq_true rfl⟩, Nat.le_of_ble_eq_true rfl, Nat.le_of_ble_eq_true rfl⟩ (c6_finds 0 _ (by decide) (by decide) _) rfl rfl (Nat.le_of_ble_eq_true rfl) rfl (Nat.le_of_ble_eq_true rfl) rfl ?_
    exact w_iret dX6_lend_14 rfl ⟨_, rfl, Or.inl ⟨by simpa using h5, rfl, rfl⟩⟩
def opV0 (r : Nat → Int32) (i : Nat) : Nat → Int32 := upd r (6 + 5 * i + 3) 0
def voiX (W : Nat → Int32) : Nat → Int32 × Int32
  | 0 => (-1, -1)
  | i + 1 => (if W i ≤ (voiX W i).2 then (voiX W i).1 else nI i, maxI (voiX W i).2 (W i))
def voiW (r : Nat → Int32) (n : Nat) (i : Nat) : Int32 := absI (leanR (upd r (6 + 5 * i + 3) 0) n (lastS (DR r) n) - leanR r n (lastS (DR r) n))
theorem RW.putS {mem s : Mem} {r : Nat → Int32} {p : Nat} {v : Int32} (h : RW mem r s) : RW mem (upd r p v) (up2 s 51 p v) := ⟨by rw [up2_same, h.1], fun a a1 a2 => by rw [up2_ne _ _ _ a1]; exact h.2 a a1 a2⟩
theorem RW.fin3 {mem s : Mem} {p : Nat} {v : Int32} (h : RW mem (upd (mem 51) p v) (up2 s 51 p v)) {x : Int32} (hx : x = mem 51 p) : RW mem (mem 51) (up2 (up2 s 51 p v) 51 p x) := by
  have := h.put (v' := mem 51 p) hx
  rwa [upd_self] at this
set_option maxHeartbeats 4000000 in
theorem c6_voice {n : Nat} {mem : Mem} (h : MO mem n) : CnI mX6_voice [.ref 50] mem (fun x m' => (¬ 0 ≤ (voiX (voiW (mem 51) n) n).1 ∧ x = -1000004 ∧ (∃ m2, QM mem m2 ∧ m' = fndM m2 3)) ∨ (0 ≤ (voiX (voiW (mem 51) n) n).1 ∧ x = (voiX (voiW (mem 51) n) n).1 ∧ QM mem m')) := by
  have h8 := h.2.1
  have hR := MO_R.mp h
  have hix : ∀ a : Nat, (6 : Int32) + 5 * nI a + 3 = nI (6 + 5 * a + 3) := fun a => by
    rw [show (6 : Int32) = nI 6 from rfl, show (5 : Int32) = nI 5 from rfl, show (3 : Int32) = nI 3 from rfl, pk_mul, nI_add, nI_add]
  refine Cn.of (ls := [some (.ref 50), none, none, none, none, none, none, none]) (by decide) rfl (Nat.le_of_ble_eq_true rfl) ?_
  refine w_aload_n (i := 0) (n' := 1) dX6_voice_0 rfl rfl rfl ?_
  refine v_E (ci := 6) (n' := 4) dX6_voice_1 rfl lRX6_119 okX6_lasts voX6_lasts ⟨⟨Nat.le_of_ble_eq_true rfl, Nat.le_of_ble_eq_true rfl⟩, Nat.le_of_ble_eq_true rfl, Nat.le_of_ble_eq_true rfl⟩ (c6_lasts h) rfl rfl (Nat.le_of_ble_eq_true rfl) rfl (Nat.le_of_ble_eq_true rfl) rfl ?_
  refine w_istore_n (i := 1) (n' := 5) (ls' := [_, _, _, _, _, _, _, _]) dX6_voice_4 rfl rfl (Nat.le_of_ble_eq_true rfl) rfl rfl ?_
  refine w_aload_n (i := 0) (n' := 6) dX6_voice_5 rfl rfl rfl ?_
  refine w_iload_n (i := 1) (n' := 7) dX6_voice_6 rfl rfl rfl ?_
  refine v_E (ci := 6) (n' := 10) dX6_voice_7 rfl lRX6_128 okX6_leanBy voX6_leanBy ⟨⟨Nat.le_of_ble_eq_true rfl, Nat.le_of_ble_eq_true rfl⟩, Nat.le_of_ble_eq_true rfl, Nat.le_of_ble_eq_true rfl⟩ (c6_leanBy (cd_MO h).1 h8 _) rfl rfl (Nat.le_of_ble_eq_true rfl) rfl (Nat.le_of_ble_eq_true rfl) rfl ?_
  rw [leanXM_R, cd_o mem n (show 51 ≠ 60 by decide), DM_R]
  refine w_istore_n (i := 2) (n' := 11) (ls' := [_, _, _, _, _, _, _, _]) dX6_voice_10 rfl rfl (Nat.le_of_ble_eq_true rfl) rfl rfl ?_
  refine w_iconst (v := -1) (n' := 12) dX6_voice_11 rfl rfl ?_
  refine w_istore_n (i := 3) (n' := 13) (ls' := [_, _, _, _, _, _, _, _]) dX6_voice_12 rfl rfl (Nat.le_of_ble_eq_true rfl) rfl rfl ?_
  refine w_iconst (v := -1) (n' := 14) dX6_voice_13 rfl rfl ?_
  refine w_istore (n' := 16) (ls' := [_, _, _, _, _, _, _, _]) dX6_voice_14 rfl (Nat.le_of_ble_eq_true rfl) rfl rfl ?_
  refine w_iconst (v := 0) (n' := 17) dX6_voice_16 rfl rfl ?_
  refine w_istore (n' := 19) (ls' := [_, _, _, _, _, _, _, _]) dX6_voice_17 rfl (Nat.le_of_ble_eq_true rfl) rfl rfl ?_
  have L : ∀ (i : Nat) (st : (Int32 × Int32) × Option Value × Option Value × Mem), i ≤ n → (st.1 = voiX (voiW (mem 51) n) i ∧ RW mem (mem 51) st.2.2.2) → Wm mX6_voice (zM mX6_voice (fun rZ mZ => ∃ xZ, rZ = some (.int xZ) ∧ (fun x m' => (¬ 0 ≤ (voiX (voiW (mem 51) n) n).1 ∧ x = -1000004 ∧ (∃ m2, QM mem m2 ∧ m' = fndM m2 3)) ∨ (0 ≤ (voiX (voiW (mem 51) n) n).1 ∧ x = (voiX (voiW (mem 51) n) n).1 ∧ QM mem m')) xZ mZ)) 19 [some (.ref 50), some (.int (lastS (DR (mem 51)) n)), some (.int (leanR (mem 51) n (lastS (DR (mem 51)) n))), some (.int st.1.1), some (.int st.1.2), some (.int (nI i)), st.2.1, st.2.2.1] [] st.2.2.2 := by
    refine for_ind n ?_
    rintro i ⟨⟨bs, mt⟩, l6, l7, s⟩ hi ⟨h2, h1⟩ ih
    dsimp only at h1 h2 ih ⊢
    have hp := h1.MO hR
    refine w_iload (n' := 21) dX6_voice_19 rfl rfl ?_
    refine w_aload_n (i := 0) (n' := 22) dX6_voice_21 rfl rfl rfl ?_
    refine w_get (ci := 6) (j := 0) (n' := 25) dX6_voice_22 rfl fRX6_7 (Nat.le_of_ble_eq_true rfl) (Nat.le_of_ble_eq_true rfl) rfl rfl ?_
    refine w_iconst (v := 0) (n' := 26) dX6_voice_25 rfl rfl ?_
    refine w_iald (n := 0) (n' := 27) dX6_voice_26 rfl rfl (by decide) (by decide) ?_
    refine w_icmp_ge (n' := 30) (tgt := 115) dX6_voice_27 rfl rfl (fun h27 => ?_) (fun h27 => ?_)
    · have hin : i = n := by
        rcases Nat.lt_or_ge i n with c | c
        · exact absurd h27 (by rw [hp.1]; exact nI_ge (b := n) c (by omega))
        · omega
      refine w_aload_n (i := 0) (n' := 116) dX6_voice_115 rfl rfl rfl ?_
      refine w_iload_n (i := 3) (n' := 117) dX6_voice_116 rfl rfl rfl ?_
      refine v_I (ci := 6) (n' := 120) dX6_voice_117 rfl lRX6_174 okX6_orNone voX6_orNone ⟨⟨Nat.le_of_ble_eq_true rfl, Nat.le_of_ble_eq_true rfl⟩, Nat.le_of_ble_eq_true rfl, Nat.le_of_ble_eq_true rfl⟩ (c6_orNone _ _) rfl rfl (Nat.le_of_ble_eq_true rfl) rfl (Nat.le_of_ble_eq_true rfl) rfl (fun x117 m117 q117 => ?_)
      exact w_iret dX6_voice_120 rfl ⟨_, rfl, by
        rw [hin] at h2
        rw [← h2]
        rcases q117 with q | q
        · exact Or.inl ⟨q.1, q.2.1, _, h1.QM, q.2.2⟩
        · exact Or.inr ⟨q.1, q.2.1, by rw [q.2.2]; exact h1.QM⟩⟩
    · have hlt : i < n := by
        rcases Nat.lt_or_ge i n with c | c
        · exact c
        · exact absurd (by rw [hp.1]; exact nI_le (a := n) c (by omega)) h27
      have ih2 := fun (b9 t9 : Int32) (l6 l7 : Option Value) (m9 : Mem) hh => ih hlt ((b9, t9), l6, l7, m9) hh
      dsimp only at ih2
      refine w_aload_n (i := 0) (n' := 31) dX6_voice_30 rfl rfl rfl ?_
      refine w_bipush (v := 6) (n' := 33) dX6_voice_31 rfl (by decide) ?_
      refine w_iconst (v := 5) (n' := 34) dX6_voice_33 rfl rfl ?_
      refine w_iload (n' := 36) dX6_voice_34 rfl rfl ?_
      refine w_imul (n' := 37) dX6_voice_36 rfl ?_
      refine w_iadd (n' := 38) dX6_voice_37 rfl ?_
      refine w_iconst (v := 3) (n' := 39) dX6_voice_38 rfl rfl ?_
      refine w_iadd (n' := 40) dX6_voice_39 rfl ?_
      refine w_iconst (v := 0) (n' := 41) dX6_voice_40 rfl rfl ?_
      refine v_E (ci := 6) (n' := 44) dX6_voice_41 rfl lRX6_57 okX6_becomes voX6_becomes ⟨⟨Nat.le_of_ble_eq_true rfl, Nat.le_of_ble_eq_true rfl⟩, Nat.le_of_ble_eq_true rfl, Nat.le_of_ble_eq_true rfl⟩ (c6_becomes (p := 6 + 5 * i + 3) _ _ (hix _) (by omega) _) rfl rfl (Nat.le_of_ble_eq_true rfl) rfl (Nat.le_of_ble_eq_true rfl) rfl ?_
      have h3 : RW mem (upd (mem 51) (6 + 5 * i + 3) 0) (up2 s 51 (6 + 5 * i + 3) 0) := RW.putS h1
      refine w_istore (n' := 46) (ls' := [_, _, _, _, _, _, _, _]) dX6_voice_44 rfl (Nat.le_of_ble_eq_true rfl) rfl rfl ?_
      refine w_aload_n (i := 0) (n' := 47) dX6_voice_46 rfl rfl rfl ?_
      refine w_iload_n (i := 1) (n' := 48) dX6_voice_47 rfl rfl rfl ?_
      refine v_E (ci := 6) (n' := 51) dX6_voice_48 rfl lRX6_128 okX6_leanBy voX6_leanBy ⟨⟨Nat.le_of_ble_eq_true rfl, Nat.le_of_ble_eq_true rfl⟩, Nat.le_of_ble_eq_true rfl, Nat.le_of_ble_eq_true rfl⟩ (c6_leanBy (by rw [h3.1, ← h.1]; simp only [upd]; rw [if_neg (by omega)]) h8 _) rfl rfl (Nat.le_of_ble_eq_true rfl) rfl (Nat.le_of_ble_eq_true rfl) rfl ?_
      rw [h3.lean]
      refine w_iload_n (i := 2) (n' := 52) dX6_voice_51 rfl rfl rfl ?_
      refine w_isub (n' := 53) dX6_voice_52 rfl ?_
      refine w_istore (n' := 55) (ls' := [_, _, _, _, _, _, _, _]) dX6_voice_53 rfl (Nat.le_of_ble_eq_true rfl) rfl rfl ?_
      refine w_iload (n' := 57) dX6_voice_55 rfl rfl ?_
      refine w_if_ge (n' := 60) (tgt := 66) dX6_voice_57 rfl rfl (fun h57 => ?_) (fun h57 => ?_)
      · have hw : voiW (mem 51) n i = leanR (upd (mem 51) (6 + 5 * i + 3) 0) n (lastS (DR (mem 51)) n) - leanR (mem 51) n (lastS (DR (mem 51)) n) := by
          unfold voiW absI
          rw [if_pos h57]
        refine w_iload (n' := 68) dX6_voice_66 rfl rfl ?_
        refine w_istore (n' := 70) (ls' := [_, _, _, _, _, _, _, _]) dX6_voice_68 rfl (Nat.le_of_ble_eq_true rfl) rfl rfl ?_
        refine w_aload_n (i := 0) (n' := 71) dX6_voice_70 rfl rfl rfl ?_
        refine w_get (ci := 6) (j := 0) (n' := 74) dX6_voice_71 rfl fRX6_7 (Nat.le_of_ble_eq_true rfl) (Nat.le_of_ble_eq_true rfl) rfl rfl ?_
        refine w_bipush (v := 6) (n' := 76) dX6_voice_74 rfl (by decide) ?_
        refine w_iconst (v := 5) (n' := 77) dX6_voice_76 rfl rfl ?_
        refine w_iload (n' := 79) dX6_voice_77 rfl rfl ?_
        refine w_imul (n' := 80) dX6_voice_79 rfl ?_
        refine w_iadd (n' := 81) dX6_voice_80 rfl ?_
        refine w_iconst (v := 3) (n' := 82) dX6_voice_81 rfl rfl ?_
        refine w_iadd (n' := 83) dX6_voice_82 rfl ?_
        refine w_iload (n' := 85) dX6_voice_83 rfl rfl ?_
        refine w_iast (n := 6 + 5 * i + 3) (n' := 86) dX6_voice_85 rfl rfl (hix _) (show 6 + 5 * i + 3 < 56 by omega) ?_
        refine w_iload (n' := 88) dX6_voice_86 rfl rfl ?_
        refine w_iload (n' := 90) dX6_voice_88 rfl rfl ?_
        refine w_icmp_le (n' := 93) (tgt := 98) dX6_voice_90 rfl rfl (fun h90 => ?_) (fun h90 => ?_)
        · refine w_iload_n (i := 3) (n' := 99) dX6_voice_98 rfl rfl rfl ?_
          refine w_istore_n (i := 3) (n' := 100) (ls' := [_, _, _, _, _, _, _, _]) dX6_voice_99 rfl rfl (Nat.le_of_ble_eq_true rfl) rfl rfl ?_
          refine w_iload (n' := 102) dX6_voice_100 rfl rfl ?_
          refine w_iload (n' := 104) dX6_voice_102 rfl rfl ?_
          refine s_E (n' := 107) dX6_voice_104 rfl lRX6_73 okX6_greatest stX6_greatest ⟨⟨Nat.le_of_ble_eq_true rfl, Nat.le_of_ble_eq_true rfl⟩, Nat.le_of_ble_eq_true rfl, Nat.le_of_ble_eq_true rfl⟩ (c6_greatest _ _ _) rfl rfl (Nat.le_of_ble_eq_true rfl) ?_
          refine w_istore (n' := 109) (ls' := [_, _, _, _, _, _, _, _]) dX6_voice_107 rfl (Nat.le_of_ble_eq_true rfl) rfl rfl ?_
          refine w_iinc (n' := 112) (v := nI (i + 1)) (ls' := [_, _, _, _, _, _, _, _]) dX6_voice_109 rfl rfl (nI_1 i) (Nat.le_of_ble_eq_true rfl) rfl rfl ?_
          refine w_goto (tgt := 19) dX6_voice_112 rfl ?_
          exact ih2 _ _ _ _ _ ⟨by rw [voiX, hw, ← h2]; dsimp only; rw [if_pos h90], RW.fin3 h3 (by rw [h1.1])⟩
        · refine w_iload (n' := 95) dX6_voice_93 rfl rfl ?_
          refine w_goto (tgt := 99) dX6_voice_95 rfl ?_
          refine w_istore_n (i := 3) (n' := 100) (ls' := [_, _, _, _, _, _, _, _]) dX6_voice_99 rfl rfl (Nat.le_of_ble_eq_true rfl) rfl rfl ?_
          refine w_iload (n' := 102) dX6_voice_100 rfl rfl ?_
          refine w_iload (n' := 104) dX6_voice_102 rfl rfl ?_
          refine s_E (n' := 107) dX6_voice_104 rfl lRX6_73 okX6_greatest stX6_greatest ⟨⟨Nat.le_of_ble_eq_true rfl, Nat.le_of_ble_eq_true rfl⟩, Nat.le_of_ble_eq_true rfl, Nat.le_of_ble_eq_true rfl⟩ (c6_greatest _ _ _) rfl rfl (Nat.le_of_ble_eq_true rfl) ?_
          refine w_istore (n' := 109) (ls' := [_, _, _, _, _, _, _, _]) dX6_voice_107 rfl (Nat.le_of_ble_eq_true rfl) rfl rfl ?_
          refine w_iinc (n' := 112) (v := nI (i + 1)) (ls' := [_, _, _, _, _, _, _, _]) dX6_voice_109 rfl rfl (nI_1 i) (Nat.le_of_ble_eq_true rfl) rfl rfl ?_
          refine w_goto (tgt := 19) dX6_voice_112 rfl ?_
          exact ih2 _ _ _ _ _ ⟨by rw [voiX, hw, ← h2]; dsimp only; rw [if_neg h90], RW.fin3 h3 (by rw [h1.1])⟩
      · have hw : voiW (mem 51) n i = 0 - (leanR (upd (mem 51) (6 + 5 * i + 3) 0) n (lastS (DR (mem 51)) n) - leanR (mem 51) n (lastS (DR (mem 51)) n)) := by
          unfold voiW absI
          rw [if_neg h57]
        refine w_iload (n' := 62) dX6_voice_60 rfl rfl ?_
        refine w_ineg (n' := 63) dX6_voice_62 rfl ?_
        refine w_goto (tgt := 68) dX6_voice_63 rfl ?_
        refine w_istore (n' := 70) (ls' := [_, _, _, _, _, _, _, _]) dX6_voice_68 rfl (Nat.le_of_ble_eq_true rfl) rfl rfl ?_
        refine w_aload_n (i := 0) (n' := 71) dX6_voice_70 rfl rfl rfl ?_
        refine w_get (ci := 6) (j := 0) (n' := 74) dX6_voice_71 rfl fRX6_7 (Nat.le_of_ble_eq_true rfl) (Nat.le_of_ble_eq_true rfl) rfl rfl ?_
        refine w_bipush (v := 6) (n' := 76) dX6_voice_74 rfl (by decide) ?_
        refine w_iconst (v := 5) (n' := 77) dX6_voice_76 rfl rfl ?_
        refine w_iload (n' := 79) dX6_voice_77 rfl rfl ?_
        refine w_imul (n' := 80) dX6_voice_79 rfl ?_
        refine w_iadd (n' := 81) dX6_voice_80 rfl ?_
        refine w_iconst (v := 3) (n' := 82) dX6_voice_81 rfl rfl ?_
        refine w_iadd (n' := 83) dX6_voice_82 rfl ?_
        refine w_iload (n' := 85) dX6_voice_83 rfl rfl ?_
        refine w_iast (n := 6 + 5 * i + 3) (n' := 86) dX6_voice_85 rfl rfl (hix _) (show 6 + 5 * i + 3 < 56 by omega) ?_
        refine w_iload (n' := 88) dX6_voice_86 rfl rfl ?_
        refine w_iload (n' := 90) dX6_voice_88 rfl rfl ?_
        refine w_icmp_le (n' := 93) (tgt := 98) dX6_voice_90 rfl rfl (fun h90 => ?_) (fun h90 => ?_)
        · refine w_iload_n (i := 3) (n' := 99) dX6_voice_98 rfl rfl rfl ?_
          refine w_istore_n (i := 3) (n' := 100) (ls' := [_, _, _, _, _, _, _, _]) dX6_voice_99 rfl rfl (Nat.le_of_ble_eq_true rfl) rfl rfl ?_
          refine w_iload (n' := 102) dX6_voice_100 rfl rfl ?_
          refine w_iload (n' := 104) dX6_voice_102 rfl rfl ?_
          refine s_E (n' := 107) dX6_voice_104 rfl lRX6_73 okX6_greatest stX6_greatest ⟨⟨Nat.le_of_ble_eq_true rfl, Nat.le_of_ble_eq_true rfl⟩, Nat.le_of_ble_eq_true rfl, Nat.le_of_ble_eq_true rfl⟩ (c6_greatest _ _ _) rfl rfl (Nat.le_of_ble_eq_true rfl) ?_
          refine w_istore (n' := 109) (ls' := [_, _, _, _, _, _, _, _]) dX6_voice_107 rfl (Nat.le_of_ble_eq_true rfl) rfl rfl ?_
          refine w_iinc (n' := 112) (v := nI (i + 1)) (ls' := [_, _, _, _, _, _, _, _]) dX6_voice_109 rfl rfl (nI_1 i) (Nat.le_of_ble_eq_true rfl) rfl rfl ?_
          refine w_goto (tgt := 19) dX6_voice_112 rfl ?_
          exact ih2 _ _ _ _ _ ⟨by rw [voiX, hw, ← h2]; dsimp only; rw [if_pos h90], RW.fin3 h3 (by rw [h1.1])⟩
        · refine w_iload (n' := 95) dX6_voice_93 rfl rfl ?_
          refine w_goto (tgt := 99) dX6_voice_95 rfl ?_
          refine w_istore_n (i := 3) (n' := 100) (ls' := [_, _, _, _, _, _, _, _]) dX6_voice_99 rfl rfl (Nat.le_of_ble_eq_true rfl) rfl rfl ?_
          refine w_iload (n' := 102) dX6_voice_100 rfl rfl ?_
          refine w_iload (n' := 104) dX6_voice_102 rfl rfl ?_
          refine s_E (n' := 107) dX6_voice_104 rfl lRX6_73 okX6_greatest stX6_greatest ⟨⟨Nat.le_of_ble_eq_true rfl, Nat.le_of_ble_eq_true rfl⟩, Nat.le_of_ble_eq_true rfl, Nat.le_of_ble_eq_true rfl⟩ (c6_greatest _ _ _) rfl rfl (Nat.le_of_ble_eq_true rfl) ?_
          refine w_istore (n' := 109) (ls' := [_, _, _, _, _, _, _, _]) dX6_voice_107 rfl (Nat.le_of_ble_eq_true rfl) rfl rfl ?_
          refine w_iinc (n' := 112) (v := nI (i + 1)) (ls' := [_, _, _, _, _, _, _, _]) dX6_voice_109 rfl rfl (nI_1 i) (Nat.le_of_ble_eq_true rfl) rfl rfl ?_
          refine w_goto (tgt := 19) dX6_voice_112 rfl ?_
          exact ih2 _ _ _ _ _ ⟨by rw [voiX, hw, ← h2]; dsimp only; rw [if_neg h90], RW.fin3 h3 (by rw [h1.1])⟩
  exact L 0 ((_, _), _, _, _) (by omega) ⟨rfl, (RW.rf mem).cd⟩
