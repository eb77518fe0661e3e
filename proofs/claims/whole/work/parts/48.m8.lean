/-! the reference: telling, cuts, draws -/
def opR (r : Nat → Int32) (set v : Int32) : Nat → Nat → Int32
  | 0 => r
  | i + 1 => upd (opR r set v i) (6 + 5 * i + 3) (if (set >>> (nI i &&& 31)) &&& 1 = 1 then v else opR r set v i (6 + 5 * i + 3))
theorem opR_o (r : Nat → Int32) (set v : Int32) {j : Nat} : ∀ i, (j < 6 ∨ 6 + 5 * i ≤ j) → opR r set v i j = r j
  | 0, _ => rfl
  | i + 1, h => by
    rw [opR]
    simp only [upd]
    rw [if_neg (by omega)]
    exact opR_o r set v i (by omega)
def QX (mem s : Mem) : Prop := s 51 = mem 51 ∧ ∀ a, a ≠ 51 → a ≠ 54 → a ≠ 60 → s a = mem a
theorem cd_QX (m : Mem) (n : Nat) : QX m (cdM m n) := ⟨cd_o _ _ (by decide), fun _ _ _ a3 => cd_o _ _ a3⟩
theorem QX.QM {mem s : Mem} (h : QX mem s) : QM mem s := ⟨fun j _ => by rw [h.1], fun a a1 a2 a3 _ => h.2 a a1 a2 a3⟩
theorem QX.asd {mem s : Mem} (h : QX mem s) : RW (rowC s 51 54) (mem 51) (rowC s 51 54) := ⟨by rw [asd_51, h.1], fun _ _ _ => rfl⟩
theorem QX.back {mem s t : Mem} {r : Nat → Int32} (h : QX mem s) (h2 : RW (rowC s 51 54) r t) (hr : ∀ j, 56 ≤ j → r j = mem 51 j) : QX mem (rowC t 54 51) := by
  refine ⟨?_, fun a a1 a2 a3 => ?_⟩
  · unfold rowC
    rw [upR_same, h2.2 54 (by decide) (by decide), h2.1]
    unfold rowC
    rw [upR_same, h.1]
    funext j
    by_cases c : j < 56
    · simp only [if_pos c]
    · simp only [if_neg c]
      exact hr j (by omega)
  · unfold rowC
    rw [upR_ne _ _ a1, h2.2 a a1 a3]
    unfold rowC
    rw [upR_ne _ _ a2]
    exact h.2 a a1 a2 a3
theorem tellS_N (W : Nat → Int32) (q : Int32) : ∀ i, tellS W q i = -1 ∨ ∃ w, w < i ∧ tellS W q i = nI w := by
  intro i
  induction i with
  | zero => exact Or.inl rfl
  | succ i ih =>
    have up : tellS W q i = -1 ∨ ∃ w, w < i + 1 ∧ tellS W q i = nI w := by
      rcases ih with h | ⟨w, h1, h2⟩
      · exact Or.inl h
      · exact Or.inr ⟨w, by omega, h2⟩
    rw [tellS]
    split
    · split
      · exact up
      · exact Or.inr ⟨i, by omega, rfl⟩
    · split
      · split
        · exact up
        · exact Or.inr ⟨i, by omega, rfl⟩
      · exact up
def tellW (r : Nat → Int32) (n : Nat) (v : Int32) (i : Nat) : Int32 := leanR (opR r (nI i) v n) n (lastS (DR r) n)
set_option maxHeartbeats 4000000 in
theorem c6_tell {n : Nat} {mem : Mem} (h : MO mem n) (q v : Int32) : CnI mX6_tell [.ref 50, .int q, .int v] mem (fun x m' => ((inR q (-99) 99 = 0 ∨ inR v (-9) 9 = 0) ∧ x = -1000001 ∧ m' = fndM mem 0) ∨ (¬ inR q (-99) 99 = 0 ∧ ¬ inR v (-9) 9 = 0 ∧ ((¬ 0 ≤ tellS (tellW (mem 51) n v) q (2 ^ n) ∧ x = -1000004 ∧ (∃ m2, QM mem m2 ∧ m' = fndM m2 3)) ∨ (0 ≤ tellS (tellW (mem 51) n v) q (2 ^ n) ∧ x = tellS (tellW (mem 51) n v) q (2 ^ n) ∧ QM mem m')))) := by
  have h8 := h.2.1
  have hR := MO_R.mp h
  have h256 := pow_le h8
  have hix : ∀ a : Nat, (6 : Int32) + 5 * nI a + 3 = nI (6 + 5 * a + 3) := fun a => by
    rw [show (6 : Int32) = nI 6 from rfl, show (5 : Int32) = nI 5 from rfl, show (3 : Int32) = nI 3 from rfl, pk_mul, nI_add, nI_add]
  refine Cn.of (ls := [some (.ref 50), some (.int q), some (.int v), none, none, none, none]) (by decide) rfl (Nat.le_of_ble_eq_true rfl) ?_
  refine w_iload_n (i := 1) (n' := 1) dX6_tell_0 rfl rfl rfl ?_
  refine s_E (n' := 4) dX6_tell_1 rfl lRX6_136 okX6_isAsked stX6_isAsked ⟨⟨Nat.le_of_ble_eq_true rfl, Nat.le_of_ble_eq_true rfl⟩, Nat.le_of_ble_eq_true rfl, Nat.le_of_ble_eq_true rfl⟩ (c6_isAsked _ _) rfl rfl (Nat.le_of_ble_eq_true rfl) ?_
  refine w_if_eq (n' := 7) (tgt := 21) dX6_tell_4 rfl rfl (fun h4 => ?_) (fun h4 => ?_)
  · refine w_aload_n (i := 0) (n' := 22) dX6_tell_21 rfl rfl rfl ?_
    refine w_ldc (v := -1000001) (n' := 24) dX6_tell_22 rfl kRX6_43 ?_
    refine v_E (ci := 6) (n' := 27) dX6_tell_24 rfl lRX6_45 okX6_finds voX6_finds ⟨⟨Nat.le_of_ble_eq_true rfl, Nat.le_of_ble_eq_true rfl⟩, Nat.le_of_ble_eq_true rfl, Nat.le_of_ble_eq_true rfl⟩ (c6_finds 0 _ (by decide) (by decide) _) rfl rfl (Nat.le_of_ble_eq_true rfl) rfl (Nat.le_of_ble_eq_true rfl) rfl ?_
    exact w_iret dX6_tell_27 rfl ⟨_, rfl, Or.inl ⟨Or.inl h4, rfl, rfl⟩⟩
  · refine w_iload_n (i := 2) (n' := 8) dX6_tell_7 rfl rfl rfl ?_
    refine w_i2l (v := _) (n' := 9) dX6_tell_8 rfl rfl ?_
    refine w_ldc2 (v := -9) (n' := 12) dX6_tell_9 rfl kRX6_96 ?_
    refine w_ldc2 (v := 9) (n' := 15) dX6_tell_12 rfl kRX6_98 ?_
    refine s_E (n' := 18) dX6_tell_15 rfl lRX6_51 okX6_isIn stX6_isIn ⟨⟨Nat.le_of_ble_eq_true rfl, Nat.le_of_ble_eq_true rfl⟩, Nat.le_of_ble_eq_true rfl, Nat.le_of_ble_eq_true rfl⟩ (c6_isIn _ (-9) (9) _ _ (by decide) (by decide) _) rfl rfl (Nat.le_of_ble_eq_true rfl) ?_
    refine w_if_ne (n' := 21) (tgt := 28) dX6_tell_18 rfl rfl (fun h18 => ?_) (fun h18 => ?_)
    · refine w_aload_n (i := 0) (n' := 29) dX6_tell_28 rfl rfl rfl ?_
      refine v_E (ci := 6) (n' := 32) dX6_tell_29 rfl lRX6_119 okX6_lasts voX6_lasts ⟨⟨Nat.le_of_ble_eq_true rfl, Nat.le_of_ble_eq_true rfl⟩, Nat.le_of_ble_eq_true rfl, Nat.le_of_ble_eq_true rfl⟩ (c6_lasts h) rfl rfl (Nat.le_of_ble_eq_true rfl) rfl (Nat.le_of_ble_eq_true rfl) rfl ?_
      rw [DM_R]
      refine w_istore_n (i := 3) (n' := 33) (ls' := [_, _, _, _, _, _, _]) dX6_tell_32 rfl rfl (Nat.le_of_ble_eq_true rfl) rfl rfl ?_
      refine w_iconst (v := -1) (n' := 34) dX6_tell_33 rfl rfl ?_
      refine w_istore (n' := 36) (ls' := [_, _, _, _, _, _, _]) dX6_tell_34 rfl (Nat.le_of_ble_eq_true rfl) rfl rfl ?_
      refine w_iconst (v := 0) (n' := 37) dX6_tell_36 rfl rfl ?_
      refine w_istore (n' := 39) (ls' := [_, _, _, _, _, _, _]) dX6_tell_37 rfl (Nat.le_of_ble_eq_true rfl) rfl rfl ?_
      have L : ∀ (z : Nat) (st : Int32 × Option Value × Mem), z ≤ 2 ^ n → (st.1 = tellS (tellW (mem 51) n v) q z ∧ QX mem st.2.2) → Wm mX6_tell (zM mX6_tell (fun rZ mZ => ∃ xZ, rZ = some (.int xZ) ∧ (fun x m' => ((inR q (-99) 99 = 0 ∨ inR v (-9) 9 = 0) ∧ x = -1000001 ∧ m' = fndM mem 0) ∨ (¬ inR q (-99) 99 = 0 ∧ ¬ inR v (-9) 9 = 0 ∧ ((¬ 0 ≤ tellS (tellW (mem 51) n v) q (2 ^ n) ∧ x = -1000004 ∧ (∃ m2, QM mem m2 ∧ m' = fndM m2 3)) ∨ (0 ≤ tellS (tellW (mem 51) n v) q (2 ^ n) ∧ x = tellS (tellW (mem 51) n v) q (2 ^ n) ∧ QM mem m')))) xZ mZ)) 39 [some (.ref 50), some (.int q), some (.int v), some (.int (lastS (DR (mem 51)) n)), some (.int st.1), some (.int (nI z)), st.2.1] [] st.2.2 := by
        refine for_ind (2 ^ n) ?_
        rintro z ⟨bs, l6, s⟩ hz ⟨h2, h1⟩ ih
        dsimp only at h1 h2 ih ⊢
        have hp : MO s n := MO_of h h1.1
        refine w_iload (n' := 41) dX6_tell_39 rfl rfl ?_
        refine w_iconst (v := 1) (n' := 42) dX6_tell_41 rfl rfl ?_
        refine w_aload_n (i := 0) (n' := 43) dX6_tell_42 rfl rfl rfl ?_
        refine w_get (ci := 6) (j := 0) (n' := 46) dX6_tell_43 rfl fRX6_7 (Nat.le_of_ble_eq_true rfl) (Nat.le_of_ble_eq_true rfl) rfl rfl ?_
        refine w_iconst (v := 0) (n' := 47) dX6_tell_46 rfl rfl ?_
        refine w_iald (n := 0) (n' := 48) dX6_tell_47 rfl rfl (by decide) (by decide) ?_
        refine w_ishl (n' := 49) dX6_tell_48 rfl ?_
        rw [hp.1, shl_n n h8]
        refine w_icmp_ge (n' := 52) (tgt := 172) dX6_tell_49 rfl rfl (fun h49 => ?_) (fun h49 => ?_)
        · have hin : z = (2 ^ n) := by
            rcases Nat.lt_or_ge z (2 ^ n) with c | c
            · exact absurd h49 (by exact nI_ge (b := (2 ^ n)) c (by omega))
            · omega
          refine w_aload_n (i := 0) (n' := 173) dX6_tell_172 rfl rfl rfl ?_
          refine w_iload (n' := 175) dX6_tell_173 rfl rfl ?_
          refine v_I (ci := 6) (n' := 178) dX6_tell_175 rfl lRX6_174 okX6_orNone voX6_orNone ⟨⟨Nat.le_of_ble_eq_true rfl, Nat.le_of_ble_eq_true rfl⟩, Nat.le_of_ble_eq_true rfl, Nat.le_of_ble_eq_true rfl⟩ (c6_orNone _ _) rfl rfl (Nat.le_of_ble_eq_true rfl) rfl (Nat.le_of_ble_eq_true rfl) rfl (fun x175 m175 q175 => ?_)
          exact w_iret dX6_tell_178 rfl ⟨_, rfl, Or.inr ⟨h4, h18, by
            rw [hin] at h2
            rw [← h2]
            rcases q175 with q | q
            · exact Or.inl ⟨q.1, q.2.1, _, h1.QM, q.2.2⟩
            · exact Or.inr ⟨q.1, q.2.1, by rw [q.2.2]; exact h1.QM⟩⟩⟩
        · have hlt : z < (2 ^ n) := by
            rcases Nat.lt_or_ge z (2 ^ n) with c | c
            · exact c
            · exact absurd (by exact nI_le (a := (2 ^ n)) c (by omega)) h49
          have ih2 := fun (b9 : Int32) (l6 : Option Value) (m9 : Mem) hh => ih hlt (b9, l6, m9) hh
          dsimp only at ih2
          refine w_aload_n (i := 0) (n' := 53) dX6_tell_52 rfl rfl rfl ?_
          refine w_get (ci := 6) (j := 0) (n' := 56) dX6_tell_53 rfl fRX6_7 (Nat.le_of_ble_eq_true rfl) (Nat.le_of_ble_eq_true rfl) rfl rfl ?_
          refine w_aload_n (i := 0) (n' := 57) dX6_tell_56 rfl rfl rfl ?_
          refine w_get (ci := 6) (j := 3) (n' := 60) dX6_tell_57 rfl fRX6_19 (Nat.le_of_ble_eq_true rfl) (Nat.le_of_ble_eq_true rfl) rfl rfl ?_
          refine s_E (n' := 63) dX6_tell_60 rfl lRX6_162 okX6_copyRow stX6_copyRow ⟨⟨Nat.le_of_ble_eq_true rfl, Nat.le_of_ble_eq_true rfl⟩, Nat.le_of_ble_eq_true rfl, Nat.le_of_ble_eq_true rfl⟩ (c6_copyRow (a := 51) (b := 54) rfl rfl rfl rfl (by decide) _) rfl rfl (Nat.le_of_ble_eq_true rfl) ?_
          refine w_iconst (v := 0) (n' := 64) dX6_tell_63 rfl rfl ?_
          refine w_istore (n' := 66) (ls' := [_, _, _, _, _, _, _]) dX6_tell_64 rfl (Nat.le_of_ble_eq_true rfl) rfl rfl ?_
          have L2 : ∀ (i : Nat) (t : Mem), i ≤ n → RW (rowC s 51 54) (opR (mem 51) (nI z) v i) t → Wm mX6_tell (zM mX6_tell (fun rZ mZ => ∃ xZ, rZ = some (.int xZ) ∧ (fun x m' => ((inR q (-99) 99 = 0 ∨ inR v (-9) 9 = 0) ∧ x = -1000001 ∧ m' = fndM mem 0) ∨ (¬ inR q (-99) 99 = 0 ∧ ¬ inR v (-9) 9 = 0 ∧ ((¬ 0 ≤ tellS (tellW (mem 51) n v) q (2 ^ n) ∧ x = -1000004 ∧ (∃ m2, QM mem m2 ∧ m' = fndM m2 3)) ∨ (0 ≤ tellS (tellW (mem 51) n v) q (2 ^ n) ∧ x = tellS (tellW (mem 51) n v) q (2 ^ n) ∧ QM mem m')))) xZ mZ)) 66 [some (.ref 50), some (.int q), some (.int v), some (.int (lastS (DR (mem 51)) n)), some (.int bs), some (.int (nI z)), some (.int (nI i))] [] t := by
            refine for_ind n ?_
            intro i t hi k1 ihi
            have hp2 : t 51 0 = nI n := by rw [k1.1, opR_o _ _ _ _ (by omega)]; exact h.1
            refine w_iload (n' := 68) dX6_tell_66 rfl rfl ?_
            refine w_aload_n (i := 0) (n' := 69) dX6_tell_68 rfl rfl rfl ?_
            refine w_get (ci := 6) (j := 0) (n' := 72) dX6_tell_69 rfl fRX6_7 (Nat.le_of_ble_eq_true rfl) (Nat.le_of_ble_eq_true rfl) rfl rfl ?_
            refine w_iconst (v := 0) (n' := 73) dX6_tell_72 rfl rfl ?_
            refine w_iald (n := 0) (n' := 74) dX6_tell_73 rfl rfl (by decide) (by decide) ?_
            refine w_icmp_ge (n' := 77) (tgt := 119) dX6_tell_74 rfl rfl (fun h74 => ?_) (fun h74 => ?_)
            · have hin2 : i = n := by
                rcases Nat.lt_or_ge i n with c | c
                · exact absurd h74 (by rw [hp2]; exact nI_ge (b := n) c (by omega))
                · omega
              rw [hin2] at k1
              refine w_iload (n' := 121) dX6_tell_119 rfl rfl ?_
              refine w_if_lt (n' := 124) (tgt := 137) dX6_tell_121 rfl rfl (fun h121 => ?_) (fun h121 => ?_)
              · refine w_aload_n (i := 0) (n' := 138) dX6_tell_137 rfl rfl rfl ?_
                refine w_iload_n (i := 3) (n' := 139) dX6_tell_138 rfl rfl rfl ?_
                refine v_E (ci := 6) (n' := 142) dX6_tell_139 rfl lRX6_128 okX6_leanBy voX6_leanBy ⟨⟨Nat.le_of_ble_eq_true rfl, Nat.le_of_ble_eq_true rfl⟩, Nat.le_of_ble_eq_true rfl, Nat.le_of_ble_eq_true rfl⟩ (c6_leanBy hp2 h8 _) rfl rfl (Nat.le_of_ble_eq_true rfl) rfl (Nat.le_of_ble_eq_true rfl) rfl ?_
                rw [k1.lean, show leanR (opR (mem 51) (nI z) v n) n (lastS (DR (mem 51)) n) = tellW (mem 51) n v z from rfl]
                refine w_iload_n (i := 1) (n' := 143) dX6_tell_142 rfl rfl rfl ?_
                refine w_icmp_lt (n' := 146) (tgt := 151) dX6_tell_143 rfl rfl (fun h143 => ?_) (fun h143 => ?_)
                · refine w_iload (n' := 153) dX6_tell_151 rfl rfl ?_
                  refine w_istore (n' := 155) (ls' := [_, _, _, _, _, _, _]) dX6_tell_153 rfl (Nat.le_of_ble_eq_true rfl) rfl rfl ?_
                  refine w_aload_n (i := 0) (n' := 156) dX6_tell_155 rfl rfl rfl ?_
                  refine w_get (ci := 6) (j := 3) (n' := 159) dX6_tell_156 rfl fRX6_19 (Nat.le_of_ble_eq_true rfl) (Nat.le_of_ble_eq_true rfl) rfl rfl ?_
                  refine w_aload_n (i := 0) (n' := 160) dX6_tell_159 rfl rfl rfl ?_
                  refine w_get (ci := 6) (j := 0) (n' := 163) dX6_tell_160 rfl fRX6_7 (Nat.le_of_ble_eq_true rfl) (Nat.le_of_ble_eq_true rfl) rfl rfl ?_
                  refine s_E (n' := 166) dX6_tell_163 rfl lRX6_162 okX6_copyRow stX6_copyRow ⟨⟨Nat.le_of_ble_eq_true rfl, Nat.le_of_ble_eq_true rfl⟩, Nat.le_of_ble_eq_true rfl, Nat.le_of_ble_eq_true rfl⟩ (c6_copyRow (a := 54) (b := 51) rfl rfl rfl rfl (by decide) _) rfl rfl (Nat.le_of_ble_eq_true rfl) ?_
                  refine w_iinc (n' := 169) (v := nI (z + 1)) (ls' := [_, _, _, _, _, _, _]) dX6_tell_166 rfl rfl (nI_1 z) (Nat.le_of_ble_eq_true rfl) rfl rfl ?_
                  refine w_goto (tgt := 39) dX6_tell_169 rfl ?_
                  exact ih2 _ _ _ ⟨by rw [tellS, ← h2, if_pos h121, if_pos h143], h1.back k1 (fun j hj => opR_o _ _ _ _ (by omega))⟩
                · refine w_iload (n' := 148) dX6_tell_146 rfl rfl ?_
                  refine w_goto (tgt := 153) dX6_tell_148 rfl ?_
                  refine w_istore (n' := 155) (ls' := [_, _, _, _, _, _, _]) dX6_tell_153 rfl (Nat.le_of_ble_eq_true rfl) rfl rfl ?_
                  refine w_aload_n (i := 0) (n' := 156) dX6_tell_155 rfl rfl rfl ?_
                  refine w_get (ci := 6) (j := 3) (n' := 159) dX6_tell_156 rfl fRX6_19 (Nat.le_of_ble_eq_true rfl) (Nat.le_of_ble_eq_true rfl) rfl rfl ?_
                  refine w_aload_n (i := 0) (n' := 160) dX6_tell_159 rfl rfl rfl ?_
                  refine w_get (ci := 6) (j := 0) (n' := 163) dX6_tell_160 rfl fRX6_7 (Nat.le_of_ble_eq_true rfl) (Nat.le_of_ble_eq_true rfl) rfl rfl ?_
                  refine s_E (n' := 166) dX6_tell_163 rfl lRX6_162 okX6_copyRow stX6_copyRow ⟨⟨Nat.le_of_ble_eq_true rfl, Nat.le_of_ble_eq_true rfl⟩, Nat.le_of_ble_eq_true rfl, Nat.le_of_ble_eq_true rfl⟩ (c6_copyRow (a := 54) (b := 51) rfl rfl rfl rfl (by decide) _) rfl rfl (Nat.le_of_ble_eq_true rfl) ?_
                  refine w_iinc (n' := 169) (v := nI (z + 1)) (ls' := [_, _, _, _, _, _, _]) dX6_tell_166 rfl rfl (nI_1 z) (Nat.le_of_ble_eq_true rfl) rfl rfl ?_
                  refine w_goto (tgt := 39) dX6_tell_169 rfl ?_
                  exact ih2 _ _ _ ⟨by rw [tellS, ← h2, if_pos h121, if_neg h143], h1.back k1 (fun j hj => opR_o _ _ _ _ (by omega))⟩
              · obtain ⟨w, hw1, hw2⟩ : ∃ w, w < z ∧ bs = nI w := by
                  rcases tellS_N (tellW (mem 51) n v) q z with e | ⟨w, e1, e2⟩
                  · exact absurd (show bs < 0 by rw [h2, e]; decide) h121
                  · exact ⟨w, e1, by rw [h2, e2]⟩
                subst hw2
                refine w_iload (n' := 126) dX6_tell_124 rfl rfl ?_
                refine s_E (n' := 129) dX6_tell_126 rfl lRX6_168 okX6_many stX6_many ⟨⟨Nat.le_of_ble_eq_true rfl, Nat.le_of_ble_eq_true rfl⟩, Nat.le_of_ble_eq_true rfl, Nat.le_of_ble_eq_true rfl⟩ (c6_many z (by omega) _) rfl rfl (Nat.le_of_ble_eq_true rfl) ?_
                refine w_iload (n' := 131) dX6_tell_129 rfl rfl ?_
                refine s_E (n' := 134) dX6_tell_131 rfl lRX6_168 okX6_many stX6_many ⟨⟨Nat.le_of_ble_eq_true rfl, Nat.le_of_ble_eq_true rfl⟩, Nat.le_of_ble_eq_true rfl, Nat.le_of_ble_eq_true rfl⟩ (c6_many w (by omega) _) rfl rfl (Nat.le_of_ble_eq_true rfl) ?_
                refine w_icmp_ge (n' := 137) (tgt := 151) dX6_tell_134 rfl rfl (fun h134 => ?_) (fun h134 => ?_)
                · refine w_iload (n' := 153) dX6_tell_151 rfl rfl ?_
                  refine w_istore (n' := 155) (ls' := [_, _, _, _, _, _, _]) dX6_tell_153 rfl (Nat.le_of_ble_eq_true rfl) rfl rfl ?_
                  refine w_aload_n (i := 0) (n' := 156) dX6_tell_155 rfl rfl rfl ?_
                  refine w_get (ci := 6) (j := 3) (n' := 159) dX6_tell_156 rfl fRX6_19 (Nat.le_of_ble_eq_true rfl) (Nat.le_of_ble_eq_true rfl) rfl rfl ?_
                  refine w_aload_n (i := 0) (n' := 160) dX6_tell_159 rfl rfl rfl ?_
                  refine w_get (ci := 6) (j := 0) (n' := 163) dX6_tell_160 rfl fRX6_7 (Nat.le_of_ble_eq_true rfl) (Nat.le_of_ble_eq_true rfl) rfl rfl ?_
                  refine s_E (n' := 166) dX6_tell_163 rfl lRX6_162 okX6_copyRow stX6_copyRow ⟨⟨Nat.le_of_ble_eq_true rfl, Nat.le_of_ble_eq_true rfl⟩, Nat.le_of_ble_eq_true rfl, Nat.le_of_ble_eq_true rfl⟩ (c6_copyRow (a := 54) (b := 51) rfl rfl rfl rfl (by decide) _) rfl rfl (Nat.le_of_ble_eq_true rfl) ?_
                  refine w_iinc (n' := 169) (v := nI (z + 1)) (ls' := [_, _, _, _, _, _, _]) dX6_tell_166 rfl rfl (nI_1 z) (Nat.le_of_ble_eq_true rfl) rfl rfl ?_
                  refine w_goto (tgt := 39) dX6_tell_169 rfl ?_
                  exact ih2 _ _ _ ⟨by rw [tellS, ← h2, if_neg h121, if_neg (Int32.not_lt.mpr h134)], h1.back k1 (fun j hj => opR_o _ _ _ _ (by omega))⟩
                · refine w_aload_n (i := 0) (n' := 138) dX6_tell_137 rfl rfl rfl ?_
                  refine w_iload_n (i := 3) (n' := 139) dX6_tell_138 rfl rfl rfl ?_
                  refine v_E (ci := 6) (n' := 142) dX6_tell_139 rfl lRX6_128 okX6_leanBy voX6_leanBy ⟨⟨Nat.le_of_ble_eq_true rfl, Nat.le_of_ble_eq_true rfl⟩, Nat.le_of_ble_eq_true rfl, Nat.le_of_ble_eq_true rfl⟩ (c6_leanBy hp2 h8 _) rfl rfl (Nat.le_of_ble_eq_true rfl) rfl (Nat.le_of_ble_eq_true rfl) rfl ?_
                  rw [k1.lean, show leanR (opR (mem 51) (nI z) v n) n (lastS (DR (mem 51)) n) = tellW (mem 51) n v z from rfl]
                  refine w_iload_n (i := 1) (n' := 143) dX6_tell_142 rfl rfl rfl ?_
                  refine w_icmp_lt (n' := 146) (tgt := 151) dX6_tell_143 rfl rfl (fun h143 => ?_) (fun h143 => ?_)
                  · refine w_iload (n' := 153) dX6_tell_151 rfl rfl ?_
                    refine w_istore (n' := 155) (ls' := [_, _, _, _, _, _, _]) dX6_tell_153 rfl (Nat.le_of_ble_eq_true rfl) rfl rfl ?_
                    refine w_aload_n (i := 0) (n' := 156) dX6_tell_155 rfl rfl rfl ?_
                    refine w_get (ci := 6) (j := 3) (n' := 159) dX6_tell_156 rfl fRX6_19 (Nat.le_of_ble_eq_true rfl) (Nat.le_of_ble_eq_true rfl) rfl rfl ?_
                    refine w_aload_n (i := 0) (n' := 160) dX6_tell_159 rfl rfl rfl ?_
                    refine w_get (ci := 6) (j := 0) (n' := 163) dX6_tell_160 rfl fRX6_7 (Nat.le_of_ble_eq_true rfl) (Nat.le_of_ble_eq_true rfl) rfl rfl ?_
                    refine s_E (n' := 166) dX6_tell_163 rfl lRX6_162 okX6_copyRow stX6_copyRow ⟨⟨Nat.le_of_ble_eq_true rfl, Nat.le_of_ble_eq_true rfl⟩, Nat.le_of_ble_eq_true rfl, Nat.le_of_ble_eq_true rfl⟩ (c6_copyRow (a := 54) (b := 51) rfl rfl rfl rfl (by decide) _) rfl rfl (Nat.le_of_ble_eq_true rfl) ?_
                    refine w_iinc (n' := 169) (v := nI (z + 1)) (ls' := [_, _, _, _, _, _, _]) dX6_tell_166 rfl rfl (nI_1 z) (Nat.le_of_ble_eq_true rfl) rfl rfl ?_
                    refine w_goto (tgt := 39) dX6_tell_169 rfl ?_
                    exact ih2 _ _ _ ⟨by rw [tellS, ← h2, if_neg h121, if_pos (Int32.not_le.mp h134), if_pos h143], h1.back k1 (fun j hj => opR_o _ _ _ _ (by omega))⟩
                  · refine w_iload (n' := 148) dX6_tell_146 rfl rfl ?_
                    refine w_goto (tgt := 153) dX6_tell_148 rfl ?_
                    refine w_istore (n' := 155) (ls' := [_, _, _, _, _, _, _]) dX6_tell_153 rfl (Nat.le_of_ble_eq_true rfl) rfl rfl ?_
                    refine w_aload_n (i := 0) (n' := 156) dX6_tell_155 rfl rfl rfl ?_
                    refine w_get (ci := 6) (j := 3) (n' := 159) dX6_tell_156 rfl fRX6_19 (Nat.le_of_ble_eq_true rfl) (Nat.le_of_ble_eq_true rfl) rfl rfl ?_
                    refine w_aload_n (i := 0) (n' := 160) dX6_tell_159 rfl rfl rfl ?_
                    refine w_get (ci := 6) (j := 0) (n' := 163) dX6_tell_160 rfl fRX6_7 (Nat.le_of_ble_eq_true rfl) (Nat.le_of_ble_eq_true rfl) rfl rfl ?_
                    refine s_E (n' := 166) dX6_tell_163 rfl lRX6_162 okX6_copyRow stX6_copyRow ⟨⟨Nat.le_of_ble_eq_true rfl, Nat.le_of_ble_eq_true rfl⟩, Nat.le_of_ble_eq_true rfl, Nat.le_of_ble_eq_true rfl⟩ (c6_copyRow (a := 54) (b := 51) rfl rfl rfl rfl (by decide) _) rfl rfl (Nat.le_of_ble_eq_true rfl) ?_
                    refine w_iinc (n' := 169) (v := nI (z + 1)) (ls' := [_, _, _, _, _, _, _]) dX6_tell_166 rfl rfl (nI_1 z) (Nat.le_of_ble_eq_true rfl) rfl rfl ?_
                    refine w_goto (tgt := 39) dX6_tell_169 rfl ?_
                    exact ih2 _ _ _ ⟨by rw [tellS, ← h2, if_neg h121, if_pos (Int32.not_le.mp h134), if_neg h143], h1.back k1 (fun j hj => opR_o _ _ _ _ (by omega))⟩
            · have hlt2 : i < n := by
                rcases Nat.lt_or_ge i n with c | c
                · exact c
                · exact absurd (by rw [hp2]; exact nI_le (a := n) c (by omega)) h74
              refine w_aload_n (i := 0) (n' := 78) dX6_tell_77 rfl rfl rfl ?_
              refine w_get (ci := 6) (j := 0) (n' := 81) dX6_tell_78 rfl fRX6_7 (Nat.le_of_ble_eq_true rfl) (Nat.le_of_ble_eq_true rfl) rfl rfl ?_
              refine w_bipush (v := 6) (n' := 83) dX6_tell_81 rfl (by decide) ?_
              refine w_iconst (v := 5) (n' := 84) dX6_tell_83 rfl rfl ?_
              refine w_iload (n' := 86) dX6_tell_84 rfl rfl ?_
              refine w_imul (n' := 87) dX6_tell_86 rfl ?_
              refine w_iadd (n' := 88) dX6_tell_87 rfl ?_
              refine w_iconst (v := 3) (n' := 89) dX6_tell_88 rfl rfl ?_
              refine w_iadd (n' := 90) dX6_tell_89 rfl ?_
              refine w_iload (n' := 92) dX6_tell_90 rfl rfl ?_
              refine w_iload (n' := 94) dX6_tell_92 rfl rfl ?_
              refine w_ishr (n' := 95) dX6_tell_94 rfl ?_
              refine w_iconst (v := 1) (n' := 96) dX6_tell_95 rfl rfl ?_
              refine w_iand (n' := 97) dX6_tell_96 rfl ?_
              refine w_iconst (v := 1) (n' := 98) dX6_tell_97 rfl rfl ?_
              refine w_icmp_ne (n' := 101) (tgt := 105) dX6_tell_98 rfl rfl (fun h98 => ?_) (fun h98 => ?_)
              · refine w_aload_n (i := 0) (n' := 106) dX6_tell_105 rfl rfl rfl ?_
                refine w_iload (n' := 108) dX6_tell_106 rfl rfl ?_
                refine w_iconst (v := 3) (n' := 109) dX6_tell_108 rfl rfl ?_
                refine v_E (ci := 6) (n' := 112) dX6_tell_109 rfl lRX6_70 okX6_its voX6_its ⟨⟨Nat.le_of_ble_eq_true rfl, Nat.le_of_ble_eq_true rfl⟩, Nat.le_of_ble_eq_true rfl, Nat.le_of_ble_eq_true rfl⟩ (c6_its (i := i) (j := 3) _ _ rfl (by decide) (by omega) _) rfl rfl (Nat.le_of_ble_eq_true rfl) rfl (Nat.le_of_ble_eq_true rfl) rfl ?_
                refine w_iast (n := 6 + 5 * i + 3) (n' := 113) dX6_tell_112 rfl rfl (hix _) (show 6 + 5 * i + 3 < 56 by omega) ?_
                refine w_iinc (n' := 116) (v := nI (i + 1)) (ls' := [_, _, _, _, _, _, _]) dX6_tell_113 rfl rfl (nI_1 i) (Nat.le_of_ble_eq_true rfl) rfl rfl ?_
                refine w_goto (tgt := 66) dX6_tell_116 rfl ?_
                exact ihi hlt2 _ (by have := k1.putS (p := 6 + 5 * i + 3) (v := t 51 (6 + 5 * i + 3)); rw [opR, if_neg h98, ← k1.1]; rw [← k1.1] at this; exact this)
              · refine w_iload_n (i := 2) (n' := 102) dX6_tell_101 rfl rfl rfl ?_
                refine w_goto (tgt := 112) dX6_tell_102 rfl ?_
                refine w_iast (n := 6 + 5 * i + 3) (n' := 113) dX6_tell_112 rfl rfl (hix _) (show 6 + 5 * i + 3 < 56 by omega) ?_
                refine w_iinc (n' := 116) (v := nI (i + 1)) (ls' := [_, _, _, _, _, _, _]) dX6_tell_113 rfl rfl (nI_1 i) (Nat.le_of_ble_eq_true rfl) rfl rfl ?_
                refine w_goto (tgt := 66) dX6_tell_116 rfl ?_
                exact ihi hlt2 _ (by have := k1.putS (p := 6 + 5 * i + 3) (v := v); rw [opR, if_pos h98]; exact this)
          exact L2 0 _ (Nat.zero_le _) h1.asd
      exact L 0 (-1, none, cdM mem n) (Nat.zero_le _) ⟨rfl, cd_QX mem n⟩
    · refine w_aload_n (i := 0) (n' := 22) dX6_tell_21 rfl rfl rfl ?_
      refine w_ldc (v := -1000001) (n' := 24) dX6_tell_22 rfl kRX6_43 ?_
      refine v_E (ci := 6) (n' := 27) dX6_tell_24 rfl lRX6_45 okX6_finds voX6_finds ⟨⟨Nat.le_of_ble_eq_true rfl, Nat.le_of_ble_eq_true rfl⟩, Nat.le_of_ble_eq_true rfl, Nat.le_of_ble_eq_true rfl⟩ (c6_finds 0 _ (by decide) (by decide) _) rfl rfl (Nat.le_of_ble_eq_true rfl) rfl (Nat.le_of_ble_eq_true rfl) rfl ?_
      exact w_iret dX6_tell_27 rfl ⟨_, rfl, Or.inl ⟨Or.inr (by simpa using h18), rfl, rfl⟩⟩
theorem sub_mod0 {x c m : Nat} (hc : c ≤ x) : (x - c) % m = 0 ↔ x % m = c % m := by
  constructor
  · intro h
    have : x = c + (x - c) := by omega
    rw [this, Nat.add_mod, h, Nat.add_zero, Nat.mod_mod]
  · exact Nat.sub_mod_eq_zero_of_mod_eq
def CutI (k b c : Nat) (v : Int32) : Prop := (v = 0 ∧ ∀ d, 1 ≤ d → d < c → d < k → ¬ (k - 1 - d) % (b + 1) = 0) ∨ (v = nI ((k - 1) % (b + 1)) ∧ 1 ≤ (k - 1) % (b + 1))
theorem CutI.out {k b c : Nat} {v : Int32} (h : CutI k b c v) (hk : 1 ≤ k) (he : c = b + 1 ∨ k ≤ c ∨ ¬ v = 0) : v = nI ((k - 1) % (b + 1)) := by
  rcases h with ⟨h1, h2⟩ | h
  · have hr := Nat.mod_lt (k - 1) (show 0 < b + 1 by omega)
    have hr2 := Nat.mod_le (k - 1) (b + 1)
    by_cases c0 : (k - 1) % (b + 1) = 0
    · rw [c0, h1]; rfl
    · exfalso
      have hc : (k - 1) % (b + 1) < c := by
        rcases he with q | q | q
        · omega
        · omega
        · exact absurd h1 q
      exact h2 _ (by omega) hc (by omega) ((sub_mod0 hr2).mpr (by rw [Nat.mod_mod]))
  · exact h.1
theorem CutI.no {k b c : Nat} {v : Int32} (h : CutI k b c v) (hv : v = 0) (hk : k ≤ 1000) (hc : ¬ nI ((k - c - 1) % (b + 1)) = 0) : CutI k b (c + 1) 0 := by
  rcases h with h | h
  · refine Or.inl ⟨rfl, fun d d1 d2 d3 => ?_⟩
    by_cases e : d = c
    · subst e
      intro q
      rw [show k - d - 1 = k - 1 - d by omega, q] at hc
      exact hc rfl
    · exact h.2 d d1 (by omega) d3
  · rw [hv] at h
    have hr2 := Nat.mod_le (k - 1) (b + 1)
    exact absurd h.1.symm (nI_ne0 (by omega) (by omega))
theorem CutI.yes {k b c : Nat} (hk : k ≤ 1000) (h1 : 1 ≤ c) (h2 : c ≤ b) (h3 : c < k) (hc : nI ((k - c - 1) % (b + 1)) = 0) : CutI k b (c + 1) (nI c) := by
  have hr2 := Nat.mod_le (k - c - 1) (b + 1)
  have e : (k - 1 - c) % (b + 1) = 0 := by
    rw [show k - 1 - c = k - c - 1 by omega]
    exact (nI_eq (b := 0) (by omega) (by omega)).mp hc
  rw [sub_mod0 (by omega), Nat.mod_eq_of_lt (show c < b + 1 by omega)] at e
  exact Or.inr ⟨by rw [e], by omega⟩
def CutO (mem s : Mem) (b k : Nat) : Prop := (∀ j, 1 ≤ j → j < k → s 61 j = nI ((j - 1) % (b + 1))) ∧ ∀ c, c ≠ 61 → s c = mem c
theorem CutO.put {mem s : Mem} {b k : Nat} {v : Int32} (h : CutO mem s b k) : CutO mem (up2 s 61 k v) b k := ⟨fun j h1 h2 => by rw [up2_same]; simp only [upd]; rw [if_neg (by omega)]; exact h.1 j h1 h2, fun c hc => by rw [up2_ne _ _ _ hc]; exact h.2 c hc⟩
theorem up2_v1 (m : Mem) (k j : Nat) (x : Int32) : up2 m k j x k j = x := by rw [up2_same]; simp [upd]
set_option maxHeartbeats 4000000 in
theorem c6_findsCuts {a b : Nat} (ha : a ≤ 200) (hb : b ≤ 20) (mem : Mem) : CnV mX6_findsCuts [.ref 50, .int (nI a), .int (nI b)] mem (fun m' => CutO mem m' b (a + 1)) := by
  refine Cn.of (ls := [some (.ref 50), some (.int (nI a)), some (.int (nI b)), none, none]) (by decide) rfl (Nat.le_of_ble_eq_true rfl) ?_
  refine w_iconst (v := 1) (n' := 1) dX6_findsCuts_0 rfl rfl ?_
  refine w_istore_n (i := 3) (n' := 2) (ls' := [_, _, _, _, _]) dX6_findsCuts_1 rfl rfl (Nat.le_of_ble_eq_true rfl) rfl rfl ?_
  have L : ∀ (k : Nat) (st : Option Value × Mem), k ≤ a + 1 → (1 ≤ k ∧ CutO mem st.2 b k) → Wm mX6_findsCuts (zM mX6_findsCuts (fun rZ mZ => rZ = none ∧ (fun m' => CutO mem m' b (a + 1)) mZ)) 2 [some (.ref 50), some (.int (nI a)), some (.int (nI b)), some (.int (nI k)), st.1] [] st.2 := by
    refine for_ind (a + 1) ?_
    rintro k ⟨l4, s⟩ hk ⟨hk1, h1⟩ ih0
    dsimp only at h1 ih0 ⊢
    have ih : k < a + 1 → ∀ (x : Option Value) (m9 : Mem), (1 ≤ k + 1 ∧ CutO mem m9 b (k + 1)) → _ := fun q x m9 hh => ih0 q (x, m9) hh
    dsimp only at ih
    refine w_iload_n (i := 3) (n' := 3) dX6_findsCuts_2 rfl rfl rfl ?_
    refine w_iload_n (i := 1) (n' := 4) dX6_findsCuts_3 rfl rfl rfl ?_
    refine w_icmp_gt (n' := 7) (tgt := 74) dX6_findsCuts_4 rfl rfl (fun h4 => ?_) (fun h4 => ?_)
    · have hin : k = a + 1 := by
        rcases Nat.lt_or_ge k (a + 1) with q | q
        · exact absurd h4 (nI_nlt (a := a) (b := k) (by omega) (by omega))
        · omega
      rw [hin] at h1
      exact w_vret dX6_findsCuts_74 rfl ⟨rfl, h1⟩
    · have hk2 : k < a + 1 := by
        rcases Nat.lt_or_ge k (a + 1) with q | q
        · exact q
        · exact absurd (nI_lt (a := a) (b := k) (by omega) (by omega)) h4
      refine w_aload_n (i := 0) (n' := 8) dX6_findsCuts_7 rfl rfl rfl ?_
      refine w_get (ci := 6) (j := 12) (n' := 11) dX6_findsCuts_8 rfl fRX6_40 (Nat.le_of_ble_eq_true rfl) (Nat.le_of_ble_eq_true rfl) rfl rfl ?_
      refine w_iload_n (i := 3) (n' := 12) dX6_findsCuts_11 rfl rfl rfl ?_
      refine w_iconst (v := 0) (n' := 13) dX6_findsCuts_12 rfl rfl ?_
      refine w_iast (n := k) (n' := 14) dX6_findsCuts_13 rfl rfl rfl (show k < 201 by omega) ?_
      refine w_iconst (v := 1) (n' := 15) dX6_findsCuts_14 rfl rfl ?_
      refine w_istore (n' := 17) (ls' := [_, _, _, _, _]) dX6_findsCuts_15 rfl (Nat.le_of_ble_eq_true rfl) rfl rfl ?_
      have L2 : ∀ (c : Nat) (t : Mem), c ≤ b + 1 → (1 ≤ c ∧ CutO mem t b k ∧ CutI k b c (t 61 k)) → Wm mX6_findsCuts (zM mX6_findsCuts (fun rZ mZ => rZ = none ∧ (fun m' => CutO mem m' b (a + 1)) mZ)) 17 [some (.ref 50), some (.int (nI a)), some (.int (nI b)), some (.int (nI k)), some (.int (nI c))] [] t := by
        refine for_ind (b + 1) ?_
        rintro c t hc ⟨hc1, k1, k2⟩ ihc
        refine w_iload (n' := 19) dX6_findsCuts_17 rfl rfl ?_
        refine w_iload_n (i := 2) (n' := 20) dX6_findsCuts_19 rfl rfl rfl ?_
        refine w_icmp_gt (n' := 23) (tgt := 68) dX6_findsCuts_20 rfl rfl (fun h20 => ?_) (fun h20 => ?_)
        · have hin2 : c = b + 1 := by
            rcases Nat.lt_or_ge c (b + 1) with q | q
            · exact absurd h20 (nI_nlt (a := b) (b := c) (by omega) (by omega))
            · omega
          refine w_iinc (n' := 71) (v := nI (k + 1)) (ls' := [_, _, _, _, _]) dX6_findsCuts_68 rfl rfl (nI_1 k) (Nat.le_of_ble_eq_true rfl) rfl rfl ?_
          refine w_goto (tgt := 2) dX6_findsCuts_71 rfl ?_
          exact ih hk2 _ _ ⟨by omega, fun j j1 j2 => by
            rcases Nat.lt_or_ge j k with e | e
            · exact k1.1 j j1 e
            · rw [show j = k by omega]; exact k2.out hk1 (Or.inl hin2), k1.2⟩
        · have hc2 : c < b + 1 := by
            rcases Nat.lt_or_ge c (b + 1) with q | q
            · exact q
            · exact absurd (nI_lt (a := b) (b := c) (by omega) (by omega)) h20
          refine w_iload (n' := 25) dX6_findsCuts_23 rfl rfl ?_
          refine w_iload_n (i := 3) (n' := 26) dX6_findsCuts_25 rfl rfl rfl ?_
          refine w_icmp_ge (n' := 29) (tgt := 68) dX6_findsCuts_26 rfl rfl (fun h26 => ?_) (fun h26 => ?_)
          · have hkc : k ≤ c := by
              rcases Nat.lt_or_ge c k with q | q
              · exact absurd h26 (nI_ge q (by omega))
              · exact q
            refine w_iinc (n' := 71) (v := nI (k + 1)) (ls' := [_, _, _, _, _]) dX6_findsCuts_68 rfl rfl (nI_1 k) (Nat.le_of_ble_eq_true rfl) rfl rfl ?_
            refine w_goto (tgt := 2) dX6_findsCuts_71 rfl ?_
            exact ih hk2 _ _ ⟨by omega, fun j j1 j2 => by
              rcases Nat.lt_or_ge j k with e | e
              · exact k1.1 j j1 e
              · rw [show j = k by omega]; exact k2.out hk1 (Or.inr (Or.inl hkc)), k1.2⟩
          · have hck : c < k := by
              rcases Nat.lt_or_ge c k with q | q
              · exact q
              · exact absurd (nI_le q (by omega)) h26
            refine w_aload_n (i := 0) (n' := 30) dX6_findsCuts_29 rfl rfl rfl ?_
            refine w_get (ci := 6) (j := 12) (n' := 33) dX6_findsCuts_30 rfl fRX6_40 (Nat.le_of_ble_eq_true rfl) (Nat.le_of_ble_eq_true rfl) rfl rfl ?_
            refine w_iload_n (i := 3) (n' := 34) dX6_findsCuts_33 rfl rfl rfl ?_
            refine w_iald (n := k) (n' := 35) dX6_findsCuts_34 rfl rfl rfl (show k < 201 by omega) ?_
            refine w_if_ne (n' := 38) (tgt := 68) dX6_findsCuts_35 rfl rfl (fun h35 => ?_) (fun h35 => ?_)
            · refine w_iinc (n' := 71) (v := nI (k + 1)) (ls' := [_, _, _, _, _]) dX6_findsCuts_68 rfl rfl (nI_1 k) (Nat.le_of_ble_eq_true rfl) rfl rfl ?_
              refine w_goto (tgt := 2) dX6_findsCuts_71 rfl ?_
              exact ih hk2 _ _ ⟨by omega, fun j j1 j2 => by
                rcases Nat.lt_or_ge j k with e | e
                · exact k1.1 j j1 e
                · rw [show j = k by omega]; exact k2.out hk1 (Or.inr (Or.inr h35)), k1.2⟩
            · refine w_aload_n (i := 0) (n' := 39) dX6_findsCuts_38 rfl rfl rfl ?_
              refine w_get (ci := 6) (j := 12) (n' := 42) dX6_findsCuts_39 rfl fRX6_40 (Nat.le_of_ble_eq_true rfl) (Nat.le_of_ble_eq_true rfl) rfl rfl ?_
              refine w_iload_n (i := 3) (n' := 43) dX6_findsCuts_42 rfl rfl rfl ?_
              refine w_aload_n (i := 0) (n' := 44) dX6_findsCuts_43 rfl rfl rfl ?_
              refine w_get (ci := 6) (j := 12) (n' := 47) dX6_findsCuts_44 rfl fRX6_40 (Nat.le_of_ble_eq_true rfl) (Nat.le_of_ble_eq_true rfl) rfl rfl ?_
              refine w_iload_n (i := 3) (n' := 48) dX6_findsCuts_47 rfl rfl rfl ?_
              refine w_iload (n' := 50) dX6_findsCuts_48 rfl rfl ?_
              refine w_isub (n' := 51) dX6_findsCuts_50 rfl ?_
              refine w_iald (n := k - c) (n' := 52) dX6_findsCuts_51 rfl rfl (pk_sub (by omega)) (show k - c < 201 by omega) ?_
              refine w_if_ne (n' := 55) (tgt := 60) dX6_findsCuts_52 rfl rfl (fun h52 => ?_) (fun h52 => ?_)
              · refine w_iconst (v := 0) (n' := 61) dX6_findsCuts_60 rfl rfl ?_
                refine w_iast (n := k) (n' := 62) dX6_findsCuts_61 rfl rfl rfl (show k < 201 by omega) ?_
                refine w_iinc (n' := 65) (v := nI (c + 1)) (ls' := [_, _, _, _, _]) dX6_findsCuts_62 rfl rfl (nI_1 c) (Nat.le_of_ble_eq_true rfl) rfl rfl ?_
                refine w_goto (tgt := 17) dX6_findsCuts_65 rfl ?_
                exact ihc hc2 _ ⟨by omega, k1.put, by rw [up2_v1]; exact k2.no h35 (by omega) (by rw [← k1.1 (k - c) (by omega) (by omega)]; exact h52)⟩
              · refine w_iload (n' := 57) dX6_findsCuts_55 rfl rfl ?_
                refine w_goto (tgt := 61) dX6_findsCuts_57 rfl ?_
                refine w_iast (n := k) (n' := 62) dX6_findsCuts_61 rfl rfl rfl (show k < 201 by omega) ?_
                refine w_iinc (n' := 65) (v := nI (c + 1)) (ls' := [_, _, _, _, _]) dX6_findsCuts_62 rfl rfl (nI_1 c) (Nat.le_of_ble_eq_true rfl) rfl rfl ?_
                refine w_goto (tgt := 17) dX6_findsCuts_65 rfl ?_
                exact ihc hc2 _ ⟨by omega, k1.put, by rw [up2_v1]; exact CutI.yes (by omega) hc1 (by omega) hck (by rw [← k1.1 (k - c) (by omega) (by omega)]; exact h52)⟩
      exact L2 1 _ (by omega) ⟨Nat.le_refl _, h1.put, Or.inl ⟨up2_v1 _ _ _ _, fun d d1 d2 => absurd d1 (by omega)⟩⟩
  exact L 1 (_, _) (by omega) ⟨Nat.le_refl _, fun j j1 j2 => absurd j1 (by omega), fun _ _ => rfl⟩
theorem CutO.QM {mem s : Mem} {b k : Nat} (h : CutO mem s b k) : QM mem s := ⟨fun j _ => by rw [h.2 51 (by decide)], fun a _ _ _ a4 => h.2 a a4⟩
theorem cut_no {a b : Int32} (h : (if inR a 1 200 = 0 then (0 : Int32) else if inR b 1 20 = 0 then 0 else 1) = 0) : inR a 1 200 = 0 ∨ inR b 1 20 = 0 := by
  by_cases h1 : inR a 1 200 = 0
  · exact Or.inl h1
  · rw [if_neg h1] at h
    by_cases h2 : inR b 1 20 = 0
    · exact Or.inr h2
    · rw [if_neg h2] at h
      exact absurd h (by decide)
theorem cut_yes {a b : Int32} (h : ¬ (if inR a 1 200 = 0 then (0 : Int32) else if inR b 1 20 = 0 then 0 else 1) = 0) : ∃ p r, 1 ≤ p ∧ p ≤ 200 ∧ 1 ≤ r ∧ r ≤ 20 ∧ a = nI p ∧ b = nI r := by
  by_cases h1 : inR a 1 200 = 0
  · rw [if_pos h1] at h
    exact absurd rfl h
  · rw [if_neg h1] at h
    by_cases h2 : inR b 1 20 = 0
    · rw [if_pos h2] at h
      exact absurd rfl h
    · obtain ⟨p, p1, p2, p3⟩ := inR_1 (K := 1) (N := 200) (by decide) (by decide) h1
      obtain ⟨r, r1, r2, r3⟩ := inR_1 (K := 1) (N := 20) (by decide) (by decide) h2
      exact ⟨p, r, p1, p2, r1, r2, p3, r3⟩
set_option maxHeartbeats 4000000 in
theorem c6_wins (a b : Int32) (mem : Mem) : CnI mX6_wins [.ref 50, .int a, .int b] mem (fun x m' => ((inR a 1 200 = 0 ∨ inR b 1 20 = 0) ∧ x = -1000001 ∧ m' = fndM mem 0) ∨ (∃ p r, 1 ≤ p ∧ p ≤ 200 ∧ 1 ≤ r ∧ r ≤ 20 ∧ a = nI p ∧ b = nI r ∧ x = (if (p - 1) % (r + 1) = 0 then 0 else 1) ∧ QM mem m')) := by
  refine Cn.of (ls := [some (.ref 50), some (.int a), some (.int b)]) (by decide) rfl (Nat.le_of_ble_eq_true rfl) ?_
  refine w_iload_n (i := 1) (n' := 1) dX6_wins_0 rfl rfl rfl ?_
  refine w_iload_n (i := 2) (n' := 2) dX6_wins_1 rfl rfl rfl ?_
  refine s_E (n' := 5) dX6_wins_2 rfl lRX6_179 okX6_isCut stX6_isCut ⟨⟨Nat.le_of_ble_eq_true rfl, Nat.le_of_ble_eq_true rfl⟩, Nat.le_of_ble_eq_true rfl, Nat.le_of_ble_eq_true rfl⟩ (c6_isCut _ _ _) rfl rfl (Nat.le_of_ble_eq_true rfl) ?_
  refine w_if_ne (n' := 8) (tgt := 15) dX6_wins_5 rfl rfl (fun h5 => ?_) (fun h5 => ?_)
  · obtain ⟨p, r, p1, p2, r1, r2, rfl, rfl⟩ := cut_yes h5
    refine w_aload_n (i := 0) (n' := 16) dX6_wins_15 rfl rfl rfl ?_
    refine w_iload_n (i := 1) (n' := 17) dX6_wins_16 rfl rfl rfl ?_
    refine w_iload_n (i := 2) (n' := 18) dX6_wins_17 rfl rfl rfl ?_
    refine v_V (ci := 6) (n' := 21) dX6_wins_18 rfl lRX6_182 okX6_findsCuts voX6_findsCuts ⟨⟨Nat.le_of_ble_eq_true rfl, Nat.le_of_ble_eq_true rfl⟩, Nat.le_of_ble_eq_true rfl, Nat.le_of_ble_eq_true rfl⟩ (c6_findsCuts p2 r2 _) rfl rfl (Nat.le_of_ble_eq_true rfl) rfl (Nat.le_of_ble_eq_true rfl) rfl (fun m18 q18 => ?_)
    have hv := q18.1 p p1 (by omega)
    have hr2 := Nat.mod_le (p - 1) (r + 1)
    refine w_aload_n (i := 0) (n' := 22) dX6_wins_21 rfl rfl rfl ?_
    refine w_get (ci := 6) (j := 12) (n' := 25) dX6_wins_22 rfl fRX6_40 (Nat.le_of_ble_eq_true rfl) (Nat.le_of_ble_eq_true rfl) rfl rfl ?_
    refine w_iload_n (i := 1) (n' := 26) dX6_wins_25 rfl rfl rfl ?_
    refine w_iald (n := p) (n' := 27) dX6_wins_26 rfl rfl rfl (show p < 201 by omega) ?_
    rw [hv]
    refine w_if_le (n' := 30) (tgt := 34) dX6_wins_27 rfl rfl (fun h27 => ?_) (fun h27 => ?_)
    · refine w_iconst (v := 0) (n' := 35) dX6_wins_34 rfl rfl ?_
      exact w_iret dX6_wins_35 rfl ⟨_, rfl, Or.inr ⟨p, r, p1, p2, r1, r2, rfl, rfl, by rw [if_pos (Classical.byContradiction fun q => absurd h27 (nI_nle (by omega) (by omega)))], q18.QM⟩⟩
    · refine w_iconst (v := 1) (n' := 31) dX6_wins_30 rfl rfl ?_
      refine w_goto (tgt := 35) dX6_wins_31 rfl ?_
      exact w_iret dX6_wins_35 rfl ⟨_, rfl, Or.inr ⟨p, r, p1, p2, r1, r2, rfl, rfl, by rw [if_neg (fun q => h27 (by rw [q]; decide))], q18.QM⟩⟩
  · refine w_aload_n (i := 0) (n' := 9) dX6_wins_8 rfl rfl rfl ?_
    refine w_ldc (v := -1000001) (n' := 11) dX6_wins_9 rfl kRX6_43 ?_
    refine v_E (ci := 6) (n' := 14) dX6_wins_11 rfl lRX6_45 okX6_finds voX6_finds ⟨⟨Nat.le_of_ble_eq_true rfl, Nat.le_of_ble_eq_true rfl⟩, Nat.le_of_ble_eq_true rfl, Nat.le_of_ble_eq_true rfl⟩ (c6_finds 0 _ (by decide) (by decide) _) rfl rfl (Nat.le_of_ble_eq_true rfl) rfl (Nat.le_of_ble_eq_true rfl) rfl ?_
    exact w_iret dX6_wins_14 rfl ⟨_, rfl, Or.inl ⟨cut_no h5, rfl, rfl⟩⟩
set_option maxHeartbeats 4000000 in
theorem c6_cut (a b : Int32) (mem : Mem) : CnI mX6_cut [.ref 50, .int a, .int b] mem (fun x m' => ((inR a 1 200 = 0 ∨ inR b 1 20 = 0) ∧ x = -1000001 ∧ m' = fndM mem 0) ∨ (∃ p r, 1 ≤ p ∧ p ≤ 200 ∧ 1 ≤ r ∧ r ≤ 20 ∧ a = nI p ∧ b = nI r ∧ (((p - 1) % (r + 1) = 0 ∧ x = -1000004 ∧ (∃ m2, QM mem m2 ∧ m' = fndM m2 3)) ∨ (¬ (p - 1) % (r + 1) = 0 ∧ x = nI ((p - 1) % (r + 1)) ∧ QM mem m')))) := by
  refine Cn.of (ls := [some (.ref 50), some (.int a), some (.int b)]) (by decide) rfl (Nat.le_of_ble_eq_true rfl) ?_
  refine w_iload_n (i := 1) (n' := 1) dX6_cut_0 rfl rfl rfl ?_
  refine w_iload_n (i := 2) (n' := 2) dX6_cut_1 rfl rfl rfl ?_
  refine s_E (n' := 5) dX6_cut_2 rfl lRX6_179 okX6_isCut stX6_isCut ⟨⟨Nat.le_of_ble_eq_true rfl, Nat.le_of_ble_eq_true rfl⟩, Nat.le_of_ble_eq_true rfl, Nat.le_of_ble_eq_true rfl⟩ (c6_isCut _ _ _) rfl rfl (Nat.le_of_ble_eq_true rfl) ?_
  refine w_if_ne (n' := 8) (tgt := 15) dX6_cut_5 rfl rfl (fun h5 => ?_) (fun h5 => ?_)
  · obtain ⟨p, r, p1, p2, r1, r2, rfl, rfl⟩ := cut_yes h5
    refine w_aload_n (i := 0) (n' := 16) dX6_cut_15 rfl rfl rfl ?_
    refine w_iload_n (i := 1) (n' := 17) dX6_cut_16 rfl rfl rfl ?_
    refine w_iload_n (i := 2) (n' := 18) dX6_cut_17 rfl rfl rfl ?_
    refine v_V (ci := 6) (n' := 21) dX6_cut_18 rfl lRX6_182 okX6_findsCuts voX6_findsCuts ⟨⟨Nat.le_of_ble_eq_true rfl, Nat.le_of_ble_eq_true rfl⟩, Nat.le_of_ble_eq_true rfl, Nat.le_of_ble_eq_true rfl⟩ (c6_findsCuts p2 r2 _) rfl rfl (Nat.le_of_ble_eq_true rfl) rfl (Nat.le_of_ble_eq_true rfl) rfl (fun m18 q18 => ?_)
    have hv := q18.1 p p1 (by omega)
    have hr2 := Nat.mod_le (p - 1) (r + 1)
    refine w_aload_n (i := 0) (n' := 22) dX6_cut_21 rfl rfl rfl ?_
    refine w_get (ci := 6) (j := 12) (n' := 25) dX6_cut_22 rfl fRX6_40 (Nat.le_of_ble_eq_true rfl) (Nat.le_of_ble_eq_true rfl) rfl rfl ?_
    refine w_iload_n (i := 1) (n' := 26) dX6_cut_25 rfl rfl rfl ?_
    refine w_iald (n := p) (n' := 27) dX6_cut_26 rfl rfl rfl (show p < 201 by omega) ?_
    rw [hv]
    refine w_if_le (n' := 30) (tgt := 39) dX6_cut_27 rfl rfl (fun h27 => ?_) (fun h27 => ?_)
    · refine w_aload_n (i := 0) (n' := 40) dX6_cut_39 rfl rfl rfl ?_
      refine w_ldc (v := -1000004) (n' := 42) dX6_cut_40 rfl kRX6_44 ?_
      refine v_E (ci := 6) (n' := 45) dX6_cut_42 rfl lRX6_45 okX6_finds voX6_finds ⟨⟨Nat.le_of_ble_eq_true rfl, Nat.le_of_ble_eq_true rfl⟩, Nat.le_of_ble_eq_true rfl, Nat.le_of_ble_eq_true rfl⟩ (c6_finds 3 _ (by decide) (by decide) _) rfl rfl (Nat.le_of_ble_eq_true rfl) rfl (Nat.le_of_ble_eq_true rfl) rfl ?_
      exact w_iret dX6_cut_45 rfl ⟨_, rfl, Or.inr ⟨p, r, p1, p2, r1, r2, rfl, rfl, Or.inl ⟨Classical.byContradiction fun q => absurd h27 (nI_nle (by omega) (by omega)), rfl, _, q18.QM, rfl⟩⟩⟩
    · refine w_aload_n (i := 0) (n' := 31) dX6_cut_30 rfl rfl rfl ?_
      refine w_get (ci := 6) (j := 12) (n' := 34) dX6_cut_31 rfl fRX6_40 (Nat.le_of_ble_eq_true rfl) (Nat.le_of_ble_eq_true rfl) rfl rfl ?_
      refine w_iload_n (i := 1) (n' := 35) dX6_cut_34 rfl rfl rfl ?_
      refine w_iald (n := p) (n' := 36) dX6_cut_35 rfl rfl rfl (show p < 201 by omega) ?_
      rw [hv]
      refine w_goto (tgt := 45) dX6_cut_36 rfl ?_
      exact w_iret dX6_cut_45 rfl ⟨_, rfl, Or.inr ⟨p, r, p1, p2, r1, r2, rfl, rfl, Or.inr ⟨fun q => h27 (by rw [q]; decide), rfl, q18.QM⟩⟩⟩
  · refine w_aload_n (i := 0) (n' := 9) dX6_cut_8 rfl rfl rfl ?_
    refine w_ldc (v := -1000001) (n' := 11) dX6_cut_9 rfl kRX6_43 ?_
    refine v_E (ci := 6) (n' := 14) dX6_cut_11 rfl lRX6_45 okX6_finds voX6_finds ⟨⟨Nat.le_of_ble_eq_true rfl, Nat.le_of_ble_eq_true rfl⟩, Nat.le_of_ble_eq_true rfl, Nat.le_of_ble_eq_true rfl⟩ (c6_finds 0 _ (by decide) (by decide) _) rfl rfl (Nat.le_of_ble_eq_true rfl) rfl (Nat.le_of_ble_eq_true rfl) rfl ?_
    exact w_iret dX6_cut_14 rfl ⟨_, rfl, Or.inl ⟨cut_no h5, rfl, rfl⟩⟩
