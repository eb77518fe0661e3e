/-! the reference: copying, loading, judging, images, counts -/
def cpM (m : Mem) (fr to lo hi : Nat) : Mem := upR m 59 (fun x => if to + lo ≤ x ∧ x < to + hi then m 59 (fr + (x - to)) else m 59 x)
theorem cp_z (m : Mem) (fr to : Nat) {lo hi : Nat} (h : hi ≤ lo) : cpM m fr to lo hi = m := by
  unfold cpM
  have : (fun x => if to + lo ≤ x ∧ x < to + hi then m 59 (fr + (x - to)) else m 59 x) = m 59 := by
    funext x
    rw [if_neg (by omega)]
  rw [this, upR_self]
theorem cp_f (m : Mem) {fr to i : Nat} (h : to ≤ fr) : up2 (cpM m fr to 0 i) 59 (to + i) (cpM m fr to 0 i 59 (fr + i)) = cpM m fr to 0 (i + 1) := by
  unfold cpM
  rw [up2_eq, upR_same, upR_upR, if_neg (by omega)]
  congr 1
  funext x
  by_cases c : x = to + i
  · subst c
    simp only [upd, if_true]
    rw [if_pos (by omega), show to + i - to = i by omega]
  · simp only [upd, if_neg c]
    by_cases d : to + 0 ≤ x ∧ x < to + i
    · rw [if_pos d, if_pos (by omega)]
    · rw [if_neg d, if_neg (by omega)]
theorem cp_b (m : Mem) {fr to lo hi : Nat} (h : fr < to) (hl : lo < hi) : up2 (cpM m fr to (lo + 1) hi) 59 (to + lo) (cpM m fr to (lo + 1) hi 59 (fr + lo)) = cpM m fr to lo hi := by
  unfold cpM
  rw [up2_eq, upR_same, upR_upR, if_neg (by omega)]
  congr 1
  funext x
  by_cases c : x = to + lo
  · subst c
    simp only [upd, if_true]
    rw [if_pos (by omega), show to + lo - to = lo by omega]
  · simp only [upd, if_neg c]
    by_cases d : to + (lo + 1) ≤ x ∧ x < to + hi
    · rw [if_pos d, if_pos (by omega)]
    · rw [if_neg d, if_neg (by omega)]
theorem cop_N {z : Nat} {a n : Int32} (hz : z ≤ 40) (ha : ¬ a < 0) (hn : ¬ n < 0) (h : ¬ nI z - a < n) : ∃ i k, a = nI i ∧ n = nI k ∧ i + k ≤ z := by
  obtain ⟨i, i1, rfl⟩ := nI_of ha
  obtain ⟨k, k1, rfl⟩ := nI_of hn
  refine ⟨i, k, rfl, rfl, ?_⟩
  rw [Int32.lt_iff_toInt_lt, Int32.toInt_sub, nI_toInt (by omega), nI_toInt i1, nI_toInt k1, Int.bmod_eq_of_le (by omega) (by omega)] at h
  omega
def copX (m : Mem) (q r : Nat) (a b n : Int32) : Prop := a < 0 ∨ b < 0 ∨ n < 0 ∨ m 58 q - a < n ∨ m 58 r - b < n
set_option maxHeartbeats 4000000 in
theorem c6_copy (s a t b n : Int32) (mem : Mem) (hl : ∀ q, q < 4 → ∃ z, z ≤ 40 ∧ mem 58 q = nI z) : CnI mX6_copy [.ref 50, .int s, .int a, .int t, .int b, .int n] mem (fun x m' => ((inR s 0 3 = 0 ∨ inR t 0 3 = 0) ∧ x = -1000001 ∧ m' = fndM mem 0) ∨ (∃ q r, q < 4 ∧ s = nI q ∧ r < 4 ∧ t = nI r ∧ ¬ inR s 0 3 = 0 ∧ ¬ inR t 0 3 = 0 ∧ (((mem 57 q < 0 ∨ mem 57 r < 0) ∧ x = -1000006 ∧ m' = fndM mem 5) ∨ (¬ mem 57 q < 0 ∧ ¬ mem 57 r < 0 ∧ ((¬ mem 57 q = mem 57 r ∧ x = -1000003 ∧ m' = fndM mem 2) ∨ (mem 57 q = mem 57 r ∧ ((copX mem q r a b n ∧ x = -1000001 ∧ m' = fndM mem 0) ∨ (¬ copX mem q r a b n ∧ ∃ i j k, a = nI i ∧ b = nI j ∧ n = nI k ∧ i + k ≤ 40 ∧ j + k ≤ 40 ∧ x = n ∧ m' = cpM mem (40 * q + i) (40 * r + j) 0 k)))))))) := by
  refine Cn.of (ls := [some (.ref 50), some (.int s), some (.int a), some (.int t), some (.int b), some (.int n), none, none, none, none]) (by decide) rfl (Nat.le_of_ble_eq_true rfl) ?_
  refine w_iload_n (i := 1) (n' := 1) dX6_copy_0 rfl rfl rfl ?_
  refine s_E (n' := 4) dX6_copy_1 rfl lRX6_292 okX6_isSheet stX6_isSheet ⟨⟨Nat.le_of_ble_eq_true rfl, Nat.le_of_ble_eq_true rfl⟩, Nat.le_of_ble_eq_true rfl, Nat.le_of_ble_eq_true rfl⟩ (c6_isSheet _ _) rfl rfl (Nat.le_of_ble_eq_true rfl) ?_
  refine w_if_eq (n' := 7) (tgt := 14) dX6_copy_4 rfl rfl (fun h4 => ?_) (fun h4 => ?_)
  · refine w_aload_n (i := 0) (n' := 15) dX6_copy_14 rfl rfl rfl ?_
    refine w_ldc (v := -1000001) (n' := 17) dX6_copy_15 rfl kRX6_43 ?_
    refine v_E (ci := 6) (n' := 20) dX6_copy_17 rfl lRX6_45 okX6_finds voX6_finds ⟨⟨Nat.le_of_ble_eq_true rfl, Nat.le_of_ble_eq_true rfl⟩, Nat.le_of_ble_eq_true rfl, Nat.le_of_ble_eq_true rfl⟩ (c6_finds 0 _ (by decide) (by decide) _) rfl rfl (Nat.le_of_ble_eq_true rfl) rfl (Nat.le_of_ble_eq_true rfl) rfl ?_
    exact w_iret dX6_copy_20 rfl ⟨_, rfl, Or.inl ⟨Or.inl h4, rfl, rfl⟩⟩
  · obtain ⟨q, hq1, hq2⟩ := inR_of (N := 3) (by decide) h4
    refine w_iload_n (i := 3) (n' := 8) dX6_copy_7 rfl rfl rfl ?_
    refine s_E (n' := 11) dX6_copy_8 rfl lRX6_292 okX6_isSheet stX6_isSheet ⟨⟨Nat.le_of_ble_eq_true rfl, Nat.le_of_ble_eq_true rfl⟩, Nat.le_of_ble_eq_true rfl, Nat.le_of_ble_eq_true rfl⟩ (c6_isSheet _ _) rfl rfl (Nat.le_of_ble_eq_true rfl) ?_
    refine w_if_ne (n' := 14) (tgt := 21) dX6_copy_11 rfl rfl (fun h11 => ?_) (fun h11 => ?_)
    · obtain ⟨r, hr1, hr2⟩ := inR_of (N := 3) (by decide) h11
      refine w_aload_n (i := 0) (n' := 22) dX6_copy_21 rfl rfl rfl ?_
      refine w_get (ci := 6) (j := 8) (n' := 25) dX6_copy_22 rfl fRX6_28 (Nat.le_of_ble_eq_true rfl) (Nat.le_of_ble_eq_true rfl) rfl rfl ?_
      refine w_iload_n (i := 1) (n' := 26) dX6_copy_25 rfl rfl rfl ?_
      refine w_iald (n := q) (n' := 27) dX6_copy_26 rfl rfl hq2 (show q < 4 by omega) ?_
      refine w_if_lt (n' := 30) (tgt := 39) dX6_copy_27 rfl rfl (fun h27 => ?_) (fun h27 => ?_)
      · refine w_aload_n (i := 0) (n' := 40) dX6_copy_39 rfl rfl rfl ?_
        refine w_ldcw (v := -1000006) (n' := 43) dX6_copy_40 rfl kRX6_287 ?_
        refine v_E (ci := 6) (n' := 46) dX6_copy_43 rfl lRX6_45 okX6_finds voX6_finds ⟨⟨Nat.le_of_ble_eq_true rfl, Nat.le_of_ble_eq_true rfl⟩, Nat.le_of_ble_eq_true rfl, Nat.le_of_ble_eq_true rfl⟩ (c6_finds 5 _ (by decide) (by decide) _) rfl rfl (Nat.le_of_ble_eq_true rfl) rfl (Nat.le_of_ble_eq_true rfl) rfl ?_
        exact w_iret dX6_copy_46 rfl ⟨_, rfl, Or.inr ⟨q, r, by omega, hq2, by omega, hr2, h4, h11, Or.inl ⟨Or.inl h27, rfl, rfl⟩⟩⟩
      · refine w_aload_n (i := 0) (n' := 31) dX6_copy_30 rfl rfl rfl ?_
        refine w_get (ci := 6) (j := 8) (n' := 34) dX6_copy_31 rfl fRX6_28 (Nat.le_of_ble_eq_true rfl) (Nat.le_of_ble_eq_true rfl) rfl rfl ?_
        refine w_iload_n (i := 3) (n' := 35) dX6_copy_34 rfl rfl rfl ?_
        refine w_iald (n := r) (n' := 36) dX6_copy_35 rfl rfl hr2 (show r < 4 by omega) ?_
        refine w_if_ge (n' := 39) (tgt := 47) dX6_copy_36 rfl rfl (fun h36 => ?_) (fun h36 => ?_)
        · have g36 : ¬ mem 57 r < 0 := Int32.not_lt.mpr h36
          refine w_aload_n (i := 0) (n' := 48) dX6_copy_47 rfl rfl rfl ?_
          refine w_get (ci := 6) (j := 8) (n' := 51) dX6_copy_48 rfl fRX6_28 (Nat.le_of_ble_eq_true rfl) (Nat.le_of_ble_eq_true rfl) rfl rfl ?_
          refine w_iload_n (i := 1) (n' := 52) dX6_copy_51 rfl rfl rfl ?_
          refine w_iald (n := q) (n' := 53) dX6_copy_52 rfl rfl hq2 (show q < 4 by omega) ?_
          refine w_aload_n (i := 0) (n' := 54) dX6_copy_53 rfl rfl rfl ?_
          refine w_get (ci := 6) (j := 8) (n' := 57) dX6_copy_54 rfl fRX6_28 (Nat.le_of_ble_eq_true rfl) (Nat.le_of_ble_eq_true rfl) rfl rfl ?_
          refine w_iload_n (i := 3) (n' := 58) dX6_copy_57 rfl rfl rfl ?_
          refine w_iald (n := r) (n' := 59) dX6_copy_58 rfl rfl hr2 (show r < 4 by omega) ?_
          refine w_icmp_eq (n' := 62) (tgt := 70) dX6_copy_59 rfl rfl (fun h59 => ?_) (fun h59 => ?_)
          · refine w_iload_n (i := 2) (n' := 71) dX6_copy_70 rfl rfl rfl ?_
            refine w_if_lt (n' := 74) (tgt := 111) dX6_copy_71 rfl rfl (fun h71 => ?_) (fun h71 => ?_)
            · refine w_aload_n (i := 0) (n' := 112) dX6_copy_111 rfl rfl rfl ?_
              refine w_ldc (v := -1000001) (n' := 114) dX6_copy_112 rfl kRX6_43 ?_
              refine v_E (ci := 6) (n' := 117) dX6_copy_114 rfl lRX6_45 okX6_finds voX6_finds ⟨⟨Nat.le_of_ble_eq_true rfl, Nat.le_of_ble_eq_true rfl⟩, Nat.le_of_ble_eq_true rfl, Nat.le_of_ble_eq_true rfl⟩ (c6_finds 0 _ (by decide) (by decide) _) rfl rfl (Nat.le_of_ble_eq_true rfl) rfl (Nat.le_of_ble_eq_true rfl) rfl ?_
              exact w_iret dX6_copy_117 rfl ⟨_, rfl, Or.inr ⟨q, r, by omega, hq2, by omega, hr2, h4, h11, Or.inr ⟨h27, g36, Or.inr ⟨h59, Or.inl ⟨Or.inl h71, rfl, rfl⟩⟩⟩⟩⟩
            · refine w_iload (n' := 76) dX6_copy_74 rfl rfl ?_
              refine w_if_lt (n' := 79) (tgt := 111) dX6_copy_76 rfl rfl (fun h76 => ?_) (fun h76 => ?_)
              · refine w_aload_n (i := 0) (n' := 112) dX6_copy_111 rfl rfl rfl ?_
                refine w_ldc (v := -1000001) (n' := 114) dX6_copy_112 rfl kRX6_43 ?_
                refine v_E (ci := 6) (n' := 117) dX6_copy_114 rfl lRX6_45 okX6_finds voX6_finds ⟨⟨Nat.le_of_ble_eq_true rfl, Nat.le_of_ble_eq_true rfl⟩, Nat.le_of_ble_eq_true rfl, Nat.le_of_ble_eq_true rfl⟩ (c6_finds 0 _ (by decide) (by decide) _) rfl rfl (Nat.le_of_ble_eq_true rfl) rfl (Nat.le_of_ble_eq_true rfl) rfl ?_
                exact w_iret dX6_copy_117 rfl ⟨_, rfl, Or.inr ⟨q, r, by omega, hq2, by omega, hr2, h4, h11, Or.inr ⟨h27, g36, Or.inr ⟨h59, Or.inl ⟨Or.inr (Or.inl h76), rfl, rfl⟩⟩⟩⟩⟩
              · refine w_iload (n' := 81) dX6_copy_79 rfl rfl ?_
                refine w_if_lt (n' := 84) (tgt := 111) dX6_copy_81 rfl rfl (fun h81 => ?_) (fun h81 => ?_)
                · refine w_aload_n (i := 0) (n' := 112) dX6_copy_111 rfl rfl rfl ?_
                  refine w_ldc (v := -1000001) (n' := 114) dX6_copy_112 rfl kRX6_43 ?_
                  refine v_E (ci := 6) (n' := 117) dX6_copy_114 rfl lRX6_45 okX6_finds voX6_finds ⟨⟨Nat.le_of_ble_eq_true rfl, Nat.le_of_ble_eq_true rfl⟩, Nat.le_of_ble_eq_true rfl, Nat.le_of_ble_eq_true rfl⟩ (c6_finds 0 _ (by decide) (by decide) _) rfl rfl (Nat.le_of_ble_eq_true rfl) rfl (Nat.le_of_ble_eq_true rfl) rfl ?_
                  exact w_iret dX6_copy_117 rfl ⟨_, rfl, Or.inr ⟨q, r, by omega, hq2, by omega, hr2, h4, h11, Or.inr ⟨h27, g36, Or.inr ⟨h59, Or.inl ⟨Or.inr (Or.inr (Or.inl h81)), rfl, rfl⟩⟩⟩⟩⟩
                · refine w_iload (n' := 86) dX6_copy_84 rfl rfl ?_
                  refine w_aload_n (i := 0) (n' := 87) dX6_copy_86 rfl rfl rfl ?_
                  refine w_get (ci := 6) (j := 9) (n' := 90) dX6_copy_87 rfl fRX6_31 (Nat.le_of_ble_eq_true rfl) (Nat.le_of_ble_eq_true rfl) rfl rfl ?_
                  refine w_iload_n (i := 1) (n' := 91) dX6_copy_90 rfl rfl rfl ?_
                  refine w_iald (n := q) (n' := 92) dX6_copy_91 rfl rfl hq2 (show q < 4 by omega) ?_
                  refine w_iload_n (i := 2) (n' := 93) dX6_copy_92 rfl rfl rfl ?_
                  refine w_isub (n' := 94) dX6_copy_93 rfl ?_
                  refine w_icmp_gt (n' := 97) (tgt := 111) dX6_copy_94 rfl rfl (fun h94 => ?_) (fun h94 => ?_)
                  · refine w_aload_n (i := 0) (n' := 112) dX6_copy_111 rfl rfl rfl ?_
                    refine w_ldc (v := -1000001) (n' := 114) dX6_copy_112 rfl kRX6_43 ?_
                    refine v_E (ci := 6) (n' := 117) dX6_copy_114 rfl lRX6_45 okX6_finds voX6_finds ⟨⟨Nat.le_of_ble_eq_true rfl, Nat.le_of_ble_eq_true rfl⟩, Nat.le_of_ble_eq_true rfl, Nat.le_of_ble_eq_true rfl⟩ (c6_finds 0 _ (by decide) (by decide) _) rfl rfl (Nat.le_of_ble_eq_true rfl) rfl (Nat.le_of_ble_eq_true rfl) rfl ?_
                    exact w_iret dX6_copy_117 rfl ⟨_, rfl, Or.inr ⟨q, r, by omega, hq2, by omega, hr2, h4, h11, Or.inr ⟨h27, g36, Or.inr ⟨h59, Or.inl ⟨Or.inr (Or.inr (Or.inr (Or.inl h94))), rfl, rfl⟩⟩⟩⟩⟩
                  · refine w_iload (n' := 99) dX6_copy_97 rfl rfl ?_
                    refine w_aload_n (i := 0) (n' := 100) dX6_copy_99 rfl rfl rfl ?_
                    refine w_get (ci := 6) (j := 9) (n' := 103) dX6_copy_100 rfl fRX6_31 (Nat.le_of_ble_eq_true rfl) (Nat.le_of_ble_eq_true rfl) rfl rfl ?_
                    refine w_iload_n (i := 3) (n' := 104) dX6_copy_103 rfl rfl rfl ?_
                    refine w_iald (n := r) (n' := 105) dX6_copy_104 rfl rfl hr2 (show r < 4 by omega) ?_
                    refine w_iload (n' := 107) dX6_copy_105 rfl rfl ?_
                    refine w_isub (n' := 108) dX6_copy_107 rfl ?_
                    refine w_icmp_le (n' := 111) (tgt := 118) dX6_copy_108 rfl rfl (fun h108 => ?_) (fun h108 => ?_)
                    · obtain ⟨zq, zq1, zq2⟩ := hl q (by omega)
                      obtain ⟨zr, zr1, zr2⟩ := hl r (by omega)
                      have h108n : ¬ mem 58 r - b < n := Int32.not_lt.mpr h108
                      obtain ⟨i, k, ei, ek, eik⟩ := cop_N zq1 h71 h81 (by rw [← zq2]; exact h94)
                      obtain ⟨j, k2, ej, ek2, ejk⟩ := cop_N zr1 h76 h81 (by rw [← zr2]; exact h108n)
                      have ekk : k2 = k := (nI_eq (by omega) (by omega)).mp (by rw [← ek, ← ek2])
                      have hX : ¬ copX mem q r a b n := by
                        rintro (e | e | e | e | e)
                        · exact h71 e
                        · exact h76 e
                        · exact h81 e
                        · exact h94 e
                        · exact h108n e
                      refine w_bipush (v := 40) (n' := 120) dX6_copy_118 rfl (by decide) ?_
                      refine w_iload_n (i := 1) (n' := 121) dX6_copy_120 rfl rfl rfl ?_
                      refine w_imul (n' := 122) dX6_copy_121 rfl ?_
                      refine w_iload_n (i := 2) (n' := 123) dX6_copy_122 rfl rfl rfl ?_
                      refine w_iadd (n' := 124) dX6_copy_123 rfl ?_
                      rw [show (40 : Int32) * s + a = nI (40 * q + i) from by rw [hq2, ei, show (40 : Int32) = nI 40 from rfl, pk_mul, nI_add]]
                      refine w_istore (n' := 126) (ls' := [_, _, _, _, _, _, _, _, _, _]) dX6_copy_124 rfl (Nat.le_of_ble_eq_true rfl) rfl rfl ?_
                      refine w_bipush (v := 40) (n' := 128) dX6_copy_126 rfl (by decide) ?_
                      refine w_iload_n (i := 3) (n' := 129) dX6_copy_128 rfl rfl rfl ?_
                      refine w_imul (n' := 130) dX6_copy_129 rfl ?_
                      refine w_iload (n' := 132) dX6_copy_130 rfl rfl ?_
                      refine w_iadd (n' := 133) dX6_copy_132 rfl ?_
                      rw [show (40 : Int32) * t + b = nI (40 * r + j) from by rw [hr2, ej, show (40 : Int32) = nI 40 from rfl, pk_mul, nI_add]]
                      refine w_istore (n' := 135) (ls' := [_, _, _, _, _, _, _, _, _, _]) dX6_copy_133 rfl (Nat.le_of_ble_eq_true rfl) rfl rfl ?_
                      refine w_iconst (v := 0) (n' := 136) dX6_copy_135 rfl rfl ?_
                      refine w_istore (n' := 138) (ls' := [_, _, _, _, _, _, _, _, _, _]) dX6_copy_136 rfl (Nat.le_of_ble_eq_true rfl) rfl rfl ?_
                      have L : ∀ (z : Nat) (st : Option Value × Mem), z ≤ k → (if 40 * q + i < 40 * r + j then st.2 = cpM mem (40 * q + i) (40 * r + j) (k - z) k else st.2 = cpM mem (40 * q + i) (40 * r + j) 0 z) → Wm mX6_copy (zM mX6_copy (fun rZ mZ => ∃ xZ, rZ = some (.int xZ) ∧ (fun x m' => ((inR s 0 3 = 0 ∨ inR t 0 3 = 0) ∧ x = -1000001 ∧ m' = fndM mem 0) ∨ (∃ q r, q < 4 ∧ s = nI q ∧ r < 4 ∧ t = nI r ∧ ¬ inR s 0 3 = 0 ∧ ¬ inR t 0 3 = 0 ∧ (((mem 57 q < 0 ∨ mem 57 r < 0) ∧ x = -1000006 ∧ m' = fndM mem 5) ∨ (¬ mem 57 q < 0 ∧ ¬ mem 57 r < 0 ∧ ((¬ mem 57 q = mem 57 r ∧ x = -1000003 ∧ m' = fndM mem 2) ∨ (mem 57 q = mem 57 r ∧ ((copX mem q r a b n ∧ x = -1000001 ∧ m' = fndM mem 0) ∨ (¬ copX mem q r a b n ∧ ∃ i j k, a = nI i ∧ b = nI j ∧ n = nI k ∧ i + k ≤ 40 ∧ j + k ≤ 40 ∧ x = n ∧ m' = cpM mem (40 * q + i) (40 * r + j) 0 k)))))))) xZ mZ)) 138 [some (.ref 50), some (.int s), some (.int a), some (.int t), some (.int b), some (.int n), some (.int (nI (40 * q + i))), some (.int (nI (40 * r + j))), some (.int (nI z)), st.1] [] st.2 := by
                        refine for_ind k ?_
                        rintro z ⟨l9, m1⟩ hz h1 ih
                        dsimp only at h1 ih ⊢
                        have ih2 := fun (q9 : z < k) (l9 : Option Value) (m9 : Mem) hh => ih q9 (l9, m9) hh
                        dsimp only at ih2
                        refine w_iload (n' := 140) dX6_copy_138 rfl rfl ?_
                        refine w_iload (n' := 142) dX6_copy_140 rfl rfl ?_
                        refine w_icmp_ge (n' := 145) (tgt := 192) dX6_copy_142 rfl rfl (fun h142 => ?_) (fun h142 => ?_)
                        · have hin : z = k := by
                            rcases Nat.lt_or_ge z k with c | c
                            · exact absurd h142 (by rw [ek]; exact nI_ge (b := k) c (by omega))
                            · omega
                          refine w_iload (n' := 194) dX6_copy_192 rfl rfl ?_
                          exact w_iret dX6_copy_194 rfl ⟨_, rfl, Or.inr ⟨q, r, by omega, hq2, by omega, hr2, h4, h11, Or.inr ⟨h27, g36, Or.inr ⟨h59, Or.inr ⟨hX, i, j, k, ei, ej, ek, by omega, by omega, rfl, by
                            subst hin
                            split at h1
                            · rw [h1, Nat.sub_self]
                            · exact h1⟩⟩⟩⟩⟩
                        · have hlt : z < k := by
                            rcases Nat.lt_or_ge z k with c | c
                            · exact c
                            · exact absurd (by rw [ek]; exact nI_le (a := k) c (by omega)) h142
                          refine w_iload (n' := 147) dX6_copy_145 rfl rfl ?_
                          refine w_iload (n' := 149) dX6_copy_147 rfl rfl ?_
                          refine w_icmp_ge (n' := 152) (tgt := 162) dX6_copy_149 rfl rfl (fun h149 => ?_) (fun h149 => ?_)
                          · have hge : ¬ 40 * q + i < 40 * r + j := fun e => nI_ge e (by omega) h149
                            have hjj : ∃ d, nI z = nI d ∧ d < k ∧ d = z := ⟨z, rfl, hlt, rfl⟩
                            refine w_iload (n' := 164) dX6_copy_162 rfl rfl ?_
                            refine w_istore (n' := 166) (ls' := [_, _, _, _, _, _, _, _, _, _]) dX6_copy_164 rfl (Nat.le_of_ble_eq_true rfl) rfl rfl ?_
                            refine w_aload_n (i := 0) (n' := 167) dX6_copy_166 rfl rfl rfl ?_
                            refine w_get (ci := 6) (j := 10) (n' := 170) dX6_copy_167 rfl fRX6_34 (Nat.le_of_ble_eq_true rfl) (Nat.le_of_ble_eq_true rfl) rfl rfl ?_
                            refine w_iload (n' := 172) dX6_copy_170 rfl rfl ?_
                            refine w_iload (n' := 174) dX6_copy_172 rfl rfl ?_
                            refine w_iadd (n' := 175) dX6_copy_174 rfl ?_
                            refine w_aload_n (i := 0) (n' := 176) dX6_copy_175 rfl rfl rfl ?_
                            refine w_get (ci := 6) (j := 10) (n' := 179) dX6_copy_176 rfl fRX6_34 (Nat.le_of_ble_eq_true rfl) (Nat.le_of_ble_eq_true rfl) rfl rfl ?_
                            refine w_iload (n' := 181) dX6_copy_179 rfl rfl ?_
                            refine w_iload (n' := 183) dX6_copy_181 rfl rfl ?_
                            refine w_iadd (n' := 184) dX6_copy_183 rfl ?_
                            refine w_iald (n := 40 * q + i + z) (n' := 185) dX6_copy_184 rfl rfl (nI_add _ _) (show 40 * q + i + z < 160 by omega) ?_
                            refine w_iast (n := 40 * r + j + z) (n' := 186) dX6_copy_185 rfl rfl (nI_add _ _) (show 40 * r + j + z < 160 by omega) ?_
                            refine w_iinc (n' := 189) (v := nI (z + 1)) (ls' := [_, _, _, _, _, _, _, _, _, _]) dX6_copy_186 rfl rfl (nI_1 z) (Nat.le_of_ble_eq_true rfl) rfl rfl ?_
                            refine w_goto (tgt := 138) dX6_copy_189 rfl ?_
                            exact ih2 hlt _ _ (by rw [if_neg hge]; rw [if_neg hge] at h1; rw [h1]; exact cp_f mem (by omega))
                          · have hft : 40 * q + i < 40 * r + j := by
                              rcases Nat.lt_or_ge (40 * q + i) (40 * r + j) with e | e
                              · exact e
                              · exact absurd (nI_le e (by omega)) h149
                            refine w_iload (n' := 154) dX6_copy_152 rfl rfl ?_
                            refine w_iconst (v := 1) (n' := 155) dX6_copy_154 rfl rfl ?_
                            refine w_isub (n' := 156) dX6_copy_155 rfl ?_
                            refine w_iload (n' := 158) dX6_copy_156 rfl rfl ?_
                            refine w_isub (n' := 159) dX6_copy_158 rfl ?_
                            rw [show n - 1 - nI z = nI (k - (z + 1)) from by rw [ek, show (1 : Int32) = nI 1 from rfl, pk_sub (by omega), pk_sub (by omega)]; congr 1; omega]
                            refine w_goto (tgt := 164) dX6_copy_159 rfl ?_
                            refine w_istore (n' := 166) (ls' := [_, _, _, _, _, _, _, _, _, _]) dX6_copy_164 rfl (Nat.le_of_ble_eq_true rfl) rfl rfl ?_
                            refine w_aload_n (i := 0) (n' := 167) dX6_copy_166 rfl rfl rfl ?_
                            refine w_get (ci := 6) (j := 10) (n' := 170) dX6_copy_167 rfl fRX6_34 (Nat.le_of_ble_eq_true rfl) (Nat.le_of_ble_eq_true rfl) rfl rfl ?_
                            refine w_iload (n' := 172) dX6_copy_170 rfl rfl ?_
                            refine w_iload (n' := 174) dX6_copy_172 rfl rfl ?_
                            refine w_iadd (n' := 175) dX6_copy_174 rfl ?_
                            refine w_aload_n (i := 0) (n' := 176) dX6_copy_175 rfl rfl rfl ?_
                            refine w_get (ci := 6) (j := 10) (n' := 179) dX6_copy_176 rfl fRX6_34 (Nat.le_of_ble_eq_true rfl) (Nat.le_of_ble_eq_true rfl) rfl rfl ?_
                            refine w_iload (n' := 181) dX6_copy_179 rfl rfl ?_
                            refine w_iload (n' := 183) dX6_copy_181 rfl rfl ?_
                            refine w_iadd (n' := 184) dX6_copy_183 rfl ?_
                            refine w_iald (n := 40 * q + i + (k - (z + 1))) (n' := 185) dX6_copy_184 rfl rfl (nI_add _ _) (show 40 * q + i + (k - (z + 1)) < 160 by omega) ?_
                            refine w_iast (n := 40 * r + j + (k - (z + 1))) (n' := 186) dX6_copy_185 rfl rfl (nI_add _ _) (show 40 * r + j + (k - (z + 1)) < 160 by omega) ?_
                            refine w_iinc (n' := 189) (v := nI (z + 1)) (ls' := [_, _, _, _, _, _, _, _, _, _]) dX6_copy_186 rfl rfl (nI_1 z) (Nat.le_of_ble_eq_true rfl) rfl rfl ?_
                            refine w_goto (tgt := 138) dX6_copy_189 rfl ?_
                            exact ih2 hlt _ _ (by rw [if_pos hft]; rw [if_pos hft, show k - z = k - (z + 1) + 1 by omega] at h1; rw [h1]; exact cp_b mem hft (by omega))
                      exact L 0 (none, mem) (Nat.zero_le _) (by
                        dsimp only
                        split
                        · rw [cp_z _ _ _ (by omega)]
                        · rw [cp_z _ _ _ (by omega)])
                    · refine w_aload_n (i := 0) (n' := 112) dX6_copy_111 rfl rfl rfl ?_
                      refine w_ldc (v := -1000001) (n' := 114) dX6_copy_112 rfl kRX6_43 ?_
                      refine v_E (ci := 6) (n' := 117) dX6_copy_114 rfl lRX6_45 okX6_finds voX6_finds ⟨⟨Nat.le_of_ble_eq_true rfl, Nat.le_of_ble_eq_true rfl⟩, Nat.le_of_ble_eq_true rfl, Nat.le_of_ble_eq_true rfl⟩ (c6_finds 0 _ (by decide) (by decide) _) rfl rfl (Nat.le_of_ble_eq_true rfl) rfl (Nat.le_of_ble_eq_true rfl) rfl ?_
                      exact w_iret dX6_copy_117 rfl ⟨_, rfl, Or.inr ⟨q, r, by omega, hq2, by omega, hr2, h4, h11, Or.inr ⟨h27, g36, Or.inr ⟨h59, Or.inl ⟨Or.inr (Or.inr (Or.inr (Or.inr (Int32.not_le.mp h108)))), rfl, rfl⟩⟩⟩⟩⟩
          · refine w_aload_n (i := 0) (n' := 63) dX6_copy_62 rfl rfl rfl ?_
            refine w_ldcw (v := -1000003) (n' := 66) dX6_copy_63 rfl kRX6_291 ?_
            refine v_E (ci := 6) (n' := 69) dX6_copy_66 rfl lRX6_45 okX6_finds voX6_finds ⟨⟨Nat.le_of_ble_eq_true rfl, Nat.le_of_ble_eq_true rfl⟩, Nat.le_of_ble_eq_true rfl, Nat.le_of_ble_eq_true rfl⟩ (c6_finds 2 _ (by decide) (by decide) _) rfl rfl (Nat.le_of_ble_eq_true rfl) rfl (Nat.le_of_ble_eq_true rfl) rfl ?_
            exact w_iret dX6_copy_69 rfl ⟨_, rfl, Or.inr ⟨q, r, by omega, hq2, by omega, hr2, h4, h11, Or.inr ⟨h27, g36, Or.inl ⟨h59, rfl, rfl⟩⟩⟩⟩
        · have g36 : mem 57 r < 0 := Int32.not_le.mp h36
          refine w_aload_n (i := 0) (n' := 40) dX6_copy_39 rfl rfl rfl ?_
          refine w_ldcw (v := -1000006) (n' := 43) dX6_copy_40 rfl kRX6_287 ?_
          refine v_E (ci := 6) (n' := 46) dX6_copy_43 rfl lRX6_45 okX6_finds voX6_finds ⟨⟨Nat.le_of_ble_eq_true rfl, Nat.le_of_ble_eq_true rfl⟩, Nat.le_of_ble_eq_true rfl, Nat.le_of_ble_eq_true rfl⟩ (c6_finds 5 _ (by decide) (by decide) _) rfl rfl (Nat.le_of_ble_eq_true rfl) rfl (Nat.le_of_ble_eq_true rfl) rfl ?_
          exact w_iret dX6_copy_46 rfl ⟨_, rfl, Or.inr ⟨q, r, by omega, hq2, by omega, hr2, h4, h11, Or.inl ⟨Or.inr g36, rfl, rfl⟩⟩⟩
    · refine w_aload_n (i := 0) (n' := 15) dX6_copy_14 rfl rfl rfl ?_
      refine w_ldc (v := -1000001) (n' := 17) dX6_copy_15 rfl kRX6_43 ?_
      refine v_E (ci := 6) (n' := 20) dX6_copy_17 rfl lRX6_45 okX6_finds voX6_finds ⟨⟨Nat.le_of_ble_eq_true rfl, Nat.le_of_ble_eq_true rfl⟩, Nat.le_of_ble_eq_true rfl, Nat.le_of_ble_eq_true rfl⟩ (c6_finds 0 _ (by decide) (by decide) _) rfl rfl (Nat.le_of_ble_eq_true rfl) rfl (Nat.le_of_ble_eq_true rfl) rfl ?_
      exact w_iret dX6_copy_20 rfl ⟨_, rfl, Or.inl ⟨Or.inr (by simpa using h11), rfl, rfl⟩⟩
def lodM (m : Mem) (q : Nat) : Nat → Mem
  | 0 => m
  | y + 1 => up2 (lodM m q y) 51 (6 + 5 * y + 1) (m 59 (40 * q + y))
theorem lod_o (m : Mem) (q : Nat) {a : Nat} (h : a ≠ 51) : ∀ y, lodM m q y a = m a
  | 0 => rfl
  | y + 1 => by rw [lodM, up2_ne _ _ _ h]; exact lod_o m q h y
theorem lod_0 (m : Mem) (q : Nat) : ∀ y, lodM m q y 51 0 = m 51 0
  | 0 => rfl
  | y + 1 => by rw [lodM, up2_same]; simp only [upd]; rw [if_neg (by omega)]; exact lod_0 m q y
set_option maxHeartbeats 4000000 in
theorem c6_load {n : Nat} {mem : Mem} (h : mem 51 0 = nI n) (h8 : n ≤ 8) (s : Int32) (hl : ∀ q, q < 4 → ∃ z, z ≤ 40 ∧ mem 58 q = nI z) : CnI mX6_load [.ref 50, .int s] mem (fun x m' => (inR s 0 3 = 0 ∧ x = -1000001 ∧ m' = fndM mem 0) ∨ (∃ q, q < 4 ∧ s = nI q ∧ ¬ inR s 0 3 = 0 ∧ ((¬ 0 ≤ mem 57 q ∧ x = -1000006 ∧ m' = fndM mem 5) ∨ (0 ≤ mem 57 q ∧ ∃ z y, z ≤ 40 ∧ mem 58 q = nI z ∧ y ≤ z ∧ y ≤ n ∧ (∀ i, i < y → ¬ inR (mem 59 (40 * q + i)) 0 999 = 0) ∧ (y < z → y < n → inR (mem 59 (40 * q + y)) 0 999 = 0) ∧ x = nI y ∧ m' = lodM mem q y)))) := by
  refine Cn.of (ls := [some (.ref 50), some (.int s), none]) (by decide) rfl (Nat.le_of_ble_eq_true rfl) ?_
  refine w_aload_n (i := 0) (n' := 1) dX6_load_0 rfl rfl rfl ?_
  refine w_iload_n (i := 1) (n' := 2) dX6_load_1 rfl rfl rfl ?_
  refine v_E (ci := 6) (n' := 5) dX6_load_2 rfl lRX6_195 okX6_wants voX6_wants ⟨⟨Nat.le_of_ble_eq_true rfl, Nat.le_of_ble_eq_true rfl⟩, Nat.le_of_ble_eq_true rfl, Nat.le_of_ble_eq_true rfl⟩ (c6_wants _ _) rfl rfl (Nat.le_of_ble_eq_true rfl) rfl (Nat.le_of_ble_eq_true rfl) rfl ?_
  refine w_if_eq (n' := 8) (tgt := 18) dX6_load_5 rfl rfl (fun h5 => ?_) (fun h5 => ?_)
  · obtain ⟨q, hq1, hq2, hq3, hq4⟩ := want_0 h5
    obtain ⟨z, hz1, hz2⟩ := hl q hq1
    refine w_iconst (v := 0) (n' := 19) dX6_load_18 rfl rfl ?_
    refine w_istore_n (i := 2) (n' := 20) (ls' := [_, _, _]) dX6_load_19 rfl rfl (Nat.le_of_ble_eq_true rfl) rfl rfl ?_
    have L : ∀ (i : Nat) (t : Mem), i ≤ z → (i ≤ n ∧ t = lodM mem q i ∧ ∀ y, y < i → ¬ inR (mem 59 (40 * q + y)) 0 999 = 0) → Wm mX6_load (zM mX6_load (fun rZ mZ => ∃ xZ, rZ = some (.int xZ) ∧ (fun x m' => (inR s 0 3 = 0 ∧ x = -1000001 ∧ m' = fndM mem 0) ∨ (∃ q, q < 4 ∧ s = nI q ∧ ¬ inR s 0 3 = 0 ∧ ((¬ 0 ≤ mem 57 q ∧ x = -1000006 ∧ m' = fndM mem 5) ∨ (0 ≤ mem 57 q ∧ ∃ z y, z ≤ 40 ∧ mem 58 q = nI z ∧ y ≤ z ∧ y ≤ n ∧ (∀ i, i < y → ¬ inR (mem 59 (40 * q + i)) 0 999 = 0) ∧ (y < z → y < n → inR (mem 59 (40 * q + y)) 0 999 = 0) ∧ x = nI y ∧ m' = lodM mem q y)))) xZ mZ)) 20 [some (.ref 50), some (.int s), some (.int (nI i))] [] t := by
      refine for_ind z ?_
      rintro i t hz ⟨hin1, h1, h2⟩ ih
      have e58 : t 58 q = nI z := by rw [h1, lod_o _ _ (by decide)]; exact hz2
      have e59 : t 59 = mem 59 := by rw [h1, lod_o _ _ (by decide)]
      have e0 : t 51 0 = nI n := by rw [h1, lod_0]; exact h
      refine w_iload_n (i := 2) (n' := 21) dX6_load_20 rfl rfl rfl ?_
      refine w_aload_n (i := 0) (n' := 22) dX6_load_21 rfl rfl rfl ?_
      refine w_get (ci := 6) (j := 9) (n' := 25) dX6_load_22 rfl fRX6_31 (Nat.le_of_ble_eq_true rfl) (Nat.le_of_ble_eq_true rfl) rfl rfl ?_
      refine w_iload_n (i := 1) (n' := 26) dX6_load_25 rfl rfl rfl ?_
      refine w_iald (n := q) (n' := 27) dX6_load_26 rfl rfl hq2 (show q < 4 by omega) ?_
      rw [e58]
      refine w_icmp_ge (n' := 30) (tgt := 90) dX6_load_27 rfl rfl (fun h27 => ?_) (fun h27 => ?_)
      · have hin : i = z := by
          rcases Nat.lt_or_ge i z with c | c
          · exact absurd h27 (by exact nI_ge (b := z) c (by omega))
          · omega
        refine w_iload_n (i := 2) (n' := 91) dX6_load_90 rfl rfl rfl ?_
        exact w_iret dX6_load_91 rfl ⟨_, rfl, Or.inr ⟨q, hq1, hq2, hq3, Or.inr ⟨hq4, z, i, hz1, hz2, hz, hin1, h2, fun e _ => absurd e (by omega), rfl, h1⟩⟩⟩
      · have hlt : i < z := by
          rcases Nat.lt_or_ge i z with c | c
          · exact c
          · exact absurd (by exact nI_le (a := z) c (by omega)) h27
        refine w_aload_n (i := 0) (n' := 31) dX6_load_30 rfl rfl rfl ?_
        refine w_iload_n (i := 2) (n' := 32) dX6_load_31 rfl rfl rfl ?_
        refine v_E (ci := 6) (n' := 35) dX6_load_32 rfl lRX6_82 okX6_isFarm voX6_isFarm ⟨⟨Nat.le_of_ble_eq_true rfl, Nat.le_of_ble_eq_true rfl⟩, Nat.le_of_ble_eq_true rfl, Nat.le_of_ble_eq_true rfl⟩ (c6_isFarm e0 h8 _) rfl rfl (Nat.le_of_ble_eq_true rfl) rfl (Nat.le_of_ble_eq_true rfl) rfl ?_
        refine w_if_eq (n' := 38) (tgt := 90) dX6_load_35 rfl rfl (fun h35 => ?_) (fun h35 => ?_)
        · have hni := hasF_no (by omega) (by omega) h35
          refine w_iload_n (i := 2) (n' := 91) dX6_load_90 rfl rfl rfl ?_
          exact w_iret dX6_load_91 rfl ⟨_, rfl, Or.inr ⟨q, hq1, hq2, hq3, Or.inr ⟨hq4, z, i, hz1, hz2, hz, hin1, h2, fun _ e => absurd e hni, rfl, h1⟩⟩⟩
        · have hni := hasF_yes (by omega) (by omega) h35
          refine w_aload_n (i := 0) (n' := 39) dX6_load_38 rfl rfl rfl ?_
          refine w_get (ci := 6) (j := 10) (n' := 42) dX6_load_39 rfl fRX6_34 (Nat.le_of_ble_eq_true rfl) (Nat.le_of_ble_eq_true rfl) rfl rfl ?_
          refine w_bipush (v := 40) (n' := 44) dX6_load_42 rfl (by decide) ?_
          refine w_iload_n (i := 1) (n' := 45) dX6_load_44 rfl rfl rfl ?_
          refine w_imul (n' := 46) dX6_load_45 rfl ?_
          refine w_iload_n (i := 2) (n' := 47) dX6_load_46 rfl rfl rfl ?_
          refine w_iadd (n' := 48) dX6_load_47 rfl ?_
          refine w_iald (n := 40 * q + i) (n' := 49) dX6_load_48 rfl rfl (by rw [hq2, show (40 : Int32) = nI 40 from rfl, pk_mul, nI_add]) (show 40 * q + i < 160 by omega) ?_
          refine w_i2l (v := _) (n' := 50) dX6_load_49 rfl rfl ?_
          refine w_lconst (v := 0) (n' := 51) dX6_load_50 rfl rfl ?_
          refine w_ldc2 (v := 999) (n' := 54) dX6_load_51 rfl kRX6_63 ?_
          refine s_E (n' := 57) dX6_load_54 rfl lRX6_51 okX6_isIn stX6_isIn ⟨⟨Nat.le_of_ble_eq_true rfl, Nat.le_of_ble_eq_true rfl⟩, Nat.le_of_ble_eq_true rfl, Nat.le_of_ble_eq_true rfl⟩ (c6_isIn _ (0) (999) _ _ (by decide) (by decide) _) rfl rfl (Nat.le_of_ble_eq_true rfl) ?_
          refine w_if_eq (n' := 60) (tgt := 90) dX6_load_57 rfl rfl (fun h57 => ?_) (fun h57 => ?_)
          · refine w_iload_n (i := 2) (n' := 91) dX6_load_90 rfl rfl rfl ?_
            exact w_iret dX6_load_91 rfl ⟨_, rfl, Or.inr ⟨q, hq1, hq2, hq3, Or.inr ⟨hq4, z, i, hz1, hz2, hz, hin1, h2, fun _ _ => by rw [← e59]; exact h57, rfl, h1⟩⟩⟩
          · refine w_aload_n (i := 0) (n' := 61) dX6_load_60 rfl rfl rfl ?_
            refine w_get (ci := 6) (j := 0) (n' := 64) dX6_load_61 rfl fRX6_7 (Nat.le_of_ble_eq_true rfl) (Nat.le_of_ble_eq_true rfl) rfl rfl ?_
            refine w_bipush (v := 6) (n' := 66) dX6_load_64 rfl (by decide) ?_
            refine w_iconst (v := 5) (n' := 67) dX6_load_66 rfl rfl ?_
            refine w_iload_n (i := 2) (n' := 68) dX6_load_67 rfl rfl rfl ?_
            refine w_imul (n' := 69) dX6_load_68 rfl ?_
            refine w_iadd (n' := 70) dX6_load_69 rfl ?_
            refine w_iconst (v := 1) (n' := 71) dX6_load_70 rfl rfl ?_
            refine w_iadd (n' := 72) dX6_load_71 rfl ?_
            refine w_aload_n (i := 0) (n' := 73) dX6_load_72 rfl rfl rfl ?_
            refine w_get (ci := 6) (j := 10) (n' := 76) dX6_load_73 rfl fRX6_34 (Nat.le_of_ble_eq_true rfl) (Nat.le_of_ble_eq_true rfl) rfl rfl ?_
            refine w_bipush (v := 40) (n' := 78) dX6_load_76 rfl (by decide) ?_
            refine w_iload_n (i := 1) (n' := 79) dX6_load_78 rfl rfl rfl ?_
            refine w_imul (n' := 80) dX6_load_79 rfl ?_
            refine w_iload_n (i := 2) (n' := 81) dX6_load_80 rfl rfl rfl ?_
            refine w_iadd (n' := 82) dX6_load_81 rfl ?_
            refine w_iald (n := 40 * q + i) (n' := 83) dX6_load_82 rfl rfl (by rw [hq2, show (40 : Int32) = nI 40 from rfl, pk_mul, nI_add]) (show 40 * q + i < 160 by omega) ?_
            refine w_iast (n := 6 + 5 * i + 1) (n' := 84) dX6_load_83 rfl rfl (by rw [show (6 : Int32) = nI 6 from rfl, show (5 : Int32) = nI 5 from rfl, show (1 : Int32) = nI 1 from rfl, pk_mul, nI_add, nI_add]) (show 6 + 5 * i + 1 < 56 by omega) ?_
            refine w_iinc (n' := 87) (v := nI (i + 1)) (ls' := [_, _, _]) dX6_load_84 rfl rfl (nI_1 i) (Nat.le_of_ble_eq_true rfl) rfl rfl ?_
            refine w_goto (tgt := 20) dX6_load_87 rfl ?_
            exact ih hlt _ ⟨by omega, by rw [lodM, e59, h1], fun y hy => by
              rcases Nat.lt_or_ge y i with e | e
              · exact h2 y e
              · rw [show y = i by omega, ← e59]; exact h57⟩
    exact L 0 _ (Nat.zero_le _) ⟨Nat.zero_le _, rfl, fun y hy => absurd hy (by omega)⟩
  · refine w_aload_n (i := 0) (n' := 9) dX6_load_8 rfl rfl rfl ?_
    refine w_aload_n (i := 0) (n' := 10) dX6_load_9 rfl rfl rfl ?_
    refine w_iload_n (i := 1) (n' := 11) dX6_load_10 rfl rfl rfl ?_
    refine v_E (ci := 6) (n' := 14) dX6_load_11 rfl lRX6_195 okX6_wants voX6_wants ⟨⟨Nat.le_of_ble_eq_true rfl, Nat.le_of_ble_eq_true rfl⟩, Nat.le_of_ble_eq_true rfl, Nat.le_of_ble_eq_true rfl⟩ (c6_wants _ _) rfl rfl (Nat.le_of_ble_eq_true rfl) rfl (Nat.le_of_ble_eq_true rfl) rfl ?_
    refine v_E (ci := 6) (n' := 17) dX6_load_14 rfl lRX6_45 okX6_finds voX6_finds ⟨⟨Nat.le_of_ble_eq_true rfl, Nat.le_of_ble_eq_true rfl⟩, Nat.le_of_ble_eq_true rfl, Nat.le_of_ble_eq_true rfl⟩ (c6_findsW mem h5) rfl rfl (Nat.le_of_ble_eq_true rfl) rfl (Nat.le_of_ble_eq_true rfl) rfl ?_
    exact w_iret dX6_load_17 rfl ⟨_, rfl, by
      rcases want_n h5 with ⟨e1, e2, e3⟩ | ⟨q, e1, e2, e3, e4, e5, e6⟩
      · exact Or.inl ⟨e1, e2, by rw [e3]⟩
      · exact Or.inr ⟨q, e1, e2, e3, Or.inl ⟨e4, e5, by rw [e6]⟩⟩⟩
set_option maxHeartbeats 4000000 in
theorem c6_judge {n : Nat} {mem : Mem} (h : MO mem n) (s : Int32) (hl : ∀ q, q < 4 → ∃ z, z ≤ 40 ∧ mem 58 q = nI z) : CnI mX6_judge [.ref 50, .int s] mem (fun x m' => (inR s 0 3 = 0 ∧ x = -1000001 ∧ m' = fndM mem 0) ∨ (∃ q, q < 4 ∧ s = nI q ∧ ¬ inR s 0 3 = 0 ∧ ((¬ 0 ≤ mem 57 q ∧ x = -1000006 ∧ m' = fndM mem 5) ∨ (0 ≤ mem 57 q ∧ ∃ z y, z ≤ 40 ∧ mem 58 q = nI z ∧ y ≤ z ∧ y ≤ n ∧ (∀ i, i < y → mem 59 (40 * q + i) = DM mem i) ∧ (y < z → y < n → ¬ mem 59 (40 * q + y) = DM mem y) ∧ x = (if y < z then nI (1 + y) else 0) ∧ m' = mem)))) := by
  have h8 := h.2.1
  refine Cn.of (ls := [some (.ref 50), some (.int s), none]) (by decide) rfl (Nat.le_of_ble_eq_true rfl) ?_
  refine w_aload_n (i := 0) (n' := 1) dX6_judge_0 rfl rfl rfl ?_
  refine w_iload_n (i := 1) (n' := 2) dX6_judge_1 rfl rfl rfl ?_
  refine v_E (ci := 6) (n' := 5) dX6_judge_2 rfl lRX6_195 okX6_wants voX6_wants ⟨⟨Nat.le_of_ble_eq_true rfl, Nat.le_of_ble_eq_true rfl⟩, Nat.le_of_ble_eq_true rfl, Nat.le_of_ble_eq_true rfl⟩ (c6_wants _ _) rfl rfl (Nat.le_of_ble_eq_true rfl) rfl (Nat.le_of_ble_eq_true rfl) rfl ?_
  refine w_if_eq (n' := 8) (tgt := 18) dX6_judge_5 rfl rfl (fun h5 => ?_) (fun h5 => ?_)
  · obtain ⟨q, hq1, hq2, hq3, hq4⟩ := want_0 h5
    obtain ⟨z, hz1, hz2⟩ := hl q hq1
    refine w_iconst (v := 0) (n' := 19) dX6_judge_18 rfl rfl ?_
    refine w_istore_n (i := 2) (n' := 20) (ls' := [_, _, _]) dX6_judge_19 rfl rfl (Nat.le_of_ble_eq_true rfl) rfl rfl ?_
    have L : ∀ (i : Nat) (t : Unit), i ≤ z → (i ≤ n ∧ ∀ y, y < i → mem 59 (40 * q + y) = DM mem y) → Wm mX6_judge (zM mX6_judge (fun rZ mZ => ∃ xZ, rZ = some (.int xZ) ∧ (fun x m' => (inR s 0 3 = 0 ∧ x = -1000001 ∧ m' = fndM mem 0) ∨ (∃ q, q < 4 ∧ s = nI q ∧ ¬ inR s 0 3 = 0 ∧ ((¬ 0 ≤ mem 57 q ∧ x = -1000006 ∧ m' = fndM mem 5) ∨ (0 ≤ mem 57 q ∧ ∃ z y, z ≤ 40 ∧ mem 58 q = nI z ∧ y ≤ z ∧ y ≤ n ∧ (∀ i, i < y → mem 59 (40 * q + i) = DM mem i) ∧ (y < z → y < n → ¬ mem 59 (40 * q + y) = DM mem y) ∧ x = (if y < z then nI (1 + y) else 0) ∧ m' = mem)))) xZ mZ)) 20 [some (.ref 50), some (.int s), some (.int (nI i))] [] mem := by
      refine for_ind z ?_
      rintro i t hz ⟨hin1, h2⟩ ih
      refine w_iload_n (i := 2) (n' := 21) dX6_judge_20 rfl rfl rfl ?_
      refine w_aload_n (i := 0) (n' := 22) dX6_judge_21 rfl rfl rfl ?_
      refine w_get (ci := 6) (j := 9) (n' := 25) dX6_judge_22 rfl fRX6_31 (Nat.le_of_ble_eq_true rfl) (Nat.le_of_ble_eq_true rfl) rfl rfl ?_
      refine w_iload_n (i := 1) (n' := 26) dX6_judge_25 rfl rfl rfl ?_
      refine w_iald (n := q) (n' := 27) dX6_judge_26 rfl rfl hq2 (show q < 4 by omega) ?_
      rw [hz2]
      refine w_icmp_ge (n' := 30) (tgt := 63) dX6_judge_27 rfl rfl (fun h27 => ?_) (fun h27 => ?_)
      · have hin : i = z := by
          rcases Nat.lt_or_ge i z with c | c
          · exact absurd h27 (by exact nI_ge (b := z) c (by omega))
          · omega
        refine w_iload_n (i := 2) (n' := 64) dX6_judge_63 rfl rfl rfl ?_
        refine w_aload_n (i := 0) (n' := 65) dX6_judge_64 rfl rfl rfl ?_
        refine w_get (ci := 6) (j := 9) (n' := 68) dX6_judge_65 rfl fRX6_31 (Nat.le_of_ble_eq_true rfl) (Nat.le_of_ble_eq_true rfl) rfl rfl ?_
        refine w_iload_n (i := 1) (n' := 69) dX6_judge_68 rfl rfl rfl ?_
        refine w_iald (n := q) (n' := 70) dX6_judge_69 rfl rfl hq2 (show q < 4 by omega) ?_
        rw [hz2]
        refine w_icmp_ge (n' := 73) (tgt := 79) dX6_judge_70 rfl rfl (fun h70 => ?_) (fun h70 => absurd (nI_le (a := z) (by omega) (by omega)) h70)
        refine w_iconst (v := 0) (n' := 80) dX6_judge_79 rfl rfl ?_
        exact w_iret dX6_judge_80 rfl ⟨_, rfl, Or.inr ⟨q, hq1, hq2, hq3, Or.inr ⟨hq4, z, i, hz1, hz2, hz, hin1, h2, fun e _ => absurd e (by omega), by rw [if_neg (by omega)], rfl⟩⟩⟩
      · have hlt : i < z := by
          rcases Nat.lt_or_ge i z with c | c
          · exact c
          · exact absurd (by exact nI_le (a := z) c (by omega)) h27
        refine w_aload_n (i := 0) (n' := 31) dX6_judge_30 rfl rfl rfl ?_
        refine w_iload_n (i := 2) (n' := 32) dX6_judge_31 rfl rfl rfl ?_
        refine v_E (ci := 6) (n' := 35) dX6_judge_32 rfl lRX6_82 okX6_isFarm voX6_isFarm ⟨⟨Nat.le_of_ble_eq_true rfl, Nat.le_of_ble_eq_true rfl⟩, Nat.le_of_ble_eq_true rfl, Nat.le_of_ble_eq_true rfl⟩ (c6_isFarm h.1 h8 _) rfl rfl (Nat.le_of_ble_eq_true rfl) rfl (Nat.le_of_ble_eq_true rfl) rfl ?_
        refine w_if_eq (n' := 38) (tgt := 63) dX6_judge_35 rfl rfl (fun h35 => ?_) (fun h35 => ?_)
        · have hni := hasF_no (by omega) (by omega) h35
          refine w_iload_n (i := 2) (n' := 64) dX6_judge_63 rfl rfl rfl ?_
          refine w_aload_n (i := 0) (n' := 65) dX6_judge_64 rfl rfl rfl ?_
          refine w_get (ci := 6) (j := 9) (n' := 68) dX6_judge_65 rfl fRX6_31 (Nat.le_of_ble_eq_true rfl) (Nat.le_of_ble_eq_true rfl) rfl rfl ?_
          refine w_iload_n (i := 1) (n' := 69) dX6_judge_68 rfl rfl rfl ?_
          refine w_iald (n := q) (n' := 70) dX6_judge_69 rfl rfl hq2 (show q < 4 by omega) ?_
          rw [hz2]
          refine w_icmp_ge (n' := 73) (tgt := 79) dX6_judge_70 rfl rfl (fun h70 => absurd h70 (nI_ge hlt (by omega))) (fun h70 => ?_)
          refine w_iconst (v := 1) (n' := 74) dX6_judge_73 rfl rfl ?_
          refine w_iload_n (i := 2) (n' := 75) dX6_judge_74 rfl rfl rfl ?_
          refine w_iadd (n' := 76) dX6_judge_75 rfl ?_
          refine w_goto (tgt := 80) dX6_judge_76 rfl ?_
          exact w_iret dX6_judge_80 rfl ⟨_, rfl, Or.inr ⟨q, hq1, hq2, hq3, Or.inr ⟨hq4, z, i, hz1, hz2, hz, hin1, h2, fun _ e => absurd e hni, by rw [if_pos hlt, ← nI_add]; rfl, rfl⟩⟩⟩
        · have hni := hasF_yes (by omega) (by omega) h35
          refine w_aload_n (i := 0) (n' := 39) dX6_judge_38 rfl rfl rfl ?_
          refine w_get (ci := 6) (j := 10) (n' := 42) dX6_judge_39 rfl fRX6_34 (Nat.le_of_ble_eq_true rfl) (Nat.le_of_ble_eq_true rfl) rfl rfl ?_
          refine w_bipush (v := 40) (n' := 44) dX6_judge_42 rfl (by decide) ?_
          refine w_iload_n (i := 1) (n' := 45) dX6_judge_44 rfl rfl rfl ?_
          refine w_imul (n' := 46) dX6_judge_45 rfl ?_
          refine w_iload_n (i := 2) (n' := 47) dX6_judge_46 rfl rfl rfl ?_
          refine w_iadd (n' := 48) dX6_judge_47 rfl ?_
          refine w_iald (n := 40 * q + i) (n' := 49) dX6_judge_48 rfl rfl (by rw [hq2, show (40 : Int32) = nI 40 from rfl, pk_mul, nI_add]) (show 40 * q + i < 160 by omega) ?_
          refine w_aload_n (i := 0) (n' := 50) dX6_judge_49 rfl rfl rfl ?_
          refine w_iload_n (i := 2) (n' := 51) dX6_judge_50 rfl rfl rfl ?_
          refine v_E (ci := 6) (n' := 54) dX6_judge_51 rfl lRX6_88 okX6_days voX6_days ⟨⟨Nat.le_of_ble_eq_true rfl, Nat.le_of_ble_eq_true rfl⟩, Nat.le_of_ble_eq_true rfl, Nat.le_of_ble_eq_true rfl⟩ (c6_days h hni) rfl rfl (Nat.le_of_ble_eq_true rfl) rfl (Nat.le_of_ble_eq_true rfl) rfl ?_
          refine w_icmp_ne (n' := 57) (tgt := 63) dX6_judge_54 rfl rfl (fun h54 => ?_) (fun h54 => ?_)
          · refine w_iload_n (i := 2) (n' := 64) dX6_judge_63 rfl rfl rfl ?_
            refine w_aload_n (i := 0) (n' := 65) dX6_judge_64 rfl rfl rfl ?_
            refine w_get (ci := 6) (j := 9) (n' := 68) dX6_judge_65 rfl fRX6_31 (Nat.le_of_ble_eq_true rfl) (Nat.le_of_ble_eq_true rfl) rfl rfl ?_
            refine w_iload_n (i := 1) (n' := 69) dX6_judge_68 rfl rfl rfl ?_
            refine w_iald (n := q) (n' := 70) dX6_judge_69 rfl rfl hq2 (show q < 4 by omega) ?_
            rw [hz2]
            refine w_icmp_ge (n' := 73) (tgt := 79) dX6_judge_70 rfl rfl (fun h70 => absurd h70 (nI_ge hlt (by omega))) (fun h70 => ?_)
            refine w_iconst (v := 1) (n' := 74) dX6_judge_73 rfl rfl ?_
            refine w_iload_n (i := 2) (n' := 75) dX6_judge_74 rfl rfl rfl ?_
            refine w_iadd (n' := 76) dX6_judge_75 rfl ?_
            refine w_goto (tgt := 80) dX6_judge_76 rfl ?_
            exact w_iret dX6_judge_80 rfl ⟨_, rfl, Or.inr ⟨q, hq1, hq2, hq3, Or.inr ⟨hq4, z, i, hz1, hz2, hz, hin1, h2, fun _ _ => h54, by rw [if_pos hlt, ← nI_add]; rfl, rfl⟩⟩⟩
          · refine w_iinc (n' := 60) (v := nI (i + 1)) (ls' := [_, _, _]) dX6_judge_57 rfl rfl (nI_1 i) (Nat.le_of_ble_eq_true rfl) rfl rfl ?_
            refine w_goto (tgt := 20) dX6_judge_60 rfl ?_
            exact ih hlt () ⟨by omega, fun y hy => by
              rcases Nat.lt_or_ge y i with e | e
              · exact h2 y e
              · rw [show y = i by omega]; exact h54⟩
    exact L 0 () (Nat.zero_le _) ⟨Nat.zero_le _, fun y hy => absurd hy (by omega)⟩
  · refine w_aload_n (i := 0) (n' := 9) dX6_judge_8 rfl rfl rfl ?_
    refine w_aload_n (i := 0) (n' := 10) dX6_judge_9 rfl rfl rfl ?_
    refine w_iload_n (i := 1) (n' := 11) dX6_judge_10 rfl rfl rfl ?_
    refine v_E (ci := 6) (n' := 14) dX6_judge_11 rfl lRX6_195 okX6_wants voX6_wants ⟨⟨Nat.le_of_ble_eq_true rfl, Nat.le_of_ble_eq_true rfl⟩, Nat.le_of_ble_eq_true rfl, Nat.le_of_ble_eq_true rfl⟩ (c6_wants _ _) rfl rfl (Nat.le_of_ble_eq_true rfl) rfl (Nat.le_of_ble_eq_true rfl) rfl ?_
    refine v_E (ci := 6) (n' := 17) dX6_judge_14 rfl lRX6_45 okX6_finds voX6_finds ⟨⟨Nat.le_of_ble_eq_true rfl, Nat.le_of_ble_eq_true rfl⟩, Nat.le_of_ble_eq_true rfl, Nat.le_of_ble_eq_true rfl⟩ (c6_findsW mem h5) rfl rfl (Nat.le_of_ble_eq_true rfl) rfl (Nat.le_of_ble_eq_true rfl) rfl ?_
    exact w_iret dX6_judge_17 rfl ⟨_, rfl, by
      rcases want_n h5 with ⟨e1, e2, e3⟩ | ⟨q, e1, e2, e3, e4, e5, e6⟩
      · exact Or.inl ⟨e1, e2, by rw [e3]⟩
      · exact Or.inr ⟨q, e1, e2, e3, Or.inl ⟨e4, e5, by rw [e6]⟩⟩⟩
set_option maxHeartbeats 4000000 in
theorem c6_image (mem : Mem) : CnE mX6_image [.ref 50] mem (some (.int 1)) (up2 (rowC mem 51 52) 50 4 1) := by
  refine Cn.of (ls := [some (.ref 50)]) (by decide) rfl (Nat.le_of_ble_eq_true rfl) ?_
  refine w_aload_n (i := 0) (n' := 1) dX6_image_0 rfl rfl rfl ?_
  refine w_get (ci := 6) (j := 0) (n' := 4) dX6_image_1 rfl fRX6_7 (Nat.le_of_ble_eq_true rfl) (Nat.le_of_ble_eq_true rfl) rfl rfl ?_
  refine w_aload_n (i := 0) (n' := 5) dX6_image_4 rfl rfl rfl ?_
  refine w_get (ci := 6) (j := 1) (n' := 8) dX6_image_5 rfl fRX6_13 (Nat.le_of_ble_eq_true rfl) (Nat.le_of_ble_eq_true rfl) rfl rfl ?_
  refine s_E (n' := 11) dX6_image_8 rfl lRX6_162 okX6_copyRow stX6_copyRow ⟨⟨Nat.le_of_ble_eq_true rfl, Nat.le_of_ble_eq_true rfl⟩, Nat.le_of_ble_eq_true rfl, Nat.le_of_ble_eq_true rfl⟩ (c6_copyRow (a := 51) (b := 52) rfl rfl rfl rfl (by decide) _) rfl rfl (Nat.le_of_ble_eq_true rfl) ?_
  refine w_aload_n (i := 0) (n' := 12) dX6_image_11 rfl rfl rfl ?_
  refine w_iconst (v := 1) (n' := 13) dX6_image_12 rfl rfl ?_
  refine w_putT (ci := 6) (j := 4) (n' := 16) dX6_image_13 rfl fRX6_296 (Nat.le_of_ble_eq_true rfl) (Nat.le_of_ble_eq_true rfl) rfl rfl rfl rfl rfl ?_
  refine w_iconst (v := 1) (n' := 17) dX6_image_16 rfl rfl ?_
  exact w_iret dX6_image_17 rfl ⟨rfl, rfl⟩
set_option maxHeartbeats 4000000 in
theorem c6_undo (mem : Mem) : CnI mX6_undo [.ref 50] mem (fun x m' => (mem 50 4 = 0 ∧ x = -1000004 ∧ m' = fndM mem 3) ∨ (¬ mem 50 4 = 0 ∧ x = mem 52 1 ∧ m' = rowC mem 52 51)) := by
  refine Cn.of (ls := [some (.ref 50)]) (by decide) rfl (Nat.le_of_ble_eq_true rfl) ?_
  refine w_aload_n (i := 0) (n' := 1) dX6_undo_0 rfl rfl rfl ?_
  refine w_get (ci := 6) (j := 4) (n' := 4) dX6_undo_1 rfl fRX6_296 (Nat.le_of_ble_eq_true rfl) (Nat.le_of_ble_eq_true rfl) rfl rfl ?_
  refine w_if_ne (n' := 7) (tgt := 14) dX6_undo_4 rfl rfl (fun h4 => ?_) (fun h4 => ?_)
  · refine w_aload_n (i := 0) (n' := 15) dX6_undo_14 rfl rfl rfl ?_
    refine w_get (ci := 6) (j := 1) (n' := 18) dX6_undo_15 rfl fRX6_13 (Nat.le_of_ble_eq_true rfl) (Nat.le_of_ble_eq_true rfl) rfl rfl ?_
    refine w_aload_n (i := 0) (n' := 19) dX6_undo_18 rfl rfl rfl ?_
    refine w_get (ci := 6) (j := 0) (n' := 22) dX6_undo_19 rfl fRX6_7 (Nat.le_of_ble_eq_true rfl) (Nat.le_of_ble_eq_true rfl) rfl rfl ?_
    refine s_E (n' := 25) dX6_undo_22 rfl lRX6_162 okX6_copyRow stX6_copyRow ⟨⟨Nat.le_of_ble_eq_true rfl, Nat.le_of_ble_eq_true rfl⟩, Nat.le_of_ble_eq_true rfl, Nat.le_of_ble_eq_true rfl⟩ (c6_copyRow (a := 52) (b := 51) rfl rfl rfl rfl (by decide) _) rfl rfl (Nat.le_of_ble_eq_true rfl) ?_
    refine w_aload_n (i := 0) (n' := 26) dX6_undo_25 rfl rfl rfl ?_
    refine w_get (ci := 6) (j := 0) (n' := 29) dX6_undo_26 rfl fRX6_7 (Nat.le_of_ble_eq_true rfl) (Nat.le_of_ble_eq_true rfl) rfl rfl ?_
    refine w_iconst (v := 1) (n' := 30) dX6_undo_29 rfl rfl ?_
    refine w_iald (n := 1) (n' := 31) dX6_undo_30 rfl rfl (by decide) (by decide) ?_
    exact w_iret dX6_undo_31 rfl ⟨_, rfl, Or.inr ⟨h4, by unfold rowC; rw [upR_same, if_pos (by decide)], rfl⟩⟩
  · refine w_aload_n (i := 0) (n' := 8) dX6_undo_7 rfl rfl rfl ?_
    refine w_ldc (v := -1000004) (n' := 10) dX6_undo_8 rfl kRX6_44 ?_
    refine v_E (ci := 6) (n' := 13) dX6_undo_10 rfl lRX6_45 okX6_finds voX6_finds ⟨⟨Nat.le_of_ble_eq_true rfl, Nat.le_of_ble_eq_true rfl⟩, Nat.le_of_ble_eq_true rfl, Nat.le_of_ble_eq_true rfl⟩ (c6_finds 3 _ (by decide) (by decide) _) rfl rfl (Nat.le_of_ble_eq_true rfl) rfl (Nat.le_of_ble_eq_true rfl) rfl ?_
    exact w_iret dX6_undo_13 rfl ⟨_, rfl, Or.inl ⟨h4, rfl, rfl⟩⟩
set_option maxHeartbeats 4000000 in
theorem c6_tear (mem : Mem) : CnE mX6_tear [.ref 50] mem (some (.int (if mem 50 4 = 0 then 0 else 1))) (up2 mem 50 4 0) := by
  refine Cn.of (ls := [some (.ref 50), none]) (by decide) rfl (Nat.le_of_ble_eq_true rfl) ?_
  refine w_aload_n (i := 0) (n' := 1) dX6_tear_0 rfl rfl rfl ?_
  refine w_get (ci := 6) (j := 4) (n' := 4) dX6_tear_1 rfl fRX6_296 (Nat.le_of_ble_eq_true rfl) (Nat.le_of_ble_eq_true rfl) rfl rfl ?_
  refine w_istore_n (i := 1) (n' := 5) (ls' := [_, _]) dX6_tear_4 rfl rfl (Nat.le_of_ble_eq_true rfl) rfl rfl ?_
  refine w_aload_n (i := 0) (n' := 6) dX6_tear_5 rfl rfl rfl ?_
  refine w_iconst (v := 0) (n' := 7) dX6_tear_6 rfl rfl ?_
  refine w_putT (ci := 6) (j := 4) (n' := 10) dX6_tear_7 rfl fRX6_296 (Nat.le_of_ble_eq_true rfl) (Nat.le_of_ble_eq_true rfl) rfl rfl rfl rfl rfl ?_
  refine w_iload_n (i := 1) (n' := 11) dX6_tear_10 rfl rfl rfl ?_
  refine w_if_eq (n' := 14) (tgt := 18) dX6_tear_11 rfl rfl (fun h11 => ?_) (fun h11 => ?_)
  · refine w_iconst (v := 0) (n' := 19) dX6_tear_18 rfl rfl ?_
    exact w_iret dX6_tear_19 rfl ⟨by simp [h11], rfl⟩
  · refine w_iconst (v := 1) (n' := 15) dX6_tear_14 rfl rfl ?_
    refine w_goto (tgt := 19) dX6_tear_15 rfl ?_
    exact w_iret dX6_tear_19 rfl ⟨by simp [h11], rfl⟩
def cntM (m : Mem) (n : Nat) (a : Int32) : Int32 := if a = 0 then m 51 1 else if a = 1 then m 51 0 else if a = 2 then bcI (lastS (DM m) n) else if a = 3 then sumT (fun i => FM m i 2) n else if a = 4 then sumT (fun i => FM m i 3) n else if a = 5 then m 50 7 else if a = 6 then m 51 2 else cntT (fun i => decide (0 ≤ m 51 (46 + i))) 10
set_option maxHeartbeats 4000000 in
theorem c6_count {n : Nat} {mem : Mem} (h : MO mem n) (a : Int32) : CnI mX6_count [.ref 50, .int a] mem (fun x m' => ((¬ a = 0 ∧ ¬ a = 1 ∧ ¬ a = 2 ∧ ¬ a = 3 ∧ ¬ a = 4 ∧ ¬ a = 5 ∧ ¬ a = 6 ∧ ¬ a = 7) ∧ x = -1000001 ∧ m' = fndM mem 0) ∨ ((a = 0 ∨ a = 1 ∨ a = 2 ∨ a = 3 ∨ a = 4 ∨ a = 5 ∨ a = 6 ∨ a = 7) ∧ x = cntM mem n a ∧ QM mem m')) := by
  have h8 := h.2.1
  refine Cn.of (ls := [some (.ref 50), some (.int a), none, none]) (by decide) rfl (Nat.le_of_ble_eq_true rfl) ?_
  refine w_iconst (v := 0) (n' := 1) dX6_count_0 rfl rfl ?_
  refine w_istore_n (i := 2) (n' := 2) (ls' := [_, _, _, _]) dX6_count_1 rfl rfl (Nat.le_of_ble_eq_true rfl) rfl rfl ?_
  refine w_iload_n (i := 1) (n' := 3) dX6_count_2 rfl rfl rfl ?_
  refine w_tc (0) (tgt := 48) dX6_count_3 (by decide) (by decide) rfl rfl (fun e3_0 => ?_) (fun e3_0 => ?_)
  · refine w_aload_n (i := 0) (n' := 49) dX6_count_48 rfl rfl rfl ?_
    refine w_get (ci := 6) (j := 0) (n' := 52) dX6_count_49 rfl fRX6_7 (Nat.le_of_ble_eq_true rfl) (Nat.le_of_ble_eq_true rfl) rfl rfl ?_
    refine w_iconst (v := 1) (n' := 53) dX6_count_52 rfl rfl ?_
    refine w_iald (n := 1) (n' := 54) dX6_count_53 rfl rfl (by decide) (by decide) ?_
    exact w_iret dX6_count_54 rfl ⟨_, rfl, Or.inr ⟨by simp [e3_0], by simp [cntM, e3_0], QM.rf _⟩⟩
  refine w_tc (1) (tgt := 55) dX6_count_3 (by decide) (by decide) rfl rfl (fun e3_1 => ?_) (fun e3_1 => ?_)
  · refine w_aload_n (i := 0) (n' := 56) dX6_count_55 rfl rfl rfl ?_
    refine w_get (ci := 6) (j := 0) (n' := 59) dX6_count_56 rfl fRX6_7 (Nat.le_of_ble_eq_true rfl) (Nat.le_of_ble_eq_true rfl) rfl rfl ?_
    refine w_iconst (v := 0) (n' := 60) dX6_count_59 rfl rfl ?_
    refine w_iald (n := 0) (n' := 61) dX6_count_60 rfl rfl (by decide) (by decide) ?_
    exact w_iret dX6_count_61 rfl ⟨_, rfl, Or.inr ⟨by simp [e3_1], by simp [cntM, e3_0, e3_1], QM.rf _⟩⟩
  refine w_tc (2) (tgt := 62) dX6_count_3 (by decide) (by decide) rfl rfl (fun e3_2 => ?_) (fun e3_2 => ?_)
  · refine w_aload_n (i := 0) (n' := 63) dX6_count_62 rfl rfl rfl ?_
    refine v_E (ci := 6) (n' := 66) dX6_count_63 rfl lRX6_119 okX6_lasts voX6_lasts ⟨⟨Nat.le_of_ble_eq_true rfl, Nat.le_of_ble_eq_true rfl⟩, Nat.le_of_ble_eq_true rfl, Nat.le_of_ble_eq_true rfl⟩ (c6_lasts h) rfl rfl (Nat.le_of_ble_eq_true rfl) rfl (Nat.le_of_ble_eq_true rfl) rfl ?_
    obtain ⟨w, hw1, hw2⟩ := last_N (DM mem) (n := n) h8
    rw [hw2]
    refine s_E (n' := 69) dX6_count_66 rfl lRX6_168 okX6_many stX6_many ⟨⟨Nat.le_of_ble_eq_true rfl, Nat.le_of_ble_eq_true rfl⟩, Nat.le_of_ble_eq_true rfl, Nat.le_of_ble_eq_true rfl⟩ (c6_many w hw1 _) rfl rfl (Nat.le_of_ble_eq_true rfl) ?_
    exact w_iret dX6_count_69 rfl ⟨_, rfl, Or.inr ⟨by simp [e3_2], by simp [cntM, e3_0, e3_1, e3_2, hw2], (QM.rf _).cd⟩⟩
  refine w_tc (3) (tgt := 70) dX6_count_3 (by decide) (by decide) rfl rfl (fun e3_3 => ?_) (fun e3_3 => ?_)
  · refine w_aload_n (i := 0) (n' := 71) dX6_count_70 rfl rfl rfl ?_
    refine w_iconst (v := 2) (n' := 72) dX6_count_71 rfl rfl ?_
    refine v_E (ci := 6) (n' := 75) dX6_count_72 rfl lRX6_153 okX6_sumOf voX6_sumOf ⟨⟨Nat.le_of_ble_eq_true rfl, Nat.le_of_ble_eq_true rfl⟩, Nat.le_of_ble_eq_true rfl, Nat.le_of_ble_eq_true rfl⟩ (c6_sumOf (j := 2) h.1 h.2.1 _ rfl (by decide)) rfl rfl (Nat.le_of_ble_eq_true rfl) rfl (Nat.le_of_ble_eq_true rfl) rfl ?_
    exact w_iret dX6_count_75 rfl ⟨_, rfl, Or.inr ⟨by simp [e3_3], by simp [cntM, e3_0, e3_1, e3_2, e3_3], QM.rf _⟩⟩
  refine w_tc (4) (tgt := 76) dX6_count_3 (by decide) (by decide) rfl rfl (fun e3_4 => ?_) (fun e3_4 => ?_)
  · refine w_aload_n (i := 0) (n' := 77) dX6_count_76 rfl rfl rfl ?_
    refine w_iconst (v := 3) (n' := 78) dX6_count_77 rfl rfl ?_
    refine v_E (ci := 6) (n' := 81) dX6_count_78 rfl lRX6_153 okX6_sumOf voX6_sumOf ⟨⟨Nat.le_of_ble_eq_true rfl, Nat.le_of_ble_eq_true rfl⟩, Nat.le_of_ble_eq_true rfl, Nat.le_of_ble_eq_true rfl⟩ (c6_sumOf (j := 3) h.1 h.2.1 _ rfl (by decide)) rfl rfl (Nat.le_of_ble_eq_true rfl) rfl (Nat.le_of_ble_eq_true rfl) rfl ?_
    exact w_iret dX6_count_81 rfl ⟨_, rfl, Or.inr ⟨by simp [e3_4], by simp [cntM, e3_0, e3_1, e3_2, e3_3, e3_4], QM.rf _⟩⟩
  refine w_tc (5) (tgt := 82) dX6_count_3 (by decide) (by decide) rfl rfl (fun e3_5 => ?_) (fun e3_5 => ?_)
  · refine w_aload_n (i := 0) (n' := 83) dX6_count_82 rfl rfl rfl ?_
    refine w_get (ci := 6) (j := 7) (n' := 86) dX6_count_83 rfl fRX6_214 (Nat.le_of_ble_eq_true rfl) (Nat.le_of_ble_eq_true rfl) rfl rfl ?_
    exact w_iret dX6_count_86 rfl ⟨_, rfl, Or.inr ⟨by simp [e3_5], by simp [cntM, e3_0, e3_1, e3_2, e3_3, e3_4, e3_5], QM.rf _⟩⟩
  refine w_tc (6) (tgt := 87) dX6_count_3 (by decide) (by decide) rfl rfl (fun e3_6 => ?_) (fun e3_6 => ?_)
  · refine w_aload_n (i := 0) (n' := 88) dX6_count_87 rfl rfl rfl ?_
    refine w_get (ci := 6) (j := 0) (n' := 91) dX6_count_88 rfl fRX6_7 (Nat.le_of_ble_eq_true rfl) (Nat.le_of_ble_eq_true rfl) rfl rfl ?_
    refine w_iconst (v := 2) (n' := 92) dX6_count_91 rfl rfl ?_
    refine w_iald (n := 2) (n' := 93) dX6_count_92 rfl rfl (by decide) (by decide) ?_
    exact w_iret dX6_count_93 rfl ⟨_, rfl, Or.inr ⟨by simp [e3_6], by simp [cntM, e3_0, e3_1, e3_2, e3_3, e3_4, e3_5, e3_6], QM.rf _⟩⟩
  refine w_tc (7) (tgt := 94) dX6_count_3 (by decide) (by decide) rfl rfl (fun e3_7 => ?_) (fun e3_7 => ?_)
  · refine w_iconst (v := 0) (n' := 95) dX6_count_94 rfl rfl ?_
    refine w_istore_n (i := 3) (n' := 96) (ls' := [_, _, _, _]) dX6_count_95 rfl rfl (Nat.le_of_ble_eq_true rfl) rfl rfl ?_
    have L : ∀ (i : Nat) (v : Int32), i ≤ 10 → v = cntT (fun i => decide (0 ≤ mem 51 (46 + i))) i → Wm mX6_count (zM mX6_count (fun rZ mZ => ∃ xZ, rZ = some (.int xZ) ∧ (fun x m' => ((¬ a = 0 ∧ ¬ a = 1 ∧ ¬ a = 2 ∧ ¬ a = 3 ∧ ¬ a = 4 ∧ ¬ a = 5 ∧ ¬ a = 6 ∧ ¬ a = 7) ∧ x = -1000001 ∧ m' = fndM mem 0) ∨ ((a = 0 ∨ a = 1 ∨ a = 2 ∨ a = 3 ∨ a = 4 ∨ a = 5 ∨ a = 6 ∨ a = 7) ∧ x = cntM mem n a ∧ QM mem m')) xZ mZ)) 96 [some (.ref 50), some (.int a), some (.int v), some (.int (nI i))] [] mem := by
      refine for_ind 10 ?_
      intro i v hi h1 ih
      refine w_iload_n (i := 3) (n' := 97) dX6_count_96 rfl rfl rfl ?_
      refine w_bipush (v := 10) (n' := 99) dX6_count_97 rfl (by decide) ?_
      refine w_icmp_ge (n' := 102) (tgt := 128) dX6_count_99 rfl rfl (fun h99 => ?_) (fun h99 => ?_)
      · have hin : i = 10 := by
          rcases Nat.lt_or_ge i 10 with c | c
          · exact absurd h99 (by exact nI_ge (b := 10) c (by omega))
          · omega
        refine w_iload_n (i := 2) (n' := 129) dX6_count_128 rfl rfl rfl ?_
        exact w_iret dX6_count_129 rfl ⟨_, rfl, Or.inr ⟨by simp [e3_7], by rw [h1, hin]; simp [cntM, e3_7], QM.rf _⟩⟩
      · have hlt : i < 10 := by
          rcases Nat.lt_or_ge i 10 with c | c
          · exact c
          · exact absurd (by exact nI_le (a := 10) c (by omega)) h99
        refine w_iload_n (i := 2) (n' := 103) dX6_count_102 rfl rfl rfl ?_
        refine w_aload_n (i := 0) (n' := 104) dX6_count_103 rfl rfl rfl ?_
        refine w_get (ci := 6) (j := 0) (n' := 107) dX6_count_104 rfl fRX6_7 (Nat.le_of_ble_eq_true rfl) (Nat.le_of_ble_eq_true rfl) rfl rfl ?_
        refine w_bipush (v := 46) (n' := 109) dX6_count_107 rfl (by decide) ?_
        refine w_iload_n (i := 3) (n' := 110) dX6_count_109 rfl rfl rfl ?_
        refine w_iadd (n' := 111) dX6_count_110 rfl ?_
        refine w_iald (n := 46 + i) (n' := 112) dX6_count_111 rfl rfl (by rw [show (46 : Int32) = nI 46 from rfl, nI_add]) (show 46 + i < 56 by omega) ?_
        refine w_if_ge (n' := 115) (tgt := 119) dX6_count_112 rfl rfl (fun h112 => ?_) (fun h112 => ?_)
        · refine w_iconst (v := 1) (n' := 120) dX6_count_119 rfl rfl ?_
          refine w_iadd (n' := 121) dX6_count_120 rfl ?_
          refine w_istore_n (i := 2) (n' := 122) (ls' := [_, _, _, _]) dX6_count_121 rfl rfl (Nat.le_of_ble_eq_true rfl) rfl rfl ?_
          refine w_iinc (n' := 125) (v := nI (i + 1)) (ls' := [_, _, _, _]) dX6_count_122 rfl rfl (nI_1 i) (Nat.le_of_ble_eq_true rfl) rfl rfl ?_
          refine w_goto (tgt := 96) dX6_count_125 rfl ?_
          exact ih hlt _ (by rw [h1, cntT, if_pos (by rw [decide_eq_true_iff]; exact h112)])
        · refine w_iconst (v := 0) (n' := 116) dX6_count_115 rfl rfl ?_
          refine w_goto (tgt := 120) dX6_count_116 rfl ?_
          refine w_iadd (n' := 121) dX6_count_120 rfl ?_
          refine w_istore_n (i := 2) (n' := 122) (ls' := [_, _, _, _]) dX6_count_121 rfl rfl (Nat.le_of_ble_eq_true rfl) rfl rfl ?_
          refine w_iinc (n' := 125) (v := nI (i + 1)) (ls' := [_, _, _, _]) dX6_count_122 rfl rfl (nI_1 i) (Nat.le_of_ble_eq_true rfl) rfl rfl ?_
          refine w_goto (tgt := 96) dX6_count_125 rfl ?_
          exact ih hlt _ (by rw [h1, cntT, if_neg (by rw [decide_eq_true_iff]; exact h112), Int32.add_zero])
    exact L 0 0 (Nat.zero_le _) rfl
  refine w_td [0, 1, 2, 3, 4, 5, 6, 7] (tgt := 130) dX6_count_3 rfl (by decide) (List.forall_mem_cons.mpr ⟨e3_0, (List.forall_mem_cons.mpr ⟨e3_1, (List.forall_mem_cons.mpr ⟨e3_2, (List.forall_mem_cons.mpr ⟨e3_3, (List.forall_mem_cons.mpr ⟨e3_4, (List.forall_mem_cons.mpr ⟨e3_5, (List.forall_mem_cons.mpr ⟨e3_6, (List.forall_mem_cons.mpr ⟨e3_7, (fun _ h => absurd h List.not_mem_nil)⟩)⟩)⟩)⟩)⟩)⟩)⟩)⟩) ?_
  refine w_aload_n (i := 0) (n' := 131) dX6_count_130 rfl rfl rfl ?_
  refine w_ldc (v := -1000001) (n' := 133) dX6_count_131 rfl kRX6_43 ?_
  refine v_E (ci := 6) (n' := 136) dX6_count_133 rfl lRX6_45 okX6_finds voX6_finds ⟨⟨Nat.le_of_ble_eq_true rfl, Nat.le_of_ble_eq_true rfl⟩, Nat.le_of_ble_eq_true rfl, Nat.le_of_ble_eq_true rfl⟩ (c6_finds 0 _ (by decide) (by decide) _) rfl rfl (Nat.le_of_ble_eq_true rfl) rfl (Nat.le_of_ble_eq_true rfl) rfl ?_
  exact w_iret dX6_count_136 rfl ⟨_, rfl, Or.inl ⟨⟨e3_0, e3_1, e3_2, e3_3, e3_4, e3_5, e3_6, e3_7⟩, rfl, rfl⟩⟩
theorem stat_i {a : Int32} (h : ¬ inR a (-1) 6 = 0) : ∃ i, i < 8 ∧ a + 1 = nI i := by
  have h1 := (inR_01 a (-1) 6).resolve_left h
  rw [inR_iff] at h1
  have e1 : (-1 : Int32).toInt = -1 := by decide
  have e2 : (6 : Int32).toInt = 6 := by decide
  rw [e1, e2] at h1
  refine ⟨(a.toInt + 1).toNat, by omega, nI_ofInt ?_⟩
  rw [Int32.toInt_add, show (1 : Int32).toInt = 1 by decide, Int.bmod_eq_of_le (by omega) (by omega)]
  omega
set_option maxHeartbeats 4000000 in
theorem c6_status (a : Int32) (mem : Mem) : CnI mX6_status [.ref 50, .int a] mem (fun x m' => (inR a (-1) 6 = 0 ∧ x = -1000001 ∧ m' = fndM mem 0) ∨ (¬ inR a (-1) 6 = 0 ∧ m' = mem ∧ ∃ i, i < 8 ∧ a + 1 = nI i ∧ x = mem 55 i)) := by
  refine Cn.of (ls := [some (.ref 50), some (.int a)]) (by decide) rfl (Nat.le_of_ble_eq_true rfl) ?_
  refine w_iload_n (i := 1) (n' := 1) dX6_status_0 rfl rfl rfl ?_
  refine w_i2l (v := _) (n' := 2) dX6_status_1 rfl rfl ?_
  refine w_ldc2 (v := -1) (n' := 5) dX6_status_2 rfl kRX6_300 ?_
  refine w_ldc2 (v := 6) (n' := 8) dX6_status_5 rfl kRX6_61 ?_
  refine s_E (n' := 11) dX6_status_8 rfl lRX6_51 okX6_isIn stX6_isIn ⟨⟨Nat.le_of_ble_eq_true rfl, Nat.le_of_ble_eq_true rfl⟩, Nat.le_of_ble_eq_true rfl, Nat.le_of_ble_eq_true rfl⟩ (c6_isIn _ (-1) (6) _ _ (by decide) (by decide) _) rfl rfl (Nat.le_of_ble_eq_true rfl) ?_
  refine w_if_eq (n' := 14) (tgt := 25) dX6_status_11 rfl rfl (fun h11 => ?_) (fun h11 => ?_)
  · refine w_aload_n (i := 0) (n' := 26) dX6_status_25 rfl rfl rfl ?_
    refine w_ldc (v := -1000001) (n' := 28) dX6_status_26 rfl kRX6_43 ?_
    refine v_E (ci := 6) (n' := 31) dX6_status_28 rfl lRX6_45 okX6_finds voX6_finds ⟨⟨Nat.le_of_ble_eq_true rfl, Nat.le_of_ble_eq_true rfl⟩, Nat.le_of_ble_eq_true rfl, Nat.le_of_ble_eq_true rfl⟩ (c6_finds 0 _ (by decide) (by decide) _) rfl rfl (Nat.le_of_ble_eq_true rfl) rfl (Nat.le_of_ble_eq_true rfl) rfl ?_
    exact w_iret dX6_status_31 rfl ⟨_, rfl, Or.inl ⟨h11, rfl, rfl⟩⟩
  · obtain ⟨i, hi1, hi2⟩ := stat_i h11
    refine w_aload_n (i := 0) (n' := 15) dX6_status_14 rfl rfl rfl ?_
    refine w_get (ci := 6) (j := 5) (n' := 18) dX6_status_15 rfl fRX6_22 (Nat.le_of_ble_eq_true rfl) (Nat.le_of_ble_eq_true rfl) rfl rfl ?_
    refine w_iload_n (i := 1) (n' := 19) dX6_status_18 rfl rfl rfl ?_
    refine w_iconst (v := 1) (n' := 20) dX6_status_19 rfl rfl ?_
    refine w_iadd (n' := 21) dX6_status_20 rfl ?_
    refine w_iald (n := i) (n' := 22) dX6_status_21 rfl rfl hi2 (show i < 8 by omega) ?_
    refine w_goto (tgt := 31) dX6_status_22 rfl ?_
    exact w_iret dX6_status_31 rfl ⟨_, rfl, Or.inr ⟨h11, rfl, i, hi1, hi2, rfl⟩⟩
