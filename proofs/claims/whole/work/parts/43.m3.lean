/-! the reference: years -/
def MOR (s : Nat → Int32) (n : Nat) : Prop := s 0 = nI n ∧ n ≤ 8 ∧ (∃ w, w ≤ 99 ∧ s 3 = nI w) ∧ ∀ i, i < n → FB (fun j => s (6 + 5 * i + j))
theorem MO_R {m : Mem} {n : Nat} : MO m n ↔ MOR (m 51) n := Iff.rfl
def DR (s : Nat → Int32) (i : Nat) : Int32 := dayI (s (6 + 5 * i + 0)) (s (6 + 5 * i + 1)) (s (6 + 5 * i + 2)) (s 3)
theorem DM_R (m : Mem) : DM m = DR (m 51) := rfl
def leanR (s : Nat → Int32) (n : Nat) (L : Int32) : Int32 := leanX (sumX (fun i j => s (6 + 5 * i + j)) L n) (s 4) (s 5)
theorem leanXM_R (m : Mem) (n : Nat) (L : Int32) : leanXM m n L = leanR (m 51) n L := rfl
def bitX (L : Int32) (i : Nat) : Prop := (L >>> (nI i &&& 31)) &&& 1 = 1
def sgnI (v : Int32) : Int32 := if v ≤ 0 then (if 0 ≤ v then 0 else -1) else 1
def yrO (E : Int32) (i : Nat) (r : Nat → Int32) : Int32 := if (E >>> (nI i &&& 31)) &&& 1 = 1 then maxI 1 (r (6 + 5 * i + 2) - 1) else r (6 + 5 * i + 2)
def yrS (L E b : Int32) (i : Nat) (r : Nat → Int32) : Nat → Int32 :=
  if (L >>> (nI i &&& 31)) &&& 1 = 1 then upd (upd r (6 + 5 * i + 4) (minI 9999 (r (6 + 5 * i + 4) + 1))) (6 + 5 * i + 2) (minI 20 (r (6 + 5 * i + 2) + 1))
  else upd (upd r (6 + 5 * i + 2) (yrO E i r)) (6 + 5 * i + 3) (maxI (-9) (minI 9 (r (6 + 5 * i + 3) + b)))
def yrR (s : Nat → Int32) (L E b : Int32) : Nat → Nat → Int32
  | 0 => s
  | i + 1 => yrS L E b i (yrR s L E b i)
def yearR (s : Nat → Int32) (n : Nat) : Nat → Int32 := upd (yrR s (lastS (DR s) n) (firstS (DR s) n) (sgnI (leanR s n (lastS (DR s) n))) n) 1 (s 1 + 1)
def RW (mem : Mem) (r : Nat → Int32) (m' : Mem) : Prop := m' 51 = r ∧ ∀ a, a ≠ 51 → a ≠ 60 → m' a = mem a
theorem yrS_lo (L E b : Int32) (i : Nat) (r : Nat → Int32) {j : Nat} (h : j < 6 + 5 * i + 2 ∨ 6 + 5 * i + 5 ≤ j) : yrS L E b i r j = r j := by
  unfold yrS
  split
  · simp [upd, show j ≠ 6 + 5 * i + 4 by omega, show j ≠ 6 + 5 * i + 2 by omega]
  · simp [upd, show j ≠ 6 + 5 * i + 3 by omega, show j ≠ 6 + 5 * i + 2 by omega]
theorem yrR_hi (s : Nat → Int32) (L E b : Int32) : ∀ (i : Nat) {j : Nat}, (j < 6 ∨ 6 + 5 * i ≤ j) → yrR s L E b i j = s j
  | 0, _, _ => rfl
  | i + 1, j, h => by rw [yrR, yrS_lo _ _ _ _ _ (by omega)]; exact yrR_hi s L E b i (by omega)
theorem fin_year {mem m1 : Mem} {n : Nat} {L1 E1 N1 B1 : Int32} (h : MO mem n) (hL : L1 = lastS (DM mem) n) (hE : E1 = firstS (DM mem) n) (hN : N1 = leanR (mem 51) n (lastS (DM mem) n)) (hB : B1 = sgnI N1) (h1 : m1 51 = yrR (mem 51) L1 E1 B1 n) (h2 : ∀ a, a ≠ 51 → a ≠ 60 → m1 a = mem a) : RW mem (yearR (mem 51) n) (up2 m1 51 1 (m1 51 1 + 1)) := by
  refine ⟨?_, fun a a1 a2 => by rw [up2_ne _ _ _ a1]; exact h2 a a1 a2⟩
  rw [up2_same, h1, yrR_hi _ _ _ _ _ (by omega)]
  unfold yearR
  rw [hB, hN, hL, hE]
  rfl
set_option maxHeartbeats 4000000 in
theorem c6_year {n : Nat} {mem : Mem} (h : MO mem n) : CnV mX6_year [.ref 50] mem (fun m' => RW mem (yearR (mem 51) n) m') := by
  have h8 := h.2.1
  refine Cn.of (ls := [some (.ref 50), none, none, none, none, none, none]) (by decide) rfl (Nat.le_of_ble_eq_true rfl) ?_
  refine w_aload_n (i := 0) (n' := 1) dX6_year_0 rfl rfl rfl ?_
  refine v_E (ci := 6) (n' := 4) dX6_year_1 rfl lRX6_119 okX6_lasts voX6_lasts ⟨⟨Nat.le_of_ble_eq_true rfl, Nat.le_of_ble_eq_true rfl⟩, Nat.le_of_ble_eq_true rfl, Nat.le_of_ble_eq_true rfl⟩ (c6_lasts h) rfl rfl (Nat.le_of_ble_eq_true rfl) rfl (Nat.le_of_ble_eq_true rfl) rfl ?_
  refine w_istore_n (i := 1) (n' := 5) (ls' := [_, _, _, _, _, _, _]) dX6_year_4 rfl rfl (Nat.le_of_ble_eq_true rfl) rfl rfl ?_
  refine w_aload_n (i := 0) (n' := 6) dX6_year_5 rfl rfl rfl ?_
  refine v_E (ci := 6) (n' := 9) dX6_year_6 rfl lRX6_122 okX6_firsts voX6_firsts ⟨⟨Nat.le_of_ble_eq_true rfl, Nat.le_of_ble_eq_true rfl⟩, Nat.le_of_ble_eq_true rfl, Nat.le_of_ble_eq_true rfl⟩ (c6_firsts (cd_MO h).1 h.2.1) rfl rfl (Nat.le_of_ble_eq_true rfl) rfl (Nat.le_of_ble_eq_true rfl) rfl ?_
  refine w_istore_n (i := 2) (n' := 10) (ls' := [_, _, _, _, _, _, _]) dX6_year_9 rfl rfl (Nat.le_of_ble_eq_true rfl) rfl rfl ?_
  refine w_aload_n (i := 0) (n' := 11) dX6_year_10 rfl rfl rfl ?_
  refine w_iload_n (i := 1) (n' := 12) dX6_year_11 rfl rfl rfl ?_
  refine v_E (ci := 6) (n' := 15) dX6_year_12 rfl lRX6_128 okX6_leanBy voX6_leanBy ⟨⟨Nat.le_of_ble_eq_true rfl, Nat.le_of_ble_eq_true rfl⟩, Nat.le_of_ble_eq_true rfl, Nat.le_of_ble_eq_true rfl⟩ (c6_leanBy (cd_MO h).1 h.2.1 _) rfl rfl (Nat.le_of_ble_eq_true rfl) rfl (Nat.le_of_ble_eq_true rfl) rfl ?_
  rw [cd_first]
  have e51 : cdM mem n 51 = mem 51 := cd_o _ _ (by decide)
  have eL : leanXM (cdM mem n) n (lastS (DM mem) n) = leanR (mem 51) n (lastS (DM mem) n) := by rw [leanXM_R, e51]
  rw [eL]
  obtain ⟨L1, hL1⟩ : ∃ z, z = lastS (DM mem) n := ⟨_, rfl⟩
  obtain ⟨E1, hE1⟩ : ∃ z, z = firstS (DM mem) n := ⟨_, rfl⟩
  obtain ⟨N1, hN1⟩ : ∃ z, z = leanR (mem 51) n (lastS (DM mem) n) := ⟨_, rfl⟩
  rw [← hN1, ← hL1, ← hE1]
  refine w_istore_n (i := 3) (n' := 16) (ls' := [_, _, _, _, _, _, _]) dX6_year_15 rfl rfl (Nat.le_of_ble_eq_true rfl) rfl rfl ?_
  refine w_iload_n (i := 3) (n' := 17) dX6_year_16 rfl rfl rfl ?_
  refine w_if_le (n' := 20) (tgt := 24) dX6_year_17 rfl rfl (fun h17 => ?_) (fun h17 => ?_)
  · refine w_iload_n (i := 3) (n' := 25) dX6_year_24 rfl rfl rfl ?_
    refine w_if_ge (n' := 28) (tgt := 32) dX6_year_25 rfl rfl (fun h25 => ?_) (fun h25 => ?_)
    · refine w_iconst (v := 0) (n' := 33) dX6_year_32 rfl rfl ?_
      refine w_istore (n' := 35) (ls' := [_, _, _, _, _, _, _]) dX6_year_33 rfl (Nat.le_of_ble_eq_true rfl) rfl rfl ?_
      have hB1 : (0 : Int32) = sgnI N1 := by rw [sgnI, if_pos h17, if_pos h25]
      rw [hB1]
      obtain ⟨B1, hB1⟩ : ∃ z, z = sgnI N1 := ⟨_, rfl⟩
      rw [← hB1]
      refine w_iconst (v := 0) (n' := 36) dX6_year_35 rfl rfl ?_
      refine w_istore (n' := 38) (ls' := [_, _, _, _, _, _, _]) dX6_year_36 rfl (Nat.le_of_ble_eq_true rfl) rfl rfl ?_
      have L : ∀ (i : Nat) (s : Option Value × Mem), i ≤ n → (s.2 51 = yrR (mem 51) L1 E1 B1 i ∧ ∀ a, a ≠ 51 → a ≠ 60 → s.2 a = mem a) → Wm mX6_year (zM mX6_year (fun rZ mZ => rZ = none ∧ (fun m' => RW mem (yearR (mem 51) n) m') mZ)) 38 [some (.ref 50), some (.int L1), some (.int E1), some (.int N1), some (.int B1), some (.int (nI i)), s.1] [] s.2 := by
        refine for_ind n ?_
        rintro i ⟨lx, m1⟩ hi ⟨h1, h2⟩ ih
        dsimp only at h1 h2 ih ⊢
        have hp : m1 51 0 = nI n := by rw [h1, yrR_hi _ _ _ _ _ (by omega)]; exact h.1
        have hix : ∀ j : Nat, 6 + 5 * nI i + nI j = nI (6 + 5 * i + j) := fun j => by
          rw [show (6 : Int32) = nI 6 from rfl, show (5 : Int32) = nI 5 from rfl, pk_mul, nI_add, nI_add]
        refine w_iload (n' := 40) dX6_year_38 rfl rfl ?_
        refine w_aload_n (i := 0) (n' := 41) dX6_year_40 rfl rfl rfl ?_
        refine w_get (ci := 6) (j := 0) (n' := 44) dX6_year_41 rfl fRX6_7 (Nat.le_of_ble_eq_true rfl) (Nat.le_of_ble_eq_true rfl) rfl rfl ?_
        refine w_iconst (v := 0) (n' := 45) dX6_year_44 rfl rfl ?_
        refine w_iald (n := 0) (n' := 46) dX6_year_45 rfl rfl (by decide) (by decide) ?_
        refine w_icmp_ge (n' := 49) (tgt := 205) dX6_year_46 rfl rfl (fun h46 => ?_) (fun h46 => ?_)
        · have hin : i = n := by
            rcases Nat.lt_or_ge i n with c | c
            · exact absurd h46 (by rw [hp]; exact nI_ge (b := n) c (by omega))
            · omega
          rw [hin] at h1
          refine w_aload_n (i := 0) (n' := 206) dX6_year_205 rfl rfl rfl ?_
          refine w_get (ci := 6) (j := 0) (n' := 209) dX6_year_206 rfl fRX6_7 (Nat.le_of_ble_eq_true rfl) (Nat.le_of_ble_eq_true rfl) rfl rfl ?_
          refine w_iconst (v := 1) (n' := 210) dX6_year_209 rfl rfl ?_
          refine w_dup2 (n' := 211) dX6_year_210 rfl rfl rfl ?_
          refine w_iald (n := 1) (n' := 212) dX6_year_211 rfl rfl (by decide) (by decide) ?_
          refine w_iconst (v := 1) (n' := 213) dX6_year_212 rfl rfl ?_
          refine w_iadd (n' := 214) dX6_year_213 rfl ?_
          refine w_iast (n := 1) (n' := 215) dX6_year_214 rfl rfl (by decide) (by decide) ?_
          exact w_vret dX6_year_215 rfl ⟨rfl, fin_year h hL1 hE1 hN1 hB1 h1 h2⟩
        · have hlt : i < n := by
            rcases Nat.lt_or_ge i n with c | c
            · exact c
            · exact absurd (by rw [hp]; exact nI_le (a := n) c (by omega)) h46
          have ih2 := fun (lx : Option Value) (m9 : Mem) hh => ih hlt (lx, m9) hh
          dsimp only at ih2
          refine w_bipush (v := 6) (n' := 51) dX6_year_49 rfl (by decide) ?_
          refine w_iconst (v := 5) (n' := 52) dX6_year_51 rfl rfl ?_
          refine w_iload (n' := 54) dX6_year_52 rfl rfl ?_
          refine w_imul (n' := 55) dX6_year_54 rfl ?_
          refine w_iadd (n' := 56) dX6_year_55 rfl ?_
          rw [show (6 : Int32) + 5 * nI i = nI (6 + 5 * i) from by have := hix 0; rw [show nI 0 = 0 from rfl, Int32.add_zero] at this; exact this]
          have hix : ∀ (j : Nat) (v : Int32), v = nI j → nI (6 + 5 * i) + v = nI (6 + 5 * i + j) := fun j v hv => by rw [hv, nI_add]
          refine w_istore (n' := 58) (ls' := [_, _, _, _, _, _, _]) dX6_year_56 rfl (Nat.le_of_ble_eq_true rfl) rfl rfl ?_
          refine w_iload_n (i := 1) (n' := 59) dX6_year_58 rfl rfl rfl ?_
          refine w_iload (n' := 61) dX6_year_59 rfl rfl ?_
          refine w_ishr (n' := 62) dX6_year_61 rfl ?_
          refine w_iconst (v := 1) (n' := 63) dX6_year_62 rfl rfl ?_
          refine w_iand (n' := 64) dX6_year_63 rfl ?_
          refine w_iconst (v := 1) (n' := 65) dX6_year_64 rfl rfl ?_
          refine w_icmp_ne (n' := 68) (tgt := 122) dX6_year_65 rfl rfl (fun h65 => ?_) (fun h65 => ?_)
          · refine w_aload_n (i := 0) (n' := 123) dX6_year_122 rfl rfl rfl ?_
            refine w_get (ci := 6) (j := 0) (n' := 126) dX6_year_123 rfl fRX6_7 (Nat.le_of_ble_eq_true rfl) (Nat.le_of_ble_eq_true rfl) rfl rfl ?_
            refine w_iload (n' := 128) dX6_year_126 rfl rfl ?_
            refine w_iconst (v := 2) (n' := 129) dX6_year_128 rfl rfl ?_
            refine w_iadd (n' := 130) dX6_year_129 rfl ?_
            refine w_iload_n (i := 2) (n' := 131) dX6_year_130 rfl rfl rfl ?_
            refine w_iload (n' := 133) dX6_year_131 rfl rfl ?_
            refine w_ishr (n' := 134) dX6_year_133 rfl ?_
            refine w_iconst (v := 1) (n' := 135) dX6_year_134 rfl rfl ?_
            refine w_iand (n' := 136) dX6_year_135 rfl ?_
            refine w_iconst (v := 1) (n' := 137) dX6_year_136 rfl rfl ?_
            refine w_icmp_ne (n' := 140) (tgt := 158) dX6_year_137 rfl rfl (fun h137 => ?_) (fun h137 => ?_)
            · refine w_aload_n (i := 0) (n' := 159) dX6_year_158 rfl rfl rfl ?_
              refine w_get (ci := 6) (j := 0) (n' := 162) dX6_year_159 rfl fRX6_7 (Nat.le_of_ble_eq_true rfl) (Nat.le_of_ble_eq_true rfl) rfl rfl ?_
              refine w_iload (n' := 164) dX6_year_162 rfl rfl ?_
              refine w_iconst (v := 2) (n' := 165) dX6_year_164 rfl rfl ?_
              refine w_iadd (n' := 166) dX6_year_165 rfl ?_
              refine w_iald (n := 6 + 5 * i + 2) (n' := 167) dX6_year_166 rfl rfl (hix 2 _ rfl) (show 6 + 5 * i + 2 < 56 by omega) ?_
              refine w_iast (n := 6 + 5 * i + 2) (n' := 168) dX6_year_167 rfl rfl (hix 2 _ rfl) (show 6 + 5 * i + 2 < 56 by omega) ?_
              refine w_aload_n (i := 0) (n' := 169) dX6_year_168 rfl rfl rfl ?_
              refine w_get (ci := 6) (j := 0) (n' := 172) dX6_year_169 rfl fRX6_7 (Nat.le_of_ble_eq_true rfl) (Nat.le_of_ble_eq_true rfl) rfl rfl ?_
              refine w_iload (n' := 174) dX6_year_172 rfl rfl ?_
              refine w_iconst (v := 3) (n' := 175) dX6_year_174 rfl rfl ?_
              refine w_iadd (n' := 176) dX6_year_175 rfl ?_
              refine w_bipush (v := -9) (n' := 178) dX6_year_176 rfl (by decide) ?_
              refine w_bipush (v := 9) (n' := 180) dX6_year_178 rfl (by decide) ?_
              refine w_aload_n (i := 0) (n' := 181) dX6_year_180 rfl rfl rfl ?_
              refine w_get (ci := 6) (j := 0) (n' := 184) dX6_year_181 rfl fRX6_7 (Nat.le_of_ble_eq_true rfl) (Nat.le_of_ble_eq_true rfl) rfl rfl ?_
              refine w_iload (n' := 186) dX6_year_184 rfl rfl ?_
              refine w_iconst (v := 3) (n' := 187) dX6_year_186 rfl rfl ?_
              refine w_iadd (n' := 188) dX6_year_187 rfl ?_
              refine w_iald (n := 6 + 5 * i + 3) (n' := 189) dX6_year_188 rfl rfl (hix 3 _ rfl) (show 6 + 5 * i + 3 < 56 by omega) ?_
              refine w_iload (n' := 191) dX6_year_189 rfl rfl ?_
              refine w_iadd (n' := 192) dX6_year_191 rfl ?_
              refine s_E (n' := 195) dX6_year_192 rfl lRX6_79 okX6_least stX6_least ⟨⟨Nat.le_of_ble_eq_true rfl, Nat.le_of_ble_eq_true rfl⟩, Nat.le_of_ble_eq_true rfl, Nat.le_of_ble_eq_true rfl⟩ (c6_least _ _ _) rfl rfl (Nat.le_of_ble_eq_true rfl) ?_
              refine s_E (n' := 198) dX6_year_195 rfl lRX6_73 okX6_greatest stX6_greatest ⟨⟨Nat.le_of_ble_eq_true rfl, Nat.le_of_ble_eq_true rfl⟩, Nat.le_of_ble_eq_true rfl, Nat.le_of_ble_eq_true rfl⟩ (c6_greatest _ _ _) rfl rfl (Nat.le_of_ble_eq_true rfl) ?_
              refine w_iast (n := 6 + 5 * i + 3) (n' := 199) dX6_year_198 rfl rfl (hix 3 _ rfl) (show 6 + 5 * i + 3 < 56 by omega) ?_
              refine w_iinc (n' := 202) (v := nI (i + 1)) (ls' := [_, _, _, _, _, _, _]) dX6_year_199 rfl rfl (nI_1 i) (Nat.le_of_ble_eq_true rfl) rfl rfl ?_
              refine w_goto (tgt := 38) dX6_year_202 rfl ?_
              exact ih2 _ _ ⟨by rw [yrR, ← h1, yrS, if_neg h65, yrO, if_neg h137]; simp [up2, upd], fun a a1 a2 => by rw [up2_ne _ _ _ a1, up2_ne _ _ _ a1]; exact h2 a a1 a2⟩
            · refine w_iconst (v := 1) (n' := 141) dX6_year_140 rfl rfl ?_
              refine w_aload_n (i := 0) (n' := 142) dX6_year_141 rfl rfl rfl ?_
              refine w_get (ci := 6) (j := 0) (n' := 145) dX6_year_142 rfl fRX6_7 (Nat.le_of_ble_eq_true rfl) (Nat.le_of_ble_eq_true rfl) rfl rfl ?_
              refine w_iload (n' := 147) dX6_year_145 rfl rfl ?_
              refine w_iconst (v := 2) (n' := 148) dX6_year_147 rfl rfl ?_
              refine w_iadd (n' := 149) dX6_year_148 rfl ?_
              refine w_iald (n := 6 + 5 * i + 2) (n' := 150) dX6_year_149 rfl rfl (hix 2 _ rfl) (show 6 + 5 * i + 2 < 56 by omega) ?_
              refine w_iconst (v := 1) (n' := 151) dX6_year_150 rfl rfl ?_
              refine w_isub (n' := 152) dX6_year_151 rfl ?_
              refine s_E (n' := 155) dX6_year_152 rfl lRX6_73 okX6_greatest stX6_greatest ⟨⟨Nat.le_of_ble_eq_true rfl, Nat.le_of_ble_eq_true rfl⟩, Nat.le_of_ble_eq_true rfl, Nat.le_of_ble_eq_true rfl⟩ (c6_greatest _ _ _) rfl rfl (Nat.le_of_ble_eq_true rfl) ?_
              refine w_goto (tgt := 167) dX6_year_155 rfl ?_
              refine w_iast (n := 6 + 5 * i + 2) (n' := 168) dX6_year_167 rfl rfl (hix 2 _ rfl) (show 6 + 5 * i + 2 < 56 by omega) ?_
              refine w_aload_n (i := 0) (n' := 169) dX6_year_168 rfl rfl rfl ?_
              refine w_get (ci := 6) (j := 0) (n' := 172) dX6_year_169 rfl fRX6_7 (Nat.le_of_ble_eq_true rfl) (Nat.le_of_ble_eq_true rfl) rfl rfl ?_
              refine w_iload (n' := 174) dX6_year_172 rfl rfl ?_
              refine w_iconst (v := 3) (n' := 175) dX6_year_174 rfl rfl ?_
              refine w_iadd (n' := 176) dX6_year_175 rfl ?_
              refine w_bipush (v := -9) (n' := 178) dX6_year_176 rfl (by decide) ?_
              refine w_bipush (v := 9) (n' := 180) dX6_year_178 rfl (by decide) ?_
              refine w_aload_n (i := 0) (n' := 181) dX6_year_180 rfl rfl rfl ?_
              refine w_get (ci := 6) (j := 0) (n' := 184) dX6_year_181 rfl fRX6_7 (Nat.le_of_ble_eq_true rfl) (Nat.le_of_ble_eq_true rfl) rfl rfl ?_
              refine w_iload (n' := 186) dX6_year_184 rfl rfl ?_
              refine w_iconst (v := 3) (n' := 187) dX6_year_186 rfl rfl ?_
              refine w_iadd (n' := 188) dX6_year_187 rfl ?_
              refine w_iald (n := 6 + 5 * i + 3) (n' := 189) dX6_year_188 rfl rfl (hix 3 _ rfl) (show 6 + 5 * i + 3 < 56 by omega) ?_
              refine w_iload (n' := 191) dX6_year_189 rfl rfl ?_
              refine w_iadd (n' := 192) dX6_year_191 rfl ?_
              refine s_E (n' := 195) dX6_year_192 rfl lRX6_79 okX6_least stX6_least ⟨⟨Nat.le_of_ble_eq_true rfl, Nat.le_of_ble_eq_true rfl⟩, Nat.le_of_ble_eq_true rfl, Nat.le_of_ble_eq_true rfl⟩ (c6_least _ _ _) rfl rfl (Nat.le_of_ble_eq_true rfl) ?_
              refine s_E (n' := 198) dX6_year_195 rfl lRX6_73 okX6_greatest stX6_greatest ⟨⟨Nat.le_of_ble_eq_true rfl, Nat.le_of_ble_eq_true rfl⟩, Nat.le_of_ble_eq_true rfl, Nat.le_of_ble_eq_true rfl⟩ (c6_greatest _ _ _) rfl rfl (Nat.le_of_ble_eq_true rfl) ?_
              refine w_iast (n := 6 + 5 * i + 3) (n' := 199) dX6_year_198 rfl rfl (hix 3 _ rfl) (show 6 + 5 * i + 3 < 56 by omega) ?_
              refine w_iinc (n' := 202) (v := nI (i + 1)) (ls' := [_, _, _, _, _, _, _]) dX6_year_199 rfl rfl (nI_1 i) (Nat.le_of_ble_eq_true rfl) rfl rfl ?_
              refine w_goto (tgt := 38) dX6_year_202 rfl ?_
              exact ih2 _ _ ⟨by rw [yrR, ← h1, yrS, if_neg h65, yrO, if_pos (by simpa using h137)]; simp [up2, upd], fun a a1 a2 => by rw [up2_ne _ _ _ a1, up2_ne _ _ _ a1]; exact h2 a a1 a2⟩
          · refine w_aload_n (i := 0) (n' := 69) dX6_year_68 rfl rfl rfl ?_
            refine w_get (ci := 6) (j := 0) (n' := 72) dX6_year_69 rfl fRX6_7 (Nat.le_of_ble_eq_true rfl) (Nat.le_of_ble_eq_true rfl) rfl rfl ?_
            refine w_iload (n' := 74) dX6_year_72 rfl rfl ?_
            refine w_iconst (v := 4) (n' := 75) dX6_year_74 rfl rfl ?_
            refine w_iadd (n' := 76) dX6_year_75 rfl ?_
            refine w_sipush (v := 9999) (n' := 79) dX6_year_76 rfl (by decide) ?_
            refine w_aload_n (i := 0) (n' := 80) dX6_year_79 rfl rfl rfl ?_
            refine w_get (ci := 6) (j := 0) (n' := 83) dX6_year_80 rfl fRX6_7 (Nat.le_of_ble_eq_true rfl) (Nat.le_of_ble_eq_true rfl) rfl rfl ?_
            refine w_iload (n' := 85) dX6_year_83 rfl rfl ?_
            refine w_iconst (v := 4) (n' := 86) dX6_year_85 rfl rfl ?_
            refine w_iadd (n' := 87) dX6_year_86 rfl ?_
            refine w_iald (n := 6 + 5 * i + 4) (n' := 88) dX6_year_87 rfl rfl (hix 4 _ rfl) (show 6 + 5 * i + 4 < 56 by omega) ?_
            refine w_iconst (v := 1) (n' := 89) dX6_year_88 rfl rfl ?_
            refine w_iadd (n' := 90) dX6_year_89 rfl ?_
            refine s_E (n' := 93) dX6_year_90 rfl lRX6_79 okX6_least stX6_least ⟨⟨Nat.le_of_ble_eq_true rfl, Nat.le_of_ble_eq_true rfl⟩, Nat.le_of_ble_eq_true rfl, Nat.le_of_ble_eq_true rfl⟩ (c6_least _ _ _) rfl rfl (Nat.le_of_ble_eq_true rfl) ?_
            refine w_iast (n := 6 + 5 * i + 4) (n' := 94) dX6_year_93 rfl rfl (hix 4 _ rfl) (show 6 + 5 * i + 4 < 56 by omega) ?_
            refine w_aload_n (i := 0) (n' := 95) dX6_year_94 rfl rfl rfl ?_
            refine w_get (ci := 6) (j := 0) (n' := 98) dX6_year_95 rfl fRX6_7 (Nat.le_of_ble_eq_true rfl) (Nat.le_of_ble_eq_true rfl) rfl rfl ?_
            refine w_iload (n' := 100) dX6_year_98 rfl rfl ?_
            refine w_iconst (v := 2) (n' := 101) dX6_year_100 rfl rfl ?_
            refine w_iadd (n' := 102) dX6_year_101 rfl ?_
            refine w_bipush (v := 20) (n' := 104) dX6_year_102 rfl (by decide) ?_
            refine w_aload_n (i := 0) (n' := 105) dX6_year_104 rfl rfl rfl ?_
            refine w_get (ci := 6) (j := 0) (n' := 108) dX6_year_105 rfl fRX6_7 (Nat.le_of_ble_eq_true rfl) (Nat.le_of_ble_eq_true rfl) rfl rfl ?_
            refine w_iload (n' := 110) dX6_year_108 rfl rfl ?_
            refine w_iconst (v := 2) (n' := 111) dX6_year_110 rfl rfl ?_
            refine w_iadd (n' := 112) dX6_year_111 rfl ?_
            refine w_iald (n := 6 + 5 * i + 2) (n' := 113) dX6_year_112 rfl rfl (hix 2 _ rfl) (show 6 + 5 * i + 2 < 56 by omega) ?_
            refine w_iconst (v := 1) (n' := 114) dX6_year_113 rfl rfl ?_
            refine w_iadd (n' := 115) dX6_year_114 rfl ?_
            refine s_E (n' := 118) dX6_year_115 rfl lRX6_79 okX6_least stX6_least ⟨⟨Nat.le_of_ble_eq_true rfl, Nat.le_of_ble_eq_true rfl⟩, Nat.le_of_ble_eq_true rfl, Nat.le_of_ble_eq_true rfl⟩ (c6_least _ _ _) rfl rfl (Nat.le_of_ble_eq_true rfl) ?_
            refine w_iast (n := 6 + 5 * i + 2) (n' := 119) dX6_year_118 rfl rfl (hix 2 _ rfl) (show 6 + 5 * i + 2 < 56 by omega) ?_
            refine w_goto (tgt := 199) dX6_year_119 rfl ?_
            refine w_iinc (n' := 202) (v := nI (i + 1)) (ls' := [_, _, _, _, _, _, _]) dX6_year_199 rfl rfl (nI_1 i) (Nat.le_of_ble_eq_true rfl) rfl rfl ?_
            refine w_goto (tgt := 38) dX6_year_202 rfl ?_
            exact ih2 _ _ ⟨by rw [yrR, ← h1, yrS, if_pos (by simpa using h65)]; simp [up2, upd], fun a a1 a2 => by rw [up2_ne _ _ _ a1, up2_ne _ _ _ a1]; exact h2 a a1 a2⟩
      exact L 0 (_, _) (Nat.zero_le _) ⟨e51, fun a _ a2 => cd_o _ _ a2⟩
    · refine w_iconst (v := -1) (n' := 29) dX6_year_28 rfl rfl ?_
      refine w_goto (tgt := 33) dX6_year_29 rfl ?_
      refine w_istore (n' := 35) (ls' := [_, _, _, _, _, _, _]) dX6_year_33 rfl (Nat.le_of_ble_eq_true rfl) rfl rfl ?_
      have hB1 : (-1 : Int32) = sgnI N1 := by rw [sgnI, if_pos h17, if_neg h25]
      rw [hB1]
      obtain ⟨B1, hB1⟩ : ∃ z, z = sgnI N1 := ⟨_, rfl⟩
      rw [← hB1]
      refine w_iconst (v := 0) (n' := 36) dX6_year_35 rfl rfl ?_
      refine w_istore (n' := 38) (ls' := [_, _, _, _, _, _, _]) dX6_year_36 rfl (Nat.le_of_ble_eq_true rfl) rfl rfl ?_
      have L : ∀ (i : Nat) (s : Option Value × Mem), i ≤ n → (s.2 51 = yrR (mem 51) L1 E1 B1 i ∧ ∀ a, a ≠ 51 → a ≠ 60 → s.2 a = mem a) → Wm mX6_year (zM mX6_year (fun rZ mZ => rZ = none ∧ (fun m' => RW mem (yearR (mem 51) n) m') mZ)) 38 [some (.ref 50), some (.int L1), some (.int E1), some (.int N1), some (.int B1), some (.int (nI i)), s.1] [] s.2 := by
        refine for_ind n ?_
        rintro i ⟨lx, m1⟩ hi ⟨h1, h2⟩ ih
        dsimp only at h1 h2 ih ⊢
        have hp : m1 51 0 = nI n := by rw [h1, yrR_hi _ _ _ _ _ (by omega)]; exact h.1
        have hix : ∀ j : Nat, 6 + 5 * nI i + nI j = nI (6 + 5 * i + j) := fun j => by
          rw [show (6 : Int32) = nI 6 from rfl, show (5 : Int32) = nI 5 from rfl, pk_mul, nI_add, nI_add]
        refine w_iload (n' := 40) dX6_year_38 rfl rfl ?_
        refine w_aload_n (i := 0) (n' := 41) dX6_year_40 rfl rfl rfl ?_
        refine w_get (ci := 6) (j := 0) (n' := 44) dX6_year_41 rfl fRX6_7 (Nat.le_of_ble_eq_true rfl) (Nat.le_of_ble_eq_true rfl) rfl rfl ?_
        refine w_iconst (v := 0) (n' := 45) dX6_year_44 rfl rfl ?_
        refine w_iald (n := 0) (n' := 46) dX6_year_45 rfl rfl (by decide) (by decide) ?_
        refine w_icmp_ge (n' := 49) (tgt := 205) dX6_year_46 rfl rfl (fun h46 => ?_) (fun h46 => ?_)
        · have hin : i = n := by
            rcases Nat.lt_or_ge i n with c | c
            · exact absurd h46 (by rw [hp]; exact nI_ge (b := n) c (by omega))
            · omega
          rw [hin] at h1
          refine w_aload_n (i := 0) (n' := 206) dX6_year_205 rfl rfl rfl ?_
          refine w_get (ci := 6) (j := 0) (n' := 209) dX6_year_206 rfl fRX6_7 (Nat.le_of_ble_eq_true rfl) (Nat.le_of_ble_eq_true rfl) rfl rfl ?_
          refine w_iconst (v := 1) (n' := 210) dX6_year_209 rfl rfl ?_
          refine w_dup2 (n' := 211) dX6_year_210 rfl rfl rfl ?_
          refine w_iald (n := 1) (n' := 212) dX6_year_211 rfl rfl (by decide) (by decide) ?_
          refine w_iconst (v := 1) (n' := 213) dX6_year_212 rfl rfl ?_
          refine w_iadd (n' := 214) dX6_year_213 rfl ?_
          refine w_iast (n := 1) (n' := 215) dX6_year_214 rfl rfl (by decide) (by decide) ?_
          exact w_vret dX6_year_215 rfl ⟨rfl, fin_year h hL1 hE1 hN1 hB1 h1 h2⟩
        · have hlt : i < n := by
            rcases Nat.lt_or_ge i n with c | c
            · exact c
            · exact absurd (by rw [hp]; exact nI_le (a := n) c (by omega)) h46
          have ih2 := fun (lx : Option Value) (m9 : Mem) hh => ih hlt (lx, m9) hh
          dsimp only at ih2
          refine w_bipush (v := 6) (n' := 51) dX6_year_49 rfl (by decide) ?_
          refine w_iconst (v := 5) (n' := 52) dX6_year_51 rfl rfl ?_
          refine w_iload (n' := 54) dX6_year_52 rfl rfl ?_
          refine w_imul (n' := 55) dX6_year_54 rfl ?_
          refine w_iadd (n' := 56) dX6_year_55 rfl ?_
          rw [show (6 : Int32) + 5 * nI i = nI (6 + 5 * i) from by have := hix 0; rw [show nI 0 = 0 from rfl, Int32.add_zero] at this; exact this]
          have hix : ∀ (j : Nat) (v : Int32), v = nI j → nI (6 + 5 * i) + v = nI (6 + 5 * i + j) := fun j v hv => by rw [hv, nI_add]
          refine w_istore (n' := 58) (ls' := [_, _, _, _, _, _, _]) dX6_year_56 rfl (Nat.le_of_ble_eq_true rfl) rfl rfl ?_
          refine w_iload_n (i := 1) (n' := 59) dX6_year_58 rfl rfl rfl ?_
          refine w_iload (n' := 61) dX6_year_59 rfl rfl ?_
          refine w_ishr (n' := 62) dX6_year_61 rfl ?_
          refine w_iconst (v := 1) (n' := 63) dX6_year_62 rfl rfl ?_
          refine w_iand (n' := 64) dX6_year_63 rfl ?_
          refine w_iconst (v := 1) (n' := 65) dX6_year_64 rfl rfl ?_
          refine w_icmp_ne (n' := 68) (tgt := 122) dX6_year_65 rfl rfl (fun h65 => ?_) (fun h65 => ?_)
          · refine w_aload_n (i := 0) (n' := 123) dX6_year_122 rfl rfl rfl ?_
            refine w_get (ci := 6) (j := 0) (n' := 126) dX6_year_123 rfl fRX6_7 (Nat.le_of_ble_eq_true rfl) (Nat.le_of_ble_eq_true rfl) rfl rfl ?_
            refine w_iload (n' := 128) dX6_year_126 rfl rfl ?_
            refine w_iconst (v := 2) (n' := 129) dX6_year_128 rfl rfl ?_
            refine w_iadd (n' := 130) dX6_year_129 rfl ?_
            refine w_iload_n (i := 2) (n' := 131) dX6_year_130 rfl rfl rfl ?_
            refine w_iload (n' := 133) dX6_year_131 rfl rfl ?_
            refine w_ishr (n' := 134) dX6_year_133 rfl ?_
            refine w_iconst (v := 1) (n' := 135) dX6_year_134 rfl rfl ?_
            refine w_iand (n' := 136) dX6_year_135 rfl ?_
            refine w_iconst (v := 1) (n' := 137) dX6_year_136 rfl rfl ?_
            refine w_icmp_ne (n' := 140) (tgt := 158) dX6_year_137 rfl rfl (fun h137 => ?_) (fun h137 => ?_)
            · refine w_aload_n (i := 0) (n' := 159) dX6_year_158 rfl rfl rfl ?_
              refine w_get (ci := 6) (j := 0) (n' := 162) dX6_year_159 rfl fRX6_7 (Nat.le_of_ble_eq_true rfl) (Nat.le_of_ble_eq_true rfl) rfl rfl ?_
              refine w_iload (n' := 164) dX6_year_162 rfl rfl ?_
              refine w_iconst (v := 2) (n' := 165) dX6_year_164 rfl rfl ?_
              refine w_iadd (n' := 166) dX6_year_165 rfl ?_
              refine w_iald (n := 6 + 5 * i + 2) (n' := 167) dX6_year_166 rfl rfl (hix 2 _ rfl) (show 6 + 5 * i + 2 < 56 by omega) ?_
              refine w_iast (n := 6 + 5 * i + 2) (n' := 168) dX6_year_167 rfl rfl (hix 2 _ rfl) (show 6 + 5 * i + 2 < 56 by omega) ?_
              refine w_aload_n (i := 0) (n' := 169) dX6_year_168 rfl rfl rfl ?_
              refine w_get (ci := 6) (j := 0) (n' := 172) dX6_year_169 rfl fRX6_7 (Nat.le_of_ble_eq_true rfl) (Nat.le_of_ble_eq_true rfl) rfl rfl ?_
              refine w_iload (n' := 174) dX6_year_172 rfl rfl ?_
              refine w_iconst (v := 3) (n' := 175) dX6_year_174 rfl rfl ?_
              refine w_iadd (n' := 176) dX6_year_175 rfl ?_
              refine w_bipush (v := -9) (n' := 178) dX6_year_176 rfl (by decide) ?_
              refine w_bipush (v := 9) (n' := 180) dX6_year_178 rfl (by decide) ?_
              refine w_aload_n (i := 0) (n' := 181) dX6_year_180 rfl rfl rfl ?_
              refine w_get (ci := 6) (j := 0) (n' := 184) dX6_year_181 rfl fRX6_7 (Nat.le_of_ble_eq_true rfl) (Nat.le_of_ble_eq_true rfl) rfl rfl ?_
              refine w_iload (n' := 186) dX6_year_184 rfl rfl ?_
              refine w_iconst (v := 3) (n' := 187) dX6_year_186 rfl rfl ?_
              refine w_iadd (n' := 188) dX6_year_187 rfl ?_
              refine w_iald (n := 6 + 5 * i + 3) (n' := 189) dX6_year_188 rfl rfl (hix 3 _ rfl) (show 6 + 5 * i + 3 < 56 by omega) ?_
              refine w_iload (n' := 191) dX6_year_189 rfl rfl ?_
              refine w_iadd (n' := 192) dX6_year_191 rfl ?_
              refine s_E (n' := 195) dX6_year_192 rfl lRX6_79 okX6_least stX6_least ⟨⟨Nat.le_of_ble_eq_true rfl, Nat.le_of_ble_eq_true rfl⟩, Nat.le_of_ble_eq_true rfl, Nat.le_of_ble_eq_true rfl⟩ (c6_least _ _ _) rfl rfl (Nat.le_of_ble_eq_true rfl) ?_
              refine s_E (n' := 198) dX6_year_195 rfl lRX6_73 okX6_greatest stX6_greatest ⟨⟨Nat.le_of_ble_eq_true rfl, Nat.le_of_ble_eq_true rfl⟩, Nat.le_of_ble_eq_true rfl, Nat.le_of_ble_eq_true rfl⟩ (c6_greatest _ _ _) rfl rfl (Nat.le_of_ble_eq_true rfl) ?_
              refine w_iast (n := 6 + 5 * i + 3) (n' := 199) dX6_year_198 rfl rfl (hix 3 _ rfl) (show 6 + 5 * i + 3 < 56 by omega) ?_
              refine w_iinc (n' := 202) (v := nI (i + 1)) (ls' := [_, _, _, _, _, _, _]) dX6_year_199 rfl rfl (nI_1 i) (Nat.le_of_ble_eq_true rfl) rfl rfl ?_
              refine w_goto (tgt := 38) dX6_year_202 rfl ?_
              exact ih2 _ _ ⟨by rw [yrR, ← h1, yrS, if_neg h65, yrO, if_neg h137]; simp [up2, upd], fun a a1 a2 => by rw [up2_ne _ _ _ a1, up2_ne _ _ _ a1]; exact h2 a a1 a2⟩
            · refine w_iconst (v := 1) (n' := 141) dX6_year_140 rfl rfl ?_
              refine w_aload_n (i := 0) (n' := 142) dX6_year_141 rfl rfl rfl ?_
              refine w_get (ci := 6) (j := 0) (n' := 145) dX6_year_142 rfl fRX6_7 (Nat.le_of_ble_eq_true rfl) (Nat.le_of_ble_eq_true rfl) rfl rfl ?_
              refine w_iload (n' := 147) dX6_year_145 rfl rfl ?_
              refine w_iconst (v := 2) (n' := 148) dX6_year_147 rfl rfl ?_
              refine w_iadd (n' := 149) dX6_year_148 rfl ?_
              refine w_iald (n := 6 + 5 * i + 2) (n' := 150) dX6_year_149 rfl rfl (hix 2 _ rfl) (show 6 + 5 * i + 2 < 56 by omega) ?_
              refine w_iconst (v := 1) (n' := 151) dX6_year_150 rfl rfl ?_
              refine w_isub (n' := 152) dX6_year_151 rfl ?_
              refine s_E (n' := 155) dX6_year_152 rfl lRX6_73 okX6_greatest stX6_greatest ⟨⟨Nat.le_of_ble_eq_true rfl, Nat.le_of_ble_eq_true rfl⟩, Nat.le_of_ble_eq_true rfl, Nat.le_of_ble_eq_true rfl⟩ (c6_greatest _ _ _) rfl rfl (Nat.le_of_ble_eq_true rfl) ?_
              refine w_goto (tgt := 167) dX6_year_155 rfl ?_
              refine w_iast (n := 6 + 5 * i + 2) (n' := 168) dX6_year_167 rfl rfl (hix 2 _ rfl) (show 6 + 5 * i + 2 < 56 by omega) ?_
              refine w_aload_n (i := 0) (n' := 169) dX6_year_168 rfl rfl rfl ?_
              refine w_get (ci := 6) (j := 0) (n' := 172) dX6_year_169 rfl fRX6_7 (Nat.le_of_ble_eq_true rfl) (Nat.le_of_ble_eq_true rfl) rfl rfl ?_
              refine w_iload (n' := 174) dX6_year_172 rfl rfl ?_
              refine w_iconst (v := 3) (n' := 175) dX6_year_174 rfl rfl ?_
              refine w_iadd (n' := 176) dX6_year_175 rfl ?_
              refine w_bipush (v := -9) (n' := 178) dX6_year_176 rfl (by decide) ?_
              refine w_bipush (v := 9) (n' := 180) dX6_year_178 rfl (by decide) ?_
              refine w_aload_n (i := 0) (n' := 181) dX6_year_180 rfl rfl rfl ?_
              refine w_get (ci := 6) (j := 0) (n' := 184) dX6_year_181 rfl fRX6_7 (Nat.le_of_ble_eq_true rfl) (Nat.le_of_ble_eq_true rfl) rfl rfl ?_
              refine w_iload (n' := 186) dX6_year_184 rfl rfl ?_
              refine w_iconst (v := 3) (n' := 187) dX6_year_186 rfl rfl ?_
              refine w_iadd (n' := 188) dX6_year_187 rfl ?_
              refine w_iald (n := 6 + 5 * i + 3) (n' := 189) dX6_year_188 rfl rfl (hix 3 _ rfl) (show 6 + 5 * i + 3 < 56 by omega) ?_
              refine w_iload (n' := 191) dX6_year_189 rfl rfl ?_
              refine w_iadd (n' := 192) dX6_year_191 rfl ?_
              refine s_E (n' := 195) dX6_year_192 rfl lRX6_79 okX6_least stX6_least ⟨⟨Nat.le_of_ble_eq_true rfl, Nat.le_of_ble_eq_true rfl⟩, Nat.le_of_ble_eq_true rfl, Nat.le_of_ble_eq_true rfl⟩ (c6_least _ _ _) rfl rfl (Nat.le_of_ble_eq_true rfl) ?_
              refine s_E (n' := 198) dX6_year_195 rfl lRX6_73 okX6_greatest stX6_greatest ⟨⟨Nat.le_of_ble_eq_true rfl, Nat.le_of_ble_eq_true rfl⟩, Nat.le_of_ble_eq_true rfl, Nat.le_of_ble_eq_true rfl⟩ (c6_greatest _ _ _) rfl rfl (Nat.le_of_ble_eq_true rfl) ?_
              refine w_iast (n := 6 + 5 * i + 3) (n' := 199) dX6_year_198 rfl rfl (hix 3 _ rfl) (show 6 + 5 * i + 3 < 56 by omega) ?_
              refine w_iinc (n' := 202) (v := nI (i + 1)) (ls' := [_, _, _, _, _, _, _]) dX6_year_199 rfl rfl (nI_1 i) (Nat.le_of_ble_eq_true rfl) rfl rfl ?_
              refine w_goto (tgt := 38) dX6_year_202 rfl ?_
              exact ih2 _ _ ⟨by rw [yrR, ← h1, yrS, if_neg h65, yrO, if_pos (by simpa using h137)]; simp [up2, upd], fun a a1 a2 => by rw [up2_ne _ _ _ a1, up2_ne _ _ _ a1]; exact h2 a a1 a2⟩
          · refine w_aload_n (i := 0) (n' := 69) dX6_year_68 rfl rfl rfl ?_
            refine w_get (ci := 6) (j := 0) (n' := 72) dX6_year_69 rfl fRX6_7 (Nat.le_of_ble_eq_true rfl) (Nat.le_of_ble_eq_true rfl) rfl rfl ?_
            refine w_iload (n' := 74) dX6_year_72 rfl rfl ?_
            refine w_iconst (v := 4) (n' := 75) dX6_year_74 rfl rfl ?_
            refine w_iadd (n' := 76) dX6_year_75 rfl ?_
            refine w_sipush (v := 9999) (n' := 79) dX6_year_76 rfl (by decide) ?_
            refine w_aload_n (i := 0) (n' := 80) dX6_year_79 rfl rfl rfl ?_
            refine w_get (ci := 6) (j := 0) (n' := 83) dX6_year_80 rfl fRX6_7 (Nat.le_of_ble_eq_true rfl) (Nat.le_of_ble_eq_true rfl) rfl rfl ?_
            refine w_iload (n' := 85) dX6_year_83 rfl rfl ?_
            refine w_iconst (v := 4) (n' := 86) dX6_year_85 rfl rfl ?_
            refine w_iadd (n' := 87) dX6_year_86 rfl ?_
            refine w_iald (n := 6 + 5 * i + 4) (n' := 88) dX6_year_87 rfl rfl (hix 4 _ rfl) (show 6 + 5 * i + 4 < 56 by omega) ?_
            refine w_iconst (v := 1) (n' := 89) dX6_year_88 rfl rfl ?_
            refine w_iadd (n' := 90) dX6_year_89 rfl ?_
            refine s_E (n' := 93) dX6_year_90 rfl lRX6_79 okX6_least stX6_least ⟨⟨Nat.le_of_ble_eq_true rfl, Nat.le_of_ble_eq_true rfl⟩, Nat.le_of_ble_eq_true rfl, Nat.le_of_ble_eq_true rfl⟩ (c6_least _ _ _) rfl rfl (Nat.le_of_ble_eq_true rfl) ?_
            refine w_iast (n := 6 + 5 * i + 4) (n' := 94) dX6_year_93 rfl rfl (hix 4 _ rfl) (show 6 + 5 * i + 4 < 56 by omega) ?_
            refine w_aload_n (i := 0) (n' := 95) dX6_year_94 rfl rfl rfl ?_
            refine w_get (ci := 6) (j := 0) (n' := 98) dX6_year_95 rfl fRX6_7 (Nat.le_of_ble_eq_true rfl) (Nat.le_of_ble_eq_true rfl) rfl rfl ?_
            refine w_iload (n' := 100) dX6_year_98 rfl rfl ?_
            refine w_iconst (v := 2) (n' := 101) dX6_year_100 rfl rfl ?_
            refine w_iadd (n' := 102) dX6_year_101 rfl ?_
            refine w_bipush (v := 20) (n' := 104) dX6_year_102 rfl (by decide) ?_
            refine w_aload_n (i := 0) (n' := 105) dX6_year_104 rfl rfl rfl ?_
            refine w_get (ci := 6) (j := 0) (n' := 108) dX6_year_105 rfl fRX6_7 (Nat.le_of_ble_eq_true rfl) (Nat.le_of_ble_eq_true rfl) rfl rfl ?_
            refine w_iload (n' := 110) dX6_year_108 rfl rfl ?_
            refine w_iconst (v := 2) (n' := 111) dX6_year_110 rfl rfl ?_
            refine w_iadd (n' := 112) dX6_year_111 rfl ?_
            refine w_iald (n := 6 + 5 * i + 2) (n' := 113) dX6_year_112 rfl rfl (hix 2 _ rfl) (show 6 + 5 * i + 2 < 56 by omega) ?_
            refine w_iconst (v := 1) (n' := 114) dX6_year_113 rfl rfl ?_
            refine w_iadd (n' := 115) dX6_year_114 rfl ?_
            refine s_E (n' := 118) dX6_year_115 rfl lRX6_79 okX6_least stX6_least ⟨⟨Nat.le_of_ble_eq_true rfl, Nat.le_of_ble_eq_true rfl⟩, Nat.le_of_ble_eq_true rfl, Nat.le_of_ble_eq_true rfl⟩ (c6_least _ _ _) rfl rfl (Nat.le_of_ble_eq_true rfl) ?_
            refine w_iast (n := 6 + 5 * i + 2) (n' := 119) dX6_year_118 rfl rfl (hix 2 _ rfl) (show 6 + 5 * i + 2 < 56 by omega) ?_
            refine w_goto (tgt := 199) dX6_year_119 rfl ?_
            refine w_iinc (n' := 202) (v := nI (i + 1)) (ls' := [_, _, _, _, _, _, _]) dX6_year_199 rfl rfl (nI_1 i) (Nat.le_of_ble_eq_true rfl) rfl rfl ?_
            refine w_goto (tgt := 38) dX6_year_202 rfl ?_
            exact ih2 _ _ ⟨by rw [yrR, ← h1, yrS, if_pos (by simpa using h65)]; simp [up2, upd], fun a a1 a2 => by rw [up2_ne _ _ _ a1, up2_ne _ _ _ a1]; exact h2 a a1 a2⟩
      exact L 0 (_, _) (Nat.zero_le _) ⟨e51, fun a _ a2 => cd_o _ _ a2⟩
  · refine w_iconst (v := 1) (n' := 21) dX6_year_20 rfl rfl ?_
    refine w_goto (tgt := 33) dX6_year_21 rfl ?_
    refine w_istore (n' := 35) (ls' := [_, _, _, _, _, _, _]) dX6_year_33 rfl (Nat.le_of_ble_eq_true rfl) rfl rfl ?_
    have hB1 : (1 : Int32) = sgnI N1 := by rw [sgnI, if_neg h17]
    rw [hB1]
    obtain ⟨B1, hB1⟩ : ∃ z, z = sgnI N1 := ⟨_, rfl⟩
    rw [← hB1]
    refine w_iconst (v := 0) (n' := 36) dX6_year_35 rfl rfl ?_
    refine w_istore (n' := 38) (ls' := [_, _, _, _, _, _, _]) dX6_year_36 rfl (Nat.le_of_ble_eq_true rfl) rfl rfl ?_
    have L : ∀ (i : Nat) (s : Option Value × Mem), i ≤ n → (s.2 51 = yrR (mem 51) L1 E1 B1 i ∧ ∀ a, a ≠ 51 → a ≠ 60 → s.2 a = mem a) → Wm mX6_year (zM mX6_year (fun rZ mZ => rZ = none ∧ (fun m' => RW mem (yearR (mem 51) n) m') mZ)) 38 [some (.ref 50), some (.int L1), some (.int E1), some (.int N1), some (.int B1), some (.int (nI i)), s.1] [] s.2 := by
      refine for_ind n ?_
      rintro i ⟨lx, m1⟩ hi ⟨h1, h2⟩ ih
      dsimp only at h1 h2 ih ⊢
      have hp : m1 51 0 = nI n := by rw [h1, yrR_hi _ _ _ _ _ (by omega)]; exact h.1
      have hix : ∀ j : Nat, 6 + 5 * nI i + nI j = nI (6 + 5 * i + j) := fun j => by
        rw [show (6 : Int32) = nI 6 from rfl, show (5 : Int32) = nI 5 from rfl, pk_mul, nI_add, nI_add]
      refine w_iload (n' := 40) dX6_year_38 rfl rfl ?_
      refine w_aload_n (i := 0) (n' := 41) dX6_year_40 rfl rfl rfl ?_
      refine w_get (ci := 6) (j := 0) (n' := 44) dX6_year_41 rfl fRX6_7 (Nat.le_of_ble_eq_true rfl) (Nat.le_of_ble_eq_true rfl) rfl rfl ?_
      refine w_iconst (v := 0) (n' := 45) dX6_year_44 rfl rfl ?_
      refine w_iald (n := 0) (n' := 46) dX6_year_45 rfl rfl (by decide) (by decide) ?_
      refine w_icmp_ge (n' := 49) (tgt := 205) dX6_year_46 rfl rfl (fun h46 => ?_) (fun h46 => ?_)
      · have hin : i = n := by
          rcases Nat.lt_or_ge i n with c | c
          · exact absurd h46 (by rw [hp]; exact nI_ge (b := n) c (by omega))
          · omega
        rw [hin] at h1
        refine w_aload_n (i := 0) (n' := 206) dX6_year_205 rfl rfl rfl ?_
        refine w_get (ci := 6) (j := 0) (n' := 209) dX6_year_206 rfl fRX6_7 (Nat.le_of_ble_eq_true rfl) (Nat.le_of_ble_eq_true rfl) rfl rfl ?_
        refine w_iconst (v := 1) (n' := 210) dX6_year_209 rfl rfl ?_
        refine w_dup2 (n' := 211) dX6_year_210 rfl rfl rfl ?_
        refine w_iald (n := 1) (n' := 212) dX6_year_211 rfl rfl (by decide) (by decide) ?_
        refine w_iconst (v := 1) (n' := 213) dX6_year_212 rfl rfl ?_
        refine w_iadd (n' := 214) dX6_year_213 rfl ?_
        refine w_iast (n := 1) (n' := 215) dX6_year_214 rfl rfl (by decide) (by decide) ?_
        exact w_vret dX6_year_215 rfl ⟨rfl, fin_year h hL1 hE1 hN1 hB1 h1 h2⟩
      · have hlt : i < n := by
          rcases Nat.lt_or_ge i n with c | c
          · exact c
          · exact absurd (by rw [hp]; exact nI_le (a := n) c (by omega)) h46
        have ih2 := fun (lx : Option Value) (m9 : Mem) hh => ih hlt (lx, m9) hh
        dsimp only at ih2
        refine w_bipush (v := 6) (n' := 51) dX6_year_49 rfl (by decide) ?_
        refine w_iconst (v := 5) (n' := 52) dX6_year_51 rfl rfl ?_
        refine w_iload (n' := 54) dX6_year_52 rfl rfl ?_
        refine w_imul (n' := 55) dX6_year_54 rfl ?_
        refine w_iadd (n' := 56) dX6_year_55 rfl ?_
        rw [show (6 : Int32) + 5 * nI i = nI (6 + 5 * i) from by have := hix 0; rw [show nI 0 = 0 from rfl, Int32.add_zero] at this; exact this]
        have hix : ∀ (j : Nat) (v : Int32), v = nI j → nI (6 + 5 * i) + v = nI (6 + 5 * i + j) := fun j v hv => by rw [hv, nI_add]
        refine w_istore (n' := 58) (ls' := [_, _, _, _, _, _, _]) dX6_year_56 rfl (Nat.le_of_ble_eq_true rfl) rfl rfl ?_
        refine w_iload_n (i := 1) (n' := 59) dX6_year_58 rfl rfl rfl ?_
        refine w_iload (n' := 61) dX6_year_59 rfl rfl ?_
        refine w_ishr (n' := 62) dX6_year_61 rfl ?_
        refine w_iconst (v := 1) (n' := 63) dX6_year_62 rfl rfl ?_
        refine w_iand (n' := 64) dX6_year_63 rfl ?_
        refine w_iconst (v := 1) (n' := 65) dX6_year_64 rfl rfl ?_
        refine w_icmp_ne (n' := 68) (tgt := 122) dX6_year_65 rfl rfl (fun h65 => ?_) (fun h65 => ?_)
        · refine w_aload_n (i := 0) (n' := 123) dX6_year_122 rfl rfl rfl ?_
          refine w_get (ci := 6) (j := 0) (n' := 126) dX6_year_123 rfl fRX6_7 (Nat.le_of_ble_eq_true rfl) (Nat.le_of_ble_eq_true rfl) rfl rfl ?_
          refine w_iload (n' := 128) dX6_year_126 rfl rfl ?_
          refine w_iconst (v := 2) (n' := 129) dX6_year_128 rfl rfl ?_
          refine w_iadd (n' := 130) dX6_year_129 rfl ?_
          refine w_iload_n (i := 2) (n' := 131) dX6_year_130 rfl rfl rfl ?_
          refine w_iload (n' := 133) dX6_year_131 rfl rfl ?_
          refine w_ishr (n' := 134) dX6_year_133 rfl ?_
          refine w_iconst (v := 1) (n' := 135) dX6_year_134 rfl rfl ?_
          refine w_iand (n' := 136) dX6_year_135 rfl ?_
          refine w_iconst (v := 1) (n' := 137) dX6_year_136 rfl rfl ?_
          refine w_icmp_ne (n' := 140) (tgt := 158) dX6_year_137 rfl rfl (fun h137 => ?_) (fun h137 => ?_)
          · refine w_aload_n (i := 0) (n' := 159) dX6_year_158 rfl rfl rfl ?_
            refine w_get (ci := 6) (j := 0) (n' := 162) dX6_year_159 rfl fRX6_7 (Nat.le_of_ble_eq_true rfl) (Nat.le_of_ble_eq_true rfl) rfl rfl ?_
            refine w_iload (n' := 164) dX6_year_162 rfl rfl ?_
            refine w_iconst (v := 2) (n' := 165) dX6_year_164 rfl rfl ?_
            refine w_iadd (n' := 166) dX6_year_165 rfl ?_
            refine w_iald (n := 6 + 5 * i + 2) (n' := 167) dX6_year_166 rfl rfl (hix 2 _ rfl) (show 6 + 5 * i + 2 < 56 by omega) ?_
            refine w_iast (n := 6 + 5 * i + 2) (n' := 168) dX6_year_167 rfl rfl (hix 2 _ rfl) (show 6 + 5 * i + 2 < 56 by omega) ?_
            refine w_aload_n (i := 0) (n' := 169) dX6_year_168 rfl rfl rfl ?_
            refine w_get (ci := 6) (j := 0) (n' := 172) dX6_year_169 rfl fRX6_7 (Nat.le_of_ble_eq_true rfl) (Nat.le_of_ble_eq_true rfl) rfl rfl ?_
            refine w_iload (n' := 174) dX6_year_172 rfl rfl ?_
            refine w_iconst (v := 3) (n' := 175) dX6_year_174 rfl rfl ?_
            refine w_iadd (n' := 176) dX6_year_175 rfl ?_
            refine w_bipush (v := -9) (n' := 178) dX6_year_176 rfl (by decide) ?_
            refine w_bipush (v := 9) (n' := 180) dX6_year_178 rfl (by decide) ?_
            refine w_aload_n (i := 0) (n' := 181) dX6_year_180 rfl rfl rfl ?_
            refine w_get (ci := 6) (j := 0) (n' := 184) dX6_year_181 rfl fRX6_7 (Nat.le_of_ble_eq_true rfl) (Nat.le_of_ble_eq_true rfl) rfl rfl ?_
            refine w_iload (n' := 186) dX6_year_184 rfl rfl ?_
            refine w_iconst (v := 3) (n' := 187) dX6_year_186 rfl rfl ?_
            refine w_iadd (n' := 188) dX6_year_187 rfl ?_
            refine w_iald (n := 6 + 5 * i + 3) (n' := 189) dX6_year_188 rfl rfl (hix 3 _ rfl) (show 6 + 5 * i + 3 < 56 by omega) ?_
            refine w_iload (n' := 191) dX6_year_189 rfl rfl ?_
            refine w_iadd (n' := 192) dX6_year_191 rfl ?_
            refine s_E (n' := 195) dX6_year_192 rfl lRX6_79 okX6_least stX6_least ⟨⟨Nat.le_of_ble_eq_true rfl, Nat.le_of_ble_eq_true rfl⟩, Nat.le_of_ble_eq_true rfl, Nat.le_of_ble_eq_true rfl⟩ (c6_least _ _ _) rfl rfl (Nat.le_of_ble_eq_true rfl) ?_
            refine s_E (n' := 198) dX6_year_195 rfl lRX6_73 okX6_greatest stX6_greatest ⟨⟨Nat.le_of_ble_eq_true rfl, Nat.le_of_ble_eq_true rfl⟩, Nat.le_of_ble_eq_true rfl, Nat.le_of_ble_eq_true rfl⟩ (c6_greatest _ _ _) rfl rfl (Nat.le_of_ble_eq_true rfl) ?_
            refine w_iast (n := 6 + 5 * i + 3) (n' := 199) dX6_year_198 rfl rfl (hix 3 _ rfl) (show 6 + 5 * i + 3 < 56 by omega) ?_
            refine w_iinc (n' := 202) (v := nI (i + 1)) (ls' := [_, _, _, _, _, _, _]) dX6_year_199 rfl rfl (nI_1 i) (Nat.le_of_ble_eq_true rfl) rfl rfl ?_
            refine w_goto (tgt := 38) dX6_year_202 rfl ?_
            exact ih2 _ _ ⟨by rw [yrR, ← h1, yrS, if_neg h65, yrO, if_neg h137]; simp [up2, upd], fun a a1 a2 => by rw [up2_ne _ _ _ a1, up2_ne _ _ _ a1]; exact h2 a a1 a2⟩
          · refine w_iconst (v := 1) (n' := 141) dX6_year_140 rfl rfl ?_
            refine w_aload_n (i := 0) (n' := 142) dX6_year_141 rfl rfl rfl ?_
            refine w_get (ci := 6) (j := 0) (n' := 145) dX6_year_142 rfl fRX6_7 (Nat.le_of_ble_eq_true rfl) (Nat.le_of_ble_eq_true rfl) rfl rfl ?_
            refine w_iload (n' := 147) dX6_year_145 rfl rfl ?_
            refine w_iconst (v := 2) (n' := 148) dX6_year_147 rfl rfl ?_
            refine w_iadd (n' := 149) dX6_year_148 rfl ?_
            refine w_iald (n := 6 + 5 * i + 2) (n' := 150) dX6_year_149 rfl rfl (hix 2 _ rfl) (show 6 + 5 * i + 2 < 56 by omega) ?_
            refine w_iconst (v := 1) (n' := 151) dX6_year_150 rfl rfl ?_
            refine w_isub (n' := 152) dX6_year_151 rfl ?_
            refine s_E (n' := 155) dX6_year_152 rfl lRX6_73 okX6_greatest stX6_greatest ⟨⟨Nat.le_of_ble_eq_true rfl, Nat.le_of_ble_eq_true rfl⟩, Nat.le_of_ble_eq_true rfl, Nat.le_of_ble_eq_true rfl⟩ (c6_greatest _ _ _) rfl rfl (Nat.le_of_ble_eq_true rfl) ?_
            refine w_goto (tgt := 167) dX6_year_155 rfl ?_
            refine w_iast (n := 6 + 5 * i + 2) (n' := 168) dX6_year_167 rfl rfl (hix 2 _ rfl) (show 6 + 5 * i + 2 < 56 by omega) ?_
            refine w_aload_n (i := 0) (n' := 169) dX6_year_168 rfl rfl rfl ?_
            refine w_get (ci := 6) (j := 0) (n' := 172) dX6_year_169 rfl fRX6_7 (Nat.le_of_ble_eq_true rfl) (Nat.le_of_ble_eq_true rfl) rfl rfl ?_
            refine w_iload (n' := 174) dX6_year_172 rfl rfl ?_
            refine w_iconst (v := 3) (n' := 175) dX6_year_174 rfl rfl ?_
            refine w_iadd (n' := 176) dX6_year_175 rfl ?_
            refine w_bipush (v := -9) (n' := 178) dX6_year_176 rfl (by decide) ?_
            refine w_bipush (v := 9) (n' := 180) dX6_year_178 rfl (by decide) ?_
            refine w_aload_n (i := 0) (n' := 181) dX6_year_180 rfl rfl rfl ?_
            refine w_get (ci := 6) (j := 0) (n' := 184) dX6_year_181 rfl fRX6_7 (Nat.le_of_ble_eq_true rfl) (Nat.le_of_ble_eq_true rfl) rfl rfl ?_
            refine w_iload (n' := 186) dX6_year_184 rfl rfl ?_
            refine w_iconst (v := 3) (n' := 187) dX6_year_186 rfl rfl ?_
            refine w_iadd (n' := 188) dX6_year_187 rfl ?_
            refine w_iald (n := 6 + 5 * i + 3) (n' := 189) dX6_year_188 rfl rfl (hix 3 _ rfl) (show 6 + 5 * i + 3 < 56 by omega) ?_
            refine w_iload (n' := 191) dX6_year_189 rfl rfl ?_
            refine w_iadd (n' := 192) dX6_year_191 rfl ?_
            refine s_E (n' := 195) dX6_year_192 rfl lRX6_79 okX6_least stX6_least ⟨⟨Nat.le_of_ble_eq_true rfl, Nat.le_of_ble_eq_true rfl⟩, Nat.le_of_ble_eq_true rfl, Nat.le_of_ble_eq_true rfl⟩ (c6_least _ _ _) rfl rfl (Nat.le_of_ble_eq_true rfl) ?_
            refine s_E (n' := 198) dX6_year_195 rfl lRX6_73 okX6_greatest stX6_greatest ⟨⟨Nat.le_of_ble_eq_true rfl, Nat.le_of_ble_eq_true rfl⟩, Nat.le_of_ble_eq_true rfl, Nat.le_of_ble_eq_true rfl⟩ (c6_greatest _ _ _) rfl rfl (Nat.le_of_ble_eq_true rfl) ?_
            refine w_iast (n := 6 + 5 * i + 3) (n' := 199) dX6_year_198 rfl rfl (hix 3 _ rfl) (show 6 + 5 * i + 3 < 56 by omega) ?_
            refine w_iinc (n' := 202) (v := nI (i + 1)) (ls' := [_, _, _, _, _, _, _]) dX6_year_199 rfl rfl (nI_1 i) (Nat.le_of_ble_eq_true rfl) rfl rfl ?_
            refine w_goto (tgt := 38) dX6_year_202 rfl ?_
            exact ih2 _ _ ⟨by rw [yrR, ← h1, yrS, if_neg h65, yrO, if_pos (by simpa using h137)]; simp [up2, upd], fun a a1 a2 => by rw [up2_ne _ _ _ a1, up2_ne _ _ _ a1]; exact h2 a a1 a2⟩
        · refine w_aload_n (i := 0) (n' := 69) dX6_year_68 rfl rfl rfl ?_
          refine w_get (ci := 6) (j := 0) (n' := 72) dX6_year_69 rfl fRX6_7 (Nat.le_of_ble_eq_true rfl) (Nat.le_of_ble_eq_true rfl) rfl rfl ?_
          refine w_iload (n' := 74) dX6_year_72 rfl rfl ?_
          refine w_iconst (v := 4) (n' := 75) dX6_year_74 rfl rfl ?_
          refine w_iadd (n' := 76) dX6_year_75 rfl ?_
          refine w_sipush (v := 9999) (n' := 79) dX6_year_76 rfl (by decide) ?_
          refine w_aload_n (i := 0) (n' := 80) dX6_year_79 rfl rfl rfl ?_
          refine w_get (ci := 6) (j := 0) (n' := 83) dX6_year_80 rfl fRX6_7 (Nat.le_of_ble_eq_true rfl) (Nat.le_of_ble_eq_true rfl) rfl rfl ?_
          refine w_iload (n' := 85) dX6_year_83 rfl rfl ?_
          refine w_iconst (v := 4) (n' := 86) dX6_year_85 rfl rfl ?_
          refine w_iadd (n' := 87) dX6_year_86 rfl ?_
          refine w_iald (n := 6 + 5 * i + 4) (n' := 88) dX6_year_87 rfl rfl (hix 4 _ rfl) (show 6 + 5 * i + 4 < 56 by omega) ?_
          refine w_iconst (v := 1) (n' := 89) dX6_year_88 rfl rfl ?_
          refine w_iadd (n' := 90) dX6_year_89 rfl ?_
          refine s_E (n' := 93) dX6_year_90 rfl lRX6_79 okX6_least stX6_least ⟨⟨Nat.le_of_ble_eq_true rfl, Nat.le_of_ble_eq_true rfl⟩, Nat.le_of_ble_eq_true rfl, Nat.le_of_ble_eq_true rfl⟩ (c6_least _ _ _) rfl rfl (Nat.le_of_ble_eq_true rfl) ?_
          refine w_iast (n := 6 + 5 * i + 4) (n' := 94) dX6_year_93 rfl rfl (hix 4 _ rfl) (show 6 + 5 * i + 4 < 56 by omega) ?_
          refine w_aload_n (i := 0) (n' := 95) dX6_year_94 rfl rfl rfl ?_
          refine w_get (ci := 6) (j := 0) (n' := 98) dX6_year_95 rfl fRX6_7 (Nat.le_of_ble_eq_true rfl) (Nat.le_of_ble_eq_true rfl) rfl rfl ?_
          refine w_iload (n' := 100) dX6_year_98 rfl rfl ?_
          refine w_iconst (v := 2) (n' := 101) dX6_year_100 rfl rfl ?_
          refine w_iadd (n' := 102) dX6_year_101 rfl ?_
          refine w_bipush (v := 20) (n' := 104) dX6_year_102 rfl (by decide) ?_
          refine w_aload_n (i := 0) (n' := 105) dX6_year_104 rfl rfl rfl ?_
          refine w_get (ci := 6) (j := 0) (n' := 108) dX6_year_105 rfl fRX6_7 (Nat.le_of_ble_eq_true rfl) (Nat.le_of_ble_eq_true rfl) rfl rfl ?_
          refine w_iload (n' := 110) dX6_year_108 rfl rfl ?_
          refine w_iconst (v := 2) (n' := 111) dX6_year_110 rfl rfl ?_
          refine w_iadd (n' := 112) dX6_year_111 rfl ?_
          refine w_iald (n := 6 + 5 * i + 2) (n' := 113) dX6_year_112 rfl rfl (hix 2 _ rfl) (show 6 + 5 * i + 2 < 56 by omega) ?_
          refine w_iconst (v := 1) (n' := 114) dX6_year_113 rfl rfl ?_
          refine w_iadd (n' := 115) dX6_year_114 rfl ?_
          refine s_E (n' := 118) dX6_year_115 rfl lRX6_79 okX6_least stX6_least ⟨⟨Nat.le_of_ble_eq_true rfl, Nat.le_of_ble_eq_true rfl⟩, Nat.le_of_ble_eq_true rfl, Nat.le_of_ble_eq_true rfl⟩ (c6_least _ _ _) rfl rfl (Nat.le_of_ble_eq_true rfl) ?_
          refine w_iast (n := 6 + 5 * i + 2) (n' := 119) dX6_year_118 rfl rfl (hix 2 _ rfl) (show 6 + 5 * i + 2 < 56 by omega) ?_
          refine w_goto (tgt := 199) dX6_year_119 rfl ?_
          refine w_iinc (n' := 202) (v := nI (i + 1)) (ls' := [_, _, _, _, _, _, _]) dX6_year_199 rfl rfl (nI_1 i) (Nat.le_of_ble_eq_true rfl) rfl rfl ?_
          refine w_goto (tgt := 38) dX6_year_202 rfl ?_
          exact ih2 _ _ ⟨by rw [yrR, ← h1, yrS, if_pos (by simpa using h65)]; simp [up2, upd], fun a a1 a2 => by rw [up2_ne _ _ _ a1, up2_ne _ _ _ a1]; exact h2 a a1 a2⟩
    exact L 0 (_, _) (Nat.zero_le _) ⟨e51, fun a _ a2 => cd_o _ _ a2⟩
