/-! the class: texts of the class file -/
section TSTR
variable {M M' : MT} {Z : ZT} {pc n' idx n : Nat} {ls : List (Option Value)} {st rest as : List Value} {mem : Mem}
theorem t_E {i : Nat} {r : Option Value} {m2 : Mem} (hi : i < 12) (hc : M'.1.cls = "java/lang/String") (hd : decode M.2.1 pc = .ok (.invokevirtual idx, 3)) (hn : pc + 3 = n') (hL : Cond.methodLink M.1.cls idx M'.1 ∈ tb) (hM : MOK M' n) (hV : VOK M') (hR : Rok Z M') (hC : CnE M' (.ref (200 + i) :: as) mem r m2) (hlen : as.length = n) (hsk : st = as.reverse ++ .ref (200 + i) :: rest) (hcat : (rest.map fun v => v.category).sum ≤ 8) (k : Wm M Z n' ls (r.toList ++ rest) m2) : Wm M Z pc ls st mem :=
  w_callT hi hc hd hn hL hM hV hR hlen hcat hsk hC (fun r' m' h => by obtain ⟨rfl, rfl⟩ := h; exact k)
end TSTR
theorem shr0 : ∀ i, i < 12 → nI (strN.getD i 0) >>> ((0 : Int32) &&& 31) = nI (strN.getD i 0) := by decide +kernel
theorem str_le : ∀ i, i < 12 → strN.getD i 0 ≤ 7 := by decide +kernel
theorem ch_tab : ∀ i, i < 12 → ∀ j, j < 7 → j < strN.getD i 0 → (((strB.getD i []).getD j 0 &&& 255).toUInt32 % 65536).toInt32 = (strB.getD i []).getD j 0 ∧ narrow .char (.int ((strB.getD i []).getD j 0)) = .int ((strB.getD i []).getD j 0) := by
  intro i hi j hj hl
  have h1 : ∀ i, i < 12 → ∀ j, j < 7 → j < strN.getD i 0 → (((strB.getD i []).getD j 0 &&& 255).toUInt32 % 65536).toInt32 = (strB.getD i []).getD j 0 := by decide +kernel
  have h2 : ∀ i, i < 12 → ∀ j, j < 7 → j < strN.getD i 0 → ∃ z, z < 128 ∧ (strB.getD i []).getD j 0 = nI z := by decide +kernel
  refine ⟨h1 i hi j hj hl, ?_⟩
  obtain ⟨z, hz, e⟩ := h2 i hi j hj hl
  have h3 : ∀ z, z < 128 → ((nI z).toUInt32 % 65536).toInt32 = nI z := by decide +kernel
  rw [e]
  show Value.int ((nI z).toUInt32 % 65536).toInt32 = _
  rw [h3 z hz]
set_option maxHeartbeats 4000000 in
theorem c_coder {i : Nat} (hi : i < 12) (mem : Mem) : CnE mJ0_coder_7d493 [.ref (200 + i)] mem (some (.int 0)) mem := by
  refine Cn.of (ls := [some (.ref (200 + i))]) (by decide) rfl (Nat.le_of_ble_eq_true rfl) ?_
  refine w_getsZ (n' := 3) dJ0_coder_7d493_0 rfl fRJ0_38 ?_
  refine w_if_eq (n' := 6) (tgt := 13) dJ0_coder_7d493_3 rfl rfl (fun h3 => absurd h3 (by decide)) (fun h3 => ?_)
  refine w_aload_n (i := 0) (n' := 7) dJ0_coder_7d493_6 rfl rfl rfl ?_
  refine w_strC (i := i) (n' := 10) dJ0_coder_7d493_7 rfl fRJ0_15 hi ?_
  refine w_goto (tgt := 14) dJ0_coder_7d493_10 rfl ?_
  exact w_zret dJ0_coder_7d493_14 rfl rfl ⟨rfl, rfl⟩
set_option maxHeartbeats 4000000 in
theorem c_length {i : Nat} (hi : i < 12) (mem : Mem) : CnE mJ0_length_8abf5 [.ref (200 + i)] mem (some (.int (nI (strN.getD i 0)))) mem := by
  refine Cn.of (ls := [some (.ref (200 + i))]) (by decide) rfl (Nat.le_of_ble_eq_true rfl) ?_
  refine w_aload_n (i := 0) (n' := 1) dJ0_length_8abf5_0 rfl rfl rfl ?_
  refine w_strV (i := i) (n' := 4) dJ0_length_8abf5_1 rfl fRJ0_9 hi ?_
  refine w_alenB (i := i) (n := _) (n' := 5) dJ0_length_8abf5_4 rfl hi rfl ?_
  refine w_aload_n (i := 0) (n' := 6) dJ0_length_8abf5_5 rfl rfl rfl ?_
  refine t_E (i := i) (n' := 9) hi rfl dJ0_length_8abf5_6 rfl lRJ0_335 okJ0_coder_7d493 voJ0_coder_7d493 ⟨⟨Nat.le_of_ble_eq_true rfl, Nat.le_of_ble_eq_true rfl⟩, Nat.le_of_ble_eq_true rfl, Nat.le_of_ble_eq_true rfl⟩ (c_coder hi _) rfl rfl (Nat.le_of_ble_eq_true rfl) ?_
  refine w_ishr (n' := 10) dJ0_length_8abf5_9 rfl ?_
  rw [shr0 i hi]
  exact w_iret dJ0_length_8abf5_10 rfl ⟨rfl, rfl⟩
set_option maxHeartbeats 4000000 in
theorem c_isLatin1 {i : Nat} (hi : i < 12) (mem : Mem) : CnE mJ0_isLatin1_aae02 [.ref (200 + i)] mem (some (.int 1)) mem := by
  refine Cn.of (ls := [some (.ref (200 + i))]) (by decide) rfl (Nat.le_of_ble_eq_true rfl) ?_
  refine w_getsZ (n' := 3) dJ0_isLatin1_aae02_0 rfl fRJ0_38 ?_
  refine w_if_eq (n' := 6) (tgt := 17) dJ0_isLatin1_aae02_3 rfl rfl (fun h3 => absurd h3 (by decide)) (fun h3 => ?_)
  refine w_aload_n (i := 0) (n' := 7) dJ0_isLatin1_aae02_6 rfl rfl rfl ?_
  refine w_strC (i := i) (n' := 10) dJ0_isLatin1_aae02_7 rfl fRJ0_15 hi ?_
  refine w_if_ne (n' := 13) (tgt := 17) dJ0_isLatin1_aae02_10 rfl rfl (fun h10 => absurd rfl h10) (fun h10 => ?_)
  refine w_iconst (v := 1) (n' := 14) dJ0_isLatin1_aae02_13 rfl rfl ?_
  refine w_goto (tgt := 18) dJ0_isLatin1_aae02_14 rfl ?_
  exact w_zret dJ0_isLatin1_aae02_18 rfl rfl ⟨rfl, rfl⟩
set_option maxHeartbeats 4000000 in
theorem c_preN {a b : Nat} (h : a < b) (hb : b < 1000) (mem : Mem) : CnE mJ3_checkIndex_8e157 [.int (nI a), .int (nI b), .null] mem (some (.int (nI a))) mem := by
  refine Cn.of (ls := [some (.int (nI a)), some (.int (nI b)), some (.null)]) (by decide) rfl (Nat.le_of_ble_eq_true rfl) ?_
  refine w_iload_n (i := 0) (n' := 1) dJ3_checkIndex_8e157_0 rfl rfl rfl ?_
  refine w_if_lt (n' := 4) (tgt := 9) dJ3_checkIndex_8e157_1 rfl rfl (fun h1 => absurd h1 (nI_pos (by omega))) (fun h1 => ?_)
  refine w_iload_n (i := 0) (n' := 5) dJ3_checkIndex_8e157_4 rfl rfl rfl ?_
  refine w_iload_n (i := 1) (n' := 6) dJ3_checkIndex_8e157_5 rfl rfl rfl ?_
  refine w_icmp_lt (n' := 9) (tgt := 16) dJ3_checkIndex_8e157_6 rfl rfl (fun h6 => ?_) (fun h6 => absurd (nI_lt h (by omega)) h6)
  refine w_iload_n (i := 0) (n' := 17) dJ3_checkIndex_8e157_16 rfl rfl rfl ?_
  exact w_iret dJ3_checkIndex_8e157_17 rfl ⟨rfl, rfl⟩
set_option maxHeartbeats 4000000 in
theorem c_preR {a b : Nat} (h : a < b) (hb : b < 1000) (mem : Mem) : CnE mJ3_checkIndex_8e157 [.int (nI a), .int (nI b), .ref 999] mem (some (.int (nI a))) mem := by
  refine Cn.of (ls := [some (.int (nI a)), some (.int (nI b)), some (.ref 999)]) (by decide) rfl (Nat.le_of_ble_eq_true rfl) ?_
  refine w_iload_n (i := 0) (n' := 1) dJ3_checkIndex_8e157_0 rfl rfl rfl ?_
  refine w_if_lt (n' := 4) (tgt := 9) dJ3_checkIndex_8e157_1 rfl rfl (fun h1 => absurd h1 (nI_pos (by omega))) (fun h1 => ?_)
  refine w_iload_n (i := 0) (n' := 5) dJ3_checkIndex_8e157_4 rfl rfl rfl ?_
  refine w_iload_n (i := 1) (n' := 6) dJ3_checkIndex_8e157_5 rfl rfl rfl ?_
  refine w_icmp_lt (n' := 9) (tgt := 16) dJ3_checkIndex_8e157_6 rfl rfl (fun h6 => ?_) (fun h6 => absurd (nI_lt h (by omega)) h6)
  refine w_iload_n (i := 0) (n' := 17) dJ3_checkIndex_8e157_16 rfl rfl rfl ?_
  exact w_iret dJ3_checkIndex_8e157_17 rfl ⟨rfl, rfl⟩
theorem c_pre {a b : Nat} (h : a < b) (hb : b < 1000) {v : Value} (hv : v = .null ∨ v = .ref 999) (mem : Mem) : CnE mJ3_checkIndex_8e157 [.int (nI a), .int (nI b), v] mem (some (.int (nI a))) mem := by
  rcases hv with rfl | rfl
  · exact c_preN h hb mem
  · exact c_preR h hb mem
set_option maxHeartbeats 4000000 in
theorem c_strCheck {a b : Nat} (h : a < b) (hb : b < 1000) (mem : Mem) : CnE mJ0_checkIndex_df160 [.int (nI a), .int (nI b)] mem none mem := by
  refine Cn.of (ls := [some (.int (nI a)), some (.int (nI b))]) (by decide) rfl (Nat.le_of_ble_eq_true rfl) ?_
  refine w_iload_n (i := 0) (n' := 1) dJ0_checkIndex_df160_0 rfl rfl rfl ?_
  refine w_iload_n (i := 1) (n' := 2) dJ0_checkIndex_df160_1 rfl rfl rfl ?_
  refine w_getsQ (n' := 5) dJ0_checkIndex_df160_2 rfl fRJ0_1053 (fun vq hvq => ?_)
  refine s_E (n' := 8) dJ0_checkIndex_df160_5 rfl lRJ0_1059 okJ3_checkIndex_8e157 stJ3_checkIndex_8e157 ⟨⟨Nat.le_of_ble_eq_true rfl, Nat.le_of_ble_eq_true rfl⟩, Nat.le_of_ble_eq_true rfl, Nat.le_of_ble_eq_true rfl⟩ (c_pre h hb hvq _) rfl rfl (Nat.le_of_ble_eq_true rfl) ?_
  refine w_pop (n' := 9) dJ0_checkIndex_df160_8 rfl rfl ?_
  exact w_vret dJ0_checkIndex_df160_9 rfl ⟨rfl, rfl⟩
set_option maxHeartbeats 4000000 in
theorem c_latin {i j : Nat} (hi : i < 12) (hj : j < strN.getD i 0) (mem : Mem) : CnE mJ1_charAt_3b067 [.ref (300 + i), .int (nI j)] mem (some (.int ((strB.getD i []).getD j 0))) mem := by
  have h7 := str_le i hi
  refine Cn.of (ls := [some (.ref (300 + i)), some (.int (nI j))]) (by decide) rfl (Nat.le_of_ble_eq_true rfl) ?_
  refine w_iload_n (i := 1) (n' := 1) dJ1_charAt_3b067_0 rfl rfl rfl ?_
  refine w_aload_n (i := 0) (n' := 2) dJ1_charAt_3b067_1 rfl rfl rfl ?_
  refine w_alenB (i := i) (n := _) (n' := 3) dJ1_charAt_3b067_2 rfl hi rfl ?_
  refine s_E (n' := 6) dJ1_charAt_3b067_3 rfl lRJ1_9 okJ0_checkIndex_df160 stJ0_checkIndex_df160 ⟨⟨Nat.le_of_ble_eq_true rfl, Nat.le_of_ble_eq_true rfl⟩, Nat.le_of_ble_eq_true rfl, Nat.le_of_ble_eq_true rfl⟩ (c_strCheck hj (by omega) _) rfl rfl (Nat.le_of_ble_eq_true rfl) ?_
  refine w_aload_n (i := 0) (n' := 7) dJ1_charAt_3b067_6 rfl rfl rfl ?_
  refine w_iload_n (i := 1) (n' := 8) dJ1_charAt_3b067_7 rfl rfl rfl ?_
  refine w_baldS (i := i) (n := j) (n' := 9) dJ1_charAt_3b067_8 rfl hi rfl hj ?_
  refine w_sipush (v := 255) (n' := 12) dJ1_charAt_3b067_9 rfl (by decide) ?_
  refine w_iand (n' := 13) dJ1_charAt_3b067_12 rfl ?_
  refine w_i2c (v := (strB.getD i []).getD j 0) (n' := 14) dJ1_charAt_3b067_13 rfl (ch_tab i hi j (by omega) hj).1 ?_
  exact w_zret dJ1_charAt_3b067_14 rfl (ch_tab i hi j (by omega) hj).2 ⟨rfl, rfl⟩
set_option maxHeartbeats 4000000 in
theorem c_charAt {i j : Nat} (hi : i < 12) (hj : j < strN.getD i 0) (mem : Mem) : CnE mJ0_charAt_5068e [.ref (200 + i), .int (nI j)] mem (some (.int ((strB.getD i []).getD j 0))) mem := by
  have h7 := str_le i hi
  refine Cn.of (ls := [some (.ref (200 + i)), some (.int (nI j))]) (by decide) rfl (Nat.le_of_ble_eq_true rfl) ?_
  refine w_aload_n (i := 0) (n' := 1) dJ0_charAt_5068e_0 rfl rfl rfl ?_
  refine t_E (i := i) (n' := 4) hi rfl dJ0_charAt_5068e_1 rfl lRJ0_492 okJ0_isLatin1_aae02 voJ0_isLatin1_aae02 ⟨⟨Nat.le_of_ble_eq_true rfl, Nat.le_of_ble_eq_true rfl⟩, Nat.le_of_ble_eq_true rfl, Nat.le_of_ble_eq_true rfl⟩ (c_isLatin1 hi _) rfl rfl (Nat.le_of_ble_eq_true rfl) ?_
  refine w_if_eq (n' := 7) (tgt := 16) dJ0_charAt_5068e_4 rfl rfl (fun h4 => absurd h4 (by decide)) (fun h4 => ?_)
  refine w_aload_n (i := 0) (n' := 8) dJ0_charAt_5068e_7 rfl rfl rfl ?_
  refine w_strV (i := i) (n' := 11) dJ0_charAt_5068e_8 rfl fRJ0_9 hi ?_
  refine w_iload_n (i := 1) (n' := 12) dJ0_charAt_5068e_11 rfl rfl rfl ?_
  refine s_E (n' := 15) dJ0_charAt_5068e_12 rfl lRJ0_495 okJ1_charAt_3b067 stJ1_charAt_3b067 ⟨⟨Nat.le_of_ble_eq_true rfl, Nat.le_of_ble_eq_true rfl⟩, Nat.le_of_ble_eq_true rfl, Nat.le_of_ble_eq_true rfl⟩ (c_latin hi hj _) rfl rfl (Nat.le_of_ble_eq_true rfl) ?_
  exact w_zret dJ0_charAt_5068e_15 rfl (ch_tab i hi j (by omega) hj).2 ⟨rfl, rfl⟩
set_option maxHeartbeats 4000000 in
theorem c_wk0 (mem : Mem) : CnE mX4_wordOfKind [.int 0] mem (some (.ref 200)) mem := by
  refine Cn.of (ls := [some (.int 0)]) (by decide) rfl (Nat.le_of_ble_eq_true rfl) ?_
  refine w_iload_n (i := 0) (n' := 1) dX4_wordOfKind_0 rfl rfl rfl ?_
  refine w_tableIn (tgt := 40) dX4_wordOfKind_1 (by decide) (by decide) rfl rfl ?_
  refine w_ldcS (i := 0) (n' := 42) dX4_wordOfKind_40 rfl (Nat.le_of_ble_eq_true rfl) rfl rfl ?_
  exact w_aret dX4_wordOfKind_42 rfl ⟨rfl, rfl⟩
set_option maxHeartbeats 4000000 in
theorem c_wk1 (mem : Mem) : CnE mX4_wordOfKind [.int 1] mem (some (.ref 201)) mem := by
  refine Cn.of (ls := [some (.int 1)]) (by decide) rfl (Nat.le_of_ble_eq_true rfl) ?_
  refine w_iload_n (i := 0) (n' := 1) dX4_wordOfKind_0 rfl rfl rfl ?_
  refine w_tableIn (tgt := 43) dX4_wordOfKind_1 (by decide) (by decide) rfl rfl ?_
  refine w_ldcS (i := 1) (n' := 45) dX4_wordOfKind_43 rfl (Nat.le_of_ble_eq_true rfl) rfl rfl ?_
  exact w_aret dX4_wordOfKind_45 rfl ⟨rfl, rfl⟩
set_option maxHeartbeats 4000000 in
theorem c_wk2 (mem : Mem) : CnE mX4_wordOfKind [.int 2] mem (some (.ref 202)) mem := by
  refine Cn.of (ls := [some (.int 2)]) (by decide) rfl (Nat.le_of_ble_eq_true rfl) ?_
  refine w_iload_n (i := 0) (n' := 1) dX4_wordOfKind_0 rfl rfl rfl ?_
  refine w_tableIn (tgt := 46) dX4_wordOfKind_1 (by decide) (by decide) rfl rfl ?_
  refine w_ldcS (i := 2) (n' := 48) dX4_wordOfKind_46 rfl (Nat.le_of_ble_eq_true rfl) rfl rfl ?_
  exact w_aret dX4_wordOfKind_48 rfl ⟨rfl, rfl⟩
set_option maxHeartbeats 4000000 in
theorem c_wk3 (mem : Mem) : CnE mX4_wordOfKind [.int 3] mem (some (.ref 203)) mem := by
  refine Cn.of (ls := [some (.int 3)]) (by decide) rfl (Nat.le_of_ble_eq_true rfl) ?_
  refine w_iload_n (i := 0) (n' := 1) dX4_wordOfKind_0 rfl rfl rfl ?_
  refine w_tableIn (tgt := 49) dX4_wordOfKind_1 (by decide) (by decide) rfl rfl ?_
  refine w_ldcS (i := 3) (n' := 51) dX4_wordOfKind_49 rfl (Nat.le_of_ble_eq_true rfl) rfl rfl ?_
  exact w_aret dX4_wordOfKind_51 rfl ⟨rfl, rfl⟩
set_option maxHeartbeats 4000000 in
theorem c_wk4 (mem : Mem) : CnE mX4_wordOfKind [.int 4] mem (some (.ref 204)) mem := by
  refine Cn.of (ls := [some (.int 4)]) (by decide) rfl (Nat.le_of_ble_eq_true rfl) ?_
  refine w_iload_n (i := 0) (n' := 1) dX4_wordOfKind_0 rfl rfl rfl ?_
  refine w_tableIn (tgt := 52) dX4_wordOfKind_1 (by decide) (by decide) rfl rfl ?_
  refine w_ldcS (i := 4) (n' := 54) dX4_wordOfKind_52 rfl (Nat.le_of_ble_eq_true rfl) rfl rfl ?_
  exact w_aret dX4_wordOfKind_54 rfl ⟨rfl, rfl⟩
set_option maxHeartbeats 4000000 in
theorem c_wk5 (mem : Mem) : CnE mX4_wordOfKind [.int 5] mem (some (.ref 205)) mem := by
  refine Cn.of (ls := [some (.int 5)]) (by decide) rfl (Nat.le_of_ble_eq_true rfl) ?_
  refine w_iload_n (i := 0) (n' := 1) dX4_wordOfKind_0 rfl rfl rfl ?_
  refine w_tableIn (tgt := 55) dX4_wordOfKind_1 (by decide) (by decide) rfl rfl ?_
  refine w_ldcS (i := 5) (n' := 57) dX4_wordOfKind_55 rfl (Nat.le_of_ble_eq_true rfl) rfl rfl ?_
  exact w_aret dX4_wordOfKind_57 rfl ⟨rfl, rfl⟩
set_option maxHeartbeats 4000000 in
theorem c_wk6 (mem : Mem) : CnE mX4_wordOfKind [.int 6] mem (some (.ref 206)) mem := by
  refine Cn.of (ls := [some (.int 6)]) (by decide) rfl (Nat.le_of_ble_eq_true rfl) ?_
  refine w_iload_n (i := 0) (n' := 1) dX4_wordOfKind_0 rfl rfl rfl ?_
  refine w_tableOut (tgt := 58) dX4_wordOfKind_1 (Or.inr (by decide)) rfl ?_
  refine w_ldcS (i := 6) (n' := 60) dX4_wordOfKind_58 rfl (Nat.le_of_ble_eq_true rfl) rfl rfl ?_
  exact w_aret dX4_wordOfKind_60 rfl ⟨rfl, rfl⟩
set_option maxHeartbeats 4000000 in
theorem c_ww0 (mem : Mem) : CnE mX4_wordOfWeather [.int 0] mem (some (.ref 209)) mem := by
  refine Cn.of (ls := [some (.int 0)]) (by decide) rfl (Nat.le_of_ble_eq_true rfl) ?_
  refine w_iload_n (i := 0) (n' := 1) dX4_wordOfWeather_0 rfl rfl rfl ?_
  refine w_lookup (off := 27) (tgt := 28) dX4_wordOfWeather_1 (by decide) (by decide) rfl ?_
  refine w_ldcS (i := 9) (n' := 30) dX4_wordOfWeather_28 rfl (Nat.le_of_ble_eq_true rfl) rfl rfl ?_
  exact w_aret dX4_wordOfWeather_30 rfl ⟨rfl, rfl⟩
set_option maxHeartbeats 4000000 in
theorem c_ww1 (mem : Mem) : CnE mX4_wordOfWeather [.int 1] mem (some (.ref 210)) mem := by
  refine Cn.of (ls := [some (.int 1)]) (by decide) rfl (Nat.le_of_ble_eq_true rfl) ?_
  refine w_iload_n (i := 0) (n' := 1) dX4_wordOfWeather_0 rfl rfl rfl ?_
  refine w_lookup (off := 30) (tgt := 31) dX4_wordOfWeather_1 (by decide) (by decide) rfl ?_
  refine w_ldcS (i := 10) (n' := 33) dX4_wordOfWeather_31 rfl (Nat.le_of_ble_eq_true rfl) rfl rfl ?_
  exact w_aret dX4_wordOfWeather_33 rfl ⟨rfl, rfl⟩
set_option maxHeartbeats 4000000 in
theorem c_ww2 (mem : Mem) : CnE mX4_wordOfWeather [.int 2] mem (some (.ref 211)) mem := by
  refine Cn.of (ls := [some (.int 2)]) (by decide) rfl (Nat.le_of_ble_eq_true rfl) ?_
  refine w_iload_n (i := 0) (n' := 1) dX4_wordOfWeather_0 rfl rfl rfl ?_
  refine w_lookup (off := 33) (tgt := 34) dX4_wordOfWeather_1 (by decide) (by decide) rfl ?_
  refine w_ldcS (i := 11) (n' := 36) dX4_wordOfWeather_34 rfl (Nat.le_of_ble_eq_true rfl) rfl rfl ?_
  exact w_aret dX4_wordOfWeather_36 rfl ⟨rfl, rfl⟩
theorem c_wordOfKind : ∀ (k : Nat), k < 7 → ∀ mem : Mem, CnE mX4_wordOfKind [.int (nI k)] mem (some (.ref (200 + k))) mem
  | 0, _, mem => c_wk0 mem
  | 1, _, mem => c_wk1 mem
  | 2, _, mem => c_wk2 mem
  | 3, _, mem => c_wk3 mem
  | 4, _, mem => c_wk4 mem
  | 5, _, mem => c_wk5 mem
  | 6, _, mem => c_wk6 mem
theorem c_wordOfWeather : ∀ (k : Nat), k < 3 → ∀ mem : Mem, CnE mX4_wordOfWeather [.int (nI k)] mem (some (.ref (200 + (9 + k)))) mem
  | 0, _, mem => c_ww0 mem
  | 1, _, mem => c_ww1 mem
  | 2, _, mem => c_ww2 mem
