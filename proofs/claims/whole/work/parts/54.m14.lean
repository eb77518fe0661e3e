/-! the reference: the next token -/
theorem le_lt {m : Mem} {T p : Nat} (h : leT (BT m T p) = true) : p < T := by
  rcases Nat.lt_or_ge p T with q | q
  · exact q
  · rw [BT_no q] at h
    exact absurd h (by decide)
theorem e1_le {m : Mem} {T f : Nat} (hf : f ≤ T) (K : Int32) : (if K = 1 then endN leT (BT m T) T f else f) ≤ T := by
  by_cases q : K = 1
  · rw [if_pos q]; exact (endN_le _ _ hf).2
  · rw [if_neg q]; exact hf
theorem dg_lt {m : Mem} {T p : Nat} (h : dgT (BT m T p) = true) : p < T := by
  rcases Nat.lt_or_ge p T with q | q
  · exact q
  · rw [BT_no q] at h
    exact absurd h (by decide)
theorem sp_lt {m : Mem} {T p : Nat} (h : BT m T p = 32) : p < T := by
  rcases Nat.lt_or_ge p T with q | q
  · exact q
  · rw [BT_no q] at h
    exact absurd h (by decide)
set_option maxHeartbeats 4000000 in
theorem nt_146 {T f e : Nat} {K c : Int32} {mem : Mem} (hT : mem 50 7 = nI T) (hT2 : T ≤ 120) (he : e ≤ T) (F : Mem) (hF : F = tkM mem K (nI f) (nI ((if K = 2 then endN dgT (BT mem T) T e else e) + (if K ≤ 2 then 0 else 1))) (if K = 2 then valN (BT mem T) T e 0 else 0)) : Wm mX6_nextToken (zM mX6_nextToken (fun r' m' => r' = none ∧ m' = F)) 146 [some (.ref 50), some (.int c)] [] (tkM mem K (nI f) (nI e) 0) := by
  have L : ∀ (p : Nat) (v : Int32), p ≤ T → ((K = 2 → endN dgT (BT mem T) T p = endN dgT (BT mem T) T e ∧ valN (BT mem T) T p v = valN (BT mem T) T e 0) ∧ (¬ K = 2 → p = e ∧ v = 0)) → Wm mX6_nextToken (zM mX6_nextToken (fun r' m' => r' = none ∧ m' = F)) 146 [some (.ref 50), some (.int c)] [] (tkM mem K (nI f) (nI p) v) := by
    refine for_ind T ?_
    rintro p v hpT ⟨hY, hN⟩ ih
    refine w_aload_n (i := 0) (n' := 147) dX6_nextToken_146 rfl rfl rfl ?_
    refine w_get (ci := 6) (j := 15) (n' := 150) dX6_nextToken_147 rfl fRX6_232 (Nat.le_of_ble_eq_true rfl) (Nat.le_of_ble_eq_true rfl) rfl rfl ?_
    rw [tk_15]
    refine w_iconst (v := 2) (n' := 151) dX6_nextToken_150 rfl rfl ?_
    refine w_icmp_ne (n' := 154) (tgt := 221) dX6_nextToken_151 rfl rfl (fun h151 => ?_) (fun h151 => ?_)
    · refine w_aload_n (i := 0) (n' := 222) dX6_nextToken_221 rfl rfl rfl ?_
      refine w_dup (n' := 223) dX6_nextToken_222 rfl rfl ?_
      refine w_get (ci := 6) (j := 17) (n' := 226) dX6_nextToken_223 rfl fRX6_217 (Nat.le_of_ble_eq_true rfl) (Nat.le_of_ble_eq_true rfl) rfl rfl ?_
      rw [tk_17]
      refine w_aload_n (i := 0) (n' := 227) dX6_nextToken_226 rfl rfl rfl ?_
      refine w_get (ci := 6) (j := 15) (n' := 230) dX6_nextToken_227 rfl fRX6_232 (Nat.le_of_ble_eq_true rfl) (Nat.le_of_ble_eq_true rfl) rfl rfl ?_
      rw [tk_15]
      refine w_iconst (v := 2) (n' := 231) dX6_nextToken_230 rfl rfl ?_
      refine w_icmp_le (n' := 234) (tgt := 238) dX6_nextToken_231 rfl rfl (fun h231 => ?_) (fun h231 => ?_)
      · refine w_iconst (v := 0) (n' := 239) dX6_nextToken_238 rfl rfl ?_
        refine w_iadd (n' := 240) dX6_nextToken_239 rfl ?_
        refine w_put (ci := 6) (j := 17) (n' := 243) dX6_nextToken_240 rfl fRX6_217 (Nat.le_of_ble_eq_true rfl) (Nat.le_of_ble_eq_true rfl) rfl rfl rfl rfl ?_
        rw [tkw.2.2.1]
        exact w_vret dX6_nextToken_243 rfl ⟨rfl, by rw [hF, if_neg h151, if_neg h151, if_pos h231, (hN h151).1, (hN h151).2, Nat.add_zero, Int32.add_zero]⟩
      · refine w_iconst (v := 1) (n' := 235) dX6_nextToken_234 rfl rfl ?_
        refine w_goto (tgt := 239) dX6_nextToken_235 rfl ?_
        refine w_iadd (n' := 240) dX6_nextToken_239 rfl ?_
        refine w_put (ci := 6) (j := 17) (n' := 243) dX6_nextToken_240 rfl fRX6_217 (Nat.le_of_ble_eq_true rfl) (Nat.le_of_ble_eq_true rfl) rfl rfl rfl rfl ?_
        rw [tkw.2.2.1]
        exact w_vret dX6_nextToken_243 rfl ⟨rfl, by rw [hF, if_neg h151, if_neg h151, if_neg h231, (hN h151).1, (hN h151).2, nI_1]⟩
    · refine w_aload_n (i := 0) (n' := 155) dX6_nextToken_154 rfl rfl rfl ?_
      refine w_aload_n (i := 0) (n' := 156) dX6_nextToken_155 rfl rfl rfl ?_
      refine w_get (ci := 6) (j := 17) (n' := 159) dX6_nextToken_156 rfl fRX6_217 (Nat.le_of_ble_eq_true rfl) (Nat.le_of_ble_eq_true rfl) rfl rfl ?_
      rw [tk_17]
      refine v_E (ci := 6) (n' := 162) dX6_nextToken_159 rfl lRX6_223 okX6_byteAt voX6_byteAt ⟨⟨Nat.le_of_ble_eq_true rfl, Nat.le_of_ble_eq_true rfl⟩, Nat.le_of_ble_eq_true rfl, Nat.le_of_ble_eq_true rfl⟩ (c6_byteAt (p := p) (tkB hT) hT2 (by omega) _ rfl) rfl rfl (Nat.le_of_ble_eq_true rfl) rfl (Nat.le_of_ble_eq_true rfl) rfl ?_
      rw [BT_tk]
      refine s_E (n' := 165) dX6_nextToken_162 rfl lRX6_229 okX6_isDigit stX6_isDigit ⟨⟨Nat.le_of_ble_eq_true rfl, Nat.le_of_ble_eq_true rfl⟩, Nat.le_of_ble_eq_true rfl, Nat.le_of_ble_eq_true rfl⟩ (c6_isDigit _ _) rfl rfl (Nat.le_of_ble_eq_true rfl) ?_
      refine w_if_eq (n' := 168) (tgt := 221) dX6_nextToken_165 rfl rfl (fun h165 => ?_) (fun h165 => ?_)
      · have hd : ¬ dgT (BT mem T p) = true := fun q => bB_n.mpr q h165
        have hE := (hY h151).1
        have hV := (hY h151).2
        rw [endN_e hd] at hE
        rw [valN_e hd] at hV
        refine w_aload_n (i := 0) (n' := 222) dX6_nextToken_221 rfl rfl rfl ?_
        refine w_dup (n' := 223) dX6_nextToken_222 rfl rfl ?_
        refine w_get (ci := 6) (j := 17) (n' := 226) dX6_nextToken_223 rfl fRX6_217 (Nat.le_of_ble_eq_true rfl) (Nat.le_of_ble_eq_true rfl) rfl rfl ?_
        rw [tk_17]
        refine w_aload_n (i := 0) (n' := 227) dX6_nextToken_226 rfl rfl rfl ?_
        refine w_get (ci := 6) (j := 15) (n' := 230) dX6_nextToken_227 rfl fRX6_232 (Nat.le_of_ble_eq_true rfl) (Nat.le_of_ble_eq_true rfl) rfl rfl ?_
        rw [tk_15]
        refine w_iconst (v := 2) (n' := 231) dX6_nextToken_230 rfl rfl ?_
        refine w_icmp_le (n' := 234) (tgt := 238) dX6_nextToken_231 rfl rfl (fun h231 => ?_) (fun h231 => ?_)
        · refine w_iconst (v := 0) (n' := 239) dX6_nextToken_238 rfl rfl ?_
          refine w_iadd (n' := 240) dX6_nextToken_239 rfl ?_
          refine w_put (ci := 6) (j := 17) (n' := 243) dX6_nextToken_240 rfl fRX6_217 (Nat.le_of_ble_eq_true rfl) (Nat.le_of_ble_eq_true rfl) rfl rfl rfl rfl ?_
          rw [tkw.2.2.1]
          exact w_vret dX6_nextToken_243 rfl ⟨rfl, by rw [hF, if_pos h151, if_pos h151, if_pos h231, ← hE, ← hV, Nat.add_zero, Int32.add_zero]⟩
        · refine w_iconst (v := 1) (n' := 235) dX6_nextToken_234 rfl rfl ?_
          refine w_goto (tgt := 239) dX6_nextToken_235 rfl ?_
          refine w_iadd (n' := 240) dX6_nextToken_239 rfl ?_
          refine w_put (ci := 6) (j := 17) (n' := 243) dX6_nextToken_240 rfl fRX6_217 (Nat.le_of_ble_eq_true rfl) (Nat.le_of_ble_eq_true rfl) rfl rfl rfl rfl ?_
          rw [tkw.2.2.1]
          exact w_vret dX6_nextToken_243 rfl ⟨rfl, by rw [hF, if_pos h151, if_pos h151, if_neg h231, ← hE, ← hV, nI_1]⟩
      · have hd : dgT (BT mem T p) = true := bB_n.mp h165
        have hpl := dg_lt hd
        refine w_aload_n (i := 0) (n' := 169) dX6_nextToken_168 rfl rfl rfl ?_
        refine w_aload_n (i := 0) (n' := 170) dX6_nextToken_169 rfl rfl rfl ?_
        refine w_get (ci := 6) (j := 18) (n' := 173) dX6_nextToken_170 rfl fRX6_235 (Nat.le_of_ble_eq_true rfl) (Nat.le_of_ble_eq_true rfl) rfl rfl ?_
        rw [tk_18]
        refine w_sipush (v := 999) (n' := 176) dX6_nextToken_173 rfl (by decide) ?_
        refine w_icmp_le (n' := 179) (tgt := 186) dX6_nextToken_176 rfl rfl (fun h176 => ?_) (fun h176 => ?_)
        · refine w_bipush (v := 10) (n' := 188) dX6_nextToken_186 rfl (by decide) ?_
          refine w_aload_n (i := 0) (n' := 189) dX6_nextToken_188 rfl rfl rfl ?_
          refine w_get (ci := 6) (j := 18) (n' := 192) dX6_nextToken_189 rfl fRX6_235 (Nat.le_of_ble_eq_true rfl) (Nat.le_of_ble_eq_true rfl) rfl rfl ?_
          rw [tk_18]
          refine w_imul (n' := 193) dX6_nextToken_192 rfl ?_
          refine w_aload_n (i := 0) (n' := 194) dX6_nextToken_193 rfl rfl rfl ?_
          refine w_aload_n (i := 0) (n' := 195) dX6_nextToken_194 rfl rfl rfl ?_
          refine w_get (ci := 6) (j := 17) (n' := 198) dX6_nextToken_195 rfl fRX6_217 (Nat.le_of_ble_eq_true rfl) (Nat.le_of_ble_eq_true rfl) rfl rfl ?_
          rw [tk_17]
          refine v_E (ci := 6) (n' := 201) dX6_nextToken_198 rfl lRX6_223 okX6_byteAt voX6_byteAt ⟨⟨Nat.le_of_ble_eq_true rfl, Nat.le_of_ble_eq_true rfl⟩, Nat.le_of_ble_eq_true rfl, Nat.le_of_ble_eq_true rfl⟩ (c6_byteAt (p := p) (tkB hT) hT2 (by omega) _ rfl) rfl rfl (Nat.le_of_ble_eq_true rfl) rfl (Nat.le_of_ble_eq_true rfl) rfl ?_
          rw [BT_tk]
          refine w_iadd (n' := 202) dX6_nextToken_201 rfl ?_
          refine w_bipush (v := 48) (n' := 204) dX6_nextToken_202 rfl (by decide) ?_
          refine w_isub (n' := 205) dX6_nextToken_204 rfl ?_
          refine w_put (ci := 6) (j := 18) (n' := 208) dX6_nextToken_205 rfl fRX6_235 (Nat.le_of_ble_eq_true rfl) (Nat.le_of_ble_eq_true rfl) rfl rfl rfl rfl ?_
          rw [tkw.2.2.2]
          refine w_aload_n (i := 0) (n' := 209) dX6_nextToken_208 rfl rfl rfl ?_
          refine w_dup (n' := 210) dX6_nextToken_209 rfl rfl ?_
          refine w_get (ci := 6) (j := 17) (n' := 213) dX6_nextToken_210 rfl fRX6_217 (Nat.le_of_ble_eq_true rfl) (Nat.le_of_ble_eq_true rfl) rfl rfl ?_
          rw [tk_17]
          refine w_iconst (v := 1) (n' := 214) dX6_nextToken_213 rfl rfl ?_
          refine w_iadd (n' := 215) dX6_nextToken_214 rfl ?_
          refine w_put (ci := 6) (j := 17) (n' := 218) dX6_nextToken_215 rfl fRX6_217 (Nat.le_of_ble_eq_true rfl) (Nat.le_of_ble_eq_true rfl) rfl rfl rfl rfl ?_
          rw [tkw.2.2.1, nI_1]
          refine w_goto (tgt := 146) dX6_nextToken_218 rfl ?_
          exact ih hpl _ ⟨fun q => ⟨by rw [← endN_s hpl hd]; exact (hY q).1, by rw [← (hY q).2, valN_s hpl hd, if_neg (Int32.not_lt.mpr h176)]⟩, fun q => absurd h151 q⟩
        · refine w_aload_n (i := 0) (n' := 180) dX6_nextToken_179 rfl rfl rfl ?_
          refine w_get (ci := 6) (j := 18) (n' := 183) dX6_nextToken_180 rfl fRX6_235 (Nat.le_of_ble_eq_true rfl) (Nat.le_of_ble_eq_true rfl) rfl rfl ?_
          rw [tk_18]
          refine w_goto (tgt := 205) dX6_nextToken_183 rfl ?_
          refine w_put (ci := 6) (j := 18) (n' := 208) dX6_nextToken_205 rfl fRX6_235 (Nat.le_of_ble_eq_true rfl) (Nat.le_of_ble_eq_true rfl) rfl rfl rfl rfl ?_
          rw [tkw.2.2.2]
          refine w_aload_n (i := 0) (n' := 209) dX6_nextToken_208 rfl rfl rfl ?_
          refine w_dup (n' := 210) dX6_nextToken_209 rfl rfl ?_
          refine w_get (ci := 6) (j := 17) (n' := 213) dX6_nextToken_210 rfl fRX6_217 (Nat.le_of_ble_eq_true rfl) (Nat.le_of_ble_eq_true rfl) rfl rfl ?_
          rw [tk_17]
          refine w_iconst (v := 1) (n' := 214) dX6_nextToken_213 rfl rfl ?_
          refine w_iadd (n' := 215) dX6_nextToken_214 rfl ?_
          refine w_put (ci := 6) (j := 17) (n' := 218) dX6_nextToken_215 rfl fRX6_217 (Nat.le_of_ble_eq_true rfl) (Nat.le_of_ble_eq_true rfl) rfl rfl rfl rfl ?_
          rw [tkw.2.2.1, nI_1]
          refine w_goto (tgt := 146) dX6_nextToken_218 rfl ?_
          exact ih hpl _ ⟨fun q => ⟨by rw [← endN_s hpl hd]; exact (hY q).1, by rw [← (hY q).2, valN_s hpl hd, if_pos (Int32.not_le.mp h176)]⟩, fun q => absurd h151 q⟩
  exact L e 0 he ⟨fun _ => ⟨rfl, rfl⟩, fun _ => ⟨rfl, rfl⟩⟩
set_option maxHeartbeats 4000000 in
theorem nt_106 {T f p0 : Nat} {K c v0 : Int32} {mem : Mem} (hT : mem 50 7 = nI T) (hT2 : T ≤ 120) (hf : f ≤ T) (hf0 : lexF (BT mem T) T p0 = f) (hK : lexK (BT mem T f) = K) : Wm mX6_nextToken (zM mX6_nextToken (fun r' m' => r' = none ∧ m' = lexM mem T p0)) 106 [some (.ref 50), some (.int c)] [] (tkM mem K (nI f) (nI f) v0) := by
  refine w_aload_n (i := 0) (n' := 107) dX6_nextToken_106 rfl rfl rfl ?_
  refine w_iconst (v := 0) (n' := 108) dX6_nextToken_107 rfl rfl ?_
  refine w_put (ci := 6) (j := 18) (n' := 111) dX6_nextToken_108 rfl fRX6_235 (Nat.le_of_ble_eq_true rfl) (Nat.le_of_ble_eq_true rfl) rfl rfl rfl rfl ?_
  rw [tkw.2.2.2]
  have L : ∀ (p : Nat) (u : Unit), p ≤ T → ((K = 1 → endN leT (BT mem T) T p = endN leT (BT mem T) T f) ∧ (¬ K = 1 → p = f)) → Wm mX6_nextToken (zM mX6_nextToken (fun r' m' => r' = none ∧ m' = lexM mem T p0)) 111 [some (.ref 50), some (.int c)] [] (tkM mem K (nI f) (nI p) 0) := by
    refine for_ind T ?_
    rintro p u hpT ⟨hY, hN⟩ ih
    refine w_aload_n (i := 0) (n' := 112) dX6_nextToken_111 rfl rfl rfl ?_
    refine w_get (ci := 6) (j := 15) (n' := 115) dX6_nextToken_112 rfl fRX6_232 (Nat.le_of_ble_eq_true rfl) (Nat.le_of_ble_eq_true rfl) rfl rfl ?_
    rw [tk_15]
    refine w_iconst (v := 1) (n' := 116) dX6_nextToken_115 rfl rfl ?_
    refine w_icmp_ne (n' := 119) (tgt := 146) dX6_nextToken_116 rfl rfl (fun h116 => ?_) (fun h116 => ?_)
    · rw [show p = (if K = 1 then endN leT (BT mem T) T f else f) from by rw [if_neg h116]; exact hN h116]
      exact nt_146 hT hT2 (e1_le hf K) _ (by
        rw [lexM, hf0, lexE, lexV, hK]
        by_cases q : K = 2
        · rw [if_pos q, if_pos q, if_pos q, if_neg (show ¬ K = 1 by rw [q]; decide)]
        · rw [if_neg q, if_neg q, if_neg q])
    · refine w_aload_n (i := 0) (n' := 120) dX6_nextToken_119 rfl rfl rfl ?_
      refine w_aload_n (i := 0) (n' := 121) dX6_nextToken_120 rfl rfl rfl ?_
      refine w_get (ci := 6) (j := 17) (n' := 124) dX6_nextToken_121 rfl fRX6_217 (Nat.le_of_ble_eq_true rfl) (Nat.le_of_ble_eq_true rfl) rfl rfl ?_
      rw [tk_17]
      refine v_E (ci := 6) (n' := 127) dX6_nextToken_124 rfl lRX6_223 okX6_byteAt voX6_byteAt ⟨⟨Nat.le_of_ble_eq_true rfl, Nat.le_of_ble_eq_true rfl⟩, Nat.le_of_ble_eq_true rfl, Nat.le_of_ble_eq_true rfl⟩ (c6_byteAt (p := p) (tkB hT) hT2 (by omega) _ rfl) rfl rfl (Nat.le_of_ble_eq_true rfl) rfl (Nat.le_of_ble_eq_true rfl) rfl ?_
      rw [BT_tk]
      refine s_E (n' := 130) dX6_nextToken_127 rfl lRX6_226 okX6_isLetter stX6_isLetter ⟨⟨Nat.le_of_ble_eq_true rfl, Nat.le_of_ble_eq_true rfl⟩, Nat.le_of_ble_eq_true rfl, Nat.le_of_ble_eq_true rfl⟩ (c6_isLetter _ _) rfl rfl (Nat.le_of_ble_eq_true rfl) ?_
      refine w_if_eq (n' := 133) (tgt := 146) dX6_nextToken_130 rfl rfl (fun h130 => ?_) (fun h130 => ?_)
      · have hd : ¬ leT (BT mem T p) = true := fun q => bB_n.mpr q h130
        rw [show p = (if K = 1 then endN leT (BT mem T) T f else f) from by rw [if_pos h116, ← hY h116, endN_e hd]]
        exact nt_146 hT hT2 (e1_le hf K) _ (by
          rw [lexM, hf0, lexE, lexV, hK]
          by_cases q : K = 2
          · rw [if_pos q, if_pos q, if_pos q, if_neg (show ¬ K = 1 by rw [q]; decide)]
          · rw [if_neg q, if_neg q, if_neg q])
      · have hd : leT (BT mem T p) = true := bB_n.mp h130
        have hpl := le_lt hd
        refine w_aload_n (i := 0) (n' := 134) dX6_nextToken_133 rfl rfl rfl ?_
        refine w_dup (n' := 135) dX6_nextToken_134 rfl rfl ?_
        refine w_get (ci := 6) (j := 17) (n' := 138) dX6_nextToken_135 rfl fRX6_217 (Nat.le_of_ble_eq_true rfl) (Nat.le_of_ble_eq_true rfl) rfl rfl ?_
        rw [tk_17]
        refine w_iconst (v := 1) (n' := 139) dX6_nextToken_138 rfl rfl ?_
        refine w_iadd (n' := 140) dX6_nextToken_139 rfl ?_
        refine w_put (ci := 6) (j := 17) (n' := 143) dX6_nextToken_140 rfl fRX6_217 (Nat.le_of_ble_eq_true rfl) (Nat.le_of_ble_eq_true rfl) rfl rfl rfl rfl ?_
        rw [tkw.2.2.1, nI_1]
        refine w_goto (tgt := 111) dX6_nextToken_143 rfl ?_
        exact ih hpl () ⟨fun q => by rw [← endN_s hpl hd]; exact hY q, fun q => absurd h116 q⟩
  exact L f () hf ⟨fun _ => rfl, fun _ => rfl⟩
set_option maxHeartbeats 4000000 in
theorem c6_nextToken {T p : Nat} {mem : Mem} (hT : mem 50 7 = nI T) (hT2 : T ≤ 120) (hp : mem 50 17 = nI p) (hpT : p ≤ T) : CnE mX6_nextToken [.ref 50] mem none (lexM mem T p) := by
  have e0 := (tkw (m := mem) (t := mem 50 15) (f := mem 50 16) (e := mem 50 17) (v := mem 50 18) (x := nI p)).2.1
  rw [tk_self, hp] at e0
  refine Cn.of (ls := [some (.ref 50), none]) (by decide) rfl (Nat.le_of_ble_eq_true rfl) ?_
  refine w_aload_n (i := 0) (n' := 1) dX6_nextToken_0 rfl rfl rfl ?_
  refine w_aload_n (i := 0) (n' := 2) dX6_nextToken_1 rfl rfl rfl ?_
  refine w_get (ci := 6) (j := 17) (n' := 5) dX6_nextToken_2 rfl fRX6_217 (Nat.le_of_ble_eq_true rfl) (Nat.le_of_ble_eq_true rfl) rfl rfl ?_
  rw [hp]
  refine w_put (ci := 6) (j := 16) (n' := 8) dX6_nextToken_5 rfl fRX6_220 (Nat.le_of_ble_eq_true rfl) (Nat.le_of_ble_eq_true rfl) rfl rfl rfl rfl ?_
  rw [e0]
  have L : ∀ (i : Nat) (u : Unit), i ≤ T → endN spT (BT mem T) T i = endN spT (BT mem T) T p → Wm mX6_nextToken (zM mX6_nextToken (fun r' m' => r' = none ∧ m' = (lexM mem T p))) 8 [some (.ref 50), none] [] (tkM mem (mem 50 15) (nI i) (nI p) (mem 50 18)) := by
    refine for_ind T ?_
    intro i u hiT h1 ih
    refine w_aload_n (i := 0) (n' := 9) dX6_nextToken_8 rfl rfl rfl ?_
    refine w_aload_n (i := 0) (n' := 10) dX6_nextToken_9 rfl rfl rfl ?_
    refine w_get (ci := 6) (j := 16) (n' := 13) dX6_nextToken_10 rfl fRX6_220 (Nat.le_of_ble_eq_true rfl) (Nat.le_of_ble_eq_true rfl) rfl rfl ?_
    rw [tk_16]
    refine v_E (ci := 6) (n' := 16) dX6_nextToken_13 rfl lRX6_223 okX6_byteAt voX6_byteAt ⟨⟨Nat.le_of_ble_eq_true rfl, Nat.le_of_ble_eq_true rfl⟩, Nat.le_of_ble_eq_true rfl, Nat.le_of_ble_eq_true rfl⟩ (c6_byteAt (p := i) (tkB hT) hT2 (by omega) _ rfl) rfl rfl (Nat.le_of_ble_eq_true rfl) rfl (Nat.le_of_ble_eq_true rfl) rfl ?_
    rw [BT_tk]
    refine w_bipush (v := 32) (n' := 18) dX6_nextToken_16 rfl (by decide) ?_
    refine w_icmp_ne (n' := 21) (tgt := 34) dX6_nextToken_18 rfl rfl (fun h18 => ?_) (fun h18 => ?_)
    · have hF0 : lexF (BT mem T) T p = i := by
        unfold lexF
        rw [← h1]
        exact endN_e (by unfold spT; rw [decide_eq_true_iff]; exact h18)
      refine w_aload_n (i := 0) (n' := 35) dX6_nextToken_34 rfl rfl rfl ?_
      refine w_aload_n (i := 0) (n' := 36) dX6_nextToken_35 rfl rfl rfl ?_
      refine w_get (ci := 6) (j := 16) (n' := 39) dX6_nextToken_36 rfl fRX6_220 (Nat.le_of_ble_eq_true rfl) (Nat.le_of_ble_eq_true rfl) rfl rfl ?_
      rw [tk_16]
      refine w_put (ci := 6) (j := 17) (n' := 42) dX6_nextToken_39 rfl fRX6_217 (Nat.le_of_ble_eq_true rfl) (Nat.le_of_ble_eq_true rfl) rfl rfl rfl rfl ?_
      rw [tkw.2.2.1]
      refine w_aload_n (i := 0) (n' := 43) dX6_nextToken_42 rfl rfl rfl ?_
      refine w_aload_n (i := 0) (n' := 44) dX6_nextToken_43 rfl rfl rfl ?_
      refine w_get (ci := 6) (j := 16) (n' := 47) dX6_nextToken_44 rfl fRX6_220 (Nat.le_of_ble_eq_true rfl) (Nat.le_of_ble_eq_true rfl) rfl rfl ?_
      rw [tk_16]
      refine v_E (ci := 6) (n' := 50) dX6_nextToken_47 rfl lRX6_223 okX6_byteAt voX6_byteAt ⟨⟨Nat.le_of_ble_eq_true rfl, Nat.le_of_ble_eq_true rfl⟩, Nat.le_of_ble_eq_true rfl, Nat.le_of_ble_eq_true rfl⟩ (c6_byteAt (p := i) (tkB hT) hT2 (by omega) _ rfl) rfl rfl (Nat.le_of_ble_eq_true rfl) rfl (Nat.le_of_ble_eq_true rfl) rfl ?_
      rw [BT_tk]
      refine w_istore_n (i := 1) (n' := 51) (ls' := [_, _]) dX6_nextToken_50 rfl rfl (Nat.le_of_ble_eq_true rfl) rfl rfl ?_
      refine w_aload_n (i := 0) (n' := 52) dX6_nextToken_51 rfl rfl rfl ?_
      refine w_iload_n (i := 1) (n' := 53) dX6_nextToken_52 rfl rfl rfl ?_
      refine w_if_ge (n' := 56) (tgt := 60) dX6_nextToken_53 rfl rfl (fun h53 => ?_) (fun h53 => ?_)
      · refine w_iload_n (i := 1) (n' := 61) dX6_nextToken_60 rfl rfl rfl ?_
        refine s_E (n' := 64) dX6_nextToken_61 rfl lRX6_226 okX6_isLetter stX6_isLetter ⟨⟨Nat.le_of_ble_eq_true rfl, Nat.le_of_ble_eq_true rfl⟩, Nat.le_of_ble_eq_true rfl, Nat.le_of_ble_eq_true rfl⟩ (c6_isLetter _ _) rfl rfl (Nat.le_of_ble_eq_true rfl) ?_
        refine w_if_eq (n' := 67) (tgt := 71) dX6_nextToken_64 rfl rfl (fun h64 => ?_) (fun h64 => ?_)
        · refine w_iload_n (i := 1) (n' := 72) dX6_nextToken_71 rfl rfl rfl ?_
          refine s_E (n' := 75) dX6_nextToken_72 rfl lRX6_229 okX6_isDigit stX6_isDigit ⟨⟨Nat.le_of_ble_eq_true rfl, Nat.le_of_ble_eq_true rfl⟩, Nat.le_of_ble_eq_true rfl, Nat.le_of_ble_eq_true rfl⟩ (c6_isDigit _ _) rfl rfl (Nat.le_of_ble_eq_true rfl) ?_
          refine w_if_eq (n' := 78) (tgt := 82) dX6_nextToken_75 rfl rfl (fun h75 => ?_) (fun h75 => ?_)
          · refine w_iload_n (i := 1) (n' := 83) dX6_nextToken_82 rfl rfl rfl ?_
            refine w_bipush (v := 59) (n' := 85) dX6_nextToken_83 rfl (by decide) ?_
            refine w_icmp_ne (n' := 88) (tgt := 92) dX6_nextToken_85 rfl rfl (fun h85 => ?_) (fun h85 => ?_)
            · refine w_iload_n (i := 1) (n' := 93) dX6_nextToken_92 rfl rfl rfl ?_
              refine w_bipush (v := 45) (n' := 95) dX6_nextToken_93 rfl (by decide) ?_
              refine w_icmp_ne (n' := 98) (tgt := 102) dX6_nextToken_95 rfl rfl (fun h95 => ?_) (fun h95 => ?_)
              · refine w_iconst (v := 4) (n' := 103) dX6_nextToken_102 rfl rfl ?_
                refine w_put (ci := 6) (j := 15) (n' := 106) dX6_nextToken_103 rfl fRX6_232 (Nat.le_of_ble_eq_true rfl) (Nat.le_of_ble_eq_true rfl) rfl rfl rfl rfl ?_
                rw [tkw.1]
                exact nt_106 (K := 4) hT hT2 hiT hF0 (by rw [lexK, if_pos h53, if_pos h64, if_pos h75, if_neg h85, if_neg h95])
              · refine w_iconst (v := 5) (n' := 99) dX6_nextToken_98 rfl rfl ?_
                refine w_goto (tgt := 103) dX6_nextToken_99 rfl ?_
                refine w_put (ci := 6) (j := 15) (n' := 106) dX6_nextToken_103 rfl fRX6_232 (Nat.le_of_ble_eq_true rfl) (Nat.le_of_ble_eq_true rfl) rfl rfl rfl rfl ?_
                rw [tkw.1]
                exact nt_106 (K := 5) hT hT2 hiT hF0 (by rw [lexK, if_pos h53, if_pos h64, if_pos h75, if_neg h85, if_pos h95])
            · refine w_iconst (v := 3) (n' := 89) dX6_nextToken_88 rfl rfl ?_
              refine w_goto (tgt := 103) dX6_nextToken_89 rfl ?_
              refine w_put (ci := 6) (j := 15) (n' := 106) dX6_nextToken_103 rfl fRX6_232 (Nat.le_of_ble_eq_true rfl) (Nat.le_of_ble_eq_true rfl) rfl rfl rfl rfl ?_
              rw [tkw.1]
              exact nt_106 (K := 3) hT hT2 hiT hF0 (by rw [lexK, if_pos h53, if_pos h64, if_pos h75, if_pos h85])
          · refine w_iconst (v := 2) (n' := 79) dX6_nextToken_78 rfl rfl ?_
            refine w_goto (tgt := 103) dX6_nextToken_79 rfl ?_
            refine w_put (ci := 6) (j := 15) (n' := 106) dX6_nextToken_103 rfl fRX6_232 (Nat.le_of_ble_eq_true rfl) (Nat.le_of_ble_eq_true rfl) rfl rfl rfl rfl ?_
            rw [tkw.1]
            exact nt_106 (K := 2) hT hT2 hiT hF0 (by rw [lexK, if_pos h53, if_pos h64, if_neg h75])
        · refine w_iconst (v := 1) (n' := 68) dX6_nextToken_67 rfl rfl ?_
          refine w_goto (tgt := 103) dX6_nextToken_68 rfl ?_
          refine w_put (ci := 6) (j := 15) (n' := 106) dX6_nextToken_103 rfl fRX6_232 (Nat.le_of_ble_eq_true rfl) (Nat.le_of_ble_eq_true rfl) rfl rfl rfl rfl ?_
          rw [tkw.1]
          exact nt_106 (K := 1) hT hT2 hiT hF0 (by rw [lexK, if_pos h53, if_neg h64])
      · refine w_iconst (v := 0) (n' := 57) dX6_nextToken_56 rfl rfl ?_
        refine w_goto (tgt := 103) dX6_nextToken_57 rfl ?_
        refine w_put (ci := 6) (j := 15) (n' := 106) dX6_nextToken_103 rfl fRX6_232 (Nat.le_of_ble_eq_true rfl) (Nat.le_of_ble_eq_true rfl) rfl rfl rfl rfl ?_
        rw [tkw.1]
        exact nt_106 (K := 0) hT hT2 hiT hF0 (by rw [lexK, if_neg h53])
    · refine w_aload_n (i := 0) (n' := 22) dX6_nextToken_21 rfl rfl rfl ?_
      refine w_dup (n' := 23) dX6_nextToken_22 rfl rfl ?_
      refine w_get (ci := 6) (j := 16) (n' := 26) dX6_nextToken_23 rfl fRX6_220 (Nat.le_of_ble_eq_true rfl) (Nat.le_of_ble_eq_true rfl) rfl rfl ?_
      rw [tk_16]
      refine w_iconst (v := 1) (n' := 27) dX6_nextToken_26 rfl rfl ?_
      refine w_iadd (n' := 28) dX6_nextToken_27 rfl ?_
      refine w_put (ci := 6) (j := 16) (n' := 31) dX6_nextToken_28 rfl fRX6_220 (Nat.le_of_ble_eq_true rfl) (Nat.le_of_ble_eq_true rfl) rfl rfl rfl rfl ?_
      rw [tkw.2.1, nI_1]
      refine w_goto (tgt := 8) dX6_nextToken_31 rfl ?_
      exact ih (sp_lt h18) () (by rw [← h1]; exact (endN_s (sp_lt h18) (by rw [spT, h18]; decide)).symm)
  exact L p () hpT rfl
