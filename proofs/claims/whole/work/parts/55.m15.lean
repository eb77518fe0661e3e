/-! the reference: words -/
def h3I (B : Nat → Int32) (f : Nat) (x y z : Int32) : Int32 := if B f = x then (if B (f + 1) = y then (if B (f + 2) = z then 1 else 0) else 0) else 0
set_option maxHeartbeats 4000000 in
theorem c6_has3 {T f d : Nat} {mem : Mem} (hT : mem 50 7 = nI T) (hT2 : T ≤ 120) (hf : mem 50 16 = nI f) (hf2 : f ≤ 120) (hd : d ≤ 10) (a x y z : Int32) (ha : a = nI d) : CnE mX6_has3 [.ref 50, .int a, .int x, .int y, .int z] mem (some (.int (h3I (BT mem T) (f + d) x y z))) mem := by
  refine Cn.of (ls := [some (.ref 50), some (.int a), some (.int x), some (.int y), some (.int z)]) (by decide) rfl (Nat.le_of_ble_eq_true rfl) ?_
  refine w_aload_n (i := 0) (n' := 1) dX6_has3_0 rfl rfl rfl ?_
  refine w_aload_n (i := 0) (n' := 2) dX6_has3_1 rfl rfl rfl ?_
  refine w_get (ci := 6) (j := 16) (n' := 5) dX6_has3_2 rfl fRX6_220 (Nat.le_of_ble_eq_true rfl) (Nat.le_of_ble_eq_true rfl) rfl rfl ?_
  refine w_iload_n (i := 1) (n' := 6) dX6_has3_5 rfl rfl rfl ?_
  refine w_iadd (n' := 7) dX6_has3_6 rfl ?_
  refine v_E (ci := 6) (n' := 10) dX6_has3_7 rfl lRX6_223 okX6_byteAt voX6_byteAt ⟨⟨Nat.le_of_ble_eq_true rfl, Nat.le_of_ble_eq_true rfl⟩, Nat.le_of_ble_eq_true rfl, Nat.le_of_ble_eq_true rfl⟩ (c6_byteAt (p := f + d) hT hT2 (by omega) _ (by rw [hf, ha, nI_add])) rfl rfl (Nat.le_of_ble_eq_true rfl) rfl (Nat.le_of_ble_eq_true rfl) rfl ?_
  refine w_iload_n (i := 2) (n' := 11) dX6_has3_10 rfl rfl rfl ?_
  refine w_icmp_ne (n' := 14) (tgt := 51) dX6_has3_11 rfl rfl (fun h11 => ?_) (fun h11 => ?_)
  · refine w_iconst (v := 0) (n' := 52) dX6_has3_51 rfl rfl ?_
    exact w_zret dX6_has3_52 rfl rfl ⟨by rw [h3I, if_neg h11], rfl⟩
  · refine w_aload_n (i := 0) (n' := 15) dX6_has3_14 rfl rfl rfl ?_
    refine w_aload_n (i := 0) (n' := 16) dX6_has3_15 rfl rfl rfl ?_
    refine w_get (ci := 6) (j := 16) (n' := 19) dX6_has3_16 rfl fRX6_220 (Nat.le_of_ble_eq_true rfl) (Nat.le_of_ble_eq_true rfl) rfl rfl ?_
    refine w_iload_n (i := 1) (n' := 20) dX6_has3_19 rfl rfl rfl ?_
    refine w_iadd (n' := 21) dX6_has3_20 rfl ?_
    refine w_iconst (v := 1) (n' := 22) dX6_has3_21 rfl rfl ?_
    refine w_iadd (n' := 23) dX6_has3_22 rfl ?_
    refine v_E (ci := 6) (n' := 26) dX6_has3_23 rfl lRX6_223 okX6_byteAt voX6_byteAt ⟨⟨Nat.le_of_ble_eq_true rfl, Nat.le_of_ble_eq_true rfl⟩, Nat.le_of_ble_eq_true rfl, Nat.le_of_ble_eq_true rfl⟩ (c6_byteAt (p := f + d + 1) hT hT2 (by omega) _ (by rw [hf, ha, nI_add, nI_1])) rfl rfl (Nat.le_of_ble_eq_true rfl) rfl (Nat.le_of_ble_eq_true rfl) rfl ?_
    refine w_iload_n (i := 3) (n' := 27) dX6_has3_26 rfl rfl rfl ?_
    refine w_icmp_ne (n' := 30) (tgt := 51) dX6_has3_27 rfl rfl (fun h27 => ?_) (fun h27 => ?_)
    · refine w_iconst (v := 0) (n' := 52) dX6_has3_51 rfl rfl ?_
      exact w_zret dX6_has3_52 rfl rfl ⟨by rw [h3I, if_pos h11, if_neg h27], rfl⟩
    · refine w_aload_n (i := 0) (n' := 31) dX6_has3_30 rfl rfl rfl ?_
      refine w_aload_n (i := 0) (n' := 32) dX6_has3_31 rfl rfl rfl ?_
      refine w_get (ci := 6) (j := 16) (n' := 35) dX6_has3_32 rfl fRX6_220 (Nat.le_of_ble_eq_true rfl) (Nat.le_of_ble_eq_true rfl) rfl rfl ?_
      refine w_iload_n (i := 1) (n' := 36) dX6_has3_35 rfl rfl rfl ?_
      refine w_iadd (n' := 37) dX6_has3_36 rfl ?_
      refine w_iconst (v := 2) (n' := 38) dX6_has3_37 rfl rfl ?_
      refine w_iadd (n' := 39) dX6_has3_38 rfl ?_
      refine v_E (ci := 6) (n' := 42) dX6_has3_39 rfl lRX6_223 okX6_byteAt voX6_byteAt ⟨⟨Nat.le_of_ble_eq_true rfl, Nat.le_of_ble_eq_true rfl⟩, Nat.le_of_ble_eq_true rfl, Nat.le_of_ble_eq_true rfl⟩ (c6_byteAt (p := f + d + 2) hT hT2 (by omega) _ (by rw [hf, ha, nI_add, show (2 : Int32) = nI 2 from rfl, nI_add])) rfl rfl (Nat.le_of_ble_eq_true rfl) rfl (Nat.le_of_ble_eq_true rfl) rfl ?_
      refine w_iload (n' := 44) dX6_has3_42 rfl rfl ?_
      refine w_icmp_ne (n' := 47) (tgt := 51) dX6_has3_44 rfl rfl (fun h44 => ?_) (fun h44 => ?_)
      · refine w_iconst (v := 0) (n' := 52) dX6_has3_51 rfl rfl ?_
        exact w_zret dX6_has3_52 rfl rfl ⟨by rw [h3I, if_pos h11, if_pos h27, if_neg h44], rfl⟩
      · refine w_iconst (v := 1) (n' := 48) dX6_has3_47 rfl rfl ?_
        refine w_goto (tgt := 52) dX6_has3_48 rfl ?_
        exact w_zret dX6_has3_52 rfl rfl ⟨by rw [h3I, if_pos h11, if_pos h27, if_pos h44], rfl⟩
def wdI (m : Mem) (l : Int32) : Int32 := if m 50 15 = 1 then (if m 50 17 - m 50 16 = l then 1 else 0) else 0
set_option maxHeartbeats 4000000 in
theorem c6_isWord (l : Int32) (mem : Mem) : CnE mX6_isWord [.ref 50, .int l] mem (some (.int (wdI mem l))) mem := by
  refine Cn.of (ls := [some (.ref 50), some (.int l)]) (by decide) rfl (Nat.le_of_ble_eq_true rfl) ?_
  refine w_aload_n (i := 0) (n' := 1) dX6_isWord_0 rfl rfl rfl ?_
  refine w_get (ci := 6) (j := 15) (n' := 4) dX6_isWord_1 rfl fRX6_232 (Nat.le_of_ble_eq_true rfl) (Nat.le_of_ble_eq_true rfl) rfl rfl ?_
  refine w_iconst (v := 1) (n' := 5) dX6_isWord_4 rfl rfl ?_
  refine w_icmp_ne (n' := 8) (tgt := 25) dX6_isWord_5 rfl rfl (fun h5 => ?_) (fun h5 => ?_)
  · refine w_iconst (v := 0) (n' := 26) dX6_isWord_25 rfl rfl ?_
    exact w_zret dX6_isWord_26 rfl rfl ⟨by rw [wdI, if_neg h5], rfl⟩
  · refine w_aload_n (i := 0) (n' := 9) dX6_isWord_8 rfl rfl rfl ?_
    refine w_get (ci := 6) (j := 17) (n' := 12) dX6_isWord_9 rfl fRX6_217 (Nat.le_of_ble_eq_true rfl) (Nat.le_of_ble_eq_true rfl) rfl rfl ?_
    refine w_aload_n (i := 0) (n' := 13) dX6_isWord_12 rfl rfl rfl ?_
    refine w_get (ci := 6) (j := 16) (n' := 16) dX6_isWord_13 rfl fRX6_220 (Nat.le_of_ble_eq_true rfl) (Nat.le_of_ble_eq_true rfl) rfl rfl ?_
    refine w_isub (n' := 17) dX6_isWord_16 rfl ?_
    refine w_iload_n (i := 1) (n' := 18) dX6_isWord_17 rfl rfl rfl ?_
    refine w_icmp_ne (n' := 21) (tgt := 25) dX6_isWord_18 rfl rfl (fun h18 => ?_) (fun h18 => ?_)
    · refine w_iconst (v := 0) (n' := 26) dX6_isWord_25 rfl rfl ?_
      exact w_zret dX6_isWord_26 rfl rfl ⟨by rw [wdI, if_pos h5, if_neg h18], rfl⟩
    · refine w_iconst (v := 1) (n' := 22) dX6_isWord_21 rfl rfl ?_
      refine w_goto (tgt := 26) dX6_isWord_22 rfl ?_
      exact w_zret dX6_isWord_26 rfl rfl ⟨by rw [wdI, if_pos h5, if_pos h18], rfl⟩
set_option maxHeartbeats 4000000 in
theorem c6_fails (mem : Mem) : CnE mX6_fails [.ref 50] mem (some (.int 0)) (up2 mem 50 19 (mem 50 16)) := by
  refine Cn.of (ls := [some (.ref 50)]) (by decide) rfl (Nat.le_of_ble_eq_true rfl) ?_
  refine w_aload_n (i := 0) (n' := 1) dX6_fails_0 rfl rfl rfl ?_
  refine w_aload_n (i := 0) (n' := 2) dX6_fails_1 rfl rfl rfl ?_
  refine w_get (ci := 6) (j := 16) (n' := 5) dX6_fails_2 rfl fRX6_220 (Nat.le_of_ble_eq_true rfl) (Nat.le_of_ble_eq_true rfl) rfl rfl ?_
  refine w_put (ci := 6) (j := 19) (n' := 8) dX6_fails_5 rfl fRX6_238 (Nat.le_of_ble_eq_true rfl) (Nat.le_of_ble_eq_true rfl) rfl rfl rfl rfl ?_
  refine w_iconst (v := 0) (n' := 9) dX6_fails_8 rfl rfl ?_
  exact w_zret dX6_fails_9 rfl rfl ⟨rfl, rfl⟩
