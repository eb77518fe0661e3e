/-! the farm, and small ones of the class -/
def inR (v a b : Int32) : Int32 := if v < a then 0 else if b < v then 0 else 1
def bitI (s i : Int32) : Int32 := if (s >>> (i &&& 31)) &&& 1 = 1 then 1 else 0
def toldF (f : Nat → Int32) (what : Int32) : Int32 := if what = 0 then f 0 else if what = 1 then f 1 else if what = 2 then f 2 else if what = 3 then f 3 else f 4
def slotF (what : Int32) : Nat := if what = 0 then 0 else if what = 1 then 1 else if what = 2 then 2 else if what = 3 then 3 else 4
def reapF (kind hands wet there : Int32) : Int32 :=
  if kind = 1 then maxI 1 (maxI 1 (2 * hands - wet / 10) / 2)
  else if kind = 2 then maxI 1 (2 * hands - wet / 10) + 3
  else if kind = 3 then (if 20 < there then maxI 1 (2 * hands - wet / 10) + 3 else (maxI 1 (2 * hands - wet / 10) + 3) / 2)
  else if kind = 4 then (if 5 < there then (if 20 < there then maxI 1 (2 * hands - wet / 10) + 3 else (maxI 1 (2 * hands - wet / 10) + 3) / 2) else 1)
  else if kind = 5 then (if wet < 50 then 30 else 2)
  else if kind = 6 then maxI 1 (maxI 1 (maxI 1 (2 * hands - wet / 10) / 2) - 1)
  else maxI 1 (2 * hands - wet / 10)
def tellF (kind had : Int32) : Int32 :=
  if kind = 1 then 2 else if kind = 2 then 3 else if kind = 3 then -3 else if kind = 4 then -3 + minI 9 had else if kind = 5 then 0 else if kind = 6 then 4 else 1
def downF (floor sheaves reaps : Int32) : Int32 := if sheaves ≤ floor then 0 else if 1 ≤ reaps then (sheaves - floor + reaps - 1) / reaps else 0
def alterF (mem : Mem) (k : Nat) (what v : Int32) : Mem := up2 (up2 mem k (slotF what) v) k 5 (-1)
set_option maxHeartbeats 4000000 in
theorem c_within (v a b : Int32) (mem : Mem) : CnE mX5_within [.int v, .int a, .int b] mem (some (.int (inR v a b))) mem := by
  refine Cn.of (ls := [some (.int v), some (.int a), some (.int b)]) (by decide) rfl (Nat.le_of_ble_eq_true rfl) ?_
  refine w_iload_n (i := 0) (n' := 1) dX5_within_0 rfl rfl rfl ?_
  refine w_iload_n (i := 1) (n' := 2) dX5_within_1 rfl rfl rfl ?_
  refine w_icmp_lt (n' := 5) (tgt := 14) dX5_within_2 rfl rfl (fun h2 => ?_) (fun h2 => ?_)
  · refine w_iconst (v := 0) (n' := 15) dX5_within_14 rfl rfl ?_
    exact w_zret dX5_within_15 rfl rfl ⟨by simp [inR, *], rfl⟩
  · refine w_iload_n (i := 0) (n' := 6) dX5_within_5 rfl rfl rfl ?_
    refine w_iload_n (i := 2) (n' := 7) dX5_within_6 rfl rfl rfl ?_
    refine w_icmp_gt (n' := 10) (tgt := 14) dX5_within_7 rfl rfl (fun h7 => ?_) (fun h7 => ?_)
    · refine w_iconst (v := 0) (n' := 15) dX5_within_14 rfl rfl ?_
      exact w_zret dX5_within_15 rfl rfl ⟨by simp [inR, *], rfl⟩
    · refine w_iconst (v := 1) (n' := 11) dX5_within_10 rfl rfl ?_
      refine w_goto (tgt := 15) dX5_within_11 rfl ?_
      exact w_zret dX5_within_15 rfl rfl ⟨by simp [inR, *], rfl⟩
set_option maxHeartbeats 4000000 in
theorem c_isIn (v a : Int32) (mem : Mem) : CnE mX5_isIn [.int v, .int a] mem (some (.int (bitI v a))) mem := by
  refine Cn.of (ls := [some (.int v), some (.int a)]) (by decide) rfl (Nat.le_of_ble_eq_true rfl) ?_
  refine w_iload_n (i := 0) (n' := 1) dX5_isIn_0 rfl rfl rfl ?_
  refine w_iload_n (i := 1) (n' := 2) dX5_isIn_1 rfl rfl rfl ?_
  refine w_ishr (n' := 3) dX5_isIn_2 rfl ?_
  refine w_iconst (v := 1) (n' := 4) dX5_isIn_3 rfl rfl ?_
  refine w_iand (n' := 5) dX5_isIn_4 rfl ?_
  refine w_iconst (v := 1) (n' := 6) dX5_isIn_5 rfl rfl ?_
  refine w_icmp_ne (n' := 9) (tgt := 13) dX5_isIn_6 rfl rfl (fun h6 => ?_) (fun h6 => ?_)
  · refine w_iconst (v := 0) (n' := 14) dX5_isIn_13 rfl rfl ?_
    exact w_zret dX5_isIn_14 rfl rfl ⟨by simp [bitI, *], rfl⟩
  · refine w_iconst (v := 1) (n' := 10) dX5_isIn_9 rfl rfl ?_
    refine w_goto (tgt := 14) dX5_isIn_10 rfl ?_
    exact w_zret dX5_isIn_14 rfl rfl ⟨by simp [bitI, *], rfl⟩
set_option maxHeartbeats 4000000 in
theorem c_told {k : Nat} (hk : kd k = 0) (what : Int32) (mem : Mem) : CnE mX0_told [.ref k, .int what] mem (some (.int (toldF (mem k) what))) mem := by
  refine Cn.of (ls := [some (.ref k), some (.int what)]) (by decide) rfl (Nat.le_of_ble_eq_true rfl) ?_
  refine w_iload_n (i := 1) (n' := 1) dX0_told_0 rfl rfl rfl ?_
  refine w_tc (0) (tgt := 32) dX0_told_1 (by decide) (by decide) rfl rfl (fun e1_0 => ?_) (fun e1_0 => ?_)
  · refine w_aload_n (i := 0) (n' := 33) dX0_told_32 rfl rfl rfl ?_
    refine w_get (ci := 0) (j := 0) (n' := 36) dX0_told_33 rfl fRX0_9 (Nat.le_of_ble_eq_true rfl) (Nat.le_of_ble_eq_true rfl) hk rfl ?_
    exact w_iret dX0_told_36 rfl ⟨by simp [toldF, *], rfl⟩
  refine w_tc (1) (tgt := 37) dX0_told_1 (by decide) (by decide) rfl rfl (fun e1_1 => ?_) (fun e1_1 => ?_)
  · refine w_aload_n (i := 0) (n' := 38) dX0_told_37 rfl rfl rfl ?_
    refine w_get (ci := 0) (j := 1) (n' := 41) dX0_told_38 rfl fRX0_32 (Nat.le_of_ble_eq_true rfl) (Nat.le_of_ble_eq_true rfl) hk rfl ?_
    exact w_iret dX0_told_41 rfl ⟨by simp [toldF, *], rfl⟩
  refine w_tc (2) (tgt := 42) dX0_told_1 (by decide) (by decide) rfl rfl (fun e1_2 => ?_) (fun e1_2 => ?_)
  · refine w_aload_n (i := 0) (n' := 43) dX0_told_42 rfl rfl rfl ?_
    refine w_get (ci := 0) (j := 2) (n' := 46) dX0_told_43 rfl fRX0_15 (Nat.le_of_ble_eq_true rfl) (Nat.le_of_ble_eq_true rfl) hk rfl ?_
    exact w_iret dX0_told_46 rfl ⟨by simp [toldF, *], rfl⟩
  refine w_tc (3) (tgt := 47) dX0_told_1 (by decide) (by decide) rfl rfl (fun e1_3 => ?_) (fun e1_3 => ?_)
  · refine w_aload_n (i := 0) (n' := 48) dX0_told_47 rfl rfl rfl ?_
    refine w_get (ci := 0) (j := 3) (n' := 51) dX0_told_48 rfl fRX0_35 (Nat.le_of_ble_eq_true rfl) (Nat.le_of_ble_eq_true rfl) hk rfl ?_
    exact w_iret dX0_told_51 rfl ⟨by simp [toldF, *], rfl⟩
  refine w_td [0, 1, 2, 3] (tgt := 52) dX0_told_1 rfl (by decide) (List.forall_mem_cons.mpr ⟨e1_0, (List.forall_mem_cons.mpr ⟨e1_1, (List.forall_mem_cons.mpr ⟨e1_2, (List.forall_mem_cons.mpr ⟨e1_3, (fun _ h => absurd h List.not_mem_nil)⟩)⟩)⟩)⟩) ?_
  refine w_aload_n (i := 0) (n' := 53) dX0_told_52 rfl rfl rfl ?_
  refine w_get (ci := 0) (j := 4) (n' := 56) dX0_told_53 rfl fRX0_38 (Nat.le_of_ble_eq_true rfl) (Nat.le_of_ble_eq_true rfl) hk rfl ?_
  exact w_iret dX0_told_56 rfl ⟨by simp [toldF, *], rfl⟩
set_option maxHeartbeats 4000000 in
theorem c_alter {k : Nat} (hk : kd k = 0) (what v : Int32) (mem : Mem) : CnE mX0_alter [.ref k, .int what, .int v] mem none (alterF mem k what v) := by
  refine Cn.of (ls := [some (.ref k), some (.int what), some (.int v)]) (by decide) rfl (Nat.le_of_ble_eq_true rfl) ?_
  refine w_iload_n (i := 1) (n' := 1) dX0_alter_0 rfl rfl rfl ?_
  refine w_tc (0) (tgt := 32) dX0_alter_1 (by decide) (by decide) rfl rfl (fun e1_0 => ?_) (fun e1_0 => ?_)
  · refine w_aload_n (i := 0) (n' := 33) dX0_alter_32 rfl rfl rfl ?_
    refine w_iload_n (i := 2) (n' := 34) dX0_alter_33 rfl rfl rfl ?_
    refine w_put (ci := 0) (j := 0) (n' := 37) dX0_alter_34 rfl fRX0_9 (Nat.le_of_ble_eq_true rfl) (Nat.le_of_ble_eq_true rfl) rfl rfl hk rfl ?_
    refine w_goto (tgt := 69) dX0_alter_37 rfl ?_
    refine w_aload_n (i := 0) (n' := 70) dX0_alter_69 rfl rfl rfl ?_
    refine w_iconst (v := -1) (n' := 71) dX0_alter_70 rfl rfl ?_
    refine w_put (ci := 0) (j := 5) (n' := 74) dX0_alter_71 rfl fRX0_18 (Nat.le_of_ble_eq_true rfl) (Nat.le_of_ble_eq_true rfl) rfl rfl hk rfl ?_
    exact w_vret dX0_alter_74 rfl ⟨rfl, by simp [alterF, slotF, *]⟩
  refine w_tc (1) (tgt := 40) dX0_alter_1 (by decide) (by decide) rfl rfl (fun e1_1 => ?_) (fun e1_1 => ?_)
  · refine w_aload_n (i := 0) (n' := 41) dX0_alter_40 rfl rfl rfl ?_
    refine w_iload_n (i := 2) (n' := 42) dX0_alter_41 rfl rfl rfl ?_
    refine w_put (ci := 0) (j := 1) (n' := 45) dX0_alter_42 rfl fRX0_32 (Nat.le_of_ble_eq_true rfl) (Nat.le_of_ble_eq_true rfl) rfl rfl hk rfl ?_
    refine w_goto (tgt := 69) dX0_alter_45 rfl ?_
    refine w_aload_n (i := 0) (n' := 70) dX0_alter_69 rfl rfl rfl ?_
    refine w_iconst (v := -1) (n' := 71) dX0_alter_70 rfl rfl ?_
    refine w_put (ci := 0) (j := 5) (n' := 74) dX0_alter_71 rfl fRX0_18 (Nat.le_of_ble_eq_true rfl) (Nat.le_of_ble_eq_true rfl) rfl rfl hk rfl ?_
    exact w_vret dX0_alter_74 rfl ⟨rfl, by simp [alterF, slotF, *]⟩
  refine w_tc (2) (tgt := 48) dX0_alter_1 (by decide) (by decide) rfl rfl (fun e1_2 => ?_) (fun e1_2 => ?_)
  · refine w_aload_n (i := 0) (n' := 49) dX0_alter_48 rfl rfl rfl ?_
    refine w_iload_n (i := 2) (n' := 50) dX0_alter_49 rfl rfl rfl ?_
    refine w_put (ci := 0) (j := 2) (n' := 53) dX0_alter_50 rfl fRX0_15 (Nat.le_of_ble_eq_true rfl) (Nat.le_of_ble_eq_true rfl) rfl rfl hk rfl ?_
    refine w_goto (tgt := 69) dX0_alter_53 rfl ?_
    refine w_aload_n (i := 0) (n' := 70) dX0_alter_69 rfl rfl rfl ?_
    refine w_iconst (v := -1) (n' := 71) dX0_alter_70 rfl rfl ?_
    refine w_put (ci := 0) (j := 5) (n' := 74) dX0_alter_71 rfl fRX0_18 (Nat.le_of_ble_eq_true rfl) (Nat.le_of_ble_eq_true rfl) rfl rfl hk rfl ?_
    exact w_vret dX0_alter_74 rfl ⟨rfl, by simp [alterF, slotF, *]⟩
  refine w_tc (3) (tgt := 56) dX0_alter_1 (by decide) (by decide) rfl rfl (fun e1_3 => ?_) (fun e1_3 => ?_)
  · refine w_aload_n (i := 0) (n' := 57) dX0_alter_56 rfl rfl rfl ?_
    refine w_iload_n (i := 2) (n' := 58) dX0_alter_57 rfl rfl rfl ?_
    refine w_put (ci := 0) (j := 3) (n' := 61) dX0_alter_58 rfl fRX0_35 (Nat.le_of_ble_eq_true rfl) (Nat.le_of_ble_eq_true rfl) rfl rfl hk rfl ?_
    refine w_goto (tgt := 69) dX0_alter_61 rfl ?_
    refine w_aload_n (i := 0) (n' := 70) dX0_alter_69 rfl rfl rfl ?_
    refine w_iconst (v := -1) (n' := 71) dX0_alter_70 rfl rfl ?_
    refine w_put (ci := 0) (j := 5) (n' := 74) dX0_alter_71 rfl fRX0_18 (Nat.le_of_ble_eq_true rfl) (Nat.le_of_ble_eq_true rfl) rfl rfl hk rfl ?_
    exact w_vret dX0_alter_74 rfl ⟨rfl, by simp [alterF, slotF, *]⟩
  refine w_td [0, 1, 2, 3] (tgt := 64) dX0_alter_1 rfl (by decide) (List.forall_mem_cons.mpr ⟨e1_0, (List.forall_mem_cons.mpr ⟨e1_1, (List.forall_mem_cons.mpr ⟨e1_2, (List.forall_mem_cons.mpr ⟨e1_3, (fun _ h => absurd h List.not_mem_nil)⟩)⟩)⟩)⟩) ?_
  refine w_aload_n (i := 0) (n' := 65) dX0_alter_64 rfl rfl rfl ?_
  refine w_iload_n (i := 2) (n' := 66) dX0_alter_65 rfl rfl rfl ?_
  refine w_put (ci := 0) (j := 4) (n' := 69) dX0_alter_66 rfl fRX0_38 (Nat.le_of_ble_eq_true rfl) (Nat.le_of_ble_eq_true rfl) rfl rfl hk rfl ?_
  refine w_aload_n (i := 0) (n' := 70) dX0_alter_69 rfl rfl rfl ?_
  refine w_iconst (v := -1) (n' := 71) dX0_alter_70 rfl rfl ?_
  refine w_put (ci := 0) (j := 5) (n' := 74) dX0_alter_71 rfl fRX0_18 (Nat.le_of_ble_eq_true rfl) (Nat.le_of_ble_eq_true rfl) rfl rfl hk rfl ?_
  exact w_vret dX0_alter_74 rfl ⟨rfl, by simp [alterF, slotF, *]⟩
set_option maxHeartbeats 4000000 in
theorem c_tells {k : Nat} (hk : kd k = 0) (mem : Mem) : CnE mX0_tells [.ref k] mem (some (.int (tellF (mem k 0) (mem k 4)))) mem := by
  refine Cn.of (ls := [some (.ref k)]) (by decide) rfl (Nat.le_of_ble_eq_true rfl) ?_
  refine w_aload_n (i := 0) (n' := 1) dX0_tells_0 rfl rfl rfl ?_
  refine w_get (ci := 0) (j := 0) (n' := 4) dX0_tells_1 rfl fRX0_9 (Nat.le_of_ble_eq_true rfl) (Nat.le_of_ble_eq_true rfl) hk rfl ?_
  refine w_tc (1) (tgt := 44) dX0_tells_4 (by decide) (by decide) rfl rfl (fun e4_0 => ?_) (fun e4_0 => ?_)
  · refine w_iconst (v := 2) (n' := 45) dX0_tells_44 rfl rfl ?_
    exact w_iret dX0_tells_45 rfl ⟨by simp [tellF, *], rfl⟩
  refine w_tc (2) (tgt := 48) dX0_tells_4 (by decide) (by decide) rfl rfl (fun e4_1 => ?_) (fun e4_1 => ?_)
  · refine w_iconst (v := 3) (n' := 49) dX0_tells_48 rfl rfl ?_
    exact w_iret dX0_tells_49 rfl ⟨by simp [tellF, *], rfl⟩
  refine w_tc (3) (tgt := 50) dX0_tells_4 (by decide) (by decide) rfl rfl (fun e4_2 => ?_) (fun e4_2 => ?_)
  · refine w_bipush (v := -3) (n' := 52) dX0_tells_50 rfl (by decide) ?_
    exact w_iret dX0_tells_52 rfl ⟨by simp [tellF, *], rfl⟩
  refine w_tc (4) (tgt := 53) dX0_tells_4 (by decide) (by decide) rfl rfl (fun e4_3 => ?_) (fun e4_3 => ?_)
  · refine w_bipush (v := -3) (n' := 55) dX0_tells_53 rfl (by decide) ?_
    refine w_bipush (v := 9) (n' := 57) dX0_tells_55 rfl (by decide) ?_
    refine w_aload_n (i := 0) (n' := 58) dX0_tells_57 rfl rfl rfl ?_
    refine w_get (ci := 0) (j := 4) (n' := 61) dX0_tells_58 rfl fRX0_38 (Nat.le_of_ble_eq_true rfl) (Nat.le_of_ble_eq_true rfl) hk rfl ?_
    refine w_min (n' := 64) dX0_tells_61 rfl lRX0_63 ⟨Nat.le_of_ble_eq_true rfl, Nat.le_of_ble_eq_true rfl, Nat.le_of_ble_eq_true rfl, Nat.le_of_ble_eq_true rfl⟩ ?_
    refine w_iadd (n' := 65) dX0_tells_64 rfl ?_
    exact w_iret dX0_tells_65 rfl ⟨by simp [tellF, *], rfl⟩
  refine w_tc (5) (tgt := 66) dX0_tells_4 (by decide) (by decide) rfl rfl (fun e4_4 => ?_) (fun e4_4 => ?_)
  · refine w_iconst (v := 0) (n' := 67) dX0_tells_66 rfl rfl ?_
    exact w_iret dX0_tells_67 rfl ⟨by simp [tellF, *], rfl⟩
  refine w_tc (6) (tgt := 46) dX0_tells_4 (by decide) (by decide) rfl rfl (fun e4_5 => ?_) (fun e4_5 => ?_)
  · refine w_iconst (v := 4) (n' := 47) dX0_tells_46 rfl rfl ?_
    exact w_iret dX0_tells_47 rfl ⟨by simp [tellF, *], rfl⟩
  refine w_td [1, 2, 3, 4, 5, 6] (tgt := 68) dX0_tells_4 rfl (by decide) (List.forall_mem_cons.mpr ⟨e4_0, (List.forall_mem_cons.mpr ⟨e4_1, (List.forall_mem_cons.mpr ⟨e4_2, (List.forall_mem_cons.mpr ⟨e4_3, (List.forall_mem_cons.mpr ⟨e4_4, (List.forall_mem_cons.mpr ⟨e4_5, (fun _ h => absurd h List.not_mem_nil)⟩)⟩)⟩)⟩)⟩)⟩) ?_
  refine w_iconst (v := 1) (n' := 69) dX0_tells_68 rfl rfl ?_
  exact w_iret dX0_tells_69 rfl ⟨by simp [tellF, *], rfl⟩
set_option maxHeartbeats 4000000 in
theorem c_reapsOf {k : Nat} (hk : kd k = 0) (there wet : Int32) (mem : Mem) : CnE mX0_reapsOf [.ref k, .int there, .int wet] mem (some (.int (reapF (mem k 0) (mem k 2) wet there))) mem := by
  refine Cn.of (ls := [some (.ref k), some (.int there), some (.int wet), none, none, none, none]) (by decide) rfl (Nat.le_of_ble_eq_true rfl) ?_
  refine w_iconst (v := 1) (n' := 1) dX0_reapsOf_0 rfl rfl ?_
  refine w_iconst (v := 2) (n' := 2) dX0_reapsOf_1 rfl rfl ?_
  refine w_aload_n (i := 0) (n' := 3) dX0_reapsOf_2 rfl rfl rfl ?_
  refine w_get (ci := 0) (j := 2) (n' := 6) dX0_reapsOf_3 rfl fRX0_15 (Nat.le_of_ble_eq_true rfl) (Nat.le_of_ble_eq_true rfl) hk rfl ?_
  refine w_imul (n' := 7) dX0_reapsOf_6 rfl ?_
  refine w_iload_n (i := 2) (n' := 8) dX0_reapsOf_7 rfl rfl rfl ?_
  refine w_bipush (v := 10) (n' := 10) dX0_reapsOf_8 rfl (by decide) ?_
  refine w_idiv (n' := 11) dX0_reapsOf_10 rfl (by decide) ?_
  refine w_isub (n' := 12) dX0_reapsOf_11 rfl ?_
  refine w_max (n' := 15) dX0_reapsOf_12 rfl lRX0_47 ⟨Nat.le_of_ble_eq_true rfl, Nat.le_of_ble_eq_true rfl, Nat.le_of_ble_eq_true rfl, Nat.le_of_ble_eq_true rfl⟩ ?_
  refine w_istore_n (i := 3) (n' := 16) (ls' := [_, _, _, _, _, _, _]) dX0_reapsOf_15 rfl rfl (Nat.le_of_ble_eq_true rfl) rfl rfl ?_
  refine w_iconst (v := 1) (n' := 17) dX0_reapsOf_16 rfl rfl ?_
  refine w_iload_n (i := 3) (n' := 18) dX0_reapsOf_17 rfl rfl rfl ?_
  refine w_iconst (v := 2) (n' := 19) dX0_reapsOf_18 rfl rfl ?_
  refine w_idiv (n' := 20) dX0_reapsOf_19 rfl (by decide) ?_
  refine w_max (n' := 23) dX0_reapsOf_20 rfl lRX0_47 ⟨Nat.le_of_ble_eq_true rfl, Nat.le_of_ble_eq_true rfl, Nat.le_of_ble_eq_true rfl, Nat.le_of_ble_eq_true rfl⟩ ?_
  refine w_istore (n' := 25) (ls' := [_, _, _, _, _, _, _]) dX0_reapsOf_23 rfl (Nat.le_of_ble_eq_true rfl) rfl rfl ?_
  refine w_iload_n (i := 3) (n' := 26) dX0_reapsOf_25 rfl rfl rfl ?_
  refine w_iconst (v := 3) (n' := 27) dX0_reapsOf_26 rfl rfl ?_
  refine w_iadd (n' := 28) dX0_reapsOf_27 rfl ?_
  refine w_istore (n' := 30) (ls' := [_, _, _, _, _, _, _]) dX0_reapsOf_28 rfl (Nat.le_of_ble_eq_true rfl) rfl rfl ?_
  refine w_iload_n (i := 1) (n' := 31) dX0_reapsOf_30 rfl rfl rfl ?_
  refine w_bipush (v := 20) (n' := 33) dX0_reapsOf_31 rfl (by decide) ?_
  refine w_icmp_gt (n' := 36) (tgt := 43) dX0_reapsOf_33 rfl rfl (fun h33 => ?_) (fun h33 => ?_)
  · refine w_iload (n' := 45) dX0_reapsOf_43 rfl rfl ?_
    refine w_istore (n' := 47) (ls' := [_, _, _, _, _, _, _]) dX0_reapsOf_45 rfl (Nat.le_of_ble_eq_true rfl) rfl rfl ?_
    refine w_aload_n (i := 0) (n' := 48) dX0_reapsOf_47 rfl rfl rfl ?_
    refine w_get (ci := 0) (j := 0) (n' := 51) dX0_reapsOf_48 rfl fRX0_9 (Nat.le_of_ble_eq_true rfl) (Nat.le_of_ble_eq_true rfl) hk rfl ?_
    refine w_tc (1) (tgt := 88) dX0_reapsOf_51 (by decide) (by decide) rfl rfl (fun e51_0 => ?_) (fun e51_0 => ?_)
    · refine w_iload (n' := 90) dX0_reapsOf_88 rfl rfl ?_
      exact w_iret dX0_reapsOf_90 rfl ⟨by simp [reapF, *], rfl⟩
    refine w_tc (2) (tgt := 100) dX0_reapsOf_51 (by decide) (by decide) rfl rfl (fun e51_1 => ?_) (fun e51_1 => ?_)
    · refine w_iload (n' := 102) dX0_reapsOf_100 rfl rfl ?_
      exact w_iret dX0_reapsOf_102 rfl ⟨by simp [reapF, *], rfl⟩
    refine w_tc (3) (tgt := 103) dX0_reapsOf_51 (by decide) (by decide) rfl rfl (fun e51_2 => ?_) (fun e51_2 => ?_)
    · refine w_iload (n' := 105) dX0_reapsOf_103 rfl rfl ?_
      exact w_iret dX0_reapsOf_105 rfl ⟨by simp [reapF, *], rfl⟩
    refine w_tc (4) (tgt := 106) dX0_reapsOf_51 (by decide) (by decide) rfl rfl (fun e51_3 => ?_) (fun e51_3 => ?_)
    · refine w_iload_n (i := 1) (n' := 107) dX0_reapsOf_106 rfl rfl rfl ?_
      refine w_iconst (v := 5) (n' := 108) dX0_reapsOf_107 rfl rfl ?_
      refine w_icmp_gt (n' := 111) (tgt := 115) dX0_reapsOf_108 rfl rfl (fun h108 => ?_) (fun h108 => ?_)
      · refine w_iload (n' := 117) dX0_reapsOf_115 rfl rfl ?_
        exact w_iret dX0_reapsOf_117 rfl ⟨by simp [reapF, *], rfl⟩
      · refine w_iconst (v := 1) (n' := 112) dX0_reapsOf_111 rfl rfl ?_
        refine w_goto (tgt := 117) dX0_reapsOf_112 rfl ?_
        exact w_iret dX0_reapsOf_117 rfl ⟨by simp [reapF, *], rfl⟩
    refine w_tc (5) (tgt := 118) dX0_reapsOf_51 (by decide) (by decide) rfl rfl (fun e51_4 => ?_) (fun e51_4 => ?_)
    · refine w_iload_n (i := 2) (n' := 119) dX0_reapsOf_118 rfl rfl rfl ?_
      refine w_bipush (v := 50) (n' := 121) dX0_reapsOf_119 rfl (by decide) ?_
      refine w_icmp_ge (n' := 124) (tgt := 129) dX0_reapsOf_121 rfl rfl (fun h121 => ?_) (fun h121 => ?_)
      · refine w_iconst (v := 2) (n' := 130) dX0_reapsOf_129 rfl rfl ?_
        exact w_iret dX0_reapsOf_130 rfl ⟨by simp [reapF, *], rfl⟩
      · refine w_bipush (v := 30) (n' := 126) dX0_reapsOf_124 rfl (by decide) ?_
        refine w_goto (tgt := 130) dX0_reapsOf_126 rfl ?_
        exact w_iret dX0_reapsOf_130 rfl ⟨by simp [reapF, *], rfl⟩
    refine w_tc (6) (tgt := 91) dX0_reapsOf_51 (by decide) (by decide) rfl rfl (fun e51_5 => ?_) (fun e51_5 => ?_)
    · refine w_iconst (v := 1) (n' := 92) dX0_reapsOf_91 rfl rfl ?_
      refine w_iload (n' := 94) dX0_reapsOf_92 rfl rfl ?_
      refine w_iconst (v := 1) (n' := 95) dX0_reapsOf_94 rfl rfl ?_
      refine w_isub (n' := 96) dX0_reapsOf_95 rfl ?_
      refine w_max (n' := 99) dX0_reapsOf_96 rfl lRX0_47 ⟨Nat.le_of_ble_eq_true rfl, Nat.le_of_ble_eq_true rfl, Nat.le_of_ble_eq_true rfl, Nat.le_of_ble_eq_true rfl⟩ ?_
      exact w_iret dX0_reapsOf_99 rfl ⟨by simp [reapF, *], rfl⟩
    refine w_td [1, 2, 3, 4, 5, 6] (tgt := 131) dX0_reapsOf_51 rfl (by decide) (List.forall_mem_cons.mpr ⟨e51_0, (List.forall_mem_cons.mpr ⟨e51_1, (List.forall_mem_cons.mpr ⟨e51_2, (List.forall_mem_cons.mpr ⟨e51_3, (List.forall_mem_cons.mpr ⟨e51_4, (List.forall_mem_cons.mpr ⟨e51_5, (fun _ h => absurd h List.not_mem_nil)⟩)⟩)⟩)⟩)⟩)⟩) ?_
    refine w_iload_n (i := 3) (n' := 132) dX0_reapsOf_131 rfl rfl rfl ?_
    exact w_iret dX0_reapsOf_132 rfl ⟨by simp [reapF, *], rfl⟩
  · refine w_iload (n' := 38) dX0_reapsOf_36 rfl rfl ?_
    refine w_iconst (v := 2) (n' := 39) dX0_reapsOf_38 rfl rfl ?_
    refine w_idiv (n' := 40) dX0_reapsOf_39 rfl (by decide) ?_
    refine w_goto (tgt := 45) dX0_reapsOf_40 rfl ?_
    refine w_istore (n' := 47) (ls' := [_, _, _, _, _, _, _]) dX0_reapsOf_45 rfl (Nat.le_of_ble_eq_true rfl) rfl rfl ?_
    refine w_aload_n (i := 0) (n' := 48) dX0_reapsOf_47 rfl rfl rfl ?_
    refine w_get (ci := 0) (j := 0) (n' := 51) dX0_reapsOf_48 rfl fRX0_9 (Nat.le_of_ble_eq_true rfl) (Nat.le_of_ble_eq_true rfl) hk rfl ?_
    refine w_tc (1) (tgt := 88) dX0_reapsOf_51 (by decide) (by decide) rfl rfl (fun e51_0 => ?_) (fun e51_0 => ?_)
    · refine w_iload (n' := 90) dX0_reapsOf_88 rfl rfl ?_
      exact w_iret dX0_reapsOf_90 rfl ⟨by simp [reapF, *], rfl⟩
    refine w_tc (2) (tgt := 100) dX0_reapsOf_51 (by decide) (by decide) rfl rfl (fun e51_1 => ?_) (fun e51_1 => ?_)
    · refine w_iload (n' := 102) dX0_reapsOf_100 rfl rfl ?_
      exact w_iret dX0_reapsOf_102 rfl ⟨by simp [reapF, *], rfl⟩
    refine w_tc (3) (tgt := 103) dX0_reapsOf_51 (by decide) (by decide) rfl rfl (fun e51_2 => ?_) (fun e51_2 => ?_)
    · refine w_iload (n' := 105) dX0_reapsOf_103 rfl rfl ?_
      exact w_iret dX0_reapsOf_105 rfl ⟨by simp [reapF, *], rfl⟩
    refine w_tc (4) (tgt := 106) dX0_reapsOf_51 (by decide) (by decide) rfl rfl (fun e51_3 => ?_) (fun e51_3 => ?_)
    · refine w_iload_n (i := 1) (n' := 107) dX0_reapsOf_106 rfl rfl rfl ?_
      refine w_iconst (v := 5) (n' := 108) dX0_reapsOf_107 rfl rfl ?_
      refine w_icmp_gt (n' := 111) (tgt := 115) dX0_reapsOf_108 rfl rfl (fun h108 => ?_) (fun h108 => ?_)
      · refine w_iload (n' := 117) dX0_reapsOf_115 rfl rfl ?_
        exact w_iret dX0_reapsOf_117 rfl ⟨by simp [reapF, *], rfl⟩
      · refine w_iconst (v := 1) (n' := 112) dX0_reapsOf_111 rfl rfl ?_
        refine w_goto (tgt := 117) dX0_reapsOf_112 rfl ?_
        exact w_iret dX0_reapsOf_117 rfl ⟨by simp [reapF, *], rfl⟩
    refine w_tc (5) (tgt := 118) dX0_reapsOf_51 (by decide) (by decide) rfl rfl (fun e51_4 => ?_) (fun e51_4 => ?_)
    · refine w_iload_n (i := 2) (n' := 119) dX0_reapsOf_118 rfl rfl rfl ?_
      refine w_bipush (v := 50) (n' := 121) dX0_reapsOf_119 rfl (by decide) ?_
      refine w_icmp_ge (n' := 124) (tgt := 129) dX0_reapsOf_121 rfl rfl (fun h121 => ?_) (fun h121 => ?_)
      · refine w_iconst (v := 2) (n' := 130) dX0_reapsOf_129 rfl rfl ?_
        exact w_iret dX0_reapsOf_130 rfl ⟨by simp [reapF, *], rfl⟩
      · refine w_bipush (v := 30) (n' := 126) dX0_reapsOf_124 rfl (by decide) ?_
        refine w_goto (tgt := 130) dX0_reapsOf_126 rfl ?_
        exact w_iret dX0_reapsOf_130 rfl ⟨by simp [reapF, *], rfl⟩
    refine w_tc (6) (tgt := 91) dX0_reapsOf_51 (by decide) (by decide) rfl rfl (fun e51_5 => ?_) (fun e51_5 => ?_)
    · refine w_iconst (v := 1) (n' := 92) dX0_reapsOf_91 rfl rfl ?_
      refine w_iload (n' := 94) dX0_reapsOf_92 rfl rfl ?_
      refine w_iconst (v := 1) (n' := 95) dX0_reapsOf_94 rfl rfl ?_
      refine w_isub (n' := 96) dX0_reapsOf_95 rfl ?_
      refine w_max (n' := 99) dX0_reapsOf_96 rfl lRX0_47 ⟨Nat.le_of_ble_eq_true rfl, Nat.le_of_ble_eq_true rfl, Nat.le_of_ble_eq_true rfl, Nat.le_of_ble_eq_true rfl⟩ ?_
      exact w_iret dX0_reapsOf_99 rfl ⟨by simp [reapF, *], rfl⟩
    refine w_td [1, 2, 3, 4, 5, 6] (tgt := 131) dX0_reapsOf_51 rfl (by decide) (List.forall_mem_cons.mpr ⟨e51_0, (List.forall_mem_cons.mpr ⟨e51_1, (List.forall_mem_cons.mpr ⟨e51_2, (List.forall_mem_cons.mpr ⟨e51_3, (List.forall_mem_cons.mpr ⟨e51_4, (List.forall_mem_cons.mpr ⟨e51_5, (fun _ h => absurd h List.not_mem_nil)⟩)⟩)⟩)⟩)⟩)⟩) ?_
    refine w_iload_n (i := 3) (n' := 132) dX0_reapsOf_131 rfl rfl rfl ?_
    exact w_iret dX0_reapsOf_132 rfl ⟨by simp [reapF, *], rfl⟩
set_option maxHeartbeats 4000000 in
theorem c_daysDownTo (fl sh re : Int32) (mem : Mem) : CnE mX0_daysDownTo [.int fl, .int sh, .int re] mem (some (.int (downF fl sh re))) mem := by
  refine Cn.of (ls := [some (.int fl), some (.int sh), some (.int re)]) (by decide) rfl (Nat.le_of_ble_eq_true rfl) ?_
  refine w_iload_n (i := 1) (n' := 1) dX0_daysDownTo_0 rfl rfl rfl ?_
  refine w_iload_n (i := 0) (n' := 2) dX0_daysDownTo_1 rfl rfl rfl ?_
  refine w_icmp_le (n' := 5) (tgt := 10) dX0_daysDownTo_2 rfl rfl (fun h2 => ?_) (fun h2 => ?_)
  · refine w_iconst (v := 0) (n' := 11) dX0_daysDownTo_10 rfl rfl ?_
    exact w_iret dX0_daysDownTo_11 rfl ⟨by simp [downF, *], rfl⟩
  · refine w_iload_n (i := 2) (n' := 6) dX0_daysDownTo_5 rfl rfl rfl ?_
    refine w_iconst (v := 1) (n' := 7) dX0_daysDownTo_6 rfl rfl ?_
    refine w_icmp_ge (n' := 10) (tgt := 12) dX0_daysDownTo_7 rfl rfl (fun h7 => ?_) (fun h7 => ?_)
    · refine w_iload_n (i := 1) (n' := 13) dX0_daysDownTo_12 rfl rfl rfl ?_
      refine w_iload_n (i := 0) (n' := 14) dX0_daysDownTo_13 rfl rfl rfl ?_
      refine w_isub (n' := 15) dX0_daysDownTo_14 rfl ?_
      refine w_iload_n (i := 2) (n' := 16) dX0_daysDownTo_15 rfl rfl rfl ?_
      refine w_iadd (n' := 17) dX0_daysDownTo_16 rfl ?_
      refine w_iconst (v := 1) (n' := 18) dX0_daysDownTo_17 rfl rfl ?_
      refine w_isub (n' := 19) dX0_daysDownTo_18 rfl ?_
      refine w_iload_n (i := 2) (n' := 20) dX0_daysDownTo_19 rfl rfl rfl ?_
      refine w_idiv (n' := 21) dX0_daysDownTo_20 rfl (fun e => absurd h7 (by rw [e]; decide)) ?_
      exact w_iret dX0_daysDownTo_21 rfl ⟨by simp [downF, *], rfl⟩
    · refine w_iconst (v := 0) (n' := 11) dX0_daysDownTo_10 rfl rfl ?_
      exact w_iret dX0_daysDownTo_11 rfl ⟨by simp [downF, *], rfl⟩

theorem up2_eq (m : Mem) (k j : Nat) (x : Int32) : up2 m k j x = upR m k (upd (m k) j x) := rfl
theorem upR_same (m : Mem) (k : Nat) (f : Nat → Int32) : upR m k f k = f := by simp [upR]
theorem upR_ne (m : Mem) {k a : Nat} (f : Nat → Int32) (h : a ≠ k) : upR m k f a = m a := by simp [upR, h]
theorem upR_upR (m : Mem) (k : Nat) (f g : Nat → Int32) : upR (upR m k f) k g = upR m k g := by
  funext a
  by_cases h : a = k <;> simp [upR, h]
theorem upR_self (m : Mem) (k : Nat) : upR m k (m k) = m := by
  funext a
  by_cases h : a = k <;> simp [upR, h]
def isCa (k j : Nat) : Bool := kd k == 0 && (j == 5 || j == 6)
/-- the memory without what the farms keep of their days -/
def pr (m : Mem) : Mem := fun k j => if isCa k j then 0 else m k j
theorem pr_j {m : Mem} {k j : Nat} (h : j < 5) : pr m k j = m k j := by
  have : isCa k j = false := by simp [isCa]; omega
  simp [pr, this]
theorem pr_k {m : Mem} {k : Nat} (h : kd k ≠ 0) : pr m k = m k := by
  funext j
  have : isCa k j = false := by simp [isCa, h]
  simp [pr, this]
theorem pr_at {m m' : Mem} {k j : Nat} (h : pr m' = pr m) (hc : isCa k j = false) : m' k j = m k j := by
  have := congrFun (congrFun h k) j
  simpa [pr, hc] using this
/-- one stretch of reaping down to a floor -/
def strF (kind hands wet : Int32) (floor : Int32) (q : Int32 × Int32) : Int32 × Int32 := (q.1 - downF floor q.1 (reapF kind hands wet q.1) * reapF kind hands wet q.1, q.2 + downF floor q.1 (reapF kind hands wet q.1))
def dayI (kind field hands wet : Int32) : Int32 := (strF kind hands wet 0 (strF kind hands wet 5 (strF kind hands wet 20 (field, 0)))).2
def CaOK (m : Mem) : Prop := ∀ k, kd k = 0 → m k 5 = -1 ∨ m k 6 = dayI (m k 0) (m k 1) (m k 2) (m k 5)
def lefF (kind hands wet : Int32) (floor : Int32) (q : Int32 × Int32) : Int32 × Int32 := (q.1 - minI q.2 (downF floor q.1 (reapF kind hands wet q.1)) * reapF kind hands wet q.1, q.2 - minI q.2 (downF floor q.1 (reapF kind hands wet q.1)))
def leftI (kind field hands wet n : Int32) : Int32 := maxI 0 (lefF kind hands wet 0 (lefF kind hands wet 5 (lefF kind hands wet 20 (field, n)))).1
def beginF (f : Nat → Int32) (kind field : Int32) : Nat → Int32 := upd (upd (upd (upd (upd (upd f 0 kind) 1 field) 2 4) 3 0) 4 0) 5 (-1)
def copy7 (f g : Nat → Int32) : Nat → Int32 := upd (upd (upd (upd (upd (upd (upd f 0 (g 0)) 1 (g 1)) 2 (g 2)) 3 (g 3)) 4 (g 4)) 5 (g 5)) 6 (g 6)
def hasF (f : Nat → Int32) : Nat → Int32 := if f 2 < 20 then upd (upd (upd f 4 (minI 9999 (f 4 + 1))) 2 (f 2 + 1)) 5 (-1) else upd f 4 (minI 9999 (f 4 + 1))
def loseF (f : Nat → Int32) : Nat → Int32 := if 1 < f 2 then upd (upd f 2 (f 2 - 1)) 5 (-1) else f
def heedF (f : Nat → Int32) (lean : Int32) : Nat → Int32 := if 0 < lean then upd f 3 (minI 9 (f 3 + 1)) else if lean < 0 then upd f 3 (maxI (-9) (f 3 - 1)) else f
def kindUp : Nat → Nat → Bool
  | 0, a => a == 0
  | 1, a => a == 1 || a == 0
  | 2, a => a == 2 || a == 0
  | 3, a => a == 3 || a == 2 || a == 0
  | 4, a => a == 4 || a == 3 || a == 2 || a == 0
  | 5, a => a == 5 || a == 0
  | _, a => a == 6 || a == 1 || a == 0
set_option maxHeartbeats 4000000 in
theorem c_begin {k : Nat} (hk : kd k = 0) (a b : Int32) (mem : Mem) : CnE mX0_begin [.ref k, .int a, .int b] mem none (upR mem k (beginF (mem k) a b)) := by
  refine Cn.of (ls := [some (.ref k), some (.int a), some (.int b)]) (by decide) rfl (Nat.le_of_ble_eq_true rfl) ?_
  refine w_aload_n (i := 0) (n' := 1) dX0_begin_0 rfl rfl rfl ?_
  refine w_iload_n (i := 1) (n' := 2) dX0_begin_1 rfl rfl rfl ?_
  refine w_put (ci := 0) (j := 0) (n' := 5) dX0_begin_2 rfl fRX0_9 (Nat.le_of_ble_eq_true rfl) (Nat.le_of_ble_eq_true rfl) rfl rfl hk rfl ?_
  refine w_aload_n (i := 0) (n' := 6) dX0_begin_5 rfl rfl rfl ?_
  refine w_iload_n (i := 2) (n' := 7) dX0_begin_6 rfl rfl rfl ?_
  refine w_put (ci := 0) (j := 1) (n' := 10) dX0_begin_7 rfl fRX0_32 (Nat.le_of_ble_eq_true rfl) (Nat.le_of_ble_eq_true rfl) rfl rfl hk rfl ?_
  refine w_aload_n (i := 0) (n' := 11) dX0_begin_10 rfl rfl rfl ?_
  refine w_iconst (v := 4) (n' := 12) dX0_begin_11 rfl rfl ?_
  refine w_put (ci := 0) (j := 2) (n' := 15) dX0_begin_12 rfl fRX0_15 (Nat.le_of_ble_eq_true rfl) (Nat.le_of_ble_eq_true rfl) rfl rfl hk rfl ?_
  refine w_aload_n (i := 0) (n' := 16) dX0_begin_15 rfl rfl rfl ?_
  refine w_iconst (v := 0) (n' := 17) dX0_begin_16 rfl rfl ?_
  refine w_put (ci := 0) (j := 3) (n' := 20) dX0_begin_17 rfl fRX0_35 (Nat.le_of_ble_eq_true rfl) (Nat.le_of_ble_eq_true rfl) rfl rfl hk rfl ?_
  refine w_aload_n (i := 0) (n' := 21) dX0_begin_20 rfl rfl rfl ?_
  refine w_iconst (v := 0) (n' := 22) dX0_begin_21 rfl rfl ?_
  refine w_put (ci := 0) (j := 4) (n' := 25) dX0_begin_22 rfl fRX0_38 (Nat.le_of_ble_eq_true rfl) (Nat.le_of_ble_eq_true rfl) rfl rfl hk rfl ?_
  refine w_aload_n (i := 0) (n' := 26) dX0_begin_25 rfl rfl rfl ?_
  refine w_iconst (v := -1) (n' := 27) dX0_begin_26 rfl rfl ?_
  refine w_put (ci := 0) (j := 5) (n' := 30) dX0_begin_27 rfl fRX0_18 (Nat.le_of_ble_eq_true rfl) (Nat.le_of_ble_eq_true rfl) rfl rfl hk rfl ?_
  exact w_vret dX0_begin_30 rfl ⟨rfl, by simp only [up2_eq, upR_upR, upR_same, beginF]⟩
set_option maxHeartbeats 4000000 in
theorem c_farmBecomes {k o : Nat} (hk : kd k = 0) (ho : kd o = 0) (hne : o ≠ k) (mem : Mem) : CnE mX0_becomes [.ref k, .ref o] mem none (upR mem k (copy7 (mem k) (mem o))) := by
  refine Cn.of (ls := [some (.ref k), some (.ref o)]) (by decide) rfl (Nat.le_of_ble_eq_true rfl) ?_
  refine w_aload_n (i := 0) (n' := 1) dX0_becomes_0 rfl rfl rfl ?_
  refine w_aload_n (i := 1) (n' := 2) dX0_becomes_1 rfl rfl rfl ?_
  refine w_get (ci := 0) (j := 0) (n' := 5) dX0_becomes_2 rfl fRX0_9 (Nat.le_of_ble_eq_true rfl) (Nat.le_of_ble_eq_true rfl) (by first | exact hk | exact ho) rfl ?_
  refine w_put (ci := 0) (j := 0) (n' := 8) dX0_becomes_5 rfl fRX0_9 (Nat.le_of_ble_eq_true rfl) (Nat.le_of_ble_eq_true rfl) rfl rfl (by first | exact hk | exact ho) rfl ?_
  refine w_aload_n (i := 0) (n' := 9) dX0_becomes_8 rfl rfl rfl ?_
  refine w_aload_n (i := 1) (n' := 10) dX0_becomes_9 rfl rfl rfl ?_
  refine w_get (ci := 0) (j := 1) (n' := 13) dX0_becomes_10 rfl fRX0_32 (Nat.le_of_ble_eq_true rfl) (Nat.le_of_ble_eq_true rfl) (by first | exact hk | exact ho) rfl ?_
  refine w_put (ci := 0) (j := 1) (n' := 16) dX0_becomes_13 rfl fRX0_32 (Nat.le_of_ble_eq_true rfl) (Nat.le_of_ble_eq_true rfl) rfl rfl (by first | exact hk | exact ho) rfl ?_
  refine w_aload_n (i := 0) (n' := 17) dX0_becomes_16 rfl rfl rfl ?_
  refine w_aload_n (i := 1) (n' := 18) dX0_becomes_17 rfl rfl rfl ?_
  refine w_get (ci := 0) (j := 2) (n' := 21) dX0_becomes_18 rfl fRX0_15 (Nat.le_of_ble_eq_true rfl) (Nat.le_of_ble_eq_true rfl) (by first | exact hk | exact ho) rfl ?_
  refine w_put (ci := 0) (j := 2) (n' := 24) dX0_becomes_21 rfl fRX0_15 (Nat.le_of_ble_eq_true rfl) (Nat.le_of_ble_eq_true rfl) rfl rfl (by first | exact hk | exact ho) rfl ?_
  refine w_aload_n (i := 0) (n' := 25) dX0_becomes_24 rfl rfl rfl ?_
  refine w_aload_n (i := 1) (n' := 26) dX0_becomes_25 rfl rfl rfl ?_
  refine w_get (ci := 0) (j := 3) (n' := 29) dX0_becomes_26 rfl fRX0_35 (Nat.le_of_ble_eq_true rfl) (Nat.le_of_ble_eq_true rfl) (by first | exact hk | exact ho) rfl ?_
  refine w_put (ci := 0) (j := 3) (n' := 32) dX0_becomes_29 rfl fRX0_35 (Nat.le_of_ble_eq_true rfl) (Nat.le_of_ble_eq_true rfl) rfl rfl (by first | exact hk | exact ho) rfl ?_
  refine w_aload_n (i := 0) (n' := 33) dX0_becomes_32 rfl rfl rfl ?_
  refine w_aload_n (i := 1) (n' := 34) dX0_becomes_33 rfl rfl rfl ?_
  refine w_get (ci := 0) (j := 4) (n' := 37) dX0_becomes_34 rfl fRX0_38 (Nat.le_of_ble_eq_true rfl) (Nat.le_of_ble_eq_true rfl) (by first | exact hk | exact ho) rfl ?_
  refine w_put (ci := 0) (j := 4) (n' := 40) dX0_becomes_37 rfl fRX0_38 (Nat.le_of_ble_eq_true rfl) (Nat.le_of_ble_eq_true rfl) rfl rfl (by first | exact hk | exact ho) rfl ?_
  refine w_aload_n (i := 0) (n' := 41) dX0_becomes_40 rfl rfl rfl ?_
  refine w_aload_n (i := 1) (n' := 42) dX0_becomes_41 rfl rfl rfl ?_
  refine w_get (ci := 0) (j := 5) (n' := 45) dX0_becomes_42 rfl fRX0_18 (Nat.le_of_ble_eq_true rfl) (Nat.le_of_ble_eq_true rfl) (by first | exact hk | exact ho) rfl ?_
  refine w_put (ci := 0) (j := 5) (n' := 48) dX0_becomes_45 rfl fRX0_18 (Nat.le_of_ble_eq_true rfl) (Nat.le_of_ble_eq_true rfl) rfl rfl (by first | exact hk | exact ho) rfl ?_
  refine w_aload_n (i := 0) (n' := 49) dX0_becomes_48 rfl rfl rfl ?_
  refine w_aload_n (i := 1) (n' := 50) dX0_becomes_49 rfl rfl rfl ?_
  refine w_get (ci := 0) (j := 6) (n' := 53) dX0_becomes_50 rfl fRX0_41 (Nat.le_of_ble_eq_true rfl) (Nat.le_of_ble_eq_true rfl) (by first | exact hk | exact ho) rfl ?_
  refine w_put (ci := 0) (j := 6) (n' := 56) dX0_becomes_53 rfl fRX0_41 (Nat.le_of_ble_eq_true rfl) (Nat.le_of_ble_eq_true rfl) rfl rfl (by first | exact hk | exact ho) rfl ?_
  exact w_vret dX0_becomes_56 rfl ⟨rfl, by simp only [up2_eq, upR_upR, upR_same, copy7, upR_ne _ _ hne]⟩
theorem inR_of {x M : Int32} {N : Nat} (hM : M.toInt = N) (h : ¬ inR x 0 M = 0) : ∃ n, n ≤ N ∧ x = nI n := by
  unfold inR at h
  by_cases h1 : x < 0
  · simp [h1] at h
  · by_cases h2 : M < x
    · simp [h1, h2] at h
    · exact nI_of2 hM h1 (by rw [Int32.le_iff_toInt_le]; rw [Int32.lt_iff_toInt_lt] at h2; omega)
theorem inR_iff {x a b : Int32} : inR x a b = 1 ↔ a.toInt ≤ x.toInt ∧ x.toInt ≤ b.toInt := by
  unfold inR
  by_cases h1 : x < a
  · have := Int32.lt_iff_toInt_lt.mp h1
    simp [h1]; omega
  · have h3 : ¬ x.toInt < a.toInt := fun q => h1 (Int32.lt_iff_toInt_lt.mpr q)
    by_cases h2 : b < x
    · have := Int32.lt_iff_toInt_lt.mp h2
      simp [h1, h2]; omega
    · have h4 : ¬ b.toInt < x.toInt := fun q => h2 (Int32.lt_iff_toInt_lt.mpr q)
      simp [h1, h2]; omega
theorem inR_01 (x a b : Int32) : inR x a b = 0 ∨ inR x a b = 1 := by
  unfold inR
  by_cases h1 : x < a
  · simp [h1]
  · by_cases h2 : b < x
    · simp [h1, h2]
    · right; rw [if_neg h1, if_neg h2]
def mayI (what v : Int32) : Int32 := if inR what 0 4 = 0 then 0 else inR v ((stL 0).getD what.toNatClampNeg 0) ((stL 1).getD what.toNatClampNeg 0)
set_option maxHeartbeats 4000000 in
theorem c_hasTheSheaf {k : Nat} (hk : kd k = 0) (mem : Mem) : CnE mX0_hasTheSheaf [.ref k] mem none (upR mem k (hasF (mem k))) := by
  refine Cn.of (ls := [some (.ref k)]) (by decide) rfl (Nat.le_of_ble_eq_true rfl) ?_
  refine w_aload_n (i := 0) (n' := 1) dX0_hasTheSheaf_0 rfl rfl rfl ?_
  refine w_gets (t := 1) (n' := 4) dX0_hasTheSheaf_1 rfl fRX0_29 (Nat.le_of_ble_eq_true rfl) ?_
  refine w_iconst (v := 4) (n' := 5) dX0_hasTheSheaf_4 rfl rfl ?_
  refine w_ialdV (t := 1) (n := 4) (v := 9999) (n' := 6) dX0_hasTheSheaf_5 rfl (Nat.le_of_ble_eq_true rfl) (by decide) (by decide) rfl ?_
  refine w_aload_n (i := 0) (n' := 7) dX0_hasTheSheaf_6 rfl rfl rfl ?_
  refine w_get (ci := 0) (j := 4) (n' := 10) dX0_hasTheSheaf_7 rfl fRX0_38 (Nat.le_of_ble_eq_true rfl) (Nat.le_of_ble_eq_true rfl) hk rfl ?_
  refine w_iconst (v := 1) (n' := 11) dX0_hasTheSheaf_10 rfl rfl ?_
  refine w_iadd (n' := 12) dX0_hasTheSheaf_11 rfl ?_
  refine w_min (n' := 15) dX0_hasTheSheaf_12 rfl lRX0_63 ⟨Nat.le_of_ble_eq_true rfl, Nat.le_of_ble_eq_true rfl, Nat.le_of_ble_eq_true rfl, Nat.le_of_ble_eq_true rfl⟩ ?_
  refine w_put (ci := 0) (j := 4) (n' := 18) dX0_hasTheSheaf_15 rfl fRX0_38 (Nat.le_of_ble_eq_true rfl) (Nat.le_of_ble_eq_true rfl) rfl rfl hk rfl ?_
  refine w_aload_n (i := 0) (n' := 19) dX0_hasTheSheaf_18 rfl rfl rfl ?_
  refine w_get (ci := 0) (j := 2) (n' := 22) dX0_hasTheSheaf_19 rfl fRX0_15 (Nat.le_of_ble_eq_true rfl) (Nat.le_of_ble_eq_true rfl) hk rfl ?_
  refine w_gets (t := 1) (n' := 25) dX0_hasTheSheaf_22 rfl fRX0_29 (Nat.le_of_ble_eq_true rfl) ?_
  refine w_iconst (v := 2) (n' := 26) dX0_hasTheSheaf_25 rfl rfl ?_
  refine w_ialdV (t := 1) (n := 2) (v := 20) (n' := 27) dX0_hasTheSheaf_26 rfl (Nat.le_of_ble_eq_true rfl) (by decide) (by decide) rfl ?_
  refine w_icmp_ge (n' := 30) (tgt := 41) dX0_hasTheSheaf_27 rfl rfl (fun h27 => ?_) (fun h27 => ?_)
  · exact w_vret dX0_hasTheSheaf_41 rfl ⟨rfl, by first | (have h9 : ¬ mem k 2 < 20 := (by simpa [up2_eq, upR_same, upd, Int32.not_lt] using h27); simp [up2_eq, upR_upR, upR_same, hasF, h9]; done) | (have h9 : mem k 2 < 20 := (by simpa [up2_eq, upR_same, upd, Int32.not_le] using h27); simp [alterF, slotF, up2_eq, upR_upR, upR_same, hasF, h9]; simp [upd])⟩
  · refine w_aload_n (i := 0) (n' := 31) dX0_hasTheSheaf_30 rfl rfl rfl ?_
    refine w_iconst (v := 2) (n' := 32) dX0_hasTheSheaf_31 rfl rfl ?_
    refine w_aload_n (i := 0) (n' := 33) dX0_hasTheSheaf_32 rfl rfl rfl ?_
    refine w_get (ci := 0) (j := 2) (n' := 36) dX0_hasTheSheaf_33 rfl fRX0_15 (Nat.le_of_ble_eq_true rfl) (Nat.le_of_ble_eq_true rfl) hk rfl ?_
    refine w_iconst (v := 1) (n' := 37) dX0_hasTheSheaf_36 rfl rfl ?_
    refine w_iadd (n' := 38) dX0_hasTheSheaf_37 rfl ?_
    refine v_E (ci := 0) (n' := 41) dX0_hasTheSheaf_38 rfl lRX0_66 okX0_alter voX0_alter ⟨⟨Nat.le_of_ble_eq_true rfl, Nat.le_of_ble_eq_true rfl⟩, Nat.le_of_ble_eq_true rfl, Nat.le_of_ble_eq_true rfl⟩ (c_alter hk _ _ _) rfl rfl (Nat.le_of_ble_eq_true rfl) hk (Nat.le_of_ble_eq_true rfl) rfl ?_
    exact w_vret dX0_hasTheSheaf_41 rfl ⟨rfl, by first | (have h9 : ¬ mem k 2 < 20 := (by simpa [up2_eq, upR_same, upd, Int32.not_lt] using h27); simp [up2_eq, upR_upR, upR_same, hasF, h9]; done) | (have h9 : mem k 2 < 20 := (by simpa [up2_eq, upR_same, upd, Int32.not_le] using h27); simp [alterF, slotF, up2_eq, upR_upR, upR_same, hasF, h9]; simp [upd])⟩
set_option maxHeartbeats 4000000 in
theorem c_losesHand {k : Nat} (hk : kd k = 0) (mem : Mem) : CnE mX0_losesHand [.ref k] mem none (upR mem k (loseF (mem k))) := by
  refine Cn.of (ls := [some (.ref k)]) (by decide) rfl (Nat.le_of_ble_eq_true rfl) ?_
  refine w_aload_n (i := 0) (n' := 1) dX0_losesHand_0 rfl rfl rfl ?_
  refine w_get (ci := 0) (j := 2) (n' := 4) dX0_losesHand_1 rfl fRX0_15 (Nat.le_of_ble_eq_true rfl) (Nat.le_of_ble_eq_true rfl) hk rfl ?_
  refine w_gets (t := 0) (n' := 7) dX0_losesHand_4 rfl fRX0_25 (Nat.le_of_ble_eq_true rfl) ?_
  refine w_iconst (v := 2) (n' := 8) dX0_losesHand_7 rfl rfl ?_
  refine w_ialdV (t := 0) (n := 2) (v := 1) (n' := 9) dX0_losesHand_8 rfl (Nat.le_of_ble_eq_true rfl) (by decide) (by decide) rfl ?_
  refine w_icmp_le (n' := 12) (tgt := 23) dX0_losesHand_9 rfl rfl (fun h9 => ?_) (fun h9 => ?_)
  · exact w_vret dX0_losesHand_23 rfl ⟨rfl, by first | (have h8 : ¬ 1 < mem k 2 := (by simpa [Int32.not_lt] using h9); simp [loseF, h8, upR_self]; done) | (have h8 : 1 < mem k 2 := (by simpa [Int32.not_le] using h9); simp [alterF, slotF, up2_eq, upR_upR, upR_same, loseF, h8])⟩
  · refine w_aload_n (i := 0) (n' := 13) dX0_losesHand_12 rfl rfl rfl ?_
    refine w_iconst (v := 2) (n' := 14) dX0_losesHand_13 rfl rfl ?_
    refine w_aload_n (i := 0) (n' := 15) dX0_losesHand_14 rfl rfl rfl ?_
    refine w_get (ci := 0) (j := 2) (n' := 18) dX0_losesHand_15 rfl fRX0_15 (Nat.le_of_ble_eq_true rfl) (Nat.le_of_ble_eq_true rfl) hk rfl ?_
    refine w_iconst (v := 1) (n' := 19) dX0_losesHand_18 rfl rfl ?_
    refine w_isub (n' := 20) dX0_losesHand_19 rfl ?_
    refine v_E (ci := 0) (n' := 23) dX0_losesHand_20 rfl lRX0_66 okX0_alter voX0_alter ⟨⟨Nat.le_of_ble_eq_true rfl, Nat.le_of_ble_eq_true rfl⟩, Nat.le_of_ble_eq_true rfl, Nat.le_of_ble_eq_true rfl⟩ (c_alter hk _ _ _) rfl rfl (Nat.le_of_ble_eq_true rfl) hk (Nat.le_of_ble_eq_true rfl) rfl ?_
    exact w_vret dX0_losesHand_23 rfl ⟨rfl, by first | (have h8 : ¬ 1 < mem k 2 := (by simpa [Int32.not_lt] using h9); simp [loseF, h8, upR_self]; done) | (have h8 : 1 < mem k 2 := (by simpa [Int32.not_le] using h9); simp [alterF, slotF, up2_eq, upR_upR, upR_same, loseF, h8])⟩
set_option maxHeartbeats 4000000 in
theorem c_heeds {k : Nat} (hk : kd k = 0) (lean : Int32) (mem : Mem) : CnE mX0_heeds [.ref k, .int lean] mem none (upR mem k (heedF (mem k) lean)) := by
  refine Cn.of (ls := [some (.ref k), some (.int lean)]) (by decide) rfl (Nat.le_of_ble_eq_true rfl) ?_
  refine w_iload_n (i := 1) (n' := 1) dX0_heeds_0 rfl rfl rfl ?_
  refine w_if_le (n' := 4) (tgt := 25) dX0_heeds_1 rfl rfl (fun h1 => ?_) (fun h1 => ?_)
  · refine w_iload_n (i := 1) (n' := 26) dX0_heeds_25 rfl rfl rfl ?_
    refine w_if_ge (n' := 29) (tgt := 47) dX0_heeds_26 rfl rfl (fun h26 => ?_) (fun h26 => ?_)
    · exact w_vret dX0_heeds_47 rfl ⟨rfl, by rw [heedF, if_neg (Int32.not_lt.mpr h1), if_neg (Int32.not_lt.mpr h26), upR_self]⟩
    · refine w_aload_n (i := 0) (n' := 30) dX0_heeds_29 rfl rfl rfl ?_
      refine w_gets (t := 0) (n' := 33) dX0_heeds_30 rfl fRX0_25 (Nat.le_of_ble_eq_true rfl) ?_
      refine w_iconst (v := 3) (n' := 34) dX0_heeds_33 rfl rfl ?_
      refine w_ialdV (t := 0) (n := 3) (v := -9) (n' := 35) dX0_heeds_34 rfl (Nat.le_of_ble_eq_true rfl) (by decide) (by decide) rfl ?_
      refine w_aload_n (i := 0) (n' := 36) dX0_heeds_35 rfl rfl rfl ?_
      refine w_get (ci := 0) (j := 3) (n' := 39) dX0_heeds_36 rfl fRX0_35 (Nat.le_of_ble_eq_true rfl) (Nat.le_of_ble_eq_true rfl) hk rfl ?_
      refine w_iconst (v := 1) (n' := 40) dX0_heeds_39 rfl rfl ?_
      refine w_isub (n' := 41) dX0_heeds_40 rfl ?_
      refine w_max (n' := 44) dX0_heeds_41 rfl lRX0_47 ⟨Nat.le_of_ble_eq_true rfl, Nat.le_of_ble_eq_true rfl, Nat.le_of_ble_eq_true rfl, Nat.le_of_ble_eq_true rfl⟩ ?_
      refine w_put (ci := 0) (j := 3) (n' := 47) dX0_heeds_44 rfl fRX0_35 (Nat.le_of_ble_eq_true rfl) (Nat.le_of_ble_eq_true rfl) rfl rfl hk rfl ?_
      exact w_vret dX0_heeds_47 rfl ⟨rfl, by rw [heedF, if_neg (Int32.not_lt.mpr h1), if_pos (Int32.not_le.mp h26), up2_eq]⟩
  · refine w_aload_n (i := 0) (n' := 5) dX0_heeds_4 rfl rfl rfl ?_
    refine w_gets (t := 1) (n' := 8) dX0_heeds_5 rfl fRX0_29 (Nat.le_of_ble_eq_true rfl) ?_
    refine w_iconst (v := 3) (n' := 9) dX0_heeds_8 rfl rfl ?_
    refine w_ialdV (t := 1) (n := 3) (v := 9) (n' := 10) dX0_heeds_9 rfl (Nat.le_of_ble_eq_true rfl) (by decide) (by decide) rfl ?_
    refine w_aload_n (i := 0) (n' := 11) dX0_heeds_10 rfl rfl rfl ?_
    refine w_get (ci := 0) (j := 3) (n' := 14) dX0_heeds_11 rfl fRX0_35 (Nat.le_of_ble_eq_true rfl) (Nat.le_of_ble_eq_true rfl) hk rfl ?_
    refine w_iconst (v := 1) (n' := 15) dX0_heeds_14 rfl rfl ?_
    refine w_iadd (n' := 16) dX0_heeds_15 rfl ?_
    refine w_min (n' := 19) dX0_heeds_16 rfl lRX0_63 ⟨Nat.le_of_ble_eq_true rfl, Nat.le_of_ble_eq_true rfl, Nat.le_of_ble_eq_true rfl, Nat.le_of_ble_eq_true rfl⟩ ?_
    refine w_put (ci := 0) (j := 3) (n' := 22) dX0_heeds_19 rfl fRX0_35 (Nat.le_of_ble_eq_true rfl) (Nat.le_of_ble_eq_true rfl) rfl rfl hk rfl ?_
    refine w_goto (tgt := 47) dX0_heeds_22 rfl ?_
    exact w_vret dX0_heeds_47 rfl ⟨rfl, by rw [heedF, if_pos (Int32.not_le.mp h1), up2_eq]⟩
set_option maxHeartbeats 4000000 in
theorem c_mayBe (a v : Int32) (mem : Mem) : CnE mX0_mayBe [.int a, .int v] mem (some (.int (mayI a v))) mem := by
  refine Cn.of (ls := [some (.int a), some (.int v)]) (by decide) rfl (Nat.le_of_ble_eq_true rfl) ?_
  refine w_iload_n (i := 0) (n' := 1) dX0_mayBe_0 rfl rfl rfl ?_
  refine w_iconst (v := 0) (n' := 2) dX0_mayBe_1 rfl rfl ?_
  refine w_iconst (v := 4) (n' := 3) dX0_mayBe_2 rfl rfl ?_
  refine s_E (n' := 6) dX0_mayBe_3 rfl lRX0_21 okX5_within stX5_within ⟨⟨Nat.le_of_ble_eq_true rfl, Nat.le_of_ble_eq_true rfl⟩, Nat.le_of_ble_eq_true rfl, Nat.le_of_ble_eq_true rfl⟩ (c_within _ _ _ _) rfl rfl (Nat.le_of_ble_eq_true rfl) ?_
  refine w_if_eq (n' := 9) (tgt := 30) dX0_mayBe_6 rfl rfl (fun h6 => ?_) (fun h6 => ?_)
  · refine w_iconst (v := 0) (n' := 31) dX0_mayBe_30 rfl rfl ?_
    exact w_zret dX0_mayBe_31 rfl rfl ⟨by first | (simp [mayI, h6]; done) | (have hc : (nI n).toNatClampNeg = n := nI_clamp (by omega); simp only [mayI, h6, hc, if_false]; rcases inR_01 v ((stL 0).getD n 0) ((stL 1).getD n 0) with e | e <;> simp_all), rfl⟩
  · obtain ⟨n, hn, rfl⟩ := inR_of (N := 4) (by decide) h6
    refine w_iload_n (i := 1) (n' := 10) dX0_mayBe_9 rfl rfl rfl ?_
    refine w_gets (t := 0) (n' := 13) dX0_mayBe_10 rfl fRX0_25 (Nat.le_of_ble_eq_true rfl) ?_
    refine w_iload_n (i := 0) (n' := 14) dX0_mayBe_13 rfl rfl rfl ?_
    refine w_ialdS (t := 0) (n := n) (n' := 15) dX0_mayBe_14 rfl (Nat.le_of_ble_eq_true rfl) rfl (show n < 5 by omega) ?_
    refine w_gets (t := 1) (n' := 18) dX0_mayBe_15 rfl fRX0_29 (Nat.le_of_ble_eq_true rfl) ?_
    refine w_iload_n (i := 0) (n' := 19) dX0_mayBe_18 rfl rfl rfl ?_
    refine w_ialdS (t := 1) (n := n) (n' := 20) dX0_mayBe_19 rfl (Nat.le_of_ble_eq_true rfl) rfl (show n < 5 by omega) ?_
    refine s_E (n' := 23) dX0_mayBe_20 rfl lRX0_21 okX5_within stX5_within ⟨⟨Nat.le_of_ble_eq_true rfl, Nat.le_of_ble_eq_true rfl⟩, Nat.le_of_ble_eq_true rfl, Nat.le_of_ble_eq_true rfl⟩ (c_within _ _ _ _) rfl rfl (Nat.le_of_ble_eq_true rfl) ?_
    refine w_if_eq (n' := 26) (tgt := 30) dX0_mayBe_23 rfl rfl (fun h23 => ?_) (fun h23 => ?_)
    · refine w_iconst (v := 0) (n' := 31) dX0_mayBe_30 rfl rfl ?_
      exact w_zret dX0_mayBe_31 rfl rfl ⟨by first | (simp [mayI, h6]; done) | (have hc : (nI n).toNatClampNeg = n := nI_clamp (by omega); simp only [mayI, h6, hc, if_false]; rcases inR_01 v ((stL 0).getD n 0) ((stL 1).getD n 0) with e | e <;> simp_all), rfl⟩
    · refine w_iconst (v := 1) (n' := 27) dX0_mayBe_26 rfl rfl ?_
      refine w_goto (tgt := 31) dX0_mayBe_27 rfl ?_
      exact w_zret dX0_mayBe_31 rfl rfl ⟨by first | (simp [mayI, h6]; done) | (have hc : (nI n).toNatClampNeg = n := nI_clamp (by omega); simp only [mayI, h6, hc, if_false]; rcases inR_01 v ((stL 0).getD n 0) ((stL 1).getD n 0) with e | e <;> simp_all), rfl⟩
def DayP (k : Nat) (wet : Int32) (mem : Mem) (x : Int32) (m' : Mem) : Prop := x = dayI (mem k 0) (mem k 1) (mem k 2) wet ∧ pr m' = pr mem ∧ CaOK m' ∧ ∀ a, a ≠ k → m' a = mem a
theorem day_hit {k : Nat} {wet : Int32} {mem : Mem} (hk : kd k = 0) (hw : wet ≠ -1) (hc : CaOK mem) (h : mem k 5 = wet) : DayP k wet mem (mem k 6) mem := by
  refine ⟨?_, rfl, hc, fun _ _ => rfl⟩
  rcases hc k hk with e | e
  · exact absurd (h.symm.trans e) hw
  · rw [e, h]
theorem day_new {k : Nat} {wet x : Int32} {mem : Mem} (hk : kd k = 0) (hc : CaOK mem) (hx : x = dayI (mem k 0) (mem k 1) (mem k 2) wet) : DayP k wet mem x (up2 (up2 mem k 6 x) k 5 wet) := by
  refine ⟨hx, ?_, ?_, ?_⟩
  · funext a j
    by_cases h : a = k
    · subst h
      by_cases h5 : j = 5
      · subst h5; simp [pr, isCa, hk]
      · by_cases h6 : j = 6
        · subst h6; simp [pr, isCa, hk]
        · simp [pr, up2_eq, upR_same, upR_upR, upd, h5, h6]
    · simp [pr, up2_eq, upR_ne _ _ h]
  · intro a ha
    by_cases h : a = k
    · subst h
      right
      simp [up2_eq, upR_same, upR_upR, upd, hx]
    · have e : up2 (up2 mem k 6 x) k 5 wet a = mem a := by simp [up2_eq, upR_ne _ _ h]
      rw [e]
      exact hc a ha
  · intro a h
    simp [up2_eq, upR_ne _ _ h]
set_option maxHeartbeats 4000000 in
theorem c_daysIn {k : Nat} (hk : kd k = 0) (wet : Int32) (hw : wet ≠ -1) (mem : Mem) (hc : CaOK mem) : CnI mX0_daysIn [.ref k, .int wet] mem (DayP k wet mem) := by
  refine Cn.of (ls := [some (.ref k), some (.int wet), none, none, none, none, none, none, none, none]) (by decide) rfl (Nat.le_of_ble_eq_true rfl) ?_
  refine w_aload_n (i := 0) (n' := 1) dX0_daysIn_0 rfl rfl rfl ?_
  refine w_get (ci := 0) (j := 5) (n' := 4) dX0_daysIn_1 rfl fRX0_18 (Nat.le_of_ble_eq_true rfl) (Nat.le_of_ble_eq_true rfl) hk rfl ?_
  refine w_iload_n (i := 1) (n' := 5) dX0_daysIn_4 rfl rfl rfl ?_
  refine w_icmp_ne (n' := 8) (tgt := 13) dX0_daysIn_5 rfl rfl (fun h5 => ?_) (fun h5 => ?_)
  · refine w_aload_n (i := 0) (n' := 14) dX0_daysIn_13 rfl rfl rfl ?_
    refine w_get (ci := 0) (j := 1) (n' := 17) dX0_daysIn_14 rfl fRX0_32 (Nat.le_of_ble_eq_true rfl) (Nat.le_of_ble_eq_true rfl) hk rfl ?_
    refine w_istore_n (i := 2) (n' := 18) (ls' := [_, _, _, _, _, _, _, _, _, _]) dX0_daysIn_17 rfl rfl (Nat.le_of_ble_eq_true rfl) rfl rfl ?_
    refine w_iconst (v := 0) (n' := 19) dX0_daysIn_18 rfl rfl ?_
    refine w_istore_n (i := 3) (n' := 20) (ls' := [_, _, _, _, _, _, _, _, _, _]) dX0_daysIn_19 rfl rfl (Nat.le_of_ble_eq_true rfl) rfl rfl ?_
    refine w_gets (t := 3) (n' := 23) dX0_daysIn_20 rfl fRX0_53 (Nat.le_of_ble_eq_true rfl) ?_
    refine w_astore (n' := 25) (ls' := [_, _, _, _, _, _, _, _, _, _]) dX0_daysIn_23 rfl (Nat.le_of_ble_eq_true rfl) rfl rfl ?_
    refine w_aload (n' := 27) dX0_daysIn_25 rfl rfl ?_
    refine w_alenT (t := 3) (n := 3) (n' := 28) dX0_daysIn_27 rfl (Nat.le_of_ble_eq_true rfl) rfl ?_
    refine w_istore (n' := 30) (ls' := [_, _, _, _, _, _, _, _, _, _]) dX0_daysIn_28 rfl (Nat.le_of_ble_eq_true rfl) rfl rfl ?_
    refine w_iconst (v := 0) (n' := 31) dX0_daysIn_30 rfl rfl ?_
    refine w_istore (n' := 33) (ls' := [_, _, _, _, _, _, _, _, _, _]) dX0_daysIn_31 rfl (Nat.le_of_ble_eq_true rfl) rfl rfl ?_
    refine w_iload (n' := 35) dX0_daysIn_33 rfl rfl ?_
    refine w_iload (n' := 37) dX0_daysIn_35 rfl rfl ?_
    refine w_icmp_ge (n' := 40) (tgt := 84) dX0_daysIn_37 rfl rfl (fun h37 => absurd h37 (by decide)) (fun h37 => ?_)
    refine w_aload (n' := 42) dX0_daysIn_40 rfl rfl ?_
    refine w_iload (n' := 44) dX0_daysIn_42 rfl rfl ?_
    refine w_ialdV (t := 3) (n := 0) (v := 20) (n' := 45) dX0_daysIn_44 rfl (Nat.le_of_ble_eq_true rfl) (by decide) (by decide) rfl ?_
    refine w_istore (n' := 47) (ls' := [_, _, _, _, _, _, _, _, _, _]) dX0_daysIn_45 rfl (Nat.le_of_ble_eq_true rfl) rfl rfl ?_
    refine w_aload_n (i := 0) (n' := 48) dX0_daysIn_47 rfl rfl rfl ?_
    refine w_iload_n (i := 2) (n' := 49) dX0_daysIn_48 rfl rfl rfl ?_
    refine w_iload_n (i := 1) (n' := 50) dX0_daysIn_49 rfl rfl rfl ?_
    refine v_E (ci := 0) (n' := 53) dX0_daysIn_50 rfl lRX0_56 okX0_reapsOf voX0_reapsOf ⟨⟨Nat.le_of_ble_eq_true rfl, Nat.le_of_ble_eq_true rfl⟩, Nat.le_of_ble_eq_true rfl, Nat.le_of_ble_eq_true rfl⟩ (c_reapsOf hk _ _ _) rfl rfl (Nat.le_of_ble_eq_true rfl) hk (Nat.le_of_ble_eq_true rfl) rfl ?_
    refine w_istore (n' := 55) (ls' := [_, _, _, _, _, _, _, _, _, _]) dX0_daysIn_53 rfl (Nat.le_of_ble_eq_true rfl) rfl rfl ?_
    refine w_iload (n' := 57) dX0_daysIn_55 rfl rfl ?_
    refine w_iload_n (i := 2) (n' := 58) dX0_daysIn_57 rfl rfl rfl ?_
    refine w_iload (n' := 60) dX0_daysIn_58 rfl rfl ?_
    refine s_E (n' := 63) dX0_daysIn_60 rfl lRX0_59 okX0_daysDownTo stX0_daysDownTo ⟨⟨Nat.le_of_ble_eq_true rfl, Nat.le_of_ble_eq_true rfl⟩, Nat.le_of_ble_eq_true rfl, Nat.le_of_ble_eq_true rfl⟩ (c_daysDownTo _ _ _ _) rfl rfl (Nat.le_of_ble_eq_true rfl) ?_
    refine w_istore (n' := 65) (ls' := [_, _, _, _, _, _, _, _, _, _]) dX0_daysIn_63 rfl (Nat.le_of_ble_eq_true rfl) rfl rfl ?_
    refine w_iload_n (i := 2) (n' := 66) dX0_daysIn_65 rfl rfl rfl ?_
    refine w_iload (n' := 68) dX0_daysIn_66 rfl rfl ?_
    refine w_iload (n' := 70) dX0_daysIn_68 rfl rfl ?_
    refine w_imul (n' := 71) dX0_daysIn_70 rfl ?_
    refine w_isub (n' := 72) dX0_daysIn_71 rfl ?_
    refine w_istore_n (i := 2) (n' := 73) (ls' := [_, _, _, _, _, _, _, _, _, _]) dX0_daysIn_72 rfl rfl (Nat.le_of_ble_eq_true rfl) rfl rfl ?_
    refine w_iload_n (i := 3) (n' := 74) dX0_daysIn_73 rfl rfl rfl ?_
    refine w_iload (n' := 76) dX0_daysIn_74 rfl rfl ?_
    refine w_iadd (n' := 77) dX0_daysIn_76 rfl ?_
    refine w_istore_n (i := 3) (n' := 78) (ls' := [_, _, _, _, _, _, _, _, _, _]) dX0_daysIn_77 rfl rfl (Nat.le_of_ble_eq_true rfl) rfl rfl ?_
    refine w_iinc (n' := 81) (v := _) (ls' := [_, _, _, _, _, _, _, _, _, _]) dX0_daysIn_78 rfl rfl rfl (Nat.le_of_ble_eq_true rfl) rfl rfl ?_
    refine w_goto (tgt := 33) dX0_daysIn_81 rfl ?_
    refine w_iload (n' := 35) dX0_daysIn_33 rfl rfl ?_
    refine w_iload (n' := 37) dX0_daysIn_35 rfl rfl ?_
    refine w_icmp_ge (n' := 40) (tgt := 84) dX0_daysIn_37 rfl rfl (fun h37 => absurd h37 (by decide)) (fun h37 => ?_)
    refine w_aload (n' := 42) dX0_daysIn_40 rfl rfl ?_
    refine w_iload (n' := 44) dX0_daysIn_42 rfl rfl ?_
    refine w_ialdV (t := 3) (n := 1) (v := 5) (n' := 45) dX0_daysIn_44 rfl (Nat.le_of_ble_eq_true rfl) (by decide) (by decide) rfl ?_
    refine w_istore (n' := 47) (ls' := [_, _, _, _, _, _, _, _, _, _]) dX0_daysIn_45 rfl (Nat.le_of_ble_eq_true rfl) rfl rfl ?_
    refine w_aload_n (i := 0) (n' := 48) dX0_daysIn_47 rfl rfl rfl ?_
    refine w_iload_n (i := 2) (n' := 49) dX0_daysIn_48 rfl rfl rfl ?_
    refine w_iload_n (i := 1) (n' := 50) dX0_daysIn_49 rfl rfl rfl ?_
    refine v_E (ci := 0) (n' := 53) dX0_daysIn_50 rfl lRX0_56 okX0_reapsOf voX0_reapsOf ⟨⟨Nat.le_of_ble_eq_true rfl, Nat.le_of_ble_eq_true rfl⟩, Nat.le_of_ble_eq_true rfl, Nat.le_of_ble_eq_true rfl⟩ (c_reapsOf hk _ _ _) rfl rfl (Nat.le_of_ble_eq_true rfl) hk (Nat.le_of_ble_eq_true rfl) rfl ?_
    refine w_istore (n' := 55) (ls' := [_, _, _, _, _, _, _, _, _, _]) dX0_daysIn_53 rfl (Nat.le_of_ble_eq_true rfl) rfl rfl ?_
    refine w_iload (n' := 57) dX0_daysIn_55 rfl rfl ?_
    refine w_iload_n (i := 2) (n' := 58) dX0_daysIn_57 rfl rfl rfl ?_
    refine w_iload (n' := 60) dX0_daysIn_58 rfl rfl ?_
    refine s_E (n' := 63) dX0_daysIn_60 rfl lRX0_59 okX0_daysDownTo stX0_daysDownTo ⟨⟨Nat.le_of_ble_eq_true rfl, Nat.le_of_ble_eq_true rfl⟩, Nat.le_of_ble_eq_true rfl, Nat.le_of_ble_eq_true rfl⟩ (c_daysDownTo _ _ _ _) rfl rfl (Nat.le_of_ble_eq_true rfl) ?_
    refine w_istore (n' := 65) (ls' := [_, _, _, _, _, _, _, _, _, _]) dX0_daysIn_63 rfl (Nat.le_of_ble_eq_true rfl) rfl rfl ?_
    refine w_iload_n (i := 2) (n' := 66) dX0_daysIn_65 rfl rfl rfl ?_
    refine w_iload (n' := 68) dX0_daysIn_66 rfl rfl ?_
    refine w_iload (n' := 70) dX0_daysIn_68 rfl rfl ?_
    refine w_imul (n' := 71) dX0_daysIn_70 rfl ?_
    refine w_isub (n' := 72) dX0_daysIn_71 rfl ?_
    refine w_istore_n (i := 2) (n' := 73) (ls' := [_, _, _, _, _, _, _, _, _, _]) dX0_daysIn_72 rfl rfl (Nat.le_of_ble_eq_true rfl) rfl rfl ?_
    refine w_iload_n (i := 3) (n' := 74) dX0_daysIn_73 rfl rfl rfl ?_
    refine w_iload (n' := 76) dX0_daysIn_74 rfl rfl ?_
    refine w_iadd (n' := 77) dX0_daysIn_76 rfl ?_
    refine w_istore_n (i := 3) (n' := 78) (ls' := [_, _, _, _, _, _, _, _, _, _]) dX0_daysIn_77 rfl rfl (Nat.le_of_ble_eq_true rfl) rfl rfl ?_
    refine w_iinc (n' := 81) (v := _) (ls' := [_, _, _, _, _, _, _, _, _, _]) dX0_daysIn_78 rfl rfl rfl (Nat.le_of_ble_eq_true rfl) rfl rfl ?_
    refine w_goto (tgt := 33) dX0_daysIn_81 rfl ?_
    refine w_iload (n' := 35) dX0_daysIn_33 rfl rfl ?_
    refine w_iload (n' := 37) dX0_daysIn_35 rfl rfl ?_
    refine w_icmp_ge (n' := 40) (tgt := 84) dX0_daysIn_37 rfl rfl (fun h37 => absurd h37 (by decide)) (fun h37 => ?_)
    refine w_aload (n' := 42) dX0_daysIn_40 rfl rfl ?_
    refine w_iload (n' := 44) dX0_daysIn_42 rfl rfl ?_
    refine w_ialdV (t := 3) (n := 2) (v := 0) (n' := 45) dX0_daysIn_44 rfl (Nat.le_of_ble_eq_true rfl) (by decide) (by decide) rfl ?_
    refine w_istore (n' := 47) (ls' := [_, _, _, _, _, _, _, _, _, _]) dX0_daysIn_45 rfl (Nat.le_of_ble_eq_true rfl) rfl rfl ?_
    refine w_aload_n (i := 0) (n' := 48) dX0_daysIn_47 rfl rfl rfl ?_
    refine w_iload_n (i := 2) (n' := 49) dX0_daysIn_48 rfl rfl rfl ?_
    refine w_iload_n (i := 1) (n' := 50) dX0_daysIn_49 rfl rfl rfl ?_
    refine v_E (ci := 0) (n' := 53) dX0_daysIn_50 rfl lRX0_56 okX0_reapsOf voX0_reapsOf ⟨⟨Nat.le_of_ble_eq_true rfl, Nat.le_of_ble_eq_true rfl⟩, Nat.le_of_ble_eq_true rfl, Nat.le_of_ble_eq_true rfl⟩ (c_reapsOf hk _ _ _) rfl rfl (Nat.le_of_ble_eq_true rfl) hk (Nat.le_of_ble_eq_true rfl) rfl ?_
    refine w_istore (n' := 55) (ls' := [_, _, _, _, _, _, _, _, _, _]) dX0_daysIn_53 rfl (Nat.le_of_ble_eq_true rfl) rfl rfl ?_
    refine w_iload (n' := 57) dX0_daysIn_55 rfl rfl ?_
    refine w_iload_n (i := 2) (n' := 58) dX0_daysIn_57 rfl rfl rfl ?_
    refine w_iload (n' := 60) dX0_daysIn_58 rfl rfl ?_
    refine s_E (n' := 63) dX0_daysIn_60 rfl lRX0_59 okX0_daysDownTo stX0_daysDownTo ⟨⟨Nat.le_of_ble_eq_true rfl, Nat.le_of_ble_eq_true rfl⟩, Nat.le_of_ble_eq_true rfl, Nat.le_of_ble_eq_true rfl⟩ (c_daysDownTo _ _ _ _) rfl rfl (Nat.le_of_ble_eq_true rfl) ?_
    refine w_istore (n' := 65) (ls' := [_, _, _, _, _, _, _, _, _, _]) dX0_daysIn_63 rfl (Nat.le_of_ble_eq_true rfl) rfl rfl ?_
    refine w_iload_n (i := 2) (n' := 66) dX0_daysIn_65 rfl rfl rfl ?_
    refine w_iload (n' := 68) dX0_daysIn_66 rfl rfl ?_
    refine w_iload (n' := 70) dX0_daysIn_68 rfl rfl ?_
    refine w_imul (n' := 71) dX0_daysIn_70 rfl ?_
    refine w_isub (n' := 72) dX0_daysIn_71 rfl ?_
    refine w_istore_n (i := 2) (n' := 73) (ls' := [_, _, _, _, _, _, _, _, _, _]) dX0_daysIn_72 rfl rfl (Nat.le_of_ble_eq_true rfl) rfl rfl ?_
    refine w_iload_n (i := 3) (n' := 74) dX0_daysIn_73 rfl rfl rfl ?_
    refine w_iload (n' := 76) dX0_daysIn_74 rfl rfl ?_
    refine w_iadd (n' := 77) dX0_daysIn_76 rfl ?_
    refine w_istore_n (i := 3) (n' := 78) (ls' := [_, _, _, _, _, _, _, _, _, _]) dX0_daysIn_77 rfl rfl (Nat.le_of_ble_eq_true rfl) rfl rfl ?_
    refine w_iinc (n' := 81) (v := _) (ls' := [_, _, _, _, _, _, _, _, _, _]) dX0_daysIn_78 rfl rfl rfl (Nat.le_of_ble_eq_true rfl) rfl rfl ?_
    refine w_goto (tgt := 33) dX0_daysIn_81 rfl ?_
    refine w_iload (n' := 35) dX0_daysIn_33 rfl rfl ?_
    refine w_iload (n' := 37) dX0_daysIn_35 rfl rfl ?_
    refine w_icmp_ge (n' := 40) (tgt := 84) dX0_daysIn_37 rfl rfl (fun h37 => ?_) (fun h37 => absurd (by decide) h37)
    refine w_aload_n (i := 0) (n' := 85) dX0_daysIn_84 rfl rfl rfl ?_
    refine w_iload_n (i := 3) (n' := 86) dX0_daysIn_85 rfl rfl rfl ?_
    refine w_put (ci := 0) (j := 6) (n' := 89) dX0_daysIn_86 rfl fRX0_41 (Nat.le_of_ble_eq_true rfl) (Nat.le_of_ble_eq_true rfl) rfl rfl hk rfl ?_
    refine w_aload_n (i := 0) (n' := 90) dX0_daysIn_89 rfl rfl rfl ?_
    refine w_iload_n (i := 1) (n' := 91) dX0_daysIn_90 rfl rfl rfl ?_
    refine w_put (ci := 0) (j := 5) (n' := 94) dX0_daysIn_91 rfl fRX0_18 (Nat.le_of_ble_eq_true rfl) (Nat.le_of_ble_eq_true rfl) rfl rfl hk rfl ?_
    refine w_iload_n (i := 3) (n' := 95) dX0_daysIn_94 rfl rfl rfl ?_
    exact w_iret dX0_daysIn_95 rfl ⟨_, rfl, day_new hk hc rfl⟩
  · refine w_aload_n (i := 0) (n' := 9) dX0_daysIn_8 rfl rfl rfl ?_
    refine w_get (ci := 0) (j := 6) (n' := 12) dX0_daysIn_9 rfl fRX0_41 (Nat.le_of_ble_eq_true rfl) (Nat.le_of_ble_eq_true rfl) hk rfl ?_
    exact w_iret dX0_daysIn_12 rfl ⟨_, rfl, day_hit hk hw hc (by assumption)⟩
set_option maxHeartbeats 4000000 in
theorem c_leftBehind {k : Nat} (hk : kd k = 0) (n wet : Int32) (mem : Mem) : CnE mX0_leftBehind [.ref k, .int n, .int wet] mem (some (.int (leftI (mem k 0) (mem k 1) (mem k 2) wet n))) mem := by
  refine Cn.of (ls := [some (.ref k), some (.int n), some (.int wet), none, none, none, none, none, none, none, none]) (by decide) rfl (Nat.le_of_ble_eq_true rfl) ?_
  refine w_aload_n (i := 0) (n' := 1) dX0_leftBehind_0 rfl rfl rfl ?_
  refine w_get (ci := 0) (j := 1) (n' := 4) dX0_leftBehind_1 rfl fRX0_32 (Nat.le_of_ble_eq_true rfl) (Nat.le_of_ble_eq_true rfl) hk rfl ?_
  refine w_istore_n (i := 3) (n' := 5) (ls' := [_, _, _, _, _, _, _, _, _, _, _]) dX0_leftBehind_4 rfl rfl (Nat.le_of_ble_eq_true rfl) rfl rfl ?_
  refine w_iload_n (i := 1) (n' := 6) dX0_leftBehind_5 rfl rfl rfl ?_
  refine w_istore (n' := 8) (ls' := [_, _, _, _, _, _, _, _, _, _, _]) dX0_leftBehind_6 rfl (Nat.le_of_ble_eq_true rfl) rfl rfl ?_
  refine w_gets (t := 3) (n' := 11) dX0_leftBehind_8 rfl fRX0_53 (Nat.le_of_ble_eq_true rfl) ?_
  refine w_astore (n' := 13) (ls' := [_, _, _, _, _, _, _, _, _, _, _]) dX0_leftBehind_11 rfl (Nat.le_of_ble_eq_true rfl) rfl rfl ?_
  refine w_aload (n' := 15) dX0_leftBehind_13 rfl rfl ?_
  refine w_alenT (t := 3) (n := 3) (n' := 16) dX0_leftBehind_15 rfl (Nat.le_of_ble_eq_true rfl) rfl ?_
  refine w_istore (n' := 18) (ls' := [_, _, _, _, _, _, _, _, _, _, _]) dX0_leftBehind_16 rfl (Nat.le_of_ble_eq_true rfl) rfl rfl ?_
  refine w_iconst (v := 0) (n' := 19) dX0_leftBehind_18 rfl rfl ?_
  refine w_istore (n' := 21) (ls' := [_, _, _, _, _, _, _, _, _, _, _]) dX0_leftBehind_19 rfl (Nat.le_of_ble_eq_true rfl) rfl rfl ?_
  refine w_iload (n' := 23) dX0_leftBehind_21 rfl rfl ?_
  refine w_iload (n' := 25) dX0_leftBehind_23 rfl rfl ?_
  refine w_icmp_ge (n' := 28) (tgt := 79) dX0_leftBehind_25 rfl rfl (fun h25 => absurd h25 (by decide)) (fun h25 => ?_)
  refine w_aload (n' := 30) dX0_leftBehind_28 rfl rfl ?_
  refine w_iload (n' := 32) dX0_leftBehind_30 rfl rfl ?_
  refine w_ialdV (t := 3) (n := 0) (v := 20) (n' := 33) dX0_leftBehind_32 rfl (Nat.le_of_ble_eq_true rfl) (by decide) (by decide) rfl ?_
  refine w_istore (n' := 35) (ls' := [_, _, _, _, _, _, _, _, _, _, _]) dX0_leftBehind_33 rfl (Nat.le_of_ble_eq_true rfl) rfl rfl ?_
  refine w_aload_n (i := 0) (n' := 36) dX0_leftBehind_35 rfl rfl rfl ?_
  refine w_iload_n (i := 3) (n' := 37) dX0_leftBehind_36 rfl rfl rfl ?_
  refine w_iload_n (i := 2) (n' := 38) dX0_leftBehind_37 rfl rfl rfl ?_
  refine v_E (ci := 0) (n' := 41) dX0_leftBehind_38 rfl lRX0_56 okX0_reapsOf voX0_reapsOf ⟨⟨Nat.le_of_ble_eq_true rfl, Nat.le_of_ble_eq_true rfl⟩, Nat.le_of_ble_eq_true rfl, Nat.le_of_ble_eq_true rfl⟩ (c_reapsOf hk _ _ _) rfl rfl (Nat.le_of_ble_eq_true rfl) hk (Nat.le_of_ble_eq_true rfl) rfl ?_
  refine w_istore (n' := 43) (ls' := [_, _, _, _, _, _, _, _, _, _, _]) dX0_leftBehind_41 rfl (Nat.le_of_ble_eq_true rfl) rfl rfl ?_
  refine w_iload (n' := 45) dX0_leftBehind_43 rfl rfl ?_
  refine w_iload (n' := 47) dX0_leftBehind_45 rfl rfl ?_
  refine w_iload_n (i := 3) (n' := 48) dX0_leftBehind_47 rfl rfl rfl ?_
  refine w_iload (n' := 50) dX0_leftBehind_48 rfl rfl ?_
  refine s_E (n' := 53) dX0_leftBehind_50 rfl lRX0_59 okX0_daysDownTo stX0_daysDownTo ⟨⟨Nat.le_of_ble_eq_true rfl, Nat.le_of_ble_eq_true rfl⟩, Nat.le_of_ble_eq_true rfl, Nat.le_of_ble_eq_true rfl⟩ (c_daysDownTo _ _ _ _) rfl rfl (Nat.le_of_ble_eq_true rfl) ?_
  refine w_min (n' := 56) dX0_leftBehind_53 rfl lRX0_63 ⟨Nat.le_of_ble_eq_true rfl, Nat.le_of_ble_eq_true rfl, Nat.le_of_ble_eq_true rfl, Nat.le_of_ble_eq_true rfl⟩ ?_
  refine w_istore (n' := 58) (ls' := [_, _, _, _, _, _, _, _, _, _, _]) dX0_leftBehind_56 rfl (Nat.le_of_ble_eq_true rfl) rfl rfl ?_
  refine w_iload_n (i := 3) (n' := 59) dX0_leftBehind_58 rfl rfl rfl ?_
  refine w_iload (n' := 61) dX0_leftBehind_59 rfl rfl ?_
  refine w_iload (n' := 63) dX0_leftBehind_61 rfl rfl ?_
  refine w_imul (n' := 64) dX0_leftBehind_63 rfl ?_
  refine w_isub (n' := 65) dX0_leftBehind_64 rfl ?_
  refine w_istore_n (i := 3) (n' := 66) (ls' := [_, _, _, _, _, _, _, _, _, _, _]) dX0_leftBehind_65 rfl rfl (Nat.le_of_ble_eq_true rfl) rfl rfl ?_
  refine w_iload (n' := 68) dX0_leftBehind_66 rfl rfl ?_
  refine w_iload (n' := 70) dX0_leftBehind_68 rfl rfl ?_
  refine w_isub (n' := 71) dX0_leftBehind_70 rfl ?_
  refine w_istore (n' := 73) (ls' := [_, _, _, _, _, _, _, _, _, _, _]) dX0_leftBehind_71 rfl (Nat.le_of_ble_eq_true rfl) rfl rfl ?_
  refine w_iinc (n' := 76) (v := _) (ls' := [_, _, _, _, _, _, _, _, _, _, _]) dX0_leftBehind_73 rfl rfl rfl (Nat.le_of_ble_eq_true rfl) rfl rfl ?_
  refine w_goto (tgt := 21) dX0_leftBehind_76 rfl ?_
  refine w_iload (n' := 23) dX0_leftBehind_21 rfl rfl ?_
  refine w_iload (n' := 25) dX0_leftBehind_23 rfl rfl ?_
  refine w_icmp_ge (n' := 28) (tgt := 79) dX0_leftBehind_25 rfl rfl (fun h25 => absurd h25 (by decide)) (fun h25 => ?_)
  refine w_aload (n' := 30) dX0_leftBehind_28 rfl rfl ?_
  refine w_iload (n' := 32) dX0_leftBehind_30 rfl rfl ?_
  refine w_ialdV (t := 3) (n := 1) (v := 5) (n' := 33) dX0_leftBehind_32 rfl (Nat.le_of_ble_eq_true rfl) (by decide) (by decide) rfl ?_
  refine w_istore (n' := 35) (ls' := [_, _, _, _, _, _, _, _, _, _, _]) dX0_leftBehind_33 rfl (Nat.le_of_ble_eq_true rfl) rfl rfl ?_
  refine w_aload_n (i := 0) (n' := 36) dX0_leftBehind_35 rfl rfl rfl ?_
  refine w_iload_n (i := 3) (n' := 37) dX0_leftBehind_36 rfl rfl rfl ?_
  refine w_iload_n (i := 2) (n' := 38) dX0_leftBehind_37 rfl rfl rfl ?_
  refine v_E (ci := 0) (n' := 41) dX0_leftBehind_38 rfl lRX0_56 okX0_reapsOf voX0_reapsOf ⟨⟨Nat.le_of_ble_eq_true rfl, Nat.le_of_ble_eq_true rfl⟩, Nat.le_of_ble_eq_true rfl, Nat.le_of_ble_eq_true rfl⟩ (c_reapsOf hk _ _ _) rfl rfl (Nat.le_of_ble_eq_true rfl) hk (Nat.le_of_ble_eq_true rfl) rfl ?_
  refine w_istore (n' := 43) (ls' := [_, _, _, _, _, _, _, _, _, _, _]) dX0_leftBehind_41 rfl (Nat.le_of_ble_eq_true rfl) rfl rfl ?_
  refine w_iload (n' := 45) dX0_leftBehind_43 rfl rfl ?_
  refine w_iload (n' := 47) dX0_leftBehind_45 rfl rfl ?_
  refine w_iload_n (i := 3) (n' := 48) dX0_leftBehind_47 rfl rfl rfl ?_
  refine w_iload (n' := 50) dX0_leftBehind_48 rfl rfl ?_
  refine s_E (n' := 53) dX0_leftBehind_50 rfl lRX0_59 okX0_daysDownTo stX0_daysDownTo ⟨⟨Nat.le_of_ble_eq_true rfl, Nat.le_of_ble_eq_true rfl⟩, Nat.le_of_ble_eq_true rfl, Nat.le_of_ble_eq_true rfl⟩ (c_daysDownTo _ _ _ _) rfl rfl (Nat.le_of_ble_eq_true rfl) ?_
  refine w_min (n' := 56) dX0_leftBehind_53 rfl lRX0_63 ⟨Nat.le_of_ble_eq_true rfl, Nat.le_of_ble_eq_true rfl, Nat.le_of_ble_eq_true rfl, Nat.le_of_ble_eq_true rfl⟩ ?_
  refine w_istore (n' := 58) (ls' := [_, _, _, _, _, _, _, _, _, _, _]) dX0_leftBehind_56 rfl (Nat.le_of_ble_eq_true rfl) rfl rfl ?_
  refine w_iload_n (i := 3) (n' := 59) dX0_leftBehind_58 rfl rfl rfl ?_
  refine w_iload (n' := 61) dX0_leftBehind_59 rfl rfl ?_
  refine w_iload (n' := 63) dX0_leftBehind_61 rfl rfl ?_
  refine w_imul (n' := 64) dX0_leftBehind_63 rfl ?_
  refine w_isub (n' := 65) dX0_leftBehind_64 rfl ?_
  refine w_istore_n (i := 3) (n' := 66) (ls' := [_, _, _, _, _, _, _, _, _, _, _]) dX0_leftBehind_65 rfl rfl (Nat.le_of_ble_eq_true rfl) rfl rfl ?_
  refine w_iload (n' := 68) dX0_leftBehind_66 rfl rfl ?_
  refine w_iload (n' := 70) dX0_leftBehind_68 rfl rfl ?_
  refine w_isub (n' := 71) dX0_leftBehind_70 rfl ?_
  refine w_istore (n' := 73) (ls' := [_, _, _, _, _, _, _, _, _, _, _]) dX0_leftBehind_71 rfl (Nat.le_of_ble_eq_true rfl) rfl rfl ?_
  refine w_iinc (n' := 76) (v := _) (ls' := [_, _, _, _, _, _, _, _, _, _, _]) dX0_leftBehind_73 rfl rfl rfl (Nat.le_of_ble_eq_true rfl) rfl rfl ?_
  refine w_goto (tgt := 21) dX0_leftBehind_76 rfl ?_
  refine w_iload (n' := 23) dX0_leftBehind_21 rfl rfl ?_
  refine w_iload (n' := 25) dX0_leftBehind_23 rfl rfl ?_
  refine w_icmp_ge (n' := 28) (tgt := 79) dX0_leftBehind_25 rfl rfl (fun h25 => absurd h25 (by decide)) (fun h25 => ?_)
  refine w_aload (n' := 30) dX0_leftBehind_28 rfl rfl ?_
  refine w_iload (n' := 32) dX0_leftBehind_30 rfl rfl ?_
  refine w_ialdV (t := 3) (n := 2) (v := 0) (n' := 33) dX0_leftBehind_32 rfl (Nat.le_of_ble_eq_true rfl) (by decide) (by decide) rfl ?_
  refine w_istore (n' := 35) (ls' := [_, _, _, _, _, _, _, _, _, _, _]) dX0_leftBehind_33 rfl (Nat.le_of_ble_eq_true rfl) rfl rfl ?_
  refine w_aload_n (i := 0) (n' := 36) dX0_leftBehind_35 rfl rfl rfl ?_
  refine w_iload_n (i := 3) (n' := 37) dX0_leftBehind_36 rfl rfl rfl ?_
  refine w_iload_n (i := 2) (n' := 38) dX0_leftBehind_37 rfl rfl rfl ?_
  refine v_E (ci := 0) (n' := 41) dX0_leftBehind_38 rfl lRX0_56 okX0_reapsOf voX0_reapsOf ⟨⟨Nat.le_of_ble_eq_true rfl, Nat.le_of_ble_eq_true rfl⟩, Nat.le_of_ble_eq_true rfl, Nat.le_of_ble_eq_true rfl⟩ (c_reapsOf hk _ _ _) rfl rfl (Nat.le_of_ble_eq_true rfl) hk (Nat.le_of_ble_eq_true rfl) rfl ?_
  refine w_istore (n' := 43) (ls' := [_, _, _, _, _, _, _, _, _, _, _]) dX0_leftBehind_41 rfl (Nat.le_of_ble_eq_true rfl) rfl rfl ?_
  refine w_iload (n' := 45) dX0_leftBehind_43 rfl rfl ?_
  refine w_iload (n' := 47) dX0_leftBehind_45 rfl rfl ?_
  refine w_iload_n (i := 3) (n' := 48) dX0_leftBehind_47 rfl rfl rfl ?_
  refine w_iload (n' := 50) dX0_leftBehind_48 rfl rfl ?_
  refine s_E (n' := 53) dX0_leftBehind_50 rfl lRX0_59 okX0_daysDownTo stX0_daysDownTo ⟨⟨Nat.le_of_ble_eq_true rfl, Nat.le_of_ble_eq_true rfl⟩, Nat.le_of_ble_eq_true rfl, Nat.le_of_ble_eq_true rfl⟩ (c_daysDownTo _ _ _ _) rfl rfl (Nat.le_of_ble_eq_true rfl) ?_
  refine w_min (n' := 56) dX0_leftBehind_53 rfl lRX0_63 ⟨Nat.le_of_ble_eq_true rfl, Nat.le_of_ble_eq_true rfl, Nat.le_of_ble_eq_true rfl, Nat.le_of_ble_eq_true rfl⟩ ?_
  refine w_istore (n' := 58) (ls' := [_, _, _, _, _, _, _, _, _, _, _]) dX0_leftBehind_56 rfl (Nat.le_of_ble_eq_true rfl) rfl rfl ?_
  refine w_iload_n (i := 3) (n' := 59) dX0_leftBehind_58 rfl rfl rfl ?_
  refine w_iload (n' := 61) dX0_leftBehind_59 rfl rfl ?_
  refine w_iload (n' := 63) dX0_leftBehind_61 rfl rfl ?_
  refine w_imul (n' := 64) dX0_leftBehind_63 rfl ?_
  refine w_isub (n' := 65) dX0_leftBehind_64 rfl ?_
  refine w_istore_n (i := 3) (n' := 66) (ls' := [_, _, _, _, _, _, _, _, _, _, _]) dX0_leftBehind_65 rfl rfl (Nat.le_of_ble_eq_true rfl) rfl rfl ?_
  refine w_iload (n' := 68) dX0_leftBehind_66 rfl rfl ?_
  refine w_iload (n' := 70) dX0_leftBehind_68 rfl rfl ?_
  refine w_isub (n' := 71) dX0_leftBehind_70 rfl ?_
  refine w_istore (n' := 73) (ls' := [_, _, _, _, _, _, _, _, _, _, _]) dX0_leftBehind_71 rfl (Nat.le_of_ble_eq_true rfl) rfl rfl ?_
  refine w_iinc (n' := 76) (v := _) (ls' := [_, _, _, _, _, _, _, _, _, _, _]) dX0_leftBehind_73 rfl rfl rfl (Nat.le_of_ble_eq_true rfl) rfl rfl ?_
  refine w_goto (tgt := 21) dX0_leftBehind_76 rfl ?_
  refine w_iload (n' := 23) dX0_leftBehind_21 rfl rfl ?_
  refine w_iload (n' := 25) dX0_leftBehind_23 rfl rfl ?_
  refine w_icmp_ge (n' := 28) (tgt := 79) dX0_leftBehind_25 rfl rfl (fun h25 => ?_) (fun h25 => absurd (by decide) h25)
  refine w_iconst (v := 0) (n' := 80) dX0_leftBehind_79 rfl rfl ?_
  refine w_iload_n (i := 3) (n' := 81) dX0_leftBehind_80 rfl rfl rfl ?_
  refine w_max (n' := 84) dX0_leftBehind_81 rfl lRX0_47 ⟨Nat.le_of_ble_eq_true rfl, Nat.le_of_ble_eq_true rfl, Nat.le_of_ble_eq_true rfl, Nat.le_of_ble_eq_true rfl⟩ ?_
  exact w_iret dX0_leftBehind_84 rfl ⟨rfl, rfl⟩
