/-! the farm, and small ones of the class -/
def inR (v a b : Int32) : Int32 := if v < a then 0 else if b < v then 0 else 1
def bitI (s i : Int32) : Int32 := if (s >>> (i &&& 31)) &&& 1 = 1 then 1 else 0
def toldF (f : Nat → Int32) (what : Int32) : Int32 := if what = 0 then f 0 else if what = 1 then f 1 else if what = 2 then f 2 else if what = 3 then f 3 else f 4
def slotF (what : Int32) : Nat := if what = 0 then 0 else if what = 1 then 1 else if what = 2 then 2 else if what = 3 then 3 else 4
def reapF (kind hands wet there : Int32) : Int32 :=
  if kind = 1 then maxI 1 (maxI 1 (2 * hands - wet / 10) / 2)
  else if kind = 2 then maxI 1 (2 * hands - wet / 10) + 3
  else if kind = 3 then (if 20 < there then maxI 1 (2 * hands - wet / 10) + 3 else (maxI 1 (2 * hands - wet / 10) + 3) / 2)
  else if kind = 4 then (if 5 < there then (if 20 < there then maxI 1 (2 * hands - wet / 10) + 3 else (maxI 1 (2 * hands - wet / 10) + 3) / 2) else 1)
  else if kind = 5 then (if wet < 50 then 30 else 2)
  else if kind = 6 then maxI 1 (maxI 1 (maxI 1 (2 * hands - wet / 10) / 2) - 1)
  else maxI 1 (2 * hands - wet / 10)
def tellF (kind had : Int32) : Int32 :=
  if kind = 1 then 2 else if kind = 2 then 3 else if kind = 3 then -3 else if kind = 4 then -3 + minI 9 had else if kind = 5 then 0 else if kind = 6 then 4 else 1
def downF (floor sheaves reaps : Int32) : Int32 := if sheaves ≤ floor then 0 else if reaps < 1 then 0 else (sheaves - floor + reaps - 1) / reaps
def alterF (mem : Mem) (k : Nat) (what v : Int32) : Mem := up2 (up2 mem k (slotF what) v) k 5 (-1)
set_option maxHeartbeats 4000000 in
theorem c_within (v a b : Int32) (mem : Mem) : CnE mX5_within [.int v, .int a, .int b] mem (some (.int (inR v a b))) mem := by
  refine Cn.of (ls := [some (.int v), some (.int a), some (.int b)]) (by decide) rfl (Nat.le_of_ble_eq_true rfl) ?_
  refine w_iload_n (i := 0) (n' := 1) dX5_within_0 rfl rfl rfl ?_
  refine w_iload_n (i := 1) (n' := 2) dX5_within_1 rfl rfl rfl ?_
  refine w_icmp_lt (n' := 5) (tgt := 14) dX5_within_2 rfl rfl (fun h2 => ?_) (fun h2 => ?_)
  · refine w_iconst (v := 0) (n' := 15) dX5_within_14 rfl rfl ?_
    exact w_zret dX5_within_15 rfl rfl ⟨by simp [inR, *], rfl⟩
  · refine w_iload_n (i := 0) (n' := 6) dX5_within_5 rfl rfl rfl ?_
    refine w_iload_n (i := 2) (n' := 7) dX5_within_6 rfl rfl rfl ?_
    refine w_icmp_gt (n' := 10) (tgt := 14) dX5_within_7 rfl rfl (fun h7 => ?_) (fun h7 => ?_)
    · refine w_iconst (v := 0) (n' := 15) dX5_within_14 rfl rfl ?_
      exact w_zret dX5_within_15 rfl rfl ⟨by simp [inR, *], rfl⟩
    · refine w_iconst (v := 1) (n' := 11) dX5_within_10 rfl rfl ?_
      refine w_goto (tgt := 15) dX5_within_11 rfl ?_
      exact w_zret dX5_within_15 rfl rfl ⟨by simp [inR, *], rfl⟩
set_option maxHeartbeats 4000000 in
theorem c_isIn (v a : Int32) (mem : Mem) : CnE mX5_isIn [.int v, .int a] mem (some (.int (bitI v a))) mem := by
  refine Cn.of (ls := [some (.int v), some (.int a)]) (by decide) rfl (Nat.le_of_ble_eq_true rfl) ?_
  refine w_iload_n (i := 0) (n' := 1) dX5_isIn_0 rfl rfl rfl ?_
  refine w_iload_n (i := 1) (n' := 2) dX5_isIn_1 rfl rfl rfl ?_
  refine w_ishr (n' := 3) dX5_isIn_2 rfl ?_
  refine w_iconst (v := 1) (n' := 4) dX5_isIn_3 rfl rfl ?_
  refine w_iand (n' := 5) dX5_isIn_4 rfl ?_
  refine w_iconst (v := 1) (n' := 6) dX5_isIn_5 rfl rfl ?_
  refine w_icmp_ne (n' := 9) (tgt := 13) dX5_isIn_6 rfl rfl (fun h6 => ?_) (fun h6 => ?_)
  · refine w_iconst (v := 0) (n' := 14) dX5_isIn_13 rfl rfl ?_
    exact w_zret dX5_isIn_14 rfl rfl ⟨by simp [bitI, *], rfl⟩
  · refine w_iconst (v := 1) (n' := 10) dX5_isIn_9 rfl rfl ?_
    refine w_goto (tgt := 14) dX5_isIn_10 rfl ?_
    exact w_zret dX5_isIn_14 rfl rfl ⟨by simp [bitI, *], rfl⟩
set_option maxHeartbeats 4000000 in
theorem c_told {k : Nat} (hk : kd k = 0) (what : Int32) (mem : Mem) : CnE mX0_told [.ref k, .int what] mem (some (.int (toldF (mem k) what))) mem := by
  refine Cn.of (ls := [some (.ref k), some (.int what)]) (by decide) rfl (Nat.le_of_ble_eq_true rfl) ?_
  refine w_iload_n (i := 1) (n' := 1) dX0_told_0 rfl rfl rfl ?_
  refine w_tc (0) (tgt := 32) dX0_told_1 (by decide) (by decide) rfl rfl (fun e1_0 => ?_) (fun e1_0 => ?_)
  · refine w_aload_n (i := 0) (n' := 33) dX0_told_32 rfl rfl rfl ?_
    refine w_get (ci := 0) (j := 0) (n' := 36) dX0_told_33 rfl fRX0_9 (Nat.le_of_ble_eq_true rfl) (Nat.le_of_ble_eq_true rfl) hk rfl ?_
    exact w_iret dX0_told_36 rfl ⟨by simp [toldF, *], rfl⟩
  refine w_tc (1) (tgt := 37) dX0_told_1 (by decide) (by decide) rfl rfl (fun e1_1 => ?_) (fun e1_1 => ?_)
  · refine w_aload_n (i := 0) (n' := 38) dX0_told_37 rfl rfl rfl ?_
    refine w_get (ci := 0) (j := 1) (n' := 41) dX0_told_38 rfl fRX0_32 (Nat.le_of_ble_eq_true rfl) (Nat.le_of_ble_eq_true rfl) hk rfl ?_
    exact w_iret dX0_told_41 rfl ⟨by simp [toldF, *], rfl⟩
  refine w_tc (2) (tgt := 42) dX0_told_1 (by decide) (by decide) rfl rfl (fun e1_2 => ?_) (fun e1_2 => ?_)
  · refine w_aload_n (i := 0) (n' := 43) dX0_told_42 rfl rfl rfl ?_
    refine w_get (ci := 0) (j := 2) (n' := 46) dX0_told_43 rfl fRX0_15 (Nat.le_of_ble_eq_true rfl) (Nat.le_of_ble_eq_true rfl) hk rfl ?_
    exact w_iret dX0_told_46 rfl ⟨by simp [toldF, *], rfl⟩
  refine w_tc (3) (tgt := 47) dX0_told_1 (by decide) (by decide) rfl rfl (fun e1_3 => ?_) (fun e1_3 => ?_)
  · refine w_aload_n (i := 0) (n' := 48) dX0_told_47 rfl rfl rfl ?_
    refine w_get (ci := 0) (j := 3) (n' := 51) dX0_told_48 rfl fRX0_35 (Nat.le_of_ble_eq_true rfl) (Nat.le_of_ble_eq_true rfl) hk rfl ?_
    exact w_iret dX0_told_51 rfl ⟨by simp [toldF, *], rfl⟩
  refine w_td [0, 1, 2, 3] (tgt := 52) dX0_told_1 rfl (by decide) (List.forall_mem_cons.mpr ⟨e1_0, (List.forall_mem_cons.mpr ⟨e1_1, (List.forall_mem_cons.mpr ⟨e1_2, (List.forall_mem_cons.mpr ⟨e1_3, (fun _ h => absurd h List.not_mem_nil)⟩)⟩)⟩)⟩) ?_
  refine w_aload_n (i := 0) (n' := 53) dX0_told_52 rfl rfl rfl ?_
  refine w_get (ci := 0) (j := 4) (n' := 56) dX0_told_53 rfl fRX0_38 (Nat.le_of_ble_eq_true rfl) (Nat.le_of_ble_eq_true rfl) hk rfl ?_
  exact w_iret dX0_told_56 rfl ⟨by simp [toldF, *], rfl⟩
set_option maxHeartbeats 4000000 in
theorem c_alter {k : Nat} (hk : kd k = 0) (what v : Int32) (mem : Mem) : CnE mX0_alter [.ref k, .int what, .int v] mem none (alterF mem k what v) := by
  refine Cn.of (ls := [some (.ref k), some (.int what), some (.int v)]) (by decide) rfl (Nat.le_of_ble_eq_true rfl) ?_
  refine w_iload_n (i := 1) (n' := 1) dX0_alter_0 rfl rfl rfl ?_
  refine w_tc (0) (tgt := 32) dX0_alter_1 (by decide) (by decide) rfl rfl (fun e1_0 => ?_) (fun e1_0 => ?_)
  · refine w_aload_n (i := 0) (n' := 33) dX0_alter_32 rfl rfl rfl ?_
    refine w_iload_n (i := 2) (n' := 34) dX0_alter_33 rfl rfl rfl ?_
    refine w_put (ci := 0) (j := 0) (n' := 37) dX0_alter_34 rfl fRX0_9 (Nat.le_of_ble_eq_true rfl) (Nat.le_of_ble_eq_true rfl) rfl rfl hk rfl ?_
    refine w_goto (tgt := 69) dX0_alter_37 rfl ?_
    refine w_aload_n (i := 0) (n' := 70) dX0_alter_69 rfl rfl rfl ?_
    refine w_iconst (v := -1) (n' := 71) dX0_alter_70 rfl rfl ?_
    refine w_put (ci := 0) (j := 5) (n' := 74) dX0_alter_71 rfl fRX0_18 (Nat.le_of_ble_eq_true rfl) (Nat.le_of_ble_eq_true rfl) rfl rfl hk rfl ?_
    exact w_vret dX0_alter_74 rfl ⟨rfl, by simp [alterF, slotF, *]⟩
  refine w_tc (1) (tgt := 40) dX0_alter_1 (by decide) (by decide) rfl rfl (fun e1_1 => ?_) (fun e1_1 => ?_)
  · refine w_aload_n (i := 0) (n' := 41) dX0_alter_40 rfl rfl rfl ?_
    refine w_iload_n (i := 2) (n' := 42) dX0_alter_41 rfl rfl rfl ?_
    refine w_put (ci := 0) (j := 1) (n' := 45) dX0_alter_42 rfl fRX0_32 (Nat.le_of_ble_eq_true rfl) (Nat.le_of_ble_eq_true rfl) rfl rfl hk rfl ?_
    refine w_goto (tgt := 69) dX0_alter_45 rfl ?_
    refine w_aload_n (i := 0) (n' := 70) dX0_alter_69 rfl rfl rfl ?_
    refine w_iconst (v := -1) (n' := 71) dX0_alter_70 rfl rfl ?_
    refine w_put (ci := 0) (j := 5) (n' := 74) dX0_alter_71 rfl fRX0_18 (Nat.le_of_ble_eq_true rfl) (Nat.le_of_ble_eq_true rfl) rfl rfl hk rfl ?_
    exact w_vret dX0_alter_74 rfl ⟨rfl, by simp [alterF, slotF, *]⟩
  refine w_tc (2) (tgt := 48) dX0_alter_1 (by decide) (by decide) rfl rfl (fun e1_2 => ?_) (fun e1_2 => ?_)
  · refine w_aload_n (i := 0) (n' := 49) dX0_alter_48 rfl rfl rfl ?_
    refine w_iload_n (i := 2) (n' := 50) dX0_alter_49 rfl rfl rfl ?_
    refine w_put (ci := 0) (j := 2) (n' := 53) dX0_alter_50 rfl fRX0_15 (Nat.le_of_ble_eq_true rfl) (Nat.le_of_ble_eq_true rfl) rfl rfl hk rfl ?_
    refine w_goto (tgt := 69) dX0_alter_53 rfl ?_
    refine w_aload_n (i := 0) (n' := 70) dX0_alter_69 rfl rfl rfl ?_
    refine w_iconst (v := -1) (n' := 71) dX0_alter_70 rfl rfl ?_
    refine w_put (ci := 0) (j := 5) (n' := 74) dX0_alter_71 rfl fRX0_18 (Nat.le_of_ble_eq_true rfl) (Nat.le_of_ble_eq_true rfl) rfl rfl hk rfl ?_
    exact w_vret dX0_alter_74 rfl ⟨rfl, by simp [alterF, slotF, *]⟩
  refine w_tc (3) (tgt := 56) dX0_alter_1 (by decide) (by decide) rfl rfl (fun e1_3 => ?_) (fun e1_3 => ?_)
  · refine w_aload_n (i := 0) (n' := 57) dX0_alter_56 rfl rfl rfl ?_
    refine w_iload_n (i := 2) (n' := 58) dX0_alter_57 rfl rfl rfl ?_
    refine w_put (ci := 0) (j := 3) (n' := 61) dX0_alter_58 rfl fRX0_35 (Nat.le_of_ble_eq_true rfl) (Nat.le_of_ble_eq_true rfl) rfl rfl hk rfl ?_
    refine w_goto (tgt := 69) dX0_alter_61 rfl ?_
    refine w_aload_n (i := 0) (n' := 70) dX0_alter_69 rfl rfl rfl ?_
    refine w_iconst (v := -1) (n' := 71) dX0_alter_70 rfl rfl ?_
    refine w_put (ci := 0) (j := 5) (n' := 74) dX0_alter_71 rfl fRX0_18 (Nat.le_of_ble_eq_true rfl) (Nat.le_of_ble_eq_true rfl) rfl rfl hk rfl ?_
    exact w_vret dX0_alter_74 rfl ⟨rfl, by simp [alterF, slotF, *]⟩
  refine w_td [0, 1, 2, 3] (tgt := 64) dX0_alter_1 rfl (by decide) (List.forall_mem_cons.mpr ⟨e1_0, (List.forall_mem_cons.mpr ⟨e1_1, (List.forall_mem_cons.mpr ⟨e1_2, (List.forall_mem_cons.mpr ⟨e1_3, (fun _ h => absurd h List.not_mem_nil)⟩)⟩)⟩)⟩) ?_
  refine w_aload_n (i := 0) (n' := 65) dX0_alter_64 rfl rfl rfl ?_
  refine w_iload_n (i := 2) (n' := 66) dX0_alter_65 rfl rfl rfl ?_
  refine w_put (ci := 0) (j := 4) (n' := 69) dX0_alter_66 rfl fRX0_38 (Nat.le_of_ble_eq_true rfl) (Nat.le_of_ble_eq_true rfl) rfl rfl hk rfl ?_
  refine w_aload_n (i := 0) (n' := 70) dX0_alter_69 rfl rfl rfl ?_
  refine w_iconst (v := -1) (n' := 71) dX0_alter_70 rfl rfl ?_
  refine w_put (ci := 0) (j := 5) (n' := 74) dX0_alter_71 rfl fRX0_18 (Nat.le_of_ble_eq_true rfl) (Nat.le_of_ble_eq_true rfl) rfl rfl hk rfl ?_
  exact w_vret dX0_alter_74 rfl ⟨rfl, by simp [alterF, slotF, *]⟩
set_option maxHeartbeats 4000000 in
theorem c_tells {k : Nat} (hk : kd k = 0) (mem : Mem) : CnE mX0_tells [.ref k] mem (some (.int (tellF (mem k 0) (mem k 4)))) mem := by
  refine Cn.of (ls := [some (.ref k)]) (by decide) rfl (Nat.le_of_ble_eq_true rfl) ?_
  refine w_aload_n (i := 0) (n' := 1) dX0_tells_0 rfl rfl rfl ?_
  refine w_get (ci := 0) (j := 0) (n' := 4) dX0_tells_1 rfl fRX0_9 (Nat.le_of_ble_eq_true rfl) (Nat.le_of_ble_eq_true rfl) hk rfl ?_
  refine w_tc (1) (tgt := 44) dX0_tells_4 (by decide) (by decide) rfl rfl (fun e4_0 => ?_) (fun e4_0 => ?_)
  · refine w_iconst (v := 2) (n' := 45) dX0_tells_44 rfl rfl ?_
    exact w_iret dX0_tells_45 rfl ⟨by simp [tellF, *], rfl⟩
  refine w_tc (2) (tgt := 48) dX0_tells_4 (by decide) (by decide) rfl rfl (fun e4_1 => ?_) (fun e4_1 => ?_)
  · refine w_iconst (v := 3) (n' := 49) dX0_tells_48 rfl rfl ?_
    exact w_iret dX0_tells_49 rfl ⟨by simp [tellF, *], rfl⟩
  refine w_tc (3) (tgt := 50) dX0_tells_4 (by decide) (by decide) rfl rfl (fun e4_2 => ?_) (fun e4_2 => ?_)
  · refine w_bipush (v := -3) (n' := 52) dX0_tells_50 rfl (by decide) ?_
    exact w_iret dX0_tells_52 rfl ⟨by simp [tellF, *], rfl⟩
  refine w_tc (4) (tgt := 53) dX0_tells_4 (by decide) (by decide) rfl rfl (fun e4_3 => ?_) (fun e4_3 => ?_)
  · refine w_bipush (v := -3) (n' := 55) dX0_tells_53 rfl (by decide) ?_
    refine w_bipush (v := 9) (n' := 57) dX0_tells_55 rfl (by decide) ?_
    refine w_aload_n (i := 0) (n' := 58) dX0_tells_57 rfl rfl rfl ?_
    refine w_get (ci := 0) (j := 4) (n' := 61) dX0_tells_58 rfl fRX0_38 (Nat.le_of_ble_eq_true rfl) (Nat.le_of_ble_eq_true rfl) hk rfl ?_
    refine w_min (n' := 64) dX0_tells_61 rfl lRX0_63 ⟨Nat.le_of_ble_eq_true rfl, Nat.le_of_ble_eq_true rfl, Nat.le_of_ble_eq_true rfl, Nat.le_of_ble_eq_true rfl⟩ ?_
    refine w_iadd (n' := 65) dX0_tells_64 rfl ?_
    exact w_iret dX0_tells_65 rfl ⟨by simp [tellF, *], rfl⟩
  refine w_tc (5) (tgt := 66) dX0_tells_4 (by decide) (by decide) rfl rfl (fun e4_4 => ?_) (fun e4_4 => ?_)
  · refine w_iconst (v := 0) (n' := 67) dX0_tells_66 rfl rfl ?_
    exact w_iret dX0_tells_67 rfl ⟨by simp [tellF, *], rfl⟩
  refine w_tc (6) (tgt := 46) dX0_tells_4 (by decide) (by decide) rfl rfl (fun e4_5 => ?_) (fun e4_5 => ?_)
  · refine w_iconst (v := 4) (n' := 47) dX0_tells_46 rfl rfl ?_
    exact w_iret dX0_tells_47 rfl ⟨by simp [tellF, *], rfl⟩
  refine w_td [1, 2, 3, 4, 5, 6] (tgt := 68) dX0_tells_4 rfl (by decide) (List.forall_mem_cons.mpr ⟨e4_0, (List.forall_mem_cons.mpr ⟨e4_1, (List.forall_mem_cons.mpr ⟨e4_2, (List.forall_mem_cons.mpr ⟨e4_3, (List.forall_mem_cons.mpr ⟨e4_4, (List.forall_mem_cons.mpr ⟨e4_5, (fun _ h => absurd h List.not_mem_nil)⟩)⟩)⟩)⟩)⟩)⟩) ?_
  refine w_iconst (v := 1) (n' := 69) dX0_tells_68 rfl rfl ?_
  exact w_iret dX0_tells_69 rfl ⟨by simp [tellF, *], rfl⟩
set_option maxHeartbeats 4000000 in
theorem c_reapsOf {k : Nat} (hk : kd k = 0) (there wet : Int32) (mem : Mem) : CnE mX0_reapsOf [.ref k, .int there, .int wet] mem (some (.int (reapF (mem k 0) (mem k 2) wet there))) mem := by
  refine Cn.of (ls := [some (.ref k), some (.int there), some (.int wet), none, none, none, none]) (by decide) rfl (Nat.le_of_ble_eq_true rfl) ?_
  refine w_iconst (v := 1) (n' := 1) dX0_reapsOf_0 rfl rfl ?_
  refine w_iconst (v := 2) (n' := 2) dX0_reapsOf_1 rfl rfl ?_
  refine w_aload_n (i := 0) (n' := 3) dX0_reapsOf_2 rfl rfl rfl ?_
  refine w_get (ci := 0) (j := 2) (n' := 6) dX0_reapsOf_3 rfl fRX0_15 (Nat.le_of_ble_eq_true rfl) (Nat.le_of_ble_eq_true rfl) hk rfl ?_
  refine w_imul (n' := 7) dX0_reapsOf_6 rfl ?_
  refine w_iload_n (i := 2) (n' := 8) dX0_reapsOf_7 rfl rfl rfl ?_
  refine w_bipush (v := 10) (n' := 10) dX0_reapsOf_8 rfl (by decide) ?_
  refine w_idiv (n' := 11) dX0_reapsOf_10 rfl (by decide) ?_
  refine w_isub (n' := 12) dX0_reapsOf_11 rfl ?_
  refine w_max (n' := 15) dX0_reapsOf_12 rfl lRX0_47 ⟨Nat.le_of_ble_eq_true rfl, Nat.le_of_ble_eq_true rfl, Nat.le_of_ble_eq_true rfl, Nat.le_of_ble_eq_true rfl⟩ ?_
  refine w_istore_n (i := 3) (n' := 16) (ls' := [_, _, _, _, _, _, _]) dX0_reapsOf_15 rfl rfl (Nat.le_of_ble_eq_true rfl) rfl rfl ?_
  refine w_iconst (v := 1) (n' := 17) dX0_reapsOf_16 rfl rfl ?_
  refine w_iload_n (i := 3) (n' := 18) dX0_reapsOf_17 rfl rfl rfl ?_
  refine w_iconst (v := 2) (n' := 19) dX0_reapsOf_18 rfl rfl ?_
  refine w_idiv (n' := 20) dX0_reapsOf_19 rfl (by decide) ?_
  refine w_max (n' := 23) dX0_reapsOf_20 rfl lRX0_47 ⟨Nat.le_of_ble_eq_true rfl, Nat.le_of_ble_eq_true rfl, Nat.le_of_ble_eq_true rfl, Nat.le_of_ble_eq_true rfl⟩ ?_
  refine w_istore (n' := 25) (ls' := [_, _, _, _, _, _, _]) dX0_reapsOf_23 rfl (Nat.le_of_ble_eq_true rfl) rfl rfl ?_
  refine w_iload_n (i := 3) (n' := 26) dX0_reapsOf_25 rfl rfl rfl ?_
  refine w_iconst (v := 3) (n' := 27) dX0_reapsOf_26 rfl rfl ?_
  refine w_iadd (n' := 28) dX0_reapsOf_27 rfl ?_
  refine w_istore (n' := 30) (ls' := [_, _, _, _, _, _, _]) dX0_reapsOf_28 rfl (Nat.le_of_ble_eq_true rfl) rfl rfl ?_
  refine w_iload_n (i := 1) (n' := 31) dX0_reapsOf_30 rfl rfl rfl ?_
  refine w_bipush (v := 20) (n' := 33) dX0_reapsOf_31 rfl (by decide) ?_
  refine w_icmp_gt (n' := 36) (tgt := 43) dX0_reapsOf_33 rfl rfl (fun h33 => ?_) (fun h33 => ?_)
  · refine w_iload (n' := 45) dX0_reapsOf_43 rfl rfl ?_
    refine w_istore (n' := 47) (ls' := [_, _, _, _, _, _, _]) dX0_reapsOf_45 rfl (Nat.le_of_ble_eq_true rfl) rfl rfl ?_
    refine w_aload_n (i := 0) (n' := 48) dX0_reapsOf_47 rfl rfl rfl ?_
    refine w_get (ci := 0) (j := 0) (n' := 51) dX0_reapsOf_48 rfl fRX0_9 (Nat.le_of_ble_eq_true rfl) (Nat.le_of_ble_eq_true rfl) hk rfl ?_
    refine w_tc (1) (tgt := 88) dX0_reapsOf_51 (by decide) (by decide) rfl rfl (fun e51_0 => ?_) (fun e51_0 => ?_)
    · refine w_iload (n' := 90) dX0_reapsOf_88 rfl rfl ?_
      exact w_iret dX0_reapsOf_90 rfl ⟨by simp [reapF, *], rfl⟩
    refine w_tc (2) (tgt := 100) dX0_reapsOf_51 (by decide) (by decide) rfl rfl (fun e51_1 => ?_) (fun e51_1 => ?_)
    · refine w_iload (n' := 102) dX0_reapsOf_100 rfl rfl ?_
      exact w_iret dX0_reapsOf_102 rfl ⟨by simp [reapF, *], rfl⟩
    refine w_tc (3) (tgt := 103) dX0_reapsOf_51 (by decide) (by decide) rfl rfl (fun e51_2 => ?_) (fun e51_2 => ?_)
    · refine w_iload (n' := 105) dX0_reapsOf_103 rfl rfl ?_
      exact w_iret dX0_reapsOf_105 rfl ⟨by simp [reapF, *], rfl⟩
    refine w_tc (4) (tgt := 106) dX0_reapsOf_51 (by decide) (by decide) rfl rfl (fun e51_3 => ?_) (fun e51_3 => ?_)
    · refine w_iload_n (i := 1) (n' := 107) dX0_reapsOf_106 rfl rfl rfl ?_
      refine w_iconst (v := 5) (n' := 108) dX0_reapsOf_107 rfl rfl ?_
      refine w_icmp_gt (n' := 111) (tgt := 115) dX0_reapsOf_108 rfl rfl (fun h108 => ?_) (fun h108 => ?_)
      · refine w_iload (n' := 117) dX0_reapsOf_115 rfl rfl ?_
        exact w_iret dX0_reapsOf_117 rfl ⟨by simp [reapF, *], rfl⟩
      · refine w_iconst (v := 1) (n' := 112) dX0_reapsOf_111 rfl rfl ?_
        refine w_goto (tgt := 117) dX0_reapsOf_112 rfl ?_
        exact w_iret dX0_reapsOf_117 rfl ⟨by simp [reapF, *], rfl⟩
    refine w_tc (5) (tgt := 118) dX0_reapsOf_51 (by decide) (by decide) rfl rfl (fun e51_4 => ?_) (fun e51_4 => ?_)
    · refine w_iload_n (i := 2) (n' := 119) dX0_reapsOf_118 rfl rfl rfl ?_
      refine w_bipush (v := 50) (n' := 121) dX0_reapsOf_119 rfl (by decide) ?_
      refine w_icmp_ge (n' := 124) (tgt := 129) dX0_reapsOf_121 rfl rfl (fun h121 => ?_) (fun h121 => ?_)
      · refine w_iconst (v := 2) (n' := 130) dX0_reapsOf_129 rfl rfl ?_
        exact w_iret dX0_reapsOf_130 rfl ⟨by simp [reapF, *], rfl⟩
      · refine w_bipush (v := 30) (n' := 126) dX0_reapsOf_124 rfl (by decide) ?_
        refine w_goto (tgt := 130) dX0_reapsOf_126 rfl ?_
        exact w_iret dX0_reapsOf_130 rfl ⟨by simp [reapF, *], rfl⟩
    refine w_tc (6) (tgt := 91) dX0_reapsOf_51 (by decide) (by decide) rfl rfl (fun e51_5 => ?_) (fun e51_5 => ?_)
    · refine w_iconst (v := 1) (n' := 92) dX0_reapsOf_91 rfl rfl ?_
      refine w_iload (n' := 94) dX0_reapsOf_92 rfl rfl ?_
      refine w_iconst (v := 1) (n' := 95) dX0_reapsOf_94 rfl rfl ?_
      refine w_isub (n' := 96) dX0_reapsOf_95 rfl ?_
      refine w_max (n' := 99) dX0_reapsOf_96 rfl lRX0_47 ⟨Nat.le_of_ble_eq_true rfl, Nat.le_of_ble_eq_true rfl, Nat.le_of_ble_eq_true rfl, Nat.le_of_ble_eq_true rfl⟩ ?_
      exact w_iret dX0_reapsOf_99 rfl ⟨by simp [reapF, *], rfl⟩
    refine w_td [1, 2, 3, 4, 5, 6] (tgt := 131) dX0_reapsOf_51 rfl (by decide) (List.forall_mem_cons.mpr ⟨e51_0, (List.forall_mem_cons.mpr ⟨e51_1, (List.forall_mem_cons.mpr ⟨e51_2, (List.forall_mem_cons.mpr ⟨e51_3, (List.forall_mem_cons.mpr ⟨e51_4, (List.forall_mem_cons.mpr ⟨e51_5, (fun _ h => absurd h List.not_mem_nil)⟩)⟩)⟩)⟩)⟩)⟩) ?_
    refine w_iload_n (i := 3) (n' := 132) dX0_reapsOf_131 rfl rfl rfl ?_
    exact w_iret dX0_reapsOf_132 rfl ⟨by simp [reapF, *], rfl⟩
  · refine w_iload (n' := 38) dX0_reapsOf_36 rfl rfl ?_
    refine w_iconst (v := 2) (n' := 39) dX0_reapsOf_38 rfl rfl ?_
    refine w_idiv (n' := 40) dX0_reapsOf_39 rfl (by decide) ?_
    refine w_goto (tgt := 45) dX0_reapsOf_40 rfl ?_
    refine w_istore (n' := 47) (ls' := [_, _, _, _, _, _, _]) dX0_reapsOf_45 rfl (Nat.le_of_ble_eq_true rfl) rfl rfl ?_
    refine w_aload_n (i := 0) (n' := 48) dX0_reapsOf_47 rfl rfl rfl ?_
    refine w_get (ci := 0) (j := 0) (n' := 51) dX0_reapsOf_48 rfl fRX0_9 (Nat.le_of_ble_eq_true rfl) (Nat.le_of_ble_eq_true rfl) hk rfl ?_
    refine w_tc (1) (tgt := 88) dX0_reapsOf_51 (by decide) (by decide) rfl rfl (fun e51_0 => ?_) (fun e51_0 => ?_)
    · refine w_iload (n' := 90) dX0_reapsOf_88 rfl rfl ?_
      exact w_iret dX0_reapsOf_90 rfl ⟨by simp [reapF, *], rfl⟩
    refine w_tc (2) (tgt := 100) dX0_reapsOf_51 (by decide) (by decide) rfl rfl (fun e51_1 => ?_) (fun e51_1 => ?_)
    · refine w_iload (n' := 102) dX0_reapsOf_100 rfl rfl ?_
      exact w_iret dX0_reapsOf_102 rfl ⟨by simp [reapF, *], rfl⟩
    refine w_tc (3) (tgt := 103) dX0_reapsOf_51 (by decide) (by decide) rfl rfl (fun e51_2 => ?_) (fun e51_2 => ?_)
    · refine w_iload (n' := 105) dX0_reapsOf_103 rfl rfl ?_
      exact w_iret dX0_reapsOf_105 rfl ⟨by simp [reapF, *], rfl⟩
    refine w_tc (4) (tgt := 106) dX0_reapsOf_51 (by decide) (by decide) rfl rfl (fun e51_3 => ?_) (fun e51_3 => ?_)
    · refine w_iload_n (i := 1) (n' := 107) dX0_reapsOf_106 rfl rfl rfl ?_
      refine w_iconst (v := 5) (n' := 108) dX0_reapsOf_107 rfl rfl ?_
      refine w_icmp_gt (n' := 111) (tgt := 115) dX0_reapsOf_108 rfl rfl (fun h108 => ?_) (fun h108 => ?_)
      · refine w_iload (n' := 117) dX0_reapsOf_115 rfl rfl ?_
        exact w_iret dX0_reapsOf_117 rfl ⟨by simp [reapF, *], rfl⟩
      · refine w_iconst (v := 1) (n' := 112) dX0_reapsOf_111 rfl rfl ?_
        refine w_goto (tgt := 117) dX0_reapsOf_112 rfl ?_
        exact w_iret dX0_reapsOf_117 rfl ⟨by simp [reapF, *], rfl⟩
    refine w_tc (5) (tgt := 118) dX0_reapsOf_51 (by decide) (by decide) rfl rfl (fun e51_4 => ?_) (fun e51_4 => ?_)
    · refine w_iload_n (i := 2) (n' := 119) dX0_reapsOf_118 rfl rfl rfl ?_
      refine w_bipush (v := 50) (n' := 121) dX0_reapsOf_119 rfl (by decide) ?_
      refine w_icmp_ge (n' := 124) (tgt := 129) dX0_reapsOf_121 rfl rfl (fun h121 => ?_) (fun h121 => ?_)
      · refine w_iconst (v := 2) (n' := 130) dX0_reapsOf_129 rfl rfl ?_
        exact w_iret dX0_reapsOf_130 rfl ⟨by simp [reapF, *], rfl⟩
      · refine w_bipush (v := 30) (n' := 126) dX0_reapsOf_124 rfl (by decide) ?_
        refine w_goto (tgt := 130) dX0_reapsOf_126 rfl ?_
        exact w_iret dX0_reapsOf_130 rfl ⟨by simp [reapF, *], rfl⟩
    refine w_tc (6) (tgt := 91) dX0_reapsOf_51 (by decide) (by decide) rfl rfl (fun e51_5 => ?_) (fun e51_5 => ?_)
    · refine w_iconst (v := 1) (n' := 92) dX0_reapsOf_91 rfl rfl ?_
      refine w_iload (n' := 94) dX0_reapsOf_92 rfl rfl ?_
      refine w_iconst (v := 1) (n' := 95) dX0_reapsOf_94 rfl rfl ?_
      refine w_isub (n' := 96) dX0_reapsOf_95 rfl ?_
      refine w_max (n' := 99) dX0_reapsOf_96 rfl lRX0_47 ⟨Nat.le_of_ble_eq_true rfl, Nat.le_of_ble_eq_true rfl, Nat.le_of_ble_eq_true rfl, Nat.le_of_ble_eq_true rfl⟩ ?_
      exact w_iret dX0_reapsOf_99 rfl ⟨by simp [reapF, *], rfl⟩
    refine w_td [1, 2, 3, 4, 5, 6] (tgt := 131) dX0_reapsOf_51 rfl (by decide) (List.forall_mem_cons.mpr ⟨e51_0, (List.forall_mem_cons.mpr ⟨e51_1, (List.forall_mem_cons.mpr ⟨e51_2, (List.forall_mem_cons.mpr ⟨e51_3, (List.forall_mem_cons.mpr ⟨e51_4, (List.forall_mem_cons.mpr ⟨e51_5, (fun _ h => absurd h List.not_mem_nil)⟩)⟩)⟩)⟩)⟩)⟩) ?_
    refine w_iload_n (i := 3) (n' := 132) dX0_reapsOf_131 rfl rfl rfl ?_
    exact w_iret dX0_reapsOf_132 rfl ⟨by simp [reapF, *], rfl⟩
set_option maxHeartbeats 4000000 in
theorem c_daysDownTo (fl sh re : Int32) (mem : Mem) : CnE mX0_daysDownTo [.int fl, .int sh, .int re] mem (some (.int (downF fl sh re))) mem := by
  refine Cn.of (ls := [some (.int fl), some (.int sh), some (.int re)]) (by decide) rfl (Nat.le_of_ble_eq_true rfl) ?_
  refine w_iload_n (i := 1) (n' := 1) dX0_daysDownTo_0 rfl rfl rfl ?_
  refine w_iload_n (i := 0) (n' := 2) dX0_daysDownTo_1 rfl rfl rfl ?_
  refine w_icmp_le (n' := 5) (tgt := 10) dX0_daysDownTo_2 rfl rfl (fun h2 => ?_) (fun h2 => ?_)
  · refine w_iconst (v := 0) (n' := 11) dX0_daysDownTo_10 rfl rfl ?_
    exact w_iret dX0_daysDownTo_11 rfl ⟨by simp [downF, *], rfl⟩
  · refine w_iload_n (i := 2) (n' := 6) dX0_daysDownTo_5 rfl rfl rfl ?_
    refine w_iconst (v := 1) (n' := 7) dX0_daysDownTo_6 rfl rfl ?_
    refine w_icmp_ge (n' := 10) (tgt := 12) dX0_daysDownTo_7 rfl rfl (fun h7 => ?_) (fun h7 => ?_)
    · refine w_iload_n (i := 1) (n' := 13) dX0_daysDownTo_12 rfl rfl rfl ?_
      refine w_iload_n (i := 0) (n' := 14) dX0_daysDownTo_13 rfl rfl rfl ?_
      refine w_isub (n' := 15) dX0_daysDownTo_14 rfl ?_
      refine w_iload_n (i := 2) (n' := 16) dX0_daysDownTo_15 rfl rfl rfl ?_
      refine w_iadd (n' := 17) dX0_daysDownTo_16 rfl ?_
      refine w_iconst (v := 1) (n' := 18) dX0_daysDownTo_17 rfl rfl ?_
      refine w_isub (n' := 19) dX0_daysDownTo_18 rfl ?_
      refine w_iload_n (i := 2) (n' := 20) dX0_daysDownTo_19 rfl rfl rfl ?_
      refine w_idiv (n' := 21) dX0_daysDownTo_20 rfl (fun e => h7 (by rw [e]; decide)) ?_
      exact w_iret dX0_daysDownTo_21 rfl ⟨by simp [downF, *], rfl⟩
    · refine w_iconst (v := 0) (n' := 11) dX0_daysDownTo_10 rfl rfl ?_
      exact w_iret dX0_daysDownTo_11 rfl ⟨by simp [downF, *], rfl⟩
