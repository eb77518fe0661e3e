set_option maxHeartbeats 4000000 in
theorem law_18 {b L : Nat} {xs : Nat → Int32} (hL : L ≤ 3072) : ∀ (k i : Nat) (mem : Mem), L < i + 6 * k → i ≤ L + 5 → J mem → Wm mL (zL b L xs) 18 [some (.ref 900), some (.ref 0), some (.ref 50), some (.int (nI i))] [] mem := by
  intro k
  induction k with
  | zero =>
    intro i mem hk hi h
    refine w_iload_n (i := 3) (n' := 19) dL_law_18 rfl rfl rfl ?_
    refine w_aload_n (i := 0) (n' := 20) dL_law_19 rfl rfl rfl ?_
    refine w_slen (n' := 21) dL_law_20 rfl ?_
    refine w_bipush (v := 6) (n' := 23) dL_law_21 rfl (by decide) ?_
    refine w_isub (n' := 24) dL_law_23 rfl ?_
    refine w_icmp_gt (n' := 27) (tgt := 1501) dL_law_24 rfl rfl (fun _ => ?_) (fun h24 => absurd (lt6 hL (by omega) (by omega)) h24)
    refine w_iconst (v := 1) (n' := 1502) dL_law_1501 rfl rfl ?_
    exact w_end dL_law_1502
  | succ k ih =>
    intro i mem hk hi h
    refine w_iload_n (i := 3) (n' := 19) dL_law_18 rfl rfl rfl ?_
    refine w_aload_n (i := 0) (n' := 20) dL_law_19 rfl rfl rfl ?_
    refine w_slen (n' := 21) dL_law_20 rfl ?_
    refine w_bipush (v := 6) (n' := 23) dL_law_21 rfl (by decide) ?_
    refine w_isub (n' := 24) dL_law_23 rfl ?_
    refine w_icmp_gt (n' := 27) (tgt := 1501) dL_law_24 rfl rfl (fun _ => ?_) (fun h24 => ?_)
    · refine w_iconst (v := 1) (n' := 1502) dL_law_1501 rfl rfl ?_
      exact w_end dL_law_1502
    · have h6 : i + 6 ≤ L := by
        rcases Nat.lt_or_ge L (i + 6) with q | q
        · exact absurd (lt6 hL q hi) h24
        · exact q
      have K : ∀ m2, J m2 → Wm mL (zL b L xs) 1495 [some (.ref 900), some (.ref 0), some (.ref 50), some (.int (nI i))] [] m2 := by
        intro m2 h2
        refine w_iinc (n' := 1498) (v := nI (i + 6)) (ls' := [_, _, _, _]) dL_law_1495 rfl rfl (nI_add i 6) (Nat.le_of_ble_eq_true rfl) rfl rfl ?_
        refine w_goto (tgt := 18) dL_law_1498 rfl ?_
        exact ih (i + 6) m2 (by omega) (by omega) h2
      refine w_aload_n (i := 0) (n' := 28) dL_law_27 rfl rfl rfl ?_
      refine w_iload_n (i := 3) (n' := 29) dL_law_28 rfl rfl rfl ?_
      refine w_sld (n := i) (n' := 30) dL_law_29 rfl rfl (by omega) hL ?_
      refine w_bipush (v := 63) (n' := 32) dL_law_30 rfl (by decide) ?_
      refine w_iand (n' := 33) dL_law_32 rfl ?_
      refine w_tc (0) (tgt := 240) dL_law_33 (by decide) (by decide) rfl rfl (fun e_0 => lc_0 hL h6 h K) (fun e_0 => ?_)
      refine w_tc (1) (tgt := 273) dL_law_33 (by decide) (by decide) rfl rfl (fun e_1 => lc_1 hL h6 h K) (fun e_1 => ?_)
      refine w_tc (2) (tgt := 306) dL_law_33 (by decide) (by decide) rfl rfl (fun e_2 => lc_2 hL h6 h K) (fun e_2 => ?_)
      refine w_tc (3) (tgt := 339) dL_law_33 (by decide) (by decide) rfl rfl (fun e_3 => lc_3 hL h6 h K) (fun e_3 => ?_)
      refine w_tc (4) (tgt := 382) dL_law_33 (by decide) (by decide) rfl rfl (fun e_4 => lc_4 hL h6 h K) (fun e_4 => ?_)
      refine w_tc (5) (tgt := 415) dL_law_33 (by decide) (by decide) rfl rfl (fun e_5 => lc_5 hL h6 h K) (fun e_5 => ?_)
      refine w_tc (6) (tgt := 428) dL_law_33 (by decide) (by decide) rfl rfl (fun e_6 => lc_6 hL h6 h K) (fun e_6 => ?_)
      refine w_tc (7) (tgt := 441) dL_law_33 (by decide) (by decide) rfl rfl (fun e_7 => lc_7 hL h6 h K) (fun e_7 => ?_)
      refine w_tc (8) (tgt := 454) dL_law_33 (by decide) (by decide) rfl rfl (fun e_8 => lc_8 hL h6 h K) (fun e_8 => ?_)
      refine w_tc (9) (tgt := 467) dL_law_33 (by decide) (by decide) rfl rfl (fun e_9 => lc_9 hL h6 h K) (fun e_9 => ?_)
      refine w_tc (10) (tgt := 490) dL_law_33 (by decide) (by decide) rfl rfl (fun e_10 => lc_10 hL h6 h K) (fun e_10 => ?_)
      refine w_tc (11) (tgt := 513) dL_law_33 (by decide) (by decide) rfl rfl (fun e_11 => lc_11 hL h6 h K) (fun e_11 => ?_)
      refine w_tc (12) (tgt := 536) dL_law_33 (by decide) (by decide) rfl rfl (fun e_12 => lc_12 hL h6 h K) (fun e_12 => ?_)
      refine w_tc (13) (tgt := 559) dL_law_33 (by decide) (by decide) rfl rfl (fun e_13 => lc_13 hL h6 h K) (fun e_13 => ?_)
      refine w_tc (14) (tgt := 602) dL_law_33 (by decide) (by decide) rfl rfl (fun e_14 => lc_14 hL h6 h K) (fun e_14 => ?_)
      refine w_tc (15) (tgt := 625) dL_law_33 (by decide) (by decide) rfl rfl (fun e_15 => lc_15 hL h6 h K) (fun e_15 => ?_)
      refine w_tc (16) (tgt := 648) dL_law_33 (by decide) (by decide) rfl rfl (fun e_16 => lc_16 hL h6 h K) (fun e_16 => ?_)
      refine w_tc (17) (tgt := 661) dL_law_33 (by decide) (by decide) rfl rfl (fun e_17 => lc_17 hL h6 h K) (fun e_17 => ?_)
      refine w_tc (18) (tgt := 684) dL_law_33 (by decide) (by decide) rfl rfl (fun e_18 => lc_18 hL h6 h K) (fun e_18 => ?_)
      refine w_tc (19) (tgt := 707) dL_law_33 (by decide) (by decide) rfl rfl (fun e_19 => lc_19 hL h6 h K) (fun e_19 => ?_)
      refine w_tc (20) (tgt := 730) dL_law_33 (by decide) (by decide) rfl rfl (fun e_20 => lc_20 hL h6 h K) (fun e_20 => ?_)
      refine w_tc (21) (tgt := 753) dL_law_33 (by decide) (by decide) rfl rfl (fun e_21 => lc_21 hL h6 h K) (fun e_21 => ?_)
      refine w_tc (22) (tgt := 776) dL_law_33 (by decide) (by decide) rfl rfl (fun e_22 => lc_22 hL h6 h K) (fun e_22 => ?_)
      refine w_tc (23) (tgt := 799) dL_law_33 (by decide) (by decide) rfl rfl (fun e_23 => lc_23 hL h6 h K) (fun e_23 => ?_)
      refine w_tc (24) (tgt := 832) dL_law_33 (by decide) (by decide) rfl rfl (fun e_24 => lc_24 hL h6 h K) (fun e_24 => ?_)
      refine w_tc (25) (tgt := 845) dL_law_33 (by decide) (by decide) rfl rfl (fun e_25 => lc_25 hL h6 h K) (fun e_25 => ?_)
      refine w_tc (26) (tgt := 878) dL_law_33 (by decide) (by decide) rfl rfl (fun e_26 => lc_26 hL h6 h K) (fun e_26 => ?_)
      refine w_tc (27) (tgt := 911) dL_law_33 (by decide) (by decide) rfl rfl (fun e_27 => lc_27 hL h6 h K) (fun e_27 => ?_)
      refine w_tc (28) (tgt := 944) dL_law_33 (by decide) (by decide) rfl rfl (fun e_28 => lc_28 hL h6 h K) (fun e_28 => ?_)
      refine w_tc (29) (tgt := 977) dL_law_33 (by decide) (by decide) rfl rfl (fun e_29 => lc_29 hL h6 h K) (fun e_29 => ?_)
      refine w_tc (30) (tgt := 1010) dL_law_33 (by decide) (by decide) rfl rfl (fun e_30 => lc_30 hL h6 h K) (fun e_30 => ?_)
      refine w_tc (31) (tgt := 1033) dL_law_33 (by decide) (by decide) rfl rfl (fun e_31 => lc_31 hL h6 h K) (fun e_31 => ?_)
      refine w_tc (32) (tgt := 1067) dL_law_33 (by decide) (by decide) rfl rfl (fun e_32 => lc_32 hL h6 h K) (fun e_32 => ?_)
      refine w_tc (33) (tgt := 1090) dL_law_33 (by decide) (by decide) rfl rfl (fun e_33 => lc_33 hL h6 h K) (fun e_33 => ?_)
      refine w_tc (34) (tgt := 1123) dL_law_33 (by decide) (by decide) rfl rfl (fun e_34 => lc_34 hL h6 h K) (fun e_34 => ?_)
      refine w_tc (35) (tgt := 1136) dL_law_33 (by decide) (by decide) rfl rfl (fun e_35 => lc_35 hL h6 h K) (fun e_35 => ?_)
      refine w_tc (36) (tgt := 1149) dL_law_33 (by decide) (by decide) rfl rfl (fun e_36 => lc_36 hL h6 h K) (fun e_36 => ?_)
      refine w_tc (37) (tgt := 1182) dL_law_33 (by decide) (by decide) rfl rfl (fun e_37 => lc_37 hL h6 h K) (fun e_37 => ?_)
      refine w_tc (38) (tgt := 1215) dL_law_33 (by decide) (by decide) rfl rfl (fun e_38 => lc_38 hL h6 h K) (fun e_38 => ?_)
      refine w_tc (39) (tgt := 1258) dL_law_33 (by decide) (by decide) rfl rfl (fun e_39 => lc_39 hL h6 h K) (fun e_39 => ?_)
      refine w_tc (40) (tgt := 1301) dL_law_33 (by decide) (by decide) rfl rfl (fun e_40 => lc_40 hL h6 h K) (fun e_40 => ?_)
      refine w_tc (41) (tgt := 1364) dL_law_33 (by decide) (by decide) rfl rfl (fun e_41 => lc_41 hL h6 h K) (fun e_41 => ?_)
      refine w_tc (42) (tgt := 1387) dL_law_33 (by decide) (by decide) rfl rfl (fun e_42 => lc_42 hL h6 h K) (fun e_42 => ?_)
      refine w_tc (43) (tgt := 1410) dL_law_33 (by decide) (by decide) rfl rfl (fun e_43 => lc_43 hL h6 h K) (fun e_43 => ?_)
      refine w_tc (44) (tgt := 1423) dL_law_33 (by decide) (by decide) rfl rfl (fun e_44 => lc_44 hL h6 h K) (fun e_44 => ?_)
      refine w_tc (45) (tgt := 1436) dL_law_33 (by decide) (by decide) rfl rfl (fun e_45 => lc_45 hL h6 h K) (fun e_45 => ?_)
      refine w_tc (46) (tgt := 1449) dL_law_33 (by decide) (by decide) rfl rfl (fun e_46 => lc_46 hL h6 h K) (fun e_46 => ?_)
      refine w_tc (47) (tgt := 1472) dL_law_33 (by decide) (by decide) rfl rfl (fun e_47 => lc_47 hL h6 h K) (fun e_47 => ?_)
      refine w_td [0, 1, 2, 3, 4, 5, 6, 7, 8, 9, 10, 11, 12, 13, 14, 15, 16, 17, 18, 19, 20, 21, 22, 23, 24, 25, 26, 27, 28, 29, 30, 31, 32, 33, 34, 35, 36, 37, 38, 39, 40, 41, 42, 43, 44, 45, 46, 47] (tgt := 1495) dL_law_33 rfl (by decide) (List.forall_mem_cons.mpr ⟨e_0, (List.forall_mem_cons.mpr ⟨e_1, (List.forall_mem_cons.mpr ⟨e_2, (List.forall_mem_cons.mpr ⟨e_3, (List.forall_mem_cons.mpr ⟨e_4, (List.forall_mem_cons.mpr ⟨e_5, (List.forall_mem_cons.mpr ⟨e_6, (List.forall_mem_cons.mpr ⟨e_7, (List.forall_mem_cons.mpr ⟨e_8, (List.forall_mem_cons.mpr ⟨e_9, (List.forall_mem_cons.mpr ⟨e_10, (List.forall_mem_cons.mpr ⟨e_11, (List.forall_mem_cons.mpr ⟨e_12, (List.forall_mem_cons.mpr ⟨e_13, (List.forall_mem_cons.mpr ⟨e_14, (List.forall_mem_cons.mpr ⟨e_15, (List.forall_mem_cons.mpr ⟨e_16, (List.forall_mem_cons.mpr ⟨e_17, (List.forall_mem_cons.mpr ⟨e_18, (List.forall_mem_cons.mpr ⟨e_19, (List.forall_mem_cons.mpr ⟨e_20, (List.forall_mem_cons.mpr ⟨e_21, (List.forall_mem_cons.mpr ⟨e_22, (List.forall_mem_cons.mpr ⟨e_23, (List.forall_mem_cons.mpr ⟨e_24, (List.forall_mem_cons.mpr ⟨e_25, (List.forall_mem_cons.mpr ⟨e_26, (List.forall_mem_cons.mpr ⟨e_27, (List.forall_mem_cons.mpr ⟨e_28, (List.forall_mem_cons.mpr ⟨e_29, (List.forall_mem_cons.mpr ⟨e_30, (List.forall_mem_cons.mpr ⟨e_31, (List.forall_mem_cons.mpr ⟨e_32, (List.forall_mem_cons.mpr ⟨e_33, (List.forall_mem_cons.mpr ⟨e_34, (List.forall_mem_cons.mpr ⟨e_35, (List.forall_mem_cons.mpr ⟨e_36, (List.forall_mem_cons.mpr ⟨e_37, (List.forall_mem_cons.mpr ⟨e_38, (List.forall_mem_cons.mpr ⟨e_39, (List.forall_mem_cons.mpr ⟨e_40, (List.forall_mem_cons.mpr ⟨e_41, (List.forall_mem_cons.mpr ⟨e_42, (List.forall_mem_cons.mpr ⟨e_43, (List.forall_mem_cons.mpr ⟨e_44, (List.forall_mem_cons.mpr ⟨e_45, (List.forall_mem_cons.mpr ⟨e_46, (List.forall_mem_cons.mpr ⟨e_47, (fun _ h => absurd h List.not_mem_nil)⟩)⟩)⟩)⟩)⟩)⟩)⟩)⟩)⟩)⟩)⟩)⟩)⟩)⟩)⟩)⟩)⟩)⟩)⟩)⟩)⟩)⟩)⟩)⟩)⟩)⟩)⟩)⟩)⟩)⟩)⟩)⟩)⟩)⟩)⟩)⟩)⟩)⟩)⟩)⟩)⟩)⟩)⟩)⟩)⟩)⟩)⟩)⟩) ?_
      exact K mem h
