/-! call by call: texts -/
theorem sh_1 : ∀ t, t < 4 → ((8 * nI t &&& 31 : Int32).toBitVec.smod 32#32).toNat = 8 * t := by decide +kernel
theorem sh_2 : ∀ t, t < 4 → (((8 * nI t).toUInt32 &&& Int32.toUInt32 31).toBitVec % 32#32).toNat = 8 * t := by decide +kernel
theorem b255 : ∀ i, i < 32 → (255#32).getLsbD i = decide (i < 8) := by decide +kernel
theorem byt_c (b : BitVec 32) {s : Nat} (hs : s ≤ 24) : b.sshiftRight s &&& 255#32 = BitVec.ofNat 32 ((b >>> s).toNat % 256) := by
  apply BitVec.eq_of_getLsbD_eq
  intro i hi
  rw [BitVec.getLsbD_and, BitVec.getLsbD_sshiftRight, b255 i hi, BitVec.getLsbD_ofNat, show (256 : Nat) = 2 ^ 8 from rfl, Nat.testBit_mod_two_pow]
  by_cases c : i < 8
  · rw [if_pos (by omega)]
    have : (b >>> s).toNat.testBit i = b.getLsbD (s + i) := by
      show (b >>> s).getLsbD i = _
      rw [BitVec.getLsbD_ushiftRight]
    rw [this]
    simp [c, hi]
  · simp [c]
theorem byt_d (u : BitVec 32) : (BitVec.ofNat 32 (u.toNat % 256)).signExtend 8 = u.signExtend 8 := by
  rw [BitVec.signExtend_eq_setWidth_of_le _ (by decide), BitVec.signExtend_eq_setWidth_of_le _ (by decide)]
  apply BitVec.eq_of_toNat_eq
  rw [BitVec.toNat_setWidth, BitVec.toNat_setWidth, BitVec.toNat_ofNat]
  have := u.isLt
  omega
theorem byt_n (v : Int32) {t : Nat} (ht : t < 4) : ∃ k, k < 256 ∧ byN v t = nI k ∧ cbN v t = (nI k).toInt8.toInt32 := by
  refine ⟨(v.toBitVec >>> (8 * t)).toNat % 256, Nat.mod_lt _ (by decide), ?_, ?_⟩
  · apply Int32.toBitVec_inj.mp
    show v.toBitVec.sshiftRight ((8 * nI t &&& 31 : Int32).toBitVec.smod 32#32).toNat &&& 255#32 = BitVec.ofNat 32 _
    rw [sh_1 t ht]
    exact byt_c _ (by omega)
  · unfold cbN
    rw [Int8.toInt8_toInt32]
    congr 1
    apply Int8.toBitVec_inj.mp
    rw [Int32.toBitVec_toInt8, Int32.toBitVec_toInt8]
    show (v.toBitVec >>> (((8 * nI t).toUInt32 &&& Int32.toUInt32 31).toBitVec % 32#32).toNat).signExtend 8 = (BitVec.ofNat 32 _).signExtend 8
    rw [sh_2 t ht]
    exact (byt_d _).symm
theorem J2.tape {c r c' r' : Mem} {n p T T' : Nat} (h : J2 c r n p T) (ec : ∀ a, a < 50 → a ≠ 37 → a ≠ 38 → c' a = c a) (er : ∀ a, 51 ≤ a → a ≠ 56 → r' a = r a) (e4 : r' 50 4 = r 50 4) (ht : JT c' r' T') : J2 c' r' n p T' := by
  obtain ⟨h1, h2, ⟨h3, h4⟩, h5, h6, h7, h8⟩ := h
  refine ⟨?_, ?_, ⟨⟨h3.1, by rw [ec 13 (by omega) (by omega) (by omega)]; exact h3.2.1, h3.2.2⟩, fun k => ?_⟩, by rw [ec 0 (by omega) (by omega) (by omega), e4]; exact h5, ht, h7.congr (fun a k1 k2 => ec a (by omega) (by omega) (by omega)) (er 57 (by omega) (by omega)) (er 58 (by omega) (by omega)) (er 59 (by omega) (by omega)), h8.congr (ec 49 (by omega) (by omega) (by omega)) (er 55 (by omega) (by omega))⟩
  · intro k hk
    have : ∀ k, k < 62 → kd k = 0 → k < 37 := by decide +kernel
    have hl := this k (kd_lt hk (by omega)) hk
    rw [ec k (by omega) (by omega) (by omega)]
    exact h1 k hk
  · rw [er 51 (by omega) (by omega)]
    exact h2.lo (fun a k1 k2 => ec a (by omega) (by omega) (by omega))
  · rw [er 52 (by omega) (by omega)]
    rw [ec 0 (by omega) (by omega) (by omega)] at k
    exact (h4 k).ccongr rfl (fun a k1 k2 => ⟨fun j _ _ => by rw [ec a (by omega) (by omega) (by omega)], fun _ => ec a (by omega) (by omega) (by omega)⟩)
theorem in1_4 {y : Nat} (h1 : 1 ≤ y) (h : y ≤ 4) : ¬ inR (nI y) 1 4 = 0 := by
  have : ∀ y, y < 5 → 1 ≤ y → ¬ inR (nI y) 1 4 = 0 := by decide +kernel
  exact this y (by omega) h1
set_option maxHeartbeats 1000000 in
theorem jt_feed {mem : Mem} (h : J mem) (v l : Int32) : CnI mX5_feed [.ref 0, .int v, .int l] mem (fun x m1 => CnI mX6_feed [.ref 50, .int v, .int l] m1 (fun y m2 => y = x ∧ J m2)) := by
  obtain ⟨n, p, T, h⟩ := h
  have hT := h.2.2.2.2.1
  refine (c5_feed hT.1 hT.2.2.1 v l).mono ?_
  rintro x m1 (⟨c, rfl, rfl⟩ | ⟨e, e1, e2, rfl, ⟨c, rfl, rfl⟩ | ⟨c, rfl, e8⟩⟩)
  · refine (c6_feed (c := T) (by rw [fnd_hi _ _ _ (by omega)]; exact hT.2.1) hT.2.2.1 v l).mono ?_
    rintro y m2 (⟨-, rfl, rfl⟩ | ⟨e, e1, e2, rfl, -⟩)
    · exact ⟨rfl, h.f0 0 (by decide)⟩
    · exact absurd c (in1_4 e1 e2)
  · refine (c6_feed (c := T) (by rw [fnd_hi _ _ _ (by omega)]; exact hT.2.1) hT.2.2.1 v (nI e)).mono ?_
    rintro y m2 (⟨d, -, -⟩ | ⟨f, f1, f2, ef, ⟨-, rfl, rfl⟩ | ⟨d, -⟩⟩)
    · exact absurd d (in1_4 e1 e2)
    · exact ⟨rfl, h.f0 1 (by decide)⟩
    · have e3 := (nI_eq (by omega) (by omega)).mp ef
      omega
  · have o : ∀ b, b ≠ 37 → b ≠ 38 → m1 b = mem b := fun b h1 h2 => by rw [e8]; unfold fedC; rw [upR_ne _ _ h2, up2_ne _ _ _ h1]
    refine (c6_feed (c := T) (by rw [o _ (by decide) (by decide)]; exact hT.2.1) hT.2.2.1 v (nI e)).mono ?_
    rintro y m2 (⟨d, -, -⟩ | ⟨f, f1, f2, ef, ⟨d, -⟩ | ⟨-, rfl, e9⟩⟩)
    · exact absurd d (in1_4 e1 e2)
    · have e3 := (nI_eq (by omega) (by omega)).mp ef
      omega
    · have e3 := (nI_eq (by omega) (by omega)).mp ef
      subst e3
      have o2 : ∀ b, b ≠ 50 → b ≠ 56 → m2 b = m1 b := fun b h1 h2 => by rw [e9]; unfold fedM; rw [upR_ne _ _ h2, up2_ne _ _ _ h1]
      have o50 : ∀ j, j ≠ 7 → m2 50 j = mem 50 j := fun j hj => by rw [e9]; unfold fedM; rw [upR_ne _ _ (by decide), up2_v, if_neg (by omega), o _ (by decide) (by decide)]
      refine ⟨rfl, n, p, T + e, h.tape (fun a a1 a2 a3 => by rw [o2 a (by omega) (by omega), o a a2 a3]) (fun a a1 a2 => by rw [o2 a (by omega) a2, o a (by omega) (by omega)]) (o50 4 (by decide)) ⟨?_, ?_, c, fun j hj => ?_⟩⟩
      · rw [o2 37 (by decide) (by decide), e8]
        exact fec_at _ _ _ _ _
      · rw [e9]
        exact fed_at _ _ _ _ _
      · rw [o2 38 (by decide) (by decide), e9, e8]
        unfold fedM fedC
        rw [upR_same, upR_same]
        rcases Nat.lt_or_ge j T with g | g
        · rw [if_neg (by omega), if_neg (by omega), upR_ne _ _ (by decide), up2_ne _ _ _ (by decide)]
          exact hT.2.2.2 j g
        · rw [if_pos (by omega), if_pos (by omega)]
          exact byt_n v (by omega)
set_option maxHeartbeats 1000000 in
theorem jt_wipe {mem : Mem} (h : J mem) : CnI mX5_wipe [.ref 0] mem (fun x m1 => CnI mX6_wipe [.ref 50] m1 (fun y m2 => y = x ∧ J m2)) := by
  obtain ⟨n, p, T, h⟩ := h
  have hT := h.2.2.2.2.1
  refine (CnE.toI (c5_wipe mem)).mono ?_
  rintro x m1 ⟨rfl, rfl⟩
  refine (CnE.toI (c6_wipe _)).mono ?_
  rintro y m2 ⟨rfl, rfl⟩
  refine ⟨by rw [up2_ne _ _ _ (by decide), hT.2.1, hT.1], n, p, 0, h.tape (fun a a1 a2 a3 => by rw [up2_ne _ _ _ (by omega), up2_ne _ _ _ a2]) (fun a a1 a2 => by rw [up2_ne _ _ _ (by omega), up2_ne _ _ _ (by omega)]) (by rw [up2_v, if_neg (by omega), up2_ne _ _ _ (by decide)]) ⟨by rw [up2_ne _ _ _ (by decide), up2_v1]; rfl, by rw [up2_v1]; rfl, by omega, fun j hj => absurd hj (by omega)⟩⟩
set_option maxHeartbeats 1000000 in
theorem jt_text {mem : Mem} (h : J mem) : CnI mX5_text [.ref 0] mem (fun x m1 => CnI mX6_text [.ref 50] m1 (fun y m2 => y = x ∧ J m2)) := by
  obtain ⟨n, p, T, h⟩ := h
  have hT := h.2.2.2.2.1
  have h8 := h.n8
  refine (c5_text hT.1 hT.2.2.1 hT.2.2.2 h.pr h.2.1.2.1 h.ca).mono ?_
  rintro x m1 ⟨rfl, ⟨n', k1⟩, k2, k3, k4, k5⟩
  have e : ∀ a, 50 ≤ a → m1 a = mem a := fun a ha => k5 a (by omega)
  refine (c6_text (T := T) (n := n) (by rw [e 50 (by omega)]; exact hT.2.1) hT.2.2.1 (by rw [e 51 (by omega)]; exact h.mor.1) h8).mono ?_
  rw [e 51 (by omega), BT_of (e 56 (by omega))]
  rintro y m2 ⟨rfl, l1, l2, l3, l4⟩
  obtain ⟨R, hR⟩ : ∃ R, R = txtP (BT mem T) T (T + 1) 1 (itmQ (BT mem T) T (lexF (BT mem T) T 0) (mem 51)) := ⟨_, rfl⟩
  obtain ⟨n2, hX⟩ : ∃ n2, JX R.2.2.2 n2 := by
    rw [hR]
    obtain ⟨n3, h3⟩ := itq_JX (B := BT mem T) (T := T) (f := lexF (BT mem T) T 0) h.jx
    exact txt_JX _ _ _ n3 h3
  rw [← hR] at k1 k2 l1 ⊢
  refine ⟨rfl, n', p, 0, ?_⟩
  have er : ∀ j, j < 56 → m2 51 j = (if txG (BT mem T) R then R.2.2.2 else mem 51) j := fun j hj => by
    rw [l1 j hj]
    split <;> rfl
  have hJ : ∃ n4, JX (if txG (BT mem T) R then R.2.2.2 else mem 51) n4 := by
    split
    · exact ⟨n2, hX⟩
    · exact ⟨n, h.jx⟩
  obtain ⟨n4, hJ⟩ := hJ
  have e4 : n4 = n' := (nI_eq (by have := hJ.1.1.2.1; omega) (by have := k1.2.2.1; omega)).mp (hJ.1.1.1.symm.trans k1.1)
  subst e4
  have hp : JP m1 1 n4 (m2 51) := JP.rcongr ⟨k1, k2, hJ⟩ er
  have hm : ∀ a, a < 50 → m2 a = m1 a := fun a ha => l4 a (by omega) (by omega) (by omega)
  obtain ⟨h1, h2, ⟨h3, h4⟩, h5, h6, h7, h9⟩ := h
  refine ⟨Ca_lo k3 hm, hp.lo (fun a a1 a2 => hm a (by omega)), ⟨⟨h3.1, by rw [hm 13 (by omega), k5 13 (by omega)]; exact h3.2.1, h3.2.2⟩, fun k => ?_⟩, ?_, ⟨by rw [hm 37 (by omega)]; exact k4, l2, by omega, fun j hj => absurd hj (by omega)⟩, h7.congr (fun a a1 a2 => by rw [hm a (by omega), k5 a (by omega)]) (by rw [l4 57 (by omega) (by omega) (by omega), e 57 (by omega)]) (by rw [l4 58 (by omega) (by omega) (by omega), e 58 (by omega)]) (by rw [l4 59 (by omega) (by omega) (by omega), e 59 (by omega)]), h9.congr (by rw [hm 49 (by omega), k5 49 (by omega)]) (by rw [l4 55 (by omega) (by omega) (by omega), e 55 (by omega)])⟩
  · rw [l4 52 (by omega) (by omega) (by omega), e 52 (by omega)]
    rw [hm 0 (by omega), k5 0 (by omega)] at k
    exact (h4 k).ccongr rfl (fun a a1 a2 => by rw [hm a (by omega), k5 a (by omega)]; exact ⟨fun j _ _ => rfl, fun _ => rfl⟩)
  · rw [hm 0 (by omega), k5 0 (by omega), l3 4 (by omega) (by omega), e 50 (by omega)]
    exact h5
