/-! call by call: hands, opinions, fits -/
theorem jbec {mem : Mem} {n p T : Nat} (h : J2 mem mem n p T) : PR (becMem mem 25 1 n) 25 n (mem 51) := PR_bec (k := 25) (o := 1) (Or.inl (by decide)) h.pr
theorem JB_hands {r : Nat → Int32} {n i v : Nat} (h : JB r n) (h1 : 1 ≤ v) (h2 : v ≤ 20) : JB (upd r (6 + 5 * i + 2) (nI v)) n := ⟨MOR_hands h.1 h1 h2, by obtain ⟨m, hm, em⟩ := h.2; exact ⟨m, hm, by simp only [upd]; rw [if_neg (by omega)]; exact em⟩⟩
theorem no_in {n i : Nat} (hn : n ≤ 8) (hi : i < n) : ¬ inR (nI i) 0 (nI n - 1) = 0 := by
  rw [hasF_in (by omega) hi]
  decide
theorem voiX_nn {W : Nat → Int32} : ∀ k, k + 1 ≤ 8 → (∀ i, i < k + 1 → 0 ≤ (W i).toInt) → 0 ≤ (voiX W (k + 1)).1 := by
  intro k
  induction k with
  | zero =>
    intro _ h
    have h0 := h 0 (by omega)
    have c : ¬ W 0 ≤ -1 := fun q => by have := Int32.le_iff_toInt_le.mp q; rw [m1_t] at this; omega
    rw [voiX]
    unfold voiX
    rw [if_neg c]
    show (0 : Int32) ≤ nI 0
    decide
  | succ k ih =>
    intro hk h
    rw [voiX]
    by_cases c : W (k + 1) ≤ (voiX W (k + 1)).2
    · rw [if_pos c]
      exact ih (by omega) (fun i hi => h i (by omega))
    · rw [if_neg c]
      exact nI_pos' (by omega)
set_option maxHeartbeats 1000000 in
theorem jt_mostHands {mem : Mem} (h : J mem) (f : Int32) : CnI mX5_mostHands [.ref 0, .int f] mem (fun x m1 => CnI mX6_mostHands [.ref 50, .int f] m1 (fun y m2 => y = x ∧ J m2)) := by
  obtain ⟨n, p, T, h⟩ := h
  refine (c5_mostHands h.po f).mono ?_
  have h8 := h.n8
  rintro x m1 (⟨c, rfl, rfl⟩ | ⟨i, hi, rfl, y, hF, q5⟩)
  · refine (c6_mostHands (MO_of h.mo (fnd_hi mem 0 51 (by omega))) f).mono ?_
    rintro y m2 (⟨-, rfl, rfl⟩ | ⟨i, hi, rfl, -⟩)
    · exact ⟨rfl, h.f0 0 (by decide)⟩
    · exact absurd c (no_in h8 hi)
  · have e := q5_hi q5 51 (by omega)
    refine (c6_mostHands (MO_of h.mo e) (nI i)).mono ?_
    rintro y2 m2 (⟨d, -, -⟩ | ⟨i2, hi2, ei, z, hG, q6⟩)
    · exact absurd d (no_in h8 hi)
    · have e3 := (nI_eq (by omega) (by omega)).mp ei
      subst e3
      exact fst_fin (hi := 19) (val := fun t => nI (20 - t)) h hF hG (fun t t1 t2 => by rw [e, ((jbec h).put hi (j := 2) (by decide) (nI (20 - t))).last (MOR_hands h.mor (by omega) (by omega))]) q5 q6
set_option maxHeartbeats 1000000 in
theorem jt_fewestHands {mem : Mem} (h : J mem) (f : Int32) : CnI mX5_fewestHands [.ref 0, .int f] mem (fun x m1 => CnI mX6_fewestHands [.ref 50, .int f] m1 (fun y m2 => y = x ∧ J m2)) := by
  obtain ⟨n, p, T, h⟩ := h
  refine (c5_fewestHands h.po f).mono ?_
  have h8 := h.n8
  rintro x m1 (⟨c, rfl, rfl⟩ | ⟨i, hi, rfl, y, hF, q5⟩)
  · refine (c6_fewestHands (MO_of h.mo (fnd_hi mem 0 51 (by omega))) f).mono ?_
    rintro y m2 (⟨-, rfl, rfl⟩ | ⟨i, hi, rfl, -⟩)
    · exact ⟨rfl, h.f0 0 (by decide)⟩
    · exact absurd c (no_in h8 hi)
  · have e := q5_hi q5 51 (by omega)
    refine (c6_fewestHands (MO_of h.mo e) (nI i)).mono ?_
    rintro y2 m2 (⟨d, -, -⟩ | ⟨i2, hi2, ei, z, hG, q6⟩)
    · exact absurd d (no_in h8 hi)
    · have e3 := (nI_eq (by omega) (by omega)).mp ei
      subst e3
      exact fst_fin (hi := 20) (val := nI) h hF hG (fun t t1 t2 => by rw [e, ((jbec h).put hi (j := 2) (by decide) (nI t)).first (MOR_hands h.mor (by omega) (by omega))]) q5 q6
set_option maxHeartbeats 1000000 in
theorem jt_wetFor {mem : Mem} (h : J mem) (f : Int32) : CnI mX5_wetFor [.ref 0, .int f] mem (fun x m1 => CnI mX6_wetFor [.ref 50, .int f] m1 (fun y m2 => y = x ∧ J m2)) := by
  obtain ⟨n, p, T, h⟩ := h
  refine (c5_wetFor h.po f).mono ?_
  have h8 := h.n8
  rintro x m1 (⟨c, rfl, rfl⟩ | ⟨i, hi, rfl, y, hF, q5⟩)
  · refine (c6_wetFor (MO_of h.mo (fnd_hi mem 0 51 (by omega))) f).mono ?_
    rintro y m2 (⟨-, rfl, rfl⟩ | ⟨i, hi, rfl, -⟩)
    · exact ⟨rfl, h.f0 0 (by decide)⟩
    · exact absurd c (no_in h8 hi)
  · have e := q5_hi q5 51 (by omega)
    refine (c6_wetFor (MO_of h.mo e) (nI i)).mono ?_
    rintro y2 m2 (⟨d, -, -⟩ | ⟨i2, hi2, ei, z, hG, q6⟩)
    · exact absurd d (no_in h8 hi)
    · have e3 := (nI_eq (by omega) (by omega)).mp ei
      subst e3
      exact fst_fin (hi := 99) (val := nI) h hF hG (fun t t1 t2 => by rw [e, ((jbec h).wea (a := 0) (by decide) (nI t)).last (MOR_wet h.mor (by omega))]) q5 q6
set_option maxHeartbeats 1000000 in
theorem jt_kinds {mem : Mem} (h : J mem) (f : Int32) : CnI mX5_kinds [.ref 0, .int f] mem (fun x m1 => CnI mX6_kinds [.ref 50, .int f] m1 (fun y m2 => y = x ∧ J m2)) := by
  obtain ⟨n, p, T, h⟩ := h
  refine (c5_kinds h.po f).mono ?_
  have h8 := h.n8
  rintro x m1 (⟨c, rfl, rfl⟩ | ⟨i, hi, rfl, rfl, q⟩)
  · refine (c6_kinds (MO_of h.mo (fnd_hi mem 0 51 (by omega))) f).mono ?_
    rintro y m2 (⟨-, rfl, rfl⟩ | ⟨i, hi, rfl, -⟩)
    · exact ⟨rfl, h.f0 0 (by decide)⟩
    · exact absurd c (no_in h8 hi)
  · have h1 := h.Q (QQ.S q)
    have e := q.hi 51 (by omega)
    refine (c6_kinds h1.mo (nI i)).mono ?_
    rintro y2 m2 (⟨d, -, -⟩ | ⟨i2, hi2, ei, rfl, q2⟩)
    · exact absurd d (no_in h8 hi)
    · have e3 := (nI_eq (by omega) (by omega)).mp ei
      subst e3
      exact ⟨bitT_congr 7 (fun t ht => by rw [e, ((jbec h).put hi (j := 0) (by decide) (nI t)).last (MOR_kind h.mor ht)]; rfl), n, p, T, h1.Q (QQ.M h1.ca q2)⟩
set_option maxHeartbeats 1000000 in
theorem jt_miceFor {mem : Mem} (h : J mem) (f v : Int32) : CnI mX5_miceFor [.ref 0, .int f, .int v] mem (fun x m1 => CnI mX6_miceFor [.ref 50, .int f, .int v] m1 (fun y m2 => y = x ∧ J m2)) := by
  obtain ⟨n, p, T, h⟩ := h
  refine (c5_miceFor h.po f v).mono ?_
  rintro x m1 (⟨c, rfl, rfl⟩ | ⟨c1, c2, y, hF, q5⟩)
  · refine (c6_miceFor (MO_of h.mo (fnd_hi mem 0 51 (by omega))) f v).mono ?_
    rintro y m2 (⟨-, rfl, rfl⟩ | ⟨d1, d2, -⟩)
    · exact ⟨rfl, h.f0 0 (by decide)⟩
    · rcases c with c | c
      · exact absurd c d1
      · exact absurd c d2
  · have e := q5_hi q5 51 (by omega)
    refine (c6_miceFor (MO_of h.mo e) f v).mono ?_
    rintro y2 m2 (⟨d, -, -⟩ | ⟨-, -, z, hG, q6⟩)
    · rcases d with d | d
      · exact absurd d c1
      · exact absurd d c2
    · refine fst_fin (hi := 99) (val := nI) h hF hG (fun t t1 t2 => ?_) q5 q6
      have hb : JB (upd (mem 51) 4 (nI t)) n := by
        refine ⟨?_, t, t2, by simp [upd]⟩
        obtain ⟨w, hw, ew⟩ := h.mor.2.2.1
        exact ⟨by simp only [upd]; rw [if_neg (by omega)]; exact h.mor.1, h.n8, ⟨w, hw, by simp only [upd]; rw [if_neg (by omega)]; exact ew⟩, fun i hi => FB_congr (fun j hj => by simp only [upd]; rw [if_neg (by omega)]) (h.mor.2.2.2 i hi)⟩
      have eD : DR (upd (mem 51) 4 (nI t)) = DR (mem 51) := by
        funext i
        unfold DR
        simp only [upd]
        rw [if_neg (by omega), if_neg (by omega), if_neg (by omega), if_neg (by omega)]
      rw [e, ((jbec h).wea (a := 1) (by decide) (nI t)).lnM hb, eD]
set_option maxHeartbeats 1000000 in
theorem jt_lend {mem : Mem} (h : J mem) (f : Int32) : CnI mX5_lend [.ref 0, .int f] mem (fun x m1 => CnI mX6_lend [.ref 50, .int f] m1 (fun y m2 => y = x ∧ J m2)) := by
  obtain ⟨n, p, T, h⟩ := h
  refine (c5_lend h.po f).mono ?_
  have h8 := h.n8
  rintro x m1 (⟨c, rfl, rfl⟩ | ⟨c, y, hF, q5⟩)
  · refine (c6_lend (MO_of h.mo (fnd_hi mem 0 51 (by omega))) f).mono ?_
    rintro y m2 (⟨-, rfl, rfl⟩ | ⟨d, -⟩)
    · exact ⟨rfl, h.f0 0 (by decide)⟩
    · exact absurd c d
  · have e := q5_hi q5 51 (by omega)
    refine (c6_lend (MO_of h.mo e) f).mono ?_
    rintro y2 m2 (⟨d, -, -⟩ | ⟨-, z, hG, q6⟩)
    · exact absurd d c
    · refine fst_fin (hi := 63) (val := nI) h hF hG (fun t t1 t2 => ?_) q5 q6
      unfold lendQ lendR
      rw [e]
      by_cases k1 : t / 8 < n
      · by_cases k2 : t % 8 < n
        · have a1 : mem (4 + t / 8) 2 = mem 51 (6 + 5 * (t / 8) + 2) := h.pr.2.2.2.2.2.1 (t / 8) 2 k1 (by decide)
          have a2 : mem (4 + t % 8) 2 = mem 51 (6 + 5 * (t % 8) + 2) := h.pr.2.2.2.2.2.1 (t % 8) 2 k2 (by decide)
          rw [a1, a2]
          by_cases k3 : mem 51 (6 + 5 * (t / 8) + 2) ≤ 1
          · exact ⟨fun q => absurd k3 q.2.2.2.1, fun q => absurd k3 q.2.2.2.1⟩
          · by_cases k4 : mem 51 (6 + 5 * (t % 8) + 2) < 20
            · have hp := ((jbec h).put k1 (j := 2) (by decide) (mem (4 + t / 8) 2 - 1)).put k2 (j := 2) (by decide) (mem (4 + t % 8) 2 + 1)
              have hl : (lbS (DP (lentM mem n (t / 8) (t % 8)) 25) 1000000 n).1 = lastS (DR (lentR (mem 51) (t / 8) (t % 8))) n := by
                have := hp.last (by rw [a1, a2]; exact MOR_lent h.mor k1 k2 k3 k4)
                rw [a1, a2] at this
                unfold lentM lentR
                rw [a1, a2]
                exact this
              rw [hl]
            · exact ⟨fun q => absurd q.2.2.2.2.1 k4, fun q => absurd q.2.2.2.2.1 k4⟩
        · exact ⟨fun q => absurd q.2.1 k2, fun q => absurd q.2.1 k2⟩
      · exact ⟨fun q => absurd q.1 k1, fun q => absurd q.1 k1⟩
set_option maxHeartbeats 1000000 in
theorem jt_tell {mem : Mem} (h : J mem) (q v : Int32) : CnI mX5_tell [.ref 0, .int q, .int v] mem (fun x m1 => CnI mX6_tell [.ref 50, .int q, .int v] m1 (fun y m2 => y = x ∧ J m2)) := by
  obtain ⟨n, p, T, h⟩ := h
  refine (c5_tell h.po q v).mono ?_
  have h8 := h.n8
  rintro x m1 (⟨c, rfl, rfl⟩ | ⟨c1, c2, q5⟩)
  · refine (c6_tell (MO_of h.mo (fnd_hi mem 0 51 (by omega))) q v).mono ?_
    rintro y m2 (⟨-, rfl, rfl⟩ | ⟨d1, d2, -⟩)
    · exact ⟨rfl, h.f0 0 (by decide)⟩
    · rcases c with c | c
      · exact absurd c d1
      · exact absurd c d2
  · have e : m1 51 = mem 51 := by
      rcases q5 with ⟨-, -, m2, g, rfl⟩ | ⟨-, -, g⟩
      · rw [fnd_hi _ _ _ (by omega)]; exact g.hi 51 (by omega)
      · exact g.hi 51 (by omega)
    have hv : -9 ≤ v.toInt ∧ v.toInt ≤ 9 := by
      rcases inR_01 v (-9) 9 with g | g
      · exact absurd g c2
      · exact inR_iff.mp g
    have eW : tellS (fun i => tellL mem n (lbS (DP mem 1) 1000000 n).1 (nI i) v) q (2 ^ n) = tellS (tellW (mem 51) n v) q (2 ^ n) := tellS_congr _ (fun i _ => by
      unfold tellW
      rw [tell_eq h.pr h.jb _ _ hv, h.pr.last h.mor])
    refine (c6_tell (MO_of h.mo e) q v).mono ?_
    rintro y2 m2 (⟨d, -, -⟩ | ⟨-, -, q6⟩)
    · rcases d with d | d
      · exact absurd d c1
      · exact absurd d c2
    · rw [eW] at q5
      rw [e] at q6
      rcases q5 with ⟨g1, rfl, m3, g2, rfl⟩ | ⟨g1, rfl, g2⟩
      · rcases q6 with ⟨k1, rfl, m4, k2, rfl⟩ | ⟨k1, -, -⟩
        · have h1 := h.Q (QQ.S g2)
          exact ⟨rfl, n, p, T, h1.ff (by decide) (QQ.M (fnd_Ca h1.ca) k2)⟩
        · exact absurd g1 (Int32.not_lt.mpr k1)
      · rcases q6 with ⟨k1, -, -⟩ | ⟨k1, rfl, k2⟩
        · exact absurd (Int32.not_lt.mp g1) k1
        · have h1 := h.Q (QQ.S g2)
          exact ⟨rfl, n, p, T, h1.Q (QQ.M h1.ca k2)⟩
set_option maxHeartbeats 1000000 in
theorem jt_voice {mem : Mem} (h : J mem) : CnI mX5_voice [.ref 0] mem (fun x m1 => CnI mX6_voice [.ref 50] m1 (fun y m2 => y = x ∧ J m2)) := by
  obtain ⟨n, p, T, h⟩ := h
  refine (c5_voice h.po).mono ?_
  have h8 := h.n8
  have hb : ∀ i, i < n → JB (upd (mem 51) (6 + 5 * i + 3) 0) n := fun i hi => ⟨MOR_op h.mor (by decide) (by decide), by obtain ⟨m, hm, em⟩ := h.jb.2; exact ⟨m, hm, by simp only [upd]; rw [if_neg (by omega)]; exact em⟩⟩
  have hW : ∀ i, i < n → absI (tellL mem n (lbS (DP mem 1) 1000000 n).1 ((1 : Int32) <<< (nI i &&& 31)) 0 - leanM mem 1 n) = voiW (mem 51) n i ∧ 0 ≤ (voiW (mem 51) n i).toInt := by
    intro i hi
    unfold voiW
    rw [voi_eq h.pr h.jb _ hi, h.pr.last h.mor, h.pr.lnM h.jb]
    refine ⟨rfl, ?_⟩
    have b1 := (hb i hi).bd (lastS (DR (mem 51)) n)
    have b2 := h.jb.bd (lastS (DR (mem 51)) n)
    have es := sub_t (x := leanR (upd (mem 51) (6 + 5 * i + 3) 0) n (lastS (DR (mem 51)) n)) (y := leanR (mem 51) n (lastS (DR (mem 51)) n)) (by omega) (by omega) (by omega) (by omega)
    exact abs_nn (by rw [es]; omega) (by rw [es]; omega)
  rintro x m1 (⟨c, rfl, rfl⟩ | ⟨c, rfl, q⟩)
  · have e := fnd_hi mem 3 51 (by omega)
    refine (c6_voice (MO_of h.mo e)).mono ?_
    rintro y m2 (⟨-, rfl, m3, g, rfl⟩ | ⟨d, -, -⟩)
    · exact ⟨rfl, n, p, T, h.ff (by decide) (QQ.M (fnd_Ca h.ca) g)⟩
    · rw [c] at d
      exact absurd (show (0 : Int32) ≤ -1 from d) (by decide)
  · have h1 := h.Q (QQ.S q)
    have e := q.hi 51 (by omega)
    obtain ⟨k, rfl⟩ : ∃ k, n = k + 1 := ⟨n - 1, by omega⟩
    have eV : voiS (fun i => absI (tellL mem (k + 1) (lbS (DP mem 1) 1000000 (k + 1)).1 ((1 : Int32) <<< (nI i &&& 31)) 0 - leanM mem 1 (k + 1))) (k + 1) = voiX (voiW (mem 51) (k + 1)) (k + 1) := by
      rw [voiS_congr (k + 1) (V := voiW (mem 51) (k + 1)) (fun i hi => (hW i hi).1)]
      exact voiSX k (fun i hi => (hW i hi).2)
    refine (c6_voice h1.mo).mono ?_
    rw [e, eV]
    rintro y m2 (⟨d, -, -⟩ | ⟨-, rfl, q2⟩)
    · exact absurd (voiX_nn k h8 (fun i hi => (hW i hi).2)) d
    · exact ⟨rfl, _, p, T, h1.Q (QQ.M h1.ca q2)⟩
theorem told_all {m : Mem} {q n : Nat} {r : Nat → Int32} : ∀ z, toldB m q n r z = true ↔ ∀ y, y < z → (m 59 (40 * q + y) = 9999 ∨ m 59 (40 * q + y) = leanR (yrsR r n y) n (lastS (DR (yrsR r n y)) n))
  | 0 => ⟨fun _ y hy => by omega, fun _ => rfl⟩
  | z + 1 => by
    rw [toldB, Bool.and_eq_true, Bool.or_eq_true, decide_eq_true_iff, decide_eq_true_iff, told_all z]
    constructor
    · rintro ⟨h1, h2⟩ y hy
      rcases Nat.lt_or_ge y z with k | k
      · exact h1 y k
      · rw [show y = z by omega]; exact h2
    · intro h1
      exact ⟨fun y hy => h1 y (by omega), h1 z (by omega)⟩
theorem fit_eq {mem m1 : Mem} {n p T q z i : Nat} (h : J2 mem mem n p T) (hq : q < 4) (hz : z ≤ 40) (hi : i < n) (e51 : m1 51 = mem 51) (e59 : m1 59 = mem 59) : ∀ t, t < 19 → ((∀ y, y < z → fitOK mem n i (opV t) (40 + 1 + 2 * q + 1) y) ↔ fitB m1 q n z i (18 - t) = true) := by
  intro t ht
  unfold fitB
  rw [told_all, e51, e59, opVK t ht]
  have ob : ∀ t, t < 19 → -9 ≤ (opV t).toInt ∧ (opV t).toInt ≤ 9 := by decide +kernel
  have hb : JB (upd (mem 51) (6 + 5 * i + 3) (opV t)) n := ⟨MOR_op h.mor (ob t ht).1 (ob t ht).2, by obtain ⟨m, hm, em⟩ := h.jb.2; exact ⟨m, hm, by simp only [upd]; rw [if_neg (by omega)]; exact em⟩⟩
  have hp : ∀ y, PR (fitM mem n i (opV t) y) 25 n (yrsR (upd (mem 51) (6 + 5 * i + 3) (opV t)) n y) := PR.yrs rfl ((jbec h).put hi (j := 3) (by decide) (opV t)) hb
  have key : ∀ y, y < z → (fitOK mem n i (opV t) (40 + 1 + 2 * q + 1) y ↔ (mem 59 (40 * q + y) = 9999 ∨ mem 59 (40 * q + y) = leanR (yrsR (upd (mem 51) (6 + 5 * i + 3) (opV t)) n y) n (lastS (DR (yrsR (upd (mem 51) (6 + 5 * i + 3) (opV t)) n y)) n))) := by
    intro y hy
    unfold fitOK
    rw [(hp y).lnM (JB_yrs hb y), (h.2.2.2.2.2.1 q hq).2.2 y (by omega)]
  exact ⟨fun g y hy => (key y hy).mp (g y hy), fun g y hy => (key y hy).mpr (g y hy)⟩
theorem shs_0 {mem : Mem} {n p T q : Nat} (h : J2 mem mem n p T) (hq : q < 4) : mem (40 + 1 + 2 * q) 1 = 0 ↔ ¬ 0 ≤ mem 57 q := by
  rcases (h.2.2.2.2.2.1 q hq).1 with ⟨a, b⟩ | ⟨a, b⟩
  · rw [a, b]; decide
  · rw [a]
    rcases b with b | b | b <;> rw [b] <;> decide
theorem nI4 {q : Nat} (h : q < 4) : ¬ inR (nI q) 0 3 = 0 := by
  have : ∀ q, q < 4 → ¬ inR (nI q) 0 3 = 0 := by decide +kernel
  exact this q h
set_option maxHeartbeats 1000000 in
theorem jt_fits {mem : Mem} (h : J mem) (s f : Int32) : CnI mX5_fits [.ref 0, .int s, .int f] mem (fun x m1 => CnI mX6_fits [.ref 50, .int s, .int f] m1 (fun y m2 => y = x ∧ J m2)) := by
  obtain ⟨n, p, T, h⟩ := h
  refine (c5_fits h.po s f h.hl).mono ?_
  have h8 := h.n8
  rintro x m1 (⟨c, rfl, rfl⟩ | ⟨q, hq, rfl, c, q5⟩)
  · have e := fnd_hi mem 0
    refine (c6_fits (MO_of h.mo (e 51 (by omega))) s f (fun q hq => by rw [e 58 (by omega)]; exact h.hm q hq)).mono ?_
    rintro y m2 (⟨-, rfl, rfl⟩ | ⟨q, hq, rfl, d, -⟩)
    · exact ⟨rfl, h.f0 0 (by decide)⟩
    · exact absurd c d
  · rcases q5 with ⟨c2, rfl, rfl⟩ | ⟨c2, ⟨c3, rfl, rfl⟩ | ⟨r, z, hr, rfl, hz, ez, q5⟩⟩
    · have e := fnd_hi mem 5
      refine (c6_fits (MO_of h.mo (e 51 (by omega))) (nI q) f (fun q hq => by rw [e 58 (by omega)]; exact h.hm q hq)).mono ?_
      rintro y m2 (⟨d, -, -⟩ | ⟨q2, hq2, eq, -, q6⟩)
      · exact absurd d c
      · have e3 := (nI_eq (by omega) (by omega)).mp eq
        subst e3
        rw [e 57 (by omega)] at q6
        rcases q6 with ⟨-, rfl, rfl⟩ | ⟨d, -⟩
        · exact ⟨rfl, h.f0 5 (by decide)⟩
        · exact absurd d ((shs_0 h hq).mp c2)
    · have e := fnd_hi mem 0
      refine (c6_fits (MO_of h.mo (e 51 (by omega))) (nI q) f (fun q hq => by rw [e 58 (by omega)]; exact h.hm q hq)).mono ?_
      rintro y m2 (⟨d, -, -⟩ | ⟨q2, hq2, eq, -, q6⟩)
      · exact absurd d c
      · have e3 := (nI_eq (by omega) (by omega)).mp eq
        subst e3
        rw [e 57 (by omega)] at q6
        rcases q6 with ⟨d, -⟩ | ⟨-, ⟨-, rfl, rfl⟩ | ⟨r, z, hr, rfl, -⟩⟩
        · exact absurd ((shs_0 h hq).mpr d) c2
        · exact ⟨rfl, h.f0 0 (by decide)⟩
        · exact absurd c3 (no_in h8 hr)
    · obtain ⟨rfl, qS⟩ := q5
      have e := qS.hi
      refine (c6_fits (MO_of h.mo (e 51 (by omega))) (nI q) (nI r) (fun q hq => by rw [e 58 (by omega)]; exact h.hm q hq)).mono ?_
      rintro y m2 (⟨d, -, -⟩ | ⟨q2, hq2, eq, -, q6⟩)
      · exact absurd d c
      · have e3 := (nI_eq (by omega) (by omega)).mp eq
        subst e3
        rw [e 57 (by omega)] at q6
        rcases q6 with ⟨d, -⟩ | ⟨-, ⟨d, -, -⟩ | ⟨r2, z2, hr2, er, hz2, ez2, q6⟩⟩
        · exact absurd ((shs_0 h hq).mpr d) c2
        · exact absurd d (no_in h8 hr)
        · have e4 := (nI_eq (by omega) (by omega)).mp er
          subst e4
          obtain ⟨-, ⟨z3, hz3, ez3, ez4⟩, -⟩ := h.2.2.2.2.2.1 q hq
          have e5 : z = z3 := (nI_eq (by omega) (by omega)).mp (ez.symm.trans ez3)
          have e6 : z2 = z3 := (nI_eq (by omega) (by omega)).mp (by rw [← ez2, e 58 (by omega), ez4])
          have e7 : z2 = z := by omega
          subst e7
          have fe := fit_eq (z := z2) h hq hz hr (e 51 (by omega)) (e 59 (by omega))
          obtain ⟨rfl, qF⟩ := q6
          have h1 := h.Q (QQ.S qS)
          exact ⟨(cnt_rev fe).symm, n, p, T, h1.Q (QQ.F h1.ca qF)⟩
set_option maxHeartbeats 1000000 in
theorem jt_thinks {mem : Mem} (h : J mem) (s f : Int32) : CnI mX5_thinks [.ref 0, .int s, .int f] mem (fun x m1 => CnI mX6_thinks [.ref 50, .int s, .int f] m1 (fun y m2 => y = x ∧ J m2)) := by
  obtain ⟨n, p, T, h⟩ := h
  refine (c5_thinks h.po s f h.hl).mono ?_
  have h8 := h.n8
  rintro x m1 (⟨c, rfl, rfl⟩ | ⟨q, hq, rfl, c, q5⟩)
  · have e := fnd_hi mem 0
    refine (c6_thinks (MO_of h.mo (e 51 (by omega))) s f (fun q hq => by rw [e 58 (by omega)]; exact h.hm q hq)).mono ?_
    rintro y m2 (⟨-, rfl, rfl⟩ | ⟨q, hq, rfl, d, -⟩)
    · exact ⟨rfl, h.f0 0 (by decide)⟩
    · exact absurd c d
  · rcases q5 with ⟨c2, rfl, rfl⟩ | ⟨c2, ⟨c3, rfl, rfl⟩ | ⟨r, z, hr, rfl, hz, ez, q5⟩⟩
    · have e := fnd_hi mem 5
      refine (c6_thinks (MO_of h.mo (e 51 (by omega))) (nI q) f (fun q hq => by rw [e 58 (by omega)]; exact h.hm q hq)).mono ?_
      rintro y m2 (⟨d, -, -⟩ | ⟨q2, hq2, eq, -, q6⟩)
      · exact absurd d c
      · have e3 := (nI_eq (by omega) (by omega)).mp eq
        subst e3
        rw [e 57 (by omega)] at q6
        rcases q6 with ⟨-, rfl, rfl⟩ | ⟨d, -⟩
        · exact ⟨rfl, h.f0 5 (by decide)⟩
        · exact absurd d ((shs_0 h hq).mp c2)
    · have e := fnd_hi mem 0
      refine (c6_thinks (MO_of h.mo (e 51 (by omega))) (nI q) f (fun q hq => by rw [e 58 (by omega)]; exact h.hm q hq)).mono ?_
      rintro y m2 (⟨d, -, -⟩ | ⟨q2, hq2, eq, -, q6⟩)
      · exact absurd d c
      · have e3 := (nI_eq (by omega) (by omega)).mp eq
        subst e3
        rw [e 57 (by omega)] at q6
        rcases q6 with ⟨d, -⟩ | ⟨-, ⟨-, rfl, rfl⟩ | ⟨r, z, hr, rfl, -⟩⟩
        · exact absurd ((shs_0 h hq).mpr d) c2
        · exact ⟨rfl, h.f0 0 (by decide)⟩
        · exact absurd c3 (no_in h8 hr)
    · obtain ⟨w, hF, q5⟩ := q5
      have e := q5_hi q5
      refine (c6_thinks (MO_of h.mo (e 51 (by omega))) (nI q) (nI r) (fun q hq => by rw [e 58 (by omega)]; exact h.hm q hq)).mono ?_
      rintro y m2 (⟨d, -, -⟩ | ⟨q2, hq2, eq, -, q6⟩)
      · exact absurd d c
      · have e3 := (nI_eq (by omega) (by omega)).mp eq
        subst e3
        rw [e 57 (by omega)] at q6
        rcases q6 with ⟨d, -⟩ | ⟨-, ⟨d, -, -⟩ | ⟨r2, z2, hr2, er, hz2, ez2, q6⟩⟩
        · exact absurd ((shs_0 h hq).mpr d) c2
        · exact absurd d (no_in h8 hr)
        · have e4 := (nI_eq (by omega) (by omega)).mp er
          subst e4
          obtain ⟨-, ⟨z3, hz3, ez3, ez4⟩, -⟩ := h.2.2.2.2.2.1 q hq
          have e5 : z = z3 := (nI_eq (by omega) (by omega)).mp (ez.symm.trans ez3)
          have e6 : z2 = z3 := (nI_eq (by omega) (by omega)).mp (by rw [← ez2, e 58 (by omega), ez4])
          have e7 : z2 = z := by omega
          subst e7
          have fe := fit_eq (z := z2) h hq hz hr (e 51 (by omega)) (e 59 (by omega))
          rcases q5 with ⟨a1, rfl, a3⟩ | ⟨a1, rfl, m3, a3, rfl⟩
          · have h1 := h.Q (QQ.S a3)
            have hw : fitB m1 q n z2 r (18 - w) = true := (fe w (by omega)).mp (hF.2.2.2 a1)
            rcases q6 with ⟨k, -⟩ | ⟨-, rfl, k⟩
            · exact absurd k (cntT_pos (by decide) hw (by omega))
            · refine ⟨?_, n, p, T, h1.Q (QQ.F h1.ca k)⟩
              rw [lowF_at hw 19 (by omega) (fun t t1 t2 => ?_), opVK w (by omega)]
              have this : ¬ fitB m1 q n z2 r t = true := fun g => hF.2.2.1 (18 - t) (by omega) (by omega) ((fe (18 - t) (by omega)).mpr (by rw [show 18 - (18 - t) = t by omega]; exact g))
              exact Bool.not_eq_true _ ▸ this
          · have h1 := h.Q (QQ.S a3)
            rcases q6 with ⟨-, rfl, m4, k, rfl⟩ | ⟨k, -, -⟩
            · exact ⟨rfl, n, p, T, h1.ff (by decide) (QQ.F (fnd_Ca h1.ca) k)⟩
            · refine absurd ?_ k
              rw [cntT_0 19 (fun t ht => ?_)]
              · decide
              · have this : ¬ fitB (fnd m3 3) q n z2 r t = true := fun g => hF.2.2.1 (18 - t) (by omega) (by omega) ((fe (18 - t) (by omega)).mpr (by rw [show 18 - (18 - t) = t by omega]; exact g))
                exact Bool.not_eq_true _ ▸ this
