/-! call by call: the rest -/
theorem no_cut {p r : Nat} (p1 : 1 ≤ p) (p2 : p ≤ 200) (r1 : 1 ≤ r) (r2 : r ≤ 20) : ¬ inR (nI p) 1 200 = 0 ∧ ¬ inR (nI r) 1 20 = 0 := by
  have a : ∀ p, p < 201 → 1 ≤ p → ¬ inR (nI p) 1 200 = 0 := by decide +kernel
  exact ⟨a p (by omega) p1, in1_20 r1 r2⟩
theorem win_0 {p r : Nat} (p1 : 1 ≤ p) (p2 : p ≤ 200) (r1 : 1 ≤ r) (r2 : r ≤ 20) : winC (nI p) (nI r) ≤ 0 ↔ (p - 1) % (r + 1) = 0 := by
  rw [win_tab (by omega) (by omega) p1 r1]
  have := Nat.mod_lt (p - 1) (show 0 < r + 1 by omega)
  constructor
  · intro q
    rcases Nat.eq_zero_or_pos ((p - 1) % (r + 1)) with g | g
    · exact g
    · exact absurd q (nI_nle g (by omega))
  · intro q
    rw [q]
    decide
theorem cntT_congr {P Q : Nat → Bool} : ∀ n, (∀ i, i < n → P i = Q i) → cntT P n = cntT Q n
  | 0, _ => rfl
  | n + 1, h => by rw [cntT, cntT, cntT_congr n (fun i hi => h i (by omega)), h n (by omega)]
set_option maxHeartbeats 1000000 in
theorem jt_wins {mem : Mem} (h : J mem) (a b : Int32) : CnI mX5_wins [.ref 0, .int a, .int b] mem (fun x m1 => CnI mX6_wins [.ref 50, .int a, .int b] m1 (fun y m2 => y = x ∧ J m2)) := by
  obtain ⟨n, p, T, h⟩ := h
  refine (c5_wins a b mem).mono ?_
  rintro x m1 (⟨c, rfl, rfl⟩ | ⟨c1, c2, rfl, e⟩)
  · refine (c6_wins a b _).mono ?_
    rintro y m2 (⟨-, rfl, rfl⟩ | ⟨i, j, i1, i2, j1, j2, rfl, rfl, -⟩)
    · exact ⟨rfl, h.f0 0 (by decide)⟩
    · rcases c with c | c
      · exact absurd c (no_cut i1 i2 j1 j2).1
      · exact absurd c (no_cut i1 i2 j1 j2).2
  · rw [e]
    refine (c6_wins a b _).mono ?_
    rintro y m2 (⟨d, -, -⟩ | ⟨i, j, i1, i2, j1, j2, rfl, rfl, rfl, q⟩)
    · rcases d with d | d
      · exact absurd d c1
      · exact absurd d c2
    · refine ⟨?_, n, p, T, h.Q (QQ.M h.ca q)⟩
      by_cases g : (i - 1) % (j + 1) = 0
      · rw [if_pos g, if_pos ((win_0 i1 i2 j1 j2).mpr g)]
      · rw [if_neg g, if_neg (fun k => g ((win_0 i1 i2 j1 j2).mp k))]
set_option maxHeartbeats 1000000 in
theorem jt_cut {mem : Mem} (h : J mem) (a b : Int32) : CnI mX5_cut [.ref 0, .int a, .int b] mem (fun x m1 => CnI mX6_cut [.ref 50, .int a, .int b] m1 (fun y m2 => y = x ∧ J m2)) := by
  obtain ⟨n, p, T, h⟩ := h
  refine (c5_cut a b mem).mono ?_
  rintro x m1 (⟨c, rfl, rfl⟩ | ⟨c1, c2, ⟨c3, rfl, rfl⟩ | ⟨c3, rfl, e⟩⟩)
  · refine (c6_cut a b _).mono ?_
    rintro y m2 (⟨-, rfl, rfl⟩ | ⟨i, j, i1, i2, j1, j2, rfl, rfl, -⟩)
    · exact ⟨rfl, h.f0 0 (by decide)⟩
    · rcases c with c | c
      · exact absurd c (no_cut i1 i2 j1 j2).1
      · exact absurd c (no_cut i1 i2 j1 j2).2
  · refine (c6_cut a b _).mono ?_
    rintro y m2 (⟨d, -, -⟩ | ⟨i, j, i1, i2, j1, j2, rfl, rfl, ⟨-, rfl, m3, q, rfl⟩ | ⟨g, -, -⟩⟩)
    · rcases d with d | d
      · exact absurd d c1
      · exact absurd d c2
    · exact ⟨rfl, n, p, T, h.ff (by decide) (QQ.M (fnd_Ca h.ca) q)⟩
    · exact absurd ((win_0 i1 i2 j1 j2).mp c3) g
  · rw [e]
    refine (c6_cut a b _).mono ?_
    rintro y m2 (⟨d, -, -⟩ | ⟨i, j, i1, i2, j1, j2, rfl, rfl, ⟨g, -⟩ | ⟨g, rfl, q⟩⟩)
    · rcases d with d | d
      · exact absurd d c1
      · exact absurd d c2
    · exact absurd ((win_0 i1 i2 j1 j2).mpr g) c3
    · exact ⟨(win_tab (by omega) (by omega) i1 j1).symm, n, p, T, h.Q (QQ.M h.ca q)⟩
set_option maxHeartbeats 1000000 in
theorem jt_odds {mem : Mem} (h : J mem) (a b : Int32) : Cn mX5_odds [.ref 0, .int a, .int b] mem (fun r m1 => ∃ x : Int64, r = some (.long x) ∧ Cn mX6_odds [.ref 50, .int a, .int b] m1 (fun r2 m2 => r2 = some (.long x) ∧ J m2)) := by
  obtain ⟨n, p, T, h⟩ := h
  refine Cn.mono (c5_odds a b mem) ?_
  rintro r m1 (⟨c, rfl, rfl⟩ | ⟨c, y, hy, rfl, rfl, e⟩)
  · refine ⟨_, rfl, Cn.mono (c6_odds a b _) ?_⟩
    rintro r m2 (⟨-, rfl, rfl⟩ | ⟨d, y, hy, rfl, -⟩)
    · exact ⟨rfl, h.f0 0 (by decide)⟩
    · rcases c with c | c
      · have : ∀ y, y < 13 → ¬ inR (nI y) 0 12 = 0 := by decide +kernel
        exact absurd c (this y (by omega))
      · exact absurd c d
  · rw [e]
    refine ⟨_, rfl, Cn.mono (c6_odds (nI y) b _) ?_⟩
    rintro r m2 (⟨d, -, -⟩ | ⟨-, z, hz, ez, rfl, e2⟩)
    · rcases d with d | d
      · have : ∀ y, y < 13 → ¬ inR (nI y) 0 12 = 0 := by decide +kernel
        exact absurd d (this y (by omega))
      · exact absurd d c
    · have e3 := (nI_eq (by omega) (by omega)).mp ez
      subst e3
      rw [e2]
      exact ⟨rfl, n, p, T, h⟩
set_option maxHeartbeats 1000000 in
theorem jt_as {mem : Mem} (h : J mem) (a b : Int32) : CnI mX5_as [.ref 0, .int a, .int b] mem (fun x m1 => CnI mX6_as [.ref 50, .int a, .int b] m1 (fun y m2 => y = x ∧ J m2)) := by
  obtain ⟨n, p, T, h⟩ := h
  refine (c5_as h.pn (fun r hr => by rw [show mem (4 + r) 0 = mem 51 (6 + 5 * r + 0) from h.pr.2.2.2.2.2.1 r 0 hr (by decide)]; exact (h.mor.2.2.2 r hr).1) a b).mono ?_
  have h8 := h.n8
  have hs := h.jx.2.2
  have esp : ∀ i, i < 10 → mem 12 i = mem 51 (46 + i) := fun i hi => h.pr.2.2.2.2.2.2 i hi
  rintro x m1 (⟨c, rfl, rfl⟩ | ⟨i, hi, rfl, c, ⟨c2, rfl, rfl⟩ | ⟨r, o, hr, er, ho, eo, ⟨c3, rfl, e8⟩ | ⟨c3, rfl, rfl⟩⟩⟩)
  · have e := fnd_hi mem 0 51 (by omega)
    refine (c6_as (n := n) h8 (by rw [e]; exact hs) a b).mono ?_
    rintro y m2 (⟨-, rfl, rfl⟩ | ⟨i, hi, rfl, d, -⟩)
    · exact ⟨rfl, h.f0 0 (by decide)⟩
    · rcases c with c | c
      · exact absurd c (in10 hi)
      · exact absurd c d
  · have e := fnd_hi mem 5 51 (by omega)
    refine (c6_as (n := n) h8 (by rw [e]; exact hs) (nI i) b).mono ?_
    rw [e]
    rintro y m2 (⟨d, -, -⟩ | ⟨i2, hi2, ei, -, ⟨-, rfl, rfl⟩ | ⟨r, hr, er, -⟩⟩)
    · rcases d with d | d
      · exact absurd d (in10 hi)
      · exact absurd d c
    · exact ⟨rfl, h.f0 5 (by decide)⟩
    · have e3 := (nI_eq (by omega) (by omega)).mp ei
      subst e3
      rw [esp i hi, er] at c2
      exact absurd c2 (no_in h8 hr)
  · rw [e8]
    obtain ⟨k, hk, rfl⟩ := inR_of (N := 6) (by decide) c
    refine (c6_as (n := n) h8 hs (nI i) (nI k)).mono ?_
    rintro y m2 (⟨d, -, -⟩ | ⟨i2, hi2, ei, -, ⟨g, -⟩ | ⟨r2, hr2, er2, ⟨g, -⟩ | ⟨g, rfl, e9⟩⟩⟩)
    · rcases d with d | d
      · exact absurd d (in10 hi)
      · exact absurd d c
    · have e3 := (nI_eq (by omega) (by omega)).mp ei
      subst e3
      rw [← esp i hi, er] at g
      exact absurd g (nI_nem1 (by omega))
    · have e3 := (nI_eq (by omega) (by omega)).mp ei
      subst e3
      have e4 := (nI_eq (by omega) (by omega)).mp (er.symm.trans ((esp i hi).trans er2))
      subst e4
      rw [show FM mem r 0 = nI o from (h.pr.2.2.2.2.2.1 r 0 hr (by decide)).symm.trans eo] at g
      exact absurd g ((chn_tab o ho k (by omega)).mp c3)
    · have e3 := (nI_eq (by omega) (by omega)).mp ei
      subst e3
      rw [e9]
      exact ⟨er2.symm.trans ((esp i hi).symm.trans er), n, p, T, h⟩
  · have e := fnd_hi mem 2 51 (by omega)
    obtain ⟨k, hk, rfl⟩ := inR_of (N := 6) (by decide) c
    refine (c6_as (n := n) h8 (by rw [e]; exact hs) (nI i) (nI k)).mono ?_
    unfold FM
    rw [e]
    rintro y m2 (⟨d, -, -⟩ | ⟨i2, hi2, ei, -, ⟨g, -⟩ | ⟨r2, hr2, er2, ⟨-, rfl, rfl⟩ | ⟨g, -, -⟩⟩⟩)
    · rcases d with d | d
      · exact absurd d (in10 hi)
      · exact absurd d c
    · have e3 := (nI_eq (by omega) (by omega)).mp ei
      subst e3
      rw [← esp i hi, er] at g
      exact absurd g (nI_nem1 (by omega))
    · exact ⟨rfl, h.f0 2 (by decide)⟩
    · have e3 := (nI_eq (by omega) (by omega)).mp ei
      subst e3
      have e4 := (nI_eq (by omega) (by omega)).mp (er.symm.trans ((esp i hi).trans er2))
      subst e4
      rw [show mem 51 (6 + 5 * r + 0) = nI o from (h.pr.2.2.2.2.2.1 r 0 hr (by decide)).symm.trans eo] at g
      exact absurd ((chn_tab o ho k (by omega)).mpr g) c3
theorem ld_JP {mem m1 : Mem} {n p T q : Nat} (h : J2 mem mem n p T) (hq : q < 4) (e59 : m1 59 = mem 59) (e51 : m1 51 = mem 51) : ∀ y, y ≤ n → (∀ i, i < y → ¬ inR (mem (40 + 1 + 2 * q + 1) i) 0 999 = 0) → JP (loadN mem q y) 1 n (lodM m1 q y 51)
  | 0, _, _ => by rw [loadN, lodM, e51]; exact h.2.1
  | y + 1, hy, a => by
    have h8 := h.n8
    have ih := ld_JP h hq e59 e51 y (by omega) (fun i hi => a i (by omega))
    rw [loadN, lodM, up2_51, e59, ← (h.2.2.2.2.2.1 q hq).2.2 y (by omega)]
    exact alt_JP (j := 1) ih (by omega) (by decide) rfl (show ¬ inR _ 0 999 = 0 from a y (by omega))
theorem run_eq {P Q : Nat → Prop} {y v n z3 : Nat} (e : ∀ i, i < 8 → (P i ↔ Q i)) (hn : n ≤ 8) (yz : y ≤ z3) (yn : y ≤ n) (a1 : ∀ i, i < y → P i) (a2 : y < z3 → y < n → ¬ P y) (vz : v ≤ z3) (vn : v ≤ n) (b1 : ∀ i, i < v → Q i) (b2 : v < z3 → v < n → ¬ Q v) : y = v := by
  rcases Nat.lt_trichotomy y v with g | g | g
  · exact absurd ((e y (by omega)).mpr (b1 y g)) (a2 (by omega) (by omega))
  · exact g
  · exact absurd ((e v (by omega)).mp (a1 v g)) (b2 (by omega) (by omega))
set_option maxHeartbeats 1000000 in
theorem jt_load {mem : Mem} (h : J mem) (s : Int32) : CnI mX5_load [.ref 0, .int s] mem (fun x m1 => CnI mX6_load [.ref 50, .int s] m1 (fun y m2 => y = x ∧ J m2)) := by
  obtain ⟨n, p, T, h⟩ := h
  refine (c5_load h.po s h.hl).mono ?_
  have h8 := h.n8
  rintro x m1 (⟨c, rfl, rfl⟩ | ⟨q, hq, rfl, c, ⟨c2, rfl, rfl⟩ | ⟨c2, z, y, hz, ez, yz, yn, a1, a2, rfl, e8⟩⟩)
  · have e := fnd_hi mem 0
    refine (c6_load (n := n) (by rw [e 51 (by omega)]; exact h.mor.1) h8 s (fun q hq => by rw [e 58 (by omega)]; exact h.hm q hq)).mono ?_
    rintro y m2 (⟨-, rfl, rfl⟩ | ⟨q, hq, rfl, d, -⟩)
    · exact ⟨rfl, h.f0 0 (by decide)⟩
    · exact absurd c d
  · have e := fnd_hi mem 5
    refine (c6_load (n := n) (by rw [e 51 (by omega)]; exact h.mor.1) h8 (nI q) (fun q hq => by rw [e 58 (by omega)]; exact h.hm q hq)).mono ?_
    rintro y m2 (⟨d, -, -⟩ | ⟨q2, hq2, eq, -, q6⟩)
    · exact absurd d c
    · have e3 := (nI_eq (by omega) (by omega)).mp eq
      subst e3
      rw [e 57 (by omega)] at q6
      rcases q6 with ⟨-, rfl, rfl⟩ | ⟨d, -⟩
      · exact ⟨rfl, h.f0 5 (by decide)⟩
      · exact absurd d ((shs_0 h hq).mp c2)
  · have hj := h.2.2.2.2.2.1 q hq
    obtain ⟨-, ⟨z3, hz3, ez3, ez4⟩, hnum⟩ := hj
    have e5 : z = z3 := (nI_eq (by omega) (by omega)).mp (ez.symm.trans ez3)
    subst e5
    have o : ∀ b, (b < 4 ∨ 13 ≤ b) → m1 b = mem b := fun b hb => by rw [e8]; exact loadN_o mem q y (by omega)
    refine (c6_load (n := n) (by rw [o 51 (by omega)]; exact h.mor.1) h8 (nI q) (fun q hq => by rw [o 58 (by omega)]; exact h.hm q hq)).mono ?_
    rintro y2 m2 (⟨d, -, -⟩ | ⟨q2, hq2, eq, -, q6⟩)
    · exact absurd d c
    · have e3 := (nI_eq (by omega) (by omega)).mp eq
      subst e3
      rw [o 57 (by omega), o 58 (by omega), o 59 (by omega)] at q6
      rcases q6 with ⟨d, -⟩ | ⟨-, w, v, hw, ew, vw, vn, b1, b2, rfl, e9⟩
      · exact absurd ((shs_0 h hq).mpr d) c2
      · have e6 : w = z := (nI_eq (by omega) (by omega)).mp (ew.symm.trans ez4)
        subst e6
        have e7 := run_eq (P := fun i => ¬ inR (mem (40 + 1 + 2 * q + 1) i) 0 999 = 0) (Q := fun i => ¬ inR (mem 59 (40 * q + i)) 0 999 = 0) (fun i hi => by rw [hnum i (by omega)]) h8 yz yn a1 (fun k1 k2 k3 => k3 (a2 k1 k2)) vw vn b1 (fun k1 k2 k3 => k3 (b2 k1 k2))
        subst e7
        have o2 : ∀ b, b ≠ 51 → m2 b = m1 b := fun b hb => by rw [e9]; exact lod_o m1 q hb y
        refine ⟨rfl, n, p, T, h.par (n' := n) ?_ ?_ (fun b hb => ?_) (fun b h1 h2 h3 h4 h5 => ?_)⟩
        · refine Ca_lo (m := m1) ?_ (fun b hb => o2 b (by omega))
          rw [e8]
          exact loadN_Ca q h.ca y
        · have g := ld_JP h hq (o 59 (by omega)) (o 51 (by omega)) y yn a1
          rw [e9]
          refine JP.lo g (fun b _ _ => ?_)
          rw [lod_o m1 q (by omega), e8]
        · rw [o2 b (by omega), o b (by omega)]
        · rw [o2 b h2, o b (by omega)]
set_option maxHeartbeats 1000000 in
theorem jt_judge {mem : Mem} (h : J mem) (s : Int32) : CnI mX5_judge [.ref 0, .int s] mem (fun x m1 => CnI mX6_judge [.ref 50, .int s] m1 (fun y m2 => y = x ∧ J m2)) := by
  obtain ⟨n, p, T, h⟩ := h
  refine (c5_judge h.po s h.hl).mono ?_
  have h8 := h.n8
  rintro x m1 (⟨c, rfl, rfl⟩ | ⟨q, hq, rfl, c, ⟨c2, rfl, rfl⟩ | ⟨c2, z, y, hz, ez, yz, yn, a1, a2, rfl, e8⟩⟩)
  · have e := fnd_hi mem 0
    refine (c6_judge (MO_of h.mo (e 51 (by omega))) s (fun q hq => by rw [e 58 (by omega)]; exact h.hm q hq)).mono ?_
    rintro y m2 (⟨-, rfl, rfl⟩ | ⟨q, hq, rfl, d, -⟩)
    · exact ⟨rfl, h.f0 0 (by decide)⟩
    · exact absurd c d
  · have e := fnd_hi mem 5
    refine (c6_judge (MO_of h.mo (e 51 (by omega))) (nI q) (fun q hq => by rw [e 58 (by omega)]; exact h.hm q hq)).mono ?_
    rintro y m2 (⟨d, -, -⟩ | ⟨q2, hq2, eq, -, q6⟩)
    · exact absurd d c
    · have e3 := (nI_eq (by omega) (by omega)).mp eq
      subst e3
      rw [e 57 (by omega)] at q6
      rcases q6 with ⟨-, rfl, rfl⟩ | ⟨d, -⟩
      · exact ⟨rfl, h.f0 5 (by decide)⟩
      · exact absurd d ((shs_0 h hq).mp c2)
  · have hj := h.2.2.2.2.2.1 q hq
    obtain ⟨-, ⟨z3, hz3, ez3, ez4⟩, hnum⟩ := hj
    have e5 : z = z3 := (nI_eq (by omega) (by omega)).mp (ez.symm.trans ez3)
    subst e5
    have h1 := h.Q (QQ.S (QS.ofS e8))
    have o := (QS.ofS e8).hi
    refine (c6_judge h1.mo (nI q) h1.hm).mono ?_
    rintro y2 m2 (⟨d, -, -⟩ | ⟨q2, hq2, eq, -, q6⟩)
    · exact absurd d c
    · have e3 := (nI_eq (by omega) (by omega)).mp eq
      subst e3
      rw [o 57 (by omega), o 58 (by omega), o 59 (by omega), DM_R, o 51 (by omega)] at q6
      rcases q6 with ⟨d, -⟩ | ⟨-, w, v, hw, ew, vw, vn, b1, b2, rfl, e9⟩
      · exact absurd ((shs_0 h hq).mpr d) c2
      · have e6 : w = z := (nI_eq (by omega) (by omega)).mp (ew.symm.trans ez4)
        subst e6
        have e7 : y = v := by
          rcases Nat.lt_trichotomy y v with g | g | g
          · refine absurd ?_ (a2 (by omega) (by omega))
            rw [h.pr.D y (by omega), hnum y (by omega)]
            exact (b1 y g).symm
          · exact g
          · refine absurd ?_ (b2 (by omega) (by omega))
            have := a1 v g
            rw [h.pr.D v (by omega), hnum v (by omega)] at this
            exact this.symm
        subst e7
        rw [e9]
        exact ⟨rfl, n, p, T, h1⟩
set_option maxHeartbeats 1000000 in
theorem jt_count {mem : Mem} (h : J mem) (a : Int32) : CnI mX5_count [.ref 0, .int a] mem (fun x m1 => CnI mX6_count [.ref 50, .int a] m1 (fun y m2 => y = x ∧ J m2)) := by
  obtain ⟨n, p, T, h⟩ := h
  refine (c5_count h.po a).mono ?_
  rintro x m1 (⟨c, rfl, rfl⟩ | ⟨c, rfl, q⟩)
  · refine (c6_count (MO_of h.mo (fnd_hi mem 0 51 (by omega))) a).mono ?_
    rintro y m2 (⟨-, rfl, rfl⟩ | ⟨d, -, -⟩)
    · exact ⟨rfl, h.f0 0 (by decide)⟩
    · obtain ⟨c0, c1, c2, c3, c4, c5, c6, c7⟩ := c
      rcases d with d | d | d | d | d | d | d | d <;> contradiction
  · have h1 := h.Q (QQ.S (QS.ofS q))
    have e := (QS.ofS q).hi 51 (by omega)
    refine (c6_count h1.mo a).mono ?_
    rintro y m2 (⟨d, -, -⟩ | ⟨-, rfl, q2⟩)
    · obtain ⟨c0, c1, c2, c3, c4, c5, c6, c7⟩ := d
      rcases c with d | d | d | d | d | d | d | d <;> contradiction
    · refine ⟨?_, n, p, T, h1.Q (QQ.M h1.ca q2)⟩
      unfold cntM cntC
      have g : ∀ w : Int32, ∀ j, j < 5 → slotF w = j → sumT (fun i => FM m1 i j) n = sumT (fun i => toldF (mem (4 + i)) w) n := fun w j hj hw => sumT_congr n (fun i hi => by unfold FM; rw [e, told_j hj hw]; exact (h.pr.2.2.2.2.2.1 i j hi hj).symm)
      rw [e, h.2.1.2.1, h.pr.2.1, h.mor.1, g 2 2 (by decide) (by decide), g 3 3 (by decide) (by decide), DM_R, e, h.pr.last h.mor, (QS.ofS q).hi 50 (by omega), h.2.2.2.2.1.1, h.2.2.2.2.1.2.1, h.pr.2.2.2.1]
      rw [cntT_congr (P := fun i => decide (0 ≤ mem 51 (46 + i))) (Q := fun i => decide (¬ mem 12 i = -1)) 10 (fun i hi => ?_)]
      have es : mem 12 i = mem 51 (46 + i) := h.pr.2.2.2.2.2.2 i hi
      have h8 := h.n8
      rw [es]
      rcases h.jx.2.2 i hi with k | ⟨k, k1, k2⟩
      · rw [k]; decide
      · rw [k2, decide_eq_true (nI_pos' (by omega)), decide_eq_true (nI_nem1 (by omega))]
set_option maxHeartbeats 1000000 in
theorem jt_status {mem : Mem} (h : J mem) (a : Int32) : CnI mX5_status [.ref 0, .int a] mem (fun x m1 => CnI mX6_status [.ref 50, .int a] m1 (fun y m2 => y = x ∧ J m2)) := by
  obtain ⟨n, p, T, h⟩ := h
  refine (c5_status a mem).mono ?_
  rintro x m1 (⟨c, rfl, rfl⟩ | ⟨c, e8, q⟩)
  · refine (c6_status a _).mono ?_
    rintro y m2 (⟨-, rfl, rfl⟩ | ⟨d, -⟩)
    · exact ⟨rfl, h.f0 0 (by decide)⟩
    · exact absurd c d
  · rw [e8]
    refine (c6_status a _).mono ?_
    rintro y m2 (⟨d, -, -⟩ | ⟨-, e9, i, hi, ei, rfl⟩)
    · exact absurd d c
    · rw [e9]
      refine ⟨?_, n, p, T, h⟩
      have hF := h.2.2.2.2.2.2
      rcases q with ⟨rfl, rfl⟩ | ⟨k, hk, rfl, rfl⟩
      · have e0 : i = 0 := (nI_eq (by omega) (by omega)).mp (ei.symm.trans (by decide))
        subst e0
        exact hF.2
      · rw [nI_1] at ei
        have e0 : k + 1 = i := (nI_eq (by omega) (by omega)).mp ei
        subst e0
        exact (hF.1 k hk).symm
