/-! call by call: sheets, images -/
theorem J2.she {c r c' r' : Mem} {n p T : Nat} (h : J2 c r n p T) (hc : CaOK c') (ec : ∀ a, a < 41 ∨ a = 49 → c' a = c a) (er : ∀ a, 50 ≤ a → a ≠ 57 → a ≠ 58 → a ≠ 59 → r' a = r a) (hs : JS c' r') : J2 c' r' n p T := by
  obtain ⟨h1, h2, ⟨h3, h4⟩, h5, h6, h7, h8⟩ := h
  have e : ∀ a, a = 50 ∨ a = 51 ∨ a = 52 ∨ a = 55 ∨ a = 56 → r' a = r a := fun a ha => er a (by omega) (by omega) (by omega) (by omega)
  refine ⟨hc, ?_, ⟨⟨h3.1, by rw [ec 13 (by omega)]; exact h3.2.1, h3.2.2⟩, fun k => ?_⟩, by rw [ec 0 (by omega), e 50 (by omega)]; exact h5, h6.congr (by rw [ec 37 (by omega)]) (ec 38 (by omega)) (by rw [e 50 (by omega)]) (e 56 (by omega)), hs, h8.congr (ec 49 (by omega)) (e 55 (by omega))⟩
  · rw [e 51 (by omega)]
    exact h2.lo (fun a k1 k2 => ec a (by omega))
  · rw [e 52 (by omega)]
    rw [ec 0 (by omega)] at k
    exact (h4 k).ccongr rfl (fun a k1 k2 => ⟨fun j _ _ => by rw [ec a (by omega)], fun _ => ec a (by omega)⟩)
theorem kd_sh {q : Nat} (h : q < 4) : kd (40 + 1 + 2 * q) ≠ 0 ∧ kd (40 + 1 + 2 * q + 1) ≠ 0 := by
  have : ∀ q, q < 4 → kd (40 + 1 + 2 * q) ≠ 0 ∧ kd (40 + 1 + 2 * q + 1) ≠ 0 := by decide +kernel
  exact this q h
theorem hasB_c {b : Int32} (h : ¬ hasB b = 0) : b = 0 ∨ b = 8 ∨ b = 16 ∨ b = 32 := by
  unfold hasB at h
  by_cases c0 : b = 0
  · exact Or.inl c0
  · by_cases c1 : b = 8
    · exact Or.inr (Or.inl c1)
    · by_cases c2 : b = 16
      · exact Or.inr (Or.inr (Or.inl c2))
      · by_cases c3 : b = 32
        · exact Or.inr (Or.inr (Or.inr c3))
        · rw [if_neg c0, if_neg c1, if_neg c2, if_neg c3] at h
          exact absurd rfl h
theorem sh_lt {c r : Mem} {q : Nat} (h : JS c r) (hq : q < 4) : (c (40 + 1 + 2 * q) 1 = 0 ↔ r 57 q < 0) ∧ (¬ c (40 + 1 + 2 * q) 1 = 0 → r 57 q = c (40 + 1 + 2 * q) 1) := by
  rcases (h q hq).1 with ⟨a, b⟩ | ⟨a, b⟩
  · rw [a, b]
    exact ⟨by decide, fun k => absurd rfl k⟩
  · rw [a]
    exact ⟨by rcases b with b | b | b <;> rw [b] <;> decide, fun _ => rfl⟩
set_option maxHeartbeats 1000000 in
theorem jt_sheet {mem : Mem} (h : J mem) (s b k : Int32) : CnI mX5_sheet [.ref 0, .int s, .int b, .int k] mem (fun x m1 => CnI mX6_sheet [.ref 50, .int s, .int b, .int k] m1 (fun y m2 => y = x ∧ J m2)) := by
  obtain ⟨n, p, T, h⟩ := h
  refine (c5_sheet s b k mem).mono ?_
  rintro x m1 (⟨c, rfl, rfl⟩ | ⟨c1, c2, c3, rfl, rfl⟩ | ⟨c1, c2, c3, c4, rfl, rfl⟩ | ⟨q, hq, rfl, c1, c2, c3, c4, rfl, e8⟩)
  · refine (c6_sheet s b k _).mono ?_
    rintro y m2 (⟨-, rfl, rfl⟩ | ⟨d1, d2, -⟩ | ⟨d1, d2, -⟩ | ⟨q, hq, rfl, d1, d2, -⟩)
    · exact ⟨rfl, h.f0 0 (by decide)⟩
    all_goals
      rcases c with c | c
      · exact absurd c d1
      · exact absurd c d2
  · refine (c6_sheet s b k _).mono ?_
    rintro y m2 (⟨d, -, -⟩ | ⟨-, -, -, rfl, rfl⟩ | ⟨-, -, d, -⟩ | ⟨q, hq, -, -, -, d, -⟩)
    · rcases d with d | d
      · exact absurd d c1
      · exact absurd d c2
    · exact ⟨rfl, h.f0 6 (by decide)⟩
    · exact absurd c3 d
    · exact absurd c3 d
  · refine (c6_sheet s b k _).mono ?_
    rintro y m2 (⟨-, rfl, rfl⟩ | ⟨-, -, d, -⟩ | ⟨-, -, -, -, rfl, rfl⟩ | ⟨q, hq, -, -, -, -, d, -⟩)
    · exact ⟨rfl, h.f0 0 (by decide)⟩
    · exact absurd d c3
    · exact ⟨rfl, h.f0 0 (by decide)⟩
    · exact absurd c4 d
  · refine (c6_sheet (nI q) b k _).mono ?_
    rintro y m2 (⟨d, -, -⟩ | ⟨-, -, d, -⟩ | ⟨-, -, -, d, -⟩ | ⟨q2, hq2, eq, -, -, -, -, rfl, e9⟩)
    · rcases d with d | d
      · exact absurd d c1
      · exact absurd d c2
    · exact absurd d c3
    · exact absurd d c4
    · have e3 := (nI_eq (by omega) (by omega)).mp eq
      subst e3
      have o : ∀ a, a ≠ 40 + 1 + 2 * q → a ≠ 40 + 1 + 2 * q + 1 → m1 a = mem a := fun a h1 h2 => by rw [e8]; unfold shBeg; rw [upR_ne _ _ h2, upR_ne _ _ h1]
      have o2 : ∀ a, a ≠ 57 → a ≠ 58 → a ≠ 59 → m2 a = m1 a := fun a h1 h2 h3 => by rw [e9]; unfold shM; rw [upR_ne _ _ h3, up2_ne _ _ _ h2, up2_ne _ _ _ h1]
      obtain ⟨z, hz, rfl⟩ : ∃ z, z ≤ 40 ∧ k = nI z := nI_of2 (M := 40) (n := 40) (by decide) c3 (Int32.not_lt.mp c4)
      refine ⟨rfl, n, p, T, h.she ?_ (fun a ha => by rw [o2 a (by omega) (by omega) (by omega), o a (by omega) (by omega)]) (fun a a1 a2 a3 a4 => by rw [o2 a a2 a3 a4, o a (by omega) (by omega)]) (fun q2 hq2 => ?_)⟩
      · refine Ca_lo (m := m1) ?_ (fun a ha => o2 a (by omega) (by omega) (by omega))
        rw [e8]
        exact upR_Ca (kd_sh hq).2 (upR_Ca (kd_sh hq).1 h.ca)
      · have hs := h.2.2.2.2.2.1 q2 hq2
        by_cases g : q2 = q
        · subst g
          have f1 : m2 (40 + 1 + 2 * q2) = upd (upd (mem (40 + 1 + 2 * q2)) 1 b) 2 (if b = 0 then 0 else nI z) := by
            rw [o2 _ (by omega) (by omega) (by omega), e8]
            unfold shBeg
            rw [upR_ne _ _ (by omega), upR_same]
          have f2 : m2 (40 + 1 + 2 * q2 + 1) = zer (mem (40 + 1 + 2 * q2 + 1)) 40 := by
            rw [o2 _ (by omega) (by omega) (by omega), e8]
            unfold shBeg
            rw [upR_same]
          have g7 : m2 57 q2 = if b = 0 then -1 else b := by
            rw [e9]
            unfold shM
            rw [upR_ne _ _ (by decide), up2_ne _ _ _ (by decide), up2_v1]
          have g8 : m2 58 q2 = if b = 0 then 0 else nI z := by
            rw [e9]
            exact sh_size _ _ _ _ _
          refine ⟨?_, ?_, fun j hj => ?_⟩
          · rw [f1, up_o (by decide), up_s, g7]
            rcases hasB_c c2 with k | k | k | k
            · rw [k]
              exact Or.inl ⟨rfl, rfl⟩
            · rw [k]
              exact Or.inr ⟨by decide, Or.inl rfl⟩
            · rw [k]
              exact Or.inr ⟨by decide, Or.inr (Or.inl rfl)⟩
            · rw [k]
              exact Or.inr ⟨by decide, Or.inr (Or.inr rfl)⟩
          · rw [f1, up_s, g8]
            by_cases k : b = 0
            · rw [if_pos k]
              exact ⟨0, by omega, rfl, rfl⟩
            · rw [if_neg k]
              exact ⟨z, hz, rfl, rfl⟩
          · rw [f2, e9]
            unfold zer shM
            rw [if_pos hj, upR_same, if_pos (by omega)]
        · rw [o2 (40 + 1 + 2 * q2) (by omega) (by omega) (by omega), o2 (40 + 1 + 2 * q2 + 1) (by omega) (by omega) (by omega), o (40 + 1 + 2 * q2) (by omega) (by omega), o (40 + 1 + 2 * q2 + 1) (by omega) (by omega)]
          have g7 : m2 57 q2 = mem 57 q2 := by
            rw [e9]
            unfold shM
            rw [upR_ne _ _ (by decide), up2_ne _ _ _ (by decide), up2_v, if_neg (by omega), o _ (by omega) (by omega)]
          have g8 : m2 58 q2 = mem 58 q2 := by
            rw [e9]
            unfold shM
            rw [upR_ne _ _ (by decide), up2_v, if_neg (by omega), up2_ne _ _ _ (by decide), o _ (by omega) (by omega)]
          rw [g7, g8]
          refine ⟨hs.1, hs.2.1, fun j hj => ?_⟩
          rw [e9]
          unfold shM
          rw [upR_same, if_neg (by omega), o _ (by omega) (by omega)]
          exact hs.2.2 j hj
set_option maxHeartbeats 1000000 in
theorem jt_write {mem : Mem} (h : J mem) (s a v : Int32) : CnI mX5_write [.ref 0, .int s, .int a, .int v] mem (fun x m1 => CnI mX6_write [.ref 50, .int s, .int a, .int v] m1 (fun y m2 => y = x ∧ J m2)) := by
  obtain ⟨n, p, T, h⟩ := h
  have hS := h.2.2.2.2.2.1
  refine (c5_write s a v mem h.hl).mono ?_
  rintro x m1 (⟨c, rfl, rfl⟩ | ⟨q, hq, rfl, c, ⟨c2, rfl, rfl⟩ | ⟨c2, ⟨c3, rfl, rfl⟩ | ⟨i, z, ez, hz, hi, rfl, rfl, e8⟩⟩⟩)
  · have e := fnd_hi mem 0
    refine (c6_write s a v _ (fun q hq => by rw [e 58 (by omega)]; exact h.hm q hq)).mono ?_
    rintro y m2 (⟨-, rfl, rfl⟩ | ⟨q, hq, rfl, d, -⟩)
    · exact ⟨rfl, h.f0 0 (by decide)⟩
    · exact absurd c d
  · have e := fnd_hi mem 5
    refine (c6_write (nI q) a v _ (fun q hq => by rw [e 58 (by omega)]; exact h.hm q hq)).mono ?_
    rintro y m2 (⟨d, -, -⟩ | ⟨q2, hq2, eq, -, q6⟩)
    · exact absurd d c
    · have e3 := (nI_eq (by omega) (by omega)).mp eq
      subst e3
      rw [e 57 (by omega)] at q6
      rcases q6 with ⟨-, rfl, rfl⟩ | ⟨d, -⟩
      · exact ⟨rfl, h.f0 5 (by decide)⟩
      · exact absurd d ((shs_0 h hq).mp c2)
  · have e := fnd_hi mem 0
    obtain ⟨-, ⟨z3, hz3, ez3, ez4⟩, -⟩ := hS q hq
    refine (c6_write (nI q) a v _ (fun q hq => by rw [e 58 (by omega)]; exact h.hm q hq)).mono ?_
    rintro y m2 (⟨d, -, -⟩ | ⟨q2, hq2, eq, -, q6⟩)
    · exact absurd d c
    · have e3 := (nI_eq (by omega) (by omega)).mp eq
      subst e3
      rw [e 57 (by omega), e 58 (by omega)] at q6
      rcases q6 with ⟨d, -⟩ | ⟨-, ⟨-, rfl, rfl⟩ | ⟨i, z, ez, hz, hi, rfl, -⟩⟩
      · exact absurd ((shs_0 h hq).mpr d) c2
      · exact ⟨rfl, h.f0 0 (by decide)⟩
      · rw [ez3, ← ez4, ez] at c3
        have := hasF_in (n := z) (by omega) hi
        rw [c3] at this
        exact absurd this (by decide)
  · have e : ∀ b, b ≠ 40 + 1 + 2 * q + 1 → m1 b = mem b := fun b hb => by rw [e8]; exact up2_ne _ _ _ hb
    obtain ⟨-, ⟨z3, hz3, ez3, ez4⟩, -⟩ := hS q hq
    have e5 : z = z3 := (nI_eq (by omega) (by omega)).mp (ez.symm.trans ez3)
    refine (c6_write (nI q) (nI i) v _ (fun q hq => by rw [e 58 (by omega)]; exact h.hm q hq)).mono ?_
    rintro y m2 (⟨d, -, -⟩ | ⟨q2, hq2, eq, -, q6⟩)
    · exact absurd d c
    · have e3 := (nI_eq (by omega) (by omega)).mp eq
      subst e3
      rw [e 57 (by omega), e 58 (by omega)] at q6
      rcases q6 with ⟨d, -⟩ | ⟨-, ⟨d, -⟩ | ⟨i2, z2, ez2, hz2, hi2, ei, rfl, e9⟩⟩
      · exact absurd ((shs_0 h hq).mpr d) c2
      · rw [ez4] at d
        have := hasF_in (n := z3) (i := i) (by omega) (by omega)
        rw [d] at this
        exact absurd this (by decide)
      · have e6 := (nI_eq (by omega) (by omega)).mp ei
        subst e6
        have eb := (sh_lt hS hq).2 c2
        have o2 : ∀ b, b ≠ 59 → m2 b = m1 b := fun b hb => by rw [e9]; exact up2_ne _ _ _ hb
        refine ⟨rfl, n, p, T, h.she ?_ (fun b hb => by rw [o2 b (by omega), e b (by omega)]) (fun b b1 b2 b3 b4 => by rw [o2 b b4, e b (by omega)]) (fun q2 hq2 => ?_)⟩
        · refine Ca_lo (m := m1) ?_ (fun b hb => o2 b (by omega))
          rw [e8]
          exact upR_Ca (kd_sh hq).2 h.ca
        · have hs := hS q2 hq2
          rw [o2 (40 + 1 + 2 * q2) (by omega), o2 (40 + 1 + 2 * q2 + 1) (by omega), o2 57 (by omega), o2 58 (by omega), e (40 + 1 + 2 * q2) (by omega), e 57 (by omega), e 58 (by omega)]
          refine ⟨hs.1, hs.2.1, fun j hj => ?_⟩
          rw [e8, e9, e8, up2_v, up2_v]
          by_cases g : q2 = q ∧ j = i
          · obtain ⟨rfl, rfl⟩ := g
            rw [if_pos ⟨rfl, rfl⟩, if_pos ⟨rfl, rfl⟩, eb]
          · rw [if_neg (by omega), if_neg (by omega), up2_ne _ _ _ (by omega)]
            exact hs.2.2 j hj
set_option maxHeartbeats 1000000 in
theorem jt_copy {mem : Mem} (h : J mem) (s a t b k : Int32) : CnI mX5_copy [.ref 0, .int s, .int a, .int t, .int b, .int k] mem (fun x m1 => CnI mX6_copy [.ref 50, .int s, .int a, .int t, .int b, .int k] m1 (fun y m2 => y = x ∧ J m2)) := by
  obtain ⟨n, p, T, h⟩ := h
  have hS := h.2.2.2.2.2.1
  refine (c5_copy s a t b k mem h.hl).mono ?_
  rintro x m1 (⟨c, rfl, rfl⟩ | ⟨q, r, hq, rfl, hr, rfl, cs, ct, q5⟩)
  · have e := fnd_hi mem 0
    refine (c6_copy s a t b k _ (fun q hq => by rw [e 58 (by omega)]; exact h.hm q hq)).mono ?_
    rintro y m2 (⟨-, rfl, rfl⟩ | ⟨q, r, hq, rfl, hr, rfl, d1, d2, -⟩)
    · exact ⟨rfl, h.f0 0 (by decide)⟩
    · rcases c with c | c
      · exact absurd c d1
      · exact absurd c d2
  · obtain ⟨-, ⟨z, hz, ez, ez2⟩, hnq⟩ := hS q hq
    obtain ⟨-, ⟨w, hw, ew, ew2⟩, hnr⟩ := hS r hr
    have lq := sh_lt hS hq
    have lr := sh_lt hS hr
    have e : ∀ a, 50 ≤ a → m1 a = mem a := by
      rcases q5 with ⟨-, -, rfl⟩ | ⟨-, -, ⟨-, -, rfl⟩ | ⟨-, ⟨-, -, rfl⟩ | ⟨-, -, i, j, l, -, -, -, -, -, -, e8⟩⟩⟩
      · exact fnd_hi mem 5
      · exact fnd_hi mem 2
      · exact fnd_hi mem 0
      · intro a ha
        rw [e8, upR_ne _ _ (by omega)]
    refine (c6_copy (nI q) a (nI r) b k _ (fun q hq => by rw [e 58 (by omega)]; exact h.hm q hq)).mono ?_
    rintro y m2 (⟨d, -, -⟩ | ⟨q2, r2, hq2, eq, hr2, er, -, -, q6⟩)
    · rcases d with d | d
      · exact absurd d cs
      · exact absurd d ct
    · have e3 := (nI_eq (by omega) (by omega)).mp eq
      subst e3
      have e4 := (nI_eq (by omega) (by omega)).mp er
      subst e4
      rw [e 57 (by omega)] at q6
      have hX : copX m1 q r a b k ↔ (hasR (nI z) a k = 0 ∨ hasR (nI w) b k = 0) := by
        unfold copX hasR
        rw [e 58 (by omega), ez2, ew2]
        by_cases k1 : a < 0
        · rw [if_pos k1]
          exact ⟨fun _ => Or.inl rfl, fun _ => Or.inl k1⟩
        · rw [if_neg k1]
          by_cases k2 : b < 0
          · rw [if_pos k2]
            exact ⟨fun _ => Or.inr rfl, fun _ => Or.inr (Or.inl k2)⟩
          · rw [if_neg k2]
            by_cases k3 : k < 0
            · rw [if_pos k3]
              exact ⟨fun _ => Or.inl rfl, fun _ => Or.inr (Or.inr (Or.inl k3))⟩
            · rw [if_neg k3, if_neg k3]
              by_cases k4 : nI z - a < k
              · rw [if_pos k4]
                exact ⟨fun _ => Or.inl rfl, fun _ => Or.inr (Or.inr (Or.inr (Or.inl k4)))⟩
              · rw [if_neg k4]
                by_cases k5 : nI w - b < k
                · rw [if_pos k5]
                  exact ⟨fun _ => Or.inr rfl, fun _ => Or.inr (Or.inr (Or.inr (Or.inr k5)))⟩
                · rw [if_neg k5]
                  constructor
                  · rintro (g | g | g | g | g) <;> contradiction
                  · rintro (g | g) <;> exact absurd g (by decide)
      rw [ez, ew] at q5
      rcases q5 with ⟨c2, rfl, rfl⟩ | ⟨c2, c3, q5⟩
      · rcases q6 with ⟨-, rfl, rfl⟩ | ⟨d1, d2, -⟩
        · exact ⟨rfl, h.f0 5 (by decide)⟩
        · rcases c2 with g | g
          · exact absurd (lq.1.mp g) d1
          · exact absurd (lr.1.mp g) d2
      · rcases q6 with ⟨d, -⟩ | ⟨-, -, q6⟩
        · rcases d with g | g
          · exact absurd (lq.1.mpr g) c2
          · exact absurd (lr.1.mpr g) c3
        · rw [lq.2 c2, lr.2 c3] at q6
          rcases q5 with ⟨c4, rfl, rfl⟩ | ⟨c4, q5⟩
          · rcases q6 with ⟨-, rfl, rfl⟩ | ⟨d, -⟩
            · exact ⟨rfl, h.f0 2 (by decide)⟩
            · exact absurd d c4
          · rcases q6 with ⟨d, -⟩ | ⟨-, q6⟩
            · exact absurd c4 d
            · rcases q5 with ⟨c5, rfl, rfl⟩ | ⟨c5, c6, i, j, l, rfl, rfl, rfl, b1, b2, rfl, e8⟩
              · rcases q6 with ⟨-, rfl, rfl⟩ | ⟨d, -⟩
                · exact ⟨rfl, h.f0 0 (by decide)⟩
                · exact absurd (hX.mpr c5) d
              · rcases q6 with ⟨d, -⟩ | ⟨-, i2, j2, l2, ei, ej, el, b3, b4, rfl, e9⟩
                · rcases hX.mp d with g | g
                  · exact absurd g c5
                  · exact absurd g c6
                · have f1 : i2 = i := (nI_eq (by omega) (by omega)).mp ei.symm
                  have f2 : j2 = j := (nI_eq (by omega) (by omega)).mp ej.symm
                  have f3 : l2 = l := (nI_eq (by omega) (by omega)).mp el.symm
                  subst f1
                  subst f2
                  subst f3
                  have o : ∀ a, a ≠ 40 + 1 + 2 * r + 1 → m1 a = mem a := fun a ha => by rw [e8, upR_ne _ _ ha]
                  have o2 : ∀ a, a ≠ 59 → m2 a = m1 a := fun a ha => by rw [e9]; exact upR_ne _ _ ha
                  refine ⟨rfl, n, p, T, h.she ?_ (fun a ha => by rw [o2 a (by omega), o a (by omega)]) (fun a a1 a2 a3 a4 => by rw [o2 a a4, e a a1]) (fun q2 hq2 => ?_)⟩
                  · refine Ca_lo (m := m1) ?_ (fun a ha => o2 a (by omega))
                    rw [e8]
                    exact upR_Ca (kd_sh hr).2 h.ca
                  · have hs := hS q2 hq2
                    rw [o2 (40 + 1 + 2 * q2) (by omega), o2 (40 + 1 + 2 * q2 + 1) (by omega), o2 57 (by omega), o2 58 (by omega), o (40 + 1 + 2 * q2) (by omega), e 57 (by omega), e 58 (by omega)]
                    refine ⟨hs.1, hs.2.1, fun x hx => ?_⟩
                    rw [e9]
                    unfold cpM
                    rw [upR_same, e 59 (by omega)]
                    by_cases g : q2 = r
                    · subst g
                      rw [e8, upR_same]
                      by_cases g2 : j2 ≤ x ∧ x < j2 + l2
                      · rw [pk_cpy_in g2.1 g2.2, if_pos (by omega), hnq _ (by omega)]
                        congr 1
                        omega
                      · rw [pk_cpy_out (by omega), if_neg (by omega)]
                        exact hnr x hx
                    · rw [o _ (by omega), if_neg (by omega)]
                      exact hs.2.2 x hx
set_option maxHeartbeats 1000000 in
theorem jt_image {mem : Mem} (h : J mem) : CnI mX5_image [.ref 0] mem (fun x m1 => CnI mX6_image [.ref 50] m1 (fun y m2 => y = x ∧ J m2)) := by
  obtain ⟨n, p, T, h⟩ := h
  have h8 := h.n8
  refine (CnE.toI (c5_image h.pn)).mono ?_
  rintro x m1 ⟨rfl, e8⟩
  have o : ∀ a, a ≠ 0 → (a < 13 ∨ 25 ≤ a) → m1 a = mem a := fun a h0 ha => by rw [e8, up2_ne _ _ _ h0, bec_o _ (by omega) h8]
  refine (CnE.toI (c6_image _)).mono ?_
  rintro y m2 ⟨rfl, e9⟩
  have o2 : ∀ a, a ≠ 50 → a ≠ 52 → m2 a = m1 a := fun a h1 h2 => by rw [e9, up2_ne _ _ _ h1]; exact upR_ne _ _ h2
  have r52 : ∀ j, j < 56 → m2 52 j = mem 51 j := fun j hj => by
    rw [e9, up2_ne _ _ _ (by decide)]
    unfold rowC
    rw [upR_same, if_pos hj, o 51 (by omega) (by omega)]
  have r50 : ∀ j, j ≠ 4 → m2 50 j = mem 50 j := fun j hj => by
    rw [e9, up2_v, if_neg (by omega)]
    unfold rowC
    rw [upR_ne _ _ (by decide), o 50 (by omega) (by omega)]
  obtain ⟨h1, h2, ⟨h3, h4⟩, h5, h6, h7, h9⟩ := h
  have hb := bec_Ca (m := mem) (k := 13) (o := 1) (n := n) rfl rfl (by decide) h8 h1
  have hC1 : CaOK m1 := by rw [e8]; exact upR_Ca (by decide) hb
  have hk : JP (becMem mem 13 1 n) 13 n (mem 51) := ⟨PR_bec (k := 13) (o := 1) (Or.inl (by decide)) h2.1, by rw [(bec_k mem 13 1 n).2.1]; exact h2.2.1, h2.2.2⟩
  have em : ∀ a, 13 ≤ a → a < 25 → m2 a = becMem mem 13 1 n a := fun a a1 a2 => by rw [o2 a (by omega) (by omega), e8, up2_ne _ _ _ (by omega)]
  have hk2 : JP m2 13 n (m2 52) := (hk.rcongr r52).ccongr rfl (fun a a1 a2 => by rw [em a a1 (by omega)]; exact ⟨fun j _ _ => rfl, fun _ => rfl⟩)
  refine ⟨rfl, n, n, T, Ca_lo hC1 (fun a ha => o2 a (by omega) (by omega)), ?_, ⟨⟨rfl, hk2.1.2.1, h8⟩, fun _ => hk2⟩, ?_, h6.congr (by rw [o2 37 (by omega) (by omega), o 37 (by omega) (by omega)]) (by rw [o2 38 (by omega) (by omega), o 38 (by omega) (by omega)]) (r50 7 (by decide)) (by rw [o2 56 (by omega) (by omega), o 56 (by omega) (by omega)]), h7.congr (fun a a1 a2 => by rw [o2 a (by omega) (by omega), o a (by omega) (by omega)]) (by rw [o2 57 (by omega) (by omega), o 57 (by omega) (by omega)]) (by rw [o2 58 (by omega) (by omega), o 58 (by omega) (by omega)]) (by rw [o2 59 (by omega) (by omega), o 59 (by omega) (by omega)]), h9.congr (by rw [o2 49 (by omega) (by omega), o 49 (by omega) (by omega)]) (by rw [o2 55 (by omega) (by omega), o 55 (by omega) (by omega)])⟩
  · rw [o2 51 (by omega) (by omega), o 51 (by omega) (by omega)]
    exact h2.lo (fun a a1 a2 => by rw [o2 a (by omega) (by omega), o a (by omega) (by omega)])
  · rw [o2 0 (by omega) (by omega), e8, up2_v1, e9, up2_v1]
set_option maxHeartbeats 1000000 in
theorem jt_undo {mem : Mem} (h : J mem) : CnI mX5_undo [.ref 0] mem (fun x m1 => CnI mX6_undo [.ref 50] m1 (fun y m2 => y = x ∧ J m2)) := by
  obtain ⟨n, p, T, h⟩ := h
  have h5 := h.2.2.2.1
  refine (c5_undo h.2.2.1.1).mono ?_
  have p8 := h.2.2.1.1.2.2
  rintro x m1 (⟨c, rfl, rfl⟩ | ⟨c, rfl, e8⟩)
  · refine (c6_undo _).mono ?_
    rintro y m2 (⟨-, rfl, rfl⟩ | ⟨d, -⟩)
    · exact ⟨rfl, h.f0 3 (by decide)⟩
    · rw [fnd_hi _ _ _ (by omega), ← h5] at d
      exact absurd c d
  · have o : ∀ a, (a < 1 ∨ 13 ≤ a) → m1 a = mem a := fun a ha => by rw [e8, bec_o _ (by omega) p8]
    refine (c6_undo _).mono ?_
    rintro y m2 (⟨d, -⟩ | ⟨-, rfl, e9⟩)
    · rw [o 50 (by omega), ← h5] at d
      exact absurd d c
    · have hk := h.2.2.1.2 c
      have o2 : ∀ a, a ≠ 51 → m2 a = m1 a := fun a ha => by rw [e9]; exact upR_ne _ _ ha
      have r51 : ∀ j, j < 56 → m2 51 j = mem 52 j := fun j hj => by
        rw [e9]
        unfold rowC
        rw [upR_same, if_pos hj, o 52 (by omega)]
      refine ⟨by rw [o 52 (by omega)]; exact hk.2.1.symm, p, p, T, h.par (n' := p) ?_ ?_ (fun a ha => by rw [o2 a (by omega), o a (by omega)]) (fun a a1 a2 a3 a4 a5 => by rw [o2 a a2, o a (by omega)])⟩
      · refine Ca_lo (m := m1) ?_ (fun a ha => o2 a (by omega))
        rw [e8]
        exact bec_Ca rfl rfl (by decide) p8 h.ca
      · have g : JP m1 1 p (mem 52) := by
          rw [e8]
          exact ⟨PR_bec (k := 1) (o := 13) (Or.inr (by decide)) hk.1, by rw [(bec_k mem 1 13 p).2.1]; exact hk.2.1, hk.2.2⟩
        exact (g.rcongr r51).lo (fun a a1 a2 => o2 a (by omega))
set_option maxHeartbeats 1000000 in
theorem jt_tear {mem : Mem} (h : J mem) : CnI mX5_tear [.ref 0] mem (fun x m1 => CnI mX6_tear [.ref 50] m1 (fun y m2 => y = x ∧ J m2)) := by
  obtain ⟨n, p, T, h⟩ := h
  have h5 := h.2.2.2.1
  refine (CnE.toI (c5_tear mem)).mono ?_
  rintro x m1 ⟨rfl, e8⟩
  have o : ∀ a, a ≠ 0 → m1 a = mem a := fun a ha => by rw [e8, up2_ne _ _ _ ha]
  refine (CnE.toI (c6_tear _)).mono ?_
  rintro y m2 ⟨rfl, e9⟩
  have o2 : ∀ a, a ≠ 50 → m2 a = m1 a := fun a ha => by rw [e9, up2_ne _ _ _ ha]
  have r50 : ∀ j, j ≠ 4 → m2 50 j = mem 50 j := fun j hj => by rw [e9, up2_v, if_neg (by omega), o 50 (by omega)]
  obtain ⟨h1, h2, ⟨h3, h4⟩, -, h6, h7, h9⟩ := h
  have z0 : m2 0 7 = 0 := by rw [o2 0 (by omega), e8, up2_v1]
  refine ⟨by rw [o 50 (by omega), h5], n, p, T, ?_, ?_, ⟨⟨rfl, by rw [o2 13 (by omega), o 13 (by omega)]; exact h3.2.1, h3.2.2⟩, fun k => absurd z0 k⟩, by rw [z0, e9, up2_v1], h6.congr (by rw [o2 37 (by omega), o 37 (by omega)]) (by rw [o2 38 (by omega), o 38 (by omega)]) (r50 7 (by decide)) (by rw [o2 56 (by omega), o 56 (by omega)]), h7.congr (fun a a1 a2 => by rw [o2 a (by omega), o a (by omega)]) (by rw [o2 57 (by omega), o 57 (by omega)]) (by rw [o2 58 (by omega), o 58 (by omega)]) (by rw [o2 59 (by omega), o 59 (by omega)]), h9.congr (by rw [o2 49 (by omega), o 49 (by omega)]) (by rw [o2 55 (by omega), o 55 (by omega)])⟩
  · refine Ca_lo (m := m1) ?_ (fun a ha => o2 a (by omega))
    rw [e8]
    exact upR_Ca (by decide) h1
  · rw [o2 51 (by omega), o 51 (by omega)]
    exact h2.lo (fun a a1 a2 => by rw [o2 a (by omega), o a (by omega)])
