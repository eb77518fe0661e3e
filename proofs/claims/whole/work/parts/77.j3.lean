/-! call by call: what changes the parish -/
theorem J2.jx {c r : Mem} {n p T : Nat} (h : J2 c r n p T) : JX (r 51) n := h.2.1.2.2
theorem up2_51 (m : Mem) (p : Nat) (v : Int32) : up2 m 51 p v 51 = upd (m 51) p v := up2_same _ _ _ _
theorem nI5 {j : Nat} (h : j < 5) : slotF (nI j) = j := by
  have : ∀ j, j < 5 → slotF (nI j) = j := by decide +kernel
  exact this j h
theorem in10 {y : Nat} (h : y < 10) : ¬ inR (nI y) 0 9 = 0 := by
  have : ∀ y, y < 10 → ¬ inR (nI y) 0 9 = 0 := by decide +kernel
  exact this y h
set_option maxHeartbeats 1000000 in
theorem jt_weather {mem : Mem} (h : J mem) (a v : Int32) : CnI mX5_weather [.ref 0, .int a, .int v] mem (fun x m1 => CnI mX6_weather [.ref 50, .int a, .int v] m1 (fun y m2 => y = x ∧ J m2)) := by
  obtain ⟨n, p, T, h⟩ := h
  refine (c5_weather a v mem).mono ?_
  rintro x m1 (⟨c, rfl, rfl⟩ | ⟨c1, c2, i, hi, rfl, rfl, rfl⟩)
  · refine (c6_weather a v _).mono ?_
    rintro y m2 (⟨-, rfl, rfl⟩ | ⟨d1, d2, -⟩)
    · exact ⟨rfl, h.f0 0 (by decide)⟩
    · rcases c with c | c
      · exact absurd c d1
      · exact absurd c d2
  · refine (c6_weather (nI i) v _).mono ?_
    rintro y m2 (⟨d, -, -⟩ | ⟨-, -, i2, hi2, ei, rfl, rfl⟩)
    · rcases d with d | d
      · exact absurd d c1
      · exact absurd d c2
    · have e3 := (nI_eq (by omega) (by omega)).mp ei
      subst e3
      obtain ⟨k, hk, rfl⟩ := inR_of (N := 99) (by decide) c2
      refine ⟨by rw [up2_ne _ _ _ (by decide)]; exact (h.pr.2.2.2.2.1 i (by omega)).symm, n, p, T, h.par (n' := n) ?_ ?_ (fun a ha => ?_) (fun a h1 h2 h3 h4 h5 => ?_)⟩
      · exact Ca_lo (upR_Ca (by decide) h.ca) (fun a ha => up2_ne _ _ _ (by omega))
      · rw [up2_51, up2_ne _ _ _ (by decide)]
        refine JP.lo (m := up2 mem 2 i (nI k)) ⟨h.pr.wea (k := 1) (by omega) (nI k), ?_, JX_wea h.jx (by omega) hk⟩ (fun a _ _ => up2_ne _ _ _ (by omega))
        rw [up2_ne _ _ _ (by decide), up_o (by omega)]
        exact h.2.1.2.1
      · rw [up2_ne _ _ _ (by omega), up2_ne _ _ _ (by omega)]
      · rw [up2_ne _ _ _ h2, up2_ne _ _ _ (by omega)]
set_option maxHeartbeats 1000000 in
theorem jt_farm {mem : Mem} (h : J mem) (a v : Int32) : CnI mX5_farm [.ref 0, .int a, .int v] mem (fun x m1 => CnI mX6_farm [.ref 50, .int a, .int v] m1 (fun y m2 => y = x ∧ J m2)) := by
  obtain ⟨n, p, T, h⟩ := h
  refine (c5_farm h.pn a v).mono ?_
  have h8 := h.n8
  rintro x m1 (⟨c, rfl, rfl⟩ | ⟨c1, c2, c3, rfl, rfl⟩ | ⟨c1, c2, c3, rfl, rfl⟩)
  · refine (c6_farm (n := n) (by rw [fnd_hi _ _ _ (by omega)]; exact h.mor.1) h8 a v).mono ?_
    rintro y m2 (⟨-, rfl, rfl⟩ | ⟨d1, d2, -⟩ | ⟨d1, d2, -⟩)
    · exact ⟨rfl, h.f0 0 (by decide)⟩
    · rcases c with c | c
      · exact absurd c d1
      · exact absurd c d2
    · rcases c with c | c
      · exact absurd c d1
      · exact absurd c d2
  · refine (c6_farm (n := n) (by rw [fnd_hi _ _ _ (by omega)]; exact h.mor.1) h8 a v).mono ?_
    rintro y m2 (⟨d, -, -⟩ | ⟨-, -, -, rfl, rfl⟩ | ⟨-, -, d, -⟩)
    · rcases d with d | d
      · exact absurd d c1
      · exact absurd d c2
    · exact ⟨rfl, h.f0 1 (by decide)⟩
    · omega
  · obtain ⟨m1, hm⟩ : ∃ m1, m1 = up2 (upR mem (4 + n) (beginF (mem (4 + n)) a v)) 1 3 (nI (n + 1)) := ⟨_, rfl⟩
    rw [← hm]
    have o : ∀ b, b ≠ 1 → b ≠ 4 + n → m1 b = mem b := fun b h1 h2 => by rw [hm, up2_ne _ _ _ h1, upR_ne _ _ h2]
    refine (c6_farm (n := n) (by rw [o _ (by omega) (by omega)]; exact h.mor.1) h8 a v).mono ?_
    rintro y m2 (⟨d, -, -⟩ | ⟨-, -, d, -⟩ | ⟨-, -, -, rfl, rfl⟩)
    · rcases d with d | d
      · exact absurd d c1
      · exact absurd d c2
    · omega
    · obtain ⟨k, hk, rfl⟩ := inR_of (N := 6) (by decide) c1
      obtain ⟨t, ht, rfl⟩ := inR_of (N := 999) (by decide) c2
      have o2 : ∀ b, b ≠ 51 → comM m1 n (nI k) (nI t) b = m1 b := fun b hb => by unfold comM; rw [up2_ne _ _ _ hb, up2_ne _ _ _ hb, up2_ne _ _ _ hb, up2_ne _ _ _ hb, up2_ne _ _ _ hb, up2_ne _ _ _ hb]
      have e51 : comM m1 n (nI k) (nI t) 51 = comR (mem 51) n (nI k) (nI t) := by
        unfold comM comR
        rw [up2_51, up2_51, up2_51, up2_51, up2_51, up2_51, o _ (by omega) (by omega)]
      have hCa : CaOK m1 := by
        rw [hm]
        refine upR_Ca (by decide) ?_
        intro b hb
        by_cases e : b = 4 + n
        · subst e
          left
          rw [upR_same]
          simp [beginF, upd]
        · rw [upR_ne _ _ e]
          exact h.ca b hb
      refine ⟨rfl, n + 1, p, T, h.par (n' := n + 1) (Ca_lo hCa (fun b hb => o2 b (by omega))) ?_ (fun b hb => ?_) (fun b h1 h2 h3 h4 h5 => ?_)⟩
      · rw [e51]
        refine JP.lo (m := m1) ⟨?_, ?_, JX_com h.jx c3 (by omega) ht⟩ (fun b _ _ => o2 b (by omega))
        · rw [hm]
          exact h.pr.add (k := 1) c3 (nI k) (nI t)
        · rw [hm, up2_v, if_neg (by omega), upR_ne _ _ (by omega), comR_o (by omega) (by omega)]
          exact h.2.1.2.1
      · rw [o2 b (by omega), o b (by omega) (by omega)]
      · rw [o2 b h2, o b (by omega) (by omega)]
set_option maxHeartbeats 1000000 in
theorem jt_of {mem : Mem} (h : J mem) (f a : Int32) : CnI mX5_of [.ref 0, .int f, .int a] mem (fun x m1 => CnI mX6_of [.ref 50, .int f, .int a] m1 (fun y m2 => y = x ∧ J m2)) := by
  obtain ⟨n, p, T, h⟩ := h
  refine (c5_of h.po f a).mono ?_
  have h8 := h.n8
  rintro x m1 (⟨c, rfl, rfl⟩ | ⟨c, i, hi, rfl, rfl, q⟩)
  · refine (c6_of (MO_of h.mo (fnd_hi mem 0 51 (by omega))) f a).mono ?_
    rintro y m2 (⟨-, rfl, rfl⟩ | ⟨d, i, j, hi, -, rfl, -⟩)
    · exact ⟨rfl, h.f0 0 (by decide)⟩
    · rcases c with c | c
      · exact absurd c (no_in h8 hi)
      · exact absurd c d
  · have h1 := h.Q (QQ.S (QS.ofS q))
    have e := (QS.ofS q).hi 51 (by omega)
    refine (c6_of h1.mo (nI i) a).mono ?_
    rintro y m2 (⟨d, -, -⟩ | ⟨-, i2, j, hi2, hj, ei, rfl, rfl, e9⟩)
    · rcases d with d | d
      · exact absurd d (no_in h8 hi)
      · exact absurd d c
    · have e3 := (nI_eq (by omega) (by omega)).mp ei
      subst e3
      refine ⟨?_, n, p, T, by rw [e9]; exact h1⟩
      have g : ∀ j, j < 5 → FM m1 i j = mem (4 + i) j := fun j hj => by unfold FM; rw [e]; exact (h.pr.2.2.2.2.2.1 i j hi hj).symm
      have gw : m1 51 3 = mem 2 0 := by rw [e]; exact (h.pr.2.2.2.2.1 0 (by omega)).symm
      have gD : DM m1 i = DP mem 1 i := by rw [DM_R, e, h.pr.D i hi]
      unfold ofM ofC
      rw [g 0 (by omega), g 2 (by omega), g 1 (by omega), g 4 (by omega), gw, gD]
      match j, hj with
      | 0, _ => exact (g 0 (by omega)).trans (told_j (by omega) (nI5 (j := 0) (by omega))).symm
      | 1, _ => exact (g 1 (by omega)).trans (told_j (by omega) (nI5 (j := 1) (by omega))).symm
      | 2, _ => exact (g 2 (by omega)).trans (told_j (by omega) (nI5 (j := 2) (by omega))).symm
      | 3, _ => exact (g 3 (by omega)).trans (told_j (by omega) (nI5 (j := 3) (by omega))).symm
      | 4, _ => exact (g 4 (by omega)).trans (told_j (by omega) (nI5 (j := 4) (by omega))).symm
      | 5, _ => rfl
      | 6, _ => rfl
      | 7, _ => rfl
theorem alt_PR {m : Mem} {k n i j : Nat} {r : Nat → Int32} {a v : Int32} (h : PR m k n r) (hi : i < n) (hj : j < 5) (ha : slotF a = j) : PR (alterF m (k + 3 + i) a v) k n (upd r (6 + 5 * i + j) v) := by
  have h8 := h.2.2.1
  unfold alterF
  rw [ha]
  exact (h.put hi hj v).congr (by rw [up2_ne _ _ _ (by omega)]) (by rw [up2_ne _ _ _ (by omega)]) (fun q _ => by rw [up2_ne _ _ _ (by omega)]) (fun p q _ hq => by rw [up2_v, if_neg (by omega)]) (fun q _ => by rw [up2_ne _ _ _ (by omega)])
theorem alt_o {m : Mem} {c b : Nat} {a v : Int32} (h : b ≠ c) : alterF m c a v b = m b := by unfold alterF; rw [up2_ne _ _ _ h, up2_ne _ _ _ h]
theorem alt_JP {m : Mem} {n i j : Nat} {r : Nat → Int32} {a v : Int32} (h : JP m 1 n r) (hi : i < n) (hj : j ≤ 4) (ha : a = nI j) (hf : ¬ fitI a v = 0) : JP (alterF m (4 + i) a v) 1 n (upd r (6 + 5 * i + j) v) := by
  have h8 := h.1.2.2.1
  subst ha
  refine ⟨alt_PR (k := 1) h.1 hi (by omega) (nI5 (by omega)), ?_, JX_chg h.2.2 hi hj hf⟩
  rw [alt_o (by omega), up_o (by omega)]
  exact h.2.1
set_option maxHeartbeats 1000000 in
theorem jt_change {mem : Mem} (h : J mem) (f a v : Int32) : CnI mX5_change [.ref 0, .int f, .int a, .int v] mem (fun x m1 => CnI mX6_change [.ref 50, .int f, .int a, .int v] m1 (fun y m2 => y = x ∧ J m2)) := by
  obtain ⟨n, p, T, h⟩ := h
  refine (c5_change h.po f a v).mono ?_
  have h8 := h.n8
  rintro x m1 (⟨c, rfl, rfl⟩ | ⟨c, i, hi, rfl, rfl, rfl⟩)
  · refine (c6_change (MO_of h.mo (fnd_hi mem 0 51 (by omega))) f a v).mono ?_
    rw [may_fit] at c
    rintro y m2 (⟨-, rfl, rfl⟩ | ⟨d, i, j, hi, -, rfl, -⟩)
    · exact ⟨rfl, h.f0 0 (by decide)⟩
    · rcases c with c | c
      · exact absurd c (no_in h8 hi)
      · exact absurd c d
  · rw [may_fit] at c
    have o : ∀ b, b ≠ 4 + i → alterF mem (4 + i) a v b = mem b := fun b hb => alt_o hb
    refine (c6_change (MO_of h.mo (o 51 (by omega))) (nI i) a v).mono ?_
    rintro y m2 (⟨d, -, -⟩ | ⟨-, i2, j, hi2, hj, ei, rfl, rfl, rfl⟩)
    · rcases d with d | d
      · exact absurd d (no_in h8 hi)
      · exact absurd d c
    · have e3 := (nI_eq (by omega) (by omega)).mp ei
      subst e3
      refine ⟨?_, n, p, T, h.par (n' := n) ?_ ?_ (fun b hb => ?_) (fun b h1 h2 h3 h4 h5 => ?_)⟩
      · unfold FM
        rw [o 51 (by omega), told_j (by omega) (nI5 (j := j) (by omega))]
        exact (h.pr.2.2.2.2.2.1 i j hi (by omega)).symm
      · exact Ca_lo (alt_Ca _ _ h.ca) (fun b hb => up2_ne _ _ _ (by omega))
      · rw [up2_51, o 51 (by omega)]
        exact JP.lo (alt_JP h.2.1 hi hj rfl c) (fun b _ _ => up2_ne _ _ _ (by omega))
      · rw [up2_ne _ _ _ (by omega), o b (by omega)]
      · rw [up2_ne _ _ _ h2, o b (by omega)]
set_option maxHeartbeats 1000000 in
theorem jt_left {mem : Mem} (h : J mem) (f a : Int32) : CnI mX5_left [.ref 0, .int f, .int a] mem (fun x m1 => CnI mX6_left [.ref 50, .int f, .int a] m1 (fun y m2 => y = x ∧ J m2)) := by
  obtain ⟨n, p, T, h⟩ := h
  refine (c5_left h.po f a).mono ?_
  have h8 := h.n8
  rintro x m1 (⟨c, rfl, rfl⟩ | ⟨c, i, hi, rfl, rfl, e8⟩)
  · refine (c6_left (MO_of h.mo (fnd_hi mem 0 51 (by omega))) f a).mono ?_
    rintro y m2 (⟨-, rfl, rfl⟩ | ⟨d, i, j, hi, -, rfl, -⟩)
    · exact ⟨rfl, h.f0 0 (by decide)⟩
    · rcases c with c | c
      · exact absurd c (no_in h8 hi)
      · exact absurd c d
  · rw [e8]
    refine (c6_left h.mo (nI i) a).mono ?_
    rintro y m2 (⟨d, -, -⟩ | ⟨-, i2, j, hi2, hj, ei, rfl, rfl, e9⟩)
    · rcases d with d | d
      · exact absurd d (no_in h8 hi)
      · exact absurd d c
    · have e3 := (nI_eq (by omega) (by omega)).mp ei
      subst e3
      refine ⟨?_, n, p, T, by rw [e9]; exact h⟩
      obtain ⟨w, hw, ew⟩ := h.mor.2.2.1
      obtain ⟨-, ⟨t, ht, et⟩, ⟨q, q1, q2, eq⟩, -, -⟩ := h.mor.2.2.2 i hi
      have g : ∀ j, j < 5 → mem (4 + i) j = FM mem i j := fun j hj => h.pr.2.2.2.2.2.1 i j hi hj
      rw [g 0 (by omega), g 1 (by omega), g 2 (by omega), show mem 2 0 = mem 51 3 from h.pr.2.2.2.2.1 0 (by omega), show FM mem i 1 = nI t from et]
      exact (left_eq eq ew q1 q2 hw ht hj).symm
theorem go_bd {Y y : Nat} (hY : Y ≤ 99999) (hy : y ≤ 1000) : nI Y + nI y ≤ 99999 ↔ Y + y ≤ 99999 := by
  rw [nI_add]
  exact nI_leI (a := Y + y) (b := 99999) (by omega) (by omega)
theorem yr_y {m : Mem} {n Y : Nat} {r : Nat → Int32} (e1 : m 1 4 = nI Y) (e2 : r 1 = nI Y) : ∀ y, Y + y ≤ 99999 → yrs m 1 n y 1 4 = nI (Y + y) ∧ yrsR r n y 1 = nI (Y + y)
  | 0, _ => ⟨e1, e2⟩
  | y + 1, h => by
    obtain ⟨a, b⟩ := yr_y e1 e2 y (by omega)
    refine ⟨?_, ?_⟩
    · rw [yrs]
      unfold yearMem
      rw [upR_same, up_s, a, nI_1, show (99999 : Int32) = nI 99999 from rfl, minI_N (by omega) (by omega), show min 99999 (Y + y + 1) = Y + (y + 1) by omega]
    · rw [yrsR]
      unfold yearR
      rw [up_s, b, nI_1]
      rfl
theorem yrsR_sp {r : Nat → Int32} {n : Nat} (hn : n ≤ 8) {j : Nat} (hj : 46 ≤ j) : ∀ y, yrsR r n y j = r j
  | 0 => rfl
  | y + 1 => by rw [yrsR, yearR_at (by omega) (by omega)]; exact yrsR_sp hn hj y
theorem go_JP {m : Mem} {n Y y : Nat} {r : Nat → Int32} (h : JP m 1 n r) (e2 : r 1 = nI Y) (hy : Y + y ≤ 99999) : JP (yrs m 1 n y) 1 n (yrsR r n y) := by
  have h8 := h.1.2.2.1
  obtain ⟨a, b⟩ := yr_y (m := m) (n := n) (r := r) (h.2.1.trans e2) e2 y hy
  exact ⟨PR.yrs rfl h.1 h.2.2.1 y, by rw [a, b], JB_yrs h.2.2.1 y, ⟨Y + y, hy, b⟩, fun i hi => by rw [yrsR_sp h8 (by omega)]; exact h.2.2.2.2 i hi⟩
theorem JP.same {c c' : Mem} {n : Nat} {r : Nat → Int32} (h : JP c 1 n r) (s : Same c c') : JP c' 1 n r := h.ccongr rfl (fun a _ _ => ⟨eqC_of s.1 a, fun k => s.row k⟩)
theorem in1_60 {y : Nat} (h1 : 1 ≤ y) (h : y ≤ 60) : ¬ inR (nI y) 1 60 = 0 := by
  have : ∀ y, y < 61 → 1 ≤ y → ¬ inR (nI y) 1 60 = 0 := by decide +kernel
  exact this y (by omega) h1
theorem in1_20 {y : Nat} (h1 : 1 ≤ y) (h : y ≤ 20) : ¬ inR (nI y) 1 20 = 0 := by
  have : ∀ y, y < 21 → 1 ≤ y → ¬ inR (nI y) 1 20 = 0 := by decide +kernel
  exact this y (by omega) h1
theorem J2.par2 {c r m1 m2 : Mem} {n n' p T : Nat} {M : Mem} (h : J2 c r n p T) (hM : CaOK M) (s : Same M m1) (o : ∀ b, (b < 1 ∨ 13 ≤ b) → M b = c b) (lo : ∀ a, a < 50 → m2 a = m1 a) (hp : JP M 1 n' (m2 51)) (er : ∀ a, 50 ≤ a → a ≠ 51 → a ≠ 54 → a ≠ 60 → a ≠ 61 → m2 a = r a) : J2 m2 m2 n' p T := by
  have h1 : J2 M m2 n' p T := h.par hM hp (fun a ha => o a (by omega)) er
  refine h1.C ⟨Ca_lo s.2 lo, fun a ha => ?_⟩
  rw [lo a (by omega)]
  exact ⟨eqC_of s.1 a, fun k => s.row k⟩
set_option maxHeartbeats 1000000 in
theorem jt_go {mem : Mem} (h : J mem) (a : Int32) : CnI mX5_go [.ref 0, .int a] mem (fun x m1 => CnI mX6_go [.ref 50, .int a] m1 (fun y m2 => y = x ∧ J m2)) := by
  obtain ⟨n, p, T, h⟩ := h
  refine (c5_go h.po a).mono ?_
  have h8 := h.n8
  obtain ⟨Y, hY, eY⟩ := h.jx.2.1
  have e4 : mem 1 4 = mem 51 1 := h.2.1.2.1
  rintro x m1 (⟨c, rfl, rfl⟩ | ⟨c1, c2, rfl, rfl⟩ | ⟨y, y1, y2, rfl, c, rfl, q⟩)
  · refine (c6_go (MO_of h.mo (fnd_hi mem 0 51 (by omega))) a).mono ?_
    rintro y m2 (⟨-, rfl, rfl⟩ | ⟨d, -⟩ | ⟨y, y1, y2, rfl, -⟩)
    · exact ⟨rfl, h.f0 0 (by decide)⟩
    · exact absurd c d
    · exact absurd c (in1_60 y1 y2)
  · refine (c6_go (MO_of h.mo (fnd_hi mem 4 51 (by omega))) a).mono ?_
    rw [fnd_hi mem 4 51 (by omega), ← e4]
    rintro y m2 (⟨d, -, -⟩ | ⟨-, -, rfl, rfl⟩ | ⟨y, y1, y2, rfl, d, -⟩)
    · exact absurd d c1
    · exact ⟨rfl, h.f0 4 (by decide)⟩
    · exact absurd d c2
  · have hb : Y + y ≤ 99999 := by
      rw [e4, eY] at c
      exact (go_bd hY (by omega)).mp c
    have o : ∀ b, (b < 1 ∨ 13 ≤ b) → yrs mem 1 n y b = mem b := fun b hb => yrs_o mem (by omega) h8 y
    have o1 : ∀ b, (b < 1 ∨ 13 ≤ b) → kd b ≠ 0 → m1 b = mem b := fun b hb hk => by rw [q.row hk, o b hb]
    have e51 := o1 51 (by omega) (by decide)
    refine (c6_go (MO_of h.mo e51) (nI y)).mono ?_
    rw [e51]
    rintro y2' m2 (⟨d, -, -⟩ | ⟨-, d, -⟩ | ⟨z, z1, z2, ez, -, rfl, q2⟩)
    · exact absurd d (in1_60 y1 y2)
    · rw [← e4] at d
      exact absurd c d
    · have e3 := (nI_eq (by omega) (by omega)).mp ez
      subst e3
      have hp := go_JP h.2.1 eY hb
      refine ⟨(hp.1.lnM hp.2.2.1).symm, n, p, T, h.par2 (M := yrs mem 1 n y) (PO_yrs h.po y).2.2.2.2 q o (fun b hb => q2.2 b (by omega) (by omega)) ?_ (fun b h1 h2 h3 h4 h5 => ?_)⟩
      · rw [q2.1]
        exact hp
      · rw [q2.2 b h2 h4]
        exact o1 b (by omega) (kd_hi b h1)
theorem wdr_PR {m : Mem} {n : Nat} {r : Nat → Int32} (h : PR m 1 n r) : PR (wdr m) 1 n (wdrR r) := by
  have e5 : m 1 5 = r 2 := h.2.2.2.1
  have u : ∀ j, j ≠ 2 → j ≠ 3 → j ≠ 5 → wdrR r j = r j := fun j h2 h3 h5 => by unfold wdrR; rw [up_o h5, up_o h2, up_o h3, up_o h2]
  have o : ∀ b, b ≠ 1 → b ≠ 2 → wdr m b = m b := fun b h1 h2 => by unfold wdr; rw [up2_ne _ _ _ h2, up2_ne _ _ _ h1, up2_ne _ _ _ h2, up2_ne _ _ _ h1]
  refine ⟨by rw [u _ (by omega) (by omega) (by omega)]; exact h.1, ?_, h.2.2.1, ?_, fun j hj => ?_, fun i j hi hj => ?_, fun j hj => ?_⟩
  · unfold wdr
    rw [up2_ne _ _ _ (by decide), up2_v, if_neg (by omega), up2_ne _ _ _ (by decide), up2_v, if_neg (by omega)]
    exact h.2.1
  · unfold wdr wdrR
    rw [up2_ne _ _ _ (by decide), up2_v1, up_o (by decide), up_s, e5]
  · match j, hj with
    | 0, _ =>
      unfold wdr wdrR
      rw [up2_v, if_neg (by omega), up2_ne _ _ _ (by decide), up2_v1, up_o (by decide), up_o (by decide), up_s, e5]
    | 1, _ =>
      rw [u _ (by omega) (by omega) (by omega)]
      unfold wdr
      rw [up2_v, if_neg (by omega), up2_ne _ _ _ (by decide), up2_v, if_neg (by omega), up2_ne _ _ _ (by decide)]
      exact h.2.2.2.2.1 1 (by omega)
    | 2, _ =>
      unfold wdr wdrR
      rw [up2_v1, up_s, e5]
  · rw [o _ (by omega) (by omega), u _ (by omega) (by omega) (by omega)]
    exact h.2.2.2.2.2.1 i j hi hj
  · rw [o _ (by omega) (by omega), u _ (by omega) (by omega) (by omega)]
    exact h.2.2.2.2.2.2 j hj
theorem wdr_JP {m : Mem} {n : Nat} {r : Nat → Int32} (h : JP m 1 n r) : JP (wdr m) 1 n (wdrR r) := by
  have u : ∀ j, j ≠ 2 → j ≠ 3 → j ≠ 5 → wdrR r j = r j := fun j h2 h3 h5 => by unfold wdrR; rw [up_o h5, up_o h2, up_o h3, up_o h2]
  obtain ⟨mi, hm, em⟩ := h.2.2.1.2
  obtain ⟨y, hy, ey⟩ := h.2.2.2.1
  refine ⟨wdr_PR h.1, ?_, ⟨MOR_wdr h.2.2.1.1, mi, hm, by rw [u _ (by omega) (by omega) (by omega)]; exact em⟩, ⟨y, hy, by rw [u _ (by omega) (by omega) (by omega)]; exact ey⟩, fun i hi => by rw [u _ (by omega) (by omega) (by omega)]; exact h.2.2.2.2 i hi⟩
  rw [u _ (by omega) (by omega) (by omega)]
  unfold wdr
  rw [up2_ne _ _ _ (by decide), up2_v, if_neg (by omega), up2_ne _ _ _ (by decide), up2_v, if_neg (by omega)]
  exact h.2.1
theorem wth_JP {m : Mem} {n Y : Nat} {r : Nat → Int32} (h : JP m 1 n r) (e2 : r 1 = nI Y) : ∀ y, Y + y ≤ 99999 → JP (wths m n y) 1 n (wthR r n y) ∧ wthR r n y 1 = nI (Y + y)
  | 0, _ => ⟨h, e2⟩
  | y + 1, hy => by
    obtain ⟨a, b⟩ := wth_JP h e2 y (by omega)
    have c := wdr_JP a
    have d : wdrR (wthR r n y) 1 = nI (Y + y) := by unfold wdrR; rw [up_o (by decide), up_o (by decide), up_o (by decide), up_o (by decide)]; exact b
    have g := go_JP (y := 1) c d (by omega)
    have g2 := (yr_y (n := n) (c.2.1.trans d) d 1 (by omega)).2
    exact ⟨g, g2⟩
theorem wths_o (m : Mem) {n b : Nat} (hn : n ≤ 8) (h : b < 1 ∨ 13 ≤ b) : ∀ y, wths m n y b = m b
  | 0 => rfl
  | y + 1 => by
    rw [wths, yearMem_o _ (by omega) (by omega)]
    unfold wdr
    rw [up2_ne _ _ _ (by omega), up2_ne _ _ _ (by omega), up2_ne _ _ _ (by omega), up2_ne _ _ _ (by omega)]
    exact wths_o m hn h y
set_option maxHeartbeats 1000000 in
theorem jt_weathers {mem : Mem} (h : J mem) (a : Int32) : CnI mX5_weathers [.ref 0, .int a] mem (fun x m1 => CnI mX6_weathers [.ref 50, .int a] m1 (fun y m2 => y = x ∧ J m2)) := by
  obtain ⟨n, p, T, h⟩ := h
  refine (c5_weathers h.po a).mono ?_
  have h8 := h.n8
  obtain ⟨Y, hY, eY⟩ := h.jx.2.1
  have e4 : mem 1 4 = mem 51 1 := h.2.1.2.1
  rintro x m1 (⟨c, rfl, rfl⟩ | ⟨c1, c2, rfl, rfl⟩ | ⟨y, y1, y2, rfl, c, rfl, q⟩)
  · refine (c6_weathers (MO_of h.mo (fnd_hi mem 0 51 (by omega))) a).mono ?_
    rintro y m2 (⟨-, rfl, rfl⟩ | ⟨d, -⟩ | ⟨y, y1, y2, rfl, -⟩)
    · exact ⟨rfl, h.f0 0 (by decide)⟩
    · exact absurd c d
    · exact absurd c (in1_20 y1 y2)
  · refine (c6_weathers (MO_of h.mo (fnd_hi mem 4 51 (by omega))) a).mono ?_
    rw [fnd_hi mem 4 51 (by omega), ← e4]
    rintro y m2 (⟨d, -, -⟩ | ⟨-, -, rfl, rfl⟩ | ⟨y, y1, y2, rfl, d, -⟩)
    · exact absurd d c1
    · exact ⟨rfl, h.f0 4 (by decide)⟩
    · exact absurd d c2
  · have hb : Y + y ≤ 99999 := by
      rw [e4, eY] at c
      exact (go_bd hY (by omega)).mp c
    have o : ∀ b, (b < 1 ∨ 13 ≤ b) → wths mem n y b = mem b := fun b hb => wths_o mem h8 hb y
    have o1 : ∀ b, (b < 1 ∨ 13 ≤ b) → kd b ≠ 0 → m1 b = mem b := fun b hb hk => by rw [q.row hk, o b hb]
    have e51 := o1 51 (by omega) (by decide)
    refine (c6_weathers (MO_of h.mo e51) (nI y)).mono ?_
    rw [e51]
    rintro y2' m2 (⟨d, -, -⟩ | ⟨-, d, -⟩ | ⟨z, z1, z2, ez, -, rfl, q2⟩)
    · exact absurd d (in1_20 y1 y2)
    · rw [← e4] at d
      exact absurd c d
    · have e3 := (nI_eq (by omega) (by omega)).mp ez
      subst e3
      have hp := (wth_JP h.2.1 eY y hb).1
      refine ⟨(hp.1.lnM hp.2.2.1).symm, n, p, T, h.par2 (M := wths mem n y) (PO_wths h.po y).2.2.2.2 q o (fun b hb => q2.2 b (by omega) (by omega)) ?_ (fun b h1 h2 h3 h4 h5 => ?_)⟩
      · rw [q2.1]
        exact hp
      · rw [q2.2 b h2 h4]
        exact o1 b (by omega) (kd_hi b h1)
set_option maxHeartbeats 1000000 in
theorem jt_seed {mem : Mem} (h : J mem) (v : Int32) : CnI mX5_seed [.ref 0, .int v] mem (fun x m1 => CnI mX6_seed [.ref 50, .int v] m1 (fun y m2 => y = x ∧ J m2)) := by
  obtain ⟨n, p, T, h⟩ := h
  refine (CnE.toI (c5_seed v mem)).mono ?_
  rintro x m1 ⟨rfl, rfl⟩
  refine (CnE.toI (c6_seed v _)).mono ?_
  rintro y m2 ⟨rfl, rfl⟩
  have u : ∀ j, j ≠ 2 → upd (mem 51) 2 v j = mem 51 j := fun j hj => up_o hj
  refine ⟨by rw [up2_ne _ _ _ (by decide)]; exact h.pr.2.2.2.1.symm, n, p, T, h.par (n' := n) (Ca_lo (upR_Ca (by decide) h.ca) (fun b hb => up2_ne _ _ _ (by omega))) ?_ (fun b hb => ?_) (fun b h1 h2 h3 h4 h5 => ?_)⟩
  · rw [up2_51, up2_ne _ _ _ (by decide)]
    obtain ⟨⟨⟨a1, a2, ⟨w, hw, ew⟩, a4⟩, ⟨mi, hm, em⟩⟩, ⟨y, hy, ey⟩, hs⟩ := h.jx
    have g : JP (up2 mem 1 5 v) 1 n (upd (mem 51) 2 v) := by
      refine ⟨⟨by rw [u _ (by omega)]; exact h.pr.1, by rw [up2_v, if_neg (by omega)]; exact h.pr.2.1, h.n8, by rw [up2_v1, up_s], fun j hj => by rw [up2_ne _ _ _ (by decide), u _ (by omega)]; exact h.pr.2.2.2.2.1 j hj, fun i j hi hj => by rw [up2_ne _ _ _ (by omega), u _ (by omega)]; exact h.pr.2.2.2.2.2.1 i j hi hj, fun j hj => by rw [up2_ne _ _ _ (by decide), u _ (by omega)]; exact h.pr.2.2.2.2.2.2 j hj⟩, by rw [up2_v, if_neg (by omega), u _ (by omega)]; exact h.2.1.2.1, ⟨⟨by rw [u _ (by omega)]; exact a1, a2, ⟨w, hw, by rw [u _ (by omega)]; exact ew⟩, fun i hi => FB_congr (fun j hj => u _ (by omega)) (a4 i hi)⟩, mi, hm, by rw [u _ (by omega)]; exact em⟩, ⟨y, hy, by rw [u _ (by omega)]; exact ey⟩, fun i hi => by rw [u _ (by omega)]; exact hs i hi⟩
    exact JP.lo g (fun b _ _ => up2_ne _ _ _ (by omega))
  · rw [up2_ne _ _ _ (by omega), up2_ne _ _ _ (by omega)]
  · rw [up2_ne _ _ _ h2, up2_ne _ _ _ (by omega)]
set_option maxHeartbeats 1000000 in
theorem jt_hold {mem : Mem} (h : J mem) (a f : Int32) : CnI mX5_hold [.ref 0, .int a, .int f] mem (fun x m1 => CnI mX6_hold [.ref 50, .int a, .int f] m1 (fun y m2 => y = x ∧ J m2)) := by
  obtain ⟨n, p, T, h⟩ := h
  refine (c5_hold h.pn a f).mono ?_
  have h8 := h.n8
  rintro x m1 (⟨c, rfl, rfl⟩ | ⟨i, hi, rfl, c, rfl, rfl⟩)
  · refine (c6_hold (n := n) (by rw [fnd_hi _ _ _ (by omega)]; exact h.mor.1) h8 a f).mono ?_
    rintro y m2 (⟨-, rfl, rfl⟩ | ⟨i, hi, rfl, d, -⟩)
    · exact ⟨rfl, h.f0 0 (by decide)⟩
    · rcases c with c | ⟨c1, c2⟩
      · exact absurd c (in10 hi)
      · rcases d with d | d
        · exact absurd d c1
        · exact absurd c2 d
  · refine (c6_hold (n := n) (by rw [up2_ne _ _ _ (by decide)]; exact h.mor.1) h8 (nI i) f).mono ?_
    rintro y m2 (⟨d, -, -⟩ | ⟨i2, hi2, ei, -, rfl, rfl⟩)
    · rcases d with d | ⟨d1, d2⟩
      · exact absurd d (in10 hi)
      · rcases c with c | c
        · exact absurd c d1
        · exact absurd d2 c
    · have e3 := (nI_eq (by omega) (by omega)).mp ei
      subst e3
      have u : ∀ j, j ≠ 46 + i → upd (mem 51) (46 + i) f j = mem 51 j := fun j hj => up_o hj
      have o : ∀ b, b ≠ 12 → up2 mem 12 i f b = mem b := fun b hb => up2_ne _ _ _ hb
      refine ⟨rfl, n, p, T, h.par (n' := n) (Ca_lo (upR_Ca (k := 12) (by decide) h.ca) (fun b hb => up2_ne _ _ _ (by omega))) ?_ (fun b hb => ?_) (fun b h1 h2 h3 h4 h5 => ?_)⟩
      · rw [up2_51, o _ (by decide)]
        obtain ⟨⟨⟨a1, a2, ⟨w, hw, ew⟩, a4⟩, ⟨mi, hm, em⟩⟩, ⟨y, hy, ey⟩, hs⟩ := h.jx
        have g : JP (up2 mem 12 i f) 1 n (upd (mem 51) (46 + i) f) := by
          refine ⟨⟨by rw [u _ (by omega)]; exact h.pr.1, by rw [o _ (by decide)]; exact h.pr.2.1, h8, by rw [o _ (by decide), u _ (by omega)]; exact h.pr.2.2.2.1, fun j hj => by rw [o _ (by decide), u _ (by omega)]; exact h.pr.2.2.2.2.1 j hj, fun i j hi hj => by rw [o _ (by omega), u _ (by omega)]; exact h.pr.2.2.2.2.2.1 i j hi hj, fun j hj => ?_⟩, by rw [o _ (by decide), u _ (by omega)]; exact h.2.1.2.1, ⟨⟨by rw [u _ (by omega)]; exact a1, a2, ⟨w, hw, by rw [u _ (by omega)]; exact ew⟩, fun i hi => FB_congr (fun j hj => u _ (by omega)) (a4 i hi)⟩, mi, hm, by rw [u _ (by omega)]; exact em⟩, ⟨y, hy, by rw [u _ (by omega)]; exact ey⟩, fun j hj => ?_⟩
          · by_cases e : j = i
            · subst e
              rw [up2_v1, up_s]
            · rw [up2_v, if_neg (by omega), u _ (by omega)]
              exact h.pr.2.2.2.2.2.2 j hj
          · by_cases e : j = i
            · subst e
              rw [up_s]
              rcases c with c | c
              · exact Or.inl c
              · obtain ⟨q, q1, q2⟩ := hasF_of (n := n) (by omega) c
                exact Or.inr ⟨q, q1, q2⟩
            · rw [u _ (by omega)]
              exact hs j hj
        exact JP.lo g (fun b _ _ => up2_ne _ _ _ (by omega))
      · rw [up2_ne _ _ _ (by omega), o _ (by omega)]
      · rw [up2_ne _ _ _ h2, o _ (by omega)]
