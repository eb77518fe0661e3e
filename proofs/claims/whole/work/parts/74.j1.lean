/-! call by call: what only asks -/
theorem jtri {mem : Mem} {n p T : Nat} (h : J2 mem mem n p T) (y : Nat) : PR (tri mem n y) 25 n (yrsR (mem 51) n y) := PR.yrs rfl (PR_bec (k := 25) (o := 1) (Or.inl (by decide)) h.pr) h.jb y
theorem jtriL {mem : Mem} {n p T : Nat} (h : J2 mem mem n p T) (y : Nat) : (lbS (DP (tri mem n y) 25) 1000000 n).1 = lastS (DR (yrsR (mem 51) n y)) n := (jtri h y).last (JB_yrs h.jb y).1
theorem jtriM {mem : Mem} {n p T : Nat} (h : J2 mem mem n p T) (y : Nat) : leanM (tri mem n y) 25 n = leanR (yrsR (mem 51) n y) n (lastS (DR (yrsR (mem 51) n y)) n) := (jtri h y).lnM (JB_yrs h.jb y)
theorem told_j {f : Nat → Int32} {w : Int32} {j : Nat} (hj : j < 5) (h : slotF w = j) : toldF f w = f j := by
  subst h
  unfold toldF slotF
  repeat' split
  all_goals rfl
set_option maxHeartbeats 1000000 in
theorem jt_last {mem : Mem} (h : J mem) : CnI mX5_last [.ref 0] mem (fun x m1 => CnI mX6_last [.ref 50] m1 (fun y m2 => y = x ∧ J m2)) := by
  obtain ⟨n, p, T, h⟩ := h
  refine (c5_last h.po).mono ?_
  rintro x m1 ⟨rfl, q⟩
  have h1 := h.Q (QQ.S (QS.ofS q))
  have e := (QS.ofS q).hi 51 (by omega)
  refine (CnE.toI (c6_last h1.mo)).mono ?_
  rintro y m2 ⟨rfl, rfl⟩
  exact ⟨by rw [DM_R, e]; exact (h.pr.last h.mor).symm, n, p, T, h1.Q (QQ.cd h1.ca)⟩
set_option maxHeartbeats 1000000 in
theorem jt_first {mem : Mem} (h : J mem) : CnI mX5_first [.ref 0] mem (fun x m1 => CnI mX6_first [.ref 50] m1 (fun y m2 => y = x ∧ J m2)) := by
  obtain ⟨n, p, T, h⟩ := h
  refine (c5_first h.po).mono ?_
  rintro x m1 ⟨rfl, q⟩
  have h1 := h.Q (QQ.S (QS.ofS q))
  have e := (QS.ofS q).hi 51 (by omega)
  refine (CnE.toI (c6_first h1.mo)).mono ?_
  rintro y m2 ⟨rfl, rfl⟩
  exact ⟨by rw [DM_R, e]; exact (h.pr.first h.mor).symm, n, p, T, h1.Q (QQ.cd h1.ca)⟩
set_option maxHeartbeats 1000000 in
theorem jt_next {mem : Mem} (h : J mem) : CnI mX5_next [.ref 0] mem (fun x m1 => CnI mX6_next [.ref 50] m1 (fun y m2 => y = x ∧ J m2)) := by
  obtain ⟨n, p, T, h⟩ := h
  refine (c5_next h.po).mono ?_
  rintro x m1 ⟨rfl, q⟩
  have h1 := h.Q (QQ.S (QS.ofS q))
  have e := (QS.ofS q).hi 51 (by omega)
  refine (CnE.toI (c6_next h1.mo)).mono ?_
  rintro y m2 ⟨rfl, rfl⟩
  exact ⟨by rw [DM_R, e]; exact (h.pr.next h.mor).symm, n, p, T, h1.Q (QQ.cd h1.ca)⟩
set_option maxHeartbeats 1000000 in
theorem jt_lean {mem : Mem} (h : J mem) : CnI mX5_lean [.ref 0] mem (fun x m1 => CnI mX6_lean [.ref 50] m1 (fun y m2 => y = x ∧ J m2)) := by
  obtain ⟨n, p, T, h⟩ := h
  refine (c5_lean h.po).mono ?_
  rintro x m1 ⟨rfl, q⟩
  have h1 := h.Q (QQ.S (QS.ofS q))
  have e := (QS.ofS q).hi 51 (by omega)
  refine (CnE.toI (c6_lean h1.mo)).mono ?_
  rintro y m2 ⟨rfl, rfl⟩
  exact ⟨by rw [leanXM_R, DM_R, e]; exact (h.pr.lnM h.jb).symm, n, p, T, h1.Q (QQ.cd h1.ca)⟩
set_option maxHeartbeats 1000000 in
theorem jt_answer {mem : Mem} (h : J mem) (a : Int32) : CnI mX5_answer [.ref 0, .int a] mem (fun x m1 => CnI mX6_answer [.ref 50, .int a] m1 (fun y m2 => y = x ∧ J m2)) := by
  obtain ⟨n, p, T, h⟩ := h
  refine (c5_answer h.po a).mono ?_
  rintro x m1 (⟨c, rfl, rfl⟩ | ⟨c, rfl, q⟩)
  · refine (c6_answer (MO_of h.mo (fnd_hi mem 0 51 (by omega))) a).mono ?_
    rintro y m2 (⟨-, rfl, rfl⟩ | ⟨d, -, -⟩)
    · exact ⟨rfl, h.f0 0 (by decide)⟩
    · exact absurd c d
  · have h1 := h.Q (QQ.S (QS.ofS q))
    have e := (QS.ofS q).hi 51 (by omega)
    refine (c6_answer h1.mo a).mono ?_
    rintro y m2 (⟨d, -, -⟩ | ⟨-, rfl, rfl⟩)
    · exact absurd d c
    · exact ⟨by rw [leanXM_R, DM_R, e, h.pr.lnM h.jb], n, p, T, h1.Q (QQ.cd h1.ca)⟩
set_option maxHeartbeats 1000000 in
theorem jt_now {mem : Mem} (h : J mem) (a : Int32) : CnI mX5_now [.ref 0, .int a] mem (fun x m1 => CnI mX6_now [.ref 50, .int a] m1 (fun y m2 => y = x ∧ J m2)) := by
  obtain ⟨n, p, T, h⟩ := h
  refine (c5_now h.po a).mono ?_
  rintro x m1 (⟨c, rfl, rfl⟩ | ⟨c, rfl, q⟩)
  · refine (c6_now (MO_of h.mo (fnd_hi mem 0 51 (by omega))) a).mono ?_
    rintro y m2 (⟨-, rfl, rfl⟩ | ⟨d, -, -⟩)
    · exact ⟨rfl, h.f0 0 (by decide)⟩
    · obtain ⟨c0, c1, c2, c3, c4, c5⟩ := c
      rcases d with d | d | d | d | d | d <;> contradiction
  · have h1 := h.Q (QQ.S (QS.ofS q))
    have e := (QS.ofS q).hi 51 (by omega)
    refine (c6_now h1.mo a).mono ?_
    rintro y m2 (⟨d, -, -⟩ | ⟨-, rfl, q2⟩)
    · obtain ⟨c0, c1, c2, c3, c4, c5⟩ := d
      rcases c with d | d | d | d | d | d <;> contradiction
    · refine ⟨?_, n, p, T, h1.Q (QQ.M h1.ca q2)⟩
      unfold nowM nowC
      have g : ∀ w : Int32, ∀ j, j < 5 → slotF w = j → sumT (fun i => FM m1 i j) n = sumT (fun i => toldF (mem (4 + i)) w) n := fun w j hj hw => sumT_congr n (fun i hi => by unfold FM; rw [e, told_j hj hw]; exact (h.pr.2.2.2.2.2.1 i j hi hj).symm)
      rw [e, h.2.1.2.1, g 2 2 (by decide) (by decide), g 3 3 (by decide) (by decide), g 1 1 (by decide) (by decide), DM_R, e, mx_congr n h.pr.D]
      rw [bitT_congr n (P := fun i => decide (¬ FM m1 i 4 ≤ 0)) (Q := fun i => decide (¬ mem (4 + i) 4 ≤ 0)) (fun i hi => by unfold FM; rw [e, ← h.pr.2.2.2.2.2.1 i 4 hi (by decide)])]
theorem in60 {y : Nat} (h : y ≤ 60) : ¬ inR (nI y) 0 60 = 0 := by
  have : ∀ y, y < 61 → ¬ inR (nI y) 0 60 = 0 := by decide +kernel
  exact this y (by omega)
set_option maxHeartbeats 1000000 in
theorem jt_holder {mem : Mem} (h : J mem) (a : Int32) : CnI mX5_holder [.ref 0, .int a] mem (fun x m1 => CnI mX6_holder [.ref 50, .int a] m1 (fun y m2 => y = x ∧ J m2)) := by
  obtain ⟨n, p, T, h⟩ := h
  refine (c5_holder h.po a).mono ?_
  rintro x m1 (⟨c, rfl, rfl⟩ | ⟨t, ht, rfl, rfl, q⟩)
  · refine (c6_holder (MO_of h.mo (fnd_hi mem 0 51 (by omega))) a).mono ?_
    rintro y m2 (⟨-, rfl, rfl⟩ | ⟨t, ht, rfl, -, -⟩)
    · exact ⟨rfl, h.f0 0 (by decide)⟩
    · exact absurd c (in60 ht)
  · have h1 := h.Q (QQ.S q)
    have e := q.hi 51 (by omega)
    refine (c6_holder h1.mo (nI t)).mono ?_
    rintro y m2 (⟨d, -, -⟩ | ⟨u, hu, eu, rfl, q2⟩)
    · exact absurd d (in60 ht)
    · rw [← (nI_eq (by omega) (by omega)).mp eu]
      exact ⟨by rw [e, jtriL h], n, p, T, h1.Q (QQ.M h1.ca q2)⟩
set_option maxHeartbeats 1000000 in
theorem jt_leans {mem : Mem} (h : J mem) (a : Int32) : CnI mX5_leans [.ref 0, .int a] mem (fun x m1 => CnI mX6_leans [.ref 50, .int a] m1 (fun y m2 => y = x ∧ J m2)) := by
  obtain ⟨n, p, T, h⟩ := h
  refine (c5_leans h.po a).mono ?_
  rintro x m1 (⟨c, rfl, rfl⟩ | ⟨t, ht, rfl, rfl, q⟩)
  · refine (c6_leans (MO_of h.mo (fnd_hi mem 0 51 (by omega))) a).mono ?_
    rintro y m2 (⟨-, rfl, rfl⟩ | ⟨t, ht, rfl, -, -⟩)
    · exact ⟨rfl, h.f0 0 (by decide)⟩
    · exact absurd c (in60 ht)
  · have h1 := h.Q (QQ.S q)
    have e := q.hi 51 (by omega)
    refine (c6_leans h1.mo (nI t)).mono ?_
    rintro y m2 (⟨d, -, -⟩ | ⟨u, hu, eu, rfl, q2⟩)
    · exact absurd d (in60 ht)
    · rw [← (nI_eq (by omega) (by omega)).mp eu]
      exact ⟨by rw [e, jtriM h], n, p, T, h1.Q (QQ.M h1.ca q2)⟩
set_option maxHeartbeats 1000000 in
theorem jt_ahead {mem : Mem} (h : J mem) (f a b : Int32) : CnI mX5_ahead [.ref 0, .int f, .int a, .int b] mem (fun x m1 => CnI mX6_ahead [.ref 50, .int f, .int a, .int b] m1 (fun y m2 => y = x ∧ J m2)) := by
  obtain ⟨n, p, T, h⟩ := h
  refine (c5_ahead h.po f a b).mono ?_
  rintro x m1 (⟨c, rfl, rfl⟩ | ⟨ca, i, hi, rfl, t, ht, rfl, rfl, q⟩)
  · refine (c6_ahead (MO_of h.mo (fnd_hi mem 0 51 (by omega))) f a b).mono ?_
    rintro y m2 (⟨-, rfl, rfl⟩ | ⟨ca, i, j, hi, -, -, rfl, -, t, ht, rfl, -, -⟩)
    · exact ⟨rfl, h.f0 0 (by decide)⟩
    · rcases c with c | c | c
      · have := hasF_in (n := n) (by have := h.n8; omega) hi
        rw [c] at this
        exact absurd this (by decide)
      · exact absurd c ca
      · exact absurd c (in60 ht)
  · have h1 := h.Q (QQ.S q)
    have e := q.hi 51 (by omega)
    have h8 := h.n8
    refine (c6_ahead h1.mo (nI i) a (nI t)).mono ?_
    rintro y m2 (⟨d, -, -⟩ | ⟨-, i2, j, hi2, j1, j2, ei, rfl, u, hu, eu, rfl, q2⟩)
    · rcases d with d | d | d
      · have := hasF_in (n := n) (by omega) hi
        rw [d] at this
        exact absurd this (by decide)
      · exact absurd d ca
      · exact absurd d (in60 ht)
    · rw [← (nI_eq (by omega) (by omega)).mp eu, ← (nI_eq (by omega) (by omega)).mp ei]
      refine ⟨?_, n, p, T, h1.Q (QQ.M h1.ca q2)⟩
      have sl : ∀ j, j < 5 → slotF (nI j) = j := by decide +kernel
      rw [e, told_j (by omega) (sl j (by omega))]
      exact ((jtri h t).2.2.2.2.2.1 i j hi (by omega)).symm
set_option maxHeartbeats 1000000 in
theorem jt_when {mem : Mem} (h : J mem) (f : Int32) : CnI mX5_when [.ref 0, .int f] mem (fun x m1 => CnI mX6_when [.ref 50, .int f] m1 (fun y m2 => y = x ∧ J m2)) := by
  obtain ⟨n, p, T, h⟩ := h
  refine (c5_when h.po f).mono ?_
  rintro x m1 (⟨c, rfl, rfl⟩ | ⟨c, y, hF, q5⟩)
  · refine (c6_when (MO_of h.mo (fnd_hi mem 0 51 (by omega))) f).mono ?_
    rintro y m2 (⟨-, rfl, rfl⟩ | ⟨d, -⟩)
    · exact ⟨rfl, h.f0 0 (by decide)⟩
    · exact absurd c d
  · have e := q5_hi q5 51 (by omega)
    refine (c6_when (MO_of h.mo e) f).mono ?_
    rintro y2 m2 (⟨d, -, -⟩ | ⟨-, z, hG, q6⟩)
    · exact absurd d c
    · exact fst_fin (hi := 60) (val := nI) h hF hG (fun t _ _ => by rw [e, jtriL h]) q5 q6
set_option maxHeartbeats 1000000 in
theorem jt_tie {mem : Mem} (h : J mem) : CnI mX5_tie [.ref 0] mem (fun x m1 => CnI mX6_tie [.ref 50] m1 (fun y m2 => y = x ∧ J m2)) := by
  obtain ⟨n, p, T, h⟩ := h
  refine (c5_tie h.po).mono ?_
  rintro x m1 ⟨y, hF, q5⟩
  have e := q5_hi q5 51 (by omega)
  refine (c6_tie (MO_of h.mo e)).mono ?_
  rintro y2 m2 ⟨z, hG, q6⟩
  exact fst_fin (hi := 60) (val := nI) h hF hG (fun t _ _ => by rw [e, jtriL h]) q5 q6
set_option maxHeartbeats 1000000 in
theorem jt_turns {mem : Mem} (h : J mem) (f : Int32) : CnI mX5_turns [.ref 0, .int f] mem (fun x m1 => CnI mX6_turns [.ref 50, .int f] m1 (fun y m2 => y = x ∧ J m2)) := by
  obtain ⟨n, p, T, h⟩ := h
  refine (c5_turns h.po f).mono ?_
  rintro x m1 (⟨c, rfl, rfl⟩ | ⟨c, y, hF, q5⟩)
  · refine (c6_turns (MO_of h.mo (fnd_hi mem 0 51 (by omega))) f).mono ?_
    rintro y m2 (⟨-, rfl, rfl⟩ | ⟨d, -⟩)
    · exact ⟨rfl, h.f0 0 (by decide)⟩
    · exact absurd c d
  · have e := q5_hi q5 51 (by omega)
    refine (c6_turns (MO_of h.mo e) f).mono ?_
    rintro y2 m2 (⟨d, -, -⟩ | ⟨-, z, hG, q6⟩)
    · exact absurd d c
    · have hz : 1 ≤ z := by
        rcases Nat.lt_or_ge z 1 with q | q
        · exact absurd rfl (show ¬ ansR (yrsR (m1 51) n 0) n f = ansR (m1 51) n f from by have := hG.2.2.2 (by omega); rw [show z = 0 by omega] at this; exact this)
        · exact q
      have hG1 : Fst (fun z => ¬ ansR (yrsR (m1 51) n z) n f = ansR (m1 51) n f) 1 60 z := ⟨hz, hG.2.1, fun t h1 h2 => hG.2.2.1 t (by omega) h2, hG.2.2.2⟩
      exact fst_fin (hi := 60) (val := nI) h hF hG1 (fun t _ _ => by unfold ansR; rw [e, jtriM h, h.pr.lnM h.jb]) q5 q6
