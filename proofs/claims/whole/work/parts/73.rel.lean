/-! what class and reference have in common -/
def JP (c : Mem) (k n : Nat) (r : Nat → Int32) : Prop := PR c k n r ∧ c k 4 = r 1 ∧ JB r n ∧ (∃ y, y ≤ 99999 ∧ r 1 = nI y) ∧ ∀ i, i < 10 → r (46 + i) = -1 ∨ ∃ q, q < n ∧ r (46 + i) = nI q
def JT (c r : Mem) (T : Nat) : Prop := c 37 1 = nI T ∧ r 50 7 = nI T ∧ T ≤ 120 ∧ ∀ j, j < T → ∃ k, k < 256 ∧ r 56 j = nI k ∧ c 38 j = (nI k).toInt8.toInt32
def JS (c r : Mem) : Prop := ∀ q, q < 4 → ((c (40 + 1 + 2 * q) 1 = 0 ∧ r 57 q = -1) ∨ (r 57 q = c (40 + 1 + 2 * q) 1 ∧ (c (40 + 1 + 2 * q) 1 = 8 ∨ c (40 + 1 + 2 * q) 1 = 16 ∨ c (40 + 1 + 2 * q) 1 = 32))) ∧ (∃ z, z ≤ 40 ∧ c (40 + 1 + 2 * q) 2 = nI z ∧ r 58 q = nI z) ∧ ∀ j, j < 40 → c (40 + 1 + 2 * q + 1) j = r 59 (40 * q + j)
def JF (c r : Mem) : Prop := (∀ w, w < 7 → c 49 w = r 55 (w + 1)) ∧ r 55 0 = sumT (c 49) 7
def J2 (c r : Mem) (n p T : Nat) : Prop := CaOK c ∧ JP c 1 n (r 51) ∧ (PN c 13 p ∧ (¬ c 0 7 = 0 → JP c 13 p (r 52))) ∧ c 0 7 = r 50 4 ∧ JT c r T ∧ JS c r ∧ JF c r
def J (m : Mem) : Prop := ∃ n p T, J2 m m n p T
/-- no cell that matters is otherwise -/
def QC (c c' : Mem) : Prop := CaOK c' ∧ ∀ a, (a < 25 ∨ (37 ≤ a ∧ a < 50)) → eqC (c' a) (c a) ∧ (kd a ≠ 0 → c' a = c a)
def QR (r r' : Mem) : Prop := (∀ j, j < 56 → r' 51 j = r 51 j) ∧ (∀ j, j < 13 → r' 50 j = r 50 j) ∧ ∀ a, a = 52 ∨ a = 55 ∨ a = 56 ∨ a = 57 ∨ a = 58 ∨ a = 59 → r' a = r a
theorem FBr_congr {r r' : Nat → Int32} {n i : Nat} (hn : n ≤ 8) (hi : i < n) (e : ∀ j, j < 56 → r' j = r j) (h : FB (fun j => r (6 + 5 * i + j))) : FB (fun j => r' (6 + 5 * i + j)) := FB_congr (fun j hj => e _ (by omega)) h
theorem JB.congr {r r' : Nat → Int32} {n : Nat} (h : JB r n) (e : ∀ j, j < 56 → r' j = r j) : JB r' n := by
  obtain ⟨m, hm, em⟩ := h.2
  obtain ⟨w, hw, ew⟩ := h.1.2.2.1
  exact ⟨⟨by rw [e 0 (by omega)]; exact h.1.1, h.1.2.1, ⟨w, hw, by rw [e 3 (by omega)]; exact ew⟩, fun i hi => FBr_congr h.1.2.1 hi e (h.1.2.2.2 i hi)⟩, m, hm, by rw [e 4 (by omega)]; exact em⟩
theorem PR.rcongr {m : Mem} {k n : Nat} {r r' : Nat → Int32} (h : PR m k n r) (e : ∀ j, j < 56 → r' j = r j) : PR m k n r' :=
  ⟨by rw [e 0 (by omega)]; exact h.1, h.2.1, h.2.2.1, by rw [e 2 (by omega)]; exact h.2.2.2.1, fun j hj => by rw [e _ (by omega)]; exact h.2.2.2.2.1 j hj, fun i j hi hj => by have := h.2.2.1; rw [e _ (by omega)]; exact h.2.2.2.2.2.1 i j hi hj, fun j hj => by rw [e _ (by omega)]; exact h.2.2.2.2.2.2 j hj⟩
theorem JP.rcongr {m : Mem} {k n : Nat} {r r' : Nat → Int32} (h : JP m k n r) (e : ∀ j, j < 56 → r' j = r j) : JP m k n r' := by
  obtain ⟨y, hy, ey⟩ := h.2.2.2.1
  exact ⟨h.1.rcongr e, by rw [e 1 (by omega)]; exact h.2.1, h.2.2.1.congr e, ⟨y, hy, by rw [e 1 (by omega)]; exact ey⟩, fun i hi => by rw [e _ (by omega)]; exact h.2.2.2.2 i hi⟩
theorem JP.ccongr {c c' : Mem} {k n : Nat} {r : Nat → Int32} (hk : kd k = 1) (h : JP c k n r) (e : ∀ a, k ≤ a → a < k + 12 → eqC (c' a) (c a) ∧ (kd a ≠ 0 → c' a = c a)) : JP c' k n r := by
  have h8 := h.1.2.2.1
  have ka := kPa hk
  have e0 := (e k (by omega) (by omega)).2 (by rw [hk]; decide)
  have e1 := (e (k + 1) (by omega) (by omega)).2 (by rw [ka.1.1]; decide)
  have e2 := (e (k + 11) (by omega) (by omega)).2 (by rw [ka.2.2.2.1]; decide)
  exact ⟨h.1.congr (by rw [e0]) (by rw [e0]) (fun j hj => by rw [e1]) (fun i j hi hj => (e (k + 3 + i) (by omega) (by omega)).1 j (by omega) (by omega)) (fun j hj => by rw [e2]), by rw [e0]; exact h.2.1, h.2.2⟩
theorem sumT_congr {f g : Nat → Int32} : ∀ n, (∀ i, i < n → f i = g i) → sumT f n = sumT g n
  | 0, _ => rfl
  | n + 1, h => by rw [sumT, sumT, sumT_congr n (fun i hi => h i (by omega)), h n (by omega)]
theorem JS.congr {c c' r r' : Mem} (h : JS c r) (e : ∀ a, 41 ≤ a → a < 49 → c' a = c a) (e7 : r' 57 = r 57) (e8 : r' 58 = r 58) (e9 : r' 59 = r 59) : JS c' r' := by
  intro q hq
  rw [e _ (by omega) (by omega), e _ (by omega) (by omega), e7, e8, e9]
  exact h q hq
theorem JF.congr {c c' r r' : Mem} (h : JF c r) (e : c' 49 = c 49) (e5 : r' 55 = r 55) : JF c' r' := by
  unfold JF
  rw [e, e5]
  exact h
theorem JT.congr {c c' r r' : Mem} {T : Nat} (h : JT c r T) (e1 : c' 37 1 = c 37 1) (e2 : c' 38 = c 38) (e3 : r' 50 7 = r 50 7) (e4 : r' 56 = r 56) : JT c' r' T := by
  unfold JT
  rw [e1, e2, e3, e4]
  exact h
theorem J2.C {c c' r : Mem} {n p T : Nat} (h : J2 c r n p T) (q : QC c c') : J2 c' r n p T := by
  obtain ⟨h1, h2, ⟨h3, h4⟩, h5, h6, h7, h8⟩ := h
  have e0 : c' 0 = c 0 := (q.2 0 (by omega)).2 (by decide)
  have e13 : c' 13 = c 13 := (q.2 13 (by omega)).2 (by decide)
  refine ⟨q.1, h2.ccongr rfl (fun a k1 k2 => q.2 a (by omega)), ⟨⟨h3.1, by rw [e13]; exact h3.2.1, h3.2.2⟩, fun k => (h4 (by rw [← e0]; exact k)).ccongr rfl (fun a k1 k2 => q.2 a (by omega))⟩, by rw [e0]; exact h5, h6.congr (by rw [(q.2 37 (by omega)).2 (by decide)]) ((q.2 38 (by omega)).2 (by decide)) rfl rfl, h7.congr (fun a k1 k2 => (q.2 a (by omega)).2 ?_) rfl rfl rfl, h8.congr ((q.2 49 (by omega)).2 (by decide)) rfl⟩
  have : ∀ a, a < 49 → 41 ≤ a → kd a ≠ 0 := by decide +kernel
  exact this a k2 k1
theorem J2.R {c r r' : Mem} {n p T : Nat} (h : J2 c r n p T) (q : QR r r') : J2 c r' n p T := by
  obtain ⟨h1, h2, ⟨h3, h4⟩, h5, h6, h7, h8⟩ := h
  exact ⟨h1, h2.rcongr q.1, ⟨h3, fun k => by rw [q.2.2 52 (by omega)]; exact h4 k⟩, by rw [q.2.1 4 (by omega)]; exact h5, h6.congr rfl rfl (q.2.1 7 (by omega)) (q.2.2 56 (by omega)), h7.congr (fun _ _ _ => rfl) (q.2.2 57 (by omega)) (q.2.2 58 (by omega)) (q.2.2 59 (by omega)), h8.congr rfl (q.2.2 55 (by omega))⟩
def QQ (m m' : Mem) : Prop := QC m m' ∧ QR m m'
theorem J2.Q {m m' : Mem} {n p T : Nat} (h : J2 m m n p T) (q : QQ m m') : J2 m' m' n p T := (h.C q.1).R q.2
theorem QR.of {r r' : Mem} (h : ∀ a, 50 ≤ a → r' a = r a) : QR r r' := ⟨fun j _ => by rw [h 51 (by omega)], fun j _ => by rw [h 50 (by omega)], fun a ha => h a (by omega)⟩
theorem Ca_lo {m m' : Mem} (h : CaOK m) (e : ∀ a, a < 50 → m' a = m a) : CaOK m' := by
  intro k hk
  have : ∀ k, k < 62 → kd k = 0 → k < 50 := by decide +kernel
  have hl := this k (kd_lt hk (by omega)) hk
  rw [e k hl]
  exact h k hk
theorem QC.of {c c' : Mem} (hc : CaOK c) (h : ∀ a, a < 50 → c' a = c a) : QC c c' := ⟨Ca_lo hc h, fun a ha => ⟨fun j _ _ => by rw [h a (by omega)], fun _ => h a (by omega)⟩⟩
theorem kd_hi : ∀ a, 50 ≤ a → kd a ≠ 0 := by
  intro a ha
  rcases Nat.lt_or_ge a 62 with h | h
  · have : ∀ a, a < 62 → 50 ≤ a → kd a ≠ 0 := by decide +kernel
    exact this a h ha
  · intro q
    have := kd_lt q (by omega)
    omega
theorem QS.hi {m m' : Mem} (h : QS m m') : ∀ a, 50 ≤ a → m' a = m a := fun a ha => (h.2 a (by omega)).2 (kd_hi a ha)
theorem QQ.S {m m' : Mem} (h : QS m m') : QQ m m' := ⟨⟨h.1, fun a ha => h.2 a (by omega)⟩, QR.of h.hi⟩
theorem QM.lo {m m' : Mem} (h : QM m m') : ∀ a, a < 50 → m' a = m a := fun a ha => h.2 a (by omega) (by omega) (by omega) (by omega)
theorem QQ.M {m m' : Mem} (hc : CaOK m) (h : QM m m') : QQ m m' := ⟨QC.of hc h.lo, h.1, fun j _ => by rw [h.2 50 (by decide) (by decide) (by decide) (by decide)], fun a ha => h.2 a (by omega) (by omega) (by omega) (by omega)⟩
theorem QQ.F {m m' : Mem} (hc : CaOK m) (h : QF m m') : QQ m m' := ⟨QC.of hc (fun a ha => h.2.2 a (by omega) (by omega) (by omega) (by omega) (by omega)), h.1, fun j hj => h.2.1 j (by omega) (by omega), fun a ha => h.2.2 a (by omega) (by omega) (by omega) (by omega) (by omega)⟩
theorem QQ.rf {m : Mem} (hc : CaOK m) : QQ m m := QQ.M hc (QM.rf m)
theorem QQ.cd {m : Mem} {n : Nat} (hc : CaOK m) : QQ m (cdM m n) := QQ.M hc (QM.rf m).cd
theorem fnd_hi (m : Mem) (w : Nat) : ∀ a, 50 ≤ a → fnd m w a = m a := fun a ha => fnd_o m w (by omega)
theorem sum_up {f : Nat → Int32} {w : Nat} : ∀ n, w < n → sumT (upd f w (f w + 1)) n = sumT f n + 1
  | 0, h => by omega
  | n + 1, h => by
    rw [sumT, sumT]
    rcases Nat.lt_or_ge w n with q | q
    · rw [sum_up n q]
      simp only [upd]
      rw [if_neg (by omega), Int32.add_assoc, Int32.add_assoc, Int32.add_comm 1]
    · have e : w = n := by omega
      subst e
      rw [sumT_congr w (g := f) (fun i hi => by simp only [upd]; rw [if_neg (by omega)])]
      simp only [upd]
      rw [if_pos trivial, Int32.add_assoc]
theorem J2.fd {c r : Mem} {n p T w : Nat} (h : J2 c r n p T) (hw : w < 7) : J2 (fnd c w) (fndM r w) n p T := by
  obtain ⟨h1, h2, ⟨h3, h4⟩, h5, h6, h7, h8⟩ := h
  have ec : ∀ a, a ≠ 49 → fnd c w a = c a := fun a ha => fnd_o c w ha
  have er : ∀ a, a ≠ 55 → fndM r w a = r a := fun a ha => by unfold fndM; rw [up2_ne _ _ _ ha, up2_ne _ _ _ ha]
  refine ⟨fnd_Ca h1, ?_, ⟨⟨h3.1, by rw [ec _ (by decide)]; exact h3.2.1, h3.2.2⟩, fun k => ?_⟩, by rw [ec _ (by decide), er _ (by decide)]; exact h5, h6.congr (by rw [ec _ (by decide)]) (ec _ (by decide)) (by rw [er _ (by decide)]) (er _ (by decide)), h7.congr (fun a k1 k2 => ec a (by omega)) (er _ (by decide)) (er _ (by decide)) (er _ (by decide)), ?_, ?_⟩
  · rw [er _ (by decide)]
    exact h2.ccongr rfl (fun a k1 k2 => ⟨fun j _ _ => by rw [ec a (by omega)], fun _ => ec a (by omega)⟩)
  · rw [er _ (by decide)]
    rw [ec _ (by decide)] at k
    exact (h4 k).ccongr rfl (fun a k1 k2 => ⟨fun j _ _ => by rw [ec a (by omega)], fun _ => ec a (by omega)⟩)
  · intro q hq
    unfold fnd fndM
    rw [up2_same, up2_v, up2_v]
    simp only [upd]
    by_cases e : q = w
    · rw [if_pos e, if_pos ⟨trivial, by omega⟩, ← h8.1 w hw]
    · rw [if_neg e, if_neg (by omega), if_neg (by omega)]
      exact h8.1 q hq
  · unfold fnd fndM
    rw [up2_v, if_neg (by omega), up2_v1, up2_same, sum_up 7 hw, h8.2]
theorem J2.ff {m b : Mem} {n p T w : Nat} (h : J2 m m n p T) (hw : w < 7) (q : QQ (fnd m w) b) : J2 (fndM b w) (fndM b w) n p T := by
  have h1 := h.fd hw
  have hc : QC (fnd m w) (fndM b w) := by
    have e : ∀ a, a < 50 → fndM b w a = b a := fun a ha => by unfold fndM; rw [up2_ne _ _ _ (by omega), up2_ne _ _ _ (by omega)]
    exact ⟨Ca_lo q.1.1 e, fun a ha => by rw [e a (by omega)]; exact q.1.2 a ha⟩
  have er : ∀ x : Mem, ∀ a, a ≠ 55 → fndM x w a = x a := fun x a ha => by unfold fndM; rw [up2_ne _ _ _ ha, up2_ne _ _ _ ha]
  have hr : QR (fndM m w) (fndM b w) := by
    refine ⟨fun j hj => ?_, fun j hj => ?_, fun a ha => ?_⟩
    · rw [er _ _ (by decide), er _ _ (by decide), q.2.1 j hj, fnd_hi _ _ _ (by omega)]
    · rw [er _ _ (by decide), er _ _ (by decide), q.2.2.1 j hj, fnd_hi _ _ _ (by omega)]
    · by_cases e : a = 55
      · subst e
        have e5 : b 55 = m 55 := by rw [q.2.2.2 55 (by omega), fnd_hi _ _ _ (by omega)]
        unfold fndM
        rw [up2_same, up2_same, up2_same, up2_same, e5]
      · rw [er _ _ e, er _ _ e, q.2.2.2 a ha, fnd_hi _ _ _ (by omega)]
  exact (h1.C hc).R hr
theorem CnI.mono {M : MT} {as : List Value} {mem : Mem} {P Q : Int32 → Mem → Prop} (h : CnI M as mem P) (hq : ∀ x m', P x m' → Q x m') : CnI M as mem Q := Cn.mono h (fun r m' ⟨x, e, p⟩ => ⟨x, e, hq x m' p⟩)
theorem CnE.toI {M : MT} {as : List Value} {mem m2 : Mem} {x : Int32} (h : CnE M as mem (some (.int x)) m2) : CnI M as mem (fun y m' => y = x ∧ m' = m2) := Cn.mono h (fun r m' ⟨e1, e2⟩ => ⟨x, e1, rfl, e2⟩)
section ACC
variable {c r : Mem} {n p T : Nat}
theorem J2.n8 (h : J2 c r n p T) : n ≤ 8 := h.2.1.1.2.2.1
theorem J2.ca (h : J2 c r n p T) : CaOK c := h.1
theorem J2.pr (h : J2 c r n p T) : PR c 1 n (r 51) := h.2.1.1
theorem J2.jb (h : J2 c r n p T) : JB (r 51) n := h.2.1.2.2.1
theorem J2.mor (h : J2 c r n p T) : MOR (r 51) n := h.2.1.2.2.1.1
theorem J2.mo (h : J2 c r n p T) : MO r n := MO_R.mpr h.mor
theorem J2.pn (h : J2 c r n p T) : PN c 1 n := ⟨rfl, h.pr.2.1, h.n8⟩
theorem J2.po (h : J2 c r n p T) : PO c 1 n := by
  obtain ⟨w, hw, ew⟩ := h.mor.2.2.1
  refine ⟨rfl, h.pr.2.1, h.n8, ?_, h.1⟩
  rw [h.pr.2.2.2.2.1 0 (by omega), ew]
  exact nI_nem1 (by omega)
theorem J2.hl (h : J2 c r n p T) : ∀ q, q < 4 → ∃ z, z ≤ 40 ∧ c (40 + 1 + 2 * q) 2 = nI z := fun q hq => by
  obtain ⟨-, ⟨z, h1, h2, -⟩, -⟩ := h.2.2.2.2.2.1 q hq
  exact ⟨z, h1, h2⟩
theorem J2.hm (h : J2 c r n p T) : ∀ q, q < 4 → ∃ z, z ≤ 40 ∧ r 58 q = nI z := fun q hq => by
  obtain ⟨-, ⟨z, h1, -, h2⟩, -⟩ := h.2.2.2.2.2.1 q hq
  exact ⟨z, h1, h2⟩
end ACC
theorem fst_fin {mem m1 m2 : Mem} {n p T : Nat} {P Q : Nat → Prop} {lo hi y z : Nat} {x x' : Int32} {val : Nat → Int32} (h : J2 mem mem n p T) (hy : Fst P lo hi y) (hz : Fst Q lo hi z) (e : ∀ t, lo ≤ t → t ≤ hi → (P t ↔ Q t)) (q5 : (y ≤ hi ∧ x = val y ∧ QS mem m1) ∨ (y = hi + 1 ∧ x = -1000004 ∧ ∃ m2, QS mem m2 ∧ m1 = fnd m2 3)) (q6 : (z ≤ hi ∧ x' = val z ∧ QM m1 m2) ∨ (z = hi + 1 ∧ x' = -1000004 ∧ ∃ m3, QM m1 m3 ∧ m2 = fndM m3 3)) : x' = x ∧ J m2 := by
  have hyz := Fst.eq hy hz e
  rcases q5 with ⟨a1, a2, a3⟩ | ⟨a1, a2, m3, a3, a4⟩
  · rcases q6 with ⟨b1, b2, b3⟩ | ⟨b1, b2, b3⟩
    · have h1 := h.Q (QQ.S a3)
      exact ⟨by rw [a2, b2, hyz], n, p, T, h1.Q (QQ.M h1.ca b3)⟩
    · omega
  · rcases q6 with ⟨b1, b2, b3⟩ | ⟨b1, b2, m4, b3, b4⟩
    · omega
    · have h1 := h.Q (QQ.S a3)
      rw [b4]
      rw [a4] at b3
      exact ⟨by rw [a2, b2], n, p, T, h1.ff (by decide) (QQ.M (fnd_Ca h1.ca) b3)⟩
theorem q5_hi {mem m1 : Mem} {A B A' B' : Prop} (q5 : (A ∧ B ∧ QS mem m1) ∨ (A' ∧ B' ∧ ∃ m2, QS mem m2 ∧ m1 = fnd m2 3)) : ∀ a, 50 ≤ a → m1 a = mem a := by
  rcases q5 with ⟨-, -, h⟩ | ⟨-, -, m2, h, rfl⟩
  · exact h.hi
  · intro a ha
    rw [fnd_hi _ _ a ha]
    exact h.hi a ha
theorem J2.f0 {mem : Mem} {n p T : Nat} (w : Nat) (hw : w < 7) (h : J2 mem mem n p T) : J (fndM (fnd mem w) w) := ⟨n, p, T, h.ff hw (QQ.rf (fnd_Ca h.ca))⟩
