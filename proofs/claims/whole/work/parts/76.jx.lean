/-! what a row keeps -/
def JX (r : Nat → Int32) (n : Nat) : Prop := JB r n ∧ (∃ y, y ≤ 99999 ∧ r 1 = nI y) ∧ ∀ i, i < 10 → r (46 + i) = -1 ∨ ∃ q, q < n ∧ r (46 + i) = nI q
theorem up_o {r : Nat → Int32} {p j : Nat} {v : Int32} (h : j ≠ p) : upd r p v j = r j := by simp only [upd]; rw [if_neg h]
theorem up_s {r : Nat → Int32} {p : Nat} {v : Int32} : upd r p v p = v := by simp [upd]
theorem JX_upd {r : Nat → Int32} {n p : Nat} {v : Int32} (h : JX r n) (hp : 3 ≤ p) (hp2 : p < 46) (h3 : p = 3 → ∃ w, w ≤ 99 ∧ v = nI w) (h4 : p = 4 → ∃ w, w ≤ 99 ∧ v = nI w) (hF : ∀ i, i < n → 6 + 5 * i ≤ p → p < 6 + 5 * i + 5 → FB (fun j => upd r p v (6 + 5 * i + j))) : JX (upd r p v) n := by
  obtain ⟨⟨⟨a1, a2, ⟨w, hw, ew⟩, a4⟩, ⟨m, hm, em⟩⟩, ⟨y, hy, ey⟩, hs⟩ := h
  refine ⟨⟨⟨by rw [up_o (by omega)]; exact a1, a2, ?_, fun i hi => ?_⟩, ?_⟩, ⟨y, hy, by rw [up_o (by omega)]; exact ey⟩, fun i hi => by rw [up_o (by omega)]; exact hs i hi⟩
  · by_cases e : p = 3
    · obtain ⟨w2, k1, k2⟩ := h3 e
      rw [e, up_s]
      exact ⟨w2, k1, k2⟩
    · rw [up_o (by omega)]
      exact ⟨w, hw, ew⟩
  · by_cases e : 6 + 5 * i ≤ p ∧ p < 6 + 5 * i + 5
    · exact hF i hi e.1 e.2
    · exact FB_congr (fun j hj => up_o (by omega)) (a4 i hi)
  · by_cases e : p = 4
    · obtain ⟨w2, k1, k2⟩ := h4 e
      rw [e, up_s]
      exact ⟨w2, k1, k2⟩
    · rw [up_o (by omega)]
      exact ⟨m, hm, em⟩
theorem JX_wea {r : Nat → Int32} {n i k : Nat} (h : JX r n) (hi : i < 3) (hk : k ≤ 99) : JX (upd r (3 + i) (nI k)) n := JX_upd h (by omega) (by omega) (fun _ => ⟨k, hk, rfl⟩) (fun _ => ⟨k, hk, rfl⟩) (fun i hi h1 h2 => by omega)
theorem FB_put {f : Nat → Int32} {j : Nat} {v : Int32} (h : FB f) (hf : ¬ fitI (nI j) v = 0) (hj : j ≤ 4) : FB (upd f j v) := by
  obtain ⟨b0, b1, b2, b3, b4⟩ := h
  match j, hj with
  | 0, _ =>
    obtain ⟨k, hk, e⟩ := inR_of (N := 6) (M := 6) (by decide) (show ¬ inR v 0 6 = 0 from hf)
    exact ⟨⟨k, by omega, e⟩, b1, b2, b3, b4⟩
  | 1, _ =>
    obtain ⟨k, hk, e⟩ := inR_of (N := 999) (M := 999) (by decide) (show ¬ inR v 0 999 = 0 from hf)
    exact ⟨b0, ⟨k, by omega, e⟩, b2, b3, b4⟩
  | 2, _ =>
    obtain ⟨k, h1, h2, e⟩ := inR_1 (K := 1) (N := 20) (a := 1) (M := 20) (by decide) (by decide) (show ¬ inR v 1 20 = 0 from hf)
    exact ⟨b0, b1, ⟨k, h1, h2, e⟩, b3, b4⟩
  | 3, _ =>
    have h3 : -9 ≤ v.toInt ∧ v.toInt ≤ 9 := by
      rcases inR_01 v (-9) 9 with g | g
      · exact absurd g (show ¬ inR v (-9) 9 = 0 from hf)
      · exact inR_iff.mp g
    exact ⟨b0, b1, b2, h3, b4⟩
  | 4, _ =>
    obtain ⟨k, hk, e⟩ := inR_of (N := 9999) (M := 9999) (by decide) (show ¬ inR v 0 9999 = 0 from hf)
    exact ⟨b0, b1, b2, b3, ⟨k, by omega, e⟩⟩
theorem JX_chg {r : Nat → Int32} {n i j : Nat} {v : Int32} (h : JX r n) (hi : i < n) (hj : j ≤ 4) (hf : ¬ fitI (nI j) v = 0) : JX (upd r (6 + 5 * i + j) v) n := by
  have h8 := h.1.1.2.1
  refine JX_upd h (by omega) (by omega) (fun e => by omega) (fun e => by omega) (fun i2 hi2 h1 h2 => ?_)
  have e : i2 = i := by omega
  subst e
  refine FB_congr (g := upd (fun j => r (6 + 5 * i2 + j)) j v) (fun k hk => ?_) (FB_put (h.1.1.2.2.2 i2 hi2) hf hj)
  by_cases c : k = j
  · rw [c, up_s, up_s]
  · rw [up_o (by omega), up_o c]
theorem comR_o {r : Nat → Int32} {n j : Nat} {a b : Int32} (h0 : j ≠ 0) (h1 : j < 6 + 5 * n ∨ 6 + 5 * n + 5 ≤ j) : comR r n a b j = r j := by
  unfold comR
  rw [up_o h0, up_o (by omega), up_o (by omega), up_o (by omega), up_o (by omega), up_o (by omega)]
theorem JX_com {r : Nat → Int32} {n k t : Nat} (h : JX r n) (hn : n < 8) (hk : k < 7) (ht : t ≤ 999) : JX (comR r n (nI k) (nI t)) (n + 1) := by
  obtain ⟨⟨⟨a1, a2, ⟨w, hw, ew⟩, a4⟩, ⟨m, hm, em⟩⟩, ⟨y, hy, ey⟩, hs⟩ := h
  refine ⟨⟨⟨comR_0 _ _ _ _, by omega, ⟨w, hw, by rw [comR_o (by omega) (by omega)]; exact ew⟩, fun i hi => ?_⟩, m, hm, by rw [comR_o (by omega) (by omega)]; exact em⟩, ⟨y, hy, by rw [comR_o (by omega) (by omega)]; exact ey⟩, fun i hi => ?_⟩
  · rcases Nat.lt_or_ge i n with c | c
    · exact FB_congr (fun j hj => comR_o (by omega) (by omega)) (a4 i c)
    · have e : i = n := by omega
      subst e
      refine ⟨⟨k, hk, ?_⟩, ⟨t, ht, ?_⟩, ⟨4, by omega, by omega, ?_⟩, ?_, ⟨0, by omega, ?_⟩⟩
      all_goals simp [comR, upd]
      all_goals rfl
  · rw [comR_o (by omega) (by omega)]
    rcases hs i hi with c | ⟨q, c, e⟩
    · exact Or.inl c
    · exact Or.inr ⟨q, by omega, e⟩
theorem nm_in {B : Nat → Int32} {T f : Nat} {lo hi : Int32} (h : nmB B T f lo hi = true) : ¬ inR (lexV B T f) lo hi = 0 := by
  unfold nmB at h
  rw [Bool.and_eq_true, decide_eq_true_iff, decide_eq_true_iff] at h
  exact h.2
theorem han_JX {B : Nat → Int32} {T i f n : Nat} {r : Nat → Int32} (h : JX r n) (hi : i < n) : JX (hanP B T i f r).2.2 n := by
  unfold hanP
  split
  · split
    · rename_i c
      exact JX_chg h hi (by decide) (show ¬ inR _ 1 20 = 0 from nm_in c)
    · exact h
  · exact h
theorem thi_JX {B : Nat → Int32} {T i f n : Nat} {r : Nat → Int32} (h : JX r n) (hi : i < n) : JX (thiP B T i f r).2.2 n := by
  unfold thiP
  split
  · split
    · rename_i c
      obtain ⟨k, hk, e⟩ := inR_of (N := 9) (by decide) (nm_in c)
      refine JX_chg h hi (by decide) (show ¬ inR _ (-9) 9 = 0 from ?_)
      have tb : ∀ k, k < 10 → ¬ inR (nI k) (-9) 9 = 0 ∧ ¬ inR (0 - nI k) (-9) 9 = 0 := by decide +kernel
      unfold thiV
      rw [e]
      split
      · exact (tb k (by omega)).2
      · exact (tb k (by omega)).1
    · exact h
  · exact h
theorem frm_JX {B : Nat → Int32} {T f n k : Nat} {r : Nat → Int32} (h : JX r n) (hk : k < 7) : ∃ n', JX (frmP B T n (nI k) f r).2.2 n' := by
  have h8 := h.1.1.2.1
  unfold frmP
  split
  · exact ⟨n, h⟩
  · split
    · rename_i c1 c
      obtain ⟨t, ht, e⟩ := inR_of (N := 999) (by decide) (nm_in c)
      rw [e]
      have h2 := JX_com h (by omega) hk ht
      unfold andP
      split
      · exact ⟨n + 1, thi_JX (han_JX h2 (by omega)) (by omega)⟩
      · exact ⟨n + 1, han_JX h2 (by omega)⟩
    · exact ⟨n, h⟩
theorem wth_JX {B : Nat → Int32} {T f n a : Nat} {r : Nat → Int32} (h : JX r n) (ha : a < 3) : JX (wthP B T a f r).2.2 n := by
  unfold wthP
  split
  · rename_i c
    obtain ⟨t, ht, e⟩ := inR_of (N := 99) (by decide) (nm_in c)
    rw [e]
    exact JX_wea h ha ht
  · exact h
theorem kdI_r {W : List Int32 → Bool} (h : 0 ≤ kdI W) : ∃ k, k < 7 ∧ kdI W = nI k := by
  unfold kdI at h ⊢
  split
  · exact ⟨0, by decide, rfl⟩
  · split
    · exact ⟨1, by decide, rfl⟩
    · split
      · exact ⟨2, by decide, rfl⟩
      · split
        · exact ⟨3, by decide, rfl⟩
        · split
          · exact ⟨4, by decide, rfl⟩
          · split
            · exact ⟨5, by decide, rfl⟩
            · split
              · exact ⟨6, by decide, rfl⟩
              · rename_i c0 c1 c2 c3 c4 c5 c6
                rw [if_neg c0, if_neg c1, if_neg c2, if_neg c3, if_neg c4, if_neg c5, if_neg c6] at h
                exact absurd h (by decide)
theorem itm_JX {B : Nat → Int32} {T f n : Nat} {r : Nat → Int32} (h : JX r n) : ∃ n', JX (itmP B T n f r).2.2 n' := by
  unfold itmP
  split
  · rename_i c
    obtain ⟨k, hk, e⟩ := kdI_r c
    rw [e]
    exact frm_JX h hk
  · split
    · exact ⟨n, wth_JX h (by decide)⟩
    · split
      · exact ⟨n, wth_JX h (by decide)⟩
      · split
        · exact ⟨n, wth_JX h (by decide)⟩
        · exact ⟨n, h⟩
theorem itq_JX {B : Nat → Int32} {T f n : Nat} {r : Nat → Int32} (h : JX r n) : ∃ n', JX (itmQ B T f r).2.2 n' := by
  rw [itmQ_eq B T f h.1.1.2.1 h.1.1.1]
  exact itm_JX h
theorem txt_JX {B : Nat → Int32} {T : Nat} : ∀ k it (q : RT) n, JX q.2.2 n → ∃ n', JX (txtP B T k it q).2.2.2 n'
  | 0, it, q, n, h => ⟨n, h⟩
  | k + 1, it, q, n, h => by
    rw [txtP]
    split
    · obtain ⟨n2, h2⟩ := itq_JX (B := B) (T := T) (f := nxF B T q.2.1) h
      exact txt_JX k (it + 1) _ n2 h2
    · exact ⟨n, h⟩
theorem JX_n {r : Nat → Int32} {n n' : Nat} (h : JX r n) (h2 : JX r n') : n = n' := by
  have a := h.1.1.2.1
  have b := h2.1.1.2.1
  exact (nI_eq (by omega) (by omega)).mp (h.1.1.1.symm.trans h2.1.1.1)
theorem JX_year {r : Nat → Int32} {n : Nat} (h : JX r n) {y : Nat} (ey : r 1 = nI y) (hy : y + 1 ≤ 99999) : JX (yearR r n) n := by
  have h8 := h.1.1.2.1
  refine ⟨JB_year h.1, ⟨y + 1, hy, ?_⟩, fun i hi => by rw [yearR_at (by omega) (by omega)]; exact h.2.2 i hi⟩
  unfold yearR
  rw [up_s, ey, nI_1]
theorem J2.par {c r c' r' : Mem} {n n' p T : Nat} (h : J2 c r n p T) (hc : CaOK c') (hp : JP c' 1 n' (r' 51)) (e : ∀ a, a = 0 ∨ (13 ≤ a ∧ a < 25) ∨ (37 ≤ a ∧ a < 50) → c' a = c a) (er : ∀ a, 50 ≤ a → a ≠ 51 → a ≠ 54 → a ≠ 60 → a ≠ 61 → r' a = r a) : J2 c' r' n' p T := by
  obtain ⟨h1, h2, ⟨h3, h4⟩, h5, h6, h7, h8⟩ := h
  refine ⟨hc, hp, ⟨⟨h3.1, by rw [e 13 (by omega)]; exact h3.2.1, h3.2.2⟩, fun k => ?_⟩, by rw [e 0 (by omega), er 50 (by omega) (by omega) (by omega) (by omega) (by omega)]; exact h5, h6.congr (by rw [e 37 (by omega)]) (e 38 (by omega)) (by rw [er 50 (by omega) (by omega) (by omega) (by omega) (by omega)]) (er 56 (by omega) (by omega) (by omega) (by omega) (by omega)), h7.congr (fun a k1 k2 => e a (by omega)) (er 57 (by omega) (by omega) (by omega) (by omega) (by omega)) (er 58 (by omega) (by omega) (by omega) (by omega) (by omega)) (er 59 (by omega) (by omega) (by omega) (by omega) (by omega)), h8.congr (e 49 (by omega)) (er 55 (by omega) (by omega) (by omega) (by omega) (by omega))⟩
  rw [er 52 (by omega) (by omega) (by omega) (by omega) (by omega)]
  rw [e 0 (by omega)] at k
  exact (h4 k).ccongr rfl (fun a k1 k2 => ⟨fun j _ _ => by rw [e a (by omega)], fun _ => e a (by omega)⟩)
theorem JP.lo {m m' : Mem} {n : Nat} {r : Nat → Int32} (h : JP m 1 n r) (e : ∀ a, 1 ≤ a → a < 13 → m' a = m a) : JP m' 1 n r := h.ccongr rfl (fun a h1 h2 => ⟨fun j _ _ => by rw [e a h1 (by omega)], fun _ => e a h1 (by omega)⟩)
theorem PR.add {m : Mem} {k n : Nat} {r : Nat → Int32} (h : PR m k n r) (hn : n < 8) (a b : Int32) : PR (up2 (upR m (k + 3 + n) (beginF (m (k + 3 + n)) a b)) k 3 (nI (n + 1))) k (n + 1) (comR r n a b) := by
  have o : ∀ c, c ≠ k → c ≠ k + 3 + n → up2 (upR m (k + 3 + n) (beginF (m (k + 3 + n)) a b)) k 3 (nI (n + 1)) c = m c := fun c h1 h2 => by rw [up2_ne _ _ _ h1, upR_ne _ _ h2]
  refine ⟨comR_0 _ _ _ _, by rw [up2_v1], by omega, ?_, fun q hq => ?_, fun p q hp hq => ?_, fun q hq => ?_⟩
  · rw [up2_v, if_neg (by omega), upR_ne _ _ (by omega), comR_o (by omega) (by omega)]
    exact h.2.2.2.1
  · rw [o _ (by omega) (by omega), comR_o (by omega) (by omega)]
    exact h.2.2.2.2.1 q hq
  · rcases Nat.lt_or_ge p n with e | e
    · rw [o _ (by omega) (by omega), comR_o (by omega) (by omega)]
      exact h.2.2.2.2.2.1 p q e hq
    · have e2 : p = n := by omega
      subst e2
      rw [up2_ne _ _ _ (by omega), upR_same]
      unfold beginF comR
      simp only [upd]
      match q, hq with
      | 0, _ => simp
      | 1, _ => simp
      | 2, _ => simp
      | 3, _ => simp
      | 4, _ => simp
  · rw [o _ (by omega) (by omega), comR_o (by omega) (by omega)]
    exact h.2.2.2.2.2.2 q hq
