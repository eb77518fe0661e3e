/-! days and what is left, as numbers -/
def plN (h w : Nat) : Nat := if 2 * h ≤ w / 10 + 1 then 1 else 2 * h - w / 10
theorem plN_ok : ∀ h, h < 21 → ∀ w, w < 100 → 1 ≤ h → maxI 1 (2 * nI h - nI w / 10) = nI (plN h w) ∧ 1 ≤ plN h w ∧ plN h w ≤ 40 := by decide +kernel
def lmN (p : Nat) : Nat := if p / 2 = 0 then 1 else p / 2
def olN (p : Nat) : Nat := if lmN p ≤ 2 then 1 else lmN p - 1
theorem tabP : ∀ p, p < 41 → 1 ≤ p → maxI 1 (nI p / 2) = nI (lmN p) ∧ maxI 1 (maxI 1 (nI p / 2) - 1) = nI (olN p) ∧ nI p + 3 = nI (p + 3) ∧ (nI p + 3) / 2 = nI ((p + 3) / 2) ∧ maxI 1 ((nI p + 3) / 2) = (nI p + 3) / 2 ∧ 1 ≤ lmN p ∧ lmN p ≤ 40 ∧ 1 ≤ olN p ∧ olN p ≤ 40 ∧ 1 ≤ (p + 3) / 2 := by decide +kernel
theorem i20_5 {s : Int32} (h : (20 : Int32) < s) : (5 : Int32) < s := by
  rw [Int32.lt_iff_toInt_lt] at h ⊢
  have e1 : (20 : Int32).toInt = 20 := by decide
  have e2 : (5 : Int32).toInt = 5 := by decide
  omega
theorem reap_zones {kind hands wet : Int32} {h w : Nat} (hh : hands = nI h) (hw : wet = nI w) (h1 : 1 ≤ h) (h20 : h ≤ 20) (hw9 : w ≤ 99) : ∃ a b c : Nat, (1 ≤ a ∧ a ≤ 43) ∧ (1 ≤ b ∧ b ≤ 43) ∧ (1 ≤ c ∧ c ≤ 43) ∧ (∀ s, (20 : Int32) < s → reapF kind hands wet s = nI a) ∧ (∀ s, ¬ (20 : Int32) < s → (5 : Int32) < s → reapF kind hands wet s = nI b) ∧ (∀ s, ¬ (5 : Int32) < s → reapF kind hands wet s = nI c) := by
  subst hh
  subst hw
  obtain ⟨e1, e2, e3⟩ := plN_ok h (by omega) w (by omega) h1
  obtain ⟨t1, t2, t3, t4, t5, t6, t7, t8, t9, t10⟩ := tabP (plN h w) (by omega) e2
  have n20 : ∀ s : Int32, ¬ (5 : Int32) < s → ¬ (20 : Int32) < s := fun s hs q => hs (i20_5 q)
  unfold reapF
  rw [e1, t1, t3]
  by_cases k1 : kind = 1
  · exact ⟨lmN (plN h w), lmN (plN h w), lmN (plN h w), by omega, by omega, by omega, fun s _ => by rw [if_pos k1], fun s _ _ => by rw [if_pos k1], fun s _ => by rw [if_pos k1]⟩
  simp only [if_neg k1]
  by_cases k2 : kind = 2
  · exact ⟨plN h w + 3, plN h w + 3, plN h w + 3, by omega, by omega, by omega, fun s _ => by rw [if_pos k2], fun s _ _ => by rw [if_pos k2], fun s _ => by rw [if_pos k2]⟩
  simp only [if_neg k2]
  rw [t3] at t4
  by_cases k3 : kind = 3
  · refine ⟨plN h w + 3, (plN h w + 3) / 2, (plN h w + 3) / 2, by omega, by omega, by omega, fun s hs => ?_, fun s hs _ => ?_, fun s hs => ?_⟩
    · rw [if_pos k3, if_pos hs]
    · rw [if_pos k3, if_neg hs, t4]
    · rw [if_pos k3, if_neg (n20 s hs), t4]
  simp only [if_neg k3]
  by_cases k4 : kind = 4
  · refine ⟨plN h w + 3, (plN h w + 3) / 2, 1, by omega, by omega, by omega, fun s hs => ?_, fun s hs h5 => ?_, fun s hs => ?_⟩
    · rw [if_pos k4, if_pos (i20_5 hs), if_pos hs]
    · rw [if_pos k4, if_pos h5, if_neg hs, t4]
    · rw [if_pos k4, if_neg hs]; rfl
  simp only [if_neg k4]
  by_cases k5 : kind = 5
  · by_cases c : nI w < 50
    · exact ⟨30, 30, 30, by omega, by omega, by omega, fun s _ => by rw [if_pos k5, if_pos c]; rfl, fun s _ _ => by rw [if_pos k5, if_pos c]; rfl, fun s _ => by rw [if_pos k5, if_pos c]; rfl⟩
    · exact ⟨2, 2, 2, by omega, by omega, by omega, fun s _ => by rw [if_pos k5, if_neg c]; rfl, fun s _ _ => by rw [if_pos k5, if_neg c]; rfl, fun s _ => by rw [if_pos k5, if_neg c]; rfl⟩
  simp only [if_neg k5]
  rw [t1] at t2
  by_cases k6 : kind = 6
  · exact ⟨olN (plN h w), olN (plN h w), olN (plN h w), by omega, by omega, by omega, fun s _ => by rw [if_pos k6, t2], fun s _ _ => by rw [if_pos k6, t2], fun s _ => by rw [if_pos k6, t2]⟩
  · exact ⟨plN h w, plN h w, plN h w, by omega, by omega, by omega, fun s _ => by rw [if_neg k6], fun s _ _ => by rw [if_neg k6], fun s _ => by rw [if_neg k6]⟩
/-- on how many days, down to a floor -/
def dnN (fl s r : Nat) : Nat := if s ≤ fl then 0 else (s - fl + r - 1) / r
theorem dn_0 {fl s r : Nat} (h : s ≤ fl) : dnN fl s r = 0 := if_pos h
theorem dn_more {fl s r : Nat} (hr : 1 ≤ r) (h : fl < s - r) : dnN fl s r = dnN fl (s - r) r + 1 := by
  unfold dnN
  rw [if_neg (by omega), if_neg (by omega), show s - fl + r - 1 = (s - r - fl + r - 1) + r by omega, Nat.add_div_right _ (by omega)]
theorem dn_one {fl s r : Nat} (hr : 1 ≤ r) (h0 : fl < s) (h : s - r ≤ fl) : dnN fl s r = 1 := by
  unfold dnN
  rw [if_neg (by omega)]
  exact Nat.div_eq_of_lt_le (by omega) (by omega)
theorem dn_le {fl s r : Nat} (hr : 1 ≤ r) : dnN fl s r ≤ s := by
  unfold dnN
  split
  · omega
  · rcases Nat.lt_or_ge fl s with c | c
    · have h1 : s - fl + r - 1 ≤ s * r := by
        have : s ≤ s * r := Nat.le_mul_of_pos_right _ hr
        have h3 : (s - 1) * r + r = s * r := by
          rw [← Nat.succ_mul]
          congr 1
          omega
        have h4 : s - 1 ≤ (s - 1) * r := Nat.le_mul_of_pos_right _ hr
        omega
      exact Nat.div_le_of_le_mul (by rw [Nat.mul_comm]; exact h1)
    · omega
theorem down_N {fl s r : Nat} (hs : s ≤ 1000) (hf : fl ≤ 20) (h1 : 1 ≤ r) (h2 : r ≤ 43) : downF (nI fl) (nI s) (nI r) = nI (dnN fl s r) := by
  unfold downF dnN
  by_cases c : s ≤ fl
  · rw [if_pos c, if_pos (nI_le c (by omega))]
    rfl
  · rw [if_neg c, if_neg (nI_ge (by omega) (by omega)), if_pos (show (1 : Int32) ≤ nI r from nI_le (a := 1) h1 (by omega)), pk_sub (by omega), nI_add, show (1 : Int32) = nI 1 from rfl, pk_sub (by omega), pk_div (by omega) (by omega) (by omega)]
theorem i32_sub {x : Int32} {d r : Nat} (hx : -2000 ≤ x.toInt ∧ x.toInt ≤ 2000) (h : d * r ≤ 100000) : (x - nI d * nI r).toInt = x.toInt - (d * r : Nat) := by
  rw [pk_mul, Int32.toInt_sub, nI_toInt (by omega)]
  exact Int.bmod_eq_of_le (by omega) (by omega)
theorem down_neg {fl : Nat} {s r : Int32} (h : s.toInt ≤ fl) (hf : fl ≤ 20) : downF (nI fl) s r = 0 := by
  unfold downF
  rw [if_pos (by rw [Int32.le_iff_toInt_le, nI_toInt (by omega)]; exact h)]
theorem nI_ofInt {x : Int32} {t : Nat} (h : x.toInt = t) : x = nI t := by
  have h2 : x.toInt < 2 ^ 31 := Int32.toInt_lt x
  have ht : t < 2 ^ 31 := by omega
  exact Int32.toInt_inj.mp (by rw [h, nI_toInt ht])
theorem i32_x0 (x : Int32) (r : Int32) : x - 0 * r = x := by simp
theorem i32_a0 (x : Int32) : x + 0 = x := by simp
/-- the last two stretches -/
def Vd (kind hands wet : Int32) (q : Int32 × Int32) : Int32 := (strF kind hands wet 0 (strF kind hands wet 5 q)).2
def wN (b c t : Nat) : Nat := if t ≤ 5 then dnN 0 t c else dnN 5 t b + (if t ≤ dnN 5 t b * b then 0 else dnN 0 (t - dnN 5 t b * b) c)
theorem Vd_neg {kind hands wet s n : Int32} (h : s.toInt ≤ 0) : Vd kind hands wet (s, n) = n := by
  unfold Vd strF
  have h5 : downF 5 s (reapF kind hands wet s) = 0 := down_neg (fl := 5) (by omega) (by omega)
  simp only [h5, i32_x0, i32_a0]
  have h0 : downF 0 s (reapF kind hands wet s) = 0 := down_neg (fl := 0) (by omega) (by omega)
  simp only [h0, i32_x0, i32_a0]
theorem n5 {t : Nat} (h : t ≤ 5) : ¬ (5 : Int32) < nI t := nI_nlt (a := 5) h (by omega)
theorem y5 {t : Nat} (h : 5 < t) (h2 : t ≤ 2000) : (5 : Int32) < nI t := nI_lt (a := 5) h (by omega)
theorem n20 {t : Nat} (h : t ≤ 20) : ¬ (20 : Int32) < nI t := nI_nlt (a := 20) h (by omega)
theorem y20 {t : Nat} (h : 20 < t) (h2 : t ≤ 2000) : (20 : Int32) < nI t := nI_lt (a := 20) h (by omega)
theorem n5i {x : Int32} (h : x.toInt ≤ 5) : ¬ (5 : Int32) < x := by
  rw [Int32.lt_iff_toInt_lt]
  have e2 : (5 : Int32).toInt = 5 := by decide
  omega
theorem n20i {x : Int32} (h : x.toInt ≤ 20) : ¬ (20 : Int32) < x := by
  rw [Int32.lt_iff_toInt_lt]
  have e2 : (20 : Int32).toInt = 20 := by decide
  omega
section DAYS
variable {kind hands wet : Int32} {a b c : Nat}
theorem Vd_N (hb : 1 ≤ b ∧ b ≤ 43) (hc : 1 ≤ c ∧ c ≤ 43) (H2 : ∀ s, ¬ (20 : Int32) < s → (5 : Int32) < s → reapF kind hands wet s = nI b) (H3 : ∀ s, ¬ (5 : Int32) < s → reapF kind hands wet s = nI c) {t : Nat} (ht : t ≤ 20) (n : Int32) : Vd kind hands wet (nI t, n) = n + nI (wN b c t) := by
  by_cases h5 : t ≤ 5
  · unfold Vd strF wN
    rw [if_pos h5]
    have e5 : downF 5 (nI t) (reapF kind hands wet (nI t)) = 0 := down_neg (fl := 5) (by rw [nI_toInt (by omega)]; omega) (by omega)
    simp only [e5, i32_x0, i32_a0]
    rw [H3 _ (n5 h5), show (0 : Int32) = nI 0 from rfl, down_N (by omega) (by omega) hc.1 hc.2]
  · have e5 : downF 5 (nI t) (reapF kind hands wet (nI t)) = nI (dnN 5 t b) := by
      rw [H2 _ (n20 ht) (y5 (by omega) (by omega))]
      exact down_N (fl := 5) (by omega) (by omega) hb.1 hb.2
    have hd : dnN 5 t b ≤ t := dn_le hb.1
    have hdb : dnN 5 t b * b ≤ 20 * 43 := Nat.mul_le_mul (by omega) hb.2
    unfold Vd strF wN
    rw [if_neg h5]
    simp only [e5]
    rw [H2 _ (n20 ht) (y5 (by omega) (by omega))]
    have es : (nI t - nI (dnN 5 t b) * nI b).toInt = (t : Int) - (dnN 5 t b * b : Nat) := by
      rw [i32_sub (by rw [nI_toInt (by omega)]; omega) (by omega), nI_toInt (by omega)]
    by_cases hz : t ≤ dnN 5 t b * b
    · rw [if_pos hz]
      have e0 : downF 0 (nI t - nI (dnN 5 t b) * nI b) (reapF kind hands wet (nI t - nI (dnN 5 t b) * nI b)) = 0 := down_neg (fl := 0) (by rw [es]; omega) (by omega)
      rw [e0, i32_a0, Nat.add_zero]
    · rw [if_neg hz]
      have eN : nI t - nI (dnN 5 t b) * nI b = nI (t - dnN 5 t b * b) := nI_ofInt (by rw [es]; omega)
      have h5b : t - dnN 5 t b * b ≤ 5 := by
        have h6 : dnN 5 t b = (t - 5 + b - 1) / b := if_neg h5
        have h7 := Nat.div_add_mod (t - 5 + b - 1) b
        have h8 := Nat.mod_lt (t - 5 + b - 1) (show 0 < b by omega)
        rw [← h6, Nat.mul_comm] at h7
        omega
      rw [eN, H3 _ (n5 h5b), show (0 : Int32) = nI 0 from rfl, down_N (by omega) (by omega) hc.1 hc.2, Int32.add_assoc, nI_add]
theorem wN_step (hb : 1 ≤ b) (hc : 1 ≤ c) {t : Nat} (h0 : 0 < t) : wN b c t = 1 + (if t ≤ (if t ≤ 5 then c else b) then 0 else wN b c (t - (if t ≤ 5 then c else b))) := by
  by_cases h5 : t ≤ 5
  · simp only [h5, if_true]
    unfold wN
    rw [if_pos h5]
    by_cases hz : t ≤ c
    · rw [if_pos hz, dn_one hc h0 (by omega)]
    · rw [if_neg hz, if_pos (by omega), dn_more hc (by omega)]
      omega
  · simp only [h5, if_false]
    by_cases hz : t - b ≤ 5
    · have e1 : dnN 5 t b = 1 := dn_one hb (by omega) hz
      unfold wN
      rw [if_neg h5, e1, Nat.one_mul]
      by_cases hy : t ≤ b
      · rw [if_pos hy, if_pos hy]
      · rw [if_neg hy, if_neg hy, if_pos hz]
    · have e1 : dnN 5 t b = dnN 5 (t - b) b + 1 := dn_more hb (by omega)
      unfold wN
      rw [if_neg h5, if_neg (show ¬ t ≤ b by omega), if_neg hz, e1, Nat.succ_mul]
      have e3 : (t ≤ dnN 5 (t - b) b * b + b) ↔ (t - b ≤ dnN 5 (t - b) b * b) := by omega
      have e4 : t - (dnN 5 (t - b) b * b + b) = t - b - dnN 5 (t - b) b * b := by omega
      by_cases hy : t - b ≤ dnN 5 (t - b) b * b
      · rw [if_pos (e3.mpr hy), if_pos hy]
        omega
      · rw [if_neg (fun q => hy (e3.mp q)), if_neg hy, e4]
        omega
/-- the reference's loop takes one step of what the class reckons at once -/
theorem Vd_step (hb : 1 ≤ b ∧ b ≤ 43) (hc : 1 ≤ c ∧ c ≤ 43) (H2 : ∀ s, ¬ (20 : Int32) < s → (5 : Int32) < s → reapF kind hands wet s = nI b) (H3 : ∀ s, ¬ (5 : Int32) < s → reapF kind hands wet s = nI c) {t : Nat} (h0 : 0 < t) (ht : t ≤ 20) (n : Int32) : Vd kind hands wet (nI t - reapF kind hands wet (nI t), n + 1) = Vd kind hands wet (nI t, n) ∧ (nI t - reapF kind hands wet (nI t)).toInt < t ∧ -43 ≤ (nI t - reapF kind hands wet (nI t)).toInt := by
  have hr : reapF kind hands wet (nI t) = nI (if t ≤ 5 then c else b) := by
    by_cases h5 : t ≤ 5
    · rw [if_pos h5, H3 _ (n5 h5)]
    · rw [if_neg h5, H2 _ (n20 ht) (y5 (by omega) (by omega))]
  have hrb : 1 ≤ (if t ≤ 5 then c else b) ∧ (if t ≤ 5 then c else b) ≤ 43 := by split <;> omega
  obtain ⟨r, er⟩ : ∃ r, r = if t ≤ 5 then c else b := ⟨_, rfl⟩
  rw [← er] at hr hrb
  rw [hr]
  have es : (nI t - nI r).toInt = (t : Int) - r := pk_sub_toInt (by omega) (by omega)
  refine ⟨?_, by omega, by omega⟩
  rw [Vd_N hb hc H2 H3 ht, wN_step hb.1 hc.1 h0, ← er]
  by_cases hz : t ≤ r
  · rw [if_pos hz, Vd_neg (by omega)]
    rfl
  · rw [if_neg hz, show nI t - nI r = nI (t - r) from nI_ofInt (by omega), Vd_N hb hc H2 H3 (by omega), ← nI_add, Int32.add_assoc]
    rfl
theorem str_lo {s : Int32} (h : s.toInt ≤ 20) (n : Int32) : strF kind hands wet 20 (s, n) = (s, n) := by
  unfold strF
  have e : downF 20 s (reapF kind hands wet s) = 0 := down_neg (fl := 20) (by omega) (by omega)
  simp only [e, i32_x0, i32_a0]
theorem day_lo {s : Int32} (h : s.toInt ≤ 20) : dayI kind s hands wet = Vd kind hands wet (s, 0) := by
  unfold dayI
  rw [str_lo h]
  rfl
theorem day_hi (ha : 1 ≤ a ∧ a ≤ 43) (H1 : ∀ s, (20 : Int32) < s → reapF kind hands wet s = nI a) {t : Nat} (h : 20 < t) (h2 : t ≤ 999) : ∃ d, (nI t - 21) / reapF kind hands wet (nI t) + 1 = nI d ∧ dayI kind (nI t) hands wet = Vd kind hands wet (nI t - nI d * reapF kind hands wet (nI t), nI d) ∧ (nI t - nI d * reapF kind hands wet (nI t)).toInt ≤ 20 ∧ -43 ≤ (nI t - nI d * reapF kind hands wet (nI t)).toInt ∧ reapF kind hands wet (nI t) = nI a := by
  have hr := H1 _ (y20 h (by omega))
  rw [hr]
  have e1 : dnN 20 t a = (t - 21) / a + 1 := by
    unfold dnN
    rw [if_neg (by omega), show t - 20 + a - 1 = (t - 21) + a by omega, Nat.add_div_right _ (by omega)]
  have e2 : downF 20 (nI t) (nI a) = nI (dnN 20 t a) := down_N (fl := 20) (by omega) (by omega) ha.1 ha.2
  have hm := Nat.div_add_mod (t - 21) a
  have hm2 := Nat.mod_lt (t - 21) (show 0 < a by omega)
  have e3 : dnN 20 t a * a = (t - 21) / a * a + a := by rw [e1, Nat.succ_mul]
  rw [Nat.mul_comm] at hm
  have es : (nI t - nI (dnN 20 t a) * nI a).toInt = (t : Int) - (dnN 20 t a * a : Nat) := by
    rw [i32_sub (by rw [nI_toInt (by omega)]; omega) (by omega), nI_toInt (by omega)]
  refine ⟨dnN 20 t a, ?_, ?_, ?_, ?_, rfl⟩
  · rw [show (21 : Int32) = nI 21 from rfl, pk_sub (by omega), pk_div (by omega) (by omega) (by omega), nI_1, e1]
  · unfold dayI Vd
    congr 3
    unfold strF
    simp only [hr, e2]
    rw [show (0 : Int32) = nI 0 from rfl, nI_add, Nat.zero_add]
  · rw [es]; omega
  · rw [es]; omega
end DAYS
