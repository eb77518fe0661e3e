/-! the reference: trials in place -/
theorem MOR_hands {s : Nat → Int32} {n i v : Nat} (h : MOR s n) (h1 : 1 ≤ v) (h2 : v ≤ 20) : MOR (upd s (6 + 5 * i + 2) (nI v)) n := by
  refine ⟨by rw [← h.1]; simp [upd], h.2.1, ?_, fun k hk => ?_⟩
  · obtain ⟨w, w1, w2⟩ := h.2.2.1
    exact ⟨w, w1, by simp only [upd]; rw [if_neg (by omega)]; exact w2⟩
  · obtain ⟨a0, a1, a2, a3, a4⟩ := h.2.2.2 k hk
    by_cases c : k = i
    · subst c
      exact ⟨by simpa [upd] using a0, by simpa [upd] using a1, ⟨v, h1, h2, by simp [upd]⟩, by simpa [upd] using a3, by simpa [upd] using a4⟩
    · refine FB_congr (fun j hj => ?_) (h.2.2.2 k hk)
      simp only [upd]
      rw [if_neg (by omega)]
theorem MOR_kind {s : Nat → Int32} {n i v : Nat} (h : MOR s n) (h2 : v < 7) : MOR (upd s (6 + 5 * i) (nI v)) n := by
  refine ⟨by rw [← h.1]; simp only [upd]; rw [if_neg (by omega)], h.2.1, ?_, fun k hk => ?_⟩
  · obtain ⟨w, w1, w2⟩ := h.2.2.1
    exact ⟨w, w1, by simp only [upd]; rw [if_neg (by omega)]; exact w2⟩
  · obtain ⟨a0, a1, a2, a3, a4⟩ := h.2.2.2 k hk
    by_cases c : k = i
    · subst c
      exact ⟨⟨v, h2, by simp [upd]⟩, by simpa [upd] using a1, by simpa [upd] using a2, by simpa [upd] using a3, by simpa [upd] using a4⟩
    · refine FB_congr (fun j hj => ?_) (h.2.2.2 k hk)
      simp only [upd]
      rw [if_neg (by omega)]
theorem MOR_wet {s : Nat → Int32} {n v : Nat} (h : MOR s n) (h2 : v ≤ 99) : MOR (upd s 3 (nI v)) n := by
  refine ⟨by rw [← h.1]; simp [upd], h.2.1, ⟨v, h2, by simp [upd]⟩, fun k hk => ?_⟩
  refine FB_congr (fun j hj => ?_) (h.2.2.2 k hk)
  simp only [upd]
  rw [if_neg (by omega)]
theorem RW.put {mem s : Mem} {r : Nat → Int32} {p : Nat} {v v' x : Int32} (h : RW mem (upd r p v) s) (hx : x = v') : RW mem (upd r p v') (up2 s 51 p x) := by
  subst hx
  refine ⟨?_, fun a a1 a2 => by rw [up2_ne _ _ _ a1]; exact h.2 a a1 a2⟩
  rw [up2_same, h.1]
  funext j
  by_cases c : j = p <;> simp [upd, c]
theorem RW.put0 {mem : Mem} {p : Nat} {v : Int32} : RW mem (upd (mem 51) p v) (up2 mem 51 p v) := ⟨up2_same _ _ _ _, fun _ a1 _ => up2_ne _ _ _ a1⟩
theorem RW.cd0 {mem : Mem} {n p : Nat} {v : Int32} : RW mem (upd (mem 51) p v) (up2 (cdM mem n) 51 p v) := ⟨by rw [up2_same, cd_o _ _ (by decide)], fun a a1 a2 => by rw [up2_ne _ _ _ a1, cd_o _ _ a2]⟩
theorem RW.at {mem s : Mem} {r : Nat → Int32} {p : Nat} {v : Int32} (h : RW mem (upd r p v) s) : s 51 p = v := by
  rw [h.1]
  simp [upd]
theorem QM.fin {mem s : Mem} {p : Nat} {v x : Int32} (h : RW mem (upd (mem 51) p v) s) (hx : x = mem 51 p) : QM mem (up2 s 51 p x) := by
  subst hx
  refine ⟨fun j _ => ?_, fun a a1 _ a3 _ => by rw [up2_ne _ _ _ a1]; exact h.2 a a1 a3⟩
  rw [up2_same, h.1]
  by_cases c : j = p <;> simp [upd, c]
theorem upd_self (r : Nat → Int32) (p : Nat) : upd r p (r p) = r := by
  funext j
  by_cases c : j = p <;> simp [upd, c]
/-- what a search has found so far -/
def FoI (P : Nat → Prop) (lo z : Nat) (fo : Int32) : Prop := (fo = -1 ∧ ∀ y, lo ≤ y → y < z → ¬ P y) ∨ (fo = nI (z - 1) ∧ lo + 1 ≤ z ∧ P (z - 1) ∧ ∀ y, lo ≤ y → y < z - 1 → ¬ P y)
theorem FoI.yes {P : Nat → Prop} {lo z : Nat} {fo : Int32} (h : FoI P lo z fo) (hf : ¬ 0 ≤ fo) (hz : lo ≤ z) (h2 : z < 1000) (hp : P z) : FoI P lo (z + 1) (nI z) := by
  rcases h with h | h
  · exact Or.inr ⟨by simp, by omega, by simpa using hp, fun y h1 h2 => h.2 y h1 (by omega)⟩
  · exact absurd (by rw [h.1]; exact nI_pos' (by omega)) hf
theorem FoI.no {P : Nat → Prop} {lo z : Nat} {fo : Int32} (h : FoI P lo z fo) (hf : ¬ 0 ≤ fo) (h2 : z < 1000) (hp : ¬ P z) : FoI P lo (z + 1) (-1) := by
  rcases h with h | h
  · refine Or.inl ⟨rfl, fun y h1 h2 => ?_⟩
    rcases Nat.lt_or_ge y z with c | c
    · exact h.2 y h1 c
    · rw [show y = z by omega]
      exact hp
  · exact absurd (by rw [h.1]; exact nI_pos' (by omega)) hf
theorem FoI.z {P : Nat → Prop} {lo : Nat} : FoI P lo lo (-1) := Or.inl ⟨rfl, fun y h1 h2 => absurd h1 (by omega)⟩
theorem FoI.fin {P : Nat → Prop} {lo hi z : Nat} {fo x : Int32} {m1 m2 : Mem} (h : FoI P lo z fo) (hz : z ≤ hi + 1) (hl : lo ≤ z) (hh : hi < 1000) (he : z = hi + 1 ∨ 0 ≤ fo) (q : (¬ 0 ≤ fo ∧ x = -1000004 ∧ m2 = fndM m1 3) ∨ (0 ≤ fo ∧ x = fo ∧ m2 = m1)) : ∃ y, Fst P lo hi y ∧ ((y ≤ hi ∧ x = nI y ∧ m2 = m1) ∨ (y = hi + 1 ∧ x = -1000004 ∧ m2 = fndM m1 3)) := by
  have nn : ¬ (0 : Int32) ≤ -1 := by decide
  rcases h with ⟨h1, h2⟩ | ⟨h1, h2, h3, h4⟩
  · rw [h1] at q he
    rcases q with q | q
    · have e : z = hi + 1 := he.resolve_right nn
      subst e
      exact ⟨hi + 1, ⟨hl, Nat.le_refl _, fun y a b => h2 y a b, fun c => absurd c (by omega)⟩, Or.inr ⟨rfl, q.2⟩⟩
    · exact absurd q.1 nn
  · have p0 : 0 ≤ fo := by rw [h1]; exact nI_pos' (by omega)
    rcases q with q | q
    · exact absurd p0 q.1
    · exact ⟨z - 1, ⟨by omega, by omega, fun y a b => h4 y a b, fun _ => h3⟩, Or.inl ⟨by omega, by rw [q.2.1, h1], q.2.2⟩⟩
theorem FoI.fin2 {P : Nat → Prop} {lo hi z : Nat} {fo x : Int32} {mem m1 m2 : Mem} (h : FoI P lo z fo) (hz : z ≤ hi + 1) (hl : lo ≤ z) (hh : hi < 1000) (he : z = hi + 1 ∨ 0 ≤ fo) (q : (¬ 0 ≤ fo ∧ x = -1000004 ∧ m2 = fndM m1 3) ∨ (0 ≤ fo ∧ x = fo ∧ m2 = m1)) (hQ : QM mem m1) : ∃ y, Fst P lo hi y ∧ ((y ≤ hi ∧ x = nI y ∧ QM mem m2) ∨ (y = hi + 1 ∧ x = -1000004 ∧ ∃ m3, QM mem m3 ∧ m2 = fndM m3 3)) := by
  obtain ⟨y, h1, h2 | h2⟩ := h.fin hz hl hh he q
  · exact ⟨y, h1, Or.inl ⟨h2.1, h2.2.1, by rw [h2.2.2]; exact hQ⟩⟩
  · exact ⟨y, h1, Or.inr ⟨h2.1, h2.2.1, m1, hQ, h2.2.2⟩⟩
set_option maxHeartbeats 4000000 in
theorem c6_mostHands {n : Nat} {mem : Mem} (h : MO mem n) (f : Int32) : CnI mX6_mostHands [.ref 50, .int f] mem (fun x m' => (inR f 0 (nI n - 1) = 0 ∧ x = -1000001 ∧ m' = fndM mem 0) ∨ (∃ r, r < n ∧ f = nI r ∧ ∃ y, Fst (fun z => (¬ bitI (lastS (DR (upd (mem 51) (6 + 5 * r + 2) (nI (20 - z)))) n) f = 0)) 0 19 y ∧ ((y ≤ 19 ∧ x = nI (20 - y) ∧ QM mem m') ∨ (y = 20 ∧ x = -1000004 ∧ (∃ m2, QM mem m2 ∧ m' = fndM m2 3))))) := by
  have h8 := h.2.1
  have hR := MO_R.mp h
  refine Cn.of (ls := [some (.ref 50), some (.int f), none, none, none]) (by decide) rfl (Nat.le_of_ble_eq_true rfl) ?_
  refine w_aload_n (i := 0) (n' := 1) dX6_mostHands_0 rfl rfl rfl ?_
  refine w_iload_n (i := 1) (n' := 2) dX6_mostHands_1 rfl rfl rfl ?_
  refine v_E (ci := 6) (n' := 5) dX6_mostHands_2 rfl lRX6_82 okX6_isFarm voX6_isFarm ⟨⟨Nat.le_of_ble_eq_true rfl, Nat.le_of_ble_eq_true rfl⟩, Nat.le_of_ble_eq_true rfl, Nat.le_of_ble_eq_true rfl⟩ (c6_isFarm h.1 h.2.1 _) rfl rfl (Nat.le_of_ble_eq_true rfl) rfl (Nat.le_of_ble_eq_true rfl) rfl ?_
  refine w_if_ne (n' := 8) (tgt := 15) dX6_mostHands_5 rfl rfl (fun h5 => ?_) (fun h5 => ?_)
  · obtain ⟨i, hi1, hi2⟩ := hasF_of (n := n) (by omega) h5
    refine w_bipush (v := 6) (n' := 17) dX6_mostHands_15 rfl (by decide) ?_
    refine w_iconst (v := 5) (n' := 18) dX6_mostHands_17 rfl rfl ?_
    refine w_iload_n (i := 1) (n' := 19) dX6_mostHands_18 rfl rfl rfl ?_
    refine w_imul (n' := 20) dX6_mostHands_19 rfl ?_
    refine w_iadd (n' := 21) dX6_mostHands_20 rfl ?_
    refine w_iconst (v := 2) (n' := 22) dX6_mostHands_21 rfl rfl ?_
    refine w_iadd (n' := 23) dX6_mostHands_22 rfl ?_
    rw [show (6 : Int32) + 5 * f + 2 = nI (6 + 5 * i + 2) from by rw [hi2, show (6 : Int32) = nI 6 from rfl, show (5 : Int32) = nI 5 from rfl, show (2 : Int32) = nI 2 from rfl, pk_mul, nI_add, nI_add]]
    refine w_istore_n (i := 2) (n' := 24) (ls' := [_, _, _, _, _]) dX6_mostHands_23 rfl rfl (Nat.le_of_ble_eq_true rfl) rfl rfl ?_
    refine w_aload_n (i := 0) (n' := 25) dX6_mostHands_24 rfl rfl rfl ?_
    refine w_get (ci := 6) (j := 0) (n' := 28) dX6_mostHands_25 rfl fRX6_7 (Nat.le_of_ble_eq_true rfl) (Nat.le_of_ble_eq_true rfl) rfl rfl ?_
    refine w_iload_n (i := 2) (n' := 29) dX6_mostHands_28 rfl rfl rfl ?_
    refine w_iald (n := 6 + 5 * i + 2) (n' := 30) dX6_mostHands_29 rfl rfl rfl (show 6 + 5 * i + 2 < 56 by omega) ?_
    refine w_istore_n (i := 3) (n' := 31) (ls' := [_, _, _, _, _]) dX6_mostHands_30 rfl rfl (Nat.le_of_ble_eq_true rfl) rfl rfl ?_
    refine w_aload_n (i := 0) (n' := 32) dX6_mostHands_31 rfl rfl rfl ?_
    refine w_get (ci := 6) (j := 0) (n' := 35) dX6_mostHands_32 rfl fRX6_7 (Nat.le_of_ble_eq_true rfl) (Nat.le_of_ble_eq_true rfl) rfl rfl ?_
    refine w_iload_n (i := 2) (n' := 36) dX6_mostHands_35 rfl rfl rfl ?_
    refine w_bipush (v := 20) (n' := 38) dX6_mostHands_36 rfl (by decide) ?_
    refine w_iast (n := 6 + 5 * i + 2) (n' := 39) dX6_mostHands_38 rfl rfl rfl (show 6 + 5 * i + 2 < 56 by omega) ?_
    have L : ∀ (z : Nat) (s : Mem), z ≤ 20 → (RW mem (upd (mem 51) (6 + 5 * i + 2) (nI (20 - z))) s ∧ ∀ y, y < z → ¬ (¬ bitI (lastS (DR (upd (mem 51) (6 + 5 * i + 2) (nI (20 - y)))) n) f = 0)) → Wm mX6_mostHands (zM mX6_mostHands (fun rZ mZ => ∃ xZ, rZ = some (.int xZ) ∧ (fun x m' => (inR f 0 (nI n - 1) = 0 ∧ x = -1000001 ∧ m' = fndM mem 0) ∨ (∃ r, r < n ∧ f = nI r ∧ ∃ y, Fst (fun z => (¬ bitI (lastS (DR (upd (mem 51) (6 + 5 * r + 2) (nI (20 - z)))) n) f = 0)) 0 19 y ∧ ((y ≤ 19 ∧ x = nI (20 - y) ∧ QM mem m') ∨ (y = 20 ∧ x = -1000004 ∧ (∃ m2, QM mem m2 ∧ m' = fndM m2 3))))) xZ mZ)) 39 [some (.ref 50), some (.int f), some (.int (nI (6 + 5 * i + 2))), some (.int (mem 51 (6 + 5 * i + 2))), none] [] s := by
      refine for_ind 20 ?_
      rintro z s hz ⟨h1, h2⟩ ih
      have hv := h1.at
      have hv2 := (h1.cd (n := n)).at
      refine w_aload_n (i := 0) (n' := 40) dX6_mostHands_39 rfl rfl rfl ?_
      refine w_get (ci := 6) (j := 0) (n' := 43) dX6_mostHands_40 rfl fRX6_7 (Nat.le_of_ble_eq_true rfl) (Nat.le_of_ble_eq_true rfl) rfl rfl ?_
      refine w_iload_n (i := 2) (n' := 44) dX6_mostHands_43 rfl rfl rfl ?_
      refine w_iald (n := 6 + 5 * i + 2) (n' := 45) dX6_mostHands_44 rfl rfl rfl (show 6 + 5 * i + 2 < 56 by omega) ?_
      rw [hv]
      refine w_if_le (n' := 48) (tgt := 69) dX6_mostHands_45 rfl rfl (fun h45 => ?_) (fun h45 => ?_)
      · have hin : z = 20 := by
          rcases Nat.lt_or_ge z 20 with q | q
          · exact absurd h45 (nI_nle (n := 20 - z) (by omega) (by omega))
          · omega
        subst hin
        refine w_aload_n (i := 0) (n' := 70) dX6_mostHands_69 rfl rfl rfl ?_
        refine w_get (ci := 6) (j := 0) (n' := 73) dX6_mostHands_70 rfl fRX6_7 (Nat.le_of_ble_eq_true rfl) (Nat.le_of_ble_eq_true rfl) rfl rfl ?_
        refine w_iload_n (i := 2) (n' := 74) dX6_mostHands_73 rfl rfl rfl ?_
        refine w_iald (n := 6 + 5 * i + 2) (n' := 75) dX6_mostHands_74 rfl rfl rfl (show 6 + 5 * i + 2 < 56 by omega) ?_
        rw [hv]
        refine w_istore (n' := 77) (ls' := [_, _, _, _, _]) dX6_mostHands_75 rfl (Nat.le_of_ble_eq_true rfl) rfl rfl ?_
        refine w_aload_n (i := 0) (n' := 78) dX6_mostHands_77 rfl rfl rfl ?_
        refine w_get (ci := 6) (j := 0) (n' := 81) dX6_mostHands_78 rfl fRX6_7 (Nat.le_of_ble_eq_true rfl) (Nat.le_of_ble_eq_true rfl) rfl rfl ?_
        refine w_iload_n (i := 2) (n' := 82) dX6_mostHands_81 rfl rfl rfl ?_
        refine w_iload_n (i := 3) (n' := 83) dX6_mostHands_82 rfl rfl rfl ?_
        refine w_iast (n := 6 + 5 * i + 2) (n' := 84) dX6_mostHands_83 rfl rfl rfl (show 6 + 5 * i + 2 < 56 by omega) ?_
        refine w_iload (n' := 86) dX6_mostHands_84 rfl rfl ?_
        refine w_if_le (n' := 89) (tgt := 94) dX6_mostHands_86 rfl rfl (fun h86 => ?_) (fun h86 => absurd (show nI (20 - 20) ≤ 0 by decide) h86)
        refine w_aload_n (i := 0) (n' := 95) dX6_mostHands_94 rfl rfl rfl ?_
        refine w_ldc (v := -1000004) (n' := 97) dX6_mostHands_95 rfl kRX6_44 ?_
        refine v_E (ci := 6) (n' := 100) dX6_mostHands_97 rfl lRX6_45 okX6_finds voX6_finds ⟨⟨Nat.le_of_ble_eq_true rfl, Nat.le_of_ble_eq_true rfl⟩, Nat.le_of_ble_eq_true rfl, Nat.le_of_ble_eq_true rfl⟩ (c6_finds 3 _ (by decide) (by decide) _) rfl rfl (Nat.le_of_ble_eq_true rfl) rfl (Nat.le_of_ble_eq_true rfl) rfl ?_
        exact w_iret dX6_mostHands_100 rfl ⟨_, rfl, Or.inr ⟨i, hi1, hi2, 20, ⟨Nat.zero_le _, by omega, fun z _ hz => h2 z hz, fun hh => absurd hh (by decide)⟩, Or.inr ⟨rfl, rfl, _, QM.fin h1 rfl, rfl⟩⟩⟩
      · have hlt : z < 20 := by
          rcases Nat.lt_or_ge z 20 with q | q
          · exact q
          · exact absurd (show nI (20 - z) ≤ 0 by rw [show 20 - z = 0 by omega]; decide) h45
        have hp := h1.MO (MOR_hands hR (by omega) (by omega))
        refine w_aload_n (i := 0) (n' := 49) dX6_mostHands_48 rfl rfl rfl ?_
        refine w_iload_n (i := 1) (n' := 50) dX6_mostHands_49 rfl rfl rfl ?_
        refine v_E (ci := 6) (n' := 53) dX6_mostHands_50 rfl lRX6_171 okX6_isLast voX6_isLast ⟨⟨Nat.le_of_ble_eq_true rfl, Nat.le_of_ble_eq_true rfl⟩, Nat.le_of_ble_eq_true rfl, Nat.le_of_ble_eq_true rfl⟩ (c6_isLast hp _) rfl rfl (Nat.le_of_ble_eq_true rfl) rfl (Nat.le_of_ble_eq_true rfl) rfl ?_
        refine w_if_ne (n' := 56) (tgt := 69) dX6_mostHands_53 rfl rfl (fun h53 => ?_) (fun h53 => ?_)
        · refine w_aload_n (i := 0) (n' := 70) dX6_mostHands_69 rfl rfl rfl ?_
          refine w_get (ci := 6) (j := 0) (n' := 73) dX6_mostHands_70 rfl fRX6_7 (Nat.le_of_ble_eq_true rfl) (Nat.le_of_ble_eq_true rfl) rfl rfl ?_
          refine w_iload_n (i := 2) (n' := 74) dX6_mostHands_73 rfl rfl rfl ?_
          refine w_iald (n := 6 + 5 * i + 2) (n' := 75) dX6_mostHands_74 rfl rfl rfl (show 6 + 5 * i + 2 < 56 by omega) ?_
          rw [hv2]
          refine w_istore (n' := 77) (ls' := [_, _, _, _, _]) dX6_mostHands_75 rfl (Nat.le_of_ble_eq_true rfl) rfl rfl ?_
          refine w_aload_n (i := 0) (n' := 78) dX6_mostHands_77 rfl rfl rfl ?_
          refine w_get (ci := 6) (j := 0) (n' := 81) dX6_mostHands_78 rfl fRX6_7 (Nat.le_of_ble_eq_true rfl) (Nat.le_of_ble_eq_true rfl) rfl rfl ?_
          refine w_iload_n (i := 2) (n' := 82) dX6_mostHands_81 rfl rfl rfl ?_
          refine w_iload_n (i := 3) (n' := 83) dX6_mostHands_82 rfl rfl rfl ?_
          refine w_iast (n := 6 + 5 * i + 2) (n' := 84) dX6_mostHands_83 rfl rfl rfl (show 6 + 5 * i + 2 < 56 by omega) ?_
          refine w_iload (n' := 86) dX6_mostHands_84 rfl rfl ?_
          refine w_if_le (n' := 89) (tgt := 94) dX6_mostHands_86 rfl rfl (fun h86 => absurd h86 (nI_nle (n := 20 - z) (by omega) (by omega))) (fun h86 => ?_)
          refine w_iload (n' := 91) dX6_mostHands_89 rfl rfl ?_
          refine w_goto (tgt := 100) dX6_mostHands_91 rfl ?_
          exact w_iret dX6_mostHands_100 rfl ⟨_, rfl, Or.inr ⟨i, hi1, hi2, z, ⟨Nat.zero_le _, by omega, fun z _ hz => h2 z hz, fun _ q => h53 (by rw [h1.DM]; exact q)⟩, Or.inl ⟨by omega, rfl, QM.fin h1.cd rfl⟩⟩⟩
        · refine w_aload_n (i := 0) (n' := 57) dX6_mostHands_56 rfl rfl rfl ?_
          refine w_get (ci := 6) (j := 0) (n' := 60) dX6_mostHands_57 rfl fRX6_7 (Nat.le_of_ble_eq_true rfl) (Nat.le_of_ble_eq_true rfl) rfl rfl ?_
          refine w_iload_n (i := 2) (n' := 61) dX6_mostHands_60 rfl rfl rfl ?_
          refine w_dup2 (n' := 62) dX6_mostHands_61 rfl rfl rfl ?_
          refine w_iald (n := 6 + 5 * i + 2) (n' := 63) dX6_mostHands_62 rfl rfl rfl (show 6 + 5 * i + 2 < 56 by omega) ?_
          refine w_iconst (v := 1) (n' := 64) dX6_mostHands_63 rfl rfl ?_
          refine w_isub (n' := 65) dX6_mostHands_64 rfl ?_
          refine w_iast (n := 6 + 5 * i + 2) (n' := 66) dX6_mostHands_65 rfl rfl rfl (show 6 + 5 * i + 2 < 56 by omega) ?_
          refine w_goto (tgt := 39) dX6_mostHands_66 rfl ?_
          exact ih hlt _ ⟨h1.cd.put (by rw [hv2, show (1 : Int32) = nI 1 from rfl, pk_sub (by omega)]; congr 1), fun y hy => by
            rcases Nat.lt_or_ge y z with q | q
            · exact h2 y q
            · rw [show y = z by omega, ← h1.DM]; exact fun q => q h53⟩
    exact L 0 _ (Nat.zero_le _) ⟨RW.put0, fun z hz => absurd hz (by omega)⟩
  · refine w_aload_n (i := 0) (n' := 9) dX6_mostHands_8 rfl rfl rfl ?_
    refine w_ldc (v := -1000001) (n' := 11) dX6_mostHands_9 rfl kRX6_43 ?_
    refine v_E (ci := 6) (n' := 14) dX6_mostHands_11 rfl lRX6_45 okX6_finds voX6_finds ⟨⟨Nat.le_of_ble_eq_true rfl, Nat.le_of_ble_eq_true rfl⟩, Nat.le_of_ble_eq_true rfl, Nat.le_of_ble_eq_true rfl⟩ (c6_finds 0 _ (by decide) (by decide) _) rfl rfl (Nat.le_of_ble_eq_true rfl) rfl (Nat.le_of_ble_eq_true rfl) rfl ?_
    exact w_iret dX6_mostHands_14 rfl ⟨_, rfl, Or.inl ⟨by simpa using h5, rfl, rfl⟩⟩
set_option maxHeartbeats 4000000 in
theorem c6_fewestHands {n : Nat} {mem : Mem} (h : MO mem n) (f : Int32) : CnI mX6_fewestHands [.ref 50, .int f] mem (fun x m' => (inR f 0 (nI n - 1) = 0 ∧ x = -1000001 ∧ m' = fndM mem 0) ∨ (∃ r, r < n ∧ f = nI r ∧ ∃ y, Fst (fun z => (¬ bitI (firstS (DR (upd (mem 51) (6 + 5 * r + 2) (nI z))) n) f = 0)) 1 20 y ∧ ((y ≤ 20 ∧ x = nI y ∧ QM mem m') ∨ (y = 21 ∧ x = -1000004 ∧ (∃ m2, QM mem m2 ∧ m' = fndM m2 3))))) := by
  have h8 := h.2.1
  have hR := MO_R.mp h
  refine Cn.of (ls := [some (.ref 50), some (.int f), none, none, none, none]) (by decide) rfl (Nat.le_of_ble_eq_true rfl) ?_
  refine w_aload_n (i := 0) (n' := 1) dX6_fewestHands_0 rfl rfl rfl ?_
  refine w_iload_n (i := 1) (n' := 2) dX6_fewestHands_1 rfl rfl rfl ?_
  refine v_E (ci := 6) (n' := 5) dX6_fewestHands_2 rfl lRX6_82 okX6_isFarm voX6_isFarm ⟨⟨Nat.le_of_ble_eq_true rfl, Nat.le_of_ble_eq_true rfl⟩, Nat.le_of_ble_eq_true rfl, Nat.le_of_ble_eq_true rfl⟩ (c6_isFarm h.1 h.2.1 _) rfl rfl (Nat.le_of_ble_eq_true rfl) rfl (Nat.le_of_ble_eq_true rfl) rfl ?_
  refine w_if_ne (n' := 8) (tgt := 15) dX6_fewestHands_5 rfl rfl (fun h5 => ?_) (fun h5 => ?_)
  · obtain ⟨i, hi1, hi2⟩ := hasF_of (n := n) (by omega) h5
    refine w_bipush (v := 6) (n' := 17) dX6_fewestHands_15 rfl (by decide) ?_
    refine w_iconst (v := 5) (n' := 18) dX6_fewestHands_17 rfl rfl ?_
    refine w_iload_n (i := 1) (n' := 19) dX6_fewestHands_18 rfl rfl rfl ?_
    refine w_imul (n' := 20) dX6_fewestHands_19 rfl ?_
    refine w_iadd (n' := 21) dX6_fewestHands_20 rfl ?_
    refine w_iconst (v := 2) (n' := 22) dX6_fewestHands_21 rfl rfl ?_
    refine w_iadd (n' := 23) dX6_fewestHands_22 rfl ?_
    rw [show (6 : Int32) + 5 * f + 2 = nI (6 + 5 * i + 2) from by rw [hi2, show (6 : Int32) = nI 6 from rfl, show (5 : Int32) = nI 5 from rfl, show (2 : Int32) = nI 2 from rfl, pk_mul, nI_add, nI_add]]
    refine w_istore_n (i := 2) (n' := 24) (ls' := [_, _, _, _, _, _]) dX6_fewestHands_23 rfl rfl (Nat.le_of_ble_eq_true rfl) rfl rfl ?_
    refine w_aload_n (i := 0) (n' := 25) dX6_fewestHands_24 rfl rfl rfl ?_
    refine w_get (ci := 6) (j := 0) (n' := 28) dX6_fewestHands_25 rfl fRX6_7 (Nat.le_of_ble_eq_true rfl) (Nat.le_of_ble_eq_true rfl) rfl rfl ?_
    refine w_iload_n (i := 2) (n' := 29) dX6_fewestHands_28 rfl rfl rfl ?_
    refine w_iald (n := 6 + 5 * i + 2) (n' := 30) dX6_fewestHands_29 rfl rfl rfl (show 6 + 5 * i + 2 < 56 by omega) ?_
    refine w_istore_n (i := 3) (n' := 31) (ls' := [_, _, _, _, _, _]) dX6_fewestHands_30 rfl rfl (Nat.le_of_ble_eq_true rfl) rfl rfl ?_
    refine w_iconst (v := -1) (n' := 32) dX6_fewestHands_31 rfl rfl ?_
    refine w_istore (n' := 34) (ls' := [_, _, _, _, _, _]) dX6_fewestHands_32 rfl (Nat.le_of_ble_eq_true rfl) rfl rfl ?_
    refine w_iconst (v := 1) (n' := 35) dX6_fewestHands_34 rfl rfl ?_
    refine w_istore (n' := 37) (ls' := [_, _, _, _, _, _]) dX6_fewestHands_35 rfl (Nat.le_of_ble_eq_true rfl) rfl rfl ?_
    have L : ∀ (z : Nat) (st : Int32 × Mem), z ≤ 21 → (1 ≤ z ∧ (∃ v, RW mem (upd (mem 51) (6 + 5 * i + 2) v) st.2) ∧ FoI (fun z => (¬ bitI (firstS (DR (upd (mem 51) (6 + 5 * i + 2) (nI z))) n) f = 0)) 1 z st.1) → Wm mX6_fewestHands (zM mX6_fewestHands (fun rZ mZ => ∃ xZ, rZ = some (.int xZ) ∧ (fun x m' => (inR f 0 (nI n - 1) = 0 ∧ x = -1000001 ∧ m' = fndM mem 0) ∨ (∃ r, r < n ∧ f = nI r ∧ ∃ y, Fst (fun z => (¬ bitI (firstS (DR (upd (mem 51) (6 + 5 * r + 2) (nI z))) n) f = 0)) 1 20 y ∧ ((y ≤ 20 ∧ x = nI y ∧ QM mem m') ∨ (y = 21 ∧ x = -1000004 ∧ (∃ m2, QM mem m2 ∧ m' = fndM m2 3))))) xZ mZ)) 37 [some (.ref 50), some (.int f), some (.int (nI (6 + 5 * i + 2))), some (.int (mem 51 (6 + 5 * i + 2))), some (.int st.1), some (.int (nI z))] [] st.2 := by
      refine for_ind 21 ?_
      rintro z ⟨fo, s⟩ hz ⟨hz0, ⟨v, h1⟩, h2⟩ ih
      dsimp only at h1 h2 ih ⊢
      refine w_iload (n' := 39) dX6_fewestHands_37 rfl rfl ?_
      refine w_bipush (v := 20) (n' := 41) dX6_fewestHands_39 rfl (by decide) ?_
      refine w_icmp_gt (n' := 44) (tgt := 87) dX6_fewestHands_41 rfl rfl (fun h41 => ?_) (fun h41 => ?_)
      · have hin : z = 21 := by
          rcases Nat.lt_or_ge z 21 with q | q
          · exact absurd h41 (nI_nlt (a := 20) (b := z) (by omega) (by decide))
          · omega
        subst hin
        refine w_aload_n (i := 0) (n' := 88) dX6_fewestHands_87 rfl rfl rfl ?_
        refine w_get (ci := 6) (j := 0) (n' := 91) dX6_fewestHands_88 rfl fRX6_7 (Nat.le_of_ble_eq_true rfl) (Nat.le_of_ble_eq_true rfl) rfl rfl ?_
        refine w_iload_n (i := 2) (n' := 92) dX6_fewestHands_91 rfl rfl rfl ?_
        refine w_iload_n (i := 3) (n' := 93) dX6_fewestHands_92 rfl rfl rfl ?_
        refine w_iast (n := 6 + 5 * i + 2) (n' := 94) dX6_fewestHands_93 rfl rfl rfl (show 6 + 5 * i + 2 < 56 by omega) ?_
        refine w_aload_n (i := 0) (n' := 95) dX6_fewestHands_94 rfl rfl rfl ?_
        refine w_iload (n' := 97) dX6_fewestHands_95 rfl rfl ?_
        refine v_I (ci := 6) (n' := 100) dX6_fewestHands_97 rfl lRX6_174 okX6_orNone voX6_orNone ⟨⟨Nat.le_of_ble_eq_true rfl, Nat.le_of_ble_eq_true rfl⟩, Nat.le_of_ble_eq_true rfl, Nat.le_of_ble_eq_true rfl⟩ (c6_orNone _ _) rfl rfl (Nat.le_of_ble_eq_true rfl) rfl (Nat.le_of_ble_eq_true rfl) rfl (fun x97 m97 q97 => ?_)
        exact w_iret dX6_fewestHands_100 rfl ⟨_, rfl, Or.inr ⟨i, hi1, hi2, FoI.fin2 h2 hz hz0 (by decide) (Or.inl rfl) q97 (QM.fin h1 rfl)⟩⟩
      · have hlt : z < 21 := by
          rcases Nat.lt_or_ge z 21 with q | q
          · exact q
          · exact absurd (nI_lt (a := 20) (b := z) (by omega) (by omega)) h41
        refine w_iload (n' := 46) dX6_fewestHands_44 rfl rfl ?_
        refine w_if_ge (n' := 49) (tgt := 87) dX6_fewestHands_46 rfl rfl (fun h46 => ?_) (fun h46 => ?_)
        · refine w_aload_n (i := 0) (n' := 88) dX6_fewestHands_87 rfl rfl rfl ?_
          refine w_get (ci := 6) (j := 0) (n' := 91) dX6_fewestHands_88 rfl fRX6_7 (Nat.le_of_ble_eq_true rfl) (Nat.le_of_ble_eq_true rfl) rfl rfl ?_
          refine w_iload_n (i := 2) (n' := 92) dX6_fewestHands_91 rfl rfl rfl ?_
          refine w_iload_n (i := 3) (n' := 93) dX6_fewestHands_92 rfl rfl rfl ?_
          refine w_iast (n := 6 + 5 * i + 2) (n' := 94) dX6_fewestHands_93 rfl rfl rfl (show 6 + 5 * i + 2 < 56 by omega) ?_
          refine w_aload_n (i := 0) (n' := 95) dX6_fewestHands_94 rfl rfl rfl ?_
          refine w_iload (n' := 97) dX6_fewestHands_95 rfl rfl ?_
          refine v_I (ci := 6) (n' := 100) dX6_fewestHands_97 rfl lRX6_174 okX6_orNone voX6_orNone ⟨⟨Nat.le_of_ble_eq_true rfl, Nat.le_of_ble_eq_true rfl⟩, Nat.le_of_ble_eq_true rfl, Nat.le_of_ble_eq_true rfl⟩ (c6_orNone _ _) rfl rfl (Nat.le_of_ble_eq_true rfl) rfl (Nat.le_of_ble_eq_true rfl) rfl (fun x97 m97 q97 => ?_)
          exact w_iret dX6_fewestHands_100 rfl ⟨_, rfl, Or.inr ⟨i, hi1, hi2, FoI.fin2 h2 hz hz0 (by decide) (Or.inr h46) q97 (QM.fin h1 rfl)⟩⟩
        · refine w_aload_n (i := 0) (n' := 50) dX6_fewestHands_49 rfl rfl rfl ?_
          refine w_get (ci := 6) (j := 0) (n' := 53) dX6_fewestHands_50 rfl fRX6_7 (Nat.le_of_ble_eq_true rfl) (Nat.le_of_ble_eq_true rfl) rfl rfl ?_
          refine w_iload_n (i := 2) (n' := 54) dX6_fewestHands_53 rfl rfl rfl ?_
          refine w_iload (n' := 56) dX6_fewestHands_54 rfl rfl ?_
          refine w_iast (n := 6 + 5 * i + 2) (n' := 57) dX6_fewestHands_56 rfl rfl rfl (show 6 + 5 * i + 2 < 56 by omega) ?_
          have h3 := h1.put (v' := nI z) rfl
          have hp := h3.MO (MOR_hands hR (by omega) (by omega))
          refine w_aload_n (i := 0) (n' := 58) dX6_fewestHands_57 rfl rfl rfl ?_
          refine v_E (ci := 6) (n' := 61) dX6_fewestHands_58 rfl lRX6_109 okX6_countsDays voX6_countsDays ⟨⟨Nat.le_of_ble_eq_true rfl, Nat.le_of_ble_eq_true rfl⟩, Nat.le_of_ble_eq_true rfl, Nat.le_of_ble_eq_true rfl⟩ (c6_countsDays hp) rfl rfl (Nat.le_of_ble_eq_true rfl) rfl (Nat.le_of_ble_eq_true rfl) rfl ?_
          refine w_aload_n (i := 0) (n' := 62) dX6_fewestHands_61 rfl rfl rfl ?_
          refine v_E (ci := 6) (n' := 65) dX6_fewestHands_62 rfl lRX6_122 okX6_firsts voX6_firsts ⟨⟨Nat.le_of_ble_eq_true rfl, Nat.le_of_ble_eq_true rfl⟩, Nat.le_of_ble_eq_true rfl, Nat.le_of_ble_eq_true rfl⟩ (c6_firsts (cd_MO hp).1 h8) rfl rfl (Nat.le_of_ble_eq_true rfl) rfl (Nat.le_of_ble_eq_true rfl) rfl ?_
          rw [cd_first, h3.DM]
          refine w_iload_n (i := 1) (n' := 66) dX6_fewestHands_65 rfl rfl rfl ?_
          refine w_ishr (n' := 67) dX6_fewestHands_66 rfl ?_
          refine w_iconst (v := 1) (n' := 68) dX6_fewestHands_67 rfl rfl ?_
          refine w_iand (n' := 69) dX6_fewestHands_68 rfl ?_
          refine w_iconst (v := 1) (n' := 70) dX6_fewestHands_69 rfl rfl ?_
          refine w_icmp_ne (n' := 73) (tgt := 78) dX6_fewestHands_70 rfl rfl (fun h70 => ?_) (fun h70 => ?_)
          · refine w_iconst (v := -1) (n' := 79) dX6_fewestHands_78 rfl rfl ?_
            refine w_istore (n' := 81) (ls' := [_, _, _, _, _, _]) dX6_fewestHands_79 rfl (Nat.le_of_ble_eq_true rfl) rfl rfl ?_
            refine w_iinc (n' := 84) (v := nI (z + 1)) (ls' := [_, _, _, _, _, _]) dX6_fewestHands_81 rfl rfl (nI_1 z) (Nat.le_of_ble_eq_true rfl) rfl rfl ?_
            refine w_goto (tgt := 37) dX6_fewestHands_84 rfl ?_
            exact ih hlt (_, _) ⟨by omega, ⟨_, h3.cd⟩, h2.no h46 (by omega) (fun q => q (by rw [bitI, if_neg h70]))⟩
          · refine w_iload (n' := 75) dX6_fewestHands_73 rfl rfl ?_
            refine w_goto (tgt := 79) dX6_fewestHands_75 rfl ?_
            refine w_istore (n' := 81) (ls' := [_, _, _, _, _, _]) dX6_fewestHands_79 rfl (Nat.le_of_ble_eq_true rfl) rfl rfl ?_
            refine w_iinc (n' := 84) (v := nI (z + 1)) (ls' := [_, _, _, _, _, _]) dX6_fewestHands_81 rfl rfl (nI_1 z) (Nat.le_of_ble_eq_true rfl) rfl rfl ?_
            refine w_goto (tgt := 37) dX6_fewestHands_84 rfl ?_
            exact ih hlt (_, _) ⟨by omega, ⟨_, h3.cd⟩, h2.yes h46 hz0 (by omega) (by show ¬ bitI _ _ = 0; rw [bitI, if_pos h70]; decide)⟩
    exact L 1 (_, _) (by omega) ⟨Nat.le_refl _, ⟨_, by have := RW.rf mem; rw [← upd_self (mem 51) (6 + 5 * i + 2)] at this; exact this⟩, FoI.z⟩
  · refine w_aload_n (i := 0) (n' := 9) dX6_fewestHands_8 rfl rfl rfl ?_
    refine w_ldc (v := -1000001) (n' := 11) dX6_fewestHands_9 rfl kRX6_43 ?_
    refine v_E (ci := 6) (n' := 14) dX6_fewestHands_11 rfl lRX6_45 okX6_finds voX6_finds ⟨⟨Nat.le_of_ble_eq_true rfl, Nat.le_of_ble_eq_true rfl⟩, Nat.le_of_ble_eq_true rfl, Nat.le_of_ble_eq_true rfl⟩ (c6_finds 0 _ (by decide) (by decide) _) rfl rfl (Nat.le_of_ble_eq_true rfl) rfl (Nat.le_of_ble_eq_true rfl) rfl ?_
    exact w_iret dX6_fewestHands_14 rfl ⟨_, rfl, Or.inl ⟨by simpa using h5, rfl, rfl⟩⟩
set_option maxHeartbeats 4000000 in
theorem c6_kinds {n : Nat} {mem : Mem} (h : MO mem n) (f : Int32) : CnI mX6_kinds [.ref 50, .int f] mem (fun x m' => (inR f 0 (nI n - 1) = 0 ∧ x = -1000001 ∧ m' = fndM mem 0) ∨ (∃ r, r < n ∧ f = nI r ∧ x = bitT (fun z => decide (¬ bitI (lastS (DR (upd (mem 51) (6 + 5 * r) (nI z))) n) f = 0)) 7 ∧ QM mem m')) := by
  have h8 := h.2.1
  have hR := MO_R.mp h
  refine Cn.of (ls := [some (.ref 50), some (.int f), none, none, none, none]) (by decide) rfl (Nat.le_of_ble_eq_true rfl) ?_
  refine w_aload_n (i := 0) (n' := 1) dX6_kinds_0 rfl rfl rfl ?_
  refine w_iload_n (i := 1) (n' := 2) dX6_kinds_1 rfl rfl rfl ?_
  refine v_E (ci := 6) (n' := 5) dX6_kinds_2 rfl lRX6_82 okX6_isFarm voX6_isFarm ⟨⟨Nat.le_of_ble_eq_true rfl, Nat.le_of_ble_eq_true rfl⟩, Nat.le_of_ble_eq_true rfl, Nat.le_of_ble_eq_true rfl⟩ (c6_isFarm h.1 h.2.1 _) rfl rfl (Nat.le_of_ble_eq_true rfl) rfl (Nat.le_of_ble_eq_true rfl) rfl ?_
  refine w_if_ne (n' := 8) (tgt := 15) dX6_kinds_5 rfl rfl (fun h5 => ?_) (fun h5 => ?_)
  · obtain ⟨i, hi1, hi2⟩ := hasF_of (n := n) (by omega) h5
    refine w_bipush (v := 6) (n' := 17) dX6_kinds_15 rfl (by decide) ?_
    refine w_iconst (v := 5) (n' := 18) dX6_kinds_17 rfl rfl ?_
    refine w_iload_n (i := 1) (n' := 19) dX6_kinds_18 rfl rfl rfl ?_
    refine w_imul (n' := 20) dX6_kinds_19 rfl ?_
    refine w_iadd (n' := 21) dX6_kinds_20 rfl ?_
    rw [show (6 : Int32) + 5 * f = nI (6 + 5 * i) from by rw [hi2, show (6 : Int32) = nI 6 from rfl, show (5 : Int32) = nI 5 from rfl, pk_mul, nI_add]]
    refine w_istore_n (i := 2) (n' := 22) (ls' := [_, _, _, _, _, _]) dX6_kinds_21 rfl rfl (Nat.le_of_ble_eq_true rfl) rfl rfl ?_
    refine w_aload_n (i := 0) (n' := 23) dX6_kinds_22 rfl rfl rfl ?_
    refine w_get (ci := 6) (j := 0) (n' := 26) dX6_kinds_23 rfl fRX6_7 (Nat.le_of_ble_eq_true rfl) (Nat.le_of_ble_eq_true rfl) rfl rfl ?_
    refine w_iload_n (i := 2) (n' := 27) dX6_kinds_26 rfl rfl rfl ?_
    refine w_iald (n := 6 + 5 * i) (n' := 28) dX6_kinds_27 rfl rfl rfl (show 6 + 5 * i < 56 by omega) ?_
    refine w_istore_n (i := 3) (n' := 29) (ls' := [_, _, _, _, _, _]) dX6_kinds_28 rfl rfl (Nat.le_of_ble_eq_true rfl) rfl rfl ?_
    refine w_iconst (v := 0) (n' := 30) dX6_kinds_29 rfl rfl ?_
    refine w_istore (n' := 32) (ls' := [_, _, _, _, _, _]) dX6_kinds_30 rfl (Nat.le_of_ble_eq_true rfl) rfl rfl ?_
    refine w_iconst (v := 0) (n' := 33) dX6_kinds_32 rfl rfl ?_
    refine w_istore (n' := 35) (ls' := [_, _, _, _, _, _]) dX6_kinds_33 rfl (Nat.le_of_ble_eq_true rfl) rfl rfl ?_
    have L : ∀ (z : Nat) (st : Int32 × Mem), z ≤ 7 → ((∃ v, RW mem (upd (mem 51) (6 + 5 * i) v) st.2) ∧ st.1 = bitT (fun z => decide (¬ bitI (lastS (DR (upd (mem 51) (6 + 5 * i) (nI z))) n) f = 0)) z) → Wm mX6_kinds (zM mX6_kinds (fun rZ mZ => ∃ xZ, rZ = some (.int xZ) ∧ (fun x m' => (inR f 0 (nI n - 1) = 0 ∧ x = -1000001 ∧ m' = fndM mem 0) ∨ (∃ r, r < n ∧ f = nI r ∧ x = bitT (fun z => decide (¬ bitI (lastS (DR (upd (mem 51) (6 + 5 * r) (nI z))) n) f = 0)) 7 ∧ QM mem m')) xZ mZ)) 35 [some (.ref 50), some (.int f), some (.int (nI (6 + 5 * i))), some (.int (mem 51 (6 + 5 * i))), some (.int st.1), some (.int (nI z))] [] st.2 := by
      refine for_ind 7 ?_
      rintro z ⟨fo, s⟩ hz ⟨⟨v, h1⟩, h2⟩ ih
      dsimp only at h1 h2 ih ⊢
      refine w_iload (n' := 37) dX6_kinds_35 rfl rfl ?_
      refine w_bipush (v := 6) (n' := 39) dX6_kinds_37 rfl (by decide) ?_
      refine w_icmp_gt (n' := 42) (tgt := 77) dX6_kinds_39 rfl rfl (fun h39 => ?_) (fun h39 => ?_)
      · have hin : z = 7 := by
          rcases Nat.lt_or_ge z 7 with q | q
          · exact absurd h39 (nI_nlt (a := 6) (b := z) (by omega) (by decide))
          · omega
        subst hin
        refine w_aload_n (i := 0) (n' := 78) dX6_kinds_77 rfl rfl rfl ?_
        refine w_get (ci := 6) (j := 0) (n' := 81) dX6_kinds_78 rfl fRX6_7 (Nat.le_of_ble_eq_true rfl) (Nat.le_of_ble_eq_true rfl) rfl rfl ?_
        refine w_iload_n (i := 2) (n' := 82) dX6_kinds_81 rfl rfl rfl ?_
        refine w_iload_n (i := 3) (n' := 83) dX6_kinds_82 rfl rfl rfl ?_
        refine w_iast (n := 6 + 5 * i) (n' := 84) dX6_kinds_83 rfl rfl rfl (show 6 + 5 * i < 56 by omega) ?_
        refine w_iload (n' := 86) dX6_kinds_84 rfl rfl ?_
        exact w_iret dX6_kinds_86 rfl ⟨_, rfl, Or.inr ⟨i, hi1, hi2, h2, QM.fin h1 rfl⟩⟩
      · have hlt : z < 7 := by
          rcases Nat.lt_or_ge z 7 with q | q
          · exact q
          · exact absurd (nI_lt (a := 6) (b := z) (by omega) (by omega)) h39
        refine w_aload_n (i := 0) (n' := 43) dX6_kinds_42 rfl rfl rfl ?_
        refine w_get (ci := 6) (j := 0) (n' := 46) dX6_kinds_43 rfl fRX6_7 (Nat.le_of_ble_eq_true rfl) (Nat.le_of_ble_eq_true rfl) rfl rfl ?_
        refine w_iload_n (i := 2) (n' := 47) dX6_kinds_46 rfl rfl rfl ?_
        refine w_iload (n' := 49) dX6_kinds_47 rfl rfl ?_
        refine w_iast (n := 6 + 5 * i) (n' := 50) dX6_kinds_49 rfl rfl rfl (show 6 + 5 * i < 56 by omega) ?_
        have h3 := h1.put (v' := nI z) rfl
        have hp := h3.MO (MOR_kind hR (by omega))
        refine w_iload (n' := 52) dX6_kinds_50 rfl rfl ?_
        refine w_aload_n (i := 0) (n' := 53) dX6_kinds_52 rfl rfl rfl ?_
        refine w_iload_n (i := 1) (n' := 54) dX6_kinds_53 rfl rfl rfl ?_
        refine v_E (ci := 6) (n' := 57) dX6_kinds_54 rfl lRX6_171 okX6_isLast voX6_isLast ⟨⟨Nat.le_of_ble_eq_true rfl, Nat.le_of_ble_eq_true rfl⟩, Nat.le_of_ble_eq_true rfl, Nat.le_of_ble_eq_true rfl⟩ (c6_isLast hp _) rfl rfl (Nat.le_of_ble_eq_true rfl) rfl (Nat.le_of_ble_eq_true rfl) rfl ?_
        refine w_if_eq (n' := 60) (tgt := 67) dX6_kinds_57 rfl rfl (fun h57 => ?_) (fun h57 => ?_)
        · refine w_iconst (v := 0) (n' := 68) dX6_kinds_67 rfl rfl ?_
          refine w_ior (n' := 69) dX6_kinds_68 rfl ?_
          refine w_istore (n' := 71) (ls' := [_, _, _, _, _, _]) dX6_kinds_69 rfl (Nat.le_of_ble_eq_true rfl) rfl rfl ?_
          refine w_iinc (n' := 74) (v := nI (z + 1)) (ls' := [_, _, _, _, _, _]) dX6_kinds_71 rfl rfl (nI_1 z) (Nat.le_of_ble_eq_true rfl) rfl rfl ?_
          refine w_goto (tgt := 35) dX6_kinds_74 rfl ?_
          exact ih hlt (_, _) ⟨⟨_, h3.cd⟩, by rw [h2, or_0, bitT, if_neg (by rw [decide_eq_true_iff]; exact fun q => q (by rw [← h3.DM]; exact h57))]⟩
        · refine w_iconst (v := 1) (n' := 61) dX6_kinds_60 rfl rfl ?_
          refine w_iload (n' := 63) dX6_kinds_61 rfl rfl ?_
          refine w_ishl (n' := 64) dX6_kinds_63 rfl ?_
          refine w_goto (tgt := 68) dX6_kinds_64 rfl ?_
          refine w_ior (n' := 69) dX6_kinds_68 rfl ?_
          refine w_istore (n' := 71) (ls' := [_, _, _, _, _, _]) dX6_kinds_69 rfl (Nat.le_of_ble_eq_true rfl) rfl rfl ?_
          refine w_iinc (n' := 74) (v := nI (z + 1)) (ls' := [_, _, _, _, _, _]) dX6_kinds_71 rfl rfl (nI_1 z) (Nat.le_of_ble_eq_true rfl) rfl rfl ?_
          refine w_goto (tgt := 35) dX6_kinds_74 rfl ?_
          exact ih hlt (_, _) ⟨⟨_, h3.cd⟩, by rw [h2, bitT, if_pos (by rw [decide_eq_true_iff, ← h3.DM]; exact h57)]⟩
    exact L 0 (_, _) (by omega) ⟨⟨_, by have := RW.rf mem; rw [← upd_self (mem 51) (6 + 5 * i)] at this; exact this⟩, rfl⟩
  · refine w_aload_n (i := 0) (n' := 9) dX6_kinds_8 rfl rfl rfl ?_
    refine w_ldc (v := -1000001) (n' := 11) dX6_kinds_9 rfl kRX6_43 ?_
    refine v_E (ci := 6) (n' := 14) dX6_kinds_11 rfl lRX6_45 okX6_finds voX6_finds ⟨⟨Nat.le_of_ble_eq_true rfl, Nat.le_of_ble_eq_true rfl⟩, Nat.le_of_ble_eq_true rfl, Nat.le_of_ble_eq_true rfl⟩ (c6_finds 0 _ (by decide) (by decide) _) rfl rfl (Nat.le_of_ble_eq_true rfl) rfl (Nat.le_of_ble_eq_true rfl) rfl ?_
    exact w_iret dX6_kinds_14 rfl ⟨_, rfl, Or.inl ⟨by simpa using h5, rfl, rfl⟩⟩
set_option maxHeartbeats 4000000 in
theorem c6_wetFor {n : Nat} {mem : Mem} (h : MO mem n) (f : Int32) : CnI mX6_wetFor [.ref 50, .int f] mem (fun x m' => (inR f 0 (nI n - 1) = 0 ∧ x = -1000001 ∧ m' = fndM mem 0) ∨ (∃ r, r < n ∧ f = nI r ∧ ∃ y, Fst (fun z => (¬ bitI (lastS (DR (upd (mem 51) 3 (nI z))) n) f = 0)) 0 99 y ∧ ((y ≤ 99 ∧ x = nI y ∧ QM mem m') ∨ (y = 100 ∧ x = -1000004 ∧ (∃ m2, QM mem m2 ∧ m' = fndM m2 3))))) := by
  have h8 := h.2.1
  have hR := MO_R.mp h
  refine Cn.of (ls := [some (.ref 50), some (.int f), none, none]) (by decide) rfl (Nat.le_of_ble_eq_true rfl) ?_
  refine w_aload_n (i := 0) (n' := 1) dX6_wetFor_0 rfl rfl rfl ?_
  refine w_iload_n (i := 1) (n' := 2) dX6_wetFor_1 rfl rfl rfl ?_
  refine v_E (ci := 6) (n' := 5) dX6_wetFor_2 rfl lRX6_82 okX6_isFarm voX6_isFarm ⟨⟨Nat.le_of_ble_eq_true rfl, Nat.le_of_ble_eq_true rfl⟩, Nat.le_of_ble_eq_true rfl, Nat.le_of_ble_eq_true rfl⟩ (c6_isFarm h.1 h.2.1 _) rfl rfl (Nat.le_of_ble_eq_true rfl) rfl (Nat.le_of_ble_eq_true rfl) rfl ?_
  refine w_if_ne (n' := 8) (tgt := 15) dX6_wetFor_5 rfl rfl (fun h5 => ?_) (fun h5 => ?_)
  · obtain ⟨i, hi1, hi2⟩ := hasF_of (n := n) (by omega) h5
    refine w_aload_n (i := 0) (n' := 16) dX6_wetFor_15 rfl rfl rfl ?_
    refine w_get (ci := 6) (j := 0) (n' := 19) dX6_wetFor_16 rfl fRX6_7 (Nat.le_of_ble_eq_true rfl) (Nat.le_of_ble_eq_true rfl) rfl rfl ?_
    refine w_iconst (v := 3) (n' := 20) dX6_wetFor_19 rfl rfl ?_
    refine w_iald (n := 3) (n' := 21) dX6_wetFor_20 rfl rfl (by decide) (by decide) ?_
    refine w_istore_n (i := 2) (n' := 22) (ls' := [_, _, _, _]) dX6_wetFor_21 rfl rfl (Nat.le_of_ble_eq_true rfl) rfl rfl ?_
    refine w_aload_n (i := 0) (n' := 23) dX6_wetFor_22 rfl rfl rfl ?_
    refine w_get (ci := 6) (j := 0) (n' := 26) dX6_wetFor_23 rfl fRX6_7 (Nat.le_of_ble_eq_true rfl) (Nat.le_of_ble_eq_true rfl) rfl rfl ?_
    refine w_iconst (v := 3) (n' := 27) dX6_wetFor_26 rfl rfl ?_
    refine w_iconst (v := 0) (n' := 28) dX6_wetFor_27 rfl rfl ?_
    refine w_iast (n := 3) (n' := 29) dX6_wetFor_28 rfl rfl (by decide) (by decide) ?_
    have L : ∀ (z : Nat) (s : Mem), z ≤ 100 → (RW mem (upd (mem 51) 3 (nI z)) s ∧ ∀ y, y < z → ¬ (¬ bitI (lastS (DR (upd (mem 51) 3 (nI y))) n) f = 0)) → Wm mX6_wetFor (zM mX6_wetFor (fun rZ mZ => ∃ xZ, rZ = some (.int xZ) ∧ (fun x m' => (inR f 0 (nI n - 1) = 0 ∧ x = -1000001 ∧ m' = fndM mem 0) ∨ (∃ r, r < n ∧ f = nI r ∧ ∃ y, Fst (fun z => (¬ bitI (lastS (DR (upd (mem 51) 3 (nI z))) n) f = 0)) 0 99 y ∧ ((y ≤ 99 ∧ x = nI y ∧ QM mem m') ∨ (y = 100 ∧ x = -1000004 ∧ (∃ m2, QM mem m2 ∧ m' = fndM m2 3))))) xZ mZ)) 29 [some (.ref 50), some (.int f), some (.int (mem 51 3)), none] [] s := by
      refine for_ind 100 ?_
      rintro z s hz ⟨h1, h2⟩ ih
      have hv := h1.at
      have hv2 := (h1.cd (n := n)).at
      refine w_aload_n (i := 0) (n' := 30) dX6_wetFor_29 rfl rfl rfl ?_
      refine w_get (ci := 6) (j := 0) (n' := 33) dX6_wetFor_30 rfl fRX6_7 (Nat.le_of_ble_eq_true rfl) (Nat.le_of_ble_eq_true rfl) rfl rfl ?_
      refine w_iconst (v := 3) (n' := 34) dX6_wetFor_33 rfl rfl ?_
      refine w_iald (n := 3) (n' := 35) dX6_wetFor_34 rfl rfl (by decide) (by decide) ?_
      rw [hv]
      refine w_bipush (v := 99) (n' := 37) dX6_wetFor_35 rfl (by decide) ?_
      refine w_icmp_gt (n' := 40) (tgt := 61) dX6_wetFor_37 rfl rfl (fun h37 => ?_) (fun h37 => ?_)
      · have hin : z = 100 := by
          rcases Nat.lt_or_ge z 100 with q | q
          · exact absurd h37 (nI_nlt (a := 99) (b := z) (by omega) (by decide))
          · omega
        subst hin
        refine w_aload_n (i := 0) (n' := 62) dX6_wetFor_61 rfl rfl rfl ?_
        refine w_get (ci := 6) (j := 0) (n' := 65) dX6_wetFor_62 rfl fRX6_7 (Nat.le_of_ble_eq_true rfl) (Nat.le_of_ble_eq_true rfl) rfl rfl ?_
        refine w_iconst (v := 3) (n' := 66) dX6_wetFor_65 rfl rfl ?_
        refine w_iald (n := 3) (n' := 67) dX6_wetFor_66 rfl rfl (by decide) (by decide) ?_
        rw [hv]
        refine w_istore_n (i := 3) (n' := 68) (ls' := [_, _, _, _]) dX6_wetFor_67 rfl rfl (Nat.le_of_ble_eq_true rfl) rfl rfl ?_
        refine w_aload_n (i := 0) (n' := 69) dX6_wetFor_68 rfl rfl rfl ?_
        refine w_get (ci := 6) (j := 0) (n' := 72) dX6_wetFor_69 rfl fRX6_7 (Nat.le_of_ble_eq_true rfl) (Nat.le_of_ble_eq_true rfl) rfl rfl ?_
        refine w_iconst (v := 3) (n' := 73) dX6_wetFor_72 rfl rfl ?_
        refine w_iload_n (i := 2) (n' := 74) dX6_wetFor_73 rfl rfl rfl ?_
        refine w_iast (n := 3) (n' := 75) dX6_wetFor_74 rfl rfl (by decide) (by decide) ?_
        refine w_iload_n (i := 3) (n' := 76) dX6_wetFor_75 rfl rfl rfl ?_
        refine w_bipush (v := 99) (n' := 78) dX6_wetFor_76 rfl (by decide) ?_
        refine w_icmp_gt (n' := 81) (tgt := 85) dX6_wetFor_78 rfl rfl (fun h78 => ?_) (fun h78 => absurd (nI_lt (a := 99) (b := 100) (by omega) (by omega)) h78)
        refine w_aload_n (i := 0) (n' := 86) dX6_wetFor_85 rfl rfl rfl ?_
        refine w_ldc (v := -1000004) (n' := 88) dX6_wetFor_86 rfl kRX6_44 ?_
        refine v_E (ci := 6) (n' := 91) dX6_wetFor_88 rfl lRX6_45 okX6_finds voX6_finds ⟨⟨Nat.le_of_ble_eq_true rfl, Nat.le_of_ble_eq_true rfl⟩, Nat.le_of_ble_eq_true rfl, Nat.le_of_ble_eq_true rfl⟩ (c6_finds 3 _ (by decide) (by decide) _) rfl rfl (Nat.le_of_ble_eq_true rfl) rfl (Nat.le_of_ble_eq_true rfl) rfl ?_
        exact w_iret dX6_wetFor_91 rfl ⟨_, rfl, Or.inr ⟨i, hi1, hi2, 100, ⟨Nat.zero_le _, by omega, fun z _ hz => h2 z hz, fun hh => absurd hh (by decide)⟩, Or.inr ⟨rfl, rfl, _, QM.fin h1 rfl, rfl⟩⟩⟩
      · have hlt : z < 100 := by
          rcases Nat.lt_or_ge z 100 with q | q
          · exact q
          · exact absurd (nI_lt (a := 99) (b := z) (by omega) (by omega)) h37
        have hp := h1.MO (MOR_wet hR (by omega))
        refine w_aload_n (i := 0) (n' := 41) dX6_wetFor_40 rfl rfl rfl ?_
        refine w_iload_n (i := 1) (n' := 42) dX6_wetFor_41 rfl rfl rfl ?_
        refine v_E (ci := 6) (n' := 45) dX6_wetFor_42 rfl lRX6_171 okX6_isLast voX6_isLast ⟨⟨Nat.le_of_ble_eq_true rfl, Nat.le_of_ble_eq_true rfl⟩, Nat.le_of_ble_eq_true rfl, Nat.le_of_ble_eq_true rfl⟩ (c6_isLast hp _) rfl rfl (Nat.le_of_ble_eq_true rfl) rfl (Nat.le_of_ble_eq_true rfl) rfl ?_
        refine w_if_ne (n' := 48) (tgt := 61) dX6_wetFor_45 rfl rfl (fun h45 => ?_) (fun h45 => ?_)
        · refine w_aload_n (i := 0) (n' := 62) dX6_wetFor_61 rfl rfl rfl ?_
          refine w_get (ci := 6) (j := 0) (n' := 65) dX6_wetFor_62 rfl fRX6_7 (Nat.le_of_ble_eq_true rfl) (Nat.le_of_ble_eq_true rfl) rfl rfl ?_
          refine w_iconst (v := 3) (n' := 66) dX6_wetFor_65 rfl rfl ?_
          refine w_iald (n := 3) (n' := 67) dX6_wetFor_66 rfl rfl (by decide) (by decide) ?_
          rw [hv2]
          refine w_istore_n (i := 3) (n' := 68) (ls' := [_, _, _, _]) dX6_wetFor_67 rfl rfl (Nat.le_of_ble_eq_true rfl) rfl rfl ?_
          refine w_aload_n (i := 0) (n' := 69) dX6_wetFor_68 rfl rfl rfl ?_
          refine w_get (ci := 6) (j := 0) (n' := 72) dX6_wetFor_69 rfl fRX6_7 (Nat.le_of_ble_eq_true rfl) (Nat.le_of_ble_eq_true rfl) rfl rfl ?_
          refine w_iconst (v := 3) (n' := 73) dX6_wetFor_72 rfl rfl ?_
          refine w_iload_n (i := 2) (n' := 74) dX6_wetFor_73 rfl rfl rfl ?_
          refine w_iast (n := 3) (n' := 75) dX6_wetFor_74 rfl rfl (by decide) (by decide) ?_
          refine w_iload_n (i := 3) (n' := 76) dX6_wetFor_75 rfl rfl rfl ?_
          refine w_bipush (v := 99) (n' := 78) dX6_wetFor_76 rfl (by decide) ?_
          refine w_icmp_gt (n' := 81) (tgt := 85) dX6_wetFor_78 rfl rfl (fun h78 => absurd h78 (nI_nlt (a := 99) (b := z) (by omega) (by omega))) (fun h78 => ?_)
          refine w_iload_n (i := 3) (n' := 82) dX6_wetFor_81 rfl rfl rfl ?_
          refine w_goto (tgt := 91) dX6_wetFor_82 rfl ?_
          exact w_iret dX6_wetFor_91 rfl ⟨_, rfl, Or.inr ⟨i, hi1, hi2, z, ⟨Nat.zero_le _, by omega, fun z _ hz => h2 z hz, fun _ q => h45 (by rw [h1.DM]; exact q)⟩, Or.inl ⟨by omega, rfl, QM.fin h1.cd rfl⟩⟩⟩
        · refine w_aload_n (i := 0) (n' := 49) dX6_wetFor_48 rfl rfl rfl ?_
          refine w_get (ci := 6) (j := 0) (n' := 52) dX6_wetFor_49 rfl fRX6_7 (Nat.le_of_ble_eq_true rfl) (Nat.le_of_ble_eq_true rfl) rfl rfl ?_
          refine w_iconst (v := 3) (n' := 53) dX6_wetFor_52 rfl rfl ?_
          refine w_dup2 (n' := 54) dX6_wetFor_53 rfl rfl rfl ?_
          refine w_iald (n := 3) (n' := 55) dX6_wetFor_54 rfl rfl (by decide) (by decide) ?_
          refine w_iconst (v := 1) (n' := 56) dX6_wetFor_55 rfl rfl ?_
          refine w_iadd (n' := 57) dX6_wetFor_56 rfl ?_
          refine w_iast (n := 3) (n' := 58) dX6_wetFor_57 rfl rfl (by decide) (by decide) ?_
          refine w_goto (tgt := 29) dX6_wetFor_58 rfl ?_
          exact ih hlt _ ⟨h1.cd.put (by rw [hv2, nI_1]), fun y hy => by
            rcases Nat.lt_or_ge y z with q | q
            · exact h2 y q
            · rw [show y = z by omega, ← h1.DM]; exact fun q => q h45⟩
    exact L 0 _ (Nat.zero_le _) ⟨RW.put0, fun z hz => absurd hz (by omega)⟩
  · refine w_aload_n (i := 0) (n' := 9) dX6_wetFor_8 rfl rfl rfl ?_
    refine w_ldc (v := -1000001) (n' := 11) dX6_wetFor_9 rfl kRX6_43 ?_
    refine v_E (ci := 6) (n' := 14) dX6_wetFor_11 rfl lRX6_45 okX6_finds voX6_finds ⟨⟨Nat.le_of_ble_eq_true rfl, Nat.le_of_ble_eq_true rfl⟩, Nat.le_of_ble_eq_true rfl, Nat.le_of_ble_eq_true rfl⟩ (c6_finds 0 _ (by decide) (by decide) _) rfl rfl (Nat.le_of_ble_eq_true rfl) rfl (Nat.le_of_ble_eq_true rfl) rfl ?_
    exact w_iret dX6_wetFor_14 rfl ⟨_, rfl, Or.inl ⟨by simpa using h5, rfl, rfl⟩⟩
set_option maxHeartbeats 4000000 in
theorem c6_miceFor {n : Nat} {mem : Mem} (h : MO mem n) (f v : Int32) : CnI mX6_miceFor [.ref 50, .int f, .int v] mem (fun x m' => ((inR f (-99) 99 = 0 ∨ inR v 0 1 = 0) ∧ x = -1000001 ∧ m' = fndM mem 0) ∨ (¬ inR f (-99) 99 = 0 ∧ ¬ inR v 0 1 = 0 ∧ ∃ y, Fst (fun z => ((if leanR (upd (mem 51) 4 (nI z)) n (lastS (DR (mem 51)) n) < f then (0 : Int32) else 1) = v)) 0 99 y ∧ ((y ≤ 99 ∧ x = nI y ∧ QM mem m') ∨ (y = 100 ∧ x = -1000004 ∧ (∃ m2, QM mem m2 ∧ m' = fndM m2 3))))) := by
  have h8 := h.2.1
  have hR := MO_R.mp h
  refine Cn.of (ls := [some (.ref 50), some (.int f), some (.int v), none, none, none, none]) (by decide) rfl (Nat.le_of_ble_eq_true rfl) ?_
  refine w_iload_n (i := 1) (n' := 1) dX6_miceFor_0 rfl rfl rfl ?_
  refine s_E (n' := 4) dX6_miceFor_1 rfl lRX6_136 okX6_isAsked stX6_isAsked ⟨⟨Nat.le_of_ble_eq_true rfl, Nat.le_of_ble_eq_true rfl⟩, Nat.le_of_ble_eq_true rfl, Nat.le_of_ble_eq_true rfl⟩ (c6_isAsked _ _) rfl rfl (Nat.le_of_ble_eq_true rfl) ?_
  refine w_if_eq (n' := 7) (tgt := 17) dX6_miceFor_4 rfl rfl (fun h4 => ?_) (fun h4 => ?_)
  · refine w_aload_n (i := 0) (n' := 18) dX6_miceFor_17 rfl rfl rfl ?_
    refine w_ldc (v := -1000001) (n' := 20) dX6_miceFor_18 rfl kRX6_43 ?_
    refine v_E (ci := 6) (n' := 23) dX6_miceFor_20 rfl lRX6_45 okX6_finds voX6_finds ⟨⟨Nat.le_of_ble_eq_true rfl, Nat.le_of_ble_eq_true rfl⟩, Nat.le_of_ble_eq_true rfl, Nat.le_of_ble_eq_true rfl⟩ (c6_finds 0 _ (by decide) (by decide) _) rfl rfl (Nat.le_of_ble_eq_true rfl) rfl (Nat.le_of_ble_eq_true rfl) rfl ?_
    exact w_iret dX6_miceFor_23 rfl ⟨_, rfl, Or.inl ⟨Or.inl h4, rfl, rfl⟩⟩
  · refine w_iload_n (i := 2) (n' := 8) dX6_miceFor_7 rfl rfl rfl ?_
    refine w_i2l (v := _) (n' := 9) dX6_miceFor_8 rfl rfl ?_
    refine w_lconst (v := 0) (n' := 10) dX6_miceFor_9 rfl rfl ?_
    refine w_lconst (v := 1) (n' := 11) dX6_miceFor_10 rfl rfl ?_
    refine s_E (n' := 14) dX6_miceFor_11 rfl lRX6_51 okX6_isIn stX6_isIn ⟨⟨Nat.le_of_ble_eq_true rfl, Nat.le_of_ble_eq_true rfl⟩, Nat.le_of_ble_eq_true rfl, Nat.le_of_ble_eq_true rfl⟩ (c6_isIn _ (0) (1) _ _ (by decide) (by decide) _) rfl rfl (Nat.le_of_ble_eq_true rfl) ?_
    refine w_if_ne (n' := 17) (tgt := 24) dX6_miceFor_14 rfl rfl (fun h14 => ?_) (fun h14 => ?_)
    · have hv01 : v = 0 ∨ v = 1 := by
        obtain ⟨t, t1, t2⟩ := inR_of (N := 1) (by decide) h14
        have : t = 0 ∨ t = 1 := by omega
        rcases this with rfl | rfl
        · exact Or.inl t2
        · exact Or.inr t2
      refine w_aload_n (i := 0) (n' := 25) dX6_miceFor_24 rfl rfl rfl ?_
      refine v_E (ci := 6) (n' := 28) dX6_miceFor_25 rfl lRX6_119 okX6_lasts voX6_lasts ⟨⟨Nat.le_of_ble_eq_true rfl, Nat.le_of_ble_eq_true rfl⟩, Nat.le_of_ble_eq_true rfl, Nat.le_of_ble_eq_true rfl⟩ (c6_lasts h) rfl rfl (Nat.le_of_ble_eq_true rfl) rfl (Nat.le_of_ble_eq_true rfl) rfl ?_
      rw [DM_R]
      refine w_istore_n (i := 3) (n' := 29) (ls' := [_, _, _, _, _, _, _]) dX6_miceFor_28 rfl rfl (Nat.le_of_ble_eq_true rfl) rfl rfl ?_
      refine w_aload_n (i := 0) (n' := 30) dX6_miceFor_29 rfl rfl rfl ?_
      refine w_get (ci := 6) (j := 0) (n' := 33) dX6_miceFor_30 rfl fRX6_7 (Nat.le_of_ble_eq_true rfl) (Nat.le_of_ble_eq_true rfl) rfl rfl ?_
      refine w_iconst (v := 4) (n' := 34) dX6_miceFor_33 rfl rfl ?_
      refine w_iald (n := 4) (n' := 35) dX6_miceFor_34 rfl rfl (by decide) (by decide) ?_
      rw [cd_o mem n (show 51 ≠ 60 by decide)]
      refine w_istore (n' := 37) (ls' := [_, _, _, _, _, _, _]) dX6_miceFor_35 rfl (Nat.le_of_ble_eq_true rfl) rfl rfl ?_
      refine w_iconst (v := -1) (n' := 38) dX6_miceFor_37 rfl rfl ?_
      refine w_istore (n' := 40) (ls' := [_, _, _, _, _, _, _]) dX6_miceFor_38 rfl (Nat.le_of_ble_eq_true rfl) rfl rfl ?_
      refine w_iconst (v := 0) (n' := 41) dX6_miceFor_40 rfl rfl ?_
      refine w_istore (n' := 43) (ls' := [_, _, _, _, _, _, _]) dX6_miceFor_41 rfl (Nat.le_of_ble_eq_true rfl) rfl rfl ?_
      have L : ∀ (z : Nat) (st : Int32 × Mem), z ≤ 100 → ((∃ w, RW mem (upd (mem 51) 4 w) st.2) ∧ FoI (fun z => ((if leanR (upd (mem 51) 4 (nI z)) n (lastS (DR (mem 51)) n) < f then (0 : Int32) else 1) = v)) 0 z st.1) → Wm mX6_miceFor (zM mX6_miceFor (fun rZ mZ => ∃ xZ, rZ = some (.int xZ) ∧ (fun x m' => ((inR f (-99) 99 = 0 ∨ inR v 0 1 = 0) ∧ x = -1000001 ∧ m' = fndM mem 0) ∨ (¬ inR f (-99) 99 = 0 ∧ ¬ inR v 0 1 = 0 ∧ ∃ y, Fst (fun z => ((if leanR (upd (mem 51) 4 (nI z)) n (lastS (DR (mem 51)) n) < f then (0 : Int32) else 1) = v)) 0 99 y ∧ ((y ≤ 99 ∧ x = nI y ∧ QM mem m') ∨ (y = 100 ∧ x = -1000004 ∧ (∃ m2, QM mem m2 ∧ m' = fndM m2 3))))) xZ mZ)) 43 [some (.ref 50), some (.int f), some (.int v), some (.int (lastS (DR (mem 51)) n)), some (.int (mem 51 4)), some (.int st.1), some (.int (nI z))] [] st.2 := by
        refine for_ind 100 ?_
        rintro z ⟨fo, s⟩ hz ⟨⟨w, h1⟩, h2⟩ ih
        dsimp only at h1 h2 ih ⊢
        refine w_iload (n' := 45) dX6_miceFor_43 rfl rfl ?_
        refine w_bipush (v := 99) (n' := 47) dX6_miceFor_45 rfl (by decide) ?_
        refine w_icmp_gt (n' := 50) (tgt := 104) dX6_miceFor_47 rfl rfl (fun h47 => ?_) (fun h47 => ?_)
        · have hin : z = 100 := by
            rcases Nat.lt_or_ge z 100 with q | q
            · exact absurd h47 (nI_nlt (a := 99) (b := z) (by omega) (by decide))
            · omega
          subst hin
          refine w_aload_n (i := 0) (n' := 105) dX6_miceFor_104 rfl rfl rfl ?_
          refine w_get (ci := 6) (j := 0) (n' := 108) dX6_miceFor_105 rfl fRX6_7 (Nat.le_of_ble_eq_true rfl) (Nat.le_of_ble_eq_true rfl) rfl rfl ?_
          refine w_iconst (v := 4) (n' := 109) dX6_miceFor_108 rfl rfl ?_
          refine w_iload (n' := 111) dX6_miceFor_109 rfl rfl ?_
          refine w_iast (n := 4) (n' := 112) dX6_miceFor_111 rfl rfl (by decide) (by decide) ?_
          refine w_aload_n (i := 0) (n' := 113) dX6_miceFor_112 rfl rfl rfl ?_
          refine w_iload (n' := 115) dX6_miceFor_113 rfl rfl ?_
          refine v_I (ci := 6) (n' := 118) dX6_miceFor_115 rfl lRX6_174 okX6_orNone voX6_orNone ⟨⟨Nat.le_of_ble_eq_true rfl, Nat.le_of_ble_eq_true rfl⟩, Nat.le_of_ble_eq_true rfl, Nat.le_of_ble_eq_true rfl⟩ (c6_orNone _ _) rfl rfl (Nat.le_of_ble_eq_true rfl) rfl (Nat.le_of_ble_eq_true rfl) rfl (fun x115 m115 q115 => ?_)
          exact w_iret dX6_miceFor_118 rfl ⟨_, rfl, Or.inr ⟨h4, h14, FoI.fin2 h2 hz (Nat.zero_le _) (by decide) (Or.inl rfl) q115 (QM.fin h1 rfl)⟩⟩
        · have hlt : z < 100 := by
            rcases Nat.lt_or_ge z 100 with q | q
            · exact q
            · exact absurd (nI_lt (a := 99) (b := z) (by omega) (by omega)) h47
          refine w_iload (n' := 52) dX6_miceFor_50 rfl rfl ?_
          refine w_if_ge (n' := 55) (tgt := 104) dX6_miceFor_52 rfl rfl (fun h52 => ?_) (fun h52 => ?_)
          · refine w_aload_n (i := 0) (n' := 105) dX6_miceFor_104 rfl rfl rfl ?_
            refine w_get (ci := 6) (j := 0) (n' := 108) dX6_miceFor_105 rfl fRX6_7 (Nat.le_of_ble_eq_true rfl) (Nat.le_of_ble_eq_true rfl) rfl rfl ?_
            refine w_iconst (v := 4) (n' := 109) dX6_miceFor_108 rfl rfl ?_
            refine w_iload (n' := 111) dX6_miceFor_109 rfl rfl ?_
            refine w_iast (n := 4) (n' := 112) dX6_miceFor_111 rfl rfl (by decide) (by decide) ?_
            refine w_aload_n (i := 0) (n' := 113) dX6_miceFor_112 rfl rfl rfl ?_
            refine w_iload (n' := 115) dX6_miceFor_113 rfl rfl ?_
            refine v_I (ci := 6) (n' := 118) dX6_miceFor_115 rfl lRX6_174 okX6_orNone voX6_orNone ⟨⟨Nat.le_of_ble_eq_true rfl, Nat.le_of_ble_eq_true rfl⟩, Nat.le_of_ble_eq_true rfl, Nat.le_of_ble_eq_true rfl⟩ (c6_orNone _ _) rfl rfl (Nat.le_of_ble_eq_true rfl) rfl (Nat.le_of_ble_eq_true rfl) rfl (fun x115 m115 q115 => ?_)
            exact w_iret dX6_miceFor_118 rfl ⟨_, rfl, Or.inr ⟨h4, h14, FoI.fin2 h2 hz (Nat.zero_le _) (by decide) (Or.inr h52) q115 (QM.fin h1 rfl)⟩⟩
          · refine w_aload_n (i := 0) (n' := 56) dX6_miceFor_55 rfl rfl rfl ?_
            refine w_get (ci := 6) (j := 0) (n' := 59) dX6_miceFor_56 rfl fRX6_7 (Nat.le_of_ble_eq_true rfl) (Nat.le_of_ble_eq_true rfl) rfl rfl ?_
            refine w_iconst (v := 4) (n' := 60) dX6_miceFor_59 rfl rfl ?_
            refine w_iload (n' := 62) dX6_miceFor_60 rfl rfl ?_
            refine w_iast (n := 4) (n' := 63) dX6_miceFor_62 rfl rfl (by decide) (by decide) ?_
            have h3 := h1.put (v' := nI z) rfl
            refine w_aload_n (i := 0) (n' := 64) dX6_miceFor_63 rfl rfl rfl ?_
            refine w_iload_n (i := 3) (n' := 65) dX6_miceFor_64 rfl rfl rfl ?_
            refine v_E (ci := 6) (n' := 68) dX6_miceFor_65 rfl lRX6_128 okX6_leanBy voX6_leanBy ⟨⟨Nat.le_of_ble_eq_true rfl, Nat.le_of_ble_eq_true rfl⟩, Nat.le_of_ble_eq_true rfl, Nat.le_of_ble_eq_true rfl⟩ (c6_leanBy (by rw [h3.1, ← h.1]; simp [upd]) h8 _) rfl rfl (Nat.le_of_ble_eq_true rfl) rfl (Nat.le_of_ble_eq_true rfl) rfl ?_
            rw [h3.lean]
            refine w_iload_n (i := 1) (n' := 69) dX6_miceFor_68 rfl rfl rfl ?_
            refine w_icmp_lt (n' := 72) (tgt := 76) dX6_miceFor_69 rfl rfl (fun h69 => ?_) (fun h69 => ?_)
            · refine w_iconst (v := 0) (n' := 77) dX6_miceFor_76 rfl rfl ?_
              refine w_iload_n (i := 2) (n' := 78) dX6_miceFor_77 rfl rfl rfl ?_
              refine w_iconst (v := 1) (n' := 79) dX6_miceFor_78 rfl rfl ?_
              refine w_icmp_ne (n' := 82) (tgt := 86) dX6_miceFor_79 rfl rfl (fun h79 => ?_) (fun h79 => ?_)
              · refine w_iconst (v := 0) (n' := 87) dX6_miceFor_86 rfl rfl ?_
                refine w_icmp_ne (n' := 90) (tgt := 95) dX6_miceFor_87 rfl rfl (fun h87 => absurd rfl h87) (fun h87 => ?_)
                refine w_iload (n' := 92) dX6_miceFor_90 rfl rfl ?_
                refine w_goto (tgt := 96) dX6_miceFor_92 rfl ?_
                refine w_istore (n' := 98) (ls' := [_, _, _, _, _, _, _]) dX6_miceFor_96 rfl (Nat.le_of_ble_eq_true rfl) rfl rfl ?_
                refine w_iinc (n' := 101) (v := nI (z + 1)) (ls' := [_, _, _, _, _, _, _]) dX6_miceFor_98 rfl rfl (nI_1 z) (Nat.le_of_ble_eq_true rfl) rfl rfl ?_
                refine w_goto (tgt := 43) dX6_miceFor_101 rfl ?_
                exact ih hlt (_, _) ⟨⟨_, h3⟩, h2.yes h52 (Nat.zero_le _) (by omega) (by show (if _ then (0 : Int32) else 1) = v; rw [if_pos h69, (hv01.resolve_right h79)])⟩
              · refine w_iconst (v := 1) (n' := 83) dX6_miceFor_82 rfl rfl ?_
                refine w_goto (tgt := 87) dX6_miceFor_83 rfl ?_
                refine w_icmp_ne (n' := 90) (tgt := 95) dX6_miceFor_87 rfl rfl (fun h87 => ?_) (fun h87 => absurd h87 (by decide))
                refine w_iconst (v := -1) (n' := 96) dX6_miceFor_95 rfl rfl ?_
                refine w_istore (n' := 98) (ls' := [_, _, _, _, _, _, _]) dX6_miceFor_96 rfl (Nat.le_of_ble_eq_true rfl) rfl rfl ?_
                refine w_iinc (n' := 101) (v := nI (z + 1)) (ls' := [_, _, _, _, _, _, _]) dX6_miceFor_98 rfl rfl (nI_1 z) (Nat.le_of_ble_eq_true rfl) rfl rfl ?_
                refine w_goto (tgt := 43) dX6_miceFor_101 rfl ?_
                exact ih hlt (_, _) ⟨⟨_, h3⟩, h2.no h52 (by omega) (fun (q : (if _ then (0 : Int32) else 1) = v) => by rw [if_pos h69, h79] at q; exact absurd q (by decide))⟩
            · refine w_iconst (v := 1) (n' := 73) dX6_miceFor_72 rfl rfl ?_
              refine w_goto (tgt := 77) dX6_miceFor_73 rfl ?_
              refine w_iload_n (i := 2) (n' := 78) dX6_miceFor_77 rfl rfl rfl ?_
              refine w_iconst (v := 1) (n' := 79) dX6_miceFor_78 rfl rfl ?_
              refine w_icmp_ne (n' := 82) (tgt := 86) dX6_miceFor_79 rfl rfl (fun h79 => ?_) (fun h79 => ?_)
              · refine w_iconst (v := 0) (n' := 87) dX6_miceFor_86 rfl rfl ?_
                refine w_icmp_ne (n' := 90) (tgt := 95) dX6_miceFor_87 rfl rfl (fun h87 => ?_) (fun h87 => absurd h87 (by decide))
                refine w_iconst (v := -1) (n' := 96) dX6_miceFor_95 rfl rfl ?_
                refine w_istore (n' := 98) (ls' := [_, _, _, _, _, _, _]) dX6_miceFor_96 rfl (Nat.le_of_ble_eq_true rfl) rfl rfl ?_
                refine w_iinc (n' := 101) (v := nI (z + 1)) (ls' := [_, _, _, _, _, _, _]) dX6_miceFor_98 rfl rfl (nI_1 z) (Nat.le_of_ble_eq_true rfl) rfl rfl ?_
                refine w_goto (tgt := 43) dX6_miceFor_101 rfl ?_
                exact ih hlt (_, _) ⟨⟨_, h3⟩, h2.no h52 (by omega) (fun (q : (if _ then (0 : Int32) else 1) = v) => by rw [if_neg h69, (hv01.resolve_right h79)] at q; exact absurd q (by decide))⟩
              · refine w_iconst (v := 1) (n' := 83) dX6_miceFor_82 rfl rfl ?_
                refine w_goto (tgt := 87) dX6_miceFor_83 rfl ?_
                refine w_icmp_ne (n' := 90) (tgt := 95) dX6_miceFor_87 rfl rfl (fun h87 => absurd rfl h87) (fun h87 => ?_)
                refine w_iload (n' := 92) dX6_miceFor_90 rfl rfl ?_
                refine w_goto (tgt := 96) dX6_miceFor_92 rfl ?_
                refine w_istore (n' := 98) (ls' := [_, _, _, _, _, _, _]) dX6_miceFor_96 rfl (Nat.le_of_ble_eq_true rfl) rfl rfl ?_
                refine w_iinc (n' := 101) (v := nI (z + 1)) (ls' := [_, _, _, _, _, _, _]) dX6_miceFor_98 rfl rfl (nI_1 z) (Nat.le_of_ble_eq_true rfl) rfl rfl ?_
                refine w_goto (tgt := 43) dX6_miceFor_101 rfl ?_
                exact ih hlt (_, _) ⟨⟨_, h3⟩, h2.yes h52 (Nat.zero_le _) (by omega) (by show (if _ then (0 : Int32) else 1) = v; rw [if_neg h69, h79])⟩
      exact L 0 (_, _) (by omega) ⟨⟨_, by have := (RW.rf mem).cd (n := n); rw [← upd_self (mem 51) 4] at this; exact this⟩, FoI.z⟩
    · refine w_aload_n (i := 0) (n' := 18) dX6_miceFor_17 rfl rfl rfl ?_
      refine w_ldc (v := -1000001) (n' := 20) dX6_miceFor_18 rfl kRX6_43 ?_
      refine v_E (ci := 6) (n' := 23) dX6_miceFor_20 rfl lRX6_45 okX6_finds voX6_finds ⟨⟨Nat.le_of_ble_eq_true rfl, Nat.le_of_ble_eq_true rfl⟩, Nat.le_of_ble_eq_true rfl, Nat.le_of_ble_eq_true rfl⟩ (c6_finds 0 _ (by decide) (by decide) _) rfl rfl (Nat.le_of_ble_eq_true rfl) rfl (Nat.le_of_ble_eq_true rfl) rfl ?_
      exact w_iret dX6_miceFor_23 rfl ⟨_, rfl, Or.inl ⟨Or.inr (by simpa using h14), rfl, rfl⟩⟩
