/-! the memory that the constructors leave -/
def fa0 : Nat → Int32 := fun j => [0, 0, 4, 0, 0, -1, 0].getD j 0
def pa0 : Nat → Int32 := fun j => [0, 0, 0, 0, 0, 1].getD j 0
def ta0 : Nat → Int32 := fun j => [0, 0, 0, 0, 5, 0].getD j 0
def sp0 : Nat → Int32 := (upd (upd (upd (upd (upd (upd (upd (upd (upd (upd (fun _ => 0) 0 (-1)) 1 (-1)) 2 (-1)) 3 (-1)) 4 (-1)) 5 (-1)) 6 (-1)) 7 (-1)) 8 (-1)) 9 (-1))
def mem0 : Mem := fun k => ([(fun _ => 0), pa0, (fun _ => 0), (fun _ => 0), fa0, fa0, fa0, fa0, fa0, fa0, fa0, fa0, sp0, pa0, (fun _ => 0), (fun _ => 0), fa0, fa0, fa0, fa0, fa0, fa0, fa0, fa0, sp0, pa0, (fun _ => 0), (fun _ => 0), fa0, fa0, fa0, fa0, fa0, fa0, fa0, fa0, sp0, ta0, (fun _ => 0), (fun _ => 0), (fun _ => 0), (fun _ => 0), (fun _ => 0), (fun _ => 0), (fun _ => 0), (fun _ => 0), (fun _ => 0), (fun _ => 0), (fun _ => 0), (fun _ => 0), (fun _ => 0), (upd (upd (upd (upd (upd (upd (upd (upd (upd (upd (upd (fun _ => 0) 2 1) 46 (-1)) 47 (-1)) 48 (-1)) 49 (-1)) 50 (-1)) 51 (-1)) 52 (-1)) 53 (-1)) 54 (-1)) 55 (-1)), (fun _ => 0), (fun _ => 0), (fun _ => 0), (fun _ => 0), (fun _ => 0), (upd (upd (upd (upd (fun _ => 0) 0 (-1)) 1 (-1)) 2 (-1)) 3 (-1)), (fun _ => 0), (fun _ => 0), (fun _ => 0), (fun _ => 0)] : List (Nat → Int32)).getD k (fun _ => 0)
theorem Ca0 : CaOK mem0 := by
  intro k hk
  have : ∀ k, k < 62 → kd k = 0 → mem0 k 5 = -1 := by decide +kernel
  exact Or.inl (this k (kd_lt hk (by omega)) hk)
theorem PR0 : PR mem0 1 0 (mem0 51) := ⟨by decide +kernel, by decide +kernel, by decide, by decide +kernel, by decide +kernel, fun i j hi => absurd hi (by omega), by decide +kernel⟩
theorem JP0 : JP mem0 1 0 (mem0 51) := by
  have h46 : ∀ i, i < 10 → mem0 51 (46 + i) = -1 := by decide +kernel
  exact ⟨PR0, by decide +kernel, ⟨⟨by decide +kernel, by decide, ⟨0, by decide, by decide +kernel⟩, fun i hi => absurd hi (by omega)⟩, 0, by decide, by decide +kernel⟩, ⟨0, by decide, by decide +kernel⟩, fun i hi => Or.inl (h46 i hi)⟩
theorem JS0 : JS mem0 mem0 := by
  have h1 : ∀ q, q < 4 → mem0 (40 + 1 + 2 * q) 1 = 0 ∧ mem0 57 q = -1 := by decide +kernel
  have h2 : ∀ q, q < 4 → mem0 (40 + 1 + 2 * q) 2 = nI 0 ∧ mem0 58 q = nI 0 := by decide +kernel
  have h3 : ∀ q, q < 4 → ∀ j, j < 40 → mem0 (40 + 1 + 2 * q + 1) j = mem0 59 (40 * q + j) := by decide +kernel
  exact fun q hq => ⟨Or.inl (h1 q hq), ⟨0, by decide, h2 q hq⟩, h3 q hq⟩
theorem J0 : J mem0 := ⟨0, 0, 0, Ca0, JP0, ⟨⟨by decide +kernel, by decide +kernel, by decide⟩, fun h => absurd (by decide +kernel) h⟩, by decide +kernel, ⟨by decide +kernel, by decide +kernel, by decide, fun j hj => absurd hj (by omega)⟩, JS0, by decide +kernel, by decide +kernel⟩
def gS (b a9 : Nat) (a1 aK aV : Nat → Nat) (h0 h1 : Nat) (u : (Nat → Nat) × (Nat → Nat) × (Nat → Nat) × (Nat → Nat)) (v : Nat → Nat) (D : va_G) (cA : Nat → ClassId) : GH := (fun k => if k < 62 then [h0, u.1 0, u.2.1 1, u.2.1 2, u.2.1 3, u.2.1 4, u.2.1 5, u.2.1 6, u.2.1 7, u.2.1 8, u.2.1 9, u.2.1 10, u.2.1 11, u.1 1, u.2.2.1 1, u.2.2.1 2, u.2.2.1 3, u.2.2.1 4, u.2.2.1 5, u.2.2.1 6, u.2.2.1 7, u.2.2.1 8, u.2.2.1 9, u.2.2.1 10, u.2.2.1 11, u.1 2, u.2.2.2 1, u.2.2.2 2, u.2.2.2 3, u.2.2.2 4, u.2.2.2 5, u.2.2.2 6, u.2.2.2 7, u.2.2.2 8, u.2.2.2 9, u.2.2.2 10, u.2.2.2 11, u.1 3, u.1 4, u.1 5, u.1 6, u.1 7, u.1 8, u.1 9, u.1 10, u.1 11, u.1 12, u.1 13, u.1 14, u.1 15, h1, v 1, v 2, v 3, v 4, v 5, v 6, v 7, v 8, v 9, v 10, v 11].getD k 0 else if k = 900 then b else if k = 999 then a9 else if k < 200 then a1 (k - 100) else if k < 300 then aK (k - 200) else aV (k - 300), D, cA)
section GS
variable {b a9 : Nat} {a1 aK aV : Nat → Nat} {h0 h1 : Nat} {u : (Nat → Nat) × (Nat → Nat) × (Nat → Nat) × (Nat → Nat)} {v : Nat → Nat} {D : va_G} {cA : Nat → ClassId}
theorem gS_1 {t : Nat} (h : t < 4) : (gS b a9 a1 aK aV h0 h1 u v D cA).1 (100 + t) = a1 t := by
  unfold gS
  dsimp only
  rw [if_neg (by omega), if_neg (by omega), if_neg (by omega), if_pos (by omega), Nat.add_sub_cancel_left]
theorem gS_K {t : Nat} (h : t < 12) : (gS b a9 a1 aK aV h0 h1 u v D cA).1 (200 + t) = aK t := by
  unfold gS
  dsimp only
  rw [if_neg (by omega), if_neg (by omega), if_neg (by omega), if_neg (by omega), if_pos (by omega), Nat.add_sub_cancel_left]
theorem gS_V {t : Nat} (h : t < 12) : (gS b a9 a1 aK aV h0 h1 u v D cA).1 (300 + t) = aV t := by
  unfold gS
  dsimp only
  rw [if_neg (by omega), if_neg (by omega), if_neg (by omega), if_neg (by omega), if_neg (by omega), Nat.add_sub_cancel_left]
theorem at_q {cl : List vw_C} {a n : Nat} {c : ClassId} {f f' : Nat → Option Nat} {H : Heap} (e : ∀ i, i < n → f i = f' i) (h : va_at D cl (a, .inl (c, (n, .inr (.inr (.inr (.inr f)))))) H) : va_at D cl (a, .inl (c, (n, .inr (.inr (.inr (.inr f')))))) H := by
  have h1 : H[a]? = some (arrV c n (fun j => va_rf (f j))) := h
  show H[a]? = some (arrV c n (fun j => va_rf (f' j)))
  rw [h1, arrV, arrV, show (fun j : Fin n => va_rf (f j.val)) = fun j : Fin n => va_rf (f' j.val) from funext fun j => by rw [e j.val j.isLt]]
def cvP (b a9 : Nat) (a1 aK aV : Nat → Nat) (h0 h1 : Nat) (u : (Nat → Nat) × (Nat → Nat) × (Nat → Nat) × (Nat → Nat)) (v : Nat → Nat) (D : va_G) (cA : Nat → ClassId) (k : Nat) : Prop := ∃ e, (shfW cA h0 u ++ refW cA h1 v)[k]? = some ((gS b a9 a1 aK aV h0 h1 u v D cA).1 k, e) ∧ ∀ H, va_at D vwCl ((gS b a9 a1 aK aV h0 h1 u v D cA).1 k, e) H → va_at D vwCl ((gS b a9 a1 aK aV h0 h1 u v D cA).1 k, entF (gS b a9 a1 aK aV h0 h1 u v D cA) k (mem0 k)) H
theorem cv_0 : cvP b a9 a1 aK aV h0 h1 u v D cA 0 := ⟨entF (gS b a9 a1 aK aV h0 h1 u v D cA) 0 (mem0 0), rfl, fun _ h => h⟩
theorem cv_1 : cvP b a9 a1 aK aV h0 h1 u v D cA 1 := ⟨entF (gS b a9 a1 aK aV h0 h1 u v D cA) 1 (mem0 1), rfl, fun _ h => h⟩
theorem cv_2 : cvP b a9 a1 aK aV h0 h1 u v D cA 2 := ⟨entF (gS b a9 a1 aK aV h0 h1 u v D cA) 2 (mem0 2), rfl, fun _ h => h⟩
theorem cv_3 : cvP b a9 a1 aK aV h0 h1 u v D cA 3 := ⟨_, rfl, fun _ h => at_q (fun i hi => by
  have h8 : i = 0 ∨ i = 1 ∨ i = 2 ∨ i = 3 ∨ i = 4 ∨ i = 5 ∨ i = 6 ∨ i = 7 := by omega
  rcases h8 with rfl | rfl | rfl | rfl | rfl | rfl | rfl | rfl <;> rfl) h⟩
theorem cv_4 : cvP b a9 a1 aK aV h0 h1 u v D cA 4 := ⟨entF (gS b a9 a1 aK aV h0 h1 u v D cA) 4 (mem0 4), rfl, fun _ h => h⟩
theorem cv_5 : cvP b a9 a1 aK aV h0 h1 u v D cA 5 := ⟨entF (gS b a9 a1 aK aV h0 h1 u v D cA) 5 (mem0 5), rfl, fun _ h => h⟩
theorem cv_6 : cvP b a9 a1 aK aV h0 h1 u v D cA 6 := ⟨entF (gS b a9 a1 aK aV h0 h1 u v D cA) 6 (mem0 6), rfl, fun _ h => h⟩
theorem cv_7 : cvP b a9 a1 aK aV h0 h1 u v D cA 7 := ⟨entF (gS b a9 a1 aK aV h0 h1 u v D cA) 7 (mem0 7), rfl, fun _ h => h⟩
theorem cv_8 : cvP b a9 a1 aK aV h0 h1 u v D cA 8 := ⟨entF (gS b a9 a1 aK aV h0 h1 u v D cA) 8 (mem0 8), rfl, fun _ h => h⟩
theorem cv_9 : cvP b a9 a1 aK aV h0 h1 u v D cA 9 := ⟨entF (gS b a9 a1 aK aV h0 h1 u v D cA) 9 (mem0 9), rfl, fun _ h => h⟩
theorem cv_10 : cvP b a9 a1 aK aV h0 h1 u v D cA 10 := ⟨entF (gS b a9 a1 aK aV h0 h1 u v D cA) 10 (mem0 10), rfl, fun _ h => h⟩
theorem cv_11 : cvP b a9 a1 aK aV h0 h1 u v D cA 11 := ⟨entF (gS b a9 a1 aK aV h0 h1 u v D cA) 11 (mem0 11), rfl, fun _ h => h⟩
theorem cv_12 : cvP b a9 a1 aK aV h0 h1 u v D cA 12 := ⟨entF (gS b a9 a1 aK aV h0 h1 u v D cA) 12 (mem0 12), rfl, fun _ h => h⟩
theorem cv_13 : cvP b a9 a1 aK aV h0 h1 u v D cA 13 := ⟨entF (gS b a9 a1 aK aV h0 h1 u v D cA) 13 (mem0 13), rfl, fun _ h => h⟩
theorem cv_14 : cvP b a9 a1 aK aV h0 h1 u v D cA 14 := ⟨entF (gS b a9 a1 aK aV h0 h1 u v D cA) 14 (mem0 14), rfl, fun _ h => h⟩
theorem cv_15 : cvP b a9 a1 aK aV h0 h1 u v D cA 15 := ⟨_, rfl, fun _ h => at_q (fun i hi => by
  have h8 : i = 0 ∨ i = 1 ∨ i = 2 ∨ i = 3 ∨ i = 4 ∨ i = 5 ∨ i = 6 ∨ i = 7 := by omega
  rcases h8 with rfl | rfl | rfl | rfl | rfl | rfl | rfl | rfl <;> rfl) h⟩
theorem cv_16 : cvP b a9 a1 aK aV h0 h1 u v D cA 16 := ⟨entF (gS b a9 a1 aK aV h0 h1 u v D cA) 16 (mem0 16), rfl, fun _ h => h⟩
theorem cv_17 : cvP b a9 a1 aK aV h0 h1 u v D cA 17 := ⟨entF (gS b a9 a1 aK aV h0 h1 u v D cA) 17 (mem0 17), rfl, fun _ h => h⟩
theorem cv_18 : cvP b a9 a1 aK aV h0 h1 u v D cA 18 := ⟨entF (gS b a9 a1 aK aV h0 h1 u v D cA) 18 (mem0 18), rfl, fun _ h => h⟩
theorem cv_19 : cvP b a9 a1 aK aV h0 h1 u v D cA 19 := ⟨entF (gS b a9 a1 aK aV h0 h1 u v D cA) 19 (mem0 19), rfl, fun _ h => h⟩
theorem cv_20 : cvP b a9 a1 aK aV h0 h1 u v D cA 20 := ⟨entF (gS b a9 a1 aK aV h0 h1 u v D cA) 20 (mem0 20), rfl, fun _ h => h⟩
theorem cv_21 : cvP b a9 a1 aK aV h0 h1 u v D cA 21 := ⟨entF (gS b a9 a1 aK aV h0 h1 u v D cA) 21 (mem0 21), rfl, fun _ h => h⟩
theorem cv_22 : cvP b a9 a1 aK aV h0 h1 u v D cA 22 := ⟨entF (gS b a9 a1 aK aV h0 h1 u v D cA) 22 (mem0 22), rfl, fun _ h => h⟩
theorem cv_23 : cvP b a9 a1 aK aV h0 h1 u v D cA 23 := ⟨entF (gS b a9 a1 aK aV h0 h1 u v D cA) 23 (mem0 23), rfl, fun _ h => h⟩
theorem cv_24 : cvP b a9 a1 aK aV h0 h1 u v D cA 24 := ⟨entF (gS b a9 a1 aK aV h0 h1 u v D cA) 24 (mem0 24), rfl, fun _ h => h⟩
theorem cv_25 : cvP b a9 a1 aK aV h0 h1 u v D cA 25 := ⟨entF (gS b a9 a1 aK aV h0 h1 u v D cA) 25 (mem0 25), rfl, fun _ h => h⟩
theorem cv_26 : cvP b a9 a1 aK aV h0 h1 u v D cA 26 := ⟨entF (gS b a9 a1 aK aV h0 h1 u v D cA) 26 (mem0 26), rfl, fun _ h => h⟩
theorem cv_27 : cvP b a9 a1 aK aV h0 h1 u v D cA 27 := ⟨_, rfl, fun _ h => at_q (fun i hi => by
  have h8 : i = 0 ∨ i = 1 ∨ i = 2 ∨ i = 3 ∨ i = 4 ∨ i = 5 ∨ i = 6 ∨ i = 7 := by omega
  rcases h8 with rfl | rfl | rfl | rfl | rfl | rfl | rfl | rfl <;> rfl) h⟩
theorem cv_28 : cvP b a9 a1 aK aV h0 h1 u v D cA 28 := ⟨entF (gS b a9 a1 aK aV h0 h1 u v D cA) 28 (mem0 28), rfl, fun _ h => h⟩
theorem cv_29 : cvP b a9 a1 aK aV h0 h1 u v D cA 29 := ⟨entF (gS b a9 a1 aK aV h0 h1 u v D cA) 29 (mem0 29), rfl, fun _ h => h⟩
theorem cv_30 : cvP b a9 a1 aK aV h0 h1 u v D cA 30 := ⟨entF (gS b a9 a1 aK aV h0 h1 u v D cA) 30 (mem0 30), rfl, fun _ h => h⟩
theorem cv_31 : cvP b a9 a1 aK aV h0 h1 u v D cA 31 := ⟨entF (gS b a9 a1 aK aV h0 h1 u v D cA) 31 (mem0 31), rfl, fun _ h => h⟩
theorem cv_32 : cvP b a9 a1 aK aV h0 h1 u v D cA 32 := ⟨entF (gS b a9 a1 aK aV h0 h1 u v D cA) 32 (mem0 32), rfl, fun _ h => h⟩
theorem cv_33 : cvP b a9 a1 aK aV h0 h1 u v D cA 33 := ⟨entF (gS b a9 a1 aK aV h0 h1 u v D cA) 33 (mem0 33), rfl, fun _ h => h⟩
theorem cv_34 : cvP b a9 a1 aK aV h0 h1 u v D cA 34 := ⟨entF (gS b a9 a1 aK aV h0 h1 u v D cA) 34 (mem0 34), rfl, fun _ h => h⟩
theorem cv_35 : cvP b a9 a1 aK aV h0 h1 u v D cA 35 := ⟨entF (gS b a9 a1 aK aV h0 h1 u v D cA) 35 (mem0 35), rfl, fun _ h => h⟩
theorem cv_36 : cvP b a9 a1 aK aV h0 h1 u v D cA 36 := ⟨entF (gS b a9 a1 aK aV h0 h1 u v D cA) 36 (mem0 36), rfl, fun _ h => h⟩
theorem cv_37 : cvP b a9 a1 aK aV h0 h1 u v D cA 37 := ⟨entF (gS b a9 a1 aK aV h0 h1 u v D cA) 37 (mem0 37), rfl, fun _ h => h⟩
theorem cv_38 : cvP b a9 a1 aK aV h0 h1 u v D cA 38 := ⟨entF (gS b a9 a1 aK aV h0 h1 u v D cA) 38 (mem0 38), rfl, fun _ h => h⟩
theorem cv_39 : cvP b a9 a1 aK aV h0 h1 u v D cA 39 := ⟨entF (gS b a9 a1 aK aV h0 h1 u v D cA) 39 (mem0 39), rfl, fun _ h => h⟩
theorem cv_40 : cvP b a9 a1 aK aV h0 h1 u v D cA 40 := ⟨_, rfl, fun _ h => at_q (fun i hi => by
  have h8 : i = 0 ∨ i = 1 ∨ i = 2 ∨ i = 3 := by omega
  rcases h8 with rfl | rfl | rfl | rfl <;> rfl) h⟩
theorem cv_41 : cvP b a9 a1 aK aV h0 h1 u v D cA 41 := ⟨entF (gS b a9 a1 aK aV h0 h1 u v D cA) 41 (mem0 41), rfl, fun _ h => h⟩
theorem cv_42 : cvP b a9 a1 aK aV h0 h1 u v D cA 42 := ⟨entF (gS b a9 a1 aK aV h0 h1 u v D cA) 42 (mem0 42), rfl, fun _ h => h⟩
theorem cv_43 : cvP b a9 a1 aK aV h0 h1 u v D cA 43 := ⟨entF (gS b a9 a1 aK aV h0 h1 u v D cA) 43 (mem0 43), rfl, fun _ h => h⟩
theorem cv_44 : cvP b a9 a1 aK aV h0 h1 u v D cA 44 := ⟨entF (gS b a9 a1 aK aV h0 h1 u v D cA) 44 (mem0 44), rfl, fun _ h => h⟩
theorem cv_45 : cvP b a9 a1 aK aV h0 h1 u v D cA 45 := ⟨entF (gS b a9 a1 aK aV h0 h1 u v D cA) 45 (mem0 45), rfl, fun _ h => h⟩
theorem cv_46 : cvP b a9 a1 aK aV h0 h1 u v D cA 46 := ⟨entF (gS b a9 a1 aK aV h0 h1 u v D cA) 46 (mem0 46), rfl, fun _ h => h⟩
theorem cv_47 : cvP b a9 a1 aK aV h0 h1 u v D cA 47 := ⟨entF (gS b a9 a1 aK aV h0 h1 u v D cA) 47 (mem0 47), rfl, fun _ h => h⟩
theorem cv_48 : cvP b a9 a1 aK aV h0 h1 u v D cA 48 := ⟨entF (gS b a9 a1 aK aV h0 h1 u v D cA) 48 (mem0 48), rfl, fun _ h => h⟩
theorem cv_49 : cvP b a9 a1 aK aV h0 h1 u v D cA 49 := ⟨entF (gS b a9 a1 aK aV h0 h1 u v D cA) 49 (mem0 49), rfl, fun _ h => h⟩
theorem cv_50 : cvP b a9 a1 aK aV h0 h1 u v D cA 50 := ⟨entF (gS b a9 a1 aK aV h0 h1 u v D cA) 50 (mem0 50), rfl, fun _ h => h⟩
theorem cv_51 : cvP b a9 a1 aK aV h0 h1 u v D cA 51 := ⟨entF (gS b a9 a1 aK aV h0 h1 u v D cA) 51 (mem0 51), rfl, fun _ h => h⟩
theorem cv_52 : cvP b a9 a1 aK aV h0 h1 u v D cA 52 := ⟨entF (gS b a9 a1 aK aV h0 h1 u v D cA) 52 (mem0 52), rfl, fun _ h => h⟩
theorem cv_53 : cvP b a9 a1 aK aV h0 h1 u v D cA 53 := ⟨entF (gS b a9 a1 aK aV h0 h1 u v D cA) 53 (mem0 53), rfl, fun _ h => h⟩
theorem cv_54 : cvP b a9 a1 aK aV h0 h1 u v D cA 54 := ⟨entF (gS b a9 a1 aK aV h0 h1 u v D cA) 54 (mem0 54), rfl, fun _ h => h⟩
theorem cv_55 : cvP b a9 a1 aK aV h0 h1 u v D cA 55 := ⟨entF (gS b a9 a1 aK aV h0 h1 u v D cA) 55 (mem0 55), rfl, fun _ h => h⟩
theorem cv_56 : cvP b a9 a1 aK aV h0 h1 u v D cA 56 := ⟨entF (gS b a9 a1 aK aV h0 h1 u v D cA) 56 (mem0 56), rfl, fun _ h => h⟩
theorem cv_57 : cvP b a9 a1 aK aV h0 h1 u v D cA 57 := ⟨entF (gS b a9 a1 aK aV h0 h1 u v D cA) 57 (mem0 57), rfl, fun _ h => h⟩
theorem cv_58 : cvP b a9 a1 aK aV h0 h1 u v D cA 58 := ⟨entF (gS b a9 a1 aK aV h0 h1 u v D cA) 58 (mem0 58), rfl, fun _ h => h⟩
theorem cv_59 : cvP b a9 a1 aK aV h0 h1 u v D cA 59 := ⟨entF (gS b a9 a1 aK aV h0 h1 u v D cA) 59 (mem0 59), rfl, fun _ h => h⟩
theorem cv_60 : cvP b a9 a1 aK aV h0 h1 u v D cA 60 := ⟨entF (gS b a9 a1 aK aV h0 h1 u v D cA) 60 (mem0 60), rfl, fun _ h => h⟩
theorem cv_61 : cvP b a9 a1 aK aV h0 h1 u v D cA 61 := ⟨entF (gS b a9 a1 aK aV h0 h1 u v D cA) 61 (mem0 61), rfl, fun _ h => h⟩
theorem cv_all : ∀ k ∈ [0, 1, 2, 3, 4, 5, 6, 7, 8, 9, 10, 11, 12, 13, 14, 15, 16, 17, 18, 19, 20, 21, 22, 23, 24, 25, 26, 27, 28, 29, 30, 31, 32, 33, 34, 35, 36, 37, 38, 39, 40, 41, 42, 43, 44, 45, 46, 47, 48, 49, 50, 51, 52, 53, 54, 55, 56, 57, 58, 59, 60, 61], cvP b a9 a1 aK aV h0 h1 u v D cA k := (List.forall_mem_cons.mpr ⟨cv_0, (List.forall_mem_cons.mpr ⟨cv_1, (List.forall_mem_cons.mpr ⟨cv_2, (List.forall_mem_cons.mpr ⟨cv_3, (List.forall_mem_cons.mpr ⟨cv_4, (List.forall_mem_cons.mpr ⟨cv_5, (List.forall_mem_cons.mpr ⟨cv_6, (List.forall_mem_cons.mpr ⟨cv_7, (List.forall_mem_cons.mpr ⟨cv_8, (List.forall_mem_cons.mpr ⟨cv_9, (List.forall_mem_cons.mpr ⟨cv_10, (List.forall_mem_cons.mpr ⟨cv_11, (List.forall_mem_cons.mpr ⟨cv_12, (List.forall_mem_cons.mpr ⟨cv_13, (List.forall_mem_cons.mpr ⟨cv_14, (List.forall_mem_cons.mpr ⟨cv_15, (List.forall_mem_cons.mpr ⟨cv_16, (List.forall_mem_cons.mpr ⟨cv_17, (List.forall_mem_cons.mpr ⟨cv_18, (List.forall_mem_cons.mpr ⟨cv_19, (List.forall_mem_cons.mpr ⟨cv_20, (List.forall_mem_cons.mpr ⟨cv_21, (List.forall_mem_cons.mpr ⟨cv_22, (List.forall_mem_cons.mpr ⟨cv_23, (List.forall_mem_cons.mpr ⟨cv_24, (List.forall_mem_cons.mpr ⟨cv_25, (List.forall_mem_cons.mpr ⟨cv_26, (List.forall_mem_cons.mpr ⟨cv_27, (List.forall_mem_cons.mpr ⟨cv_28, (List.forall_mem_cons.mpr ⟨cv_29, (List.forall_mem_cons.mpr ⟨cv_30, (List.forall_mem_cons.mpr ⟨cv_31, (List.forall_mem_cons.mpr ⟨cv_32, (List.forall_mem_cons.mpr ⟨cv_33, (List.forall_mem_cons.mpr ⟨cv_34, (List.forall_mem_cons.mpr ⟨cv_35, (List.forall_mem_cons.mpr ⟨cv_36, (List.forall_mem_cons.mpr ⟨cv_37, (List.forall_mem_cons.mpr ⟨cv_38, (List.forall_mem_cons.mpr ⟨cv_39, (List.forall_mem_cons.mpr ⟨cv_40, (List.forall_mem_cons.mpr ⟨cv_41, (List.forall_mem_cons.mpr ⟨cv_42, (List.forall_mem_cons.mpr ⟨cv_43, (List.forall_mem_cons.mpr ⟨cv_44, (List.forall_mem_cons.mpr ⟨cv_45, (List.forall_mem_cons.mpr ⟨cv_46, (List.forall_mem_cons.mpr ⟨cv_47, (List.forall_mem_cons.mpr ⟨cv_48, (List.forall_mem_cons.mpr ⟨cv_49, (List.forall_mem_cons.mpr ⟨cv_50, (List.forall_mem_cons.mpr ⟨cv_51, (List.forall_mem_cons.mpr ⟨cv_52, (List.forall_mem_cons.mpr ⟨cv_53, (List.forall_mem_cons.mpr ⟨cv_54, (List.forall_mem_cons.mpr ⟨cv_55, (List.forall_mem_cons.mpr ⟨cv_56, (List.forall_mem_cons.mpr ⟨cv_57, (List.forall_mem_cons.mpr ⟨cv_58, (List.forall_mem_cons.mpr ⟨cv_59, (List.forall_mem_cons.mpr ⟨cv_60, (List.forall_mem_cons.mpr ⟨cv_61, (fun _ h => absurd h List.not_mem_nil)⟩)⟩)⟩)⟩)⟩)⟩)⟩)⟩)⟩)⟩)⟩)⟩)⟩)⟩)⟩)⟩)⟩)⟩)⟩)⟩)⟩)⟩)⟩)⟩)⟩)⟩)⟩)⟩)⟩)⟩)⟩)⟩)⟩)⟩)⟩)⟩)⟩)⟩)⟩)⟩)⟩)⟩)⟩)⟩)⟩)⟩)⟩)⟩)⟩)⟩)⟩)⟩)⟩)⟩)⟩)⟩)⟩)⟩)⟩)⟩)⟩)⟩)
theorem cv {k : Nat} (h : k < 62) : cvP b a9 a1 aK aV h0 h1 u v D cA k := by
  have : ∀ k, k < 62 → k ∈ [0, 1, 2, 3, 4, 5, 6, 7, 8, 9, 10, 11, 12, 13, 14, 15, 16, 17, 18, 19, 20, 21, 22, 23, 24, 25, 26, 27, 28, 29, 30, 31, 32, 33, 34, 35, 36, 37, 38, 39, 40, 41, 42, 43, 44, 45, 46, 47, 48, 49, 50, 51, 52, 53, 54, 55, 56, 57, 58, 59, 60, 61] := by decide +kernel
  exact cv_all k (this k h)
theorem cv_P {H : Heap} (hP : va_P D vwCl (shfW cA h0 u ++ refW cA h1 v) H) : va_P D vwCl (cellsM (gS b a9 a1 aK aV h0 h1 u v D cA) mem0) H := by
  intro k q hq
  have hk : k < 62 := by
    have := (List.getElem?_eq_some_iff.mp hq).1
    unfold cellsM at this
    simpa using this
  rw [cells_at hk] at hq
  obtain rfl := Option.some.inj hq
  obtain ⟨e, h1, h2⟩ := cv (b := b) (a9 := a9) (a1 := a1) (aK := aK) (aV := aV) (h0 := h0) (h1 := h1) (u := u) (v := v) (D := D) (cA := cA) hk
  exact h2 H (hP k _ h1)
theorem cv_A {A : Nat → Prop} (hD : va_D A (shfW cA h0 u ++ refW cA h1 v)) : (∀ k, k < 62 → A ((gS b a9 a1 aK aV h0 h1 u v D cA).1 k)) ∧ injG (gS b a9 a1 aK aV h0 h1 u v D cA) := by
  refine ⟨fun k hk => ?_, fun i j hi hj e => ?_⟩
  · obtain ⟨e, h1, -⟩ := cv (b := b) (a9 := a9) (a1 := a1) (aK := aK) (aV := aV) (h0 := h0) (h1 := h1) (u := u) (v := v) (D := D) (cA := cA) hk
    exact hD.2 k _ h1
  · obtain ⟨e1, r1, -⟩ := cv (b := b) (a9 := a9) (a1 := a1) (aK := aK) (aV := aV) (h0 := h0) (h1 := h1) (u := u) (v := v) (D := D) (cA := cA) hi
    obtain ⟨e2, r2, -⟩ := cv (b := b) (a9 := a9) (a1 := a1) (aK := aK) (aV := aV) (h0 := h0) (h1 := h1) (u := u) (v := v) (D := D) (cA := cA) hj
    exact hD.1 i j _ _ r1 r2 e
end GS
