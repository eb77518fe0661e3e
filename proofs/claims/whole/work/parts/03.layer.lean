/-! MY LAYER. A memory is a table of ints (cell, place); references are numbers of cells, fixed for good. 'Wm' says: from this frame the method comes to its end; 'Cn': a method's contract. No row below speaks of the machine's heap. -/
abbrev Mem : Type := Nat → Nat → Int32
abbrev GH : Type := (Nat → Nat) × va_G × (Nat → ClassId)
abbrev MT : Type := MethodName × ByteArray × Nat × Option FieldType × Nat
def tb : List Cond := lw_tbl.filter goodWord
def isNest : Cond → Bool
  | .fieldLinkNest .. => true
  | .methodLinkNest .. => true
  | _ => false
def nests : List Cond := lw_tbl.filter isNest
def wsM (M : MT) : List Cond := Cond.code M.1 M.2.1 M.2.2.1 M.2.2.2.1 :: tb
def rmD (d : Nat) : Room := { frames := d, cells := 0, slots := 0, locals := 40 * d }
def rmM (M : MT) : Room := rmD M.2.2.2.2
def rv (g : GH) : Value → Value
  | .ref k => .ref (g.1 k)
  | v => v
theorem rv_cat (g : GH) (v : Value) : (rv g v).category = v.category := by cases v <;> rfl
/-! the cells: 0 the class, 1 13 25 its parishes (weather, rows, 8 farms, spots behind each), 37 38 tape, 39 reader, 40 sheets, 41.. each sheet and its numbers, 49 findings; 50 the reference and 51 to 61 its rows -/
def kdP : List Nat := [1, 10, 12, 0, 0, 0, 0, 0, 0, 0, 0, 10]
def kdL : List Nat := [5] ++ kdP ++ kdP ++ kdP ++ [3, 11, 4, 13, 2, 10, 2, 10, 2, 10, 2, 10, 10, 6, 10, 10, 10, 10, 10, 10, 10, 10, 10, 10, 10]
def kd (k : Nat) : Nat := kdL.getD k 99
def alP : List Nat := [0, 3, 0, 0, 0, 0, 0, 0, 0, 0, 0, 10]
def alL : List Nat := [0] ++ alP ++ alP ++ alP ++ [0, 120, 0, 0, 0, 40, 0, 40, 0, 40, 0, 40, 7, 0, 56, 56, 56, 56, 8, 120, 4, 4, 160, 8, 201]
def al (k : Nat) : Nat := alL.getD k 0
theorem kd_len : kdL.length = 62 := by decide +kernel
theorem kd_lt {k c : Nat} (h : kd k = c) (hc : c < 99) : k < 62 := by
  rcases Nat.lt_or_ge k 62 with h1 | h1
  · exact h1
  · have : kd k = 99 := by
      unfold kd
      rw [List.getD_eq_getElem?_getD, List.getElem?_eq_none (by rw [kd_len]; exact h1)]
      rfl
    omega
def objM (ci k : Nat) (f : Nat → Int32) : List Value := match ci with
  | 0 => [.int (f 0), .int (f 1), .int (f 2), .int (f 3), .int (f 4), .int (f 5), .int (f 6)]
  | 1 => [.ref (k + 1), .ref (k + 2), .ref (k + 11), .int (f 3), .int (f 4), .int (f 5)]
  | 2 => [.ref (k + 1), .int (f 1), .int (f 2)]
  | 3 => [.ref (k + 1), .int (f 1), .int (f 2), .int (f 3), .int (f 4), .int (f 5)]
  | 4 => [.ref 37, .ref 25]
  | 5 => [.ref 1, .ref 13, .ref 25, .ref 37, .ref 39, .ref 40, .ref 49, .int (f 7)]
  | _ => [.ref 51, .ref 52, .ref 53, .ref 54, .int (f 4), .ref 55, .ref 56, .int (f 7), .ref 57, .ref 58, .ref 59, .ref 60, .ref 61, .int (f 13), .int (f 14), .int (f 15), .int (f 16), .int (f 17), .int (f 18), .int (f 19)]
def entF (g : GH) (k : Nat) (f : Nat → Int32) : va_E :=
  if kd k < 7 then .inr (kd k, (objM (kd k) k f).map (rv g))
  else if kd k = 10 then .inl (g.2.2 0, (al k, .inl f))
  else if kd k = 11 then .inl (g.2.2 1, (al k, .inl f))
  else if kd k = 12 then .inl (g.2.2 2, (8, .inr (.inr (.inr (.inr (fun i => some (g.1 (k + 1 + i))))))))
  else .inl (g.2.2 3, (4, .inr (.inr (.inr (.inr (fun i => some (g.1 (k + 1 + 2 * i))))))))
def cellsM (g : GH) (mem : Mem) : va_W := (List.range 62).map (fun k => (g.1 k, entF g k (mem k)))
theorem cells_at {g : GH} {mem : Mem} {k : Nat} (h : k < 62) : (cellsM g mem)[k]? = some (g.1 k, entF g k (mem k)) := by
  unfold cellsM
  rw [List.getElem?_map, List.getElem?_range h]
  rfl
theorem ent_obj {g : GH} {k ci : Nat} {f : Nat → Int32} (h : kd k = ci) (hc : ci < 7) : entF g k f = .inr (ci, (objM ci k f).map (rv g)) := by
  subst h
  unfold entF
  rw [if_pos hc]
theorem ent_int {g : GH} {k : Nat} {f : Nat → Int32} (h : kd k = 10) : entF g k f = .inl (g.2.2 0, (al k, .inl f)) := by
  unfold entF
  rw [h]
  rfl
theorem ent_byte {g : GH} {k : Nat} {f : Nat → Int32} (h : kd k = 11) : entF g k f = .inl (g.2.2 1, (al k, .inl f)) := by
  unfold entF
  rw [h]
  rfl
theorem ent_rows {g : GH} {k : Nat} {f : Nat → Int32} (h : kd k = 12) : entF g k f = .inl (g.2.2 2, (8, .inr (.inr (.inr (.inr (fun i => some (g.1 (k + 1 + i)))))))) := by
  unfold entF
  rw [h]
  rfl
theorem ent_sheets {g : GH} {k : Nat} {f : Nat → Int32} (h : kd k = 13) : entF g k f = .inl (g.2.2 3, (4, .inr (.inr (.inr (.inr (fun i => some (g.1 (k + 1 + 2 * i)))))))) := by
  unfold entF
  rw [h]
  rfl
/-- one place of the memory gets another int -/
def up2 (mem : Mem) (k j : Nat) (x : Int32) : Mem := fun a => if a = k then upd (mem k) j x else mem a
theorem up2_same (mem : Mem) (k j : Nat) (x : Int32) : up2 mem k j x k = upd (mem k) j x := by simp [up2]
theorem up2_ne (mem : Mem) {k a : Nat} (j : Nat) (x : Int32) (h : a ≠ k) : up2 mem k j x a = mem a := by simp [up2, h]
/-- one row of the memory becomes another -/
def upR (mem : Mem) (k : Nat) (f : Nat → Int32) : Mem := fun a => if a = k then f else mem a
theorem cells_set {g : GH} {mem mem' : Mem} {k : Nat} {e : va_E} (he : entF g k (mem' k) = e) (ho : ∀ a, a ≠ k → mem' a = mem a) : (cellsM g mem).set k (g.1 k, e) = cellsM g mem' := by
  apply List.ext_getElem?
  intro i
  by_cases hi : i < 62
  · rw [cells_at hi]
    by_cases hk : i = k
    · subst hk
      rw [List.getElem?_set_self (by unfold cellsM; simp; exact hi), he]
    · rw [List.getElem?_set_ne (Ne.symm hk), cells_at hi, ho i hk]
  · have h1 : (cellsM g mem').length ≤ i := by unfold cellsM; simp; omega
    have h2 : ((cellsM g mem).set k (g.1 k, e)).length ≤ i := by rw [List.length_set]; unfold cellsM; simp; omega
    rw [List.getElem?_eq_none h1, List.getElem?_eq_none h2]
def tysG (g : GH) : List (ClassId × FieldType) := [(g.2.2 0, .int), (g.2.2 1, .byte), (g.2.2 2, .object "SheafVotes$Farm"), (g.2.2 3, .object "SheafVotes$Sheet")]
def Ag (g : GH) : Nat → Prop := fun q => ∃ k, k < 62 ∧ q = g.1 k
def injG (g : GH) : Prop := ∀ i j, i < 62 → j < 62 → g.1 i = g.1 j → i = j
def Gd (g : GH) (U : State) : Prop := va_K g.2.1 vwCl (tysG g) U ∧ injG g
theorem cells_D {g : GH} {mem : Mem} (h : injG g) : va_D (Ag g) (cellsM g mem) := by
  have key : ∀ (k : Nat) (q : Nat × va_E), (cellsM g mem)[k]? = some q → k < 62 ∧ q.1 = g.1 k := by
    intro k q hq
    have hk : k < 62 := by
      have := (List.getElem?_eq_some_iff.mp hq).1
      unfold cellsM at this
      simpa using this
    rw [cells_at hk] at hq
    cases hq
    exact ⟨hk, rfl⟩
  refine ⟨fun i j x y hx hy hxy => ?_, fun k q hq => ?_⟩
  · obtain ⟨h1, e1⟩ := key i x hx
    obtain ⟨h2, e2⟩ := key j y hy
    exact h i j h1 h2 (by rw [← e1, ← e2]; exact hxy)
  · obtain ⟨h1, e1⟩ := key k q hq
    exact ⟨k, h1, e1⟩
