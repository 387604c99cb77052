/-! decode leaves a switch as it stands -/
def dcS (ws u : va_W) (h : Nat) (x : Int32) : Prop := ∀ (f : Nat → Int32) (e : Int32) (n : Nat) (cd sz : Int32), vx ws h f e n cd sz → isS (kU1 f e n cd sz x) → opF u h (kU1 f e n cd sz x) (kNum x).toInt64
/-- how much room the table of the instruction at o takes -/
def jR (f : Nat → Int32) (e : Int32) (n : Nat) (cd sz o : Int32) : Int := if (kU1 f e n cd sz o).toInt = 170 then 3 + (kCnt (kU1 f e n cd sz o) f e n cd sz (kNum o)).toInt else if (kU1 f e n cd sz o).toInt = 171 then 3 + 2 * (kCnt (kU1 f e n cd sz o) f e n cd sz (kNum o)).toInt else 0
/-- the rooms of the instructions from o on are r -/
def RS (t f : Nat → Int32) (e : Int32) (n : Nat) (cd sz o : Int32) (r : Int) : Prop := ∀ P : Int32 → Int → Prop, (∀ o : Int32, sz.toInt ≤ o.toInt → P o 0) → (∀ (o : Int32) (r : Int), o.toInt < sz.toInt → 0 < (kLen t f e n cd sz o).toInt → P (o + kLen t f e n cd sz o) r → P o (r + jR f e n cd sz o)) → P o r
section RSS
variable {t f : Nat → Int32} {e : Int32} {n : Nat} {cd sz o : Int32} {r : Int}
theorem RS.fin (h : sz.toInt ≤ o.toInt) : RS t f e n cd sz o 0 := fun _ h1 _ => h1 o h
theorem RS.step (h1 : o.toInt < sz.toInt) (h2 : 0 < (kLen t f e n cd sz o).toInt) (h3 : RS t f e n cd sz (o + kLen t f e n cd sz o) r) : RS t f e n cd sz o (r + jR f e n cd sz o) := fun P p1 p2 => p2 o r h1 h2 (h3 P p1 p2)
theorem RS.inv (h : RS t f e n cd sz o r) : (sz.toInt ≤ o.toInt ∧ r = 0) ∨ (o.toInt < sz.toInt ∧ 0 < (kLen t f e n cd sz o).toInt ∧ ∃ r', r = r' + jR f e n cd sz o ∧ RS t f e n cd sz (o + kLen t f e n cd sz o) r') := by
  have w := h (fun o r => ((sz.toInt ≤ o.toInt ∧ r = 0) ∨ (o.toInt < sz.toInt ∧ 0 < (kLen t f e n cd sz o).toInt ∧ ∃ r', r = r' + jR f e n cd sz o ∧ RS t f e n cd sz (o + kLen t f e n cd sz o) r')) ∧ RS t f e n cd sz o r) (fun o h => ⟨Or.inl ⟨h, rfl⟩, RS.fin h⟩) (fun o r h1 h2 h3 => ⟨Or.inr ⟨h1, h2, r, rfl, h3.2⟩, RS.step h1 h2 h3.2⟩)
  exact w.1
/-- a method that holds has such a number -/
theorem RS.of (h : wfI t f e n cd sz o) : ∃ r, RS t f e n cd sz o r := h (fun o => ∃ r, RS t f e n cd sz o r) (fun o h => ⟨0, RS.fin h⟩) (fun o h1 h2 h3 => by
  obtain ⟨r, h3⟩ := h3
  exact ⟨_, RS.step h1 h2 h3⟩)
end RSS
