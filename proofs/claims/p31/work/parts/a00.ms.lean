def MS : Type := (Nat → Nat → Int32) × (Nat → Nat → Int64) × (Nat → Nat → Option Nat) × (Nat → Nat) × (Nat → Nat) × Nat × Nat
def qI (S : MS) : Nat → Nat → Int32 := S.1
def qJ (S : MS) : Nat → Nat → Int64 := S.2.1
def qR (S : MS) : Nat → Nat → Option Nat := S.2.2.1
def qT (S : MS) : Nat → Nat := S.2.2.2.1
def qN (S : MS) : Nat → Nat := S.2.2.2.2.1
def qn (S : MS) : Nat := S.2.2.2.2.2.1
def qu (S : MS) : Nat := S.2.2.2.2.2.2
/-- the handle that stands there -/
def qO (S : MS) (h i : Nat) : Nat := (qR S h i).getD 0
def wI (S : MS) (h i : Nat) (v : Int32) : MS := (fun a => if a = h then upd (qI S h) i v else qI S a, S.2)
def wJ (S : MS) (h i : Nat) (v : Int64) : MS := (S.1, fun a => if a = h then vp_updL (qJ S h) i v else qJ S a, S.2.2)
def wR (S : MS) (h i : Nat) (v : Option Nat) : MS := (S.1, S.2.1, fun a => if a = h then va_up (qR S h) i v else qR S a, S.2.2.2)
/-- a whole row is new -/
def wC (S : MS) (h : Nat) (f : Nat → Int32) : MS := (fun a => if a = h then f else qI S a, S.2)
/-- a new cell, of kind t with n places -/
def wN (S : MS) (t n k : Nat) : MS := (fun a => if a = qn S then fun _ => 0 else qI S a, fun a => if a = qn S then fun _ => 0 else qJ S a, fun a => if a = qn S then fun _ => none else qR S a, fun a => if a = qn S then t else qT S a, fun a => if a = qn S then n else qN S a, qn S + 1, qu S + k)
def Gr : Type := (Nat → ClassId) × (Nat → Nat → Nat) × ClassId × ClassId × ClassId × ClassId × ClassId × ClassId
def Gr.cS (g : Gr) : ClassId := g.2.2.2.2.2.2.1
def TXB : Nat := 10000000
def vf (ad : Nat → Nat) (r : Option Nat) : Value := va_rf (r.map ad)
section
variable {g : Gr} {ad : Nat → Nat} {S S' : MS} {h a i : Nat}
theorem qI_wI {v : Int32} {j : Nat} : qI (wI S h i v) a j = if a = h ∧ j = i then v else qI S a j := by
  show (if a = h then upd (qI S h) i v else qI S a) j = _
  by_cases e : a = h
  · subst e; rw [if_pos rfl]; unfold upd; by_cases e2 : j = i
    · rw [if_pos e2, if_pos ⟨rfl, e2⟩]
    · rw [if_neg e2, if_neg (fun q => e2 q.2)]
  · rw [if_neg e, if_neg (fun q => e q.1)]
end
section
variable {g : Gr} {ad : Nat → Nat} {S S' : MS} {h a i : Nat}
theorem qJ_wJ {v : Int64} {j : Nat} : qJ (wJ S h i v) a j = if a = h ∧ j = i then v else qJ S a j := by
  show (if a = h then vp_updL (qJ S h) i v else qJ S a) j = _
  by_cases e : a = h
  · subst e; rw [if_pos rfl]; unfold vp_updL; by_cases e2 : j = i
    · rw [if_pos e2, if_pos ⟨rfl, e2⟩]
    · rw [if_neg e2, if_neg (fun q => e2 q.2)]
  · rw [if_neg e, if_neg (fun q => e q.1)]
end
section
variable {g : Gr} {ad : Nat → Nat} {S S' : MS} {h a i : Nat}
theorem qR_wR {v : Option Nat} {j : Nat} : qR (wR S h i v) a j = if a = h ∧ j = i then v else qR S a j := by
  show (if a = h then va_up (qR S h) i v else qR S a) j = _
  by_cases e : a = h
  · subst e; rw [if_pos rfl]; unfold va_up; by_cases e2 : j = i
    · rw [if_pos e2, if_pos ⟨rfl, e2⟩]
    · rw [if_neg e2, if_neg (fun q => e2 q.2)]
  · rw [if_neg e, if_neg (fun q => e q.1)]
end
/-- kinds and lengths stay; cells are only added -/
def shx (S u : MS) : Prop := (∀ b : Nat, qT S b ≠ 0 → qT u b = qT S b ∧ qN u b = qN S b) ∧ qn S ≤ qn u
theorem shx.rf {S : MS} : shx S S := ⟨fun _ _ => ⟨rfl, rfl⟩, Nat.le_refl _⟩
theorem shx.tr {S u v : MS} (h : shx S u) (h' : shx u v) : shx S v := ⟨fun b hb => by
  obtain ⟨e1, e2⟩ := h.1 b hb
  obtain ⟨e3, e4⟩ := h'.1 b (by rw [e1]; exact hb)
  exact ⟨e3.trans e1, e4.trans e2⟩, Nat.le_trans h.2 h'.2⟩
theorem shx.T {S u : MS} {b t : Nat} (h : shx S u) (e : qT S b = t) (h0 : t ≠ 0) : qT u b = t := by rw [(h.1 b (by omega)).1, e]
/-- numbers -/
theorem n_lt {x y : Int32} : x < y ↔ x.toInt < y.toInt := Int32.lt_iff_toInt_lt
theorem n_le {x y : Int32} : x ≤ y ↔ x.toInt ≤ y.toInt := Int32.le_iff_toInt_le
theorem n_eq {x y : Int32} : x = y ↔ x.toInt = y.toInt := Int32.toInt_inj.symm
theorem n_in {i : Int32} {n : Nat} (h : 0 ≤ i.toInt ∧ i.toInt < n) : vp_in i n := by
  unfold vp_in
  have e0 : (0 : Int32).toInt = 0 := rfl
  rintro (h1 | h1)
  · rw [Int32.lt_iff_toInt_lt] at h1; omega
  · have : i.toNatClampNeg = i.toInt.toNat := rfl
    omega
theorem n_ne0 {y : Int32} (h : y.toInt ≠ 0) : ¬ y = 0 := fun e => h (by rw [e]; rfl)
/-- texts in the state -/
def cAt (S : MS) (b : Nat) (i : Int32) : Int32 := ((qI S (b + 1) i.toInt.toNat &&& 255).toUInt32 % 65536).toInt32
/-- .. and no cell is new -/
def shy (S u : MS) : Prop := shx S u ∧ qn u = qn S ∧ qu u = qu S
theorem shy.rf {S : MS} : shy S S := ⟨shx.rf, rfl, rfl⟩
theorem shy.tr {S u v : MS} (h : shy S u) (h' : shy u v) : shy S v := ⟨h.1.tr h'.1, h'.2.1.trans h.2.1, h'.2.2.trans h.2.2⟩
theorem shy.T {S u : MS} {b t : Nat} (h : shy S u) (e : qT S b = t) (h0 : t ≠ 0) : qT u b = t := h.1.T e h0

theorem inc1 {i : Int32} (h : i.toInt < 2147483647) : (i + Int32.ofInt 1).toInt = i.toInt + 1 := by
  have e1 : (Int32.ofInt 1).toInt = 1 := by decide
  have h2 := Int32.le_toInt i
  rw [Int32.toInt_add, e1]
  apply Int.bmod_eq_of_le <;> omega
