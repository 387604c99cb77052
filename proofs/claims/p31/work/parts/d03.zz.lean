/-! the world without its fixed rows -/
def finCZ : List (Nat × Nat × Nat × Nat × Nat) := []
def ptrCZ : List (Nat × Nat) := []
/-- what holds of the kinds: the fixed rows; where references lead; bytes are bytes, truth values are such -/
def wfCZ (S : MS) : Prop := qT S 0 = 51 ∧ (∀ q ∈ finCZ, qR S q.1 q.2.1 = some q.2.2.1 ∧ qT S q.2.2.1 = q.2.2.2.1 ∧ qN S q.2.2.1 = q.2.2.2.2) ∧ (∀ a j b : Nat, qR S a j = some b → qT S b = etgC (qT S a) j ∧ etgC (qT S a) j ≠ 0 ∧ (otgC (qT S a) j ≠ 0 → b = a + otgC (qT S a) j)) ∧ (∀ b : Nat, qT S b ≠ 0 → qT S b ≠ 12 → qT S b ≠ 22 → b < qn S) ∧ (∀ b : Nat, qT S b = 12 → ∃ i : Nat, i < NTC ∧ b = TXB + 2 * i) ∧ (∀ i : Nat, i < NTC → qT S (TXB + 2 * i) = 12 ∧ qT S (TXB + 2 * i + 1) = 22 ∧ qN S (TXB + 2 * i + 1) = sLc.getD i 0 ∧ ∀ k : Nat, qI S (TXB + 2 * i + 1) k = (sBc.getD i []).getD k 0) ∧ qn S ≤ TXB ∧ (∀ b : Nat, qT S b = 22 → TXB ≤ b) ∧ (∀ b i : Nat, 100 < qT S b ∧ qT S b < 200 → fits .byte (.int (qI S b i)) = true) ∧ (∀ b j : Nat, ztgC (qT S b) j = true → qI S b j = 0 ∨ qI S b j = 1) ∧ (∀ b : Nat, qT S b ≠ 0 → qN S b ≤ 8388608) ∧ ∀ p ∈ ptrCZ, qR S p.1 p.2 ≠ none
theorem wfCZ.rf3 {S : MS} (h : wfCZ S) : ∀ a j b : Nat, qR S a j = some b → qT S b = etgC (qT S a) j ∧ etgC (qT S a) j ≠ 0 ∧ (otgC (qT S a) j ≠ 0 → b = a + otgC (qT S a) j) := h.2.2.1
/-- a Row's rows, a Unit's rows lie behind it -/
theorem wfCZ.off {S : MS} {a j b t o : Nat} (h : wfCZ S) (e : qR S a j = some b) (ea : qT S a = t) (eo : otgC t j = o) (h0 : o ≠ 0) : b = a + o := by
  have := (h.rf3 a j b e).2.2
  rw [ea, eo] at this
  exact this h0
theorem wfCZ.lt4 {S : MS} (h : wfCZ S) : ∀ b : Nat, qT S b ≠ 0 → qT S b ≠ 12 → qT S b ≠ 22 → b < qn S := h.2.2.2.1
theorem wfCZ.t12 {S : MS} (h : wfCZ S) : ∀ b : Nat, qT S b = 12 → ∃ i : Nat, i < NTC ∧ b = TXB + 2 * i := h.2.2.2.2.1
theorem wfCZ.tx6 {S : MS} (h : wfCZ S) : ∀ i : Nat, i < NTC → qT S (TXB + 2 * i) = 12 ∧ qT S (TXB + 2 * i + 1) = 22 ∧ qN S (TXB + 2 * i + 1) = sLc.getD i 0 ∧ ∀ k : Nat, qI S (TXB + 2 * i + 1) k = (sBc.getD i []).getD k 0 := h.2.2.2.2.2.1
theorem wfCZ.t22 {S : MS} (h : wfCZ S) : ∀ b : Nat, qT S b = 22 → TXB ≤ b := h.2.2.2.2.2.2.2.1
theorem wfCZ.by9 {S : MS} (h : wfCZ S) : ∀ b i : Nat, 100 < qT S b ∧ qT S b < 200 → fits .byte (.int (qI S b i)) = true := h.2.2.2.2.2.2.2.2.1
theorem wfCZ.bz {S : MS} (h : wfCZ S) : ∀ b j : Nat, ztgC (qT S b) j = true → qI S b j = 0 ∨ qI S b j = 1 := h.2.2.2.2.2.2.2.2.2.1
theorem wfCZ.ln {S : MS} (h : wfCZ S) : ∀ b : Nat, qT S b ≠ 0 → qN S b ≤ 8388608 := h.2.2.2.2.2.2.2.2.2.2.1
theorem wfCZ.pt {S : MS} (h : wfCZ S) : ∀ p ∈ ptrCZ, qR S p.1 p.2 ≠ none := h.2.2.2.2.2.2.2.2.2.2.2
theorem wfCZ.ptr {S : MS} {o j : Nat} (h : wfCZ S) (hm : (o, j) ∈ ptrCZ) : qR S o j = some (qO S o j) := by
  have := h.pt _ hm
  unfold qO
  cases e : qR S o j with
  | none => exact absurd e this
  | some b => rfl
theorem wfCZ.len9 {S : MS} {b t : Nat} (h : wfCZ S) (e : qT S b = t) (h0 : t ≠ 0) : qN S b ≤ 8388608 := h.ln b (by rw [e]; exact h0)
theorem wfCZ.bit {S : MS} {b j t : Nat} (h : wfCZ S) (e : qT S b = t) (z : ztgC t j = true) : qI S b j = 0 ∨ qI S b j = 1 := h.bz b j (by rw [e]; exact z)
theorem wfCZ.by {S : MS} {b t i : Nat} (h : wfCZ S) (e : qT S b = t) (ht : 100 < t ∧ t < 200) : fits .byte (.int (qI S b i)) = true := h.by9 b i (by rw [e]; exact ht)
theorem wfCZ.bit3 {S : MS} {b j t : Nat} (h : wfCZ S) (e : qT S b = t) (ht : 300 < t ∧ t < 400) : qI S b j = 0 ∨ qI S b j = 1 := h.bz b j (by
  have h1 : Nat.blt 300 t = true := Nat.ble_eq_true_of_le ht.1
  have h2 : Nat.blt t 400 = true := Nat.ble_eq_true_of_le ht.2
  rw [e]; unfold ztgC; rw [h1, h2]; rfl)
theorem wfCZ.lt {S : MS} {b t : Nat} (h : wfCZ S) (e : qT S b = t) (h0 : t ≠ 0) (h12 : t ≠ 12) (h22 : t ≠ 22) : b < qn S := h.lt4 b (by omega) (by omega) (by omega)
theorem wfCZ.ref {S : MS} {a j b t : Nat} (h : wfCZ S) (e : qR S a j = some b) (ea : qT S a = t) : qT S b = etgC t j := by rw [(h.rf3 a j b e).1, ea]
theorem wfCZ.putI {S : MS} {a j t : Nat} {v : Int32} (h : wfCZ S) (e : qT S a = t) (h22 : t ≠ 22) (h1 : 100 < t ∧ t < 200 → fits .byte (.int v) = true) (hz : ztgC t j = true → v = 0 ∨ v = 1) : wfCZ (wI S a j v) := by
  refine ⟨h.1, h.2.1, h.2.2.1, h.2.2.2.1, h.2.2.2.2.1, fun i hi => ?_, h.2.2.2.2.2.2.1, h.t22, fun b i eb => ?_, fun b i zb => ?_, h.ln, h.pt⟩
  · obtain ⟨q1, q2, q3, q4⟩ := h.tx6 i hi
    refine ⟨q1, q2, q3, fun k => ?_⟩
    rw [qI_wI, if_neg (fun q => h22 (by rw [← e, ← q.1, q2]))]
    exact q4 k
  · rw [qI_wI]
    by_cases c : b = a ∧ i = j
    · rw [if_pos c]
      exact h1 (by rw [← e, ← c.1]; exact eb)
    · rw [if_neg c]
      exact h.by9 b i eb
  · rw [qI_wI]
    by_cases c : b = a ∧ i = j
    · rw [if_pos c]
      refine hz ?_
      rw [← e, ← c.1, ← c.2]
      exact zb
    · rw [if_neg c]
      exact h.bz b i zb
theorem wfCZ.putC {S : MS} {a t : Nat} {f : Nat → Int32} (h : wfCZ S) (e : qT S a = t) (h22 : t ≠ 22) (h1 : 100 < t ∧ t < 200 → ∀ i, fits .byte (.int (f i)) = true) (hz : ∀ j, ztgC t j = true → f j = 0 ∨ f j = 1) : wfCZ (wC S a f) := by
  have es : qI (wC S a f) a = f := if_pos rfl
  have en : ∀ b, b ≠ a → qI (wC S a f) b = qI S b := fun b hb => if_neg hb
  refine ⟨h.1, h.2.1, h.2.2.1, h.2.2.2.1, h.2.2.2.2.1, fun i hi => ?_, h.2.2.2.2.2.2.1, h.t22, fun b i eb => ?_, fun b i zb => ?_, h.ln, h.pt⟩
  · obtain ⟨q1, q2, q3, q4⟩ := h.tx6 i hi
    refine ⟨q1, q2, q3, fun k => ?_⟩
    rw [en _ (fun q => h22 (by rw [← e, ← q, q2]))]
    exact q4 k
  · by_cases c : b = a
    · rw [c, es]
      exact h1 (by rw [← e, ← c]; exact eb) i
    · rw [en b c]
      exact h.by9 b i eb
  · by_cases c : b = a
    · rw [c, es]
      refine hz i ?_
      rw [← e, ← c]
      exact zb
    · rw [en b c]
      exact h.bz b i zb
theorem wfCZ.put {S : MS} {a j : Nat} {r : Option Nat} (h : wfCZ S) (hb : ∀ b, r = some b → qT S b = etgC (qT S a) j) (hn : ∀ q ∈ finCZ, ¬ (q.1 = a ∧ q.2.1 = j)) (hz : etgC (qT S a) j ≠ 0) (ho : ∀ b, r = some b → otgC (qT S a) j ≠ 0 → b = a + otgC (qT S a) j) (hp : (∃ p ∈ ptrCZ, p.1 = a ∧ p.2 = j) → r ≠ none) : wfCZ (wR S a j r) := by
  refine ⟨h.1, fun q hq => ⟨?_, (h.2.1 q hq).2⟩, fun a' j' b e => ?_, h.2.2.2.1, h.t12, h.tx6, h.2.2.2.2.2.2.1, h.t22, h.by9, h.bz, h.ln, fun p hpp => ?_⟩
  · rw [qR_wR, if_neg (fun z => hn q hq ⟨z.1, z.2⟩)]
    exact (h.2.1 q hq).1
  · rw [qR_wR] at e
    by_cases z : a' = a ∧ j' = j
    · rw [if_pos z] at e
      rw [z.1, z.2]
      exact ⟨hb b e, hz, ho b e⟩
    · rw [if_neg z] at e
      exact h.rf3 a' j' b e
  · rw [qR_wR]
    by_cases z : p.1 = a ∧ p.2 = j
    · rw [if_pos z]
      exact hp ⟨p, hpp, z.1, z.2⟩
    · rw [if_neg z]
      exact h.pt p hpp
theorem wfCZ.pto {S : MS} (h : wfCZ S) : ∀ p ∈ ptrCZ, qT S p.1 ≠ 0 := by
  intro p hp e
  cases e2 : qR S p.1 p.2 with
  | none => exact h.pt p hp e2
  | some b => exact (h.rf3 _ _ _ e2).2.1 (by rw [e]; exact etg0 _)
/-- the state is held by the heap -/
def RepCZ (g : Gr) (ad : Nat → Nat) (A : Nat → Prop) (s : State) (S : MS) (H : Heap) (locs : List Loc) : Prop := va_K (rD g) cl0 (tyC g) s ∧ va_P (rD g) cl0 (WdC g ad S) H ∧ va_D A (WdC g ad S) ∧ va_S A s.heap H locs ∧ wfCZ S
section
variable {g : Gr} {ad : Nat → Nat} {A : Nat → Prop} {s : State} {S S' : MS} {H H1 : Heap} {locs locs1 : List Loc} {h : Nat}
theorem RepCZ.K (r : RepCZ g ad A s S H locs) : va_K (rD g) cl0 (tyC g) s := r.1
end
section
variable {g : Gr} {ad : Nat → Nat} {A : Nat → Prop} {s : State} {S S' : MS} {H H1 : Heap} {locs locs1 : List Loc} {h : Nat}
theorem RepCZ.P (r : RepCZ g ad A s S H locs) : va_P (rD g) cl0 (WdC g ad S) H := r.2.1
end
section
variable {g : Gr} {ad : Nat → Nat} {A : Nat → Prop} {s : State} {S S' : MS} {H H1 : Heap} {locs locs1 : List Loc} {h : Nat}
theorem RepCZ.D (r : RepCZ g ad A s S H locs) : va_D A (WdC g ad S) := r.2.2.1
end
section
variable {g : Gr} {ad : Nat → Nat} {A : Nat → Prop} {s : State} {S S' : MS} {H H1 : Heap} {locs locs1 : List Loc} {h : Nat}
theorem RepCZ.sS (r : RepCZ g ad A s S H locs) : va_S A s.heap H locs := r.2.2.2.1
end
section
variable {g : Gr} {ad : Nat → Nat} {A : Nat → Prop} {s : State} {S S' : MS} {H H1 : Heap} {locs locs1 : List Loc} {h : Nat}
theorem RepCZ.w (r : RepCZ g ad A s S H locs) : wfCZ S := r.2.2.2.2
end
section
variable {g : Gr} {ad : Nat → Nat} {A : Nat → Prop} {s : State} {S S' : MS} {H H1 : Heap} {locs locs1 : List Loc} {h : Nat}
theorem RepCZ.ups (r : RepCZ g ad A s S H locs) {c : va_E} (hl : h < qn S) (hn : qn S' = qn S) (hne : ∀ a, a ≠ h → celC g ad S' a = celC g ad S a) (hc : celC g ad S' h = c) (hw : wfCZ S') (hP : va_P (rD g) cl0 ((WdC g ad S).set h (ad h, c)) H1) (hD : va_D A ((WdC g ad S).set h (ad h, c))) (hS : va_S A s.heap H1 locs1) : RepCZ g ad A s S' H1 locs1 := by
  rw [← WdC_set hl hn hne hc] at hP hD
  exact ⟨r.K, hP, hD, hS, hw⟩
end
section
variable {g : Gr} {ad : Nat → Nat} {A : Nat → Prop} {s : State} {S : MS} {H H1 : Heap} {locs locs1 : List Loc} {h : Nat}
theorem RepCZ.atB {t : Nat} (r : RepCZ g ad A s S H locs) (e : qT S h = t) (ht : 100 < t ∧ t < 200) : (WdC g ad S)[h]? = some (ad h, .inl (g.cB, qN S h, .inl (qI S h))) := WdC_at (r.w.lt e (by omega) (by omega) (by omega)) (celCB e ht)
end
section
variable {g : Gr} {ad : Nat → Nat} {A : Nat → Prop} {s : State} {S : MS} {H H1 : Heap} {locs locs1 : List Loc} {h : Nat}
theorem RepCZ.atI {t : Nat} (r : RepCZ g ad A s S H locs) (e : qT S h = t) (ht : 200 < t ∧ t < 300) : (WdC g ad S)[h]? = some (ad h, .inl (g.cI, qN S h, .inl (qI S h))) := WdC_at (r.w.lt e (by omega) (by omega) (by omega)) (celCI e ht)
end
section
variable {g : Gr} {ad : Nat → Nat} {A : Nat → Prop} {s : State} {S : MS} {H H1 : Heap} {locs locs1 : List Loc} {h : Nat}
theorem RepCZ.atZ {t : Nat} (r : RepCZ g ad A s S H locs) (e : qT S h = t) (ht : 300 < t ∧ t < 400) : (WdC g ad S)[h]? = some (ad h, .inl (g.cZ, qN S h, .inl (qI S h))) := WdC_at (r.w.lt e (by omega) (by omega) (by omega)) (celCZ e ht)
end
section
variable {g : Gr} {ad : Nat → Nat} {A : Nat → Prop} {s : State} {S : MS} {H H1 : Heap} {locs locs1 : List Loc} {h : Nat}
theorem RepCZ.atL {t : Nat} (r : RepCZ g ad A s S H locs) (e : qT S h = t) (ht : 400 < t ∧ t < 500) : (WdC g ad S)[h]? = some (ad h, .inl (g.cL, qN S h, .inr (.inl (qJ S h)))) := WdC_at (r.w.lt e (by omega) (by omega) (by omega)) (celCL e ht)
end
section
variable {g : Gr} {ad : Nat → Nat} {A : Nat → Prop} {s : State} {S : MS} {H H1 : Heap} {locs locs1 : List Loc} {h : Nat}
theorem RepCZ.at5 (r : RepCZ g ad A s S H locs) (e : qT S h = 5) : (WdC g ad S)[h]? = some (ad h, .inl (g.cS, qN S h, .inr (.inr (.inr (.inr (fun i => (qR S h i).map ad)))))) := WdC_at (r.w.lt e (by decide) (by decide) (by decide)) (celC5 e)
end
section
variable {g : Gr} {ad : Nat → Nat} {A : Nat → Prop} {s : State} {S : MS} {H H1 : Heap} {locs locs1 : List Loc} {h : Nat}
theorem RepCZ.at6 (r : RepCZ g ad A s S H locs) (e : qT S h = 6) : (WdC g ad S)[h]? = some (ad h, .inl (g.cF, qN S h, .inr (.inr (.inr (.inr (fun i => (qR S h i).map ad)))))) := WdC_at (r.w.lt e (by decide) (by decide) (by decide)) (celC6 e)
end
section
variable {g : Gr} {ad : Nat → Nat} {A : Nat → Prop} {s : State} {S : MS} {H H1 : Heap} {locs locs1 : List Loc} {h : Nat}
theorem RepCZ.at40 (r : RepCZ g ad A s S H locs) (e : qT S h = 40) : (WdC g ad S)[h]? = some (ad h, .inr (0, FX0 (qI S h) (qJ S h) (qR S h) ad)) := WdC_at (r.w.lt e (by decide) (by decide) (by decide)) (celC40 e)
end
section
variable {g : Gr} {ad : Nat → Nat} {A : Nat → Prop} {s : State} {S : MS} {H H1 : Heap} {locs locs1 : List Loc} {h : Nat}
theorem RepCZ.at41 (r : RepCZ g ad A s S H locs) (e : qT S h = 41) : (WdC g ad S)[h]? = some (ad h, .inr (1, FX1 (qI S h) (qJ S h) (qR S h) ad)) := WdC_at (r.w.lt e (by decide) (by decide) (by decide)) (celC41 e)
end
section
variable {g : Gr} {ad : Nat → Nat} {A : Nat → Prop} {s : State} {S : MS} {H H1 : Heap} {locs locs1 : List Loc} {h : Nat}
theorem RepCZ.at42 (r : RepCZ g ad A s S H locs) (e : qT S h = 42) : (WdC g ad S)[h]? = some (ad h, .inr (2, FX2 (qI S h) (qJ S h) (qR S h) ad)) := WdC_at (r.w.lt e (by decide) (by decide) (by decide)) (celC42 e)
end
section
variable {g : Gr} {ad : Nat → Nat} {A : Nat → Prop} {s : State} {S : MS} {H H1 : Heap} {locs locs1 : List Loc} {h : Nat}
theorem RepCZ.at43 (r : RepCZ g ad A s S H locs) (e : qT S h = 43) : (WdC g ad S)[h]? = some (ad h, .inr (3, FX3 (qI S h) (qJ S h) (qR S h) ad)) := WdC_at (r.w.lt e (by decide) (by decide) (by decide)) (celC43 e)
end
section
variable {g : Gr} {ad : Nat → Nat} {A : Nat → Prop} {s : State} {S : MS} {H H1 : Heap} {locs locs1 : List Loc} {h : Nat}
theorem RepCZ.at44 (r : RepCZ g ad A s S H locs) (e : qT S h = 44) : (WdC g ad S)[h]? = some (ad h, .inr (4, FX4 (qI S h) (qJ S h) (qR S h) ad)) := WdC_at (r.w.lt e (by decide) (by decide) (by decide)) (celC44 e)
end
section
variable {g : Gr} {ad : Nat → Nat} {A : Nat → Prop} {s : State} {S : MS} {H H1 : Heap} {locs locs1 : List Loc} {h : Nat}
theorem RepCZ.at45 (r : RepCZ g ad A s S H locs) (e : qT S h = 45) : (WdC g ad S)[h]? = some (ad h, .inr (5, FX5 (qI S h) (qJ S h) (qR S h) ad)) := WdC_at (r.w.lt e (by decide) (by decide) (by decide)) (celC45 e)
end
section
variable {g : Gr} {ad : Nat → Nat} {A : Nat → Prop} {s : State} {S : MS} {H H1 : Heap} {locs locs1 : List Loc} {h : Nat}
theorem RepCZ.at46 (r : RepCZ g ad A s S H locs) (e : qT S h = 46) : (WdC g ad S)[h]? = some (ad h, .inr (6, FX7 (qI S h) (qJ S h) (qR S h) ad)) := WdC_at (r.w.lt e (by decide) (by decide) (by decide)) (celC46 e)
end
section
variable {g : Gr} {ad : Nat → Nat} {A : Nat → Prop} {s : State} {S : MS} {H H1 : Heap} {locs locs1 : List Loc} {h : Nat}
theorem RepCZ.at47 (r : RepCZ g ad A s S H locs) (e : qT S h = 47) : (WdC g ad S)[h]? = some (ad h, .inr (7, FX8 (qI S h) (qJ S h) (qR S h) ad)) := WdC_at (r.w.lt e (by decide) (by decide) (by decide)) (celC47 e)
end
section
variable {g : Gr} {ad : Nat → Nat} {A : Nat → Prop} {s : State} {S : MS} {H H1 : Heap} {locs locs1 : List Loc} {h : Nat}
theorem RepCZ.at48 (r : RepCZ g ad A s S H locs) (e : qT S h = 48) : (WdC g ad S)[h]? = some (ad h, .inr (8, FX9 (qI S h) (qJ S h) (qR S h) ad)) := WdC_at (r.w.lt e (by decide) (by decide) (by decide)) (celC48 e)
end
section
variable {g : Gr} {ad : Nat → Nat} {A : Nat → Prop} {s : State} {S : MS} {H H1 : Heap} {locs locs1 : List Loc} {h : Nat}
theorem RepCZ.at49 (r : RepCZ g ad A s S H locs) (e : qT S h = 49) : (WdC g ad S)[h]? = some (ad h, .inr (9, FX10 (qI S h) (qJ S h) (qR S h) ad)) := WdC_at (r.w.lt e (by decide) (by decide) (by decide)) (celC49 e)
end
section
variable {g : Gr} {ad : Nat → Nat} {A : Nat → Prop} {s : State} {S : MS} {H H1 : Heap} {locs locs1 : List Loc} {h : Nat}
theorem RepCZ.at50 (r : RepCZ g ad A s S H locs) (e : qT S h = 50) : (WdC g ad S)[h]? = some (ad h, .inr (10, FX11 (qI S h) (qJ S h) (qR S h) ad)) := WdC_at (r.w.lt e (by decide) (by decide) (by decide)) (celC50 e)
end
section
variable {g : Gr} {ad : Nat → Nat} {A : Nat → Prop} {s : State} {S : MS} {H H1 : Heap} {locs locs1 : List Loc} {h : Nat}
theorem RepCZ.at51 (r : RepCZ g ad A s S H locs) (e : qT S h = 51) : (WdC g ad S)[h]? = some (ad h, .inr (11, FX12 (qI S h) (qJ S h) (qR S h) ad)) := WdC_at (r.w.lt e (by decide) (by decide) (by decide)) (celC51 e)
end
section
variable {g : Gr} {ad : Nat → Nat} {A : Nat → Prop} {s : State} {S : MS} {H H1 : Heap} {locs locs1 : List Loc} {h : Nat}
theorem RepCZ.pI40 {j : Nat} {v : Int32} (r : RepCZ g ad A s S H locs) (e : qT S h = 40) (hf : FX0 (upd (qI S h) j v) (qJ S h) (qR S h) ad = (FX0 (qI S h) (qJ S h) (qR S h) ad).set j (.int v)) (hz : ztgC 40 j = true → v = 0 ∨ v = 1) (hP : va_P (rD g) cl0 ((WdC g ad S).set h (ad h, .inr (0, (FX0 (qI S h) (qJ S h) (qR S h) ad).set j (.int v)))) H1) (hD : va_D A ((WdC g ad S).set h (ad h, .inr (0, (FX0 (qI S h) (qJ S h) (qR S h) ad).set j (.int v))))) (hS : va_S A s.heap H1 locs1) : RepCZ g ad A s (wI S h j v) H1 locs1 :=
  r.ups (h := h) (r.w.lt e (by decide) (by decide) (by decide)) rfl (fun a hne => celC_wI hne) (by rw [celC40 (S := wI S h j v) e, qI_self, ← hf]; rfl) (r.w.putI e (by decide) (fun q => absurd q.1 (by decide)) hz) hP hD hS
end
section
variable {g : Gr} {ad : Nat → Nat} {A : Nat → Prop} {s : State} {S : MS} {H H1 : Heap} {locs locs1 : List Loc} {h : Nat}
theorem RepCZ.pR40 {j : Nat} {v : Option Nat} (r : RepCZ g ad A s S H locs) (e : qT S h = 40) (hf : FX0 (qI S h) (qJ S h) (va_up (qR S h) j v) ad = (FX0 (qI S h) (qJ S h) (qR S h) ad).set j (vf ad v)) (hw : wfCZ (wR S h j v)) (hP : va_P (rD g) cl0 ((WdC g ad S).set h (ad h, .inr (0, (FX0 (qI S h) (qJ S h) (qR S h) ad).set j (vf ad v)))) H1) (hD : va_D A ((WdC g ad S).set h (ad h, .inr (0, (FX0 (qI S h) (qJ S h) (qR S h) ad).set j (vf ad v))))) (hS : va_S A s.heap H1 locs1) : RepCZ g ad A s (wR S h j v) H1 locs1 :=
  r.ups (h := h) (r.w.lt e (by decide) (by decide) (by decide)) rfl (fun a hne => celC_wR hne) (by rw [celC40 (S := wR S h j v) e, qR_self, ← hf]; rfl) hw hP hD hS
end
section
variable {g : Gr} {ad : Nat → Nat} {A : Nat → Prop} {s : State} {S : MS} {H H1 : Heap} {locs locs1 : List Loc} {h : Nat}
theorem RepCZ.pI41 {j : Nat} {v : Int32} (r : RepCZ g ad A s S H locs) (e : qT S h = 41) (hf : FX1 (upd (qI S h) j v) (qJ S h) (qR S h) ad = (FX1 (qI S h) (qJ S h) (qR S h) ad).set j (.int v)) (hz : ztgC 41 j = true → v = 0 ∨ v = 1) (hP : va_P (rD g) cl0 ((WdC g ad S).set h (ad h, .inr (1, (FX1 (qI S h) (qJ S h) (qR S h) ad).set j (.int v)))) H1) (hD : va_D A ((WdC g ad S).set h (ad h, .inr (1, (FX1 (qI S h) (qJ S h) (qR S h) ad).set j (.int v))))) (hS : va_S A s.heap H1 locs1) : RepCZ g ad A s (wI S h j v) H1 locs1 :=
  r.ups (h := h) (r.w.lt e (by decide) (by decide) (by decide)) rfl (fun a hne => celC_wI hne) (by rw [celC41 (S := wI S h j v) e, qI_self, ← hf]; rfl) (r.w.putI e (by decide) (fun q => absurd q.1 (by decide)) hz) hP hD hS
end
section
variable {g : Gr} {ad : Nat → Nat} {A : Nat → Prop} {s : State} {S : MS} {H H1 : Heap} {locs locs1 : List Loc} {h : Nat}
theorem RepCZ.pR41 {j : Nat} {v : Option Nat} (r : RepCZ g ad A s S H locs) (e : qT S h = 41) (hf : FX1 (qI S h) (qJ S h) (va_up (qR S h) j v) ad = (FX1 (qI S h) (qJ S h) (qR S h) ad).set j (vf ad v)) (hw : wfCZ (wR S h j v)) (hP : va_P (rD g) cl0 ((WdC g ad S).set h (ad h, .inr (1, (FX1 (qI S h) (qJ S h) (qR S h) ad).set j (vf ad v)))) H1) (hD : va_D A ((WdC g ad S).set h (ad h, .inr (1, (FX1 (qI S h) (qJ S h) (qR S h) ad).set j (vf ad v))))) (hS : va_S A s.heap H1 locs1) : RepCZ g ad A s (wR S h j v) H1 locs1 :=
  r.ups (h := h) (r.w.lt e (by decide) (by decide) (by decide)) rfl (fun a hne => celC_wR hne) (by rw [celC41 (S := wR S h j v) e, qR_self, ← hf]; rfl) hw hP hD hS
end
section
variable {g : Gr} {ad : Nat → Nat} {A : Nat → Prop} {s : State} {S : MS} {H H1 : Heap} {locs locs1 : List Loc} {h : Nat}
theorem RepCZ.pI42 {j : Nat} {v : Int32} (r : RepCZ g ad A s S H locs) (e : qT S h = 42) (hf : FX2 (upd (qI S h) j v) (qJ S h) (qR S h) ad = (FX2 (qI S h) (qJ S h) (qR S h) ad).set j (.int v)) (hz : ztgC 42 j = true → v = 0 ∨ v = 1) (hP : va_P (rD g) cl0 ((WdC g ad S).set h (ad h, .inr (2, (FX2 (qI S h) (qJ S h) (qR S h) ad).set j (.int v)))) H1) (hD : va_D A ((WdC g ad S).set h (ad h, .inr (2, (FX2 (qI S h) (qJ S h) (qR S h) ad).set j (.int v))))) (hS : va_S A s.heap H1 locs1) : RepCZ g ad A s (wI S h j v) H1 locs1 :=
  r.ups (h := h) (r.w.lt e (by decide) (by decide) (by decide)) rfl (fun a hne => celC_wI hne) (by rw [celC42 (S := wI S h j v) e, qI_self, ← hf]; rfl) (r.w.putI e (by decide) (fun q => absurd q.1 (by decide)) hz) hP hD hS
end
section
variable {g : Gr} {ad : Nat → Nat} {A : Nat → Prop} {s : State} {S : MS} {H H1 : Heap} {locs locs1 : List Loc} {h : Nat}
theorem RepCZ.pJ42 {j : Nat} {v : Int64} (r : RepCZ g ad A s S H locs) (e : qT S h = 42) (hf : FX2 (qI S h) (vp_updL (qJ S h) j v) (qR S h) ad = (FX2 (qI S h) (qJ S h) (qR S h) ad).set j (.long v)) (hP : va_P (rD g) cl0 ((WdC g ad S).set h (ad h, .inr (2, (FX2 (qI S h) (qJ S h) (qR S h) ad).set j (.long v)))) H1) (hD : va_D A ((WdC g ad S).set h (ad h, .inr (2, (FX2 (qI S h) (qJ S h) (qR S h) ad).set j (.long v))))) (hS : va_S A s.heap H1 locs1) : RepCZ g ad A s (wJ S h j v) H1 locs1 :=
  r.ups (h := h) (r.w.lt e (by decide) (by decide) (by decide)) rfl (fun a hne => celC_wJ hne) (by rw [celC42 (S := wJ S h j v) e, qJ_self, ← hf]; rfl) r.w hP hD hS
end
section
variable {g : Gr} {ad : Nat → Nat} {A : Nat → Prop} {s : State} {S : MS} {H H1 : Heap} {locs locs1 : List Loc} {h : Nat}
theorem RepCZ.pR42 {j : Nat} {v : Option Nat} (r : RepCZ g ad A s S H locs) (e : qT S h = 42) (hf : FX2 (qI S h) (qJ S h) (va_up (qR S h) j v) ad = (FX2 (qI S h) (qJ S h) (qR S h) ad).set j (vf ad v)) (hw : wfCZ (wR S h j v)) (hP : va_P (rD g) cl0 ((WdC g ad S).set h (ad h, .inr (2, (FX2 (qI S h) (qJ S h) (qR S h) ad).set j (vf ad v)))) H1) (hD : va_D A ((WdC g ad S).set h (ad h, .inr (2, (FX2 (qI S h) (qJ S h) (qR S h) ad).set j (vf ad v))))) (hS : va_S A s.heap H1 locs1) : RepCZ g ad A s (wR S h j v) H1 locs1 :=
  r.ups (h := h) (r.w.lt e (by decide) (by decide) (by decide)) rfl (fun a hne => celC_wR hne) (by rw [celC42 (S := wR S h j v) e, qR_self, ← hf]; rfl) hw hP hD hS
end
section
variable {g : Gr} {ad : Nat → Nat} {A : Nat → Prop} {s : State} {S : MS} {H H1 : Heap} {locs locs1 : List Loc} {h : Nat}
theorem RepCZ.pI43 {j : Nat} {v : Int32} (r : RepCZ g ad A s S H locs) (e : qT S h = 43) (hf : FX3 (upd (qI S h) j v) (qJ S h) (qR S h) ad = (FX3 (qI S h) (qJ S h) (qR S h) ad).set j (.int v)) (hz : ztgC 43 j = true → v = 0 ∨ v = 1) (hP : va_P (rD g) cl0 ((WdC g ad S).set h (ad h, .inr (3, (FX3 (qI S h) (qJ S h) (qR S h) ad).set j (.int v)))) H1) (hD : va_D A ((WdC g ad S).set h (ad h, .inr (3, (FX3 (qI S h) (qJ S h) (qR S h) ad).set j (.int v))))) (hS : va_S A s.heap H1 locs1) : RepCZ g ad A s (wI S h j v) H1 locs1 :=
  r.ups (h := h) (r.w.lt e (by decide) (by decide) (by decide)) rfl (fun a hne => celC_wI hne) (by rw [celC43 (S := wI S h j v) e, qI_self, ← hf]; rfl) (r.w.putI e (by decide) (fun q => absurd q.1 (by decide)) hz) hP hD hS
end
section
variable {g : Gr} {ad : Nat → Nat} {A : Nat → Prop} {s : State} {S : MS} {H H1 : Heap} {locs locs1 : List Loc} {h : Nat}
theorem RepCZ.pR43 {j : Nat} {v : Option Nat} (r : RepCZ g ad A s S H locs) (e : qT S h = 43) (hf : FX3 (qI S h) (qJ S h) (va_up (qR S h) j v) ad = (FX3 (qI S h) (qJ S h) (qR S h) ad).set j (vf ad v)) (hw : wfCZ (wR S h j v)) (hP : va_P (rD g) cl0 ((WdC g ad S).set h (ad h, .inr (3, (FX3 (qI S h) (qJ S h) (qR S h) ad).set j (vf ad v)))) H1) (hD : va_D A ((WdC g ad S).set h (ad h, .inr (3, (FX3 (qI S h) (qJ S h) (qR S h) ad).set j (vf ad v))))) (hS : va_S A s.heap H1 locs1) : RepCZ g ad A s (wR S h j v) H1 locs1 :=
  r.ups (h := h) (r.w.lt e (by decide) (by decide) (by decide)) rfl (fun a hne => celC_wR hne) (by rw [celC43 (S := wR S h j v) e, qR_self, ← hf]; rfl) hw hP hD hS
end
section
variable {g : Gr} {ad : Nat → Nat} {A : Nat → Prop} {s : State} {S : MS} {H H1 : Heap} {locs locs1 : List Loc} {h : Nat}
theorem RepCZ.pI44 {j : Nat} {v : Int32} (r : RepCZ g ad A s S H locs) (e : qT S h = 44) (hf : FX4 (upd (qI S h) j v) (qJ S h) (qR S h) ad = (FX4 (qI S h) (qJ S h) (qR S h) ad).set j (.int v)) (hz : ztgC 44 j = true → v = 0 ∨ v = 1) (hP : va_P (rD g) cl0 ((WdC g ad S).set h (ad h, .inr (4, (FX4 (qI S h) (qJ S h) (qR S h) ad).set j (.int v)))) H1) (hD : va_D A ((WdC g ad S).set h (ad h, .inr (4, (FX4 (qI S h) (qJ S h) (qR S h) ad).set j (.int v))))) (hS : va_S A s.heap H1 locs1) : RepCZ g ad A s (wI S h j v) H1 locs1 :=
  r.ups (h := h) (r.w.lt e (by decide) (by decide) (by decide)) rfl (fun a hne => celC_wI hne) (by rw [celC44 (S := wI S h j v) e, qI_self, ← hf]; rfl) (r.w.putI e (by decide) (fun q => absurd q.1 (by decide)) hz) hP hD hS
end
section
variable {g : Gr} {ad : Nat → Nat} {A : Nat → Prop} {s : State} {S : MS} {H H1 : Heap} {locs locs1 : List Loc} {h : Nat}
theorem RepCZ.pR44 {j : Nat} {v : Option Nat} (r : RepCZ g ad A s S H locs) (e : qT S h = 44) (hf : FX4 (qI S h) (qJ S h) (va_up (qR S h) j v) ad = (FX4 (qI S h) (qJ S h) (qR S h) ad).set j (vf ad v)) (hw : wfCZ (wR S h j v)) (hP : va_P (rD g) cl0 ((WdC g ad S).set h (ad h, .inr (4, (FX4 (qI S h) (qJ S h) (qR S h) ad).set j (vf ad v)))) H1) (hD : va_D A ((WdC g ad S).set h (ad h, .inr (4, (FX4 (qI S h) (qJ S h) (qR S h) ad).set j (vf ad v))))) (hS : va_S A s.heap H1 locs1) : RepCZ g ad A s (wR S h j v) H1 locs1 :=
  r.ups (h := h) (r.w.lt e (by decide) (by decide) (by decide)) rfl (fun a hne => celC_wR hne) (by rw [celC44 (S := wR S h j v) e, qR_self, ← hf]; rfl) hw hP hD hS
end
section
variable {g : Gr} {ad : Nat → Nat} {A : Nat → Prop} {s : State} {S : MS} {H H1 : Heap} {locs locs1 : List Loc} {h : Nat}
theorem RepCZ.pI45 {j : Nat} {v : Int32} (r : RepCZ g ad A s S H locs) (e : qT S h = 45) (hf : FX5 (upd (qI S h) j v) (qJ S h) (qR S h) ad = (FX5 (qI S h) (qJ S h) (qR S h) ad).set j (.int v)) (hz : ztgC 45 j = true → v = 0 ∨ v = 1) (hP : va_P (rD g) cl0 ((WdC g ad S).set h (ad h, .inr (5, (FX5 (qI S h) (qJ S h) (qR S h) ad).set j (.int v)))) H1) (hD : va_D A ((WdC g ad S).set h (ad h, .inr (5, (FX5 (qI S h) (qJ S h) (qR S h) ad).set j (.int v))))) (hS : va_S A s.heap H1 locs1) : RepCZ g ad A s (wI S h j v) H1 locs1 :=
  r.ups (h := h) (r.w.lt e (by decide) (by decide) (by decide)) rfl (fun a hne => celC_wI hne) (by rw [celC45 (S := wI S h j v) e, qI_self, ← hf]; rfl) (r.w.putI e (by decide) (fun q => absurd q.1 (by decide)) hz) hP hD hS
end
section
variable {g : Gr} {ad : Nat → Nat} {A : Nat → Prop} {s : State} {S : MS} {H H1 : Heap} {locs locs1 : List Loc} {h : Nat}
theorem RepCZ.pJ45 {j : Nat} {v : Int64} (r : RepCZ g ad A s S H locs) (e : qT S h = 45) (hf : FX5 (qI S h) (vp_updL (qJ S h) j v) (qR S h) ad = (FX5 (qI S h) (qJ S h) (qR S h) ad).set j (.long v)) (hP : va_P (rD g) cl0 ((WdC g ad S).set h (ad h, .inr (5, (FX5 (qI S h) (qJ S h) (qR S h) ad).set j (.long v)))) H1) (hD : va_D A ((WdC g ad S).set h (ad h, .inr (5, (FX5 (qI S h) (qJ S h) (qR S h) ad).set j (.long v))))) (hS : va_S A s.heap H1 locs1) : RepCZ g ad A s (wJ S h j v) H1 locs1 :=
  r.ups (h := h) (r.w.lt e (by decide) (by decide) (by decide)) rfl (fun a hne => celC_wJ hne) (by rw [celC45 (S := wJ S h j v) e, qJ_self, ← hf]; rfl) r.w hP hD hS
end
section
variable {g : Gr} {ad : Nat → Nat} {A : Nat → Prop} {s : State} {S : MS} {H H1 : Heap} {locs locs1 : List Loc} {h : Nat}
theorem RepCZ.pR45 {j : Nat} {v : Option Nat} (r : RepCZ g ad A s S H locs) (e : qT S h = 45) (hf : FX5 (qI S h) (qJ S h) (va_up (qR S h) j v) ad = (FX5 (qI S h) (qJ S h) (qR S h) ad).set j (vf ad v)) (hw : wfCZ (wR S h j v)) (hP : va_P (rD g) cl0 ((WdC g ad S).set h (ad h, .inr (5, (FX5 (qI S h) (qJ S h) (qR S h) ad).set j (vf ad v)))) H1) (hD : va_D A ((WdC g ad S).set h (ad h, .inr (5, (FX5 (qI S h) (qJ S h) (qR S h) ad).set j (vf ad v))))) (hS : va_S A s.heap H1 locs1) : RepCZ g ad A s (wR S h j v) H1 locs1 :=
  r.ups (h := h) (r.w.lt e (by decide) (by decide) (by decide)) rfl (fun a hne => celC_wR hne) (by rw [celC45 (S := wR S h j v) e, qR_self, ← hf]; rfl) hw hP hD hS
end
section
variable {g : Gr} {ad : Nat → Nat} {A : Nat → Prop} {s : State} {S : MS} {H H1 : Heap} {locs locs1 : List Loc} {h : Nat}
theorem RepCZ.pI46 {j : Nat} {v : Int32} (r : RepCZ g ad A s S H locs) (e : qT S h = 46) (hf : FX7 (upd (qI S h) j v) (qJ S h) (qR S h) ad = (FX7 (qI S h) (qJ S h) (qR S h) ad).set j (.int v)) (hz : ztgC 46 j = true → v = 0 ∨ v = 1) (hP : va_P (rD g) cl0 ((WdC g ad S).set h (ad h, .inr (6, (FX7 (qI S h) (qJ S h) (qR S h) ad).set j (.int v)))) H1) (hD : va_D A ((WdC g ad S).set h (ad h, .inr (6, (FX7 (qI S h) (qJ S h) (qR S h) ad).set j (.int v))))) (hS : va_S A s.heap H1 locs1) : RepCZ g ad A s (wI S h j v) H1 locs1 :=
  r.ups (h := h) (r.w.lt e (by decide) (by decide) (by decide)) rfl (fun a hne => celC_wI hne) (by rw [celC46 (S := wI S h j v) e, qI_self, ← hf]; rfl) (r.w.putI e (by decide) (fun q => absurd q.1 (by decide)) hz) hP hD hS
end
section
variable {g : Gr} {ad : Nat → Nat} {A : Nat → Prop} {s : State} {S : MS} {H H1 : Heap} {locs locs1 : List Loc} {h : Nat}
theorem RepCZ.pR46 {j : Nat} {v : Option Nat} (r : RepCZ g ad A s S H locs) (e : qT S h = 46) (hf : FX7 (qI S h) (qJ S h) (va_up (qR S h) j v) ad = (FX7 (qI S h) (qJ S h) (qR S h) ad).set j (vf ad v)) (hw : wfCZ (wR S h j v)) (hP : va_P (rD g) cl0 ((WdC g ad S).set h (ad h, .inr (6, (FX7 (qI S h) (qJ S h) (qR S h) ad).set j (vf ad v)))) H1) (hD : va_D A ((WdC g ad S).set h (ad h, .inr (6, (FX7 (qI S h) (qJ S h) (qR S h) ad).set j (vf ad v))))) (hS : va_S A s.heap H1 locs1) : RepCZ g ad A s (wR S h j v) H1 locs1 :=
  r.ups (h := h) (r.w.lt e (by decide) (by decide) (by decide)) rfl (fun a hne => celC_wR hne) (by rw [celC46 (S := wR S h j v) e, qR_self, ← hf]; rfl) hw hP hD hS
end
section
variable {g : Gr} {ad : Nat → Nat} {A : Nat → Prop} {s : State} {S : MS} {H H1 : Heap} {locs locs1 : List Loc} {h : Nat}
theorem RepCZ.pI47 {j : Nat} {v : Int32} (r : RepCZ g ad A s S H locs) (e : qT S h = 47) (hf : FX8 (upd (qI S h) j v) (qJ S h) (qR S h) ad = (FX8 (qI S h) (qJ S h) (qR S h) ad).set j (.int v)) (hz : ztgC 47 j = true → v = 0 ∨ v = 1) (hP : va_P (rD g) cl0 ((WdC g ad S).set h (ad h, .inr (7, (FX8 (qI S h) (qJ S h) (qR S h) ad).set j (.int v)))) H1) (hD : va_D A ((WdC g ad S).set h (ad h, .inr (7, (FX8 (qI S h) (qJ S h) (qR S h) ad).set j (.int v))))) (hS : va_S A s.heap H1 locs1) : RepCZ g ad A s (wI S h j v) H1 locs1 :=
  r.ups (h := h) (r.w.lt e (by decide) (by decide) (by decide)) rfl (fun a hne => celC_wI hne) (by rw [celC47 (S := wI S h j v) e, qI_self, ← hf]; rfl) (r.w.putI e (by decide) (fun q => absurd q.1 (by decide)) hz) hP hD hS
end
section
variable {g : Gr} {ad : Nat → Nat} {A : Nat → Prop} {s : State} {S : MS} {H H1 : Heap} {locs locs1 : List Loc} {h : Nat}
theorem RepCZ.pR47 {j : Nat} {v : Option Nat} (r : RepCZ g ad A s S H locs) (e : qT S h = 47) (hf : FX8 (qI S h) (qJ S h) (va_up (qR S h) j v) ad = (FX8 (qI S h) (qJ S h) (qR S h) ad).set j (vf ad v)) (hw : wfCZ (wR S h j v)) (hP : va_P (rD g) cl0 ((WdC g ad S).set h (ad h, .inr (7, (FX8 (qI S h) (qJ S h) (qR S h) ad).set j (vf ad v)))) H1) (hD : va_D A ((WdC g ad S).set h (ad h, .inr (7, (FX8 (qI S h) (qJ S h) (qR S h) ad).set j (vf ad v))))) (hS : va_S A s.heap H1 locs1) : RepCZ g ad A s (wR S h j v) H1 locs1 :=
  r.ups (h := h) (r.w.lt e (by decide) (by decide) (by decide)) rfl (fun a hne => celC_wR hne) (by rw [celC47 (S := wR S h j v) e, qR_self, ← hf]; rfl) hw hP hD hS
end
section
variable {g : Gr} {ad : Nat → Nat} {A : Nat → Prop} {s : State} {S : MS} {H H1 : Heap} {locs locs1 : List Loc} {h : Nat}
theorem RepCZ.pR48 {j : Nat} {v : Option Nat} (r : RepCZ g ad A s S H locs) (e : qT S h = 48) (hf : FX9 (qI S h) (qJ S h) (va_up (qR S h) j v) ad = (FX9 (qI S h) (qJ S h) (qR S h) ad).set j (vf ad v)) (hw : wfCZ (wR S h j v)) (hP : va_P (rD g) cl0 ((WdC g ad S).set h (ad h, .inr (8, (FX9 (qI S h) (qJ S h) (qR S h) ad).set j (vf ad v)))) H1) (hD : va_D A ((WdC g ad S).set h (ad h, .inr (8, (FX9 (qI S h) (qJ S h) (qR S h) ad).set j (vf ad v))))) (hS : va_S A s.heap H1 locs1) : RepCZ g ad A s (wR S h j v) H1 locs1 :=
  r.ups (h := h) (r.w.lt e (by decide) (by decide) (by decide)) rfl (fun a hne => celC_wR hne) (by rw [celC48 (S := wR S h j v) e, qR_self, ← hf]; rfl) hw hP hD hS
end
section
variable {g : Gr} {ad : Nat → Nat} {A : Nat → Prop} {s : State} {S : MS} {H H1 : Heap} {locs locs1 : List Loc} {h : Nat}
theorem RepCZ.pI49 {j : Nat} {v : Int32} (r : RepCZ g ad A s S H locs) (e : qT S h = 49) (hf : FX10 (upd (qI S h) j v) (qJ S h) (qR S h) ad = (FX10 (qI S h) (qJ S h) (qR S h) ad).set j (.int v)) (hz : ztgC 49 j = true → v = 0 ∨ v = 1) (hP : va_P (rD g) cl0 ((WdC g ad S).set h (ad h, .inr (9, (FX10 (qI S h) (qJ S h) (qR S h) ad).set j (.int v)))) H1) (hD : va_D A ((WdC g ad S).set h (ad h, .inr (9, (FX10 (qI S h) (qJ S h) (qR S h) ad).set j (.int v))))) (hS : va_S A s.heap H1 locs1) : RepCZ g ad A s (wI S h j v) H1 locs1 :=
  r.ups (h := h) (r.w.lt e (by decide) (by decide) (by decide)) rfl (fun a hne => celC_wI hne) (by rw [celC49 (S := wI S h j v) e, qI_self, ← hf]; rfl) (r.w.putI e (by decide) (fun q => absurd q.1 (by decide)) hz) hP hD hS
end
section
variable {g : Gr} {ad : Nat → Nat} {A : Nat → Prop} {s : State} {S : MS} {H H1 : Heap} {locs locs1 : List Loc} {h : Nat}
theorem RepCZ.pR49 {j : Nat} {v : Option Nat} (r : RepCZ g ad A s S H locs) (e : qT S h = 49) (hf : FX10 (qI S h) (qJ S h) (va_up (qR S h) j v) ad = (FX10 (qI S h) (qJ S h) (qR S h) ad).set j (vf ad v)) (hw : wfCZ (wR S h j v)) (hP : va_P (rD g) cl0 ((WdC g ad S).set h (ad h, .inr (9, (FX10 (qI S h) (qJ S h) (qR S h) ad).set j (vf ad v)))) H1) (hD : va_D A ((WdC g ad S).set h (ad h, .inr (9, (FX10 (qI S h) (qJ S h) (qR S h) ad).set j (vf ad v))))) (hS : va_S A s.heap H1 locs1) : RepCZ g ad A s (wR S h j v) H1 locs1 :=
  r.ups (h := h) (r.w.lt e (by decide) (by decide) (by decide)) rfl (fun a hne => celC_wR hne) (by rw [celC49 (S := wR S h j v) e, qR_self, ← hf]; rfl) hw hP hD hS
end
section
variable {g : Gr} {ad : Nat → Nat} {A : Nat → Prop} {s : State} {S : MS} {H H1 : Heap} {locs locs1 : List Loc} {h : Nat}
theorem RepCZ.pI50 {j : Nat} {v : Int32} (r : RepCZ g ad A s S H locs) (e : qT S h = 50) (hf : FX11 (upd (qI S h) j v) (qJ S h) (qR S h) ad = (FX11 (qI S h) (qJ S h) (qR S h) ad).set j (.int v)) (hz : ztgC 50 j = true → v = 0 ∨ v = 1) (hP : va_P (rD g) cl0 ((WdC g ad S).set h (ad h, .inr (10, (FX11 (qI S h) (qJ S h) (qR S h) ad).set j (.int v)))) H1) (hD : va_D A ((WdC g ad S).set h (ad h, .inr (10, (FX11 (qI S h) (qJ S h) (qR S h) ad).set j (.int v))))) (hS : va_S A s.heap H1 locs1) : RepCZ g ad A s (wI S h j v) H1 locs1 :=
  r.ups (h := h) (r.w.lt e (by decide) (by decide) (by decide)) rfl (fun a hne => celC_wI hne) (by rw [celC50 (S := wI S h j v) e, qI_self, ← hf]; rfl) (r.w.putI e (by decide) (fun q => absurd q.1 (by decide)) hz) hP hD hS
end
section
variable {g : Gr} {ad : Nat → Nat} {A : Nat → Prop} {s : State} {S : MS} {H H1 : Heap} {locs locs1 : List Loc} {h : Nat}
theorem RepCZ.pR50 {j : Nat} {v : Option Nat} (r : RepCZ g ad A s S H locs) (e : qT S h = 50) (hf : FX11 (qI S h) (qJ S h) (va_up (qR S h) j v) ad = (FX11 (qI S h) (qJ S h) (qR S h) ad).set j (vf ad v)) (hw : wfCZ (wR S h j v)) (hP : va_P (rD g) cl0 ((WdC g ad S).set h (ad h, .inr (10, (FX11 (qI S h) (qJ S h) (qR S h) ad).set j (vf ad v)))) H1) (hD : va_D A ((WdC g ad S).set h (ad h, .inr (10, (FX11 (qI S h) (qJ S h) (qR S h) ad).set j (vf ad v))))) (hS : va_S A s.heap H1 locs1) : RepCZ g ad A s (wR S h j v) H1 locs1 :=
  r.ups (h := h) (r.w.lt e (by decide) (by decide) (by decide)) rfl (fun a hne => celC_wR hne) (by rw [celC50 (S := wR S h j v) e, qR_self, ← hf]; rfl) hw hP hD hS
end
section
variable {g : Gr} {ad : Nat → Nat} {A : Nat → Prop} {s : State} {S : MS} {H H1 : Heap} {locs locs1 : List Loc} {h : Nat}
theorem RepCZ.pI51 {j : Nat} {v : Int32} (r : RepCZ g ad A s S H locs) (e : qT S h = 51) (hf : FX12 (upd (qI S h) j v) (qJ S h) (qR S h) ad = (FX12 (qI S h) (qJ S h) (qR S h) ad).set j (.int v)) (hz : ztgC 51 j = true → v = 0 ∨ v = 1) (hP : va_P (rD g) cl0 ((WdC g ad S).set h (ad h, .inr (11, (FX12 (qI S h) (qJ S h) (qR S h) ad).set j (.int v)))) H1) (hD : va_D A ((WdC g ad S).set h (ad h, .inr (11, (FX12 (qI S h) (qJ S h) (qR S h) ad).set j (.int v))))) (hS : va_S A s.heap H1 locs1) : RepCZ g ad A s (wI S h j v) H1 locs1 :=
  r.ups (h := h) (r.w.lt e (by decide) (by decide) (by decide)) rfl (fun a hne => celC_wI hne) (by rw [celC51 (S := wI S h j v) e, qI_self, ← hf]; rfl) (r.w.putI e (by decide) (fun q => absurd q.1 (by decide)) hz) hP hD hS
end
section
variable {g : Gr} {ad : Nat → Nat} {A : Nat → Prop} {s : State} {S : MS} {H H1 : Heap} {locs locs1 : List Loc} {h : Nat}
theorem RepCZ.pR51 {j : Nat} {v : Option Nat} (r : RepCZ g ad A s S H locs) (e : qT S h = 51) (hf : FX12 (qI S h) (qJ S h) (va_up (qR S h) j v) ad = (FX12 (qI S h) (qJ S h) (qR S h) ad).set j (vf ad v)) (hw : wfCZ (wR S h j v)) (hP : va_P (rD g) cl0 ((WdC g ad S).set h (ad h, .inr (11, (FX12 (qI S h) (qJ S h) (qR S h) ad).set j (vf ad v)))) H1) (hD : va_D A ((WdC g ad S).set h (ad h, .inr (11, (FX12 (qI S h) (qJ S h) (qR S h) ad).set j (vf ad v))))) (hS : va_S A s.heap H1 locs1) : RepCZ g ad A s (wR S h j v) H1 locs1 :=
  r.ups (h := h) (r.w.lt e (by decide) (by decide) (by decide)) rfl (fun a hne => celC_wR hne) (by rw [celC51 (S := wR S h j v) e, qR_self, ← hf]; rfl) hw hP hD hS
end
section
variable {g : Gr} {ad : Nat → Nat} {A : Nat → Prop} {s : State} {S : MS} {H H1 : Heap} {locs locs1 : List Loc} {h : Nat}
theorem RepCZ.aB {i : Nat} {v : Int32} {t : Nat} (r : RepCZ g ad A s S H locs) (e : qT S h = t) (ht : 100 < t ∧ t < 200) (hb : fits .byte (.int v) = true) (hP : va_P (rD g) cl0 ((WdC g ad S).set h (ad h, .inl (g.cB, qN S h, .inl (upd (qI S h) i v)))) H1) (hD : va_D A ((WdC g ad S).set h (ad h, .inl (g.cB, qN S h, .inl (upd (qI S h) i v))))) (hS : va_S A s.heap H1 locs1) : RepCZ g ad A s (wI S h i v) H1 locs1 :=
  r.ups (h := h) (r.w.lt e (by omega) (by omega) (by omega)) rfl (fun a hne => celC_wI hne) (by rw [celCB (S := wI S h i v) e ht, qI_self]; rfl) (r.w.putI e (by omega) (fun _ => hb) (fun q => absurd q (zB ht))) hP hD hS
end
section
variable {g : Gr} {ad : Nat → Nat} {A : Nat → Prop} {s : State} {S : MS} {H H1 : Heap} {locs locs1 : List Loc} {h : Nat}
theorem RepCZ.cB {f : Nat → Int32} {t : Nat} (r : RepCZ g ad A s S H locs) (e : qT S h = t) (ht : 100 < t ∧ t < 200) (hb : ∀ i, fits .byte (.int (f i)) = true) (hP : va_P (rD g) cl0 ((WdC g ad S).set h (ad h, .inl (g.cB, qN S h, .inl f))) H1) (hD : va_D A ((WdC g ad S).set h (ad h, .inl (g.cB, qN S h, .inl f)))) (hS : va_S A s.heap H1 locs1) : RepCZ g ad A s (wC S h f) H1 locs1 :=
  r.ups (h := h) (r.w.lt e (by omega) (by omega) (by omega)) rfl (fun a hne => celC_eq (if_neg hne) rfl rfl rfl rfl) (by rw [celCB (S := wC S h f) e ht, show qI (wC S h f) h = f from if_pos rfl]; rfl) (r.w.putC e (by omega) (fun _ => hb) (fun _ q => absurd q (zB ht))) hP hD hS
end
section
variable {g : Gr} {ad : Nat → Nat} {A : Nat → Prop} {s : State} {S : MS} {H H1 : Heap} {locs locs1 : List Loc} {h : Nat}
theorem RepCZ.aI {i : Nat} {v : Int32} {t : Nat} (r : RepCZ g ad A s S H locs) (e : qT S h = t) (ht : 200 < t ∧ t < 300) (hP : va_P (rD g) cl0 ((WdC g ad S).set h (ad h, .inl (g.cI, qN S h, .inl (upd (qI S h) i v)))) H1) (hD : va_D A ((WdC g ad S).set h (ad h, .inl (g.cI, qN S h, .inl (upd (qI S h) i v))))) (hS : va_S A s.heap H1 locs1) : RepCZ g ad A s (wI S h i v) H1 locs1 :=
  r.ups (h := h) (r.w.lt e (by omega) (by omega) (by omega)) rfl (fun a hne => celC_wI hne) (by rw [celCI (S := wI S h i v) e ht, qI_self]; rfl) (r.w.putI e (by omega) (fun q => absurd q.2 (by omega)) (fun q => absurd q (zI ht))) hP hD hS
end
section
variable {g : Gr} {ad : Nat → Nat} {A : Nat → Prop} {s : State} {S : MS} {H H1 : Heap} {locs locs1 : List Loc} {h : Nat}
theorem RepCZ.cI {f : Nat → Int32} {t : Nat} (r : RepCZ g ad A s S H locs) (e : qT S h = t) (ht : 200 < t ∧ t < 300) (hP : va_P (rD g) cl0 ((WdC g ad S).set h (ad h, .inl (g.cI, qN S h, .inl f))) H1) (hD : va_D A ((WdC g ad S).set h (ad h, .inl (g.cI, qN S h, .inl f)))) (hS : va_S A s.heap H1 locs1) : RepCZ g ad A s (wC S h f) H1 locs1 :=
  r.ups (h := h) (r.w.lt e (by omega) (by omega) (by omega)) rfl (fun a hne => celC_eq (if_neg hne) rfl rfl rfl rfl) (by rw [celCI (S := wC S h f) e ht, show qI (wC S h f) h = f from if_pos rfl]; rfl) (r.w.putC e (by omega) (fun q => absurd q.2 (by omega)) (fun _ q => absurd q (zI ht))) hP hD hS
end
section
variable {g : Gr} {ad : Nat → Nat} {A : Nat → Prop} {s : State} {S : MS} {H H1 : Heap} {locs locs1 : List Loc} {h : Nat}
theorem RepCZ.aZ {i : Nat} {v : Int32} {t : Nat} (r : RepCZ g ad A s S H locs) (e : qT S h = t) (ht : 300 < t ∧ t < 400) (hb : v = 0 ∨ v = 1) (hP : va_P (rD g) cl0 ((WdC g ad S).set h (ad h, .inl (g.cZ, qN S h, .inl (upd (qI S h) i v)))) H1) (hD : va_D A ((WdC g ad S).set h (ad h, .inl (g.cZ, qN S h, .inl (upd (qI S h) i v))))) (hS : va_S A s.heap H1 locs1) : RepCZ g ad A s (wI S h i v) H1 locs1 :=
  r.ups (h := h) (r.w.lt e (by omega) (by omega) (by omega)) rfl (fun a hne => celC_wI hne) (by rw [celCZ (S := wI S h i v) e ht, qI_self]; rfl) (r.w.putI e (by omega) (fun q => absurd q.2 (by omega)) (fun _ => hb)) hP hD hS
end
section
variable {g : Gr} {ad : Nat → Nat} {A : Nat → Prop} {s : State} {S : MS} {H H1 : Heap} {locs locs1 : List Loc} {h : Nat}
theorem RepCZ.aL {i : Nat} {v : Int64} {t : Nat} (r : RepCZ g ad A s S H locs) (e : qT S h = t) (ht : 400 < t ∧ t < 500) (hP : va_P (rD g) cl0 ((WdC g ad S).set h (ad h, .inl (g.cL, qN S h, .inr (.inl (vp_updL (qJ S h) i v))))) H1) (hD : va_D A ((WdC g ad S).set h (ad h, .inl (g.cL, qN S h, .inr (.inl (vp_updL (qJ S h) i v)))))) (hS : va_S A s.heap H1 locs1) : RepCZ g ad A s (wJ S h i v) H1 locs1 :=
  r.ups (h := h) (r.w.lt e (by omega) (by omega) (by omega)) rfl (fun a hne => celC_wJ hne) (by rw [celCL (S := wJ S h i v) e ht, qJ_self]; rfl) r.w hP hD hS
end
section
variable {g : Gr} {ad : Nat → Nat} {A : Nat → Prop} {s : State} {S : MS} {H H1 : Heap} {locs locs1 : List Loc} {h : Nat}
theorem RepCZ.cL {f : Nat → Int64} {t : Nat} (r : RepCZ g ad A s S H locs) (e : qT S h = t) (ht : 400 < t ∧ t < 500) (hP : va_P (rD g) cl0 ((WdC g ad S).set h (ad h, .inl (g.cL, qN S h, .inr (.inl f)))) H1) (hD : va_D A ((WdC g ad S).set h (ad h, .inl (g.cL, qN S h, .inr (.inl f))))) (hS : va_S A s.heap H1 locs1) : RepCZ g ad A s (wL S h f) H1 locs1 :=
  r.ups (h := h) (r.w.lt e (by omega) (by omega) (by omega)) rfl (fun a hne => celC_eq rfl (if_neg hne) rfl rfl rfl) (by rw [celCL (S := wL S h f) e ht, show qJ (wL S h f) h = f from if_pos rfl]; rfl) r.w hP hD hS
end
section
variable {g : Gr} {ad : Nat → Nat} {A : Nat → Prop} {s : State} {S : MS} {H H1 : Heap} {locs locs1 : List Loc} {h : Nat}
theorem RepCZ.a5 {i b : Nat} (r : RepCZ g ad A s S H locs) (e : qT S h = 5) (hw : wfCZ (wR S h i (some b))) (hP : va_P (rD g) cl0 ((WdC g ad S).set h (ad h, .inl (g.cS, qN S h, .inr (.inr (.inr (.inr (va_up (fun i => (qR S h i).map ad) i (some (ad b))))))))) H1) (hD : va_D A ((WdC g ad S).set h (ad h, .inl (g.cS, qN S h, .inr (.inr (.inr (.inr (va_up (fun i => (qR S h i).map ad) i (some (ad b)))))))))) (hS : va_S A s.heap H1 locs1) : RepCZ g ad A s (wR S h i (some b)) H1 locs1 :=
  r.ups (h := h) (r.w.lt e (by decide) (by decide) (by decide)) rfl (fun a hne => celC_wR hne) (by rw [celC5 (S := wR S h i (some b)) e, qR_self, up_map]; rfl) hw hP hD hS
end
section
variable {g : Gr} {ad : Nat → Nat} {A : Nat → Prop} {s : State} {S : MS} {H H1 : Heap} {locs locs1 : List Loc} {h : Nat}
theorem RepCZ.a6 {i b : Nat} (r : RepCZ g ad A s S H locs) (e : qT S h = 6) (hw : wfCZ (wR S h i (some b))) (hP : va_P (rD g) cl0 ((WdC g ad S).set h (ad h, .inl (g.cF, qN S h, .inr (.inr (.inr (.inr (va_up (fun i => (qR S h i).map ad) i (some (ad b))))))))) H1) (hD : va_D A ((WdC g ad S).set h (ad h, .inl (g.cF, qN S h, .inr (.inr (.inr (.inr (va_up (fun i => (qR S h i).map ad) i (some (ad b)))))))))) (hS : va_S A s.heap H1 locs1) : RepCZ g ad A s (wR S h i (some b)) H1 locs1 :=
  r.ups (h := h) (r.w.lt e (by decide) (by decide) (by decide)) rfl (fun a hne => celC_wR hne) (by rw [celC6 (S := wR S h i (some b)) e, qR_self, up_map]; rfl) hw hP hD hS
end
theorem cfreeZ {g : Gr} {ad : Nat → Nat} {A : Nat → Prop} {s : State} {S : MS} {H : Heap} {locs : List Loc} (r : RepCZ g ad A s S H locs) (hA : ∀ q, s.heap.size ≤ q → A q) : ∀ q, va_A (WdC g ad S) H.size q → A q := by
  intro q h
  rcases h with ⟨k, x, h⟩ | h
  · exact r.D.2 k (q, x) h
  · exact hA q (Nat.le_trans r.sS.1 h)
theorem cmkZ {av : List Value} {g : Gr} {ad : Nat → Nat} {A : Nat → Prop} {s U : State} {S : MS} {H : Heap} {locs : List Loc} (hU : U.heap = H) (hW : s.WarmedH U.vm) (r : RepCZ g ad A s S H locs) (hex : ex s) (hE : ogC ad A s s.heap) (hF : ∀ q, va_A (WdC g ad S) H.size q → A q) : va_Pc av (st_C g ad H.size S) av.toArray U :=
  ⟨rfl, by rw [hU], by rw [hU]; exact r.P, va_K.moved hW.alike r.K, r.D.weaken (fun _ _ _ _ => trivial), ex_warm hW hex, hE.pass r.sS hF hU hW⟩
theorem RepCZ.call {g : Gr} {ad : Nat → Nat} {A : Nat → Prop} {s t : State} {S u : MS} {H H1 : Heap} {locs locs1 : List Loc} (r : RepCZ g ad A s S H locs) (ht : t.heap = H1) (hB : qEC g ad (va_A (WdC g ad S) H.size) u t) (hw : wfCZ u) (hS : va_S A s.heap H1 locs1) (hF : ∀ q, va_A (WdC g ad S) H.size q → A q) : RepCZ g ad A s u H1 locs1 :=
  ⟨r.K, by rw [← ht]; exact hB.1, hB.2.weaken (fun _ _ _ h => hF _ h), hS, hw⟩
theorem wfCZ.hd {S : MS} {b t : Nat} (h : wfCZ S) (e : qT S b = t) (h0 : t ≠ 0) (h22 : t ≠ 22) : b < qn S ∨ TXB ≤ b := by
  by_cases e12 : t = 12
  · obtain ⟨i, -, rfl⟩ := h.t12 b (by omega)
    exact Or.inr (by omega)
  · exact Or.inl (h.lt e h0 e12 h22)
theorem cmkHZ {av : List Value} {g : Gr} {ad : Nat → Nat} {A : Nat → Prop} {s U : State} {S : MS} {H : Heap} {locs : List Loc} (hU : U.heap = H) (hW : s.WarmedH U.vm) (r : RepCZ g ad A s S H locs) (hex : ex s) (hE : ogC ad A s s.heap) (hF : ∀ q, va_A (WdC g ad S) H.size q → A q) : va_Pc av (st_CH g ad H S) av.toArray U := ⟨rfl, hU, (cmkZ (av := av) hU hW r hex hE hF).2⟩
theorem RepCZ.callH {g : Gr} {ad ad' : Nat → Nat} {A : Nat → Prop} {s t : State} {S u : MS} {H H1 : Heap} {locs locs1 : List Loc} (r : RepCZ g ad A s S H locs) (ht : t.heap = H1) (hB : qEC g ad' (va_A (WdC g ad S) H.size) u t) (hw : wfCZ u) (hS : va_S A s.heap H1 locs1) (hF : ∀ q, va_A (WdC g ad S) H.size q → A q) : RepCZ g ad' A s u H1 locs1 :=
  ⟨r.K, by rw [← ht]; exact hB.1, hB.2.weaken (fun _ _ _ h => hF _ h), hS, hw⟩
theorem wfCZ.nx {S : MS} (h : wfCZ S) (hT : qn S < TXB) : qT S (qn S) = 0 := by
  by_cases e0 : qT S (qn S) = 0
  · exact e0
  · exfalso
    by_cases e12 : qT S (qn S) = 12
    · obtain ⟨i, -, h1⟩ := h.t12 _ e12
      omega
    · by_cases e22 : qT S (qn S) = 22
      · have := h.t22 _ e22; omega
      · exact absurd (h.lt4 _ e0 e12 e22) (Nat.lt_irrefl _)
theorem wfCZ.new {S : MS} {t n k : Nat} (h : wfCZ S) (hT : qn S < TXB) (ht : t ≠ 0 ∧ t ≠ 12 ∧ t ≠ 22) (hn : n ≤ 8388608) : wfCZ (wN S t n k) := by
  have z := h.nx hT
  have eT : ∀ a, a ≠ qn S → qT (wN S t n k) a = qT S a := fun a ha => if_neg ha
  have eN : ∀ a, a ≠ qn S → qN (wN S t n k) a = qN S a := fun a ha => if_neg ha
  have eI : ∀ a, a ≠ qn S → qI (wN S t n k) a = qI S a := fun a ha => if_neg ha
  have eR : ∀ a, a ≠ qn S → qR (wN S t n k) a = qR S a := fun a ha => if_neg ha
  have sT : qT (wN S t n k) (qn S) = t := if_pos rfl
  have sI : qI (wN S t n k) (qn S) = fun _ => 0 := if_pos rfl
  have sR : qR (wN S t n k) (qn S) = fun _ => none := if_pos rfl
  have en : qn (wN S t n k) = qn S + 1 := rfl
  have ne : ∀ {a x : Nat}, qT S a = x → x ≠ 0 → a ≠ qn S := fun e e0 q => e0 (by rw [← e, q, z])
  refine ⟨?_, fun q hq => ?_, fun a j b e => ?_, fun b e0 e12 e22 => ?_, fun b e => ?_, fun i hi => ?_, by omega, fun b e => ?_, fun b i e => ?_, fun b j e => ?_, fun b e => ?_, fun p hp => ?_⟩
  · rw [eT 0 (ne h.1 (by decide))]; exact h.1
  · exact absurd hq List.not_mem_nil
  · by_cases ea : a = qn S
    · rw [ea, sR] at e; cases e
    · rw [eR a ea] at e
      obtain ⟨q1, q2, q3⟩ := h.rf3 a j b e
      rw [eT a ea, eT b (ne q1 q2)]
      exact ⟨q1, q2, q3⟩
  · by_cases eb : b = qn S
    · omega
    · rw [eT b eb] at e0 e12 e22
      have := h.lt4 b e0 e12 e22
      omega
  · by_cases eb : b = qn S
    · rw [eb, sT] at e; exact absurd e ht.2.1
    · rw [eT b eb] at e
      exact h.t12 b e
  · obtain ⟨h1, h2, h3, h4⟩ := h.tx6 i hi
    rw [eT _ (by omega), eT _ (by omega), eN _ (by omega), eI _ (by omega)]
    exact ⟨h1, h2, h3, h4⟩
  · by_cases eb : b = qn S
    · rw [eb, sT] at e; exact absurd e ht.2.2
    · rw [eT b eb] at e; exact h.t22 b e
  · by_cases eb : b = qn S
    · rw [eb, sI]; exact fit_0
    · rw [eT b eb] at e; rw [eI b eb]; exact h.by9 b i e
  · by_cases eb : b = qn S
    · rw [eb, sI]; exact Or.inl rfl
    · rw [eT b eb] at e; rw [eI b eb]; exact h.bz b j e
  · by_cases eb : b = qn S
    · rw [eb]; show (if qn S = qn S then n else qN S (qn S)) ≤ _; rw [if_pos rfl]; exact hn
    · rw [eT b eb] at e; rw [eN b eb]; exact h.ln b e
  · exact absurd hp List.not_mem_nil

theorem WdC_newZ {g : Gr} {ad : Nat → Nat} {S : MS} {t n k q : Nat} (h : wfCZ S) (hT : qn S < TXB) : WdC g (adx ad (qn S) q) (wN S t n k) = WdC g ad S ++ [(q, celC g (adx ad (qn S) q) (wN S t n k) (qn S))] := by
  have z := h.nx hT
  show ((List.range (qn S + 1)).map (fun h => (adx ad (qn S) q h, celC g (adx ad (qn S) q) (wN S t n k) h))) = _
  rw [List.range_succ, List.map_append, List.map_singleton, show adx ad (qn S) q (qn S) = q from if_pos rfl]
  congr 1
  unfold WdC
  apply List.map_congr_left
  intro a ha
  have hl := List.mem_range.mp ha
  have hne : a ≠ qn S := by omega
  rw [show adx ad (qn S) q a = ad a from if_neg hne]
  congr 1
  rw [celC_eq (S' := wN S t n k) (S := S) (if_neg hne) (if_neg hne) (if_neg hne) (if_neg hne) (if_neg hne)]
  refine celC_ad (fun j b e => if_neg (fun e2 => ?_))
  obtain ⟨q1, q2, -⟩ := h.rf3 a j b e
  exact q2 (by rw [← q1, e2, z])
theorem RepCZ.new {g : Gr} {ad : Nat → Nat} {A : Nat → Prop} {s : State} {S : MS} {H H1 : Heap} {locs locs1 : List Loc} {t n k q : Nat} {c : va_E} (r : RepCZ g ad A s S H locs) (hT : qn S < TXB) (ht : t ≠ 0 ∧ t ≠ 12 ∧ t ≠ 22) (hn : n ≤ 8388608) (hc : celC g (adx ad (qn S) q) (wN S t n k) (qn S) = c) (hP : va_P (rD g) cl0 (WdC g ad S ++ [(q, c)]) H1) (hD : va_D A (WdC g ad S ++ [(q, c)])) (hS : va_S A s.heap H1 locs1) : RepCZ g (adx ad (qn S) q) A s (wN S t n k) H1 locs1 := by
  refine ⟨r.K, ?_, ?_, hS, r.w.new hT ht hn⟩
  · rw [WdC_newZ r.w hT, hc]; exact hP
  · rw [WdC_newZ r.w hT, hc]; exact hD
theorem shx.newCZ {S U : MS} {t n k : Nat} (h : shx S U) (hw : wfCZ U) (hT : qn U < TXB) : shx S (wN U t n k) := h.tr ⟨fun b hb => by
  have hne : b ≠ qn U := fun e => hb (by rw [e, hw.nx hT])
  exact ⟨if_neg hne, if_neg hne⟩, Nat.le_succ _⟩
theorem wfCZ.clone {S : MS} {t t0 h k : Nat} (w : wfCZ S) (hT : qn S < TXB) (e : qT S h = t0) (h0 : 100 < t0 ∧ t0 < 200) (ht : 100 < t ∧ t < 200) : wfCZ (wKC S t h k) := wfCZ.putC (t := t) (w.new hT (by omega) (w.len9 e (by omega))) (if_pos rfl) (by omega) (fun q i => w.by e h0) (fun j q => absurd q (zB ht))
theorem RepCZ.clone {g : Gr} {ad : Nat → Nat} {A : Nat → Prop} {s : State} {S : MS} {H H1 : Heap} {locs locs1 : List Loc} {t t0 h k q : Nat} (r : RepCZ g ad A s S H locs) (hT : qn S < TXB) (e : qT S h = t0) (h0 : 100 < t0 ∧ t0 < 200) (ht : 100 < t ∧ t < 200) (hP : va_P (rD g) cl0 (WdC g ad S ++ [(q, .inl (g.cB, qN S h, .inl (qI S h)))]) H1) (hD : va_D A (WdC g ad S ++ [(q, .inl (g.cB, qN S h, .inl (qI S h)))])) (hS : va_S A s.heap H1 locs1) : RepCZ g (adx ad (qn S) q) A s (wKC S t h k) H1 locs1 := by
  have ew : WdC g (adx ad (qn S) q) (wKC S t h k) = WdC g ad S ++ [(q, .inl (g.cB, qN S h, .inl (qI S h)))] := by
    have e1 : celC g (adx ad (qn S) q) (wKC S t h k) (qn S) = .inl (g.cB, qN S h, .inl (qI S h)) := by
      rw [celCB (S := wKC S t h k) (t := t) (if_pos rfl) ht, show qN (wKC S t h k) (qn S) = qN S h from if_pos rfl, show qI (wKC S t h k) (qn S) = qI S h from if_pos rfl]
    have e2 := WdC_newZ (g := g) (ad := ad) (t := t) (n := qN S h) (k := k) (q := q) r.w hT
    have e3 : WdC g (adx ad (qn S) q) (wKC S t h k) = (WdC g (adx ad (qn S) q) (wN S t (qN S h) k)).set (qn S) (adx ad (qn S) q (qn S), .inl (g.cB, qN S h, .inl (qI S h))) :=
      WdC_set (S' := wKC S t h k) (S := wN S t (qN S h) k) (h := qn S) (Nat.lt_succ_self _) rfl (fun a ha => celC_eq (S' := wKC S t h k) (S := wN S t (qN S h) k) (show (if a = qn S then qI S h else qI (wN S t (qN S h) k) a) = _ from if_neg ha) rfl rfl rfl rfl) e1
    have hlen : (WdC g ad S).length = qn S := by unfold WdC; rw [List.length_map, List.length_range]
    rw [e3, e2, show adx ad (qn S) q (qn S) = q from if_pos rfl, List.set_append_right _ _ (by omega), hlen, Nat.sub_self]
    rfl
  refine ⟨r.K, ?_, ?_, hS, r.w.clone hT e h0 ht⟩
  · rw [ew]; exact hP
  · rw [ew]; exact hD
theorem wfCZ.txt {S : MS} (h : wfCZ S) {i : Nat} (hi : i < NTC) : qT S (TXB + 2 * i) = 12 := (h.tx6 i hi).1
theorem wfCZ.len {S : MS} {b : Nat} (h : wfCZ S) (e : qT S b = 12) : qN S (b + 1) < 2147483648 := by
  obtain ⟨i, hi, rfl⟩ := h.t12 b e
  rw [(h.tx6 i hi).2.2.1]
  exact sLc_small i hi
theorem RepCZ.keep {g : Gr} {ad : Nat → Nat} {A : Nat → Prop} {s : State} {S : MS} {H H1 : Heap} {locs locs1 : List Loc} (r : RepCZ g ad A s S H locs) (hk : ∀ q : Nat, q < H.size → ¬ Ns H.size q → H1[q]? = H[q]?) (hS : va_S A s.heap H1 locs1) : RepCZ g ad A s S H1 locs1 :=
  ⟨r.K, r.P.kept (fun k x hx => hk x.1 (r.P k x hx).lt (fun q => absurd (r.P k x hx).lt (Nat.not_lt.mpr q))), r.D, hS, r.w⟩
/-- the map of addresses tells handles apart -/
theorem RepCZ.inj {g : Gr} {ad : Nat → Nat} {A : Nat → Prop} {s : State} {S : MS} {H : Heap} {locs : List Loc} {a b : Nat} (r : RepCZ g ad A s S H locs) (ha : a < qn S) (hb : b < qn S) (e : ad a = ad b) : a = b := r.D.1 a b _ _ (WdC_at ha rfl) (WdC_at hb rfl) e

theorem RepCZ.opt_inj {g : Gr} {ad : Nat → Nat} {A : Nat → Prop} {s : State} {S : MS} {H : Heap} {locs : List Loc} {x y : Option Nat} (r : RepCZ g ad A s S H locs) (hx : ∀ z, x = some z → z < qn S) (hy : ∀ z, y = some z → z < qn S) (e : x.map ad = y.map ad) : x = y := by
  cases x with
  | none => cases y with
    | none => rfl
    | some b => cases e
  | some a => cases y with
    | none => cases e
    | some b => rw [r.inj (hx a rfl) (hy b rfl) (Option.some.inj e)]
