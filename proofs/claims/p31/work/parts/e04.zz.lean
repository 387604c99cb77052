/-! the world without its fixed rows -/
def finZ : List (Nat × Nat × Nat × Nat) := []
/-- what holds of the kinds: the fixed rows; where references lead -/
def wfMZ (S : MS) : Prop := qT S 0 = 10 ∧ (∀ q ∈ finZ, qR S 0 q.1 = some q.2.1 ∧ qT S q.2.1 = q.2.2.1 ∧ qN S q.2.1 = q.2.2.2) ∧ (∀ a j b : Nat, qR S a j = some b → qT S b = etg (qT S a) j ∧ etg (qT S a) j ≠ 0) ∧ (∀ b : Nat, qT S b ≠ 0 → qT S b ≠ 12 → qT S b ≠ 22 → b < qn S) ∧ (∀ b : Nat, qT S b = 12 → (b + 1 < qn S ∧ qT S (b + 1) = 21) ∨ ∃ i : Nat, i < NTX ∧ b = TXB + 2 * i) ∧ (∀ i : Nat, i < NTX → qT S (TXB + 2 * i) = 12 ∧ qT S (TXB + 2 * i + 1) = 22 ∧ qN S (TXB + 2 * i + 1) = sLr.getD i 0 ∧ ∀ k : Nat, qI S (TXB + 2 * i + 1) k = (sBr.getD i []).getD k 0) ∧ qn S ≤ TXB ∧ (∀ b : Nat, qT S b = 21 → qN S b < 2147483648) ∧ ∀ b : Nat, qT S b = 22 → TXB ≤ b
theorem wfMZ.lt {S : MS} {b t : Nat} (h : wfMZ S) (e : qT S b = t) (h0 : t ≠ 0) (h12 : t ≠ 12) (h22 : t ≠ 22) : b < qn S := h.2.2.2.1 b (by omega) (by omega) (by omega)
theorem wfMZ.ref {S : MS} {a j b t : Nat} (h : wfMZ S) (e : qR S a j = some b) (ea : qT S a = t) : qT S b = etg t j := by rw [(h.2.2.1 a j b e).1, ea]
theorem wfMZ.putI {S : MS} {a j t : Nat} {v : Int32} (h : wfMZ S) (e : qT S a = t) (h22 : t ≠ 22) : wfMZ (wI S a j v) := by
  refine ⟨h.1, h.2.1, h.2.2.1, h.2.2.2.1, h.2.2.2.2.1, fun i hi => ?_, h.2.2.2.2.2.2⟩
  obtain ⟨h1, h2, h3, h4⟩ := h.2.2.2.2.2.1 i hi
  refine ⟨h1, h2, h3, fun k => ?_⟩
  rw [qI_wI, if_neg (fun q => h22 (by rw [← e, ← q.1, h2]))]
  exact h4 k
theorem wfMZ.putC {S : MS} {a t : Nat} {f : Nat → Int32} (h : wfMZ S) (e : qT S a = t) (h22 : t ≠ 22) : wfMZ (wC S a f) := by
  refine ⟨h.1, h.2.1, h.2.2.1, h.2.2.2.1, h.2.2.2.2.1, fun i hi => ?_, h.2.2.2.2.2.2⟩
  obtain ⟨h1, h2, h3, h4⟩ := h.2.2.2.2.2.1 i hi
  refine ⟨h1, h2, h3, fun k => ?_⟩
  rw [show qI (wC S a f) (TXB + 2 * i + 1) = qI S (TXB + 2 * i + 1) from if_neg (fun q => h22 (by rw [← e, ← q, h2]))]
  exact h4 k
theorem wfMZ.put {S : MS} {a j : Nat} {r : Option Nat} (h : wfMZ S) (hb : ∀ b, r = some b → qT S b = etg (qT S a) j) (hn : a = 0 → ∀ q ∈ finZ, q.1 ≠ j) (hz : etg (qT S a) j ≠ 0) : wfMZ (wR S a j r) := by
  refine ⟨h.1, fun q hq => ⟨?_, (h.2.1 q hq).2⟩, fun a' j' b e => ?_, h.2.2.2⟩
  · rw [qR_wR, if_neg (fun z => hn z.1.symm q hq z.2)]
    exact (h.2.1 q hq).1
  · rw [qR_wR] at e
    by_cases z : a' = a ∧ j' = j
    · rw [if_pos z] at e
      rw [z.1, z.2]
      exact ⟨hb b e, hz⟩
    · rw [if_neg z] at e
      exact h.2.2.1 a' j' b e
/-- the state is held by the heap -/
def RepZ (g : Gr) (ad : Nat → Nat) (A : Nat → Prop) (s : State) (S : MS) (H : Heap) (locs : List Loc) : Prop := va_K (rD g) cl2 (tyR g) s ∧ va_P (rD g) cl2 (Wd g ad S) H ∧ va_D A (Wd g ad S) ∧ va_S A s.heap H locs ∧ wfMZ S
section
variable {g : Gr} {ad : Nat → Nat} {A : Nat → Prop} {s : State} {S S' : MS} {H H1 : Heap} {locs locs1 : List Loc} {h : Nat}
theorem RepZ.K (r : RepZ g ad A s S H locs) : va_K (rD g) cl2 (tyR g) s := r.1
end
section
variable {g : Gr} {ad : Nat → Nat} {A : Nat → Prop} {s : State} {S S' : MS} {H H1 : Heap} {locs locs1 : List Loc} {h : Nat}
theorem RepZ.P (r : RepZ g ad A s S H locs) : va_P (rD g) cl2 (Wd g ad S) H := r.2.1
end
section
variable {g : Gr} {ad : Nat → Nat} {A : Nat → Prop} {s : State} {S S' : MS} {H H1 : Heap} {locs locs1 : List Loc} {h : Nat}
theorem RepZ.D (r : RepZ g ad A s S H locs) : va_D A (Wd g ad S) := r.2.2.1
end
section
variable {g : Gr} {ad : Nat → Nat} {A : Nat → Prop} {s : State} {S S' : MS} {H H1 : Heap} {locs locs1 : List Loc} {h : Nat}
theorem RepZ.sS (r : RepZ g ad A s S H locs) : va_S A s.heap H locs := r.2.2.2.1
end
section
variable {g : Gr} {ad : Nat → Nat} {A : Nat → Prop} {s : State} {S S' : MS} {H H1 : Heap} {locs locs1 : List Loc} {h : Nat}
theorem RepZ.w (r : RepZ g ad A s S H locs) : wfMZ S := r.2.2.2.2
end
section
variable {g : Gr} {ad : Nat → Nat} {A : Nat → Prop} {s : State} {S S' : MS} {H H1 : Heap} {locs locs1 : List Loc} {h : Nat}
theorem RepZ.at14 (r : RepZ g ad A s S H locs) (e : qT S h = 10) : (Wd g ad S)[h]? = some (ad h, .inr (13, F14 (qI S h) (qJ S h) (qR S h) ad)) := Wd_at (r.w.lt e (by decide) (by decide) (by decide)) (cel14 e)
end
section
variable {g : Gr} {ad : Nat → Nat} {A : Nat → Prop} {s : State} {S S' : MS} {H H1 : Heap} {locs locs1 : List Loc} {h : Nat}
theorem RepZ.at13 (r : RepZ g ad A s S H locs) (e : qT S h = 11) : (Wd g ad S)[h]? = some (ad h, .inr (12, F13 (qI S h) (qJ S h) (qR S h) ad)) := Wd_at (r.w.lt e (by decide) (by decide) (by decide)) (cel13 e)
end
section
variable {g : Gr} {ad : Nat → Nat} {A : Nat → Prop} {s : State} {S S' : MS} {H H1 : Heap} {locs locs1 : List Loc} {h : Nat}
theorem RepZ.atB (r : RepZ g ad A s S H locs) (e : qT S h = 1) : (Wd g ad S)[h]? = some (ad h, .inl (g.cB, qN S h, .inl (qI S h))) := Wd_at (r.w.lt e (by decide) (by decide) (by decide)) (celB e)
end
section
variable {g : Gr} {ad : Nat → Nat} {A : Nat → Prop} {s : State} {S S' : MS} {H H1 : Heap} {locs locs1 : List Loc} {h : Nat}
theorem RepZ.atI (r : RepZ g ad A s S H locs) (e : qT S h = 2) : (Wd g ad S)[h]? = some (ad h, .inl (g.cI, qN S h, .inl (qI S h))) := Wd_at (r.w.lt e (by decide) (by decide) (by decide)) (celI e)
end
section
variable {g : Gr} {ad : Nat → Nat} {A : Nat → Prop} {s : State} {S S' : MS} {H H1 : Heap} {locs locs1 : List Loc} {h : Nat}
theorem RepZ.atZ (r : RepZ g ad A s S H locs) (e : qT S h = 3) : (Wd g ad S)[h]? = some (ad h, .inl (g.cZ, qN S h, .inl (qI S h))) := Wd_at (r.w.lt e (by decide) (by decide) (by decide)) (celZ e)
end
section
variable {g : Gr} {ad : Nat → Nat} {A : Nat → Prop} {s : State} {S S' : MS} {H H1 : Heap} {locs locs1 : List Loc} {h : Nat}
theorem RepZ.atL (r : RepZ g ad A s S H locs) (e : qT S h = 4) : (Wd g ad S)[h]? = some (ad h, .inl (g.cL, qN S h, .inr (.inl (qJ S h)))) := Wd_at (r.w.lt e (by decide) (by decide) (by decide)) (celL e)
end
section
variable {g : Gr} {ad : Nat → Nat} {A : Nat → Prop} {s : State} {S S' : MS} {H H1 : Heap} {locs locs1 : List Loc} {h : Nat}
theorem RepZ.atS (r : RepZ g ad A s S H locs) (e : qT S h = 5) : (Wd g ad S)[h]? = some (ad h, .inl (g.cS, qN S h, .inr (.inr (.inr (.inr (fun i => (qR S h i).map ad)))))) := Wd_at (r.w.lt e (by decide) (by decide) (by decide)) (celS e)
end
section
variable {g : Gr} {ad : Nat → Nat} {A : Nat → Prop} {s : State} {S S' : MS} {H H1 : Heap} {locs locs1 : List Loc} {h : Nat}
theorem RepZ.atF (r : RepZ g ad A s S H locs) (e : qT S h = 6) : (Wd g ad S)[h]? = some (ad h, .inl (g.cF, qN S h, .inr (.inr (.inr (.inr (fun i => (qR S h i).map ad)))))) := Wd_at (r.w.lt e (by decide) (by decide) (by decide)) (celF e)
end
section
variable {g : Gr} {ad : Nat → Nat} {A : Nat → Prop} {s : State} {S S' : MS} {H H1 : Heap} {locs locs1 : List Loc} {h : Nat}
theorem RepZ.ups (r : RepZ g ad A s S H locs) {c : va_E} (hl : h < qn S) (hn : qn S' = qn S) (hne : ∀ a, a ≠ h → cel g ad S' a = cel g ad S a) (hc : cel g ad S' h = c) (hw : wfMZ S') (hP : va_P (rD g) cl2 ((Wd g ad S).set h (ad h, c)) H1) (hD : va_D A ((Wd g ad S).set h (ad h, c))) (hS : va_S A s.heap H1 locs1) : RepZ g ad A s S' H1 locs1 := by
  rw [← Wd_set hl hn hne hc] at hP hD
  exact ⟨r.K, hP, hD, hS, hw⟩
end
section
variable {g : Gr} {ad : Nat → Nat} {A : Nat → Prop} {s : State} {S S' : MS} {H H1 : Heap} {locs locs1 : List Loc} {h : Nat}
theorem RepZ.pI {j : Nat} {v : Int32} (r : RepZ g ad A s S H locs) (e : qT S h = 10) (hf : F14 (upd (qI S h) j v) (qJ S h) (qR S h) ad = (F14 (qI S h) (qJ S h) (qR S h) ad).set j (.int v)) (hP : va_P (rD g) cl2 ((Wd g ad S).set h (ad h, .inr (13, (F14 (qI S h) (qJ S h) (qR S h) ad).set j (.int v)))) H1) (hD : va_D A ((Wd g ad S).set h (ad h, .inr (13, (F14 (qI S h) (qJ S h) (qR S h) ad).set j (.int v))))) (hS : va_S A s.heap H1 locs1) : RepZ g ad A s (wI S h j v) H1 locs1 :=
  r.ups (h := h) (r.w.lt e (by decide) (by decide) (by decide)) rfl (fun a hne => cel_wI hne) (by rw [cel14 (S := wI S h j v) e, qI_self, ← hf]; rfl) (r.w.putI e (by decide)) hP hD hS
end
section
variable {g : Gr} {ad : Nat → Nat} {A : Nat → Prop} {s : State} {S S' : MS} {H H1 : Heap} {locs locs1 : List Loc} {h : Nat}
theorem RepZ.pJ {j : Nat} {v : Int64} (r : RepZ g ad A s S H locs) (e : qT S h = 10) (hf : F14 (qI S h) (vp_updL (qJ S h) j v) (qR S h) ad = (F14 (qI S h) (qJ S h) (qR S h) ad).set j (.long v)) (hP : va_P (rD g) cl2 ((Wd g ad S).set h (ad h, .inr (13, (F14 (qI S h) (qJ S h) (qR S h) ad).set j (.long v)))) H1) (hD : va_D A ((Wd g ad S).set h (ad h, .inr (13, (F14 (qI S h) (qJ S h) (qR S h) ad).set j (.long v))))) (hS : va_S A s.heap H1 locs1) : RepZ g ad A s (wJ S h j v) H1 locs1 :=
  r.ups (h := h) (r.w.lt e (by decide) (by decide) (by decide)) rfl (fun a hne => cel_wJ hne) (by rw [cel14 (S := wJ S h j v) e, qJ_self, ← hf]; rfl) r.w hP hD hS
end
section
variable {g : Gr} {ad : Nat → Nat} {A : Nat → Prop} {s : State} {S S' : MS} {H H1 : Heap} {locs locs1 : List Loc} {h : Nat}
theorem RepZ.pR {j : Nat} {v : Option Nat} (r : RepZ g ad A s S H locs) (e : qT S h = 10) (hf : F14 (qI S h) (qJ S h) (va_up (qR S h) j v) ad = (F14 (qI S h) (qJ S h) (qR S h) ad).set j (vf ad v)) (hw : wfMZ (wR S h j v)) (hP : va_P (rD g) cl2 ((Wd g ad S).set h (ad h, .inr (13, (F14 (qI S h) (qJ S h) (qR S h) ad).set j (vf ad v)))) H1) (hD : va_D A ((Wd g ad S).set h (ad h, .inr (13, (F14 (qI S h) (qJ S h) (qR S h) ad).set j (vf ad v))))) (hS : va_S A s.heap H1 locs1) : RepZ g ad A s (wR S h j v) H1 locs1 :=
  r.ups (h := h) (r.w.lt e (by decide) (by decide) (by decide)) rfl (fun a hne => cel_wR hne) (by rw [cel14 (S := wR S h j v) e, qR_self, ← hf]; rfl) hw hP hD hS
end
section
variable {g : Gr} {ad : Nat → Nat} {A : Nat → Prop} {s : State} {S S' : MS} {H H1 : Heap} {locs locs1 : List Loc} {h : Nat}
theorem RepZ.pI3 {j : Nat} {v : Int32} (r : RepZ g ad A s S H locs) (e : qT S h = 11) (hf : F13 (upd (qI S h) j v) (qJ S h) (qR S h) ad = (F13 (qI S h) (qJ S h) (qR S h) ad).set j (.int v)) (hP : va_P (rD g) cl2 ((Wd g ad S).set h (ad h, .inr (12, (F13 (qI S h) (qJ S h) (qR S h) ad).set j (.int v)))) H1) (hD : va_D A ((Wd g ad S).set h (ad h, .inr (12, (F13 (qI S h) (qJ S h) (qR S h) ad).set j (.int v))))) (hS : va_S A s.heap H1 locs1) : RepZ g ad A s (wI S h j v) H1 locs1 :=
  r.ups (h := h) (r.w.lt e (by decide) (by decide) (by decide)) rfl (fun a hne => cel_wI hne) (by rw [cel13 (S := wI S h j v) e, qI_self, ← hf]; rfl) (r.w.putI e (by decide)) hP hD hS
end
section
variable {g : Gr} {ad : Nat → Nat} {A : Nat → Prop} {s : State} {S S' : MS} {H H1 : Heap} {locs locs1 : List Loc} {h : Nat}
theorem RepZ.pR3 {j : Nat} {v : Option Nat} (r : RepZ g ad A s S H locs) (e : qT S h = 11) (hf : F13 (qI S h) (qJ S h) (va_up (qR S h) j v) ad = (F13 (qI S h) (qJ S h) (qR S h) ad).set j (vf ad v)) (hw : wfMZ (wR S h j v)) (hP : va_P (rD g) cl2 ((Wd g ad S).set h (ad h, .inr (12, (F13 (qI S h) (qJ S h) (qR S h) ad).set j (vf ad v)))) H1) (hD : va_D A ((Wd g ad S).set h (ad h, .inr (12, (F13 (qI S h) (qJ S h) (qR S h) ad).set j (vf ad v))))) (hS : va_S A s.heap H1 locs1) : RepZ g ad A s (wR S h j v) H1 locs1 :=
  r.ups (h := h) (r.w.lt e (by decide) (by decide) (by decide)) rfl (fun a hne => cel_wR hne) (by rw [cel13 (S := wR S h j v) e, qR_self, ← hf]; rfl) hw hP hD hS
end
section
variable {g : Gr} {ad : Nat → Nat} {A : Nat → Prop} {s : State} {S S' : MS} {H H1 : Heap} {locs locs1 : List Loc} {h : Nat}
theorem RepZ.aI {i : Nat} {v : Int32} (r : RepZ g ad A s S H locs) (e : qT S h = 2) (hP : va_P (rD g) cl2 ((Wd g ad S).set h (ad h, .inl (g.cI, qN S h, .inl (upd (qI S h) i v)))) H1) (hD : va_D A ((Wd g ad S).set h (ad h, .inl (g.cI, qN S h, .inl (upd (qI S h) i v))))) (hS : va_S A s.heap H1 locs1) : RepZ g ad A s (wI S h i v) H1 locs1 :=
  RepZ.ups r (h := h) (r.w.lt e (by decide) (by decide) (by decide)) rfl (fun a hne => cel_wI hne) (by rw [celI (S := wI S h i v) e, qI_self]; rfl) (r.w.putI e (by decide)) hP hD hS
end
section
variable {g : Gr} {ad : Nat → Nat} {A : Nat → Prop} {s : State} {S S' : MS} {H H1 : Heap} {locs locs1 : List Loc} {h : Nat}
theorem RepZ.aB {i : Nat} {v : Int32} (r : RepZ g ad A s S H locs) (e : qT S h = 1) (hP : va_P (rD g) cl2 ((Wd g ad S).set h (ad h, .inl (g.cB, qN S h, .inl (upd (qI S h) i v)))) H1) (hD : va_D A ((Wd g ad S).set h (ad h, .inl (g.cB, qN S h, .inl (upd (qI S h) i v))))) (hS : va_S A s.heap H1 locs1) : RepZ g ad A s (wI S h i v) H1 locs1 :=
  RepZ.ups r (h := h) (r.w.lt e (by decide) (by decide) (by decide)) rfl (fun a hne => cel_wI hne) (by rw [celB (S := wI S h i v) e, qI_self]; rfl) (r.w.putI e (by decide)) hP hD hS
end
section
variable {g : Gr} {ad : Nat → Nat} {A : Nat → Prop} {s : State} {S S' : MS} {H H1 : Heap} {locs locs1 : List Loc} {h : Nat}
theorem RepZ.pIU {j : Nat} {v : Int32} (r : RepZ g ad A s S H locs) (e : qT S h = 13) (hf : F16 (upd (qI S h) j v) (qR S h) ad = (F16 (qI S h) (qR S h) ad).set j (.int v)) (hP : va_P (rD g) cl2 ((Wd g ad S).set h (ad h, .inr (16, (F16 (qI S h) (qR S h) ad).set j (.int v)))) H1) (hD : va_D A ((Wd g ad S).set h (ad h, .inr (16, (F16 (qI S h) (qR S h) ad).set j (.int v))))) (hS : va_S A s.heap H1 locs1) : RepZ g ad A s (wI S h j v) H1 locs1 :=
  r.ups (h := h) (r.w.lt e (by decide) (by decide) (by decide)) rfl (fun a hne => cel_wI hne) (by rw [celU (S := wI S h j v) e, qI_self, ← hf]; rfl) (r.w.putI e (by decide)) hP hD hS
end
section
variable {g : Gr} {ad : Nat → Nat} {A : Nat → Prop} {s : State} {S S' : MS} {H H1 : Heap} {locs locs1 : List Loc} {h : Nat}
theorem RepZ.pRU {j : Nat} {v : Option Nat} (r : RepZ g ad A s S H locs) (e : qT S h = 13) (hf : F16 (qI S h) (va_up (qR S h) j v) ad = (F16 (qI S h) (qR S h) ad).set j (vf ad v)) (hw : wfMZ (wR S h j v)) (hP : va_P (rD g) cl2 ((Wd g ad S).set h (ad h, .inr (16, (F16 (qI S h) (qR S h) ad).set j (vf ad v)))) H1) (hD : va_D A ((Wd g ad S).set h (ad h, .inr (16, (F16 (qI S h) (qR S h) ad).set j (vf ad v))))) (hS : va_S A s.heap H1 locs1) : RepZ g ad A s (wR S h j v) H1 locs1 :=
  r.ups (h := h) (r.w.lt e (by decide) (by decide) (by decide)) rfl (fun a hne => cel_wR hne) (by rw [celU (S := wR S h j v) e, qR_self, ← hf]; rfl) hw hP hD hS
end
section
variable {g : Gr} {ad : Nat → Nat} {A : Nat → Prop} {s : State} {S S' : MS} {H H1 : Heap} {locs locs1 : List Loc} {h : Nat}
theorem RepZ.atU (r : RepZ g ad A s S H locs) (e : qT S h = 13) : (Wd g ad S)[h]? = some (ad h, .inr (16, F16 (qI S h) (qR S h) ad)) := Wd_at (r.w.lt e (by decide) (by decide) (by decide)) (celU e)
end
section
variable {g : Gr} {ad : Nat → Nat} {A : Nat → Prop} {s : State} {S S' : MS} {H H1 : Heap} {locs locs1 : List Loc} {h : Nat}
theorem RepZ.pIT {j : Nat} {v : Int32} (r : RepZ g ad A s S H locs) (e : qT S h = 24) (hf : F16 (upd (qI S h) j v) (qR S h) ad = (F16 (qI S h) (qR S h) ad).set j (.int v)) (hP : va_P (rD g) cl2 ((Wd g ad S).set h (ad h, .inr (15, (F16 (qI S h) (qR S h) ad).set j (.int v)))) H1) (hD : va_D A ((Wd g ad S).set h (ad h, .inr (15, (F16 (qI S h) (qR S h) ad).set j (.int v))))) (hS : va_S A s.heap H1 locs1) : RepZ g ad A s (wI S h j v) H1 locs1 :=
  r.ups (h := h) (r.w.lt e (by decide) (by decide) (by decide)) rfl (fun a hne => cel_wI hne) (by rw [celT (S := wI S h j v) e, qI_self, ← hf]; rfl) (r.w.putI e (by decide)) hP hD hS
end
section
variable {g : Gr} {ad : Nat → Nat} {A : Nat → Prop} {s : State} {S S' : MS} {H H1 : Heap} {locs locs1 : List Loc} {h : Nat}
theorem RepZ.pRT {j : Nat} {v : Option Nat} (r : RepZ g ad A s S H locs) (e : qT S h = 24) (hf : F16 (qI S h) (va_up (qR S h) j v) ad = (F16 (qI S h) (qR S h) ad).set j (vf ad v)) (hw : wfMZ (wR S h j v)) (hP : va_P (rD g) cl2 ((Wd g ad S).set h (ad h, .inr (15, (F16 (qI S h) (qR S h) ad).set j (vf ad v)))) H1) (hD : va_D A ((Wd g ad S).set h (ad h, .inr (15, (F16 (qI S h) (qR S h) ad).set j (vf ad v))))) (hS : va_S A s.heap H1 locs1) : RepZ g ad A s (wR S h j v) H1 locs1 :=
  r.ups (h := h) (r.w.lt e (by decide) (by decide) (by decide)) rfl (fun a hne => cel_wR hne) (by rw [celT (S := wR S h j v) e, qR_self, ← hf]; rfl) hw hP hD hS
end
section
variable {g : Gr} {ad : Nat → Nat} {A : Nat → Prop} {s : State} {S S' : MS} {H H1 : Heap} {locs locs1 : List Loc} {h : Nat}
theorem RepZ.atT (r : RepZ g ad A s S H locs) (e : qT S h = 24) : (Wd g ad S)[h]? = some (ad h, .inr (15, F16 (qI S h) (qR S h) ad)) := Wd_at (r.w.lt e (by decide) (by decide) (by decide)) (celT e)
end
section
variable {g : Gr} {ad : Nat → Nat} {A : Nat → Prop} {s : State} {S S' : MS} {H H1 : Heap} {locs locs1 : List Loc} {h : Nat}
theorem RepZ.aV {i : Nat} {v : Int32} (r : RepZ g ad A s S H locs) (e : qT S h = 21) (hP : va_P (rD g) cl2 ((Wd g ad S).set h (ad h, .inl (g.cB, qN S h, .inl (upd (qI S h) i v)))) H1) (hD : va_D A ((Wd g ad S).set h (ad h, .inl (g.cB, qN S h, .inl (upd (qI S h) i v))))) (hS : va_S A s.heap H1 locs1) : RepZ g ad A s (wI S h i v) H1 locs1 :=
  RepZ.ups r (h := h) (r.w.lt e (by decide) (by decide) (by decide)) rfl (fun a hne => cel_wI hne) (by rw [celV (S := wI S h i v) e, qI_self]; rfl) (r.w.putI e (by decide)) hP hD hS
end
section
variable {g : Gr} {ad : Nat → Nat} {A : Nat → Prop} {s : State} {S S' : MS} {H H1 : Heap} {locs locs1 : List Loc} {h : Nat}
theorem RepZ.atV (r : RepZ g ad A s S H locs) (e : qT S h = 21) : (Wd g ad S)[h]? = some (ad h, .inl (g.cB, qN S h, .inl (qI S h))) := Wd_at (r.w.lt e (by decide) (by decide) (by decide)) (celV e)
end
section
variable {g : Gr} {ad : Nat → Nat} {A : Nat → Prop} {s : State} {S S' : MS} {H H1 : Heap} {locs locs1 : List Loc} {h : Nat}
theorem RepZ.cV {f : Nat → Int32} (r : RepZ g ad A s S H locs) (e : qT S h = 21) (hP : va_P (rD g) cl2 ((Wd g ad S).set h (ad h, .inl (g.cB, qN S h, .inl f))) H1) (hD : va_D A ((Wd g ad S).set h (ad h, .inl (g.cB, qN S h, .inl f)))) (hS : va_S A s.heap H1 locs1) : RepZ g ad A s (wC S h f) H1 locs1 :=
  r.ups (h := h) (r.w.lt e (by decide) (by decide) (by decide)) rfl (fun a hne => cel_eq (if_neg hne) rfl rfl rfl rfl) (by rw [celV (S := wC S h f) e, show qI (wC S h f) h = f from if_pos rfl]; rfl) (r.w.putC e (by decide)) hP hD hS
end
section
variable {g : Gr} {ad : Nat → Nat} {A : Nat → Prop} {s : State} {S S' : MS} {H H1 : Heap} {locs locs1 : List Loc} {h : Nat}
theorem RepZ.aZ {i : Nat} {v : Int32} (r : RepZ g ad A s S H locs) (e : qT S h = 3) (hP : va_P (rD g) cl2 ((Wd g ad S).set h (ad h, .inl (g.cZ, qN S h, .inl (upd (qI S h) i v)))) H1) (hD : va_D A ((Wd g ad S).set h (ad h, .inl (g.cZ, qN S h, .inl (upd (qI S h) i v))))) (hS : va_S A s.heap H1 locs1) : RepZ g ad A s (wI S h i v) H1 locs1 :=
  RepZ.ups r (h := h) (r.w.lt e (by decide) (by decide) (by decide)) rfl (fun a hne => cel_wI hne) (by rw [celZ (S := wI S h i v) e, qI_self]; rfl) (r.w.putI e (by decide)) hP hD hS
end
section
variable {g : Gr} {ad : Nat → Nat} {A : Nat → Prop} {s : State} {S S' : MS} {H H1 : Heap} {locs locs1 : List Loc} {h : Nat}
theorem RepZ.aL {i : Nat} {v : Int64} (r : RepZ g ad A s S H locs) (e : qT S h = 4) (hP : va_P (rD g) cl2 ((Wd g ad S).set h (ad h, .inl (g.cL, qN S h, .inr (.inl (vp_updL (qJ S h) i v))))) H1) (hD : va_D A ((Wd g ad S).set h (ad h, .inl (g.cL, qN S h, .inr (.inl (vp_updL (qJ S h) i v)))))) (hS : va_S A s.heap H1 locs1) : RepZ g ad A s (wJ S h i v) H1 locs1 :=
  RepZ.ups r (h := h) (r.w.lt e (by decide) (by decide) (by decide)) rfl (fun a hne => cel_wJ hne) (by rw [celL (S := wJ S h i v) e, qJ_self]; rfl) r.w hP hD hS
end
section
variable {g : Gr} {ad : Nat → Nat} {A : Nat → Prop} {s : State} {S S' : MS} {H H1 : Heap} {locs locs1 : List Loc} {h : Nat}
theorem RepZ.aS {i b : Nat} (r : RepZ g ad A s S H locs) (e : qT S h = 5) (hw : wfMZ (wR S h i (some b))) (hP : va_P (rD g) cl2 ((Wd g ad S).set h (ad h, .inl (g.cS, qN S h, .inr (.inr (.inr (.inr (va_up (fun i => (qR S h i).map ad) i (some (ad b))))))))) H1) (hD : va_D A ((Wd g ad S).set h (ad h, .inl (g.cS, qN S h, .inr (.inr (.inr (.inr (va_up (fun i => (qR S h i).map ad) i (some (ad b)))))))))) (hS : va_S A s.heap H1 locs1) : RepZ g ad A s (wR S h i (some b)) H1 locs1 :=
  RepZ.ups r (h := h) (r.w.lt e (by decide) (by decide) (by decide)) rfl (fun a hne => cel_wR hne) (by rw [celS (S := wR S h i (some b)) e, qR_self, up_map]; rfl) hw hP hD hS
end
section
variable {g : Gr} {ad : Nat → Nat} {A : Nat → Prop} {s : State} {S S' : MS} {H H1 : Heap} {locs locs1 : List Loc} {h : Nat}
theorem RepZ.aF {i b : Nat} (r : RepZ g ad A s S H locs) (e : qT S h = 6) (hw : wfMZ (wR S h i (some b))) (hP : va_P (rD g) cl2 ((Wd g ad S).set h (ad h, .inl (g.cF, qN S h, .inr (.inr (.inr (.inr (va_up (fun i => (qR S h i).map ad) i (some (ad b))))))))) H1) (hD : va_D A ((Wd g ad S).set h (ad h, .inl (g.cF, qN S h, .inr (.inr (.inr (.inr (va_up (fun i => (qR S h i).map ad) i (some (ad b)))))))))) (hS : va_S A s.heap H1 locs1) : RepZ g ad A s (wR S h i (some b)) H1 locs1 :=
  RepZ.ups r (h := h) (r.w.lt e (by decide) (by decide) (by decide)) rfl (fun a hne => cel_wR hne) (by rw [celF (S := wR S h i (some b)) e, qR_self, up_map]; rfl) hw hP hD hS
end
theorem rfreeZ {g : Gr} {ad : Nat → Nat} {A : Nat → Prop} {s : State} {S : MS} {H : Heap} {locs : List Loc} (r : RepZ g ad A s S H locs) (hA : ∀ q, s.heap.size ≤ q → A q) : ∀ q, va_A (Wd g ad S) H.size q → A q := by
  intro q h
  rcases h with ⟨k, x, h⟩ | h
  · exact r.D.2 k (q, x) h
  · exact hA q (Nat.le_trans r.sS.1 h)
theorem rmkZ {av : List Value} {g : Gr} {ad : Nat → Nat} {A : Nat → Prop} {s U : State} {S : MS} {H : Heap} {locs : List Loc} (hU : U.heap = H) (hW : s.WarmedH U.vm) (r : RepZ g ad A s S H locs) (hex : ex s) (hE : ogR ad A s s.heap) (hF : ∀ q, va_A (Wd g ad S) H.size q → A q) : va_Pc av (st_R g ad H.size S) av.toArray U :=
  ⟨rfl, by rw [hU], by rw [hU]; exact r.P, va_K.moved hW.alike r.K, r.D.weaken (fun _ _ _ _ => trivial), ex_warm hW hex, hE.pass r.sS hF hU hW⟩
theorem RepZ.call {g : Gr} {ad : Nat → Nat} {A : Nat → Prop} {s t : State} {S u : MS} {H H1 : Heap} {locs locs1 : List Loc} (r : RepZ g ad A s S H locs) (ht : t.heap = H1) (hB : qE g ad (va_A (Wd g ad S) H.size) u t) (hw : wfMZ u) (hS : va_S A s.heap H1 locs1) (hF : ∀ q, va_A (Wd g ad S) H.size q → A q) : RepZ g ad A s u H1 locs1 :=
  ⟨r.K, by rw [← ht]; exact hB.1, hB.2.weaken (fun _ _ _ h => hF _ h), hS, hw⟩
theorem RepZ.atX {g : Gr} {ad : Nat → Nat} {A : Nat → Prop} {s : State} {S : MS} {H : Heap} {locs : List Loc} {h : Nat} (r : RepZ g ad A s S H locs) (e : qT S h = 14) : (Wd g ad S)[h]? = some (ad h, .inr (14, [])) := Wd_at (r.w.lt e (by decide) (by decide) (by decide)) (celX e)
theorem RepZ.keep {g : Gr} {ad : Nat → Nat} {A : Nat → Prop} {s : State} {S : MS} {H H1 : Heap} {locs locs1 : List Loc} (r : RepZ g ad A s S H locs) (hk : ∀ q : Nat, q < H.size → ¬ Ns H.size q → H1[q]? = H[q]?) (hS : va_S A s.heap H1 locs1) : RepZ g ad A s S H1 locs1 :=
  ⟨r.K, r.P.kept (fun k x hx => hk x.1 (r.P k x hx).lt (fun q => absurd (r.P k x hx).lt (Nat.not_lt.mpr q))), r.D, hS, r.w⟩
theorem wfMZ.len {S : MS} {b : Nat} (h : wfMZ S) (e : qT S b = 12) : qN S (b + 1) < 2147483648 := by
  rcases h.2.2.2.2.1 b e with ⟨h1, h2⟩ | ⟨i, hi, rfl⟩
  · exact h.2.2.2.2.2.2.2.1 _ h2
  · rw [(h.2.2.2.2.2.1 i hi).2.2.1]
    exact sL_small i hi
theorem wfMZ.txt {S : MS} (h : wfMZ S) {i : Nat} (hi : i < NTX) : qT S (TXB + 2 * i) = 12 := (h.2.2.2.2.2.1 i hi).1
theorem wfMZ.hd {S : MS} {b t : Nat} (h : wfMZ S) (e : qT S b = t) (h0 : t ≠ 0) (h22 : t ≠ 22) : b < qn S ∨ TXB ≤ b := by
  by_cases e12 : t = 12
  · rcases h.2.2.2.2.1 b (by omega) with ⟨h1, -⟩ | ⟨i, -, rfl⟩
    · exact Or.inl (by omega)
    · exact Or.inr (by omega)
  · exact Or.inl (h.lt e h0 e12 h22)
theorem rmkHZ {av : List Value} {g : Gr} {ad : Nat → Nat} {A : Nat → Prop} {s U : State} {S : MS} {H : Heap} {locs : List Loc} (hU : U.heap = H) (hW : s.WarmedH U.vm) (r : RepZ g ad A s S H locs) (hex : ex s) (hE : ogR ad A s s.heap) (hF : ∀ q, va_A (Wd g ad S) H.size q → A q) : va_Pc av (st_RH g ad H S) av.toArray U := ⟨rfl, hU, (rmkZ (av := av) hU hW r hex hE hF).2⟩
theorem RepZ.callH {g : Gr} {ad ad' : Nat → Nat} {A : Nat → Prop} {s t : State} {S u : MS} {H H1 : Heap} {locs locs1 : List Loc} (r : RepZ g ad A s S H locs) (ht : t.heap = H1) (hB : qE g ad' (va_A (Wd g ad S) H.size) u t) (hw : wfMZ u) (hS : va_S A s.heap H1 locs1) (hF : ∀ q, va_A (Wd g ad S) H.size q → A q) : RepZ g ad' A s u H1 locs1 :=
  ⟨r.K, by rw [← ht]; exact hB.1, hB.2.weaken (fun _ _ _ h => hF _ h), hS, hw⟩
/-- no kind at the next handle -/
theorem wfMZ.nx {S : MS} (h : wfMZ S) (hT : qn S < TXB) : qT S (qn S) = 0 := by
  by_cases e0 : qT S (qn S) = 0
  · exact e0
  · exfalso
    by_cases e12 : qT S (qn S) = 12
    · rcases h.2.2.2.2.1 _ e12 with ⟨h1, -⟩ | ⟨i, -, h1⟩ <;> omega
    · by_cases e22 : qT S (qn S) = 22
      · have := h.2.2.2.2.2.2.2.2 _ e22; omega
      · exact absurd (h.2.2.2.1 _ e0 e12 e22) (Nat.lt_irrefl _)
theorem fin_okZ : ∀ q ∈ finZ, q.2.2.1 ≠ 0 ∧ q.2.2.1 ≠ 12 ∧ q.2.2.1 ≠ 22 := by decide
theorem wfMZ.new {S : MS} {t n k : Nat} (h : wfMZ S) (hT : qn S < TXB) (ht : t ≠ 0 ∧ t ≠ 12 ∧ t ≠ 22) (h21 : t = 21 → n < 2147483648) : wfMZ (wN S t n k) := by
  have z := h.nx hT
  have eT : ∀ a, a ≠ qn S → qT (wN S t n k) a = qT S a := fun a ha => if_neg ha
  have eN : ∀ a, a ≠ qn S → qN (wN S t n k) a = qN S a := fun a ha => if_neg ha
  have eI : ∀ a, a ≠ qn S → qI (wN S t n k) a = qI S a := fun a ha => if_neg ha
  have eR : ∀ a, a ≠ qn S → qR (wN S t n k) a = qR S a := fun a ha => if_neg ha
  have sT : qT (wN S t n k) (qn S) = t := if_pos rfl
  have sN : qN (wN S t n k) (qn S) = n := if_pos rfl
  have sR : qR (wN S t n k) (qn S) = fun _ => none := if_pos rfl
  have en : qn (wN S t n k) = qn S + 1 := rfl
  have ne : ∀ {a x : Nat}, qT S a = x → x ≠ 0 → a ≠ qn S := fun e e0 q => e0 (by rw [← e, q, z])
  refine ⟨?_, fun q hq => ?_, fun a j b e => ?_, fun b e0 e12 e22 => ?_, fun b e => ?_, fun i hi => ?_, by omega, fun b e => ?_, fun b e => ?_⟩
  · rw [eT 0 (ne h.1 (by decide))]; exact h.1
  · obtain ⟨f1, f2, f3⟩ := fin_okZ q hq
    obtain ⟨q1, q2, q3⟩ := h.2.1 q hq
    rw [eR 0 (ne h.1 (by decide)), eT _ (ne q2 f1), eN _ (ne q2 f1)]
    exact ⟨q1, q2, q3⟩
  · by_cases ea : a = qn S
    · rw [ea, sR] at e; cases e
    · rw [eR a ea] at e
      obtain ⟨q1, q2⟩ := h.2.2.1 a j b e
      rw [eT a ea, eT b (ne q1 q2)]
      exact ⟨q1, q2⟩
  · by_cases eb : b = qn S
    · omega
    · rw [eT b eb] at e0 e12 e22
      have := h.2.2.2.1 b e0 e12 e22
      omega
  · by_cases eb : b = qn S
    · rw [eb, sT] at e; exact absurd e ht.2.1
    · rw [eT b eb] at e
      rcases h.2.2.2.2.1 b e with ⟨h1, h2⟩ | h2
      · exact Or.inl ⟨by omega, by rw [eT _ (by omega)]; exact h2⟩
      · exact Or.inr h2
  · obtain ⟨h1, h2, h3, h4⟩ := h.2.2.2.2.2.1 i hi
    rw [eT _ (by omega), eT _ (by omega), eN _ (by omega), eI _ (by omega)]
    exact ⟨h1, h2, h3, h4⟩
  · by_cases eb : b = qn S
    · rw [eb, sT] at e; rw [eb, sN]; exact h21 e
    · rw [eT b eb] at e; rw [eN b eb]; exact h.2.2.2.2.2.2.2.1 b e
  · by_cases eb : b = qn S
    · rw [eb, sT] at e; exact absurd e ht.2.2
    · rw [eT b eb] at e; exact h.2.2.2.2.2.2.2.2 b e
theorem Wd_newZ {g : Gr} {ad : Nat → Nat} {S : MS} {t n k q : Nat} (h : wfMZ S) (hT : qn S < TXB) : Wd g (adx ad (qn S) q) (wN S t n k) = Wd g ad S ++ [(q, cel g (adx ad (qn S) q) (wN S t n k) (qn S))] := by
  have z := h.nx hT
  show ((List.range (qn S + 1)).map (fun h => (adx ad (qn S) q h, cel g (adx ad (qn S) q) (wN S t n k) h))) = _
  rw [List.range_succ, List.map_append, List.map_singleton, show adx ad (qn S) q (qn S) = q from if_pos rfl]
  congr 1
  unfold Wd
  apply List.map_congr_left
  intro a ha
  have hl := List.mem_range.mp ha
  have hne : a ≠ qn S := by omega
  rw [show adx ad (qn S) q a = ad a from if_neg hne]
  congr 1
  rw [cel_eq (S' := wN S t n k) (S := S) (if_neg hne) (if_neg hne) (if_neg hne) (if_neg hne) (if_neg hne)]
  refine cel_ad (fun j b e => if_neg (fun e2 => ?_)) (fun e12 => if_neg (fun e2 => ?_))
  · obtain ⟨q1, q2⟩ := h.2.2.1 a j b e
    exact q2 (by rw [← q1, e2, z])
  · rcases h.2.2.2.2.1 a e12 with ⟨h1, -⟩ | ⟨i, -, h1⟩ <;> omega
theorem RepZ.new {g : Gr} {ad : Nat → Nat} {A : Nat → Prop} {s : State} {S : MS} {H H1 : Heap} {locs locs1 : List Loc} {t n k q : Nat} {c : va_E} (r : RepZ g ad A s S H locs) (hT : qn S < TXB) (ht : t ≠ 0 ∧ t ≠ 12 ∧ t ≠ 22) (h21 : t = 21 → n < 2147483648) (hc : cel g (adx ad (qn S) q) (wN S t n k) (qn S) = c) (hP : va_P (rD g) cl2 (Wd g ad S ++ [(q, c)]) H1) (hD : va_D A (Wd g ad S ++ [(q, c)])) (hS : va_S A s.heap H1 locs1) : RepZ g (adx ad (qn S) q) A s (wN S t n k) H1 locs1 := by
  refine ⟨r.K, ?_, ?_, hS, r.w.new hT ht h21⟩
  · rw [Wd_newZ r.w hT, hc]; exact hP
  · rw [Wd_newZ r.w hT, hc]; exact hD
theorem shx.newZ {S U : MS} {t n k : Nat} (h : shx S U) (hw : wfMZ U) (hT : qn U < TXB) : shx S (wN U t n k) := h.tr ⟨fun b hb => by
  have hne : b ≠ qn U := fun e => hb (by rw [e, hw.nx hT])
  exact ⟨if_neg hne, if_neg hne⟩, Nat.le_succ _⟩
theorem wfMZ.clone {S : MS} {h k : Nat} (w : wfMZ S) (hT : qn S < TXB) (e : qT S h = 21) : wfMZ (wK S h k) := wfMZ.putC (t := 21) (w.new hT (by decide) (fun _ => w.2.2.2.2.2.2.2.1 _ e)) (if_pos rfl) (by decide)
theorem RepZ.clone {g : Gr} {ad : Nat → Nat} {A : Nat → Prop} {s : State} {S : MS} {H H1 : Heap} {locs locs1 : List Loc} {h k q : Nat} (r : RepZ g ad A s S H locs) (hT : qn S < TXB) (e : qT S h = 21) (hP : va_P (rD g) cl2 (Wd g ad S ++ [(q, .inl (g.cB, qN S h, .inl (qI S h)))]) H1) (hD : va_D A (Wd g ad S ++ [(q, .inl (g.cB, qN S h, .inl (qI S h)))])) (hS : va_S A s.heap H1 locs1) : RepZ g (adx ad (qn S) q) A s (wK S h k) H1 locs1 := by
  have ew : Wd g (adx ad (qn S) q) (wK S h k) = Wd g ad S ++ [(q, .inl (g.cB, qN S h, .inl (qI S h)))] := by
    have e1 : cel g (adx ad (qn S) q) (wK S h k) (qn S) = .inl (g.cB, qN S h, .inl (qI S h)) := by
      rw [celV (S := wK S h k) (if_pos rfl), show qN (wK S h k) (qn S) = qN S h from if_pos rfl, show qI (wK S h k) (qn S) = qI S h from if_pos rfl]
    have e2 := Wd_newZ (g := g) (ad := ad) (t := 21) (n := qN S h) (k := k) (q := q) r.w hT
    have e3 : Wd g (adx ad (qn S) q) (wK S h k) = (Wd g (adx ad (qn S) q) (wN S 21 (qN S h) k)).set (qn S) (adx ad (qn S) q (qn S), .inl (g.cB, qN S h, .inl (qI S h))) :=
      Wd_set (S' := wK S h k) (S := wN S 21 (qN S h) k) (h := qn S) (Nat.lt_succ_self _) rfl (fun a ha => cel_eq (S' := wK S h k) (S := wN S 21 (qN S h) k) (show (if a = qn S then qI S h else qI (wN S 21 (qN S h) k) a) = _ from if_neg ha) rfl rfl rfl rfl) e1
    have hlen : (Wd g ad S).length = qn S := by unfold Wd; rw [List.length_map, List.length_range]
    rw [e3, e2, show adx ad (qn S) q (qn S) = q from if_pos rfl, List.set_append_right _ _ (by omega), hlen, Nat.sub_self]
    rfl
  refine ⟨r.K, ?_, ?_, hS, r.w.clone hT e⟩
  · rw [ew]; exact hP
  · rw [ew]; exact hD
set_option maxRecDepth 100000 in
theorem fin24Z : ∀ q ∈ finZ, q.2.2.1 ≠ 24 := by decide
/-- a text that is made: it can be read as the others -/
theorem wfMZ.str {S : MS} {h : Nat} (w : wfMZ S) (e : qT S h = 24) (h0 : qR S h 0 = some (h + 1)) : wfMZ (wT S h 12) := by
  have eT : ∀ a, a ≠ h → qT (wT S h 12) a = qT S a := fun a ha => if_neg ha
  have ne : ∀ {a x : Nat}, qT S a = x → x ≠ 24 → a ≠ h := fun ea ex q => ex (by rw [← ea, q, e])
  have h21 : qT S (h + 1) = 21 := by have := w.ref h0 e; exact this
  refine ⟨?_, fun q hq => ?_, fun a j b ea => ?_, fun b b0 b12 b22 => ?_, fun b eb => ?_, fun i hi => ?_, w.2.2.2.2.2.2.1, fun b eb => ?_, fun b eb => ?_⟩
  · rw [eT 0 (ne w.1 (by decide))]; exact w.1
  · obtain ⟨q1, q2, q3⟩ := w.2.1 q hq
    rw [eT _ (ne q2 (fin24Z q hq))]
    exact ⟨q1, q2, q3⟩
  · obtain ⟨q1, q2⟩ := w.2.2.1 a j b ea
    rw [eT b (ne q1 (etg24 _ _))]
    by_cases ah : a = h
    · subst ah
      rw [show qT (wT S a 12) a = 12 from if_pos rfl]
      rw [e] at q1 q2
      exact ⟨q1, q2⟩
    · rw [eT a ah]; exact ⟨q1, q2⟩
  · by_cases bh : b = h
    · rw [bh] at b12; exact absurd (show qT (wT S h 12) h = 12 from if_pos rfl) b12
    · rw [eT b bh] at b0 b12 b22; exact w.2.2.2.1 b b0 b12 b22
  · by_cases bh : b = h
    · subst bh
      refine Or.inl ⟨w.lt h21 (by decide) (by decide) (by decide), ?_⟩
      rw [eT _ (by omega)]; exact h21
    · rw [eT b bh] at eb
      rcases w.2.2.2.2.1 b eb with ⟨k1, k2⟩ | k2
      · exact Or.inl ⟨k1, by rw [eT _ (ne k2 (by decide))]; exact k2⟩
      · exact Or.inr k2
  · obtain ⟨k1, k2, k3, k4⟩ := w.2.2.2.2.2.1 i hi
    rw [eT _ (ne k1 (by decide)), eT _ (ne k2 (by decide))]
    exact ⟨k1, k2, k3, k4⟩
  · by_cases bh : b = h
    · rw [bh, show qT (wT S h 12) h = 12 from if_pos rfl] at eb; exact absurd eb (by decide)
    · rw [eT b bh] at eb; exact w.2.2.2.2.2.2.2.1 b eb
  · by_cases bh : b = h
    · rw [bh, show qT (wT S h 12) h = 12 from if_pos rfl] at eb; exact absurd eb (by decide)
    · rw [eT b bh] at eb; exact w.2.2.2.2.2.2.2.2 b eb
theorem RepZ.str {g : Gr} {ad : Nat → Nat} {A : Nat → Prop} {s : State} {S : MS} {H : Heap} {locs : List Loc} {h : Nat} (r : RepZ g ad A s S H locs) (e : qT S h = 24) (hs : qR S h 0 = some (h + 1) ∧ qI S h 1 = 0 ∧ qI S h 2 = 0 ∧ qI S h 3 = 0) : RepZ g ad A s (wT S h 12) H locs := by
  obtain ⟨h0, h1, h2, h3⟩ := hs
  have ew : Wd g ad (wT S h 12) = Wd g ad S := by
    unfold Wd
    apply List.map_congr_left
    intro a _
    congr 1
    by_cases ah : a = h
    · subst ah
      rw [celK (S := wT S a 12) (if_pos rfl), celT e]
      unfold F16
      rw [h0, h1, h2, h3]
      rfl
    · exact cel_eq rfl rfl rfl (if_neg ah) rfl
  refine ⟨r.K, ?_, ?_, r.sS, r.w.str e h0⟩
  · rw [ew]; exact r.P
  · rw [ew]; exact r.D
