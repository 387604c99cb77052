/-! what a method leaves as it was: all but rows of the kinds K and the fields F (kind, place) -/
def cfr (K : List Nat) (F : List (Nat × Nat)) (S u : MS) : Prop := shx S u ∧ qu S ≤ qu u ∧ ∀ a j : Nat, qT S a ≠ 0 → K.contains (qT S a) = false → F.contains (qT S a, j) = false → qI u a j = qI S a j ∧ qJ u a j = qJ S a j ∧ qR u a j = qR S a j
theorem cfr.rf {K : List Nat} {F : List (Nat × Nat)} {S : MS} : cfr K F S S := ⟨shx.rf, Nat.le_refl _, fun _ _ _ _ _ => ⟨rfl, rfl, rfl⟩⟩
theorem cfr.tr {K : List Nat} {F : List (Nat × Nat)} {S u v : MS} (h : cfr K F S u) (k : cfr K F u v) : cfr K F S v := ⟨h.1.tr k.1, Nat.le_trans h.2.1 k.2.1, fun a j a0 aK aF => by
  have e := (h.1.1 a a0).1
  obtain ⟨p1, p2, p3⟩ := h.2.2 a j a0 aK aF
  obtain ⟨q1, q2, q3⟩ := k.2.2 a j (by rw [e]; exact a0) (by rw [e]; exact aK) (by rw [e]; exact aF)
  exact ⟨q1.trans p1, q2.trans p2, q3.trans p3⟩⟩
theorem cfr.mo {K K' : List Nat} {F F' : List (Nat × Nat)} {S u : MS} (h : cfr K F S u) (hK : K.all (fun x => K'.contains x) = true) (hF : F.all (fun x => F'.contains x) = true) : cfr K' F' S u := ⟨h.1, h.2.1, fun a j a0 aK aF => h.2.2 a j a0 (by
  cases e : K.contains (qT S a) with
  | false => rfl
  | true => rw [List.all_eq_true.mp hK _ (List.contains_iff_mem.mp e)] at aK; cases aK) (by
  cases e : F.contains (qT S a, j) with
  | false => rfl
  | true => rw [List.all_eq_true.mp hF _ (List.contains_iff_mem.mp e)] at aF; cases aF)⟩
section CFRW
variable {K : List Nat} {F : List (Nat × Nat)} {S : MS} {h i t : Nat}
theorem cfr.aI {v : Int32} (e : qT S h = t) (hm : K.contains t = true) : cfr K F S (wI S h i v) := ⟨shx.rf, Nat.le_refl _, fun a j a0 aK aF => ⟨by rw [qI_wI, if_neg (fun q => by rw [q.1, e, hm] at aK; cases aK)], rfl, rfl⟩⟩
theorem cfr.aJ {v : Int64} (e : qT S h = t) (hm : K.contains t = true) : cfr K F S (wJ S h i v) := ⟨shx.rf, Nat.le_refl _, fun a j a0 aK aF => ⟨rfl, by rw [qJ_wJ, if_neg (fun q => by rw [q.1, e, hm] at aK; cases aK)], rfl⟩⟩
theorem cfr.aR {v : Option Nat} (e : qT S h = t) (hm : K.contains t = true) : cfr K F S (wR S h i v) := ⟨shx.rf, Nat.le_refl _, fun a j a0 aK aF => ⟨rfl, rfl, by rw [qR_wR, if_neg (fun q => by rw [q.1, e, hm] at aK; cases aK)]⟩⟩
theorem cfr.aC {f : Nat → Int32} (e : qT S h = t) (hm : K.contains t = true) : cfr K F S (wC S h f) := ⟨shx.rf, Nat.le_refl _, fun a j a0 aK aF => ⟨by
  have hne : a ≠ h := fun q => by rw [q, e, hm] at aK; cases aK
  show (if a = h then f else qI S a) j = qI S a j
  rw [if_neg hne], rfl, rfl⟩⟩
theorem cfr.aL {f : Nat → Int64} (e : qT S h = t) (hm : K.contains t = true) : cfr K F S (wL S h f) := ⟨shx.rf, Nat.le_refl _, fun a j a0 aK aF => ⟨rfl, by
  have hne : a ≠ h := fun q => by rw [q, e, hm] at aK; cases aK
  show (if a = h then f else qJ S a) j = qJ S a j
  rw [if_neg hne], rfl⟩⟩
theorem cfr.oI {v : Int32} (e : qT S h = t) (hm : F.contains (t, i) = true) : cfr K F S (wI S h i v) := ⟨shx.rf, Nat.le_refl _, fun a j a0 aK aF => ⟨by rw [qI_wI, if_neg (fun q => by rw [q.1, q.2, e, hm] at aF; cases aF)], rfl, rfl⟩⟩
theorem cfr.oJ {v : Int64} (e : qT S h = t) (hm : F.contains (t, i) = true) : cfr K F S (wJ S h i v) := ⟨shx.rf, Nat.le_refl _, fun a j a0 aK aF => ⟨rfl, by rw [qJ_wJ, if_neg (fun q => by rw [q.1, q.2, e, hm] at aF; cases aF)], rfl⟩⟩
theorem cfr.oR {v : Option Nat} (e : qT S h = t) (hm : F.contains (t, i) = true) : cfr K F S (wR S h i v) := ⟨shx.rf, Nat.le_refl _, fun a j a0 aK aF => ⟨rfl, rfl, by rw [qR_wR, if_neg (fun q => by rw [q.1, q.2, e, hm] at aF; cases aF)]⟩⟩
end CFRW
theorem wfC.room {S : MS} (h : wfC S) : qn S ≤ TXB := h.2.2.2.2.2.2.1
theorem cfr.new {K : List Nat} {F : List (Nat × Nat)} {S : MS} {t n k : Nat} (hw : wfC S) (w : wfC (wN S t n k)) : cfr K F S (wN S t n k) := by
  have hT : qn S < TXB := w.room
  have z := hw.nx hT
  refine ⟨shx.newC shx.rf hw hT, Nat.le_add_right _ _, fun a j a0 aK aF => ?_⟩
  have hne : a ≠ qn S := fun q => a0 (by rw [q]; exact z)
  refine ⟨?_, ?_, ?_⟩
  · show (if a = qn S then fun _ => 0 else qI S a) j = _; rw [if_neg hne]
  · show (if a = qn S then fun _ => 0 else qJ S a) j = _; rw [if_neg hne]
  · show (if a = qn S then fun _ => none else qR S a) j = _; rw [if_neg hne]
theorem cfr.newC {K : List Nat} {F : List (Nat × Nat)} {S : MS} {t n k : Nat} {f : Nat → Int32} (hw : wfC S) (w : qn S < TXB) : cfr K F S (wC (wN S t n k) (qn S) f) := by
  have z := hw.nx w
  refine ⟨shx.newC shx.rf hw w, Nat.le_add_right _ _, fun a j a0 aK aF => ?_⟩
  have hne : a ≠ qn S := fun q => a0 (by rw [q]; exact z)
  refine ⟨?_, ?_, ?_⟩
  · show (if a = qn S then f else (if a = qn S then fun _ => 0 else qI S a)) j = _; rw [if_neg hne, if_neg hne]
  · show (if a = qn S then fun _ => 0 else qJ S a) j = _; rw [if_neg hne]
  · show (if a = qn S then fun _ => none else qR S a) j = _; rw [if_neg hne]
/-- a copy: a new row, with its length -/
def cpyQ (S : MS) (kd : Nat) (x : Int32) (r : Nat) (u : MS) : Prop := cfr [] [] S u ∧ r = qn S ∧ qn u = qn S + 1 ∧ qu u = qu S + x.toInt.toNat ∧ qT u r = kd ∧ qN u r = x.toInt.toNat
theorem frJ7_copyOf_9075b {S : MS} {kd9 : Nat} {p0 : Nat} {x1 : Int32} {Q : Nat → MS → Prop} (hw : wfC S) (h : wJ7_copyOf_9075b S kd9 p0 x1 Q) : wJ7_copyOf_9075b S kd9 p0 x1 (fun r u => Q r u ∧ cfr [] [] S u) := by
  unfold wJ7_copyOf_9075b at h ⊢
  refine ⟨fun c => ?_, fun c => ?_⟩
  · replace h := h.1 c
    refine ⟨h.1, fun S13 e w => ?_⟩
    replace h := h.2 S13 e w
    refine ⟨h, ?_⟩
    rw [e]
    exact cfr.newC hw (by have e1 := w.room; rw [e] at e1; exact e1)
  · replace h := h.2 c
    refine ⟨h.1, fun S5 e5 w5 => ?_⟩
    replace h := h.2 S5 e5 w5
    refine ⟨h.1, fun S9 e9 k9 w9 => ?_⟩
    replace h := h.2 S9 e9 k9 w9
    refine ⟨h, ?_⟩
    rw [e9, e5]
    exact cfr.newC hw (by have e1 := w5.room; rw [e5] at e1; exact e1)
theorem frJ7_copyOf_59c91 {S : MS} {kd9 : Nat} {p0 : Nat} {x1 : Int32} {Q : Nat → MS → Prop} (hw : wfC S) (h : wJ7_copyOf_59c91 S kd9 p0 x1 Q) : wJ7_copyOf_59c91 S kd9 p0 x1 (fun r u => Q r u ∧ cfr [] [] S u) := by
  unfold wJ7_copyOf_59c91 at h ⊢
  refine ⟨fun c => ?_, fun c => ?_⟩
  · exact (h.1 c).elim
  · replace h := h.2 c
    refine ⟨h.1, fun S5 e5 w5 => ?_⟩
    replace h := h.2 S5 e5 w5
    refine ⟨h.1, fun S9 e9 k9 w9 => ?_⟩
    replace h := h.2 S9 e9 k9 w9
    refine ⟨h, ?_⟩
    rw [e9, e5]
    exact cfr.newC hw (by have e1 := w5.room; rw [e5] at e1; exact e1)
theorem fr_J7_fill_53178_L5 {S0 : MS} {Q : MS → Prop} {kd p : Nat} (hk : qT S0 p = kd) (h0 : kd ≠ 0) : ∀ (n : Nat) {U5 : MS} {x1 x2 x3 : Int32}, cfr [kd] [] S0 U5 → w_J7_fill_53178_L5 Q n U5 p x1 x2 x3 → w_J7_fill_53178_L5 (fun u => Q u ∧ cfr [kd] [] S0 u) n U5 p x1 x2 x3 := by
  intro n
  induction n with
  | zero => intro U5 x1 x2 x3 f h; unfold w_J7_fill_53178_L5 at h; exact h.elim
  | succ n ih =>
    intro U5 x1 x2 x3 f h
    unfold w_J7_fill_53178_L5 at h ⊢
    intro w
    replace h := h w
    refine ⟨fun c => ⟨h.1 c, f⟩, fun c => ?_⟩
    replace h := h.2 c
    refine ⟨h.1, fun S4 e4 w4 a5 e5 => ?_⟩
    replace h := h.2 S4 e4 w4 a5 e5
    refine ih (f.tr ?_) h
    rw [e4]
    exact cfr.aI (f.1.T hk h0) (by simp)
theorem frJ7_fill_53178 {S : MS} {kd p0 : Nat} {x1 : Int32} {Q : MS → Prop} (hk : qT S p0 = kd) (h0 : kd ≠ 0) (h : wJ7_fill_53178 S p0 x1 Q) : wJ7_fill_53178 S p0 x1 (fun u => Q u ∧ cfr [kd] [] S u) := by
  unfold wJ7_fill_53178 at h ⊢
  intro a1 e1
  obtain ⟨n, h⟩ := h a1 e1
  exact ⟨n, fr_J7_fill_53178_L5 hk h0 n cfr.rf h⟩
theorem fr_J7_fill_d0a16_L6 {S0 : MS} {Q : MS → Prop} {kd p : Nat} (hk : qT S0 p = kd) (h0 : kd ≠ 0) : ∀ (n : Nat) {U6 : MS} {x1 : Int64} {x2 x3 : Int32}, cfr [kd] [] S0 U6 → w_J7_fill_d0a16_L6 Q n U6 p x1 x2 x3 → w_J7_fill_d0a16_L6 (fun u => Q u ∧ cfr [kd] [] S0 u) n U6 p x1 x2 x3 := by
  intro n
  induction n with
  | zero => intro U6 x1 x2 x3 f h; unfold w_J7_fill_d0a16_L6 at h; exact h.elim
  | succ n ih =>
    intro U6 x1 x2 x3 f h
    unfold w_J7_fill_d0a16_L6 at h ⊢
    intro w
    replace h := h w
    refine ⟨fun c => ⟨h.1 c, f⟩, fun c => ?_⟩
    replace h := h.2 c
    refine ⟨h.1, fun S4 e4 w4 a5 e5 => ?_⟩
    replace h := h.2 S4 e4 w4 a5 e5
    refine ih (f.tr ?_) h
    rw [e4]
    exact cfr.aJ (f.1.T hk h0) (by simp)
theorem frJ7_fill_d0a16 {S : MS} {kd p0 : Nat} {y1 : Int64} {Q : MS → Prop} (hk : qT S p0 = kd) (h0 : kd ≠ 0) (h : wJ7_fill_d0a16 S p0 y1 Q) : wJ7_fill_d0a16 S p0 y1 (fun u => Q u ∧ cfr [kd] [] S u) := by
  unfold wJ7_fill_d0a16 at h ⊢
  intro a1 e1
  obtain ⟨n, h⟩ := h a1 e1
  exact ⟨n, fr_J7_fill_d0a16_L6 hk h0 n cfr.rf h⟩
