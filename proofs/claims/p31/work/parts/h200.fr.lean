/-! what a method leaves as it was: all but rows of the kinds K and the fields F (kind, place) -/
def cfr (K : List Nat) (F : List (Nat × Nat)) (S u : MS) : Prop := shx S u ∧ qu S ≤ qu u ∧ ∀ a j : Nat, qT S a ≠ 0 → K.contains (qT S a) = false → F.contains (qT S a, j) = false → qI u a j = qI S a j ∧ qJ u a j = qJ S a j ∧ qR u a j = qR S a j
theorem cfr.rf {K : List Nat} {F : List (Nat × Nat)} {S : MS} : cfr K F S S := ⟨shx.rf, Nat.le_refl _, fun _ _ _ _ _ => ⟨rfl, rfl, rfl⟩⟩
theorem cfr.tr {K : List Nat} {F : List (Nat × Nat)} {S u v : MS} (h : cfr K F S u) (k : cfr K F u v) : cfr K F S v := ⟨h.1.tr k.1, Nat.le_trans h.2.1 k.2.1, fun a j a0 aK aF => by
  have e := (h.1.1 a a0).1
  obtain ⟨p1, p2, p3⟩ := h.2.2 a j a0 aK aF
  obtain ⟨q1, q2, q3⟩ := k.2.2 a j (by rw [e]; exact a0) (by rw [e]; exact aK) (by rw [e]; exact aF)
  exact ⟨q1.trans p1, q2.trans p2, q3.trans p3⟩⟩
theorem cfr.mo {K K' : List Nat} {F F' : List (Nat × Nat)} {S u : MS} (h : cfr K F S u) (hK : K.all (fun x => K'.contains x) = true) (hF : F.all (fun x => F'.contains x) = true) : cfr K' F' S u := ⟨h.1, h.2.1, fun a j a0 aK aF => h.2.2 a j a0 (by
  cases e : K.contains (qT S a) with
  | false => rfl
  | true => rw [List.all_eq_true.mp hK _ (List.contains_iff_mem.mp e)] at aK; cases aK) (by
  cases e : F.contains (qT S a, j) with
  | false => rfl
  | true => rw [List.all_eq_true.mp hF _ (List.contains_iff_mem.mp e)] at aF; cases aF)⟩
section CFRW
variable {K : List Nat} {F : List (Nat × Nat)} {S : MS} {h i t : Nat}
theorem cfr.aI {v : Int32} (e : qT S h = t) (hm : K.contains t = true) : cfr K F S (wI S h i v) := ⟨shx.rf, Nat.le_refl _, fun a j a0 aK aF => ⟨by rw [qI_wI, if_neg (fun q => by rw [q.1, e, hm] at aK; cases aK)], rfl, rfl⟩⟩
theorem cfr.aJ {v : Int64} (e : qT S h = t) (hm : K.contains t = true) : cfr K F S (wJ S h i v) := ⟨shx.rf, Nat.le_refl _, fun a j a0 aK aF => ⟨rfl, by rw [qJ_wJ, if_neg (fun q => by rw [q.1, e, hm] at aK; cases aK)], rfl⟩⟩
theorem cfr.aR {v : Option Nat} (e : qT S h = t) (hm : K.contains t = true) : cfr K F S (wR S h i v) := ⟨shx.rf, Nat.le_refl _, fun a j a0 aK aF => ⟨rfl, rfl, by rw [qR_wR, if_neg (fun q => by rw [q.1, e, hm] at aK; cases aK)]⟩⟩
theorem cfr.aC {f : Nat → Int32} (e : qT S h = t) (hm : K.contains t = true) : cfr K F S (wC S h f) := ⟨shx.rf, Nat.le_refl _, fun a j a0 aK aF => ⟨by
  have hne : a ≠ h := fun q => by rw [q, e, hm] at aK; cases aK
  show (if a = h then f else qI S a) j = qI S a j
  rw [if_neg hne], rfl, rfl⟩⟩
theorem cfr.aL {f : Nat → Int64} (e : qT S h = t) (hm : K.contains t = true) : cfr K F S (wL S h f) := ⟨shx.rf, Nat.le_refl _, fun a j a0 aK aF => ⟨rfl, by
  have hne : a ≠ h := fun q => by rw [q, e, hm] at aK; cases aK
  show (if a = h then f else qJ S a) j = qJ S a j
  rw [if_neg hne], rfl⟩⟩
theorem cfr.oI {v : Int32} (e : qT S h = t) (hm : F.contains (t, i) = true) : cfr K F S (wI S h i v) := ⟨shx.rf, Nat.le_refl _, fun a j a0 aK aF => ⟨by rw [qI_wI, if_neg (fun q => by rw [q.1, q.2, e, hm] at aF; cases aF)], rfl, rfl⟩⟩
theorem cfr.oJ {v : Int64} (e : qT S h = t) (hm : F.contains (t, i) = true) : cfr K F S (wJ S h i v) := ⟨shx.rf, Nat.le_refl _, fun a j a0 aK aF => ⟨rfl, by rw [qJ_wJ, if_neg (fun q => by rw [q.1, q.2, e, hm] at aF; cases aF)], rfl⟩⟩
theorem cfr.oR {v : Option Nat} (e : qT S h = t) (hm : F.contains (t, i) = true) : cfr K F S (wR S h i v) := ⟨shx.rf, Nat.le_refl _, fun a j a0 aK aF => ⟨rfl, rfl, by rw [qR_wR, if_neg (fun q => by rw [q.1, q.2, e, hm] at aF; cases aF)]⟩⟩
end CFRW
theorem wfC.room {S : MS} (h : wfC S) : qn S ≤ TXB := h.2.2.2.2.2.2.1
theorem cfr.new {K : List Nat} {F : List (Nat × Nat)} {S : MS} {t n k : Nat} (hw : wfC S) (w : wfC (wN S t n k)) : cfr K F S (wN S t n k) := by
  have hT : qn S < TXB := w.room
  have z := hw.nx hT
  refine ⟨shx.newC shx.rf hw hT, Nat.le_add_right _ _, fun a j a0 aK aF => ?_⟩
  have hne : a ≠ qn S := fun q => a0 (by rw [q]; exact z)
  refine ⟨?_, ?_, ?_⟩
  · show (if a = qn S then fun _ => 0 else qI S a) j = _; rw [if_neg hne]
  · show (if a = qn S then fun _ => 0 else qJ S a) j = _; rw [if_neg hne]
  · show (if a = qn S then fun _ => none else qR S a) j = _; rw [if_neg hne]
theorem cfr.newC {K : List Nat} {F : List (Nat × Nat)} {S : MS} {t n k : Nat} {f : Nat → Int32} (hw : wfC S) (w : qn S < TXB) : cfr K F S (wC (wN S t n k) (qn S) f) := by
  have z := hw.nx w
  refine ⟨shx.newC shx.rf hw w, Nat.le_add_right _ _, fun a j a0 aK aF => ?_⟩
  have hne : a ≠ qn S := fun q => a0 (by rw [q]; exact z)
  refine ⟨?_, ?_, ?_⟩
  · show (if a = qn S then f else (if a = qn S then fun _ => 0 else qI S a)) j = _; rw [if_neg hne, if_neg hne]
  · show (if a = qn S then fun _ => 0 else qJ S a) j = _; rw [if_neg hne]
  · show (if a = qn S then fun _ => none else qR S a) j = _; rw [if_neg hne]
theorem frJ7_copyOf_9075b {S : MS} {kd9 : Nat} {p0 : Nat} {x1 : Int32} {Q : Nat → MS → Prop} (hw : wfC S) (h : wJ7_copyOf_9075b S kd9 p0 x1 Q) : wJ7_copyOf_9075b S kd9 p0 x1 (fun r u => Q r u ∧ cfr [] [] S u) := by
  unfold wJ7_copyOf_9075b at h ⊢
  refine ⟨fun c => ?_, fun c => ?_⟩
  · replace h := h.1 c
    refine ⟨h.1, fun S13 e w => ?_⟩
    replace h := h.2 S13 e w
    refine ⟨h, ?_⟩
    rw [e]
    exact cfr.newC hw (by have e1 := w.room; rw [e] at e1; exact e1)
  · replace h := h.2 c
    refine ⟨h.1, fun S5 e5 w5 => ?_⟩
    replace h := h.2 S5 e5 w5
    refine ⟨h.1, fun S9 e9 k9 w9 => ?_⟩
    replace h := h.2 S9 e9 k9 w9
    refine ⟨h, ?_⟩
    rw [e9, e5]
    exact cfr.newC hw (by have e1 := w5.room; rw [e5] at e1; exact e1)
theorem frJ7_copyOf_59c91 {S : MS} {kd9 : Nat} {p0 : Nat} {x1 : Int32} {Q : Nat → MS → Prop} (hw : wfC S) (h : wJ7_copyOf_59c91 S kd9 p0 x1 Q) : wJ7_copyOf_59c91 S kd9 p0 x1 (fun r u => Q r u ∧ cfr [] [] S u) := by
  unfold wJ7_copyOf_59c91 at h ⊢
  refine ⟨fun c => ?_, fun c => ?_⟩
  · exact (h.1 c).elim
  · replace h := h.2 c
    refine ⟨h.1, fun S5 e5 w5 => ?_⟩
    replace h := h.2 S5 e5 w5
    refine ⟨h.1, fun S9 e9 k9 w9 => ?_⟩
    replace h := h.2 S9 e9 k9 w9
    refine ⟨h, ?_⟩
    rw [e9, e5]
    exact cfr.newC hw (by have e1 := w5.room; rw [e5] at e1; exact e1)
theorem fr_J7_fill_53178_L5 {S0 : MS} {Q : MS → Prop} {kd p : Nat} (hk : qT S0 p = kd) (h0 : kd ≠ 0) : ∀ (n : Nat) {U5 : MS} {x1 x2 x3 : Int32}, cfr [kd] [] S0 U5 → w_J7_fill_53178_L5 Q n U5 p x1 x2 x3 → w_J7_fill_53178_L5 (fun u => Q u ∧ cfr [kd] [] S0 u) n U5 p x1 x2 x3 := by
  intro n
  induction n with
  | zero => intro U5 x1 x2 x3 f h; unfold w_J7_fill_53178_L5 at h; exact h.elim
  | succ n ih =>
    intro U5 x1 x2 x3 f h
    unfold w_J7_fill_53178_L5 at h ⊢
    intro w
    replace h := h w
    refine ⟨fun c => ⟨h.1 c, f⟩, fun c => ?_⟩
    replace h := h.2 c
    refine ⟨h.1, fun S4 e4 w4 a5 e5 => ?_⟩
    replace h := h.2 S4 e4 w4 a5 e5
    refine ih (f.tr ?_) h
    rw [e4]
    exact cfr.aI (f.1.T hk h0) (by simp)
theorem frJ7_fill_53178 {S : MS} {kd p0 : Nat} {x1 : Int32} {Q : MS → Prop} (hk : qT S p0 = kd) (h0 : kd ≠ 0) (h : wJ7_fill_53178 S p0 x1 Q) : wJ7_fill_53178 S p0 x1 (fun u => Q u ∧ cfr [kd] [] S u) := by
  unfold wJ7_fill_53178 at h ⊢
  intro a1 e1
  obtain ⟨n, h⟩ := h a1 e1
  exact ⟨n, fr_J7_fill_53178_L5 hk h0 n cfr.rf h⟩
theorem fr_J7_fill_d0a16_L6 {S0 : MS} {Q : MS → Prop} {kd p : Nat} (hk : qT S0 p = kd) (h0 : kd ≠ 0) : ∀ (n : Nat) {U6 : MS} {x1 : Int64} {x2 x3 : Int32}, cfr [kd] [] S0 U6 → w_J7_fill_d0a16_L6 Q n U6 p x1 x2 x3 → w_J7_fill_d0a16_L6 (fun u => Q u ∧ cfr [kd] [] S0 u) n U6 p x1 x2 x3 := by
  intro n
  induction n with
  | zero => intro U6 x1 x2 x3 f h; unfold w_J7_fill_d0a16_L6 at h; exact h.elim
  | succ n ih =>
    intro U6 x1 x2 x3 f h
    unfold w_J7_fill_d0a16_L6 at h ⊢
    intro w
    replace h := h w
    refine ⟨fun c => ⟨h.1 c, f⟩, fun c => ?_⟩
    replace h := h.2 c
    refine ⟨h.1, fun S4 e4 w4 a5 e5 => ?_⟩
    replace h := h.2 S4 e4 w4 a5 e5
    refine ih (f.tr ?_) h
    rw [e4]
    exact cfr.aJ (f.1.T hk h0) (by simp)
theorem frJ7_fill_d0a16 {S : MS} {kd p0 : Nat} {y1 : Int64} {Q : MS → Prop} (hk : qT S p0 = kd) (h0 : kd ≠ 0) (h : wJ7_fill_d0a16 S p0 y1 Q) : wJ7_fill_d0a16 S p0 y1 (fun u => Q u ∧ cfr [kd] [] S u) := by
  unfold wJ7_fill_d0a16 at h ⊢
  intro a1 e1
  obtain ⟨n, h⟩ := h a1 e1
  exact ⟨n, fr_J7_fill_d0a16_L6 hk h0 n cfr.rf h⟩
set_option maxRecDepth 100000 in
theorem fr_X0_put_J30 {S0 : MS} {Q : MS → Prop} {U30 : MS} {v30_0 : Nat} {v30_1 : Int32} (f : cfr [101] [(40, 0), (40, 1)] S0 U30) (h : w_X0_put_J30 Q U30 v30_0 v30_1) : w_X0_put_J30 (fun u => Q u ∧ cfr [101] [(40, 0), (40, 1)] S0 u) U30 v30_0 v30_1 := by
  unfold w_X0_put_J30 at h ⊢
  intro y1_ y2_
  replace h := h y1_ y2_
  refine ⟨h.1, ?_⟩
  replace h := h.2
  refine ⟨h.1, ?_⟩
  replace h := h.2
  intro S7 eS7 y3_ y4_
  replace h := h S7 eS7 y3_ y4_
  replace f := f.tr (show cfr [101] [(40, 0), (40, 1)] U30 S7 by rw [eS7]; exact cfr.aI y3_ (by decide))
  intro S9 eS9 y5_ y6_
  replace h := h S9 eS9 y5_ y6_
  replace f := f.tr (show cfr [101] [(40, 0), (40, 1)] S7 S9 by rw [eS9]; exact cfr.oI y5_ (by decide))
  exact ⟨h, f⟩
set_option maxRecDepth 100000 in
theorem frX0_put {S : MS} {p0 : Nat} {x1 : Int32} {Q : MS → Prop} (hw : wfC S) (h : wX0_put S p0 x1 Q) : wX0_put S p0 x1 (fun u => Q u ∧ cfr [101] [(40, 0), (40, 1)] S u) := by
  have f : cfr [101] [(40, 0), (40, 1)] S S := cfr.rf
  unfold wX0_put at h ⊢
  refine ⟨h.1, ?_⟩
  replace h := h.2
  refine ⟨fun c => ?_, fun c => ?_⟩
  · replace h := h.1 c
    exact fr_X0_put_J30 f h
  · replace h := h.2 c
    refine ⟨h.1, ?_⟩
    replace h := h.2
    refine ⟨h.1, ?_⟩
    replace h := h.2
    intro y7_
    replace h := h y7_
    obtain ⟨Q9, h0, h⟩ := h
    refine ⟨_, frJ7_copyOf_9075b hw h0, ?_⟩
    intro b22 S19 q8_ y9_ y10_ y11_
    replace h := h b22 S19 q8_.1 y9_ y10_ y11_
    replace f := f.tr (q8_.2.mo (by decide) (by decide))
    intro S23 eS23 y12_ y13_
    replace h := h S23 eS23 y12_ y13_
    replace f := f.tr (show cfr [101] [(40, 0), (40, 1)] S19 S23 by rw [eS23]; exact cfr.oR y12_ (by decide))
    exact fr_X0_put_J30 f h
set_option maxRecDepth 100000 in
theorem frX0_put2 {S : MS} {p0 : Nat} {x1 : Int32} {Q : MS → Prop} (hw : wfC S) (h : wX0_put2 S p0 x1 Q) : wX0_put2 S p0 x1 (fun u => Q u ∧ cfr [101] [(40, 0), (40, 1)] S u) := by
  have f : cfr [101] [(40, 0), (40, 1)] S S := cfr.rf
  unfold wX0_put2 at h ⊢
  intro y1_
  replace h := h y1_
  obtain ⟨Q9, h0, h⟩ := h
  refine ⟨_, frX0_put hw h0, ?_⟩
  intro S3 q2_ y3_ y4_
  replace h := h S3 q2_.1 y3_ y4_
  replace f := f.tr (q2_.2.mo (by decide) (by decide))
  intro y5_
  replace h := h y5_
  obtain ⟨Q9, h0, h⟩ := h
  refine ⟨_, frX0_put y3_ h0, ?_⟩
  intro S7 q6_ y7_ y8_
  replace h := h S7 q6_.1 y7_ y8_
  replace f := f.tr (q6_.2.mo (by decide) (by decide))
  exact ⟨h, f⟩
set_option maxRecDepth 100000 in
theorem frX0_put4 {S : MS} {p0 : Nat} {x1 : Int32} {Q : MS → Prop} (hw : wfC S) (h : wX0_put4 S p0 x1 Q) : wX0_put4 S p0 x1 (fun u => Q u ∧ cfr [101] [(40, 0), (40, 1)] S u) := by
  have f : cfr [101] [(40, 0), (40, 1)] S S := cfr.rf
  unfold wX0_put4 at h ⊢
  intro y1_
  replace h := h y1_
  obtain ⟨Q9, h0, h⟩ := h
  refine ⟨_, frX0_put2 hw h0, ?_⟩
  intro S3 q2_ y3_ y4_
  replace h := h S3 q2_.1 y3_ y4_
  replace f := f.tr (q2_.2.mo (by decide) (by decide))
  intro y5_
  replace h := h y5_
  obtain ⟨Q9, h0, h⟩ := h
  refine ⟨_, frX0_put2 y3_ h0, ?_⟩
  intro S7 q6_ y7_ y8_
  replace h := h S7 q6_.1 y7_ y8_
  replace f := f.tr (q6_.2.mo (by decide) (by decide))
  exact ⟨h, f⟩
set_option maxRecDepth 100000 in
theorem fr_X0_putAll_J58 {S0 : MS} {Q : MS → Prop} {U58 : MS} {v58_0 : Nat} {v58_1 : Nat} (f : cfr [101] [(40, 0), (40, 1)] S0 U58) (h : w_X0_putAll_J58 Q U58 v58_0 v58_1) : w_X0_putAll_J58 (fun u => Q u ∧ cfr [101] [(40, 0), (40, 1)] S0 u) U58 v58_0 v58_1 := by
  unfold w_X0_putAll_J58 at h ⊢
  intro y1_ y2_ y3_
  replace h := h y1_ y2_ y3_
  refine ⟨h.1, ?_⟩
  replace h := h.2
  refine ⟨h.1, ?_⟩
  replace h := h.2
  refine ⟨h.1, ?_⟩
  replace h := h.2
  intro S14 eS14 y4_ y5_
  replace h := h S14 eS14 y4_ y5_
  replace f := f.tr (show cfr [101] [(40, 0), (40, 1)] U58 S14 by rw [eS14]; exact cfr.aC y4_ (by decide))
  intro S16 eS16 y6_ y7_
  replace h := h S16 eS16 y6_ y7_
  replace f := f.tr (show cfr [101] [(40, 0), (40, 1)] S14 S16 by rw [eS16]; exact cfr.oI y6_ (by decide))
  exact ⟨h, f⟩
set_option maxRecDepth 100000 in
theorem fr_X0_putAll_J37 {S0 : MS} {Q : MS → Prop} {U37 : MS} {v37_0 : Nat} {v37_1 : Nat} {v37_2 : Int32} (f : cfr [101] [(40, 0), (40, 1)] S0 U37) (h : w_X0_putAll_J37 Q U37 v37_0 v37_1 v37_2) : w_X0_putAll_J37 (fun u => Q u ∧ cfr [101] [(40, 0), (40, 1)] S0 u) U37 v37_0 v37_1 v37_2 := by
  unfold w_X0_putAll_J37 at h ⊢
  intro y8_ y9_ y10_
  replace h := h y8_ y9_ y10_
  refine ⟨h.1, ?_⟩
  replace h := h.2
  refine ⟨fun c => ?_, fun c => ?_⟩
  · replace h := h.1 c
    exact fr_X0_putAll_J58 f h
  · replace h := h.2 c
    refine ⟨h.1, ?_⟩
    replace h := h.2
    intro y11_
    replace h := h y11_
    obtain ⟨Q9, h0, h⟩ := h
    refine ⟨_, frJ7_copyOf_9075b y8_ h0, ?_⟩
    intro b25 S22 q12_ y13_ y14_ y15_
    replace h := h b25 S22 q12_.1 y13_ y14_ y15_
    replace f := f.tr (q12_.2.mo (by decide) (by decide))
    intro S26 eS26 y16_ y17_
    replace h := h S26 eS26 y16_ y17_
    replace f := f.tr (show cfr [101] [(40, 0), (40, 1)] S22 S26 by rw [eS26]; exact cfr.oR y16_ (by decide))
    exact fr_X0_putAll_J58 f h
set_option maxRecDepth 100000 in
theorem fr_X0_putAll_L8 {S0 : MS} {Q : MS → Prop} : ∀ (n : Nat) {U8 : MS} {v8_0 : Nat} {v8_1 : Nat} {v8_2 : Int32} {v8_3 : Int32}, cfr [101] [(40, 0), (40, 1)] S0 U8 → w_X0_putAll_L8 Q n U8 v8_0 v8_1 v8_2 v8_3 → w_X0_putAll_L8 (fun u => Q u ∧ cfr [101] [(40, 0), (40, 1)] S0 u) n U8 v8_0 v8_1 v8_2 v8_3 := by
  intro n
  induction n with
  | zero => intro U8 v8_0 v8_1 v8_2 v8_3 f h; unfold w_X0_putAll_L8 at h; exact h.elim
  | succ n ih =>
    intro U8 v8_0 v8_1 v8_2 v8_3 f h
    unfold w_X0_putAll_L8 at h ⊢
    intro y18_ y19_ y20_
    replace h := h y18_ y19_ y20_
    refine ⟨fun c => ?_, fun c => ?_⟩
    · replace h := h.1 c
      exact fr_X0_putAll_J37 f h
    · replace h := h.2 c
      refine ⟨fun c => ?_, fun c => ?_⟩
      · replace h := h.1 c
        exact fr_X0_putAll_J37 f h
      · replace h := h.2 c
        intro a30 ea30 
        replace h := h a30 ea30 
        intro a31 ea31 
        replace h := h a31 ea31 
        exact ih f h
set_option maxRecDepth 100000 in
theorem frX0_putAll {S : MS} {p0 : Nat} {p1 : Nat} {Q : MS → Prop} (hw : wfC S) (h : wX0_putAll S p0 p1 Q) : wX0_putAll S p0 p1 (fun u => Q u ∧ cfr [101] [(40, 0), (40, 1)] S u) := by
  have f : cfr [101] [(40, 0), (40, 1)] S S := cfr.rf
  unfold wX0_putAll at h ⊢
  refine ⟨h.1, ?_⟩
  replace h := h.2
  intro a4 ea4 
  replace h := h a4 ea4 
  obtain ⟨n9, h⟩ := h
  exact ⟨n9, fr_X0_putAll_L8 n9 f h⟩
set_option maxRecDepth 100000 in
theorem fr_X1_makeRoom_L39 {S0 : MS} {Q : MS → Prop} : ∀ (n : Nat) {U39 : MS} {v39_2 : Int32}, cfr [301, 302] [(41, 1), (41, 2), (41, 3)] S0 U39 → w_X1_makeRoom_L39 Q n U39 v39_2 → w_X1_makeRoom_L39 (fun u => Q u ∧ cfr [301, 302] [(41, 1), (41, 2), (41, 3)] S0 u) n U39 v39_2 := by
  intro n
  induction n with
  | zero => intro U39 v39_2 f h; unfold w_X1_makeRoom_L39 at h; exact h.elim
  | succ n ih =>
    intro U39 v39_2 f h
    unfold w_X1_makeRoom_L39 at h ⊢
    intro y1_
    replace h := h y1_
    refine ⟨fun c => ?_, fun c => ?_⟩
    · replace h := h.1 c
      exact ⟨h, f⟩
    · replace h := h.2 c
      refine ⟨h.1, ?_⟩
      replace h := h.2
      intro S8 eS8 y2_ y3_
      replace h := h S8 eS8 y2_ y3_
      replace f := f.tr (show cfr [301, 302] [(41, 1), (41, 2), (41, 3)] U39 S8 by rw [eS8]; exact cfr.aI y2_ (by decide))
      refine ⟨h.1, ?_⟩
      replace h := h.2
      intro S11 eS11 y4_ y5_
      replace h := h S11 eS11 y4_ y5_
      replace f := f.tr (show cfr [301, 302] [(41, 1), (41, 2), (41, 3)] S8 S11 by rw [eS11]; exact cfr.aI y4_ (by decide))
      intro a12 ea12 
      replace h := h a12 ea12 
      exact ih f h
set_option maxRecDepth 100000 in
theorem fr_X1_makeRoom_J37 {S0 : MS} {Q : MS → Prop} {U37 : MS} (f : cfr [301, 302] [(41, 1), (41, 2), (41, 3)] S0 U37) (h : w_X1_makeRoom_J37 Q U37) : w_X1_makeRoom_J37 (fun u => Q u ∧ cfr [301, 302] [(41, 1), (41, 2), (41, 3)] S0 u) U37 := by
  unfold w_X1_makeRoom_J37 at h ⊢
  intro y6_
  replace h := h y6_
  obtain ⟨n9, h⟩ := h
  exact ⟨n9, fr_X1_makeRoom_L39 n9 f h⟩
set_option maxRecDepth 100000 in
theorem frX1_makeRoom {S : MS} {x1 : Int32} {Q : MS → Prop} (hw : wfC S) (h : wX1_makeRoom S x1 Q) : wX1_makeRoom S x1 (fun u => Q u ∧ cfr [301, 302] [(41, 1), (41, 2), (41, 3)] S u) := by
  have f : cfr [301, 302] [(41, 1), (41, 2), (41, 3)] S S := cfr.rf
  unfold wX1_makeRoom at h ⊢
  refine ⟨fun c => ?_, fun c => ?_⟩
  · replace h := h.1 c
    exact fr_X1_makeRoom_J37 f h
  · replace h := h.2 c
    refine ⟨h.1, ?_⟩
    replace h := h.2
    intro S18 eS18 y7_
    replace h := h S18 eS18 y7_
    replace f := f.tr (show cfr [301, 302] [(41, 1), (41, 2), (41, 3)] S S18 by rw [eS18]; exact cfr.new hw (eS18 ▸ y7_))
    intro S20 eS20 y8_ y9_
    replace h := h S20 eS20 y8_ y9_
    replace f := f.tr (show cfr [301, 302] [(41, 1), (41, 2), (41, 3)] S18 S20 by rw [eS20]; exact cfr.oR y8_ (by decide))
    refine ⟨h.1, ?_⟩
    replace h := h.2
    intro S25 eS25 y10_
    replace h := h S25 eS25 y10_
    replace f := f.tr (show cfr [301, 302] [(41, 1), (41, 2), (41, 3)] S20 S25 by rw [eS25]; exact cfr.new y9_ (eS25 ▸ y10_))
    intro S27 eS27 y11_ y12_
    replace h := h S27 eS27 y11_ y12_
    replace f := f.tr (show cfr [301, 302] [(41, 1), (41, 2), (41, 3)] S25 S27 by rw [eS27]; exact cfr.oR y11_ (by decide))
    refine ⟨h.1, ?_⟩
    replace h := h.2
    intro S32 eS32 y13_
    replace h := h S32 eS32 y13_
    replace f := f.tr (show cfr [301, 302] [(41, 1), (41, 2), (41, 3)] S27 S32 by rw [eS32]; exact cfr.new y12_ (eS32 ▸ y13_))
    intro S34 eS34 y14_ y15_
    replace h := h S34 eS34 y14_ y15_
    replace f := f.tr (show cfr [301, 302] [(41, 1), (41, 2), (41, 3)] S32 S34 by rw [eS34]; exact cfr.oR y14_ (by decide))
    exact fr_X1_makeRoom_J37 f h
set_option maxRecDepth 100000 in
theorem frX1_setPlace {S : MS} {x1 : Int32} {x2 : Int32} {Q : MS → Prop} (hw : wfC S) (h : wX1_setPlace S x1 x2 Q) : wX1_setPlace S x1 x2 (fun u => Q u ∧ cfr [103] [] S u) := by
  have f : cfr [103] [] S S := cfr.rf
  unfold wX1_setPlace at h ⊢
  refine ⟨fun c => ?_, fun c => ?_⟩
  · replace h := h.1 c
    exact ⟨h, f⟩
  · replace h := h.2 c
    refine ⟨fun c => ?_, fun c => ?_⟩
    · replace h := h.1 c
      exact ⟨h, f⟩
    · replace h := h.2 c
      refine ⟨h.1, ?_⟩
      replace h := h.2
      intro S4 eS4 y1_ y2_
      replace h := h S4 eS4 y1_ y2_
      replace f := f.tr (show cfr [103] [] S S4 by rw [eS4]; exact cfr.aI y1_ (by decide))
      exact ⟨h, f⟩
set_option maxRecDepth 100000 in
theorem frX1_pop {S : MS} {Q : Int32 → MS → Prop} (hw : wfC S) (h : wX1_pop S Q) : wX1_pop S (fun r u => Q r u ∧ cfr [] [(41, 5)] S u) := by
  have f : cfr [] [(41, 5)] S S := cfr.rf
  unfold wX1_pop at h ⊢
  refine ⟨fun c => ?_, fun c => ?_⟩
  · replace h := h.1 c
    exact ⟨h, f⟩
  · replace h := h.2 c
    refine ⟨fun c => ?_, fun c => ?_⟩
    · replace h := h.1 c
      intro S4 eS4 y1_ y2_
      replace h := h S4 eS4 y1_ y2_
      replace f := f.tr (show cfr [] [(41, 5)] S S4 by rw [eS4]; exact cfr.oI y1_ (by decide))
      refine ⟨h.1, ?_⟩
      replace h := h.2
      exact ⟨h, f⟩
    · replace h := h.2 c
      exact ⟨h, f⟩
set_option maxRecDepth 100000 in
theorem frX1_push {S : MS} {x1 : Int32} {Q : MS → Prop} (hw : wfC S) (h : wX1_push S x1 Q) : wX1_push S x1 (fun u => Q u ∧ cfr [103] [(41, 5)] S u) := by
  have f : cfr [103] [(41, 5)] S S := cfr.rf
  unfold wX1_push at h ⊢
  refine ⟨fun c => ?_, fun c => ?_⟩
  · replace h := h.1 c
    exact ⟨h, f⟩
  · replace h := h.2 c
    refine ⟨fun c => ?_, fun c => ?_⟩
    · replace h := h.1 c
      exact ⟨h, f⟩
    · replace h := h.2 c
      refine ⟨h.1, ?_⟩
      replace h := h.2
      intro S5 eS5 y1_ y2_
      replace h := h S5 eS5 y1_ y2_
      replace f := f.tr (show cfr [103] [(41, 5)] S S5 by rw [eS5]; exact cfr.aI y1_ (by decide))
      intro S7 eS7 y3_ y4_
      replace h := h S7 eS7 y3_ y4_
      replace f := f.tr (show cfr [103] [(41, 5)] S5 S7 by rw [eS7]; exact cfr.oI y3_ (by decide))
      exact ⟨h, f⟩
set_option maxRecDepth 100000 in
theorem fr_X1_take_J55 {S0 : MS} {Q : Int32 → MS → Prop} {U55 : MS} {t55_0 : Int32} {t55_1 : Int32} {v55_2 : Int32} (f : cfr [] [(41, 5), (41, 6)] S0 U55) (h : w_X1_take_J55 Q U55 t55_0 t55_1 v55_2) : w_X1_take_J55 (fun r u => Q r u ∧ cfr [] [(41, 5), (41, 6)] S0 u) U55 t55_0 t55_1 v55_2 := by
  unfold w_X1_take_J55 at h ⊢
  intro y1_ y2_
  replace h := h y1_ y2_
  refine ⟨h.1, ?_⟩
  replace h := h.2
  intro S8 eS8 y3_ y4_
  replace h := h S8 eS8 y3_ y4_
  replace f := f.tr (show cfr [] [(41, 5), (41, 6)] U55 S8 by rw [eS8]; exact cfr.oI y3_ (by decide))
  exact ⟨h, f⟩
set_option maxRecDepth 100000 in
theorem fr_X1_take_J90 {S0 : MS} {Q : Int32 → MS → Prop} {U90 : MS} {t90_0 : Int32} {t90_1 : Int32} {t90_2 : Int32} {v90_2 : Int32} (f : cfr [] [(41, 5), (41, 6)] S0 U90) (h : w_X1_take_J90 Q U90 t90_0 t90_1 t90_2 v90_2) : w_X1_take_J90 (fun r u => Q r u ∧ cfr [] [(41, 5), (41, 6)] S0 u) U90 t90_0 t90_1 t90_2 v90_2 := by
  unfold w_X1_take_J90 at h ⊢
  intro y5_ y6_
  replace h := h y5_ y6_
  refine ⟨h.1, ?_⟩
  replace h := h.2
  intro S18 eS18 y7_ y8_
  replace h := h S18 eS18 y7_ y8_
  replace f := f.tr (show cfr [] [(41, 5), (41, 6)] U90 S18 by rw [eS18]; exact cfr.oI y7_ (by decide))
  exact ⟨h, f⟩
set_option maxRecDepth 100000 in
theorem fr_X1_take_J77 {S0 : MS} {Q : Int32 → MS → Prop} {U77 : MS} {t77_0 : Int32} {t77_1 : Int32} {v77_2 : Int32} (f : cfr [] [(41, 5), (41, 6)] S0 U77) (h : w_X1_take_J77 Q U77 t77_0 t77_1 v77_2) : w_X1_take_J77 (fun r u => Q r u ∧ cfr [] [(41, 5), (41, 6)] S0 u) U77 t77_0 t77_1 v77_2 := by
  unfold w_X1_take_J77 at h ⊢
  intro y9_ y10_
  replace h := h y9_ y10_
  obtain ⟨Q9, h0, h⟩ := h
  refine ⟨_, frX1_pop y9_ h0, ?_⟩
  intro r12 S13 q11_ y12_ y13_
  replace h := h r12 S13 q11_.1 y12_ y13_
  replace f := f.tr (q11_.2.mo (by decide) (by decide))
  refine ⟨fun c => ?_, fun c => ?_⟩
  · replace h := h.1 c
    exact fr_X1_take_J90 f h
  · replace h := h.2 c
    exact fr_X1_take_J90 f h
set_option maxRecDepth 100000 in
theorem fr_X1_take_J119 {S0 : MS} {Q : Int32 → MS → Prop} {U119 : MS} {t119_0 : Int32} {t119_1 : Int32} {v119_2 : Int32} (f : cfr [] [(41, 5), (41, 6)] S0 U119) (h : w_X1_take_J119 Q U119 t119_0 t119_1 v119_2) : w_X1_take_J119 (fun r u => Q r u ∧ cfr [] [(41, 5), (41, 6)] S0 u) U119 t119_0 t119_1 v119_2 := by
  unfold w_X1_take_J119 at h ⊢
  intro y14_ y15_
  replace h := h y14_ y15_
  refine ⟨h.1, ?_⟩
  replace h := h.2
  intro S24 eS24 y16_ y17_
  replace h := h S24 eS24 y16_ y17_
  replace f := f.tr (show cfr [] [(41, 5), (41, 6)] U119 S24 by rw [eS24]; exact cfr.oI y16_ (by decide))
  exact ⟨h, f⟩
set_option maxRecDepth 100000 in
theorem fr_X1_take_J118 {S0 : MS} {Q : Int32 → MS → Prop} {U118 : MS} {t118_0 : Int32} {v118_2 : Int32} (f : cfr [] [(41, 5), (41, 6)] S0 U118) (h : w_X1_take_J118 Q U118 t118_0 v118_2) : w_X1_take_J118 (fun r u => Q r u ∧ cfr [] [(41, 5), (41, 6)] S0 u) U118 t118_0 v118_2 := by
  unfold w_X1_take_J118 at h ⊢
  intro y18_
  replace h := h y18_
  exact fr_X1_take_J119 f h
set_option maxRecDepth 100000 in
theorem fr_X1_take_J171 {S0 : MS} {Q : Int32 → MS → Prop} {U171 : MS} {t171_0 : Int32} {t171_1 : Int32} {v171_2 : Int32} (f : cfr [] [(41, 5), (41, 6)] S0 U171) (h : w_X1_take_J171 Q U171 t171_0 t171_1 v171_2) : w_X1_take_J171 (fun r u => Q r u ∧ cfr [] [(41, 5), (41, 6)] S0 u) U171 t171_0 t171_1 v171_2 := by
  unfold w_X1_take_J171 at h ⊢
  intro y19_ y20_
  replace h := h y19_ y20_
  refine ⟨h.1, ?_⟩
  replace h := h.2
  intro S33 eS33 y21_ y22_
  replace h := h S33 eS33 y21_ y22_
  replace f := f.tr (show cfr [] [(41, 5), (41, 6)] U171 S33 by rw [eS33]; exact cfr.oI y21_ (by decide))
  exact ⟨h, f⟩
set_option maxRecDepth 100000 in
theorem fr_X1_take_J147 {S0 : MS} {Q : Int32 → MS → Prop} {U147 : MS} {t147_0 : Int32} {t147_1 : Int32} {v147_2 : Int32} (f : cfr [] [(41, 5), (41, 6)] S0 U147) (h : w_X1_take_J147 Q U147 t147_0 t147_1 v147_2) : w_X1_take_J147 (fun r u => Q r u ∧ cfr [] [(41, 5), (41, 6)] S0 u) U147 t147_0 t147_1 v147_2 := by
  unfold w_X1_take_J147 at h ⊢
  intro y23_ y24_
  replace h := h y23_ y24_
  refine ⟨h.1, ?_⟩
  replace h := h.2
  intro S38 eS38 y25_ y26_
  replace h := h S38 eS38 y25_ y26_
  replace f := f.tr (show cfr [] [(41, 5), (41, 6)] U147 S38 by rw [eS38]; exact cfr.oI y25_ (by decide))
  exact ⟨h, f⟩
set_option maxRecDepth 100000 in
theorem fr_X1_take_J146 {S0 : MS} {Q : Int32 → MS → Prop} {U146 : MS} {t146_0 : Int32} {v146_2 : Int32} (f : cfr [] [(41, 5), (41, 6)] S0 U146) (h : w_X1_take_J146 Q U146 t146_0 v146_2) : w_X1_take_J146 (fun r u => Q r u ∧ cfr [] [(41, 5), (41, 6)] S0 u) U146 t146_0 v146_2 := by
  unfold w_X1_take_J146 at h ⊢
  intro y27_
  replace h := h y27_
  exact fr_X1_take_J147 f h
set_option maxRecDepth 100000 in
theorem fr_X1_take_J195 {S0 : MS} {Q : Int32 → MS → Prop} {U195 : MS} {t195_0 : Int32} {t195_1 : Int32} {v195_2 : Int32} (f : cfr [] [(41, 5), (41, 6)] S0 U195) (h : w_X1_take_J195 Q U195 t195_0 t195_1 v195_2) : w_X1_take_J195 (fun r u => Q r u ∧ cfr [] [(41, 5), (41, 6)] S0 u) U195 t195_0 t195_1 v195_2 := by
  unfold w_X1_take_J195 at h ⊢
  intro y28_ y29_
  replace h := h y28_ y29_
  refine ⟨h.1, ?_⟩
  replace h := h.2
  intro S47 eS47 y30_ y31_
  replace h := h S47 eS47 y30_ y31_
  replace f := f.tr (show cfr [] [(41, 5), (41, 6)] U195 S47 by rw [eS47]; exact cfr.oI y30_ (by decide))
  exact ⟨h, f⟩
set_option maxRecDepth 100000 in
theorem frX1_take {S : MS} {x1 : Int32} {Q : Int32 → MS → Prop} (hw : wfC S) (h : wX1_take S x1 Q) : wX1_take S x1 (fun r u => Q r u ∧ cfr [] [(41, 5), (41, 6)] S u) := by
  have f : cfr [] [(41, 5), (41, 6)] S S := cfr.rf
  unfold wX1_take at h ⊢
  obtain ⟨Q9, h0, h⟩ := h
  refine ⟨_, frX1_pop hw h0, ?_⟩
  intro r2 S3 q32_ y33_ y34_
  replace h := h r2 S3 q32_.1 y33_ y34_
  replace f := f.tr (q32_.2.mo (by decide) (by decide))
  refine ⟨fun c => ?_, fun c => ?_⟩
  · replace h := h.1 c
    refine ⟨fun c => ?_, fun c => ?_⟩
    · replace h := h.1 c
      exact fr_X1_take_J55 f h
    · replace h := h.2 c
      exact fr_X1_take_J55 f h
  · replace h := h.2 c
    refine ⟨fun c => ?_, fun c => ?_⟩
    · replace h := h.1 c
      refine ⟨fun c => ?_, fun c => ?_⟩
      · replace h := h.1 c
        exact fr_X1_take_J77 f h
      · replace h := h.2 c
        exact fr_X1_take_J77 f h
    · replace h := h.2 c
      refine ⟨fun c => ?_, fun c => ?_⟩
      · replace h := h.1 c
        refine ⟨fun c => ?_, fun c => ?_⟩
        · replace h := h.1 c
          exact fr_X1_take_J118 f h
        · replace h := h.2 c
          refine ⟨fun c => ?_, fun c => ?_⟩
          · replace h := h.1 c
            exact fr_X1_take_J118 f h
          · replace h := h.2 c
            exact fr_X1_take_J119 f h
      · replace h := h.2 c
        refine ⟨fun c => ?_, fun c => ?_⟩
        · replace h := h.1 c
          refine ⟨h.1, ?_⟩
          replace h := h.2
          refine ⟨fun c => ?_, fun c => ?_⟩
          · replace h := h.1 c
            exact fr_X1_take_J171 f h
          · replace h := h.2 c
            exact fr_X1_take_J171 f h
        · replace h := h.2 c
          refine ⟨fun c => ?_, fun c => ?_⟩
          · replace h := h.1 c
            refine ⟨fun c => ?_, fun c => ?_⟩
            · replace h := h.1 c
              exact fr_X1_take_J146 f h
            · replace h := h.2 c
              refine ⟨fun c => ?_, fun c => ?_⟩
              · replace h := h.1 c
                exact fr_X1_take_J146 f h
              · replace h := h.2 c
                exact fr_X1_take_J147 f h
          · replace h := h.2 c
            refine ⟨h.1, ?_⟩
            replace h := h.2
            refine ⟨fun c => ?_, fun c => ?_⟩
            · replace h := h.1 c
              exact fr_X1_take_J195 f h
            · replace h := h.2 c
              exact fr_X1_take_J195 f h
set_option maxRecDepth 100000 in
theorem fr_X1_give_J12 {S0 : MS} {Q : MS → Prop} {U12 : MS} {v12_1 : Int32} (f : cfr [103] [(41, 5)] S0 U12) (h : w_X1_give_J12 Q U12 v12_1) : w_X1_give_J12 (fun u => Q u ∧ cfr [103] [(41, 5)] S0 u) U12 v12_1 := by
  unfold w_X1_give_J12 at h ⊢
  intro y1_
  replace h := h y1_
  refine ⟨fun c => ?_, fun c => ?_⟩
  · replace h := h.1 c
    obtain ⟨Q9, h0, h⟩ := h
    refine ⟨_, frX1_push y1_ h0, ?_⟩
    intro S3 q2_ y3_ y4_
    replace h := h S3 q2_.1 y3_ y4_
    replace f := f.tr (q2_.2.mo (by decide) (by decide))
    exact ⟨h, f⟩
  · replace h := h.2 c
    exact ⟨h, f⟩
set_option maxRecDepth 100000 in
theorem frX1_give {S : MS} {x1 : Int32} {Q : MS → Prop} (hw : wfC S) (h : wX1_give S x1 Q) : wX1_give S x1 (fun u => Q u ∧ cfr [103] [(41, 5)] S u) := by
  have f : cfr [103] [(41, 5)] S S := cfr.rf
  unfold wX1_give at h ⊢
  refine ⟨fun c => ?_, fun c => ?_⟩
  · replace h := h.1 c
    exact fr_X1_give_J12 f h
  · replace h := h.2 c
    refine ⟨h.1, ?_⟩
    replace h := h.2
    intro a9 ea9 
    replace h := h a9 ea9 
    obtain ⟨Q9, h0, h⟩ := h
    refine ⟨_, frX1_push hw h0, ?_⟩
    intro S11 q5_ y6_ y7_
    replace h := h S11 q5_.1 y6_ y7_
    replace f := f.tr (q5_.2.mo (by decide) (by decide))
    exact fr_X1_give_J12 f h
set_option maxRecDepth 100000 in
theorem frX1_takeCopy {S : MS} {Q : Int32 → MS → Prop} (hw : wfC S) (h : wX1_takeCopy S Q) : wX1_takeCopy S (fun r u => Q r u ∧ cfr [] [(41, 5), (41, 6)] S u) := by
  have f : cfr [] [(41, 5), (41, 6)] S S := cfr.rf
  unfold wX1_takeCopy at h ⊢
  obtain ⟨Q9, h0, h⟩ := h
  refine ⟨_, frX1_take hw h0, ?_⟩
  intro r2 S3 q1_ y2_ y3_
  replace h := h r2 S3 q1_.1 y2_ y3_
  replace f := f.tr (q1_.2.mo (by decide) (by decide))
  refine ⟨h.1, ?_⟩
  replace h := h.2
  refine ⟨fun c => ?_, fun c => ?_⟩
  · replace h := h.1 c
    exact ⟨h, f⟩
  · replace h := h.2 c
    exact ⟨h, f⟩
set_option maxRecDepth 100000 in
theorem fr_X1_shuffle_J65 {S0 : MS} {Q : MS → Prop} {U65 : MS} {t65_0 : Int32} {v65_1 : Int32} {v65_2 : Int32} (f : cfr [103] [(41, 5), (41, 6)] S0 U65) (h : w_X1_shuffle_J65 Q U65 t65_0 v65_1 v65_2) : w_X1_shuffle_J65 (fun u => Q u ∧ cfr [103] [(41, 5), (41, 6)] S0 u) U65 t65_0 v65_1 v65_2 := by
  unfold w_X1_shuffle_J65 at h ⊢
  intro y1_
  replace h := h y1_
  refine ⟨fun c => ?_, fun c => ?_⟩
  · replace h := h.1 c
    obtain ⟨Q9, h0, h⟩ := h
    refine ⟨_, frX1_push y1_ h0, ?_⟩
    intro S6 q2_ y3_ y4_
    replace h := h S6 q2_.1 y3_ y4_
    replace f := f.tr (q2_.2.mo (by decide) (by decide))
    obtain ⟨Q9, h0, h⟩ := h
    refine ⟨_, frX1_push y3_ h0, ?_⟩
    intro S9 q5_ y6_ y7_
    replace h := h S9 q5_.1 y6_ y7_
    replace f := f.tr (q5_.2.mo (by decide) (by decide))
    exact ⟨h, f⟩
  · replace h := h.2 c
    refine ⟨fun c => ?_, fun c => ?_⟩
    · replace h := h.1 c
      obtain ⟨Q9, h0, h⟩ := h
      refine ⟨_, frX1_push y1_ h0, ?_⟩
      intro S12 q8_ y9_ y10_
      replace h := h S12 q8_.1 y9_ y10_
      replace f := f.tr (q8_.2.mo (by decide) (by decide))
      obtain ⟨Q9, h0, h⟩ := h
      refine ⟨_, frX1_push y9_ h0, ?_⟩
      intro S15 q11_ y12_ y13_
      replace h := h S15 q11_.1 y12_ y13_
      replace f := f.tr (q11_.2.mo (by decide) (by decide))
      obtain ⟨Q9, h0, h⟩ := h
      refine ⟨_, frX1_push y12_ h0, ?_⟩
      intro S18 q14_ y15_ y16_
      replace h := h S18 q14_.1 y15_ y16_
      replace f := f.tr (q14_.2.mo (by decide) (by decide))
      exact ⟨h, f⟩
    · replace h := h.2 c
      refine ⟨fun c => ?_, fun c => ?_⟩
      · replace h := h.1 c
        exact ⟨h, f⟩
      · replace h := h.2 c
        refine ⟨fun c => ?_, fun c => ?_⟩
        · replace h := h.1 c
          obtain ⟨Q9, h0, h⟩ := h
          refine ⟨_, frX1_push y1_ h0, ?_⟩
          intro S21 q17_ y18_ y19_
          replace h := h S21 q17_.1 y18_ y19_
          replace f := f.tr (q17_.2.mo (by decide) (by decide))
          obtain ⟨Q9, h0, h⟩ := h
          refine ⟨_, frX1_push y18_ h0, ?_⟩
          intro S24 q20_ y21_ y22_
          replace h := h S24 q20_.1 y21_ y22_
          replace f := f.tr (q20_.2.mo (by decide) (by decide))
          obtain ⟨Q9, h0, h⟩ := h
          refine ⟨_, frX1_push y21_ h0, ?_⟩
          intro S27 q23_ y24_ y25_
          replace h := h S27 q23_.1 y24_ y25_
          replace f := f.tr (q23_.2.mo (by decide) (by decide))
          obtain ⟨Q9, h0, h⟩ := h
          refine ⟨_, frX1_push y24_ h0, ?_⟩
          intro S30 q26_ y27_ y28_
          replace h := h S30 q26_.1 y27_ y28_
          replace f := f.tr (q26_.2.mo (by decide) (by decide))
          exact ⟨h, f⟩
        · replace h := h.2 c
          refine ⟨fun c => ?_, fun c => ?_⟩
          · replace h := h.1 c
            exact ⟨h, f⟩
          · replace h := h.2 c
            refine ⟨fun c => ?_, fun c => ?_⟩
            · replace h := h.1 c
              exact ⟨h, f⟩
            · replace h := h.2 c
              refine ⟨fun c => ?_, fun c => ?_⟩
              · replace h := h.1 c
                obtain ⟨Q9, h0, h⟩ := h
                refine ⟨_, frX1_push y1_ h0, ?_⟩
                intro S33 q29_ y30_ y31_
                replace h := h S33 q29_.1 y30_ y31_
                replace f := f.tr (q29_.2.mo (by decide) (by decide))
                obtain ⟨Q9, h0, h⟩ := h
                refine ⟨_, frX1_push y30_ h0, ?_⟩
                intro S36 q32_ y33_ y34_
                replace h := h S36 q32_.1 y33_ y34_
                replace f := f.tr (q32_.2.mo (by decide) (by decide))
                exact ⟨h, f⟩
              · replace h := h.2 c
                exact ⟨h, f⟩
set_option maxRecDepth 100000 in
theorem fr_X1_shuffle_J57 {S0 : MS} {Q : MS → Prop} {U57 : MS} {v57_1 : Int32} {v57_2 : Int32} (f : cfr [103] [(41, 5), (41, 6)] S0 U57) (h : w_X1_shuffle_J57 Q U57 v57_1 v57_2) : w_X1_shuffle_J57 (fun u => Q u ∧ cfr [103] [(41, 5), (41, 6)] S0 u) U57 v57_1 v57_2 := by
  unfold w_X1_shuffle_J57 at h ⊢
  intro y35_
  replace h := h y35_
  exact fr_X1_shuffle_J65 f h
set_option maxRecDepth 100000 in
theorem fr_X1_shuffle_J40 {S0 : MS} {Q : MS → Prop} {U40 : MS} {v40_1 : Int32} (f : cfr [103] [(41, 5), (41, 6)] S0 U40) (h : w_X1_shuffle_J40 Q U40 v40_1) : w_X1_shuffle_J40 (fun u => Q u ∧ cfr [103] [(41, 5), (41, 6)] S0 u) U40 v40_1 := by
  unfold w_X1_shuffle_J40 at h ⊢
  intro y36_
  replace h := h y36_
  obtain ⟨Q9, h0, h⟩ := h
  refine ⟨_, frX1_takeCopy y36_ h0, ?_⟩
  intro r2 S3 q37_ y38_ y39_
  replace h := h r2 S3 q37_.1 y38_ y39_
  replace f := f.tr (q37_.2.mo (by decide) (by decide))
  refine ⟨fun c => ?_, fun c => ?_⟩
  · replace h := h.1 c
    exact fr_X1_shuffle_J57 f h
  · replace h := h.2 c
    refine ⟨fun c => ?_, fun c => ?_⟩
    · replace h := h.1 c
      exact fr_X1_shuffle_J57 f h
    · replace h := h.2 c
      obtain ⟨Q9, h0, h⟩ := h
      refine ⟨_, frX1_takeCopy y38_ h0, ?_⟩
      intro r41 S42 q40_ y41_ y42_
      replace h := h r41 S42 q40_.1 y41_ y42_
      replace f := f.tr (q40_.2.mo (by decide) (by decide))
      exact fr_X1_shuffle_J65 f h
set_option maxRecDepth 100000 in
theorem fr_X1_shuffle_J12 {S0 : MS} {Q : MS → Prop} {U12 : MS} {v12_1 : Int32} (f : cfr [103] [(41, 5), (41, 6)] S0 U12) (h : w_X1_shuffle_J12 Q U12 v12_1) : w_X1_shuffle_J12 (fun u => Q u ∧ cfr [103] [(41, 5), (41, 6)] S0 u) U12 v12_1 := by
  unfold w_X1_shuffle_J12 at h ⊢
  intro y43_
  replace h := h y43_
  refine ⟨h.1, ?_⟩
  replace h := h.2
  refine ⟨fun c => ?_, fun c => ?_⟩
  · replace h := h.1 c
    exact fr_X1_shuffle_J40 f h
  · replace h := h.2 c
    refine ⟨fun c => ?_, fun c => ?_⟩
    · replace h := h.1 c
      obtain ⟨Q9, h0, h⟩ := h
      refine ⟨_, frX1_take y43_ h0, ?_⟩
      intro r53 S54 q44_ y45_ y46_
      replace h := h r53 S54 q44_.1 y45_ y46_
      replace f := f.tr (q44_.2.mo (by decide) (by decide))
      exact ⟨h, f⟩
    · replace h := h.2 c
      obtain ⟨Q9, h0, h⟩ := h
      refine ⟨_, frX1_give y43_ h0, ?_⟩
      intro S50 q47_ y48_ y49_
      replace h := h S50 q47_.1 y48_ y49_
      replace f := f.tr (q47_.2.mo (by decide) (by decide))
      exact ⟨h, f⟩
set_option maxRecDepth 100000 in
theorem frX1_shuffle {S : MS} {x1 : Int32} {Q : MS → Prop} (hw : wfC S) (h : wX1_shuffle S x1 Q) : wX1_shuffle S x1 (fun u => Q u ∧ cfr [103] [(41, 5), (41, 6)] S u) := by
  have f : cfr [103] [(41, 5), (41, 6)] S S := cfr.rf
  unfold wX1_shuffle at h ⊢
  refine ⟨fun c => ?_, fun c => ?_⟩
  · replace h := h.1 c
    exact fr_X1_shuffle_J12 f h
  · replace h := h.2 c
    refine ⟨fun c => ?_, fun c => ?_⟩
    · replace h := h.1 c
      exact fr_X1_shuffle_J12 f h
    · replace h := h.2 c
      exact fr_X1_shuffle_J40 f h
set_option maxRecDepth 100000 in
theorem frX2_set {S : MS} {x1 : Int32} {y2 : Int64} {Q : MS → Prop} (hw : wfC S) (h : wX2_set S x1 y2 Q) : wX2_set S x1 y2 (fun u => Q u ∧ cfr [] [(42, 9), (42, 10)] S u) := by
  have f : cfr [] [(42, 9), (42, 10)] S S := cfr.rf
  unfold wX2_set at h ⊢
  intro S1 eS1 y1_ y2_
  replace h := h S1 eS1 y1_ y2_
  replace f := f.tr (show cfr [] [(42, 9), (42, 10)] S S1 by rw [eS1]; exact cfr.oI y1_ (by decide))
  intro S2 eS2 y3_ y4_
  replace h := h S2 eS2 y3_ y4_
  replace f := f.tr (show cfr [] [(42, 9), (42, 10)] S1 S2 by rw [eS2]; exact cfr.oJ y3_ (by decide))
  exact ⟨h, f⟩
set_option maxRecDepth 100000 in
theorem fr_X3_hasEdge_L21 {S0 : MS} {Q : Int32 → MS → Prop} : ∀ (n : Nat) {U21 : MS} {v21_1 : Int32} {v21_2 : Int32} {v21_3 : Int32}, cfr [] [] S0 U21 → w_X3_hasEdge_L21 Q n U21 v21_1 v21_2 v21_3 → w_X3_hasEdge_L21 (fun r u => Q r u ∧ cfr [] [] S0 u) n U21 v21_1 v21_2 v21_3 := by
  intro n
  induction n with
  | zero => intro U21 v21_1 v21_2 v21_3 f h; unfold w_X3_hasEdge_L21 at h; exact h.elim
  | succ n ih =>
    intro U21 v21_1 v21_2 v21_3 f h
    unfold w_X3_hasEdge_L21 at h ⊢
    intro y1_
    replace h := h y1_
    refine ⟨h.1, ?_⟩
    replace h := h.2
    refine ⟨fun c => ?_, fun c => ?_⟩
    · replace h := h.1 c
      exact ⟨h, f⟩
    · replace h := h.2 c
      refine ⟨h.1, ?_⟩
      replace h := h.2
      refine ⟨fun c => ?_, fun c => ?_⟩
      · replace h := h.1 c
        exact ⟨h, f⟩
      · replace h := h.2 c
        intro a16 ea16 
        replace h := h a16 ea16 
        exact ih f h
set_option maxRecDepth 100000 in
theorem frX3_hasEdge {S : MS} {x1 : Int32} {x2 : Int32} {Q : Int32 → MS → Prop} (hw : wfC S) (h : wX3_hasEdge S x1 x2 Q) : wX3_hasEdge S x1 x2 (fun r u => Q r u ∧ cfr [] [] S u) := by
  have f : cfr [] [] S S := cfr.rf
  unfold wX3_hasEdge at h ⊢
  refine ⟨fun c => ?_, fun c => ?_⟩
  · replace h := h.1 c
    exact ⟨h, f⟩
  · replace h := h.2 c
    refine ⟨fun c => ?_, fun c => ?_⟩
    · replace h := h.1 c
      refine ⟨h.1, ?_⟩
      replace h := h.2
      intro a6 ea6 
      replace h := h a6 ea6 
      obtain ⟨n9, h⟩ := h
      exact ⟨n9, fr_X3_hasEdge_L21 n9 f h⟩
    · replace h := h.2 c
      exact ⟨h, f⟩
set_option maxRecDepth 100000 in
theorem fr_X3_reachedCount_J27 {S0 : MS} {Q : Int32 → MS → Prop} {k4 k4' : MS → Int32 → Int32 → Prop} {U27 : MS} {t27_0 : Int32} {t27_1 : Int32} {v27_2 : Int32} (hk4 : ∀ (u : MS) (z0) (z1), cfr [] [] S0 u → k4 u z0 z1 → k4' u z0 z1) (f : cfr [] [] S0 U27) (h : w_X3_reachedCount_J27 Q k4 U27 t27_0 t27_1 v27_2) : w_X3_reachedCount_J27 (fun r u => Q r u ∧ cfr [] [] S0 u) k4' U27 t27_0 t27_1 v27_2 := by
  unfold w_X3_reachedCount_J27 at h ⊢
  intro y1_ y2_
  replace h := h y1_ y2_
  intro a7 ea7 
  replace h := h a7 ea7 
  intro a8 ea8 
  replace h := h a8 ea8 
  exact hk4 _ _ _ f h
set_option maxRecDepth 100000 in
theorem fr_X3_reachedCount_L4 {S0 : MS} {Q : Int32 → MS → Prop} : ∀ (n : Nat) {U4 : MS} {v4_1 : Int32} {v4_2 : Int32}, cfr [] [] S0 U4 → w_X3_reachedCount_L4 Q n U4 v4_1 v4_2 → w_X3_reachedCount_L4 (fun r u => Q r u ∧ cfr [] [] S0 u) n U4 v4_1 v4_2 := by
  intro n
  induction n with
  | zero => intro U4 v4_1 v4_2 f h; unfold w_X3_reachedCount_L4 at h; exact h.elim
  | succ n ih =>
    intro U4 v4_1 v4_2 f h
    unfold w_X3_reachedCount_L4 at h ⊢
    intro y3_
    replace h := h y3_
    refine ⟨fun c => ?_, fun c => ?_⟩
    · replace h := h.1 c
      exact ⟨h, f⟩
    · replace h := h.2 c
      refine ⟨h.1, ?_⟩
      replace h := h.2
      refine ⟨fun c => ?_, fun c => ?_⟩
      · replace h := h.1 c
        exact fr_X3_reachedCount_J27 (fun _ _ _ f h => ih f h) f h
      · replace h := h.2 c
        exact fr_X3_reachedCount_J27 (fun _ _ _ f h => ih f h) f h
set_option maxRecDepth 100000 in
theorem frX3_reachedCount {S : MS} {Q : Int32 → MS → Prop} (hw : wfC S) (h : wX3_reachedCount S Q) : wX3_reachedCount S (fun r u => Q r u ∧ cfr [] [] S u) := by
  have f : cfr [] [] S S := cfr.rf
  unfold wX3_reachedCount at h ⊢
  obtain ⟨n9, h⟩ := h
  exact ⟨n9, fr_X3_reachedCount_L4 n9 f h⟩
set_option maxRecDepth 100000 in
theorem frX3_begin {S : MS} {x1 : Int32} {Q : MS → Prop} (hw : wfC S) (h : wX3_begin S x1 Q) : wX3_begin S x1 (fun u => Q u ∧ cfr [203] [] S u) := by
  have f : cfr [203] [] S S := cfr.rf
  unfold wX3_begin at h ⊢
  refine ⟨fun c => ?_, fun c => ?_⟩
  · replace h := h.1 c
    exact ⟨h, f⟩
  · replace h := h.2 c
    refine ⟨h.1, ?_⟩
    replace h := h.2
    refine ⟨fun c => ?_, fun c => ?_⟩
    · replace h := h.1 c
      exact ⟨h, f⟩
    · replace h := h.2 c
      refine ⟨h.1, ?_⟩
      replace h := h.2
      intro S7 eS7 y1_ y2_
      replace h := h S7 eS7 y1_ y2_
      replace f := f.tr (show cfr [203] [] S S7 by rw [eS7]; exact cfr.aI y1_ (by decide))
      exact ⟨h, f⟩
set_option maxRecDepth 100000 in
theorem fr_X3_makeRoom_J79 {S0 : MS} {Q : MS → Prop} {U79 : MS} (f : cfr [] [(43, 4), (43, 6), (43, 8), (43, 9), (43, 10), (43, 11), (43, 12), (43, 13), (43, 14), (43, 15)] S0 U79) (h : w_X3_makeRoom_J79 Q U79) : w_X3_makeRoom_J79 (fun u => Q u ∧ cfr [] [(43, 4), (43, 6), (43, 8), (43, 9), (43, 10), (43, 11), (43, 12), (43, 13), (43, 14), (43, 15)] S0 u) U79 := by
  unfold w_X3_makeRoom_J79 at h ⊢
  intro y1_
  replace h := h y1_
  intro S5 eS5 y2_ y3_
  replace h := h S5 eS5 y2_ y3_
  replace f := f.tr (show cfr [] [(43, 4), (43, 6), (43, 8), (43, 9), (43, 10), (43, 11), (43, 12), (43, 13), (43, 14), (43, 15)] U79 S5 by rw [eS5]; exact cfr.oI y2_ (by decide))
  refine ⟨fun c => ?_, fun c => ?_⟩
  · replace h := h.1 c
    exact ⟨h, f⟩
  · replace h := h.2 c
    refine ⟨h.1, ?_⟩
    replace h := h.2
    intro S15 eS15 y4_
    replace h := h S15 eS15 y4_
    replace f := f.tr (show cfr [] [(43, 4), (43, 6), (43, 8), (43, 9), (43, 10), (43, 11), (43, 12), (43, 13), (43, 14), (43, 15)] S5 S15 by rw [eS15]; exact cfr.new y3_ (eS15 ▸ y4_))
    intro S17 eS17 y5_ y6_
    replace h := h S17 eS17 y5_ y6_
    replace f := f.tr (show cfr [] [(43, 4), (43, 6), (43, 8), (43, 9), (43, 10), (43, 11), (43, 12), (43, 13), (43, 14), (43, 15)] S15 S17 by rw [eS17]; exact cfr.oR y5_ (by decide))
    exact ⟨h, f⟩
set_option maxRecDepth 100000 in
theorem frX3_makeRoom {S : MS} {Q : MS → Prop} (hw : wfC S) (h : wX3_makeRoom S Q) : wX3_makeRoom S (fun u => Q u ∧ cfr [] [(43, 4), (43, 6), (43, 8), (43, 9), (43, 10), (43, 11), (43, 12), (43, 13), (43, 14), (43, 15)] S u) := by
  have f : cfr [] [(43, 4), (43, 6), (43, 8), (43, 9), (43, 10), (43, 11), (43, 12), (43, 13), (43, 14), (43, 15)] S S := cfr.rf
  unfold wX3_makeRoom at h ⊢
  refine ⟨fun c => ?_, fun c => ?_⟩
  · replace h := h.1 c
    exact fr_X3_makeRoom_J79 f h
  · replace h := h.2 c
    intro a20 ea20 
    replace h := h a20 ea20 
    refine ⟨h.1, ?_⟩
    replace h := h.2
    intro S25 eS25 y7_
    replace h := h S25 eS25 y7_
    replace f := f.tr (show cfr [] [(43, 4), (43, 6), (43, 8), (43, 9), (43, 10), (43, 11), (43, 12), (43, 13), (43, 14), (43, 15)] S S25 by rw [eS25]; exact cfr.new hw (eS25 ▸ y7_))
    intro S27 eS27 y8_ y9_
    replace h := h S27 eS27 y8_ y9_
    replace f := f.tr (show cfr [] [(43, 4), (43, 6), (43, 8), (43, 9), (43, 10), (43, 11), (43, 12), (43, 13), (43, 14), (43, 15)] S25 S27 by rw [eS27]; exact cfr.oR y8_ (by decide))
    refine ⟨h.1, ?_⟩
    replace h := h.2
    intro S32 eS32 y10_
    replace h := h S32 eS32 y10_
    replace f := f.tr (show cfr [] [(43, 4), (43, 6), (43, 8), (43, 9), (43, 10), (43, 11), (43, 12), (43, 13), (43, 14), (43, 15)] S27 S32 by rw [eS32]; exact cfr.new y9_ (eS32 ▸ y10_))
    intro S34 eS34 y11_ y12_
    replace h := h S34 eS34 y11_ y12_
    replace f := f.tr (show cfr [] [(43, 4), (43, 6), (43, 8), (43, 9), (43, 10), (43, 11), (43, 12), (43, 13), (43, 14), (43, 15)] S32 S34 by rw [eS34]; exact cfr.oR y11_ (by decide))
    refine ⟨h.1, ?_⟩
    replace h := h.2
    intro S38 eS38 y13_
    replace h := h S38 eS38 y13_
    replace f := f.tr (show cfr [] [(43, 4), (43, 6), (43, 8), (43, 9), (43, 10), (43, 11), (43, 12), (43, 13), (43, 14), (43, 15)] S34 S38 by rw [eS38]; exact cfr.new y12_ (eS38 ▸ y13_))
    intro S40 eS40 y14_ y15_
    replace h := h S40 eS40 y14_ y15_
    replace f := f.tr (show cfr [] [(43, 4), (43, 6), (43, 8), (43, 9), (43, 10), (43, 11), (43, 12), (43, 13), (43, 14), (43, 15)] S38 S40 by rw [eS40]; exact cfr.oR y14_ (by decide))
    refine ⟨h.1, ?_⟩
    replace h := h.2
    intro S44 eS44 y16_
    replace h := h S44 eS44 y16_
    replace f := f.tr (show cfr [] [(43, 4), (43, 6), (43, 8), (43, 9), (43, 10), (43, 11), (43, 12), (43, 13), (43, 14), (43, 15)] S40 S44 by rw [eS44]; exact cfr.new y15_ (eS44 ▸ y16_))
    intro S46 eS46 y17_ y18_
    replace h := h S46 eS46 y17_ y18_
    replace f := f.tr (show cfr [] [(43, 4), (43, 6), (43, 8), (43, 9), (43, 10), (43, 11), (43, 12), (43, 13), (43, 14), (43, 15)] S44 S46 by rw [eS46]; exact cfr.oR y17_ (by decide))
    refine ⟨h.1, ?_⟩
    replace h := h.2
    intro S50 eS50 y19_
    replace h := h S50 eS50 y19_
    replace f := f.tr (show cfr [] [(43, 4), (43, 6), (43, 8), (43, 9), (43, 10), (43, 11), (43, 12), (43, 13), (43, 14), (43, 15)] S46 S50 by rw [eS50]; exact cfr.new y18_ (eS50 ▸ y19_))
    intro S52 eS52 y20_ y21_
    replace h := h S52 eS52 y20_ y21_
    replace f := f.tr (show cfr [] [(43, 4), (43, 6), (43, 8), (43, 9), (43, 10), (43, 11), (43, 12), (43, 13), (43, 14), (43, 15)] S50 S52 by rw [eS52]; exact cfr.oR y20_ (by decide))
    refine ⟨h.1, ?_⟩
    replace h := h.2
    intro S56 eS56 y22_
    replace h := h S56 eS56 y22_
    replace f := f.tr (show cfr [] [(43, 4), (43, 6), (43, 8), (43, 9), (43, 10), (43, 11), (43, 12), (43, 13), (43, 14), (43, 15)] S52 S56 by rw [eS56]; exact cfr.new y21_ (eS56 ▸ y22_))
    intro S58 eS58 y23_ y24_
    replace h := h S58 eS58 y23_ y24_
    replace f := f.tr (show cfr [] [(43, 4), (43, 6), (43, 8), (43, 9), (43, 10), (43, 11), (43, 12), (43, 13), (43, 14), (43, 15)] S56 S58 by rw [eS58]; exact cfr.oR y23_ (by decide))
    refine ⟨h.1, ?_⟩
    replace h := h.2
    intro S62 eS62 y25_
    replace h := h S62 eS62 y25_
    replace f := f.tr (show cfr [] [(43, 4), (43, 6), (43, 8), (43, 9), (43, 10), (43, 11), (43, 12), (43, 13), (43, 14), (43, 15)] S58 S62 by rw [eS62]; exact cfr.new y24_ (eS62 ▸ y25_))
    intro S64 eS64 y26_ y27_
    replace h := h S64 eS64 y26_ y27_
    replace f := f.tr (show cfr [] [(43, 4), (43, 6), (43, 8), (43, 9), (43, 10), (43, 11), (43, 12), (43, 13), (43, 14), (43, 15)] S62 S64 by rw [eS64]; exact cfr.oR y26_ (by decide))
    refine ⟨h.1, ?_⟩
    replace h := h.2
    intro S68 eS68 y28_
    replace h := h S68 eS68 y28_
    replace f := f.tr (show cfr [] [(43, 4), (43, 6), (43, 8), (43, 9), (43, 10), (43, 11), (43, 12), (43, 13), (43, 14), (43, 15)] S64 S68 by rw [eS68]; exact cfr.new y27_ (eS68 ▸ y28_))
    intro S70 eS70 y29_ y30_
    replace h := h S70 eS70 y29_ y30_
    replace f := f.tr (show cfr [] [(43, 4), (43, 6), (43, 8), (43, 9), (43, 10), (43, 11), (43, 12), (43, 13), (43, 14), (43, 15)] S68 S70 by rw [eS70]; exact cfr.oR y29_ (by decide))
    exact fr_X3_makeRoom_J79 f h
set_option maxRecDepth 100000 in
theorem fr_X3_addEdge_J59 {S0 : MS} {Q : Int32 → MS → Prop} {U59 : MS} {v59_1 : Int32} {v59_2 : Int32} {v59_3 : Int32} (f : cfr [205, 211] [(43, 5)] S0 U59) (h : w_X3_addEdge_J59 Q U59 v59_1 v59_2 v59_3) : w_X3_addEdge_J59 (fun r u => Q r u ∧ cfr [205, 211] [(43, 5)] S0 u) U59 v59_1 v59_2 v59_3 := by
  unfold w_X3_addEdge_J59 at h ⊢
  intro y1_
  replace h := h y1_
  refine ⟨h.1, ?_⟩
  replace h := h.2
  refine ⟨h.1, ?_⟩
  replace h := h.2
  intro S19 eS19 y2_ y3_
  replace h := h S19 eS19 y2_ y3_
  replace f := f.tr (show cfr [205, 211] [(43, 5)] U59 S19 by rw [eS19]; exact cfr.aI y2_ (by decide))
  refine ⟨h.1, ?_⟩
  replace h := h.2
  refine ⟨h.1, ?_⟩
  replace h := h.2
  intro S25 eS25 y4_ y5_
  replace h := h S25 eS25 y4_ y5_
  replace f := f.tr (show cfr [205, 211] [(43, 5)] S19 S25 by rw [eS25]; exact cfr.aI y4_ (by decide))
  exact ⟨h, f⟩
set_option maxRecDepth 100000 in
theorem frX3_addEdge {S : MS} {x1 : Int32} {x2 : Int32} {x3 : Int32} {Q : Int32 → MS → Prop} (hw : wfC S) (h : wX3_addEdge S x1 x2 x3 Q) : wX3_addEdge S x1 x2 x3 (fun r u => Q r u ∧ cfr [205, 211] [(43, 5)] S u) := by
  have f : cfr [205, 211] [(43, 5)] S S := cfr.rf
  unfold wX3_addEdge at h ⊢
  refine ⟨fun c => ?_, fun c => ?_⟩
  · replace h := h.1 c
    exact ⟨h, f⟩
  · replace h := h.2 c
    refine ⟨h.1, ?_⟩
    replace h := h.2
    refine ⟨fun c => ?_, fun c => ?_⟩
    · replace h := h.1 c
      exact ⟨h, f⟩
    · replace h := h.2 c
      refine ⟨h.1, ?_⟩
      replace h := h.2
      refine ⟨h.1, ?_⟩
      replace h := h.2
      refine ⟨fun c => ?_, fun c => ?_⟩
      · replace h := h.1 c
        exact ⟨h, f⟩
      · replace h := h.2 c
        refine ⟨fun c => ?_, fun c => ?_⟩
        · replace h := h.1 c
          exact fr_X3_addEdge_J59 f h
        · replace h := h.2 c
          intro y6_
          replace h := h y6_
          obtain ⟨Q9, h0, h⟩ := h
          refine ⟨_, frJ7_copyOf_59c91 hw h0, ?_⟩
          intro b37 S34 q7_ y8_ y9_ y10_
          replace h := h b37 S34 q7_.1 y8_ y9_ y10_
          replace f := f.tr (q7_.2.mo (by decide) (by decide))
          intro S38 eS38 y11_ y12_
          replace h := h S38 eS38 y11_ y12_
          replace f := f.tr (show cfr [205, 211] [(43, 5)] S34 S38 by rw [eS38]; exact cfr.oR y11_ (by decide))
          exact fr_X3_addEdge_J59 f h
set_option maxRecDepth 100000 in
theorem fr_X3_findBacks_L135 {S0 : MS} {Q : MS → Prop} {k120 k120' : MS → Int32 → Prop} (hk120 : ∀ (u : MS) (z0), cfr [206, 207, 211] [(43, 7)] S0 u → k120 u z0 → k120' u z0) : ∀ (n : Nat) {U135 : MS} {v135_2 : Int32} {v135_3 : Int32}, cfr [206, 207, 211] [(43, 7)] S0 U135 → w_X3_findBacks_L135 Q k120 n U135 v135_2 v135_3 → w_X3_findBacks_L135 (fun u => Q u ∧ cfr [206, 207, 211] [(43, 7)] S0 u) k120' n U135 v135_2 v135_3 := by
  intro n
  induction n with
  | zero => intro U135 v135_2 v135_3 f h; unfold w_X3_findBacks_L135 at h; exact h.elim
  | succ n ih =>
    intro U135 v135_2 v135_3 f h
    unfold w_X3_findBacks_L135 at h ⊢
    intro y1_
    replace h := h y1_
    refine ⟨h.1, ?_⟩
    replace h := h.2
    refine ⟨fun c => ?_, fun c => ?_⟩
    · replace h := h.1 c
      intro a27 ea27 
      replace h := h a27 ea27 
      exact hk120 _ _ f h
    · replace h := h.2 c
      refine ⟨h.1, ?_⟩
      replace h := h.2
      refine ⟨h.1, ?_⟩
      replace h := h.2
      intro a34 ea34 
      replace h := h a34 ea34 
      refine ⟨h.1, ?_⟩
      replace h := h.2
      intro S37 eS37 y2_ y3_
      replace h := h S37 eS37 y2_ y3_
      replace f := f.tr (show cfr [206, 207, 211] [(43, 7)] U135 S37 by rw [eS37]; exact cfr.aI y2_ (by decide))
      refine ⟨h.1, ?_⟩
      replace h := h.2
      refine ⟨h.1, ?_⟩
      replace h := h.2
      refine ⟨h.1, ?_⟩
      replace h := h.2
      intro S46 eS46 y4_ y5_
      replace h := h S46 eS46 y4_ y5_
      replace f := f.tr (show cfr [206, 207, 211] [(43, 7)] S37 S46 by rw [eS46]; exact cfr.aI y4_ (by decide))
      intro a47 ea47 
      replace h := h a47 ea47 
      exact ih f h
set_option maxRecDepth 100000 in
theorem fr_X3_findBacks_L120 {S0 : MS} {Q : MS → Prop} : ∀ (n : Nat) {U120 : MS} {v120_2 : Int32}, cfr [206, 207, 211] [(43, 7)] S0 U120 → w_X3_findBacks_L120 Q n U120 v120_2 → w_X3_findBacks_L120 (fun u => Q u ∧ cfr [206, 207, 211] [(43, 7)] S0 u) n U120 v120_2 := by
  intro n
  induction n with
  | zero => intro U120 v120_2 f h; unfold w_X3_findBacks_L120 at h; exact h.elim
  | succ n ih =>
    intro U120 v120_2 f h
    unfold w_X3_findBacks_L120 at h ⊢
    intro y6_
    replace h := h y6_
    refine ⟨fun c => ?_, fun c => ?_⟩
    · replace h := h.1 c
      exact ⟨h, f⟩
    · replace h := h.2 c
      refine ⟨h.1, ?_⟩
      replace h := h.2
      intro a21 ea21 
      replace h := h a21 ea21 
      obtain ⟨n9, h⟩ := h
      exact ⟨n9, fr_X3_findBacks_L135 (fun _ _ f h => ih f h) n9 f h⟩
set_option maxRecDepth 100000 in
theorem fr_X3_findBacks_L70 {S0 : MS} {Q : MS → Prop} : ∀ (n : Nat) {U70 : MS} {v70_2 : Int32}, cfr [206, 207, 211] [(43, 7)] S0 U70 → w_X3_findBacks_L70 Q n U70 v70_2 → w_X3_findBacks_L70 (fun u => Q u ∧ cfr [206, 207, 211] [(43, 7)] S0 u) n U70 v70_2 := by
  intro n
  induction n with
  | zero => intro U70 v70_2 f h; unfold w_X3_findBacks_L70 at h; exact h.elim
  | succ n ih =>
    intro U70 v70_2 f h
    unfold w_X3_findBacks_L70 at h ⊢
    intro y7_
    replace h := h y7_
    refine ⟨fun c => ?_, fun c => ?_⟩
    · replace h := h.1 c
      refine ⟨h.1, ?_⟩
      replace h := h.2
      intro S16 eS16 y8_ y9_
      replace h := h S16 eS16 y8_ y9_
      replace f := f.tr (show cfr [206, 207, 211] [(43, 7)] U70 S16 by rw [eS16]; exact cfr.aC y8_ (by decide))
      obtain ⟨n9, h⟩ := h
      exact ⟨n9, fr_X3_findBacks_L120 n9 f h⟩
    · replace h := h.2 c
      refine ⟨h.1, ?_⟩
      replace h := h.2
      refine ⟨h.1, ?_⟩
      replace h := h.2
      refine ⟨h.1, ?_⟩
      replace h := h.2
      intro S57 eS57 y10_ y11_
      replace h := h S57 eS57 y10_ y11_
      replace f := f.tr (show cfr [206, 207, 211] [(43, 7)] U70 S57 by rw [eS57]; exact cfr.aI y10_ (by decide))
      intro a58 ea58 
      replace h := h a58 ea58 
      exact ih f h
set_option maxRecDepth 100000 in
theorem fr_X3_findBacks_L40 {S0 : MS} {Q : MS → Prop} : ∀ (n : Nat) {U40 : MS} {v40_1 : Int32} {v40_2 : Int32}, cfr [206, 207, 211] [(43, 7)] S0 U40 → w_X3_findBacks_L40 Q n U40 v40_1 v40_2 → w_X3_findBacks_L40 (fun u => Q u ∧ cfr [206, 207, 211] [(43, 7)] S0 u) n U40 v40_1 v40_2 := by
  intro n
  induction n with
  | zero => intro U40 v40_1 v40_2 f h; unfold w_X3_findBacks_L40 at h; exact h.elim
  | succ n ih =>
    intro U40 v40_1 v40_2 f h
    unfold w_X3_findBacks_L40 at h ⊢
    intro y12_
    replace h := h y12_
    refine ⟨fun c => ?_, fun c => ?_⟩
    · replace h := h.1 c
      obtain ⟨n9, h⟩ := h
      exact ⟨n9, fr_X3_findBacks_L70 n9 f h⟩
    · replace h := h.2 c
      refine ⟨h.1, ?_⟩
      replace h := h.2
      refine ⟨h.1, ?_⟩
      replace h := h.2
      refine ⟨h.1, ?_⟩
      replace h := h.2
      intro S68 eS68 y13_ y14_
      replace h := h S68 eS68 y13_ y14_
      replace f := f.tr (show cfr [206, 207, 211] [(43, 7)] U40 S68 by rw [eS68]; exact cfr.aI y13_ (by decide))
      intro a69 ea69 
      replace h := h a69 ea69 
      exact ih f h
set_option maxRecDepth 100000 in
theorem fr_X3_findBacks_J30 {S0 : MS} {Q : MS → Prop} {U30 : MS} {v30_1 : Int32} (f : cfr [206, 207, 211] [(43, 7)] S0 U30) (h : w_X3_findBacks_J30 Q U30 v30_1) : w_X3_findBacks_J30 (fun u => Q u ∧ cfr [206, 207, 211] [(43, 7)] S0 u) U30 v30_1 := by
  unfold w_X3_findBacks_J30 at h ⊢
  intro y15_
  replace h := h y15_
  intro y16_
  replace h := h y16_
  obtain ⟨Q9, h0, h⟩ := h
  refine ⟨_, frJ7_fill_53178 y16_ (by decide) h0, ?_⟩
  intro S9 q17_ y18_ y19_
  replace h := h S9 q17_.1 y18_ y19_
  replace f := f.tr (q17_.2.mo (by decide) (by decide))
  obtain ⟨n9, h⟩ := h
  exact ⟨n9, fr_X3_findBacks_L40 n9 f h⟩
set_option maxRecDepth 100000 in
theorem frX3_findBacks {S : MS} {Q : MS → Prop} (hw : wfC S) (h : wX3_findBacks S Q) : wX3_findBacks S (fun u => Q u ∧ cfr [206, 207, 211] [(43, 7)] S u) := by
  have f : cfr [206, 207, 211] [(43, 7)] S S := cfr.rf
  unfold wX3_findBacks at h ⊢
  refine ⟨h.1, ?_⟩
  replace h := h.2
  intro a4 ea4 
  replace h := h a4 ea4 
  refine ⟨fun c => ?_, fun c => ?_⟩
  · replace h := h.1 c
    exact fr_X3_findBacks_J30 f h
  · replace h := h.2 c
    refine ⟨h.1, ?_⟩
    replace h := h.2
    intro S76 eS76 y20_
    replace h := h S76 eS76 y20_
    replace f := f.tr (show cfr [206, 207, 211] [(43, 7)] S S76 by rw [eS76]; exact cfr.new hw (eS76 ▸ y20_))
    intro S78 eS78 y21_ y22_
    replace h := h S78 eS78 y21_ y22_
    replace f := f.tr (show cfr [206, 207, 211] [(43, 7)] S76 S78 by rw [eS78]; exact cfr.oR y21_ (by decide))
    exact fr_X3_findBacks_J30 f h
set_option maxRecDepth 100000 in
theorem fr_X3_findReached_J129 {S0 : MS} {Q : MS → Prop} {k72 k72' : MS → Int32 → Int32 → Int32 → Int32 → Prop} {U129 : MS} {v129_1 : Int32} {v129_2 : Int32} {v129_3 : Int32} {v129_4 : Int32} (hk72 : ∀ (u : MS) (z0) (z1) (z2) (z3), cfr [212, 303] [] S0 u → k72 u z0 z1 z2 z3 → k72' u z0 z1 z2 z3) (f : cfr [212, 303] [] S0 U129) (h : w_X3_findReached_J129 Q k72 U129 v129_1 v129_2 v129_3 v129_4) : w_X3_findReached_J129 (fun u => Q u ∧ cfr [212, 303] [] S0 u) k72' U129 v129_1 v129_2 v129_3 v129_4 := by
  unfold w_X3_findReached_J129 at h ⊢
  intro y1_
  replace h := h y1_
  intro a29 ea29 
  replace h := h a29 ea29 
  exact hk72 _ _ _ _ _ f h
set_option maxRecDepth 100000 in
theorem fr_X3_findReached_J24 {S0 : MS} {Q : MS → Prop} {k2 k2' : MS → Int32 → Prop} {U24 : MS} {t24_0 : Int32} {t24_1 : Int32} {t24_2 : Nat} {v24_1 : Int32} (hk2 : ∀ (u : MS) (z0), cfr [212, 303] [] S0 u → k2 u z0 → k2' u z0) (f : cfr [212, 303] [] S0 U24) (h : w_X3_findReached_J24 Q k2 U24 t24_0 t24_1 t24_2 v24_1) : w_X3_findReached_J24 (fun u => Q u ∧ cfr [212, 303] [] S0 u) k2' U24 t24_0 t24_1 t24_2 v24_1 := by
  unfold w_X3_findReached_J24 at h ⊢
  intro y2_ y3_ y4_
  replace h := h y2_ y3_ y4_
  refine ⟨h.1, ?_⟩
  replace h := h.2
  intro S46 eS46 y5_ y6_
  replace h := h S46 eS46 y5_ y6_
  replace f := f.tr (show cfr [212, 303] [] U24 S46 by rw [eS46]; exact cfr.aI y5_ (by decide))
  intro a47 ea47 
  replace h := h a47 ea47 
  exact hk2 _ _ f h
set_option maxRecDepth 100000 in
theorem fr_X3_findReached_L72 {S0 : MS} {Q : MS → Prop} {k42 k42' : MS → Int32 → Int32 → Prop} (hk42 : ∀ (u : MS) (z0) (z1), cfr [212, 303] [] S0 u → k42 u z0 z1 → k42' u z0 z1) : ∀ (n : Nat) {U72 : MS} {v72_1 : Int32} {v72_2 : Int32} {v72_3 : Int32} {v72_4 : Int32}, cfr [212, 303] [] S0 U72 → w_X3_findReached_L72 Q k42 n U72 v72_1 v72_2 v72_3 v72_4 → w_X3_findReached_L72 (fun u => Q u ∧ cfr [212, 303] [] S0 u) k42' n U72 v72_1 v72_2 v72_3 v72_4 := by
  intro n
  induction n with
  | zero => intro U72 v72_1 v72_2 v72_3 v72_4 f h; unfold w_X3_findReached_L72 at h; exact h.elim
  | succ n ih =>
    intro U72 v72_1 v72_2 v72_3 v72_4 f h
    unfold w_X3_findReached_L72 at h ⊢
    intro y7_
    replace h := h y7_
    refine ⟨h.1, ?_⟩
    replace h := h.2
    refine ⟨fun c => ?_, fun c => ?_⟩
    · replace h := h.1 c
      intro a21 ea21 
      replace h := h a21 ea21 
      exact hk42 _ _ _ f h
    · replace h := h.2 c
      refine ⟨h.1, ?_⟩
      replace h := h.2
      refine ⟨h.1, ?_⟩
      replace h := h.2
      refine ⟨fun c => ?_, fun c => ?_⟩
      · replace h := h.1 c
        refine ⟨h.1, ?_⟩
        replace h := h.2
        refine ⟨h.1, ?_⟩
        replace h := h.2
        intro S36 eS36 y8_ y9_
        replace h := h S36 eS36 y8_ y9_
        replace f := f.tr (show cfr [212, 303] [] U72 S36 by rw [eS36]; exact cfr.aI y8_ (by decide))
        refine ⟨h.1, ?_⟩
        replace h := h.2
        refine ⟨h.1, ?_⟩
        replace h := h.2
        intro S42 eS42 y10_ y11_
        replace h := h S42 eS42 y10_ y11_
        replace f := f.tr (show cfr [212, 303] [] S36 S42 by rw [eS42]; exact cfr.aI y10_ (by decide))
        intro a43 ea43 
        replace h := h a43 ea43 
        exact fr_X3_findReached_J129 (fun _ _ _ _ _ f h => ih f h) f h
      · replace h := h.2 c
        exact fr_X3_findReached_J129 (fun _ _ _ _ _ f h => ih f h) f h
set_option maxRecDepth 100000 in
theorem fr_X3_findReached_L42 {S0 : MS} {Q : MS → Prop} : ∀ (n : Nat) {U42 : MS} {v42_1 : Int32} {v42_2 : Int32}, cfr [212, 303] [] S0 U42 → w_X3_findReached_L42 Q n U42 v42_1 v42_2 → w_X3_findReached_L42 (fun u => Q u ∧ cfr [212, 303] [] S0 u) n U42 v42_1 v42_2 := by
  intro n
  induction n with
  | zero => intro U42 v42_1 v42_2 f h; unfold w_X3_findReached_L42 at h; exact h.elim
  | succ n ih =>
    intro U42 v42_1 v42_2 f h
    unfold w_X3_findReached_L42 at h ⊢
    intro y12_
    replace h := h y12_
    refine ⟨fun c => ?_, fun c => ?_⟩
    · replace h := h.1 c
      exact ⟨h, f⟩
    · replace h := h.2 c
      refine ⟨fun c => ?_, fun c => ?_⟩
      · replace h := h.1 c
        exact ⟨h, f⟩
      · replace h := h.2 c
        intro a7 ea7 
        replace h := h a7 ea7 
        refine ⟨h.1, ?_⟩
        replace h := h.2
        intro a11 ea11 
        replace h := h a11 ea11 
        refine ⟨h.1, ?_⟩
        replace h := h.2
        intro a15 ea15 
        replace h := h a15 ea15 
        obtain ⟨n9, h⟩ := h
        exact ⟨n9, fr_X3_findReached_L72 (fun _ _ _ f h => ih f h) n9 f h⟩
set_option maxRecDepth 100000 in
theorem fr_X3_findReached_L2 {S0 : MS} {Q : MS → Prop} : ∀ (n : Nat) {U2 : MS} {v2_1 : Int32}, cfr [212, 303] [] S0 U2 → w_X3_findReached_L2 Q n U2 v2_1 → w_X3_findReached_L2 (fun u => Q u ∧ cfr [212, 303] [] S0 u) n U2 v2_1 := by
  intro n
  induction n with
  | zero => intro U2 v2_1 f h; unfold w_X3_findReached_L2 at h; exact h.elim
  | succ n ih =>
    intro U2 v2_1 f h
    unfold w_X3_findReached_L2 at h ⊢
    intro y13_
    replace h := h y13_
    refine ⟨fun c => ?_, fun c => ?_⟩
    · replace h := h.1 c
      refine ⟨h.1, ?_⟩
      replace h := h.2
      intro S4 eS4 y14_ y15_
      replace h := h S4 eS4 y14_ y15_
      replace f := f.tr (show cfr [212, 303] [] U2 S4 by rw [eS4]; exact cfr.aI y14_ (by decide))
      obtain ⟨n9, h⟩ := h
      exact ⟨n9, fr_X3_findReached_L42 n9 f h⟩
    · replace h := h.2 c
      refine ⟨fun c => ?_, fun c => ?_⟩
      · replace h := h.1 c
        exact fr_X3_findReached_J24 (fun _ _ f h => ih f h) f h
      · replace h := h.2 c
        exact fr_X3_findReached_J24 (fun _ _ f h => ih f h) f h
set_option maxRecDepth 100000 in
theorem frX3_findReached {S : MS} {Q : MS → Prop} (hw : wfC S) (h : wX3_findReached S Q) : wX3_findReached S (fun u => Q u ∧ cfr [212, 303] [] S u) := by
  have f : cfr [212, 303] [] S S := cfr.rf
  unfold wX3_findReached at h ⊢
  obtain ⟨n9, h⟩ := h
  exact ⟨n9, fr_X3_findReached_L2 n9 f h⟩
set_option maxRecDepth 100000 in
theorem fr_X3_narrow_J95 {S0 : MS} {Q : Int32 → MS → Prop} {k5 k5' : MS → Int32 → Int32 → Int32 → Int32 → Prop} {U95 : MS} {t95_0 : Int32} {t95_1 : Int32} {v95_1 : Int32} {v95_2 : Int32} {v95_4 : Int32} {v95_7 : Int64} (hk5 : ∀ (u : MS) (z0) (z1) (z2) (z3), cfr [401] [] S0 u → k5 u z0 z1 z2 z3 → k5' u z0 z1 z2 z3) (f : cfr [401] [] S0 U95) (h : w_X3_narrow_J95 Q k5 U95 t95_0 t95_1 v95_1 v95_2 v95_4 v95_7) : w_X3_narrow_J95 (fun r u => Q r u ∧ cfr [401] [] S0 u) k5' U95 t95_0 t95_1 v95_1 v95_2 v95_4 v95_7 := by
  unfold w_X3_narrow_J95 at h ⊢
  intro y1_ y2_
  replace h := h y1_ y2_
  intro a24 ea24 
  replace h := h a24 ea24 
  refine ⟨h.1, ?_⟩
  replace h := h.2
  intro S29 eS29 y3_ y4_
  replace h := h S29 eS29 y3_ y4_
  replace f := f.tr (show cfr [401] [] U95 S29 by rw [eS29]; exact cfr.aJ y3_ (by decide))
  intro a30 ea30 
  replace h := h a30 ea30 
  exact hk5 _ _ _ _ _ f h
set_option maxRecDepth 100000 in
theorem fr_X3_narrow_J33 {S0 : MS} {Q : Int32 → MS → Prop} {k5 k5' : MS → Int32 → Int32 → Int32 → Int32 → Prop} {U33 : MS} {t33_0 : Int64} {v33_1 : Int32} {v33_2 : Int32} {v33_3 : Int32} {v33_4 : Int32} (hk5 : ∀ (u : MS) (z0) (z1) (z2) (z3), cfr [401] [] S0 u → k5 u z0 z1 z2 z3 → k5' u z0 z1 z2 z3) (f : cfr [401] [] S0 U33) (h : w_X3_narrow_J33 Q k5 U33 t33_0 v33_1 v33_2 v33_3 v33_4) : w_X3_narrow_J33 (fun r u => Q r u ∧ cfr [401] [] S0 u) k5' U33 t33_0 v33_1 v33_2 v33_3 v33_4 := by
  unfold w_X3_narrow_J33 at h ⊢
  intro y5_
  replace h := h y5_
  refine ⟨h.1, ?_⟩
  replace h := h.2
  refine ⟨h.1, ?_⟩
  replace h := h.2
  intro a16 ea16 
  replace h := h a16 ea16 
  refine ⟨h.1, ?_⟩
  replace h := h.2
  refine ⟨fun c => ?_, fun c => ?_⟩
  · replace h := h.1 c
    exact fr_X3_narrow_J95 hk5 f h
  · replace h := h.2 c
    exact fr_X3_narrow_J95 hk5 f h
set_option maxRecDepth 100000 in
theorem fr_X3_narrow_L5 {S0 : MS} {Q : Int32 → MS → Prop} : ∀ (n : Nat) {U5 : MS} {v5_1 : Int32} {v5_2 : Int32} {v5_3 : Int32} {v5_4 : Int32}, cfr [401] [] S0 U5 → w_X3_narrow_L5 Q n U5 v5_1 v5_2 v5_3 v5_4 → w_X3_narrow_L5 (fun r u => Q r u ∧ cfr [401] [] S0 u) n U5 v5_1 v5_2 v5_3 v5_4 := by
  intro n
  induction n with
  | zero => intro U5 v5_1 v5_2 v5_3 v5_4 f h; unfold w_X3_narrow_L5 at h; exact h.elim
  | succ n ih =>
    intro U5 v5_1 v5_2 v5_3 v5_4 f h
    unfold w_X3_narrow_L5 at h ⊢
    intro y6_
    replace h := h y6_
    refine ⟨fun c => ?_, fun c => ?_⟩
    · replace h := h.1 c
      refine ⟨h.1, ?_⟩
      replace h := h.2
      exact ⟨h, f⟩
    · replace h := h.2 c
      refine ⟨fun c => ?_, fun c => ?_⟩
      · replace h := h.1 c
        exact fr_X3_narrow_J33 (fun _ _ _ _ _ f h => ih f h) f h
      · replace h := h.2 c
        exact fr_X3_narrow_J33 (fun _ _ _ _ _ f h => ih f h) f h
set_option maxRecDepth 100000 in
theorem frX3_narrow {S : MS} {x1 : Int32} {x2 : Int32} {Q : Int32 → MS → Prop} (hw : wfC S) (h : wX3_narrow S x1 x2 Q) : wX3_narrow S x1 x2 (fun r u => Q r u ∧ cfr [401] [] S u) := by
  have f : cfr [401] [] S S := cfr.rf
  unfold wX3_narrow at h ⊢
  obtain ⟨n9, h⟩ := h
  exact ⟨n9, fr_X3_narrow_L5 n9 f h⟩
set_option maxRecDepth 100000 in
theorem fr_X3_dominatorCount_L4 {S0 : MS} {Q : Int32 → MS → Prop} : ∀ (n : Nat) {U4 : MS} {v4_1 : Int32} {v4_2 : Int32} {v4_3 : Int32}, cfr [] [] S0 U4 → w_X3_dominatorCount_L4 Q n U4 v4_1 v4_2 v4_3 → w_X3_dominatorCount_L4 (fun r u => Q r u ∧ cfr [] [] S0 u) n U4 v4_1 v4_2 v4_3 := by
  intro n
  induction n with
  | zero => intro U4 v4_1 v4_2 v4_3 f h; unfold w_X3_dominatorCount_L4 at h; exact h.elim
  | succ n ih =>
    intro U4 v4_1 v4_2 v4_3 f h
    unfold w_X3_dominatorCount_L4 at h ⊢
    intro y1_
    replace h := h y1_
    refine ⟨fun c => ?_, fun c => ?_⟩
    · replace h := h.1 c
      exact ⟨h, f⟩
    · replace h := h.2 c
      refine ⟨h.1, ?_⟩
      replace h := h.2
      refine ⟨h.1, ?_⟩
      replace h := h.2
      intro a11 ea11 
      replace h := h a11 ea11 
      intro a12 ea12 
      replace h := h a12 ea12 
      exact ih f h
set_option maxRecDepth 100000 in
theorem frX3_dominatorCount {S : MS} {x1 : Int32} {Q : Int32 → MS → Prop} (hw : wfC S) (h : wX3_dominatorCount S x1 Q) : wX3_dominatorCount S x1 (fun r u => Q r u ∧ cfr [] [] S u) := by
  have f : cfr [] [] S S := cfr.rf
  unfold wX3_dominatorCount at h ⊢
  obtain ⟨n9, h⟩ := h
  exact ⟨n9, fr_X3_dominatorCount_L4 n9 f h⟩
