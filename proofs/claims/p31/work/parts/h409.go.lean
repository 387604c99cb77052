/-! findLoops, draw -/
section GO
variable {B : Nat × Nat} {K : List Nat} {S u v U : MS} {Q : MS → Prop}
theorem GB4.s6 (w : wfC S) (f : cfr K [] S u) (hq : okQ K = true) : ∀ k, gi u 6 k = gi S 6 k := (gi_fr w f w.g6 (okQ_n hq (by decide)) rfl (okQ_n hq (by decide)) rfl (by decide)).1
theorem sp_addToLoop {x1 x2 x3 : Int32} (w : wfC S) (h : GB4 B S) (h2 : 0 ≤ x2.toInt ∧ x2.toInt < (qI S 52 1).toInt) (hw : WtIk S x3.toInt) : wX3_addToLoop S x1 x2 x3 (fun r u => GB4 B u ∧ GqI S u ∧ WtIk u r.toInt ∧ ∀ k, gi u 6 k = gi S 6 k) := by
  have nm := h.num
  have E0 : GB4 B S ∧ GqI S S ∧ WtIk S x3.toInt ∧ ∀ k, gi S 6 k = gi S 6 k := ⟨h, GqI.rf, hw, fun _ => rfl⟩
  have w1 := hw.1
  unfold wX3_addToLoop
  refine ⟨by omega, fun _ => E0, fun _ => ⟨by omega, fun _ => E0, fun _ => ⟨fun c => ⟨by omega, fun S15 e15 k15 w15 => ?_⟩, fun _ => E0⟩⟩⟩
  obtain ⟨H, G, g14, go⟩ := h.w w e15 k15 rfl
  have l13 : (qN S15 (qO S15 52 13) : Int) = (qN S (qO S 52 13) : Int) := G.L (by decide)
  refine ⟨by omega, by omega, fun S21 e21 k21 w21 => ?_⟩
  obtain ⟨H2, G2, g13, go2⟩ := H.w w15 e21 k21 rfl
  have G12 := G.tr G2
  have l15 : (qN S21 (qO S21 52 15) : Int) = (qN S (qO S 52 15) : Int) := G12.L (by decide)
  refine ⟨by omega, fun S24 e24 k24 w24 => ?_⟩
  obtain ⟨H3, G3, g15, go3⟩ := H2.w w21 e24 k24 rfl
  have G13 := G12.tr G3
  have l15' : (qN S24 (qO S24 52 15) : Int) = (qN S (qO S 52 15) : Int) := G13.L (by decide)
  have l9 := w.len9 w.g15 (by decide)
  have e1 : (x3 + (1 : Int32)).toInt = x3.toInt + 1 := by rw [t_addk (by rw [li_1k]; omega), li_1k]
  refine ⟨H3, G13, ⟨⟨by omega, by omega⟩, fun i hi => ?_⟩, fun k => by rw [go3 6 206 w21.g6 (by decide), go2 6 206 w15.g6 (by decide), go 6 206 w.g6 (by decide)]⟩
  rw [g15, G13.N]
  split
  · exact h2
  · rw [go2 15 212 w15.g15 (by decide), go 15 212 w.g15 (by decide)]
    exact hw.2 i (by omega)
def LpI (B : Nat × Nat) (β : Nat → Int) (ν : Int) (U : MS) (n : Int) : Prop := GB4 B U ∧ (qI U 52 1).toInt = ν ∧ WtIk U n ∧ ∀ k, gi U 6 k = β k
variable {β : Nat → Int} {ν : Int}
theorem LpI.nx {r : Int32} {n : Int} (h : LpI B β ν S n) (q : GB4 B u ∧ GqI S u ∧ WtIk u r.toInt ∧ ∀ k, gi u 6 k = gi S 6 k) : LpI B β ν u r.toInt := ⟨q.1, by rw [q.2.1.N]; exact h.2.1, q.2.2.1, fun k => by rw [q.2.2.2]; exact h.2.2.2 k⟩
theorem al_L119 {k87 : MS → Int32 → Int32 → Int32 → Prop} {v1 v3 v4 : Int32} (h4 : 0 ≤ v4.toInt ∧ v4.toInt < ν) (hk : ∀ (V : MS) (r a : Int32), LpI B β ν V r.toInt → a = v3 + Int32.ofInt 1 → k87 V v1 r a) : ∀ (n : Nat) {U : MS} {v2 v5 : Int32}, LpI B β ν U v2.toInt → β v4.toInt.toNat ≤ v5.toInt → 2147483648 - v5.toInt < n → w_X3_addLoop_L119 Q k87 n U v1 v2 v3 v4 v5 := by
  intro n
  induction n with
  | zero => intro U v2 v5 _ h0 hm; have := rgI v5; omega
  | succ n ih =>
    intro U v2 v5 h h0 hm
    have nm := h.1.num
    have eν := h.2.1
    have e1 := t_add1 (b := v4) (by omega)
    unfold w_X3_addLoop_L119
    intro w
    rw [e1]
    refine ⟨by omega, fun c a ea => hk U v2 a h ea, fun c => ?_⟩
    have bk := h.1.bk (b := v4) (k := v5) (by omega) (by rw [h.2.2.2]; exact h0) (by unfold gi; omega)
    refine ⟨by omega, _, sp_addToLoop w h.1 (by omega) h.2.2.1, fun r40 S41 q w41 s41 a ea => ?_⟩
    have e := t_inc ea (by omega)
    exact ih (h.nx q) (by omega) (by omega)
theorem al_L87 {v1 : Int32} (hQ : ∀ V : MS, wfC V → GB4 B V → (qI V 52 1).toInt = ν → (∀ k, gi V 6 k = β k) → Q V) : ∀ (n : Nat) {U : MS} {v2 v3 : Int32}, LpI B β ν U v2.toInt → 0 ≤ v3.toInt → 2147483648 - v3.toInt < n → w_X3_addLoop_L87 Q n U v1 v2 v3 := by
  intro n
  induction n with
  | zero => intro U v2 v3 _ h0 hm; have := rgI v3; omega
  | succ n ih =>
    intro U v2 v3 h h0 hm
    have nm := h.1.num
    have eν := h.2.1
    have wt := h.2.2.1.1
    unfold w_X3_addLoop_L87
    intro w
    refine ⟨fun _ => hQ U w h.1 eν h.2.2.2, fun c => ⟨fun _ => hQ U w h.1 eν h.2.2.2, fun c2 a21 e21 => ?_⟩⟩
    have e := t_dec e21
    have e' : a21.toInt = v2.toInt - 1 := by have := rgI v2; omega
    refine ⟨by omega, fun a25 e25 => ?_⟩
    have w5 : 0 ≤ a25.toInt ∧ a25.toInt < (qI U 52 1).toInt := by
      rw [e25]
      exact h.2.2.1.2 a21.toInt.toNat (by omega)
    refine ⟨by omega, fun a29 e29 => ⟨2147483649, al_L119 (ν := ν) (β := β) (by omega) (fun V r a hV ea => ?_) _ ⟨h.1, eν, ⟨⟨by omega, by omega⟩, fun i hi => h.2.2.1.2 i (by omega)⟩, h.2.2.2⟩ (by rw [← h.2.2.2, e29]; exact Int.le_refl _) (by have := h.1.ba (b := a25) (by omega); rw [← e29] at this; omega)⟩⟩
    have e2 := t_inc ea (by omega)
    exact ih hV (by omega) (by omega)
theorem al_L26 {v1 : Int32} (h1 : 0 ≤ v1.toInt ∧ v1.toInt < ν) (hQ : ∀ V : MS, wfC V → GB4 B V → (qI V 52 1).toInt = ν → (∀ k, gi V 6 k = β k) → Q V) : ∀ (n : Nat) {U : MS} {v2 v3 : Int32}, LpI B β ν U v2.toInt → β v1.toInt.toNat ≤ v3.toInt → 2147483648 - v3.toInt < n → w_X3_addLoop_L26 Q n U v1 v2 v3 := by
  intro n
  induction n with
  | zero => intro U v2 v3 _ h0 hm; have := rgI v3; omega
  | succ n ih =>
    intro U v2 v3 h h0 hm
    have nm := h.1.num
    have eν := h.2.1
    have e1 := t_add1 (b := v1) (by omega)
    unfold w_X3_addLoop_L26
    intro w
    rw [e1]
    refine ⟨by omega, fun _ => ⟨2147483649, al_L87 hQ _ h (by decide) (by rw [li_0k]; decide)⟩, fun c => ?_⟩
    have bk := h.1.bk (b := v1) (k := v3) (by omega) (by rw [h.2.2.2]; exact h0) (by unfold gi; omega)
    have J : ∀ (V : MS) (x : Int32), LpI B β ν V x.toInt → w_X3_addLoop_J79 Q (w_X3_addLoop_L26 Q n) V v1 x v3 := fun V x hV => by
      unfold w_X3_addLoop_J79
      intro _ a ea
      have e := t_inc ea (by omega)
      exact ih hV (by omega) (by omega)
    exact ⟨by omega, by omega, fun _ => J U v2 h, fun _ => ⟨by omega, h.1.dm (by omega) (by omega), fun _ => J U v2 h, fun _ => ⟨by omega, _, sp_addToLoop w h.1 (by omega) h.2.2.1, fun r64 S65 q w65 s65 => J S65 r64 (h.nx q)⟩⟩⟩
theorem sp_addLoop {x1 : Int32} (w : wfC S) (h : GB4 B S) (h1 : 0 ≤ x1.toInt ∧ x1.toInt < (qI S 52 1).toInt) : wX3_addLoop S x1 (fun u => GB4 B u ∧ (qI u 52 1).toInt = (qI S 52 1).toInt ∧ ∀ k, gi u 6 k = gi S 6 k) := by
  have nm := h.num
  unfold wX3_addLoop
  refine ⟨by omega, fun S3 e3 k3 w3 => ?_⟩
  obtain ⟨H, G, g14, go⟩ := h.w w e3 k3 rfl
  have l13 : (qN S3 (qO S3 52 13) : Int) = (qN S (qO S 52 13) : Int) := G.L (by decide)
  refine ⟨by omega, by omega, fun S9 e9 k9 w9 => ?_⟩
  obtain ⟨H2, G2, g13, go2⟩ := H.w w3 e9 k9 rfl
  have G12 := G.tr G2
  have n9 := H2.num
  have N9 := G12.N
  have b6 : ∀ k, gi S9 6 k = gi S 6 k := fun k => by rw [go2 6 206 w3.g6 (by decide), go 6 206 w.g6 (by decide)]
  refine ⟨by omega, fun a13 e13 => ⟨2147483649, al_L26 (ν := (qI S 52 1).toInt) (β := gi S 6) h1 (fun V _ a b c => ⟨a, b, c⟩) _ ⟨H2, N9, ⟨⟨by decide, by rw [li_0k]; omega⟩, fun i hi => by rw [li_0k] at hi; omega⟩, b6⟩ (by rw [← b6, e13]; exact Int.le_refl _) (by have := H2.ba (b := x1) (by omega); rw [← e13] at this; omega)⟩⟩
theorem fl_J119 {k18 : MS → Int32 → Prop} {v1 : Int32} (hk : ∀ a : Int32, a = v1 + Int32.ofInt 1 → k18 U a) : w_X3_findLoops_J119 Q k18 U v1 := by
  unfold w_X3_findLoops_J119
  exact fun _ a ea => hk a ea
theorem fl_J105 {k18 : MS → Int32 → Prop} {v1 : Int32} (h : GB4 B U) (eν : (qI U 52 1).toInt = ν) (h1 : 0 ≤ v1.toInt ∧ v1.toInt < ν) (hk : ∀ (V : MS) (a : Int32), GB4 B V → (qI V 52 1).toInt = ν → a = v1 + Int32.ofInt 1 → k18 V a) : w_X3_findLoops_J105 Q k18 U v1 := by
  have nm := h.num
  unfold w_X3_findLoops_J105
  intro w
  refine ⟨by omega, fun _ => fl_J119 (fun a ea => hk U a h eν ea), fun _ => ⟨_, sp_addLoop w h (by omega), fun S27 q w27 s27 => fl_J119 (fun a ea => hk S27 a q.1 (by rw [q.2.1]; exact eν) ea)⟩⟩
theorem fl_L40 {k18 : MS → Int32 → Prop} {v1 : Int32} (h1 : 0 ≤ v1.toInt ∧ v1.toInt < ν) (hk : ∀ (V : MS) (a : Int32), GB4 B V → (qI V 52 1).toInt = ν → a = v1 + Int32.ofInt 1 → k18 V a) : ∀ (n : Nat) {U : MS} {v2 : Int32}, GB4 B U → (qI U 52 1).toInt = ν → (∀ k, gi U 6 k = β k) → β v1.toInt.toNat ≤ v2.toInt → 2147483648 - v2.toInt < n → w_X3_findLoops_L40 Q k18 n U v1 v2 := by
  intro n
  induction n with
  | zero => intro U v2 _ _ _ h0 hm; have := rgI v2; omega
  | succ n ih =>
    intro U v2 h eν hβ h0 hm
    have nm := h.num
    have e1 := t_add1 (b := v1) (by omega)
    unfold w_X3_findLoops_L40
    intro w
    rw [e1]
    refine ⟨by omega, fun _ => fl_J105 h eν h1 hk, fun _ => ⟨by omega, fun _ => fl_J105 h eν h1 hk, fun c => ?_⟩⟩
    have bk := h.bk (b := v1) (k := v2) (by omega) (by rw [hβ]; exact h0) (by unfold gi; omega)
    have J : ∀ V : MS, GB4 B V → (qI V 52 1).toInt = ν → (∀ k, gi V 6 k = β k) → w_X3_findLoops_J99 Q (w_X3_findLoops_L40 Q k18 n) V v1 v2 := fun V hV eV bV => by
      unfold w_X3_findLoops_J99
      intro _ a ea
      have e := t_inc ea (by omega)
      exact ih hV eV bV (by omega) (by omega)
    refine ⟨by omega, by omega, fun _ => J U h eν hβ, fun _ => ⟨by omega, h.dm (by omega) (by omega), fun _ => J U h eν hβ, fun _ => ⟨by omega, by omega, fun S56 e56 k56 w56 => ?_⟩⟩⟩
    obtain ⟨H, G, g12, go⟩ := h.w w e56 k56 rfl
    exact J S56 H (by rw [G.N]; exact eν) (fun k => by rw [go 6 206 w.g6 (by decide)]; exact hβ k)
theorem fl_L18 (hν : ν ≤ 1200) (hQ : ∀ V : MS, wfC V → GB4 B V → Q V) : ∀ (n : Nat) {U : MS} {v1 : Int32}, GB4 B U → (qI U 52 1).toInt = ν → 0 ≤ v1.toInt → 2147483648 - v1.toInt < n → w_X3_findLoops_L18 Q n U v1 := by
  intro n
  induction n with
  | zero => intro U v1 _ _ h0 hm; have := rgI v1; omega
  | succ n ih =>
    intro U v1 h eν h0 hm
    have nm := h.num
    unfold w_X3_findLoops_L18
    intro w
    refine ⟨fun _ => hQ U w h, fun c => ⟨by omega, fun S12 e12 k12 w12 => ?_⟩⟩
    obtain ⟨H, G, g12, go⟩ := h.w w e12 k12 rfl
    have n12 := H.num
    have N12 := G.N
    refine ⟨by omega, fun a16 e16 => ⟨2147483649, fl_L40 (ν := ν) (β := gi S12 6) (by omega) (fun V a hV eV ea => ?_) _ H (by omega) (fun _ => rfl) (by rw [e16]; exact Int.le_refl _) (by have := H.ba (b := v1) (by omega); rw [← e16] at this; omega)⟩⟩
    have e := t_inc ea (by omega)
    exact ih hV eV (by omega) (by omega)
theorem sp_findLoops (w : wfC S) (h : GB4 B S) : wX3_findLoops S (fun u => GB4 B u) := by
  unfold wX3_findLoops
  refine fun k => ⟨_, frJ7_fill_53178 k (by decide) (sfJ7_fill_53178 w k (by decide)), fun S3 q3 w3 s3 k3 => ?_⟩
  have H := h.c w q3.2 s3 w3 rfl
  refine ⟨_, frJ7_fill_53178 k3 (by decide) (sfJ7_fill_53178 w3 k3 (by decide)), fun S7 q7 w7 s7 => ?_⟩
  have H2 := H.1.c w3 q7.2 s7 w7 rfl
  have n := H2.1.num.1
  exact ⟨2147483649, fl_L18 (ν := (qI S7 52 1).toInt) (by omega) (fun V _ q => q) _ H2.1 rfl (by decide) (by rw [li_0k]; decide)⟩
/-- Graph at rest: nothing drawn yet, or a Row -/
def GrR (B : Nat × Nat) (S : MS) : Prop := ShC B S ∧ GrL S ∧ ((qR S 52 0 = none ∧ (qI S 52 1).toInt = 0 ∧ qN S (qO S 52 3) = 0) ∨ GB4 B S)
/-- a Row that can be drawn -/
def RdK (S : MS) (r : Nat) : Prop := RvK S r ∧ 1 ≤ (qI S r 2).toInt ∧ (qI S r 2).toInt ≤ 1200
theorem GB4.tell (h : GB4 B S) {x1 x2 : Int32} : d_X3_tell S x1 x2 := by
  have n := h.num
  have l2 := h.1.1.1.2.1.1.1
  have b1 := h.1.1.2.1.1
  unfold d_X3_tell
  by_cases c : x1.toInt < 0
  · rw [if_pos c]; trivial
  · rw [if_neg c]
    by_cases d : x1.toInt < (qI S 52 1).toInt
    · rw [if_pos d]
      have e1 := t_add1 (b := x1) (by omega)
      rw [e1]
      repeat' split
      all_goals first | trivial | exact ⟨by omega, trivial⟩ | exact ⟨by omega, by omega, trivial⟩
    · rw [if_neg d]; trivial
theorem sp_hasEdge {x1 x2 : Int32} (h : GB4 B S) : wX3_hasEdge S x1 x2 (fun r u => (r = 0 ∨ r = 1) ∧ u = S) := by
  have n := h.num
  unfold wX3_hasEdge
  refine ⟨fun _ => ⟨Or.inl rfl, rfl⟩, fun c => ⟨fun c2 => ⟨by omega, fun a6 e6 => ⟨2147483649, ?_⟩⟩, fun _ => ⟨Or.inl rfl, rfl⟩⟩⟩
  have L : ∀ (n : Nat) {v3 : Int32}, 0 ≤ v3.toInt → 2147483648 - v3.toInt < n → w_X3_hasEdge_L21 (fun r u => (r = 0 ∨ r = 1) ∧ u = S) n S x1 x2 v3 := by
    intro n
    induction n with
    | zero => intro v3 h0 hm; have := rgI v3; omega
    | succ n ih =>
      intro v3 h0 hm
      have e1 := t_add1 (b := x1) (by omega)
      unfold w_X3_hasEdge_L21
      intro w
      rw [e1]
      refine ⟨by omega, fun _ => ⟨Or.inl rfl, rfl⟩, fun c3 => ?_⟩
      have ed := h.ed (b := x1) (k := v3) (by omega) h0 (by unfold gi; omega)
      refine ⟨by omega, fun _ => ⟨Or.inr rfl, rfl⟩, fun _ a ea => ?_⟩
      have e := t_inc ea (by omega)
      exact ih (by omega) (by omega)
  have := h.ea (b := x1) (by omega)
  rw [← e6] at this
  exact L _ this (by omega)
theorem sp_reachedCount (h : GrR B S) : wX3_reachedCount S (fun r u => (0 ≤ r.toInt ∧ r.toInt ≤ 1200) ∧ u = S) := by
  unfold wX3_reachedCount
  have hn : (qI S 52 1).toInt ≤ 1200 ∧ (qI S 52 1).toInt ≤ (qN S (qO S 52 8) : Int) := by
    rcases h.2.2 with q | q
    · omega
    · have n := q.num; omega
  refine ⟨2147483649, ?_⟩
  have L : ∀ (n : Nat) {v1 v2 : Int32}, 0 ≤ v2.toInt → 0 ≤ v1.toInt → v1.toInt ≤ v2.toInt → v2.toInt ≤ 1200 → 2147483648 - v2.toInt < n → w_X3_reachedCount_L4 (fun r u => (0 ≤ r.toInt ∧ r.toInt ≤ 1200) ∧ u = S) n S v1 v2 := by
    intro n
    induction n with
    | zero => intro v1 v2 h0 _ _ _ hm; have := rgI v2; omega
    | succ n ih =>
      intro v1 v2 h0 h1 h2 h3 hm
      unfold w_X3_reachedCount_L4
      intro w
      have J : ∀ t : Int32, 0 ≤ t.toInt ∧ t.toInt ≤ 1 → ¬ (qI S 52 1).toInt ≤ v2.toInt → w_X3_reachedCount_J27 (fun r u => (0 ≤ r.toInt ∧ r.toInt ≤ 1200) ∧ u = S) (w_X3_reachedCount_L4 (fun r u => (0 ≤ r.toInt ∧ r.toInt ≤ 1200) ∧ u = S) n) S t v1 v2 := fun t ht c => by
        unfold w_X3_reachedCount_J27
        intro _ _ a7 e7 a8 e8
        have e := t_inc e8 (by omega)
        have e2 : a7.toInt = v1.toInt + t.toInt := by rw [e7, t_addk (by omega)]
        exact ih (by omega) (by omega) (by omega) (by omega) (by omega)
      exact ⟨fun _ => ⟨⟨h1, by omega⟩, rfl⟩, fun c => ⟨by omega, fun _ => J 0 (by decide) c, fun _ => J 1 (by decide) c⟩⟩
  exact L _ (by decide) (by decide) (by decide) (by decide) (by rw [li_0k]; decide)
end GO
/-! the code's reader: how long an instruction is, as a function -/
section LF
variable {S u v : MS} {o q n : Int32}
/-- the same method of the same bytes is looked at -/
def smY (S u : MS) : Prop := smX S u ∧ qI u 8 1 = qI S 8 1 ∧ qI u 8 2 = qI S 8 2
theorem smY.rf : smY S S := ⟨smX.rf, rfl, rfl⟩
theorem smY.tr (h : smY S u) (k : smY u v) : smY S v := ⟨h.1.tr k.1, k.2.1.trans h.2.1, k.2.2.trans h.2.2⟩
theorem smY.h9 (h : smY S u) (h9 : 0 ≤ (qI S 9 1).toInt) : 0 ≤ (qI u 9 1).toInt := h.1.h9 h9
theorem smY.u1 (h : smY S u) : fX2_u1 u o = fX2_u1 S o := by unfold fX2_u1; rw [h.2.1, h.2.2, h.1.u1]; rfl
theorem smY.u2 (h : smY S u) : fX2_u2 u o = fX2_u2 S o := by unfold fX2_u2; rw [h.2.1, h.2.2, h.1.u2]; rfl
theorem smY.s4 (h : smY S u) : fX2_s4 u o = fX2_s4 S o := by unfold fX2_s4; rw [h.2.1, h.2.2, h.1.s4]; rfl
def lkB (S : MS) (q n : Int32) : Nat → Int32 → Bool
  | 0, _ => true
  | m + 1, k => if n.toInt ≤ k.toInt then true else if (fX2_s4 S (q + ((8 : Int32) * k))).toInt < (fX2_s4 S ((q + (8 : Int32)) + ((8 : Int32) * k))).toInt then lkB S q n m (k + Int32.ofInt 1) else false
theorem lkB_s {m : Nat} {k : Int32} : lkB S q n (m + 1) k = if n.toInt ≤ k.toInt then true else if (fX2_s4 S (q + ((8 : Int32) * k))).toInt < (fX2_s4 S ((q + (8 : Int32)) + ((8 : Int32) * k))).toInt then lkB S q n m (k + Int32.ofInt 1) else false := rfl
theorem smY.xlk (h : smY S u) : ∀ (m : Nat) (k : Int32), lkB u q n m k = lkB S q n m k := by
  intro m
  induction m with
  | zero => intro k; rfl
  | succ m ih => intro k; rw [lkB_s, lkB_s, h.s4, h.s4, ih]
def llF (S : MS) (o : Int32) : Int32 := if (qI S 8 2).toInt < ((fX2_numbersOf S o) + (8 : Int32)).toInt then 0 else if (fX2_s4 S ((fX2_numbersOf S o) + (4 : Int32))).toInt < 0 then 0 else if 200 < (fX2_s4 S ((fX2_numbersOf S o) + (4 : Int32))).toInt then 0 else if (((fX2_numbersOf S o) + (8 : Int32)) + ((8 : Int32) * (fX2_s4 S ((fX2_numbersOf S o) + (4 : Int32))))).toInt ≤ (qI S 8 2).toInt then (if lkB S (fX2_numbersOf S o) (fX2_s4 S ((fX2_numbersOf S o) + (4 : Int32))) 1000 1 = true then (((fX2_numbersOf S o) + (8 : Int32)) + ((8 : Int32) * (fX2_s4 S ((fX2_numbersOf S o) + (4 : Int32))))) - o else 0) else 0
def lrF (S : MS) (o : Int32) : Int32 := if (fX2_u1 S o).toInt = 170 then fX2_tableLength S o else if (fX2_u1 S o).toInt = 171 then llF S o else if (fX2_u1 S o).toInt = 188 then (if (fX2_u1 S (o + (1 : Int32))).toInt = 10 then 2 else 0) else if (fX2_u1 S o).toInt = 196 then fX2_wideLength S (fX2_u1 S (o + (1 : Int32))) else fX6_lengthOf S (fX2_u1 S o)
def laF (S : MS) (o : Int32) : Int32 := if (o + lrF S o).toInt ≤ (qI S 8 2).toInt then lrF S o else 0
theorem smY.xll (h : smY S u) : llF u o = llF S o := by
  have e : fX2_numbersOf u o = fX2_numbersOf S o := rfl
  unfold llF
  rw [e, h.2.2, h.s4, h.xlk]
theorem smY.xla (h : smY S u) : laF u o = laF S o := by
  have e : fX2_numbersOf u o = fX2_numbersOf S o := rfl
  have e2 : fX2_tableLength u o = fX2_tableLength S o := by
    unfold fX2_tableLength
    rw [e, h.2.2, h.s4, h.s4]
  have e3 : lrF u o = lrF S o := by
    unfold lrF
    rw [h.u1, h.u1, e2, h.xll]; rfl
  unfold laF
  rw [e3, h.2.2]
theorem fn_ll56 (h9 : 0 ≤ (qI S 9 1).toInt) {v1 v2 v3 : Int32} {Q : Int32 → MS → Prop} (hQ : Q (if lkB S v2 v3 1000 1 = true then (((v2 + (8 : Int32)) + ((8 : Int32) * v3)) - v1) else 0) S) (hv : v3.toInt ≤ 200) : ∃ n, w_X2_lookupLength_L56 Q n S v1 v2 v3 1 := by
  have G : ∀ (m : Nat) (k : Int32), 0 ≤ k.toInt → v3.toInt - k.toInt ≤ m → Q (if lkB S v2 v3 m k = true then (((v2 + (8 : Int32)) + ((8 : Int32) * v3)) - v1) else 0) S → ∃ n, w_X2_lookupLength_L56 Q n S v1 v2 v3 k := by
    intro m
    induction m with
    | zero =>
      intro k h0 hm hQ
      refine ⟨1, ?_⟩
      unfold w_X2_lookupLength_L56
      intro w
      exact ⟨fun c => hQ, fun c => by omega⟩
    | succ m ih =>
      intro k h0 hm hQ
      rw [lkB_s] at hQ
      by_cases c0 : v3.toInt ≤ k.toInt
      · rw [if_pos c0] at hQ
        refine ⟨1, ?_⟩
        unfold w_X2_lookupLength_L56
        intro w
        exact ⟨fun c => hQ, fun c => absurd c0 c⟩
      · rw [if_neg c0] at hQ
        by_cases c1 : (fX2_s4 S (v2 + ((8 : Int32) * k))).toInt < (fX2_s4 S ((v2 + (8 : Int32)) + ((8 : Int32) * k))).toInt
        · rw [if_pos c1] at hQ
          have e5 : (k + Int32.ofInt 1).toInt = k.toInt + 1 := by rw [t_addk (by rw [lo_1k]; omega), lo_1k]
          obtain ⟨n, hn⟩ := ih (k + Int32.ofInt 1) (by omega) (by omega) hQ
          refine ⟨n + 1, ?_⟩
          unfold w_X2_lookupLength_L56
          intro w
          refine ⟨fun c => absurd c c0, fun c => ⟨dd_X2_s4 h9, dd_X2_s4 h9, fun c2 a e => ?_, fun c2 => absurd c1 c2⟩⟩
          rw [e]
          exact hn
        · rw [if_neg c1] at hQ
          refine ⟨1, ?_⟩
          unfold w_X2_lookupLength_L56
          intro w
          exact ⟨fun c => absurd c c0, fun c => ⟨dd_X2_s4 h9, dd_X2_s4 h9, fun c2 => absurd c2 c1, fun c2 => hQ⟩⟩
  exact G 1000 1 (by decide) (by rw [li_1k]; omega) hQ
theorem fn_lookupLength (h9 : 0 ≤ (qI S 9 1).toInt) {Q : Int32 → MS → Prop} (hQ : Q (llF S o) S) : wX2_lookupLength S o Q := by
  unfold llF at hQ
  unfold wX2_lookupLength
  refine ⟨dd_X2_numbersOf, fun a4 e4 => ⟨dd_X2_s4 h9, fun a9 e9 => ?_⟩⟩
  rw [← e4] at hQ
  rw [← e9] at hQ
  refine ⟨fun c => by rw [if_pos c] at hQ; exact hQ, fun c => ?_⟩
  rw [if_neg c] at hQ
  refine ⟨fun c => by rw [if_pos c] at hQ; exact hQ, fun c => ?_⟩
  rw [if_neg c] at hQ
  refine ⟨fun c => by rw [if_pos c] at hQ; exact hQ, fun c => ?_⟩
  rw [if_neg c] at hQ
  refine ⟨fun d => ?_, fun d => by rw [if_neg d] at hQ; exact hQ⟩
  rw [if_pos d] at hQ
  exact fn_ll56 h9 hQ (by omega)
theorem fn_lengthAt (h9 : 0 ≤ (qI S 9 1).toInt) {Q : Int32 → MS → Prop} (hQ : Q (laF S o) S) : wX2_lengthAt S o Q := by
  have J : ∀ l : Int32, l = lrF S o → w_X2_lengthAt_J110 Q S o l := fun l el => by
    unfold w_X2_lengthAt_J110
    unfold laF at hQ
    rw [← el] at hQ
    intro w
    exact ⟨fun c => by rw [if_pos c] at hQ; exact hQ, fun c => by rw [if_neg c] at hQ; exact hQ⟩
  have J2 : ∀ l : Int32, l = lrF S o → w_X2_lengthAt_J97 Q S l o := fun l el => by
    unfold w_X2_lengthAt_J97
    exact fun _ => J l el
  unfold wX2_lengthAt
  refine ⟨dd_X2_u1, fun a4 e4 => ?_⟩
  rw [e4]
  unfold lrF at J J2
  refine ⟨fun c => ⟨dd_X2_tableLength h9, fun a e => J a (by rw [if_pos c]; exact e)⟩, fun c1 => ⟨fun c => ⟨_, fn_lookupLength h9 (Q := fun r' u => r' = llF S o ∧ u = S) ⟨rfl, rfl⟩, ?_⟩, fun c2 => ⟨fun c => ⟨dd_X2_u1, fun a e => ?_⟩, fun c3 => ⟨fun c => ⟨dd_X2_u1, fun a e => ⟨dd_X2_wideLength, fun b eb => J b ?_⟩⟩, fun c4 => ⟨dd_X2_u1, fun a e => ⟨dd_X6_lengthOf, fun b eb => J b ?_⟩⟩⟩⟩⟩⟩
  · rintro r' u ⟨rfl, rfl⟩ _ _
    exact J _ (by rw [if_neg c1, if_pos c])
  · rw [e]
    rw [if_neg c1, if_neg c2, if_pos c] at J2
    exact ⟨fun d => J2 2 (by rw [if_pos d]), fun d => J2 0 (by rw [if_neg d])⟩
  · rw [if_neg c1, if_neg c2, if_neg c3, if_pos c, eb, e]
  · rw [if_neg c1, if_neg c2, if_neg c3, if_neg c4, eb, e]
theorem rg_ll (ho : 0 ≤ o.toInt ∧ o.toInt ≤ 1200) : (llF S o).toInt = 0 ∨ ((0 ≤ (fX2_s4 S ((fX2_numbersOf S o) + (4 : Int32))).toInt ∧ (fX2_s4 S ((fX2_numbersOf S o) + (4 : Int32))).toInt ≤ 200) ∧ (llF S o).toInt = (fX2_numbersOf S o).toInt + 8 + 8 * (fX2_s4 S ((fX2_numbersOf S o) + (4 : Int32))).toInt - o.toInt) := by
  have hn := nOf_rg (S := S) (o := o) ⟨ho.1, by omega⟩
  unfold llF
  obtain ⟨q, eq⟩ : ∃ q, q = fX2_numbersOf S o := ⟨_, rfl⟩
  rw [← eq] at hn ⊢
  obtain ⟨y, ey⟩ : ∃ y, y = fX2_s4 S (q + (4 : Int32)) := ⟨_, rfl⟩
  rw [← ey]
  by_cases c1 : (qI S 8 2).toInt < (q + (8 : Int32)).toInt
  · rw [if_pos c1]; exact Or.inl rfl
  · rw [if_neg c1]
    by_cases c2 : y.toInt < 0
    · rw [if_pos c2]; exact Or.inl rfl
    · rw [if_neg c2]
      by_cases c3 : 200 < y.toInt
      · rw [if_pos c3]; exact Or.inl rfl
      · rw [if_neg c3]
        have e8 : ((8 : Int32) * y).toInt = 8 * y.toInt := by rw [t_mulk (by rw [li_8k]; omega), li_8k]
        have e7 : (q + (8 : Int32)).toInt = q.toInt + 8 := by rw [t_addk (by rw [li_8k]; omega), li_8k]
        have e6 : ((q + (8 : Int32)) + ((8 : Int32) * y)).toInt = q.toInt + 8 + 8 * y.toInt := by rw [t_addk (by rw [e7, e8]; omega), e7, e8]
        have e5 : (((q + (8 : Int32)) + ((8 : Int32) * y)) - o).toInt = q.toInt + 8 + 8 * y.toInt - o.toInt := by rw [t_subk (by rw [e6]; omega), e6]
        split
        · split
          · exact Or.inr ⟨by omega, e5⟩
          · exact Or.inl rfl
        · exact Or.inl rfl
theorem rg_lr (ho : 0 ≤ o.toInt ∧ o.toInt ≤ 1200) : 0 ≤ (lrF S o).toInt ∧ (lrF S o).toInt ≤ 3000 := by
  unfold lrF
  have z2 := li_2k
  have z0 := li_0k
  split
  · exact rg_tl ho
  · split
    · have := rg_ll (S := S) ho
      have hn := nOf_rg (S := S) (o := o) ⟨ho.1, by omega⟩
      omega
    · split
      · split <;> omega
      · split
        · have := rg_wide (S := S) (x := fX2_u1 S (o + (1 : Int32))); omega
        · have := rg_lengthOf (S := S) (x := fX2_u1 S o); omega
theorem rg_la (ho : 0 ≤ o.toInt ∧ o.toInt ≤ 1200) : (0 ≤ (laF S o).toInt ∧ (laF S o).toInt ≤ 3000) ∧ ((laF S o).toInt = 0 ∨ ((laF S o) = lrF S o ∧ o.toInt + (laF S o).toInt ≤ (qI S 8 2).toInt)) := by
  have h := rg_lr (S := S) ho
  have e : (o + lrF S o).toInt = o.toInt + (lrF S o).toInt := t_addk (by omega)
  unfold laF
  by_cases c : (o + lrF S o).toInt ≤ (qI S 8 2).toInt
  · rw [if_pos c]; exact ⟨h, Or.inr ⟨rfl, by omega⟩⟩
  · rw [if_neg c]; exact ⟨by decide, Or.inl rfl⟩
end LF
/-! what decode finds, and what it weighs -/
theorem gr_b {x y : Int32} (hy : ∀ i, 8 ≤ i → y.toBitVec.getLsbD i = false) : ((((x.toInt8.toInt32).toInt64 <<< ((8 : Int32).toInt64 &&& 63)) ||| y.toInt64) >>> ((8 : Int32).toInt64 &&& 63)).toInt32 = x.toInt8.toInt32 := by
  have e : ((8 : Int32).toInt64 &&& 63) = (8 : Int64) := by decide
  rw [e]
  apply Int32.toBitVec_inj.mp
  have e8 : ((8 : Int64).toBitVec.smod 64#64) = 8#64 := by decide
  simp only [Int64.toBitVec_toInt32, Int64.toBitVec_shiftRight, Int64.toBitVec_or, Int64.toBitVec_shiftLeft, Int32.toBitVec_toInt64, Int8.toBitVec_toInt32, Int32.toBitVec_toInt8, e8]
  apply BitVec.eq_of_getLsbD_eq
  intro i hi
  have m : y.toBitVec.msb = false := by rw [BitVec.msb_eq_getLsbD_last]; exact hy _ (by decide)
  have z : ((Int64.toBitVec 8).smod 64).toNat = 8 := by decide
  rw [BitVec.getLsbD_signExtend, if_pos (by omega), BitVec.sshiftRight_eq', z, BitVec.getLsbD_sshiftRight, BitVec.shiftLeft_eq', z, BitVec.getLsbD_or, BitVec.getLsbD_shiftLeft, BitVec.getLsbD_signExtend (v := 64), BitVec.getLsbD_signExtend (v := 64), m]
  have c2 : 8 + i - 8 = i := by omega
  rw [c2, if_pos (show 8 + i < 64 by omega), if_pos hi]
  have c3 : (if 8 + i < 32 then y.toBitVec.getLsbD (8 + i) else false) = false := by
    split
    · exact hy _ (by omega)
    · rfl
  rw [c3]
  have d1 : decide (i < 32) = true := decide_eq_true hi
  have d2 : decide (64 ≤ i) = false := decide_eq_false (by omega)
  have d3 : decide (8 + i < 64) = true := decide_eq_true (by omega)
  have d4 : decide (8 + i < 8) = false := decide_eq_false (by omega)
  have d5 : decide (i < 64) = true := decide_eq_true (by omega)
  simp [d1, d2, d3, d4, d5]
def aW (o : Int) (a : Int64) : Int := if (153 ≤ o ∧ o ≤ 167) ∨ o = 198 ∨ o = 199 then 9 else if o = 170 then 8 else if o = 171 then 0 else if o = 9 then (if a.toInt = 0 ∨ a.toInt = 1 then 3 else 6) else if o = 19 ∨ o = 20 then 6 else if o = 178 ∨ o = 179 ∨ o = 184 then 9 else if o = 17 then (if -1 ≤ a.toInt ∧ a.toInt ≤ 5 then 3 else 6) else if o = 21 ∨ o = 22 ∨ o = 25 ∨ o = 54 ∨ o = 55 ∨ o = 58 then (if 0 ≤ a.toInt ∧ a.toInt < 4 then 3 else 6) else if o = 132 then (if ((a >>> ((8 : Int32).toInt64 &&& 63)).toInt32).toInt8.toInt32 = (a >>> ((8 : Int32).toInt64 &&& 63)).toInt32 then 9 else 18) else if o = 188 then 6 else 3
theorem aW_18 {o : Int} {a : Int64} : 0 ≤ aW o a ∧ aW o a ≤ 18 := by
  unfold aW
  repeat' split
  all_goals omega
theorem aW_9 {o : Int} {a : Int64} (h : o ≠ 132) : aW o a ≤ 9 := by
  unfold aW
  repeat' split
  all_goals omega
theorem aW_6 {o : Int} {a : Int64} (h : o = 17 ∨ o = 19 ∨ o = 20 ∨ o = 21 ∨ o = 22 ∨ o = 25 ∨ o = 54 ∨ o = 55 ∨ o = 58) : aW o a ≤ 6 := by
  unfold aW
  repeat' split
  all_goals omega
theorem aW_3 {o : Int} {a : Int64} (h : o = 21 ∨ o = 22 ∨ o = 25 ∨ o = 54 ∨ o = 55 ∨ o = 58) (ha : 0 ≤ a.toInt ∧ a.toInt < 4) : aW o a ≤ 3 := by
  unfold aW
  repeat' split
  all_goals omega
theorem aW_17 {a : Int64} (ha : -1 ≤ a.toInt ∧ a.toInt ≤ 5) : aW 17 a ≤ 3 := by
  unfold aW
  repeat' split
  all_goals omega
theorem aW_n {a : Int64} (ha : a.toInt = 0 ∨ a.toInt = 1) : aW 9 a ≤ 3 := by
  unfold aW
  repeat' split
  all_goals omega
theorem aW_o {o : Int} {a : Int64} (h : ¬ ((153 ≤ o ∧ o ≤ 167) ∨ o = 198 ∨ o = 199 ∨ o = 19 ∨ o = 20 ∨ o = 178 ∨ o = 179 ∨ o = 184)) (h2 : o ≠ 9 ∧ o ≠ 17 ∧ o ≠ 21 ∧ o ≠ 22 ∧ o ≠ 25 ∧ o ≠ 54 ∧ o ≠ 55 ∧ o ≠ 58 ∧ o ≠ 132 ∧ o ≠ 188 ∧ o ≠ 170 ∧ o ≠ 171) : aW o a = 3 := by
  unfold aW
  rw [if_neg (by omega), if_neg (by omega), if_neg (by omega), if_neg (by omega), if_neg (by omega), if_neg (by omega), if_neg (by omega), if_neg (by omega), if_neg (by omega), if_neg (by omega)]
theorem stLN_j : ∀ k : Nat, k < 202 → ((153 ≤ k ∧ k ≤ 167) ∨ k = 198 ∨ k = 199 ∨ k = 19 ∨ k = 20 ∨ k = 178 ∨ k = 179 ∨ k = 184) → (stLN.getD k 0).toInt = 3 := by decide +kernel
theorem stLN_l : ∀ k : Nat, k < 202 → (k = 21 ∨ k = 22 ∨ k = 25 ∨ k = 54 ∨ k = 55 ∨ k = 58) → (stLN.getD k 0).toInt = 2 := by decide +kernel
section DC
variable {S u v U : MS} {o : Int32}
theorem ln_of {r : Int32} {k : Nat} (h : r.toInt = k) (hk : k < 202) : (fX6_lengthOf S r).toInt = (stLN.getD k 0).toInt := by
  unfold fX6_lengthOf
  rw [if_neg (by omega), if_pos (by omega), show r.toInt.toNat = k by omega]
theorem u1_rg : 0 ≤ (fX2_u1 S o).toInt ∧ (fX2_u1 S o).toInt < 256 := by
  unfold fX2_u1
  have z : 0 ≤ (f_X2_u1_J12 S).toInt ∧ (f_X2_u1_J12 S).toInt < 256 := by
    show 0 ≤ (0 : Int32).toInt ∧ (0 : Int32).toInt < 256
    decide
  split
  · exact z
  · split
    · exact rg_u1
    · exact z
theorem bits8 {y : Int32} (h : 0 ≤ y.toInt ∧ y.toInt < 256) : ∀ i, 8 ≤ i → y.toBitVec.getLsbD i = false := by
  intro i hi
  have e : y.toInt = y.toBitVec.toInt := rfl
  have c := BitVec.toInt_eq_toNat_cond y.toBitVec
  have l : y.toBitVec.toNat < 256 := by
    have := y.toBitVec.isLt
    split at c <;> omega
  have p : (2 : Nat) ^ 8 ≤ 2 ^ i := Nat.pow_le_pow_right (by decide) hi
  exact Nat.testBit_lt_two_pow (by omega)
def DcC (S : MS) (o : Int32) (x : Int32) (y : Int64) : Prop := aW x.toInt y ≤ 3 * (laF S o).toInt ∧ (swO x → x = fX2_u1 S o ∧ y = (fX2_numbersOf S o).toInt64) ∧ (swO (fX2_u1 S o) → swO x)
theorem sp_set {x : Int32} {y : Int64} {Q : MS → Prop} (hQ : ∀ u : MS, qI u 8 9 = x → qJ u 8 10 = y → Q u) : wX2_set S x y Q := by
  unfold wX2_set
  refine fun S1 e1 _ _ S2 e2 _ _ => hQ S2 ?_ ?_
  · rw [e2]
    show qI S1 8 9 = x
    rw [e1, qI_wI, if_pos ⟨rfl, rfl⟩]
  · rw [e2, qJ_wJ, if_pos ⟨rfl, rfl⟩]
theorem lrF_o (h1 : (fX2_u1 S o).toInt ≠ 170) (h2 : (fX2_u1 S o).toInt ≠ 171) (h3 : (fX2_u1 S o).toInt ≠ 188) (h4 : (fX2_u1 S o).toInt ≠ 196) : lrF S o = fX6_lengthOf S (fX2_u1 S o) := by
  unfold lrF
  rw [if_neg h1, if_neg h2, if_neg h3, if_neg h4]
/-- the length, where it is not 0, is that of the table -/
theorem la_tab (ho : 0 ≤ o.toInt ∧ o.toInt ≤ 1200) (hl : 0 < (laF S o).toInt) (h1 : (fX2_u1 S o).toInt ≠ 170) (h2 : (fX2_u1 S o).toInt ≠ 171) (h3 : (fX2_u1 S o).toInt ≠ 188) (h4 : (fX2_u1 S o).toInt ≠ 196) : (fX2_u1 S o).toInt < 202 ∧ (laF S o).toInt = (stLN.getD (fX2_u1 S o).toInt.toNat 0).toInt := by
  have r := u1_rg (S := S) (o := o)
  rcases (rg_la (S := S) ho).2 with q | q
  · omega
  · rw [q.1, lrF_o h1 h2 h3 h4] at hl ⊢
    unfold fX6_lengthOf at hl ⊢
    rw [if_neg (by omega)] at hl ⊢
    by_cases c : (fX2_u1 S o).toInt < 202
    · rw [if_pos c]; exact ⟨c, rfl⟩
    · rw [if_neg c] at hl
      exact absurd hl (by show ¬ (0 : Int) < (0 : Int32).toInt; decide)
theorem i64_toInt {x : Int32} : (x.toInt64).toInt = x.toInt := by simp
theorem sub_k {r : Int32} {k : Int} {K : Int32} (eK : K.toInt = k) (h : 0 ≤ r.toInt ∧ r.toInt < 256) (hk : 0 ≤ k ∧ k < 256) : ((r - K).toInt64).toInt = r.toInt - k := by
  rw [i64_toInt, t_subk (by omega), eK]
theorem and3 {x : Int32} : 0 ≤ ((x &&& (3 : Int32)).toInt64).toInt ∧ ((x &&& (3 : Int32)).toInt64).toInt < 4 := by
  rw [i64_toInt]
  have := c_andk (z := x &&& (3 : Int32)) (x := x) (m := 3) (k := 2) (b := 4) rfl (by decide) (by decide) (by decide)
  omega
theorem ns_of {x : Int32} {n : Int} (h : x.toInt = n) (h1 : n ≠ 170) (h2 : n ≠ 171) : ¬ swO x := fun q => by unfold swO at q; omega
end DC
/-! decode -/
section DD
variable {S u v U : MS} {o : Int32} {Q : MS → Prop}
theorem uses0 {x : Int32} (h : (fX6_usesLocal S x).toInt = 0) : x.toInt ≠ 21 ∧ x.toInt ≠ 22 ∧ x.toInt ≠ 25 ∧ x.toInt ≠ 54 ∧ x.toInt ≠ 55 ∧ x.toInt ≠ 58 ∧ x.toInt ≠ 132 := by
  have o1 : (f_X6_usesLocal_J21 S).toInt = 1 := rfl
  have o2 : (f_X6_isLoad_J18 S).toInt = 1 := rfl
  have o3 : (f_X6_isStore_J18 S).toInt = 1 := rfl
  have z := li_0k
  unfold fX6_usesLocal fX6_isLoad fX6_isStore at h
  repeat' split at h
  all_goals omega
theorem uses1 {x : Int32} (h : ¬ (fX6_usesLocal S x).toInt = 0) (h2 : x.toInt ≠ 132) : x.toInt = 21 ∨ x.toInt = 22 ∨ x.toInt = 25 ∨ x.toInt = 54 ∨ x.toInt = 55 ∨ x.toInt = 58 := by
  have z := li_0k
  unfold fX6_usesLocal fX6_isLoad fX6_isStore at h
  by_cases c1 : x.toInt = 21
  · omega
  by_cases c2 : x.toInt = 22
  · omega
  by_cases c3 : x.toInt = 25
  · omega
  by_cases c4 : x.toInt = 54
  · omega
  by_cases c5 : x.toInt = 55
  · omega
  by_cases c6 : x.toInt = 58
  · omega
  rw [if_neg c1, if_neg c2, if_neg c3, if_pos z, if_neg c4, if_neg c5, if_neg c6, if_pos z, if_neg h2] at h
  exact absurd z h
theorem wide_of {x : Int32} (h : 0 < (fX2_wideLength S x).toInt) : (x.toInt = 132 ∧ (fX2_wideLength S x).toInt = 6) ∨ ((x.toInt = 21 ∨ x.toInt = 22 ∨ x.toInt = 25 ∨ x.toInt = 54 ∨ x.toInt = 55 ∨ x.toInt = 58) ∧ (fX2_wideLength S x).toInt = 4) := by
  have z := li_0k
  by_cases c : x.toInt = 132
  · left
    unfold fX2_wideLength
    rw [if_pos c]; exact ⟨c, rfl⟩
  · right
    unfold fX2_wideLength fX6_isLoad fX6_isStore at h ⊢
    rw [if_neg c] at h ⊢
    by_cases c1 : x.toInt = 21
    · rw [if_pos c1, if_neg (show ¬ (f_X6_isLoad_J18 S).toInt = 0 by show ¬ (1 : Int32).toInt = 0; decide)]; exact ⟨by omega, rfl⟩
    by_cases c2 : x.toInt = 22
    · rw [if_neg c1, if_pos c2, if_neg (show ¬ (f_X6_isLoad_J18 S).toInt = 0 by show ¬ (1 : Int32).toInt = 0; decide)]; exact ⟨by omega, rfl⟩
    by_cases c3 : x.toInt = 25
    · rw [if_neg c1, if_neg c2, if_pos c3, if_neg (show ¬ (f_X6_isLoad_J18 S).toInt = 0 by show ¬ (1 : Int32).toInt = 0; decide)]; exact ⟨by omega, rfl⟩
    rw [if_neg c1, if_neg c2, if_neg c3, if_pos z] at h ⊢
    by_cases c4 : x.toInt = 54
    · rw [if_pos c4, if_neg (show ¬ (f_X6_isStore_J18 S).toInt = 0 by show ¬ (1 : Int32).toInt = 0; decide)]; exact ⟨by omega, rfl⟩
    by_cases c5 : x.toInt = 55
    · rw [if_neg c4, if_pos c5, if_neg (show ¬ (f_X6_isStore_J18 S).toInt = 0 by show ¬ (1 : Int32).toInt = 0; decide)]; exact ⟨by omega, rfl⟩
    by_cases c6 : x.toInt = 58
    · rw [if_neg c4, if_neg c5, if_pos c6, if_neg (show ¬ (f_X6_isStore_J18 S).toInt = 0 by show ¬ (1 : Int32).toInt = 0; decide)]; exact ⟨by omega, rfl⟩
    rw [if_neg c4, if_neg c5, if_neg c6, if_pos z] at h
    omega
/-- an instruction that is not a switch -/
theorem DcC.no {x : Int32} {y : Int64} (hs : ¬ swO (fX2_u1 S o)) (hx : ¬ swO x) (h : aW x.toInt y ≤ 3 * (laF S o).toInt) : DcC S o x y := ⟨h, fun q => absurd q hx, fun q => absurd q hs⟩
theorem st_of {x : Int32} {y : Int64} (hQ : ∀ u : MS, DcC S o (qI u 8 9) (qJ u 8 10) → Q u) (h : DcC S o x y) : wX2_set U x y Q := sp_set (fun u e1 e2 => hQ u (by rw [e1, e2]; exact h))
def RawO (R : Int) : Prop := ¬ (2 ≤ R ∧ R ≤ 10) ∧ R ≠ 16 ∧ R ≠ 17 ∧ R ≠ 18 ∧ R ≠ 200 ∧ R ≠ 170 ∧ R ≠ 171
theorem sp_decodeLocal (y : smY S U) (ho : 0 ≤ o.toInt ∧ o.toInt ≤ 1200) (h9 : 0 ≤ (qI S 9 1).toInt) (hl : 0 < (laF S o).toInt) (hU : qI U 8 9 = fX2_u1 S o ∧ qJ U 8 10 = 0) (hr : RawO (fX2_u1 S o).toInt) (h3 : (fX6_lengthOf S (fX2_u1 S o)).toInt ≠ 3 ∨ (fX2_u1 S o).toInt = 132) (hQ : ∀ u : MS, DcC S o (qI u 8 9) (qJ u 8 10) → Q u) : wX2_decodeLocal U o Q := by
  have rg := u1_rg (S := S) (o := o)
  unfold RawO at hr
  have hs : ¬ swO (fX2_u1 S o) := ns_of rfl hr.2.2.2.2.2.1 hr.2.2.2.2.2.2
  have h9U := y.h9 h9
  unfold wX2_decodeLocal
  refine ⟨dd_X2_u1, fun a4 e4 => ?_⟩
  rw [y.u1] at e4
  rw [y.u1]
  have e4' : a4.toInt = (fX2_u1 S o).toInt := by rw [e4]
  refine ⟨fun c => ?_, fun c => ⟨fun c2 => ?_, fun c2 => ⟨dd_X6_usesLocal, fun c3 => ?_, fun c3 => ?_⟩⟩⟩
  · -- a wide one
    have lw : (laF S o).toInt = (fX2_wideLength S (fX2_u1 S (o + (1 : Int32)))).toInt := by
      rcases (rg_la (S := S) ho).2 with q | q
      · omega
      · rw [q.1]
        unfold lrF
        rw [if_neg (by omega), if_neg (by omega), if_neg (by omega), if_pos (by omega)]
    have J : ∀ t0 : Int64, w_X2_decodeLocal_J75 Q U t0 (fX2_u1 S (o + (1 : Int32))) := fun t0 => by
      unfold w_X2_decodeLocal_J75
      refine fun _ => ⟨_, st_of hQ ?_, fun _ q _ _ => q⟩
      rw [lw] at hl
      rcases wide_of hl with ⟨q1, q2⟩ | ⟨q1, q2⟩
      · exact DcC.no hs (ns_of q1 (by decide) (by decide)) (by have := aW_18 (o := (fX2_u1 S (o + (1 : Int32))).toInt) (a := t0); omega)
      · exact DcC.no hs (fun q => by unfold swO at q; omega) (by have := aW_6 (o := (fX2_u1 S (o + (1 : Int32))).toInt) (a := t0) (by omega); omega)
    exact ⟨dd_X2_u2 h9U, fun a62 _ => ⟨dd_X2_u1, fun _ => ⟨dd_X2_u1, fun _ => ⟨dd_X2_u2 h9U, J _⟩, fun _ => J _⟩, fun _ => J _⟩⟩
  · have lt := la_tab ho hl (by omega) (by omega) (by omega) (by omega)
    have L3 : (laF S o).toInt = 3 := by
      rw [lt.2, show (fX2_u1 S o).toInt.toNat = 132 by omega]; decide
    refine ⟨dd_X2_u1, dd_X2_u1, _, st_of hQ (DcC.no hs (ns_of (show (132 : Int32).toInt = 132 by decide) (by decide) (by decide)) ?_), fun _ q _ _ => q⟩
    have g := gr_b (x := fX2_u1 U (o + (2 : Int32))) (y := fX2_u1 S (o + (1 : Int32))) (bits8 u1_rg)
    show aW (132 : Int32).toInt _ ≤ _
    have e132 : (132 : Int32).toInt = 132 := by decide
    rw [e132]
    unfold aW
    rw [if_neg (by omega), if_neg (by omega), if_neg (by omega), if_neg (by omega), if_neg (by omega), if_neg (by omega), if_neg (by omega), if_neg (by omega), if_pos rfl, g, if_pos (by simp)]
    omega
  · have us := uses0 c3
    have h3' : (fX6_lengthOf S (fX2_u1 S o)).toInt ≠ 3 := by omega
    have J246 : w_X2_decodeLocal_J246 Q U a4 := by
      unfold w_X2_decodeLocal_J246
      have E : DcC S o (qI U 8 9) (qJ U 8 10) := by
        rw [hU.1, hU.2]
        refine DcC.no hs hs ?_
        by_cases c8 : (fX2_u1 S o).toInt = 188
        · have l2 : (laF S o).toInt = 2 := by
            rcases (rg_la (S := S) ho).2 with q | q
            · omega
            · rw [q.1] at hl ⊢
              unfold lrF at hl ⊢
              rw [if_neg (by omega), if_neg (by omega), if_pos c8] at hl ⊢
              split
              · rfl
              · rename_i d
                rw [if_neg d] at hl
                exact absurd hl (by decide)
          rw [c8, l2]
          unfold aW
          rw [if_neg (by omega), if_neg (by omega), if_neg (by omega), if_neg (by omega), if_neg (by omega), if_neg (by omega), if_neg (by omega), if_neg (by omega), if_neg (by omega), if_pos rfl]
          omega
        · have lt := la_tab ho hl (by omega) (by omega) c8 (by omega)
          have lo := ln_of (S := S) (r := fX2_u1 S o) (k := (fX2_u1 S o).toInt.toNat) (by omega) (by omega)
          rw [aW_o (fun q => ?_) (by omega)]
          · omega
          · have := stLN_j (fX2_u1 S o).toInt.toNat (by omega) (by omega)
            omega
      refine fun _ => ⟨fun _ => hQ U E, fun d1 => ⟨fun _ => hQ U E, fun d2 => ⟨_, st_of hQ (DcC.no hs (ns_of (show (58 : Int32).toInt = 58 by decide) (by decide) (by decide)) ?_), fun _ q _ _ => q⟩⟩⟩
      have := aW_3 (o := (58 : Int32).toInt) (a := (a4 - (75 : Int32)).toInt64) (by decide) (by rw [sub_k li_75k (by omega) (by omega)]; omega)
      omega
    have J207 : w_X2_decodeLocal_J207 Q U a4 := by
      unfold w_X2_decodeLocal_J207
      refine fun _ => ⟨fun _ => J246, fun d1 => ⟨fun _ => J246, fun d2 => ⟨fun _ => ?_, fun _ => ?_⟩⟩⟩
      · unfold w_X2_decodeLocal_J233
        refine fun _ => ⟨_, st_of hQ (DcC.no hs (ns_of (show (55 : Int32).toInt = 55 by decide) (by decide) (by decide)) ?_), fun _ q _ _ => q⟩
        have := aW_3 (o := (55 : Int32).toInt) (a := ((a4 - (59 : Int32)) &&& (3 : Int32)).toInt64) (by decide) and3
        omega
      · unfold w_X2_decodeLocal_J233
        refine fun _ => ⟨_, st_of hQ (DcC.no hs (ns_of (show (54 : Int32).toInt = 54 by decide) (by decide) (by decide)) ?_), fun _ q _ _ => q⟩
        have := aW_3 (o := (54 : Int32).toInt) (a := ((a4 - (59 : Int32)) &&& (3 : Int32)).toInt64) (by decide) and3
        omega
    have J181 : w_X2_decodeLocal_J181 Q U a4 := by
      unfold w_X2_decodeLocal_J181
      refine fun _ => ⟨fun _ => J207, fun d1 => ⟨fun _ => J207, fun d2 => ⟨_, st_of hQ (DcC.no hs (ns_of (show (25 : Int32).toInt = 25 by decide) (by decide) (by decide)) ?_), fun _ q _ _ => q⟩⟩⟩
      have := aW_3 (o := (25 : Int32).toInt) (a := (a4 - (42 : Int32)).toInt64) (by decide) (by rw [sub_k li_42k (by omega) (by omega)]; omega)
      omega
    refine ⟨fun _ => J181, fun d1 => ⟨fun _ => J181, fun d2 => ⟨fun _ => ?_, fun _ => ?_⟩⟩⟩
    · unfold w_X2_decodeLocal_J168
      refine fun _ => ⟨_, st_of hQ (DcC.no hs (ns_of (show (22 : Int32).toInt = 22 by decide) (by decide) (by decide)) ?_), fun _ q _ _ => q⟩
      have := aW_3 (o := (22 : Int32).toInt) (a := ((a4 - (26 : Int32)) &&& (3 : Int32)).toInt64) (by decide) and3
      omega
    · unfold w_X2_decodeLocal_J168
      refine fun _ => ⟨_, st_of hQ (DcC.no hs (ns_of (show (21 : Int32).toInt = 21 by decide) (by decide) (by decide)) ?_), fun _ q _ _ => q⟩
      have := aW_3 (o := (21 : Int32).toInt) (a := ((a4 - (26 : Int32)) &&& (3 : Int32)).toInt64) (by decide) and3
      omega
  · have us := uses1 c3 (by omega)
    have lt := la_tab ho hl (by omega) (by omega) (by omega) (by omega)
    have l2 := stLN_l (fX2_u1 S o).toInt.toNat (by omega) (by omega)
    refine ⟨dd_X2_u1, _, st_of hQ ?_, fun _ q _ _ => q⟩
    rw [e4]
    exact DcC.no hs hs (by have := aW_6 (o := (fX2_u1 S o).toInt) (a := (fX2_u1 S (o + (1 : Int32))).toInt64) (by omega); omega)
end DD
/-! decode whole -/
section DE
variable {S u v U : MS} {o : Int32} {Q : MS → Prop}
theorem jump0 {x : Int32} (h : (fX6_isJump S x).toInt = 0) : ¬ ((153 ≤ x.toInt ∧ x.toInt ≤ 167) ∨ x.toInt = 198 ∨ x.toInt = 199) := by
  have o1 : (f_X6_isJump_J28 S).toInt = 1 := rfl
  have z := li_0k
  unfold fX6_isJump f_X6_isJump_J14 at h
  repeat' split at h
  all_goals omega
theorem jump1 {x : Int32} (h : ¬ (fX6_isJump S x).toInt = 0) : (153 ≤ x.toInt ∧ x.toInt ≤ 167) ∨ x.toInt = 198 ∨ x.toInt = 199 := by
  have z := li_0k
  unfold fX6_isJump f_X6_isJump_J14 at h
  repeat' split at h
  all_goals omega
theorem sw_no {x : Int32} (h : (fX6_isSwitch S x).toInt = 0) : ¬ swO x := fun q => (sw_isk (S := S) q).1 h
theorem aW_j {k : Int} {a : Int64} (h : (153 ≤ k ∧ k ≤ 167) ∨ k = 198 ∨ k = 199) : aW k a = 9 := by unfold aW; rw [if_pos h]
/-- a table's length, and how many it has -/
theorem tl_ge (ho : 0 ≤ o.toInt ∧ o.toInt ≤ 1200) (hl : 0 < (fX2_tableLength S o).toInt) : ∃ d : Int, (0 ≤ d ∧ d ≤ 200) ∧ (fX2_s4 S ((fX2_numbersOf S o) + (8 : Int32))).toInt - (fX2_s4 S ((fX2_numbersOf S o) + (4 : Int32))).toInt = d ∧ (fX2_tableLength S o).toInt = (fX2_numbersOf S o).toInt + 16 + 4 * d - o.toInt := by
  have hn := nOf_rg (S := S) (o := o) ⟨ho.1, by omega⟩
  unfold fX2_tableLength at hl ⊢
  obtain ⟨q, eq⟩ : ∃ q, q = fX2_numbersOf S o := ⟨_, rfl⟩
  rw [← eq] at hn hl ⊢
  obtain ⟨x, ex⟩ : ∃ x, x = fX2_s4 S (q + (8 : Int32)) := ⟨_, rfl⟩
  obtain ⟨y, ey⟩ : ∃ y, y = fX2_s4 S (q + (4 : Int32)) := ⟨_, rfl⟩
  rw [← ex, ← ey] at hl ⊢
  have rx := rgI x
  have ry := rgI y
  have e64 : (x.toInt64 - y.toInt64).toInt = x.toInt - y.toInt := by
    rw [Int64.toInt_sub, i64_toInt, i64_toInt]
    apply Int.bmod_eq_of_le <;> omega
  have z := li_0k
  by_cases c1 : (qI S 8 2).toInt < (q + (12 : Int32)).toInt
  · rw [if_pos c1] at hl; omega
  · rw [if_neg c1] at hl ⊢
    by_cases c2 : (lg_cmp (x.toInt64 - y.toInt64) 0).toInt < 0
    · rw [if_pos c2] at hl; omega
    · rw [if_neg c2] at hl ⊢
      by_cases c3 : (lg_cmp (x.toInt64 - y.toInt64) (200 : Int64)).toInt ≤ 0
      · rw [if_pos c3] at hl ⊢
        have d2 := c_lek.mp c3
        have k200 : (200 : Int64).toInt = 200 := by decide
        have k0 : (0 : Int64).toInt = 0 := by decide
        have d1 : 0 ≤ (x.toInt64 - y.toInt64).toInt := by
          rcases c_cmpk (x := x.toInt64 - y.toInt64) (y := 0) with q | q | q <;> omega
        have s := l32_small (d := x.toInt64 - y.toInt64) ⟨d1, by omega⟩
        refine ⟨x.toInt - y.toInt, by omega, rfl, ?_⟩
        have m : ((4 : Int32) * (x.toInt64 - y.toInt64).toInt32).toInt = 4 * (x.toInt - y.toInt) := by rw [t_mulk (by rw [li_4k, s]; omega), li_4k, s, e64]
        have a1 : (q + (16 : Int32)).toInt = q.toInt + 16 := by rw [t_addk (by rw [li_16k]; omega), li_16k]
        have a2 : (q + (16 : Int32) + (4 : Int32) * (x.toInt64 - y.toInt64).toInt32).toInt = q.toInt + 16 + 4 * (x.toInt - y.toInt) := by rw [t_addk (by rw [a1, m]; omega), a1, m]
        rw [t_subk (by rw [a2]; omega), a2]
      · rw [if_neg c3] at hl; omega
theorem sp_decJ45 (y : smY S U) (ho : 0 ≤ o.toInt ∧ o.toInt ≤ 1200) (h9 : 0 ≤ (qI S 9 1).toInt) (hl : 0 < (laF S o).toInt) (hU : qI U 8 9 = fX2_u1 S o ∧ qJ U 8 10 = 0) (hr : ¬ (2 ≤ (fX2_u1 S o).toInt ∧ (fX2_u1 S o).toInt ≤ 8)) (hQ : ∀ u : MS, DcC S o (qI u 8 9) (qJ u 8 10) → Q u) : w_X2_decode_J45 Q U o (fX2_u1 S o) := by
  have rg := u1_rg (S := S) (o := o)
  have h9U := y.h9 h9
  have tab := la_tab (S := S) ho hl
  unfold w_X2_decode_J45
  have J57 : (fX2_u1 S o).toInt = 9 ∨ (fX2_u1 S o).toInt = 10 → w_X2_decode_J57 Q U (fX2_u1 S o) := fun c => by
    unfold w_X2_decode_J57
    refine fun _ => ⟨_, st_of hQ (DcC.no (fun q => by unfold swO at q; omega) (ns_of (show (9 : Int32).toInt = 9 by decide) (by decide) (by decide)) ?_), fun _ q _ _ => q⟩
    have := aW_n (a := (fX2_u1 S o - (9 : Int32)).toInt64) (by rw [sub_k li_9k rg (by omega)]; omega)
    have e : (9 : Int32).toInt = 9 := by decide
    rw [e]; omega
  intro w
  refine ⟨fun c => J57 (Or.inl c), fun c9 => ⟨fun c => J57 (Or.inr c), fun c10 => ⟨fun c => ⟨dd_X2_u1, _, st_of hQ ?_, fun _ q _ _ => q⟩, fun c16 => ⟨fun c => ⟨dd_X2_u2 h9U, _, st_of hQ ?_, fun _ q _ _ => q⟩, fun c17 => ⟨fun c => ⟨dd_X2_u1, _, st_of hQ ?_, fun _ q _ _ => q⟩, fun c18 => ⟨fun c => ⟨dd_X2_s4 h9U, _, st_of hQ ?_, fun _ q _ _ => q⟩, fun c200 => ⟨dd_X6_isJump, fun cj => ⟨dd_X6_isSwitch, fun cs => ⟨dd_X6_lengthOf, fun c3 => ⟨fun c => ?_, fun c132 => ⟨dd_X2_u2 h9U, _, st_of hQ ?_, fun _ q _ _ => q⟩⟩, fun c3 => ?_⟩, fun cs => ⟨dd_X2_numbersOf, _, st_of hQ ?_, fun _ q _ _ => q⟩⟩, fun cj => ⟨dd_X2_u2 h9U, _, st_of hQ ?_, fun _ q _ _ => q⟩⟩⟩⟩⟩⟩⟩⟩
  · have lt := tab (by omega) (by omega) (by omega) (by omega)
    rw [c] at lt
    have : (stLN.getD (16 : Int).toNat 0).toInt = 2 := by decide
    refine DcC.no (fun q => by unfold swO at q; omega) (ns_of (show (17 : Int32).toInt = 17 by decide) (by decide) (by decide)) ?_
    have := aW_6 (o := (17 : Int32).toInt) (a := ((fX2_u1 U (o + (1 : Int32))).toInt8.toInt32).toInt64) (by decide)
    omega
  · have lt := tab (by omega) (by omega) (by omega) (by omega)
    rw [c] at lt
    have : (stLN.getD (17 : Int).toNat 0).toInt = 3 := by decide
    refine DcC.no (fun q => by unfold swO at q; omega) (ns_of (show (17 : Int32).toInt = 17 by decide) (by decide) (by decide)) ?_
    have := aW_6 (o := (17 : Int32).toInt) (a := ((fX2_u2 U (o + (1 : Int32))).toInt16.toInt32).toInt64) (by decide)
    omega
  · have lt := tab (by omega) (by omega) (by omega) (by omega)
    rw [c] at lt
    have : (stLN.getD (18 : Int).toNat 0).toInt = 2 := by decide
    refine DcC.no (fun q => by unfold swO at q; omega) (ns_of (show (19 : Int32).toInt = 19 by decide) (by decide) (by decide)) ?_
    have := aW_6 (o := (19 : Int32).toInt) (a := (fX2_u1 U (o + (1 : Int32))).toInt64) (by decide)
    omega
  · have lt := tab (by omega) (by omega) (by omega) (by omega)
    rw [c] at lt
    have : (stLN.getD (200 : Int).toNat 0).toInt = 5 := by decide
    refine DcC.no (fun q => by unfold swO at q; omega) (ns_of (show (167 : Int32).toInt = 167 by decide) (by decide) (by decide)) ?_
    have := aW_9 (o := (167 : Int32).toInt) (a := (o.toInt64) + ((fX2_s4 U (o + (1 : Int32))).toInt64)) (by decide)
    omega
  · unfold w_X2_decode_J247
    have ns := sw_no cs
    unfold swO at ns
    refine fun _ => ⟨_, sp_decodeLocal y ho h9 hl hU ⟨by omega, by omega, by omega, by omega, by omega, by omega, by omega⟩ (Or.inr c) hQ, fun _ q _ _ => q⟩
  · have ns := sw_no cs
    have ns' := ns
    unfold swO at ns'
    have n188 : (fX2_u1 S o).toInt ≠ 188 := fun q => by
      have := ln_of (S := U) (r := fX2_u1 S o) (k := 188) (by omega) (by decide)
      have e : (stLN.getD 188 0).toInt = 0 := by decide
      omega
    have n196 : (fX2_u1 S o).toInt ≠ 196 := fun q => by
      have := ln_of (S := U) (r := fX2_u1 S o) (k := 196) (by omega) (by decide)
      have e : (stLN.getD 196 0).toInt = 0 := by decide
      omega
    have lt := tab (by omega) (by omega) n188 n196
    have lo := ln_of (S := U) (r := fX2_u1 S o) (k := (fX2_u1 S o).toInt.toNat) (by omega) (by omega)
    refine DcC.no ns ns ?_
    have := aW_9 (o := (fX2_u1 S o).toInt) (a := (fX2_u2 U (o + (1 : Int32))).toInt64) c132
    omega
  · unfold w_X2_decode_J247
    have ns := sw_no cs
    unfold swO at ns
    refine fun _ => ⟨_, sp_decodeLocal y ho h9 hl hU ⟨by omega, by omega, by omega, by omega, by omega, by omega, by omega⟩ (Or.inl c3) hQ, fun _ q _ _ => q⟩
  · have sw := is_sw cs
    refine ⟨?_, fun _ => ⟨rfl, rfl⟩, fun q => q⟩
    have L1 : 9 ≤ (laF S o).toInt := by
      have hn := nOf_rg (S := S) (o := o) ⟨ho.1, by omega⟩
      rcases (rg_la (S := S) ho).2 with q | q
      · omega
      · rw [q.1] at hl ⊢
        unfold lrF at hl ⊢
        rcases sw with s | s
        · rw [if_pos s] at hl ⊢
          obtain ⟨d, d1, d2, d3⟩ := tl_ge ho hl
          omega
        · rw [if_neg (by omega), if_pos s] at hl ⊢
          rcases rg_ll (S := S) ho with z | z
          · omega
          · omega
    have := aW_9 (o := (fX2_u1 S o).toInt) (a := (fX2_numbersOf U o).toInt64) (by rcases sw with s | s <;> omega)
    omega
  · have j := jump1 cj
    have lt := tab (by omega) (by omega) (by omega) (by omega)
    have l3 := stLN_j (fX2_u1 S o).toInt.toNat (by omega) (by omega)
    refine DcC.no (fun q => by unfold swO at q; omega) (fun q => by unfold swO at q; omega) ?_
    have := aW_9 (o := (fX2_u1 S o).toInt) (a := (o + ((fX2_u2 U (o + (1 : Int32))).toInt16.toInt32)).toInt64) (by omega)
    omega
theorem sp_decode (w : wfC S) (ho : 0 ≤ o.toInt ∧ o.toInt ≤ 1200) (h9 : 0 ≤ (qI S 9 1).toInt) (hl : 0 < (laF S o).toInt) : wX2_decode S o (fun u => DcC S o (qI u 8 9) (qJ u 8 10) ∧ cfr [] [(42, 9), (42, 10), (42, 11)] S u) := by
  refine frX2_decode w ?_
  have rg := u1_rg (S := S) (o := o)
  unfold wX2_decode
  refine ⟨dd_X2_u1, fun a4 e4 S5 e5 k5 w5 S6 e6 k6 w6 S7 e7 k7 w7 => ?_⟩
  have f5 : cfr [] [(42, 9), (42, 10), (42, 11)] S S5 := by rw [e5]; exact cfr.oI k5 rfl
  have f6 : cfr [] [(42, 9), (42, 10), (42, 11)] S5 S6 := by rw [e6]; exact cfr.oI k6 rfl
  have f7 : cfr [] [(42, 9), (42, 10), (42, 11)] S6 S7 := by rw [e7]; exact cfr.oJ k7 rfl
  have f := (f5.tr f6).tr f7
  have k8 : qT S 8 = 42 := k5
  have y : smY S S7 := ⟨f.sm w rfl rfl rfl rfl (fun _ => by simp), f.kI k8 rfl rfl, f.kI k8 rfl rfl⟩
  have U9 : qI S7 8 9 = a4 := by
    rw [e7]
    show qI S6 8 9 = a4
    rw [e6, qI_wI, if_pos ⟨rfl, rfl⟩]
  have U10 : qJ S7 8 10 = 0 := by rw [e7, qJ_wJ, if_pos ⟨rfl, rfl⟩]
  subst e4
  refine ⟨fun c => sp_decJ45 y ho h9 hl ⟨U9, U10⟩ (by omega) (fun _ q => q), fun c => ⟨fun d => sp_decJ45 y ho h9 hl ⟨U9, U10⟩ (by omega) (fun _ q => q), fun d => ⟨_, st_of (fun _ q => q) (DcC.no (fun q => by unfold swO at q; omega) (ns_of (show (17 : Int32).toInt = 17 by decide) (by decide) (by decide)) ?_), fun _ q _ _ => q⟩⟩⟩
  have := aW_17 (a := (fX2_u1 S o - (3 : Int32)).toInt64) (by rw [sub_k li_3k rg (by omega)]; omega)
  have e : (17 : Int32).toInt = 17 := by decide
  rw [e]; omega
end DE
/-! the chain of a method's instructions -/
section CH
variable {S u v U : MS} {o : Int32}
def stp (r : Int32) : Int32 := if (1 : Int32) < r then r else (1 : Int32)
def ndV (S : MS) (o : Int32) : Int := if (fX2_u1 S o).toInt = 170 then (fX2_s4 S ((fX2_numbersOf S o) + (8 : Int32))).toInt - (fX2_s4 S ((fX2_numbersOf S o) + (4 : Int32))).toInt + 4 else if (fX2_u1 S o).toInt = 171 then 3 + 2 * (fX2_s4 S ((fX2_numbersOf S o) + (4 : Int32))).toInt else 0
def cS (S : MS) : Nat → Int32 → Int
  | 0, _ => 0
  | k + 1, o => if (qI S 8 2).toInt ≤ o.toInt then 0 else ndV S o + cS S k (o + stp (laF S o))
def ChV (S : MS) : Nat → Int32 → Prop
  | 0, _ => True
  | k + 1, o => (qI S 8 2).toInt ≤ o.toInt ∨ (0 < (laF S o).toInt ∧ ChV S k (o + stp (laF S o)))
theorem cS_s {k : Nat} : cS S (k + 1) o = if (qI S 8 2).toInt ≤ o.toInt then 0 else ndV S o + cS S k (o + stp (laF S o)) := rfl
theorem ChV_s {k : Nat} : ChV S (k + 1) o = ((qI S 8 2).toInt ≤ o.toInt ∨ (0 < (laF S o).toInt ∧ ChV S k (o + stp (laF S o)))) := rfl
theorem smY.nd (h : smY S u) : ndV u o = ndV S o := by
  have e : fX2_numbersOf u o = fX2_numbersOf S o := rfl
  unfold ndV
  rw [e, h.u1, h.s4, h.s4]
theorem smY.ch (h : smY S u) : ∀ (k : Nat) (o : Int32), ChV u k o ↔ ChV S k o := by
  intro k
  induction k with
  | zero => intro o; exact Iff.rfl
  | succ k ih => intro o; rw [ChV_s, ChV_s, h.2.2, h.xla, ih]
theorem stp_of {r : Int32} (h : 0 < r.toInt) : stp r = r := by
  unfold stp
  split
  · rfl
  · rename_i c
    have : ¬ (1 : Int32).toInt < r.toInt := fun q => c (n_lt.mpr q)
    rw [li_1k] at this
    exact (Int32.toInt_inj.mp (by rw [li_1k]; omega)).symm
/-- what a switch wants of the table, and what it weighs -/
theorem nd_rg (ho : 0 ≤ o.toInt ∧ o.toInt ≤ 1200) (hl : 0 < (laF S o).toInt) : (0 ≤ ndV S o ∧ 8 * ndV S o ≤ 3 * (laF S o).toInt ∧ o.toInt + (laF S o).toInt ≤ (qI S 8 2).toInt) ∧ ((fX2_u1 S o).toInt = 170 → ∃ d : Int, (0 ≤ d ∧ d ≤ 200) ∧ (fX2_s4 S ((fX2_numbersOf S o) + (8 : Int32))).toInt - (fX2_s4 S ((fX2_numbersOf S o) + (4 : Int32))).toInt = d ∧ ndV S o = d + 4 ∧ 8 * ndV S o + 8 ≤ 3 * (laF S o).toInt) ∧ ((fX2_u1 S o).toInt = 171 → (0 ≤ (fX2_s4 S ((fX2_numbersOf S o) + (4 : Int32))).toInt ∧ (fX2_s4 S ((fX2_numbersOf S o) + (4 : Int32))).toInt ≤ 200) ∧ ndV S o = 3 + 2 * (fX2_s4 S ((fX2_numbersOf S o) + (4 : Int32))).toInt) := by
  have hn := nOf_rg (S := S) (o := o) ⟨ho.1, by omega⟩
  rcases (rg_la (S := S) ho).2 with q | ⟨q1, q2⟩
  · omega
  · by_cases c1 : (fX2_u1 S o).toInt = 170
    · have e : lrF S o = fX2_tableLength S o := by unfold lrF; rw [if_pos c1]
      have en : ndV S o = (fX2_s4 S ((fX2_numbersOf S o) + (8 : Int32))).toInt - (fX2_s4 S ((fX2_numbersOf S o) + (4 : Int32))).toInt + 4 := by unfold ndV; rw [if_pos c1]
      rw [q1, e] at hl q2 ⊢
      obtain ⟨d, d1, d2, d3⟩ := tl_ge ho hl
      exact ⟨⟨by omega, by omega, q2⟩, fun _ => ⟨d, d1, d2, by omega, by omega⟩, fun c => by omega⟩
    · by_cases c2 : (fX2_u1 S o).toInt = 171
      · have e : lrF S o = llF S o := by unfold lrF; rw [if_neg c1, if_pos c2]
        have en : ndV S o = 3 + 2 * (fX2_s4 S ((fX2_numbersOf S o) + (4 : Int32))).toInt := by unfold ndV; rw [if_neg c1, if_pos c2]
        rw [q1, e] at hl q2 ⊢
        rcases rg_ll (S := S) ho with z | ⟨z1, z2⟩
        · omega
        · exact ⟨⟨by omega, by omega, q2⟩, fun c => absurd c c1, fun _ => ⟨z1, en⟩⟩
      · have en : ndV S o = 0 := by unfold ndV; rw [if_neg c1, if_neg c2]
        exact ⟨⟨by omega, by omega, q2⟩, fun c => absurd c c1, fun c => absurd c c2⟩
theorem wfC.k8 (w : wfC S) : qT S 8 = 42 := (w.2.1 _ finC_26).2.1
theorem wfC.k9 (w : wfC S) : qT S 9 = 46 := (w.2.1 _ finC_2).2.1
theorem smY.fr {K : List Nat} {F : List (Nat × Nat)} (w : wfC S) (f : cfr K F S u) (h1 : K.contains 101 = false) (h2 : K.contains 46 = false) (h3 : K.contains 42 = false) (h4 : F.contains (46, 0) = false) (h5 : F.contains (46, 1) = false) (h6 : F.contains (42, 1) = false) (h7 : F.contains (42, 2) = false) (hA : okO F = true) : smY S u := ⟨f.sm w h1 h2 h4 h5 (fun _ => okO_n hA (by decide)), f.kI w.k8 h3 h6, f.kI w.k8 h3 h7⟩
/-- a number out and back -/
theorem i6432 {x : Int32} : x.toInt64.toInt32 = x := by simp
theorem sw_cnt (y : smY S u) (ho : 0 ≤ o.toInt ∧ o.toInt ≤ 1200) (hl : 0 < (laF S o).toInt) (d : DcC S o (qI u 8 9) (qJ u 8 10)) (sw : swO (qI u 8 9)) : ((qI u 8 9).toInt = 170 ∧ (fX2_u1 S o).toInt = 170 ∧ (fX2_switchCount u ((qJ u 8 10).toInt32)).toInt = ndV S o - 3 ∧ 1 ≤ ndV S o - 3 ∧ ndV S o ≤ 204) ∨ ((qI u 8 9).toInt = 171 ∧ (fX2_u1 S o).toInt = 171 ∧ 2 * (fX2_switchCount u ((qJ u 8 10).toInt32)).toInt = ndV S o - 3 ∧ 0 ≤ ndV S o - 3 ∧ ndV S o ≤ 403) := by
  obtain ⟨e1, e2⟩ := d.2.1 sw
  have n := nd_rg (S := S) ho hl
  unfold fX2_switchCount
  rw [e2, i6432, y.s4, y.s4]
  rcases sw with s | s
  · left
    have c : (fX2_u1 S o).toInt = 170 := by rw [← e1]; exact s
    obtain ⟨dd, d1, d2, d3, d4⟩ := n.2.1 c
    have r1 := rgI (fX2_s4 S ((fX2_numbersOf S o) + (8 : Int32)))
    have r2 := rgI (fX2_s4 S ((fX2_numbersOf S o) + (4 : Int32)))
    have e3 : (fX2_s4 S ((fX2_numbersOf S o) + (8 : Int32)) - fX2_s4 S ((fX2_numbersOf S o) + (4 : Int32))).toInt = dd := by rw [t_subk (by omega), d2]
    refine ⟨s, c, ?_, by omega, by omega⟩
    rw [if_pos s, t_addk (by rw [e3, li_1k]; omega), e3, li_1k]
    omega
  · right
    have c : (fX2_u1 S o).toInt = 171 := by rw [← e1]; exact s
    obtain ⟨d1, d2⟩ := n.2.2 c
    refine ⟨s, c, ?_, by omega, by omega⟩
    rw [if_neg (by omega)]
    omega
theorem nd_no (hs : ¬ swO (fX2_u1 S o)) : ndV S o = 0 := by
  unfold swO at hs
  unfold ndV
  rw [if_neg (by omega), if_neg (by omega)]
/-- the next offset -/
theorem nx_of {a r : Int32} (ho : 0 ≤ o.toInt ∧ o.toInt ≤ 1200) (hl : 0 < (laF S o).toInt) (er : r = laF S o) (ea : a = o + (if (1 : Int32) < r then r else (1 : Int32))) : a = o + stp (laF S o) ∧ a.toInt = o.toInt + (laF S o).toInt := by
  have g := (rg_la (S := S) ho).1
  have e : (if (1 : Int32) < r then r else (1 : Int32)) = stp (laF S o) := by rw [er]; rfl
  rw [e] at ea
  refine ⟨ea, ?_⟩
  rw [ea, stp_of hl, t_addk (by omega)]
theorem tr_J59 {Q : Int32 → MS → Prop} {k4 : MS → Int32 → Int32 → Prop} {v1 v2 : Int32} (y : smY S U) (h9 : 0 ≤ (qI S 9 1).toInt) (hk : ∀ a : Int32, wfC U → a = v2 + (if (1 : Int32) < laF S v2 then laF S v2 else (1 : Int32)) → k4 U v1 a) : w_X2_tableRoom_J59 Q k4 U v1 v2 := by
  unfold w_X2_tableRoom_J59
  refine fun _ => ⟨_, fn_lengthAt (y.h9 h9) (Q := fun r u => r = laF U v2 ∧ u = U) ⟨rfl, rfl⟩, ?_⟩
  rintro r10 S11 ⟨rfl, rfl⟩ w11 _ a15 e15
  rw [y.xla] at e15
  exact hk a15 w11 e15
/-- tableRoom is what the chain wants -/
theorem tr_L4 {T : Int} (h9 : 0 ≤ (qI S 9 1).toInt) (hs : (qI S 8 2).toInt ≤ 1200) : ∀ (n k : Nat) {U : MS} {v1 v2 : Int32}, smY S U → ChV S k v2 → 0 ≤ v2.toInt → (v2.toInt = 0 ∨ v2.toInt ≤ (qI S 8 2).toInt) → 1201 - v2.toInt ≤ k → 0 ≤ v1.toInt → 8 * v1.toInt ≤ 3 * v2.toInt → v1.toInt + cS S k v2 = T → 2147483648 - v2.toInt < n → w_X2_tableRoom_L4 (fun r _ => r.toInt = T ∧ 0 ≤ T ∧ 8 * T ≤ 3600) n U v1 v2 := by
  intro n
  induction n with
  | zero => intro k U v1 v2 _ _ h0 _ _ _ _ _ hm; have := rgI v2; omega
  | succ n ih =>
    intro k U v1 v2 y hc h0 hv hk h1 h8 hT hm
    obtain ⟨k, rfl⟩ : ∃ k', k = k' + 1 := ⟨k - 1, by omega⟩
    rw [cS_s] at hT
    rw [ChV_s] at hc
    unfold w_X2_tableRoom_L4
    intro w
    rw [y.2.2]
    refine ⟨fun c => ?_, fun c => ?_⟩
    · rw [if_pos c] at hT
      have z := li_0k
      have e : (if (0 : Int32) < v1 then v1 else (0 : Int32)).toInt = v1.toInt := by
        split
        · rfl
        · rename_i d
          have : ¬ (0 : Int32).toInt < v1.toInt := fun q => d (n_lt.mpr q)
          omega
      exact ⟨by omega, by omega, by omega⟩
    · rw [if_neg c] at hT
      obtain ⟨hl, hc⟩ := hc.resolve_left c
      have ho : 0 ≤ v2.toInt ∧ v2.toInt ≤ 1200 := ⟨h0, by omega⟩
      have nd := nd_rg (S := S) ho hl
      have hlU : 0 < (laF U v2).toInt := by rw [y.xla]; exact hl
      refine ⟨_, sp_decode w ho (y.h9 h9) hlU, fun S4 q4 w4 s4 => ?_⟩
      have y4 : smY U S4 := smY.fr w q4.2 rfl rfl rfl rfl rfl rfl rfl rfl
      have yS := y.tr y4
      have dS : DcC S v2 (qI S4 8 9) (qJ S4 8 10) := by
        have := q4.1
        unfold DcC at this ⊢
        rw [y.xla, y.u1] at this
        exact this
      have nx : ∀ (b : Int32), b.toInt = v1.toInt + ndV S v2 → w_X2_tableRoom_J59 (fun r _ => r.toInt = T ∧ 0 ≤ T ∧ 8 * T ≤ 3600) (w_X2_tableRoom_L4 (fun r _ => r.toInt = T ∧ 0 ≤ T ∧ 8 * T ≤ 3600) n) S4 b v2 := fun b eb => by
        refine tr_J59 yS h9 (fun a _ ea => ?_)
        obtain ⟨e1, e2⟩ := nx_of ho hl rfl ea
        refine ih k yS (by rw [e1]; exact hc) (by omega) (by omega) (by omega) (by omega) (by omega) ?_ (by omega)
        rw [e1]; omega
      refine ⟨dd_X6_isSwitch, fun c2 => ?_, fun c2 => ⟨?_, fun a20 e20 => ?_⟩⟩
      · have ns := sw_no c2
        have : ndV S v2 = 0 := nd_no (fun q => ns (dS.2.2 q))
        exact nx v1 (by omega)
      · have sw := is_sw c2
        unfold d_X2_switchCount
        split
        · exact ⟨dd_X2_s4 (yS.h9 h9), dd_X2_s4 (yS.h9 h9), trivial⟩
        · exact ⟨dd_X2_s4 (yS.h9 h9), trivial⟩
      · have sw := is_sw c2
        have J56 : ∀ t : Int32, t.toInt + 3 = ndV S v2 → w_X2_tableRoom_J56 (fun r _ => r.toInt = T ∧ 0 ≤ T ∧ 8 * T ≤ 3600) (w_X2_tableRoom_L4 (fun r _ => r.toInt = T ∧ 0 ≤ T ∧ 8 * T ≤ 3600) n) S4 t 3 v1 v2 := fun t et => by
          unfold w_X2_tableRoom_J56
          intro _ a ea
          have e3 : ((3 : Int32) + t).toInt = 3 + t.toInt := by rw [t_addk (by rw [li_3k]; omega), li_3k]
          exact nx a (by rw [ea, t_addk (by omega), e3]; omega)
        rcases sw_cnt yS ho hl dS sw with ⟨s1, s2, s3, s4, s5⟩ | ⟨s1, s2, s3, s4, s5⟩
        · rw [← e20] at s3
          exact ⟨fun _ => J56 a20 (by omega), fun c => absurd s1 c⟩
        · rw [← e20] at s3
          have m : ((2 : Int32) * a20).toInt = 2 * a20.toInt := mul2_of (by omega)
          exact ⟨fun c => by omega, fun _ => J56 _ (by omega)⟩
theorem sp_tableRoom (w : wfC S) (h9 : 0 ≤ (qI S 9 1).toInt) (hs : (qI S 8 2).toInt ≤ 1200) (hc : ChV S 1300 0) : wX2_tableRoom S (fun r u => (r.toInt = cS S 1300 0 ∧ 0 ≤ cS S 1300 0 ∧ 8 * cS S 1300 0 ≤ 3600) ∧ cfr [] [(42, 9), (42, 10), (42, 11)] S u) := by
  refine frX2_tableRoom w ?_
  unfold wX2_tableRoom
  exact ⟨2147483649, tr_L4 h9 hs _ 1300 smY.rf hc (by decide) (Or.inl rfl) (by rw [li_0k]; decide) (by decide) (by decide) (by rw [li_0k]; omega) (by rw [li_0k]; decide)⟩
/-- instructionsHold: all instructions of all methods have a length -/
def ChM (S : MS) (m : Int32) : Prop := ∀ u : MS, LoQ S (stV S m) u → ChV u 1300 0
theorem LoQ.sy {a : Int32} (h : LoQ S a u) (k : LoQ S a v) : smX S u → smX S v → qI v 8 1 = qI u 8 1 ∧ qI v 8 2 = qI u 8 2 := fun _ _ => ⟨k.2.1.trans h.2.1.symm, k.2.2.1.trans h.2.2.1.symm⟩
end CH
/-! instructionsHold, with what it finds -/
section IH
variable {S u v U : MS} {o : Int32}
theorem smX.eu (h : smX S u) (k : smX S v) : smX u v := by
  obtain ⟨a1, a2, a3, a4⟩ := h
  obtain ⟨b1, b2, b3, b4⟩ := k
  exact ⟨b1.trans a1.symm, b2.trans a2.symm, by rw [a2, b3, a3], by rw [a2, b4, a4]⟩
theorem LoQ.yy {a : Int32} (h : LoQ S a u) (k : LoQ S a v) : smY u v := ⟨h.1.eu k.1, k.2.1.trans h.2.1.symm, k.2.2.1.trans h.2.2.1.symm⟩
theorem ci_L20 {Q : Int32 → MS → Prop} {k2 : MS → Int32 → Prop} {v1 : Int32} {U : MS} (h9 : 0 ≤ (qI U 9 1).toInt) (hs : (qI U 8 2).toInt ≤ 1200) (hk : ∀ a : Int32, ChV U 1300 0 → a = v1 + Int32.ofInt 1 → k2 U a) (hq : ∀ (u : MS), smX U u → Q 0 u) : ∀ (n k : Nat) {v : Int32}, (ChV U k v → ChV U 1300 0) → 0 ≤ v.toInt → (v.toInt = 0 ∨ v.toInt ≤ (qI U 8 2).toInt) → 1201 - v.toInt ≤ k → 2147483648 - v.toInt < n → w_X2_instructionsHold_L20 Q k2 n U v1 v := by
  intro n
  induction n with
  | zero => intro k v _ h0 _ _ hm; have := rgI v; omega
  | succ n ih =>
    intro k v hc h0 hv hk' hm
    obtain ⟨k, rfl⟩ : ∃ k', k = k' + 1 := ⟨k - 1, by omega⟩
    rw [ChV_s] at hc
    unfold w_X2_instructionsHold_L20
    intro wU
    refine ⟨fun c a e => hk a (hc (Or.inl c)) e, fun c => ?_⟩
    have ho : 0 ≤ v.toInt ∧ v.toInt ≤ 1200 := ⟨h0, by omega⟩
    refine ⟨_, fn_lengthAt h9 (Q := fun r u => r = laF U v ∧ u = U) ⟨rfl, rfl⟩, ?_⟩
    rintro r8 S9 ⟨rfl, rfl⟩ w9 _
    refine ⟨fun c2 => ⟨_, fn_lengthAt h9 (Q := fun r u => r = laF S9 v ∧ u = S9) ⟨rfl, rfl⟩, ?_⟩, fun c2 => ⟨_, frX7_breaks w9 (sp_breaks w9), fun r2 u2 q2 w2 _ => ?_⟩⟩
    · rintro r13 S14 ⟨rfl, rfl⟩ w14 _ a ea
      have st := stp_of c2
      have nd := (nd_rg (S := S14) ho c2).1
      have e : a.toInt = v.toInt + (laF S14 v).toInt := by rw [ea, t_addk (by have := (rg_la (S := S14) ho).1; omega)]
      refine ih k (fun q => hc (Or.inr ⟨c2, by rw [st, ← ea]; exact q⟩)) (by omega) (by omega) (by omega) (by omega)
    · obtain ⟨rfl, f⟩ := q2
      exact hq u2 (cfr.sm w9 f (by decide) (by decide) (by decide) (by decide) (fun _ => rfl))
def AllM (S : MS) (n : Int) : Prop := ∀ m : Int32, 0 ≤ m.toInt → m.toInt < n → ChM S m
theorem ci_L2 (h9 : 0 ≤ (qI S 9 1).toInt) (hm : (qI S 9 8).toInt ≤ 60000) : ∀ (n : Nat) {U : MS} {v : Int32}, smX S U → qI U 9 8 = qI S 9 8 → (∀ j, qI U 13 j = qI S 13 j) → AllM S v.toInt → 0 ≤ v.toInt → v.toInt ≤ 60000 → 60001 - v.toInt < n → w_X2_instructionsHold_L2 (fun r u => (r = 0 ∨ AllM S (qI S 9 8).toInt) ∧ smX S u) n U v := by
  intro n
  induction n with
  | zero => intro U v _ _ _ _ h0 h1 hn; omega
  | succ n ih =>
    intro U v h e8 e13 ha h0 h1 hn
    unfold w_X2_instructionsHold_L2
    intro wU
    rw [e8]
    refine ⟨fun c => ⟨Or.inr (fun m a b => ha m a (by omega)), h⟩, fun c => ?_⟩
    refine ⟨_, frX2_lookAt wU (sp_lookAt (Q := fun u => LoQ U (stV U v) u) (h.h9 h9) (fun u q => q)), ?_⟩
    rintro u ⟨q, f⟩ wu _
    have i8 : qI u 9 8 = qI U 9 8 := f.kI wU.k9 (by decide) (by decide)
    have i13 : ∀ j, qI u 13 j = qI U 13 j := fun j => cfr.k13 wU f (by decide) (by simp)
    have mu : smX S u := h.tr q.1
    have est : stV U v = stV S v := by
      unfold stV
      rw [e13]
    have qS : LoQ S (stV S v) u := by
      obtain ⟨a1, a2, a3, a4, a5⟩ := q
      rw [est] at a2 a3 a4 a5
      have es : szV U (stV S v) = szV S (stV S v) := by unfold szV; rw [h.s4]
      exact ⟨mu, a2, by rw [a3, es], by rw [a4, es, h.u2], by rw [a5, h.u2]⟩
    refine ⟨2147483649, ci_L20 (mu.h9 h9) (by rw [q.2.2.1]; exact szV_rg) (fun a hch ea => ?_) (fun u2 m => ⟨Or.inl rfl, mu.tr m⟩) _ 1300 (fun z => z) (by decide) (Or.inl rfl) (by rw [li_0k]; decide) (by rw [li_0k]; decide)⟩
    have ea' := t_inc ea (by omega)
    refine ih mu (i8.trans e8) (fun j => (i13 j).trans (e13 j)) (fun m m0 m1 => ?_) (by omega) (by omega) (by omega)
    by_cases z : m.toInt < v.toInt
    · exact ha m m0 z
    · have : m = v := Int32.toInt_inj.mp (by omega)
      subst this
      exact fun u' hu' => ((qS.yy hu').ch 1300 0).mpr hch
theorem ct_instructionsHold (h9 : 0 ≤ (qI S 9 1).toInt) (hm : (qI S 9 8).toInt ≤ 60000) : wX2_instructionsHold S (fun r u => (r = 0 ∨ AllM S (qI S 9 8).toInt) ∧ smX S u) := by
  unfold wX2_instructionsHold
  exact ⟨60002, ci_L2 h9 hm 60002 smX.rf rfl (fun _ => rfl) (fun m a b => by rw [li_0k] at b; omega) (by decide) (by decide) (by decide)⟩
end IH
/-! a Row that is changed: all others stay -/
def rowA (t : Nat) : Bool := t == 47 || t == 222 || t == 223 || t == 406 || t == 224 || t == 225 || t == 226 || t == 227
def rfr (P : Nat) (S u : MS) : Prop := ∀ a j : Nat, rowA (qT S a) = true → (a < P ∨ P + 8 ≤ a) → qI u a j = qI S a j ∧ qJ u a j = qJ S a j ∧ qR u a j = qR S a j
section RA
variable {S u v : MS} {P q i h t : Nat}
theorem rfr.rf : rfr P S S := fun _ _ _ _ => ⟨rfl, rfl, rfl⟩
theorem rfr.tr (a : rfr P S u) (s : shx S u) (b : rfr P u v) : rfr P S v := fun x j hx hr => by
  have e : qT u x = qT S x := (s.1 x (fun z => by rw [z] at hx; cases hx)).1
  obtain ⟨a1, a2, a3⟩ := a x j hx hr
  obtain ⟨b1, b2, b3⟩ := b x j (by rw [e]; exact hx) hr
  exact ⟨b1.trans a1, b2.trans a2, b3.trans a3⟩
theorem rfr.inI {x : Int32} (h1 : P ≤ h) (h2 : h < P + 8) : rfr P S (wI S h i x) := fun a j _ hr => ⟨by rw [qI_wI, if_neg (fun z => by omega)], rfl, rfl⟩
theorem rfr.of {K : List Nat} {F : List (Nat × Nat)} (f : cfr K F S u) (hK : K.all (fun x => !rowA x) = true) (hF : F.all (fun x => !rowA x.1) = true) : rfr P S u := fun a j ha _ => by
  refine f.2.2 a j (fun z => by rw [z] at ha; cases ha) ?_ ?_
  · cases e : K.contains (qT S a) with
    | false => rfl
    | true =>
      have := List.all_eq_true.mp hK _ (List.contains_iff_mem.mp e)
      rw [ha] at this; cases this
  · cases e : F.contains (qT S a, j) with
    | false => rfl
    | true =>
      have := List.all_eq_true.mp hF _ (List.contains_iff_mem.mp e)
      simp only [ha] at this; cases this
/-- where the rows of a Row lie -/
theorem RwK.at (w : wfC S) (k : qT S P = 47) (R : RwK S P) : qO S P 0 = P + 1 ∧ qO S P 1 = P + 2 ∧ qO S P 3 = P + 3 ∧ qO S P 5 = P + 4 ∧ qO S P 6 = P + 5 ∧ qO S P 7 = P + 6 ∧ qO S P 8 = P + 7 := by
  obtain ⟨⟨a0, a1, a3, a5, a6, a7, a8⟩, _⟩ := R
  exact ⟨w.off a0 k rfl (by decide), w.off a1 k rfl (by decide), w.off a3 k rfl (by decide), w.off a5 k rfl (by decide), w.off a6 k rfl (by decide), w.off a7 k rfl (by decide), w.off a8 k rfl (by decide)⟩
theorem RwK.kd (w : wfC S) (k : qT S P = 47) (R : RwK S P) : qT S (P + 1) = 222 ∧ qT S (P + 2) = 406 ∧ qT S (P + 3) = 223 ∧ qT S (P + 4) = 224 ∧ qT S (P + 5) = 225 ∧ qT S (P + 6) = 226 ∧ qT S (P + 7) = 227 := by
  obtain ⟨e0, e1, e3, e5, e6, e7, e8⟩ := R.at w k
  obtain ⟨⟨a0, a1, a3, a5, a6, a7, a8⟩, _⟩ := R
  exact ⟨by rw [← e0]; exact w.ref a0 k, by rw [← e1]; exact w.ref a1 k, by rw [← e3]; exact w.ref a3 k, by rw [← e5]; exact w.ref a5 k, by rw [← e6]; exact w.ref a6 k, by rw [← e7]; exact w.ref a7 k, by rw [← e8]; exact w.ref a8 k⟩
/-- two Rows are apart -/
theorem RwK.apart (w : wfC S) (k : qT S P = 47) (R : RwK S P) (kq : qT S q = 47) (Rq : RwK S q) (ne : q ≠ P) : q + 8 ≤ P ∨ P + 8 ≤ q := by
  have a := R.kd w k
  have b := Rq.kd w kq
  have n : ∀ x : Nat, ∀ t : Nat, qT S x = t → t ≠ 47 → q ≠ x := fun x t e h z => h (by rw [← e, ← z]; exact kq)
  have m : ∀ x : Nat, ∀ t : Nat, qT S x = t → t ≠ 47 → P ≠ x := fun x t e h z => h (by rw [← e, ← z]; exact k)
  have n1 := n _ _ a.1 (by decide)
  have n2 := n _ _ a.2.1 (by decide)
  have n3 := n _ _ a.2.2.1 (by decide)
  have n4 := n _ _ a.2.2.2.1 (by decide)
  have n5 := n _ _ a.2.2.2.2.1 (by decide)
  have n6 := n _ _ a.2.2.2.2.2.1 (by decide)
  have n7 := n _ _ a.2.2.2.2.2.2 (by decide)
  have m1 := m _ _ b.1 (by decide)
  have m2 := m _ _ b.2.1 (by decide)
  have m3 := m _ _ b.2.2.1 (by decide)
  have m4 := m _ _ b.2.2.2.1 (by decide)
  have m5 := m _ _ b.2.2.2.2.1 (by decide)
  have m6 := m _ _ b.2.2.2.2.2.1 (by decide)
  have m7 := m _ _ b.2.2.2.2.2.2 (by decide)
  clear n m a b
  omega
/-- another Row stays -/
theorem rfr.row (f : rfr P S u) (w : wfC S) (k : qT S P = 47) (R : RwK S P) (kq : qT S q = 47) (Rq : RwK S q) (ne : q ≠ P) : rSm S u q := by
  have ap := R.apart w k kq Rq ne
  have kd := Rq.kd w kq
  have at' := Rq.at w kq
  have f0 : ∀ j, qI u q j = qI S q j ∧ qJ u q j = qJ S q j ∧ qR u q j = qR S q j := fun j => f q j (by rw [kq]; rfl) (by omega)
  have f1 := fun j => f (q + 1) j (by rw [kd.1]; rfl) (by omega)
  have f2 := fun j => f (q + 2) j (by rw [kd.2.1]; rfl) (by omega)
  have f3 := fun j => f (q + 3) j (by rw [kd.2.2.1]; rfl) (by omega)
  refine ⟨⟨(f0 2).1, (f0 4).1⟩, ⟨qO_eq (f0 0).2.2, qO_eq (f0 1).2.2, qO_eq (f0 3).2.2⟩, ?_, ?_, ?_⟩
  · rw [at'.1]; exact funext (fun j => (f1 j).1)
  · rw [at'.2.1]; exact funext (fun j => (f2 j).2.1)
  · rw [at'.2.2.1]; exact funext (fun j => (f3 j).1)
end RA
/-! a Row is filled -/
def rAr (S : MS) (r i : Nat) : Int64 := qJ S (qO S r 1) i
def rW (o : Int) (a : Int64) : Int := if o = 20 then (if a.toInt = 0 ∨ a.toInt = 1 then 3 else 6) else aW o a
def rWs (S : MS) (r : Nat) : Nat → Int
  | 0 => 0
  | i + 1 => rWs S r i + rW (rOp S r i).toInt (rAr S r i)
section RB
variable {B : Nat × Nat} {S u v : MS} {r : Nat} {x : Int32} {y : Int64}
theorem rWs_s {i : Nat} : rWs S r (i + 1) = rWs S r i + rW (rOp S r i).toInt (rAr S r i) := rfl
theorem rWs_eq : ∀ (n : Nat), (∀ i, i < n → rOp u r i = rOp S r i ∧ rAr u r i = rAr S r i) → rWs u r n = rWs S r n := by
  intro n
  induction n with
  | zero => intro _; rfl
  | succ n ih => intro h; rw [rWs_s, rWs_s, ih (fun i hi => h i (by omega)), (h n (by omega)).1, (h n (by omega)).2]
theorem rSm.xAr (s : rSm S u r) (i : Nat) : rAr u r i = rAr S r i := by unfold rAr; rw [s.2.1.2.1, s.2.2.2.1]
theorem rSm.xW (s : rSm S u r) (n : Nat) : rWs u r n = rWs S r n := rWs_eq n (fun i _ => ⟨s.xOp i, s.xAr i⟩)
theorem rW_rg {o : Int} {a : Int64} : 0 ≤ rW o a ∧ rW o a ≤ 18 := by
  unfold rW
  have := aW_18 (o := o) (a := a)
  repeat' split
  all_goals omega
/-- op and arg at one place, and how many there are -/
def AdP (S u : MS) (r : Nat) (x : Int32) (y : Int64) : Prop := (qI u r 4 = qI S r 4 ∧ qO u r 0 = qO S r 0 ∧ qO u r 1 = qO S r 1 ∧ qO u r 3 = qO S r 3 ∧ qI u (qO S r 3) = qI S (qO S r 3)) ∧ (((qI u r 2).toInt = (qI S r 2).toInt ∧ (qI S r 2).toInt = (qN S (qO S r 0) : Int) ∧ ∀ i, rOp u r i = rOp S r i ∧ rAr u r i = rAr S r i) ∨ ((qI u r 2).toInt = (qI S r 2).toInt + 1 ∧ (qI S r 2).toInt < (qN S (qO S r 0) : Int) ∧ (∀ i, i ≠ (qI S r 2).toInt.toNat → rOp u r i = rOp S r i ∧ rAr u r i = rAr S r i) ∧ rOp u r (qI S r 2).toInt.toNat = x ∧ rAr u r (qI S r 2).toInt.toNat = y))
theorem sp_set8 {i : Int32} {Q : MS → Prop} (w : wfC S) (k : qT S r = 47) (R : RwK S r) (hi : 0 ≤ i.toInt ∧ i.toInt < (qN S (qO S r 0) : Int)) (hQ : ∀ u : MS, wfC u → u = wJ (wI S (qO S r 0) i.toInt.toNat x) (qO S r 1) i.toInt.toNat y → Q u) : wX8_set S r i x y Q := by
  have R2 := R.2
  unfold wX8_set
  refine ⟨fun c => by omega, fun _ => ⟨R.1.1, fun c => by omega, fun _ => ⟨R.1.1, hi, fun S9 e9 k9 w9 => ⟨?_, ?_, fun S13 e13 k13 w13 => hQ S13 w13 ?_⟩⟩⟩⟩
  · rw [e9]; exact R.1.2.1
  · rw [e9]
    show 0 ≤ i.toInt ∧ i.toInt < (qN S (qO S r 1) : Int)
    omega
  · rw [e13, e9]; rfl
theorem sp_add (w : wfC S) (g : ShC B S) (k : qT S r = 47) : wX8_add S r x y (fun u => ShC B u ∧ AdP S u r x y ∧ rfr r S u) := by
  have R := g.row k
  have R2 := R.2
  obtain ⟨e0, e1, e3, _⟩ := R.at w k
  have kd := R.kd w k
  unfold wX8_add
  refine ⟨R.1.1, fun c => ⟨g, ⟨⟨rfl, rfl, rfl, rfl, rfl⟩, Or.inl ⟨rfl, by omega, fun i => ⟨rfl, rfl⟩⟩⟩, rfr.rf⟩, fun c _ => ⟨_, sp_set8 (Q := fun u => u = wJ (wI S (qO S r 0) (qI S r 2).toInt.toNat x) (qO S r 1) (qI S r 2).toInt.toNat y) w k R (by omega) (fun u _ e => e), ?_⟩⟩
  intro S6 q6 w6 s6 S9 e9 k9 w9
  rw [e0, e1] at q6
  have i6 : ∀ a j, qI S6 a j = if a = r + 1 ∧ j = (qI S r 2).toInt.toNat then x else qI S a j := fun a j => by
    rw [q6]
    show qI (wI S (r + 1) (qI S r 2).toInt.toNat x) a j = _
    rw [qI_wI]
  have j6 : ∀ a j, qJ S6 a j = if a = r + 2 ∧ j = (qI S r 2).toInt.toNat then y else qJ S a j := fun a j => by
    rw [q6, qJ_wJ]
    rfl
  have c6 : qI S6 r 2 = qI S r 2 := by rw [i6, if_neg (fun z => by omega)]
  have n1 : ((qI S6 r 2) + (1 : Int32)).toInt = (qI S r 2).toInt + 1 := by rw [c6, t_addk (by rw [li_1k]; omega), li_1k]
  have i9 : ∀ a j, qI S9 a j = if a = r ∧ j = 2 then (qI S6 r 2) + (1 : Int32) else qI S6 a j := fun a j => by rw [e9, qI_wI]
  have r9 : ∀ a j, qR S9 a j = qR S a j := fun a j => by rw [e9, q6]; rfl
  have o9 : ∀ a j, qO S9 a j = qO S a j := fun a j => qO_eq (r9 a j)
  have f6 : cfr [222, 406] [] S S6 := by
    rw [q6]
    exact (cfr.aI kd.1 rfl).tr (cfr.aJ (show qT (wI S (r + 1) (qI S r 2).toInt.toNat x) (r + 2) = 406 from kd.2.1) rfl)
  have g6 : ShC B S6 := ShC.ws w g f6 (by rw [q6]; rfl) (by rw [q6]; rfl) (by rw [q6]; rfl) rfl rfl
  have g9 : ShC B S9 := by
    rw [e9]
    refine ShC.cnt w6 g6 k9 (Or.inl ⟨rfl, by omega, ?_⟩)
    have : qN S6 (qO S6 r 0) = qN S (qO S r 0) := by rw [q6]; rfl
    rw [n1, this]; omega
  have op : ∀ i, rOp S9 r i = if i = (qI S r 2).toInt.toNat then x else rOp S r i := fun i => by
    unfold rOp
    rw [o9, i9, if_neg (fun z => by omega), i6, e0]
    by_cases z : i = (qI S r 2).toInt.toNat
    · rw [if_pos ⟨rfl, z⟩, if_pos z]
    · rw [if_neg (fun q => z q.2), if_neg z]
  have ar : ∀ i, rAr S9 r i = if i = (qI S r 2).toInt.toNat then y else rAr S r i := fun i => by
    unfold rAr
    have : qJ S9 (qO S9 r 1) i = qJ S6 (qO S9 r 1) i := by rw [e9]; rfl
    rw [this, o9, j6, e1]
    by_cases z : i = (qI S r 2).toInt.toNat
    · rw [if_pos ⟨rfl, z⟩, if_pos z]
    · rw [if_neg (fun q => z q.2), if_neg z]
  refine ⟨g9, ⟨⟨?_, o9 r 0, o9 r 1, o9 r 3, ?_⟩, Or.inr ⟨?_, by omega, fun i hi => ⟨by rw [op, if_neg hi], by rw [ar, if_neg hi]⟩, by rw [op, if_pos rfl], by rw [ar, if_pos rfl]⟩⟩, ?_⟩
  · rw [i9, if_neg (fun z => by omega), i6, if_neg (fun z => by omega)]
  · funext j
    rw [i9, if_neg (fun z => by omega), i6, if_neg (fun z => by omega)]
  · rw [i9, if_pos ⟨rfl, rfl⟩, n1]
  · intro a j ha hr
    refine ⟨?_, ?_, r9 a j⟩
    · rw [i9, if_neg (fun z => by omega), i6, if_neg (fun z => by omega)]
    · have : qJ S9 a j = qJ S6 a j := by rw [e9]; rfl
      rw [this, j6, if_neg (fun z => by omega)]
/-- a number is put into the table -/
def AtP (S u : MS) (r : Nat) (x : Int32) : Prop := ((qI u r 4).toInt = (qI S r 4).toInt + 1 ∧ qI u r 2 = qI S r 2 ∧ qO u r 0 = qO S r 0 ∧ qO u r 1 = qO S r 1 ∧ qO u r 3 = qO S r 3) ∧ (∀ i, rOp u r i = rOp S r i ∧ rAr u r i = rAr S r i) ∧ (∀ j, j ≠ (qI S r 4).toInt.toNat → qI u (qO S r 3) j = qI S (qO S r 3) j) ∧ qI u (qO S r 3) (qI S r 4).toInt.toNat = x
theorem sp_addToTable (w : wfC S) (g : ShC B S) (k : qT S r = 47) (hr : (qI S r 4).toInt < (qN S (qO S r 3) : Int)) : wX8_addToTable S r x (fun u => ShC B u ∧ AtP S u r x ∧ rfr r S u) := by
  have R := g.row k
  have R2 := R.2
  obtain ⟨e0, e1, e3, _⟩ := R.at w k
  have kd := R.kd w k
  unfold wX8_addToTable
  refine ⟨R.1.2.2.1, fun c => by omega, fun _ => ⟨R.1.2.2.1, by omega, fun S8 e8 k8 w8 S10 e10 k10 w10 => ?_⟩⟩
  rw [e3] at e8 k8
  have i8 : ∀ a j, qI S8 a j = if a = r + 3 ∧ j = (qI S r 4).toInt.toNat then x else qI S a j := fun a j => by rw [e8, qI_wI]
  have c8 : qI S8 r 4 = qI S r 4 := by rw [i8, if_neg (fun z => by omega)]
  have n1 : ((qI S8 r 4) + (1 : Int32)).toInt = (qI S r 4).toInt + 1 := by rw [c8, t_addk (by rw [li_1k]; omega), li_1k]
  have i10 : ∀ a j, qI S10 a j = if a = r ∧ j = 4 then (qI S8 r 4) + (1 : Int32) else qI S8 a j := fun a j => by rw [e10, qI_wI]
  have r10 : ∀ a j, qR S10 a j = qR S a j := fun a j => by rw [e10, e8]; rfl
  have j10 : ∀ a j, qJ S10 a j = qJ S a j := fun a j => by rw [e10, e8]; rfl
  have o10 : ∀ a j, qO S10 a j = qO S a j := fun a j => qO_eq (r10 a j)
  have f8 : cfr [223] [] S S8 := by rw [e8]; exact cfr.aI kd.2.2.1 rfl
  have g8 : ShC B S8 := ShC.ws w g f8 (by rw [e8]; rfl) (by rw [e8]; rfl) (by rw [e8]; rfl) rfl rfl
  have g10 : ShC B S10 := by
    rw [e10]
    refine ShC.cnt w8 g8 k10 (Or.inr (Or.inl ⟨rfl, by omega, ?_⟩))
    have : qN S8 (qO S8 r 3) = qN S (qO S r 3) := by rw [e8]; rfl
    rw [n1, this]; omega
  refine ⟨g10, ⟨⟨?_, ?_, o10 r 0, o10 r 1, o10 r 3⟩, fun i => ⟨?_, ?_⟩, fun j hj => ?_, ?_⟩, ?_⟩
  · rw [i10, if_pos ⟨rfl, rfl⟩, n1]
  · rw [i10, if_neg (fun z => by omega), i8, if_neg (fun z => by omega)]
  · unfold rOp
    rw [o10, i10, if_neg (fun z => by omega), i8, if_neg (fun z => by omega)]
  · unfold rAr
    rw [o10, j10]
  · rw [i10, if_neg (fun z => by omega), i8, if_neg (fun z => hj z.2)]
  · rw [i10, if_neg (fun z => by omega), i8, if_pos ⟨e3, rfl⟩]
  · intro a j ha hr
    refine ⟨?_, j10 a j, r10 a j⟩
    rw [i10, if_neg (fun z => by omega), i8, if_neg (fun z => by omega)]
end RB
/-! addSwitch, addTo -/
section RC
variable {B : Nat × Nat} {S u v U : MS} {r : Nat} {x : Int32} {y : Int64}
/-- an instruction more that is no switch -/
theorem RvK.mono (h : RvK S r) (e4 : (qI S r 4).toInt ≤ (qI u r 4).toInt) (n : Nat) (hn : (n : Int) ≤ (qI S r 2).toInt) (hop : ∀ i, i < n → rOp u r i = rOp S r i ∧ rAr u r i = rAr S r i) (htb : ∀ j : Nat, (j : Int) < (qI S r 4).toInt → qI u (qO u r 3) j = qI S (qO S r 3) j) : (∀ i : Nat, i < n → swO (rOp u r i) → (0 ≤ aTk u r i ∧ 1 ≤ mT u r i ∧ mT u r i ≤ 300 ∧ eT u r i ≤ (qI S r 4).toInt)) ∧ ∀ i i' : Nat, i < i' → i' < n → swO (rOp u r i) → swO (rOp u r i') → eT u r i ≤ aTk u r i' := by
  have same : ∀ i, i < n → swO (rOp u r i) → rOp u r i = rOp S r i ∧ aTk u r i = aTk S r i ∧ mT u r i = mT S r i ∧ eT u r i = eT S r i ∧ swO (rOp S r i) := fun i hi sw => by
    obtain ⟨p1, p2⟩ := hop i hi
    have swS : swO (rOp S r i) := by rw [← p1]; exact sw
    have q := h.1 i (by omega) swS
    have ea : aTk u r i = aTk S r i := by unfold rAr at p2; unfold aTk; rw [p2]
    have z : aTk S r i < (qI S r 4).toInt := by
      have := szT_ge (o := rOp S r i) q.2.1
      have e : eT S r i = aTk S r i + szT (rOp S r i) (mT S r i) := rfl
      omega
    have em : mT u r i = mT S r i := by
      unfold mT
      rw [ea, htb (aTk S r i).toNat (by omega)]
    exact ⟨p1, ea, em, by unfold eT; rw [ea, p1, em], swS⟩
  refine ⟨fun i hi sw => ?_, fun i i' hl hi s1 s2 => ?_⟩
  · obtain ⟨p1, p2, p3, p4, p5⟩ := same i hi sw
    rw [p2, p3, p4]; exact h.1 i (by omega) p5
  · obtain ⟨p1, p2, p3, p4, p5⟩ := same i (by omega) s1
    obtain ⟨q1, q2, q3, q4, q5⟩ := same i' hi s2
    rw [p4, q2]; exact h.2 i i' hl (by omega) p5 q5
theorem AdP.rv (a : AdP S u r x y) (h : RvK S r) (h0 : 0 ≤ (qI S r 2).toInt) (hx : ¬ swO x) : RvK u r := by
  obtain ⟨⟨a1, a2, a3, a4, a5⟩, a6⟩ := a
  have tb : ∀ j : Nat, (j : Int) < (qI S r 4).toInt → qI u (qO u r 3) j = qI S (qO S r 3) j := fun j _ => by rw [a4, a5]
  have M := h.mono (u := u) (by rw [a1]; exact Int.le_refl _) (qI S r 2).toInt.toNat (by omega) (fun i hi => by
    rcases a6 with q | q
    · exact q.2.2 i
    · exact q.2.2.1 i (by omega)) tb
  rcases a6 with q | q
  · refine ⟨fun i hi sw => ?_, fun i i' hl hi s1 s2 => M.2 i i' hl (by omega) s1 s2⟩
    rw [a1]; exact M.1 i (by omega) sw
  · have nl : ∀ i : Nat, (i : Int) < (qI u r 2).toInt → swO (rOp u r i) → i < (qI S r 2).toInt.toNat := fun i hi sw => by
      by_cases z : i = (qI S r 2).toInt.toNat
      · rw [z, q.2.2.2.1] at sw; exact absurd sw hx
      · omega
    refine ⟨fun i hi sw => ?_, fun i i' hl hi s1 s2 => M.2 i i' hl (nl i' hi s2) s1 s2⟩
    rw [a1]; exact M.1 i (nl i hi sw) sw
theorem AdP.wt (a : AdP S u r x y) (h0 : 0 ≤ (qI S r 2).toInt) {wt : Int} (hw : rW x.toInt y ≤ wt) (hp : 0 ≤ wt) : ((qI S r 2).toInt ≤ (qI u r 2).toInt ∧ (qI u r 2).toInt ≤ (qI S r 2).toInt + 1 ∧ ((qI S r 2).toInt < (qN S (qO S r 0) : Int) → (qI u r 2).toInt = (qI S r 2).toInt + 1)) ∧ rWs u r (qI u r 2).toInt.toNat ≤ rWs S r (qI S r 2).toInt.toNat + wt := by
  rcases a.2 with q | q
  · refine ⟨⟨by omega, by omega, fun z => by omega⟩, ?_⟩
    rw [q.1, rWs_eq (S := S) _ (fun i _ => q.2.2 i)]
    omega
  · refine ⟨⟨by omega, by omega, fun z => by omega⟩, ?_⟩
    rw [show (qI u r 2).toInt.toNat = (qI S r 2).toInt.toNat + 1 by omega, rWs_s, rWs_eq (S := S) _ (fun i hi => q.2.2.1 i (by omega)), q.2.2.2.1, q.2.2.2.2]
    omega
/-- what addTo leaves -/
def AoP (B : Nat × Nat) (S u : MS) (r : Nat) (wt nd : Int) : Prop := ShC B u ∧ RvK u r ∧ (qI u r 4).toInt = (qI S r 4).toInt + nd ∧ (((qI S r 2).toInt ≤ (qI u r 2).toInt ∧ (qI u r 2).toInt ≤ (qI S r 2).toInt + 1 ∧ ((qI S r 2).toInt < (qN S (qO S r 0) : Int) → (qI u r 2).toInt = (qI S r 2).toInt + 1)) ∧ rWs u r (qI u r 2).toInt.toNat ≤ rWs S r (qI S r 2).toInt.toNat + wt) ∧ rfr r S u
theorem ao_add {wt : Int} (w : wfC S) (g : ShC B S) (k : qT S r = 47) (rv : RvK S r) (hx : ¬ swO x) (hw : rW x.toInt y ≤ wt) : wX8_add S r x y (fun u => AoP B S u r wt 0) := by
  have R2 := (g.row k).2
  have := rW_rg (o := x.toInt) (a := y)
  have e := sp_add (x := x) (y := y) w g k
  unfold wX8_add at e ⊢
  refine ⟨e.1, fun c => ?_, fun c kk => ?_⟩
  · obtain ⟨a, b, f⟩ := e.2.1 c
    exact ⟨a, b.rv rv (by omega) hx, by rw [b.1.1]; omega, b.wt (by omega) hw (by omega), f⟩
  · obtain ⟨Q6, h6, h⟩ := e.2.2 c kk
    refine ⟨Q6, h6, fun S6 q6 w6 s6 S9 e9 k9 w9 => ?_⟩
    obtain ⟨a, b, f⟩ := h S6 q6 w6 s6 S9 e9 k9 w9
    exact ⟨a, b.rv rv (by omega) hx, by rw [b.1.1]; omega, b.wt (by omega) hw (by omega), f⟩
/-- the table of a switch, so far -/
def TaI (B : Nat × Nat) (S1 U : MS) (r : Nat) (hd : Int32) (n : Int) : Prop := (ShC B U ∧ qT U r = 47 ∧ rfr r S1 U ∧ shx S1 U) ∧ ((qI U r 4).toInt = (qI S1 r 4).toInt + n ∧ qI U r 2 = qI S1 r 2 ∧ qO U r 0 = qO S1 r 0 ∧ qO U r 1 = qO S1 r 1 ∧ qO U r 3 = qO S1 r 3 ∧ qN U (qO U r 3) = qN S1 (qO S1 r 3)) ∧ (∀ i, rOp U r i = rOp S1 r i ∧ rAr U r i = rAr S1 r i) ∧ (∀ j : Nat, (j : Int) < (qI S1 r 4).toInt → qI U (qO S1 r 3) j = qI S1 (qO S1 r 3) j) ∧ (1 ≤ n → qI U (qO S1 r 3) (qI S1 r 4).toInt.toNat = hd)
theorem TaI.nx {S1 : MS} {hd : Int32} {n : Int} (h : TaI B S1 U r hd n) (w : wfC U) (hn : 0 ≤ n) (h4 : 0 ≤ (qI S1 r 4).toInt) (hx : n = 0 → x = hd) (q : ShC B u ∧ AtP U u r x ∧ rfr r U u) (s : shy U u) : TaI B S1 u r hd (n + 1) := by
  obtain ⟨⟨a1, a2, a3, a4⟩, ⟨b1, b2, b3, b4, b5, b6⟩, c, d, e⟩ := h
  obtain ⟨g, ⟨⟨p1, p2, p3, p4, p5⟩, p6, p7, p8⟩, f⟩ := q
  have sx : shx U u := s.1
  have R := a1.row a2
  rw [b5] at p7 p8
  refine ⟨⟨g, sx.T a2 (by decide), a3.tr a4 f, a4.tr sx⟩, ⟨by omega, p2.trans b2, p3.trans b3, p4.trans b4, p5.trans b5, ?_⟩, fun i => ⟨(p6 i).1.trans (c i).1, (p6 i).2.trans (c i).2⟩, fun j hj => ?_, fun _ => ?_⟩
  · have kb := w.rf3 r 3 _ R.1.2.2.1
    rw [p5, (s.1.1 _ (by rw [kb.1]; exact kb.2.1)).2, b6]
  · rw [p7 j (by omega)]; exact d j hj
  · by_cases z : n = 0
    · rw [← hx z, ← p8]
      congr 1
      omega
    · rw [p7 _ (by omega)]; exact e (by omega)
theorem TaI.put {S1 : MS} {hd : Int32} {n : Int} (h : TaI B S1 U r hd n) (w : wfC U) (hr : (qI S1 r 4).toInt + n < (qN S1 (qO S1 r 3) : Int)) : wX8_addToTable U r x (fun u => (ShC B u ∧ AtP U u r x ∧ rfr r U u) ∧ cfr [223] [(47, 4)] U u) := frX8_addToTable w (sp_addToTable w h.1.1 h.1.2.1 (by rw [h.2.1.1, h.2.1.2.2.2.2.2]; exact hr))
theorem as_L90 {S1 : MS} {hd : Int32} {Q : MS → Prop} {q n : Int32} {m : Int} (hop : (qI S 8 9).toInt = 171) (h4 : 0 ≤ (qI S1 r 4).toInt) (hn : 0 ≤ n.toInt ∧ n.toInt ≤ 300) (hm : 1 ≤ m) (hr : (qI S1 r 4).toInt + m + n.toInt ≤ (qN S1 (qO S1 r 3) : Int)) (h9 : 0 ≤ (qI S 9 1).toInt) (hQ : ∀ V : MS, wfC V → TaI B S1 V r hd (m + n.toInt) → Q V) : ∀ (N : Nat) {U : MS} {v4 : Int32}, TaI B S1 U r hd (m + v4.toInt) → smX S U → qI U 8 9 = qI S 8 9 → 0 ≤ v4.toInt → v4.toInt ≤ n.toInt → 400 - v4.toInt < N → w_X2_addSwitch_L90 Q N U r q n v4 := by
  intro N
  induction N with
  | zero => intro U v4 _ _ _ h0 h1 hm; omega
  | succ N ih =>
    intro U v4 h y e8 h0 h1 hN
    unfold w_X2_addSwitch_L90
    intro w kr
    rw [e8]
    refine ⟨fun _ => ⟨fun c => hQ U w (by rw [show n.toInt = v4.toInt by omega]; exact h), fun c => ⟨dd_X2_s4 (y.h9 h9), fun a25 _ _ => ⟨_, h.put w (by omega), fun S27 q27 w27 s27 a ea => ?_⟩⟩⟩, fun c => absurd hop c⟩
    have e := t_inc ea (by omega)
    have f := q27.2
    refine ih (by rw [e, ← Int.add_assoc]; exact h.nx w (by omega) h4 (fun z => by omega) q27.1 s27) (y.tr (f.sm w rfl rfl rfl rfl (fun _ => rfl))) ((f.kI w.k8 rfl rfl).trans e8) (by omega) (by omega) (by omega)
theorem as_L60 {S1 : MS} {hd : Int32} {Q : MS → Prop} {q n : Int32} {m : Int} (h4 : 0 ≤ (qI S1 r 4).toInt) (hn : 0 ≤ n.toInt ∧ n.toInt ≤ 300) (hm : 1 ≤ m) (hr : (qI S1 r 4).toInt + m + n.toInt + 1 ≤ (qN S1 (qO S1 r 3) : Int)) (h9 : 0 ≤ (qI S 9 1).toInt) (hQ : ∀ V : MS, wfC V → TaI B S1 V r hd (m + n.toInt + 1) → smX S V → qI V 8 9 = qI S 8 9 → ∃ N, w_X2_addSwitch_L90 Q N V r q n 0) : ∀ (N : Nat) {U : MS} {v4 : Int32}, TaI B S1 U r hd (m + v4.toInt + 1) → smX S U → qI U 8 9 = qI S 8 9 → -1 ≤ v4.toInt → v4.toInt ≤ n.toInt → 400 - v4.toInt < N → w_X2_addSwitch_L60 Q N U r q n v4 := by
  intro N
  induction N with
  | zero => intro U v4 _ _ _ h0 h1 hm; omega
  | succ N ih =>
    intro U v4 h y e8 h0 h1 hN
    unfold w_X2_addSwitch_L60
    intro w kr
    refine ⟨fun c => hQ U w (by rw [show n.toInt = v4.toInt by omega]; exact h) y e8, fun c => ⟨dd_X2_switchTarget (y.h9 h9), fun a33 _ => ⟨dd_X2_numberOf, fun a37 _ _ => ⟨_, h.put w (by omega), fun S39 q39 w39 s39 a ea => ?_⟩⟩⟩⟩
    have e := t_inc ea (by omega)
    have f := q39.2
    have nx := h.nx w (by omega) h4 (fun z => by omega) q39.1 s39
    refine ih (by rw [e, show m + (v4.toInt + 1) + 1 = m + v4.toInt + 1 + 1 by omega]; exact nx) (y.tr (f.sm w rfl rfl rfl rfl (fun _ => rfl))) ((f.kI w.k8 rfl rfl).trans e8) (by omega) (by omega) (by omega)
end RC
/-! addSwitch whole, addTo -/
section RD
variable {B : Nat × Nat} {S u v U : MS} {r : Nat} {x : Int32} {y : Int64}
theorem aW_170 {a : Int64} : aW 170 a = 8 := by unfold aW; rw [if_neg (by omega), if_pos rfl]
theorem aW_171 {a : Int64} : aW 171 a = 0 := by unfold aW; rw [if_neg (by omega), if_neg (by omega), if_pos rfl]
theorem rW_n {o : Int} {a : Int64} (h : o ≠ 20) : rW o a = aW o a := by unfold rW; rw [if_neg h]
def swW (S : MS) : Int := if (qI S 8 9).toInt = 170 then 8 else 0
def SwC (S : MS) (nd : Int) : Prop := (((qI S 8 9).toInt = 170 ∧ (fX2_switchCount S ((qJ S 8 10).toInt32)).toInt = nd - 3 ∧ 1 ≤ nd - 3) ∨ ((qI S 8 9).toInt = 171 ∧ 2 * (fX2_switchCount S ((qJ S 8 10).toInt32)).toInt = nd - 3 ∧ 0 ≤ nd - 3)) ∧ nd ≤ 500 ∧ (fX2_switchCount S ((qJ S 8 10).toInt32)).toInt ≤ 250
theorem as_fin {S7 : MS} {hd : Int32} {nd : Int} (w : wfC S) (g : ShC B S) (k : qT S r = 47) (rv : RvK S r) (hc : SwC S nd) (ehd : hd.toInt = (fX2_switchCount S ((qJ S 8 10).toInt32)).toInt + 1) (a : AdP S S7 r (qI S 8 9) ((qI S r 4).toInt64)) (f7 : rfr r S S7) (s7 : shx S S7) (t : TaI B S7 U r hd nd) : AoP B S U r (swW S) nd := by
  have R := g.row k
  have R2 := R.2
  obtain ⟨⟨t1, t2, t3, t4⟩, ⟨b1, b2, b3, b4, b5, b6⟩, c, d, e⟩ := t
  have A1 := a.1
  have e4 : (qI S7 r 4).toInt = (qI S r 4).toInt := by rw [A1.1]
  have tb : ∀ j : Nat, (j : Int) < (qI S r 4).toInt → qI U (qO U r 3) j = qI S (qO S r 3) j := fun j hj => by
    rw [b5, d j (by omega), A1.2.2.2.1, A1.2.2.2.2]
  have hnd : 3 ≤ nd := by rcases hc.1 with q | q <;> omega
  have old : ∀ i, i < (qI S r 2).toInt.toNat → rOp U r i = rOp S r i ∧ rAr U r i = rAr S r i := fun i hi => by
    rw [(c i).1, (c i).2]
    rcases a.2 with q | q
    · exact q.2.2 i
    · exact q.2.2.1 i (by omega)
  have M := rv.mono (u := U) (by omega) (qI S r 2).toInt.toNat (by omega) old tb
  have W := a.wt (wt := swW S) (by omega) (by
    unfold swW
    rcases hc.1 with q | q
    · rw [q.1, rW_n (by omega), aW_170, if_pos rfl]; exact Int.le_refl _
    · rw [q.1, rW_n (by omega), aW_171, if_neg (by omega)]; exact Int.le_refl _) (by unfold swW; split <;> omega)
  have cU : (qI U r 2).toInt = (qI S7 r 2).toInt := by rw [b2]
  refine ⟨t1, ?_, by omega, ⟨⟨by omega, by omega, fun z => by have := W.1.2.2 z; omega⟩, ?_⟩, f7.tr s7 t3⟩
  · rcases a.2 with q | ⟨q1, q2, q3, q4, q5⟩
    · refine ⟨fun i hi sw => ?_, fun i i' hl hi s1 s2 => M.2 i i' hl (by omega) s1 s2⟩
      have := M.1 i (by omega) sw
      exact ⟨this.1, this.2.1, this.2.2.1, by omega⟩
    · have opc : rOp U r (qI S r 2).toInt.toNat = qI S 8 9 := by rw [(c _).1, q4]
      have ac : aTk U r (qI S r 2).toInt.toNat = (qI S r 4).toInt := by
        have := (c (qI S r 2).toInt.toNat).2
        rw [q5] at this
        unfold rAr at this
        unfold aTk
        rw [this, i6432]
      have mc : mT U r (qI S r 2).toInt.toNat = hd.toInt := by
        unfold mT
        rw [ac, b5, show (qI S r 4).toInt.toNat = (qI S7 r 4).toInt.toNat by omega, e (by omega)]
      have ec : eT U r (qI S r 2).toInt.toNat = (qI S r 4).toInt + nd := by
        unfold eT szT
        rw [ac, opc, mc, ehd]
        rcases hc.1 with q | q
        · rw [if_pos q.1]; omega
        · rw [if_neg (by omega)]; omega
      have cnt := hc.2.2
      have cn0 : 0 ≤ (fX2_switchCount S ((qJ S 8 10).toInt32)).toInt := by rcases hc.1 with q | q <;> omega
      refine ⟨fun i hi sw => ?_, fun i i' hl hi s1 s2 => ?_⟩
      · by_cases z : i = (qI S r 2).toInt.toNat
        · rw [z, ac, mc, ec]
          exact ⟨by omega, by omega, by omega, by omega⟩
        · have := M.1 i (by omega) sw
          exact ⟨this.1, this.2.1, this.2.2.1, by omega⟩
      · by_cases z : i' = (qI S r 2).toInt.toNat
        · rw [z, ac]
          exact (M.1 i (by omega) s1).2.2.2
        · exact M.2 i i' hl (by omega) s1 s2
  · rw [cU, rWs_eq (S := S7) _ (fun i _ => c i)]
    exact W.2
theorem sp_addSwitch {nd : Int} (w : wfC S) (g : ShC B S) (k : qT S r = 47) (rv : RvK S r) (h9 : 0 ≤ (qI S 9 1).toInt) (hc : SwC S nd) (hr : (qI S r 4).toInt + nd ≤ (qN S (qO S r 3) : Int)) : wX2_addSwitch S r (fun u => AoP B S u r (swW S) nd) := by
  have R := g.row k
  have R2 := R.2
  have hnd : 3 ≤ nd := by rcases hc.1 with q | q <;> omega
  have cnt := hc.2.2
  have cn0 : 0 ≤ (fX2_switchCount S ((qJ S 8 10).toInt32)).toInt := by rcases hc.1 with q | q <;> omega
  unfold wX2_addSwitch
  intro a1 e1
  rw [← e1] at cnt cn0
  refine ⟨dd_X2_switchCount h9, fun a5 e5 _ => ⟨_, frX8_add w (sp_add w g k), fun S7 q7 w7 s7 k7 => ?_⟩⟩
  rw [← e5] at cnt cn0
  have s7x : shx S S7 := s7.1
  have f7 := q7.2
  have y7 : smX S S7 := f7.sm w rfl rfl rfl rfl (fun _ => rfl)
  have o7 : qI S7 8 9 = qI S 8 9 := f7.kI w.k8 rfl rfl
  have A := q7.1.2.1
  have t7 : (qI S7 r 4).toInt = (qI S r 4).toInt := by rw [A.1.1]
  have l7 : qN S7 (qO S7 r 3) = qN S (qO S r 3) := by
    have kb := w.rf3 r 3 _ R.1.2.2.1
    rw [A.1.2.2.2.1, (s7.1.1 _ (by rw [kb.1]; exact kb.2.1)).2]
  have T0 : TaI B S7 S7 r (a5 + (1 : Int32)) 0 := ⟨⟨q7.1.1, k7, rfr.rf, shx.rf⟩, ⟨by omega, rfl, rfl, rfl, rfl, rfl⟩, fun i => ⟨rfl, rfl⟩, fun j _ => rfl, fun z => by omega⟩
  have ehd : (a5 + (1 : Int32)).toInt = (fX2_switchCount S ((qJ S 8 10).toInt32)).toInt + 1 := by
    rw [t_addk (by rw [li_1k]; omega), li_1k, e5, e1]
  have ec : (fX2_switchCount S ((qJ S 8 10).toInt32)).toInt = a5.toInt := by rw [e5, e1]
  have room : (qI S7 r 4).toInt + nd ≤ (qN S7 (qO S7 r 3) : Int) := by rw [t7, l7]; exact hr
  refine ⟨_, T0.put w7 (by omega), fun S11 q11 w11 s11 => ?_⟩
  have f11 := q11.2
  have y11 : smX S S11 := y7.tr (f11.sm w7 rfl rfl rfl rfl (fun _ => rfl))
  have o11 : qI S11 8 9 = qI S 8 9 := (f11.kI w7.k8 rfl rfl).trans o7
  have T1 := T0.nx w7 (by omega) (by omega) (fun _ => rfl) q11.1 s11
  have done : ∀ V : MS, TaI B S7 V r (a5 + (1 : Int32)) nd → AoP B S V r (swW S) nd := fun V t => as_fin w g k rv hc ehd A q7.1.2.2 s7x t
  have J : ∀ t : Int32, w_X2_addSwitch_J54 (fun u => AoP B S u r (swW S) nd) S11 t r r a1 a5 := fun t => by
    unfold w_X2_addSwitch_J54
    intro _ _ _ _
    refine ⟨_, T1.put w11 (by omega), fun S14 q14 w14 s14 => ⟨402, ?_⟩⟩
    have f14 := q14.2
    have y14 : smX S S14 := y11.tr (f14.sm w11 rfl rfl rfl rfl (fun _ => rfl))
    have o14 : qI S14 8 9 = qI S 8 9 := (f14.kI w11.k8 rfl rfl).trans o11
    have T2 := T1.nx w11 (by omega) (by omega) (fun z => by omega) q14.1 s14
    have lm := li_m1k
    refine as_L60 (S := S) (S1 := S7) (hd := a5 + (1 : Int32)) (B := B) (m := 2) (by omega) ⟨by omega, by omega⟩ (by omega) (by rcases hc.1 with q | q <;> omega) h9 (fun V wV tV yV oV => ?_) _ (by rw [lm]; exact T2) y14 o14 (by rw [lm]; omega) (by rw [lm]; omega) (by rw [lm]; decide)
    rcases hc.1 with q | q
    · refine ⟨1, ?_⟩
      unfold w_X2_addSwitch_L90
      intro _ _
      rw [oV]
      refine ⟨fun c => by omega, fun _ => done V ?_⟩
      rw [show nd = 2 + a5.toInt + 1 by omega]; exact tV
    · refine ⟨401, as_L90 (S := S) (S1 := S7) (hd := a5 + (1 : Int32)) (B := B) (m := 2 + a5.toInt + 1) q.1 (by omega) ⟨by omega, by omega⟩ (by omega) (by omega) h9 (fun V2 _ t2 => done V2 (by rw [show nd = 2 + a5.toInt + 1 + a5.toInt by omega]; exact t2)) _ (by rw [li_0k, Int.add_zero]; exact tV) yV oV (by decide) (by rw [li_0k]; omega) (by rw [li_0k]; decide)⟩
  exact ⟨fun _ => ⟨dd_X2_s4 (y11.h9 h9), fun a47 _ => J a47⟩, fun _ => J 0⟩
theorem AoP.le {w1 w2 nd : Int} (h : AoP B S u r w1 nd) (hw : w1 ≤ w2) : AoP B S u r w2 nd := ⟨h.1, h.2.1, h.2.2.1, ⟨h.2.2.2.1.1, by have := h.2.2.2.1.2; omega⟩, h.2.2.2.2⟩
/-- addTo: an instruction more, of the weight that decode told -/
theorem sp_addTo {nd : Int} (w : wfC S) (g : ShC B S) (k : qT S r = 47) (rv : RvK S r) (h9 : 0 ≤ (qI S 9 1).toInt) (hs : swO (qI S 8 9) → SwC S nd ∧ (qI S r 4).toInt + nd ≤ (qN S (qO S r 3) : Int)) (hn : ¬ swO (qI S 8 9) → nd = 0) : wX2_addTo S r (fun u => AoP B S u r (aW (qI S 8 9).toInt (qJ S 8 10)) nd ∧ cfr [222, 223, 406] [(47, 2), (47, 4)] S u) := by
  refine frX2_addTo w ?_
  have tr9 : ∀ S11 : MS, cfr [] [] S S11 → shy S S11 → wfC S11 → ∀ u, AoP B S11 u r (aW (qI S 8 9).toInt (qJ S 8 10)) 0 → AoP B S u r (aW (qI S 8 9).toInt (qJ S 8 10)) 0 := fun S11 f s w11 u a => by
    have R := g.row k
    have sm : rSm S S11 r := rSm.fr w k R f rfl rfl rfl
    obtain ⟨a1, a2, a3, ⟨a4, a5⟩, a6⟩ := a
    rw [sm.1.2] at a3
    rw [sm.1.1, sm.xW] at a5
    rw [sm.1.1, sm.2.1.1] at a4
    have kb := w.rf3 r 0 _ R.1.1
    rw [(s.1.1 _ (by rw [kb.1]; exact kb.2.1)).2] at a4
    exact ⟨a1, a2, a3, ⟨a4, a5⟩, (rfr.of f rfl rfl).tr s.1 a6⟩
  unfold wX2_addTo
  refine ⟨dd_X6_isJump, fun cj => ⟨dd_X6_isSwitch, fun cs => ?_, fun cs _ => ?_⟩, fun cj => ⟨dd_X2_numberOf, fun _ => ?_⟩⟩
  · have ns := sw_no cs
    have j0 := jump0 cj
    have n0 := hn ns
    subst n0
    have mem : ∀ x : Int32, (qI S 8 9).toInt = 178 ∨ (qI S 8 9).toInt = 179 ∨ (qI S 8 9).toInt = 184 → rW (qI S 8 9).toInt (x.toInt64) ≤ aW (qI S 8 9).toInt (qJ S 8 10) := fun x h => by
      have e1 : aW (qI S 8 9).toInt (qJ S 8 10) = 9 := by
        unfold aW
        rw [if_neg (by omega), if_neg (by omega), if_neg (by omega), if_neg (by omega), if_neg (by omega), if_pos (by omega)]
      unfold rW
      rw [if_neg (by omega), e1]
      exact aW_9 (by omega)
    have J179 : (qI S 8 9).toInt = 178 ∨ (qI S 8 9).toInt = 179 → w_X2_addTo_J179 (fun u => AoP B S u r (aW (qI S 8 9).toInt (qJ S 8 10)) 0) S r := fun h => by
      unfold w_X2_addTo_J179
      refine fun _ _ => ⟨_, frX2_memberOf w (sfX2_memberOf w h9 w.k9), fun r10 S11 q11 w11 s11 k11 => ⟨_, ao_add w11 (ShC.ca w g q11.2 s11 w11 rfl rfl) k11 (rv.mv (rSm.fr w k (g.row k) q11.2 rfl rfl rfl)) ns (mem r10 (by omega)), fun S14 q14 _ _ => tr9 S11 q11.2 s11 w11 S14 q14⟩⟩
    refine ⟨fun c9 _ => ⟨_, ao_add w g k rv (ns_of (show (20 : Int32).toInt = 20 by decide) (by decide) (by decide)) ?_, fun _ q _ _ => q⟩, fun c9 => ⟨fun c19 => ⟨dd_X7_entryAt, dd_X7_s4 h9, fun _ => ⟨_, ao_add w g k rv (ns_of (show (17 : Int32).toInt = 17 by decide) (by decide) (by decide)) ?_, fun _ q _ _ => q⟩⟩, fun c19 => ⟨fun c20 => ⟨dd_X7_entryAt, dd_X2_longAt h9, fun _ => ⟨_, ao_add w g k rv (ns_of (show (20 : Int32).toInt = 20 by decide) (by decide) (by decide)) ?_, fun _ q _ _ => q⟩⟩, fun c20 => ⟨fun c => J179 (Or.inl c), fun c178 => ⟨fun c => J179 (Or.inr c), fun c179 => ⟨fun c184 => ⟨_, frX2_memberOf w (sfX2_memberOf w h9 w.k9), fun r40 S41 q41 w41 s41 k41 => ⟨_, ao_add w41 (ShC.ca w g q41.2 s41 w41 rfl rfl) k41 (rv.mv (rSm.fr w k (g.row k) q41.2 rfl rfl rfl)) ns (mem r40 (by omega)), fun S44 q44 _ _ => tr9 S41 q41.2 s41 w41 S44 q44⟩⟩, fun c184 _ => ⟨_, ao_add w g k rv ns ?_, fun _ q _ _ => q⟩⟩⟩⟩⟩⟩⟩
    · have e20 : (20 : Int32).toInt = 20 := by decide
      rw [e20, c9]
      have eL : rW 20 (qJ S 8 10) = if (qJ S 8 10).toInt = 0 ∨ (qJ S 8 10).toInt = 1 then 3 else 6 := by unfold rW; rw [if_pos rfl]
      have eR : aW 9 (qJ S 8 10) = if (qJ S 8 10).toInt = 0 ∨ (qJ S 8 10).toInt = 1 then 3 else 6 := by unfold aW; rw [if_neg (by omega), if_neg (by omega), if_neg (by omega), if_pos rfl]
      rw [eL, eR]
      exact Int.le_refl _
    · have e17 : (17 : Int32).toInt = 17 := by decide
      rw [e17, c19]
      unfold rW
      rw [if_neg (by omega)]
      have e1 : aW 19 (qJ S 8 10) = 6 := by unfold aW; rw [if_neg (by omega), if_neg (by omega), if_neg (by omega), if_neg (by omega), if_pos (by omega)]
      rw [e1]
      exact aW_6 (Or.inl rfl)
    · have e20 : (20 : Int32).toInt = 20 := by decide
      rw [e20, c20]
      have e1 : aW 20 (qJ S 8 10) = 6 := by unfold aW; rw [if_neg (by omega), if_neg (by omega), if_neg (by omega), if_neg (by omega), if_pos (by omega)]
      rw [e1]
      unfold rW
      rw [if_pos rfl]
      split <;> omega
    · unfold rW
      rw [if_neg c20]
      exact Int.le_refl _
  · have sw := is_sw cs
    obtain ⟨h1, h2⟩ := hs sw
    refine ⟨_, sp_addSwitch w g k rv h9 h1 h2, fun _ q _ _ => q.le ?_⟩
    unfold swW
    rcases sw with s | s
    · rw [s, aW_170, if_pos rfl]; exact Int.le_refl _
    · rw [s, aW_171, if_neg (by omega)]; exact Int.le_refl _
  · have j1 := jump1 cj
    have ns : ¬ swO (qI S 8 9) := fun q => by unfold swO at q; omega
    have n0 := hn ns
    subst n0
    refine ⟨_, ao_add w g k rv ns ?_, fun _ q _ _ => q⟩
    unfold rW
    rw [if_neg (by omega), aW_j j1, aW_j j1]
    exact Int.le_refl _
end RD
