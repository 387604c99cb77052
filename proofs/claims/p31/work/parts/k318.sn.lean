/-! how long an instruction is -/
def CoI (S : MS) : Prop := RdI S ∧ 0 ≤ (qI S 0 36).toInt ∧ 1 ≤ (qI S 0 37).toInt ∧ (qI S 0 37).toInt ≤ 1200 ∧ (qI S 0 36).toInt + (qI S 0 37).toInt ≤ (qI S 0 12).toInt
theorem CoI.ad {S : MS} (h : CoI S) {x : Int32} (h0 : 0 ≤ x.toInt) (h1 : x.toInt < (qI S 0 37).toInt) : (qI S 0 36 + x).toInt = (qI S 0 36).toInt + x.toInt := by
  have hb := h.1.bnd
  have hc := h.2
  exact t_add (by omega)
theorem CoI.oct {S : MS} (h : CoI S) {x : Int32} (h0 : 0 ≤ x.toInt) (h1 : x.toInt < (qI S 0 37).toInt) : d_codeOctet S x := by
  have hc := h.2
  have e := h.ad h0 h1
  exact h.1.oct (x := qI S 0 36 + x) (by omega) (by omega)
theorem CoI.two {S : MS} (h : CoI S) {x : Int32} (h0 : 0 ≤ x.toInt) (h1 : x.toInt + 2 ≤ (qI S 0 37).toInt) : d_codeTwo S x := by
  have hc := h.2
  have e := h.ad h0 (by omega)
  exact ⟨h.1.two (by omega) (by omega), trivial⟩
theorem CoI.four {S : MS} (h : CoI S) {x : Int32} (h0 : 0 ≤ x.toInt) (h1 : x.toInt + 4 ≤ (qI S 0 37).toInt) : d_codeFour S x := by
  have hc := h.2
  have e := h.ad h0 (by omega)
  exact ⟨h.1.four (by omega) (by omega), trivial⟩
theorem b_co {S : MS} {x : Int32} : 0 ≤ (f_codeOctet S x).toInt ∧ (f_codeOctet S x).toInt < 256 := c_and (k := 8) (b := 256) rfl (by decide) (by decide) rfl
theorem b_u2 {x : Int32} : 0 ≤ (x &&& (65535 : Int32)).toInt ∧ (x &&& (65535 : Int32)).toInt < 65536 := c_and (k := 16) (b := 65536) rfl (by decide) (by decide) rfl
def S00 : MS := (fun _ _ => 0, fun _ _ => 0, fun _ _ => none, fun _ => 0, fun _ => 0, 0, 0)
def spB (k : Nat) : Bool :=
  let v := (f_spanOf S00 (Int32.ofNat k)).toInt
  ((v == -1) == (k == 170 || k == 171)) && ((v == -2) == (k == 196)) && decide (-2 ≤ v) && decide (v ≤ 5) &&
  (!(k == 16 || k == 18 || k == 21 || k == 22 || k == 25 || k == 54 || k == 55 || k == 58 || k == 188) || v == 2) &&
  (!(k == 17 || k == 19 || k == 20 || k == 132 || (153 ≤ k && k ≤ 167) || k == 178 || k == 179 || k == 184 || k == 198 || k == 199) || v == 3) &&
  (!(k == 200) || v == 5)
theorem spB_all : ∀ k : Fin 256, spB k.val = true := by decide +kernel
theorem i32n {x : Int32} (h0 : 0 ≤ x.toInt) : x = Int32.ofNat x.toInt.toNat := by
  apply Int32.toInt_inj.mp
  have h1 : x.toInt < 2147483648 := by have := Int32.toInt_lt x; omega
  rw [Int32.toInt_ofNat_of_lt (by omega)]
  omega
theorem spR {S : MS} {op : Int32} (h0 : 0 ≤ op.toInt) (h1 : op.toInt < 256) :
    ((f_spanOf S op).toInt = -1 ↔ op.toInt = 170 ∨ op.toInt = 171) ∧ ((f_spanOf S op).toInt = -2 ↔ op.toInt = 196) ∧ -2 ≤ (f_spanOf S op).toInt ∧ (f_spanOf S op).toInt ≤ 5 ∧
    (op.toInt = 16 ∨ op.toInt = 18 ∨ op.toInt = 21 ∨ op.toInt = 22 ∨ op.toInt = 25 ∨ op.toInt = 54 ∨ op.toInt = 55 ∨ op.toInt = 58 ∨ op.toInt = 188 → (f_spanOf S op).toInt = 2) ∧
    (op.toInt = 17 ∨ op.toInt = 19 ∨ op.toInt = 20 ∨ op.toInt = 132 ∨ (153 ≤ op.toInt ∧ op.toInt ≤ 167) ∨ op.toInt = 178 ∨ op.toInt = 179 ∨ op.toInt = 184 ∨ op.toInt = 198 ∨ op.toInt = 199 → (f_spanOf S op).toInt = 3) ∧ (op.toInt = 200 → (f_spanOf S op).toInt = 5) := by
  have e1 : f_spanOf S op = f_spanOf S00 op := rfl
  have e2 := i32n h0
  have hk : op.toInt.toNat < 256 := by omega
  have hB := spB_all ⟨op.toInt.toNat, hk⟩
  generalize hkk : op.toInt.toNat = k at *
  have ek : op.toInt = (k : Int) := by omega
  rw [e1, ek, e2]
  unfold spB at hB
  simp only [Bool.and_eq_true, beq_iff_eq, decide_eq_true_eq, Bool.or_eq_true, Bool.not_eq_true', Bool.or_eq_false_iff] at hB
  generalize (f_spanOf S00 (Int32.ofNat k)).toInt = v at hB ⊢
  obtain ⟨⟨⟨⟨⟨⟨b1, b2⟩, b3⟩, b4⟩, b5⟩, b6⟩, b7⟩ := hB
  have c1 : v = -1 ↔ (k = 170 ∨ k = 171) := by
    constructor
    · intro q
      subst q
      simpa using b1.symm
    · intro q
      have : ((k == 170 || k == 171) = true) := by simpa using q
      rw [this] at b1
      simpa using b1
  have c2 : v = -2 ↔ k = 196 := by
    constructor
    · intro q
      subst q
      simpa using b2.symm
    · intro q
      have : ((k == 196) = true) := by simpa using q
      rw [this] at b2
      simpa using b2
  refine ⟨by rw [c1]; omega, by rw [c2]; omega, b3, b4, fun q => ?_, fun q => ?_, fun q => ?_⟩
  · rcases b5 with b5 | b5
    · simp at b5; omega
    · exact b5
  · rcases b6 with b6 | b6
    · simp at b6; omega
    · exact b6
  · rcases b7 with b7 | b7
    · simp at b7; omega
    · exact b7
theorem t_mod4 {x : Int32} (h0 : 0 ≤ x.toInt) (h1 : x.toInt ≤ 100000) : (x - x / (4 : Int32) * (4 : Int32)).toInt = x.toInt % 4 := by
  simp only [Int32.toInt_sub, Int32.toInt_mul, Int32.toInt_div, Int32.reduceToInt]
  simp only [Int.bmod_def]
  rw [Int.tdiv_eq_ediv_of_nonneg h0]
  omega
theorem f_swF {S : MS} {x : Int32} (h0 : 0 ≤ x.toInt) (h1 : x.toInt ≤ 100000) : (f_switchFrom S x).toInt = x.toInt + 4 - x.toInt % 4 := by
  unfold f_switchFrom
  have e := t_mod4 h0 h1
  have e3 : ((3 : Int32) - (x - x / (4 : Int32) * (4 : Int32))).toInt = 3 - x.toInt % 4 := by rw [t_sub (by rw [e, li_3]; omega), e, li_3]
  have e1 : (x + (1 : Int32)).toInt = x.toInt + 1 := by rw [t_add (by rw [li_1]; omega), li_1]
  rw [t_add (by rw [e1, e3]; omega), e1, e3]
  omega
/-- a switch: how many, and how long -/
def SwR (S : MS) (o : Int32) (op : Int32) (n : Int) : Prop := ∃ p : Int32, p = f_switchFrom S o ∧ (op.toInt = 170 → ∃ k : Int, 0 ≤ k ∧ k ≤ 200 ∧ (f_codeFour S (p + 8)).toInt - (f_codeFour S (p + 4)).toInt = k ∧ n = p.toInt + 12 + 4 * (k + 1) - o.toInt ∧ p.toInt + 12 ≤ (qI S 0 37).toInt) ∧ (op.toInt ≠ 170 → 0 ≤ (f_codeFour S (p + 4)).toInt ∧ (f_codeFour S (p + 4)).toInt ≤ 200 ∧ n = p.toInt + 8 + 8 * (f_codeFour S (p + 4)).toInt - o.toInt ∧ p.toInt + 8 ≤ (qI S 0 37).toInt)
theorem sp_sS_L {S : MS} {Q : Int32 → MS → Prop} {o p n : Int32} (h : CoI S) (hp : 0 ≤ p.toInt ∧ p.toInt ≤ 1200) (hn : 0 ≤ n.toInt ∧ n.toInt ≤ 200) (hs : p.toInt + 8 + 8 * n.toInt ≤ (qI S 0 37).toInt) (h0 : Q 0 S) (h1 : Q (((p + (8 : Int32)) + ((8 : Int32) * n)) - o) S) :
    ∀ (m : Nat) (k : Int32), (1 ≤ k.toInt ∧ k.toInt ≤ 201) → (201 - k.toInt).toNat < m → w_switchSpan_L136 Q m S o p n k := by
  have hc := h.2
  intro m
  induction m with
  | zero => intro k _ h9; exact absurd h9 (Nat.not_lt_zero _)
  | succ m ih =>
    intro k hk hm
    unfold w_switchSpan_L136
    refine ⟨fun _ => h1, fun c => ?_⟩
    have e8 : ((8 : Int32) * k).toInt = 8 * k.toInt := by rw [t_mul (by rw [li_8]; omega), li_8]
    have ep : (p + (8 : Int32)).toInt = p.toInt + 8 := by rw [t_add (by rw [li_8]; omega), li_8]
    have e1 : (p + (8 : Int32) * k).toInt = p.toInt + 8 * k.toInt := by rw [t_add (by rw [e8]; omega), e8]
    have e2 : (p + (8 : Int32) + (8 : Int32) * k).toInt = p.toInt + 8 + 8 * k.toInt := by rw [t_add (by rw [e8, ep]; omega), e8, ep]
    have ek : (k + Int32.ofInt 1).toInt = k.toInt + 1 := by rw [t_add (by rw [lo_1]; omega), lo_1]
    refine ⟨h.four (by omega) (by omega), h.four (by omega) (by omega), fun _ a ea => ?_, fun _ => h0⟩
    subst ea
    exact ih _ ⟨by omega, by omega⟩ (by omega)
theorem sp_switchSpan {S : MS} {o op : Int32} (h : CoI S) (ho : 0 ≤ o.toInt ∧ o.toInt < (qI S 0 37).toInt) : w_switchSpan S o op (fun r u => u = S ∧ (r.toInt = 0 ∨ SwR S o op r.toInt)) := by
  have hc := h.2
  have ep := f_swF (S := S) ho.1 (by omega)
  have em : 0 ≤ o.toInt % 4 ∧ o.toInt % 4 < 4 := by omega
  have l12 : (12 : Int32).toInt = 12 := by decide
  have l200 : (200 : Int64).toInt = 200 := by decide
  have l0 : (0 : Int64).toInt = 0 := by decide
  unfold w_switchSpan
  refine ⟨trivial, fun p e4 => ?_⟩
  rw [← e4] at ep
  have p8 : (p + (8 : Int32)).toInt = p.toInt + 8 := by rw [t_add (by rw [li_8]; omega), li_8]
  have p4 : (p + (4 : Int32)).toInt = p.toInt + 4 := by rw [t_add (by rw [li_4]; omega), li_4]
  have p12 : (p + (12 : Int32)).toInt = p.toInt + 12 := by rw [t_add (by rw [l12]; omega), l12]
  refine ⟨fun c => ?_, fun c => ?_⟩
  · unfold w_switchSpan_J20
    refine ⟨fun c1 => ⟨fun _ => ?_, fun c2 => absurd c c2⟩, fun _ => ⟨rfl, Or.inl rfl⟩⟩
    rw [p12] at c1
    refine ⟨h.four (by omega) (by omega), h.four (by omega) (by omega), fun a ea => ?_⟩
    have ra : a.toInt = (f_codeFour S (p + 8)).toInt - (f_codeFour S (p + 4)).toInt := by
      have b1 := Int32.toInt_lt (f_codeFour S (p + 8))
      have b2 := Int32.toInt_lt (f_codeFour S (p + 4))
      have b3 := Int32.le_toInt (f_codeFour S (p + 8))
      have b4 := Int32.le_toInt (f_codeFour S (p + 4))
      rw [ea, Int64.toInt_sub, tl_of, tl_of]
      apply Int.bmod_eq_of_le <;> omega
    have q0 := c_cmp (x := a) (y := 0)
    have q1 := c_cmp (x := a) (y := 200)
    rw [l0] at q0
    rw [l200] at q1
    refine ⟨fun _ => ⟨rfl, Or.inl rfl⟩, fun d1 => ⟨fun d2 => ⟨rfl, Or.inr ?_⟩, fun _ => ⟨rfl, Or.inl rfl⟩⟩⟩
    have ha : 0 ≤ a.toInt ∧ a.toInt ≤ 200 := by omega
    have e32 : a.toInt32.toInt = a.toInt := tl_to (by omega)
    have e5 : (a.toInt32 + (1 : Int32)).toInt = a.toInt + 1 := by rw [t_add (by rw [e32, li_1]; omega), e32, li_1]
    have e6 : ((4 : Int32) * (a.toInt32 + (1 : Int32))).toInt = 4 * (a.toInt + 1) := by rw [t_mul (by rw [e5, li_4]; omega), e5, li_4]
    have e7 : ((p + (12 : Int32)) + (4 : Int32) * (a.toInt32 + (1 : Int32))).toInt = p.toInt + 12 + 4 * (a.toInt + 1) := by rw [t_add (by rw [e6, p12]; omega), e6, p12]
    refine ⟨p, e4, fun _ => ⟨a.toInt, ha.1, ha.2, ra.symm, ?_, c1⟩, fun q => absurd c q⟩
    rw [t_sub (by rw [e7]; omega), e7]
  · unfold w_switchSpan_J20
    refine ⟨fun c1 => ⟨fun c2 => absurd c2 c, fun _ => ?_⟩, fun _ => ⟨rfl, Or.inl rfl⟩⟩
    rw [p8] at c1
    refine ⟨h.four (by omega) (by omega), fun a ea => ⟨fun _ => ⟨rfl, Or.inl rfl⟩, fun d1 => ⟨fun _ => ⟨rfl, Or.inl rfl⟩, fun d2 => ⟨fun d3 => ?_, fun _ => ⟨rfl, Or.inl rfl⟩⟩⟩⟩⟩
    have e6 : ((8 : Int32) * a).toInt = 8 * a.toInt := by rw [t_mul (by rw [li_8]; omega), li_8]
    have e7 : ((p + (8 : Int32)) + (8 : Int32) * a).toInt = p.toInt + 8 + 8 * a.toInt := by rw [t_add (by rw [e6, p8]; omega), e6, p8]
    rw [e7] at d3
    refine ⟨_, sp_sS_L h ⟨by omega, by omega⟩ ⟨by omega, by omega⟩ d3 ⟨rfl, Or.inl rfl⟩ ⟨rfl, Or.inr ⟨p, e4, fun q => absurd q c, fun _ => ?_⟩⟩ _ 1 (by decide) (Nat.lt_succ_self _)⟩
    rw [← ea]
    refine ⟨by omega, by omega, ?_, c1⟩
    rw [t_sub (by rw [e7]; omega), e7]
/-- what a length says -/
def SpR (S : MS) (o : Int32) (n : Int) : Prop := 1 ≤ n ∧ o.toInt + n ≤ (qI S 0 37).toInt ∧ (f_spanOf S (f_codeOctet S o)).toInt ≠ 0 ∧ (0 < (f_spanOf S (f_codeOctet S o)).toInt → n = (f_spanOf S (f_codeOctet S o)).toInt) ∧ ((f_codeOctet S o).toInt = 196 → ((f_codeOctet S (o + 1)).toInt = 132 ∧ n = 6) ∨ (((f_codeOctet S (o + 1)).toInt = 21 ∨ (f_codeOctet S (o + 1)).toInt = 22 ∨ (f_codeOctet S (o + 1)).toInt = 25 ∨ (f_codeOctet S (o + 1)).toInt = 54 ∨ (f_codeOctet S (o + 1)).toInt = 55 ∨ (f_codeOctet S (o + 1)).toInt = 58) ∧ n = 4)) ∧ ((f_codeOctet S o).toInt = 170 ∨ (f_codeOctet S o).toInt = 171 → SwR S o (f_codeOctet S o) n)
theorem sp_span {S : MS} {o : Int32} (h : CoI S) (ho : 0 ≤ o.toInt ∧ o.toInt < (qI S 0 37).toInt) : w_span S o (fun r u => u = S ∧ (r.toInt = -1 ∨ SpR S o r.toInt)) := by
  have hc := h.2
  have e1 : (o + (1 : Int32)).toInt = o.toInt + 1 := by rw [t_add (by rw [li_1]; omega), li_1]
  have bo := b_co (S := S) (x := o)
  unfold w_span
  refine ⟨h.oct ho.1 ho.2, fun op eop => ?_⟩
  have ds : d_spanOf S op := by
    unfold d_spanOf d_spanOf_J18 d_spanOf_J30 d_spanOf_J42 d_spanOf_J56 d_spanOf_J68 d_spanOf_J99 d_spanOf_J114 d_spanOf_J142 d_spanOf_J282 d_spanOf_J344
    simp only [ite_self]
  refine ⟨ds, fun k ek => ?_⟩
  rw [← eop] at bo
  obtain ⟨r1, r2, r3, r4, r5, r6, r7⟩ := spR (S := S) bo.1 bo.2
  rw [← ek] at r1 r2 r3 r4 r5 r6 r7
  have l1 : (-1 : Int32).toInt = -1 := by decide
  have st : ∀ n : Int32, (n.toInt ≤ 2000 ∧ -2 ≤ n.toInt) → (0 < n.toInt → o.toInt + n.toInt ≤ (qI S 0 37).toInt → SpR S o n.toInt) → (op.toInt = 188 → 0 < n.toInt → 1 < n.toInt) → w_span_J113 (fun r u => u = S ∧ (r.toInt = -1 ∨ SpR S o r.toInt)) S o op n := fun n hn hS h188 => by
    have en : (o + n).toInt = o.toInt + n.toInt := t_add (by omega)
    unfold w_span_J113
    refine ⟨fun _ => ⟨rfl, Or.inl l1⟩, fun c => ⟨fun c2 => ?_, fun _ => ⟨rfl, Or.inl l1⟩⟩⟩
    rw [en] at c2
    have hS2 := hS (by omega) c2
    refine ⟨fun c3 => ⟨h.oct (by omega) (by have := h188 c3 (by omega); omega), fun _ => ⟨rfl, Or.inr hS2⟩, fun _ => ⟨rfl, Or.inl l1⟩⟩, fun _ => ⟨rfl, Or.inr hS2⟩⟩
  have tail : (f_spanOf S (f_codeOctet S o)).toInt = k.toInt := by rw [← eop, ek]
  have s0 : w_span_J113 (fun r u => u = S ∧ (r.toInt = -1 ∨ SpR S o r.toInt)) S o op 0 := st 0 (by decide) (fun q => absurd q (by decide)) (fun _ q => absurd q (by decide))
  refine ⟨fun ck => ?_, fun ck => ?_⟩
  · have o196 := r2.mp ck
    have s4 : ∀ t : Int32, t = f_codeOctet S (o + 1) → (t.toInt = 21 ∨ t.toInt = 22 ∨ t.toInt = 25 ∨ t.toInt = 54 ∨ t.toInt = 55 ∨ t.toInt = 58) → w_span_J95 (fun r u => u = S ∧ (r.toInt = -1 ∨ SpR S o r.toInt)) S o op := fun t et ht => by
      unfold w_span_J95 w_span_J100 w_span_J101
      refine ⟨fun q => absurd q (by decide), fun _ => st 4 (by decide) (fun _ q => ?_) (fun q => by omega)⟩
      rw [li_4] at q ⊢
      rw [et] at ht
      exact ⟨by decide, q, by rw [tail]; omega, fun q => by rw [tail] at q; omega, fun _ => Or.inr ⟨ht, rfl⟩, fun q => by rw [← eop] at q; omega⟩
    have s38 : ∀ t : Int32, (t.toInt ≠ 0 → t = f_codeOctet S (o + 1)) → w_span_J38 (fun r u => u = S ∧ (r.toInt = -1 ∨ SpR S o r.toInt)) S t o op := fun t ht => by
      unfold w_span_J38
      refine ⟨fun q => ?_, fun _ => ⟨fun q => s4 t (ht (by omega)) (by omega), fun _ => ⟨fun q => s4 t (ht (by omega)) (by omega), fun _ => ⟨fun q => s4 t (ht (by omega)) (by omega), fun _ => ⟨fun q => s4 t (ht (by omega)) (by omega), fun _ => ⟨fun q => s4 t (ht (by omega)) (by omega), fun _ => ⟨fun q => s4 t (ht (by omega)) (by omega), fun _ => ?_⟩⟩⟩⟩⟩⟩⟩
      · have et := ht (by omega)
        unfold w_span_J100 w_span_J101
        refine ⟨fun q => absurd q (by decide), fun _ => st 6 (by decide) (fun _ z => ?_) (fun q => by omega)⟩
        rw [li_6] at z ⊢
        rw [et] at q
        exact ⟨by decide, z, by rw [tail]; omega, fun q => by rw [tail] at q; omega, fun _ => Or.inl ⟨q, rfl⟩, fun q => by rw [← eop] at q; omega⟩
      · unfold w_span_J100 w_span_J101
        exact ⟨fun q => absurd q (by decide), fun _ => s0⟩
    exact ⟨fun _ => s38 0 (fun q => absurd rfl q), fun c => ⟨h.oct (by omega) (by omega), s38 _ (fun _ => rfl)⟩⟩
  · unfold w_span_J101
    refine ⟨fun c1 => ?_, fun c1 => ?_⟩
    · have o17 := r1.mp c1
      refine ⟨_, sp_switchSpan h ho, ?_⟩
      rintro r u ⟨rfl, hr⟩
      have hsw : r.toInt = 0 ∨ (-2 ≤ r.toInt ∧ r.toInt ≤ 2000 ∧ SwR u o op r.toInt) := by
        rcases hr with q | q
        · exact Or.inl q
        · have q' := q
          obtain ⟨p, ep, a, b⟩ := q'
          have eP := f_swF (S := u) ho.1 (by omega)
          rw [← ep] at eP
          have em : 0 ≤ o.toInt % 4 ∧ o.toInt % 4 < 4 := by omega
          by_cases z : op.toInt = 170
          · obtain ⟨k9, k0, k1, k2, k3, k4⟩ := a z
            exact Or.inr ⟨by omega, by omega, q⟩
          · obtain ⟨k0, k1, k2, k3⟩ := b z
            exact Or.inr ⟨by omega, by omega, q⟩
      rcases hsw with q | ⟨q1, q2, q3⟩
      · exact st r (by omega) (fun z => by omega) (fun _ z => by omega)
      · refine st r ⟨q2, q1⟩ (fun z z2 => ?_) (fun z => by omega)
        exact ⟨by omega, z2, by rw [tail]; omega, fun q => by rw [tail] at q; omega, fun q => by rw [← eop] at q; omega, fun _ => by rw [← eop]; exact q3⟩
    · refine st k ⟨by omega, by omega⟩ (fun z z2 => ?_) (fun q _ => by have := r5 (by omega); omega)
      exact ⟨by omega, z2, by rw [tail]; omega, fun _ => tail.symm, fun q => by rw [← eop] at q; omega, fun q => by rw [← eop] at q; omega⟩
/-! the instructions are numbered -/
def smK (S u : MS) : Prop := smB S u ∧ qI u 0 36 = qI S 0 36 ∧ qI u 0 37 = qI S 0 37
theorem smK.tr {S u v : MS} (h : smK S u) (k : smK u v) : smK S v := ⟨h.1.tr k.1, k.2.1.trans h.2.1, k.2.2.trans h.2.2⟩
theorem smK.oct {S u : MS} (h : smK S u) (x : Int32) : f_codeOctet u x = f_codeOctet S x := by
  have e : qO u 0 11 = qO S 0 11 := by unfold qO; rw [h.1.1]
  unfold f_codeOctet
  rw [e, h.1.2, h.2.1]
theorem smK.four {S u : MS} (h : smK S u) (x : Int32) : f_codeFour u x = f_codeFour S x := by
  unfold f_codeFour
  rw [f_same h.1.1 h.1.2, h.2.1]
theorem SwR.mv {S u : MS} {o op : Int32} {n : Int} (h : SwR S o op n) (k : smK S u) : SwR u o op n := by
  obtain ⟨p, ep, a, b⟩ := h
  refine ⟨p, ep, fun q => ?_, fun q => ?_⟩
  · rw [k.four, k.four, k.2.2]; exact a q
  · rw [k.four, k.2.2]; exact b q
theorem SpR.mv {S u : MS} {o : Int32} {n : Int} (h : SpR S o n) (k : smK S u) : SpR u o n := by
  obtain ⟨a, b, c, d, e, f⟩ := h
  have es : f_spanOf u (f_codeOctet u o) = f_spanOf S (f_codeOctet S o) := by rw [k.oct]; rfl
  refine ⟨a, by rw [k.2.2]; exact b, by rw [es]; exact c, by rw [es]; exact d, by rw [k.oct, k.oct]; exact e, fun q => ?_⟩
  rw [k.oct] at q ⊢
  exact (f q).mv k
theorem frm.smK {S u : MS} {W J : List Nat} (h : RdI S) (f : frm W J S u) (hW : ∀ w ∈ W, qT S w ≠ 1) (h11 : 11 ∉ J) (h36 : 36 ∉ J) (h37 : 37 ∉ J) : smK S u := by
  have b : qO S 0 11 ≠ 0 ∧ qO S 0 11 ∉ W := by
    refine ⟨h.ne h.z (by decide), fun q => ?_⟩
    have := hW _ q
    obtain ⟨b, h2, h3, -⟩ := h
    rw [show qO S 0 11 = b by unfold qO; rw [h2]; rfl] at this
    exact this h3
  exact ⟨⟨(f.2.2.2.2.2 11 h11).2.2, (f.2.2.2.2.1 _ b.1 b.2).1⟩, (f.2.2.2.2.2 36 h36).1, (f.2.2.2.2.2 37 h37).1⟩
/-- how it stands at o -/
def WnL (U : MS) (o : Int32) : Prop := (0 ≤ o.toInt ∧ o.toInt ≤ (qI U 0 37).toInt) ∧ (0 ≤ (qI U 0 39).toInt ∧ (qI U 0 39).toInt ≤ o.toInt) ∧ (o.toInt = 0 → (qI U 0 39).toInt = 0) ∧ (0 < o.toInt → (qI U 18 0).toInt = 0 ∧ 1 ≤ (qI U 0 39).toInt) ∧ (∀ j : Nat, o.toInt ≤ j → (j : Int) ≤ (qI U 0 37).toInt → (qI U 18 j).toInt = -1) ∧ (∀ j : Nat, (j : Int) < o.toInt → -1 ≤ (qI U 18 j).toInt ∧ (qI U 18 j).toInt < (qI U 0 39).toInt) ∧ ∀ p : Int32, 0 ≤ p.toInt → p.toInt < o.toInt → 0 ≤ (qI U 18 p.toInt.toNat).toInt → ∃ n : Nat, SpR U p n ∧ p.toInt + n ≤ o.toInt ∧ (p.toInt + n < o.toInt → (qI U 18 (p.toInt.toNat + n)).toInt = (qI U 18 p.toInt.toNat).toInt + 1) ∧ (p.toInt + n = o.toInt → (qI U 18 p.toInt.toNat).toInt + 1 = (qI U 0 39).toInt) ∧ ∀ i : Nat, p.toInt.toNat < i → i < p.toInt.toNat + n → (qI U 18 i).toInt = -1
/-- all are numbered -/
def NbI (U : MS) : Prop := (1 ≤ (qI U 0 39).toInt ∧ (qI U 0 39).toInt ≤ (qI U 0 37).toInt) ∧ (qI U 18 0).toInt = 0 ∧ (qI U 18 (qI U 0 37).toInt.toNat).toInt = (qI U 0 39).toInt ∧ (∀ j : Nat, (j : Int) < (qI U 0 37).toInt → -1 ≤ (qI U 18 j).toInt ∧ (qI U 18 j).toInt < (qI U 0 39).toInt) ∧ ∀ p : Int32, 0 ≤ p.toInt → p.toInt < (qI U 0 37).toInt → 0 ≤ (qI U 18 p.toInt.toNat).toInt → ∃ n : Nat, SpR U p n ∧ (qI U 18 (p.toInt.toNat + n)).toInt = (qI U 18 p.toInt.toNat).toInt + 1 ∧ ∀ i : Nat, p.toInt.toNat < i → i < p.toInt.toNat + n → (qI U 18 i).toInt = -1
theorem WnL.step {U : MS} {o r : Int32} (h : WnL U o) (hC : CoI U) (ho : o.toInt < (qI U 0 37).toInt) (hr : SpR U o r.toInt) {v : MS} (ev : v = wI (wI U 18 o.toInt.toNat (qI U 0 39)) 0 39 (qI U 0 39 + 1)) : WnL v (o + r) ∧ smK U v := by
  obtain ⟨⟨a0, a1⟩, ⟨b0, b1⟩, c, d, e, f, g⟩ := h
  have hc := hC.2
  have hr1 := hr.1
  have hr2 := hr.2.1
  have t18 : qT U 18 = 2 := hC.1.fin (q := (38, 18, 2, 1201)) (by decide)
  have er : (o + r).toInt = o.toInt + r.toInt := t_add (by omega)
  have eN : (qI U 0 39 + (1 : Int32)).toInt = (qI U 0 39).toInt + 1 := by rw [t_add (by rw [li_1]; omega), li_1]
  have q37 : qI v 0 37 = qI U 0 37 := by rw [ev, qI_wI, if_neg (by decide), rdH (by decide)]
  have q36 : qI v 0 36 = qI U 0 36 := by rw [ev, qI_wI, if_neg (by decide), rdH (by decide)]
  have q39 : qI v 0 39 = qI U 0 39 + 1 := by rw [ev, qI_wI, if_pos ⟨rfl, rfl⟩]
  have q18 : ∀ j : Nat, qI v 18 j = if j = o.toInt.toNat then qI U 0 39 else qI U 18 j := fun j => by
    rw [ev, rdH (by decide), qI_wI]
    by_cases z : j = o.toInt.toNat
    · rw [if_pos ⟨rfl, z⟩, if_pos z]
    · rw [if_neg (fun q => z q.2), if_neg z]
  have sK : smK U v := ⟨by rw [ev]; exact (hC.1.ss (a := 18) (t := 2) t18 (by decide)).tr ((hC.1.row (a := 18) (by decide)).ss (a := 0) (t := 10) (hC.1.row (a := 18) (by decide)).z (by decide)), q36, q37⟩
  refine ⟨⟨⟨by omega, by rw [q37]; omega⟩, ⟨by rw [q39, eN]; omega, by rw [q39, eN]; omega⟩, fun q => by omega, fun _ => ⟨?_, by rw [q39, eN]; omega⟩, fun j j0 j1 => ?_, fun j j0 => ?_, fun p p0 p1 p2 => ?_⟩, sK⟩
  · rw [q18]
    by_cases z : 0 = o.toInt.toNat
    · rw [if_pos z]; exact c (by omega)
    · rw [if_neg z]; exact (d (by omega)).1
  · rw [q37] at j1
    rw [q18, if_neg (by omega)]
    exact e j (by omega) j1
  · rw [q18, q39, eN]
    by_cases z : j = o.toInt.toNat
    · rw [if_pos z]; omega
    · rw [if_neg z]
      by_cases y : (j : Int) < o.toInt
      · have := f j y; omega
      · have := e j (by omega) (by omega); omega
  · rw [q18] at p2
    by_cases z : p.toInt.toNat = o.toInt.toNat
    · have ep : p = o := Int32.toInt_inj.mp (by omega)
      subst ep
      refine ⟨r.toInt.toNat, ?_, by omega, fun q => by omega, fun _ => by rw [q18, if_pos rfl, q39, eN], fun i i0 i1 => ?_⟩
      · rw [show ((r.toInt.toNat : Nat) : Int) = r.toInt by omega]
        exact hr.mv sK
      · rw [q18, if_neg (by omega)]
        exact e i (by omega) (by omega)
    · rw [if_neg z] at p2
      by_cases y : p.toInt < o.toInt
      · obtain ⟨n, k1, k2, k3, k4, k5⟩ := g p p0 y p2
        refine ⟨n, k1.mv sK, by omega, fun q => ?_, fun q => by omega, fun i i0 i1 => ?_⟩
        · rw [q18, q18, if_neg z]
          by_cases w : p.toInt.toNat + n = o.toInt.toNat
          · rw [if_pos w]
            exact (k4 (by omega)).symm
          · rw [if_neg w]
            exact k3 (by omega)
        · rw [q18, if_neg (by omega)]
          exact k5 i i0 i1
      · have := e p.toInt.toNat (by omega) (by omega)
        omega
theorem WnL.end {U : MS} {o : Int32} (h : WnL U o) (hC : CoI U) (ho : o.toInt = (qI U 0 37).toInt) {v : MS} (ev : v = wI U 18 (qI U 0 37).toInt.toNat (qI U 0 39)) : NbI v := by
  obtain ⟨⟨a0, a1⟩, ⟨b0, b1⟩, c, d, e, f, g⟩ := h
  have hc := hC.2
  have t18 : qT U 18 = 2 := hC.1.fin (q := (38, 18, 2, 1201)) (by decide)
  have q0 : qI v 0 = qI U 0 := by rw [ev, rdH (by decide)]
  have q18 : ∀ j : Nat, qI v 18 j = if j = (qI U 0 37).toInt.toNat then qI U 0 39 else qI U 18 j := fun j => by
    rw [ev, qI_wI]
    by_cases z : j = (qI U 0 37).toInt.toNat
    · rw [if_pos ⟨rfl, z⟩, if_pos z]
    · rw [if_neg (fun q => z q.2), if_neg z]
  have sK : smK U v := ⟨by rw [ev]; exact hC.1.ss (a := 18) (t := 2) t18 (by decide), by rw [q0], by rw [q0]⟩
  have dd := d (by omega)
  unfold NbI
  rw [q0]
  refine ⟨⟨dd.2, by omega⟩, by rw [q18, if_neg (by omega)]; exact dd.1, by rw [q18, if_pos rfl], fun j j0 => by rw [q18, if_neg (by omega)]; exact f j (by omega), fun p p0 p1 p2 => ?_⟩
  rw [q18, if_neg (by omega)] at p2 ⊢
  obtain ⟨n, k1, k2, k3, k4, k5⟩ := g p p0 (by omega) p2
  refine ⟨n, k1.mv sK, ?_, fun i i0 i1 => by rw [q18, if_neg (by omega)]; exact k5 i i0 i1⟩
  rw [q18]
  by_cases w : p.toInt.toNat + n = (qI U 0 37).toInt.toNat
  · rw [if_pos w]
    exact (k4 (by omega)).symm
  · rw [if_neg w]
    exact k3 (by omega)
theorem CoI.row {U : MS} (h : CoI U) {a j : Nat} {v : Int32} (ha : a ≠ 0) : CoI (wI U a j v) := by
  have e : qI (wI U a j v) 0 = qI U 0 := rdH (Ne.symm ha)
  unfold CoI
  rw [e]
  exact ⟨h.1.row ha, h.2⟩
theorem CoI.fld {U : MS} (h : CoI U) {j : Nat} {v : Int32} (hj : j ≠ 12 ∧ j ≠ 13 ∧ j ≠ 36 ∧ j ≠ 37) : CoI (wI U 0 j v) := by
  unfold CoI
  rw [qI_wI, qI_wI, qI_wI, if_neg (fun q => hj.2.2.1 q.2.symm), if_neg (fun q => hj.2.2.2 q.2.symm), if_neg (fun q => hj.1 q.2.symm)]
  exact ⟨h.1.fld ⟨hj.1, hj.2.1⟩, h.2⟩
theorem sp_wh_L35 {Q : MS → Prop} (hQ : ∀ u : MS, CoI u → NbI u → Q u) :
    ∀ (m : Nat) (U : MS) (o : Int32), CoI U → WnL U o → ((qI U 0 37).toInt - o.toInt).toNat < m → w_wholes_L35 Q (fun _ => True) m U o := by
  intro m
  induction m with
  | zero => intro U o _ _ h9; exact absurd h9 (Nat.not_lt_zero _)
  | succ m ih =>
    intro U o hC h hm
    have hc := hC.2
    have ha := h.1
    unfold w_wholes_L35
    refine ⟨fun c => ⟨⟨by omega, by omega⟩, fun v ev => ?_⟩, fun c => ?_⟩
    · exact hQ v (by rw [ev]; exact hC.row (by decide)) (h.end hC (by omega) ev)
    · refine ⟨_, sp_span hC ⟨ha.1, by omega⟩, ?_⟩
      rintro r u ⟨rfl, hr⟩
      have st : ∀ t : Int32, (t.toInt ≠ 0 → 0 < r.toInt) → w_wholes_J59 Q (fun _ => True) (w_wholes_L35 Q (fun _ => True) m) u t o r := fun t ht => by
        unfold w_wholes_J59
        refine ⟨_, _, sp_must, ?_, fun _ _ => trivial⟩
        rintro u2 ⟨rfl, hz⟩
        have r0 := ht hz
        have hS : SpR u2 o r.toInt := by
          rcases hr with q | q
          · omega
          · exact q
        have h1 := hS.1
        have h2 := hS.2.1
        refine ⟨⟨by omega, by omega⟩, fun v1 e1 v2 e2 a ea => ?_⟩
        have q39 : qI v1 0 39 = qI u2 0 39 := by rw [e1, rdH (by decide)]
        rw [q39] at e2
        subst ea
        have er : (o + r).toInt = o.toInt + r.toInt := t_add (by omega)
        obtain ⟨k1, k2⟩ := h.step hC (by omega) hS (v := v2) (by rw [e2, e1])
        refine ih v2 _ (by rw [e2, e1]; exact (hC.row (by decide)).fld (by decide)) k1 (by rw [k2.2.2]; omega)
      exact ⟨fun _ => st 0 (fun q => absurd rfl q), fun c2 => st 1 (fun _ => by omega)⟩
theorem sp_wh_L7 {Q : MS → Prop} (hQ : ∀ u : MS, CoI u → NbI u → Q u) :
    ∀ (m : Nat) (U : MS) (k : Int32), CoI U → (0 ≤ k.toInt ∧ k.toInt ≤ (qI U 0 37).toInt + 1 ∧ ∀ j : Nat, (j : Int) < k.toInt → (qI U 18 j).toInt = -1) → ((qI U 0 37).toInt + 1 - k.toInt).toNat < m → w_wholes_L7 Q (fun _ => True) m U k := by
  intro m
  induction m with
  | zero => intro U o _ _ h9; exact absurd h9 (Nat.not_lt_zero _)
  | succ m ih =>
    rintro U k hC ⟨k0, k1, k2⟩ hm
    have hc := hC.2
    unfold w_wholes_L7
    refine ⟨fun c v ev => ?_, fun c => ⟨⟨k0, by omega⟩, fun v ev a ea => ?_⟩⟩
    · have q37 : qI v 0 37 = qI U 0 37 := by rw [ev, qI_wI, if_neg (by decide)]
      have q39 : qI v 0 39 = 0 := by rw [ev, qI_wI, if_pos ⟨rfl, rfl⟩]
      have q18 : qI v 18 = qI U 18 := by rw [ev, rdH (by decide)]
      refine ⟨_, sp_wh_L35 hQ _ v 0 (by rw [ev]; exact hC.fld (by decide)) ?_ (Nat.lt_succ_self _)⟩
      refine ⟨⟨by decide, by rw [li_0, q37]; omega⟩, ⟨by rw [q39]; decide, by rw [q39]; decide⟩, fun _ => by rw [q39]; decide, fun q => absurd q (by decide), fun j _ j1 => ?_, fun j j0 => ?_, fun p p0 p1 => ?_⟩
      · rw [q18]; rw [q37] at j1; exact k2 j (by omega)
      · rw [li_0] at j0; omega
      · rw [li_0] at p1; omega
    · have q0 : qI v 0 = qI U 0 := by rw [ev, rdH (by decide)]
      have ek : (k + Int32.ofInt 1).toInt = k.toInt + 1 := by rw [t_add (by rw [lo_1]; omega), lo_1]
      subst ea
      refine ih v _ (by rw [ev]; exact hC.row (by decide)) ⟨by omega, by rw [q0]; omega, fun j j0 => ?_⟩ (by rw [q0]; omega)
      rw [ev, qI_wI]
      by_cases z : j = k.toInt.toNat
      · rw [if_pos ⟨rfl, z⟩]; decide
      · rw [if_neg (fun q => z q.2)]; exact k2 j (by omega)
/-- one method's code is taken up and numbered -/
theorem sp_wholes {S : MS} {x1 : Int32} (h : RdI S) (hm : 0 ≤ x1.toInt ∧ x1.toInt < 24) (h15 : 1 ≤ (qI S 15 x1.toInt.toNat).toInt ∧ (qI S 15 x1.toInt.toNat).toInt ≤ 1200 ∧ 0 ≤ (qI S 14 x1.toInt.toNat).toInt ∧ (qI S 14 x1.toInt.toNat).toInt + (qI S 15 x1.toInt.toNat).toInt ≤ (qI S 0 12).toInt) : w_wholes S x1 (fun u => CoI u ∧ NbI u) (fun _ => True) := by
  unfold w_wholes
  refine ⟨fun u => u = wI (wI S 0 36 (qI S 14 x1.toInt.toNat)) 0 37 (qI S 15 x1.toInt.toNat), ⟨hm, fun S3 e3 => ⟨hm, fun S6 e6 => ?_⟩⟩, fun u eu => ?_⟩
  · have : qI S3 15 = qI S 15 := by rw [e3, rdH (by decide)]
    rw [e6, this, e3]
  · have q36 : qI u 0 36 = qI S 14 x1.toInt.toNat := by rw [eu, qI_wI, if_neg (by decide), qI_wI, if_pos ⟨rfl, rfl⟩]
    have q37 : qI u 0 37 = qI S 15 x1.toInt.toNat := by rw [eu, qI_wI, if_pos ⟨rfl, rfl⟩]
    have q12 : qI u 0 12 = qI S 0 12 := by rw [eu, qI_wI, if_neg (by decide), qI_wI, if_neg (by decide)]
    have hC : CoI u := ⟨by rw [eu]; exact (h.fld (by decide)).fld (by decide), by rw [q36]; omega, by rw [q37]; omega, by rw [q37]; omega, by rw [q36, q37, q12]; omega⟩
    exact ⟨_, sp_wh_L7 (fun u a b => ⟨a, b⟩) _ u 0 hC ⟨by decide, by rw [li_0, q37]; omega, fun j j0 => by rw [li_0] at j0; omega⟩ (Nat.lt_succ_self _)⟩
/-! rows: what a good one is -/
def opW (t : Int) : Prop := t = 0 ∨ t = 1 ∨ t = 18 ∨ t = 20 ∨ t = 21 ∨ t = 22 ∨ t = 25 ∨ t = 46 ∨ t = 54 ∨ t = 55 ∨ t = 58 ∨ t = 79 ∨ t = 87 ∨ t = 88 ∨ t = 89 ∨ t = 90 ∨ t = 92 ∨ t = 95 ∨ (96 ≤ t ∧ t ≤ 119 ∧ t % 4 < 2) ∨ (120 ≤ t ∧ t ≤ 132) ∨ t = 133 ∨ t = 136 ∨ (145 ≤ t ∧ t ≤ 148) ∨ (153 ≤ t ∧ t ≤ 167) ∨ (170 ≤ t ∧ t ≤ 173) ∨ (176 ≤ t ∧ t ≤ 179) ∨ t = 184 ∨ t = 188 ∨ t = 190 ∨ t = 191 ∨ t = 198 ∨ t = 199
def rV (T : Nat → Int32) (ts N L F M : Int) (op a b : Int32) : Prop := opW op.toInt ∧ ((153 ≤ op.toInt ∧ op.toInt ≤ 167) ∨ op.toInt = 198 ∨ op.toInt = 199 → 0 ≤ a.toInt ∧ a.toInt < N) ∧ (op.toInt = 170 ∨ op.toInt = 171 → 0 ≤ a.toInt ∧ 0 ≤ b.toInt ∧ b.toInt ≤ 201 ∧ a.toInt + 2 * b.toInt + 1 ≤ ts ∧ (∀ k : Nat, (k : Int) ≤ b.toInt → 0 ≤ (T (a.toInt.toNat + 2 * k)).toInt ∧ (T (a.toInt.toNat + 2 * k)).toInt < N) ∧ (op.toInt = 170 → 1 ≤ b.toInt)) ∧ (op.toInt = 21 ∨ op.toInt = 25 ∨ op.toInt = 54 ∨ op.toInt = 58 ∨ op.toInt = 132 → 0 ≤ a.toInt ∧ a.toInt + 1 ≤ L) ∧ (op.toInt = 22 ∨ op.toInt = 55 → 0 ≤ a.toInt ∧ a.toInt + 2 ≤ L) ∧ (op.toInt = 178 ∨ op.toInt = 179 → 0 ≤ a.toInt ∧ a.toInt < F) ∧ (op.toInt = 184 → 0 ≤ a.toInt ∧ a.toInt < M)
def rOK (R T : Nat → Int32) (ts N L F M : Int) (i : Nat) : Prop := rV T ts N L F M (R (3 * i)) (R (3 * i + 1)) (R (3 * i + 2))
/-- what a row may cost when it is written -/
def wtV (op b : Int) : Int := if op = 132 then 6 else if op = 170 ∨ op = 171 then 16 + 8 * b else 3
def wtR (R : Nat → Int32) (i : Nat) : Int := wtV (R (3 * i)).toInt (R (3 * i + 2)).toInt
theorem rV.mv {T T' : Nat → Int32} {ts ts' N L F M : Int} {op a b : Int32} (h : rV T ts N L F M op a b) (hts : ts ≤ ts') (e : ∀ j : Nat, (j : Int) < ts → T' j = T j) : rV T' ts' N L F M op a b := by
  refine ⟨h.1, h.2.1, fun q => ?_, h.2.2.2⟩
  obtain ⟨a0, b0, b1, c, d, d2⟩ := h.2.2.1 q
  exact ⟨a0, b0, b1, by omega, fun k hk => by rw [e _ (by omega)]; exact d k hk, d2⟩
def IRp (S : MS) (n : Int) (u : MS) : Prop := (qI u 0 41).toInt = (qI S 0 41).toInt + 1 ∧ (∀ j : Nat, (j : Int) < 3 * (qI S 0 41).toInt → qI u 19 j = qI S 19 j) ∧ ((qI S 0 43).toInt ≤ (qI u 0 43).toInt ∧ (qI u 0 43).toInt ≤ (qI S 0 43).toInt + n ∧ 3 + (qI u 0 43).toInt - (qI S 0 43).toInt ≤ 3 * n) ∧ (∀ j : Nat, (j : Int) < (qI S 0 43).toInt → qI u 20 j = qI S 20 j) ∧ rOK (qI u 19) (qI u 20) (qI u 0 43).toInt (qI S 0 39).toInt (qI S 0 46).toInt (qI S 0 22).toInt ((qI S 0 21).toInt - (qI S 0 22).toInt) (qI S 0 41).toInt.toNat ∧ wtR (qI u 19) (qI S 0 41).toInt.toNat ≤ 3 * n
theorem sp_row {S : MS} {x1 x2 x3 : Int32} (hc : 0 ≤ (qI S 0 41).toInt ∧ (qI S 0 41).toInt < 28800) : w_row S x1 x2 x3 (fun u => (qI u 0 41).toInt = (qI S 0 41).toInt + 1 ∧ (∀ j : Nat, (j : Int) < 3 * (qI S 0 41).toInt → qI u 19 j = qI S 19 j) ∧ qI u 19 (3 * (qI S 0 41).toInt.toNat) = x1 ∧ qI u 19 (3 * (qI S 0 41).toInt.toNat + 1) = x2 ∧ qI u 19 (3 * (qI S 0 41).toInt.toNat + 2) = x3) := by
  have e3 : ((3 : Int32) * qI S 0 41).toInt = 3 * (qI S 0 41).toInt := by rw [t_mul (by rw [li_3]; omega), li_3]
  have e4 : ((3 : Int32) * qI S 0 41 + 1).toInt = 3 * (qI S 0 41).toInt + 1 := by rw [t_add (by rw [li_1]; omega), li_1, e3]
  have e5 : ((3 : Int32) * qI S 0 41 + 2).toInt = 3 * (qI S 0 41).toInt + 2 := by rw [t_add (by rw [li_2]; omega), li_2, e3]
  have e6 : (qI S 0 41 + 1).toInt = (qI S 0 41).toInt + 1 := by rw [t_add (by rw [li_1]; omega), li_1]
  unfold w_row
  refine ⟨⟨by omega, by omega⟩, fun A eA => ?_⟩
  have a0 : qI A 0 = qI S 0 := by rw [eA, rdH (by decide)]
  rw [a0]
  refine ⟨⟨by omega, by omega⟩, fun B eB => ?_⟩
  have b0 : qI B 0 = qI S 0 := by rw [eB, rdH (by decide), a0]
  rw [b0]
  refine ⟨⟨by omega, by omega⟩, fun C eC D eD => ?_⟩
  have c0 : qI C 0 = qI S 0 := by rw [eC, rdH (by decide), b0]
  have d19 : qI D 19 = qI C 19 := by rw [eD, rdH (by decide)]
  rw [e3] at eA
  rw [e4] at eB
  rw [e5] at eC
  refine ⟨by rw [eD, qI_wI, if_pos ⟨rfl, rfl⟩, c0, e6], fun j hj => ?_, ?_, ?_, ?_⟩
  · rw [d19, eC, qI_wI, if_neg (by omega), eB, qI_wI, if_neg (by omega), eA, qI_wI, if_neg (by omega)]
  · rw [d19, eC, qI_wI, if_neg (by omega), eB, qI_wI, if_neg (by omega), eA, qI_wI, if_pos ⟨rfl, by omega⟩]
  · rw [d19, eC, qI_wI, if_neg (by omega), eB, qI_wI, if_pos ⟨rfl, by omega⟩]
  · rw [d19, eC, qI_wI, if_pos ⟨rfl, by omega⟩]
/-- a row whose tables (if any) stand there already -/
theorem sp_rowA {S : MS} {x1 x2 x3 : Int32} (hc : 0 ≤ (qI S 0 41).toInt ∧ (qI S 0 41).toInt < 28800) : w_row S x1 x2 x3 (fun u => ((qI u 0 41).toInt = (qI S 0 41).toInt + 1 ∧ (∀ j : Nat, (j : Int) < 3 * (qI S 0 41).toInt → qI u 19 j = qI S 19 j) ∧ qI u 19 (3 * (qI S 0 41).toInt.toNat) = x1 ∧ qI u 19 (3 * (qI S 0 41).toInt.toNat + 1) = x2 ∧ qI u 19 (3 * (qI S 0 41).toInt.toNat + 2) = x3) ∧ frm [19] [41] S u) := fr_row (sp_row hc)
theorem sp_rowB {S : MS} {x1 x2 x3 : Int32} {n : Int} {Q : MS → Prop} (hc : 0 ≤ (qI S 0 41).toInt ∧ (qI S 0 41).toInt < 28800) (hn : 1 ≤ n) (hv : rV (qI S 20) (qI S 0 43).toInt (qI S 0 39).toInt (qI S 0 46).toInt (qI S 0 22).toInt ((qI S 0 21).toInt - (qI S 0 22).toInt) x1 x2 x3) (hw : wtV x1.toInt x3.toInt ≤ 3 * n) (hQ : ∀ u, IRp S n u → Q u) : ∃ Q6, w_row S x1 x2 x3 Q6 ∧ ∀ u, Q6 u → Q u := by
  refine ⟨_, sp_rowA hc, ?_⟩
  rintro u ⟨⟨a, b, c, d, e⟩, f⟩
  have e43 : qI u 0 43 = qI S 0 43 := (f.2.2.2.2.2 43 (by decide)).1
  have e20 : qI u 20 = qI S 20 := (f.2.2.2.2.1 20 (by decide) (by decide)).1
  apply hQ
  refine ⟨a, b, by rw [e43]; omega, fun j _ => by rw [e20], ?_, ?_⟩
  · unfold rOK
    rw [c, d, e, e43, e20]
    exact hv
  · unfold wtR
    rw [c, e]
    exact hw
theorem sp_point {S : MS} {x1 x2 : Int32} : w_point S x1 x2 (fun u => u = S ∧ x1.toInt ≠ 0) (fun _ => True) := by
  unfold w_point
  exact ⟨_, _, sp_must, fun u h => h, fun _ _ => trivial⟩
theorem d_iS {S : MS} (h : CoI S) (x : Int32) : d_isStart S x := by
  have hc := h.2
  unfold d_isStart d_isStart_J25
  by_cases c1 : x.toInt < 0
  · rw [if_pos c1]; trivial
  · rw [if_neg c1]
    by_cases c2 : (qI S 0 37).toInt ≤ x.toInt
    · rw [if_pos c2]; trivial
    · rw [if_neg c2, ite_self]
      exact ⟨⟨by omega, by omega⟩, trivial⟩
theorem f_iS {S : MS} {x : Int32} (h : (f_isStart S x).toInt ≠ 0) : 0 ≤ x.toInt ∧ x.toInt < (qI S 0 37).toInt ∧ 0 ≤ (qI S 18 x.toInt.toNat).toInt := by
  unfold f_isStart f_isStart_J25 at h
  by_cases c1 : x.toInt < 0
  · rw [if_pos c1] at h; exact absurd rfl h
  · rw [if_neg c1] at h
    by_cases c2 : (qI S 0 37).toInt ≤ x.toInt
    · rw [if_pos c2] at h; exact absurd rfl h
    · rw [if_neg c2] at h
      by_cases c3 : (qI S 18 x.toInt.toNat).toInt < 0
      · rw [if_pos c3] at h; exact absurd rfl h
      · omega
theorem sp_target {S : MS} {x1 x2 : Int32} (h : CoI S) (hN : NbI S) : w_target S x1 x2 (fun r u => u = S ∧ 0 ≤ r.toInt ∧ r.toInt < (qI S 0 39).toInt) (fun _ => True) := by
  have hc := h.2
  unfold w_target
  refine ⟨d_iS h _, _, _, sp_point, ?_, fun _ _ => trivial⟩
  rintro u ⟨rfl, hz⟩
  obtain ⟨a, b, c⟩ := f_iS hz
  exact ⟨⟨a, by omega⟩, rfl, c, (hN.2.2.2.1 _ (by omega)).2⟩
/-- before an instruction is taken up -/
def InI (S : MS) (n : Int) : Prop := CoI S ∧ NbI S ∧ (0 ≤ (qI S 0 41).toInt ∧ (qI S 0 41).toInt < 28800) ∧ (0 ≤ (qI S 0 43).toInt ∧ (qI S 0 43).toInt + n ≤ 40000) ∧ 0 ≤ (qI S 0 46).toInt ∧ (qI S 0 46).toInt ≤ 24
theorem sp_localRow {S : MS} {x1 x2 x3 : Int32} {n : Int} {Q : MS → Prop} (h : InI S n) (hn : 1 ≤ n) (h2 : x2.toInt = 21 ∨ x2.toInt = 22 ∨ x2.toInt = 25 ∨ x2.toInt = 54 ∨ x2.toInt = 55 ∨ x2.toInt = 58) (h3 : 0 ≤ x3.toInt ∧ x3.toInt ≤ 65535) (hQ : ∀ u, IRp S n u → Q u) : w_localRow S x1 x2 x3 Q (fun _ => True) := by
  have st : ∀ t p : Int32, (t.toInt ≠ 0 → x3.toInt + p.toInt ≤ (qI S 0 46).toInt) → (x2.toInt = 22 ∨ x2.toInt = 55 → p.toInt = 2) → 1 ≤ p.toInt → w_localRow_J36 Q (fun _ => True) S t x1 x2 x3 := fun t p ht hp p1 => by
    unfold w_localRow_J36
    refine ⟨_, _, sp_point, ?_, fun _ _ => trivial⟩
    rintro u ⟨rfl, hz⟩
    have hL := ht hz
    refine sp_rowB h.2.2.1 (by omega) ⟨by unfold opW; omega, fun q => by omega, fun q => by omega, fun q => ⟨h3.1, by omega⟩, fun q => ⟨h3.1, by have := hp q; omega⟩, fun q => by omega, fun q => by omega⟩ (by unfold wtV; rw [if_neg (by omega), if_neg (by omega)]; omega) hQ
  have s17 : ∀ p : Int32, (x2.toInt = 22 ∨ x2.toInt = 55 → p.toInt = 2) → 1 ≤ p.toInt → p.toInt ≤ 2 → w_localRow_J17 Q (fun _ => True) S p x1 x2 x3 := fun p hp p1 p2 => by
    have e : (x3 + p).toInt = x3.toInt + p.toInt := t_add (by omega)
    unfold w_localRow_J17
    exact ⟨fun _ => st 0 p (fun q => absurd rfl q) hp p1, fun c => st 1 p (fun _ => by omega) hp p1⟩
  unfold w_localRow w_localRow_J12
  exact ⟨fun _ => s17 2 (fun _ => rfl) (by decide) (by decide), fun c => ⟨fun _ => s17 2 (fun _ => rfl) (by decide) (by decide), fun c2 => s17 1 (fun q => by omega) (by decide) (by decide)⟩⟩
theorem sp_grown {S : MS} {x1 x2 x3 : Int32} {n : Int} {Q : MS → Prop} (h : InI S n) (hn : 2 ≤ n) (h2 : 0 ≤ x2.toInt) (hQ : ∀ u, IRp S n u → Q u) : w_grown S x1 x2 x3 Q (fun _ => True) := by
  have l : (132 : Int32).toInt = 132 := by decide
  have st : ∀ t : Int32, (t.toInt ≠ 0 → x2.toInt < (qI S 0 46).toInt) → w_grown_J14 Q (fun _ => True) S t x1 x2 x3 := fun t ht => by
    unfold w_grown_J14
    refine ⟨_, _, sp_point, ?_, fun _ _ => trivial⟩
    rintro u ⟨rfl, hz⟩
    have hL := ht hz
    refine sp_rowB h.2.2.1 (by omega) ⟨by unfold opW; omega, fun q => by omega, fun q => by omega, fun q => ⟨h2, by omega⟩, fun q => by omega, fun q => by omega, fun q => by omega⟩ (by unfold wtV; rw [if_pos l]; omega) hQ
  unfold w_grown
  exact ⟨fun _ => st 0 (fun q => absurd rfl q), fun c => st 1 (fun _ => by omega)⟩
theorem sp_pushed {S : MS} {x1 x2 x3 : Int32} {n : Int} {Q : MS → Prop} (h : InI S n) (hn : 1 ≤ n) (hp : (qI S 0 14).toInt ≤ 500) (hQ : ∀ u, IRp S n u → Q u) : w_pushed S x1 x2 x3 Q (fun _ => True) := by
  have l18 : (18 : Int32).toInt = 18 := by decide
  have l20 : (20 : Int32).toInt = 20 := by decide
  unfold w_pushed
  refine ⟨d_isE hp _ _, _, _, sp_point, ?_, fun _ _ => trivial⟩
  rintro u ⟨rfl, hz⟩
  have hE := f_isE hz
  have b : (0 : Int) ≤ x2.toInt ∧ x2.toInt < 502 := ⟨by have := hE.1; omega, by have := hE.2.1; omega⟩
  refine ⟨fun _ => ⟨b, ?_⟩, fun _ => ⟨b, b, ?_⟩⟩
  · refine sp_rowB h.2.2.1 (by omega) ⟨by unfold opW; omega, fun q => by omega, fun q => by omega, fun q => by omega, fun q => by omega, fun q => by omega, fun q => by omega⟩ (by unfold wtV; rw [if_neg (by omega), if_neg (by omega)]; omega) hQ
  · refine sp_rowB h.2.2.1 (by omega) ⟨by unfold opW; omega, fun q => by omega, fun q => by omega, fun q => by omega, fun q => by omega, fun q => by omega, fun q => by omega⟩ (by unfold wtV; rw [if_neg (by omega), if_neg (by omega)]; omega) hQ
theorem sp_wide {S : MS} {x1 x2 : Int32} {n : Int} {Q : MS → Prop} (h : InI S n) (ho : 0 ≤ x1.toInt ∧ x1.toInt + n ≤ (qI S 0 37).toInt) (h2 : (x2.toInt = 132 ∧ n = 6) ∨ ((x2.toInt = 21 ∨ x2.toInt = 22 ∨ x2.toInt = 25 ∨ x2.toInt = 54 ∨ x2.toInt = 55 ∨ x2.toInt = 58) ∧ n = 4)) (hQ : ∀ u, IRp S n u → Q u) : w_wide S x1 x2 Q (fun _ => True) := by
  have hc := h.1.2
  have e2 : (x1 + (2 : Int32)).toInt = x1.toInt + 2 := by rw [t_add (by rw [li_2]; omega), li_2]
  have e4 : (x1 + (4 : Int32)).toInt = x1.toInt + 4 := by rw [t_add (by rw [li_4]; omega), li_4]
  unfold w_wide
  refine ⟨h.1.two (by omega) (by omega), fun a ea => ?_⟩
  have ba := b_u2 (x := f_codeTwo S (x1 + 2))
  rw [← ea] at ba
  refine ⟨fun c => ⟨h.1.two (by omega) (by omega), _, _, sp_grown (Q := Q) h (by omega) ba.1 hQ, fun u hu => hu, fun _ _ => trivial⟩, fun c => ⟨_, _, sp_localRow (Q := Q) h (by omega) (by omega) ⟨ba.1, by omega⟩ hQ, fun u hu => hu, fun _ _ => trivial⟩⟩
/-! one instruction is taken up -/
theorem NbI.mv {S u : MS} (h : NbI S) (k : smK S u) (e18 : qI u 18 = qI S 18) (e39 : qI u 0 39 = qI S 0 39) : NbI u := by
  obtain ⟨a, b, c, d, e⟩ := h
  unfold NbI
  rw [e18, e39, k.2.2]
  refine ⟨a, b, c, d, fun p p0 p1 p2 => ?_⟩
  obtain ⟨n, n1, n2, n3⟩ := e p p0 p1 p2
  exact ⟨n, n1.mv k, n2, n3⟩
theorem CoI.fr {S u : MS} (h : CoI S) (f : frm [19, 20, 21] [7, 8, 41, 43, 45, 46] S u) : CoI u ∧ smK S u ∧ smT S u := by
  have t19 : qT S 19 = 2 := h.1.fin (q := (40, 19, 2, 86400)) (by decide)
  have t20 : qT S 20 = 2 := h.1.fin (q := (42, 20, 2, 40000)) (by decide)
  have t21 : qT S 21 = 2 := h.1.fin (q := (44, 21, 2, 1536)) (by decide)
  have sK : smK S u := f.smK h.1 (fun w hw => by simp at hw; rcases hw with rfl | rfl | rfl <;> omega) (by decide) (by decide) (by decide)
  have sT : smT S u := smT.fr h.1 (f.mo (by decide) (by decide))
  refine ⟨?_, sK, sT⟩
  unfold CoI
  rw [sK.2.1, sK.2.2, sT.1.f 12]
  exact ⟨sT.rd h.1, h.2⟩
theorem NbI.fr {S u : MS} (h : NbI S) (hC : CoI S) (f : frm [19, 20, 21] [7, 8, 41, 43, 45, 46] S u) : NbI u := h.mv (hC.fr f).2.1 (f.2.2.2.2.1 18 (by decide) (by decide)).1 (f.2.2.2.2.2 39 (by decide)).1
theorem sp_sw_L {S : MS} {Q : MS → Prop} {o op p fst low mn : Int32} {n : Int} (h : InI S n) (hop : op.toInt = 170 ∨ op.toInt = 171) (hp : 0 ≤ p.toInt ∧ p.toInt ≤ 1200) (hmn : 0 ≤ mn.toInt ∧ mn.toInt ≤ 201) (hm1 : op.toInt = 170 → 1 ≤ mn.toInt) (hs : (op.toInt = 170 → p.toInt + 12 + 4 * mn.toInt ≤ (qI S 0 37).toInt) ∧ (op.toInt ≠ 170 → p.toInt + 8 + 8 * mn.toInt ≤ (qI S 0 37).toInt)) (hn : 1 + 2 * mn.toInt ≤ n ∧ 16 + 8 * mn.toInt ≤ 3 * n) (hf : fst = qI S 0 43) (hQ : ∀ u, IRp S n u → Q u) :
    ∀ (m : Nat) (U : MS) (k : Int32), (frm [20] [43] S U ∧ (0 ≤ k.toInt ∧ k.toInt ≤ mn.toInt) ∧ (qI U 0 43).toInt = (qI S 0 43).toInt + 1 + 2 * k.toInt ∧ (∀ j : Nat, (j : Int) < (qI S 0 43).toInt → qI U 20 j = qI S 20 j) ∧ ∀ i : Nat, (i : Int) ≤ k.toInt → 0 ≤ (qI U 20 ((qI S 0 43).toInt.toNat + 2 * i)).toInt ∧ (qI U 20 ((qI S 0 43).toInt.toNat + 2 * i)).toInt < (qI S 0 39).toInt) → (mn.toInt - k.toInt).toNat < m → w_switched_L79 Q (fun _ => True) m U o op p fst low mn k := by
  obtain ⟨hC, hN, hc, hts, hL⟩ := h
  have hcc := hC.2
  have l12 : (12 : Int32).toInt = 12 := by decide
  intro m
  induction m with
  | zero => intro U o _ h9; exact absurd h9 (Nat.not_lt_zero _)
  | succ m ih =>
    rintro U k ⟨hf1, hk, h43, hold, hnew⟩ hm
    have f1 := hf1.mo (W' := [19, 20, 21]) (J' := [7, 8, 41, 43, 45, 46]) (by decide) (by decide)
    obtain ⟨CU, sK, sT⟩ := hC.fr f1
    have NU := hN.fr hC f1
    have z41 : qI U 0 41 = qI S 0 41 := (hf1.2.2.2.2.2 41 (by decide)).1
    have z39 : qI U 0 39 = qI S 0 39 := (hf1.2.2.2.2.2 39 (by decide)).1
    have z46 : qI U 0 46 = qI S 0 46 := (hf1.2.2.2.2.2 46 (by decide)).1
    have z22 : qI U 0 22 = qI S 0 22 := (hf1.2.2.2.2.2 22 (by decide)).1
    have z21 : qI U 0 21 = qI S 0 21 := (hf1.2.2.2.2.2 21 (by decide)).1
    have z37 := sK.2.2
    have z19 : qI U 19 = qI S 19 := (hf1.2.2.2.2.1 19 (by decide) (by decide)).1
    unfold w_switched_L79
    refine ⟨fun c => ?_, fun c => ?_⟩
    · refine ⟨_, sp_rowA (by rw [z41]; exact hc), ?_⟩
      rintro u ⟨⟨a1, a2, a3, a4, a5⟩, f⟩
      rw [z41] at a1 a2 a3 a4 a5
      have e43 : qI u 0 43 = qI U 0 43 := (f.2.2.2.2.2 43 (by decide)).1
      have e20 : qI u 20 = qI U 20 := (f.2.2.2.2.1 20 (by decide) (by decide)).1
      apply hQ
      refine ⟨a1, fun j hj => by rw [a2 j hj, z19], by rw [e43, h43]; omega, fun j hj => by rw [e20, hold j hj], ?_, ?_⟩
      · unfold rOK
        rw [a3, a4, a5, e43, e20, h43, hf]
        refine ⟨by unfold opW; omega, fun q => by omega, fun _ => ⟨hts.1, hmn.1, hmn.2, by omega, fun i hi => hnew i (by omega), hm1⟩, fun q => by omega, fun q => by omega, fun q => by omega, fun q => by omega⟩
      · unfold wtR wtV
        rw [a3, a5, if_neg (by omega), if_pos hop]
        exact hn.2
    · have b43 : (qI U 0 43 + (1 : Int32)).toInt = (qI U 0 43).toInt + 1 := by rw [t_add (by rw [li_1]; omega), li_1]
      have b44 : (qI U 0 43 + (2 : Int32)).toInt = (qI U 0 43).toInt + 2 := by rw [t_add (by rw [li_2]; omega), li_2]
      have ek : (k + Int32.ofInt 1).toInt = k.toInt + 1 := by rw [t_add (by rw [lo_1]; omega), lo_1]
      have s166 : ∀ (A : MS) (q key : Int32), A = wI U 20 (qI U 0 43).toInt.toNat key → 0 ≤ q.toInt → q.toInt + 4 ≤ (qI S 0 37).toInt → w_switched_J166 Q (fun _ => True) (w_switched_L79 Q (fun _ => True) m) A q o (qI A 0 43 + 1) o op p fst low mn k := fun A q key eA q0 q1 => by
        have A0 : qI A 0 = qI U 0 := by rw [eA, rdH (by decide)]
        have fA : frm [20] [43] S A := hf1.tr (by rw [eA]; exact frm.pI (by decide))
        have f2 := fA.mo (W' := [19, 20, 21]) (J' := [7, 8, 41, 43, 45, 46]) (by decide) (by decide)
        obtain ⟨CA, sKA, -⟩ := hC.fr f2
        have NA := hN.fr hC f2
        unfold w_switched_J166
        refine ⟨CA.four q0 (by rw [sKA.2.2]; exact q1), _, _, sp_target CA NA, ?_, fun _ _ => trivial⟩
        rintro r B ⟨rfl, r0, r1⟩
        rw [A0, z39] at r1
        rw [A0]
        refine ⟨⟨by omega, by omega⟩, fun C eC D eD a ea => ?_⟩
        subst ea
        have C0 : qI C 0 = qI U 0 := by rw [eC, rdH (by decide), A0]
        rw [C0] at eD
        have fD : frm [20] [43] S D := fA.tr ((frm.pI (by decide) : frm [20] [43] B (wI B 20 (qI U 0 43 + 1).toInt.toNat r)).tr (by rw [eD, ← eC]; exact frm.pI0 (by decide)))
        have D20 : ∀ j : Nat, qI D 20 j = if j = (qI U 0 43).toInt.toNat + 1 then r else if j = (qI U 0 43).toInt.toNat then key else qI U 20 j := fun j => by
          rw [eD, rdH (by decide), eC, qI_wI, b43]
          by_cases w1 : j = (qI U 0 43).toInt.toNat + 1
          · rw [if_pos ⟨rfl, by omega⟩, if_pos w1]
          · rw [if_neg (by omega), if_neg w1, eA, qI_wI]
            by_cases w2 : j = (qI U 0 43).toInt.toNat
            · rw [if_pos ⟨rfl, w2⟩, if_pos w2]
            · rw [if_neg (by omega), if_neg w2]
        have D43 : qI D 0 43 = qI U 0 43 + 2 := by rw [eD, qI_wI, if_pos ⟨rfl, rfl⟩]
        refine ih D _ ⟨fD, ⟨by omega, by omega⟩, by rw [D43, b44]; omega, fun j hj => ?_, fun i hi => ?_⟩ (by omega)
        · rw [D20, if_neg (by omega), if_neg (by omega)]; exact hold j hj
        · rw [D20]
          by_cases w : (i : Int) ≤ k.toInt
          · rw [if_neg (by omega), if_neg (by omega)]; exact hnew i w
          · rw [if_pos (by omega)]; exact ⟨r0, r1⟩
      have s123 : ∀ key : Int32, w_switched_J123 Q (fun _ => True) (w_switched_L79 Q (fun _ => True) m) U key (qI U 0 43) o op p fst low mn k := fun key => by
        have e4 : ((4 : Int32) * k).toInt = 4 * k.toInt := by rw [t_mul (by rw [li_4]; omega), li_4]
        have e8 : ((8 : Int32) * k).toInt = 8 * k.toInt := by rw [t_mul (by rw [li_8]; omega), li_8]
        have ep : (p + (12 : Int32)).toInt = p.toInt + 12 := by rw [t_add (by rw [l12]; omega), l12]
        have e1 : (p + (12 : Int32) + (4 : Int32) * k).toInt = p.toInt + 12 + 4 * k.toInt := by rw [t_add (by rw [e4, ep]; omega), e4, ep]
        have e2 : (p + (12 : Int32) + (8 : Int32) * k).toInt = p.toInt + 12 + 8 * k.toInt := by rw [t_add (by rw [e8, ep]; omega), e8, ep]
        unfold w_switched_J123
        refine ⟨⟨by omega, by omega⟩, fun A eA => ⟨fun c1 => s166 A _ key eA (by omega) (by have := hs.1 c1; omega), fun c1 => s166 A _ key eA (by omega) (by have := hs.2 c1; omega)⟩⟩
      have e8 : ((8 : Int32) * k).toInt = 8 * k.toInt := by rw [t_mul (by rw [li_8]; omega), li_8]
      have ep : (p + (8 : Int32)).toInt = p.toInt + 8 := by rw [t_add (by rw [li_8]; omega), li_8]
      have e2 : (p + (8 : Int32) + (8 : Int32) * k).toInt = p.toInt + 8 + 8 * k.toInt := by rw [t_add (by rw [e8, ep]; omega), e8, ep]
      exact ⟨fun _ => s123 _, fun c1 => ⟨CU.four (by omega) (by rw [z37]; have := hs.2 c1; omega), s123 _⟩⟩
theorem sp_switched {S : MS} {o op : Int32} {n : Int} {Q : MS → Prop} (h : InI S n) (hn1 : 1 ≤ n) (ho : 0 ≤ o.toInt ∧ o.toInt + n ≤ (qI S 0 37).toInt) (hop : op.toInt = 170 ∨ op.toInt = 171) (hw : SwR S o op n) (hQ : ∀ u, IRp S n u → Q u) : w_switched S o op Q (fun _ => True) := by
  have h' := h
  obtain ⟨hC, hN, hc, hts, hL⟩ := h
  have hcc := hC.2
  obtain ⟨p0, ep, wa, wb⟩ := hw
  have eP := f_swF (S := S) ho.1 (by omega)
  rw [← ep] at eP
  have em : 0 ≤ o.toInt % 4 ∧ o.toInt % 4 < 4 := by omega
  have hp8 : p0.toInt + 8 ≤ (qI S 0 37).toInt := by
    by_cases z : op.toInt = 170
    · obtain ⟨k9, k0, k1, k2, k3, k4⟩ := wa z; omega
    · obtain ⟨k0, k1, k2, k3⟩ := wb z; omega
  unfold w_switched
  refine ⟨trivial, fun p e4 fst ef => ?_⟩
  have epp : p = p0 := by rw [e4, ep]
  subst epp
  have p8 : (p + (8 : Int32)).toInt = p.toInt + 8 := by rw [t_add (by rw [li_8]; omega), li_8]
  have p4 : (p + (4 : Int32)).toInt = p.toInt + 4 := by rw [t_add (by rw [li_4]; omega), li_4]
  refine ⟨hC.four (by omega) (by omega), _, _, sp_target hC hN, ?_, fun _ _ => trivial⟩
  rintro r S11 ⟨rfl, r0, r1⟩
  refine ⟨⟨hts.1, by
    by_cases z : op.toInt = 170
    · obtain ⟨k9, k0, k1, k2, k3, k4⟩ := wa z; omega
    · obtain ⟨k0, k1, k2, k3⟩ := wb z; omega⟩, fun A eA B eB => ?_⟩
  have A0 : qI A 0 = qI S11 0 := by rw [eA, rdH (by decide)]
  rw [A0] at eB
  have fB : frm [20] [43] S11 B := (frm.pI (by decide) : frm [20] [43] S11 (wI S11 20 (qI S11 0 43).toInt.toNat r)).tr (by rw [eB, ← eA]; exact frm.pI0 (by decide))
  have f2 := fB.mo (W' := [19, 20, 21]) (J' := [7, 8, 41, 43, 45, 46]) (by decide) (by decide)
  obtain ⟨CB, sKB, -⟩ := hC.fr f2
  have B43 : (qI B 0 43).toInt = (qI S11 0 43).toInt + 1 := by rw [eB, qI_wI, if_pos ⟨rfl, rfl⟩, t_add (by rw [li_1]; by_cases z : op.toInt = 170; (obtain ⟨k9, k0, k1, k2, k3, k4⟩ := wa z; omega); (obtain ⟨k0, k1, k2, k3⟩ := wb z; omega)), li_1]
  have B20 : ∀ j : Nat, qI B 20 j = if j = (qI S11 0 43).toInt.toNat then r else qI S11 20 j := fun j => by
    rw [eB, rdH (by decide), eA, qI_wI]
    by_cases w2 : j = (qI S11 0 43).toInt.toNat
    · rw [if_pos ⟨rfl, w2⟩, if_pos w2]
    · rw [if_neg (by omega), if_neg w2]
  have inv : frm [20] [43] S11 B ∧ (0 ≤ (0 : Int32).toInt ∧ (0 : Int32).toInt ≤ (0 : Int)) ∧ (qI B 0 43).toInt = (qI S11 0 43).toInt + 1 + 2 * (0 : Int32).toInt ∧ (∀ j : Nat, (j : Int) < (qI S11 0 43).toInt → qI B 20 j = qI S11 20 j) ∧ ∀ i : Nat, (i : Int) ≤ (0 : Int32).toInt → 0 ≤ (qI B 20 ((qI S11 0 43).toInt.toNat + 2 * i)).toInt ∧ (qI B 20 ((qI S11 0 43).toInt.toNat + 2 * i)).toInt < (qI S11 0 39).toInt := by
    refine ⟨fB, by decide, by rw [li_0, B43]; omega, fun j hj => by rw [B20, if_neg (by omega)], fun i hi => ?_⟩
    rw [li_0] at hi
    rw [B20, if_pos (by omega)]
    exact ⟨r0, r1⟩
  refine ⟨CB.four (by omega) (by rw [sKB.2.2]; omega), fun low el => ?_⟩
  rw [sKB.four] at el
  refine ⟨fun c => ⟨CB.four (by omega) (by rw [sKB.2.2]; have := wa c; obtain ⟨k9, k0, k1, k2, k3, k4⟩ := this; omega), ?_⟩, fun c => ?_⟩
  · obtain ⟨k9, k0, k1, k2, k3, k4⟩ := wa c
    unfold w_switched_J74
    rw [sKB.four]
    rw [← el] at k2
    have e5 : (f_codeFour S11 (p + 8) - low).toInt = k9 := by rw [t_sub (by omega), k2]
    have e6 : (f_codeFour S11 (p + 8) - low + (1 : Int32)).toInt = k9 + 1 := by rw [t_add (by rw [li_1]; omega), li_1, e5]
    exact ⟨_, sp_sw_L h' hop ⟨by omega, by omega⟩ ⟨by omega, by omega⟩ (fun _ => by omega) ⟨fun _ => by omega, fun q => absurd c q⟩ ⟨by omega, by omega⟩ ef hQ _ B 0 ⟨inv.1, ⟨by decide, by rw [li_0]; omega⟩, inv.2.2⟩ (Nat.lt_succ_self _)⟩
  · obtain ⟨k0, k1, k2, k3⟩ := wb c
    rw [← el] at k0 k1 k2
    unfold w_switched_J74
    exact ⟨_, sp_sw_L h' hop ⟨by omega, by omega⟩ ⟨by omega, by omega⟩ (fun q => absurd q c) ⟨fun q => absurd q c, fun _ => by omega⟩ ⟨by omega, by omega⟩ ef hQ _ B 0 ⟨inv.1, ⟨by decide, by rw [li_0]; omega⟩, inv.2.2⟩ (Nat.lt_succ_self _)⟩
/-! the member that an instruction names; every instruction -/
theorem sp_mb_L {S : MS} {Q : Int32 → MS → Prop} {o pair frm0 to : Int32} (h : MmI S) (hn : NmI S) (hp : 0 ≤ pair.toInt ∧ pair.toInt < 502) (h1 : isE S (qI S 6 pair.toInt.toNat) 1) (h2 : isE S (qI S 7 pair.toInt.toNat) 1) (hr : 0 ≤ frm0.toInt ∧ frm0.toInt ≤ to.toInt ∧ to.toInt ≤ (qI S 0 21).toInt) (hQ : ∀ r : Int32, 0 ≤ r.toInt → r.toInt < to.toInt - frm0.toInt → Q r S) :
    ∀ (m : Nat) (fd i : Int32), (frm0.toInt ≤ i.toInt ∧ i.toInt ≤ to.toInt) → (-1 ≤ fd.toInt ∧ (0 ≤ fd.toInt → fd.toInt < to.toInt - frm0.toInt)) → (to.toInt - i.toInt).toNat < m → w_member_L108 Q (fun _ => True) m S o pair frm0 to fd i := by
  have hc := h.2.2.1
  intro m
  induction m with
  | zero => intro fd i _ _ h9; exact absurd h9 (Nat.not_lt_zero _)
  | succ m ih =>
    intro fd i hi hfd hm
    have s193 : ∀ t : Int32, (t.toInt ≠ 0 → 0 ≤ fd.toInt) → w_member_J193 Q (fun _ => True) S t o fd := fun t ht => by
      unfold w_member_J193
      refine ⟨_, _, sp_point, ?_, fun _ _ => trivial⟩
      rintro u ⟨rfl, hz⟩
      exact hQ fd (ht hz) (hfd.2 (ht hz))
    unfold w_member_L108
    refine ⟨fun c => ⟨fun _ => s193 0 (fun q => absurd rfl q), fun c2 => s193 1 (fun _ => by omega)⟩, fun c => ?_⟩
    have ei : (i + Int32.ofInt 1).toInt = i.toInt + 1 := by rw [t_add (by rw [lo_1]; omega), lo_1]
    have iN : ((i.toInt.toNat : Nat) : Int) < (qI S 0 21).toInt := by omega
    have hN := hn.1 _ iN
    have s176 : ∀ fd2 : Int32, (-1 ≤ fd2.toInt ∧ (0 ≤ fd2.toInt → fd2.toInt < to.toInt - frm0.toInt)) → w_member_J176 Q (fun _ => True) (w_member_L108 Q (fun _ => True) m) S o pair frm0 to fd2 i := fun fd2 h2 => by
      unfold w_member_J176
      intro a ea
      subst ea
      exact ih fd2 _ ⟨by omega, by omega⟩ h2 (by omega)
    refine ⟨⟨by omega, by omega⟩, h.d2 iN (d := 2) (by decide) rfl, hp, _, sp_isSame h hN.1 h1, ?_⟩
    rintro r u rfl
    refine ⟨fun _ => s176 fd hfd, fun _ => ⟨⟨by omega, by omega⟩, h.d2 iN (d := 4) (by decide) rfl, hp, _, sp_isSame h hN.2 h2, ?_⟩⟩
    rintro r2 u2 rfl
    refine ⟨fun _ => s176 fd hfd, fun _ a ea => ?_⟩
    have e : a.toInt = i.toInt - frm0.toInt := by rw [ea, t_sub (by omega)]
    exact s176 a ⟨by omega, fun _ => by omega⟩
theorem sp_member {S : MS} {o tag : Int32} (h : CoI S) (hR : RT S) (ht : tag.toInt = 9 ∨ tag.toInt = 10) (ho : 0 ≤ o.toInt ∧ o.toInt + 3 ≤ (qI S 0 37).toInt) : w_member S o tag (fun r u => u = S ∧ 0 ≤ r.toInt ∧ (tag.toInt = 9 → r.toInt < (qI S 0 22).toInt) ∧ (tag.toInt = 10 → r.toInt < (qI S 0 21).toInt - (qI S 0 22).toInt)) (fun _ => True) := by
  have hcc := h.2
  obtain ⟨hM, hn, hty, href, ⟨hc1, hc2⟩, htx, hcd⟩ := hR
  have hc := hM.2.2.1
  have hp := hM.2.2.2.2.2.2.1
  have hk := hM.2.1
  have hb := hM.1.bnd
  have e1 : (o + (1 : Int32)).toInt = o.toInt + 1 := by rw [t_add (by rw [li_1]; omega), li_1]
  have e2 : (qI S 0 20 + (2 : Int32)).toInt = (qI S 0 20).toInt + 2 := by rw [t_add (by rw [li_2]; omega), li_2]
  unfold w_member
  refine ⟨h.two (by omega) (by omega), fun a ea => ⟨d_isE hp.2 _ _, _, _, sp_point, ?_, fun _ _ => trivial⟩⟩
  rintro u ⟨rfl, hz⟩
  have hE := f_isE hz
  have hE1 := hE.1
  have hE2 := hE.2.1
  have hr := (href a.toInt.toNat (by omega) (by omega)).2.2 (by rw [hE.2.2]; exact ht)
  have g1 : isE u (qI u 6 (qI u 6 a.toInt.toNat).toInt.toNat) 1 := (href _ (by have := hr.1.1; omega) (by have := hr.1.2.1; have := hr.1.1; omega)).1 hr.1.2.2
  have g2 := (href (qI u 7 a.toInt.toNat).toInt.toNat (by have := hr.2.1; omega) (by have := hr.2.2.1; have := hr.2.1; omega)).2.1 hr.2.2.2
  have g3 : isE u (qI u 6 (f_two u (qI u 0 20 + 2)).toInt.toNat) 1 := (href _ (by have := hc1.1; omega) (by have := hc1.2.1; have := hc1.1; omega)).1 hc1.2.2
  refine ⟨⟨by omega, by omega⟩, fun pair epair => ⟨⟨by omega, by omega⟩, ⟨by have := hr.1.1; omega, by have := hr.1.2.1; omega⟩, hM.1.two (by omega) (by omega), ⟨by have := hc1.1; omega, by have := hc1.2.1; omega⟩, _, sp_isSame hM g1 g3, ?_⟩⟩
  rintro r S28 rfl
  refine ⟨_, _, sp_point, ?_, fun _ _ => trivial⟩
  rintro S31 ⟨rfl, -⟩
  rw [← epair] at g2 hr
  have hpb : 0 ≤ pair.toInt ∧ pair.toInt < 502 := ⟨by have := hr.2.1; omega, by have := hr.2.2.1; omega⟩
  refine ⟨fun c => ?_, fun c => ?_⟩
  · unfold w_member_J80
    refine ⟨fun _ => ?_, fun q => absurd c q⟩
    unfold w_member_J99
    exact ⟨_, sp_mb_L hM hn hpb g2.1 g2.2 ⟨by decide, by rw [li_0]; omega, by omega⟩ (fun r r0 r1 => ⟨rfl, r0, fun _ => by rw [li_0] at r1; omega, fun q => by omega⟩) _ _ _ ⟨by omega, by rw [li_0]; omega⟩ ⟨by decide, fun q => absurd q (by decide)⟩ (Nat.lt_succ_self _)⟩
  · unfold w_member_J80
    refine ⟨fun q => absurd q c, fun _ => ?_⟩
    unfold w_member_J99
    exact ⟨_, sp_mb_L hM hn hpb g2.1 g2.2 ⟨by omega, by omega, by omega⟩ (fun r r0 r1 => ⟨rfl, r0, fun q => by omega, fun _ => by omega⟩) _ _ _ ⟨by omega, by omega⟩ ⟨by decide, fun q => absurd q (by decide)⟩ (Nat.lt_succ_self _)⟩
def opN (k : Nat) : Bool := [0, 1, 18, 20, 21, 22, 25, 46, 54, 55, 58, 79, 87, 88, 89, 90, 92, 95, 133, 136, 145, 146, 147, 148, 172, 173, 176, 177, 178, 179, 184, 188, 190, 191, 198, 199].contains k || (decide (96 ≤ k) && decide (k ≤ 119) && decide (k % 4 < 2)) || (decide (120 ≤ k) && decide (k ≤ 132)) || (decide (153 ≤ k) && decide (k ≤ 167)) || (decide (2 ≤ k) && decide (k ≤ 10)) || [16, 17, 19, 200].contains k || (decide (26 ≤ k) && decide (k ≤ 33)) || (decide (42 ≤ k) && decide (k ≤ 45)) || (decide (59 ≤ k) && decide (k ≤ 66)) || (decide (75 ≤ k) && decide (k ≤ 78))
theorem opN_all : ∀ k : Fin 256, (!decide (0 < (f_spanOf S00 (Int32.ofNat k.val)).toInt) || opN k.val) = true := by decide +kernel
theorem spW {S : MS} {op : Int32} (h0 : 0 ≤ op.toInt) (h1 : op.toInt < 256) (hs : 0 < (f_spanOf S op).toInt) : opW op.toInt ∨ (2 ≤ op.toInt ∧ op.toInt ≤ 10) ∨ op.toInt = 16 ∨ op.toInt = 17 ∨ op.toInt = 19 ∨ op.toInt = 200 ∨ (26 ≤ op.toInt ∧ op.toInt ≤ 33) ∨ (42 ≤ op.toInt ∧ op.toInt ≤ 45) ∨ (59 ≤ op.toInt ∧ op.toInt ≤ 66) ∨ (75 ≤ op.toInt ∧ op.toInt ≤ 78) := by
  have e1 : f_spanOf S op = f_spanOf S00 op := rfl
  have e2 := i32n h0
  have hk : op.toInt.toNat < 256 := by omega
  have hB := opN_all ⟨op.toInt.toNat, hk⟩
  rw [e1] at hs
  generalize hkk : op.toInt.toNat = k at *
  have ek : op.toInt = (k : Int) := by omega
  rw [e2] at hs
  rw [ek]
  simp only [hs, decide_true, Bool.not_true, Bool.false_or] at hB
  unfold opN at hB
  simp only [Bool.or_eq_true, Bool.and_eq_true, decide_eq_true_eq, List.contains_iff_mem, List.mem_cons, List.not_mem_nil, or_false] at hB
  unfold opW
  omega
def opX (t : Int) : Prop := ¬ ((2 ≤ t ∧ t ≤ 10) ∨ t = 16 ∨ t = 17 ∨ t = 19 ∨ t = 200 ∨ (26 ≤ t ∧ t ≤ 33) ∨ (42 ≤ t ∧ t ≤ 45) ∨ (59 ≤ t ∧ t ≤ 66) ∨ (75 ≤ t ∧ t ≤ 78))
/-- what is known of an instruction; closed, so that it is not searched each time -/
def InC (S : MS) (o op : Int32) (n : Int) : Prop := (op.toInt = 16 ∨ op.toInt = 18 ∨ op.toInt = 21 ∨ op.toInt = 22 ∨ op.toInt = 25 ∨ op.toInt = 54 ∨ op.toInt = 55 ∨ op.toInt = 58 → n = 2) ∧ (op.toInt = 17 ∨ op.toInt = 19 ∨ op.toInt = 20 ∨ op.toInt = 132 ∨ (153 ≤ op.toInt ∧ op.toInt ≤ 167) ∨ op.toInt = 178 ∨ op.toInt = 179 ∨ op.toInt = 184 ∨ op.toInt = 198 ∨ op.toInt = 199 → n = 3) ∧ (op.toInt = 200 → n = 5) ∧ (op.toInt = 196 → ((f_codeOctet S (o + 1)).toInt = 132 ∧ n = 6) ∨ (((f_codeOctet S (o + 1)).toInt = 21 ∨ (f_codeOctet S (o + 1)).toInt = 22 ∨ (f_codeOctet S (o + 1)).toInt = 25 ∨ (f_codeOctet S (o + 1)).toInt = 54 ∨ (f_codeOctet S (o + 1)).toInt = 55 ∨ (f_codeOctet S (o + 1)).toInt = 58) ∧ n = 4)) ∧ (op.toInt = 170 ∨ op.toInt = 171 → SwR S o op n) ∧ (op.toInt ≠ 170 → op.toInt ≠ 171 → op.toInt ≠ 196 → opW op.toInt ∨ ¬ opX op.toInt)
theorem InC.mk2 {S : MS} {o op : Int32} {n : Int} (hS : SpR S o n) (eop : op = f_codeOctet S o) : InC S o op n := by
  obtain ⟨n1, n2, s0, s1, s2, s3⟩ := hS
  have bo := b_co (S := S) (x := o)
  rw [← eop] at s0 s1 s2 s3 bo
  obtain ⟨r1, r2, r3, r4, r5, r6, r7⟩ := spR (S := S) bo.1 bo.2
  refine ⟨fun q => ?_, fun q => ?_, fun q => ?_, s2, s3, fun q1 q2 q3 => ?_⟩
  · have k := r5 (by rcases q with q | q | q | q | q | q | q | q <;> simp [q])
    rw [s1 (by rw [k]; decide), k]
  · have k := r6 q
    rw [s1 (by rw [k]; decide), k]
  · have k := r7 q
    rw [s1 (by rw [k]; decide), k]
  · clear r4 r5 r6 r7 s1 s2 s3
    have a1 : (f_spanOf S op).toInt ≠ -1 := fun z => by rcases r1.mp z with z | z <;> omega
    have a2 : (f_spanOf S op).toInt ≠ -2 := fun z => q3 (r2.mp z)
    clear r1 r2
    have w := spW (S := S) bo.1 bo.2 (by omega)
    rcases w with w | w
    · exact Or.inl w
    · exact Or.inr (fun z => z w)
theorem in_rw1 {S : MS} {n : Int} {a b c : Int32} (hc : 0 ≤ (qI S 0 41).toInt ∧ (qI S 0 41).toInt < 28800) (hn : 1 ≤ n) (hv : rV (qI S 20) (qI S 0 43).toInt (qI S 0 39).toInt (qI S 0 46).toInt (qI S 0 22).toInt ((qI S 0 21).toInt - (qI S 0 22).toInt) a b c) (h1 : a.toInt ≠ 132) (h2 : a.toInt ≠ 170) (h3 : a.toInt ≠ 171) : ∃ Q6, w_row S a b c Q6 ∧ ∀ u, Q6 u → IRp S n u := sp_rowB hc (by omega) hv (by unfold wtV; rw [if_neg h1, if_neg (by omega)]; omega) (fun u hu => hu)
theorem in_rw0 {S : MS} {n : Int} {a b c : Int32} (hc : 0 ≤ (qI S 0 41).toInt ∧ (qI S 0 41).toInt < 28800) (hn : 1 ≤ n) (ha : a.toInt = 18 ∨ a.toInt = 20) : ∃ Q6, w_row S a b c Q6 ∧ ∀ u, Q6 u → IRp S n u := in_rw1 hc hn ⟨by unfold opW; omega, fun q => by omega, fun q => by omega, fun q => by omega, fun q => by omega, fun q => by omega, fun q => by omega⟩ (by omega) (by omega) (by omega)
theorem in_lr {S : MS} {o : Int32} {n : Int} (h : InI S n) (hn : 1 ≤ n) {a b : Int32} (ha : a.toInt = 21 ∨ a.toInt = 22 ∨ a.toInt = 25 ∨ a.toInt = 54 ∨ a.toInt = 55 ∨ a.toInt = 58) (hb : 0 ≤ b.toInt ∧ b.toInt ≤ 65535) : ∃ Q9 EQ9, w_localRow S o a b Q9 EQ9 ∧ (∀ u, Q9 u → IRp S n u) ∧ ∀ u9, EQ9 u9 → (fun _ => True) u9 := ⟨_, _, sp_localRow h hn ha hb (fun u hu => hu), fun u hu => hu, fun _ _ => trivial⟩
theorem in_435 {S : MS} {o op : Int32} {n : Int} (h : InI S n) (hR : RT S) (ho : 0 ≤ o.toInt) (n1 : 1 ≤ n) (n2 : o.toInt + n ≤ (qI S 0 37).toInt) (hI : InC S o op n) (hx : opX op.toInt) (z1 : op.toInt < 153 ∨ 167 < op.toInt) (z2 : op.toInt ≠ 132) (z3 : op.toInt ≠ 196) (z4 : op.toInt ≠ 21 ∧ op.toInt ≠ 22 ∧ op.toInt ≠ 25 ∧ op.toInt ≠ 54 ∧ op.toInt ≠ 55 ∧ op.toInt ≠ 58) (s449 : op.toInt = 198 ∨ op.toInt = 199 → w_instruction_J449 (IRp S n) (fun _ => True) S o op) : w_instruction_J435 (IRp S n) (fun _ => True) S o op := by
  have h' := h
  obtain ⟨hC, hN, hc, hts, hL⟩ := h
  obtain ⟨i2, i3, i5, i196, isw, iw⟩ := hI
  have hcc := hC.2
  have e1 : (o + (1 : Int32)).toInt = o.toInt + 1 := by rw [t_add (by rw [li_1]; omega), li_1]
  have s514 : (op.toInt = 170 ∨ op.toInt = 171) → w_instruction_J514 (IRp S n) (fun _ => True) S o op := fun q => by
    unfold w_instruction_J514
    exact ⟨_, _, sp_switched h' n1 ⟨ho, n2⟩ q (isw q) (fun u hu => hu), fun u hu => hu, fun _ _ => trivial⟩
  have s537 : (op.toInt = 178 ∨ op.toInt = 179) → w_instruction_J537 (IRp S n) (fun _ => True) S o op := fun q => by
    have n3 := i3 (by rcases q with q | q <;> simp [q])
    clear i2 i3 i5 i196 isw iw z1 z4 s514 s449
    unfold w_instruction_J537
    refine ⟨_, _, sp_member hC hR (Or.inl (by decide)) ⟨ho, by omega⟩, ?_, fun _ _ => trivial⟩
    rintro r u ⟨rfl, t0, t1, -⟩
    have t2 := t1 (by decide)
    exact in_rw1 hc n1 ⟨by unfold opW; omega, fun q => by omega, fun q => by omega, fun q => by omega, fun q => by omega, fun _ => ⟨t0, t2⟩, fun q => by omega⟩ (by omega) (by omega) (by omega)
  unfold w_instruction_J435
  refine ⟨fun q => s449 (Or.inl q), fun c1 => ⟨fun q => s449 (Or.inr q), fun c2 => ⟨fun q => ?_, fun c3 => ⟨fun q => s514 (Or.inl q), fun c4 => ⟨fun q => s514 (Or.inr q), fun c5 => ⟨fun q => s537 (Or.inl q), fun c6 => ⟨fun q => s537 (Or.inr q), fun c7 => ⟨fun q => ?_, fun c8 => ?_⟩⟩⟩⟩⟩⟩⟩⟩
  · have n5 := i5 q
    clear i2 i3 i5 i196 isw iw z1 z4 s514 s449
    refine ⟨hC.four (by omega) (by omega), _, _, sp_target hC hN, ?_, fun _ _ => trivial⟩
    rintro r u ⟨rfl, t0, t1⟩
    have l : (167 : Int32).toInt = 167 := by decide
    exact in_rw1 hc n1 ⟨by unfold opW; omega, fun _ => ⟨t0, t1⟩, fun q => by omega, fun q => by omega, fun q => by omega, fun q => by omega, fun q => by omega⟩ (by omega) (by omega) (by omega)
  · have n3 := i3 (by simp [q])
    clear i2 i3 i5 i196 isw iw z1 z4 s514 s449
    refine ⟨_, _, sp_member hC hR (Or.inr (by decide)) ⟨ho, by omega⟩, ?_, fun _ _ => trivial⟩
    rintro r u ⟨rfl, t0, -, t1⟩
    have t2 := t1 (by decide)
    exact in_rw1 hc n1 ⟨by unfold opW; omega, fun q => by omega, fun q => by omega, fun q => by omega, fun q => by omega, fun q => by omega, fun _ => ⟨t0, t2⟩⟩ (by omega) (by omega) (by omega)
  · have w : opW op.toInt := by
      rcases iw c4 c5 z3 with w | w
      · exact w
      · exact absurd hx w
    clear i2 i3 i5 i196 isw iw s514 s537 s449
    obtain ⟨y1, y2, y3, y4, y5, y6⟩ := z4
    exact in_rw1 hc n1 ⟨w, fun q => by omega, fun q => by omega, fun q => by omega, fun q => by omega, fun q => by omega, fun q => by omega⟩ z2 c4 c5
theorem in_312 {S : MS} {o op : Int32} {n : Int} (h : InI S n) (hR : RT S) (ho : 0 ≤ o.toInt) (n1 : 1 ≤ n) (n2 : o.toInt + n ≤ (qI S 0 37).toInt) (hI : InC S o op n) (hx : opX op.toInt) : w_instruction_J312 (IRp S n) (fun _ => True) S o op := by
  have h' := h
  have hI' := hI
  obtain ⟨hC, hN, hc, hts, hL⟩ := h
  obtain ⟨i2, i3, i5, i196, isw, iw⟩ := hI
  have hcc := hC.2
  have b1 := b_co (S := S) (x := o + 1)
  have e1 : (o + (1 : Int32)).toInt = o.toInt + 1 := by rw [t_add (by rw [li_1]; omega), li_1]
  have s348 : (op.toInt = 21 ∨ op.toInt = 22 ∨ op.toInt = 25 ∨ op.toInt = 54 ∨ op.toInt = 55 ∨ op.toInt = 58) → w_instruction_J348 (IRp S n) (fun _ => True) S o op := fun q => by
    have k := i2 (Or.inr (Or.inr q))
    clear i2 i3 i5 i196 isw iw
    unfold w_instruction_J348
    exact ⟨hC.oct (by omega) (by omega), in_lr h' n1 q ⟨b1.1, by omega⟩⟩
  have s449 : ((153 ≤ op.toInt ∧ op.toInt ≤ 167) ∨ op.toInt = 198 ∨ op.toInt = 199) → w_instruction_J449 (IRp S n) (fun _ => True) S o op := fun q => by
    have k := i3 (by rcases q with q | q | q <;> simp [q])
    clear i2 i3 i5 i196 isw iw s348
    unfold w_instruction_J449
    refine ⟨hC.two (by omega) (by omega), _, _, sp_target hC hN, ?_, fun _ _ => trivial⟩
    rintro r u ⟨rfl, t0, t1⟩
    exact in_rw1 hc n1 ⟨by unfold opW; omega, fun _ => ⟨t0, t1⟩, fun q => by omega, fun q => by omega, fun q => by omega, fun q => by omega, fun q => by omega⟩ (by omega) (by omega) (by omega)
  unfold w_instruction_J312
  refine ⟨fun q => s348 (by simp [q]), fun c1 => ⟨fun q => s348 (by simp [q]), fun c2 => ⟨fun q => s348 (by simp [q]), fun c3 => ⟨fun q => s348 (by simp [q]), fun c4 => ⟨fun q => s348 (by simp [q]), fun c5 => ⟨fun q => s348 (by simp [q]), fun c6 => ⟨fun q => ?_, fun c7 => ⟨fun q => ?_, fun c8 => ⟨fun q => in_435 h' hR ho n1 n2 hI' hx (Or.inl q) c7 c8 ⟨c1, c2, c3, c4, c5, c6⟩ (fun z => s449 (Or.inr z)), fun c9 => ⟨fun q => s449 (Or.inl ⟨by clear i2 i3 i5 i196 isw iw; omega, q⟩), fun c10 => in_435 h' hR ho n1 n2 hI' hx (Or.inr (by clear i2 i3 i5 i196 isw iw; omega)) c7 c8 ⟨c1, c2, c3, c4, c5, c6⟩ (fun z => s449 (Or.inr z))⟩⟩⟩⟩⟩⟩⟩⟩⟩⟩
  · have k := i3 (by simp [q])
    clear i2 i3 i5 i196 isw iw s348 s449
    have l2 : ((qI S 0 36 + o) + (2 : Int32)).toInt = (qI S 0 36).toInt + o.toInt + 2 := by rw [t_add (by rw [hC.ad ho (by omega), li_2]; have := hC.1.bnd; omega), hC.ad ho (by omega), li_2]
    have g := hC.1.rd (x := (qI S 0 36 + o) + 2) (by omega) (by omega)
    exact ⟨hC.oct (by omega) (by omega), g.1, g.2, _, _, sp_grown h' (by omega) b1.1 (fun u hu => hu), fun u hu => hu, fun _ _ => trivial⟩
  · have k := i196 q
    clear i2 i3 i5 i196 isw iw s348 s449
    have : 2 ≤ n := by rcases k with k | k <;> omega
    exact ⟨hC.oct (by omega) (by omega), _, _, sp_wide h' ⟨ho, n2⟩ k (fun u hu => hu), fun u hu => hu, fun _ _ => trivial⟩
theorem m4b {a b : Int32} (q1 : b.toInt ≤ a.toInt) (q2 : a.toInt < 256) (q3 : 0 ≤ b.toInt) : 0 ≤ ((a - b) - (a - b) / (4 : Int32) * (4 : Int32)).toInt ∧ ((a - b) - (a - b) / (4 : Int32) * (4 : Int32)).toInt ≤ 65535 := by
  have e : (a - b).toInt = a.toInt - b.toInt := t_sub (by omega)
  rw [t_mod4 (by omega) (by omega)]
  omega
theorem in_221 {S : MS} {o op : Int32} {n : Int} (h : InI S n) (hR : RT S) (ho : 0 ≤ o.toInt) (n1 : 1 ≤ n) (n2 : o.toInt + n ≤ (qI S 0 37).toInt) (hI : InC S o op n) (bo : 0 ≤ op.toInt ∧ op.toInt < 256) (x1 : ¬ (2 ≤ op.toInt ∧ op.toInt ≤ 10)) (x2 : op.toInt ≠ 16) (x3 : op.toInt ≠ 17) (x4 : op.toInt ≠ 19) (x5 : ¬ (26 ≤ op.toInt ∧ op.toInt ≤ 33)) : w_instruction_J221 (IRp S n) (fun _ => True) S o op := by
  by_cases z200 : op.toInt = 200
  · -- a far jump
    have s312 : w_instruction_J312 (IRp S n) (fun _ => True) S o op := by
      have h' := h
      obtain ⟨hC, hN, hc, hts, hL⟩ := h
      have hcc := hC.2
      have n5 := hI.2.2.1 z200
      clear hI
      have e1 : (o + (1 : Int32)).toInt = o.toInt + 1 := by rw [t_add (by rw [li_1]; omega), li_1]
      have s435 : w_instruction_J435 (IRp S n) (fun _ => True) S o op := by
        unfold w_instruction_J435
        refine ⟨fun q => by omega, fun _ => ⟨fun q => by omega, fun _ => ⟨fun _ => ?_, fun q => absurd z200 q⟩⟩⟩
        refine ⟨hC.four (by omega) (by omega), _, _, sp_target hC hN, ?_, fun _ _ => trivial⟩
        rintro r u ⟨rfl, t0, t1⟩
        have l : (167 : Int32).toInt = 167 := by decide
        exact in_rw1 hc n1 ⟨by unfold opW; omega, fun _ => ⟨t0, t1⟩, fun q => by omega, fun q => by omega, fun q => by omega, fun q => by omega, fun q => by omega⟩ (by omega) (by omega) (by omega)
      unfold w_instruction_J312
      exact ⟨fun q => by omega, fun _ => ⟨fun q => by omega, fun _ => ⟨fun q => by omega, fun _ => ⟨fun q => by omega, fun _ => ⟨fun q => by omega, fun _ => ⟨fun q => by omega, fun _ => ⟨fun q => by omega, fun _ => ⟨fun q => by omega, fun _ => ⟨fun q => by omega, fun _ => ⟨fun q => by omega, fun _ => s435⟩⟩⟩⟩⟩⟩⟩⟩⟩⟩
    unfold w_instruction_J221 w_instruction_J247 w_instruction_J286
    exact ⟨fun q => by omega, fun _ => ⟨fun _ => ⟨fun q => by omega, fun _ => ⟨fun _ => ⟨fun q => by omega, fun _ => ⟨fun _ => s312, fun q => by omega⟩⟩, fun q => by omega⟩⟩, fun q => by omega⟩⟩
  · have l75 : (75 : Int32).toInt = 75 := by decide
    have l59 : (59 : Int32).toInt = 59 := by decide
    have l42 : (42 : Int32).toInt = 42 := by decide
    have s312 : ¬ (42 ≤ op.toInt ∧ op.toInt ≤ 45) → ¬ (59 ≤ op.toInt ∧ op.toInt ≤ 66) → ¬ (75 ≤ op.toInt ∧ op.toInt ≤ 78) → w_instruction_J312 (IRp S n) (fun _ => True) S o op := fun y1 y2 y3 => in_312 h hR ho n1 n2 hI (fun z => by rcases z with z | z | z | z | z | z | z | z | z; exact x1 z; exact x2 z; exact x3 z; exact x4 z; exact z200 z; exact x5 z; exact y1 z; exact y2 z; exact y3 z)
    have s286 : ¬ (42 ≤ op.toInt ∧ op.toInt ≤ 45) → ¬ (59 ≤ op.toInt ∧ op.toInt ≤ 66) → w_instruction_J286 (IRp S n) (fun _ => True) S o op := fun y1 y2 => by
      unfold w_instruction_J286
      exact ⟨fun q => s312 y1 y2 (fun z => by omega), fun c1 => ⟨fun q => s312 y1 y2 (fun z => by omega), fun c2 => in_lr h n1 (by decide) (by rw [t_sub (by rw [l75]; clear x1 x5 y1 y2; omega), l75]; clear x1 x5 y1 y2; omega)⟩⟩
    have s247 : ¬ (42 ≤ op.toInt ∧ op.toInt ≤ 45) → w_instruction_J247 (IRp S n) (fun _ => True) S o op := fun y1 => by
      unfold w_instruction_J247 w_instruction_J274
      exact ⟨fun q => s286 y1 (fun z => by omega), fun c1 => ⟨fun q => s286 y1 (fun z => by omega), fun c2 => ⟨fun _ => in_lr h n1 (by decide) (m4b (by clear x1 x5 y1; omega) bo.2 (by decide)), fun _ => in_lr h n1 (by decide) (m4b (by clear x1 x5 y1; omega) bo.2 (by decide))⟩⟩⟩
    unfold w_instruction_J221
    exact ⟨fun q => s247 (fun z => by omega), fun c1 => ⟨fun q => s247 (fun z => by omega), fun c2 => in_lr h n1 (by decide) (by rw [t_sub (by rw [l42]; clear x1 x5; omega), l42]; clear x1 x5; omega)⟩⟩
theorem sp_instruction {S : MS} {o : Int32} {n : Int} (h : InI S n) (hR : RT S) (ho : 0 ≤ o.toInt) (hS : SpR S o n) : w_instruction S o (IRp S n) (fun _ => True) := by
  have h' := h
  obtain ⟨hC, hN, hc, hts, hL⟩ := h
  have hcc := hC.2
  have hp := hR.1.2.2.2.2.2.2.1
  have n1 := hS.1
  have n2 := hS.2.1
  have bo := b_co (S := S) (x := o)
  have e1 : (o + (1 : Int32)).toInt = o.toInt + 1 := by rw [t_add (by rw [li_1]; omega), li_1]
  unfold w_instruction
  refine ⟨hC.oct ho (by omega), fun op eop => ?_⟩
  rw [← eop] at bo
  have hI : InC S o op n := InC.mk2 hS eop
  clear hS
  have s30 : (¬ (2 ≤ op.toInt ∧ op.toInt ≤ 8)) → w_instruction_J30 (IRp S n) (fun _ => True) S o op := fun q1 => by
    have l : (26 : Int32).toInt = 26 := by decide
    have s120 : (op.toInt = 18 ∨ op.toInt = 19) → w_instruction_J120 (IRp S n) (fun _ => True) S o op := fun q => by
      unfold w_instruction_J120 w_instruction_J149
      refine ⟨fun c => ?_, fun c => ?_⟩
      · have k := hI.1 (by simp [c])
        exact ⟨hC.oct (by omega) (by omega), _, _, sp_pushed h' n1 hp.2 (fun u hu => hu), fun u hu => hu, fun _ _ => trivial⟩
      · have k := hI.2.1 (by rcases q with q | q; exact absurd q c; simp [q])
        exact ⟨hC.two (by omega) (by omega), _, _, sp_pushed h' n1 hp.2 (fun u hu => hu), fun u hu => hu, fun _ _ => trivial⟩
    unfold w_instruction_J30
    refine ⟨fun q => ?_, fun c1 => ⟨fun q => ?_, fun c2 => ⟨fun q => ?_, fun c3 => ⟨fun q => ?_, fun c4 => ⟨fun q => s120 (Or.inl q), fun c5 => ⟨fun q => s120 (Or.inr q), fun c6 => ⟨fun q => ?_, fun c7 => ⟨fun q => in_221 h' hR ho n1 n2 hI bo (by omega) c3 c4 c6 (by omega), fun c8 => ⟨fun q => in_221 h' hR ho n1 n2 hI bo (by omega) c3 c4 c6 (by omega), fun c9 => ?_⟩⟩⟩⟩⟩⟩⟩⟩⟩
    · unfold w_instruction_J42; exact in_rw0 hc n1 (by decide)
    · unfold w_instruction_J42; exact in_rw0 hc n1 (by decide)
    · have k := hI.1 (by simp [q])
      have l2 : ((qI S 0 36 + o) + (1 : Int32)).toInt = (qI S 0 36).toInt + o.toInt + 1 := by rw [t_add (by rw [hC.ad ho (by omega), li_1]; have := hC.1.bnd; omega), hC.ad ho (by omega), li_1]
      have g := hC.1.rd (x := (qI S 0 36 + o) + 1) (by omega) (by omega)
      exact ⟨g.1, g.2, in_rw0 hc n1 (by decide)⟩
    · have k := hI.2.1 (by simp [q])
      exact ⟨hC.two (by omega) (by omega), in_rw0 hc n1 (by decide)⟩
    · have k := hI.2.1 (by simp [q])
      exact ⟨hC.two (by omega) (by omega), _, _, sp_pushed h' n1 hp.2 (fun u hu => hu), fun u hu => hu, fun _ _ => trivial⟩
    · unfold w_instruction_J209
      exact ⟨fun _ => in_lr h' n1 (by decide) (m4b (by clear q1; omega) bo.2 (by decide)), fun _ => in_lr h' n1 (by decide) (m4b (by clear q1; omega) bo.2 (by decide))⟩
  exact ⟨fun q => s30 (by omega), fun c1 => ⟨fun q => s30 (by omega), fun c2 => in_rw0 hc n1 (by decide)⟩⟩
/-! a catch is taken up -/
def cOK (C : Nat → Int32) (N : Int) (c : Nat) : Prop := (0 ≤ (C (4 * c)).toInt ∧ (C (4 * c)).toInt < N) ∧ (0 ≤ (C (4 * c + 1)).toInt ∧ (C (4 * c + 1)).toInt ≤ N) ∧ (0 ≤ (C (4 * c + 2)).toInt ∧ (C (4 * c + 2)).toInt < N) ∧ -1 ≤ (C (4 * c + 3)).toInt ∧ (C (4 * c + 3)).toInt ≤ 3
def CAp (S u : MS) : Prop := (qI u 0 45).toInt = (qI S 0 45).toInt + 1 ∧ (∀ j : Nat, (j : Int) < 4 * (qI S 0 45).toInt → qI u 21 j = qI S 21 j) ∧ cOK (qI u 21) (qI S 0 39).toInt (qI S 0 45).toInt.toNat
theorem sp_ca_161 {S : MS} {v2 v3 v4 v6 : Int32} (hC : CoI S) (hN : NbI S) (hc : 0 ≤ (qI S 0 45).toInt ∧ (qI S 0 45).toInt < 384) (h2 : 0 ≤ v2.toInt ∧ v2.toInt < (qI S 0 37).toInt ∧ 0 ≤ (qI S 18 v2.toInt.toNat).toInt) (h3 : v3.toInt = (qI S 0 37).toInt ∨ (0 ≤ v3.toInt ∧ v3.toInt < (qI S 0 37).toInt ∧ 0 ≤ (qI S 18 v3.toInt.toNat).toInt)) (h4 : 0 ≤ v4.toInt ∧ v4.toInt < (qI S 0 37).toInt ∧ 0 ≤ (qI S 18 v4.toInt.toNat).toInt) (h6 : -1 ≤ v6.toInt ∧ v6.toInt ≤ 3) : w_caught_J161 (CAp S) (fun _ => True) S v2 v3 v4 v6 := by
  have hcc := hC.2
  have e4 : ((4 : Int32) * qI S 0 45).toInt = 4 * (qI S 0 45).toInt := by rw [t_mul (by rw [li_4]; omega), li_4]
  have e41 : ((4 : Int32) * qI S 0 45 + 1).toInt = 4 * (qI S 0 45).toInt + 1 := by rw [t_add (by rw [li_1]; omega), li_1, e4]
  have e42 : ((4 : Int32) * qI S 0 45 + 2).toInt = 4 * (qI S 0 45).toInt + 2 := by rw [t_add (by rw [li_2]; omega), li_2, e4]
  have e43 : ((4 : Int32) * qI S 0 45 + 3).toInt = 4 * (qI S 0 45).toInt + 3 := by rw [t_add (by rw [li_3]; omega), li_3, e4]
  have e6 : (qI S 0 45 + 1).toInt = (qI S 0 45).toInt + 1 := by rw [t_add (by rw [li_1]; omega), li_1]
  unfold w_caught_J161
  refine ⟨⟨by omega, by omega⟩, ⟨by omega, by omega⟩, fun A eA => ⟨⟨by omega, by omega⟩, ?_⟩⟩
  have a0 : qI A 0 = qI S 0 := by rw [eA, rdH (by decide)]
  have a18 : qI A 18 = qI S 18 := by rw [eA, rdH (by decide)]
  rw [a0, a18]
  refine ⟨⟨by omega, by omega⟩, fun B eB => ⟨⟨by omega, by omega⟩, ?_⟩⟩
  have b0 : qI B 0 = qI S 0 := by rw [eB, rdH (by decide), a0]
  have b18 : qI B 18 = qI S 18 := by rw [eB, rdH (by decide), a18]
  rw [b0, b18]
  refine ⟨⟨by omega, by omega⟩, fun C eC => ?_⟩
  have c0 : qI C 0 = qI S 0 := by rw [eC, rdH (by decide), b0]
  rw [c0]
  refine ⟨⟨by omega, by omega⟩, fun D eD E eE => ?_⟩
  have d0 : qI D 0 = qI S 0 := by rw [eD, rdH (by decide), c0]
  have E21 : qI E 21 = qI D 21 := by rw [eE, rdH (by decide)]
  rw [e4] at eA
  rw [e41] at eB
  rw [e42] at eC
  rw [e43] at eD
  have D21 : ∀ j : Nat, qI E 21 j = if j = 4 * (qI S 0 45).toInt.toNat + 3 then v6 else if j = 4 * (qI S 0 45).toInt.toNat + 2 then qI S 18 v4.toInt.toNat else if j = 4 * (qI S 0 45).toInt.toNat + 1 then qI S 18 v3.toInt.toNat else if j = 4 * (qI S 0 45).toInt.toNat then qI S 18 v2.toInt.toNat else qI S 21 j := fun j => by
    rw [E21, eD, qI_wI, eC, qI_wI, eB, qI_wI, eA, qI_wI]
    by_cases z3 : j = 4 * (qI S 0 45).toInt.toNat + 3
    · rw [if_pos ⟨rfl, by omega⟩, if_pos z3]
    · rw [if_neg (by omega), if_neg z3]
      by_cases z2 : j = 4 * (qI S 0 45).toInt.toNat + 2
      · rw [if_pos ⟨rfl, by omega⟩, if_pos z2]
      · rw [if_neg (by omega), if_neg z2]
        by_cases z1 : j = 4 * (qI S 0 45).toInt.toNat + 1
        · rw [if_pos ⟨rfl, by omega⟩, if_pos z1]
        · rw [if_neg (by omega), if_neg z1]
          by_cases z0 : j = 4 * (qI S 0 45).toInt.toNat
          · rw [if_pos ⟨rfl, by omega⟩, if_pos z0]
          · rw [if_neg (by omega), if_neg z0]
  refine ⟨by rw [eE, qI_wI, if_pos ⟨rfl, rfl⟩, d0, e6], fun j hj => by rw [D21, if_neg (by omega), if_neg (by omega), if_neg (by omega), if_neg (by omega)], ?_⟩
  unfold cOK
  rw [D21, D21, D21, D21, if_neg (by omega), if_neg (by omega), if_neg (by omega), if_pos rfl, if_neg (by omega), if_neg (by omega), if_pos rfl, if_neg (by omega), if_pos rfl, if_pos rfl]
  have n2 := hN.2.2.2.1 v2.toInt.toNat (by omega)
  have n4 := hN.2.2.2.1 v4.toInt.toNat (by omega)
  refine ⟨⟨h2.2.2, n2.2⟩, ?_, ⟨h4.2.2, n4.2⟩, h6⟩
  rcases h3 with q | ⟨q1, q2, q3⟩
  · rw [q, hN.2.2.1]
    have := hN.1
    omega
  · have n3 := hN.2.2.2.1 v3.toInt.toNat (by omega)
    omega
theorem sp_caught {S : MS} {x1 : Int32} (hC : CoI S) (hN : NbI S) (hR : RT S) (hc : 0 ≤ (qI S 0 45).toInt ∧ (qI S 0 45).toInt < 384) (hx : 0 ≤ x1.toInt ∧ x1.toInt + 8 ≤ (qI S 0 12).toInt) : w_caught S x1 (CAp S) (fun _ => True) := by
  have hb := hC.1.bnd
  have hcc := hC.2
  obtain ⟨hM, hn, hty, href, -, htx, hcd⟩ := hR
  have hp := hM.2.2.2.2.2.2.1
  have e2 : (x1 + (2 : Int32)).toInt = x1.toInt + 2 := by rw [t_add (by rw [li_2]; omega), li_2]
  have e4 : (x1 + (4 : Int32)).toInt = x1.toInt + 4 := by rw [t_add (by rw [li_4]; omega), li_4]
  have e6 : (x1 + (6 : Int32)).toInt = x1.toInt + 6 := by rw [t_add (by rw [li_6]; omega), li_6]
  unfold w_caught
  refine ⟨hC.1.two (by omega) (by omega), fun a ea => ⟨hC.1.two (by omega) (by omega), fun b eb => ⟨hC.1.two (by omega) (by omega), fun c ec => ⟨hC.1.two (by omega) (by omega), fun d ed => ⟨d_iS hC _, ?_⟩⟩⟩⟩⟩
  have s77 : ∀ t : Int32, (t.toInt ≠ 0 → (0 ≤ a.toInt ∧ a.toInt < (qI S 0 37).toInt ∧ 0 ≤ (qI S 18 a.toInt.toNat).toInt) ∧ (b.toInt = (qI S 0 37).toInt ∨ (0 ≤ b.toInt ∧ b.toInt < (qI S 0 37).toInt ∧ 0 ≤ (qI S 18 b.toInt.toNat).toInt)) ∧ (0 ≤ c.toInt ∧ c.toInt < (qI S 0 37).toInt ∧ 0 ≤ (qI S 18 c.toInt.toNat).toInt)) → w_caught_J77 (CAp S) (fun _ => True) S t x1 a b c d := fun t ht => by
    unfold w_caught_J77
    refine ⟨_, _, sp_must, ?_, fun _ _ => trivial⟩
    rintro u ⟨rfl, hz⟩
    obtain ⟨h2, h3, h4⟩ := ht hz
    refine ⟨fun _ => sp_ca_161 hC hN hc h2 h3 h4 (by decide), fun cd => ⟨d_isE hp.2 _ _, _, _, sp_must, ?_, fun _ _ => trivial⟩⟩
    rintro u2 ⟨rfl, hz2⟩
    have hE := f_isE hz2
    have hE1 := hE.1
    have hE2 := hE.2.1
    have hnm := (href d.toInt.toNat (by omega) (by omega)).1 hE.2.2
    have txs : ∀ i : Nat, i < NTX → qN u2 (TXB + 2 * i + 1) < 1000 := fun i hi => by
      rw [(htx i hi).2.1]
      revert i
      decide
    have L : ∀ (m : Nat) (err e : Int32), (0 ≤ e.toInt ∧ e.toInt ≤ 4) → (-1 ≤ err.toInt ∧ err.toInt ≤ 3) → (4 - e.toInt).toNat < m → w_caught_L109 (CAp u2) (fun _ => True) m u2 x1 a b c d err e := by
      intro m
      induction m with
      | zero => intro err e _ _ h9; exact absurd h9 (Nat.not_lt_zero _)
      | succ m ih =>
        intro err e he herr hm
        have s155 : ∀ t : Int32, w_caught_J155 (CAp u2) (fun _ => True) u2 t x1 a b c err := fun t => by
          unfold w_caught_J155
          refine ⟨_, _, sp_must, ?_, fun _ _ => trivial⟩
          rintro u3 ⟨rfl, -⟩
          exact sp_ca_161 hC hN hc h2 h3 h4 herr
        have ee : (e + Int32.ofInt 1).toInt = e.toInt + 1 := by rw [t_add (by rw [lo_1]; omega), lo_1]
        have s138 : ¬ 4 ≤ e.toInt → ∀ err2 : Int32, (-1 ≤ err2.toInt ∧ err2.toInt ≤ 3) → w_caught_J138 (CAp u2) (fun _ => True) (w_caught_L109 (CAp u2) (fun _ => True) m) u2 x1 a b c d err2 e := fun c4 err2 h2 => by
          unfold w_caught_J138
          intro k ek
          subst ek
          exact ih err2 _ ⟨by omega, by omega⟩ h2 (by omega)
        unfold w_caught_L109
        refine ⟨fun _ => ⟨fun _ => s155 0, fun _ => s155 1⟩, fun c4 => ⟨⟨by omega, by omega⟩, trivial, _, sp_isText hM hnm ?_, ?_⟩⟩
        · unfold f_errorName
          have t1 := txs 1 (by decide)
          have t2 := txs 2 (by decide)
          have t3 := txs 3 (by decide)
          have t4 := txs 4 (by decide)
          by_cases z0 : e.toInt = 0
          · rw [if_pos z0]; exact t1
          · rw [if_neg z0]
            by_cases z1 : e.toInt = 1
            · rw [if_pos z1]; exact t2
            · rw [if_neg z1]
              by_cases z2 : e.toInt = 2
              · rw [if_pos z2]; exact t3
              · rw [if_neg z2]; exact t4
        · rintro r u3 rfl
          exact ⟨fun _ => s138 c4 err herr, fun _ => s138 c4 e ⟨by omega, by omega⟩⟩
    exact ⟨_, L _ (-1) 0 (by decide) (by decide) (Nat.lt_succ_self _)⟩
  have s76 : w_caught_J76 (CAp S) (fun _ => True) S x1 a b c d := by
    unfold w_caught_J76
    exact s77 0 (fun q => absurd rfl q)
  have s58 : (f_isStart S a).toInt ≠ 0 → (b.toInt = (qI S 0 37).toInt ∨ (0 ≤ b.toInt ∧ b.toInt < (qI S 0 37).toInt ∧ 0 ≤ (qI S 18 b.toInt.toNat).toInt)) → w_caught_J58 (CAp S) (fun _ => True) S x1 a b c d := fun ha hb => by
    unfold w_caught_J58
    exact ⟨d_iS hC _, fun _ => s76, fun q => ⟨fun _ => s76, fun _ => s77 1 (fun _ => ⟨f_iS ha, hb, f_iS q⟩)⟩⟩
  exact ⟨fun _ => s76, fun ha => ⟨fun q => s58 ha (Or.inl q), fun _ => ⟨d_iS hC _, fun _ => s76, fun q => s58 ha (Or.inr (f_iS q))⟩⟩⟩
/-! where a row's constant comes from, where its table lies (behind sp_instruction, fr_row, fr_target, fr_member) -/
def kcG (tg : Nat → Int32) (wv : Nat → Int64) (pc : Int) (op a b : Int32) : Prop := (op.toInt = 18 → (-32768 ≤ a.toInt ∧ a.toInt ≤ 32767) ∨ ∃ k : Nat, (1 ≤ k ∧ (k : Int) < pc) ∧ (tg k).toInt = 3 ∧ a = (wv k).toInt32) ∧ (op.toInt = 20 → (a = 0 ∧ (b = 0 ∨ b = 1)) ∨ ∃ k : Nat, (1 ≤ k ∧ (k : Int) < pc) ∧ (tg k).toInt = 5 ∧ a = ((wv k) >>> ((32 : Int32).toInt64 &&& 63)).toInt32 ∧ b = (wv k).toInt32)
def kcV (S : MS) (op a b : Int32) : Prop := kcG (qI S 4) (qJ S 8) (qI S 0 14).toInt op a b
def rwI (S : MS) (i : Nat) (op a b : Int32) : Prop := qI S 19 (3 * i) = op ∧ qI S 19 (3 * i + 1) = a ∧ qI S 19 (3 * i + 2) = b
def isT (S : MS) (i : Nat) : Prop := (qI S 19 (3 * i)).toInt = 170 ∨ (qI S 19 (3 * i)).toInt = 171
def tbA (S : MS) (i : Nat) : Int := (qI S 19 (3 * i + 1)).toInt
def tbB (S : MS) (i : Nat) : Int := (qI S 19 (3 * i + 2)).toInt
def nwP (S u : MS) : Prop := kcV S (qI u 19 (3 * (qI S 0 41).toInt.toNat)) (qI u 19 (3 * (qI S 0 41).toInt.toNat + 1)) (qI u 19 (3 * (qI S 0 41).toInt.toNat + 2)) ∧ (isT u (qI S 0 41).toInt.toNat → (qI S 0 43).toInt ≤ tbA u (qI S 0 41).toInt.toNat)
theorem kcV.mv {S u : MS} {op a b : Int32} (h : kcV S op a b) (e4 : qI u 4 = qI S 4) (e8 : qJ u 8 = qJ S 8) (e14 : qI u 0 14 = qI S 0 14) : kcV u op a b := by
  unfold kcV
  rw [e4, e8, e14]
  exact h
theorem nwP.bk {S U u : MS} (h : nwP U u) (e4 : qI U 4 = qI S 4) (e8 : qJ U 8 = qJ S 8) (e14 : qI U 0 14 = qI S 0 14) (e41 : qI U 0 41 = qI S 0 41) (t : isT u (qI S 0 41).toInt.toNat → (qI S 0 43).toInt ≤ tbA u (qI S 0 41).toInt.toNat) : nwP S u := by
  have k := h.1
  rw [e41] at k
  exact ⟨k.mv e4.symm e8.symm e14.symm, t⟩
theorem nwP.fm {S U u : MS} (h : nwP U u) (f : frm [] [7, 8] S U) : nwP S u := by
  have e41 : qI U 0 41 = qI S 0 41 := (f.2.2.2.2.2 41 (by decide)).1
  have t := h.2
  rw [e41, (f.2.2.2.2.2 43 (by decide)).1] at t
  exact h.bk (f.2.2.2.2.1 4 (by decide) (by decide)).1 (f.2.2.2.2.1 8 (by decide) (by decide)).2.1 (f.2.2.2.2.2 14 (by decide)).1 e41 t
theorem nw_rowC {S : MS} {op a b : Int32} {Q : MS → Prop} (h : w_row S op a b Q) (hc : 0 ≤ (qI S 0 41).toInt ∧ (qI S 0 41).toInt < 28800) : w_row S op a b (fun u => Q u ∧ rwI u (qI S 0 41).toInt.toNat op a b) := by
  have e3 : ((3 : Int32) * qI S 0 41).toInt = 3 * (qI S 0 41).toInt := by rw [t_mul (by rw [li_3]; omega), li_3]
  have e4 : ((3 : Int32) * qI S 0 41 + 1).toInt = 3 * (qI S 0 41).toInt + 1 := by rw [t_add (by rw [li_1]; omega), li_1, e3]
  have e5 : ((3 : Int32) * qI S 0 41 + 2).toInt = 3 * (qI S 0 41).toInt + 2 := by rw [t_add (by rw [li_2]; omega), li_2, e3]
  unfold w_row at h ⊢
  obtain ⟨g1, h1⟩ := h
  refine ⟨g1, fun A eA => ?_⟩
  obtain ⟨g2, h2⟩ := h1 A eA
  refine ⟨g2, fun B eB => ?_⟩
  obtain ⟨g3, h3⟩ := h2 B eB
  refine ⟨g3, fun C eC D eD => ⟨h3 C eC D eD, ?_⟩⟩
  have a0 : qI A 0 = qI S 0 := by rw [eA, rdH (by decide)]
  have b0 : qI B 0 = qI S 0 := by rw [eB, rdH (by decide), a0]
  rw [e3] at eA
  rw [a0, e4] at eB
  rw [b0, e5] at eC
  have d19 : qI D 19 = qI C 19 := by rw [eD, rdH (by decide)]
  unfold rwI
  rw [d19]
  refine ⟨?_, ?_, ?_⟩
  · rw [eC, qI_wI, if_neg (by omega), eB, qI_wI, if_neg (by omega), eA, qI_wI, if_pos ⟨rfl, by omega⟩]
  · rw [eC, qI_wI, if_neg (by omega), eB, qI_wI, if_pos ⟨rfl, by omega⟩]
  · rw [eC, qI_wI, if_pos ⟨rfl, by omega⟩]
theorem nwP.of {S u : MS} {op a b : Int32} (r : rwI u (qI S 0 41).toInt.toNat op a b) (hk : kcV S op a b) (ht : op.toInt = 170 ∨ op.toInt = 171 → (qI S 0 43).toInt ≤ a.toInt) : nwP S u := by
  obtain ⟨r1, r2, r3⟩ := r
  refine ⟨by rw [r1, r2, r3]; exact hk, fun t => ?_⟩
  unfold isT at t
  unfold tbA
  rw [r1] at t
  rw [r2]
  exact ht t
theorem nw_row {S V : MS} {op a b : Int32} {Q : MS → Prop} (h : ∃ Q1, w_row V op a b Q1 ∧ ∀ u, Q1 u → Q u) (e41 : qI V 0 41 = qI S 0 41) (hc : 0 ≤ (qI S 0 41).toInt ∧ (qI S 0 41).toInt < 28800) (hk : kcV S op a b) (ht : op.toInt = 170 ∨ op.toInt = 171 → (qI S 0 43).toInt ≤ a.toInt) : ∃ Q1, w_row V op a b Q1 ∧ ∀ u, Q1 u → Q u ∧ nwP S u := by
  obtain ⟨Q1, h1, h2⟩ := h
  refine ⟨_, nw_rowC h1 (by rw [e41]; exact hc), ?_⟩
  rintro u ⟨q, r⟩
  rw [e41] at r
  exact ⟨h2 u q, nwP.of r hk ht⟩
theorem kcT {S : MS} {op a b : Int32} (h1 : op.toInt ≠ 18) (h2 : op.toInt ≠ 20) : kcV S op a b := ⟨fun q => absurd q h1, fun q => absurd q h2⟩
section NWX
variable {S : MS} {Q E : MS → Prop}
theorem nw_localRow {x1 x2 x3 : Int32} (h : w_localRow S x1 x2 x3 Q E) (hc : 0 ≤ (qI S 0 41).toInt ∧ (qI S 0 41).toInt < 28800) (h1 : x2.toInt ≠ 18) (h2 : x2.toInt ≠ 20) (h3 : x2.toInt ≠ 170) (h4 : x2.toInt ≠ 171) : w_localRow S x1 x2 x3 (fun u => Q u ∧ nwP S u) E := by
  have j36 : ∀ t : Int32, w_localRow_J36 Q E S t x1 x2 x3 → w_localRow_J36 (fun u => Q u ∧ nwP S u) E S t x1 x2 x3 := fun t g => by
    unfold w_localRow_J36 at g ⊢
    obtain ⟨Q2, E2, g1, g2, g3⟩ := g
    refine ⟨_, _, fr_point g1, ?_, fun u hu => g3 u hu.1⟩
    rintro V ⟨qV, fV⟩
    have e41 : qI V 0 41 = qI S 0 41 := (fV.2.2.2.2.2 41 (by decide)).1
    exact nw_row (g2 V qV) e41 hc (kcT h1 h2) (fun q => by omega)
  have j17 : ∀ t : Int32, w_localRow_J17 Q E S t x1 x2 x3 → w_localRow_J17 (fun u => Q u ∧ nwP S u) E S t x1 x2 x3 := fun t g => by
    unfold w_localRow_J17 at g ⊢
    exact ⟨fun c => j36 _ (g.1 c), fun c => j36 _ (g.2 c)⟩
  unfold w_localRow at h ⊢
  exact ⟨fun c => j17 _ (h.1 c), fun c => ⟨fun d => j17 _ ((h.2 c).1 d), fun d => j17 _ ((h.2 c).2 d)⟩⟩
theorem nw_grown {x1 x2 x3 : Int32} (h : w_grown S x1 x2 x3 Q E) (hc : 0 ≤ (qI S 0 41).toInt ∧ (qI S 0 41).toInt < 28800) : w_grown S x1 x2 x3 (fun u => Q u ∧ nwP S u) E := by
  have j14 : ∀ t : Int32, w_grown_J14 Q E S t x1 x2 x3 → w_grown_J14 (fun u => Q u ∧ nwP S u) E S t x1 x2 x3 := fun t g => by
    unfold w_grown_J14 at g ⊢
    obtain ⟨Q2, E2, g1, g2, g3⟩ := g
    refine ⟨_, _, fr_point g1, ?_, fun u hu => g3 u hu.1⟩
    rintro V ⟨qV, fV⟩
    have e41 : qI V 0 41 = qI S 0 41 := (fV.2.2.2.2.2 41 (by decide)).1
    exact nw_row (g2 V qV) e41 hc (kcT (by decide) (by decide)) (fun q => absurd q (by decide))
  unfold w_grown at h ⊢
  exact ⟨fun c => j14 _ (h.1 c), fun c => j14 _ (h.2 c)⟩
theorem nw_wide {x1 x2 : Int32} (h : w_wide S x1 x2 Q E) (hc : 0 ≤ (qI S 0 41).toInt ∧ (qI S 0 41).toInt < 28800) (h1 : x2.toInt ≠ 18) (h2 : x2.toInt ≠ 20) (h3 : x2.toInt ≠ 170) (h4 : x2.toInt ≠ 171) : w_wide S x1 x2 (fun u => Q u ∧ nwP S u) E := by
  unfold w_wide at h ⊢
  obtain ⟨d, g⟩ := h
  refine ⟨d, fun a ea => ⟨fun c => ?_, fun c => ?_⟩⟩
  · obtain ⟨d2, Q1, E1, g1, g2, g3⟩ := (g a ea).1 c
    exact ⟨d2, _, _, nw_grown g1 hc, fun u hu => ⟨g2 u hu.1, hu.2⟩, g3⟩
  · obtain ⟨Q1, E1, g1, g2, g3⟩ := (g a ea).2 c
    exact ⟨_, _, nw_localRow g1 hc h1 h2 h3 h4, fun u hu => ⟨g2 u hu.1, hu.2⟩, g3⟩
theorem f_isEx {x1 x2 : Int32} (h : ¬ (f_isEntry S x1 x2).toInt = 0) : 1 ≤ x1.toInt ∧ x1.toInt < (qI S 0 14).toInt ∧ (qI S 4 x1.toInt.toNat).toInt = x2.toInt := by
  unfold f_isEntry f_isEntry_J27 at h
  by_cases c1 : x1.toInt < 1
  · rw [if_pos c1] at h; exact absurd rfl h
  · rw [if_neg c1] at h
    by_cases c2 : (qI S 0 14).toInt ≤ x1.toInt
    · rw [if_pos c2] at h; exact absurd rfl h
    · rw [if_neg c2] at h
      by_cases c3 : (qI S 4 x1.toInt.toNat).toInt = x2.toInt
      · exact ⟨by omega, by omega, c3⟩
      · rw [if_neg c3] at h; exact absurd rfl h
theorem po_nz {x1 x2 : Int32} {Q2 : MS → Prop} (h : w_point S x1 x2 Q2 E) : w_point S x1 x2 (fun u => Q2 u ∧ ¬ x1.toInt = 0) E := by
  unfold w_point w_must at h ⊢
  obtain ⟨Q3, E3, g1, g2, g3⟩ := h
  refine ⟨fun u => Q3 u ∧ ¬ x1.toInt = 0, E3, ?_, fun u hu => ⟨g2 u hu.1, hu.2⟩, g3⟩
  exact ⟨g1.1, fun q => ⟨g1.2 q, q⟩⟩
theorem nw_pushed {x1 x2 x3 : Int32} (h : w_pushed S x1 x2 x3 Q E) (hc : 0 ≤ (qI S 0 41).toInt ∧ (qI S 0 41).toInt < 28800) (h3 : x3.toInt = 3 ∨ x3.toInt = 5) : w_pushed S x1 x2 x3 (fun u => Q u ∧ nwP S u) E := by
  unfold w_pushed at h ⊢
  obtain ⟨d, Q4, E4, g1, g2, g3⟩ := h
  refine ⟨d, _, _, po_nz (fr_point g1), ?_, fun u hu => g3 u hu.1⟩
  rintro V ⟨⟨qV, fV⟩, nz⟩
  have ie := f_isEx nz
  have e41 : qI V 0 41 = qI S 0 41 := (fV.2.2.2.2.2 41 (by decide)).1
  have e14 : qI V 0 14 = qI S 0 14 := (fV.2.2.2.2.2 14 (by decide)).1
  have e4 : qI V 4 = qI S 4 := (fV.2.2.2.2.1 4 (by decide) (by decide)).1
  have e8 : qJ V 8 = qJ S 8 := (fV.2.2.2.2.1 8 (by decide) (by decide)).2.1
  obtain ⟨k1, k2⟩ := g2 V qV
  refine ⟨fun c => ⟨(k1 c).1, ?_⟩, fun c => ⟨(k2 c).1, (k2 c).2.1, ?_⟩⟩
  · refine nw_row (k1 c).2 e41 hc ⟨fun _ => Or.inr ⟨x2.toInt.toNat, by omega, by rw [ie.2.2]; exact c, by rw [e8]⟩, fun q => absurd q (by decide)⟩ (fun q => absurd q (by decide))
  · refine nw_row (k2 c).2.2 e41 hc ⟨fun q => absurd q (by decide), fun _ => Or.inr ⟨x2.toInt.toNat, by omega, by rw [ie.2.2]; omega, by rw [e8], by rw [e8]⟩⟩ (fun q => absurd q (by decide))
end NWX
theorem nw_sw_L79 {S : MS} {Q E : MS → Prop} {v1 v2 v3 v4 v5 v6 : Int32} (hc : 0 ≤ (qI S 0 41).toInt ∧ (qI S 0 41).toInt < 28800) (h2 : v2.toInt = 170 ∨ v2.toInt = 171) (h4 : v4 = qI S 0 43) : ∀ (n : Nat) (U : MS) (v7 : Int32), frm [20] [7, 8, 43] S U → w_switched_L79 Q E n U v1 v2 v3 v4 v5 v6 v7 → w_switched_L79 (fun u => Q u ∧ nwP S u) E n U v1 v2 v3 v4 v5 v6 v7 := by
  intro n
  induction n with
  | zero => intro U v7 _ h; unfold w_switched_L79 at h; exact h.elim
  | succ n ih =>
    intro U v7 fU h
    have e41 : qI U 0 41 = qI S 0 41 := (fU.2.2.2.2.2 41 (by decide)).1
    have e14 : qI U 0 14 = qI S 0 14 := (fU.2.2.2.2.2 14 (by decide)).1
    have e4 : qI U 4 = qI S 4 := (fU.2.2.2.2.1 4 (by decide) (by decide)).1
    have e8 : qJ U 8 = qJ S 8 := (fU.2.2.2.2.1 8 (by decide) (by decide)).2.1
    have j166 : ∀ (V : MS) (t0 t2 t4 : Int32), frm [20] [7, 8, 43] S V → w_switched_J166 Q E (w_switched_L79 Q E n) V t0 t2 t4 v1 v2 v3 v4 v5 v6 v7 → w_switched_J166 (fun u => Q u ∧ nwP S u) E (w_switched_L79 (fun u => Q u ∧ nwP S u) E n) V t0 t2 t4 v1 v2 v3 v4 v5 v6 v7 := fun V t0 t2 t4 fV g => by
      unfold w_switched_J166 at g ⊢
      obtain ⟨d, Q3, E3, g1, g2, g3⟩ := g
      refine ⟨d, _, _, fr_target g1, ?_, fun u hu => g3 u hu.1⟩
      rintro r W ⟨qW, fW⟩
      obtain ⟨i1, i2⟩ := g2 r W qW
      refine ⟨i1, fun X eX Y eY a ea => ih Y a ?_ (i2 X eX Y eY a ea)⟩
      have f1 : frm [20] [7, 8, 43] W X := by rw [eX]; exact frm.pI (by decide)
      have f2 : frm [20] [7, 8, 43] X Y := by rw [eY]; exact frm.pI0 (by decide)
      exact ((fV.tr (fW.mo (by decide) (by decide))).tr f1).tr f2
    have j123 : ∀ (t0 t1 : Int32), w_switched_J123 Q E (w_switched_L79 Q E n) U t0 t1 v1 v2 v3 v4 v5 v6 v7 → w_switched_J123 (fun u => Q u ∧ nwP S u) E (w_switched_L79 (fun u => Q u ∧ nwP S u) E n) U t0 t1 v1 v2 v3 v4 v5 v6 v7 := fun t0 t1 g => by
      unfold w_switched_J123 at g ⊢
      obtain ⟨i1, i2⟩ := g
      refine ⟨i1, fun X eX => ?_⟩
      have fX : frm [20] [7, 8, 43] S X := fU.tr (by rw [eX]; exact frm.pI (by decide))
      exact ⟨fun c => j166 X _ _ _ fX ((i2 X eX).1 c), fun c => j166 X _ _ _ fX ((i2 X eX).2 c)⟩
    unfold w_switched_L79 at h ⊢
    refine ⟨fun c => nw_row (h.1 c) e41 hc (kcT (by omega) (by omega)) (fun _ => by rw [h4]; exact Int.le_refl _), fun c => ⟨fun d => j123 _ _ ((h.2 c).1 d), fun d => ⟨((h.2 c).2 d).1, j123 _ _ ((h.2 c).2 d).2⟩⟩⟩
theorem nw_switched {S : MS} {Q E : MS → Prop} {x1 x2 : Int32} (h : w_switched S x1 x2 Q E) (hc : 0 ≤ (qI S 0 41).toInt ∧ (qI S 0 41).toInt < 28800) (h2 : x2.toInt = 170 ∨ x2.toInt = 171) : w_switched S x1 x2 (fun u => Q u ∧ nwP S u) E := by
  unfold w_switched at h ⊢
  obtain ⟨d, h1⟩ := h
  refine ⟨d, fun a4 e4 a5 e5 => ?_⟩
  obtain ⟨d2, Q9, E9, g1, g2, g3⟩ := h1 a4 e4 a5 e5
  refine ⟨d2, _, _, fr_target g1, ?_, fun u hu => g3 u hu.1⟩
  rintro r W ⟨qW, fW⟩
  obtain ⟨i1, i2⟩ := g2 r W qW
  refine ⟨i1, fun X eX Y eY => ?_⟩
  have f1 : frm [20] [7, 8, 43] W X := by rw [eX]; exact frm.pI (by decide)
  have f2 : frm [20] [7, 8, 43] X Y := by rw [eY]; exact frm.pI0 (by decide)
  have fY := ((fW.mo (W' := [20]) (J' := [7, 8, 43]) (by decide) (by decide)).tr f1).tr f2
  obtain ⟨d3, i3⟩ := i2 X eX Y eY
  refine ⟨d3, fun a21 e21 => ?_⟩
  have j74 : ∀ t : Int32, w_switched_J74 Q E Y t x1 x2 a4 a5 a21 → w_switched_J74 (fun u => Q u ∧ nwP S u) E Y t x1 x2 a4 a5 a21 := fun t g => by
    unfold w_switched_J74 at g ⊢
    obtain ⟨n, hn⟩ := g
    exact ⟨n, nw_sw_L79 hc h2 e5 n Y 0 fY hn⟩
  exact ⟨fun c => ⟨((i3 a21 e21).1 c).1, j74 _ ((i3 a21 e21).1 c).2⟩, fun c => j74 _ ((i3 a21 e21).2 c)⟩
theorem by_rg {v : Int32} (h : fits .byte (.int v) = true) : -128 ≤ v.toInt ∧ v.toInt ≤ 127 := by
  simp only [fits, Bool.and_eq_true, decide_eq_true_eq, Int32.le_iff_toInt_le] at h
  have a : (-128 : Int32).toInt = -128 := by decide
  have b : (127 : Int32).toInt = 127 := by decide
  omega
theorem c2_rg {S : MS} {x : Int32} : -32768 ≤ (f_codeTwo S x).toInt ∧ (f_codeTwo S x).toInt ≤ 32767 := by
  unfold f_codeTwo
  rw [Int16.toInt_toInt32]
  have h1 := Int16.toInt_lt (f_two S (qI S 0 36 + x)).toInt16
  have h2 := Int16.le_toInt (f_two S (qI S 0 36 + x)).toInt16
  omega
section NWI
variable {S : MS} {Q E : MS → Prop} {o op : Int32}
theorem nw_449 (hc : 0 ≤ (qI S 0 41).toInt ∧ (qI S 0 41).toInt < 28800) (h : w_instruction_J449 Q E S o op) (h1 : op.toInt ≠ 18) (h2 : op.toInt ≠ 20) (h3 : op.toInt ≠ 170) (h4 : op.toInt ≠ 171) : w_instruction_J449 (fun u => Q u ∧ nwP S u) E S o op := by
  unfold w_instruction_J449 at h ⊢
  obtain ⟨d, Q1, E1, g1, g2, g3⟩ := h
  refine ⟨d, _, _, fr_target g1, ?_, fun u hu => g3 u hu.1⟩
  rintro r V ⟨qV, fV⟩
  exact nw_row (g2 r V qV) (fV.2.2.2.2.2 41 (by decide)).1 hc (kcT h1 h2) (fun q => by omega)
theorem nw_537 (hc : 0 ≤ (qI S 0 41).toInt ∧ (qI S 0 41).toInt < 28800) (h : w_instruction_J537 Q E S o op) (h1 : op.toInt ≠ 18) (h2 : op.toInt ≠ 20) (h3 : op.toInt ≠ 170) (h4 : op.toInt ≠ 171) : w_instruction_J537 (fun u => Q u ∧ nwP S u) E S o op := by
  unfold w_instruction_J537 at h ⊢
  obtain ⟨Q1, E1, g1, g2, g3⟩ := h
  refine ⟨_, _, fr_member g1, ?_, fun u hu => g3 u hu.1⟩
  rintro r V ⟨qV, fV⟩
  exact nw_row (g2 r V qV) (fV.2.2.2.2.2 41 (by decide)).1 hc (kcT h1 h2) (fun q => by omega)
theorem nw_514 (hc : 0 ≤ (qI S 0 41).toInt ∧ (qI S 0 41).toInt < 28800) (h : w_instruction_J514 Q E S o op) (h2 : op.toInt = 170 ∨ op.toInt = 171) : w_instruction_J514 (fun u => Q u ∧ nwP S u) E S o op := by
  unfold w_instruction_J514 at h ⊢
  obtain ⟨Q1, E1, g1, g2, g3⟩ := h
  exact ⟨_, _, nw_switched g1 hc h2, fun u hu => ⟨g2 u hu.1, hu.2⟩, g3⟩
theorem nw_435 (hc : 0 ≤ (qI S 0 41).toInt ∧ (qI S 0 41).toInt < 28800) (h : w_instruction_J435 Q E S o op) (h1 : op.toInt ≠ 18) (h2 : op.toInt ≠ 20) : w_instruction_J435 (fun u => Q u ∧ nwP S u) E S o op := by
  unfold w_instruction_J435 at h ⊢
  refine ⟨fun c1 => nw_449 hc (h.1 c1) h1 h2 (by omega) (by omega), fun c1 => ⟨fun c2 => nw_449 hc ((h.2 c1).1 c2) h1 h2 (by omega) (by omega), fun c2 => ⟨fun c3 => ?_, fun c3 => ⟨fun c4 => nw_514 hc ((((h.2 c1).2 c2).2 c3).1 c4) (Or.inl c4), fun c4 => ⟨fun c5 => nw_514 hc (((((h.2 c1).2 c2).2 c3).2 c4).1 c5) (Or.inr c5), fun c5 => ⟨fun c6 => nw_537 hc ((((((h.2 c1).2 c2).2 c3).2 c4).2 c5).1 c6) h1 h2 c4 c5, fun c6 => ⟨fun c7 => nw_537 hc (((((((h.2 c1).2 c2).2 c3).2 c4).2 c5).2 c6).1 c7) h1 h2 c4 c5, fun c7 => ⟨fun c8 => ?_, fun c8 => ?_⟩⟩⟩⟩⟩⟩⟩⟩
  · obtain ⟨d, Q1, E1, g1, g2, g3⟩ := ((h.2 c1).2 c2).1 c3
    refine ⟨d, _, _, fr_target g1, ?_, fun u hu => g3 u hu.1⟩
    rintro r V ⟨qV, fV⟩
    exact nw_row (g2 r V qV) (fV.2.2.2.2.2 41 (by decide)).1 hc (kcT (by decide) (by decide)) (fun q => absurd q (by decide))
  · obtain ⟨Q1, E1, g1, g2, g3⟩ := (((((((h.2 c1).2 c2).2 c3).2 c4).2 c5).2 c6).2 c7).1 c8
    refine ⟨_, _, fr_member g1, ?_, fun u hu => g3 u hu.1⟩
    rintro r V ⟨qV, fV⟩
    exact nw_row (g2 r V qV) (fV.2.2.2.2.2 41 (by decide)).1 hc (kcT h1 h2) (fun q => by omega)
  · exact nw_row ((((((((h.2 c1).2 c2).2 c3).2 c4).2 c5).2 c6).2 c7).2 c8) rfl hc (kcT h1 h2) (fun q => by omega)
theorem nw_348 (hc : 0 ≤ (qI S 0 41).toInt ∧ (qI S 0 41).toInt < 28800) (h : w_instruction_J348 Q E S o op) (h1 : op.toInt ≠ 18) (h2 : op.toInt ≠ 20) (h3 : op.toInt ≠ 170) (h4 : op.toInt ≠ 171) : w_instruction_J348 (fun u => Q u ∧ nwP S u) E S o op := by
  unfold w_instruction_J348 at h ⊢
  obtain ⟨d, Q1, E1, g1, g2, g3⟩ := h
  exact ⟨d, _, _, nw_localRow g1 hc h1 h2 h3 h4, fun u hu => ⟨g2 u hu.1, hu.2⟩, g3⟩
theorem nw_312 (hc : 0 ≤ (qI S 0 41).toInt ∧ (qI S 0 41).toInt < 28800) (h : w_instruction_J312 Q E S o op) (h1 : op.toInt ≠ 18) (h2 : op.toInt ≠ 20) (hw : op.toInt = 196 → (f_codeOctet S (o + 1)).toInt ≠ 18 ∧ (f_codeOctet S (o + 1)).toInt ≠ 20 ∧ (f_codeOctet S (o + 1)).toInt ≠ 170 ∧ (f_codeOctet S (o + 1)).toInt ≠ 171) : w_instruction_J312 (fun u => Q u ∧ nwP S u) E S o op := by
  unfold w_instruction_J312 at h ⊢
  refine ⟨fun c1 => nw_348 hc (h.1 c1) h1 h2 (by omega) (by omega), fun c1 => ⟨fun c2 => nw_348 hc ((h.2 c1).1 c2) h1 h2 (by omega) (by omega), fun c2 => ⟨fun c3 => nw_348 hc (((h.2 c1).2 c2).1 c3) h1 h2 (by omega) (by omega), fun c3 => ⟨fun c4 => nw_348 hc ((((h.2 c1).2 c2).2 c3).1 c4) h1 h2 (by omega) (by omega), fun c4 => ⟨fun c5 => nw_348 hc (((((h.2 c1).2 c2).2 c3).2 c4).1 c5) h1 h2 (by omega) (by omega), fun c5 => ⟨fun c6 => nw_348 hc ((((((h.2 c1).2 c2).2 c3).2 c4).2 c5).1 c6) h1 h2 (by omega) (by omega), fun c6 => ⟨fun c7 => ?_, fun c7 => ⟨fun c8 => ?_, fun c8 => ⟨fun c9 => nw_435 hc (((((((((h.2 c1).2 c2).2 c3).2 c4).2 c5).2 c6).2 c7).2 c8).1 c9) h1 h2, fun c9 => ⟨fun c10 => nw_449 hc ((((((((((h.2 c1).2 c2).2 c3).2 c4).2 c5).2 c6).2 c7).2 c8).2 c9).1 c10) h1 h2 (by omega) (by omega), fun c10 => nw_435 hc ((((((((((h.2 c1).2 c2).2 c3).2 c4).2 c5).2 c6).2 c7).2 c8).2 c9).2 c10) h1 h2⟩⟩⟩⟩⟩⟩⟩⟩⟩⟩
  · obtain ⟨d1, d2, d3, Q1, E1, g1, g2, g3⟩ := ((((((h.2 c1).2 c2).2 c3).2 c4).2 c5).2 c6).1 c7
    exact ⟨d1, d2, d3, _, _, nw_grown g1 hc, fun u hu => ⟨g2 u hu.1, hu.2⟩, g3⟩
  · obtain ⟨d1, Q1, E1, g1, g2, g3⟩ := (((((((h.2 c1).2 c2).2 c3).2 c4).2 c5).2 c6).2 c7).1 c8
    obtain ⟨w1, w2, w3, w4⟩ := hw c8
    exact ⟨d1, _, _, nw_wide g1 hc w1 w2 w3 w4, fun u hu => ⟨g2 u hu.1, hu.2⟩, g3⟩
theorem nw_286 (hc : 0 ≤ (qI S 0 41).toInt ∧ (qI S 0 41).toInt < 28800) (h : w_instruction_J286 Q E S o op) (h1 : op.toInt ≠ 18) (h2 : op.toInt ≠ 20) (hw : op.toInt = 196 → (f_codeOctet S (o + 1)).toInt ≠ 18 ∧ (f_codeOctet S (o + 1)).toInt ≠ 20 ∧ (f_codeOctet S (o + 1)).toInt ≠ 170 ∧ (f_codeOctet S (o + 1)).toInt ≠ 171) : w_instruction_J286 (fun u => Q u ∧ nwP S u) E S o op := by
  unfold w_instruction_J286 at h ⊢
  refine ⟨fun c1 => nw_312 hc (h.1 c1) h1 h2 hw, fun c1 => ⟨fun c2 => nw_312 hc ((h.2 c1).1 c2) h1 h2 hw, fun c2 => ?_⟩⟩
  obtain ⟨Q1, E1, g1, g2, g3⟩ := (h.2 c1).2 c2
  exact ⟨_, _, nw_localRow g1 hc (by decide) (by decide) (by decide) (by decide), fun u hu => ⟨g2 u hu.1, hu.2⟩, g3⟩
theorem nw_247 (hc : 0 ≤ (qI S 0 41).toInt ∧ (qI S 0 41).toInt < 28800) (h : w_instruction_J247 Q E S o op) (h1 : op.toInt ≠ 18) (h2 : op.toInt ≠ 20) (hw : op.toInt = 196 → (f_codeOctet S (o + 1)).toInt ≠ 18 ∧ (f_codeOctet S (o + 1)).toInt ≠ 20 ∧ (f_codeOctet S (o + 1)).toInt ≠ 170 ∧ (f_codeOctet S (o + 1)).toInt ≠ 171) : w_instruction_J247 (fun u => Q u ∧ nwP S u) E S o op := by
  have j274 : ∀ t : Int32, (t.toInt = 54 ∨ t.toInt = 55) → w_instruction_J274 Q E S t o op → w_instruction_J274 (fun u => Q u ∧ nwP S u) E S t o op := fun t ht g => by
    unfold w_instruction_J274 at g ⊢
    obtain ⟨Q1, E1, g1, g2, g3⟩ := g
    exact ⟨_, _, nw_localRow g1 hc (by omega) (by omega) (by omega) (by omega), fun u hu => ⟨g2 u hu.1, hu.2⟩, g3⟩
  unfold w_instruction_J247 at h ⊢
  exact ⟨fun c1 => nw_286 hc (h.1 c1) h1 h2 hw, fun c1 => ⟨fun c2 => nw_286 hc ((h.2 c1).1 c2) h1 h2 hw, fun c2 => ⟨fun c3 => j274 _ (by decide) (((h.2 c1).2 c2).1 c3), fun c3 => j274 _ (by decide) (((h.2 c1).2 c2).2 c3)⟩⟩⟩
theorem nw_221 (hc : 0 ≤ (qI S 0 41).toInt ∧ (qI S 0 41).toInt < 28800) (h : w_instruction_J221 Q E S o op) (h1 : op.toInt ≠ 18) (h2 : op.toInt ≠ 20) (hw : op.toInt = 196 → (f_codeOctet S (o + 1)).toInt ≠ 18 ∧ (f_codeOctet S (o + 1)).toInt ≠ 20 ∧ (f_codeOctet S (o + 1)).toInt ≠ 170 ∧ (f_codeOctet S (o + 1)).toInt ≠ 171) : w_instruction_J221 (fun u => Q u ∧ nwP S u) E S o op := by
  unfold w_instruction_J221 at h ⊢
  refine ⟨fun c1 => nw_247 hc (h.1 c1) h1 h2 hw, fun c1 => ⟨fun c2 => nw_247 hc ((h.2 c1).1 c2) h1 h2 hw, fun c2 => ?_⟩⟩
  obtain ⟨Q1, E1, g1, g2, g3⟩ := (h.2 c1).2 c2
  exact ⟨_, _, nw_localRow g1 hc (by decide) (by decide) (by decide) (by decide), fun u hu => ⟨g2 u hu.1, hu.2⟩, g3⟩
theorem nw_30 (hc : 0 ≤ (qI S 0 41).toInt ∧ (qI S 0 41).toInt < 28800) (h : w_instruction_J30 Q E S o op) (hb : byt S (qO S 0 11)) (hw : op.toInt = 196 → (f_codeOctet S (o + 1)).toInt ≠ 18 ∧ (f_codeOctet S (o + 1)).toInt ≠ 20 ∧ (f_codeOctet S (o + 1)).toInt ≠ 170 ∧ (f_codeOctet S (o + 1)).toInt ≠ 171) : w_instruction_J30 (fun u => Q u ∧ nwP S u) E S o op := by
  have j42 : (op.toInt = 9 ∨ op.toInt = 10) → w_instruction_J42 Q E S op → w_instruction_J42 (fun u => Q u ∧ nwP S u) E S op := fun q g => by
    unfold w_instruction_J42 at g ⊢
    refine nw_row g rfl hc ⟨fun z => absurd z (by decide), fun _ => Or.inl ⟨rfl, ?_⟩⟩ (fun z => absurd z (by decide))
    rcases q with q | q
    · exact Or.inl (by rw [show op = 9 from Int32.toInt_inj.mp q]; rfl)
    · exact Or.inr (by rw [show op = 10 from Int32.toInt_inj.mp q]; rfl)
  have j149 : ∀ t : Int32, w_instruction_J149 Q E S t o → w_instruction_J149 (fun u => Q u ∧ nwP S u) E S t o := fun t g => by
    unfold w_instruction_J149 at g ⊢
    obtain ⟨Q1, E1, g1, g2, g3⟩ := g
    exact ⟨_, _, nw_pushed g1 hc (Or.inl (by decide)), fun u hu => ⟨g2 u hu.1, hu.2⟩, g3⟩
  have j120 : w_instruction_J120 Q E S o op → w_instruction_J120 (fun u => Q u ∧ nwP S u) E S o op := fun g => by
    unfold w_instruction_J120 at g ⊢
    exact ⟨fun c => ⟨(g.1 c).1, j149 _ (g.1 c).2⟩, fun c => ⟨(g.2 c).1, j149 _ (g.2 c).2⟩⟩
  have j209 : ∀ t : Int32, (t.toInt = 21 ∨ t.toInt = 22) → w_instruction_J209 Q E S t o op → w_instruction_J209 (fun u => Q u ∧ nwP S u) E S t o op := fun t ht g => by
    unfold w_instruction_J209 at g ⊢
    obtain ⟨Q1, E1, g1, g2, g3⟩ := g
    exact ⟨_, _, nw_localRow g1 hc (by omega) (by omega) (by omega) (by omega), fun u hu => ⟨g2 u hu.1, hu.2⟩, g3⟩
  unfold w_instruction_J30 at h ⊢
  refine ⟨fun c1 => j42 (Or.inl c1) (h.1 c1), fun c1 => ⟨fun c2 => j42 (Or.inr c2) ((h.2 c1).1 c2), fun c2 => ⟨fun c3 => ?_, fun c3 => ⟨fun c4 => ?_, fun c4 => ⟨fun c5 => j120 (((((h.2 c1).2 c2).2 c3).2 c4).1 c5), fun c5 => ⟨fun c6 => j120 ((((((h.2 c1).2 c2).2 c3).2 c4).2 c5).1 c6), fun c6 => ⟨fun c7 => ?_, fun c7 => ⟨fun c8 => nw_221 hc ((((((((h.2 c1).2 c2).2 c3).2 c4).2 c5).2 c6).2 c7).1 c8) c5 c7 hw, fun c8 => ⟨fun c9 => nw_221 hc (((((((((h.2 c1).2 c2).2 c3).2 c4).2 c5).2 c6).2 c7).2 c8).1 c9) c5 c7 hw, fun c9 => ⟨fun c10 => j209 _ (by decide) ((((((((((h.2 c1).2 c2).2 c3).2 c4).2 c5).2 c6).2 c7).2 c8).2 c9).1 c10), fun c10 => j209 _ (by decide) ((((((((((h.2 c1).2 c2).2 c3).2 c4).2 c5).2 c6).2 c7).2 c8).2 c9).2 c10)⟩⟩⟩⟩⟩⟩⟩⟩⟩⟩
  · obtain ⟨d1, d2, g⟩ := ((h.2 c1).2 c2).1 c3
    have rg := by_rg (hb (((qI S 0 36 + o) + (1 : Int32)).toInt.toNat))
    exact ⟨d1, d2, nw_row g rfl hc ⟨fun _ => Or.inl ⟨by omega, by omega⟩, fun z => absurd z (by decide)⟩ (fun z => absurd z (by decide))⟩
  · obtain ⟨d1, g⟩ := (((h.2 c1).2 c2).2 c3).1 c4
    exact ⟨d1, nw_row g rfl hc ⟨fun _ => Or.inl c2_rg, fun z => absurd z (by decide)⟩ (fun z => absurd z (by decide))⟩
  · obtain ⟨d1, Q1, E1, g1, g2, g3⟩ := ((((((h.2 c1).2 c2).2 c3).2 c4).2 c5).2 c6).1 c7
    exact ⟨d1, _, _, nw_pushed g1 hc (Or.inr (by decide)), fun u hu => ⟨g2 u hu.1, hu.2⟩, g3⟩
theorem nw_instruction (hc : 0 ≤ (qI S 0 41).toInt ∧ (qI S 0 41).toInt < 28800) (h : w_instruction S o Q E) (hb : byt S (qO S 0 11)) (hw : (f_codeOctet S o).toInt = 196 → (f_codeOctet S (o + 1)).toInt ≠ 18 ∧ (f_codeOctet S (o + 1)).toInt ≠ 20 ∧ (f_codeOctet S (o + 1)).toInt ≠ 170 ∧ (f_codeOctet S (o + 1)).toInt ≠ 171) : w_instruction S o (fun u => Q u ∧ nwP S u) E := by
  unfold w_instruction at h ⊢
  obtain ⟨d, g⟩ := h
  refine ⟨d, fun a ea => ⟨fun c1 => nw_30 hc ((g a ea).1 c1) hb (by rw [ea]; exact hw), fun c1 => ⟨fun c2 => nw_30 hc (((g a ea).2 c1).1 c2) hb (by rw [ea]; exact hw), fun c2 => ?_⟩⟩⟩
  have e : (a - (3 : Int32)).toInt = a.toInt - 3 := by rw [t_sub (by rw [li_3]; omega), li_3]
  exact nw_row (((g a ea).2 c1).2 c2) rfl hc ⟨fun _ => Or.inl ⟨by omega, by omega⟩, fun z => absurd z (by decide)⟩ (fun z => absurd z (by decide))
end NWI
/-! all rows that are taken up so far -/
def xrI (U : MS) (i : Nat) : Prop := kcV U (qI U 19 (3 * i)) (qI U 19 (3 * i + 1)) (qI U 19 (3 * i + 2)) ∧ (isT U i → 0 ≤ tbA U i ∧ 0 ≤ tbB U i ∧ tbA U i + 2 * tbB U i + 1 ≤ (qI U 0 43).toInt)
def XaI (U : MS) : Prop := (∀ i : Nat, (i : Int) < (qI U 0 41).toInt → xrI U i) ∧ ∀ i j : Nat, i < j → (j : Int) < (qI U 0 41).toInt → isT U i → isT U j → tbA U i + 2 * tbB U i + 1 ≤ tbA U j
theorem XaI.eq {U V : MS} (h : XaI U) (e19 : qI V 19 = qI U 19) (e4 : qI V 4 = qI U 4) (e8 : qJ V 8 = qJ U 8) (e14 : qI V 0 14 = qI U 0 14) (e41 : qI V 0 41 = qI U 0 41) (e43 : qI V 0 43 = qI U 0 43) : XaI V := by
  unfold XaI xrI isT tbA tbB kcV at h ⊢
  rw [e19, e4, e8, e14, e41, e43]
  exact h
theorem XaI.st {U V : MS} {n : Int} (h : XaI U) (hc : 0 ≤ (qI U 0 41).toInt) (r : IRp U n V) (w : nwP U V) (f : frm [19, 20] [7, 8, 41, 43] U V) : XaI V := by
  obtain ⟨r1, r2, r3, r4, r5, r6⟩ := r
  have e4 : qI V 4 = qI U 4 := (f.2.2.2.2.1 4 (by decide) (by decide)).1
  have e8 : qJ V 8 = qJ U 8 := (f.2.2.2.2.1 8 (by decide) (by decide)).2.1
  have e14 : qI V 0 14 = qI U 0 14 := (f.2.2.2.2.2 14 (by decide)).1
  have old : ∀ i : Nat, (i : Int) < (qI U 0 41).toInt → qI V 19 (3 * i) = qI U 19 (3 * i) ∧ qI V 19 (3 * i + 1) = qI U 19 (3 * i + 1) ∧ qI V 19 (3 * i + 2) = qI U 19 (3 * i + 2) := fun i hi => ⟨r2 _ (by omega), r2 _ (by omega), r2 _ (by omega)⟩
  have nw : ∀ i : Nat, (i : Int) < (qI V 0 41).toInt → ¬ (i : Int) < (qI U 0 41).toInt → i = (qI U 0 41).toInt.toNat := fun i h1 h2 => by omega
  have sw := r5.2.2.1
  have t0 : ∀ i : Nat, (i : Int) < (qI U 0 41).toInt → isT V i → isT U i ∧ tbA V i = tbA U i ∧ tbB V i = tbB U i := fun i hi t => by
    obtain ⟨o1, o2, o3⟩ := old i hi
    unfold isT at t
    rw [o1] at t
    exact ⟨t, by unfold tbA; rw [o2], by unfold tbB; rw [o3]⟩
  refine ⟨fun i hi => ?_, fun i j ij hj ti tj => ?_⟩
  · by_cases q : (i : Int) < (qI U 0 41).toInt
    · obtain ⟨o1, o2, o3⟩ := old i q
      obtain ⟨x1, x2⟩ := h.1 i q
      refine ⟨by rw [o1, o2, o3]; exact x1.mv e4 e8 e14, fun t => ?_⟩
      obtain ⟨y1, y2, y3⟩ := t0 i q t
      have := x2 y1
      rw [y2, y3]
      omega
    · have e := nw i hi q
      subst e
      refine ⟨w.1.mv e4 e8 e14, fun t => ?_⟩
      have y := sw t
      exact ⟨y.1, y.2.1, y.2.2.2.1⟩
  · by_cases q : (j : Int) < (qI U 0 41).toInt
    · obtain ⟨y1, y2, y3⟩ := t0 i (by omega) ti
      obtain ⟨z1, z2, z3⟩ := t0 j q tj
      rw [y2, y3, z2]
      exact h.2 i j ij q y1 z1
    · have e := nw j hj q
      subst e
      obtain ⟨y1, y2, y3⟩ := t0 i (by omega) ti
      have a := (h.1 i (by omega)).2 y1
      have b := w.2 tj
      rw [y2, y3]
      omega
