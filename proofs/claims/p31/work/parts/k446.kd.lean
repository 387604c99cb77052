/-! the draft is written, read and kept (behind sp_outFile, sp_rk, DfI) -/
theorem tx_W {S : MS} (h : TxI S) {i : Nat} (hi : i < NTX) (h1 : 1 ≤ sLr.getD i 0 ∧ sLr.getD i 0 ≤ 100) : txW S (10000000 + 2 * i) := by
  obtain ⟨a, b, _⟩ := h i hi
  have e : TXB + 2 * i + 1 = 10000000 + 2 * i + 1 := rfl
  rw [e] at a b
  exact ⟨by rw [a]; decide, Or.inr (by rw [show TXB = 10000000 from rfl]; omega), by rw [b]; exact h1⟩
theorem txW.hi {S : MS} {s : Nat} (h : txW S s) : 92 < s := by
  have := h.2.1
  unfold plT at this
  rw [show TXB = 10000000 from rfl] at this
  omega
/-- the names that a File's writing can need -/
def NLf (S : MS) (p : Nat) : List Nat := [10000000, erT 0, erT 1, erT 2, erT 3, qO S p 0, qO S p 1] ++ ((List.range (qI S p 3).toInt.toNat).map (fun i => qO S (p + 1) i) ++ ((List.range (qI S p 3).toInt.toNat).map (fun i => qO S (p + 2) i) ++ ((List.range (qI S p 4).toInt.toNat).map (fun i => qO S (p + 4) i) ++ (List.range (qI S p 4).toInt.toNat).map (fun i => qO S (p + 5) i))))
/-- a File's texts -/
def NfI (p : Nat) (S : MS) : Prop := ((p = 60 ∨ 92 < p) ∧ ∀ i : Nat, i < 13 → qR S p (5 + i) = some (p + 1 + i) ∧ qN S (p + 1 + i) = 24) ∧ ((0 ≤ (qI S p 3).toInt ∧ (qI S p 3).toInt ≤ 24) ∧ 0 ≤ (qI S p 4).toInt ∧ (qI S p 4).toInt ≤ 24) ∧ (∃ o ab : Nat, qR S p 0 = some o ∧ qR S p 1 = some ab ∧ txW S o ∧ txW S ab) ∧ (∀ i : Nat, (i : Int) < (qI S p 3).toInt → ∃ n t : Nat, qR S (p + 1) i = some n ∧ qR S (p + 2) i = some t ∧ txW S n ∧ txW S t) ∧ ∀ m : Nat, (m : Int) < (qI S p 4).toInt → ∃ n t : Nat, qR S (p + 4) m = some n ∧ qR S (p + 5) m = some t ∧ txW S n ∧ txW S t
/-- all constants that a File's writing can need are in AL -/
def AlI (AL : List (MS → Prop)) (p : Nat) (S : MS) : Prop := (moS AL ∧ AL.length ≤ 700) ∧ (∀ t, t ∈ NLf S p → kN t ∈ AL) ∧ (kC (qO S p 0) ∈ AL ∧ kC (qO S p 1) ∈ AL) ∧ (∀ e : Nat, e < 4 → kC (erT e) ∈ AL) ∧ (∀ i : Nat, (i : Int) < (qI S p 3).toInt → kP (qO S (p + 1) i) (qO S (p + 2) i) ∈ AL ∧ kM 9 (qO S p 0) (qO S (p + 1) i) (qO S (p + 2) i) ∈ AL) ∧ ∀ m : Nat, (m : Int) < (qI S p 4).toInt → kP (qO S (p + 4) m) (qO S (p + 5) m) ∈ AL ∧ kM 10 (qO S p 0) (qO S (p + 4) m) (qO S (p + 5) m) ∈ AL
theorem qO_s {S : MS} {h i s : Nat} (e : qR S h i = some s) : qO S h i = s := by unfold qO; rw [e]; rfl
theorem NfI.cf {p : Nat} {S : MS} {kp : Prop} {AL : List (MS → Prop)} (h : NfI p S) (tx : TxI S) (hA : kp → AlI AL p S) : CfI (NLf S p) kp AL p S := by
  obtain ⟨h1, h2, ⟨o, ab, r0, r1, wo, wab⟩, hf, hm⟩ := h
  have q0 := qO_s r0
  have q1 := qO_s r1
  have mem : ∀ t : Nat, t ∈ NLf S p ↔ (t = 10000000 ∨ t = erT 0 ∨ t = erT 1 ∨ t = erT 2 ∨ t = erT 3 ∨ t = qO S p 0 ∨ t = qO S p 1) ∨ (∃ i : Nat, i < (qI S p 3).toInt.toNat ∧ qO S (p + 1) i = t) ∨ (∃ i : Nat, i < (qI S p 3).toInt.toNat ∧ qO S (p + 2) i = t) ∨ (∃ i : Nat, i < (qI S p 4).toInt.toNat ∧ qO S (p + 4) i = t) ∨ ∃ i : Nat, i < (qI S p 4).toInt.toNat ∧ qO S (p + 5) i = t := fun t => by
    unfold NLf
    simp only [List.mem_append, List.mem_cons, List.mem_map, List.mem_range, List.not_mem_nil, or_false]
  have w0 : txW S 10000000 := tx_W tx (i := 0) (by decide) (by decide)
  have we : ∀ e : Nat, e < 4 → txW S (erT e) := fun e he => by
    have q : e = 0 ∨ e = 1 ∨ e = 2 ∨ e = 3 := by omega
    rcases q with q | q | q | q
    · subst q; exact tx_W tx (i := 1) (by decide) (by decide)
    · subst q; exact tx_W tx (i := 2) (by decide) (by decide)
    · subst q; exact tx_W tx (i := 3) (by decide) (by decide)
    · subst q; exact tx_W tx (i := 4) (by decide) (by decide)
  have wl : ∀ t, t ∈ NLf S p → txW S t := fun t ht => by
    rcases (mem t).mp ht with (q | q | q | q | q | q | q) | ⟨i, hi, q⟩ | ⟨i, hi, q⟩ | ⟨i, hi, q⟩ | ⟨i, hi, q⟩
    · rw [q]; exact w0
    · rw [q]; exact we 0 (by decide)
    · rw [q]; exact we 1 (by decide)
    · rw [q]; exact we 2 (by decide)
    · rw [q]; exact we 3 (by decide)
    · rw [q, q0]; exact wo
    · rw [q, q1]; exact wab
    · obtain ⟨n, t', a, b, c, d⟩ := hf i (by omega)
      rw [← q, qO_s a]; exact c
    · obtain ⟨n, t', a, b, c, d⟩ := hf i (by omega)
      rw [← q, qO_s b]; exact d
    · obtain ⟨n, t', a, b, c, d⟩ := hm i (by omega)
      rw [← q, qO_s a]; exact c
    · obtain ⟨n, t', a, b, c, d⟩ := hm i (by omega)
      rw [← q, qO_s b]; exact d
  have nm : ∀ t, t ∈ NLf S p → nmO (NLf S p) kp AL S t := fun t ht => ⟨ht, wl t ht, fun k => (hA k).2.1 t ht⟩
  have len : (NLf S p).length ≤ 103 := by
    unfold NLf
    simp only [List.length_append, List.length_map, List.length_range, List.length_cons, List.length_nil]
    omega
  refine ⟨⟨fun t ht => (wl t ht).hi, len, fun k => (hA k).1⟩, h1, h2, o, ab, ⟨r0, r1⟩, ⟨nm o ((mem o).mpr (Or.inl (by rw [q0]; simp only [true_or, or_true]))), fun k => by have := (hA k).2.2.1.1; rw [q0] at this; exact this⟩, ⟨nm ab ((mem ab).mpr (Or.inl (by rw [q1]; simp only [or_true]))), fun k => by have := (hA k).2.2.1.2; rw [q1] at this; exact this⟩, nm _ ((mem _).mpr (Or.inl (Or.inl rfl))), fun e he => ⟨nm _ ((mem _).mpr (Or.inl ?_)), fun k => (hA k).2.2.2.1 e he⟩, fun i hi => ?_, fun m hm' => ?_⟩
  · have q : e = 0 ∨ e = 1 ∨ e = 2 ∨ e = 3 := by omega
    rcases q with q | q | q | q
    · subst q; exact Or.inr (Or.inl rfl)
    · subst q; exact Or.inr (Or.inr (Or.inl rfl))
    · subst q; exact Or.inr (Or.inr (Or.inr (Or.inl rfl)))
    · subst q; exact Or.inr (Or.inr (Or.inr (Or.inr (Or.inl rfl))))
  · obtain ⟨n, t, a, b, c, d⟩ := hf i hi
    refine ⟨n, t, a, b, nm n ((mem n).mpr (Or.inr (Or.inl ⟨i, by omega, qO_s a⟩))), nm t ((mem t).mpr (Or.inr (Or.inr (Or.inl ⟨i, by omega, qO_s b⟩)))), fun k => ?_⟩
    have := (hA k).2.2.2.2.1 i hi
    rw [qO_s a, qO_s b, q0] at this
    exact this
  · obtain ⟨n, t, a, b, c, d⟩ := hm m hm'
    refine ⟨n, t, a, b, nm n ((mem n).mpr (Or.inr (Or.inr (Or.inr (Or.inl ⟨m, by omega, qO_s a⟩))))), nm t ((mem t).mpr (Or.inr (Or.inr (Or.inr (Or.inr ⟨m, by omega, qO_s b⟩))))), fun k => ?_⟩
    have := (hA k).2.2.2.2.2 m hm'
    rw [qO_s a, qO_s b, q0] at this
    exact this
theorem DhI.nf {U : MS} (h : DhI U) : NfI 60 U := by
  obtain ⟨h1, _, h3, ⟨s1, s2, a1, a2, a3, a4⟩, hf, hm⟩ := h
  refine ⟨⟨Or.inl rfl, h1⟩, h3, ⟨s1, s2, a1, a2, a3, a4⟩, fun i hi => ?_, fun m hm' => ?_⟩
  · obtain ⟨t1, t2, t3, b1, b2, b3, b4, b5, b6⟩ := hf i hi
    exact ⟨t1, t2, b1, b2, b4, b5⟩
  · obtain ⟨t1, t2, t3, t4, b1, b2, b3, b4, b5, b6, b7, b8⟩ := hm m hm'
    exact ⟨t1, t2, b1, b2, b5, b6⟩
/-- the draft's rows have a kind -/
def DtO (S : MS) : Prop := ∀ i : Nat, i < 13 → qT S (61 + i) ≠ 0 ∧ qT S (61 + i) ≠ 11
theorem DfI.ro {U : MS} (h : DfI U) (fx : FxI U) (dt : DtO U) : RoI 60 U := by
  obtain ⟨⟨h1, ⟨r1, r2, r3⟩, h3, _, hf, hm⟩, hb, mt⟩ := h
  have t60 := fx.2 (118, 60, 11, 0) (by decide)
  have t74 := fx.2 (119, 74, 2, 87000) (by decide)
  have t75 := fx.2 (120, 75, 2, 40000) (by decide)
  have t76 := fx.2 (121, 76, 2, 1536) (by decide)
  refine ⟨⟨⟨Or.inr rfl, t60.1⟩, ⟨Or.inr (by decide), dt 2 (by decide)⟩, ⟨Or.inr (by decide), dt 5 (by decide)⟩, ⟨Or.inr (by decide), dt 6 (by decide)⟩⟩, 74, 75, 76, 29000, 40000, 384, ⟨r1, r2, r3⟩, ⟨⟨Or.inr (by decide), by rw [t74.1]; decide⟩, ⟨Or.inr (by decide), by rw [t75.1]; decide⟩, ⟨Or.inr (by decide), by rw [t76.1]; decide⟩⟩, ⟨t74.2, t75.2, t76.2⟩, by decide, fun i hi => ?_, fun m hm' => ?_, fun m hm' => ?_⟩
  · obtain ⟨t1, t2, t3, b1, b2, b3, b4, b5, b6⟩ := hf i hi
    exact ⟨t3, b3, b6.2⟩
  · obtain ⟨t1, t2, t3, t4, b1, b2, b3, b4, b5, b6, b7, b8⟩ := hm m hm'
    exact ⟨⟨t3, b3, b7.2⟩, t4, b4, b8.2⟩
  · obtain ⟨L, l, d1, d2, d3, d4, d5, d6, d7, d8, d9⟩ := mt m hm'
    exact ⟨L, l, d1, d2, Int.le_trans d3 hb.1.2, d4, d5, d6, d7, Int.le_trans d8 hb.2.2, d9⟩
/-- what keptDraft leaves -/
def KdQ (S u : MS) : Prop := ∃ A : MS, frm WA JM S A ∧ ByO A ∧ (u = A ∨ (OuI A ∧ KdP VfI A u))
theorem FxI.fm {S u : MS} {W J : List Nat} (h : FxI S) (k : frm W J S u) : FxI u := ⟨by rw [k.1]; exact h.1, fun q hq => by rw [k.1, k.2.1]; exact h.2 q hq⟩
theorem sp_keptDraft {U : MS} (df : DfI U) (fs : FsI VfI U) (hk : knI U) (tx : TxI U) (fx : FxI U) (dt : DtO U) (ou : OuJ U) (t3 : qT U 34 = 1 ∧ qT U 35 = 1) (h12 : (qI U 0 1).toInt < 12) (hr : qn U + 814 ≤ KC ∧ qu U + 106335 ≤ KS) : w_keptDraft U (fun _ u => KdQ U u) := by
  have cf : CfI (NLf U 60) False [] 60 U := df.1.nf.cf tx (fun k => k.elim)
  unfold w_keptDraft
  refine ⟨_, _, sp_outFile cf (df.ro fx dt) (fun k => k.elim) tx ou, ?_, fun u q => ⟨u, q.2.2, q.2.1, Or.inl rfl⟩⟩
  rintro A ⟨fA, oA, wA, lay⟩
  have w5 := oA.wh
  have e7 : qO A 0 75 = wH A := rfl
  have hn : wH A < 60 ∧ 21 < wH A ∧ qT U (wH A) = 1 := by
    rcases w5 with q | q
    · rw [q]; exact ⟨by decide, by decide, t3.1⟩
    · rw [q]; exact ⟨by decide, by decide, t3.2⟩
  have nA : qN A (wH A) = 131072 := by
    rcases w5 with q | q
    · rw [q]; exact oA.2.1.1
    · rw [q]; exact oA.2.1.2
  have bA : byt A (wH A) := by
    rcases w5 with q | q
    · rw [q]; exact oA.2.2.1.1
    · rw [q]; exact oA.2.2.1.2
  have kn := hk.1
  have kA : knI A := hk.f9 fA
  have fsA : FsI VfI A := fs.f9 hk fA (by decide) (by decide)
  have RI : RfI A (wH A) (qI A 0 77) := ⟨fx.fm fA, tx.kp (kpW.f9 fA (by decide)), kA, ⟨by rw [fA.1]; exact hn.2.2, by rw [fA.2.2.1]; omega, by rw [nA]; decide⟩, ⟨oA.2.2.2.1, by rw [nA]; exact oA.2.2.2.2⟩, by rw [fA.2.2.1, fA.2.2.2.1]; exact hr⟩
  have hB := fr_bs RI
  refine ⟨oA.1.2.1, ?_⟩
  rw [e7]
  have g0 : gB (wI (wR A 0 11 (some (wH A))) 0 12 (qI A 0 77)) = qI A (wH A) := by
    have e : qO (wI (wR A 0 11 (some (wH A))) 0 12 (qI A 0 77)) 0 11 = wH A := qO_s (by show qR (wR A 0 11 (some (wH A))) 0 11 = _; rw [qR_wR, if_pos ⟨rfl, rfl⟩])
    unfold gB
    rw [e, rdH (by omega)]
    rfl
  obtain ⟨Q6, E6, r1, r2, r3⟩ := sp_rk VfI.st fsA (by rw [(fA.2.2.2.2.2 1 (by decide)).1]; exact h12) RI bA (Or.inr hn.2.1) ⟨_, sp_layoutD (n := oS A) hB (by show qN A 4 = 502; rw [fA.2.1]; exact (fx.2 (15, 4, 2, 502) (by decide)).2) (by rw [g0]; exact lay), fun u hu => hu⟩
  refine ⟨Q6, E6, r1, fun f V hV => ?_, fun u hu => ⟨A, fA, oA.2.2.1, Or.inr ⟨oA, r3 u hu⟩⟩⟩
  obtain ⟨Q12, k1, k2⟩ := r2 f V hV
  exact ⟨Q12, k1, fun r W hW => ⟨A, fA, oA.2.2.1, Or.inr ⟨oA, k2 r W hW⟩⟩⟩
/-! a kept File is written (behind sp_outFile, NfI, XfI) -/
theorem FlI.nf {S : MS} {f : Nat} (h : FlI S f) : NfI f S := by
  obtain ⟨h1, h2, ⟨o1, o2, ob1, ob2, ow1, ow2, on1, on2⟩, h4, h5, R, T, C, nc, ts, cn, r1, r2, r3, r4, r5, r6⟩ := h
  have p92 := h1.1.1
  refine ⟨⟨Or.inr p92, fun i hi => ⟨(h1.2.2 i hi).1, (h1.2.2 i hi).2.1⟩⟩, h4, ⟨o1, o2, ow1, ow2, on1.tw (by omega) (by omega), on2.tw (by omega) (by omega)⟩, fun i hi => ?_, fun m hm => ?_⟩
  · obtain ⟨s1, s2, s3, b1, b2, b3, y1, y2, y3, n1, n2, q, hq, n3⟩ := h5 i hi
    exact ⟨s1, s2, y1, y2, n1.tw (by omega) (by omega), n2.tw (by omega) (by omega)⟩
  · obtain ⟨⟨pl, ⟨s1, s2, s3, s4, b1, b2, b3, b4, y1, y2, y3, y4, n1, n2, ⟨np, n3⟩, q, hq, n4⟩, _⟩, _⟩ := r6 m hm
    exact ⟨s1, s2, y1, y2, n1.tw (by omega) (by omega), n2.tw (by omega) (by omega)⟩
theorem FlI.ro {S : MS} {f : Nat} (h : FlI S f) : RoI f S := by
  obtain ⟨h1, h2, _, h4, h5, R, T, C, nc, ts, cn, r1, r2, r3, r4, r5, r6⟩ := h
  have p92 := h1.1.1
  have t3 := (h1.2.2 2 (by decide)).2.2
  have t6 := (h1.2.2 5 (by decide)).2.2
  have t7 := (h1.2.2 6 (by decide)).2.2
  rw [if_pos (by decide)] at t3 t6 t7
  refine ⟨⟨⟨Or.inl p92, h1.2.1.1⟩, ⟨Or.inl (by omega), ?_⟩, ⟨Or.inl (by omega), ?_⟩, ⟨Or.inl (by omega), ?_⟩⟩, R, T, C, nc, ts, cn, r2, ⟨⟨Or.inl (by omega), by rw [r3.1]; decide⟩, ⟨Or.inl (by omega), by rw [r3.2.1]; decide⟩, ⟨Or.inl (by omega), by rw [r3.2.2]; decide⟩⟩, r4, ⟨by omega, by omega, r5.2.2⟩, fun i hi => ?_, fun m hm => ?_, fun m hm => ?_⟩
  · rw [show f + 3 = f + 1 + 2 by omega, t3]; decide
  · rw [show f + 6 = f + 1 + 5 by omega, t6]; decide
  · rw [show f + 7 = f + 1 + 6 by omega, t7]; decide
  · obtain ⟨s1, s2, s3, b1, b2, b3, y1, y2, y3, n1, n2, q, hq, n3⟩ := h5 i hi
    exact ⟨s3, y3, (n3.l.tw (by omega) (by omega) hq).2⟩
  · obtain ⟨⟨pl, ⟨s1, s2, s3, s4, b1, b2, b3, b4, y1, y2, y3, y4, n1, n2, ⟨np, n3⟩, q, hq, n4⟩, _⟩, _⟩ := r6 m hm
    exact ⟨⟨s3, y3, (n3.tw (by omega) (by omega) np).2⟩, s4, y4, (n4.tw (by omega) (by omega) hq).2⟩
  · obtain ⟨_, _, l, md⟩ := r6 m hm
    exact ⟨_, l, md.d⟩
/-- the constants of the pool, as slots -/
def AcL (tg : Nat → Int32) (wv : Nat → Int64) : Nat → List (MS → Prop)
  | 0 => []
  | n + 1 => (if 1 ≤ n ∧ ((tg n).toInt = 3 ∨ (tg n).toInt = 5) then [if (tg n).toInt = 3 then kV 3 ((wv n).toInt32).toInt64 else kV 5 (loV ((wv n) >>> ((32 : Int32).toInt64 &&& 63)).toInt32 (wv n).toInt32)] else []) ++ AcL tg wv n
theorem AcL.len {tg : Nat → Int32} {wv : Nat → Int64} : ∀ n : Nat, (AcL tg wv n).length = ccN tg n := by
  intro n
  induction n with
  | zero => rfl
  | succ n ih =>
    unfold AcL ccN
    rw [List.length_append, ih]
    split
    · show 1 + _ = _; omega
    · show 0 + _ = _; omega
theorem AcL.mem {tg : Nat → Int32} {wv : Nat → Int64} {k : Nat} (h1 : 1 ≤ k) (ht : (tg k).toInt = 3 ∨ (tg k).toInt = 5) : ∀ n : Nat, k < n → (if (tg k).toInt = 3 then kV 3 ((wv k).toInt32).toInt64 else kV 5 (loV ((wv k) >>> ((32 : Int32).toInt64 &&& 63)).toInt32 (wv k).toInt32)) ∈ AcL tg wv n := by
  intro n
  induction n with
  | zero => intro h; exact absurd h (Nat.not_lt_zero _)
  | succ n ih =>
    intro h
    unfold AcL
    by_cases q : k = n
    · rw [← q, if_pos ⟨h1, ht⟩]
      exact List.mem_append_left _ List.mem_cons_self
    · exact List.mem_append_right _ (ih (by omega))
theorem AcL.mo {tg : Nat → Int32} {wv : Nat → Int64} : ∀ n : Nat, moS (AcL tg wv n) := by
  intro n
  induction n with
  | zero => intro s q; exact absurd q List.not_mem_nil
  | succ n ih =>
    intro s q
    unfold AcL at q
    rcases List.mem_append.mp q with q | q
    · split at q
      · have e := List.mem_singleton.mp q
        rw [e]
        split
        · exact fun S u hB x z => kV.mo hB x z
        · exact fun S u hB x z => kV.mo hB x z
      · exact absurd q List.not_mem_nil
    · exact ih s q
/-- all that a File's writing can need -/
def ALf (S : MS) (p : Nat) (tg : Nat → Int32) (wv : Nat → Int64) (pc : Nat) : List (MS → Prop) := (NLf S p).map kN ++ ([kC (qO S p 0), kC (qO S p 1), kC (erT 0), kC (erT 1), kC (erT 2), kC (erT 3)] ++ ((List.range (qI S p 3).toInt.toNat).map (fun i => kP (qO S (p + 1) i) (qO S (p + 2) i)) ++ ((List.range (qI S p 3).toInt.toNat).map (fun i => kM 9 (qO S p 0) (qO S (p + 1) i) (qO S (p + 2) i)) ++ ((List.range (qI S p 4).toInt.toNat).map (fun i => kP (qO S (p + 4) i) (qO S (p + 5) i)) ++ ((List.range (qI S p 4).toInt.toNat).map (fun i => kM 10 (qO S p 0) (qO S (p + 4) i) (qO S (p + 5) i)) ++ AcL tg wv pc)))))
theorem ALf.al {S : MS} {p : Nat} {tg : Nat → Int32} {wv : Nat → Int64} {pc : Nat} (h : NfI p S) (tx : TxI S) (hc : 13 + 4 * (qI S p 3).toInt + 4 * (qI S p 4).toInt + ccN tg pc ≤ 700) : AlI (ALf S p tg wv pc) p S ∧ ∀ s, s ∈ AcL tg wv pc → s ∈ ALf S p tg wv pc := by
  have cf : CfI (NLf S p) False [] p S := h.cf tx (fun k => k.elim)
  have nl := cf.1.1
  obtain ⟨h1, h2, ⟨o, ab, r0, r1, wo, wab⟩, hf, hm⟩ := h
  have q0 := qO_s r0
  have q1 := qO_s r1
  have b0 : 92 < qO S p 0 := by rw [q0]; exact wo.hi
  have b1 : 92 < qO S p 1 := by rw [q1]; exact wab.hi
  have bf : ∀ i : Nat, i < (qI S p 3).toInt.toNat → 92 < qO S (p + 1) i ∧ 92 < qO S (p + 2) i := fun i hi => by
    obtain ⟨n, t, a, b, c, d⟩ := hf i (by omega)
    rw [qO_s a, qO_s b]; exact ⟨c.hi, d.hi⟩
  have bm : ∀ i : Nat, i < (qI S p 4).toInt.toNat → 92 < qO S (p + 4) i ∧ 92 < qO S (p + 5) i := fun i hi => by
    obtain ⟨n, t, a, b, c, d⟩ := hm i (by omega)
    rw [qO_s a, qO_s b]; exact ⟨c.hi, d.hi⟩
  have mem : ∀ s : MS → Prop, s ∈ ALf S p tg wv pc ↔ (∃ t, t ∈ NLf S p ∧ kN t = s) ∨ (s = kC (qO S p 0) ∨ s = kC (qO S p 1) ∨ s = kC (erT 0) ∨ s = kC (erT 1) ∨ s = kC (erT 2) ∨ s = kC (erT 3)) ∨ (∃ i : Nat, i < (qI S p 3).toInt.toNat ∧ kP (qO S (p + 1) i) (qO S (p + 2) i) = s) ∨ (∃ i : Nat, i < (qI S p 3).toInt.toNat ∧ kM 9 (qO S p 0) (qO S (p + 1) i) (qO S (p + 2) i) = s) ∨ (∃ i : Nat, i < (qI S p 4).toInt.toNat ∧ kP (qO S (p + 4) i) (qO S (p + 5) i) = s) ∨ (∃ i : Nat, i < (qI S p 4).toInt.toNat ∧ kM 10 (qO S p 0) (qO S (p + 4) i) (qO S (p + 5) i) = s) ∨ s ∈ AcL tg wv pc := fun s => by
    unfold ALf
    simp only [List.mem_append, List.mem_cons, List.mem_map, List.mem_range, List.not_mem_nil, or_false]
  have be : ∀ e : Nat, 92 < erT e := fun e => by unfold erT; omega
  have ac : ∀ s, s ∈ AcL tg wv pc → s ∈ ALf S p tg wv pc := fun s q => (mem s).mpr (Or.inr (Or.inr (Or.inr (Or.inr (Or.inr (Or.inr q))))))
  refine ⟨⟨⟨fun s hs => ?_, ?_⟩, fun t ht => (mem _).mpr (Or.inl ⟨t, ht, rfl⟩), ⟨(mem _).mpr (Or.inr (Or.inl (Or.inl rfl))), (mem _).mpr (Or.inr (Or.inl (Or.inr (Or.inl rfl))))⟩, fun e he => (mem _).mpr (Or.inr (Or.inl ?_)), fun i hi => ⟨(mem _).mpr (Or.inr (Or.inr (Or.inl ⟨i, by omega, rfl⟩))), (mem _).mpr (Or.inr (Or.inr (Or.inr (Or.inl ⟨i, by omega, rfl⟩))))⟩, fun i hi => ⟨(mem _).mpr (Or.inr (Or.inr (Or.inr (Or.inr (Or.inl ⟨i, by omega, rfl⟩))))), (mem _).mpr (Or.inr (Or.inr (Or.inr (Or.inr (Or.inr (Or.inl ⟨i, by omega, rfl⟩))))))⟩⟩, ac⟩
  · rcases (mem s).mp hs with ⟨t, ht, q⟩ | (q | q | q | q | q | q) | ⟨i, hi, q⟩ | ⟨i, hi, q⟩ | ⟨i, hi, q⟩ | ⟨i, hi, q⟩ | q
    · rw [← q]; exact fun S u hB x z => kN.mo (nl t ht) hB x z
    · rw [q]; exact fun S u hB x z => kC.mo b0 hB x z
    · rw [q]; exact fun S u hB x z => kC.mo b1 hB x z
    · rw [q]; exact fun S u hB x z => kC.mo (be 0) hB x z
    · rw [q]; exact fun S u hB x z => kC.mo (be 1) hB x z
    · rw [q]; exact fun S u hB x z => kC.mo (be 2) hB x z
    · rw [q]; exact fun S u hB x z => kC.mo (be 3) hB x z
    · rw [← q]; exact fun S u hB x z => kP.mo (bf i hi).1 (bf i hi).2 hB x z
    · rw [← q]; exact fun S u hB x z => kM.mo b0 (bf i hi).1 (bf i hi).2 hB x z
    · rw [← q]; exact fun S u hB x z => kP.mo (bm i hi).1 (bm i hi).2 hB x z
    · rw [← q]; exact fun S u hB x z => kM.mo b0 (bm i hi).1 (bm i hi).2 hB x z
    · exact AcL.mo pc s q
  · unfold ALf NLf
    simp only [List.length_append, List.length_map, List.length_range, List.length_cons, List.length_nil, AcL.len]
    omega
  · have q : e = 0 ∨ e = 1 ∨ e = 2 ∨ e = 3 := by omega
    rcases q with q | q | q | q
    · subst q; exact Or.inr (Or.inr (Or.inl rfl))
    · subst q; exact Or.inr (Or.inr (Or.inr (Or.inl rfl)))
    · subst q; exact Or.inr (Or.inr (Or.inr (Or.inr (Or.inl rfl))))
    · subst q; exact Or.inr (Or.inr (Or.inr (Or.inr (Or.inr rfl))))
theorem XfI.ck {S : MS} {f : Nat} (hx : XfI S f) (hf : FlI S f) (tx : TxI S) : ∃ AL : List (MS → Prop), AlI AL f S ∧ CkF True AL f S := by
  obtain ⟨R, nc, eR, nR, tg, wv, pc, kc, _, _, cc⟩ := hx
  obtain ⟨al, ac⟩ := ALf.al (wv := wv) hf.nf tx cc
  refine ⟨_, al, fun _ m i hm hi => ?_⟩
  obtain ⟨_, _, _, _, _, R', T, C, nc', ts, cn, r1, r2, r3, r4, r5, r6⟩ := hf
  have e' : R' = R := by have := r2.1; rw [eR] at this; injection this.symm
  subst e'
  rw [qO_s eR]
  have mt := (r6 m hm).2.2.2
  have n1 := mt.1
  have n2 := mt.2.2.1
  have k := kc ((qI S (f + 10) m).toInt.toNat + i) (by omega)
  refine ⟨fun e => ?_, fun e => ?_⟩
  · rcases k.1 e with q | ⟨k', k1, k2, k3⟩
    · exact Or.inl q
    · have z := ac _ (AcL.mem (tg := tg) (wv := wv) k1.1 (Or.inl k2) pc (by omega))
      rw [if_pos k2] at z
      rw [k3]
      exact Or.inr z
  · rcases k.2 e with ⟨q, q' | q'⟩ | ⟨k', k1, k2, k3, k4⟩
    · rw [q, q']; exact Or.inl (by decide)
    · rw [q, q']; exact Or.inr (Or.inl (by decide))
    · have z := ac _ (AcL.mem (tg := tg) (wv := wv) k1.1 (Or.inr k2) pc (by omega))
      rw [if_neg (by omega)] at z
      rw [k3, k4]
      exact Or.inr (Or.inr z)
/-- what write leaves -/
def WtQ (S u : MS) : Prop := u = S ∨ ∃ A : MS, frm WA JM S A ∧ OuI A ∧ LayB (qI A (wH A)) (oS A) ∧ u = wI (wR (wR A 0 76 (some (qO A 0 75))) 0 75 (some (qO A 0 76))) 0 78 (qI A 0 77)
theorem sp_write {S : MS} {x : Int32} (fs : FsI VfI S) (xs : XsI S) (tx : TxI S) (ou : OuJ S) : w_write S x (fun _ u => WtQ S u) (fun _ => False) := by
  unfold w_write
  refine ⟨_, sp_isRight fs, ?_⟩
  rintro r0 S' ⟨rfl, hr0⟩
  refine ⟨fun _ => Or.inl rfl, fun c0 => ?_⟩
  obtain ⟨f, hx, hf, fl, vf⟩ := hr0 c0
  have b12 := fs.1
  have qf := qO_s hf
  obtain ⟨AL, al, ck⟩ := (xs x.toInt.toNat f (by omega) hf).ck fl tx
  have cf : CfI (NLf S' f) True AL f S' := fl.nf.cf tx (fun _ => al)
  rw [qf]
  refine ⟨⟨hx.1, by omega⟩, hf, _, _, sp_outFile cf fl.ro ck tx ou, ?_, fun u q => q.1 trivial⟩
  rintro A ⟨fA, oA, wA, lay⟩
  refine ⟨oA.1.2.2, oA.1.2.1, fun B eB C eC D eD => Or.inr ⟨A, fA, oA, lay, ?_⟩⟩
  rw [eD, eC, eB]
  rfl
theorem WtQ.ou {S u : MS} (h : WtQ S u) (ou : OuJ S) : OuJ u := by
  rcases h with e | ⟨A, _, oA, _, e⟩
  · rw [e]; exact ou
  · have r5 : qR u 0 75 = some (qO A 0 76) := by rw [e]; show qR (wR (wR A 0 76 (some (qO A 0 75))) 0 75 (some (qO A 0 76))) 0 75 = _; rw [qR_wR, if_pos ⟨rfl, rfl⟩]
    have r6 : qR u 0 76 = some (qO A 0 75) := by rw [e]; show qR (wR (wR A 0 76 (some (qO A 0 75))) 0 75 (some (qO A 0 76))) 0 76 = _; rw [qR_wR, if_neg (by decide), qR_wR, if_pos ⟨rfl, rfl⟩]
    have hi : ∀ a : Nat, a ≠ 0 → qI u a = qI A a := fun a ha => by rw [e, rdH ha]; rfl
    have nn : qN u = qN A := by rw [e]; rfl
    refine ⟨⟨?_, by rw [qO_s r5]; exact r5, by rw [qO_s r6]; exact r6⟩, by rw [nn]; exact oA.2.1, fun i => by rw [hi 34 (by decide)]; exact oA.2.2.1.1 i, fun i => by rw [hi 35 (by decide)]; exact oA.2.2.1.2 i⟩
    rw [qO_s r5, qO_s r6]
    have := oA.1.1
    omega
/-! what stands between two calls (behind OuJ, McB, GrJ, XsI) -/
def GfI (S : MS) : Prop := FsI VfI S ∧ XsI S ∧ knI S
def GxI (S : MS) : Prop := FxI S ∧ TxI S ∧ DrO S ∧ DtO S ∧ qT S 34 = 1 ∧ qT S 35 = 1 ∧ RgG S
def GoI (S : MS) : Prop := OuJ S ∧ (0 ≤ (qI S 0 78).toInt ∧ (qI S 0 78).toInt ≤ 131072) ∧ byt S 2
def GcI (S : MS) : Prop := (0 ≤ (qI S 0 4).toInt ∧ (qI S 0 4).toInt ≤ 16000) ∧ (0 ≤ (qI S 0 5).toInt ∧ (qI S 0 5).toInt ≤ 65536) ∧ (0 ≤ (qI S 0 2).toInt ∧ (qI S 0 2).toInt ≤ 16) ∧ 0 ≤ (qI S 0 88).toInt ∧ (qI S 0 88).toInt ≤ 8
def GmI (S : MS) : Prop := (qR S 0 80 = none ∨ ∃ f : Nat, McB S f ∧ FvI S f) ∧ ArI S ∧ qI S 0 96 = 0
/-- how many Files are checked -/
def vN (S : MS) : Nat → Nat
  | 0 => 0
  | n + 1 => vN S n + (if (qI S (qO S 1 n) 21).toInt = 1 then 1 else 0)
theorem vN_le {S : MS} : ∀ n : Nat, vN S n ≤ n := by
  intro n
  induction n with
  | zero => exact Nat.le_refl _
  | succ n ih => unfold vN; split <;> omega
theorem vN_mo {S u : MS} : ∀ n : Nat, (∀ i : Nat, i < n → (qI S (qO S 1 i) 21).toInt = 1 → (qI u (qO u 1 i) 21).toInt = 1) → vN S n ≤ vN u n := by
  intro n
  induction n with
  | zero => intro _; exact Nat.le_refl _
  | succ n ih =>
    intro h
    have a := ih (fun i hi => h i (by omega))
    have b := h n (by omega)
    unfold vN
    by_cases q : (qI S (qO S 1 n) 21).toInt = 1
    · rw [if_pos q, if_pos (b q)]; omega
    · rw [if_neg q]; omega
theorem vN_st {S u : MS} : ∀ n : Nat, (∀ i : Nat, i < n → (qI S (qO S 1 i) 21).toInt = 1 → (qI u (qO u 1 i) 21).toInt = 1) → (∃ i : Nat, i < n ∧ ¬ (qI S (qO S 1 i) 21).toInt = 1 ∧ (qI u (qO u 1 i) 21).toInt = 1) → vN S n + 1 ≤ vN u n := by
  intro n
  induction n with
  | zero => rintro _ ⟨i, hi, _⟩; omega
  | succ n ih =>
    rintro h ⟨i, hi, n0, n1⟩
    have mo := vN_mo (S := S) (u := u) n (fun i hi => h i (by omega))
    have b := h n (by omega)
    by_cases q : i = n
    · subst q
      unfold vN
      rw [if_neg n0, if_pos n1]; omega
    · have a := ih (fun i hi => h i (by omega)) ⟨i, by omega, n0, n1⟩
      unfold vN
      by_cases q : (qI S (qO S 1 n) 21).toInt = 1
      · rw [if_pos q, if_pos (b q)]; omega
      · rw [if_neg q]; omega
theorem vN_lt {S : MS} : ∀ n i : Nat, i < n → ¬ (qI S (qO S 1 i) 21).toInt = 1 → vN S n < n := by
  intro n
  induction n with
  | zero => intro i hi; omega
  | succ n ih =>
    intro i hi hn
    have := vN_le (S := S) n
    unfold vN
    by_cases q : i = n
    · subst q; rw [if_neg hn]; omega
    · have := ih i (by omega) hn
      split <;> omega
/-- the room that is used, after c calls -/
def RmI (c : Nat) (S : MS) : Prop := (qn S : Int) ≤ 93 + 780 * (qI S 0 1).toInt + vN S (qI S 0 1).toInt.toNat + 110 * (qI S 0 2).toInt + 14 * c ∧ (qu S : Int) ≤ 860000 + 106400 * (qI S 0 1).toInt + 115200 * vN S (qI S 0 1).toInt.toNat + 1103 * (qI S 0 2).toInt + 335 * c
def GI (c : Nat) (S : MS) : Prop := GfI S ∧ GxI S ∧ GoI S ∧ GcI S ∧ GmI S ∧ GrJ S ∧ RmI c S
theorem RmI.up {c : Nat} {S : MS} (h : RmI c S) : RmI (c + 1) S := ⟨by have := h.1; omega, by have := h.2; omega⟩
theorem GI.up {c : Nat} {S : MS} (h : GI c S) : GI (c + 1) S := ⟨h.1, h.2.1, h.2.2.1, h.2.2.2.1, h.2.2.2.2.1, h.2.2.2.2.2.1, h.2.2.2.2.2.2.up⟩
/-- a call keeps what stands, and how many arguments there are -/
def GS (c : Nat) (S u : MS) : Prop := GI (c + 1) u ∧ qI u 0 88 = qI S 0 88
theorem GI.gs {c : Nat} {S : MS} (h : GI c S) : GS c S S := ⟨h.up, rfl⟩
theorem GI.st {c : Nat} {S : MS} (h : GI c S) : f_strays S = 0 := h.2.2.2.2.1.2.2
theorem fin92 : ∀ q ∈ finL, q.2.1 ≤ 92 := by decide
theorem GxI.mv {S u : MS} (h : GxI S) (kx : ∀ a : Nat, TXB ≤ a → sm5 S u a) (kt : ∀ a : Nat, a ≤ 92 → qT u a = qT S a ∧ qN u a = qN S a) (kr : ∀ i : Nat, i < 13 → qR u 60 (5 + i) = qR S 60 (5 + i)) (kg : RgG u) : GxI u := by
  obtain ⟨h1, h2, h3, h4, h5, h6⟩ := h
  refine ⟨⟨by rw [(kt 0 (by decide)).1]; exact h1.1, fun q hq => by rw [(kt _ (fin92 q hq)).1, (kt _ (fin92 q hq)).2]; exact h1.2 q hq⟩, fun i hi => ?_, fun i hi => ⟨by rw [kr i hi]; exact (h3 i hi).1, by rw [(kt _ (by omega)).2]; exact (h3 i hi).2⟩, fun i hi => by rw [(kt _ (by omega)).1]; exact h4 i hi, by rw [(kt 34 (by decide)).1]; exact h5, by rw [(kt 35 (by decide)).1]; exact h6.1, kg⟩
  have z := kx (TXB + 2 * i + 1) (by omega)
  rw [z.2.2.2.1, z.2.2.2.2, z.1]
  exact h2 i hi
theorem GxI.fm {S u : MS} {W J : List Nat} (h : GxI S) (k : frm W J S u) (hW : ∀ w ∈ W, w ≤ 92 ∧ w ≠ 60 ∧ w ≠ 23 ∧ w ≠ 25 ∧ w ≠ 26) : GxI u := h.mv (fun a ha => big_frm k (fun w q => (hW w q).1) a (by rw [show TXB = 10000000 from rfl] at ha; omega)) (fun a _ => by rw [k.1, k.2.1]; exact ⟨rfl, rfl⟩) (fun i _ => by rw [(k.2.2.2.2.1 60 (by decide) (fun q => (hW 60 q).2.1 rfl)).2.2]) (h.2.2.2.2.2.2.fm k (fun q => (hW 23 q).2.2.1 rfl) (fun q => (hW 25 q).2.2.2.1 rfl) (fun q => (hW 26 q).2.2.2.2 rfl))
theorem GfI.fm {S u : MS} {W J : List Nat} (h : GfI S) (k : frm W J S u) (hW : ∀ w ∈ W, w ≠ 1 ∧ w ≤ 92) (hJ : 1 ∉ J) : GfI u := by
  have kb := big_frm k (fun w q => (hW w q).2)
  exact ⟨h.1.f9 h.2.2 k hW hJ, h.2.1.mv h.1 (fun a a0 _ => (kb a a0).s6) (k.2.2.2.2.2 1 hJ).1 (k.2.2.2.2.1 1 (by decide) (fun q => (hW 1 q).1 rfl)).2.2, h.2.2.f9 k⟩
theorem FvI.mv {S u : MS} {f : Nat} (h : FvI S f) (hf : FlI S f) (k : ∀ a : Nat, 92 < a → a < qn S → sm6 S u a) (e37 : qJ u 37 = qJ S 37) (e85 : qI u 0 85 = qI S 0 85) : FvI u f := by
  obtain ⟨h1, h2, h3, h4, h5, _⟩ := hf
  have f92 := h1.1.1
  have kf := (k f (by omega) (by omega)).2 h1.2.1.1
  have t3 := (h1.2.2 2 (by decide)).2.2
  rw [if_pos (by decide)] at t3
  have k3 := (k (f + 1 + 2) (by omega) (by omega)).1 (by rw [t3]; decide)
  intro i s hi hr hs hv
  rw [kf.1 3 (by decide)] at hi
  rw [show f + 3 = f + 1 + 2 by omega, k3.2.2.1, show f + 1 + 2 = f + 3 by omega] at hr
  obtain ⟨s1, s2, s3, b1, b2, b3, y1, y2, y3, n1, n2, q, hq, n3⟩ := h5 i hi
  have es : s3 = s := by rw [hr] at y3; injection y3.symm
  subst es
  obtain ⟨n, g, a, _⟩ := n3.l
  have ks := (k (s3 + 1) (by omega) b3.2).1 a.1.2.2
  rw [ks.1] at hv
  rw [e37, e85]
  exact h i s3 hi hr hs hv
theorem GmI.mv {S u : MS} (h : GmI S) (hk : knI S) (k : ∀ a : Nat, 92 < a → a < qn S → sm6 S u a) (kx : ∀ a : Nat, TXB ≤ a → sm5 S u a) (hq : qn S ≤ qn u) (tx : TxI u) (e80 : qR u 0 80 = qR S 0 80) (e8 : qI u 0 85 = qI S 0 85 ∧ qI u 0 86 = qI S 0 86 ∧ qI u 0 96 = qI S 0 96) (e3 : qI u 39 = qI S 39 ∧ qI u 40 = qI S 40 ∧ qJ u 37 = qJ S 37) (hst : ∀ f : Nat, qR S 0 80 = some f → qI u f 21 = qI S f 21 ∧ qR u f 22 = qR S f 22 ∨ VfI u f) : GmI u := by
  obtain ⟨h1, h2, h96⟩ := h
  refine ⟨?_, by unfold ArI at h2 ⊢; rw [e8.1, e8.2.1, e3.1, e3.2.1]; exact h2, by rw [e8.2.2]; exact h96⟩
  rcases h1 with h1 | ⟨f, ⟨⟨m1, m2⟩, m3, m4, m5, m6⟩, fv⟩
  · exact Or.inl (by rw [e80]; exact h1)
  · refine Or.inr ⟨f, ⟨⟨m1, by rw [e80]; exact m2⟩, m3.mv (fun a a0 a1 => k a (by omega) a1) hq, ?_, tx, by rw [e8.2.2]; exact h96⟩, fv.mv m3 k e3.2.2 e8.1⟩
    rcases hst f m2 with q | q
    · exact VfI.st S u f m4 hk k kx q.1 q.2 hq
    · exact q
theorem GmI.fm {S u : MS} {W J : List Nat} (h : GmI S) (hk : knI S) (k : frm W J S u) (hW : ∀ w ∈ W, w ≤ 92 ∧ w ≠ 37 ∧ w ≠ 39 ∧ w ≠ 40) (hJ : ∀ j ∈ J, j ≠ 80 ∧ j ≠ 85 ∧ j ≠ 86 ∧ j ≠ 96) (tx : TxI u) : GmI u := by
  have kb := big_frm k (fun w q => (hW w q).1)
  have j8 : ∀ j : Nat, (j = 80 ∨ j = 85 ∨ j = 86 ∨ j = 96) → j ∉ J := fun j q z => by have := hJ j z; omega
  have w3 : ∀ w : Nat, (w = 37 ∨ w = 39 ∨ w = 40) → w ∉ W := fun w q z => by have := hW w z; omega
  refine h.mv hk (fun a a0 _ => (kb a a0).s6) (fun a a0 => kb a (by rw [show TXB = 10000000 from rfl] at a0; omega)) (by rw [k.2.2.1]; exact Nat.le_refl _) tx (k.2.2.2.2.2 80 (j8 80 (by omega))).2.2 ⟨(k.2.2.2.2.2 85 (j8 85 (by omega))).1, (k.2.2.2.2.2 86 (j8 86 (by omega))).1, (k.2.2.2.2.2 96 (j8 96 (by omega))).1⟩ ⟨(k.2.2.2.2.1 39 (by decide) (w3 39 (by omega))).1, (k.2.2.2.2.1 40 (by decide) (w3 40 (by omega))).1, (k.2.2.2.2.1 37 (by decide) (w3 37 (by omega))).2.1⟩ (fun f hf => Or.inl ?_)
  rcases h.1 with q | ⟨f', ⟨⟨m1, m2⟩, _⟩, _⟩
  · rw [q] at hf; cases hf
  · have e : f' = f := by rw [m2] at hf; injection hf
    subst e
    rw [(kb f' m1).1, (kb f' m1).2.2.1]
    exact ⟨rfl, rfl⟩
theorem GoI.fm {S u : MS} {W J : List Nat} (h : GoI S) (k : frm W J S u) (hW : ∀ w ∈ W, w ≠ 2 ∧ w ≠ 34 ∧ w ≠ 35) (hJ : ∀ j ∈ J, j ≠ 75 ∧ j ≠ 76 ∧ j ≠ 78) : GoI u := ⟨h.1.fm k (fun q => (hW 34 q).2.1 rfl) (fun q => (hW 35 q).2.2 rfl) (fun q => (hJ 75 q).1 rfl) (fun q => (hJ 76 q).2.1 rfl), by rw [(k.2.2.2.2.2 78 (fun q => (hJ 78 q).2.2 rfl)).1]; exact h.2.1, fun i => by rw [(k.2.2.2.2.1 2 (by decide) (fun q => (hW 2 q).1 rfl)).1]; exact h.2.2 i⟩
theorem GcI.fm {S u : MS} {W J : List Nat} (h : GcI S) (k : frm W J S u) (hJ : ∀ j ∈ J, j ≠ 2 ∧ j ≠ 4 ∧ j ≠ 5 ∧ j ≠ 88) : GcI u := by
  unfold GcI at h ⊢
  rw [(k.2.2.2.2.2 2 (fun q => (hJ 2 q).1 rfl)).1, (k.2.2.2.2.2 4 (fun q => (hJ 4 q).2.1 rfl)).1, (k.2.2.2.2.2 5 (fun q => (hJ 5 q).2.2.1 rfl)).1, (k.2.2.2.2.2 88 (fun q => (hJ 88 q).2.2.2 rfl)).1]
  exact h
theorem RmI.fm {c : Nat} {S u : MS} {W J : List Nat} (h : RmI c S) (F : FsI VfI S) (k : frm W J S u) (hW : ∀ w ∈ W, w ≠ 1 ∧ w ≤ 92) (hJ : ∀ j ∈ J, j ≠ 1 ∧ j ≠ 2) : RmI c u := by
  have e1 := (k.2.2.2.2.2 1 (fun q => (hJ 1 q).1 rfl)).1
  have e2 := (k.2.2.2.2.2 2 (fun q => (hJ 2 q).2 rfl)).1
  have r1 : qR u 1 = qR S 1 := (k.2.2.2.2.1 1 (by decide) (fun q => (hW 1 q).1 rfl)).2.2
  have mo := vN_mo (S := S) (u := u) (qI S 0 1).toInt.toNat (fun i hi z => by
    obtain ⟨f, a, b, _⟩ := F.2 i (by omega)
    have q1 := qO_s a
    have q2 : qO u 1 i = f := qO_s (by rw [r1]; exact a)
    rw [q1] at z
    rw [q2, (big_frm k (fun w q => (hW w q).2) f b.1.1.1).1]
    exact z)
  unfold RmI at h ⊢
  rw [e1, e2, k.2.2.1, k.2.2.2.1]
  exact ⟨by omega, by omega⟩
