/-! a File that is written: its names, its rows (behind sp_mem, LkD, frX) -/
def erT (e : Nat) : Nat := 10000002 + 2 * e
def nmO (NL : List Nat) (kp : Prop) (AL : List (MS → Prop)) (S : MS) (s : Nat) : Prop := s ∈ NL ∧ txW S s ∧ (kp → kN s ∈ AL)
def CfI (NL : List Nat) (kp : Prop) (AL : List (MS → Prop)) (p : Nat) (S : MS) : Prop := CfS NL kp AL ∧ ((p = 60 ∨ 92 < p) ∧ ∀ i : Nat, i < 13 → qR S p (5 + i) = some (p + 1 + i) ∧ qN S (p + 1 + i) = 24) ∧ ((0 ≤ (qI S p 3).toInt ∧ (qI S p 3).toInt ≤ 24) ∧ 0 ≤ (qI S p 4).toInt ∧ (qI S p 4).toInt ≤ 24) ∧ ∃ o ab : Nat, (qR S p 0 = some o ∧ qR S p 1 = some ab) ∧ (nmO NL kp AL S o ∧ (kp → kC o ∈ AL)) ∧ (nmO NL kp AL S ab ∧ (kp → kC ab ∈ AL)) ∧ nmO NL kp AL S 10000000 ∧ (∀ e : Nat, e < 4 → nmO NL kp AL S (erT e) ∧ (kp → kC (erT e) ∈ AL)) ∧ (∀ i : Nat, (i : Int) < (qI S p 3).toInt → ∃ n t : Nat, qR S (p + 1) i = some n ∧ qR S (p + 2) i = some t ∧ nmO NL kp AL S n ∧ nmO NL kp AL S t ∧ (kp → kP n t ∈ AL ∧ kM 9 o n t ∈ AL)) ∧ ∀ m : Nat, (m : Int) < (qI S p 4).toInt → ∃ n t : Nat, qR S (p + 4) m = some n ∧ qR S (p + 5) m = some t ∧ nmO NL kp AL S n ∧ nmO NL kp AL S t ∧ (kp → kP n t ∈ AL ∧ kM 10 o n t ∈ AL)
/-- the rows of the File -/
def RoI (p : Nat) (S : MS) : Prop := okE S p ∧ ∃ R T C nr ts cn : Nat, (qR S p 18 = some R ∧ qR S p 19 = some T ∧ qR S p 20 = some C) ∧ (okD S R ∧ okD S T ∧ okD S C) ∧ (qN S R = 3 * nr ∧ qN S T = ts ∧ qN S C = 4 * cn) ∧ (nr ≤ 40000 ∧ ts ≤ 40000 ∧ cn ≤ 384) ∧ (∀ i : Nat, (i : Int) < (qI S p 3).toInt → ∃ s : Nat, qR S (p + 3) i = some s ∧ lOD S s 2) ∧ (∀ m : Nat, (m : Int) < (qI S p 4).toInt → (∃ s : Nat, qR S (p + 6) m = some s ∧ lOD S s 8) ∧ ∃ s : Nat, qR S (p + 7) m = some s ∧ lOD S s 2) ∧ ∀ m : Nat, (m : Int) < (qI S p 4).toInt → ∃ L : Int, (0 ≤ L ∧ L ≤ 24) ∧ MtD (qI S R) (qI S T) (qI S C) nr ts cn L (qI S p 3).toInt (qI S p 4).toInt (qI S (p + 10) m) (qI S (p + 11) m) (qI S (p + 12) m) (qI S (p + 13) m)
def loV (a b : Int32) : Int64 := ((a.toInt64) <<< ((32 : Int32).toInt64 &&& 63)) ||| ((b.toInt64) &&& (4294967295 : Int64))
def ckV (AL : List (MS → Prop)) (op a b : Int32) : Prop := (op.toInt = 18 → (-32768 ≤ a.toInt ∧ a.toInt ≤ 32767) ∨ kV 3 a.toInt64 ∈ AL) ∧ (op.toInt = 20 → (lg_cmp (loV a b) 0).toInt = 0 ∨ (lg_cmp (loV a b) 1).toInt = 0 ∨ kV 5 (loV a b) ∈ AL)
def CkF (kp : Prop) (AL : List (MS → Prop)) (p : Nat) (S : MS) : Prop := kp → ∀ m i : Nat, (m : Int) < (qI S p 4).toInt → (i : Int) < (qI S (p + 11) m).toInt → ckV AL (qI S (qO S p 18) (3 * ((qI S (p + 10) m).toInt.toNat + i))) (qI S (qO S p 18) (3 * ((qI S (p + 10) m).toInt.toNat + i) + 1)) (qI S (qO S p 18) (3 * ((qI S (p + 10) m).toInt.toNat + i) + 2))
theorem hi_frm {S u : MS} {W J : List Nat} (k : frm W J S u) (hW : ∀ w ∈ W, w < 60) : ∀ a : Nat, 60 ≤ a → sm5 S u a := fun a ha => by
  have z := k.2.2.2.2.1 a (by omega) (fun q => by have := hW a q; omega)
  exact ⟨z.1, z.2.1, z.2.2, by rw [k.1], by rw [k.2.1]⟩
theorem nmO.mv {NL : List Nat} {kp : Prop} {AL : List (MS → Prop)} {S u : MS} {s : Nat} (h : nmO NL kp AL S s) (k : kpW S u) : nmO NL kp AL u s := ⟨h.1, h.2.1.mv k, h.2.2⟩
theorem CfI.fm {NL : List Nat} {kp : Prop} {AL : List (MS → Prop)} {p : Nat} {S u : MS} {W J : List Nat} (h : CfI NL kp AL p S) (k : frm W J S u) (hW : ∀ w ∈ W, w < 60) : CfI NL kp AL p u := by
  have hi := hi_frm k hW
  have kw : kpW S u := kpW.f9 k (fun w q => by have := hW w q; omega)
  obtain ⟨h1, ⟨h2, h3⟩, h4, o, ab, ⟨r0, r1⟩, ⟨a1, a2⟩, ⟨b1, b2⟩, c1, e1, f1, m1⟩ := h
  have p60 : 60 ≤ p := by omega
  have zp := hi p p60
  have z : ∀ i : Nat, sm5 S u (p + i) := fun i => hi _ (by omega)
  unfold CfI
  rw [zp.1, zp.2.2.1, (z 1).2.2.1, (z 2).2.2.1, (z 4).2.2.1, (z 5).2.2.1]
  refine ⟨h1, ⟨h2, fun i hi' => ⟨(h3 i hi').1, by rw [show p + 1 + i = p + (1 + i) by omega, (z (1 + i)).2.2.2.2, show p + (1 + i) = p + 1 + i by omega]; exact (h3 i hi').2⟩⟩, h4, o, ab, ⟨r0, r1⟩, ⟨a1.mv kw, a2⟩, ⟨b1.mv kw, b2⟩, c1.mv kw, fun e he => ⟨(e1 e he).1.mv kw, (e1 e he).2⟩, fun i hi' => ?_, fun m hm => ?_⟩
  · obtain ⟨n, t, x1, x2, x3, x4, x5⟩ := f1 i hi'
    exact ⟨n, t, x1, x2, x3.mv kw, x4.mv kw, x5⟩
  · obtain ⟨n, t, x1, x2, x3, x4, x5⟩ := m1 m hm
    exact ⟨n, t, x1, x2, x3.mv kw, x4.mv kw, x5⟩
theorem okD.h5 {S u : MS} {a : Nat} (h : okD S a) (k : sm5 S u a) : okD u a := ⟨h.1, by rw [k.2.2.2.1]; exact h.2⟩
theorem okD.ge {S : MS} {a : Nat} (h : okD S a) : 60 ≤ a := by have := h.1; omega
theorem lOD.h5 {S u : MS} {s : Nat} {p : Int} (h : lOD S s p) (k : ∀ a : Nat, 60 ≤ a → sm5 S u a) : lOD u s p := by
  have z := k (s + 1) h.1.1.ge
  unfold lOD plS okD at h ⊢
  rw [z.1, z.2.2.2.1, z.2.2.2.2]
  exact h
theorem RoI.fm {p : Nat} {S u : MS} {W J : List Nat} (h : RoI p S) (k : frm W J S u) (hW : ∀ w ∈ W, w < 60) : RoI p u := by
  have hi := hi_frm k hW
  obtain ⟨⟨h1, h2, h3, h4⟩, R, T, C, nr, ts, cn, ⟨r1, r2, r3⟩, ⟨o1, o2, o3⟩, n, b, f, m, mt⟩ := h
  have p60 : 60 ≤ p := by have := h1.1; omega
  have zp := hi p p60
  have z : ∀ i : Nat, sm5 S u (p + i) := fun i => hi _ (by omega)
  have zR := hi R o1.ge
  have zT := hi T o2.ge
  have zC := hi C o3.ge
  refine ⟨⟨⟨h1.1, by rw [zp.2.2.2.1]; exact h1.2⟩, h2.h5 (z 3), h3.h5 (z 6), h4.h5 (z 7)⟩, R, T, C, nr, ts, cn, by rw [zp.2.2.1]; exact ⟨r1, r2, r3⟩, ⟨o1.h5 zR, o2.h5 zT, o3.h5 zC⟩, by rw [zR.2.2.2.2, zT.2.2.2.2, zC.2.2.2.2]; exact n, b, ?_, ?_, ?_⟩
  · rw [zp.1, (z 3).2.2.1]
    intro i hi'
    obtain ⟨s, s1, s2⟩ := f i hi'
    exact ⟨s, s1, s2.h5 hi⟩
  · rw [zp.1, (z 6).2.2.1, (z 7).2.2.1]
    intro i hi'
    obtain ⟨⟨s, s1, s2⟩, s', s3, s4⟩ := m i hi'
    exact ⟨⟨s, s1, s2.h5 hi⟩, s', s3, s4.h5 hi⟩
  · rw [zp.1, zR.1, zT.1, zC.1, (z 10).1, (z 11).1, (z 12).1, (z 13).1]
    exact mt
theorem CkF.fm {kp : Prop} {AL : List (MS → Prop)} {p : Nat} {S u : MS} {W J : List Nat} (h : CkF kp AL p S) (r : RoI p S) (k : frm W J S u) (hW : ∀ w ∈ W, w < 60) : CkF kp AL p u := by
  have hi := hi_frm k hW
  obtain ⟨⟨h1, h2, h3, h4⟩, R, T, C, nr, ts, cn, ⟨r1, r2, r3⟩, ⟨o1, o2, o3⟩, n, b, f, m, mt⟩ := r
  have p60 : 60 ≤ p := by have := h1.1; omega
  have zp := hi p p60
  have z : ∀ i : Nat, sm5 S u (p + i) := fun i => hi _ (by omega)
  have eR : qO S p 18 = R := by unfold qO; rw [r1]; rfl
  have eR' : qO u p 18 = R := by unfold qO; rw [zp.2.2.1, r1]; rfl
  unfold CkF at h ⊢
  rw [eR', (hi R o1.ge).1, zp.1, (z 10).1, (z 11).1]
  rw [eR] at h
  exact h
/-- a method of File p is looked at -/
def LkF (kp : Prop) (AL : List (MS → Prop)) (p : Nat) (S : MS) : Prop := LkD S ∧ qR S 0 47 = some p ∧ (∀ x : Int32, 0 ≤ x.toInt → x.toInt < (qI S 0 52).toInt → ((f_op S x).toInt = 178 ∨ (f_op S x).toInt = 179 → 0 ≤ (f_first S x).toInt ∧ (f_first S x).toInt < (qI S p 3).toInt) ∧ ((f_op S x).toInt = 184 → 0 ≤ (f_first S x).toInt ∧ (f_first S x).toInt < (qI S p 4).toInt) ∧ (kp → ckV AL (f_op S x) (f_first S x) (f_second S x))) ∧ wtS (qI S (qO S 0 48)) (qI S 0 51).toInt.toNat (qI S 0 52).toInt.toNat ≤ 3900
theorem LkF.fm {kp : Prop} {AL : List (MS → Prop)} {p : Nat} {S u : MS} {W J : List Nat} (h : LkF kp AL p S) (p60 : 60 ≤ p) (k : frm W J S u) (hW : ∀ w ∈ W, w < 60) (hJ : ∀ j ∈ J, j < 47 ∨ 54 < j) : LkF kp AL p u := by
  obtain ⟨h1, h2, h3, h4⟩ := h
  have s := smD.fm k (fun w q => Or.inl (hW w q)) hJ
  have hi := hi_frm k hW
  refine ⟨h1.mv s, by rw [(s.2 47 (by decide) (by decide)).2]; exact h2, fun x x0 x1 => ?_, ?_⟩
  · rw [(s.2 52 (by decide) (by decide)).1] at x1
    rw [(s.op h1 x).1, (s.op h1 x).2.1, (s.op h1 x).2.2, (hi p p60).1]
    exact h3 x x0 x1
  · rw [s.qo (j := 48) (by decide) (by decide), (s.2 51 (by decide) (by decide)).1, (s.2 52 (by decide) (by decide)).1, (s.1.1 _ h1.1.1.2.1).1]
    exact h4
theorem sp_lookD {NL : List Nat} {kp : Prop} {AL : List (MS → Prop)} {p : Nat} {S : MS} {x : Int32} (cf : CfI NL kp AL p S) (ro : RoI p S) (ck : CkF kp AL p S) (hx : 0 ≤ x.toInt ∧ x.toInt < (qI S p 4).toInt) : w_look S p x (fun u => (frm [] [47, 48, 49, 50, 51, 52, 53, 54] S u ∧ LkF kp AL p u) ∧ qI u 0 52 = qI S (p + 11) x.toInt.toNat ∧ qI u 0 54 = qI S (p + 13) x.toInt.toNat) := by
  obtain ⟨c1, ⟨c2, rows⟩, c4, -⟩ := cf
  have ro' := ro
  obtain ⟨⟨h1, h2, h3, h4⟩, R, T, C, nr, ts, cn, r, ok, n, b, f, mm, mt⟩ := ro
  obtain ⟨L, lr, md⟩ := mt x.toInt.toNat (by omega)
  have p0 : p ≠ 0 := by omega
  have q10 := rows 9 (by decide)
  have q11 := rows 10 (by decide)
  have q12 := rows 11 (by decide)
  have q13 := rows 12 (by decide)
  simp only [Nat.reduceAdd, Nat.add_assoc] at q10 q11 q12 q13
  unfold w_look
  intro A eA
  have rA : ∀ j : Nat, qR A p j = qR S p j := fun j => by rw [eA, qR_wR, if_neg (by omega)]
  have oA : qO A p 18 = R := by show (qR A p 18).getD 0 = _; rw [rA, r.1]; rfl
  rw [oA]
  refine ⟨by rw [rA]; exact r.1, fun B eB => ?_⟩
  have rB : ∀ j : Nat, qR B p j = qR S p j := fun j => by rw [eB, qR_wR, if_neg (by omega), rA]
  have oB : qO B p 19 = T := by show (qR B p 19).getD 0 = _; rw [rB, r.2.1]; rfl
  rw [oB]
  refine ⟨by rw [rB]; exact r.2.1, fun C' eC => ?_⟩
  have rC : ∀ j : Nat, qR C' p j = qR S p j := fun j => by rw [eC, qR_wR, if_neg (by omega), rB]
  have oC : qO C' p 20 = C := by show (qR C' p 20).getD 0 = _; rw [rC, r.2.2]; rfl
  rw [oC]
  refine ⟨by rw [rC]; exact r.2.2, fun D eD => ?_⟩
  have rD : ∀ j : Nat, qR D p j = qR S p j := fun j => by rw [eD, qR_wR, if_neg (by omega), rC]
  have tD : qT D = qT S ∧ qN D = qN S ∧ ∀ a : Nat, qI D a = qI S a := by rw [eD, eC, eB, eA]; exact ⟨rfl, rfl, fun _ => rfl⟩
  have oD : ∀ j b : Nat, qR S p j = some b → qO D p j = b := fun j b q => by show (qR D p j).getD 0 = _; rw [rD, q]; rfl
  rw [oD _ _ q10.1]
  refine ⟨by rw [rD]; exact q10.1, ⟨hx.1, by rw [tD.2.1, q10.2]; omega⟩, fun E eE => ?_⟩
  have rE : ∀ j : Nat, qR E p j = qR S p j := fun j => by rw [eE]; exact rD j
  have tE : qN E = qN S ∧ ∀ a : Nat, a ≠ 0 → qI E a = qI S a := ⟨by rw [eE]; exact tD.2.1, fun a ha => by rw [eE, rdH ha]; exact tD.2.2 a⟩
  have oE : ∀ j b : Nat, qR S p j = some b → qO E p j = b := fun j b q => by show (qR E p j).getD 0 = _; rw [rE, q]; rfl
  rw [oE _ _ q11.1]
  refine ⟨by rw [rE]; exact q11.1, ⟨hx.1, by rw [tE.1, q11.2]; omega⟩, fun G eG => ?_⟩
  have rG : ∀ j : Nat, qR G p j = qR S p j := fun j => by rw [eG]; exact rE j
  have tG : qN G = qN S ∧ ∀ a : Nat, a ≠ 0 → qI G a = qI S a := ⟨by rw [eG]; exact tE.1, fun a ha => by rw [eG, rdH ha]; exact tE.2 a ha⟩
  have oG : ∀ j b : Nat, qR S p j = some b → qO G p j = b := fun j b q => by show (qR G p j).getD 0 = _; rw [rG, q]; rfl
  rw [oG _ _ q12.1]
  refine ⟨by rw [rG]; exact q12.1, ⟨hx.1, by rw [tG.1, q12.2]; omega⟩, fun H eH => ?_⟩
  have rH : ∀ j : Nat, qR H p j = qR S p j := fun j => by rw [eH]; exact rG j
  have tH : qN H = qN S ∧ ∀ a : Nat, a ≠ 0 → qI H a = qI S a := ⟨by rw [eH]; exact tG.1, fun a ha => by rw [eH, rdH ha]; exact tG.2 a ha⟩
  have oH : ∀ j b : Nat, qR S p j = some b → qO H p j = b := fun j b q => by show (qR H p j).getD 0 = _; rw [rH, q]; rfl
  rw [oH _ _ q13.1]
  refine ⟨by rw [rH]; exact q13.1, ⟨hx.1, by rw [tH.1, q13.2]; omega⟩, fun K eK => ?_⟩
  have fK : frm [] [47, 48, 49, 50, 51, 52, 53, 54] S K := by
    have f1 : frm [] [47, 48, 49, 50, 51, 52, 53, 54] S A := by rw [eA]; exact frm.pR0 (by decide)
    have f2 : frm [] [47, 48, 49, 50, 51, 52, 53, 54] A B := by rw [eB]; exact frm.pR0 (by decide)
    have f3 : frm [] [47, 48, 49, 50, 51, 52, 53, 54] B C' := by rw [eC]; exact frm.pR0 (by decide)
    have f4 : frm [] [47, 48, 49, 50, 51, 52, 53, 54] C' D := by rw [eD]; exact frm.pR0 (by decide)
    have f5 : frm [] [47, 48, 49, 50, 51, 52, 53, 54] D E := by rw [eE]; exact frm.pI0 (by decide)
    have f6 : frm [] [47, 48, 49, 50, 51, 52, 53, 54] E G := by rw [eG]; exact frm.pI0 (by decide)
    have f7 : frm [] [47, 48, 49, 50, 51, 52, 53, 54] G H := by rw [eH]; exact frm.pI0 (by decide)
    have f8 : frm [] [47, 48, 49, 50, 51, 52, 53, 54] H K := by rw [eK]; exact frm.pI0 (by decide)
    exact ((((((f1.tr f2).tr f3).tr f4).tr f5).tr f6).tr f7).tr f8
  have k54 : qI K 0 54 = qI S (p + 13) x.toInt.toNat := by rw [eK, qI_wI, if_pos ⟨rfl, rfl⟩, tH.2 _ (by omega)]
  have k53 : qI K 0 53 = qI S (p + 12) x.toInt.toNat := by rw [eK, qI_wI, if_neg (by decide), eH, qI_wI, if_pos ⟨rfl, rfl⟩, tG.2 _ (by omega)]
  have k52 : qI K 0 52 = qI S (p + 11) x.toInt.toNat := by rw [eK, qI_wI, if_neg (by decide), eH, qI_wI, if_neg (by decide), eG, qI_wI, if_pos ⟨rfl, rfl⟩, tE.2 _ (by omega)]
  have k51 : qI K 0 51 = qI S (p + 10) x.toInt.toNat := by rw [eK, qI_wI, if_neg (by decide), eH, qI_wI, if_neg (by decide), eG, qI_wI, if_neg (by decide), eE, qI_wI, if_pos ⟨rfl, rfl⟩, tD.2.2]
  have kD : qR K = qR D := by rw [eK, eH, eG, eE]; rfl
  have k50 : qR K 0 50 = some C := by rw [kD, eD, qR_wR, if_pos ⟨rfl, rfl⟩]
  have k49 : qR K 0 49 = some T := by rw [kD, eD, qR_wR, if_neg (by decide), eC, qR_wR, if_pos ⟨rfl, rfl⟩]
  have k48 : qR K 0 48 = some R := by rw [kD, eD, qR_wR, if_neg (by decide), eC, qR_wR, if_neg (by decide), eB, qR_wR, if_pos ⟨rfl, rfl⟩]
  have k47 : qR K 0 47 = some p := by rw [kD, eD, qR_wR, if_neg (by decide), eC, qR_wR, if_neg (by decide), eB, qR_wR, if_neg (by decide), eA, qR_wR, if_pos ⟨rfl, rfl⟩]
  have o47 : qO K 0 47 = p := by unfold qO; rw [k47]; rfl
  have o48 : qO K 0 48 = R := by unfold qO; rw [k48]; rfl
  have o49 : qO K 0 49 = T := by unfold qO; rw [k49]; rfl
  have o50 : qO K 0 50 = C := by unfold qO; rw [k50]; rfl
  have hi := hi_frm fK (by decide)
  have z : ∀ i : Nat, sm5 S K (p + i) := fun i => hi _ (by omega)
  have zp := hi p (by omega)
  have zR := hi R ok.1.ge
  have zT := hi T ok.2.1.ge
  have zC := hi C ok.2.2.ge
  have q7 := rows 2 (by decide)
  have q6' := rows 5 (by decide)
  have q7' := rows 6 (by decide)
  simp only [Nat.reduceAdd, Nat.add_assoc] at q7 q6' q7'
  have lk : LkD K := by
    refine ⟨⟨⟨by rw [o47]; exact ⟨⟨by omega, by rw [zp.2.2.2.1]; exact h1.2⟩, h2.h5 (z 3), h3.h5 (z 6), h4.h5 (z 7)⟩, by rw [o48]; exact ok.1.h5 zR, by rw [o49]; exact ok.2.1.h5 zT, by rw [o50]; exact ok.2.2.h5 zC⟩, by rw [o47]; exact k47, by rw [o48]; exact k48, by rw [o49]; exact k49, by rw [o50]; exact k50⟩, L, (qI S p 3).toInt, (qI S p 4).toInt, nr, ts, cn, ?_, b, ⟨lr, by omega, by omega⟩, ?_, ?_, ?_, ?_, ?_⟩
    · rw [o48, o49, o50, zR.2.2.2.2, zT.2.2.2.2, zC.2.2.2.2]; exact n
    · rw [o48, o49, o50, zR.1, zT.1, zC.1, k51, k52, k53, k54]; exact md
    · rw [o47, zp.2.2.1]; exact ⟨q7.1, q6'.1, q7'.1⟩
    · rw [o47, (z 3).2.2.2.2, (z 6).2.2.2.2, (z 7).2.2.2.2]; exact ⟨q7.2, q6'.2, q7'.2⟩
    · rw [o47, (z 3).2.2.1]
      intro i hi'
      obtain ⟨s, s1, s2⟩ := f i hi'
      exact ⟨s, s1, s2.h5 hi⟩
    · rw [o47, (z 6).2.2.1, (z 7).2.2.1]
      intro i hi'
      obtain ⟨⟨s, s1, s2⟩, s', s3, s4⟩ := mm i hi'
      exact ⟨⟨s, s1, s2.h5 hi⟩, s', s3, s4.h5 hi⟩
  refine ⟨⟨fK, lk, k47, fun y y0 y1 => ?_, ?_⟩, k52, k54⟩
  · obtain ⟨e1, e2, e3⟩ := lk_ix_d lk (x := y) ⟨y0, y1⟩
    have cn' := lk.cnt
    have rw1 : f_op K y = qI S R (3 * ((qI S (p + 10) x.toInt.toNat).toInt.toNat + y.toInt.toNat)) ∧ f_first K y = qI S R (3 * ((qI S (p + 10) x.toInt.toNat).toInt.toNat + y.toInt.toNat) + 1) ∧ f_second K y = qI S R (3 * ((qI S (p + 10) x.toInt.toNat).toInt.toNat + y.toInt.toNat) + 2) := by
      unfold f_op f_first f_second
      rw [e1, e2, e3, o48, zR.1, ← k51, show (3 * ((qI K 0 51).toInt + y.toInt)).toNat = 3 * ((qI K 0 51).toInt.toNat + y.toInt.toNat) by omega, show (3 * ((qI K 0 51).toInt + y.toInt) + 1).toNat = 3 * ((qI K 0 51).toInt.toNat + y.toInt.toNat) + 1 by omega, show (3 * ((qI K 0 51).toInt + y.toInt) + 2).toNat = 3 * ((qI K 0 51).toInt.toNat + y.toInt.toNat) + 2 by omega]
      exact ⟨rfl, rfl, rfl⟩
    rw [k52] at y1
    have rv := md.2.2.2.1 y.toInt.toNat (by omega)
    unfold rOK at rv
    rw [rw1.1, rw1.2.1, rw1.2.2, zp.1]
    refine ⟨rv.2.2.2.2.2.1, rv.2.2.2.2.2.2, fun k => ?_⟩
    have := ck k x.toInt.toNat y.toInt.toNat (by omega) (by omega)
    have eR : qO S p 18 = R := by unfold qO; rw [r.1]; rfl
    rw [eR] at this
    exact this
  · rw [o48, zR.1, k51, k52]
    exact md.2.2.2.2.1
section NOX
variable {NL : List Nat} {kp : Prop} {AL : List (MS → Prop)}
theorem sh_rg {S : MS} {x : Int32} : ((f_isShort S x).toInt = 0 ↔ ¬ (-32768 ≤ x.toInt ∧ x.toInt ≤ 32767)) ∧ d_isShort S x := by
  unfold f_isShort d_isShort f_isShort_J18 d_isShort_J18
  have z1 : (1 : Int32).toInt = 1 := by decide
  have z0 : (0 : Int32).toInt = 0 := by decide
  by_cases c1 : x.toInt < -32768
  · rw [if_pos c1, if_pos c1, z0]
    exact ⟨⟨fun _ => by omega, fun _ => rfl⟩, trivial⟩
  · rw [if_neg c1, if_neg c1]
    by_cases c2 : 32767 < x.toInt
    · rw [if_pos c2, if_pos c2, z0]
      exact ⟨⟨fun _ => by omega, fun _ => rfl⟩, trivial⟩
    · rw [if_neg c2, if_neg c2, z1]
      exact ⟨⟨fun q => absurd q (by decide), fun q => absurd ⟨by omega, by omega⟩ q⟩, trivial⟩
theorem by_rg2 {S : MS} {x : Int32} : ((f_isByte S x).toInt = 0 ↔ ¬ (-128 ≤ x.toInt ∧ x.toInt ≤ 127)) ∧ d_isByte S x := by
  unfold f_isByte d_isByte f_isByte_J16 d_isByte_J16
  have z1 : (1 : Int32).toInt = 1 := by decide
  have z0 : (0 : Int32).toInt = 0 := by decide
  by_cases c1 : x.toInt < -128
  · rw [if_pos c1, if_pos c1, z0]
    exact ⟨⟨fun _ => by omega, fun _ => rfl⟩, trivial⟩
  · rw [if_neg c1, if_neg c1]
    by_cases c2 : 127 < x.toInt
    · rw [if_pos c2, if_pos c2, z0]
      exact ⟨⟨fun _ => by omega, fun _ => rfl⟩, trivial⟩
    · rw [if_neg c2, if_neg c2, z1]
      exact ⟨⟨fun q => absurd q (by decide), fun q => absurd ⟨by omega, by omega⟩ q⟩, trivial⟩
/-- needOf -/
def NoP (NL : List Nat) (kp : Prop) (AL : List (MS → Prop)) (S : MS) (x r : Int32) (u : MS) : Prop := WrI NL kp AL u ∧ BkX S u ∧ (0 ≤ r.toInt ∧ r.toInt ≤ 1401) ∧ ((f_op S x).toInt = 18 → ¬ (-32768 ≤ (f_first S x).toInt ∧ (f_first S x).toInt ≤ 32767) → NuK u 3 0 0 (f_first S x).toInt64 10000032 r)
theorem sp_nO {p : Nat} {S : MS} {x : Int32} (cf : CfI NL kp AL p S) (h : WrI NL kp AL S) (k : LkF kp AL p S) (hx : 0 ≤ x.toInt ∧ x.toInt < (qI S 0 52).toInt) : w_needOf S x (fun r u => NoP NL kp AL S x r u) (fun _ => ¬ kp) := by
  obtain ⟨lk, r47, rowF, -⟩ := k
  obtain ⟨f1, f2, f3⟩ := rowF x hx.1 hx.2
  obtain ⟨dop, dfi, dse⟩ := lk.dop hx
  obtain ⟨cS, ⟨c2, rows⟩, c4, o, ab, ⟨r0, r1⟩, ⟨a1, a2⟩, _, _, _, fl, mt⟩ := cf
  have o47 : qO S 0 47 = p := by unfold qO; rw [r47]; rfl
  have l0 : (0 : Int32).toInt = 0 := rfl
  have own : (f_op S x).toInt ≠ 18 → NoP NL kp AL S x 0 S := fun q => ⟨h, BkX.rf, by rw [l0]; omega, fun z => absurd z q⟩
  have lo : f_longOf S x = loV (f_first S x) (f_second S x) := rfl
  have n47 : qO S 0 47 ≠ 0 ∧ qO S 0 47 ∉ [28, 29, 30, 31, 32, 33] := by
    rw [o47]
    refine ⟨by omega, fun q => ?_⟩
    simp only [List.mem_cons, List.not_mem_nil, or_false] at q
    omega
  have mem : ∀ (g : Int32) (i j : Nat), (g.toInt = 9 ∧ i = 0 ∧ j = 1 ∨ g.toInt = 10 ∧ i = 3 ∧ j = 4) → ((f_op S x).toInt = 178 ∨ (f_op S x).toInt = 179 ∨ (f_op S x).toInt = 184) → (∃ n t : Nat, qR S (p + 1 + i) (f_first S x).toInt.toNat = some n ∧ qR S (p + 1 + j) (f_first S x).toInt.toNat = some t ∧ nmO NL kp AL S n ∧ nmO NL kp AL S t ∧ (kp → kP n t ∈ AL ∧ kM g o n t ∈ AL)) → (0 ≤ (f_first S x).toInt ∧ (f_first S x).toInt < 24) → ((qR S 0 47 = some (qO S 0 47)) ∧ ((qR S (qO S 0 47) (5 + i) = some (qO S (qO S 0 47) (5 + i))) ∧ (d_first S x ∧ (((0 : Int) ≤ (f_first S x).toInt ∧ (f_first S x).toInt < (qN S (qO S (qO S 0 47) (5 + i)) : Int)) ∧ ((qR S (qO S (qO S 0 47) (5 + i)) (((f_first S x).toInt).toNat) = some (qO S (qO S (qO S 0 47) (5 + i)) (((f_first S x).toInt).toNat))) ∧ ((qR S 0 47 = some (qO S 0 47)) ∧ ((qR S (qO S 0 47) (5 + j) = some (qO S (qO S 0 47) (5 + j))) ∧ (d_first S x ∧ (((0 : Int) ≤ (f_first S x).toInt ∧ (f_first S x).toInt < (qN S (qO S (qO S 0 47) (5 + j)) : Int)) ∧ ((qR S (qO S (qO S 0 47) (5 + j)) (((f_first S x).toInt).toNat) = some (qO S (qO S (qO S 0 47) (5 + j)) (((f_first S x).toInt).toNat))) ∧ (∃ Q81 EQ81, w_memberNumber S g (qO S (qO S (qO S 0 47) (5 + i)) (((f_first S x).toInt).toNat)) (qO S (qO S (qO S 0 47) (5 + j)) (((f_first S x).toInt).toNat)) Q81 EQ81 ∧ (∀ r82 S83, Q81 r82 S83 → NoP NL kp AL S x r82 S83) ∧ (∀ u9, EQ81 u9 → ¬ kp)))))))))))) := fun g i j hg ho hnt hb => by
    obtain ⟨n, t, n1, t1, hn, ht, hk⟩ := hnt
    have qi := rows i (by omega)
    have qj := rows j (by omega)
    have oi : qO S (qO S 0 47) (5 + i) = p + 1 + i := by rw [o47]; unfold qO; rw [qi.1]; rfl
    have oj : qO S (qO S 0 47) (5 + j) = p + 1 + j := by rw [o47]; unfold qO; rw [qj.1]; rfl
    have on : qO S (p + 1 + i) (f_first S x).toInt.toNat = n := by unfold qO; rw [n1]; rfl
    have ot : qO S (p + 1 + j) (f_first S x).toInt.toNat = t := by unfold qO; rw [t1]; rfl
    have r47' : qR S 0 47 = some (qO S 0 47) := by rw [o47]; exact r47
    rw [oi, oj, on, ot]
    refine ⟨r47', by rw [o47]; exact qi.1, dfi, ⟨hb.1, by rw [qi.2]; omega⟩, n1, r47', by rw [o47]; exact qj.1, dfi, ⟨hb.1, by rw [qj.2]; omega⟩, t1, _, _, sp_mem cS h (by omega) r47' n47 (by rw [o47]; exact r0) ⟨a1.1, a1.2.1, fun k => ⟨a1.2.2 k, a2 k⟩⟩ hn ht hk, ?_, fun u e => e⟩
    rintro r u ⟨u1, u2, u3⟩
    exact ⟨u1, u2, by omega, fun z => by omega⟩
  unfold w_needOf
  refine ⟨dop, fun e1 => ⟨dfi, sh_rg.2, fun e2 => ⟨dfi, ?_⟩, fun e2 => ⟨h, BkX.rf, by rw [l0]; omega, fun _ z => absurd (sh_rg.1.mpr z) e2⟩⟩, fun e1 => ⟨fun e2 => ?_, fun e2 => ⟨fun e3 => ?_, fun e3 => ⟨fun e4 => ?_, fun e4 => ⟨fun e5 => ?_, fun e5 => own e1⟩⟩⟩⟩⟩
  · have ns := sh_rg.1.mp e2
    have g : kp → ∃ s, s ∈ AL ∧ (s S → ∃ r' : Int32, NuK S 3 0 0 (f_first S x).toInt64 10000032 r') := fun k => by
      rcases (f3 k).1 e1 with q | q
      · exact absurd q ns
      · exact ⟨_, q, fun y => y⟩
    refine ⟨_, _, sp_need h.1 h.2.1 (by unfold tgO; decide) (by decide) (fun z => absurd z (by decide)), ?_, fun u e => h.no cS e g⟩
    rintro r u ⟨q, nr⟩
    refine ⟨h.nd cS q nr (fun z => absurd z (by decide)) (fun k => ?_), q.2.1, by have := q.2.2.2.1; omega, fun _ _ => q.2.2.1⟩
    rcases (f3 k).1 e1 with y | y
    · exact absurd y ns
    · exact ⟨_, y, fun y => y, fun y => y⟩
  · have dl : d_longOf S x := ⟨dfi, dse, trivial⟩
    have j : w_needOf_J108 (fun r u => NoP NL kp AL S x r u) (fun _ => ¬ kp) S := own e1
    refine ⟨dl, fun _ => j, fun c0 => ⟨dl, fun _ => j, fun c1 => ⟨dl, ?_⟩⟩⟩
    rw [lo] at c0 c1 ⊢
    have g : kp → kV 5 (loV (f_first S x) (f_second S x)) ∈ AL := fun k => by
      rcases (f3 k).2 e2 with q | q | q
      · exact absurd q c0
      · exact absurd q c1
      · exact q
    refine ⟨_, _, sp_need h.1 h.2.1 (by unfold tgO; decide) (by decide) (fun z => absurd z (by decide)), ?_, fun u e => h.no cS e (fun k => ⟨_, g k, fun y => y⟩)⟩
    rintro r u ⟨q, nr⟩
    exact ⟨h.nd cS q nr (fun z => absurd z (by decide)) (fun k => ⟨_, g k, fun y => y, fun y => y⟩), q.2.1, by have := q.2.2.2.1; omega, fun z => absurd z e1⟩
  · have b := f1 (Or.inl e3)
    exact mem 9 0 1 (Or.inl ⟨by decide, rfl, rfl⟩) (Or.inl e3) (fl _ (by omega)) (by omega)
  · have b := f1 (Or.inr e4)
    exact mem 9 0 1 (Or.inl ⟨by decide, rfl, rfl⟩) (Or.inr (Or.inl e4)) (fl _ (by omega)) (by omega)
  · have b := f2 e5
    exact mem 10 3 4 (Or.inr ⟨by decide, rfl, rfl⟩) (Or.inr (Or.inr e5)) (mt _ (by omega)) (by omega)
end NOX
/-! collect (behind sp_nO, sp_lookD) -/
theorem er_nm {S : MS} {e : Int32} (h : 0 ≤ e.toInt ∧ e.toInt ≤ 3) : f_errorName S e = erT e.toInt.toNat := by
  unfold f_errorName erT
  have q : e.toInt = 0 ∨ e.toInt = 1 ∨ e.toInt = 2 ∨ e.toInt = 3 := by omega
  rcases q with q | q | q | q
  · rw [if_pos q, q]; rfl
  · rw [if_neg (by omega), if_pos q, q]; rfl
  · rw [if_neg (by omega), if_neg (by omega), if_pos q, q]; rfl
  · rw [if_neg (by omega), if_neg (by omega), if_neg (by omega), q]; rfl
theorem WrI.st {NL : List Nat} {kp : Prop} {AL : List (MS → Prop)} {S : MS} (h : (qI S 0 73).toInt = 0) (h2 : (qI S 0 74).toInt = 1) : WrI NL kp AL S := by
  have e : ndN S = 0 := h
  refine ⟨⟨by omega, by omega, fun k hk => by omega⟩, ⟨fun k hk => by omega, by rw [h2, e]; rfl⟩, ?_, fun _ => by omega⟩
  unfold nmK
  rw [e]
  exact Nat.zero_le _
section COX
variable {NL : List Nat} {kp : Prop} {AL : List (MS → Prop)}
theorem sp_co_L149 {p : Nat} {A : MS} {Q E : MS → Prop} {k81 : MS → Nat → Int32 → Prop} {x : Int32} (cf : CfI NL kp AL p A) (k : LkF kp AL p A) (hE : ∀ u : MS, ¬ kp → E u) (hk : ∀ U : MS, BkX A U → WrI NL kp AL U → k81 U p (x + Int32.ofInt 1)) : ∀ (c : Nat) (U : MS) (i : Int32), 0 ≤ i.toInt → BkX A U → WrI NL kp AL U → (16 - i.toInt).toNat < c → w_collect_L149 Q E k81 c U p x i := by
  have p60 : 60 ≤ p := by have := cf.2.1.1; omega
  intro c
  induction c with
  | zero => intro U i _ _ _ h9; exact absurd h9 (Nat.not_lt_zero _)
  | succ c ih =>
    intro U i i0 xU hU hc
    have cfU := cf.fm xU.1 (by decide)
    have kU := k.fm p60 xU.1 (by decide) (by decide)
    have cn := kU.1.cnt
    unfold w_collect_L149
    refine ⟨fun _ a ea => by subst ea; exact hk U xU hU, fun c1 => ?_⟩
    have ir : 0 ≤ i.toInt ∧ i.toInt < (qI U 0 54).toInt := ⟨i0, by omega⟩
    have ei : (i + Int32.ofInt 1).toInt = i.toInt + 1 := by rw [t_add (by rw [lo_1]; omega), lo_1]
    have dc := kU.1.dcw ir (k := 3) (by decide)
    have cw := (kU.1.cw ir).2.2.2
    have nx : ∀ V : MS, BkX A V → WrI NL kp AL V → w_collect_J183 Q E (w_collect_L149 Q E k81 c) V p x i := fun V xV hV => by
      unfold w_collect_J183
      intro a ea
      subst ea
      exact ih V _ (by omega) xV hV (by omega)
    refine ⟨dc, fun _ => nx U xU hU, fun c2 => ⟨dc, trivial, ?_⟩⟩
    obtain ⟨cS, _, _, o, ab, _, _, _, _, er, _⟩ := cfU
    rw [er_nm (by omega)]
    obtain ⟨e1, e2⟩ := er (f_catchWord U i 3).toInt.toNat (by omega)
    refine ⟨_, _, sp_cls cS hU e1.1 e1.2.1 e1.2.2 e2, ?_, fun u e => hE u e⟩
    rintro r V ⟨hV, xV, _⟩
    exact nx V (xU.tr xV) hV
theorem sp_co_L124 {p : Nat} {A : MS} {Q E : MS → Prop} {k81 : MS → Nat → Int32 → Prop} {x : Int32} (cf : CfI NL kp AL p A) (k : LkF kp AL p A) (hE : ∀ u : MS, ¬ kp → E u) (hk : ∀ U : MS, BkX A U → WrI NL kp AL U → k81 U p (x + Int32.ofInt 1)) : ∀ (c : Nat) (U : MS) (i : Int32), 0 ≤ i.toInt → BkX A U → WrI NL kp AL U → (1296 - i.toInt).toNat < c → w_collect_L124 Q E k81 c U p x i := by
  have p60 : 60 ≤ p := by have := cf.2.1.1; omega
  intro c
  induction c with
  | zero => intro U i _ _ _ h9; exact absurd h9 (Nat.not_lt_zero _)
  | succ c ih =>
    intro U i i0 xU hU hc
    have cfU := cf.fm xU.1 (by decide)
    have kU := k.fm p60 xU.1 (by decide) (by decide)
    have cn := kU.1.cnt
    unfold w_collect_L124
    refine ⟨fun _ => ⟨_, sp_co_L149 cf k hE hk _ U 0 (by decide) xU hU (Nat.lt_succ_self _)⟩, fun c1 => ?_⟩
    have ei : (i + Int32.ofInt 1).toInt = i.toInt + 1 := by rw [t_add (by rw [lo_1]; omega), lo_1]
    refine ⟨_, _, sp_nO cfU hU kU ⟨i0, by omega⟩, ?_, fun u e => hE u e⟩
    rintro r V ⟨hV, xV, _⟩ a ea
    subst ea
    exact ih V _ (by omega) (xU.tr xV) hV (by omega)
/-- what collect leaves alone -/
def coF (S u : MS) : Prop := frm [28, 29, 30, 31, 32, 33] [7, 8, 47, 48, 49, 50, 51, 52, 53, 54, 73, 74] S u
theorem sp_collect {p : Nat} {S : MS} (cf : CfI NL kp AL p S) (ro : RoI p S) (ck : CkF kp AL p S) : w_collect S p (fun u => WrI NL kp AL u ∧ coF S u) (fun _ => ¬ kp) := by
  have p60 : 60 ≤ p := by have := cf.2.1.1; omega
  have rows := cf.2.1.2
  have bF := cf.2.2.1
  have l0 : (0 : Int32).toInt = 0 := rfl
  -- a name of the File
  have nm : ∀ (U : MS) (i j : Nat) (n : Nat), coF S U → i < 13 → j < 24 → qR S (p + 1 + i) j = some n → qR U p (5 + i) = some (qO U p (5 + i)) ∧ qO U p (5 + i) = p + 1 + i ∧ qN U (p + 1 + i) = 24 ∧ qR U (p + 1 + i) j = some n ∧ qO U (p + 1 + i) j = n := fun U i j n fU hi hj hn => by
    have hi' := hi_frm fU (by decide)
    have r := rows i hi
    have z := hi' (p + 1 + i) (by omega)
    have r1 : qR U p (5 + i) = some (p + 1 + i) := by rw [(hi' p p60).2.2.1]; exact r.1
    have o1 : qO U p (5 + i) = p + 1 + i := by unfold qO; rw [r1]; rfl
    have r2 : qR U (p + 1 + i) j = some n := by rw [z.2.2.1]; exact hn
    exact ⟨by rw [o1]; exact r1, o1, by rw [z.2.2.2.2]; exact r.2, r2, by unfold qO; rw [r2]; rfl⟩
  have L81 : ∀ (c : Nat) (U : MS) (x : Int32), 0 ≤ x.toInt → coF S U → WrI NL kp AL U → (24 - x.toInt).toNat < c → w_collect_L81 (fun u => WrI NL kp AL u ∧ coF S u) (fun _ => ¬ kp) c U p x := by
    intro c
    induction c with
    | zero => intro U x _ _ _ h9; exact absurd h9 (Nat.not_lt_zero _)
    | succ c ih =>
      intro U x x0 fU hU hc
      have hi := hi_frm fU (by decide)
      have u4 : qI U p 4 = qI S p 4 := by rw [(hi p p60).1]
      unfold w_collect_L81
      rw [u4]
      refine ⟨fun _ => ⟨hU, fU⟩, fun c1 => ?_⟩
      obtain ⟨cS, _, _, o, ab, _, _, _, _, _, _, mt⟩ := cf
      obtain ⟨n, t, n1, t1, hn, ht, _⟩ := mt x.toInt.toNat (by omega)
      obtain ⟨a1, a2, a3, a4, a5⟩ := nm U 3 x.toInt.toNat n fU (by decide) (by omega) n1
      rw [show (8 : Nat) = 5 + 3 from rfl, a2, a5]
      have kU : kpW S U := kpW.f9 fU (by decide)
      refine ⟨by rw [a2] at a1; exact a1, ⟨x0, by rw [a3]; omega⟩, a4, _, _, sp_nm cS hU hn.1 (hn.2.1.mv kU) hn.2.2, ?_, fun u e => e⟩
      rintro r V ⟨hV, xV, _⟩
      have fV : coF S V := frm.tr fU (xV.1.mo (by decide) (by decide))
      obtain ⟨b1, b2, b3, b4, b5⟩ := nm V 4 x.toInt.toNat t fV (by decide) (by omega) t1
      rw [show (9 : Nat) = 5 + 4 from rfl, b2, b5]
      refine ⟨by rw [b2] at b1; exact b1, ⟨x0, by rw [b3]; omega⟩, b4, _, _, sp_nm cS hV ht.1 (ht.2.1.mv (kU.tr xV.kp)) ht.2.2, ?_, fun u e => e⟩
      rintro r2 W ⟨hW, xW, _⟩
      have fW : coF S W := frm.tr fV (xW.1.mo (by decide) (by decide))
      have w4 : qI W p 4 = qI S p 4 := by rw [(hi_frm fW (by decide) p p60).1]
      have cfW := CfI.fm ⟨cS, ‹_›, ‹_›, o, ab, ‹_›, ‹_›, ‹_›, ‹_›, ‹_›, ‹_›, mt⟩ fW (by decide)
      have roW := ro.fm fW (by decide)
      have ckW := ck.fm ro fW (by decide)
      refine ⟨_, sp_lookD cfW roW ckW ⟨x0, by rw [w4]; omega⟩, ?_⟩
      rintro A ⟨⟨fA, kA⟩, _⟩
      have cfA := cfW.fm fA (by decide)
      have hA : WrI NL kp AL A := hW.f9 cS fA (by decide) (by decide)
      have ek : (x + Int32.ofInt 1).toInt = x.toInt + 1 := by rw [t_add (by rw [lo_1]; omega), lo_1]
      refine ⟨_, sp_co_L124 cfA kA (fun u e => e) (fun Z xZ hZ => ih Z _ (by omega) (fW.tr ((fA.mo (by decide) (by decide)).tr (xZ.1.mo (by decide) (by decide)))) hZ (by omega)) _ A 0 (by decide) BkX.rf hA (Nat.lt_succ_self _)⟩
  have L39 : ∀ (c : Nat) (U : MS) (x : Int32), 0 ≤ x.toInt → coF S U → WrI NL kp AL U → (24 - x.toInt).toNat < c → w_collect_L39 (fun u => WrI NL kp AL u ∧ coF S u) (fun _ => ¬ kp) c U p x := by
    intro c
    induction c with
    | zero => intro U x _ _ _ h9; exact absurd h9 (Nat.not_lt_zero _)
    | succ c ih =>
      intro U x x0 fU hU hc
      have hi := hi_frm fU (by decide)
      have u3 : qI U p 3 = qI S p 3 := by rw [(hi p p60).1]
      unfold w_collect_L39
      rw [u3]
      refine ⟨fun _ => ⟨_, L81 _ U 0 (by decide) fU hU (Nat.lt_succ_self _)⟩, fun c1 => ?_⟩
      obtain ⟨cS, _, _, o, ab, _, _, _, _, _, fl, _⟩ := cf
      obtain ⟨n, t, n1, t1, hn, ht, _⟩ := fl x.toInt.toNat (by omega)
      obtain ⟨a1, a2, a3, a4, a5⟩ := nm U 0 x.toInt.toNat n fU (by decide) (by omega) n1
      rw [show (5 : Nat) = 5 + 0 from rfl, a2, a5]
      have kU : kpW S U := kpW.f9 fU (by decide)
      refine ⟨by rw [a2] at a1; exact a1, ⟨x0, by rw [a3]; omega⟩, a4, _, _, sp_nm cS hU hn.1 (hn.2.1.mv kU) hn.2.2, ?_, fun u e => e⟩
      rintro r V ⟨hV, xV, _⟩
      have fV : coF S V := frm.tr fU (xV.1.mo (by decide) (by decide))
      obtain ⟨b1, b2, b3, b4, b5⟩ := nm V 1 x.toInt.toNat t fV (by decide) (by omega) t1
      rw [show (6 : Nat) = 5 + 1 from rfl, b2, b5]
      refine ⟨by rw [b2] at b1; exact b1, ⟨x0, by rw [b3]; omega⟩, b4, _, _, sp_nm cS hV ht.1 (ht.2.1.mv (kU.tr xV.kp)) ht.2.2, ?_, fun u e => e⟩
      rintro r2 W ⟨hW, xW, _⟩ a ea
      subst ea
      have ek : (x + Int32.ofInt 1).toInt = x.toInt + 1 := by rw [t_add (by rw [lo_1]; omega), lo_1]
      exact ih W _ (by omega) (frm.tr fV (xW.1.mo (by decide) (by decide))) hW (by omega)
  unfold w_collect
  intro A eA B eB
  have fB : coF S B := frm.tr (show coF S A by rw [eA]; exact frm.pI0 (by decide)) (show coF A B by rw [eB]; exact frm.pI0 (by decide))
  have hB : WrI NL kp AL B := WrI.st (by rw [eB, qI_wI, if_neg (by decide), eA, qI_wI, if_pos ⟨rfl, rfl⟩]; rfl) (by rw [eB, qI_wI, if_pos ⟨rfl, rfl⟩]; decide)
  have kB : kpW S B := kpW.f9 fB (by decide)
  obtain ⟨cS, _, _, o, ab, ⟨r0, r1⟩, ⟨a1, a2⟩, ⟨b1, b2⟩, cd, _, _, _⟩ := cf
  refine ⟨_, _, sp_nm cS hB cd.1 (cd.2.1.mv kB) cd.2.2, ?_, fun u e => e⟩
  rintro r C ⟨hC, xC, _⟩
  have fC : coF S C := frm.tr fB (xC.1.mo (by decide) (by decide))
  have c0 : qR C p 0 = some o := by rw [(hi_frm fC (by decide) p p60).2.2.1]; exact r0
  have oc : qO C p 0 = o := by unfold qO; rw [c0]; rfl
  rw [oc]
  refine ⟨c0, _, _, sp_cls cS hC a1.1 (a1.2.1.mv (kB.tr xC.kp)) a1.2.2 a2, ?_, fun u e => e⟩
  rintro r2 D ⟨hD, xD, _⟩
  have fD : coF S D := frm.tr fC (xD.1.mo (by decide) (by decide))
  have d0 : qR D p 1 = some ab := by rw [(hi_frm fD (by decide) p p60).2.2.1]; exact r1
  have od : qO D p 1 = ab := by unfold qO; rw [d0]; rfl
  rw [od]
  refine ⟨d0, _, _, sp_cls cS hD b1.1 (b1.2.1.mv ((kB.tr xC.kp).tr xD.kp)) b1.2.2 b2, ?_, fun u e => e⟩
  rintro r3 F ⟨hF, xF, _⟩
  exact ⟨_, L39 _ F 0 (by decide) (frm.tr fD (xF.1.mo (by decide) (by decide))) hF (Nat.lt_succ_self _)⟩
end COX
