/-! fields (behind InS.p1, FrU.rv, FvI) -/
theorem gv_178 {U : MS} {x : Int32} (h : (f_op U x).toInt = 178) : f_givesOf U x = qO U (qO U (qO U 0 47) 7) (f_first U x).toInt.toNat ∧ f_takesOf U x = 10000032 := by
  constructor
  · unfold f_givesOf f_givesOf_J18 f_givesOf_J47
    rw [if_neg (by omega), if_neg (by omega), if_neg (by omega), if_pos (by omega), if_neg (by omega), if_neg (by omega), if_neg (by omega), if_neg (by omega), if_neg (by omega), if_neg (by omega), if_neg (by omega), if_neg (by omega), if_neg (by omega), if_neg (by omega), if_neg (by omega), if_neg (by omega), if_neg (by omega), if_pos h]
  · unfold f_takesOf f_takesOf_J18 f_takesOf_J47 f_takesOf_J75 f_takesOf_J93 f_takesOf_J111
    rw [if_neg (by omega), if_neg (by omega), if_neg (by omega), if_pos (by omega), if_neg (by omega), if_pos (by omega), if_neg (by omega), if_pos (by omega), if_neg (by omega), if_pos (by omega), if_neg (by omega), if_neg (by omega), if_neg (by omega), if_neg (by omega), if_neg (by omega), if_neg (by omega), if_neg (by omega), if_neg (by omega), if_neg (by omega), if_neg (by omega), if_neg (by omega), if_neg (by omega), if_neg (by omega), if_neg (by omega), if_neg (by omega), if_neg (by omega), if_neg (by omega), if_neg (by omega), if_neg (by omega), if_neg (by omega), if_neg (by omega), if_neg (by omega), if_neg (by omega), if_neg (by omega), if_neg (by omega), if_neg (by omega), if_neg (by omega)]
theorem gv_179 {U : MS} {x : Int32} (h : (f_op U x).toInt = 179) : f_givesOf U x = 10000032 ∧ f_takesOf U x = qO U (qO U (qO U 0 47) 7) (f_first U x).toInt.toNat := by
  constructor
  · unfold f_givesOf f_givesOf_J18 f_givesOf_J47
    rw [if_neg (by omega), if_neg (by omega), if_neg (by omega), if_pos (by omega), if_neg (by omega), if_neg (by omega), if_neg (by omega), if_neg (by omega), if_neg (by omega), if_neg (by omega), if_neg (by omega), if_neg (by omega), if_neg (by omega), if_neg (by omega), if_neg (by omega), if_neg (by omega), if_neg (by omega), if_neg (by omega), if_neg (by omega), if_neg (by omega), if_neg (by omega)]
  · unfold f_takesOf f_takesOf_J18 f_takesOf_J47 f_takesOf_J75 f_takesOf_J93 f_takesOf_J111
    rw [if_neg (by omega), if_neg (by omega), if_neg (by omega), if_pos (by omega), if_neg (by omega), if_pos (by omega), if_neg (by omega), if_pos (by omega), if_neg (by omega), if_pos (by omega), if_neg (by omega), if_neg (by omega), if_neg (by omega), if_neg (by omega), if_neg (by omega), if_neg (by omega), if_neg (by omega), if_neg (by omega), if_neg (by omega), if_neg (by omega), if_neg (by omega), if_neg (by omega), if_neg (by omega), if_neg (by omega), if_neg (by omega), if_neg (by omega), if_neg (by omega), if_neg (by omega), if_neg (by omega), if_neg (by omega), if_pos h]
/-- a field's letter -/
theorem FlI.fd {S : MS} {f : Nat} {i : Nat} (h : FlI S f) (hi : (i : Int) < (qI S f 3).toInt) : ∃ t : Nat, qR S (f + 3) i = some t ∧ 92 < t ∧ qN S (t + 1) = 1 ∧ ((qI S (t + 1) 0).toInt = 73 ∨ (qI S (t + 1) 0).toInt = 74 ∨ (qI S (t + 1) 0).toInt = 65) ∧ plS S t = (if (qI S (t + 1) 0).toInt = 74 then 2 else 1) := by
  have f92 := h.1.1.1
  obtain ⟨s1, s2, s3, a1, a2, a3, b1, b2, b3, c1, c2, p, p1, g, d1, d2, d3⟩ := h.2.2.2.2.1 i hi
  have n1 := d1.2.2.1
  refine ⟨s3, b3, by omega, n1, ?_, ?_⟩
  · rw [d1.2.2.2 0 (by decide)]; exact d3 0 (by decide)
  · unfold plS
    rw [n1]
    show 0 + (if (qI S (s3 + 1) 0).toInt = 74 then (2 : Int) else 1) = _
    rw [Int.zero_add]
theorem sEq_1 {S : MS} {t T : Nat} {d : Int} (n1 : qN S (t + 1) = 1) (m1 : qN S (T + 1) = 1) (ed : (qI S (T + 1) 0).toInt = d) : ((sEq S t T).toInt = 0 → ¬ (qI S (t + 1) 0).toInt = d) ∧ (¬ (sEq S t T).toInt = 0 → (qI S (t + 1) 0).toInt = d) := by
  refine ⟨fun h e => ?_, fun h => ?_⟩
  · have q : sEqP S t T := ⟨by rw [n1, m1], fun j hj => by
      have j0 : j = 0 := by omega
      subst j0
      exact Int32.toInt_inj.mp (by rw [e, ed])⟩
    unfold sEq at h
    rw [if_pos q] at h
    exact absurd h (by decide)
  · have q := sEq_T h
    rw [q.2 0 (by omega)]
    exact ed
/-- the field that an instruction names -/
theorem InS.fd {S V U : MS} {f s p : Nat} {a : AS} (i : InS S V f U s p a) (ho : (f_op U (xS S)).toInt = 178 ∨ (f_op U (xS S)).toInt = 179) : ∃ t : Nat, ((0 ≤ (f_first U (xS S)).toInt ∧ (f_first U (xS S)).toInt < (qI S f 3).toInt ∧ (f_first U (xS S)).toInt < 24) ∧ qR S (f + 3) (f_first U (xS S)).toInt.toNat = some t ∧ 92 < t) ∧ (qR V 0 80 = some f ∧ qO V 0 80 = f ∧ qR V f 7 = some (f + 3) ∧ qO V f 7 = f + 3 ∧ qN V (f + 3) = 24 ∧ qR V (f + 3) (f_first U (xS S)).toInt.toNat = some t ∧ qO V (f + 3) (f_first U (xS S)).toInt.toNat = t) ∧ (qN S (t + 1) = 1 ∧ ((qI S (t + 1) 0).toInt = 73 ∨ (qI S (t + 1) 0).toInt = 74 ∨ (qI S (t + 1) 0).toInt = 65)) ∧ (qN V (t + 1) = 1 ∧ qI V (t + 1) = qI S (t + 1)) ∧ (qN U (t + 1) = 1 ∧ qI U (t + 1) = qI S (t + 1) ∧ plS U t = (if (qI S (t + 1) 0).toInt = 74 then 2 else 1)) ∧ qO U (qO U (qO U 0 47) 7) (f_first U (xS S)).toInt.toNat = t := by
  have hI := i.1
  have hU := i.2.2.1
  obtain ⟨w1, w2, w3, w4, w5, w6⟩ := hU.own
  obtain ⟨T', ts', N', L', rv⟩ := hU.rv hI.2.1.2.1
  have fl := hI.2.1.2.1
  have f92 := hU.1
  have mr : 0 ≤ (f_first U (xS S)).toInt ∧ (f_first U (xS S)).toInt < (qI S f 3).toInt := rv.2.2.2.2.2.1 ho
  have m24 := fl.2.2.2.1.1.2
  obtain ⟨t, t1, t2, t3, t4, t5⟩ := fl.fd (i := (f_first U (xS S)).toInt.toNat) (by omega)
  have kV := big_frm i.2.1 (by simp)
  have r2 := fl.1.2.2 2 (by decide)
  have q7 : qR S f 7 = some (f + 3) := r2.1
  have n3 : qN S (f + 3) = 24 := r2.2.1
  have V80 : qR V 0 80 = some f := by rw [(i.2.1.2.2.2.2.2 80 (by decide)).2.2]; exact hI.2.1.1.2
  have eo : qO U (qO U (qO U 0 47) 7) (f_first U (xS S)).toInt.toNat = t := by
    rw [w1, w2.1]
    unfold qO
    rw [w3, t1]
    rfl
  obtain ⟨kk, tx, hx, st, hT, h0⟩ := i.t
  have okU : okH U (t + 1) := by
    rcases ho with q | q
    · have z := kk.gv hx tx
      rw [(gv_178 q).1, eo] at z
      exact z.1
    · have z := kk.tk hx tx
      rw [(gv_179 q).2, eo] at z
      exact z.1
  have wt := w6 t okU
  have vt := kV (t + 1) (by omega)
  refine ⟨t, ⟨⟨mr.1, mr.2, by omega⟩, t1, t2⟩, ⟨V80, by unfold qO; rw [V80]; rfl, by rw [(kV f f92).2.2.1]; exact q7, by unfold qO; rw [(kV f f92).2.2.1, q7]; rfl, by rw [(kV _ (by omega)).2.2.2.2]; exact n3, by rw [(kV _ (by omega)).2.2.1]; exact t1, by unfold qO; rw [(kV _ (by omega)).2.2.1, t1]; rfl⟩, ⟨t3, t4⟩, ⟨by rw [vt.2.2.2.2]; exact t3, vt.1⟩, ⟨by rw [wt.2]; exact t3, wt.1, ?_⟩, eo⟩
  have : plS U t = plS S t := by unfold plS; rw [wt.1, wt.2]
  rw [this]
  exact t5
theorem InS.get {S V U : MS} {f s p : Nat} {a : AS} (i : InS S V f U s p a) (ho : (f_op U (xS S)).toInt = 178) : ((qR V 0 80 = some (qO V 0 80)) ∧ ((qR V (qO V 0 80) 7 = some (qO V (qO V 0 80) 7)) ∧ (((0 : Int) ≤ (f_first U (xS S)).toInt ∧ (f_first U (xS S)).toInt < (qN V (qO V (qO V 0 80) 7) : Int)) ∧ ((qR V (qO V (qO V 0 80) 7) (f_first U (xS S)).toInt.toNat = some (qO V (qO V (qO V 0 80) 7) (f_first U (xS S)).toInt.toNat)) ∧ (((sEq V (qO V (qO V (qO V 0 80) 7) (f_first U (xS S)).toInt.toNat) 10000016).toInt = 0 → (((0 : Int) ≤ (f_first U (xS S)).toInt ∧ (f_first U (xS S)).toInt < 24) ∧ ((qR V 0 80 = some (qO V 0 80)) ∧ ((qR V (qO V 0 80) 7 = some (qO V (qO V 0 80) 7)) ∧ (((0 : Int) ≤ (f_first U (xS S)).toInt ∧ (f_first U (xS S)).toInt < (qN V (qO V (qO V 0 80) 7) : Int)) ∧ ((qR V (qO V (qO V 0 80) 7) (f_first U (xS S)).toInt.toNat = some (qO V (qO V (qO V 0 80) 7) (f_first U (xS S)).toInt.toNat)) ∧ (((sEq V (qO V (qO V (qO V 0 80) 7) (f_first U (xS S)).toInt.toNat) 10000022).toInt = 0 → w_plain_J542 (PlQ S f) V 1 (qJ V 37 (f_first U (xS S)).toInt.toNat)) ∧ (¬ (sEq V (qO V (qO V (qO V 0 80) 7) (f_first U (xS S)).toInt.toNat) 10000022).toInt = 0 → w_plain_J542 (PlQ S f) V 2 (qJ V 37 (f_first U (xS S)).toInt.toNat))))))))) ∧ (¬ (sEq V (qO V (qO V (qO V 0 80) 7) (f_first U (xS S)).toInt.toNat) 10000016).toInt = 0 → (((0 : Int) ≤ (f_first U (xS S)).toInt ∧ (f_first U (xS S)).toInt < 24) ∧ (∃ Q222, w_putInt V ((qJ V 37 (f_first U (xS S)).toInt.toNat).toInt32) Q222 ∧ ∀ S223, Q222 S223 → PlQ S f (1 : Int32) S223))))))))  := by
  obtain ⟨b0, b1, b2, b3, b4, L1, b5⟩ := i.v
  obtain ⟨kk, tx, hx, st, hT, h0⟩ := i.t
  obtain ⟨t, ⟨⟨r0, r1, r2⟩, r3, r4⟩, ⟨v1, v2, v3, v4, v5, v6, v7⟩, ⟨t3, t4⟩, ⟨u1, u2⟩, ⟨u3, u4, u5⟩, eo⟩ := i.fd (Or.inl ho)
  obtain ⟨g1, g2⟩ := gv_178 ho
  rw [eo] at g1
  have pl : isPl (f_op U (xS S)).toInt := by unfold isPl; omega
  have nm := pl.f.1
  have tk0 : tkV U (xS S) = 0 := by unfold tkV; rw [if_neg nm, g2]; exact (tx_pl tx).2.2.2.2.2.2.2.2.2.2.2.1
  have gv : gvV U (xS S) = (if (qI S (t + 1) 0).toInt = 74 then 2 else 1) := by unfold gvV; rw [if_neg nm, g1]; exact u5
  have lV := tx_l1 (i.1.2.1.2.2.2.1.fm i.2.1 (by simp))
  have q16 := sEq_1 (d := 73) u1 lV.2.2.2.1.1 lV.2.2.2.1.2
  have q22 := sEq_1 (d := 74) u1 lV.2.2.2.2.2.2.1.1 lV.2.2.2.2.2.2.1.2
  rw [u2] at q16 q22
  have v37 : qJ V 37 = qJ S 37 := (i.2.1.2.2.2.2.1 37 (by decide) (by decide)).2.1
  have tt := hT.2.2
  rw [tk0] at tt
  have P0 : PpP V (tkV U (xS S)) V := by rw [tk0]; exact PpP.rf
  rw [v2, v4, v7]
  refine ⟨v1, v3, ⟨r0, by rw [v5]; omega⟩, v6, fun c1 => ⟨⟨r0, r2⟩, v1, v3, ⟨r0, by rw [v5]; omega⟩, v6, fun c2 => ?_, fun c2 => ?_⟩, fun c1 => ⟨⟨r0, r2⟩, ?_⟩⟩
  · have n3 := q16.1 c1
    have n4 := q22.1 c2
    have c5 : (qI S (t + 1) 0).toInt = 65 := by omega
    rw [if_neg n4] at gv
    unfold w_plain_J542
    obtain ⟨Q, x1, x2⟩ := sp_psh (v := qJ V 37 (f_first U (xS S)).toInt.toNat) (n := 1) b1 P0 (Or.inl li_1) ⟨by omega, by rw [li_1]; omega⟩
    refine ⟨Q, x1, fun u hu => i.p1 pl (by rw [gv]; have z := x2 u hu; rw [li_1] at z; exact z) (by rw [g1]; exact u3) ?_⟩
    rw [g1, u4]
    have fv := i.1.2.2.1.2 _ t (by omega) r3 r4 c5
    rw [← v37] at fv
    exact gv_l.2.2.1 c5 fv (ptT_4 (by decide) fv.1)
  · have c5 := q22.2 c2
    have l2 : (2 : Int32).toInt = 2 := by decide
    rw [if_pos c5] at gv
    unfold w_plain_J542
    obtain ⟨Q, x1, x2⟩ := sp_psh (v := qJ V 37 (f_first U (xS S)).toInt.toNat) (n := 2) b1 P0 (Or.inr l2) ⟨by omega, by rw [l2]; omega⟩
    refine ⟨Q, x1, fun u hu => i.p1 pl (by rw [gv]; have z := x2 u hu; rw [l2] at z; exact z) (by rw [g1]; exact u3) ?_⟩
    rw [g1, u4]
    exact gv_l.2.1 c5 (ptT_2 l2)
  · have c5 := q16.2 c1
    rw [if_neg (by omega)] at gv
    obtain ⟨Q, x1, x2⟩ := sp_psi (v := (qJ V 37 (f_first U (xS S)).toInt.toNat).toInt32) b1 P0 ⟨by omega, by omega⟩
    refine ⟨Q, x1, fun u hu => i.p1 pl (by rw [gv]; exact x2 u hu) (by rw [g1]; exact u3) ?_⟩
    rw [g1, u4]
    exact gv_l.1 c5 (i64_int _) nb1v
/-- values are taken, and something beside the frames may change -/
theorem InS.ps {S V U u : MS} {f s p : Nat} {a : AS} (i : InS S V f U s p a) (ho : isPl (f_op U (xS S)).toInt) (k : frm [37, 38, 44] [] V u) (eT : fT u = fT V - tkV U (xS S)) (o44 : ∀ j : Nat, j ≠ (fN V).toNat → qI u 44 j = qI V 44 j) (hF : ∀ w, frm [43] [] u w → FvI w f) (g0 : qN U (f_givesOf U (xS S) + 1) = 0) : PlQ S f 1 u := by
  obtain ⟨b0, b1, b2, b3, b4, L1, b5⟩ := i.v
  obtain ⟨nm, no, gg⟩ := ho.f
  have L2 : LcP V u := ⟨k.mo (by decide) (by decide), fun j hj => ⟨by rw [(k.2.2.2.2.1 43 (by decide) (by decide)).1], o44 j hj⟩, fun j hj => ⟨by rw [fW k (h := 45) (by decide) (by decide) (by decide)], by rw [fW k (h := 46) (by decide) (by decide) (by decide)]⟩⟩
  refine PlQ.one (L2.b b1) (fun w G => ?_)
  have L := (L1.tr L2).tr (LcP.gt G)
  have eu : fN u = fN S := by rw [L2.n.1, b2]
  have fr : frm [37, 38, 43, 44] [47, 48, 49, 50, 51, 52, 53, 54] S w := (i.2.1.mo (by decide) (by decide)).tr ((k.mo (by decide) (by decide)).tr (G.1.mo (by decide) (by decide)))
  have e85 : qI w 0 85 = qI S 0 85 := (fr.2.2.2.2.2 85 (by decide)).1
  have hA : ArI w := i.1.2.2.1.1.eq e85 (fr.2.2.2.2.2 86 (by decide)).1 (fr.2.2.2.2.1 39 (by decide) (by decide)).1 (fr.2.2.2.2.1 40 (by decide) (by decide)).1
  have gv0 : gvV U (xS S) = 0 := by
    unfold gvV plS
    rw [if_neg nm, g0]
    rfl
  have e43 : qI w 43 (fN S).toNat = xS S + 1 := by rw [G.2, eu]; unfold upd; rw [if_pos rfl]
  have e44 : qI w 44 = qI u 44 := (G.1.2.2.2.2.1 44 (by decide) (by decide)).1
  have e45 : qW w 45 = qW S 45 := fW fr (h := 45) (by decide) (by decide) (by decide)
  have e46 : qW w 46 = qW S 46 := fW fr (h := 46) (by decide) (by decide) (by decide)
  have nx := i.nx gg
  refine i.go L hA (hF w G.1) (by rw [e85]; exact Int.le_refl _) nm (by rw [e43]; exact nx) ?_ (fun k _ _ _ => by unfold slF; rw [e45]) (fun q => absurd (Or.inl q) no.1) (fun q => absurd (Or.inr (Or.inl q)) no.1) (fun q => absurd q no.2) (fun q => absurd (Or.inr (Or.inr q)) no.1) (fun k hk => by unfold plF; rw [e46]) (fun j hj => by omega)
  rw [e44]
  rw [b4] at eT
  unfold fT at eT
  rw [eu] at eT
  rw [eT, gv0]
  omega
theorem InS.put {S V U : MS} {f s p : Nat} {a : AS} (i : InS S V f U s p a) (ho : (f_op U (xS S)).toInt = 179) : ((qR V 0 80 = some (qO V 0 80)) ∧ ((qR V (qO V 0 80) 7 = some (qO V (qO V 0 80) 7)) ∧ (((0 : Int) ≤ (f_first U (xS S)).toInt ∧ (f_first U (xS S)).toInt < (qN V (qO V (qO V 0 80) 7) : Int)) ∧ ((qR V (qO V (qO V 0 80) 7) (f_first U (xS S)).toInt.toNat = some (qO V (qO V (qO V 0 80) 7) (f_first U (xS S)).toInt.toNat)) ∧ (((sEq V (qO V (qO V (qO V 0 80) 7) (f_first U (xS S)).toInt.toNat) 10000022).toInt = 0 → w_plain_J576 (PlQ S f) V 1 (f_first U (xS S))) ∧ (¬ (sEq V (qO V (qO V (qO V 0 80) 7) (f_first U (xS S)).toInt.toNat) 10000022).toInt = 0 → w_plain_J576 (PlQ S f) V 2 (f_first U (xS S)))))))) := by
  obtain ⟨b0, b1, b2, b3, b4, L1, b5⟩ := i.v
  obtain ⟨kk, tx, hx, st, hT, h0⟩ := i.t
  obtain ⟨t, ⟨⟨r0, r1, r2⟩, r3, r4⟩, ⟨v1, v2, v3, v4, v5, v6, v7⟩, ⟨t3, t4⟩, ⟨u1, u2⟩, ⟨u3, u4, u5⟩, eo⟩ := i.fd (Or.inr ho)
  obtain ⟨g1, g2⟩ := gv_179 ho
  rw [eo] at g2
  have f92 := i.1.2.1.1.1
  have pl : isPl (f_op U (xS S)).toInt := by unfold isPl; omega
  have nm := pl.f.1
  have g0 : qN U (f_givesOf U (xS S) + 1) = 0 := by rw [g1]; exact (tx_l1 tx).2.2.2.2.2.2.2.2.2.2.2.1
  have tk : tkV U (xS S) = (if (qI S (t + 1) 0).toInt = 74 then 2 else 1) := by unfold tkV; rw [if_neg nm, g2]; exact u5
  have lV := tx_l1 (i.1.2.1.2.2.2.1.fm i.2.1 (by simp))
  have q22 := sEq_1 (d := 74) u1 lV.2.2.2.2.2.2.1.1 lV.2.2.2.2.2.2.1.2
  rw [u2] at q22
  have v46 : qJ V 46 = qJ S 46 := (i.2.1.2.2.2.2.1 46 (by decide) (by decide)).2.1
  have v37 : qJ V 37 = qJ S 37 := (i.2.1.2.2.2.2.1 37 (by decide) (by decide)).2.1
  have wd := (i.wd nm).2 0
  rw [g2, u3, u4] at wd
  have z0 : plc (qI S (t + 1)) 0 = 0 := rfl
  rw [z0, Int.add_zero] at wd
  have fin : ∀ n : Int32, (n.toInt = 1 ∨ n.toInt = 2) → n.toInt = tkV U (xS S) → w_plain_J576 (PlQ S f) V n (f_first U (xS S)) := fun n hn en => by
    unfold w_plain_J576
    refine ⟨_, sp_pop b1 PpP.rf (by decide) ⟨by omega, by rw [b4]; omega⟩ (by rw [b4]; exact hT.2.1), ?_⟩
    rintro r A ⟨pA, er⟩
    refine ⟨⟨r0, r2⟩, fun D eD => ?_⟩
    have fD : frm [37] [] A D := by rw [eD]; exact frm.pJ (by decide)
    have k : frm [37, 38, 44] [] V D := (pA.1.mo (by decide) (by decide)).tr (fD.mo (by decide) (by decide))
    have nA := (b1.mv pA.1).2
    have nD := ((b1.mv pA.1).1.mv fD).2
    have D44 : qI D 44 = qI A 44 := (fD.2.2.2.2.1 44 (by decide) (by decide)).1
    refine i.ps pl k ?_ (fun j hj => by rw [D44]; exact pA.2.2 j hj) (fun w fw => ?_) g0
    · have z := pA.2.1
      unfold fT at z ⊢
      rw [nD, D44, z, en]
      omega
    · intro i2 s2 hi2 hs2 h92 hc
      have fV : frm [37, 38, 43, 44] [47, 48, 49, 50, 51, 52, 53, 54] S w := (i.2.1.mo (by decide) (by decide)).tr ((k.mo (by decide) (by decide)).tr (fw.mo (by decide) (by decide)))
      have kb := big_frm fV (by decide)
      have e85 : qI w 0 85 = qI S 0 85 := (fV.2.2.2.2.2 85 (by decide)).1
      have w37 : ∀ j : Nat, qJ w 37 j = if j = (f_first U (xS S)).toInt.toNat then r else qJ S 37 j := fun j => by
        rw [(fw.2.2.2.2.1 37 (by decide) (by decide)).2.1, eD, qJ_wJ]
        by_cases c : j = (f_first U (xS S)).toInt.toNat
        · rw [if_pos ⟨rfl, c⟩, if_pos c]
        · rw [if_neg (fun q => c q.2), if_neg c, (pA.1.2.2.2.2.1 37 (by decide) (by decide)).2.1, v37]
      rw [(kb f f92).1] at hi2
      rw [(kb (f + 3) (by omega)).2.2.1] at hs2
      rw [(kb (s2 + 1) (by omega)).1] at hc
      rw [w37, e85]
      by_cases c : i2 = (f_first U (xS S)).toInt.toNat
      · rw [if_pos c]
        rw [c, r3] at hs2
        have e2 : t = s2 := by injection hs2
        subst e2
        have w := (wd (by decide)).1 hc
        have ee : r = (plF S (fN S).toNat ((aT a).toInt - tkV U (xS S)).toNat).1 := by
          rw [er, b2, b4, v46, en]
          unfold plF qW
          rw [show (24 * fN S + (aT a).toInt - 0 - tkV U (xS S)).toNat = 24 * (fN S).toNat + ((aT a).toInt - tkV U (xS S)).toNat by omega]
        rw [ee]
        exact w
      · rw [if_neg c]
        exact i.1.2.2.1.2 i2 s2 hi2 hs2 h92 hc
  rw [v2, v4, v7]
  refine ⟨v1, v3, ⟨r0, by rw [v5]; omega⟩, v6, fun c => fin 1 (Or.inl li_1) ?_, fun c => fin 2 (Or.inr (by decide)) ?_⟩
  · rw [tk, if_neg (q22.1 c), li_1]
  · rw [tk, if_pos (q22.2 c)]; decide
/-! arrays (behind InS.ps, InS.pI, InS.th, ArI) -/
theorem InS.ar {S V U A : MS} {f s p : Nat} {a : AS} (i : InS S V f U s p a) (k : frm [44] [] V A) : ArI A ∧ qI A 0 85 = qI S 0 85 ∧ qI A 0 86 = qI S 0 86 ∧ qI A 39 = qI S 39 ∧ qI A 40 = qI S 40 := by
  have e1 : qI A 0 85 = qI S 0 85 := by rw [(k.2.2.2.2.2 85 (by decide)).1, (i.2.1.2.2.2.2.2 85 (by decide)).1]
  have e2 : qI A 0 86 = qI S 0 86 := by rw [(k.2.2.2.2.2 86 (by decide)).1, (i.2.1.2.2.2.2.2 86 (by decide)).1]
  have e3 : qI A 39 = qI S 39 := by rw [(k.2.2.2.2.1 39 (by decide) (by decide)).1, (i.2.1.2.2.2.2.1 39 (by decide) (by decide)).1]
  have e4 : qI A 40 = qI S 40 := by rw [(k.2.2.2.2.1 40 (by decide) (by decide)).1, (i.2.1.2.2.2.2.1 40 (by decide) (by decide)).1]
  exact ⟨i.1.2.2.1.1.eq e1 e2 e3 e4, e1, e2, e3, e4⟩
theorem InS.gi {S V U A : MS} {f s p : Nat} {a : AS} {d : Int} {Q : Int32 → MS → Prop} (i : InS S V f U s p a) (pA : PpP V d A) (d0 : 0 ≤ d) (hd : d + 1 ≤ (aT a).toInt) (hQ : ∀ (r : Int32) (B : MS), PpP V (d + 1) B → r = (plF S (fN S).toNat ((aT a).toInt - d - 1).toNat).1.toInt32 → Q r B) : ∃ Q1, w_gotInt A Q1 ∧ ∀ r u, Q1 r u → Q r u := by
  obtain ⟨b0, b1, b2, b3, b4, L1, b5⟩ := i.v
  obtain ⟨kk, t, hx, st, hT, h0⟩ := i.t
  have v46 : qJ V 46 = qJ S 46 := (i.2.1.2.2.2.2.1 46 (by decide) (by decide)).2.1
  refine ⟨Q, ?_, fun r u hu => hu⟩
  unfold w_gotInt
  refine ⟨_, sp_pop (n := 1) b1 pA d0 ⟨by decide, by rw [li_1, b4]; exact hd⟩ (by rw [b4]; exact hT.2.1), ?_⟩
  rintro r B ⟨pB, er⟩
  rw [li_1] at pB er
  refine hQ _ B pB ?_
  rw [er, b2, b4, v46]
  unfold plF qW
  rw [show (24 * fN S + (aT a).toInt - d - 1).toNat = 24 * (fN S).toNat + ((aT a).toInt - d - 1).toNat by omega]
theorem InS.j81 {S V U A : MS} {f s p : Nat} {a : AS} {k v : Int32} (i : InS S V f U s p a) (ho : (f_op U (xS S)).toInt = 46 ∨ (f_op U (xS S)).toInt = 79 ∨ (f_op U (xS S)).toInt = 190) (pA : PpP V (tkV U (xS S) - 1) A) : w_onArrays_J81 (PlQ S f) A k (f_op U (xS S)) v := by
  obtain ⟨b0, b1, b2, b3, b4, L1, b5⟩ := i.v
  obtain ⟨kk, t, hx, st, hT, h0⟩ := i.t
  have l1 := tx_l1 t
  have pl : isPl (f_op U (xS S)).toInt := by unfold isPl; omega
  have nm := pl.f.1
  have tk : (1 ≤ tkV U (xS S) ∧ tkV U (xS S) ≤ 3) ∧ 1 ≤ qN U (f_takesOf U (xS S) + 1) ∧ (qI U (f_takesOf U (xS S) + 1) 0).toInt = 65 := by
    rcases ho with q | q | q
    · have z := tg_46 q t
      rw [z.2.1, z.1.1]
      have y : qN U (10000018 + 1) = 2 ∧ (qI U (10000018 + 1) 0).toInt = 65 ∧ (qI U (10000018 + 1) 1).toInt = 73 := l1.2.2.2.2.1
      exact ⟨by decide, by rw [y.1]; decide, y.2.1⟩
    · have z := tg_79 q t
      rw [z.2.1, z.1.1]
      have y : qN U (10000020 + 1) = 3 ∧ (qI U (10000020 + 1) 0).toInt = 65 ∧ (qI U (10000020 + 1) 1).toInt = 73 ∧ (qI U (10000020 + 1) 2).toInt = 73 := l1.2.2.2.2.2.1
      exact ⟨by decide, by rw [y.1]; decide, y.2.1⟩
    · have z := tg_190 q t
      rw [z.2.1, z.1.1]
      have y : qN U (10000028 + 1) = 1 ∧ (qI U (10000028 + 1) 0).toInt = 65 := l1.2.2.2.2.2.2.2.2.2.1
      exact ⟨by decide, by rw [y.1]; decide, y.2⟩
  have wd := ((i.wd nm).2 0 (by omega)).1 tk.2.2
  have z0 : plc (qI U (f_takesOf U (xS S) + 1)) 0 = 0 := rfl
  rw [z0, Int.add_zero] at wd
  have n400 := i.1.2.2.1.1.1
  unfold w_onArrays_J81
  refine i.gi pA (by omega) (by omega) (fun r B pB er => ?_)
  rw [show tkV U (xS S) - 1 + 1 = tkV U (xS S) by omega] at pB
  rw [show (aT a).toInt - (tkV U (xS S) - 1) - 1 = (aT a).toInt - tkV U (xS S) by omega] at er
  have er2 : r.toInt = (plF S (fN S).toNat ((aT a).toInt - tkV U (xS S)).toNat).1.toInt := by rw [er]; exact tl_to (by omega)
  obtain ⟨hA, e85, e86, e39, e40⟩ := i.ar pB.1
  have rr : 0 ≤ r.toInt ∧ r.toInt < 401 := by omega
  have j135 : w_onArrays_J135 (PlQ S f) B := by
    unfold w_onArrays_J135
    obtain ⟨Q, x1, x2⟩ := i.th (e := 2) (by decide) pB
    exact ⟨Q, x1, fun w hw => PlQ.no (x2 w hw)⟩
  refine ⟨fun c => ?_, fun c => ⟨fun c1 => ⟨rr, ?_⟩, fun c1 => ⟨fun _ => j135, fun c2 => ⟨rr, fun c3 => ?_, fun _ => j135⟩⟩⟩⟩
  · obtain ⟨Q, x1, x2⟩ := i.th (e := 1) (by decide) pB
    exact ⟨Q, x1, fun w hw => PlQ.no (x2 w hw)⟩
  · have z := tg_190 c1 t
    have g1 := z.2.2
    obtain ⟨Q, x1, x2⟩ := sp_psi (v := qI B 40 r.toInt.toNat) b1 pB ⟨by rw [b4]; omega, by rw [b4]; omega⟩
    exact ⟨Q, x1, fun u hu => i.pI (v := ((qI B 40 r.toInt.toNat).toInt64, nb 1)) pl (by rw [g1]; exact x2 u hu) (Or.inl ⟨z.1.2, i64_int _, nb1v⟩)⟩
  · have ai := hA.2.2 r.toInt.toNat (by omega) (by rw [e85]; omega)
    have h86 := hA.2.1
    have ix : (qI B 39 r.toInt.toNat + k).toInt = (qI B 39 r.toInt.toNat).toInt + k.toInt := t_add (by omega)
    rw [ix]
    refine ⟨fun c4 => ⟨rr, ⟨by omega, by omega⟩, fun D eD => ?_⟩, fun c4 => ⟨rr, ⟨by omega, by omega⟩, ?_⟩⟩
    · have z := tg_79 c4 t
      have fD : frm [38] [] B D := by rw [eD]; exact frm.pI (by decide)
      have kD : frm [37, 38, 44] [] V D := (pB.1.mo (by decide) (by decide)).tr (fD.mo (by decide) (by decide))
      have nD := ((b1.mv pB.1).1.mv fD).2
      have D44 : qI D 44 = qI B 44 := (fD.2.2.2.2.1 44 (by decide) (by decide)).1
      refine i.ps pl kD ?_ (fun j hj => by rw [D44]; exact pB.2.2 j hj) (fun w fw => ?_) (by rw [z.1.2]; exact l1.2.2.2.2.2.2.2.2.2.2.2.1)
      · have y := pB.2.1
        unfold fT at y ⊢
        rw [nD, D44, y]
      · have fV : frm [38, 43, 44] [47, 48, 49, 50, 51, 52, 53, 54] S w := (i.2.1.mo (by decide) (by decide)).tr ((pB.1.mo (by decide) (by decide)).tr ((fD.mo (by decide) (by decide)).tr (fw.mo (by decide) (by decide))))
        have w85 : qI w 0 85 = qI S 0 85 := (fV.2.2.2.2.2 85 (by decide)).1
        exact i.1.2.2.1.2.eq i.1.2.1.1.1 (big_frm fV (by decide)) (by rw [w85]; exact Int.le_refl _) (fV.2.2.2.2.1 37 (by decide) (by decide)).2.1
    · have c5 : (f_op U (xS S)).toInt = 46 := by omega
      have z := tg_46 c5 t
      have g1 := z.2.2
      obtain ⟨Q, x1, x2⟩ := sp_psi (v := qI B 38 ((qI B 39 r.toInt.toNat).toInt + k.toInt).toNat) b1 pB ⟨by rw [b4]; omega, by rw [b4]; omega⟩
      exact ⟨Q, x1, fun u hu => i.pI (v := ((qI B 38 ((qI B 39 r.toInt.toNat).toInt + k.toInt).toNat).toInt64, nb 1)) pl (by rw [g1]; exact x2 u hu) (Or.inl ⟨z.1.2, i64_int _, nb1v⟩)⟩
theorem InS.made {S V U A : MS} {f s p : Nat} {a : AS} {n : Int32} (i : InS S V f U s p a) (ho : (f_op U (xS S)).toInt = 188) (pA : PpP V 1 A) : w_made A n (PlQ S f) := by
  obtain ⟨b0, b1, b2, b3, b4, L1, b5⟩ := i.v
  obtain ⟨kk, t, hx, st, hT, h0⟩ := i.t
  have l1 := tx_l1 t
  have pl : isPl (f_op U (xS S)).toInt := by unfold isPl; omega
  obtain ⟨nm, no, gg⟩ := pl.f
  have z := tg_188 ho t
  obtain ⟨hA, e85, e86, e39, e40⟩ := i.ar pA.1
  have f92 := i.1.2.1.1.1
  have j36 : w_made_J36 (PlQ S f) A := by
    unfold w_made_J36
    intro D eD
    have fr : frm [43, 44] [47, 48, 49, 50, 51, 52, 53, 54, 98] S D := (i.2.1.mo (by decide) (by decide)).tr ((pA.1.mo (by decide) (by decide)).tr (by rw [eD]; exact frm.pI0 (by decide)))
    have d85 : qI D 0 85 = qI S 0 85 := (fr.2.2.2.2.2 85 (by decide)).1
    refine PlQ.no ⟨⟨i.1.2.1.fm fr (by decide) (by decide), i.1.2.2.1.1.eq d85 (fr.2.2.2.2.2 86 (by decide)).1 (fr.2.2.2.2.1 39 (by decide) (by decide)).1 (fr.2.2.2.2.1 40 (by decide) (by decide)).1, i.1.2.2.1.2.eq f92 (big_frm fr (by decide)) (by rw [d85]; exact Int.le_refl _) (fr.2.2.2.2.1 37 (by decide) (by decide)).2.1⟩, Or.inl ?_⟩
    have : qI D 0 98 = 4 := by rw [eD, qI_wI, if_pos ⟨rfl, rfl⟩]
    rw [this]
    decide
  unfold w_made
  refine ⟨fun c => ⟨fun _ => j36, fun c1 => ⟨fun _ => j36, fun c2 B eB => ?_⟩⟩, fun c => ?_⟩
  · have l20 : (20000 : Int64).toInt = 20000 := by decide
    have s86 : ((qI A 0 86).toInt64 + n.toInt64).toInt = (qI A 0 86).toInt + n.toInt := by
      have := hA.2.1
      have h2 := n.toInt_lt
      rw [tl_add (by rw [tl_of, tl_of]; omega), tl_of, tl_of]
    have le : (qI A 0 86).toInt + n.toInt ≤ 20000 := by
      have y := c_cmp (x := (qI A 0 86).toInt64 + n.toInt64) (y := (20000 : Int64))
      rw [s86, l20] at y
      omega
    have h85 := hA.1
    have h86 := hA.2.1
    have q85 : (qI A 0 85 + (1 : Int32)).toInt = (qI A 0 85).toInt + 1 := by rw [t_add (by rw [li_1]; omega), li_1]
    have B85 : qI B 0 85 = qI A 0 85 + 1 := by rw [eB, qI_wI, if_pos ⟨rfl, rfl⟩]
    have B86 : qI B 0 86 = qI A 0 86 := by rw [eB, qI_wI, if_neg (by decide)]
    rw [B85, q85]
    refine ⟨⟨by omega, by omega⟩, fun C eC => ?_⟩
    have C85 : qI C 0 85 = qI A 0 85 + 1 := by rw [eC, rdH (by decide), B85]
    have C86 : qI C 0 86 = qI A 0 86 := by rw [eC, rdH (by decide), B86]
    rw [C85, q85]
    refine ⟨⟨by omega, by omega⟩, fun D eD E eE => ?_⟩
    have D86 : qI D 0 86 = qI A 0 86 := by rw [eD, rdH (by decide), C86]
    have E85 : qI E 0 85 = qI A 0 85 + 1 := by rw [eE, qI_wI, if_neg (by decide), eD, rdH (by decide), C85]
    have E86 : (qI E 0 86).toInt = (qI A 0 86).toInt + n.toInt := by rw [eE, qI_wI, if_pos ⟨rfl, rfl⟩, D86, t_add (by omega)]
    have fE : frm [39, 40] [85, 86] A E := (show frm [39, 40] [85, 86] A B by rw [eB]; exact frm.pI0 (by decide)).tr ((show frm [39, 40] [85, 86] B C by rw [eC]; exact frm.pI (by decide)).tr ((show frm [39, 40] [85, 86] C D by rw [eD]; exact frm.pI (by decide)).tr (by rw [eE]; exact frm.pI0 (by decide))))
    have E39 : ∀ j : Nat, qI E 39 j = if j = ((qI A 0 85).toInt + 1).toNat then qI A 0 86 else qI A 39 j := fun j => by
      rw [eE, rdH (by decide), eD, rdH (by decide), eC, qI_wI, B86]
      by_cases y : j = ((qI A 0 85).toInt + 1).toNat
      · rw [if_pos ⟨rfl, y⟩, if_pos y]
      · rw [if_neg (fun q => y q.2), if_neg y, eB, rdH (by decide)]
    have E40 : ∀ j : Nat, qI E 40 j = if j = ((qI A 0 85).toInt + 1).toNat then n else qI A 40 j := fun j => by
      rw [eE, rdH (by decide), eD, qI_wI]
      by_cases y : j = ((qI A 0 85).toInt + 1).toNat
      · rw [if_pos ⟨rfl, y⟩, if_pos y]
      · rw [if_neg (fun q => y q.2), if_neg y, eC, rdH (by decide), eB, rdH (by decide)]
    have aE : ArI E := by
      refine ⟨by rw [E85, q85]; omega, by omega, fun k k0 k1 => ?_⟩
      rw [E39, E40]
      rw [E85, q85] at k1
      by_cases y : k = ((qI A 0 85).toInt + 1).toNat
      · rw [if_pos y, if_pos y]; omega
      · rw [if_neg y, if_neg y]
        have := hA.2.2 k k0 (by omega)
        omega
    have nA := b1.mv pA.1
    have E97 : qI E 0 97 = qI A 0 97 := (fE.2.2.2.2.2 97 (by decide)).1
    have bE : FrB E := by unfold FrB; rw [E97]; exact nA.1
    have nE : fN E = fN S := by
      have : fN E = fN A := by unfold fN; rw [E97]
      rw [this, nA.2, b2]
    have A44 : (qI A 44 (fN S).toNat).toInt = (aT a).toInt - 1 := by
      have y := pA.2.1
      unfold fT at y
      rw [nA.2, b2] at y
      rw [y]
      unfold fT at b4
      rw [b2] at b4
      rw [b4]
    have E44 : qI E 44 = qI A 44 := (fE.2.2.2.2.1 44 (by decide) (by decide)).1
    have tE : fT E = (aT a).toInt - 1 := by unfold fT; rw [nE, E44]; exact A44
    have t1 : 1 ≤ (aT a).toInt := by have := hT.1; rw [z.2.1] at this; exact this
    have h24 := hT.2.1
    refine ⟨_, sp_putV bE (Or.inl li_1) ⟨by omega, by rw [li_1]; omega⟩, fun u hu => ?_⟩
    obtain ⟨p1, p2, p3, p4⟩ := hu
    rw [nE] at p2 p3
    rw [tE] at p2
    have bu : FrB u := (bE.mv p1).1
    have nu : fN u = fN S := by rw [(bE.mv p1).2, nE]
    refine PlQ.one bu (fun w G => ?_)
    have fr : frm LcW LcJ S w := (i.2.1.mo (by decide) (by decide)).tr ((pA.1.mo (by decide) (by decide)).tr ((fE.mo (by decide) (by decide)).tr ((p1.mo (by decide) (by decide)).tr (G.1.mo (by decide) (by decide)))))
    have w85 : qI w 0 85 = qI E 0 85 := by rw [(G.1.2.2.2.2.2 85 (by decide)).1, (p1.2.2.2.2.2 85 (by decide)).1]
    have i85 : (qI w 0 85).toInt = (qI S 0 85).toInt + 1 := by rw [w85, E85, q85, e85]
    have w44 : qI w 44 = qI u 44 := (G.1.2.2.2.2.1 44 (by decide) (by decide)).1
    have w45 : qW w 45 = qW S 45 := by rw [fW G.1 (h := 45) (by decide) (by decide) (by decide), fW p1 (h := 45) (by decide) (by decide) (by decide), fW fE (h := 45) (by decide) (by decide) (by decide), fW pA.1 (h := 45) (by decide) (by decide) (by decide), fW i.2.1 (h := 45) (by decide) (by decide) (by decide)]
    have w46 : qW w 46 = qW u 46 := fW G.1 (h := 46) (by decide) (by decide) (by decide)
    have E46 : qW E 46 = qW S 46 := by rw [fW fE (h := 46) (by decide) (by decide) (by decide), fW pA.1 (h := 46) (by decide) (by decide) (by decide), fW i.2.1 (h := 46) (by decide) (by decide) (by decide)]
    have w43 : qI w 43 (fN S).toNat = xS S + 1 := by rw [G.2, nu]; unfold upd; rw [if_pos rfl]
    have u43 : qI u 43 = qI S 43 := by rw [(p1.2.2.2.2.1 43 (by decide) (by decide)).1, (fE.2.2.2.2.1 43 (by decide) (by decide)).1, (pA.1.2.2.2.2.1 43 (by decide) (by decide)).1, (i.2.1.2.2.2.2.1 43 (by decide) (by decide)).1]
    have L : LcP S w := by
      refine ⟨fr, fun j hj => ⟨?_, ?_⟩, fun j hj => ⟨by rw [w45], ?_⟩⟩
      · rw [G.2, nu]; unfold upd; rw [if_neg hj, u43]
      · rw [w44, p3]; unfold upd; rw [if_neg hj, E44, pA.2.2 j (by rw [b2]; exact hj), (i.2.1.2.2.2.2.1 44 (by decide) (by decide)).1]
      · rw [w46, p2, if_neg (by omega), if_neg (fun q => absurd q.1 (by decide)), E46]
    have aw : ArI w := aE.eq w85 (by rw [(G.1.2.2.2.2.2 86 (by decide)).1, (p1.2.2.2.2.2 86 (by decide)).1]) (by rw [(G.1.2.2.2.2.1 39 (by decide) (by decide)).1, (p1.2.2.2.2.1 39 (by decide) (by decide)).1]) (by rw [(G.1.2.2.2.2.1 40 (by decide) (by decide)).1, (p1.2.2.2.2.1 40 (by decide) (by decide)).1])
    have vw : FvI w f := i.1.2.2.1.2.eq f92 (big_frm fr LcW92) (by omega) (by rw [(G.1.2.2.2.2.1 37 (by decide) (by decide)).2.1, (p1.2.2.2.2.1 37 (by decide) (by decide)).2.1, (fE.2.2.2.2.1 37 (by decide) (by decide)).2.1, (pA.1.2.2.2.2.1 37 (by decide) (by decide)).2.1, (i.2.1.2.2.2.2.1 37 (by decide) (by decide)).2.1])
    have nx := i.nx gg
    have tkv := z.2.1
    have gvv := z.2.2
    have pos : 24 * (fN S).toNat + ((aT a).toInt - 1).toNat = (24 * fN S + ((aT a).toInt - 1)).toNat := by omega
    refine i.go L aw vw (by omega) nm (by rw [w43]; exact nx) ?_ (fun k _ _ _ => by unfold slF; rw [w45]) (fun q => absurd (Or.inl q) no.1) (fun q => absurd (Or.inr (Or.inl q)) no.1) (fun q => absurd q no.2) (fun q => absurd (Or.inr (Or.inr q)) no.1) (fun k hk => ?_) (fun j hj => ?_)
    · rw [w44, tkv, gvv]
      unfold fT at p4
      rw [nu] at p4
      rw [p4, nE]
      have : (qI E 44 (fN S).toNat).toInt = (aT a).toInt - 1 := by rw [E44]; exact A44
      rw [this, li_1]
    · unfold plF
      rw [w46, p2, if_neg (by omega), if_neg (fun q => absurd q.1 (by decide)), E46]
    · have ja : qN U (10000028 + 1) = 1 ∧ (qI U (10000028 + 1) 0).toInt = 65 := l1.2.2.2.2.2.2.2.2.2.1
      rw [z.1.2] at hj ⊢
      have j0 : j = 0 := by omega
      subst j0
      have z0 : plc (qI U (10000028 + 1)) 0 = 0 := rfl
      have e : plF w (fN S).toNat ((aT a).toInt - tkV U (xS S) + plc (qI U (10000028 + 1)) 0).toNat = ((qI E 0 85).toInt64, ptT (qI E 0 85).toInt64 1) := by
        rw [z0, tkv, Int.add_zero]
        unfold plF
        rw [w46, p2, if_pos pos]
      have y := aE.1.1
      refine ⟨?_, fun q => absurd q (by have := ja.2; omega)⟩
      rw [e]
      refine gv_l.2.2.1 ja.2 ?_ (ptT_4 (by decide) (by rw [tl_of]; exact y))
      show 0 ≤ (qI E 0 85).toInt64.toInt ∧ (qI E 0 85).toInt64.toInt ≤ (qI w 0 85).toInt
      rw [tl_of, w85]
      omega
  · obtain ⟨Q, x1, x2⟩ := i.th (e := 3) (by decide) pA
    exact ⟨Q, x1, fun w hw => PlQ.no (x2 w hw)⟩
theorem thr_s {r w : Int64} (h : -2147483648 ≤ r.toInt ∧ r.toInt ≤ 0) (hw : w = (-1 : Int64) - r) : w.toInt = -1 - r.toInt := by
  have m1 : (-1 : Int64).toInt = -1 := by decide
  rw [hw, Int64.toInt_sub, m1]
  clear m1 hw
  apply Int.bmod_eq_of_le <;> omega
theorem thr_e {r : Int64} (h : -2147483648 ≤ r.toInt ∧ r.toInt ≤ 0) (nz : ¬ (lg_cmp r 0).toInt = 0) : 0 ≤ (((-1 : Int64) - r).toInt32).toInt := by
  have l0 : (0 : Int64).toInt = 0 := by decide
  have c := c_cmp (x := r) (y := (0 : Int64))
  rw [l0] at c
  clear l0
  have r1 : r.toInt ≤ -1 := by omega
  clear c nz
  obtain ⟨w, hw⟩ : ∃ w : Int64, w = (-1 : Int64) - r := ⟨_, rfl⟩
  have es := thr_s h hw
  rw [← hw]
  clear hw
  rw [tl_to (by omega)]
  omega
theorem InS.onA {S V U : MS} {f s p : Nat} {a : AS} (i : InS S V f U s p a) (ho : (f_op U (xS S)).toInt = 46 ∨ (f_op U (xS S)).toInt = 79 ∨ (f_op U (xS S)).toInt = 188 ∨ (f_op U (xS S)).toInt = 190 ∨ (f_op U (xS S)).toInt = 191) : w_onArrays V (f_op U (xS S)) (PlQ S f) := by
  obtain ⟨b0, b1, b2, b3, b4, L1, b5⟩ := i.v
  obtain ⟨kk, t, hx, st, hT, h0⟩ := i.t
  unfold w_onArrays
  have j65 : ∀ (A : MS) (v : Int32) (d : Int), PpP V d A → 0 ≤ d → d + (if (f_op U (xS S)).toInt = 190 then 1 else 2) = tkV U (xS S) → ((f_op U (xS S)).toInt = 46 ∨ (f_op U (xS S)).toInt = 79 ∨ (f_op U (xS S)).toInt = 190) → w_onArrays_J65 (PlQ S f) A v (f_op U (xS S)) := fun A v d pA d0 ed o => by
    unfold w_onArrays_J65
    refine ⟨fun c => i.j81 o ?_, fun c => ?_⟩
    · rw [if_pos c] at ed
      rw [show tkV U (xS S) - 1 = d by omega]
      exact pA
    · rw [if_neg c] at ed
      refine i.gi pA d0 (by omega) (fun r B pB er => i.j81 o ?_)
      rw [show tkV U (xS S) - 1 = d + 1 by omega]
      exact pB
  refine ⟨fun c => ?_, fun c => ⟨fun c1 => ?_, fun c1 => ⟨fun c2 => ?_, fun c2 => ?_⟩⟩⟩
  · have z := tg_188 c t
    have t1 : 1 ≤ (aT a).toInt := by have := hT.1; rw [z.2.1] at this; exact this
    exact i.gi PpP.rf (by decide) (by omega) (fun r B pB er => ⟨_, i.made c pB, fun _ _ hu => hu⟩)
  · have z := tg_191 c1 t
    have t1 : 1 ≤ (aT a).toInt := by have := hT.1; rw [z.2.1] at this; exact this
    refine ⟨_, sp_pop (n := 1) b1 PpP.rf (by decide) ⟨by decide, by rw [li_1, b4]; omega⟩ (by rw [b4]; exact hT.2.1), ?_⟩
    rintro r B ⟨pB, er⟩
    have nm : ¬ 0 < (f_moved U (f_op U (xS S))).toInt := fun y => by have := mv_iff.mp y; omega
    have v46 : qJ V 46 = qJ S 46 := (i.2.1.2.2.2.2.1 46 (by decide) (by decide)).2.1
    have l1 := tx_l1 t
    have w := (i.wd nm).2 0
    have le : qN U (10000030 + 1) = 1 ∧ (qI U (10000030 + 1) 0).toInt = 69 := l1.2.2.2.2.2.2.2.2.2.2.1
    rw [z.1.1, z.2.1] at w
    have w3 := (w (by rw [le.1]; decide)).2.2.1 le.2
    have z0 : plc (qI U (10000030 + 1)) 0 = 0 := rfl
    rw [z0, Int.add_zero] at w3
    have ee : r = (plF S (fN S).toNat ((aT a).toInt - 1).toNat).1 := by
      rw [er, li_1, b2, b4, v46]
      unfold plF qW
      rw [show (24 * fN S + (aT a).toInt - 0 - 1).toNat = 24 * (fN S).toNat + ((aT a).toInt - 1).toNat by omega]
    rw [← ee] at w3
    refine ⟨fun _ => ?_, fun nz => ?_⟩
    · obtain ⟨Q, x1, x2⟩ := i.th (e := 1) (by decide) pB
      exact ⟨Q, x1, fun w hw => PlQ.no (x2 w hw)⟩
    · have he := thr_e w3 nz
      obtain ⟨Q, x1, x2⟩ := i.th (e := ((-1 : Int64) - r).toInt32) he pB
      exact ⟨Q, x1, fun w hw => PlQ.no (x2 w hw)⟩
  · have z := tg_79 c2 t
    have t1 : 3 ≤ (aT a).toInt := by have := hT.1; rw [z.2.1] at this; exact this
    exact i.gi PpP.rf (by decide) (by omega) (fun r B pB er => j65 B r _ pB (by decide) (by rw [if_neg (by omega), z.2.1]; decide) (by omega))
  · by_cases c3 : (f_op U (xS S)).toInt = 190
    · exact j65 V 0 0 PpP.rf (by decide) (by rw [if_pos c3, (tg_190 c3 t).2.1]; decide) (by omega)
    · have c4 : (f_op U (xS S)).toInt = 46 := by omega
      exact j65 V 0 0 PpP.rf (by decide) (by rw [if_neg c3, (tg_46 c4 t).2.1]; decide) (by omega)
