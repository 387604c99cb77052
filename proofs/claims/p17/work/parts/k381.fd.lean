/-! fields (behind InS.p1, FrU.rv, FvI) -/
theorem gv_178 {U : MS} {x : Int32} (h : (f_op U x).toInt = 178) : f_givesOf U x = qO U (qO U (qO U 0 47) 7) (f_first U x).toInt.toNat ∧ f_takesOf U x = 10000032 := by
  constructor
  · unfold f_givesOf f_givesOf_J18 f_givesOf_J47
    rw [if_neg (by omega), if_neg (by omega), if_neg (by omega), if_pos (by omega), if_neg (by omega), if_neg (by omega), if_neg (by omega), if_neg (by omega), if_neg (by omega), if_neg (by omega), if_neg (by omega), if_neg (by omega), if_neg (by omega), if_neg (by omega), if_neg (by omega), if_neg (by omega), if_neg (by omega), if_pos h]
  · unfold f_takesOf f_takesOf_J18 f_takesOf_J47 f_takesOf_J75 f_takesOf_J93 f_takesOf_J111
    rw [if_neg (by omega), if_neg (by omega), if_neg (by omega), if_pos (by omega), if_neg (by omega), if_pos (by omega), if_neg (by omega), if_pos (by omega), if_neg (by omega), if_pos (by omega), if_neg (by omega), if_neg (by omega), if_neg (by omega), if_neg (by omega), if_neg (by omega), if_neg (by omega), if_neg (by omega), if_neg (by omega), if_neg (by omega), if_neg (by omega), if_neg (by omega), if_neg (by omega), if_neg (by omega), if_neg (by omega), if_neg (by omega), if_neg (by omega), if_neg (by omega), if_neg (by omega), if_neg (by omega), if_neg (by omega), if_neg (by omega), if_neg (by omega), if_neg (by omega), if_neg (by omega), if_neg (by omega), if_neg (by omega), if_neg (by omega)]
theorem gv_179 {U : MS} {x : Int32} (h : (f_op U x).toInt = 179) : f_givesOf U x = 10000032 ∧ f_takesOf U x = qO U (qO U (qO U 0 47) 7) (f_first U x).toInt.toNat := by
  constructor
  · unfold f_givesOf f_givesOf_J18 f_givesOf_J47
    rw [if_neg (by omega), if_neg (by omega), if_neg (by omega), if_pos (by omega), if_neg (by omega), if_neg (by omega), if_neg (by omega), if_neg (by omega), if_neg (by omega), if_neg (by omega), if_neg (by omega), if_neg (by omega), if_neg (by omega), if_neg (by omega), if_neg (by omega), if_neg (by omega), if_neg (by omega), if_neg (by omega), if_neg (by omega), if_neg (by omega), if_neg (by omega)]
  · unfold f_takesOf f_takesOf_J18 f_takesOf_J47 f_takesOf_J75 f_takesOf_J93 f_takesOf_J111
    rw [if_neg (by omega), if_neg (by omega), if_neg (by omega), if_pos (by omega), if_neg (by omega), if_pos (by omega), if_neg (by omega), if_pos (by omega), if_neg (by omega), if_pos (by omega), if_neg (by omega), if_neg (by omega), if_neg (by omega), if_neg (by omega), if_neg (by omega), if_neg (by omega), if_neg (by omega), if_neg (by omega), if_neg (by omega), if_neg (by omega), if_neg (by omega), if_neg (by omega), if_neg (by omega), if_neg (by omega), if_neg (by omega), if_neg (by omega), if_neg (by omega), if_neg (by omega), if_neg (by omega), if_neg (by omega), if_pos h]
/-- a field's letter -/
theorem FlI.fd {S : MS} {f : Nat} {i : Nat} (h : FlI S f) (hi : (i : Int) < (qI S f 3).toInt) : ∃ t : Nat, qR S (f + 3) i = some t ∧ 92 < t ∧ qN S (t + 1) = 1 ∧ ((qI S (t + 1) 0).toInt = 73 ∨ (qI S (t + 1) 0).toInt = 74 ∨ (qI S (t + 1) 0).toInt = 65) ∧ plS S t = (if (qI S (t + 1) 0).toInt = 74 then 2 else 1) := by
  have f92 := h.1.1.1
  obtain ⟨s1, s2, s3, a1, a2, a3, b1, b2, b3, c1, c2, p, p1, g, d1, d2, d3⟩ := h.2.2.2.2.1 i hi
  have n1 := d1.2.2.1
  refine ⟨s3, b3, by omega, n1, ?_, ?_⟩
  · rw [d1.2.2.2 0 (by decide)]; exact d3 0 (by decide)
  · unfold plS
    rw [n1]
    show 0 + (if (qI S (s3 + 1) 0).toInt = 74 then (2 : Int) else 1) = _
    rw [Int.zero_add]
theorem sEq_1 {S : MS} {t T : Nat} {d : Int} (n1 : qN S (t + 1) = 1) (m1 : qN S (T + 1) = 1) (ed : (qI S (T + 1) 0).toInt = d) : ((sEq S t T).toInt = 0 → ¬ (qI S (t + 1) 0).toInt = d) ∧ (¬ (sEq S t T).toInt = 0 → (qI S (t + 1) 0).toInt = d) := by
  refine ⟨fun h e => ?_, fun h => ?_⟩
  · have q : sEqP S t T := ⟨by rw [n1, m1], fun j hj => by
      have j0 : j = 0 := by omega
      subst j0
      exact Int32.toInt_inj.mp (by rw [e, ed])⟩
    unfold sEq at h
    rw [if_pos q] at h
    exact absurd h (by decide)
  · have q := sEq_T h
    rw [q.2 0 (by omega)]
    exact ed
/-- the field that an instruction names -/
theorem InS.fd {S V U : MS} {f s p : Nat} {a : AS} (i : InS S V f U s p a) (ho : (f_op U (xS S)).toInt = 178 ∨ (f_op U (xS S)).toInt = 179) : ∃ t : Nat, ((0 ≤ (f_first U (xS S)).toInt ∧ (f_first U (xS S)).toInt < (qI S f 3).toInt ∧ (f_first U (xS S)).toInt < 24) ∧ qR S (f + 3) (f_first U (xS S)).toInt.toNat = some t ∧ 92 < t) ∧ (qR V 0 80 = some f ∧ qO V 0 80 = f ∧ qR V f 7 = some (f + 3) ∧ qO V f 7 = f + 3 ∧ qN V (f + 3) = 24 ∧ qR V (f + 3) (f_first U (xS S)).toInt.toNat = some t ∧ qO V (f + 3) (f_first U (xS S)).toInt.toNat = t) ∧ (qN S (t + 1) = 1 ∧ ((qI S (t + 1) 0).toInt = 73 ∨ (qI S (t + 1) 0).toInt = 74 ∨ (qI S (t + 1) 0).toInt = 65)) ∧ (qN V (t + 1) = 1 ∧ qI V (t + 1) = qI S (t + 1)) ∧ (qN U (t + 1) = 1 ∧ qI U (t + 1) = qI S (t + 1) ∧ plS U t = (if (qI S (t + 1) 0).toInt = 74 then 2 else 1)) ∧ qO U (qO U (qO U 0 47) 7) (f_first U (xS S)).toInt.toNat = t := by
  have hI := i.1
  have hU := i.2.2.1
  obtain ⟨w1, w2, w3, w4, w5, w6⟩ := hU.own
  obtain ⟨T', ts', N', L', rv⟩ := hU.rv hI.2.1.2.1
  have fl := hI.2.1.2.1
  have f92 := hU.1
  have mr : 0 ≤ (f_first U (xS S)).toInt ∧ (f_first U (xS S)).toInt < (qI S f 3).toInt := rv.2.2.2.2.2.1 ho
  have m24 := fl.2.2.2.1.1.2
  obtain ⟨t, t1, t2, t3, t4, t5⟩ := fl.fd (i := (f_first U (xS S)).toInt.toNat) (by omega)
  have kV := big_frm i.2.1 (by simp)
  have r2 := fl.1.2.2 2 (by decide)
  have q7 : qR S f 7 = some (f + 3) := r2.1
  have n3 : qN S (f + 3) = 24 := r2.2.1
  have V80 : qR V 0 80 = some f := by rw [(i.2.1.2.2.2.2.2 80 (by decide)).2.2]; exact hI.2.1.1.2
  have eo : qO U (qO U (qO U 0 47) 7) (f_first U (xS S)).toInt.toNat = t := by
    rw [w1, w2.1]
    unfold qO
    rw [w3, t1]
    rfl
  obtain ⟨kk, tx, hx, st, hT, h0⟩ := i.t
  have okU : okH U (t + 1) := by
    rcases ho with q | q
    · have z := kk.gv hx tx
      rw [(gv_178 q).1, eo] at z
      exact z.1
    · have z := kk.tk hx tx
      rw [(gv_179 q).2, eo] at z
      exact z.1
  have wt := w6 t okU
  have vt := kV (t + 1) (by omega)
  refine ⟨t, ⟨⟨mr.1, mr.2, by omega⟩, t1, t2⟩, ⟨V80, by unfold qO; rw [V80]; rfl, by rw [(kV f f92).2.2.1]; exact q7, by unfold qO; rw [(kV f f92).2.2.1, q7]; rfl, by rw [(kV _ (by omega)).2.2.2.2]; exact n3, by rw [(kV _ (by omega)).2.2.1]; exact t1, by unfold qO; rw [(kV _ (by omega)).2.2.1, t1]; rfl⟩, ⟨t3, t4⟩, ⟨by rw [vt.2.2.2.2]; exact t3, vt.1⟩, ⟨by rw [wt.2]; exact t3, wt.1, ?_⟩, eo⟩
  have : plS U t = plS S t := by unfold plS; rw [wt.1, wt.2]
  rw [this]
  exact t5
theorem InS.get {S V U : MS} {f s p : Nat} {a : AS} (i : InS S V f U s p a) (ho : (f_op U (xS S)).toInt = 178) : ((qR V 0 80 = some (qO V 0 80)) ∧ ((qR V (qO V 0 80) 7 = some (qO V (qO V 0 80) 7)) ∧ (((0 : Int) ≤ (f_first U (xS S)).toInt ∧ (f_first U (xS S)).toInt < (qN V (qO V (qO V 0 80) 7) : Int)) ∧ ((qR V (qO V (qO V 0 80) 7) (f_first U (xS S)).toInt.toNat = some (qO V (qO V (qO V 0 80) 7) (f_first U (xS S)).toInt.toNat)) ∧ (((sEq V (qO V (qO V (qO V 0 80) 7) (f_first U (xS S)).toInt.toNat) 10000016).toInt = 0 → (((0 : Int) ≤ (f_first U (xS S)).toInt ∧ (f_first U (xS S)).toInt < 24) ∧ ((qR V 0 80 = some (qO V 0 80)) ∧ ((qR V (qO V 0 80) 7 = some (qO V (qO V 0 80) 7)) ∧ (((0 : Int) ≤ (f_first U (xS S)).toInt ∧ (f_first U (xS S)).toInt < (qN V (qO V (qO V 0 80) 7) : Int)) ∧ ((qR V (qO V (qO V 0 80) 7) (f_first U (xS S)).toInt.toNat = some (qO V (qO V (qO V 0 80) 7) (f_first U (xS S)).toInt.toNat)) ∧ (((sEq V (qO V (qO V (qO V 0 80) 7) (f_first U (xS S)).toInt.toNat) 10000022).toInt = 0 → w_plain_J542 (PlQ S f) V 1 (qJ V 37 (f_first U (xS S)).toInt.toNat)) ∧ (¬ (sEq V (qO V (qO V (qO V 0 80) 7) (f_first U (xS S)).toInt.toNat) 10000022).toInt = 0 → w_plain_J542 (PlQ S f) V 2 (qJ V 37 (f_first U (xS S)).toInt.toNat))))))))) ∧ (¬ (sEq V (qO V (qO V (qO V 0 80) 7) (f_first U (xS S)).toInt.toNat) 10000016).toInt = 0 → (((0 : Int) ≤ (f_first U (xS S)).toInt ∧ (f_first U (xS S)).toInt < 24) ∧ (∃ Q222, w_putInt V ((qJ V 37 (f_first U (xS S)).toInt.toNat).toInt32) Q222 ∧ ∀ S223, Q222 S223 → PlQ S f (1 : Int32) S223))))))))  := by
  obtain ⟨b0, b1, b2, b3, b4, L1, b5⟩ := i.v
  obtain ⟨kk, tx, hx, st, hT, h0⟩ := i.t
  obtain ⟨t, ⟨⟨r0, r1, r2⟩, r3, r4⟩, ⟨v1, v2, v3, v4, v5, v6, v7⟩, ⟨t3, t4⟩, ⟨u1, u2⟩, ⟨u3, u4, u5⟩, eo⟩ := i.fd (Or.inl ho)
  obtain ⟨g1, g2⟩ := gv_178 ho
  rw [eo] at g1
  have pl : isPl (f_op U (xS S)).toInt := by unfold isPl; omega
  have nm := pl.f.1
  have tk0 : tkV U (xS S) = 0 := by unfold tkV; rw [if_neg nm, g2]; exact (tx_pl tx).2.2.2.2.2.2.2.2.2.2.2.1
  have gv : gvV U (xS S) = (if (qI S (t + 1) 0).toInt = 74 then 2 else 1) := by unfold gvV; rw [if_neg nm, g1]; exact u5
  have lV := tx_l1 (i.1.2.1.2.2.2.fm i.2.1 (by simp))
  have q16 := sEq_1 (d := 73) u1 lV.2.2.2.1.1 lV.2.2.2.1.2
  have q22 := sEq_1 (d := 74) u1 lV.2.2.2.2.2.2.1.1 lV.2.2.2.2.2.2.1.2
  rw [u2] at q16 q22
  have v37 : qJ V 37 = qJ S 37 := (i.2.1.2.2.2.2.1 37 (by decide) (by decide)).2.1
  have tt := hT.2.2
  rw [tk0] at tt
  have P0 : PpP V (tkV U (xS S)) V := by rw [tk0]; exact PpP.rf
  rw [v2, v4, v7]
  refine ⟨v1, v3, ⟨r0, by rw [v5]; omega⟩, v6, fun c1 => ⟨⟨r0, r2⟩, v1, v3, ⟨r0, by rw [v5]; omega⟩, v6, fun c2 => ?_, fun c2 => ?_⟩, fun c1 => ⟨⟨r0, r2⟩, ?_⟩⟩
  · have n3 := q16.1 c1
    have n4 := q22.1 c2
    have c5 : (qI S (t + 1) 0).toInt = 65 := by omega
    rw [if_neg n4] at gv
    unfold w_plain_J542
    obtain ⟨Q, x1, x2⟩ := sp_psh (v := qJ V 37 (f_first U (xS S)).toInt.toNat) (n := 1) b1 P0 (Or.inl li_1) ⟨by omega, by rw [li_1]; omega⟩
    refine ⟨Q, x1, fun u hu => i.p1 pl (by rw [gv]; have z := x2 u hu; rw [li_1] at z; exact z) (by rw [g1]; exact u3) ?_⟩
    rw [g1, u4, c5]
    refine ⟨fun _ => ?_, fun z => absurd z (by decide), fun z => absurd z (by decide), fun z => absurd z (by decide)⟩
    rw [v37]
    exact i.1.2.2.1.2 _ t (by omega) r3 r4 c5
  · have c5 := q22.2 c2
    have l2 : (2 : Int32).toInt = 2 := by decide
    rw [if_pos c5] at gv
    unfold w_plain_J542
    obtain ⟨Q, x1, x2⟩ := sp_psh (v := qJ V 37 (f_first U (xS S)).toInt.toNat) (n := 2) b1 P0 (Or.inr l2) ⟨by omega, by rw [l2]; omega⟩
    refine ⟨Q, x1, fun u hu => i.p1 pl (by rw [gv]; have z := x2 u hu; rw [l2] at z; exact z) (by rw [g1]; exact u3) ?_⟩
    rw [g1, u4, c5]
    exact ⟨fun z => absurd z (by decide), fun z => absurd z (by decide), fun z => absurd z (by decide), fun z => absurd z (by decide)⟩
  · have c5 := q16.2 c1
    rw [if_neg (by omega)] at gv
    obtain ⟨Q, x1, x2⟩ := sp_psi (v := (qJ V 37 (f_first U (xS S)).toInt.toNat).toInt32) b1 P0 ⟨by omega, by omega⟩
    refine ⟨Q, x1, fun u hu => i.p1 pl (by rw [gv]; exact x2 u hu) (by rw [g1]; exact u3) ?_⟩
    rw [g1, u4, c5]
    exact ⟨fun z => absurd z (by decide), fun z => absurd z (by decide), fun z => absurd z (by decide), fun _ => i64_int _⟩
/-- values are taken, and something beside the frames may change -/
theorem InS.ps {S V U u : MS} {f s p : Nat} {a : AS} (i : InS S V f U s p a) (ho : isPl (f_op U (xS S)).toInt) (k : frm [37, 38, 44] [] V u) (eT : fT u = fT V - tkV U (xS S)) (o44 : ∀ j : Nat, j ≠ (fN V).toNat → qI u 44 j = qI V 44 j) (hF : ∀ w, frm [43] [] u w → FvI w f) (g0 : qN U (f_givesOf U (xS S) + 1) = 0) : PlQ S f 1 u := by
  obtain ⟨b0, b1, b2, b3, b4, L1, b5⟩ := i.v
  obtain ⟨nm, no, gg⟩ := ho.f
  have L2 : LcP V u := ⟨k.mo (by decide) (by decide), fun j hj => ⟨by rw [(k.2.2.2.2.1 43 (by decide) (by decide)).1], o44 j hj⟩, fun j hj => ⟨by rw [(k.2.2.2.2.1 45 (by decide) (by decide)).2.1], by rw [(k.2.2.2.2.1 46 (by decide) (by decide)).2.1]⟩⟩
  refine PlQ.one (L2.b b1) (fun w G => ?_)
  have L := (L1.tr L2).tr (LcP.gt G)
  have eu : fN u = fN S := by rw [L2.n.1, b2]
  have fr : frm [37, 38, 43, 44] [47, 48, 49, 50, 51, 52, 53, 54, 96] S w := (i.2.1.mo (by decide) (by decide)).tr ((k.mo (by decide) (by decide)).tr (G.1.mo (by decide) (by decide)))
  have e85 : qI w 0 85 = qI S 0 85 := (fr.2.2.2.2.2 85 (by decide)).1
  have hA : ArI w := i.1.2.2.1.1.eq e85 (fr.2.2.2.2.2 86 (by decide)).1 (fr.2.2.2.2.1 39 (by decide) (by decide)).1 (fr.2.2.2.2.1 40 (by decide) (by decide)).1
  have gv0 : gvV U (xS S) = 0 := by
    unfold gvV plS
    rw [if_neg nm, g0]
    rfl
  have e43 : qI w 43 (fN S).toNat = xS S + 1 := by rw [G.2, eu]; unfold upd; rw [if_pos rfl]
  have e44 : qI w 44 = qI u 44 := (G.1.2.2.2.2.1 44 (by decide) (by decide)).1
  have e45 : qJ w 45 = qJ S 45 := (fr.2.2.2.2.1 45 (by decide) (by decide)).2.1
  have e46 : qJ w 46 = qJ S 46 := (fr.2.2.2.2.1 46 (by decide) (by decide)).2.1
  have nx := i.nx gg
  refine i.go L hA (hF w G.1) (by rw [e85]; exact Int.le_refl _) nm (by rw [e43]; exact nx) ?_ (fun k _ _ => by unfold slF; rw [e45]) (fun q => absurd (Or.inl q) no.1) (fun q => absurd q no.2) (fun q => absurd (Or.inr (Or.inr q)) no.1) (fun k hk => by unfold plF; rw [e46]) (fun j hj => by omega)
  rw [e44]
  rw [b4] at eT
  unfold fT at eT
  rw [eu] at eT
  rw [eT, gv0]
  omega
theorem InS.put {S V U : MS} {f s p : Nat} {a : AS} (i : InS S V f U s p a) (ho : (f_op U (xS S)).toInt = 179) : ((qR V 0 80 = some (qO V 0 80)) ∧ ((qR V (qO V 0 80) 7 = some (qO V (qO V 0 80) 7)) ∧ (((0 : Int) ≤ (f_first U (xS S)).toInt ∧ (f_first U (xS S)).toInt < (qN V (qO V (qO V 0 80) 7) : Int)) ∧ ((qR V (qO V (qO V 0 80) 7) (f_first U (xS S)).toInt.toNat = some (qO V (qO V (qO V 0 80) 7) (f_first U (xS S)).toInt.toNat)) ∧ (((sEq V (qO V (qO V (qO V 0 80) 7) (f_first U (xS S)).toInt.toNat) 10000022).toInt = 0 → w_plain_J576 (PlQ S f) V 1 (f_first U (xS S))) ∧ (¬ (sEq V (qO V (qO V (qO V 0 80) 7) (f_first U (xS S)).toInt.toNat) 10000022).toInt = 0 → w_plain_J576 (PlQ S f) V 2 (f_first U (xS S)))))))) := by
  obtain ⟨b0, b1, b2, b3, b4, L1, b5⟩ := i.v
  obtain ⟨kk, tx, hx, st, hT, h0⟩ := i.t
  obtain ⟨t, ⟨⟨r0, r1, r2⟩, r3, r4⟩, ⟨v1, v2, v3, v4, v5, v6, v7⟩, ⟨t3, t4⟩, ⟨u1, u2⟩, ⟨u3, u4, u5⟩, eo⟩ := i.fd (Or.inr ho)
  obtain ⟨g1, g2⟩ := gv_179 ho
  rw [eo] at g2
  have f92 := i.1.2.1.1.1
  have pl : isPl (f_op U (xS S)).toInt := by unfold isPl; omega
  have nm := pl.f.1
  have g0 : qN U (f_givesOf U (xS S) + 1) = 0 := by rw [g1]; exact (tx_l1 tx).2.2.2.2.2.2.2.2.2.2.2.1
  have tk : tkV U (xS S) = (if (qI S (t + 1) 0).toInt = 74 then 2 else 1) := by unfold tkV; rw [if_neg nm, g2]; exact u5
  have lV := tx_l1 (i.1.2.1.2.2.2.fm i.2.1 (by simp))
  have q22 := sEq_1 (d := 74) u1 lV.2.2.2.2.2.2.1.1 lV.2.2.2.2.2.2.1.2
  rw [u2] at q22
  have v46 : qJ V 46 = qJ S 46 := (i.2.1.2.2.2.2.1 46 (by decide) (by decide)).2.1
  have v37 : qJ V 37 = qJ S 37 := (i.2.1.2.2.2.2.1 37 (by decide) (by decide)).2.1
  have wd := (i.wd nm).2 0
  rw [g2, u3, u4] at wd
  have z0 : plc (qI S (t + 1)) 0 = 0 := rfl
  rw [z0, Int.add_zero] at wd
  have fin : ∀ n : Int32, (n.toInt = 1 ∨ n.toInt = 2) → n.toInt = tkV U (xS S) → w_plain_J576 (PlQ S f) V n (f_first U (xS S)) := fun n hn en => by
    unfold w_plain_J576
    refine ⟨_, sp_pop b1 PpP.rf (by decide) ⟨by omega, by rw [b4]; omega⟩ (by rw [b4]; exact hT.2.1), ?_⟩
    rintro r A ⟨pA, er⟩
    refine ⟨⟨r0, r2⟩, fun D eD => ?_⟩
    have fD : frm [37] [] A D := by rw [eD]; exact frm.pJ (by decide)
    have k : frm [37, 38, 44] [] V D := (pA.1.mo (by decide) (by decide)).tr (fD.mo (by decide) (by decide))
    have nA := (b1.mv pA.1).2
    have nD := ((b1.mv pA.1).1.mv fD).2
    have D44 : qI D 44 = qI A 44 := (fD.2.2.2.2.1 44 (by decide) (by decide)).1
    refine i.ps pl k ?_ (fun j hj => by rw [D44]; exact pA.2.2 j hj) (fun w fw => ?_) g0
    · have z := pA.2.1
      unfold fT at z ⊢
      rw [nD, D44, z, en]
      omega
    · intro i2 s2 hi2 hs2 h92 hc
      have fV : frm [37, 38, 43, 44] [47, 48, 49, 50, 51, 52, 53, 54, 96] S w := (i.2.1.mo (by decide) (by decide)).tr ((k.mo (by decide) (by decide)).tr (fw.mo (by decide) (by decide)))
      have kb := big_frm fV (by decide)
      have e85 : qI w 0 85 = qI S 0 85 := (fV.2.2.2.2.2 85 (by decide)).1
      have w37 : ∀ j : Nat, qJ w 37 j = if j = (f_first U (xS S)).toInt.toNat then r else qJ S 37 j := fun j => by
        rw [(fw.2.2.2.2.1 37 (by decide) (by decide)).2.1, eD, qJ_wJ]
        by_cases c : j = (f_first U (xS S)).toInt.toNat
        · rw [if_pos ⟨rfl, c⟩, if_pos c]
        · rw [if_neg (fun q => c q.2), if_neg c, (pA.1.2.2.2.2.1 37 (by decide) (by decide)).2.1, v37]
      rw [(kb f f92).1] at hi2
      rw [(kb (f + 3) (by omega)).2.2.1] at hs2
      rw [(kb (s2 + 1) (by omega)).1] at hc
      rw [w37, e85]
      by_cases c : i2 = (f_first U (xS S)).toInt.toNat
      · rw [if_pos c]
        rw [c, r3] at hs2
        have e2 : t = s2 := by injection hs2
        subst e2
        have w := (wd (by decide)).1 hc
        have ee : r = plF S (fN S).toNat ((aT a).toInt - tkV U (xS S)).toNat := by
          rw [er, b2, b4, v46, en]
          unfold plF
          rw [show (24 * fN S + (aT a).toInt - 0 - tkV U (xS S)).toNat = 24 * (fN S).toNat + ((aT a).toInt - tkV U (xS S)).toNat by omega]
        rw [ee]
        exact w
      · rw [if_neg c]
        exact i.1.2.2.1.2 i2 s2 hi2 hs2 h92 hc
  rw [v2, v4, v7]
  refine ⟨v1, v3, ⟨r0, by rw [v5]; omega⟩, v6, fun c => fin 1 (Or.inl li_1) ?_, fun c => fin 2 (Or.inr (by decide)) ?_⟩
  · rw [tk, if_neg (q22.1 c), li_1]
  · rw [tk, if_pos (q22.2 c)]; decide
/-! arrays (behind InS.ps, InS.pI, InS.th, ArI) -/
theorem InS.ar {S V U A : MS} {f s p : Nat} {a : AS} (i : InS S V f U s p a) (k : frm [44] [] V A) : ArI A ∧ qI A 0 85 = qI S 0 85 ∧ qI A 0 86 = qI S 0 86 ∧ qI A 39 = qI S 39 ∧ qI A 40 = qI S 40 := by
  have e1 : qI A 0 85 = qI S 0 85 := by rw [(k.2.2.2.2.2 85 (by decide)).1, (i.2.1.2.2.2.2.2 85 (by decide)).1]
  have e2 : qI A 0 86 = qI S 0 86 := by rw [(k.2.2.2.2.2 86 (by decide)).1, (i.2.1.2.2.2.2.2 86 (by decide)).1]
  have e3 : qI A 39 = qI S 39 := by rw [(k.2.2.2.2.1 39 (by decide) (by decide)).1, (i.2.1.2.2.2.2.1 39 (by decide) (by decide)).1]
  have e4 : qI A 40 = qI S 40 := by rw [(k.2.2.2.2.1 40 (by decide) (by decide)).1, (i.2.1.2.2.2.2.1 40 (by decide) (by decide)).1]
  exact ⟨i.1.2.2.1.1.eq e1 e2 e3 e4, e1, e2, e3, e4⟩
theorem InS.gi {S V U A : MS} {f s p : Nat} {a : AS} {d : Int} {Q : Int32 → MS → Prop} (i : InS S V f U s p a) (pA : PpP V d A) (d0 : 0 ≤ d) (hd : d + 1 ≤ (aT a).toInt) (hQ : ∀ (r : Int32) (B : MS), PpP V (d + 1) B → r = (plF S (fN S).toNat ((aT a).toInt - d - 1).toNat).toInt32 → Q r B) : ∃ Q1, w_gotInt A Q1 ∧ ∀ r u, Q1 r u → Q r u := by
  obtain ⟨b0, b1, b2, b3, b4, L1, b5⟩ := i.v
  obtain ⟨kk, t, hx, st, hT, h0⟩ := i.t
  have v46 : qJ V 46 = qJ S 46 := (i.2.1.2.2.2.2.1 46 (by decide) (by decide)).2.1
  refine ⟨Q, ?_, fun r u hu => hu⟩
  unfold w_gotInt
  refine ⟨_, sp_pop (n := 1) b1 pA d0 ⟨by decide, by rw [li_1, b4]; exact hd⟩ (by rw [b4]; exact hT.2.1), ?_⟩
  rintro r B ⟨pB, er⟩
  rw [li_1] at pB er
  refine hQ _ B pB ?_
  rw [er, b2, b4, v46]
  unfold plF
  rw [show (24 * fN S + (aT a).toInt - d - 1).toNat = 24 * (fN S).toNat + ((aT a).toInt - d - 1).toNat by omega]
theorem InS.j81 {S V U A : MS} {f s p : Nat} {a : AS} {k v : Int32} (i : InS S V f U s p a) (ho : (f_op U (xS S)).toInt = 46 ∨ (f_op U (xS S)).toInt = 79 ∨ (f_op U (xS S)).toInt = 190) (pA : PpP V (tkV U (xS S) - 1) A) : w_onArrays_J81 (PlQ S f) A k (f_op U (xS S)) v := by
  obtain ⟨b0, b1, b2, b3, b4, L1, b5⟩ := i.v
  obtain ⟨kk, t, hx, st, hT, h0⟩ := i.t
  have l1 := tx_l1 t
  have pl : isPl (f_op U (xS S)).toInt := by unfold isPl; omega
  have nm := pl.f.1
  have tk : (1 ≤ tkV U (xS S) ∧ tkV U (xS S) ≤ 3) ∧ 1 ≤ qN U (f_takesOf U (xS S) + 1) ∧ (qI U (f_takesOf U (xS S) + 1) 0).toInt = 65 := by
    rcases ho with q | q | q
    · have z := tg_46 q t
      rw [z.2.1, z.1.1]
      have y : qN U (10000018 + 1) = 2 ∧ (qI U (10000018 + 1) 0).toInt = 65 ∧ (qI U (10000018 + 1) 1).toInt = 73 := l1.2.2.2.2.1
      exact ⟨by decide, by rw [y.1]; decide, y.2.1⟩
    · have z := tg_79 q t
      rw [z.2.1, z.1.1]
      have y : qN U (10000020 + 1) = 3 ∧ (qI U (10000020 + 1) 0).toInt = 65 ∧ (qI U (10000020 + 1) 1).toInt = 73 ∧ (qI U (10000020 + 1) 2).toInt = 73 := l1.2.2.2.2.2.1
      exact ⟨by decide, by rw [y.1]; decide, y.2.1⟩
    · have z := tg_190 q t
      rw [z.2.1, z.1.1]
      have y : qN U (10000028 + 1) = 1 ∧ (qI U (10000028 + 1) 0).toInt = 65 := l1.2.2.2.2.2.2.2.2.2.1
      exact ⟨by decide, by rw [y.1]; decide, y.2⟩
  have wd := ((i.wd nm).2 0 (by omega)).1 tk.2.2
  have z0 : plc (qI U (f_takesOf U (xS S) + 1)) 0 = 0 := rfl
  rw [z0, Int.add_zero] at wd
  have n400 := i.1.2.2.1.1.1
  unfold w_onArrays_J81
  refine i.gi pA (by omega) (by omega) (fun r B pB er => ?_)
  rw [show tkV U (xS S) - 1 + 1 = tkV U (xS S) by omega] at pB
  rw [show (aT a).toInt - (tkV U (xS S) - 1) - 1 = (aT a).toInt - tkV U (xS S) by omega] at er
  have er2 : r.toInt = (plF S (fN S).toNat ((aT a).toInt - tkV U (xS S)).toNat).toInt := by rw [er]; exact tl_to (by omega)
  obtain ⟨hA, e85, e86, e39, e40⟩ := i.ar pB.1
  have rr : 0 ≤ r.toInt ∧ r.toInt < 401 := by omega
  have j135 : w_onArrays_J135 (PlQ S f) B := by
    unfold w_onArrays_J135
    obtain ⟨Q, x1, x2⟩ := i.th (e := 2) pB
    exact ⟨Q, x1, fun w hw => PlQ.no (x2 w hw)⟩
  refine ⟨fun c => ?_, fun c => ⟨fun c1 => ⟨rr, ?_⟩, fun c1 => ⟨fun _ => j135, fun c2 => ⟨rr, fun c3 => ?_, fun _ => j135⟩⟩⟩⟩
  · obtain ⟨Q, x1, x2⟩ := i.th (e := 1) pB
    exact ⟨Q, x1, fun w hw => PlQ.no (x2 w hw)⟩
  · have z := tg_190 c1 t
    have g1 := z.2.2
    obtain ⟨Q, x1, x2⟩ := sp_psi (v := qI B 40 r.toInt.toNat) b1 pB ⟨by rw [b4]; omega, by rw [b4]; omega⟩
    exact ⟨Q, x1, fun u hu => i.pI pl (by rw [g1]; exact x2 u hu) (Or.inl ⟨z.1.2, i64_int _⟩)⟩
  · have ai := hA.2.2 r.toInt.toNat (by omega) (by rw [e85]; omega)
    have h86 := hA.2.1
    have ix : (qI B 39 r.toInt.toNat + k).toInt = (qI B 39 r.toInt.toNat).toInt + k.toInt := t_add (by omega)
    rw [ix]
    refine ⟨fun c4 => ⟨rr, ⟨by omega, by omega⟩, fun D eD => ?_⟩, fun c4 => ⟨rr, ⟨by omega, by omega⟩, ?_⟩⟩
    · have z := tg_79 c4 t
      have fD : frm [38] [] B D := by rw [eD]; exact frm.pI (by decide)
      have kD : frm [37, 38, 44] [] V D := (pB.1.mo (by decide) (by decide)).tr (fD.mo (by decide) (by decide))
      have nD := ((b1.mv pB.1).1.mv fD).2
      have D44 : qI D 44 = qI B 44 := (fD.2.2.2.2.1 44 (by decide) (by decide)).1
      refine i.ps pl kD ?_ (fun j hj => by rw [D44]; exact pB.2.2 j hj) (fun w fw => ?_) (by rw [z.1.2]; exact l1.2.2.2.2.2.2.2.2.2.2.2.1)
      · have y := pB.2.1
        unfold fT at y ⊢
        rw [nD, D44, y]
      · have fV : frm [38, 43, 44] [47, 48, 49, 50, 51, 52, 53, 54, 96] S w := (i.2.1.mo (by decide) (by decide)).tr ((pB.1.mo (by decide) (by decide)).tr ((fD.mo (by decide) (by decide)).tr (fw.mo (by decide) (by decide))))
        have w85 : qI w 0 85 = qI S 0 85 := (fV.2.2.2.2.2 85 (by decide)).1
        exact i.1.2.2.1.2.eq i.1.2.1.1.1 (big_frm fV (by decide)) (by rw [w85]; exact Int.le_refl _) (fV.2.2.2.2.1 37 (by decide) (by decide)).2.1
    · have c5 : (f_op U (xS S)).toInt = 46 := by omega
      have z := tg_46 c5 t
      have g1 := z.2.2
      obtain ⟨Q, x1, x2⟩ := sp_psi (v := qI B 38 ((qI B 39 r.toInt.toNat).toInt + k.toInt).toNat) b1 pB ⟨by rw [b4]; omega, by rw [b4]; omega⟩
      exact ⟨Q, x1, fun u hu => i.pI pl (by rw [g1]; exact x2 u hu) (Or.inl ⟨z.1.2, i64_int _⟩)⟩
theorem InS.made {S V U A : MS} {f s p : Nat} {a : AS} {n : Int32} (i : InS S V f U s p a) (ho : (f_op U (xS S)).toInt = 188) (pA : PpP V 1 A) : w_made A n (PlQ S f) := by
  obtain ⟨b0, b1, b2, b3, b4, L1, b5⟩ := i.v
  obtain ⟨kk, t, hx, st, hT, h0⟩ := i.t
  have l1 := tx_l1 t
  have pl : isPl (f_op U (xS S)).toInt := by unfold isPl; omega
  obtain ⟨nm, no, gg⟩ := pl.f
  have z := tg_188 ho t
  obtain ⟨hA, e85, e86, e39, e40⟩ := i.ar pA.1
  have f92 := i.1.2.1.1.1
  have j36 : w_made_J36 (PlQ S f) A := by
    unfold w_made_J36
    intro D eD
    have fr : frm [43, 44] [47, 48, 49, 50, 51, 52, 53, 54, 96, 98] S D := (i.2.1.mo (by decide) (by decide)).tr ((pA.1.mo (by decide) (by decide)).tr (by rw [eD]; exact frm.pI0 (by decide)))
    have d85 : qI D 0 85 = qI S 0 85 := (fr.2.2.2.2.2 85 (by decide)).1
    refine PlQ.no ⟨⟨i.1.2.1.fm fr (by decide) (by decide), i.1.2.2.1.1.eq d85 (fr.2.2.2.2.2 86 (by decide)).1 (fr.2.2.2.2.1 39 (by decide) (by decide)).1 (fr.2.2.2.2.1 40 (by decide) (by decide)).1, i.1.2.2.1.2.eq f92 (big_frm fr (by decide)) (by rw [d85]; exact Int.le_refl _) (fr.2.2.2.2.1 37 (by decide) (by decide)).2.1⟩, Or.inl ?_⟩
    have : qI D 0 98 = 4 := by rw [eD, qI_wI, if_pos ⟨rfl, rfl⟩]
    rw [this]
    decide
  unfold w_made
  refine ⟨fun c => ⟨fun _ => j36, fun c1 => ⟨fun _ => j36, fun c2 B eB => ?_⟩⟩, fun c => ?_⟩
  · have l20 : (20000 : Int64).toInt = 20000 := by decide
    have s86 : ((qI A 0 86).toInt64 + n.toInt64).toInt = (qI A 0 86).toInt + n.toInt := by
      have := hA.2.1
      have h2 := n.toInt_lt
      rw [tl_add (by rw [tl_of, tl_of]; omega), tl_of, tl_of]
    have le : (qI A 0 86).toInt + n.toInt ≤ 20000 := by
      have y := c_cmp (x := (qI A 0 86).toInt64 + n.toInt64) (y := (20000 : Int64))
      rw [s86, l20] at y
      omega
    have h85 := hA.1
    have h86 := hA.2.1
    have q85 : (qI A 0 85 + (1 : Int32)).toInt = (qI A 0 85).toInt + 1 := by rw [t_add (by rw [li_1]; omega), li_1]
    have B85 : qI B 0 85 = qI A 0 85 + 1 := by rw [eB, qI_wI, if_pos ⟨rfl, rfl⟩]
    have B86 : qI B 0 86 = qI A 0 86 := by rw [eB, qI_wI, if_neg (by decide)]
    rw [B85, q85]
    refine ⟨⟨by omega, by omega⟩, fun C eC => ?_⟩
    have C85 : qI C 0 85 = qI A 0 85 + 1 := by rw [eC, rdH (by decide), B85]
    have C86 : qI C 0 86 = qI A 0 86 := by rw [eC, rdH (by decide), B86]
    rw [C85, q85]
    refine ⟨⟨by omega, by omega⟩, fun D eD E eE => ?_⟩
    have D86 : qI D 0 86 = qI A 0 86 := by rw [eD, rdH (by decide), C86]
    have E85 : qI E 0 85 = qI A 0 85 + 1 := by rw [eE, qI_wI, if_neg (by decide), eD, rdH (by decide), C85]
    have E86 : (qI E 0 86).toInt = (qI A 0 86).toInt + n.toInt := by rw [eE, qI_wI, if_pos ⟨rfl, rfl⟩, D86, t_add (by omega)]
    have fE : frm [39, 40] [85, 86] A E := (show frm [39, 40] [85, 86] A B by rw [eB]; exact frm.pI0 (by decide)).tr ((show frm [39, 40] [85, 86] B C by rw [eC]; exact frm.pI (by decide)).tr ((show frm [39, 40] [85, 86] C D by rw [eD]; exact frm.pI (by decide)).tr (by rw [eE]; exact frm.pI0 (by decide))))
    have E39 : ∀ j : Nat, qI E 39 j = if j = ((qI A 0 85).toInt + 1).toNat then qI A 0 86 else qI A 39 j := fun j => by
      rw [eE, rdH (by decide), eD, rdH (by decide), eC, qI_wI, B86]
      by_cases y : j = ((qI A 0 85).toInt + 1).toNat
      · rw [if_pos ⟨rfl, y⟩, if_pos y]
      · rw [if_neg (fun q => y q.2), if_neg y, eB, rdH (by decide)]
    have E40 : ∀ j : Nat, qI E 40 j = if j = ((qI A 0 85).toInt + 1).toNat then n else qI A 40 j := fun j => by
      rw [eE, rdH (by decide), eD, qI_wI]
      by_cases y : j = ((qI A 0 85).toInt + 1).toNat
      · rw [if_pos ⟨rfl, y⟩, if_pos y]
      · rw [if_neg (fun q => y q.2), if_neg y, eC, rdH (by decide), eB, rdH (by decide)]
    have aE : ArI E := by
      refine ⟨by rw [E85, q85]; omega, by omega, fun k k0 k1 => ?_⟩
      rw [E39, E40]
      rw [E85, q85] at k1
      by_cases y : k = ((qI A 0 85).toInt + 1).toNat
      · rw [if_pos y, if_pos y]; omega
      · rw [if_neg y, if_neg y]
        have := hA.2.2 k k0 (by omega)
        omega
    have nA := b1.mv pA.1
    have E97 : qI E 0 97 = qI A 0 97 := (fE.2.2.2.2.2 97 (by decide)).1
    have bE : FrB E := by unfold FrB; rw [E97]; exact nA.1
    have nE : fN E = fN S := by
      have : fN E = fN A := by unfold fN; rw [E97]
      rw [this, nA.2, b2]
    have A44 : (qI A 44 (fN S).toNat).toInt = (aT a).toInt - 1 := by
      have y := pA.2.1
      unfold fT at y
      rw [nA.2, b2] at y
      rw [y]
      unfold fT at b4
      rw [b2] at b4
      rw [b4]
    have E44 : qI E 44 = qI A 44 := (fE.2.2.2.2.1 44 (by decide) (by decide)).1
    have tE : fT E = (aT a).toInt - 1 := by unfold fT; rw [nE, E44]; exact A44
    have t1 : 1 ≤ (aT a).toInt := by have := hT.1; rw [z.2.1] at this; exact this
    have h24 := hT.2.1
    refine ⟨_, sp_putV bE (Or.inl li_1) ⟨by omega, by rw [li_1]; omega⟩, fun u hu => ?_⟩
    obtain ⟨p1, p2, p3, p4⟩ := hu
    rw [nE] at p2 p3
    rw [tE] at p2
    have bu : FrB u := (bE.mv p1).1
    have nu : fN u = fN S := by rw [(bE.mv p1).2, nE]
    refine PlQ.one bu (fun w G => ?_)
    have fr : frm LcW LcJ S w := (i.2.1.mo (by decide) (by decide)).tr ((pA.1.mo (by decide) (by decide)).tr ((fE.mo (by decide) (by decide)).tr ((p1.mo (by decide) (by decide)).tr (G.1.mo (by decide) (by decide)))))
    have w85 : qI w 0 85 = qI E 0 85 := by rw [(G.1.2.2.2.2.2 85 (by decide)).1, (p1.2.2.2.2.2 85 (by decide)).1]
    have i85 : (qI w 0 85).toInt = (qI S 0 85).toInt + 1 := by rw [w85, E85, q85, e85]
    have w44 : qI w 44 = qI u 44 := (G.1.2.2.2.2.1 44 (by decide) (by decide)).1
    have w45 : qJ w 45 = qJ S 45 := by rw [(G.1.2.2.2.2.1 45 (by decide) (by decide)).2.1, (p1.2.2.2.2.1 45 (by decide) (by decide)).2.1, (fE.2.2.2.2.1 45 (by decide) (by decide)).2.1, (pA.1.2.2.2.2.1 45 (by decide) (by decide)).2.1, (i.2.1.2.2.2.2.1 45 (by decide) (by decide)).2.1]
    have w46 : qJ w 46 = qJ u 46 := (G.1.2.2.2.2.1 46 (by decide) (by decide)).2.1
    have E46 : qJ E 46 = qJ S 46 := by rw [(fE.2.2.2.2.1 46 (by decide) (by decide)).2.1, (pA.1.2.2.2.2.1 46 (by decide) (by decide)).2.1, (i.2.1.2.2.2.2.1 46 (by decide) (by decide)).2.1]
    have w43 : qI w 43 (fN S).toNat = xS S + 1 := by rw [G.2, nu]; unfold upd; rw [if_pos rfl]
    have u43 : qI u 43 = qI S 43 := by rw [(p1.2.2.2.2.1 43 (by decide) (by decide)).1, (fE.2.2.2.2.1 43 (by decide) (by decide)).1, (pA.1.2.2.2.2.1 43 (by decide) (by decide)).1, (i.2.1.2.2.2.2.1 43 (by decide) (by decide)).1]
    have L : LcP S w := by
      refine ⟨fr, fun j hj => ⟨?_, ?_⟩, fun j hj => ⟨by rw [w45], ?_⟩⟩
      · rw [G.2, nu]; unfold upd; rw [if_neg hj, u43]
      · rw [w44, p3]; unfold upd; rw [if_neg hj, E44, pA.2.2 j (by rw [b2]; exact hj), (i.2.1.2.2.2.2.1 44 (by decide) (by decide)).1]
      · rw [w46, p2, if_neg (by omega), E46]
    have aw : ArI w := aE.eq w85 (by rw [(G.1.2.2.2.2.2 86 (by decide)).1, (p1.2.2.2.2.2 86 (by decide)).1]) (by rw [(G.1.2.2.2.2.1 39 (by decide) (by decide)).1, (p1.2.2.2.2.1 39 (by decide) (by decide)).1]) (by rw [(G.1.2.2.2.2.1 40 (by decide) (by decide)).1, (p1.2.2.2.2.1 40 (by decide) (by decide)).1])
    have vw : FvI w f := i.1.2.2.1.2.eq f92 (big_frm fr LcW92) (by omega) (by rw [(G.1.2.2.2.2.1 37 (by decide) (by decide)).2.1, (p1.2.2.2.2.1 37 (by decide) (by decide)).2.1, (fE.2.2.2.2.1 37 (by decide) (by decide)).2.1, (pA.1.2.2.2.2.1 37 (by decide) (by decide)).2.1, (i.2.1.2.2.2.2.1 37 (by decide) (by decide)).2.1])
    have nx := i.nx gg
    have tkv := z.2.1
    have gvv := z.2.2
    have pos : 24 * (fN S).toNat + ((aT a).toInt - 1).toNat = (24 * fN S + ((aT a).toInt - 1)).toNat := by omega
    refine i.go L aw vw (by omega) nm (by rw [w43]; exact nx) ?_ (fun k _ _ => by unfold slF; rw [w45]) (fun q => absurd (Or.inl q) no.1) (fun q => absurd q no.2) (fun q => absurd (Or.inr (Or.inr q)) no.1) (fun k hk => ?_) (fun j hj v ev => ?_)
    · rw [w44, tkv, gvv]
      unfold fT at p4
      rw [nu] at p4
      rw [p4, nE]
      have : (qI E 44 (fN S).toNat).toInt = (aT a).toInt - 1 := by rw [E44]; exact A44
      rw [this, li_1]
    · unfold plF
      rw [w46, p2, if_neg (by omega), E46]
    · have ja : qN U (10000028 + 1) = 1 ∧ (qI U (10000028 + 1) 0).toInt = 65 := l1.2.2.2.2.2.2.2.2.2.1
      rw [z.1.2] at hj ev ⊢
      have j0 : j = 0 := by omega
      subst j0
      have z0 : plc (qI U (10000028 + 1)) 0 = 0 := rfl
      have e : v = (qI E 0 85).toInt64 := by
        rw [ev, z0, tkv, Int.add_zero]
        unfold plF
        rw [w46, p2, if_pos pos]
      rw [ja.2]
      refine ⟨fun _ => ?_, fun y => absurd y (by decide), fun y => absurd y (by decide), fun y => absurd y (by decide)⟩
      rw [e, tl_of, w85]
      have := aE.1.1
      omega
  · obtain ⟨Q, x1, x2⟩ := i.th (e := 3) pA
    exact ⟨Q, x1, fun w hw => PlQ.no (x2 w hw)⟩
theorem InS.onA {S V U : MS} {f s p : Nat} {a : AS} (i : InS S V f U s p a) (ho : (f_op U (xS S)).toInt = 46 ∨ (f_op U (xS S)).toInt = 79 ∨ (f_op U (xS S)).toInt = 188 ∨ (f_op U (xS S)).toInt = 190 ∨ (f_op U (xS S)).toInt = 191) : w_onArrays V (f_op U (xS S)) (PlQ S f) := by
  obtain ⟨b0, b1, b2, b3, b4, L1, b5⟩ := i.v
  obtain ⟨kk, t, hx, st, hT, h0⟩ := i.t
  unfold w_onArrays
  have j65 : ∀ (A : MS) (v : Int32) (d : Int), PpP V d A → 0 ≤ d → d + (if (f_op U (xS S)).toInt = 190 then 1 else 2) = tkV U (xS S) → ((f_op U (xS S)).toInt = 46 ∨ (f_op U (xS S)).toInt = 79 ∨ (f_op U (xS S)).toInt = 190) → w_onArrays_J65 (PlQ S f) A v (f_op U (xS S)) := fun A v d pA d0 ed o => by
    unfold w_onArrays_J65
    refine ⟨fun c => i.j81 o ?_, fun c => ?_⟩
    · rw [if_pos c] at ed
      rw [show tkV U (xS S) - 1 = d by omega]
      exact pA
    · rw [if_neg c] at ed
      refine i.gi pA d0 (by omega) (fun r B pB er => i.j81 o ?_)
      rw [show tkV U (xS S) - 1 = d + 1 by omega]
      exact pB
  refine ⟨fun c => ?_, fun c => ⟨fun c1 => ?_, fun c1 => ⟨fun c2 => ?_, fun c2 => ?_⟩⟩⟩
  · have z := tg_188 c t
    have t1 : 1 ≤ (aT a).toInt := by have := hT.1; rw [z.2.1] at this; exact this
    exact i.gi PpP.rf (by decide) (by omega) (fun r B pB er => ⟨_, i.made c pB, fun _ _ hu => hu⟩)
  · have z := tg_191 c1 t
    have t1 : 1 ≤ (aT a).toInt := by have := hT.1; rw [z.2.1] at this; exact this
    refine ⟨_, sp_pop (n := 1) b1 PpP.rf (by decide) ⟨by decide, by rw [li_1, b4]; omega⟩ (by rw [b4]; exact hT.2.1), ?_⟩
    rintro r B ⟨pB, -⟩
    refine ⟨fun _ => ?_, fun _ => ?_⟩
    · obtain ⟨Q, x1, x2⟩ := i.th (e := 1) pB
      exact ⟨Q, x1, fun w hw => PlQ.no (x2 w hw)⟩
    · obtain ⟨Q, x1, x2⟩ := i.th (e := ((-1 : Int64) - r).toInt32) pB
      exact ⟨Q, x1, fun w hw => PlQ.no (x2 w hw)⟩
  · have z := tg_79 c2 t
    have t1 : 3 ≤ (aT a).toInt := by have := hT.1; rw [z.2.1] at this; exact this
    exact i.gi PpP.rf (by decide) (by omega) (fun r B pB er => j65 B r _ pB (by decide) (by rw [if_neg (by omega), z.2.1]; decide) (by omega))
  · by_cases c3 : (f_op U (xS S)).toInt = 190
    · exact j65 V 0 0 PpP.rf (by decide) (by rw [if_pos c3, (tg_190 c3 t).2.1]; decide) (by omega)
    · have c4 : (f_op U (xS S)).toInt = 46 := by omega
      exact j65 V 0 0 PpP.rf (by decide) (by rw [if_neg c3, (tg_46 c4 t).2.1]; decide) (by omega)
/-! plain, step (behind InS.onA, InS.get, InS.put, InS.mvs, InS.sto, sp_watch) -/
/-- a store, from its steps -/
theorem InS.sto2 {S V U W A D : MS} {f s p : Nat} {a : AS} {n : Int32} {r : Int64} (i : InS S V f U s p a) (ho : isSt (f_op U (xS S))) (kW : frm [47] [] V W) (en : n.toInt = tkV U (xS S)) (pA : PpP W (0 + n.toInt) A) (er : r = qJ W 46 (24 * fN W + fT W - 0 - n.toInt).toNat) (eD : D = wJ A 45 (24 * fN S + (f_first U (xS S)).toInt).toNat r) (hf : 0 ≤ (f_first U (xS S)).toInt) : PlQ S f 1 D := by
  obtain ⟨b0, b1, b2, b3, b4, L1, b5⟩ := i.v
  obtain ⟨kk, t, hx, st, hT, h0⟩ := i.t
  have mW := b1.mv kW
  have W44 : qI W 44 = qI V 44 := (kW.2.2.2.2.1 44 (by decide) (by decide)).1
  have W46 : qJ W 46 = qJ S 46 := by rw [(kW.2.2.2.2.1 46 (by decide) (by decide)).2.1, (i.2.1.2.2.2.2.1 46 (by decide) (by decide)).2.1]
  have tW : fT W = (aT a).toInt := by
    rw [← b4]
    unfold fT
    rw [mW.2, W44]
  have fD : frm [45] [] A D := by rw [eD]; exact frm.pJ (by decide)
  have mA := mW.1.mv pA.1
  have nD := (mA.1.mv fD).2
  have D44 : qI D 44 = qI A 44 := (fD.2.2.2.2.1 44 (by decide) (by decide)).1
  refine i.sto ho ((kW.mo (by decide) (by decide)).tr ((pA.1.mo (by decide) (by decide)).tr (fD.mo (by decide) (by decide)))) ?_ (fun j hj => ?_) (fun j => ?_)
  · have z := pA.2.1
    rw [tW] at z
    unfold fT at z
    show (qI D 44 (fN D).toNat).toInt = _
    rw [nD, D44, z, b4, en]
    omega
  · rw [D44, pA.2.2 j (by rw [mW.2]; exact hj), W44]
  · rw [eD, qJ_wJ]
    by_cases c : j = 24 * (fN S).toNat + (f_first U (xS S)).toInt.toNat
    · rw [if_pos ⟨rfl, by omega⟩, if_pos c, er, mW.2, b2, tW, W46, en]
      unfold plF
      rw [show (24 * fN S + (aT a).toInt - 0 - tkV U (xS S)).toNat = 24 * (fN S).toNat + ((aT a).toInt - tkV U (xS S)).toNat by omega]
    · rw [if_neg (fun q => c (by have := q.2; omega)), if_neg c, (pA.1.2.2.2.2.1 45 (by decide) (by decide)).2.1, (kW.2.2.2.2.1 45 (by decide) (by decide)).2.1]
theorem InS.pop12 {S V U : MS} {f s p : Nat} {a : AS} {d : Int32} (i : InS S V f U s p a) (ho : (f_op U (xS S)).toInt = 87 ∧ d.toInt = 1 ∨ (f_op U (xS S)).toInt = 88 ∧ d.toInt = 2) : (((0 : Int) ≤ ((qI V 0 97) - (1 : Int32)).toInt ∧ ((qI V 0 97) - (1 : Int32)).toInt < 60) ∧ (((0 : Int) ≤ ((qI V 0 97) - (1 : Int32)).toInt ∧ ((qI V 0 97) - (1 : Int32)).toInt < 60) ∧ (∀ D, D = wI V 44 ((((qI V 0 97) - (1 : Int32)).toInt).toNat) ((qI V 44 ((((qI V 0 97) - (1 : Int32)).toInt).toNat)) - d) → PlQ S f (1 : Int32) D))) := by
  obtain ⟨b0, b1, b2, b3, b4, L1, b5⟩ := i.v
  obtain ⟨kk, t, hx, st, hT, h0⟩ := i.t
  obtain ⟨y1, y2, y3, y4⟩ := b1.e
  have om : 0 < (f_moved U (f_op U (xS S))).toInt := mv_iff.mpr (by omega)
  have m := mvn (S := U) (op := f_op U (xS S))
  have lf := lfn (S := U) (op := f_op U (xS S))
  have eT : tkV U (xS S) = d.toInt := by
    unfold tkV
    rw [if_pos om]
    rcases ho with q | q
    · rw [m.1 (Or.inl q.1), q.2]
    · rw [m.2 (Or.inl q.1), q.2]
  have eG : gvV U (xS S) = 0 := by
    unfold gvV
    rw [if_pos om]
    exact lf.1 (by omega)
  rw [y1]
  refine ⟨⟨y2, y3⟩, ⟨y2, y3⟩, fun D eD => ?_⟩
  have k : frm [44, 46, 48] [] V D := by rw [eD]; exact frm.pI (by decide)
  have nD := (b1.mv k).2
  have D46 : qJ D 46 = qJ V 46 := by rw [eD]; rfl
  have t0 : (qI V 44 (fN V).toNat).toInt = (aT a).toInt := by unfold fT at b4; exact b4
  refine i.mvs om k ?_ (fun j hj => by rw [eD, qI_wI, if_neg (fun q => hj q.2)]) ?_ (fun j hj => by rw [D46])
  · show (qI D 44 (fN D).toNat).toInt = _
    rw [nD, eD, qI_wI, if_pos ⟨rfl, rfl⟩, t_sub (by omega), t0, eT, eG, b4]
    omega
  · have e : plF D (fN V).toNat = plF V (fN V).toNat := by funext j; unfold plF; rw [D46]
    rw [e]
    exact ⟨fun _ _ _ => rfl, fun _ _ _ => rfl, fun q => by omega, fun q => by omega, fun q => by omega, fun q => by omega⟩
theorem InS.shf {S V U : MS} {f s p : Nat} {a : AS} (i : InS S V f U s p a) (ho : (f_op U (xS S)).toInt = 89 ∨ (f_op U (xS S)).toInt = 90 ∨ (f_op U (xS S)).toInt = 92 ∨ (f_op U (xS S)).toInt = 95) : ∃ Q1, w_shuffle V (f_op U (xS S)) Q1 ∧ ∀ u, Q1 u → PlQ S f 1 u := by
  obtain ⟨b0, b1, b2, b3, b4, L1, b5⟩ := i.v
  obtain ⟨kk, t, hx, st, hT, h0⟩ := i.t
  have om : 0 < (f_moved U (f_op U (xS S))).toInt := mv_iff.mpr (by omega)
  have m := mvn (S := U) (op := f_op U (xS S))
  have lf := lfn (S := U) (op := f_op U (xS S))
  have eT : tkV U (xS S) = (if (f_op U (xS S)).toInt = 89 then 1 else 2) := by
    unfold tkV
    rw [if_pos om]
    by_cases q : (f_op U (xS S)).toInt = 89
    · rw [if_pos q]; exact m.1 (Or.inr q)
    · rw [if_neg q]; exact m.2 (by omega)
  have eG : gvV U (xS S) = (if (f_op U (xS S)).toInt = 90 then 3 else if (f_op U (xS S)).toInt = 92 then 4 else 2) := by
    unfold gvV
    rw [if_pos om]
    by_cases q : (f_op U (xS S)).toInt = 90
    · rw [if_pos q]; exact lf.2.2.1 q
    · rw [if_neg q]
      by_cases q2 : (f_op U (xS S)).toInt = 92
      · rw [if_pos q2]; exact lf.2.2.2 q2
      · rw [if_neg q2]; exact lf.2.1 (by omega)
  have hh : 1 ≤ fT V ∧ ((f_op U (xS S)).toInt = 89 ∨ 2 ≤ fT V) ∧ fT V ≤ 24 ∧ ((f_op U (xS S)).toInt = 92 → fT V ≤ 22) ∧ ((f_op U (xS S)).toInt = 89 ∨ (f_op U (xS S)).toInt = 90 → fT V ≤ 23) := by
    rw [b4]
    obtain ⟨h1, h2, h3⟩ := hT
    rw [eT] at h1 h3
    rw [eG] at h3
    rcases ho with q | q | q | q
    · rw [if_pos q] at h1 h3
      rw [if_neg (by omega), if_neg (by omega)] at h3
      omega
    · rw [if_neg (by omega)] at h1 h3
      rw [if_pos q] at h3
      omega
    · rw [if_neg (by omega)] at h1 h3
      rw [if_neg (by omega), if_pos q] at h3
      omega
    · rw [if_neg (by omega)] at h1 h3
      omega
  refine ⟨_, sp_shuffle b1 ho hh, fun u hu => ?_⟩
  obtain ⟨k, e1, o44, mm, lo⟩ := hu
  refine i.mvs om k ?_ o44 mm lo
  rw [e1, eT, eG]
  rcases ho with q | q | q | q
  · rw [if_pos (Or.inl q), if_pos q, if_neg (by omega), if_neg (by omega)]; omega
  · rw [if_pos (Or.inr q), if_neg (by omega), if_pos q]; omega
  · rw [if_neg (by omega), if_pos q, if_neg (by omega), if_neg (by omega), if_pos q]; omega
  · rw [if_neg (by omega), if_neg (by omega), if_neg (by omega), if_neg (by omega), if_neg (by omega)]; omega
theorem InS.plain {S V U : MS} {f s p : Nat} {a : AS} (i : InS S V f U s p a) (kV : LkI V) (hw : opW (f_op U (xS S)).toInt) (h1 : ¬ isAr (f_op U (xS S)).toInt) (h2 : ¬ ((153 ≤ (f_op U (xS S)).toInt ∧ (f_op U (xS S)).toInt ≤ 167) ∨ (f_op U (xS S)).toInt = 198 ∨ (f_op U (xS S)).toInt = 199)) (h3 : ¬ ((170 ≤ (f_op U (xS S)).toInt ∧ (f_op U (xS S)).toInt ≤ 177) ∨ (f_op U (xS S)).toInt = 184)) : w_plain V (xS S) (f_op U (xS S)) (f_first U (xS S)) (PlQ S f) := by
  obtain ⟨b0, b1, b2, b3, b4, L1, b5⟩ := i.v
  obtain ⟨kk, t, hx, st, hT, h0⟩ := i.t
  have l1 := tx_l1 t
  have lc := i.lc
  have l2 : (2 : Int32).toInt = 2 := by decide
  have v52 : qI V 0 52 = qI U 0 52 := i.2.2.2.2.2.2.2 52 (by decide) (by decide)
  have dV := kV.dop (x := xS S) (by rw [v52]; exact hx)
  have v45 : qJ V 45 = qJ S 45 := (i.2.1.2.2.2.2.1 45 (by decide) (by decide)).2.1
  -- one value onto the pile
  have put0 : ∀ v : Int64, tkV U (xS S) = 0 → gvV U (xS S) = 1 → ∃ Q, w_put V v 1 Q ∧ ∀ u, Q u → PuP V (tkV U (xS S)) (gvV U (xS S)) v u := fun v e1 e2 => by
    obtain ⟨Q, x1, x2⟩ := sp_psh (v := v) (n := 1) b1 PpP.rf (Or.inl li_1) ⟨by omega, by rw [li_1]; omega⟩
    exact ⟨Q, x1, fun u hu => by rw [e1, e2]; have z := x2 u hu; rw [li_1] at z; exact z⟩
  have put2 : ∀ (A : MS) (v : Int64) (d : Int), PpP V d A → tkV U (xS S) = d → gvV U (xS S) = 2 → ∃ Q, w_put A v 2 Q ∧ ∀ u, Q u → PuP V (tkV U (xS S)) (gvV U (xS S)) v u := fun A v d pA e1 e2 => by
    obtain ⟨Q, x1, x2⟩ := sp_psh (v := v) (n := 2) b1 pA (Or.inr l2) ⟨by omega, by rw [l2]; omega⟩
    exact ⟨Q, x1, fun u hu => by rw [e1, e2]; have z := x2 u hu; rw [l2] at z; exact z⟩
  have putI : ∀ (A : MS) (v : Int32) (d : Int), PpP V d A → tkV U (xS S) = d → gvV U (xS S) = 1 → ∃ Q, w_putInt A v Q ∧ ∀ u, Q u → PuP V (tkV U (xS S)) (gvV U (xS S)) v.toInt64 u := fun A v d pA e1 e2 => by
    obtain ⟨Q, x1, x2⟩ := sp_psi (v := v) b1 pA ⟨by omega, by omega⟩
    exact ⟨Q, x1, fun u hu => by rw [e1, e2]; exact x2 u hu⟩
  have putT : ∀ (v : Int64) (g : Int32), tkV U (xS S) = 0 → gvV U (xS S) = 1 → ∃ Q, w_putTagged V v g 1 Q ∧ ∀ u, Q u → PuP V (tkV U (xS S)) (gvV U (xS S)) v u := fun v g e1 e2 => by
    obtain ⟨Q, x1, x2⟩ := sp_pst (v := v) (t := g) (n := 1) b1 PpP.rf (Or.inl li_1) ⟨by omega, by rw [li_1]; omega⟩
    exact ⟨Q, x1, fun u hu => by rw [e1, e2]; have z := x2 u hu; rw [li_1] at z; exact z⟩
  have conv : ∀ (n : Int32) (F : MS → Int64 → Int32), (n.toInt = 1 ∨ n.toInt = 2) → tkV U (xS S) = n.toInt → gvV U (xS S) = 1 → f_givesOf U (xS S) = 10000016 → isPl (f_op U (xS S)).toInt → ∃ Q1, w_got V n Q1 ∧ ∀ r A, Q1 r A → (d_turned A (f_op U (xS S)) r ∧ ∃ Q2, w_putInt A (F A r) Q2 ∧ ∀ u, Q2 u → PlQ S f (1 : Int32) u) := fun n F hn e1 e2 e3 pl => by
    refine ⟨_, sp_pop (n := n) b1 PpP.rf (by decide) ⟨by omega, by rw [b4]; omega⟩ (by rw [b4]; exact hT.2.1), ?_⟩
    rintro r A ⟨pA, -⟩
    obtain ⟨Q, x1, x2⟩ := putI A (F A r) _ pA (by omega) e2
    exact ⟨trivial, Q, x1, fun u hu => i.pI pl (x2 u hu) (Or.inl ⟨e3, i64_int _⟩)⟩
  have slr : ∀ k : Int32, (0 ≤ k.toInt ∧ k.toInt < 24) → (0 ≤ (f_slot V k).toInt ∧ (f_slot V k).toInt < 1440) ∧ (f_slot V k).toInt.toNat = 24 * (fN S).toNat + k.toInt.toNat := fun k hk => by
    have e := i.slot (W := V) rfl ⟨hk.1, by omega⟩
    omega
  have sv : ∀ k : Int32, (0 ≤ k.toInt ∧ k.toInt < 24) → qJ V 45 (f_slot V k).toInt.toNat = slF S (fN S).toNat k.toInt.toNat := fun k hk => by
    rw [(slr k hk).2, v45]
    rfl
  have store : ∀ (n : Int32), isSt (f_op U (xS S)) → tkV U (xS S) = n.toInt → (n.toInt = 1 ∨ n.toInt = 2) → (0 ≤ (f_first U (xS S)).toInt ∧ (f_first U (xS S)).toInt < 24) → ∀ W : MS, frm [47] [] V W → ∃ Q1, w_got W n Q1 ∧ ∀ r A, Q1 r A → (((0 : Int) ≤ (f_slot W (f_first U (xS S))).toInt ∧ (f_slot W (f_first U (xS S))).toInt < 1440) ∧ (∀ D, D = wJ A 45 (((f_slot W (f_first U (xS S))).toInt).toNat) r → PlQ S f (1 : Int32) D)) := fun n o1 e1 hn hf W kW => by
    have mW := b1.mv kW
    have tW : fT W = (aT a).toInt := by
      rw [← b4]
      unfold fT
      rw [mW.2, (kW.2.2.2.2.1 44 (by decide) (by decide)).1]
    have e := i.slot (W := W) ((kW.2.2.2.2.2 97 (by decide)).1) ⟨hf.1, by omega⟩
    refine ⟨_, sp_pop (n := n) mW.1 PpP.rf (by decide) ⟨by omega, by rw [tW]; omega⟩ (by rw [tW]; exact hT.2.1), ?_⟩
    rintro r A ⟨pA, er⟩
    rw [e]
    exact ⟨⟨by omega, by omega⟩, fun D eD => i.sto2 o1 kW e1.symm pA er eD hf.1⟩
  unfold w_plain
  refine ⟨fun c => ?_, fun c0 => ⟨fun c => ?_, fun c1 => ⟨fun c => ?_, fun c18 => ⟨fun c => ?_, fun c20 => ⟨fun c => ?_, fun c21 => ⟨fun c => ?_, fun c22 => ⟨fun c => ?_, fun c25 => ⟨fun c => ?_, fun c54 => ⟨fun c => ?_, fun c55 => ⟨fun c => ?_, fun c58 => ⟨fun c => ?_, fun c87 => ⟨fun c => ?_, fun c88 => ⟨fun c => ?_, fun c89 => ⟨fun c => ?_, fun c90 => ⟨fun c => ?_, fun c92 => ⟨fun c => ?_, fun c95 => ⟨fun c => ?_, fun c132 => ⟨fun c => ?_, fun c133 => ⟨fun c => ?_, fun c136 => ⟨fun c => ?_, fun c145 => ⟨fun c => ?_, fun c146 => ⟨fun c => ?_, fun c147 => ⟨fun c => ?_, fun c178 => ⟨fun c => ?_, fun c179 => ?_⟩⟩⟩⟩⟩⟩⟩⟩⟩⟩⟩⟩⟩⟩⟩⟩⟩⟩⟩⟩⟩⟩⟩⟩
  · have z := tg_0 c t
    exact i.p0 (by unfold isPl; omega) (by rw [z.2.1]; exact PpP.rf) (by rw [z.1.2]; exact l1.2.2.2.2.2.2.2.2.2.2.2.1)
  · have z := tg_1 c t
    obtain ⟨Q, x1, x2⟩ := put0 0 z.2.1 z.2.2
    refine ⟨Q, x1, fun u hu => i.p1 (by unfold isPl; omega) (x2 u hu) (by rw [z.1.2]; exact l1.2.2.2.2.2.2.2.2.2.2.2.2.1) ?_⟩
    have c1 : (qI U (10000034 + 1) 0).toInt = 78 := l1.2.2.2.2.2.2.2.2.2.2.2.2.2
    rw [z.1.2, c1]
    exact ⟨fun y => absurd y (by decide), fun _ => by decide, fun y => absurd y (by decide), fun y => absurd y (by decide)⟩
  · have z := tg_18 c t
    obtain ⟨Q, x1, x2⟩ := putI V (f_first U (xS S)) 0 PpP.rf z.2.1 z.2.2
    exact ⟨Q, x1, fun u hu => i.pI (by unfold isPl; omega) (x2 u hu) (Or.inl ⟨z.1.2, i64_int _⟩)⟩
  · have z := tg_20 c t
    obtain ⟨Q, x1, x2⟩ := put2 V (f_longOf V (xS S)) 0 PpP.rf z.2.1 z.2.2
    exact ⟨⟨dV.2.1, dV.2.2, trivial⟩, Q, x1, fun u hu => i.pI (by unfold isPl; omega) (x2 u hu) (Or.inr z.1.2)⟩
  · have z := tg_21 c t
    have hf := lc.1 (Or.inl c)
    have r := slr _ hf
    have pl : isPl (f_op U (xS S)).toInt := by unfold isPl; omega
    obtain ⟨Q, x1, x2⟩ := putT (qJ V 45 (f_slot V (f_first U (xS S))).toInt.toNat) (qI V 47 (f_slot V (f_first U (xS S))).toInt.toNat) z.2.1 z.2.2
    refine ⟨trivial, r.1, trivial, r.1, Q, x1, fun u hu => i.pI pl (x2 u hu) (Or.inl ⟨z.1.2, ?_⟩)⟩
    rw [sv _ hf]
    exact (i.2.2.2.2.1.1 _ (by omega)).2.2 ((i.wd pl.f.1).1 (Or.inl c))
  · have z := tg_22 c t
    have hf := lc.2 (Or.inl c)
    have r := slr (f_first U (xS S)) ⟨hf.1, by omega⟩
    obtain ⟨Q, x1, x2⟩ := put2 V (qJ V 45 (f_slot V (f_first U (xS S))).toInt.toNat) 0 PpP.rf z.2.1 z.2.2
    exact ⟨trivial, r.1, Q, x1, fun u hu => i.pI (by unfold isPl; omega) (x2 u hu) (Or.inr z.1.2)⟩
  · have z := tg_25 c t
    have hf := lc.1 (Or.inr (Or.inl c))
    have r := slr _ hf
    obtain ⟨Q, x1, x2⟩ := putT (qJ V 45 (f_slot V (f_first U (xS S))).toInt.toNat) (qI V 47 (f_slot V (f_first U (xS S))).toInt.toNat) z.2.1 z.2.2
    refine ⟨trivial, r.1, trivial, r.1, Q, x1, fun u hu => i.p1 (by unfold isPl; omega) (x2 u hu) (by rw [z.1.2]; exact l1.2.2.2.2.2.2.2.1.1) ?_⟩
    have c1 : (qI U (10000024 + 1) 0).toInt = 82 := l1.2.2.2.2.2.2.2.1.2
    rw [z.1.2, c1]
    refine ⟨fun y => absurd y (by decide), fun y => absurd y (by decide), fun _ => ?_, fun y => absurd y (by decide)⟩
    rw [sv _ hf]
    have ok := i.2.2.2.2.1.1 (f_first U (xS S)).toInt.toNat (by omega)
    unfold thV
    simp only [if_pos c]
    by_cases y : (isTh (aL a (f_first U (xS S)).toInt.toNat)).toInt = 0
    · rw [if_pos y]; exact okV.z.1
    · rw [if_neg y, st.1.nb.1 _ (by omega)]; exact ok
  · have z := tg_54 c t
    have hf := lc.1 (by omega)
    exact ⟨trivial, d_tg b1 ⟨by decide, by rw [li_1, b4]; have := hT.1; omega⟩ (by rw [b4]; exact hT.2.1), (slr _ hf).1, fun W eW => ⟨trivial, store 1 (Or.inl c) (by rw [li_1]; exact z.2.1) (Or.inl li_1) hf W (by rw [eW]; exact frm.pI (by decide))⟩⟩
  · have z := tg_55 c t
    have hf := lc.2 (Or.inr c)
    have hf2 : 0 ≤ (f_first U (xS S)).toInt ∧ (f_first U (xS S)).toInt < 24 := by omega
    have t2 : 2 ≤ (aT a).toInt := by have := hT.1; rw [z.2.1] at this; exact this
    have e1 : (f_first U (xS S) + (1 : Int32)).toInt = (f_first U (xS S)).toInt + 1 := by rw [t_add (by rw [li_1]; omega), li_1]
    refine ⟨trivial, d_tg b1 ⟨by decide, by rw [l2, b4]; omega⟩ (by rw [b4]; exact hT.2.1), (slr _ hf2).1, fun W eW => ?_⟩
    have kW : frm [47] [] V W := by rw [eW]; exact frm.pI (by decide)
    have mW := b1.mv kW
    have tW : fT W = (aT a).toInt := by
      rw [← b4]
      unfold fT
      rw [mW.2, (kW.2.2.2.2.1 44 (by decide) (by decide)).1]
    have e := i.slot (W := W) (k := f_first U (xS S) + 1) ((kW.2.2.2.2.2 97 (by decide)).1) (by omega)
    refine ⟨trivial, d_tg mW.1 ⟨by decide, by rw [li_1, tW]; omega⟩ (by rw [tW]; exact hT.2.1), ⟨by omega, by omega⟩, fun X eX => ⟨trivial, store 2 (Or.inr (Or.inl c)) (by rw [l2]; exact z.2.1) (Or.inr l2) hf2 X (kW.tr (by rw [eX]; exact frm.pI (by decide)))⟩⟩
  · have z := tg_58 c t
    have hf := lc.1 (by omega)
    exact ⟨trivial, d_tg b1 ⟨by decide, by rw [li_1, b4]; have := hT.1; omega⟩ (by rw [b4]; exact hT.2.1), (slr _ hf).1, fun W eW => ⟨trivial, store 1 (Or.inr (Or.inr c)) (by rw [li_1]; exact z.2.1) (Or.inl li_1) hf W (by rw [eW]; exact frm.pI (by decide))⟩⟩
  · exact i.pop12 (Or.inl ⟨c, li_1⟩)
  · exact i.pop12 (Or.inr ⟨c, l2⟩)
  · exact i.shf (Or.inl c)
  · exact i.shf (Or.inr (Or.inl c))
  · exact i.shf (Or.inr (Or.inr (Or.inl c)))
  · exact i.shf (Or.inr (Or.inr (Or.inr c)))
  · have hf := lc.1 (by omega)
    have r := slr _ hf
    have e := i.slot (W := V) (k := f_first U (xS S)) rfl ⟨hf.1, by omega⟩
    refine ⟨trivial, trivial, r.1, dV.2.2, r.1, fun D eD => ?_⟩
    rw [e] at eD
    exact i.grow c eD
  · have z := tg_133 c t
    refine ⟨_, sp_pop (n := 1) b1 PpP.rf (by decide) ⟨by decide, by rw [li_1, b4]; have := hT.1; omega⟩ (by rw [b4]; exact hT.2.1), ?_⟩
    rintro r A ⟨pA, -⟩
    rw [li_1] at pA
    obtain ⟨Q, x1, x2⟩ := put2 A (f_turned A (f_op U (xS S)) r) _ pA (by rw [z.2.1]; rfl) z.2.2
    exact ⟨trivial, Q, x1, fun u hu => i.pI (by unfold isPl; omega) (x2 u hu) (Or.inr z.1.2)⟩
  · have z := tg_136 c t
    exact conv 2 (fun A r => (f_turned A (f_op U (xS S)) r).toInt32) (Or.inr l2) (by rw [l2]; exact z.2.1) z.2.2 z.1.2 (by unfold isPl; omega)
  · have z := tg_145 c t
    exact conv 1 (fun A r => (f_turned A (f_op U (xS S)) r).toInt32) (Or.inl li_1) (by rw [li_1]; exact z.2.1) z.2.2 z.1.2 (by unfold isPl; omega)
  · have z := tg_146 c t
    exact conv 1 (fun A r => (f_turned A (f_op U (xS S)) r).toInt32) (Or.inl li_1) (by rw [li_1]; exact z.2.1) z.2.2 z.1.2 (by unfold isPl; omega)
  · have z := tg_147 c t
    exact conv 1 (fun A r => (f_turned A (f_op U (xS S)) r).toInt32) (Or.inl li_1) (by rw [li_1]; exact z.2.1) z.2.2 z.1.2 (by unfold isPl; omega)
  · exact i.get c
  · exact i.put c
  · refine ⟨_, i.onA ?_, fun _ _ hu => hu⟩
    unfold isAr at h1
    clear slr sv store conv putT putI put2 put0 l1 lc
    unfold opW at hw
    omega
/-! step (behind InS.plain, InS.called, InS.leave, InS.switch, InS.work, InS.jump, sp_watch) -/
theorem McI.ins {S V : MS} {f : Nat} {U : MS} {s p : Nat} {a : AS} (h : McI S f) (k : frm [] [47, 48, 49, 50, 51, 52, 53, 54, 96] S V) (hU : FrU S f (fN S).toNat U s p a) (e : (qI S 44 (fN S).toNat).toInt = (aT a).toInt) (ok : okA (qI S 0 85).toInt a (slF S (fN S).toNat) (plF S (fN S).toNat)) (m : smM U V) : InS S V f U s p a := ⟨h, k, hU, e, ok, m⟩
theorem opW_17 {t : Int} (h : opW t) : ¬ (t = 174 ∨ t = 175) := by
  unfold opW at h
  omega
theorem sp_step {S : MS} {f : Nat} (h : McI S f) : w_step S (McQ f) := by
  have h' := h
  obtain ⟨b0, ⟨⟨f92, h80⟩, fl, vf, tx⟩, ⟨hA, hF⟩, ⟨U, s, p, a, hU, eT, ok⟩, mid⟩ := h
  obtain ⟨y1, y2, y3, y4⟩ := b0.e
  have o80 : qO S 0 80 = f := by unfold qO; rw [h80]; rfl
  have hU' := hU
  obtain ⟨-, g1, g2, g3, g4, g5, g6, g7, g8⟩ := hU
  unfold w_step
  rw [o80, y1]
  refine ⟨h80, ⟨y2, y3⟩, _, sp_look fl g1, ?_⟩
  rintro A ⟨⟨fA, kA⟩, lo⟩
  have kb := big_frm fA (by decide)
  have mA := hU'.mm kb lo
  have A97 : qI A 0 97 = qI S 0 97 := (fA.2.2.2.2.2 97 (by decide)).1
  have A43 : qI A 43 = qI S 43 := (fA.2.2.2.2.1 43 (by decide) (by decide)).1
  have bA : FrB A := by unfold FrB; rw [A97]; exact b0
  have nA : fN A = fN S := by unfold fN; rw [A97]
  have tA : fT A = (aT a).toInt := by
    unfold fT
    rw [nA, (fA.2.2.2.2.1 44 (by decide) (by decide)).1]
    exact eT
  rw [A97, y1, A43]
  refine ⟨⟨y2, y3⟩, fun x ex => ?_⟩
  have exS : x = xS S := ex
  subst exS
  have st := g8.2.2.1
  have A52 : qI A 0 52 = qI U 0 52 := mA.2.2 52 (by decide) (by decide)
  have tv := (mA.tv g4.1 g4.2.1 (x := xS S) g7).1
  have tv' : tkV A (xS S) = tkV U (qI S 43 (fN S).toNat) := tv
  -- what watch reads
  obtain ⟨St, R, nc, v1, v2, v3, v4, v5, v6, v7, v8⟩ := vf.2.1
  have A51 : qI A 0 51 = qI S (f + 10) (qI S 42 (fN S).toNat).toInt.toNat := lo.2.1
  have hw51 : 0 ≤ (qI A 0 51).toInt ∧ (qI A 0 51).toInt ≤ 28800 ∧ 4 * ((qI A 0 51).toInt + (xS S).toInt) + 4 ≤ (qN A St : Int) := by
    obtain ⟨-, -, -, -, -, R', T, C, nc', ts, cn, r1, r2, r3, r4, r5, r6⟩ := fl
    obtain ⟨-, -, -, mt⟩ := r6 (qI S 42 (fN S).toNat).toInt.toNat (by omega)
    have eR : R = R' := by
      have z := r2.1
      rw [v5] at z
      injection z
    subst eR
    have e1 := r4.1
    have q1 := mt.1
    have q2 := mt.2.2.1
    have q3 : qI A 0 52 = qI S (f + 11) (qI S 42 (fN S).toNat).toInt.toNat := lo.2.2.1
    have q4 : (xS S).toInt < (qI U 0 52).toInt := g7.2
    rw [← A51] at q1 q2
    rw [← q3, A52] at q2
    have eN : qN A St = 4 * nc := by rw [fA.2.1]; exact v4
    rw [eN]
    have r51 := r5.1
    omega
  refine ⟨_, sp_watch kA (tx.fm fA (by decide)) bA (by rw [A52]; exact g7) ⟨by rw [tv', tA]; exact st.1, by rw [tA]; omega⟩ (f := f) (St := St) (by rw [(fA.2.2.2.2.2 80 (by decide)).2.2]; exact h80) (by rw [(kb f f92).2.2.1]; exact v2) hw51, fun V fV => ?_⟩
  have k : frm [] [47, 48, 49, 50, 51, 52, 53, 54, 96] S V := (fA.mo (by decide) (by decide)).tr (fV.mo (by decide) (by decide))
  have mV := mA.fm fV (by decide) (by decide)
  have kV : LkI V := kA.mv (smL.fm fV (by decide) (by decide))
  have i : InS S V f U s p a := h'.ins k hU' eT ok mV
  have V52 : qI V 0 52 = qI U 0 52 := mV.2.2 52 (by decide) (by decide)
  have dV := kV.dop (x := xS S) (by rw [V52]; exact g7)
  obtain ⟨T', ts', N', L', rv⟩ := hU'.rv fl
  have rv' : opW (f_op U (xS S)).toInt := rv.1
  have dj : ∀ o : Int32, d_isJump V o ∧ d_isSwitch V o := fun o => by
    unfold d_isJump d_isJump_J14 d_isJump_J28 d_isSwitch d_isSwitch_J14
    simp only [ite_self]
    exact ⟨trivial, trivial⟩
  have hq : ∀ w, McQ f w → McQ f w := fun _ hw => hw
  have j78 : (f_isJump V (f_op V (xS S))).toInt = 0 → ¬ (96 ≤ (f_op U (xS S)).toInt ∧ (f_op U (xS S)).toInt ≤ 131) → w_step_J78 (McQ f) V (xS S) (f_op V (xS S)) (f_first V (xS S)) := fun nj na => by
    have nj2 : ¬ ((153 ≤ (f_op U (xS S)).toInt ∧ (f_op U (xS S)).toInt ≤ 167) ∨ (f_op U (xS S)).toInt = 198 ∨ (f_op U (xS S)).toInt = 199) := fun q => by
      rw [(i.op _).1] at nj
      have := jp_1 (S := V) (o := f_op U (xS S)) q
      omega
    have eo := (i.op (xS S)).1
    unfold w_step_J78
    refine ⟨fun c => i.work (by rw [eo] at c; exact Or.inr c) hq, fun c => ⟨(dj _).2, fun c1 => ⟨fun c2 => i.leave (by rw [eo] at c2; omega) hq, fun c2 => ⟨fun c3 => i.leave (by rw [eo] at c3; omega) hq, fun c3 => ⟨fun c4 => i.leave (by rw [eo] at c4; omega) hq, fun c4 => ⟨fun c5 => i.leave (by rw [eo] at c5; omega) hq, fun c5 => ⟨fun c6 => i.called (by rw [eo] at c6; exact c6) hq, fun c6 => ?_⟩⟩⟩⟩⟩, fun c1 => ?_⟩⟩
    · rw [eo] at c c2 c3 c4 c5 c6
      rw [eo, (i.op (xS S)).2.1]
      have sw : ¬ ((f_op U (xS S)).toInt = 170 ∨ (f_op U (xS S)).toInt = 171) := fun q => by
        rw [eo] at c1
        unfold f_isSwitch f_isSwitch_J14 at c1
        rcases q with q | q
        · rw [if_pos q] at c1; exact absurd c1 (by decide)
        · rw [if_neg (by omega), if_pos q] at c1; exact absurd c1 (by decide)
      refine ⟨_, i.plain kV rv' (by unfold isAr; omega) nj2 (fun q => ?_), fun r u hu => ⟨fun z => hu.1 z, fun z => ?_⟩⟩
      · have : (f_op U (xS S)).toInt = 174 ∨ (f_op U (xS S)).toInt = 175 := by omega
        exact opW_17 rv' this
      · obtain ⟨bu, hg⟩ := hu.2 z
        exact ⟨_, sp_goTo bu, fun w hw => (hg w hw).q⟩
    · have sw : (f_op U (xS S)).toInt = 170 ∨ (f_op U (xS S)).toInt = 171 := by
        rw [eo] at c1
        unfold f_isSwitch f_isSwitch_J14 at c1
        by_cases q : (f_op U (xS S)).toInt = 170
        · exact Or.inl q
        · rw [if_neg q] at c1
          by_cases q2 : (f_op U (xS S)).toInt = 171
          · exact Or.inr q2
          · rw [if_neg q2] at c1; exact absurd rfl c1
      exact i.switch kV sw hq
  refine ⟨dV.1, fun o eo => ⟨dV.2.1, fun a1 e1 => ⟨(dj _).1, fun c => ⟨fun c1 => ?_, fun c1 => ⟨fun c2 => ?_, fun c2 => ?_⟩⟩, fun c => ?_⟩⟩⟩
  · subst eo
    subst e1
    rw [(i.op _).1] at c1
    exact j78 c (by omega)
  · subst eo
    rw [(i.op _).1] at c1 c2
    exact i.work (Or.inl ⟨by omega, c2⟩) hq
  · subst eo
    subst e1
    rw [(i.op _).1] at c2
    exact j78 c (by omega)
  · subst eo
    subst e1
    exact i.jump c
/-! run (behind sp_step, VmA.top, parL_v, sp_enter) -/
theorem McI.fr {S u : MS} {f : Nat} (h : McI S f) (k : frm [] [100] S u) : McI u f := by
  obtain ⟨b0, mb, ⟨hA, hF⟩, ⟨U, s, p, a, hU, eT, ok⟩, mid⟩ := h
  have kb := big_frm k (by decide)
  have e97 : qI u 0 97 = qI S 0 97 := (k.2.2.2.2.2 97 (by decide)).1
  have e85 : qI u 0 85 = qI S 0 85 := (k.2.2.2.2.2 85 (by decide)).1
  have n : fN u = fN S := by unfold fN; rw [e97]
  have h42 : qI u 42 = qI S 42 := (k.2.2.2.2.1 42 (by decide) (by decide)).1
  have h43 : qI u 43 = qI S 43 := (k.2.2.2.2.1 43 (by decide) (by decide)).1
  have h44 : qI u 44 = qI S 44 := (k.2.2.2.2.1 44 (by decide) (by decide)).1
  have h45 : qJ u 45 = qJ S 45 := (k.2.2.2.2.1 45 (by decide) (by decide)).2.1
  have h46 : qJ u 46 = qJ S 46 := (k.2.2.2.2.1 46 (by decide) (by decide)).2.1
  refine ⟨by unfold FrB; rw [e97]; exact b0, mb.fm k (by decide) (by decide), ⟨hA.eq e85 (k.2.2.2.2.2 86 (by decide)).1 (k.2.2.2.2.1 39 (by decide) (by decide)).1 (k.2.2.2.2.1 40 (by decide) (by decide)).1, hF.eq mb.1.1 kb (by rw [e85]; exact Int.le_refl _) (k.2.2.2.2.1 37 (by decide) (by decide)).2.1⟩, ?_, fun i hi => ?_⟩
  · rw [n, e85]
    refine ⟨U, s, p, a, hU.stay kb (by rw [h42]) (by rw [h43]), by rw [h44]; exact eT, ?_⟩
    have x1 : slF u (fN S).toNat = slF S (fN S).toNat := by funext j; unfold slF; rw [h45]
    have x2 : plF u (fN S).toNat = plF S (fN S).toNat := by funext j; unfold plF; rw [h46]
    rw [x1, x2]
    exact ok
  · rw [n] at hi
    rw [e85]
    exact (mid i hi).mv (Int.le_refl _) kb ⟨by rw [h42], by rw [h42]⟩ (by rw [h43]) (by rw [h44]) (fun k _ => by unfold slF; rw [h45]) (fun k _ => by unfold plF; rw [h46])
/-- what a run leaves -/
def RnP (f : Nat) (u : MS) : Prop := (McB u f ∧ ArI u ∧ FvI u f) ∧ (qI u 0 88).toInt = 0
theorem sp_run_L308 {f : Nat} {fuel : Int32} : ∀ (n : Nat) (U : MS), McQ f U → (qI U 0 88).toInt = 0 → (0 ≤ (qI U 0 100).toInt ∧ (qI U 0 100).toInt ≤ fuel.toInt) → ((0 ≤ (qI U 0 98).toInt ∧ 1 ≤ n) ∨ (fuel.toInt - (qI U 0 100).toInt).toNat + 2 ≤ n) → w_run_L308 (fun _ u => RnP f u) n U fuel := by
  intro n
  induction n with
  | zero => intro U _ _ _ h9; exact absurd h9 (by omega)
  | succ n ih =>
    intro U hq h88 hst hn
    unfold w_run_L308
    refine ⟨fun c => ⟨fun _ => ⟨hq.1, h88⟩, fun _ D eD => ?_⟩, fun c => ?_⟩
    · have k : frm [] [101] U D := by rw [eD]; exact frm.pJ0 (by decide)
      have e85 : qI D 0 85 = qI U 0 85 := (k.2.2.2.2.2 85 (by decide)).1
      exact ⟨⟨hq.1.1.fm k (by decide) (by decide), hq.1.2.1.eq e85 (k.2.2.2.2.2 86 (by decide)).1 (k.2.2.2.2.1 39 (by decide) (by decide)).1 (k.2.2.2.2.1 40 (by decide) (by decide)).1, hq.1.2.2.eq hq.1.1.1.1 (big_frm k (by decide)) (by rw [e85]; exact Int.le_refl _) (k.2.2.2.2.1 37 (by decide) (by decide)).2.1⟩, by rw [(k.2.2.2.2.2 88 (by decide)).1]; exact h88⟩
    · have hm : McI U f := by
        rcases hq.2 with q | q
        · exact absurd q c
        · exact q
      have hn2 : (fuel.toInt - (qI U 0 100).toInt).toNat + 2 ≤ n + 1 := by omega
      refine ⟨fun c1 D eD => ?_, fun c1 D eD => ?_⟩
      · have k : frm [] [98] U D := by rw [eD]; exact frm.pI0 (by decide)
        have e85 : qI D 0 85 = qI U 0 85 := (k.2.2.2.2.2 85 (by decide)).1
        have d98 : qI D 0 98 = 2 := by rw [eD, qI_wI, if_pos ⟨rfl, rfl⟩]
        have z : 0 ≤ (qI D 0 98).toInt := by rw [d98]; decide
        refine ih D ⟨⟨hq.1.1.fm k (by decide) (by decide), hq.1.2.1.eq e85 (k.2.2.2.2.2 86 (by decide)).1 (k.2.2.2.2.1 39 (by decide) (by decide)).1 (k.2.2.2.2.1 40 (by decide) (by decide)).1, hq.1.2.2.eq hq.1.1.1.1 (big_frm k (by decide)) (by rw [e85]; exact Int.le_refl _) (k.2.2.2.2.1 37 (by decide) (by decide)).2.1⟩, Or.inl z⟩ (by rw [(k.2.2.2.2.2 88 (by decide)).1]; exact h88) (by rw [(k.2.2.2.2.2 100 (by decide)).1]; exact hst) (Or.inl ⟨z, by omega⟩)
      · have k : frm [] [100] U D := by rw [eD]; exact frm.pI0 (by decide)
        have d100 : (qI D 0 100).toInt = (qI U 0 100).toInt + 1 := by
          have := fuel.toInt_lt
          rw [eD, qI_wI, if_pos ⟨rfl, rfl⟩, t_add (by rw [li_1]; omega), li_1]
        refine ⟨_, fr_step (sp_step (hm.fr k)), ?_⟩
        rintro E ⟨qE, fE⟩
        have e100 : (qI E 0 100).toInt = (qI U 0 100).toInt + 1 := by rw [(fE.2.2.2.2.2 100 (by decide)).1, d100]
        refine ih E qE ?_ (by omega) (Or.inr (by omega))
        rw [(fE.2.2.2.2.2 88 (by decide)).1, (k.2.2.2.2.2 88 (by decide)).1]
        exact h88
theorem w_run_mono {P Q : Int32 → MS → Prop} {n : Nat} {U : MS} {x : Int32} (h : w_run_L308 P n U x) (k : ∀ r u, P r u → Q r u) : w_run_L308 Q n U x := by
  revert U
  induction n with
  | zero => intro U h; exact h
  | succ n ih =>
    intro U h
    unfold w_run_L308 at h ⊢
    refine ⟨fun c => ⟨fun c1 => k _ _ ((h.1 c).1 c1), fun c1 D eD => k _ _ ((h.1 c).2 c1 D eD)⟩, fun c => ⟨fun c1 D eD => ih ((h.2 c).1 c1 D eD), fun c1 D eD => ?_⟩⟩
    obtain ⟨Q1, a, b⟩ := (h.2 c).2 c1 D eD
    exact ⟨Q1, a, fun E hE => ih (b E hE)⟩
theorem sp_run {S : MS} {m fuel : Int32} (hS : qR S 0 80 = none ∨ ∃ f : Nat, McB S f ∧ FvI S f) (hA : ArI S) (h88 : 0 ≤ (qI S 0 88).toInt ∧ (qI S 0 88).toInt ≤ 8) : w_run S m fuel (fun _ u => (qR u 0 80 = none ∨ ∃ f : Nat, McB u f ∧ FvI u f) ∧ ArI u ∧ (qI u 0 88).toInt = 0) := by
  unfold w_run
  intro a1 e1 A eA
  have kA : frm [] [88] S A := by rw [eA]; exact frm.pI0 (by decide)
  have a88 : (qI A 0 88).toInt = 0 := by rw [eA, qI_wI, if_pos ⟨rfl, rfl⟩]; rfl
  have a85 : qI A 0 85 = qI S 0 85 := (kA.2.2.2.2.2 85 (by decide)).1
  have aA : ArI A := hA.eq a85 (kA.2.2.2.2.2 86 (by decide)).1 (kA.2.2.2.2.1 39 (by decide) (by decide)).1 (kA.2.2.2.2.1 40 (by decide) (by decide)).1
  have A80 : qR A 0 80 = qR S 0 80 := (kA.2.2.2.2.2 80 (by decide)).2.2
  rcases hS with h0 | ⟨f, hB, hF⟩
  · exact ⟨fun _ => ⟨Or.inl (by rw [A80]; exact h0), aA, a88⟩, fun c => absurd (by rw [A80]; exact h0) c⟩
  · have bA := hB.fm kA (by decide) (by decide)
    have fA : FvI A f := hF.eq hB.1.1 (big_frm kA (by decide)) (by rw [a85]; exact Int.le_refl _) (kA.2.2.2.2.1 37 (by decide) (by decide)).2.1
    have good : (qR A 0 80 = none ∨ ∃ f : Nat, McB A f ∧ FvI A f) ∧ ArI A ∧ (qI A 0 88).toInt = 0 := ⟨Or.inr ⟨f, bA, fA⟩, aA, a88⟩
    obtain ⟨⟨f92, q80⟩, fl, vf, tx⟩ := bA
    have o80 : qO A 0 80 = f := by unfold qO; rw [q80]; rfl
    have r5 := fl.1.2.2 5 (by decide)
    have q10 : qR A f 10 = some (f + 6) := r5.1
    have o10 : qO A f 10 = f + 6 := by unfold qO; rw [q10]; rfl
    have n6 : qN A (f + 6) = 24 := r5.2.1
    have m24 := fl.2.2.2.1.2.2
    rw [o80, o10]
    refine ⟨fun c => by rw [q80] at c; exact absurd c (by simp), fun _ => ⟨fun _ => good, fun c0 => ⟨q80, fun c1 => ?_, fun _ => good⟩⟩⟩
    have vm := vf.2.2 m.toInt.toNat (by omega)
    -- the method's text
    obtain ⟨R, T, C, nc, ts, cn, -, -, -, -, -, r6⟩ := fl.2.2.2.2.2
    obtain ⟨⟨pl, ⟨t1, t2, t3, t4, -, -, sb, -, -, -, u3, -, -, -, ⟨p8, n', g', sI, pe, ls, n8⟩, -⟩, -⟩, -⟩ := r6 m.toInt.toNat (by omega)
    have o6 : qO A (f + 6) m.toInt.toNat = t3 := by unfold qO; rw [u3]; rfl
    have eN : qN A (t3 + 1) = n' := sI.2.2.1
    have eL : ∀ j : Nat, j < n' → qI A (t3 + 1) j = g' j := sI.2.2.2
    have pe' : plc (qI A (t3 + 1)) n' ≤ 8 := by rw [plc_eq n' eL, pe]; exact p8
    rw [o6, eN, oN (by omega)]
    refine ⟨q80, q10, ⟨by omega, by rw [n6]; omega⟩, u3, fun c2 => ?_, fun _ => good⟩
    have cA : ∀ (W : MS) (k : Int32), qI W (t3 + 1) = qI A (t3 + 1) → 0 ≤ k.toInt → k.toInt.toNat < n' → cAt W t3 k = g' k.toInt.toNat := fun W k eW k0 k1 => by
      have l := ls _ k1
      unfold cAt
      rw [eW, eL _ k1]
      exact (asc (by omega) (by omega)).2.2
    -- the machine is begun
    have beg : (∀ j : Nat, j < n' → (g' j).toInt = 65 → 0 ≤ (qJ A 41 j).toInt ∧ (qJ A 41 j).toInt ≤ (qI A 0 85).toInt) → 0 ≤ fuel.toInt → (∀ S21, S21 = wI A 0 97 0 → (∀ S22, S22 = wI S21 0 98 (-1) → (∀ S23, S23 = wI S22 0 102 (-1) → (∀ S24, S24 = wJ S23 0 101 0 → (∀ S25, S25 = wI S24 0 100 0 → (∃ Q26, w_enter S25 m Q26 ∧ ∀ S27, Q26 S27 → (∃ n, w_run_L165 (fun _ u => (qR u 0 80 = none ∨ ∃ f : Nat, McB u f ∧ FvI u f) ∧ ArI u ∧ (qI u 0 88).toInt = 0) n S27 fuel a1 t3 0 0))))))) := fun hargs f0 B eB D eD E eE F eF G eG => by
      have kG : frm [] [97, 98, 100, 101, 102] A G := (show frm [] [97, 98, 100, 101, 102] A B by rw [eB]; exact frm.pI0 (by decide)).tr ((show frm [] [97, 98, 100, 101, 102] B D by rw [eD]; exact frm.pI0 (by decide)).tr ((show frm [] [97, 98, 100, 101, 102] D E by rw [eE]; exact frm.pI0 (by decide)).tr ((show frm [] [97, 98, 100, 101, 102] E F by rw [eF]; exact frm.pJ0 (by decide)).tr (by rw [eG]; exact frm.pI0 (by decide)))))
      have g97 : (qI G 0 97).toInt = 0 := by
        rw [eG, qI_wI, if_neg (by decide), eF, qI_wJ, eE, qI_wI, if_neg (by decide), eD, qI_wI, if_neg (by decide), eB, qI_wI, if_pos ⟨rfl, rfl⟩]
        rfl
      have g98 : (qI G 0 98).toInt = -1 := by
        rw [eG, qI_wI, if_neg (by decide), eF, qI_wJ, eE, qI_wI, if_neg (by decide), eD, qI_wI, if_pos ⟨rfl, rfl⟩]
        rfl
      have g100 : (qI G 0 100).toInt = 0 := by
        rw [eG, qI_wI, if_pos ⟨rfl, rfl⟩]
        rfl
      refine ⟨_, sp_enter (m := m) (by rw [g97]; decide), ?_⟩
      rintro H ⟨fH, c97, c42, c43, c44, c45⟩
      rw [g97] at c97 c42 c43 c44 c45
      have kH : frm [42, 43, 44, 45, 47] [97, 98, 100, 101, 102] A H := (kG.mo (by decide) (by decide)).tr (fH.mo (by decide) (by decide))
      have h98 : (qI H 0 98).toInt = -1 := by rw [(fH.2.2.2.2.2 98 (by decide)).1]; exact g98
      have h100 : (qI H 0 100).toInt = 0 := by rw [(fH.2.2.2.2.2 100 (by decide)).1]; exact g100
      have L : ∀ (c : Nat) (X : MS) (at_ k : Int32), frm [45, 47] [] H X → (0 ≤ k.toInt ∧ k.toInt ≤ n') → at_.toInt = plc (qI A (t3 + 1)) k.toInt.toNat → (∀ i : Nat, (i : Int) < k.toInt → ((qI A (t3 + 1) i).toInt = 73 → -2147483648 ≤ (qJ X 45 (plc (qI A (t3 + 1)) i).toNat).toInt ∧ (qJ X 45 (plc (qI A (t3 + 1)) i).toNat).toInt ≤ 2147483647) ∧ (¬ (qI A (t3 + 1) i).toInt = 73 → ¬ (qI A (t3 + 1) i).toInt = 74 → 0 ≤ (qJ X 45 (plc (qI A (t3 + 1)) i).toNat).toInt ∧ (qJ X 45 (plc (qI A (t3 + 1)) i).toNat).toInt ≤ (qI A 0 85).toInt)) → (n' - k.toInt).toNat < c → w_run_L165 (fun _ u => (qR u 0 80 = none ∨ ∃ f : Nat, McB u f ∧ FvI u f) ∧ ArI u ∧ (qI u 0 88).toInt = 0) c X fuel a1 t3 at_ k := by
        intro c
        induction c with
        | zero => intro X at_ k _ _ _ _ h9; exact absurd h9 (Nat.not_lt_zero _)
        | succ c ih =>
          intro X at_ k fX hk hat hv hc
          have kX : frm [42, 43, 44, 45, 47] [97, 98, 100, 101, 102] A X := kH.tr (fX.mo (by decide) (by decide))
          have kb := big_frm kX (by decide)
          have x85 : qI X 0 85 = qI A 0 85 := (kX.2.2.2.2.2 85 (by decide)).1
          have xt := kb (t3 + 1) (by omega)
          have ek : (k + Int32.ofInt 1).toInt = k.toInt + 1 := by rw [t_add (by rw [lo_1]; omega), lo_1]
          unfold w_run_L165
          rw [c2]
          refine ⟨fun z => ?_, fun z => ?_⟩
          · have ekn : k.toInt.toNat = n' := by omega
            have x97 : (qI X 0 97).toInt = 1 := by rw [(fX.2.2.2.2.2 97 (by decide)).1, c97]; rfl
            have bX : FrB X := ⟨by omega, by omega⟩
            have nX : fN X = 0 := by unfold fN; omega
            have mX := (show McB A f from ⟨⟨f92, q80⟩, fl, vf, tx⟩).fm kX (by decide) (by decide)
            have aX : ArI X := aA.eq x85 (kX.2.2.2.2.2 86 (by decide)).1 (kX.2.2.2.2.1 39 (by decide) (by decide)).1 (kX.2.2.2.2.1 40 (by decide) (by decide)).1
            have vX : FvI X f := fA.eq f92 kb (by rw [x85]; exact Int.le_refl _) (kX.2.2.2.2.1 37 (by decide) (by decide)).2.1
            have X42 : qI X 42 0 = m := by rw [(fX.2.2.2.2.1 42 (by decide) (by decide)).1, c42]; unfold upd; exact if_pos rfl
            have X43 : qI X 43 0 = 0 := by rw [(fX.2.2.2.2.1 43 (by decide) (by decide)).1, c43]; unfold upd; exact if_pos rfl
            have X44 : qI X 44 0 = 0 := by rw [(fX.2.2.2.2.1 44 (by decide) (by decide)).1, c44]; unfold upd; exact if_pos rfl
            have iX : McI X f := by
              refine ⟨bX, mX, ⟨aX, vX⟩, ?_, fun j hj => by omega⟩
              rw [nX]
              show FrTop X f 0 _
              refine vm.top f92 aX.1.1 kb ⟨by rw [X42], by rw [X42]; omega⟩ X43 X44 (fun s2 hs2 k2 hk2 => ?_)
              rw [u3] at hs2
              have es2 : t3 = s2 := by injection hs2
              subst es2
              rw [eN]
              have x0 : slF X 0 = fun j => qJ X 45 j := by funext j; unfold slF; rw [show 24 * 0 + j = j by omega]
              rw [x0, x85]
              exact parL_v (v := fun j => qJ X 45 j) n' (fun i hi => hv i (by omega)) k2
            have x88 : (qI X 0 88).toInt = 0 := by rw [(kX.2.2.2.2.2 88 (by decide)).1]; exact a88
            have x100 : (qI X 0 100).toInt = 0 := by rw [(fX.2.2.2.2.2 100 (by decide)).1]; exact h100
            refine ⟨_, w_run_mono (sp_run_L308 (f := f) (fuel := fuel) _ X iX.q x88 (by omega) (Or.inr (Nat.le_refl _))) (fun r u hu => ⟨Or.inr ⟨f, hu.1.1, hu.1.2.2⟩, hu.1.2.1, hu.2⟩)⟩
          · have kn : k.toInt.toNat < n' := by omega
            have l := ls _ kn
            have eg := eL _ kn
            have at8 := plc_lt (g := qI A (t3 + 1)) kn
            have at0 := plc_ge (g := qI A (t3 + 1)) k.toInt.toNat
            have pk : plc (qI A (t3 + 1)) (k.toInt.toNat + 1) = plc (qI A (t3 + 1)) k.toInt.toNat + if (qI A (t3 + 1) k.toInt.toNat).toInt = 74 then 2 else 1 := rfl
            have pk8 : plc (qI A (t3 + 1)) (k.toInt.toNat + 1) ≤ 8 := by
              by_cases y : k.toInt.toNat + 1 = n'
              · rw [y]; exact pe'
              · have := plc_lt (g := qI A (t3 + 1)) (show k.toInt.toNat + 1 < n' by omega); omega
            have qX : qN X (t3 + 1) = n' := by rw [xt.2.2.2.2]; exact eN
            have j299 : ∀ (Y : MS) (t : Int32), frm [45, 47] [] H Y → (∀ i : Nat, (i : Int) < k.toInt + 1 → ((qI A (t3 + 1) i).toInt = 73 → -2147483648 ≤ (qJ Y 45 (plc (qI A (t3 + 1)) i).toNat).toInt ∧ (qJ Y 45 (plc (qI A (t3 + 1)) i).toNat).toInt ≤ 2147483647) ∧ (¬ (qI A (t3 + 1) i).toInt = 73 → ¬ (qI A (t3 + 1) i).toInt = 74 → 0 ≤ (qJ Y 45 (plc (qI A (t3 + 1)) i).toNat).toInt ∧ (qJ Y 45 (plc (qI A (t3 + 1)) i).toNat).toInt ≤ (qI A 0 85).toInt)) → t.toInt = (if (qI A (t3 + 1) k.toInt.toNat).toInt = 74 then 2 else 1) → w_run_J299 (fun _ u => (qR u 0 80 = none ∨ ∃ f : Nat, McB u f ∧ FvI u f) ∧ ArI u ∧ (qI u 0 88).toInt = 0) (w_run_L165 (fun _ u => (qR u 0 80 = none ∨ ∃ f : Nat, McB u f ∧ FvI u f) ∧ ArI u ∧ (qI u 0 88).toInt = 0) c) Y t at_ fuel a1 t3 k := fun Y t fY hY et => by
              unfold w_run_J299
              intro a53 e53 a54 e54
              subst e54
              have t2 : 1 ≤ t.toInt ∧ t.toInt ≤ 2 := by rw [et]; split <;> omega
              refine ih Y a53 _ fY ⟨by omega, by omega⟩ ?_ (fun i hi => hY i (by omega)) (by omega)
              rw [e53, t_add (by omega), hat, et, ek, show (k.toInt + 1).toNat = k.toInt.toNat + 1 by omega, pk]
            have j280 : ∀ Y : MS, frm [45, 47] [] H Y → (∀ i : Nat, (i : Int) < k.toInt + 1 → ((qI A (t3 + 1) i).toInt = 73 → -2147483648 ≤ (qJ Y 45 (plc (qI A (t3 + 1)) i).toNat).toInt ∧ (qJ Y 45 (plc (qI A (t3 + 1)) i).toNat).toInt ≤ 2147483647) ∧ (¬ (qI A (t3 + 1) i).toInt = 73 → ¬ (qI A (t3 + 1) i).toInt = 74 → 0 ≤ (qJ Y 45 (plc (qI A (t3 + 1)) i).toNat).toInt ∧ (qJ Y 45 (plc (qI A (t3 + 1)) i).toNat).toInt ≤ (qI A 0 85).toInt)) → w_run_J280 (fun _ u => (qR u 0 80 = none ∨ ∃ f : Nat, McB u f ∧ FvI u f) ∧ ArI u ∧ (qI u 0 88).toInt = 0) (w_run_L165 (fun _ u => (qR u 0 80 = none ∨ ∃ f : Nat, McB u f ∧ FvI u f) ∧ ArI u ∧ (qI u 0 88).toInt = 0) c) Y fuel a1 t3 at_ k := fun Y fY hY => by
              have yt := big_frm (kH.tr (fY.mo (by decide) (by decide))) (by decide) (t3 + 1) (by omega)
              unfold w_run_J280
              rw [yt.2.2.2.2, eN, cA Y k yt.1 hk.1 kn]
              refine ⟨⟨hk.1, by omega⟩, fun q => j299 Y 2 fY hY ?_, fun q => j299 Y 1 fY hY ?_⟩
              · rw [eg, if_pos q]; decide
              · rw [eg, if_neg q]; decide
            have j257 : ∀ (Y : MS) (g : Int32), frm [45, 47] [] H Y → (∀ i : Nat, (i : Int) < k.toInt + 1 → ((qI A (t3 + 1) i).toInt = 73 → -2147483648 ≤ (qJ Y 45 (plc (qI A (t3 + 1)) i).toNat).toInt ∧ (qJ Y 45 (plc (qI A (t3 + 1)) i).toNat).toInt ≤ 2147483647) ∧ (¬ (qI A (t3 + 1) i).toInt = 73 → ¬ (qI A (t3 + 1) i).toInt = 74 → 0 ≤ (qJ Y 45 (plc (qI A (t3 + 1)) i).toNat).toInt ∧ (qJ Y 45 (plc (qI A (t3 + 1)) i).toNat).toInt ≤ (qI A 0 85).toInt)) → w_run_J257 (fun _ u => (qR u 0 80 = none ∨ ∃ f : Nat, McB u f ∧ FvI u f) ∧ ArI u ∧ (qI u 0 88).toInt = 0) (w_run_L165 (fun _ u => (qR u 0 80 = none ∨ ∃ f : Nat, McB u f ∧ FvI u f) ∧ ArI u ∧ (qI u 0 88).toInt = 0) c) Y g at_ fuel a1 t3 at_ k := fun Y g fY hY => by
              unfold w_run_J257
              refine ⟨⟨by omega, by omega⟩, fun Z eZ => ?_⟩
              have fZ : frm [45, 47] [] H Z := fY.tr (by rw [eZ]; exact frm.pI (by decide))
              have Z45 : qJ Z 45 = qJ Y 45 := by rw [eZ]; rfl
              have zt := big_frm (kH.tr (fZ.mo (by decide) (by decide))) (by decide) (t3 + 1) (by omega)
              rw [zt.2.2.2.2, eN, cA Z k zt.1 hk.1 kn]
              have a1e : (at_ + (1 : Int32)).toInt = at_.toInt + 1 := by rw [t_add (by rw [li_1]; omega), li_1]
              refine ⟨⟨hk.1, by omega⟩, fun q => ⟨⟨by omega, by omega⟩, fun Z2 eZ2 => ?_⟩, fun q => j280 Z fZ (by rw [Z45]; exact hY)⟩
              have Z245 : qJ Z2 45 = qJ Y 45 := by rw [eZ2, qJ_wI, Z45]
              exact j280 Z2 (fZ.tr (by rw [eZ2]; exact frm.pI (by decide))) (by rw [Z245]; exact hY)
            have j208 : ∀ v : Int64, ((qI A (t3 + 1) k.toInt.toNat).toInt = 73 → -2147483648 ≤ v.toInt ∧ v.toInt ≤ 2147483647) → (¬ (qI A (t3 + 1) k.toInt.toNat).toInt = 73 → ¬ (qI A (t3 + 1) k.toInt.toNat).toInt = 74 → 0 ≤ v.toInt ∧ v.toInt ≤ (qI A 0 85).toInt) → w_run_J208 (fun _ u => (qR u 0 80 = none ∨ ∃ f : Nat, McB u f ∧ FvI u f) ∧ ArI u ∧ (qI u 0 88).toInt = 0) (w_run_L165 (fun _ u => (qR u 0 80 = none ∨ ∃ f : Nat, McB u f ∧ FvI u f) ∧ ArI u ∧ (qI u 0 88).toInt = 0) c) X v at_ fuel a1 t3 at_ k := fun v v1 v2 => by
              unfold w_run_J208
              refine ⟨⟨by omega, by omega⟩, fun Y eY => ?_⟩
              have fY : frm [45, 47] [] H Y := fX.tr (by rw [eY]; exact frm.pJ (by decide))
              have yt := big_frm (kH.tr (fY.mo (by decide) (by decide))) (by decide) (t3 + 1) (by omega)
              have hY : ∀ i : Nat, (i : Int) < k.toInt + 1 → ((qI A (t3 + 1) i).toInt = 73 → -2147483648 ≤ (qJ Y 45 (plc (qI A (t3 + 1)) i).toNat).toInt ∧ (qJ Y 45 (plc (qI A (t3 + 1)) i).toNat).toInt ≤ 2147483647) ∧ (¬ (qI A (t3 + 1) i).toInt = 73 → ¬ (qI A (t3 + 1) i).toInt = 74 → 0 ≤ (qJ Y 45 (plc (qI A (t3 + 1)) i).toNat).toInt ∧ (qJ Y 45 (plc (qI A (t3 + 1)) i).toNat).toInt ≤ (qI A 0 85).toInt) := fun i hi => by
                by_cases e : i = k.toInt.toNat
                · subst e
                  have q : qJ Y 45 (plc (qI A (t3 + 1)) k.toInt.toNat).toNat = v := by rw [eY, qJ_wJ, if_pos ⟨rfl, by rw [hat]⟩]
                  rw [q]
                  exact ⟨v1, v2⟩
                · have lt := plc_lt (g := qI A (t3 + 1)) (show i < k.toInt.toNat by omega)
                  have i0 := plc_ge (g := qI A (t3 + 1)) i
                  have q : qJ Y 45 (plc (qI A (t3 + 1)) i).toNat = qJ X 45 (plc (qI A (t3 + 1)) i).toNat := by rw [eY, qJ_wJ, if_neg (fun y => by have := y.2; omega)]
                  rw [q]
                  exact hv i (by omega)
              rw [yt.2.2.2.2, eN, cA Y k yt.1 hk.1 kn]
              refine ⟨⟨hk.1, by omega⟩, fun _ => j257 Y _ fY hY, fun _ => ⟨⟨hk.1, by omega⟩, fun _ => j257 Y _ fY hY, fun _ => ⟨⟨hk.1, by omega⟩, ?_, j257 Y _ fY hY⟩⟩⟩
              unfold d_thingTag
              simp
            have X41 : qJ X 41 = qJ A 41 := (kX.2.2.2.2.1 41 (by decide) (by decide)).2.1
            rw [qX, cA X k xt.1 hk.1 kn]
            refine ⟨⟨hk.1, by omega⟩, fun q => ⟨⟨hk.1, by omega⟩, j208 _ (fun _ => i64_int _) (fun y => by rw [eg] at y; exact absurd q y)⟩, fun q => ⟨⟨hk.1, by omega⟩, j208 _ (fun y => by rw [eg] at y; exact absurd y q) (fun y1 y2 => ?_)⟩⟩
            rw [eg] at y1 y2
            rw [X41]
            exact hargs _ kn (by omega)
      have l0 : (0 : Int32).toInt = 0 := rfl
      exact ⟨_, L _ H 0 0 frm.rf ⟨by decide, by rw [l0]; omega⟩ rfl (fun i hi => by rw [l0] at hi; omega) (Nat.lt_succ_self _)⟩
    have L60 : ∀ (c : Nat) (k : Int32), (0 ≤ k.toInt ∧ k.toInt ≤ n') → (∀ j : Nat, (j : Int) < k.toInt → (g' j).toInt = 65 → 0 ≤ (qJ A 41 j).toInt ∧ (qJ A 41 j).toInt ≤ (qI A 0 85).toInt) → (n' - k.toInt).toNat < c → w_run_L60 (fun _ u => (qR u 0 80 = none ∨ ∃ f : Nat, McB u f ∧ FvI u f) ∧ ArI u ∧ (qI u 0 88).toInt = 0) c A m fuel a1 t3 k := by
      intro c
      induction c with
      | zero => intro k _ _ h9; exact absurd h9 (Nat.not_lt_zero _)
      | succ c ih =>
        intro k hk hv hc
        have ek : (k + Int32.ofInt 1).toInt = k.toInt + 1 := by rw [t_add (by rw [lo_1]; omega), lo_1]
        unfold w_run_L60 w_run_J109
        rw [c2]
        refine ⟨fun z => ⟨fun _ => good, fun f0 => ⟨fun _ => beg (fun j hj => hv j (by omega)) (by omega), fun _ => good⟩⟩, fun z => ?_⟩
        have kn : k.toInt.toNat < n' := by omega
        rw [eN, cA A k rfl hk.1 kn]
        have nxt : ((g' k.toInt.toNat).toInt = 65 → 0 ≤ (qJ A 41 k.toInt.toNat).toInt ∧ (qJ A 41 k.toInt.toNat).toInt ≤ (qI A 0 85).toInt) → ∀ a76 : Int32, a76 = (k + Int32.ofInt 1) → w_run_L60 (fun _ u => (qR u 0 80 = none ∨ ∃ f : Nat, McB u f ∧ FvI u f) ∧ ArI u ∧ (qI u 0 88).toInt = 0) c A m fuel a1 t3 a76 := fun hq a76 e76 => by
          subst e76
          refine ih _ ⟨by omega, by omega⟩ (fun j hj => ?_) (by omega)
          by_cases e : j = k.toInt.toNat
          · rw [e]; exact hq
          · exact hv j (by omega)
        have l0 : (0 : Int64).toInt = 0 := by decide
        have x1 := c_cmp (x := qJ A 41 k.toInt.toNat) (y := (0 : Int64))
        have x2 := c_cmp (x := qJ A 41 k.toInt.toNat) (y := (qI A 0 85).toInt64)
        rw [l0] at x1
        rw [tl_of] at x2
        refine ⟨⟨hk.1, by omega⟩, fun q => ⟨⟨hk.1, by omega⟩, fun _ => good, fun y1 => ⟨⟨hk.1, by omega⟩, fun y2 => nxt (fun _ => ⟨by omega, by omega⟩), fun _ => good⟩⟩, fun q => nxt (fun y => absurd y q)⟩
    have l0 : (0 : Int32).toInt = 0 := rfl
    exact ⟨_, L60 _ 0 ⟨by decide, by rw [l0]; omega⟩ (fun j hj => by rw [l0] at hj; omega) (Nat.lt_succ_self _)⟩
/-! the graph: what is reached (behind sumN_upd, frm) -/
def zc (g : Nat → Int32) (n : Nat) : Nat := sumN (fun j => if (g j).toInt = 0 then 1 else 0) n
theorem zc_set {S : MS} {h i n : Nat} {v : Int32} (hi : i < n) (hv : ¬ v.toInt = 0) : zc (qI (wI S h i v) h) n ≤ zc (qI S h) n ∧ ((qI S h i).toInt = 0 → zc (qI (wI S h i v) h) n < zc (qI S h) n) := by
  have u := sumN_upd (g := fun j => if (qI S h j).toInt = 0 then 1 else 0) (g' := fun j => if (qI (wI S h i v) h j).toInt = 0 then 1 else 0) (i := i) (fun j hj => by
    show (if (qI (wI S h i v) h j).toInt = 0 then 1 else 0) = (if (qI S h j).toInt = 0 then 1 else 0)
    have e1 : qI (wI S h i v) h j = qI S h j := by rw [qI_wI, if_neg (fun q => hj q.2)]
    rw [e1]) n hi
  have e2 : qI (wI S h i v) h i = v := by rw [qI_wI, if_pos ⟨rfl, rfl⟩]
  have e : (if (qI (wI S h i v) h i).toInt = 0 then 1 else 0) = 0 := by rw [e2]; exact if_neg hv
  have u' : zc (qI (wI S h i v) h) n + (if (qI S h i).toInt = 0 then 1 else 0) = zc (qI S h) n + (if (qI (wI S h i v) h i).toInt = 0 then 1 else 0) := u
  rw [e] at u'
  constructor
  · split at u' <;> omega
  · intro q
    rw [if_pos q] at u'
    omega
/-- the edges are there -/
def GeI (S : MS) : Prop := (0 ≤ (qI S 0 105).toInt ∧ (qI S 0 105).toInt ≤ 1200) ∧ (0 ≤ (qI S 0 110).toInt ∧ (qI S 0 110).toInt ≤ 24000) ∧ (∀ b : Nat, (b : Int) ≤ (qI S 0 105).toInt → 0 ≤ (qI S 51 b).toInt ∧ (qI S 51 b).toInt ≤ (qI S 0 110).toInt) ∧ ∀ k : Nat, (k : Int) < (qI S 0 110).toInt → 0 ≤ (qI S 52 k).toInt ∧ (qI S 52 k).toInt < (qI S 0 105).toInt
theorem GeI.fm {S u : MS} {W J : List Nat} (h : GeI S) (k : frm W J S u) (h1 : 51 ∉ W) (h2 : 52 ∉ W) (h3 : 105 ∉ J) (h4 : 110 ∉ J) : GeI u := by
  unfold GeI
  rw [(k.2.2.2.2.1 51 (by decide) h1).1, (k.2.2.2.2.1 52 (by decide) h2).1, (k.2.2.2.2.2 105 h3).1, (k.2.2.2.2.2 110 h4).1]
  exact h
theorem vb1 : ¬ (vp_nar .boolean (1 : Int32)).toInt = 0 := by decide
def rcN (S : MS) : Nat := zc (qI S 53) (qI S 0 105).toInt.toNat
/-- a round of reach so far -/
def RcR (S0 U : MS) (m : Int32) : Prop := frm [53] [] S0 U ∧ rcN U ≤ rcN S0 ∧ (¬ m.toInt = 0 → rcN U < rcN S0)
/-! dominators and loops (behind GeI, zc_set) -/
theorem dv32 {x : Int32} (h : 0 ≤ x.toInt ∧ x.toInt < 1200) : (x / (32 : Int32)).toInt = x.toInt / 32 := by
  have l : (32 : Int32).toInt = 32 := by decide
  rw [Int32.toInt_div, l, Int.tdiv_eq_ediv_of_nonneg h.1, Int.bmod_def]
  omega
theorem d_dom {S : MS} {x y : Int32} (hx : 0 ≤ x.toInt ∧ x.toInt < 1200) (hy : 0 ≤ y.toInt ∧ y.toInt < 1200) : d_dominates S x y := by
  have l : (38 : Int32).toInt = 38 := by decide
  have e1 : ((38 : Int32) * y).toInt = 38 * y.toInt := by rw [t_mul (by rw [l]; omega), l]
  have e2 := dv32 hx
  have e3 : ((38 : Int32) * y + x / (32 : Int32)).toInt = 38 * y.toInt + x.toInt / 32 := by rw [t_add (by rw [e1, e2]; omega), e1, e2]
  unfold d_dominates
  rw [e3]
  exact ⟨⟨by omega, by omega⟩, trivial⟩
def MbN (S : MS) : Nat := sumN (fun j => (qI S 54 j).toBitVec.toNat) 45600
theorem and_le {a b : Int32} : (a &&& b).toBitVec.toNat ≤ a.toBitVec.toNat := by
  rw [Int32.toBitVec_and, BitVec.toNat_and]
  exact Nat.and_le_left
theorem Mb_set {S : MS} {i : Nat} {b : Int32} (hi : i < 45600) : MbN (wI S 54 i (qI S 54 i &&& b)) ≤ MbN S ∧ (¬ (qI S 54 i &&& b).toInt = (qI S 54 i).toInt → MbN (wI S 54 i (qI S 54 i &&& b)) < MbN S) := by
  have u : MbN (wI S 54 i (qI S 54 i &&& b)) + (qI S 54 i).toBitVec.toNat = MbN S + (qI (wI S 54 i (qI S 54 i &&& b)) 54 i).toBitVec.toNat := sumN_upd (g := fun j => (qI S 54 j).toBitVec.toNat) (g' := fun j => (qI (wI S 54 i (qI S 54 i &&& b)) 54 j).toBitVec.toNat) (i := i) (fun j hj => by
    have e1 : qI (wI S 54 i (qI S 54 i &&& b)) 54 j = qI S 54 j := by rw [qI_wI, if_neg (fun q => hj q.2)]
    show (qI (wI S 54 i (qI S 54 i &&& b)) 54 j).toBitVec.toNat = _
    rw [e1]) 45600 hi
  have e2 : qI (wI S 54 i (qI S 54 i &&& b)) 54 i = qI S 54 i &&& b := by rw [qI_wI, if_pos ⟨rfl, rfl⟩]
  rw [e2] at u
  have l := and_le (a := qI S 54 i) (b := b)
  refine ⟨by omega, fun q => ?_⟩
  have ne : (qI S 54 i &&& b).toBitVec.toNat ≠ (qI S 54 i).toBitVec.toNat := fun z => q (by
    have : qI S 54 i &&& b = qI S 54 i := Int32.toBitVec_inj.mp (BitVec.eq_of_toNat_eq z)
    rw [this])
  omega
def NwR (S U : MS) (m : Int32) : Prop := frm [54] [] S U ∧ MbN U ≤ MbN S ∧ (¬ m.toInt = 0 → MbN U < MbN S)
theorem sp_narrowed {S : MS} {x y : Int32} (hx : 0 ≤ x.toInt ∧ x.toInt < 1200) (hy : 0 ≤ y.toInt ∧ y.toInt < 1200) : w_narrowed S x y (fun r u => NwR S u r) := by
  have l : (38 : Int32).toInt = 38 := by decide
  have e1 : ((38 : Int32) * x).toInt = 38 * x.toInt := by rw [t_mul (by rw [l]; omega), l]
  have e2 : ((38 : Int32) * y).toInt = 38 * y.toInt := by rw [t_mul (by rw [l]; omega), l]
  have L : ∀ (c : Nat) (U : MS) (m k : Int32), NwR S U m → 0 ≤ k.toInt → (38 - k.toInt).toNat < c → w_narrowed_L5 (fun r u => NwR S u r) c U x y m k := by
    intro c
    induction c with
    | zero => intro U m k _ _ h9; exact absurd h9 (Nat.not_lt_zero _)
    | succ c ih =>
      intro U m k hU k0 hc
      unfold w_narrowed_L5
      refine ⟨fun _ => hU, fun c1 => ?_⟩
      have i1 : ((38 : Int32) * x + k).toInt = 38 * x.toInt + k.toInt := by rw [t_add (by rw [e1]; omega), e1]
      have i2 : ((38 : Int32) * y + k).toInt = 38 * y.toInt + k.toInt := by rw [t_add (by rw [e2]; omega), e2]
      have ek : (k + Int32.ofInt 1).toInt = k.toInt + 1 := by rw [t_add (by rw [lo_1]; omega), lo_1]
      have j31 : ∀ t : Int32, w_narrowed_J31 (fun r u => NwR S u r) (w_narrowed_L5 (fun r u => NwR S u r) c) U t x y m k := fun t => by
        unfold w_narrowed_J31
        rw [i1, i2]
        refine ⟨⟨by omega, by omega⟩, ⟨by omega, by omega⟩, fun a ea => ?_⟩
        have z := Mb_set (S := U) (i := (38 * y.toInt + k.toInt).toNat) (b := qI U 54 (38 * x.toInt + k.toInt).toNat ||| t) (by omega)
        rw [← ea] at z
        have j89 : ∀ m' : Int32, (¬ m'.toInt = 0 → ¬ m.toInt = 0 ∨ ¬ a.toInt = (qI U 54 (38 * y.toInt + k.toInt).toNat).toInt) → w_narrowed_J89 (fun r u => NwR S u r) (w_narrowed_L5 (fun r u => NwR S u r) c) U m' x y k a := fun m' hm => by
          unfold w_narrowed_J89
          rw [i2]
          refine ⟨⟨by omega, by omega⟩, fun D eD a2 ea2 => ?_⟩
          subst ea2
          rw [← eD] at z
          refine ih D m' _ ⟨hU.1.tr (by rw [eD]; exact frm.pI (by decide)), by have := hU.2.1; omega, fun q => ?_⟩ (by omega) (by omega)
          rcases hm q with w | w
          · have := hU.2.2 w; omega
          · have := z.2 w; have := hU.2.1; omega
        unfold w_narrowed_J84
        exact ⟨fun _ => ⟨⟨by omega, by omega⟩, fun _ => j89 0 (fun q => absurd rfl q), fun c3 => j89 1 (fun _ => Or.inr c3)⟩, fun c2 => j89 1 (fun _ => Or.inl c2)⟩
      exact ⟨fun _ => j31 _, fun _ => j31 _⟩
  unfold w_narrowed
  exact ⟨_, L _ S 0 0 ⟨frm.rf, Nat.le_refl _, fun q => absurd rfl q⟩ (by decide) (Nat.lt_succ_self _)⟩
theorem sp_nearestOf {S : MS} {x : Int32} (h : GeI S) (hx : 0 ≤ x.toInt ∧ x.toInt < 1200) : w_nearestOf S x (fun _ u => u = S) := by
  have bc := h.1
  have L : ∀ (c : Nat) (r m k : Int32), 0 ≤ k.toInt → (1200 - k.toInt).toNat < c → w_nearestOf_L7 (fun _ u => u = S) c S x r m k := by
    intro c
    induction c with
    | zero => intro r m k _ h9; exact absurd h9 (Nat.not_lt_zero _)
    | succ c ih =>
      intro r m k k0 hc
      unfold w_nearestOf_L7 w_nearestOf_J49 w_nearestOf_J61
      refine ⟨fun _ => rfl, fun c1 => ?_⟩
      have ek : (k + Int32.ofInt 1).toInt = k.toInt + 1 := by rw [t_add (by rw [lo_1]; omega), lo_1]
      have go : ∀ r m : Int32, ∀ a2 : Int32, a2 = (k + Int32.ofInt 1) → w_nearestOf_L7 (fun _ u => u = S) c S x r m a2 := fun r m a2 e2 => by
        subst e2
        exact ih r m _ (by omega) (by omega)
      exact ⟨fun _ => go _ _, fun _ => ⟨d_dom ⟨k0, by omega⟩ hx, fun _ => go _ _, fun _ => ⟨⟨k0, by omega⟩, fun _ => ⟨⟨k0, by omega⟩, fun a13 _ => go _ _⟩, fun _ => ⟨⟨k0, by omega⟩, fun a13 _ => go _ _⟩⟩⟩⟩
  unfold w_nearestOf
  exact ⟨_, L _ _ _ 0 (by decide) (Nat.lt_succ_self _)⟩
theorem sp_dominate {S : MS} (h : GeI S) : w_dominate S (fun u => frm [54, 55, 59] [] S u) := by
  have bc := h.1
  have ec := h.2.1
  have ge : ∀ U : MS, frm [54, 55, 59] [] S U → GeI U ∧ qI U 0 105 = qI S 0 105 ∧ qI U 0 110 = qI S 0 110 := fun U fU => ⟨h.fm fU (by decide) (by decide) (by decide) (by decide), (fU.2.2.2.2.2 105 (by decide)).1, (fU.2.2.2.2.2 110 (by decide)).1⟩
  have L200 : ∀ (c : Nat) (U : MS) (b : Int32), frm [54, 55, 59] [] S U → 0 ≤ b.toInt → (1200 - b.toInt).toNat < c → w_dominate_L200 (fun u => frm [54, 55, 59] [] S u) c U b := by
    intro c
    induction c with
    | zero => intro U b _ _ h9; exact absurd h9 (Nat.not_lt_zero _)
    | succ c ih =>
      intro U b fU b0 hc
      obtain ⟨gU, u105, u110⟩ := ge U fU
      unfold w_dominate_L200
      rw [u105]
      refine ⟨fun _ => fU, fun c1 => ?_⟩
      have ek : (b + Int32.ofInt 1).toInt = b.toInt + 1 := by rw [t_add (by rw [lo_1]; omega), lo_1]
      have j235 : ∀ (V : MS) (v : Int32), frm [54, 55, 59] [] S V → w_dominate_J235 (fun u => frm [54, 55, 59] [] S u) (w_dominate_L200 (fun u => frm [54, 55, 59] [] S u) c) V v b b := fun V v fV => by
        unfold w_dominate_J235
        refine ⟨⟨b0, by omega⟩, fun D eD a ea => ?_⟩
        subst ea
        exact ih D _ (fV.tr (by rw [eD]; exact frm.pI (by decide))) (by omega) (by omega)
      unfold w_dominate_J234
      refine ⟨⟨b0, by omega⟩, fun _ => j235 U _ fU, fun _ => ⟨fun _ => j235 U _ fU, fun _ => ⟨_, sp_nearestOf gU ⟨b0, by omega⟩, fun r V eV => ?_⟩⟩⟩
      rw [eV]
      exact j235 U _ fU
  have L159 : ∀ (k142 : MS → Int32 → Prop) (b : Int32), (0 ≤ b.toInt ∧ b.toInt < (qI S 0 105).toInt) → (∀ U : MS, frm [54, 55, 59] [] S U → k142 U (b + Int32.ofInt 1)) → ∀ (c : Nat) (U : MS) (k : Int32), frm [54, 55, 59] [] S U → 0 ≤ k.toInt → (1200 - k.toInt).toNat < c → w_dominate_L159 (fun u => frm [54, 55, 59] [] S u) k142 c U b k := by
    intro k142 b hb hk c
    induction c with
    | zero => intro U k _ _ h9; exact absurd h9 (Nat.not_lt_zero _)
    | succ c ih =>
      intro U k fU k0 hc
      obtain ⟨gU, u105, u110⟩ := ge U fU
      unfold w_dominate_L159
      rw [u105]
      refine ⟨fun _ a ea => by subst ea; exact hk U fU, fun c1 => ?_⟩
      have ek : (k + Int32.ofInt 1).toInt = k.toInt + 1 := by rw [t_add (by rw [lo_1]; omega), lo_1]
      have j186 : ∀ V : MS, frm [54, 55, 59] [] S V → w_dominate_J186 (fun u => frm [54, 55, 59] [] S u) (w_dominate_L159 (fun u => frm [54, 55, 59] [] S u) k142 c) V b k := fun V fV => by
        unfold w_dominate_J186
        intro a ea
        subst ea
        exact ih V _ fV (by omega) (by omega)
      exact ⟨d_dom ⟨k0, by omega⟩ ⟨hb.1, by omega⟩, fun _ => j186 U fU, fun _ => ⟨⟨hb.1, by omega⟩, ⟨hb.1, by omega⟩, fun D eD => j186 D (fU.tr (by rw [eD]; exact frm.pI (by decide)))⟩⟩
  have L142 : ∀ (c : Nat) (U : MS) (b : Int32), frm [54, 55, 59] [] S U → 0 ≤ b.toInt → (1200 - b.toInt).toNat < c → w_dominate_L142 (fun u => frm [54, 55, 59] [] S u) c U b := by
    intro c
    induction c with
    | zero => intro U b _ _ h9; exact absurd h9 (Nat.not_lt_zero _)
    | succ c ih =>
      intro U b fU b0 hc
      obtain ⟨gU, u105, u110⟩ := ge U fU
      unfold w_dominate_L142
      rw [u105]
      have ek : b.toInt < 1200 → (b + Int32.ofInt 1).toInt = b.toInt + 1 := fun q => by rw [t_add (by rw [lo_1]; omega), lo_1]
      refine ⟨fun _ => ⟨_, L200 _ U 0 fU (by decide) (Nat.lt_succ_self _)⟩, fun c1 => ⟨⟨b0, by omega⟩, fun D eD => ?_⟩⟩
      exact ⟨_, L159 _ b ⟨b0, by omega⟩ (fun V fV => ih V _ fV (by rw [ek (by omega)]; omega) (by rw [ek (by omega)]; omega)) _ D 0 (fU.tr (by rw [eD]; exact frm.pI (by decide))) (by decide) (Nat.lt_succ_self _)⟩
  -- a round that narrows
  have L80 : ∀ (S0 : MS) (k65 : MS → Int32 → Int32 → Prop) (b : Int32), frm [54, 55, 59] [] S S0 → (0 ≤ b.toInt ∧ b.toInt < (qI S 0 105).toInt) → (∀ (U : MS) (m : Int32), NwR S0 U m → k65 U m (b + Int32.ofInt 1)) → ∀ (c : Nat) (U : MS) (m k : Int32), NwR S0 U m → 0 ≤ k.toInt → (24000 - k.toInt).toNat < c → w_dominate_L80 (fun u => frm [54, 55, 59] [] S u) k65 c U m b k := by
    intro S0 k65 b f0 hb hk c
    induction c with
    | zero => intro U m k _ _ h9; exact absurd h9 (Nat.not_lt_zero _)
    | succ c ih =>
      intro U m k hU k0 hc
      have fU : frm [54, 55, 59] [] S U := f0.tr (hU.1.mo (by decide) (by decide))
      obtain ⟨gU, u105, u110⟩ := ge U fU
      have eb : (b + (1 : Int32)).toInt = b.toInt + 1 := by rw [t_add (by rw [li_1]; omega), li_1]
      have nxt : w_dominate_J131 (fun u => frm [54, 55, 59] [] S u) k65 U m b := by
        unfold w_dominate_J131
        intro a ea
        subst ea
        exact hk U m hU
      unfold w_dominate_L80
      rw [eb]
      refine ⟨⟨hb.1, by omega⟩, fun _ => nxt, fun c0 => ⟨⟨by omega, by omega⟩, fun _ => nxt, fun c1 => ?_⟩⟩
      have e1 := gU.2.2.1 (b.toInt + 1).toNat (by rw [u105]; omega)
      rw [u110] at e1
      have e2 := gU.2.2.2 k.toInt.toNat (by rw [u110]; omega)
      rw [u105] at e2
      have ek : (k + Int32.ofInt 1).toInt = k.toInt + 1 := by rw [t_add (by rw [lo_1]; omega), lo_1]
      refine ⟨⟨k0, by omega⟩, _, sp_narrowed ⟨hb.1, by omega⟩ ⟨e2.1, by omega⟩, fun r V hV => ?_⟩
      have j124 : ∀ m' : Int32, (¬ m'.toInt = 0 → ¬ m.toInt = 0 ∨ ¬ r.toInt = 0) → w_dominate_J124 (fun u => frm [54, 55, 59] [] S u) (w_dominate_L80 (fun u => frm [54, 55, 59] [] S u) k65 c) V m' b k := fun m' hm => by
        unfold w_dominate_J124
        intro a ea
        subst ea
        refine ih V m' _ ⟨hU.1.tr hV.1, by have := hU.2.1; have := hV.2.1; omega, fun q => ?_⟩ (by omega) (by omega)
        rcases hm q with w | w
        · have := hU.2.2 w; have := hV.2.1; omega
        · have := hV.2.2 w; have := hU.2.1; omega
      unfold w_dominate_J119
      exact ⟨fun _ => ⟨fun _ => j124 0 (fun q => absurd rfl q), fun c3 => j124 1 (fun _ => Or.inl c3)⟩, fun c3 => j124 1 (fun _ => Or.inr c3)⟩
  have L65 : ∀ (S0 : MS) (k57 : MS → Int32 → Prop), frm [54, 55, 59] [] S S0 → (∀ (U : MS) (m : Int32), NwR S0 U m → k57 U m) → ∀ (c : Nat) (U : MS) (m b : Int32), NwR S0 U m → 0 ≤ b.toInt → (1200 - b.toInt).toNat < c → w_dominate_L65 (fun u => frm [54, 55, 59] [] S u) k57 c U m b := by
    intro S0 k57 f0 hk c
    induction c with
    | zero => intro U m b _ _ h9; exact absurd h9 (Nat.not_lt_zero _)
    | succ c ih =>
      intro U m b hU b0 hc
      have fU : frm [54, 55, 59] [] S U := f0.tr (hU.1.mo (by decide) (by decide))
      obtain ⟨gU, u105, u110⟩ := ge U fU
      unfold w_dominate_L65
      rw [u105]
      refine ⟨fun _ => hk U m hU, fun c1 => ⟨⟨b0, by omega⟩, fun a ea => ?_⟩⟩
      have e1 := gU.2.2.1 b.toInt.toNat (by rw [u105]; omega)
      have ek : (b + Int32.ofInt 1).toInt = b.toInt + 1 := by rw [t_add (by rw [lo_1]; omega), lo_1]
      exact ⟨_, L80 S0 _ b f0 ⟨b0, by omega⟩ (fun U' m' h' => ih U' m' _ h' (by omega) (by omega)) _ U m a hU (by rw [ea]; exact e1.1) (Nat.lt_succ_self _)⟩
  have L57 : ∀ (c : Nat) (U : MS) (m : Int32), frm [54, 55, 59] [] S U → (m.toInt = 0 ∧ 1 ≤ c ∨ MbN U + 2 ≤ c) → w_dominate_L57 (fun u => frm [54, 55, 59] [] S u) c U m := by
    intro c
    induction c with
    | zero => intro U m _ h9; exact absurd h9 (by omega)
    | succ c ih =>
      intro U m fU hc
      unfold w_dominate_L57
      refine ⟨fun _ => ⟨_, L142 _ U 0 fU (by decide) (Nat.lt_succ_self _)⟩, fun c1 => ?_⟩
      have hc2 : MbN U + 2 ≤ c + 1 := by omega
      refine ⟨_, L65 U _ fU (fun V m' hV => ih V m' (fU.tr (hV.1.mo (by decide) (by decide))) ?_) _ U 0 0 ⟨frm.rf, Nat.le_refl _, fun q => absurd rfl q⟩ (by decide) (Nat.lt_succ_self _)⟩
      by_cases z : m'.toInt = 0
      · exact Or.inl ⟨z, by omega⟩
      · have := hV.2.2 z
        exact Or.inr (by omega)
  have L28 : ∀ (c : Nat) (U : MS) (k : Int32), frm [54, 55, 59] [] S U → 0 ≤ k.toInt → (38 - k.toInt).toNat < c → w_dominate_L28 (fun u => frm [54, 55, 59] [] S u) c U k := by
    intro c
    induction c with
    | zero => intro U k _ _ h9; exact absurd h9 (Nat.not_lt_zero _)
    | succ c ih =>
      intro U k fU k0 hc
      unfold w_dominate_L28
      refine ⟨fun _ => ⟨_, L57 _ U 1 fU (Or.inr (Nat.le_refl _))⟩, fun c1 => ?_⟩
      have ek : (k + Int32.ofInt 1).toInt = k.toInt + 1 := by rw [t_add (by rw [lo_1]; omega), lo_1]
      have j48 : ∀ v : Int32, w_dominate_J48 (fun u => frm [54, 55, 59] [] S u) (w_dominate_L28 (fun u => frm [54, 55, 59] [] S u) c) U v k k := fun v => by
        unfold w_dominate_J48
        refine ⟨⟨k0, by omega⟩, fun D eD a ea => ?_⟩
        subst ea
        exact ih D _ (fU.tr (by rw [eD]; exact frm.pI (by decide))) (by omega) (by omega)
      exact ⟨fun _ => j48 1, fun _ => j48 0⟩
  have l : (38 : Int32).toInt = 38 := by decide
  have L2 : ∀ (c : Nat) (U : MS) (k : Int32), frm [54, 55, 59] [] S U → 0 ≤ k.toInt → (45600 - k.toInt).toNat < c → w_dominate_L2 (fun u => frm [54, 55, 59] [] S u) c U k := by
    intro c
    induction c with
    | zero => intro U k _ _ h9; exact absurd h9 (Nat.not_lt_zero _)
    | succ c ih =>
      intro U k fU k0 hc
      obtain ⟨gU, u105, u110⟩ := ge U fU
      have em : (qI S 0 105 * (38 : Int32)).toInt = (qI S 0 105).toInt * 38 := by rw [t_mul (by rw [l]; omega), l]
      unfold w_dominate_L2
      rw [u105, em]
      refine ⟨fun _ => ⟨_, L28 _ U 0 fU (by decide) (Nat.lt_succ_self _)⟩, fun c1 => ⟨⟨k0, by omega⟩, fun D eD a ea => ?_⟩⟩
      have ek : (k + Int32.ofInt 1).toInt = k.toInt + 1 := by rw [t_add (by rw [lo_1]; omega), lo_1]
      subst ea
      exact ih D _ (fU.tr (by rw [eD]; exact frm.pI (by decide))) (by omega) (by omega)
  unfold w_dominate
  exact ⟨_, L2 _ S 0 frm.rf (by decide) (Nat.lt_succ_self _)⟩
