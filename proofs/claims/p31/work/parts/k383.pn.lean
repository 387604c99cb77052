/-! plain, step (behind InS.onA, InS.get, InS.put, InS.mvs, InS.sto, sp_watch) -/
/-- a store, from its steps -/
theorem InS.sto2 {S V U W A D : MS} {f s p : Nat} {a : AS} {n : Int32} {r : Int64} (i : InS S V f U s p a) (ho : isSt (f_op U (xS S))) (kW : frm [47] [] V W) (hW : ∀ j : Nat, qI W 47 j = if j = 24 * (fN S).toNat + (f_first U (xS S)).toInt.toNat then nb (plF S (fN S).toNat ((aT a).toInt - tkV U (xS S)).toNat).2 else if (f_op U (xS S)).toInt = 55 ∧ j = 24 * (fN S).toNat + (f_first U (xS S)).toInt.toNat + 1 then nb (plF S (fN S).toNat ((aT a).toInt - 1).toNat).2 else qI V 47 j) (en : n.toInt = tkV U (xS S)) (pA : PpP W (0 + n.toInt) A) (er : r = qJ W 46 (24 * fN W + fT W - 0 - n.toInt).toNat) (eD : D = wJ A 45 (24 * fN S + (f_first U (xS S)).toInt).toNat r) (hf : 0 ≤ (f_first U (xS S)).toInt) : PlQ S f 1 D := by
  obtain ⟨b0, b1, b2, b3, b4, L1, b5⟩ := i.v
  obtain ⟨kk, t, hx, st, hT, h0⟩ := i.t
  have mW := b1.mv kW
  have W44 : qI W 44 = qI V 44 := (kW.2.2.2.2.1 44 (by decide) (by decide)).1
  have W46 : qJ W 46 = qJ S 46 := by rw [(kW.2.2.2.2.1 46 (by decide) (by decide)).2.1, (i.2.1.2.2.2.2.1 46 (by decide) (by decide)).2.1]
  have tW : fT W = (aT a).toInt := by
    rw [← b4]
    unfold fT
    rw [mW.2, W44]
  have fD : frm [45] [] A D := by rw [eD]; exact frm.pJ (by decide)
  have mA := mW.1.mv pA.1
  have nD := (mA.1.mv fD).2
  have D44 : qI D 44 = qI A 44 := (fD.2.2.2.2.1 44 (by decide) (by decide)).1
  refine i.sto ho ((kW.mo (by decide) (by decide)).tr ((pA.1.mo (by decide) (by decide)).tr (fD.mo (by decide) (by decide)))) ?_ (fun j hj => ?_) (fun j => ?_)
  · have z := pA.2.1
    rw [tW] at z
    unfold fT at z
    show (qI D 44 (fN D).toNat).toInt = _
    rw [nD, D44, z, b4, en]
    omega
  · rw [D44, pA.2.2 j (by rw [mW.2]; exact hj), W44]
  · have dJ : qJ D 45 j = if j = 24 * (fN S).toNat + (f_first U (xS S)).toInt.toNat then (plF S (fN S).toNat ((aT a).toInt - tkV U (xS S)).toNat).1 else qJ V 45 j := by
      rw [eD, qJ_wJ]
      by_cases c : j = 24 * (fN S).toNat + (f_first U (xS S)).toInt.toNat
      · rw [if_pos ⟨rfl, by omega⟩, if_pos c, er, mW.2, b2, tW, W46, en]
        unfold plF qW
        rw [show (24 * fN S + (aT a).toInt - 0 - tkV U (xS S)).toNat = 24 * (fN S).toNat + ((aT a).toInt - tkV U (xS S)).toNat by omega]
      · rw [if_neg (fun q => c (by have := q.2; omega)), if_neg c, (pA.1.2.2.2.2.1 45 (by decide) (by decide)).2.1, (kW.2.2.2.2.1 45 (by decide) (by decide)).2.1]
    have dI : qI D 47 j = qI W 47 j := by rw [eD, qI_wJ, (pA.1.2.2.2.2.1 47 (by decide) (by decide)).1]
    have eq1 : qW D 45 j = (qJ D 45 j, qI D 47 j) := rfl
    have eq2 : qW V 45 j = (qJ V 45 j, qI V 47 j) := rfl
    rw [eq1, eq2, dJ, dI, hW]
    by_cases c : j = 24 * (fN S).toNat + (f_first U (xS S)).toInt.toNat
    · rw [if_pos c, if_pos c, if_pos c]
      rfl
    · rw [if_neg c, if_neg c, if_neg c]
      split <;> rfl
theorem InS.pop12 {S V U : MS} {f s p : Nat} {a : AS} {d : Int32} (i : InS S V f U s p a) (ho : (f_op U (xS S)).toInt = 87 ∧ d.toInt = 1 ∨ (f_op U (xS S)).toInt = 88 ∧ d.toInt = 2) : (((0 : Int) ≤ ((qI V 0 97) - (1 : Int32)).toInt ∧ ((qI V 0 97) - (1 : Int32)).toInt < 60) ∧ (((0 : Int) ≤ ((qI V 0 97) - (1 : Int32)).toInt ∧ ((qI V 0 97) - (1 : Int32)).toInt < 60) ∧ (∀ D, D = wI V 44 ((((qI V 0 97) - (1 : Int32)).toInt).toNat) ((qI V 44 ((((qI V 0 97) - (1 : Int32)).toInt).toNat)) - d) → PlQ S f (1 : Int32) D))) := by
  obtain ⟨b0, b1, b2, b3, b4, L1, b5⟩ := i.v
  obtain ⟨kk, t, hx, st, hT, h0⟩ := i.t
  obtain ⟨y1, y2, y3, y4⟩ := b1.e
  have om : 0 < (f_moved U (f_op U (xS S))).toInt := mv_iff.mpr (by omega)
  have m := mvn (S := U) (op := f_op U (xS S))
  have lf := lfn (S := U) (op := f_op U (xS S))
  have eT : tkV U (xS S) = d.toInt := by
    unfold tkV
    rw [if_pos om]
    rcases ho with q | q
    · rw [m.1 (Or.inl q.1), q.2]
    · rw [m.2 (Or.inl q.1), q.2]
  have eG : gvV U (xS S) = 0 := by
    unfold gvV
    rw [if_pos om]
    exact lf.1 (by omega)
  rw [y1]
  refine ⟨⟨y2, y3⟩, ⟨y2, y3⟩, fun D eD => ?_⟩
  have k : frm [44, 46, 48] [] V D := by rw [eD]; exact frm.pI (by decide)
  have nD := (b1.mv k).2
  have D46 : qW D 46 = qW V 46 := by rw [eD]; exact qW_I (by decide)
  have t0 : (qI V 44 (fN V).toNat).toInt = (aT a).toInt := by unfold fT at b4; exact b4
  refine i.mvs om k ?_ (fun j hj => by rw [eD, qI_wI, if_neg (fun q => hj q.2)]) ?_ (fun j hj => by rw [D46])
  · show (qI D 44 (fN D).toNat).toInt = _
    rw [nD, eD, qI_wI, if_pos ⟨rfl, rfl⟩, t_sub (by omega), t0, eT, eG, b4]
    omega
  · have e : plF D (fN V).toNat = plF V (fN V).toNat := by funext j; unfold plF; rw [D46]
    rw [e]
    exact ⟨fun _ _ _ => rfl, fun _ _ _ => rfl, fun q => by omega, fun q => by omega, fun q => by omega, fun q => by omega⟩
theorem InS.shf {S V U : MS} {f s p : Nat} {a : AS} (i : InS S V f U s p a) (ho : (f_op U (xS S)).toInt = 89 ∨ (f_op U (xS S)).toInt = 90 ∨ (f_op U (xS S)).toInt = 92 ∨ (f_op U (xS S)).toInt = 95) : ∃ Q1, w_shuffle V (f_op U (xS S)) Q1 ∧ ∀ u, Q1 u → PlQ S f 1 u := by
  obtain ⟨b0, b1, b2, b3, b4, L1, b5⟩ := i.v
  obtain ⟨kk, t, hx, st, hT, h0⟩ := i.t
  have om : 0 < (f_moved U (f_op U (xS S))).toInt := mv_iff.mpr (by omega)
  have m := mvn (S := U) (op := f_op U (xS S))
  have lf := lfn (S := U) (op := f_op U (xS S))
  have eT : tkV U (xS S) = (if (f_op U (xS S)).toInt = 89 then 1 else 2) := by
    unfold tkV
    rw [if_pos om]
    by_cases q : (f_op U (xS S)).toInt = 89
    · rw [if_pos q]; exact m.1 (Or.inr q)
    · rw [if_neg q]; exact m.2 (by omega)
  have eG : gvV U (xS S) = (if (f_op U (xS S)).toInt = 90 then 3 else if (f_op U (xS S)).toInt = 92 then 4 else 2) := by
    unfold gvV
    rw [if_pos om]
    by_cases q : (f_op U (xS S)).toInt = 90
    · rw [if_pos q]; exact lf.2.2.1 q
    · rw [if_neg q]
      by_cases q2 : (f_op U (xS S)).toInt = 92
      · rw [if_pos q2]; exact lf.2.2.2 q2
      · rw [if_neg q2]; exact lf.2.1 (by omega)
  have hh : 1 ≤ fT V ∧ ((f_op U (xS S)).toInt = 89 ∨ 2 ≤ fT V) ∧ fT V ≤ 24 ∧ ((f_op U (xS S)).toInt = 92 → fT V ≤ 22) ∧ ((f_op U (xS S)).toInt = 89 ∨ (f_op U (xS S)).toInt = 90 → fT V ≤ 23) := by
    rw [b4]
    obtain ⟨h1, h2, h3⟩ := hT
    rw [eT] at h1 h3
    rw [eG] at h3
    rcases ho with q | q | q | q
    · rw [if_pos q] at h1 h3
      rw [if_neg (by omega), if_neg (by omega)] at h3
      omega
    · rw [if_neg (by omega)] at h1 h3
      rw [if_pos q] at h3
      omega
    · rw [if_neg (by omega)] at h1 h3
      rw [if_neg (by omega), if_pos q] at h3
      omega
    · rw [if_neg (by omega)] at h1 h3
      omega
  refine ⟨_, sp_shuffle b1 ho hh, fun u hu => ?_⟩
  obtain ⟨k, e1, o44, mm, lo⟩ := hu
  refine i.mvs om k ?_ o44 mm lo
  rw [e1, eT, eG]
  rcases ho with q | q | q | q
  · rw [if_pos (Or.inl q), if_pos q, if_neg (by omega), if_neg (by omega)]; omega
  · rw [if_pos (Or.inr q), if_neg (by omega), if_pos q]; omega
  · rw [if_neg (by omega), if_pos q, if_neg (by omega), if_neg (by omega), if_pos q]; omega
  · rw [if_neg (by omega), if_neg (by omega), if_neg (by omega), if_neg (by omega), if_neg (by omega)]; omega
theorem InS.plain {S V U : MS} {f s p : Nat} {a : AS} (i : InS S V f U s p a) (kV : LkI V) (hw : opW (f_op U (xS S)).toInt) (h1 : ¬ isAr (f_op U (xS S)).toInt) (h2 : ¬ ((153 ≤ (f_op U (xS S)).toInt ∧ (f_op U (xS S)).toInt ≤ 167) ∨ (f_op U (xS S)).toInt = 198 ∨ (f_op U (xS S)).toInt = 199)) (h3 : ¬ ((170 ≤ (f_op U (xS S)).toInt ∧ (f_op U (xS S)).toInt ≤ 177) ∨ (f_op U (xS S)).toInt = 184)) : w_plain V (xS S) (f_op U (xS S)) (f_first U (xS S)) (PlQ S f) := by
  obtain ⟨b0, b1, b2, b3, b4, L1, b5⟩ := i.v
  obtain ⟨kk, t, hx, st, hT, h0⟩ := i.t
  have l1 := tx_l1 t
  have lc := i.lc
  have l2 : (2 : Int32).toInt = 2 := by decide
  have v52 : qI V 0 52 = qI U 0 52 := i.2.2.2.2.2.2.2 52 (by decide) (by decide)
  have dV := kV.dop (x := xS S) (by rw [v52]; exact hx)
  have v45 : qJ V 45 = qJ S 45 := (i.2.1.2.2.2.2.1 45 (by decide) (by decide)).2.1
  have v47 : qI V 47 = qI S 47 := (i.2.1.2.2.2.2.1 47 (by decide) (by decide)).1
  have v48 : qI V 48 = qI S 48 := (i.2.1.2.2.2.2.1 48 (by decide) (by decide)).1
  -- one value onto the pile
  have put0 : ∀ v : Int64, tkV U (xS S) = 0 → gvV U (xS S) = 1 → ∃ Q, w_put V v 1 Q ∧ ∀ u, Q u → PuP V (tkV U (xS S)) (gvV U (xS S)) (v, ptT v 1) u := fun v e1 e2 => by
    obtain ⟨Q, x1, x2⟩ := sp_psh (v := v) (n := 1) b1 PpP.rf (Or.inl li_1) ⟨by omega, by rw [li_1]; omega⟩
    exact ⟨Q, x1, fun u hu => by rw [e1, e2]; have z := x2 u hu; rw [li_1] at z; exact z⟩
  have put2 : ∀ (A : MS) (v : Int64) (d : Int), PpP V d A → tkV U (xS S) = d → gvV U (xS S) = 2 → ∃ Q, w_put A v 2 Q ∧ ∀ u, Q u → PuP V (tkV U (xS S)) (gvV U (xS S)) (v, ptT v 2) u := fun A v d pA e1 e2 => by
    obtain ⟨Q, x1, x2⟩ := sp_psh (v := v) (n := 2) b1 pA (Or.inr l2) ⟨by omega, by rw [l2]; omega⟩
    exact ⟨Q, x1, fun u hu => by rw [e1, e2]; have z := x2 u hu; rw [l2] at z; exact z⟩
  have putI : ∀ (A : MS) (v : Int32) (d : Int), PpP V d A → tkV U (xS S) = d → gvV U (xS S) = 1 → ∃ Q, w_putInt A v Q ∧ ∀ u, Q u → PuP V (tkV U (xS S)) (gvV U (xS S)) (v.toInt64, nb 1) u := fun A v d pA e1 e2 => by
    obtain ⟨Q, x1, x2⟩ := sp_psi (v := v) b1 pA ⟨by omega, by omega⟩
    exact ⟨Q, x1, fun u hu => by rw [e1, e2]; exact x2 u hu⟩
  have putT : ∀ (v : Int64) (g : Int32), tkV U (xS S) = 0 → gvV U (xS S) = 1 → ∃ Q, w_putTagged V v g 1 Q ∧ ∀ u, Q u → PuP V (tkV U (xS S)) (gvV U (xS S)) (v, nb g) u := fun v g e1 e2 => by
    obtain ⟨Q, x1, x2⟩ := sp_pst (v := v) (t := g) (n := 1) b1 PpP.rf (Or.inl li_1) ⟨by omega, by rw [li_1]; omega⟩
    exact ⟨Q, x1, fun u hu => by rw [e1, e2]; have z := x2 u hu; rw [li_1] at z; exact z⟩
  have conv : ∀ (n : Int32) (F : MS → Int64 → Int32), (n.toInt = 1 ∨ n.toInt = 2) → tkV U (xS S) = n.toInt → gvV U (xS S) = 1 → f_givesOf U (xS S) = 10000016 → isPl (f_op U (xS S)).toInt → ∃ Q1, w_got V n Q1 ∧ ∀ r A, Q1 r A → (d_turned A (f_op U (xS S)) r ∧ ∃ Q2, w_putInt A (F A r) Q2 ∧ ∀ u, Q2 u → PlQ S f (1 : Int32) u) := fun n F hn e1 e2 e3 pl => by
    refine ⟨_, sp_pop (n := n) b1 PpP.rf (by decide) ⟨by omega, by rw [b4]; omega⟩ (by rw [b4]; exact hT.2.1), ?_⟩
    rintro r A ⟨pA, -⟩
    obtain ⟨Q, x1, x2⟩ := putI A (F A r) _ pA (by omega) e2
    exact ⟨trivial, Q, x1, fun u hu => i.pI pl (x2 u hu) (Or.inl ⟨e3, i64_int _, nb1v⟩)⟩
  have slr : ∀ k : Int32, (0 ≤ k.toInt ∧ k.toInt < 24) → (0 ≤ (f_slot V k).toInt ∧ (f_slot V k).toInt < 1440) ∧ (f_slot V k).toInt.toNat = 24 * (fN S).toNat + k.toInt.toNat := fun k hk => by
    have e := i.slot (W := V) rfl ⟨hk.1, by omega⟩
    omega
  have sv : ∀ k : Int32, (0 ≤ k.toInt ∧ k.toInt < 24) → (qJ V 45 (f_slot V k).toInt.toNat, nb (qI V 47 (f_slot V k).toInt.toNat)) = nW (slF S (fN S).toNat k.toInt.toNat) := fun k hk => by
    rw [(slr k hk).2, v45, v47]
    rfl
  have store : ∀ (n : Int32), isSt (f_op U (xS S)) → tkV U (xS S) = n.toInt → (n.toInt = 1 ∨ n.toInt = 2) → (0 ≤ (f_first U (xS S)).toInt ∧ (f_first U (xS S)).toInt < 24) → ∀ W : MS, frm [47] [] V W → (∀ j : Nat, qI W 47 j = if j = 24 * (fN S).toNat + (f_first U (xS S)).toInt.toNat then nb (plF S (fN S).toNat ((aT a).toInt - tkV U (xS S)).toNat).2 else if (f_op U (xS S)).toInt = 55 ∧ j = 24 * (fN S).toNat + (f_first U (xS S)).toInt.toNat + 1 then nb (plF S (fN S).toNat ((aT a).toInt - 1).toNat).2 else qI V 47 j) → ∃ Q1, w_got W n Q1 ∧ ∀ r A, Q1 r A → (((0 : Int) ≤ (f_slot W (f_first U (xS S))).toInt ∧ (f_slot W (f_first U (xS S))).toInt < 1440) ∧ (∀ D, D = wJ A 45 (((f_slot W (f_first U (xS S))).toInt).toNat) r → PlQ S f (1 : Int32) D)) := fun n o1 e1 hn hf W kW hW => by
    have mW := b1.mv kW
    have tW : fT W = (aT a).toInt := by
      rw [← b4]
      unfold fT
      rw [mW.2, (kW.2.2.2.2.1 44 (by decide) (by decide)).1]
    have e := i.slot (W := W) ((kW.2.2.2.2.2 97 (by decide)).1) ⟨hf.1, by omega⟩
    refine ⟨_, sp_pop (n := n) mW.1 PpP.rf (by decide) ⟨by omega, by rw [tW]; omega⟩ (by rw [tW]; exact hT.2.1), ?_⟩
    rintro r A ⟨pA, er⟩
    rw [e]
    exact ⟨⟨by omega, by omega⟩, fun D eD => i.sto2 o1 kW hW e1.symm pA er eD hf.1⟩
  have tg1 : 1 ≤ (aT a).toInt → f_tagAt V 1 = (plF S (fN S).toNat ((aT a).toInt - 1).toNat).2 := fun q => by
    have y := f_tg (k := 1) b1 ⟨by decide, by rw [li_1, b4]; omega⟩ (by rw [b4]; exact hT.2.1)
    rw [li_1, b2, b4, v48] at y
    rw [y]
    unfold plF qW
    rw [show (24 * fN S + (aT a).toInt - 1).toNat = 24 * (fN S).toNat + ((aT a).toInt - 1).toNat by omega]
  have tg2 : 2 ≤ (aT a).toInt → f_tagAt V 2 = (plF S (fN S).toNat ((aT a).toInt - 2).toNat).2 := fun q => by
    have y := f_tg (k := 2) b1 ⟨by decide, by rw [l2, b4]; omega⟩ (by rw [b4]; exact hT.2.1)
    rw [l2, b2, b4, v48] at y
    rw [y]
    unfold plF qW
    rw [show (24 * fN S + (aT a).toInt - 2).toNat = 24 * (fN S).toNat + ((aT a).toInt - 2).toNat by omega]
  have w1 : ∀ W : MS, W = wI V 47 (f_slot V (f_first U (xS S))).toInt.toNat (vp_nar .byte ((f_tagAt V (1 : Int32)).toInt8.toInt32)) → (0 ≤ (f_first U (xS S)).toInt ∧ (f_first U (xS S)).toInt < 24) → tkV U (xS S) = 1 → 1 ≤ (aT a).toInt → ¬ (f_op U (xS S)).toInt = 55 → ∀ j : Nat, qI W 47 j = if j = 24 * (fN S).toNat + (f_first U (xS S)).toInt.toNat then nb (plF S (fN S).toNat ((aT a).toInt - tkV U (xS S)).toNat).2 else if (f_op U (xS S)).toInt = 55 ∧ j = 24 * (fN S).toNat + (f_first U (xS S)).toInt.toNat + 1 then nb (plF S (fN S).toNat ((aT a).toInt - 1).toNat).2 else qI V 47 j := fun W eW hf e1 t1 n5 j => by
    rw [eW, qI_wI, (slr _ hf).2, nb_8, tg1 t1, e1]
    by_cases c : j = 24 * (fN S).toNat + (f_first U (xS S)).toInt.toNat
    · rw [if_pos ⟨rfl, c⟩, if_pos c]
    · rw [if_neg (fun q => c q.2), if_neg c, if_neg (fun q => n5 q.1)]
  unfold w_plain
  refine ⟨fun c => ?_, fun c0 => ⟨fun c => ?_, fun c1 => ⟨fun c => ?_, fun c18 => ⟨fun c => ?_, fun c20 => ⟨fun c => ?_, fun c21 => ⟨fun c => ?_, fun c22 => ⟨fun c => ?_, fun c25 => ⟨fun c => ?_, fun c54 => ⟨fun c => ?_, fun c55 => ⟨fun c => ?_, fun c58 => ⟨fun c => ?_, fun c87 => ⟨fun c => ?_, fun c88 => ⟨fun c => ?_, fun c89 => ⟨fun c => ?_, fun c90 => ⟨fun c => ?_, fun c92 => ⟨fun c => ?_, fun c95 => ⟨fun c => ?_, fun c132 => ⟨fun c => ?_, fun c133 => ⟨fun c => ?_, fun c136 => ⟨fun c => ?_, fun c145 => ⟨fun c => ?_, fun c146 => ⟨fun c => ?_, fun c147 => ⟨fun c => ?_, fun c178 => ⟨fun c => ?_, fun c179 => ?_⟩⟩⟩⟩⟩⟩⟩⟩⟩⟩⟩⟩⟩⟩⟩⟩⟩⟩⟩⟩⟩⟩⟩⟩
  · have z := tg_0 c t
    exact i.p0 (by unfold isPl; omega) (by rw [z.2.1]; exact PpP.rf) (by rw [z.1.2]; exact l1.2.2.2.2.2.2.2.2.2.2.2.1)
  · have z := tg_1 c t
    obtain ⟨Q, x1, x2⟩ := put0 0 z.2.1 z.2.2
    refine ⟨Q, x1, fun u hu => i.p1 (by unfold isPl; omega) (x2 u hu) (by rw [z.1.2]; exact l1.2.2.2.2.2.2.2.2.2.2.2.2.1) ?_⟩
    have c1 : (qI U (10000034 + 1) 0).toInt = 78 := l1.2.2.2.2.2.2.2.2.2.2.2.2.2
    rw [z.1.2]
    exact gv_l.2.2.2.1 c1 (show (0 : Int64).toInt = 0 by decide) (ptT_6 (by decide) (by decide))
  · have z := tg_18 c t
    obtain ⟨Q, x1, x2⟩ := putI V (f_first U (xS S)) 0 PpP.rf z.2.1 z.2.2
    exact ⟨Q, x1, fun u hu => i.pI (by unfold isPl; omega) (x2 u hu) (Or.inl ⟨z.1.2, i64_int _, nb1v⟩)⟩
  · have z := tg_20 c t
    obtain ⟨Q, x1, x2⟩ := put2 V (f_longOf V (xS S)) 0 PpP.rf z.2.1 z.2.2
    exact ⟨⟨dV.2.1, dV.2.2, trivial⟩, Q, x1, fun u hu => i.pI (by unfold isPl; omega) (x2 u hu) (Or.inr ⟨z.1.2, ptT_2 l2⟩)⟩
  · have z := tg_21 c t
    have hf := lc.1 (Or.inl c)
    have r := slr _ hf
    have pl : isPl (f_op U (xS S)).toInt := by unfold isPl; omega
    obtain ⟨Q, x1, x2⟩ := putT (qJ V 45 (f_slot V (f_first U (xS S))).toInt.toNat) (qI V 47 (f_slot V (f_first U (xS S))).toInt.toNat) z.2.1 z.2.2
    refine ⟨trivial, r.1, trivial, r.1, Q, x1, fun u hu => i.pI pl (x2 u hu) (Or.inl ⟨z.1.2, ?_⟩)⟩
    have a1 := (i.wd pl.f.1).1 (Or.inl c)
    have ok := i.2.2.2.2.1.1 (f_first U (xS S)).toInt.toNat (by omega)
    have e1 : aL a (f_first U (xS S)).toInt.toNat = nb 1 := Int32.toInt_inj.mp (by rw [a1]; decide)
    rw [e1] at ok
    have o2 := ok.nw
    rw [sv _ hf]
    exact ⟨o2.2.2.1 (by decide), o2.t1.1 (by decide)⟩
  · have z := tg_22 c t
    have hf := lc.2 (Or.inl c)
    have r := slr (f_first U (xS S)) ⟨hf.1, by omega⟩
    obtain ⟨Q, x1, x2⟩ := put2 V (qJ V 45 (f_slot V (f_first U (xS S))).toInt.toNat) 0 PpP.rf z.2.1 z.2.2
    exact ⟨trivial, r.1, Q, x1, fun u hu => i.pI (by unfold isPl; omega) (x2 u hu) (Or.inr ⟨z.1.2, ptT_2 l2⟩)⟩
  · have z := tg_25 c t
    have hf := lc.1 (Or.inr (Or.inl c))
    have r := slr _ hf
    obtain ⟨Q, x1, x2⟩ := putT (qJ V 45 (f_slot V (f_first U (xS S))).toInt.toNat) (qI V 47 (f_slot V (f_first U (xS S))).toInt.toNat) z.2.1 z.2.2
    refine ⟨trivial, r.1, trivial, r.1, Q, x1, fun u hu => i.p1 (by unfold isPl; omega) (x2 u hu) (by rw [z.1.2]; exact l1.2.2.2.2.2.2.2.1.1) ?_⟩
    have c1 : (qI U (10000024 + 1) 0).toInt = 82 := l1.2.2.2.2.2.2.2.1.2
    rw [z.1.2]
    refine gv_l.2.2.2.2 c1 ?_
    rw [sv _ hf]
    have ok := i.2.2.2.2.1.1 (f_first U (xS S)).toInt.toNat (by omega)
    unfold thV
    simp only [if_pos c]
    by_cases y : (isTh (aL a (f_first U (xS S)).toInt.toNat)).toInt = 0
    · rw [if_pos y]; exact okV.z0
    · rw [if_neg y]
      rw [← st.1.nb.1 _ (by omega)] at ok
      exact ok.nw
  · have z := tg_54 c t
    have hf := lc.1 (by omega)
    exact ⟨trivial, d_tg b1 ⟨by decide, by rw [li_1, b4]; have := hT.1; omega⟩ (by rw [b4]; exact hT.2.1), (slr _ hf).1, fun W eW => ⟨trivial, store 1 (Or.inl c) (by rw [li_1]; exact z.2.1) (Or.inl li_1) hf W (by rw [eW]; exact frm.pI (by decide)) (w1 W eW hf z.2.1 (by have := hT.1; omega) (by omega))⟩⟩
  · have z := tg_55 c t
    have hf := lc.2 (Or.inr c)
    have hf2 : 0 ≤ (f_first U (xS S)).toInt ∧ (f_first U (xS S)).toInt < 24 := by omega
    have t2 : 2 ≤ (aT a).toInt := by have := hT.1; rw [z.2.1] at this; exact this
    have e1 : (f_first U (xS S) + (1 : Int32)).toInt = (f_first U (xS S)).toInt + 1 := by rw [t_add (by rw [li_1]; omega), li_1]
    refine ⟨trivial, d_tg b1 ⟨by decide, by rw [l2, b4]; omega⟩ (by rw [b4]; exact hT.2.1), (slr _ hf2).1, fun W eW => ?_⟩
    have kW : frm [47] [] V W := by rw [eW]; exact frm.pI (by decide)
    have mW := b1.mv kW
    have tW : fT W = (aT a).toInt := by
      rw [← b4]
      unfold fT
      rw [mW.2, (kW.2.2.2.2.1 44 (by decide) (by decide)).1]
    have e := i.slot (W := W) (k := f_first U (xS S) + 1) ((kW.2.2.2.2.2 97 (by decide)).1) (by omega)
    refine ⟨trivial, d_tg mW.1 ⟨by decide, by rw [li_1, tW]; omega⟩ (by rw [tW]; exact hT.2.1), ⟨by omega, by omega⟩, fun X eX => ⟨trivial, store 2 (Or.inr (Or.inl c)) (by rw [l2]; exact z.2.1) (Or.inr l2) hf2 X (kW.tr (by rw [eX]; exact frm.pI (by decide))) (fun j => ?_)⟩⟩
    have tw : f_tagAt W 1 = f_tagAt V 1 := by
      have w48 : qI W 48 = qI V 48 := (kW.2.2.2.2.1 48 (by decide) (by decide)).1
      have w44 : qI W 44 = qI V 44 := (kW.2.2.2.2.1 44 (by decide) (by decide)).1
      have w97 : qI W 0 97 = qI V 0 97 := (kW.2.2.2.2.2 97 (by decide)).1
      unfold f_tagAt
      rw [w48, w44, w97]
    rw [eX, qI_wI, e, nb_8, tw, tg1 (by omega), eW, qI_wI, (slr _ hf2).2, nb_8, tg2 t2, z.2.1]
    by_cases c2 : j = 24 * (fN S).toNat + (f_first U (xS S)).toInt.toNat
    · rw [if_neg (fun q => by have := q.2; omega), if_pos ⟨rfl, c2⟩, if_pos c2]
    · rw [if_neg c2]
      by_cases c3 : j = 24 * (fN S).toNat + (f_first U (xS S)).toInt.toNat + 1
      · rw [if_pos ⟨rfl, by omega⟩, if_pos ⟨c, c3⟩]
      · rw [if_neg (fun q => c3 (by have := q.2; omega)), if_neg (fun q => c2 q.2), if_neg (fun q => c3 q.2)]
  · have z := tg_58 c t
    have hf := lc.1 (by omega)
    exact ⟨trivial, d_tg b1 ⟨by decide, by rw [li_1, b4]; have := hT.1; omega⟩ (by rw [b4]; exact hT.2.1), (slr _ hf).1, fun W eW => ⟨trivial, store 1 (Or.inr (Or.inr c)) (by rw [li_1]; exact z.2.1) (Or.inl li_1) hf W (by rw [eW]; exact frm.pI (by decide)) (w1 W eW hf z.2.1 (by have := hT.1; omega) (by omega))⟩⟩
  · exact i.pop12 (Or.inl ⟨c, li_1⟩)
  · exact i.pop12 (Or.inr ⟨c, l2⟩)
  · exact i.shf (Or.inl c)
  · exact i.shf (Or.inr (Or.inl c))
  · exact i.shf (Or.inr (Or.inr (Or.inl c)))
  · exact i.shf (Or.inr (Or.inr (Or.inr c)))
  · have hf := lc.1 (by omega)
    have r := slr _ hf
    have e := i.slot (W := V) (k := f_first U (xS S)) rfl ⟨hf.1, by omega⟩
    refine ⟨trivial, trivial, r.1, dV.2.2, r.1, fun D eD => ?_⟩
    rw [e] at eD
    exact i.grow c eD
  · have z := tg_133 c t
    refine ⟨_, sp_pop (n := 1) b1 PpP.rf (by decide) ⟨by decide, by rw [li_1, b4]; have := hT.1; omega⟩ (by rw [b4]; exact hT.2.1), ?_⟩
    rintro r A ⟨pA, -⟩
    rw [li_1] at pA
    obtain ⟨Q, x1, x2⟩ := put2 A (f_turned A (f_op U (xS S)) r) _ pA (by rw [z.2.1]; rfl) z.2.2
    exact ⟨trivial, Q, x1, fun u hu => i.pI (by unfold isPl; omega) (x2 u hu) (Or.inr ⟨z.1.2, ptT_2 l2⟩)⟩
  · have z := tg_136 c t
    exact conv 2 (fun A r => (f_turned A (f_op U (xS S)) r).toInt32) (Or.inr l2) (by rw [l2]; exact z.2.1) z.2.2 z.1.2 (by unfold isPl; omega)
  · have z := tg_145 c t
    exact conv 1 (fun A r => (f_turned A (f_op U (xS S)) r).toInt32) (Or.inl li_1) (by rw [li_1]; exact z.2.1) z.2.2 z.1.2 (by unfold isPl; omega)
  · have z := tg_146 c t
    exact conv 1 (fun A r => (f_turned A (f_op U (xS S)) r).toInt32) (Or.inl li_1) (by rw [li_1]; exact z.2.1) z.2.2 z.1.2 (by unfold isPl; omega)
  · have z := tg_147 c t
    exact conv 1 (fun A r => (f_turned A (f_op U (xS S)) r).toInt32) (Or.inl li_1) (by rw [li_1]; exact z.2.1) z.2.2 z.1.2 (by unfold isPl; omega)
  · exact i.get c
  · exact i.put c
  · refine ⟨_, i.onA ?_, fun _ _ hu => hu⟩
    unfold isAr at h1
    clear slr sv store conv putT putI put2 put0 l1 lc
    unfold opW at hw
    omega
/-! step (behind InS.plain, InS.called, InS.leave, InS.switch, InS.work, InS.jump, sp_watch) -/
theorem McI.ins {S V : MS} {f : Nat} {U : MS} {s p : Nat} {a : AS} (h : McI S f) (k : frm [] [47, 48, 49, 50, 51, 52, 53, 54] S V) (hU : FrU S f (fN S).toNat U s p a) (e : (qI S 44 (fN S).toNat).toInt = (aT a).toInt) (ok : okA (qI S 0 85).toInt a (slF S (fN S).toNat) (plF S (fN S).toNat)) (m : smM U V) : InS S V f U s p a := ⟨h, k, hU, e, ok, m⟩
theorem opW_17 {t : Int} (h : opW t) : ¬ (t = 174 ∨ t = 175) := by
  unfold opW at h
  omega
theorem ty_nb : ∀ n : Fin 7, vp_nar .byte (Int32.ofNat n.val) = Int32.ofNat n.val := by decide +kernel
theorem nb_ty {t : Int32} (h : tyG t) : vp_nar .byte t = t := by
  have z := ty_nb ⟨t.toInt.toNat, by have := h.1; have := h.2; omega⟩
  rw [← ty_of h] at z
  exact z
theorem isOn_iff {r : Int32} : ¬ (isOn r).toInt = 0 ↔ (r.toInt = 1 ∨ r.toInt = 4 ∨ r.toInt = 5 ∨ r.toInt = 6) := by
  have one : ¬ (1 : Int32).toInt = 0 := by decide
  have z0 : (0 : Int32).toInt = 0 := by decide
  unfold isOn isTh
  by_cases c1 : r.toInt = 1
  · rw [if_pos c1]; exact ⟨fun _ => Or.inl c1, fun _ => one⟩
  · rw [if_neg c1]
    by_cases c4 : r.toInt = 4
    · rw [if_pos c4, if_neg one]; exact ⟨fun _ => Or.inr (Or.inl c4), fun _ => one⟩
    · rw [if_neg c4]
      by_cases c5 : r.toInt = 5
      · rw [if_pos c5, if_neg one]; exact ⟨fun _ => Or.inr (Or.inr (Or.inl c5)), fun _ => one⟩
      · rw [if_neg c5]
        by_cases c6 : r.toInt = 6
        · rw [if_pos c6, if_neg one]; exact ⟨fun _ => Or.inr (Or.inr (Or.inr c6)), fun _ => one⟩
        · rw [if_neg c6, if_pos z0]
          exact ⟨fun q => absurd z0 q, fun q => by omega⟩
theorem isTh_iff {r : Int32} : ¬ (isTh r).toInt = 0 → (r.toInt = 4 ∨ r.toInt = 5 ∨ r.toInt = 6) := by
  have z0 : (0 : Int32).toInt = 0 := by decide
  unfold isTh
  by_cases c4 : r.toInt = 4
  · exact fun _ => Or.inl c4
  · rw [if_neg c4]
    by_cases c5 : r.toInt = 5
    · exact fun _ => Or.inr (Or.inl c5)
    · rw [if_neg c5]
      by_cases c6 : r.toInt = 6
      · exact fun _ => Or.inr (Or.inr c6)
      · rw [if_neg c6]; exact fun q => absurd z0 q
theorem mvT.sb {op y x g h : Int32} (m : mvT op y x) (s1 : sbT g y) (s2 : op.toInt = 87 ∨ op.toInt = 89 ∨ sbT h x) : mvT op g h := by
  unfold mvT at m ⊢
  rw [isOn_iff, isOn_iff] at m ⊢
  unfold sbT at s1 s2
  rcases m with ⟨a, b, c⟩ | ⟨a, b⟩
  · exact Or.inl ⟨a, by omega, by omega⟩
  · exact Or.inr ⟨by omega, by omega⟩
theorem F_mv1 {op y x : Int32} {a : AS} : aF (aMv1 op y x a) = aF a := by
  unfold aMv1
  simp only
  by_cases c90 : op.toInt = 90
  · rw [if_pos c90, if_neg (show ¬ op.toInt = 92 by omega), if_pos c90, if_neg (show ¬ op.toInt = 95 by omega), if_neg (show ¬ op.toInt = 92 by omega), if_neg (show ¬ op.toInt = 92 by omega), if_neg (show ¬ op.toInt = 89 by omega)]
    rfl
  · rw [if_neg c90]
    by_cases c95 : op.toInt = 95
    · rw [if_pos c95, if_neg (show ¬ op.toInt = 92 by omega), if_neg c90, if_pos c95, if_pos c95, if_neg (show ¬ op.toInt = 92 by omega), if_neg (show ¬ op.toInt = 92 by omega), if_neg (show ¬ op.toInt = 89 by omega)]
      rfl
    · rw [if_neg c95]
      by_cases c92 : op.toInt = 92
      · rw [if_pos c92, if_neg c95, if_pos c92, if_pos c92]
        rfl
      · rw [if_neg c92, if_neg c90, if_neg c95, if_neg c95, if_neg c92, if_neg c92]
        by_cases c89 : op.toInt = 89
        · rw [if_pos c89]; rfl
        · rw [if_neg c89]; rfl
theorem T_move {op : Int32} {a : AS} (ho : op.toInt = 87 ∨ op.toInt = 88 ∨ op.toInt = 89 ∨ op.toInt = 90 ∨ op.toInt = 92 ∨ op.toInt = 95) (h : ¬ (aF (aMove op a)).toInt = 0) : mvT op (aTop a) (aTop (aPull a)) := by
  have z0 : (0 : Int32).toInt = 0 := by decide
  have key : ∀ (X : Int32) (a1 : AS), (X = if op.toInt = 87 then (1 : Int32) else if op.toInt = 89 then 1 else aTop (aPull a)) → ¬ (aF (aNeed (if (if (op.toInt = 88 ∨ op.toInt = 92) ∧ X.toInt = 2 ∧ (aTop a).toInt = 3 then (1 : Int32) else 0).toInt = 0 then (if (isOn X).toInt = 0 then 0 else if (isOn (aTop a)).toInt = 0 then 0 else 1) else 1) a1)).toInt = 0 → mvT op (aTop a) (aTop (aPull a)) := fun X a1 eX hf => by
    have g := (F_need hf).2
    by_cases w : (op.toInt = 88 ∨ op.toInt = 92) ∧ X.toInt = 2 ∧ (aTop a).toInt = 3
    · rw [if_neg (by omega), if_neg (by omega)] at eX
      rw [eX] at w
      exact Or.inl ⟨w.1, w.2.2, w.2.1⟩
    · rw [if_neg w, if_pos z0] at g
      by_cases q1 : (isOn X).toInt = 0
      · rw [if_pos q1] at g; exact absurd z0 g
      · rw [if_neg q1] at g
        by_cases q2 : (isOn (aTop a)).toInt = 0
        · rw [if_pos q2] at g; exact absurd z0 g
        · refine Or.inr ⟨q2, ?_⟩
          by_cases c87 : op.toInt = 87
          · exact Or.inl c87
          · by_cases c89 : op.toInt = 89
            · exact Or.inr (Or.inl c89)
            · rw [if_neg c87, if_neg c89] at eX
              rw [eX] at q1
              exact Or.inr (Or.inr q1)
  unfold aMove at h
  simp only at h
  by_cases c87 : op.toInt = 87
  · rw [if_pos c87] at h
    exact key _ _ rfl h
  · rw [if_neg c87] at h
    by_cases c88 : op.toInt = 88
    · rw [if_pos c88] at h
      exact key _ _ rfl h
    · rw [if_neg c88, F_mv1] at h
      exact key _ _ rfl h
/-- the tags that a taken letter finds -/
theorem InS.tp {S U : MS} {f s p : Nat} {a : AS} {n : Int} (hU : FrU S f (fN S).toNat U s p a) (ok : okA n a (slF S (fN S).toNat) (plF S (fN S).toNat)) (hm : ¬ 0 < (f_moved U (f_op U (xS S))).toInt) (j : Nat) (hj : j < qN U (f_takesOf U (xS S) + 1)) : tgP (qI U (f_takesOf U (xS S) + 1) j) (plF S (fN S).toNat ((aT a).toInt - tkV U (xS S) + plc (qI U (f_takesOf U (xS S) + 1)) j).toNat).2 (plF S (fN S).toNat ((aT a).toInt - tkV U (xS S) + plc (qI U (f_takesOf U (xS S) + 1)) j + 1).toNat).2 := by
  obtain ⟨g0, g1, g2, g3, g4, g5, g6, g7, g8⟩ := hU
  have g7' : 0 ≤ (xS S).toInt ∧ (xS S).toInt < (qI U 0 52).toInt := g7
  have st : StT U (xS S) p a := g8
  have bt := b_tg g4.1 g7' g4.2.1
  have c := st.2.2.1
  obtain ⟨b, -, -, -, -, -, wd⟩ := wk_dec (p := p) (a := a) g4.1 g4.2.1 g7' ⟨c.1, by omega, by omega⟩ hm
  obtain ⟨-, -, w3⟩ := wd st.2.1
  have w := w3 j hj
  have e : tkV U (xS S) = plc (qI U (f_takesOf U (xS S) + 1)) (qN U (f_takesOf U (xS S) + 1)) := by unfold tkV; rw [if_neg hm]; rfl
  have pj := plc_lt (g := qI U (f_takesOf U (xS S) + 1)) hj
  have p0 := plc_ge (g := qI U (f_takesOf U (xS S) + 1)) j
  have o := (ok.2 ((aT a).toInt - tkV U (xS S) + plc (qI U (f_takesOf U (xS S) + 1)) j).toNat (by omega)).t1
  refine ⟨fun q => o.1 (w.2.1 q), fun q => ?_, fun q => o.2.2.2.1 (w.1 q), fun q => o.2.2.2.2 (w.2.2.1 q), fun q => ?_⟩
  · have w2 := w.2.2.2.2 q
    have pl2 : plc (qI U (f_takesOf U (xS S) + 1)) (j + 1) = plc (qI U (f_takesOf U (xS S) + 1)) j + 2 := by
      show plc (qI U (f_takesOf U (xS S) + 1)) j + (if (qI U (f_takesOf U (xS S) + 1) j).toInt = 74 then (2 : Int) else 1) = _
      rw [if_pos q]
    have pl3 : plc (qI U (f_takesOf U (xS S) + 1)) (j + 1) ≤ plc (qI U (f_takesOf U (xS S) + 1)) (qN U (f_takesOf U (xS S) + 1)) := by
      by_cases y : j + 1 = qN U (f_takesOf U (xS S) + 1)
      · rw [y]; exact Int.le_refl _
      · have := plc_lt (g := qI U (f_takesOf U (xS S) + 1)) (show j + 1 < qN U (f_takesOf U (xS S) + 1) by omega); omega
    have o2 := (ok.2 ((aT a).toInt - tkV U (xS S) + plc (qI U (f_takesOf U (xS S) + 1)) j + 1).toNat (by omega)).t1
    exact ⟨o.2.1 w2.1, o2.2.2.1 w2.2⟩
  · have y := isTh_iff (w.2.2.2.1 q)
    have o4 := o.2.2.2.1
    have o5 := o.2.2.2.2
    omega
theorem sp_step {S : MS} {f : Nat} (h : McI S f) : w_step S (McQ f) := by
  have h' := h
  obtain ⟨b0, ⟨⟨f92, h80⟩, fl, vf, tx, s96⟩, ⟨hA, hF⟩, ⟨U, s, p, a, hU, eT, ok⟩, mid⟩ := h
  obtain ⟨y1, y2, y3, y4⟩ := b0.e
  have o80 : qO S 0 80 = f := by unfold qO; rw [h80]; rfl
  have hU' := hU
  obtain ⟨-, g1, g2, g3, g4, g5, g6, g7, g8⟩ := hU
  unfold w_step
  rw [o80, y1]
  refine ⟨h80, ⟨y2, y3⟩, _, sp_look fl g1, ?_⟩
  rintro A ⟨⟨fA, kA⟩, lo⟩
  have kb := big_frm fA (by decide)
  have mA := hU'.mm kb lo
  have A97 : qI A 0 97 = qI S 0 97 := (fA.2.2.2.2.2 97 (by decide)).1
  have A43 : qI A 43 = qI S 43 := (fA.2.2.2.2.1 43 (by decide) (by decide)).1
  have bA : FrB A := by unfold FrB; rw [A97]; exact b0
  have nA : fN A = fN S := by unfold fN; rw [A97]
  have tA : fT A = (aT a).toInt := by
    unfold fT
    rw [nA, (fA.2.2.2.2.1 44 (by decide) (by decide)).1]
    exact eT
  rw [A97, y1, A43]
  refine ⟨⟨y2, y3⟩, fun x ex => ?_⟩
  have exS : x = xS S := ex
  subst exS
  have st := g8.2.2.1
  have A52 : qI A 0 52 = qI U 0 52 := mA.2.2 52 (by decide) (by decide)
  have tv := (mA.tv g4.1 g4.2.1 (x := xS S) g7).1
  have tv' : tkV A (xS S) = tkV U (qI S 43 (fN S).toNat) := tv
  -- what watch reads
  obtain ⟨St, R, nc, v1, v2, v3, v4, v5, v6, v7, v8⟩ := vf.2.1
  have A51 : qI A 0 51 = qI S (f + 10) (qI S 42 (fN S).toNat).toInt.toNat := lo.2.1
  have hw51 : 0 ≤ (qI A 0 51).toInt ∧ (qI A 0 51).toInt ≤ 28800 ∧ 4 * ((qI A 0 51).toInt + (xS S).toInt) + 4 ≤ (qN A St : Int) := by
    obtain ⟨-, -, -, -, -, R', T, C, nc', ts, cn, r1, r2, r3, r4, r5, r6⟩ := fl
    obtain ⟨-, -, -, mt⟩ := r6 (qI S 42 (fN S).toNat).toInt.toNat (by omega)
    have eR : R = R' := by
      have z := r2.1
      rw [v5] at z
      injection z
    subst eR
    have e1 := r4.1
    have q1 := mt.1
    have q2 := mt.2.2.1
    have q3 : qI A 0 52 = qI S (f + 11) (qI S 42 (fN S).toNat).toInt.toNat := lo.2.2.1
    have q4 : (xS S).toInt < (qI U 0 52).toInt := g7.2
    rw [← A51] at q1 q2
    rw [← q3, A52] at q2
    have eN : qN A St = 4 * nc := by rw [fA.2.1]; exact v4
    rw [eN]
    have r51 := r5.1
    omega
  have s22 : qO S f 22 = St := by unfold qO; rw [v2]; rfl
  have lk := g3.2
  obtain ⟨gT, lk1, lk2⟩ := lk
  have kp := lk2 (xS S).toInt.toNat (by have := g7.2; have : (xS S).toInt < (qI U 0 52).toInt := g7.2; have h0 : 0 ≤ (xS S).toInt := g7.1; omega)
  rw [s22] at kp lk1
  have eA51 : qI A 0 51 = qI U 0 51 := by rw [A51]; exact g3.1.2.1.symm
  have h0x : 0 ≤ (xS S).toInt := g7.1
  have hp : ∀ B : MS, qI A St = qI S St := fun _ => (kb St lk1).1
  have hp := hp S
  have cm := g8.1.2.2
  have wq : (qI S St (4 * ((qI A 0 51).toInt + (xS S).toInt)).toNat).toInt = (aT a).toInt ∧ (∀ k : Nat, k < 3 → qI S St ((4 * ((qI A 0 51).toInt + (xS S).toInt)).toNat + 1 + k) = pkW (fun j => qI U 23 (48 * (xS S).toInt.toNat + (8 * k + j))) 8) := by
    obtain ⟨k1, k2, k3⟩ := kp
    rw [eA51] at hw51 ⊢
    have e4 : (4 * ((qI U 0 51).toInt + (xS S).toInt)).toNat = 4 * ((qI U 0 51).toInt.toNat + (xS S).toInt.toNat) := by omega
    rw [e4]
    refine ⟨?_, fun k hk => ?_⟩
    · have y := k2 g8.2.2.2.2.2.2
      rw [y]
      exact cm.symm
    · rw [k3 k hk]
      have : (fun j => qI U 23 (48 * (xS S).toInt.toNat + 8 * k + j)) = (fun j => qI U 23 (48 * (xS S).toInt.toNat + (8 * k + j))) := by funext j; rw [Nat.add_assoc]
      rw [this]
  have okA1 := ok.1
  have okA2 := ok.2
  have nbs := g8.1.nb
  have a48 : qI A 48 = qI S 48 := (fA.2.2.2.2.1 48 (by decide) (by decide)).1
  have oA := (mA.op g4.1 (xS S)).1
  have mvA : ∀ o : Int32, f_moved A o = f_moved U o := fun o => rfl
  refine ⟨_, sp_watch kA (tx.fm fA (by decide)) bA (by rw [A52]; exact g7) ⟨by rw [tv', tA]; exact st.1, by rw [tA]; omega⟩ (f := f) (St := St) (by rw [(fA.2.2.2.2.2 80 (by decide)).2.2]; exact h80) (by rw [(kb f f92).2.2.1]; exact v2) hw51 (by rw [hp, tA]; exact wq.1) (g := fun k => qI U 23 (48 * (xS S).toInt.toNat + k)) (fun k _ => by have := gT (48 * (xS S).toInt.toNat + k); unfold tyG at this; omega) (fun k hk => by rw [hp]; exact wq.2 k hk) (fun k hk => ?_) (fun hm => ?_) (fun hm => ?_), fun V eV => ?_⟩
  rotate_left 3
  have fV : frm [] [] A V := by rw [eV]; exact frm.rf
  have k : frm [] [47, 48, 49, 50, 51, 52, 53, 54] S V := (fA.mo (by decide) (by decide)).tr (fV.mo (by decide) (by decide))
  have mV := mA.fm fV (by decide) (by decide)
  have kV : LkI V := kA.mv (smL.fm fV (by decide) (by decide))
  have i : InS S V f U s p a := h'.ins k hU' eT ok mV
  have V52 : qI V 0 52 = qI U 0 52 := mV.2.2 52 (by decide) (by decide)
  have dV := kV.dop (x := xS S) (by rw [V52]; exact g7)
  obtain ⟨T', ts', N', L', rv⟩ := hU'.rv fl
  have rv' : opW (f_op U (xS S)).toInt := rv.1
  have dj : ∀ o : Int32, d_isJump V o ∧ d_isSwitch V o := fun o => by
    unfold d_isJump d_isJump_J14 d_isJump_J28 d_isSwitch d_isSwitch_J14
    simp only [ite_self]
    exact ⟨trivial, trivial⟩
  have hq : ∀ w, McQ f w → McQ f w := fun _ hw => hw
  have j78 : (f_isJump V (f_op V (xS S))).toInt = 0 → ¬ (96 ≤ (f_op U (xS S)).toInt ∧ (f_op U (xS S)).toInt ≤ 131) → w_step_J78 (McQ f) V (xS S) (f_op V (xS S)) (f_first V (xS S)) := fun nj na => by
    have nj2 : ¬ ((153 ≤ (f_op U (xS S)).toInt ∧ (f_op U (xS S)).toInt ≤ 167) ∨ (f_op U (xS S)).toInt = 198 ∨ (f_op U (xS S)).toInt = 199) := fun q => by
      rw [(i.op _).1] at nj
      have := jp_1 (S := V) (o := f_op U (xS S)) q
      omega
    have eo := (i.op (xS S)).1
    unfold w_step_J78
    refine ⟨fun c => i.work (by rw [eo] at c; exact Or.inr c) hq, fun c => ⟨(dj _).2, fun c1 => ⟨fun c2 => i.leave (by rw [eo] at c2; omega) hq, fun c2 => ⟨fun c3 => i.leave (by rw [eo] at c3; omega) hq, fun c3 => ⟨fun c4 => i.leave (by rw [eo] at c4; omega) hq, fun c4 => ⟨fun c5 => i.leave (by rw [eo] at c5; omega) hq, fun c5 => ⟨fun c6 => i.called (by rw [eo] at c6; exact c6) hq, fun c6 => ?_⟩⟩⟩⟩⟩, fun c1 => ?_⟩⟩
    · rw [eo] at c c2 c3 c4 c5 c6
      rw [eo, (i.op (xS S)).2.1]
      have sw : ¬ ((f_op U (xS S)).toInt = 170 ∨ (f_op U (xS S)).toInt = 171) := fun q => by
        rw [eo] at c1
        unfold f_isSwitch f_isSwitch_J14 at c1
        rcases q with q | q
        · rw [if_pos q] at c1; exact absurd c1 (by decide)
        · rw [if_neg (by omega), if_pos q] at c1; exact absurd c1 (by decide)
      refine ⟨_, i.plain kV rv' (by unfold isAr; omega) nj2 (fun q => ?_), fun r u hu => ⟨fun z => hu.1 z, fun z => ?_⟩⟩
      · have : (f_op U (xS S)).toInt = 174 ∨ (f_op U (xS S)).toInt = 175 := by omega
        exact opW_17 rv' this
      · obtain ⟨bu, hg⟩ := hu.2 z
        exact ⟨_, sp_goTo bu, fun w hw => (hg w hw).q⟩
    · have sw : (f_op U (xS S)).toInt = 170 ∨ (f_op U (xS S)).toInt = 171 := by
        rw [eo] at c1
        unfold f_isSwitch f_isSwitch_J14 at c1
        by_cases q : (f_op U (xS S)).toInt = 170
        · exact Or.inl q
        · rw [if_neg q] at c1
          by_cases q2 : (f_op U (xS S)).toInt = 171
          · exact Or.inr q2
          · rw [if_neg q2] at c1; exact absurd rfl c1
      exact i.switch kV sw hq
  refine ⟨dV.1, fun o eo => ⟨dV.2.1, fun a1 e1 => ⟨(dj _).1, fun c => ⟨fun c1 => ?_, fun c1 => ⟨fun c2 => ?_, fun c2 => ?_⟩⟩, fun c => ?_⟩⟩⟩
  · subst eo
    subst e1
    rw [(i.op _).1] at c1
    exact j78 c (by omega)
  · subst eo
    rw [(i.op _).1] at c1 c2
    exact i.work (Or.inl ⟨by omega, c2⟩) hq
  · subst eo
    subst e1
    rw [(i.op _).1] at c2
    exact j78 c (by omega)
  · subst eo
    subst e1
    exact i.jump c
  · have y := okA1 k hk
    have e := g8.1.1 k hk
    have e' : aL a k = vp_nar .byte (qI U 23 (48 * (xS S).toInt.toNat + k)) := e
    rw [e', nb_ty (gT _)] at y
    have a47 : qI A 47 = qI S 47 := (fA.2.2.2.2.1 47 (by decide) (by decide)).1
    rw [a47, nA]
    exact y.2.2.2.2
  · rw [oA] at hm ⊢
    have hmU : 0 < (f_moved U (f_op U (xS S))).toInt := hm
    have o := mv_iff.mp hmU
    have eT2 : tkV U (xS S) = (f_moved U (f_op U (xS S))).toInt := by unfold tkV; rw [if_pos hmU]
    have m := mvn (S := U) (op := f_op U (xS S))
    have ew : wkV U (xS S) p a = aMove (f_op U (xS S)) (aL a, aP a, aT a, 1) := by
      unfold wkV aWork
      simp only
      rw [if_pos o]
    have fq : ¬ (aF (wkV U (xS S) p a)).toInt = 0 := g8.2.1
    rw [ew] at fq
    have mt := T_move o fq
    have st1 : tkV U (xS S) ≤ (aT a).toInt := st.1
    have t24 : (aT a).toInt ≤ 24 := by omega
    have y1 : aTop ((aL a, aP a, aT a, 1) : AS) = aP a ((aT a).toInt - 1).toNat := by
      show aP a (aT a - (1 : Int32)).toInt.toNat = _
      rw [show (aT a - (1 : Int32)).toInt = (aT a).toInt - 1 by rw [t_sub (by rw [li_1]; omega), li_1]]
    have x1 : 2 ≤ (aT a).toInt → aTop (aPull ((aL a, aP a, aT a, 1) : AS)) = aP a ((aT a).toInt - 2).toNat := fun q => by
      show aP a (aT a - (1 : Int32) - (1 : Int32)).toInt.toNat = _
      have e1 : (aT a - (1 : Int32)).toInt = (aT a).toInt - 1 := by rw [t_sub (by rw [li_1]; omega), li_1]
      rw [show (aT a - (1 : Int32) - (1 : Int32)).toInt = (aT a).toInt - 2 by rw [t_sub (by rw [e1, li_1]; omega), e1, li_1]; omega]
    rw [y1] at mt
    have T1 : 1 ≤ (aT a).toInt := by omega
    have s1 := (okA2 ((aT a).toInt - 1).toNat (by omega)).2.2.2.2
    rw [nA, tA, a48]
    have r1 : qI S 48 (24 * fN S + (aT a).toInt - 1).toNat = (plF S (fN S).toNat ((aT a).toInt - 1).toNat).2 := by
      unfold plF qW
      rw [show (24 * fN S + (aT a).toInt - 1).toNat = 24 * (fN S).toNat + ((aT a).toInt - 1).toNat by omega]
    rw [r1]
    refine mt.sb s1 ?_
    by_cases c : (f_op U (xS S)).toInt = 87 ∨ (f_op U (xS S)).toInt = 89
    · omega
    · have m2 := m.2 (by omega)
      have T2 : 2 ≤ (aT a).toInt := by omega
      have s2 := (okA2 ((aT a).toInt - 2).toNat (by omega)).2.2.2.2
      rw [x1 T2]
      have r2 : qI S 48 (24 * fN S + (aT a).toInt - 2).toNat = (plF S (fN S).toNat ((aT a).toInt - 2).toNat).2 := by
        unfold plF qW
        rw [show (24 * fN S + (aT a).toInt - 2).toNat = 24 * (fN S).toNat + ((aT a).toInt - 2).toNat by omega]
      rw [r2]
      exact Or.inr (Or.inr s2)
  · rw [oA] at hm
    have hmU : ¬ 0 < (f_moved U (f_op U (xS S))).toInt := hm
    have tgA := (mA.tg g4.1 (xS S)).1
    have okt := (g4.1.tk g7 g4.2.1).1
    have sU := mA.1.1 _ okt
    have st1 : tkV U (xS S) ≤ (aT a).toInt := st.1
    have e1 : qI A (f_takesOf U (xS S) + 1) = qI U (f_takesOf U (xS S) + 1) := sU.1
    have e2 : qN A (f_takesOf U (xS S) + 1) = qN U (f_takesOf U (xS S) + 1) := sU.2.2.2.2
    have tk0 : 0 ≤ tkV U (xS S) := (b_tg g4.1 g7 g4.2.1).1.1
    rw [tgA, e1, e2, tv, nA, tA, a48]
    intro j hj
    have z := InS.tp hU' ok hmU j hj
    have p0 := plc_ge (g := qI U (f_takesOf U (xS S) + 1)) j
    have r1 : qI S 48 (24 * fN S + (aT a).toInt - tkV U (xS S) + plc (qI U (f_takesOf U (xS S) + 1)) j).toNat = (plF S (fN S).toNat ((aT a).toInt - tkV U (xS S) + plc (qI U (f_takesOf U (xS S) + 1)) j).toNat).2 := by
      unfold plF qW
      rw [show (24 * fN S + (aT a).toInt - tkV U (xS S) + plc (qI U (f_takesOf U (xS S) + 1)) j).toNat = 24 * (fN S).toNat + ((aT a).toInt - tkV U (xS S) + plc (qI U (f_takesOf U (xS S) + 1)) j).toNat by omega]
    have r2 : qI S 48 (24 * fN S + (aT a).toInt - tkV U (xS S) + plc (qI U (f_takesOf U (xS S) + 1)) j + 1).toNat = (plF S (fN S).toNat ((aT a).toInt - tkV U (xS S) + plc (qI U (f_takesOf U (xS S) + 1)) j + 1).toNat).2 := by
      unfold plF qW
      rw [show (24 * fN S + (aT a).toInt - tkV U (xS S) + plc (qI U (f_takesOf U (xS S) + 1)) j + 1).toNat = 24 * (fN S).toNat + ((aT a).toInt - tkV U (xS S) + plc (qI U (f_takesOf U (xS S) + 1)) j + 1).toNat by omega]
    rw [r1, r2]
    exact z
