/-! plain instructions (behind InS.pu, InS.mv, tg_18, sp_shuffle) -/
/-- what plain leaves -/
def PlQ (S : MS) (f : Nat) (r : Int32) (u : MS) : Prop := (r.toInt = 0 → McQ f u) ∧ (¬ r.toInt = 0 → FrB u ∧ ∀ w, GtP u (xS S + 1) w → McI w f)
theorem PlQ.one {S u : MS} {f : Nat} (h : FrB u) (k : ∀ w, GtP u (xS S + 1) w → McI w f) : PlQ S f 1 u := ⟨fun z => absurd z (by decide), fun _ => ⟨h, k⟩⟩
theorem PlQ.no {S u : MS} {f : Nat} (h : McQ f u) : PlQ S f 0 u := ⟨fun _ => h, fun z => absurd rfl z⟩
def isPl (o : Int) : Prop := ¬ o = 167 ∧ ¬ o = 170 ∧ ¬ o = 171 ∧ ¬ o = 172 ∧ ¬ o = 173 ∧ ¬ o = 176 ∧ ¬ o = 177 ∧ ¬ o = 191 ∧ ¬ o = 54 ∧ ¬ o = 55 ∧ ¬ o = 58 ∧ ¬ o = 132 ∧ ¬ o = 87 ∧ ¬ o = 88 ∧ ¬ o = 89 ∧ ¬ o = 90 ∧ ¬ o = 92 ∧ ¬ o = 95
theorem isPl.f {U : MS} {x : Int32} (h : isPl (f_op U x).toInt) : (¬ 0 < (f_moved U (f_op U x)).toInt) ∧ (¬ isSt (f_op U x) ∧ ¬ (f_op U x).toInt = 132) ∧ (f_goesOn U (f_op U x)).toInt ≠ 0 := by
  obtain ⟨h1, h2, h3, h4, h5, h6, h7, h8, h9, h10, h11, h12, h13, h14, h15, h16, h17, h18⟩ := h
  refine ⟨fun z => ?_, ⟨fun z => ?_, h12⟩, go_on ⟨h1, h2, h3, h4, h5, h6, h7, h8⟩⟩
  · rcases mv_iff.mp z with q | q | q | q | q | q
    · exact h13 q
    · exact h14 q
    · exact h15 q
    · exact h16 q
    · exact h17 q
    · exact h18 q
  · rcases z with q | q | q
    · exact h9 q
    · exact h10 q
    · exact h11 q
theorem InS.p1 {S V U u : MS} {f s p : Nat} {a : AS} {v : TV} (i : InS S V f U s p a) (ho : isPl (f_op U (xS S)).toInt) (P : PuP V (tkV U (xS S)) (gvV U (xS S)) v u) (g1 : qN U (f_givesOf U (xS S) + 1) = 1) (hv : okV (qI S 0 85).toInt (nb (ltT (qI U (f_givesOf U (xS S) + 1) 0) (thV U (xS S) a))) v) : PlQ S f 1 u := by
  obtain ⟨z1, z2, z3⟩ := ho.f
  obtain ⟨b0, b1, b2, b3, b4, L1, b5⟩ := i.v
  exact PlQ.one ((LcP.pu P (by rw [b4]; exact i.t.2.2.2.2.1.1)).b b1) (fun w G => i.pu z1 z2 P G (i.nx z3) g1 hv)
theorem InS.p0 {S V U u : MS} {f s p : Nat} {a : AS} (i : InS S V f U s p a) (ho : isPl (f_op U (xS S)).toInt) (P : PpP V (tkV U (xS S)) u) (g0 : qN U (f_givesOf U (xS S) + 1) = 0) : PlQ S f 1 u := by
  obtain ⟨z1, z2, z3⟩ := ho.f
  obtain ⟨b0, b1, b2, b3, b4, L1, b5⟩ := i.v
  exact PlQ.one ((LcP.pp P).b b1) (fun w G => i.pp z1 z2 P G (i.nx z3) g0)
/-- what is given is an int, or a long -/
theorem InS.pI {S V U u : MS} {f s p : Nat} {a : AS} {v : TV} (i : InS S V f U s p a) (ho : isPl (f_op U (xS S)).toInt) (P : PuP V (tkV U (xS S)) (gvV U (xS S)) v u) (hg : (f_givesOf U (xS S) = 10000016 ∧ (-2147483648 ≤ v.1.toInt ∧ v.1.toInt ≤ 2147483647) ∧ v.2.toInt = 1) ∨ (f_givesOf U (xS S) = 10000022 ∧ v.2.toInt = 2)) : PlQ S f 1 u := by
  have l1 := tx_l1 i.t.2.1
  rcases hg with ⟨g, hv⟩ | ⟨g, hv⟩
  · have c1 : (qI U (10000016 + 1) 0).toInt = 73 := l1.2.2.2.1.2
    refine i.p1 ho P (by rw [g]; exact l1.2.2.2.1.1) ?_
    rw [g]
    exact gv_l.1 c1 hv.1 hv.2
  · have c1 : (qI U (10000022 + 1) 0).toInt = 74 := l1.2.2.2.2.2.2.1.2
    refine i.p1 ho P (by rw [g]; exact l1.2.2.2.2.2.2.1.1) ?_
    rw [g]
    exact gv_l.2.1 c1 hv
theorem InS.slot {S V U W : MS} {f s p : Nat} {a : AS} {k : Int32} (i : InS S V f U s p a) (e : qI W 0 97 = qI V 0 97) (hk : 0 ≤ k.toInt ∧ k.toInt ≤ 24) : (f_slot W k).toInt = 24 * fN S + k.toInt := by
  obtain ⟨b0, b1, b2, b3, b4, L1, b5⟩ := i.v
  have y4 := b1.e.2.2.2
  rw [b2] at y4
  unfold f_slot
  rw [e, t_add (by rw [y4]; omega), y4]
/-- what an instruction says of its local -/
theorem InS.lc {S V U : MS} {f s p : Nat} {a : AS} (i : InS S V f U s p a) : ((f_op U (xS S)).toInt = 21 ∨ (f_op U (xS S)).toInt = 25 ∨ (f_op U (xS S)).toInt = 54 ∨ (f_op U (xS S)).toInt = 58 ∨ (f_op U (xS S)).toInt = 132 → 0 ≤ (f_first U (xS S)).toInt ∧ (f_first U (xS S)).toInt < 24) ∧ ((f_op U (xS S)).toInt = 22 ∨ (f_op U (xS S)).toInt = 55 → 0 ≤ (f_first U (xS S)).toInt ∧ (f_first U (xS S)).toInt < 23) := by
  obtain ⟨kk, t, hx, st, hT, h0⟩ := i.t
  obtain ⟨L, F, M, ts, ⟨l1, l2, l3⟩, lb, rv, -, -⟩ := kk.rv hx
  exact ⟨fun q => by have := rv.2.2.2.1 q; omega, fun q => by have := rv.2.2.2.2.1 q; omega⟩
/-- what lies where a letter takes -/
def lwP (n : Int) (c : Int32) (v w : TV) : Prop := (c.toInt = 65 → 0 ≤ v.1.toInt ∧ v.1.toInt ≤ n) ∧ (c.toInt = 73 → -2147483648 ≤ v.1.toInt ∧ v.1.toInt ≤ 2147483647) ∧ (c.toInt = 69 → -2147483648 ≤ v.1.toInt ∧ v.1.toInt ≤ 0) ∧ (c.toInt = 73 → okV n (nb 1) v) ∧ (c.toInt = 74 → okV n (nb 2) v ∧ okV n (nb 3) w)
theorem InS.wd {S V U : MS} {f s p : Nat} {a : AS} (i : InS S V f U s p a) (hm : ¬ 0 < (f_moved U (f_op U (xS S))).toInt) : ((f_op U (xS S)).toInt = 21 ∨ (f_op U (xS S)).toInt = 132 → (aL a (f_first U (xS S)).toInt.toNat).toInt = 1) ∧ ∀ j : Nat, j < qN U (f_takesOf U (xS S) + 1) → lwP (qI S 0 85).toInt (qI U (f_takesOf U (xS S) + 1) j) (plF S (fN S).toNat ((aT a).toInt - tkV U (xS S) + plc (qI U (f_takesOf U (xS S) + 1)) j).toNat) (plF S (fN S).toNat ((aT a).toInt - tkV U (xS S) + plc (qI U (f_takesOf U (xS S) + 1)) j + 1).toNat) := by
  obtain ⟨kk, t, hx, st, hT, h0⟩ := i.t
  obtain ⟨b, -, -, -, -, -, wd⟩ := wk_dec (p := p) (a := a) kk t hx ⟨hT.1, hT.2.1, by omega⟩ hm
  obtain ⟨-, w2, w3⟩ := wd st.2.1
  refine ⟨w2, fun j hj => ?_⟩
  have e : tkV U (xS S) = plc (qI U (f_takesOf U (xS S) + 1)) (qN U (f_takesOf U (xS S) + 1)) := by unfold tkV; rw [if_neg hm]; rfl
  have pj := plc_lt (g := qI U (f_takesOf U (xS S) + 1)) hj
  have p0 := plc_ge (g := qI U (f_takesOf U (xS S) + 1)) j
  have ok := i.2.2.2.2.1.2 ((aT a).toInt - tkV U (xS S) + plc (qI U (f_takesOf U (xS S) + 1)) j).toNat (by omega)
  have w := w3 j hj
  have n0 := i.1.2.2.1.1.1.1
  refine ⟨fun q => ?_, fun q => ok.2.2.1 (w.2.1 q), fun q => ?_, fun q => ?_, fun q => ?_⟩
  · rcases w.1 q with z | z
    · exact ok.1 z
    · have := ok.2.1 z
      omega
  · rcases w.2.2.1 q with z | z
    · exact ok.2.2.2.1 z
    · have := ok.2.1 z
      omega
  · have e1 : aP a ((aT a).toInt - tkV U (xS S) + plc (qI U (f_takesOf U (xS S) + 1)) j).toNat = nb 1 := Int32.toInt_inj.mp (by rw [w.2.1 q]; decide)
    rw [e1] at ok
    exact ok
  · have w2 := w.2.2.2.2 q
    have pl2 : plc (qI U (f_takesOf U (xS S) + 1)) (j + 1) = plc (qI U (f_takesOf U (xS S) + 1)) j + 2 := by
      show plc (qI U (f_takesOf U (xS S) + 1)) j + (if (qI U (f_takesOf U (xS S) + 1) j).toInt = 74 then (2 : Int) else 1) = _
      rw [if_pos q]
    have pl3 : plc (qI U (f_takesOf U (xS S) + 1)) (j + 1) ≤ plc (qI U (f_takesOf U (xS S) + 1)) (qN U (f_takesOf U (xS S) + 1)) := by
      by_cases y : j + 1 = qN U (f_takesOf U (xS S) + 1)
      · rw [y]; exact Int.le_refl _
      · have := plc_lt (g := qI U (f_takesOf U (xS S) + 1)) (show j + 1 < qN U (f_takesOf U (xS S) + 1) by omega); omega
    have ok2 := i.2.2.2.2.1.2 ((aT a).toInt - tkV U (xS S) + plc (qI U (f_takesOf U (xS S) + 1)) j + 1).toNat (by omega)
    have e1 : aP a ((aT a).toInt - tkV U (xS S) + plc (qI U (f_takesOf U (xS S) + 1)) j).toNat = nb 2 := Int32.toInt_inj.mp (by rw [w2.1]; decide)
    have e3 : aP a ((aT a).toInt - tkV U (xS S) + plc (qI U (f_takesOf U (xS S) + 1)) j + 1).toNat = nb 3 := Int32.toInt_inj.mp (by rw [w2.2]; decide)
    rw [e1] at ok
    rw [e3] at ok2
    exact ⟨ok, ok2⟩
/-- a store -/
theorem InS.sto {S V U u : MS} {f s p : Nat} {a : AS} (i : InS S V f U s p a) (ho : isSt (f_op U (xS S))) (k : frm [44, 45, 47] [] V u) (eT : fT u = fT V - tkV U (xS S)) (o44 : ∀ j : Nat, j ≠ (fN V).toNat → qI u 44 j = qI V 44 j) (e45 : ∀ j : Nat, qW u 45 j = if j = 24 * (fN S).toNat + (f_first U (xS S)).toInt.toNat then nW (plF S (fN S).toNat ((aT a).toInt - tkV U (xS S)).toNat) else if (f_op U (xS S)).toInt = 55 ∧ j = 24 * (fN S).toNat + (f_first U (xS S)).toInt.toNat + 1 then (qJ V 45 j, nb (plF S (fN S).toNat ((aT a).toInt - 1).toNat).2) else qW V 45 j) : PlQ S f 1 u := by
  obtain ⟨b0, b1, b2, b3, b4, L1, b5⟩ := i.v
  obtain ⟨kk, t, hx, st, hT, h0⟩ := i.t
  have l1 := tx_l1 t
  have lc := i.lc
  have hl : 0 ≤ (f_first U (xS S)).toInt ∧ (f_first U (xS S)).toInt < 24 := by
    rcases ho with q | q | q
    · exact lc.1 (by omega)
    · have := lc.2 (by omega); omega
    · exact lc.1 (by omega)
  have nm : ¬ 0 < (f_moved U (f_op U (xS S))).toInt := fun z => by have := mv_iff.mp z; unfold isSt at ho; omega
  have gg := go_on (S := U) (o := f_op U (xS S)) (by unfold isSt at ho; omega)
  have wd := i.wd nm
  have tg : f_givesOf U (xS S) = 10000032 ∧ gvV U (xS S) = 0 := by
    rcases ho with q | q | q
    · have z := tg_54 q t; exact ⟨z.1.2, z.2.2⟩
    · have z := tg_55 q t; exact ⟨z.1.2, z.2.2⟩
    · have z := tg_58 q t; exact ⟨z.1.2, z.2.2⟩
  have g0 : qN U (f_givesOf U (xS S) + 1) = 0 := by rw [tg.1]; exact l1.2.2.2.2.2.2.2.2.2.2.2.1
  have L2 : LcP V u := ⟨k.mo (by decide) (by decide), fun j hj => ⟨by rw [(k.2.2.2.2.1 43 (by decide) (by decide)).1], o44 j hj⟩, fun j hj => ⟨by rw [b2] at hj; rw [e45, if_neg (by omega), if_neg (by omega)], by rw [fW k (h := 46) (by decide) (by decide) (by decide)]⟩⟩
  refine PlQ.one (L2.b b1) (fun w G => ?_)
  have L := (L1.tr L2).tr (LcP.gt G)
  have eu : fN u = fN S := by rw [L2.n.1, b2]
  have fr : frm [43, 44, 45, 46, 47, 48] [47, 48, 49, 50, 51, 52, 53, 54] S w := (i.2.1.mo (by decide) (by decide)).tr ((k.mo (by decide) (by decide)).tr (G.1.mo (by decide) (by decide)))
  obtain ⟨hA, hF, e85⟩ := i.af fr
  have e43 : qI w 43 (fN S).toNat = xS S + 1 := by rw [G.2, eu]; unfold upd; rw [if_pos rfl]
  have e44 : qI w 44 = qI u 44 := (G.1.2.2.2.2.1 44 (by decide) (by decide)).1
  have w45 : qW w 45 = qW u 45 := fW G.1 (h := 45) (by decide) (by decide) (by decide)
  have e46 : qW w 46 = qW S 46 := by rw [fW G.1 (h := 46) (by decide) (by decide) (by decide), fW k (h := 46) (by decide) (by decide) (by decide), fW i.2.1 (h := 46) (by decide) (by decide) (by decide)]
  have v45 : qW V 45 = qW S 45 := fW i.2.1 (h := 45) (by decide) (by decide) (by decide)
  have sn : slF w (fN S).toNat (f_first U (xS S)).toInt.toNat = nW (plF S (fN S).toNat ((aT a).toInt - tkV U (xS S)).toNat) := by
    unfold slF
    rw [w45, e45, if_pos rfl]
  have nx := i.nx gg
  refine i.go L hA hF (by rw [e85]; exact Int.le_refl _) nm (by rw [e43]; exact nx) ?_ (fun k2 hk2 hne hn5 => ?_) (fun q => ?_) (fun q => ?_) (fun q => by unfold isSt at ho; omega) (fun q => ?_) (fun k2 hk2 => by unfold plF; rw [e46]) (fun j hj => by omega)
  · rw [e44]
    rw [b4] at eT
    unfold fT at eT
    rw [eu] at eT
    rw [eT, tg.2]
    omega
  · unfold slF
    rw [w45, e45, if_neg (by have := hne (Or.inl ho); omega), if_neg (fun q => by have := hn5 q.1; omega), v45]
  · rw [sn]
    have z := tg_54 q t
    have w2 := wd.2 0
    rw [z.1.1, z.2.1] at w2
    have c1 : qN U (10000016 + 1) = 1 ∧ (qI U (10000016 + 1) 0).toInt = 73 := l1.2.2.2.1
    have w3 := (w2 (by rw [c1.1]; decide)).2.2.2.1 c1.2
    have z0 : plc (qI U (10000016 + 1)) 0 = 0 := rfl
    rw [z0, Int.add_zero] at w3
    rw [z.2.1, e85]
    exact w3.nw
  · have z := tg_55 q t
    have w2 := wd.2 0
    rw [z.1.1, z.2.1] at w2
    have c1 : qN U (10000022 + 1) = 1 ∧ (qI U (10000022 + 1) 0).toInt = 74 := l1.2.2.2.2.2.2.1
    have w3 := (w2 (by rw [c1.1]; decide)).2.2.2.2 c1.2
    have z0 : plc (qI U (10000022 + 1)) 0 = 0 := rfl
    rw [z0, Int.add_zero] at w3
    refine ⟨by rw [sn, z.2.1, e85]; exact w3.1.nw, ?_⟩
    have y := w3.2.nw
    have sh : slF w (fN S).toNat ((f_first U (xS S)).toInt.toNat + 1) = (qJ V 45 (24 * (fN S).toNat + ((f_first U (xS S)).toInt.toNat + 1)), nb (plF S (fN S).toNat ((aT a).toInt - 1).toNat).2) := by
      unfold slF
      rw [w45, e45, if_neg (by omega), if_pos ⟨q, by omega⟩]
    rw [sh]
    rw [show (aT a).toInt - 2 + 1 = (aT a).toInt - 1 by omega] at y
    exact okV.no (by decide) (by decide) (by decide) (by decide) y.2.2.2.2
  · rw [sn, (tg_58 q t).2.1]
/-- a local grows -/
theorem InS.grow {S V U u : MS} {f s p : Nat} {a : AS} {v : Int32} (i : InS S V f U s p a) (ho : (f_op U (xS S)).toInt = 132) (eu : u = wJ V 45 (24 * fN S + (f_first U (xS S)).toInt).toNat v.toInt64) : PlQ S f 1 u := by
  obtain ⟨b0, b1, b2, b3, b4, L1, b5⟩ := i.v
  obtain ⟨kk, t, hx, st, hT, h0⟩ := i.t
  have l1 := tx_l1 t
  have hl := i.lc.1 (by omega)
  have nm : ¬ 0 < (f_moved U (f_op U (xS S))).toInt := fun z => by have := mv_iff.mp z; omega
  have gg := go_on (S := U) (o := f_op U (xS S)) (by omega)
  have z := tg_132 ho t
  have g0 : qN U (f_givesOf U (xS S) + 1) = 0 := by rw [z.1.2]; exact l1.2.2.2.2.2.2.2.2.2.2.2.1
  have k : frm [45] [] V u := by rw [eu]; exact frm.pJ (by decide)
  have e45 : ∀ j : Nat, qW u 45 j = if j = 24 * (fN S).toNat + (f_first U (xS S)).toInt.toNat then (v.toInt64, (qW V 45 j).2) else qW V 45 j := fun j => by
    have r47 : qI u 47 j = qI V 47 j := by rw [eu]; rfl
    unfold qW
    rw [show 45 + 2 = 47 from rfl, r47, eu, qJ_wJ]
    by_cases c : j = 24 * (fN S).toNat + (f_first U (xS S)).toInt.toNat
    · rw [if_pos ⟨rfl, by omega⟩, if_pos c]
    · rw [if_neg (fun q => c (by have := q.2; omega)), if_neg c]
  have L2 : LcP V u := ⟨k.mo (by decide) (by decide), fun j hj => ⟨by rw [(k.2.2.2.2.1 43 (by decide) (by decide)).1], by rw [(k.2.2.2.2.1 44 (by decide) (by decide)).1]⟩, fun j hj => ⟨by rw [b2] at hj; rw [e45, if_neg (by omega)], by rw [fW k (h := 46) (by decide) (by decide) (by decide)]⟩⟩
  refine PlQ.one (L2.b b1) (fun w G => ?_)
  have L := (L1.tr L2).tr (LcP.gt G)
  have en : fN u = fN S := by rw [L2.n.1, b2]
  have fr : frm [43, 44, 45, 46, 47, 48] [47, 48, 49, 50, 51, 52, 53, 54] S w := (i.2.1.mo (by decide) (by decide)).tr ((k.mo (by decide) (by decide)).tr (G.1.mo (by decide) (by decide)))
  obtain ⟨hA, hF, e85⟩ := i.af fr
  have e43 : qI w 43 (fN S).toNat = xS S + 1 := by rw [G.2, en]; unfold upd; rw [if_pos rfl]
  have e44 : qI w 44 = qI S 44 := by rw [(G.1.2.2.2.2.1 44 (by decide) (by decide)).1, (k.2.2.2.2.1 44 (by decide) (by decide)).1, (i.2.1.2.2.2.2.1 44 (by decide) (by decide)).1]
  have w45 : qW w 45 = qW u 45 := fW G.1 (h := 45) (by decide) (by decide) (by decide)
  have e46 : qW w 46 = qW S 46 := by rw [fW G.1 (h := 46) (by decide) (by decide) (by decide), fW k (h := 46) (by decide) (by decide) (by decide), fW i.2.1 (h := 46) (by decide) (by decide) (by decide)]
  have v45 : qW V 45 = qW S 45 := fW i.2.1 (h := 45) (by decide) (by decide) (by decide)
  have nx := i.nx gg
  refine i.go L hA hF (by rw [e85]; exact Int.le_refl _) nm (by rw [e43]; exact nx) ?_ (fun k2 hk2 hne _ => ?_) (fun q => by omega) (fun q => by omega) (fun q => ?_) (fun q => by omega) (fun k2 hk2 => by unfold plF; rw [e46]) (fun j hj => by omega)
  · rw [e44, z.2.1, z.2.2, i.2.2.2.1]
    omega
  · unfold slF
    rw [w45, e45, if_neg (by have := hne (Or.inr ho); omega), v45]
  · have a1 := (i.wd nm).1 (Or.inr ho)
    have okk := i.2.2.2.2.1.1 (f_first U (xS S)).toInt.toNat (by omega)
    have t1 := okk.t1.1 a1
    have e1 : aL a (f_first U (xS S)).toInt.toNat = nb 1 := Int32.toInt_inj.mp (by rw [a1]; decide)
    unfold slF at t1 ⊢
    rw [w45, e45, if_pos rfl, v45, e1]
    exact okV.i (i64_int v) t1
/-- a move -/
theorem InS.mvs {S V U u : MS} {f s p : Nat} {a : AS} (i : InS S V f U s p a) (ho : 0 < (f_moved U (f_op U (xS S))).toInt) (k : frm [44, 46, 48] [] V u) (eT : fT u = fT V - tkV U (xS S) + gvV U (xS S)) (o44 : ∀ j : Nat, j ≠ (fN V).toNat → qI u 44 j = qI V 44 j) (m : mvP (f_op U (xS S)) (fT V) (plF V (fN V).toNat) (plF u (fN V).toNat)) (lo : ∀ j : Nat, (j : Int) < 24 * fN V → qW u 46 j = qW V 46 j) : PlQ S f 1 u := by
  obtain ⟨b0, b1, b2, b3, b4, L1, b5⟩ := i.v
  have gg := go_on (S := U) (o := f_op U (xS S)) (by have := mv_iff.mp ho; omega)
  have L2 : LcP V u := ⟨k.mo (by decide) (by decide), fun j hj => ⟨by rw [(k.2.2.2.2.1 43 (by decide) (by decide)).1], o44 j hj⟩, fun j hj => ⟨by rw [fW k (h := 45) (by decide) (by decide) (by decide)], lo j hj⟩⟩
  refine PlQ.one (L2.b b1) (fun w G => ?_)
  have L := (L1.tr L2).tr (LcP.gt G)
  have eu : fN u = fN S := by rw [L2.n.1, b2]
  have fr : frm [43, 44, 45, 46, 47, 48] [47, 48, 49, 50, 51, 52, 53, 54] S w := (i.2.1.mo (by decide) (by decide)).tr ((k.mo (by decide) (by decide)).tr (G.1.mo (by decide) (by decide)))
  obtain ⟨hA, hF, e85⟩ := i.af fr
  have e43 : qI w 43 (fN S).toNat = xS S + 1 := by rw [G.2, eu]; unfold upd; rw [if_pos rfl]
  have e44 : qI w 44 = qI u 44 := (G.1.2.2.2.2.1 44 (by decide) (by decide)).1
  have e45 : qW w 45 = qW S 45 := by rw [fW G.1 (h := 45) (by decide) (by decide) (by decide), fW k (h := 45) (by decide) (by decide) (by decide), fW i.2.1 (h := 45) (by decide) (by decide) (by decide)]
  have e46 : qW w 46 = qW u 46 := fW G.1 (h := 46) (by decide) (by decide) (by decide)
  have v46 : qW V 46 = qW S 46 := fW i.2.1 (h := 46) (by decide) (by decide) (by decide)
  have nx := i.nx gg
  refine i.mv L hA hF (by rw [e85]) ho (by rw [e43]; exact nx) ?_ (fun k2 hk2 => by unfold slF; rw [e45]) ?_
  · rw [e44]
    rw [b4] at eT
    unfold fT at eT
    rw [eu] at eT
    exact eT
  · have x1 : plF V (fN V).toNat = plF S (fN S).toNat := by funext j; unfold plF; rw [v46, b2]
    have x2 : plF u (fN V).toNat = plF w (fN S).toNat := by funext j; unfold plF; rw [e46, b2]
    rw [x1, x2, b4] at m
    exact m
/-! fields (behind InS.p1, FrU.rv, FvI) -/
theorem gv_178 {U : MS} {x : Int32} (h : (f_op U x).toInt = 178) : f_givesOf U x = qO U (qO U (qO U 0 47) 7) (f_first U x).toInt.toNat ∧ f_takesOf U x = 10000032 := by
  constructor
  · unfold f_givesOf f_givesOf_J18 f_givesOf_J47
    rw [if_neg (by omega), if_neg (by omega), if_neg (by omega), if_pos (by omega), if_neg (by omega), if_neg (by omega), if_neg (by omega), if_neg (by omega), if_neg (by omega), if_neg (by omega), if_neg (by omega), if_neg (by omega), if_neg (by omega), if_neg (by omega), if_neg (by omega), if_neg (by omega), if_neg (by omega), if_pos h]
  · unfold f_takesOf f_takesOf_J18 f_takesOf_J47 f_takesOf_J75 f_takesOf_J93 f_takesOf_J111
    rw [if_neg (by omega), if_neg (by omega), if_neg (by omega), if_pos (by omega), if_neg (by omega), if_pos (by omega), if_neg (by omega), if_pos (by omega), if_neg (by omega), if_pos (by omega), if_neg (by omega), if_neg (by omega), if_neg (by omega), if_neg (by omega), if_neg (by omega), if_neg (by omega), if_neg (by omega), if_neg (by omega), if_neg (by omega), if_neg (by omega), if_neg (by omega), if_neg (by omega), if_neg (by omega), if_neg (by omega), if_neg (by omega), if_neg (by omega), if_neg (by omega), if_neg (by omega), if_neg (by omega), if_neg (by omega), if_neg (by omega), if_neg (by omega), if_neg (by omega), if_neg (by omega), if_neg (by omega), if_neg (by omega), if_neg (by omega)]
theorem gv_179 {U : MS} {x : Int32} (h : (f_op U x).toInt = 179) : f_givesOf U x = 10000032 ∧ f_takesOf U x = qO U (qO U (qO U 0 47) 7) (f_first U x).toInt.toNat := by
  constructor
  · unfold f_givesOf f_givesOf_J18 f_givesOf_J47
    rw [if_neg (by omega), if_neg (by omega), if_neg (by omega), if_pos (by omega), if_neg (by omega), if_neg (by omega), if_neg (by omega), if_neg (by omega), if_neg (by omega), if_neg (by omega), if_neg (by omega), if_neg (by omega), if_neg (by omega), if_neg (by omega), if_neg (by omega), if_neg (by omega), if_neg (by omega), if_neg (by omega), if_neg (by omega), if_neg (by omega), if_neg (by omega)]
  · unfold f_takesOf f_takesOf_J18 f_takesOf_J47 f_takesOf_J75 f_takesOf_J93 f_takesOf_J111
    rw [if_neg (by omega), if_neg (by omega), if_neg (by omega), if_pos (by omega), if_neg (by omega), if_pos (by omega), if_neg (by omega), if_pos (by omega), if_neg (by omega), if_pos (by omega), if_neg (by omega), if_neg (by omega), if_neg (by omega), if_neg (by omega), if_neg (by omega), if_neg (by omega), if_neg (by omega), if_neg (by omega), if_neg (by omega), if_neg (by omega), if_neg (by omega), if_neg (by omega), if_neg (by omega), if_neg (by omega), if_neg (by omega), if_neg (by omega), if_neg (by omega), if_neg (by omega), if_neg (by omega), if_neg (by omega), if_pos h]
/-- a field's letter -/
theorem FlI.fd {S : MS} {f : Nat} {i : Nat} (h : FlI S f) (hi : (i : Int) < (qI S f 3).toInt) : ∃ t : Nat, qR S (f + 3) i = some t ∧ 92 < t ∧ qN S (t + 1) = 1 ∧ ((qI S (t + 1) 0).toInt = 73 ∨ (qI S (t + 1) 0).toInt = 74 ∨ (qI S (t + 1) 0).toInt = 65) ∧ plS S t = (if (qI S (t + 1) 0).toInt = 74 then 2 else 1) := by
  have f92 := h.1.1.1
  obtain ⟨s1, s2, s3, a1, a2, a3, b1, b2, b3, c1, c2, p, p1, g, d1, d2, d3⟩ := h.2.2.2.2.1 i hi
  have n1 := d1.2.2.1
  refine ⟨s3, b3, by omega, n1, ?_, ?_⟩
  · rw [d1.2.2.2 0 (by decide)]; exact d3 0 (by decide)
  · unfold plS
    rw [n1]
    show 0 + (if (qI S (s3 + 1) 0).toInt = 74 then (2 : Int) else 1) = _
    rw [Int.zero_add]
theorem sEq_1 {S : MS} {t T : Nat} {d : Int} (n1 : qN S (t + 1) = 1) (m1 : qN S (T + 1) = 1) (ed : (qI S (T + 1) 0).toInt = d) : ((sEq S t T).toInt = 0 → ¬ (qI S (t + 1) 0).toInt = d) ∧ (¬ (sEq S t T).toInt = 0 → (qI S (t + 1) 0).toInt = d) := by
  refine ⟨fun h e => ?_, fun h => ?_⟩
  · have q : sEqP S t T := ⟨by rw [n1, m1], fun j hj => by
      have j0 : j = 0 := by omega
      subst j0
      exact Int32.toInt_inj.mp (by rw [e, ed])⟩
    unfold sEq at h
    rw [if_pos q] at h
    exact absurd h (by decide)
  · have q := sEq_T h
    rw [q.2 0 (by omega)]
    exact ed
/-- the field that an instruction names -/
theorem InS.fd {S V U : MS} {f s p : Nat} {a : AS} (i : InS S V f U s p a) (ho : (f_op U (xS S)).toInt = 178 ∨ (f_op U (xS S)).toInt = 179) : ∃ t : Nat, ((0 ≤ (f_first U (xS S)).toInt ∧ (f_first U (xS S)).toInt < (qI S f 3).toInt ∧ (f_first U (xS S)).toInt < 24) ∧ qR S (f + 3) (f_first U (xS S)).toInt.toNat = some t ∧ 92 < t) ∧ (qR V 0 80 = some f ∧ qO V 0 80 = f ∧ qR V f 7 = some (f + 3) ∧ qO V f 7 = f + 3 ∧ qN V (f + 3) = 24 ∧ qR V (f + 3) (f_first U (xS S)).toInt.toNat = some t ∧ qO V (f + 3) (f_first U (xS S)).toInt.toNat = t) ∧ (qN S (t + 1) = 1 ∧ ((qI S (t + 1) 0).toInt = 73 ∨ (qI S (t + 1) 0).toInt = 74 ∨ (qI S (t + 1) 0).toInt = 65)) ∧ (qN V (t + 1) = 1 ∧ qI V (t + 1) = qI S (t + 1)) ∧ (qN U (t + 1) = 1 ∧ qI U (t + 1) = qI S (t + 1) ∧ plS U t = (if (qI S (t + 1) 0).toInt = 74 then 2 else 1)) ∧ qO U (qO U (qO U 0 47) 7) (f_first U (xS S)).toInt.toNat = t := by
  have hI := i.1
  have hU := i.2.2.1
  obtain ⟨w1, w2, w3, w4, w5, w6⟩ := hU.own
  obtain ⟨T', ts', N', L', rv⟩ := hU.rv hI.2.1.2.1
  have fl := hI.2.1.2.1
  have f92 := hU.1
  have mr : 0 ≤ (f_first U (xS S)).toInt ∧ (f_first U (xS S)).toInt < (qI S f 3).toInt := rv.2.2.2.2.2.1 ho
  have m24 := fl.2.2.2.1.1.2
  obtain ⟨t, t1, t2, t3, t4, t5⟩ := fl.fd (i := (f_first U (xS S)).toInt.toNat) (by omega)
  have kV := big_frm i.2.1 (by simp)
  have r2 := fl.1.2.2 2 (by decide)
  have q7 : qR S f 7 = some (f + 3) := r2.1
  have n3 : qN S (f + 3) = 24 := r2.2.1
  have V80 : qR V 0 80 = some f := by rw [(i.2.1.2.2.2.2.2 80 (by decide)).2.2]; exact hI.2.1.1.2
  have eo : qO U (qO U (qO U 0 47) 7) (f_first U (xS S)).toInt.toNat = t := by
    rw [w1, w2.1]
    unfold qO
    rw [w3, t1]
    rfl
  obtain ⟨kk, tx, hx, st, hT, h0⟩ := i.t
  have okU : okH U (t + 1) := by
    rcases ho with q | q
    · have z := kk.gv hx tx
      rw [(gv_178 q).1, eo] at z
      exact z.1
    · have z := kk.tk hx tx
      rw [(gv_179 q).2, eo] at z
      exact z.1
  have wt := w6 t okU
  have vt := kV (t + 1) (by omega)
  refine ⟨t, ⟨⟨mr.1, mr.2, by omega⟩, t1, t2⟩, ⟨V80, by unfold qO; rw [V80]; rfl, by rw [(kV f f92).2.2.1]; exact q7, by unfold qO; rw [(kV f f92).2.2.1, q7]; rfl, by rw [(kV _ (by omega)).2.2.2.2]; exact n3, by rw [(kV _ (by omega)).2.2.1]; exact t1, by unfold qO; rw [(kV _ (by omega)).2.2.1, t1]; rfl⟩, ⟨t3, t4⟩, ⟨by rw [vt.2.2.2.2]; exact t3, vt.1⟩, ⟨by rw [wt.2]; exact t3, wt.1, ?_⟩, eo⟩
  have : plS U t = plS S t := by unfold plS; rw [wt.1, wt.2]
  rw [this]
  exact t5
theorem InS.get {S V U : MS} {f s p : Nat} {a : AS} (i : InS S V f U s p a) (ho : (f_op U (xS S)).toInt = 178) : ((qR V 0 80 = some (qO V 0 80)) ∧ ((qR V (qO V 0 80) 7 = some (qO V (qO V 0 80) 7)) ∧ (((0 : Int) ≤ (f_first U (xS S)).toInt ∧ (f_first U (xS S)).toInt < (qN V (qO V (qO V 0 80) 7) : Int)) ∧ ((qR V (qO V (qO V 0 80) 7) (f_first U (xS S)).toInt.toNat = some (qO V (qO V (qO V 0 80) 7) (f_first U (xS S)).toInt.toNat)) ∧ (((sEq V (qO V (qO V (qO V 0 80) 7) (f_first U (xS S)).toInt.toNat) 10000016).toInt = 0 → (((0 : Int) ≤ (f_first U (xS S)).toInt ∧ (f_first U (xS S)).toInt < 24) ∧ ((qR V 0 80 = some (qO V 0 80)) ∧ ((qR V (qO V 0 80) 7 = some (qO V (qO V 0 80) 7)) ∧ (((0 : Int) ≤ (f_first U (xS S)).toInt ∧ (f_first U (xS S)).toInt < (qN V (qO V (qO V 0 80) 7) : Int)) ∧ ((qR V (qO V (qO V 0 80) 7) (f_first U (xS S)).toInt.toNat = some (qO V (qO V (qO V 0 80) 7) (f_first U (xS S)).toInt.toNat)) ∧ (((sEq V (qO V (qO V (qO V 0 80) 7) (f_first U (xS S)).toInt.toNat) 10000022).toInt = 0 → w_plain_J542 (PlQ S f) V 1 (qJ V 37 (f_first U (xS S)).toInt.toNat)) ∧ (¬ (sEq V (qO V (qO V (qO V 0 80) 7) (f_first U (xS S)).toInt.toNat) 10000022).toInt = 0 → w_plain_J542 (PlQ S f) V 2 (qJ V 37 (f_first U (xS S)).toInt.toNat))))))))) ∧ (¬ (sEq V (qO V (qO V (qO V 0 80) 7) (f_first U (xS S)).toInt.toNat) 10000016).toInt = 0 → (((0 : Int) ≤ (f_first U (xS S)).toInt ∧ (f_first U (xS S)).toInt < 24) ∧ (∃ Q222, w_putInt V ((qJ V 37 (f_first U (xS S)).toInt.toNat).toInt32) Q222 ∧ ∀ S223, Q222 S223 → PlQ S f (1 : Int32) S223))))))))  := by
  obtain ⟨b0, b1, b2, b3, b4, L1, b5⟩ := i.v
  obtain ⟨kk, tx, hx, st, hT, h0⟩ := i.t
  obtain ⟨t, ⟨⟨r0, r1, r2⟩, r3, r4⟩, ⟨v1, v2, v3, v4, v5, v6, v7⟩, ⟨t3, t4⟩, ⟨u1, u2⟩, ⟨u3, u4, u5⟩, eo⟩ := i.fd (Or.inl ho)
  obtain ⟨g1, g2⟩ := gv_178 ho
  rw [eo] at g1
  have pl : isPl (f_op U (xS S)).toInt := by unfold isPl; omega
  have nm := pl.f.1
  have tk0 : tkV U (xS S) = 0 := by unfold tkV; rw [if_neg nm, g2]; exact (tx_pl tx).2.2.2.2.2.2.2.2.2.2.2.1
  have gv : gvV U (xS S) = (if (qI S (t + 1) 0).toInt = 74 then 2 else 1) := by unfold gvV; rw [if_neg nm, g1]; exact u5
  have lV := tx_l1 (i.1.2.1.2.2.2.1.fm i.2.1 (by simp))
  have q16 := sEq_1 (d := 73) u1 lV.2.2.2.1.1 lV.2.2.2.1.2
  have q22 := sEq_1 (d := 74) u1 lV.2.2.2.2.2.2.1.1 lV.2.2.2.2.2.2.1.2
  rw [u2] at q16 q22
  have v37 : qJ V 37 = qJ S 37 := (i.2.1.2.2.2.2.1 37 (by decide) (by decide)).2.1
  have tt := hT.2.2
  rw [tk0] at tt
  have P0 : PpP V (tkV U (xS S)) V := by rw [tk0]; exact PpP.rf
  rw [v2, v4, v7]
  refine ⟨v1, v3, ⟨r0, by rw [v5]; omega⟩, v6, fun c1 => ⟨⟨r0, r2⟩, v1, v3, ⟨r0, by rw [v5]; omega⟩, v6, fun c2 => ?_, fun c2 => ?_⟩, fun c1 => ⟨⟨r0, r2⟩, ?_⟩⟩
  · have n3 := q16.1 c1
    have n4 := q22.1 c2
    have c5 : (qI S (t + 1) 0).toInt = 65 := by omega
    rw [if_neg n4] at gv
    unfold w_plain_J542
    obtain ⟨Q, x1, x2⟩ := sp_psh (v := qJ V 37 (f_first U (xS S)).toInt.toNat) (n := 1) b1 P0 (Or.inl li_1) ⟨by omega, by rw [li_1]; omega⟩
    refine ⟨Q, x1, fun u hu => i.p1 pl (by rw [gv]; have z := x2 u hu; rw [li_1] at z; exact z) (by rw [g1]; exact u3) ?_⟩
    rw [g1, u4]
    have fv := i.1.2.2.1.2 _ t (by omega) r3 r4 c5
    rw [← v37] at fv
    exact gv_l.2.2.1 c5 fv (ptT_4 (by decide) fv.1)
  · have c5 := q22.2 c2
    have l2 : (2 : Int32).toInt = 2 := by decide
    rw [if_pos c5] at gv
    unfold w_plain_J542
    obtain ⟨Q, x1, x2⟩ := sp_psh (v := qJ V 37 (f_first U (xS S)).toInt.toNat) (n := 2) b1 P0 (Or.inr l2) ⟨by omega, by rw [l2]; omega⟩
    refine ⟨Q, x1, fun u hu => i.p1 pl (by rw [gv]; have z := x2 u hu; rw [l2] at z; exact z) (by rw [g1]; exact u3) ?_⟩
    rw [g1, u4]
    exact gv_l.2.1 c5 (ptT_2 l2)
  · have c5 := q16.2 c1
    rw [if_neg (by omega)] at gv
    obtain ⟨Q, x1, x2⟩ := sp_psi (v := (qJ V 37 (f_first U (xS S)).toInt.toNat).toInt32) b1 P0 ⟨by omega, by omega⟩
    refine ⟨Q, x1, fun u hu => i.p1 pl (by rw [gv]; exact x2 u hu) (by rw [g1]; exact u3) ?_⟩
    rw [g1, u4]
    exact gv_l.1 c5 (i64_int _) nb1v
/-- values are taken, and something beside the frames may change -/
theorem InS.ps {S V U u : MS} {f s p : Nat} {a : AS} (i : InS S V f U s p a) (ho : isPl (f_op U (xS S)).toInt) (k : frm [37, 38, 44] [] V u) (eT : fT u = fT V - tkV U (xS S)) (o44 : ∀ j : Nat, j ≠ (fN V).toNat → qI u 44 j = qI V 44 j) (hF : ∀ w, frm [43] [] u w → FvI w f) (g0 : qN U (f_givesOf U (xS S) + 1) = 0) : PlQ S f 1 u := by
  obtain ⟨b0, b1, b2, b3, b4, L1, b5⟩ := i.v
  obtain ⟨nm, no, gg⟩ := ho.f
  have L2 : LcP V u := ⟨k.mo (by decide) (by decide), fun j hj => ⟨by rw [(k.2.2.2.2.1 43 (by decide) (by decide)).1], o44 j hj⟩, fun j hj => ⟨by rw [fW k (h := 45) (by decide) (by decide) (by decide)], by rw [fW k (h := 46) (by decide) (by decide) (by decide)]⟩⟩
  refine PlQ.one (L2.b b1) (fun w G => ?_)
  have L := (L1.tr L2).tr (LcP.gt G)
  have eu : fN u = fN S := by rw [L2.n.1, b2]
  have fr : frm [37, 38, 43, 44] [47, 48, 49, 50, 51, 52, 53, 54] S w := (i.2.1.mo (by decide) (by decide)).tr ((k.mo (by decide) (by decide)).tr (G.1.mo (by decide) (by decide)))
  have e85 : qI w 0 85 = qI S 0 85 := (fr.2.2.2.2.2 85 (by decide)).1
  have hA : ArI w := i.1.2.2.1.1.eq e85 (fr.2.2.2.2.2 86 (by decide)).1 (fr.2.2.2.2.1 39 (by decide) (by decide)).1 (fr.2.2.2.2.1 40 (by decide) (by decide)).1
  have gv0 : gvV U (xS S) = 0 := by
    unfold gvV plS
    rw [if_neg nm, g0]
    rfl
  have e43 : qI w 43 (fN S).toNat = xS S + 1 := by rw [G.2, eu]; unfold upd; rw [if_pos rfl]
  have e44 : qI w 44 = qI u 44 := (G.1.2.2.2.2.1 44 (by decide) (by decide)).1
  have e45 : qW w 45 = qW S 45 := fW fr (h := 45) (by decide) (by decide) (by decide)
  have e46 : qW w 46 = qW S 46 := fW fr (h := 46) (by decide) (by decide) (by decide)
  have nx := i.nx gg
  refine i.go L hA (hF w G.1) (by rw [e85]; exact Int.le_refl _) nm (by rw [e43]; exact nx) ?_ (fun k _ _ _ => by unfold slF; rw [e45]) (fun q => absurd (Or.inl q) no.1) (fun q => absurd (Or.inr (Or.inl q)) no.1) (fun q => absurd q no.2) (fun q => absurd (Or.inr (Or.inr q)) no.1) (fun k hk => by unfold plF; rw [e46]) (fun j hj => by omega)
  rw [e44]
  rw [b4] at eT
  unfold fT at eT
  rw [eu] at eT
  rw [eT, gv0]
  omega
theorem InS.put {S V U : MS} {f s p : Nat} {a : AS} (i : InS S V f U s p a) (ho : (f_op U (xS S)).toInt = 179) : ((qR V 0 80 = some (qO V 0 80)) ∧ ((qR V (qO V 0 80) 7 = some (qO V (qO V 0 80) 7)) ∧ (((0 : Int) ≤ (f_first U (xS S)).toInt ∧ (f_first U (xS S)).toInt < (qN V (qO V (qO V 0 80) 7) : Int)) ∧ ((qR V (qO V (qO V 0 80) 7) (f_first U (xS S)).toInt.toNat = some (qO V (qO V (qO V 0 80) 7) (f_first U (xS S)).toInt.toNat)) ∧ (((sEq V (qO V (qO V (qO V 0 80) 7) (f_first U (xS S)).toInt.toNat) 10000022).toInt = 0 → w_plain_J576 (PlQ S f) V 1 (f_first U (xS S))) ∧ (¬ (sEq V (qO V (qO V (qO V 0 80) 7) (f_first U (xS S)).toInt.toNat) 10000022).toInt = 0 → w_plain_J576 (PlQ S f) V 2 (f_first U (xS S)))))))) := by
  obtain ⟨b0, b1, b2, b3, b4, L1, b5⟩ := i.v
  obtain ⟨kk, tx, hx, st, hT, h0⟩ := i.t
  obtain ⟨t, ⟨⟨r0, r1, r2⟩, r3, r4⟩, ⟨v1, v2, v3, v4, v5, v6, v7⟩, ⟨t3, t4⟩, ⟨u1, u2⟩, ⟨u3, u4, u5⟩, eo⟩ := i.fd (Or.inr ho)
  obtain ⟨g1, g2⟩ := gv_179 ho
  rw [eo] at g2
  have f92 := i.1.2.1.1.1
  have pl : isPl (f_op U (xS S)).toInt := by unfold isPl; omega
  have nm := pl.f.1
  have g0 : qN U (f_givesOf U (xS S) + 1) = 0 := by rw [g1]; exact (tx_l1 tx).2.2.2.2.2.2.2.2.2.2.2.1
  have tk : tkV U (xS S) = (if (qI S (t + 1) 0).toInt = 74 then 2 else 1) := by unfold tkV; rw [if_neg nm, g2]; exact u5
  have lV := tx_l1 (i.1.2.1.2.2.2.1.fm i.2.1 (by simp))
  have q22 := sEq_1 (d := 74) u1 lV.2.2.2.2.2.2.1.1 lV.2.2.2.2.2.2.1.2
  rw [u2] at q22
  have v46 : qJ V 46 = qJ S 46 := (i.2.1.2.2.2.2.1 46 (by decide) (by decide)).2.1
  have v37 : qJ V 37 = qJ S 37 := (i.2.1.2.2.2.2.1 37 (by decide) (by decide)).2.1
  have wd := (i.wd nm).2 0
  rw [g2, u3, u4] at wd
  have z0 : plc (qI S (t + 1)) 0 = 0 := rfl
  rw [z0, Int.add_zero] at wd
  have fin : ∀ n : Int32, (n.toInt = 1 ∨ n.toInt = 2) → n.toInt = tkV U (xS S) → w_plain_J576 (PlQ S f) V n (f_first U (xS S)) := fun n hn en => by
    unfold w_plain_J576
    refine ⟨_, sp_pop b1 PpP.rf (by decide) ⟨by omega, by rw [b4]; omega⟩ (by rw [b4]; exact hT.2.1), ?_⟩
    rintro r A ⟨pA, er⟩
    refine ⟨⟨r0, r2⟩, fun D eD => ?_⟩
    have fD : frm [37] [] A D := by rw [eD]; exact frm.pJ (by decide)
    have k : frm [37, 38, 44] [] V D := (pA.1.mo (by decide) (by decide)).tr (fD.mo (by decide) (by decide))
    have nA := (b1.mv pA.1).2
    have nD := ((b1.mv pA.1).1.mv fD).2
    have D44 : qI D 44 = qI A 44 := (fD.2.2.2.2.1 44 (by decide) (by decide)).1
    refine i.ps pl k ?_ (fun j hj => by rw [D44]; exact pA.2.2 j hj) (fun w fw => ?_) g0
    · have z := pA.2.1
      unfold fT at z ⊢
      rw [nD, D44, z, en]
      omega
    · intro i2 s2 hi2 hs2 h92 hc
      have fV : frm [37, 38, 43, 44] [47, 48, 49, 50, 51, 52, 53, 54] S w := (i.2.1.mo (by decide) (by decide)).tr ((k.mo (by decide) (by decide)).tr (fw.mo (by decide) (by decide)))
      have kb := big_frm fV (by decide)
      have e85 : qI w 0 85 = qI S 0 85 := (fV.2.2.2.2.2 85 (by decide)).1
      have w37 : ∀ j : Nat, qJ w 37 j = if j = (f_first U (xS S)).toInt.toNat then r else qJ S 37 j := fun j => by
        rw [(fw.2.2.2.2.1 37 (by decide) (by decide)).2.1, eD, qJ_wJ]
        by_cases c : j = (f_first U (xS S)).toInt.toNat
        · rw [if_pos ⟨rfl, c⟩, if_pos c]
        · rw [if_neg (fun q => c q.2), if_neg c, (pA.1.2.2.2.2.1 37 (by decide) (by decide)).2.1, v37]
      rw [(kb f f92).1] at hi2
      rw [(kb (f + 3) (by omega)).2.2.1] at hs2
      rw [(kb (s2 + 1) (by omega)).1] at hc
      rw [w37, e85]
      by_cases c : i2 = (f_first U (xS S)).toInt.toNat
      · rw [if_pos c]
        rw [c, r3] at hs2
        have e2 : t = s2 := by injection hs2
        subst e2
        have w := (wd (by decide)).1 hc
        have ee : r = (plF S (fN S).toNat ((aT a).toInt - tkV U (xS S)).toNat).1 := by
          rw [er, b2, b4, v46, en]
          unfold plF qW
          rw [show (24 * fN S + (aT a).toInt - 0 - tkV U (xS S)).toNat = 24 * (fN S).toNat + ((aT a).toInt - tkV U (xS S)).toNat by omega]
        rw [ee]
        exact w
      · rw [if_neg c]
        exact i.1.2.2.1.2 i2 s2 hi2 hs2 h92 hc
  rw [v2, v4, v7]
  refine ⟨v1, v3, ⟨r0, by rw [v5]; omega⟩, v6, fun c => fin 1 (Or.inl li_1) ?_, fun c => fin 2 (Or.inr (by decide)) ?_⟩
  · rw [tk, if_neg (q22.1 c), li_1]
  · rw [tk, if_pos (q22.2 c)]; decide
/-! arrays (behind InS.ps, InS.pI, InS.th, ArI) -/
theorem InS.ar {S V U A : MS} {f s p : Nat} {a : AS} (i : InS S V f U s p a) (k : frm [44] [] V A) : ArI A ∧ qI A 0 85 = qI S 0 85 ∧ qI A 0 86 = qI S 0 86 ∧ qI A 39 = qI S 39 ∧ qI A 40 = qI S 40 := by
  have e1 : qI A 0 85 = qI S 0 85 := by rw [(k.2.2.2.2.2 85 (by decide)).1, (i.2.1.2.2.2.2.2 85 (by decide)).1]
  have e2 : qI A 0 86 = qI S 0 86 := by rw [(k.2.2.2.2.2 86 (by decide)).1, (i.2.1.2.2.2.2.2 86 (by decide)).1]
  have e3 : qI A 39 = qI S 39 := by rw [(k.2.2.2.2.1 39 (by decide) (by decide)).1, (i.2.1.2.2.2.2.1 39 (by decide) (by decide)).1]
  have e4 : qI A 40 = qI S 40 := by rw [(k.2.2.2.2.1 40 (by decide) (by decide)).1, (i.2.1.2.2.2.2.1 40 (by decide) (by decide)).1]
  exact ⟨i.1.2.2.1.1.eq e1 e2 e3 e4, e1, e2, e3, e4⟩
theorem InS.gi {S V U A : MS} {f s p : Nat} {a : AS} {d : Int} {Q : Int32 → MS → Prop} (i : InS S V f U s p a) (pA : PpP V d A) (d0 : 0 ≤ d) (hd : d + 1 ≤ (aT a).toInt) (hQ : ∀ (r : Int32) (B : MS), PpP V (d + 1) B → r = (plF S (fN S).toNat ((aT a).toInt - d - 1).toNat).1.toInt32 → Q r B) : ∃ Q1, w_gotInt A Q1 ∧ ∀ r u, Q1 r u → Q r u := by
  obtain ⟨b0, b1, b2, b3, b4, L1, b5⟩ := i.v
  obtain ⟨kk, t, hx, st, hT, h0⟩ := i.t
  have v46 : qJ V 46 = qJ S 46 := (i.2.1.2.2.2.2.1 46 (by decide) (by decide)).2.1
  refine ⟨Q, ?_, fun r u hu => hu⟩
  unfold w_gotInt
  refine ⟨_, sp_pop (n := 1) b1 pA d0 ⟨by decide, by rw [li_1, b4]; exact hd⟩ (by rw [b4]; exact hT.2.1), ?_⟩
  rintro r B ⟨pB, er⟩
  rw [li_1] at pB er
  refine hQ _ B pB ?_
  rw [er, b2, b4, v46]
  unfold plF qW
  rw [show (24 * fN S + (aT a).toInt - d - 1).toNat = 24 * (fN S).toNat + ((aT a).toInt - d - 1).toNat by omega]
theorem InS.j81 {S V U A : MS} {f s p : Nat} {a : AS} {k v : Int32} (i : InS S V f U s p a) (ho : (f_op U (xS S)).toInt = 46 ∨ (f_op U (xS S)).toInt = 79 ∨ (f_op U (xS S)).toInt = 190) (pA : PpP V (tkV U (xS S) - 1) A) : w_onArrays_J81 (PlQ S f) A k (f_op U (xS S)) v := by
  obtain ⟨b0, b1, b2, b3, b4, L1, b5⟩ := i.v
  obtain ⟨kk, t, hx, st, hT, h0⟩ := i.t
  have l1 := tx_l1 t
  have pl : isPl (f_op U (xS S)).toInt := by unfold isPl; omega
  have nm := pl.f.1
  have tk : (1 ≤ tkV U (xS S) ∧ tkV U (xS S) ≤ 3) ∧ 1 ≤ qN U (f_takesOf U (xS S) + 1) ∧ (qI U (f_takesOf U (xS S) + 1) 0).toInt = 65 := by
    rcases ho with q | q | q
    · have z := tg_46 q t
      rw [z.2.1, z.1.1]
      have y : qN U (10000018 + 1) = 2 ∧ (qI U (10000018 + 1) 0).toInt = 65 ∧ (qI U (10000018 + 1) 1).toInt = 73 := l1.2.2.2.2.1
      exact ⟨by decide, by rw [y.1]; decide, y.2.1⟩
    · have z := tg_79 q t
      rw [z.2.1, z.1.1]
      have y : qN U (10000020 + 1) = 3 ∧ (qI U (10000020 + 1) 0).toInt = 65 ∧ (qI U (10000020 + 1) 1).toInt = 73 ∧ (qI U (10000020 + 1) 2).toInt = 73 := l1.2.2.2.2.2.1
      exact ⟨by decide, by rw [y.1]; decide, y.2.1⟩
    · have z := tg_190 q t
      rw [z.2.1, z.1.1]
      have y : qN U (10000028 + 1) = 1 ∧ (qI U (10000028 + 1) 0).toInt = 65 := l1.2.2.2.2.2.2.2.2.2.1
      exact ⟨by decide, by rw [y.1]; decide, y.2⟩
  have wd := ((i.wd nm).2 0 (by omega)).1 tk.2.2
  have z0 : plc (qI U (f_takesOf U (xS S) + 1)) 0 = 0 := rfl
  rw [z0, Int.add_zero] at wd
  have n400 := i.1.2.2.1.1.1
  unfold w_onArrays_J81
  refine i.gi pA (by omega) (by omega) (fun r B pB er => ?_)
  rw [show tkV U (xS S) - 1 + 1 = tkV U (xS S) by omega] at pB
  rw [show (aT a).toInt - (tkV U (xS S) - 1) - 1 = (aT a).toInt - tkV U (xS S) by omega] at er
  have er2 : r.toInt = (plF S (fN S).toNat ((aT a).toInt - tkV U (xS S)).toNat).1.toInt := by rw [er]; exact tl_to (by omega)
  obtain ⟨hA, e85, e86, e39, e40⟩ := i.ar pB.1
  have rr : 0 ≤ r.toInt ∧ r.toInt < 401 := by omega
  have j135 : w_onArrays_J135 (PlQ S f) B := by
    unfold w_onArrays_J135
    obtain ⟨Q, x1, x2⟩ := i.th (e := 2) (by decide) pB
    exact ⟨Q, x1, fun w hw => PlQ.no (x2 w hw)⟩
  refine ⟨fun c => ?_, fun c => ⟨fun c1 => ⟨rr, ?_⟩, fun c1 => ⟨fun _ => j135, fun c2 => ⟨rr, fun c3 => ?_, fun _ => j135⟩⟩⟩⟩
  · obtain ⟨Q, x1, x2⟩ := i.th (e := 1) (by decide) pB
    exact ⟨Q, x1, fun w hw => PlQ.no (x2 w hw)⟩
  · have z := tg_190 c1 t
    have g1 := z.2.2
    obtain ⟨Q, x1, x2⟩ := sp_psi (v := qI B 40 r.toInt.toNat) b1 pB ⟨by rw [b4]; omega, by rw [b4]; omega⟩
    exact ⟨Q, x1, fun u hu => i.pI (v := ((qI B 40 r.toInt.toNat).toInt64, nb 1)) pl (by rw [g1]; exact x2 u hu) (Or.inl ⟨z.1.2, i64_int _, nb1v⟩)⟩
  · have ai := hA.2.2 r.toInt.toNat (by omega) (by rw [e85]; omega)
    have h86 := hA.2.1
    have ix : (qI B 39 r.toInt.toNat + k).toInt = (qI B 39 r.toInt.toNat).toInt + k.toInt := t_add (by omega)
    rw [ix]
    refine ⟨fun c4 => ⟨rr, ⟨by omega, by omega⟩, fun D eD => ?_⟩, fun c4 => ⟨rr, ⟨by omega, by omega⟩, ?_⟩⟩
    · have z := tg_79 c4 t
      have fD : frm [38] [] B D := by rw [eD]; exact frm.pI (by decide)
      have kD : frm [37, 38, 44] [] V D := (pB.1.mo (by decide) (by decide)).tr (fD.mo (by decide) (by decide))
      have nD := ((b1.mv pB.1).1.mv fD).2
      have D44 : qI D 44 = qI B 44 := (fD.2.2.2.2.1 44 (by decide) (by decide)).1
      refine i.ps pl kD ?_ (fun j hj => by rw [D44]; exact pB.2.2 j hj) (fun w fw => ?_) (by rw [z.1.2]; exact l1.2.2.2.2.2.2.2.2.2.2.2.1)
      · have y := pB.2.1
        unfold fT at y ⊢
        rw [nD, D44, y]
      · have fV : frm [38, 43, 44] [47, 48, 49, 50, 51, 52, 53, 54] S w := (i.2.1.mo (by decide) (by decide)).tr ((pB.1.mo (by decide) (by decide)).tr ((fD.mo (by decide) (by decide)).tr (fw.mo (by decide) (by decide))))
        have w85 : qI w 0 85 = qI S 0 85 := (fV.2.2.2.2.2 85 (by decide)).1
        exact i.1.2.2.1.2.eq i.1.2.1.1.1 (big_frm fV (by decide)) (by rw [w85]; exact Int.le_refl _) (fV.2.2.2.2.1 37 (by decide) (by decide)).2.1
    · have c5 : (f_op U (xS S)).toInt = 46 := by omega
      have z := tg_46 c5 t
      have g1 := z.2.2
      obtain ⟨Q, x1, x2⟩ := sp_psi (v := qI B 38 ((qI B 39 r.toInt.toNat).toInt + k.toInt).toNat) b1 pB ⟨by rw [b4]; omega, by rw [b4]; omega⟩
      exact ⟨Q, x1, fun u hu => i.pI (v := ((qI B 38 ((qI B 39 r.toInt.toNat).toInt + k.toInt).toNat).toInt64, nb 1)) pl (by rw [g1]; exact x2 u hu) (Or.inl ⟨z.1.2, i64_int _, nb1v⟩)⟩
theorem InS.made {S V U A : MS} {f s p : Nat} {a : AS} {n : Int32} (i : InS S V f U s p a) (ho : (f_op U (xS S)).toInt = 188) (pA : PpP V 1 A) : w_made A n (PlQ S f) := by
  obtain ⟨b0, b1, b2, b3, b4, L1, b5⟩ := i.v
  obtain ⟨kk, t, hx, st, hT, h0⟩ := i.t
  have l1 := tx_l1 t
  have pl : isPl (f_op U (xS S)).toInt := by unfold isPl; omega
  obtain ⟨nm, no, gg⟩ := pl.f
  have z := tg_188 ho t
  obtain ⟨hA, e85, e86, e39, e40⟩ := i.ar pA.1
  have f92 := i.1.2.1.1.1
  have j36 : w_made_J36 (PlQ S f) A := by
    unfold w_made_J36
    intro D eD
    have fr : frm [43, 44] [47, 48, 49, 50, 51, 52, 53, 54, 98] S D := (i.2.1.mo (by decide) (by decide)).tr ((pA.1.mo (by decide) (by decide)).tr (by rw [eD]; exact frm.pI0 (by decide)))
    have d85 : qI D 0 85 = qI S 0 85 := (fr.2.2.2.2.2 85 (by decide)).1
    refine PlQ.no ⟨⟨i.1.2.1.fm fr (by decide) (by decide), i.1.2.2.1.1.eq d85 (fr.2.2.2.2.2 86 (by decide)).1 (fr.2.2.2.2.1 39 (by decide) (by decide)).1 (fr.2.2.2.2.1 40 (by decide) (by decide)).1, i.1.2.2.1.2.eq f92 (big_frm fr (by decide)) (by rw [d85]; exact Int.le_refl _) (fr.2.2.2.2.1 37 (by decide) (by decide)).2.1⟩, Or.inl ?_⟩
    have : qI D 0 98 = 4 := by rw [eD, qI_wI, if_pos ⟨rfl, rfl⟩]
    rw [this]
    decide
  unfold w_made
  refine ⟨fun c => ⟨fun _ => j36, fun c1 => ⟨fun _ => j36, fun c2 B eB => ?_⟩⟩, fun c => ?_⟩
  · have l20 : (20000 : Int64).toInt = 20000 := by decide
    have s86 : ((qI A 0 86).toInt64 + n.toInt64).toInt = (qI A 0 86).toInt + n.toInt := by
      have := hA.2.1
      have h2 := n.toInt_lt
      rw [tl_add (by rw [tl_of, tl_of]; omega), tl_of, tl_of]
    have le : (qI A 0 86).toInt + n.toInt ≤ 20000 := by
      have y := c_cmp (x := (qI A 0 86).toInt64 + n.toInt64) (y := (20000 : Int64))
      rw [s86, l20] at y
      omega
    have h85 := hA.1
    have h86 := hA.2.1
    have q85 : (qI A 0 85 + (1 : Int32)).toInt = (qI A 0 85).toInt + 1 := by rw [t_add (by rw [li_1]; omega), li_1]
    have B85 : qI B 0 85 = qI A 0 85 + 1 := by rw [eB, qI_wI, if_pos ⟨rfl, rfl⟩]
    have B86 : qI B 0 86 = qI A 0 86 := by rw [eB, qI_wI, if_neg (by decide)]
    rw [B85, q85]
    refine ⟨⟨by omega, by omega⟩, fun C eC => ?_⟩
    have C85 : qI C 0 85 = qI A 0 85 + 1 := by rw [eC, rdH (by decide), B85]
    have C86 : qI C 0 86 = qI A 0 86 := by rw [eC, rdH (by decide), B86]
    rw [C85, q85]
    refine ⟨⟨by omega, by omega⟩, fun D eD E eE => ?_⟩
    have D86 : qI D 0 86 = qI A 0 86 := by rw [eD, rdH (by decide), C86]
    have E85 : qI E 0 85 = qI A 0 85 + 1 := by rw [eE, qI_wI, if_neg (by decide), eD, rdH (by decide), C85]
    have E86 : (qI E 0 86).toInt = (qI A 0 86).toInt + n.toInt := by rw [eE, qI_wI, if_pos ⟨rfl, rfl⟩, D86, t_add (by omega)]
    have fE : frm [39, 40] [85, 86] A E := (show frm [39, 40] [85, 86] A B by rw [eB]; exact frm.pI0 (by decide)).tr ((show frm [39, 40] [85, 86] B C by rw [eC]; exact frm.pI (by decide)).tr ((show frm [39, 40] [85, 86] C D by rw [eD]; exact frm.pI (by decide)).tr (by rw [eE]; exact frm.pI0 (by decide))))
    have E39 : ∀ j : Nat, qI E 39 j = if j = ((qI A 0 85).toInt + 1).toNat then qI A 0 86 else qI A 39 j := fun j => by
      rw [eE, rdH (by decide), eD, rdH (by decide), eC, qI_wI, B86]
      by_cases y : j = ((qI A 0 85).toInt + 1).toNat
      · rw [if_pos ⟨rfl, y⟩, if_pos y]
      · rw [if_neg (fun q => y q.2), if_neg y, eB, rdH (by decide)]
    have E40 : ∀ j : Nat, qI E 40 j = if j = ((qI A 0 85).toInt + 1).toNat then n else qI A 40 j := fun j => by
      rw [eE, rdH (by decide), eD, qI_wI]
      by_cases y : j = ((qI A 0 85).toInt + 1).toNat
      · rw [if_pos ⟨rfl, y⟩, if_pos y]
      · rw [if_neg (fun q => y q.2), if_neg y, eC, rdH (by decide), eB, rdH (by decide)]
    have aE : ArI E := by
      refine ⟨by rw [E85, q85]; omega, by omega, fun k k0 k1 => ?_⟩
      rw [E39, E40]
      rw [E85, q85] at k1
      by_cases y : k = ((qI A 0 85).toInt + 1).toNat
      · rw [if_pos y, if_pos y]; omega
      · rw [if_neg y, if_neg y]
        have := hA.2.2 k k0 (by omega)
        omega
    have nA := b1.mv pA.1
    have E97 : qI E 0 97 = qI A 0 97 := (fE.2.2.2.2.2 97 (by decide)).1
    have bE : FrB E := by unfold FrB; rw [E97]; exact nA.1
    have nE : fN E = fN S := by
      have : fN E = fN A := by unfold fN; rw [E97]
      rw [this, nA.2, b2]
    have A44 : (qI A 44 (fN S).toNat).toInt = (aT a).toInt - 1 := by
      have y := pA.2.1
      unfold fT at y
      rw [nA.2, b2] at y
      rw [y]
      unfold fT at b4
      rw [b2] at b4
      rw [b4]
    have E44 : qI E 44 = qI A 44 := (fE.2.2.2.2.1 44 (by decide) (by decide)).1
    have tE : fT E = (aT a).toInt - 1 := by unfold fT; rw [nE, E44]; exact A44
    have t1 : 1 ≤ (aT a).toInt := by have := hT.1; rw [z.2.1] at this; exact this
    have h24 := hT.2.1
    refine ⟨_, sp_putV bE (Or.inl li_1) ⟨by omega, by rw [li_1]; omega⟩, fun u hu => ?_⟩
    obtain ⟨p1, p2, p3, p4⟩ := hu
    rw [nE] at p2 p3
    rw [tE] at p2
    have bu : FrB u := (bE.mv p1).1
    have nu : fN u = fN S := by rw [(bE.mv p1).2, nE]
    refine PlQ.one bu (fun w G => ?_)
    have fr : frm LcW LcJ S w := (i.2.1.mo (by decide) (by decide)).tr ((pA.1.mo (by decide) (by decide)).tr ((fE.mo (by decide) (by decide)).tr ((p1.mo (by decide) (by decide)).tr (G.1.mo (by decide) (by decide)))))
    have w85 : qI w 0 85 = qI E 0 85 := by rw [(G.1.2.2.2.2.2 85 (by decide)).1, (p1.2.2.2.2.2 85 (by decide)).1]
    have i85 : (qI w 0 85).toInt = (qI S 0 85).toInt + 1 := by rw [w85, E85, q85, e85]
    have w44 : qI w 44 = qI u 44 := (G.1.2.2.2.2.1 44 (by decide) (by decide)).1
    have w45 : qW w 45 = qW S 45 := by rw [fW G.1 (h := 45) (by decide) (by decide) (by decide), fW p1 (h := 45) (by decide) (by decide) (by decide), fW fE (h := 45) (by decide) (by decide) (by decide), fW pA.1 (h := 45) (by decide) (by decide) (by decide), fW i.2.1 (h := 45) (by decide) (by decide) (by decide)]
    have w46 : qW w 46 = qW u 46 := fW G.1 (h := 46) (by decide) (by decide) (by decide)
    have E46 : qW E 46 = qW S 46 := by rw [fW fE (h := 46) (by decide) (by decide) (by decide), fW pA.1 (h := 46) (by decide) (by decide) (by decide), fW i.2.1 (h := 46) (by decide) (by decide) (by decide)]
    have w43 : qI w 43 (fN S).toNat = xS S + 1 := by rw [G.2, nu]; unfold upd; rw [if_pos rfl]
    have u43 : qI u 43 = qI S 43 := by rw [(p1.2.2.2.2.1 43 (by decide) (by decide)).1, (fE.2.2.2.2.1 43 (by decide) (by decide)).1, (pA.1.2.2.2.2.1 43 (by decide) (by decide)).1, (i.2.1.2.2.2.2.1 43 (by decide) (by decide)).1]
    have L : LcP S w := by
      refine ⟨fr, fun j hj => ⟨?_, ?_⟩, fun j hj => ⟨by rw [w45], ?_⟩⟩
      · rw [G.2, nu]; unfold upd; rw [if_neg hj, u43]
      · rw [w44, p3]; unfold upd; rw [if_neg hj, E44, pA.2.2 j (by rw [b2]; exact hj), (i.2.1.2.2.2.2.1 44 (by decide) (by decide)).1]
      · rw [w46, p2, if_neg (by omega), if_neg (fun q => absurd q.1 (by decide)), E46]
    have aw : ArI w := aE.eq w85 (by rw [(G.1.2.2.2.2.2 86 (by decide)).1, (p1.2.2.2.2.2 86 (by decide)).1]) (by rw [(G.1.2.2.2.2.1 39 (by decide) (by decide)).1, (p1.2.2.2.2.1 39 (by decide) (by decide)).1]) (by rw [(G.1.2.2.2.2.1 40 (by decide) (by decide)).1, (p1.2.2.2.2.1 40 (by decide) (by decide)).1])
    have vw : FvI w f := i.1.2.2.1.2.eq f92 (big_frm fr LcW92) (by omega) (by rw [(G.1.2.2.2.2.1 37 (by decide) (by decide)).2.1, (p1.2.2.2.2.1 37 (by decide) (by decide)).2.1, (fE.2.2.2.2.1 37 (by decide) (by decide)).2.1, (pA.1.2.2.2.2.1 37 (by decide) (by decide)).2.1, (i.2.1.2.2.2.2.1 37 (by decide) (by decide)).2.1])
    have nx := i.nx gg
    have tkv := z.2.1
    have gvv := z.2.2
    have pos : 24 * (fN S).toNat + ((aT a).toInt - 1).toNat = (24 * fN S + ((aT a).toInt - 1)).toNat := by omega
    refine i.go L aw vw (by omega) nm (by rw [w43]; exact nx) ?_ (fun k _ _ _ => by unfold slF; rw [w45]) (fun q => absurd (Or.inl q) no.1) (fun q => absurd (Or.inr (Or.inl q)) no.1) (fun q => absurd q no.2) (fun q => absurd (Or.inr (Or.inr q)) no.1) (fun k hk => ?_) (fun j hj => ?_)
    · rw [w44, tkv, gvv]
      unfold fT at p4
      rw [nu] at p4
      rw [p4, nE]
      have : (qI E 44 (fN S).toNat).toInt = (aT a).toInt - 1 := by rw [E44]; exact A44
      rw [this, li_1]
    · unfold plF
      rw [w46, p2, if_neg (by omega), if_neg (fun q => absurd q.1 (by decide)), E46]
    · have ja : qN U (10000028 + 1) = 1 ∧ (qI U (10000028 + 1) 0).toInt = 65 := l1.2.2.2.2.2.2.2.2.2.1
      rw [z.1.2] at hj ⊢
      have j0 : j = 0 := by omega
      subst j0
      have z0 : plc (qI U (10000028 + 1)) 0 = 0 := rfl
      have e : plF w (fN S).toNat ((aT a).toInt - tkV U (xS S) + plc (qI U (10000028 + 1)) 0).toNat = ((qI E 0 85).toInt64, ptT (qI E 0 85).toInt64 1) := by
        rw [z0, tkv, Int.add_zero]
        unfold plF
        rw [w46, p2, if_pos pos]
      have y := aE.1.1
      refine ⟨?_, fun q => absurd q (by have := ja.2; omega)⟩
      rw [e]
      refine gv_l.2.2.1 ja.2 ?_ (ptT_4 (by decide) (by rw [tl_of]; exact y))
      show 0 ≤ (qI E 0 85).toInt64.toInt ∧ (qI E 0 85).toInt64.toInt ≤ (qI w 0 85).toInt
      rw [tl_of, w85]
      omega
  · obtain ⟨Q, x1, x2⟩ := i.th (e := 3) (by decide) pA
    exact ⟨Q, x1, fun w hw => PlQ.no (x2 w hw)⟩
theorem thr_s {r w : Int64} (h : -2147483648 ≤ r.toInt ∧ r.toInt ≤ 0) (hw : w = (-1 : Int64) - r) : w.toInt = -1 - r.toInt := by
  have m1 : (-1 : Int64).toInt = -1 := by decide
  rw [hw, Int64.toInt_sub, m1]
  clear m1 hw
  apply Int.bmod_eq_of_le <;> omega
theorem thr_e {r : Int64} (h : -2147483648 ≤ r.toInt ∧ r.toInt ≤ 0) (nz : ¬ (lg_cmp r 0).toInt = 0) : 0 ≤ (((-1 : Int64) - r).toInt32).toInt := by
  have l0 : (0 : Int64).toInt = 0 := by decide
  have c := c_cmp (x := r) (y := (0 : Int64))
  rw [l0] at c
  clear l0
  have r1 : r.toInt ≤ -1 := by omega
  clear c nz
  obtain ⟨w, hw⟩ : ∃ w : Int64, w = (-1 : Int64) - r := ⟨_, rfl⟩
  have es := thr_s h hw
  rw [← hw]
  clear hw
  rw [tl_to (by omega)]
  omega
theorem InS.onA {S V U : MS} {f s p : Nat} {a : AS} (i : InS S V f U s p a) (ho : (f_op U (xS S)).toInt = 46 ∨ (f_op U (xS S)).toInt = 79 ∨ (f_op U (xS S)).toInt = 188 ∨ (f_op U (xS S)).toInt = 190 ∨ (f_op U (xS S)).toInt = 191) : w_onArrays V (f_op U (xS S)) (PlQ S f) := by
  obtain ⟨b0, b1, b2, b3, b4, L1, b5⟩ := i.v
  obtain ⟨kk, t, hx, st, hT, h0⟩ := i.t
  unfold w_onArrays
  have j65 : ∀ (A : MS) (v : Int32) (d : Int), PpP V d A → 0 ≤ d → d + (if (f_op U (xS S)).toInt = 190 then 1 else 2) = tkV U (xS S) → ((f_op U (xS S)).toInt = 46 ∨ (f_op U (xS S)).toInt = 79 ∨ (f_op U (xS S)).toInt = 190) → w_onArrays_J65 (PlQ S f) A v (f_op U (xS S)) := fun A v d pA d0 ed o => by
    unfold w_onArrays_J65
    refine ⟨fun c => i.j81 o ?_, fun c => ?_⟩
    · rw [if_pos c] at ed
      rw [show tkV U (xS S) - 1 = d by omega]
      exact pA
    · rw [if_neg c] at ed
      refine i.gi pA d0 (by omega) (fun r B pB er => i.j81 o ?_)
      rw [show tkV U (xS S) - 1 = d + 1 by omega]
      exact pB
  refine ⟨fun c => ?_, fun c => ⟨fun c1 => ?_, fun c1 => ⟨fun c2 => ?_, fun c2 => ?_⟩⟩⟩
  · have z := tg_188 c t
    have t1 : 1 ≤ (aT a).toInt := by have := hT.1; rw [z.2.1] at this; exact this
    exact i.gi PpP.rf (by decide) (by omega) (fun r B pB er => ⟨_, i.made c pB, fun _ _ hu => hu⟩)
  · have z := tg_191 c1 t
    have t1 : 1 ≤ (aT a).toInt := by have := hT.1; rw [z.2.1] at this; exact this
    refine ⟨_, sp_pop (n := 1) b1 PpP.rf (by decide) ⟨by decide, by rw [li_1, b4]; omega⟩ (by rw [b4]; exact hT.2.1), ?_⟩
    rintro r B ⟨pB, er⟩
    have nm : ¬ 0 < (f_moved U (f_op U (xS S))).toInt := fun y => by have := mv_iff.mp y; omega
    have v46 : qJ V 46 = qJ S 46 := (i.2.1.2.2.2.2.1 46 (by decide) (by decide)).2.1
    have l1 := tx_l1 t
    have w := (i.wd nm).2 0
    have le : qN U (10000030 + 1) = 1 ∧ (qI U (10000030 + 1) 0).toInt = 69 := l1.2.2.2.2.2.2.2.2.2.2.1
    rw [z.1.1, z.2.1] at w
    have w3 := (w (by rw [le.1]; decide)).2.2.1 le.2
    have z0 : plc (qI U (10000030 + 1)) 0 = 0 := rfl
    rw [z0, Int.add_zero] at w3
    have ee : r = (plF S (fN S).toNat ((aT a).toInt - 1).toNat).1 := by
      rw [er, li_1, b2, b4, v46]
      unfold plF qW
      rw [show (24 * fN S + (aT a).toInt - 0 - 1).toNat = 24 * (fN S).toNat + ((aT a).toInt - 1).toNat by omega]
    rw [← ee] at w3
    refine ⟨fun _ => ?_, fun nz => ?_⟩
    · obtain ⟨Q, x1, x2⟩ := i.th (e := 1) (by decide) pB
      exact ⟨Q, x1, fun w hw => PlQ.no (x2 w hw)⟩
    · have he := thr_e w3 nz
      obtain ⟨Q, x1, x2⟩ := i.th (e := ((-1 : Int64) - r).toInt32) he pB
      exact ⟨Q, x1, fun w hw => PlQ.no (x2 w hw)⟩
  · have z := tg_79 c2 t
    have t1 : 3 ≤ (aT a).toInt := by have := hT.1; rw [z.2.1] at this; exact this
    exact i.gi PpP.rf (by decide) (by omega) (fun r B pB er => j65 B r _ pB (by decide) (by rw [if_neg (by omega), z.2.1]; decide) (by omega))
  · by_cases c3 : (f_op U (xS S)).toInt = 190
    · exact j65 V 0 0 PpP.rf (by decide) (by rw [if_pos c3, (tg_190 c3 t).2.1]; decide) (by omega)
    · have c4 : (f_op U (xS S)).toInt = 46 := by omega
      exact j65 V 0 0 PpP.rf (by decide) (by rw [if_neg c3, (tg_46 c4 t).2.1]; decide) (by omega)
/-! plain, step (behind InS.onA, InS.get, InS.put, InS.mvs, InS.sto, sp_watch) -/
/-- a store, from its steps -/
theorem InS.sto2 {S V U W A D : MS} {f s p : Nat} {a : AS} {n : Int32} {r : Int64} (i : InS S V f U s p a) (ho : isSt (f_op U (xS S))) (kW : frm [47] [] V W) (hW : ∀ j : Nat, qI W 47 j = if j = 24 * (fN S).toNat + (f_first U (xS S)).toInt.toNat then nb (plF S (fN S).toNat ((aT a).toInt - tkV U (xS S)).toNat).2 else if (f_op U (xS S)).toInt = 55 ∧ j = 24 * (fN S).toNat + (f_first U (xS S)).toInt.toNat + 1 then nb (plF S (fN S).toNat ((aT a).toInt - 1).toNat).2 else qI V 47 j) (en : n.toInt = tkV U (xS S)) (pA : PpP W (0 + n.toInt) A) (er : r = qJ W 46 (24 * fN W + fT W - 0 - n.toInt).toNat) (eD : D = wJ A 45 (24 * fN S + (f_first U (xS S)).toInt).toNat r) (hf : 0 ≤ (f_first U (xS S)).toInt) : PlQ S f 1 D := by
  obtain ⟨b0, b1, b2, b3, b4, L1, b5⟩ := i.v
  obtain ⟨kk, t, hx, st, hT, h0⟩ := i.t
  have mW := b1.mv kW
  have W44 : qI W 44 = qI V 44 := (kW.2.2.2.2.1 44 (by decide) (by decide)).1
  have W46 : qJ W 46 = qJ S 46 := by rw [(kW.2.2.2.2.1 46 (by decide) (by decide)).2.1, (i.2.1.2.2.2.2.1 46 (by decide) (by decide)).2.1]
  have tW : fT W = (aT a).toInt := by
    rw [← b4]
    unfold fT
    rw [mW.2, W44]
  have fD : frm [45] [] A D := by rw [eD]; exact frm.pJ (by decide)
  have mA := mW.1.mv pA.1
  have nD := (mA.1.mv fD).2
  have D44 : qI D 44 = qI A 44 := (fD.2.2.2.2.1 44 (by decide) (by decide)).1
  refine i.sto ho ((kW.mo (by decide) (by decide)).tr ((pA.1.mo (by decide) (by decide)).tr (fD.mo (by decide) (by decide)))) ?_ (fun j hj => ?_) (fun j => ?_)
  · have z := pA.2.1
    rw [tW] at z
    unfold fT at z
    show (qI D 44 (fN D).toNat).toInt = _
    rw [nD, D44, z, b4, en]
    omega
  · rw [D44, pA.2.2 j (by rw [mW.2]; exact hj), W44]
  · have dJ : qJ D 45 j = if j = 24 * (fN S).toNat + (f_first U (xS S)).toInt.toNat then (plF S (fN S).toNat ((aT a).toInt - tkV U (xS S)).toNat).1 else qJ V 45 j := by
      rw [eD, qJ_wJ]
      by_cases c : j = 24 * (fN S).toNat + (f_first U (xS S)).toInt.toNat
      · rw [if_pos ⟨rfl, by omega⟩, if_pos c, er, mW.2, b2, tW, W46, en]
        unfold plF qW
        rw [show (24 * fN S + (aT a).toInt - 0 - tkV U (xS S)).toNat = 24 * (fN S).toNat + ((aT a).toInt - tkV U (xS S)).toNat by omega]
      · rw [if_neg (fun q => c (by have := q.2; omega)), if_neg c, (pA.1.2.2.2.2.1 45 (by decide) (by decide)).2.1, (kW.2.2.2.2.1 45 (by decide) (by decide)).2.1]
    have dI : qI D 47 j = qI W 47 j := by rw [eD, qI_wJ, (pA.1.2.2.2.2.1 47 (by decide) (by decide)).1]
    have eq1 : qW D 45 j = (qJ D 45 j, qI D 47 j) := rfl
    have eq2 : qW V 45 j = (qJ V 45 j, qI V 47 j) := rfl
    rw [eq1, eq2, dJ, dI, hW]
    by_cases c : j = 24 * (fN S).toNat + (f_first U (xS S)).toInt.toNat
    · rw [if_pos c, if_pos c, if_pos c]
      rfl
    · rw [if_neg c, if_neg c, if_neg c]
      split <;> rfl
theorem InS.pop12 {S V U : MS} {f s p : Nat} {a : AS} {d : Int32} (i : InS S V f U s p a) (ho : (f_op U (xS S)).toInt = 87 ∧ d.toInt = 1 ∨ (f_op U (xS S)).toInt = 88 ∧ d.toInt = 2) : (((0 : Int) ≤ ((qI V 0 97) - (1 : Int32)).toInt ∧ ((qI V 0 97) - (1 : Int32)).toInt < 60) ∧ (((0 : Int) ≤ ((qI V 0 97) - (1 : Int32)).toInt ∧ ((qI V 0 97) - (1 : Int32)).toInt < 60) ∧ (∀ D, D = wI V 44 ((((qI V 0 97) - (1 : Int32)).toInt).toNat) ((qI V 44 ((((qI V 0 97) - (1 : Int32)).toInt).toNat)) - d) → PlQ S f (1 : Int32) D))) := by
  obtain ⟨b0, b1, b2, b3, b4, L1, b5⟩ := i.v
  obtain ⟨kk, t, hx, st, hT, h0⟩ := i.t
  obtain ⟨y1, y2, y3, y4⟩ := b1.e
  have om : 0 < (f_moved U (f_op U (xS S))).toInt := mv_iff.mpr (by omega)
  have m := mvn (S := U) (op := f_op U (xS S))
  have lf := lfn (S := U) (op := f_op U (xS S))
  have eT : tkV U (xS S) = d.toInt := by
    unfold tkV
    rw [if_pos om]
    rcases ho with q | q
    · rw [m.1 (Or.inl q.1), q.2]
    · rw [m.2 (Or.inl q.1), q.2]
  have eG : gvV U (xS S) = 0 := by
    unfold gvV
    rw [if_pos om]
    exact lf.1 (by omega)
  rw [y1]
  refine ⟨⟨y2, y3⟩, ⟨y2, y3⟩, fun D eD => ?_⟩
  have k : frm [44, 46, 48] [] V D := by rw [eD]; exact frm.pI (by decide)
  have nD := (b1.mv k).2
  have D46 : qW D 46 = qW V 46 := by rw [eD]; exact qW_I (by decide)
  have t0 : (qI V 44 (fN V).toNat).toInt = (aT a).toInt := by unfold fT at b4; exact b4
  refine i.mvs om k ?_ (fun j hj => by rw [eD, qI_wI, if_neg (fun q => hj q.2)]) ?_ (fun j hj => by rw [D46])
  · show (qI D 44 (fN D).toNat).toInt = _
    rw [nD, eD, qI_wI, if_pos ⟨rfl, rfl⟩, t_sub (by omega), t0, eT, eG, b4]
    omega
  · have e : plF D (fN V).toNat = plF V (fN V).toNat := by funext j; unfold plF; rw [D46]
    rw [e]
    exact ⟨fun _ _ _ => rfl, fun _ _ _ => rfl, fun q => by omega, fun q => by omega, fun q => by omega, fun q => by omega⟩
theorem InS.shf {S V U : MS} {f s p : Nat} {a : AS} (i : InS S V f U s p a) (ho : (f_op U (xS S)).toInt = 89 ∨ (f_op U (xS S)).toInt = 90 ∨ (f_op U (xS S)).toInt = 92 ∨ (f_op U (xS S)).toInt = 95) : ∃ Q1, w_shuffle V (f_op U (xS S)) Q1 ∧ ∀ u, Q1 u → PlQ S f 1 u := by
  obtain ⟨b0, b1, b2, b3, b4, L1, b5⟩ := i.v
  obtain ⟨kk, t, hx, st, hT, h0⟩ := i.t
  have om : 0 < (f_moved U (f_op U (xS S))).toInt := mv_iff.mpr (by omega)
  have m := mvn (S := U) (op := f_op U (xS S))
  have lf := lfn (S := U) (op := f_op U (xS S))
  have eT : tkV U (xS S) = (if (f_op U (xS S)).toInt = 89 then 1 else 2) := by
    unfold tkV
    rw [if_pos om]
    by_cases q : (f_op U (xS S)).toInt = 89
    · rw [if_pos q]; exact m.1 (Or.inr q)
    · rw [if_neg q]; exact m.2 (by omega)
  have eG : gvV U (xS S) = (if (f_op U (xS S)).toInt = 90 then 3 else if (f_op U (xS S)).toInt = 92 then 4 else 2) := by
    unfold gvV
    rw [if_pos om]
    by_cases q : (f_op U (xS S)).toInt = 90
    · rw [if_pos q]; exact lf.2.2.1 q
    · rw [if_neg q]
      by_cases q2 : (f_op U (xS S)).toInt = 92
      · rw [if_pos q2]; exact lf.2.2.2 q2
      · rw [if_neg q2]; exact lf.2.1 (by omega)
  have hh : 1 ≤ fT V ∧ ((f_op U (xS S)).toInt = 89 ∨ 2 ≤ fT V) ∧ fT V ≤ 24 ∧ ((f_op U (xS S)).toInt = 92 → fT V ≤ 22) ∧ ((f_op U (xS S)).toInt = 89 ∨ (f_op U (xS S)).toInt = 90 → fT V ≤ 23) := by
    rw [b4]
    obtain ⟨h1, h2, h3⟩ := hT
    rw [eT] at h1 h3
    rw [eG] at h3
    rcases ho with q | q | q | q
    · rw [if_pos q] at h1 h3
      rw [if_neg (by omega), if_neg (by omega)] at h3
      omega
    · rw [if_neg (by omega)] at h1 h3
      rw [if_pos q] at h3
      omega
    · rw [if_neg (by omega)] at h1 h3
      rw [if_neg (by omega), if_pos q] at h3
      omega
    · rw [if_neg (by omega)] at h1 h3
      omega
  refine ⟨_, sp_shuffle b1 ho hh, fun u hu => ?_⟩
  obtain ⟨k, e1, o44, mm, lo⟩ := hu
  refine i.mvs om k ?_ o44 mm lo
  rw [e1, eT, eG]
  rcases ho with q | q | q | q
  · rw [if_pos (Or.inl q), if_pos q, if_neg (by omega), if_neg (by omega)]; omega
  · rw [if_pos (Or.inr q), if_neg (by omega), if_pos q]; omega
  · rw [if_neg (by omega), if_pos q, if_neg (by omega), if_neg (by omega), if_pos q]; omega
  · rw [if_neg (by omega), if_neg (by omega), if_neg (by omega), if_neg (by omega), if_neg (by omega)]; omega
theorem InS.plain {S V U : MS} {f s p : Nat} {a : AS} (i : InS S V f U s p a) (kV : LkI V) (hw : opW (f_op U (xS S)).toInt) (h1 : ¬ isAr (f_op U (xS S)).toInt) (h2 : ¬ ((153 ≤ (f_op U (xS S)).toInt ∧ (f_op U (xS S)).toInt ≤ 167) ∨ (f_op U (xS S)).toInt = 198 ∨ (f_op U (xS S)).toInt = 199)) (h3 : ¬ ((170 ≤ (f_op U (xS S)).toInt ∧ (f_op U (xS S)).toInt ≤ 177) ∨ (f_op U (xS S)).toInt = 184)) : w_plain V (xS S) (f_op U (xS S)) (f_first U (xS S)) (PlQ S f) := by
  obtain ⟨b0, b1, b2, b3, b4, L1, b5⟩ := i.v
  obtain ⟨kk, t, hx, st, hT, h0⟩ := i.t
  have l1 := tx_l1 t
  have lc := i.lc
  have l2 : (2 : Int32).toInt = 2 := by decide
  have v52 : qI V 0 52 = qI U 0 52 := i.2.2.2.2.2.2.2 52 (by decide) (by decide)
  have dV := kV.dop (x := xS S) (by rw [v52]; exact hx)
  have v45 : qJ V 45 = qJ S 45 := (i.2.1.2.2.2.2.1 45 (by decide) (by decide)).2.1
  have v47 : qI V 47 = qI S 47 := (i.2.1.2.2.2.2.1 47 (by decide) (by decide)).1
  have v48 : qI V 48 = qI S 48 := (i.2.1.2.2.2.2.1 48 (by decide) (by decide)).1
  -- one value onto the pile
  have put0 : ∀ v : Int64, tkV U (xS S) = 0 → gvV U (xS S) = 1 → ∃ Q, w_put V v 1 Q ∧ ∀ u, Q u → PuP V (tkV U (xS S)) (gvV U (xS S)) (v, ptT v 1) u := fun v e1 e2 => by
    obtain ⟨Q, x1, x2⟩ := sp_psh (v := v) (n := 1) b1 PpP.rf (Or.inl li_1) ⟨by omega, by rw [li_1]; omega⟩
    exact ⟨Q, x1, fun u hu => by rw [e1, e2]; have z := x2 u hu; rw [li_1] at z; exact z⟩
  have put2 : ∀ (A : MS) (v : Int64) (d : Int), PpP V d A → tkV U (xS S) = d → gvV U (xS S) = 2 → ∃ Q, w_put A v 2 Q ∧ ∀ u, Q u → PuP V (tkV U (xS S)) (gvV U (xS S)) (v, ptT v 2) u := fun A v d pA e1 e2 => by
    obtain ⟨Q, x1, x2⟩ := sp_psh (v := v) (n := 2) b1 pA (Or.inr l2) ⟨by omega, by rw [l2]; omega⟩
    exact ⟨Q, x1, fun u hu => by rw [e1, e2]; have z := x2 u hu; rw [l2] at z; exact z⟩
  have putI : ∀ (A : MS) (v : Int32) (d : Int), PpP V d A → tkV U (xS S) = d → gvV U (xS S) = 1 → ∃ Q, w_putInt A v Q ∧ ∀ u, Q u → PuP V (tkV U (xS S)) (gvV U (xS S)) (v.toInt64, nb 1) u := fun A v d pA e1 e2 => by
    obtain ⟨Q, x1, x2⟩ := sp_psi (v := v) b1 pA ⟨by omega, by omega⟩
    exact ⟨Q, x1, fun u hu => by rw [e1, e2]; exact x2 u hu⟩
  have putT : ∀ (v : Int64) (g : Int32), tkV U (xS S) = 0 → gvV U (xS S) = 1 → ∃ Q, w_putTagged V v g 1 Q ∧ ∀ u, Q u → PuP V (tkV U (xS S)) (gvV U (xS S)) (v, nb g) u := fun v g e1 e2 => by
    obtain ⟨Q, x1, x2⟩ := sp_pst (v := v) (t := g) (n := 1) b1 PpP.rf (Or.inl li_1) ⟨by omega, by rw [li_1]; omega⟩
    exact ⟨Q, x1, fun u hu => by rw [e1, e2]; have z := x2 u hu; rw [li_1] at z; exact z⟩
  have conv : ∀ (n : Int32) (F : MS → Int64 → Int32), (n.toInt = 1 ∨ n.toInt = 2) → tkV U (xS S) = n.toInt → gvV U (xS S) = 1 → f_givesOf U (xS S) = 10000016 → isPl (f_op U (xS S)).toInt → ∃ Q1, w_got V n Q1 ∧ ∀ r A, Q1 r A → (d_turned A (f_op U (xS S)) r ∧ ∃ Q2, w_putInt A (F A r) Q2 ∧ ∀ u, Q2 u → PlQ S f (1 : Int32) u) := fun n F hn e1 e2 e3 pl => by
    refine ⟨_, sp_pop (n := n) b1 PpP.rf (by decide) ⟨by omega, by rw [b4]; omega⟩ (by rw [b4]; exact hT.2.1), ?_⟩
    rintro r A ⟨pA, -⟩
    obtain ⟨Q, x1, x2⟩ := putI A (F A r) _ pA (by omega) e2
    exact ⟨trivial, Q, x1, fun u hu => i.pI pl (x2 u hu) (Or.inl ⟨e3, i64_int _, nb1v⟩)⟩
  have slr : ∀ k : Int32, (0 ≤ k.toInt ∧ k.toInt < 24) → (0 ≤ (f_slot V k).toInt ∧ (f_slot V k).toInt < 1440) ∧ (f_slot V k).toInt.toNat = 24 * (fN S).toNat + k.toInt.toNat := fun k hk => by
    have e := i.slot (W := V) rfl ⟨hk.1, by omega⟩
    omega
  have sv : ∀ k : Int32, (0 ≤ k.toInt ∧ k.toInt < 24) → (qJ V 45 (f_slot V k).toInt.toNat, nb (qI V 47 (f_slot V k).toInt.toNat)) = nW (slF S (fN S).toNat k.toInt.toNat) := fun k hk => by
    rw [(slr k hk).2, v45, v47]
    rfl
  have store : ∀ (n : Int32), isSt (f_op U (xS S)) → tkV U (xS S) = n.toInt → (n.toInt = 1 ∨ n.toInt = 2) → (0 ≤ (f_first U (xS S)).toInt ∧ (f_first U (xS S)).toInt < 24) → ∀ W : MS, frm [47] [] V W → (∀ j : Nat, qI W 47 j = if j = 24 * (fN S).toNat + (f_first U (xS S)).toInt.toNat then nb (plF S (fN S).toNat ((aT a).toInt - tkV U (xS S)).toNat).2 else if (f_op U (xS S)).toInt = 55 ∧ j = 24 * (fN S).toNat + (f_first U (xS S)).toInt.toNat + 1 then nb (plF S (fN S).toNat ((aT a).toInt - 1).toNat).2 else qI V 47 j) → ∃ Q1, w_got W n Q1 ∧ ∀ r A, Q1 r A → (((0 : Int) ≤ (f_slot W (f_first U (xS S))).toInt ∧ (f_slot W (f_first U (xS S))).toInt < 1440) ∧ (∀ D, D = wJ A 45 (((f_slot W (f_first U (xS S))).toInt).toNat) r → PlQ S f (1 : Int32) D)) := fun n o1 e1 hn hf W kW hW => by
    have mW := b1.mv kW
    have tW : fT W = (aT a).toInt := by
      rw [← b4]
      unfold fT
      rw [mW.2, (kW.2.2.2.2.1 44 (by decide) (by decide)).1]
    have e := i.slot (W := W) ((kW.2.2.2.2.2 97 (by decide)).1) ⟨hf.1, by omega⟩
    refine ⟨_, sp_pop (n := n) mW.1 PpP.rf (by decide) ⟨by omega, by rw [tW]; omega⟩ (by rw [tW]; exact hT.2.1), ?_⟩
    rintro r A ⟨pA, er⟩
    rw [e]
    exact ⟨⟨by omega, by omega⟩, fun D eD => i.sto2 o1 kW hW e1.symm pA er eD hf.1⟩
  have tg1 : 1 ≤ (aT a).toInt → f_tagAt V 1 = (plF S (fN S).toNat ((aT a).toInt - 1).toNat).2 := fun q => by
    have y := f_tg (k := 1) b1 ⟨by decide, by rw [li_1, b4]; omega⟩ (by rw [b4]; exact hT.2.1)
    rw [li_1, b2, b4, v48] at y
    rw [y]
    unfold plF qW
    rw [show (24 * fN S + (aT a).toInt - 1).toNat = 24 * (fN S).toNat + ((aT a).toInt - 1).toNat by omega]
  have tg2 : 2 ≤ (aT a).toInt → f_tagAt V 2 = (plF S (fN S).toNat ((aT a).toInt - 2).toNat).2 := fun q => by
    have y := f_tg (k := 2) b1 ⟨by decide, by rw [l2, b4]; omega⟩ (by rw [b4]; exact hT.2.1)
    rw [l2, b2, b4, v48] at y
    rw [y]
    unfold plF qW
    rw [show (24 * fN S + (aT a).toInt - 2).toNat = 24 * (fN S).toNat + ((aT a).toInt - 2).toNat by omega]
  have w1 : ∀ W : MS, W = wI V 47 (f_slot V (f_first U (xS S))).toInt.toNat (vp_nar .byte ((f_tagAt V (1 : Int32)).toInt8.toInt32)) → (0 ≤ (f_first U (xS S)).toInt ∧ (f_first U (xS S)).toInt < 24) → tkV U (xS S) = 1 → 1 ≤ (aT a).toInt → ¬ (f_op U (xS S)).toInt = 55 → ∀ j : Nat, qI W 47 j = if j = 24 * (fN S).toNat + (f_first U (xS S)).toInt.toNat then nb (plF S (fN S).toNat ((aT a).toInt - tkV U (xS S)).toNat).2 else if (f_op U (xS S)).toInt = 55 ∧ j = 24 * (fN S).toNat + (f_first U (xS S)).toInt.toNat + 1 then nb (plF S (fN S).toNat ((aT a).toInt - 1).toNat).2 else qI V 47 j := fun W eW hf e1 t1 n5 j => by
    rw [eW, qI_wI, (slr _ hf).2, nb_8, tg1 t1, e1]
    by_cases c : j = 24 * (fN S).toNat + (f_first U (xS S)).toInt.toNat
    · rw [if_pos ⟨rfl, c⟩, if_pos c]
    · rw [if_neg (fun q => c q.2), if_neg c, if_neg (fun q => n5 q.1)]
  unfold w_plain
  refine ⟨fun c => ?_, fun c0 => ⟨fun c => ?_, fun c1 => ⟨fun c => ?_, fun c18 => ⟨fun c => ?_, fun c20 => ⟨fun c => ?_, fun c21 => ⟨fun c => ?_, fun c22 => ⟨fun c => ?_, fun c25 => ⟨fun c => ?_, fun c54 => ⟨fun c => ?_, fun c55 => ⟨fun c => ?_, fun c58 => ⟨fun c => ?_, fun c87 => ⟨fun c => ?_, fun c88 => ⟨fun c => ?_, fun c89 => ⟨fun c => ?_, fun c90 => ⟨fun c => ?_, fun c92 => ⟨fun c => ?_, fun c95 => ⟨fun c => ?_, fun c132 => ⟨fun c => ?_, fun c133 => ⟨fun c => ?_, fun c136 => ⟨fun c => ?_, fun c145 => ⟨fun c => ?_, fun c146 => ⟨fun c => ?_, fun c147 => ⟨fun c => ?_, fun c178 => ⟨fun c => ?_, fun c179 => ?_⟩⟩⟩⟩⟩⟩⟩⟩⟩⟩⟩⟩⟩⟩⟩⟩⟩⟩⟩⟩⟩⟩⟩⟩
  · have z := tg_0 c t
    exact i.p0 (by unfold isPl; omega) (by rw [z.2.1]; exact PpP.rf) (by rw [z.1.2]; exact l1.2.2.2.2.2.2.2.2.2.2.2.1)
  · have z := tg_1 c t
    obtain ⟨Q, x1, x2⟩ := put0 0 z.2.1 z.2.2
    refine ⟨Q, x1, fun u hu => i.p1 (by unfold isPl; omega) (x2 u hu) (by rw [z.1.2]; exact l1.2.2.2.2.2.2.2.2.2.2.2.2.1) ?_⟩
    have c1 : (qI U (10000034 + 1) 0).toInt = 78 := l1.2.2.2.2.2.2.2.2.2.2.2.2.2
    rw [z.1.2]
    exact gv_l.2.2.2.1 c1 (show (0 : Int64).toInt = 0 by decide) (ptT_6 (by decide) (by decide))
  · have z := tg_18 c t
    obtain ⟨Q, x1, x2⟩ := putI V (f_first U (xS S)) 0 PpP.rf z.2.1 z.2.2
    exact ⟨Q, x1, fun u hu => i.pI (by unfold isPl; omega) (x2 u hu) (Or.inl ⟨z.1.2, i64_int _, nb1v⟩)⟩
  · have z := tg_20 c t
    obtain ⟨Q, x1, x2⟩ := put2 V (f_longOf V (xS S)) 0 PpP.rf z.2.1 z.2.2
    exact ⟨⟨dV.2.1, dV.2.2, trivial⟩, Q, x1, fun u hu => i.pI (by unfold isPl; omega) (x2 u hu) (Or.inr ⟨z.1.2, ptT_2 l2⟩)⟩
  · have z := tg_21 c t
    have hf := lc.1 (Or.inl c)
    have r := slr _ hf
    have pl : isPl (f_op U (xS S)).toInt := by unfold isPl; omega
    obtain ⟨Q, x1, x2⟩ := putT (qJ V 45 (f_slot V (f_first U (xS S))).toInt.toNat) (qI V 47 (f_slot V (f_first U (xS S))).toInt.toNat) z.2.1 z.2.2
    refine ⟨trivial, r.1, trivial, r.1, Q, x1, fun u hu => i.pI pl (x2 u hu) (Or.inl ⟨z.1.2, ?_⟩)⟩
    have a1 := (i.wd pl.f.1).1 (Or.inl c)
    have ok := i.2.2.2.2.1.1 (f_first U (xS S)).toInt.toNat (by omega)
    have e1 : aL a (f_first U (xS S)).toInt.toNat = nb 1 := Int32.toInt_inj.mp (by rw [a1]; decide)
    rw [e1] at ok
    have o2 := ok.nw
    rw [sv _ hf]
    exact ⟨o2.2.2.1 (by decide), o2.t1.1 (by decide)⟩
  · have z := tg_22 c t
    have hf := lc.2 (Or.inl c)
    have r := slr (f_first U (xS S)) ⟨hf.1, by omega⟩
    obtain ⟨Q, x1, x2⟩ := put2 V (qJ V 45 (f_slot V (f_first U (xS S))).toInt.toNat) 0 PpP.rf z.2.1 z.2.2
    exact ⟨trivial, r.1, Q, x1, fun u hu => i.pI (by unfold isPl; omega) (x2 u hu) (Or.inr ⟨z.1.2, ptT_2 l2⟩)⟩
  · have z := tg_25 c t
    have hf := lc.1 (Or.inr (Or.inl c))
    have r := slr _ hf
    obtain ⟨Q, x1, x2⟩ := putT (qJ V 45 (f_slot V (f_first U (xS S))).toInt.toNat) (qI V 47 (f_slot V (f_first U (xS S))).toInt.toNat) z.2.1 z.2.2
    refine ⟨trivial, r.1, trivial, r.1, Q, x1, fun u hu => i.p1 (by unfold isPl; omega) (x2 u hu) (by rw [z.1.2]; exact l1.2.2.2.2.2.2.2.1.1) ?_⟩
    have c1 : (qI U (10000024 + 1) 0).toInt = 82 := l1.2.2.2.2.2.2.2.1.2
    rw [z.1.2]
    refine gv_l.2.2.2.2 c1 ?_
    rw [sv _ hf]
    have ok := i.2.2.2.2.1.1 (f_first U (xS S)).toInt.toNat (by omega)
    unfold thV
    simp only [if_pos c]
    by_cases y : (isTh (aL a (f_first U (xS S)).toInt.toNat)).toInt = 0
    · rw [if_pos y]; exact okV.z0
    · rw [if_neg y]
      rw [← st.1.nb.1 _ (by omega)] at ok
      exact ok.nw
  · have z := tg_54 c t
    have hf := lc.1 (by omega)
    exact ⟨trivial, d_tg b1 ⟨by decide, by rw [li_1, b4]; have := hT.1; omega⟩ (by rw [b4]; exact hT.2.1), (slr _ hf).1, fun W eW => ⟨trivial, store 1 (Or.inl c) (by rw [li_1]; exact z.2.1) (Or.inl li_1) hf W (by rw [eW]; exact frm.pI (by decide)) (w1 W eW hf z.2.1 (by have := hT.1; omega) (by omega))⟩⟩
  · have z := tg_55 c t
    have hf := lc.2 (Or.inr c)
    have hf2 : 0 ≤ (f_first U (xS S)).toInt ∧ (f_first U (xS S)).toInt < 24 := by omega
    have t2 : 2 ≤ (aT a).toInt := by have := hT.1; rw [z.2.1] at this; exact this
    have e1 : (f_first U (xS S) + (1 : Int32)).toInt = (f_first U (xS S)).toInt + 1 := by rw [t_add (by rw [li_1]; omega), li_1]
    refine ⟨trivial, d_tg b1 ⟨by decide, by rw [l2, b4]; omega⟩ (by rw [b4]; exact hT.2.1), (slr _ hf2).1, fun W eW => ?_⟩
    have kW : frm [47] [] V W := by rw [eW]; exact frm.pI (by decide)
    have mW := b1.mv kW
    have tW : fT W = (aT a).toInt := by
      rw [← b4]
      unfold fT
      rw [mW.2, (kW.2.2.2.2.1 44 (by decide) (by decide)).1]
    have e := i.slot (W := W) (k := f_first U (xS S) + 1) ((kW.2.2.2.2.2 97 (by decide)).1) (by omega)
    refine ⟨trivial, d_tg mW.1 ⟨by decide, by rw [li_1, tW]; omega⟩ (by rw [tW]; exact hT.2.1), ⟨by omega, by omega⟩, fun X eX => ⟨trivial, store 2 (Or.inr (Or.inl c)) (by rw [l2]; exact z.2.1) (Or.inr l2) hf2 X (kW.tr (by rw [eX]; exact frm.pI (by decide))) (fun j => ?_)⟩⟩
    have tw : f_tagAt W 1 = f_tagAt V 1 := by
      have w48 : qI W 48 = qI V 48 := (kW.2.2.2.2.1 48 (by decide) (by decide)).1
      have w44 : qI W 44 = qI V 44 := (kW.2.2.2.2.1 44 (by decide) (by decide)).1
      have w97 : qI W 0 97 = qI V 0 97 := (kW.2.2.2.2.2 97 (by decide)).1
      unfold f_tagAt
      rw [w48, w44, w97]
    rw [eX, qI_wI, e, nb_8, tw, tg1 (by omega), eW, qI_wI, (slr _ hf2).2, nb_8, tg2 t2, z.2.1]
    by_cases c2 : j = 24 * (fN S).toNat + (f_first U (xS S)).toInt.toNat
    · rw [if_neg (fun q => by have := q.2; omega), if_pos ⟨rfl, c2⟩, if_pos c2]
    · rw [if_neg c2]
      by_cases c3 : j = 24 * (fN S).toNat + (f_first U (xS S)).toInt.toNat + 1
      · rw [if_pos ⟨rfl, by omega⟩, if_pos ⟨c, c3⟩]
      · rw [if_neg (fun q => c3 (by have := q.2; omega)), if_neg (fun q => c2 q.2), if_neg (fun q => c3 q.2)]
  · have z := tg_58 c t
    have hf := lc.1 (by omega)
    exact ⟨trivial, d_tg b1 ⟨by decide, by rw [li_1, b4]; have := hT.1; omega⟩ (by rw [b4]; exact hT.2.1), (slr _ hf).1, fun W eW => ⟨trivial, store 1 (Or.inr (Or.inr c)) (by rw [li_1]; exact z.2.1) (Or.inl li_1) hf W (by rw [eW]; exact frm.pI (by decide)) (w1 W eW hf z.2.1 (by have := hT.1; omega) (by omega))⟩⟩
  · exact i.pop12 (Or.inl ⟨c, li_1⟩)
  · exact i.pop12 (Or.inr ⟨c, l2⟩)
  · exact i.shf (Or.inl c)
  · exact i.shf (Or.inr (Or.inl c))
  · exact i.shf (Or.inr (Or.inr (Or.inl c)))
  · exact i.shf (Or.inr (Or.inr (Or.inr c)))
  · have hf := lc.1 (by omega)
    have r := slr _ hf
    have e := i.slot (W := V) (k := f_first U (xS S)) rfl ⟨hf.1, by omega⟩
    refine ⟨trivial, trivial, r.1, dV.2.2, r.1, fun D eD => ?_⟩
    rw [e] at eD
    exact i.grow c eD
  · have z := tg_133 c t
    refine ⟨_, sp_pop (n := 1) b1 PpP.rf (by decide) ⟨by decide, by rw [li_1, b4]; have := hT.1; omega⟩ (by rw [b4]; exact hT.2.1), ?_⟩
    rintro r A ⟨pA, -⟩
    rw [li_1] at pA
    obtain ⟨Q, x1, x2⟩ := put2 A (f_turned A (f_op U (xS S)) r) _ pA (by rw [z.2.1]; rfl) z.2.2
    exact ⟨trivial, Q, x1, fun u hu => i.pI (by unfold isPl; omega) (x2 u hu) (Or.inr ⟨z.1.2, ptT_2 l2⟩)⟩
  · have z := tg_136 c t
    exact conv 2 (fun A r => (f_turned A (f_op U (xS S)) r).toInt32) (Or.inr l2) (by rw [l2]; exact z.2.1) z.2.2 z.1.2 (by unfold isPl; omega)
  · have z := tg_145 c t
    exact conv 1 (fun A r => (f_turned A (f_op U (xS S)) r).toInt32) (Or.inl li_1) (by rw [li_1]; exact z.2.1) z.2.2 z.1.2 (by unfold isPl; omega)
  · have z := tg_146 c t
    exact conv 1 (fun A r => (f_turned A (f_op U (xS S)) r).toInt32) (Or.inl li_1) (by rw [li_1]; exact z.2.1) z.2.2 z.1.2 (by unfold isPl; omega)
  · have z := tg_147 c t
    exact conv 1 (fun A r => (f_turned A (f_op U (xS S)) r).toInt32) (Or.inl li_1) (by rw [li_1]; exact z.2.1) z.2.2 z.1.2 (by unfold isPl; omega)
  · exact i.get c
  · exact i.put c
  · refine ⟨_, i.onA ?_, fun _ _ hu => hu⟩
    unfold isAr at h1
    clear slr sv store conv putT putI put2 put0 l1 lc
    unfold opW at hw
    omega
/-! step (behind InS.plain, InS.called, InS.leave, InS.switch, InS.work, InS.jump, sp_watch) -/
theorem McI.ins {S V : MS} {f : Nat} {U : MS} {s p : Nat} {a : AS} (h : McI S f) (k : frm [] [47, 48, 49, 50, 51, 52, 53, 54] S V) (hU : FrU S f (fN S).toNat U s p a) (e : (qI S 44 (fN S).toNat).toInt = (aT a).toInt) (ok : okA (qI S 0 85).toInt a (slF S (fN S).toNat) (plF S (fN S).toNat)) (m : smM U V) : InS S V f U s p a := ⟨h, k, hU, e, ok, m⟩
theorem opW_17 {t : Int} (h : opW t) : ¬ (t = 174 ∨ t = 175) := by
  unfold opW at h
  omega
theorem ty_nb : ∀ n : Fin 7, vp_nar .byte (Int32.ofNat n.val) = Int32.ofNat n.val := by decide +kernel
theorem nb_ty {t : Int32} (h : tyG t) : vp_nar .byte t = t := by
  have z := ty_nb ⟨t.toInt.toNat, by have := h.1; have := h.2; omega⟩
  rw [← ty_of h] at z
  exact z
theorem isOn_iff {r : Int32} : ¬ (isOn r).toInt = 0 ↔ (r.toInt = 1 ∨ r.toInt = 4 ∨ r.toInt = 5 ∨ r.toInt = 6) := by
  have one : ¬ (1 : Int32).toInt = 0 := by decide
  have z0 : (0 : Int32).toInt = 0 := by decide
  unfold isOn isTh
  by_cases c1 : r.toInt = 1
  · rw [if_pos c1]; exact ⟨fun _ => Or.inl c1, fun _ => one⟩
  · rw [if_neg c1]
    by_cases c4 : r.toInt = 4
    · rw [if_pos c4, if_neg one]; exact ⟨fun _ => Or.inr (Or.inl c4), fun _ => one⟩
    · rw [if_neg c4]
      by_cases c5 : r.toInt = 5
      · rw [if_pos c5, if_neg one]; exact ⟨fun _ => Or.inr (Or.inr (Or.inl c5)), fun _ => one⟩
      · rw [if_neg c5]
        by_cases c6 : r.toInt = 6
        · rw [if_pos c6, if_neg one]; exact ⟨fun _ => Or.inr (Or.inr (Or.inr c6)), fun _ => one⟩
        · rw [if_neg c6, if_pos z0]
          exact ⟨fun q => absurd z0 q, fun q => by omega⟩
theorem isTh_iff {r : Int32} : ¬ (isTh r).toInt = 0 → (r.toInt = 4 ∨ r.toInt = 5 ∨ r.toInt = 6) := by
  have z0 : (0 : Int32).toInt = 0 := by decide
  unfold isTh
  by_cases c4 : r.toInt = 4
  · exact fun _ => Or.inl c4
  · rw [if_neg c4]
    by_cases c5 : r.toInt = 5
    · exact fun _ => Or.inr (Or.inl c5)
    · rw [if_neg c5]
      by_cases c6 : r.toInt = 6
      · exact fun _ => Or.inr (Or.inr c6)
      · rw [if_neg c6]; exact fun q => absurd z0 q
theorem mvT.sb {op y x g h : Int32} (m : mvT op y x) (s1 : sbT g y) (s2 : op.toInt = 87 ∨ op.toInt = 89 ∨ sbT h x) : mvT op g h := by
  unfold mvT at m ⊢
  rw [isOn_iff, isOn_iff] at m ⊢
  unfold sbT at s1 s2
  rcases m with ⟨a, b, c⟩ | ⟨a, b⟩
  · exact Or.inl ⟨a, by omega, by omega⟩
  · exact Or.inr ⟨by omega, by omega⟩
theorem F_mv1 {op y x : Int32} {a : AS} : aF (aMv1 op y x a) = aF a := by
  unfold aMv1
  simp only
  by_cases c90 : op.toInt = 90
  · rw [if_pos c90, if_neg (show ¬ op.toInt = 92 by omega), if_pos c90, if_neg (show ¬ op.toInt = 95 by omega), if_neg (show ¬ op.toInt = 92 by omega), if_neg (show ¬ op.toInt = 92 by omega), if_neg (show ¬ op.toInt = 89 by omega)]
    rfl
  · rw [if_neg c90]
    by_cases c95 : op.toInt = 95
    · rw [if_pos c95, if_neg (show ¬ op.toInt = 92 by omega), if_neg c90, if_pos c95, if_pos c95, if_neg (show ¬ op.toInt = 92 by omega), if_neg (show ¬ op.toInt = 92 by omega), if_neg (show ¬ op.toInt = 89 by omega)]
      rfl
    · rw [if_neg c95]
      by_cases c92 : op.toInt = 92
      · rw [if_pos c92, if_neg c95, if_pos c92, if_pos c92]
        rfl
      · rw [if_neg c92, if_neg c90, if_neg c95, if_neg c95, if_neg c92, if_neg c92]
        by_cases c89 : op.toInt = 89
        · rw [if_pos c89]; rfl
        · rw [if_neg c89]; rfl
theorem T_move {op : Int32} {a : AS} (ho : op.toInt = 87 ∨ op.toInt = 88 ∨ op.toInt = 89 ∨ op.toInt = 90 ∨ op.toInt = 92 ∨ op.toInt = 95) (h : ¬ (aF (aMove op a)).toInt = 0) : mvT op (aTop a) (aTop (aPull a)) := by
  have z0 : (0 : Int32).toInt = 0 := by decide
  have key : ∀ (X : Int32) (a1 : AS), (X = if op.toInt = 87 then (1 : Int32) else if op.toInt = 89 then 1 else aTop (aPull a)) → ¬ (aF (aNeed (if (if (op.toInt = 88 ∨ op.toInt = 92) ∧ X.toInt = 2 ∧ (aTop a).toInt = 3 then (1 : Int32) else 0).toInt = 0 then (if (isOn X).toInt = 0 then 0 else if (isOn (aTop a)).toInt = 0 then 0 else 1) else 1) a1)).toInt = 0 → mvT op (aTop a) (aTop (aPull a)) := fun X a1 eX hf => by
    have g := (F_need hf).2
    by_cases w : (op.toInt = 88 ∨ op.toInt = 92) ∧ X.toInt = 2 ∧ (aTop a).toInt = 3
    · rw [if_neg (by omega), if_neg (by omega)] at eX
      rw [eX] at w
      exact Or.inl ⟨w.1, w.2.2, w.2.1⟩
    · rw [if_neg w, if_pos z0] at g
      by_cases q1 : (isOn X).toInt = 0
      · rw [if_pos q1] at g; exact absurd z0 g
      · rw [if_neg q1] at g
        by_cases q2 : (isOn (aTop a)).toInt = 0
        · rw [if_pos q2] at g; exact absurd z0 g
        · refine Or.inr ⟨q2, ?_⟩
          by_cases c87 : op.toInt = 87
          · exact Or.inl c87
          · by_cases c89 : op.toInt = 89
            · exact Or.inr (Or.inl c89)
            · rw [if_neg c87, if_neg c89] at eX
              rw [eX] at q1
              exact Or.inr (Or.inr q1)
  unfold aMove at h
  simp only at h
  by_cases c87 : op.toInt = 87
  · rw [if_pos c87] at h
    exact key _ _ rfl h
  · rw [if_neg c87] at h
    by_cases c88 : op.toInt = 88
    · rw [if_pos c88] at h
      exact key _ _ rfl h
    · rw [if_neg c88, F_mv1] at h
      exact key _ _ rfl h
/-- the tags that a taken letter finds -/
theorem InS.tp {S U : MS} {f s p : Nat} {a : AS} {n : Int} (hU : FrU S f (fN S).toNat U s p a) (ok : okA n a (slF S (fN S).toNat) (plF S (fN S).toNat)) (hm : ¬ 0 < (f_moved U (f_op U (xS S))).toInt) (j : Nat) (hj : j < qN U (f_takesOf U (xS S) + 1)) : tgP (qI U (f_takesOf U (xS S) + 1) j) (plF S (fN S).toNat ((aT a).toInt - tkV U (xS S) + plc (qI U (f_takesOf U (xS S) + 1)) j).toNat).2 (plF S (fN S).toNat ((aT a).toInt - tkV U (xS S) + plc (qI U (f_takesOf U (xS S) + 1)) j + 1).toNat).2 := by
  obtain ⟨g0, g1, g2, g3, g4, g5, g6, g7, g8⟩ := hU
  have g7' : 0 ≤ (xS S).toInt ∧ (xS S).toInt < (qI U 0 52).toInt := g7
  have st : StT U (xS S) p a := g8
  have bt := b_tg g4.1 g7' g4.2.1
  have c := st.2.2.1
  obtain ⟨b, -, -, -, -, -, wd⟩ := wk_dec (p := p) (a := a) g4.1 g4.2.1 g7' ⟨c.1, by omega, by omega⟩ hm
  obtain ⟨-, -, w3⟩ := wd st.2.1
  have w := w3 j hj
  have e : tkV U (xS S) = plc (qI U (f_takesOf U (xS S) + 1)) (qN U (f_takesOf U (xS S) + 1)) := by unfold tkV; rw [if_neg hm]; rfl
  have pj := plc_lt (g := qI U (f_takesOf U (xS S) + 1)) hj
  have p0 := plc_ge (g := qI U (f_takesOf U (xS S) + 1)) j
  have o := (ok.2 ((aT a).toInt - tkV U (xS S) + plc (qI U (f_takesOf U (xS S) + 1)) j).toNat (by omega)).t1
  refine ⟨fun q => o.1 (w.2.1 q), fun q => ?_, fun q => o.2.2.2.1 (w.1 q), fun q => o.2.2.2.2 (w.2.2.1 q), fun q => ?_⟩
  · have w2 := w.2.2.2.2 q
    have pl2 : plc (qI U (f_takesOf U (xS S) + 1)) (j + 1) = plc (qI U (f_takesOf U (xS S) + 1)) j + 2 := by
      show plc (qI U (f_takesOf U (xS S) + 1)) j + (if (qI U (f_takesOf U (xS S) + 1) j).toInt = 74 then (2 : Int) else 1) = _
      rw [if_pos q]
    have pl3 : plc (qI U (f_takesOf U (xS S) + 1)) (j + 1) ≤ plc (qI U (f_takesOf U (xS S) + 1)) (qN U (f_takesOf U (xS S) + 1)) := by
      by_cases y : j + 1 = qN U (f_takesOf U (xS S) + 1)
      · rw [y]; exact Int.le_refl _
      · have := plc_lt (g := qI U (f_takesOf U (xS S) + 1)) (show j + 1 < qN U (f_takesOf U (xS S) + 1) by omega); omega
    have o2 := (ok.2 ((aT a).toInt - tkV U (xS S) + plc (qI U (f_takesOf U (xS S) + 1)) j + 1).toNat (by omega)).t1
    exact ⟨o.2.1 w2.1, o2.2.2.1 w2.2⟩
  · have y := isTh_iff (w.2.2.2.1 q)
    have o4 := o.2.2.2.1
    have o5 := o.2.2.2.2
    omega
theorem sp_step {S : MS} {f : Nat} (h : McI S f) : w_step S (McQ f) := by
  have h' := h
  obtain ⟨b0, ⟨⟨f92, h80⟩, fl, vf, tx, s96⟩, ⟨hA, hF⟩, ⟨U, s, p, a, hU, eT, ok⟩, mid⟩ := h
  obtain ⟨y1, y2, y3, y4⟩ := b0.e
  have o80 : qO S 0 80 = f := by unfold qO; rw [h80]; rfl
  have hU' := hU
  obtain ⟨-, g1, g2, g3, g4, g5, g6, g7, g8⟩ := hU
  unfold w_step
  rw [o80, y1]
  refine ⟨h80, ⟨y2, y3⟩, _, sp_look fl g1, ?_⟩
  rintro A ⟨⟨fA, kA⟩, lo⟩
  have kb := big_frm fA (by decide)
  have mA := hU'.mm kb lo
  have A97 : qI A 0 97 = qI S 0 97 := (fA.2.2.2.2.2 97 (by decide)).1
  have A43 : qI A 43 = qI S 43 := (fA.2.2.2.2.1 43 (by decide) (by decide)).1
  have bA : FrB A := by unfold FrB; rw [A97]; exact b0
  have nA : fN A = fN S := by unfold fN; rw [A97]
  have tA : fT A = (aT a).toInt := by
    unfold fT
    rw [nA, (fA.2.2.2.2.1 44 (by decide) (by decide)).1]
    exact eT
  rw [A97, y1, A43]
  refine ⟨⟨y2, y3⟩, fun x ex => ?_⟩
  have exS : x = xS S := ex
  subst exS
  have st := g8.2.2.1
  have A52 : qI A 0 52 = qI U 0 52 := mA.2.2 52 (by decide) (by decide)
  have tv := (mA.tv g4.1 g4.2.1 (x := xS S) g7).1
  have tv' : tkV A (xS S) = tkV U (qI S 43 (fN S).toNat) := tv
  -- what watch reads
  obtain ⟨St, R, nc, v1, v2, v3, v4, v5, v6, v7, v8⟩ := vf.2.1
  have A51 : qI A 0 51 = qI S (f + 10) (qI S 42 (fN S).toNat).toInt.toNat := lo.2.1
  have hw51 : 0 ≤ (qI A 0 51).toInt ∧ (qI A 0 51).toInt ≤ 28800 ∧ 4 * ((qI A 0 51).toInt + (xS S).toInt) + 4 ≤ (qN A St : Int) := by
    obtain ⟨-, -, -, -, -, R', T, C, nc', ts, cn, r1, r2, r3, r4, r5, r6⟩ := fl
    obtain ⟨-, -, -, mt⟩ := r6 (qI S 42 (fN S).toNat).toInt.toNat (by omega)
    have eR : R = R' := by
      have z := r2.1
      rw [v5] at z
      injection z
    subst eR
    have e1 := r4.1
    have q1 := mt.1
    have q2 := mt.2.2.1
    have q3 : qI A 0 52 = qI S (f + 11) (qI S 42 (fN S).toNat).toInt.toNat := lo.2.2.1
    have q4 : (xS S).toInt < (qI U 0 52).toInt := g7.2
    rw [← A51] at q1 q2
    rw [← q3, A52] at q2
    have eN : qN A St = 4 * nc := by rw [fA.2.1]; exact v4
    rw [eN]
    have r51 := r5.1
    omega
  have s22 : qO S f 22 = St := by unfold qO; rw [v2]; rfl
  have lk := g3.2
  obtain ⟨gT, lk1, lk2⟩ := lk
  have kp := lk2 (xS S).toInt.toNat (by have := g7.2; have : (xS S).toInt < (qI U 0 52).toInt := g7.2; have h0 : 0 ≤ (xS S).toInt := g7.1; omega)
  rw [s22] at kp lk1
  have eA51 : qI A 0 51 = qI U 0 51 := by rw [A51]; exact g3.1.2.1.symm
  have h0x : 0 ≤ (xS S).toInt := g7.1
  have hp : ∀ B : MS, qI A St = qI S St := fun _ => (kb St lk1).1
  have hp := hp S
  have cm := g8.1.2.2
  have wq : (qI S St (4 * ((qI A 0 51).toInt + (xS S).toInt)).toNat).toInt = (aT a).toInt ∧ (∀ k : Nat, k < 3 → qI S St ((4 * ((qI A 0 51).toInt + (xS S).toInt)).toNat + 1 + k) = pkW (fun j => qI U 23 (48 * (xS S).toInt.toNat + (8 * k + j))) 8) := by
    obtain ⟨k1, k2, k3⟩ := kp
    rw [eA51] at hw51 ⊢
    have e4 : (4 * ((qI U 0 51).toInt + (xS S).toInt)).toNat = 4 * ((qI U 0 51).toInt.toNat + (xS S).toInt.toNat) := by omega
    rw [e4]
    refine ⟨?_, fun k hk => ?_⟩
    · have y := k2 g8.2.2.2.2.2.2
      rw [y]
      exact cm.symm
    · rw [k3 k hk]
      have : (fun j => qI U 23 (48 * (xS S).toInt.toNat + 8 * k + j)) = (fun j => qI U 23 (48 * (xS S).toInt.toNat + (8 * k + j))) := by funext j; rw [Nat.add_assoc]
      rw [this]
  have okA1 := ok.1
  have okA2 := ok.2
  have nbs := g8.1.nb
  have a48 : qI A 48 = qI S 48 := (fA.2.2.2.2.1 48 (by decide) (by decide)).1
  have oA := (mA.op g4.1 (xS S)).1
  have mvA : ∀ o : Int32, f_moved A o = f_moved U o := fun o => rfl
  refine ⟨_, sp_watch kA (tx.fm fA (by decide)) bA (by rw [A52]; exact g7) ⟨by rw [tv', tA]; exact st.1, by rw [tA]; omega⟩ (f := f) (St := St) (by rw [(fA.2.2.2.2.2 80 (by decide)).2.2]; exact h80) (by rw [(kb f f92).2.2.1]; exact v2) hw51 (by rw [hp, tA]; exact wq.1) (g := fun k => qI U 23 (48 * (xS S).toInt.toNat + k)) (fun k _ => by have := gT (48 * (xS S).toInt.toNat + k); unfold tyG at this; omega) (fun k hk => by rw [hp]; exact wq.2 k hk) (fun k hk => ?_) (fun hm => ?_) (fun hm => ?_), fun V eV => ?_⟩
  rotate_left 3
  have fV : frm [] [] A V := by rw [eV]; exact frm.rf
  have k : frm [] [47, 48, 49, 50, 51, 52, 53, 54] S V := (fA.mo (by decide) (by decide)).tr (fV.mo (by decide) (by decide))
  have mV := mA.fm fV (by decide) (by decide)
  have kV : LkI V := kA.mv (smL.fm fV (by decide) (by decide))
  have i : InS S V f U s p a := h'.ins k hU' eT ok mV
  have V52 : qI V 0 52 = qI U 0 52 := mV.2.2 52 (by decide) (by decide)
  have dV := kV.dop (x := xS S) (by rw [V52]; exact g7)
  obtain ⟨T', ts', N', L', rv⟩ := hU'.rv fl
  have rv' : opW (f_op U (xS S)).toInt := rv.1
  have dj : ∀ o : Int32, d_isJump V o ∧ d_isSwitch V o := fun o => by
    unfold d_isJump d_isJump_J14 d_isJump_J28 d_isSwitch d_isSwitch_J14
    simp only [ite_self]
    exact ⟨trivial, trivial⟩
  have hq : ∀ w, McQ f w → McQ f w := fun _ hw => hw
  have j78 : (f_isJump V (f_op V (xS S))).toInt = 0 → ¬ (96 ≤ (f_op U (xS S)).toInt ∧ (f_op U (xS S)).toInt ≤ 131) → w_step_J78 (McQ f) V (xS S) (f_op V (xS S)) (f_first V (xS S)) := fun nj na => by
    have nj2 : ¬ ((153 ≤ (f_op U (xS S)).toInt ∧ (f_op U (xS S)).toInt ≤ 167) ∨ (f_op U (xS S)).toInt = 198 ∨ (f_op U (xS S)).toInt = 199) := fun q => by
      rw [(i.op _).1] at nj
      have := jp_1 (S := V) (o := f_op U (xS S)) q
      omega
    have eo := (i.op (xS S)).1
    unfold w_step_J78
    refine ⟨fun c => i.work (by rw [eo] at c; exact Or.inr c) hq, fun c => ⟨(dj _).2, fun c1 => ⟨fun c2 => i.leave (by rw [eo] at c2; omega) hq, fun c2 => ⟨fun c3 => i.leave (by rw [eo] at c3; omega) hq, fun c3 => ⟨fun c4 => i.leave (by rw [eo] at c4; omega) hq, fun c4 => ⟨fun c5 => i.leave (by rw [eo] at c5; omega) hq, fun c5 => ⟨fun c6 => i.called (by rw [eo] at c6; exact c6) hq, fun c6 => ?_⟩⟩⟩⟩⟩, fun c1 => ?_⟩⟩
    · rw [eo] at c c2 c3 c4 c5 c6
      rw [eo, (i.op (xS S)).2.1]
      have sw : ¬ ((f_op U (xS S)).toInt = 170 ∨ (f_op U (xS S)).toInt = 171) := fun q => by
        rw [eo] at c1
        unfold f_isSwitch f_isSwitch_J14 at c1
        rcases q with q | q
        · rw [if_pos q] at c1; exact absurd c1 (by decide)
        · rw [if_neg (by omega), if_pos q] at c1; exact absurd c1 (by decide)
      refine ⟨_, i.plain kV rv' (by unfold isAr; omega) nj2 (fun q => ?_), fun r u hu => ⟨fun z => hu.1 z, fun z => ?_⟩⟩
      · have : (f_op U (xS S)).toInt = 174 ∨ (f_op U (xS S)).toInt = 175 := by omega
        exact opW_17 rv' this
      · obtain ⟨bu, hg⟩ := hu.2 z
        exact ⟨_, sp_goTo bu, fun w hw => (hg w hw).q⟩
    · have sw : (f_op U (xS S)).toInt = 170 ∨ (f_op U (xS S)).toInt = 171 := by
        rw [eo] at c1
        unfold f_isSwitch f_isSwitch_J14 at c1
        by_cases q : (f_op U (xS S)).toInt = 170
        · exact Or.inl q
        · rw [if_neg q] at c1
          by_cases q2 : (f_op U (xS S)).toInt = 171
          · exact Or.inr q2
          · rw [if_neg q2] at c1; exact absurd rfl c1
      exact i.switch kV sw hq
  refine ⟨dV.1, fun o eo => ⟨dV.2.1, fun a1 e1 => ⟨(dj _).1, fun c => ⟨fun c1 => ?_, fun c1 => ⟨fun c2 => ?_, fun c2 => ?_⟩⟩, fun c => ?_⟩⟩⟩
  · subst eo
    subst e1
    rw [(i.op _).1] at c1
    exact j78 c (by omega)
  · subst eo
    rw [(i.op _).1] at c1 c2
    exact i.work (Or.inl ⟨by omega, c2⟩) hq
  · subst eo
    subst e1
    rw [(i.op _).1] at c2
    exact j78 c (by omega)
  · subst eo
    subst e1
    exact i.jump c
  · have y := okA1 k hk
    have e := g8.1.1 k hk
    have e' : aL a k = vp_nar .byte (qI U 23 (48 * (xS S).toInt.toNat + k)) := e
    rw [e', nb_ty (gT _)] at y
    have a47 : qI A 47 = qI S 47 := (fA.2.2.2.2.1 47 (by decide) (by decide)).1
    rw [a47, nA]
    exact y.2.2.2.2
  · rw [oA] at hm ⊢
    have hmU : 0 < (f_moved U (f_op U (xS S))).toInt := hm
    have o := mv_iff.mp hmU
    have eT2 : tkV U (xS S) = (f_moved U (f_op U (xS S))).toInt := by unfold tkV; rw [if_pos hmU]
    have m := mvn (S := U) (op := f_op U (xS S))
    have ew : wkV U (xS S) p a = aMove (f_op U (xS S)) (aL a, aP a, aT a, 1) := by
      unfold wkV aWork
      simp only
      rw [if_pos o]
    have fq : ¬ (aF (wkV U (xS S) p a)).toInt = 0 := g8.2.1
    rw [ew] at fq
    have mt := T_move o fq
    have st1 : tkV U (xS S) ≤ (aT a).toInt := st.1
    have t24 : (aT a).toInt ≤ 24 := by omega
    have y1 : aTop ((aL a, aP a, aT a, 1) : AS) = aP a ((aT a).toInt - 1).toNat := by
      show aP a (aT a - (1 : Int32)).toInt.toNat = _
      rw [show (aT a - (1 : Int32)).toInt = (aT a).toInt - 1 by rw [t_sub (by rw [li_1]; omega), li_1]]
    have x1 : 2 ≤ (aT a).toInt → aTop (aPull ((aL a, aP a, aT a, 1) : AS)) = aP a ((aT a).toInt - 2).toNat := fun q => by
      show aP a (aT a - (1 : Int32) - (1 : Int32)).toInt.toNat = _
      have e1 : (aT a - (1 : Int32)).toInt = (aT a).toInt - 1 := by rw [t_sub (by rw [li_1]; omega), li_1]
      rw [show (aT a - (1 : Int32) - (1 : Int32)).toInt = (aT a).toInt - 2 by rw [t_sub (by rw [e1, li_1]; omega), e1, li_1]; omega]
    rw [y1] at mt
    have T1 : 1 ≤ (aT a).toInt := by omega
    have s1 := (okA2 ((aT a).toInt - 1).toNat (by omega)).2.2.2.2
    rw [nA, tA, a48]
    have r1 : qI S 48 (24 * fN S + (aT a).toInt - 1).toNat = (plF S (fN S).toNat ((aT a).toInt - 1).toNat).2 := by
      unfold plF qW
      rw [show (24 * fN S + (aT a).toInt - 1).toNat = 24 * (fN S).toNat + ((aT a).toInt - 1).toNat by omega]
    rw [r1]
    refine mt.sb s1 ?_
    by_cases c : (f_op U (xS S)).toInt = 87 ∨ (f_op U (xS S)).toInt = 89
    · omega
    · have m2 := m.2 (by omega)
      have T2 : 2 ≤ (aT a).toInt := by omega
      have s2 := (okA2 ((aT a).toInt - 2).toNat (by omega)).2.2.2.2
      rw [x1 T2]
      have r2 : qI S 48 (24 * fN S + (aT a).toInt - 2).toNat = (plF S (fN S).toNat ((aT a).toInt - 2).toNat).2 := by
        unfold plF qW
        rw [show (24 * fN S + (aT a).toInt - 2).toNat = 24 * (fN S).toNat + ((aT a).toInt - 2).toNat by omega]
      rw [r2]
      exact Or.inr (Or.inr s2)
  · rw [oA] at hm
    have hmU : ¬ 0 < (f_moved U (f_op U (xS S))).toInt := hm
    have tgA := (mA.tg g4.1 (xS S)).1
    have okt := (g4.1.tk g7 g4.2.1).1
    have sU := mA.1.1 _ okt
    have st1 : tkV U (xS S) ≤ (aT a).toInt := st.1
    have e1 : qI A (f_takesOf U (xS S) + 1) = qI U (f_takesOf U (xS S) + 1) := sU.1
    have e2 : qN A (f_takesOf U (xS S) + 1) = qN U (f_takesOf U (xS S) + 1) := sU.2.2.2.2
    have tk0 : 0 ≤ tkV U (xS S) := (b_tg g4.1 g7 g4.2.1).1.1
    rw [tgA, e1, e2, tv, nA, tA, a48]
    intro j hj
    have z := InS.tp hU' ok hmU j hj
    have p0 := plc_ge (g := qI U (f_takesOf U (xS S) + 1)) j
    have r1 : qI S 48 (24 * fN S + (aT a).toInt - tkV U (xS S) + plc (qI U (f_takesOf U (xS S) + 1)) j).toNat = (plF S (fN S).toNat ((aT a).toInt - tkV U (xS S) + plc (qI U (f_takesOf U (xS S) + 1)) j).toNat).2 := by
      unfold plF qW
      rw [show (24 * fN S + (aT a).toInt - tkV U (xS S) + plc (qI U (f_takesOf U (xS S) + 1)) j).toNat = 24 * (fN S).toNat + ((aT a).toInt - tkV U (xS S) + plc (qI U (f_takesOf U (xS S) + 1)) j).toNat by omega]
    have r2 : qI S 48 (24 * fN S + (aT a).toInt - tkV U (xS S) + plc (qI U (f_takesOf U (xS S) + 1)) j + 1).toNat = (plF S (fN S).toNat ((aT a).toInt - tkV U (xS S) + plc (qI U (f_takesOf U (xS S) + 1)) j + 1).toNat).2 := by
      unfold plF qW
      rw [show (24 * fN S + (aT a).toInt - tkV U (xS S) + plc (qI U (f_takesOf U (xS S) + 1)) j + 1).toNat = 24 * (fN S).toNat + ((aT a).toInt - tkV U (xS S) + plc (qI U (f_takesOf U (xS S) + 1)) j + 1).toNat by omega]
    rw [r1, r2]
    exact z
