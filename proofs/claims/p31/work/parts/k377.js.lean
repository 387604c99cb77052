/-! jumps, switches, arithmetic (behind InS.pp, InS.pu, tg_jump, tg_ar, sp_jump, sp_chosen, sp_workOne) -/
theorem smM.fm {U V A : MS} {W J : List Nat} (h : smM U V) (k : frm W J V A) (hW : ∀ w ∈ W, w ≤ 92) (hJ : ∀ j ∈ J, j < 47 ∨ 54 < j) : smM U A := by
  have kb := big_frm k hW
  obtain ⟨⟨h1, h2⟩, h3, h4⟩ := h
  refine ⟨⟨fun a ha => (h1 a ha).s (kb a ha.1), fun a ha hq => ?_⟩, fun j a b => ?_, fun j a b => ?_⟩
  · have z := h2 a ha hq
    have q := kb a ha
    exact ⟨fun j hj => by rw [q.1]; exact z.1 j hj, fun j hj => by rw [q.2.2.1]; exact z.2.1 j hj, by rw [q.2.2.2.1]; exact z.2.2.1, by rw [q.2.2.2.2]; exact z.2.2.2⟩
  · rw [(k.2.2.2.2.2 j (fun z => by have := hJ j z; omega)).2.2]; exact h3 j a b
  · rw [(k.2.2.2.2.2 j (fun z => by have := hJ j z; omega)).1]; exact h4 j a b
theorem jp_op {S : MS} {o : Int32} (h : ¬ (f_isJump S o).toInt = 0) : (153 ≤ o.toInt ∧ o.toInt ≤ 167) ∨ o.toInt = 198 ∨ o.toInt = 199 := by
  unfold f_isJump f_isJump_J14 f_isJump_J28 at h
  by_cases c1 : o.toInt < 153
  · rw [if_pos c1] at h
    by_cases c2 : o.toInt = 198
    · exact Or.inr (Or.inl c2)
    · rw [if_neg c2] at h
      by_cases c3 : o.toInt = 199
      · exact Or.inr (Or.inr c3)
      · rw [if_neg c3] at h; exact absurd rfl h
  · rw [if_neg c1] at h
    by_cases c4 : o.toInt ≤ 167
    · exact Or.inl ⟨by omega, c4⟩
    · rw [if_neg c4] at h
      by_cases c2 : o.toInt = 198
      · exact Or.inr (Or.inl c2)
      · rw [if_neg c2] at h
        by_cases c3 : o.toInt = 199
        · exact Or.inr (Or.inr c3)
        · rw [if_neg c3] at h; exact absurd rfl h
theorem jp_1 {S : MS} {o : Int32} (h : (153 ≤ o.toInt ∧ o.toInt ≤ 167) ∨ o.toInt = 198 ∨ o.toInt = 199) : (f_isJump S o).toInt = 1 := by
  unfold f_isJump f_isJump_J14 f_isJump_J28
  by_cases c1 : o.toInt < 153
  · omega
  · rw [if_neg c1]
    by_cases c4 : o.toInt ≤ 167
    · rw [if_pos c4]; rfl
    · rw [if_neg c4]
      by_cases c2 : o.toInt = 198
      · rw [if_pos c2]; rfl
      · rw [if_neg c2, if_pos (by omega)]; rfl
/-- values are taken and the frame goes on, in one -/
theorem InS.pj {S V U w : MS} {f s p : Nat} {a : AS} {y : Int32} (i : InS S V f U s p a) (hm : ¬ 0 < (f_moved U (f_op U (xS S))).toInt) (no : ¬ isSt (f_op U (xS S)) ∧ ¬ (f_op U (xS S)).toInt = 132) (k : frm [43, 44] [] V w) (eT : fT w = fT V - tkV U (xS S)) (o44 : ∀ j : Nat, j ≠ (fN V).toNat → qI w 44 j = qI V 44 j) (e43 : qI w 43 = upd (qI V 43) (fN V).toNat y) (hn : NxP S U p a y) (g0 : qN U (f_givesOf U (xS S) + 1) = 0) : McI w f := by
  obtain ⟨b0, b1, b2, b3, b4, L1, b5⟩ := i.v
  obtain ⟨kk, t, hx, st, hT, h0⟩ := i.t
  have L2 : LcP V w := ⟨k.mo (by decide) (by decide), fun j hj => ⟨by rw [e43]; unfold upd; rw [if_neg hj], o44 j hj⟩, fun j _ => ⟨by rw [fW k (h := 45) (by decide) (by decide) (by decide)], by rw [fW k (h := 46) (by decide) (by decide) (by decide)]⟩⟩
  have L := L1.tr L2
  have eu : fN w = fN S := by rw [L2.n.1, b2]
  have fr : frm [43, 44, 45, 46, 47, 48] [47, 48, 49, 50, 51, 52, 53, 54] S w := (i.2.1.mo (by decide) (by decide)).tr (k.mo (by decide) (by decide))
  obtain ⟨hA, hF, e85⟩ := i.af fr
  have gv0 : gvV U (xS S) = 0 := by
    unfold gvV plS
    rw [if_neg hm, g0]
    rfl
  have e43' : qI w 43 (fN S).toNat = y := by rw [e43, b2]; unfold upd; rw [if_pos rfl]
  have e45 : qW w 45 = qW S 45 := by rw [fW k (h := 45) (by decide) (by decide) (by decide), fW i.2.1 (h := 45) (by decide) (by decide) (by decide)]
  have e46 : qW w 46 = qW S 46 := by rw [fW k (h := 46) (by decide) (by decide) (by decide), fW i.2.1 (h := 46) (by decide) (by decide) (by decide)]
  refine i.go L hA hF (by rw [e85]; exact Int.le_refl _) hm (by rw [e43']; exact hn) ?_ (fun k _ _ _ => by unfold slF; rw [e45]) (fun q => absurd (Or.inl q) no.1) (fun q => absurd (Or.inr (Or.inl q)) no.1) (fun q => absurd q no.2) (fun q => absurd (Or.inr (Or.inr q)) no.1) (fun k hk => by unfold plF; rw [e46]) (fun j hj => by omega)
  rw [b4] at eT
  unfold fT at eT
  rw [eu] at eT
  rw [eT, gv0]
  omega
theorem InS.jump {S V U : MS} {f s p : Nat} {a : AS} (i : InS S V f U s p a) (hj : ¬ (f_isJump V (f_op V (xS S))).toInt = 0) : ∃ Q, w_jump V (xS S) (f_op V (xS S)) (f_first V (xS S)) Q ∧ ∀ w, Q w → McQ f w := by
  obtain ⟨b0, b1, b2, b3, b4, L1, b5⟩ := i.v
  obtain ⟨kk, t, hx, st, hT, h0⟩ := i.t
  have o := jp_op hj
  rw [(i.op _).1] at o
  obtain ⟨t1, t2⟩ := tg_jump t o
  have l1 := tx_l1 t
  have g0 : qN U (f_givesOf U (xS S) + 1) = 0 := by rw [t2]; exact l1.2.2.2.2.2.2.2.2.2.2.2.1
  have nm : ¬ 0 < (f_moved U (f_op U (xS S))).toInt := fun z => by have := mv_iff.mp z; omega
  have no : ¬ isSt (f_op U (xS S)) ∧ ¬ (f_op U (xS S)).toInt = 132 := by unfold isSt; omega
  rw [(i.op _).1, (i.op _).2.1]
  refine ⟨_, sp_jump b1 ⟨by rw [← t1, b4]; exact hT.1, by rw [b4]; exact hT.2.1⟩, ?_⟩
  rintro w ⟨k, eT, o44, hg⟩
  rw [← t1] at eT
  have j1 := jp_1 (S := U) o
  have ew : (f_ways U (xS S)).toInt = 1 := by
    unfold f_ways
    rw [if_neg (by rw [j1]; decide)]
    rfl
  have ef : f_way U (xS S) 0 = f_first U (xS S) := by
    unfold f_way
    rw [if_neg (by rw [j1]; decide)]
  rcases hg with q | ⟨q1, q⟩
  · refine (i.pj nm no k eT o44 q ?_ g0).q
    have := i.wy (k := 0) (by decide) (by rw [ew]; decide)
    rw [ef] at this
    exact this
  · refine (i.pj nm no k eT o44 q (i.nx (go_on ?_)) g0).q
    omega
theorem InS.switch {S V U : MS} {f s p : Nat} {a : AS} {Q : MS → Prop} (i : InS S V f U s p a) (kV : LkI V) (ho : (f_op U (xS S)).toInt = 170 ∨ (f_op U (xS S)).toInt = 171) (hQ : ∀ w, McQ f w → Q w) : ∃ Q62, w_gotInt V Q62 ∧ ∀ r63 S64, Q62 r63 S64 → (∃ Q66, w_chosen S64 (xS S) r63 Q66 ∧ ∀ r67 S68, Q66 r67 S68 → (∃ Q70, w_goTo S68 r67 Q70 ∧ ∀ S71, Q70 S71 → Q S71)) := by
  obtain ⟨b0, b1, b2, b3, b4, L1, b5⟩ := i.v
  obtain ⟨kk, t, hx, st, hT, h0⟩ := i.t
  have tt : tkV U (xS S) = 1 ∧ f_givesOf U (xS S) = 10000032 := by
    rcases ho with q | q
    · have z := tg_170 q t; exact ⟨z.2.1, z.1.2⟩
    · have z := tg_171 q t; exact ⟨z.2.1, z.1.2⟩
  obtain ⟨t1, t2⟩ := tt
  have l1 := tx_l1 t
  have g0 : qN U (f_givesOf U (xS S) + 1) = 0 := by rw [t2]; exact l1.2.2.2.2.2.2.2.2.2.2.2.1
  have nm : ¬ 0 < (f_moved U (f_op U (xS S))).toInt := fun z => by have := mv_iff.mp z; omega
  have no : ¬ isSt (f_op U (xS S)) ∧ ¬ (f_op U (xS S)).toInt = 132 := by unfold isSt; omega
  refine ⟨fun _ u => PpP V 1 u, ?_, fun r A pA => ?_⟩
  · unfold w_gotInt
    refine ⟨_, sp_pop (n := 1) b1 PpP.rf (by decide) ⟨by decide, by rw [li_1]; omega⟩ (by omega), fun r u hu => ?_⟩
    have z := hu.1
    rw [li_1] at z
    exact z
  · have mA := i.2.2.2.2.2.fm pA.1 (by decide) (fun j hj => absurd hj (by simp))
    have kA : LkI A := kV.mv (smL.fm pA.1 (by decide) (fun j hj => absurd hj (by simp)))
    have oA := (mA.op kk (xS S)).1
    have wA := fun c => mA.wy kk (xS S) c
    have cA : qI A 0 52 = qI U 0 52 := mA.2.2 52 (by decide) (by decide)
    refine ⟨_, sp_chosen kA (by rw [cA]; exact hx) (by rw [oA]; exact ho), ?_⟩
    rintro y B ⟨eB, k, k0, k1, ey⟩
    subst eB
    rw [(wA 0).1] at k1
    rw [(wA k).2] at ey
    refine ⟨_, sp_goTo (b1.mv pA.1).1, fun w hw => hQ w ?_⟩
    rw [ey] at hw
    exact (i.pp nm no (by rw [t1]; exact pA) hw (i.wy k0 k1) g0).q
theorem opW_ar {t : Int} (h : opW t) (k : 96 ≤ t ∧ t ≤ 131 ∨ t = 148) : (96 ≤ t ∧ t ≤ 119 ∧ t % 4 < 2) ∨ (120 ≤ t ∧ t ≤ 131) ∨ t = 148 := by
  by_cases c : 120 ≤ t
  · omega
  · unfold opW at h
    omega
theorem InS.work {S V U : MS} {f s p : Nat} {a : AS} {Q : MS → Prop} (i : InS S V f U s p a) (ho : isAr (f_op U (xS S)).toInt) (hQ : ∀ w, McQ f w → Q w) : w_step_J85 Q V (xS S) (f_op V (xS S)) := by
  obtain ⟨b0, b1, b2, b3, b4, L1, b5⟩ := i.v
  obtain ⟨kk, t, hx, st, hT, h0⟩ := i.t
  obtain ⟨_, _, _, _, _, _, rv, -, -⟩ := kk.rv hx
  obtain ⟨t1, t2, t3⟩ := tg_ar t (opW_ar rv.1 ho)
  have l1 := tx_l1 t
  have nm : ¬ 0 < (f_moved U (f_op U (xS S))).toInt := fun z => by have := mv_iff.mp z; unfold isAr at ho; omega
  have no : ¬ isSt (f_op U (xS S)) ∧ ¬ (f_op U (xS S)).toInt = 132 := by unfold isSt; unfold isAr at ho; omega
  have v46 : qJ V 46 = qJ S 46 := (i.2.1.2.2.2.2.1 46 (by decide) (by decide)).2.1
  rw [(i.op _).1]
  unfold w_step_J85
  refine ⟨_, sp_workOne (Qt := McQ f) b1 ho ⟨by rw [← t1, b4]; exact hT.1, by rw [b4]; exact hT.2.1⟩ (fun q => ?_) (fun u pu => i.th (by decide) pu), fun r u hu => ⟨fun c => hQ u (hu.1 c), fun c => ?_⟩⟩
  · obtain ⟨b, -, -, -, -, -, wd⟩ := wk_dec (p := p) (a := a) kk t hx ⟨hT.1, hT.2.1, by omega⟩ nm
    have w3 := (wd st.2.1).2.2
    have tk2 : f_takesOf U (xS S) = 10000010 ∧ tkV U (xS S) = 2 := by
      rcases q with q | q
      · have z := tg_108 q t; exact ⟨z.1.1, z.2.1⟩
      · have z := tg_112 q t; exact ⟨z.1.1, z.2.1⟩
    rw [tk2.1, tk2.2] at w3
    have n2 : qN U 10000011 = 2 ∧ (qI U 10000011 0).toInt = 73 ∧ (qI U 10000011 1).toInt = 73 := l1.1
    have w4 := (w3 1 (by rw [n2.1]; decide)).2.1 n2.2.2
    have pc : plc (qI U 10000011) 1 = 1 := by
      show 0 + (if (qI U 10000011 0).toInt = 74 then (2 : Int) else 1) = 1
      rw [n2.2.1]; decide
    have pc' : plc (qI U (10000010 + 1)) 1 = 1 := pc
    rw [pc'] at w4
    have tl : 2 ≤ (aT a).toInt := by rw [tk2.2] at hT; exact hT.1
    have ok := i.2.2.2.2.1.2 ((aT a).toInt - 2 + 1).toNat (by omega)
    have o1 := ok.2.2.1 w4
    unfold plF at o1
    rw [b2, b4, v46, show (24 * fN S + (aT a).toInt - 1).toNat = 24 * (fN S).toNat + ((aT a).toInt - 2 + 1).toNat by omega]
    exact o1
  · obtain ⟨v, P, hv⟩ := hu.2 c
    rw [← t1, ← t2] at P
    have g := go_on (S := U) (o := f_op U (xS S)) (by unfold isAr at ho; omega)
    have bu : FrB u := (LcP.pu P (by rw [b4]; exact hT.1)).b b1
    refine ⟨_, sp_goTo bu, fun w hw => hQ w ?_⟩
    refine (i.pu nm no P hw (i.nx g) ?_ ?_).q
    · rw [t3]
      split
      · exact l1.2.2.2.1.1
      · exact l1.2.2.2.2.2.2.1.1
    · rw [t3]
      split
      · rename_i g1
        have c1 : (qI U (10000016 + 1) 0).toInt = 73 := l1.2.2.2.1.2
        exact gv_l.1 c1 (hv.1 g1).1 (hv.1 g1).2
      · rename_i g1
        have c1 : (qI U (10000022 + 1) 0).toInt = 74 := l1.2.2.2.2.2.2.1.2
        have g12 : gvN (f_op U (xS S)).toInt = 1 ∨ gvN (f_op U (xS S)).toInt = 2 := by unfold gvN; split; exact Or.inl rfl; split; exact Or.inl rfl; exact Or.inr rfl
        have g2 := g12.resolve_left g1
        exact gv_l.2.1 c1 (hv.2 g2)
/-! leave (behind InS.th, wk_dec, FrMid.mv) -/
theorem okV.zero {n : Int} {t : Int32} (h : 0 ≤ n) : okV n t ((0 : Int64), t) := by
  have e : (((0 : Int64), t) : TV).1.toInt = 0 := (show (0 : Int64).toInt = 0 by decide)
  exact ⟨fun _ => by rw [e]; omega, fun _ => e, fun _ => by rw [e]; omega, fun _ => by rw [e]; omega, Or.inl rfl⟩
theorem gv_184 {U : MS} {x : Int32} (h : (f_op U x).toInt = 184) : f_givesOf U x = qO U (qO U (qO U 0 47) 11) (f_first U x).toInt.toNat := by
  unfold f_givesOf f_givesOf_J18 f_givesOf_J47
  rw [if_neg (by omega), if_neg (by omega), if_neg (by omega), if_pos (by omega), if_neg (by omega), if_neg (by omega), if_neg (by omega), if_neg (by omega), if_neg (by omega), if_neg (by omega), if_neg (by omega), if_neg (by omega), if_neg (by omega), if_neg (by omega), if_neg (by omega), if_neg (by omega), if_neg (by omega), if_neg (by omega), if_pos h]
theorem tk_184 {U : MS} {x : Int32} (h : (f_op U x).toInt = 184) : f_takesOf U x = qO U (qO U (qO U 0 47) 10) (f_first U x).toInt.toNat := by
  unfold f_takesOf f_takesOf_J18 f_takesOf_J47 f_takesOf_J75 f_takesOf_J93 f_takesOf_J111
  rw [if_neg (by omega), if_neg (by omega), if_neg (by omega), if_pos (by omega), if_neg (by omega), if_pos (by omega), if_neg (by omega), if_pos (by omega), if_neg (by omega), if_pos (by omega), if_neg (by omega), if_neg (by omega), if_neg (by omega), if_neg (by omega), if_neg (by omega), if_neg (by omega), if_neg (by omega), if_neg (by omega), if_neg (by omega), if_neg (by omega), if_neg (by omega), if_neg (by omega), if_neg (by omega), if_neg (by omega), if_neg (by omega), if_neg (by omega), if_neg (by omega), if_neg (by omega), if_neg (by omega), if_neg (by omega), if_neg (by omega), if_pos h]
/-- texts of the stage's methods, as a looked-at state has them -/
theorem FrU.own {S : MS} {f i : Nat} {U : MS} {s p : Nat} {a : AS} (h : FrU S f i U s p a) : qO U 0 47 = f ∧ (qO U f 7 = f + 3 ∧ qO U f 10 = f + 6 ∧ qO U f 11 = f + 7) ∧ (∀ j : Nat, qR U (f + 3) j = qR S (f + 3) j) ∧ (∀ j : Nat, qR U (f + 6) j = qR S (f + 6) j) ∧ (∀ j : Nat, qR U (f + 7) j = qR S (f + 7) j) ∧ ∀ t : Nat, okH U (t + 1) → qI U (t + 1) = qI S (t + 1) ∧ qN U (t + 1) = qN S (t + 1) := by
  obtain ⟨f92, g1, g2, g3, g4, g5, g6, g7, g8⟩ := h
  have o : qO U 0 47 = f := by unfold qO; rw [g3.1.1.1]; rfl
  obtain ⟨⟨⟨n1, -⟩, -⟩, L, F, M, nc, ts, cn, -, -, -, -, g, -⟩ := g4.1
  rw [o] at n1 g
  refine ⟨o, ⟨?_, ?_, ?_⟩, fun j => ?_, fun j => ?_, fun j => ?_, fun t ht => ?_⟩
  · unfold qO; rw [g.1]; rfl
  · unfold qO; rw [g.2.1]; rfl
  · unfold qO; rw [g.2.2]; rfl
  · rw [(g6.1 _ n1.2.1).2.2.1]
  · rw [(g6.1 _ n1.2.2.1).2.2.1]
  · rw [(g6.1 _ n1.2.2.2).2.2.1]
  · have z := g6.1 _ ht
    exact ⟨z.1.symm, z.2.2.2.2.symm⟩
theorem FrMid.ret {S D : MS} {f i p : Nat} {n : Int} (h : FrMid S f i n) (n0 : 0 ≤ n) (kb : ∀ h : Nat, 92 < h → sm5 S D h) (hp : qR S (f + 7) (qI S 42 (i + 1)).toInt.toNat = some p) (e42 : qI D 42 i = qI S 42 i) (e43 : qI D 43 i = qI S 43 i + 1) (e44 : (qI D 44 i).toInt = (qI S 44 i).toInt + plS S p) (e45 : ∀ k : Nat, k < 24 → slF D i k = slF S i k) (e46 : ∀ k : Nat, (k : Int) < (qI S 44 i).toInt → plF D i k = plF S i k) (hv : qN S (p + 1) = 0 ∨ (qN S (p + 1) = 1 ∧ (∀ th : Int32, okV n (nb (ltT (qI S (p + 1) 0) th)) (plF D i (qI S 44 i).toInt.toNat)) ∧ ((qI S (p + 1) 0).toInt = 74 → (plF D i ((qI S 44 i).toInt + 1).toNat).2.toInt = 3))) : FrTop D f i n := by
  obtain ⟨U, s', p', a, hF, h1, h2, h3, h4, h5⟩ := h
  obtain ⟨w1, w2, w3, w4, w5, w6⟩ := hF.own
  have hF' := hF
  obtain ⟨f92, g1, g2, g3, g4, g5, g6, g7, g8⟩ := hF
  have eg : f_givesOf U (qI S 43 i) = p := by
    rw [gv_184 h1, w1, w2.2.2, h2]
    unfold qO
    rw [w5, hp]
    rfl
  have gS := g4.1.gv g7 g4.2.1
  rw [eg] at gS
  have wp := w6 p gS.1
  have nm : ¬ 0 < (f_moved U (f_op U (qI S 43 i))).toInt := fun z => by have := mv_iff.mp z; omega
  have egv : gvV U (qI S 43 i) = plS S p := by
    unfold gvV
    rw [if_neg nm, eg]
    unfold plS
    rw [wp.1, wp.2]
  have bt := b_tg g4.1 g7 g4.2.1
  have st := g8.2.2.1
  have cn := g4.1.cnt
  have ex : (qI S 43 i + (1 : Int32)).toInt = (qI S 43 i).toInt + 1 := by rw [t_add (by rw [li_1]; omega), li_1]
  have nx := g8.2.2.2.1 (go_on (S := U) (o := f_op U (qI S 43 i)) (by omega))
  have t24 : (aT a).toInt ≤ 24 := by omega
  have no : ¬ isSt (f_op U (qI S 43 i)) := by unfold isSt; omega
  have wv := wk_val (p := p') (n := n) (n' := n) (sl := slF S i) (pl := fun k => if (k : Int) < (aT a).toInt - tkV U (qI S 43 i) then plF S i k else ((0 : Int64), aP a k)) (sl' := slF D i) (pl' := plF D i) g4.1 g4.2.1 g7 ⟨st.1, t24, by omega⟩ nm (Int.le_refl _) ⟨h4, fun k hk => by
      show okV n (aP a k) (if (k : Int) < (aT a).toInt - tkV U (qI S 43 i) then plF S i k else ((0 : Int64), aP a k))
      by_cases c : (k : Int) < (aT a).toInt - tkV U (qI S 43 i)
      · rw [if_pos c]; exact h5 k c
      · rw [if_neg c]; exact okV.zero n0⟩ g8.1.nb (fun k hk _ _ => e45 k hk) (fun q => by omega) (fun q => by omega) (fun q => by omega) (fun q => by omega) (fun k hk => by
      show plF D i k = if (k : Int) < (aT a).toInt - tkV U (qI S 43 i) then plF S i k else ((0 : Int64), aP a k)
      rw [if_pos hk]
      exact e46 k (by omega)) (fun j hj => by
      rw [eg, wp.2] at hj
      rw [eg, wp.1]
      rcases hv with q | ⟨q1, q2, q3⟩
      · omega
      · have j0 : j = 0 := by omega
        subst j0
        have z0 : plc (qI S (p + 1)) 0 = 0 := rfl
        rw [z0, Int.add_zero, ← h3]
        exact ⟨q2 _, q3⟩)
  refine FrTop.go hF' kb e42 (y := (aT a).toInt - tkV U (qI S 43 i) + gvV U (qI S 43 i)) (by rw [e43]; exact ⟨by omega, by omega⟩) (by rw [e43, ex, show ((qI S 43 i).toInt + 1).toNat = (qI S 43 i).toInt.toNat + 1 by omega]; exact nx.2) (by omega) (by rw [e44, h3, egv]) n0 wv.1 wv.2
theorem sEq_T {S : MS} {a b : Nat} (h : ¬ (sEq S a b).toInt = 0) : sEqP S a b := by
  unfold sEq at h
  by_cases z : sEqP S a b
  · exact z
  · rw [if_neg z] at h; exact absurd rfl h
def LvN (op : Int) : Int := if op = 177 then 0 else if op = 173 then 2 else 1
theorem InS.leave {S V U : MS} {f s p : Nat} {a : AS} {Q : MS → Prop} (i : InS S V f U s p a) (ho : (f_op U (xS S)).toInt = 172 ∨ (f_op U (xS S)).toInt = 173 ∨ (f_op U (xS S)).toInt = 176 ∨ (f_op U (xS S)).toInt = 177) (hQ : ∀ w, McQ f w → Q w) : w_step_J154 Q V (f_op V (xS S)) := by
  obtain ⟨b0, b1, b2, b3, b4, L1, b5⟩ := i.v
  obtain ⟨kk, t, hx, st, hT, h0⟩ := i.t
  have l1 := tx_l1 t
  have nm : ¬ 0 < (f_moved U (f_op U (xS S))).toInt := fun z => by have := mv_iff.mp z; omega
  obtain ⟨b, -, -, -, -, -, wd⟩ := wk_dec (p := p) (a := a) kk t hx ⟨hT.1, hT.2.1, by omega⟩ nm
  obtain ⟨wd1, -, wd3⟩ := wd st.2.1
  have rm := sEq_T (wd1 ho)
  have hI := i.1
  have hU := i.2.2.1
  obtain ⟨w1, w2, w3, w4, w5, w6⟩ := hU.own
  have hU' := hU
  obtain ⟨f92, g1, g2, g3, g4, g5, g6, g7, g8⟩ := hU
  have wp := w6 p g4.2.2.2.2.2.2.2
  -- what is given, by its letters
  have gl : plS S p = LvN (f_op U (xS S)).toInt ∧ tkV U (xS S) = LvN (f_op U (xS S)).toInt ∧ (((f_op U (xS S)).toInt = 177 → qN S (p + 1) = 0) ∧ ((f_op U (xS S)).toInt = 172 → qN S (p + 1) = 1 ∧ (qI S (p + 1) 0).toInt = 73) ∧ ((f_op U (xS S)).toInt = 173 → qN S (p + 1) = 1 ∧ (qI S (p + 1) 0).toInt = 74) ∧ ((f_op U (xS S)).toInt = 176 → qN S (p + 1) = 1 ∧ (qI S (p + 1) 0).toInt = 65)) := by
    have one : ∀ (T : Nat) (c : Int), sEqP U p T → qN U (T + 1) = 1 → (qI U (T + 1) 0).toInt = c → (qN S (p + 1) = 1 ∧ (qI S (p + 1) 0).toInt = c) ∧ plS S p = if c = 74 then 2 else 1 := fun T c q n1 c1 => by
      have e1 : qN S (p + 1) = 1 := by rw [← wp.2, q.1, n1]
      have e2 : (qI S (p + 1) 0).toInt = c := by rw [← wp.1, q.2 0 (by rw [q.1, n1]; decide), c1]
      refine ⟨⟨e1, e2⟩, ?_⟩
      unfold plS
      rw [e1]
      show 0 + (if (qI S (p + 1) 0).toInt = 74 then (2 : Int) else 1) = _
      rw [e2, Int.zero_add]
    rcases ho with q | q | q | q
    · rw [if_pos q] at rm
      have z := one _ 73 rm l1.2.2.2.1.1 l1.2.2.2.1.2
      have tt := (tg_172 q t).2.1
      rw [q]
      exact ⟨z.2, tt, fun z => by omega, fun _ => z.1, fun z => by omega, fun z => by omega⟩
    · rw [if_neg (by omega), if_pos q] at rm
      have z := one _ 74 rm l1.2.2.2.2.2.2.1.1 l1.2.2.2.2.2.2.1.2
      have tt := (tg_173 q t).2.1
      rw [q]
      exact ⟨z.2, tt, fun z => by omega, fun z => by omega, fun _ => z.1, fun z => by omega⟩
    · rw [if_neg (by omega), if_neg (by omega), if_pos q] at rm
      have z := one _ 65 rm l1.2.2.2.2.2.2.2.2.2.1.1 l1.2.2.2.2.2.2.2.2.2.1.2
      have tt := (tg_176 q t).2.1
      rw [q]
      exact ⟨z.2, tt, fun z => by omega, fun z => by omega, fun z => by omega, fun _ => z.1⟩
    · rw [if_neg (by omega), if_neg (by omega), if_neg (by omega)] at rm
      have tt := (tg_177 q t).2.1
      have e1 : qN S (p + 1) = 0 := by rw [← wp.2, rm.1]; exact l1.2.2.2.2.2.2.2.2.2.2.2.1
      rw [q]
      refine ⟨?_, tt, fun _ => e1, fun z => by omega, fun z => by omega, fun z => by omega⟩
      unfold plS
      rw [e1]
      rfl
  obtain ⟨gl1, gl2, gl7, gl3, gl4, gl6⟩ := gl
  have v46 : qW V 46 = qW S 46 := fW i.2.1 (h := 46) (by decide) (by decide) (by decide)
  have r46 : qJ V 46 = qJ S 46 := (i.2.1.2.2.2.2.1 46 (by decide) (by decide)).2.1
  have e97S : (qI S 0 97).toInt = fN S + 1 := by unfold fN; omega
  -- behind the pops
  have j27 : ∀ (A : MS) (v : Int64), PpP V (LvN (f_op U (xS S)).toInt) A → ((f_op U (xS S)).toInt = 176 → 0 ≤ v.toInt ∧ v.toInt ≤ (qI S 0 85).toInt) → w_leave_J27 (McQ f) A v (f_op U (xS S)) := fun A v pA hv => by
    unfold w_leave_J27
    intro B eB
    have fSA : frm [43, 44, 45, 46, 47, 48] [47, 48, 49, 50, 51, 52, 53, 54] S A := (i.2.1.mo (by decide) (by decide)).tr (pA.1.mo (by decide) (by decide))
    have a97 : qI A 0 97 = qI S 0 97 := (fSA.2.2.2.2.2 97 (by decide)).1
    have fSB : frm [43, 44, 45, 46, 47, 48] [47, 48, 49, 50, 51, 52, 53, 54, 97] S B := (fSA.mo (by decide) (by decide)).tr (by rw [eB]; exact frm.pI0 (by decide))
    have b97 : (qI B 0 97).toInt = fN S := by
      rw [eB, qI_wI, if_pos ⟨rfl, rfl⟩, a97]
      exact b0.e.1
    have af : ∀ D : MS, frm [43, 44, 45, 46, 47, 48] [47, 48, 49, 50, 51, 52, 53, 54, 97, 98, 101] S D → McB D f ∧ ArI D ∧ FvI D f ∧ qI D 0 85 = qI S 0 85 := fun D k => by
      have e85 : qI D 0 85 = qI S 0 85 := (k.2.2.2.2.2 85 (by decide)).1
      exact ⟨hI.2.1.fm k (by decide) (by decide), hI.2.2.1.1.eq e85 (k.2.2.2.2.2 86 (by decide)).1 (k.2.2.2.2.1 39 (by decide) (by decide)).1 (k.2.2.2.2.1 40 (by decide) (by decide)).1, hI.2.2.1.2.eq f92 (big_frm k (by decide)) (by rw [e85]; exact Int.le_refl _) (k.2.2.2.2.1 37 (by decide) (by decide)).2.1, e85⟩
    refine ⟨fun c C eC D eD => ?_, fun c => ?_⟩
    · have fSD : frm [43, 44, 45, 46, 47, 48] [47, 48, 49, 50, 51, 52, 53, 54, 97, 98, 101] S D := (fSB.mo (by decide) (by decide)).tr ((show frm [43, 44, 45, 46, 47, 48] [47, 48, 49, 50, 51, 52, 53, 54, 97, 98, 101] B C by rw [eC]; exact frm.pI0 (by decide)).tr (by rw [eD]; exact frm.pJ0 (by decide)))
      obtain ⟨x1, x2, x3, x4⟩ := af D fSD
      refine ⟨⟨x1, x2, x3⟩, Or.inl ?_⟩
      have : qI D 0 98 = 0 := by rw [eD, qI_wJ, eC, qI_wI, if_pos ⟨rfl, rfl⟩]
      rw [this]
      decide
    · have bB : FrB B := ⟨by omega, by omega⟩
      have nB : fN B = fN S - 1 := by unfold fN; rw [b97]; rfl
      have B44 : ∀ j : Nat, j ≠ (fN S).toNat → qI B 44 j = qI S 44 j := fun j hj => by
        rw [eB, rdH (by decide), pA.2.2 j (by rw [b2]; exact hj), (i.2.1.2.2.2.2.1 44 (by decide) (by decide)).1]
      have B46 : qW B 46 = qW S 46 := by rw [eB, qW_I (by decide), fW pA.1 (h := 46) (by decide) (by decide) (by decide), v46]
      have tB : fT B = (qI S 44 ((fN S).toNat - 1)).toInt := by
        unfold fT
        rw [nB, show (fN S - 1).toNat = (fN S).toNat - 1 by omega, B44 _ (by omega)]
      have mid := hI.2.2.2.2 ((fN S).toNat - 1) (by omega)
      have i1 : (fN S).toNat - 1 + 1 = (fN S).toNat := by omega
      have tr : 0 ≤ fT B ∧ fT B + LvN (f_op U (xS S)).toInt ≤ 24 := by
        obtain ⟨U', s', p', a', hF, m1, m2, m3, m4, m5⟩ := mid
        obtain ⟨z1, z2, z3, z4, z5, z6⟩ := hF.own
        obtain ⟨-, -, -, -, k4, k5, -, k7, k8⟩ := hF
        have eg : f_givesOf U' (qI S 43 ((fN S).toNat - 1)) = p := by
          rw [gv_184 m1, z1, z2.2.2, m2, i1]
          unfold qO
          rw [z5, g2.2]
          rfl
        have gS := k4.1.gv k7 k4.2.1
        rw [eg] at gS
        have zp := z6 p gS.1
        have nm' : ¬ 0 < (f_moved U' (f_op U' (qI S 43 ((fN S).toNat - 1)))).toInt := fun z => by have := mv_iff.mp z; omega
        have egv : gvV U' (qI S 43 ((fN S).toNat - 1)) = plS S p := by
          unfold gvV
          rw [if_neg nm', eg]
          unfold plS
          rw [zp.1, zp.2]
        have bt := b_tg k4.1 k7 k4.2.1
        have q := k8.2.2.1
        rw [tB, m3]
        rw [gl1] at egv
        omega
      have fin : ∀ E : MS, frm [44, 46, 48] [] B E → (∀ j : Nat, j ≠ (fN B).toNat → qI E 44 j = qI B 44 j) → fT E = fT B + LvN (f_op U (xS S)).toInt → (∀ j : Nat, (j : Int) < 24 * fN B + fT B → qW E 46 j = qW B 46 j) → (¬ (f_op U (xS S)).toInt = 177 → (∀ th : Int32, okV (qI S 0 85).toInt (nb (ltT (qI S (p + 1) 0) th)) (qW E 46 (24 * fN B + fT B).toNat)) ∧ ((qI S (p + 1) 0).toInt = 74 → (qW E 46 (24 * fN B + fT B + 1).toNat).2.toInt = 3)) → w_leave_J96 (McQ f) E := fun E fE o44 eT e46 hvv => by
        have mE := bB.mv fE
        obtain ⟨y1, y2, y3, y4⟩ := mE.1.e
        have E43 : qI E 43 = qI S 43 := by rw [(fE.2.2.2.2.1 43 (by decide) (by decide)).1, eB, rdH (by decide), (pA.1.2.2.2.2.1 43 (by decide) (by decide)).1, (i.2.1.2.2.2.2.1 43 (by decide) (by decide)).1]
        unfold w_leave_J96
        refine ⟨⟨by omega, by omega⟩, _, sp_goTo mE.1, ?_⟩
        rintro D ⟨fD, d43⟩
        rw [y1, E43, mE.2] at d43
        have fSD : frm [43, 44, 45, 46, 47, 48] [47, 48, 49, 50, 51, 52, 53, 54, 97, 98, 101] S D := (fSB.mo (by decide) (by decide)).tr ((fE.mo (by decide) (by decide)).tr (fD.mo (by decide) (by decide)))
        obtain ⟨x1, x2, x3, x4⟩ := af D fSD
        have kb := big_frm fSD (by decide)
        have D97 : qI D 0 97 = qI B 0 97 := by rw [(fD.2.2.2.2.2 97 (by decide)).1, (fE.2.2.2.2.2 97 (by decide)).1]
        have nD : fN D = fN S - 1 := by unfold fN; rw [D97, b97]; rfl
        have D42 : qI D 42 = qI S 42 := (fSD.2.2.2.2.1 42 (by decide) (by decide)).1
        have D44 : qI D 44 = qI E 44 := (fD.2.2.2.2.1 44 (by decide) (by decide)).1
        have D45 : qW D 45 = qW S 45 := by rw [fW fD (h := 45) (by decide) (by decide) (by decide), fW fE (h := 45) (by decide) (by decide) (by decide), eB, qW_I (by decide), fW pA.1 (h := 45) (by decide) (by decide) (by decide), fW i.2.1 (h := 45) (by decide) (by decide) (by decide)]
        have D46 : qW D 46 = qW E 46 := fW fD (h := 46) (by decide) (by decide) (by decide)
        have nBn : (fN B).toNat = (fN S).toNat - 1 := by omega
        have vpos : (24 * fN B + fT B).toNat = 24 * ((fN S).toNat - 1) + (qI S 44 ((fN S).toNat - 1)).toInt.toNat := by omega
        have vpo2 : (24 * fN B + fT B + 1).toNat = 24 * ((fN S).toNat - 1) + ((qI S 44 ((fN S).toNat - 1)).toInt + 1).toNat := by omega
        refine ⟨⟨x1, x2, x3⟩, Or.inr ⟨⟨by rw [D97]; exact bB.1, by rw [D97]; exact bB.2⟩, x1, ⟨x2, x3⟩, ?_, fun j hj => ?_⟩⟩
        · rw [nD, x4, show (fN S - 1).toNat = (fN S).toNat - 1 by omega]
          refine mid.ret hI.2.2.1.1.1.1 kb (by rw [i1]; exact g2.2) (by rw [D42]) (by rw [d43, nBn]; unfold upd; rw [if_pos rfl]) ?_ (fun k _ => by unfold slF; rw [D45]) (fun k hk => ?_) ?_
          · rw [D44, gl1, ← tB, ← eT]
            unfold fT
            rw [mE.2, nBn]
          · unfold plF
            rw [D46, e46 _ (by omega), B46]
          · unfold plF
            rw [D46, ← vpos, ← vpo2]
            rcases ho with q | q | q | q
            · exact Or.inr ⟨(gl3 q).1, hvv (by omega)⟩
            · exact Or.inr ⟨(gl4 q).1, hvv (by omega)⟩
            · exact Or.inr ⟨(gl6 q).1, hvv (by omega)⟩
            · exact Or.inl (gl7 q)
        · rw [nD] at hj
          rw [x4]
          refine (hI.2.2.2.2 j (by omega)).mv (Int.le_refl _) kb ⟨by rw [D42], by rw [D42]⟩ ?_ ?_ (fun k _ => ?_) (fun k hk => ?_)
          · rw [d43, nBn]; unfold upd; rw [if_neg (by omega)]
          · rw [D44, o44 j (by omega), B44 j (by omega)]
          · unfold slF; rw [D45]
          · unfold plF; rw [D46, e46 _ (by omega), B46]
      have ptf : ∀ (E : MS) (v' : TV) (g : Int32), PtP B v' g E → g.toInt = LvN (f_op U (xS S)).toInt → ((qI S (p + 1) 0).toInt = 74 → g.toInt = 2) → (∀ th : Int32, okV (qI S 0 85).toInt (nb (ltT (qI S (p + 1) 0) th)) v') → w_leave_J96 (McQ f) E := fun E v' g q eg q2 q6 => by
        obtain ⟨r1, r2, r3, r4⟩ := q
        have at_ : qW E 46 (24 * fN B + fT B).toNat = v' := by rw [r2, if_pos rfl]
        refine fin E r1 (fun j hj => by rw [r3]; unfold upd; rw [if_neg hj]) (by rw [r4, eg]) (fun j hj => by rw [r2, if_neg (by omega), if_neg (by omega)]) (fun _ => ⟨fun th => by rw [at_]; exact q6 th, fun z => ?_⟩)
        rw [r2, if_neg (by omega), if_pos ⟨q2 z, rfl⟩]
        show (3 : Int32).toInt = 3
        decide
      have l2 : (2 : Int32).toInt = 2 := by decide
      refine ⟨fun c2 => ⟨_, sp_putI bB ⟨tr.1, by rw [c2] at tr; exact tr.2⟩, fun E hE => ptf E _ 1 hE (by rw [c2]; rfl) (fun z => by have := (gl3 c2).2; omega) (fun th => gv_l.1 (gl3 c2).2 (i64_int _) nb1v)⟩, fun c2 => ⟨fun c7 => ?_, fun c7 => ⟨fun c3 => ?_, fun c3 => ?_⟩⟩⟩
      · refine fin B frm.rf (fun _ _ => rfl) (by rw [c7]; show fT B = fT B + 0; omega) (fun _ _ => rfl) (fun z => absurd c7 z)
      · unfold w_leave_J93
        exact ⟨_, sp_putV bB (Or.inr l2) ⟨tr.1, by rw [c3] at tr; rw [l2]; exact tr.2⟩, fun E hE => ptf E _ 2 hE (by rw [c3]; rfl) (fun _ => l2) (fun th => gv_l.2.1 (gl4 c3).2 (ptT_2 l2))⟩
      · have c6 : (f_op U (xS S)).toInt = 176 := by omega
        unfold w_leave_J93
        exact ⟨_, sp_putV bB (Or.inl li_1) ⟨tr.1, by rw [c6] at tr; rw [li_1]; exact tr.2⟩, fun E hE => ptf E _ 1 hE (by rw [c6]; rfl) (fun z => by have := (gl6 c6).2; omega) (fun th => gv_l.2.2.1 (gl6 c6).2 (hv c6) (ptT_4 (by decide) (hv c6).1))⟩
  rw [(i.op _).1]
  unfold w_step_J154
  refine ⟨McQ f, ?_, hQ⟩
  have l2 : (2 : Int32).toInt = 2 := by decide
  have v176 : ∀ v : Int64, v = qJ V 46 (24 * fN V + fT V - 0 - 1).toNat → (f_op U (xS S)).toInt = 176 → 0 ≤ v.toInt ∧ v.toInt ≤ (qI S 0 85).toInt := fun v ev q => by
    have z := tg_176 q t
    rw [z.1.1, z.2.1] at wd3
    have la : qN U 10000029 = 1 ∧ (qI U 10000029 0).toInt = 65 := l1.2.2.2.2.2.2.2.2.2.1
    have w := (wd3 0 (by rw [la.1]; decide)).1 la.2
    have z0 : plc (qI U (10000028 + 1)) 0 = 0 := rfl
    rw [z0] at w
    have t1 : 1 ≤ (aT a).toInt := by have := hT.1; rw [z.2.1] at this; exact this
    have ok := i.2.2.2.2.1.2 ((aT a).toInt - 1 + 0).toNat (by omega)
    have ee : v = (plF S (fN S).toNat ((aT a).toInt - 1 + 0).toNat).1 := by
      rw [ev, b2, b4, r46]
      unfold plF qW
      rw [show (24 * fN S + (aT a).toInt - 0 - 1).toNat = 24 * (fN S).toNat + ((aT a).toInt - 1 + 0).toNat by omega]
    rw [ee]
    have n0 := hI.2.2.1.1.1.1
    rcases w with w | w
    · exact ok.1 w
    · have := ok.2.1 w
      omega
  unfold w_leave
  refine ⟨fun c => j27 V 0 (by rw [c]; exact PpP.rf) (fun z => by omega), fun c => ⟨fun c3 => ?_, fun c3 => ?_⟩⟩
  · unfold w_leave_J24
    have hl : LvN (f_op U (xS S)).toInt = 2 := by rw [c3]; rfl
    refine ⟨_, sp_pop (n := 2) b1 PpP.rf (by decide) ⟨by decide, by rw [l2]; omega⟩ (by omega), ?_⟩
    rintro v A ⟨pA, ev⟩
    rw [l2] at pA
    exact j27 A v (by rw [hl]; exact pA) (fun z => by omega)
  · unfold w_leave_J24
    have hl : LvN (f_op U (xS S)).toInt = 1 := by unfold LvN; rw [if_neg c, if_neg c3]
    refine ⟨_, sp_pop (n := 1) b1 PpP.rf (by decide) ⟨by decide, by rw [li_1]; omega⟩ (by omega), ?_⟩
    rintro v A ⟨pA, ev⟩
    rw [li_1] at pA ev
    exact j27 A v (by rw [hl]; exact pA) (v176 v ev)
