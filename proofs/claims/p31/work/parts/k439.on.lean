/-! outMethod (behind sp_om_L167, sp_by) -/
section ONX
variable {NL : List Nat} {kp : Prop} {AL : List (MS → Prop)}
theorem sp_oh {W J : List Nat} {A S : MS} {v : Int64} {n : Int32} {m a : Int} {Q : MS → Prop} (cf : CfS NL kp AL) (h : Wg NL kp AL W J A a S) (ha : 0 ≤ a) (hW : [28, 29, 30, 31, 32, 33, 34, 35].all (fun x => W.contains x) = true) (hJ : [7, 8, 73, 74, 77].all (fun x => J.contains x) = true) (e : n.toInt = m) (hn : 0 ≤ m ∧ m ≤ 8) (hr : oS A + a + m ≤ 131072) (hQ : ∀ u, Wg NL kp AL W J A (a + m) u → Wx NL kp AL S m u → Q u) : ∃ Q1, w_out S v n Q1 ∧ ∀ u, Q1 u → Q u := by
  have eo := h.2.1.2.1
  exact sp_ob cf h.2.2.2.1 h.2.1.1 e hn (by omega) (fun u hu => hQ u (h.tr (hu.g hW hJ) ha) hu)
theorem OfI.x {A U V : MS} {of : Nat → Int} {i : Nat} {n : Int} (h : OfI A U of i) (w : Wx NL kp AL U n V) (hB : BkI U) : OfI A V of i := h.mv (fun j _ => by rw [(w.1.2.2.2.2.1 36 (by decide) (by decide)).1]) w.2.2.2.2 hB
/-- what the Code of a method leaves -/
def CdW (NL : List Nat) (kp : Prop) (AL : List (MS → Prop)) (A u : MS) : Prop := ∃ o : Int, (0 ≤ o ∧ o ≤ 3900) ∧ Wg NL kp AL WA JA A (18 + o + 8 * (qI A 0 54).toInt) u ∧ fo (qI u (wH A)) ((oS A).toNat + 2) = 12 + o + 8 * (qI A 0 54).toInt
theorem sp_om_L57 {Q : MS → Prop} {p : Nat} {A S0 : MS} {m : Int32} {s : Nat} (f0 : frm WA JM S0 A) (hQ : ∀ u : MS, CdW NL kp AL A u → Q u) (cf : CfI NL kp AL p A) (k : LkF kp AL p A) (tx : TxI A) (hw : WrI NL kp AL A) (ou : OuI A) (hm : 0 ≤ m.toInt ∧ m.toInt < 24) (hs : qR A (p + 6) m.toInt.toNat = some s ∧ lOD A s 8) (hr : oS A + 4100 ≤ 131072) : ∀ (c : Nat) (U : MS) (o i : Int32) (of : Nat → Int), (0 ≤ i.toInt ∧ i.toInt ≤ (qI A 0 52).toInt) → Wg NL kp AL WA JA A 0 U → OfI A U of i.toInt.toNat → of i.toInt.toNat = o.toInt → (∀ j : Nat, (j : Int) ≤ i.toInt → 0 ≤ of j ∧ of j ≤ o.toInt) → o.toInt ≤ wtS (qI A (qO A 0 48)) (qI A 0 51).toInt.toNat i.toInt.toNat → (1296 - i.toInt).toNat < c → w_outMethod_L57 Q (eK kp S0) c U p m o i := by
  have p60 : 60 ≤ p := by have := cf.2.1.1; omega
  have cn := k.1.cnt
  have cS := cf.1
  have wN := k.2.2.2
  have wnn : ∀ j : Nat, (j : Int) < (qI A 0 52).toInt → 0 ≤ wtR (qI A (qO A 0 48)) ((qI A 0 51).toInt.toNat + j) := fun j hj => by
    obtain ⟨x, ex⟩ : ∃ x : Int32, x.toInt = j := ⟨Int32.ofNat j, by rw [oN (by omega)]⟩
    have w := k.1.wr (x := x) ⟨by omega, by omega⟩
    rw [show x.toInt.toNat = j by omega] at w
    rw [w.1]
    exact wtV_nn (by
      by_cases q : (f_op A x).toInt = 170 ∨ (f_op A x).toInt = 171
      · exact Or.inl (w.2 q)
      · exact Or.inr q)
  intro c
  induction c with
  | zero => intro U o i of _ _ _ _ _ _ h9; exact absurd h9 (Nat.not_lt_zero _)
  | succ c ih =>
    intro U o i of i0 wU hO eo ob hw9 hc
    obtain ⟨cfU, kU, so, e52, e54, ecw⟩ := wU.lk cf k
    have ob0 := ob i.toInt.toNat (by omega)
    have up := wtS_up (R := qI A (qO A 0 48)) (a := (qI A 0 51).toInt.toNat) ((qI A 0 52).toInt.toNat - i.toInt.toNat) i.toInt.toNat (fun j _ j1 => wnn j (by omega))
    rw [show i.toInt.toNat + ((qI A 0 52).toInt.toNat - i.toInt.toNat) = (qI A 0 52).toInt.toNat by omega] at up
    have o39 : o.toInt ≤ 3900 := by omega
    unfold w_outMethod_L57
    rw [e52]
    refine ⟨fun c1 => ⟨by omega, fun B eB => ?_⟩, fun c1 => ⟨⟨i0.1, by omega⟩, fun B eB => ?_⟩⟩
    · -- all offsets are known
      have eN : i.toInt.toNat = (qI A 0 52).toInt.toNat := by omega
      rw [eN] at hO eo
      have fB : frm [36] [] U B := by rw [eB]; exact frm.pI (by decide)
      have kB0 : Wg NL kp AL WA JA U 0 B := Wg.k fB wU.2.2.2.1 wU.2.1.1 cS (by decide) (by decide) (by decide) (by decide)
      have wB := wU.tr kB0 (by decide)
      have OB : OfI A B of (qI A 0 52).toInt.toNat := hO.mv (fun j hj => by rw [eB, qI_wI, if_neg (fun q => by have := q.2; omega)]) kB0.2.2.2.2 wU.2.2.2.1.1
      obtain ⟨cfB, kB, _, b52, b54, _⟩ := wB.lk cf k
      obtain ⟨_, _, _, oo, ab, _, _, _, cd, _, _⟩ := cfB
      refine eb_nm (sp_nm cS wB.2.2.2.1 cd.1 cd.2.1 cd.2.2) wB.2.1.1.2.2.1 (f0.tr (wB.1.mo (by decide) (by decide))) ?_
      rintro r C ⟨hC, xC, _⟩
      have wC := wB.tr ((Wx.b xC hC wB.2.1.1).g (by decide) (by decide)) (by decide)
      have OC := OB.mv (fun j _ => by rw [(xC.1.2.2.2.2.1 36 (by decide) (by decide)).1]) xC.y wB.2.2.2.1.1
      refine sp_oh cS wC (by decide) (by decide) (by decide) (m := 2) (by decide) (by decide) (by omega) (fun D wD xD => ?_)
      have wD' : Wg NL kp AL WA JA A 2 D := wD
      have OD := OC.x xD wC.2.2.2.1.1
      obtain ⟨cfD, kD, _, d52, d54, _⟩ := wD'.lk cf k
      rw [d54]
      have ou2 := wD'.2.1.1
      have eD := wD'.2.1.2.1
      have l12 : (12 : Int32).toInt = 12 := by decide
      have l8 : (8 : Int32).toInt = 8 := by decide
      have t1 : ((12 : Int32) + o).toInt = 12 + o.toInt := by rw [t_add (by rw [l12]; omega), l12]
      have t2 : ((8 : Int32) * qI A 0 54).toInt = 8 * (qI A 0 54).toInt := by rw [t_mul (by rw [l8]; omega), l8]
      have t3 : ((12 : Int32) + o + (8 : Int32) * qI A 0 54).toInt64.toInt = 12 + o.toInt + 8 * (qI A 0 54).toInt := by rw [Int32.toInt_toInt64, t_add (by rw [t1, t2]; omega), t1, t2]
      refine ⟨_, sp_out4 ou2 (by omega) (by rw [t3]; omega), ?_⟩
      rintro E ⟨wE0, fo4⟩
      rw [t3] at fo4
      have xE : Wx NL kp AL D 4 E := Wx.o wE0 wD'.2.2.2.1 cS
      have wE1 : Wg NL kp AL WA JA D 4 E := xE.g (by decide) (by decide)
      have OE := OD.x xE wD'.2.2.2.1.1
      have wE := wD'.tr wE1 (by decide)
      have wHD : wH D = wH A := wD'.2.1.2.2
      have oA0 := ou.2.2.2.1
      rw [wHD, show (oS D).toNat = (oS A).toNat + 2 by omega] at fo4
      obtain ⟨cfE, kE, _, _, _, _⟩ := wE.lk cf k
      have txE : TxI E := tx.kp wE.2.2.2.2.kp
      refine ⟨_, sp_lS kE.1 txE, ?_⟩
      intro r2 F fF
      have wF1 : Wg NL kp AL WA JA E 0 F := Wg.k fF wE.2.2.2.1 wE.2.1.1 cS (by decide) (by decide) (by decide) (by decide)
      have OF := OE.mv (fun j _ => by rw [(fF.2.2.2.2.1 36 (by decide) (by decide)).1]) wF1.2.2.2.2 wE.2.2.2.1.1
      have wF := wE.tr wF1 (by decide)
      refine sp_oh cS wF (by decide) (by decide) (by decide) (m := 2) (by decide) (by decide) (by omega) (fun G wG xG => ?_)
      have OG := OF.x xG wF.2.2.2.1.1
      obtain ⟨cfG, kG, _, g52, g54, _⟩ := wG.lk cf k
      have hi := hi_frm wG.1 (by decide)
      have r10 := cf.2.1.2 5 (by decide)
      have gR : qR G p 10 = some (p + 6) := by rw [(hi p p60).2.2.1]; exact r10.1
      have gO : qO G p 10 = p + 6 := by unfold qO; rw [gR]; rfl
      have gS : qR G (p + 6) m.toInt.toNat = some s := by rw [(hi (p + 6) (by omega)).2.2.1]; exact hs.1
      have gSo : qO G (p + 6) m.toInt.toNat = s := by unfold qO; rw [gS]; rfl
      rw [gO, gSo]
      refine ⟨gR, ⟨hm.1, by rw [(hi (p + 6) (by omega)).2.2.2.2]; have := r10.2; rw [show p + 1 + 5 = p + 6 from rfl] at this; omega⟩, gS, _, sp_lL kG.1 (hs.2.h5 hi), ?_⟩
      rintro r3 G' rfl
      refine sp_oh cS wG (by decide) (by decide) (by decide) (m := 2) (by decide) (by decide) (by omega) (fun H wH' xH => ?_)
      have OH := OG.x xH wG.2.2.2.1.1
      refine sp_oh cS wH' (by decide) (by decide) (by decide) (m := 4) (by decide) (by decide) (by omega) (fun I wI' xI => ?_)
      have OI := OH.x xI wH'.2.2.2.1.1
      have wI2 : Wg NL kp AL WA JA A 14 I := wI'
      -- from the four bytes on
      have wEI : Wg NL kp AL WA JA E 8 I := (((wF1.tr (xG.g (by decide) (by decide)) (by decide)).tr (xH.g (by decide) (by decide)) (by decide)).tr (xI.g (by decide) (by decide)) (by decide))
      have wHE : wH E = wH A := wE.2.1.2.2
      have eE := wE.2.1.2.1
      have eI := wI2.2.1.2.1
      have fI : fo (qI I (wH A)) ((oS A).toNat + 2) = 12 + o.toInt + 8 * (qI A 0 54).toInt := by
        have b := (wEI.by wE.2.1.1).2.1 ((oS A).toNat + 2) (by omega)
        rw [wHE] at b
        rw [b]
        exact fo4
      obtain ⟨cfI', kI, soI, i52, i54, icw⟩ := wI2.lk cf k
      have ouI := wI2.2.1.1
      have OI' : OfI I I of (qI I 0 52).toInt.toNat := by
        rw [i52]
        refine ⟨OI.1, fun j hj => ⟨(OI.2 j hj).1, fun x ex => ?_⟩⟩
        rw [(soI x).1, (soI x).2.1, (soI x).2.2]
        exact (OI.2 j hj).2 x ex
      refine ⟨_, sp_om_L167 (A := I) (of := of) (n0 := 0) (o := o.toInt) (f0.tr (wI2.1.mo (by decide) (by decide))) cfI' kI (by decide) (by rw [i52]; exact eo) (by rw [i52]; exact fun j hj => ob j (by omega)) o39 (by rw [i54]; omega) (fun u hu => ?_) _ I 0 ⟨by decide, by show (0 : Int) ≤ _; rw [i52]; omega⟩ OI' ?_ (Nat.lt_succ_self _)⟩
      · rw [i54] at hu
        refine hQ u ⟨o.toInt, ⟨by omega, o39⟩, ?_, ?_⟩
        · have := wI2.tr hu (by decide)
          rw [show (14 : Int) + (0 + o.toInt + 2 + 8 * (qI A 0 54).toInt + 2) = 18 + o.toInt + 8 * (qI A 0 54).toInt by omega] at this
          exact this
        · have b := (hu.by ouI).2.1 ((oS A).toNat + 2) (by omega)
          have wHI : wH I = wH A := wI2.2.1.2.2
          rw [wHI] at b
          rw [b]
          exact fI
      · rw [show of (0 : Int32).toInt.toNat = 0 from OI.1]
        exact Wg.rf wI2.2.2.2.1 ouI
    · -- one row more
      have fB : frm [36] [] U B := by rw [eB]; exact frm.pI (by decide)
      have kB0 : Wg NL kp AL WA JA U 0 B := Wg.k fB wU.2.2.2.1 wU.2.1.1 cS (by decide) (by decide) (by decide) (by decide)
      have wB := wU.tr kB0 (by decide)
      have OB := hO.mv (V := B) (fun j hj => by rw [eB, qI_wI, if_neg (fun q => by have := q.2; omega)]) kB0.2.2.2.2 wU.2.2.2.1.1
      have b36 : qI B 36 i.toInt.toNat = o := by rw [eB, qI_wI, if_pos ⟨rfl, rfl⟩]
      obtain ⟨cfB, kB, soB, b52, b54, _⟩ := wB.lk cf k
      refine eb_by (sp_by cfB wB.2.2.2.1 kB (by rw [b52]; omega) ⟨by omega, by omega⟩) wB.2.1.1.2.2.1 (f0.tr (wB.1.mo (by decide) (by decide))) ?_
      rintro r V ⟨hV, xV, lnV⟩ a ea b eb
      have wV1 := Wx.b xV hV wB.2.1.1
      have wV := wB.tr (wV1.g (by decide) (by decide)) (by decide)
      obtain ⟨_, _, soV, _, _, _⟩ := wV.lk cf k
      unfold LnP at lnV
      rw [(soV i).1, (soV i).2.1, (soV i).2.2] at lnV
      have w := k.1.wr (x := i) ⟨i0.1, by omega⟩
      have nb := lnV.wt w.2 (by omega)
      have up1 := wtS_up (R := qI A (qO A 0 48)) (a := (qI A 0 51).toInt.toNat) ((qI A 0 52).toInt.toNat - (i.toInt.toNat + 1)) (i.toInt.toNat + 1) (fun j _ j1 => wnn j (by omega))
      rw [show i.toInt.toNat + 1 + ((qI A 0 52).toInt.toNat - (i.toInt.toNat + 1)) = (qI A 0 52).toInt.toNat by omega] at up1
      have st : wtS (qI A (qO A 0 48)) (qI A 0 51).toInt.toNat (i.toInt.toNat + 1) = wtS (qI A (qO A 0 48)) (qI A 0 51).toInt.toNat i.toInt.toNat + wtV (f_op A i).toInt (f_second A i).toInt := by
        show _ + wtR _ _ = _
        rw [w.1]
      have ea' : a.toInt = o.toInt + r.toInt := by rw [ea, t_add (by omega)]
      have ei : (i + Int32.ofInt 1).toInt = i.toInt + 1 := by rw [t_add (by rw [lo_1]; omega), lo_1]
      subst eb
      have ein : (i + Int32.ofInt 1).toInt.toNat = i.toInt.toNat + 1 := by omega
      have OV := OB.x wV1 wB.2.2.2.1.1
      have v36 : qI V 36 i.toInt.toNat = o := by rw [(wV1.1.2.2.2.2.1 36 (by decide) (by decide)).1]; exact b36
      have wV0 : Wg NL kp AL WA JA A 0 V := wV
      refine ih V a _ (fun j => if j ≤ i.toInt.toNat then of j else a.toInt) (by omega) wV0 ⟨by show (if 0 ≤ i.toInt.toNat then of 0 else a.toInt) = 0; rw [if_pos (Nat.zero_le _)]; exact hO.1, fun j hj => ?_⟩ ?_ (fun j hj => ?_) ?_ (by omega)
      · rw [ein] at hj
        show ((qI V 36 j).toInt = (if j ≤ i.toInt.toNat then of j else a.toInt) ∧ 0 ≤ (if j ≤ i.toInt.toNat then of j else a.toInt) ∧ (if j ≤ i.toInt.toNat then of j else a.toInt) ≤ (if j + 1 ≤ i.toInt.toNat then of (j + 1) else a.toInt)) ∧ ∀ x : Int32, x.toInt = j → LnV V (f_op A x) (f_first A x) (f_second A x) (if j ≤ i.toInt.toNat then of j else a.toInt) ((if j + 1 ≤ i.toInt.toNat then of (j + 1) else a.toInt) - (if j ≤ i.toInt.toNat then of j else a.toInt))
        rw [if_pos (by omega)]
        by_cases q : j = i.toInt.toNat
        · subst q
          rw [if_neg (by omega), v36]
          refine ⟨⟨by omega, by omega, by omega⟩, fun x ex => ?_⟩
          have : x = i := Int32.toInt_inj.mp (by omega)
          subst this
          rw [show a.toInt - of x.toInt.toNat = r.toInt by omega, eo]
          exact lnV
        · rw [if_pos (by omega)]
          exact OV.2 j (by omega)
      · show (if (i + Int32.ofInt 1).toInt.toNat ≤ i.toInt.toNat then of _ else a.toInt) = _
        rw [if_neg (by omega)]
      · show 0 ≤ (if j ≤ i.toInt.toNat then of j else a.toInt) ∧ (if j ≤ i.toInt.toNat then of j else a.toInt) ≤ a.toInt
        by_cases q : j ≤ i.toInt.toNat
        · rw [if_pos q]
          have := ob j (by omega)
          omega
        · rw [if_neg q]; omega
      · rw [ein, st]
        omega
/-- what a method leaves -/
def MtW (NL : List Nat) (kp : Prop) (AL : List (MS → Prop)) (S u : MS) : Prop := ∃ d : Int, (12 ≤ d ∧ d ≤ 4040) ∧ Wg NL kp AL WA [7, 8, 47, 48, 49, 50, 51, 52, 53, 54, 56, 57, 73, 74, 77] S (14 + d) u ∧ tw (qI u (wH S)) ((oS S).toNat + 6) = 1 ∧ fo (qI u (wH S)) ((oS S).toNat + 10) = d
theorem sp_outMethod {p : Nat} {S : MS} {m : Int32} (cf : CfI NL kp AL p S) (ro : RoI p S) (ck : CkF kp AL p S) (tx : TxI S) (hw : WrI NL kp AL S) (ou : OuI S) (hm : 0 ≤ m.toInt ∧ m.toInt < (qI S p 4).toInt) (hr : oS S + 4110 ≤ 131072) : w_outMethod S p m (MtW NL kp AL S) (eK kp S) := by
  have p60 : 60 ≤ p := by have := cf.2.1.1; omega
  have cS := cf.1
  have b4 := cf.2.2.1
  have rows := cf.2.1.2
  obtain ⟨n, t, n1, t1, hn, ht, _⟩ := (cf.2.2.2.choose_spec.choose_spec.2.2.2.2.2.2) m.toInt.toNat (by omega)
  obtain ⟨s, s1, s2⟩ : ∃ s : Nat, qR S (p + 6) m.toInt.toNat = some s ∧ lOD S s 8 := by
    obtain ⟨_, R, T, C, nr, ts, cn, _, _, _, _, _, mm, _⟩ := ro
    exact (mm m.toInt.toNat (by omega)).1
  have nmx : ∀ (U : MS) (a : Int) (i : Nat) (n : Nat), Wg NL kp AL WA JM S a U → i < 13 → qR S (p + 1 + i) m.toInt.toNat = some n → qR U p (5 + i) = some (p + 1 + i) ∧ qO U p (5 + i) = p + 1 + i ∧ qN U (p + 1 + i) = 24 ∧ qR U (p + 1 + i) m.toInt.toNat = some n ∧ qO U (p + 1 + i) m.toInt.toNat = n := fun U a i n w hi hn => by
    have hi' := hi_frm w.1 (by decide)
    have r := rows i hi
    have z := hi' (p + 1 + i) (by omega)
    have r1 : qR U p (5 + i) = some (p + 1 + i) := by rw [(hi' p p60).2.2.1]; exact r.1
    have r2 : qR U (p + 1 + i) m.toInt.toNat = some n := by rw [z.2.2.1]; exact hn
    exact ⟨r1, by unfold qO; rw [r1]; rfl, by rw [z.2.2.2.2]; exact r.2, r2, by unfold qO; rw [r2]; rfl⟩
  unfold w_outMethod
  refine sp_og (W := WA) (J := JM) cS (Wg.rf hw ou) (by decide) (by decide) (by decide) (m := 2) (by decide) (by decide) (by omega) (fun A wA => ?_)
  obtain ⟨a1, a2, a3, a4, a5⟩ := nmx A _ 3 n wA (by decide) n1
  rw [show (8 : Nat) = 5 + 3 from rfl, a2, a5]
  refine ⟨a1, ⟨hm.1, by rw [a3]; omega⟩, a4, eb_nm (sp_nm cS wA.2.2.2.1 hn.1 (hn.2.1.mv wA.2.2.2.2.kp) hn.2.2) wA.2.1.1.2.2.1 wA.1 ?_⟩
  rintro r B ⟨hB, xB, _⟩
  have wB := wA.tr ((Wx.b xB hB wA.2.1.1).g (by decide) (by decide)) (by decide)
  refine sp_og (W := WA) (J := JM) cS wB (by decide) (by decide) (by decide) (m := 2) (by decide) (by decide) (by omega) (fun C wC => ?_)
  obtain ⟨c1, c2, c3, c4, c5⟩ := nmx C _ 4 t wC (by decide) t1
  rw [show (9 : Nat) = 5 + 4 from rfl, c2, c5]
  refine ⟨c1, ⟨hm.1, by rw [c3]; omega⟩, c4, eb_nm (sp_nm cS wC.2.2.2.1 ht.1 (ht.2.1.mv wC.2.2.2.2.kp) ht.2.2) wC.2.1.1.2.2.1 wC.1 ?_⟩
  rintro r2 D ⟨hD, xD, _⟩
  have wD := wC.tr ((Wx.b xD hD wC.2.1.1).g (by decide) (by decide)) (by decide)
  refine sp_og (W := WA) (J := JM) cS wD (by decide) (by decide) (by decide) (m := 2) (by decide) (by decide) (by omega) (fun E wE => ?_)
  have wE6 : Wg NL kp AL WA JM S 6 E := wE
  have eE := wE6.2.1.2.1
  have o0 := ou.2.2.2.1
  refine ⟨_, sp_out2 wE6.2.1.1 (by omega) (by decide), ?_⟩
  rintro F ⟨wF0, tw1⟩
  have wF := wE6.tr ((Wx.o wF0 wE6.2.2.2.1 cS).g (by decide) (by decide)) (by decide)
  have wHE : wH E = wH S := wE6.2.1.2.2
  have twF : tw (qI F (wH S)) ((oS S).toNat + 6) = 1 := by
    rw [wHE, show (oS E).toNat = (oS S).toNat + 6 by omega] at tw1
    rw [tw1]; decide
  have cfF := cf.fm wF.1 (by decide)
  have roF := ro.fm wF.1 (by decide)
  have ckF := ck.fm ro wF.1 (by decide)
  have f4 : qI F p 4 = qI S p 4 := by rw [(hi_frm wF.1 (by decide) p p60).1]
  refine ⟨_, sp_lookD cfF roF ckF (by rw [f4]; exact hm), ?_⟩
  rintro G ⟨⟨fG, kG⟩, _⟩
  have wG1 : Wg NL kp AL WA JM F 0 G := Wg.k fG wF.2.2.2.1 wF.2.1.1 cS (by decide) (by decide) (by decide) (by decide)
  have wG := wF.tr wG1 (by decide)
  have wG8 : Wg NL kp AL WA JM S 8 G := wG
  have cfG := cfF.fm fG (by decide)
  have hiG := hi_frm wG8.1 (by decide)
  have eG := wG8.2.1.2.1
  have wHG : wH G = wH S := wG8.2.1.2.2
  have txG : TxI G := tx.kp wG8.2.2.2.2.kp
  have cG := kG.1.cnt
  refine ⟨1297, sp_om_L57 (m := m) (s := s) wG8.1 (fun u hu => ?_) cfG kG txG wG8.2.2.2.1 wG8.2.1.1 (by omega) ⟨by rw [(hiG (p + 6) (by omega)).2.2.1]; exact s1, s2.h5 hiG⟩ (by omega) 1297 G 0 0 (fun _ => 0) ⟨by decide, by show (0 : Int) ≤ _; omega⟩ (Wg.rf wG8.2.2.2.1 wG8.2.1.1) ⟨rfl, fun j hj => absurd hj (Nat.not_lt_zero _)⟩ rfl (fun j _ => ⟨Int.le_refl _, Int.le_refl _⟩) (Int.le_refl _) (by decide)⟩
  obtain ⟨o, o1, wu, f4'⟩ := hu
  have wuM : Wg NL kp AL WA JM G (18 + o + 8 * (qI G 0 54).toInt) u := wu.mo (by decide) (by decide)
  refine ⟨12 + o + 8 * (qI G 0 54).toInt, by omega, ?_, ?_, ?_⟩
  · have := wG8.tr wuM (by decide)
    rw [show (8 : Int) + (18 + o + 8 * (qI G 0 54).toInt) = 14 + (12 + o + 8 * (qI G 0 54).toInt) by omega] at this
    exact this
  · have b1 := (wG1.by wF.2.1.1).1 ((oS S).toNat + 6) (by have := wF.2.1.2.1; omega)
    have b2 := (wuM.by wG8.2.1.1).1 ((oS S).toNat + 6) (by omega)
    have wHF : wH F = wH S := wF.2.1.2.2
    rw [wHF] at b1
    rw [wHG] at b2
    rw [b2, b1]
    exact twF
  · rw [wHG, show (oS G).toNat + 2 = (oS S).toNat + 10 by omega] at f4'
    exact f4'
end ONX
/-! an entry of the pool is written (behind sp_out1, sp_out2, BkI) -/
/-- an entry stands from a to b -/
def enL (g : Nat → Int32) (a b : Nat) : Prop := tgO (oc g a) ∧ a + 3 ≤ b ∧ (oc g a = 1 → (b : Int) = a + 3 + tw g (a + 1)) ∧ (oc g a = 3 → b = a + 5) ∧ (oc g a = 5 → b = a + 9) ∧ (oc g a = 7 → b = a + 3) ∧ (oc g a = 9 ∨ oc g a = 10 ∨ oc g a = 12 → b = a + 5)
theorem enL.mv {g g' : Nat → Int32} {a b : Nat} (h : enL g a b) (e : ∀ j : Nat, j < b → g' j = g j) : enL g' a b := by
  have l := h.2.1
  have e1 : oc g' a = oc g a := by unfold oc; rw [e a (by omega)]
  have e2 : tw g' (a + 1) = tw g (a + 1) := by unfold tw oc; rw [e (a + 1) (by omega), e (a + 1 + 1) (by omega)]
  unfold enL
  rw [e1, e2]
  exact h
/-- what an entry's writing leaves -/
def EnW (S : MS) (t : Int) (u : MS) : Prop := ∃ d : Nat, (3 ≤ d ∧ (d : Int) ≤ 9 + (if t = 1 then 94 else 0)) ∧ Wo S d u ∧ enL (qI u (wH S)) (oS S).toNat ((oS S).toNat + d) ∧ oc (qI u (wH S)) (oS S).toNat = t
theorem Wo.bt {S u : MS} {n : Int} (h : Wo S n u) : (∀ j : Nat, (j : Int) < oS S → oc (qI u (wH S)) j = oc (qI S (wH S)) j) ∧ ∀ j : Nat, (j : Int) + 1 < oS S → tw (qI u (wH S)) j = tw (qI S (wH S)) j := by
  have z := h.2.2.2.2
  refine ⟨fun j hj => ?_, fun j hj => ?_⟩
  · unfold oc; rw [z j hj]
  · unfold tw oc; rw [z j (by omega), z (j + 1) (by omega)]
theorem sp_oE {S : MS} {k : Int32} (hB : BkI S) (o : OuI S) (hk : 0 ≤ k.toInt ∧ k.toInt < ndN S) (hr : oS S + 103 ≤ 131072) : w_outEntry S k (EnW S (qI S 28 k.toInt.toNat).toInt) := by
  have n7 := hB.1
  obtain ⟨tg, tx⟩ := hB.2.2 k.toInt.toNat (by omega)
  have o0 := o.2.2.2.1
  have wh := o.wh
  have l0 : (0 : Int32).toInt = 0 := rfl
  -- what is read is the same all along
  have sm : ∀ (U : MS) (n : Int), Wo S n U → qI U 28 = qI S 28 ∧ qR U 33 = qR S 33 ∧ ∀ a : Nat, 92 < a → sm5 S U a := fun U n w => ⟨(w.1.2.2.2.2.1 28 (by decide) (by decide)).1, (w.1.2.2.2.2.1 33 (by decide) (by decide)).2.2, big_frm w.1 (by decide)⟩
  have tr : 0 ≤ (qI S 28 k.toInt.toNat).toInt64.toInt ∧ (qI S 28 k.toInt.toNat).toInt64.toInt ≤ 255 := by
    rw [Int32.toInt_toInt64]
    unfold tgO at tg
    omega
  have kr : (0 : Int) ≤ k.toInt ∧ k.toInt < 700 := by omega
  unfold w_outEntry
  refine ⟨kr, _, sp_out1 o (by omega) tr, ?_⟩
  rintro A ⟨wA, oc1⟩
  rw [Int32.toInt_toInt64] at oc1
  obtain ⟨a28, a33, abig⟩ := sm A 1 wA
  have oA := wA.2.2.1
  have whA : wH A = wH S := wA.2.2.2.1
  -- the end: d bytes behind the tag
  have fin : ∀ (u : MS) (n : Int) (d : Nat), Wo A n u → ((d : Int) = 1 + n ∧ 2 ≤ n) → ((d : Int) ≤ 9 + (if (qI S 28 k.toInt.toNat).toInt = 1 then 94 else 0)) → ((qI S 28 k.toInt.toNat).toInt = 1 → (d : Int) = 3 + tw (qI u (wH S)) ((oS S).toNat + 1)) → ((qI S 28 k.toInt.toNat).toInt = 3 → d = 5) → ((qI S 28 k.toInt.toNat).toInt = 5 → d = 9) → ((qI S 28 k.toInt.toNat).toInt = 7 → d = 3) → ((qI S 28 k.toInt.toNat).toInt = 9 ∨ (qI S 28 k.toInt.toNat).toInt = 10 ∨ (qI S 28 k.toInt.toNat).toInt = 12 → d = 5) → EnW S (qI S 28 k.toInt.toNat).toInt u := fun u n d w hd hm h1 h3 h5 h7 h9 => by
    have ou : oc (qI u (wH S)) (oS S).toNat = (qI S 28 k.toInt.toNat).toInt := by
      have := w.bt.1 (oS S).toNat (by omega)
      rw [whA] at this
      rw [this]
      exact oc1
    refine ⟨d, ⟨by omega, hm⟩, ?_, ?_, ou⟩
    · have := wA.tr w (by decide)
      rw [show (1 : Int) + n = (d : Int) by omega] at this
      exact this
    · unfold enL
      rw [ou]
      refine ⟨tg, by omega, fun q => ?_, fun q => ?_, fun q => ?_, fun q => ?_, fun q => ?_⟩
      · have := h1 q; omega
      · have := h3 q; omega
      · have := h5 q; omega
      · have := h7 q; omega
      · have := h9 q; omega
  rw [a28]
  refine ⟨kr, fun e => ?_, fun n1 => ?_⟩
  · -- a name
    obtain ⟨t, t1, t2⟩ := tx e
    have ot : qO A 33 k.toInt.toNat = t := by unfold qO; rw [a33, t1]; rfl
    have nt := (abig (t + 1) (by have := t2.2.1.gt; omega)).2.2.2.2
    have len := t2.2.2
    have on : (Int32.ofNat (qN S (t + 1))).toInt = qN S (t + 1) := oN (by omega)
    rw [ot, nt]
    refine ⟨kr, by rw [a33]; exact t1, _, sp_out2 wA.2.1 (by omega) (by rw [Int32.toInt_toInt64, on]; omega), ?_⟩
    rintro B ⟨wB, tw2⟩
    rw [Int32.toInt_toInt64, on, whA, show (oS A).toNat = (oS S).toNat + 1 by omega] at tw2
    have wSB := wA.tr wB (by decide)
    have oB := wB.2.2.1
    have whB : wH B = wH A := wB.2.2.2.1
    have L : ∀ (c : Nat) (U : MS) (i : Int32), (0 ≤ i.toInt ∧ i.toInt ≤ qN S (t + 1)) → Wo B i.toInt U → (100 - i.toInt).toNat < c → w_outEntry_L77 (EnW S (qI S 28 k.toInt.toNat).toInt) c U k i := by
      intro c
      induction c with
      | zero => intro U i _ _ h9; exact absurd h9 (Nat.not_lt_zero _)
      | succ c ih =>
        intro U i i0 wU hc
        have wSU := wSB.tr wU (by decide)
        obtain ⟨u28, u33, ubig⟩ := sm U _ wSU
        have ot' : qO U 33 k.toInt.toNat = t := by unfold qO; rw [u33, t1]; rfl
        have nt' := (ubig (t + 1) (by have := t2.2.1.gt; omega)).2.2.2.2
        have ur : qR U 33 k.toInt.toNat = some t := by rw [u33]; exact t1
        unfold w_outEntry_L77
        rw [ot', nt', on]
        refine ⟨kr, ur, fun c1 => ?_, fun c1 => ⟨kr, ur, ⟨i0.1, by omega⟩, ?_⟩⟩
        · have wAU := wB.tr wU (by decide)
          refine fin U (2 + i.toInt) (3 + qN S (t + 1)) wAU (by omega) (by rw [if_pos e]; omega) (fun _ => ?_) (fun q => by omega) (fun q => by omega) (fun q => by omega) (fun q => by omega)
          have b := wU.bt.2 ((oS S).toNat + 1) (by omega)
          rw [whB, whA] at b
          rw [b, tw2]
          omega
        · have oU := wU.2.2.1
          refine ⟨_, sp_outN (m := 1) wU.2.1 (by decide) (by decide) (by omega), fun V wV a ea => ?_⟩
          subst ea
          have ei : (i + Int32.ofInt 1).toInt = i.toInt + 1 := by rw [t_add (by rw [lo_1]; omega), lo_1]
          refine ih V _ (by omega) ?_ (by omega)
          rw [ei]
          exact wU.tr wV (by omega)
    refine ⟨_, L _ B 0 ⟨by decide, by rw [l0]; omega⟩ ?_ (Nat.lt_succ_self _)⟩
    exact Wo.rf wB.2.1
  · have two2 : ∀ U0 : MS, U0 = A → ((0 : Int) ≤ k.toInt ∧ k.toInt < 700) → (qI S 28 k.toInt.toNat).toInt ≠ 3 → (qI S 28 k.toInt.toNat).toInt ≠ 5 → (qI S 28 k.toInt.toNat).toInt ≠ 7 → ∀ (v1 : Int64) (v2 : MS → Int64), ∃ Q1, w_out A v1 (2 : Int32) Q1 ∧ ∀ U, Q1 U → (((0 : Int) ≤ k.toInt ∧ k.toInt < 700) ∧ ∃ Q2, w_out U (v2 U) (2 : Int32) Q2 ∧ ∀ V, Q2 V → EnW S (qI S 28 k.toInt.toNat).toInt V) := fun _ _ _ m3 m5 m7 v1 v2 => by
      refine ⟨_, sp_outN (m := 2) wA.2.1 (by decide) (by decide) (by omega), fun B wB => ⟨kr, _, sp_outN (m := 2) wB.2.1 (by decide) (by decide) (by have := wB.2.2.1; omega), fun C wC => ?_⟩⟩
      exact fin C 4 5 (wB.tr wC (by decide)) (by decide) (by rw [if_neg n1]; decide) (fun q => absurd q n1) (fun q => rfl) (fun q => absurd q m5) (fun q => absurd q m7) (fun _ => rfl)
    refine ⟨fun e => ?_, fun n2 => ⟨fun e => ⟨kr, ?_⟩, fun n3 => ⟨fun e => ?_, fun n4 => ⟨fun e => ⟨kr, ?_⟩, fun n5 => ⟨fun e => ?_, fun n6 => ⟨fun e => ⟨kr, ?_⟩, fun n7' => ⟨kr, ?_⟩⟩⟩⟩⟩⟩⟩
    · unfold tgO at tg; omega
    · refine ⟨_, sp_outN (m := 4) wA.2.1 (by decide) (by decide) (by omega), fun B wB => ?_⟩
      exact fin B 4 5 wB (by decide) (by rw [if_neg n1]; decide) (fun q => absurd q n1) (fun _ => rfl) (fun q => by omega) (fun q => by omega) (fun q => by omega)
    · unfold tgO at tg; omega
    · refine ⟨_, sp_outN (m := 8) wA.2.1 (by decide) (by decide) (by omega), fun B wB => ?_⟩
      exact fin B 8 9 wB (by decide) (by rw [if_neg n1]; decide) (fun q => absurd q n1) (fun q => by omega) (fun _ => rfl) (fun q => by omega) (fun q => by omega)
    · unfold tgO at tg; omega
    · refine ⟨_, sp_outN (m := 2) wA.2.1 (by decide) (by decide) (by omega), fun B wB => ?_⟩
      exact fin B 2 3 wB (by decide) (by rw [if_neg n1]; decide) (fun q => absurd q n1) (fun q => by omega) (fun q => by omega) (fun _ => rfl) (fun q => by omega)
    · exact two2 A rfl kr n3 n5 n7' _ (fun U => (qI U 31 k.toInt.toNat).toInt64)
