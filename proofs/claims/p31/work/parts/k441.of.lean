/-! outFile, and how its bytes are laid (behind sp_oE, sp_outMethod, sp_collect) -/
def EnB (g : Nat → Int32) (pos : Nat → Nat) (num : Nat → Int) (ne : Nat) : Prop := pos 0 = 10 ∧ num 0 = 1 ∧ ∀ e : Nat, e < ne → enL g (pos e) (pos (e + 1)) ∧ num (e + 1) = num e + (if oc g (pos e) = 5 then 2 else 1)
theorem EnB.up {g : Nat → Int32} {pos : Nat → Nat} {num : Nat → Int} {ne : Nat} (h : EnB g pos num ne) : ∀ d e : Nat, e + d ≤ ne → pos e + 3 * d ≤ pos (e + d) := by
  intro d
  induction d with
  | zero => intro e _; exact Nat.le_refl _
  | succ d ih =>
    intro e hd
    have a := ih e (by omega)
    have b := (h.2.2 (e + d) (by omega)).1.2.1
    rw [show e + (d + 1) = e + d + 1 by omega]
    omega
theorem EnB.mv {g g' : Nat → Int32} {pos : Nat → Nat} {num : Nat → Int} {ne : Nat} (h : EnB g pos num ne) (e : ∀ j : Nat, j < pos ne → g' j = g j) : EnB g' pos num ne := ⟨h.1, h.2.1, fun i hi => by
  obtain ⟨a, b⟩ := h.2.2 i hi
  have u := h.up (ne - (i + 1)) (i + 1) (by omega)
  rw [show i + 1 + (ne - (i + 1)) = ne by omega] at u
  have l := a.2.1
  have eo : oc g' (pos i) = oc g (pos i) := by unfold oc; rw [e _ (by omega)]
  rw [eo]
  exact ⟨a.mv (fun j hj => e j (by omega)), b⟩⟩
def MtB (g : Nat → Int32) (mp : Nat → Nat) (M : Nat) : Prop := ∀ i : Nat, i < M → tw g (mp i + 6) = 1 ∧ (12 ≤ fo g (mp i + 10) ∧ fo g (mp i + 10) ≤ 4040) ∧ (mp (i + 1) : Int) = mp i + 14 + fo g (mp i + 10)
theorem MtB.up {g : Nat → Int32} {mp : Nat → Nat} {M : Nat} (h : MtB g mp M) : ∀ d i : Nat, i + d ≤ M → mp i + 14 * d ≤ mp (i + d) := by
  intro d
  induction d with
  | zero => intro i _; exact Nat.le_refl _
  | succ d ih =>
    intro i hd
    have a := ih i (by omega)
    have b := h (i + d) (by omega)
    rw [show i + (d + 1) = i + d + 1 by omega]
    omega
theorem MtB.mv {g g' : Nat → Int32} {mp : Nat → Nat} {M : Nat} (h : MtB g mp M) (e : ∀ j : Nat, j < mp M → g' j = g j) : MtB g' mp M := fun i hi => by
  have b := h i hi
  have u := h.up (M - (i + 1)) (i + 1) (by omega)
  rw [show i + 1 + (M - (i + 1)) = M by omega] at u
  have e1 : tw g' (mp i + 6) = tw g (mp i + 6) := by unfold tw oc; rw [e _ (by omega), e _ (by omega)]
  have e2 : fo g' (mp i + 10) = fo g (mp i + 10) := by unfold fo tw oc; rw [e _ (by omega), e _ (by omega), e _ (by omega), e _ (by omega)]
  rw [e1, e2]
  exact b
def LayB (g : Nat → Int32) (n : Int) : Prop := ∃ (pos : Nat → Nat) (num : Nat → Int) (ne F M : Nat) (mp : Nat → Nat), EnB g pos num ne ∧ tw g 8 = num ne ∧ (F ≤ 24 ∧ tw g (pos ne + 8) = F ∧ ∀ i : Nat, i < F → tw g (pos ne + 10 + 8 * i + 6) = 0) ∧ (M ≤ 24 ∧ tw g (pos ne + 10 + 8 * F) = M) ∧ mp 0 = pos ne + 12 + 8 * F ∧ MtB g mp M ∧ tw g (mp M) = 0 ∧ n = mp M + 2
theorem xtN {α : Type} (f : Nat → α) (i : Nat) (v : α) : ∃ g : Nat → α, (∀ j : Nat, j ≤ i → g j = f j) ∧ g (i + 1) = v := ⟨fun j => if j ≤ i then f j else v, fun _ hj => if_pos hj, if_neg (by omega)⟩
section OFX
variable {NL : List Nat} {kp : Prop} {AL : List (MS → Prop)}
def FlW (NL : List Nat) (kp : Prop) (AL : List (MS → Prop)) (S u : MS) : Prop := frm WA JM S u ∧ OuI u ∧ wH u = wH S ∧ LayB (qI u (wH u)) (oS u)
theorem sp_of_L196 {p : Nat} {E S0 : MS} {Q : MS → Prop} (f0 : frm WA JM S0 E) (cf : CfI NL kp AL p E) (ro : RoI p E) (ck : CkF kp AL p E) (tx : TxI E) (hw : WrI NL kp AL E) (ou : OuI E) (hr : oS E ≤ 17000) (hQ : ∀ (u : MS) (mp : Nat → Nat), mp 0 = (oS E).toNat → MtB (qI u (wH E)) mp (qI E p 4).toInt.toNat → Wg NL kp AL WA JM E (mp (qI E p 4).toInt.toNat + 2 - oS E) u → tw (qI u (wH E)) (mp (qI E p 4).toInt.toNat) = 0 → Q u) : ∀ (c : Nat) (U : MS) (i : Int32) (mp : Nat → Nat), (0 ≤ i.toInt ∧ i.toInt ≤ (qI E p 4).toInt) → mp 0 = (oS E).toNat → (mp i.toInt.toNat : Int) ≤ oS E + 4054 * i.toInt → MtB (qI U (wH E)) mp i.toInt.toNat → Wg NL kp AL WA JM E (mp i.toInt.toNat - oS E) U → (24 - i.toInt).toNat < c → w_outFile_L196 Q (eK kp S0) c U p i := by
  have p60 : 60 ≤ p := by have := cf.2.1.1; omega
  have cS := cf.1
  have b4 := cf.2.2.1
  have o0 := ou.2.2.2.1
  intro c
  induction c with
  | zero => intro U i mp _ _ _ _ _ h9; exact absurd h9 (Nat.not_lt_zero _)
  | succ c ih =>
    intro U i mp i0 m0 mb hM wU hc
    have mu := hM.up i.toInt.toNat 0 (by omega)
    rw [Nat.zero_add] at mu
    have u4 : qI U p 4 = qI E p 4 := by rw [(hi_frm wU.1 (by decide) p p60).1]
    have eU := wU.2.1.2.1
    have whU : wH U = wH E := wU.2.1.2.2
    unfold w_outFile_L196
    rw [u4]
    refine ⟨fun c1 => ?_, fun c1 => ?_⟩
    · have ei : i.toInt.toNat = (qI E p 4).toInt.toNat := by omega
      rw [ei] at hM wU mb eU mu
      refine ⟨_, sp_out2 wU.2.1.1 (by omega) (by decide), ?_⟩
      rintro V ⟨wV, t0⟩
      rw [whU, show (oS U).toNat = mp (qI E p 4).toInt.toNat by omega] at t0
      have wV' := wU.tr ((Wx.o wV wU.2.2.2.1 cS).g (by decide) (by decide)) (by omega)
      rw [show (mp (qI E p 4).toInt.toNat : Int) - oS E + 2 = mp (qI E p 4).toInt.toNat + 2 - oS E by omega] at wV'
      refine hQ V mp m0 (hM.mv (fun j hj => ?_)) wV' (by rw [t0]; decide)
      have := wV.2.2.2.2 j (by omega)
      rw [whU] at this
      exact this
    · have cfU := cf.fm wU.1 (by decide)
      have roU := ro.fm wU.1 (by decide)
      have ckU := ck.fm ro wU.1 (by decide)
      refine ⟨_, _, sp_outMethod cfU roU ckU (tx.kp wU.2.2.2.2.kp) wU.2.2.2.1 wU.2.1.1 ⟨i0.1, by rw [u4]; omega⟩ (by omega), ?_, fun u q => ⟨q.1, q.2.1, (f0.tr wU.1).tr q.2.2⟩⟩
      rintro V ⟨d, d1, wV, t1, f1⟩ a ea
      subst ea
      have ei : (i + Int32.ofInt 1).toInt = i.toInt + 1 := by rw [t_add (by rw [lo_1]; omega), lo_1]
      have ein : (i + Int32.ofInt 1).toInt.toNat = i.toInt.toNat + 1 := by omega
      have epos : (oS U).toNat = mp i.toInt.toNat := by omega
      rw [whU, epos] at t1 f1
      have wV' := wU.tr wV (by omega)
      obtain ⟨mq, mq0, nx⟩ := xtN mp i.toInt.toNat (mp i.toInt.toNat + 14 + d.toNat)
      refine ih V _ mq (by omega) (by rw [mq0 0 (Nat.zero_le _)]; exact m0) (by rw [ein, nx]; omega) (fun j hj => ?_) ?_ (by omega)
      · rw [ein] at hj
        rw [mq0 j (by omega)]
        by_cases q : j = i.toInt.toNat
        · rw [q, nx, f1]
          exact ⟨t1, d1, by omega⟩
        · rw [mq0 (j + 1) (by omega)]
          have hV : MtB (qI V (wH E)) mp i.toInt.toNat := hM.mv (fun z hz => by
            have := wV.2.2.1 z (by omega)
            rw [whU] at this
            exact this)
          exact hV j (by omega)
      · rw [ein, nx, show ((mp i.toInt.toNat + 14 + d.toNat : Nat) : Int) - oS E = mp i.toInt.toNat - oS E + (14 + d) by omega]
        exact wV'
theorem sp_outFile {p : Nat} {S : MS} (cf : CfI NL kp AL p S) (ro : RoI p S) (ck : CkF kp AL p S) (tx : TxI S) (ou : OuJ S) : w_outFile S p (FlW NL kp AL S) (eK kp S) := by
  have p60 : 60 ≤ p := by have := cf.2.1.1; omega
  have cS := cf.1
  have bF := cf.2.2.1
  unfold w_outFile
  refine eb_co (sp_collect cf ro ck) ou.2.2 frm.rf ?_
  rintro A ⟨hA, fA⟩ B eB C eC
  have fC : frm [] [47, 77] A C := (show frm [] [47, 77] A B by rw [eB]; exact frm.pR0 (by decide)).tr (by rw [eC]; exact frm.pI0 (by decide))
  have fSC : frm WA JM S C := (fA.mo (by decide) (by decide)).tr (fC.mo (by decide) (by decide))
  have cfC := cf.fm fSC (by decide)
  have roC := ro.fm fSC (by decide)
  have ckC := ck.fm ro fSC (by decide)
  have hC : WrI NL kp AL C := hA.f9 cS fC (by decide) (by decide)
  have ouA := ou.fm fA (by decide) (by decide) (by decide) (by decide)
  have c77 : oS C = 0 := by show (qI C 0 77).toInt = 0; rw [eC, qI_wI, if_pos ⟨rfl, rfl⟩]; rfl
  have r75 : ∀ j : Nat, j ≠ 47 → qR C 0 j = qR A 0 j := fun j hj => (by rw [eC]; show qR B 0 j = _; rw [eB, qR_wR, if_neg (fun q => hj q.2)])
  have ouC : OuI C := by
    have o5 : qO C 0 75 = qO A 0 75 := by unfold qO; rw [r75 75 (by decide)]
    have o6 : qO C 0 76 = qO A 0 76 := by unfold qO; rw [r75 76 (by decide)]
    refine ⟨by rw [o5, o6, r75 75 (by decide), r75 76 (by decide)]; exact ouA.1, by rw [fC.2.1]; exact ouA.2.1, ⟨fun i => by rw [(fC.2.2.2.2.1 34 (by decide) (by decide)).1]; exact ouA.2.2.1 i, fun i => by rw [(fC.2.2.2.2.1 35 (by decide) (by decide)).1]; exact ouA.2.2.2 i⟩, by omega, by omega⟩
  have whC : wH C = wH S := by
    show qO C 0 75 = qO S 0 75
    unfold qO
    rw [r75 75 (by decide), (fA.2.2.2.2.2 75 (by decide)).2.2]
  have hBk := hC.1
  have n7 := hBk.1
  have nxC := hC.2.1.2
  have nm : nmK C ≤ 103 := by
    have a := hC.2.2.1
    have b := cntL_le (U := C) (NL.map kN)
    rw [List.length_map] at b
    have := cS.2.1
    omega
  have l0 : (0 : Int32).toInt = 0 := rfl
  have bC := cfC.2.2.1
  -- the methods
  have Lm : ∀ (D : MS) (P : Nat) (E : MS) (ne : Nat) (pos : Nat → Nat) (num : Nat → Int), Wg NL kp AL WA JM C P D → EnB (qI D (wH C)) pos num ne → pos ne = P → P ≤ 16000 → tw (qI D (wH C)) 8 = num ne → Wg NL kp AL WA JM D (10 + 8 * (qI C p 3).toInt) E → tw (qI E (wH C)) (P + 8) = (qI C p 3).toInt → (∀ j : Nat, (j : Int) < (qI C p 3).toInt → tw (qI E (wH C)) (P + 10 + 8 * j + 6) = 0) → ∃ Q39, w_out E ((qI E p 4).toInt64) (2 : Int32) Q39 ∧ ∀ S40, Q39 S40 → (∃ n, w_outFile_L196 (FlW NL kp AL S) (eK kp S) n S40 p 0) := fun D P E ne pos num wD hEn eP hP t8 wE tF hF => by
    have wCE := wD.tr wE (by omega)
    have cfE := cfC.fm wCE.1 (by decide)
    have e4 : qI E p 4 = qI C p 4 := by rw [(hi_frm wCE.1 (by decide) p p60).1]
    have c3 : qI C p 3 = qI S p 3 := by rw [(hi_frm fSC (by decide) p p60).1]
    have c4 : qI C p 4 = qI S p 4 := by rw [(hi_frm fSC (by decide) p p60).1]
    have eE := wCE.2.1.2.1
    have whE : wH E = wH C := wCE.2.1.2.2
    refine ⟨_, sp_out2 wCE.2.1.1 (by omega) (by rw [Int32.toInt_toInt64, e4, c4]; omega), ?_⟩
    rintro G ⟨wG0, tM⟩
    rw [Int32.toInt_toInt64, e4, whE, show (oS E).toNat = P + 10 + 8 * (qI C p 3).toInt.toNat by omega] at tM
    have wG := wCE.tr ((Wx.o wG0 wCE.2.2.2.1 cS).g (by decide) (by decide)) (by omega)
    have eG := wG.2.1.2.1
    have whG : wH G = wH C := wG.2.1.2.2
    have g4 : qI G p 4 = qI C p 4 := by rw [(hi_frm wG.1 (by decide) p p60).1]
    have oG : (oS G).toNat = P + 12 + 8 * (qI C p 3).toInt.toNat := by omega
    refine ⟨_, sp_of_L196 (E := G) (fSC.tr wG.1) (cfC.fm wG.1 (by decide)) (roC.fm wG.1 (by decide)) (ckC.fm roC wG.1 (by decide)) ((tx.kp (kpW.f9 fSC (by decide))).kp wG.2.2.2.2.kp) wG.2.2.2.1 wG.2.1.1 (by omega) (fun u mp m0 mB wu tz => ?_) _ G 0 (fun _ => (oS G).toNat) ⟨by decide, by rw [l0, g4, c4]; omega⟩ rfl (by rw [l0]; show (((oS G).toNat : Nat) : Int) ≤ oS G + 4054 * 0; omega) (fun j hj => absurd hj (Nat.not_lt_zero _)) (by show Wg NL kp AL WA JM G (((oS G).toNat : Nat) - oS G) G; rw [show (((oS G).toNat : Nat) : Int) - oS G = 0 by omega]; exact Wg.rf wG.2.2.2.1 wG.2.1.1) (Nat.lt_succ_self _)⟩
    rw [whG] at mB tz
    rw [g4] at mB tz wu
    have whu : wH u = wH C := wu.2.1.2.2.trans whG
    have keep : ∀ j : Nat, j < P + 12 + 8 * (qI C p 3).toInt.toNat → qI u (wH C) j = qI G (wH C) j := fun j hj => by
      have := wu.2.2.1 j (by omega)
      rw [whG] at this
      exact this
    have keepE : ∀ j : Nat, j < P + 10 + 8 * (qI C p 3).toInt.toNat → qI u (wH C) j = qI E (wH C) j := fun j hj => by
      rw [keep j (by omega)]
      have := wG0.2.2.2.2 j (by omega)
      rw [whE] at this
      exact this
    have keepD : ∀ j : Nat, j < P → qI u (wH C) j = qI D (wH C) j := fun j hj => by
      rw [keepE j (by omega)]
      have whD : wH D = wH C := wD.2.1.2.2
      have := wE.2.2.1 j (by have := wD.2.1.2.1; omega)
      rw [whD] at this
      exact this
    have tws : ∀ (g g' : Nat → Int32) (j : Nat), g' j = g j → g' (j + 1) = g (j + 1) → tw g' j = tw g j := fun g g' j h1 h2 => by unfold tw oc; rw [h1, h2]
    refine ⟨fSC.tr (wG.1.tr wu.1), wu.2.1.1, by rw [whu]; exact whC, pos, num, ne, (qI C p 3).toInt.toNat, (qI C p 4).toInt.toNat, mp, ?_, ?_, ⟨by omega, ?_, fun i hi => ?_⟩, ⟨by omega, ?_⟩, ?_, ?_, ?_, ?_⟩
    · rw [whu]; exact hEn.mv (fun j hj => keepD j (by omega))
    · have u := hEn.up ne 0 (by omega)
      have p0 := hEn.1
      rw [Nat.zero_add] at u
      rw [whu, tws _ _ 8 (keepD 8 (by omega)) (keepD (8 + 1) (by omega))]; exact t8
    · rw [whu, eP, tws _ _ _ (keepE _ (by omega)) (keepE _ (by omega)), tF]; omega
    · rw [whu, eP, tws _ _ _ (keepE _ (by omega)) (keepE _ (by omega))]; exact hF i (by omega)
    · rw [whu, eP, tws _ _ _ (keep _ (by omega)) (keep _ (by omega)), tM]; omega
    · rw [m0, oG, eP]
    · rw [whu]; exact mB
    · rw [whu]; exact tz
    · have := wu.2.1.2.1; omega
  -- the fields
  have Lf : ∀ (D : MS) (P ne : Nat) (pos : Nat → Nat) (num : Nat → Int), Wg NL kp AL WA JM C P D → EnB (qI D (wH C)) pos num ne → pos ne = P → P ≤ 16000 → tw (qI D (wH C)) 8 = num ne → ∀ (c : Nat) (U : MS) (i : Int32), (0 ≤ i.toInt ∧ i.toInt ≤ (qI C p 3).toInt) → Wg NL kp AL WA JM D (10 + 8 * i.toInt) U → tw (qI U (wH C)) (P + 8) = (qI C p 3).toInt → (∀ j : Nat, (j : Int) < i.toInt → tw (qI U (wH C)) (P + 10 + 8 * j + 6) = 0) → (24 - i.toInt).toNat < c → w_outFile_L124 (FlW NL kp AL S) (eK kp S) c U p i := by
    intro D P ne pos num wD hEn eP hP t8 c
    induction c with
    | zero => intro U i _ _ _ _ h9; exact absurd h9 (Nat.not_lt_zero _)
    | succ c ih =>
      intro U i i0 wU tF hF hc
      have wCU := wD.tr wU (by omega)
      have hiU := hi_frm wCU.1 (by decide)
      have u3 : qI U p 3 = qI C p 3 := by rw [(hiU p p60).1]
      have c3 : qI C p 3 = qI S p 3 := by rw [(hi_frm fSC (by decide) p p60).1]
      unfold w_outFile_L124
      rw [u3]
      refine ⟨fun c1 => ?_, fun c1 => ?_⟩
      · have ei : i.toInt = (qI C p 3).toInt := by omega
        rw [ei] at wU hF
        exact Lm D P U ne pos num wD hEn eP hP t8 wU tF hF
      · obtain ⟨n, t, n1, t1, hn, ht, _⟩ := (cfC.2.2.2.choose_spec.choose_spec.2.2.2.2.2.1) i.toInt.toNat (by omega)
        have nmx : ∀ (V : MS) (a : Int) (j : Nat) (n : Nat), Wg NL kp AL WA JM C a V → j < 13 → qR C (p + 1 + j) i.toInt.toNat = some n → qR V p (5 + j) = some (p + 1 + j) ∧ qO V p (5 + j) = p + 1 + j ∧ qN V (p + 1 + j) = 24 ∧ qR V (p + 1 + j) i.toInt.toNat = some n ∧ qO V (p + 1 + j) i.toInt.toNat = n := fun V a j n w hj hn => by
          have hi' := hi_frm w.1 (by decide)
          have r := cfC.2.1.2 j hj
          have z := hi' (p + 1 + j) (by omega)
          have r1 : qR V p (5 + j) = some (p + 1 + j) := by rw [(hi' p p60).2.2.1]; exact r.1
          have r2 : qR V (p + 1 + j) i.toInt.toNat = some n := by rw [z.2.2.1]; exact hn
          exact ⟨r1, by unfold qO; rw [r1]; rfl, by rw [z.2.2.2.2]; exact r.2, r2, by unfold qO; rw [r2]; rfl⟩
        have eD := wD.2.1.2.1
        have eU := wU.2.1.2.1
        refine sp_ob cS wU.2.2.2.1 wU.2.1.1 (m := 2) (by decide) (by decide) (by omega) (fun V1 x1 => ?_)
        have wC1 := wCU.tr (x1.g (W := WA) (J := JM) (by decide) (by decide)) (by omega)
        obtain ⟨a1, a2, a3, a4, a5⟩ := nmx V1 _ 0 n wC1 (by decide) n1
        rw [show (5 : Nat) = 5 + 0 from rfl, a2, a5]
        refine ⟨a1, ⟨i0.1, by rw [a3]; omega⟩, a4, eb_nm (sp_nm cS x1.2.2.2.1 hn.1 (hn.2.1.mv wC1.2.2.2.2.kp) hn.2.2) x1.2.1.1.2.2.1 (fSC.tr wC1.1) ?_⟩
        rintro r V2 ⟨h2, y2, _⟩
        have x2 := x1.tr (Wx.b y2 h2 x1.2.1.1) (by decide)
        refine sp_ob cS x2.2.2.2.1 x2.2.1.1 (m := 2) (by decide) (by decide) (by have := x2.2.1.2.1; omega) (fun V3 y3 => ?_)
        have x3 := x2.tr y3 (by decide)
        have wC3 := wCU.tr (x3.g (W := WA) (J := JM) (by decide) (by decide)) (by omega)
        obtain ⟨b1, b2, b3, b4, b5⟩ := nmx V3 _ 1 t wC3 (by decide) t1
        rw [show (6 : Nat) = 5 + 1 from rfl, b2, b5]
        refine ⟨b1, ⟨i0.1, by rw [b3]; omega⟩, b4, eb_nm (sp_nm cS x3.2.2.2.1 ht.1 (ht.2.1.mv wC3.2.2.2.2.kp) ht.2.2) x3.2.1.1.2.2.1 (fSC.tr wC3.1) ?_⟩
        rintro r2 V4 ⟨h4, y4, _⟩
        have x4 := x3.tr (Wx.b y4 h4 x3.2.1.1) (by decide)
        refine sp_ob cS x4.2.2.2.1 x4.2.1.1 (m := 2) (by decide) (by decide) (by have := x4.2.1.2.1; omega) (fun V5 y5 => ?_)
        have x5 := x4.tr y5 (by decide)
        have e5 := x5.2.1.2.1
        refine ⟨_, sp_out2 x5.2.1.1 (by omega) (by decide), ?_⟩
        rintro V6 ⟨w6, tz⟩ a ea
        subst ea
        have ei : (i + Int32.ofInt 1).toInt = i.toInt + 1 := by rw [t_add (by rw [lo_1]; omega), lo_1]
        have whD : wH D = wH C := wD.2.1.2.2
        have whU : wH U = wH C := wU.2.1.2.2.trans whD
        have wh5 : wH V5 = wH C := x5.2.1.2.2.trans whU
        rw [wh5, show (oS V5).toNat = P + 10 + 8 * i.toInt.toNat + 6 by omega] at tz
        have x6 := x5.tr (Wx.o w6 x5.2.2.2.1 cS) (by decide)
        have wU6 : ∀ j : Nat, (j : Int) < oS U → qI V6 (wH C) j = qI U (wH C) j := fun j hj => by
          have := x6.2.2.1 j hj
          rw [whU] at this
          exact this
        have tws : ∀ (g g' : Nat → Int32) (j : Nat), g' j = g j → g' (j + 1) = g (j + 1) → tw g' j = tw g j := fun g g' j h1 h2 => by unfold tw oc; rw [h1, h2]
        refine ih V6 _ (by omega) ?_ ?_ (fun j hj => ?_) (by omega)
        · rw [ei]
          have w6' := wU.tr (x6.g (by decide) (by decide)) (by omega)
          rw [show (10 : Int) + 8 * (i.toInt + 1) = 10 + 8 * i.toInt + (2 + 0 + 2 + 0 + 2 + 2) by omega]
          exact w6'
        · rw [tws _ _ _ (wU6 _ (by omega)) (wU6 _ (by omega))]; exact tF
        · by_cases q : (j : Int) = i.toInt
          · rw [show P + 10 + 8 * j + 6 = P + 10 + 8 * i.toInt.toNat + 6 by omega, tz]; decide
          · rw [tws _ _ _ (wU6 _ (by omega)) (wU6 _ (by omega))]; exact hF j (by omega)
  -- the entries
  have cn3 : ∀ k : Nat, (k : Int) ≤ ndN C → cnG (qI C 28) k ≤ 103 := fun k hk => by
    have := sumN_mo (g := fun j => if (qI C 28 j).toInt = 1 then 1 else 0) ((ndN C).toNat - k) k
    rw [show k + ((ndN C).toNat - k) = (ndN C).toNat by omega] at this
    exact Nat.le_trans this nm
  have Le : ∀ (c : Nat) (U : MS) (i : Int32) (pos : Nat → Nat) (num : Nat → Int), (0 ≤ i.toInt ∧ i.toInt ≤ ndN C) → Wo C (pos i.toInt.toNat) U → EnB (qI U (wH C)) pos num i.toInt.toNat → num i.toInt.toNat = nxN (qI C 28) i.toInt.toNat → (pos i.toInt.toNat : Int) ≤ 10 + 9 * i.toInt + 94 * cnG (qI C 28) i.toInt.toNat → tw (qI U (wH C)) 8 = nxN (qI C 28) (ndN C).toNat → (700 - i.toInt).toNat < c → w_outFile_L51 (FlW NL kp AL S) (eK kp S) c U p i := by
    intro c
    induction c with
    | zero => intro U i pos num _ _ _ _ _ _ h9; exact absurd h9 (Nat.not_lt_zero _)
    | succ c ih =>
      intro U i pos num i0 wU hEn hnum hb t8 hc
      have cc := cn3 i.toInt.toNat (by omega)
      have u73 : qI U 0 73 = qI C 0 73 := (wU.1.2.2.2.2.2 73 (by decide)).1
      have u28 : qI U 28 = qI C 28 := (wU.1.2.2.2.2.1 28 (by decide) (by decide)).1
      have eU := wU.2.2.1
      have whU : wH U = wH C := wU.2.2.2.1
      have hU : WrI NL kp AL U := hC.f9 cS wU.1 (by decide) (by decide)
      have ndU : ndN U = ndN C := by unfold ndN; rw [u73]
      have e73 : (qI C 0 73).toInt = ndN C := rfl
      unfold w_outFile_L51
      rw [u73, e73]
      refine ⟨fun c1 => ?_, fun c1 => ?_⟩
      · have ei : i.toInt.toNat = (ndN C).toNat := by omega
        rw [ei] at hEn hnum wU hb eU cc
        have gU : Wg NL kp AL WA JM C (pos (ndN C).toNat) U := (Wx.o wU hC cS).g (by decide) (by decide)
        have P16 : (pos (ndN C).toNat : Int) ≤ 16000 := by omega
        refine sp_ob cS hU wU.2.1 (m := 2) (by decide) (by decide) (by omega) (fun V1 x1 => ?_)
        have w1 := gU.tr (x1.g (W := WA) (J := JM) (by decide) (by decide)) (by omega)
        obtain ⟨cS', _, _, o, ab, ⟨r0, r1⟩, ⟨o1, o2⟩, ⟨p1, p2⟩, _⟩ := cfC
        have z0 : qR V1 p 0 = some o := by rw [(hi_frm w1.1 (by decide) p p60).2.2.1]; exact r0
        have q0 : qO V1 p 0 = o := by unfold qO; rw [z0]; rfl
        rw [q0]
        refine ⟨z0, eb_cls (sp_cls cS x1.2.2.2.1 o1.1 (o1.2.1.mv w1.2.2.2.2.kp) o1.2.2 o2) x1.2.1.1.2.2.1 (fSC.tr w1.1) ?_⟩
        rintro r V2 ⟨h2, y2, _⟩
        have x2 := x1.tr (Wx.b y2 h2 x1.2.1.1) (by decide)
        refine sp_ob cS x2.2.2.2.1 x2.2.1.1 (m := 2) (by decide) (by decide) (by have := x2.2.1.2.1; omega) (fun V3 y3 => ?_)
        have x3 := x2.tr y3 (by decide)
        have w3 := gU.tr (x3.g (W := WA) (J := JM) (by decide) (by decide)) (by omega)
        have z1 : qR V3 p 1 = some ab := by rw [(hi_frm w3.1 (by decide) p p60).2.2.1]; exact r1
        have q1 : qO V3 p 1 = ab := by unfold qO; rw [z1]; rfl
        rw [q1]
        refine ⟨z1, eb_cls (sp_cls cS x3.2.2.2.1 p1.1 (p1.2.1.mv w3.2.2.2.2.kp) p1.2.2 p2) x3.2.1.1.2.2.1 (fSC.tr w3.1) ?_⟩
        rintro r2 V4 ⟨h4, y4, _⟩
        have x4 := x3.tr (Wx.b y4 h4 x3.2.1.1) (by decide)
        refine sp_ob cS x4.2.2.2.1 x4.2.1.1 (m := 2) (by decide) (by decide) (by have := x4.2.1.2.1; omega) (fun V5 y5 => ?_)
        have x5 := x4.tr y5 (by decide)
        refine sp_ob cS x5.2.2.2.1 x5.2.1.1 (m := 2) (by decide) (by decide) (by have := x5.2.1.2.1; omega) (fun V6 y6 => ?_)
        have x6 := x5.tr y6 (by decide)
        have e6 := x6.2.1.2.1
        have v3 : qI V6 p 3 = qI C p 3 := by rw [(hi_frm x6.1 (by decide) p p60).1, (hi_frm gU.1 (by decide) p p60).1]
        rw [v3]
        refine ⟨_, sp_out2 x6.2.1.1 (by omega) (by rw [Int32.toInt_toInt64]; omega), ?_⟩
        rintro V7 ⟨y7, tF⟩
        have x7 := x6.tr (Wx.o y7 x6.2.2.2.1 cS) (by decide)
        have wh6 : wH V6 = wH C := x6.2.1.2.2.trans whU
        rw [Int32.toInt_toInt64, wh6, show (oS V6).toNat = pos (ndN C).toNat + 8 by omega] at tF
        have g7 : Wg NL kp AL WA JM U 10 V7 := x7.g (by decide) (by decide)
        refine ⟨_, Lf U (pos (ndN C).toNat) (ndN C).toNat pos num gU hEn rfl (by omega) (by rw [hnum]; exact t8) _ V7 0 ⟨by decide, by rw [l0]; omega⟩ ?_ tF (fun j hj => by rw [l0] at hj; omega) (Nat.lt_succ_self _)⟩
        rw [l0]
        exact g7
      · refine ⟨_, sp_oE hU.1 wU.2.1 ⟨i0.1, by rw [ndU]; omega⟩ (by omega), ?_⟩
        rintro V ⟨d, ⟨d1, d2⟩, wV, el, eo⟩ a ea
        subst ea
        rw [u28] at d2 eo
        have ei : (i + Int32.ofInt 1).toInt = i.toInt + 1 := by rw [t_add (by rw [lo_1]; omega), lo_1]
        have ein : (i + Int32.ofInt 1).toInt.toNat = i.toInt.toNat + 1 := by omega
        have epos : (oS U).toNat = pos i.toInt.toNat := by omega
        rw [whU, epos] at el eo
        obtain ⟨pos', pe, nx⟩ := xtN pos i.toInt.toNat (pos i.toInt.toNat + d)
        obtain ⟨num', ne', nm'⟩ := xtN num i.toInt.toNat (nxN (qI C 28) (i.toInt.toNat + 1))
        have wCV := wU.tr wV (by omega)
        have p10 := hEn.1
        have up := hEn.up i.toInt.toNat 0 (by omega)
        rw [Nat.zero_add] at up
        have keep : ∀ j : Nat, j < pos i.toInt.toNat → qI V (wH C) j = qI U (wH C) j := fun j hj => by
          have := wV.2.2.2.2 j (by omega)
          rw [whU] at this
          exact this
        have hV := hEn.mv keep
        refine ih V _ pos' num' (by omega) (by rw [ein, nx, show ((pos i.toInt.toNat + d : Nat) : Int) = (pos i.toInt.toNat : Int) + d by omega]; exact wCV) ⟨by rw [pe 0 (Nat.zero_le _)]; exact p10, by rw [ne' 0 (Nat.zero_le _)]; exact hEn.2.1, fun j hj => ?_⟩ (by rw [ein, nm']) ?_ ?_ (by omega)
        · rw [ein] at hj
          rw [pe j (by omega), ne' j (by omega)]
          by_cases q : j = i.toInt.toNat
          · rw [q, nx, nm', eo, hnum]
            exact ⟨el, rfl⟩
          · rw [pe (j + 1) (by omega), ne' (j + 1) (by omega)]
            exact hV.2.2 j (by omega)
        · rw [ein, nx, cnG_st, ei]
          by_cases z : (qI C 28 i.toInt.toNat).toInt = 1
          · rw [if_pos z] at d2 ⊢; omega
          · rw [if_neg z] at d2 ⊢; omega
        · have e : tw (qI V (wH C)) 8 = tw (qI U (wH C)) 8 := by unfold tw oc; rw [keep 8 (by omega), keep (8 + 1) (by omega)]
          rw [e]; exact t8
  -- the head
  have Lh : ∀ (c : Nat) (U : MS) (i : Int32), (0 ≤ i.toInt ∧ i.toInt ≤ 8) → Wo C i.toInt U → (8 - i.toInt).toNat < c → w_outFile_L17 (FlW NL kp AL S) (eK kp S) c U p i := by
    intro c
    induction c with
    | zero => intro U i _ _ h9; exact absurd h9 (Nat.not_lt_zero _)
    | succ c ih =>
      intro U i i0 wU hc
      have eU := wU.2.2.1
      have whU : wH U = wH C := wU.2.2.2.1
      unfold w_outFile_L17
      refine ⟨fun c1 => ?_, fun c1 => ?_⟩
      · have u74 : qI U 0 74 = qI C 0 74 := (wU.1.2.2.2.2.2 74 (by decide)).1
        have b74 := hBk.2.1
        rw [u74]
        refine ⟨_, sp_out2 wU.2.1 (by omega) (by rw [Int32.toInt_toInt64]; omega), ?_⟩
        rintro V ⟨wV, t8⟩
        rw [Int32.toInt_toInt64, whU, show (oS U).toNat = 8 by omega, nxC] at t8
        have w10 := wU.tr wV i0.1
        rw [show i.toInt + 2 = 10 by omega] at w10
        exact ⟨_, Le _ V 0 (fun _ => 10) (fun _ => 1) ⟨by decide, by rw [l0]; omega⟩ w10 ⟨rfl, rfl, fun e he => absurd he (Nat.not_lt_zero _)⟩ rfl (by rw [l0]; show (10 : Int) ≤ 10 + 9 * 0 + 94 * ((0 : Nat) : Int); decide) t8 (Nat.lt_succ_self _)⟩
      · have dh : d_headByte U i := by unfold d_headByte; simp only [ite_self]
        refine ⟨dh, _, sp_outN (m := 1) wU.2.1 (by decide) (by decide) (by omega), fun V wV a ea => ?_⟩
        subst ea
        have ei : (i + Int32.ofInt 1).toInt = i.toInt + 1 := by rw [t_add (by rw [lo_1]; omega), lo_1]
        refine ih V _ (by omega) ?_ (by omega)
        rw [ei]
        exact wU.tr wV i0.1
  exact ⟨_, Lh _ C 0 ⟨by decide, by decide⟩ (Wo.rf ouC) (Nat.lt_succ_self _)⟩
end OFX
/-! what is read of bytes that were written: octets, an entry, attributes (behind enL, sp_over, ENq) -/
theorem an8 {v : Int32} : (v &&& (255 : Int32)).toInt = v.toInt % 256 := by
  have h1 : (v &&& (255 : Int32)).toBitVec.toNat = v.toBitVec.toNat % 256 := by
    rw [Int32.toBitVec_and, BitVec.toNat_and]
    exact Nat.and_two_pow_sub_one_eq_mod _ 8
  have h2 : (v &&& (255 : Int32)).toInt = ((v &&& (255 : Int32)).toBitVec.toNat : Int) := by
    rw [← Int32.toInt_toBitVec]
    exact BitVec.toInt_eq_toNat_of_lt (by omega)
  have h3 : v.toInt = if 2 * v.toBitVec.toNat < 2 ^ 32 then (v.toBitVec.toNat : Int) else (v.toBitVec.toNat : Int) - ((2 ^ 32 : Nat) : Int) := by
    rw [← Int32.toInt_toBitVec, BitVec.toInt_eq_toNat_cond]
  rw [h2, h1, h3]
  split <;> omega
theorem sl8 {a b : Int32} (ha : 0 ≤ a.toInt ∧ a.toInt < 256) (hb : 0 ≤ b.toInt ∧ b.toInt < 256) : ((a <<< ((8 : Int32) &&& 31)) ||| b).toInt = 256 * a.toInt + b.toInt := by
  obtain ⟨m, em⟩ : ∃ m : Nat, m = a.toInt.toNat := ⟨_, rfl⟩
  obtain ⟨n, en⟩ : ∃ n : Nat, n = b.toInt.toNat := ⟨_, rfl⟩
  have ea : a = nI m := by
    apply Int32.toInt_inj.mp
    rw [nI_toInt (by omega)]
    omega
  have eb : b = nI n := by
    apply Int32.toInt_inj.mp
    rw [nI_toInt (by omega)]
    omega
  have es : a <<< ((8 : Int32) &&& 31) = nI (m * 2 ^ 8) := by
    rw [ea]
    exact pk_shlN _ 8 (by decide) (by omega)
  have ez : (a <<< ((8 : Int32) &&& 31)) ||| b = nI (m * 2 ^ 8 + n) := by
    apply Int32.toBitVec_inj.mp
    apply BitVec.eq_of_toNat_eq
    rw [Int32.toBitVec_or, BitVec.toNat_or, es, eb, pk_tn (by omega), pk_tn (by omega), pk_tn (by omega), ← Nat.shiftLeft_eq]
    exact (Nat.shiftLeft_add_eq_or_of_lt (by omega) m).symm
  rw [ez, nI_toInt (by omega)]
  omega
theorem lg32 {y : Int32} (h : 0 ≤ y.toInt) : (y.toInt64 &&& (4294967295 : Int64)).toInt = y.toInt := by
  have b : y.toInt < 2147483648 := Int32.toInt_lt y
  have h1 : (y.toInt64 &&& (4294967295 : Int64)).toBitVec.toNat = y.toInt64.toBitVec.toNat % 4294967296 := by
    rw [Int64.toBitVec_and, BitVec.toNat_and]
    exact Nat.and_two_pow_sub_one_eq_mod _ 32
  have h2 : (y.toInt64 &&& (4294967295 : Int64)).toInt = ((y.toInt64 &&& (4294967295 : Int64)).toBitVec.toNat : Int) := by
    rw [← Int64.toInt_toBitVec]
    exact BitVec.toInt_eq_toNat_of_lt (by omega)
  have h3 : y.toInt64.toInt = if 2 * y.toInt64.toBitVec.toNat < 2 ^ 64 then (y.toInt64.toBitVec.toNat : Int) else (y.toInt64.toBitVec.toNat : Int) - ((2 ^ 64 : Nat) : Int) := by
    rw [← Int64.toInt_toBitVec, BitVec.toInt_eq_toNat_cond]
  have h4 : y.toInt64.toInt = y.toInt := tl_of
  have h5 : y.toInt64.toBitVec.toNat < 2 ^ 64 := y.toInt64.toBitVec.isLt
  rw [h2, h1]
  rw [h4] at h3
  split at h3 <;> omega
def gB (S : MS) : Nat → Int32 := qI S (qO S 0 11)
def pS (S : MS) : Nat := (qI S 0 13).toInt.toNat
theorem f_oc {S : MS} {x : Int32} : (f_octet S x).toInt = oc (gB S) x.toInt.toNat := an8
theorem f_tw {S : MS} {x : Int32} (h : 0 ≤ x.toInt ∧ x.toInt ≤ 300000) : (f_two S x).toInt = tw (gB S) x.toInt.toNat := by
  have e : (x + (1 : Int32)).toInt = x.toInt + 1 := by rw [t_add (by rw [li_1]; omega), li_1]
  unfold f_two tw
  rw [sl8 b_oct b_oct, f_oc, f_oc, e, show (x.toInt + 1).toNat = x.toInt.toNat + 1 by omega]
theorem f_fo {S : MS} {x : Int32} (h : 0 ≤ x.toInt ∧ x.toInt ≤ 200000) (hs : fo (gB S) x.toInt.toNat ≤ 4040) : ((f_four S x).toInt64 &&& (4294967295 : Int64)).toInt = fo (gB S) x.toInt.toNat := by
  have e : (x + (2 : Int32)).toInt = x.toInt + 2 := by rw [t_add (by rw [li_2]; omega), li_2]
  have a := f_tw (S := S) (x := x) (by omega)
  have b := f_tw (S := S) (x := x + 2) (by omega)
  rw [e, show (x.toInt + 2).toNat = x.toInt.toNat + 2 by omega] at b
  have ba := b_two (S := S) (x := x)
  have bb := b_two (S := S) (x := x + 2)
  have u : fo (gB S) x.toInt.toNat = 65536 * tw (gB S) x.toInt.toNat + tw (gB S) (x.toInt.toNat + 2) := rfl
  have z : f_two S x = 0 := Int32.toInt_inj.mp (by rw [li_0]; omega)
  have f : f_four S x = f_two S (x + 2) := by
    unfold f_four
    rw [z, show ((0 : Int32) <<< ((16 : Int32) &&& 31)) = 0 by decide]
    exact Int32.zero_or
  rw [f, lg32 bb.1]
  omega
theorem smB.g {S u : MS} (h : smB S u) : gB u = gB S := h.bt
theorem oc_b {g : Nat → Int32} {j : Nat} : 0 ≤ oc g j ∧ oc g j < 256 := by unfold oc; omega
theorem tw_b {g : Nat → Int32} {j : Nat} : 0 ≤ tw g j ∧ tw g j < 65536 := by
  have a := oc_b (g := g) (j := j)
  have b := oc_b (g := g) (j := j + 1)
  unfold tw
  omega
theorem fo_b {g : Nat → Int32} {j : Nat} : 0 ≤ fo g j := by
  have a := tw_b (g := g) (j := j)
  have b := tw_b (g := g) (j := j + 2)
  unfold fo
  omega
/-- a name's entry, and where it ends -/
theorem sp_nameD {S : MS} {x1 x2 : Int32} (h : RdI S) (h1 : 0 ≤ x1.toInt ∧ x1.toInt < 502) : w_nameEntry S x1 x2 (fun u => NE S x1.toInt.toNat u ∧ (qI u 0 13).toInt = (qI S 0 13).toInt + 2 + tw (gB S) (pS S)) (fun _ => True) := by
  have hb := h.bnd
  unfold w_nameEntry
  refine ⟨_, _, sp_over h (by decide), ?_, fun _ _ => trivial⟩
  rintro r S3 ⟨er, v, rfl, hv, hv2⟩
  have e4 : (2 : Int64).toInt = 2 := by decide
  rw [e4] at hv
  have h3 : RdI (wI S 0 13 v) := h.nx (by omega) hv2
  refine ⟨h3.two (by rw [er]; omega) (by rw [er, n_12]; omega), fun a e8 => ?_⟩
  have b8 := b_two (S := wI S 0 13 v) (x := r)
  rw [← e8] at b8
  have ea : a.toInt = tw (gB S) (pS S) := by
    have sm : smB S (wI S 0 13 v) := h.ss (a := 0) (t := 10) h.z (by decide)
    rw [e8, f_tw (by rw [er]; omega), sm.g, er]
    rfl
  have st : ∀ t : Int32, (t.toInt ≠ 0 → 1 ≤ a.toInt ∧ a.toInt ≤ 100) → w_nameEntry_J29 (fun u => NE S x1.toInt.toNat u ∧ (qI u 0 13).toInt = (qI S 0 13).toInt + 2 + tw (gB S) (pS S)) (fun _ => True) (wI S 0 13 v) t x1 x2 a := fun t ht => by
    unfold w_nameEntry_J29
    refine ⟨_, _, sp_must, ?_, fun _ _ => trivial⟩
    rintro U3 ⟨rfl, hz⟩
    obtain ⟨a0, a1⟩ := ht hz
    refine ⟨h1, fun S5 e5 => ⟨h1, fun S6 e6 => ?_⟩⟩
    have h6 : RdI S6 := by rw [e6, e5]; exact (h3.row (by decide)).row (by decide)
    have q13 : qI S6 0 13 = v := by rw [e6, rdH (by decide), e5, rdH (by decide), n_13]
    have q12 : qI S6 0 12 = qI S 0 12 := by rw [e6, rdH (by decide), e5, rdH (by decide), n_12]
    have q6 : ∀ j : Nat, qI S6 6 j = if j = x1.toInt.toNat then v else qI S 6 j := fun j => by
      rw [e6, rdH (by decide), e5, qI_wI, n_13]
      by_cases e : j = x1.toInt.toNat
      · rw [if_pos ⟨rfl, e⟩, if_pos e]
      · rw [if_neg (fun q => e q.2), if_neg e, rdH (by decide)]
    have q7 : ∀ j : Nat, qI S6 7 j = if j = x1.toInt.toNat then a else qI S 7 j := fun j => by
      rw [e6, qI_wI]
      by_cases e : j = x1.toInt.toNat
      · rw [if_pos ⟨rfl, e⟩, if_pos e]
      · rw [if_neg (fun q => e q.2), if_neg e, e5, rdH (by decide), rdH (by decide)]
    refine ⟨_, sp_nameEntry_L (S := S6) h6 ⟨by omega, by omega⟩ (fun w hw hw2 hw3 => ?_) _ S6 0 ⟨by decide, by rw [li_0]; omega, fun j hj => by rw [li_0] at hj; omega, v, ?_, by rw [q13, li_0]; omega, by rw [q12]; exact hv2⟩ (Nat.lt_succ_self _)⟩
    · rw [q13] at hw
      rw [q12] at hw2
      have r6 : ∀ j : Nat, qI (wI S6 0 13 w) 6 j = qI S6 6 j := fun j => by rw [rdH (by decide)]
      have r7 : ∀ j : Nat, qI (wI S6 0 13 w) 7 j = qI S6 7 j := fun j => by rw [rdH (by decide)]
      refine ⟨⟨h6.nx (by omega) (by rw [q12]; exact hw2), by rw [n_13]; omega, by rw [n_12, q12], fun j hj => ⟨by rw [r6, q6, if_neg hj], by rw [r7, q7, if_neg hj]⟩, ?_, ?_, ?_, ?_, ?_⟩, by rw [n_13]; omega⟩
      · rw [r6, q6, if_pos rfl]; omega
      · rw [r7, q7, if_pos rfl]; exact a0
      · rw [r7, q7, if_pos rfl]; exact a1
      · rw [r6, r7, q6, q7, if_pos rfl, if_pos rfl, n_12, q12]; omega
      · rw [r6, r7, q6, q7, if_pos rfl, if_pos rfl, show qI (wI S6 0 13 w) (qO (wI S6 0 13 w) 0 11) = qI S6 (qO S6 0 11) from rdH h6.b0]
        rw [q13] at hw3
        exact hw3
    · rw [← q13]
      exact (wI_id).symm
  refine ⟨fun _ => ?_, fun c1 => ⟨fun _ => ?_, fun c2 => st 1 (fun _ => ⟨by omega, by omega⟩)⟩⟩
  · unfold w_nameEntry_J28; exact st 0 (fun q => absurd rfl q)
  · unfold w_nameEntry_J28; exact st 0 (fun q => absurd rfl q)
theorem en_two2 {S U : MS} {x1 : Int32} {P : Int32 → MS → Prop} (h : ENq S x1.toInt.toNat U) (hP : ∀ (r v : Int32), v.toInt = (qI U 0 13).toInt + 2 → ENq S x1.toInt.toNat (wI U 0 13 v) → d_two (wI U 0 13 v) r → P r (wI U 0 13 v)) : ∃ Q9 E9, w_over U (2 : Int64) Q9 E9 ∧ (∀ r u, Q9 r u → P r u) ∧ ∀ u9 : MS, E9 u9 → True := by
  have l2 : (2 : Int64).toInt = 2 := by decide
  have hb := h.1.bnd
  refine ⟨_, _, sp_over h.1 (by decide), ?_, fun _ _ => trivial⟩
  rintro r u ⟨er, v, rfl, a1, b1⟩
  rw [l2] at a1
  have k := h.over (v := v) (by omega) b1
  exact hP r v a1 k (k.1.two (by rw [er]; omega) (by rw [er, n_12]; omega))
theorem fin3 {P Q E : MS → Prop} {U : MS} {x a : Int32} (h : w_entry_J220 P E U x a) (hQ : ∀ u : MS, P u → qI u 0 13 = qI U 0 13 → qI u 4 x.toInt.toNat = a → Q u) : w_entry_J220 Q E U x a := by
  unfold w_entry_J220 at h ⊢
  exact ⟨h.1, fun u eu => hQ u (h.2 u eu) (by rw [eu, rdH (by decide)]) (by rw [eu, qI_wI, if_pos ⟨rfl, rfl⟩])⟩
/-- an entry, and where it ends -/
def EnD (S : MS) (k : Nat) (u : MS) : Prop := ENp S k u ∧ (qI u 4 k).toInt = oc (gB S) (pS S) ∧ ∀ b : Nat, enL (gB S) (pS S) b → (qI u 0 13).toInt = b
theorem sp_entD {S : MS} {x1 : Int32} (h : RdI S) (h1 : 0 ≤ x1.toInt ∧ x1.toInt < 502) : w_entry S x1 (EnD S x1.toInt.toNat) (fun _ => True) := by
  have hb := h.bnd
  have l1 : (1 : Int64).toInt = 1 := by decide
  have l4 : (4 : Int64).toInt = 4 := by decide
  have l8 : (8 : Int64).toInt = 8 := by decide
  have ps : ((pS S : Nat) : Int) = (qI S 0 13).toInt := by unfold pS; omega
  have br : ∀ {U : MS} {a b : Int32}, ∃ Q9, w_broken U a b Q9 ∧ ∀ (b9 : Nat) (u : MS), Q9 b9 u → True := fun {U a b} => ⟨_, sp_broken (Q := fun _ _ => True) trivial, fun _ _ _ => trivial⟩
  unfold w_entry
  refine ⟨_, _, sp_over h (by decide), ?_, fun _ _ => trivial⟩
  rintro r2 S3 ⟨e2, v, rfl, a1, b1⟩
  rw [l1] at a1
  have h3 : RdI (wI S 0 13 v) := h.nx (by omega) b1
  refine ⟨h1, fun S6 e6 => ?_⟩
  have t5 : qT (wI S 0 13 v) 5 = 2 := h3.fin fin_16
  have q6 : ENq S x1.toInt.toNat S6 := by
    rw [e6]
    exact ⟨h3.row (by decide), (h.ss (a := 0) (t := 10) h.z (by decide)).tr (h3.ss (a := 5) (t := 2) t5 (by decide)), by rw [rdH (by decide), n_12], by rw [rdH (by decide), n_13]; omega, by rw [rdH (by decide), rdH (by decide)], fun j _ => by rw [rdH (by decide), rdH (by decide), rdH (by decide), rdH (by decide)]; exact ⟨rfl, rfl⟩⟩
  have x12 : qI S6 0 12 = qI S 0 12 := q6.2.2.1
  have x13 : qI S6 0 13 = v := by rw [e6, rdH (by decide), n_13]
  refine ⟨q6.1.oct (by rw [e2]; omega) (by rw [e2, x12]; omega), fun a e10 => ?_⟩
  have ea : a.toInt = oc (gB S) (pS S) := by
    rw [e10, f_oc, q6.2.1.g, e2]
    rfl
  have cl : ∀ {U : MS}, w_entry_J220 (ENp S x1.toInt.toNat) (fun _ => True) U x1 a → (∀ b : Nat, enL (gB S) (pS S) b → (qI U 0 13).toInt = b) → w_entry_J220 (EnD S x1.toInt.toNat) (fun _ => True) U x1 a := fun {U} hj hp => fin3 hj (fun u pu e13 e4 => ⟨pu, by rw [e4, ea], fun b z => by rw [e13]; exact hp b z⟩)
  have pair : (a.toInt = 9 ∨ a.toInt = 10 ∨ a.toInt = 12) → ∃ Q9 E9, w_over S6 (2 : Int64) Q9 E9 ∧ (∀ r u, Q9 r u → d_two u r ∧ (((0 : Int) ≤ x1.toInt ∧ x1.toInt < 502) ∧ (∀ S7, S7 = wI u 6 x1.toInt.toNat (f_two u r) → (∃ Q8 E8, w_over S7 (2 : Int64) Q8 E8 ∧ (∀ r8 u8, Q8 r8 u8 → (d_two u8 r8 ∧ (((0 : Int) ≤ x1.toInt ∧ x1.toInt < 502) ∧ (∀ S8, S8 = wI u8 7 x1.toInt.toNat (f_two u8 r8) → w_entry_J220 (EnD S x1.toInt.toNat) (fun _ => True) S8 x1 a)))) ∧ (∀ u9 : MS, E8 u9 → True))))) ∧ (∀ u9 : MS, E9 u9 → True) := fun hc => by
    refine en_two2 q6 (fun r w ew k d => ⟨d, h1, fun S7 e7 => ?_⟩)
    have k7 : ENq S x1.toInt.toNat S7 := by rw [e7]; exact k.p6
    have s13 : qI S7 0 13 = w := by rw [e7, rdH (by decide), n_13]
    refine en_two2 k7 (fun r8 w8 ew8 k8 d8 => ⟨d8, h1, fun S8 e8 => ?_⟩)
    have k9 : ENq S x1.toInt.toNat S8 := by rw [e8]; exact k8.p7
    have f6 : qI S8 6 x1.toInt.toNat = f_two (wI S6 0 13 w) r := by rw [e8, rdH (by decide), rdH (by decide), e7, qI_wI, if_pos ⟨rfl, rfl⟩]
    have f7 : qI S8 7 x1.toInt.toNat = f_two (wI S7 0 13 w8) r8 := by rw [e8, qI_wI, if_pos ⟨rfl, rfl⟩]
    have s8 : qI S8 0 13 = w8 := by rw [e8, rdH (by decide), n_13]
    rw [s13] at ew8
    rw [x13] at ew
    refine cl (k9.fin h1 (by omega) (fun q => by omega) (fun q => by omega) (fun _ => ?_)) (fun b z => ?_)
    · rw [f6, f7]
      exact ⟨b_two, b_two⟩
    · have := z.2.2.2.2.2.2 (by rw [← ea]; exact hc)
      rw [s8]; omega
  refine ⟨fun c1 => ?_, fun n1 => ⟨fun _ => br, fun n2 => ⟨fun c3 => ?_, fun n3 => ⟨fun _ => br, fun n4 => ⟨fun c5 => ?_, fun n5 => ⟨fun _ => br, fun n6 => ⟨fun c7 => ?_, fun n7 => ⟨fun _ => br, fun n8 => ⟨fun c9 => pair (by omega), fun n9 => ⟨fun c10 => pair (by omega), fun n10 => ⟨fun _ => br, fun n11 => ⟨fun c12 => pair (by omega), fun _ => br⟩⟩⟩⟩⟩⟩⟩⟩⟩⟩⟩⟩
  · refine ⟨_, _, fr_nameEntry (sp_nameD q6.1 h1), ?_, fun _ _ => trivial⟩
    rintro u ⟨⟨⟨p1, p2, p3, p4, p5, p6, p7, p8, p9⟩, pe⟩, hf⟩
    have y4 : qI u 4 = qI S6 4 := (hf.2.2.2.2.1 4 (by decide) (by decide)).1
    have b0 := q6.1.ne q6.1.z (by decide)
    have b6 := q6.1.ne (q6.1.fin fin_17) (by decide)
    have b7 := q6.1.ne (q6.1.fin fin_18) (by decide)
    have sb : smB S6 u := hf.smB b0 (fun q => by simp only [List.mem_cons, List.not_mem_nil, or_false] at q; rcases q with q | q; exact b6 q; exact b7 q) (by decide)
    have gg : gB S6 = gB S := q6.2.1.g
    have pp : pS S6 = pS S + 1 := by
      show (qI S6 0 13).toInt.toNat = _
      rw [x13]; omega
    rw [gg, pp, x13] at pe
    obtain ⟨z1, z2, z3, z4, z5, z6⟩ := q6
    refine cl (ENq.fin ⟨p1, z2.tr sb, by rw [p3, z3], by omega, by rw [y4, z5], fun j hj => ⟨(p4 j hj).1.trans (z6 j hj).1, (p4 j hj).2.trans (z6 j hj).2⟩⟩ h1 (Or.inl c1) (fun _ => ⟨p5, p6, p7, p8, p9⟩) (fun q => by omega) (fun q => by omega)) (fun b z => ?_)
    have := z.2.2.1 (by rw [← ea]; exact c1)
    omega
  · refine ⟨_, _, sp_over q6.1 (by decide), ?_, fun _ _ => trivial⟩
    rintro r u ⟨er, w, rfl, a4, b4⟩
    rw [l4] at a4
    have k := q6.over (v := w) (by omega) b4
    refine ⟨k.1.four (by rw [er, x13]; omega) (by rw [er, n_12]; omega), h1, fun S8 e8 => ?_⟩
    have k8 : ENq S x1.toInt.toNat S8 := by rw [e8]; exact k
    have s8 : qI S8 0 13 = w := by rw [e8]; exact n_13 (S := S6) (v := w)
    rw [x13] at a4
    refine cl (k8.fin h1 (by omega) (fun q => by omega) (fun q => by omega) (fun q => by omega)) (fun b z => ?_)
    have := z.2.2.2.1 (by rw [← ea]; exact c3)
    rw [s8]; omega
  · refine ⟨_, _, sp_over q6.1 (by decide), ?_, fun _ _ => trivial⟩
    rintro r u ⟨er, w, rfl, a4, b4⟩
    rw [l8] at a4
    have hb6 := q6.1.bnd
    have k := q6.over (v := w) (by omega) b4
    have e4 : (r + (4 : Int32)).toInt = r.toInt + 4 := by rw [t_add (by rw [li_4, er]; omega), li_4]
    refine ⟨k.1.four (by rw [er, x13]; omega) (by rw [er, n_12]; omega), k.1.four (by rw [e4, er, x13]; omega) (by rw [e4, er, n_12]; omega), h1, fun S8 e8 => ?_⟩
    have k8 : ENq S x1.toInt.toNat S8 := by rw [e8]; exact k
    have s8 : qI S8 0 13 = w := by rw [e8]; exact n_13 (S := S6) (v := w)
    rw [x13] at a4
    refine cl (k8.fin h1 (by omega) (fun q => by omega) (fun q => by omega) (fun q => by omega)) (fun b z => ?_)
    have := z.2.2.2.2.1 (by rw [← ea]; exact c5)
    rw [s8]; omega
  · refine en_two2 q6 (fun r w ew k d => ⟨d, h1, fun S7 e7 => ?_⟩)
    have k7 : ENq S x1.toInt.toNat S7 := by rw [e7]; exact k.p6
    have f6 : qI S7 6 x1.toInt.toNat = f_two (wI S6 0 13 w) r := by rw [e7, qI_wI, if_pos ⟨rfl, rfl⟩]
    have s7 : qI S7 0 13 = w := by rw [e7, rdH (by decide), n_13]
    rw [x13] at ew
    refine cl (k7.fin h1 (by omega) (fun q => by omega) (fun _ => ?_) (fun q => by omega)) (fun b z => ?_)
    · rw [f6]
      exact b_two
    · have := z.2.2.2.2.2.1 (by rw [← ea]; exact c7)
      rw [s7]; omega
/-! attributes and members of bytes that were written (behind f_tw, f_fo, mOK, aOK) -/
def AtD (S : MS) (n d : Int) (u : MS) : Prop := RdI u ∧ smB S u ∧ qI u 0 12 = qI S 0 12 ∧ (qI u 0 13).toInt = (qI S 0 13).toInt + d ∧ (qI u 0 25).toInt = (qI S 0 25).toInt + n ∧ (∀ a : Nat, (a : Int) < (qI S 0 25).toInt → qI u 10 a = qI S 10 a) ∧ ∀ a : Nat, (qI S 0 25).toInt ≤ a → (a : Int) < (qI u 0 25).toInt → aOK u a
theorem at_x {Q E : MS → Prop} {U : MS} {o n i : Int32} {m : Nat} (hi : n.toInt ≤ i.toInt) (hQ : Q U) : w_attributesOf_L14 Q E (m + 1) U o n i := by
  unfold w_attributesOf_L14
  exact ⟨fun _ => hQ, fun c => absurd hi c⟩
theorem sp_at0 {S : MS} {o : Int32} (h : RdI S) (h0 : tw (gB S) (pS S) = 0) : w_attributesOf S o (AtD S 0 2) (fun _ => True) := by
  have hb := h.bnd
  unfold w_attributesOf
  refine ⟨_, _, sp_over h (by decide), ?_, fun _ _ => trivial⟩
  rintro r2 S3 ⟨e2, v, rfl, a1, b1⟩
  have l2 : (2 : Int64).toInt = 2 := by decide
  rw [l2] at a1
  have h1 : RdI (wI S 0 13 v) := h.nx (by omega) b1
  refine ⟨h1.two (by rw [e2]; omega) (by rw [e2, n_12]; omega), fun a8 e8 => ⟨1, ?_⟩⟩
  have k9 : smB S (wI S 0 13 v) := h.ss (a := 0) (t := 10) (j := 13) (v := v) h.z (by decide)
  have ea : a8.toInt = 0 := by
    rw [e8, f_tw (by rw [e2]; omega), k9.g, e2]
    exact h0
  have q25 : qI (wI S 0 13 v) 0 25 = qI S 0 25 := by rw [qI_wI, if_neg (by decide)]
  refine at_x (m := 0) (by rw [ea]; decide) ⟨h1, k9, n_12, by rw [n_13]; exact a1, by rw [q25]; omega, fun a _ => by rw [rdH (by decide)], fun a ha ha2 => ?_⟩
  rw [q25] at ha2
  omega
theorem sp_at1 {S : MS} {o : Int32} (h : RdI S) (h25 : 0 ≤ (qI S 0 25).toInt ∧ (qI S 0 25).toInt ≤ 100) (h0 : tw (gB S) (pS S) = 1) (hs : fo (gB S) (pS S + 4) ≤ 4040) : w_attributesOf S o (AtD S 1 (8 + fo (gB S) (pS S + 4))) (fun _ => True) := by
  have hb := h.bnd
  have ps : ((pS S : Nat) : Int) = (qI S 0 13).toInt := by unfold pS; omega
  unfold w_attributesOf
  refine ⟨_, _, sp_over h (by decide), ?_, fun _ _ => trivial⟩
  rintro r2 S3 ⟨e2, v, rfl, a1, b1⟩
  have l2 : (2 : Int64).toInt = 2 := by decide
  have l4 : (4 : Int64).toInt = 4 := by decide
  rw [l2] at a1
  have h1 : RdI (wI S 0 13 v) := h.nx (by omega) b1
  refine ⟨h1.two (by rw [e2]; omega) (by rw [e2, n_12]; omega), fun a8 e8 => ⟨2, ?_⟩⟩
  have k9 : smB S (wI S 0 13 v) := h.ss (a := 0) (t := 10) (j := 13) (v := v) h.z (by decide)
  have ea : a8.toInt = 1 := by
    rw [e8, f_tw (by rw [e2]; omega), k9.g, e2]
    exact h0
  unfold w_attributesOf_L14
  refine ⟨fun c => by rw [ea, li_0] at c; omega, fun _ => ?_⟩
  refine ⟨_, _, sp_over h1 (by decide), ?_, fun _ _ => trivial⟩
  rintro r11 S1 ⟨e11, v1, e1, a2, b2⟩
  rw [wI_wI] at e1
  subst e1
  rw [n_13, l2] at a2
  rw [n_12] at b2
  rw [n_13] at e11
  have h2 : RdI (wI S 0 13 v1) := h.nx (by omega) b2
  refine ⟨_, _, sp_over h2 (by decide), ?_, fun _ _ => trivial⟩
  rintro r15 S2 ⟨e15, v2, e2', a3, b3⟩
  rw [wI_wI] at e2'
  subst e2'
  rw [n_13, l4] at a3
  rw [n_12] at b3
  rw [n_13] at e15
  have h3 : RdI (wI S 0 13 v2) := h.nx (by omega) b3
  have k2 : smB S (wI S 0 13 v2) := h.ss (a := 0) (t := 10) (j := 13) (v := v2) h.z (by decide)
  have er : r15.toInt.toNat = pS S + 4 := by rw [e15]; omega
  have ef : ((f_four (wI S 0 13 v2) r15).toInt64 &&& (4294967295 : Int64)).toInt = fo (gB S) (pS S + 4) := by
    have z := f_fo (S := wI S 0 13 v2) (x := r15) (by rw [e15]; omega) (by rw [k2.g, er]; exact hs)
    rw [k2.g, er] at z
    exact z
  refine ⟨h3.four (by rw [e15]; omega) (by rw [e15, n_12]; omega), ?_⟩
  have f0 := fo_b (g := gB S) (j := pS S + 4)
  refine ⟨_, _, sp_over h3 (by rw [ef]; omega), ?_, fun _ _ => trivial⟩
  rintro r23 S3 ⟨-, v3, e3, a4, b4⟩
  rw [wI_wI] at e3
  subst e3
  rw [n_13, ef] at a4
  rw [n_12] at b4
  have h4 : RdI (wI S 0 13 v3) := h.nx (by omega) b4
  have q25 : qI (wI S 0 13 v3) 0 25 = qI S 0 25 := by rw [qI_wI, if_neg (by decide)]
  rw [q25]
  refine ⟨⟨h25.1, by omega⟩, fun S4 e4 => ?_⟩
  subst e4
  have q25b : qI (wI (wI S 0 13 v3) 10 (qI S 0 25).toInt.toNat r11) 0 25 = qI S 0 25 := by rw [rdH (by decide), q25]
  rw [q25b]
  refine ⟨⟨h25.1, by omega⟩, fun S5 e5 S6 e6 a32 e32 => ?_⟩
  have q25c : qI S5 0 25 = qI S 0 25 := by rw [e5, rdH (by decide), q25b]
  rw [q25c] at e6
  have e33 : a32.toInt = 1 := by rw [e32]; decide
  refine at_x (m := 0) (by omega) ?_
  have t10 : qT S 10 = 2 := h.fin fin_26
  have t11 : qT S 11 = 2 := h.fin fin_27
  have s25 : (qI S 0 25 + (1 : Int32)).toInt = (qI S 0 25).toInt + 1 := by rw [t_add (by rw [li_1]; omega), li_1]
  have u25 : qI S6 0 25 = qI S 0 25 + 1 := by rw [e6, qI_wI, if_pos ⟨rfl, rfl⟩]
  have u13 : qI S6 0 13 = v3 := by rw [e6, qI_wI, if_neg (by decide), e5, rdH (by decide), rdH (by decide), n_13]
  have u12 : qI S6 0 12 = qI S 0 12 := by rw [e6, qI_wI, if_neg (by decide), e5, rdH (by decide), rdH (by decide), n_12]
  have u10 : ∀ j : Nat, qI S6 10 j = if j = (qI S 0 25).toInt.toNat then v else qI S 10 j := fun j => by
    rw [e6, rdH (by decide), e5, rdH (by decide), qI_wI, e11]
    by_cases e : j = (qI S 0 25).toInt.toNat
    · rw [if_pos ⟨rfl, e⟩, if_pos e]
    · rw [if_neg (fun q => e q.2), if_neg e, rdH (by decide)]
  have r2 := h4.row (a := 10) (j := (qI S 0 25).toInt.toNat) (v := r11) (by decide)
  have r3 := r2.row (a := 11) (j := (qI S 0 25).toInt.toNat) (v := o) (by decide)
  have hs2 : smB S S6 := by
    rw [e6, e5]
    exact (h.ss (a := 0) h.z (by decide)).tr ((h4.ss (a := 10) (t := 2) t10 (by decide)).tr ((r2.ss (a := 11) (t := 2) t11 (by decide)).tr (r3.ss (a := 0) (t := 10) r3.z (by decide))))
  refine ⟨by rw [e6, e5]; exact r3.fld (by decide), hs2, u12, by rw [u13]; omega, by rw [u25, s25], fun a ha => by rw [u10, if_neg (by omega)], fun a ha ha2 => ?_⟩
  rw [u25, s25] at ha2
  have e : a = (qI S 0 25).toInt.toNat := by omega
  unfold aOK
  rw [u10, if_pos e, u12, f_same hs2.1 hs2.2]
  have ev : v + (2 : Int32) = r15 := by
    apply Int32.toInt_inj.mp
    rw [t_add (by rw [li_2]; omega), li_2, e15]
    omega
  have ef2 : f_four (wI S 0 13 v2) r15 = f_four S r15 := f_same (S := S) (u := wI S 0 13 v2) k2.1 k2.2 r15
  rw [ev, ← ef2, ef]
  omega
theorem sp_atD {S : MS} {o : Int32} {c : Int} (h : RdI S) (h25 : 0 ≤ (qI S 0 25).toInt ∧ (qI S 0 25).toInt ≤ 100) (hc : c = 0 ∨ c = 1) (h0 : tw (gB S) (pS S) = c) (hs : c = 1 → fo (gB S) (pS S + 4) ≤ 4040) : w_attributesOf S o (AtD S c (if c = 0 then 2 else 8 + fo (gB S) (pS S + 4))) (fun _ => True) := by
  rcases hc with q | q
  · rw [if_pos q, q]
    exact sp_at0 h (by rw [h0, q])
  · rw [if_neg (by omega), q]
    exact sp_at1 h h25 (by rw [h0, q]) (hs q)
def MbB (g : Nat → Int32) (mp : Nat → Nat) (c : Int) (n : Nat) : Prop := ∀ i : Nat, i < n → tw g (mp i + 6) = c ∧ (c = 1 → fo g (mp i + 10) ≤ 4040) ∧ (mp (i + 1) : Int) = mp i + 6 + (if c = 0 then 2 else 8 + fo g (mp i + 10))
def MbD (S : MS) (mp : Nat → Nat) (c : Int) (i : Nat) (u : MS) : Prop := RdI u ∧ smB S u ∧ qI u 0 12 = qI S 0 12 ∧ (qI u 0 13).toInt = mp i ∧ (qI u 0 21).toInt = (qI S 0 21).toInt + i ∧ (qI u 0 25).toInt = (qI S 0 25).toInt + c * i ∧ (∀ i : Nat, (i : Int) < (qI S 0 21).toInt → qI u 9 i = qI S 9 i) ∧ (∀ i : Nat, (qI S 0 21).toInt ≤ i → (i : Int) < (qI u 0 21).toInt → mOK u i) ∧ (∀ a : Nat, (a : Int) < (qI S 0 25).toInt → qI u 10 a = qI S 10 a) ∧ ∀ a : Nat, (qI S 0 25).toInt ≤ a → (a : Int) < (qI u 0 25).toInt → aOK u a
theorem sp_membersD_L {S : MS} {Q : MS → Prop} {n : Int32} {mp : Nat → Nat} {c : Int} (hn : 0 ≤ n.toInt ∧ n.toInt ≤ 24) (h0 : 0 ≤ (qI S 0 21).toInt ∧ (qI S 0 21).toInt ≤ 24) (h25 : 0 ≤ (qI S 0 25).toInt ∧ (qI S 0 25).toInt ≤ 24) (hc : c = 0 ∨ c = 1) (hB : MbB (gB S) mp c n.toInt.toNat) (hQ : ∀ u : MS, MbD S mp c n.toInt.toNat u → Q u) :
    ∀ (m : Nat) (U : MS) (i : Int32), (0 ≤ i.toInt ∧ i.toInt ≤ n.toInt ∧ MbD S mp c i.toInt.toNat U) → (25 - i.toInt).toNat < m → w_members_L33 Q (fun _ => True) m U n i := by
  intro m
  induction m with
  | zero => intro U i _ h9; exact absurd h9 (Nat.not_lt_zero _)
  | succ m ih =>
    rintro U i ⟨i0, i1, hI⟩ hm
    unfold w_members_L33
    refine ⟨fun c1 => hQ U (by rw [show n.toInt.toNat = i.toInt.toNat by omega]; exact hI), fun c1 => ?_⟩
    obtain ⟨hR, hs, e12, h13, h21, hv25, hmo, hmn, hao, han⟩ := hI
    have hb := hR.bnd
    have l2 : (2 : Int64).toInt = 2 := by decide
    have l4 : (4 : Int64).toInt = 4 := by decide
    have b25 : 0 ≤ (qI U 0 25).toInt ∧ (qI U 0 25).toInt ≤ 48 := by
      rcases hc with q | q
      · rw [q] at hv25; omega
      · rw [q] at hv25; omega
    refine ⟨_, _, sp_over hR (by decide), ?_, fun _ _ => trivial⟩
    rintro r14 S1 ⟨e14, v1, rfl, a1, b1⟩
    rw [l2] at a1
    refine ⟨⟨by omega, by omega⟩, fun S2 e2 => ?_⟩
    have hA1 : RdI (wI U 0 13 v1) := hR.nx (by omega) b1
    have hA2 : RdI S2 := by rw [e2]; exact hA1.row (by decide)
    have x13 : qI S2 0 13 = v1 := by rw [e2, rdH (by decide), n_13]
    have x12 : qI S2 0 12 = qI U 0 12 := by rw [e2, rdH (by decide), n_12]
    refine ⟨_, _, sp_over hA2 (by decide), ?_, fun _ _ => trivial⟩
    rintro r20 S3 ⟨-, v2, e3, a2, b2⟩
    rw [x13, l4] at a2
    rw [x12] at b2
    have hA3 : RdI S3 := by rw [e3]; exact hA2.nx (by omega) (by rw [x12]; exact b2)
    have y13 : qI S3 0 13 = v2 := by rw [e3, n_13]
    have y12 : qI S3 0 12 = qI U 0 12 := by rw [e3, n_12, x12]
    have y21 : qI S3 0 21 = qI U 0 21 := by rw [e3, qI_wI, if_neg (by decide), e2, rdH (by decide), qI_wI, if_neg (by decide)]
    have y25 : qI S3 0 25 = qI U 0 25 := by rw [e3, qI_wI, if_neg (by decide), e2, rdH (by decide), qI_wI, if_neg (by decide)]
    have y9 : ∀ j : Nat, qI S3 9 j = if j = (qI U 0 21).toInt.toNat then r14 else qI U 9 j := fun j => by
      rw [e3, rdH (by decide), e2, qI_wI]
      by_cases e : j = (qI U 0 21).toInt.toNat
      · rw [if_pos ⟨rfl, e⟩, if_pos e]
      · rw [if_neg (fun q => e q.2), if_neg e, rdH (by decide)]
    have y10 : qI S3 10 = qI U 10 := by rw [e3, rdH (by decide), e2, rdH (by decide), rdH (by decide)]
    have t9 : qT (wI U 0 13 v1) 9 = 2 := hA1.fin fin_24
    have s3 : smB U S3 := by
      rw [e3, e2]
      exact (hR.ss (a := 0) (t := 10) hR.z (by decide)).tr ((hA1.ss (a := 9) (t := 2) t9 (by decide)).tr ((hA1.row (a := 9) (by decide)).ss (a := 0) (t := 10) (hA1.row (a := 9) (by decide)).z (by decide)))
    have g3 : gB S3 = gB S := (hs.tr s3).g
    have p3' : pS S3 = mp i.toInt.toNat + 6 := by
      show (qI S3 0 13).toInt.toNat = _
      rw [y13]; omega
    obtain ⟨B1, B2, B3⟩ := hB i.toInt.toNat (by omega)
    have spA := sp_atD (S := S3) (o := qI S3 0 21) (c := c) hA3 (by rw [y25]; omega) hc (by rw [g3, p3']; exact B1) (fun q => by rw [g3, p3']; exact B2 q)
    rw [g3, p3', show mp i.toInt.toNat + 6 + 4 = mp i.toInt.toNat + 10 by omega] at spA
    refine ⟨_, _, fr_attributesOf spA, ?_, fun _ _ => trivial⟩
    rintro S4 ⟨⟨p1, p2, p3, p4, p5, p6, p7⟩, hf⟩ S5 e5 a28 e28
    have z9 : qI S4 9 = qI S3 9 := (hf.2.2.2.2.1 9 (by decide) (by decide)).1
    have z21 : qI S4 0 21 = qI S3 0 21 := (hf.2.2.2.2.2 21 (by decide)).1
    have e1 : (qI U 0 21 + (1 : Int32)).toInt = (qI U 0 21).toInt + 1 := by rw [t_add (by rw [li_1]; omega), li_1]
    have w21 : qI S5 0 21 = qI U 0 21 + 1 := by rw [e5, qI_wI, if_pos ⟨rfl, rfl⟩, z21, y21]
    have w12 : qI S5 0 12 = qI U 0 12 := by rw [e5, qI_wI, if_neg (by decide), p3, y12]
    have w13 : qI S5 0 13 = qI S4 0 13 := by rw [e5, qI_wI, if_neg (by decide)]
    have w25 : qI S5 0 25 = qI S4 0 25 := by rw [e5, qI_wI, if_neg (by decide)]
    have w9 : qI S5 9 = qI S3 9 := by rw [e5, rdH (by decide), z9]
    have w10 : qI S5 10 = qI S4 10 := by rw [e5, rdH (by decide)]
    have s5 : smB S4 S5 := by rw [e5]; exact p1.ss (a := 0) (t := 10) p1.z (by decide)
    have e33 : a28.toInt = i.toInt + 1 := by rw [e28, t_add (by rw [lo_1]; omega), lo_1]
    have e34 : a28.toInt.toNat = i.toInt.toNat + 1 := by omega
    rw [y13] at p4
    rw [y25] at p5
    have m25 : c * ((i.toInt.toNat + 1 : Nat) : Int) = c * (i.toInt.toNat : Int) + c := by
      rw [show ((i.toInt.toNat + 1 : Nat) : Int) = (i.toInt.toNat : Int) + 1 by omega, Int.mul_add, Int.mul_one]
    refine ih S5 a28 ⟨by omega, by omega, ?_⟩ (by omega)
    rw [e34]
    refine ⟨by rw [e5]; exact p1.fld (by decide), hs.tr (s3.tr (p2.tr s5)), by rw [w12, e12], by rw [w13, p4, B3]; omega, by rw [w21, e1]; omega, by rw [w25, p5, m25]; omega, fun j hj => ?_, fun j hj hj2 => ?_, fun a ha => ?_, fun a ha ha2 => ?_⟩
    · rw [w9, y9, if_neg (by omega)]
      exact hmo j hj
    · rw [w21, e1] at hj2
      unfold mOK
      rw [w9, w12, y9]
      by_cases e : j = (qI U 0 21).toInt.toNat
      · rw [if_pos e, e14]; omega
      · rw [if_neg e]
        exact hmn j hj (by omega)
    · have : (a : Int) < (qI U 0 25).toInt := by
        rcases hc with q | q
        · rw [q] at hv25; omega
        · rw [q] at hv25; omega
      rw [w10, p6 a (by rw [y25]; exact this), y10]
      exact hao a ha
    · rw [w25] at ha2
      by_cases e : (a : Int) < (qI U 0 25).toInt
      · refine (han a ha e).mv (s3.tr (p2.tr s5)) ?_ w12
        rw [w10, p6 a (by rw [y25]; exact e), y10]
      · exact (p7 a (by rw [y25]; omega) ha2).mv s5 (by rw [w10]) (by rw [e5, qI_wI, if_neg (by decide)])
theorem sp_membersD {S : MS} {mp : Nat → Nat} {c : Int} {n : Nat} (h : RdI S) (h0 : 0 ≤ (qI S 0 21).toInt ∧ (qI S 0 21).toInt ≤ 24) (h25 : 0 ≤ (qI S 0 25).toInt ∧ (qI S 0 25).toInt ≤ 24) (hc : c = 0 ∨ c = 1) (hn : tw (gB S) (pS S) = n) (m0 : mp 0 = pS S + 2) (hB : MbB (gB S) mp c n) : w_members S (MbD S mp c n) (fun _ => True) := by
  have hb := h.bnd
  have ps : ((pS S : Nat) : Int) = (qI S 0 13).toInt := by unfold pS; omega
  unfold w_members
  refine ⟨_, _, sp_over h (by decide), ?_, fun _ _ => trivial⟩
  rintro r2 S3 ⟨e2, v, rfl, a1, b1⟩
  have l2 : (2 : Int64).toInt = 2 := by decide
  rw [l2] at a1
  have h1 : RdI (wI S 0 13 v) := h.nx (by omega) b1
  refine ⟨h1.two (by rw [e2]; omega) (by rw [e2, n_12]; omega), fun a8 e8 => ?_⟩
  have q21 : qI (wI S 0 13 v) 0 21 = qI S 0 21 := by rw [qI_wI, if_neg (by decide)]
  have q25 : qI (wI S 0 13 v) 0 25 = qI S 0 25 := by rw [qI_wI, if_neg (by decide)]
  have k9 : smB S (wI S 0 13 v) := h.ss (a := 0) (t := 10) (j := 13) (v := v) h.z (by decide)
  have ea : a8.toInt = n := by
    rw [e8, f_tw (by rw [e2]; omega), k9.g, e2]
    exact hn
  have en : a8.toInt.toNat = n := by omega
  have st : ∀ t : Int32, (t.toInt ≠ 0 → a8.toInt ≤ 24) → w_members_J26 (MbD S mp c n) (fun _ => True) (wI S 0 13 v) t r2 a8 := fun t ht => by
    unfold w_members_J26
    refine ⟨_, _, sp_must, ?_, fun _ _ => trivial⟩
    rintro U3 ⟨rfl, hz⟩
    refine ⟨_, sp_membersD_L (S := wI S 0 13 v) (mp := mp) (c := c) ⟨by omega, ht hz⟩ (by rw [q21]; exact h0) (by rw [q25]; exact h25) hc (by rw [k9.g, en]; exact hB) (fun u hu => ?_) _ _ 0 ⟨by decide, by rw [li_0]; omega, ?_⟩ (Nat.lt_succ_self _)⟩
    · rw [en] at hu
      obtain ⟨p1, p2, p3, p4, p5, p6, p7, p8, p9, p10⟩ := hu
      rw [q21] at p5 p7 p8
      rw [q25] at p6 p9 p10
      rw [n_12] at p3
      exact ⟨p1, k9.tr p2, p3, p4, p5, p6, fun j hj => by rw [p7 j hj, rdH (by decide)], p8, fun a ha => by rw [p9 a ha, rdH (by decide)], p10⟩
    · show MbD (wI S 0 13 v) mp c 0 (wI S 0 13 v)
      exact ⟨h1, smB.rf, rfl, by rw [n_13, m0]; omega, by omega, by rw [show ((0 : Nat) : Int) = 0 from rfl, Int.mul_zero]; omega, fun _ _ => rfl, fun a h1 h2 => absurd h2 (by omega), fun _ _ => rfl, fun a h1 h2 => absurd h2 (by omega)⟩
  exact ⟨fun _ => st 0 (fun q => absurd rfl q), fun c => st 1 (fun _ => by omega)⟩
/-! the layout of bytes that were written (behind LayB, sp_entD, sp_membersD) -/
/-- what stands behind the pool -/
def TlB (g : Nat → Int32) (P : Nat) : Prop := ∃ (F M : Nat) (mp : Nat → Nat), (F ≤ 24 ∧ tw g (P + 8) = F ∧ ∀ i : Nat, i < F → tw g (P + 10 + 8 * i + 6) = 0) ∧ (M ≤ 24 ∧ tw g (P + 10 + 8 * F) = M) ∧ mp 0 = P + 12 + 8 * F ∧ MtB g mp M ∧ tw g (mp M) = 0
theorem LayB.tl {g : Nat → Int32} {n : Int} (h : LayB g n) : ∃ (pos : Nat → Nat) (num : Nat → Int) (ne : Nat), EnB g pos num ne ∧ tw g 8 = num ne ∧ TlB g (pos ne) := by
  obtain ⟨pos, num, ne, F, M, mp, a, b, c, d, e, f, k, -⟩ := h
  exact ⟨pos, num, ne, a, b, F, M, mp, c, d, e, f, k⟩
theorem EnB.nu {g : Nat → Int32} {pos : Nat → Nat} {num : Nat → Int} {ne : Nat} (h : EnB g pos num ne) : ∀ d e : Nat, e + d ≤ ne → num e + d ≤ num (e + d) := by
  intro d
  induction d with
  | zero => intro e _; show num e + 0 ≤ num e; omega
  | succ d ih =>
    intro e hd
    have a := ih e (by omega)
    have b := (h.2.2 (e + d) (by omega)).2
    rw [show e + (d + 1) = e + d + 1 by omega]
    split at b <;> omega
def LyU (S u : MS) : Prop := RdI u ∧ smB S u ∧ qI u 0 12 = qI S 0 12 ∧ (0 ≤ (qI u 0 20).toInt ∧ (qI u 0 20).toInt + 8 ≤ (qI u 0 12).toInt) ∧ (0 ≤ (qI u 0 22).toInt ∧ (qI u 0 22).toInt ≤ 24 ∧ (qI u 0 22).toInt ≤ (qI u 0 21).toInt ∧ (qI u 0 21).toInt ≤ (qI u 0 22).toInt + 24) ∧ (∀ i : Nat, (i : Int) < (qI u 0 21).toInt → mOK u i) ∧ (0 ≤ (qI u 0 25).toInt ∧ (qI u 0 25).toInt < 3000) ∧ (∀ a : Nat, (a : Int) < (qI u 0 25).toInt → aOK u a) ∧ qI u 4 = qI S 4 ∧ qI u 6 = qI S 6 ∧ qI u 7 = qI S 7 ∧ qI u 0 14 = qI S 0 14
theorem sp_layD {U : MS} {Q : MS → Prop} (h : RdI U) (hT : TlB (gB U) (pS U)) (hQ : ∀ u, LyU U u → Q u) :
    (∃ Q16 EQ16, w_over U (2 : Int64) Q16 EQ16 ∧ (∀ r17 S18, Q16 r17 S18 → (∀ S20, S20 = wI S18 0 20 r17 → (∃ Q21 EQ21, w_over S20 (6 : Int64) Q21 EQ21 ∧ (∀ r22 S23, Q21 r22 S23 → (∀ S25, S25 = wI S23 0 21 0 → (∀ S26, S26 = wI S25 0 25 0 → (∃ Q27 EQ27, w_members S26 Q27 EQ27 ∧ (∀ S28, Q27 S28 → (∀ S30, S30 = wI S28 0 22 (qI S28 0 21) → (∃ Q31 EQ31, w_members S30 Q31 EQ31 ∧ (∀ S32, Q31 S32 → (∃ Q34 EQ34, w_attributesOf S32 (-1 : Int32) Q34 EQ34 ∧ (∀ S35, Q34 S35 → (∀ S37, S37 = wI S35 0 28 (qI S35 0 13) → Q S37)) ∧ (∀ u9, EQ34 u9 → (fun _ : MS => True) u9))) ∧ (∀ u9, EQ31 u9 → (fun _ : MS => True) u9)))) ∧ (∀ u9, EQ27 u9 → (fun _ : MS => True) u9))))) ∧ (∀ u9, EQ21 u9 → (fun _ : MS => True) u9)))) ∧ (∀ u9, EQ16 u9 → (fun _ : MS => True) u9)) := by
  obtain ⟨F, M, mp, hF, hM, m0, hMt, hend⟩ := hT
  have hb := h.bnd
  have ps : ((pS U : Nat) : Int) = (qI U 0 13).toInt := by unfold pS; omega
  have l2 : (2 : Int64).toInt = 2 := by decide
  have l6 : (6 : Int64).toInt = 6 := by decide
  refine ⟨_, _, sp_over h (by decide), ?_, fun _ _ => trivial⟩
  rintro r17 S18 ⟨e17, v1, rfl, a1, b1⟩ S20 e20
  rw [l2] at a1
  have h1 : RdI (wI U 0 13 v1) := h.nx (by omega) b1
  have h2 : RdI S20 := by rw [e20]; exact h1.fld (by decide)
  have x13 : qI S20 0 13 = v1 := by rw [e20, qI_wI, if_neg (by decide), n_13]
  have x12 : qI S20 0 12 = qI U 0 12 := by rw [e20, qI_wI, if_neg (by decide), n_12]
  have x20 : qI S20 0 20 = qI U 0 13 := by rw [e20, qI_wI, if_pos ⟨rfl, rfl⟩, e17]
  refine ⟨_, _, sp_over h2 (by decide), ?_, fun _ _ => trivial⟩
  rintro r22 S23 ⟨-, v2, e23, a2, b2⟩ S25 e25 S26 e26
  rw [x13, l6] at a2
  rw [x12] at b2
  have h3 : RdI S23 := by rw [e23]; exact h2.nx (by omega) (by rw [x12]; exact b2)
  have h4 : RdI S26 := by rw [e26, e25]; exact (h3.fld (by decide)).fld (by decide)
  have y : ∀ j : Nat, j ≠ 13 → j ≠ 21 → j ≠ 25 → j ≠ 20 → qI S26 0 j = qI U 0 j := fun j k1 k2 k3 k4 => by
    rw [e26, qI_wI, if_neg (fun q => k3 q.2), e25, qI_wI, if_neg (fun q => k2 q.2), e23, qI_wI, if_neg (fun q => k1 q.2), e20, qI_wI, if_neg (fun q => k4 q.2), qI_wI, if_neg (fun q => k1 q.2)]
  have yr : ∀ a : Nat, a ≠ 0 → qI S26 a = qI U a := fun a ha => by rw [e26, rdH ha, e25, rdH ha, e23, rdH ha, e20, rdH ha, rdH ha]
  have y13 : qI S26 0 13 = v2 := by rw [e26, qI_wI, if_neg (by decide), e25, qI_wI, if_neg (by decide), e23, n_13]
  have y20 : qI S26 0 20 = qI U 0 13 := by rw [e26, qI_wI, if_neg (by decide), e25, qI_wI, if_neg (by decide), e23, qI_wI, if_neg (by decide), x20]
  have y21 : qI S26 0 21 = 0 := by rw [e26, qI_wI, if_neg (by decide), e25, qI_wI, if_pos ⟨rfl, rfl⟩]
  have y25 : qI S26 0 25 = 0 := by rw [e26, qI_wI, if_pos ⟨rfl, rfl⟩]
  have y12 : qI S26 0 12 = qI U 0 12 := y 12 (by decide) (by decide) (by decide) (by decide)
  have sU : smB U S26 := ⟨by rw [e26, e25, e23, e20]; rfl, yr _ (h.ne h.z (by decide))⟩
  have p26 : pS S26 = pS U + 8 := by
    show (qI S26 0 13).toInt.toNat = _
    rw [y13]; omega
  have B0 : MbB (gB S26) (fun i => pS U + 10 + 8 * i) 0 F := by
    rw [sU.g]
    intro i hi
    refine ⟨hF.2.2 i hi, fun q => absurd q (by decide), ?_⟩
    rw [if_pos rfl]
    show ((pS U + 10 + 8 * (i + 1) : Nat) : Int) = ((pS U + 10 + 8 * i : Nat) : Int) + 6 + 2
    omega
  refine ⟨_, _, fr_members (sp_membersD (n := F) h4 (by rw [y21, li_0]; omega) (by rw [y25, li_0]; omega) (Or.inl rfl) (by rw [sU.g, p26]; exact hF.2.1) (by rw [p26]) B0), ?_, fun _ _ => trivial⟩
  rintro S28 ⟨⟨p1, p2, p3, p4, p5, p6, p7, p8, p9, p10⟩, hf⟩ S30 e30
  replace p4 : (qI S28 0 13).toInt = ((pS U + 10 + 8 * F : Nat) : Int) := p4
  have g20 : qI S28 0 20 = qI S26 0 20 := (hf.2.2.2.2.2 20 (by decide)).1
  have g14 : qI S28 0 14 = qI S26 0 14 := (hf.2.2.2.2.2 14 (by decide)).1
  have g4 : qI S28 4 = qI S26 4 := (hf.2.2.2.2.1 4 (by decide) (by decide)).1
  have g6 : qI S28 6 = qI S26 6 := (hf.2.2.2.2.1 6 (by decide) (by decide)).1
  have g7 : qI S28 7 = qI S26 7 := (hf.2.2.2.2.1 7 (by decide) (by decide)).1
  rw [y21, li_0] at p5 p8
  rw [y25, li_0] at p6 p10
  rw [Int.zero_mul] at p6
  have hA2 : RdI S30 := by rw [e30]; exact p1.fld (by decide)
  have z22 : qI S30 0 22 = qI S28 0 21 := by rw [e30, qI_wI, if_pos ⟨rfl, rfl⟩]
  have z : ∀ j : Nat, j ≠ 22 → qI S30 0 j = qI S28 0 j := fun j hj => by rw [e30, qI_wI, if_neg (fun q => hj q.2)]
  have zr : ∀ a : Nat, a ≠ 0 → qI S30 a = qI S28 a := fun a ha => by rw [e30, rdH ha]
  have s30 : smB S28 S30 := by rw [e30]; exact p1.ss (a := 0) (t := 10) p1.z (by decide)
  have sU3 : smB U S30 := sU.tr (p2.tr s30)
  have p30 : pS S30 = pS U + 10 + 8 * F := by
    show (qI S30 0 13).toInt.toNat = _
    rw [z 13 (by decide), p4]; omega
  have B1 : MbB (gB S30) mp 1 M := by
    rw [sU3.g]
    intro i hi
    have b := hMt i hi
    refine ⟨b.1, fun _ => b.2.1.2, ?_⟩
    rw [if_neg (by decide), b.2.2]
    omega
  refine ⟨_, _, fr_members (sp_membersD (n := M) hA2 (by rw [z 21 (by decide)]; omega) (by rw [z 25 (by decide)]; omega) (Or.inr rfl) (by rw [sU3.g, p30]; exact hM.2) (by rw [p30, m0]; omega) B1), ?_, fun _ _ => trivial⟩
  rintro S32 ⟨⟨r1, r2, r3, r4, r5, r6, r7, r8, r9, r10⟩, hf2⟩
  have i20 : qI S32 0 20 = qI S30 0 20 := (hf2.2.2.2.2.2 20 (by decide)).1
  have i22 : qI S32 0 22 = qI S30 0 22 := (hf2.2.2.2.2.2 22 (by decide)).1
  have i14 : qI S32 0 14 = qI S30 0 14 := (hf2.2.2.2.2.2 14 (by decide)).1
  have i4 : qI S32 4 = qI S30 4 := (hf2.2.2.2.2.1 4 (by decide) (by decide)).1
  have i6 : qI S32 6 = qI S30 6 := (hf2.2.2.2.2.1 6 (by decide) (by decide)).1
  have i7 : qI S32 7 = qI S30 7 := (hf2.2.2.2.2.1 7 (by decide) (by decide)).1
  rw [z 21 (by decide)] at r5 r7 r8
  rw [z 25 (by decide)] at r6 r9 r10
  rw [Int.one_mul] at r6
  rw [z 12 (by decide)] at r3
  have m32 : ∀ i : Nat, (i : Int) < (qI S32 0 21).toInt → mOK S32 i := fun i hi => by
    by_cases e : (i : Int) < (qI S28 0 21).toInt
    · exact (p8 i (by omega) e).mv (by rw [r7 i e, zr 9 (by decide)]) r3
    · exact r8 i (by omega) hi
  have a32 : ∀ a : Nat, (a : Int) < (qI S32 0 25).toInt → aOK S32 a := fun a ha => by
    by_cases e : (a : Int) < (qI S28 0 25).toInt
    · exact (p10 a (by omega) e).mv (s30.tr r2) (by rw [r9 a e, zr 10 (by decide)]) r3
    · exact r10 a (by omega) ha
  have sU4 : smB U S32 := sU3.tr r2
  have p32 : pS S32 = mp M := by
    show (qI S32 0 13).toInt.toNat = _
    rw [r4]; omega
  refine ⟨_, _, fr_attributesOf (sp_at0 r1 (by rw [sU4.g, p32]; exact hend)), ?_, fun _ _ => trivial⟩
  rintro S35 ⟨⟨o1, o2, o3, o4, o5, o6, o7⟩, hf3⟩ S37 e37
  have w : ∀ j : Nat, j ≠ 28 → qI S37 0 j = qI S35 0 j := fun j hj => by rw [e37, qI_wI, if_neg (fun q => hj q.2)]
  have wr : ∀ a : Nat, a ≠ 0 → qI S37 a = qI S35 a := fun a ha => by rw [e37, rdH ha]
  have f3 : ∀ j : Nat, j ∉ [7, 8, 13, 25] → qI S35 0 j = qI S32 0 j := fun j hj => (hf3.2.2.2.2.2 j hj).1
  have s37 : smB S35 S37 := by rw [e37]; exact o1.ss (a := 0) (t := 10) o1.z (by decide)
  have c12 : qI S37 0 12 = qI U 0 12 := by rw [w 12 (by decide), f3 12 (by decide), r3, p3, y12]
  have c20 : qI S37 0 20 = qI U 0 13 := by rw [w 20 (by decide), f3 20 (by decide), i20, z 20 (by decide), g20, y20]
  have c21 : qI S37 0 21 = qI S32 0 21 := by rw [w 21 (by decide), f3 21 (by decide)]
  have c22 : qI S37 0 22 = qI S28 0 21 := by rw [w 22 (by decide), f3 22 (by decide), i22, z22]
  have c25 : qI S37 0 25 = qI S35 0 25 := w 25 (by decide)
  have c9 : qI S37 9 = qI S32 9 := by rw [wr 9 (by decide)]; exact (hf3.2.2.2.2.1 9 (by decide) (by decide)).1
  have d12 : qI S37 0 12 = qI S32 0 12 := by rw [w 12 (by decide), f3 12 (by decide)]
  refine hQ S37 ⟨by rw [e37]; exact o1.fld (by decide), sU4.tr (o2.tr s37), c12, ?_, ?_, fun i hi => ?_, by rw [c25]; omega, fun a ha => ?_, ?_, ?_, ?_, ?_⟩
  · rw [c20, c12]; omega
  · rw [c22, c21]; omega
  · rw [c21] at hi
    exact (m32 i hi).mv (by rw [c9]) d12
  · rw [w 25 (by decide)] at ha
    by_cases e : (a : Int) < (qI S32 0 25).toInt
    · exact (a32 a e).mv (o2.tr s37) (by rw [wr 10 (by decide), o6 a e]) d12
    · exact (o7 a (by omega) ha).mv s37 (by rw [wr 10 (by decide)]) (w 12 (by decide))
  · rw [wr 4 (by decide), (hf3.2.2.2.2.1 4 (by decide) (by decide)).1, i4, zr 4 (by decide), g4, yr 4 (by decide)]
  · rw [wr 6 (by decide), (hf3.2.2.2.2.1 6 (by decide) (by decide)).1, i6, zr 6 (by decide), g6, yr 6 (by decide)]
  · rw [wr 7 (by decide), (hf3.2.2.2.2.1 7 (by decide) (by decide)).1, i7, zr 7 (by decide), g7, yr 7 (by decide)]
  · rw [w 14 (by decide), f3 14 (by decide), i14, z 14 (by decide), g14, y 14 (by decide) (by decide) (by decide) (by decide)]
section LLX
variable {g : Nat → Int32} {pos : Nat → Nat} {num : Nat → Int} {ne : Nat}
theorem sp_layoutD_L136 {S : MS} {Q : MS → Prop} (hg : gB S = g) (hE : EnB g pos num ne) (hT : TlB g (pos ne)) (hQ : ∀ u, MmI u → Q u) :
    ∀ (m : Nat) (U : MS) (k : Int32) (e : Nat), (1 ≤ k.toInt ∧ k.toInt ≤ 501 ∧ LyL S U k.toInt) → (e ≤ ne ∧ k.toInt = num e ∧ (qI U 0 13).toInt = pos e ∧ (qI U 0 14).toInt = num ne) → (502 - k.toInt).toNat < m → w_layout_L136 Q (fun _ => True) m U k := by
  intro m
  induction m with
  | zero => intro U i e _ _ h9; exact absurd h9 (Nat.not_lt_zero _)
  | succ m ih =>
    rintro U k e ⟨k0, k1, hR, hs, e12, hp, hL, hZ⟩ ⟨he, ek, e13, e14⟩ hm
    have gU : gB U = g := hs.g.trans hg
    have pU : pS U = pos e := by unfold pS; omega
    unfold w_layout_L136
    refine ⟨fun c => ?_, fun c => ?_⟩
    · have ee : e = ne := by
        by_cases q : e = ne
        · exact q
        · have := hE.nu (ne - e) e (by omega)
          rw [show e + (ne - e) = ne by omega] at this
          omega
      refine sp_layD hR (by rw [gU, pU, ee]; exact hT) (fun u hu => ?_)
      obtain ⟨p1, p2, p3, p4, p5, p6, p6b, p7, p8, p9, p10, p11⟩ := hu
      refine hQ u ⟨p1, p4, p5, p6, p6b, p7, by rw [p11]; exact hp, fun j hj hj2 => ?_⟩
      rw [p11] at hj2
      exact (hL j hj (by omega)).mv (by rw [p8]) (by rw [p9]) (by rw [p10]) p3 p2
    · have el : e < ne := by
        by_cases q : e = ne
        · rw [q] at ek; omega
        · omega
      obtain ⟨n1, n2⟩ := hE.2.2 e el
      refine ⟨_, _, fr_entry (sp_entD hR ⟨by omega, by omega⟩), ?_, fun _ _ => trivial⟩
      rintro u ⟨⟨⟨q1, q2, q3, q4, q5, q6⟩, qt, qp⟩, hf⟩
      rw [gU, pU] at qt qp
      have u13 := qp (pos (e + 1)) n1
      have f14 : qI u 0 14 = qI U 0 14 := (hf.2.2.2.2.2 14 (by decide)).1
      have hk : (k.toInt.toNat : Int) = k.toInt := by omega
      have ol : ∀ j : Nat, 1 ≤ j → (j : Int) < k.toInt + 1 → eO0 u j := fun j hj hj2 => by
        by_cases e : j = k.toInt.toNat
        · rw [e]; exact Or.inl q6
        · exact (hL j hj (by omega)).mv (q5 j e).1 (q5 j e).2.1 (q5 j e).2.2 q3 q2
      have oz : ∀ j : Nat, k.toInt + 1 ≤ (j : Int) → j < 502 → (qI u 4 j).toInt = 0 := fun j hj hj2 => by
        rw [(q5 j (by omega)).1]
        exact hZ j (by omega) hj2
      have e1 : (k + (1 : Int32)).toInt = k.toInt + 1 := by rw [t_add (by rw [li_1]; omega), li_1]
      have e2 : (k + (2 : Int32)).toInt = k.toInt + 2 := by rw [t_add (by rw [li_2]; omega), li_2]
      refine ⟨⟨by omega, by omega⟩, fun c5 => ?_, fun c5 => ?_⟩
      · unfold w_layout_J165
        intro a ea
        subst ea
        rw [if_pos (by rw [← qt]; exact c5)] at n2
        refine ih _ _ (e + 1) ⟨by omega, by omega, q1, hs.tr q2, by rw [q3, e12], by rw [f14]; exact hp, fun j hj hj2 => ?_, fun j hj hj2 => oz j (by omega) hj2⟩ ⟨by omega, by omega, u13, by rw [f14]; exact e14⟩ (by omega)
        by_cases e : (j : Int) < k.toInt + 1
        · exact ol j hj e
        · exact Or.inr (oz j (by omega) (by omega))
      · unfold w_layout_J165
        intro a ea
        subst ea
        rw [if_neg (by rw [← qt]; exact c5)] at n2
        exact ih _ _ (e + 1) ⟨by omega, by omega, q1, hs.tr q2, by rw [q3, e12], by rw [f14]; exact hp, fun j hj hj2 => ol j hj (by omega), fun j hj hj2 => oz j (by omega) hj2⟩ ⟨by omega, by omega, u13, by rw [f14]; exact e14⟩ (by omega)
theorem sp_layoutD_L112 {S : MS} {Q : MS → Prop} (hg : gB S = g) (hE : EnB g pos num ne) (hT : TlB g (pos ne)) (hQ : ∀ u, MmI u → Q u) :
    ∀ (m : Nat) (U : MS) (k : Int32), (0 ≤ k.toInt ∧ k.toInt ≤ 502 ∧ qN U 4 = 502 ∧ RdI U ∧ smB S U ∧ qI U 0 12 = qI S 0 12 ∧ (1 ≤ (qI U 0 14).toInt ∧ (qI U 0 14).toInt ≤ 500) ∧ ∀ j : Nat, (j : Int) < k.toInt → (qI U 4 j).toInt = 0) → ((qI U 0 13).toInt = 10 ∧ (qI U 0 14).toInt = num ne) → (502 - k.toInt).toNat < m → w_layout_L112 Q (fun _ => True) m U k := by
  intro m
  induction m with
  | zero => intro U i _ _ h9; exact absurd h9 (Nat.not_lt_zero _)
  | succ m ih =>
    rintro U k ⟨k0, k1, hN, hR, hs, e12, hp, hZ⟩ ⟨e13, e14⟩ hm
    unfold w_layout_L112
    have eN : (Int32.ofNat (qN U 4)).toInt = 502 := by rw [hN]; decide
    rw [eN]
    refine ⟨fun c => ⟨_, sp_layoutD_L136 hg hE hT hQ _ U 1 0 ⟨by decide, by decide, hR, hs, e12, hp, fun j hj hj2 => ?_, fun j hj hj2 => hZ j (by omega)⟩ ⟨by omega, by rw [hE.2.1]; decide, by rw [hE.1]; exact e13, e14⟩ (Nat.lt_succ_self _)⟩, fun c => ?_⟩
    · rw [li_1] at hj2; omega
    · refine ⟨⟨k0, by omega⟩, fun u eu a ea => ?_⟩
      have t4 : qT U 4 = 2 := hR.fin fin_15
      have e1 : a.toInt = k.toInt + 1 := by rw [ea, t_add (by rw [lo_1]; omega), lo_1]
      have u0 : qI u 0 = qI U 0 := by rw [eu, rdH (by decide)]
      refine ih u a ⟨by omega, by omega, by rw [eu]; exact hN, by rw [eu]; exact hR.row (by decide), by rw [eu]; exact hs.tr (hR.ss (a := 4) (t := 2) t4 (by decide)), by rw [u0, e12], by rw [u0]; exact hp, fun j hj => ?_⟩ (by rw [u0]; exact ⟨e13, e14⟩) (by omega)
      rw [eu, qI_wI]
      by_cases e : j = k.toInt.toNat
      · rw [if_pos ⟨rfl, e⟩]; decide
      · rw [if_neg (fun q => e q.2)]; exact hZ j (by omega)
theorem sp_layoutD_L2 {S : MS} {Q : MS → Prop} (hB : BsI S) (hN : qN S 4 = 502) (hg : gB S = g) (hE : EnB g pos num ne) (h8 : tw g 8 = num ne) (hT : TlB g (pos ne)) (hQ : ∀ u, MmI u → Q u) :
    ∀ (m : Nat) (k : Int32), (0 ≤ k.toInt ∧ k.toInt ≤ 8 ∧ k.toInt ≤ (qI S 0 12).toInt) → (8 - k.toInt).toNat < m → w_layout_L2 Q (fun _ => True) m S k := by
  intro m
  induction m with
  | zero => intro i _ h9; exact absurd h9 (Nat.not_lt_zero _)
  | succ m ih =>
    rintro k ⟨k0, k1, k2⟩ hm
    unfold w_layout_L2
    refine ⟨fun c S2 e2 => ?_, fun c => ?_⟩
    · have l2 : (2 : Int64).toInt = 2 := by decide
      have h2 : RdI S2 := by rw [e2]; exact hB.nx (by decide) (by rw [li_8]; omega)
      have x13 : qI S2 0 13 = 8 := by rw [e2, n_13]
      have x12 : qI S2 0 12 = qI S 0 12 := by rw [e2, n_12]
      refine ⟨_, _, sp_over h2 (by decide), ?_, fun _ _ => trivial⟩
      rintro r4 S5 ⟨e4, v, e5, a1, b1⟩
      rw [x13, l2, li_8] at a1
      rw [x12] at b1
      have h5 : RdI S5 := by rw [e5]; exact h2.nx (by omega) (by rw [x12]; exact b1)
      have y12 : qI S5 0 12 = qI S 0 12 := by rw [e5, n_12, x12]
      have y13 : qI S5 0 13 = v := by rw [e5, n_13]
      have s5 : smB S S5 := by rw [e5, e2, wI_wI]; exact hB.sm
      refine ⟨h5.two (by rw [e4, x13, li_8]; omega) (by rw [e4, x13, li_8, y12]; omega), fun S10 e10 => ?_⟩
      have h10 : RdI S10 := by rw [e10]; exact h5.fld (by decide)
      have z12 : qI S10 0 12 = qI S 0 12 := by rw [e10, qI_wI, if_neg (by decide), y12]
      have z13 : qI S10 0 13 = v := by rw [e10, qI_wI, if_neg (by decide), y13]
      have z14 : (qI S10 0 14).toInt = num ne := by
        rw [e10, qI_wI, if_pos ⟨rfl, rfl⟩, f_tw (by rw [e4, x13, li_8]; omega), s5.g, hg, e4, x13, li_8]
        exact h8
      have s10 : smB S S10 := s5.tr (by rw [e10]; exact h5.ss (a := 0) (t := 10) h5.z (by decide))
      have st : ∀ t : Int32, (t.toInt ≠ 0 → 1 ≤ (qI S10 0 14).toInt ∧ (qI S10 0 14).toInt ≤ 500) → w_layout_J104 Q (fun _ => True) S10 t := fun t ht => by
        unfold w_layout_J104
        refine ⟨_, _, sp_must, ?_, fun _ _ => trivial⟩
        rintro U3 ⟨rfl, hz⟩
        exact ⟨_, sp_layoutD_L112 hg hE hT hQ _ _ 0 ⟨by decide, by decide, by rw [e10, e5, e2]; exact hN, h10, s10, z12, ht hz, fun j hj => absurd hj (by rw [li_0]; omega)⟩ ⟨by rw [z13]; omega, z14⟩ (Nat.lt_succ_self _)⟩
      refine ⟨fun _ => ?_, fun c1 => ⟨fun _ => ?_, fun c2 => st 1 (fun _ => ⟨by omega, by omega⟩)⟩⟩
      · unfold w_layout_J103; exact st 0 (fun q => absurd rfl q)
      · unfold w_layout_J103; exact st 0 (fun q => absurd rfl q)
    · have e1 : (k + Int32.ofInt 1).toInt = k.toInt + 1 := by rw [t_add (by rw [lo_1]; omega), lo_1]
      have s48 : k.toInt < (qI S 0 12).toInt → ∀ t : Int32, w_layout_J48 Q (fun _ => True) (w_layout_L2 Q (fun _ => True) m) S t k := fun hk t => by
        unfold w_layout_J48
        refine ⟨_, _, sp_must, ?_, fun _ _ => trivial⟩
        rintro U3 ⟨rfl, -⟩ a ea
        subst ea
        exact ih _ ⟨by omega, by omega, by omega⟩ (by omega)
      have s22 : ∀ t : Int32, (t.toInt ≠ 0 → k.toInt < (qI S 0 12).toInt) → w_layout_J22 Q (fun _ => True) (w_layout_L2 Q (fun _ => True) m) S t k := fun t ht => by
        unfold w_layout_J22
        refine ⟨_, _, sp_must, ?_, fun _ _ => trivial⟩
        rintro U3 ⟨rfl, hz⟩
        exact ⟨hB.oct k0 (ht hz), trivial, fun _ => s48 (ht hz) 1, fun _ => s48 (ht hz) 0⟩
      exact ⟨fun _ => s22 0 (fun q => absurd rfl q), fun c2 => s22 1 (fun _ => by omega)⟩
end LLX
theorem sp_layoutD {S : MS} {n : Int} (hB : BsI S) (hN : qN S 4 = 502) (hL : LayB (gB S) n) : w_layout S MmI (fun _ => True) := by
  obtain ⟨pos, num, ne, hE, h8, hT⟩ := hL.tl
  unfold w_layout
  have h0 : 0 ≤ (qI S 0 12).toInt := by obtain ⟨b, -, -, -, h5, -⟩ := hB; exact h5
  exact ⟨_, sp_layoutD_L2 hB hN rfl hE h8 hT (fun u hu => hu) _ 0 ⟨by decide, by decide, by rw [li_0]; exact h0⟩ (Nat.lt_succ_self _)⟩
/-! a file is read and kept (behind sp_readFile, sp_layoutD) -/
def KdP (V : MS → Nat → Prop) (S u : MS) : Prop := FsI V u ∧ knI u ∧ (∀ a : Nat, a ≠ 0 → a ≠ 1 → (a < 4 ∨ 21 < a) → (a < qn S ∨ qn u ≤ a) → sm5 S u a) ∧ (∀ a : Nat, a ≤ 21 → qT u a = qT S a ∧ qN u a = qN S a) ∧ (∀ j : Nat, j ∉ JL → j ≠ 1 → qI u 0 j = qI S 0 j) ∧ (∀ j : Nat, j ∉ JL → qJ u 0 j = qJ S 0 j ∧ qR u 0 j = qR S 0 j) ∧ (∀ i : Nat, (i : Int) < (qI S 0 1).toInt → qR u 1 i = qR S 1 i) ∧ (XsI S → XsI u) ∧ (qn S ≤ qn u ∧ ((qI u 0 1 = qI S 0 1 ∧ qn u ≤ qn S + 14 ∧ qu u ≤ qu S + 335) ∨ ((qI u 0 1).toInt = (qI S 0 1).toInt + 1 ∧ qn u ≤ qn S + 780 ∧ qu u ≤ qu S + 106400)))
theorem sp_rk {V : MS → Nat → Prop} {S : MS} {b : Nat} {n : Int32} (hV : stab V) (h : FsI V S) (h12 : (qI S 0 1).toInt < 12) (RI : RfI S b n) (hby : byt S b) (hbn : b = 2 ∨ 21 < b) (hlay : ∃ Q3, w_layout (wI (wR S 0 11 (some b)) 0 12 n) Q3 (fun _ => True) ∧ ∀ u, Q3 u → MmI u) : ∃ Q6 EQ6, w_readFile S b n Q6 EQ6 ∧ (∀ (f : Nat) (U : MS), Q6 f U → ∃ Q12, w_kept U f Q12 ∧ ∀ (r : Int32) (W : MS), Q12 r W → KdP V S W) ∧ ∀ u : MS, EQ6 u → KdP V S u := by
  have h1 := h.1
  have hk := RI.2.2.1
  have hr := RI.2.2.2.2.2
  refine ⟨_, _, sp_readFile RI hby hbn hlay, ?_, ?_⟩
  · rintro f U ⟨ef, ⟨hF, h21⟩, hR, hK, hX⟩
    obtain ⟨r1, r2, r3, r4, r5⟩ := hR
    have u1 : qI U 0 1 = qI S 0 1 := (r3 1 (by decide)).1
    have FU : FsI V U := h.mv hV hk (fun a a0 a1 => r1 a (by omega) (by omega) (Or.inl (by omega))) (fun a a0 => r1 a (by rw [show TXB = 10000000 from rfl] at a0; omega) (by rw [show TXB = 10000000 from rfl] at a0; omega) (Or.inr (by rw [show TXB = 10000000 from rfl] at a0; have := hK.2.1; rw [show KC = 300000 from rfl] at this; omega))) (by omega) (r3 1 (by decide)).1 (r1 1 (by decide) (by decide) (Or.inl (by have := hk.1; omega))).2.2.1
    refine ⟨fun r W => ∃ D : MS, D = wR U 1 (qI U 0 1).toInt.toNat (some f) ∧ W = wI D 0 1 (qI D 0 1 + 1), ⟨by rw [u1]; omega, fun D eD W eW => ⟨D, eD, eW⟩⟩, ?_⟩
    rintro r W ⟨D, eD, eW⟩
    have d0 : qI D 0 1 = qI S 0 1 := by rw [eD]; exact u1
    have w1 : (qI W 0 1).toInt = (qI S 0 1).toInt + 1 := by rw [eW, qI_wI, if_pos ⟨rfl, rfl⟩, d0, t_add (by rw [li_1]; omega), li_1]
    have sW : ∀ a : Nat, a ≠ 0 → a ≠ 1 → sm5 U W a := fun a a0 a1 => by
      have q1 : sm5 U D a := by rw [eD]; exact sm5.wR a1
      have q2 : sm5 D W a := by rw [eW]; exact sm5.wI a0
      exact q1.tr q2
    have wn : qn W = qn U := by rw [eW, eD]; rfl
    have wu : qu W = qu U := by rw [eW, eD]; rfl
    have wR1 : ∀ i : Nat, qR W 1 i = if i = (qI S 0 1).toInt.toNat then some f else qR U 1 i := fun i => by
      rw [eW]
      show qR D 1 i = _
      rw [eD, qR_wR, u1]
      by_cases q : i = (qI S 0 1).toInt.toNat
      · rw [if_pos ⟨rfl, q⟩, if_pos q]
      · rw [if_neg (fun z => q z.2), if_neg q]
    have w0 : ∀ j : Nat, j ≠ 1 → qI W 0 j = qI U 0 j := fun j hj => by rw [eW, qI_wI, if_neg (fun q => hj q.2), eD]; rfl
    have XW : XsI S → XsI W := fun hs => by
      have XU : XsI U := hs.mv h (fun a a0 a1 => (r1 a (by omega) (by omega) (Or.inl a1)).s6) u1 (r1 1 (by decide) (by decide) (Or.inl (by have := hk.1; omega))).2.2.1
      intro i f' hi hr'
      rw [wR1] at hr'
      by_cases q : i = (qI S 0 1).toInt.toNat
      · rw [if_pos q] at hr'
        have ef' : f = f' := by injection hr'
        subst ef'
        exact hX.mv hF (fun a a0 _ => (sW a (by have := hF.1.1.1; omega) (by have := hF.1.1.1; omega)).s6)
      · rw [if_neg q] at hr'
        have hi' : (i : Int) < (qI U 0 1).toInt := by rw [u1]; omega
        obtain ⟨f2, a2, b2, _⟩ := FU.2 i hi'
        have ef' : f2 = f' := by rw [hr'] at a2; injection a2.symm
        subst ef'
        exact (XU i f2 hi' hr').mv b2 (fun a a0 _ => (sW a (by have := b2.1.1.1; omega) (by have := b2.1.1.1; omega)).s6)
    refine ⟨⟨⟨by omega, by omega⟩, fun i hi => ?_⟩, ⟨by rw [wn]; exact hK.1, by rw [wn]; exact hK.2.1, fun a ha => ?_⟩, fun a a0 a1 a2 a3 => (r1 a a0 a2 (by omega)).tr (sW a a0 a1), fun a ha => ?_, fun j j0 j1 => ?_, fun j j0 => ?_, fun i hi => ?_, XW, by omega, Or.inr ⟨w1, by omega, by omega⟩⟩
    · have fl : ∀ f' : Nat, FlI U f' → ((qI U f' 21).toInt = 1 → V U f') → FlI W f' ∧ ((qI W f' 21).toInt = 1 → V W f') := fun f' hf' hv => by
        have hb := hf'.1.1.1
        have sf := sW f' (by omega) (by omega)
        exact ⟨hf'.mv (fun a a0 _ => (sW a (by omega) (by omega)).s6) (by omega), fun z => hV U W f' (hv (by rw [sf.1] at z; exact z)) hK (fun a a0 _ => (sW a (by omega) (by omega)).s6) (fun a a0 => sW a (by rw [show TXB = 10000000 from rfl] at a0; omega) (by rw [show TXB = 10000000 from rfl] at a0; omega)) (by rw [sf.1]) (by rw [sf.2.2.1]) (by omega)⟩
      rw [wR1]
      by_cases q : i = (qI S 0 1).toInt.toNat
      · rw [if_pos q]
        exact ⟨f, rfl, (fl f hF (fun z => by omega)).1, (fl f hF (fun z => by omega)).2⟩
      · rw [if_neg q]
        obtain ⟨f', a, b, d⟩ := FU.2 i (by rw [u1]; omega)
        exact ⟨f', a, fl f' b d⟩
    · have : qT W a = qT U a := by rw [eW, eD]; rfl
      rw [this] at ha
      rw [wn]
      exact hK.2.2 a ha
    · have z1 : qT W a = qT U a := by rw [eW, eD]; rfl
      have z2 : qN W a = qN U a := by rw [eW, eD]; rfl
      rw [z1, z2]
      exact r2 a ha
    · rw [w0 j j1, (r3 j j0).1]
    · have z1 : qJ W 0 j = qJ U 0 j := by rw [eW, eD]; rfl
      have z2 : qR W 0 j = qR U 0 j := by rw [eW]; show qR D 0 j = _; rw [eD, qR_wR, if_neg (fun q => absurd q.1 (by decide))]
      exact ⟨by rw [z1, (r3 j j0).2.1], by rw [z2, (r3 j j0).2.2]⟩
    · rw [wR1, if_neg (by omega), (r1 1 (by decide) (by decide) (Or.inl (by have := hk.1; omega))).2.2.1]
  · rintro U hR
    obtain ⟨r1, r2, r3, r4, r5⟩ := hR
    have w1 : qI U 0 1 = qI S 0 1 := (r3 1 (by decide)).1
    refine ⟨h.mv hV hk (fun a a0 a1 => r1 a (by omega) (by omega) (Or.inl a1)) (fun a a0 => r1 a (by rw [show TXB = 10000000 from rfl] at a0; omega) (by rw [show TXB = 10000000 from rfl] at a0; omega) (Or.inr (by rw [show TXB = 10000000 from rfl] at a0; rw [show KC = 300000 from rfl] at hr; omega))) (by omega) w1 (r1 1 (by decide) (by decide) (Or.inl (by have := hk.1; omega))).2.2.1, ⟨by have := hk.1; omega, by omega, fun a ha => ?_⟩, fun a a0 _ a2 a3 => r1 a a0 a2 a3, r2, fun j j0 _ => (r3 j j0).1, fun j j0 => (r3 j j0).2, fun i _ => by rw [(r1 1 (by decide) (by decide) (Or.inl (by have := hk.1; omega))).2.2.1], fun hs => hs.mv h (fun a a0 a1 => (r1 a (by omega) (by omega) (Or.inl a1)).s6) w1 (r1 1 (by decide) (by decide) (Or.inl (by have := hk.1; omega))).2.2.1, by omega, Or.inl ⟨w1, by omega, by omega⟩⟩
    by_cases q : a < qn U
    · exact Or.inl q
    · have h93 := hk.1
      rw [(r1 a (by omega) (by omega) (Or.inr (by omega))).2.2.2.1] at ha
      have := hk.2.2 a ha
      omega
/-! the draft is written, read and kept (behind sp_outFile, sp_rk, DfI) -/
theorem tx_W {S : MS} (h : TxI S) {i : Nat} (hi : i < NTX) (h1 : 1 ≤ sLr.getD i 0 ∧ sLr.getD i 0 ≤ 100) : txW S (10000000 + 2 * i) := by
  obtain ⟨a, b, _⟩ := h i hi
  have e : TXB + 2 * i + 1 = 10000000 + 2 * i + 1 := rfl
  rw [e] at a b
  exact ⟨by rw [a]; decide, Or.inr (by rw [show TXB = 10000000 from rfl]; omega), by rw [b]; exact h1⟩
theorem txW.hi {S : MS} {s : Nat} (h : txW S s) : 92 < s := by
  have := h.2.1
  unfold plT at this
  rw [show TXB = 10000000 from rfl] at this
  omega
/-- the names that a File's writing can need -/
def NLf (S : MS) (p : Nat) : List Nat := [10000000, erT 0, erT 1, erT 2, erT 3, qO S p 0, qO S p 1] ++ ((List.range (qI S p 3).toInt.toNat).map (fun i => qO S (p + 1) i) ++ ((List.range (qI S p 3).toInt.toNat).map (fun i => qO S (p + 2) i) ++ ((List.range (qI S p 4).toInt.toNat).map (fun i => qO S (p + 4) i) ++ (List.range (qI S p 4).toInt.toNat).map (fun i => qO S (p + 5) i))))
/-- a File's texts -/
def NfI (p : Nat) (S : MS) : Prop := ((p = 60 ∨ 92 < p) ∧ ∀ i : Nat, i < 13 → qR S p (5 + i) = some (p + 1 + i) ∧ qN S (p + 1 + i) = 24) ∧ ((0 ≤ (qI S p 3).toInt ∧ (qI S p 3).toInt ≤ 24) ∧ 0 ≤ (qI S p 4).toInt ∧ (qI S p 4).toInt ≤ 24) ∧ (∃ o ab : Nat, qR S p 0 = some o ∧ qR S p 1 = some ab ∧ txW S o ∧ txW S ab) ∧ (∀ i : Nat, (i : Int) < (qI S p 3).toInt → ∃ n t : Nat, qR S (p + 1) i = some n ∧ qR S (p + 2) i = some t ∧ txW S n ∧ txW S t) ∧ ∀ m : Nat, (m : Int) < (qI S p 4).toInt → ∃ n t : Nat, qR S (p + 4) m = some n ∧ qR S (p + 5) m = some t ∧ txW S n ∧ txW S t
/-- all constants that a File's writing can need are in AL -/
def AlI (AL : List (MS → Prop)) (p : Nat) (S : MS) : Prop := (moS AL ∧ AL.length ≤ 700) ∧ (∀ t, t ∈ NLf S p → kN t ∈ AL) ∧ (kC (qO S p 0) ∈ AL ∧ kC (qO S p 1) ∈ AL) ∧ (∀ e : Nat, e < 4 → kC (erT e) ∈ AL) ∧ (∀ i : Nat, (i : Int) < (qI S p 3).toInt → kP (qO S (p + 1) i) (qO S (p + 2) i) ∈ AL ∧ kM 9 (qO S p 0) (qO S (p + 1) i) (qO S (p + 2) i) ∈ AL) ∧ ∀ m : Nat, (m : Int) < (qI S p 4).toInt → kP (qO S (p + 4) m) (qO S (p + 5) m) ∈ AL ∧ kM 10 (qO S p 0) (qO S (p + 4) m) (qO S (p + 5) m) ∈ AL
theorem qO_s {S : MS} {h i s : Nat} (e : qR S h i = some s) : qO S h i = s := by unfold qO; rw [e]; rfl
theorem NfI.cf {p : Nat} {S : MS} {kp : Prop} {AL : List (MS → Prop)} (h : NfI p S) (tx : TxI S) (hA : kp → AlI AL p S) : CfI (NLf S p) kp AL p S := by
  obtain ⟨h1, h2, ⟨o, ab, r0, r1, wo, wab⟩, hf, hm⟩ := h
  have q0 := qO_s r0
  have q1 := qO_s r1
  have mem : ∀ t : Nat, t ∈ NLf S p ↔ (t = 10000000 ∨ t = erT 0 ∨ t = erT 1 ∨ t = erT 2 ∨ t = erT 3 ∨ t = qO S p 0 ∨ t = qO S p 1) ∨ (∃ i : Nat, i < (qI S p 3).toInt.toNat ∧ qO S (p + 1) i = t) ∨ (∃ i : Nat, i < (qI S p 3).toInt.toNat ∧ qO S (p + 2) i = t) ∨ (∃ i : Nat, i < (qI S p 4).toInt.toNat ∧ qO S (p + 4) i = t) ∨ ∃ i : Nat, i < (qI S p 4).toInt.toNat ∧ qO S (p + 5) i = t := fun t => by
    unfold NLf
    simp only [List.mem_append, List.mem_cons, List.mem_map, List.mem_range, List.not_mem_nil, or_false]
  have w0 : txW S 10000000 := tx_W tx (i := 0) (by decide) (by decide)
  have we : ∀ e : Nat, e < 4 → txW S (erT e) := fun e he => by
    have q : e = 0 ∨ e = 1 ∨ e = 2 ∨ e = 3 := by omega
    rcases q with q | q | q | q
    · subst q; exact tx_W tx (i := 1) (by decide) (by decide)
    · subst q; exact tx_W tx (i := 2) (by decide) (by decide)
    · subst q; exact tx_W tx (i := 3) (by decide) (by decide)
    · subst q; exact tx_W tx (i := 4) (by decide) (by decide)
  have wl : ∀ t, t ∈ NLf S p → txW S t := fun t ht => by
    rcases (mem t).mp ht with (q | q | q | q | q | q | q) | ⟨i, hi, q⟩ | ⟨i, hi, q⟩ | ⟨i, hi, q⟩ | ⟨i, hi, q⟩
    · rw [q]; exact w0
    · rw [q]; exact we 0 (by decide)
    · rw [q]; exact we 1 (by decide)
    · rw [q]; exact we 2 (by decide)
    · rw [q]; exact we 3 (by decide)
    · rw [q, q0]; exact wo
    · rw [q, q1]; exact wab
    · obtain ⟨n, t', a, b, c, d⟩ := hf i (by omega)
      rw [← q, qO_s a]; exact c
    · obtain ⟨n, t', a, b, c, d⟩ := hf i (by omega)
      rw [← q, qO_s b]; exact d
    · obtain ⟨n, t', a, b, c, d⟩ := hm i (by omega)
      rw [← q, qO_s a]; exact c
    · obtain ⟨n, t', a, b, c, d⟩ := hm i (by omega)
      rw [← q, qO_s b]; exact d
  have nm : ∀ t, t ∈ NLf S p → nmO (NLf S p) kp AL S t := fun t ht => ⟨ht, wl t ht, fun k => (hA k).2.1 t ht⟩
  have len : (NLf S p).length ≤ 103 := by
    unfold NLf
    simp only [List.length_append, List.length_map, List.length_range, List.length_cons, List.length_nil]
    omega
  refine ⟨⟨fun t ht => (wl t ht).hi, len, fun k => (hA k).1⟩, h1, h2, o, ab, ⟨r0, r1⟩, ⟨nm o ((mem o).mpr (Or.inl (by rw [q0]; simp only [true_or, or_true]))), fun k => by have := (hA k).2.2.1.1; rw [q0] at this; exact this⟩, ⟨nm ab ((mem ab).mpr (Or.inl (by rw [q1]; simp only [or_true]))), fun k => by have := (hA k).2.2.1.2; rw [q1] at this; exact this⟩, nm _ ((mem _).mpr (Or.inl (Or.inl rfl))), fun e he => ⟨nm _ ((mem _).mpr (Or.inl ?_)), fun k => (hA k).2.2.2.1 e he⟩, fun i hi => ?_, fun m hm' => ?_⟩
  · have q : e = 0 ∨ e = 1 ∨ e = 2 ∨ e = 3 := by omega
    rcases q with q | q | q | q
    · subst q; exact Or.inr (Or.inl rfl)
    · subst q; exact Or.inr (Or.inr (Or.inl rfl))
    · subst q; exact Or.inr (Or.inr (Or.inr (Or.inl rfl)))
    · subst q; exact Or.inr (Or.inr (Or.inr (Or.inr (Or.inl rfl))))
  · obtain ⟨n, t, a, b, c, d⟩ := hf i hi
    refine ⟨n, t, a, b, nm n ((mem n).mpr (Or.inr (Or.inl ⟨i, by omega, qO_s a⟩))), nm t ((mem t).mpr (Or.inr (Or.inr (Or.inl ⟨i, by omega, qO_s b⟩)))), fun k => ?_⟩
    have := (hA k).2.2.2.2.1 i hi
    rw [qO_s a, qO_s b, q0] at this
    exact this
  · obtain ⟨n, t, a, b, c, d⟩ := hm m hm'
    refine ⟨n, t, a, b, nm n ((mem n).mpr (Or.inr (Or.inr (Or.inr (Or.inl ⟨m, by omega, qO_s a⟩))))), nm t ((mem t).mpr (Or.inr (Or.inr (Or.inr (Or.inr ⟨m, by omega, qO_s b⟩))))), fun k => ?_⟩
    have := (hA k).2.2.2.2.2 m hm'
    rw [qO_s a, qO_s b, q0] at this
    exact this
theorem DhI.nf {U : MS} (h : DhI U) : NfI 60 U := by
  obtain ⟨h1, _, h3, ⟨s1, s2, a1, a2, a3, a4⟩, hf, hm⟩ := h
  refine ⟨⟨Or.inl rfl, h1⟩, h3, ⟨s1, s2, a1, a2, a3, a4⟩, fun i hi => ?_, fun m hm' => ?_⟩
  · obtain ⟨t1, t2, t3, b1, b2, b3, b4, b5, b6⟩ := hf i hi
    exact ⟨t1, t2, b1, b2, b4, b5⟩
  · obtain ⟨t1, t2, t3, t4, b1, b2, b3, b4, b5, b6, b7, b8⟩ := hm m hm'
    exact ⟨t1, t2, b1, b2, b5, b6⟩
/-- the draft's rows have a kind -/
def DtO (S : MS) : Prop := ∀ i : Nat, i < 13 → qT S (61 + i) ≠ 0 ∧ qT S (61 + i) ≠ 11
theorem DfI.ro {U : MS} (h : DfI U) (fx : FxI U) (dt : DtO U) : RoI 60 U := by
  obtain ⟨⟨h1, ⟨r1, r2, r3⟩, h3, _, hf, hm⟩, hb, mt⟩ := h
  have t60 := fx.2 (118, 60, 11, 0) (by decide)
  have t74 := fx.2 (119, 74, 2, 87000) (by decide)
  have t75 := fx.2 (120, 75, 2, 40000) (by decide)
  have t76 := fx.2 (121, 76, 2, 1536) (by decide)
  refine ⟨⟨⟨Or.inr rfl, t60.1⟩, ⟨Or.inr (by decide), dt 2 (by decide)⟩, ⟨Or.inr (by decide), dt 5 (by decide)⟩, ⟨Or.inr (by decide), dt 6 (by decide)⟩⟩, 74, 75, 76, 29000, 40000, 384, ⟨r1, r2, r3⟩, ⟨⟨Or.inr (by decide), by rw [t74.1]; decide⟩, ⟨Or.inr (by decide), by rw [t75.1]; decide⟩, ⟨Or.inr (by decide), by rw [t76.1]; decide⟩⟩, ⟨t74.2, t75.2, t76.2⟩, by decide, fun i hi => ?_, fun m hm' => ?_, fun m hm' => ?_⟩
  · obtain ⟨t1, t2, t3, b1, b2, b3, b4, b5, b6⟩ := hf i hi
    exact ⟨t3, b3, b6.2⟩
  · obtain ⟨t1, t2, t3, t4, b1, b2, b3, b4, b5, b6, b7, b8⟩ := hm m hm'
    exact ⟨⟨t3, b3, b7.2⟩, t4, b4, b8.2⟩
  · obtain ⟨L, l, d1, d2, d3, d4, d5, d6, d7, d8, d9⟩ := mt m hm'
    exact ⟨L, l, d1, d2, Int.le_trans d3 hb.1.2, d4, d5, d6, d7, Int.le_trans d8 hb.2.2, d9⟩
/-- what keptDraft leaves -/
def KdQ (S u : MS) : Prop := ∃ A : MS, frm WA JM S A ∧ ByO A ∧ (u = A ∨ (OuI A ∧ KdP VfI A u))
theorem FxI.fm {S u : MS} {W J : List Nat} (h : FxI S) (k : frm W J S u) : FxI u := ⟨by rw [k.1]; exact h.1, fun q hq => by rw [k.1, k.2.1]; exact h.2 q hq⟩
theorem sp_keptDraft {U : MS} (df : DfI U) (fs : FsI VfI U) (hk : knI U) (tx : TxI U) (fx : FxI U) (dt : DtO U) (ou : OuJ U) (t3 : qT U 34 = 1 ∧ qT U 35 = 1) (h12 : (qI U 0 1).toInt < 12) (hr : qn U + 814 ≤ KC ∧ qu U + 106335 ≤ KS) : w_keptDraft U (fun _ u => KdQ U u) := by
  have cf : CfI (NLf U 60) False [] 60 U := df.1.nf.cf tx (fun k => k.elim)
  unfold w_keptDraft
  refine ⟨_, _, sp_outFile cf (df.ro fx dt) (fun k => k.elim) tx ou, ?_, fun u q => ⟨u, q.2.2, q.2.1, Or.inl rfl⟩⟩
  rintro A ⟨fA, oA, wA, lay⟩
  have w5 := oA.wh
  have e7 : qO A 0 75 = wH A := rfl
  have hn : wH A < 60 ∧ 21 < wH A ∧ qT U (wH A) = 1 := by
    rcases w5 with q | q
    · rw [q]; exact ⟨by decide, by decide, t3.1⟩
    · rw [q]; exact ⟨by decide, by decide, t3.2⟩
  have nA : qN A (wH A) = 131072 := by
    rcases w5 with q | q
    · rw [q]; exact oA.2.1.1
    · rw [q]; exact oA.2.1.2
  have bA : byt A (wH A) := by
    rcases w5 with q | q
    · rw [q]; exact oA.2.2.1.1
    · rw [q]; exact oA.2.2.1.2
  have kn := hk.1
  have kA : knI A := hk.f9 fA
  have fsA : FsI VfI A := fs.f9 hk fA (by decide) (by decide)
  have RI : RfI A (wH A) (qI A 0 77) := ⟨fx.fm fA, tx.kp (kpW.f9 fA (by decide)), kA, ⟨by rw [fA.1]; exact hn.2.2, by rw [fA.2.2.1]; omega, by rw [nA]; decide⟩, ⟨oA.2.2.2.1, by rw [nA]; exact oA.2.2.2.2⟩, by rw [fA.2.2.1, fA.2.2.2.1]; exact hr⟩
  have hB := fr_bs RI
  refine ⟨oA.1.2.1, ?_⟩
  rw [e7]
  have g0 : gB (wI (wR A 0 11 (some (wH A))) 0 12 (qI A 0 77)) = qI A (wH A) := by
    have e : qO (wI (wR A 0 11 (some (wH A))) 0 12 (qI A 0 77)) 0 11 = wH A := qO_s (by show qR (wR A 0 11 (some (wH A))) 0 11 = _; rw [qR_wR, if_pos ⟨rfl, rfl⟩])
    unfold gB
    rw [e, rdH (by omega)]
    rfl
  obtain ⟨Q6, E6, r1, r2, r3⟩ := sp_rk VfI.st fsA (by rw [(fA.2.2.2.2.2 1 (by decide)).1]; exact h12) RI bA (Or.inr hn.2.1) ⟨_, sp_layoutD (n := oS A) hB (by show qN A 4 = 502; rw [fA.2.1]; exact (fx.2 (15, 4, 2, 502) (by decide)).2) (by rw [g0]; exact lay), fun u hu => hu⟩
  refine ⟨Q6, E6, r1, fun f V hV => ?_, fun u hu => ⟨A, fA, oA.2.2.1, Or.inr ⟨oA, r3 u hu⟩⟩⟩
  obtain ⟨Q12, k1, k2⟩ := r2 f V hV
  exact ⟨Q12, k1, fun r W hW => ⟨A, fA, oA.2.2.1, Or.inr ⟨oA, k2 r W hW⟩⟩⟩
/-! a kept File is written (behind sp_outFile, NfI, XfI) -/
theorem FlI.nf {S : MS} {f : Nat} (h : FlI S f) : NfI f S := by
  obtain ⟨h1, h2, ⟨o1, o2, ob1, ob2, ow1, ow2, on1, on2⟩, h4, h5, R, T, C, nc, ts, cn, r1, r2, r3, r4, r5, r6⟩ := h
  have p92 := h1.1.1
  refine ⟨⟨Or.inr p92, fun i hi => ⟨(h1.2.2 i hi).1, (h1.2.2 i hi).2.1⟩⟩, h4, ⟨o1, o2, ow1, ow2, on1.tw (by omega) (by omega), on2.tw (by omega) (by omega)⟩, fun i hi => ?_, fun m hm => ?_⟩
  · obtain ⟨s1, s2, s3, b1, b2, b3, y1, y2, y3, n1, n2, q, hq, n3⟩ := h5 i hi
    exact ⟨s1, s2, y1, y2, n1.tw (by omega) (by omega), n2.tw (by omega) (by omega)⟩
  · obtain ⟨⟨pl, ⟨s1, s2, s3, s4, b1, b2, b3, b4, y1, y2, y3, y4, n1, n2, ⟨np, n3⟩, q, hq, n4⟩, _⟩, _⟩ := r6 m hm
    exact ⟨s1, s2, y1, y2, n1.tw (by omega) (by omega), n2.tw (by omega) (by omega)⟩
theorem FlI.ro {S : MS} {f : Nat} (h : FlI S f) : RoI f S := by
  obtain ⟨h1, h2, _, h4, h5, R, T, C, nc, ts, cn, r1, r2, r3, r4, r5, r6⟩ := h
  have p92 := h1.1.1
  have t3 := (h1.2.2 2 (by decide)).2.2
  have t6 := (h1.2.2 5 (by decide)).2.2
  have t7 := (h1.2.2 6 (by decide)).2.2
  rw [if_pos (by decide)] at t3 t6 t7
  refine ⟨⟨⟨Or.inl p92, h1.2.1.1⟩, ⟨Or.inl (by omega), ?_⟩, ⟨Or.inl (by omega), ?_⟩, ⟨Or.inl (by omega), ?_⟩⟩, R, T, C, nc, ts, cn, r2, ⟨⟨Or.inl (by omega), by rw [r3.1]; decide⟩, ⟨Or.inl (by omega), by rw [r3.2.1]; decide⟩, ⟨Or.inl (by omega), by rw [r3.2.2]; decide⟩⟩, r4, ⟨by omega, by omega, r5.2.2⟩, fun i hi => ?_, fun m hm => ?_, fun m hm => ?_⟩
  · rw [show f + 3 = f + 1 + 2 by omega, t3]; decide
  · rw [show f + 6 = f + 1 + 5 by omega, t6]; decide
  · rw [show f + 7 = f + 1 + 6 by omega, t7]; decide
  · obtain ⟨s1, s2, s3, b1, b2, b3, y1, y2, y3, n1, n2, q, hq, n3⟩ := h5 i hi
    exact ⟨s3, y3, (n3.l.tw (by omega) (by omega) hq).2⟩
  · obtain ⟨⟨pl, ⟨s1, s2, s3, s4, b1, b2, b3, b4, y1, y2, y3, y4, n1, n2, ⟨np, n3⟩, q, hq, n4⟩, _⟩, _⟩ := r6 m hm
    exact ⟨⟨s3, y3, (n3.tw (by omega) (by omega) np).2⟩, s4, y4, (n4.tw (by omega) (by omega) hq).2⟩
  · obtain ⟨_, _, l, md⟩ := r6 m hm
    exact ⟨_, l, md.d⟩
/-- the constants of the pool, as slots -/
def AcL (tg : Nat → Int32) (wv : Nat → Int64) : Nat → List (MS → Prop)
  | 0 => []
  | n + 1 => (if 1 ≤ n ∧ ((tg n).toInt = 3 ∨ (tg n).toInt = 5) then [if (tg n).toInt = 3 then kV 3 ((wv n).toInt32).toInt64 else kV 5 (loV ((wv n) >>> ((32 : Int32).toInt64 &&& 63)).toInt32 (wv n).toInt32)] else []) ++ AcL tg wv n
theorem AcL.len {tg : Nat → Int32} {wv : Nat → Int64} : ∀ n : Nat, (AcL tg wv n).length = ccN tg n := by
  intro n
  induction n with
  | zero => rfl
  | succ n ih =>
    unfold AcL ccN
    rw [List.length_append, ih]
    split
    · show 1 + _ = _; omega
    · show 0 + _ = _; omega
theorem AcL.mem {tg : Nat → Int32} {wv : Nat → Int64} {k : Nat} (h1 : 1 ≤ k) (ht : (tg k).toInt = 3 ∨ (tg k).toInt = 5) : ∀ n : Nat, k < n → (if (tg k).toInt = 3 then kV 3 ((wv k).toInt32).toInt64 else kV 5 (loV ((wv k) >>> ((32 : Int32).toInt64 &&& 63)).toInt32 (wv k).toInt32)) ∈ AcL tg wv n := by
  intro n
  induction n with
  | zero => intro h; exact absurd h (Nat.not_lt_zero _)
  | succ n ih =>
    intro h
    unfold AcL
    by_cases q : k = n
    · rw [← q, if_pos ⟨h1, ht⟩]
      exact List.mem_append_left _ List.mem_cons_self
    · exact List.mem_append_right _ (ih (by omega))
theorem AcL.mo {tg : Nat → Int32} {wv : Nat → Int64} : ∀ n : Nat, moS (AcL tg wv n) := by
  intro n
  induction n with
  | zero => intro s q; exact absurd q List.not_mem_nil
  | succ n ih =>
    intro s q
    unfold AcL at q
    rcases List.mem_append.mp q with q | q
    · split at q
      · have e := List.mem_singleton.mp q
        rw [e]
        split
        · exact fun S u hB x z => kV.mo hB x z
        · exact fun S u hB x z => kV.mo hB x z
      · exact absurd q List.not_mem_nil
    · exact ih s q
/-- all that a File's writing can need -/
def ALf (S : MS) (p : Nat) (tg : Nat → Int32) (wv : Nat → Int64) (pc : Nat) : List (MS → Prop) := (NLf S p).map kN ++ ([kC (qO S p 0), kC (qO S p 1), kC (erT 0), kC (erT 1), kC (erT 2), kC (erT 3)] ++ ((List.range (qI S p 3).toInt.toNat).map (fun i => kP (qO S (p + 1) i) (qO S (p + 2) i)) ++ ((List.range (qI S p 3).toInt.toNat).map (fun i => kM 9 (qO S p 0) (qO S (p + 1) i) (qO S (p + 2) i)) ++ ((List.range (qI S p 4).toInt.toNat).map (fun i => kP (qO S (p + 4) i) (qO S (p + 5) i)) ++ ((List.range (qI S p 4).toInt.toNat).map (fun i => kM 10 (qO S p 0) (qO S (p + 4) i) (qO S (p + 5) i)) ++ AcL tg wv pc)))))
theorem ALf.al {S : MS} {p : Nat} {tg : Nat → Int32} {wv : Nat → Int64} {pc : Nat} (h : NfI p S) (tx : TxI S) (hc : 13 + 4 * (qI S p 3).toInt + 4 * (qI S p 4).toInt + ccN tg pc ≤ 700) : AlI (ALf S p tg wv pc) p S ∧ ∀ s, s ∈ AcL tg wv pc → s ∈ ALf S p tg wv pc := by
  have cf : CfI (NLf S p) False [] p S := h.cf tx (fun k => k.elim)
  have nl := cf.1.1
  obtain ⟨h1, h2, ⟨o, ab, r0, r1, wo, wab⟩, hf, hm⟩ := h
  have q0 := qO_s r0
  have q1 := qO_s r1
  have b0 : 92 < qO S p 0 := by rw [q0]; exact wo.hi
  have b1 : 92 < qO S p 1 := by rw [q1]; exact wab.hi
  have bf : ∀ i : Nat, i < (qI S p 3).toInt.toNat → 92 < qO S (p + 1) i ∧ 92 < qO S (p + 2) i := fun i hi => by
    obtain ⟨n, t, a, b, c, d⟩ := hf i (by omega)
    rw [qO_s a, qO_s b]; exact ⟨c.hi, d.hi⟩
  have bm : ∀ i : Nat, i < (qI S p 4).toInt.toNat → 92 < qO S (p + 4) i ∧ 92 < qO S (p + 5) i := fun i hi => by
    obtain ⟨n, t, a, b, c, d⟩ := hm i (by omega)
    rw [qO_s a, qO_s b]; exact ⟨c.hi, d.hi⟩
  have mem : ∀ s : MS → Prop, s ∈ ALf S p tg wv pc ↔ (∃ t, t ∈ NLf S p ∧ kN t = s) ∨ (s = kC (qO S p 0) ∨ s = kC (qO S p 1) ∨ s = kC (erT 0) ∨ s = kC (erT 1) ∨ s = kC (erT 2) ∨ s = kC (erT 3)) ∨ (∃ i : Nat, i < (qI S p 3).toInt.toNat ∧ kP (qO S (p + 1) i) (qO S (p + 2) i) = s) ∨ (∃ i : Nat, i < (qI S p 3).toInt.toNat ∧ kM 9 (qO S p 0) (qO S (p + 1) i) (qO S (p + 2) i) = s) ∨ (∃ i : Nat, i < (qI S p 4).toInt.toNat ∧ kP (qO S (p + 4) i) (qO S (p + 5) i) = s) ∨ (∃ i : Nat, i < (qI S p 4).toInt.toNat ∧ kM 10 (qO S p 0) (qO S (p + 4) i) (qO S (p + 5) i) = s) ∨ s ∈ AcL tg wv pc := fun s => by
    unfold ALf
    simp only [List.mem_append, List.mem_cons, List.mem_map, List.mem_range, List.not_mem_nil, or_false]
  have be : ∀ e : Nat, 92 < erT e := fun e => by unfold erT; omega
  have ac : ∀ s, s ∈ AcL tg wv pc → s ∈ ALf S p tg wv pc := fun s q => (mem s).mpr (Or.inr (Or.inr (Or.inr (Or.inr (Or.inr (Or.inr q))))))
  refine ⟨⟨⟨fun s hs => ?_, ?_⟩, fun t ht => (mem _).mpr (Or.inl ⟨t, ht, rfl⟩), ⟨(mem _).mpr (Or.inr (Or.inl (Or.inl rfl))), (mem _).mpr (Or.inr (Or.inl (Or.inr (Or.inl rfl))))⟩, fun e he => (mem _).mpr (Or.inr (Or.inl ?_)), fun i hi => ⟨(mem _).mpr (Or.inr (Or.inr (Or.inl ⟨i, by omega, rfl⟩))), (mem _).mpr (Or.inr (Or.inr (Or.inr (Or.inl ⟨i, by omega, rfl⟩))))⟩, fun i hi => ⟨(mem _).mpr (Or.inr (Or.inr (Or.inr (Or.inr (Or.inl ⟨i, by omega, rfl⟩))))), (mem _).mpr (Or.inr (Or.inr (Or.inr (Or.inr (Or.inr (Or.inl ⟨i, by omega, rfl⟩))))))⟩⟩, ac⟩
  · rcases (mem s).mp hs with ⟨t, ht, q⟩ | (q | q | q | q | q | q) | ⟨i, hi, q⟩ | ⟨i, hi, q⟩ | ⟨i, hi, q⟩ | ⟨i, hi, q⟩ | q
    · rw [← q]; exact fun S u hB x z => kN.mo (nl t ht) hB x z
    · rw [q]; exact fun S u hB x z => kC.mo b0 hB x z
    · rw [q]; exact fun S u hB x z => kC.mo b1 hB x z
    · rw [q]; exact fun S u hB x z => kC.mo (be 0) hB x z
    · rw [q]; exact fun S u hB x z => kC.mo (be 1) hB x z
    · rw [q]; exact fun S u hB x z => kC.mo (be 2) hB x z
    · rw [q]; exact fun S u hB x z => kC.mo (be 3) hB x z
    · rw [← q]; exact fun S u hB x z => kP.mo (bf i hi).1 (bf i hi).2 hB x z
    · rw [← q]; exact fun S u hB x z => kM.mo b0 (bf i hi).1 (bf i hi).2 hB x z
    · rw [← q]; exact fun S u hB x z => kP.mo (bm i hi).1 (bm i hi).2 hB x z
    · rw [← q]; exact fun S u hB x z => kM.mo b0 (bm i hi).1 (bm i hi).2 hB x z
    · exact AcL.mo pc s q
  · unfold ALf NLf
    simp only [List.length_append, List.length_map, List.length_range, List.length_cons, List.length_nil, AcL.len]
    omega
  · have q : e = 0 ∨ e = 1 ∨ e = 2 ∨ e = 3 := by omega
    rcases q with q | q | q | q
    · subst q; exact Or.inr (Or.inr (Or.inl rfl))
    · subst q; exact Or.inr (Or.inr (Or.inr (Or.inl rfl)))
    · subst q; exact Or.inr (Or.inr (Or.inr (Or.inr (Or.inl rfl))))
    · subst q; exact Or.inr (Or.inr (Or.inr (Or.inr (Or.inr rfl))))
theorem XfI.ck {S : MS} {f : Nat} (hx : XfI S f) (hf : FlI S f) (tx : TxI S) : ∃ AL : List (MS → Prop), AlI AL f S ∧ CkF True AL f S := by
  obtain ⟨R, nc, eR, nR, tg, wv, pc, kc, _, _, cc⟩ := hx
  obtain ⟨al, ac⟩ := ALf.al (wv := wv) hf.nf tx cc
  refine ⟨_, al, fun _ m i hm hi => ?_⟩
  obtain ⟨_, _, _, _, _, R', T, C, nc', ts, cn, r1, r2, r3, r4, r5, r6⟩ := hf
  have e' : R' = R := by have := r2.1; rw [eR] at this; injection this.symm
  subst e'
  rw [qO_s eR]
  have mt := (r6 m hm).2.2.2
  have n1 := mt.1
  have n2 := mt.2.2.1
  have k := kc ((qI S (f + 10) m).toInt.toNat + i) (by omega)
  refine ⟨fun e => ?_, fun e => ?_⟩
  · rcases k.1 e with q | ⟨k', k1, k2, k3⟩
    · exact Or.inl q
    · have z := ac _ (AcL.mem (tg := tg) (wv := wv) k1.1 (Or.inl k2) pc (by omega))
      rw [if_pos k2] at z
      rw [k3]
      exact Or.inr z
  · rcases k.2 e with ⟨q, q' | q'⟩ | ⟨k', k1, k2, k3, k4⟩
    · rw [q, q']; exact Or.inl (by decide)
    · rw [q, q']; exact Or.inr (Or.inl (by decide))
    · have z := ac _ (AcL.mem (tg := tg) (wv := wv) k1.1 (Or.inr k2) pc (by omega))
      rw [if_neg (by omega)] at z
      rw [k3, k4]
      exact Or.inr (Or.inr z)
/-- what write leaves -/
def WtQ (S u : MS) : Prop := u = S ∨ ∃ A : MS, frm WA JM S A ∧ OuI A ∧ LayB (qI A (wH A)) (oS A) ∧ u = wI (wR (wR A 0 76 (some (qO A 0 75))) 0 75 (some (qO A 0 76))) 0 78 (qI A 0 77)
theorem sp_write {S : MS} {x : Int32} (fs : FsI VfI S) (xs : XsI S) (tx : TxI S) (ou : OuJ S) : w_write S x (fun _ u => WtQ S u) (fun _ => False) := by
  unfold w_write
  refine ⟨_, sp_isRight fs, ?_⟩
  rintro r0 S' ⟨rfl, hr0⟩
  refine ⟨fun _ => Or.inl rfl, fun c0 => ?_⟩
  obtain ⟨f, hx, hf, fl, vf⟩ := hr0 c0
  have b12 := fs.1
  have qf := qO_s hf
  obtain ⟨AL, al, ck⟩ := (xs x.toInt.toNat f (by omega) hf).ck fl tx
  have cf : CfI (NLf S' f) True AL f S' := fl.nf.cf tx (fun _ => al)
  rw [qf]
  refine ⟨⟨hx.1, by omega⟩, hf, _, _, sp_outFile cf fl.ro ck tx ou, ?_, fun u q => q.1 trivial⟩
  rintro A ⟨fA, oA, wA, lay⟩
  refine ⟨oA.1.2.2, oA.1.2.1, fun B eB C eC D eD => Or.inr ⟨A, fA, oA, lay, ?_⟩⟩
  rw [eD, eC, eB]
  rfl
theorem WtQ.ou {S u : MS} (h : WtQ S u) (ou : OuJ S) : OuJ u := by
  rcases h with e | ⟨A, _, oA, _, e⟩
  · rw [e]; exact ou
  · have r5 : qR u 0 75 = some (qO A 0 76) := by rw [e]; show qR (wR (wR A 0 76 (some (qO A 0 75))) 0 75 (some (qO A 0 76))) 0 75 = _; rw [qR_wR, if_pos ⟨rfl, rfl⟩]
    have r6 : qR u 0 76 = some (qO A 0 75) := by rw [e]; show qR (wR (wR A 0 76 (some (qO A 0 75))) 0 75 (some (qO A 0 76))) 0 76 = _; rw [qR_wR, if_neg (by decide), qR_wR, if_pos ⟨rfl, rfl⟩]
    have hi : ∀ a : Nat, a ≠ 0 → qI u a = qI A a := fun a ha => by rw [e, rdH ha]; rfl
    have nn : qN u = qN A := by rw [e]; rfl
    refine ⟨⟨?_, by rw [qO_s r5]; exact r5, by rw [qO_s r6]; exact r6⟩, by rw [nn]; exact oA.2.1, fun i => by rw [hi 34 (by decide)]; exact oA.2.2.1.1 i, fun i => by rw [hi 35 (by decide)]; exact oA.2.2.1.2 i⟩
    rw [qO_s r5, qO_s r6]
    have := oA.1.1
    omega
