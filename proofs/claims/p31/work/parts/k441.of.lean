/-! outFile, and how its bytes are laid (behind sp_oE, sp_outMethod, sp_collect) -/
def EnB (g : Nat → Int32) (pos : Nat → Nat) (num : Nat → Int) (ne : Nat) : Prop := pos 0 = 10 ∧ num 0 = 1 ∧ ∀ e : Nat, e < ne → enL g (pos e) (pos (e + 1)) ∧ num (e + 1) = num e + (if oc g (pos e) = 5 then 2 else 1)
theorem EnB.up {g : Nat → Int32} {pos : Nat → Nat} {num : Nat → Int} {ne : Nat} (h : EnB g pos num ne) : ∀ d e : Nat, e + d ≤ ne → pos e + 3 * d ≤ pos (e + d) := by
  intro d
  induction d with
  | zero => intro e _; exact Nat.le_refl _
  | succ d ih =>
    intro e hd
    have a := ih e (by omega)
    have b := (h.2.2 (e + d) (by omega)).1.2.1
    rw [show e + (d + 1) = e + d + 1 by omega]
    omega
theorem EnB.mv {g g' : Nat → Int32} {pos : Nat → Nat} {num : Nat → Int} {ne : Nat} (h : EnB g pos num ne) (e : ∀ j : Nat, j < pos ne → g' j = g j) : EnB g' pos num ne := ⟨h.1, h.2.1, fun i hi => by
  obtain ⟨a, b⟩ := h.2.2 i hi
  have u := h.up (ne - (i + 1)) (i + 1) (by omega)
  rw [show i + 1 + (ne - (i + 1)) = ne by omega] at u
  have l := a.2.1
  have eo : oc g' (pos i) = oc g (pos i) := by unfold oc; rw [e _ (by omega)]
  rw [eo]
  exact ⟨a.mv (fun j hj => e j (by omega)), b⟩⟩
def MtB (g : Nat → Int32) (mp : Nat → Nat) (M : Nat) : Prop := ∀ i : Nat, i < M → tw g (mp i + 6) = 1 ∧ (12 ≤ fo g (mp i + 10) ∧ fo g (mp i + 10) ≤ 4040) ∧ (mp (i + 1) : Int) = mp i + 14 + fo g (mp i + 10)
theorem MtB.up {g : Nat → Int32} {mp : Nat → Nat} {M : Nat} (h : MtB g mp M) : ∀ d i : Nat, i + d ≤ M → mp i + 14 * d ≤ mp (i + d) := by
  intro d
  induction d with
  | zero => intro i _; exact Nat.le_refl _
  | succ d ih =>
    intro i hd
    have a := ih i (by omega)
    have b := h (i + d) (by omega)
    rw [show i + (d + 1) = i + d + 1 by omega]
    omega
theorem MtB.mv {g g' : Nat → Int32} {mp : Nat → Nat} {M : Nat} (h : MtB g mp M) (e : ∀ j : Nat, j < mp M → g' j = g j) : MtB g' mp M := fun i hi => by
  have b := h i hi
  have u := h.up (M - (i + 1)) (i + 1) (by omega)
  rw [show i + 1 + (M - (i + 1)) = M by omega] at u
  have e1 : tw g' (mp i + 6) = tw g (mp i + 6) := by unfold tw oc; rw [e _ (by omega), e _ (by omega)]
  have e2 : fo g' (mp i + 10) = fo g (mp i + 10) := by unfold fo tw oc; rw [e _ (by omega), e _ (by omega), e _ (by omega), e _ (by omega)]
  rw [e1, e2]
  exact b
def LayB (g : Nat → Int32) (n : Int) : Prop := ∃ (pos : Nat → Nat) (num : Nat → Int) (ne F M : Nat) (mp : Nat → Nat), EnB g pos num ne ∧ tw g 8 = num ne ∧ (F ≤ 24 ∧ tw g (pos ne + 8) = F ∧ ∀ i : Nat, i < F → tw g (pos ne + 10 + 8 * i + 6) = 0) ∧ (M ≤ 24 ∧ tw g (pos ne + 10 + 8 * F) = M) ∧ mp 0 = pos ne + 12 + 8 * F ∧ MtB g mp M ∧ tw g (mp M) = 0 ∧ n = mp M + 2
theorem xtN {α : Type} (f : Nat → α) (i : Nat) (v : α) : ∃ g : Nat → α, (∀ j : Nat, j ≤ i → g j = f j) ∧ g (i + 1) = v := ⟨fun j => if j ≤ i then f j else v, fun _ hj => if_pos hj, if_neg (by omega)⟩
section OFX
variable {NL : List Nat} {kp : Prop} {AL : List (MS → Prop)}
def FlW (NL : List Nat) (kp : Prop) (AL : List (MS → Prop)) (S u : MS) : Prop := frm WA JM S u ∧ OuI u ∧ wH u = wH S ∧ LayB (qI u (wH u)) (oS u)
theorem sp_of_L196 {p : Nat} {E S0 : MS} {Q : MS → Prop} (f0 : frm WA JM S0 E) (cf : CfI NL kp AL p E) (ro : RoI p E) (ck : CkF kp AL p E) (tx : TxI E) (hw : WrI NL kp AL E) (ou : OuI E) (hr : oS E ≤ 17000) (hQ : ∀ (u : MS) (mp : Nat → Nat), mp 0 = (oS E).toNat → MtB (qI u (wH E)) mp (qI E p 4).toInt.toNat → Wg NL kp AL WA JM E (mp (qI E p 4).toInt.toNat + 2 - oS E) u → tw (qI u (wH E)) (mp (qI E p 4).toInt.toNat) = 0 → Q u) : ∀ (c : Nat) (U : MS) (i : Int32) (mp : Nat → Nat), (0 ≤ i.toInt ∧ i.toInt ≤ (qI E p 4).toInt) → mp 0 = (oS E).toNat → (mp i.toInt.toNat : Int) ≤ oS E + 4054 * i.toInt → MtB (qI U (wH E)) mp i.toInt.toNat → Wg NL kp AL WA JM E (mp i.toInt.toNat - oS E) U → (24 - i.toInt).toNat < c → w_outFile_L196 Q (eK kp S0) c U p i := by
  have p60 : 60 ≤ p := by have := cf.2.1.1; omega
  have cS := cf.1
  have b4 := cf.2.2.1
  have o0 := ou.2.2.2.1
  intro c
  induction c with
  | zero => intro U i mp _ _ _ _ _ h9; exact absurd h9 (Nat.not_lt_zero _)
  | succ c ih =>
    intro U i mp i0 m0 mb hM wU hc
    have mu := hM.up i.toInt.toNat 0 (by omega)
    rw [Nat.zero_add] at mu
    have u4 : qI U p 4 = qI E p 4 := by rw [(hi_frm wU.1 (by decide) p p60).1]
    have eU := wU.2.1.2.1
    have whU : wH U = wH E := wU.2.1.2.2
    unfold w_outFile_L196
    rw [u4]
    refine ⟨fun c1 => ?_, fun c1 => ?_⟩
    · have ei : i.toInt.toNat = (qI E p 4).toInt.toNat := by omega
      rw [ei] at hM wU mb eU mu
      refine ⟨_, sp_out2 wU.2.1.1 (by omega) (by decide), ?_⟩
      rintro V ⟨wV, t0⟩
      rw [whU, show (oS U).toNat = mp (qI E p 4).toInt.toNat by omega] at t0
      have wV' := wU.tr ((Wx.o wV wU.2.2.2.1 cS).g (by decide) (by decide)) (by omega)
      rw [show (mp (qI E p 4).toInt.toNat : Int) - oS E + 2 = mp (qI E p 4).toInt.toNat + 2 - oS E by omega] at wV'
      refine hQ V mp m0 (hM.mv (fun j hj => ?_)) wV' (by rw [t0]; decide)
      have := wV.2.2.2.2 j (by omega)
      rw [whU] at this
      exact this
    · have cfU := cf.fm wU.1 (by decide)
      have roU := ro.fm wU.1 (by decide)
      have ckU := ck.fm ro wU.1 (by decide)
      refine ⟨_, _, sp_outMethod cfU roU ckU (tx.kp wU.2.2.2.2.kp) wU.2.2.2.1 wU.2.1.1 ⟨i0.1, by rw [u4]; omega⟩ (by omega), ?_, fun u q => ⟨q.1, q.2.1, (f0.tr wU.1).tr q.2.2⟩⟩
      rintro V ⟨d, d1, wV, t1, f1⟩ a ea
      subst ea
      have ei : (i + Int32.ofInt 1).toInt = i.toInt + 1 := by rw [t_add (by rw [lo_1]; omega), lo_1]
      have ein : (i + Int32.ofInt 1).toInt.toNat = i.toInt.toNat + 1 := by omega
      have epos : (oS U).toNat = mp i.toInt.toNat := by omega
      rw [whU, epos] at t1 f1
      have wV' := wU.tr wV (by omega)
      obtain ⟨mq, mq0, nx⟩ := xtN mp i.toInt.toNat (mp i.toInt.toNat + 14 + d.toNat)
      refine ih V _ mq (by omega) (by rw [mq0 0 (Nat.zero_le _)]; exact m0) (by rw [ein, nx]; omega) (fun j hj => ?_) ?_ (by omega)
      · rw [ein] at hj
        rw [mq0 j (by omega)]
        by_cases q : j = i.toInt.toNat
        · rw [q, nx, f1]
          exact ⟨t1, d1, by omega⟩
        · rw [mq0 (j + 1) (by omega)]
          have hV : MtB (qI V (wH E)) mp i.toInt.toNat := hM.mv (fun z hz => by
            have := wV.2.2.1 z (by omega)
            rw [whU] at this
            exact this)
          exact hV j (by omega)
      · rw [ein, nx, show ((mp i.toInt.toNat + 14 + d.toNat : Nat) : Int) - oS E = mp i.toInt.toNat - oS E + (14 + d) by omega]
        exact wV'
theorem sp_outFile {p : Nat} {S : MS} (cf : CfI NL kp AL p S) (ro : RoI p S) (ck : CkF kp AL p S) (tx : TxI S) (ou : OuJ S) : w_outFile S p (FlW NL kp AL S) (eK kp S) := by
  have p60 : 60 ≤ p := by have := cf.2.1.1; omega
  have cS := cf.1
  have bF := cf.2.2.1
  unfold w_outFile
  refine eb_co (sp_collect cf ro ck) ou.2.2 frm.rf ?_
  rintro A ⟨hA, fA⟩ B eB C eC
  have fC : frm [] [47, 77] A C := (show frm [] [47, 77] A B by rw [eB]; exact frm.pR0 (by decide)).tr (by rw [eC]; exact frm.pI0 (by decide))
  have fSC : frm WA JM S C := (fA.mo (by decide) (by decide)).tr (fC.mo (by decide) (by decide))
  have cfC := cf.fm fSC (by decide)
  have roC := ro.fm fSC (by decide)
  have ckC := ck.fm ro fSC (by decide)
  have hC : WrI NL kp AL C := hA.f9 cS fC (by decide) (by decide)
  have ouA := ou.fm fA (by decide) (by decide) (by decide) (by decide)
  have c77 : oS C = 0 := by show (qI C 0 77).toInt = 0; rw [eC, qI_wI, if_pos ⟨rfl, rfl⟩]; rfl
  have r75 : ∀ j : Nat, j ≠ 47 → qR C 0 j = qR A 0 j := fun j hj => (by rw [eC]; show qR B 0 j = _; rw [eB, qR_wR, if_neg (fun q => hj q.2)])
  have ouC : OuI C := by
    have o5 : qO C 0 75 = qO A 0 75 := by unfold qO; rw [r75 75 (by decide)]
    have o6 : qO C 0 76 = qO A 0 76 := by unfold qO; rw [r75 76 (by decide)]
    refine ⟨by rw [o5, o6, r75 75 (by decide), r75 76 (by decide)]; exact ouA.1, by rw [fC.2.1]; exact ouA.2.1, ⟨fun i => by rw [(fC.2.2.2.2.1 34 (by decide) (by decide)).1]; exact ouA.2.2.1 i, fun i => by rw [(fC.2.2.2.2.1 35 (by decide) (by decide)).1]; exact ouA.2.2.2 i⟩, by omega, by omega⟩
  have whC : wH C = wH S := by
    show qO C 0 75 = qO S 0 75
    unfold qO
    rw [r75 75 (by decide), (fA.2.2.2.2.2 75 (by decide)).2.2]
  have hBk := hC.1
  have n7 := hBk.1
  have nxC := hC.2.1.2
  have nm : nmK C ≤ 103 := by
    have a := hC.2.2.1
    have b := cntL_le (U := C) (NL.map kN)
    rw [List.length_map] at b
    have := cS.2.1
    omega
  have l0 : (0 : Int32).toInt = 0 := rfl
  have bC := cfC.2.2.1
  -- the methods
  have Lm : ∀ (D : MS) (P : Nat) (E : MS) (ne : Nat) (pos : Nat → Nat) (num : Nat → Int), Wg NL kp AL WA JM C P D → EnB (qI D (wH C)) pos num ne → pos ne = P → P ≤ 16000 → tw (qI D (wH C)) 8 = num ne → Wg NL kp AL WA JM D (10 + 8 * (qI C p 3).toInt) E → tw (qI E (wH C)) (P + 8) = (qI C p 3).toInt → (∀ j : Nat, (j : Int) < (qI C p 3).toInt → tw (qI E (wH C)) (P + 10 + 8 * j + 6) = 0) → ∃ Q39, w_out E ((qI E p 4).toInt64) (2 : Int32) Q39 ∧ ∀ S40, Q39 S40 → (∃ n, w_outFile_L196 (FlW NL kp AL S) (eK kp S) n S40 p 0) := fun D P E ne pos num wD hEn eP hP t8 wE tF hF => by
    have wCE := wD.tr wE (by omega)
    have cfE := cfC.fm wCE.1 (by decide)
    have e4 : qI E p 4 = qI C p 4 := by rw [(hi_frm wCE.1 (by decide) p p60).1]
    have c3 : qI C p 3 = qI S p 3 := by rw [(hi_frm fSC (by decide) p p60).1]
    have c4 : qI C p 4 = qI S p 4 := by rw [(hi_frm fSC (by decide) p p60).1]
    have eE := wCE.2.1.2.1
    have whE : wH E = wH C := wCE.2.1.2.2
    refine ⟨_, sp_out2 wCE.2.1.1 (by omega) (by rw [Int32.toInt_toInt64, e4, c4]; omega), ?_⟩
    rintro G ⟨wG0, tM⟩
    rw [Int32.toInt_toInt64, e4, whE, show (oS E).toNat = P + 10 + 8 * (qI C p 3).toInt.toNat by omega] at tM
    have wG := wCE.tr ((Wx.o wG0 wCE.2.2.2.1 cS).g (by decide) (by decide)) (by omega)
    have eG := wG.2.1.2.1
    have whG : wH G = wH C := wG.2.1.2.2
    have g4 : qI G p 4 = qI C p 4 := by rw [(hi_frm wG.1 (by decide) p p60).1]
    have oG : (oS G).toNat = P + 12 + 8 * (qI C p 3).toInt.toNat := by omega
    refine ⟨_, sp_of_L196 (E := G) (fSC.tr wG.1) (cfC.fm wG.1 (by decide)) (roC.fm wG.1 (by decide)) (ckC.fm roC wG.1 (by decide)) ((tx.kp (kpW.f9 fSC (by decide))).kp wG.2.2.2.2.kp) wG.2.2.2.1 wG.2.1.1 (by omega) (fun u mp m0 mB wu tz => ?_) _ G 0 (fun _ => (oS G).toNat) ⟨by decide, by rw [l0, g4, c4]; omega⟩ rfl (by rw [l0]; show (((oS G).toNat : Nat) : Int) ≤ oS G + 4054 * 0; omega) (fun j hj => absurd hj (Nat.not_lt_zero _)) (by show Wg NL kp AL WA JM G (((oS G).toNat : Nat) - oS G) G; rw [show (((oS G).toNat : Nat) : Int) - oS G = 0 by omega]; exact Wg.rf wG.2.2.2.1 wG.2.1.1) (Nat.lt_succ_self _)⟩
    rw [whG] at mB tz
    rw [g4] at mB tz wu
    have whu : wH u = wH C := wu.2.1.2.2.trans whG
    have keep : ∀ j : Nat, j < P + 12 + 8 * (qI C p 3).toInt.toNat → qI u (wH C) j = qI G (wH C) j := fun j hj => by
      have := wu.2.2.1 j (by omega)
      rw [whG] at this
      exact this
    have keepE : ∀ j : Nat, j < P + 10 + 8 * (qI C p 3).toInt.toNat → qI u (wH C) j = qI E (wH C) j := fun j hj => by
      rw [keep j (by omega)]
      have := wG0.2.2.2.2 j (by omega)
      rw [whE] at this
      exact this
    have keepD : ∀ j : Nat, j < P → qI u (wH C) j = qI D (wH C) j := fun j hj => by
      rw [keepE j (by omega)]
      have whD : wH D = wH C := wD.2.1.2.2
      have := wE.2.2.1 j (by have := wD.2.1.2.1; omega)
      rw [whD] at this
      exact this
    have tws : ∀ (g g' : Nat → Int32) (j : Nat), g' j = g j → g' (j + 1) = g (j + 1) → tw g' j = tw g j := fun g g' j h1 h2 => by unfold tw oc; rw [h1, h2]
    refine ⟨fSC.tr (wG.1.tr wu.1), wu.2.1.1, by rw [whu]; exact whC, pos, num, ne, (qI C p 3).toInt.toNat, (qI C p 4).toInt.toNat, mp, ?_, ?_, ⟨by omega, ?_, fun i hi => ?_⟩, ⟨by omega, ?_⟩, ?_, ?_, ?_, ?_⟩
    · rw [whu]; exact hEn.mv (fun j hj => keepD j (by omega))
    · have u := hEn.up ne 0 (by omega)
      have p0 := hEn.1
      rw [Nat.zero_add] at u
      rw [whu, tws _ _ 8 (keepD 8 (by omega)) (keepD (8 + 1) (by omega))]; exact t8
    · rw [whu, eP, tws _ _ _ (keepE _ (by omega)) (keepE _ (by omega)), tF]; omega
    · rw [whu, eP, tws _ _ _ (keepE _ (by omega)) (keepE _ (by omega))]; exact hF i (by omega)
    · rw [whu, eP, tws _ _ _ (keep _ (by omega)) (keep _ (by omega)), tM]; omega
    · rw [m0, oG, eP]
    · rw [whu]; exact mB
    · rw [whu]; exact tz
    · have := wu.2.1.2.1; omega
  -- the fields
  have Lf : ∀ (D : MS) (P ne : Nat) (pos : Nat → Nat) (num : Nat → Int), Wg NL kp AL WA JM C P D → EnB (qI D (wH C)) pos num ne → pos ne = P → P ≤ 16000 → tw (qI D (wH C)) 8 = num ne → ∀ (c : Nat) (U : MS) (i : Int32), (0 ≤ i.toInt ∧ i.toInt ≤ (qI C p 3).toInt) → Wg NL kp AL WA JM D (10 + 8 * i.toInt) U → tw (qI U (wH C)) (P + 8) = (qI C p 3).toInt → (∀ j : Nat, (j : Int) < i.toInt → tw (qI U (wH C)) (P + 10 + 8 * j + 6) = 0) → (24 - i.toInt).toNat < c → w_outFile_L124 (FlW NL kp AL S) (eK kp S) c U p i := by
    intro D P ne pos num wD hEn eP hP t8 c
    induction c with
    | zero => intro U i _ _ _ _ h9; exact absurd h9 (Nat.not_lt_zero _)
    | succ c ih =>
      intro U i i0 wU tF hF hc
      have wCU := wD.tr wU (by omega)
      have hiU := hi_frm wCU.1 (by decide)
      have u3 : qI U p 3 = qI C p 3 := by rw [(hiU p p60).1]
      have c3 : qI C p 3 = qI S p 3 := by rw [(hi_frm fSC (by decide) p p60).1]
      unfold w_outFile_L124
      rw [u3]
      refine ⟨fun c1 => ?_, fun c1 => ?_⟩
      · have ei : i.toInt = (qI C p 3).toInt := by omega
        rw [ei] at wU hF
        exact Lm D P U ne pos num wD hEn eP hP t8 wU tF hF
      · obtain ⟨n, t, n1, t1, hn, ht, _⟩ := (cfC.2.2.2.choose_spec.choose_spec.2.2.2.2.2.1) i.toInt.toNat (by omega)
        have nmx : ∀ (V : MS) (a : Int) (j : Nat) (n : Nat), Wg NL kp AL WA JM C a V → j < 13 → qR C (p + 1 + j) i.toInt.toNat = some n → qR V p (5 + j) = some (p + 1 + j) ∧ qO V p (5 + j) = p + 1 + j ∧ qN V (p + 1 + j) = 24 ∧ qR V (p + 1 + j) i.toInt.toNat = some n ∧ qO V (p + 1 + j) i.toInt.toNat = n := fun V a j n w hj hn => by
          have hi' := hi_frm w.1 (by decide)
          have r := cfC.2.1.2 j hj
          have z := hi' (p + 1 + j) (by omega)
          have r1 : qR V p (5 + j) = some (p + 1 + j) := by rw [(hi' p p60).2.2.1]; exact r.1
          have r2 : qR V (p + 1 + j) i.toInt.toNat = some n := by rw [z.2.2.1]; exact hn
          exact ⟨r1, by unfold qO; rw [r1]; rfl, by rw [z.2.2.2.2]; exact r.2, r2, by unfold qO; rw [r2]; rfl⟩
        have eD := wD.2.1.2.1
        have eU := wU.2.1.2.1
        refine sp_ob cS wU.2.2.2.1 wU.2.1.1 (m := 2) (by decide) (by decide) (by omega) (fun V1 x1 => ?_)
        have wC1 := wCU.tr (x1.g (W := WA) (J := JM) (by decide) (by decide)) (by omega)
        obtain ⟨a1, a2, a3, a4, a5⟩ := nmx V1 _ 0 n wC1 (by decide) n1
        rw [show (5 : Nat) = 5 + 0 from rfl, a2, a5]
        refine ⟨a1, ⟨i0.1, by rw [a3]; omega⟩, a4, eb_nm (sp_nm cS x1.2.2.2.1 hn.1 (hn.2.1.mv wC1.2.2.2.2.kp) hn.2.2) x1.2.1.1.2.2.1 (fSC.tr wC1.1) ?_⟩
        rintro r V2 ⟨h2, y2, _⟩
        have x2 := x1.tr (Wx.b y2 h2 x1.2.1.1) (by decide)
        refine sp_ob cS x2.2.2.2.1 x2.2.1.1 (m := 2) (by decide) (by decide) (by have := x2.2.1.2.1; omega) (fun V3 y3 => ?_)
        have x3 := x2.tr y3 (by decide)
        have wC3 := wCU.tr (x3.g (W := WA) (J := JM) (by decide) (by decide)) (by omega)
        obtain ⟨b1, b2, b3, b4, b5⟩ := nmx V3 _ 1 t wC3 (by decide) t1
        rw [show (6 : Nat) = 5 + 1 from rfl, b2, b5]
        refine ⟨b1, ⟨i0.1, by rw [b3]; omega⟩, b4, eb_nm (sp_nm cS x3.2.2.2.1 ht.1 (ht.2.1.mv wC3.2.2.2.2.kp) ht.2.2) x3.2.1.1.2.2.1 (fSC.tr wC3.1) ?_⟩
        rintro r2 V4 ⟨h4, y4, _⟩
        have x4 := x3.tr (Wx.b y4 h4 x3.2.1.1) (by decide)
        refine sp_ob cS x4.2.2.2.1 x4.2.1.1 (m := 2) (by decide) (by decide) (by have := x4.2.1.2.1; omega) (fun V5 y5 => ?_)
        have x5 := x4.tr y5 (by decide)
        have e5 := x5.2.1.2.1
        refine ⟨_, sp_out2 x5.2.1.1 (by omega) (by decide), ?_⟩
        rintro V6 ⟨w6, tz⟩ a ea
        subst ea
        have ei : (i + Int32.ofInt 1).toInt = i.toInt + 1 := by rw [t_add (by rw [lo_1]; omega), lo_1]
        have whD : wH D = wH C := wD.2.1.2.2
        have whU : wH U = wH C := wU.2.1.2.2.trans whD
        have wh5 : wH V5 = wH C := x5.2.1.2.2.trans whU
        rw [wh5, show (oS V5).toNat = P + 10 + 8 * i.toInt.toNat + 6 by omega] at tz
        have x6 := x5.tr (Wx.o w6 x5.2.2.2.1 cS) (by decide)
        have wU6 : ∀ j : Nat, (j : Int) < oS U → qI V6 (wH C) j = qI U (wH C) j := fun j hj => by
          have := x6.2.2.1 j hj
          rw [whU] at this
          exact this
        have tws : ∀ (g g' : Nat → Int32) (j : Nat), g' j = g j → g' (j + 1) = g (j + 1) → tw g' j = tw g j := fun g g' j h1 h2 => by unfold tw oc; rw [h1, h2]
        refine ih V6 _ (by omega) ?_ ?_ (fun j hj => ?_) (by omega)
        · rw [ei]
          have w6' := wU.tr (x6.g (by decide) (by decide)) (by omega)
          rw [show (10 : Int) + 8 * (i.toInt + 1) = 10 + 8 * i.toInt + (2 + 0 + 2 + 0 + 2 + 2) by omega]
          exact w6'
        · rw [tws _ _ _ (wU6 _ (by omega)) (wU6 _ (by omega))]; exact tF
        · by_cases q : (j : Int) = i.toInt
          · rw [show P + 10 + 8 * j + 6 = P + 10 + 8 * i.toInt.toNat + 6 by omega, tz]; decide
          · rw [tws _ _ _ (wU6 _ (by omega)) (wU6 _ (by omega))]; exact hF j (by omega)
  -- the entries
  have cn3 : ∀ k : Nat, (k : Int) ≤ ndN C → cnG (qI C 28) k ≤ 103 := fun k hk => by
    have := sumN_mo (g := fun j => if (qI C 28 j).toInt = 1 then 1 else 0) ((ndN C).toNat - k) k
    rw [show k + ((ndN C).toNat - k) = (ndN C).toNat by omega] at this
    exact Nat.le_trans this nm
  have Le : ∀ (c : Nat) (U : MS) (i : Int32) (pos : Nat → Nat) (num : Nat → Int), (0 ≤ i.toInt ∧ i.toInt ≤ ndN C) → Wo C (pos i.toInt.toNat) U → EnB (qI U (wH C)) pos num i.toInt.toNat → num i.toInt.toNat = nxN (qI C 28) i.toInt.toNat → (pos i.toInt.toNat : Int) ≤ 10 + 9 * i.toInt + 94 * cnG (qI C 28) i.toInt.toNat → tw (qI U (wH C)) 8 = nxN (qI C 28) (ndN C).toNat → (700 - i.toInt).toNat < c → w_outFile_L51 (FlW NL kp AL S) (eK kp S) c U p i := by
    intro c
    induction c with
    | zero => intro U i pos num _ _ _ _ _ _ h9; exact absurd h9 (Nat.not_lt_zero _)
    | succ c ih =>
      intro U i pos num i0 wU hEn hnum hb t8 hc
      have cc := cn3 i.toInt.toNat (by omega)
      have u73 : qI U 0 73 = qI C 0 73 := (wU.1.2.2.2.2.2 73 (by decide)).1
      have u28 : qI U 28 = qI C 28 := (wU.1.2.2.2.2.1 28 (by decide) (by decide)).1
      have eU := wU.2.2.1
      have whU : wH U = wH C := wU.2.2.2.1
      have hU : WrI NL kp AL U := hC.f9 cS wU.1 (by decide) (by decide)
      have ndU : ndN U = ndN C := by unfold ndN; rw [u73]
      have e73 : (qI C 0 73).toInt = ndN C := rfl
      unfold w_outFile_L51
      rw [u73, e73]
      refine ⟨fun c1 => ?_, fun c1 => ?_⟩
      · have ei : i.toInt.toNat = (ndN C).toNat := by omega
        rw [ei] at hEn hnum wU hb eU cc
        have gU : Wg NL kp AL WA JM C (pos (ndN C).toNat) U := (Wx.o wU hC cS).g (by decide) (by decide)
        have P16 : (pos (ndN C).toNat : Int) ≤ 16000 := by omega
        refine sp_ob cS hU wU.2.1 (m := 2) (by decide) (by decide) (by omega) (fun V1 x1 => ?_)
        have w1 := gU.tr (x1.g (W := WA) (J := JM) (by decide) (by decide)) (by omega)
        obtain ⟨cS', _, _, o, ab, ⟨r0, r1⟩, ⟨o1, o2⟩, ⟨p1, p2⟩, _⟩ := cfC
        have z0 : qR V1 p 0 = some o := by rw [(hi_frm w1.1 (by decide) p p60).2.2.1]; exact r0
        have q0 : qO V1 p 0 = o := by unfold qO; rw [z0]; rfl
        rw [q0]
        refine ⟨z0, eb_cls (sp_cls cS x1.2.2.2.1 o1.1 (o1.2.1.mv w1.2.2.2.2.kp) o1.2.2 o2) x1.2.1.1.2.2.1 (fSC.tr w1.1) ?_⟩
        rintro r V2 ⟨h2, y2, _⟩
        have x2 := x1.tr (Wx.b y2 h2 x1.2.1.1) (by decide)
        refine sp_ob cS x2.2.2.2.1 x2.2.1.1 (m := 2) (by decide) (by decide) (by have := x2.2.1.2.1; omega) (fun V3 y3 => ?_)
        have x3 := x2.tr y3 (by decide)
        have w3 := gU.tr (x3.g (W := WA) (J := JM) (by decide) (by decide)) (by omega)
        have z1 : qR V3 p 1 = some ab := by rw [(hi_frm w3.1 (by decide) p p60).2.2.1]; exact r1
        have q1 : qO V3 p 1 = ab := by unfold qO; rw [z1]; rfl
        rw [q1]
        refine ⟨z1, eb_cls (sp_cls cS x3.2.2.2.1 p1.1 (p1.2.1.mv w3.2.2.2.2.kp) p1.2.2 p2) x3.2.1.1.2.2.1 (fSC.tr w3.1) ?_⟩
        rintro r2 V4 ⟨h4, y4, _⟩
        have x4 := x3.tr (Wx.b y4 h4 x3.2.1.1) (by decide)
        refine sp_ob cS x4.2.2.2.1 x4.2.1.1 (m := 2) (by decide) (by decide) (by have := x4.2.1.2.1; omega) (fun V5 y5 => ?_)
        have x5 := x4.tr y5 (by decide)
        refine sp_ob cS x5.2.2.2.1 x5.2.1.1 (m := 2) (by decide) (by decide) (by have := x5.2.1.2.1; omega) (fun V6 y6 => ?_)
        have x6 := x5.tr y6 (by decide)
        have e6 := x6.2.1.2.1
        have v3 : qI V6 p 3 = qI C p 3 := by rw [(hi_frm x6.1 (by decide) p p60).1, (hi_frm gU.1 (by decide) p p60).1]
        rw [v3]
        refine ⟨_, sp_out2 x6.2.1.1 (by omega) (by rw [Int32.toInt_toInt64]; omega), ?_⟩
        rintro V7 ⟨y7, tF⟩
        have x7 := x6.tr (Wx.o y7 x6.2.2.2.1 cS) (by decide)
        have wh6 : wH V6 = wH C := x6.2.1.2.2.trans whU
        rw [Int32.toInt_toInt64, wh6, show (oS V6).toNat = pos (ndN C).toNat + 8 by omega] at tF
        have g7 : Wg NL kp AL WA JM U 10 V7 := x7.g (by decide) (by decide)
        refine ⟨_, Lf U (pos (ndN C).toNat) (ndN C).toNat pos num gU hEn rfl (by omega) (by rw [hnum]; exact t8) _ V7 0 ⟨by decide, by rw [l0]; omega⟩ ?_ tF (fun j hj => by rw [l0] at hj; omega) (Nat.lt_succ_self _)⟩
        rw [l0]
        exact g7
      · refine ⟨_, sp_oE hU.1 wU.2.1 ⟨i0.1, by rw [ndU]; omega⟩ (by omega), ?_⟩
        rintro V ⟨d, ⟨d1, d2⟩, wV, el, eo⟩ a ea
        subst ea
        rw [u28] at d2 eo
        have ei : (i + Int32.ofInt 1).toInt = i.toInt + 1 := by rw [t_add (by rw [lo_1]; omega), lo_1]
        have ein : (i + Int32.ofInt 1).toInt.toNat = i.toInt.toNat + 1 := by omega
        have epos : (oS U).toNat = pos i.toInt.toNat := by omega
        rw [whU, epos] at el eo
        obtain ⟨pos', pe, nx⟩ := xtN pos i.toInt.toNat (pos i.toInt.toNat + d)
        obtain ⟨num', ne', nm'⟩ := xtN num i.toInt.toNat (nxN (qI C 28) (i.toInt.toNat + 1))
        have wCV := wU.tr wV (by omega)
        have p10 := hEn.1
        have up := hEn.up i.toInt.toNat 0 (by omega)
        rw [Nat.zero_add] at up
        have keep : ∀ j : Nat, j < pos i.toInt.toNat → qI V (wH C) j = qI U (wH C) j := fun j hj => by
          have := wV.2.2.2.2 j (by omega)
          rw [whU] at this
          exact this
        have hV := hEn.mv keep
        refine ih V _ pos' num' (by omega) (by rw [ein, nx, show ((pos i.toInt.toNat + d : Nat) : Int) = (pos i.toInt.toNat : Int) + d by omega]; exact wCV) ⟨by rw [pe 0 (Nat.zero_le _)]; exact p10, by rw [ne' 0 (Nat.zero_le _)]; exact hEn.2.1, fun j hj => ?_⟩ (by rw [ein, nm']) ?_ ?_ (by omega)
        · rw [ein] at hj
          rw [pe j (by omega), ne' j (by omega)]
          by_cases q : j = i.toInt.toNat
          · rw [q, nx, nm', eo, hnum]
            exact ⟨el, rfl⟩
          · rw [pe (j + 1) (by omega), ne' (j + 1) (by omega)]
            exact hV.2.2 j (by omega)
        · rw [ein, nx, cnG_st, ei]
          by_cases z : (qI C 28 i.toInt.toNat).toInt = 1
          · rw [if_pos z] at d2 ⊢; omega
          · rw [if_neg z] at d2 ⊢; omega
        · have e : tw (qI V (wH C)) 8 = tw (qI U (wH C)) 8 := by unfold tw oc; rw [keep 8 (by omega), keep (8 + 1) (by omega)]
          rw [e]; exact t8
  -- the head
  have Lh : ∀ (c : Nat) (U : MS) (i : Int32), (0 ≤ i.toInt ∧ i.toInt ≤ 8) → Wo C i.toInt U → (8 - i.toInt).toNat < c → w_outFile_L17 (FlW NL kp AL S) (eK kp S) c U p i := by
    intro c
    induction c with
    | zero => intro U i _ _ h9; exact absurd h9 (Nat.not_lt_zero _)
    | succ c ih =>
      intro U i i0 wU hc
      have eU := wU.2.2.1
      have whU : wH U = wH C := wU.2.2.2.1
      unfold w_outFile_L17
      refine ⟨fun c1 => ?_, fun c1 => ?_⟩
      · have u74 : qI U 0 74 = qI C 0 74 := (wU.1.2.2.2.2.2 74 (by decide)).1
        have b74 := hBk.2.1
        rw [u74]
        refine ⟨_, sp_out2 wU.2.1 (by omega) (by rw [Int32.toInt_toInt64]; omega), ?_⟩
        rintro V ⟨wV, t8⟩
        rw [Int32.toInt_toInt64, whU, show (oS U).toNat = 8 by omega, nxC] at t8
        have w10 := wU.tr wV i0.1
        rw [show i.toInt + 2 = 10 by omega] at w10
        exact ⟨_, Le _ V 0 (fun _ => 10) (fun _ => 1) ⟨by decide, by rw [l0]; omega⟩ w10 ⟨rfl, rfl, fun e he => absurd he (Nat.not_lt_zero _)⟩ rfl (by rw [l0]; show (10 : Int) ≤ 10 + 9 * 0 + 94 * ((0 : Nat) : Int); decide) t8 (Nat.lt_succ_self _)⟩
      · have dh : d_headByte U i := by unfold d_headByte; simp only [ite_self]
        refine ⟨dh, _, sp_outN (m := 1) wU.2.1 (by decide) (by decide) (by omega), fun V wV a ea => ?_⟩
        subst ea
        have ei : (i + Int32.ofInt 1).toInt = i.toInt + 1 := by rw [t_add (by rw [lo_1]; omega), lo_1]
        refine ih V _ (by omega) ?_ (by omega)
        rw [ei]
        exact wU.tr wV i0.1
  exact ⟨_, Lh _ C 0 ⟨by decide, by decide⟩ (Wo.rf ouC) (Nat.lt_succ_self _)⟩
end OFX
/-! what is read of bytes that were written: octets, an entry, attributes (behind enL, sp_over, ENq) -/
theorem an8 {v : Int32} : (v &&& (255 : Int32)).toInt = v.toInt % 256 := by
  have h1 : (v &&& (255 : Int32)).toBitVec.toNat = v.toBitVec.toNat % 256 := by
    rw [Int32.toBitVec_and, BitVec.toNat_and]
    exact Nat.and_two_pow_sub_one_eq_mod _ 8
  have h2 : (v &&& (255 : Int32)).toInt = ((v &&& (255 : Int32)).toBitVec.toNat : Int) := by
    rw [← Int32.toInt_toBitVec]
    exact BitVec.toInt_eq_toNat_of_lt (by omega)
  have h3 : v.toInt = if 2 * v.toBitVec.toNat < 2 ^ 32 then (v.toBitVec.toNat : Int) else (v.toBitVec.toNat : Int) - ((2 ^ 32 : Nat) : Int) := by
    rw [← Int32.toInt_toBitVec, BitVec.toInt_eq_toNat_cond]
  rw [h2, h1, h3]
  split <;> omega
theorem sl8 {a b : Int32} (ha : 0 ≤ a.toInt ∧ a.toInt < 256) (hb : 0 ≤ b.toInt ∧ b.toInt < 256) : ((a <<< ((8 : Int32) &&& 31)) ||| b).toInt = 256 * a.toInt + b.toInt := by
  obtain ⟨m, em⟩ : ∃ m : Nat, m = a.toInt.toNat := ⟨_, rfl⟩
  obtain ⟨n, en⟩ : ∃ n : Nat, n = b.toInt.toNat := ⟨_, rfl⟩
  have ea : a = nI m := by
    apply Int32.toInt_inj.mp
    rw [nI_toInt (by omega)]
    omega
  have eb : b = nI n := by
    apply Int32.toInt_inj.mp
    rw [nI_toInt (by omega)]
    omega
  have es : a <<< ((8 : Int32) &&& 31) = nI (m * 2 ^ 8) := by
    rw [ea]
    exact pk_shlN _ 8 (by decide) (by omega)
  have ez : (a <<< ((8 : Int32) &&& 31)) ||| b = nI (m * 2 ^ 8 + n) := by
    apply Int32.toBitVec_inj.mp
    apply BitVec.eq_of_toNat_eq
    rw [Int32.toBitVec_or, BitVec.toNat_or, es, eb, pk_tn (by omega), pk_tn (by omega), pk_tn (by omega), ← Nat.shiftLeft_eq]
    exact (Nat.shiftLeft_add_eq_or_of_lt (by omega) m).symm
  rw [ez, nI_toInt (by omega)]
  omega
theorem lg32 {y : Int32} (h : 0 ≤ y.toInt) : (y.toInt64 &&& (4294967295 : Int64)).toInt = y.toInt := by
  have b : y.toInt < 2147483648 := Int32.toInt_lt y
  have h1 : (y.toInt64 &&& (4294967295 : Int64)).toBitVec.toNat = y.toInt64.toBitVec.toNat % 4294967296 := by
    rw [Int64.toBitVec_and, BitVec.toNat_and]
    exact Nat.and_two_pow_sub_one_eq_mod _ 32
  have h2 : (y.toInt64 &&& (4294967295 : Int64)).toInt = ((y.toInt64 &&& (4294967295 : Int64)).toBitVec.toNat : Int) := by
    rw [← Int64.toInt_toBitVec]
    exact BitVec.toInt_eq_toNat_of_lt (by omega)
  have h3 : y.toInt64.toInt = if 2 * y.toInt64.toBitVec.toNat < 2 ^ 64 then (y.toInt64.toBitVec.toNat : Int) else (y.toInt64.toBitVec.toNat : Int) - ((2 ^ 64 : Nat) : Int) := by
    rw [← Int64.toInt_toBitVec, BitVec.toInt_eq_toNat_cond]
  have h4 : y.toInt64.toInt = y.toInt := tl_of
  have h5 : y.toInt64.toBitVec.toNat < 2 ^ 64 := y.toInt64.toBitVec.isLt
  rw [h2, h1]
  rw [h4] at h3
  split at h3 <;> omega
def gB (S : MS) : Nat → Int32 := qI S (qO S 0 11)
def pS (S : MS) : Nat := (qI S 0 13).toInt.toNat
theorem f_oc {S : MS} {x : Int32} : (f_octet S x).toInt = oc (gB S) x.toInt.toNat := an8
theorem f_tw {S : MS} {x : Int32} (h : 0 ≤ x.toInt ∧ x.toInt ≤ 300000) : (f_two S x).toInt = tw (gB S) x.toInt.toNat := by
  have e : (x + (1 : Int32)).toInt = x.toInt + 1 := by rw [t_add (by rw [li_1]; omega), li_1]
  unfold f_two tw
  rw [sl8 b_oct b_oct, f_oc, f_oc, e, show (x.toInt + 1).toNat = x.toInt.toNat + 1 by omega]
theorem f_fo {S : MS} {x : Int32} (h : 0 ≤ x.toInt ∧ x.toInt ≤ 200000) (hs : fo (gB S) x.toInt.toNat ≤ 4040) : ((f_four S x).toInt64 &&& (4294967295 : Int64)).toInt = fo (gB S) x.toInt.toNat := by
  have e : (x + (2 : Int32)).toInt = x.toInt + 2 := by rw [t_add (by rw [li_2]; omega), li_2]
  have a := f_tw (S := S) (x := x) (by omega)
  have b := f_tw (S := S) (x := x + 2) (by omega)
  rw [e, show (x.toInt + 2).toNat = x.toInt.toNat + 2 by omega] at b
  have ba := b_two (S := S) (x := x)
  have bb := b_two (S := S) (x := x + 2)
  have u : fo (gB S) x.toInt.toNat = 65536 * tw (gB S) x.toInt.toNat + tw (gB S) (x.toInt.toNat + 2) := rfl
  have z : f_two S x = 0 := Int32.toInt_inj.mp (by rw [li_0]; omega)
  have f : f_four S x = f_two S (x + 2) := by
    unfold f_four
    rw [z, show ((0 : Int32) <<< ((16 : Int32) &&& 31)) = 0 by decide]
    exact Int32.zero_or
  rw [f, lg32 bb.1]
  omega
theorem smB.g {S u : MS} (h : smB S u) : gB u = gB S := h.bt
theorem oc_b {g : Nat → Int32} {j : Nat} : 0 ≤ oc g j ∧ oc g j < 256 := by unfold oc; omega
theorem tw_b {g : Nat → Int32} {j : Nat} : 0 ≤ tw g j ∧ tw g j < 65536 := by
  have a := oc_b (g := g) (j := j)
  have b := oc_b (g := g) (j := j + 1)
  unfold tw
  omega
theorem fo_b {g : Nat → Int32} {j : Nat} : 0 ≤ fo g j := by
  have a := tw_b (g := g) (j := j)
  have b := tw_b (g := g) (j := j + 2)
  unfold fo
  omega
/-- a name's entry, and where it ends -/
theorem sp_nameD {S : MS} {x1 x2 : Int32} (h : RdI S) (h1 : 0 ≤ x1.toInt ∧ x1.toInt < 502) : w_nameEntry S x1 x2 (fun u => NE S x1.toInt.toNat u ∧ (qI u 0 13).toInt = (qI S 0 13).toInt + 2 + tw (gB S) (pS S)) (fun _ => True) := by
  have hb := h.bnd
  unfold w_nameEntry
  refine ⟨_, _, sp_over h (by decide), ?_, fun _ _ => trivial⟩
  rintro r S3 ⟨er, v, rfl, hv, hv2⟩
  have e4 : (2 : Int64).toInt = 2 := by decide
  rw [e4] at hv
  have h3 : RdI (wI S 0 13 v) := h.nx (by omega) hv2
  refine ⟨h3.two (by rw [er]; omega) (by rw [er, n_12]; omega), fun a e8 => ?_⟩
  have b8 := b_two (S := wI S 0 13 v) (x := r)
  rw [← e8] at b8
  have ea : a.toInt = tw (gB S) (pS S) := by
    have sm : smB S (wI S 0 13 v) := h.ss (a := 0) (t := 10) h.z (by decide)
    rw [e8, f_tw (by rw [er]; omega), sm.g, er]
    rfl
  have st : ∀ t : Int32, (t.toInt ≠ 0 → 1 ≤ a.toInt ∧ a.toInt ≤ 100) → w_nameEntry_J29 (fun u => NE S x1.toInt.toNat u ∧ (qI u 0 13).toInt = (qI S 0 13).toInt + 2 + tw (gB S) (pS S)) (fun _ => True) (wI S 0 13 v) t x1 x2 a := fun t ht => by
    unfold w_nameEntry_J29
    refine ⟨_, _, sp_must, ?_, fun _ _ => trivial⟩
    rintro U3 ⟨rfl, hz⟩
    obtain ⟨a0, a1⟩ := ht hz
    refine ⟨h1, fun S5 e5 => ⟨h1, fun S6 e6 => ?_⟩⟩
    have h6 : RdI S6 := by rw [e6, e5]; exact (h3.row (by decide)).row (by decide)
    have q13 : qI S6 0 13 = v := by rw [e6, rdH (by decide), e5, rdH (by decide), n_13]
    have q12 : qI S6 0 12 = qI S 0 12 := by rw [e6, rdH (by decide), e5, rdH (by decide), n_12]
    have q6 : ∀ j : Nat, qI S6 6 j = if j = x1.toInt.toNat then v else qI S 6 j := fun j => by
      rw [e6, rdH (by decide), e5, qI_wI, n_13]
      by_cases e : j = x1.toInt.toNat
      · rw [if_pos ⟨rfl, e⟩, if_pos e]
      · rw [if_neg (fun q => e q.2), if_neg e, rdH (by decide)]
    have q7 : ∀ j : Nat, qI S6 7 j = if j = x1.toInt.toNat then a else qI S 7 j := fun j => by
      rw [e6, qI_wI]
      by_cases e : j = x1.toInt.toNat
      · rw [if_pos ⟨rfl, e⟩, if_pos e]
      · rw [if_neg (fun q => e q.2), if_neg e, e5, rdH (by decide), rdH (by decide)]
    refine ⟨_, sp_nameEntry_L (S := S6) h6 ⟨by omega, by omega⟩ (fun w hw hw2 hw3 => ?_) _ S6 0 ⟨by decide, by rw [li_0]; omega, fun j hj => by rw [li_0] at hj; omega, v, ?_, by rw [q13, li_0]; omega, by rw [q12]; exact hv2⟩ (Nat.lt_succ_self _)⟩
    · rw [q13] at hw
      rw [q12] at hw2
      have r6 : ∀ j : Nat, qI (wI S6 0 13 w) 6 j = qI S6 6 j := fun j => by rw [rdH (by decide)]
      have r7 : ∀ j : Nat, qI (wI S6 0 13 w) 7 j = qI S6 7 j := fun j => by rw [rdH (by decide)]
      refine ⟨⟨h6.nx (by omega) (by rw [q12]; exact hw2), by rw [n_13]; omega, by rw [n_12, q12], fun j hj => ⟨by rw [r6, q6, if_neg hj], by rw [r7, q7, if_neg hj]⟩, ?_, ?_, ?_, ?_, ?_⟩, by rw [n_13]; omega⟩
      · rw [r6, q6, if_pos rfl]; omega
      · rw [r7, q7, if_pos rfl]; exact a0
      · rw [r7, q7, if_pos rfl]; exact a1
      · rw [r6, r7, q6, q7, if_pos rfl, if_pos rfl, n_12, q12]; omega
      · rw [r6, r7, q6, q7, if_pos rfl, if_pos rfl, show qI (wI S6 0 13 w) (qO (wI S6 0 13 w) 0 11) = qI S6 (qO S6 0 11) from rdH h6.b0]
        rw [q13] at hw3
        exact hw3
    · rw [← q13]
      exact (wI_id).symm
  refine ⟨fun _ => ?_, fun c1 => ⟨fun _ => ?_, fun c2 => st 1 (fun _ => ⟨by omega, by omega⟩)⟩⟩
  · unfold w_nameEntry_J28; exact st 0 (fun q => absurd rfl q)
  · unfold w_nameEntry_J28; exact st 0 (fun q => absurd rfl q)
theorem en_two2 {S U : MS} {x1 : Int32} {P : Int32 → MS → Prop} (h : ENq S x1.toInt.toNat U) (hP : ∀ (r v : Int32), v.toInt = (qI U 0 13).toInt + 2 → ENq S x1.toInt.toNat (wI U 0 13 v) → d_two (wI U 0 13 v) r → P r (wI U 0 13 v)) : ∃ Q9 E9, w_over U (2 : Int64) Q9 E9 ∧ (∀ r u, Q9 r u → P r u) ∧ ∀ u9 : MS, E9 u9 → True := by
  have l2 : (2 : Int64).toInt = 2 := by decide
  have hb := h.1.bnd
  refine ⟨_, _, sp_over h.1 (by decide), ?_, fun _ _ => trivial⟩
  rintro r u ⟨er, v, rfl, a1, b1⟩
  rw [l2] at a1
  have k := h.over (v := v) (by omega) b1
  exact hP r v a1 k (k.1.two (by rw [er]; omega) (by rw [er, n_12]; omega))
theorem fin3 {P Q E : MS → Prop} {U : MS} {x a : Int32} (h : w_entry_J220 P E U x a) (hQ : ∀ u : MS, P u → qI u 0 13 = qI U 0 13 → qI u 4 x.toInt.toNat = a → Q u) : w_entry_J220 Q E U x a := by
  unfold w_entry_J220 at h ⊢
  exact ⟨h.1, fun u eu => hQ u (h.2 u eu) (by rw [eu, rdH (by decide)]) (by rw [eu, qI_wI, if_pos ⟨rfl, rfl⟩])⟩
/-- an entry, and where it ends -/
def EnD (S : MS) (k : Nat) (u : MS) : Prop := ENp S k u ∧ (qI u 4 k).toInt = oc (gB S) (pS S) ∧ ∀ b : Nat, enL (gB S) (pS S) b → (qI u 0 13).toInt = b
theorem sp_entD {S : MS} {x1 : Int32} (h : RdI S) (h1 : 0 ≤ x1.toInt ∧ x1.toInt < 502) : w_entry S x1 (EnD S x1.toInt.toNat) (fun _ => True) := by
  have hb := h.bnd
  have l1 : (1 : Int64).toInt = 1 := by decide
  have l4 : (4 : Int64).toInt = 4 := by decide
  have l8 : (8 : Int64).toInt = 8 := by decide
  have ps : ((pS S : Nat) : Int) = (qI S 0 13).toInt := by unfold pS; omega
  have br : ∀ {U : MS} {a b : Int32}, ∃ Q9, w_broken U a b Q9 ∧ ∀ (b9 : Nat) (u : MS), Q9 b9 u → True := fun {U a b} => ⟨_, sp_broken (Q := fun _ _ => True) trivial, fun _ _ _ => trivial⟩
  unfold w_entry
  refine ⟨_, _, sp_over h (by decide), ?_, fun _ _ => trivial⟩
  rintro r2 S3 ⟨e2, v, rfl, a1, b1⟩
  rw [l1] at a1
  have h3 : RdI (wI S 0 13 v) := h.nx (by omega) b1
  refine ⟨h1, fun S6 e6 => ?_⟩
  have t5 : qT (wI S 0 13 v) 5 = 2 := h3.fin fin_16
  have q6 : ENq S x1.toInt.toNat S6 := by
    rw [e6]
    exact ⟨h3.row (by decide), (h.ss (a := 0) (t := 10) h.z (by decide)).tr (h3.ss (a := 5) (t := 2) t5 (by decide)), by rw [rdH (by decide), n_12], by rw [rdH (by decide), n_13]; omega, by rw [rdH (by decide), rdH (by decide)], fun j _ => by rw [rdH (by decide), rdH (by decide), rdH (by decide), rdH (by decide)]; exact ⟨rfl, rfl⟩⟩
  have x12 : qI S6 0 12 = qI S 0 12 := q6.2.2.1
  have x13 : qI S6 0 13 = v := by rw [e6, rdH (by decide), n_13]
  refine ⟨q6.1.oct (by rw [e2]; omega) (by rw [e2, x12]; omega), fun a e10 => ?_⟩
  have ea : a.toInt = oc (gB S) (pS S) := by
    rw [e10, f_oc, q6.2.1.g, e2]
    rfl
  have cl : ∀ {U : MS}, w_entry_J220 (ENp S x1.toInt.toNat) (fun _ => True) U x1 a → (∀ b : Nat, enL (gB S) (pS S) b → (qI U 0 13).toInt = b) → w_entry_J220 (EnD S x1.toInt.toNat) (fun _ => True) U x1 a := fun {U} hj hp => fin3 hj (fun u pu e13 e4 => ⟨pu, by rw [e4, ea], fun b z => by rw [e13]; exact hp b z⟩)
  have pair : (a.toInt = 9 ∨ a.toInt = 10 ∨ a.toInt = 12) → ∃ Q9 E9, w_over S6 (2 : Int64) Q9 E9 ∧ (∀ r u, Q9 r u → d_two u r ∧ (((0 : Int) ≤ x1.toInt ∧ x1.toInt < 502) ∧ (∀ S7, S7 = wI u 6 x1.toInt.toNat (f_two u r) → (∃ Q8 E8, w_over S7 (2 : Int64) Q8 E8 ∧ (∀ r8 u8, Q8 r8 u8 → (d_two u8 r8 ∧ (((0 : Int) ≤ x1.toInt ∧ x1.toInt < 502) ∧ (∀ S8, S8 = wI u8 7 x1.toInt.toNat (f_two u8 r8) → w_entry_J220 (EnD S x1.toInt.toNat) (fun _ => True) S8 x1 a)))) ∧ (∀ u9 : MS, E8 u9 → True))))) ∧ (∀ u9 : MS, E9 u9 → True) := fun hc => by
    refine en_two2 q6 (fun r w ew k d => ⟨d, h1, fun S7 e7 => ?_⟩)
    have k7 : ENq S x1.toInt.toNat S7 := by rw [e7]; exact k.p6
    have s13 : qI S7 0 13 = w := by rw [e7, rdH (by decide), n_13]
    refine en_two2 k7 (fun r8 w8 ew8 k8 d8 => ⟨d8, h1, fun S8 e8 => ?_⟩)
    have k9 : ENq S x1.toInt.toNat S8 := by rw [e8]; exact k8.p7
    have f6 : qI S8 6 x1.toInt.toNat = f_two (wI S6 0 13 w) r := by rw [e8, rdH (by decide), rdH (by decide), e7, qI_wI, if_pos ⟨rfl, rfl⟩]
    have f7 : qI S8 7 x1.toInt.toNat = f_two (wI S7 0 13 w8) r8 := by rw [e8, qI_wI, if_pos ⟨rfl, rfl⟩]
    have s8 : qI S8 0 13 = w8 := by rw [e8, rdH (by decide), n_13]
    rw [s13] at ew8
    rw [x13] at ew
    refine cl (k9.fin h1 (by omega) (fun q => by omega) (fun q => by omega) (fun _ => ?_)) (fun b z => ?_)
    · rw [f6, f7]
      exact ⟨b_two, b_two⟩
    · have := z.2.2.2.2.2.2 (by rw [← ea]; exact hc)
      rw [s8]; omega
  refine ⟨fun c1 => ?_, fun n1 => ⟨fun _ => br, fun n2 => ⟨fun c3 => ?_, fun n3 => ⟨fun _ => br, fun n4 => ⟨fun c5 => ?_, fun n5 => ⟨fun _ => br, fun n6 => ⟨fun c7 => ?_, fun n7 => ⟨fun _ => br, fun n8 => ⟨fun c9 => pair (by omega), fun n9 => ⟨fun c10 => pair (by omega), fun n10 => ⟨fun _ => br, fun n11 => ⟨fun c12 => pair (by omega), fun _ => br⟩⟩⟩⟩⟩⟩⟩⟩⟩⟩⟩⟩
  · refine ⟨_, _, fr_nameEntry (sp_nameD q6.1 h1), ?_, fun _ _ => trivial⟩
    rintro u ⟨⟨⟨p1, p2, p3, p4, p5, p6, p7, p8, p9⟩, pe⟩, hf⟩
    have y4 : qI u 4 = qI S6 4 := (hf.2.2.2.2.1 4 (by decide) (by decide)).1
    have b0 := q6.1.ne q6.1.z (by decide)
    have b6 := q6.1.ne (q6.1.fin fin_17) (by decide)
    have b7 := q6.1.ne (q6.1.fin fin_18) (by decide)
    have sb : smB S6 u := hf.smB b0 (fun q => by simp only [List.mem_cons, List.not_mem_nil, or_false] at q; rcases q with q | q; exact b6 q; exact b7 q) (by decide)
    have gg : gB S6 = gB S := q6.2.1.g
    have pp : pS S6 = pS S + 1 := by
      show (qI S6 0 13).toInt.toNat = _
      rw [x13]; omega
    rw [gg, pp, x13] at pe
    obtain ⟨z1, z2, z3, z4, z5, z6⟩ := q6
    refine cl (ENq.fin ⟨p1, z2.tr sb, by rw [p3, z3], by omega, by rw [y4, z5], fun j hj => ⟨(p4 j hj).1.trans (z6 j hj).1, (p4 j hj).2.trans (z6 j hj).2⟩⟩ h1 (Or.inl c1) (fun _ => ⟨p5, p6, p7, p8, p9⟩) (fun q => by omega) (fun q => by omega)) (fun b z => ?_)
    have := z.2.2.1 (by rw [← ea]; exact c1)
    omega
  · refine ⟨_, _, sp_over q6.1 (by decide), ?_, fun _ _ => trivial⟩
    rintro r u ⟨er, w, rfl, a4, b4⟩
    rw [l4] at a4
    have k := q6.over (v := w) (by omega) b4
    refine ⟨k.1.four (by rw [er, x13]; omega) (by rw [er, n_12]; omega), h1, fun S8 e8 => ?_⟩
    have k8 : ENq S x1.toInt.toNat S8 := by rw [e8]; exact k
    have s8 : qI S8 0 13 = w := by rw [e8]; exact n_13 (S := S6) (v := w)
    rw [x13] at a4
    refine cl (k8.fin h1 (by omega) (fun q => by omega) (fun q => by omega) (fun q => by omega)) (fun b z => ?_)
    have := z.2.2.2.1 (by rw [← ea]; exact c3)
    rw [s8]; omega
  · refine ⟨_, _, sp_over q6.1 (by decide), ?_, fun _ _ => trivial⟩
    rintro r u ⟨er, w, rfl, a4, b4⟩
    rw [l8] at a4
    have hb6 := q6.1.bnd
    have k := q6.over (v := w) (by omega) b4
    have e4 : (r + (4 : Int32)).toInt = r.toInt + 4 := by rw [t_add (by rw [li_4, er]; omega), li_4]
    refine ⟨k.1.four (by rw [er, x13]; omega) (by rw [er, n_12]; omega), k.1.four (by rw [e4, er, x13]; omega) (by rw [e4, er, n_12]; omega), h1, fun S8 e8 => ?_⟩
    have k8 : ENq S x1.toInt.toNat S8 := by rw [e8]; exact k
    have s8 : qI S8 0 13 = w := by rw [e8]; exact n_13 (S := S6) (v := w)
    rw [x13] at a4
    refine cl (k8.fin h1 (by omega) (fun q => by omega) (fun q => by omega) (fun q => by omega)) (fun b z => ?_)
    have := z.2.2.2.2.1 (by rw [← ea]; exact c5)
    rw [s8]; omega
  · refine en_two2 q6 (fun r w ew k d => ⟨d, h1, fun S7 e7 => ?_⟩)
    have k7 : ENq S x1.toInt.toNat S7 := by rw [e7]; exact k.p6
    have f6 : qI S7 6 x1.toInt.toNat = f_two (wI S6 0 13 w) r := by rw [e7, qI_wI, if_pos ⟨rfl, rfl⟩]
    have s7 : qI S7 0 13 = w := by rw [e7, rdH (by decide), n_13]
    rw [x13] at ew
    refine cl (k7.fin h1 (by omega) (fun q => by omega) (fun _ => ?_) (fun q => by omega)) (fun b z => ?_)
    · rw [f6]
      exact b_two
    · have := z.2.2.2.2.2.1 (by rw [← ea]; exact c7)
      rw [s7]; omega
