/-! called (behind FrMid.ret, sp_enter, fn_places, VmI.st) -/
theorem FrU.rv {S : MS} {f i : Nat} {U : MS} {s p : Nat} {a : AS} (h : FrU S f i U s p a) (hf : FlI S f) : ∃ (T : Nat → Int32) (ts N L : Int), rV T ts N L (qI S f 3).toInt (qI S f 4).toInt (f_op U (qI S 43 i)) (f_first U (qI S 43 i)) (f_second U (qI S 43 i)) := by
  obtain ⟨f92, g1, g2, g3, g4, g5, g6, g7, g8⟩ := h
  obtain ⟨-, -, -, -, -, R, T, C, nc, ts, cn, r1, r2, r3, r4, r5, r6⟩ := hf
  obtain ⟨-, -, -, mt⟩ := r6 (qI S 42 i).toInt.toNat (by omega)
  have e48 : qO U 0 48 = R := by unfold qO; rw [g3.1.1.2.1, r2.1]; rfl
  have ok := g4.1.1.1.2.1
  rw [e48] at ok
  have eR := (g6.1 R ok).1
  have e51 := g3.1.2.1
  have e52 := g3.1.2.2.1
  have ix := lk_ix g4.1 g7
  have q := mt.2.2.2.1 (qI S 43 i).toInt.toNat (by rw [← e52]; omega)
  have f0 := mt.1
  rw [← e51] at q f0
  unfold rOK at q
  refine ⟨qI S T, ts, (qI S (f + 11) (qI S 42 i).toInt.toNat).toInt, (qI S (f + 9) (qI S 42 i).toInt.toNat).toInt, ?_⟩
  unfold f_op f_first f_second
  rw [e48, ix.1, ix.2.1, ix.2.2, ← eR]
  rw [show (3 * ((qI U 0 51).toInt + (qI S 43 i).toInt)).toNat = 3 * ((qI U 0 51).toInt.toNat + (qI S 43 i).toInt.toNat) by omega, show (3 * ((qI U 0 51).toInt + (qI S 43 i).toInt) + 1).toNat = 3 * ((qI U 0 51).toInt.toNat + (qI S 43 i).toInt.toNat) + 1 by omega, show (3 * ((qI U 0 51).toInt + (qI S 43 i).toInt) + 2).toNat = 3 * ((qI U 0 51).toInt.toNat + (qI S 43 i).toInt.toNat) + 2 by omega]
  exact q
/-- what lies where a letter's argument is to lie -/
def agV (n : Int) (c : Int32) (v w : TV) : Prop := (c.toInt = 73 → okV n (nb 1) v) ∧ (c.toInt = 74 → okV n (nb 2) v ∧ okV n (nb 3) w) ∧ (¬ c.toInt = 73 → ¬ c.toInt = 74 → okV n (nb 4) v)
theorem parL_v {g : Nat → Int32} {n : Int} {v : Nat → TV} : ∀ N : Nat, (∀ i : Nat, i < N → agV n (g i) (v (plc g i).toNat) (v ((plc g i).toNat + 1))) → ∀ k : Nat, okV n (nb (parL g N k)) (v k) := by
  intro N
  induction N with
  | zero => intro _ k; exact okV.z0
  | succ N ih =>
    intro h k
    have q := h N (by omega)
    have r := ih (fun i hi => h i (by omega)) k
    show okV n (nb ((if (g N).toInt = 73 then upd (parL g N) (plc g N).toNat 1 else if (g N).toInt = 74 then upd (upd (parL g N) (plc g N).toNat 2) ((plc g N).toNat + 1) 3 else upd (parL g N) (plc g N).toNat 4) k)) (v k)
    by_cases c1 : (g N).toInt = 73
    · rw [if_pos c1]
      unfold upd
      by_cases e : k = (plc g N).toNat
      · rw [if_pos e, e]; exact q.1 c1
      · rw [if_neg e]; exact r
    · rw [if_neg c1]
      by_cases c2 : (g N).toInt = 74
      · rw [if_pos c2]
        unfold upd
        by_cases e : k = (plc g N).toNat + 1
        · rw [if_pos e, e]; exact (q.2.1 c2).2
        · rw [if_neg e]
          by_cases e2 : k = (plc g N).toNat
          · rw [if_pos e2, e2]; exact (q.2.1 c2).1
          · rw [if_neg e2]; exact r
      · rw [if_neg c2]
        unfold upd
        by_cases e : k = (plc g N).toNat
        · rw [if_pos e, e]
          exact q.2.2 c1 c2
        · rw [if_neg e]; exact r
theorem plc_lt {g : Nat → Int32} {i N : Nat} (h : i < N) : plc g i + 1 ≤ plc g N := by
  induction N with
  | zero => exact absurd h (Nat.not_lt_zero _)
  | succ N ih =>
    have e : plc g (N + 1) = plc g N + if (g N).toInt = 74 then 2 else 1 := rfl
    by_cases c : i = N
    · rw [e, c]; split <;> omega
    · have := ih (by omega)
      rw [e]; split <;> omega
/-- a new frame, whose slots hold values of what the method takes -/
theorem VmA.top {S u : MS} {f i m : Nat} {n : Int} (h : VmA S f m) (f92 : 92 < f) (n0 : 0 ≤ n) (kb : ∀ h : Nat, 92 < h → sm5 S u h) (hm : (qI u 42 i).toInt.toNat = m ∧ 0 ≤ (qI u 42 i).toInt ∧ (qI u 42 i).toInt < (qI S f 4).toInt) (e43 : qI u 43 i = 0) (e44 : qI u 44 i = 0) (hv : ∀ s : Nat, qR S (f + 6) m = some s → ∀ k : Nat, k < 24 → okV n (nb (parL (qI S (s + 1)) (qN S (s + 1)) k)) (slF u i k)) : FrTop u f i n := by
  obtain ⟨U, s, p, h1, h2, h3, h4, h5, h6, h7, h8, h9, h10⟩ := h
  have sU := h5.2.2.2.2.1
  have z := h8 _ sU
  have T := h5.2.1
  have H := h5.1
  have cn := h4.cnt
  have l0 : (0 : Int32).toInt = 0 := rfl
  have hx : 0 ≤ (0 : Int32).toInt ∧ (0 : Int32).toInt < (qI U 0 52).toInt := ⟨by decide, by rw [l0]; omega⟩
  obtain ⟨b, hb⟩ := h5.st h4 h6 h7 hx T.2.1
  have y := h5.2.2.1.ht hx T.1 T.2.1
  have ht := htV_one y.1 H.2.1
  have bT : (aT b).toInt = 0 := by rw [hb.1.2.2]; exact ht
  refine ⟨U, s, p, b, ⟨f92, ?_, ?_, ?_, ⟨h4, h6, h5⟩, h7, ⟨fun a ha => (h8 a ha).s (kb a ha.1), fun a ha hq => ?_⟩, by rw [e43]; exact hx, by rw [e43]; exact hb⟩, by rw [e44, bT]; rfl, fun k hk => ?_, fun k hk => by omega⟩
  · rw [(kb f f92).1]; exact hm.2
  · rw [hm.1, (kb (f + 6) (by omega)).2.2.1, (kb (f + 7) (by omega)).2.2.1]; exact ⟨h1, h2⟩
  · rw [hm.1]; exact LoK.mk2 ⟨h3, h10⟩ f92 kb
  · have z := h9 a ha hq
    have q := kb a ha
    exact ⟨fun j hj => by rw [q.1]; exact z.1 j hj, fun j hj => by rw [q.2.2.1]; exact z.2.1 j hj, by rw [q.2.2.2.1]; exact z.2.2.1, by rw [q.2.2.2.2]; exact z.2.2.2⟩
  · have sb := h5.2.2.2.1 (by show 0 ≤ htV (qI U 22 0); have e : htV (qI U 22 0) = 0 := ht; omega) k hk
    rw [nb_8, ← z.1, ← z.2.2.2.2] at sb
    have v := hv s h1 k hk
    have sn := sb_nb sb
    rw [nb_nb] at sn
    have e := hb.1.1 k hk
    rw [show 48 * (0 : Int32).toInt.toNat + k = k by show 48 * 0 + k = k; omega] at e
    rw [e]
    exact v.sb sn n0
theorem sp_called_L {E : MS} {Q : MS → Prop} {a21 r2 : Int32} {F n : Int} (hF : 0 ≤ F ∧ F < 60) (h97 : (qI E 0 97).toInt = F + 1) (hn : 0 ≤ n ∧ n ≤ 8) (er : r2.toInt = n) (ha : 0 ≤ a21.toInt ∧ a21.toInt + n ≤ 1440) (hQ : ∀ D : MS, frm [45, 47] [] E D → (∀ j : Nat, qW D 45 j = if 24 * F ≤ (j : Int) ∧ (j : Int) < 24 * F + n then nW (qW E 46 (a21.toInt.toNat + (j - (24 * F).toNat))) else qW E 45 j) → Q D) : ∃ c, w_called_L88 Q c E a21 r2 0 := by
  have Lp : ∀ (c : Nat) (D : MS) (k : Int32), frm [45, 47] [] E D → (0 ≤ k.toInt ∧ k.toInt ≤ n) → (∀ j : Nat, qW D 45 j = if 24 * F ≤ (j : Int) ∧ (j : Int) < 24 * F + k.toInt then nW (qW E 46 (a21.toInt.toNat + (j - (24 * F).toNat))) else qW E 45 j) → (n - k.toInt).toNat < c → w_called_L88 Q c D a21 r2 k := by
    intro c
    induction c with
    | zero => intro D k _ _ _ h9; exact absurd h9 (Nat.not_lt_zero _)
    | succ c ih =>
      intro D k fD hk hD hc
      have d97 : (qI D 0 97).toInt = F + 1 := by rw [(fD.2.2.2.2.2 97 (by decide)).1, h97]
      have D46 : qW D 46 = qW E 46 := fW fD (h := 46) (by decide) (by decide) (by decide)
      have bD : FrB D := ⟨by omega, by omega⟩
      have nD : fN D = F := by unfold fN; omega
      unfold w_called_L88
      refine ⟨fun z => ?_, fun z => ?_⟩
      · have ek : k.toInt = n := by omega
        rw [ek] at hD
        exact hQ D fD hD
      · have kl : k.toInt < n := by omega
        have ek : (k + Int32.ofInt 1).toInt = k.toInt + 1 := by rw [t_add (by rw [lo_1]; omega), lo_1]
        obtain ⟨z1, z2, z3, z4⟩ := bD.e
        rw [nD] at z1 z2 z3 z4
        have sl : ∀ W : MS, qI W 0 97 = qI D 0 97 → (f_slot W k).toInt = 24 * F + k.toInt := fun W eW => by
          unfold f_slot
          rw [eW, t_add (by rw [z4]; omega), z4]
        have pi : (a21 + k).toInt = a21.toInt + k.toInt := t_add (by omega)
        rw [sl D rfl, pi]
        refine ⟨trivial, ⟨by omega, by omega⟩, ⟨by omega, by omega⟩, fun X eX => ?_⟩
        have x97 : qI X 0 97 = qI D 0 97 := by rw [eX]; rfl
        rw [sl X x97]
        refine ⟨trivial, ⟨by omega, by omega⟩, ⟨by omega, by omega⟩, fun Y eY a53 e53 => ?_⟩
        subst e53
        refine ih Y _ (fD.tr ((show frm [45, 47] [] D X by rw [eX]; exact frm.pJ (by decide)).tr (by rw [eY]; exact frm.pI (by decide)))) ⟨by omega, by omega⟩ (fun j => ?_) (by omega)
        have yJ : qJ Y 45 j = if j = (24 * F + k.toInt).toNat then qJ D 46 (a21.toInt + k.toInt).toNat else qJ D 45 j := by
          rw [eY, qJ_wI, eX, qJ_wJ]
          by_cases e : j = (24 * F + k.toInt).toNat
          · rw [if_pos e, if_pos ⟨rfl, e⟩]
          · rw [if_neg e, if_neg (fun q => e q.2)]
        have yI : qI Y 47 j = if j = (24 * F + k.toInt).toNat then nb (qI D 48 (a21.toInt + k.toInt).toNat) else qI D 47 j := by
          rw [eY, qI_wI]
          by_cases e : j = (24 * F + k.toInt).toNat
          · rw [if_pos e, if_pos ⟨rfl, e⟩, eX]; rfl
          · rw [if_neg e, if_neg (fun q => e q.2), eX]; rfl
        have yW : qW Y 45 j = if j = (24 * F + k.toInt).toNat then nW (qW D 46 (a21.toInt + k.toInt).toNat) else qW D 45 j := by
          unfold qW nW
          rw [yJ, show 45 + 2 = 47 from rfl, yI]
          split <;> rfl
        rw [yW, ek, D46]
        by_cases e : j = (24 * F + k.toInt).toNat
        · rw [if_pos e, if_pos (by omega)]
          rw [show (a21.toInt + k.toInt).toNat = a21.toInt.toNat + (j - (24 * F).toNat) by omega]
        · rw [if_neg e, hD]
          by_cases e2 : 24 * F ≤ (j : Int) ∧ (j : Int) < 24 * F + k.toInt
          · rw [if_pos e2, if_pos (by omega)]
          · rw [if_neg e2, if_neg (by omega)]
  have l0 : (0 : Int32).toInt = 0 := rfl
  exact ⟨_, Lp _ E 0 frm.rf ⟨by decide, by rw [l0]; exact hn.1⟩ (fun j => by rw [if_neg (by rw [l0]; omega)]) (Nat.lt_succ_self _)⟩
set_option maxHeartbeats 4000000 in
theorem InS.called {S V U : MS} {f s p : Nat} {a : AS} {Q : MS → Prop} (i : InS S V f U s p a) (ho : (f_op U (xS S)).toInt = 184) (hQ : ∀ w, McQ f w → Q w) : ∃ Q59, w_called V (f_first V (xS S)) Q59 ∧ ∀ w, Q59 w → Q w := by
  obtain ⟨b0, b1, b2, b3, b4, L1, b5⟩ := i.v
  obtain ⟨kk, t, hx, st, hT, h0⟩ := i.t
  have hI := i.1
  have hU := i.2.2.1
  have hU' := hU
  obtain ⟨w1, w2, w3, w4, w5, w6⟩ := hU.own
  obtain ⟨T', ts', N', L', rv⟩ := hU.rv hI.2.1.2.1
  obtain ⟨f92, g1, g2, g3, g4, g5, g6, g7, g8⟩ := hU
  have nm : ¬ 0 < (f_moved U (f_op U (xS S))).toInt := fun z => by have := mv_iff.mp z; omega
  have mr : 0 ≤ (f_first U (xS S)).toInt ∧ (f_first U (xS S)).toInt < (qI S f 4).toInt := rv.2.2.2.2.2.2 ho
  have vm := hI.2.1.2.2.1.2.2 (f_first U (xS S)).toInt.toNat (by omega)
  obtain ⟨b, -, -, -, -, -, wd⟩ := wk_dec (p := p) (a := a) kk t hx ⟨hT.1, hT.2.1, by omega⟩ nm
  obtain ⟨-, -, wd3⟩ := wd st.2.1
  obtain ⟨sm, hsm⟩ : ∃ sm : Nat, qR S (f + 6) (f_first U (xS S)).toInt.toNat = some sm := by
    obtain ⟨_, sm, _, q, _⟩ := vm
    exact ⟨sm, q⟩
  have et : f_takesOf U (xS S) = sm := by
    rw [tk_184 ho, w1, w2.2.1]
    unfold qO
    rw [w4, hsm]
    rfl
  have tS := kk.tk hx t
  rw [et] at tS wd3
  obtain ⟨ts1, ts2, ts3, ts4, ts5⟩ := tS
  have wp := w6 sm ts1
  have etk : tkV U (xS S) = plS S sm := by
    unfold tkV
    rw [if_neg nm, et]
    unfold plS
    rw [wp.1, wp.2]
  have pl8 : plS S sm ≤ 8 := by unfold plS at ts5 ⊢; rw [← wp.1, ← wp.2]; exact ts5
  have n8 : qN S (sm + 1) ≤ 8 := by rw [← wp.2]; exact ts2
  have lt : ∀ j : Nat, j < qN S (sm + 1) → 0 ≤ (qI S (sm + 1) j).toInt ∧ (qI S (sm + 1) j).toInt ≤ 127 := fun j hj => by
    have := ts3 j (by rw [wp.2]; exact hj)
    rw [wp.1] at this
    omega
  have k92 : 92 < sm + 1 := ts1.1
  have fl := hI.2.1.2.1
  have FR := fl.1.2.2
  have r5 := FR 5 (by decide)
  have q10 : qR S f 10 = some (f + 6) := r5.1
  have n6 : qN S (f + 6) = 24 := r5.2.1
  have m24 := fl.2.2.2.1.2.2
  have kV := big_frm i.2.1 (by simp)
  have V80 : qR V 0 80 = some f := by rw [(i.2.1.2.2.2.2.2 80 (by decide)).2.2]; exact hI.2.1.1.2
  have o80 : qO V 0 80 = f := by unfold qO; rw [V80]; rfl
  have o10 : qO V f 10 = f + 6 := by unfold qO; rw [(kV f f92).2.2.1, q10]; rfl
  have rV6 : qR V (f + 6) (f_first U (xS S)).toInt.toNat = some sm := by rw [(kV _ (by omega)).2.2.1]; exact hsm
  have o6 : qO V (f + 6) (f_first U (xS S)).toInt.toNat = sm := by unfold qO; rw [rV6]; rfl
  have v46 : qW V 46 = qW S 46 := fW i.2.1 (h := 46) (by decide) (by decide) (by decide)
  have v45 : qW V 45 = qW S 45 := fW i.2.1 (h := 45) (by decide) (by decide) (by decide)
  have v44 : qI V 44 = qI S 44 := (i.2.1.2.2.2.2.1 44 (by decide) (by decide)).1
  have v43 : qI V 43 = qI S 43 := (i.2.1.2.2.2.2.1 43 (by decide) (by decide)).1
  have v42 : qI V 42 = qI S 42 := (i.2.1.2.2.2.2.1 42 (by decide) (by decide)).1
  have v97 : qI V 0 97 = qI S 0 97 := (i.2.1.2.2.2.2.2 97 (by decide)).1
  have e97 : (qI S 0 97).toInt = fN S + 1 := by unfold fN; omega
  have af : ∀ D : MS, frm [42, 43, 44, 45, 46, 47, 48] [47, 48, 49, 50, 51, 52, 53, 54, 97, 98] S D → McB D f ∧ ArI D ∧ FvI D f ∧ qI D 0 85 = qI S 0 85 := fun D k => by
    have e85 : qI D 0 85 = qI S 0 85 := (k.2.2.2.2.2 85 (by decide)).1
    exact ⟨hI.2.1.fm k (by decide) (by decide), hI.2.2.1.1.eq e85 (k.2.2.2.2.2 86 (by decide)).1 (k.2.2.2.2.1 39 (by decide) (by decide)).1 (k.2.2.2.2.1 40 (by decide) (by decide)).1, hI.2.2.1.2.eq f92 (big_frm k (by decide)) (by rw [e85]; exact Int.le_refl _) (k.2.2.2.2.1 37 (by decide) (by decide)).2.1, e85⟩
  rw [(i.op _).2.1]
  refine ⟨McQ f, ?_, hQ⟩
  unfold w_called
  refine ⟨fun c D eD => ?_, fun c => ?_⟩
  · obtain ⟨x1, x2, x3, x4⟩ := af D ((i.2.1.mo (by decide) (by decide)).tr (by rw [eD]; exact frm.pI0 (by decide)))
    refine ⟨⟨x1, x2, x3⟩, Or.inl ?_⟩
    have : qI D 0 98 = 3 := by rw [eD, qI_wI, if_pos ⟨rfl, rfl⟩]
    rw [this]
    decide
  · rw [v97, e97] at c
    obtain ⟨y1, y2, y3, y4⟩ := b1.e
    rw [b2] at y1 y2 y3 y4
    have eV44 : (qI V 44 (fN S).toNat).toInt = (aT a).toInt := by unfold fT at b4; rw [b2] at b4; exact b4
    have vs := kV (sm + 1) k92
    have plV : plS V sm = plS S sm := by unfold plS; rw [vs.1, vs.2.2.2.2]
    rw [o80, o10, o6, y1]
    refine ⟨V80, by rw [(kV f f92).2.2.1]; exact q10, ⟨mr.1, by rw [(kV (f + 6) (by omega)).2.2.2.2, n6]; omega⟩, rV6, trivial, ⟨y2, y3⟩, _, fn_places (by rw [vs.2.2.2.2]; omega) (by rw [vs.1, vs.2.2.2.2]; exact lt), ?_⟩
    rintro r V' ⟨eV', er⟩
    have eV2 := eV'.symm
    subst eV2
    rw [plV] at er
    intro a21 e21 a25 e25
    have s0 : (f_slot V (0 : Int32)).toInt = 24 * fN S := by
      unfold f_slot
      have l0 : (0 : Int32).toInt = 0 := rfl
      rw [t_add (by rw [y4, l0]; omega), y4, l0]
      omega
    have q21 : a21.toInt = 24 * fN S + (aT a).toInt - plS S sm := by
      have z : (f_slot V (0 : Int32) + qI V 44 (fN S).toNat).toInt = 24 * fN S + (aT a).toInt := by rw [t_add (by rw [s0, eV44]; omega), s0, eV44]
      rw [e21, t_sub (by rw [z, er]; omega), z, er]
    have q25 : a25.toInt = (aT a).toInt - plS S sm := by
      rw [e25, t_sub (by rw [q21, y4]; omega), q21, y4]
      omega
    rw [y1]
    refine ⟨⟨y2, y3⟩, fun A eA => ?_⟩
    have fA : frm [44] [] V A := by rw [eA]; exact frm.pI (by decide)
    have a97 : (qI A 0 97).toInt = fN S + 1 := by rw [eA, rdH (by decide), v97, e97]
    refine ⟨_, sp_enter (m := f_first U (xS S)) ⟨by omega, by omega⟩, ?_⟩
    rintro E ⟨fE, c97, c42, c43, c44, c45⟩
    rw [a97] at c97 c42 c43 c44 c45
    have A42 : qI A 42 = qI S 42 := by rw [eA, rdH (by decide), v42]
    have A43 : qI A 43 = qI S 43 := by rw [eA, rdH (by decide), v43]
    have A45 : qW A 45 = qW S 45 := by rw [eA, qW_I (by decide), v45]
    have E46 : qW E 46 = qW S 46 := by rw [fW fE (h := 46) (by decide) (by decide) (by decide), eA, qW_I (by decide), v46]
    rw [A42] at c42
    rw [A43] at c43
    rw [A45] at c45
    have fSE : frm [42, 43, 44, 45, 46, 47, 48] [47, 48, 49, 50, 51, 52, 53, 54, 97, 98] S E := (i.2.1.mo (by decide) (by decide)).tr ((fA.mo (by decide) (by decide)).tr (fE.mo (by decide) (by decide)))
    have kE := big_frm fSE (by decide)
    have es := kE (sm + 1) k92
    have plE : plS E sm = plS S sm := by unfold plS; rw [es.1, es.2.2.2.2]
    refine ⟨_, fn_places (by rw [es.2.2.2.2]; omega) (by rw [es.1, es.2.2.2.2]; exact lt), ?_⟩
    rintro r2 E' ⟨eE', er2⟩
    have eE2 := eE'.symm
    subst eE2
    rw [plE] at er2
    have eNn : (fN S + 1).toNat = (fN S).toNat + 1 := by omega
    -- the arguments are laid into the new frame
    have l0 : (0 : Int32).toInt = 0 := rfl
    refine sp_called_L (F := fN S + 1) (n := plS S sm) ⟨by omega, by omega⟩ c97 ⟨by unfold plS; have := plc_ge (g := qI S (sm + 1)) (qN S (sm + 1)); omega, pl8⟩ er2 ⟨by omega, by omega⟩ (fun D fD hD => ?_)
    rw [q21, E46] at hD
    have d97 : (qI D 0 97).toInt = fN S + 1 + 1 := by rw [(fD.2.2.2.2.2 97 (by decide)).1, c97]
    have D46 : qW D 46 = qW S 46 := by rw [fW fD (h := 46) (by decide) (by decide) (by decide), E46]
    have bD : FrB D := ⟨by omega, by omega⟩
    have nD : fN D = fN S + 1 := by unfold fN; omega
    have fSD : frm [42, 43, 44, 45, 46, 47, 48] [47, 48, 49, 50, 51, 52, 53, 54, 97, 98] S D := fSE.tr (fD.mo (by decide) (by decide))
    obtain ⟨x1, x2, x3, x4⟩ := af D fSD
    have kb := big_frm fSD (by decide)
    have D42 : qI D 42 = upd (qI S 42) (fN S + 1).toNat (f_first U (xS S)) := by rw [(fD.2.2.2.2.1 42 (by decide) (by decide)).1, c42]
    have D43 : qI D 43 = upd (qI S 43) (fN S + 1).toNat 0 := by rw [(fD.2.2.2.2.1 43 (by decide) (by decide)).1, c43]
    have D44 : qI D 44 = upd (qI A 44) (fN S + 1).toNat 0 := by rw [(fD.2.2.2.2.1 44 (by decide) (by decide)).1, c44]
    have A44 : qI A 44 = upd (qI S 44) (fN S).toNat a25 := by rw [eA, qI_self, v44]
    have low : ∀ j : Nat, (j : Int) < 24 * (fN S + 1) → qW D 45 j = qW S 45 j := fun j hj => by rw [hD, if_neg (by omega), c45, if_neg (by omega)]
    have lo42 : ∀ j : Nat, j ≤ (fN S).toNat → qI D 42 j = qI S 42 j := fun j hj => by rw [D42]; unfold upd; rw [if_neg (by omega)]
    have lo43 : ∀ j : Nat, j ≤ (fN S).toNat → qI D 43 j = qI S 43 j := fun j hj => by rw [D43]; unfold upd; rw [if_neg (by omega)]
    refine ⟨⟨x1, x2, x3⟩, Or.inr ⟨bD, x1, ⟨x2, x3⟩, ?_, fun j hj => ?_⟩⟩
    · rw [nD, x4, eNn]
      have at42 : qI D 42 ((fN S).toNat + 1) = f_first U (xS S) := by rw [D42, eNn]; unfold upd; rw [if_pos rfl]
      refine vm.top f92 hI.2.2.1.1.1.1 kb ⟨by rw [at42], by rw [at42]; exact mr⟩ (by rw [D43, eNn]; unfold upd; rw [if_pos rfl]) (by rw [D44, eNn]; unfold upd; rw [if_pos rfl]) (fun s2 hs2 k2 hk2 => ?_)
      rw [hsm] at hs2
      have es2 : s2 = sm := by injection hs2 with z; exact z.symm
      subst es2
      refine parL_v (v := slF D ((fN S).toNat + 1)) _ (fun j hj => ?_) k2
      have pj := plc_lt (g := qI S (s2 + 1)) hj
      have pj0 := plc_ge (g := qI S (s2 + 1)) j
      have epl : plS S s2 = plc (qI S (s2 + 1)) (qN S (s2 + 1)) := rfl
      have ev : slF D ((fN S).toNat + 1) (plc (qI S (s2 + 1)) j).toNat = nW (plF S (fN S).toNat ((aT a).toInt - tkV U (xS S) + plc (qI S (s2 + 1)) j).toNat) := by
        unfold slF plF
        rw [hD, if_pos (by omega)]
        rw [show (24 * fN S + (aT a).toInt - plS S s2).toNat + (24 * ((fN S).toNat + 1) + (plc (qI S (s2 + 1)) j).toNat - (24 * (fN S + 1)).toNat) = 24 * (fN S).toNat + ((aT a).toInt - tkV U (xS S) + plc (qI S (s2 + 1)) j).toNat by rw [etk]; omega]
      have w := wd3 j (by rw [wp.2]; exact hj)
      rw [wp.1] at w
      have ok := i.2.2.2.2.1.2 ((aT a).toInt - tkV U (xS S) + plc (qI S (s2 + 1)) j).toNat (by rw [etk]; omega)
      have nbP := st.1.nb.2
      have okn := ok
      rw [← nbP _ (by rw [etk]; omega)] at okn
      have okw := okn.nw
      rw [nbP _ (by rw [etk]; omega)] at okw
      rw [ev]
      refine ⟨fun q => ?_, fun q => ?_, fun q1 q2 => ?_⟩
      · have e1 : aP a ((aT a).toInt - tkV U (xS S) + plc (qI S (s2 + 1)) j).toNat = nb 1 := Int32.toInt_inj.mp (by rw [w.2.1 q]; decide)
        rw [e1] at okw
        exact okw
      · have pl2 : plc (qI S (s2 + 1)) (j + 1) = plc (qI S (s2 + 1)) j + 2 := by
          show plc (qI S (s2 + 1)) j + (if (qI S (s2 + 1) j).toInt = 74 then (2 : Int) else 1) = _
          rw [if_pos q]
        have pl3 : plc (qI S (s2 + 1)) (j + 1) ≤ plc (qI S (s2 + 1)) (qN S (s2 + 1)) := by
          by_cases y : j + 1 = qN S (s2 + 1)
          · rw [y]; exact Int.le_refl _
          · have := plc_lt (g := qI S (s2 + 1)) (show j + 1 < qN S (s2 + 1) by omega); omega
        have ev2 : slF D ((fN S).toNat + 1) ((plc (qI S (s2 + 1)) j).toNat + 1) = nW (plF S (fN S).toNat ((aT a).toInt - tkV U (xS S) + plc (qI S (s2 + 1)) j + 1).toNat) := by
          unfold slF plF
          rw [hD, if_pos (by omega)]
          rw [show (24 * fN S + (aT a).toInt - plS S s2).toNat + (24 * ((fN S).toNat + 1) + ((plc (qI S (s2 + 1)) j).toNat + 1) - (24 * (fN S + 1)).toNat) = 24 * (fN S).toNat + ((aT a).toInt - tkV U (xS S) + plc (qI S (s2 + 1)) j + 1).toNat by rw [etk]; omega]
        have ok2 := i.2.2.2.2.1.2 ((aT a).toInt - tkV U (xS S) + plc (qI S (s2 + 1)) j + 1).toNat (by rw [etk]; omega)
        have okn2 := ok2
        rw [← nbP _ (by rw [etk]; omega)] at okn2
        have okw2 := okn2.nw
        rw [nbP _ (by rw [etk]; omega)] at okw2
        have w2 := w.2.2.2.2 q
        have e1 : aP a ((aT a).toInt - tkV U (xS S) + plc (qI S (s2 + 1)) j).toNat = nb 2 := Int32.toInt_inj.mp (by rw [w2.1]; decide)
        have e3 : aP a ((aT a).toInt - tkV U (xS S) + plc (qI S (s2 + 1)) j + 1).toNat = nb 3 := Int32.toInt_inj.mp (by rw [w2.2]; decide)
        rw [e1] at okw
        rw [e3] at okw2
        rw [ev2]
        exact ⟨okw, okw2⟩
      have lj := lt j hj
      have l3 := ts3 j (by rw [wp.2]; exact hj)
      rw [wp.1] at l3
      have q65 : (qI S (s2 + 1) j).toInt = 65 := by
        have vv := vm
        obtain ⟨U2, s3, p3, v1, v2, v3, v4, v5, v6, v7, v8, v9⟩ := vv
        have fm := fl.2.2.2.2.2
        obtain ⟨R, T, C, nc, ts, cn, -, -, -, -, -, r6⟩ := fm
        obtain ⟨⟨pl, ⟨t1, t2, t3, t4, -, -, -, -, -, -, u3, -, -, -, ⟨-, n', g', sI, -, ls, -⟩, -⟩, -⟩, -⟩ := r6 (f_first U (xS S)).toInt.toNat (by omega)
        rw [hsm] at u3
        have e3 : s2 = t3 := by injection u3
        subst e3
        have z1 := ls j (by rw [← sI.2.2.1]; exact hj)
        rw [← sI.2.2.2 j (by rw [← sI.2.2.1]; exact hj)] at z1
        omega
      have n0 := hI.2.2.1.1.1.1
      rcases w.1 q65 with q | q
      · have e1 : aP a ((aT a).toInt - tkV U (xS S) + plc (qI S (s2 + 1)) j).toNat = nb 4 := Int32.toInt_inj.mp (by rw [q]; decide)
        rw [e1] at okw
        exact okw
      · exact okw.sb (Or.inr (Or.inr ⟨q, Or.inl (by decide)⟩)) n0
    · rw [nD] at hj
      rw [x4]
      by_cases ej : j = (fN S).toNat
      · subst ej
        have stay := hU'.stay kb (lo42 _ (Nat.le_refl _)) (lo43 _ (Nat.le_refl _))
        refine ⟨U, s, p, a, stay, ?_, ?_, ?_, fun k2 hk2 => ?_, fun k2 hk2 => ?_⟩
        · rw [lo43 _ (Nat.le_refl _)]; exact ho
        · rw [lo43 _ (Nat.le_refl _), D42, eNn]
          unfold upd
          rw [if_pos rfl]
          rfl
        · rw [lo43 _ (Nat.le_refl _), D44]
          unfold upd
          rw [if_neg (by omega), A44]
          unfold upd
          rw [if_pos rfl, q25, ← etk]
          rfl
        · unfold slF
          rw [low _ (by omega)]
          exact i.2.2.2.2.1.1 k2 hk2
        · rw [lo43 _ (Nat.le_refl _)] at hk2
          unfold plF
          rw [D46]
          refine i.2.2.2.2.1.2 k2 ?_
          have : tkV U (qI S 43 (fN S).toNat) = tkV U (xS S) := rfl
          omega
      · refine (hI.2.2.2.2 j (by omega)).mv (Int.le_refl _) kb ⟨lo42 _ (by omega), lo42 _ (by omega)⟩ (lo43 _ (by omega)) ?_ (fun k2 hk2 => ?_) (fun k2 hk2 => ?_)
        · rw [D44]
          unfold upd
          rw [if_neg (by omega), A44]
          unfold upd
          rw [if_neg (by omega)]
        · unfold slF; rw [low _ (by omega)]
        · unfold plF; rw [D46]
/-! plain instructions (behind InS.pu, InS.mv, tg_18, sp_shuffle) -/
/-- what plain leaves -/
def PlQ (S : MS) (f : Nat) (r : Int32) (u : MS) : Prop := (r.toInt = 0 → McQ f u) ∧ (¬ r.toInt = 0 → FrB u ∧ ∀ w, GtP u (xS S + 1) w → McI w f)
theorem PlQ.one {S u : MS} {f : Nat} (h : FrB u) (k : ∀ w, GtP u (xS S + 1) w → McI w f) : PlQ S f 1 u := ⟨fun z => absurd z (by decide), fun _ => ⟨h, k⟩⟩
theorem PlQ.no {S u : MS} {f : Nat} (h : McQ f u) : PlQ S f 0 u := ⟨fun _ => h, fun z => absurd rfl z⟩
def isPl (o : Int) : Prop := ¬ o = 167 ∧ ¬ o = 170 ∧ ¬ o = 171 ∧ ¬ o = 172 ∧ ¬ o = 173 ∧ ¬ o = 176 ∧ ¬ o = 177 ∧ ¬ o = 191 ∧ ¬ o = 54 ∧ ¬ o = 55 ∧ ¬ o = 58 ∧ ¬ o = 132 ∧ ¬ o = 87 ∧ ¬ o = 88 ∧ ¬ o = 89 ∧ ¬ o = 90 ∧ ¬ o = 92 ∧ ¬ o = 95
theorem isPl.f {U : MS} {x : Int32} (h : isPl (f_op U x).toInt) : (¬ 0 < (f_moved U (f_op U x)).toInt) ∧ (¬ isSt (f_op U x) ∧ ¬ (f_op U x).toInt = 132) ∧ (f_goesOn U (f_op U x)).toInt ≠ 0 := by
  obtain ⟨h1, h2, h3, h4, h5, h6, h7, h8, h9, h10, h11, h12, h13, h14, h15, h16, h17, h18⟩ := h
  refine ⟨fun z => ?_, ⟨fun z => ?_, h12⟩, go_on ⟨h1, h2, h3, h4, h5, h6, h7, h8⟩⟩
  · rcases mv_iff.mp z with q | q | q | q | q | q
    · exact h13 q
    · exact h14 q
    · exact h15 q
    · exact h16 q
    · exact h17 q
    · exact h18 q
  · rcases z with q | q | q
    · exact h9 q
    · exact h10 q
    · exact h11 q
theorem InS.p1 {S V U u : MS} {f s p : Nat} {a : AS} {v : TV} (i : InS S V f U s p a) (ho : isPl (f_op U (xS S)).toInt) (P : PuP V (tkV U (xS S)) (gvV U (xS S)) v u) (g1 : qN U (f_givesOf U (xS S) + 1) = 1) (hv : okV (qI S 0 85).toInt (nb (ltT (qI U (f_givesOf U (xS S) + 1) 0) (thV U (xS S) a))) v) : PlQ S f 1 u := by
  obtain ⟨z1, z2, z3⟩ := ho.f
  obtain ⟨b0, b1, b2, b3, b4, L1, b5⟩ := i.v
  exact PlQ.one ((LcP.pu P (by rw [b4]; exact i.t.2.2.2.2.1.1)).b b1) (fun w G => i.pu z1 z2 P G (i.nx z3) g1 hv)
theorem InS.p0 {S V U u : MS} {f s p : Nat} {a : AS} (i : InS S V f U s p a) (ho : isPl (f_op U (xS S)).toInt) (P : PpP V (tkV U (xS S)) u) (g0 : qN U (f_givesOf U (xS S) + 1) = 0) : PlQ S f 1 u := by
  obtain ⟨z1, z2, z3⟩ := ho.f
  obtain ⟨b0, b1, b2, b3, b4, L1, b5⟩ := i.v
  exact PlQ.one ((LcP.pp P).b b1) (fun w G => i.pp z1 z2 P G (i.nx z3) g0)
/-- what is given is an int, or a long -/
theorem InS.pI {S V U u : MS} {f s p : Nat} {a : AS} {v : TV} (i : InS S V f U s p a) (ho : isPl (f_op U (xS S)).toInt) (P : PuP V (tkV U (xS S)) (gvV U (xS S)) v u) (hg : (f_givesOf U (xS S) = 10000016 ∧ (-2147483648 ≤ v.1.toInt ∧ v.1.toInt ≤ 2147483647) ∧ v.2.toInt = 1) ∨ (f_givesOf U (xS S) = 10000022 ∧ v.2.toInt = 2)) : PlQ S f 1 u := by
  have l1 := tx_l1 i.t.2.1
  rcases hg with ⟨g, hv⟩ | ⟨g, hv⟩
  · have c1 : (qI U (10000016 + 1) 0).toInt = 73 := l1.2.2.2.1.2
    refine i.p1 ho P (by rw [g]; exact l1.2.2.2.1.1) ?_
    rw [g]
    exact gv_l.1 c1 hv.1 hv.2
  · have c1 : (qI U (10000022 + 1) 0).toInt = 74 := l1.2.2.2.2.2.2.1.2
    refine i.p1 ho P (by rw [g]; exact l1.2.2.2.2.2.2.1.1) ?_
    rw [g]
    exact gv_l.2.1 c1 hv
theorem InS.slot {S V U W : MS} {f s p : Nat} {a : AS} {k : Int32} (i : InS S V f U s p a) (e : qI W 0 97 = qI V 0 97) (hk : 0 ≤ k.toInt ∧ k.toInt ≤ 24) : (f_slot W k).toInt = 24 * fN S + k.toInt := by
  obtain ⟨b0, b1, b2, b3, b4, L1, b5⟩ := i.v
  have y4 := b1.e.2.2.2
  rw [b2] at y4
  unfold f_slot
  rw [e, t_add (by rw [y4]; omega), y4]
/-- what an instruction says of its local -/
theorem InS.lc {S V U : MS} {f s p : Nat} {a : AS} (i : InS S V f U s p a) : ((f_op U (xS S)).toInt = 21 ∨ (f_op U (xS S)).toInt = 25 ∨ (f_op U (xS S)).toInt = 54 ∨ (f_op U (xS S)).toInt = 58 ∨ (f_op U (xS S)).toInt = 132 → 0 ≤ (f_first U (xS S)).toInt ∧ (f_first U (xS S)).toInt < 24) ∧ ((f_op U (xS S)).toInt = 22 ∨ (f_op U (xS S)).toInt = 55 → 0 ≤ (f_first U (xS S)).toInt ∧ (f_first U (xS S)).toInt < 23) := by
  obtain ⟨kk, t, hx, st, hT, h0⟩ := i.t
  obtain ⟨L, F, M, ts, ⟨l1, l2, l3⟩, lb, rv, -, -⟩ := kk.rv hx
  exact ⟨fun q => by have := rv.2.2.2.1 q; omega, fun q => by have := rv.2.2.2.2.1 q; omega⟩
/-- what lies where a letter takes -/
def lwP (n : Int) (c : Int32) (v w : TV) : Prop := (c.toInt = 65 → 0 ≤ v.1.toInt ∧ v.1.toInt ≤ n) ∧ (c.toInt = 73 → -2147483648 ≤ v.1.toInt ∧ v.1.toInt ≤ 2147483647) ∧ (c.toInt = 69 → -2147483648 ≤ v.1.toInt ∧ v.1.toInt ≤ 0) ∧ (c.toInt = 73 → okV n (nb 1) v) ∧ (c.toInt = 74 → okV n (nb 2) v ∧ okV n (nb 3) w)
theorem InS.wd {S V U : MS} {f s p : Nat} {a : AS} (i : InS S V f U s p a) (hm : ¬ 0 < (f_moved U (f_op U (xS S))).toInt) : ((f_op U (xS S)).toInt = 21 ∨ (f_op U (xS S)).toInt = 132 → (aL a (f_first U (xS S)).toInt.toNat).toInt = 1) ∧ ∀ j : Nat, j < qN U (f_takesOf U (xS S) + 1) → lwP (qI S 0 85).toInt (qI U (f_takesOf U (xS S) + 1) j) (plF S (fN S).toNat ((aT a).toInt - tkV U (xS S) + plc (qI U (f_takesOf U (xS S) + 1)) j).toNat) (plF S (fN S).toNat ((aT a).toInt - tkV U (xS S) + plc (qI U (f_takesOf U (xS S) + 1)) j + 1).toNat) := by
  obtain ⟨kk, t, hx, st, hT, h0⟩ := i.t
  obtain ⟨b, -, -, -, -, -, wd⟩ := wk_dec (p := p) (a := a) kk t hx ⟨hT.1, hT.2.1, by omega⟩ hm
  obtain ⟨-, w2, w3⟩ := wd st.2.1
  refine ⟨w2, fun j hj => ?_⟩
  have e : tkV U (xS S) = plc (qI U (f_takesOf U (xS S) + 1)) (qN U (f_takesOf U (xS S) + 1)) := by unfold tkV; rw [if_neg hm]; rfl
  have pj := plc_lt (g := qI U (f_takesOf U (xS S) + 1)) hj
  have p0 := plc_ge (g := qI U (f_takesOf U (xS S) + 1)) j
  have ok := i.2.2.2.2.1.2 ((aT a).toInt - tkV U (xS S) + plc (qI U (f_takesOf U (xS S) + 1)) j).toNat (by omega)
  have w := w3 j hj
  have n0 := i.1.2.2.1.1.1.1
  refine ⟨fun q => ?_, fun q => ok.2.2.1 (w.2.1 q), fun q => ?_, fun q => ?_, fun q => ?_⟩
  · rcases w.1 q with z | z
    · exact ok.1 z
    · have := ok.2.1 z
      omega
  · rcases w.2.2.1 q with z | z
    · exact ok.2.2.2.1 z
    · have := ok.2.1 z
      omega
  · have e1 : aP a ((aT a).toInt - tkV U (xS S) + plc (qI U (f_takesOf U (xS S) + 1)) j).toNat = nb 1 := Int32.toInt_inj.mp (by rw [w.2.1 q]; decide)
    rw [e1] at ok
    exact ok
  · have w2 := w.2.2.2.2 q
    have pl2 : plc (qI U (f_takesOf U (xS S) + 1)) (j + 1) = plc (qI U (f_takesOf U (xS S) + 1)) j + 2 := by
      show plc (qI U (f_takesOf U (xS S) + 1)) j + (if (qI U (f_takesOf U (xS S) + 1) j).toInt = 74 then (2 : Int) else 1) = _
      rw [if_pos q]
    have pl3 : plc (qI U (f_takesOf U (xS S) + 1)) (j + 1) ≤ plc (qI U (f_takesOf U (xS S) + 1)) (qN U (f_takesOf U (xS S) + 1)) := by
      by_cases y : j + 1 = qN U (f_takesOf U (xS S) + 1)
      · rw [y]; exact Int.le_refl _
      · have := plc_lt (g := qI U (f_takesOf U (xS S) + 1)) (show j + 1 < qN U (f_takesOf U (xS S) + 1) by omega); omega
    have ok2 := i.2.2.2.2.1.2 ((aT a).toInt - tkV U (xS S) + plc (qI U (f_takesOf U (xS S) + 1)) j + 1).toNat (by omega)
    have e1 : aP a ((aT a).toInt - tkV U (xS S) + plc (qI U (f_takesOf U (xS S) + 1)) j).toNat = nb 2 := Int32.toInt_inj.mp (by rw [w2.1]; decide)
    have e3 : aP a ((aT a).toInt - tkV U (xS S) + plc (qI U (f_takesOf U (xS S) + 1)) j + 1).toNat = nb 3 := Int32.toInt_inj.mp (by rw [w2.2]; decide)
    rw [e1] at ok
    rw [e3] at ok2
    exact ⟨ok, ok2⟩
/-- a store -/
theorem InS.sto {S V U u : MS} {f s p : Nat} {a : AS} (i : InS S V f U s p a) (ho : isSt (f_op U (xS S))) (k : frm [44, 45, 47] [] V u) (eT : fT u = fT V - tkV U (xS S)) (o44 : ∀ j : Nat, j ≠ (fN V).toNat → qI u 44 j = qI V 44 j) (e45 : ∀ j : Nat, qW u 45 j = if j = 24 * (fN S).toNat + (f_first U (xS S)).toInt.toNat then nW (plF S (fN S).toNat ((aT a).toInt - tkV U (xS S)).toNat) else if (f_op U (xS S)).toInt = 55 ∧ j = 24 * (fN S).toNat + (f_first U (xS S)).toInt.toNat + 1 then (qJ V 45 j, nb (plF S (fN S).toNat ((aT a).toInt - 1).toNat).2) else qW V 45 j) : PlQ S f 1 u := by
  obtain ⟨b0, b1, b2, b3, b4, L1, b5⟩ := i.v
  obtain ⟨kk, t, hx, st, hT, h0⟩ := i.t
  have l1 := tx_l1 t
  have lc := i.lc
  have hl : 0 ≤ (f_first U (xS S)).toInt ∧ (f_first U (xS S)).toInt < 24 := by
    rcases ho with q | q | q
    · exact lc.1 (by omega)
    · have := lc.2 (by omega); omega
    · exact lc.1 (by omega)
  have nm : ¬ 0 < (f_moved U (f_op U (xS S))).toInt := fun z => by have := mv_iff.mp z; unfold isSt at ho; omega
  have gg := go_on (S := U) (o := f_op U (xS S)) (by unfold isSt at ho; omega)
  have wd := i.wd nm
  have tg : f_givesOf U (xS S) = 10000032 ∧ gvV U (xS S) = 0 := by
    rcases ho with q | q | q
    · have z := tg_54 q t; exact ⟨z.1.2, z.2.2⟩
    · have z := tg_55 q t; exact ⟨z.1.2, z.2.2⟩
    · have z := tg_58 q t; exact ⟨z.1.2, z.2.2⟩
  have g0 : qN U (f_givesOf U (xS S) + 1) = 0 := by rw [tg.1]; exact l1.2.2.2.2.2.2.2.2.2.2.2.1
  have L2 : LcP V u := ⟨k.mo (by decide) (by decide), fun j hj => ⟨by rw [(k.2.2.2.2.1 43 (by decide) (by decide)).1], o44 j hj⟩, fun j hj => ⟨by rw [b2] at hj; rw [e45, if_neg (by omega), if_neg (by omega)], by rw [fW k (h := 46) (by decide) (by decide) (by decide)]⟩⟩
  refine PlQ.one (L2.b b1) (fun w G => ?_)
  have L := (L1.tr L2).tr (LcP.gt G)
  have eu : fN u = fN S := by rw [L2.n.1, b2]
  have fr : frm [43, 44, 45, 46, 47, 48] [47, 48, 49, 50, 51, 52, 53, 54] S w := (i.2.1.mo (by decide) (by decide)).tr ((k.mo (by decide) (by decide)).tr (G.1.mo (by decide) (by decide)))
  obtain ⟨hA, hF, e85⟩ := i.af fr
  have e43 : qI w 43 (fN S).toNat = xS S + 1 := by rw [G.2, eu]; unfold upd; rw [if_pos rfl]
  have e44 : qI w 44 = qI u 44 := (G.1.2.2.2.2.1 44 (by decide) (by decide)).1
  have w45 : qW w 45 = qW u 45 := fW G.1 (h := 45) (by decide) (by decide) (by decide)
  have e46 : qW w 46 = qW S 46 := by rw [fW G.1 (h := 46) (by decide) (by decide) (by decide), fW k (h := 46) (by decide) (by decide) (by decide), fW i.2.1 (h := 46) (by decide) (by decide) (by decide)]
  have v45 : qW V 45 = qW S 45 := fW i.2.1 (h := 45) (by decide) (by decide) (by decide)
  have sn : slF w (fN S).toNat (f_first U (xS S)).toInt.toNat = nW (plF S (fN S).toNat ((aT a).toInt - tkV U (xS S)).toNat) := by
    unfold slF
    rw [w45, e45, if_pos rfl]
  have nx := i.nx gg
  refine i.go L hA hF (by rw [e85]; exact Int.le_refl _) nm (by rw [e43]; exact nx) ?_ (fun k2 hk2 hne hn5 => ?_) (fun q => ?_) (fun q => ?_) (fun q => by unfold isSt at ho; omega) (fun q => ?_) (fun k2 hk2 => by unfold plF; rw [e46]) (fun j hj => by omega)
  · rw [e44]
    rw [b4] at eT
    unfold fT at eT
    rw [eu] at eT
    rw [eT, tg.2]
    omega
  · unfold slF
    rw [w45, e45, if_neg (by have := hne (Or.inl ho); omega), if_neg (fun q => by have := hn5 q.1; omega), v45]
  · rw [sn]
    have z := tg_54 q t
    have w2 := wd.2 0
    rw [z.1.1, z.2.1] at w2
    have c1 : qN U (10000016 + 1) = 1 ∧ (qI U (10000016 + 1) 0).toInt = 73 := l1.2.2.2.1
    have w3 := (w2 (by rw [c1.1]; decide)).2.2.2.1 c1.2
    have z0 : plc (qI U (10000016 + 1)) 0 = 0 := rfl
    rw [z0, Int.add_zero] at w3
    rw [z.2.1, e85]
    exact w3.nw
  · have z := tg_55 q t
    have w2 := wd.2 0
    rw [z.1.1, z.2.1] at w2
    have c1 : qN U (10000022 + 1) = 1 ∧ (qI U (10000022 + 1) 0).toInt = 74 := l1.2.2.2.2.2.2.1
    have w3 := (w2 (by rw [c1.1]; decide)).2.2.2.2 c1.2
    have z0 : plc (qI U (10000022 + 1)) 0 = 0 := rfl
    rw [z0, Int.add_zero] at w3
    refine ⟨by rw [sn, z.2.1, e85]; exact w3.1.nw, ?_⟩
    have y := w3.2.nw
    have sh : slF w (fN S).toNat ((f_first U (xS S)).toInt.toNat + 1) = (qJ V 45 (24 * (fN S).toNat + ((f_first U (xS S)).toInt.toNat + 1)), nb (plF S (fN S).toNat ((aT a).toInt - 1).toNat).2) := by
      unfold slF
      rw [w45, e45, if_neg (by omega), if_pos ⟨q, by omega⟩]
    rw [sh]
    rw [show (aT a).toInt - 2 + 1 = (aT a).toInt - 1 by omega] at y
    exact okV.no (by decide) (by decide) (by decide) (by decide) y.2.2.2.2
  · rw [sn, (tg_58 q t).2.1]
/-- a local grows -/
theorem InS.grow {S V U u : MS} {f s p : Nat} {a : AS} {v : Int32} (i : InS S V f U s p a) (ho : (f_op U (xS S)).toInt = 132) (eu : u = wJ V 45 (24 * fN S + (f_first U (xS S)).toInt).toNat v.toInt64) : PlQ S f 1 u := by
  obtain ⟨b0, b1, b2, b3, b4, L1, b5⟩ := i.v
  obtain ⟨kk, t, hx, st, hT, h0⟩ := i.t
  have l1 := tx_l1 t
  have hl := i.lc.1 (by omega)
  have nm : ¬ 0 < (f_moved U (f_op U (xS S))).toInt := fun z => by have := mv_iff.mp z; omega
  have gg := go_on (S := U) (o := f_op U (xS S)) (by omega)
  have z := tg_132 ho t
  have g0 : qN U (f_givesOf U (xS S) + 1) = 0 := by rw [z.1.2]; exact l1.2.2.2.2.2.2.2.2.2.2.2.1
  have k : frm [45] [] V u := by rw [eu]; exact frm.pJ (by decide)
  have e45 : ∀ j : Nat, qW u 45 j = if j = 24 * (fN S).toNat + (f_first U (xS S)).toInt.toNat then (v.toInt64, (qW V 45 j).2) else qW V 45 j := fun j => by
    have r47 : qI u 47 j = qI V 47 j := by rw [eu]; rfl
    unfold qW
    rw [show 45 + 2 = 47 from rfl, r47, eu, qJ_wJ]
    by_cases c : j = 24 * (fN S).toNat + (f_first U (xS S)).toInt.toNat
    · rw [if_pos ⟨rfl, by omega⟩, if_pos c]
    · rw [if_neg (fun q => c (by have := q.2; omega)), if_neg c]
  have L2 : LcP V u := ⟨k.mo (by decide) (by decide), fun j hj => ⟨by rw [(k.2.2.2.2.1 43 (by decide) (by decide)).1], by rw [(k.2.2.2.2.1 44 (by decide) (by decide)).1]⟩, fun j hj => ⟨by rw [b2] at hj; rw [e45, if_neg (by omega)], by rw [fW k (h := 46) (by decide) (by decide) (by decide)]⟩⟩
  refine PlQ.one (L2.b b1) (fun w G => ?_)
  have L := (L1.tr L2).tr (LcP.gt G)
  have en : fN u = fN S := by rw [L2.n.1, b2]
  have fr : frm [43, 44, 45, 46, 47, 48] [47, 48, 49, 50, 51, 52, 53, 54] S w := (i.2.1.mo (by decide) (by decide)).tr ((k.mo (by decide) (by decide)).tr (G.1.mo (by decide) (by decide)))
  obtain ⟨hA, hF, e85⟩ := i.af fr
  have e43 : qI w 43 (fN S).toNat = xS S + 1 := by rw [G.2, en]; unfold upd; rw [if_pos rfl]
  have e44 : qI w 44 = qI S 44 := by rw [(G.1.2.2.2.2.1 44 (by decide) (by decide)).1, (k.2.2.2.2.1 44 (by decide) (by decide)).1, (i.2.1.2.2.2.2.1 44 (by decide) (by decide)).1]
  have w45 : qW w 45 = qW u 45 := fW G.1 (h := 45) (by decide) (by decide) (by decide)
  have e46 : qW w 46 = qW S 46 := by rw [fW G.1 (h := 46) (by decide) (by decide) (by decide), fW k (h := 46) (by decide) (by decide) (by decide), fW i.2.1 (h := 46) (by decide) (by decide) (by decide)]
  have v45 : qW V 45 = qW S 45 := fW i.2.1 (h := 45) (by decide) (by decide) (by decide)
  have nx := i.nx gg
  refine i.go L hA hF (by rw [e85]; exact Int.le_refl _) nm (by rw [e43]; exact nx) ?_ (fun k2 hk2 hne _ => ?_) (fun q => by omega) (fun q => by omega) (fun q => ?_) (fun q => by omega) (fun k2 hk2 => by unfold plF; rw [e46]) (fun j hj => by omega)
  · rw [e44, z.2.1, z.2.2, i.2.2.2.1]
    omega
  · unfold slF
    rw [w45, e45, if_neg (by have := hne (Or.inr ho); omega), v45]
  · have a1 := (i.wd nm).1 (Or.inr ho)
    have okk := i.2.2.2.2.1.1 (f_first U (xS S)).toInt.toNat (by omega)
    have t1 := okk.t1.1 a1
    have e1 : aL a (f_first U (xS S)).toInt.toNat = nb 1 := Int32.toInt_inj.mp (by rw [a1]; decide)
    unfold slF at t1 ⊢
    rw [w45, e45, if_pos rfl, v45, e1]
    exact okV.i (i64_int v) t1
/-- a move -/
theorem InS.mvs {S V U u : MS} {f s p : Nat} {a : AS} (i : InS S V f U s p a) (ho : 0 < (f_moved U (f_op U (xS S))).toInt) (k : frm [44, 46, 48] [] V u) (eT : fT u = fT V - tkV U (xS S) + gvV U (xS S)) (o44 : ∀ j : Nat, j ≠ (fN V).toNat → qI u 44 j = qI V 44 j) (m : mvP (f_op U (xS S)) (fT V) (plF V (fN V).toNat) (plF u (fN V).toNat)) (lo : ∀ j : Nat, (j : Int) < 24 * fN V → qW u 46 j = qW V 46 j) : PlQ S f 1 u := by
  obtain ⟨b0, b1, b2, b3, b4, L1, b5⟩ := i.v
  have gg := go_on (S := U) (o := f_op U (xS S)) (by have := mv_iff.mp ho; omega)
  have L2 : LcP V u := ⟨k.mo (by decide) (by decide), fun j hj => ⟨by rw [(k.2.2.2.2.1 43 (by decide) (by decide)).1], o44 j hj⟩, fun j hj => ⟨by rw [fW k (h := 45) (by decide) (by decide) (by decide)], lo j hj⟩⟩
  refine PlQ.one (L2.b b1) (fun w G => ?_)
  have L := (L1.tr L2).tr (LcP.gt G)
  have eu : fN u = fN S := by rw [L2.n.1, b2]
  have fr : frm [43, 44, 45, 46, 47, 48] [47, 48, 49, 50, 51, 52, 53, 54] S w := (i.2.1.mo (by decide) (by decide)).tr ((k.mo (by decide) (by decide)).tr (G.1.mo (by decide) (by decide)))
  obtain ⟨hA, hF, e85⟩ := i.af fr
  have e43 : qI w 43 (fN S).toNat = xS S + 1 := by rw [G.2, eu]; unfold upd; rw [if_pos rfl]
  have e44 : qI w 44 = qI u 44 := (G.1.2.2.2.2.1 44 (by decide) (by decide)).1
  have e45 : qW w 45 = qW S 45 := by rw [fW G.1 (h := 45) (by decide) (by decide) (by decide), fW k (h := 45) (by decide) (by decide) (by decide), fW i.2.1 (h := 45) (by decide) (by decide) (by decide)]
  have e46 : qW w 46 = qW u 46 := fW G.1 (h := 46) (by decide) (by decide) (by decide)
  have v46 : qW V 46 = qW S 46 := fW i.2.1 (h := 46) (by decide) (by decide) (by decide)
  have nx := i.nx gg
  refine i.mv L hA hF (by rw [e85]) ho (by rw [e43]; exact nx) ?_ (fun k2 hk2 => by unfold slF; rw [e45]) ?_
  · rw [e44]
    rw [b4] at eT
    unfold fT at eT
    rw [eu] at eT
    exact eT
  · have x1 : plF V (fN V).toNat = plF S (fN S).toNat := by funext j; unfold plF; rw [v46, b2]
    have x2 : plF u (fN V).toNat = plF w (fN S).toNat := by funext j; unfold plF; rw [e46, b2]
    rw [x1, x2, b4] at m
    exact m
