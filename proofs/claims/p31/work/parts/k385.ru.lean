/-! run (behind sp_step, VmA.top, parL_v, sp_enter) -/
theorem McI.fr {S u : MS} {f : Nat} (h : McI S f) (k : frm [] [100] S u) : McI u f := by
  obtain ⟨b0, mb, ⟨hA, hF⟩, ⟨U, s, p, a, hU, eT, ok⟩, mid⟩ := h
  have kb := big_frm k (by decide)
  have e97 : qI u 0 97 = qI S 0 97 := (k.2.2.2.2.2 97 (by decide)).1
  have e85 : qI u 0 85 = qI S 0 85 := (k.2.2.2.2.2 85 (by decide)).1
  have n : fN u = fN S := by unfold fN; rw [e97]
  have h42 : qI u 42 = qI S 42 := (k.2.2.2.2.1 42 (by decide) (by decide)).1
  have h43 : qI u 43 = qI S 43 := (k.2.2.2.2.1 43 (by decide) (by decide)).1
  have h44 : qI u 44 = qI S 44 := (k.2.2.2.2.1 44 (by decide) (by decide)).1
  have h45 : qW u 45 = qW S 45 := fW k (h := 45) (by decide) (by decide) (by decide)
  have h46 : qW u 46 = qW S 46 := fW k (h := 46) (by decide) (by decide) (by decide)
  refine ⟨by unfold FrB; rw [e97]; exact b0, mb.fm k (by decide) (by decide), ⟨hA.eq e85 (k.2.2.2.2.2 86 (by decide)).1 (k.2.2.2.2.1 39 (by decide) (by decide)).1 (k.2.2.2.2.1 40 (by decide) (by decide)).1, hF.eq mb.1.1 kb (by rw [e85]; exact Int.le_refl _) (k.2.2.2.2.1 37 (by decide) (by decide)).2.1⟩, ?_, fun i hi => ?_⟩
  · rw [n, e85]
    refine ⟨U, s, p, a, hU.stay kb (by rw [h42]) (by rw [h43]), by rw [h44]; exact eT, ?_⟩
    have x1 : slF u (fN S).toNat = slF S (fN S).toNat := by funext j; unfold slF; rw [h45]
    have x2 : plF u (fN S).toNat = plF S (fN S).toNat := by funext j; unfold plF; rw [h46]
    rw [x1, x2]
    exact ok
  · rw [n] at hi
    rw [e85]
    exact (mid i hi).mv (Int.le_refl _) kb ⟨by rw [h42], by rw [h42]⟩ (by rw [h43]) (by rw [h44]) (fun k _ => by unfold slF; rw [h45]) (fun k _ => by unfold plF; rw [h46])
/-- what a run leaves -/
def RnP (f : Nat) (u : MS) : Prop := (McB u f ∧ ArI u ∧ FvI u f) ∧ (qI u 0 88).toInt = 0
theorem sp_run_L308 {f : Nat} {fuel : Int32} : ∀ (n : Nat) (U : MS), McQ f U → (qI U 0 88).toInt = 0 → (0 ≤ (qI U 0 100).toInt ∧ (qI U 0 100).toInt ≤ fuel.toInt) → ((0 ≤ (qI U 0 98).toInt ∧ 1 ≤ n) ∨ (fuel.toInt - (qI U 0 100).toInt).toNat + 2 ≤ n) → w_run_L308 (fun _ u => RnP f u) n U fuel := by
  intro n
  induction n with
  | zero => intro U _ _ _ h9; exact absurd h9 (by omega)
  | succ n ih =>
    intro U hq h88 hst hn
    unfold w_run_L308
    refine ⟨fun c => ⟨fun _ => ⟨hq.1, h88⟩, fun _ D eD => ?_⟩, fun c => ?_⟩
    · have k : frm [] [101] U D := by rw [eD]; exact frm.pJ0 (by decide)
      have e85 : qI D 0 85 = qI U 0 85 := (k.2.2.2.2.2 85 (by decide)).1
      exact ⟨⟨hq.1.1.fm k (by decide) (by decide), hq.1.2.1.eq e85 (k.2.2.2.2.2 86 (by decide)).1 (k.2.2.2.2.1 39 (by decide) (by decide)).1 (k.2.2.2.2.1 40 (by decide) (by decide)).1, hq.1.2.2.eq hq.1.1.1.1 (big_frm k (by decide)) (by rw [e85]; exact Int.le_refl _) (k.2.2.2.2.1 37 (by decide) (by decide)).2.1⟩, by rw [(k.2.2.2.2.2 88 (by decide)).1]; exact h88⟩
    · have hm : McI U f := by
        rcases hq.2 with q | q
        · exact absurd q c
        · exact q
      have hn2 : (fuel.toInt - (qI U 0 100).toInt).toNat + 2 ≤ n + 1 := by omega
      refine ⟨fun c1 D eD => ?_, fun c1 D eD => ?_⟩
      · have k : frm [] [98] U D := by rw [eD]; exact frm.pI0 (by decide)
        have e85 : qI D 0 85 = qI U 0 85 := (k.2.2.2.2.2 85 (by decide)).1
        have d98 : qI D 0 98 = 2 := by rw [eD, qI_wI, if_pos ⟨rfl, rfl⟩]
        have z : 0 ≤ (qI D 0 98).toInt := by rw [d98]; decide
        refine ih D ⟨⟨hq.1.1.fm k (by decide) (by decide), hq.1.2.1.eq e85 (k.2.2.2.2.2 86 (by decide)).1 (k.2.2.2.2.1 39 (by decide) (by decide)).1 (k.2.2.2.2.1 40 (by decide) (by decide)).1, hq.1.2.2.eq hq.1.1.1.1 (big_frm k (by decide)) (by rw [e85]; exact Int.le_refl _) (k.2.2.2.2.1 37 (by decide) (by decide)).2.1⟩, Or.inl z⟩ (by rw [(k.2.2.2.2.2 88 (by decide)).1]; exact h88) (by rw [(k.2.2.2.2.2 100 (by decide)).1]; exact hst) (Or.inl ⟨z, by omega⟩)
      · have k : frm [] [100] U D := by rw [eD]; exact frm.pI0 (by decide)
        have d100 : (qI D 0 100).toInt = (qI U 0 100).toInt + 1 := by
          have := fuel.toInt_lt
          rw [eD, qI_wI, if_pos ⟨rfl, rfl⟩, t_add (by rw [li_1]; omega), li_1]
        refine ⟨_, fr_step (sp_step (hm.fr k)), ?_⟩
        rintro E ⟨qE, fE⟩
        have e100 : (qI E 0 100).toInt = (qI U 0 100).toInt + 1 := by rw [(fE.2.2.2.2.2 100 (by decide)).1, d100]
        refine ih E qE ?_ (by omega) (Or.inr (by omega))
        rw [(fE.2.2.2.2.2 88 (by decide)).1, (k.2.2.2.2.2 88 (by decide)).1]
        exact h88
theorem w_run_mono {P Q : Int32 → MS → Prop} {n : Nat} {U : MS} {x : Int32} (h : w_run_L308 P n U x) (k : ∀ r u, P r u → Q r u) : w_run_L308 Q n U x := by
  revert U
  induction n with
  | zero => intro U h; exact h
  | succ n ih =>
    intro U h
    unfold w_run_L308 at h ⊢
    refine ⟨fun c => ⟨fun c1 => k _ _ ((h.1 c).1 c1), fun c1 D eD => k _ _ ((h.1 c).2 c1 D eD)⟩, fun c => ⟨fun c1 D eD => ih ((h.2 c).1 c1 D eD), fun c1 D eD => ?_⟩⟩
    obtain ⟨Q1, a, b⟩ := (h.2 c).2 c1 D eD
    exact ⟨Q1, a, fun E hE => ih (b E hE)⟩
theorem sp_run {S : MS} {m fuel : Int32} (hS : qR S 0 80 = none ∨ ∃ f : Nat, McB S f ∧ FvI S f) (hA : ArI S) (h96 : qI S 0 96 = 0) (h88 : 0 ≤ (qI S 0 88).toInt ∧ (qI S 0 88).toInt ≤ 8) : w_run S m fuel (fun _ u => (qR u 0 80 = none ∨ ∃ f : Nat, McB u f ∧ FvI u f) ∧ ArI u ∧ (qI u 0 88).toInt = 0 ∧ qI u 0 96 = 0) := by
  unfold w_run
  intro a1 e1 A eA
  have kA : frm [] [88] S A := by rw [eA]; exact frm.pI0 (by decide)
  have a88 : (qI A 0 88).toInt = 0 := by rw [eA, qI_wI, if_pos ⟨rfl, rfl⟩]; rfl
  have a96 : qI A 0 96 = 0 := by rw [(kA.2.2.2.2.2 96 (by decide)).1]; exact h96
  have a85 : qI A 0 85 = qI S 0 85 := (kA.2.2.2.2.2 85 (by decide)).1
  have aA : ArI A := hA.eq a85 (kA.2.2.2.2.2 86 (by decide)).1 (kA.2.2.2.2.1 39 (by decide) (by decide)).1 (kA.2.2.2.2.1 40 (by decide) (by decide)).1
  have A80 : qR A 0 80 = qR S 0 80 := (kA.2.2.2.2.2 80 (by decide)).2.2
  rcases hS with h0 | ⟨f, hB, hF⟩
  · exact ⟨fun _ => ⟨Or.inl (by rw [A80]; exact h0), aA, a88, a96⟩, fun c => absurd (by rw [A80]; exact h0) c⟩
  · have bA := hB.fm kA (by decide) (by decide)
    have fA : FvI A f := hF.eq hB.1.1 (big_frm kA (by decide)) (by rw [a85]; exact Int.le_refl _) (kA.2.2.2.2.1 37 (by decide) (by decide)).2.1
    have good : (qR A 0 80 = none ∨ ∃ f : Nat, McB A f ∧ FvI A f) ∧ ArI A ∧ (qI A 0 88).toInt = 0 ∧ qI A 0 96 = 0 := ⟨Or.inr ⟨f, bA, fA⟩, aA, a88, a96⟩
    obtain ⟨⟨f92, q80⟩, fl, vf, tx⟩ := bA
    have o80 : qO A 0 80 = f := by unfold qO; rw [q80]; rfl
    have r5 := fl.1.2.2 5 (by decide)
    have q10 : qR A f 10 = some (f + 6) := r5.1
    have o10 : qO A f 10 = f + 6 := by unfold qO; rw [q10]; rfl
    have n6 : qN A (f + 6) = 24 := r5.2.1
    have m24 := fl.2.2.2.1.2.2
    rw [o80, o10]
    refine ⟨fun c => by rw [q80] at c; exact absurd c (by simp), fun _ => ⟨fun _ => good, fun c0 => ⟨q80, fun c1 => ?_, fun _ => good⟩⟩⟩
    have vm := vf.2.2 m.toInt.toNat (by omega)
    -- the method's text
    obtain ⟨R, T, C, nc, ts, cn, -, -, -, -, -, r6⟩ := fl.2.2.2.2.2
    obtain ⟨⟨pl, ⟨t1, t2, t3, t4, -, -, sb, -, -, -, u3, -, -, -, ⟨p8, n', g', sI, pe, ls, n8⟩, -⟩, -⟩, -⟩ := r6 m.toInt.toNat (by omega)
    have o6 : qO A (f + 6) m.toInt.toNat = t3 := by unfold qO; rw [u3]; rfl
    have eN : qN A (t3 + 1) = n' := sI.2.2.1
    have eL : ∀ j : Nat, j < n' → qI A (t3 + 1) j = g' j := sI.2.2.2
    have pe' : plc (qI A (t3 + 1)) n' ≤ 8 := by rw [plc_eq n' eL, pe]; exact p8
    rw [o6, eN, oN (by omega)]
    refine ⟨q80, q10, ⟨by omega, by rw [n6]; omega⟩, u3, fun c2 => ?_, fun _ => good⟩
    have cA : ∀ (W : MS) (k : Int32), qI W (t3 + 1) = qI A (t3 + 1) → 0 ≤ k.toInt → k.toInt.toNat < n' → cAt W t3 k = g' k.toInt.toNat := fun W k eW k0 k1 => by
      have l := ls _ k1
      unfold cAt
      rw [eW, eL _ k1]
      exact (asc (by omega) (by omega)).2.2
    -- the machine is begun
    have beg : (∀ j : Nat, j < n' → (g' j).toInt = 65 → 0 ≤ (qJ A 41 j).toInt ∧ (qJ A 41 j).toInt ≤ (qI A 0 85).toInt) → 0 ≤ fuel.toInt → (∀ S21, S21 = wI A 0 97 0 → (∀ S22, S22 = wI S21 0 98 (-1) → (∀ S23, S23 = wI S22 0 102 (-1) → (∀ S24, S24 = wJ S23 0 101 0 → (∀ S25, S25 = wI S24 0 100 0 → (∃ Q26, w_enter S25 m Q26 ∧ ∀ S27, Q26 S27 → (∃ n, w_run_L165 (fun _ u => (qR u 0 80 = none ∨ ∃ f : Nat, McB u f ∧ FvI u f) ∧ ArI u ∧ (qI u 0 88).toInt = 0 ∧ qI u 0 96 = 0) n S27 fuel a1 t3 0 0))))))) := fun hargs f0 B eB D eD E eE F eF G eG => by
      have kG : frm [] [97, 98, 100, 101, 102] A G := (show frm [] [97, 98, 100, 101, 102] A B by rw [eB]; exact frm.pI0 (by decide)).tr ((show frm [] [97, 98, 100, 101, 102] B D by rw [eD]; exact frm.pI0 (by decide)).tr ((show frm [] [97, 98, 100, 101, 102] D E by rw [eE]; exact frm.pI0 (by decide)).tr ((show frm [] [97, 98, 100, 101, 102] E F by rw [eF]; exact frm.pJ0 (by decide)).tr (by rw [eG]; exact frm.pI0 (by decide)))))
      have g97 : (qI G 0 97).toInt = 0 := by
        rw [eG, qI_wI, if_neg (by decide), eF, qI_wJ, eE, qI_wI, if_neg (by decide), eD, qI_wI, if_neg (by decide), eB, qI_wI, if_pos ⟨rfl, rfl⟩]
        rfl
      have g98 : (qI G 0 98).toInt = -1 := by
        rw [eG, qI_wI, if_neg (by decide), eF, qI_wJ, eE, qI_wI, if_neg (by decide), eD, qI_wI, if_pos ⟨rfl, rfl⟩]
        rfl
      have g100 : (qI G 0 100).toInt = 0 := by
        rw [eG, qI_wI, if_pos ⟨rfl, rfl⟩]
        rfl
      refine ⟨_, sp_enter (m := m) (by rw [g97]; decide), ?_⟩
      rintro H ⟨fH, c97, c42, c43, c44, c45⟩
      rw [g97] at c97 c42 c43 c44 c45
      have kH : frm [42, 43, 44, 45, 47] [97, 98, 100, 101, 102] A H := (kG.mo (by decide) (by decide)).tr (fH.mo (by decide) (by decide))
      have h98 : (qI H 0 98).toInt = -1 := by rw [(fH.2.2.2.2.2 98 (by decide)).1]; exact g98
      have h100 : (qI H 0 100).toInt = 0 := by rw [(fH.2.2.2.2.2 100 (by decide)).1]; exact g100
      have L : ∀ (c : Nat) (X : MS) (at_ k : Int32), frm [45, 47] [] H X → (0 ≤ k.toInt ∧ k.toInt ≤ n') → at_.toInt = plc (qI A (t3 + 1)) k.toInt.toNat → (∀ i : Nat, (i : Int) < k.toInt → agV (qI A 0 85).toInt (qI A (t3 + 1) i) (qW X 45 (plc (qI A (t3 + 1)) i).toNat) (qW X 45 ((plc (qI A (t3 + 1)) i).toNat + 1))) → (n' - k.toInt).toNat < c → w_run_L165 (fun _ u => (qR u 0 80 = none ∨ ∃ f : Nat, McB u f ∧ FvI u f) ∧ ArI u ∧ (qI u 0 88).toInt = 0 ∧ qI u 0 96 = 0) c X fuel a1 t3 at_ k := by
        intro c
        induction c with
        | zero => intro X at_ k _ _ _ _ h9; exact absurd h9 (Nat.not_lt_zero _)
        | succ c ih =>
          intro X at_ k fX hk hat hv hc
          have kX : frm [42, 43, 44, 45, 47] [97, 98, 100, 101, 102] A X := kH.tr (fX.mo (by decide) (by decide))
          have kb := big_frm kX (by decide)
          have x85 : qI X 0 85 = qI A 0 85 := (kX.2.2.2.2.2 85 (by decide)).1
          have xt := kb (t3 + 1) (by omega)
          have ek : (k + Int32.ofInt 1).toInt = k.toInt + 1 := by rw [t_add (by rw [lo_1]; omega), lo_1]
          unfold w_run_L165
          rw [c2]
          refine ⟨fun z => ?_, fun z => ?_⟩
          · have ekn : k.toInt.toNat = n' := by omega
            have x97 : (qI X 0 97).toInt = 1 := by rw [(fX.2.2.2.2.2 97 (by decide)).1, c97]; rfl
            have bX : FrB X := ⟨by omega, by omega⟩
            have nX : fN X = 0 := by unfold fN; omega
            have mX := (show McB A f from ⟨⟨f92, q80⟩, fl, vf, tx⟩).fm kX (by decide) (by decide)
            have aX : ArI X := aA.eq x85 (kX.2.2.2.2.2 86 (by decide)).1 (kX.2.2.2.2.1 39 (by decide) (by decide)).1 (kX.2.2.2.2.1 40 (by decide) (by decide)).1
            have vX : FvI X f := fA.eq f92 kb (by rw [x85]; exact Int.le_refl _) (kX.2.2.2.2.1 37 (by decide) (by decide)).2.1
            have X42 : qI X 42 0 = m := by rw [(fX.2.2.2.2.1 42 (by decide) (by decide)).1, c42]; unfold upd; exact if_pos rfl
            have X43 : qI X 43 0 = 0 := by rw [(fX.2.2.2.2.1 43 (by decide) (by decide)).1, c43]; unfold upd; exact if_pos rfl
            have X44 : qI X 44 0 = 0 := by rw [(fX.2.2.2.2.1 44 (by decide) (by decide)).1, c44]; unfold upd; exact if_pos rfl
            have iX : McI X f := by
              refine ⟨bX, mX, ⟨aX, vX⟩, ?_, fun j hj => by omega⟩
              rw [nX]
              show FrTop X f 0 _
              refine vm.top f92 aX.1.1 kb ⟨by rw [X42], by rw [X42]; omega⟩ X43 X44 (fun s2 hs2 k2 hk2 => ?_)
              rw [u3] at hs2
              have es2 : t3 = s2 := by injection hs2
              subst es2
              rw [eN]
              have x0 : slF X 0 = fun j => qW X 45 j := by funext j; unfold slF; rw [show 24 * 0 + j = j by omega]
              rw [x0, x85]
              exact parL_v (v := fun j => qW X 45 j) n' (fun i hi => hv i (by omega)) k2
            have x88 : (qI X 0 88).toInt = 0 := by rw [(kX.2.2.2.2.2 88 (by decide)).1]; exact a88
            have x100 : (qI X 0 100).toInt = 0 := by rw [(fX.2.2.2.2.2 100 (by decide)).1]; exact h100
            refine ⟨_, w_run_mono (sp_run_L308 (f := f) (fuel := fuel) _ X iX.q x88 (by omega) (Or.inr (Nat.le_refl _))) (fun r u hu => ⟨Or.inr ⟨f, hu.1.1, hu.1.2.2⟩, hu.1.2.1, hu.2, hu.1.1.2.2.2.2⟩)⟩
          · have kn : k.toInt.toNat < n' := by omega
            have l := ls _ kn
            have eg := eL _ kn
            have at8 := plc_lt (g := qI A (t3 + 1)) kn
            have at0 := plc_ge (g := qI A (t3 + 1)) k.toInt.toNat
            have pk : plc (qI A (t3 + 1)) (k.toInt.toNat + 1) = plc (qI A (t3 + 1)) k.toInt.toNat + if (qI A (t3 + 1) k.toInt.toNat).toInt = 74 then 2 else 1 := rfl
            have pk8 : plc (qI A (t3 + 1)) (k.toInt.toNat + 1) ≤ 8 := by
              by_cases y : k.toInt.toNat + 1 = n'
              · rw [y]; exact pe'
              · have := plc_lt (g := qI A (t3 + 1)) (show k.toInt.toNat + 1 < n' by omega); omega
            have qX : qN X (t3 + 1) = n' := by rw [xt.2.2.2.2]; exact eN
            have j299 : ∀ (Y : MS) (t : Int32), frm [45, 47] [] H Y → (∀ i : Nat, (i : Int) < k.toInt + 1 → agV (qI A 0 85).toInt (qI A (t3 + 1) i) (qW Y 45 (plc (qI A (t3 + 1)) i).toNat) (qW Y 45 ((plc (qI A (t3 + 1)) i).toNat + 1))) → t.toInt = (if (qI A (t3 + 1) k.toInt.toNat).toInt = 74 then 2 else 1) → w_run_J299 (fun _ u => (qR u 0 80 = none ∨ ∃ f : Nat, McB u f ∧ FvI u f) ∧ ArI u ∧ (qI u 0 88).toInt = 0 ∧ qI u 0 96 = 0) (w_run_L165 (fun _ u => (qR u 0 80 = none ∨ ∃ f : Nat, McB u f ∧ FvI u f) ∧ ArI u ∧ (qI u 0 88).toInt = 0 ∧ qI u 0 96 = 0) c) Y t at_ fuel a1 t3 k := fun Y t fY hY et => by
              unfold w_run_J299
              intro a53 e53 a54 e54
              subst e54
              have t2 : 1 ≤ t.toInt ∧ t.toInt ≤ 2 := by rw [et]; split <;> omega
              refine ih Y a53 _ fY ⟨by omega, by omega⟩ ?_ (fun i hi => hY i (by omega)) (by omega)
              rw [e53, t_add (by omega), hat, et, ek, show (k.toInt + 1).toNat = k.toInt.toNat + 1 by omega, pk]
            have j280 : ∀ Y : MS, frm [45, 47] [] H Y → (∀ i : Nat, (i : Int) < k.toInt + 1 → agV (qI A 0 85).toInt (qI A (t3 + 1) i) (qW Y 45 (plc (qI A (t3 + 1)) i).toNat) (qW Y 45 ((plc (qI A (t3 + 1)) i).toNat + 1))) → w_run_J280 (fun _ u => (qR u 0 80 = none ∨ ∃ f : Nat, McB u f ∧ FvI u f) ∧ ArI u ∧ (qI u 0 88).toInt = 0 ∧ qI u 0 96 = 0) (w_run_L165 (fun _ u => (qR u 0 80 = none ∨ ∃ f : Nat, McB u f ∧ FvI u f) ∧ ArI u ∧ (qI u 0 88).toInt = 0 ∧ qI u 0 96 = 0) c) Y fuel a1 t3 at_ k := fun Y fY hY => by
              have yt := big_frm (kH.tr (fY.mo (by decide) (by decide))) (by decide) (t3 + 1) (by omega)
              unfold w_run_J280
              rw [yt.2.2.2.2, eN, cA Y k yt.1 hk.1 kn]
              refine ⟨⟨hk.1, by omega⟩, fun q => j299 Y 2 fY hY ?_, fun q => j299 Y 1 fY hY ?_⟩
              · rw [eg, if_pos q]; decide
              · rw [eg, if_neg q]; decide
            have l1 : (1 : Int32).toInt = 1 := li_1
            have oldW : ∀ B : MS, (∀ j : Nat, j < at_.toInt.toNat → qW B 45 j = qW X 45 j) → ∀ i : Nat, (i : Int) < k.toInt → agV (qI A 0 85).toInt (qI A (t3 + 1) i) (qW B 45 (plc (qI A (t3 + 1)) i).toNat) (qW B 45 ((plc (qI A (t3 + 1)) i).toNat + 1)) := fun B hB i hi => by
              have h0 := hv i hi
              have lt := plc_lt (g := qI A (t3 + 1)) (show i < k.toInt.toNat by omega)
              have i0 := plc_ge (g := qI A (t3 + 1)) i
              refine ⟨fun q => by rw [hB _ (by omega)]; exact h0.1 q, fun q => ?_, fun q1 q2 => by rw [hB _ (by omega)]; exact h0.2.2 q1 q2⟩
              have pl2 : plc (qI A (t3 + 1)) (i + 1) = plc (qI A (t3 + 1)) i + 2 := by
                show plc (qI A (t3 + 1)) i + (if (qI A (t3 + 1) i).toInt = 74 then (2 : Int) else 1) = _
                rw [if_pos q]
              have pl3 : plc (qI A (t3 + 1)) (i + 1) ≤ plc (qI A (t3 + 1)) k.toInt.toNat := by
                by_cases y : i + 1 = k.toInt.toNat
                · rw [y]; exact Int.le_refl _
                · have := plc_lt (g := qI A (t3 + 1)) (show i + 1 < k.toInt.toNat by omega); omega
              rw [hB _ (by omega), hB _ (by omega)]
              exact h0.2.1 q
            have j257 : ∀ (Y : MS) (g : Int32) (v : Int64), Y = wJ X 45 at_.toInt.toNat v → frm [45, 47] [] H Y → ((qI A (t3 + 1) k.toInt.toNat).toInt = 73 → okV (qI A 0 85).toInt (nb 1) (v, nb g)) → ((qI A (t3 + 1) k.toInt.toNat).toInt = 74 → okV (qI A 0 85).toInt (nb 2) (v, nb g)) → (¬ (qI A (t3 + 1) k.toInt.toNat).toInt = 73 → ¬ (qI A (t3 + 1) k.toInt.toNat).toInt = 74 → okV (qI A 0 85).toInt (nb 4) (v, nb g)) → w_run_J257 (fun _ u => (qR u 0 80 = none ∨ ∃ f : Nat, McB u f ∧ FvI u f) ∧ ArI u ∧ (qI u 0 88).toInt = 0 ∧ qI u 0 96 = 0) (w_run_L165 (fun _ u => (qR u 0 80 = none ∨ ∃ f : Nat, McB u f ∧ FvI u f) ∧ ArI u ∧ (qI u 0 88).toInt = 0 ∧ qI u 0 96 = 0) c) Y g at_ fuel a1 t3 at_ k := fun Y g v eY fY o73 o74 o65 => by
              unfold w_run_J257
              refine ⟨⟨by omega, by omega⟩, fun Z eZ => ?_⟩
              have fZ : frm [45, 47] [] H Z := fY.tr (by rw [eZ]; exact frm.pI (by decide))
              have zI : ∀ j : Nat, qI Z 47 j = if j = at_.toInt.toNat then nb g else qI X 47 j := fun j => by
                rw [eZ, qI_wI]
                by_cases e : j = at_.toInt.toNat
                · rw [if_pos e, if_pos ⟨rfl, e⟩]; rfl
                · rw [if_neg e, if_neg (fun q => e q.2), eY]; rfl
              have zJ : ∀ j : Nat, qJ Z 45 j = if j = at_.toInt.toNat then v else qJ X 45 j := fun j => by
                rw [eZ, qJ_wI, eY, qJ_wJ]
                by_cases e : j = at_.toInt.toNat
                · rw [if_pos e, if_pos ⟨rfl, e⟩]
                · rw [if_neg e, if_neg (fun q => e q.2)]
              have zW : ∀ j : Nat, qW Z 45 j = if j = at_.toInt.toNat then (v, nb g) else qW X 45 j := fun j => by
                unfold qW
                rw [zJ, show 45 + 2 = 47 from rfl, zI]
                split <;> rfl
              have zt := big_frm (kH.tr (fZ.mo (by decide) (by decide))) (by decide) (t3 + 1) (by omega)
              rw [zt.2.2.2.2, eN, cA Z k zt.1 hk.1 kn]
              have a1e : (at_ + (1 : Int32)).toInt = at_.toInt + 1 := by rw [t_add (by rw [li_1]; omega), li_1]
              refine ⟨⟨hk.1, by omega⟩, fun q => ⟨⟨by omega, by omega⟩, fun Z2 eZ2 => ?_⟩, fun q => j280 Z fZ (fun i hi => ?_)⟩
              · have z2W : ∀ j : Nat, qW Z2 45 j = if j = at_.toInt.toNat + 1 then (qJ Z 45 j, nb 3) else qW Z 45 j := fun j => by
                  have z2I : qI Z2 47 j = if j = at_.toInt.toNat + 1 then nb 3 else qI Z 47 j := by
                    rw [eZ2, qI_wI]
                    by_cases e : j = at_.toInt.toNat + 1
                    · rw [if_pos e, if_pos ⟨rfl, by omega⟩]; rfl
                    · rw [if_neg e, if_neg (fun q => e (by have := q.2; omega))]
                  have z2J : qJ Z2 45 j = qJ Z 45 j := by rw [eZ2, qJ_wI]
                  unfold qW
                  rw [z2J, show 45 + 2 = 47 from rfl, z2I]
                  split <;> rfl
                refine j280 Z2 (fZ.tr (by rw [eZ2]; exact frm.pI (by decide))) (fun i hi => ?_)
                by_cases e : i = k.toInt.toNat
                · subst e
                  have q74 : (qI A (t3 + 1) k.toInt.toNat).toInt = 74 := by rw [eg]; exact q
                  rw [← hat, z2W, if_neg (by omega), zW, if_pos rfl, z2W, if_pos rfl]
                  exact ⟨fun y => by omega, fun _ => ⟨o74 q74, okV.no (by decide) (by decide) (by decide) (by decide) (Or.inl rfl)⟩, fun _ y => absurd q74 y⟩
                · exact oldW Z2 (fun j hj => by rw [z2W, if_neg (by omega), zW, if_neg (by omega)]) i (by omega)
              · by_cases e : i = k.toInt.toNat
                · subst e
                  have n74 : ¬ (qI A (t3 + 1) k.toInt.toNat).toInt = 74 := by rw [eg]; exact q
                  rw [← hat, zW, if_pos rfl]
                  exact ⟨o73, fun y => absurd y n74, o65⟩
                · exact oldW Z (fun j hj => by rw [zW, if_neg (by omega)]) i (by omega)
            have j208 : ∀ v : Int64, ((qI A (t3 + 1) k.toInt.toNat).toInt = 73 → -2147483648 ≤ v.toInt ∧ v.toInt ≤ 2147483647) → (¬ (qI A (t3 + 1) k.toInt.toNat).toInt = 73 → v = qJ X 41 k.toInt.toNat) → (¬ (qI A (t3 + 1) k.toInt.toNat).toInt = 73 → ¬ (qI A (t3 + 1) k.toInt.toNat).toInt = 74 → 0 ≤ v.toInt ∧ v.toInt ≤ (qI A 0 85).toInt) → w_run_J208 (fun _ u => (qR u 0 80 = none ∨ ∃ f : Nat, McB u f ∧ FvI u f) ∧ ArI u ∧ (qI u 0 88).toInt = 0 ∧ qI u 0 96 = 0) (w_run_L165 (fun _ u => (qR u 0 80 = none ∨ ∃ f : Nat, McB u f ∧ FvI u f) ∧ ArI u ∧ (qI u 0 88).toInt = 0 ∧ qI u 0 96 = 0) c) X v at_ fuel a1 t3 at_ k := fun v v1 vx v2 => by
              unfold w_run_J208
              refine ⟨⟨by omega, by omega⟩, fun Y eY => ?_⟩
              have fY : frm [45, 47] [] H Y := fX.tr (by rw [eY]; exact frm.pJ (by decide))
              have yt := big_frm (kH.tr (fY.mo (by decide) (by decide))) (by decide) (t3 + 1) (by omega)
              rw [yt.2.2.2.2, eN, cA Y k yt.1 hk.1 kn]
              refine ⟨⟨hk.1, by omega⟩, fun q => j257 Y _ v eY fY (fun y => okV.i (v1 y) nb1v) (fun y => by rw [eg] at y; omega) (fun y => by rw [eg] at y; exact absurd q y), fun q => ⟨⟨hk.1, by omega⟩, fun q2 => j257 Y _ v eY fY (fun y => by rw [eg] at y; exact absurd y q) (fun _ => okV.z2 (show (nb 2).toInt = 2 by decide)) (fun _ y => by rw [eg] at y; exact absurd q2 y), fun q2 => ⟨⟨hk.1, by omega⟩, ?_, j257 Y _ v eY fY (fun y => by rw [eg] at y; exact absurd y q) (fun y => by rw [eg] at y; exact absurd y q2) (fun y1 y2 => ?_)⟩⟩⟩
              · unfold d_thingTag
                trivial
              · have ew : qJ Y 41 k.toInt.toNat = v := by
                  rw [vx y1, eY, qJ_wJ, if_neg (fun z => absurd z.1 (by decide))]
                rw [ew]
                have pv := v2 y1 y2
                exact okV.a pv (by show (nb (f_thingTag Y v)).toInt = 4 ∨ (nb (f_thingTag Y v)).toInt = 6; rw [tt_f (n := 1) (by decide)]; exact ptT_4 (by decide) pv.1)
            have X41 : qJ X 41 = qJ A 41 := (kX.2.2.2.2.1 41 (by decide) (by decide)).2.1
            rw [qX, cA X k xt.1 hk.1 kn]
            refine ⟨⟨hk.1, by omega⟩, fun q => ⟨⟨hk.1, by omega⟩, j208 _ (fun _ => i64_int _) (fun y => by rw [eg] at y; exact absurd q y) (fun y => by rw [eg] at y; exact absurd q y)⟩, fun q => ⟨⟨hk.1, by omega⟩, j208 _ (fun y => by rw [eg] at y; exact absurd y q) (fun _ => rfl) (fun y1 y2 => ?_)⟩⟩
            rw [eg] at y1 y2
            rw [X41]
            exact hargs _ kn (by omega)
      have l0 : (0 : Int32).toInt = 0 := rfl
      exact ⟨_, L _ H 0 0 frm.rf ⟨by decide, by rw [l0]; omega⟩ rfl (fun i hi => by rw [l0] at hi; omega) (Nat.lt_succ_self _)⟩
    have L60 : ∀ (c : Nat) (k : Int32), (0 ≤ k.toInt ∧ k.toInt ≤ n') → (∀ j : Nat, (j : Int) < k.toInt → (g' j).toInt = 65 → 0 ≤ (qJ A 41 j).toInt ∧ (qJ A 41 j).toInt ≤ (qI A 0 85).toInt) → (n' - k.toInt).toNat < c → w_run_L60 (fun _ u => (qR u 0 80 = none ∨ ∃ f : Nat, McB u f ∧ FvI u f) ∧ ArI u ∧ (qI u 0 88).toInt = 0 ∧ qI u 0 96 = 0) c A m fuel a1 t3 k := by
      intro c
      induction c with
      | zero => intro k _ _ h9; exact absurd h9 (Nat.not_lt_zero _)
      | succ c ih =>
        intro k hk hv hc
        have ek : (k + Int32.ofInt 1).toInt = k.toInt + 1 := by rw [t_add (by rw [lo_1]; omega), lo_1]
        unfold w_run_L60 w_run_J109
        rw [c2]
        refine ⟨fun z => ⟨fun _ => good, fun f0 => ⟨fun _ => beg (fun j hj => hv j (by omega)) (by omega), fun _ => good⟩⟩, fun z => ?_⟩
        have kn : k.toInt.toNat < n' := by omega
        rw [eN, cA A k rfl hk.1 kn]
        have nxt : ((g' k.toInt.toNat).toInt = 65 → 0 ≤ (qJ A 41 k.toInt.toNat).toInt ∧ (qJ A 41 k.toInt.toNat).toInt ≤ (qI A 0 85).toInt) → ∀ a76 : Int32, a76 = (k + Int32.ofInt 1) → w_run_L60 (fun _ u => (qR u 0 80 = none ∨ ∃ f : Nat, McB u f ∧ FvI u f) ∧ ArI u ∧ (qI u 0 88).toInt = 0 ∧ qI u 0 96 = 0) c A m fuel a1 t3 a76 := fun hq a76 e76 => by
          subst e76
          refine ih _ ⟨by omega, by omega⟩ (fun j hj => ?_) (by omega)
          by_cases e : j = k.toInt.toNat
          · rw [e]; exact hq
          · exact hv j (by omega)
        have l0 : (0 : Int64).toInt = 0 := by decide
        have x1 := c_cmp (x := qJ A 41 k.toInt.toNat) (y := (0 : Int64))
        have x2 := c_cmp (x := qJ A 41 k.toInt.toNat) (y := (qI A 0 85).toInt64)
        rw [l0] at x1
        rw [tl_of] at x2
        refine ⟨⟨hk.1, by omega⟩, fun q => ⟨⟨hk.1, by omega⟩, fun _ => good, fun y1 => ⟨⟨hk.1, by omega⟩, fun y2 => nxt (fun _ => ⟨by omega, by omega⟩), fun _ => good⟩⟩, fun q => nxt (fun y => absurd y q)⟩
    have l0 : (0 : Int32).toInt = 0 := rfl
    exact ⟨_, L60 _ 0 ⟨by decide, by rw [l0]; omega⟩ (fun j hj => by rw [l0] at hj; omega) (Nat.lt_succ_self _)⟩
/-! the graph: what is reached (behind sumN_upd, frm) -/
def zc (g : Nat → Int32) (n : Nat) : Nat := sumN (fun j => if (g j).toInt = 0 then 1 else 0) n
theorem zc_set {S : MS} {h i n : Nat} {v : Int32} (hi : i < n) (hv : ¬ v.toInt = 0) : zc (qI (wI S h i v) h) n ≤ zc (qI S h) n ∧ ((qI S h i).toInt = 0 → zc (qI (wI S h i v) h) n < zc (qI S h) n) := by
  have u := sumN_upd (g := fun j => if (qI S h j).toInt = 0 then 1 else 0) (g' := fun j => if (qI (wI S h i v) h j).toInt = 0 then 1 else 0) (i := i) (fun j hj => by
    show (if (qI (wI S h i v) h j).toInt = 0 then 1 else 0) = (if (qI S h j).toInt = 0 then 1 else 0)
    have e1 : qI (wI S h i v) h j = qI S h j := by rw [qI_wI, if_neg (fun q => hj q.2)]
    rw [e1]) n hi
  have e2 : qI (wI S h i v) h i = v := by rw [qI_wI, if_pos ⟨rfl, rfl⟩]
  have e : (if (qI (wI S h i v) h i).toInt = 0 then 1 else 0) = 0 := by rw [e2]; exact if_neg hv
  have u' : zc (qI (wI S h i v) h) n + (if (qI S h i).toInt = 0 then 1 else 0) = zc (qI S h) n + (if (qI (wI S h i v) h i).toInt = 0 then 1 else 0) := u
  rw [e] at u'
  constructor
  · split at u' <;> omega
  · intro q
    rw [if_pos q] at u'
    omega
/-- the edges are there -/
def GeI (S : MS) : Prop := (0 ≤ (qI S 0 105).toInt ∧ (qI S 0 105).toInt ≤ 1200) ∧ (0 ≤ (qI S 0 110).toInt ∧ (qI S 0 110).toInt ≤ 24000) ∧ (∀ b : Nat, (b : Int) ≤ (qI S 0 105).toInt → 0 ≤ (qI S 51 b).toInt ∧ (qI S 51 b).toInt ≤ (qI S 0 110).toInt) ∧ ∀ k : Nat, (k : Int) < (qI S 0 110).toInt → 0 ≤ (qI S 52 k).toInt ∧ (qI S 52 k).toInt < (qI S 0 105).toInt
theorem GeI.fm {S u : MS} {W J : List Nat} (h : GeI S) (k : frm W J S u) (h1 : 51 ∉ W) (h2 : 52 ∉ W) (h3 : 105 ∉ J) (h4 : 110 ∉ J) : GeI u := by
  unfold GeI
  rw [(k.2.2.2.2.1 51 (by decide) h1).1, (k.2.2.2.2.1 52 (by decide) h2).1, (k.2.2.2.2.2 105 h3).1, (k.2.2.2.2.2 110 h4).1]
  exact h
theorem vb1 : ¬ (vp_nar .boolean (1 : Int32)).toInt = 0 := by decide
def rcN (S : MS) : Nat := zc (qI S 53) (qI S 0 105).toInt.toNat
/-- a round of reach so far -/
def RcR (S0 U : MS) (m : Int32) : Prop := frm [53] [] S0 U ∧ rcN U ≤ rcN S0 ∧ (¬ m.toInt = 0 → rcN U < rcN S0)
/-! dominators and loops (behind GeI, zc_set) -/
theorem dv32 {x : Int32} (h : 0 ≤ x.toInt ∧ x.toInt < 1200) : (x / (32 : Int32)).toInt = x.toInt / 32 := by
  have l : (32 : Int32).toInt = 32 := by decide
  rw [Int32.toInt_div, l, Int.tdiv_eq_ediv_of_nonneg h.1, Int.bmod_def]
  omega
theorem d_dom {S : MS} {x y : Int32} (hx : 0 ≤ x.toInt ∧ x.toInt < 1200) (hy : 0 ≤ y.toInt ∧ y.toInt < 1200) : d_dominates S x y := by
  have l : (38 : Int32).toInt = 38 := by decide
  have e1 : ((38 : Int32) * y).toInt = 38 * y.toInt := by rw [t_mul (by rw [l]; omega), l]
  have e2 := dv32 hx
  have e3 : ((38 : Int32) * y + x / (32 : Int32)).toInt = 38 * y.toInt + x.toInt / 32 := by rw [t_add (by rw [e1, e2]; omega), e1, e2]
  unfold d_dominates
  rw [e3]
  exact ⟨⟨by omega, by omega⟩, trivial⟩
def MbN (S : MS) : Nat := sumN (fun j => (qI S 54 j).toBitVec.toNat) 45600
theorem and_le {a b : Int32} : (a &&& b).toBitVec.toNat ≤ a.toBitVec.toNat := by
  rw [Int32.toBitVec_and, BitVec.toNat_and]
  exact Nat.and_le_left
theorem Mb_set {S : MS} {i : Nat} {b : Int32} (hi : i < 45600) : MbN (wI S 54 i (qI S 54 i &&& b)) ≤ MbN S ∧ (¬ (qI S 54 i &&& b).toInt = (qI S 54 i).toInt → MbN (wI S 54 i (qI S 54 i &&& b)) < MbN S) := by
  have u : MbN (wI S 54 i (qI S 54 i &&& b)) + (qI S 54 i).toBitVec.toNat = MbN S + (qI (wI S 54 i (qI S 54 i &&& b)) 54 i).toBitVec.toNat := sumN_upd (g := fun j => (qI S 54 j).toBitVec.toNat) (g' := fun j => (qI (wI S 54 i (qI S 54 i &&& b)) 54 j).toBitVec.toNat) (i := i) (fun j hj => by
    have e1 : qI (wI S 54 i (qI S 54 i &&& b)) 54 j = qI S 54 j := by rw [qI_wI, if_neg (fun q => hj q.2)]
    show (qI (wI S 54 i (qI S 54 i &&& b)) 54 j).toBitVec.toNat = _
    rw [e1]) 45600 hi
  have e2 : qI (wI S 54 i (qI S 54 i &&& b)) 54 i = qI S 54 i &&& b := by rw [qI_wI, if_pos ⟨rfl, rfl⟩]
  rw [e2] at u
  have l := and_le (a := qI S 54 i) (b := b)
  refine ⟨by omega, fun q => ?_⟩
  have ne : (qI S 54 i &&& b).toBitVec.toNat ≠ (qI S 54 i).toBitVec.toNat := fun z => q (by
    have : qI S 54 i &&& b = qI S 54 i := Int32.toBitVec_inj.mp (BitVec.eq_of_toNat_eq z)
    rw [this])
  omega
def NwR (S U : MS) (m : Int32) : Prop := frm [54] [] S U ∧ MbN U ≤ MbN S ∧ (¬ m.toInt = 0 → MbN U < MbN S)
theorem sp_narrowed {S : MS} {x y : Int32} (hx : 0 ≤ x.toInt ∧ x.toInt < 1200) (hy : 0 ≤ y.toInt ∧ y.toInt < 1200) : w_narrowed S x y (fun r u => NwR S u r) := by
  have l : (38 : Int32).toInt = 38 := by decide
  have e1 : ((38 : Int32) * x).toInt = 38 * x.toInt := by rw [t_mul (by rw [l]; omega), l]
  have e2 : ((38 : Int32) * y).toInt = 38 * y.toInt := by rw [t_mul (by rw [l]; omega), l]
  have L : ∀ (c : Nat) (U : MS) (m k : Int32), NwR S U m → 0 ≤ k.toInt → (38 - k.toInt).toNat < c → w_narrowed_L5 (fun r u => NwR S u r) c U x y m k := by
    intro c
    induction c with
    | zero => intro U m k _ _ h9; exact absurd h9 (Nat.not_lt_zero _)
    | succ c ih =>
      intro U m k hU k0 hc
      unfold w_narrowed_L5
      refine ⟨fun _ => hU, fun c1 => ?_⟩
      have i1 : ((38 : Int32) * x + k).toInt = 38 * x.toInt + k.toInt := by rw [t_add (by rw [e1]; omega), e1]
      have i2 : ((38 : Int32) * y + k).toInt = 38 * y.toInt + k.toInt := by rw [t_add (by rw [e2]; omega), e2]
      have ek : (k + Int32.ofInt 1).toInt = k.toInt + 1 := by rw [t_add (by rw [lo_1]; omega), lo_1]
      have j31 : ∀ t : Int32, w_narrowed_J31 (fun r u => NwR S u r) (w_narrowed_L5 (fun r u => NwR S u r) c) U t x y m k := fun t => by
        unfold w_narrowed_J31
        rw [i1, i2]
        refine ⟨⟨by omega, by omega⟩, ⟨by omega, by omega⟩, fun a ea => ?_⟩
        have z := Mb_set (S := U) (i := (38 * y.toInt + k.toInt).toNat) (b := qI U 54 (38 * x.toInt + k.toInt).toNat ||| t) (by omega)
        rw [← ea] at z
        have j89 : ∀ m' : Int32, (¬ m'.toInt = 0 → ¬ m.toInt = 0 ∨ ¬ a.toInt = (qI U 54 (38 * y.toInt + k.toInt).toNat).toInt) → w_narrowed_J89 (fun r u => NwR S u r) (w_narrowed_L5 (fun r u => NwR S u r) c) U m' x y k a := fun m' hm => by
          unfold w_narrowed_J89
          rw [i2]
          refine ⟨⟨by omega, by omega⟩, fun D eD a2 ea2 => ?_⟩
          subst ea2
          rw [← eD] at z
          refine ih D m' _ ⟨hU.1.tr (by rw [eD]; exact frm.pI (by decide)), by have := hU.2.1; omega, fun q => ?_⟩ (by omega) (by omega)
          rcases hm q with w | w
          · have := hU.2.2 w; omega
          · have := z.2 w; have := hU.2.1; omega
        unfold w_narrowed_J84
        exact ⟨fun _ => ⟨⟨by omega, by omega⟩, fun _ => j89 0 (fun q => absurd rfl q), fun c3 => j89 1 (fun _ => Or.inr c3)⟩, fun c2 => j89 1 (fun _ => Or.inl c2)⟩
      exact ⟨fun _ => j31 _, fun _ => j31 _⟩
  unfold w_narrowed
  exact ⟨_, L _ S 0 0 ⟨frm.rf, Nat.le_refl _, fun q => absurd rfl q⟩ (by decide) (Nat.lt_succ_self _)⟩
theorem sp_nearestOf {S : MS} {x : Int32} (h : GeI S) (hx : 0 ≤ x.toInt ∧ x.toInt < 1200) : w_nearestOf S x (fun _ u => u = S) := by
  have bc := h.1
  have L : ∀ (c : Nat) (r m k : Int32), 0 ≤ k.toInt → (1200 - k.toInt).toNat < c → w_nearestOf_L7 (fun _ u => u = S) c S x r m k := by
    intro c
    induction c with
    | zero => intro r m k _ h9; exact absurd h9 (Nat.not_lt_zero _)
    | succ c ih =>
      intro r m k k0 hc
      unfold w_nearestOf_L7 w_nearestOf_J49 w_nearestOf_J61
      refine ⟨fun _ => rfl, fun c1 => ?_⟩
      have ek : (k + Int32.ofInt 1).toInt = k.toInt + 1 := by rw [t_add (by rw [lo_1]; omega), lo_1]
      have go : ∀ r m : Int32, ∀ a2 : Int32, a2 = (k + Int32.ofInt 1) → w_nearestOf_L7 (fun _ u => u = S) c S x r m a2 := fun r m a2 e2 => by
        subst e2
        exact ih r m _ (by omega) (by omega)
      exact ⟨fun _ => go _ _, fun _ => ⟨d_dom ⟨k0, by omega⟩ hx, fun _ => go _ _, fun _ => ⟨⟨k0, by omega⟩, fun _ => ⟨⟨k0, by omega⟩, fun a13 _ => go _ _⟩, fun _ => ⟨⟨k0, by omega⟩, fun a13 _ => go _ _⟩⟩⟩⟩
  unfold w_nearestOf
  exact ⟨_, L _ _ _ 0 (by decide) (Nat.lt_succ_self _)⟩
theorem sp_dominate {S : MS} (h : GeI S) : w_dominate S (fun u => frm [54, 55, 59] [] S u) := by
  have bc := h.1
  have ec := h.2.1
  have ge : ∀ U : MS, frm [54, 55, 59] [] S U → GeI U ∧ qI U 0 105 = qI S 0 105 ∧ qI U 0 110 = qI S 0 110 := fun U fU => ⟨h.fm fU (by decide) (by decide) (by decide) (by decide), (fU.2.2.2.2.2 105 (by decide)).1, (fU.2.2.2.2.2 110 (by decide)).1⟩
  have L200 : ∀ (c : Nat) (U : MS) (b : Int32), frm [54, 55, 59] [] S U → 0 ≤ b.toInt → (1200 - b.toInt).toNat < c → w_dominate_L200 (fun u => frm [54, 55, 59] [] S u) c U b := by
    intro c
    induction c with
    | zero => intro U b _ _ h9; exact absurd h9 (Nat.not_lt_zero _)
    | succ c ih =>
      intro U b fU b0 hc
      obtain ⟨gU, u105, u110⟩ := ge U fU
      unfold w_dominate_L200
      rw [u105]
      refine ⟨fun _ => fU, fun c1 => ?_⟩
      have ek : (b + Int32.ofInt 1).toInt = b.toInt + 1 := by rw [t_add (by rw [lo_1]; omega), lo_1]
      have j235 : ∀ (V : MS) (v : Int32), frm [54, 55, 59] [] S V → w_dominate_J235 (fun u => frm [54, 55, 59] [] S u) (w_dominate_L200 (fun u => frm [54, 55, 59] [] S u) c) V v b b := fun V v fV => by
        unfold w_dominate_J235
        refine ⟨⟨b0, by omega⟩, fun D eD a ea => ?_⟩
        subst ea
        exact ih D _ (fV.tr (by rw [eD]; exact frm.pI (by decide))) (by omega) (by omega)
      unfold w_dominate_J234
      refine ⟨⟨b0, by omega⟩, fun _ => j235 U _ fU, fun _ => ⟨fun _ => j235 U _ fU, fun _ => ⟨_, sp_nearestOf gU ⟨b0, by omega⟩, fun r V eV => ?_⟩⟩⟩
      rw [eV]
      exact j235 U _ fU
  have L159 : ∀ (k142 : MS → Int32 → Prop) (b : Int32), (0 ≤ b.toInt ∧ b.toInt < (qI S 0 105).toInt) → (∀ U : MS, frm [54, 55, 59] [] S U → k142 U (b + Int32.ofInt 1)) → ∀ (c : Nat) (U : MS) (k : Int32), frm [54, 55, 59] [] S U → 0 ≤ k.toInt → (1200 - k.toInt).toNat < c → w_dominate_L159 (fun u => frm [54, 55, 59] [] S u) k142 c U b k := by
    intro k142 b hb hk c
    induction c with
    | zero => intro U k _ _ h9; exact absurd h9 (Nat.not_lt_zero _)
    | succ c ih =>
      intro U k fU k0 hc
      obtain ⟨gU, u105, u110⟩ := ge U fU
      unfold w_dominate_L159
      rw [u105]
      refine ⟨fun _ a ea => by subst ea; exact hk U fU, fun c1 => ?_⟩
      have ek : (k + Int32.ofInt 1).toInt = k.toInt + 1 := by rw [t_add (by rw [lo_1]; omega), lo_1]
      have j186 : ∀ V : MS, frm [54, 55, 59] [] S V → w_dominate_J186 (fun u => frm [54, 55, 59] [] S u) (w_dominate_L159 (fun u => frm [54, 55, 59] [] S u) k142 c) V b k := fun V fV => by
        unfold w_dominate_J186
        intro a ea
        subst ea
        exact ih V _ fV (by omega) (by omega)
      exact ⟨d_dom ⟨k0, by omega⟩ ⟨hb.1, by omega⟩, fun _ => j186 U fU, fun _ => ⟨⟨hb.1, by omega⟩, ⟨hb.1, by omega⟩, fun D eD => j186 D (fU.tr (by rw [eD]; exact frm.pI (by decide)))⟩⟩
  have L142 : ∀ (c : Nat) (U : MS) (b : Int32), frm [54, 55, 59] [] S U → 0 ≤ b.toInt → (1200 - b.toInt).toNat < c → w_dominate_L142 (fun u => frm [54, 55, 59] [] S u) c U b := by
    intro c
    induction c with
    | zero => intro U b _ _ h9; exact absurd h9 (Nat.not_lt_zero _)
    | succ c ih =>
      intro U b fU b0 hc
      obtain ⟨gU, u105, u110⟩ := ge U fU
      unfold w_dominate_L142
      rw [u105]
      have ek : b.toInt < 1200 → (b + Int32.ofInt 1).toInt = b.toInt + 1 := fun q => by rw [t_add (by rw [lo_1]; omega), lo_1]
      refine ⟨fun _ => ⟨_, L200 _ U 0 fU (by decide) (Nat.lt_succ_self _)⟩, fun c1 => ⟨⟨b0, by omega⟩, fun D eD => ?_⟩⟩
      exact ⟨_, L159 _ b ⟨b0, by omega⟩ (fun V fV => ih V _ fV (by rw [ek (by omega)]; omega) (by rw [ek (by omega)]; omega)) _ D 0 (fU.tr (by rw [eD]; exact frm.pI (by decide))) (by decide) (Nat.lt_succ_self _)⟩
  -- a round that narrows
  have L80 : ∀ (S0 : MS) (k65 : MS → Int32 → Int32 → Prop) (b : Int32), frm [54, 55, 59] [] S S0 → (0 ≤ b.toInt ∧ b.toInt < (qI S 0 105).toInt) → (∀ (U : MS) (m : Int32), NwR S0 U m → k65 U m (b + Int32.ofInt 1)) → ∀ (c : Nat) (U : MS) (m k : Int32), NwR S0 U m → 0 ≤ k.toInt → (24000 - k.toInt).toNat < c → w_dominate_L80 (fun u => frm [54, 55, 59] [] S u) k65 c U m b k := by
    intro S0 k65 b f0 hb hk c
    induction c with
    | zero => intro U m k _ _ h9; exact absurd h9 (Nat.not_lt_zero _)
    | succ c ih =>
      intro U m k hU k0 hc
      have fU : frm [54, 55, 59] [] S U := f0.tr (hU.1.mo (by decide) (by decide))
      obtain ⟨gU, u105, u110⟩ := ge U fU
      have eb : (b + (1 : Int32)).toInt = b.toInt + 1 := by rw [t_add (by rw [li_1]; omega), li_1]
      have nxt : w_dominate_J131 (fun u => frm [54, 55, 59] [] S u) k65 U m b := by
        unfold w_dominate_J131
        intro a ea
        subst ea
        exact hk U m hU
      unfold w_dominate_L80
      rw [eb]
      refine ⟨⟨hb.1, by omega⟩, fun _ => nxt, fun c0 => ⟨⟨by omega, by omega⟩, fun _ => nxt, fun c1 => ?_⟩⟩
      have e1 := gU.2.2.1 (b.toInt + 1).toNat (by rw [u105]; omega)
      rw [u110] at e1
      have e2 := gU.2.2.2 k.toInt.toNat (by rw [u110]; omega)
      rw [u105] at e2
      have ek : (k + Int32.ofInt 1).toInt = k.toInt + 1 := by rw [t_add (by rw [lo_1]; omega), lo_1]
      refine ⟨⟨k0, by omega⟩, _, sp_narrowed ⟨hb.1, by omega⟩ ⟨e2.1, by omega⟩, fun r V hV => ?_⟩
      have j124 : ∀ m' : Int32, (¬ m'.toInt = 0 → ¬ m.toInt = 0 ∨ ¬ r.toInt = 0) → w_dominate_J124 (fun u => frm [54, 55, 59] [] S u) (w_dominate_L80 (fun u => frm [54, 55, 59] [] S u) k65 c) V m' b k := fun m' hm => by
        unfold w_dominate_J124
        intro a ea
        subst ea
        refine ih V m' _ ⟨hU.1.tr hV.1, by have := hU.2.1; have := hV.2.1; omega, fun q => ?_⟩ (by omega) (by omega)
        rcases hm q with w | w
        · have := hU.2.2 w; have := hV.2.1; omega
        · have := hV.2.2 w; have := hU.2.1; omega
      unfold w_dominate_J119
      exact ⟨fun _ => ⟨fun _ => j124 0 (fun q => absurd rfl q), fun c3 => j124 1 (fun _ => Or.inl c3)⟩, fun c3 => j124 1 (fun _ => Or.inr c3)⟩
  have L65 : ∀ (S0 : MS) (k57 : MS → Int32 → Prop), frm [54, 55, 59] [] S S0 → (∀ (U : MS) (m : Int32), NwR S0 U m → k57 U m) → ∀ (c : Nat) (U : MS) (m b : Int32), NwR S0 U m → 0 ≤ b.toInt → (1200 - b.toInt).toNat < c → w_dominate_L65 (fun u => frm [54, 55, 59] [] S u) k57 c U m b := by
    intro S0 k57 f0 hk c
    induction c with
    | zero => intro U m b _ _ h9; exact absurd h9 (Nat.not_lt_zero _)
    | succ c ih =>
      intro U m b hU b0 hc
      have fU : frm [54, 55, 59] [] S U := f0.tr (hU.1.mo (by decide) (by decide))
      obtain ⟨gU, u105, u110⟩ := ge U fU
      unfold w_dominate_L65
      rw [u105]
      refine ⟨fun _ => hk U m hU, fun c1 => ⟨⟨b0, by omega⟩, fun a ea => ?_⟩⟩
      have e1 := gU.2.2.1 b.toInt.toNat (by rw [u105]; omega)
      have ek : (b + Int32.ofInt 1).toInt = b.toInt + 1 := by rw [t_add (by rw [lo_1]; omega), lo_1]
      exact ⟨_, L80 S0 _ b f0 ⟨b0, by omega⟩ (fun U' m' h' => ih U' m' _ h' (by omega) (by omega)) _ U m a hU (by rw [ea]; exact e1.1) (Nat.lt_succ_self _)⟩
  have L57 : ∀ (c : Nat) (U : MS) (m : Int32), frm [54, 55, 59] [] S U → (m.toInt = 0 ∧ 1 ≤ c ∨ MbN U + 2 ≤ c) → w_dominate_L57 (fun u => frm [54, 55, 59] [] S u) c U m := by
    intro c
    induction c with
    | zero => intro U m _ h9; exact absurd h9 (by omega)
    | succ c ih =>
      intro U m fU hc
      unfold w_dominate_L57
      refine ⟨fun _ => ⟨_, L142 _ U 0 fU (by decide) (Nat.lt_succ_self _)⟩, fun c1 => ?_⟩
      have hc2 : MbN U + 2 ≤ c + 1 := by omega
      refine ⟨_, L65 U _ fU (fun V m' hV => ih V m' (fU.tr (hV.1.mo (by decide) (by decide))) ?_) _ U 0 0 ⟨frm.rf, Nat.le_refl _, fun q => absurd rfl q⟩ (by decide) (Nat.lt_succ_self _)⟩
      by_cases z : m'.toInt = 0
      · exact Or.inl ⟨z, by omega⟩
      · have := hV.2.2 z
        exact Or.inr (by omega)
  have L28 : ∀ (c : Nat) (U : MS) (k : Int32), frm [54, 55, 59] [] S U → 0 ≤ k.toInt → (38 - k.toInt).toNat < c → w_dominate_L28 (fun u => frm [54, 55, 59] [] S u) c U k := by
    intro c
    induction c with
    | zero => intro U k _ _ h9; exact absurd h9 (Nat.not_lt_zero _)
    | succ c ih =>
      intro U k fU k0 hc
      unfold w_dominate_L28
      refine ⟨fun _ => ⟨_, L57 _ U 1 fU (Or.inr (Nat.le_refl _))⟩, fun c1 => ?_⟩
      have ek : (k + Int32.ofInt 1).toInt = k.toInt + 1 := by rw [t_add (by rw [lo_1]; omega), lo_1]
      have j48 : ∀ v : Int32, w_dominate_J48 (fun u => frm [54, 55, 59] [] S u) (w_dominate_L28 (fun u => frm [54, 55, 59] [] S u) c) U v k k := fun v => by
        unfold w_dominate_J48
        refine ⟨⟨k0, by omega⟩, fun D eD a ea => ?_⟩
        subst ea
        exact ih D _ (fU.tr (by rw [eD]; exact frm.pI (by decide))) (by omega) (by omega)
      exact ⟨fun _ => j48 1, fun _ => j48 0⟩
  have l : (38 : Int32).toInt = 38 := by decide
  have L2 : ∀ (c : Nat) (U : MS) (k : Int32), frm [54, 55, 59] [] S U → 0 ≤ k.toInt → (45600 - k.toInt).toNat < c → w_dominate_L2 (fun u => frm [54, 55, 59] [] S u) c U k := by
    intro c
    induction c with
    | zero => intro U k _ _ h9; exact absurd h9 (Nat.not_lt_zero _)
    | succ c ih =>
      intro U k fU k0 hc
      obtain ⟨gU, u105, u110⟩ := ge U fU
      have em : (qI S 0 105 * (38 : Int32)).toInt = (qI S 0 105).toInt * 38 := by rw [t_mul (by rw [l]; omega), l]
      unfold w_dominate_L2
      rw [u105, em]
      refine ⟨fun _ => ⟨_, L28 _ U 0 fU (by decide) (Nat.lt_succ_self _)⟩, fun c1 => ⟨⟨k0, by omega⟩, fun D eD a ea => ?_⟩⟩
      have ek : (k + Int32.ofInt 1).toInt = k.toInt + 1 := by rw [t_add (by rw [lo_1]; omega), lo_1]
      subst ea
      exact ih D _ (fU.tr (by rw [eD]; exact frm.pI (by decide))) (by omega) (by omega)
  unfold w_dominate
  exact ⟨_, L2 _ S 0 frm.rf (by decide) (Nat.lt_succ_self _)⟩
/-! loops (behind sp_dominate, zc_set, d_dom) -/
def mkN (S : MS) : Nat := zc (qI S 58) (qI S 0 105).toInt.toNat
def LpR (S0 U : MS) (m : Int32) : Prop := frm [58] [] S0 U ∧ mkN U ≤ mkN S0 ∧ (¬ m.toInt = 0 → mkN U < mkN S0)
theorem mk_set {U D : MS} {i : Nat} (hi : (i : Int) < (qI U 0 105).toInt) (eD : D = wI U 58 i (vp_nar .boolean (1 : Int32))) : mkN D ≤ mkN U ∧ ((qI U 58 i).toInt = 0 → mkN D < mkN U) ∧ (frm [58] [] U D ∧ ¬ (qI D 58 i).toInt = 0) := by
  have z := zc_set (S := U) (h := 58) (i := i) (n := (qI U 0 105).toInt.toNat) (v := vp_nar .boolean (1 : Int32)) (by omega) vb1
  rw [← eD] at z
  have d105 : qI D 0 105 = qI U 0 105 := by rw [eD, rdH (by decide)]
  refine ⟨by unfold mkN; rw [d105]; exact z.1, fun q => by unfold mkN; rw [d105]; exact z.2 q, by rw [eD]; exact frm.pI (by decide), ?_⟩
  rw [eD, qI_wI, if_pos ⟨rfl, rfl⟩]
  exact vb1
theorem sp_loop {S : MS} {x : Int32} (h : GeI S) (hx : 0 ≤ x.toInt ∧ x.toInt < (qI S 0 105).toInt) : w_loop S x (fun u => frm [56, 57, 58] [] S u) := by
  have bc := h.1
  have ec := h.2.1
  have ge : ∀ U : MS, frm [56, 57, 58] [] S U → GeI U ∧ qI U 0 105 = qI S 0 105 ∧ qI U 0 110 = qI S 0 110 := fun U fU => ⟨h.fm fU (by decide) (by decide) (by decide) (by decide), (fU.2.2.2.2.2 105 (by decide)).1, (fU.2.2.2.2.2 110 (by decide)).1⟩
  have L264 : ∀ (c : Nat) (U : MS) (b : Int32), frm [56, 57, 58] [] S U → 0 ≤ b.toInt → (1200 - b.toInt).toNat < c → w_loop_L264 (fun u => frm [56, 57, 58] [] S u) c U b := by
    intro c
    induction c with
    | zero => intro U b _ _ h9; exact absurd h9 (Nat.not_lt_zero _)
    | succ c ih =>
      intro U b fU b0 hc
      obtain ⟨gU, u105, u110⟩ := ge U fU
      unfold w_loop_L264
      rw [u105]
      refine ⟨fun _ => fU, fun c1 => ?_⟩
      have ek : (b + Int32.ofInt 1).toInt = b.toInt + 1 := by rw [t_add (by rw [lo_1]; omega), lo_1]
      have go : ∀ V : MS, frm [56, 57, 58] [] S V → w_loop_J294 (fun u => frm [56, 57, 58] [] S u) (w_loop_L264 (fun u => frm [56, 57, 58] [] S u) c) V b := fun V fV => by
        unfold w_loop_J294
        intro a ea
        subst ea
        exact ih V _ fV (by omega) (by omega)
      exact ⟨⟨b0, by omega⟩, fun _ => go U fU, fun _ => ⟨⟨b0, by omega⟩, ⟨b0, by omega⟩, fun D eD => go D (fU.tr (by rw [eD]; exact frm.pI (by decide)))⟩⟩
  -- one block in a round
  have L178 : ∀ (S0 Ub : MS) (k137 : MS → Int32 → Int32 → Int32 → Prop) (m b : Int32), frm [56, 57, 58] [] S S0 → LpR S0 Ub m → (qI Ub 58 b.toInt.toNat).toInt = 0 → (0 ≤ b.toInt ∧ b.toInt < (qI S 0 105).toInt) → (∀ (U : MS) (m' : Int32), LpR S0 U m' → k137 U x m' (b + Int32.ofInt 1)) → ∀ (c : Nat) (U : MS) (k : Int32), frm [58] [] Ub U → mkN U ≤ mkN Ub → (¬ (qI U 58 b.toInt.toNat).toInt = 0 → mkN U < mkN Ub) → 0 ≤ k.toInt → (24000 - k.toInt).toNat < c → w_loop_L178 (fun u => frm [56, 57, 58] [] S u) k137 c U x m b k := by
    intro S0 Ub k137 m b f0 hUb zb hb hk c
    induction c with
    | zero => intro U k _ _ _ _ h9; exact absurd h9 (Nat.not_lt_zero _)
    | succ c ih =>
      intro U k fbU hle hst k0 hc
      have fU : frm [56, 57, 58] [] S U := f0.tr ((hUb.1.mo (by decide) (by decide)).tr (fbU.mo (by decide) (by decide)))
      obtain ⟨gU, u105, u110⟩ := ge U fU
      have eb : (b + (1 : Int32)).toInt = b.toInt + 1 := by rw [t_add (by rw [li_1]; omega), li_1]
      have done : ∀ m' : Int32, (¬ m'.toInt = 0 → ¬ m.toInt = 0 ∨ ¬ (qI U 58 b.toInt.toNat).toInt = 0) → w_loop_J252 (fun u => frm [56, 57, 58] [] S u) k137 U x m' b := fun m' hm => by
        unfold w_loop_J252
        intro a ea
        subst ea
        refine hk U m' ⟨hUb.1.tr fbU, by have := hUb.2.1; omega, fun q => ?_⟩
        rcases hm q with w | w
        · have := hUb.2.2 w; omega
        · have := hst w; have := hUb.2.1; omega
      unfold w_loop_L178 w_loop_J246 w_loop_J251
      rw [eb]
      refine ⟨⟨by omega, by omega⟩, fun c1 => ⟨fun c2 => ⟨⟨hb.1, by omega⟩, fun _ => done 0 (fun q => absurd rfl q), fun c3 => done 1 (fun _ => Or.inr c3)⟩, fun c2 => done 1 (fun _ => Or.inl c2)⟩, fun c1 => ?_⟩
      have e1 := gU.2.2.1 (b.toInt + 1).toNat (by rw [u105]; omega)
      rw [u110] at e1
      have e2 := gU.2.2.2 k.toInt.toNat (by rw [u110]; omega)
      rw [u105] at e2
      have ek : (k + Int32.ofInt 1).toInt = k.toInt + 1 := by rw [t_add (by rw [lo_1]; omega), lo_1]
      have go : ∀ V : MS, frm [58] [] Ub V → mkN V ≤ mkN Ub → (¬ (qI V 58 b.toInt.toNat).toInt = 0 → mkN V < mkN Ub) → w_loop_J226 (fun u => frm [56, 57, 58] [] S u) (w_loop_L178 (fun u => frm [56, 57, 58] [] S u) k137 c) V x m b k := fun V a1 a2 a3 => by
        unfold w_loop_J226
        intro a ea
        subst ea
        exact ih V _ a1 a2 a3 (by omega) (by omega)
      refine ⟨⟨k0, by omega⟩, ⟨e2.1, by omega⟩, fun _ => go U fbU hle hst, fun _ => ⟨⟨k0, by omega⟩, fun _ => go U fbU hle hst, fun _ => ⟨⟨hb.1, by omega⟩, fun D eD => ?_⟩⟩⟩
      obtain ⟨z1, z2, z3, z4⟩ := mk_set (i := b.toInt.toNat) (by rw [u105]; omega) eD
      refine go D (fbU.tr z3) (by omega) (fun _ => ?_)
      by_cases y : (qI U 58 b.toInt.toNat).toInt = 0
      · have := z2 y; omega
      · have := hst y; omega
  have L137 : ∀ (S0 : MS) (k128 : MS → Int32 → Int32 → Prop), frm [56, 57, 58] [] S S0 → (∀ (U : MS) (m : Int32), LpR S0 U m → k128 U x m) → ∀ (c : Nat) (U : MS) (m b : Int32), LpR S0 U m → 0 ≤ b.toInt → (1200 - b.toInt).toNat < c → w_loop_L137 (fun u => frm [56, 57, 58] [] S u) k128 c U x m b := by
    intro S0 k128 f0 hk c
    induction c with
    | zero => intro U m b _ _ h9; exact absurd h9 (Nat.not_lt_zero _)
    | succ c ih =>
      intro U m b hU b0 hc
      have fU : frm [56, 57, 58] [] S U := f0.tr (hU.1.mo (by decide) (by decide))
      obtain ⟨gU, u105, u110⟩ := ge U fU
      unfold w_loop_L137
      rw [u105]
      refine ⟨fun _ => hk U m hU, fun c1 => ?_⟩
      have e1 := gU.2.2.1 b.toInt.toNat (by rw [u105]; omega)
      have ek : (b + Int32.ofInt 1).toInt = b.toInt + 1 := by rw [t_add (by rw [lo_1]; omega), lo_1]
      have go : w_loop_J252 (fun u => frm [56, 57, 58] [] S u) (w_loop_L137 (fun u => frm [56, 57, 58] [] S u) k128 c) U x m b := by
        unfold w_loop_J252
        intro a ea
        subst ea
        exact ih U m _ hU (by omega) (by omega)
      refine ⟨⟨b0, by omega⟩, fun c2 => ⟨⟨b0, by omega⟩, fun _ => go, fun _ => ⟨⟨b0, by omega⟩, fun a ea => ?_⟩⟩, fun _ => go⟩
      exact ⟨_, L178 S0 U _ m b f0 hU c2 ⟨b0, by omega⟩ (fun U' m' h' => ih U' m' _ h' (by omega) (by omega)) _ U a frm.rf (Nat.le_refl _) (fun q => absurd c2 q) (by rw [ea]; exact e1.1) (Nat.lt_succ_self _)⟩
  have L128 : ∀ (c : Nat) (U : MS) (m : Int32), frm [56, 57, 58] [] S U → (m.toInt = 0 ∧ 1 ≤ c ∨ mkN U + 2 ≤ c) → w_loop_L128 (fun u => frm [56, 57, 58] [] S u) c U x m := by
    intro c
    induction c with
    | zero => intro U m _ h9; exact absurd h9 (by omega)
    | succ c ih =>
      intro U m fU hc
      unfold w_loop_L128
      refine ⟨fun _ => ⟨_, L264 _ U 0 fU (by decide) (Nat.lt_succ_self _)⟩, fun c1 => ?_⟩
      have hc2 : mkN U + 2 ≤ c + 1 := by omega
      refine ⟨_, L137 U _ fU (fun V m' hV => ih V m' (fU.tr (hV.1.mo (by decide) (by decide))) ?_) _ U 0 0 ⟨frm.rf, Nat.le_refl _, fun q => absurd rfl q⟩ (by decide) (Nat.lt_succ_self _)⟩
      by_cases z : m'.toInt = 0
      · exact Or.inl ⟨z, by omega⟩
      · have := hV.2.2 z
        exact Or.inr (by omega)
  have L27 : ∀ (k4 : MS → Int32 → Int32 → Int32 → Prop) (m b : Int32), (0 ≤ b.toInt ∧ b.toInt < (qI S 0 105).toInt) → (∀ (U : MS) (m' : Int32), frm [56, 57, 58] [] S U → k4 U x m' (b + Int32.ofInt 1)) → ∀ (c : Nat) (U : MS) (k : Int32), frm [56, 57, 58] [] S U → 0 ≤ k.toInt → (24000 - k.toInt).toNat < c → w_loop_L27 (fun u => frm [56, 57, 58] [] S u) k4 c U x m b k := by
    intro k4 m b hb hk c
    induction c with
    | zero => intro U k _ _ h9; exact absurd h9 (Nat.not_lt_zero _)
    | succ c ih =>
      intro U k fU k0 hc
      obtain ⟨gU, u105, u110⟩ := ge U fU
      have eb : (b + (1 : Int32)).toInt = b.toInt + 1 := by rw [t_add (by rw [li_1]; omega), li_1]
      have done : ∀ m' : Int32, w_loop_J100 (fun u => frm [56, 57, 58] [] S u) k4 U m' x b := fun m' => by
        unfold w_loop_J100
        intro a ea
        subst ea
        exact hk U m' fU
      have j82 : w_loop_J82 (fun u => frm [56, 57, 58] [] S u) k4 U x m b := by
        unfold w_loop_J82 w_loop_J95
        exact ⟨fun _ => ⟨⟨hb.1, by omega⟩, fun _ => done 0, fun _ => done 1⟩, fun _ => done 1⟩
      unfold w_loop_L27
      rw [eb]
      refine ⟨⟨hb.1, by omega⟩, fun _ => j82, fun _ => ⟨⟨by omega, by omega⟩, fun _ => j82, fun c1 => ?_⟩⟩
      have e1 := gU.2.2.1 (b.toInt + 1).toNat (by rw [u105]; omega)
      rw [u110] at e1
      have ek : (k + Int32.ofInt 1).toInt = k.toInt + 1 := by rw [t_add (by rw [lo_1]; omega), lo_1]
      have go : ∀ V : MS, frm [56, 57, 58] [] S V → w_loop_J76 (fun u => frm [56, 57, 58] [] S u) (w_loop_L27 (fun u => frm [56, 57, 58] [] S u) k4 c) V x m b k := fun V fV => by
        unfold w_loop_J76
        intro a ea
        subst ea
        exact ih V _ fV (by omega) (by omega)
      exact ⟨⟨k0, by omega⟩, fun _ => ⟨d_dom ⟨hx.1, by omega⟩ ⟨hb.1, by omega⟩, fun _ => go U fU, fun _ => ⟨⟨hb.1, by omega⟩, fun D eD => go D (fU.tr (by rw [eD]; exact frm.pI (by decide)))⟩⟩, fun _ => go U fU⟩
  have L4 : ∀ (c : Nat) (U : MS) (m b : Int32), frm [56, 57, 58] [] S U → 0 ≤ b.toInt → (1200 - b.toInt).toNat < c → w_loop_L4 (fun u => frm [56, 57, 58] [] S u) c U x m b := by
    intro c
    induction c with
    | zero => intro U m b _ _ h9; exact absurd h9 (Nat.not_lt_zero _)
    | succ c ih =>
      intro U m b fU b0 hc
      obtain ⟨gU, u105, u110⟩ := ge U fU
      unfold w_loop_L4
      rw [u105]
      refine ⟨fun _ => ⟨fun _ => fU, fun _ => ⟨⟨hx.1, by omega⟩, fun D eD => ⟨⟨hx.1, by omega⟩, fun E eE => ?_⟩⟩⟩, fun c1 => ⟨⟨b0, by omega⟩, fun D eD => ⟨⟨b0, by omega⟩, fun a ea => ?_⟩⟩⟩
      · exact ⟨_, L128 _ E 1 (fU.tr ((show frm [56, 57, 58] [] U D by rw [eD]; exact frm.pI (by decide)).tr (by rw [eE]; exact frm.pI (by decide)))) (Or.inr (Nat.le_refl _))⟩
      · have fD : frm [56, 57, 58] [] S D := fU.tr (by rw [eD]; exact frm.pI (by decide))
        obtain ⟨gD, d105, d110⟩ := ge D fD
        have e1 := gD.2.2.1 b.toInt.toNat (by rw [d105]; omega)
        have ek : (b + Int32.ofInt 1).toInt = b.toInt + 1 := by rw [t_add (by rw [lo_1]; omega), lo_1]
        exact ⟨_, L27 _ m b ⟨b0, by omega⟩ (fun U' m' f' => ih U' m' _ f' (by omega) (by omega)) _ D a fD (by rw [ea]; exact e1.1) (Nat.lt_succ_self _)⟩
  unfold w_loop
  exact ⟨_, L4 _ S 0 0 frm.rf (by decide) (Nat.lt_succ_self _)⟩
theorem sp_loops {S : MS} (h : GeI S) : w_loops S (fun u => frm [56, 57, 58] [] S u) := by
  have bc := h.1
  have ge : ∀ U : MS, frm [56, 57, 58] [] S U → GeI U ∧ qI U 0 105 = qI S 0 105 := fun U fU => ⟨h.fm fU (by decide) (by decide) (by decide) (by decide), (fU.2.2.2.2.2 105 (by decide)).1⟩
  have L32 : ∀ (c : Nat) (U : MS) (b : Int32), frm [56, 57, 58] [] S U → 0 ≤ b.toInt → (1200 - b.toInt).toNat < c → w_loops_L32 (fun u => frm [56, 57, 58] [] S u) c U b := by
    intro c
    induction c with
    | zero => intro U b _ _ h9; exact absurd h9 (Nat.not_lt_zero _)
    | succ c ih =>
      intro U b fU b0 hc
      obtain ⟨gU, u105⟩ := ge U fU
      unfold w_loops_L32
      rw [u105]
      refine ⟨fun _ => fU, fun c1 => ?_⟩
      have ek : (b + Int32.ofInt 1).toInt = b.toInt + 1 := by rw [t_add (by rw [lo_1]; omega), lo_1]
      have go : ∀ V : MS, frm [56, 57, 58] [] S V → w_loops_J54 (fun u => frm [56, 57, 58] [] S u) (w_loops_L32 (fun u => frm [56, 57, 58] [] S u) c) V b := fun V fV => by
        unfold w_loops_J54
        intro a ea
        subst ea
        exact ih V _ fV (by omega) (by omega)
      exact ⟨⟨b0, by omega⟩, fun _ => go U fU, fun _ => ⟨_, sp_loop gU ⟨b0, by rw [u105]; omega⟩, fun V fV => go V (fU.tr fV)⟩⟩
  have L2 : ∀ (c : Nat) (U : MS) (b : Int32), frm [56, 57, 58] [] S U → 0 ≤ b.toInt → (1200 - b.toInt).toNat < c → w_loops_L2 (fun u => frm [56, 57, 58] [] S u) c U b := by
    intro c
    induction c with
    | zero => intro U b _ _ h9; exact absurd h9 (Nat.not_lt_zero _)
    | succ c ih =>
      intro U b fU b0 hc
      obtain ⟨gU, u105⟩ := ge U fU
      unfold w_loops_L2
      rw [u105]
      refine ⟨fun _ => ⟨_, L32 _ U 0 fU (by decide) (Nat.lt_succ_self _)⟩, fun c1 => ⟨⟨b0, by omega⟩, fun D eD => ⟨⟨b0, by omega⟩, fun E eE a ea => ?_⟩⟩⟩
      have ek : (b + Int32.ofInt 1).toInt = b.toInt + 1 := by rw [t_add (by rw [lo_1]; omega), lo_1]
      subst ea
      exact ih E _ (fU.tr ((show frm [56, 57, 58] [] U D by rw [eD]; exact frm.pI (by decide)).tr (by rw [eE]; exact frm.pI (by decide)))) (by omega) (by omega)
  unfold w_loops
  exact ⟨_, L2 _ S 0 frm.rf (by decide) (Nat.lt_succ_self _)⟩
/-! blocks and edges (behind sp_reach, LkI.ways, wtS) -/
theorem wtV_nn {op b : Int} (h : 0 ≤ b ∨ ¬ (op = 170 ∨ op = 171)) : 0 ≤ wtV op b := by
  unfold wtV
  split
  · decide
  · split
    · rcases h with q | q
      · omega
      · contradiction
    · decide
/-- the weight of the rows of the method that is looked at -/
def lwS (S : MS) (n : Nat) : Int := wtS (qI S (qO S 0 48)) (qI S 0 51).toInt.toNat n
theorem LkI.wt {S : MS} (h : LkI S) : lwS S (qI S 0 52).toInt.toNat ≤ 3600 ∧ ∀ x : Int32, 0 ≤ x.toInt → x.toInt < (qI S 0 52).toInt → lwS S (x.toInt.toNat + 1) = lwS S x.toInt.toNat + wtV (f_op S x).toInt (f_second S x).toInt ∧ 0 ≤ wtV (f_op S x).toInt (f_second S x).toInt ∧ 3 * (f_ways S x).toInt ≤ wtV (f_op S x).toInt (f_second S x).toInt := by
  have h' := h
  obtain ⟨-, L, F, M, nc, ts, cn, -, -, -, mt, -, -, -, -⟩ := h'
  refine ⟨mt.2.2.2.2.1, fun x x0 x1 => ?_⟩
  have ix := lk_ix h ⟨x0, x1⟩
  have f0 := mt.1
  obtain ⟨L', F', M', ts', la, lb, rv, -, -⟩ := h.rv ⟨x0, x1⟩
  have e1 : (3 * ((qI S 0 51).toInt + x.toInt)).toNat = 3 * ((qI S 0 51).toInt.toNat + x.toInt.toNat) := by omega
  have e2 : (3 * ((qI S 0 51).toInt + x.toInt) + 2).toNat = 3 * ((qI S 0 51).toInt.toNat + x.toInt.toNat) + 2 := by omega
  have eo : f_op S x = qI S (qO S 0 48) (3 * ((qI S 0 51).toInt.toNat + x.toInt.toNat)) := by unfold f_op; rw [ix.1, e1]
  have es : f_second S x = qI S (qO S 0 48) (3 * ((qI S 0 51).toInt.toNat + x.toInt.toNat) + 2) := by unfold f_second; rw [ix.2.2, e2]
  have nn : 0 ≤ (f_second S x).toInt ∨ ¬ ((f_op S x).toInt = 170 ∨ (f_op S x).toInt = 171) := by
    by_cases q : (f_op S x).toInt = 170 ∨ (f_op S x).toInt = 171
    · exact Or.inl (rv.2.2.1 q).2.1
    · exact Or.inr q
  refine ⟨?_, wtV_nn nn, ?_⟩
  · unfold lwS
    show wtS _ _ x.toInt.toNat + wtR _ _ = _
    unfold wtR
    rw [← eo, ← es]
  · unfold f_ways
    by_cases q1 : (f_isJump S (f_op S x)).toInt = 0
    · rw [if_pos q1]
      by_cases q2 : (f_isSwitch S (f_op S x)).toInt = 0
      · rw [if_pos q2]
        have := wtV_nn nn
        rw [li_0]; omega
      · rw [if_neg q2]
        have sw : (f_op S x).toInt = 170 ∨ (f_op S x).toInt = 171 := by
          unfold f_isSwitch f_isSwitch_J14 at q2
          by_cases c1 : (f_op S x).toInt = 170
          · exact Or.inl c1
          · rw [if_neg c1] at q2
            by_cases c2 : (f_op S x).toInt = 171
            · exact Or.inr c2
            · rw [if_neg c2] at q2; exact absurd rfl q2
        have b := rv.2.2.1 sw
        have e : (f_second S x + (1 : Int32)).toInt = (f_second S x).toInt + 1 := by rw [t_add (by rw [li_1]; omega), li_1]
        rw [e]
        unfold wtV
        rw [if_neg (by omega), if_pos sw]
        omega
    · rw [if_neg q1, li_1]
      have o := jp_op q1
      unfold wtV
      rw [if_neg (by omega), if_neg (by omega)]
      decide
theorem lwS_up {S : MS} (h : LkI S) : ∀ (d a : Nat), (a + d : Int) ≤ (qI S 0 52).toInt → lwS S a ≤ lwS S (a + d) := by
  intro d
  induction d with
  | zero => intro a _; exact Int.le_refl _
  | succ d ih =>
    intro a hd
    have cn := h.cnt
    have q := ih a (by omega)
    have e : (Int32.ofNat (a + d)).toInt = a + d := by rw [oN (by omega)]; omega
    have w := h.wt.2 (Int32.ofNat (a + d)) (by omega) (by omega)
    have en : (Int32.ofNat (a + d)).toInt.toNat = a + d := by omega
    rw [en] at w
    have w1 := w.1
    have w2 := w.2.1
    have e3 : a + (d + 1) = a + d + 1 := by omega
    rw [e3]
    omega
/-- the blocks of a method of N instructions -/
def GbI (S : MS) (N : Int) : Prop := (1 ≤ (qI S 0 105).toInt ∧ (qI S 0 105).toInt ≤ N ∧ N ≤ 1200) ∧ (∀ b : Nat, (b : Int) < (qI S 0 105).toInt → (b : Int) ≤ (qI S 49 b).toInt ∧ (qI S 49 b).toInt < N) ∧ (∀ b : Nat, (b : Int) + 1 < (qI S 0 105).toInt → (qI S 49 b).toInt < (qI S 49 (b + 1)).toInt) ∧ (qI S 49 (qI S 0 105).toInt.toNat).toInt = N ∧ (∀ j : Nat, (j : Int) < N → (0 ≤ (qI S 50 j).toInt ∧ (qI S 50 j).toInt < (qI S 0 105).toInt) ∧ (qI S 49 (qI S 50 j).toInt.toNat).toInt ≤ j) ∧ ∀ j : Nat, (j : Int) + 1 < N → (qI S 50 j).toInt ≤ (qI S 50 (j + 1)).toInt
theorem GbI.fm {S u : MS} {N : Int} {W J : List Nat} (h : GbI S N) (k : frm W J S u) (h1 : 49 ∉ W) (h2 : 50 ∉ W) (h3 : 105 ∉ J) : GbI u N := by
  unfold GbI
  rw [(k.2.2.2.2.1 49 (by decide) h1).1, (k.2.2.2.2.1 50 (by decide) h2).1, (k.2.2.2.2.2 105 h3).1]
  exact h
def EdI (S U : MS) (B X : Int) : Prop := frm [51, 52] [110] S U ∧ (0 ≤ (qI U 0 110).toInt ∧ 3 * (qI U 0 110).toInt ≤ X) ∧ (∀ b : Nat, (b : Int) < B → 0 ≤ (qI U 51 b).toInt ∧ (qI U 51 b).toInt ≤ (qI U 0 110).toInt) ∧ ∀ k : Nat, (k : Int) < (qI U 0 110).toInt → 0 ≤ (qI U 52 k).toInt ∧ (qI U 52 k).toInt < (qI S 0 105).toInt
theorem EdI.le {S U : MS} {B X Y : Int} (h : EdI S U B X) (hy : X ≤ Y) : EdI S U B Y := ⟨h.1, ⟨h.2.1.1, by have := h.2.1.2; omega⟩, h.2.2⟩
theorem EdI.into {S U : MS} {B X : Int} {b t : Int32} (h : EdI S U B X) (hb : 0 ≤ b.toInt ∧ b.toInt < B ∧ b.toInt < 1200) (ht : 0 ≤ t.toInt ∧ t.toInt < (qI S 0 105).toInt) (hX : X ≤ 71997) : w_edgeInto U b t (fun u => EdI S u B (X + 3)) := by
  obtain ⟨h1, h2, h3, h4⟩ := h
  have eb := h3 b.toInt.toNat (by omega)
  unfold w_edgeInto
  refine ⟨⟨hb.1, by omega⟩, fun a ea => ?_⟩
  have L : ∀ (c : Nat) (k : Int32), 0 ≤ k.toInt → (24000 - k.toInt).toNat < c → w_edgeInto_L7 (fun u => EdI S u B (X + 3)) c U t k := by
    intro c
    induction c with
    | zero => intro k _ h9; exact absurd h9 (Nat.not_lt_zero _)
    | succ c ih =>
      intro k k0 hc
      unfold w_edgeInto_L7
      refine ⟨fun _ => ⟨⟨h2.1, by omega⟩, fun D eD E eE => ?_⟩, fun c1 => ⟨⟨k0, by omega⟩, fun _ => ⟨h1, ⟨h2.1, by omega⟩, h3, h4⟩, fun _ a2 e2 => ?_⟩⟩
      · have d110 : qI D 0 110 = qI U 0 110 := by rw [eD, rdH (by decide)]
        have e110 : (qI E 0 110).toInt = (qI U 0 110).toInt + 1 := by rw [eE, qI_wI, if_pos ⟨rfl, rfl⟩, d110, t_add (by rw [li_1]; omega), li_1]
        have e51 : qI E 51 = qI U 51 := by rw [eE, rdH (by decide), eD, rdH (by decide)]
        have e52 : ∀ j : Nat, qI E 52 j = if j = (qI U 0 110).toInt.toNat then t else qI U 52 j := fun j => by
          rw [eE, rdH (by decide), eD, qI_wI]
          by_cases q : j = (qI U 0 110).toInt.toNat
          · rw [if_pos ⟨rfl, q⟩, if_pos q]
          · rw [if_neg (fun z => q z.2), if_neg q]
        refine ⟨h1.tr ((show frm [51, 52] [110] U D by rw [eD]; exact frm.pI (by decide)).tr (by rw [eE]; exact frm.pI0 (by decide))), ⟨by omega, by omega⟩, fun b' hb' => ?_, fun k' hk' => ?_⟩
        · rw [e51, e110]; have := h3 b' hb'; omega
        · rw [e52]
          by_cases q : k' = (qI U 0 110).toInt.toNat
          · rw [if_pos q]; exact ht
          · rw [if_neg q]; exact h4 k' (by omega)
      · have ek : (k + Int32.ofInt 1).toInt = k.toInt + 1 := by rw [t_add (by rw [lo_1]; omega), lo_1]
        subst e2
        exact ih _ (by omega) (by omega)
  exact ⟨_, L _ a (by rw [ea]; exact eb.1) (Nat.lt_succ_self _)⟩
/-! draw (behind sp_edges, sp_look) -/
/-! graph, blocks, block, edge (behind sp_draw, sp_loops, sp_isMethod) -/
/-- how many blocks are reached: a count of the marks -/
def nzN (g : Nat → Int32) (n : Nat) : Nat := sumN (fun j => if (g j).toInt = 0 then 0 else 1) n
theorem sp_reachedBlocks {S : MS} (h : GeI S) : w_reachedBlocks S (fun r u => u = S ∧ r.toInt = nzN (qI S 53) (qI S 0 105).toInt.toNat) := by
  have bc := h.1
  have nz : ∀ n : Nat, nzN (qI S 53) n ≤ n := by
    intro n
    induction n with
    | zero => exact Nat.le_refl _
    | succ n ih =>
      show nzN (qI S 53) n + (if (qI S 53 n).toInt = 0 then 0 else 1) ≤ n + 1
      split <;> omega
  have L : ∀ (c : Nat) (r k : Int32), (0 ≤ k.toInt ∧ k.toInt ≤ (qI S 0 105).toInt) → r.toInt = nzN (qI S 53) k.toInt.toNat → (1200 - k.toInt).toNat < c → w_reachedBlocks_L4 (fun r u => u = S ∧ r.toInt = nzN (qI S 53) (qI S 0 105).toInt.toNat) c S r k := by
    intro c
    induction c with
    | zero => intro r k _ _ h9; exact absurd h9 (Nat.not_lt_zero _)
    | succ c ih =>
      intro r k k0 er hc
      unfold w_reachedBlocks_L4 w_reachedBlocks_J24
      have le := nz k.toInt.toNat
      refine ⟨fun c1 => ⟨rfl, by rw [er, show k.toInt.toNat = (qI S 0 105).toInt.toNat by omega]⟩, fun c1 => ⟨⟨k0.1, by omega⟩, fun c2 a ea => ?_, fun c2 a6 e6 a ea => ?_⟩⟩
      · have ek : (k + Int32.ofInt 1).toInt = k.toInt + 1 := by rw [t_add (by rw [lo_1]; omega), lo_1]
        subst ea
        refine ih r _ ⟨by omega, by omega⟩ ?_ (by omega)
        rw [ek, show (k.toInt + 1).toNat = k.toInt.toNat + 1 by omega]
        show r.toInt = ((nzN (qI S 53) k.toInt.toNat + (if (qI S 53 k.toInt.toNat).toInt = 0 then 0 else 1) : Nat) : Int)
        rw [if_pos c2, er]
        omega
      · have ek : (k + Int32.ofInt 1).toInt = k.toInt + 1 := by rw [t_add (by rw [lo_1]; omega), lo_1]
        have er1 : (r + Int32.ofInt 1).toInt = r.toInt + 1 := by rw [t_add (by rw [lo_1]; omega), lo_1]
        subst ea
        subst e6
        refine ih _ _ ⟨by omega, by omega⟩ ?_ (by omega)
        rw [ek, show (k.toInt + 1).toNat = k.toInt.toNat + 1 by omega]
        show _ = ((nzN (qI S 53) k.toInt.toNat + (if (qI S 53 k.toInt.toNat).toInt = 0 then 0 else 1) : Nat) : Int)
        rw [if_neg c2, er1, er]
        omega
  unfold w_reachedBlocks
  exact ⟨_, L _ 0 0 ⟨by decide, by rw [li_0]; exact bc.1⟩ rfl (Nat.lt_succ_self _)⟩
