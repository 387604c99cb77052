/-! run (behind sp_step, VmA.top, parL_v, sp_enter) -/
theorem McI.fr {S u : MS} {f : Nat} (h : McI S f) (k : frm [] [100] S u) : McI u f := by
  obtain ⟨b0, mb, ⟨hA, hF⟩, ⟨U, s, p, a, hU, eT, ok⟩, mid⟩ := h
  have kb := big_frm k (by decide)
  have e97 : qI u 0 97 = qI S 0 97 := (k.2.2.2.2.2 97 (by decide)).1
  have e85 : qI u 0 85 = qI S 0 85 := (k.2.2.2.2.2 85 (by decide)).1
  have n : fN u = fN S := by unfold fN; rw [e97]
  have h42 : qI u 42 = qI S 42 := (k.2.2.2.2.1 42 (by decide) (by decide)).1
  have h43 : qI u 43 = qI S 43 := (k.2.2.2.2.1 43 (by decide) (by decide)).1
  have h44 : qI u 44 = qI S 44 := (k.2.2.2.2.1 44 (by decide) (by decide)).1
  have h45 : qW u 45 = qW S 45 := fW k (h := 45) (by decide) (by decide) (by decide)
  have h46 : qW u 46 = qW S 46 := fW k (h := 46) (by decide) (by decide) (by decide)
  refine ⟨by unfold FrB; rw [e97]; exact b0, mb.fm k (by decide) (by decide), ⟨hA.eq e85 (k.2.2.2.2.2 86 (by decide)).1 (k.2.2.2.2.1 39 (by decide) (by decide)).1 (k.2.2.2.2.1 40 (by decide) (by decide)).1, hF.eq mb.1.1 kb (by rw [e85]; exact Int.le_refl _) (k.2.2.2.2.1 37 (by decide) (by decide)).2.1⟩, ?_, fun i hi => ?_⟩
  · rw [n, e85]
    refine ⟨U, s, p, a, hU.stay kb (by rw [h42]) (by rw [h43]), by rw [h44]; exact eT, ?_⟩
    have x1 : slF u (fN S).toNat = slF S (fN S).toNat := by funext j; unfold slF; rw [h45]
    have x2 : plF u (fN S).toNat = plF S (fN S).toNat := by funext j; unfold plF; rw [h46]
    rw [x1, x2]
    exact ok
  · rw [n] at hi
    rw [e85]
    exact (mid i hi).mv (Int.le_refl _) kb ⟨by rw [h42], by rw [h42]⟩ (by rw [h43]) (by rw [h44]) (fun k _ => by unfold slF; rw [h45]) (fun k _ => by unfold plF; rw [h46])
/-- what a run leaves -/
def RnP (f : Nat) (u : MS) : Prop := (McB u f ∧ ArI u ∧ FvI u f) ∧ (qI u 0 88).toInt = 0
theorem sp_run_L308 {f : Nat} {fuel : Int32} : ∀ (n : Nat) (U : MS), McQ f U → (qI U 0 88).toInt = 0 → (0 ≤ (qI U 0 100).toInt ∧ (qI U 0 100).toInt ≤ fuel.toInt) → ((0 ≤ (qI U 0 98).toInt ∧ 1 ≤ n) ∨ (fuel.toInt - (qI U 0 100).toInt).toNat + 2 ≤ n) → w_run_L308 (fun _ u => RnP f u) n U fuel := by
  intro n
  induction n with
  | zero => intro U _ _ _ h9; exact absurd h9 (by omega)
  | succ n ih =>
    intro U hq h88 hst hn
    unfold w_run_L308
    refine ⟨fun c => ⟨fun _ => ⟨hq.1, h88⟩, fun _ D eD => ?_⟩, fun c => ?_⟩
    · have k : frm [] [101] U D := by rw [eD]; exact frm.pJ0 (by decide)
      have e85 : qI D 0 85 = qI U 0 85 := (k.2.2.2.2.2 85 (by decide)).1
      exact ⟨⟨hq.1.1.fm k (by decide) (by decide), hq.1.2.1.eq e85 (k.2.2.2.2.2 86 (by decide)).1 (k.2.2.2.2.1 39 (by decide) (by decide)).1 (k.2.2.2.2.1 40 (by decide) (by decide)).1, hq.1.2.2.eq hq.1.1.1.1 (big_frm k (by decide)) (by rw [e85]; exact Int.le_refl _) (k.2.2.2.2.1 37 (by decide) (by decide)).2.1⟩, by rw [(k.2.2.2.2.2 88 (by decide)).1]; exact h88⟩
    · have hm : McI U f := by
        rcases hq.2 with q | q
        · exact absurd q c
        · exact q
      have hn2 : (fuel.toInt - (qI U 0 100).toInt).toNat + 2 ≤ n + 1 := by omega
      refine ⟨fun c1 D eD => ?_, fun c1 D eD => ?_⟩
      · have k : frm [] [98] U D := by rw [eD]; exact frm.pI0 (by decide)
        have e85 : qI D 0 85 = qI U 0 85 := (k.2.2.2.2.2 85 (by decide)).1
        have d98 : qI D 0 98 = 2 := by rw [eD, qI_wI, if_pos ⟨rfl, rfl⟩]
        have z : 0 ≤ (qI D 0 98).toInt := by rw [d98]; decide
        refine ih D ⟨⟨hq.1.1.fm k (by decide) (by decide), hq.1.2.1.eq e85 (k.2.2.2.2.2 86 (by decide)).1 (k.2.2.2.2.1 39 (by decide) (by decide)).1 (k.2.2.2.2.1 40 (by decide) (by decide)).1, hq.1.2.2.eq hq.1.1.1.1 (big_frm k (by decide)) (by rw [e85]; exact Int.le_refl _) (k.2.2.2.2.1 37 (by decide) (by decide)).2.1⟩, Or.inl z⟩ (by rw [(k.2.2.2.2.2 88 (by decide)).1]; exact h88) (by rw [(k.2.2.2.2.2 100 (by decide)).1]; exact hst) (Or.inl ⟨z, by omega⟩)
      · have k : frm [] [100] U D := by rw [eD]; exact frm.pI0 (by decide)
        have d100 : (qI D 0 100).toInt = (qI U 0 100).toInt + 1 := by
          have := fuel.toInt_lt
          rw [eD, qI_wI, if_pos ⟨rfl, rfl⟩, t_add (by rw [li_1]; omega), li_1]
        refine ⟨_, fr_step (sp_step (hm.fr k)), ?_⟩
        rintro E ⟨qE, fE⟩
        have e100 : (qI E 0 100).toInt = (qI U 0 100).toInt + 1 := by rw [(fE.2.2.2.2.2 100 (by decide)).1, d100]
        refine ih E qE ?_ (by omega) (Or.inr (by omega))
        rw [(fE.2.2.2.2.2 88 (by decide)).1, (k.2.2.2.2.2 88 (by decide)).1]
        exact h88
theorem w_run_mono {P Q : Int32 → MS → Prop} {n : Nat} {U : MS} {x : Int32} (h : w_run_L308 P n U x) (k : ∀ r u, P r u → Q r u) : w_run_L308 Q n U x := by
  revert U
  induction n with
  | zero => intro U h; exact h
  | succ n ih =>
    intro U h
    unfold w_run_L308 at h ⊢
    refine ⟨fun c => ⟨fun c1 => k _ _ ((h.1 c).1 c1), fun c1 D eD => k _ _ ((h.1 c).2 c1 D eD)⟩, fun c => ⟨fun c1 D eD => ih ((h.2 c).1 c1 D eD), fun c1 D eD => ?_⟩⟩
    obtain ⟨Q1, a, b⟩ := (h.2 c).2 c1 D eD
    exact ⟨Q1, a, fun E hE => ih (b E hE)⟩
theorem sp_run {S : MS} {m fuel : Int32} (hS : qR S 0 80 = none ∨ ∃ f : Nat, McB S f ∧ FvI S f) (hA : ArI S) (h96 : qI S 0 96 = 0) (h88 : 0 ≤ (qI S 0 88).toInt ∧ (qI S 0 88).toInt ≤ 8) : w_run S m fuel (fun _ u => (qR u 0 80 = none ∨ ∃ f : Nat, McB u f ∧ FvI u f) ∧ ArI u ∧ (qI u 0 88).toInt = 0 ∧ qI u 0 96 = 0) := by
  unfold w_run
  intro a1 e1 A eA
  have kA : frm [] [88] S A := by rw [eA]; exact frm.pI0 (by decide)
  have a88 : (qI A 0 88).toInt = 0 := by rw [eA, qI_wI, if_pos ⟨rfl, rfl⟩]; rfl
  have a96 : qI A 0 96 = 0 := by rw [(kA.2.2.2.2.2 96 (by decide)).1]; exact h96
  have a85 : qI A 0 85 = qI S 0 85 := (kA.2.2.2.2.2 85 (by decide)).1
  have aA : ArI A := hA.eq a85 (kA.2.2.2.2.2 86 (by decide)).1 (kA.2.2.2.2.1 39 (by decide) (by decide)).1 (kA.2.2.2.2.1 40 (by decide) (by decide)).1
  have A80 : qR A 0 80 = qR S 0 80 := (kA.2.2.2.2.2 80 (by decide)).2.2
  rcases hS with h0 | ⟨f, hB, hF⟩
  · exact ⟨fun _ => ⟨Or.inl (by rw [A80]; exact h0), aA, a88, a96⟩, fun c => absurd (by rw [A80]; exact h0) c⟩
  · have bA := hB.fm kA (by decide) (by decide)
    have fA : FvI A f := hF.eq hB.1.1 (big_frm kA (by decide)) (by rw [a85]; exact Int.le_refl _) (kA.2.2.2.2.1 37 (by decide) (by decide)).2.1
    have good : (qR A 0 80 = none ∨ ∃ f : Nat, McB A f ∧ FvI A f) ∧ ArI A ∧ (qI A 0 88).toInt = 0 ∧ qI A 0 96 = 0 := ⟨Or.inr ⟨f, bA, fA⟩, aA, a88, a96⟩
    obtain ⟨⟨f92, q80⟩, fl, vf, tx⟩ := bA
    have o80 : qO A 0 80 = f := by unfold qO; rw [q80]; rfl
    have r5 := fl.1.2.2 5 (by decide)
    have q10 : qR A f 10 = some (f + 6) := r5.1
    have o10 : qO A f 10 = f + 6 := by unfold qO; rw [q10]; rfl
    have n6 : qN A (f + 6) = 24 := r5.2.1
    have m24 := fl.2.2.2.1.2.2
    rw [o80, o10]
    refine ⟨fun c => by rw [q80] at c; exact absurd c (by simp), fun _ => ⟨fun _ => good, fun c0 => ⟨q80, fun c1 => ?_, fun _ => good⟩⟩⟩
    have vm := vf.2.2 m.toInt.toNat (by omega)
    -- the method's text
    obtain ⟨R, T, C, nc, ts, cn, -, -, -, -, -, r6⟩ := fl.2.2.2.2.2
    obtain ⟨⟨pl, ⟨t1, t2, t3, t4, -, -, sb, -, -, -, u3, -, -, -, ⟨p8, n', g', sI, pe, ls, n8⟩, -⟩, -⟩, -⟩ := r6 m.toInt.toNat (by omega)
    have o6 : qO A (f + 6) m.toInt.toNat = t3 := by unfold qO; rw [u3]; rfl
    have eN : qN A (t3 + 1) = n' := sI.2.2.1
    have eL : ∀ j : Nat, j < n' → qI A (t3 + 1) j = g' j := sI.2.2.2
    have pe' : plc (qI A (t3 + 1)) n' ≤ 8 := by rw [plc_eq n' eL, pe]; exact p8
    rw [o6, eN, oN (by omega)]
    refine ⟨q80, q10, ⟨by omega, by rw [n6]; omega⟩, u3, fun c2 => ?_, fun _ => good⟩
    have cA : ∀ (W : MS) (k : Int32), qI W (t3 + 1) = qI A (t3 + 1) → 0 ≤ k.toInt → k.toInt.toNat < n' → cAt W t3 k = g' k.toInt.toNat := fun W k eW k0 k1 => by
      have l := ls _ k1
      unfold cAt
      rw [eW, eL _ k1]
      exact (asc (by omega) (by omega)).2.2
    -- the machine is begun
    have beg : (∀ j : Nat, j < n' → (g' j).toInt = 65 → 0 ≤ (qJ A 41 j).toInt ∧ (qJ A 41 j).toInt ≤ (qI A 0 85).toInt) → 0 ≤ fuel.toInt → (∀ S21, S21 = wI A 0 97 0 → (∀ S22, S22 = wI S21 0 98 (-1) → (∀ S23, S23 = wI S22 0 102 (-1) → (∀ S24, S24 = wJ S23 0 101 0 → (∀ S25, S25 = wI S24 0 100 0 → (∃ Q26, w_enter S25 m Q26 ∧ ∀ S27, Q26 S27 → (∃ n, w_run_L165 (fun _ u => (qR u 0 80 = none ∨ ∃ f : Nat, McB u f ∧ FvI u f) ∧ ArI u ∧ (qI u 0 88).toInt = 0 ∧ qI u 0 96 = 0) n S27 fuel a1 t3 0 0))))))) := fun hargs f0 B eB D eD E eE F eF G eG => by
      have kG : frm [] [97, 98, 100, 101, 102] A G := (show frm [] [97, 98, 100, 101, 102] A B by rw [eB]; exact frm.pI0 (by decide)).tr ((show frm [] [97, 98, 100, 101, 102] B D by rw [eD]; exact frm.pI0 (by decide)).tr ((show frm [] [97, 98, 100, 101, 102] D E by rw [eE]; exact frm.pI0 (by decide)).tr ((show frm [] [97, 98, 100, 101, 102] E F by rw [eF]; exact frm.pJ0 (by decide)).tr (by rw [eG]; exact frm.pI0 (by decide)))))
      have g97 : (qI G 0 97).toInt = 0 := by
        rw [eG, qI_wI, if_neg (by decide), eF, qI_wJ, eE, qI_wI, if_neg (by decide), eD, qI_wI, if_neg (by decide), eB, qI_wI, if_pos ⟨rfl, rfl⟩]
        rfl
      have g98 : (qI G 0 98).toInt = -1 := by
        rw [eG, qI_wI, if_neg (by decide), eF, qI_wJ, eE, qI_wI, if_neg (by decide), eD, qI_wI, if_pos ⟨rfl, rfl⟩]
        rfl
      have g100 : (qI G 0 100).toInt = 0 := by
        rw [eG, qI_wI, if_pos ⟨rfl, rfl⟩]
        rfl
      refine ⟨_, sp_enter (m := m) (by rw [g97]; decide), ?_⟩
      rintro H ⟨fH, c97, c42, c43, c44, c45⟩
      rw [g97] at c97 c42 c43 c44 c45
      have kH : frm [42, 43, 44, 45, 47] [97, 98, 100, 101, 102] A H := (kG.mo (by decide) (by decide)).tr (fH.mo (by decide) (by decide))
      have h98 : (qI H 0 98).toInt = -1 := by rw [(fH.2.2.2.2.2 98 (by decide)).1]; exact g98
      have h100 : (qI H 0 100).toInt = 0 := by rw [(fH.2.2.2.2.2 100 (by decide)).1]; exact g100
      have L : ∀ (c : Nat) (X : MS) (at_ k : Int32), frm [45, 47] [] H X → (0 ≤ k.toInt ∧ k.toInt ≤ n') → at_.toInt = plc (qI A (t3 + 1)) k.toInt.toNat → (∀ i : Nat, (i : Int) < k.toInt → agV (qI A 0 85).toInt (qI A (t3 + 1) i) (qW X 45 (plc (qI A (t3 + 1)) i).toNat) (qW X 45 ((plc (qI A (t3 + 1)) i).toNat + 1))) → (n' - k.toInt).toNat < c → w_run_L165 (fun _ u => (qR u 0 80 = none ∨ ∃ f : Nat, McB u f ∧ FvI u f) ∧ ArI u ∧ (qI u 0 88).toInt = 0 ∧ qI u 0 96 = 0) c X fuel a1 t3 at_ k := by
        intro c
        induction c with
        | zero => intro X at_ k _ _ _ _ h9; exact absurd h9 (Nat.not_lt_zero _)
        | succ c ih =>
          intro X at_ k fX hk hat hv hc
          have kX : frm [42, 43, 44, 45, 47] [97, 98, 100, 101, 102] A X := kH.tr (fX.mo (by decide) (by decide))
          have kb := big_frm kX (by decide)
          have x85 : qI X 0 85 = qI A 0 85 := (kX.2.2.2.2.2 85 (by decide)).1
          have xt := kb (t3 + 1) (by omega)
          have ek : (k + Int32.ofInt 1).toInt = k.toInt + 1 := by rw [t_add (by rw [lo_1]; omega), lo_1]
          unfold w_run_L165
          rw [c2]
          refine ⟨fun z => ?_, fun z => ?_⟩
          · have ekn : k.toInt.toNat = n' := by omega
            have x97 : (qI X 0 97).toInt = 1 := by rw [(fX.2.2.2.2.2 97 (by decide)).1, c97]; rfl
            have bX : FrB X := ⟨by omega, by omega⟩
            have nX : fN X = 0 := by unfold fN; omega
            have mX := (show McB A f from ⟨⟨f92, q80⟩, fl, vf, tx⟩).fm kX (by decide) (by decide)
            have aX : ArI X := aA.eq x85 (kX.2.2.2.2.2 86 (by decide)).1 (kX.2.2.2.2.1 39 (by decide) (by decide)).1 (kX.2.2.2.2.1 40 (by decide) (by decide)).1
            have vX : FvI X f := fA.eq f92 kb (by rw [x85]; exact Int.le_refl _) (kX.2.2.2.2.1 37 (by decide) (by decide)).2.1
            have X42 : qI X 42 0 = m := by rw [(fX.2.2.2.2.1 42 (by decide) (by decide)).1, c42]; unfold upd; exact if_pos rfl
            have X43 : qI X 43 0 = 0 := by rw [(fX.2.2.2.2.1 43 (by decide) (by decide)).1, c43]; unfold upd; exact if_pos rfl
            have X44 : qI X 44 0 = 0 := by rw [(fX.2.2.2.2.1 44 (by decide) (by decide)).1, c44]; unfold upd; exact if_pos rfl
            have iX : McI X f := by
              refine ⟨bX, mX, ⟨aX, vX⟩, ?_, fun j hj => by omega⟩
              rw [nX]
              show FrTop X f 0 _
              refine vm.top f92 aX.1.1 kb ⟨by rw [X42], by rw [X42]; omega⟩ X43 X44 (fun s2 hs2 k2 hk2 => ?_)
              rw [u3] at hs2
              have es2 : t3 = s2 := by injection hs2
              subst es2
              rw [eN]
              have x0 : slF X 0 = fun j => qW X 45 j := by funext j; unfold slF; rw [show 24 * 0 + j = j by omega]
              rw [x0, x85]
              exact parL_v (v := fun j => qW X 45 j) n' (fun i hi => hv i (by omega)) k2
            have x88 : (qI X 0 88).toInt = 0 := by rw [(kX.2.2.2.2.2 88 (by decide)).1]; exact a88
            have x100 : (qI X 0 100).toInt = 0 := by rw [(fX.2.2.2.2.2 100 (by decide)).1]; exact h100
            refine ⟨_, w_run_mono (sp_run_L308 (f := f) (fuel := fuel) _ X iX.q x88 (by omega) (Or.inr (Nat.le_refl _))) (fun r u hu => ⟨Or.inr ⟨f, hu.1.1, hu.1.2.2⟩, hu.1.2.1, hu.2, hu.1.1.2.2.2.2⟩)⟩
          · have kn : k.toInt.toNat < n' := by omega
            have l := ls _ kn
            have eg := eL _ kn
            have at8 := plc_lt (g := qI A (t3 + 1)) kn
            have at0 := plc_ge (g := qI A (t3 + 1)) k.toInt.toNat
            have pk : plc (qI A (t3 + 1)) (k.toInt.toNat + 1) = plc (qI A (t3 + 1)) k.toInt.toNat + if (qI A (t3 + 1) k.toInt.toNat).toInt = 74 then 2 else 1 := rfl
            have pk8 : plc (qI A (t3 + 1)) (k.toInt.toNat + 1) ≤ 8 := by
              by_cases y : k.toInt.toNat + 1 = n'
              · rw [y]; exact pe'
              · have := plc_lt (g := qI A (t3 + 1)) (show k.toInt.toNat + 1 < n' by omega); omega
            have qX : qN X (t3 + 1) = n' := by rw [xt.2.2.2.2]; exact eN
            have j299 : ∀ (Y : MS) (t : Int32), frm [45, 47] [] H Y → (∀ i : Nat, (i : Int) < k.toInt + 1 → agV (qI A 0 85).toInt (qI A (t3 + 1) i) (qW Y 45 (plc (qI A (t3 + 1)) i).toNat) (qW Y 45 ((plc (qI A (t3 + 1)) i).toNat + 1))) → t.toInt = (if (qI A (t3 + 1) k.toInt.toNat).toInt = 74 then 2 else 1) → w_run_J299 (fun _ u => (qR u 0 80 = none ∨ ∃ f : Nat, McB u f ∧ FvI u f) ∧ ArI u ∧ (qI u 0 88).toInt = 0 ∧ qI u 0 96 = 0) (w_run_L165 (fun _ u => (qR u 0 80 = none ∨ ∃ f : Nat, McB u f ∧ FvI u f) ∧ ArI u ∧ (qI u 0 88).toInt = 0 ∧ qI u 0 96 = 0) c) Y t at_ fuel a1 t3 k := fun Y t fY hY et => by
              unfold w_run_J299
              intro a53 e53 a54 e54
              subst e54
              have t2 : 1 ≤ t.toInt ∧ t.toInt ≤ 2 := by rw [et]; split <;> omega
              refine ih Y a53 _ fY ⟨by omega, by omega⟩ ?_ (fun i hi => hY i (by omega)) (by omega)
              rw [e53, t_add (by omega), hat, et, ek, show (k.toInt + 1).toNat = k.toInt.toNat + 1 by omega, pk]
            have j280 : ∀ Y : MS, frm [45, 47] [] H Y → (∀ i : Nat, (i : Int) < k.toInt + 1 → agV (qI A 0 85).toInt (qI A (t3 + 1) i) (qW Y 45 (plc (qI A (t3 + 1)) i).toNat) (qW Y 45 ((plc (qI A (t3 + 1)) i).toNat + 1))) → w_run_J280 (fun _ u => (qR u 0 80 = none ∨ ∃ f : Nat, McB u f ∧ FvI u f) ∧ ArI u ∧ (qI u 0 88).toInt = 0 ∧ qI u 0 96 = 0) (w_run_L165 (fun _ u => (qR u 0 80 = none ∨ ∃ f : Nat, McB u f ∧ FvI u f) ∧ ArI u ∧ (qI u 0 88).toInt = 0 ∧ qI u 0 96 = 0) c) Y fuel a1 t3 at_ k := fun Y fY hY => by
              have yt := big_frm (kH.tr (fY.mo (by decide) (by decide))) (by decide) (t3 + 1) (by omega)
              unfold w_run_J280
              rw [yt.2.2.2.2, eN, cA Y k yt.1 hk.1 kn]
              refine ⟨⟨hk.1, by omega⟩, fun q => j299 Y 2 fY hY ?_, fun q => j299 Y 1 fY hY ?_⟩
              · rw [eg, if_pos q]; decide
              · rw [eg, if_neg q]; decide
            have l1 : (1 : Int32).toInt = 1 := li_1
            have oldW : ∀ B : MS, (∀ j : Nat, j < at_.toInt.toNat → qW B 45 j = qW X 45 j) → ∀ i : Nat, (i : Int) < k.toInt → agV (qI A 0 85).toInt (qI A (t3 + 1) i) (qW B 45 (plc (qI A (t3 + 1)) i).toNat) (qW B 45 ((plc (qI A (t3 + 1)) i).toNat + 1)) := fun B hB i hi => by
              have h0 := hv i hi
              have lt := plc_lt (g := qI A (t3 + 1)) (show i < k.toInt.toNat by omega)
              have i0 := plc_ge (g := qI A (t3 + 1)) i
              refine ⟨fun q => by rw [hB _ (by omega)]; exact h0.1 q, fun q => ?_, fun q1 q2 => by rw [hB _ (by omega)]; exact h0.2.2 q1 q2⟩
              have pl2 : plc (qI A (t3 + 1)) (i + 1) = plc (qI A (t3 + 1)) i + 2 := by
                show plc (qI A (t3 + 1)) i + (if (qI A (t3 + 1) i).toInt = 74 then (2 : Int) else 1) = _
                rw [if_pos q]
              have pl3 : plc (qI A (t3 + 1)) (i + 1) ≤ plc (qI A (t3 + 1)) k.toInt.toNat := by
                by_cases y : i + 1 = k.toInt.toNat
                · rw [y]; exact Int.le_refl _
                · have := plc_lt (g := qI A (t3 + 1)) (show i + 1 < k.toInt.toNat by omega); omega
              rw [hB _ (by omega), hB _ (by omega)]
              exact h0.2.1 q
            have j257 : ∀ (Y : MS) (g : Int32) (v : Int64), Y = wJ X 45 at_.toInt.toNat v → frm [45, 47] [] H Y → ((qI A (t3 + 1) k.toInt.toNat).toInt = 73 → okV (qI A 0 85).toInt (nb 1) (v, nb g)) → ((qI A (t3 + 1) k.toInt.toNat).toInt = 74 → okV (qI A 0 85).toInt (nb 2) (v, nb g)) → (¬ (qI A (t3 + 1) k.toInt.toNat).toInt = 73 → ¬ (qI A (t3 + 1) k.toInt.toNat).toInt = 74 → okV (qI A 0 85).toInt (nb 4) (v, nb g)) → w_run_J257 (fun _ u => (qR u 0 80 = none ∨ ∃ f : Nat, McB u f ∧ FvI u f) ∧ ArI u ∧ (qI u 0 88).toInt = 0 ∧ qI u 0 96 = 0) (w_run_L165 (fun _ u => (qR u 0 80 = none ∨ ∃ f : Nat, McB u f ∧ FvI u f) ∧ ArI u ∧ (qI u 0 88).toInt = 0 ∧ qI u 0 96 = 0) c) Y g at_ fuel a1 t3 at_ k := fun Y g v eY fY o73 o74 o65 => by
              unfold w_run_J257
              refine ⟨⟨by omega, by omega⟩, fun Z eZ => ?_⟩
              have fZ : frm [45, 47] [] H Z := fY.tr (by rw [eZ]; exact frm.pI (by decide))
              have zI : ∀ j : Nat, qI Z 47 j = if j = at_.toInt.toNat then nb g else qI X 47 j := fun j => by
                rw [eZ, qI_wI]
                by_cases e : j = at_.toInt.toNat
                · rw [if_pos e, if_pos ⟨rfl, e⟩]; rfl
                · rw [if_neg e, if_neg (fun q => e q.2), eY]; rfl
              have zJ : ∀ j : Nat, qJ Z 45 j = if j = at_.toInt.toNat then v else qJ X 45 j := fun j => by
                rw [eZ, qJ_wI, eY, qJ_wJ]
                by_cases e : j = at_.toInt.toNat
                · rw [if_pos e, if_pos ⟨rfl, e⟩]
                · rw [if_neg e, if_neg (fun q => e q.2)]
              have zW : ∀ j : Nat, qW Z 45 j = if j = at_.toInt.toNat then (v, nb g) else qW X 45 j := fun j => by
                unfold qW
                rw [zJ, show 45 + 2 = 47 from rfl, zI]
                split <;> rfl
              have zt := big_frm (kH.tr (fZ.mo (by decide) (by decide))) (by decide) (t3 + 1) (by omega)
              rw [zt.2.2.2.2, eN, cA Z k zt.1 hk.1 kn]
              have a1e : (at_ + (1 : Int32)).toInt = at_.toInt + 1 := by rw [t_add (by rw [li_1]; omega), li_1]
              refine ⟨⟨hk.1, by omega⟩, fun q => ⟨⟨by omega, by omega⟩, fun Z2 eZ2 => ?_⟩, fun q => j280 Z fZ (fun i hi => ?_)⟩
              · have z2W : ∀ j : Nat, qW Z2 45 j = if j = at_.toInt.toNat + 1 then (qJ Z 45 j, nb 3) else qW Z 45 j := fun j => by
                  have z2I : qI Z2 47 j = if j = at_.toInt.toNat + 1 then nb 3 else qI Z 47 j := by
                    rw [eZ2, qI_wI]
                    by_cases e : j = at_.toInt.toNat + 1
                    · rw [if_pos e, if_pos ⟨rfl, by omega⟩]; rfl
                    · rw [if_neg e, if_neg (fun q => e (by have := q.2; omega))]
                  have z2J : qJ Z2 45 j = qJ Z 45 j := by rw [eZ2, qJ_wI]
                  unfold qW
                  rw [z2J, show 45 + 2 = 47 from rfl, z2I]
                  split <;> rfl
                refine j280 Z2 (fZ.tr (by rw [eZ2]; exact frm.pI (by decide))) (fun i hi => ?_)
                by_cases e : i = k.toInt.toNat
                · subst e
                  have q74 : (qI A (t3 + 1) k.toInt.toNat).toInt = 74 := by rw [eg]; exact q
                  rw [← hat, z2W, if_neg (by omega), zW, if_pos rfl, z2W, if_pos rfl]
                  exact ⟨fun y => by omega, fun _ => ⟨o74 q74, okV.no (by decide) (by decide) (by decide) (by decide) (Or.inl rfl)⟩, fun _ y => absurd q74 y⟩
                · exact oldW Z2 (fun j hj => by rw [z2W, if_neg (by omega), zW, if_neg (by omega)]) i (by omega)
              · by_cases e : i = k.toInt.toNat
                · subst e
                  have n74 : ¬ (qI A (t3 + 1) k.toInt.toNat).toInt = 74 := by rw [eg]; exact q
                  rw [← hat, zW, if_pos rfl]
                  exact ⟨o73, fun y => absurd y n74, o65⟩
                · exact oldW Z (fun j hj => by rw [zW, if_neg (by omega)]) i (by omega)
            have j208 : ∀ v : Int64, ((qI A (t3 + 1) k.toInt.toNat).toInt = 73 → -2147483648 ≤ v.toInt ∧ v.toInt ≤ 2147483647) → (¬ (qI A (t3 + 1) k.toInt.toNat).toInt = 73 → v = qJ X 41 k.toInt.toNat) → (¬ (qI A (t3 + 1) k.toInt.toNat).toInt = 73 → ¬ (qI A (t3 + 1) k.toInt.toNat).toInt = 74 → 0 ≤ v.toInt ∧ v.toInt ≤ (qI A 0 85).toInt) → w_run_J208 (fun _ u => (qR u 0 80 = none ∨ ∃ f : Nat, McB u f ∧ FvI u f) ∧ ArI u ∧ (qI u 0 88).toInt = 0 ∧ qI u 0 96 = 0) (w_run_L165 (fun _ u => (qR u 0 80 = none ∨ ∃ f : Nat, McB u f ∧ FvI u f) ∧ ArI u ∧ (qI u 0 88).toInt = 0 ∧ qI u 0 96 = 0) c) X v at_ fuel a1 t3 at_ k := fun v v1 vx v2 => by
              unfold w_run_J208
              refine ⟨⟨by omega, by omega⟩, fun Y eY => ?_⟩
              have fY : frm [45, 47] [] H Y := fX.tr (by rw [eY]; exact frm.pJ (by decide))
              have yt := big_frm (kH.tr (fY.mo (by decide) (by decide))) (by decide) (t3 + 1) (by omega)
              rw [yt.2.2.2.2, eN, cA Y k yt.1 hk.1 kn]
              refine ⟨⟨hk.1, by omega⟩, fun q => j257 Y _ v eY fY (fun y => okV.i (v1 y) nb1v) (fun y => by rw [eg] at y; omega) (fun y => by rw [eg] at y; exact absurd q y), fun q => ⟨⟨hk.1, by omega⟩, fun q2 => j257 Y _ v eY fY (fun y => by rw [eg] at y; exact absurd y q) (fun _ => okV.z2 (show (nb 2).toInt = 2 by decide)) (fun _ y => by rw [eg] at y; exact absurd q2 y), fun q2 => ⟨⟨hk.1, by omega⟩, ?_, j257 Y _ v eY fY (fun y => by rw [eg] at y; exact absurd y q) (fun y => by rw [eg] at y; exact absurd y q2) (fun y1 y2 => ?_)⟩⟩⟩
              · unfold d_thingTag
                trivial
              · have ew : qJ Y 41 k.toInt.toNat = v := by
                  rw [vx y1, eY, qJ_wJ, if_neg (fun z => absurd z.1 (by decide))]
                rw [ew]
                have pv := v2 y1 y2
                exact okV.a pv (by show (nb (f_thingTag Y v)).toInt = 4 ∨ (nb (f_thingTag Y v)).toInt = 6; rw [tt_f (n := 1) (by decide)]; exact ptT_4 (by decide) pv.1)
            have X41 : qJ X 41 = qJ A 41 := (kX.2.2.2.2.1 41 (by decide) (by decide)).2.1
            rw [qX, cA X k xt.1 hk.1 kn]
            refine ⟨⟨hk.1, by omega⟩, fun q => ⟨⟨hk.1, by omega⟩, j208 _ (fun _ => i64_int _) (fun y => by rw [eg] at y; exact absurd q y) (fun y => by rw [eg] at y; exact absurd q y)⟩, fun q => ⟨⟨hk.1, by omega⟩, j208 _ (fun y => by rw [eg] at y; exact absurd y q) (fun _ => rfl) (fun y1 y2 => ?_)⟩⟩
            rw [eg] at y1 y2
            rw [X41]
            exact hargs _ kn (by omega)
      have l0 : (0 : Int32).toInt = 0 := rfl
      exact ⟨_, L _ H 0 0 frm.rf ⟨by decide, by rw [l0]; omega⟩ rfl (fun i hi => by rw [l0] at hi; omega) (Nat.lt_succ_self _)⟩
    have L60 : ∀ (c : Nat) (k : Int32), (0 ≤ k.toInt ∧ k.toInt ≤ n') → (∀ j : Nat, (j : Int) < k.toInt → (g' j).toInt = 65 → 0 ≤ (qJ A 41 j).toInt ∧ (qJ A 41 j).toInt ≤ (qI A 0 85).toInt) → (n' - k.toInt).toNat < c → w_run_L60 (fun _ u => (qR u 0 80 = none ∨ ∃ f : Nat, McB u f ∧ FvI u f) ∧ ArI u ∧ (qI u 0 88).toInt = 0 ∧ qI u 0 96 = 0) c A m fuel a1 t3 k := by
      intro c
      induction c with
      | zero => intro k _ _ h9; exact absurd h9 (Nat.not_lt_zero _)
      | succ c ih =>
        intro k hk hv hc
        have ek : (k + Int32.ofInt 1).toInt = k.toInt + 1 := by rw [t_add (by rw [lo_1]; omega), lo_1]
        unfold w_run_L60 w_run_J109
        rw [c2]
        refine ⟨fun z => ⟨fun _ => good, fun f0 => ⟨fun _ => beg (fun j hj => hv j (by omega)) (by omega), fun _ => good⟩⟩, fun z => ?_⟩
        have kn : k.toInt.toNat < n' := by omega
        rw [eN, cA A k rfl hk.1 kn]
        have nxt : ((g' k.toInt.toNat).toInt = 65 → 0 ≤ (qJ A 41 k.toInt.toNat).toInt ∧ (qJ A 41 k.toInt.toNat).toInt ≤ (qI A 0 85).toInt) → ∀ a76 : Int32, a76 = (k + Int32.ofInt 1) → w_run_L60 (fun _ u => (qR u 0 80 = none ∨ ∃ f : Nat, McB u f ∧ FvI u f) ∧ ArI u ∧ (qI u 0 88).toInt = 0 ∧ qI u 0 96 = 0) c A m fuel a1 t3 a76 := fun hq a76 e76 => by
          subst e76
          refine ih _ ⟨by omega, by omega⟩ (fun j hj => ?_) (by omega)
          by_cases e : j = k.toInt.toNat
          · rw [e]; exact hq
          · exact hv j (by omega)
        have l0 : (0 : Int64).toInt = 0 := by decide
        have x1 := c_cmp (x := qJ A 41 k.toInt.toNat) (y := (0 : Int64))
        have x2 := c_cmp (x := qJ A 41 k.toInt.toNat) (y := (qI A 0 85).toInt64)
        rw [l0] at x1
        rw [tl_of] at x2
        refine ⟨⟨hk.1, by omega⟩, fun q => ⟨⟨hk.1, by omega⟩, fun _ => good, fun y1 => ⟨⟨hk.1, by omega⟩, fun y2 => nxt (fun _ => ⟨by omega, by omega⟩), fun _ => good⟩⟩, fun q => nxt (fun y => absurd y q)⟩
    have l0 : (0 : Int32).toInt = 0 := rfl
    exact ⟨_, L60 _ 0 ⟨by decide, by rw [l0]; omega⟩ (fun j hj => by rw [l0] at hj; omega) (Nat.lt_succ_self _)⟩
/-! the graph: what is reached (behind sumN_upd, frm) -/
def zc (g : Nat → Int32) (n : Nat) : Nat := sumN (fun j => if (g j).toInt = 0 then 1 else 0) n
theorem zc_set {S : MS} {h i n : Nat} {v : Int32} (hi : i < n) (hv : ¬ v.toInt = 0) : zc (qI (wI S h i v) h) n ≤ zc (qI S h) n ∧ ((qI S h i).toInt = 0 → zc (qI (wI S h i v) h) n < zc (qI S h) n) := by
  have u := sumN_upd (g := fun j => if (qI S h j).toInt = 0 then 1 else 0) (g' := fun j => if (qI (wI S h i v) h j).toInt = 0 then 1 else 0) (i := i) (fun j hj => by
    show (if (qI (wI S h i v) h j).toInt = 0 then 1 else 0) = (if (qI S h j).toInt = 0 then 1 else 0)
    have e1 : qI (wI S h i v) h j = qI S h j := by rw [qI_wI, if_neg (fun q => hj q.2)]
    rw [e1]) n hi
  have e2 : qI (wI S h i v) h i = v := by rw [qI_wI, if_pos ⟨rfl, rfl⟩]
  have e : (if (qI (wI S h i v) h i).toInt = 0 then 1 else 0) = 0 := by rw [e2]; exact if_neg hv
  have u' : zc (qI (wI S h i v) h) n + (if (qI S h i).toInt = 0 then 1 else 0) = zc (qI S h) n + (if (qI (wI S h i v) h i).toInt = 0 then 1 else 0) := u
  rw [e] at u'
  constructor
  · split at u' <;> omega
  · intro q
    rw [if_pos q] at u'
    omega
/-- the edges are there -/
def GeI (S : MS) : Prop := (0 ≤ (qI S 0 105).toInt ∧ (qI S 0 105).toInt ≤ 1200) ∧ (0 ≤ (qI S 0 110).toInt ∧ (qI S 0 110).toInt ≤ 24000) ∧ (∀ b : Nat, (b : Int) ≤ (qI S 0 105).toInt → 0 ≤ (qI S 51 b).toInt ∧ (qI S 51 b).toInt ≤ (qI S 0 110).toInt) ∧ ∀ k : Nat, (k : Int) < (qI S 0 110).toInt → 0 ≤ (qI S 52 k).toInt ∧ (qI S 52 k).toInt < (qI S 0 105).toInt
theorem GeI.fm {S u : MS} {W J : List Nat} (h : GeI S) (k : frm W J S u) (h1 : 51 ∉ W) (h2 : 52 ∉ W) (h3 : 105 ∉ J) (h4 : 110 ∉ J) : GeI u := by
  unfold GeI
  rw [(k.2.2.2.2.1 51 (by decide) h1).1, (k.2.2.2.2.1 52 (by decide) h2).1, (k.2.2.2.2.2 105 h3).1, (k.2.2.2.2.2 110 h4).1]
  exact h
theorem vb1 : ¬ (vp_nar .boolean (1 : Int32)).toInt = 0 := by decide
def rcN (S : MS) : Nat := zc (qI S 53) (qI S 0 105).toInt.toNat
/-- a round of reach so far -/
def RcR (S0 U : MS) (m : Int32) : Prop := frm [53] [] S0 U ∧ rcN U ≤ rcN S0 ∧ (¬ m.toInt = 0 → rcN U < rcN S0)
