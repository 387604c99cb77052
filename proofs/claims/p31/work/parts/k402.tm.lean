/-! takeMethod (behind OpR, LkI, smL) -/
theorem i32_ex (i : Nat) (h : i ≤ 1200) : ∃ x : Int32, x.toInt = i := ⟨Int32.ofInt i, by
  have z : Int32.size = 4294967296 := rfl
  rw [Int32.toInt_ofInt, z, Int.bmod_def]; split <;> omega⟩
theorem OpR.al {S : MS} {L F M : Int} (h : OpR S L F M) (g : ∀ i : Nat, (i : Int) < gN S → (qI S 81 i).toInt = 0) : OpA S (gN S - 1).toNat := by
  have b := h.1
  refine ⟨⟨by omega, g _ (by omega), fun j j1 j2 => by omega⟩, fun i k i1 i2 i3 => ?_, fun c i c1 c2 i1 i2 i3 i4 => ?_⟩
  · obtain ⟨x, ex⟩ := i32_ex i (by omega)
    have ei : x.toInt.toNat = i := by omega
    obtain ⟨w1, w2, w3, w4⟩ := h.wy (x := x) (by omega)
    rw [ei] at w4
    have := w4 k i3
    omega
  · have := h.2.2.2.2 c c1
    omega
theorem wtS_su {R : Nat → Int32} {a : Nat} : ∀ n : Nat, (∀ i : Nat, i < n → 0 ≤ wtR R (a + i)) → ((sumN (fun i => (wtR R (a + i)).toNat) n : Nat) : Int) = wtS R a n := by
  intro n
  induction n with
  | zero => intro _; rfl
  | succ n ih =>
    intro h
    have e := ih (fun i hi => h i (by omega))
    have z := h n (by omega)
    show ((sumN (fun i => (wtR R (a + i)).toNat) n + (wtR R (a + n)).toNat : Nat) : Int) = wtS R a n + wtR R (a + n)
    omega
def tkR (V U : MS) (n : Int) : Prop := ∀ x : Int32, 0 ≤ x.toInt → x.toInt < n → (qI U 78 x.toInt.toNat = f_op V x ∧ qI U 79 x.toInt.toNat = f_first V x ∧ qI U 80 x.toInt.toNat = f_second V x) ∧ (qI U 81 x.toInt.toNat).toInt = 0
def tkC (V U : MS) (n : Int) : Prop := ∀ x : Int32, 0 ≤ x.toInt → x.toInt < n → qI U 82 x.toInt.toNat = f_catchWord V x 0 ∧ qI U 83 x.toInt.toNat = f_catchWord V x 1 ∧ qI U 84 x.toInt.toNat = f_catchWord V x 2 ∧ qI U 85 x.toInt.toNat = f_catchWord V x 3
theorem sp_take {V : MS} {L F M : Int} (k : LkI V) (hb : (0 ≤ L ∧ L ≤ 24) ∧ F ≤ 24 ∧ M ≤ 24) (hT : ∀ x : Int32, 0 ≤ x.toInt → x.toInt < (qI V 0 52).toInt → rV (qI V 75) 40000 (qI V 0 52).toInt L F M (f_op V x) (f_first V x) (f_second V x)) : ∀ A, A = wI V 0 129 (qI V 0 52) → ∃ n, w_takeMethod_L16 (fun u => OpE u L F M 3600 u ∧ gN u = (qI V 0 52).toInt ∧ tkR V u (qI V 0 52).toInt) n A 0 := by
  have kc := k.cnt
  have eq_ix : ∀ (x y : Int32), 0 ≤ x.toInt → 0 ≤ y.toInt → x.toInt.toNat = y.toInt.toNat → x = y := fun x y a b c => Int32.toInt_inj.mp (by omega)
  have fin : ∀ U : MS, frm [78, 79, 80, 81, 82, 83, 84, 85, 86] [129, 135] V U → qI U 0 129 = qI V 0 52 → qI U 0 135 = qI V 0 54 → tkR V U (qI V 0 52).toInt → tkC V U (qI V 0 54).toInt → OpE U L F M 3600 U ∧ gN U = (qI V 0 52).toInt ∧ tkR V U (qI V 0 52).toInt := fun U fU e1 e2 hR hC => by
    have eg : gN U = (qI V 0 52).toInt := by unfold gN; rw [e1]
    have e75 : qI U 75 = qI V 75 := (fU.2.2.2.2.1 75 (by decide) (by decide)).1
    have r : OpR U L F M := by
      refine ⟨by rw [eg]; exact kc.1, hb, fun i hi => ?_, by rw [e2]; exact kc.2.1, fun c hc => ?_⟩
      · obtain ⟨x, ex⟩ := i32_ex i (by omega)
        have ei : x.toInt.toNat = i := by omega
        obtain ⟨⟨q1, q2, q3⟩, _⟩ := hR x (by omega) (by omega)
        rw [ei] at q1 q2 q3
        rw [q1, q2, q3, e75, eg]
        exact hT x (by omega) (by omega)
      · rw [e2] at hc
        obtain ⟨x, ex⟩ := i32_ex c (by omega)
        have ei : x.toInt.toNat = c := by omega
        obtain ⟨q1, q2, q3, q4⟩ := hC x (by omega) (by omega)
        rw [ei] at q1 q2 q3 q4
        rw [q1, q2, q3, q4, eg]
        exact k.cw ⟨by omega, by omega⟩
    have wt : wtN U ≤ 3600 := by
      have ws : wtS (qI V (qO V 0 48)) (qI V 0 51).toInt.toNat (qI V 0 52).toInt.toNat ≤ 3600 := by
        obtain ⟨-, _, _, _, _, _, _, _, _, _, d, -⟩ := k
        exact d.2.2.2.2.1
      have row : ∀ i : Nat, (i : Int) < (qI V 0 52).toInt → qI U 78 i = qI V (qO V 0 48) (3 * ((qI V 0 51).toInt.toNat + i)) ∧ qI U 80 i = qI V (qO V 0 48) (3 * ((qI V 0 51).toInt.toNat + i) + 2) := fun i hi => by
        obtain ⟨x, ex⟩ := i32_ex i (by omega)
        have ei : x.toInt.toNat = i := by omega
        obtain ⟨⟨q1, q2, q3⟩, _⟩ := hR x (by omega) (by omega)
        rw [ei] at q1 q3
        obtain ⟨y1, y2, y3⟩ := lk_ix k (x := x) ⟨by omega, by omega⟩
        rw [q1, q3]
        unfold f_op f_second
        rw [y1, y3, show (3 * ((qI V 0 51).toInt + x.toInt)).toNat = 3 * ((qI V 0 51).toInt.toNat + i) by omega, show (3 * ((qI V 0 51).toInt + x.toInt) + 2).toNat = 3 * ((qI V 0 51).toInt.toNat + i) + 2 by omega]
        exact ⟨rfl, rfl⟩
      have nn : ∀ i : Nat, i < (qI V 0 52).toInt.toNat → 0 ≤ wtR (qI V (qO V 0 48)) ((qI V 0 51).toInt.toNat + i) := fun i hi => by
        have q := r.2.2.1 i (by omega)
        obtain ⟨y1, y2⟩ := row i (by omega)
        rw [y1, y2] at q
        have := wt_3 (fun w => (q.2.2.1 w).2.1)
        show (0 : Int) ≤ wtV _ _
        omega
      have su := wtS_su (R := qI V (qO V 0 48)) (a := (qI V 0 51).toInt.toNat) _ nn
      have eq : wtN U = sumN (fun i => (wtR (qI V (qO V 0 48)) ((qI V 0 51).toInt.toNat + i)).toNat) (qI V 0 52).toInt.toNat := by
        unfold wtN
        rw [eg]
        refine sumN_eq _ (fun i hi => ?_)
        obtain ⟨y1, y2⟩ := row i (by omega)
        show (wtV (qI U 78 i).toInt (qI U 80 i).toInt).toNat = _
        rw [y1, y2]
        rfl
      omega
    refine ⟨⟨r, ⟨_, r.al (fun i hi => ?_)⟩, wt, swE.rf⟩, eg, hR⟩
    obtain ⟨x, ex⟩ := i32_ex i (by omega)
    have ei : x.toInt.toNat = i := by omega
    have q := (hR x (by omega) (by omega)).2
    rw [ei] at q
    exact q
  have sl : ∀ U : MS, frm [78, 79, 80, 81, 82, 83, 84, 85, 86] [129, 135] V U → smL V U := fun U fU => smL.fm fU (by decide) (by decide)
  have L80 : ∀ (c : Nat) (U : MS) (x : Int32), frm [78, 79, 80, 81, 82, 83, 84, 85, 86] [129, 135] V U → qI U 0 129 = qI V 0 52 → qI U 0 135 = qI V 0 54 → tkR V U (qI V 0 52).toInt → 0 ≤ x.toInt → tkC V U x.toInt → (16 - x.toInt).toNat < c → w_takeMethod_L80 (fun u => OpE u L F M 3600 u ∧ gN u = (qI V 0 52).toInt ∧ tkR V u (qI V 0 52).toInt) c U x := by
    intro c
    induction c with
    | zero => intro U x _ _ _ _ _ _ h9; exact absurd h9 (Nat.not_lt_zero _)
    | succ c ih =>
      intro U x fU e1 e2 hR x0 hC hc
      unfold w_takeMethod_L80
      rw [e2]
      refine ⟨fun c1 => fin U fU e1 e2 hR (fun y y0 y1 => hC y y0 (by omega)), fun c1 => ?_⟩
      have rx : 0 ≤ x.toInt ∧ x.toInt < 16 := by omega
      have ek : (x + Int32.ofInt 1).toInt = x.toInt + 1 := by rw [t_add (by rw [lo_1]; omega), lo_1]
      have dc : ∀ (W : MS), frm [78, 79, 80, 81, 82, 83, 84, 85, 86] [129, 135] V W → ∀ j : Int32, 0 ≤ j.toInt ∧ j.toInt ≤ 3 → d_catchWord W x j ∧ f_catchWord W x j = f_catchWord V x j := fun W fW j hj => by
        have s := sl W fW
        exact ⟨(k.mv s).dcw ⟨x0, by rw [(s.2 54 (by decide) (by decide)).1]; omega⟩ hj, s.cw k x j⟩
      obtain ⟨d1, g1⟩ := dc U fU 0 (by decide)
      refine ⟨d1, rx, fun A eA => ?_⟩
      have fA : frm [78, 79, 80, 81, 82, 83, 84, 85, 86] [129, 135] V A := fU.tr (by rw [eA]; exact frm.pI (by decide))
      obtain ⟨d2, g2⟩ := dc A fA 1 (by decide)
      refine ⟨d2, rx, fun B eB => ?_⟩
      have fB : frm [78, 79, 80, 81, 82, 83, 84, 85, 86] [129, 135] V B := fA.tr (by rw [eB]; exact frm.pI (by decide))
      obtain ⟨d3, g3⟩ := dc B fB 2 (by decide)
      refine ⟨d3, rx, fun C eC => ?_⟩
      have fC : frm [78, 79, 80, 81, 82, 83, 84, 85, 86] [129, 135] V C := fB.tr (by rw [eC]; exact frm.pI (by decide))
      obtain ⟨d4, g4⟩ := dc C fC 3 (by decide)
      refine ⟨d4, rx, fun D eD => ⟨rx, fun E eE a ea => ?_⟩⟩
      have fD : frm [78, 79, 80, 81, 82, 83, 84, 85, 86] [129, 135] V D := fC.tr (by rw [eD]; exact frm.pI (by decide))
      have fE : frm [78, 79, 80, 81, 82, 83, 84, 85, 86] [129, 135] V E := fD.tr (by rw [eE]; exact frm.pI (by decide))
      subst ea
      have u : ∀ a : Nat, a ≠ 82 → a ≠ 83 → a ≠ 84 → a ≠ 85 → a ≠ 86 → qI E a = qI U a := fun a h1 h2 h3 h4 h5 => by
        rw [eE, rdH h5, eD, rdH h4, eC, rdH h3, eB, rdH h2, eA, rdH h1]
      have z0 : qI E 0 = qI U 0 := u 0 (by decide) (by decide) (by decide) (by decide) (by decide)
      refine ih E _ fE (by rw [z0]; exact e1) (by rw [z0]; exact e2) (fun y y0 y1 => ?_) (by omega) (fun y y0 y1 => ?_) (by omega)
      · rw [u 78 (by decide) (by decide) (by decide) (by decide) (by decide), u 79 (by decide) (by decide) (by decide) (by decide) (by decide), u 80 (by decide) (by decide) (by decide) (by decide) (by decide), u 81 (by decide) (by decide) (by decide) (by decide) (by decide)]
        exact hR y y0 y1
      · by_cases q : y.toInt.toNat = x.toInt.toNat
        · have e := eq_ix y x y0 x0 q
          subst e
          refine ⟨?_, ?_, ?_, ?_⟩
          · rw [eE, rdH (by decide), eD, rdH (by decide), eC, rdH (by decide), eB, rdH (by decide), eA, qI_wI, if_pos ⟨rfl, rfl⟩, g1]
          · rw [eE, rdH (by decide), eD, rdH (by decide), eC, rdH (by decide), eB, qI_wI, if_pos ⟨rfl, rfl⟩, g2]
          · rw [eE, rdH (by decide), eD, rdH (by decide), eC, qI_wI, if_pos ⟨rfl, rfl⟩, g3]
          · rw [eE, rdH (by decide), eD, qI_wI, if_pos ⟨rfl, rfl⟩, g4]
        · obtain ⟨p1, p2, p3, p4⟩ := hC y y0 (by omega)
          refine ⟨?_, ?_, ?_, ?_⟩
          · rw [eE, rdH (by decide), eD, rdH (by decide), eC, rdH (by decide), eB, rdH (by decide), eA, qI_wI, if_neg (fun w => q w.2), p1]
          · rw [eE, rdH (by decide), eD, rdH (by decide), eC, rdH (by decide), eB, qI_wI, if_neg (fun w => q w.2), eA, rdH (by decide), p2]
          · rw [eE, rdH (by decide), eD, rdH (by decide), eC, qI_wI, if_neg (fun w => q w.2), eB, rdH (by decide), eA, rdH (by decide), p3]
          · rw [eE, rdH (by decide), eD, qI_wI, if_neg (fun w => q w.2), eC, rdH (by decide), eB, rdH (by decide), eA, rdH (by decide), p4]
  have L16 : ∀ (c : Nat) (U : MS) (x : Int32), frm [78, 79, 80, 81, 82, 83, 84, 85, 86] [129, 135] V U → qI U 0 129 = qI V 0 52 → 0 ≤ x.toInt → tkR V U x.toInt → (1200 - x.toInt).toNat < c → w_takeMethod_L16 (fun u => OpE u L F M 3600 u ∧ gN u = (qI V 0 52).toInt ∧ tkR V u (qI V 0 52).toInt) c U x := by
    intro c
    induction c with
    | zero => intro U x _ _ _ _ h9; exact absurd h9 (Nat.not_lt_zero _)
    | succ c ih =>
      intro U x fU e1 x0 hR hc
      unfold w_takeMethod_L16
      rw [e1]
      refine ⟨fun c1 A eA => ⟨_, L80 _ A 0 (fU.tr (by rw [eA]; exact frm.pI0 (by decide))) ?_ ?_ (fun y y0 y1 => ?_) (by decide) (fun y y0 y1 => ?_) (Nat.lt_succ_self _)⟩, fun c1 => ?_⟩
      · rw [eA, qI_wI, if_neg (by decide)]; exact e1
      · rw [eA, qI_wI, if_pos ⟨rfl, rfl⟩]
        exact ((sl U fU).2 54 (by decide) (by decide)).1
      · rw [eA, rdH (by decide), rdH (by decide), rdH (by decide), rdH (by decide)]
        exact hR y y0 (by omega)
      · have : (0 : Int32).toInt = 0 := rfl
        omega
      have rx : 0 ≤ x.toInt ∧ x.toInt < 1200 := by omega
      have ek : (x + Int32.ofInt 1).toInt = x.toInt + 1 := by rw [t_add (by rw [lo_1]; omega), lo_1]
      have dc : ∀ (W : MS), frm [78, 79, 80, 81, 82, 83, 84, 85, 86] [129, 135] V W → (d_op W x ∧ d_first W x ∧ d_second W x) ∧ f_op W x = f_op V x ∧ f_first W x = f_first V x ∧ f_second W x = f_second V x := fun W fW => by
        have s := sl W fW
        exact ⟨(k.mv s).dop ⟨x0, by rw [(s.2 52 (by decide) (by decide)).1]; omega⟩, s.op k x⟩
      obtain ⟨⟨d1, _, _⟩, g1, _, _⟩ := dc U fU
      refine ⟨d1, rx, fun A eA => ?_⟩
      have fA : frm [78, 79, 80, 81, 82, 83, 84, 85, 86] [129, 135] V A := fU.tr (by rw [eA]; exact frm.pI (by decide))
      obtain ⟨⟨_, d2, _⟩, _, g2, _⟩ := dc A fA
      refine ⟨d2, rx, fun B eB => ?_⟩
      have fB : frm [78, 79, 80, 81, 82, 83, 84, 85, 86] [129, 135] V B := fA.tr (by rw [eB]; exact frm.pI (by decide))
      obtain ⟨⟨_, _, d3⟩, _, _, g3⟩ := dc B fB
      refine ⟨d3, rx, fun C eC => ⟨rx, fun D eD a ea => ?_⟩⟩
      have fC : frm [78, 79, 80, 81, 82, 83, 84, 85, 86] [129, 135] V C := fB.tr (by rw [eC]; exact frm.pI (by decide))
      have fD : frm [78, 79, 80, 81, 82, 83, 84, 85, 86] [129, 135] V D := fC.tr (by rw [eD]; exact frm.pI (by decide))
      subst ea
      refine ih D _ fD (by rw [eD, rdH (by decide), eC, rdH (by decide), eB, rdH (by decide), eA, rdH (by decide)]; exact e1) (by omega) (fun y y0 y1 => ?_) (by omega)
      by_cases q : y.toInt.toNat = x.toInt.toNat
      · have e := eq_ix y x y0 x0 q
        subst e
        refine ⟨⟨?_, ?_, ?_⟩, ?_⟩
        · rw [eD, rdH (by decide), eC, rdH (by decide), eB, rdH (by decide), eA, qI_wI, if_pos ⟨rfl, rfl⟩, g1]
        · rw [eD, rdH (by decide), eC, rdH (by decide), eB, qI_wI, if_pos ⟨rfl, rfl⟩, g2]
        · rw [eD, rdH (by decide), eC, qI_wI, if_pos ⟨rfl, rfl⟩, g3]
        · rw [eD, qI_wI, if_pos ⟨rfl, rfl⟩]; decide
      · obtain ⟨⟨p1, p2, p3⟩, p4⟩ := hR y y0 (by omega)
        refine ⟨⟨?_, ?_, ?_⟩, ?_⟩
        · rw [eD, rdH (by decide), eC, rdH (by decide), eB, rdH (by decide), eA, qI_wI, if_neg (fun w => q w.2), p1]
        · rw [eD, rdH (by decide), eC, rdH (by decide), eB, qI_wI, if_neg (fun w => q w.2), eA, rdH (by decide), p2]
        · rw [eD, rdH (by decide), eC, qI_wI, if_neg (fun w => q w.2), eB, rdH (by decide), eA, rdH (by decide), p3]
        · rw [eD, qI_wI, if_neg (fun w => q w.2), eC, rdH (by decide), eB, rdH (by decide), eA, rdH (by decide)]; exact p4
  intro A eA
  refine ⟨_, L16 _ A 0 (by rw [eA]; exact frm.pI0 (by decide)) (by rw [eA, qI_wI, if_pos ⟨rfl, rfl⟩]) (by decide) (fun y y0 y1 => ?_) (Nat.lt_succ_self _)⟩
  have : (0 : Int32).toInt = 0 := rfl
  omega
/-! mark, as sp_mark (laid from it), and more: a catch that stays covers a row that is there -/
def MkC (S U : MS) (n : Int) : Prop := frm [86, 87] [] S U ∧ (∀ c : Nat, (qI U 86 c).toInt = 0 → (qI S 86 c).toInt = 0) ∧ ∀ c : Nat, (c : Int) < n → (qI U 86 c).toInt = 0 → ∃ i : Nat, (i : Int) < gN S ∧ (qI S 81 i).toInt = 0 ∧ (qI S 82 c).toInt ≤ i ∧ (i : Int) < (qI S 83 c).toInt
theorem sp_markC {S : MS} {L F M : Int} (h : OpR S L F M) : w_mark S (fun u => MkC S u (qI S 0 135).toInt) := by
  have b := h.1
  have hN : 0 ≤ gN S ∧ gN S ≤ 1200 := by omega
  have cc := h.2.2.2.1
  have co := h.2.2.2.2
  have up : ∀ U : MS, frm [86, 87] [] S U → smO S U := fun U fU => smO.fm fU (by decide) (by decide) (by decide)
  have w87 : ∀ (U D : MS) (j : Nat) (v : Int32), MkC S U (qI S 0 135).toInt → D = wI U 87 j v → MkC S D (qI S 0 135).toInt := fun U D j v hU eD => ⟨hU.1.tr (by rw [eD]; exact frm.pI (by decide)), by rw [eD, rdH (by decide)]; exact hU.2.1, by rw [eD, rdH (by decide)]; exact hU.2.2⟩
  have L128 : ∀ (c : Nat) (U : MS) (x : Int32), MkC S U (qI S 0 135).toInt → 0 ≤ x.toInt → (16 - x.toInt).toNat < c → w_mark_L128 (fun u => MkC S u (qI S 0 135).toInt) c U x := by
    intro c
    induction c with
    | zero => intro U x _ _ h9; exact absurd h9 (Nat.not_lt_zero _)
    | succ c ih =>
      intro U x hU x0 hc
      have s := up U hU.1
      unfold w_mark_L128 w_mark_J196
      rw [s.2.1]
      refine ⟨fun _ => hU, fun c1 => ?_⟩
      have ek : (x + Int32.ofInt 1).toInt = x.toInt + 1 := by rw [t_add (by rw [lo_1]; omega), lo_1]
      have rg : 0 ≤ x.toInt ∧ x.toInt < 16 := by omega
      have cx := co x.toInt.toNat (by omega)
      have hr : ∀ (V : MS) (t : Int32), (frm [86, 87] [] S V) → (0 ≤ t.toInt ∧ t.toInt ≤ gN S) → w_here V t (fun r u => u = V ∧ 0 ≤ r.toInt ∧ HrP V t.toInt.toNat r.toInt.toNat) := fun V t fV ht => by
        have sv := up V fV
        exact fn_here (by rw [sv.gn]; exact hN) (by rw [sv.gn]; exact ht)
      refine ⟨rg, fun _ => ⟨rg, _, hr U _ hU.1 (by rw [s.2.2.2.2.2.2.2.1]; omega), ?_⟩, fun _ a ea => by subst ea; exact ih U _ hU (by omega) (by omega)⟩
      rintro r u ⟨eu, r0, r1⟩
      subst eu
      have q1 := r1.2.1
      rw [s.gn] at q1
      refine ⟨⟨r0, by omega⟩, fun D eD => ?_⟩
      have hD := w87 _ D _ _ hU eD
      have sD := up D hD.1
      refine ⟨rg, _, hr D _ hD.1 (by rw [sD.2.2.2.2.2.2.2.2.1]; omega), ?_⟩
      rintro r2 u2 ⟨eu2, r20, r21⟩
      subst eu2
      have q2 := r21.2.1
      rw [sD.gn] at q2
      refine ⟨⟨r20, by omega⟩, fun E eE => ?_⟩
      have hE := w87 _ E _ _ hD eE
      have sE := up E hE.1
      refine ⟨rg, _, hr E _ hE.1 (by rw [sE.2.2.2.2.2.2.2.2.2.1]; omega), ?_⟩
      rintro r3 u3 ⟨eu3, r30, r31⟩
      subst eu3
      have q3 := r31.2.1
      rw [sE.gn] at q3
      refine ⟨⟨r30, by omega⟩, fun G eG a ea => ?_⟩
      subst ea
      exact ih G _ (w87 _ G _ _ hE eG) (by omega) (by omega)
  have L93 : ∀ (k71 : MS → Int32 → Prop) (x : Int32), (0 ≤ x.toInt ∧ x.toInt < gN S) → (∀ U : MS, MkC S U (qI S 0 135).toInt → k71 U (x + Int32.ofInt 1)) → ∀ (c : Nat) (U : MS) (k : Int32), MkC S U (qI S 0 135).toInt → 0 ≤ k.toInt → (202 - k.toInt).toNat < c → w_mark_L93 (fun u => MkC S u (qI S 0 135).toInt) k71 c U x k := by
    intro k71 x hx hk c
    induction c with
    | zero => intro U k _ _ h9; exact absurd h9 (Nat.not_lt_zero _)
    | succ c ih =>
      intro U k hU k0 hc
      have s := up U hU.1
      have rU := s.r h
      obtain ⟨w1, w2, w3, w4⟩ := rU.wy (x := x) (by rw [s.gn]; exact hx)
      unfold w_mark_L93 w_mark_J120
      rw [w2]
      refine ⟨w1, fun _ a ea => by subst ea; exact hk U hU, fun c1 => ⟨_, fn_wayOf rU (by rw [s.gn]; exact hx) ⟨k0, by omega⟩, ?_⟩⟩
      rintro r u ⟨eu, r0, r1⟩
      subst eu
      have q1 := r1.2.1
      rw [s.gn] at q1
      have ek : (k + Int32.ofInt 1).toInt = k.toInt + 1 := by rw [t_add (by rw [lo_1]; omega), lo_1]
      refine ⟨⟨r0, by omega⟩, fun D eD a ea => ?_⟩
      subst ea
      exact ih D _ (w87 _ D _ _ hU eD) (by omega) (by omega)
  have L71 : ∀ (c : Nat) (U : MS) (x : Int32), MkC S U (qI S 0 135).toInt → 0 ≤ x.toInt → (1200 - x.toInt).toNat < c → w_mark_L71 (fun u => MkC S u (qI S 0 135).toInt) c U x := by
    intro c
    induction c with
    | zero => intro U x _ _ h9; exact absurd h9 (Nat.not_lt_zero _)
    | succ c ih =>
      intro U x hU x0 hc
      have s := up U hU.1
      have eg : (qI U 0 129).toInt = gN S := s.gn
      unfold w_mark_L71 w_mark_J120
      rw [eg]
      refine ⟨fun _ => ⟨_, L128 _ U 0 hU (by decide) (Nat.lt_succ_self _)⟩, fun c1 => ?_⟩
      have ek : (x + Int32.ofInt 1).toInt = x.toInt + 1 := by rw [t_add (by rw [lo_1]; omega), lo_1]
      refine ⟨⟨x0, by omega⟩, fun _ => ⟨_, L93 _ x ⟨x0, by omega⟩ (fun V hV => ih V _ hV (by omega) (by omega)) _ U 0 hU (by decide) (Nat.lt_succ_self _)⟩, fun _ a ea => by subst ea; exact ih U _ hU (by omega) (by omega)⟩
  have L48 : ∀ (c : Nat) (U : MS) (x : Int32), MkC S U (qI S 0 135).toInt → 0 ≤ x.toInt → (1201 - x.toInt).toNat < c → w_mark_L48 (fun u => MkC S u (qI S 0 135).toInt) c U x := by
    intro c
    induction c with
    | zero => intro U x _ _ h9; exact absurd h9 (Nat.not_lt_zero _)
    | succ c ih =>
      intro U x hU x0 hc
      have s := up U hU.1
      have eg : (qI U 0 129).toInt = gN S := s.gn
      unfold w_mark_L48
      rw [eg]
      refine ⟨fun _ => ⟨_, L71 _ U 0 hU (by decide) (Nat.lt_succ_self _)⟩, fun c1 => ⟨⟨x0, by omega⟩, fun D eD a ea => ?_⟩⟩
      have ek : (x + Int32.ofInt 1).toInt = x.toInt + 1 := by rw [t_add (by rw [lo_1]; omega), lo_1]
      subst ea
      exact ih D _ (w87 _ D _ _ hU eD) (by omega) (by omega)
  have L2 : ∀ (c : Nat) (U : MS) (x : Int32), MkC S U x.toInt → 0 ≤ x.toInt → (16 - x.toInt).toNat < c → w_mark_L2 (fun u => MkC S u (qI S 0 135).toInt) c U x := by
    intro c
    induction c with
    | zero => intro U x _ _ h9; exact absurd h9 (Nat.not_lt_zero _)
    | succ c ih =>
      intro U x hU x0 hc
      have s := up U hU.1
      unfold w_mark_L2 w_mark_J40
      rw [s.2.1]
      refine ⟨fun c1 => ⟨_, L48 _ U 0 ⟨hU.1, hU.2.1, fun c' h1 => hU.2.2 c' (by omega)⟩ (by decide) (Nat.lt_succ_self _)⟩, fun c1 => ?_⟩
      have ek : (x + Int32.ofInt 1).toInt = x.toInt + 1 := by rw [t_add (by rw [lo_1]; omega), lo_1]
      have rg : 0 ≤ x.toInt ∧ x.toInt < 16 := by omega
      have cx := co x.toInt.toNat (by omega)
      refine ⟨rg, _, fn_here (by rw [s.gn]; exact hN) (by rw [s.gn, s.2.2.2.2.2.2.2.1]; omega), ?_⟩
      rintro r u ⟨eu, r0, r1⟩
      subst eu
      refine ⟨rg, _, fn_here (by rw [s.gn]; exact hN) (by rw [s.gn, s.2.2.2.2.2.2.2.2.1]; omega), ?_⟩
      rintro r2 u2 ⟨eu2, r20, r21⟩
      subst eu2
      refine ⟨fun c2 a ea => ?_, fun _ => ⟨rg, fun D eD a ea => ?_⟩⟩
      · subst ea
        refine ih _ _ ⟨hU.1, hU.2.1, fun c' h1 h2 => ?_⟩ (by omega) (by omega)
        by_cases q : c' = x.toInt.toNat
        · subst q
          have z1 := r1.2.2.1
          have z2 := r21.2.1
          have z3 := r1.1
          have z4 := r21.2.2.2
          rw [s.gn] at z1 z2
          rw [s.2.2.2.2.2.2.1] at z1
          have g0 := z1 (by omega)
          rw [s.2.2.2.2.2.2.2.1] at z3
          refine ⟨r.toInt.toNat, by omega, g0, by omega, ?_⟩
          by_cases y : (r.toInt.toNat : Int) < (qI S 83 x.toInt.toNat).toInt
          · exact y
          · exact absurd (by rw [s.2.2.2.2.2.2.1]; exact g0) (z4 r.toInt.toNat (by rw [s.2.2.2.2.2.2.2.2.1]; omega) (by omega))
        · exact hU.2.2 c' (by omega) h2
      · subst ea
        refine ih D _ ⟨hU.1.tr (by rw [eD]; exact frm.pI (by decide)), fun c' hc' => ?_, fun c' h1 h2 => ?_⟩ (by omega) (by omega)
        · rw [eD, qI_wI] at hc'
          by_cases q : (86 : Nat) = 86 ∧ c' = x.toInt.toNat
          · rw [if_pos q] at hc'; exact absurd hc' vb1
          · rw [if_neg q] at hc'; exact hU.2.1 c' hc'
        · rw [eD, qI_wI] at h2
          by_cases q : (86 : Nat) = 86 ∧ c' = x.toInt.toNat
          · rw [if_pos q] at h2; exact absurd h2 vb1
          · rw [if_neg q] at h2
            exact hU.2.2 c' (by have : ¬ c' = x.toInt.toNat := fun y => q ⟨rfl, y⟩
                                omega) h2
  unfold w_mark
  exact ⟨_, L2 _ S 0 ⟨frm.rf, fun _ q => q, fun c' h1 => by have : (0 : Int32).toInt = 0 := rfl
                                                            omega⟩ (by decide) (Nat.lt_succ_self _)⟩
/-! putMethod, its first loop: the rows are laid (behind OpR, wtV, wtS) -/
def DrP (S : MS) (a b c : Int32) (u : MS) : Prop := frm [74] [122] S u ∧ (qI u 0 122).toInt = (qI S 0 122).toInt + 1 ∧ (∀ j : Nat, j < 3 * (qI S 0 122).toInt.toNat → qI u 74 j = qI S 74 j) ∧ qI u 74 (3 * (qI S 0 122).toInt.toNat) = a ∧ qI u 74 (3 * (qI S 0 122).toInt.toNat + 1) = b ∧ qI u 74 (3 * (qI S 0 122).toInt.toNat + 2) = c
theorem sp_draftRow {S : MS} {a b c : Int32} (h : 0 ≤ (qI S 0 122).toInt ∧ (qI S 0 122).toInt < 29000) : w_draftRow S a b c (DrP S a b c) := by
  have e3 : ((3 : Int32) * qI S 0 122).toInt = 3 * (qI S 0 122).toInt := by rw [t_mul (by rw [li_3]; omega), li_3]
  have e4 : ((3 : Int32) * qI S 0 122 + 1).toInt = 3 * (qI S 0 122).toInt + 1 := by rw [t_add (by rw [li_1]; omega), li_1, e3]
  have e5 : ((3 : Int32) * qI S 0 122 + 2).toInt = 3 * (qI S 0 122).toInt + 2 := by rw [t_add (by rw [li_2]; omega), li_2, e3]
  have e1 : (qI S 0 122 + (1 : Int32)).toInt = (qI S 0 122).toInt + 1 := by rw [t_add (by rw [li_1]; omega), li_1]
  unfold w_draftRow
  refine ⟨by omega, fun A eA => ?_⟩
  have a0 : qI A 0 122 = qI S 0 122 := by rw [eA, rdH (by decide)]
  rw [a0]
  refine ⟨by omega, fun B eB => ?_⟩
  have b0 : qI B 0 122 = qI S 0 122 := by rw [eB, rdH (by decide), a0]
  rw [b0]
  refine ⟨by omega, fun C eC D eD => ?_⟩
  have c0 : qI C 0 122 = qI S 0 122 := by rw [eC, rdH (by decide), b0]
  rw [e3] at eA
  rw [e4] at eB
  rw [e5] at eC
  have fA : frm [74] [122] S A := by rw [eA]; exact frm.pI (by decide)
  have fB : frm [74] [122] A B := by rw [eB]; exact frm.pI (by decide)
  have fC : frm [74] [122] B C := by rw [eC]; exact frm.pI (by decide)
  have fD : frm [74] [122] C D := by rw [eD]; exact frm.pI0 (by decide)
  have d74 : qI D 74 = qI C 74 := by rw [eD, rdH (by decide)]
  refine ⟨fA.tr (fB.tr (fC.tr fD)), ?_, fun j hj => ?_, ?_, ?_, ?_⟩
  · rw [eD, qI_wI, if_pos ⟨rfl, rfl⟩, c0, e1]
  · rw [d74, eC, qI_wI, if_neg (fun q => by omega), eB, qI_wI, if_neg (fun q => by omega), eA, qI_wI, if_neg (fun q => by omega)]
  · rw [d74, eC, qI_wI, if_neg (fun q => by omega), eB, qI_wI, if_neg (fun q => by omega), eA, qI_wI, if_pos ⟨rfl, by omega⟩]
  · rw [d74, eC, qI_wI, if_neg (fun q => by omega), eB, qI_wI, if_pos ⟨rfl, by omega⟩]
  · rw [d74, eC, qI_wI, if_pos ⟨rfl, by omega⟩]
def wtF (S : MS) (i : Nat) : Nat := (wtV (qI S 78 i).toInt (qI S 80 i).toInt).toNat
def rowE (S U : MS) (j q : Nat) : Prop := qI U 74 (3 * q) = qI S 78 j ∧ qI U 74 (3 * q + 1) = qI S 79 j ∧ qI U 74 (3 * q + 2) = qI S 80 j
/-- a row of a counter -/
def cRo (F : Int) (o a : Int32) : Prop := o.toInt = 20 ∨ o.toInt = 97 ∨ ((o.toInt = 178 ∨ o.toInt = 179) ∧ 0 ≤ a.toInt ∧ a.toInt < F)
def PmJ (S U : MS) (Z : Nat → Int32) (B : Nat) (F : Int) (x e c : Nat) : Prop := (frm [70, 74, 91, 92] [122] S U ∧ (qI U 0 122).toInt = (B : Int) + e ∧ e ≤ x + c ∧ ((∀ j : Nat, j < 3 * B → qI U 74 j = qI S 74 j) ∧ qI U 70 = Z) ∧ wtS (qI U 74) B e ≤ ((sumN (wtF S) x : Nat) : Int) + 3 * (c : Int)) ∧ (∀ j : Nat, j < x → (0 ≤ (qI U 91 j).toInt ∧ (qI U 91 j).toInt ≤ e) ∧ ((qI S 81 j).toInt = 0 → (qI U 91 j).toInt < e)) ∧ (∀ j : Nat, j < x → (qI S 81 j).toInt = 0 → ∃ p : Nat, p < e ∧ (qI U 92 j).toInt = (B : Int) + p ∧ rowE S U j (B + p)) ∧ (∀ p : Nat, p < e → (∃ j : Nat, j < x ∧ (qI S 81 j).toInt = 0 ∧ (qI U 92 j).toInt = (B : Int) + p) ∨ cRo F (qI U 74 (3 * (B + p))) (qI U 74 (3 * (B + p) + 1))) ∧ ∀ i j : Nat, i < x → j < x → (qI S 81 i).toInt = 0 → (qI S 81 j).toInt = 0 → (qI U 92 i).toInt = (qI U 92 j).toInt → i = j
/-- a row of a counter is laid -/
theorem PmJ.cn {S U V : MS} {Z : Nat → Int32} {B : Nat} {F : Int} {x e c : Nat} {a b d : Int32} (h : PmJ S U Z B F x e c) (k : DrP U a b d V) (hc : cRo F a b) : PmJ S V Z B F x (e + 1) (c + 1) := by
  obtain ⟨⟨f, n1, n2, n3, n4⟩, h2, h3, h4, h5⟩ := h
  obtain ⟨g, k1, k2, k3, k4, k5⟩ := k
  have en : (qI U 0 122).toInt.toNat = B + e := by omega
  rw [en] at k2 k3 k4 k5
  have g91 : qI V 91 = qI U 91 := (g.2.2.2.2.1 91 (by decide) (by decide)).1
  have g92 : qI V 92 = qI U 92 := (g.2.2.2.2.1 92 (by decide) (by decide)).1
  have w : wtS (qI V 74) B (e + 1) = wtS (qI U 74) B e + wtV a.toInt d.toInt := by
    show wtS (qI V 74) B e + wtR (qI V 74) (B + e) = _
    rw [wtS_eq (R := qI U 74) e (fun j _ hj => k2 j hj)]
    unfold wtR
    rw [k3, k5]
  have w3 : wtV a.toInt d.toInt ≤ 3 := wt3 (by unfold cRo at hc; omega)
  refine ⟨⟨f.tr (g.mo (by decide) (by decide)), by omega, by omega, ⟨fun j hj => by rw [k2 j (by omega)]; exact n3.1 j hj, by rw [(g.2.2.2.2.1 70 (by decide) (by decide)).1]; exact n3.2⟩, by rw [w]; omega⟩, fun j hj => ?_, fun j hj q => ?_, fun p hp => ?_, ?_⟩
  · rw [g91]
    have := h2 j hj
    exact ⟨by omega, fun q => by have := this.2 q; omega⟩
  · obtain ⟨p, p1, p2, p3, p4, p5⟩ := h3 j hj q
    exact ⟨p, by omega, by rw [g92]; exact p2, by rw [k2 _ (by omega)]; exact p3, by rw [k2 _ (by omega)]; exact p4, by rw [k2 _ (by omega)]; exact p5⟩
  · by_cases q : p = e
    · subst q
      rw [k3, k4]
      exact Or.inr hc
    · rw [g92, k2 _ (by omega), k2 _ (by omega)]
      exact h4 p (by omega)
  · rw [g92]
    exact h5
/-- a row that is there is laid -/
theorem PmJ.pl {S U W V : MS} {Z : Nat → Int32} {B : Nat} {F : Int} {x e c : Nat} (h : PmJ S U Z B F x e c) (gx : (qI S 81 x).toInt = 0) (n91 : 0 ≤ (qI U 91 x).toInt ∧ (qI U 91 x).toInt ≤ e) (eW : W = wI U 92 x (qI U 0 122)) (k : DrP W (qI W 78 x) (qI W 79 x) (qI W 80 x) V) : PmJ S V Z B F (x + 1) (e + 1) c := by
  obtain ⟨⟨f, n1, n2, n3, n4⟩, h2, h3, h4, h5⟩ := h
  obtain ⟨g, k1, k2, k3, k4, k5⟩ := k
  have fW : frm [70, 74, 91, 92] [122] U W := by rw [eW]; exact frm.pI (by decide)
  have fSW := f.tr fW
  have z := fun (a : Nat) (h1 : a ≠ 0) (h2 : a ∉ [70, 74, 91, 92]) => (fSW.2.2.2.2.1 a h1 h2).1
  have w122 : qI W 0 122 = qI U 0 122 := by rw [eW, rdH (by decide)]
  rw [w122] at k1 k2 k3 k4 k5
  have en : (qI U 0 122).toInt.toNat = B + e := by omega
  rw [en] at k2 k3 k4 k5
  rw [z 78 (by decide) (by decide)] at k3
  rw [z 79 (by decide) (by decide)] at k4
  rw [z 80 (by decide) (by decide)] at k5
  have w74 : qI W 74 = qI U 74 := by rw [eW, rdH (by decide)]
  rw [w74] at k2
  have g91 : qI V 91 = qI U 91 := by rw [(g.2.2.2.2.1 91 (by decide) (by decide)).1, eW, rdH (by decide)]
  have g92 : ∀ j : Nat, qI V 92 j = if j = x then qI U 0 122 else qI U 92 j := fun j => by
    rw [(g.2.2.2.2.1 92 (by decide) (by decide)).1, eW, qI_wI]
    by_cases q : j = x
    · rw [if_pos ⟨rfl, q⟩, if_pos q]
    · rw [if_neg (fun y => q y.2), if_neg q]
  have w : wtS (qI V 74) B (e + 1) = wtS (qI U 74) B e + wtV (qI S 78 x).toInt (qI S 80 x).toInt := by
    show wtS (qI V 74) B e + wtR (qI V 74) (B + e) = _
    rw [wtS_eq (R := qI U 74) e (fun j _ hj => k2 j hj)]
    unfold wtR
    rw [k3, k5]
  have wf : wtV (qI S 78 x).toInt (qI S 80 x).toInt ≤ ((wtF S x : Nat) : Int) := by unfold wtF; omega
  have su : sumN (wtF S) (x + 1) = sumN (wtF S) x + wtF S x := rfl
  refine ⟨⟨fSW.tr (g.mo (by decide) (by decide)), by omega, by omega, ⟨fun j hj => by rw [k2 j (by omega)]; exact n3.1 j hj, by rw [(g.2.2.2.2.1 70 (by decide) (by decide)).1, eW, rdH (by decide)]; exact n3.2⟩, by rw [w, su]; omega⟩, fun j hj => ?_, fun j hj q => ?_, fun p hp => ?_, fun i j hi hj gi gj q => ?_⟩
  · rw [g91]
    by_cases y : j = x
    · subst y
      exact ⟨by omega, fun _ => by omega⟩
    · have := h2 j (by omega)
      exact ⟨by omega, fun q => by have := this.2 q; omega⟩
  · by_cases y : j = x
    · subst y
      exact ⟨e, by omega, by rw [g92, if_pos rfl]; exact n1, k3, k4, k5⟩
    · obtain ⟨p, p1, p2, p3, p4, p5⟩ := h3 j (by omega) q
      exact ⟨p, by omega, by rw [g92, if_neg y]; exact p2, by rw [k2 _ (by omega)]; exact p3, by rw [k2 _ (by omega)]; exact p4, by rw [k2 _ (by omega)]; exact p5⟩
  · by_cases q : p = e
    · subst q
      exact Or.inl ⟨x, by omega, gx, by rw [g92, if_pos rfl]; exact n1⟩
    · rcases h4 p (by omega) with ⟨j, j1, j2, j3⟩ | y
      · exact Or.inl ⟨j, by omega, j2, by rw [g92, if_neg (by omega)]; exact j3⟩
      · rw [k2 _ (by omega), k2 _ (by omega)]
        exact Or.inr y
  · rw [g92, g92] at q
    by_cases y : i = x
    · by_cases y2 : j = x
      · omega
      · rw [if_pos y, if_neg y2] at q
        obtain ⟨p, p1, p2, _⟩ := h3 j (by omega) gj
        omega
    · by_cases y2 : j = x
      · rw [if_neg y, if_pos y2] at q
        obtain ⟨p, p1, p2, _⟩ := h3 i (by omega) gi
        omega
      · rw [if_neg y, if_neg y2] at q
        exact h5 i j (by omega) (by omega) gi gj q
/-! putMethod, its first loop (behind PmJ) -/
theorem pm_L21 {S : MS} {Q : MS → Prop} {Z : Nat → Int32} {B N K : Nat} {F : Int} {m x2 bs : Int32} {rc : Nat → Nat} (hN : gN S = N ∧ N ≤ 1200) (hb : bs.toInt = B) (hB : B + N + 4 * K ≤ 29000) (r1 : ∀ i : Nat, rc i ≤ K) (r2 : ∀ i : Nat, i < N → rc i ≤ rc (i + 1)) (r3 : ¬ x2.toInt < 0 → x2.toInt + K ≤ F ∧ F ≤ 24 ∧ ∀ i : Nat, i < N → (0 ≤ (qI S 50 i).toInt ∧ (qI S 50 i).toInt < 1200) ∧ ((qI S 81 i).toInt = 0 → (qI S 49 (qI S 50 i).toInt.toNat).toInt = i → ¬ (qI S 53 (qI S 50 i).toInt.toNat).toInt = 0 → rc i + 1 ≤ rc (i + 1))) (done : ∀ (U : MS) (e c : Nat), PmJ S U Z B F N e c → c ≤ 4 * K → (∀ S9, S9 = wI U 91 (((qI U 0 129).toInt).toNat) ((qI U 0 122) - bs) → ((qR S9 60 15 = some (qO S9 60 15)) ∧ (((0 : Int) ≤ m.toInt ∧ m.toInt < (qN S9 (qO S9 60 15) : Int)) ∧ (∀ S14, S14 = wI S9 (qO S9 60 15) m.toInt.toNat ((qI S9 0 122) - bs) → (∃ n, w_putMethod_L206 Q n S14 m 0)))))) : ∀ (k : Nat) (U : MS) (t x : Int32) (e n : Nat), 0 ≤ x.toInt → x.toInt ≤ N → PmJ S U Z B F x.toInt.toNat e (4 * n) → (¬ x2.toInt < 0 → t.toInt = x2.toInt + n) → n ≤ rc x.toInt.toNat → (1200 - x.toInt).toNat < k → w_putMethod_L21 Q k U m x2 bs t x := by
  intro k
  induction k with
  | zero => intro U t x e n _ _ _ _ _ h9; exact absurd h9 (Nat.not_lt_zero _)
  | succ k ih =>
    intro U t x e n x0 xN h ht hn hk
    have f := h.1.1
    have n1 := h.1.2.1
    have n2 := h.1.2.2.1
    have rk := r1 x.toInt.toNat
    have eg : (qI U 0 129).toInt = N := by rw [(f.2.2.2.2.2 129 (by decide)).1]; exact hN.1
    unfold w_putMethod_L21
    refine ⟨fun c1 => ⟨by omega, done U e (4 * n) (by rw [show x.toInt.toNat = N by omega] at h; exact h) (by omega)⟩, fun c1 => ⟨by omega, fun A eA => ⟨by omega, ?_⟩⟩⟩
    have ek : (x + Int32.ofInt 1).toInt = x.toInt + 1 := by rw [t_add (by rw [lo_1]; omega), lo_1]
    have ekN : (x + Int32.ofInt 1).toInt.toNat = x.toInt.toNat + 1 := by omega
    have rm := r2 x.toInt.toNat (by omega)
    -- the place of x is set
    have fA : frm [70, 74, 91, 92] [122] U A := by rw [eA]; exact frm.pI (by decide)
    have a91 : ∀ j : Nat, j ≠ x.toInt.toNat → qI A 91 j = qI U 91 j := fun j hj => by rw [eA, qI_wI, if_neg (fun q => hj q.2)]
    have s122 : (qI U 0 122 - bs).toInt = e := by rw [t_sub (by omega)]; omega
    have ax : (qI A 91 x.toInt.toNat).toInt = e := by rw [eA, qI_wI, if_pos ⟨rfl, rfl⟩, s122]
    have a74 : qI A 74 = qI U 74 := by rw [eA, rdH (by decide)]
    have a92 : qI A 92 = qI U 92 := by rw [eA, rdH (by decide)]
    have a0 : qI A 0 = qI U 0 := by rw [eA, rdH (by decide)]
    have hA : PmJ S A Z B F x.toInt.toNat e (4 * n) := by
      obtain ⟨⟨_, p2, p3, p4, p5⟩, h2, h3, h4, h5⟩ := h
      refine ⟨⟨f.tr fA, by rw [a0]; exact p2, p3, ⟨by rw [a74]; exact p4.1, by rw [eA, rdH (by decide)]; exact p4.2⟩, by rw [a74]; exact p5⟩, fun j hj => by rw [a91 j (by omega)]; exact h2 j hj, ?_, by rw [a92, a74]; exact h4, by rw [a92]; exact h5⟩
      unfold rowE at h3 ⊢
      rw [a92, a74]
      exact h3
    have z := fun (a : Nat) (h1 : a ≠ 0) (h2 : a ∉ [70, 74, 91, 92]) => ((f.tr fA).2.2.2.2.1 a h1 h2).1
    have a81 := z 81 (by decide) (by decide)
    rw [a81]
    -- the row of x is laid, and on
    have J131 : ∀ (V : MS) (t2 : Int32) (e2 n2 : Nat), PmJ S V Z B F x.toInt.toNat e2 (4 * n2) → qI V 91 = qI A 91 → e ≤ e2 → (¬ x2.toInt < 0 → t2.toInt = x2.toInt + n2) → n2 ≤ rc (x.toInt.toNat + 1) → (qI S 81 x.toInt.toNat).toInt = 0 → w_putMethod_J131 Q (w_putMethod_L21 Q k) V m x2 bs t2 x := fun V t2 e2 n2 hV v91 ee ht2 hn2 gx => by
      have m1 := hV.1.2.1
      have m2 := hV.1.2.2.1
      have rk2 := r1 (x.toInt.toNat + 1)
      unfold w_putMethod_J131 w_putMethod_J167
      refine ⟨by omega, fun W eW => ⟨by omega, by omega, by omega, _, sp_draftRow (by rw [eW, rdH (by decide)]; omega), ?_⟩⟩
      intro X hX a ea
      subst ea
      have p := hV.pl gx (by rw [v91, ax]; omega) eW hX
      exact ih X t2 _ (e2 + 1) n2 (by omega) (by omega) (by rw [ekN]; exact p) ht2 (by rw [ekN]; exact hn2) (by omega)
    have J0 : (qI S 81 x.toInt.toNat).toInt = 0 → w_putMethod_J131 Q (w_putMethod_L21 Q k) A m x2 bs t x := fun gx => J131 A t e n hA rfl (Nat.le_refl _) ht (by omega) gx
    refine ⟨fun gx => ⟨fun _ => J0 gx, fun c2 => ⟨by omega, ?_⟩⟩, fun gx => ?_⟩
    · obtain ⟨q1, q2, q3⟩ := r3 c2
      have q4 := q3 x.toInt.toNat (by omega)
      rw [z 50 (by decide) (by decide), z 49 (by decide) (by decide), z 53 (by decide) (by decide)]
      refine ⟨by omega, fun c3 => ⟨by omega, by omega, fun _ => J0 gx, fun c4 => ?_⟩, fun _ => J0 gx⟩
      have q5 := q4.2 gx (by omega) c4
      have rk2 := r1 (x.toInt.toNat + 1)
      have tt := ht c2
      have a1 := hA.1.2.1
      refine ⟨_, sp_draftRow (by omega), fun V1 h1 => ?_⟩
      have p1 := hA.cn h1 (Or.inr (Or.inr ⟨Or.inl rfl, by omega, by omega⟩))
      have b1 := p1.1.2.1
      refine ⟨_, sp_draftRow (by omega), fun V2 h2 => ?_⟩
      have p2 := p1.cn h2 (Or.inl rfl)
      have b2 := p2.1.2.1
      refine ⟨_, sp_draftRow (by omega), fun V3 h3 => ?_⟩
      have p3 := p2.cn h3 (Or.inr (Or.inl rfl))
      have b3 := p3.1.2.1
      refine ⟨_, sp_draftRow (by omega), fun V4 h4 => ?_⟩
      have p4 := p3.cn h4 (Or.inr (Or.inr ⟨Or.inr rfl, by omega, by omega⟩))
      intro t2 et
      have e91 : qI V4 91 = qI A 91 := by rw [(h4.1.2.2.2.2.1 91 (by decide) (by decide)).1, (h3.1.2.2.2.2.1 91 (by decide) (by decide)).1, (h2.1.2.2.2.2.1 91 (by decide) (by decide)).1, (h1.1.2.2.2.2.1 91 (by decide) (by decide)).1]
      refine J131 V4 t2 (e + 1 + 1 + 1 + 1) (n + 1) (by rw [show 4 * (n + 1) = 4 * n + 1 + 1 + 1 + 1 by omega]; exact p4) e91 (by omega) (fun _ => ?_) (by omega) gx
      rw [et, t_add (by rw [lo_1]; omega), lo_1]
      omega
    · unfold w_putMethod_J167
      intro a ea
      subst ea
      refine ih A t _ e n (by omega) (by omega) ?_ ht (by rw [ekN]; omega) (by omega)
      rw [ekN]
      obtain ⟨⟨p1, p2, p3, p4, p5⟩, h2, h3, h4, h5⟩ := hA
      have su : sumN (wtF S) (x.toInt.toNat + 1) = sumN (wtF S) x.toInt.toNat + wtF S x.toInt.toNat := rfl
      refine ⟨⟨p1, p2, by omega, p4, by rw [su]; omega⟩, fun j hj => ?_, fun j hj q => ?_, fun p hp => ?_, fun i j hi hj gi gj q => ?_⟩
      · by_cases y : j = x.toInt.toNat
        · subst y
          exact ⟨by omega, fun q => absurd q gx⟩
        · exact h2 j (by omega)
      · by_cases y : j = x.toInt.toNat
        · subst y; exact absurd q gx
        · exact h3 j (by omega) q
      · rcases h4 p hp with ⟨j, j1, j2, j3⟩ | y
        · exact Or.inl ⟨j, by omega, j2, j3⟩
        · exact Or.inr y
      · have y1 : i ≠ x.toInt.toNat := fun y => gx (by rw [← y]; exact gi)
        have y2 : j ≠ x.toInt.toNat := fun y => gx (by rw [← y]; exact gj)
        exact h5 i j (by omega) (by omega) gi gj q
