/-! rules, the rest, and apply (behind r397) -/
theorem sp_settle {S : MS} {L F M : Int} {l : Nat} {x y w : Int32} (h : OpR S L F M) (ha : OpA S l) (hx : 0 ≤ x.toInt ∧ x.toInt < gN S) (xl : x.toInt.toNat ≠ l) (hy : 0 ≤ y.toInt ∧ y.toInt < gN S) (yl : y.toInt.toNat ≠ l) (g : (qI S 81 y.toInt.toNat).toInt = 0) (hj : 153 ≤ (qI S 78 y.toInt.toNat).toInt ∧ (qI S 78 y.toInt.toNat).toInt ≤ 164) : w_settle S x y w (fun u => frW S u ∧ OpR u L F M ∧ OpA u l ∧ mN u < mN S) := by
  have b := h.1
  have rx : 0 ≤ x.toInt ∧ x.toInt < 1200 := by omega
  have ry : 0 ≤ y.toInt ∧ y.toInt < 1200 := by omega
  have ij : ¬ (f_isJump S (qI S 78 y.toInt.toNat)).toInt = 0 := jp_is ⟨hj.1, by omega⟩
  have rv := (h.2.2.1 y.toInt.toNat (by omega)).2.1 (Or.inl ⟨hj.1, by omega⟩)
  have al := ha.2.1 y.toInt.toNat 0 (by omega) g (by unfold wyN; rw [if_neg ij]; decide)
  unfold tgV at al
  rw [if_neg ij] at al
  unfold w_settle
  refine ⟨ry, fun t et => ⟨ry, fun D eD => ?_⟩⟩
  obtain ⟨f1, r1, a1, m1, n1, _⟩ := rw_gone h ha (j := y.toInt.toNat) (by omega) yl vb1 eD
  have n2 := n1 g
  have e1 := eqr f1
  refine ⟨fun _ => ⟨rx, fun E eE => ?_⟩, fun _ => ⟨rx, fun E eE => ⟨rx, fun G eG => ⟨rx, fun H eH => ?_⟩⟩⟩⟩
  · obtain ⟨f2, r2, a2, m2, _⟩ := rw_gone r1 a1 (j := x.toInt.toNat) (by omega) xl vb1 eE
    exact ⟨f1.tr f2, r2, a2, by omega⟩
  · have fE : frm [78, 79, 80] [] D E := by rw [eE]; exact frm.pI (by decide)
    have fG : frm [78, 79, 80] [] E G := by rw [eG]; exact frm.pI (by decide)
    have fH : frm [78, 79, 80] [] G H := by rw [eH]; exact frm.pI (by decide)
    have g78 : ∀ i : Nat, qI H 78 i = if i = x.toInt.toNat then 167 else qI D 78 i := fun i => by
      rw [eH, rdH (by decide), eG, rdH (by decide), eE, qI_wI]
      by_cases q : i = x.toInt.toNat
      · rw [if_pos ⟨rfl, q⟩, if_pos q]
      · rw [if_neg (fun y => q y.2), if_neg q]
    have g79 : ∀ i : Nat, qI H 79 i = if i = x.toInt.toNat then t else qI D 79 i := fun i => by
      rw [eH, rdH (by decide), eG, qI_wI, eE, rdH (by decide)]
      by_cases q : i = x.toInt.toNat
      · rw [if_pos ⟨rfl, q⟩, if_pos q]
      · rw [if_neg (fun y => q y.2), if_neg q]
    have g80 : ∀ i : Nat, i ≠ x.toInt.toNat → qI H 80 i = qI D 80 i := fun i hi => by
      rw [eH, qI_wI, if_neg (fun y => hi y.2), eG, rdH (by decide), eE, rdH (by decide)]
    have l167 : (167 : Int32).toInt = 167 := by decide
    have eo : qI H 78 x.toInt.toNat = 167 := by rw [g78, if_pos rfl]
    have ea : qI H 79 x.toInt.toNat = t := by rw [g79, if_pos rfl]
    have jh : ¬ (f_isJump H (qI H 78 x.toInt.toNat)).toInt = 0 := jp_is (by rw [eo, l167]; decide)
    obtain ⟨w1, w2, w3, w4, w5, w6⟩ := rw_row r1 a1 (j := x.toInt.toNat) (by omega) (fE.tr (fG.tr fH)) (fun i hi => ⟨by rw [g78, if_neg hi], by rw [g79, if_neg hi], g80 i hi⟩) (by
      rw [eo, ea, et, e1]
      exact ⟨by rw [l167]; unfold opW; omega, fun w => rv, fun w => by omega, fun w => by omega, fun w => by omega, fun w => by omega, fun w => by omega⟩) (fun k hk => by
      unfold tgV
      rw [if_neg jh, ea, et]
      exact al) (by rw [eo]; decide) (by rw [eo]; exact wt3 (by decide))
    exact ⟨f1.tr w1, w2, w3, by omega⟩
theorem d_soA {S : MS} {o x y : Int32} : d_isSo S o x y := by
  unfold d_isSo d_isSo_J77 d_isSo_J48 d_isSo_J15 d_isSo_J87 d_isSo_J58 d_isSo_J24
  simp only [ite_self]
theorem sp_decided {S : MS} {L F M : Int} {l : Nat} {x y z : Int32} (h : OpR S L F M) (ha : OpA S l) (hx : 0 ≤ x.toInt ∧ x.toInt < gN S) (xl : x.toInt.toNat ≠ l) (hy : 0 ≤ y.toInt ∧ y.toInt < gN S) (yl : y.toInt.toNat ≠ l) (hz : z.toInt = l) (g : (qI S 81 y.toInt.toNat).toInt = 0) : w_decided S x y z (RuP L F M l S) := by
  have b := h.1
  have rx : 0 ≤ x.toInt ∧ x.toInt < 1200 := by omega
  have ry : 0 ≤ y.toInt ∧ y.toInt < 1200 := by omega
  have no := RuP.no h ha
  have J65 : w_decided_J65 (RuP L F M l S) S x y z := by
    unfold w_decided_J65
    refine ⟨_, fn_behind (by omega) hy, ?_⟩
    rintro r u ⟨eu, r0, r1⟩
    subst eu
    refine ⟨ry, fun _ => ⟨fun _ => no, fun c1 => ⟨fun _ => no, fun c2 => ?_⟩⟩, fun _ => no⟩
    have c3 : r.toInt < gN u := by unfold gN; omega
    have rr : 0 ≤ r.toInt ∧ r.toInt < 1200 := by omega
    refine ⟨⟨r0, by omega⟩, fun _ => ⟨rr, fun _ => no, fun c4 => ⟨rr, fun c5 => ⟨rr, rx, ry, d_soA, fun a _ => ⟨ry, fun D eD => ?_⟩⟩, fun _ => no⟩⟩, fun _ => no⟩
    obtain ⟨f1, q1, a1, m1, n1, o1, o78, _⟩ := rw_gone h ha (j := y.toInt.toNat) (by omega) yl vb1 eD
    have n2 := n1 g
    have e1 := eqr f1
    have ryn : r.toInt.toNat ≠ y.toInt.toNat := by have := r1.1; omega
    refine ⟨_, sp_settle q1 a1 ⟨hx.1, by omega⟩ xl ⟨r0, by omega⟩ (by omega) (by rw [o1 _ ryn]; exact r1.2.2.1 (by omega)) (by rw [o78]; omega), ?_⟩
    rintro V ⟨f2, q2, a2, m2⟩
    exact ⟨f1.tr f2, q2, a2, by omega, fun _ => by omega⟩
  unfold w_decided
  refine ⟨rx, fun _ => ⟨ry, fun _ => J65, fun c1 => ⟨ry, fun _ => J65, fun c2 => ⟨ry, rx, d_soA, _, sp_settle h ha hx xl hy yl g (by omega), ?_⟩⟩⟩, fun _ => no⟩
  rintro V ⟨f2, q2, a2, m2⟩
  exact ⟨f2, q2, a2, by omega, fun _ => by omega⟩
theorem d_idle {S : MS} {x y : Int32} (rx : 0 ≤ x.toInt ∧ x.toInt < 1200) (ry : 0 ≤ y.toInt ∧ y.toInt < 1200) : d_isIdle S x y := by
  have dP : ∀ o : Int32, d_isPush S o := fun o => by
    unfold d_isPush d_isPush_J12
    simp only [ite_self]
  have dO : ∀ o : Int32, d_isOperator S o := fun o => by
    unfold d_isOperator d_isOperator_J12 d_isOperator_J25 d_isOperator_J32
    simp only [ite_self]
  have dU : ∀ o : Int32, d_upper S o := fun o => by
    unfold d_upper d_upper_J26 d_upper_J31
    simp only [ite_self]
  have w : d_worthAt S x := d_wa rx
  unfold d_isIdle d_isIdle_J140 d_isIdle_J156 d_isIdle_J160 d_isIdle_J113 d_isIdle_J117
  simp only [ite_self]
  refine ⟨ry, rx, dP _, ite_T (fun _ => trivial) (fun _ => ⟨dO _, ite_T (fun _ => trivial) (fun _ => ite_T (fun _ => trivial) (fun _ => ⟨rx, dU _, ite_T (fun _ => ⟨w, trivial⟩) (fun _ => trivial)⟩))⟩)⟩
theorem d_drop {S : MS} {x y : Int32} (rx : 0 ≤ x.toInt ∧ x.toInt < 1200) (ry : 0 ≤ y.toInt ∧ y.toInt < 1200) : d_isDropped S x y := by
  unfold d_isDropped d_isDropped_J74 d_isDropped_J70 d_isDropped_J41
  simp only [ite_self]
  exact ⟨rx, ry, ite_T (fun _ => trivial) (fun _ => ⟨ry, trivial⟩)⟩
theorem d_go {S : MS} {o : Int32} : d_goesOn S o := by
  unfold d_goesOn d_goesOn_J60
  simp only [ite_self]
theorem d_bits {S : MS} {o a : Int32} : d_bitsOf S o a := by
  unfold d_bitsOf d_bitsOf_J12
  simp only [ite_self]
theorem d_sto {S : MS} {o : Int32} : d_isStore S o := by
  unfold d_isStore d_isStore_J18
  simp only [ite_self]
theorem d_loa {S : MS} {o : Int32} : d_isLoad S o := by
  unfold d_isLoad d_isLoad_J18
  simp only [ite_self]
/-- a bit of a number -/
def btL (a : Int32) (n : Nat) : Prop := a.toBitVec.getLsbD n = true
theorem btL_or {a c : Int32} {n : Nat} : btL (a ||| c) n ↔ btL a n ∨ btL c n := by
  unfold btL
  rw [Int32.toBitVec_or, BitVec.getLsbD_or, Bool.or_eq_true]
/-- what is live behind a row -/
def LbP (S : MS) (i n : Nat) : Prop := (¬ (f_goesOn S (qI S 78 i)).toInt = 0 ∧ ∃ r : Nat, HrP S (i + 1) r ∧ (r : Int) < gN S ∧ btL (qI S 90 r) n) ∨ ∃ k r : Nat, (k : Int) < wyN S i ∧ HrP S (tgV S i k).toInt.toNat r ∧ btL (qI S 90 r) n
theorem fn_liveBehind {S : MS} {L F M : Int} {l : Nat} {x : Int32} (h : OpR S L F M) (ha : OpA S l) (hx : 0 ≤ x.toInt ∧ x.toInt < gN S) (g : (qI S 81 x.toInt.toNat).toInt = 0) : w_liveBehind S x (fun r u => u = S ∧ ∀ n : Nat, btL r n ↔ LbP S x.toInt.toNat n) := by
  have b := h.1
  have rx : 0 ≤ x.toInt ∧ x.toInt < 1200 := by omega
  have hN : 0 ≤ gN S ∧ gN S ≤ 1200 := by omega
  have ll := ha.1.1
  obtain ⟨w1, w2, w3, w4⟩ := h.wy hx
  -- the ways
  have L41 : ∀ (A : Nat → Prop), (∀ n : Nat, LbP S x.toInt.toNat n ↔ A n ∨ ∃ k r : Nat, (k : Int) < wyN S x.toInt.toNat ∧ HrP S (tgV S x.toInt.toNat k).toInt.toNat r ∧ btL (qI S 90 r) n) → ∀ (c : Nat) (v k : Int32), 0 ≤ k.toInt → (∀ n : Nat, btL v n ↔ A n ∨ ∃ j r : Nat, (j : Int) < wyN S x.toInt.toNat ∧ (j : Int) < k.toInt ∧ HrP S (tgV S x.toInt.toNat j).toInt.toNat r ∧ btL (qI S 90 r) n) → (202 - k.toInt).toNat < c → w_liveBehind_L41 (fun r u => u = S ∧ ∀ n : Nat, btL r n ↔ LbP S x.toInt.toNat n) c S x v k := by
    intro A hA c
    induction c with
    | zero => intro v k _ _ h9; exact absurd h9 (Nat.not_lt_zero _)
    | succ c ih =>
      intro v k k0 hv hc
      unfold w_liveBehind_L41
      rw [w2]
      refine ⟨w1, fun c1 => ⟨rfl, fun n => ?_⟩, fun c1 => ⟨_, fn_wayOf h hx ⟨k0, by omega⟩, ?_⟩⟩
      · rw [hv, hA]
        constructor
        · rintro (q | ⟨j, r, q1, q2, q3, q4⟩)
          · exact Or.inl q
          · exact Or.inr ⟨j, r, q1, q3, q4⟩
        · rintro (q | ⟨j, r, q1, q3, q4⟩)
          · exact Or.inl q
          · exact Or.inr ⟨j, r, q1, by omega, q3, q4⟩
      · rintro r u ⟨eu, r0, r1⟩
        subst eu
        have ek : (k + Int32.ofInt 1).toInt = k.toInt + 1 := by rw [t_add (by rw [lo_1]; omega), lo_1]
        have t1 := ha.2.1 x.toInt.toNat k.toInt.toNat (by omega) g (by omega)
        have t0 := (w4 k.toInt.toNat (by omega)).1
        have rl := r1.le (j := l) (by omega) ha.1.2.1
        refine ⟨⟨r0, by omega⟩, fun v2 ev k2 e2 => ?_⟩
        subst ev
        subst e2
        refine ih _ _ (by omega) (fun n => ?_) (by omega)
        rw [btL_or, hv]
        constructor
        · rintro ((q | ⟨j, r2, q1, q2, q3, q4⟩) | q)
          · exact Or.inl q
          · exact Or.inr ⟨j, r2, q1, by omega, q3, q4⟩
          · exact Or.inr ⟨k.toInt.toNat, r.toInt.toNat, by omega, by omega, r1, q⟩
        · rintro (q | ⟨j, r2, q1, q2, q3, q4⟩)
          · exact Or.inl (Or.inl q)
          · by_cases e : j = k.toInt.toNat
            · rw [e] at q3
              rw [q3.uq r1] at q4
              exact Or.inr q4
            · exact Or.inl (Or.inr ⟨j, r2, q1, by omega, q3, q4⟩)
  have J38 : ∀ (A : Nat → Prop), (∀ n : Nat, LbP S x.toInt.toNat n ↔ A n ∨ ∃ k r : Nat, (k : Int) < wyN S x.toInt.toNat ∧ HrP S (tgV S x.toInt.toNat k).toInt.toNat r ∧ btL (qI S 90 r) n) → ∀ v : Int32, (∀ n : Nat, btL v n ↔ A n) → w_liveBehind_J38 (fun r u => u = S ∧ ∀ n : Nat, btL r n ↔ LbP S x.toInt.toNat n) S v x := fun A hA v hv => by
    unfold w_liveBehind_J38
    refine ⟨_, L41 A hA _ v 0 (by decide) (fun n => ?_) (Nat.lt_succ_self _)⟩
    rw [hv]
    constructor
    · exact fun q => Or.inl q
    · rintro (q | ⟨j, r, _, q2, _⟩)
      · exact q
      · have : (0 : Int32).toInt = 0 := rfl
        omega
  have b0 : ∀ n : Nat, ¬ btL 0 n := fun n q => by
    unfold btL at q
    rw [show (0 : Int32).toBitVec = 0#32 from rfl, BitVec.getLsbD_zero] at q
    exact absurd q (by decide)
  have J37 : (∀ n : Nat, ¬ (¬ (f_goesOn S (qI S 78 x.toInt.toNat)).toInt = 0 ∧ ∃ r : Nat, HrP S (x.toInt.toNat + 1) r ∧ (r : Int) < gN S ∧ btL (qI S 90 r) n)) → w_liveBehind_J37 (fun r u => u = S ∧ ∀ n : Nat, btL r n ↔ LbP S x.toInt.toNat n) S x := fun q => by
    unfold w_liveBehind_J37
    refine J38 (fun _ => False) (fun n => ?_) 0 (fun n => ⟨b0 n, False.elim⟩)
    unfold LbP
    constructor
    · rintro (y | y)
      · exact absurd y (q n)
      · exact Or.inr y
    · rintro (y | y)
      · exact y.elim
      · exact Or.inr y
  unfold w_liveBehind
  refine ⟨rx, d_go, fun c1 => J37 (fun n q => q.1 c1), fun c1 => ⟨_, fn_behind hN hx, ?_⟩⟩
  rintro r u ⟨eu, r0, r1⟩
  subst eu
  refine ⟨fun c2 => J37 (fun n q => ?_), fun c2 => ⟨_, fn_behind hN hx, ?_⟩⟩
  · obtain ⟨_, r2, q2, q3, _⟩ := q
    rw [q2.uq r1] at q3
    unfold gN at q3
    omega
  · rintro r2 v ⟨ev, r20, r21⟩
    subst ev
    have er := r21.uq r1
    have c3 : r2.toInt < gN v := by unfold gN; omega
    refine ⟨⟨r20, by omega⟩, J38 (fun n => btL (qI v 90 r2.toInt.toNat) n) (fun n => ?_) _ (fun n => Iff.rfl)⟩
    unfold LbP
    constructor
    · rintro (⟨_, r3, q1, q2, q3⟩ | y)
      · rw [q1.uq r21] at q3; exact Or.inl q3
      · exact Or.inr y
    · rintro (y | y)
      · exact Or.inl ⟨c1, _, r21, by omega, y⟩
      · exact Or.inr y
theorem fn_isBack {S : MS} {L F M : Int} {l : Nat} {x y : Int32} (h : OpR S L F M) (ha : OpA S l) (hx : 0 ≤ x.toInt ∧ x.toInt < gN S) (hy : 0 ≤ y.toInt ∧ y.toInt < gN S) (g : (qI S 81 y.toInt.toNat).toInt = 0) : w_isBack S x y (fun _ u => u = S) := by
  have b := h.1
  have rx : 0 ≤ x.toInt ∧ x.toInt < 1200 := by omega
  have ry : 0 ≤ y.toInt ∧ y.toInt < 1200 := by omega
  unfold w_isBack w_isBack_J73
  refine ⟨rx, d_sto, fun _ => rfl, fun _ => ⟨ry, rx, fun _ => ⟨rx, ry, fun _ => ⟨_, fn_liveBehind h ha hy g, ?_⟩, fun _ => rfl⟩, fun _ => rfl⟩⟩
  rintro r u ⟨eu, _⟩
  exact ⟨ry, ry, d_bits, fun _ => eu, fun _ => eu⟩
theorem sp_dead {S : MS} {L F M : Int} {l : Nat} {x : Int32} (h : OpR S L F M) (ha : OpA S l) (hx : 0 ≤ x.toInt ∧ x.toInt < gN S) (xl : x.toInt.toNat ≠ l) (g : (qI S 81 x.toInt.toNat).toInt = 0) : w_dead S x (RuP L F M l S) := by
  have b := h.1
  have rx : 0 ≤ x.toInt ∧ x.toInt < 1200 := by omega
  have no := RuP.no h ha
  have J95 : ∀ op : Int32, (op.toInt = 87 ∨ op.toInt = 88) → ((qI S 78 x.toInt.toNat).toInt = 54 ∨ (qI S 78 x.toInt.toNat).toInt = 55 ∨ (qI S 78 x.toInt.toNat).toInt = 58) → w_dead_J95 (RuP L F M l S) S op x x := fun op ho st => by
    unfold w_dead_J95
    refine ⟨rx, fun D eD => ⟨rx, fun E eE => ⟨rx, fun G eG => ?_⟩⟩⟩
    have fD : frm [78, 79, 80] [] S D := by rw [eD]; exact frm.pI (by decide)
    have fE : frm [78, 79, 80] [] D E := by rw [eE]; exact frm.pI (by decide)
    have fG : frm [78, 79, 80] [] E G := by rw [eG]; exact frm.pI (by decide)
    have g78 : ∀ i : Nat, qI G 78 i = if i = x.toInt.toNat then op else qI S 78 i := fun i => by
      rw [eG, rdH (by decide), eE, rdH (by decide), eD, qI_wI]
      by_cases q : i = x.toInt.toNat
      · rw [if_pos ⟨rfl, q⟩, if_pos q]
      · rw [if_neg (fun y => q y.2), if_neg q]
    have g79 : ∀ i : Nat, i ≠ x.toInt.toNat → qI G 79 i = qI S 79 i := fun i hi => by
      rw [eG, rdH (by decide), eE, qI_wI, if_neg (fun y => hi y.2), eD, rdH (by decide)]
    have g80 : ∀ i : Nat, i ≠ x.toInt.toNat → qI G 80 i = qI S 80 i := fun i hi => by
      rw [eG, qI_wI, if_neg (fun y => hi y.2), eE, rdH (by decide), eD, rdH (by decide)]
    have eo : qI G 78 x.toInt.toNat = op := by rw [g78, if_pos rfl]
    have nj : (f_isJump G op).toInt = 0 := by
      by_cases q : (f_isJump G op).toInt = 0
      · exact q
      · have := jp_op q; omega
    have ns : (f_isSwitch G op).toInt = 0 := by
      unfold f_isSwitch f_isSwitch_J14
      rw [if_neg (by omega), if_neg (by omega)]
      rfl
    obtain ⟨w1, w2, w3, w4, w5, w6⟩ := rw_row h ha (j := x.toInt.toNat) (by omega) (fD.tr (fE.tr fG)) (fun i hi => ⟨by rw [g78, if_neg hi], g79 i hi, g80 i hi⟩) (by
      rw [eo]
      exact ⟨by unfold opW; omega, fun w => by omega, fun w => by omega, fun w => by omega, fun w => by omega, fun w => by omega, fun w => by omega⟩) (fun k hk => by
      unfold wyN at hk
      rw [eo, if_pos nj, if_pos ns] at hk
      omega) (by rw [eo]; omega) (by rw [eo]; exact wt3 (by omega))
    exact ⟨w1, w2, w3, w4, fun _ => w5 g st⟩
  have J24 : ((qI S 78 x.toInt.toNat).toInt = 132 ∨ (qI S 78 x.toInt.toNat).toInt = 54 ∨ (qI S 78 x.toInt.toNat).toInt = 55 ∨ (qI S 78 x.toInt.toNat).toInt = 58) → w_dead_J24 (RuP L F M l S) S x := fun st => by
    unfold w_dead_J24
    refine ⟨_, fn_liveBehind h ha hx g, ?_⟩
    rintro r u ⟨eu, _⟩
    subst eu
    refine ⟨rx, rx, d_bits, fun _ => ⟨rx, fun _ => ⟨rx, fun D eD => ?_⟩, fun c1 => ⟨rx, fun _ => J95 88 (Or.inr rfl) (by omega), fun _ => J95 87 (Or.inl rfl) (by omega)⟩⟩, fun _ => no⟩
    obtain ⟨f1, q1, a1, m1, n1, _⟩ := rw_gone h ha (j := x.toInt.toNat) (by omega) xl vb1 eD
    exact ⟨f1, q1, a1, m1, fun _ => n1 g⟩
  unfold w_dead
  refine ⟨rx, d_sto, fun _ => ⟨rx, fun c => J24 (Or.inl c), fun _ => no⟩, fun c => J24 (Or.inr ?_)⟩
  unfold f_isStore f_isStore_J18 at c
  by_cases q1 : (qI S 78 x.toInt.toNat).toInt = 54
  · exact Or.inl q1
  · rw [if_neg q1] at c
    by_cases q2 : (qI S 78 x.toInt.toNat).toInt = 55
    · exact Or.inr (Or.inl q2)
    · rw [if_neg q2] at c
      by_cases q3 : (qI S 78 x.toInt.toNat).toInt = 58
      · exact Or.inr (Or.inr q3)
      · rw [if_neg q3] at c; exact absurd rfl c
/-! apply (behind r398) -/
/-- what is left to do for a rule -/
noncomputable def pM (o : Int) (S : MS) : Nat := if o = 2 then gtN S else mN S
def ApR (L F M : Int) (l : Nat) (o : Int) (S : MS) (r : Int32) (u : MS) : Prop := OpR u L F M ∧ OpA u l ∧ gN u = gN S ∧ (wtN u ≤ wtN S ∧ swE S u) ∧ pM o u ≤ pM o S ∧ (¬ r.toInt = 0 → pM o u < pM o S)
theorem ap_J365 {S U : MS} {L F M : Int} {l : Nat} {o r : Int32} (ho : 3 ≤ o.toInt ∧ o.toInt < 12) (h : RuP L F M l S r U) : w_apply_J365 (ApR L F M l o.toInt S) U o r := by
  obtain ⟨f, h1, h2, h3, h4⟩ := h
  have eg := eqr f
  have ep : ∀ V : MS, pM o.toInt V = mN V := fun V => by unfold pM; rw [if_neg (by omega)]
  have ro : 0 ≤ o.toInt ∧ o.toInt < 12 := by omega
  unfold w_apply_J365
  refine ⟨fun c => ⟨h1, h2, eg, f.2, by rw [ep, ep]; exact h3, fun q => absurd c q⟩, fun c => ⟨ro, ro, fun D eD => ?_⟩⟩
  have fD : frm [77] [] U D := by rw [eD]; exact frm.pI (by decide)
  have s : smO U D := smO.fm fD (by decide) (by decide) (by decide)
  have d86 : qI D 86 = qI U 86 := (fD.2.2.2.2.1 86 (by decide) (by decide)).1
  exact ⟨s.r h1, s.a h2 (fun c e => by rw [d86] at e; exact e), by rw [s.gn, eg], ⟨by rw [wtN_sm s]; exact f.2.1, f.2.2.tr (swE.sm s)⟩, by rw [ep, ep, mN_sm s]; exact h3, fun q => by rw [ep, ep, mN_sm s]; exact h4 q⟩
theorem sp_apply {S : MS} {L F M : Int} {l : Nat} {o x : Int32} (h : OpR S L F M) (ha : OpA S l) (ho : 2 ≤ o.toInt ∧ o.toInt ≤ 11) (hx : 0 ≤ x.toInt ∧ x.toInt < gN S) (g : (qI S 81 x.toInt.toNat).toInt = 0) : w_apply S o x (ApR L F M l o.toInt S) := by
  have b := h.1
  have ll := ha.1.1
  have rx : 0 ≤ x.toInt ∧ x.toInt < 1200 := by omega
  unfold w_apply
  refine ⟨fun c => ⟨_, sp_threaded h ha hx g, ?_⟩, fun c => ⟨_, fn_lastOne (by omega) ha.1, ?_⟩⟩
  · rintro r u ⟨⟨f, sf⟩, h1, h2, h3, h4⟩
    have ep : ∀ V : MS, pM o.toInt V = gtN V := fun V => by unfold pM; rw [if_pos c]
    exact ⟨h1, h2, by unfold gN; rw [(f.2.2.2.2.2 129 (by decide)).1], ⟨by unfold wtN gN; rw [(f.2.2.2.2.2 129 (by decide)).1, (f.2.2.2.2.1 78 (by decide) (by decide)).1, (f.2.2.2.2.1 80 (by decide) (by decide)).1]; exact Nat.le_refl _, sf⟩, by rw [ep, ep]; exact h3, fun q => by rw [ep, ep]; exact h4 q⟩
  have no := RuP.no h ha
  have o3 : 3 ≤ o.toInt ∧ o.toInt < 12 := by omega
  have k0 : w_apply_J365 (ApR L F M l o.toInt S) S o 0 := ap_J365 o3 no
  rintro e u ⟨eu, el⟩
  subst eu
  refine ⟨fun _ => ?_, fun c1 => ⟨_, fn_behind (by omega) hx, ?_⟩⟩
  · have w := k0
    unfold w_apply_J365 at w
    exact w.1 rfl
  rintro n v ⟨ev, n0, n1⟩
  subst ev
  have xl : x.toInt.toNat ≠ l := by omega
  have xlt : x.toInt.toNat < l := by
    by_cases q : l < x.toInt.toNat
    · exact absurd g (ha.1.2.2 _ q (by omega))
    · omega
  have nl := n1.le (j := l) (by omega) ha.1.2.1
  have hn : 0 ≤ n.toInt ∧ n.toInt < gN v := by omega
  have gn := n1.2.2.1 (by omega)
  have rn : 0 ≤ n.toInt ∧ n.toInt < 1200 := by omega
  have J51 : ∀ t : Int32, (¬ t.toInt = 0 → n.toInt.toNat ≠ l) → w_apply_J51 (ApR L F M l o.toInt v) v t o x e n := fun t ht => by
    have J127 : w_apply_J127 (ApR L F M l o.toInt v) v o x := by
      unfold w_apply_J127 w_apply_J128
      exact ⟨fun _ => k0, fun q => absurd rfl q⟩
    have gx : ∀ D : MS, D = wI v 81 x.toInt.toNat (vp_nar .boolean (1 : Int32)) → w_apply_J365 (ApR L F M l o.toInt v) D o 1 := fun D eD => by
      obtain ⟨f1, q1, a1, m1, n1, _⟩ := rw_gone h ha (j := x.toInt.toNat) (by omega) xl vb1 eD
      exact ap_J365 o3 ⟨f1, q1, a1, m1, fun _ => n1 g⟩
    have on : ∀ (r : Int32) (U : MS), RuP L F M l v r U → (r.toInt = 0 → w_apply_J365 (ApR L F M l o.toInt v) U o 0) ∧ (¬ r.toInt = 0 → w_apply_J365 (ApR L F M l o.toInt v) U o 1) := fun r U hU => ⟨fun _ => ap_J365 o3 ⟨hU.1, hU.2.1, hU.2.2.1, hU.2.2.2.1, fun q => absurd rfl q⟩, fun q => ap_J365 o3 ⟨hU.1, hU.2.1, hU.2.2.1, hU.2.2.2.1, fun _ => hU.2.2.2.2 q⟩⟩
    unfold w_apply_J51
    refine ⟨fun _ => ⟨rx, fun c7 => ?_, fun _ => J127⟩, fun _ => ⟨fun _ => ⟨rx, fun _ => ?_, fun _ => ?_⟩, fun _ => ⟨fun _ => ⟨fun _ => k0, fun q => ⟨_, sp_folded h ha hx hn (ht q) el gn, fun r U hU => on r U hU⟩⟩, fun _ => ⟨fun _ => ⟨fun _ => k0, fun q => ⟨_, sp_turnedRow h ha hx hn (ht q) gn, fun r U hU => on r U hU⟩⟩, fun _ => ⟨fun _ => ⟨fun _ => k0, fun q => ⟨_, sp_decided h ha hx xl hn (ht q) el gn, fun r U hU => on r U hU⟩⟩, fun _ => ⟨fun _ => ⟨fun _ => k0, fun q => ⟨d_idle rx rn, fun _ => k0, fun _ => ⟨_, sp_goBoth h ha hx xl hn (ht q) g, fun r U hU => on r U hU⟩⟩⟩, fun _ => ⟨fun _ => ⟨fun _ => k0, fun q => ⟨d_drop rx rn, fun _ => k0, fun _ => ⟨_, sp_goBoth h ha hx xl hn (ht q) g, fun r U hU => on r U hU⟩⟩⟩, fun _ => ⟨fun _ => ⟨fun _ => k0, fun q => ⟨_, fn_isBack h ha hx hn gn, fun r U hU => ⟨fun _ => by rw [hU]; exact k0, fun _ => ⟨_, by rw [hU]; exact sp_goBoth h ha hx xl hn (ht q) g, fun r U hU => on r U hU⟩⟩⟩⟩, fun _ => ⟨_, sp_dead h ha hx xl g, fun r U hU => ap_J365 o3 hU⟩⟩⟩⟩⟩⟩⟩⟩⟩
    · refine ⟨_, fn_wayOf h hx ⟨by decide, ?_⟩, ?_⟩
      · unfold wyN
        rw [if_neg (jp_is (by omega))]
        decide
      · rintro r U ⟨eU, _⟩
        subst eU
        exact ⟨fun _ => ⟨fun q => absurd q (by decide), fun _ => ⟨rx, fun D eD => gx D eD⟩⟩, fun _ => J127⟩
    · exact ⟨fun q => absurd q (by decide), fun _ => ⟨rx, fun D eD => gx D eD⟩⟩
    · exact ⟨fun _ => k0, fun q => absurd rfl q⟩
  have J50 : w_apply_J50 (ApR L F M l o.toInt v) v o x e n := J51 0 (fun q => absurd rfl q)
  exact ⟨fun _ => J50, fun c2 => ⟨⟨n0, by omega⟩, fun _ => J51 1 (fun _ => by omega), fun _ => J50⟩⟩
/-! what is live (behind r398; cnt0, bt of r338) -/
theorem btL_no {r m : Int32} {n : Nat} : btL (r &&& (m ^^^ (-1 : Int32))) n ↔ btL r n ∧ ¬ btL m n := by
  unfold btL
  rw [Int32.toBitVec_and, BitVec.getLsbD_and, Int32.toBitVec_xor, BitVec.getLsbD_xor, show (-1 : Int32).toBitVec = BitVec.allOnes 32 by decide, BitVec.getLsbD_allOnes]
  by_cases q : n < 32
  · rw [decide_eq_true q]
    cases r.toBitVec.getLsbD n <;> cases m.toBitVec.getLsbD n <;> decide
  · rw [BitVec.getLsbD_of_ge r.toBitVec n (by omega)]
    exact ⟨fun y => absurd y (by simp), fun y => absurd y.1 (by simp)⟩
/-- what is live at a row -/
def LaQ (S : MS) (i n : Nat) : Prop := (LbP S i n ∧ ¬ (¬ (f_isStore S (qI S 78 i)).toInt = 0 ∧ btL (f_bitsOf S (qI S 78 i) (qI S 79 i)) n)) ∨ ((¬ (f_isLoad S (qI S 78 i)).toInt = 0 ∨ (qI S 78 i).toInt = 132) ∧ btL (f_bitsOf S (qI S 78 i) (qI S 79 i)) n)
def LaI (S : MS) (i c : Nat) : Prop := (c : Int) < (qI S 0 135).toInt ∧ (qI S 86 c).toInt = 0 ∧ (qI S 82 c).toInt ≤ i ∧ (i : Int) < (qI S 83 c).toInt
def LaP (S : MS) (i n : Nat) : Prop := LaQ S i n ∨ ∃ c r : Nat, LaI S i c ∧ HrP S (qI S 84 c).toInt.toNat r ∧ btL (qI S 90 r) n
theorem fn_liveAt {S : MS} {L F M : Int} {l : Nat} {x : Int32} (h : OpR S L F M) (ha : OpA S l) (hx : 0 ≤ x.toInt ∧ x.toInt < gN S) (g : (qI S 81 x.toInt.toNat).toInt = 0) : w_liveAt S x (fun r u => u = S ∧ ∀ n : Nat, btL r n ↔ LaP S x.toInt.toNat n) := by
  have b := h.1
  have rx : 0 ≤ x.toInt ∧ x.toInt < 1200 := by omega
  have hN : 0 ≤ gN S ∧ gN S ≤ 1200 := by omega
  have ll := ha.1.1
  have cc := h.2.2.2.1
  have co := h.2.2.2.2
  have L82 : ∀ (c : Nat) (v k : Int32), 0 ≤ k.toInt → (∀ n : Nat, btL v n ↔ LaQ S x.toInt.toNat n ∨ ∃ c r : Nat, (c : Int) < k.toInt ∧ LaI S x.toInt.toNat c ∧ HrP S (qI S 84 c).toInt.toNat r ∧ btL (qI S 90 r) n) → (16 - k.toInt).toNat < c → w_liveAt_L82 (fun r u => u = S ∧ ∀ n : Nat, btL r n ↔ LaP S x.toInt.toNat n) c S x v k := by
    intro c
    induction c with
    | zero => intro v k _ _ h9; exact absurd h9 (Nat.not_lt_zero _)
    | succ c ih =>
      intro v k k0 hv hc
      unfold w_liveAt_L82 w_liveAt_J117
      refine ⟨fun c1 => ⟨rfl, fun n => ?_⟩, fun c1 => ?_⟩
      · rw [hv]
        unfold LaP
        constructor
        · rintro (q | ⟨j, r, q1, q2, q3⟩)
          · exact Or.inl q
          · exact Or.inr ⟨j, r, q2, q3⟩
        · rintro (q | ⟨j, r, q2, q3⟩)
          · exact Or.inl q
          · exact Or.inr ⟨j, r, by have := q2.1; omega, q2, q3⟩
      have ek : (k + Int32.ofInt 1).toInt = k.toInt + 1 := by rw [t_add (by rw [lo_1]; omega), lo_1]
      have rk : 0 ≤ k.toInt ∧ k.toInt < 16 := by omega
      have dI : d_isIn S x k := by
        unfold d_isIn d_isIn_J33
        simp only [ite_self]
        exact ⟨rk, ite_T (fun _ => ⟨rk, ite_T (fun _ => trivial) (fun _ => ⟨rk, trivial⟩)⟩) (fun _ => trivial)⟩
      have fI : ¬ (f_isIn S x k).toInt = 0 ↔ LaI S x.toInt.toNat k.toInt.toNat := by
        unfold f_isIn f_isIn_J33 LaI
        by_cases q1 : (qI S 86 k.toInt.toNat).toInt = 0
        · rw [if_pos q1]
          by_cases q2 : x.toInt < (qI S 82 k.toInt.toNat).toInt
          · rw [if_pos q2]
            exact ⟨fun y => absurd rfl y, fun y => by omega⟩
          · rw [if_neg q2]
            by_cases q3 : (qI S 83 k.toInt.toNat).toInt ≤ x.toInt
            · rw [if_pos q3]
              exact ⟨fun y => absurd rfl y, fun y => by omega⟩
            · rw [if_neg q3]
              exact ⟨fun _ => ⟨by omega, q1, by omega, by omega⟩, fun _ => by decide⟩
        · rw [if_neg q1]
          exact ⟨fun y => absurd rfl y, fun y => absurd y.2.1 q1⟩
      refine ⟨dI, fun c2 a ea => ?_, fun c2 => ⟨rk, ?_⟩⟩
      · subst ea
        refine ih _ _ (by omega) (fun n => ?_) (by omega)
        rw [hv]
        constructor
        · rintro (q | ⟨j, r, q1, q2, q3⟩)
          · exact Or.inl q
          · exact Or.inr ⟨j, r, by omega, q2, q3⟩
        · rintro (q | ⟨j, r, q1, q2, q3⟩)
          · exact Or.inl q
          · refine Or.inr ⟨j, r, ?_, q2, q3⟩
            by_cases e : j = k.toInt.toNat
            · rw [e] at q2
              exact absurd c2 (fI.mpr q2)
            · omega
      · have hk := fI.mp c2
        have cx := co k.toInt.toNat (by omega)
        have al := ha.2.2 k.toInt.toNat x.toInt.toNat hk.1 hk.2.1 (by omega) g hk.2.2.1 hk.2.2.2
        refine ⟨_, fn_here hN ⟨cx.2.2.1.1, by omega⟩, ?_⟩
        rintro r u ⟨eu, r0, r1⟩
        subst eu
        have rl := r1.le (j := l) (by omega) ha.1.2.1
        refine ⟨⟨r0, by omega⟩, fun v2 ev a ea => ?_⟩
        subst ea
        subst ev
        refine ih _ _ (by omega) (fun n => ?_) (by omega)
        rw [btL_or, hv]
        constructor
        · rintro ((q | ⟨j, r2, q1, q2, q3⟩) | q)
          · exact Or.inl q
          · exact Or.inr ⟨j, r2, by omega, q2, q3⟩
          · exact Or.inr ⟨k.toInt.toNat, r.toInt.toNat, by omega, hk, r1, q⟩
        · rintro (q | ⟨j, r2, q1, q2, q3, q4⟩)
          · exact Or.inl (Or.inl q)
          · by_cases e : j = k.toInt.toNat
            · rw [e] at q3
              rw [q3.uq r1] at q4
              exact Or.inr q4
            · exact Or.inl (Or.inr ⟨j, r2, by omega, q2, q3, q4⟩)
  have J80 : ∀ v : Int32, (∀ n : Nat, btL v n ↔ LaQ S x.toInt.toNat n) → w_liveAt_J80 (fun r u => u = S ∧ ∀ n : Nat, btL r n ↔ LaP S x.toInt.toNat n) S x v := fun v hv => by
    unfold w_liveAt_J80
    refine ⟨_, L82 _ v 0 (by decide) (fun n => ?_) (Nat.lt_succ_self _)⟩
    rw [hv]
    constructor
    · exact fun q => Or.inl q
    · rintro (q | ⟨j, r, q2, _⟩)
      · exact q
      · have : (0 : Int32).toInt = 0 := rfl
        omega
  have J62 : ∀ v : Int32, (∀ n : Nat, btL v n ∨ btL (f_bitsOf S (qI S 78 x.toInt.toNat) (qI S 79 x.toInt.toNat)) n ↔ LaQ S x.toInt.toNat n) → w_liveAt_J62 (fun r u => u = S ∧ ∀ n : Nat, btL r n ↔ LaP S x.toInt.toNat n) S x v := fun v hv => by
    unfold w_liveAt_J62
    refine ⟨rx, rx, d_bits, fun a ea => J80 a (fun n => ?_)⟩
    rw [ea, btL_or]
    exact hv n
  have J38 : ∀ v : Int32, (∀ n : Nat, btL v n ↔ LbP S x.toInt.toNat n ∧ ¬ (¬ (f_isStore S (qI S 78 x.toInt.toNat)).toInt = 0 ∧ btL (f_bitsOf S (qI S 78 x.toInt.toNat) (qI S 79 x.toInt.toNat)) n)) → w_liveAt_J38 (fun r u => u = S ∧ ∀ n : Nat, btL r n ↔ LaP S x.toInt.toNat n) S x v := fun v hv => by
    unfold w_liveAt_J38
    have yes : (¬ (f_isLoad S (qI S 78 x.toInt.toNat)).toInt = 0 ∨ (qI S 78 x.toInt.toNat).toInt = 132) → w_liveAt_J62 (fun r u => u = S ∧ ∀ n : Nat, btL r n ↔ LaP S x.toInt.toNat n) S x v := fun y => J62 v (fun n => by
      unfold LaQ
      rw [hv]
      constructor
      · rintro (q | q)
        · exact Or.inl q
        · exact Or.inr ⟨y, q⟩
      · rintro (q | q)
        · exact Or.inl q
        · exact Or.inr q.2)
    refine ⟨rx, d_loa, fun c1 => ⟨rx, fun c2 => yes (Or.inr c2), fun c2 => J80 v (fun n => ?_)⟩, fun c1 => yes (Or.inl c1)⟩
    unfold LaQ
    rw [hv]
    constructor
    · exact fun q => Or.inl q
    · rintro (q | ⟨q | q, _⟩)
      · exact q
      · exact absurd c1 q
      · exact absurd q c2
  unfold w_liveAt
  refine ⟨_, fn_liveBehind h ha hx g, ?_⟩
  rintro r u ⟨eu, hr⟩
  subst eu
  refine ⟨rx, d_sto, fun c1 => J38 r (fun n => ?_), fun c1 => ⟨rx, rx, d_bits, fun a ea => J38 a (fun n => ?_)⟩⟩
  · rw [hr]
    exact ⟨fun q => ⟨q, fun y => y.1 c1⟩, fun q => q.1⟩
  · rw [ea, btL_no, hr]
    exact ⟨fun q => ⟨q.1, fun y => q.2 y.2⟩, fun q => ⟨q.1, fun y => q.2 ⟨c1, y⟩⟩⟩
theorem LaP.mo {S u : MS} {i n : Nat} (h : LaP S i n) (s : smO S u) (e : qI u 86 = qI S 86) (m : ∀ j : Nat, btL (qI S 90 j) n → btL (qI u 90 j) n) : LaP u i n := by
  obtain ⟨a1, a2, a3, a4, a5, a6, a7, a8, a9, a10, a11⟩ := id s
  have lb : LbP S i n → LbP u i n := by
    unfold LbP
    rw [a4, s.gn]
    rintro (⟨q1, r, q2, q3, q4⟩ | ⟨k, r, q1, q2, q3⟩)
    · exact Or.inl ⟨q1, r, s.hr.mpr q2, q3, m r q4⟩
    · exact Or.inr ⟨k, r, by rw [(s.tw i k).1]; exact q1, by rw [(s.tw i k).2]; exact s.hr.mpr q2, m r q3⟩
  have lq : LaQ S i n → LaQ u i n := by
    unfold LaQ
    rw [a4, a5]
    rintro (⟨q1, q2⟩ | q)
    · exact Or.inl ⟨lb q1, q2⟩
    · exact Or.inr q
  rcases h with q | ⟨c, r, q1, q2, q3⟩
  · exact Or.inl (lq q)
  · refine Or.inr ⟨c, r, ?_, by rw [a10]; exact s.hr.mpr q2, m r q3⟩
    unfold LaI at q1 ⊢
    rw [a2, e, a8, a9]
    exact q1
def lvN (S : MS) : Nat := sumN (fun j => cnt0 (qI S 90 j) 32) (gN S).toNat
def LvI (S U : MS) : Prop := frm [90] [] S U ∧ ∀ i n : Nat, (i : Int) < gN S → (qI S 81 i).toInt = 0 → btL (qI U 90 i) n → LaP U i n
theorem sp_findLive {S : MS} {L F M : Int} {l : Nat} (h : OpR S L F M) (ha : OpA S l) : w_findLive S (fun u => frm [90] [] S u) := by
  have b := h.1
  have hN : 0 ≤ gN S ∧ gN S ≤ 1200 := by omega
  have up : ∀ U : MS, frm [90] [] S U → smO S U ∧ qI U 86 = qI S 86 := fun U fU => ⟨smO.fm fU (by decide) (by decide) (by decide), (fU.2.2.2.2.1 86 (by decide) (by decide)).1⟩
  have L38 : ∀ (k25 : MS → Int32 → Prop) (U0 : MS), (∀ (U : MS) (t : Int32), LvI S U → lvN U ≤ lvN U0 → (¬ t.toInt = 0 → lvN U < lvN U0) → k25 U t) → ∀ (c : Nat) (U : MS) (t x : Int32), LvI S U → lvN U ≤ lvN U0 → (¬ t.toInt = 0 → lvN U < lvN U0) → (-1 ≤ x.toInt ∧ x.toInt < gN S) → (x.toInt + 1).toNat < c → w_findLive_L38 (fun u => frm [90] [] S u) k25 c U t x := by
    intro k25 U0 hk c
    induction c with
    | zero => intro U t x _ _ _ _ h9; exact absurd h9 (Nat.not_lt_zero _)
    | succ c ih =>
      intro U t x hU hl ht hx hc
      obtain ⟨s, e86⟩ := up U hU.1
      unfold w_findLive_L38 w_findLive_J87
      refine ⟨fun _ => hk U t hU hl ht, fun c1 => ?_⟩
      have rx : 0 ≤ x.toInt ∧ x.toInt < 1200 := by omega
      have lm : (Int32.ofInt (-1)).toInt = -1 := by decide
      have ek : (x + Int32.ofInt (-1)).toInt = x.toInt - 1 := by rw [t_add (by rw [lm]; omega), lm]; omega
      have eb : -1 ≤ (x + Int32.ofInt (-1)).toInt ∧ (x + Int32.ofInt (-1)).toInt < gN S := by rw [ek]; omega
      have ec : ((x + Int32.ofInt (-1)).toInt + 1).toNat < c := by rw [ek]; omega
      refine ⟨rx, fun c2 => ?_, fun c2 a ea => by subst ea; exact ih U t _ hU hl ht eb ec⟩
      refine ⟨_, fn_liveAt (s.r h) (s.a ha (fun c e => by rw [e86] at e; exact e)) (by rw [s.gn]; omega) c2, ?_⟩
      rintro r V ⟨eV, hr⟩
      subst eV
      have sub : ∀ n : Nat, btL (qI V 90 x.toInt.toNat) n → btL r n := fun n q => (hr n).mpr (hU.2 _ n (by omega) (by rw [← s.2.2.2.2.2.2.1]; exact c2) q)
      -- the row gets what is live there
      have put : ∀ D : MS, D = wI V 90 x.toInt.toNat r → LvI S D ∧ lvN D ≤ lvN V ∧ (¬ r.toInt = (qI V 90 x.toInt.toNat).toInt → lvN D < lvN V) := fun D eD => by
        have fD : frm [90] [] V D := by rw [eD]; exact frm.pI (by decide)
        have sD : smO V D := smO.fm fD (by decide) (by decide) (by decide)
        have d86 : qI D 86 = qI V 86 := (fD.2.2.2.2.1 86 (by decide) (by decide)).1
        have d90 : ∀ j : Nat, qI D 90 j = if j = x.toInt.toNat then r else qI V 90 j := fun j => by
          rw [eD, qI_wI]
          by_cases q : j = x.toInt.toNat
          · rw [if_pos ⟨rfl, q⟩, if_pos q]
          · rw [if_neg (fun y => q y.2), if_neg q]
        have gr : ∀ j n : Nat, btL (qI V 90 j) n → btL (qI D 90 j) n := fun j n q => by
          rw [d90]
          by_cases e : j = x.toInt.toNat
          · rw [if_pos e]; rw [e] at q; exact sub n q
          · rw [if_neg e]; exact q
        have cl : ∀ j : Nat, cnt0 (qI D 90 j) 32 ≤ cnt0 (qI V 90 j) 32 := fun j => cnt0_le (fun n q => gr j n q) 32
        refine ⟨⟨hU.1.tr fD, fun i n i1 i2 q => ?_⟩, ?_, fun ne => ?_⟩
        · rw [d90] at q
          by_cases e : i = x.toInt.toNat
          · rw [if_pos e] at q
            rw [e]
            exact ((hr n).mp q).mo sD d86 (fun j => gr j n)
          · rw [if_neg e] at q
            exact (hU.2 i n i1 i2 q).mo sD d86 (fun j => gr j n)
        · unfold lvN
          rw [sD.gn]
          exact sumN_le _ (fun j _ => cl j)
        · unfold lvN
          rw [sD.gn]
          refine sumN_lt (i := x.toInt.toNat) _ (fun j _ => cl j) (by rw [s.gn]; omega) ?_
          show cnt0 (qI D 90 x.toInt.toNat) 32 < cnt0 (qI V 90 x.toInt.toNat) 32
          rw [d90, if_pos rfl]
          by_cases ex : ∃ n : Nat, n < 32 ∧ btL r n ∧ ¬ btL (qI V 90 x.toInt.toNat) n
          · obtain ⟨n, n1, n2, n3⟩ := ex
            exact cnt0_lt (fun n q => sub n q) n2 n3 32 n1
          · refine absurd ?_ ne
            have : r.toBitVec = (qI V 90 x.toInt.toNat).toBitVec := BitVec.eq_of_getLsbD_eq (fun n hn => by
              have s1 := sub n
              unfold btL at s1 ex
              by_cases y : r.toBitVec.getLsbD n = true
              · by_cases w : (qI V 90 x.toInt.toNat).toBitVec.getLsbD n = true
                · rw [y, w]
                · exact absurd ⟨n, hn, y, w⟩ ex
              · by_cases w : (qI V 90 x.toInt.toNat).toBitVec.getLsbD n = true
                · exact absurd (s1 w) y
                · rw [Bool.eq_false_iff.mpr y, Bool.eq_false_iff.mpr w])
            rw [Int32.toBitVec_inj.mp this]
      have J79 : ∀ t2 : Int32, (¬ t2.toInt = 0 → lvN V < lvN U0 ∨ ¬ r.toInt = (qI V 90 x.toInt.toNat).toInt) → w_findLive_J79 (fun u => frm [90] [] S u) (w_findLive_L38 (fun u => frm [90] [] S u) k25 c) V t2 x r := fun t2 h2 => by
        unfold w_findLive_J79 w_findLive_J87
        refine ⟨rx, fun D eD a ea => ?_⟩
        subst ea
        obtain ⟨p1, p2, p3⟩ := put D eD
        refine ih D t2 _ p1 (Nat.le_trans p2 hl) (fun q => ?_) eb ec
        rcases h2 q with y | y
        · exact Nat.lt_of_le_of_lt p2 y
        · exact Nat.lt_of_lt_of_le (p3 y) hl
      refine ⟨fun _ => ⟨rx, fun _ => J79 0 (fun q => absurd rfl q), fun c4 => J79 1 (fun _ => Or.inr c4)⟩, fun c3 => J79 1 (fun _ => Or.inl (ht c3))⟩
  have L25 : ∀ (c : Nat) (U : MS) (t : Int32), LvI S U → 2 * lvN U + (if t.toInt = 0 then 0 else 1) < c → w_findLive_L25 (fun u => frm [90] [] S u) c U t := by
    intro c
    induction c with
    | zero => intro U t _ h9; exact absurd h9 (Nat.not_lt_zero _)
    | succ c ih =>
      intro U t hU hc
      obtain ⟨s, e86⟩ := up U hU.1
      unfold w_findLive_L25
      refine ⟨fun _ => hU.1, fun c1 a ea => ?_⟩
      rw [if_neg c1] at hc
      have e : a.toInt = gN S - 1 := by
        rw [ea, t_sub (by rw [li_1, s.1]; unfold gN at hN; omega), li_1, s.1]
        rfl
      refine ⟨_, L38 _ U (fun V t2 hV l1 l2 => ih V t2 hV ?_) _ U 0 a hU (Nat.le_refl _) (fun q => absurd rfl q) (by omega) (Nat.lt_succ_self _)⟩
      by_cases q : t2.toInt = 0
      · rw [if_pos q]; omega
      · rw [if_neg q]
        have := l2 q
        omega
  have b0 : ∀ n : Nat, ¬ btL 0 n := fun n q => by
    unfold btL at q
    rw [show (0 : Int32).toBitVec = 0#32 from rfl, BitVec.getLsbD_zero] at q
    exact absurd q (by decide)
  have L2 : ∀ (c : Nat) (U : MS) (k : Int32), frm [90] [] S U → 0 ≤ k.toInt → (∀ j : Nat, (j : Int) < k.toInt → qI U 90 j = 0) → (1200 - k.toInt).toNat < c → w_findLive_L2 (fun u => frm [90] [] S u) c U k := by
    intro c
    induction c with
    | zero => intro U k _ _ _ h9; exact absurd h9 (Nat.not_lt_zero _)
    | succ c ih =>
      intro U k fU k0 hz hc
      obtain ⟨s, e86⟩ := up U fU
      have eg : (qI U 0 129).toInt = gN S := by rw [s.1]; rfl
      unfold w_findLive_L2
      rw [eg]
      refine ⟨fun c1 => ⟨_, L25 _ U 1 ⟨fU, fun i n i1 i2 q => ?_⟩ (Nat.lt_succ_self _)⟩, fun c1 => ⟨⟨k0, by omega⟩, fun D eD a ea => ?_⟩⟩
      · rw [hz i (by omega)] at q
        exact absurd q (b0 n)
      · have ek : (k + Int32.ofInt 1).toInt = k.toInt + 1 := by rw [t_add (by rw [lo_1]; omega), lo_1]
        subst ea
        refine ih D _ (fU.tr (by rw [eD]; exact frm.pI (by decide))) (by omega) (fun j hj => ?_) (by omega)
        rw [eD, qI_wI]
        by_cases q : j = k.toInt.toNat
        · rw [if_pos ⟨rfl, q⟩]
        · rw [if_neg (fun y => q y.2)]
          exact hz j (by omega)
  unfold w_findLive
  exact ⟨_, L2 _ S 0 frm.rf (by decide) (fun j hj => by have : (0 : Int32).toInt = 0 := rfl; omega) (Nat.lt_succ_self _)⟩
/-! pass, rounds (behind sp_apply, sp_findLive, sp_sweep, sp_mark) -/
def WtI (S0 : MS) (w : Nat) (u : MS) : Prop := wtN u ≤ w ∧ swE S0 u
theorem WtI.sm {S0 S u : MS} {w : Nat} (h : WtI S0 w S) (s : smO S u) : WtI S0 w u := ⟨by rw [wtN_sm s]; exact h.1, h.2.tr (swE.sm s)⟩
theorem WtI.ap {S0 S u : MS} {w : Nat} (h : WtI S0 w S) (k : wtN u ≤ wtN S ∧ swE S u) : WtI S0 w u := ⟨Nat.le_trans k.1 h.1, h.2.tr k.2⟩
def OpE (S0 : MS) (L F M : Int) (w : Nat) (u : MS) : Prop := OpR u L F M ∧ (∃ l : Nat, OpA u l) ∧ WtI S0 w u
theorem pM_sm {S u : MS} (s : smO S u) (o : Int) : pM o u = pM o S := by
  unfold pM
  rw [gtN_sm s, mN_sm s]
def mu13 (p : Nat) : Nat := p * 1300
theorem mu13_le {p q : Nat} (h : p ≤ q) : mu13 p ≤ mu13 q := Nat.mul_le_mul_right _ h
theorem mu13_lt {p q : Nat} (h : p < q) : mu13 p + 1300 ≤ mu13 q := by
  have e := mu13_le h
  have e2 : mu13 (p + 1) = mu13 p + 1300 := Nat.succ_mul p 1300
  rw [← e2]
  exact e
theorem ar1 {p p' c : Nat} {x q : Int} (h : mu13 p + (1300 - x).toNat < c + 1) (h1 : p' ≤ p) (h2 : x + 1 ≤ q) (h3 : q ≤ 1200) : mu13 p' + (1300 - q).toNat < c := by
  have := mu13_le h1
  omega
theorem ar2 {p p' c : Nat} {x q : Int} (h : mu13 p + (1300 - x).toNat < c + 1) (h1 : p' < p) (h2 : 0 ≤ q) (h3 : x ≤ 1200) : mu13 p' + (1300 - q).toNat < c := by
  have := mu13_lt h1
  omega
theorem sp_pass {S0 S : MS} {L F M : Int} {l w : Nat} {o : Int32} (h : OpR S L F M) (ha : OpA S l) (hw : WtI S0 w S) (ho : 1 ≤ o.toInt ∧ o.toInt ≤ 11) : w_pass S o (fun _ u => OpE S0 L F M w u) := by
  have mk : ∀ U V : MS, (frm [86, 87] [] U V ∧ ∀ c : Nat, (qI V 86 c).toInt = 0 → (qI U 86 c).toInt = 0) → OpR U L F M → OpA U l → smO U V ∧ OpR V L F M ∧ OpA V l := fun U V hV r a => by
    have s : smO U V := smO.fm hV.1 (by decide) (by decide) (by decide)
    exact ⟨s, s.r r, s.a a hV.2⟩
  have li : ∀ U V : MS, frm [90] [] U V → OpR U L F M → OpA U l → smO U V ∧ OpR V L F M ∧ OpA V l := fun U V fV r a => by
    have s : smO U V := smO.fm fV (by decide) (by decide) (by decide)
    exact ⟨s, s.r r, s.a a (fun c e => by rw [(fV.2.2.2.2.1 86 (by decide) (by decide)).1] at e; exact e)⟩
  have L32 : 2 ≤ o.toInt → ∀ (c : Nat) (U : MS) (t x : Int32), OpR U L F M → OpA U l → WtI S0 w U → (0 ≤ x.toInt ∧ x.toInt ≤ gN U) → (x.toInt < gN U → (qI U 81 x.toInt.toNat).toInt = 0) → mu13 (pM o.toInt U) + (1300 - x.toInt).toNat < c → w_pass_L32 (fun _ u => OpE S0 L F M w u) c U o t x := by
    intro o2 c
    induction c with
    | zero => intro U t x _ _ _ _ _ h9; exact absurd h9 (Nat.not_lt_zero _)
    | succ c ih =>
      intro U t x hr hA hw hx hg hc
      have b := hr.1
      have eg : (qI U 0 129).toInt = gN U := rfl
      unfold w_pass_L32
      rw [eg]
      refine ⟨fun _ => ⟨hr, ⟨l, hA⟩, hw⟩, fun c1 => ⟨_, sp_apply hr hA ⟨o2, ho.2⟩ ⟨hx.1, by omega⟩ (hg (by omega)), ?_⟩⟩
      rintro r V ⟨rV, aV, gV, wV, m1, m2⟩
      have bV := rV.1
      refine ⟨fun c2 => ⟨_, fn_behind (by omega) ⟨hx.1, by omega⟩, ?_⟩, fun c2 => ⟨_, sp_mark rV, ?_⟩⟩
      · rintro q W ⟨eW, q0, q1⟩
        subst eW
        have k1 := q1.1
        have k2 := q1.2.1
        exact ih W t q rV aV (hw.ap wV) ⟨q0, by omega⟩ (fun y => q1.2.2.1 (by omega)) (ar1 hc m1 (by omega) (by omega))
      · intro W hW
        have m3 := m2 c2
        obtain ⟨sW, rW, aW⟩ := mk V W hW rV aV
        have eW := pM_sm sW o.toInt
        have J65 : ∀ X : MS, smO W X → OpR X L F M → OpA X l → w_pass_J65 (fun _ u => OpE S0 L F M w u) (w_pass_L32 (fun _ u => OpE S0 L F M w u) c) X o 1 x := fun X sX rX aX => by
          have eX := pM_sm sX o.toInt
          have gX : gN X = gN U := by rw [sX.gn, sW.gn, gV]
          have bX := rX.1
          unfold w_pass_J65
          refine ⟨_, fn_here (by omega) ⟨hx.1, by omega⟩, ?_⟩
          rintro q Y ⟨eY, q0, q1⟩
          subst eY
          have k2 := q1.2.1
          exact ih Y 1 q rX aX (((hw.ap wV).sm sW).sm sX) ⟨q0, by omega⟩ (fun y => q1.2.2.1 (by omega)) (ar2 hc (by rw [eX, eW]; exact m3) q0 (by omega))
        refine ⟨fun _ => J65 W (smO.fm (W := []) (J := []) frm.rf (by decide) (by decide) (by decide)) rW aW, fun _ => ⟨_, sp_findLive rW aW, ?_⟩⟩
        intro X fX
        obtain ⟨sX, rX, aX⟩ := li W X fX rW aW
        exact J65 X sX rX aX
  have J24 : 2 ≤ o.toInt → ∀ U : MS, OpR U L F M → OpA U l → WtI S0 w U → w_pass_J24 (fun _ u => OpE S0 L F M w u) U o := fun o2 U rU aU hw => by
    have b := rU.1
    unfold w_pass_J24
    refine ⟨_, fn_here (by omega) ⟨by decide, ?_⟩, ?_⟩
    · show (0 : Int) ≤ gN U
      omega
    · rintro q Y ⟨eY, q0, q1⟩
      subst eY
      have k2 := q1.2.1
      exact ⟨_, L32 o2 _ Y 0 q rU aU hw ⟨q0, by omega⟩ (fun y => q1.2.2.1 (by omega)) (Nat.lt_succ_self _)⟩
  unfold w_pass
  refine ⟨_, sp_mark h, ?_⟩
  intro V hV
  obtain ⟨s, rV, aV⟩ := mk S V hV h ha
  have wV : WtI S0 w V := hw.sm s
  refine ⟨fun _ => ⟨_, fr_sweep (sp_sweep rV aV), ?_⟩, fun c => ⟨fun _ => J24 (by omega) V rV aV wV, fun _ => ⟨_, sp_findLive rV aV, ?_⟩⟩⟩
  · rintro r u ⟨⟨h1, l', h2⟩, f⟩
    have f78 := (f.2.2.2.2.1 78 (by decide) (by decide)).1
    have f79 := (f.2.2.2.2.1 79 (by decide) (by decide)).1
    have f80 := (f.2.2.2.2.1 80 (by decide) (by decide)).1
    refine ⟨h1, ⟨l', h2⟩, ?_, wV.2.tr ⟨by unfold gN; rw [(f.2.2.2.2.2 129 (by decide)).1], fun i _ => ⟨by rw [f78], by rw [f79], by rw [f80]⟩, fun z _ => by rw [(f.2.2.2.2.1 75 (by decide) (by decide)).1]⟩⟩
    have w1 := wV.1
    unfold wtN gN at w1 ⊢
    rw [(f.2.2.2.2.2 129 (by decide)).1, f78, f80]
    exact w1
  · intro X fX
    obtain ⟨sX, rX, aX⟩ := li V X fX rV aV
    exact J24 (by omega) X rX aX (wV.sm sX)
theorem sp_rounds {S0 S : MS} {L F M : Int} {w : Nat} {o : Int32} (h : OpE S0 L F M w S) : w_rounds S o (fun u => OpE S0 L F M w u) := by
  have L19 : ∀ (k4 : MS → Int32 → Int32 → Int32 → Prop) (n : Int32), (∀ (U : MS) (t : Int32), OpE S0 L F M w U → k4 U o t (n + Int32.ofInt 1)) → ∀ (c : Nat) (U : MS) (t x : Int32), OpE S0 L F M w U → 1 ≤ x.toInt → (12 - x.toInt).toNat < c → w_rounds_L19 (fun u => OpE S0 L F M w u) k4 c U o t n x := by
    intro k4 n hk c
    induction c with
    | zero => intro U t x _ _ h9; exact absurd h9 (Nat.not_lt_zero _)
    | succ c ih =>
      intro U t x hU x1 hc
      unfold w_rounds_L19 w_rounds_J51 w_rounds_J56 w_rounds_J57
      refine ⟨fun _ a ea => by subst ea; exact hk U t hU, fun c1 => ?_⟩
      have ek : (x + Int32.ofInt 1).toInt = x.toInt + 1 := by rw [t_add (by rw [lo_1]; omega), lo_1]
      have go : ∀ (V : MS) (t2 : Int32), OpE S0 L F M w V → ∀ a : Int32, a = x + Int32.ofInt 1 → w_rounds_L19 (fun u => OpE S0 L F M w u) k4 c V o t2 n a := fun V t2 hV a ea => by
        subst ea
        exact ih V t2 _ hV (by omega) (by omega)
      obtain ⟨r, ⟨l, hl⟩, hw⟩ := id hU
      exact ⟨fun _ => ⟨_, sp_pass r hl hw ⟨x1, by omega⟩, fun r V hV => ⟨fun _ => ⟨fun _ => go V _ hV, fun _ => go V _ hV⟩, fun _ => go V _ hV⟩⟩, fun _ => go U _ hU⟩
  have L4 : ∀ (c : Nat) (U : MS) (t n : Int32), OpE S0 L F M w U → 0 ≤ n.toInt → (50 - n.toInt).toNat < c → w_rounds_L4 (fun u => OpE S0 L F M w u) c U o t n := by
    intro c
    induction c with
    | zero => intro U t n _ _ h9; exact absurd h9 (Nat.not_lt_zero _)
    | succ c ih =>
      intro U t n hU n0 hc
      unfold w_rounds_L4
      refine ⟨fun _ => hU, fun _ => ⟨fun _ => hU, fun c1 => ?_⟩⟩
      have ek : (n + Int32.ofInt 1).toInt = n.toInt + 1 := by rw [t_add (by rw [lo_1]; omega), lo_1]
      exact ⟨_, L19 _ n (fun V t2 hV => ih V t2 _ hV (by omega) (by omega)) _ U 0 1 hU (by decide) (Nat.lt_succ_self _)⟩
  unfold w_rounds
  exact ⟨_, L4 _ S 1 0 h (by decide) (Nat.lt_succ_self _)⟩
