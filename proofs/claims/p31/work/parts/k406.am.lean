/-! putMethod: ways get their new aims (behind OpR, OpA) -/
/-- the same rows, as far as aims go -/
def smA (S u : MS) : Prop := qI u 0 129 = qI S 0 129 ∧ qI u 78 = qI S 78 ∧ qI u 79 = qI S 79 ∧ qI u 80 = qI S 80 ∧ qI u 81 = qI S 81
theorem smA.hr {S u : MS} (h : smA S u) {i r : Nat} : HrP u i r ↔ HrP S i r := by
  unfold HrP gN
  rw [h.1, h.2.2.2.2]
theorem smA.fm {S u v : MS} {W J : List Nat} (h : smA S u) (f : frm W J u v) (hW : W.all (fun w => ! [78, 79, 80, 81].contains w) = true) (hJ : 129 ∉ J) : smA S v := by
  have z : ∀ a : Nat, a ∈ [78, 79, 80, 81] → qI v a = qI u a := fun a ha => (f.2.2.2.2.1 a (fun q => by subst q; revert ha; decide) (fun q => by
    have y := List.all_eq_true.mp hW a q
    rw [List.contains_iff_mem.mpr ha] at y
    exact absurd y (by decide))).1
  exact ⟨(f.2.2.2.2.2 129 hJ).1.trans h.1, (z 78 (by decide)).trans h.2.1, (z 79 (by decide)).trans h.2.2.1, (z 80 (by decide)).trans h.2.2.2.1, (z 81 (by decide)).trans h.2.2.2.2⟩
def tA (S : MS) (i : Nat) : Nat := (qI S 79 i).toInt.toNat
def tB (S : MS) (i : Nat) : Int := (qI S 80 i).toInt
theorem aim_tab {S U0 : MS} {L F M e : Int} {l : Nat} {x : Int32} (h : OpR S L F M) (ha : OpA S l) (s : smA S U0) (np : ∀ r : Nat, (r : Int) < gN S → (qI S 81 r).toInt = 0 → 0 ≤ (qI U0 91 r).toInt ∧ (qI U0 91 r).toInt < e) (hx : 0 ≤ x.toInt ∧ x.toInt < gN S) (g : (qI S 81 x.toInt.toNat).toInt = 0) (hs : (qI S 78 x.toInt.toNat).toInt = 170 ∨ (qI S 78 x.toInt.toNat).toInt = 171) (old : ∀ k : Nat, (k : Int) ≤ tB S x.toInt.toNat → qI U0 75 (tA S x.toInt.toNat + 2 * k) = qI S 75 (tA S x.toInt.toNat + 2 * k)) : ∃ n, w_aimRow_L52 (fun u => frm [75] [] U0 u ∧ (∀ q : Nat, ¬ (tA S x.toInt.toNat ≤ q ∧ (q : Int) ≤ tA S x.toInt.toNat + 2 * tB S x.toInt.toNat) → qI u 75 q = qI U0 75 q) ∧ ∀ k : Nat, (k : Int) ≤ tB S x.toInt.toNat → 0 ≤ (qI u 75 (tA S x.toInt.toNat + 2 * k)).toInt ∧ (qI u 75 (tA S x.toInt.toNat + 2 * k)).toInt < e) n U0 x 0 := by
  have b := h.1
  have ll := ha.1.1
  have rx : 0 ≤ x.toInt ∧ x.toInt < 1200 := by omega
  have l2 : (2 : Int32).toInt = 2 := by decide
  obtain ⟨a0, b0, b1, ab, wd, _⟩ := (h.2.2.1 x.toInt.toNat (by omega)).2.2.1 hs
  have nj : (f_isJump S (qI S 78 x.toInt.toNat)).toInt = 0 := by
    by_cases q : (f_isJump S (qI S 78 x.toInt.toNat)).toInt = 0
    · exact q
    · have := jp_op q; omega
  have wy : wyN S x.toInt.toNat = tB S x.toInt.toNat + 1 := by
    unfold wyN tB
    rw [if_pos nj, if_neg (sw_is hs)]
  have tg : ∀ k : Nat, tgV S x.toInt.toNat k = qI S 75 (tA S x.toInt.toNat + 2 * k) := fun k => by
    unfold tgV tA
    rw [if_pos nj]
  have ea : (qI S 79 x.toInt.toNat).toInt = tA S x.toInt.toNat := by unfold tA; omega
  have eb : (qI S 80 x.toInt.toNat).toInt = tB S x.toInt.toNat := rfl
  have et : (qI S 79 x.toInt.toNat).toInt.toNat = tA S x.toInt.toNat := rfl
  rw [eb] at b0 b1 ab wd
  rw [ea] at ab
  rw [et] at wd
  have L52 : ∀ (c : Nat) (U : MS) (k : Int32), frm [75] [] U0 U → 0 ≤ k.toInt → (∀ q : Nat, ¬ (tA S x.toInt.toNat ≤ q ∧ (q : Int) ≤ tA S x.toInt.toNat + 2 * tB S x.toInt.toNat) → qI U 75 q = qI U0 75 q) → (∀ j : Nat, (j : Int) ≤ tB S x.toInt.toNat → ((j : Int) < k.toInt → 0 ≤ (qI U 75 (tA S x.toInt.toNat + 2 * j)).toInt ∧ (qI U 75 (tA S x.toInt.toNat + 2 * j)).toInt < e) ∧ (k.toInt ≤ j → qI U 75 (tA S x.toInt.toNat + 2 * j) = qI S 75 (tA S x.toInt.toNat + 2 * j))) → (202 - k.toInt).toNat < c → w_aimRow_L52 (fun u => frm [75] [] U0 u ∧ (∀ q : Nat, ¬ (tA S x.toInt.toNat ≤ q ∧ (q : Int) ≤ tA S x.toInt.toNat + 2 * tB S x.toInt.toNat) → qI u 75 q = qI U0 75 q) ∧ ∀ k : Nat, (k : Int) ≤ tB S x.toInt.toNat → 0 ≤ (qI u 75 (tA S x.toInt.toNat + 2 * k)).toInt ∧ (qI u 75 (tA S x.toInt.toNat + 2 * k)).toInt < e) c U x k := by
    intro c
    induction c with
    | zero => intro U k _ _ _ _ h9; exact absurd h9 (Nat.not_lt_zero _)
    | succ c ih =>
      intro U k fU k0 hq hw hc
      have sU := s.fm fU (by decide) (by decide)
      unfold w_aimRow_L52
      rw [sU.2.2.2.1, sU.2.2.1, eb]
      refine ⟨rx, fun c1 => ⟨fU, hq, fun j hj => (hw j hj).1 (by omega)⟩, fun c1 => ⟨rx, rx, ?_⟩⟩
      have e2 : ((2 : Int32) * k).toInt = 2 * k.toInt := by rw [t_mul (by rw [l2]; omega), l2]
      have e3 : (qI S 79 x.toInt.toNat + (2 : Int32) * k).toInt = tA S x.toInt.toNat + 2 * k.toInt := by rw [t_add (by rw [e2]; omega), e2, ea]
      have e4 : ((tA S x.toInt.toNat : Int) + 2 * k.toInt).toNat = tA S x.toInt.toNat + 2 * k.toInt.toNat := by omega
      have ek : (k + Int32.ofInt 1).toInt = k.toInt + 1 := by rw [t_add (by rw [lo_1]; omega), lo_1]
      rw [e3, e4]
      have wk := (hw k.toInt.toNat (by omega)).2 (by omega)
      have w1 := wd k.toInt.toNat (by omega)
      have al := ha.2.1 x.toInt.toNat k.toInt.toNat (by omega) g (by rw [wy]; omega)
      rw [tg] at al
      rw [wk]
      have eg : gN U = gN S := by unfold gN; rw [sU.1]
      refine ⟨by omega, _, fn_here (by rw [eg]; omega) (by rw [eg]; omega), ?_⟩
      rintro r V ⟨eV, r0, r1⟩
      subst eV
      rw [sU.hr] at r1
      have rl := r1.le (j := l) (by omega) ha.1.2.1
      have gr := r1.2.2.1 (by omega)
      have n1 := np r.toInt.toNat (by omega) gr
      refine ⟨by omega, by omega, fun D eD a ea' => ?_⟩
      subst ea'
      have v91 : qI V 91 = qI U0 91 := (fU.2.2.2.2.1 91 (by decide) (by decide)).1
      rw [v91] at eD
      have d75 : ∀ q : Nat, q ≠ tA S x.toInt.toNat + 2 * k.toInt.toNat → qI D 75 q = qI V 75 q := fun q hq => by rw [eD, qI_wI, if_neg (fun y => hq y.2)]
      have dk : qI D 75 (tA S x.toInt.toNat + 2 * k.toInt.toNat) = qI U0 91 r.toInt.toNat := by rw [eD, qI_wI, if_pos ⟨rfl, rfl⟩]
      refine ih D _ (fU.tr (by rw [eD]; exact frm.pI (by decide))) (by omega) (fun q y => by rw [d75 q (by omega)]; exact hq q y) (fun j hj => ⟨fun y => ?_, fun y => by rw [d75 _ (by omega)]; exact (hw j hj).2 (by omega)⟩) (by omega)
      by_cases w : j = k.toInt.toNat
      · rw [w, dk]; exact n1
      · rw [d75 _ (by omega)]
        exact (hw j hj).1 (by omega)
  have z0 : (0 : Int32).toInt = 0 := rfl
  exact ⟨_, L52 _ U0 0 frm.rf (by decide) (fun _ _ => rfl) (fun j hj => ⟨fun y => by omega, fun _ => old j hj⟩) (Nat.lt_succ_self _)⟩
/-- one row gets its aims -/
def AmP (S U : MS) (e : Int) (i pl : Nat) (u : MS) : Prop := frm [74, 75] [] U u ∧ (∀ q : Nat, ¬ (q = 3 * pl + 1 ∧ ¬ (f_isJump S (qI S 78 i)).toInt = 0) → qI u 74 q = qI U 74 q) ∧ (¬ (f_isJump S (qI S 78 i)).toInt = 0 → 0 ≤ (qI u 74 (3 * pl + 1)).toInt ∧ (qI u 74 (3 * pl + 1)).toInt < e) ∧ (∀ q : Nat, ¬ (((qI S 78 i).toInt = 170 ∨ (qI S 78 i).toInt = 171) ∧ tA S i ≤ q ∧ (q : Int) ≤ tA S i + 2 * tB S i) → qI u 75 q = qI U 75 q) ∧ ((qI S 78 i).toInt = 170 ∨ (qI S 78 i).toInt = 171 → ∀ k : Nat, (k : Int) ≤ tB S i → 0 ≤ (qI u 75 (tA S i + 2 * k)).toInt ∧ (qI u 75 (tA S i + 2 * k)).toInt < e)
theorem sp_aimRow {S U : MS} {L F M e : Int} {l : Nat} {x p : Int32} (h : OpR S L F M) (ha : OpA S l) (s : smA S U) (np : ∀ r : Nat, (r : Int) < gN S → (qI S 81 r).toInt = 0 → 0 ≤ (qI U 91 r).toInt ∧ (qI U 91 r).toInt < e) (hx : 0 ≤ x.toInt ∧ x.toInt < gN S) (g : (qI S 81 x.toInt.toNat).toInt = 0) (hp : 0 ≤ p.toInt ∧ p.toInt < 29000) (old : (qI S 78 x.toInt.toNat).toInt = 170 ∨ (qI S 78 x.toInt.toNat).toInt = 171 → ∀ k : Nat, (k : Int) ≤ tB S x.toInt.toNat → qI U 75 (tA S x.toInt.toNat + 2 * k) = qI S 75 (tA S x.toInt.toNat + 2 * k)) : w_aimRow U x p (AmP S U e x.toInt.toNat p.toInt.toNat) := by
  have b := h.1
  have ll := ha.1.1
  have rx : 0 ≤ x.toInt ∧ x.toInt < 1200 := by omega
  have dj : ∀ (V : MS) (o : Int32), d_isJump V o ∧ d_isSwitch V o := fun V o => by
    unfold d_isJump d_isJump_J14 d_isJump_J28 d_isSwitch d_isSwitch_J14
    simp only [ite_self]
    exact ⟨trivial, trivial⟩
  have eg : gN U = gN S := by unfold gN; rw [s.1]
  unfold w_aimRow
  rw [s.2.1, s.2.2.1]
  refine ⟨rx, (dj _ _).1, fun c1 => ?_, fun c1 => ⟨rx, ?_⟩⟩
  · have c1' : (f_isJump S (qI S 78 x.toInt.toNat)).toInt = 0 := c1
    unfold w_aimRow_J37
    rw [s.2.1]
    refine ⟨rx, (dj _ _).2, fun c2 => ⟨frm.rf, fun _ _ => rfl, fun q => absurd c1' q, fun _ _ => rfl, fun q => absurd c2 (sw_is q)⟩, fun c2 => ?_⟩
    have so := sw_op c2
    obtain ⟨n, hn⟩ := aim_tab h ha s np hx g so (old so)
    refine ⟨n, ?_⟩
    have mono : ∀ (Q Q' : MS → Prop), (∀ u, Q u → Q' u) → ∀ (c : Nat) (V : MS) (k : Int32), w_aimRow_L52 Q c V x k → w_aimRow_L52 Q' c V x k := by
      intro Q Q' hQ c
      induction c with
      | zero => intro V k hV; unfold w_aimRow_L52 at hV; exact hV.elim
      | succ c ih =>
        intro V k hV
        unfold w_aimRow_L52 at hV ⊢
        obtain ⟨y1, y2, y3⟩ := hV
        refine ⟨y1, fun z => hQ _ (y2 z), fun z => ?_⟩
        obtain ⟨z1, z2, z3, Q25, z4, z5⟩ := y3 z
        refine ⟨z1, z2, z3, Q25, z4, fun r V2 hr => ?_⟩
        obtain ⟨t1, t2, t3⟩ := z5 r V2 hr
        exact ⟨t1, t2, fun D eD a ea => ih D a (t3 D eD a ea)⟩
    refine mono _ _ (fun u hu => ?_) n U 0 hn
    obtain ⟨u1, u2, u3⟩ := hu
    refine ⟨u1.mo (by decide) (by decide), fun q _ => by rw [(u1.2.2.2.2.1 74 (by decide) (by decide)).1], fun q => absurd c1' q, fun q y => u2 q (fun w => y ⟨so, w⟩), fun _ => u3⟩
  · have c1' : ¬ (f_isJump S (qI S 78 x.toInt.toNat)).toInt = 0 := c1
    have jo := jp_op c1'
    have rv := (h.2.2.1 x.toInt.toNat (by omega)).2.1 jo
    have al := ha.2.1 x.toInt.toNat 0 (by omega) g (by unfold wyN; rw [if_neg c1']; decide)
    unfold tgV at al
    rw [if_neg c1'] at al
    refine ⟨_, fn_here (by rw [eg]; omega) (by rw [eg]; omega), ?_⟩
    rintro r V ⟨eV, r0, r1⟩
    subst eV
    rw [s.hr] at r1
    have rl := r1.le (j := l) (by omega) ha.1.2.1
    have gr := r1.2.2.1 (by omega)
    have n1 := np r.toInt.toNat (by omega) gr
    have e3 : ((3 : Int32) * p).toInt = 3 * p.toInt := by rw [t_mul (by rw [li_3]; omega), li_3]
    have e4 : ((3 : Int32) * p + 1).toInt = 3 * p.toInt + 1 := by rw [t_add (by rw [li_1]; omega), li_1, e3]
    rw [e4]
    refine ⟨by omega, by omega, fun D eD => ?_⟩
    have e5 : (3 * p.toInt + 1).toNat = 3 * p.toInt.toNat + 1 := by omega
    rw [e5] at eD
    have fD : frm [74, 75] [] V D := by rw [eD]; exact frm.pI (by decide)
    have sD := s.fm fD (by decide) (by decide)
    have d75 : qI D 75 = qI V 75 := by rw [eD, rdH (by decide)]
    unfold w_aimRow_J37
    rw [sD.2.1]
    refine ⟨rx, (dj _ _).2, fun _ => ⟨fD, fun q hq => by rw [eD, qI_wI, if_neg (fun y => hq ⟨y.2, c1'⟩)], fun _ => by rw [eD, qI_wI, if_pos ⟨rfl, rfl⟩]; exact n1, fun q _ => by rw [d75], fun q => by omega⟩, fun c2 => ?_⟩
    have := sw_op c2
    omega
/-! putMethod: its second loop, aims (behind sp_aimRow) -/
def isW (S : MS) (j : Nat) : Prop := (qI S 78 j).toInt = 170 ∨ (qI S 78 j).toInt = 171
def isJ (S : MS) (j : Nat) : Prop := ¬ (f_isJump S (qI S 78 j)).toInt = 0
/-- tables lie one behind the other -/
def TbD (S : MS) : Prop := ∀ i j : Nat, i < j → (j : Int) < gN S → (qI S 81 i).toInt = 0 → (qI S 81 j).toInt = 0 → isW S i → isW S j → (tA S i : Int) + 2 * tB S i + 1 ≤ tA S j
def plN (X : MS) (j : Nat) : Nat := (qI X 92 j).toInt.toNat
def AmI (S X : MS) (e : Int) (x : Nat) (U : MS) : Prop := frm [74, 75] [] X U ∧ (∀ q : Nat, (∀ j : Nat, j < x → (qI S 81 j).toInt = 0 → isJ S j → q ≠ 3 * plN X j + 1) → qI U 74 q = qI X 74 q) ∧ (∀ j : Nat, j < x → (qI S 81 j).toInt = 0 → isJ S j → 0 ≤ (qI U 74 (3 * plN X j + 1)).toInt ∧ (qI U 74 (3 * plN X j + 1)).toInt < e) ∧ (∀ q : Nat, (∀ j : Nat, j < x → (qI S 81 j).toInt = 0 → isW S j → ¬ (tA S j ≤ q ∧ (q : Int) ≤ tA S j + 2 * tB S j)) → qI U 75 q = qI X 75 q) ∧ ∀ j : Nat, j < x → (qI S 81 j).toInt = 0 → isW S j → ∀ k : Nat, (k : Int) ≤ tB S j → 0 ≤ (qI U 75 (tA S j + 2 * k)).toInt ∧ (qI U 75 (tA S j + 2 * k)).toInt < e
theorem pm_L206 {S X : MS} {Q : MS → Prop} {L F M e : Int} {l : Nat} {m : Int32} (h : OpR S L F M) (ha : OpA S l) (s : smA S X) (np : ∀ r : Nat, (r : Int) < gN S → (qI S 81 r).toInt = 0 → 0 ≤ (qI X 91 r).toInt ∧ (qI X 91 r).toInt < e) (pl : ∀ j : Nat, (j : Int) < gN S → (qI S 81 j).toInt = 0 → 0 ≤ (qI X 92 j).toInt ∧ (qI X 92 j).toInt < 29000) (inj : ∀ i j : Nat, (i : Int) < gN S → (j : Int) < gN S → (qI S 81 i).toInt = 0 → (qI S 81 j).toInt = 0 → (qI X 92 i).toInt = (qI X 92 j).toInt → i = j) (tb : TbD S) (w75 : qI X 75 = qI S 75) (done : ∀ U : MS, AmI S X e (gN S).toNat U → ((qR U 60 16 = some (qO U 60 16)) ∧ (((0 : Int) ≤ m.toInt ∧ m.toInt < (qN U (qO U 60 16) : Int)) ∧ (∀ S19, S19 = wI U (qO U 60 16) m.toInt.toNat (qI U 0 123) → (∃ n, w_putMethod_L260 Q n S19 m 0))))) : ∃ n, w_putMethod_L206 Q n X m 0 := by
  have b := h.1
  have L206 : ∀ (c : Nat) (U : MS) (x : Int32), 0 ≤ x.toInt → x.toInt ≤ gN S → AmI S X e x.toInt.toNat U → (1200 - x.toInt).toNat < c → w_putMethod_L206 Q c U m x := by
    intro c
    induction c with
    | zero => intro U x _ _ _ h9; exact absurd h9 (Nat.not_lt_zero _)
    | succ c ih =>
      intro U x x0 xN hU hc
      have hU' := hU
      obtain ⟨f, p1, p2, p3, p4⟩ := hU
      have sU := s.fm f (by decide) (by decide)
      have eg : (qI U 0 129).toInt = gN S := by rw [sU.1]; rfl
      unfold w_putMethod_L206 w_putMethod_J238
      rw [eg, sU.2.2.2.2]
      refine ⟨fun c1 => done U (by rw [show (gN S).toNat = x.toInt.toNat by omega]; exact hU'), fun c1 => ?_⟩
      have ek : (x + Int32.ofInt 1).toInt = x.toInt + 1 := by rw [t_add (by rw [lo_1]; omega), lo_1]
      have ekN : (x + Int32.ofInt 1).toInt.toNat = x.toInt.toNat + 1 := by omega
      have xlt : (x.toInt.toNat : Int) < gN S := by omega
      have u92 : qI U 92 = qI X 92 := (f.2.2.2.2.1 92 (by decide) (by decide)).1
      have u91 : qI U 91 = qI X 91 := (f.2.2.2.2.1 91 (by decide) (by decide)).1
      refine ⟨by omega, fun gx => ⟨by omega, ?_⟩, fun gx a ea => ?_⟩
      · rw [u92]
        have px := pl x.toInt.toNat xlt gx
        -- the table of x is still the old one
        have old : isW S x.toInt.toNat → ∀ k : Nat, (k : Int) ≤ tB S x.toInt.toNat → qI U 75 (tA S x.toInt.toNat + 2 * k) = qI S 75 (tA S x.toInt.toNat + 2 * k) := fun wx k hk => by
          rw [p3 _ (fun j hj gj wj q => ?_), w75]
          have := tb j x.toInt.toNat hj xlt gj gx wj wx
          omega
        refine ⟨_, sp_aimRow h ha sU (fun r r1 r2 => by rw [u91]; exact np r r1 r2) ⟨x0, by omega⟩ gx px old, ?_⟩
        rintro V ⟨fV, v1, v2, v3, v4⟩ a ea
        subst ea
        have ep : (qI X 92 x.toInt.toNat).toInt.toNat = plN X x.toInt.toNat := rfl
        rw [ep] at v1 v2
        refine ih V _ (by omega) (by omega) ?_ (by omega)
        rw [ekN]
        refine ⟨f.tr fV, fun q hq => ?_, fun j hj gj jj => ?_, fun q hq => ?_, fun j hj gj wj k hk => ?_⟩
        · rw [v1 q (fun y => hq x.toInt.toNat (by omega) gx y.2 y.1)]
          exact p1 q (fun j hj gj jj => hq j (by omega) gj jj)
        · by_cases y : j = x.toInt.toNat
          · subst y
            exact v2 jj
          · have pj := pl j (by omega) gj
            have ne : ¬ plN X j = plN X x.toInt.toNat := fun w => y (inj j x.toInt.toNat (by omega) xlt gj gx (by unfold plN at w; omega))
            rw [v1 _ (fun w => ne (by omega))]
            exact p2 j (by omega) gj jj
        · rw [v3 q (fun y => hq x.toInt.toNat (by omega) gx y.1 y.2)]
          exact p3 q (fun j hj gj wj => hq j (by omega) gj wj)
        · by_cases y : j = x.toInt.toNat
          · subst y
            exact v4 wj k hk
          · rw [v3 _ (fun w => by
              have := tb j x.toInt.toNat (by omega) xlt gj gx wj w.1
              omega)]
            exact p4 j (by omega) gj wj k hk
      · subst ea
        refine ih U _ (by omega) (by omega) ?_ (by omega)
        rw [ekN]
        have nx : ∀ j : Nat, (qI S 81 j).toInt = 0 → j ≠ x.toInt.toNat := fun j gj y => gx (by rw [← y]; exact gj)
        exact ⟨f, fun q hq => p1 q (fun j hj gj jj => hq j (by omega) gj jj), fun j hj gj jj => p2 j (by have := nx j gj; omega) gj jj, fun q hq => p3 q (fun j hj gj wj => hq j (by omega) gj wj), fun j hj gj wj => p4 j (by have := nx j gj; omega) gj wj⟩
  have z0 : (0 : Int32).toInt = 0 := rfl
  exact ⟨_, L206 _ X 0 (by decide) (by omega) ⟨frm.rf, fun _ _ => rfl, fun j hj => by omega, fun _ _ => rfl, fun j hj => by omega⟩ (Nat.lt_succ_self _)⟩
/-! putMethod: its third loop, catches (behind OpR, cOK) -/
def smH (S u : MS) : Prop := qI u 0 129 = qI S 0 129 ∧ qI u 0 135 = qI S 0 135 ∧ qI u 81 = qI S 81 ∧ qI u 82 = qI S 82 ∧ qI u 83 = qI S 83 ∧ qI u 84 = qI S 84 ∧ qI u 85 = qI S 85 ∧ qI u 86 = qI S 86
theorem smH.fm {S u v : MS} {W J : List Nat} (h : smH S u) (f : frm W J u v) (hW : W.all (fun w => ! [81, 82, 83, 84, 85, 86].contains w) = true) (h1 : 129 ∉ J) (h2 : 135 ∉ J) : smH S v := by
  have z : ∀ a : Nat, a ∈ [81, 82, 83, 84, 85, 86] → qI v a = qI u a := fun a ha => (f.2.2.2.2.1 a (fun q => by subst q; revert ha; decide) (fun q => by
    have y := List.all_eq_true.mp hW a q
    rw [List.contains_iff_mem.mpr ha] at y
    exact absurd y (by decide))).1
  exact ⟨(f.2.2.2.2.2 129 h1).1.trans h.1, (f.2.2.2.2.2 135 h2).1.trans h.2.1, (z 81 (by decide)).trans h.2.2.1, (z 82 (by decide)).trans h.2.2.2.1, (z 83 (by decide)).trans h.2.2.2.2.1, (z 84 (by decide)).trans h.2.2.2.2.2.1, (z 85 (by decide)).trans h.2.2.2.2.2.2.1, (z 86 (by decide)).trans h.2.2.2.2.2.2.2⟩
theorem smH.hr {S u : MS} (h : smH S u) {i r : Nat} : HrP u i r ↔ HrP S i r := by
  unfold HrP gN
  rw [h.1, h.2.2.1]
def DcP (U : MS) (e : Int) (u : MS) : Prop := frm [76] [123] U u ∧ (qI u 0 123).toInt = (qI U 0 123).toInt + 1 ∧ (∀ j : Nat, j < 4 * (qI U 0 123).toInt.toNat → qI u 76 j = qI U 76 j) ∧ cOK (qI u 76) e (qI U 0 123).toInt.toNat
theorem sp_draftCatch {S U : MS} {L F M e : Int} {l : Nat} {x : Int32} (h : OpR S L F M) (hl : LsP S l) (s : smH S U) (np : ∀ r : Nat, (r : Int) < gN S → (qI S 81 r).toInt = 0 → 0 ≤ (qI U 91 r).toInt ∧ (qI U 91 r).toInt < e) (nN : 0 ≤ (qI U 91 (gN S).toNat).toInt ∧ (qI U 91 (gN S).toNat).toInt ≤ e) (hx : 0 ≤ x.toInt ∧ x.toInt < (qI S 0 135).toInt) (pc : (qI S 82 x.toInt.toNat).toInt ≤ l ∧ (qI S 84 x.toInt.toNat).toInt ≤ l) (hc : 0 ≤ (qI U 0 123).toInt ∧ (qI U 0 123).toInt < 384) : w_draftCatch U x (DcP U e) := by
  have b := h.1
  have ll := hl.1
  have cc := h.2.2.2.1
  have cx := h.2.2.2.2 x.toInt.toNat (by omega)
  have rx : 0 ≤ x.toInt ∧ x.toInt < 16 := by omega
  have l3 : (3 : Int32).toInt = 3 := by decide
  have e4 : ((4 : Int32) * qI U 0 123).toInt = 4 * (qI U 0 123).toInt := by rw [t_mul (by rw [li_4]; omega), li_4]
  have f1 : ((4 : Int32) * qI U 0 123 + 1).toInt = 4 * (qI U 0 123).toInt + 1 := by rw [t_add (by rw [li_1]; omega), li_1, e4]
  have f2 : ((4 : Int32) * qI U 0 123 + 2).toInt = 4 * (qI U 0 123).toInt + 2 := by rw [t_add (by rw [li_2]; omega), li_2, e4]
  have f3 : ((4 : Int32) * qI U 0 123 + 3).toInt = 4 * (qI U 0 123).toInt + 3 := by rw [t_add (by rw [l3]; omega), l3, e4]
  have g1 : (qI U 0 123 + (1 : Int32)).toInt = (qI U 0 123).toInt + 1 := by rw [t_add (by rw [li_1]; omega), li_1]
  have eg : ∀ V : MS, smH S V → gN V = gN S := fun V sV => by unfold gN; rw [sV.1]
  have nr : ∀ r : Nat, (r : Int) ≤ gN S → ((r : Int) < gN S → (qI S 81 r).toInt = 0) → 0 ≤ (qI U 91 r).toInt ∧ (qI U 91 r).toInt ≤ e := fun r r1 r2 => by
    by_cases q : (r : Int) < gN S
    · have := np r q (r2 q); omega
    · rw [show r = (gN S).toNat by omega]; exact nN
  unfold w_draftCatch
  rw [s.2.2.2.1, e4]
  refine ⟨rx, _, fn_here (by rw [eg U s]; omega) (by rw [eg U s]; omega), ?_⟩
  rintro r V ⟨eV, r0, r1⟩
  subst eV
  rw [s.hr] at r1
  have rl := r1.le (j := l) (by omega) hl.2.1
  have n1 := np r.toInt.toNat (by omega) (r1.2.2.1 (by omega))
  refine ⟨by omega, by omega, fun A eA => ⟨rx, ?_⟩⟩
  have fA : frm [76] [123] V A := by rw [eA]; exact frm.pI (by decide)
  have sA := s.fm fA (by decide) (by decide) (by decide)
  have a0 : qI A 0 = qI V 0 := by rw [eA, rdH (by decide)]
  have a91 : qI A 91 = qI V 91 := by rw [eA, rdH (by decide)]
  rw [sA.2.2.2.2.1, a0, f1]
  refine ⟨_, fn_here (by rw [eg A sA]; omega) (by rw [eg A sA]; omega), ?_⟩
  rintro r' A' ⟨eA', r0', r1'⟩
  rw [eA']
  rw [sA.hr] at r1'
  have n2 := nr r'.toInt.toNat r1'.2.1 r1'.2.2.1
  have r2' := r1'.2.1
  refine ⟨by omega, by omega, fun B eB => ⟨rx, ?_⟩⟩
  have fB : frm [76] [123] A B := by rw [eB]; exact frm.pI (by decide)
  have sB := sA.fm fB (by decide) (by decide) (by decide)
  have b0 : qI B 0 = qI V 0 := by rw [eB, rdH (by decide), a0]
  have b91 : qI B 91 = qI V 91 := by rw [eB, rdH (by decide), a91]
  rw [sB.2.2.2.2.2.1, b0, f2]
  refine ⟨_, fn_here (by rw [eg B sB]; omega) (by rw [eg B sB]; omega), ?_⟩
  rintro r'' B' ⟨eB', r0'', r1''⟩
  rw [eB']
  rw [sB.hr] at r1''
  have rl'' := r1''.le (j := l) (by omega) hl.2.1
  have n3 := np r''.toInt.toNat (by omega) (r1''.2.2.1 (by omega))
  refine ⟨by omega, by omega, fun C eC => ⟨rx, ?_⟩⟩
  have fC : frm [76] [123] B C := by rw [eC]; exact frm.pI (by decide)
  have sC := sB.fm fC (by decide) (by decide) (by decide)
  have c0 : qI C 0 = qI V 0 := by rw [eC, rdH (by decide), b0]
  rw [sC.2.2.2.2.2.2.1, c0, f3]
  refine ⟨by omega, fun D eD E eE => ?_⟩
  have fD : frm [76] [123] C D := by rw [eD]; exact frm.pI (by decide)
  have fE : frm [76] [123] D E := by rw [eE]; exact frm.pI0 (by decide)
  have d0 : qI D 0 = qI V 0 := by rw [eD, rdH (by decide), c0]
  have e76 : qI E 76 = qI D 76 := by rw [eE, rdH (by decide)]
  refine ⟨fA.tr (fB.tr (fC.tr (fD.tr fE))), ?_, fun j hj => ?_, ?_⟩
  · rw [eE, qI_wI, if_pos ⟨rfl, rfl⟩, d0, g1]
  · rw [e76, eD, qI_wI, if_neg (fun q => by omega), eC, qI_wI, if_neg (fun q => by omega), eB, qI_wI, if_neg (fun q => by omega), eA, qI_wI, if_neg (fun q => by omega)]
  · have w0 : qI E 76 (4 * (qI V 0 123).toInt.toNat) = qI V 91 r.toInt.toNat := by
      rw [e76, eD, qI_wI, if_neg (fun q => by omega), eC, qI_wI, if_neg (fun q => by omega), eB, qI_wI, if_neg (fun q => by omega), eA, qI_wI, if_pos ⟨rfl, by omega⟩]
    have w1 : qI E 76 (4 * (qI V 0 123).toInt.toNat + 1) = qI V 91 r'.toInt.toNat := by
      rw [e76, eD, qI_wI, if_neg (fun q => by omega), eC, qI_wI, if_neg (fun q => by omega), eB, qI_wI, if_pos ⟨rfl, by omega⟩, a91]
    have w2 : qI E 76 (4 * (qI V 0 123).toInt.toNat + 2) = qI V 91 r''.toInt.toNat := by
      rw [e76, eD, qI_wI, if_neg (fun q => by omega), eC, qI_wI, if_pos ⟨rfl, by omega⟩, b91]
    have w3 : qI E 76 (4 * (qI V 0 123).toInt.toNat + 3) = qI S 85 x.toInt.toNat := by
      rw [e76, eD, qI_wI, if_pos ⟨rfl, by omega⟩]
    unfold cOK
    rw [w0, w1, w2, w3]
    exact ⟨n1, n2, n3, cx.2.2.2⟩
def LcI (Y : MS) (e : Int) (x : Nat) (U : MS) : Prop := frm [76] [123] Y U ∧ ((qI Y 0 123).toInt ≤ (qI U 0 123).toInt ∧ (qI U 0 123).toInt ≤ (qI Y 0 123).toInt + x) ∧ (∀ j : Nat, j < 4 * (qI Y 0 123).toInt.toNat → qI U 76 j = qI Y 76 j) ∧ ∀ c : Nat, (qI Y 0 123).toInt ≤ c → (c : Int) < (qI U 0 123).toInt → cOK (qI U 76) e c
theorem pm_L260 {S Y : MS} {Q : MS → Prop} {L F M e : Int} {l : Nat} {m : Int32} (h : OpR S L F M) (hl : LsP S l) (s : smH S Y) (np : ∀ r : Nat, (r : Int) < gN S → (qI S 81 r).toInt = 0 → 0 ≤ (qI Y 91 r).toInt ∧ (qI Y 91 r).toInt < e) (nN : 0 ≤ (qI Y 91 (gN S).toNat).toInt ∧ (qI Y 91 (gN S).toNat).toInt ≤ e) (pc : ∀ c : Nat, (c : Int) < (qI S 0 135).toInt → (qI S 86 c).toInt = 0 → (qI S 82 c).toInt ≤ l ∧ (qI S 84 c).toInt ≤ l) (hc : 0 ≤ (qI Y 0 123).toInt ∧ (qI Y 0 123).toInt + 16 ≤ 384) (done : ∀ (U : MS), LcI Y e 16 U → ((qR U 60 17 = some (qO U 60 17)) ∧ ((qR U 60 16 = some (qO U 60 16)) ∧ (((0 : Int) ≤ m.toInt ∧ m.toInt < (qN U (qO U 60 16) : Int)) ∧ (((0 : Int) ≤ m.toInt ∧ m.toInt < (qN U (qO U 60 17) : Int)) ∧ (∀ S29, S29 = wI U (qO U 60 17) m.toInt.toNat ((qI U 0 123) - (qI U (qO U 60 16) m.toInt.toNat)) → Q S29)))))) : ∃ n, w_putMethod_L260 Q n Y m 0 := by
  have cc := h.2.2.2.1
  have L260 : ∀ (c : Nat) (U : MS) (x : Int32), 0 ≤ x.toInt → x.toInt ≤ 16 → LcI Y e x.toInt.toNat U → (16 - x.toInt).toNat < c → w_putMethod_L260 Q c U m x := by
    intro c
    induction c with
    | zero => intro U x _ _ _ h9; exact absurd h9 (Nat.not_lt_zero _)
    | succ c ih =>
      intro U x x0 x16 hU hk
      obtain ⟨f, p1, p2, p3⟩ := hU
      have sU := s.fm f (by decide) (by decide) (by decide)
      unfold w_putMethod_L260 w_putMethod_J285
      rw [sU.2.1, sU.2.2.2.2.2.2.2]
      refine ⟨fun c1 => done U ⟨f, ⟨p1.1, by omega⟩, p2, p3⟩, fun c1 => ?_⟩
      have ek : (x + Int32.ofInt 1).toInt = x.toInt + 1 := by rw [t_add (by rw [lo_1]; omega), lo_1]
      have ekN : (x + Int32.ofInt 1).toInt.toNat = x.toInt.toNat + 1 := by omega
      have u91 : qI U 91 = qI Y 91 := (f.2.2.2.2.1 91 (by decide) (by decide)).1
      refine ⟨by omega, fun c2 => ⟨_, sp_draftCatch h hl sU (fun r r1 r2 => by rw [u91]; exact np r r1 r2) (by rw [u91]; exact nN) ⟨x0, by omega⟩ (pc _ (by omega) c2) (by omega), ?_⟩, fun _ a ea => ?_⟩
      · rintro V ⟨g, v1, v2, v3⟩ a ea
        subst ea
        refine ih V _ (by omega) (by omega) ⟨f.tr g, by omega, fun j hj => by rw [v2 j (by omega)]; exact p2 j hj, fun c' h1 h2 => ?_⟩ (by omega)
        by_cases q : c' = (qI U 0 123).toInt.toNat
        · rw [q]; exact v3
        · have k := p3 c' h1 (by omega)
          unfold cOK at k ⊢
          rw [v2 _ (by omega), v2 _ (by omega), v2 _ (by omega), v2 _ (by omega)]
          exact k
      · subst ea
        exact ih U _ (by omega) (by omega) ⟨f, by omega, p2, p3⟩ (by omega)
  have z0 : (0 : Int32).toInt = 0 := rfl
  exact ⟨_, L260 _ Y 0 (by decide) (by decide) ⟨frm.rf, by omega, fun _ _ => rfl, fun c' h1 h2 => by omega⟩ (Nat.lt_succ_self _)⟩
/-! putMethod: the rows that were laid and aimed are good (behind PmJ, AmI) -/
theorem jp_is2 {S : MS} {o : Int32} (h : (153 ≤ o.toInt ∧ o.toInt ≤ 167) ∨ o.toInt = 198 ∨ o.toInt = 199) : ¬ (f_isJump S o).toInt = 0 := by
  by_cases c : 153 ≤ o.toInt ∧ o.toInt ≤ 167
  · exact jp_is c
  · unfold f_isJump f_isJump_J14 f_isJump_J28
    by_cases d : o.toInt < 153
    · omega
    · rw [if_neg d, if_neg (by omega)]
      by_cases e : o.toInt = 198
      · rw [if_pos e]; decide
      · rw [if_neg e, if_pos (by omega)]; decide
theorem wtS_eq2 {R R' : Nat → Int32} {a : Nat} : ∀ n : Nat, (∀ i : Nat, i < n → R' (3 * (a + i)) = R (3 * (a + i)) ∧ R' (3 * (a + i) + 2) = R (3 * (a + i) + 2)) → wtS R' a n = wtS R a n := by
  intro n
  induction n with
  | zero => intro _; rfl
  | succ n ih =>
    intro h
    show wtS R' a n + wtR R' (a + n) = wtS R a n + wtR R (a + n)
    rw [ih (fun i hi => h i (by omega))]
    unfold wtR
    rw [(h n (by omega)).1, (h n (by omega)).2]
theorem pm_rows {S U X V : MS} {L F F' M : Int} {Z : Nat → Int32} {B e c N : Nat} (h : OpR S L F M) (hN : gN S = N) (hF : F ≤ F') (j1 : PmJ S U Z B F' N e c) (x74 : qI X 74 = qI U 74) (x92 : qI X 92 = qI U 92) (hA : AmI S X e N V) : (∀ p : Nat, p < e → rOK (qI V 74) (qI V 75) 40000 e L F' M (B + p)) ∧ wtS (qI V 74) B e = wtS (qI U 74) B e := by
  obtain ⟨⟨f, n1, n2, n3, n4⟩, h2, h3, h4, h5⟩ := j1
  obtain ⟨g, a1, a2, a3, a4⟩ := hA
  have pj : ∀ j : Nat, j < N → (qI S 81 j).toInt = 0 → ∃ p : Nat, p < e ∧ plN X j = B + p ∧ rowE S U j (B + p) := fun j hj gj => by
    obtain ⟨p, p1, p2, p3⟩ := h3 j hj gj
    exact ⟨p, p1, by unfold plN; rw [x92]; omega, p3⟩
  have r0 : ∀ q : Nat, qI V 74 (3 * q) = qI U 74 (3 * q) ∧ qI V 74 (3 * q + 2) = qI U 74 (3 * q + 2) := fun q => by
    rw [a1 (3 * q) (fun j _ _ _ => by omega), a1 (3 * q + 2) (fun j _ _ _ => by omega), x74]
    exact ⟨rfl, rfl⟩
  refine ⟨fun p hp => ?_, wtS_eq2 e (fun i _ => r0 (B + i))⟩
  unfold rOK
  rw [(r0 (B + p)).1, (r0 (B + p)).2]
  have jn : ∀ j : Nat, ¬ isJ S j → ¬ ((153 ≤ (qI S 78 j).toInt ∧ (qI S 78 j).toInt ≤ 167) ∨ (qI S 78 j).toInt = 198 ∨ (qI S 78 j).toInt = 199) := fun j hj q => hj (jp_is2 q)
  rcases h4 p hp with ⟨j, hj, gj, ej⟩ | hc
  · -- a row that is there
    obtain ⟨p', p1, p2, q1, q2, q3⟩ := pj j hj gj
    have epl : plN X j = B + p := by unfold plN; rw [x92]; omega
    have epp : p' = p := by omega
    subst epp
    rw [q1, q3]
    have rv := h.2.2.1 j (by omega)
    have aj : isJ S j → 0 ≤ (qI V 74 (3 * (B + p') + 1)).toInt ∧ (qI V 74 (3 * (B + p') + 1)).toInt < e := fun jj => by
      have := a2 j hj gj jj
      rw [epl] at this
      exact this
    have an : ¬ isJ S j → qI V 74 (3 * (B + p') + 1) = qI S 79 j := fun nj => by
      rw [a1 _ (fun i hi gi ii => ?_), x74, q2]
      intro w
      obtain ⟨pi, i1, i2, _⟩ := pj i hi gi
      have e1 : (qI U 92 i).toInt = (qI U 92 j).toInt := by
        obtain ⟨ui, _, u2, _⟩ := h3 i hi gi
        have v : plN X i = B + ui := by unfold plN; rw [x92]; omega
        omega
      have := h5 i j hi hj gi gj e1
      subst this
      exact nj ii
    have nj : ∀ o : Int, (qI S 78 j).toInt = o → ¬ ((153 ≤ o ∧ o ≤ 167) ∨ o = 198 ∨ o = 199) → ¬ isJ S j := fun o e w q => w (by rw [← e]; exact jp_op q)
    refine ⟨rv.1, fun q => aj (jp_is2 q), fun q => ?_, fun q => ?_, fun q => ?_, fun q => ?_, fun q => ?_⟩
    · rw [an (nj _ rfl (by omega))]
      obtain ⟨y1, y2, y3, y4, y5, y6⟩ := rv.2.2.1 q
      exact ⟨y1, y2, y3, y4, fun k hk => a4 j hj gj q k hk, y6⟩
    · rw [an (nj _ rfl (by omega))]; exact rv.2.2.2.1 q
    · rw [an (nj _ rfl (by omega))]; exact rv.2.2.2.2.1 q
    · rw [an (nj _ rfl (by omega))]
      have := rv.2.2.2.2.2.1 q
      omega
    · rw [an (nj _ rfl (by omega))]; exact rv.2.2.2.2.2.2 q
  · -- a counter's row
    have e1 : qI V 74 (3 * (B + p) + 1) = qI U 74 (3 * (B + p) + 1) := by
      rw [a1 _ (fun i hi gi ii => ?_), x74]
      intro w
      obtain ⟨pi, i1, i2, i3, _⟩ := pj i hi gi
      have : B + pi = B + p := by omega
      rw [this] at i3
      rw [i3] at hc
      have := jp_op ii
      unfold cRo at hc
      omega
    rw [e1]
    unfold cRo at hc
    exact ⟨by unfold opW; omega, fun w => by omega, fun w => by omega, fun w => by omega, fun w => by omega, fun w => by omega, fun w => by omega⟩
/-- a switch that was laid is one of the rows, with its table -/
theorem pm_sw {S U X V : MS} {F' : Int} {Z : Nat → Int32} {B e c N : Nat} (hN : gN S = N) (j1 : PmJ S U Z B F' N e c) (x74 : qI X 74 = qI U 74) (x92 : qI X 92 = qI U 92) (hA : AmI S X e N V) : ∀ p : Nat, p < e → (qI V 74 (3 * (B + p))).toInt = 170 ∨ (qI V 74 (3 * (B + p))).toInt = 171 → ∃ j : Nat, (j : Int) < gN S ∧ (qI S 81 j).toInt = 0 ∧ isW S j ∧ qI V 74 (3 * (B + p) + 1) = qI S 79 j ∧ qI V 74 (3 * (B + p) + 2) = qI S 80 j := by
  obtain ⟨⟨f, n1, n2, n3, n4⟩, h2, h3, h4, h5⟩ := j1
  obtain ⟨g, a1, a2, a3, a4⟩ := hA
  intro p hp hw
  have r0 : ∀ q : Nat, qI V 74 (3 * q) = qI U 74 (3 * q) ∧ qI V 74 (3 * q + 2) = qI U 74 (3 * q + 2) := fun q => by
    rw [a1 (3 * q) (fun j _ _ _ => by omega), a1 (3 * q + 2) (fun j _ _ _ => by omega), x74]
    exact ⟨rfl, rfl⟩
  rw [(r0 (B + p)).1] at hw
  rw [(r0 (B + p)).2]
  rcases h4 p hp with ⟨j, hj, gj, ej⟩ | hc
  · obtain ⟨p', p1, p2, q1, q2, q3⟩ := h3 j hj gj
    have epp : p' = p := by omega
    subst epp
    rw [q1] at hw
    have nj : ¬ isJ S j := fun q => by
      have := jp_op q
      omega
    refine ⟨j, by omega, gj, hw, ?_, q3⟩
    rw [a1 _ (fun i hi gi ii w => ?_), x74, q2]
    obtain ⟨pi, i1, i2, _⟩ := h3 i hi gi
    have v : plN X i = B + pi := by unfold plN; rw [x92]; omega
    have := h5 i j hi hj gi gj (by omega)
    subst this
    exact nj ii
  · unfold cRo at hc
    omega
/-! putMethod as a whole (behind pm_L21, pm_L206, pm_L260, pm_rows) -/
def sameBut (S u : MS) (a m : Nat) : Prop := ∀ j : Nat, j ≠ m → qI u a j = qI S a j
def PutP (S : MS) (L F M : Int) (B K m : Nat) (u : MS) : Prop := frm [70, 71, 72, 73, 74, 75, 76, 91, 92] [122, 123] S u ∧ ∃ e n : Nat, (1 ≤ e ∧ (e : Int) ≤ gN S + 4 * K ∧ n ≤ 16) ∧ ((qI u 0 122).toInt = (B : Int) + e ∧ (qI u 0 123).toInt = (qI S 0 123).toInt + n) ∧ ((∀ j : Nat, j < 3 * B → qI u 74 j = qI S 74 j) ∧ (∀ j : Nat, j < 4 * (qI S 0 123).toInt.toNat → qI u 76 j = qI S 76 j) ∧ ∀ q : Nat, (∀ j : Nat, (j : Int) < gN S → (qI S 81 j).toInt = 0 → isW S j → ¬ (tA S j ≤ q ∧ (q : Int) ≤ tA S j + 2 * tB S j)) → qI u 75 q = qI S 75 q) ∧ (sameBut S u 70 m ∧ sameBut S u 71 m ∧ sameBut S u 72 m ∧ sameBut S u 73 m) ∧ ((qI u 70 m).toInt = B ∧ (qI u 71 m).toInt = e ∧ (qI u 72 m).toInt = (qI S 0 123).toInt ∧ (qI u 73 m).toInt = n) ∧ (∀ p : Nat, p < e → rOK (qI u 74) (qI u 75) 40000 e L F M (B + p)) ∧ wtS (qI u 74) B e ≤ 3600 + 12 * K ∧ (∀ p : Nat, p < e → (qI u 74 (3 * (B + p))).toInt = 170 ∨ (qI u 74 (3 * (B + p))).toInt = 171 → ∃ j : Nat, (j : Int) < gN S ∧ (qI S 81 j).toInt = 0 ∧ isW S j ∧ qI u 74 (3 * (B + p) + 1) = qI S 79 j ∧ qI u 74 (3 * (B + p) + 2) = qI S 80 j) ∧ ∀ c : Nat, c < n → cOK (qI u 76) e ((qI S 0 123).toInt.toNat + c)
theorem sp_putMethod {S : MS} {L F F' M : Int} {l B K : Nat} {m x2 : Int32} {rc : Nat → Nat} (h : OpR S L F M) (ha : OpA S l) (tb : TbD S) (hw : wtN S ≤ 3600) (pc : ∀ c : Nat, (c : Int) < (qI S 0 135).toInt → (qI S 86 c).toInt = 0 → (qI S 82 c).toInt ≤ l ∧ (qI S 84 c).toInt ≤ l) (eB : (qI S 0 122).toInt = B) (hB : (B : Int) + gN S + 4 * K ≤ 29000) (hC : 0 ≤ (qI S 0 123).toInt ∧ (qI S 0 123).toInt + 16 ≤ 384) (hd : qR S 60 14 = some 70 ∧ qR S 60 15 = some 71 ∧ qR S 60 16 = some 72 ∧ qR S 60 17 = some 73) (hn : qN S 70 = 24 ∧ qN S 71 = 24 ∧ qN S 72 = 24 ∧ qN S 73 = 24) (hm : 0 ≤ m.toInt ∧ m.toInt < 24) (hF : F ≤ F') (r1 : ∀ i : Nat, rc i ≤ K) (r2 : ∀ i : Nat, (i : Int) < gN S → rc i ≤ rc (i + 1)) (r3 : ¬ x2.toInt < 0 → x2.toInt + K ≤ F' ∧ F' ≤ 24 ∧ ∀ i : Nat, (i : Int) < gN S → (0 ≤ (qI S 50 i).toInt ∧ (qI S 50 i).toInt < 1200) ∧ ((qI S 81 i).toInt = 0 → (qI S 49 (qI S 50 i).toInt.toNat).toInt = i → ¬ (qI S 53 (qI S 50 i).toInt.toNat).toInt = 0 → rc i + 1 ≤ rc (i + 1))) : w_putMethod S m x2 (PutP S L F' M B K m.toInt.toNat) := by
  have b := h.1
  have ll := ha.1.1
  obtain ⟨N, eN⟩ : ∃ N : Nat, gN S = N := ⟨(gN S).toNat, by omega⟩
  have qo : ∀ (V : MS) (a b : Nat), qR V 60 a = some b → qO V 60 a = b := fun V a b q => by unfold qO; rw [q]; rfl
  have o14 := qo S 14 70 hd.1
  unfold w_putMethod
  intro bs ebs
  have hb : bs.toInt = B := by rw [ebs]; exact eB
  refine ⟨by rw [o14]; exact hd.1, by rw [o14, hn.1]; exact ⟨hm.1, by omega⟩, fun A eA => ?_⟩
  rw [o14] at eA
  have fA : frm [70, 74, 91, 92] [122] S A := by rw [eA]; exact frm.pI (by decide)
  have a0 : qI A 0 = qI S 0 := by rw [eA, rdH (by decide)]
  have pA : PmJ S A (qI A 70) B F' 0 0 (4 * 0) := ⟨⟨fA, by rw [a0]; omega, by omega, ⟨fun j _ => by rw [eA, rdH (by decide)], rfl⟩, by show (0 : Int) ≤ _; omega⟩, fun j hj => absurd hj (Nat.not_lt_zero _), fun j hj => absurd hj (Nat.not_lt_zero _), fun p hp => absurd hp (Nat.not_lt_zero _), fun i j hi => absurd hi (Nat.not_lt_zero _)⟩
  refine ⟨_, pm_L21 (S := S) (Q := PutP S L F' M B K m.toInt.toNat) (N := N) (K := K) (F := F') (rc := rc) ⟨eN, by omega⟩ hb (by omega) r1 (fun i hi => r2 i (by omega)) (fun q => ⟨(r3 q).1, (r3 q).2.1, fun i hi => (r3 q).2.2 i (by omega)⟩) ?_ _ A x2 0 0 0 (by decide) (by show (0 : Int) ≤ N; omega) pA (fun _ => by omega) (Nat.zero_le _) (Nat.lt_succ_self _)⟩
  -- the rows are laid
  intro U e c pU hc T eT
  have fU := pU.1.1
  have u122 := pU.1.2.1
  have eU := pU.1.2.2.1
  have s122 : (qI U 0 122 - bs).toInt = e := by rw [t_sub (by omega)]; omega
  have u129 : (qI U 0 129).toInt.toNat = N := by
    have : (qI U 0 129).toInt = N := by rw [(fU.2.2.2.2.2 129 (by decide)).1]; exact eN
    omega
  rw [u129] at eT
  have fT : frm [70, 74, 91, 92] [122] U T := by rw [eT]; exact frm.pI (by decide)
  have fST := fU.tr fT
  have t60 : qR T 60 = qR S 60 := (fST.2.2.2.2.1 60 (by decide) (by decide)).2.2
  have o15 := qo T 15 71 (by rw [t60]; exact hd.2.1)
  have t0 : qI T 0 = qI U 0 := by rw [eT, rdH (by decide)]
  rw [o15, t0]
  refine ⟨by rw [t60]; exact hd.2.1, by rw [fST.2.1, hn.2.1]; exact ⟨hm.1, by omega⟩, fun X eX => ?_⟩
  have fX : frm [71] [] T X := by rw [eX]; exact frm.pI (by decide)
  have fSX : frm [70, 71, 74, 91, 92] [122] S X := (fST.mo (by decide) (by decide)).tr (fX.mo (by decide) (by decide))
  have zX := fun (a : Nat) (h1 : a ≠ 0) (h2 : a ∉ [70, 71, 74, 91, 92]) => (fSX.2.2.2.2.1 a h1 h2).1
  have x74 : qI X 74 = qI U 74 := by rw [eX, rdH (by decide), eT, rdH (by decide)]
  have x92 : qI X 92 = qI U 92 := by rw [eX, rdH (by decide), eT, rdH (by decide)]
  have x91 : ∀ j : Nat, j < N → qI X 91 j = qI U 91 j := fun j hj => by rw [eX, rdH (by decide), eT, qI_wI, if_neg (fun q => by omega)]
  have x91N : (qI X 91 N).toInt = e := by rw [eX, rdH (by decide), eT, qI_wI, if_pos ⟨rfl, rfl⟩, s122]
  have sX : smA S X := ⟨(fSX.2.2.2.2.2 129 (by decide)).1, zX 78 (by decide) (by decide), zX 79 (by decide) (by decide), zX 80 (by decide) (by decide), zX 81 (by decide) (by decide)⟩
  have np : ∀ r : Nat, (r : Int) < gN S → (qI S 81 r).toInt = 0 → 0 ≤ (qI X 91 r).toInt ∧ (qI X 91 r).toInt < (e : Int) := fun r q1 q2 => by
    rw [x91 r (by omega)]
    have := pU.2.1 r (by omega)
    exact ⟨this.1.1, this.2 q2⟩
  have e1 : 1 ≤ e := by have := np l ll ha.1.2.1; omega
  refine pm_L206 (e := e) h ha sX np (fun j q1 q2 => ?_) (fun i j q1 q2 q3 q4 q5 => ?_) tb (zX 75 (by decide) (by decide)) (fun V hV => ?_)
  · rw [x92]
    obtain ⟨p, p1, p2, _⟩ := pU.2.2.1 j (by omega) q2
    omega
  · rw [x92] at q5
    exact pU.2.2.2.2 i j (by omega) (by omega) q3 q4 q5
  -- the ways are led
  rw [show (gN S).toNat = N by omega] at hV
  have fV := hV.1
  obtain ⟨rows, wts⟩ := pm_rows h eN hF pU x74 x92 hV
  have fSV : frm [70, 71, 74, 75, 91, 92] [122] S V := (fSX.mo (by decide) (by decide)).tr (fV.mo (by decide) (by decide))
  have v60 : qR V 60 = qR S 60 := (fSV.2.2.2.2.1 60 (by decide) (by decide)).2.2
  have o16 := qo V 16 72 (by rw [v60]; exact hd.2.2.1)
  have v123 : qI V 0 123 = qI S 0 123 := (fSV.2.2.2.2.2 123 (by decide)).1
  rw [o16]
  refine ⟨by rw [v60]; exact hd.2.2.1, by rw [fSV.2.1, hn.2.2.1]; exact ⟨hm.1, by omega⟩, fun Y eY => ?_⟩
  have fY : frm [72] [] V Y := by rw [eY]; exact frm.pI (by decide)
  have fSY : frm [70, 71, 72, 74, 75, 91, 92] [122] S Y := (fSV.mo (by decide) (by decide)).tr (fY.mo (by decide) (by decide))
  have zY := fun (a : Nat) (h1 : a ≠ 0) (h2 : a ∉ [70, 71, 72, 74, 75, 91, 92]) => (fSY.2.2.2.2.1 a h1 h2).1
  have y91 : qI Y 91 = qI X 91 := by rw [eY, rdH (by decide), (fV.2.2.2.2.1 91 (by decide) (by decide)).1]
  have y123 : qI Y 0 123 = qI S 0 123 := (fSY.2.2.2.2.2 123 (by decide)).1
  have sY : smH S Y := ⟨(fSY.2.2.2.2.2 129 (by decide)).1, (fSY.2.2.2.2.2 135 (by decide)).1, zY 81 (by decide) (by decide), zY 82 (by decide) (by decide), zY 83 (by decide) (by decide), zY 84 (by decide) (by decide), zY 85 (by decide) (by decide), zY 86 (by decide) (by decide)⟩
  refine pm_L260 (e := e) h ha.1 sY (fun r q1 q2 => by rw [y91]; exact np r q1 q2) (by rw [y91, show (gN S).toNat = N by omega, x91N]; omega) pc (by rw [y123]; exact hC) (fun W hW => ?_)
  -- the catches are laid
  obtain ⟨fW, w1, w2, w3⟩ := hW
  rw [y123] at w1 w2 w3
  have fSW : frm [70, 71, 72, 74, 75, 76, 91, 92] [122, 123] S W := (fSY.mo (by decide) (by decide)).tr (fW.mo (by decide) (by decide))
  have w60 : qR W 60 = qR S 60 := (fSW.2.2.2.2.1 60 (by decide) (by decide)).2.2
  have o16' := qo W 16 72 (by rw [w60]; exact hd.2.2.1)
  have o17 := qo W 17 73 (by rw [w60]; exact hd.2.2.2)
  rw [o16', o17]
  refine ⟨by rw [w60]; exact hd.2.2.2, by rw [w60]; exact hd.2.2.1, by rw [fSW.2.1, hn.2.2.1]; exact ⟨hm.1, by omega⟩, by rw [fSW.2.1, hn.2.2.2]; exact ⟨hm.1, by omega⟩, fun Z eZ => ?_⟩
  have fZ : frm [73] [] W Z := by rw [eZ]; exact frm.pI (by decide)
  have fSZ : frm [70, 71, 72, 73, 74, 75, 76, 91, 92] [122, 123] S Z := (fSW.mo (by decide) (by decide)).tr (fZ.mo (by decide) (by decide))
  obtain ⟨n, en⟩ : ∃ n : Nat, (qI W 0 123).toInt = (qI S 0 123).toInt + n := ⟨((qI W 0 123).toInt - (qI S 0 123).toInt).toNat, by omega⟩
  have zz := fun (a : Nat) (h1 : a ≠ 73) => (show qI Z a = qI W a by rw [eZ, rdH h1])
  have ww := fun (a : Nat) (h1 : a ≠ 0) (h2 : a ∉ [76]) => (fW.2.2.2.2.1 a h1 h2).1
  have yy := fun (a : Nat) (h1 : a ≠ 72) => (show qI Y a = qI V a by rw [eY, rdH h1])
  have vv := fun (a : Nat) (h1 : a ≠ 0) (h2 : a ∉ [74, 75]) => (fV.2.2.2.2.1 a h1 h2).1
  have uu := fun (a : Nat) (h1 : a ≠ 0) (h2 : a ∉ [70, 74, 91, 92]) => (fU.2.2.2.2.1 a h1 h2).1
  have z74 : qI Z 74 = qI V 74 := by rw [zz 74 (by decide), ww 74 (by decide) (by decide), yy 74 (by decide)]
  have z75 : qI Z 75 = qI V 75 := by rw [zz 75 (by decide), ww 75 (by decide) (by decide), yy 75 (by decide)]
  have z76 : qI Z 76 = qI W 76 := zz 76 (by decide)
  have z70 : qI Z 70 = qI U 70 := by rw [zz 70 (by decide), ww 70 (by decide) (by decide), yy 70 (by decide), vv 70 (by decide) (by decide), eX, rdH (by decide), eT, rdH (by decide)]
  have z71 : qI Z 71 = qI X 71 := by rw [zz 71 (by decide), ww 71 (by decide) (by decide), yy 71 (by decide), vv 71 (by decide) (by decide)]
  have z72 : qI Z 72 = qI Y 72 := by rw [zz 72 (by decide), ww 72 (by decide) (by decide)]
  have t71 : qI T 71 = qI S 71 := by rw [eT, rdH (by decide), uu 71 (by decide) (by decide)]
  have v72 : qI V 72 = qI S 72 := (fSV.2.2.2.2.1 72 (by decide) (by decide)).1
  have w73 : qI W 73 = qI S 73 := (fSW.2.2.2.2.1 73 (by decide) (by decide)).1
  have w72 : qI W 72 m.toInt.toNat = qI S 0 123 := by rw [ww 72 (by decide) (by decide), eY, qI_wI, if_pos ⟨rfl, rfl⟩, v123]
  have u70 : qI U 70 = qI A 70 := pU.1.2.2.2.1.2
  refine ⟨fSZ, e, n, ⟨e1, by omega, by omega⟩, ⟨?_, ?_⟩, ⟨fun j hj => ?_, fun j hj => ?_, fun q hq => ?_⟩, ⟨fun j hj => ?_, fun j hj => ?_, fun j hj => ?_, fun j hj => ?_⟩, ⟨?_, ?_, ?_, ?_⟩, ?_, ?_, ?_, fun c' hc' => ?_⟩
  · rw [zz 0 (by decide), (fW.2.2.2.2.2 122 (by decide)).1, yy 0 (by decide), (fV.2.2.2.2.2 122 (by decide)).1, (fX.2.2.2.2.2 122 (by decide)).1, t0]
    exact u122
  · rw [zz 0 (by decide)]; exact en
  · rw [z74, hV.2.1 j (fun i q1 q2 _ q3 => ?_), x74]
    · exact pU.1.2.2.2.1.1 j hj
    · obtain ⟨p, p1, p2, _⟩ := pU.2.2.1 i q1 q2
      have : plN X i = B + p := by unfold plN; rw [x92]; omega
      omega
  · rw [z76, w2 j hj, zY 76 (by decide) (by decide)]
  · rw [z75, hV.2.2.2.1 q (fun j q1 q2 q3 => hq j (by omega) q2 q3), zX 75 (by decide) (by decide)]
  · rw [z70, u70, eA, qI_wI, if_neg (fun q => hj q.2)]
  · rw [z71, eX, qI_wI, if_neg (fun q => hj q.2), t71]
  · rw [z72, eY, qI_wI, if_neg (fun q => hj q.2), v72]
  · rw [eZ, qI_wI, if_neg (fun q => hj q.2), w73]
  · rw [z70, u70, eA, qI_wI, if_pos ⟨rfl, rfl⟩]; exact hb
  · rw [z71, eX, qI_wI, if_pos ⟨rfl, rfl⟩]; exact s122
  · rw [z72, eY, qI_wI, if_pos ⟨rfl, rfl⟩, v123]
  · rw [eZ, qI_wI, if_pos ⟨rfl, rfl⟩, w72, t_sub (by omega)]; omega
  · rw [z74, z75]; exact rows
  · rw [z74, wts]
    have q1 := pU.1.2.2.2.2
    have q2 : sumN (wtF S) N = wtN S := by unfold wtN wtF; rw [show (gN S).toNat = N by omega]
    rw [q2] at q1
    omega
  · rw [z74]; exact pm_sw eN pU x74 x92 hV
  · rw [z76]
    exact w3 _ (by omega) (by omega)
